set_option maxRecDepth 100000 in
set_option maxHeartbeats 4000000 in
/-- the law's case 0: X11_feed -/
theorem law_case_0 {p : Program} {l : Launch} {e : Env} {s : State} {m : MethodId} {below : List Frame} {meth : Method} {c : Code} {D : va_G} {cy : Nat → ClassId} {A : Nat → Prop} {b : Nat} {xs : Nat → Int32} (C0 : lw_At p s m meth c b 6 xs) (hA : ∀ q, s.heap.size ≤ q → A q) (hA2 : ∀ q, A q → s.heap.size ≤ q) (hK : myK D cy s) (h0 : Nat) (fs : List Value) (x0 : Nat) (xb : Nat) (xk : Nat) (xv : Nat) (xp : Nat) (xt : Nat) (xw : Nat) (fb : Nat → Int32) (m0 : Nat) (fm : List Value) (ata : Nat) (gta : Nat → Int32) (e_x : fs[1]? = some (.ref x0)) (e_m1 : fm[1]? = some (.ref ata)) (e_m2 : fm[2]? = some (.int 0)) {H : Heap} {locs : List Loc} {ls : Array Slot} (hP : va_P D vwCl [(h0, .inr (11, fs)), (x0, .inr (6, [.int 0, .int 0, .int 0, .int (-1), .int 0, .long 0, .ref xb, .ref xk, .ref xv, .ref xp, .ref xt, .ref xw])), (xb, .inl (cy 2, 2000, .inl fb)), (m0, .inr (12, fm)), (ata, .inl (cy 2, 2000, .inl gta))] H) (hD : va_D A [(h0, .inr (11, fs)), (x0, .inr (6, [.int 0, .int 0, .int 0, .int (-1), .int 0, .long 0, .ref xb, .ref xk, .ref xv, .ref xp, .ref xt, .ref xw])), (xb, .inl (cy 2, 2000, .inl fb)), (m0, .inr (12, fm)), (ata, .inl (cy 2, 2000, .inl gta))]) (hS : va_S A s.heap H locs) (hl : lv_has ls 4 [(0, .ref b), (1, .ref h0), (2, .ref m0), (3, .int 0)]) : W p l e room_1 s m #[Value.ref b] below meth c H locs 189 143992 (lw_Z below #[Value.ref b] s) (F0 m 184 ls []) := by
  obtain ⟨hx, hb, hr, hml, hown, hts0, hX0, hbl, hlocks, hgv⟩ := id C0
  have hts := fun w h => hts0 w (wsL_law_in w h)
  have hown : s.vm.findClass RL = some m.cls := hown
  have hbA : ¬ A b := fun h => absurd hbl (Nat.not_lt.mpr (hA2 b h))
  refine lv_aload_n hx hb dL_law_184 rfl (lv_at hl 1 rfl) ?_
  refine lv_aload_n hx hb dL_law_185 rfl (lv_at hl 0 rfl) ?_
  refine lv_iload_n hx hb dL_law_186 rfl (lv_at hl 3 rfl) ?_
  refine lv_iconst (v := 1) hx hb dL_law_187 (by decide) ?_
  refine lv_iadd hx hb dL_law_188 ?_
  refine tpI (v := 1) (by decide) ?_
  refine va_sld hx hb hX0 hbl hbA hS (vp_in_nI (n := 1) (N := 6) (by decide) (by decide)) dL_law_189 ?_
  refine tpI (v := xs 1) rfl ?_
  refine lv_aload_n hx hb dL_law_190 rfl (lv_at hl 0 rfl) ?_
  refine lv_iload_n hx hb dL_law_191 rfl (lv_at hl 3 rfl) ?_
  refine lv_iconst (v := 2) hx hb dL_law_192 (by decide) ?_
  refine lv_iadd hx hb dL_law_193 ?_
  refine tpI (v := 2) (by decide) ?_
  refine va_sld hx hb hX0 hbl hbA hS (vp_in_nI (n := 2) (N := 6) (by decide) (by decide)) dL_law_194 ?_
  refine tpI (v := xs 2) rfl ?_
  refine lv_aload_n hx hb dL_law_195 rfl (lv_at hl 0 rfl) ?_
  refine lv_iload_n hx hb dL_law_196 rfl (lv_at hl 3 rfl) ?_
  refine lv_iconst (v := 3) hx hb dL_law_197 (by decide) ?_
  refine lv_iadd hx hb dL_law_198 ?_
  refine tpI (v := 3) (by decide) ?_
  refine va_sld hx hb hX0 hbl hbA hS (vp_in_nI (n := 3) (N := 6) (by decide) (by decide)) dL_law_199 ?_
  refine tpI (v := xs 3) rfl ?_
  refine lv_aload_n hx hb dL_law_200 rfl (lv_at hl 0 rfl) ?_
  refine lv_iload_n hx hb dL_law_201 rfl (lv_at hl 3 rfl) ?_
  refine lv_iconst (v := 4) hx hb dL_law_202 (by decide) ?_
  refine lv_iadd hx hb dL_law_203 ?_
  refine tpI (v := 4) (by decide) ?_
  refine va_sld hx hb hX0 hbl hbA hS (vp_in_nI (n := 4) (N := 6) (by decide) (by decide)) dL_law_204 ?_
  refine tpI (v := xs 4) rfl ?_
  refine lv_aload_n hx hb dL_law_205 rfl (lv_at hl 0 rfl) ?_
  refine lv_iload_n hx hb dL_law_206 rfl (lv_at hl 3 rfl) ?_
  refine lv_iconst (v := 5) hx hb dL_law_207 (by decide) ?_
  refine lv_iadd hx hb dL_law_208 ?_
  refine tpI (v := 5) (by decide) ?_
  refine va_sld hx hb hX0 hbl hbA hS (vp_in_nI (n := 5) (N := 6) (by decide) (by decide)) dL_law_209 ?_
  refine tpI (v := xs 5) rfl ?_
  refine cVi (As := [.int (xs 1), .int (xs 2), .int (xs 3), .int (xs 4), .int (xs 5)]) (rest := []) (wr := [(m0, .inr (12, fm)), (ata, .inl (cy 2, 2000, .inl gta))]) ⟨hx, hb, hml, hown, hts⟩ (c_X11_feed l D cy h0 fs x0 xb xk xv xp xt xw fb (xs 1) (xs 2) (xs 3) (xs 4) (xs 5) e_x) (cwV 5 hts gL_law_X11_feed rfl rfl rfl (by decide +kernel) ⟨Nat.le_of_ble_eq_true rfl, Nat.le_of_ble_eq_true rfl⟩) hK hP hD hS hA [0, 1, 2] [3, 4] ⟨rfl, rfl, by decide +kernel, by decide +kernel, by decide +kernel⟩ 0 11 rfl rfl myX_T rfl hl.1 rfl (Nat.le_of_ble_eq_true rfl) dL_law_210 ⟨Nat.le_of_ble_eq_true rfl, Nat.le_of_ble_eq_true rfl⟩ (fun r_1 w_2 H locs hw hP hD hS => ?_)
  obtain ⟨rfl, rfl⟩ := hw
  have hP : va_P D vwCl [(m0, .inr (12, fm)), (ata, .inl (cy 2, 2000, .inl gta))] H := hP
  have hD : va_D A [(m0, .inr (12, fm)), (ata, .inl (cy 2, 2000, .inl gta))] := hD
  refine lv_aload_n hx hb dL_law_213 rfl (lv_at hl 2 rfl) ?_
  refine lv_aload_n hx hb dL_law_214 rfl (lv_at hl 0 rfl) ?_
  refine lv_iload_n hx hb dL_law_215 rfl (lv_at hl 3 rfl) ?_
  refine lv_iconst (v := 1) hx hb dL_law_216 (by decide) ?_
  refine lv_iadd hx hb dL_law_217 ?_
  refine tpI (v := 1) (by decide) ?_
  refine va_sld hx hb hX0 hbl hbA hS (vp_in_nI (n := 1) (N := 6) (by decide) (by decide)) dL_law_218 ?_
  refine tpI (v := xs 1) rfl ?_
  refine lv_aload_n hx hb dL_law_219 rfl (lv_at hl 0 rfl) ?_
  refine lv_iload_n hx hb dL_law_220 rfl (lv_at hl 3 rfl) ?_
  refine lv_iconst (v := 2) hx hb dL_law_221 (by decide) ?_
  refine lv_iadd hx hb dL_law_222 ?_
  refine tpI (v := 2) (by decide) ?_
  refine va_sld hx hb hX0 hbl hbA hS (vp_in_nI (n := 2) (N := 6) (by decide) (by decide)) dL_law_223 ?_
  refine tpI (v := xs 2) rfl ?_
  refine lv_aload_n hx hb dL_law_224 rfl (lv_at hl 0 rfl) ?_
  refine lv_iload_n hx hb dL_law_225 rfl (lv_at hl 3 rfl) ?_
  refine lv_iconst (v := 3) hx hb dL_law_226 (by decide) ?_
  refine lv_iadd hx hb dL_law_227 ?_
  refine tpI (v := 3) (by decide) ?_
  refine va_sld hx hb hX0 hbl hbA hS (vp_in_nI (n := 3) (N := 6) (by decide) (by decide)) dL_law_228 ?_
  refine tpI (v := xs 3) rfl ?_
  refine lv_aload_n hx hb dL_law_229 rfl (lv_at hl 0 rfl) ?_
  refine lv_iload_n hx hb dL_law_230 rfl (lv_at hl 3 rfl) ?_
  refine lv_iconst (v := 4) hx hb dL_law_231 (by decide) ?_
  refine lv_iadd hx hb dL_law_232 ?_
  refine tpI (v := 4) (by decide) ?_
  refine va_sld hx hb hX0 hbl hbA hS (vp_in_nI (n := 4) (N := 6) (by decide) (by decide)) dL_law_233 ?_
  refine tpI (v := xs 4) rfl ?_
  refine lv_aload_n hx hb dL_law_234 rfl (lv_at hl 0 rfl) ?_
  refine lv_iload_n hx hb dL_law_235 rfl (lv_at hl 3 rfl) ?_
  refine lv_iconst (v := 5) hx hb dL_law_236 (by decide) ?_
  refine lv_iadd hx hb dL_law_237 ?_
  refine tpI (v := 5) (by decide) ?_
  refine va_sld hx hb hX0 hbl hbA hS (vp_in_nI (n := 5) (N := 6) (by decide) (by decide)) dL_law_238 ?_
  refine tpI (v := xs 5) rfl ?_
  refine cVi (As := [.int (xs 1), .int (xs 2), .int (xs 3), .int (xs 4), .int (xs 5)]) (rest := [.int 20]) (wr := []) ⟨hx, hb, hml, hown, hts⟩ (c_X12_feed l D cy m0 fm ata gta (xs 1) (xs 2) (xs 3) (xs 4) (xs 5) e_m1 e_m2) (cwV 5 hts gL_law_X12_feed rfl rfl rfl (by decide +kernel) ⟨Nat.le_of_ble_eq_true rfl, Nat.le_of_ble_eq_true rfl⟩) hK hP hD hS hA [0, 1] [] ⟨rfl, rfl, by decide +kernel, by decide +kernel, by decide +kernel⟩ 0 12 rfl rfl myX_T rfl hl.1 rfl (Nat.le_of_ble_eq_true rfl) dL_law_239 ⟨Nat.le_of_ble_eq_true rfl, Nat.le_of_ble_eq_true rfl⟩ (fun r_3 w_4 H locs hw hP hD hS => ?_)
  obtain ⟨rfl, rfl⟩ := hw
  have hP : va_P D vwCl [] H := hP
  have hD : va_D A [] := hD
  refine lv_icmp_eq (tgt := 1343) hx hb dL_law_242 (by decide) (fun _ => ?_) (fun c9 => absurd rfl c9)
  refine lv_iinc (v := 6) (lv' := [(3, .int 6), (0, .ref b), (1, .ref h0), (2, .ref m0)]) hx hb dL_law_1343 hl (k := 3) rfl (by decide) (by decide) rfl (fun ls hl => ?_)
  refine lv_goto (tgt := 18) hx hb dL_law_1346 (by decide) ?_
  refine lv_iload_n hx hb dL_law_18 rfl (lv_at hl 0 rfl) ?_
  refine lv_aload_n hx hb dL_law_19 rfl (lv_at hl 1 rfl) ?_
  refine va_slen hx hb hX0 hbl hbA hS dL_law_20 ?_
  refine tpI (v := 6) rfl ?_
  refine lv_bipush (v := 6) hx hb dL_law_21 (by decide) ?_
  refine lv_isub hx hb dL_law_23 ?_
  refine tpI (v := 0) (by decide) ?_
  refine lv_icmp_gt (tgt := 1349) hx hb dL_law_24 (by decide) (fun _ => ?_) (fun c9 => absurd (by decide) c9)
  refine lv_iconst (v := 1) hx hb dL_law_1349 (by decide) ?_
  refine va_forget (fun q hq => hA2 _ (hS.2.2 q hq)) ?_
  refine W.widen (k := 600000) (n := 7302250) (Nat.le_of_ble_eq_true rfl) (Nat.le_of_ble_eq_true rfl) ?_
  exact lw_ret hx hb hr hlocks dL_law_1350

set_option maxRecDepth 100000 in
set_option maxHeartbeats 4000000 in
/-- the law's case 1: X11_back -/
theorem law_case_1 {p : Program} {l : Launch} {e : Env} {s : State} {m : MethodId} {below : List Frame} {meth : Method} {c : Code} {D : va_G} {cy : Nat → ClassId} {A : Nat → Prop} {b : Nat} {xs : Nat → Int32} (C0 : lw_At p s m meth c b 6 xs) (hA : ∀ q, s.heap.size ≤ q → A q) (hA2 : ∀ q, A q → s.heap.size ≤ q) (hK : myK D cy s) (h0 : Nat) (fs : List Value) (x0 : Nat) (xb : Nat) (xk : Nat) (xv : Nat) (xp : Nat) (xt : Nat) (xw : Nat) (m0 : Nat) (fm : List Value) (e_x : fs[1]? = some (.ref x0)) (e_m2 : fm[2]? = some (.int 0)) {H : Heap} {locs : List Loc} {ls : Array Slot} (hP : va_P D vwCl [(h0, .inr (11, fs)), (x0, .inr (6, [.int 0, .int 0, .int 0, .int (-1), .int 0, .long 0, .ref xb, .ref xk, .ref xv, .ref xp, .ref xt, .ref xw])), (m0, .inr (12, fm))] H) (hD : va_D A [(h0, .inr (11, fs)), (x0, .inr (6, [.int 0, .int 0, .int 0, .int (-1), .int 0, .long 0, .ref xb, .ref xk, .ref xv, .ref xp, .ref xt, .ref xw])), (m0, .inr (12, fm))]) (hS : va_S A s.heap H locs) (hl : lv_has ls 4 [(0, .ref b), (1, .ref h0), (2, .ref m0), (3, .int 0)]) : W p l e room_1 s m #[Value.ref b] below meth c H locs 189 143992 (lw_Z below #[Value.ref b] s) (F0 m 247 ls []) := by
  obtain ⟨hx, hb, hr, hml, hown, hts0, hX0, hbl, hlocks, hgv⟩ := id C0
  have hts := fun w h => hts0 w (wsL_law_in w h)
  have hown : s.vm.findClass RL = some m.cls := hown
  have hbA : ¬ A b := fun h => absurd hbl (Nat.not_lt.mpr (hA2 b h))
  refine lv_aload_n hx hb dL_law_247 rfl (lv_at hl 1 rfl) ?_
  refine lv_aload_n hx hb dL_law_248 rfl (lv_at hl 0 rfl) ?_
  refine lv_iload_n hx hb dL_law_249 rfl (lv_at hl 3 rfl) ?_
  refine lv_iconst (v := 1) hx hb dL_law_250 (by decide) ?_
  refine lv_iadd hx hb dL_law_251 ?_
  refine tpI (v := 1) (by decide) ?_
  refine va_sld hx hb hX0 hbl hbA hS (vp_in_nI (n := 1) (N := 6) (by decide) (by decide)) dL_law_252 ?_
  refine tpI (v := xs 1) rfl ?_
  refine cVi (As := [.int (xs 1)]) (rest := []) (wr := [(m0, .inr (12, fm))]) ⟨hx, hb, hml, hown, hts⟩ (c_X11_back l D cy h0 fs x0 xb xk xv xp xt xw (xs 1) e_x) (cwV 1 hts gL_law_X11_back rfl rfl rfl (by decide +kernel) ⟨Nat.le_of_ble_eq_true rfl, Nat.le_of_ble_eq_true rfl⟩) hK hP hD hS hA [0, 1] [2] ⟨rfl, rfl, by decide +kernel, by decide +kernel, by decide +kernel⟩ 0 11 rfl rfl myX_T rfl hl.1 rfl (Nat.le_of_ble_eq_true rfl) dL_law_253 ⟨Nat.le_of_ble_eq_true rfl, Nat.le_of_ble_eq_true rfl⟩ (fun r_1 w_2 H locs hw hP hD hS => ?_)
  obtain ⟨rfl, rfl⟩ := hw
  have hP : va_P D vwCl [(m0, .inr (12, fm))] H := hP
  have hD : va_D A [(m0, .inr (12, fm))] := hD
  refine lv_aload_n hx hb dL_law_256 rfl (lv_at hl 2 rfl) ?_
  refine lv_aload_n hx hb dL_law_257 rfl (lv_at hl 0 rfl) ?_
  refine lv_iload_n hx hb dL_law_258 rfl (lv_at hl 3 rfl) ?_
  refine lv_iconst (v := 1) hx hb dL_law_259 (by decide) ?_
  refine lv_iadd hx hb dL_law_260 ?_
  refine tpI (v := 1) (by decide) ?_
  refine va_sld hx hb hX0 hbl hbA hS (vp_in_nI (n := 1) (N := 6) (by decide) (by decide)) dL_law_261 ?_
  refine tpI (v := xs 1) rfl ?_
  refine cVi (As := [.int (xs 1)]) (rest := [.int (backV (xs 1))]) (wr := []) ⟨hx, hb, hml, hown, hts⟩ (c_X12_back l D cy m0 fm (xs 1) e_m2) (cwV 1 hts gL_law_X12_back rfl rfl rfl (by decide +kernel) ⟨Nat.le_of_ble_eq_true rfl, Nat.le_of_ble_eq_true rfl⟩) hK hP hD hS hA [0] [] ⟨rfl, rfl, by decide +kernel, by decide +kernel, by decide +kernel⟩ 0 12 rfl rfl myX_T rfl hl.1 rfl (Nat.le_of_ble_eq_true rfl) dL_law_262 ⟨Nat.le_of_ble_eq_true rfl, Nat.le_of_ble_eq_true rfl⟩ (fun r_3 w_4 H locs hw hP hD hS => ?_)
  obtain ⟨rfl, rfl⟩ := hw
  have hP : va_P D vwCl [] H := hP
  have hD : va_D A [] := hD
  refine lv_icmp_eq (tgt := 1343) hx hb dL_law_265 (by decide) (fun _ => ?_) (fun c9 => absurd rfl c9)
  refine lv_iinc (v := 6) (lv' := [(3, .int 6), (0, .ref b), (1, .ref h0), (2, .ref m0)]) hx hb dL_law_1343 hl (k := 3) rfl (by decide) (by decide) rfl (fun ls hl => ?_)
  refine lv_goto (tgt := 18) hx hb dL_law_1346 (by decide) ?_
  refine lv_iload_n hx hb dL_law_18 rfl (lv_at hl 0 rfl) ?_
  refine lv_aload_n hx hb dL_law_19 rfl (lv_at hl 1 rfl) ?_
  refine va_slen hx hb hX0 hbl hbA hS dL_law_20 ?_
  refine tpI (v := 6) rfl ?_
  refine lv_bipush (v := 6) hx hb dL_law_21 (by decide) ?_
  refine lv_isub hx hb dL_law_23 ?_
  refine tpI (v := 0) (by decide) ?_
  refine lv_icmp_gt (tgt := 1349) hx hb dL_law_24 (by decide) (fun _ => ?_) (fun c9 => absurd (by decide) c9)
  refine lv_iconst (v := 1) hx hb dL_law_1349 (by decide) ?_
  refine va_forget (fun q hq => hA2 _ (hS.2.2 q hq)) ?_
  refine W.widen (k := 600000) (n := 7302250) (Nat.le_of_ble_eq_true rfl) (Nat.le_of_ble_eq_true rfl) ?_
  exact lw_ret hx hb hr hlocks dL_law_1350

set_option maxRecDepth 100000 in
set_option maxHeartbeats 4000000 in
/-- the law's case 2: X11_read -/
theorem law_case_2 {p : Program} {l : Launch} {e : Env} {s : State} {m : MethodId} {below : List Frame} {meth : Method} {c : Code} {D : va_G} {cy : Nat → ClassId} {A : Nat → Prop} {b : Nat} {xs : Nat → Int32} (C0 : lw_At p s m meth c b 6 xs) (hA : ∀ q, s.heap.size ≤ q → A q) (hA2 : ∀ q, A q → s.heap.size ≤ q) (hK : myK D cy s) (h0 : Nat) (l0 : Nat) (x0 : Nat) (n0 : Nat) (z0 : Nat) (k0 : Nat) (y0 : Nat) (q6 : Nat) (q7 : Nat) (c0 : Nat) (v0 : Nat) (t0 : Nat) (t1 : Nat) (tb : Nat) (tc : Nat) (td : Nat) (te : Nat) (tf : Nat) (tmi : Nat) (tse : Nat) (tta : Nat) (tho : Nat) (tha : Nat) (tcm : Nat) (tch : Nat) (n0a : Nat) (n0b : Nat) (n0c : Nat) (n0d : Nat) (n0e : Nat) (fta : Nat → Int32) (fho : Nat → Int32) (fha : Nat → Int32) (fn0 : Nat → Int32) (fn1 : Nat → Int32) (fn2 : Nat → Int32) (fn3 : Nat → Int32) (fn4 : Nat → Int32) (fk : List Value) (fv : List Value) (fw : List Value) (fz : Nat → Option Nat) (s0 : Nat) (s1 : Nat) (s2 : Nat) (fs0 : List Value) (fs1 : List Value) (fs2 : List Value) (xb : Nat) (xk : Nat) (xv : Nat) (xp : Nat) (xt : Nat) (xw : Nat) (fto : Nat → Int32) (fmi : Nat → Int32) (fse : Nat → Int32) (m0 : Nat) (fm : List Value) (ak : Nat) (ap : Nat) (av : Nat) (an : Nat) (gk : Nat → Int32) (gp : Nat → Int32) (gv : Nat → Int32) (gn : Nat → Int64) (aso : Nat) (aho : Nat) (ado : Nat) (ame : Nat) (ala : Nat) (aca : Nat) (awo : Nat) (aha : Nat) (ase : Nat) (ami : Nat) (ano : Nat) (ahe : Nat) (gso : Nat → Int32) (gho : Nat → Int32) (gdo : Nat → Int32) (gme : Nat → Int32) (gla : Nat → Int32) (gca : Nat → Int32) (gwo : Nat → Int32) (gha : Nat → Int32) (gse : Nat → Int32) (gmi : Nat → Int32) (gno : Nat → Int32) (ghe : Nat → Int32) (e_k0 : fk[0]? = some (.int 0)) (e_v0 : fv[0]? = some (.int 0)) (e_y : fw[9]? = some (.int 0)) (hz0 : fz 0 = some s0) (hz1 : fz 1 = some s1) (hz2 : fz 2 = some s2) (e_s0 : fs0[0]? = some (.int 0)) (e_s1 : fs1[0]? = some (.int 0)) (e_s2 : fs2[0]? = some (.int 0)) (e_m2 : fm[2]? = some (.int 0)) (e_m4 : fm[4]? = some (.int 0)) (e_m10 : fm[10]? = some (.int 0)) (e_m11 : fm[11]? = some (.int 0)) (e_m12 : fm[12]? = some (.int 0)) (e_m13 : fm[13]? = some (.int 0)) (e_m15 : fm[15]? = some (.int 0)) (e_m17 : fm[17]? = some (.int (-1))) (e_m18 : fm[18]? = some (.int 0)) (e_m19 : fm[19]? = some (.int 0)) (e_m20 : fm[20]? = some (.int 0)) (e_m40 : fm[40]? = some (.int 0)) (e_m73 : fm[73]? = some (.int 0)) (e_m5 : fm[5]? = some (.ref ak)) (e_m6 : fm[6]? = some (.ref ap)) (e_m7 : fm[7]? = some (.ref av)) (e_m8 : fm[8]? = some (.ref an)) (e_m24 : fm[24]? = some (.ref aso)) (e_m26 : fm[26]? = some (.ref aho)) (e_m30 : fm[30]? = some (.ref ado)) (e_m32 : fm[32]? = some (.ref ame)) (e_m35 : fm[35]? = some (.ref ala)) (e_m36 : fm[36]? = some (.ref aca)) (e_m27 : fm[27]? = some (.ref awo)) (e_m28 : fm[28]? = some (.ref aha)) (e_m29 : fm[29]? = some (.ref ase)) (e_m31 : fm[31]? = some (.ref ami)) (e_m39 : fm[39]? = some (.ref ano)) (e_m88 : fm[88]? = some (.ref ahe)) (z_k : ∀ j : Nat, j < 403 → gk j = 0) (z_aso : ∀ j : Nat, j < 2 → gso j = 0) (z_aho : ∀ j : Nat, j < 2 → gho j = 0) (z_ado : ∀ j : Nat, j < 2 → gdo j = 0) (z_ame : ∀ j : Nat, j < 2 → gme j = 0) (z_ala : ∀ j : Nat, j < 2 → gla j = 0) (z_aca : ∀ j : Nat, j < 2 → gca j = 0) {H : Heap} {locs : List Loc} {ls : Array Slot} (hP : va_P D vwCl [(h0, .inr (11, [.ref l0, .ref x0, .ref n0, .ref z0, .ref k0, .ref y0, .ref q6, .ref q7, .ref c0, .ref v0, .ref t0])), (x0, .inr (6, [.int 0, .int 0, .int 0, .int (-1), .int 0, .long 0, .ref xb, .ref xk, .ref xv, .ref xp, .ref xt, .ref xw])), (xt, .inl (cy 0, 9, .inl fto)), (l0, .inr (5, [.ref x0, .ref t1, .int 0])), (t1, .inr (7, [.int 0, .int 0, .int 0, .int 0, .int 0, .int 0, .ref tb, .ref tc, .ref td, .ref te, .ref tf, .ref tmi, .ref tse, .ref tta, .ref tho, .ref tha, .ref tcm, .ref tch])), (tmi, .inl (cy 0, 100, .inl fmi)), (tse, .inl (cy 0, 10, .inl fse)), (tta, .inl (cy 0, 50, .inl fta)), (tho, .inl (cy 0, 6, .inl fho)), (tha, .inl (cy 0, 6, .inl fha)), (n0, .inr (4, [.int 0, .int 0, .ref n0a, .ref n0b, .ref n0c, .ref n0d, .ref n0e])), (n0a, .inl (cy 0, 6, .inl fn0)), (n0b, .inl (cy 0, 6, .inl fn1)), (n0c, .inl (cy 0, 6, .inl fn2)), (n0d, .inl (cy 0, 6, .inl fn3)), (n0e, .inl (cy 0, 50, .inl fn4)), (k0, .inr (8, fk)), (v0, .inr (9, fv)), (y0, .inr (10, fw)), (z0, .inl (cy 4, 3, .inr (.inr (.inr (.inr fz))))), (s0, .inr (4, fs0)), (s1, .inr (4, fs1)), (s2, .inr (4, fs2)), (m0, .inr (12, fm)), (ak, .inl (cy 0, 403, .inl gk)), (ap, .inl (cy 0, 403, .inl gp)), (av, .inl (cy 0, 403, .inl gv)), (an, .inl (cy 1, 403, .inr (.inl gn))), (aso, .inl (cy 0, 2, .inl gso)), (aho, .inl (cy 0, 2, .inl gho)), (ado, .inl (cy 0, 2, .inl gdo)), (ame, .inl (cy 0, 2, .inl gme)), (ala, .inl (cy 0, 2, .inl gla)), (aca, .inl (cy 0, 2, .inl gca)), (awo, .inl (cy 0, 100, .inl gwo)), (aha, .inl (cy 0, 100, .inl gha)), (ase, .inl (cy 3, 100, .inl gse)), (ami, .inl (cy 0, 200, .inl gmi)), (ano, .inl (cy 0, 80, .inl gno)), (ahe, .inl (cy 3, 3, .inl ghe))] H) (hD : va_D A [(h0, .inr (11, [.ref l0, .ref x0, .ref n0, .ref z0, .ref k0, .ref y0, .ref q6, .ref q7, .ref c0, .ref v0, .ref t0])), (x0, .inr (6, [.int 0, .int 0, .int 0, .int (-1), .int 0, .long 0, .ref xb, .ref xk, .ref xv, .ref xp, .ref xt, .ref xw])), (xt, .inl (cy 0, 9, .inl fto)), (l0, .inr (5, [.ref x0, .ref t1, .int 0])), (t1, .inr (7, [.int 0, .int 0, .int 0, .int 0, .int 0, .int 0, .ref tb, .ref tc, .ref td, .ref te, .ref tf, .ref tmi, .ref tse, .ref tta, .ref tho, .ref tha, .ref tcm, .ref tch])), (tmi, .inl (cy 0, 100, .inl fmi)), (tse, .inl (cy 0, 10, .inl fse)), (tta, .inl (cy 0, 50, .inl fta)), (tho, .inl (cy 0, 6, .inl fho)), (tha, .inl (cy 0, 6, .inl fha)), (n0, .inr (4, [.int 0, .int 0, .ref n0a, .ref n0b, .ref n0c, .ref n0d, .ref n0e])), (n0a, .inl (cy 0, 6, .inl fn0)), (n0b, .inl (cy 0, 6, .inl fn1)), (n0c, .inl (cy 0, 6, .inl fn2)), (n0d, .inl (cy 0, 6, .inl fn3)), (n0e, .inl (cy 0, 50, .inl fn4)), (k0, .inr (8, fk)), (v0, .inr (9, fv)), (y0, .inr (10, fw)), (z0, .inl (cy 4, 3, .inr (.inr (.inr (.inr fz))))), (s0, .inr (4, fs0)), (s1, .inr (4, fs1)), (s2, .inr (4, fs2)), (m0, .inr (12, fm)), (ak, .inl (cy 0, 403, .inl gk)), (ap, .inl (cy 0, 403, .inl gp)), (av, .inl (cy 0, 403, .inl gv)), (an, .inl (cy 1, 403, .inr (.inl gn))), (aso, .inl (cy 0, 2, .inl gso)), (aho, .inl (cy 0, 2, .inl gho)), (ado, .inl (cy 0, 2, .inl gdo)), (ame, .inl (cy 0, 2, .inl gme)), (ala, .inl (cy 0, 2, .inl gla)), (aca, .inl (cy 0, 2, .inl gca)), (awo, .inl (cy 0, 100, .inl gwo)), (aha, .inl (cy 0, 100, .inl gha)), (ase, .inl (cy 3, 100, .inl gse)), (ami, .inl (cy 0, 200, .inl gmi)), (ano, .inl (cy 0, 80, .inl gno)), (ahe, .inl (cy 3, 3, .inl ghe))]) (hS : va_S A s.heap H locs) (hl : lv_has ls 4 [(0, .ref b), (1, .ref h0), (2, .ref m0), (3, .int 0)]) : W p l e room_1 s m #[Value.ref b] below meth c H locs 189 143992 (lw_Z below #[Value.ref b] s) (F0 m 270 ls []) := by
  obtain ⟨hx, hb, hr, hml, hown, hts0, hX0, hbl, hlocks, hgv⟩ := id C0
  have hts := fun w h => hts0 w (wsL_law_in w h)
  have hown : s.vm.findClass RL = some m.cls := hown
  have hbA : ¬ A b := fun h => absurd hbl (Nat.not_lt.mpr (hA2 b h))
  refine lv_aload_n hx hb dL_law_270 rfl (lv_at hl 1 rfl) ?_
  refine cVi (As := []) (rest := []) (wr := [(m0, .inr (12, fm)), (ak, .inl (cy 0, 403, .inl gk)), (ap, .inl (cy 0, 403, .inl gp)), (av, .inl (cy 0, 403, .inl gv)), (an, .inl (cy 1, 403, .inr (.inl gn))), (aso, .inl (cy 0, 2, .inl gso)), (aho, .inl (cy 0, 2, .inl gho)), (ado, .inl (cy 0, 2, .inl gdo)), (ame, .inl (cy 0, 2, .inl gme)), (ala, .inl (cy 0, 2, .inl gla)), (aca, .inl (cy 0, 2, .inl gca)), (awo, .inl (cy 0, 100, .inl gwo)), (aha, .inl (cy 0, 100, .inl gha)), (ase, .inl (cy 3, 100, .inl gse)), (ami, .inl (cy 0, 200, .inl gmi)), (ano, .inl (cy 0, 80, .inl gno)), (ahe, .inl (cy 3, 3, .inl ghe))]) ⟨hx, hb, hml, hown, hts⟩ (c_X11_read l D cy h0 l0 x0 n0 z0 k0 y0 q6 q7 c0 v0 t0 t1 tb tc td te tf tmi tse tta tho tha tcm tch n0a n0b n0c n0d n0e fta fho fha fn0 fn1 fn2 fn3 fn4 fk fv fw fz s0 s1 s2 fs0 fs1 fs2 xb xk xv xp xt xw fto fmi fse e_k0 e_v0 e_y hz0 hz1 hz2 e_s0 e_s1 e_s2) (cwV 0 hts gL_law_X11_read rfl rfl rfl (by decide +kernel) ⟨Nat.le_of_ble_eq_true rfl, Nat.le_of_ble_eq_true rfl⟩) hK hP hD hS hA [0, 1, 2, 3, 4, 5, 6, 7, 8, 9, 10, 11, 12, 13, 14, 15, 16, 17, 18, 19, 20, 21, 22] [23, 24, 25, 26, 27, 28, 29, 30, 31, 32, 33, 34, 35, 36, 37, 38, 39] ⟨rfl, rfl, by decide +kernel, by decide +kernel, by decide +kernel⟩ 0 11 rfl rfl myX_T rfl hl.1 rfl (Nat.le_of_ble_eq_true rfl) dL_law_271 ⟨Nat.le_of_ble_eq_true rfl, Nat.le_of_ble_eq_true rfl⟩ (fun r_1 w_2 H locs hw hP hD hS => ?_)
  obtain ⟨rfl, rfl⟩ := hw
  have hP : va_P D vwCl [(m0, .inr (12, fm)), (ak, .inl (cy 0, 403, .inl gk)), (ap, .inl (cy 0, 403, .inl gp)), (av, .inl (cy 0, 403, .inl gv)), (an, .inl (cy 1, 403, .inr (.inl gn))), (aso, .inl (cy 0, 2, .inl gso)), (aho, .inl (cy 0, 2, .inl gho)), (ado, .inl (cy 0, 2, .inl gdo)), (ame, .inl (cy 0, 2, .inl gme)), (ala, .inl (cy 0, 2, .inl gla)), (aca, .inl (cy 0, 2, .inl gca)), (awo, .inl (cy 0, 100, .inl gwo)), (aha, .inl (cy 0, 100, .inl gha)), (ase, .inl (cy 3, 100, .inl gse)), (ami, .inl (cy 0, 200, .inl gmi)), (ano, .inl (cy 0, 80, .inl gno)), (ahe, .inl (cy 3, 3, .inl ghe))] H := hP
  have hD : va_D A [(m0, .inr (12, fm)), (ak, .inl (cy 0, 403, .inl gk)), (ap, .inl (cy 0, 403, .inl gp)), (av, .inl (cy 0, 403, .inl gv)), (an, .inl (cy 1, 403, .inr (.inl gn))), (aso, .inl (cy 0, 2, .inl gso)), (aho, .inl (cy 0, 2, .inl gho)), (ado, .inl (cy 0, 2, .inl gdo)), (ame, .inl (cy 0, 2, .inl gme)), (ala, .inl (cy 0, 2, .inl gla)), (aca, .inl (cy 0, 2, .inl gca)), (awo, .inl (cy 0, 100, .inl gwo)), (aha, .inl (cy 0, 100, .inl gha)), (ase, .inl (cy 3, 100, .inl gse)), (ami, .inl (cy 0, 200, .inl gmi)), (ano, .inl (cy 0, 80, .inl gno)), (ahe, .inl (cy 3, 3, .inl ghe))] := hD
  refine lv_aload_n hx hb dL_law_274 rfl (lv_at hl 2 rfl) ?_
  refine cVi (As := []) (rest := [.int 0]) (wr := []) ⟨hx, hb, hml, hown, hts⟩ (c_X12_read l D cy m0 fm ak ap av an gk gp gv gn aso aho ado ame ala aca awo aha ase ami ano ahe gso gho gdo gme gla gca gwo gha gse gmi gno ghe e_m2 e_m4 e_m10 e_m11 e_m12 e_m13 e_m15 e_m17 e_m18 e_m19 e_m20 e_m40 e_m73 e_m5 e_m6 e_m7 e_m8 e_m24 e_m26 e_m30 e_m32 e_m35 e_m36 e_m27 e_m28 e_m29 e_m31 e_m39 e_m88 z_k z_aso z_aho z_ado z_ame z_ala z_aca) (cwV 0 hts gL_law_X12_read rfl rfl rfl (by decide +kernel) ⟨Nat.le_of_ble_eq_true rfl, Nat.le_of_ble_eq_true rfl⟩) hK hP hD hS hA [0, 1, 2, 3, 4, 5, 6, 7, 8, 9, 10, 11, 12, 13, 14, 15, 16] [] ⟨rfl, rfl, by decide +kernel, by decide +kernel, by decide +kernel⟩ 0 12 rfl rfl myX_T rfl hl.1 rfl (Nat.le_of_ble_eq_true rfl) dL_law_275 ⟨Nat.le_of_ble_eq_true rfl, Nat.le_of_ble_eq_true rfl⟩ (fun r_3 w_4 H locs hw hP hD hS => ?_)
  obtain ⟨rfl, rfl⟩ := hw
  have hP : va_P D vwCl [] H := hP
  have hD : va_D A [] := hD
  refine lv_icmp_eq (tgt := 1343) hx hb dL_law_278 (by decide) (fun _ => ?_) (fun c9 => absurd rfl c9)
  refine lv_iinc (v := 6) (lv' := [(3, .int 6), (0, .ref b), (1, .ref h0), (2, .ref m0)]) hx hb dL_law_1343 hl (k := 3) rfl (by decide) (by decide) rfl (fun ls hl => ?_)
  refine lv_goto (tgt := 18) hx hb dL_law_1346 (by decide) ?_
  refine lv_iload_n hx hb dL_law_18 rfl (lv_at hl 0 rfl) ?_
  refine lv_aload_n hx hb dL_law_19 rfl (lv_at hl 1 rfl) ?_
  refine va_slen hx hb hX0 hbl hbA hS dL_law_20 ?_
  refine tpI (v := 6) rfl ?_
  refine lv_bipush (v := 6) hx hb dL_law_21 (by decide) ?_
  refine lv_isub hx hb dL_law_23 ?_
  refine tpI (v := 0) (by decide) ?_
  refine lv_icmp_gt (tgt := 1349) hx hb dL_law_24 (by decide) (fun _ => ?_) (fun c9 => absurd (by decide) c9)
  refine lv_iconst (v := 1) hx hb dL_law_1349 (by decide) ?_
  refine va_forget (fun q hq => hA2 _ (hS.2.2 q hq)) ?_
  refine W.widen (k := 600000) (n := 7302250) (Nat.le_of_ble_eq_true rfl) (Nat.le_of_ble_eq_true rfl) ?_
  exact lw_ret hx hb hr hlocks dL_law_1350

set_option maxRecDepth 100000 in
set_option maxHeartbeats 4000000 in
/-- the law's case 3: X11_place -/
theorem law_case_3 {p : Program} {l : Launch} {e : Env} {s : State} {m : MethodId} {below : List Frame} {meth : Method} {c : Code} {D : va_G} {cy : Nat → ClassId} {A : Nat → Prop} {b : Nat} {xs : Nat → Int32} (C0 : lw_At p s m meth c b 6 xs) (hA : ∀ q, s.heap.size ≤ q → A q) (hA2 : ∀ q, A q → s.heap.size ≤ q) (hK : myK D cy s) (h0 : Nat) (fs : List Value) (x0 : Nat) (xb : Nat) (xk : Nat) (xv : Nat) (xp : Nat) (xt : Nat) (xw : Nat) (m0 : Nat) (fm : List Value) (e_x : fs[1]? = some (.ref x0)) (e_m17 : fm[17]? = some (.int (-1))) {H : Heap} {locs : List Loc} {ls : Array Slot} (hP : va_P D vwCl [(h0, .inr (11, fs)), (x0, .inr (6, [.int 0, .int 0, .int 0, .int (-1), .int 0, .long 0, .ref xb, .ref xk, .ref xv, .ref xp, .ref xt, .ref xw])), (m0, .inr (12, fm))] H) (hD : va_D A [(h0, .inr (11, fs)), (x0, .inr (6, [.int 0, .int 0, .int 0, .int (-1), .int 0, .long 0, .ref xb, .ref xk, .ref xv, .ref xp, .ref xt, .ref xw])), (m0, .inr (12, fm))]) (hS : va_S A s.heap H locs) (hl : lv_has ls 4 [(0, .ref b), (1, .ref h0), (2, .ref m0), (3, .int 0)]) : W p l e room_1 s m #[Value.ref b] below meth c H locs 189 143992 (lw_Z below #[Value.ref b] s) (F0 m 283 ls []) := by
  obtain ⟨hx, hb, hr, hml, hown, hts0, hX0, hbl, hlocks, hgv⟩ := id C0
  have hts := fun w h => hts0 w (wsL_law_in w h)
  have hown : s.vm.findClass RL = some m.cls := hown
  have hbA : ¬ A b := fun h => absurd hbl (Nat.not_lt.mpr (hA2 b h))
  refine lv_aload_n hx hb dL_law_283 rfl (lv_at hl 1 rfl) ?_
  refine cVi (As := []) (rest := []) (wr := [(m0, .inr (12, fm))]) ⟨hx, hb, hml, hown, hts⟩ (c_X11_place l D cy h0 fs x0 xb xk xv xp xt xw e_x) (cwV 0 hts gL_law_X11_place rfl rfl rfl (by decide +kernel) ⟨Nat.le_of_ble_eq_true rfl, Nat.le_of_ble_eq_true rfl⟩) hK hP hD hS hA [0, 1] [2] ⟨rfl, rfl, by decide +kernel, by decide +kernel, by decide +kernel⟩ 0 11 rfl rfl myX_T rfl hl.1 rfl (Nat.le_of_ble_eq_true rfl) dL_law_284 ⟨Nat.le_of_ble_eq_true rfl, Nat.le_of_ble_eq_true rfl⟩ (fun r_1 w_2 H locs hw hP hD hS => ?_)
  obtain ⟨rfl, rfl⟩ := hw
  have hP : va_P D vwCl [(m0, .inr (12, fm))] H := hP
  have hD : va_D A [(m0, .inr (12, fm))] := hD
  refine lv_aload_n hx hb dL_law_287 rfl (lv_at hl 2 rfl) ?_
  refine cVi (As := []) (rest := [.int (-1)]) (wr := []) ⟨hx, hb, hml, hown, hts⟩ (c_X12_place l D cy m0 fm e_m17) (cwV 0 hts gL_law_X12_place rfl rfl rfl (by decide +kernel) ⟨Nat.le_of_ble_eq_true rfl, Nat.le_of_ble_eq_true rfl⟩) hK hP hD hS hA [0] [] ⟨rfl, rfl, by decide +kernel, by decide +kernel, by decide +kernel⟩ 0 12 rfl rfl myX_T rfl hl.1 rfl (Nat.le_of_ble_eq_true rfl) dL_law_288 ⟨Nat.le_of_ble_eq_true rfl, Nat.le_of_ble_eq_true rfl⟩ (fun r_3 w_4 H locs hw hP hD hS => ?_)
  obtain ⟨rfl, rfl⟩ := hw
  have hP : va_P D vwCl [] H := hP
  have hD : va_D A [] := hD
  refine lv_icmp_eq (tgt := 1343) hx hb dL_law_291 (by decide) (fun _ => ?_) (fun c9 => absurd rfl c9)
  refine lv_iinc (v := 6) (lv' := [(3, .int 6), (0, .ref b), (1, .ref h0), (2, .ref m0)]) hx hb dL_law_1343 hl (k := 3) rfl (by decide) (by decide) rfl (fun ls hl => ?_)
  refine lv_goto (tgt := 18) hx hb dL_law_1346 (by decide) ?_
  refine lv_iload_n hx hb dL_law_18 rfl (lv_at hl 0 rfl) ?_
  refine lv_aload_n hx hb dL_law_19 rfl (lv_at hl 1 rfl) ?_
  refine va_slen hx hb hX0 hbl hbA hS dL_law_20 ?_
  refine tpI (v := 6) rfl ?_
  refine lv_bipush (v := 6) hx hb dL_law_21 (by decide) ?_
  refine lv_isub hx hb dL_law_23 ?_
  refine tpI (v := 0) (by decide) ?_
  refine lv_icmp_gt (tgt := 1349) hx hb dL_law_24 (by decide) (fun _ => ?_) (fun c9 => absurd (by decide) c9)
  refine lv_iconst (v := 1) hx hb dL_law_1349 (by decide) ?_
  refine va_forget (fun q hq => hA2 _ (hS.2.2 q hq)) ?_
  refine W.widen (k := 600000) (n := 7302250) (Nat.le_of_ble_eq_true rfl) (Nat.le_of_ble_eq_true rfl) ?_
  exact lw_ret hx hb hr hlocks dL_law_1350

set_option maxRecDepth 100000 in
set_option maxHeartbeats 4000000 in
/-- the law's case 4: X11_door -/
theorem law_case_4 {p : Program} {l : Launch} {e : Env} {s : State} {m : MethodId} {below : List Frame} {meth : Method} {c : Code} {D : va_G} {cy : Nat → ClassId} {A : Nat → Prop} {b : Nat} {xs : Nat → Int32} (C0 : lw_At p s m meth c b 6 xs) (hA : ∀ q, s.heap.size ≤ q → A q) (hA2 : ∀ q, A q → s.heap.size ≤ q) (hK : myK D cy s) (h0 : Nat) (fs : List Value) (t0 : Nat) (ft : List Value) (m0 : Nat) (fm : List Value) (aho : Nat) (gho : Nat → Int32) (e2 : fs[10]? = some (.ref t0)) (e_isHouse : ft[1]? = some (.int 0)) (e_live : fm[18]? = some (.int 0)) (e_aho : fm[26]? = some (.ref aho)) (z_aho : ∀ j : Nat, j < 2 → gho j = 0) {H : Heap} {locs : List Loc} {ls : Array Slot} (hP : va_P D vwCl [(h0, .inr (11, fs)), (t0, .inr (7, ft)), (m0, .inr (12, fm)), (aho, .inl (cy 0, 2, .inl gho))] H) (hD : va_D A [(h0, .inr (11, fs)), (t0, .inr (7, ft)), (m0, .inr (12, fm)), (aho, .inl (cy 0, 2, .inl gho))]) (hS : va_S A s.heap H locs) (hl : lv_has ls 4 [(0, .ref b), (1, .ref h0), (2, .ref m0), (3, .int 0)]) : W p l e room_1 s m #[Value.ref b] below meth c H locs 189 143992 (lw_Z below #[Value.ref b] s) (F0 m 296 ls []) := by
  obtain ⟨hx, hb, hr, hml, hown, hts0, hX0, hbl, hlocks, hgv⟩ := id C0
  have hts := fun w h => hts0 w (wsL_law_in w h)
  have hown : s.vm.findClass RL = some m.cls := hown
  have hbA : ¬ A b := fun h => absurd hbl (Nat.not_lt.mpr (hA2 b h))
  refine lv_aload_n hx hb dL_law_296 rfl (lv_at hl 1 rfl) ?_
  refine lv_aload_n hx hb dL_law_297 rfl (lv_at hl 0 rfl) ?_
  refine lv_iload_n hx hb dL_law_298 rfl (lv_at hl 3 rfl) ?_
  refine lv_iconst (v := 1) hx hb dL_law_299 (by decide) ?_
  refine lv_iadd hx hb dL_law_300 ?_
  refine tpI (v := 1) (by decide) ?_
  refine va_sld hx hb hX0 hbl hbA hS (vp_in_nI (n := 1) (N := 6) (by decide) (by decide)) dL_law_301 ?_
  refine tpI (v := xs 1) rfl ?_
  refine lv_aload_n hx hb dL_law_302 rfl (lv_at hl 0 rfl) ?_
  refine lv_iload_n hx hb dL_law_303 rfl (lv_at hl 3 rfl) ?_
  refine lv_iconst (v := 2) hx hb dL_law_304 (by decide) ?_
  refine lv_iadd hx hb dL_law_305 ?_
  refine tpI (v := 2) (by decide) ?_
  refine va_sld hx hb hX0 hbl hbA hS (vp_in_nI (n := 2) (N := 6) (by decide) (by decide)) dL_law_306 ?_
  refine tpI (v := xs 2) rfl ?_
  refine cVi (As := [.int (xs 1), .int (xs 2)]) (rest := []) (wr := [(m0, .inr (12, fm)), (aho, .inl (cy 0, 2, .inl gho))]) ⟨hx, hb, hml, hown, hts⟩ (c_X11_door l D cy h0 fs t0 ft (xs 1) (xs 2) e2 e_isHouse) (cwV 2 hts gL_law_X11_door rfl rfl rfl (by decide +kernel) ⟨Nat.le_of_ble_eq_true rfl, Nat.le_of_ble_eq_true rfl⟩) hK hP hD hS hA [0, 1] [2, 3] ⟨rfl, rfl, by decide +kernel, by decide +kernel, by decide +kernel⟩ 0 11 rfl rfl myX_T rfl hl.1 rfl (Nat.le_of_ble_eq_true rfl) dL_law_307 ⟨Nat.le_of_ble_eq_true rfl, Nat.le_of_ble_eq_true rfl⟩ (fun r_1 w_2 H locs hw hP hD hS => ?_)
  obtain ⟨rfl, rfl⟩ := hw
  have hP : va_P D vwCl [(m0, .inr (12, fm)), (aho, .inl (cy 0, 2, .inl gho))] H := hP
  have hD : va_D A [(m0, .inr (12, fm)), (aho, .inl (cy 0, 2, .inl gho))] := hD
  refine lv_aload_n hx hb dL_law_310 rfl (lv_at hl 2 rfl) ?_
  refine lv_aload_n hx hb dL_law_311 rfl (lv_at hl 0 rfl) ?_
  refine lv_iload_n hx hb dL_law_312 rfl (lv_at hl 3 rfl) ?_
  refine lv_iconst (v := 1) hx hb dL_law_313 (by decide) ?_
  refine lv_iadd hx hb dL_law_314 ?_
  refine tpI (v := 1) (by decide) ?_
  refine va_sld hx hb hX0 hbl hbA hS (vp_in_nI (n := 1) (N := 6) (by decide) (by decide)) dL_law_315 ?_
  refine tpI (v := xs 1) rfl ?_
  refine lv_aload_n hx hb dL_law_316 rfl (lv_at hl 0 rfl) ?_
  refine lv_iload_n hx hb dL_law_317 rfl (lv_at hl 3 rfl) ?_
  refine lv_iconst (v := 2) hx hb dL_law_318 (by decide) ?_
  refine lv_iadd hx hb dL_law_319 ?_
  refine tpI (v := 2) (by decide) ?_
  refine va_sld hx hb hX0 hbl hbA hS (vp_in_nI (n := 2) (N := 6) (by decide) (by decide)) dL_law_320 ?_
  refine tpI (v := xs 2) rfl ?_
  refine cVi (As := [.int (xs 1), .int (xs 2)]) (rest := [.int (-1)]) (wr := []) ⟨hx, hb, hml, hown, hts⟩ (c_X12_door l D cy m0 fm aho gho (xs 1) (xs 2) e_live e_aho z_aho) (cwV 2 hts gL_law_X12_door rfl rfl rfl (by decide +kernel) ⟨Nat.le_of_ble_eq_true rfl, Nat.le_of_ble_eq_true rfl⟩) hK hP hD hS hA [0, 1] [] ⟨rfl, rfl, by decide +kernel, by decide +kernel, by decide +kernel⟩ 0 12 rfl rfl myX_T rfl hl.1 rfl (Nat.le_of_ble_eq_true rfl) dL_law_321 ⟨Nat.le_of_ble_eq_true rfl, Nat.le_of_ble_eq_true rfl⟩ (fun r_3 w_4 H locs hw hP hD hS => ?_)
  obtain ⟨rfl, rfl⟩ := hw
  have hP : va_P D vwCl [] H := hP
  have hD : va_D A [] := hD
  refine lv_icmp_eq (tgt := 1343) hx hb dL_law_324 (by decide) (fun _ => ?_) (fun c9 => absurd rfl c9)
  refine lv_iinc (v := 6) (lv' := [(3, .int 6), (0, .ref b), (1, .ref h0), (2, .ref m0)]) hx hb dL_law_1343 hl (k := 3) rfl (by decide) (by decide) rfl (fun ls hl => ?_)
  refine lv_goto (tgt := 18) hx hb dL_law_1346 (by decide) ?_
  refine lv_iload_n hx hb dL_law_18 rfl (lv_at hl 0 rfl) ?_
  refine lv_aload_n hx hb dL_law_19 rfl (lv_at hl 1 rfl) ?_
  refine va_slen hx hb hX0 hbl hbA hS dL_law_20 ?_
  refine tpI (v := 6) rfl ?_
  refine lv_bipush (v := 6) hx hb dL_law_21 (by decide) ?_
  refine lv_isub hx hb dL_law_23 ?_
  refine tpI (v := 0) (by decide) ?_
  refine lv_icmp_gt (tgt := 1349) hx hb dL_law_24 (by decide) (fun _ => ?_) (fun c9 => absurd (by decide) c9)
  refine lv_iconst (v := 1) hx hb dL_law_1349 (by decide) ?_
  refine va_forget (fun q hq => hA2 _ (hS.2.2 q hq)) ?_
  refine W.widen (k := 600000) (n := 7302250) (Nat.le_of_ble_eq_true rfl) (Nat.le_of_ble_eq_true rfl) ?_
  exact lw_ret hx hb hr hlocks dL_law_1350

set_option maxRecDepth 100000 in
set_option maxHeartbeats 4000000 in
/-- the law's case 5: X11_worth -/
theorem law_case_5 {p : Program} {l : Launch} {e : Env} {s : State} {m : MethodId} {below : List Frame} {meth : Method} {c : Code} {D : va_G} {cy : Nat → ClassId} {A : Nat → Prop} {b : Nat} {xs : Nat → Int32} (C0 : lw_At p s m meth c b 6 xs) (hA : ∀ q, s.heap.size ≤ q → A q) (hA2 : ∀ q, A q → s.heap.size ≤ q) (hK : myK D cy s) (h0 : Nat) (fs : List Value) (t0 : Nat) (ft : List Value) (m0 : Nat) (fm : List Value) (aso : Nat) (gso : Nat → Int32) (e2 : fs[10]? = some (.ref t0)) (e_isSort : ft[0]? = some (.int 0)) (e_live : fm[18]? = some (.int 0)) (e_aso : fm[24]? = some (.ref aso)) (z_aso : ∀ j : Nat, j < 2 → gso j = 0) {H : Heap} {locs : List Loc} {ls : Array Slot} (hP : va_P D vwCl [(h0, .inr (11, fs)), (t0, .inr (7, ft)), (m0, .inr (12, fm)), (aso, .inl (cy 0, 2, .inl gso))] H) (hD : va_D A [(h0, .inr (11, fs)), (t0, .inr (7, ft)), (m0, .inr (12, fm)), (aso, .inl (cy 0, 2, .inl gso))]) (hS : va_S A s.heap H locs) (hl : lv_has ls 4 [(0, .ref b), (1, .ref h0), (2, .ref m0), (3, .int 0)]) : W p l e room_1 s m #[Value.ref b] below meth c H locs 189 143992 (lw_Z below #[Value.ref b] s) (F0 m 329 ls []) := by
  obtain ⟨hx, hb, hr, hml, hown, hts0, hX0, hbl, hlocks, hgv⟩ := id C0
  have hts := fun w h => hts0 w (wsL_law_in w h)
  have hown : s.vm.findClass RL = some m.cls := hown
  have hbA : ¬ A b := fun h => absurd hbl (Nat.not_lt.mpr (hA2 b h))
  refine lv_aload_n hx hb dL_law_329 rfl (lv_at hl 1 rfl) ?_
  refine lv_aload_n hx hb dL_law_330 rfl (lv_at hl 0 rfl) ?_
  refine lv_iload_n hx hb dL_law_331 rfl (lv_at hl 3 rfl) ?_
  refine lv_iconst (v := 1) hx hb dL_law_332 (by decide) ?_
  refine lv_iadd hx hb dL_law_333 ?_
  refine tpI (v := 1) (by decide) ?_
  refine va_sld hx hb hX0 hbl hbA hS (vp_in_nI (n := 1) (N := 6) (by decide) (by decide)) dL_law_334 ?_
  refine tpI (v := xs 1) rfl ?_
  refine lv_aload_n hx hb dL_law_335 rfl (lv_at hl 0 rfl) ?_
  refine lv_iload_n hx hb dL_law_336 rfl (lv_at hl 3 rfl) ?_
  refine lv_iconst (v := 2) hx hb dL_law_337 (by decide) ?_
  refine lv_iadd hx hb dL_law_338 ?_
  refine tpI (v := 2) (by decide) ?_
  refine va_sld hx hb hX0 hbl hbA hS (vp_in_nI (n := 2) (N := 6) (by decide) (by decide)) dL_law_339 ?_
  refine tpI (v := xs 2) rfl ?_
  refine cVi (As := [.int (xs 1), .int (xs 2)]) (rest := []) (wr := [(m0, .inr (12, fm)), (aso, .inl (cy 0, 2, .inl gso))]) ⟨hx, hb, hml, hown, hts⟩ (c_X11_worth l D cy h0 fs t0 ft (xs 1) (xs 2) e2 e_isSort) (cwV 2 hts gL_law_X11_worth rfl rfl rfl (by decide +kernel) ⟨Nat.le_of_ble_eq_true rfl, Nat.le_of_ble_eq_true rfl⟩) hK hP hD hS hA [0, 1] [2, 3] ⟨rfl, rfl, by decide +kernel, by decide +kernel, by decide +kernel⟩ 0 11 rfl rfl myX_T rfl hl.1 rfl (Nat.le_of_ble_eq_true rfl) dL_law_340 ⟨Nat.le_of_ble_eq_true rfl, Nat.le_of_ble_eq_true rfl⟩ (fun r_1 w_2 H locs hw hP hD hS => ?_)
  obtain ⟨rfl, rfl⟩ := hw
  have hP : va_P D vwCl [(m0, .inr (12, fm)), (aso, .inl (cy 0, 2, .inl gso))] H := hP
  have hD : va_D A [(m0, .inr (12, fm)), (aso, .inl (cy 0, 2, .inl gso))] := hD
  refine lv_aload_n hx hb dL_law_343 rfl (lv_at hl 2 rfl) ?_
  refine lv_aload_n hx hb dL_law_344 rfl (lv_at hl 0 rfl) ?_
  refine lv_iload_n hx hb dL_law_345 rfl (lv_at hl 3 rfl) ?_
  refine lv_iconst (v := 1) hx hb dL_law_346 (by decide) ?_
  refine lv_iadd hx hb dL_law_347 ?_
  refine tpI (v := 1) (by decide) ?_
  refine va_sld hx hb hX0 hbl hbA hS (vp_in_nI (n := 1) (N := 6) (by decide) (by decide)) dL_law_348 ?_
  refine tpI (v := xs 1) rfl ?_
  refine lv_aload_n hx hb dL_law_349 rfl (lv_at hl 0 rfl) ?_
  refine lv_iload_n hx hb dL_law_350 rfl (lv_at hl 3 rfl) ?_
  refine lv_iconst (v := 2) hx hb dL_law_351 (by decide) ?_
  refine lv_iadd hx hb dL_law_352 ?_
  refine tpI (v := 2) (by decide) ?_
  refine va_sld hx hb hX0 hbl hbA hS (vp_in_nI (n := 2) (N := 6) (by decide) (by decide)) dL_law_353 ?_
  refine tpI (v := xs 2) rfl ?_
  refine cVi (As := [.int (xs 1), .int (xs 2)]) (rest := [.int (-1)]) (wr := []) ⟨hx, hb, hml, hown, hts⟩ (c_X12_worth l D cy m0 fm aso gso (xs 1) (xs 2) e_live e_aso z_aso) (cwV 2 hts gL_law_X12_worth rfl rfl rfl (by decide +kernel) ⟨Nat.le_of_ble_eq_true rfl, Nat.le_of_ble_eq_true rfl⟩) hK hP hD hS hA [0, 1] [] ⟨rfl, rfl, by decide +kernel, by decide +kernel, by decide +kernel⟩ 0 12 rfl rfl myX_T rfl hl.1 rfl (Nat.le_of_ble_eq_true rfl) dL_law_354 ⟨Nat.le_of_ble_eq_true rfl, Nat.le_of_ble_eq_true rfl⟩ (fun r_3 w_4 H locs hw hP hD hS => ?_)
  obtain ⟨rfl, rfl⟩ := hw
  have hP : va_P D vwCl [] H := hP
  have hD : va_D A [] := hD
  refine lv_icmp_eq (tgt := 1343) hx hb dL_law_357 (by decide) (fun _ => ?_) (fun c9 => absurd rfl c9)
  refine lv_iinc (v := 6) (lv' := [(3, .int 6), (0, .ref b), (1, .ref h0), (2, .ref m0)]) hx hb dL_law_1343 hl (k := 3) rfl (by decide) (by decide) rfl (fun ls hl => ?_)
  refine lv_goto (tgt := 18) hx hb dL_law_1346 (by decide) ?_
  refine lv_iload_n hx hb dL_law_18 rfl (lv_at hl 0 rfl) ?_
  refine lv_aload_n hx hb dL_law_19 rfl (lv_at hl 1 rfl) ?_
  refine va_slen hx hb hX0 hbl hbA hS dL_law_20 ?_
  refine tpI (v := 6) rfl ?_
  refine lv_bipush (v := 6) hx hb dL_law_21 (by decide) ?_
  refine lv_isub hx hb dL_law_23 ?_
  refine tpI (v := 0) (by decide) ?_
  refine lv_icmp_gt (tgt := 1349) hx hb dL_law_24 (by decide) (fun _ => ?_) (fun c9 => absurd (by decide) c9)
  refine lv_iconst (v := 1) hx hb dL_law_1349 (by decide) ?_
  refine va_forget (fun q hq => hA2 _ (hS.2.2 q hq)) ?_
  refine W.widen (k := 600000) (n := 7302250) (Nat.le_of_ble_eq_true rfl) (Nat.le_of_ble_eq_true rfl) ?_
  exact lw_ret hx hb hr hlocks dL_law_1350

set_option maxRecDepth 100000 in
set_option maxHeartbeats 4000000 in
/-- the law's case 6: X11_table -/
theorem law_case_6 {p : Program} {l : Launch} {e : Env} {s : State} {m : MethodId} {below : List Frame} {meth : Method} {c : Code} {D : va_G} {cy : Nat → ClassId} {A : Nat → Prop} {b : Nat} {xs : Nat → Int32} (C0 : lw_At p s m meth c b 6 xs) (hA : ∀ q, s.heap.size ≤ q → A q) (hA2 : ∀ q, A q → s.heap.size ≤ q) (hK : myK D cy s) (h0 : Nat) (fs : List Value) (t0 : Nat) (ft : List Value) (m0 : Nat) (fm : List Value) (aho : Nat) (gho : Nat → Int32) (e2 : fs[10]? = some (.ref t0)) (e_isHouse : ft[1]? = some (.int 0)) (e_live : fm[18]? = some (.int 0)) (e_aho : fm[26]? = some (.ref aho)) (z_aho : ∀ j : Nat, j < 2 → gho j = 0) {H : Heap} {locs : List Loc} {ls : Array Slot} (hP : va_P D vwCl [(h0, .inr (11, fs)), (t0, .inr (7, ft)), (m0, .inr (12, fm)), (aho, .inl (cy 0, 2, .inl gho))] H) (hD : va_D A [(h0, .inr (11, fs)), (t0, .inr (7, ft)), (m0, .inr (12, fm)), (aho, .inl (cy 0, 2, .inl gho))]) (hS : va_S A s.heap H locs) (hl : lv_has ls 4 [(0, .ref b), (1, .ref h0), (2, .ref m0), (3, .int 0)]) : W p l e room_1 s m #[Value.ref b] below meth c H locs 189 143992 (lw_Z below #[Value.ref b] s) (F0 m 362 ls []) := by
  obtain ⟨hx, hb, hr, hml, hown, hts0, hX0, hbl, hlocks, hgv⟩ := id C0
  have hts := fun w h => hts0 w (wsL_law_in w h)
  have hown : s.vm.findClass RL = some m.cls := hown
  have hbA : ¬ A b := fun h => absurd hbl (Nat.not_lt.mpr (hA2 b h))
  refine lv_aload_n hx hb dL_law_362 rfl (lv_at hl 1 rfl) ?_
  refine lv_aload_n hx hb dL_law_363 rfl (lv_at hl 0 rfl) ?_
  refine lv_iload_n hx hb dL_law_364 rfl (lv_at hl 3 rfl) ?_
  refine lv_iconst (v := 1) hx hb dL_law_365 (by decide) ?_
  refine lv_iadd hx hb dL_law_366 ?_
  refine tpI (v := 1) (by decide) ?_
  refine va_sld hx hb hX0 hbl hbA hS (vp_in_nI (n := 1) (N := 6) (by decide) (by decide)) dL_law_367 ?_
  refine tpI (v := xs 1) rfl ?_
  refine lv_aload_n hx hb dL_law_368 rfl (lv_at hl 0 rfl) ?_
  refine lv_iload_n hx hb dL_law_369 rfl (lv_at hl 3 rfl) ?_
  refine lv_iconst (v := 2) hx hb dL_law_370 (by decide) ?_
  refine lv_iadd hx hb dL_law_371 ?_
  refine tpI (v := 2) (by decide) ?_
  refine va_sld hx hb hX0 hbl hbA hS (vp_in_nI (n := 2) (N := 6) (by decide) (by decide)) dL_law_372 ?_
  refine tpI (v := xs 2) rfl ?_
  refine cVi (As := [.int (xs 1), .int (xs 2)]) (rest := []) (wr := [(m0, .inr (12, fm)), (aho, .inl (cy 0, 2, .inl gho))]) ⟨hx, hb, hml, hown, hts⟩ (c_X11_table l D cy h0 fs t0 ft (xs 1) (xs 2) e2 e_isHouse) (cwV 2 hts gL_law_X11_table rfl rfl rfl (by decide +kernel) ⟨Nat.le_of_ble_eq_true rfl, Nat.le_of_ble_eq_true rfl⟩) hK hP hD hS hA [0, 1] [2, 3] ⟨rfl, rfl, by decide +kernel, by decide +kernel, by decide +kernel⟩ 0 11 rfl rfl myX_T rfl hl.1 rfl (Nat.le_of_ble_eq_true rfl) dL_law_373 ⟨Nat.le_of_ble_eq_true rfl, Nat.le_of_ble_eq_true rfl⟩ (fun r_1 w_2 H locs hw hP hD hS => ?_)
  obtain ⟨rfl, rfl⟩ := hw
  have hP : va_P D vwCl [(m0, .inr (12, fm)), (aho, .inl (cy 0, 2, .inl gho))] H := hP
  have hD : va_D A [(m0, .inr (12, fm)), (aho, .inl (cy 0, 2, .inl gho))] := hD
  refine lv_aload_n hx hb dL_law_376 rfl (lv_at hl 2 rfl) ?_
  refine lv_aload_n hx hb dL_law_377 rfl (lv_at hl 0 rfl) ?_
  refine lv_iload_n hx hb dL_law_378 rfl (lv_at hl 3 rfl) ?_
  refine lv_iconst (v := 1) hx hb dL_law_379 (by decide) ?_
  refine lv_iadd hx hb dL_law_380 ?_
  refine tpI (v := 1) (by decide) ?_
  refine va_sld hx hb hX0 hbl hbA hS (vp_in_nI (n := 1) (N := 6) (by decide) (by decide)) dL_law_381 ?_
  refine tpI (v := xs 1) rfl ?_
  refine lv_aload_n hx hb dL_law_382 rfl (lv_at hl 0 rfl) ?_
  refine lv_iload_n hx hb dL_law_383 rfl (lv_at hl 3 rfl) ?_
  refine lv_iconst (v := 2) hx hb dL_law_384 (by decide) ?_
  refine lv_iadd hx hb dL_law_385 ?_
  refine tpI (v := 2) (by decide) ?_
  refine va_sld hx hb hX0 hbl hbA hS (vp_in_nI (n := 2) (N := 6) (by decide) (by decide)) dL_law_386 ?_
  refine tpI (v := xs 2) rfl ?_
  refine cVi (As := [.int (xs 1), .int (xs 2)]) (rest := [.int (-1)]) (wr := []) ⟨hx, hb, hml, hown, hts⟩ (c_X12_table l D cy m0 fm aho gho (xs 1) (xs 2) e_live e_aho z_aho) (cwV 2 hts gL_law_X12_table rfl rfl rfl (by decide +kernel) ⟨Nat.le_of_ble_eq_true rfl, Nat.le_of_ble_eq_true rfl⟩) hK hP hD hS hA [0, 1] [] ⟨rfl, rfl, by decide +kernel, by decide +kernel, by decide +kernel⟩ 0 12 rfl rfl myX_T rfl hl.1 rfl (Nat.le_of_ble_eq_true rfl) dL_law_387 ⟨Nat.le_of_ble_eq_true rfl, Nat.le_of_ble_eq_true rfl⟩ (fun r_3 w_4 H locs hw hP hD hS => ?_)
  obtain ⟨rfl, rfl⟩ := hw
  have hP : va_P D vwCl [] H := hP
  have hD : va_D A [] := hD
  refine lv_icmp_eq (tgt := 1343) hx hb dL_law_390 (by decide) (fun _ => ?_) (fun c9 => absurd rfl c9)
  refine lv_iinc (v := 6) (lv' := [(3, .int 6), (0, .ref b), (1, .ref h0), (2, .ref m0)]) hx hb dL_law_1343 hl (k := 3) rfl (by decide) (by decide) rfl (fun ls hl => ?_)
  refine lv_goto (tgt := 18) hx hb dL_law_1346 (by decide) ?_
  refine lv_iload_n hx hb dL_law_18 rfl (lv_at hl 0 rfl) ?_
  refine lv_aload_n hx hb dL_law_19 rfl (lv_at hl 1 rfl) ?_
  refine va_slen hx hb hX0 hbl hbA hS dL_law_20 ?_
  refine tpI (v := 6) rfl ?_
  refine lv_bipush (v := 6) hx hb dL_law_21 (by decide) ?_
  refine lv_isub hx hb dL_law_23 ?_
  refine tpI (v := 0) (by decide) ?_
  refine lv_icmp_gt (tgt := 1349) hx hb dL_law_24 (by decide) (fun _ => ?_) (fun c9 => absurd (by decide) c9)
  refine lv_iconst (v := 1) hx hb dL_law_1349 (by decide) ?_
  refine va_forget (fun q hq => hA2 _ (hS.2.2 q hq)) ?_
  refine W.widen (k := 600000) (n := 7302250) (Nat.le_of_ble_eq_true rfl) (Nat.le_of_ble_eq_true rfl) ?_
  exact lw_ret hx hb hr hlocks dL_law_1350

set_option maxRecDepth 100000 in
set_option maxHeartbeats 4000000 in
/-- the law's case 7: X11_man -/
theorem law_case_7 {p : Program} {l : Launch} {e : Env} {s : State} {m : MethodId} {below : List Frame} {meth : Method} {c : Code} {D : va_G} {cy : Nat → ClassId} {A : Nat → Prop} {b : Nat} {xs : Nat → Int32} (C0 : lw_At p s m meth c b 6 xs) (hA : ∀ q, s.heap.size ≤ q → A q) (hA2 : ∀ q, A q → s.heap.size ≤ q) (hK : myK D cy s) (h0 : Nat) (fs : List Value) (t0 : Nat) (ft : List Value) (m0 : Nat) (fm : List Value) (ame : Nat) (gme : Nat → Int32) (e2 : fs[10]? = some (.ref t0)) (e_isMan : ft[3]? = some (.int 0)) (e_live : fm[18]? = some (.int 0)) (e_ame : fm[32]? = some (.ref ame)) (z_ame : ∀ j : Nat, j < 2 → gme j = 0) {H : Heap} {locs : List Loc} {ls : Array Slot} (hP : va_P D vwCl [(h0, .inr (11, fs)), (t0, .inr (7, ft)), (m0, .inr (12, fm)), (ame, .inl (cy 0, 2, .inl gme))] H) (hD : va_D A [(h0, .inr (11, fs)), (t0, .inr (7, ft)), (m0, .inr (12, fm)), (ame, .inl (cy 0, 2, .inl gme))]) (hS : va_S A s.heap H locs) (hl : lv_has ls 4 [(0, .ref b), (1, .ref h0), (2, .ref m0), (3, .int 0)]) : W p l e room_1 s m #[Value.ref b] below meth c H locs 189 143992 (lw_Z below #[Value.ref b] s) (F0 m 395 ls []) := by
  obtain ⟨hx, hb, hr, hml, hown, hts0, hX0, hbl, hlocks, hgv⟩ := id C0
  have hts := fun w h => hts0 w (wsL_law_in w h)
  have hown : s.vm.findClass RL = some m.cls := hown
  have hbA : ¬ A b := fun h => absurd hbl (Nat.not_lt.mpr (hA2 b h))
  refine lv_aload_n hx hb dL_law_395 rfl (lv_at hl 1 rfl) ?_
  refine lv_aload_n hx hb dL_law_396 rfl (lv_at hl 0 rfl) ?_
  refine lv_iload_n hx hb dL_law_397 rfl (lv_at hl 3 rfl) ?_
  refine lv_iconst (v := 1) hx hb dL_law_398 (by decide) ?_
  refine lv_iadd hx hb dL_law_399 ?_
  refine tpI (v := 1) (by decide) ?_
  refine va_sld hx hb hX0 hbl hbA hS (vp_in_nI (n := 1) (N := 6) (by decide) (by decide)) dL_law_400 ?_
  refine tpI (v := xs 1) rfl ?_
  refine lv_aload_n hx hb dL_law_401 rfl (lv_at hl 0 rfl) ?_
  refine lv_iload_n hx hb dL_law_402 rfl (lv_at hl 3 rfl) ?_
  refine lv_iconst (v := 2) hx hb dL_law_403 (by decide) ?_
  refine lv_iadd hx hb dL_law_404 ?_
  refine tpI (v := 2) (by decide) ?_
  refine va_sld hx hb hX0 hbl hbA hS (vp_in_nI (n := 2) (N := 6) (by decide) (by decide)) dL_law_405 ?_
  refine tpI (v := xs 2) rfl ?_
  refine cVi (As := [.int (xs 1), .int (xs 2)]) (rest := []) (wr := [(m0, .inr (12, fm)), (ame, .inl (cy 0, 2, .inl gme))]) ⟨hx, hb, hml, hown, hts⟩ (c_X11_man l D cy h0 fs t0 ft (xs 1) (xs 2) e2 e_isMan) (cwV 2 hts gL_law_X11_man rfl rfl rfl (by decide +kernel) ⟨Nat.le_of_ble_eq_true rfl, Nat.le_of_ble_eq_true rfl⟩) hK hP hD hS hA [0, 1] [2, 3] ⟨rfl, rfl, by decide +kernel, by decide +kernel, by decide +kernel⟩ 0 11 rfl rfl myX_T rfl hl.1 rfl (Nat.le_of_ble_eq_true rfl) dL_law_406 ⟨Nat.le_of_ble_eq_true rfl, Nat.le_of_ble_eq_true rfl⟩ (fun r_1 w_2 H locs hw hP hD hS => ?_)
  obtain ⟨rfl, rfl⟩ := hw
  have hP : va_P D vwCl [(m0, .inr (12, fm)), (ame, .inl (cy 0, 2, .inl gme))] H := hP
  have hD : va_D A [(m0, .inr (12, fm)), (ame, .inl (cy 0, 2, .inl gme))] := hD
  refine lv_aload_n hx hb dL_law_409 rfl (lv_at hl 2 rfl) ?_
  refine lv_aload_n hx hb dL_law_410 rfl (lv_at hl 0 rfl) ?_
  refine lv_iload_n hx hb dL_law_411 rfl (lv_at hl 3 rfl) ?_
  refine lv_iconst (v := 1) hx hb dL_law_412 (by decide) ?_
  refine lv_iadd hx hb dL_law_413 ?_
  refine tpI (v := 1) (by decide) ?_
  refine va_sld hx hb hX0 hbl hbA hS (vp_in_nI (n := 1) (N := 6) (by decide) (by decide)) dL_law_414 ?_
  refine tpI (v := xs 1) rfl ?_
  refine lv_aload_n hx hb dL_law_415 rfl (lv_at hl 0 rfl) ?_
  refine lv_iload_n hx hb dL_law_416 rfl (lv_at hl 3 rfl) ?_
  refine lv_iconst (v := 2) hx hb dL_law_417 (by decide) ?_
  refine lv_iadd hx hb dL_law_418 ?_
  refine tpI (v := 2) (by decide) ?_
  refine va_sld hx hb hX0 hbl hbA hS (vp_in_nI (n := 2) (N := 6) (by decide) (by decide)) dL_law_419 ?_
  refine tpI (v := xs 2) rfl ?_
  refine cVi (As := [.int (xs 1), .int (xs 2)]) (rest := [.int (-1)]) (wr := []) ⟨hx, hb, hml, hown, hts⟩ (c_X12_man l D cy m0 fm ame gme (xs 1) (xs 2) e_live e_ame z_ame) (cwV 2 hts gL_law_X12_man rfl rfl rfl (by decide +kernel) ⟨Nat.le_of_ble_eq_true rfl, Nat.le_of_ble_eq_true rfl⟩) hK hP hD hS hA [0, 1] [] ⟨rfl, rfl, by decide +kernel, by decide +kernel, by decide +kernel⟩ 0 12 rfl rfl myX_T rfl hl.1 rfl (Nat.le_of_ble_eq_true rfl) dL_law_420 ⟨Nat.le_of_ble_eq_true rfl, Nat.le_of_ble_eq_true rfl⟩ (fun r_3 w_4 H locs hw hP hD hS => ?_)
  obtain ⟨rfl, rfl⟩ := hw
  have hP : va_P D vwCl [] H := hP
  have hD : va_D A [] := hD
  refine lv_icmp_eq (tgt := 1343) hx hb dL_law_423 (by decide) (fun _ => ?_) (fun c9 => absurd rfl c9)
  refine lv_iinc (v := 6) (lv' := [(3, .int 6), (0, .ref b), (1, .ref h0), (2, .ref m0)]) hx hb dL_law_1343 hl (k := 3) rfl (by decide) (by decide) rfl (fun ls hl => ?_)
  refine lv_goto (tgt := 18) hx hb dL_law_1346 (by decide) ?_
  refine lv_iload_n hx hb dL_law_18 rfl (lv_at hl 0 rfl) ?_
  refine lv_aload_n hx hb dL_law_19 rfl (lv_at hl 1 rfl) ?_
  refine va_slen hx hb hX0 hbl hbA hS dL_law_20 ?_
  refine tpI (v := 6) rfl ?_
  refine lv_bipush (v := 6) hx hb dL_law_21 (by decide) ?_
  refine lv_isub hx hb dL_law_23 ?_
  refine tpI (v := 0) (by decide) ?_
  refine lv_icmp_gt (tgt := 1349) hx hb dL_law_24 (by decide) (fun _ => ?_) (fun c9 => absurd (by decide) c9)
  refine lv_iconst (v := 1) hx hb dL_law_1349 (by decide) ?_
  refine va_forget (fun q hq => hA2 _ (hS.2.2 q hq)) ?_
  refine W.widen (k := 600000) (n := 7302250) (Nat.le_of_ble_eq_true rfl) (Nat.le_of_ble_eq_true rfl) ?_
  exact lw_ret hx hb hr hlocks dL_law_1350

set_option maxRecDepth 100000 in
set_option maxHeartbeats 4000000 in
/-- the law's case 8: X11_has -/
theorem law_case_8 {p : Program} {l : Launch} {e : Env} {s : State} {m : MethodId} {below : List Frame} {meth : Method} {c : Code} {D : va_G} {cy : Nat → ClassId} {A : Nat → Prop} {b : Nat} {xs : Nat → Int32} (C0 : lw_At p s m meth c b 6 xs) (hA : ∀ q, s.heap.size ≤ q → A q) (hA2 : ∀ q, A q → s.heap.size ≤ q) (hK : myK D cy s) (h0 : Nat) (fs : List Value) (t0 : Nat) (ft : List Value) (m0 : Nat) (fm : List Value) (ame : Nat) (gme : Nat → Int32) (e2 : fs[10]? = some (.ref t0)) (e_isMan : ft[3]? = some (.int 0)) (e_live : fm[18]? = some (.int 0)) (e_ame : fm[32]? = some (.ref ame)) (z_ame : ∀ j : Nat, j < 2 → gme j = 0) {H : Heap} {locs : List Loc} {ls : Array Slot} (hP : va_P D vwCl [(h0, .inr (11, fs)), (t0, .inr (7, ft)), (m0, .inr (12, fm)), (ame, .inl (cy 0, 2, .inl gme))] H) (hD : va_D A [(h0, .inr (11, fs)), (t0, .inr (7, ft)), (m0, .inr (12, fm)), (ame, .inl (cy 0, 2, .inl gme))]) (hS : va_S A s.heap H locs) (hl : lv_has ls 4 [(0, .ref b), (1, .ref h0), (2, .ref m0), (3, .int 0)]) : W p l e room_1 s m #[Value.ref b] below meth c H locs 189 143992 (lw_Z below #[Value.ref b] s) (F0 m 428 ls []) := by
  obtain ⟨hx, hb, hr, hml, hown, hts0, hX0, hbl, hlocks, hgv⟩ := id C0
  have hts := fun w h => hts0 w (wsL_law_in w h)
  have hown : s.vm.findClass RL = some m.cls := hown
  have hbA : ¬ A b := fun h => absurd hbl (Nat.not_lt.mpr (hA2 b h))
  refine lv_aload_n hx hb dL_law_428 rfl (lv_at hl 1 rfl) ?_
  refine lv_aload_n hx hb dL_law_429 rfl (lv_at hl 0 rfl) ?_
  refine lv_iload_n hx hb dL_law_430 rfl (lv_at hl 3 rfl) ?_
  refine lv_iconst (v := 1) hx hb dL_law_431 (by decide) ?_
  refine lv_iadd hx hb dL_law_432 ?_
  refine tpI (v := 1) (by decide) ?_
  refine va_sld hx hb hX0 hbl hbA hS (vp_in_nI (n := 1) (N := 6) (by decide) (by decide)) dL_law_433 ?_
  refine tpI (v := xs 1) rfl ?_
  refine lv_aload_n hx hb dL_law_434 rfl (lv_at hl 0 rfl) ?_
  refine lv_iload_n hx hb dL_law_435 rfl (lv_at hl 3 rfl) ?_
  refine lv_iconst (v := 2) hx hb dL_law_436 (by decide) ?_
  refine lv_iadd hx hb dL_law_437 ?_
  refine tpI (v := 2) (by decide) ?_
  refine va_sld hx hb hX0 hbl hbA hS (vp_in_nI (n := 2) (N := 6) (by decide) (by decide)) dL_law_438 ?_
  refine tpI (v := xs 2) rfl ?_
  refine cVi (As := [.int (xs 1), .int (xs 2)]) (rest := []) (wr := [(m0, .inr (12, fm)), (ame, .inl (cy 0, 2, .inl gme))]) ⟨hx, hb, hml, hown, hts⟩ (c_X11_has l D cy h0 fs t0 ft (xs 1) (xs 2) e2 e_isMan) (cwV 2 hts gL_law_X11_has rfl rfl rfl (by decide +kernel) ⟨Nat.le_of_ble_eq_true rfl, Nat.le_of_ble_eq_true rfl⟩) hK hP hD hS hA [0, 1] [2, 3] ⟨rfl, rfl, by decide +kernel, by decide +kernel, by decide +kernel⟩ 0 11 rfl rfl myX_T rfl hl.1 rfl (Nat.le_of_ble_eq_true rfl) dL_law_439 ⟨Nat.le_of_ble_eq_true rfl, Nat.le_of_ble_eq_true rfl⟩ (fun r_1 w_2 H locs hw hP hD hS => ?_)
  obtain ⟨rfl, rfl⟩ := hw
  have hP : va_P D vwCl [(m0, .inr (12, fm)), (ame, .inl (cy 0, 2, .inl gme))] H := hP
  have hD : va_D A [(m0, .inr (12, fm)), (ame, .inl (cy 0, 2, .inl gme))] := hD
  refine lv_aload_n hx hb dL_law_442 rfl (lv_at hl 2 rfl) ?_
  refine lv_aload_n hx hb dL_law_443 rfl (lv_at hl 0 rfl) ?_
  refine lv_iload_n hx hb dL_law_444 rfl (lv_at hl 3 rfl) ?_
  refine lv_iconst (v := 1) hx hb dL_law_445 (by decide) ?_
  refine lv_iadd hx hb dL_law_446 ?_
  refine tpI (v := 1) (by decide) ?_
  refine va_sld hx hb hX0 hbl hbA hS (vp_in_nI (n := 1) (N := 6) (by decide) (by decide)) dL_law_447 ?_
  refine tpI (v := xs 1) rfl ?_
  refine lv_aload_n hx hb dL_law_448 rfl (lv_at hl 0 rfl) ?_
  refine lv_iload_n hx hb dL_law_449 rfl (lv_at hl 3 rfl) ?_
  refine lv_iconst (v := 2) hx hb dL_law_450 (by decide) ?_
  refine lv_iadd hx hb dL_law_451 ?_
  refine tpI (v := 2) (by decide) ?_
  refine va_sld hx hb hX0 hbl hbA hS (vp_in_nI (n := 2) (N := 6) (by decide) (by decide)) dL_law_452 ?_
  refine tpI (v := xs 2) rfl ?_
  refine cVi (As := [.int (xs 1), .int (xs 2)]) (rest := [.int (-1)]) (wr := []) ⟨hx, hb, hml, hown, hts⟩ (c_X12_has l D cy m0 fm ame gme (xs 1) (xs 2) e_live e_ame z_ame) (cwV 2 hts gL_law_X12_has rfl rfl rfl (by decide +kernel) ⟨Nat.le_of_ble_eq_true rfl, Nat.le_of_ble_eq_true rfl⟩) hK hP hD hS hA [0, 1] [] ⟨rfl, rfl, by decide +kernel, by decide +kernel, by decide +kernel⟩ 0 12 rfl rfl myX_T rfl hl.1 rfl (Nat.le_of_ble_eq_true rfl) dL_law_453 ⟨Nat.le_of_ble_eq_true rfl, Nat.le_of_ble_eq_true rfl⟩ (fun r_3 w_4 H locs hw hP hD hS => ?_)
  obtain ⟨rfl, rfl⟩ := hw
  have hP : va_P D vwCl [] H := hP
  have hD : va_D A [] := hD
  refine lv_icmp_eq (tgt := 1343) hx hb dL_law_456 (by decide) (fun _ => ?_) (fun c9 => absurd rfl c9)
  refine lv_iinc (v := 6) (lv' := [(3, .int 6), (0, .ref b), (1, .ref h0), (2, .ref m0)]) hx hb dL_law_1343 hl (k := 3) rfl (by decide) (by decide) rfl (fun ls hl => ?_)
  refine lv_goto (tgt := 18) hx hb dL_law_1346 (by decide) ?_
  refine lv_iload_n hx hb dL_law_18 rfl (lv_at hl 0 rfl) ?_
  refine lv_aload_n hx hb dL_law_19 rfl (lv_at hl 1 rfl) ?_
  refine va_slen hx hb hX0 hbl hbA hS dL_law_20 ?_
  refine tpI (v := 6) rfl ?_
  refine lv_bipush (v := 6) hx hb dL_law_21 (by decide) ?_
  refine lv_isub hx hb dL_law_23 ?_
  refine tpI (v := 0) (by decide) ?_
  refine lv_icmp_gt (tgt := 1349) hx hb dL_law_24 (by decide) (fun _ => ?_) (fun c9 => absurd (by decide) c9)
  refine lv_iconst (v := 1) hx hb dL_law_1349 (by decide) ?_
  refine va_forget (fun q hq => hA2 _ (hS.2.2 q hq)) ?_
  refine W.widen (k := 600000) (n := 7302250) (Nat.le_of_ble_eq_true rfl) (Nat.le_of_ble_eq_true rfl) ?_
  exact lw_ret hx hb hr hlocks dL_law_1350

set_option maxRecDepth 100000 in
set_option maxHeartbeats 4000000 in
/-- the law's case 9: X11_may -/
theorem law_case_9 {p : Program} {l : Launch} {e : Env} {s : State} {m : MethodId} {below : List Frame} {meth : Method} {c : Code} {D : va_G} {cy : Nat → ClassId} {A : Nat → Prop} {b : Nat} {xs : Nat → Int32} (C0 : lw_At p s m meth c b 6 xs) (hA : ∀ q, s.heap.size ≤ q → A q) (hA2 : ∀ q, A q → s.heap.size ≤ q) (hK : myK D cy s) (h0 : Nat) (fs : List Value) (t0 : Nat) (ft : List Value) (m0 : Nat) (fm : List Value) (ame : Nat) (gme : Nat → Int32) (e2 : fs[10]? = some (.ref t0)) (e_isMan : ft[3]? = some (.int 0)) (e_live : fm[18]? = some (.int 0)) (e_ame : fm[32]? = some (.ref ame)) (z_ame : ∀ j : Nat, j < 2 → gme j = 0) {H : Heap} {locs : List Loc} {ls : Array Slot} (hP : va_P D vwCl [(h0, .inr (11, fs)), (t0, .inr (7, ft)), (m0, .inr (12, fm)), (ame, .inl (cy 0, 2, .inl gme))] H) (hD : va_D A [(h0, .inr (11, fs)), (t0, .inr (7, ft)), (m0, .inr (12, fm)), (ame, .inl (cy 0, 2, .inl gme))]) (hS : va_S A s.heap H locs) (hl : lv_has ls 4 [(0, .ref b), (1, .ref h0), (2, .ref m0), (3, .int 0)]) : W p l e room_1 s m #[Value.ref b] below meth c H locs 189 143992 (lw_Z below #[Value.ref b] s) (F0 m 461 ls []) := by
  obtain ⟨hx, hb, hr, hml, hown, hts0, hX0, hbl, hlocks, hgv⟩ := id C0
  have hts := fun w h => hts0 w (wsL_law_in w h)
  have hown : s.vm.findClass RL = some m.cls := hown
  have hbA : ¬ A b := fun h => absurd hbl (Nat.not_lt.mpr (hA2 b h))
  refine lv_aload_n hx hb dL_law_461 rfl (lv_at hl 1 rfl) ?_
  refine lv_aload_n hx hb dL_law_462 rfl (lv_at hl 0 rfl) ?_
  refine lv_iload_n hx hb dL_law_463 rfl (lv_at hl 3 rfl) ?_
  refine lv_iconst (v := 1) hx hb dL_law_464 (by decide) ?_
  refine lv_iadd hx hb dL_law_465 ?_
  refine tpI (v := 1) (by decide) ?_
  refine va_sld hx hb hX0 hbl hbA hS (vp_in_nI (n := 1) (N := 6) (by decide) (by decide)) dL_law_466 ?_
  refine tpI (v := xs 1) rfl ?_
  refine lv_aload_n hx hb dL_law_467 rfl (lv_at hl 0 rfl) ?_
  refine lv_iload_n hx hb dL_law_468 rfl (lv_at hl 3 rfl) ?_
  refine lv_iconst (v := 2) hx hb dL_law_469 (by decide) ?_
  refine lv_iadd hx hb dL_law_470 ?_
  refine tpI (v := 2) (by decide) ?_
  refine va_sld hx hb hX0 hbl hbA hS (vp_in_nI (n := 2) (N := 6) (by decide) (by decide)) dL_law_471 ?_
  refine tpI (v := xs 2) rfl ?_
  refine lv_aload_n hx hb dL_law_472 rfl (lv_at hl 0 rfl) ?_
  refine lv_iload_n hx hb dL_law_473 rfl (lv_at hl 3 rfl) ?_
  refine lv_iconst (v := 3) hx hb dL_law_474 (by decide) ?_
  refine lv_iadd hx hb dL_law_475 ?_
  refine tpI (v := 3) (by decide) ?_
  refine va_sld hx hb hX0 hbl hbA hS (vp_in_nI (n := 3) (N := 6) (by decide) (by decide)) dL_law_476 ?_
  refine tpI (v := xs 3) rfl ?_
  refine cVi (As := [.int (xs 1), .int (xs 2), .int (xs 3)]) (rest := []) (wr := [(m0, .inr (12, fm)), (ame, .inl (cy 0, 2, .inl gme))]) ⟨hx, hb, hml, hown, hts⟩ (c_X11_may l D cy h0 fs t0 ft (xs 1) (xs 2) (xs 3) e2 e_isMan) (cwV 3 hts gL_law_X11_may rfl rfl rfl (by decide +kernel) ⟨Nat.le_of_ble_eq_true rfl, Nat.le_of_ble_eq_true rfl⟩) hK hP hD hS hA [0, 1] [2, 3] ⟨rfl, rfl, by decide +kernel, by decide +kernel, by decide +kernel⟩ 0 11 rfl rfl myX_T rfl hl.1 rfl (Nat.le_of_ble_eq_true rfl) dL_law_477 ⟨Nat.le_of_ble_eq_true rfl, Nat.le_of_ble_eq_true rfl⟩ (fun r_1 w_2 H locs hw hP hD hS => ?_)
  obtain ⟨rfl, rfl⟩ := hw
  have hP : va_P D vwCl [(m0, .inr (12, fm)), (ame, .inl (cy 0, 2, .inl gme))] H := hP
  have hD : va_D A [(m0, .inr (12, fm)), (ame, .inl (cy 0, 2, .inl gme))] := hD
  refine lv_aload_n hx hb dL_law_480 rfl (lv_at hl 2 rfl) ?_
  refine lv_aload_n hx hb dL_law_481 rfl (lv_at hl 0 rfl) ?_
  refine lv_iload_n hx hb dL_law_482 rfl (lv_at hl 3 rfl) ?_
  refine lv_iconst (v := 1) hx hb dL_law_483 (by decide) ?_
  refine lv_iadd hx hb dL_law_484 ?_
  refine tpI (v := 1) (by decide) ?_
  refine va_sld hx hb hX0 hbl hbA hS (vp_in_nI (n := 1) (N := 6) (by decide) (by decide)) dL_law_485 ?_
  refine tpI (v := xs 1) rfl ?_
  refine lv_aload_n hx hb dL_law_486 rfl (lv_at hl 0 rfl) ?_
  refine lv_iload_n hx hb dL_law_487 rfl (lv_at hl 3 rfl) ?_
  refine lv_iconst (v := 2) hx hb dL_law_488 (by decide) ?_
  refine lv_iadd hx hb dL_law_489 ?_
  refine tpI (v := 2) (by decide) ?_
  refine va_sld hx hb hX0 hbl hbA hS (vp_in_nI (n := 2) (N := 6) (by decide) (by decide)) dL_law_490 ?_
  refine tpI (v := xs 2) rfl ?_
  refine lv_aload_n hx hb dL_law_491 rfl (lv_at hl 0 rfl) ?_
  refine lv_iload_n hx hb dL_law_492 rfl (lv_at hl 3 rfl) ?_
  refine lv_iconst (v := 3) hx hb dL_law_493 (by decide) ?_
  refine lv_iadd hx hb dL_law_494 ?_
  refine tpI (v := 3) (by decide) ?_
  refine va_sld hx hb hX0 hbl hbA hS (vp_in_nI (n := 3) (N := 6) (by decide) (by decide)) dL_law_495 ?_
  refine tpI (v := xs 3) rfl ?_
  refine cVi (As := [.int (xs 1), .int (xs 2), .int (xs 3)]) (rest := [.int (-1)]) (wr := []) ⟨hx, hb, hml, hown, hts⟩ (c_X12_may l D cy m0 fm ame gme (xs 1) (xs 2) (xs 3) e_live e_ame z_ame) (cwV 3 hts gL_law_X12_may rfl rfl rfl (by decide +kernel) ⟨Nat.le_of_ble_eq_true rfl, Nat.le_of_ble_eq_true rfl⟩) hK hP hD hS hA [0, 1] [] ⟨rfl, rfl, by decide +kernel, by decide +kernel, by decide +kernel⟩ 0 12 rfl rfl myX_T rfl hl.1 rfl (Nat.le_of_ble_eq_true rfl) dL_law_496 ⟨Nat.le_of_ble_eq_true rfl, Nat.le_of_ble_eq_true rfl⟩ (fun r_3 w_4 H locs hw hP hD hS => ?_)
  obtain ⟨rfl, rfl⟩ := hw
  have hP : va_P D vwCl [] H := hP
  have hD : va_D A [] := hD
  refine lv_icmp_eq (tgt := 1343) hx hb dL_law_499 (by decide) (fun _ => ?_) (fun c9 => absurd rfl c9)
  refine lv_iinc (v := 6) (lv' := [(3, .int 6), (0, .ref b), (1, .ref h0), (2, .ref m0)]) hx hb dL_law_1343 hl (k := 3) rfl (by decide) (by decide) rfl (fun ls hl => ?_)
  refine lv_goto (tgt := 18) hx hb dL_law_1346 (by decide) ?_
  refine lv_iload_n hx hb dL_law_18 rfl (lv_at hl 0 rfl) ?_
  refine lv_aload_n hx hb dL_law_19 rfl (lv_at hl 1 rfl) ?_
  refine va_slen hx hb hX0 hbl hbA hS dL_law_20 ?_
  refine tpI (v := 6) rfl ?_
  refine lv_bipush (v := 6) hx hb dL_law_21 (by decide) ?_
  refine lv_isub hx hb dL_law_23 ?_
  refine tpI (v := 0) (by decide) ?_
  refine lv_icmp_gt (tgt := 1349) hx hb dL_law_24 (by decide) (fun _ => ?_) (fun c9 => absurd (by decide) c9)
  refine lv_iconst (v := 1) hx hb dL_law_1349 (by decide) ?_
  refine va_forget (fun q hq => hA2 _ (hS.2.2 q hq)) ?_
  refine W.widen (k := 600000) (n := 7302250) (Nat.le_of_ble_eq_true rfl) (Nat.le_of_ble_eq_true rfl) ?_
  exact lw_ret hx hb hr hlocks dL_law_1350

set_option maxRecDepth 100000 in
set_option maxHeartbeats 4000000 in
/-- the law's case 10: X11_go -/
theorem law_case_10 {p : Program} {l : Launch} {e : Env} {s : State} {m : MethodId} {below : List Frame} {meth : Method} {c : Code} {D : va_G} {cy : Nat → ClassId} {A : Nat → Prop} {b : Nat} {xs : Nat → Int32} (C0 : lw_At p s m meth c b 6 xs) (hA : ∀ q, s.heap.size ≤ q → A q) (hA2 : ∀ q, A q → s.heap.size ≤ q) (hK : myK D cy s) (h0 : Nat) (fs : List Value) (t0 : Nat) (ft : List Value) (m0 : Nat) (fm : List Value) (ame : Nat) (gme : Nat → Int32) (e2 : fs[10]? = some (.ref t0)) (e_isMan : ft[3]? = some (.int 0)) (e_live : fm[18]? = some (.int 0)) (e_ame : fm[32]? = some (.ref ame)) (z_ame : ∀ j : Nat, j < 2 → gme j = 0) {H : Heap} {locs : List Loc} {ls : Array Slot} (hP : va_P D vwCl [(h0, .inr (11, fs)), (t0, .inr (7, ft)), (m0, .inr (12, fm)), (ame, .inl (cy 0, 2, .inl gme))] H) (hD : va_D A [(h0, .inr (11, fs)), (t0, .inr (7, ft)), (m0, .inr (12, fm)), (ame, .inl (cy 0, 2, .inl gme))]) (hS : va_S A s.heap H locs) (hl : lv_has ls 4 [(0, .ref b), (1, .ref h0), (2, .ref m0), (3, .int 0)]) : W p l e room_1 s m #[Value.ref b] below meth c H locs 189 143992 (lw_Z below #[Value.ref b] s) (F0 m 504 ls []) := by
  obtain ⟨hx, hb, hr, hml, hown, hts0, hX0, hbl, hlocks, hgv⟩ := id C0
  have hts := fun w h => hts0 w (wsL_law_in w h)
  have hown : s.vm.findClass RL = some m.cls := hown
  have hbA : ¬ A b := fun h => absurd hbl (Nat.not_lt.mpr (hA2 b h))
  refine lv_aload_n hx hb dL_law_504 rfl (lv_at hl 1 rfl) ?_
  refine lv_aload_n hx hb dL_law_505 rfl (lv_at hl 0 rfl) ?_
  refine lv_iload_n hx hb dL_law_506 rfl (lv_at hl 3 rfl) ?_
  refine lv_iconst (v := 1) hx hb dL_law_507 (by decide) ?_
  refine lv_iadd hx hb dL_law_508 ?_
  refine tpI (v := 1) (by decide) ?_
  refine va_sld hx hb hX0 hbl hbA hS (vp_in_nI (n := 1) (N := 6) (by decide) (by decide)) dL_law_509 ?_
  refine tpI (v := xs 1) rfl ?_
  refine lv_aload_n hx hb dL_law_510 rfl (lv_at hl 0 rfl) ?_
  refine lv_iload_n hx hb dL_law_511 rfl (lv_at hl 3 rfl) ?_
  refine lv_iconst (v := 2) hx hb dL_law_512 (by decide) ?_
  refine lv_iadd hx hb dL_law_513 ?_
  refine tpI (v := 2) (by decide) ?_
  refine va_sld hx hb hX0 hbl hbA hS (vp_in_nI (n := 2) (N := 6) (by decide) (by decide)) dL_law_514 ?_
  refine tpI (v := xs 2) rfl ?_
  refine lv_aload_n hx hb dL_law_515 rfl (lv_at hl 0 rfl) ?_
  refine lv_iload_n hx hb dL_law_516 rfl (lv_at hl 3 rfl) ?_
  refine lv_iconst (v := 3) hx hb dL_law_517 (by decide) ?_
  refine lv_iadd hx hb dL_law_518 ?_
  refine tpI (v := 3) (by decide) ?_
  refine va_sld hx hb hX0 hbl hbA hS (vp_in_nI (n := 3) (N := 6) (by decide) (by decide)) dL_law_519 ?_
  refine tpI (v := xs 3) rfl ?_
  refine cVi (As := [.int (xs 1), .int (xs 2), .int (xs 3)]) (rest := []) (wr := [(m0, .inr (12, fm)), (ame, .inl (cy 0, 2, .inl gme))]) ⟨hx, hb, hml, hown, hts⟩ (c_X11_go l D cy h0 fs t0 ft (xs 1) (xs 2) (xs 3) e2 e_isMan) (cwV 3 hts gL_law_X11_go rfl rfl rfl (by decide +kernel) ⟨Nat.le_of_ble_eq_true rfl, Nat.le_of_ble_eq_true rfl⟩) hK hP hD hS hA [0, 1] [2, 3] ⟨rfl, rfl, by decide +kernel, by decide +kernel, by decide +kernel⟩ 0 11 rfl rfl myX_T rfl hl.1 rfl (Nat.le_of_ble_eq_true rfl) dL_law_520 ⟨Nat.le_of_ble_eq_true rfl, Nat.le_of_ble_eq_true rfl⟩ (fun r_1 w_2 H locs hw hP hD hS => ?_)
  obtain ⟨rfl, rfl⟩ := hw
  have hP : va_P D vwCl [(m0, .inr (12, fm)), (ame, .inl (cy 0, 2, .inl gme))] H := hP
  have hD : va_D A [(m0, .inr (12, fm)), (ame, .inl (cy 0, 2, .inl gme))] := hD
  refine lv_aload_n hx hb dL_law_523 rfl (lv_at hl 2 rfl) ?_
  refine lv_aload_n hx hb dL_law_524 rfl (lv_at hl 0 rfl) ?_
  refine lv_iload_n hx hb dL_law_525 rfl (lv_at hl 3 rfl) ?_
  refine lv_iconst (v := 1) hx hb dL_law_526 (by decide) ?_
  refine lv_iadd hx hb dL_law_527 ?_
  refine tpI (v := 1) (by decide) ?_
  refine va_sld hx hb hX0 hbl hbA hS (vp_in_nI (n := 1) (N := 6) (by decide) (by decide)) dL_law_528 ?_
  refine tpI (v := xs 1) rfl ?_
  refine lv_aload_n hx hb dL_law_529 rfl (lv_at hl 0 rfl) ?_
  refine lv_iload_n hx hb dL_law_530 rfl (lv_at hl 3 rfl) ?_
  refine lv_iconst (v := 2) hx hb dL_law_531 (by decide) ?_
  refine lv_iadd hx hb dL_law_532 ?_
  refine tpI (v := 2) (by decide) ?_
  refine va_sld hx hb hX0 hbl hbA hS (vp_in_nI (n := 2) (N := 6) (by decide) (by decide)) dL_law_533 ?_
  refine tpI (v := xs 2) rfl ?_
  refine lv_aload_n hx hb dL_law_534 rfl (lv_at hl 0 rfl) ?_
  refine lv_iload_n hx hb dL_law_535 rfl (lv_at hl 3 rfl) ?_
  refine lv_iconst (v := 3) hx hb dL_law_536 (by decide) ?_
  refine lv_iadd hx hb dL_law_537 ?_
  refine tpI (v := 3) (by decide) ?_
  refine va_sld hx hb hX0 hbl hbA hS (vp_in_nI (n := 3) (N := 6) (by decide) (by decide)) dL_law_538 ?_
  refine tpI (v := xs 3) rfl ?_
  refine cVi (As := [.int (xs 1), .int (xs 2), .int (xs 3)]) (rest := [.int (-1)]) (wr := []) ⟨hx, hb, hml, hown, hts⟩ (c_X12_go l D cy m0 fm ame gme (xs 1) (xs 2) (xs 3) e_live e_ame z_ame) (cwV 3 hts gL_law_X12_go rfl rfl rfl (by decide +kernel) ⟨Nat.le_of_ble_eq_true rfl, Nat.le_of_ble_eq_true rfl⟩) hK hP hD hS hA [0, 1] [] ⟨rfl, rfl, by decide +kernel, by decide +kernel, by decide +kernel⟩ 0 12 rfl rfl myX_T rfl hl.1 rfl (Nat.le_of_ble_eq_true rfl) dL_law_539 ⟨Nat.le_of_ble_eq_true rfl, Nat.le_of_ble_eq_true rfl⟩ (fun r_3 w_4 H locs hw hP hD hS => ?_)
  obtain ⟨rfl, rfl⟩ := hw
  have hP : va_P D vwCl [] H := hP
  have hD : va_D A [] := hD
  refine lv_icmp_eq (tgt := 1343) hx hb dL_law_542 (by decide) (fun _ => ?_) (fun c9 => absurd rfl c9)
  refine lv_iinc (v := 6) (lv' := [(3, .int 6), (0, .ref b), (1, .ref h0), (2, .ref m0)]) hx hb dL_law_1343 hl (k := 3) rfl (by decide) (by decide) rfl (fun ls hl => ?_)
  refine lv_goto (tgt := 18) hx hb dL_law_1346 (by decide) ?_
  refine lv_iload_n hx hb dL_law_18 rfl (lv_at hl 0 rfl) ?_
  refine lv_aload_n hx hb dL_law_19 rfl (lv_at hl 1 rfl) ?_
  refine va_slen hx hb hX0 hbl hbA hS dL_law_20 ?_
  refine tpI (v := 6) rfl ?_
  refine lv_bipush (v := 6) hx hb dL_law_21 (by decide) ?_
  refine lv_isub hx hb dL_law_23 ?_
  refine tpI (v := 0) (by decide) ?_
  refine lv_icmp_gt (tgt := 1349) hx hb dL_law_24 (by decide) (fun _ => ?_) (fun c9 => absurd (by decide) c9)
  refine lv_iconst (v := 1) hx hb dL_law_1349 (by decide) ?_
  refine va_forget (fun q hq => hA2 _ (hS.2.2 q hq)) ?_
  refine W.widen (k := 600000) (n := 7302250) (Nat.le_of_ble_eq_true rfl) (Nat.le_of_ble_eq_true rfl) ?_
  exact lw_ret hx hb hr hlocks dL_law_1350

set_option maxRecDepth 100000 in
set_option maxHeartbeats 4000000 in
/-- the law's case 11: X11_buy -/
theorem law_case_11 {p : Program} {l : Launch} {e : Env} {s : State} {m : MethodId} {below : List Frame} {meth : Method} {c : Code} {D : va_G} {cy : Nat → ClassId} {A : Nat → Prop} {b : Nat} {xs : Nat → Int32} (C0 : lw_At p s m meth c b 6 xs) (hA : ∀ q, s.heap.size ≤ q → A q) (hA2 : ∀ q, A q → s.heap.size ≤ q) (hK : myK D cy s) (h0 : Nat) (fs : List Value) (t0 : Nat) (ft : List Value) (m0 : Nat) (fm : List Value) (ame : Nat) (gme : Nat → Int32) (e2 : fs[10]? = some (.ref t0)) (e_isMan : ft[3]? = some (.int 0)) (e_live : fm[18]? = some (.int 0)) (e_ame : fm[32]? = some (.ref ame)) (z_ame : ∀ j : Nat, j < 2 → gme j = 0) {H : Heap} {locs : List Loc} {ls : Array Slot} (hP : va_P D vwCl [(h0, .inr (11, fs)), (t0, .inr (7, ft)), (m0, .inr (12, fm)), (ame, .inl (cy 0, 2, .inl gme))] H) (hD : va_D A [(h0, .inr (11, fs)), (t0, .inr (7, ft)), (m0, .inr (12, fm)), (ame, .inl (cy 0, 2, .inl gme))]) (hS : va_S A s.heap H locs) (hl : lv_has ls 4 [(0, .ref b), (1, .ref h0), (2, .ref m0), (3, .int 0)]) : W p l e room_1 s m #[Value.ref b] below meth c H locs 189 143992 (lw_Z below #[Value.ref b] s) (F0 m 547 ls []) := by
  obtain ⟨hx, hb, hr, hml, hown, hts0, hX0, hbl, hlocks, hgv⟩ := id C0
  have hts := fun w h => hts0 w (wsL_law_in w h)
  have hown : s.vm.findClass RL = some m.cls := hown
  have hbA : ¬ A b := fun h => absurd hbl (Nat.not_lt.mpr (hA2 b h))
  refine lv_aload_n hx hb dL_law_547 rfl (lv_at hl 1 rfl) ?_
  refine lv_aload_n hx hb dL_law_548 rfl (lv_at hl 0 rfl) ?_
  refine lv_iload_n hx hb dL_law_549 rfl (lv_at hl 3 rfl) ?_
  refine lv_iconst (v := 1) hx hb dL_law_550 (by decide) ?_
  refine lv_iadd hx hb dL_law_551 ?_
  refine tpI (v := 1) (by decide) ?_
  refine va_sld hx hb hX0 hbl hbA hS (vp_in_nI (n := 1) (N := 6) (by decide) (by decide)) dL_law_552 ?_
  refine tpI (v := xs 1) rfl ?_
  refine lv_aload_n hx hb dL_law_553 rfl (lv_at hl 0 rfl) ?_
  refine lv_iload_n hx hb dL_law_554 rfl (lv_at hl 3 rfl) ?_
  refine lv_iconst (v := 2) hx hb dL_law_555 (by decide) ?_
  refine lv_iadd hx hb dL_law_556 ?_
  refine tpI (v := 2) (by decide) ?_
  refine va_sld hx hb hX0 hbl hbA hS (vp_in_nI (n := 2) (N := 6) (by decide) (by decide)) dL_law_557 ?_
  refine tpI (v := xs 2) rfl ?_
  refine cVi (As := [.int (xs 1), .int (xs 2)]) (rest := []) (wr := [(m0, .inr (12, fm)), (ame, .inl (cy 0, 2, .inl gme))]) ⟨hx, hb, hml, hown, hts⟩ (c_X11_buy l D cy h0 fs t0 ft (xs 1) (xs 2) e2 e_isMan) (cwV 2 hts gL_law_X11_buy rfl rfl rfl (by decide +kernel) ⟨Nat.le_of_ble_eq_true rfl, Nat.le_of_ble_eq_true rfl⟩) hK hP hD hS hA [0, 1] [2, 3] ⟨rfl, rfl, by decide +kernel, by decide +kernel, by decide +kernel⟩ 0 11 rfl rfl myX_T rfl hl.1 rfl (Nat.le_of_ble_eq_true rfl) dL_law_558 ⟨Nat.le_of_ble_eq_true rfl, Nat.le_of_ble_eq_true rfl⟩ (fun r_1 w_2 H locs hw hP hD hS => ?_)
  obtain ⟨rfl, rfl⟩ := hw
  have hP : va_P D vwCl [(m0, .inr (12, fm)), (ame, .inl (cy 0, 2, .inl gme))] H := hP
  have hD : va_D A [(m0, .inr (12, fm)), (ame, .inl (cy 0, 2, .inl gme))] := hD
  refine lv_aload_n hx hb dL_law_561 rfl (lv_at hl 2 rfl) ?_
  refine lv_aload_n hx hb dL_law_562 rfl (lv_at hl 0 rfl) ?_
  refine lv_iload_n hx hb dL_law_563 rfl (lv_at hl 3 rfl) ?_
  refine lv_iconst (v := 1) hx hb dL_law_564 (by decide) ?_
  refine lv_iadd hx hb dL_law_565 ?_
  refine tpI (v := 1) (by decide) ?_
  refine va_sld hx hb hX0 hbl hbA hS (vp_in_nI (n := 1) (N := 6) (by decide) (by decide)) dL_law_566 ?_
  refine tpI (v := xs 1) rfl ?_
  refine lv_aload_n hx hb dL_law_567 rfl (lv_at hl 0 rfl) ?_
  refine lv_iload_n hx hb dL_law_568 rfl (lv_at hl 3 rfl) ?_
  refine lv_iconst (v := 2) hx hb dL_law_569 (by decide) ?_
  refine lv_iadd hx hb dL_law_570 ?_
  refine tpI (v := 2) (by decide) ?_
  refine va_sld hx hb hX0 hbl hbA hS (vp_in_nI (n := 2) (N := 6) (by decide) (by decide)) dL_law_571 ?_
  refine tpI (v := xs 2) rfl ?_
  refine cVi (As := [.int (xs 1), .int (xs 2)]) (rest := [.int (-1)]) (wr := []) ⟨hx, hb, hml, hown, hts⟩ (c_X12_buy l D cy m0 fm ame gme (xs 1) (xs 2) e_live e_ame z_ame) (cwV 2 hts gL_law_X12_buy rfl rfl rfl (by decide +kernel) ⟨Nat.le_of_ble_eq_true rfl, Nat.le_of_ble_eq_true rfl⟩) hK hP hD hS hA [0, 1] [] ⟨rfl, rfl, by decide +kernel, by decide +kernel, by decide +kernel⟩ 0 12 rfl rfl myX_T rfl hl.1 rfl (Nat.le_of_ble_eq_true rfl) dL_law_572 ⟨Nat.le_of_ble_eq_true rfl, Nat.le_of_ble_eq_true rfl⟩ (fun r_3 w_4 H locs hw hP hD hS => ?_)
  obtain ⟨rfl, rfl⟩ := hw
  have hP : va_P D vwCl [] H := hP
  have hD : va_D A [] := hD
  refine lv_icmp_eq (tgt := 1343) hx hb dL_law_575 (by decide) (fun _ => ?_) (fun c9 => absurd rfl c9)
  refine lv_iinc (v := 6) (lv' := [(3, .int 6), (0, .ref b), (1, .ref h0), (2, .ref m0)]) hx hb dL_law_1343 hl (k := 3) rfl (by decide) (by decide) rfl (fun ls hl => ?_)
  refine lv_goto (tgt := 18) hx hb dL_law_1346 (by decide) ?_
  refine lv_iload_n hx hb dL_law_18 rfl (lv_at hl 0 rfl) ?_
  refine lv_aload_n hx hb dL_law_19 rfl (lv_at hl 1 rfl) ?_
  refine va_slen hx hb hX0 hbl hbA hS dL_law_20 ?_
  refine tpI (v := 6) rfl ?_
  refine lv_bipush (v := 6) hx hb dL_law_21 (by decide) ?_
  refine lv_isub hx hb dL_law_23 ?_
  refine tpI (v := 0) (by decide) ?_
  refine lv_icmp_gt (tgt := 1349) hx hb dL_law_24 (by decide) (fun _ => ?_) (fun c9 => absurd (by decide) c9)
  refine lv_iconst (v := 1) hx hb dL_law_1349 (by decide) ?_
  refine va_forget (fun q hq => hA2 _ (hS.2.2 q hq)) ?_
  refine W.widen (k := 600000) (n := 7302250) (Nat.le_of_ble_eq_true rfl) (Nat.le_of_ble_eq_true rfl) ?_
  exact lw_ret hx hb hr hlocks dL_law_1350

set_option maxRecDepth 100000 in
set_option maxHeartbeats 4000000 in
/-- the law's case 12: X11_undo -/
theorem law_case_12 {p : Program} {l : Launch} {e : Env} {s : State} {m : MethodId} {below : List Frame} {meth : Method} {c : Code} {D : va_G} {cy : Nat → ClassId} {A : Nat → Prop} {b : Nat} {xs : Nat → Int32} (C0 : lw_At p s m meth c b 6 xs) (hA : ∀ q, s.heap.size ≤ q → A q) (hA2 : ∀ q, A q → s.heap.size ≤ q) (hK : myK D cy s) (h0 : Nat) (fs : List Value) (k0 : Nat) (fk : List Value) (m0 : Nat) (fm : List Value) (e_k : fs[4]? = some (.ref k0)) (e_k0 : fk[0]? = some (.int 0)) (e_m40 : fm[40]? = some (.int 0)) {H : Heap} {locs : List Loc} {ls : Array Slot} (hP : va_P D vwCl [(h0, .inr (11, fs)), (k0, .inr (8, fk)), (m0, .inr (12, fm))] H) (hD : va_D A [(h0, .inr (11, fs)), (k0, .inr (8, fk)), (m0, .inr (12, fm))]) (hS : va_S A s.heap H locs) (hl : lv_has ls 4 [(0, .ref b), (1, .ref h0), (2, .ref m0), (3, .int 0)]) : W p l e room_1 s m #[Value.ref b] below meth c H locs 189 143992 (lw_Z below #[Value.ref b] s) (F0 m 580 ls []) := by
  obtain ⟨hx, hb, hr, hml, hown, hts0, hX0, hbl, hlocks, hgv⟩ := id C0
  have hts := fun w h => hts0 w (wsL_law_in w h)
  have hown : s.vm.findClass RL = some m.cls := hown
  have hbA : ¬ A b := fun h => absurd hbl (Nat.not_lt.mpr (hA2 b h))
  refine lv_aload_n hx hb dL_law_580 rfl (lv_at hl 1 rfl) ?_
  refine cVi (As := []) (rest := []) (wr := [(m0, .inr (12, fm))]) ⟨hx, hb, hml, hown, hts⟩ (c_X11_undo l D cy h0 fs k0 fk e_k e_k0) (cwV 0 hts gL_law_X11_undo rfl rfl rfl (by decide +kernel) ⟨Nat.le_of_ble_eq_true rfl, Nat.le_of_ble_eq_true rfl⟩) hK hP hD hS hA [0, 1] [2] ⟨rfl, rfl, by decide +kernel, by decide +kernel, by decide +kernel⟩ 0 11 rfl rfl myX_T rfl hl.1 rfl (Nat.le_of_ble_eq_true rfl) dL_law_581 ⟨Nat.le_of_ble_eq_true rfl, Nat.le_of_ble_eq_true rfl⟩ (fun r_1 w_2 H locs hw hP hD hS => ?_)
  obtain ⟨rfl, rfl⟩ := hw
  have hP : va_P D vwCl [(m0, .inr (12, fm))] H := hP
  have hD : va_D A [(m0, .inr (12, fm))] := hD
  refine lv_aload_n hx hb dL_law_584 rfl (lv_at hl 2 rfl) ?_
  refine cVi (As := []) (rest := [.int 0]) (wr := []) ⟨hx, hb, hml, hown, hts⟩ (c_X12_undo l D cy m0 fm e_m40) (cwV 0 hts gL_law_X12_undo rfl rfl rfl (by decide +kernel) ⟨Nat.le_of_ble_eq_true rfl, Nat.le_of_ble_eq_true rfl⟩) hK hP hD hS hA [0] [] ⟨rfl, rfl, by decide +kernel, by decide +kernel, by decide +kernel⟩ 0 12 rfl rfl myX_T rfl hl.1 rfl (Nat.le_of_ble_eq_true rfl) dL_law_585 ⟨Nat.le_of_ble_eq_true rfl, Nat.le_of_ble_eq_true rfl⟩ (fun r_3 w_4 H locs hw hP hD hS => ?_)
  obtain ⟨rfl, rfl⟩ := hw
  have hP : va_P D vwCl [] H := hP
  have hD : va_D A [] := hD
  refine lv_icmp_eq (tgt := 1343) hx hb dL_law_588 (by decide) (fun _ => ?_) (fun c9 => absurd rfl c9)
  refine lv_iinc (v := 6) (lv' := [(3, .int 6), (0, .ref b), (1, .ref h0), (2, .ref m0)]) hx hb dL_law_1343 hl (k := 3) rfl (by decide) (by decide) rfl (fun ls hl => ?_)
  refine lv_goto (tgt := 18) hx hb dL_law_1346 (by decide) ?_
  refine lv_iload_n hx hb dL_law_18 rfl (lv_at hl 0 rfl) ?_
  refine lv_aload_n hx hb dL_law_19 rfl (lv_at hl 1 rfl) ?_
  refine va_slen hx hb hX0 hbl hbA hS dL_law_20 ?_
  refine tpI (v := 6) rfl ?_
  refine lv_bipush (v := 6) hx hb dL_law_21 (by decide) ?_
  refine lv_isub hx hb dL_law_23 ?_
  refine tpI (v := 0) (by decide) ?_
  refine lv_icmp_gt (tgt := 1349) hx hb dL_law_24 (by decide) (fun _ => ?_) (fun c9 => absurd (by decide) c9)
  refine lv_iconst (v := 1) hx hb dL_law_1349 (by decide) ?_
  refine va_forget (fun q hq => hA2 _ (hS.2.2 q hq)) ?_
  refine W.widen (k := 600000) (n := 7302250) (Nat.le_of_ble_eq_true rfl) (Nat.le_of_ble_eq_true rfl) ?_
  exact lw_ret hx hb hr hlocks dL_law_1350

set_option maxRecDepth 100000 in
set_option maxHeartbeats 4000000 in
/-- the law's case 13: X11_way -/
theorem law_case_13 {p : Program} {l : Launch} {e : Env} {s : State} {m : MethodId} {below : List Frame} {meth : Method} {c : Code} {D : va_G} {cy : Nat → ClassId} {A : Nat → Prop} {b : Nat} {xs : Nat → Int32} (C0 : lw_At p s m meth c b 6 xs) (hA : ∀ q, s.heap.size ≤ q → A q) (hA2 : ∀ q, A q → s.heap.size ≤ q) (hK : myK D cy s) (h0 : Nat) (fs : List Value) (t0 : Nat) (ft : List Value) (m0 : Nat) (fm : List Value) (ame : Nat) (gme : Nat → Int32) (e2 : fs[10]? = some (.ref t0)) (e_isMan : ft[3]? = some (.int 0)) (e_live : fm[18]? = some (.int 0)) (e_ame : fm[32]? = some (.ref ame)) (z_ame : ∀ j : Nat, j < 2 → gme j = 0) {H : Heap} {locs : List Loc} {ls : Array Slot} (hP : va_P D vwCl [(h0, .inr (11, fs)), (t0, .inr (7, ft)), (m0, .inr (12, fm)), (ame, .inl (cy 0, 2, .inl gme))] H) (hD : va_D A [(h0, .inr (11, fs)), (t0, .inr (7, ft)), (m0, .inr (12, fm)), (ame, .inl (cy 0, 2, .inl gme))]) (hS : va_S A s.heap H locs) (hl : lv_has ls 4 [(0, .ref b), (1, .ref h0), (2, .ref m0), (3, .int 0)]) : W p l e room_1 s m #[Value.ref b] below meth c H locs 189 143992 (lw_Z below #[Value.ref b] s) (F0 m 593 ls []) := by
  obtain ⟨hx, hb, hr, hml, hown, hts0, hX0, hbl, hlocks, hgv⟩ := id C0
  have hts := fun w h => hts0 w (wsL_law_in w h)
  have hown : s.vm.findClass RL = some m.cls := hown
  have hbA : ¬ A b := fun h => absurd hbl (Nat.not_lt.mpr (hA2 b h))
  refine lv_aload_n hx hb dL_law_593 rfl (lv_at hl 1 rfl) ?_
  refine lv_aload_n hx hb dL_law_594 rfl (lv_at hl 0 rfl) ?_
  refine lv_iload_n hx hb dL_law_595 rfl (lv_at hl 3 rfl) ?_
  refine lv_iconst (v := 1) hx hb dL_law_596 (by decide) ?_
  refine lv_iadd hx hb dL_law_597 ?_
  refine tpI (v := 1) (by decide) ?_
  refine va_sld hx hb hX0 hbl hbA hS (vp_in_nI (n := 1) (N := 6) (by decide) (by decide)) dL_law_598 ?_
  refine tpI (v := xs 1) rfl ?_
  refine lv_aload_n hx hb dL_law_599 rfl (lv_at hl 0 rfl) ?_
  refine lv_iload_n hx hb dL_law_600 rfl (lv_at hl 3 rfl) ?_
  refine lv_iconst (v := 2) hx hb dL_law_601 (by decide) ?_
  refine lv_iadd hx hb dL_law_602 ?_
  refine tpI (v := 2) (by decide) ?_
  refine va_sld hx hb hX0 hbl hbA hS (vp_in_nI (n := 2) (N := 6) (by decide) (by decide)) dL_law_603 ?_
  refine tpI (v := xs 2) rfl ?_
  refine lv_aload_n hx hb dL_law_604 rfl (lv_at hl 0 rfl) ?_
  refine lv_iload_n hx hb dL_law_605 rfl (lv_at hl 3 rfl) ?_
  refine lv_iconst (v := 3) hx hb dL_law_606 (by decide) ?_
  refine lv_iadd hx hb dL_law_607 ?_
  refine tpI (v := 3) (by decide) ?_
  refine va_sld hx hb hX0 hbl hbA hS (vp_in_nI (n := 3) (N := 6) (by decide) (by decide)) dL_law_608 ?_
  refine tpI (v := xs 3) rfl ?_
  refine lv_aload_n hx hb dL_law_609 rfl (lv_at hl 0 rfl) ?_
  refine lv_iload_n hx hb dL_law_610 rfl (lv_at hl 3 rfl) ?_
  refine lv_iconst (v := 4) hx hb dL_law_611 (by decide) ?_
  refine lv_iadd hx hb dL_law_612 ?_
  refine tpI (v := 4) (by decide) ?_
  refine va_sld hx hb hX0 hbl hbA hS (vp_in_nI (n := 4) (N := 6) (by decide) (by decide)) dL_law_613 ?_
  refine tpI (v := xs 4) rfl ?_
  refine lv_aload_n hx hb dL_law_614 rfl (lv_at hl 0 rfl) ?_
  refine lv_iload_n hx hb dL_law_615 rfl (lv_at hl 3 rfl) ?_
  refine lv_iconst (v := 5) hx hb dL_law_616 (by decide) ?_
  refine lv_iadd hx hb dL_law_617 ?_
  refine tpI (v := 5) (by decide) ?_
  refine va_sld hx hb hX0 hbl hbA hS (vp_in_nI (n := 5) (N := 6) (by decide) (by decide)) dL_law_618 ?_
  refine tpI (v := xs 5) rfl ?_
  refine cVi (As := [.int (xs 1), .int (xs 2), .int (xs 3), .int (xs 4), .int (xs 5)]) (rest := []) (wr := [(m0, .inr (12, fm)), (ame, .inl (cy 0, 2, .inl gme))]) ⟨hx, hb, hml, hown, hts⟩ (c_X11_way l D cy h0 fs t0 ft (xs 1) (xs 2) (xs 3) (xs 4) (xs 5) e2 e_isMan) (cwV 5 hts gL_law_X11_way rfl rfl rfl (by decide +kernel) ⟨Nat.le_of_ble_eq_true rfl, Nat.le_of_ble_eq_true rfl⟩) hK hP hD hS hA [0, 1] [2, 3] ⟨rfl, rfl, by decide +kernel, by decide +kernel, by decide +kernel⟩ 0 11 rfl rfl myX_T rfl hl.1 rfl (Nat.le_of_ble_eq_true rfl) dL_law_619 ⟨Nat.le_of_ble_eq_true rfl, Nat.le_of_ble_eq_true rfl⟩ (fun r_1 w_2 H locs hw hP hD hS => ?_)
  obtain ⟨rfl, rfl⟩ := hw
  have hP : va_P D vwCl [(m0, .inr (12, fm)), (ame, .inl (cy 0, 2, .inl gme))] H := hP
  have hD : va_D A [(m0, .inr (12, fm)), (ame, .inl (cy 0, 2, .inl gme))] := hD
  refine lv_aload_n hx hb dL_law_622 rfl (lv_at hl 2 rfl) ?_
  refine lv_aload_n hx hb dL_law_623 rfl (lv_at hl 0 rfl) ?_
  refine lv_iload_n hx hb dL_law_624 rfl (lv_at hl 3 rfl) ?_
  refine lv_iconst (v := 1) hx hb dL_law_625 (by decide) ?_
  refine lv_iadd hx hb dL_law_626 ?_
  refine tpI (v := 1) (by decide) ?_
  refine va_sld hx hb hX0 hbl hbA hS (vp_in_nI (n := 1) (N := 6) (by decide) (by decide)) dL_law_627 ?_
  refine tpI (v := xs 1) rfl ?_
  refine lv_aload_n hx hb dL_law_628 rfl (lv_at hl 0 rfl) ?_
  refine lv_iload_n hx hb dL_law_629 rfl (lv_at hl 3 rfl) ?_
  refine lv_iconst (v := 2) hx hb dL_law_630 (by decide) ?_
  refine lv_iadd hx hb dL_law_631 ?_
  refine tpI (v := 2) (by decide) ?_
  refine va_sld hx hb hX0 hbl hbA hS (vp_in_nI (n := 2) (N := 6) (by decide) (by decide)) dL_law_632 ?_
  refine tpI (v := xs 2) rfl ?_
  refine lv_aload_n hx hb dL_law_633 rfl (lv_at hl 0 rfl) ?_
  refine lv_iload_n hx hb dL_law_634 rfl (lv_at hl 3 rfl) ?_
  refine lv_iconst (v := 3) hx hb dL_law_635 (by decide) ?_
  refine lv_iadd hx hb dL_law_636 ?_
  refine tpI (v := 3) (by decide) ?_
  refine va_sld hx hb hX0 hbl hbA hS (vp_in_nI (n := 3) (N := 6) (by decide) (by decide)) dL_law_637 ?_
  refine tpI (v := xs 3) rfl ?_
  refine lv_aload_n hx hb dL_law_638 rfl (lv_at hl 0 rfl) ?_
  refine lv_iload_n hx hb dL_law_639 rfl (lv_at hl 3 rfl) ?_
  refine lv_iconst (v := 4) hx hb dL_law_640 (by decide) ?_
  refine lv_iadd hx hb dL_law_641 ?_
  refine tpI (v := 4) (by decide) ?_
  refine va_sld hx hb hX0 hbl hbA hS (vp_in_nI (n := 4) (N := 6) (by decide) (by decide)) dL_law_642 ?_
  refine tpI (v := xs 4) rfl ?_
  refine lv_aload_n hx hb dL_law_643 rfl (lv_at hl 0 rfl) ?_
  refine lv_iload_n hx hb dL_law_644 rfl (lv_at hl 3 rfl) ?_
  refine lv_iconst (v := 5) hx hb dL_law_645 (by decide) ?_
  refine lv_iadd hx hb dL_law_646 ?_
  refine tpI (v := 5) (by decide) ?_
  refine va_sld hx hb hX0 hbl hbA hS (vp_in_nI (n := 5) (N := 6) (by decide) (by decide)) dL_law_647 ?_
  refine tpI (v := xs 5) rfl ?_
  refine cVi (As := [.int (xs 1), .int (xs 2), .int (xs 3), .int (xs 4), .int (xs 5)]) (rest := [.int (-1)]) (wr := []) ⟨hx, hb, hml, hown, hts⟩ (c_X12_way l D cy m0 fm ame gme (xs 1) (xs 2) (xs 3) (xs 4) (xs 5) e_live e_ame z_ame) (cwV 5 hts gL_law_X12_way rfl rfl rfl (by decide +kernel) ⟨Nat.le_of_ble_eq_true rfl, Nat.le_of_ble_eq_true rfl⟩) hK hP hD hS hA [0, 1] [] ⟨rfl, rfl, by decide +kernel, by decide +kernel, by decide +kernel⟩ 0 12 rfl rfl myX_T rfl hl.1 rfl (Nat.le_of_ble_eq_true rfl) dL_law_648 ⟨Nat.le_of_ble_eq_true rfl, Nat.le_of_ble_eq_true rfl⟩ (fun r_3 w_4 H locs hw hP hD hS => ?_)
  obtain ⟨rfl, rfl⟩ := hw
  have hP : va_P D vwCl [] H := hP
  have hD : va_D A [] := hD
  refine lv_icmp_eq (tgt := 1343) hx hb dL_law_651 (by decide) (fun _ => ?_) (fun c9 => absurd rfl c9)
  refine lv_iinc (v := 6) (lv' := [(3, .int 6), (0, .ref b), (1, .ref h0), (2, .ref m0)]) hx hb dL_law_1343 hl (k := 3) rfl (by decide) (by decide) rfl (fun ls hl => ?_)
  refine lv_goto (tgt := 18) hx hb dL_law_1346 (by decide) ?_
  refine lv_iload_n hx hb dL_law_18 rfl (lv_at hl 0 rfl) ?_
  refine lv_aload_n hx hb dL_law_19 rfl (lv_at hl 1 rfl) ?_
  refine va_slen hx hb hX0 hbl hbA hS dL_law_20 ?_
  refine tpI (v := 6) rfl ?_
  refine lv_bipush (v := 6) hx hb dL_law_21 (by decide) ?_
  refine lv_isub hx hb dL_law_23 ?_
  refine tpI (v := 0) (by decide) ?_
  refine lv_icmp_gt (tgt := 1349) hx hb dL_law_24 (by decide) (fun _ => ?_) (fun c9 => absurd (by decide) c9)
  refine lv_iconst (v := 1) hx hb dL_law_1349 (by decide) ?_
  refine va_forget (fun q hq => hA2 _ (hS.2.2 q hq)) ?_
  refine W.widen (k := 600000) (n := 7302250) (Nat.le_of_ble_eq_true rfl) (Nat.le_of_ble_eq_true rfl) ?_
  exact lw_ret hx hb hr hlocks dL_law_1350

set_option maxRecDepth 100000 in
set_option maxHeartbeats 4000000 in
/-- the law's case 14: X11_step -/
theorem law_case_14 {p : Program} {l : Launch} {e : Env} {s : State} {m : MethodId} {below : List Frame} {meth : Method} {c : Code} {D : va_G} {cy : Nat → ClassId} {A : Nat → Prop} {b : Nat} {xs : Nat → Int32} (C0 : lw_At p s m meth c b 6 xs) (hA : ∀ q, s.heap.size ≤ q → A q) (hA2 : ∀ q, A q → s.heap.size ≤ q) (hK : myK D cy s) (h0 : Nat) (fs : List Value) (t0 : Nat) (ft : List Value) (m0 : Nat) (fm : List Value) (ame : Nat) (gme : Nat → Int32) (e2 : fs[10]? = some (.ref t0)) (e_isMan : ft[3]? = some (.int 0)) (e_live : fm[18]? = some (.int 0)) (e_ame : fm[32]? = some (.ref ame)) (z_ame : ∀ j : Nat, j < 2 → gme j = 0) {H : Heap} {locs : List Loc} {ls : Array Slot} (hP : va_P D vwCl [(h0, .inr (11, fs)), (t0, .inr (7, ft)), (m0, .inr (12, fm)), (ame, .inl (cy 0, 2, .inl gme))] H) (hD : va_D A [(h0, .inr (11, fs)), (t0, .inr (7, ft)), (m0, .inr (12, fm)), (ame, .inl (cy 0, 2, .inl gme))]) (hS : va_S A s.heap H locs) (hl : lv_has ls 4 [(0, .ref b), (1, .ref h0), (2, .ref m0), (3, .int 0)]) : W p l e room_1 s m #[Value.ref b] below meth c H locs 189 143992 (lw_Z below #[Value.ref b] s) (F0 m 656 ls []) := by
  obtain ⟨hx, hb, hr, hml, hown, hts0, hX0, hbl, hlocks, hgv⟩ := id C0
  have hts := fun w h => hts0 w (wsL_law_in w h)
  have hown : s.vm.findClass RL = some m.cls := hown
  have hbA : ¬ A b := fun h => absurd hbl (Nat.not_lt.mpr (hA2 b h))
  refine lv_aload_n hx hb dL_law_656 rfl (lv_at hl 1 rfl) ?_
  refine lv_aload_n hx hb dL_law_657 rfl (lv_at hl 0 rfl) ?_
  refine lv_iload_n hx hb dL_law_658 rfl (lv_at hl 3 rfl) ?_
  refine lv_iconst (v := 1) hx hb dL_law_659 (by decide) ?_
  refine lv_iadd hx hb dL_law_660 ?_
  refine tpI (v := 1) (by decide) ?_
  refine va_sld hx hb hX0 hbl hbA hS (vp_in_nI (n := 1) (N := 6) (by decide) (by decide)) dL_law_661 ?_
  refine tpI (v := xs 1) rfl ?_
  refine lv_aload_n hx hb dL_law_662 rfl (lv_at hl 0 rfl) ?_
  refine lv_iload_n hx hb dL_law_663 rfl (lv_at hl 3 rfl) ?_
  refine lv_iconst (v := 2) hx hb dL_law_664 (by decide) ?_
  refine lv_iadd hx hb dL_law_665 ?_
  refine tpI (v := 2) (by decide) ?_
  refine va_sld hx hb hX0 hbl hbA hS (vp_in_nI (n := 2) (N := 6) (by decide) (by decide)) dL_law_666 ?_
  refine tpI (v := xs 2) rfl ?_
  refine lv_aload_n hx hb dL_law_667 rfl (lv_at hl 0 rfl) ?_
  refine lv_iload_n hx hb dL_law_668 rfl (lv_at hl 3 rfl) ?_
  refine lv_iconst (v := 3) hx hb dL_law_669 (by decide) ?_
  refine lv_iadd hx hb dL_law_670 ?_
  refine tpI (v := 3) (by decide) ?_
  refine va_sld hx hb hX0 hbl hbA hS (vp_in_nI (n := 3) (N := 6) (by decide) (by decide)) dL_law_671 ?_
  refine tpI (v := xs 3) rfl ?_
  refine lv_aload_n hx hb dL_law_672 rfl (lv_at hl 0 rfl) ?_
  refine lv_iload_n hx hb dL_law_673 rfl (lv_at hl 3 rfl) ?_
  refine lv_iconst (v := 4) hx hb dL_law_674 (by decide) ?_
  refine lv_iadd hx hb dL_law_675 ?_
  refine tpI (v := 4) (by decide) ?_
  refine va_sld hx hb hX0 hbl hbA hS (vp_in_nI (n := 4) (N := 6) (by decide) (by decide)) dL_law_676 ?_
  refine tpI (v := xs 4) rfl ?_
  refine lv_aload_n hx hb dL_law_677 rfl (lv_at hl 0 rfl) ?_
  refine lv_iload_n hx hb dL_law_678 rfl (lv_at hl 3 rfl) ?_
  refine lv_iconst (v := 5) hx hb dL_law_679 (by decide) ?_
  refine lv_iadd hx hb dL_law_680 ?_
  refine tpI (v := 5) (by decide) ?_
  refine va_sld hx hb hX0 hbl hbA hS (vp_in_nI (n := 5) (N := 6) (by decide) (by decide)) dL_law_681 ?_
  refine tpI (v := xs 5) rfl ?_
  refine cVi (As := [.int (xs 1), .int (xs 2), .int (xs 3), .int (xs 4), .int (xs 5)]) (rest := []) (wr := [(m0, .inr (12, fm)), (ame, .inl (cy 0, 2, .inl gme))]) ⟨hx, hb, hml, hown, hts⟩ (c_X11_step l D cy h0 fs t0 ft (xs 1) (xs 2) (xs 3) (xs 4) (xs 5) e2 e_isMan) (cwV 5 hts gL_law_X11_step rfl rfl rfl (by decide +kernel) ⟨Nat.le_of_ble_eq_true rfl, Nat.le_of_ble_eq_true rfl⟩) hK hP hD hS hA [0, 1] [2, 3] ⟨rfl, rfl, by decide +kernel, by decide +kernel, by decide +kernel⟩ 0 11 rfl rfl myX_T rfl hl.1 rfl (Nat.le_of_ble_eq_true rfl) dL_law_682 ⟨Nat.le_of_ble_eq_true rfl, Nat.le_of_ble_eq_true rfl⟩ (fun r_1 w_2 H locs hw hP hD hS => ?_)
  obtain ⟨rfl, rfl⟩ := hw
  have hP : va_P D vwCl [(m0, .inr (12, fm)), (ame, .inl (cy 0, 2, .inl gme))] H := hP
  have hD : va_D A [(m0, .inr (12, fm)), (ame, .inl (cy 0, 2, .inl gme))] := hD
  refine lv_aload_n hx hb dL_law_685 rfl (lv_at hl 2 rfl) ?_
  refine lv_aload_n hx hb dL_law_686 rfl (lv_at hl 0 rfl) ?_
  refine lv_iload_n hx hb dL_law_687 rfl (lv_at hl 3 rfl) ?_
  refine lv_iconst (v := 1) hx hb dL_law_688 (by decide) ?_
  refine lv_iadd hx hb dL_law_689 ?_
  refine tpI (v := 1) (by decide) ?_
  refine va_sld hx hb hX0 hbl hbA hS (vp_in_nI (n := 1) (N := 6) (by decide) (by decide)) dL_law_690 ?_
  refine tpI (v := xs 1) rfl ?_
  refine lv_aload_n hx hb dL_law_691 rfl (lv_at hl 0 rfl) ?_
  refine lv_iload_n hx hb dL_law_692 rfl (lv_at hl 3 rfl) ?_
  refine lv_iconst (v := 2) hx hb dL_law_693 (by decide) ?_
  refine lv_iadd hx hb dL_law_694 ?_
  refine tpI (v := 2) (by decide) ?_
  refine va_sld hx hb hX0 hbl hbA hS (vp_in_nI (n := 2) (N := 6) (by decide) (by decide)) dL_law_695 ?_
  refine tpI (v := xs 2) rfl ?_
  refine lv_aload_n hx hb dL_law_696 rfl (lv_at hl 0 rfl) ?_
  refine lv_iload_n hx hb dL_law_697 rfl (lv_at hl 3 rfl) ?_
  refine lv_iconst (v := 3) hx hb dL_law_698 (by decide) ?_
  refine lv_iadd hx hb dL_law_699 ?_
  refine tpI (v := 3) (by decide) ?_
  refine va_sld hx hb hX0 hbl hbA hS (vp_in_nI (n := 3) (N := 6) (by decide) (by decide)) dL_law_700 ?_
  refine tpI (v := xs 3) rfl ?_
  refine lv_aload_n hx hb dL_law_701 rfl (lv_at hl 0 rfl) ?_
  refine lv_iload_n hx hb dL_law_702 rfl (lv_at hl 3 rfl) ?_
  refine lv_iconst (v := 4) hx hb dL_law_703 (by decide) ?_
  refine lv_iadd hx hb dL_law_704 ?_
  refine tpI (v := 4) (by decide) ?_
  refine va_sld hx hb hX0 hbl hbA hS (vp_in_nI (n := 4) (N := 6) (by decide) (by decide)) dL_law_705 ?_
  refine tpI (v := xs 4) rfl ?_
  refine lv_aload_n hx hb dL_law_706 rfl (lv_at hl 0 rfl) ?_
  refine lv_iload_n hx hb dL_law_707 rfl (lv_at hl 3 rfl) ?_
  refine lv_iconst (v := 5) hx hb dL_law_708 (by decide) ?_
  refine lv_iadd hx hb dL_law_709 ?_
  refine tpI (v := 5) (by decide) ?_
  refine va_sld hx hb hX0 hbl hbA hS (vp_in_nI (n := 5) (N := 6) (by decide) (by decide)) dL_law_710 ?_
  refine tpI (v := xs 5) rfl ?_
  refine cVi (As := [.int (xs 1), .int (xs 2), .int (xs 3), .int (xs 4), .int (xs 5)]) (rest := [.int (-1)]) (wr := []) ⟨hx, hb, hml, hown, hts⟩ (c_X12_step l D cy m0 fm ame gme (xs 1) (xs 2) (xs 3) (xs 4) (xs 5) e_live e_ame z_ame) (cwV 5 hts gL_law_X12_step rfl rfl rfl (by decide +kernel) ⟨Nat.le_of_ble_eq_true rfl, Nat.le_of_ble_eq_true rfl⟩) hK hP hD hS hA [0, 1] [] ⟨rfl, rfl, by decide +kernel, by decide +kernel, by decide +kernel⟩ 0 12 rfl rfl myX_T rfl hl.1 rfl (Nat.le_of_ble_eq_true rfl) dL_law_711 ⟨Nat.le_of_ble_eq_true rfl, Nat.le_of_ble_eq_true rfl⟩ (fun r_3 w_4 H locs hw hP hD hS => ?_)
  obtain ⟨rfl, rfl⟩ := hw
  have hP : va_P D vwCl [] H := hP
  have hD : va_D A [] := hD
  refine lv_icmp_eq (tgt := 1343) hx hb dL_law_714 (by decide) (fun _ => ?_) (fun c9 => absurd rfl c9)
  refine lv_iinc (v := 6) (lv' := [(3, .int 6), (0, .ref b), (1, .ref h0), (2, .ref m0)]) hx hb dL_law_1343 hl (k := 3) rfl (by decide) (by decide) rfl (fun ls hl => ?_)
  refine lv_goto (tgt := 18) hx hb dL_law_1346 (by decide) ?_
  refine lv_iload_n hx hb dL_law_18 rfl (lv_at hl 0 rfl) ?_
  refine lv_aload_n hx hb dL_law_19 rfl (lv_at hl 1 rfl) ?_
  refine va_slen hx hb hX0 hbl hbA hS dL_law_20 ?_
  refine tpI (v := 6) rfl ?_
  refine lv_bipush (v := 6) hx hb dL_law_21 (by decide) ?_
  refine lv_isub hx hb dL_law_23 ?_
  refine tpI (v := 0) (by decide) ?_
  refine lv_icmp_gt (tgt := 1349) hx hb dL_law_24 (by decide) (fun _ => ?_) (fun c9 => absurd (by decide) c9)
  refine lv_iconst (v := 1) hx hb dL_law_1349 (by decide) ?_
  refine va_forget (fun q hq => hA2 _ (hS.2.2 q hq)) ?_
  refine W.widen (k := 600000) (n := 7302250) (Nat.le_of_ble_eq_true rfl) (Nat.le_of_ble_eq_true rfl) ?_
  exact lw_ret hx hb hr hlocks dL_law_1350

set_option maxRecDepth 100000 in
set_option maxHeartbeats 4000000 in
/-- the law's case 15: X11_rid -/
theorem law_case_15 {p : Program} {l : Launch} {e : Env} {s : State} {m : MethodId} {below : List Frame} {meth : Method} {c : Code} {D : va_G} {cy : Nat → ClassId} {A : Nat → Prop} {b : Nat} {xs : Nat → Int32} (C0 : lw_At p s m meth c b 6 xs) (hA : ∀ q, s.heap.size ≤ q → A q) (hA2 : ∀ q, A q → s.heap.size ≤ q) (hK : myK D cy s) (h0 : Nat) (fs : List Value) (t0 : Nat) (ft : List Value) (m0 : Nat) (fm : List Value) (ame : Nat) (gme : Nat → Int32) (e2 : fs[10]? = some (.ref t0)) (e_isMan : ft[3]? = some (.int 0)) (e_live : fm[18]? = some (.int 0)) (e_ame : fm[32]? = some (.ref ame)) (z_ame : ∀ j : Nat, j < 2 → gme j = 0) {H : Heap} {locs : List Loc} {ls : Array Slot} (hP : va_P D vwCl [(h0, .inr (11, fs)), (t0, .inr (7, ft)), (m0, .inr (12, fm)), (ame, .inl (cy 0, 2, .inl gme))] H) (hD : va_D A [(h0, .inr (11, fs)), (t0, .inr (7, ft)), (m0, .inr (12, fm)), (ame, .inl (cy 0, 2, .inl gme))]) (hS : va_S A s.heap H locs) (hl : lv_has ls 4 [(0, .ref b), (1, .ref h0), (2, .ref m0), (3, .int 0)]) : W p l e room_1 s m #[Value.ref b] below meth c H locs 189 143992 (lw_Z below #[Value.ref b] s) (F0 m 719 ls []) := by
  obtain ⟨hx, hb, hr, hml, hown, hts0, hX0, hbl, hlocks, hgv⟩ := id C0
  have hts := fun w h => hts0 w (wsL_law_in w h)
  have hown : s.vm.findClass RL = some m.cls := hown
  have hbA : ¬ A b := fun h => absurd hbl (Nat.not_lt.mpr (hA2 b h))
  refine lv_aload_n hx hb dL_law_719 rfl (lv_at hl 1 rfl) ?_
  refine lv_aload_n hx hb dL_law_720 rfl (lv_at hl 0 rfl) ?_
  refine lv_iload_n hx hb dL_law_721 rfl (lv_at hl 3 rfl) ?_
  refine lv_iconst (v := 1) hx hb dL_law_722 (by decide) ?_
  refine lv_iadd hx hb dL_law_723 ?_
  refine tpI (v := 1) (by decide) ?_
  refine va_sld hx hb hX0 hbl hbA hS (vp_in_nI (n := 1) (N := 6) (by decide) (by decide)) dL_law_724 ?_
  refine tpI (v := xs 1) rfl ?_
  refine lv_aload_n hx hb dL_law_725 rfl (lv_at hl 0 rfl) ?_
  refine lv_iload_n hx hb dL_law_726 rfl (lv_at hl 3 rfl) ?_
  refine lv_iconst (v := 2) hx hb dL_law_727 (by decide) ?_
  refine lv_iadd hx hb dL_law_728 ?_
  refine tpI (v := 2) (by decide) ?_
  refine va_sld hx hb hX0 hbl hbA hS (vp_in_nI (n := 2) (N := 6) (by decide) (by decide)) dL_law_729 ?_
  refine tpI (v := xs 2) rfl ?_
  refine lv_aload_n hx hb dL_law_730 rfl (lv_at hl 0 rfl) ?_
  refine lv_iload_n hx hb dL_law_731 rfl (lv_at hl 3 rfl) ?_
  refine lv_iconst (v := 3) hx hb dL_law_732 (by decide) ?_
  refine lv_iadd hx hb dL_law_733 ?_
  refine tpI (v := 3) (by decide) ?_
  refine va_sld hx hb hX0 hbl hbA hS (vp_in_nI (n := 3) (N := 6) (by decide) (by decide)) dL_law_734 ?_
  refine tpI (v := xs 3) rfl ?_
  refine lv_aload_n hx hb dL_law_735 rfl (lv_at hl 0 rfl) ?_
  refine lv_iload_n hx hb dL_law_736 rfl (lv_at hl 3 rfl) ?_
  refine lv_iconst (v := 4) hx hb dL_law_737 (by decide) ?_
  refine lv_iadd hx hb dL_law_738 ?_
  refine tpI (v := 4) (by decide) ?_
  refine va_sld hx hb hX0 hbl hbA hS (vp_in_nI (n := 4) (N := 6) (by decide) (by decide)) dL_law_739 ?_
  refine tpI (v := xs 4) rfl ?_
  refine cVi (As := [.int (xs 1), .int (xs 2), .int (xs 3), .int (xs 4)]) (rest := []) (wr := [(m0, .inr (12, fm)), (ame, .inl (cy 0, 2, .inl gme))]) ⟨hx, hb, hml, hown, hts⟩ (c_X11_rid l D cy h0 fs t0 ft (xs 1) (xs 2) (xs 3) (xs 4) e2 e_isMan) (cwV 4 hts gL_law_X11_rid rfl rfl rfl (by decide +kernel) ⟨Nat.le_of_ble_eq_true rfl, Nat.le_of_ble_eq_true rfl⟩) hK hP hD hS hA [0, 1] [2, 3] ⟨rfl, rfl, by decide +kernel, by decide +kernel, by decide +kernel⟩ 0 11 rfl rfl myX_T rfl hl.1 rfl (Nat.le_of_ble_eq_true rfl) dL_law_740 ⟨Nat.le_of_ble_eq_true rfl, Nat.le_of_ble_eq_true rfl⟩ (fun r_1 w_2 H locs hw hP hD hS => ?_)
  obtain ⟨rfl, rfl⟩ := hw
  have hP : va_P D vwCl [(m0, .inr (12, fm)), (ame, .inl (cy 0, 2, .inl gme))] H := hP
  have hD : va_D A [(m0, .inr (12, fm)), (ame, .inl (cy 0, 2, .inl gme))] := hD
  refine lv_aload_n hx hb dL_law_743 rfl (lv_at hl 2 rfl) ?_
  refine lv_aload_n hx hb dL_law_744 rfl (lv_at hl 0 rfl) ?_
  refine lv_iload_n hx hb dL_law_745 rfl (lv_at hl 3 rfl) ?_
  refine lv_iconst (v := 1) hx hb dL_law_746 (by decide) ?_
  refine lv_iadd hx hb dL_law_747 ?_
  refine tpI (v := 1) (by decide) ?_
  refine va_sld hx hb hX0 hbl hbA hS (vp_in_nI (n := 1) (N := 6) (by decide) (by decide)) dL_law_748 ?_
  refine tpI (v := xs 1) rfl ?_
  refine lv_aload_n hx hb dL_law_749 rfl (lv_at hl 0 rfl) ?_
  refine lv_iload_n hx hb dL_law_750 rfl (lv_at hl 3 rfl) ?_
  refine lv_iconst (v := 2) hx hb dL_law_751 (by decide) ?_
  refine lv_iadd hx hb dL_law_752 ?_
  refine tpI (v := 2) (by decide) ?_
  refine va_sld hx hb hX0 hbl hbA hS (vp_in_nI (n := 2) (N := 6) (by decide) (by decide)) dL_law_753 ?_
  refine tpI (v := xs 2) rfl ?_
  refine lv_aload_n hx hb dL_law_754 rfl (lv_at hl 0 rfl) ?_
  refine lv_iload_n hx hb dL_law_755 rfl (lv_at hl 3 rfl) ?_
  refine lv_iconst (v := 3) hx hb dL_law_756 (by decide) ?_
  refine lv_iadd hx hb dL_law_757 ?_
  refine tpI (v := 3) (by decide) ?_
  refine va_sld hx hb hX0 hbl hbA hS (vp_in_nI (n := 3) (N := 6) (by decide) (by decide)) dL_law_758 ?_
  refine tpI (v := xs 3) rfl ?_
  refine lv_aload_n hx hb dL_law_759 rfl (lv_at hl 0 rfl) ?_
  refine lv_iload_n hx hb dL_law_760 rfl (lv_at hl 3 rfl) ?_
  refine lv_iconst (v := 4) hx hb dL_law_761 (by decide) ?_
  refine lv_iadd hx hb dL_law_762 ?_
  refine tpI (v := 4) (by decide) ?_
  refine va_sld hx hb hX0 hbl hbA hS (vp_in_nI (n := 4) (N := 6) (by decide) (by decide)) dL_law_763 ?_
  refine tpI (v := xs 4) rfl ?_
  refine cVi (As := [.int (xs 1), .int (xs 2), .int (xs 3), .int (xs 4)]) (rest := [.int (-1)]) (wr := []) ⟨hx, hb, hml, hown, hts⟩ (c_X12_rid l D cy m0 fm ame gme (xs 1) (xs 2) (xs 3) (xs 4) e_live e_ame z_ame) (cwV 4 hts gL_law_X12_rid rfl rfl rfl (by decide +kernel) ⟨Nat.le_of_ble_eq_true rfl, Nat.le_of_ble_eq_true rfl⟩) hK hP hD hS hA [0, 1] [] ⟨rfl, rfl, by decide +kernel, by decide +kernel, by decide +kernel⟩ 0 12 rfl rfl myX_T rfl hl.1 rfl (Nat.le_of_ble_eq_true rfl) dL_law_764 ⟨Nat.le_of_ble_eq_true rfl, Nat.le_of_ble_eq_true rfl⟩ (fun r_3 w_4 H locs hw hP hD hS => ?_)
  obtain ⟨rfl, rfl⟩ := hw
  have hP : va_P D vwCl [] H := hP
  have hD : va_D A [] := hD
  refine lv_icmp_eq (tgt := 1343) hx hb dL_law_767 (by decide) (fun _ => ?_) (fun c9 => absurd rfl c9)
  refine lv_iinc (v := 6) (lv' := [(3, .int 6), (0, .ref b), (1, .ref h0), (2, .ref m0)]) hx hb dL_law_1343 hl (k := 3) rfl (by decide) (by decide) rfl (fun ls hl => ?_)
  refine lv_goto (tgt := 18) hx hb dL_law_1346 (by decide) ?_
  refine lv_iload_n hx hb dL_law_18 rfl (lv_at hl 0 rfl) ?_
  refine lv_aload_n hx hb dL_law_19 rfl (lv_at hl 1 rfl) ?_
  refine va_slen hx hb hX0 hbl hbA hS dL_law_20 ?_
  refine tpI (v := 6) rfl ?_
  refine lv_bipush (v := 6) hx hb dL_law_21 (by decide) ?_
  refine lv_isub hx hb dL_law_23 ?_
  refine tpI (v := 0) (by decide) ?_
  refine lv_icmp_gt (tgt := 1349) hx hb dL_law_24 (by decide) (fun _ => ?_) (fun c9 => absurd (by decide) c9)
  refine lv_iconst (v := 1) hx hb dL_law_1349 (by decide) ?_
  refine va_forget (fun q hq => hA2 _ (hS.2.2 q hq)) ?_
  refine W.widen (k := 600000) (n := 7302250) (Nat.le_of_ble_eq_true rfl) (Nat.le_of_ble_eq_true rfl) ?_
  exact lw_ret hx hb hr hlocks dL_law_1350

set_option maxRecDepth 100000 in
set_option maxHeartbeats 4000000 in
/-- the law's case 16: X11_get -/
theorem law_case_16 {p : Program} {l : Launch} {e : Env} {s : State} {m : MethodId} {below : List Frame} {meth : Method} {c : Code} {D : va_G} {cy : Nat → ClassId} {A : Nat → Prop} {b : Nat} {xs : Nat → Int32} (C0 : lw_At p s m meth c b 6 xs) (hA : ∀ q, s.heap.size ≤ q → A q) (hA2 : ∀ q, A q → s.heap.size ≤ q) (hK : myK D cy s) (h0 : Nat) (fs : List Value) (t0 : Nat) (ft : List Value) (m0 : Nat) (fm : List Value) (ame : Nat) (gme : Nat → Int32) (e2 : fs[10]? = some (.ref t0)) (e_isMan : ft[3]? = some (.int 0)) (e_live : fm[18]? = some (.int 0)) (e_ame : fm[32]? = some (.ref ame)) (z_ame : ∀ j : Nat, j < 2 → gme j = 0) {H : Heap} {locs : List Loc} {ls : Array Slot} (hP : va_P D vwCl [(h0, .inr (11, fs)), (t0, .inr (7, ft)), (m0, .inr (12, fm)), (ame, .inl (cy 0, 2, .inl gme))] H) (hD : va_D A [(h0, .inr (11, fs)), (t0, .inr (7, ft)), (m0, .inr (12, fm)), (ame, .inl (cy 0, 2, .inl gme))]) (hS : va_S A s.heap H locs) (hl : lv_has ls 4 [(0, .ref b), (1, .ref h0), (2, .ref m0), (3, .int 0)]) : W p l e room_1 s m #[Value.ref b] below meth c H locs 189 143992 (lw_Z below #[Value.ref b] s) (F0 m 772 ls []) := by
  obtain ⟨hx, hb, hr, hml, hown, hts0, hX0, hbl, hlocks, hgv⟩ := id C0
  have hts := fun w h => hts0 w (wsL_law_in w h)
  have hown : s.vm.findClass RL = some m.cls := hown
  have hbA : ¬ A b := fun h => absurd hbl (Nat.not_lt.mpr (hA2 b h))
  refine lv_aload_n hx hb dL_law_772 rfl (lv_at hl 1 rfl) ?_
  refine lv_aload_n hx hb dL_law_773 rfl (lv_at hl 0 rfl) ?_
  refine lv_iload_n hx hb dL_law_774 rfl (lv_at hl 3 rfl) ?_
  refine lv_iconst (v := 1) hx hb dL_law_775 (by decide) ?_
  refine lv_iadd hx hb dL_law_776 ?_
  refine tpI (v := 1) (by decide) ?_
  refine va_sld hx hb hX0 hbl hbA hS (vp_in_nI (n := 1) (N := 6) (by decide) (by decide)) dL_law_777 ?_
  refine tpI (v := xs 1) rfl ?_
  refine lv_aload_n hx hb dL_law_778 rfl (lv_at hl 0 rfl) ?_
  refine lv_iload_n hx hb dL_law_779 rfl (lv_at hl 3 rfl) ?_
  refine lv_iconst (v := 2) hx hb dL_law_780 (by decide) ?_
  refine lv_iadd hx hb dL_law_781 ?_
  refine tpI (v := 2) (by decide) ?_
  refine va_sld hx hb hX0 hbl hbA hS (vp_in_nI (n := 2) (N := 6) (by decide) (by decide)) dL_law_782 ?_
  refine tpI (v := xs 2) rfl ?_
  refine cVi (As := [.int (xs 1), .int (xs 2)]) (rest := []) (wr := [(m0, .inr (12, fm)), (ame, .inl (cy 0, 2, .inl gme))]) ⟨hx, hb, hml, hown, hts⟩ (c_X11_get l D cy h0 fs t0 ft (xs 1) (xs 2) e2 e_isMan) (cwV 2 hts gL_law_X11_get rfl rfl rfl (by decide +kernel) ⟨Nat.le_of_ble_eq_true rfl, Nat.le_of_ble_eq_true rfl⟩) hK hP hD hS hA [0, 1] [2, 3] ⟨rfl, rfl, by decide +kernel, by decide +kernel, by decide +kernel⟩ 0 11 rfl rfl myX_T rfl hl.1 rfl (Nat.le_of_ble_eq_true rfl) dL_law_783 ⟨Nat.le_of_ble_eq_true rfl, Nat.le_of_ble_eq_true rfl⟩ (fun r_1 w_2 H locs hw hP hD hS => ?_)
  obtain ⟨rfl, rfl⟩ := hw
  have hP : va_P D vwCl [(m0, .inr (12, fm)), (ame, .inl (cy 0, 2, .inl gme))] H := hP
  have hD : va_D A [(m0, .inr (12, fm)), (ame, .inl (cy 0, 2, .inl gme))] := hD
  refine lv_aload_n hx hb dL_law_786 rfl (lv_at hl 2 rfl) ?_
  refine lv_aload_n hx hb dL_law_787 rfl (lv_at hl 0 rfl) ?_
  refine lv_iload_n hx hb dL_law_788 rfl (lv_at hl 3 rfl) ?_
  refine lv_iconst (v := 1) hx hb dL_law_789 (by decide) ?_
  refine lv_iadd hx hb dL_law_790 ?_
  refine tpI (v := 1) (by decide) ?_
  refine va_sld hx hb hX0 hbl hbA hS (vp_in_nI (n := 1) (N := 6) (by decide) (by decide)) dL_law_791 ?_
  refine tpI (v := xs 1) rfl ?_
  refine lv_aload_n hx hb dL_law_792 rfl (lv_at hl 0 rfl) ?_
  refine lv_iload_n hx hb dL_law_793 rfl (lv_at hl 3 rfl) ?_
  refine lv_iconst (v := 2) hx hb dL_law_794 (by decide) ?_
  refine lv_iadd hx hb dL_law_795 ?_
  refine tpI (v := 2) (by decide) ?_
  refine va_sld hx hb hX0 hbl hbA hS (vp_in_nI (n := 2) (N := 6) (by decide) (by decide)) dL_law_796 ?_
  refine tpI (v := xs 2) rfl ?_
  refine cVi (As := [.int (xs 1), .int (xs 2)]) (rest := [.int (-1)]) (wr := []) ⟨hx, hb, hml, hown, hts⟩ (c_X12_get l D cy m0 fm ame gme (xs 1) (xs 2) e_live e_ame z_ame) (cwV 2 hts gL_law_X12_get rfl rfl rfl (by decide +kernel) ⟨Nat.le_of_ble_eq_true rfl, Nat.le_of_ble_eq_true rfl⟩) hK hP hD hS hA [0, 1] [] ⟨rfl, rfl, by decide +kernel, by decide +kernel, by decide +kernel⟩ 0 12 rfl rfl myX_T rfl hl.1 rfl (Nat.le_of_ble_eq_true rfl) dL_law_797 ⟨Nat.le_of_ble_eq_true rfl, Nat.le_of_ble_eq_true rfl⟩ (fun r_3 w_4 H locs hw hP hD hS => ?_)
  obtain ⟨rfl, rfl⟩ := hw
  have hP : va_P D vwCl [] H := hP
  have hD : va_D A [] := hD
  refine lv_icmp_eq (tgt := 1343) hx hb dL_law_800 (by decide) (fun _ => ?_) (fun c9 => absurd rfl c9)
  refine lv_iinc (v := 6) (lv' := [(3, .int 6), (0, .ref b), (1, .ref h0), (2, .ref m0)]) hx hb dL_law_1343 hl (k := 3) rfl (by decide) (by decide) rfl (fun ls hl => ?_)
  refine lv_goto (tgt := 18) hx hb dL_law_1346 (by decide) ?_
  refine lv_iload_n hx hb dL_law_18 rfl (lv_at hl 0 rfl) ?_
  refine lv_aload_n hx hb dL_law_19 rfl (lv_at hl 1 rfl) ?_
  refine va_slen hx hb hX0 hbl hbA hS dL_law_20 ?_
  refine tpI (v := 6) rfl ?_
  refine lv_bipush (v := 6) hx hb dL_law_21 (by decide) ?_
  refine lv_isub hx hb dL_law_23 ?_
  refine tpI (v := 0) (by decide) ?_
  refine lv_icmp_gt (tgt := 1349) hx hb dL_law_24 (by decide) (fun _ => ?_) (fun c9 => absurd (by decide) c9)
  refine lv_iconst (v := 1) hx hb dL_law_1349 (by decide) ?_
  refine va_forget (fun q hq => hA2 _ (hS.2.2 q hq)) ?_
  refine W.widen (k := 600000) (n := 7302250) (Nat.le_of_ble_eq_true rfl) (Nat.le_of_ble_eq_true rfl) ?_
  exact lw_ret hx hb hr hlocks dL_law_1350
