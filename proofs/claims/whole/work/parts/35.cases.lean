set_option maxHeartbeats 4000000 in
set_option maxRecDepth 100000 in
theorem lw_c2 {p : Program} {e : Env} {s : State} {m : MethodId} {below : List Frame} {meth : Method} {c : Code} (l : Launch) {b0 L : Nat} {xs : Nat → Int32} (hlx : l.stackTraces = false) (hL : L ≤ 1538) (C0 : lw_At p s m meth c b0 L xs) (A : Nat → Prop) (hA : ∀ q : Nat, s.heap.size ≤ q → A q) (hbA : ¬ A b0) (hX0 : ag_x A s s.heap) (dC : Nat → ClassId) (dI : Nat → Nat → Nat) (a qm qs qt qw b qn qk qo : Nat) (cI cJ : ClassId) (G R : Nat) (hK : va_K (dC, dI) agCl [(cI, .int), (cJ, .long)] s) (j : Nat) (hj : 3 * j + 5 ≤ L) (kk : lw_K p l e s m below meth c b0 A dC dI a qm qs qt qw b qn qk qo cI cJ G R j)
    (cd nw en mo la go sp : Nat) (f g : Nat → Int32) (w : Nat → Int64) (f2 g2 : Nat → Int32) (o : Nat → Int64) (ms : ag_M) (hI : lw_inv G R nw en mo ms f g w f2 g2) (H : Heap) (locs : List Loc) (hP : va_P (dC, dI) agCl [(qo, .inl (cJ, 1, .inr (.inl o))), (a, .inr (1, [.int (nI G), .int (nI R), .ref qm, .ref qs, .ref qt, .int (nI ms.length), .long (lN nw), .long (lN en), .int (nI mo), .long (lN la), .long (lN go), .long (lN sp)])), (qm, .inl (cI, 320, .inl f)), (qs, .inl (cI, 320, .inl g)), (qt, .inr (0, [.ref qw])), (qw, .inl (cJ, 5, .inr (.inl w))), (b, .inr (2, [.int (nI cd), .int (nI G), .int (nI R), .long (lN en), .long (lN nw), .int (nI ms.length), .ref qn, .ref qk, .int (nI mo), .long (lN la), .long (lN go), .long (lN sp)])), (qn, .inl (cI, 1200, .inl f2)), (qk, .inl (cI, 1200, .inl g2))] H) (hD : va_D A [(qo, .inl (cJ, 1, .inr (.inl o))), (a, .inr (1, [.int (nI G), .int (nI R), .ref qm, .ref qs, .ref qt, .int (nI ms.length), .long (lN nw), .long (lN en), .int (nI mo), .long (lN la), .long (lN go), .long (lN sp)])), (qm, .inl (cI, 320, .inl f)), (qs, .inl (cI, 320, .inl g)), (qt, .inr (0, [.ref qw])), (qw, .inl (cJ, 5, .inr (.inl w))), (b, .inr (2, [.int (nI cd), .int (nI G), .int (nI R), .long (lN en), .long (lN nw), .int (nI ms.length), .ref qn, .ref qk, .int (nI mo), .long (lN la), .long (lN go), .long (lN sp)])), (qn, .inl (cI, 1200, .inl f2)), (qk, .inl (cI, 1200, .inl g2))]) (hS : va_S A s.heap H locs) (ls : Array Slot) (hl : lv_has ls 8 [(4, .int (nI (3 * j + 2))), (0, .ref b0), (1, .ref a), (2, .ref b), (3, .ref qo)]) : W p l e room_1 s m #[Value.ref b0] below meth c H locs (9 + j) (3071 + 6 * j) (lw_Z below #[Value.ref b0] s) (F0 m 247 ls []) := by
  obtain ⟨hx, hb, hr, hml, hown, htt, hXs, hbl, hlocks, hgv⟩ := id C0
  obtain ⟨hG, hG2, hR2, hR16, hmo, hen, hne, hin, hrep, hrpm⟩ := id hI
  have hb : c.code = b_W_law := hb
  have hown : s.vm.findClass "AgedMarksLaw" = some m.cls := hown
  have ht : ∀ w ∈ agW, w.before #[Value.ref b0] s = true := fun w h => htt w (agW_in w h)
  have hts : ∀ w ∈ Cond.initialized "AgedMarksLaw" :: agW, w.before #[Value.ref b0] s = true := fun w h => by
    rcases List.mem_cons.mp h with rfl | h
    · exact ht _ mw_ini_W
    · exact ht _ h
  have hnw : nw ≤ 1000000 * G := Nat.le_trans hne hen
  have hen9 : en ≤ 1000000000 := by omega
  have hnw9 : nw ≤ 1000000000 := by omega
  have hL6 : en / G ≤ 1000000 := Nat.div_le_of_le_mul (by rw [Nat.mul_comm]; exact hen)
  have hbd := ag_in_bd hR2 hR16 hL6 hin
  have h0 := ag_in_pos hin
  have h00 := ag_in_0 hin h0
  have hso := hin.1.1
  have hnd := hin.1.2.2.1
  have hf1 : 9 + j + 1 ≤ room_1.cells ∧ 3071 + 6 * j + 6 ≤ room_1.slots := ⟨by show _ ≤ 1039; omega, by show _ ≤ 11299; omega⟩
  have hf0 : 9 + (j + 1) + 0 ≤ room_1.cells ∧ 3071 + 6 * (j + 1) + 0 ≤ room_1.slots := ⟨by show _ ≤ 1039; omega, by show _ ≤ 11299; omega⟩
  obtain ⟨x, hx1⟩ : ∃ x : Int64, x = ((xs (3 * j + 2 + 1)).toInt64 <<< ((nI 32).toInt64 &&& 63)) ||| ((xs (3 * j + 2 + 2)).toInt64 &&& lN 4294967295) := ⟨_, rfl⟩
  refine lv_aload_n hx hb d_W_law_247 rfl (lv_at hl 2 rfl) ?_
  refine lv_aload_n hx hb d_W_law_248 rfl (lv_at hl 1 rfl) ?_
  refine lv_iload hx hb d_W_law_249 (lv_at hl 0 rfl) ?_
  refine ag_iconst hx hb 1 d_W_law_251 (by decide) ?_
  refine lv_iadd hx hb d_W_law_252 ?_
  refine ag_topi (nI ((3 * j + 2) + 1)) (nI_add _ _) ?_
  refine ag_sld hx hb hXs hbl hbA hS (i := (3 * j + 2) + 1) (by omega) (by omega) d_W_law_253 ?_
  refine lv_i2l (v := (xs (3 * j + 2 + 1)).toInt64) hx hb d_W_law_254 (rfl) ?_
  refine ag_bipush hx hb 32 d_W_law_255 (by decide) ?_
  refine lv_lshl (v := (xs (3 * j + 2 + 1)).toInt64 <<< ((nI 32).toInt64 &&& 63)) hx hb d_W_law_257 (rfl) ?_
  refine lv_aload_n hx hb d_W_law_258 rfl (lv_at hl 1 rfl) ?_
  refine lv_iload hx hb d_W_law_259 (lv_at hl 0 rfl) ?_
  refine ag_iconst hx hb 2 d_W_law_261 (by decide) ?_
  refine lv_iadd hx hb d_W_law_262 ?_
  refine ag_topi (nI ((3 * j + 2) + 2)) (nI_add _ _) ?_
  refine ag_sld hx hb hXs hbl hbA hS (i := (3 * j + 2) + 2) (by omega) (by omega) d_W_law_263 ?_
  refine lv_i2l (v := (xs (3 * j + 2 + 2)).toInt64) hx hb d_W_law_264 (rfl) ?_
  refine lv_ldc2 (v := lN 4294967295) hx hb hown (ht _ mw_k_W_50) d_W_law_265 ?_
  refine lv_land hx hb d_W_law_268 ?_
  refine lv_lor hx hb d_W_law_269 ?_
  refine ag_topl x hx1.symm ?_
  refine lv_aload_n hx hb d_W_law_270 rfl (lv_at hl 4 rfl) ?_
  have hPc := hP.sub (ws' := [(qo, .inl (cJ, 1, .inr (.inl o))), (a, .inr (1, [.int (nI G), .int (nI R), .ref qm, .ref qs, .ref qt, .int (nI ms.length), .long (lN nw), .long (lN en), .int (nI mo), .long (lN la), .long (lN go), .long (lN sp)])), (qm, .inl (cI, 320, .inl f)), (qs, .inl (cI, 320, .inl g)), (qt, .inr (0, [.ref qw])), (qw, .inl (cJ, 5, .inr (.inl w)))]) [0, 1, 2, 3, 4, 5] rfl
  have hDc := hD.sub (ws' := [(qo, .inl (cJ, 1, .inr (.inl o))), (a, .inr (1, [.int (nI G), .int (nI R), .ref qm, .ref qs, .ref qt, .int (nI ms.length), .long (lN nw), .long (lN en), .int (nI mo), .long (lN la), .long (lN go), .long (lN sp)])), (qm, .inl (cI, 320, .inl f)), (qs, .inl (cI, 320, .inl g)), (qt, .inr (0, [.ref qw])), (qw, .inl (cJ, 5, .inr (.inl w)))]) [0, 1, 2, 3, 4, 5] (by decide) rfl
  have hFc := va_free (wc := [(qo, .inl (cJ, 1, .inr (.inl o))), (a, .inr (1, [.int (nI G), .int (nI R), .ref qm, .ref qs, .ref qt, .int (nI ms.length), .long (lN nw), .long (lN en), .int (nI mo), .long (lN la), .long (lN go), .long (lN sp)])), (qm, .inl (cI, 320, .inl f)), (qs, .inl (cI, 320, .inl g)), (qt, .inr (0, [.ref qw])), (qw, .inl (cJ, 5, .inr (.inl w)))]) hD hS hA [0, 1, 2, 3, 4, 5] rfl
  refine ag_cli (wc := [(qo, .inl (cJ, 1, .inr (.inl o))), (a, .inr (1, [.int (nI G), .int (nI R), .ref qm, .ref qs, .ref qt, .int (nI ms.length), .long (lN nw), .long (lN en), .int (nI mo), .long (lN la), .long (lN go), .long (lN sp)])), (qm, .inl (cI, 320, .inl f)), (qs, .inl (cI, 320, .inl g)), (qt, .inr (0, [.ref qw])), (qw, .inl (cJ, 5, .inr (.inl w)))]) (wr := [(b, .inr (2, [.int (nI cd), .int (nI G), .int (nI R), .long (lN en), .long (lN nw), .int (nI ms.length), .ref qn, .ref qk, .int (nI mo), .long (lN la), .long (lN go), .long (lN sp)])), (qn, .inl (cI, 1200, .inl f2)), (qk, .inl (cI, 1200, .inl g2))]) (Wf := fun u : Unit ⊕ (Nat) => Sum.elim (fun _ : Unit => [(qo, .inl (cJ, 1, .inr (.inl o))), (a, .inr (1, [.int (nI G), .int (nI R), .ref qm, .ref qs, .ref qt, .int (nI ms.length), .long (lN nw), .long (lN en), .int (nI mo), .long (lN la), .long (lN go), .long (lN sp)])), (qm, .inl (cI, 320, .inl f)), (qs, .inl (cI, 320, .inl g)), (qt, .inr (0, [.ref qw])), (qw, .inl (cJ, 5, .inr (.inl w)))]) (fun u : Nat => [(qo, .inl (cJ, 1, .inr (.inl (vp_updL o 0 (lN (ag_cost G ms (nw - u))))))), (a, .inr (1, [.int (nI G), .int (nI R), .ref qm, .ref qs, .ref qt, .int (nI ms.length), .long (lN (nw - u)), .long (lN en), .int (nI mo), .long (lN la), .long (lN go), .long (lN (sp + ag_cost G ms (nw - u)))])), (qm, .inl (cI, 320, .inl f)), (qs, .inl (cI, 320, .inl g)), (qt, .inr (0, [.ref qw])), (qw, .inl (cJ, 5, .inr (.inl w)))]) u) hP hD hS hA [0, 1, 2, 3, 4, 5] [6, 7, 8] rfl rfl (by decide) (by decide) (vx_runSW (As := [.ref a, .long x, .ref qo]) (rest := []) ⟨hx, hb, hml, hown, hts⟩ (c_W_back l dC dI H.size a qm qs qt qw cI cJ G R nw en mo la go sp f g w ms qo o x hlx hG2 hnw9 hbd h0 h00 hrep) (ag_cwH 3 hts mw_m_W_56 mw_static_W_back mw_ini_W mw_code_W_back rfl rfl (by decide +kernel) ⟨Nat.le_of_ble_eq_true rfl, Nat.le_of_ble_eq_true rfl⟩) ⟨ag_blindx, ag_prex hPc hK hDc (hX0.kept hS.2.1) hFc⟩ rfl rfl hl.1 rfl (lv_room (Nat.le_of_ble_eq_true rfl)) d_W_law_271 hf1) (fun r u H locs hw hP hD hS => ?_)
  refine W.widen (k := 9 + (j + 1)) (n := 3071 + 6 * (j + 1)) (by omega) (by omega) ?_
  rcases u with u | n
  · have h_n := trivial
    have hw : r = nI 1 ∧ x < 0 := hw
    have hP : va_P (dC, dI) agCl [(b, .inr (2, [.int (nI cd), .int (nI G), .int (nI R), .long (lN en), .long (lN nw), .int (nI ms.length), .ref qn, .ref qk, .int (nI mo), .long (lN la), .long (lN go), .long (lN sp)])), (qn, .inl (cI, 1200, .inl f2)), (qk, .inl (cI, 1200, .inl g2)), (qo, .inl (cJ, 1, .inr (.inl o))), (a, .inr (1, [.int (nI G), .int (nI R), .ref qm, .ref qs, .ref qt, .int (nI ms.length), .long (lN nw), .long (lN en), .int (nI mo), .long (lN la), .long (lN go), .long (lN sp)])), (qm, .inl (cI, 320, .inl f)), (qs, .inl (cI, 320, .inl g)), (qt, .inr (0, [.ref qw])), (qw, .inl (cJ, 5, .inr (.inl w)))] H := hP
    have hD : va_D A [(b, .inr (2, [.int (nI cd), .int (nI G), .int (nI R), .long (lN en), .long (lN nw), .int (nI ms.length), .ref qn, .ref qk, .int (nI mo), .long (lN la), .long (lN go), .long (lN sp)])), (qn, .inl (cI, 1200, .inl f2)), (qk, .inl (cI, 1200, .inl g2)), (qo, .inl (cJ, 1, .inr (.inl o))), (a, .inr (1, [.int (nI G), .int (nI R), .ref qm, .ref qs, .ref qt, .int (nI ms.length), .long (lN nw), .long (lN en), .int (nI mo), .long (lN la), .long (lN go), .long (lN sp)])), (qm, .inl (cI, 320, .inl f)), (qs, .inl (cI, 320, .inl g)), (qt, .inr (0, [.ref qw])), (qw, .inl (cJ, 5, .inr (.inl w)))] := hD
    obtain ⟨rfl, hq⟩ := hw
    refine lv_istore (lv' := [(5, .int (nI 1)), (4, .int (nI (3 * j + 2))), (0, .ref b0), (1, .ref a), (2, .ref b), (3, .ref qo)]) hx hb d_W_law_274 hl (by decide) rfl (fun ls hl => ?_)
    refine lv_aload_n hx hb d_W_law_276 rfl (lv_at hl 4 rfl) ?_
    refine lv_aload_n hx hb d_W_law_277 rfl (lv_at hl 2 rfl) ?_
    refine lv_iload hx hb d_W_law_278 (lv_at hl 1 rfl) ?_
    refine ag_iconst hx hb 1 d_W_law_280 (by decide) ?_
    refine lv_iadd hx hb d_W_law_281 ?_
    refine ag_topi (nI ((3 * j + 2) + 1)) (nI_add _ _) ?_
    refine ag_sld hx hb hXs hbl hbA hS (i := (3 * j + 2) + 1) (by omega) (by omega) d_W_law_282 ?_
    refine lv_i2l (v := (xs (3 * j + 2 + 1)).toInt64) hx hb d_W_law_283 (rfl) ?_
    refine ag_bipush hx hb 32 d_W_law_284 (by decide) ?_
    refine lv_lshl (v := (xs (3 * j + 2 + 1)).toInt64 <<< ((nI 32).toInt64 &&& 63)) hx hb d_W_law_286 (rfl) ?_
    refine lv_aload_n hx hb d_W_law_287 rfl (lv_at hl 2 rfl) ?_
    refine lv_iload hx hb d_W_law_288 (lv_at hl 1 rfl) ?_
    refine ag_iconst hx hb 2 d_W_law_290 (by decide) ?_
    refine lv_iadd hx hb d_W_law_291 ?_
    refine ag_topi (nI ((3 * j + 2) + 2)) (nI_add _ _) ?_
    refine ag_sld hx hb hXs hbl hbA hS (i := (3 * j + 2) + 2) (by omega) (by omega) d_W_law_292 ?_
    refine lv_i2l (v := (xs (3 * j + 2 + 2)).toInt64) hx hb d_W_law_293 (rfl) ?_
    refine lv_ldc2 (v := lN 4294967295) hx hb hown (ht _ mw_k_W_50) d_W_law_294 ?_
    refine lv_land hx hb d_W_law_297 ?_
    refine lv_lor hx hb d_W_law_298 ?_
    refine ag_topl x hx1.symm ?_
    have hPc := hP.sub (ws' := [(b, .inr (2, [.int (nI cd), .int (nI G), .int (nI R), .long (lN en), .long (lN nw), .int (nI ms.length), .ref qn, .ref qk, .int (nI mo), .long (lN la), .long (lN go), .long (lN sp)])), (qn, .inl (cI, 1200, .inl f2)), (qk, .inl (cI, 1200, .inl g2))]) [0, 1, 2] rfl
    have hDc := hD.sub (ws' := [(b, .inr (2, [.int (nI cd), .int (nI G), .int (nI R), .long (lN en), .long (lN nw), .int (nI ms.length), .ref qn, .ref qk, .int (nI mo), .long (lN la), .long (lN go), .long (lN sp)])), (qn, .inl (cI, 1200, .inl f2)), (qk, .inl (cI, 1200, .inl g2))]) [0, 1, 2] (by decide) rfl
    have hKc := hK.sub (tys' := [(cI, .int)]) [0] rfl
    refine ag_cll (wc := [(b, .inr (2, [.int (nI cd), .int (nI G), .int (nI R), .long (lN en), .long (lN nw), .int (nI ms.length), .ref qn, .ref qk, .int (nI mo), .long (lN la), .long (lN go), .long (lN sp)])), (qn, .inl (cI, 1200, .inl f2)), (qk, .inl (cI, 1200, .inl g2))]) (wr := [(qo, .inl (cJ, 1, .inr (.inl o))), (a, .inr (1, [.int (nI G), .int (nI R), .ref qm, .ref qs, .ref qt, .int (nI ms.length), .long (lN nw), .long (lN en), .int (nI mo), .long (lN la), .long (lN go), .long (lN sp)])), (qm, .inl (cI, 320, .inl f)), (qs, .inl (cI, 320, .inl g)), (qt, .inr (0, [.ref qw])), (qw, .inl (cJ, 5, .inr (.inl w)))]) (Wf := fun _ : Unit => [(b, .inr (2, [.int (nI 1), .int (nI G), .int (nI R), .long (lN en), .long (lN nw), .int (nI ms.length), .ref qn, .ref qk, .int (nI mo), .long (lN la), .long (lN go), .long (lN sp)])), (qn, .inl (cI, 1200, .inl f2)), (qk, .inl (cI, 1200, .inl g2))]) hP hD hS hA [0, 1, 2] [3, 4, 5, 6, 7, 8] rfl rfl (by decide) (by decide) (va_runV (C := "AgedMarksModel") (As := [.long x]) (rest := []) ⟨hx, hb, hml, hown, hts⟩ (c_M_back_1 l dC dI H.size b qn qk cI cd G R en nw mo la go sp f2 g2 ms x hq) (ag_cwV 1 hts mw_m_W_58 mw_instanceMethod_M_back mw_sel_M_back mw_ini_M mw_code_M_back rfl rfl (by decide +kernel) ⟨Nat.le_of_ble_eq_true rfl, Nat.le_of_ble_eq_true rfl⟩) ⟨ag_blind, va_recv hK hPc (ci := 2) (q0 := 0) rfl rfl, ag_pre hPc hKc hDc⟩ rfl rfl hl.1 rfl (lv_room (Nat.le_of_ble_eq_true rfl)) d_W_law_299 hf0) (fun r1 u H locs hw hP hD hS => ?_)
    try dsimp only at hw
    have hP : va_P (dC, dI) agCl [(qo, .inl (cJ, 1, .inr (.inl o))), (a, .inr (1, [.int (nI G), .int (nI R), .ref qm, .ref qs, .ref qt, .int (nI ms.length), .long (lN nw), .long (lN en), .int (nI mo), .long (lN la), .long (lN go), .long (lN sp)])), (qm, .inl (cI, 320, .inl f)), (qs, .inl (cI, 320, .inl g)), (qt, .inr (0, [.ref qw])), (qw, .inl (cJ, 5, .inr (.inl w))), (b, .inr (2, [.int (nI 1), .int (nI G), .int (nI R), .long (lN en), .long (lN nw), .int (nI ms.length), .ref qn, .ref qk, .int (nI mo), .long (lN la), .long (lN go), .long (lN sp)])), (qn, .inl (cI, 1200, .inl f2)), (qk, .inl (cI, 1200, .inl g2))] H := hP
    have hD : va_D A [(qo, .inl (cJ, 1, .inr (.inl o))), (a, .inr (1, [.int (nI G), .int (nI R), .ref qm, .ref qs, .ref qt, .int (nI ms.length), .long (lN nw), .long (lN en), .int (nI mo), .long (lN la), .long (lN go), .long (lN sp)])), (qm, .inl (cI, 320, .inl f)), (qs, .inl (cI, 320, .inl g)), (qt, .inr (0, [.ref qw])), (qw, .inl (cJ, 5, .inr (.inl w))), (b, .inr (2, [.int (nI 1), .int (nI G), .int (nI R), .long (lN en), .long (lN nw), .int (nI ms.length), .ref qn, .ref qk, .int (nI mo), .long (lN la), .long (lN go), .long (lN sp)])), (qn, .inl (cI, 1200, .inl f2)), (qk, .inl (cI, 1200, .inl g2))] := hD
    refine W.widen (k := 9 + (j + 1)) (n := 3071 + 6 * (j + 1)) (by omega) (by omega) ?_
    refine lv_lstore (lv' := [(6, .long r1), (5, .int (nI 1)), (4, .int (nI (3 * j + 2))), (0, .ref b0), (1, .ref a), (2, .ref b), (3, .ref qo)]) hx hb d_W_law_302 hl (by decide) rfl (fun ls hl => ?_)
    refine lv_aload_n hx hb d_W_law_304 rfl (lv_at hl 5 rfl) ?_
    have hPc := hP.sub (ws' := [(b, .inr (2, [.int (nI 1), .int (nI G), .int (nI R), .long (lN en), .long (lN nw), .int (nI ms.length), .ref qn, .ref qk, .int (nI mo), .long (lN la), .long (lN go), .long (lN sp)])), (qn, .inl (cI, 1200, .inl f2)), (qk, .inl (cI, 1200, .inl g2))]) [6, 7, 8] rfl
    have hDc := hD.sub (ws' := [(b, .inr (2, [.int (nI 1), .int (nI G), .int (nI R), .long (lN en), .long (lN nw), .int (nI ms.length), .ref qn, .ref qk, .int (nI mo), .long (lN la), .long (lN go), .long (lN sp)])), (qn, .inl (cI, 1200, .inl f2)), (qk, .inl (cI, 1200, .inl g2))]) [6, 7, 8] (by decide) rfl
    have hKc := hK.sub (tys' := [(cI, .int)]) [0] rfl
    refine ag_cli (wc := [(b, .inr (2, [.int (nI 1), .int (nI G), .int (nI R), .long (lN en), .long (lN nw), .int (nI ms.length), .ref qn, .ref qk, .int (nI mo), .long (lN la), .long (lN go), .long (lN sp)])), (qn, .inl (cI, 1200, .inl f2)), (qk, .inl (cI, 1200, .inl g2))]) (wr := [(qo, .inl (cJ, 1, .inr (.inl o))), (a, .inr (1, [.int (nI G), .int (nI R), .ref qm, .ref qs, .ref qt, .int (nI ms.length), .long (lN nw), .long (lN en), .int (nI mo), .long (lN la), .long (lN go), .long (lN sp)])), (qm, .inl (cI, 320, .inl f)), (qs, .inl (cI, 320, .inl g)), (qt, .inr (0, [.ref qw])), (qw, .inl (cJ, 5, .inr (.inl w)))]) (Wf := fun _ : Unit => [(b, .inr (2, [.int (nI 1), .int (nI G), .int (nI R), .long (lN en), .long (lN nw), .int (nI ms.length), .ref qn, .ref qk, .int (nI mo), .long (lN la), .long (lN go), .long (lN sp)])), (qn, .inl (cI, 1200, .inl f2)), (qk, .inl (cI, 1200, .inl g2))]) hP hD hS hA [6, 7, 8] [0, 1, 2, 3, 4, 5] rfl rfl (by decide) (by decide) (va_runV (C := "AgedMarksModel") (As := []) (rest := []) ⟨hx, hb, hml, hown, hts⟩ (c_M_thrown l dC dI H.size b qn qk cI 1 G R en nw mo la go sp f2 g2 ms) (ag_cwV 0 hts mw_m_W_46 mw_instanceMethod_M_thrown mw_sel_M_thrown mw_ini_M mw_code_M_thrown rfl rfl (by decide +kernel) ⟨Nat.le_of_ble_eq_true rfl, Nat.le_of_ble_eq_true rfl⟩) ⟨ag_blind, va_recv hK hPc (ci := 2) (q0 := 0) rfl rfl, ag_pre hPc hKc hDc⟩ rfl rfl hl.1 rfl (lv_room (Nat.le_of_ble_eq_true rfl)) d_W_law_305 hf0) (fun r2 u H locs hw hP hD hS => ?_)
    try dsimp only at hw
    subst hw
    have hP : va_P (dC, dI) agCl [(qo, .inl (cJ, 1, .inr (.inl o))), (a, .inr (1, [.int (nI G), .int (nI R), .ref qm, .ref qs, .ref qt, .int (nI ms.length), .long (lN nw), .long (lN en), .int (nI mo), .long (lN la), .long (lN go), .long (lN sp)])), (qm, .inl (cI, 320, .inl f)), (qs, .inl (cI, 320, .inl g)), (qt, .inr (0, [.ref qw])), (qw, .inl (cJ, 5, .inr (.inl w))), (b, .inr (2, [.int (nI 1), .int (nI G), .int (nI R), .long (lN en), .long (lN nw), .int (nI ms.length), .ref qn, .ref qk, .int (nI mo), .long (lN la), .long (lN go), .long (lN sp)])), (qn, .inl (cI, 1200, .inl f2)), (qk, .inl (cI, 1200, .inl g2))] H := hP
    have hD : va_D A [(qo, .inl (cJ, 1, .inr (.inl o))), (a, .inr (1, [.int (nI G), .int (nI R), .ref qm, .ref qs, .ref qt, .int (nI ms.length), .long (lN nw), .long (lN en), .int (nI mo), .long (lN la), .long (lN go), .long (lN sp)])), (qm, .inl (cI, 320, .inl f)), (qs, .inl (cI, 320, .inl g)), (qt, .inr (0, [.ref qw])), (qw, .inl (cJ, 5, .inr (.inl w))), (b, .inr (2, [.int (nI 1), .int (nI G), .int (nI R), .long (lN en), .long (lN nw), .int (nI ms.length), .ref qn, .ref qk, .int (nI mo), .long (lN la), .long (lN go), .long (lN sp)])), (qn, .inl (cI, 1200, .inl f2)), (qk, .inl (cI, 1200, .inl g2))] := hD
    refine W.widen (k := 9 + (j + 1)) (n := 3071 + 6 * (j + 1)) (by omega) (by omega) ?_
    refine lv_iload hx hb d_W_law_308 (lv_at hl 1 rfl) ?_
    refine lv_icmp_eq (tgt := 315) hx hb d_W_law_310 (by decide) (fun _ => ?_) (fun c9 => absurd rfl c9)
    refine lv_iload hx hb d_W_law_315 (lv_at hl 1 rfl) ?_
    refine lv_if_ne (tgt := 331) hx hb d_W_law_317 (by decide) (fun _ => ?_) (fun c9 => absurd c9 (by decide))
    refine lv_goto (tgt := 479) hx hb d_W_law_331 (by decide) ?_
    exact kk 1 nw en mo la go sp f g w f2 g2 o ms (⟨hG, hG2, hR2, hR16, hmo, hen, hne, hin, hrep, hrpm⟩) H locs hP hD hS ls (lv_sub hl [2, 3, 4, 5, 6] rfl)
  · have h_n := trivial
    have hw : r = nI 0 ∧ x = lN n ∧ n < 2 ^ 63 := hw
    have hP : va_P (dC, dI) agCl [(b, .inr (2, [.int (nI cd), .int (nI G), .int (nI R), .long (lN en), .long (lN nw), .int (nI ms.length), .ref qn, .ref qk, .int (nI mo), .long (lN la), .long (lN go), .long (lN sp)])), (qn, .inl (cI, 1200, .inl f2)), (qk, .inl (cI, 1200, .inl g2)), (qo, .inl (cJ, 1, .inr (.inl (vp_updL o 0 (lN (ag_cost G ms (nw - n))))))), (a, .inr (1, [.int (nI G), .int (nI R), .ref qm, .ref qs, .ref qt, .int (nI ms.length), .long (lN (nw - n)), .long (lN en), .int (nI mo), .long (lN la), .long (lN go), .long (lN (sp + ag_cost G ms (nw - n)))])), (qm, .inl (cI, 320, .inl f)), (qs, .inl (cI, 320, .inl g)), (qt, .inr (0, [.ref qw])), (qw, .inl (cJ, 5, .inr (.inl w)))] H := hP
    have hD : va_D A [(b, .inr (2, [.int (nI cd), .int (nI G), .int (nI R), .long (lN en), .long (lN nw), .int (nI ms.length), .ref qn, .ref qk, .int (nI mo), .long (lN la), .long (lN go), .long (lN sp)])), (qn, .inl (cI, 1200, .inl f2)), (qk, .inl (cI, 1200, .inl g2)), (qo, .inl (cJ, 1, .inr (.inl (vp_updL o 0 (lN (ag_cost G ms (nw - n))))))), (a, .inr (1, [.int (nI G), .int (nI R), .ref qm, .ref qs, .ref qt, .int (nI ms.length), .long (lN (nw - n)), .long (lN en), .int (nI mo), .long (lN la), .long (lN go), .long (lN (sp + ag_cost G ms (nw - n)))])), (qm, .inl (cI, 320, .inl f)), (qs, .inl (cI, 320, .inl g)), (qt, .inr (0, [.ref qw])), (qw, .inl (cJ, 5, .inr (.inl w)))] := hD
    obtain ⟨rfl, rfl, hn⟩ := hw
    refine lv_istore (lv' := [(5, .int (nI 0)), (4, .int (nI (3 * j + 2))), (0, .ref b0), (1, .ref a), (2, .ref b), (3, .ref qo)]) hx hb d_W_law_274 hl (by decide) rfl (fun ls hl => ?_)
    refine lv_aload_n hx hb d_W_law_276 rfl (lv_at hl 4 rfl) ?_
    refine lv_aload_n hx hb d_W_law_277 rfl (lv_at hl 2 rfl) ?_
    refine lv_iload hx hb d_W_law_278 (lv_at hl 1 rfl) ?_
    refine ag_iconst hx hb 1 d_W_law_280 (by decide) ?_
    refine lv_iadd hx hb d_W_law_281 ?_
    refine ag_topi (nI ((3 * j + 2) + 1)) (nI_add _ _) ?_
    refine ag_sld hx hb hXs hbl hbA hS (i := (3 * j + 2) + 1) (by omega) (by omega) d_W_law_282 ?_
    refine lv_i2l (v := (xs (3 * j + 2 + 1)).toInt64) hx hb d_W_law_283 (rfl) ?_
    refine ag_bipush hx hb 32 d_W_law_284 (by decide) ?_
    refine lv_lshl (v := (xs (3 * j + 2 + 1)).toInt64 <<< ((nI 32).toInt64 &&& 63)) hx hb d_W_law_286 (rfl) ?_
    refine lv_aload_n hx hb d_W_law_287 rfl (lv_at hl 2 rfl) ?_
    refine lv_iload hx hb d_W_law_288 (lv_at hl 1 rfl) ?_
    refine ag_iconst hx hb 2 d_W_law_290 (by decide) ?_
    refine lv_iadd hx hb d_W_law_291 ?_
    refine ag_topi (nI ((3 * j + 2) + 2)) (nI_add _ _) ?_
    refine ag_sld hx hb hXs hbl hbA hS (i := (3 * j + 2) + 2) (by omega) (by omega) d_W_law_292 ?_
    refine lv_i2l (v := (xs (3 * j + 2 + 2)).toInt64) hx hb d_W_law_293 (rfl) ?_
    refine lv_ldc2 (v := lN 4294967295) hx hb hown (ht _ mw_k_W_50) d_W_law_294 ?_
    refine lv_land hx hb d_W_law_297 ?_
    refine lv_lor hx hb d_W_law_298 ?_
    refine ag_topl (lN n) hx1.symm ?_
    have hPc := hP.sub (ws' := [(b, .inr (2, [.int (nI cd), .int (nI G), .int (nI R), .long (lN en), .long (lN nw), .int (nI ms.length), .ref qn, .ref qk, .int (nI mo), .long (lN la), .long (lN go), .long (lN sp)])), (qn, .inl (cI, 1200, .inl f2)), (qk, .inl (cI, 1200, .inl g2))]) [0, 1, 2] rfl
    have hDc := hD.sub (ws' := [(b, .inr (2, [.int (nI cd), .int (nI G), .int (nI R), .long (lN en), .long (lN nw), .int (nI ms.length), .ref qn, .ref qk, .int (nI mo), .long (lN la), .long (lN go), .long (lN sp)])), (qn, .inl (cI, 1200, .inl f2)), (qk, .inl (cI, 1200, .inl g2))]) [0, 1, 2] (by decide) rfl
    have hKc := hK.sub (tys' := [(cI, .int)]) [0] rfl
    refine ag_cll (wc := [(b, .inr (2, [.int (nI cd), .int (nI G), .int (nI R), .long (lN en), .long (lN nw), .int (nI ms.length), .ref qn, .ref qk, .int (nI mo), .long (lN la), .long (lN go), .long (lN sp)])), (qn, .inl (cI, 1200, .inl f2)), (qk, .inl (cI, 1200, .inl g2))]) (wr := [(qo, .inl (cJ, 1, .inr (.inl (vp_updL o 0 (lN (ag_cost G ms (nw - n))))))), (a, .inr (1, [.int (nI G), .int (nI R), .ref qm, .ref qs, .ref qt, .int (nI ms.length), .long (lN (nw - n)), .long (lN en), .int (nI mo), .long (lN la), .long (lN go), .long (lN (sp + ag_cost G ms (nw - n)))])), (qm, .inl (cI, 320, .inl f)), (qs, .inl (cI, 320, .inl g)), (qt, .inr (0, [.ref qw])), (qw, .inl (cJ, 5, .inr (.inl w)))]) (Wf := fun _ : Unit => [(b, .inr (2, [.int (nI 0), .int (nI G), .int (nI R), .long (lN en), .long (lN (nw - n)), .int (nI ms.length), .ref qn, .ref qk, .int (nI mo), .long (lN la), .long (lN go), .long (lN (sp + ag_cost G ms (nw - n)))])), (qn, .inl (cI, 1200, .inl f2)), (qk, .inl (cI, 1200, .inl g2))]) hP hD hS hA [0, 1, 2] [3, 4, 5, 6, 7, 8] rfl rfl (by decide) (by decide) (va_runV (C := "AgedMarksModel") (As := [.long (lN n)]) (rest := []) ⟨hx, hb, hml, hown, hts⟩ (c_M_back_0 l dC dI H.size b qn qk cI cd G R en nw mo la go sp f2 g2 ms n hnw9 hn hG2 hbd h0 h00 hrpm) (ag_cwV 1 hts mw_m_W_58 mw_instanceMethod_M_back mw_sel_M_back mw_ini_M mw_code_M_back rfl rfl (by decide +kernel) ⟨Nat.le_of_ble_eq_true rfl, Nat.le_of_ble_eq_true rfl⟩) ⟨ag_blind, va_recv hK hPc (ci := 2) (q0 := 0) rfl rfl, ag_pre hPc hKc hDc⟩ rfl rfl hl.1 rfl (lv_room (Nat.le_of_ble_eq_true rfl)) d_W_law_299 hf0) (fun r1 u H locs hw hP hD hS => ?_)
    try dsimp only at hw
    subst hw
    have hP : va_P (dC, dI) agCl [(qo, .inl (cJ, 1, .inr (.inl (vp_updL o 0 (lN (ag_cost G ms (nw - n))))))), (a, .inr (1, [.int (nI G), .int (nI R), .ref qm, .ref qs, .ref qt, .int (nI ms.length), .long (lN (nw - n)), .long (lN en), .int (nI mo), .long (lN la), .long (lN go), .long (lN (sp + ag_cost G ms (nw - n)))])), (qm, .inl (cI, 320, .inl f)), (qs, .inl (cI, 320, .inl g)), (qt, .inr (0, [.ref qw])), (qw, .inl (cJ, 5, .inr (.inl w))), (b, .inr (2, [.int (nI 0), .int (nI G), .int (nI R), .long (lN en), .long (lN (nw - n)), .int (nI ms.length), .ref qn, .ref qk, .int (nI mo), .long (lN la), .long (lN go), .long (lN (sp + ag_cost G ms (nw - n)))])), (qn, .inl (cI, 1200, .inl f2)), (qk, .inl (cI, 1200, .inl g2))] H := hP
    have hD : va_D A [(qo, .inl (cJ, 1, .inr (.inl (vp_updL o 0 (lN (ag_cost G ms (nw - n))))))), (a, .inr (1, [.int (nI G), .int (nI R), .ref qm, .ref qs, .ref qt, .int (nI ms.length), .long (lN (nw - n)), .long (lN en), .int (nI mo), .long (lN la), .long (lN go), .long (lN (sp + ag_cost G ms (nw - n)))])), (qm, .inl (cI, 320, .inl f)), (qs, .inl (cI, 320, .inl g)), (qt, .inr (0, [.ref qw])), (qw, .inl (cJ, 5, .inr (.inl w))), (b, .inr (2, [.int (nI 0), .int (nI G), .int (nI R), .long (lN en), .long (lN (nw - n)), .int (nI ms.length), .ref qn, .ref qk, .int (nI mo), .long (lN la), .long (lN go), .long (lN (sp + ag_cost G ms (nw - n)))])), (qn, .inl (cI, 1200, .inl f2)), (qk, .inl (cI, 1200, .inl g2))] := hD
    refine W.widen (k := 9 + (j + 1)) (n := 3071 + 6 * (j + 1)) (by omega) (by omega) ?_
    refine lv_lstore (lv' := [(6, .long (lN (ag_cost G ms (nw - n)))), (5, .int (nI 0)), (4, .int (nI (3 * j + 2))), (0, .ref b0), (1, .ref a), (2, .ref b), (3, .ref qo)]) hx hb d_W_law_302 hl (by decide) rfl (fun ls hl => ?_)
    refine lv_aload_n hx hb d_W_law_304 rfl (lv_at hl 5 rfl) ?_
    have hPc := hP.sub (ws' := [(b, .inr (2, [.int (nI 0), .int (nI G), .int (nI R), .long (lN en), .long (lN (nw - n)), .int (nI ms.length), .ref qn, .ref qk, .int (nI mo), .long (lN la), .long (lN go), .long (lN (sp + ag_cost G ms (nw - n)))])), (qn, .inl (cI, 1200, .inl f2)), (qk, .inl (cI, 1200, .inl g2))]) [6, 7, 8] rfl
    have hDc := hD.sub (ws' := [(b, .inr (2, [.int (nI 0), .int (nI G), .int (nI R), .long (lN en), .long (lN (nw - n)), .int (nI ms.length), .ref qn, .ref qk, .int (nI mo), .long (lN la), .long (lN go), .long (lN (sp + ag_cost G ms (nw - n)))])), (qn, .inl (cI, 1200, .inl f2)), (qk, .inl (cI, 1200, .inl g2))]) [6, 7, 8] (by decide) rfl
    have hKc := hK.sub (tys' := [(cI, .int)]) [0] rfl
    refine ag_cli (wc := [(b, .inr (2, [.int (nI 0), .int (nI G), .int (nI R), .long (lN en), .long (lN (nw - n)), .int (nI ms.length), .ref qn, .ref qk, .int (nI mo), .long (lN la), .long (lN go), .long (lN (sp + ag_cost G ms (nw - n)))])), (qn, .inl (cI, 1200, .inl f2)), (qk, .inl (cI, 1200, .inl g2))]) (wr := [(qo, .inl (cJ, 1, .inr (.inl (vp_updL o 0 (lN (ag_cost G ms (nw - n))))))), (a, .inr (1, [.int (nI G), .int (nI R), .ref qm, .ref qs, .ref qt, .int (nI ms.length), .long (lN (nw - n)), .long (lN en), .int (nI mo), .long (lN la), .long (lN go), .long (lN (sp + ag_cost G ms (nw - n)))])), (qm, .inl (cI, 320, .inl f)), (qs, .inl (cI, 320, .inl g)), (qt, .inr (0, [.ref qw])), (qw, .inl (cJ, 5, .inr (.inl w)))]) (Wf := fun _ : Unit => [(b, .inr (2, [.int (nI 0), .int (nI G), .int (nI R), .long (lN en), .long (lN (nw - n)), .int (nI ms.length), .ref qn, .ref qk, .int (nI mo), .long (lN la), .long (lN go), .long (lN (sp + ag_cost G ms (nw - n)))])), (qn, .inl (cI, 1200, .inl f2)), (qk, .inl (cI, 1200, .inl g2))]) hP hD hS hA [6, 7, 8] [0, 1, 2, 3, 4, 5] rfl rfl (by decide) (by decide) (va_runV (C := "AgedMarksModel") (As := []) (rest := []) ⟨hx, hb, hml, hown, hts⟩ (c_M_thrown l dC dI H.size b qn qk cI 0 G R en (nw - n) mo la go (sp + ag_cost G ms (nw - n)) f2 g2 ms) (ag_cwV 0 hts mw_m_W_46 mw_instanceMethod_M_thrown mw_sel_M_thrown mw_ini_M mw_code_M_thrown rfl rfl (by decide +kernel) ⟨Nat.le_of_ble_eq_true rfl, Nat.le_of_ble_eq_true rfl⟩) ⟨ag_blind, va_recv hK hPc (ci := 2) (q0 := 0) rfl rfl, ag_pre hPc hKc hDc⟩ rfl rfl hl.1 rfl (lv_room (Nat.le_of_ble_eq_true rfl)) d_W_law_305 hf0) (fun r2 u H locs hw hP hD hS => ?_)
    try dsimp only at hw
    subst hw
    have hP : va_P (dC, dI) agCl [(qo, .inl (cJ, 1, .inr (.inl (vp_updL o 0 (lN (ag_cost G ms (nw - n))))))), (a, .inr (1, [.int (nI G), .int (nI R), .ref qm, .ref qs, .ref qt, .int (nI ms.length), .long (lN (nw - n)), .long (lN en), .int (nI mo), .long (lN la), .long (lN go), .long (lN (sp + ag_cost G ms (nw - n)))])), (qm, .inl (cI, 320, .inl f)), (qs, .inl (cI, 320, .inl g)), (qt, .inr (0, [.ref qw])), (qw, .inl (cJ, 5, .inr (.inl w))), (b, .inr (2, [.int (nI 0), .int (nI G), .int (nI R), .long (lN en), .long (lN (nw - n)), .int (nI ms.length), .ref qn, .ref qk, .int (nI mo), .long (lN la), .long (lN go), .long (lN (sp + ag_cost G ms (nw - n)))])), (qn, .inl (cI, 1200, .inl f2)), (qk, .inl (cI, 1200, .inl g2))] H := hP
    have hD : va_D A [(qo, .inl (cJ, 1, .inr (.inl (vp_updL o 0 (lN (ag_cost G ms (nw - n))))))), (a, .inr (1, [.int (nI G), .int (nI R), .ref qm, .ref qs, .ref qt, .int (nI ms.length), .long (lN (nw - n)), .long (lN en), .int (nI mo), .long (lN la), .long (lN go), .long (lN (sp + ag_cost G ms (nw - n)))])), (qm, .inl (cI, 320, .inl f)), (qs, .inl (cI, 320, .inl g)), (qt, .inr (0, [.ref qw])), (qw, .inl (cJ, 5, .inr (.inl w))), (b, .inr (2, [.int (nI 0), .int (nI G), .int (nI R), .long (lN en), .long (lN (nw - n)), .int (nI ms.length), .ref qn, .ref qk, .int (nI mo), .long (lN la), .long (lN go), .long (lN (sp + ag_cost G ms (nw - n)))])), (qn, .inl (cI, 1200, .inl f2)), (qk, .inl (cI, 1200, .inl g2))] := hD
    refine W.widen (k := 9 + (j + 1)) (n := 3071 + 6 * (j + 1)) (by omega) (by omega) ?_
    refine lv_iload hx hb d_W_law_308 (lv_at hl 1 rfl) ?_
    refine lv_icmp_eq (tgt := 315) hx hb d_W_law_310 (by decide) (fun _ => ?_) (fun c9 => absurd rfl c9)
    refine lv_iload hx hb d_W_law_315 (lv_at hl 1 rfl) ?_
    refine lv_if_ne (tgt := 331) hx hb d_W_law_317 (by decide) (fun c9 => absurd (by decide) c9) (fun _ => ?_)
    refine lv_aload_n hx hb d_W_law_320 rfl (lv_at hl 6 rfl) ?_
    refine ag_iconst hx hb 0 d_W_law_321 (by decide) ?_
    refine ag_lald hx hb hK hP 0 1 rfl rfl (by decide) (by decide) d_W_law_322 ?_
    refine ag_topl (lN (ag_cost G ms (nw - n))) pk_uLs ?_
    refine lv_lload hx hb d_W_law_323 (lv_at hl 0 rfl) ?_
    refine ag_lc_eq (tgt := 331) hx hb d_W_law_325 d_W_law_326 (by decide) (fun _ => ?_) (fun c9 => absurd rfl c9)
    refine lv_goto (tgt := 479) hx hb d_W_law_331 (by decide) ?_
    exact kk 0 (nw - n) en mo la go (sp + ag_cost G ms (nw - n)) f g w f2 g2 (vp_updL o 0 (lN (ag_cost G ms (nw - n)))) ms (⟨hG, hG2, hR2, hR16, hmo, hen, by omega, hin, hrep, hrpm⟩) H locs hP hD hS ls (lv_sub hl [2, 3, 4, 5, 6] rfl)

set_option maxHeartbeats 4000000 in
set_option maxRecDepth 100000 in
theorem lw_c4 {p : Program} {e : Env} {s : State} {m : MethodId} {below : List Frame} {meth : Method} {c : Code} (l : Launch) {b0 L : Nat} {xs : Nat → Int32} (hlx : l.stackTraces = false) (hL : L ≤ 1538) (C0 : lw_At p s m meth c b0 L xs) (A : Nat → Prop) (hA : ∀ q : Nat, s.heap.size ≤ q → A q) (hbA : ¬ A b0) (hX0 : ag_x A s s.heap) (dC : Nat → ClassId) (dI : Nat → Nat → Nat) (a qm qs qt qw b qn qk qo : Nat) (cI cJ : ClassId) (G R : Nat) (hK : va_K (dC, dI) agCl [(cI, .int), (cJ, .long)] s) (j : Nat) (hj : 3 * j + 5 ≤ L) (kk : lw_K p l e s m below meth c b0 A dC dI a qm qs qt qw b qn qk qo cI cJ G R j)
    (cd nw en mo la go sp : Nat) (f g : Nat → Int32) (w : Nat → Int64) (f2 g2 : Nat → Int32) (o : Nat → Int64) (ms : ag_M) (hI : lw_inv G R nw en mo ms f g w f2 g2) (H : Heap) (locs : List Loc) (hP : va_P (dC, dI) agCl [(qo, .inl (cJ, 1, .inr (.inl o))), (a, .inr (1, [.int (nI G), .int (nI R), .ref qm, .ref qs, .ref qt, .int (nI ms.length), .long (lN nw), .long (lN en), .int (nI mo), .long (lN la), .long (lN go), .long (lN sp)])), (qm, .inl (cI, 320, .inl f)), (qs, .inl (cI, 320, .inl g)), (qt, .inr (0, [.ref qw])), (qw, .inl (cJ, 5, .inr (.inl w))), (b, .inr (2, [.int (nI cd), .int (nI G), .int (nI R), .long (lN en), .long (lN nw), .int (nI ms.length), .ref qn, .ref qk, .int (nI mo), .long (lN la), .long (lN go), .long (lN sp)])), (qn, .inl (cI, 1200, .inl f2)), (qk, .inl (cI, 1200, .inl g2))] H) (hD : va_D A [(qo, .inl (cJ, 1, .inr (.inl o))), (a, .inr (1, [.int (nI G), .int (nI R), .ref qm, .ref qs, .ref qt, .int (nI ms.length), .long (lN nw), .long (lN en), .int (nI mo), .long (lN la), .long (lN go), .long (lN sp)])), (qm, .inl (cI, 320, .inl f)), (qs, .inl (cI, 320, .inl g)), (qt, .inr (0, [.ref qw])), (qw, .inl (cJ, 5, .inr (.inl w))), (b, .inr (2, [.int (nI cd), .int (nI G), .int (nI R), .long (lN en), .long (lN nw), .int (nI ms.length), .ref qn, .ref qk, .int (nI mo), .long (lN la), .long (lN go), .long (lN sp)])), (qn, .inl (cI, 1200, .inl f2)), (qk, .inl (cI, 1200, .inl g2))]) (hS : va_S A s.heap H locs) (ls : Array Slot) (hl : lv_has ls 8 [(4, .int (nI (3 * j + 2))), (0, .ref b0), (1, .ref a), (2, .ref b), (3, .ref qo)]) : W p l e room_1 s m #[Value.ref b0] below meth c H locs (9 + j) (3071 + 6 * j) (lw_Z below #[Value.ref b0] s) (F0 m 347 ls []) := by
  obtain ⟨hx, hb, hr, hml, hown, htt, hXs, hbl, hlocks, hgv⟩ := id C0
  obtain ⟨hG, hG2, hR2, hR16, hmo, hen, hne, hin, hrep, hrpm⟩ := id hI
  have hb : c.code = b_W_law := hb
  have hown : s.vm.findClass "AgedMarksLaw" = some m.cls := hown
  have ht : ∀ w ∈ agW, w.before #[Value.ref b0] s = true := fun w h => htt w (agW_in w h)
  have hts : ∀ w ∈ Cond.initialized "AgedMarksLaw" :: agW, w.before #[Value.ref b0] s = true := fun w h => by
    rcases List.mem_cons.mp h with rfl | h
    · exact ht _ mw_ini_W
    · exact ht _ h
  have hnw : nw ≤ 1000000 * G := Nat.le_trans hne hen
  have hen9 : en ≤ 1000000000 := by omega
  have hnw9 : nw ≤ 1000000000 := by omega
  have hL6 : en / G ≤ 1000000 := Nat.div_le_of_le_mul (by rw [Nat.mul_comm]; exact hen)
  have hbd := ag_in_bd hR2 hR16 hL6 hin
  have h0 := ag_in_pos hin
  have h00 := ag_in_0 hin h0
  have hso := hin.1.1
  have hnd := hin.1.2.2.1
  have hf1 : 9 + j + 1 ≤ room_1.cells ∧ 3071 + 6 * j + 6 ≤ room_1.slots := ⟨by show _ ≤ 1039; omega, by show _ ≤ 11299; omega⟩
  have hf0 : 9 + (j + 1) + 0 ≤ room_1.cells ∧ 3071 + 6 * (j + 1) + 0 ≤ room_1.slots := ⟨by show _ ≤ 1039; omega, by show _ ≤ 11299; omega⟩
  obtain ⟨x, hx1⟩ : ∃ x : Int32, x = xs (3 * j + 2 + 1) := ⟨_, rfl⟩
  obtain ⟨y, hy1⟩ : ∃ y : Int32, y = xs (3 * j + 2 + 2) := ⟨_, rfl⟩
  refine lv_aload_n hx hb d_W_law_347 rfl (lv_at hl 2 rfl) ?_
  refine lv_aload_n hx hb d_W_law_348 rfl (lv_at hl 1 rfl) ?_
  refine lv_iload hx hb d_W_law_349 (lv_at hl 0 rfl) ?_
  refine ag_iconst hx hb 1 d_W_law_351 (by decide) ?_
  refine lv_iadd hx hb d_W_law_352 ?_
  refine ag_topi (nI ((3 * j + 2) + 1)) (nI_add _ _) ?_
  refine ag_sld hx hb hXs hbl hbA hS (i := (3 * j + 2) + 1) (by omega) (by omega) d_W_law_353 ?_
  refine ag_topi x hx1.symm ?_
  refine lv_aload_n hx hb d_W_law_354 rfl (lv_at hl 1 rfl) ?_
  refine lv_iload hx hb d_W_law_355 (lv_at hl 0 rfl) ?_
  refine ag_iconst hx hb 2 d_W_law_357 (by decide) ?_
  refine lv_iadd hx hb d_W_law_358 ?_
  refine ag_topi (nI ((3 * j + 2) + 2)) (nI_add _ _) ?_
  refine ag_sld hx hb hXs hbl hbA hS (i := (3 * j + 2) + 2) (by omega) (by omega) d_W_law_359 ?_
  refine ag_topi y hy1.symm ?_
  refine lv_aload_n hx hb d_W_law_360 rfl (lv_at hl 4 rfl) ?_
  have hPc := hP.sub (ws' := [(qo, .inl (cJ, 1, .inr (.inl o))), (a, .inr (1, [.int (nI G), .int (nI R), .ref qm, .ref qs, .ref qt, .int (nI ms.length), .long (lN nw), .long (lN en), .int (nI mo), .long (lN la), .long (lN go), .long (lN sp)])), (qm, .inl (cI, 320, .inl f)), (qs, .inl (cI, 320, .inl g)), (qt, .inr (0, [.ref qw])), (qw, .inl (cJ, 5, .inr (.inl w)))]) [0, 1, 2, 3, 4, 5] rfl
  have hDc := hD.sub (ws' := [(qo, .inl (cJ, 1, .inr (.inl o))), (a, .inr (1, [.int (nI G), .int (nI R), .ref qm, .ref qs, .ref qt, .int (nI ms.length), .long (lN nw), .long (lN en), .int (nI mo), .long (lN la), .long (lN go), .long (lN sp)])), (qm, .inl (cI, 320, .inl f)), (qs, .inl (cI, 320, .inl g)), (qt, .inr (0, [.ref qw])), (qw, .inl (cJ, 5, .inr (.inl w)))]) [0, 1, 2, 3, 4, 5] (by decide) rfl
  have hFc := va_free (wc := [(qo, .inl (cJ, 1, .inr (.inl o))), (a, .inr (1, [.int (nI G), .int (nI R), .ref qm, .ref qs, .ref qt, .int (nI ms.length), .long (lN nw), .long (lN en), .int (nI mo), .long (lN la), .long (lN go), .long (lN sp)])), (qm, .inl (cI, 320, .inl f)), (qs, .inl (cI, 320, .inl g)), (qt, .inr (0, [.ref qw])), (qw, .inl (cJ, 5, .inr (.inl w)))]) hD hS hA [0, 1, 2, 3, 4, 5] rfl
  refine ag_cli (wc := [(qo, .inl (cJ, 1, .inr (.inl o))), (a, .inr (1, [.int (nI G), .int (nI R), .ref qm, .ref qs, .ref qt, .int (nI ms.length), .long (lN nw), .long (lN en), .int (nI mo), .long (lN la), .long (lN go), .long (lN sp)])), (qm, .inl (cI, 320, .inl f)), (qs, .inl (cI, 320, .inl g)), (qt, .inr (0, [.ref qw])), (qw, .inl (cJ, 5, .inr (.inl w)))]) (wr := [(b, .inr (2, [.int (nI cd), .int (nI G), .int (nI R), .long (lN en), .long (lN nw), .int (nI ms.length), .ref qn, .ref qk, .int (nI mo), .long (lN la), .long (lN go), .long (lN sp)])), (qn, .inl (cI, 1200, .inl f2)), (qk, .inl (cI, 1200, .inl g2))]) (Wf := fun u : Unit ⊕ (Nat × Nat) => Sum.elim (fun _ : Unit => [(qo, .inl (cJ, 1, .inr (.inl o))), (a, .inr (1, [.int (nI G), .int (nI R), .ref qm, .ref qs, .ref qt, .int (nI ms.length), .long (lN nw), .long (lN en), .int (nI mo), .long (lN la), .long (lN go), .long (lN sp)])), (qm, .inl (cI, 320, .inl f)), (qs, .inl (cI, 320, .inl g)), (qt, .inr (0, [.ref qw])), (qw, .inl (cJ, 5, .inr (.inl w)))]) (fun u : Nat × Nat => [(qo, .inl (cJ, 1, .inr (.inl (vp_updL o 0 (ag_mark G ms u.1 u.2))))), (a, .inr (1, [.int (nI G), .int (nI R), .ref qm, .ref qs, .ref qt, .int (nI ms.length), .long (lN nw), .long (lN en), .int (nI mo), .long (lN la), .long (lN go), .long (lN sp)])), (qm, .inl (cI, 320, .inl f)), (qs, .inl (cI, 320, .inl g)), (qt, .inr (0, [.ref qw])), (qw, .inl (cJ, 5, .inr (.inl w)))]) u) hP hD hS hA [0, 1, 2, 3, 4, 5] [6, 7, 8] rfl rfl (by decide) (by decide) (vx_runSW (As := [.ref a, .int x, .int y, .ref qo]) (rest := []) ⟨hx, hb, hml, hown, hts⟩ (c_W_mark l dC dI H.size a qm qs qt qw cI cJ G R nw en mo la go sp f g w ms qo o x y hlx hG2 hbd hso hrep) (ag_cwH 4 hts mw_m_W_63 mw_static_W_mark mw_ini_W mw_code_W_mark rfl rfl (by decide +kernel) ⟨Nat.le_of_ble_eq_true rfl, Nat.le_of_ble_eq_true rfl⟩) ⟨ag_blindx, ag_prex hPc hK hDc (hX0.kept hS.2.1) hFc⟩ rfl rfl hl.1 rfl (lv_room (Nat.le_of_ble_eq_true rfl)) d_W_law_361 hf1) (fun r u H locs hw hP hD hS => ?_)
  refine W.widen (k := 9 + (j + 1)) (n := 3071 + 6 * (j + 1)) (by omega) (by omega) ?_
  rcases u with u | ⟨k, i2⟩
  · have h_n := trivial
    have hw : (r = nI 1 ∧ ¬ ∃ k, k < ms.length ∧ x = nI k) ∨ (r = nI 2 ∧ (∃ k, k < ms.length ∧ x = nI k) ∧ ¬ ∃ j, j ≤ 2 ∧ y = nI j) := hw
    have hP : va_P (dC, dI) agCl [(b, .inr (2, [.int (nI cd), .int (nI G), .int (nI R), .long (lN en), .long (lN nw), .int (nI ms.length), .ref qn, .ref qk, .int (nI mo), .long (lN la), .long (lN go), .long (lN sp)])), (qn, .inl (cI, 1200, .inl f2)), (qk, .inl (cI, 1200, .inl g2)), (qo, .inl (cJ, 1, .inr (.inl o))), (a, .inr (1, [.int (nI G), .int (nI R), .ref qm, .ref qs, .ref qt, .int (nI ms.length), .long (lN nw), .long (lN en), .int (nI mo), .long (lN la), .long (lN go), .long (lN sp)])), (qm, .inl (cI, 320, .inl f)), (qs, .inl (cI, 320, .inl g)), (qt, .inr (0, [.ref qw])), (qw, .inl (cJ, 5, .inr (.inl w)))] H := hP
    have hD : va_D A [(b, .inr (2, [.int (nI cd), .int (nI G), .int (nI R), .long (lN en), .long (lN nw), .int (nI ms.length), .ref qn, .ref qk, .int (nI mo), .long (lN la), .long (lN go), .long (lN sp)])), (qn, .inl (cI, 1200, .inl f2)), (qk, .inl (cI, 1200, .inl g2)), (qo, .inl (cJ, 1, .inr (.inl o))), (a, .inr (1, [.int (nI G), .int (nI R), .ref qm, .ref qs, .ref qt, .int (nI ms.length), .long (lN nw), .long (lN en), .int (nI mo), .long (lN la), .long (lN go), .long (lN sp)])), (qm, .inl (cI, 320, .inl f)), (qs, .inl (cI, 320, .inl g)), (qt, .inr (0, [.ref qw])), (qw, .inl (cJ, 5, .inr (.inl w)))] := hD
    rcases hw with ⟨rfl, hq⟩ | ⟨rfl, ⟨k, hk, rfl⟩, hq⟩
    · have h_n := trivial
      refine lv_istore (lv' := [(5, .int (nI 1)), (4, .int (nI (3 * j + 2))), (0, .ref b0), (1, .ref a), (2, .ref b), (3, .ref qo)]) hx hb d_W_law_364 hl (by decide) rfl (fun ls hl => ?_)
      refine lv_aload_n hx hb d_W_law_366 rfl (lv_at hl 4 rfl) ?_
      refine lv_aload_n hx hb d_W_law_367 rfl (lv_at hl 2 rfl) ?_
      refine lv_iload hx hb d_W_law_368 (lv_at hl 1 rfl) ?_
      refine ag_iconst hx hb 1 d_W_law_370 (by decide) ?_
      refine lv_iadd hx hb d_W_law_371 ?_
      refine ag_topi (nI ((3 * j + 2) + 1)) (nI_add _ _) ?_
      refine ag_sld hx hb hXs hbl hbA hS (i := (3 * j + 2) + 1) (by omega) (by omega) d_W_law_372 ?_
      refine ag_topi x hx1.symm ?_
      refine lv_aload_n hx hb d_W_law_373 rfl (lv_at hl 2 rfl) ?_
      refine lv_iload hx hb d_W_law_374 (lv_at hl 1 rfl) ?_
      refine ag_iconst hx hb 2 d_W_law_376 (by decide) ?_
      refine lv_iadd hx hb d_W_law_377 ?_
      refine ag_topi (nI ((3 * j + 2) + 2)) (nI_add _ _) ?_
      refine ag_sld hx hb hXs hbl hbA hS (i := (3 * j + 2) + 2) (by omega) (by omega) d_W_law_378 ?_
      refine ag_topi y hy1.symm ?_
      have hPc := hP.sub (ws' := [(b, .inr (2, [.int (nI cd), .int (nI G), .int (nI R), .long (lN en), .long (lN nw), .int (nI ms.length), .ref qn, .ref qk, .int (nI mo), .long (lN la), .long (lN go), .long (lN sp)])), (qn, .inl (cI, 1200, .inl f2)), (qk, .inl (cI, 1200, .inl g2))]) [0, 1, 2] rfl
      have hDc := hD.sub (ws' := [(b, .inr (2, [.int (nI cd), .int (nI G), .int (nI R), .long (lN en), .long (lN nw), .int (nI ms.length), .ref qn, .ref qk, .int (nI mo), .long (lN la), .long (lN go), .long (lN sp)])), (qn, .inl (cI, 1200, .inl f2)), (qk, .inl (cI, 1200, .inl g2))]) [0, 1, 2] (by decide) rfl
      have hKc := hK.sub (tys' := [(cI, .int)]) [0] rfl
      refine ag_cll (wc := [(b, .inr (2, [.int (nI cd), .int (nI G), .int (nI R), .long (lN en), .long (lN nw), .int (nI ms.length), .ref qn, .ref qk, .int (nI mo), .long (lN la), .long (lN go), .long (lN sp)])), (qn, .inl (cI, 1200, .inl f2)), (qk, .inl (cI, 1200, .inl g2))]) (wr := [(qo, .inl (cJ, 1, .inr (.inl o))), (a, .inr (1, [.int (nI G), .int (nI R), .ref qm, .ref qs, .ref qt, .int (nI ms.length), .long (lN nw), .long (lN en), .int (nI mo), .long (lN la), .long (lN go), .long (lN sp)])), (qm, .inl (cI, 320, .inl f)), (qs, .inl (cI, 320, .inl g)), (qt, .inr (0, [.ref qw])), (qw, .inl (cJ, 5, .inr (.inl w)))]) (Wf := fun _ : Unit => [(b, .inr (2, [.int (nI 1), .int (nI G), .int (nI R), .long (lN en), .long (lN nw), .int (nI ms.length), .ref qn, .ref qk, .int (nI mo), .long (lN la), .long (lN go), .long (lN sp)])), (qn, .inl (cI, 1200, .inl f2)), (qk, .inl (cI, 1200, .inl g2))]) hP hD hS hA [0, 1, 2] [3, 4, 5, 6, 7, 8] rfl rfl (by decide) (by decide) (va_runV (C := "AgedMarksModel") (As := [.int x, .int y]) (rest := []) ⟨hx, hb, hml, hown, hts⟩ (c_M_mark_1 l dC dI H.size b qn qk cI cd G R en nw mo la go sp f2 g2 ms x y hbd hq) (ag_cwV 2 hts mw_m_W_66 mw_instanceMethod_M_mark mw_sel_M_mark mw_ini_M mw_code_M_mark rfl rfl (by decide +kernel) ⟨Nat.le_of_ble_eq_true rfl, Nat.le_of_ble_eq_true rfl⟩) ⟨ag_blind, va_recv hK hPc (ci := 2) (q0 := 0) rfl rfl, ag_pre hPc hKc hDc⟩ rfl rfl hl.1 rfl (lv_room (Nat.le_of_ble_eq_true rfl)) d_W_law_379 hf0) (fun r1 u H locs hw hP hD hS => ?_)
      try dsimp only at hw
      have hP : va_P (dC, dI) agCl [(qo, .inl (cJ, 1, .inr (.inl o))), (a, .inr (1, [.int (nI G), .int (nI R), .ref qm, .ref qs, .ref qt, .int (nI ms.length), .long (lN nw), .long (lN en), .int (nI mo), .long (lN la), .long (lN go), .long (lN sp)])), (qm, .inl (cI, 320, .inl f)), (qs, .inl (cI, 320, .inl g)), (qt, .inr (0, [.ref qw])), (qw, .inl (cJ, 5, .inr (.inl w))), (b, .inr (2, [.int (nI 1), .int (nI G), .int (nI R), .long (lN en), .long (lN nw), .int (nI ms.length), .ref qn, .ref qk, .int (nI mo), .long (lN la), .long (lN go), .long (lN sp)])), (qn, .inl (cI, 1200, .inl f2)), (qk, .inl (cI, 1200, .inl g2))] H := hP
      have hD : va_D A [(qo, .inl (cJ, 1, .inr (.inl o))), (a, .inr (1, [.int (nI G), .int (nI R), .ref qm, .ref qs, .ref qt, .int (nI ms.length), .long (lN nw), .long (lN en), .int (nI mo), .long (lN la), .long (lN go), .long (lN sp)])), (qm, .inl (cI, 320, .inl f)), (qs, .inl (cI, 320, .inl g)), (qt, .inr (0, [.ref qw])), (qw, .inl (cJ, 5, .inr (.inl w))), (b, .inr (2, [.int (nI 1), .int (nI G), .int (nI R), .long (lN en), .long (lN nw), .int (nI ms.length), .ref qn, .ref qk, .int (nI mo), .long (lN la), .long (lN go), .long (lN sp)])), (qn, .inl (cI, 1200, .inl f2)), (qk, .inl (cI, 1200, .inl g2))] := hD
      refine W.widen (k := 9 + (j + 1)) (n := 3071 + 6 * (j + 1)) (by omega) (by omega) ?_
      refine lv_lstore (lv' := [(6, .long r1), (5, .int (nI 1)), (4, .int (nI (3 * j + 2))), (0, .ref b0), (1, .ref a), (2, .ref b), (3, .ref qo)]) hx hb d_W_law_382 hl (by decide) rfl (fun ls hl => ?_)
      refine lv_aload_n hx hb d_W_law_384 rfl (lv_at hl 5 rfl) ?_
      have hPc := hP.sub (ws' := [(b, .inr (2, [.int (nI 1), .int (nI G), .int (nI R), .long (lN en), .long (lN nw), .int (nI ms.length), .ref qn, .ref qk, .int (nI mo), .long (lN la), .long (lN go), .long (lN sp)])), (qn, .inl (cI, 1200, .inl f2)), (qk, .inl (cI, 1200, .inl g2))]) [6, 7, 8] rfl
      have hDc := hD.sub (ws' := [(b, .inr (2, [.int (nI 1), .int (nI G), .int (nI R), .long (lN en), .long (lN nw), .int (nI ms.length), .ref qn, .ref qk, .int (nI mo), .long (lN la), .long (lN go), .long (lN sp)])), (qn, .inl (cI, 1200, .inl f2)), (qk, .inl (cI, 1200, .inl g2))]) [6, 7, 8] (by decide) rfl
      have hKc := hK.sub (tys' := [(cI, .int)]) [0] rfl
      refine ag_cli (wc := [(b, .inr (2, [.int (nI 1), .int (nI G), .int (nI R), .long (lN en), .long (lN nw), .int (nI ms.length), .ref qn, .ref qk, .int (nI mo), .long (lN la), .long (lN go), .long (lN sp)])), (qn, .inl (cI, 1200, .inl f2)), (qk, .inl (cI, 1200, .inl g2))]) (wr := [(qo, .inl (cJ, 1, .inr (.inl o))), (a, .inr (1, [.int (nI G), .int (nI R), .ref qm, .ref qs, .ref qt, .int (nI ms.length), .long (lN nw), .long (lN en), .int (nI mo), .long (lN la), .long (lN go), .long (lN sp)])), (qm, .inl (cI, 320, .inl f)), (qs, .inl (cI, 320, .inl g)), (qt, .inr (0, [.ref qw])), (qw, .inl (cJ, 5, .inr (.inl w)))]) (Wf := fun _ : Unit => [(b, .inr (2, [.int (nI 1), .int (nI G), .int (nI R), .long (lN en), .long (lN nw), .int (nI ms.length), .ref qn, .ref qk, .int (nI mo), .long (lN la), .long (lN go), .long (lN sp)])), (qn, .inl (cI, 1200, .inl f2)), (qk, .inl (cI, 1200, .inl g2))]) hP hD hS hA [6, 7, 8] [0, 1, 2, 3, 4, 5] rfl rfl (by decide) (by decide) (va_runV (C := "AgedMarksModel") (As := []) (rest := []) ⟨hx, hb, hml, hown, hts⟩ (c_M_thrown l dC dI H.size b qn qk cI 1 G R en nw mo la go sp f2 g2 ms) (ag_cwV 0 hts mw_m_W_46 mw_instanceMethod_M_thrown mw_sel_M_thrown mw_ini_M mw_code_M_thrown rfl rfl (by decide +kernel) ⟨Nat.le_of_ble_eq_true rfl, Nat.le_of_ble_eq_true rfl⟩) ⟨ag_blind, va_recv hK hPc (ci := 2) (q0 := 0) rfl rfl, ag_pre hPc hKc hDc⟩ rfl rfl hl.1 rfl (lv_room (Nat.le_of_ble_eq_true rfl)) d_W_law_385 hf0) (fun r2 u H locs hw hP hD hS => ?_)
      try dsimp only at hw
      subst hw
      have hP : va_P (dC, dI) agCl [(qo, .inl (cJ, 1, .inr (.inl o))), (a, .inr (1, [.int (nI G), .int (nI R), .ref qm, .ref qs, .ref qt, .int (nI ms.length), .long (lN nw), .long (lN en), .int (nI mo), .long (lN la), .long (lN go), .long (lN sp)])), (qm, .inl (cI, 320, .inl f)), (qs, .inl (cI, 320, .inl g)), (qt, .inr (0, [.ref qw])), (qw, .inl (cJ, 5, .inr (.inl w))), (b, .inr (2, [.int (nI 1), .int (nI G), .int (nI R), .long (lN en), .long (lN nw), .int (nI ms.length), .ref qn, .ref qk, .int (nI mo), .long (lN la), .long (lN go), .long (lN sp)])), (qn, .inl (cI, 1200, .inl f2)), (qk, .inl (cI, 1200, .inl g2))] H := hP
      have hD : va_D A [(qo, .inl (cJ, 1, .inr (.inl o))), (a, .inr (1, [.int (nI G), .int (nI R), .ref qm, .ref qs, .ref qt, .int (nI ms.length), .long (lN nw), .long (lN en), .int (nI mo), .long (lN la), .long (lN go), .long (lN sp)])), (qm, .inl (cI, 320, .inl f)), (qs, .inl (cI, 320, .inl g)), (qt, .inr (0, [.ref qw])), (qw, .inl (cJ, 5, .inr (.inl w))), (b, .inr (2, [.int (nI 1), .int (nI G), .int (nI R), .long (lN en), .long (lN nw), .int (nI ms.length), .ref qn, .ref qk, .int (nI mo), .long (lN la), .long (lN go), .long (lN sp)])), (qn, .inl (cI, 1200, .inl f2)), (qk, .inl (cI, 1200, .inl g2))] := hD
      refine W.widen (k := 9 + (j + 1)) (n := 3071 + 6 * (j + 1)) (by omega) (by omega) ?_
      refine lv_iload hx hb d_W_law_388 (lv_at hl 1 rfl) ?_
      refine lv_icmp_eq (tgt := 395) hx hb d_W_law_390 (by decide) (fun _ => ?_) (fun c9 => absurd rfl c9)
      refine lv_iload hx hb d_W_law_395 (lv_at hl 1 rfl) ?_
      refine lv_if_ne (tgt := 411) hx hb d_W_law_397 (by decide) (fun _ => ?_) (fun c9 => absurd c9 (by decide))
      refine lv_goto (tgt := 479) hx hb d_W_law_411 (by decide) ?_
      exact kk 1 nw en mo la go sp f g w f2 g2 o ms (⟨hG, hG2, hR2, hR16, hmo, hen, hne, hin, hrep, hrpm⟩) H locs hP hD hS ls (lv_sub hl [2, 3, 4, 5, 6] rfl)
    · have h_n := trivial
      refine lv_istore (lv' := [(5, .int (nI 2)), (4, .int (nI (3 * j + 2))), (0, .ref b0), (1, .ref a), (2, .ref b), (3, .ref qo)]) hx hb d_W_law_364 hl (by decide) rfl (fun ls hl => ?_)
      refine lv_aload_n hx hb d_W_law_366 rfl (lv_at hl 4 rfl) ?_
      refine lv_aload_n hx hb d_W_law_367 rfl (lv_at hl 2 rfl) ?_
      refine lv_iload hx hb d_W_law_368 (lv_at hl 1 rfl) ?_
      refine ag_iconst hx hb 1 d_W_law_370 (by decide) ?_
      refine lv_iadd hx hb d_W_law_371 ?_
      refine ag_topi (nI ((3 * j + 2) + 1)) (nI_add _ _) ?_
      refine ag_sld hx hb hXs hbl hbA hS (i := (3 * j + 2) + 1) (by omega) (by omega) d_W_law_372 ?_
      refine ag_topi (nI k) hx1.symm ?_
      refine lv_aload_n hx hb d_W_law_373 rfl (lv_at hl 2 rfl) ?_
      refine lv_iload hx hb d_W_law_374 (lv_at hl 1 rfl) ?_
      refine ag_iconst hx hb 2 d_W_law_376 (by decide) ?_
      refine lv_iadd hx hb d_W_law_377 ?_
      refine ag_topi (nI ((3 * j + 2) + 2)) (nI_add _ _) ?_
      refine ag_sld hx hb hXs hbl hbA hS (i := (3 * j + 2) + 2) (by omega) (by omega) d_W_law_378 ?_
      refine ag_topi y hy1.symm ?_
      have hPc := hP.sub (ws' := [(b, .inr (2, [.int (nI cd), .int (nI G), .int (nI R), .long (lN en), .long (lN nw), .int (nI ms.length), .ref qn, .ref qk, .int (nI mo), .long (lN la), .long (lN go), .long (lN sp)])), (qn, .inl (cI, 1200, .inl f2)), (qk, .inl (cI, 1200, .inl g2))]) [0, 1, 2] rfl
      have hDc := hD.sub (ws' := [(b, .inr (2, [.int (nI cd), .int (nI G), .int (nI R), .long (lN en), .long (lN nw), .int (nI ms.length), .ref qn, .ref qk, .int (nI mo), .long (lN la), .long (lN go), .long (lN sp)])), (qn, .inl (cI, 1200, .inl f2)), (qk, .inl (cI, 1200, .inl g2))]) [0, 1, 2] (by decide) rfl
      have hKc := hK.sub (tys' := [(cI, .int)]) [0] rfl
      refine ag_cll (wc := [(b, .inr (2, [.int (nI cd), .int (nI G), .int (nI R), .long (lN en), .long (lN nw), .int (nI ms.length), .ref qn, .ref qk, .int (nI mo), .long (lN la), .long (lN go), .long (lN sp)])), (qn, .inl (cI, 1200, .inl f2)), (qk, .inl (cI, 1200, .inl g2))]) (wr := [(qo, .inl (cJ, 1, .inr (.inl o))), (a, .inr (1, [.int (nI G), .int (nI R), .ref qm, .ref qs, .ref qt, .int (nI ms.length), .long (lN nw), .long (lN en), .int (nI mo), .long (lN la), .long (lN go), .long (lN sp)])), (qm, .inl (cI, 320, .inl f)), (qs, .inl (cI, 320, .inl g)), (qt, .inr (0, [.ref qw])), (qw, .inl (cJ, 5, .inr (.inl w)))]) (Wf := fun _ : Unit => [(b, .inr (2, [.int (nI 2), .int (nI G), .int (nI R), .long (lN en), .long (lN nw), .int (nI ms.length), .ref qn, .ref qk, .int (nI mo), .long (lN la), .long (lN go), .long (lN sp)])), (qn, .inl (cI, 1200, .inl f2)), (qk, .inl (cI, 1200, .inl g2))]) hP hD hS hA [0, 1, 2] [3, 4, 5, 6, 7, 8] rfl rfl (by decide) (by decide) (va_runV (C := "AgedMarksModel") (As := [.int (nI k), .int y]) (rest := []) ⟨hx, hb, hml, hown, hts⟩ (c_M_mark_2 l dC dI H.size b qn qk cI cd G R en nw mo la go sp f2 g2 ms k y hbd hk hq) (ag_cwV 2 hts mw_m_W_66 mw_instanceMethod_M_mark mw_sel_M_mark mw_ini_M mw_code_M_mark rfl rfl (by decide +kernel) ⟨Nat.le_of_ble_eq_true rfl, Nat.le_of_ble_eq_true rfl⟩) ⟨ag_blind, va_recv hK hPc (ci := 2) (q0 := 0) rfl rfl, ag_pre hPc hKc hDc⟩ rfl rfl hl.1 rfl (lv_room (Nat.le_of_ble_eq_true rfl)) d_W_law_379 hf0) (fun r1 u H locs hw hP hD hS => ?_)
      try dsimp only at hw
      have hP : va_P (dC, dI) agCl [(qo, .inl (cJ, 1, .inr (.inl o))), (a, .inr (1, [.int (nI G), .int (nI R), .ref qm, .ref qs, .ref qt, .int (nI ms.length), .long (lN nw), .long (lN en), .int (nI mo), .long (lN la), .long (lN go), .long (lN sp)])), (qm, .inl (cI, 320, .inl f)), (qs, .inl (cI, 320, .inl g)), (qt, .inr (0, [.ref qw])), (qw, .inl (cJ, 5, .inr (.inl w))), (b, .inr (2, [.int (nI 2), .int (nI G), .int (nI R), .long (lN en), .long (lN nw), .int (nI ms.length), .ref qn, .ref qk, .int (nI mo), .long (lN la), .long (lN go), .long (lN sp)])), (qn, .inl (cI, 1200, .inl f2)), (qk, .inl (cI, 1200, .inl g2))] H := hP
      have hD : va_D A [(qo, .inl (cJ, 1, .inr (.inl o))), (a, .inr (1, [.int (nI G), .int (nI R), .ref qm, .ref qs, .ref qt, .int (nI ms.length), .long (lN nw), .long (lN en), .int (nI mo), .long (lN la), .long (lN go), .long (lN sp)])), (qm, .inl (cI, 320, .inl f)), (qs, .inl (cI, 320, .inl g)), (qt, .inr (0, [.ref qw])), (qw, .inl (cJ, 5, .inr (.inl w))), (b, .inr (2, [.int (nI 2), .int (nI G), .int (nI R), .long (lN en), .long (lN nw), .int (nI ms.length), .ref qn, .ref qk, .int (nI mo), .long (lN la), .long (lN go), .long (lN sp)])), (qn, .inl (cI, 1200, .inl f2)), (qk, .inl (cI, 1200, .inl g2))] := hD
      refine W.widen (k := 9 + (j + 1)) (n := 3071 + 6 * (j + 1)) (by omega) (by omega) ?_
      refine lv_lstore (lv' := [(6, .long r1), (5, .int (nI 2)), (4, .int (nI (3 * j + 2))), (0, .ref b0), (1, .ref a), (2, .ref b), (3, .ref qo)]) hx hb d_W_law_382 hl (by decide) rfl (fun ls hl => ?_)
      refine lv_aload_n hx hb d_W_law_384 rfl (lv_at hl 5 rfl) ?_
      have hPc := hP.sub (ws' := [(b, .inr (2, [.int (nI 2), .int (nI G), .int (nI R), .long (lN en), .long (lN nw), .int (nI ms.length), .ref qn, .ref qk, .int (nI mo), .long (lN la), .long (lN go), .long (lN sp)])), (qn, .inl (cI, 1200, .inl f2)), (qk, .inl (cI, 1200, .inl g2))]) [6, 7, 8] rfl
      have hDc := hD.sub (ws' := [(b, .inr (2, [.int (nI 2), .int (nI G), .int (nI R), .long (lN en), .long (lN nw), .int (nI ms.length), .ref qn, .ref qk, .int (nI mo), .long (lN la), .long (lN go), .long (lN sp)])), (qn, .inl (cI, 1200, .inl f2)), (qk, .inl (cI, 1200, .inl g2))]) [6, 7, 8] (by decide) rfl
      have hKc := hK.sub (tys' := [(cI, .int)]) [0] rfl
      refine ag_cli (wc := [(b, .inr (2, [.int (nI 2), .int (nI G), .int (nI R), .long (lN en), .long (lN nw), .int (nI ms.length), .ref qn, .ref qk, .int (nI mo), .long (lN la), .long (lN go), .long (lN sp)])), (qn, .inl (cI, 1200, .inl f2)), (qk, .inl (cI, 1200, .inl g2))]) (wr := [(qo, .inl (cJ, 1, .inr (.inl o))), (a, .inr (1, [.int (nI G), .int (nI R), .ref qm, .ref qs, .ref qt, .int (nI ms.length), .long (lN nw), .long (lN en), .int (nI mo), .long (lN la), .long (lN go), .long (lN sp)])), (qm, .inl (cI, 320, .inl f)), (qs, .inl (cI, 320, .inl g)), (qt, .inr (0, [.ref qw])), (qw, .inl (cJ, 5, .inr (.inl w)))]) (Wf := fun _ : Unit => [(b, .inr (2, [.int (nI 2), .int (nI G), .int (nI R), .long (lN en), .long (lN nw), .int (nI ms.length), .ref qn, .ref qk, .int (nI mo), .long (lN la), .long (lN go), .long (lN sp)])), (qn, .inl (cI, 1200, .inl f2)), (qk, .inl (cI, 1200, .inl g2))]) hP hD hS hA [6, 7, 8] [0, 1, 2, 3, 4, 5] rfl rfl (by decide) (by decide) (va_runV (C := "AgedMarksModel") (As := []) (rest := []) ⟨hx, hb, hml, hown, hts⟩ (c_M_thrown l dC dI H.size b qn qk cI 2 G R en nw mo la go sp f2 g2 ms) (ag_cwV 0 hts mw_m_W_46 mw_instanceMethod_M_thrown mw_sel_M_thrown mw_ini_M mw_code_M_thrown rfl rfl (by decide +kernel) ⟨Nat.le_of_ble_eq_true rfl, Nat.le_of_ble_eq_true rfl⟩) ⟨ag_blind, va_recv hK hPc (ci := 2) (q0 := 0) rfl rfl, ag_pre hPc hKc hDc⟩ rfl rfl hl.1 rfl (lv_room (Nat.le_of_ble_eq_true rfl)) d_W_law_385 hf0) (fun r2 u H locs hw hP hD hS => ?_)
      try dsimp only at hw
      subst hw
      have hP : va_P (dC, dI) agCl [(qo, .inl (cJ, 1, .inr (.inl o))), (a, .inr (1, [.int (nI G), .int (nI R), .ref qm, .ref qs, .ref qt, .int (nI ms.length), .long (lN nw), .long (lN en), .int (nI mo), .long (lN la), .long (lN go), .long (lN sp)])), (qm, .inl (cI, 320, .inl f)), (qs, .inl (cI, 320, .inl g)), (qt, .inr (0, [.ref qw])), (qw, .inl (cJ, 5, .inr (.inl w))), (b, .inr (2, [.int (nI 2), .int (nI G), .int (nI R), .long (lN en), .long (lN nw), .int (nI ms.length), .ref qn, .ref qk, .int (nI mo), .long (lN la), .long (lN go), .long (lN sp)])), (qn, .inl (cI, 1200, .inl f2)), (qk, .inl (cI, 1200, .inl g2))] H := hP
      have hD : va_D A [(qo, .inl (cJ, 1, .inr (.inl o))), (a, .inr (1, [.int (nI G), .int (nI R), .ref qm, .ref qs, .ref qt, .int (nI ms.length), .long (lN nw), .long (lN en), .int (nI mo), .long (lN la), .long (lN go), .long (lN sp)])), (qm, .inl (cI, 320, .inl f)), (qs, .inl (cI, 320, .inl g)), (qt, .inr (0, [.ref qw])), (qw, .inl (cJ, 5, .inr (.inl w))), (b, .inr (2, [.int (nI 2), .int (nI G), .int (nI R), .long (lN en), .long (lN nw), .int (nI ms.length), .ref qn, .ref qk, .int (nI mo), .long (lN la), .long (lN go), .long (lN sp)])), (qn, .inl (cI, 1200, .inl f2)), (qk, .inl (cI, 1200, .inl g2))] := hD
      refine W.widen (k := 9 + (j + 1)) (n := 3071 + 6 * (j + 1)) (by omega) (by omega) ?_
      refine lv_iload hx hb d_W_law_388 (lv_at hl 1 rfl) ?_
      refine lv_icmp_eq (tgt := 395) hx hb d_W_law_390 (by decide) (fun _ => ?_) (fun c9 => absurd rfl c9)
      refine lv_iload hx hb d_W_law_395 (lv_at hl 1 rfl) ?_
      refine lv_if_ne (tgt := 411) hx hb d_W_law_397 (by decide) (fun _ => ?_) (fun c9 => absurd c9 (by decide))
      refine lv_goto (tgt := 479) hx hb d_W_law_411 (by decide) ?_
      exact kk 2 nw en mo la go sp f g w f2 g2 o ms (⟨hG, hG2, hR2, hR16, hmo, hen, hne, hin, hrep, hrpm⟩) H locs hP hD hS ls (lv_sub hl [2, 3, 4, 5, 6] rfl)
  · have h_n := trivial
    have hw : r = nI 0 ∧ k < ms.length ∧ i2 ≤ 2 ∧ x = nI k ∧ y = nI i2 := hw
    have hP : va_P (dC, dI) agCl [(b, .inr (2, [.int (nI cd), .int (nI G), .int (nI R), .long (lN en), .long (lN nw), .int (nI ms.length), .ref qn, .ref qk, .int (nI mo), .long (lN la), .long (lN go), .long (lN sp)])), (qn, .inl (cI, 1200, .inl f2)), (qk, .inl (cI, 1200, .inl g2)), (qo, .inl (cJ, 1, .inr (.inl (vp_updL o 0 (ag_mark G ms k i2))))), (a, .inr (1, [.int (nI G), .int (nI R), .ref qm, .ref qs, .ref qt, .int (nI ms.length), .long (lN nw), .long (lN en), .int (nI mo), .long (lN la), .long (lN go), .long (lN sp)])), (qm, .inl (cI, 320, .inl f)), (qs, .inl (cI, 320, .inl g)), (qt, .inr (0, [.ref qw])), (qw, .inl (cJ, 5, .inr (.inl w)))] H := hP
    have hD : va_D A [(b, .inr (2, [.int (nI cd), .int (nI G), .int (nI R), .long (lN en), .long (lN nw), .int (nI ms.length), .ref qn, .ref qk, .int (nI mo), .long (lN la), .long (lN go), .long (lN sp)])), (qn, .inl (cI, 1200, .inl f2)), (qk, .inl (cI, 1200, .inl g2)), (qo, .inl (cJ, 1, .inr (.inl (vp_updL o 0 (ag_mark G ms k i2))))), (a, .inr (1, [.int (nI G), .int (nI R), .ref qm, .ref qs, .ref qt, .int (nI ms.length), .long (lN nw), .long (lN en), .int (nI mo), .long (lN la), .long (lN go), .long (lN sp)])), (qm, .inl (cI, 320, .inl f)), (qs, .inl (cI, 320, .inl g)), (qt, .inr (0, [.ref qw])), (qw, .inl (cJ, 5, .inr (.inl w)))] := hD
    obtain ⟨rfl, hk, hi2, rfl, rfl⟩ := hw
    refine lv_istore (lv' := [(5, .int (nI 0)), (4, .int (nI (3 * j + 2))), (0, .ref b0), (1, .ref a), (2, .ref b), (3, .ref qo)]) hx hb d_W_law_364 hl (by decide) rfl (fun ls hl => ?_)
    refine lv_aload_n hx hb d_W_law_366 rfl (lv_at hl 4 rfl) ?_
    refine lv_aload_n hx hb d_W_law_367 rfl (lv_at hl 2 rfl) ?_
    refine lv_iload hx hb d_W_law_368 (lv_at hl 1 rfl) ?_
    refine ag_iconst hx hb 1 d_W_law_370 (by decide) ?_
    refine lv_iadd hx hb d_W_law_371 ?_
    refine ag_topi (nI ((3 * j + 2) + 1)) (nI_add _ _) ?_
    refine ag_sld hx hb hXs hbl hbA hS (i := (3 * j + 2) + 1) (by omega) (by omega) d_W_law_372 ?_
    refine ag_topi (nI k) hx1.symm ?_
    refine lv_aload_n hx hb d_W_law_373 rfl (lv_at hl 2 rfl) ?_
    refine lv_iload hx hb d_W_law_374 (lv_at hl 1 rfl) ?_
    refine ag_iconst hx hb 2 d_W_law_376 (by decide) ?_
    refine lv_iadd hx hb d_W_law_377 ?_
    refine ag_topi (nI ((3 * j + 2) + 2)) (nI_add _ _) ?_
    refine ag_sld hx hb hXs hbl hbA hS (i := (3 * j + 2) + 2) (by omega) (by omega) d_W_law_378 ?_
    refine ag_topi (nI i2) hy1.symm ?_
    have hPc := hP.sub (ws' := [(b, .inr (2, [.int (nI cd), .int (nI G), .int (nI R), .long (lN en), .long (lN nw), .int (nI ms.length), .ref qn, .ref qk, .int (nI mo), .long (lN la), .long (lN go), .long (lN sp)])), (qn, .inl (cI, 1200, .inl f2)), (qk, .inl (cI, 1200, .inl g2))]) [0, 1, 2] rfl
    have hDc := hD.sub (ws' := [(b, .inr (2, [.int (nI cd), .int (nI G), .int (nI R), .long (lN en), .long (lN nw), .int (nI ms.length), .ref qn, .ref qk, .int (nI mo), .long (lN la), .long (lN go), .long (lN sp)])), (qn, .inl (cI, 1200, .inl f2)), (qk, .inl (cI, 1200, .inl g2))]) [0, 1, 2] (by decide) rfl
    have hKc := hK.sub (tys' := [(cI, .int)]) [0] rfl
    refine ag_cll (wc := [(b, .inr (2, [.int (nI cd), .int (nI G), .int (nI R), .long (lN en), .long (lN nw), .int (nI ms.length), .ref qn, .ref qk, .int (nI mo), .long (lN la), .long (lN go), .long (lN sp)])), (qn, .inl (cI, 1200, .inl f2)), (qk, .inl (cI, 1200, .inl g2))]) (wr := [(qo, .inl (cJ, 1, .inr (.inl (vp_updL o 0 (ag_mark G ms k i2))))), (a, .inr (1, [.int (nI G), .int (nI R), .ref qm, .ref qs, .ref qt, .int (nI ms.length), .long (lN nw), .long (lN en), .int (nI mo), .long (lN la), .long (lN go), .long (lN sp)])), (qm, .inl (cI, 320, .inl f)), (qs, .inl (cI, 320, .inl g)), (qt, .inr (0, [.ref qw])), (qw, .inl (cJ, 5, .inr (.inl w)))]) (Wf := fun _ : Unit => [(b, .inr (2, [.int (nI 0), .int (nI G), .int (nI R), .long (lN en), .long (lN nw), .int (nI ms.length), .ref qn, .ref qk, .int (nI mo), .long (lN la), .long (lN go), .long (lN sp)])), (qn, .inl (cI, 1200, .inl f2)), (qk, .inl (cI, 1200, .inl g2))]) hP hD hS hA [0, 1, 2] [3, 4, 5, 6, 7, 8] rfl rfl (by decide) (by decide) (va_runV (C := "AgedMarksModel") (As := [.int (nI k), .int (nI i2)]) (rest := []) ⟨hx, hb, hml, hown, hts⟩ (c_M_mark_0 l dC dI H.size b qn qk cI cd G R en nw mo la go sp f2 g2 ms k i2 hG2 hbd hso hk hi2 hrpm) (ag_cwV 2 hts mw_m_W_66 mw_instanceMethod_M_mark mw_sel_M_mark mw_ini_M mw_code_M_mark rfl rfl (by decide +kernel) ⟨Nat.le_of_ble_eq_true rfl, Nat.le_of_ble_eq_true rfl⟩) ⟨ag_blind, va_recv hK hPc (ci := 2) (q0 := 0) rfl rfl, ag_pre hPc hKc hDc⟩ rfl rfl hl.1 rfl (lv_room (Nat.le_of_ble_eq_true rfl)) d_W_law_379 hf0) (fun r1 u H locs hw hP hD hS => ?_)
    try dsimp only at hw
    subst hw
    have hP : va_P (dC, dI) agCl [(qo, .inl (cJ, 1, .inr (.inl (vp_updL o 0 (ag_mark G ms k i2))))), (a, .inr (1, [.int (nI G), .int (nI R), .ref qm, .ref qs, .ref qt, .int (nI ms.length), .long (lN nw), .long (lN en), .int (nI mo), .long (lN la), .long (lN go), .long (lN sp)])), (qm, .inl (cI, 320, .inl f)), (qs, .inl (cI, 320, .inl g)), (qt, .inr (0, [.ref qw])), (qw, .inl (cJ, 5, .inr (.inl w))), (b, .inr (2, [.int (nI 0), .int (nI G), .int (nI R), .long (lN en), .long (lN nw), .int (nI ms.length), .ref qn, .ref qk, .int (nI mo), .long (lN la), .long (lN go), .long (lN sp)])), (qn, .inl (cI, 1200, .inl f2)), (qk, .inl (cI, 1200, .inl g2))] H := hP
    have hD : va_D A [(qo, .inl (cJ, 1, .inr (.inl (vp_updL o 0 (ag_mark G ms k i2))))), (a, .inr (1, [.int (nI G), .int (nI R), .ref qm, .ref qs, .ref qt, .int (nI ms.length), .long (lN nw), .long (lN en), .int (nI mo), .long (lN la), .long (lN go), .long (lN sp)])), (qm, .inl (cI, 320, .inl f)), (qs, .inl (cI, 320, .inl g)), (qt, .inr (0, [.ref qw])), (qw, .inl (cJ, 5, .inr (.inl w))), (b, .inr (2, [.int (nI 0), .int (nI G), .int (nI R), .long (lN en), .long (lN nw), .int (nI ms.length), .ref qn, .ref qk, .int (nI mo), .long (lN la), .long (lN go), .long (lN sp)])), (qn, .inl (cI, 1200, .inl f2)), (qk, .inl (cI, 1200, .inl g2))] := hD
    refine W.widen (k := 9 + (j + 1)) (n := 3071 + 6 * (j + 1)) (by omega) (by omega) ?_
    refine lv_lstore (lv' := [(6, .long (ag_mark G ms k i2)), (5, .int (nI 0)), (4, .int (nI (3 * j + 2))), (0, .ref b0), (1, .ref a), (2, .ref b), (3, .ref qo)]) hx hb d_W_law_382 hl (by decide) rfl (fun ls hl => ?_)
    refine lv_aload_n hx hb d_W_law_384 rfl (lv_at hl 5 rfl) ?_
    have hPc := hP.sub (ws' := [(b, .inr (2, [.int (nI 0), .int (nI G), .int (nI R), .long (lN en), .long (lN nw), .int (nI ms.length), .ref qn, .ref qk, .int (nI mo), .long (lN la), .long (lN go), .long (lN sp)])), (qn, .inl (cI, 1200, .inl f2)), (qk, .inl (cI, 1200, .inl g2))]) [6, 7, 8] rfl
    have hDc := hD.sub (ws' := [(b, .inr (2, [.int (nI 0), .int (nI G), .int (nI R), .long (lN en), .long (lN nw), .int (nI ms.length), .ref qn, .ref qk, .int (nI mo), .long (lN la), .long (lN go), .long (lN sp)])), (qn, .inl (cI, 1200, .inl f2)), (qk, .inl (cI, 1200, .inl g2))]) [6, 7, 8] (by decide) rfl
    have hKc := hK.sub (tys' := [(cI, .int)]) [0] rfl
    refine ag_cli (wc := [(b, .inr (2, [.int (nI 0), .int (nI G), .int (nI R), .long (lN en), .long (lN nw), .int (nI ms.length), .ref qn, .ref qk, .int (nI mo), .long (lN la), .long (lN go), .long (lN sp)])), (qn, .inl (cI, 1200, .inl f2)), (qk, .inl (cI, 1200, .inl g2))]) (wr := [(qo, .inl (cJ, 1, .inr (.inl (vp_updL o 0 (ag_mark G ms k i2))))), (a, .inr (1, [.int (nI G), .int (nI R), .ref qm, .ref qs, .ref qt, .int (nI ms.length), .long (lN nw), .long (lN en), .int (nI mo), .long (lN la), .long (lN go), .long (lN sp)])), (qm, .inl (cI, 320, .inl f)), (qs, .inl (cI, 320, .inl g)), (qt, .inr (0, [.ref qw])), (qw, .inl (cJ, 5, .inr (.inl w)))]) (Wf := fun _ : Unit => [(b, .inr (2, [.int (nI 0), .int (nI G), .int (nI R), .long (lN en), .long (lN nw), .int (nI ms.length), .ref qn, .ref qk, .int (nI mo), .long (lN la), .long (lN go), .long (lN sp)])), (qn, .inl (cI, 1200, .inl f2)), (qk, .inl (cI, 1200, .inl g2))]) hP hD hS hA [6, 7, 8] [0, 1, 2, 3, 4, 5] rfl rfl (by decide) (by decide) (va_runV (C := "AgedMarksModel") (As := []) (rest := []) ⟨hx, hb, hml, hown, hts⟩ (c_M_thrown l dC dI H.size b qn qk cI 0 G R en nw mo la go sp f2 g2 ms) (ag_cwV 0 hts mw_m_W_46 mw_instanceMethod_M_thrown mw_sel_M_thrown mw_ini_M mw_code_M_thrown rfl rfl (by decide +kernel) ⟨Nat.le_of_ble_eq_true rfl, Nat.le_of_ble_eq_true rfl⟩) ⟨ag_blind, va_recv hK hPc (ci := 2) (q0 := 0) rfl rfl, ag_pre hPc hKc hDc⟩ rfl rfl hl.1 rfl (lv_room (Nat.le_of_ble_eq_true rfl)) d_W_law_385 hf0) (fun r2 u H locs hw hP hD hS => ?_)
    try dsimp only at hw
    subst hw
    have hP : va_P (dC, dI) agCl [(qo, .inl (cJ, 1, .inr (.inl (vp_updL o 0 (ag_mark G ms k i2))))), (a, .inr (1, [.int (nI G), .int (nI R), .ref qm, .ref qs, .ref qt, .int (nI ms.length), .long (lN nw), .long (lN en), .int (nI mo), .long (lN la), .long (lN go), .long (lN sp)])), (qm, .inl (cI, 320, .inl f)), (qs, .inl (cI, 320, .inl g)), (qt, .inr (0, [.ref qw])), (qw, .inl (cJ, 5, .inr (.inl w))), (b, .inr (2, [.int (nI 0), .int (nI G), .int (nI R), .long (lN en), .long (lN nw), .int (nI ms.length), .ref qn, .ref qk, .int (nI mo), .long (lN la), .long (lN go), .long (lN sp)])), (qn, .inl (cI, 1200, .inl f2)), (qk, .inl (cI, 1200, .inl g2))] H := hP
    have hD : va_D A [(qo, .inl (cJ, 1, .inr (.inl (vp_updL o 0 (ag_mark G ms k i2))))), (a, .inr (1, [.int (nI G), .int (nI R), .ref qm, .ref qs, .ref qt, .int (nI ms.length), .long (lN nw), .long (lN en), .int (nI mo), .long (lN la), .long (lN go), .long (lN sp)])), (qm, .inl (cI, 320, .inl f)), (qs, .inl (cI, 320, .inl g)), (qt, .inr (0, [.ref qw])), (qw, .inl (cJ, 5, .inr (.inl w))), (b, .inr (2, [.int (nI 0), .int (nI G), .int (nI R), .long (lN en), .long (lN nw), .int (nI ms.length), .ref qn, .ref qk, .int (nI mo), .long (lN la), .long (lN go), .long (lN sp)])), (qn, .inl (cI, 1200, .inl f2)), (qk, .inl (cI, 1200, .inl g2))] := hD
    refine W.widen (k := 9 + (j + 1)) (n := 3071 + 6 * (j + 1)) (by omega) (by omega) ?_
    refine lv_iload hx hb d_W_law_388 (lv_at hl 1 rfl) ?_
    refine lv_icmp_eq (tgt := 395) hx hb d_W_law_390 (by decide) (fun _ => ?_) (fun c9 => absurd rfl c9)
    refine lv_iload hx hb d_W_law_395 (lv_at hl 1 rfl) ?_
    refine lv_if_ne (tgt := 411) hx hb d_W_law_397 (by decide) (fun c9 => absurd (by decide) c9) (fun _ => ?_)
    refine lv_aload_n hx hb d_W_law_400 rfl (lv_at hl 6 rfl) ?_
    refine ag_iconst hx hb 0 d_W_law_401 (by decide) ?_
    refine ag_lald hx hb hK hP 0 1 rfl rfl (by decide) (by decide) d_W_law_402 ?_
    refine ag_topl (ag_mark G ms k i2) pk_uLs ?_
    refine lv_lload hx hb d_W_law_403 (lv_at hl 0 rfl) ?_
    refine ag_lc_eq (tgt := 411) hx hb d_W_law_405 d_W_law_406 (by decide) (fun _ => ?_) (fun c9 => absurd rfl c9)
    refine lv_goto (tgt := 479) hx hb d_W_law_411 (by decide) ?_
    exact kk 0 nw en mo la go sp f g w f2 g2 (vp_updL o 0 (ag_mark G ms k i2)) ms (⟨hG, hG2, hR2, hR16, hmo, hen, hne, hin, hrep, hrpm⟩) H locs hP hD hS ls (lv_sub hl [2, 3, 4, 5, 6] rfl)
