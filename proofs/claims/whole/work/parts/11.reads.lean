set_option maxHeartbeats 4000000 in
set_option maxRecDepth 100000 in
/-- gapsIn(x): x / gap -/
theorem c_A_gapsIn (l : Launch) (dC : Nat → ClassId) (dI : Nat → Nat → Nat) (sz : Nat) (a qm qs qt qw : Nat) (cI cJ : ClassId) (G R hd nw en mo la go sp : Nat) (f g : Nat → Int32) (w : Nat → Int64) (x : Nat) (hG : 0 < G) (hG2 : G ≤ 1000) (hx9 : x ≤ 1000000 * G) : Met l y_A_gapsIn (Cond.code y_A_gapsIn b_A_gapsIn 3 (some .int) :: agW) ({ frames := 0, cells := 0, slots := 0, locals := 0 }) (va_Pc [.ref a, .long (lN x)] (ag_at (dC, dI) agCl [(cI, .int), (cJ, .long)] sz [(a, .inr (1, [.int (nI G), .int (nI R), .ref qm, .ref qs, .ref qt, .int (nI hd), .long (lN nw), .long (lN en), .int (nI mo), .long (lN la), .long (lN go), .long (lN sp)])), (qm, .inl (cI, 320, .inl f)), (qs, .inl (cI, 320, .inl g)), (qt, .inr (0, [.ref qw])), (qw, .inl (cJ, 5, .inr (.inl w)))])) (va_Qi (fun (r : Int32) (_ : Unit) => r = nI (x / G)) (ag_to (dC, dI) agCl [(cI, .int), (cJ, .long)] (va_A [(a, .inr (1, [.int (nI G), .int (nI R), .ref qm, .ref qs, .ref qt, .int (nI hd), .long (lN nw), .long (lN en), .int (nI mo), .long (lN la), .long (lN go), .long (lN sp)])), (qm, .inl (cI, 320, .inl f)), (qs, .inl (cI, 320, .inl g)), (qt, .inr (0, [.ref qw])), (qw, .inl (cJ, 5, .inr (.inl w)))] sz) (fun _ : Unit => [(a, .inr (1, [.int (nI G), .int (nI R), .ref qm, .ref qs, .ref qt, .int (nI hd), .long (lN nw), .long (lN en), .int (nI mo), .long (lN la), .long (lN go), .long (lN sp)])), (qm, .inl (cI, 320, .inl f)), (qs, .inl (cI, 320, .inl g)), (qt, .inr (0, [.ref qw])), (qw, .inl (cJ, 5, .inr (.inl w)))])) (va_A [(a, .inr (1, [.int (nI G), .int (nI R), .ref qm, .ref qs, .ref qt, .int (nI hd), .long (lN nw), .long (lN en), .int (nI mo), .long (lN la), .long (lN go), .long (lN sp)])), (qm, .inl (cI, 320, .inl f)), (qs, .inl (cI, 320, .inl g)), (qt, .inr (0, [.ref qw])), (qw, .inl (cJ, 5, .inr (.inl w)))] sz)) 0 0 (va_A [(a, .inr (1, [.int (nI G), .int (nI R), .ref qm, .ref qs, .ref qt, .int (nI hd), .long (lN nw), .long (lN en), .int (nI mo), .long (lN la), .long (lN go), .long (lN sp)])), (qm, .inl (cI, 320, .inl f)), (qs, .inl (cI, 320, .inl g)), (qt, .inr (0, [.ref qw])), (qw, .inl (cJ, 5, .inr (.inl w)))] sz) := by
  refine ag_ofW (Qf := fun A => va_Qi (fun (r : Int32) (_ : Unit) => r = nI (x / G)) (ag_to (dC, dI) agCl [(cI, .int), (cJ, .long)] A (fun _ : Unit => [(a, .inr (1, [.int (nI G), .int (nI R), .ref qm, .ref qs, .ref qt, .int (nI hd), .long (lN nw), .long (lN en), .int (nI mo), .long (lN la), .long (lN go), .long (lN sp)])), (qm, .inl (cI, 320, .inl f)), (qs, .inl (cI, 320, .inl g)), (qt, .inr (0, [.ref qw])), (qw, .inl (cJ, 5, .inr (.inl w)))])) A) (cc := b_A_gapsIn) (maxL := 3) (ret := (some .int)) (lv := [(0, .ref a), (1, .long (lN x))]) (by decide) rfl (Nat.le_of_ble_eq_true rfl) rfl (fun p e s m below meth c A ls hx hb hr hts hown hlocks hml hnm hA hS hP hK hD hl hsz => ?_)
  have hown : s.vm.findClass "AgedMarks" = some m.cls := hown
  have ht : ∀ w ∈ agW, w.before [.ref a, .long (lN x)].toArray s = true := fun w h => hts w (List.mem_cons_of_mem _ h)
  refine lv_aload_n hx hb d_A_gapsIn_0 rfl (lv_at hl 0 rfl) ?_
  refine va_get (D := (dC, dI)) (ci := 1) (v := .int (nI G)) (C := RX1) (T := TX1) (N := 12) hx hb ht inA1 hown hK hP 0 rfl rfl 0 (by decide) (ht _ mw_f_A_32) (fun _ h9 => h9) rfl d_A_gapsIn_1 ?_
  refine ag_if_le (tgt := 18) hx hb d_A_gapsIn_4 (by decide) (by omega) (fun c4 => ?_) (fun c4 => ?_)
  · have h_n := trivial
    exact absurd c4 (by omega)
  · have h_n := trivial
    refine lv_lload_n hx hb d_A_gapsIn_7 rfl (lv_at hl 1 rfl) ?_
    refine lv_aload_n hx hb d_A_gapsIn_8 rfl (lv_at hl 0 rfl) ?_
    refine va_get (D := (dC, dI)) (ci := 1) (v := .int (nI G)) (C := RX1) (T := TX1) (N := 12) hx hb ht inA1 hown hK hP 0 rfl rfl 0 (by decide) (ht _ mw_f_A_32) (fun _ h9 => h9) rfl d_A_gapsIn_9 ?_
    refine lv_i2l (v := lN G) hx hb d_A_gapsIn_12 (nI_l (by omega)) ?_
    refine lv_ldiv hx hb d_A_gapsIn_13 (fun q => absurd ((pk_lEQ (a := G) (b := 0) (by omega) (by omega)).mp q) (by omega)) ?_
    refine ag_topl (lN (x / G)) (pk_lDiv (by omega) (by omega) (by omega)) ?_
    refine lv_l2i (v := nI (x / G)) hx hb d_A_gapsIn_14 (lN_i _) ?_
    refine lv_goto (tgt := 19) hx hb d_A_gapsIn_15 (by decide) ?_
    exact ag_reti hx hb hr hlocks () rfl hP hK hD hS d_A_gapsIn_19

set_option maxHeartbeats 4000000 in
set_option maxRecDepth 100000 in
/-- countAt(k): the count of the mark at k -/
theorem c_A_countAt (l : Launch) (dC : Nat → ClassId) (dI : Nat → Nat → Nat) (sz : Nat) (a qm qs qt qw : Nat) (cI cJ : ClassId) (G R hd nw en mo la go sp : Nat) (f g : Nat → Int32) (w : Nat → Int64) (k i : Nat) (hk : k < 320) (hi : i < 2 ^ 31) (hG2 : G ≤ 1000) (hf : f k = nI i) : Met l y_A_countAt (Cond.code y_A_countAt b_A_countAt 2 (some .long) :: agW) ({ frames := 0, cells := 0, slots := 0, locals := 0 }) (va_Pc [.ref a, .int (nI k)] (ag_at (dC, dI) agCl [(cI, .int), (cJ, .long)] sz [(a, .inr (1, [.int (nI G), .int (nI R), .ref qm, .ref qs, .ref qt, .int (nI hd), .long (lN nw), .long (lN en), .int (nI mo), .long (lN la), .long (lN go), .long (lN sp)])), (qm, .inl (cI, 320, .inl f)), (qs, .inl (cI, 320, .inl g)), (qt, .inr (0, [.ref qw])), (qw, .inl (cJ, 5, .inr (.inl w)))])) (va_Ql (fun (r : Int64) (_ : Unit) => r = lN (i * G)) (ag_to (dC, dI) agCl [(cI, .int), (cJ, .long)] (va_A [(a, .inr (1, [.int (nI G), .int (nI R), .ref qm, .ref qs, .ref qt, .int (nI hd), .long (lN nw), .long (lN en), .int (nI mo), .long (lN la), .long (lN go), .long (lN sp)])), (qm, .inl (cI, 320, .inl f)), (qs, .inl (cI, 320, .inl g)), (qt, .inr (0, [.ref qw])), (qw, .inl (cJ, 5, .inr (.inl w)))] sz) (fun _ : Unit => [(a, .inr (1, [.int (nI G), .int (nI R), .ref qm, .ref qs, .ref qt, .int (nI hd), .long (lN nw), .long (lN en), .int (nI mo), .long (lN la), .long (lN go), .long (lN sp)])), (qm, .inl (cI, 320, .inl f)), (qs, .inl (cI, 320, .inl g)), (qt, .inr (0, [.ref qw])), (qw, .inl (cJ, 5, .inr (.inl w)))])) (va_A [(a, .inr (1, [.int (nI G), .int (nI R), .ref qm, .ref qs, .ref qt, .int (nI hd), .long (lN nw), .long (lN en), .int (nI mo), .long (lN la), .long (lN go), .long (lN sp)])), (qm, .inl (cI, 320, .inl f)), (qs, .inl (cI, 320, .inl g)), (qt, .inr (0, [.ref qw])), (qw, .inl (cJ, 5, .inr (.inl w)))] sz)) 0 0 (va_A [(a, .inr (1, [.int (nI G), .int (nI R), .ref qm, .ref qs, .ref qt, .int (nI hd), .long (lN nw), .long (lN en), .int (nI mo), .long (lN la), .long (lN go), .long (lN sp)])), (qm, .inl (cI, 320, .inl f)), (qs, .inl (cI, 320, .inl g)), (qt, .inr (0, [.ref qw])), (qw, .inl (cJ, 5, .inr (.inl w)))] sz) := by
  refine ag_ofW (Qf := fun A => va_Ql (fun (r : Int64) (_ : Unit) => r = lN (i * G)) (ag_to (dC, dI) agCl [(cI, .int), (cJ, .long)] A (fun _ : Unit => [(a, .inr (1, [.int (nI G), .int (nI R), .ref qm, .ref qs, .ref qt, .int (nI hd), .long (lN nw), .long (lN en), .int (nI mo), .long (lN la), .long (lN go), .long (lN sp)])), (qm, .inl (cI, 320, .inl f)), (qs, .inl (cI, 320, .inl g)), (qt, .inr (0, [.ref qw])), (qw, .inl (cJ, 5, .inr (.inl w)))])) A) (cc := b_A_countAt) (maxL := 2) (ret := (some .long)) (lv := [(0, .ref a), (1, .int (nI k))]) (by decide) rfl (Nat.le_of_ble_eq_true rfl) rfl (fun p e s m below meth c A ls hx hb hr hts hown hlocks hml hnm hA hS hP hK hD hl hsz => ?_)
  have hown : s.vm.findClass "AgedMarks" = some m.cls := hown
  have ht : ∀ w ∈ agW, w.before [.ref a, .int (nI k)].toArray s = true := fun w h => hts w (List.mem_cons_of_mem _ h)
  refine lv_iload_n hx hb d_A_countAt_0 rfl (lv_at hl 1 rfl) ?_
  refine ag_if_lt (tgt := 27) hx hb d_A_countAt_1 (by decide) (by omega) ?_
  refine lv_iload_n hx hb d_A_countAt_4 rfl (lv_at hl 1 rfl) ?_
  refine ag_sipush hx hb 320 d_A_countAt_5 (by decide) ?_
  refine ag_icmp_ge (tgt := 27) hx hb d_A_countAt_8 (by decide) (by omega) (by omega) (fun c8 => ?_) (fun c8 => ?_)
  · have h_n := trivial
    exact absurd c8 (by omega)
  · have h_n := trivial
    refine lv_aload_n hx hb d_A_countAt_11 rfl (lv_at hl 0 rfl) ?_
    refine va_get (D := (dC, dI)) (ci := 1) (v := .ref qm) (C := RX1) (T := TX1) (N := 12) hx hb ht inA1 hown hK hP 0 rfl rfl 2 (by decide) (ht _ mw_f_A_9) (fun _ h9 => h9) rfl d_A_countAt_12 ?_
    refine lv_iload_n hx hb d_A_countAt_15 rfl (lv_at hl 1 rfl) ?_
    refine ag_iald hx hb hK hP 1 0 rfl rfl hk (by decide) d_A_countAt_16 ?_
    refine ag_topi (nI i) hf ?_
    refine lv_i2l (v := lN i) hx hb d_A_countAt_17 (nI_l (by omega)) ?_
    refine lv_aload_n hx hb d_A_countAt_18 rfl (lv_at hl 0 rfl) ?_
    refine va_get (D := (dC, dI)) (ci := 1) (v := .int (nI G)) (C := RX1) (T := TX1) (N := 12) hx hb ht inA1 hown hK hP 0 rfl rfl 0 (by decide) (ht _ mw_f_A_32) (fun _ h9 => h9) rfl d_A_countAt_19 ?_
    refine lv_i2l (v := lN G) hx hb d_A_countAt_22 (nI_l (by omega)) ?_
    refine lv_lmul hx hb d_A_countAt_23 ?_
    refine ag_topl (lN (i * G)) (lN_mul _ _) ?_
    refine lv_goto (tgt := 28) hx hb d_A_countAt_24 (by decide) ?_
    exact ag_retl hx hb hr hlocks () rfl hP hK hD hS d_A_countAt_28

set_option maxHeartbeats 4000000 in
set_option maxRecDepth 100000 in
/-- placeOf(x): where x lies among the marks, or -1 -/
theorem c_A_placeOf (l : Launch) (dC : Nat → ClassId) (dI : Nat → Nat → Nat) (sz : Nat) (a qm qs qt qw : Nat) (cI cJ : ClassId) (G R hd nw en mo la go sp : Nat) (f g : Nat → Int32) (w : Nat → Int64) (x : Int32) (hd0 : 0 < hd) (hd1 : hd ≤ 320) (hs : ∀ i j, i < j → j < hd → f i < f j) : Met l y_A_placeOf (Cond.code y_A_placeOf b_A_placeOf 3 (some .int) :: agW) ({ frames := 0, cells := 0, slots := 0, locals := 0 }) (va_Pc [.ref a, .int x] (ag_at (dC, dI) agCl [(cI, .int), (cJ, .long)] sz [(a, .inr (1, [.int (nI G), .int (nI R), .ref qm, .ref qs, .ref qt, .int (nI hd), .long (lN nw), .long (lN en), .int (nI mo), .long (lN la), .long (lN go), .long (lN sp)])), (qm, .inl (cI, 320, .inl f)), (qs, .inl (cI, 320, .inl g)), (qt, .inr (0, [.ref qw])), (qw, .inl (cJ, 5, .inr (.inl w)))])) (va_Qi (fun (r : Int32) (_ : Unit) => (∃ k, k < hd ∧ f k = x ∧ r = nI k) ∨ ((∀ k, k < hd → f k ≠ x) ∧ r = -1)) (ag_to (dC, dI) agCl [(cI, .int), (cJ, .long)] (va_A [(a, .inr (1, [.int (nI G), .int (nI R), .ref qm, .ref qs, .ref qt, .int (nI hd), .long (lN nw), .long (lN en), .int (nI mo), .long (lN la), .long (lN go), .long (lN sp)])), (qm, .inl (cI, 320, .inl f)), (qs, .inl (cI, 320, .inl g)), (qt, .inr (0, [.ref qw])), (qw, .inl (cJ, 5, .inr (.inl w)))] sz) (fun _ : Unit => [(a, .inr (1, [.int (nI G), .int (nI R), .ref qm, .ref qs, .ref qt, .int (nI hd), .long (lN nw), .long (lN en), .int (nI mo), .long (lN la), .long (lN go), .long (lN sp)])), (qm, .inl (cI, 320, .inl f)), (qs, .inl (cI, 320, .inl g)), (qt, .inr (0, [.ref qw])), (qw, .inl (cJ, 5, .inr (.inl w)))])) (va_A [(a, .inr (1, [.int (nI G), .int (nI R), .ref qm, .ref qs, .ref qt, .int (nI hd), .long (lN nw), .long (lN en), .int (nI mo), .long (lN la), .long (lN go), .long (lN sp)])), (qm, .inl (cI, 320, .inl f)), (qs, .inl (cI, 320, .inl g)), (qt, .inr (0, [.ref qw])), (qw, .inl (cJ, 5, .inr (.inl w)))] sz)) 0 0 (va_A [(a, .inr (1, [.int (nI G), .int (nI R), .ref qm, .ref qs, .ref qt, .int (nI hd), .long (lN nw), .long (lN en), .int (nI mo), .long (lN la), .long (lN go), .long (lN sp)])), (qm, .inl (cI, 320, .inl f)), (qs, .inl (cI, 320, .inl g)), (qt, .inr (0, [.ref qw])), (qw, .inl (cJ, 5, .inr (.inl w)))] sz) := by
  refine ag_ofW (Qf := fun A => va_Qi (fun (r : Int32) (_ : Unit) => (∃ k, k < hd ∧ f k = x ∧ r = nI k) ∨ ((∀ k, k < hd → f k ≠ x) ∧ r = -1)) (ag_to (dC, dI) agCl [(cI, .int), (cJ, .long)] A (fun _ : Unit => [(a, .inr (1, [.int (nI G), .int (nI R), .ref qm, .ref qs, .ref qt, .int (nI hd), .long (lN nw), .long (lN en), .int (nI mo), .long (lN la), .long (lN go), .long (lN sp)])), (qm, .inl (cI, 320, .inl f)), (qs, .inl (cI, 320, .inl g)), (qt, .inr (0, [.ref qw])), (qw, .inl (cJ, 5, .inr (.inl w)))])) A) (cc := b_A_placeOf) (maxL := 3) (ret := (some .int)) (lv := [(0, .ref a), (1, .int x)]) (by decide) rfl (Nat.le_of_ble_eq_true rfl) rfl (fun p e s m below meth c A ls hx hb hr hts hown hlocks hml hnm hA hS hP hK hD hl hsz => ?_)
  have hown : s.vm.findClass "AgedMarks" = some m.cls := hown
  have ht : ∀ w ∈ agW, w.before [.ref a, .int x].toArray s = true := fun w h => hts w (List.mem_cons_of_mem _ h)
  refine lv_aload_n hx hb d_A_placeOf_0 rfl (lv_at hl 0 rfl) ?_
  refine va_get (D := (dC, dI)) (ci := 1) (v := .int (nI hd)) (C := RX1) (T := TX1) (N := 12) hx hb ht inA1 hown hK hP 0 rfl rfl 5 (by decide) (ht _ mw_f_A_43) (fun _ h9 => h9) rfl d_A_placeOf_1 ?_
  refine ag_iconst hx hb 1 d_A_placeOf_4 (by decide) ?_
  refine lv_isub hx hb d_A_placeOf_5 ?_
  refine ag_topi (nI (hd - 1)) (pk_sub (by omega)) ?_
  refine ag_topi (nI hd - 1) (by rw [← pk_sub (by omega)]; rfl) ?_
  refine lv_istore_n (lv' := [(2, .int (nI hd - 1)), (0, .ref a), (1, .int x)]) hx hb d_A_placeOf_6 rfl hl (by decide) rfl (fun ls hl => ?_)
  have loop : ∀ (j : Nat), j ≤ hd → (∀ k, j ≤ k → k < hd → x < f k) → ∀ ls : Array Slot, lv_has ls 3 [(2, .int (nI j - 1)), (0, .ref a), (1, .int x)] → W p l e { frames := 0, cells := 0, slots := 0, locals := 0 } s m [.ref a, .int x].toArray below meth c s.heap [] 0 0 (MQ below (va_Qi (fun (r : Int32) (_ : Unit) => (∃ k, k < hd ∧ f k = x ∧ r = nI k) ∨ ((∀ k, k < hd → f k ≠ x) ∧ r = -1)) (ag_to (dC, dI) agCl [(cI, .int), (cJ, .long)] A (fun _ : Unit => [(a, .inr (1, [.int (nI G), .int (nI R), .ref qm, .ref qs, .ref qt, .int (nI hd), .long (lN nw), .long (lN en), .int (nI mo), .long (lN la), .long (lN go), .long (lN sp)])), (qm, .inl (cI, 320, .inl f)), (qs, .inl (cI, 320, .inl g)), (qt, .inr (0, [.ref qw])), (qw, .inl (cJ, 5, .inr (.inl w)))])) A) [.ref a, .int x].toArray s 0 0 A) (F0 m 7 ls []) := by
    intro j
    induction j with
    | zero =>
      intro _ hgt ls hl
      refine lv_iload_n hx hb d_A_placeOf_7 rfl (lv_at hl 0 rfl) ?_
      refine lv_if_lt (tgt := 43) hx hb d_A_placeOf_8 (by decide) (fun c8 => ?_) (fun c8 => ?_)
      · have h_n := trivial
        refine lv_iconst (v := -1) hx hb d_A_placeOf_43 (by decide) ?_
        exact ag_reti hx hb hr hlocks () (Or.inr ⟨fun k hk q => absurd (hgt k (Nat.zero_le _) hk) (by rw [q]; exact Int32.lt_irrefl), rfl⟩) hP hK hD hS d_A_placeOf_44
      · have h_n := trivial
        exact absurd (by decide) c8
    | succ i ih =>
      intro hi hgt ls hl
      have hl : lv_has ls 3 [(2, .int (nI i)), (0, .ref a), (1, .int x)] := by rw [← nI_pred i]; exact hl
      refine lv_iload_n hx hb d_A_placeOf_7 rfl (lv_at hl 0 rfl) ?_
      refine ag_if_lt (tgt := 43) hx hb d_A_placeOf_8 (by decide) (by omega) ?_
      refine lv_aload_n hx hb d_A_placeOf_11 rfl (lv_at hl 1 rfl) ?_
      refine va_get (D := (dC, dI)) (ci := 1) (v := .ref qm) (C := RX1) (T := TX1) (N := 12) hx hb ht inA1 hown hK hP 0 rfl rfl 2 (by decide) (ht _ mw_f_A_9) (fun _ h9 => h9) rfl d_A_placeOf_12 ?_
      refine lv_iload_n hx hb d_A_placeOf_15 rfl (lv_at hl 0 rfl) ?_
      refine ag_iald hx hb hK hP 1 0 rfl rfl (by omega) (by decide) d_A_placeOf_16 ?_
      refine lv_iload_n hx hb d_A_placeOf_17 rfl (lv_at hl 2 rfl) ?_
      refine lv_icmp_gt (tgt := 37) hx hb d_A_placeOf_18 (by decide) (fun c18 => ?_) (fun c18 => ?_)
      · have h_n := trivial
        refine lv_iinc (v := nI i - 1) (lv' := [(2, .int (nI i - 1)), (0, .ref a), (1, .int x)]) hx hb d_A_placeOf_37 hl (k := 0) rfl (by rw [Int32.sub_eq_add_neg]; rfl) (by decide) rfl (fun ls hl => ?_)
        refine lv_goto (tgt := 7) hx hb d_A_placeOf_40 (by decide) ?_
        refine ih (by omega) (fun k h1 h2 => ?_) ls hl
        rcases Nat.lt_or_ge i k with q | q
        · exact hgt k (by omega) h2
        · rw [show k = i by omega]; exact c18
      · have h_n := trivial
        refine lv_aload_n hx hb d_A_placeOf_21 rfl (lv_at hl 1 rfl) ?_
        refine va_get (D := (dC, dI)) (ci := 1) (v := .ref qm) (C := RX1) (T := TX1) (N := 12) hx hb ht inA1 hown hK hP 0 rfl rfl 2 (by decide) (ht _ mw_f_A_9) (fun _ h9 => h9) rfl d_A_placeOf_22 ?_
        refine lv_iload_n hx hb d_A_placeOf_25 rfl (lv_at hl 0 rfl) ?_
        refine ag_iald hx hb hK hP 1 0 rfl rfl (by omega) (by decide) d_A_placeOf_26 ?_
        refine lv_iload_n hx hb d_A_placeOf_27 rfl (lv_at hl 2 rfl) ?_
        refine lv_icmp_ne (tgt := 35) hx hb d_A_placeOf_28 (by decide) (fun c28 => ?_) (fun c28 => ?_)
        · have h_n := trivial
          refine lv_iconst (v := -1) hx hb d_A_placeOf_35 (by decide) ?_
          exact ag_reti hx hb hr hlocks () (Or.inr ⟨fun k hk q => by rcases Nat.lt_trichotomy k i with z | z | z; (exact c18 (by rw [← q]; exact hs k i z (by omega))); (exact c28 (by rw [← z]; exact q)); (exact absurd (hgt k (by omega) hk) (by rw [q]; exact Int32.lt_irrefl)), rfl⟩) hP hK hD hS d_A_placeOf_36
        · have h_n := trivial
          refine lv_iload_n hx hb d_A_placeOf_31 rfl (lv_at hl 0 rfl) ?_
          refine lv_goto (tgt := 36) hx hb d_A_placeOf_32 (by decide) ?_
          exact ag_reti hx hb hr hlocks () (Or.inl ⟨i, by omega, c28, rfl⟩) hP hK hD hS d_A_placeOf_36
  exact loop hd (Nat.le_refl _) (fun k h1 h2 => by omega) ls hl
