set_option maxHeartbeats 4000000 in
set_option maxRecDepth 100000 in
/-- cell(script, k) -/
theorem c_W_cell (l : Launch) (dC : Nat → ClassId) (dI : Nat → Nat → Nat) (sz : Nat) (b0 L : Nat) (xs : Nat → Int32) (k : Nat) (hL : L ≤ 1538) (hk : k ≤ 1) : Met l y_W_cell (Cond.code y_W_cell b_W_cell 2 (some .int) :: agW) ({ frames := 0, cells := 0, slots := 0, locals := 0 }) (va_Pc [.ref b0, .int (nI k)] (ag_ats (dC, dI) agCl [] sz b0 L xs)) (va_Qi (fun (r : Int32) (_ : Unit) => r = if k < L then xs k else 0) (ag_to (dC, dI) agCl [] (va_A [] sz) (fun _ : Unit => ([] : va_W))) (va_A [] sz)) 0 0 (va_A [] sz) := by
  refine ag_ofS (Qf := fun A => va_Qi (fun (r : Int32) (_ : Unit) => r = if k < L then xs k else 0) (ag_to (dC, dI) agCl [] A (fun _ : Unit => ([] : va_W))) A) (cc := b_W_cell) (maxL := 2) (ret := (some .int)) (lv := [(0, .ref b0), (1, .int (nI k))]) (by decide) rfl (Nat.le_of_ble_eq_true rfl) rfl (fun p e s m below meth c A ls hx hb hr hts hown hlocks hml hnm hA hS hP hK hD hl hsz hXs hbl hbA => ?_)
  refine lv_iload_n hx hb d_W_cell_0 rfl (lv_at hl 1 rfl) ?_
  refine lv_aload_n hx hb d_W_cell_1 rfl (lv_at hl 0 rfl) ?_
  refine ag_slen hx hb hXs hbl hbA hS d_W_cell_2 ?_
  refine ag_icmp_ge (tgt := 12) hx hb d_W_cell_3 (by decide) (by omega) (by omega) (fun c3 => ?_) (fun c3 => ?_)
  · have h_n := trivial
    refine ag_iconst hx hb 0 d_W_cell_12 (by decide) ?_
    exact ag_reti hx hb hr hlocks () (by rw [if_neg (by omega)]; rfl) hP hK hD hS d_W_cell_13
  · have h_n := trivial
    refine lv_aload_n hx hb d_W_cell_6 rfl (lv_at hl 0 rfl) ?_
    refine lv_iload_n hx hb d_W_cell_7 rfl (lv_at hl 1 rfl) ?_
    refine ag_sld hx hb hXs hbl hbA hS (i := k) (by omega) (by omega) d_W_cell_8 ?_
    refine lv_goto (tgt := 13) hx hb d_W_cell_9 (by decide) ?_
    exact ag_reti hx hb hr hlocks () (by rw [if_pos c3]) hP hK hD hS d_W_cell_13
