section AgRpm
/-- the reference's arrays hold the marks -/
def ag_rpm (ms : ag_M) (f g : Nat → Int32) : Prop := ∀ (k : Nat) (h : k < ms.length), f k = nI (ms[k]).1 ∧ g k = nI (ms[k]).2
def ag_slo (ms : ag_M) (k : Nat) : Nat := (ms.getD k (0, 0)).2
theorem ag_slo_eq {ms : ag_M} {k : Nat} (h : k < ms.length) : ag_slo ms k = (ms[k]).2 := by
  unfold ag_slo
  rw [List.getD_eq_getElem?_getD, List.getElem?_eq_getElem h]
  rfl
/-- what mark(k, j) answers -/
def ag_mark (G : Nat) (ms : ag_M) (k j : Nat) : Int64 := if j = 0 then lN (ag_num ms k * G) else if j = 1 then lN (ag_slo ms k) else lN (ag_num ms (ms.length - 1) - ag_num ms k)
end AgRpm

set_option maxHeartbeats 4000000 in
set_option maxRecDepth 100000 in
/-- thrown() -/
theorem c_M_thrown (l : Launch) (dC : Nat → ClassId) (dI : Nat → Nat → Nat) (sz : Nat) (b qn qk : Nat) (cI : ClassId) (cd G R en nw mo la go sp : Nat) (f g : Nat → Int32) (ms : ag_M)  : Met l y_M_thrown (Cond.code y_M_thrown b_M_thrown 1 (some .int) :: agW) ({ frames := 0, cells := 0, slots := 0, locals := 0 }) (va_Pc [.ref b] (ag_at (dC, dI) agCl [(cI, .int)] sz [(b, .inr (2, [.int (nI cd), .int (nI G), .int (nI R), .long (lN en), .long (lN nw), .int (nI ms.length), .ref qn, .ref qk, .int (nI mo), .long (lN la), .long (lN go), .long (lN sp)])), (qn, .inl (cI, 1200, .inl f)), (qk, .inl (cI, 1200, .inl g))])) (va_Qi (fun (r : Int32) (_ : Unit) => r = nI cd) (ag_to (dC, dI) agCl [(cI, .int)] (va_A [(b, .inr (2, [.int (nI cd), .int (nI G), .int (nI R), .long (lN en), .long (lN nw), .int (nI ms.length), .ref qn, .ref qk, .int (nI mo), .long (lN la), .long (lN go), .long (lN sp)])), (qn, .inl (cI, 1200, .inl f)), (qk, .inl (cI, 1200, .inl g))] sz) (fun _ : Unit => [(b, .inr (2, [.int (nI cd), .int (nI G), .int (nI R), .long (lN en), .long (lN nw), .int (nI ms.length), .ref qn, .ref qk, .int (nI mo), .long (lN la), .long (lN go), .long (lN sp)])), (qn, .inl (cI, 1200, .inl f)), (qk, .inl (cI, 1200, .inl g))])) (va_A [(b, .inr (2, [.int (nI cd), .int (nI G), .int (nI R), .long (lN en), .long (lN nw), .int (nI ms.length), .ref qn, .ref qk, .int (nI mo), .long (lN la), .long (lN go), .long (lN sp)])), (qn, .inl (cI, 1200, .inl f)), (qk, .inl (cI, 1200, .inl g))] sz)) 0 0 (va_A [(b, .inr (2, [.int (nI cd), .int (nI G), .int (nI R), .long (lN en), .long (lN nw), .int (nI ms.length), .ref qn, .ref qk, .int (nI mo), .long (lN la), .long (lN go), .long (lN sp)])), (qn, .inl (cI, 1200, .inl f)), (qk, .inl (cI, 1200, .inl g))] sz) := by
  refine ag_ofW (Qf := fun A => va_Qi (fun (r : Int32) (_ : Unit) => r = nI cd) (ag_to (dC, dI) agCl [(cI, .int)] A (fun _ : Unit => [(b, .inr (2, [.int (nI cd), .int (nI G), .int (nI R), .long (lN en), .long (lN nw), .int (nI ms.length), .ref qn, .ref qk, .int (nI mo), .long (lN la), .long (lN go), .long (lN sp)])), (qn, .inl (cI, 1200, .inl f)), (qk, .inl (cI, 1200, .inl g))])) A) (cc := b_M_thrown) (maxL := 1) (ret := (some .int)) (lv := [(0, .ref b)]) (by decide) rfl (Nat.le_of_ble_eq_true rfl) rfl (fun p e s m below meth c A ls hx hb hr hts hown hlocks hml hnm hA hS hP hK hD hl hsz => ?_)
  have hown : s.vm.findClass "AgedMarksModel" = some m.cls := hown
  have ht : ∀ w ∈ agW, w.before [.ref b].toArray s = true := fun w h => hts w (List.mem_cons_of_mem _ h)
  refine lv_aload_n hx hb d_M_thrown_0 rfl (lv_at hl 0 rfl) ?_
  refine va_get (D := (dC, dI)) (ci := 2) (v := .int (nI cd)) (C := RX2) (T := TX2) (N := 12) hx hb ht inA2 hown hK hP 0 rfl rfl 0 (by decide) (ht _ mw_f_M_29) (fun _ h9 => h9) rfl d_M_thrown_1 ?_
  exact ag_reti hx hb hr hlocks () rfl hP hK hD hS d_M_thrown_4

set_option maxHeartbeats 4000000 in
set_option maxRecDepth 100000 in
/-- fails(i, j) -/
theorem c_M_fails (l : Launch) (dC : Nat → ClassId) (dI : Nat → Nat → Nat) (sz : Nat) (b qn qk : Nat) (cI : ClassId) (cd G R en nw mo la go sp : Nat) (f g : Nat → Int32) (ms : ag_M) (i j : Nat) (hi : i ≤ 1) (hj : j ≤ 1) : Met l y_M_fails (Cond.code y_M_fails b_M_fails 3 (some .boolean) :: agW) ({ frames := 0, cells := 0, slots := 0, locals := 0 }) (va_Pc [.ref b, .int (nI i), .int (nI j)] (ag_at (dC, dI) agCl [(cI, .int)] sz [(b, .inr (2, [.int (nI cd), .int (nI G), .int (nI R), .long (lN en), .long (lN nw), .int (nI ms.length), .ref qn, .ref qk, .int (nI mo), .long (lN la), .long (lN go), .long (lN sp)])), (qn, .inl (cI, 1200, .inl f)), (qk, .inl (cI, 1200, .inl g))])) (va_Qi (fun (r : Int32) (_ : Unit) => r = nI (if (if i = 1 then 1 else if j = 1 then 2 else 0) = 0 then 0 else 1)) (ag_to (dC, dI) agCl [(cI, .int)] (va_A [(b, .inr (2, [.int (nI cd), .int (nI G), .int (nI R), .long (lN en), .long (lN nw), .int (nI ms.length), .ref qn, .ref qk, .int (nI mo), .long (lN la), .long (lN go), .long (lN sp)])), (qn, .inl (cI, 1200, .inl f)), (qk, .inl (cI, 1200, .inl g))] sz) (fun _ : Unit => [(b, .inr (2, [.int (nI (if i = 1 then 1 else if j = 1 then 2 else 0)), .int (nI G), .int (nI R), .long (lN en), .long (lN nw), .int (nI ms.length), .ref qn, .ref qk, .int (nI mo), .long (lN la), .long (lN go), .long (lN sp)])), (qn, .inl (cI, 1200, .inl f)), (qk, .inl (cI, 1200, .inl g))])) (va_A [(b, .inr (2, [.int (nI cd), .int (nI G), .int (nI R), .long (lN en), .long (lN nw), .int (nI ms.length), .ref qn, .ref qk, .int (nI mo), .long (lN la), .long (lN go), .long (lN sp)])), (qn, .inl (cI, 1200, .inl f)), (qk, .inl (cI, 1200, .inl g))] sz)) 0 0 (va_A [(b, .inr (2, [.int (nI cd), .int (nI G), .int (nI R), .long (lN en), .long (lN nw), .int (nI ms.length), .ref qn, .ref qk, .int (nI mo), .long (lN la), .long (lN go), .long (lN sp)])), (qn, .inl (cI, 1200, .inl f)), (qk, .inl (cI, 1200, .inl g))] sz) := by
  refine ag_ofW (Qf := fun A => va_Qi (fun (r : Int32) (_ : Unit) => r = nI (if (if i = 1 then 1 else if j = 1 then 2 else 0) = 0 then 0 else 1)) (ag_to (dC, dI) agCl [(cI, .int)] A (fun _ : Unit => [(b, .inr (2, [.int (nI (if i = 1 then 1 else if j = 1 then 2 else 0)), .int (nI G), .int (nI R), .long (lN en), .long (lN nw), .int (nI ms.length), .ref qn, .ref qk, .int (nI mo), .long (lN la), .long (lN go), .long (lN sp)])), (qn, .inl (cI, 1200, .inl f)), (qk, .inl (cI, 1200, .inl g))])) A) (cc := b_M_fails) (maxL := 3) (ret := (some .boolean)) (lv := [(0, .ref b), (1, .int (nI i)), (2, .int (nI j))]) (by decide) rfl (Nat.le_of_ble_eq_true rfl) rfl (fun p e s m below meth c A ls hx hb hr hts hown hlocks hml hnm hA hS hP hK hD hl hsz => ?_)
  have hown : s.vm.findClass "AgedMarksModel" = some m.cls := hown
  have ht : ∀ w ∈ agW, w.before [.ref b, .int (nI i), .int (nI j)].toArray s = true := fun w h => hts w (List.mem_cons_of_mem _ h)
  rcases (show (i = 0 ∧ j = 0) ∨ (i = 0 ∧ j = 1) ∨ (i = 1 ∧ j = 0) ∨ (i = 1 ∧ j = 1) by omega) with ⟨rfl, rfl⟩ | ⟨rfl, rfl⟩ | ⟨rfl, rfl⟩ | ⟨rfl, rfl⟩
  · have h_n := trivial
    refine lv_aload_n hx hb d_M_fails_0 rfl (lv_at hl 0 rfl) ?_
    refine lv_iload_n hx hb d_M_fails_1 rfl (lv_at hl 1 rfl) ?_
    refine lv_if_eq (tgt := 9) hx hb d_M_fails_2 (by decide) (fun c2 => ?_) (fun c2 => ?_)
    · have h_n := trivial
      refine lv_iload_n hx hb d_M_fails_9 rfl (lv_at hl 2 rfl) ?_
      refine lv_if_eq (tgt := 17) hx hb d_M_fails_10 (by decide) (fun c10 => ?_) (fun c10 => ?_)
      · have h_n := trivial
        refine ag_iconst hx hb 0 d_M_fails_17 (by decide) ?_
        refine va_put (D := (dC, dI)) (ci := 2) (v := .int (nI 0)) (ty := .int) (C := RX2) (T := TX2) (N := 12) hx hb ht inA2 tyX2 tyX2_ok nmX2 hown hK hP hD hS 0 rfl rfl 0 (by decide) (ht _ mw_f_M_29) (fun _ h9 => h9) rfl (by decide +kernel) rfl rfl (Nat.le_of_ble_eq_true rfl) d_M_fails_18 (fun H locs hP hD hS => ?_)
        have hP : va_P (dC, dI) agCl [(b, .inr (2, [.int (nI 0), .int (nI G), .int (nI R), .long (lN en), .long (lN nw), .int (nI ms.length), .ref qn, .ref qk, .int (nI mo), .long (lN la), .long (lN go), .long (lN sp)])), (qn, .inl (cI, 1200, .inl f)), (qk, .inl (cI, 1200, .inl g))] H := hP
        have hD : va_D A [(b, .inr (2, [.int (nI 0), .int (nI G), .int (nI R), .long (lN en), .long (lN nw), .int (nI ms.length), .ref qn, .ref qk, .int (nI mo), .long (lN la), .long (lN go), .long (lN sp)])), (qn, .inl (cI, 1200, .inl f)), (qk, .inl (cI, 1200, .inl g))] := hD
        refine lv_aload_n hx hb d_M_fails_21 rfl (lv_at hl 0 rfl) ?_
        refine va_get (D := (dC, dI)) (ci := 2) (v := .int (nI 0)) (C := RX2) (T := TX2) (N := 12) hx hb ht inA2 hown hK hP 0 rfl rfl 0 (by decide) (ht _ mw_f_M_29) (fun _ h9 => h9) rfl d_M_fails_22 ?_
        refine ag_if_le (tgt := 32) hx hb d_M_fails_25 (by decide) (by omega) (fun c25 => ?_) (fun c25 => ?_)
        · have h_n := trivial
          refine ag_iconst hx hb 0 d_M_fails_32 (by decide) ?_
          exact ag_retz hx hb hr (by decide) hlocks () rfl hP hK hD hS d_M_fails_33
        · have h_n := trivial
          exact absurd c25 (by omega)
      · have h_n := trivial
        exact absurd (by decide) c10
    · have h_n := trivial
      exact absurd (by decide) c2
  · have h_n := trivial
    refine lv_aload_n hx hb d_M_fails_0 rfl (lv_at hl 0 rfl) ?_
    refine lv_iload_n hx hb d_M_fails_1 rfl (lv_at hl 1 rfl) ?_
    refine lv_if_eq (tgt := 9) hx hb d_M_fails_2 (by decide) (fun c2 => ?_) (fun c2 => ?_)
    · have h_n := trivial
      refine lv_iload_n hx hb d_M_fails_9 rfl (lv_at hl 2 rfl) ?_
      refine lv_if_eq (tgt := 17) hx hb d_M_fails_10 (by decide) (fun c10 => ?_) (fun c10 => ?_)
      · have h_n := trivial
        exact absurd c10 (by decide)
      · have h_n := trivial
        refine ag_iconst hx hb 2 d_M_fails_13 (by decide) ?_
        refine lv_goto (tgt := 18) hx hb d_M_fails_14 (by decide) ?_
        refine va_put (D := (dC, dI)) (ci := 2) (v := .int (nI 2)) (ty := .int) (C := RX2) (T := TX2) (N := 12) hx hb ht inA2 tyX2 tyX2_ok nmX2 hown hK hP hD hS 0 rfl rfl 0 (by decide) (ht _ mw_f_M_29) (fun _ h9 => h9) rfl (by decide +kernel) rfl rfl (Nat.le_of_ble_eq_true rfl) d_M_fails_18 (fun H locs hP hD hS => ?_)
        have hP : va_P (dC, dI) agCl [(b, .inr (2, [.int (nI 2), .int (nI G), .int (nI R), .long (lN en), .long (lN nw), .int (nI ms.length), .ref qn, .ref qk, .int (nI mo), .long (lN la), .long (lN go), .long (lN sp)])), (qn, .inl (cI, 1200, .inl f)), (qk, .inl (cI, 1200, .inl g))] H := hP
        have hD : va_D A [(b, .inr (2, [.int (nI 2), .int (nI G), .int (nI R), .long (lN en), .long (lN nw), .int (nI ms.length), .ref qn, .ref qk, .int (nI mo), .long (lN la), .long (lN go), .long (lN sp)])), (qn, .inl (cI, 1200, .inl f)), (qk, .inl (cI, 1200, .inl g))] := hD
        refine lv_aload_n hx hb d_M_fails_21 rfl (lv_at hl 0 rfl) ?_
        refine va_get (D := (dC, dI)) (ci := 2) (v := .int (nI 2)) (C := RX2) (T := TX2) (N := 12) hx hb ht inA2 hown hK hP 0 rfl rfl 0 (by decide) (ht _ mw_f_M_29) (fun _ h9 => h9) rfl d_M_fails_22 ?_
        refine ag_if_le (tgt := 32) hx hb d_M_fails_25 (by decide) (by omega) (fun c25 => ?_) (fun c25 => ?_)
        · have h_n := trivial
          exact absurd c25 (by omega)
        · have h_n := trivial
          refine ag_iconst hx hb 1 d_M_fails_28 (by decide) ?_
          refine lv_goto (tgt := 33) hx hb d_M_fails_29 (by decide) ?_
          exact ag_retz hx hb hr (by decide) hlocks () rfl hP hK hD hS d_M_fails_33
    · have h_n := trivial
      exact absurd (by decide) c2
  · have h_n := trivial
    refine lv_aload_n hx hb d_M_fails_0 rfl (lv_at hl 0 rfl) ?_
    refine lv_iload_n hx hb d_M_fails_1 rfl (lv_at hl 1 rfl) ?_
    refine lv_if_eq (tgt := 9) hx hb d_M_fails_2 (by decide) (fun c2 => ?_) (fun c2 => ?_)
    · have h_n := trivial
      exact absurd c2 (by decide)
    · have h_n := trivial
      refine ag_iconst hx hb 1 d_M_fails_5 (by decide) ?_
      refine lv_goto (tgt := 18) hx hb d_M_fails_6 (by decide) ?_
      refine va_put (D := (dC, dI)) (ci := 2) (v := .int (nI 1)) (ty := .int) (C := RX2) (T := TX2) (N := 12) hx hb ht inA2 tyX2 tyX2_ok nmX2 hown hK hP hD hS 0 rfl rfl 0 (by decide) (ht _ mw_f_M_29) (fun _ h9 => h9) rfl (by decide +kernel) rfl rfl (Nat.le_of_ble_eq_true rfl) d_M_fails_18 (fun H locs hP hD hS => ?_)
      have hP : va_P (dC, dI) agCl [(b, .inr (2, [.int (nI 1), .int (nI G), .int (nI R), .long (lN en), .long (lN nw), .int (nI ms.length), .ref qn, .ref qk, .int (nI mo), .long (lN la), .long (lN go), .long (lN sp)])), (qn, .inl (cI, 1200, .inl f)), (qk, .inl (cI, 1200, .inl g))] H := hP
      have hD : va_D A [(b, .inr (2, [.int (nI 1), .int (nI G), .int (nI R), .long (lN en), .long (lN nw), .int (nI ms.length), .ref qn, .ref qk, .int (nI mo), .long (lN la), .long (lN go), .long (lN sp)])), (qn, .inl (cI, 1200, .inl f)), (qk, .inl (cI, 1200, .inl g))] := hD
      refine lv_aload_n hx hb d_M_fails_21 rfl (lv_at hl 0 rfl) ?_
      refine va_get (D := (dC, dI)) (ci := 2) (v := .int (nI 1)) (C := RX2) (T := TX2) (N := 12) hx hb ht inA2 hown hK hP 0 rfl rfl 0 (by decide) (ht _ mw_f_M_29) (fun _ h9 => h9) rfl d_M_fails_22 ?_
      refine ag_if_le (tgt := 32) hx hb d_M_fails_25 (by decide) (by omega) (fun c25 => ?_) (fun c25 => ?_)
      · have h_n := trivial
        exact absurd c25 (by omega)
      · have h_n := trivial
        refine ag_iconst hx hb 1 d_M_fails_28 (by decide) ?_
        refine lv_goto (tgt := 33) hx hb d_M_fails_29 (by decide) ?_
        exact ag_retz hx hb hr (by decide) hlocks () rfl hP hK hD hS d_M_fails_33
  · have h_n := trivial
    refine lv_aload_n hx hb d_M_fails_0 rfl (lv_at hl 0 rfl) ?_
    refine lv_iload_n hx hb d_M_fails_1 rfl (lv_at hl 1 rfl) ?_
    refine lv_if_eq (tgt := 9) hx hb d_M_fails_2 (by decide) (fun c2 => ?_) (fun c2 => ?_)
    · have h_n := trivial
      exact absurd c2 (by decide)
    · have h_n := trivial
      refine ag_iconst hx hb 1 d_M_fails_5 (by decide) ?_
      refine lv_goto (tgt := 18) hx hb d_M_fails_6 (by decide) ?_
      refine va_put (D := (dC, dI)) (ci := 2) (v := .int (nI 1)) (ty := .int) (C := RX2) (T := TX2) (N := 12) hx hb ht inA2 tyX2 tyX2_ok nmX2 hown hK hP hD hS 0 rfl rfl 0 (by decide) (ht _ mw_f_M_29) (fun _ h9 => h9) rfl (by decide +kernel) rfl rfl (Nat.le_of_ble_eq_true rfl) d_M_fails_18 (fun H locs hP hD hS => ?_)
      have hP : va_P (dC, dI) agCl [(b, .inr (2, [.int (nI 1), .int (nI G), .int (nI R), .long (lN en), .long (lN nw), .int (nI ms.length), .ref qn, .ref qk, .int (nI mo), .long (lN la), .long (lN go), .long (lN sp)])), (qn, .inl (cI, 1200, .inl f)), (qk, .inl (cI, 1200, .inl g))] H := hP
      have hD : va_D A [(b, .inr (2, [.int (nI 1), .int (nI G), .int (nI R), .long (lN en), .long (lN nw), .int (nI ms.length), .ref qn, .ref qk, .int (nI mo), .long (lN la), .long (lN go), .long (lN sp)])), (qn, .inl (cI, 1200, .inl f)), (qk, .inl (cI, 1200, .inl g))] := hD
      refine lv_aload_n hx hb d_M_fails_21 rfl (lv_at hl 0 rfl) ?_
      refine va_get (D := (dC, dI)) (ci := 2) (v := .int (nI 1)) (C := RX2) (T := TX2) (N := 12) hx hb ht inA2 hown hK hP 0 rfl rfl 0 (by decide) (ht _ mw_f_M_29) (fun _ h9 => h9) rfl d_M_fails_22 ?_
      refine ag_if_le (tgt := 32) hx hb d_M_fails_25 (by decide) (by omega) (fun c25 => ?_) (fun c25 => ?_)
      · have h_n := trivial
        exact absurd c25 (by omega)
      · have h_n := trivial
        refine ag_iconst hx hb 1 d_M_fails_28 (by decide) ?_
        refine lv_goto (tgt := 33) hx hb d_M_fails_29 (by decide) ?_
        exact ag_retz hx hb hr (by decide) hlocks () rfl hP hK hD hS d_M_fails_33

set_option maxHeartbeats 4000000 in
set_option maxRecDepth 100000 in
/-- cost(x) -/
theorem c_M_cost (l : Launch) (dC : Nat → ClassId) (dI : Nat → Nat → Nat) (sz : Nat) (b qn qk : Nat) (cI : ClassId) (cd G R en nw mo la go sp : Nat) (f g : Nat → Int32) (ms : ag_M) (x : Nat) (hG2 : G ≤ 1000) (hx1 : x ≤ 1000000000) (hbd : ag_bd ms) (h0 : 0 < ms.length) (h00 : (ms[0]).1 = 0) (hrep : ag_rpm ms f g) : Met l y_M_cost (Cond.code y_M_cost b_M_cost 4 (some .long) :: agW) ({ frames := 0, cells := 0, slots := 0, locals := 0 }) (va_Pc [.ref b, .long (lN x)] (ag_at (dC, dI) agCl [(cI, .int)] sz [(b, .inr (2, [.int (nI cd), .int (nI G), .int (nI R), .long (lN en), .long (lN nw), .int (nI ms.length), .ref qn, .ref qk, .int (nI mo), .long (lN la), .long (lN go), .long (lN sp)])), (qn, .inl (cI, 1200, .inl f)), (qk, .inl (cI, 1200, .inl g))])) (va_Ql (fun (r : Int64) (_ : Unit) => r = lN (ag_cost G ms x)) (ag_to (dC, dI) agCl [(cI, .int)] (va_A [(b, .inr (2, [.int (nI cd), .int (nI G), .int (nI R), .long (lN en), .long (lN nw), .int (nI ms.length), .ref qn, .ref qk, .int (nI mo), .long (lN la), .long (lN go), .long (lN sp)])), (qn, .inl (cI, 1200, .inl f)), (qk, .inl (cI, 1200, .inl g))] sz) (fun _ : Unit => [(b, .inr (2, [.int (nI cd), .int (nI G), .int (nI R), .long (lN en), .long (lN nw), .int (nI ms.length), .ref qn, .ref qk, .int (nI mo), .long (lN la), .long (lN go), .long (lN sp)])), (qn, .inl (cI, 1200, .inl f)), (qk, .inl (cI, 1200, .inl g))])) (va_A [(b, .inr (2, [.int (nI cd), .int (nI G), .int (nI R), .long (lN en), .long (lN nw), .int (nI ms.length), .ref qn, .ref qk, .int (nI mo), .long (lN la), .long (lN go), .long (lN sp)])), (qn, .inl (cI, 1200, .inl f)), (qk, .inl (cI, 1200, .inl g))] sz)) 0 0 (va_A [(b, .inr (2, [.int (nI cd), .int (nI G), .int (nI R), .long (lN en), .long (lN nw), .int (nI ms.length), .ref qn, .ref qk, .int (nI mo), .long (lN la), .long (lN go), .long (lN sp)])), (qn, .inl (cI, 1200, .inl f)), (qk, .inl (cI, 1200, .inl g))] sz) := by
  refine ag_ofW (Qf := fun A => va_Ql (fun (r : Int64) (_ : Unit) => r = lN (ag_cost G ms x)) (ag_to (dC, dI) agCl [(cI, .int)] A (fun _ : Unit => [(b, .inr (2, [.int (nI cd), .int (nI G), .int (nI R), .long (lN en), .long (lN nw), .int (nI ms.length), .ref qn, .ref qk, .int (nI mo), .long (lN la), .long (lN go), .long (lN sp)])), (qn, .inl (cI, 1200, .inl f)), (qk, .inl (cI, 1200, .inl g))])) A) (cc := b_M_cost) (maxL := 4) (ret := (some .long)) (lv := [(0, .ref b), (1, .long (lN x))]) (by decide) rfl (Nat.le_of_ble_eq_true rfl) rfl (fun p e s m below meth c A ls hx hb hr hts hown hlocks hml hnm hA hS hP hK hD hl hsz => ?_)
  have hown : s.vm.findClass "AgedMarksModel" = some m.cls := hown
  have ht : ∀ w ∈ agW, w.before [.ref b, .long (lN x)].toArray s = true := fun w h => hts w (List.mem_cons_of_mem _ h)
  have hlen := hbd.1
  have hmul : ∀ j (hj : j < ms.length), (ms[j]).1 * G ≤ 1000000000 ∧ (ms[j]).1 ≤ 1000000 := fun j hj => ⟨Nat.le_trans (Nat.mul_le_mul (hbd.2 _ (List.getElem_mem hj)).1 hG2) (by decide), (hbd.2 _ (List.getElem_mem hj)).1⟩
  refine lv_aload_n hx hb d_M_cost_0 rfl (lv_at hl 0 rfl) ?_
  refine va_get (D := (dC, dI)) (ci := 2) (v := .int (nI ms.length)) (C := RX2) (T := TX2) (N := 12) hx hb ht inA2 hown hK hP 0 rfl rfl 5 (by decide) (ht _ mw_f_M_7) (fun _ h9 => h9) rfl d_M_cost_1 ?_
  refine ag_iconst hx hb 1 d_M_cost_4 (by decide) ?_
  refine lv_isub hx hb d_M_cost_5 ?_
  refine ag_topi (nI (ms.length - 1)) (pk_sub (by omega)) ?_
  refine lv_istore_n (lv' := [(3, .int (nI (ms.length - 1))), (0, .ref b), (1, .long (lN x))]) hx hb d_M_cost_6 rfl hl (by decide) rfl (fun ls hl => ?_)
  have loop : ∀ (k : Nat) (hk : k < ms.length), (∀ j (hj : j < ms.length), k < j → x < (ms[j]).1 * G) → ∀ ls : Array Slot, lv_has ls 4 [(3, .int (nI k)), (0, .ref b), (1, .long (lN x))] → W p l e { frames := 0, cells := 0, slots := 0, locals := 0 } s m [.ref b, .long (lN x)].toArray below meth c s.heap [] 0 0 (MQ below (va_Ql (fun (r : Int64) (_ : Unit) => r = lN (ag_cost G ms x)) (ag_to (dC, dI) agCl [(cI, .int)] A (fun _ : Unit => [(b, .inr (2, [.int (nI cd), .int (nI G), .int (nI R), .long (lN en), .long (lN nw), .int (nI ms.length), .ref qn, .ref qk, .int (nI mo), .long (lN la), .long (lN go), .long (lN sp)])), (qn, .inl (cI, 1200, .inl f)), (qk, .inl (cI, 1200, .inl g))])) A) [.ref b, .long (lN x)].toArray s 0 0 A) (F0 m 7 ls []) := by
    intro k
    induction k with
    | zero =>
      intro hk hgt ls hl
      have hm := hmul (0) hk
      refine lv_aload_n hx hb d_M_cost_7 rfl (lv_at hl 1 rfl) ?_
      refine va_get (D := (dC, dI)) (ci := 2) (v := .ref qn) (C := RX2) (T := TX2) (N := 12) hx hb ht inA2 hown hK hP 0 rfl rfl 6 (by decide) (ht _ mw_f_M_13) (fun _ h9 => h9) rfl d_M_cost_8 ?_
      refine lv_iload_n hx hb d_M_cost_11 rfl (lv_at hl 0 rfl) ?_
      refine ag_iald hx hb hK hP 1 0 rfl rfl (by omega) (by decide) d_M_cost_12 ?_
      refine ag_topi (nI ((ms[0]).1)) ((hrep (0) hk).1) ?_
      refine lv_i2l (v := lN ((ms[0]).1)) hx hb d_M_cost_13 (nI_l (by omega)) ?_
      refine lv_aload_n hx hb d_M_cost_14 rfl (lv_at hl 1 rfl) ?_
      refine va_get (D := (dC, dI)) (ci := 2) (v := .int (nI G)) (C := RX2) (T := TX2) (N := 12) hx hb ht inA2 hown hK hP 0 rfl rfl 1 (by decide) (ht _ mw_f_M_23) (fun _ h9 => h9) rfl d_M_cost_15 ?_
      refine lv_i2l (v := lN G) hx hb d_M_cost_18 (nI_l (by omega)) ?_
      refine lv_lmul hx hb d_M_cost_19 ?_
      refine ag_topl (lN (((ms[0]).1) * G)) (lN_mul _ _) ?_
      refine lv_lload_n hx hb d_M_cost_20 rfl (lv_at hl 2 rfl) ?_
      refine ag_lc_le (tgt := 31) hx hb d_M_cost_21 d_M_cost_22 (by decide) (fun c21 => ?_) (fun c21 => ?_)
      · have h_n := trivial
        have hle1 := (pk_lLE (a := (ms[0]).1 * G) (b := x) (by omega) (by omega)).mp c21
        refine lv_lload_n hx hb d_M_cost_31 rfl (lv_at hl 2 rfl) ?_
        refine lv_aload_n hx hb d_M_cost_32 rfl (lv_at hl 1 rfl) ?_
        refine va_get (D := (dC, dI)) (ci := 2) (v := .ref qn) (C := RX2) (T := TX2) (N := 12) hx hb ht inA2 hown hK hP 0 rfl rfl 6 (by decide) (ht _ mw_f_M_13) (fun _ h9 => h9) rfl d_M_cost_33 ?_
        refine lv_iload_n hx hb d_M_cost_36 rfl (lv_at hl 0 rfl) ?_
        refine ag_iald hx hb hK hP 1 0 rfl rfl (by omega) (by decide) d_M_cost_37 ?_
        refine ag_topi (nI ((ms[0]).1)) ((hrep (0) hk).1) ?_
        refine lv_i2l (v := lN ((ms[0]).1)) hx hb d_M_cost_38 (nI_l (by omega)) ?_
        refine lv_aload_n hx hb d_M_cost_39 rfl (lv_at hl 1 rfl) ?_
        refine va_get (D := (dC, dI)) (ci := 2) (v := .int (nI G)) (C := RX2) (T := TX2) (N := 12) hx hb ht inA2 hown hK hP 0 rfl rfl 1 (by decide) (ht _ mw_f_M_23) (fun _ h9 => h9) rfl d_M_cost_40 ?_
        refine lv_i2l (v := lN G) hx hb d_M_cost_43 (nI_l (by omega)) ?_
        refine lv_lmul hx hb d_M_cost_44 ?_
        refine ag_topl (lN (((ms[0]).1) * G)) (lN_mul _ _) ?_
        refine lv_lsub hx hb d_M_cost_45 ?_
        refine ag_topl (lN (x - (((ms[0]).1) * G))) (lN_sub (by omega)) ?_
        exact ag_retl hx hb hr hlocks () (by rw [ag_cost_eq ⟨0, hk, hle1, hgt, rfl⟩]) hP hK hD hS d_M_cost_46
      · have h_n := trivial
        exact absurd ((pk_lLE (a := (ms[0]).1 * G) (b := x) (by omega) (by omega)).mpr (by rw [h00, Nat.zero_mul]; omega)) c21
    | succ i ih =>
      intro hk hgt ls hl
      have hm := hmul (i + 1) hk
      refine lv_aload_n hx hb d_M_cost_7 rfl (lv_at hl 1 rfl) ?_
      refine va_get (D := (dC, dI)) (ci := 2) (v := .ref qn) (C := RX2) (T := TX2) (N := 12) hx hb ht inA2 hown hK hP 0 rfl rfl 6 (by decide) (ht _ mw_f_M_13) (fun _ h9 => h9) rfl d_M_cost_8 ?_
      refine lv_iload_n hx hb d_M_cost_11 rfl (lv_at hl 0 rfl) ?_
      refine ag_iald hx hb hK hP 1 0 rfl rfl (by omega) (by decide) d_M_cost_12 ?_
      refine ag_topi (nI ((ms[i + 1]).1)) ((hrep (i + 1) hk).1) ?_
      refine lv_i2l (v := lN ((ms[i + 1]).1)) hx hb d_M_cost_13 (nI_l (by omega)) ?_
      refine lv_aload_n hx hb d_M_cost_14 rfl (lv_at hl 1 rfl) ?_
      refine va_get (D := (dC, dI)) (ci := 2) (v := .int (nI G)) (C := RX2) (T := TX2) (N := 12) hx hb ht inA2 hown hK hP 0 rfl rfl 1 (by decide) (ht _ mw_f_M_23) (fun _ h9 => h9) rfl d_M_cost_15 ?_
      refine lv_i2l (v := lN G) hx hb d_M_cost_18 (nI_l (by omega)) ?_
      refine lv_lmul hx hb d_M_cost_19 ?_
      refine ag_topl (lN (((ms[i + 1]).1) * G)) (lN_mul _ _) ?_
      refine lv_lload_n hx hb d_M_cost_20 rfl (lv_at hl 2 rfl) ?_
      refine ag_lc_le (tgt := 31) hx hb d_M_cost_21 d_M_cost_22 (by decide) (fun c21 => ?_) (fun c21 => ?_)
      · have h_n := trivial
        have hle1 := (pk_lLE (a := (ms[i + 1]).1 * G) (b := x) (by omega) (by omega)).mp c21
        refine lv_lload_n hx hb d_M_cost_31 rfl (lv_at hl 2 rfl) ?_
        refine lv_aload_n hx hb d_M_cost_32 rfl (lv_at hl 1 rfl) ?_
        refine va_get (D := (dC, dI)) (ci := 2) (v := .ref qn) (C := RX2) (T := TX2) (N := 12) hx hb ht inA2 hown hK hP 0 rfl rfl 6 (by decide) (ht _ mw_f_M_13) (fun _ h9 => h9) rfl d_M_cost_33 ?_
        refine lv_iload_n hx hb d_M_cost_36 rfl (lv_at hl 0 rfl) ?_
        refine ag_iald hx hb hK hP 1 0 rfl rfl (by omega) (by decide) d_M_cost_37 ?_
        refine ag_topi (nI ((ms[i + 1]).1)) ((hrep (i + 1) hk).1) ?_
        refine lv_i2l (v := lN ((ms[i + 1]).1)) hx hb d_M_cost_38 (nI_l (by omega)) ?_
        refine lv_aload_n hx hb d_M_cost_39 rfl (lv_at hl 1 rfl) ?_
        refine va_get (D := (dC, dI)) (ci := 2) (v := .int (nI G)) (C := RX2) (T := TX2) (N := 12) hx hb ht inA2 hown hK hP 0 rfl rfl 1 (by decide) (ht _ mw_f_M_23) (fun _ h9 => h9) rfl d_M_cost_40 ?_
        refine lv_i2l (v := lN G) hx hb d_M_cost_43 (nI_l (by omega)) ?_
        refine lv_lmul hx hb d_M_cost_44 ?_
        refine ag_topl (lN (((ms[i + 1]).1) * G)) (lN_mul _ _) ?_
        refine lv_lsub hx hb d_M_cost_45 ?_
        refine ag_topl (lN (x - (((ms[i + 1]).1) * G))) (lN_sub (by omega)) ?_
        exact ag_retl hx hb hr hlocks () (by rw [ag_cost_eq ⟨i + 1, hk, hle1, hgt, rfl⟩]) hP hK hD hS d_M_cost_46
      · have h_n := trivial
        have hgt1 : x < (ms[i + 1]).1 * G := by have h9 := mt (pk_lLE (a := (ms[i + 1]).1 * G) (b := x) (by omega) (by omega)).mpr c21; omega
        refine lv_iinc (v := nI i) (lv' := [(3, .int (nI i)), (0, .ref b), (1, .long (lN x))]) hx hb d_M_cost_25 hl (k := 0) rfl (pk_m1 i) (by decide) rfl (fun ls hl => ?_)
        refine lv_goto (tgt := 7) hx hb d_M_cost_28 (by decide) ?_
        refine ih (by omega) (fun j hj h => ?_) ls hl
        rcases Nat.lt_or_ge (i + 1) j with q | q
        · exact hgt j hj q
        · have e9 : j = i + 1 := by omega
          subst e9
          exact hgt1
  exact loop (ms.length - 1) (by omega) (fun j hj h => by omega) ls hl

set_option maxHeartbeats 4000000 in
set_option maxRecDepth 100000 in
/-- to(x) -/
theorem c_M_to (l : Launch) (dC : Nat → ClassId) (dI : Nat → Nat → Nat) (sz : Nat) (b qn qk : Nat) (cI : ClassId) (cd G R en nw mo la go sp : Nat) (f g : Nat → Int32) (ms : ag_M) (x : Nat) (hG2 : G ≤ 1000) (hx1 : x ≤ 1000000000) (hbd : ag_bd ms) (h0 : 0 < ms.length) (h00 : (ms[0]).1 = 0) (hrep : ag_rpm ms f g) : Met l y_M_to (Cond.code y_M_to b_M_to 5 (some .long) :: agW) ({ frames := 1, cells := 0, slots := 0, locals := 24 }) (va_Pc [.ref b, .long (lN x)] (ag_at (dC, dI) agCl [(cI, .int)] sz [(b, .inr (2, [.int (nI cd), .int (nI G), .int (nI R), .long (lN en), .long (lN nw), .int (nI ms.length), .ref qn, .ref qk, .int (nI mo), .long (lN la), .long (lN go), .long (lN sp)])), (qn, .inl (cI, 1200, .inl f)), (qk, .inl (cI, 1200, .inl g))])) (va_Ql (fun (r : Int64) (_ : Unit) => r = lN (ag_cost G ms x)) (ag_to (dC, dI) agCl [(cI, .int)] (va_A [(b, .inr (2, [.int (nI cd), .int (nI G), .int (nI R), .long (lN en), .long (lN nw), .int (nI ms.length), .ref qn, .ref qk, .int (nI mo), .long (lN la), .long (lN go), .long (lN sp)])), (qn, .inl (cI, 1200, .inl f)), (qk, .inl (cI, 1200, .inl g))] sz) (fun _ : Unit => [(b, .inr (2, [.int (nI cd), .int (nI G), .int (nI R), .long (lN en), .long (lN x), .int (nI ms.length), .ref qn, .ref qk, .int (nI mo), .long (lN la), .long (lN go), .long (lN (sp + ag_cost G ms x))])), (qn, .inl (cI, 1200, .inl f)), (qk, .inl (cI, 1200, .inl g))])) (va_A [(b, .inr (2, [.int (nI cd), .int (nI G), .int (nI R), .long (lN en), .long (lN nw), .int (nI ms.length), .ref qn, .ref qk, .int (nI mo), .long (lN la), .long (lN go), .long (lN sp)])), (qn, .inl (cI, 1200, .inl f)), (qk, .inl (cI, 1200, .inl g))] sz)) 0 0 (va_A [(b, .inr (2, [.int (nI cd), .int (nI G), .int (nI R), .long (lN en), .long (lN nw), .int (nI ms.length), .ref qn, .ref qk, .int (nI mo), .long (lN la), .long (lN go), .long (lN sp)])), (qn, .inl (cI, 1200, .inl f)), (qk, .inl (cI, 1200, .inl g))] sz) := by
  refine ag_ofW (Qf := fun A => va_Ql (fun (r : Int64) (_ : Unit) => r = lN (ag_cost G ms x)) (ag_to (dC, dI) agCl [(cI, .int)] A (fun _ : Unit => [(b, .inr (2, [.int (nI cd), .int (nI G), .int (nI R), .long (lN en), .long (lN x), .int (nI ms.length), .ref qn, .ref qk, .int (nI mo), .long (lN la), .long (lN go), .long (lN (sp + ag_cost G ms x))])), (qn, .inl (cI, 1200, .inl f)), (qk, .inl (cI, 1200, .inl g))])) A) (cc := b_M_to) (maxL := 5) (ret := (some .long)) (lv := [(0, .ref b), (1, .long (lN x))]) (by decide) rfl (Nat.le_of_ble_eq_true rfl) rfl (fun p e s m below meth c A ls hx hb hr hts hown hlocks hml hnm hA hS hP hK hD hl hsz => ?_)
  have hown : s.vm.findClass "AgedMarksModel" = some m.cls := hown
  have ht : ∀ w ∈ agW, w.before [.ref b, .long (lN x)].toArray s = true := fun w h => hts w (List.mem_cons_of_mem _ h)
  refine lv_aload_n hx hb d_M_to_0 rfl (lv_at hl 0 rfl) ?_
  refine lv_lload_n hx hb d_M_to_1 rfl (lv_at hl 1 rfl) ?_
  refine va_put (D := (dC, dI)) (ci := 2) (v := .long (lN x)) (ty := .long) (C := RX2) (T := TX2) (N := 12) hx hb ht inA2 tyX2 tyX2_ok nmX2 hown hK hP hD hS 0 rfl rfl 4 (by decide) (ht _ mw_f_M_49) (fun _ h9 => h9) rfl (by decide +kernel) rfl rfl (Nat.le_of_ble_eq_true rfl) d_M_to_2 (fun H locs hP hD hS => ?_)
  have hP : va_P (dC, dI) agCl [(b, .inr (2, [.int (nI cd), .int (nI G), .int (nI R), .long (lN en), .long (lN x), .int (nI ms.length), .ref qn, .ref qk, .int (nI mo), .long (lN la), .long (lN go), .long (lN sp)])), (qn, .inl (cI, 1200, .inl f)), (qk, .inl (cI, 1200, .inl g))] H := hP
  have hD : va_D A [(b, .inr (2, [.int (nI cd), .int (nI G), .int (nI R), .long (lN en), .long (lN x), .int (nI ms.length), .ref qn, .ref qk, .int (nI mo), .long (lN la), .long (lN go), .long (lN sp)])), (qn, .inl (cI, 1200, .inl f)), (qk, .inl (cI, 1200, .inl g))] := hD
  refine lv_aload_n hx hb d_M_to_5 rfl (lv_at hl 0 rfl) ?_
  refine lv_lload_n hx hb d_M_to_6 rfl (lv_at hl 1 rfl) ?_
  have hPc := hP.sub (ws' := [(b, .inr (2, [.int (nI cd), .int (nI G), .int (nI R), .long (lN en), .long (lN x), .int (nI ms.length), .ref qn, .ref qk, .int (nI mo), .long (lN la), .long (lN go), .long (lN sp)])), (qn, .inl (cI, 1200, .inl f)), (qk, .inl (cI, 1200, .inl g))]) [0, 1, 2] rfl
  have hDc := hD.sub (ws' := [(b, .inr (2, [.int (nI cd), .int (nI G), .int (nI R), .long (lN en), .long (lN x), .int (nI ms.length), .ref qn, .ref qk, .int (nI mo), .long (lN la), .long (lN go), .long (lN sp)])), (qn, .inl (cI, 1200, .inl f)), (qk, .inl (cI, 1200, .inl g))]) [0, 1, 2] (by decide) rfl
  refine ag_cll (wc := [(b, .inr (2, [.int (nI cd), .int (nI G), .int (nI R), .long (lN en), .long (lN x), .int (nI ms.length), .ref qn, .ref qk, .int (nI mo), .long (lN la), .long (lN go), .long (lN sp)])), (qn, .inl (cI, 1200, .inl f)), (qk, .inl (cI, 1200, .inl g))]) (wr := []) (Wf := fun _ : Unit => [(b, .inr (2, [.int (nI cd), .int (nI G), .int (nI R), .long (lN en), .long (lN x), .int (nI ms.length), .ref qn, .ref qk, .int (nI mo), .long (lN la), .long (lN go), .long (lN sp)])), (qn, .inl (cI, 1200, .inl f)), (qk, .inl (cI, 1200, .inl g))]) hP hD hS hA [0, 1, 2] [] rfl rfl (by decide) (by decide) (va_runV (C := "AgedMarksModel") (As := [.long (lN x)]) (rest := []) ⟨hx, hb, hml, hown, hts⟩ (c_M_cost l dC dI H.size b qn qk cI cd G R en x mo la go sp f g ms x hG2 hx1 hbd h0 h00 hrep) (ag_cwV 1 hts mw_m_M_65 mw_instanceMethod_M_cost mw_sel_M_cost mw_ini_M mw_code_M_cost rfl rfl (by decide +kernel) ⟨Nat.le_of_ble_eq_true rfl, Nat.le_of_ble_eq_true rfl⟩) ⟨ag_blind, va_recv hK hPc (ci := 2) (q0 := 0) rfl rfl, ag_pre hPc hK hDc⟩ rfl rfl hl.1 rfl (lv_room (Nat.le_of_ble_eq_true rfl)) d_M_to_7 ⟨Nat.le_of_ble_eq_true rfl, Nat.le_of_ble_eq_true rfl⟩) (fun r1 u H locs hw hP hD hS => ?_)
  try dsimp only at hw
  subst hw
  have hP : va_P (dC, dI) agCl [(b, .inr (2, [.int (nI cd), .int (nI G), .int (nI R), .long (lN en), .long (lN x), .int (nI ms.length), .ref qn, .ref qk, .int (nI mo), .long (lN la), .long (lN go), .long (lN sp)])), (qn, .inl (cI, 1200, .inl f)), (qk, .inl (cI, 1200, .inl g))] H := hP
  have hD : va_D A [(b, .inr (2, [.int (nI cd), .int (nI G), .int (nI R), .long (lN en), .long (lN x), .int (nI ms.length), .ref qn, .ref qk, .int (nI mo), .long (lN la), .long (lN go), .long (lN sp)])), (qn, .inl (cI, 1200, .inl f)), (qk, .inl (cI, 1200, .inl g))] := hD
  refine lv_lstore_n (lv' := [(3, .long (lN (ag_cost G ms x))), (0, .ref b), (1, .long (lN x))]) hx hb d_M_to_10 rfl hl (by decide) rfl (fun ls hl => ?_)
  refine lv_aload_n hx hb d_M_to_11 rfl (lv_at hl 1 rfl) ?_
  refine lv_dup hx hb d_M_to_12 rfl ?_
  refine va_get (D := (dC, dI)) (ci := 2) (v := .long (lN sp)) (C := RX2) (T := TX2) (N := 12) hx hb ht inA2 hown hK hP 0 rfl rfl 11 (by decide) (ht _ mw_f_M_69) (fun _ h9 => h9) rfl d_M_to_13 ?_
  refine lv_lload_n hx hb d_M_to_16 rfl (lv_at hl 0 rfl) ?_
  refine lv_ladd hx hb d_M_to_17 ?_
  refine ag_topl (lN (sp + (ag_cost G ms x))) (lN_add _ _) ?_
  refine va_put (D := (dC, dI)) (ci := 2) (v := .long (lN (sp + (ag_cost G ms x)))) (ty := .long) (C := RX2) (T := TX2) (N := 12) hx hb ht inA2 tyX2 tyX2_ok nmX2 hown hK hP hD hS 0 rfl rfl 11 (by decide) (ht _ mw_f_M_69) (fun _ h9 => h9) rfl (by decide +kernel) rfl rfl (Nat.le_of_ble_eq_true rfl) d_M_to_18 (fun H locs hP hD hS => ?_)
  have hP : va_P (dC, dI) agCl [(b, .inr (2, [.int (nI cd), .int (nI G), .int (nI R), .long (lN en), .long (lN x), .int (nI ms.length), .ref qn, .ref qk, .int (nI mo), .long (lN la), .long (lN go), .long (lN (sp + (ag_cost G ms x)))])), (qn, .inl (cI, 1200, .inl f)), (qk, .inl (cI, 1200, .inl g))] H := hP
  have hD : va_D A [(b, .inr (2, [.int (nI cd), .int (nI G), .int (nI R), .long (lN en), .long (lN x), .int (nI ms.length), .ref qn, .ref qk, .int (nI mo), .long (lN la), .long (lN go), .long (lN (sp + (ag_cost G ms x)))])), (qn, .inl (cI, 1200, .inl f)), (qk, .inl (cI, 1200, .inl g))] := hD
  refine lv_lload_n hx hb d_M_to_21 rfl (lv_at hl 0 rfl) ?_
  exact ag_retl hx hb hr hlocks () rfl hP hK hD hS d_M_to_22

set_option maxHeartbeats 4000000 in
set_option maxRecDepth 100000 in
/-- go(x), refused -/
theorem c_M_go_1 (l : Launch) (dC : Nat → ClassId) (dI : Nat → Nat → Nat) (sz : Nat) (b qn qk : Nat) (cI : ClassId) (cd G R en nw mo la go sp : Nat) (f g : Nat → Int32) (ms : ag_M) (x : Int64) (hen : en ≤ 1000000000) (hno : ¬ ∃ n, n ≤ en ∧ x = lN n) : Met l y_M_go (Cond.code y_M_go b_M_go 3 (some .long) :: agW) ({ frames := 2, cells := 0, slots := 0, locals := 50 }) (va_Pc [.ref b, .long x] (ag_at (dC, dI) agCl [(cI, .int)] sz [(b, .inr (2, [.int (nI cd), .int (nI G), .int (nI R), .long (lN en), .long (lN nw), .int (nI ms.length), .ref qn, .ref qk, .int (nI mo), .long (lN la), .long (lN go), .long (lN sp)])), (qn, .inl (cI, 1200, .inl f)), (qk, .inl (cI, 1200, .inl g))])) (va_Ql (fun (_ : Int64) (_ : Unit) => True) (ag_to (dC, dI) agCl [(cI, .int)] (va_A [(b, .inr (2, [.int (nI cd), .int (nI G), .int (nI R), .long (lN en), .long (lN nw), .int (nI ms.length), .ref qn, .ref qk, .int (nI mo), .long (lN la), .long (lN go), .long (lN sp)])), (qn, .inl (cI, 1200, .inl f)), (qk, .inl (cI, 1200, .inl g))] sz) (fun _ : Unit => [(b, .inr (2, [.int (nI 1), .int (nI G), .int (nI R), .long (lN en), .long (lN nw), .int (nI ms.length), .ref qn, .ref qk, .int (nI mo), .long (lN la), .long (lN go), .long (lN sp)])), (qn, .inl (cI, 1200, .inl f)), (qk, .inl (cI, 1200, .inl g))])) (va_A [(b, .inr (2, [.int (nI cd), .int (nI G), .int (nI R), .long (lN en), .long (lN nw), .int (nI ms.length), .ref qn, .ref qk, .int (nI mo), .long (lN la), .long (lN go), .long (lN sp)])), (qn, .inl (cI, 1200, .inl f)), (qk, .inl (cI, 1200, .inl g))] sz)) 0 0 (va_A [(b, .inr (2, [.int (nI cd), .int (nI G), .int (nI R), .long (lN en), .long (lN nw), .int (nI ms.length), .ref qn, .ref qk, .int (nI mo), .long (lN la), .long (lN go), .long (lN sp)])), (qn, .inl (cI, 1200, .inl f)), (qk, .inl (cI, 1200, .inl g))] sz) := by
  refine ag_ofW (Qf := fun A => va_Ql (fun (_ : Int64) (_ : Unit) => True) (ag_to (dC, dI) agCl [(cI, .int)] A (fun _ : Unit => [(b, .inr (2, [.int (nI 1), .int (nI G), .int (nI R), .long (lN en), .long (lN nw), .int (nI ms.length), .ref qn, .ref qk, .int (nI mo), .long (lN la), .long (lN go), .long (lN sp)])), (qn, .inl (cI, 1200, .inl f)), (qk, .inl (cI, 1200, .inl g))])) A) (cc := b_M_go) (maxL := 3) (ret := (some .long)) (lv := [(0, .ref b), (1, .long x)]) (by decide) rfl (Nat.le_of_ble_eq_true rfl) rfl (fun p e s m below meth c A ls hx hb hr hts hown hlocks hml hnm hA hS hP hK hD hl hsz => ?_)
  have hown : s.vm.findClass "AgedMarksModel" = some m.cls := hown
  have ht : ∀ w ∈ agW, w.before [.ref b, .long x].toArray s = true := fun w h => hts w (List.mem_cons_of_mem _ h)
  refine lv_aload_n hx hb d_M_go_0 rfl (lv_at hl 0 rfl) ?_
  refine lv_lload_n hx hb d_M_go_1 rfl (lv_at hl 1 rfl) ?_
  refine ag_lconst hx hb 0 d_M_go_2 (by decide) ?_
  refine ag_lc_lt (tgt := 16) hx hb d_M_go_3 d_M_go_4 (by decide) (fun c3 => ?_) (fun c3 => ?_)
  · have h_n := trivial
    refine ag_iconst hx hb 1 d_M_go_16 (by decide) ?_
    refine lv_goto (tgt := 21) hx hb d_M_go_17 (by decide) ?_
    refine ag_iconst hx hb 0 d_M_go_21 (by decide) ?_
    have hPc := hP.sub (ws' := [(b, .inr (2, [.int (nI cd), .int (nI G), .int (nI R), .long (lN en), .long (lN nw), .int (nI ms.length), .ref qn, .ref qk, .int (nI mo), .long (lN la), .long (lN go), .long (lN sp)])), (qn, .inl (cI, 1200, .inl f)), (qk, .inl (cI, 1200, .inl g))]) [0, 1, 2] rfl
    have hDc := hD.sub (ws' := [(b, .inr (2, [.int (nI cd), .int (nI G), .int (nI R), .long (lN en), .long (lN nw), .int (nI ms.length), .ref qn, .ref qk, .int (nI mo), .long (lN la), .long (lN go), .long (lN sp)])), (qn, .inl (cI, 1200, .inl f)), (qk, .inl (cI, 1200, .inl g))]) [0, 1, 2] (by decide) rfl
    refine ag_cli (wc := [(b, .inr (2, [.int (nI cd), .int (nI G), .int (nI R), .long (lN en), .long (lN nw), .int (nI ms.length), .ref qn, .ref qk, .int (nI mo), .long (lN la), .long (lN go), .long (lN sp)])), (qn, .inl (cI, 1200, .inl f)), (qk, .inl (cI, 1200, .inl g))]) (wr := []) (Wf := fun _ : Unit => [(b, .inr (2, [.int (nI (if 1 = 1 then 1 else if 0 = 1 then 2 else 0)), .int (nI G), .int (nI R), .long (lN en), .long (lN nw), .int (nI ms.length), .ref qn, .ref qk, .int (nI mo), .long (lN la), .long (lN go), .long (lN sp)])), (qn, .inl (cI, 1200, .inl f)), (qk, .inl (cI, 1200, .inl g))]) hP hD hS hA [0, 1, 2] [] rfl rfl (by decide) (by decide) (va_runV (C := "AgedMarksModel") (As := [.int (nI 1), .int (nI 0)]) (rest := []) ⟨hx, hb, hml, hown, hts⟩ (c_M_fails l dC dI s.heap.size b qn qk cI cd G R en nw mo la go sp f g ms 1 0 (by decide) (by decide)) (ag_cwV 2 hts mw_m_M_54 mw_instanceMethod_M_fails mw_sel_M_fails mw_ini_M mw_code_M_fails rfl rfl (by decide +kernel) ⟨Nat.le_of_ble_eq_true rfl, Nat.le_of_ble_eq_true rfl⟩) ⟨ag_blind, va_recv hK hPc (ci := 2) (q0 := 0) rfl rfl, ag_pre hPc hK hDc⟩ rfl rfl hl.1 rfl (lv_room (Nat.le_of_ble_eq_true rfl)) d_M_go_22 ⟨Nat.le_of_ble_eq_true rfl, Nat.le_of_ble_eq_true rfl⟩) (fun r1 u H locs hw hP hD hS => ?_)
    try dsimp only at hw
    subst hw
    have hP : va_P (dC, dI) agCl [(b, .inr (2, [.int (nI 1), .int (nI G), .int (nI R), .long (lN en), .long (lN nw), .int (nI ms.length), .ref qn, .ref qk, .int (nI mo), .long (lN la), .long (lN go), .long (lN sp)])), (qn, .inl (cI, 1200, .inl f)), (qk, .inl (cI, 1200, .inl g))] H := hP
    have hD : va_D A [(b, .inr (2, [.int (nI 1), .int (nI G), .int (nI R), .long (lN en), .long (lN nw), .int (nI ms.length), .ref qn, .ref qk, .int (nI mo), .long (lN la), .long (lN go), .long (lN sp)])), (qn, .inl (cI, 1200, .inl f)), (qk, .inl (cI, 1200, .inl g))] := hD
    refine lv_if_eq (tgt := 32) hx hb d_M_go_25 (by decide) (fun c25 => ?_) (fun c25 => ?_)
    · have h_n := trivial
      exact absurd c25 (by decide)
    · have h_n := trivial
      refine ag_lconst hx hb 0 d_M_go_28 (by decide) ?_
      refine lv_goto (tgt := 37) hx hb d_M_go_29 (by decide) ?_
      exact ag_retl hx hb hr hlocks () trivial hP hK hD hS d_M_go_37
  · have h_n := trivial
    obtain ⟨n, hn63, rfl⟩ := pk_lOf c3
    refine lv_lload_n hx hb d_M_go_7 rfl (lv_at hl 1 rfl) ?_
    refine lv_aload_n hx hb d_M_go_8 rfl (lv_at hl 0 rfl) ?_
    refine va_get (D := (dC, dI)) (ci := 2) (v := .long (lN en)) (C := RX2) (T := TX2) (N := 12) hx hb ht inA2 hown hK hP 0 rfl rfl 3 (by decide) (ht _ mw_f_M_58) (fun _ h9 => h9) rfl d_M_go_9 ?_
    refine ag_lc_le (tgt := 20) hx hb d_M_go_12 d_M_go_13 (by decide) (fun c12 => ?_) (fun c12 => ?_)
    · have h_n := trivial
      exact absurd ⟨n, (pk_lLE (a := n) (b := en) (by omega) (by omega)).mp c12, rfl⟩ hno
    · have h_n := trivial
      refine ag_iconst hx hb 1 d_M_go_16 (by decide) ?_
      refine lv_goto (tgt := 21) hx hb d_M_go_17 (by decide) ?_
      refine ag_iconst hx hb 0 d_M_go_21 (by decide) ?_
      have hPc := hP.sub (ws' := [(b, .inr (2, [.int (nI cd), .int (nI G), .int (nI R), .long (lN en), .long (lN nw), .int (nI ms.length), .ref qn, .ref qk, .int (nI mo), .long (lN la), .long (lN go), .long (lN sp)])), (qn, .inl (cI, 1200, .inl f)), (qk, .inl (cI, 1200, .inl g))]) [0, 1, 2] rfl
      have hDc := hD.sub (ws' := [(b, .inr (2, [.int (nI cd), .int (nI G), .int (nI R), .long (lN en), .long (lN nw), .int (nI ms.length), .ref qn, .ref qk, .int (nI mo), .long (lN la), .long (lN go), .long (lN sp)])), (qn, .inl (cI, 1200, .inl f)), (qk, .inl (cI, 1200, .inl g))]) [0, 1, 2] (by decide) rfl
      refine ag_cli (wc := [(b, .inr (2, [.int (nI cd), .int (nI G), .int (nI R), .long (lN en), .long (lN nw), .int (nI ms.length), .ref qn, .ref qk, .int (nI mo), .long (lN la), .long (lN go), .long (lN sp)])), (qn, .inl (cI, 1200, .inl f)), (qk, .inl (cI, 1200, .inl g))]) (wr := []) (Wf := fun _ : Unit => [(b, .inr (2, [.int (nI (if 1 = 1 then 1 else if 0 = 1 then 2 else 0)), .int (nI G), .int (nI R), .long (lN en), .long (lN nw), .int (nI ms.length), .ref qn, .ref qk, .int (nI mo), .long (lN la), .long (lN go), .long (lN sp)])), (qn, .inl (cI, 1200, .inl f)), (qk, .inl (cI, 1200, .inl g))]) hP hD hS hA [0, 1, 2] [] rfl rfl (by decide) (by decide) (va_runV (C := "AgedMarksModel") (As := [.int (nI 1), .int (nI 0)]) (rest := []) ⟨hx, hb, hml, hown, hts⟩ (c_M_fails l dC dI s.heap.size b qn qk cI cd G R en nw mo la go sp f g ms 1 0 (by decide) (by decide)) (ag_cwV 2 hts mw_m_M_54 mw_instanceMethod_M_fails mw_sel_M_fails mw_ini_M mw_code_M_fails rfl rfl (by decide +kernel) ⟨Nat.le_of_ble_eq_true rfl, Nat.le_of_ble_eq_true rfl⟩) ⟨ag_blind, va_recv hK hPc (ci := 2) (q0 := 0) rfl rfl, ag_pre hPc hK hDc⟩ rfl rfl hl.1 rfl (lv_room (Nat.le_of_ble_eq_true rfl)) d_M_go_22 ⟨Nat.le_of_ble_eq_true rfl, Nat.le_of_ble_eq_true rfl⟩) (fun r2 u H locs hw hP hD hS => ?_)
      try dsimp only at hw
      subst hw
      have hP : va_P (dC, dI) agCl [(b, .inr (2, [.int (nI 1), .int (nI G), .int (nI R), .long (lN en), .long (lN nw), .int (nI ms.length), .ref qn, .ref qk, .int (nI mo), .long (lN la), .long (lN go), .long (lN sp)])), (qn, .inl (cI, 1200, .inl f)), (qk, .inl (cI, 1200, .inl g))] H := hP
      have hD : va_D A [(b, .inr (2, [.int (nI 1), .int (nI G), .int (nI R), .long (lN en), .long (lN nw), .int (nI ms.length), .ref qn, .ref qk, .int (nI mo), .long (lN la), .long (lN go), .long (lN sp)])), (qn, .inl (cI, 1200, .inl f)), (qk, .inl (cI, 1200, .inl g))] := hD
      refine lv_if_eq (tgt := 32) hx hb d_M_go_25 (by decide) (fun c25 => ?_) (fun c25 => ?_)
      · have h_n := trivial
        exact absurd c25 (by decide)
      · have h_n := trivial
        refine ag_lconst hx hb 0 d_M_go_28 (by decide) ?_
        refine lv_goto (tgt := 37) hx hb d_M_go_29 (by decide) ?_
        exact ag_retl hx hb hr hlocks () trivial hP hK hD hS d_M_go_37

set_option maxHeartbeats 4000000 in
set_option maxRecDepth 100000 in
/-- go(n) -/
theorem c_M_go_0 (l : Launch) (dC : Nat → ClassId) (dI : Nat → Nat → Nat) (sz : Nat) (b qn qk : Nat) (cI : ClassId) (cd G R en nw mo la go sp : Nat) (f g : Nat → Int32) (ms : ag_M) (n : Nat) (hen : en ≤ 1000000000) (hn : n ≤ en) (hG2 : G ≤ 1000) (hbd : ag_bd ms) (h0 : 0 < ms.length) (h00 : (ms[0]).1 = 0) (hrep : ag_rpm ms f g) : Met l y_M_go (Cond.code y_M_go b_M_go 3 (some .long) :: agW) ({ frames := 2, cells := 0, slots := 0, locals := 50 }) (va_Pc [.ref b, .long (lN n)] (ag_at (dC, dI) agCl [(cI, .int)] sz [(b, .inr (2, [.int (nI cd), .int (nI G), .int (nI R), .long (lN en), .long (lN nw), .int (nI ms.length), .ref qn, .ref qk, .int (nI mo), .long (lN la), .long (lN go), .long (lN sp)])), (qn, .inl (cI, 1200, .inl f)), (qk, .inl (cI, 1200, .inl g))])) (va_Ql (fun (r : Int64) (_ : Unit) => r = lN (ag_cost G ms n)) (ag_to (dC, dI) agCl [(cI, .int)] (va_A [(b, .inr (2, [.int (nI cd), .int (nI G), .int (nI R), .long (lN en), .long (lN nw), .int (nI ms.length), .ref qn, .ref qk, .int (nI mo), .long (lN la), .long (lN go), .long (lN sp)])), (qn, .inl (cI, 1200, .inl f)), (qk, .inl (cI, 1200, .inl g))] sz) (fun _ : Unit => [(b, .inr (2, [.int (nI 0), .int (nI G), .int (nI R), .long (lN en), .long (lN n), .int (nI ms.length), .ref qn, .ref qk, .int (nI mo), .long (lN la), .long (lN go), .long (lN (sp + ag_cost G ms n))])), (qn, .inl (cI, 1200, .inl f)), (qk, .inl (cI, 1200, .inl g))])) (va_A [(b, .inr (2, [.int (nI cd), .int (nI G), .int (nI R), .long (lN en), .long (lN nw), .int (nI ms.length), .ref qn, .ref qk, .int (nI mo), .long (lN la), .long (lN go), .long (lN sp)])), (qn, .inl (cI, 1200, .inl f)), (qk, .inl (cI, 1200, .inl g))] sz)) 0 0 (va_A [(b, .inr (2, [.int (nI cd), .int (nI G), .int (nI R), .long (lN en), .long (lN nw), .int (nI ms.length), .ref qn, .ref qk, .int (nI mo), .long (lN la), .long (lN go), .long (lN sp)])), (qn, .inl (cI, 1200, .inl f)), (qk, .inl (cI, 1200, .inl g))] sz) := by
  refine ag_ofW (Qf := fun A => va_Ql (fun (r : Int64) (_ : Unit) => r = lN (ag_cost G ms n)) (ag_to (dC, dI) agCl [(cI, .int)] A (fun _ : Unit => [(b, .inr (2, [.int (nI 0), .int (nI G), .int (nI R), .long (lN en), .long (lN n), .int (nI ms.length), .ref qn, .ref qk, .int (nI mo), .long (lN la), .long (lN go), .long (lN (sp + ag_cost G ms n))])), (qn, .inl (cI, 1200, .inl f)), (qk, .inl (cI, 1200, .inl g))])) A) (cc := b_M_go) (maxL := 3) (ret := (some .long)) (lv := [(0, .ref b), (1, .long (lN n))]) (by decide) rfl (Nat.le_of_ble_eq_true rfl) rfl (fun p e s m below meth c A ls hx hb hr hts hown hlocks hml hnm hA hS hP hK hD hl hsz => ?_)
  have hown : s.vm.findClass "AgedMarksModel" = some m.cls := hown
  have ht : ∀ w ∈ agW, w.before [.ref b, .long (lN n)].toArray s = true := fun w h => hts w (List.mem_cons_of_mem _ h)
  refine lv_aload_n hx hb d_M_go_0 rfl (lv_at hl 0 rfl) ?_
  refine lv_lload_n hx hb d_M_go_1 rfl (lv_at hl 1 rfl) ?_
  refine ag_lconst hx hb 0 d_M_go_2 (by decide) ?_
  refine ag_lc_lt (tgt := 16) hx hb d_M_go_3 d_M_go_4 (by decide) (fun c3 => ?_) (fun c3 => ?_)
  · have h_n := trivial
    exact absurd ((pk_lLT (a := n) (b := 0) (by omega) (by omega)).mp c3) (by omega)
  · have h_n := trivial
    refine lv_lload_n hx hb d_M_go_7 rfl (lv_at hl 1 rfl) ?_
    refine lv_aload_n hx hb d_M_go_8 rfl (lv_at hl 0 rfl) ?_
    refine va_get (D := (dC, dI)) (ci := 2) (v := .long (lN en)) (C := RX2) (T := TX2) (N := 12) hx hb ht inA2 hown hK hP 0 rfl rfl 3 (by decide) (ht _ mw_f_M_58) (fun _ h9 => h9) rfl d_M_go_9 ?_
    refine ag_lc_le (tgt := 20) hx hb d_M_go_12 d_M_go_13 (by decide) (fun c12 => ?_) (fun c12 => ?_)
    · have h_n := trivial
      refine ag_iconst hx hb 0 d_M_go_20 (by decide) ?_
      refine ag_iconst hx hb 0 d_M_go_21 (by decide) ?_
      have hPc := hP.sub (ws' := [(b, .inr (2, [.int (nI cd), .int (nI G), .int (nI R), .long (lN en), .long (lN nw), .int (nI ms.length), .ref qn, .ref qk, .int (nI mo), .long (lN la), .long (lN go), .long (lN sp)])), (qn, .inl (cI, 1200, .inl f)), (qk, .inl (cI, 1200, .inl g))]) [0, 1, 2] rfl
      have hDc := hD.sub (ws' := [(b, .inr (2, [.int (nI cd), .int (nI G), .int (nI R), .long (lN en), .long (lN nw), .int (nI ms.length), .ref qn, .ref qk, .int (nI mo), .long (lN la), .long (lN go), .long (lN sp)])), (qn, .inl (cI, 1200, .inl f)), (qk, .inl (cI, 1200, .inl g))]) [0, 1, 2] (by decide) rfl
      refine ag_cli (wc := [(b, .inr (2, [.int (nI cd), .int (nI G), .int (nI R), .long (lN en), .long (lN nw), .int (nI ms.length), .ref qn, .ref qk, .int (nI mo), .long (lN la), .long (lN go), .long (lN sp)])), (qn, .inl (cI, 1200, .inl f)), (qk, .inl (cI, 1200, .inl g))]) (wr := []) (Wf := fun _ : Unit => [(b, .inr (2, [.int (nI (if 0 = 1 then 1 else if 0 = 1 then 2 else 0)), .int (nI G), .int (nI R), .long (lN en), .long (lN nw), .int (nI ms.length), .ref qn, .ref qk, .int (nI mo), .long (lN la), .long (lN go), .long (lN sp)])), (qn, .inl (cI, 1200, .inl f)), (qk, .inl (cI, 1200, .inl g))]) hP hD hS hA [0, 1, 2] [] rfl rfl (by decide) (by decide) (va_runV (C := "AgedMarksModel") (As := [.int (nI 0), .int (nI 0)]) (rest := []) ⟨hx, hb, hml, hown, hts⟩ (c_M_fails l dC dI s.heap.size b qn qk cI cd G R en nw mo la go sp f g ms 0 0 (by decide) (by decide)) (ag_cwV 2 hts mw_m_M_54 mw_instanceMethod_M_fails mw_sel_M_fails mw_ini_M mw_code_M_fails rfl rfl (by decide +kernel) ⟨Nat.le_of_ble_eq_true rfl, Nat.le_of_ble_eq_true rfl⟩) ⟨ag_blind, va_recv hK hPc (ci := 2) (q0 := 0) rfl rfl, ag_pre hPc hK hDc⟩ rfl rfl hl.1 rfl (lv_room (Nat.le_of_ble_eq_true rfl)) d_M_go_22 ⟨Nat.le_of_ble_eq_true rfl, Nat.le_of_ble_eq_true rfl⟩) (fun r1 u H locs hw hP hD hS => ?_)
      try dsimp only at hw
      subst hw
      have hP : va_P (dC, dI) agCl [(b, .inr (2, [.int (nI 0), .int (nI G), .int (nI R), .long (lN en), .long (lN nw), .int (nI ms.length), .ref qn, .ref qk, .int (nI mo), .long (lN la), .long (lN go), .long (lN sp)])), (qn, .inl (cI, 1200, .inl f)), (qk, .inl (cI, 1200, .inl g))] H := hP
      have hD : va_D A [(b, .inr (2, [.int (nI 0), .int (nI G), .int (nI R), .long (lN en), .long (lN nw), .int (nI ms.length), .ref qn, .ref qk, .int (nI mo), .long (lN la), .long (lN go), .long (lN sp)])), (qn, .inl (cI, 1200, .inl f)), (qk, .inl (cI, 1200, .inl g))] := hD
      refine lv_if_eq (tgt := 32) hx hb d_M_go_25 (by decide) (fun c25 => ?_) (fun c25 => ?_)
      · have h_n := trivial
        refine lv_aload_n hx hb d_M_go_32 rfl (lv_at hl 0 rfl) ?_
        refine lv_lload_n hx hb d_M_go_33 rfl (lv_at hl 1 rfl) ?_
        have hPc := hP.sub (ws' := [(b, .inr (2, [.int (nI 0), .int (nI G), .int (nI R), .long (lN en), .long (lN nw), .int (nI ms.length), .ref qn, .ref qk, .int (nI mo), .long (lN la), .long (lN go), .long (lN sp)])), (qn, .inl (cI, 1200, .inl f)), (qk, .inl (cI, 1200, .inl g))]) [0, 1, 2] rfl
        have hDc := hD.sub (ws' := [(b, .inr (2, [.int (nI 0), .int (nI G), .int (nI R), .long (lN en), .long (lN nw), .int (nI ms.length), .ref qn, .ref qk, .int (nI mo), .long (lN la), .long (lN go), .long (lN sp)])), (qn, .inl (cI, 1200, .inl f)), (qk, .inl (cI, 1200, .inl g))]) [0, 1, 2] (by decide) rfl
        refine ag_cll (wc := [(b, .inr (2, [.int (nI 0), .int (nI G), .int (nI R), .long (lN en), .long (lN nw), .int (nI ms.length), .ref qn, .ref qk, .int (nI mo), .long (lN la), .long (lN go), .long (lN sp)])), (qn, .inl (cI, 1200, .inl f)), (qk, .inl (cI, 1200, .inl g))]) (wr := []) (Wf := fun _ : Unit => [(b, .inr (2, [.int (nI 0), .int (nI G), .int (nI R), .long (lN en), .long (lN n), .int (nI ms.length), .ref qn, .ref qk, .int (nI mo), .long (lN la), .long (lN go), .long (lN (sp + ag_cost G ms n))])), (qn, .inl (cI, 1200, .inl f)), (qk, .inl (cI, 1200, .inl g))]) hP hD hS hA [0, 1, 2] [] rfl rfl (by decide) (by decide) (va_runV (C := "AgedMarksModel") (As := [.long (lN n)]) (rest := []) ⟨hx, hb, hml, hown, hts⟩ (c_M_to l dC dI H.size b qn qk cI 0 G R en nw mo la go sp f g ms n hG2 (by omega) hbd h0 h00 hrep) (ag_cwV 1 hts mw_m_M_72 mw_instanceMethod_M_to mw_sel_M_to mw_ini_M mw_code_M_to rfl rfl (by decide +kernel) ⟨Nat.le_of_ble_eq_true rfl, Nat.le_of_ble_eq_true rfl⟩) ⟨ag_blind, va_recv hK hPc (ci := 2) (q0 := 0) rfl rfl, ag_pre hPc hK hDc⟩ rfl rfl hl.1 rfl (lv_room (Nat.le_of_ble_eq_true rfl)) d_M_go_34 ⟨Nat.le_of_ble_eq_true rfl, Nat.le_of_ble_eq_true rfl⟩) (fun r2 u H locs hw hP hD hS => ?_)
        try dsimp only at hw
        subst hw
        have hP : va_P (dC, dI) agCl [(b, .inr (2, [.int (nI 0), .int (nI G), .int (nI R), .long (lN en), .long (lN n), .int (nI ms.length), .ref qn, .ref qk, .int (nI mo), .long (lN la), .long (lN go), .long (lN (sp + ag_cost G ms n))])), (qn, .inl (cI, 1200, .inl f)), (qk, .inl (cI, 1200, .inl g))] H := hP
        have hD : va_D A [(b, .inr (2, [.int (nI 0), .int (nI G), .int (nI R), .long (lN en), .long (lN n), .int (nI ms.length), .ref qn, .ref qk, .int (nI mo), .long (lN la), .long (lN go), .long (lN (sp + ag_cost G ms n))])), (qn, .inl (cI, 1200, .inl f)), (qk, .inl (cI, 1200, .inl g))] := hD
        exact ag_retl hx hb hr hlocks () rfl hP hK hD hS d_M_go_37
      · have h_n := trivial
        exact absurd (by decide) c25
    · have h_n := trivial
      exact absurd ((pk_lLE (a := n) (b := en) (by omega) (by omega)).mpr hn) c12

set_option maxHeartbeats 4000000 in
set_option maxRecDepth 100000 in
/-- back(x), refused -/
theorem c_M_back_1 (l : Launch) (dC : Nat → ClassId) (dI : Nat → Nat → Nat) (sz : Nat) (b qn qk : Nat) (cI : ClassId) (cd G R en nw mo la go sp : Nat) (f g : Nat → Int32) (ms : ag_M) (x : Int64) (hneg : x < 0) : Met l y_M_back (Cond.code y_M_back b_M_back 3 (some .long) :: agW) ({ frames := 2, cells := 0, slots := 0, locals := 50 }) (va_Pc [.ref b, .long x] (ag_at (dC, dI) agCl [(cI, .int)] sz [(b, .inr (2, [.int (nI cd), .int (nI G), .int (nI R), .long (lN en), .long (lN nw), .int (nI ms.length), .ref qn, .ref qk, .int (nI mo), .long (lN la), .long (lN go), .long (lN sp)])), (qn, .inl (cI, 1200, .inl f)), (qk, .inl (cI, 1200, .inl g))])) (va_Ql (fun (_ : Int64) (_ : Unit) => True) (ag_to (dC, dI) agCl [(cI, .int)] (va_A [(b, .inr (2, [.int (nI cd), .int (nI G), .int (nI R), .long (lN en), .long (lN nw), .int (nI ms.length), .ref qn, .ref qk, .int (nI mo), .long (lN la), .long (lN go), .long (lN sp)])), (qn, .inl (cI, 1200, .inl f)), (qk, .inl (cI, 1200, .inl g))] sz) (fun _ : Unit => [(b, .inr (2, [.int (nI 1), .int (nI G), .int (nI R), .long (lN en), .long (lN nw), .int (nI ms.length), .ref qn, .ref qk, .int (nI mo), .long (lN la), .long (lN go), .long (lN sp)])), (qn, .inl (cI, 1200, .inl f)), (qk, .inl (cI, 1200, .inl g))])) (va_A [(b, .inr (2, [.int (nI cd), .int (nI G), .int (nI R), .long (lN en), .long (lN nw), .int (nI ms.length), .ref qn, .ref qk, .int (nI mo), .long (lN la), .long (lN go), .long (lN sp)])), (qn, .inl (cI, 1200, .inl f)), (qk, .inl (cI, 1200, .inl g))] sz)) 0 0 (va_A [(b, .inr (2, [.int (nI cd), .int (nI G), .int (nI R), .long (lN en), .long (lN nw), .int (nI ms.length), .ref qn, .ref qk, .int (nI mo), .long (lN la), .long (lN go), .long (lN sp)])), (qn, .inl (cI, 1200, .inl f)), (qk, .inl (cI, 1200, .inl g))] sz) := by
  refine ag_ofW (Qf := fun A => va_Ql (fun (_ : Int64) (_ : Unit) => True) (ag_to (dC, dI) agCl [(cI, .int)] A (fun _ : Unit => [(b, .inr (2, [.int (nI 1), .int (nI G), .int (nI R), .long (lN en), .long (lN nw), .int (nI ms.length), .ref qn, .ref qk, .int (nI mo), .long (lN la), .long (lN go), .long (lN sp)])), (qn, .inl (cI, 1200, .inl f)), (qk, .inl (cI, 1200, .inl g))])) A) (cc := b_M_back) (maxL := 3) (ret := (some .long)) (lv := [(0, .ref b), (1, .long x)]) (by decide) rfl (Nat.le_of_ble_eq_true rfl) rfl (fun p e s m below meth c A ls hx hb hr hts hown hlocks hml hnm hA hS hP hK hD hl hsz => ?_)
  have hown : s.vm.findClass "AgedMarksModel" = some m.cls := hown
  have ht : ∀ w ∈ agW, w.before [.ref b, .long x].toArray s = true := fun w h => hts w (List.mem_cons_of_mem _ h)
  refine lv_aload_n hx hb d_M_back_0 rfl (lv_at hl 0 rfl) ?_
  refine lv_lload_n hx hb d_M_back_1 rfl (lv_at hl 1 rfl) ?_
  refine ag_lconst hx hb 0 d_M_back_2 (by decide) ?_
  refine ag_lc_ge (tgt := 11) hx hb d_M_back_3 d_M_back_4 (by decide) (fun c3 => ?_) (fun c3 => ?_)
  · have h_n := trivial
    exact absurd hneg (Int64.not_lt.mpr c3)
  · have h_n := trivial
    refine ag_iconst hx hb 1 d_M_back_7 (by decide) ?_
    refine lv_goto (tgt := 12) hx hb d_M_back_8 (by decide) ?_
    refine ag_iconst hx hb 0 d_M_back_12 (by decide) ?_
    have hPc := hP.sub (ws' := [(b, .inr (2, [.int (nI cd), .int (nI G), .int (nI R), .long (lN en), .long (lN nw), .int (nI ms.length), .ref qn, .ref qk, .int (nI mo), .long (lN la), .long (lN go), .long (lN sp)])), (qn, .inl (cI, 1200, .inl f)), (qk, .inl (cI, 1200, .inl g))]) [0, 1, 2] rfl
    have hDc := hD.sub (ws' := [(b, .inr (2, [.int (nI cd), .int (nI G), .int (nI R), .long (lN en), .long (lN nw), .int (nI ms.length), .ref qn, .ref qk, .int (nI mo), .long (lN la), .long (lN go), .long (lN sp)])), (qn, .inl (cI, 1200, .inl f)), (qk, .inl (cI, 1200, .inl g))]) [0, 1, 2] (by decide) rfl
    refine ag_cli (wc := [(b, .inr (2, [.int (nI cd), .int (nI G), .int (nI R), .long (lN en), .long (lN nw), .int (nI ms.length), .ref qn, .ref qk, .int (nI mo), .long (lN la), .long (lN go), .long (lN sp)])), (qn, .inl (cI, 1200, .inl f)), (qk, .inl (cI, 1200, .inl g))]) (wr := []) (Wf := fun _ : Unit => [(b, .inr (2, [.int (nI (if 1 = 1 then 1 else if 0 = 1 then 2 else 0)), .int (nI G), .int (nI R), .long (lN en), .long (lN nw), .int (nI ms.length), .ref qn, .ref qk, .int (nI mo), .long (lN la), .long (lN go), .long (lN sp)])), (qn, .inl (cI, 1200, .inl f)), (qk, .inl (cI, 1200, .inl g))]) hP hD hS hA [0, 1, 2] [] rfl rfl (by decide) (by decide) (va_runV (C := "AgedMarksModel") (As := [.int (nI 1), .int (nI 0)]) (rest := []) ⟨hx, hb, hml, hown, hts⟩ (c_M_fails l dC dI s.heap.size b qn qk cI cd G R en nw mo la go sp f g ms 1 0 (by decide) (by decide)) (ag_cwV 2 hts mw_m_M_54 mw_instanceMethod_M_fails mw_sel_M_fails mw_ini_M mw_code_M_fails rfl rfl (by decide +kernel) ⟨Nat.le_of_ble_eq_true rfl, Nat.le_of_ble_eq_true rfl⟩) ⟨ag_blind, va_recv hK hPc (ci := 2) (q0 := 0) rfl rfl, ag_pre hPc hK hDc⟩ rfl rfl hl.1 rfl (lv_room (Nat.le_of_ble_eq_true rfl)) d_M_back_13 ⟨Nat.le_of_ble_eq_true rfl, Nat.le_of_ble_eq_true rfl⟩) (fun r1 u H locs hw hP hD hS => ?_)
    try dsimp only at hw
    subst hw
    have hP : va_P (dC, dI) agCl [(b, .inr (2, [.int (nI 1), .int (nI G), .int (nI R), .long (lN en), .long (lN nw), .int (nI ms.length), .ref qn, .ref qk, .int (nI mo), .long (lN la), .long (lN go), .long (lN sp)])), (qn, .inl (cI, 1200, .inl f)), (qk, .inl (cI, 1200, .inl g))] H := hP
    have hD : va_D A [(b, .inr (2, [.int (nI 1), .int (nI G), .int (nI R), .long (lN en), .long (lN nw), .int (nI ms.length), .ref qn, .ref qk, .int (nI mo), .long (lN la), .long (lN go), .long (lN sp)])), (qn, .inl (cI, 1200, .inl f)), (qk, .inl (cI, 1200, .inl g))] := hD
    refine lv_if_eq (tgt := 23) hx hb d_M_back_16 (by decide) (fun c16 => ?_) (fun c16 => ?_)
    · have h_n := trivial
      exact absurd c16 (by decide)
    · have h_n := trivial
      refine ag_lconst hx hb 0 d_M_back_19 (by decide) ?_
      refine lv_goto (tgt := 46) hx hb d_M_back_20 (by decide) ?_
      exact ag_retl hx hb hr hlocks () trivial hP hK hD hS d_M_back_46

set_option maxHeartbeats 4000000 in
set_option maxRecDepth 100000 in
/-- back(n) -/
theorem c_M_back_0 (l : Launch) (dC : Nat → ClassId) (dI : Nat → Nat → Nat) (sz : Nat) (b qn qk : Nat) (cI : ClassId) (cd G R en nw mo la go sp : Nat) (f g : Nat → Int32) (ms : ag_M) (n : Nat) (hnw : nw ≤ 1000000000) (hn63 : n < 2 ^ 63) (hG2 : G ≤ 1000) (hbd : ag_bd ms) (h0 : 0 < ms.length) (h00 : (ms[0]).1 = 0) (hrep : ag_rpm ms f g) : Met l y_M_back (Cond.code y_M_back b_M_back 3 (some .long) :: agW) ({ frames := 2, cells := 0, slots := 0, locals := 50 }) (va_Pc [.ref b, .long (lN n)] (ag_at (dC, dI) agCl [(cI, .int)] sz [(b, .inr (2, [.int (nI cd), .int (nI G), .int (nI R), .long (lN en), .long (lN nw), .int (nI ms.length), .ref qn, .ref qk, .int (nI mo), .long (lN la), .long (lN go), .long (lN sp)])), (qn, .inl (cI, 1200, .inl f)), (qk, .inl (cI, 1200, .inl g))])) (va_Ql (fun (r : Int64) (_ : Unit) => r = lN (ag_cost G ms (nw - n))) (ag_to (dC, dI) agCl [(cI, .int)] (va_A [(b, .inr (2, [.int (nI cd), .int (nI G), .int (nI R), .long (lN en), .long (lN nw), .int (nI ms.length), .ref qn, .ref qk, .int (nI mo), .long (lN la), .long (lN go), .long (lN sp)])), (qn, .inl (cI, 1200, .inl f)), (qk, .inl (cI, 1200, .inl g))] sz) (fun _ : Unit => [(b, .inr (2, [.int (nI 0), .int (nI G), .int (nI R), .long (lN en), .long (lN (nw - n)), .int (nI ms.length), .ref qn, .ref qk, .int (nI mo), .long (lN la), .long (lN go), .long (lN (sp + ag_cost G ms (nw - n)))])), (qn, .inl (cI, 1200, .inl f)), (qk, .inl (cI, 1200, .inl g))])) (va_A [(b, .inr (2, [.int (nI cd), .int (nI G), .int (nI R), .long (lN en), .long (lN nw), .int (nI ms.length), .ref qn, .ref qk, .int (nI mo), .long (lN la), .long (lN go), .long (lN sp)])), (qn, .inl (cI, 1200, .inl f)), (qk, .inl (cI, 1200, .inl g))] sz)) 0 0 (va_A [(b, .inr (2, [.int (nI cd), .int (nI G), .int (nI R), .long (lN en), .long (lN nw), .int (nI ms.length), .ref qn, .ref qk, .int (nI mo), .long (lN la), .long (lN go), .long (lN sp)])), (qn, .inl (cI, 1200, .inl f)), (qk, .inl (cI, 1200, .inl g))] sz) := by
  refine ag_ofW (Qf := fun A => va_Ql (fun (r : Int64) (_ : Unit) => r = lN (ag_cost G ms (nw - n))) (ag_to (dC, dI) agCl [(cI, .int)] A (fun _ : Unit => [(b, .inr (2, [.int (nI 0), .int (nI G), .int (nI R), .long (lN en), .long (lN (nw - n)), .int (nI ms.length), .ref qn, .ref qk, .int (nI mo), .long (lN la), .long (lN go), .long (lN (sp + ag_cost G ms (nw - n)))])), (qn, .inl (cI, 1200, .inl f)), (qk, .inl (cI, 1200, .inl g))])) A) (cc := b_M_back) (maxL := 3) (ret := (some .long)) (lv := [(0, .ref b), (1, .long (lN n))]) (by decide) rfl (Nat.le_of_ble_eq_true rfl) rfl (fun p e s m below meth c A ls hx hb hr hts hown hlocks hml hnm hA hS hP hK hD hl hsz => ?_)
  have hown : s.vm.findClass "AgedMarksModel" = some m.cls := hown
  have ht : ∀ w ∈ agW, w.before [.ref b, .long (lN n)].toArray s = true := fun w h => hts w (List.mem_cons_of_mem _ h)
  refine lv_aload_n hx hb d_M_back_0 rfl (lv_at hl 0 rfl) ?_
  refine lv_lload_n hx hb d_M_back_1 rfl (lv_at hl 1 rfl) ?_
  refine ag_lconst hx hb 0 d_M_back_2 (by decide) ?_
  refine ag_lc_ge (tgt := 11) hx hb d_M_back_3 d_M_back_4 (by decide) (fun c3 => ?_) (fun c3 => ?_)
  · have h_n := trivial
    refine ag_iconst hx hb 0 d_M_back_11 (by decide) ?_
    refine ag_iconst hx hb 0 d_M_back_12 (by decide) ?_
    have hPc := hP.sub (ws' := [(b, .inr (2, [.int (nI cd), .int (nI G), .int (nI R), .long (lN en), .long (lN nw), .int (nI ms.length), .ref qn, .ref qk, .int (nI mo), .long (lN la), .long (lN go), .long (lN sp)])), (qn, .inl (cI, 1200, .inl f)), (qk, .inl (cI, 1200, .inl g))]) [0, 1, 2] rfl
    have hDc := hD.sub (ws' := [(b, .inr (2, [.int (nI cd), .int (nI G), .int (nI R), .long (lN en), .long (lN nw), .int (nI ms.length), .ref qn, .ref qk, .int (nI mo), .long (lN la), .long (lN go), .long (lN sp)])), (qn, .inl (cI, 1200, .inl f)), (qk, .inl (cI, 1200, .inl g))]) [0, 1, 2] (by decide) rfl
    refine ag_cli (wc := [(b, .inr (2, [.int (nI cd), .int (nI G), .int (nI R), .long (lN en), .long (lN nw), .int (nI ms.length), .ref qn, .ref qk, .int (nI mo), .long (lN la), .long (lN go), .long (lN sp)])), (qn, .inl (cI, 1200, .inl f)), (qk, .inl (cI, 1200, .inl g))]) (wr := []) (Wf := fun _ : Unit => [(b, .inr (2, [.int (nI (if 0 = 1 then 1 else if 0 = 1 then 2 else 0)), .int (nI G), .int (nI R), .long (lN en), .long (lN nw), .int (nI ms.length), .ref qn, .ref qk, .int (nI mo), .long (lN la), .long (lN go), .long (lN sp)])), (qn, .inl (cI, 1200, .inl f)), (qk, .inl (cI, 1200, .inl g))]) hP hD hS hA [0, 1, 2] [] rfl rfl (by decide) (by decide) (va_runV (C := "AgedMarksModel") (As := [.int (nI 0), .int (nI 0)]) (rest := []) ⟨hx, hb, hml, hown, hts⟩ (c_M_fails l dC dI s.heap.size b qn qk cI cd G R en nw mo la go sp f g ms 0 0 (by decide) (by decide)) (ag_cwV 2 hts mw_m_M_54 mw_instanceMethod_M_fails mw_sel_M_fails mw_ini_M mw_code_M_fails rfl rfl (by decide +kernel) ⟨Nat.le_of_ble_eq_true rfl, Nat.le_of_ble_eq_true rfl⟩) ⟨ag_blind, va_recv hK hPc (ci := 2) (q0 := 0) rfl rfl, ag_pre hPc hK hDc⟩ rfl rfl hl.1 rfl (lv_room (Nat.le_of_ble_eq_true rfl)) d_M_back_13 ⟨Nat.le_of_ble_eq_true rfl, Nat.le_of_ble_eq_true rfl⟩) (fun r1 u H locs hw hP hD hS => ?_)
    try dsimp only at hw
    subst hw
    have hP : va_P (dC, dI) agCl [(b, .inr (2, [.int (nI 0), .int (nI G), .int (nI R), .long (lN en), .long (lN nw), .int (nI ms.length), .ref qn, .ref qk, .int (nI mo), .long (lN la), .long (lN go), .long (lN sp)])), (qn, .inl (cI, 1200, .inl f)), (qk, .inl (cI, 1200, .inl g))] H := hP
    have hD : va_D A [(b, .inr (2, [.int (nI 0), .int (nI G), .int (nI R), .long (lN en), .long (lN nw), .int (nI ms.length), .ref qn, .ref qk, .int (nI mo), .long (lN la), .long (lN go), .long (lN sp)])), (qn, .inl (cI, 1200, .inl f)), (qk, .inl (cI, 1200, .inl g))] := hD
    refine lv_if_eq (tgt := 23) hx hb d_M_back_16 (by decide) (fun c16 => ?_) (fun c16 => ?_)
    · have h_n := trivial
      refine lv_aload_n hx hb d_M_back_23 rfl (lv_at hl 0 rfl) ?_
      refine lv_lload_n hx hb d_M_back_24 rfl (lv_at hl 1 rfl) ?_
      refine lv_aload_n hx hb d_M_back_25 rfl (lv_at hl 0 rfl) ?_
      refine va_get (D := (dC, dI)) (ci := 2) (v := .long (lN nw)) (C := RX2) (T := TX2) (N := 12) hx hb ht inA2 hown hK hP 0 rfl rfl 4 (by decide) (ht _ mw_f_M_49) (fun _ h9 => h9) rfl d_M_back_26 ?_
      refine ag_lc_le (tgt := 37) hx hb d_M_back_29 d_M_back_30 (by decide) (fun c29 => ?_) (fun c29 => ?_)
      · have h_n := trivial
        have hle := (pk_lLE (a := n) (b := nw) (by omega) (by omega)).mp c29
        refine lv_aload_n hx hb d_M_back_37 rfl (lv_at hl 0 rfl) ?_
        refine va_get (D := (dC, dI)) (ci := 2) (v := .long (lN nw)) (C := RX2) (T := TX2) (N := 12) hx hb ht inA2 hown hK hP 0 rfl rfl 4 (by decide) (ht _ mw_f_M_49) (fun _ h9 => h9) rfl d_M_back_38 ?_
        refine lv_lload_n hx hb d_M_back_41 rfl (lv_at hl 1 rfl) ?_
        refine lv_lsub hx hb d_M_back_42 ?_
        refine ag_topl (lN (nw - n)) (lN_sub (by omega)) ?_
        have hPc := hP.sub (ws' := [(b, .inr (2, [.int (nI 0), .int (nI G), .int (nI R), .long (lN en), .long (lN nw), .int (nI ms.length), .ref qn, .ref qk, .int (nI mo), .long (lN la), .long (lN go), .long (lN sp)])), (qn, .inl (cI, 1200, .inl f)), (qk, .inl (cI, 1200, .inl g))]) [0, 1, 2] rfl
        have hDc := hD.sub (ws' := [(b, .inr (2, [.int (nI 0), .int (nI G), .int (nI R), .long (lN en), .long (lN nw), .int (nI ms.length), .ref qn, .ref qk, .int (nI mo), .long (lN la), .long (lN go), .long (lN sp)])), (qn, .inl (cI, 1200, .inl f)), (qk, .inl (cI, 1200, .inl g))]) [0, 1, 2] (by decide) rfl
        refine ag_cll (wc := [(b, .inr (2, [.int (nI 0), .int (nI G), .int (nI R), .long (lN en), .long (lN nw), .int (nI ms.length), .ref qn, .ref qk, .int (nI mo), .long (lN la), .long (lN go), .long (lN sp)])), (qn, .inl (cI, 1200, .inl f)), (qk, .inl (cI, 1200, .inl g))]) (wr := []) (Wf := fun _ : Unit => [(b, .inr (2, [.int (nI 0), .int (nI G), .int (nI R), .long (lN en), .long (lN (nw - n)), .int (nI ms.length), .ref qn, .ref qk, .int (nI mo), .long (lN la), .long (lN go), .long (lN (sp + ag_cost G ms (nw - n)))])), (qn, .inl (cI, 1200, .inl f)), (qk, .inl (cI, 1200, .inl g))]) hP hD hS hA [0, 1, 2] [] rfl rfl (by decide) (by decide) (va_runV (C := "AgedMarksModel") (As := [.long (lN (nw - n))]) (rest := []) ⟨hx, hb, hml, hown, hts⟩ (c_M_to l dC dI H.size b qn qk cI 0 G R en nw mo la go sp f g ms (nw - n) hG2 (by omega) hbd h0 h00 hrep) (ag_cwV 1 hts mw_m_M_72 mw_instanceMethod_M_to mw_sel_M_to mw_ini_M mw_code_M_to rfl rfl (by decide +kernel) ⟨Nat.le_of_ble_eq_true rfl, Nat.le_of_ble_eq_true rfl⟩) ⟨ag_blind, va_recv hK hPc (ci := 2) (q0 := 0) rfl rfl, ag_pre hPc hK hDc⟩ rfl rfl hl.1 rfl (lv_room (Nat.le_of_ble_eq_true rfl)) d_M_back_43 ⟨Nat.le_of_ble_eq_true rfl, Nat.le_of_ble_eq_true rfl⟩) (fun r2 u H locs hw hP hD hS => ?_)
        try dsimp only at hw
        subst hw
        have hP : va_P (dC, dI) agCl [(b, .inr (2, [.int (nI 0), .int (nI G), .int (nI R), .long (lN en), .long (lN (nw - n)), .int (nI ms.length), .ref qn, .ref qk, .int (nI mo), .long (lN la), .long (lN go), .long (lN (sp + ag_cost G ms (nw - n)))])), (qn, .inl (cI, 1200, .inl f)), (qk, .inl (cI, 1200, .inl g))] H := hP
        have hD : va_D A [(b, .inr (2, [.int (nI 0), .int (nI G), .int (nI R), .long (lN en), .long (lN (nw - n)), .int (nI ms.length), .ref qn, .ref qk, .int (nI mo), .long (lN la), .long (lN go), .long (lN (sp + ag_cost G ms (nw - n)))])), (qn, .inl (cI, 1200, .inl f)), (qk, .inl (cI, 1200, .inl g))] := hD
        exact ag_retl hx hb hr hlocks () rfl hP hK hD hS d_M_back_46
      · have h_n := trivial
        have hgt : nw < n := by have h9 := mt (pk_lLE (a := n) (b := nw) (by omega) (by omega)).mpr c29; omega
        refine ag_lconst hx hb 0 d_M_back_33 (by decide) ?_
        refine ag_topl (lN (nw - n)) (by rw [Nat.sub_eq_zero_of_le (by omega)]) ?_
        refine lv_goto (tgt := 43) hx hb d_M_back_34 (by decide) ?_
        have hPc := hP.sub (ws' := [(b, .inr (2, [.int (nI 0), .int (nI G), .int (nI R), .long (lN en), .long (lN nw), .int (nI ms.length), .ref qn, .ref qk, .int (nI mo), .long (lN la), .long (lN go), .long (lN sp)])), (qn, .inl (cI, 1200, .inl f)), (qk, .inl (cI, 1200, .inl g))]) [0, 1, 2] rfl
        have hDc := hD.sub (ws' := [(b, .inr (2, [.int (nI 0), .int (nI G), .int (nI R), .long (lN en), .long (lN nw), .int (nI ms.length), .ref qn, .ref qk, .int (nI mo), .long (lN la), .long (lN go), .long (lN sp)])), (qn, .inl (cI, 1200, .inl f)), (qk, .inl (cI, 1200, .inl g))]) [0, 1, 2] (by decide) rfl
        refine ag_cll (wc := [(b, .inr (2, [.int (nI 0), .int (nI G), .int (nI R), .long (lN en), .long (lN nw), .int (nI ms.length), .ref qn, .ref qk, .int (nI mo), .long (lN la), .long (lN go), .long (lN sp)])), (qn, .inl (cI, 1200, .inl f)), (qk, .inl (cI, 1200, .inl g))]) (wr := []) (Wf := fun _ : Unit => [(b, .inr (2, [.int (nI 0), .int (nI G), .int (nI R), .long (lN en), .long (lN (nw - n)), .int (nI ms.length), .ref qn, .ref qk, .int (nI mo), .long (lN la), .long (lN go), .long (lN (sp + ag_cost G ms (nw - n)))])), (qn, .inl (cI, 1200, .inl f)), (qk, .inl (cI, 1200, .inl g))]) hP hD hS hA [0, 1, 2] [] rfl rfl (by decide) (by decide) (va_runV (C := "AgedMarksModel") (As := [.long (lN (nw - n))]) (rest := []) ⟨hx, hb, hml, hown, hts⟩ (c_M_to l dC dI H.size b qn qk cI 0 G R en nw mo la go sp f g ms (nw - n) hG2 (by omega) hbd h0 h00 hrep) (ag_cwV 1 hts mw_m_M_72 mw_instanceMethod_M_to mw_sel_M_to mw_ini_M mw_code_M_to rfl rfl (by decide +kernel) ⟨Nat.le_of_ble_eq_true rfl, Nat.le_of_ble_eq_true rfl⟩) ⟨ag_blind, va_recv hK hPc (ci := 2) (q0 := 0) rfl rfl, ag_pre hPc hK hDc⟩ rfl rfl hl.1 rfl (lv_room (Nat.le_of_ble_eq_true rfl)) d_M_back_43 ⟨Nat.le_of_ble_eq_true rfl, Nat.le_of_ble_eq_true rfl⟩) (fun r3 u H locs hw hP hD hS => ?_)
        try dsimp only at hw
        subst hw
        have hP : va_P (dC, dI) agCl [(b, .inr (2, [.int (nI 0), .int (nI G), .int (nI R), .long (lN en), .long (lN (nw - n)), .int (nI ms.length), .ref qn, .ref qk, .int (nI mo), .long (lN la), .long (lN go), .long (lN (sp + ag_cost G ms (nw - n)))])), (qn, .inl (cI, 1200, .inl f)), (qk, .inl (cI, 1200, .inl g))] H := hP
        have hD : va_D A [(b, .inr (2, [.int (nI 0), .int (nI G), .int (nI R), .long (lN en), .long (lN (nw - n)), .int (nI ms.length), .ref qn, .ref qk, .int (nI mo), .long (lN la), .long (lN go), .long (lN (sp + ag_cost G ms (nw - n)))])), (qn, .inl (cI, 1200, .inl f)), (qk, .inl (cI, 1200, .inl g))] := hD
        exact ag_retl hx hb hr hlocks () rfl hP hK hD hS d_M_back_46
    · have h_n := trivial
      exact absurd (by decide) c16
  · have h_n := trivial
    exact absurd ((pk_lLE (a := 0) (b := n) (by omega) (by omega)).mpr (by omega)) c3
