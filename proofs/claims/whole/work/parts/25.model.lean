set_option maxHeartbeats 4000000 in
set_option maxRecDepth 100000 in
/-- run(x), refused -/
theorem c_M_run_1 (l : Launch) (dC : Nat → ClassId) (dI : Nat → Nat → Nat) (sz : Nat) (b qn qk : Nat) (cI : ClassId) (cd G R en nw mo la go sp : Nat) (f g : Nat → Int32) (ms : ag_M) (x : Int32) (hno : ¬ (0 ≤ x.toInt ∧ x.toInt ≤ 4000)) : Met l y_M_run (Cond.code y_M_run b_M_run 3 (some .int) :: agW) ({ frames := 2, cells := 0, slots := 0, locals := 70 }) (va_Pc [.ref b, .int x] (ag_at (dC, dI) agCl [(cI, .int)] sz [(b, .inr (2, [.int (nI cd), .int (nI G), .int (nI R), .long (lN en), .long (lN nw), .int (nI ms.length), .ref qn, .ref qk, .int (nI mo), .long (lN la), .long (lN go), .long (lN sp)])), (qn, .inl (cI, 1200, .inl f)), (qk, .inl (cI, 1200, .inl g))])) (va_Qi (fun (_ : Int32) (_ : Unit) => True) (ag_to (dC, dI) agCl [(cI, .int)] (va_A [(b, .inr (2, [.int (nI cd), .int (nI G), .int (nI R), .long (lN en), .long (lN nw), .int (nI ms.length), .ref qn, .ref qk, .int (nI mo), .long (lN la), .long (lN go), .long (lN sp)])), (qn, .inl (cI, 1200, .inl f)), (qk, .inl (cI, 1200, .inl g))] sz) (fun _ : Unit => [(b, .inr (2, [.int (nI 1), .int (nI G), .int (nI R), .long (lN en), .long (lN nw), .int (nI ms.length), .ref qn, .ref qk, .int (nI mo), .long (lN la), .long (lN go), .long (lN sp)])), (qn, .inl (cI, 1200, .inl f)), (qk, .inl (cI, 1200, .inl g))])) (va_A [(b, .inr (2, [.int (nI cd), .int (nI G), .int (nI R), .long (lN en), .long (lN nw), .int (nI ms.length), .ref qn, .ref qk, .int (nI mo), .long (lN la), .long (lN go), .long (lN sp)])), (qn, .inl (cI, 1200, .inl f)), (qk, .inl (cI, 1200, .inl g))] sz)) 0 0 (va_A [(b, .inr (2, [.int (nI cd), .int (nI G), .int (nI R), .long (lN en), .long (lN nw), .int (nI ms.length), .ref qn, .ref qk, .int (nI mo), .long (lN la), .long (lN go), .long (lN sp)])), (qn, .inl (cI, 1200, .inl f)), (qk, .inl (cI, 1200, .inl g))] sz) := by
  refine ag_ofW (Qf := fun A => va_Qi (fun (_ : Int32) (_ : Unit) => True) (ag_to (dC, dI) agCl [(cI, .int)] A (fun _ : Unit => [(b, .inr (2, [.int (nI 1), .int (nI G), .int (nI R), .long (lN en), .long (lN nw), .int (nI ms.length), .ref qn, .ref qk, .int (nI mo), .long (lN la), .long (lN go), .long (lN sp)])), (qn, .inl (cI, 1200, .inl f)), (qk, .inl (cI, 1200, .inl g))])) A) (cc := b_M_run) (maxL := 3) (ret := (some .int)) (lv := [(0, .ref b), (1, .int x)]) (by decide) rfl (Nat.le_of_ble_eq_true rfl) rfl (fun p e s m below meth c A ls hx hb hr hts hown hlocks hml hnm hA hS hP hK hD hl hsz => ?_)
  have hown : s.vm.findClass "AgedMarksModel" = some m.cls := hown
  have ht : ∀ w ∈ agW, w.before [.ref b, .int x].toArray s = true := fun w h => hts w (List.mem_cons_of_mem _ h)
  refine lv_aload_n hx hb d_M_run_0 rfl (lv_at hl 0 rfl) ?_
  refine lv_iload_n hx hb d_M_run_1 rfl (lv_at hl 1 rfl) ?_
  refine lv_if_lt (tgt := 12) hx hb d_M_run_2 (by decide) (fun c2 => ?_) (fun c2 => ?_)
  · have h_n := trivial
    refine ag_iconst hx hb 1 d_M_run_12 (by decide) ?_
    refine lv_goto (tgt := 17) hx hb d_M_run_13 (by decide) ?_
    refine lv_iload_n hx hb d_M_run_17 rfl (lv_at hl 1 rfl) ?_
    refine lv_if_lt (tgt := 52) hx hb d_M_run_18 (by decide) (fun c18 => ?_) (fun c18 => ?_)
    · have h_n := trivial
      refine ag_iconst hx hb 0 d_M_run_52 (by decide) ?_
      have hPc := hP.sub (ws' := [(b, .inr (2, [.int (nI cd), .int (nI G), .int (nI R), .long (lN en), .long (lN nw), .int (nI ms.length), .ref qn, .ref qk, .int (nI mo), .long (lN la), .long (lN go), .long (lN sp)])), (qn, .inl (cI, 1200, .inl f)), (qk, .inl (cI, 1200, .inl g))]) [0, 1, 2] rfl
      have hDc := hD.sub (ws' := [(b, .inr (2, [.int (nI cd), .int (nI G), .int (nI R), .long (lN en), .long (lN nw), .int (nI ms.length), .ref qn, .ref qk, .int (nI mo), .long (lN la), .long (lN go), .long (lN sp)])), (qn, .inl (cI, 1200, .inl f)), (qk, .inl (cI, 1200, .inl g))]) [0, 1, 2] (by decide) rfl
      refine ag_cli (wc := [(b, .inr (2, [.int (nI cd), .int (nI G), .int (nI R), .long (lN en), .long (lN nw), .int (nI ms.length), .ref qn, .ref qk, .int (nI mo), .long (lN la), .long (lN go), .long (lN sp)])), (qn, .inl (cI, 1200, .inl f)), (qk, .inl (cI, 1200, .inl g))]) (wr := []) (Wf := fun _ : Unit => [(b, .inr (2, [.int (nI (if 1 = 1 then 1 else if 0 = 1 then 2 else 0)), .int (nI G), .int (nI R), .long (lN en), .long (lN nw), .int (nI ms.length), .ref qn, .ref qk, .int (nI mo), .long (lN la), .long (lN go), .long (lN sp)])), (qn, .inl (cI, 1200, .inl f)), (qk, .inl (cI, 1200, .inl g))]) hP hD hS hA [0, 1, 2] [] rfl rfl (by decide) (by decide) (va_runV (C := "AgedMarksModel") (As := [.int (nI 1), .int (nI 0)]) (rest := []) ⟨hx, hb, hml, hown, hts⟩ (c_M_fails l dC dI s.heap.size b qn qk cI cd G R en nw mo la go sp f g ms 1 0 (by decide) (by decide)) (ag_cwV 2 hts mw_m_M_54 mw_instanceMethod_M_fails mw_sel_M_fails mw_ini_M mw_code_M_fails rfl rfl (by decide +kernel) ⟨Nat.le_of_ble_eq_true rfl, Nat.le_of_ble_eq_true rfl⟩) ⟨ag_blind, va_recv hK hPc (ci := 2) (q0 := 0) rfl rfl, ag_pre hPc hK hDc⟩ rfl rfl hl.1 rfl (lv_room (Nat.le_of_ble_eq_true rfl)) d_M_run_53 ⟨Nat.le_of_ble_eq_true rfl, Nat.le_of_ble_eq_true rfl⟩) (fun r1 u H locs hw hP hD hS => ?_)
      try dsimp only at hw
      subst hw
      have hP : va_P (dC, dI) agCl [(b, .inr (2, [.int (nI 1), .int (nI G), .int (nI R), .long (lN en), .long (lN nw), .int (nI ms.length), .ref qn, .ref qk, .int (nI mo), .long (lN la), .long (lN go), .long (lN sp)])), (qn, .inl (cI, 1200, .inl f)), (qk, .inl (cI, 1200, .inl g))] H := hP
      have hD : va_D A [(b, .inr (2, [.int (nI 1), .int (nI G), .int (nI R), .long (lN en), .long (lN nw), .int (nI ms.length), .ref qn, .ref qk, .int (nI mo), .long (lN la), .long (lN go), .long (lN sp)])), (qn, .inl (cI, 1200, .inl f)), (qk, .inl (cI, 1200, .inl g))] := hD
      refine lv_if_eq (tgt := 61) hx hb d_M_run_56 (by decide) (fun c56 => ?_) (fun c56 => ?_)
      · have h_n := trivial
        exact absurd c56 (by decide)
      · have h_n := trivial
        refine ag_iconst hx hb 0 d_M_run_59 (by decide) ?_
        exact ag_reti hx hb hr hlocks () trivial hP hK hD hS d_M_run_60
    · have h_n := trivial
      exact absurd c2 c18
  · have h_n := trivial
    obtain ⟨n, hn31, rfl⟩ := nI_of c2
    rw [nI_toInt hn31] at hno
    refine lv_iload_n hx hb d_M_run_5 rfl (lv_at hl 1 rfl) ?_
    refine ag_sipush hx hb 4000 d_M_run_6 (by decide) ?_
    refine ag_icmp_le (tgt := 16) hx hb d_M_run_9 (by decide) (by omega) (by omega) (fun c9 => ?_) (fun c9 => ?_)
    · have h_n := trivial
      exact absurd ⟨by omega, by omega⟩ hno
    · have h_n := trivial
      refine ag_iconst hx hb 1 d_M_run_12 (by decide) ?_
      refine lv_goto (tgt := 17) hx hb d_M_run_13 (by decide) ?_
      refine lv_iload_n hx hb d_M_run_17 rfl (lv_at hl 1 rfl) ?_
      refine ag_if_lt (tgt := 52) hx hb d_M_run_18 (by decide) (by omega) ?_
      refine lv_iload_n hx hb d_M_run_21 rfl (lv_at hl 1 rfl) ?_
      refine ag_sipush hx hb 4000 d_M_run_22 (by decide) ?_
      refine ag_icmp_gt (tgt := 52) hx hb d_M_run_25 (by decide) (by omega) (by omega) (fun c25 => ?_) (fun c25 => ?_)
      · have h_n := trivial
        refine ag_iconst hx hb 0 d_M_run_52 (by decide) ?_
        have hPc := hP.sub (ws' := [(b, .inr (2, [.int (nI cd), .int (nI G), .int (nI R), .long (lN en), .long (lN nw), .int (nI ms.length), .ref qn, .ref qk, .int (nI mo), .long (lN la), .long (lN go), .long (lN sp)])), (qn, .inl (cI, 1200, .inl f)), (qk, .inl (cI, 1200, .inl g))]) [0, 1, 2] rfl
        have hDc := hD.sub (ws' := [(b, .inr (2, [.int (nI cd), .int (nI G), .int (nI R), .long (lN en), .long (lN nw), .int (nI ms.length), .ref qn, .ref qk, .int (nI mo), .long (lN la), .long (lN go), .long (lN sp)])), (qn, .inl (cI, 1200, .inl f)), (qk, .inl (cI, 1200, .inl g))]) [0, 1, 2] (by decide) rfl
        refine ag_cli (wc := [(b, .inr (2, [.int (nI cd), .int (nI G), .int (nI R), .long (lN en), .long (lN nw), .int (nI ms.length), .ref qn, .ref qk, .int (nI mo), .long (lN la), .long (lN go), .long (lN sp)])), (qn, .inl (cI, 1200, .inl f)), (qk, .inl (cI, 1200, .inl g))]) (wr := []) (Wf := fun _ : Unit => [(b, .inr (2, [.int (nI (if 1 = 1 then 1 else if 0 = 1 then 2 else 0)), .int (nI G), .int (nI R), .long (lN en), .long (lN nw), .int (nI ms.length), .ref qn, .ref qk, .int (nI mo), .long (lN la), .long (lN go), .long (lN sp)])), (qn, .inl (cI, 1200, .inl f)), (qk, .inl (cI, 1200, .inl g))]) hP hD hS hA [0, 1, 2] [] rfl rfl (by decide) (by decide) (va_runV (C := "AgedMarksModel") (As := [.int (nI 1), .int (nI 0)]) (rest := []) ⟨hx, hb, hml, hown, hts⟩ (c_M_fails l dC dI s.heap.size b qn qk cI cd G R en nw mo la go sp f g ms 1 0 (by decide) (by decide)) (ag_cwV 2 hts mw_m_M_54 mw_instanceMethod_M_fails mw_sel_M_fails mw_ini_M mw_code_M_fails rfl rfl (by decide +kernel) ⟨Nat.le_of_ble_eq_true rfl, Nat.le_of_ble_eq_true rfl⟩) ⟨ag_blind, va_recv hK hPc (ci := 2) (q0 := 0) rfl rfl, ag_pre hPc hK hDc⟩ rfl rfl hl.1 rfl (lv_room (Nat.le_of_ble_eq_true rfl)) d_M_run_53 ⟨Nat.le_of_ble_eq_true rfl, Nat.le_of_ble_eq_true rfl⟩) (fun r2 u H locs hw hP hD hS => ?_)
        try dsimp only at hw
        subst hw
        have hP : va_P (dC, dI) agCl [(b, .inr (2, [.int (nI 1), .int (nI G), .int (nI R), .long (lN en), .long (lN nw), .int (nI ms.length), .ref qn, .ref qk, .int (nI mo), .long (lN la), .long (lN go), .long (lN sp)])), (qn, .inl (cI, 1200, .inl f)), (qk, .inl (cI, 1200, .inl g))] H := hP
        have hD : va_D A [(b, .inr (2, [.int (nI 1), .int (nI G), .int (nI R), .long (lN en), .long (lN nw), .int (nI ms.length), .ref qn, .ref qk, .int (nI mo), .long (lN la), .long (lN go), .long (lN sp)])), (qn, .inl (cI, 1200, .inl f)), (qk, .inl (cI, 1200, .inl g))] := hD
        refine lv_if_eq (tgt := 61) hx hb d_M_run_56 (by decide) (fun c56 => ?_) (fun c56 => ?_)
        · have h_n := trivial
          exact absurd c56 (by decide)
        · have h_n := trivial
          refine ag_iconst hx hb 0 d_M_run_59 (by decide) ?_
          exact ag_reti hx hb hr hlocks () trivial hP hK hD hS d_M_run_60
      · have h_n := trivial
        exact absurd c25 (by omega)

set_option maxHeartbeats 4000000 in
set_option maxRecDepth 100000 in
/-- run(n), too far -/
theorem c_M_run_2 (l : Launch) (dC : Nat → ClassId) (dI : Nat → Nat → Nat) (sz : Nat) (b qn qk : Nat) (cI : ClassId) (cd G R en nw mo la go sp : Nat) (f g : Nat → Int32) (ms : ag_M) (n : Nat) (hn : n ≤ 4000) (hG2 : G ≤ 1000) (hnw : nw ≤ 1000000 * G) (hbig : 1000000 * G < nw + n) : Met l y_M_run (Cond.code y_M_run b_M_run 3 (some .int) :: agW) ({ frames := 2, cells := 0, slots := 0, locals := 70 }) (va_Pc [.ref b, .int (nI n)] (ag_at (dC, dI) agCl [(cI, .int)] sz [(b, .inr (2, [.int (nI cd), .int (nI G), .int (nI R), .long (lN en), .long (lN nw), .int (nI ms.length), .ref qn, .ref qk, .int (nI mo), .long (lN la), .long (lN go), .long (lN sp)])), (qn, .inl (cI, 1200, .inl f)), (qk, .inl (cI, 1200, .inl g))])) (va_Qi (fun (_ : Int32) (_ : Unit) => True) (ag_to (dC, dI) agCl [(cI, .int)] (va_A [(b, .inr (2, [.int (nI cd), .int (nI G), .int (nI R), .long (lN en), .long (lN nw), .int (nI ms.length), .ref qn, .ref qk, .int (nI mo), .long (lN la), .long (lN go), .long (lN sp)])), (qn, .inl (cI, 1200, .inl f)), (qk, .inl (cI, 1200, .inl g))] sz) (fun _ : Unit => [(b, .inr (2, [.int (nI 2), .int (nI G), .int (nI R), .long (lN en), .long (lN nw), .int (nI ms.length), .ref qn, .ref qk, .int (nI mo), .long (lN la), .long (lN go), .long (lN sp)])), (qn, .inl (cI, 1200, .inl f)), (qk, .inl (cI, 1200, .inl g))])) (va_A [(b, .inr (2, [.int (nI cd), .int (nI G), .int (nI R), .long (lN en), .long (lN nw), .int (nI ms.length), .ref qn, .ref qk, .int (nI mo), .long (lN la), .long (lN go), .long (lN sp)])), (qn, .inl (cI, 1200, .inl f)), (qk, .inl (cI, 1200, .inl g))] sz)) 0 0 (va_A [(b, .inr (2, [.int (nI cd), .int (nI G), .int (nI R), .long (lN en), .long (lN nw), .int (nI ms.length), .ref qn, .ref qk, .int (nI mo), .long (lN la), .long (lN go), .long (lN sp)])), (qn, .inl (cI, 1200, .inl f)), (qk, .inl (cI, 1200, .inl g))] sz) := by
  refine ag_ofW (Qf := fun A => va_Qi (fun (_ : Int32) (_ : Unit) => True) (ag_to (dC, dI) agCl [(cI, .int)] A (fun _ : Unit => [(b, .inr (2, [.int (nI 2), .int (nI G), .int (nI R), .long (lN en), .long (lN nw), .int (nI ms.length), .ref qn, .ref qk, .int (nI mo), .long (lN la), .long (lN go), .long (lN sp)])), (qn, .inl (cI, 1200, .inl f)), (qk, .inl (cI, 1200, .inl g))])) A) (cc := b_M_run) (maxL := 3) (ret := (some .int)) (lv := [(0, .ref b), (1, .int (nI n))]) (by decide) rfl (Nat.le_of_ble_eq_true rfl) rfl (fun p e s m below meth c A ls hx hb hr hts hown hlocks hml hnm hA hS hP hK hD hl hsz => ?_)
  have hown : s.vm.findClass "AgedMarksModel" = some m.cls := hown
  have ht : ∀ w ∈ agW, w.before [.ref b, .int (nI n)].toArray s = true := fun w h => hts w (List.mem_cons_of_mem _ h)
  refine lv_aload_n hx hb d_M_run_0 rfl (lv_at hl 0 rfl) ?_
  refine lv_iload_n hx hb d_M_run_1 rfl (lv_at hl 1 rfl) ?_
  refine ag_if_lt (tgt := 12) hx hb d_M_run_2 (by decide) (by omega) ?_
  refine lv_iload_n hx hb d_M_run_5 rfl (lv_at hl 1 rfl) ?_
  refine ag_sipush hx hb 4000 d_M_run_6 (by decide) ?_
  refine ag_icmp_le (tgt := 16) hx hb d_M_run_9 (by decide) (by omega) (by omega) (fun c9 => ?_) (fun c9 => ?_)
  · have h_n := trivial
    refine ag_iconst hx hb 0 d_M_run_16 (by decide) ?_
    refine lv_iload_n hx hb d_M_run_17 rfl (lv_at hl 1 rfl) ?_
    refine ag_if_lt (tgt := 52) hx hb d_M_run_18 (by decide) (by omega) ?_
    refine lv_iload_n hx hb d_M_run_21 rfl (lv_at hl 1 rfl) ?_
    refine ag_sipush hx hb 4000 d_M_run_22 (by decide) ?_
    refine ag_icmp_gt (tgt := 52) hx hb d_M_run_25 (by decide) (by omega) (by omega) (fun c25 => ?_) (fun c25 => ?_)
    · have h_n := trivial
      exact absurd c25 (by omega)
    · have h_n := trivial
      refine lv_aload_n hx hb d_M_run_28 rfl (lv_at hl 0 rfl) ?_
      refine va_get (D := (dC, dI)) (ci := 2) (v := .long (lN nw)) (C := RX2) (T := TX2) (N := 12) hx hb ht inA2 hown hK hP 0 rfl rfl 4 (by decide) (ht _ mw_f_M_49) (fun _ h9 => h9) rfl d_M_run_29 ?_
      refine lv_iload_n hx hb d_M_run_32 rfl (lv_at hl 1 rfl) ?_
      refine lv_i2l (v := lN n) hx hb d_M_run_33 (nI_l (by omega)) ?_
      refine lv_ladd hx hb d_M_run_34 ?_
      refine ag_topl (lN (nw + n)) (lN_add _ _) ?_
      refine lv_ldc2 (v := lN 1000000) hx hb hown (ht _ mw_k_M_52) d_M_run_35 ?_
      refine lv_aload_n hx hb d_M_run_38 rfl (lv_at hl 0 rfl) ?_
      refine va_get (D := (dC, dI)) (ci := 2) (v := .int (nI G)) (C := RX2) (T := TX2) (N := 12) hx hb ht inA2 hown hK hP 0 rfl rfl 1 (by decide) (ht _ mw_f_M_23) (fun _ h9 => h9) rfl d_M_run_39 ?_
      refine lv_i2l (v := lN G) hx hb d_M_run_42 (nI_l (by omega)) ?_
      refine lv_lmul hx hb d_M_run_43 ?_
      refine ag_topl (lN (1000000 * G)) (lN_mul _ _) ?_
      refine ag_lc_le (tgt := 52) hx hb d_M_run_44 d_M_run_45 (by decide) (fun c44 => ?_) (fun c44 => ?_)
      · have h_n := trivial
        exact absurd ((pk_lLE (a := nw + n) (b := 1000000 * G) (by omega) (by omega)).mp c44) (by omega)
      · have h_n := trivial
        refine ag_iconst hx hb 1 d_M_run_48 (by decide) ?_
        refine lv_goto (tgt := 53) hx hb d_M_run_49 (by decide) ?_
        have hPc := hP.sub (ws' := [(b, .inr (2, [.int (nI cd), .int (nI G), .int (nI R), .long (lN en), .long (lN nw), .int (nI ms.length), .ref qn, .ref qk, .int (nI mo), .long (lN la), .long (lN go), .long (lN sp)])), (qn, .inl (cI, 1200, .inl f)), (qk, .inl (cI, 1200, .inl g))]) [0, 1, 2] rfl
        have hDc := hD.sub (ws' := [(b, .inr (2, [.int (nI cd), .int (nI G), .int (nI R), .long (lN en), .long (lN nw), .int (nI ms.length), .ref qn, .ref qk, .int (nI mo), .long (lN la), .long (lN go), .long (lN sp)])), (qn, .inl (cI, 1200, .inl f)), (qk, .inl (cI, 1200, .inl g))]) [0, 1, 2] (by decide) rfl
        refine ag_cli (wc := [(b, .inr (2, [.int (nI cd), .int (nI G), .int (nI R), .long (lN en), .long (lN nw), .int (nI ms.length), .ref qn, .ref qk, .int (nI mo), .long (lN la), .long (lN go), .long (lN sp)])), (qn, .inl (cI, 1200, .inl f)), (qk, .inl (cI, 1200, .inl g))]) (wr := []) (Wf := fun _ : Unit => [(b, .inr (2, [.int (nI (if 0 = 1 then 1 else if 1 = 1 then 2 else 0)), .int (nI G), .int (nI R), .long (lN en), .long (lN nw), .int (nI ms.length), .ref qn, .ref qk, .int (nI mo), .long (lN la), .long (lN go), .long (lN sp)])), (qn, .inl (cI, 1200, .inl f)), (qk, .inl (cI, 1200, .inl g))]) hP hD hS hA [0, 1, 2] [] rfl rfl (by decide) (by decide) (va_runV (C := "AgedMarksModel") (As := [.int (nI 0), .int (nI 1)]) (rest := []) ⟨hx, hb, hml, hown, hts⟩ (c_M_fails l dC dI s.heap.size b qn qk cI cd G R en nw mo la go sp f g ms 0 1 (by decide) (by decide)) (ag_cwV 2 hts mw_m_M_54 mw_instanceMethod_M_fails mw_sel_M_fails mw_ini_M mw_code_M_fails rfl rfl (by decide +kernel) ⟨Nat.le_of_ble_eq_true rfl, Nat.le_of_ble_eq_true rfl⟩) ⟨ag_blind, va_recv hK hPc (ci := 2) (q0 := 0) rfl rfl, ag_pre hPc hK hDc⟩ rfl rfl hl.1 rfl (lv_room (Nat.le_of_ble_eq_true rfl)) d_M_run_53 ⟨Nat.le_of_ble_eq_true rfl, Nat.le_of_ble_eq_true rfl⟩) (fun r1 u H locs hw hP hD hS => ?_)
        try dsimp only at hw
        subst hw
        have hP : va_P (dC, dI) agCl [(b, .inr (2, [.int (nI 2), .int (nI G), .int (nI R), .long (lN en), .long (lN nw), .int (nI ms.length), .ref qn, .ref qk, .int (nI mo), .long (lN la), .long (lN go), .long (lN sp)])), (qn, .inl (cI, 1200, .inl f)), (qk, .inl (cI, 1200, .inl g))] H := hP
        have hD : va_D A [(b, .inr (2, [.int (nI 2), .int (nI G), .int (nI R), .long (lN en), .long (lN nw), .int (nI ms.length), .ref qn, .ref qk, .int (nI mo), .long (lN la), .long (lN go), .long (lN sp)])), (qn, .inl (cI, 1200, .inl f)), (qk, .inl (cI, 1200, .inl g))] := hD
        refine lv_if_eq (tgt := 61) hx hb d_M_run_56 (by decide) (fun c56 => ?_) (fun c56 => ?_)
        · have h_n := trivial
          exact absurd c56 (by decide)
        · have h_n := trivial
          refine ag_iconst hx hb 0 d_M_run_59 (by decide) ?_
          exact ag_reti hx hb hr hlocks () trivial hP hK hD hS d_M_run_60
  · have h_n := trivial
    exact absurd c9 (by omega)

set_option maxHeartbeats 4000000 in
set_option maxRecDepth 100000 in
/-- run(n) -/
theorem c_M_run_0 (l : Launch) (dC : Nat → ClassId) (dI : Nat → Nat → Nat) (sz : Nat) (b qn qk : Nat) (cI : ClassId) (cd G R en nw mo la go sp : Nat) (f g : Nat → Int32) (ms : ag_M) (n : Nat) (hG : 1 ≤ G) (hG2 : G ≤ 1000) (hR2 : 2 ≤ R) (hR16 : R ≤ 16) (hmo : mo ≤ 300) (hn : n ≤ 4000) (hen : en ≤ 1000000 * G) (hle : nw + n ≤ 1000000 * G) (hin : ag_in R (en / G) ms) (hrep : ag_rpm ms f g) : Met l y_M_run (Cond.code y_M_run b_M_run 3 (some .int) :: agW) ({ frames := 2, cells := 0, slots := 0, locals := 70 }) (va_Pc [.ref b, .int (nI n)] (ag_at (dC, dI) agCl [(cI, .int)] sz [(b, .inr (2, [.int (nI cd), .int (nI G), .int (nI R), .long (lN en), .long (lN nw), .int (nI ms.length), .ref qn, .ref qk, .int (nI mo), .long (lN la), .long (lN go), .long (lN sp)])), (qn, .inl (cI, 1200, .inl f)), (qk, .inl (cI, 1200, .inl g))])) (va_Qi (fun (r : Int32) (u : ag_T × (Nat → Int32) × (Nat → Int32)) => r = nI (max en (nw + n) / G - en / G) ∧ u.1 = ag_grow R (en / G) (max en (nw + n) / G - en / G) (ms, mo, la, go) ∧ ag_rpm u.1.1 u.2.1 u.2.2) (ag_to (dC, dI) agCl [(cI, .int)] (va_A [(b, .inr (2, [.int (nI cd), .int (nI G), .int (nI R), .long (lN en), .long (lN nw), .int (nI ms.length), .ref qn, .ref qk, .int (nI mo), .long (lN la), .long (lN go), .long (lN sp)])), (qn, .inl (cI, 1200, .inl f)), (qk, .inl (cI, 1200, .inl g))] sz) (fun u : ag_T × (Nat → Int32) × (Nat → Int32) => [(b, .inr (2, [.int (nI 0), .int (nI G), .int (nI R), .long (lN (max en (nw + n))), .long (lN (nw + n)), .int (nI u.1.1.length), .ref qn, .ref qk, .int (nI u.1.2.1), .long (lN u.1.2.2.1), .long (lN u.1.2.2.2), .long (lN sp)])), (qn, .inl (cI, 1200, .inl u.2.1)), (qk, .inl (cI, 1200, .inl u.2.2))])) (va_A [(b, .inr (2, [.int (nI cd), .int (nI G), .int (nI R), .long (lN en), .long (lN nw), .int (nI ms.length), .ref qn, .ref qk, .int (nI mo), .long (lN la), .long (lN go), .long (lN sp)])), (qn, .inl (cI, 1200, .inl f)), (qk, .inl (cI, 1200, .inl g))] sz)) 0 0 (va_A [(b, .inr (2, [.int (nI cd), .int (nI G), .int (nI R), .long (lN en), .long (lN nw), .int (nI ms.length), .ref qn, .ref qk, .int (nI mo), .long (lN la), .long (lN go), .long (lN sp)])), (qn, .inl (cI, 1200, .inl f)), (qk, .inl (cI, 1200, .inl g))] sz) := by
  refine ag_ofW (Qf := fun A => va_Qi (fun (r : Int32) (u : ag_T × (Nat → Int32) × (Nat → Int32)) => r = nI (max en (nw + n) / G - en / G) ∧ u.1 = ag_grow R (en / G) (max en (nw + n) / G - en / G) (ms, mo, la, go) ∧ ag_rpm u.1.1 u.2.1 u.2.2) (ag_to (dC, dI) agCl [(cI, .int)] A (fun u : ag_T × (Nat → Int32) × (Nat → Int32) => [(b, .inr (2, [.int (nI 0), .int (nI G), .int (nI R), .long (lN (max en (nw + n))), .long (lN (nw + n)), .int (nI u.1.1.length), .ref qn, .ref qk, .int (nI u.1.2.1), .long (lN u.1.2.2.1), .long (lN u.1.2.2.2), .long (lN sp)])), (qn, .inl (cI, 1200, .inl u.2.1)), (qk, .inl (cI, 1200, .inl u.2.2))])) A) (cc := b_M_run) (maxL := 3) (ret := (some .int)) (lv := [(0, .ref b), (1, .int (nI n))]) (by decide) rfl (Nat.le_of_ble_eq_true rfl) rfl (fun p e s m below meth c A ls hx hb hr hts hown hlocks hml hnm hA hS hP hK hD hl hsz => ?_)
  have hown : s.vm.findClass "AgedMarksModel" = some m.cls := hown
  have ht : ∀ w ∈ agW, w.before [.ref b, .int (nI n)].toArray s = true := fun w h => hts w (List.mem_cons_of_mem _ h)
  refine lv_aload_n hx hb d_M_run_0 rfl (lv_at hl 0 rfl) ?_
  refine lv_iload_n hx hb d_M_run_1 rfl (lv_at hl 1 rfl) ?_
  refine ag_if_lt (tgt := 12) hx hb d_M_run_2 (by decide) (by omega) ?_
  refine lv_iload_n hx hb d_M_run_5 rfl (lv_at hl 1 rfl) ?_
  refine ag_sipush hx hb 4000 d_M_run_6 (by decide) ?_
  refine ag_icmp_le (tgt := 16) hx hb d_M_run_9 (by decide) (by omega) (by omega) (fun c9 => ?_) (fun c9 => ?_)
  · have h_n := trivial
    refine ag_iconst hx hb 0 d_M_run_16 (by decide) ?_
    refine lv_iload_n hx hb d_M_run_17 rfl (lv_at hl 1 rfl) ?_
    refine ag_if_lt (tgt := 52) hx hb d_M_run_18 (by decide) (by omega) ?_
    refine lv_iload_n hx hb d_M_run_21 rfl (lv_at hl 1 rfl) ?_
    refine ag_sipush hx hb 4000 d_M_run_22 (by decide) ?_
    refine ag_icmp_gt (tgt := 52) hx hb d_M_run_25 (by decide) (by omega) (by omega) (fun c25 => ?_) (fun c25 => ?_)
    · have h_n := trivial
      exact absurd c25 (by omega)
    · have h_n := trivial
      refine lv_aload_n hx hb d_M_run_28 rfl (lv_at hl 0 rfl) ?_
      refine va_get (D := (dC, dI)) (ci := 2) (v := .long (lN nw)) (C := RX2) (T := TX2) (N := 12) hx hb ht inA2 hown hK hP 0 rfl rfl 4 (by decide) (ht _ mw_f_M_49) (fun _ h9 => h9) rfl d_M_run_29 ?_
      refine lv_iload_n hx hb d_M_run_32 rfl (lv_at hl 1 rfl) ?_
      refine lv_i2l (v := lN n) hx hb d_M_run_33 (nI_l (by omega)) ?_
      refine lv_ladd hx hb d_M_run_34 ?_
      refine ag_topl (lN (nw + n)) (lN_add _ _) ?_
      refine lv_ldc2 (v := lN 1000000) hx hb hown (ht _ mw_k_M_52) d_M_run_35 ?_
      refine lv_aload_n hx hb d_M_run_38 rfl (lv_at hl 0 rfl) ?_
      refine va_get (D := (dC, dI)) (ci := 2) (v := .int (nI G)) (C := RX2) (T := TX2) (N := 12) hx hb ht inA2 hown hK hP 0 rfl rfl 1 (by decide) (ht _ mw_f_M_23) (fun _ h9 => h9) rfl d_M_run_39 ?_
      refine lv_i2l (v := lN G) hx hb d_M_run_42 (nI_l (by omega)) ?_
      refine lv_lmul hx hb d_M_run_43 ?_
      refine ag_topl (lN (1000000 * G)) (lN_mul _ _) ?_
      refine ag_lc_le (tgt := 52) hx hb d_M_run_44 d_M_run_45 (by decide) (fun c44 => ?_) (fun c44 => ?_)
      · have h_n := trivial
        refine ag_iconst hx hb 0 d_M_run_52 (by decide) ?_
        have hPc := hP.sub (ws' := [(b, .inr (2, [.int (nI cd), .int (nI G), .int (nI R), .long (lN en), .long (lN nw), .int (nI ms.length), .ref qn, .ref qk, .int (nI mo), .long (lN la), .long (lN go), .long (lN sp)])), (qn, .inl (cI, 1200, .inl f)), (qk, .inl (cI, 1200, .inl g))]) [0, 1, 2] rfl
        have hDc := hD.sub (ws' := [(b, .inr (2, [.int (nI cd), .int (nI G), .int (nI R), .long (lN en), .long (lN nw), .int (nI ms.length), .ref qn, .ref qk, .int (nI mo), .long (lN la), .long (lN go), .long (lN sp)])), (qn, .inl (cI, 1200, .inl f)), (qk, .inl (cI, 1200, .inl g))]) [0, 1, 2] (by decide) rfl
        refine ag_cli (wc := [(b, .inr (2, [.int (nI cd), .int (nI G), .int (nI R), .long (lN en), .long (lN nw), .int (nI ms.length), .ref qn, .ref qk, .int (nI mo), .long (lN la), .long (lN go), .long (lN sp)])), (qn, .inl (cI, 1200, .inl f)), (qk, .inl (cI, 1200, .inl g))]) (wr := []) (Wf := fun _ : Unit => [(b, .inr (2, [.int (nI (if 0 = 1 then 1 else if 0 = 1 then 2 else 0)), .int (nI G), .int (nI R), .long (lN en), .long (lN nw), .int (nI ms.length), .ref qn, .ref qk, .int (nI mo), .long (lN la), .long (lN go), .long (lN sp)])), (qn, .inl (cI, 1200, .inl f)), (qk, .inl (cI, 1200, .inl g))]) hP hD hS hA [0, 1, 2] [] rfl rfl (by decide) (by decide) (va_runV (C := "AgedMarksModel") (As := [.int (nI 0), .int (nI 0)]) (rest := []) ⟨hx, hb, hml, hown, hts⟩ (c_M_fails l dC dI s.heap.size b qn qk cI cd G R en nw mo la go sp f g ms 0 0 (by decide) (by decide)) (ag_cwV 2 hts mw_m_M_54 mw_instanceMethod_M_fails mw_sel_M_fails mw_ini_M mw_code_M_fails rfl rfl (by decide +kernel) ⟨Nat.le_of_ble_eq_true rfl, Nat.le_of_ble_eq_true rfl⟩) ⟨ag_blind, va_recv hK hPc (ci := 2) (q0 := 0) rfl rfl, ag_pre hPc hK hDc⟩ rfl rfl hl.1 rfl (lv_room (Nat.le_of_ble_eq_true rfl)) d_M_run_53 ⟨Nat.le_of_ble_eq_true rfl, Nat.le_of_ble_eq_true rfl⟩) (fun r1 u H locs hw hP hD hS => ?_)
        try dsimp only at hw
        subst hw
        have hP : va_P (dC, dI) agCl [(b, .inr (2, [.int (nI 0), .int (nI G), .int (nI R), .long (lN en), .long (lN nw), .int (nI ms.length), .ref qn, .ref qk, .int (nI mo), .long (lN la), .long (lN go), .long (lN sp)])), (qn, .inl (cI, 1200, .inl f)), (qk, .inl (cI, 1200, .inl g))] H := hP
        have hD : va_D A [(b, .inr (2, [.int (nI 0), .int (nI G), .int (nI R), .long (lN en), .long (lN nw), .int (nI ms.length), .ref qn, .ref qk, .int (nI mo), .long (lN la), .long (lN go), .long (lN sp)])), (qn, .inl (cI, 1200, .inl f)), (qk, .inl (cI, 1200, .inl g))] := hD
        refine lv_if_eq (tgt := 61) hx hb d_M_run_56 (by decide) (fun c56 => ?_) (fun c56 => ?_)
        · have h_n := trivial
          refine lv_aload_n hx hb d_M_run_61 rfl (lv_at hl 0 rfl) ?_
          refine lv_dup hx hb d_M_run_62 rfl ?_
          refine va_get (D := (dC, dI)) (ci := 2) (v := .long (lN nw)) (C := RX2) (T := TX2) (N := 12) hx hb ht inA2 hown hK hP 0 rfl rfl 4 (by decide) (ht _ mw_f_M_49) (fun _ h9 => h9) rfl d_M_run_63 ?_
          refine lv_iload_n hx hb d_M_run_66 rfl (lv_at hl 1 rfl) ?_
          refine lv_i2l (v := lN n) hx hb d_M_run_67 (nI_l (by omega)) ?_
          refine lv_ladd hx hb d_M_run_68 ?_
          refine ag_topl (lN (nw + n)) (lN_add _ _) ?_
          refine va_put (D := (dC, dI)) (ci := 2) (v := .long (lN (nw + n))) (ty := .long) (C := RX2) (T := TX2) (N := 12) hx hb ht inA2 tyX2 tyX2_ok nmX2 hown hK hP hD hS 0 rfl rfl 4 (by decide) (ht _ mw_f_M_49) (fun _ h9 => h9) rfl (by decide +kernel) rfl rfl (Nat.le_of_ble_eq_true rfl) d_M_run_69 (fun H locs hP hD hS => ?_)
          have hP : va_P (dC, dI) agCl [(b, .inr (2, [.int (nI 0), .int (nI G), .int (nI R), .long (lN en), .long (lN (nw + n)), .int (nI ms.length), .ref qn, .ref qk, .int (nI mo), .long (lN la), .long (lN go), .long (lN sp)])), (qn, .inl (cI, 1200, .inl f)), (qk, .inl (cI, 1200, .inl g))] H := hP
          have hD : va_D A [(b, .inr (2, [.int (nI 0), .int (nI G), .int (nI R), .long (lN en), .long (lN (nw + n)), .int (nI ms.length), .ref qn, .ref qk, .int (nI mo), .long (lN la), .long (lN go), .long (lN sp)])), (qn, .inl (cI, 1200, .inl f)), (qk, .inl (cI, 1200, .inl g))] := hD
          refine ag_iconst hx hb 0 d_M_run_72 (by decide) ?_
          refine lv_istore_n (lv' := [(2, .int (nI 0)), (0, .ref b), (1, .int (nI n))]) hx hb d_M_run_73 rfl hl (by decide) rfl (fun ls hl => ?_)
          have loop : ∀ (q e9 : Nat), en ≤ e9 → (e9 = en ∨ e9 ≤ nw + n) → nw + n < e9 + q → ∀ (ms1 : ag_M) (mo1 la1 go1 : Nat), ag_grow R (en / G) (e9 / G - en / G) (ms, mo, la, go) = (ms1, mo1, la1, go1) → ag_in R (e9 / G) ms1 → mo1 ≤ 300 → ∀ (f1 g1 : Nat → Int32), ag_rpm ms1 f1 g1 → ∀ (H : Heap) (locs : List Loc), va_P (dC, dI) agCl [(b, .inr (2, [.int (nI 0), .int (nI G), .int (nI R), .long (lN e9), .long (lN (nw + n)), .int (nI ms1.length), .ref qn, .ref qk, .int (nI mo1), .long (lN la1), .long (lN go1), .long (lN sp)])), (qn, .inl (cI, 1200, .inl f1)), (qk, .inl (cI, 1200, .inl g1))] H → va_D A [(b, .inr (2, [.int (nI 0), .int (nI G), .int (nI R), .long (lN e9), .long (lN (nw + n)), .int (nI ms1.length), .ref qn, .ref qk, .int (nI mo1), .long (lN la1), .long (lN go1), .long (lN sp)])), (qn, .inl (cI, 1200, .inl f1)), (qk, .inl (cI, 1200, .inl g1))] → va_S A s.heap H locs → ∀ ls : Array Slot, lv_has ls 3 [(2, .int (nI (e9 / G - en / G))), (0, .ref b), (1, .int (nI n))] → W p l e { frames := 2, cells := 0, slots := 0, locals := 70 } s m [.ref b, .int (nI n)].toArray below meth c H locs 0 0 (MQ below (va_Qi (fun (r : Int32) (u : ag_T × (Nat → Int32) × (Nat → Int32)) => r = nI (max en (nw + n) / G - en / G) ∧ u.1 = ag_grow R (en / G) (max en (nw + n) / G - en / G) (ms, mo, la, go) ∧ ag_rpm u.1.1 u.2.1 u.2.2) (ag_to (dC, dI) agCl [(cI, .int)] A (fun u : ag_T × (Nat → Int32) × (Nat → Int32) => [(b, .inr (2, [.int (nI 0), .int (nI G), .int (nI R), .long (lN (max en (nw + n))), .long (lN (nw + n)), .int (nI u.1.1.length), .ref qn, .ref qk, .int (nI u.1.2.1), .long (lN u.1.2.2.1), .long (lN u.1.2.2.2), .long (lN sp)])), (qn, .inl (cI, 1200, .inl u.2.1)), (qk, .inl (cI, 1200, .inl u.2.2))])) A) [.ref b, .int (nI n)].toArray s 0 0 A) (F0 m 74 ls []) := by
            intro q
            induction q with
            | zero =>
              intro e9 hee hor hq ms1 mo1 la1 go1 hU hin1 hmo1 f1 g1 hrep1 H locs hP hD hS ls hl
              have he6 : e9 ≤ 1000000 * G := by rcases hor with h | h <;> omega
              refine lv_aload_n hx hb d_M_run_74 rfl (lv_at hl 1 rfl) ?_
              refine va_get (D := (dC, dI)) (ci := 2) (v := .long (lN e9)) (C := RX2) (T := TX2) (N := 12) hx hb ht inA2 hown hK hP 0 rfl rfl 3 (by decide) (ht _ mw_f_M_58) (fun _ h9 => h9) rfl d_M_run_75 ?_
              refine lv_aload_n hx hb d_M_run_78 rfl (lv_at hl 1 rfl) ?_
              refine va_get (D := (dC, dI)) (ci := 2) (v := .long (lN (nw + n))) (C := RX2) (T := TX2) (N := 12) hx hb ht inA2 hown hK hP 0 rfl rfl 4 (by decide) (ht _ mw_f_M_49) (fun _ h9 => h9) rfl d_M_run_79 ?_
              refine ag_lc_ge (tgt := 135) hx hb d_M_run_82 d_M_run_83 (by decide) (fun c82 => ?_) (fun c82 => ?_)
              · have h_n := trivial
                have hge := (pk_lLE (a := nw + n) (b := e9) (by omega) (by omega)).mp c82
                have hE : e9 = max en (nw + n) := by
                  rcases hor with h | h
                  · rw [h, Nat.max_eq_left (by omega)]
                  · rw [Nat.max_eq_right (by omega)]; omega
                subst hE
                refine lv_iload_n hx hb d_M_run_135 rfl (lv_at hl 0 rfl) ?_
                exact ag_reti hx hb hr hlocks ((ms1, mo1, la1, go1), f1, g1) (⟨rfl, hU.symm, hrep1⟩) hP hK hD hS d_M_run_136
              · have h_n := trivial
                exact absurd ((pk_lLE (a := nw + n) (b := e9) (by omega) (by omega)).mpr (by omega)) c82
            | succ q ih =>
              intro e9 hee hor hq ms1 mo1 la1 go1 hU hin1 hmo1 f1 g1 hrep1 H locs hP hD hS ls hl
              have he6 : e9 ≤ 1000000 * G := by rcases hor with h | h <;> omega
              refine lv_aload_n hx hb d_M_run_74 rfl (lv_at hl 1 rfl) ?_
              refine va_get (D := (dC, dI)) (ci := 2) (v := .long (lN e9)) (C := RX2) (T := TX2) (N := 12) hx hb ht inA2 hown hK hP 0 rfl rfl 3 (by decide) (ht _ mw_f_M_58) (fun _ h9 => h9) rfl d_M_run_75 ?_
              refine lv_aload_n hx hb d_M_run_78 rfl (lv_at hl 1 rfl) ?_
              refine va_get (D := (dC, dI)) (ci := 2) (v := .long (lN (nw + n))) (C := RX2) (T := TX2) (N := 12) hx hb ht inA2 hown hK hP 0 rfl rfl 4 (by decide) (ht _ mw_f_M_49) (fun _ h9 => h9) rfl d_M_run_79 ?_
              refine ag_lc_ge (tgt := 135) hx hb d_M_run_82 d_M_run_83 (by decide) (fun c82 => ?_) (fun c82 => ?_)
              · have h_n := trivial
                have hge := (pk_lLE (a := nw + n) (b := e9) (by omega) (by omega)).mp c82
                have hE : e9 = max en (nw + n) := by
                  rcases hor with h | h
                  · rw [h, Nat.max_eq_left (by omega)]
                  · rw [Nat.max_eq_right (by omega)]; omega
                subst hE
                refine lv_iload_n hx hb d_M_run_135 rfl (lv_at hl 0 rfl) ?_
                exact ag_reti hx hb hr hlocks ((ms1, mo1, la1, go1), f1, g1) (⟨rfl, hU.symm, hrep1⟩) hP hK hD hS d_M_run_136
              · have h_n := trivial
                have hlt9 : e9 < nw + n := by have h9 := mt (pk_lLE (a := nw + n) (b := e9) (by omega) (by omega)).mpr c82; omega
                have hz9 : 0 ≤ en / G := Nat.zero_le _
                have hdv : en / G ≤ e9 / G := Nat.div_le_div_right hee
                have hdv2 : e9 / G ≤ (e9 + 1) / G := Nat.div_le_div_right (by omega)
                have hdx : (e9 + 1) / G ≤ 1000000 := Nat.div_le_of_le_mul (by rw [Nat.mul_comm]; omega)
                have hmodlt : (e9 + 1) % G < G := Nat.mod_lt _ (by omega)
                refine lv_aload_n hx hb d_M_run_86 rfl (lv_at hl 1 rfl) ?_
                refine lv_dup hx hb d_M_run_87 rfl ?_
                refine va_get (D := (dC, dI)) (ci := 2) (v := .long (lN e9)) (C := RX2) (T := TX2) (N := 12) hx hb ht inA2 hown hK hP 0 rfl rfl 3 (by decide) (ht _ mw_f_M_58) (fun _ h9 => h9) rfl d_M_run_88 ?_
                refine ag_lconst hx hb 1 d_M_run_91 (by decide) ?_
                refine lv_ladd hx hb d_M_run_92 ?_
                refine ag_topl (lN (e9 + 1)) (lN_add _ _) ?_
                refine va_put (D := (dC, dI)) (ci := 2) (v := .long (lN (e9 + 1))) (ty := .long) (C := RX2) (T := TX2) (N := 12) hx hb ht inA2 tyX2 tyX2_ok nmX2 hown hK hP hD hS 0 rfl rfl 3 (by decide) (ht _ mw_f_M_58) (fun _ h9 => h9) rfl (by decide +kernel) rfl rfl (Nat.le_of_ble_eq_true rfl) d_M_run_93 (fun H locs hP hD hS => ?_)
                have hP : va_P (dC, dI) agCl [(b, .inr (2, [.int (nI 0), .int (nI G), .int (nI R), .long (lN (e9 + 1)), .long (lN (nw + n)), .int (nI ms1.length), .ref qn, .ref qk, .int (nI mo1), .long (lN la1), .long (lN go1), .long (lN sp)])), (qn, .inl (cI, 1200, .inl f1)), (qk, .inl (cI, 1200, .inl g1))] H := hP
                have hD : va_D A [(b, .inr (2, [.int (nI 0), .int (nI G), .int (nI R), .long (lN (e9 + 1)), .long (lN (nw + n)), .int (nI ms1.length), .ref qn, .ref qk, .int (nI mo1), .long (lN la1), .long (lN go1), .long (lN sp)])), (qn, .inl (cI, 1200, .inl f1)), (qk, .inl (cI, 1200, .inl g1))] := hD
                refine lv_aload_n hx hb d_M_run_96 rfl (lv_at hl 1 rfl) ?_
                refine va_get (D := (dC, dI)) (ci := 2) (v := .long (lN (e9 + 1))) (C := RX2) (T := TX2) (N := 12) hx hb ht inA2 hown hK hP 0 rfl rfl 3 (by decide) (ht _ mw_f_M_58) (fun _ h9 => h9) rfl d_M_run_97 ?_
                refine lv_aload_n hx hb d_M_run_100 rfl (lv_at hl 1 rfl) ?_
                refine va_get (D := (dC, dI)) (ci := 2) (v := .int (nI G)) (C := RX2) (T := TX2) (N := 12) hx hb ht inA2 hown hK hP 0 rfl rfl 1 (by decide) (ht _ mw_f_M_23) (fun _ h9 => h9) rfl d_M_run_101 ?_
                refine lv_i2l (v := lN G) hx hb d_M_run_104 (nI_l (by omega)) ?_
                refine lv_lrem hx hb d_M_run_105 (fun z => absurd ((pk_lEQ (a := G) (b := 0) (by omega) (by omega)).mp z) (by omega)) ?_
                refine ag_topl (lN ((e9 + 1) % G)) (pk_lRem (by omega) (by omega) (by omega)) ?_
                refine ag_lconst hx hb 0 d_M_run_106 (by decide) ?_
                refine ag_lc_eq (tgt := 114) hx hb d_M_run_107 d_M_run_108 (by decide) (fun c107 => ?_) (fun c107 => ?_)
                · have h_n := trivial
                  have hm0 : (e9 + 1) % G = 0 := (pk_lEQ (a := (e9 + 1) % G) (b := 0) (by omega) (by omega)).mp c107
                  have hd1 : (e9 + 1) / G = e9 / G + 1 := Nat.succ_div_of_mod_eq_zero hm0
                  refine lv_aload_n hx hb d_M_run_114 rfl (lv_at hl 1 rfl) ?_
                  refine lv_aload_n hx hb d_M_run_115 rfl (lv_at hl 1 rfl) ?_
                  refine va_get (D := (dC, dI)) (ci := 2) (v := .long (lN (e9 + 1))) (C := RX2) (T := TX2) (N := 12) hx hb ht inA2 hown hK hP 0 rfl rfl 3 (by decide) (ht _ mw_f_M_58) (fun _ h9 => h9) rfl d_M_run_116 ?_
                  refine lv_aload_n hx hb d_M_run_119 rfl (lv_at hl 1 rfl) ?_
                  refine va_get (D := (dC, dI)) (ci := 2) (v := .int (nI G)) (C := RX2) (T := TX2) (N := 12) hx hb ht inA2 hown hK hP 0 rfl rfl 1 (by decide) (ht _ mw_f_M_23) (fun _ h9 => h9) rfl d_M_run_120 ?_
                  refine lv_i2l (v := lN G) hx hb d_M_run_123 (nI_l (by omega)) ?_
                  refine lv_ldiv hx hb d_M_run_124 (fun z => absurd ((pk_lEQ (a := G) (b := 0) (by omega) (by omega)).mp z) (by omega)) ?_
                  refine ag_topl (lN (e9 / G + 1)) (by rw [pk_lDiv (by omega) (by omega) (by omega), hd1]) ?_
                  refine lv_l2i (v := nI (e9 / G + 1)) hx hb d_M_run_125 (lN_i _) ?_
                  have hPc := hP.sub (ws' := [(b, .inr (2, [.int (nI 0), .int (nI G), .int (nI R), .long (lN (e9 + 1)), .long (lN (nw + n)), .int (nI ms1.length), .ref qn, .ref qk, .int (nI mo1), .long (lN la1), .long (lN go1), .long (lN sp)])), (qn, .inl (cI, 1200, .inl f1)), (qk, .inl (cI, 1200, .inl g1))]) [0, 1, 2] rfl
                  have hDc := hD.sub (ws' := [(b, .inr (2, [.int (nI 0), .int (nI G), .int (nI R), .long (lN (e9 + 1)), .long (lN (nw + n)), .int (nI ms1.length), .ref qn, .ref qk, .int (nI mo1), .long (lN la1), .long (lN go1), .long (lN sp)])), (qn, .inl (cI, 1200, .inl f1)), (qk, .inl (cI, 1200, .inl g1))]) [0, 1, 2] (by decide) rfl
                  refine ag_clv (wc := [(b, .inr (2, [.int (nI 0), .int (nI G), .int (nI R), .long (lN (e9 + 1)), .long (lN (nw + n)), .int (nI ms1.length), .ref qn, .ref qk, .int (nI mo1), .long (lN la1), .long (lN go1), .long (lN sp)])), (qn, .inl (cI, 1200, .inl f1)), (qk, .inl (cI, 1200, .inl g1))]) (wr := []) (Wf := fun u : (Nat → Int32) × (Nat → Int32) => [(b, .inr (2, [.int (nI 0), .int (nI G), .int (nI R), .long (lN (e9 + 1)), .long (lN (nw + n)), .int (nI ((ag_put R (e9 / G + 1) ms1).length)), .ref qn, .ref qk, .int (nI (max mo1 (ag_put R (e9 / G + 1) ms1).length)), .long (lN (la1 + 1)), .long (lN (go1 + (ms1.length + 1 - (ag_put R (e9 / G + 1) ms1).length))), .long (lN sp)])), (qn, .inl (cI, 1200, .inl u.1)), (qk, .inl (cI, 1200, .inl u.2))]) hP hD hS hA [0, 1, 2] [] rfl rfl (by decide) (by decide) (va_runV (C := "AgedMarksModel") (As := [.int (nI (e9 / G + 1))]) (rest := []) ⟨hx, hb, hml, hown, hts⟩ (c_M_lay l dC dI H.size b qn qk cI 0 G R (e9 + 1) (nw + n) mo1 la1 go1 sp f1 g1 ms1 (e9 / G) hR2 hR16 hmo1 (by omega) hin1 hrep1) (ag_cwV 1 hts mw_m_M_61 mw_instanceMethod_M_lay mw_sel_M_lay mw_ini_M mw_code_M_lay rfl rfl (by decide +kernel) ⟨Nat.le_of_ble_eq_true rfl, Nat.le_of_ble_eq_true rfl⟩) ⟨ag_blind, va_recv hK hPc (ci := 2) (q0 := 0) rfl rfl, ag_pre hPc hK hDc⟩ rfl rfl hl.1 rfl (lv_room (Nat.le_of_ble_eq_true rfl)) d_M_run_126 ⟨Nat.le_of_ble_eq_true rfl, Nat.le_of_ble_eq_true rfl⟩) (fun u H locs hw hP hD hS => ?_)
                  obtain ⟨f2, g2⟩ := u
                  try dsimp only at hw
                  have hP : va_P (dC, dI) agCl [(b, .inr (2, [.int (nI 0), .int (nI G), .int (nI R), .long (lN (e9 + 1)), .long (lN (nw + n)), .int (nI ((ag_put R (e9 / G + 1) ms1).length)), .ref qn, .ref qk, .int (nI (max mo1 (ag_put R (e9 / G + 1) ms1).length)), .long (lN (la1 + 1)), .long (lN (go1 + (ms1.length + 1 - (ag_put R (e9 / G + 1) ms1).length))), .long (lN sp)])), (qn, .inl (cI, 1200, .inl f2)), (qk, .inl (cI, 1200, .inl g2))] H := hP
                  have hD : va_D A [(b, .inr (2, [.int (nI 0), .int (nI G), .int (nI R), .long (lN (e9 + 1)), .long (lN (nw + n)), .int (nI ((ag_put R (e9 / G + 1) ms1).length)), .ref qn, .ref qk, .int (nI (max mo1 (ag_put R (e9 / G + 1) ms1).length)), .long (lN (la1 + 1)), .long (lN (go1 + (ms1.length + 1 - (ag_put R (e9 / G + 1) ms1).length))), .long (lN sp)])), (qn, .inl (cI, 1200, .inl f2)), (qk, .inl (cI, 1200, .inl g2))] := hD
                  have hin2 := ag_in_put hR2 hR16 (by omega) hin1
                  have hlen2 : (ag_put R (e9 / G + 1) ms1).length ≤ 300 := ag_il hR2 hR16 (by omega) hin2
                  have hcnt : (e9 + 1) / G - en / G = e9 / G - en / G + 1 := by omega
                  refine lv_iinc (v := nI (e9 / G - en / G + 1)) (lv' := [(2, .int (nI (e9 / G - en / G + 1))), (0, .ref b), (1, .int (nI n))]) hx hb d_M_run_129 hl (k := 0) rfl (nI_1 _) (by decide) rfl (fun ls hl => ?_)
                  refine lv_goto (tgt := 74) hx hb d_M_run_132 (by decide) ?_
                  refine ih (e9 + 1) (by omega) (Or.inr (by omega)) (by omega) _ _ _ _ ?_ (by rw [hd1]; exact hin2) (Nat.max_le.mpr ⟨hmo1, hlen2⟩) f2 g2 hw H locs hP hD hS ls (by rw [hcnt]; exact hl)
                  rw [hcnt]
                  show ag_step R (en / G + (e9 / G - en / G) + 1) (ag_grow R (en / G) (e9 / G - en / G) (ms, mo, la, go)) = _
                  rw [hU, show en / G + (e9 / G - en / G) = e9 / G by omega]
                  rfl
                · have h_n := trivial
                  have hm0 : (e9 + 1) % G ≠ 0 := fun z => c107 (by rw [z])
                  have hd1 : (e9 + 1) / G = e9 / G := Nat.succ_div_of_mod_ne_zero hm0
                  refine lv_goto (tgt := 74) hx hb d_M_run_111 (by decide) ?_
                  exact ih (e9 + 1) (by omega) (Or.inr (by omega)) (by omega) ms1 mo1 la1 go1 (by rw [hd1]; exact hU) (by rw [hd1]; exact hin1) hmo1 f1 g1 hrep1 H locs hP hD hS ls (by rw [hd1]; exact hl)
          exact loop (nw + n + 1) en (Nat.le_refl _) (Or.inl rfl) (by omega) ms mo la go (by rw [Nat.sub_self]; rfl) hin hmo f g hrep H locs hP hD hS ls (by rw [Nat.sub_self]; exact hl)
        · have h_n := trivial
          exact absurd (by decide) c56
      · have h_n := trivial
        exact absurd ((pk_lLE (a := nw + n) (b := 1000000 * G) (by omega) (by omega)).mpr hle) c44
  · have h_n := trivial
    exact absurd c9 (by omega)
