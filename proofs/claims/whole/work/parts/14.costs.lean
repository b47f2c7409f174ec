set_option maxHeartbeats 4000000 in
set_option maxRecDepth 100000 in
/-- costOf(x): what going to x costs -/
theorem c_A_costOf (l : Launch) (dC : Nat → ClassId) (dI : Nat → Nat → Nat) (sz : Nat) (a qm qs qt qw : Nat) (cI cJ : ClassId) (G R nw en mo la go sp : Nat) (f g : Nat → Int32) (w : Nat → Int64) (ms : ag_M) (x : Nat) (hG2 : G ≤ 1000) (hx1 : x ≤ 1000000000) (hbd : ag_bd ms) (h0 : 0 < ms.length) (h00 : (ms[0]).1 = 0) (hrep : ag_rep ms f g w) : Met l y_A_costOf (Cond.code y_A_costOf b_A_costOf 4 (some .long) :: agW) ({ frames := 1, cells := 0, slots := 0, locals := 24 }) (va_Pc [.ref a, .long (lN x)] (ag_at (dC, dI) agCl [(cI, .int), (cJ, .long)] sz [(a, .inr (1, [.int (nI G), .int (nI R), .ref qm, .ref qs, .ref qt, .int (nI ms.length), .long (lN nw), .long (lN en), .int (nI mo), .long (lN la), .long (lN go), .long (lN sp)])), (qm, .inl (cI, 320, .inl f)), (qs, .inl (cI, 320, .inl g)), (qt, .inr (0, [.ref qw])), (qw, .inl (cJ, 5, .inr (.inl w)))])) (va_Ql (fun (r : Int64) (_ : Unit) => r = lN (ag_cost G ms x)) (ag_to (dC, dI) agCl [(cI, .int), (cJ, .long)] (va_A [(a, .inr (1, [.int (nI G), .int (nI R), .ref qm, .ref qs, .ref qt, .int (nI ms.length), .long (lN nw), .long (lN en), .int (nI mo), .long (lN la), .long (lN go), .long (lN sp)])), (qm, .inl (cI, 320, .inl f)), (qs, .inl (cI, 320, .inl g)), (qt, .inr (0, [.ref qw])), (qw, .inl (cJ, 5, .inr (.inl w)))] sz) (fun _ : Unit => [(a, .inr (1, [.int (nI G), .int (nI R), .ref qm, .ref qs, .ref qt, .int (nI ms.length), .long (lN nw), .long (lN en), .int (nI mo), .long (lN la), .long (lN go), .long (lN sp)])), (qm, .inl (cI, 320, .inl f)), (qs, .inl (cI, 320, .inl g)), (qt, .inr (0, [.ref qw])), (qw, .inl (cJ, 5, .inr (.inl w)))])) (va_A [(a, .inr (1, [.int (nI G), .int (nI R), .ref qm, .ref qs, .ref qt, .int (nI ms.length), .long (lN nw), .long (lN en), .int (nI mo), .long (lN la), .long (lN go), .long (lN sp)])), (qm, .inl (cI, 320, .inl f)), (qs, .inl (cI, 320, .inl g)), (qt, .inr (0, [.ref qw])), (qw, .inl (cJ, 5, .inr (.inl w)))] sz)) 0 0 (va_A [(a, .inr (1, [.int (nI G), .int (nI R), .ref qm, .ref qs, .ref qt, .int (nI ms.length), .long (lN nw), .long (lN en), .int (nI mo), .long (lN la), .long (lN go), .long (lN sp)])), (qm, .inl (cI, 320, .inl f)), (qs, .inl (cI, 320, .inl g)), (qt, .inr (0, [.ref qw])), (qw, .inl (cJ, 5, .inr (.inl w)))] sz) := by
  refine ag_ofW (Qf := fun A => va_Ql (fun (r : Int64) (_ : Unit) => r = lN (ag_cost G ms x)) (ag_to (dC, dI) agCl [(cI, .int), (cJ, .long)] A (fun _ : Unit => [(a, .inr (1, [.int (nI G), .int (nI R), .ref qm, .ref qs, .ref qt, .int (nI ms.length), .long (lN nw), .long (lN en), .int (nI mo), .long (lN la), .long (lN go), .long (lN sp)])), (qm, .inl (cI, 320, .inl f)), (qs, .inl (cI, 320, .inl g)), (qt, .inr (0, [.ref qw])), (qw, .inl (cJ, 5, .inr (.inl w)))])) A) (cc := b_A_costOf) (maxL := 4) (ret := (some .long)) (lv := [(0, .ref a), (1, .long (lN x))]) (by decide) rfl (Nat.le_of_ble_eq_true rfl) rfl (fun p e s m below meth c A ls hx hb hr hts hown hlocks hml hnm hA hS hP hK hD hl hsz => ?_)
  have hown : s.vm.findClass "AgedMarks" = some m.cls := hown
  have ht : ∀ w ∈ agW, w.before [.ref a, .long (lN x)].toArray s = true := fun w h => hts w (List.mem_cons_of_mem _ h)
  have hlen := hbd.1
  have hmul : ∀ j (hj : j < ms.length), (ms[j]).1 * G ≤ 1000000000 := fun j hj => Nat.le_trans (Nat.mul_le_mul (hbd.2 _ (List.getElem_mem hj)).1 hG2) (by decide)
  refine lv_aload_n hx hb d_A_costOf_0 rfl (lv_at hl 0 rfl) ?_
  refine va_get (D := (dC, dI)) (ci := 1) (v := .int (nI ms.length)) (C := RX1) (T := TX1) (N := 12) hx hb ht inA1 hown hK hP 0 rfl rfl 5 (by decide) (ht _ mw_f_A_43) (fun _ h9 => h9) rfl d_A_costOf_1 ?_
  refine ag_iconst hx hb 1 d_A_costOf_4 (by decide) ?_
  refine lv_isub hx hb d_A_costOf_5 ?_
  refine ag_topi (nI (ms.length - 1)) (pk_sub (by omega)) ?_
  refine lv_istore_n (lv' := [(3, .int (nI (ms.length - 1))), (0, .ref a), (1, .long (lN x))]) hx hb d_A_costOf_6 rfl hl (by decide) rfl (fun ls hl => ?_)
  have loop : ∀ (k : Nat) (hk : k < ms.length), (∀ j (hj : j < ms.length), k < j → x < (ms[j]).1 * G) → ∀ (H : Heap) (locs : List Loc), va_P (dC, dI) agCl [(a, .inr (1, [.int (nI G), .int (nI R), .ref qm, .ref qs, .ref qt, .int (nI ms.length), .long (lN nw), .long (lN en), .int (nI mo), .long (lN la), .long (lN go), .long (lN sp)])), (qm, .inl (cI, 320, .inl f)), (qs, .inl (cI, 320, .inl g)), (qt, .inr (0, [.ref qw])), (qw, .inl (cJ, 5, .inr (.inl w)))] H → va_D A [(a, .inr (1, [.int (nI G), .int (nI R), .ref qm, .ref qs, .ref qt, .int (nI ms.length), .long (lN nw), .long (lN en), .int (nI mo), .long (lN la), .long (lN go), .long (lN sp)])), (qm, .inl (cI, 320, .inl f)), (qs, .inl (cI, 320, .inl g)), (qt, .inr (0, [.ref qw])), (qw, .inl (cJ, 5, .inr (.inl w)))] → va_S A s.heap H locs → ∀ ls : Array Slot, lv_has ls 4 [(3, .int (nI k)), (0, .ref a), (1, .long (lN x))] → W p l e { frames := 1, cells := 0, slots := 0, locals := 24 } s m [.ref a, .long (lN x)].toArray below meth c H locs 0 0 (MQ below (va_Ql (fun (r : Int64) (_ : Unit) => r = lN (ag_cost G ms x)) (ag_to (dC, dI) agCl [(cI, .int), (cJ, .long)] A (fun _ : Unit => [(a, .inr (1, [.int (nI G), .int (nI R), .ref qm, .ref qs, .ref qt, .int (nI ms.length), .long (lN nw), .long (lN en), .int (nI mo), .long (lN la), .long (lN go), .long (lN sp)])), (qm, .inl (cI, 320, .inl f)), (qs, .inl (cI, 320, .inl g)), (qt, .inr (0, [.ref qw])), (qw, .inl (cJ, 5, .inr (.inl w)))])) A) [.ref a, .long (lN x)].toArray s 0 0 A) (F0 m 7 ls []) := by
    intro k
    induction k with
    | zero =>
      intro hk hgt H locs hP hD hS ls hl
      refine lv_iload_n hx hb d_A_costOf_7 rfl (lv_at hl 0 rfl) ?_
      refine ag_if_le (tgt := 35) hx hb d_A_costOf_8 (by decide) (by omega) (fun c8 => ?_) (fun c8 => ?_)
      · have h_n := trivial
        refine lv_lload_n hx hb d_A_costOf_35 rfl (lv_at hl 2 rfl) ?_
        exact ag_retl hx hb hr hlocks () (by rw [ag_cost_eq (v := x) ⟨0, h0, by rw [h00]; omega, hgt, by rw [h00]; omega⟩]) hP hK hD hS d_A_costOf_36
      · have h_n := trivial
        exact absurd c8 (by omega)
    | succ i ih =>
      intro hk hgt H locs hP hD hS ls hl
      have hm := hmul (i + 1) hk
      have hbb := (hbd.2 _ (List.getElem_mem hk)).1
      refine lv_iload_n hx hb d_A_costOf_7 rfl (lv_at hl 0 rfl) ?_
      refine ag_if_le (tgt := 35) hx hb d_A_costOf_8 (by decide) (by omega) (fun c8 => ?_) (fun c8 => ?_)
      · have h_n := trivial
        exact absurd c8 (by omega)
      · have h_n := trivial
        refine lv_aload_n hx hb d_A_costOf_11 rfl (lv_at hl 1 rfl) ?_
        refine lv_iload_n hx hb d_A_costOf_12 rfl (lv_at hl 0 rfl) ?_
        have hPc := hP.sub (ws' := [(a, .inr (1, [.int (nI G), .int (nI R), .ref qm, .ref qs, .ref qt, .int (nI ms.length), .long (lN nw), .long (lN en), .int (nI mo), .long (lN la), .long (lN go), .long (lN sp)])), (qm, .inl (cI, 320, .inl f)), (qs, .inl (cI, 320, .inl g)), (qt, .inr (0, [.ref qw])), (qw, .inl (cJ, 5, .inr (.inl w)))]) [0, 1, 2, 3, 4] rfl
        have hDc := hD.sub (ws' := [(a, .inr (1, [.int (nI G), .int (nI R), .ref qm, .ref qs, .ref qt, .int (nI ms.length), .long (lN nw), .long (lN en), .int (nI mo), .long (lN la), .long (lN go), .long (lN sp)])), (qm, .inl (cI, 320, .inl f)), (qs, .inl (cI, 320, .inl g)), (qt, .inr (0, [.ref qw])), (qw, .inl (cJ, 5, .inr (.inl w)))]) [0, 1, 2, 3, 4] (by decide) rfl
        refine ag_cll (wc := [(a, .inr (1, [.int (nI G), .int (nI R), .ref qm, .ref qs, .ref qt, .int (nI ms.length), .long (lN nw), .long (lN en), .int (nI mo), .long (lN la), .long (lN go), .long (lN sp)])), (qm, .inl (cI, 320, .inl f)), (qs, .inl (cI, 320, .inl g)), (qt, .inr (0, [.ref qw])), (qw, .inl (cJ, 5, .inr (.inl w)))]) (wr := []) (Wf := fun _ : Unit => [(a, .inr (1, [.int (nI G), .int (nI R), .ref qm, .ref qs, .ref qt, .int (nI ms.length), .long (lN nw), .long (lN en), .int (nI mo), .long (lN la), .long (lN go), .long (lN sp)])), (qm, .inl (cI, 320, .inl f)), (qs, .inl (cI, 320, .inl g)), (qt, .inr (0, [.ref qw])), (qw, .inl (cJ, 5, .inr (.inl w)))]) hP hD hS hA [0, 1, 2, 3, 4] [] rfl rfl (by decide) (by decide) (va_runV (C := "AgedMarks") (As := [.int (nI (i + 1))]) (rest := []) ⟨hx, hb, hml, hown, hts⟩ (c_A_countAt l dC dI H.size a qm qs qt qw cI cJ G R ms.length nw en mo la go sp f g w (i + 1) (ms[i + 1]).1 (by omega) (by omega) hG2 (hrep.1 (i + 1) hk).1) (ag_cwV 1 hts mw_m_A_82 mw_instanceMethod_A_countAt mw_sel_A_countAt mw_ini_A mw_code_A_countAt rfl rfl (by decide +kernel) ⟨Nat.le_of_ble_eq_true rfl, Nat.le_of_ble_eq_true rfl⟩) ⟨ag_blind, va_recv hK hPc (ci := 1) (q0 := 0) rfl rfl, ag_pre hPc hK hDc⟩ rfl rfl hl.1 rfl (lv_room (Nat.le_of_ble_eq_true rfl)) d_A_costOf_13 ⟨Nat.le_of_ble_eq_true rfl, Nat.le_of_ble_eq_true rfl⟩) (fun r1 u H locs hw hP hD hS => ?_)
        try dsimp only at hw
        subst hw
        have hP : va_P (dC, dI) agCl [(a, .inr (1, [.int (nI G), .int (nI R), .ref qm, .ref qs, .ref qt, .int (nI ms.length), .long (lN nw), .long (lN en), .int (nI mo), .long (lN la), .long (lN go), .long (lN sp)])), (qm, .inl (cI, 320, .inl f)), (qs, .inl (cI, 320, .inl g)), (qt, .inr (0, [.ref qw])), (qw, .inl (cJ, 5, .inr (.inl w)))] H := hP
        have hD : va_D A [(a, .inr (1, [.int (nI G), .int (nI R), .ref qm, .ref qs, .ref qt, .int (nI ms.length), .long (lN nw), .long (lN en), .int (nI mo), .long (lN la), .long (lN go), .long (lN sp)])), (qm, .inl (cI, 320, .inl f)), (qs, .inl (cI, 320, .inl g)), (qt, .inr (0, [.ref qw])), (qw, .inl (cJ, 5, .inr (.inl w)))] := hD
        refine lv_lload_n hx hb d_A_costOf_16 rfl (lv_at hl 2 rfl) ?_
        refine ag_lc_gt (tgt := 29) hx hb d_A_costOf_17 d_A_costOf_18 (by decide) (fun c17 => ?_) (fun c17 => ?_)
        · have h_n := trivial
          refine lv_iinc (v := nI i) (lv' := [(3, .int (nI i)), (0, .ref a), (1, .long (lN x))]) hx hb d_A_costOf_29 hl (k := 0) rfl (pk_m1 i) (by decide) rfl (fun ls hl => ?_)
          refine lv_goto (tgt := 7) hx hb d_A_costOf_32 (by decide) ?_
          have hgt1 := (pk_lLT (by omega) (by omega)).mp c17
          refine ih (by omega) (fun j hj h => ?_) H locs hP hD hS ls hl
          rcases Nat.lt_or_ge (i + 1) j with q | q
          · exact hgt j hj q
          · have e9 : j = i + 1 := by omega
            subst e9
            exact hgt1
        · have h_n := trivial
          have hle1 : (ms[i + 1]).1 * G ≤ x := by have h9 := mt (pk_lLT (a := x) (b := (ms[i + 1]).1 * G) (by omega) (by omega)).mpr c17; omega
          refine lv_lload_n hx hb d_A_costOf_21 rfl (lv_at hl 2 rfl) ?_
          refine lv_aload_n hx hb d_A_costOf_22 rfl (lv_at hl 1 rfl) ?_
          refine lv_iload_n hx hb d_A_costOf_23 rfl (lv_at hl 0 rfl) ?_
          have hPc := hP.sub (ws' := [(a, .inr (1, [.int (nI G), .int (nI R), .ref qm, .ref qs, .ref qt, .int (nI ms.length), .long (lN nw), .long (lN en), .int (nI mo), .long (lN la), .long (lN go), .long (lN sp)])), (qm, .inl (cI, 320, .inl f)), (qs, .inl (cI, 320, .inl g)), (qt, .inr (0, [.ref qw])), (qw, .inl (cJ, 5, .inr (.inl w)))]) [0, 1, 2, 3, 4] rfl
          have hDc := hD.sub (ws' := [(a, .inr (1, [.int (nI G), .int (nI R), .ref qm, .ref qs, .ref qt, .int (nI ms.length), .long (lN nw), .long (lN en), .int (nI mo), .long (lN la), .long (lN go), .long (lN sp)])), (qm, .inl (cI, 320, .inl f)), (qs, .inl (cI, 320, .inl g)), (qt, .inr (0, [.ref qw])), (qw, .inl (cJ, 5, .inr (.inl w)))]) [0, 1, 2, 3, 4] (by decide) rfl
          refine ag_cll (wc := [(a, .inr (1, [.int (nI G), .int (nI R), .ref qm, .ref qs, .ref qt, .int (nI ms.length), .long (lN nw), .long (lN en), .int (nI mo), .long (lN la), .long (lN go), .long (lN sp)])), (qm, .inl (cI, 320, .inl f)), (qs, .inl (cI, 320, .inl g)), (qt, .inr (0, [.ref qw])), (qw, .inl (cJ, 5, .inr (.inl w)))]) (wr := []) (Wf := fun _ : Unit => [(a, .inr (1, [.int (nI G), .int (nI R), .ref qm, .ref qs, .ref qt, .int (nI ms.length), .long (lN nw), .long (lN en), .int (nI mo), .long (lN la), .long (lN go), .long (lN sp)])), (qm, .inl (cI, 320, .inl f)), (qs, .inl (cI, 320, .inl g)), (qt, .inr (0, [.ref qw])), (qw, .inl (cJ, 5, .inr (.inl w)))]) hP hD hS hA [0, 1, 2, 3, 4] [] rfl rfl (by decide) (by decide) (va_runV (C := "AgedMarks") (As := [.int (nI (i + 1))]) (rest := [.long (lN x)]) ⟨hx, hb, hml, hown, hts⟩ (c_A_countAt l dC dI H.size a qm qs qt qw cI cJ G R ms.length nw en mo la go sp f g w (i + 1) (ms[i + 1]).1 (by omega) (by omega) hG2 (hrep.1 (i + 1) hk).1) (ag_cwV 1 hts mw_m_A_82 mw_instanceMethod_A_countAt mw_sel_A_countAt mw_ini_A mw_code_A_countAt rfl rfl (by decide +kernel) ⟨Nat.le_of_ble_eq_true rfl, Nat.le_of_ble_eq_true rfl⟩) ⟨ag_blind, va_recv hK hPc (ci := 1) (q0 := 0) rfl rfl, ag_pre hPc hK hDc⟩ rfl rfl hl.1 rfl (lv_room (Nat.le_of_ble_eq_true rfl)) d_A_costOf_24 ⟨Nat.le_of_ble_eq_true rfl, Nat.le_of_ble_eq_true rfl⟩) (fun r2 u H locs hw hP hD hS => ?_)
          try dsimp only at hw
          subst hw
          have hP : va_P (dC, dI) agCl [(a, .inr (1, [.int (nI G), .int (nI R), .ref qm, .ref qs, .ref qt, .int (nI ms.length), .long (lN nw), .long (lN en), .int (nI mo), .long (lN la), .long (lN go), .long (lN sp)])), (qm, .inl (cI, 320, .inl f)), (qs, .inl (cI, 320, .inl g)), (qt, .inr (0, [.ref qw])), (qw, .inl (cJ, 5, .inr (.inl w)))] H := hP
          have hD : va_D A [(a, .inr (1, [.int (nI G), .int (nI R), .ref qm, .ref qs, .ref qt, .int (nI ms.length), .long (lN nw), .long (lN en), .int (nI mo), .long (lN la), .long (lN go), .long (lN sp)])), (qm, .inl (cI, 320, .inl f)), (qs, .inl (cI, 320, .inl g)), (qt, .inr (0, [.ref qw])), (qw, .inl (cJ, 5, .inr (.inl w)))] := hD
          refine lv_lsub hx hb d_A_costOf_27 ?_
          refine ag_topl (lN (x - ((ms[i + 1]).1 * G))) (lN_sub (by omega)) ?_
          exact ag_retl hx hb hr hlocks () (by rw [ag_cost_eq ⟨i + 1, hk, hle1, hgt, rfl⟩]) hP hK hD hS d_A_costOf_28
  exact loop (ms.length - 1) (by omega) (fun j hj h => by omega) s.heap [] hP hD hS ls hl

set_option maxHeartbeats 4000000 in
set_option maxRecDepth 100000 in
/-- moveTo(x): now is x, the cost is added -/
theorem c_A_moveTo (l : Launch) (dC : Nat → ClassId) (dI : Nat → Nat → Nat) (sz : Nat) (a qm qs qt qw : Nat) (cI cJ : ClassId) (G R nw en mo la go sp : Nat) (f g : Nat → Int32) (w : Nat → Int64) (ms : ag_M) (x : Nat) (hG2 : G ≤ 1000) (hx1 : x ≤ 1000000000) (hbd : ag_bd ms) (h0 : 0 < ms.length) (h00 : (ms[0]).1 = 0) (hrep : ag_rep ms f g w) : Met l y_A_moveTo (Cond.code y_A_moveTo b_A_moveTo 5 (some .long) :: agW) ({ frames := 2, cells := 0, slots := 0, locals := 50 }) (va_Pc [.ref a, .long (lN x)] (ag_at (dC, dI) agCl [(cI, .int), (cJ, .long)] sz [(a, .inr (1, [.int (nI G), .int (nI R), .ref qm, .ref qs, .ref qt, .int (nI ms.length), .long (lN nw), .long (lN en), .int (nI mo), .long (lN la), .long (lN go), .long (lN sp)])), (qm, .inl (cI, 320, .inl f)), (qs, .inl (cI, 320, .inl g)), (qt, .inr (0, [.ref qw])), (qw, .inl (cJ, 5, .inr (.inl w)))])) (va_Ql (fun (r : Int64) (_ : Unit) => r = lN (ag_cost G ms x)) (ag_to (dC, dI) agCl [(cI, .int), (cJ, .long)] (va_A [(a, .inr (1, [.int (nI G), .int (nI R), .ref qm, .ref qs, .ref qt, .int (nI ms.length), .long (lN nw), .long (lN en), .int (nI mo), .long (lN la), .long (lN go), .long (lN sp)])), (qm, .inl (cI, 320, .inl f)), (qs, .inl (cI, 320, .inl g)), (qt, .inr (0, [.ref qw])), (qw, .inl (cJ, 5, .inr (.inl w)))] sz) (fun _ : Unit => [(a, .inr (1, [.int (nI G), .int (nI R), .ref qm, .ref qs, .ref qt, .int (nI ms.length), .long (lN x), .long (lN en), .int (nI mo), .long (lN la), .long (lN go), .long (lN (sp + ag_cost G ms x))])), (qm, .inl (cI, 320, .inl f)), (qs, .inl (cI, 320, .inl g)), (qt, .inr (0, [.ref qw])), (qw, .inl (cJ, 5, .inr (.inl w)))])) (va_A [(a, .inr (1, [.int (nI G), .int (nI R), .ref qm, .ref qs, .ref qt, .int (nI ms.length), .long (lN nw), .long (lN en), .int (nI mo), .long (lN la), .long (lN go), .long (lN sp)])), (qm, .inl (cI, 320, .inl f)), (qs, .inl (cI, 320, .inl g)), (qt, .inr (0, [.ref qw])), (qw, .inl (cJ, 5, .inr (.inl w)))] sz)) 0 0 (va_A [(a, .inr (1, [.int (nI G), .int (nI R), .ref qm, .ref qs, .ref qt, .int (nI ms.length), .long (lN nw), .long (lN en), .int (nI mo), .long (lN la), .long (lN go), .long (lN sp)])), (qm, .inl (cI, 320, .inl f)), (qs, .inl (cI, 320, .inl g)), (qt, .inr (0, [.ref qw])), (qw, .inl (cJ, 5, .inr (.inl w)))] sz) := by
  refine ag_ofW (Qf := fun A => va_Ql (fun (r : Int64) (_ : Unit) => r = lN (ag_cost G ms x)) (ag_to (dC, dI) agCl [(cI, .int), (cJ, .long)] A (fun _ : Unit => [(a, .inr (1, [.int (nI G), .int (nI R), .ref qm, .ref qs, .ref qt, .int (nI ms.length), .long (lN x), .long (lN en), .int (nI mo), .long (lN la), .long (lN go), .long (lN (sp + ag_cost G ms x))])), (qm, .inl (cI, 320, .inl f)), (qs, .inl (cI, 320, .inl g)), (qt, .inr (0, [.ref qw])), (qw, .inl (cJ, 5, .inr (.inl w)))])) A) (cc := b_A_moveTo) (maxL := 5) (ret := (some .long)) (lv := [(0, .ref a), (1, .long (lN x))]) (by decide) rfl (Nat.le_of_ble_eq_true rfl) rfl (fun p e s m below meth c A ls hx hb hr hts hown hlocks hml hnm hA hS hP hK hD hl hsz => ?_)
  have hown : s.vm.findClass "AgedMarks" = some m.cls := hown
  have ht : ∀ w ∈ agW, w.before [.ref a, .long (lN x)].toArray s = true := fun w h => hts w (List.mem_cons_of_mem _ h)
  refine lv_aload_n hx hb d_A_moveTo_0 rfl (lv_at hl 0 rfl) ?_
  refine lv_lload_n hx hb d_A_moveTo_1 rfl (lv_at hl 1 rfl) ?_
  have hPc := hP.sub (ws' := [(a, .inr (1, [.int (nI G), .int (nI R), .ref qm, .ref qs, .ref qt, .int (nI ms.length), .long (lN nw), .long (lN en), .int (nI mo), .long (lN la), .long (lN go), .long (lN sp)])), (qm, .inl (cI, 320, .inl f)), (qs, .inl (cI, 320, .inl g)), (qt, .inr (0, [.ref qw])), (qw, .inl (cJ, 5, .inr (.inl w)))]) [0, 1, 2, 3, 4] rfl
  have hDc := hD.sub (ws' := [(a, .inr (1, [.int (nI G), .int (nI R), .ref qm, .ref qs, .ref qt, .int (nI ms.length), .long (lN nw), .long (lN en), .int (nI mo), .long (lN la), .long (lN go), .long (lN sp)])), (qm, .inl (cI, 320, .inl f)), (qs, .inl (cI, 320, .inl g)), (qt, .inr (0, [.ref qw])), (qw, .inl (cJ, 5, .inr (.inl w)))]) [0, 1, 2, 3, 4] (by decide) rfl
  refine ag_cll (wc := [(a, .inr (1, [.int (nI G), .int (nI R), .ref qm, .ref qs, .ref qt, .int (nI ms.length), .long (lN nw), .long (lN en), .int (nI mo), .long (lN la), .long (lN go), .long (lN sp)])), (qm, .inl (cI, 320, .inl f)), (qs, .inl (cI, 320, .inl g)), (qt, .inr (0, [.ref qw])), (qw, .inl (cJ, 5, .inr (.inl w)))]) (wr := []) (Wf := fun _ : Unit => [(a, .inr (1, [.int (nI G), .int (nI R), .ref qm, .ref qs, .ref qt, .int (nI ms.length), .long (lN nw), .long (lN en), .int (nI mo), .long (lN la), .long (lN go), .long (lN sp)])), (qm, .inl (cI, 320, .inl f)), (qs, .inl (cI, 320, .inl g)), (qt, .inr (0, [.ref qw])), (qw, .inl (cJ, 5, .inr (.inl w)))]) hP hD hS hA [0, 1, 2, 3, 4] [] rfl rfl (by decide) (by decide) (va_runV (C := "AgedMarks") (As := [.long (lN x)]) (rest := []) ⟨hx, hb, hml, hown, hts⟩ (c_A_costOf l dC dI s.heap.size a qm qs qt qw cI cJ G R nw en mo la go sp f g w ms x hG2 hx1 hbd h0 h00 hrep) (ag_cwV 1 hts mw_m_A_133 mw_instanceMethod_A_costOf mw_sel_A_costOf mw_ini_A mw_code_A_costOf rfl rfl (by decide +kernel) ⟨Nat.le_of_ble_eq_true rfl, Nat.le_of_ble_eq_true rfl⟩) ⟨ag_blind, va_recv hK hPc (ci := 1) (q0 := 0) rfl rfl, ag_pre hPc hK hDc⟩ rfl rfl hl.1 rfl (lv_room (Nat.le_of_ble_eq_true rfl)) d_A_moveTo_2 ⟨Nat.le_of_ble_eq_true rfl, Nat.le_of_ble_eq_true rfl⟩) (fun r1 u H locs hw hP hD hS => ?_)
  try dsimp only at hw
  subst hw
  have hP : va_P (dC, dI) agCl [(a, .inr (1, [.int (nI G), .int (nI R), .ref qm, .ref qs, .ref qt, .int (nI ms.length), .long (lN nw), .long (lN en), .int (nI mo), .long (lN la), .long (lN go), .long (lN sp)])), (qm, .inl (cI, 320, .inl f)), (qs, .inl (cI, 320, .inl g)), (qt, .inr (0, [.ref qw])), (qw, .inl (cJ, 5, .inr (.inl w)))] H := hP
  have hD : va_D A [(a, .inr (1, [.int (nI G), .int (nI R), .ref qm, .ref qs, .ref qt, .int (nI ms.length), .long (lN nw), .long (lN en), .int (nI mo), .long (lN la), .long (lN go), .long (lN sp)])), (qm, .inl (cI, 320, .inl f)), (qs, .inl (cI, 320, .inl g)), (qt, .inr (0, [.ref qw])), (qw, .inl (cJ, 5, .inr (.inl w)))] := hD
  refine lv_lstore_n (lv' := [(3, .long (lN (ag_cost G ms x))), (0, .ref a), (1, .long (lN x))]) hx hb d_A_moveTo_5 rfl hl (by decide) rfl (fun ls hl => ?_)
  refine lv_aload_n hx hb d_A_moveTo_6 rfl (lv_at hl 1 rfl) ?_
  refine lv_lload_n hx hb d_A_moveTo_7 rfl (lv_at hl 2 rfl) ?_
  refine va_put (D := (dC, dI)) (ci := 1) (v := .long (lN x)) (ty := .long) (C := RX1) (T := TX1) (N := 12) hx hb ht inA1 tyX1 tyX1_ok nmX1 hown hK hP hD hS 0 rfl rfl 6 (by decide) (ht _ mw_f_A_56) (fun _ h9 => h9) rfl (by decide +kernel) rfl rfl (Nat.le_of_ble_eq_true rfl) d_A_moveTo_8 (fun H locs hP hD hS => ?_)
  have hP : va_P (dC, dI) agCl [(a, .inr (1, [.int (nI G), .int (nI R), .ref qm, .ref qs, .ref qt, .int (nI ms.length), .long (lN x), .long (lN en), .int (nI mo), .long (lN la), .long (lN go), .long (lN sp)])), (qm, .inl (cI, 320, .inl f)), (qs, .inl (cI, 320, .inl g)), (qt, .inr (0, [.ref qw])), (qw, .inl (cJ, 5, .inr (.inl w)))] H := hP
  have hD : va_D A [(a, .inr (1, [.int (nI G), .int (nI R), .ref qm, .ref qs, .ref qt, .int (nI ms.length), .long (lN x), .long (lN en), .int (nI mo), .long (lN la), .long (lN go), .long (lN sp)])), (qm, .inl (cI, 320, .inl f)), (qs, .inl (cI, 320, .inl g)), (qt, .inr (0, [.ref qw])), (qw, .inl (cJ, 5, .inr (.inl w)))] := hD
  refine lv_aload_n hx hb d_A_moveTo_11 rfl (lv_at hl 1 rfl) ?_
  refine lv_dup hx hb d_A_moveTo_12 rfl ?_
  refine va_get (D := (dC, dI)) (ci := 1) (v := .long (lN sp)) (C := RX1) (T := TX1) (N := 12) hx hb ht inA1 hown hK hP 0 rfl rfl 11 (by decide) (ht _ mw_f_A_106) (fun _ h9 => h9) rfl d_A_moveTo_13 ?_
  refine lv_lload_n hx hb d_A_moveTo_16 rfl (lv_at hl 0 rfl) ?_
  refine lv_ladd hx hb d_A_moveTo_17 ?_
  refine ag_topl (lN (sp + (ag_cost G ms x))) (lN_add _ _) ?_
  refine va_put (D := (dC, dI)) (ci := 1) (v := .long (lN (sp + (ag_cost G ms x)))) (ty := .long) (C := RX1) (T := TX1) (N := 12) hx hb ht inA1 tyX1 tyX1_ok nmX1 hown hK hP hD hS 0 rfl rfl 11 (by decide) (ht _ mw_f_A_106) (fun _ h9 => h9) rfl (by decide +kernel) rfl rfl (Nat.le_of_ble_eq_true rfl) d_A_moveTo_18 (fun H locs hP hD hS => ?_)
  have hP : va_P (dC, dI) agCl [(a, .inr (1, [.int (nI G), .int (nI R), .ref qm, .ref qs, .ref qt, .int (nI ms.length), .long (lN x), .long (lN en), .int (nI mo), .long (lN la), .long (lN go), .long (lN (sp + (ag_cost G ms x)))])), (qm, .inl (cI, 320, .inl f)), (qs, .inl (cI, 320, .inl g)), (qt, .inr (0, [.ref qw])), (qw, .inl (cJ, 5, .inr (.inl w)))] H := hP
  have hD : va_D A [(a, .inr (1, [.int (nI G), .int (nI R), .ref qm, .ref qs, .ref qt, .int (nI ms.length), .long (lN x), .long (lN en), .int (nI mo), .long (lN la), .long (lN go), .long (lN (sp + (ag_cost G ms x)))])), (qm, .inl (cI, 320, .inl f)), (qs, .inl (cI, 320, .inl g)), (qt, .inr (0, [.ref qw])), (qw, .inl (cJ, 5, .inr (.inl w)))] := hD
  refine lv_lload_n hx hb d_A_moveTo_21 rfl (lv_at hl 0 rfl) ?_
  exact ag_retl hx hb hr hlocks () rfl hP hK hD hS d_A_moveTo_22

set_option maxHeartbeats 4000000 in
set_option maxRecDepth 100000 in
/-- holder(x) -/
theorem c_A_holder (l : Launch) (dC : Nat → ClassId) (dI : Nat → Nat → Nat) (sz : Nat) (a qm qs qt qw : Nat) (cI cJ : ClassId) (G R nw en mo la go sp : Nat) (f g : Nat → Int32) (w : Nat → Int64) (ms : ag_M) (x : Int32) (hbd : ag_bd ms) (hrep : ag_rep ms f g w) : Met l y_A_holder (Cond.code y_A_holder b_A_holder 3 (some .int) :: agW) ({ frames := 0, cells := 0, slots := 0, locals := 0 }) (va_Pc [.ref a, .int x] (ag_at (dC, dI) agCl [(cI, .int), (cJ, .long)] sz [(a, .inr (1, [.int (nI G), .int (nI R), .ref qm, .ref qs, .ref qt, .int (nI ms.length), .long (lN nw), .long (lN en), .int (nI mo), .long (lN la), .long (lN go), .long (lN sp)])), (qm, .inl (cI, 320, .inl f)), (qs, .inl (cI, 320, .inl g)), (qt, .inr (0, [.ref qw])), (qw, .inl (cJ, 5, .inr (.inl w)))])) (va_Qi (fun (r : Int32) (_ : Unit) => ag_hold ms x r) (ag_to (dC, dI) agCl [(cI, .int), (cJ, .long)] (va_A [(a, .inr (1, [.int (nI G), .int (nI R), .ref qm, .ref qs, .ref qt, .int (nI ms.length), .long (lN nw), .long (lN en), .int (nI mo), .long (lN la), .long (lN go), .long (lN sp)])), (qm, .inl (cI, 320, .inl f)), (qs, .inl (cI, 320, .inl g)), (qt, .inr (0, [.ref qw])), (qw, .inl (cJ, 5, .inr (.inl w)))] sz) (fun _ : Unit => [(a, .inr (1, [.int (nI G), .int (nI R), .ref qm, .ref qs, .ref qt, .int (nI ms.length), .long (lN nw), .long (lN en), .int (nI mo), .long (lN la), .long (lN go), .long (lN sp)])), (qm, .inl (cI, 320, .inl f)), (qs, .inl (cI, 320, .inl g)), (qt, .inr (0, [.ref qw])), (qw, .inl (cJ, 5, .inr (.inl w)))])) (va_A [(a, .inr (1, [.int (nI G), .int (nI R), .ref qm, .ref qs, .ref qt, .int (nI ms.length), .long (lN nw), .long (lN en), .int (nI mo), .long (lN la), .long (lN go), .long (lN sp)])), (qm, .inl (cI, 320, .inl f)), (qs, .inl (cI, 320, .inl g)), (qt, .inr (0, [.ref qw])), (qw, .inl (cJ, 5, .inr (.inl w)))] sz)) 0 0 (va_A [(a, .inr (1, [.int (nI G), .int (nI R), .ref qm, .ref qs, .ref qt, .int (nI ms.length), .long (lN nw), .long (lN en), .int (nI mo), .long (lN la), .long (lN go), .long (lN sp)])), (qm, .inl (cI, 320, .inl f)), (qs, .inl (cI, 320, .inl g)), (qt, .inr (0, [.ref qw])), (qw, .inl (cJ, 5, .inr (.inl w)))] sz) := by
  refine ag_ofW (Qf := fun A => va_Qi (fun (r : Int32) (_ : Unit) => ag_hold ms x r) (ag_to (dC, dI) agCl [(cI, .int), (cJ, .long)] A (fun _ : Unit => [(a, .inr (1, [.int (nI G), .int (nI R), .ref qm, .ref qs, .ref qt, .int (nI ms.length), .long (lN nw), .long (lN en), .int (nI mo), .long (lN la), .long (lN go), .long (lN sp)])), (qm, .inl (cI, 320, .inl f)), (qs, .inl (cI, 320, .inl g)), (qt, .inr (0, [.ref qw])), (qw, .inl (cJ, 5, .inr (.inl w)))])) A) (cc := b_A_holder) (maxL := 3) (ret := (some .int)) (lv := [(0, .ref a), (1, .int x)]) (by decide) rfl (Nat.le_of_ble_eq_true rfl) rfl (fun p e s m below meth c A ls hx hb hr hts hown hlocks hml hnm hA hS hP hK hD hl hsz => ?_)
  have hown : s.vm.findClass "AgedMarks" = some m.cls := hown
  have ht : ∀ w ∈ agW, w.before [.ref a, .int x].toArray s = true := fun w h => hts w (List.mem_cons_of_mem _ h)
  have hlen := hbd.1
  refine ag_iconst hx hb 0 d_A_holder_0 (by decide) ?_
  refine lv_istore_n (lv' := [(2, .int (nI 0)), (0, .ref a), (1, .int x)]) hx hb d_A_holder_1 rfl hl (by decide) rfl (fun ls hl => ?_)
  have loop : ∀ (n k : Nat), ms.length < k + n → k ≤ ms.length → (∀ j (hj : j < ms.length), j < k → nI (ms[j]).2 ≠ x) → ∀ ls : Array Slot, lv_has ls 3 [(2, .int (nI k)), (0, .ref a), (1, .int x)] → W p l e { frames := 0, cells := 0, slots := 0, locals := 0 } s m [.ref a, .int x].toArray below meth c s.heap [] 0 0 (MQ below (va_Qi (fun (r : Int32) (_ : Unit) => ag_hold ms x r) (ag_to (dC, dI) agCl [(cI, .int), (cJ, .long)] A (fun _ : Unit => [(a, .inr (1, [.int (nI G), .int (nI R), .ref qm, .ref qs, .ref qt, .int (nI ms.length), .long (lN nw), .long (lN en), .int (nI mo), .long (lN la), .long (lN go), .long (lN sp)])), (qm, .inl (cI, 320, .inl f)), (qs, .inl (cI, 320, .inl g)), (qt, .inr (0, [.ref qw])), (qw, .inl (cJ, 5, .inr (.inl w)))])) A) [.ref a, .int x].toArray s 0 0 A) (F0 m 2 ls []) := by
    intro n
    induction n with
    | zero => intro k h1 h2; omega
    | succ n ih =>
      intro k hn hk hno ls hl
      refine lv_iload_n hx hb d_A_holder_2 rfl (lv_at hl 0 rfl) ?_
      refine lv_aload_n hx hb d_A_holder_3 rfl (lv_at hl 1 rfl) ?_
      refine va_get (D := (dC, dI)) (ci := 1) (v := .int (nI ms.length)) (C := RX1) (T := TX1) (N := 12) hx hb ht inA1 hown hK hP 0 rfl rfl 5 (by decide) (ht _ mw_f_A_43) (fun _ h9 => h9) rfl d_A_holder_4 ?_
      refine ag_icmp_ge (tgt := 28) hx hb d_A_holder_7 (by decide) (by omega) (by omega) (fun c7 => ?_) (fun c7 => ?_)
      · have h_n := trivial
        refine lv_iconst (v := -1) hx hb d_A_holder_28 (by decide) ?_
        exact ag_reti hx hb hr hlocks () (Or.inr ⟨fun j hj => hno j hj (by omega), rfl⟩) hP hK hD hS d_A_holder_29
      · have h_n := trivial
        refine lv_aload_n hx hb d_A_holder_10 rfl (lv_at hl 1 rfl) ?_
        refine va_get (D := (dC, dI)) (ci := 1) (v := .ref qs) (C := RX1) (T := TX1) (N := 12) hx hb ht inA1 hown hK hP 0 rfl rfl 3 (by decide) (ht _ mw_f_A_13) (fun _ h9 => h9) rfl d_A_holder_11 ?_
        refine lv_iload_n hx hb d_A_holder_14 rfl (lv_at hl 0 rfl) ?_
        refine ag_iald hx hb hK hP 2 0 rfl rfl (by omega) (by decide) d_A_holder_15 ?_
        refine ag_topi (nI ((ms[k]).2)) ((hrep.1 k c7).2) ?_
        refine lv_iload_n hx hb d_A_holder_16 rfl (lv_at hl 2 rfl) ?_
        refine lv_icmp_ne (tgt := 22) hx hb d_A_holder_17 (by decide) (fun c17 => ?_) (fun c17 => ?_)
        · have h_n := trivial
          refine lv_iinc (v := nI (k + 1)) (lv' := [(2, .int (nI (k + 1))), (0, .ref a), (1, .int x)]) hx hb d_A_holder_22 hl (k := 0) rfl (nI_1 _) (by decide) rfl (fun ls hl => ?_)
          refine lv_goto (tgt := 2) hx hb d_A_holder_25 (by decide) ?_
          refine ih (k + 1) (by omega) (by omega) (fun j hj h => ?_) ls hl
          rcases Nat.lt_or_ge j k with q | q
          · exact hno j hj q
          · have e9 : j = k := by omega
            subst e9
            exact c17
        · have h_n := trivial
          refine lv_iload_n hx hb d_A_holder_20 rfl (lv_at hl 0 rfl) ?_
          exact ag_reti hx hb hr hlocks () (Or.inl ⟨k, c7, c17, hno, rfl⟩) hP hK hD hS d_A_holder_21
  exact loop (ms.length + 1) 0 (by omega) (by omega) (fun j hj h => by omega) ls hl
