set_option maxHeartbeats 4000000 in
set_option maxRecDepth 100000 in
/-- cut() -/
theorem c_M_cut (l : Launch) (dC : Nat → ClassId) (dI : Nat → Nat → Nat) (sz : Nat) (b qn qk : Nat) (cI : ClassId) (cd G R en nw mo la go sp : Nat) (f g : Nat → Int32) (ms : ag_M) (hG2 : G ≤ 1000) (hnw : nw ≤ 1000000000) (hso : ms.Pairwise (fun x y => x.1 < y.1)) (hbd : ag_bd ms) (h0 : 0 < ms.length) (h00 : (ms[0]).1 = 0) (hrep : ag_rpm ms f g) : Met l y_M_cut (Cond.code y_M_cut b_M_cut 2 (some .int) :: agW) ({ frames := 0, cells := 0, slots := 0, locals := 0 }) (va_Pc [.ref b] (ag_at (dC, dI) agCl [(cI, .int)] sz [(b, .inr (2, [.int (nI cd), .int (nI G), .int (nI R), .long (lN en), .long (lN nw), .int (nI ms.length), .ref qn, .ref qk, .int (nI mo), .long (lN la), .long (lN go), .long (lN sp)])), (qn, .inl (cI, 1200, .inl f)), (qk, .inl (cI, 1200, .inl g))])) (va_Qi (fun (r : Int32) (_ : Unit) => r = nI (ms.length - (ag_cutm G nw ms).length)) (ag_to (dC, dI) agCl [(cI, .int)] (va_A [(b, .inr (2, [.int (nI cd), .int (nI G), .int (nI R), .long (lN en), .long (lN nw), .int (nI ms.length), .ref qn, .ref qk, .int (nI mo), .long (lN la), .long (lN go), .long (lN sp)])), (qn, .inl (cI, 1200, .inl f)), (qk, .inl (cI, 1200, .inl g))] sz) (fun _ : Unit => [(b, .inr (2, [.int (nI 0), .int (nI G), .int (nI R), .long (lN nw), .long (lN nw), .int (nI ((ag_cutm G nw ms).length)), .ref qn, .ref qk, .int (nI mo), .long (lN la), .long (lN (go + (ms.length - (ag_cutm G nw ms).length))), .long (lN sp)])), (qn, .inl (cI, 1200, .inl f)), (qk, .inl (cI, 1200, .inl g))])) (va_A [(b, .inr (2, [.int (nI cd), .int (nI G), .int (nI R), .long (lN en), .long (lN nw), .int (nI ms.length), .ref qn, .ref qk, .int (nI mo), .long (lN la), .long (lN go), .long (lN sp)])), (qn, .inl (cI, 1200, .inl f)), (qk, .inl (cI, 1200, .inl g))] sz)) 0 0 (va_A [(b, .inr (2, [.int (nI cd), .int (nI G), .int (nI R), .long (lN en), .long (lN nw), .int (nI ms.length), .ref qn, .ref qk, .int (nI mo), .long (lN la), .long (lN go), .long (lN sp)])), (qn, .inl (cI, 1200, .inl f)), (qk, .inl (cI, 1200, .inl g))] sz) := by
  refine ag_ofW (Qf := fun A => va_Qi (fun (r : Int32) (_ : Unit) => r = nI (ms.length - (ag_cutm G nw ms).length)) (ag_to (dC, dI) agCl [(cI, .int)] A (fun _ : Unit => [(b, .inr (2, [.int (nI 0), .int (nI G), .int (nI R), .long (lN nw), .long (lN nw), .int (nI ((ag_cutm G nw ms).length)), .ref qn, .ref qk, .int (nI mo), .long (lN la), .long (lN (go + (ms.length - (ag_cutm G nw ms).length))), .long (lN sp)])), (qn, .inl (cI, 1200, .inl f)), (qk, .inl (cI, 1200, .inl g))])) A) (cc := b_M_cut) (maxL := 2) (ret := (some .int)) (lv := [(0, .ref b)]) (by decide) rfl (Nat.le_of_ble_eq_true rfl) rfl (fun p e s m below meth c A ls hx hb hr hts hown hlocks hml hnm hA hS hP hK hD hl hsz => ?_)
  have hown : s.vm.findClass "AgedMarksModel" = some m.cls := hown
  have ht : ∀ w ∈ agW, w.before [.ref b].toArray s = true := fun w h => hts w (List.mem_cons_of_mem _ h)
  have hlen := hbd.1
  have hmul : ∀ j (hj : j < ms.length), (ms[j]).1 * G ≤ 1000000000 ∧ (ms[j]).1 ≤ 1000000 := fun j hj => ⟨Nat.le_trans (Nat.mul_le_mul (hbd.2 _ (List.getElem_mem hj)).1 hG2) (by decide), (hbd.2 _ (List.getElem_mem hj)).1⟩
  refine lv_aload_n hx hb d_M_cut_0 rfl (lv_at hl 0 rfl) ?_
  refine ag_iconst hx hb 0 d_M_cut_1 (by decide) ?_
  refine va_put (D := (dC, dI)) (ci := 2) (v := .int (nI 0)) (ty := .int) (C := RX2) (T := TX2) (N := 12) hx hb ht inA2 tyX2 tyX2_ok nmX2 hown hK hP hD hS 0 rfl rfl 0 (by decide) (ht _ mw_f_M_29) (fun _ h9 => h9) rfl (by decide +kernel) rfl rfl (Nat.le_of_ble_eq_true rfl) d_M_cut_2 (fun H locs hP hD hS => ?_)
  have hP : va_P (dC, dI) agCl [(b, .inr (2, [.int (nI 0), .int (nI G), .int (nI R), .long (lN en), .long (lN nw), .int (nI ms.length), .ref qn, .ref qk, .int (nI mo), .long (lN la), .long (lN go), .long (lN sp)])), (qn, .inl (cI, 1200, .inl f)), (qk, .inl (cI, 1200, .inl g))] H := hP
  have hD : va_D A [(b, .inr (2, [.int (nI 0), .int (nI G), .int (nI R), .long (lN en), .long (lN nw), .int (nI ms.length), .ref qn, .ref qk, .int (nI mo), .long (lN la), .long (lN go), .long (lN sp)])), (qn, .inl (cI, 1200, .inl f)), (qk, .inl (cI, 1200, .inl g))] := hD
  refine lv_aload_n hx hb d_M_cut_5 rfl (lv_at hl 0 rfl) ?_
  refine lv_aload_n hx hb d_M_cut_6 rfl (lv_at hl 0 rfl) ?_
  refine va_get (D := (dC, dI)) (ci := 2) (v := .long (lN nw)) (C := RX2) (T := TX2) (N := 12) hx hb ht inA2 hown hK hP 0 rfl rfl 4 (by decide) (ht _ mw_f_M_49) (fun _ h9 => h9) rfl d_M_cut_7 ?_
  refine va_put (D := (dC, dI)) (ci := 2) (v := .long (lN nw)) (ty := .long) (C := RX2) (T := TX2) (N := 12) hx hb ht inA2 tyX2 tyX2_ok nmX2 hown hK hP hD hS 0 rfl rfl 3 (by decide) (ht _ mw_f_M_58) (fun _ h9 => h9) rfl (by decide +kernel) rfl rfl (Nat.le_of_ble_eq_true rfl) d_M_cut_10 (fun H locs hP hD hS => ?_)
  have hP : va_P (dC, dI) agCl [(b, .inr (2, [.int (nI 0), .int (nI G), .int (nI R), .long (lN nw), .long (lN nw), .int (nI ms.length), .ref qn, .ref qk, .int (nI mo), .long (lN la), .long (lN go), .long (lN sp)])), (qn, .inl (cI, 1200, .inl f)), (qk, .inl (cI, 1200, .inl g))] H := hP
  have hD : va_D A [(b, .inr (2, [.int (nI 0), .int (nI G), .int (nI R), .long (lN nw), .long (lN nw), .int (nI ms.length), .ref qn, .ref qk, .int (nI mo), .long (lN la), .long (lN go), .long (lN sp)])), (qn, .inl (cI, 1200, .inl f)), (qk, .inl (cI, 1200, .inl g))] := hD
  refine lv_aload_n hx hb d_M_cut_13 rfl (lv_at hl 0 rfl) ?_
  refine va_get (D := (dC, dI)) (ci := 2) (v := .int (nI ms.length)) (C := RX2) (T := TX2) (N := 12) hx hb ht inA2 hown hK hP 0 rfl rfl 5 (by decide) (ht _ mw_f_M_7) (fun _ h9 => h9) rfl d_M_cut_14 ?_
  refine lv_istore_n (lv' := [(1, .int (nI ms.length)), (0, .ref b)]) hx hb d_M_cut_17 rfl hl (by decide) rfl (fun ls hl => ?_)
  have loop : ∀ (k : Nat) (hk : k < ms.length), (∀ j (hj : j < ms.length), k < j → nw < (ms[j]).1 * G) → ∀ (H : Heap) (locs : List Loc), va_P (dC, dI) agCl [(b, .inr (2, [.int (nI 0), .int (nI G), .int (nI R), .long (lN nw), .long (lN nw), .int (nI (k + 1)), .ref qn, .ref qk, .int (nI mo), .long (lN la), .long (lN go), .long (lN sp)])), (qn, .inl (cI, 1200, .inl f)), (qk, .inl (cI, 1200, .inl g))] H → va_D A [(b, .inr (2, [.int (nI 0), .int (nI G), .int (nI R), .long (lN nw), .long (lN nw), .int (nI (k + 1)), .ref qn, .ref qk, .int (nI mo), .long (lN la), .long (lN go), .long (lN sp)])), (qn, .inl (cI, 1200, .inl f)), (qk, .inl (cI, 1200, .inl g))] → va_S A s.heap H locs → ∀ ls : Array Slot, lv_has ls 2 [(1, .int (nI ms.length)), (0, .ref b)] → W p l e { frames := 0, cells := 0, slots := 0, locals := 0 } s m [.ref b].toArray below meth c H locs 0 0 (MQ below (va_Qi (fun (r : Int32) (_ : Unit) => r = nI (ms.length - (ag_cutm G nw ms).length)) (ag_to (dC, dI) agCl [(cI, .int)] A (fun _ : Unit => [(b, .inr (2, [.int (nI 0), .int (nI G), .int (nI R), .long (lN nw), .long (lN nw), .int (nI ((ag_cutm G nw ms).length)), .ref qn, .ref qk, .int (nI mo), .long (lN la), .long (lN (go + (ms.length - (ag_cutm G nw ms).length))), .long (lN sp)])), (qn, .inl (cI, 1200, .inl f)), (qk, .inl (cI, 1200, .inl g))])) A) [.ref b].toArray s 0 0 A) (F0 m 18 ls []) := by
    intro k
    induction k with
    | zero =>
      intro hk hgt H locs hP hD hS ls hl
      have hm := hmul (0) hk
      refine lv_aload_n hx hb d_M_cut_18 rfl (lv_at hl 1 rfl) ?_
      refine va_get (D := (dC, dI)) (ci := 2) (v := .ref qn) (C := RX2) (T := TX2) (N := 12) hx hb ht inA2 hown hK hP 0 rfl rfl 6 (by decide) (ht _ mw_f_M_13) (fun _ h9 => h9) rfl d_M_cut_19 ?_
      refine lv_aload_n hx hb d_M_cut_22 rfl (lv_at hl 1 rfl) ?_
      refine va_get (D := (dC, dI)) (ci := 2) (v := .int (nI (0 + 1))) (C := RX2) (T := TX2) (N := 12) hx hb ht inA2 hown hK hP 0 rfl rfl 5 (by decide) (ht _ mw_f_M_7) (fun _ h9 => h9) rfl d_M_cut_23 ?_
      refine ag_iconst hx hb 1 d_M_cut_26 (by decide) ?_
      refine lv_isub hx hb d_M_cut_27 ?_
      refine ag_topi (nI 0) (nI_pred _) ?_
      refine ag_iald hx hb hK hP 1 0 rfl rfl (by omega) (by decide) d_M_cut_28 ?_
      refine ag_topi (nI ((ms[0]).1)) ((hrep (0) hk).1) ?_
      refine lv_i2l (v := lN ((ms[0]).1)) hx hb d_M_cut_29 (nI_l (by omega)) ?_
      refine lv_aload_n hx hb d_M_cut_30 rfl (lv_at hl 1 rfl) ?_
      refine va_get (D := (dC, dI)) (ci := 2) (v := .int (nI G)) (C := RX2) (T := TX2) (N := 12) hx hb ht inA2 hown hK hP 0 rfl rfl 1 (by decide) (ht _ mw_f_M_23) (fun _ h9 => h9) rfl d_M_cut_31 ?_
      refine lv_i2l (v := lN G) hx hb d_M_cut_34 (nI_l (by omega)) ?_
      refine lv_lmul hx hb d_M_cut_35 ?_
      refine ag_topl (lN (((ms[0]).1) * G)) (lN_mul _ _) ?_
      refine lv_aload_n hx hb d_M_cut_36 rfl (lv_at hl 1 rfl) ?_
      refine va_get (D := (dC, dI)) (ci := 2) (v := .long (lN nw)) (C := RX2) (T := TX2) (N := 12) hx hb ht inA2 hown hK hP 0 rfl rfl 3 (by decide) (ht _ mw_f_M_58) (fun _ h9 => h9) rfl d_M_cut_37 ?_
      refine ag_lc_le (tgt := 57) hx hb d_M_cut_40 d_M_cut_41 (by decide) (fun c40 => ?_) (fun c40 => ?_)
      · have h_n := trivial
        have hle1 := (pk_lLE (a := (ms[0]).1 * G) (b := nw) (by omega) (by omega)).mp c40
        have hcut := ag_cut_take ms G nw (0) hso hk hle1 hgt
        have hcl : 0 + 1 = (ag_cutm G nw ms).length := by rw [hcut]; simp; omega
        refine lv_aload_n hx hb d_M_cut_57 rfl (lv_at hl 1 rfl) ?_
        refine lv_dup hx hb d_M_cut_58 rfl ?_
        refine va_get (D := (dC, dI)) (ci := 2) (v := .long (lN go)) (C := RX2) (T := TX2) (N := 12) hx hb ht inA2 hown hK hP 0 rfl rfl 10 (by decide) (ht _ mw_f_M_42) (fun _ h9 => h9) rfl d_M_cut_59 ?_
        refine lv_iload_n hx hb d_M_cut_62 rfl (lv_at hl 0 rfl) ?_
        refine lv_aload_n hx hb d_M_cut_63 rfl (lv_at hl 1 rfl) ?_
        refine va_get (D := (dC, dI)) (ci := 2) (v := .int (nI (0 + 1))) (C := RX2) (T := TX2) (N := 12) hx hb ht inA2 hown hK hP 0 rfl rfl 5 (by decide) (ht _ mw_f_M_7) (fun _ h9 => h9) rfl d_M_cut_64 ?_
        refine lv_isub hx hb d_M_cut_67 ?_
        refine ag_topi (nI (ms.length - (0 + 1))) (pk_sub (by omega)) ?_
        refine lv_i2l (v := lN (ms.length - (0 + 1))) hx hb d_M_cut_68 (nI_l (by omega)) ?_
        refine lv_ladd hx hb d_M_cut_69 ?_
        refine ag_topl (lN (go + (ms.length - (0 + 1)))) (lN_add _ _) ?_
        refine va_put (D := (dC, dI)) (ci := 2) (v := .long (lN (go + (ms.length - (0 + 1))))) (ty := .long) (C := RX2) (T := TX2) (N := 12) hx hb ht inA2 tyX2 tyX2_ok nmX2 hown hK hP hD hS 0 rfl rfl 10 (by decide) (ht _ mw_f_M_42) (fun _ h9 => h9) rfl (by decide +kernel) rfl rfl (Nat.le_of_ble_eq_true rfl) d_M_cut_70 (fun H locs hP hD hS => ?_)
        have hP : va_P (dC, dI) agCl [(b, .inr (2, [.int (nI 0), .int (nI G), .int (nI R), .long (lN nw), .long (lN nw), .int (nI (0 + 1)), .ref qn, .ref qk, .int (nI mo), .long (lN la), .long (lN (go + (ms.length - (0 + 1)))), .long (lN sp)])), (qn, .inl (cI, 1200, .inl f)), (qk, .inl (cI, 1200, .inl g))] H := hP
        have hD : va_D A [(b, .inr (2, [.int (nI 0), .int (nI G), .int (nI R), .long (lN nw), .long (lN nw), .int (nI (0 + 1)), .ref qn, .ref qk, .int (nI mo), .long (lN la), .long (lN (go + (ms.length - (0 + 1)))), .long (lN sp)])), (qn, .inl (cI, 1200, .inl f)), (qk, .inl (cI, 1200, .inl g))] := hD
        refine lv_iload_n hx hb d_M_cut_73 rfl (lv_at hl 0 rfl) ?_
        refine lv_aload_n hx hb d_M_cut_74 rfl (lv_at hl 1 rfl) ?_
        refine va_get (D := (dC, dI)) (ci := 2) (v := .int (nI (0 + 1))) (C := RX2) (T := TX2) (N := 12) hx hb ht inA2 hown hK hP 0 rfl rfl 5 (by decide) (ht _ mw_f_M_7) (fun _ h9 => h9) rfl d_M_cut_75 ?_
        refine lv_isub hx hb d_M_cut_78 ?_
        refine ag_topi (nI (ms.length - (0 + 1))) (pk_sub (by omega)) ?_
        rw [hcl] at hP hD
        refine ag_topi (nI (ms.length - (ag_cutm G nw ms).length)) (by rw [hcl]) ?_
        exact ag_reti hx hb hr hlocks () rfl hP hK hD hS d_M_cut_79
      · have h_n := trivial
        exact absurd ((pk_lLE (a := (ms[0]).1 * G) (b := nw) (by omega) (by omega)).mpr (by rw [h00, Nat.zero_mul]; omega)) c40
    | succ i ih =>
      intro hk hgt H locs hP hD hS ls hl
      have hm := hmul (i + 1) hk
      refine lv_aload_n hx hb d_M_cut_18 rfl (lv_at hl 1 rfl) ?_
      refine va_get (D := (dC, dI)) (ci := 2) (v := .ref qn) (C := RX2) (T := TX2) (N := 12) hx hb ht inA2 hown hK hP 0 rfl rfl 6 (by decide) (ht _ mw_f_M_13) (fun _ h9 => h9) rfl d_M_cut_19 ?_
      refine lv_aload_n hx hb d_M_cut_22 rfl (lv_at hl 1 rfl) ?_
      refine va_get (D := (dC, dI)) (ci := 2) (v := .int (nI (i + 1 + 1))) (C := RX2) (T := TX2) (N := 12) hx hb ht inA2 hown hK hP 0 rfl rfl 5 (by decide) (ht _ mw_f_M_7) (fun _ h9 => h9) rfl d_M_cut_23 ?_
      refine ag_iconst hx hb 1 d_M_cut_26 (by decide) ?_
      refine lv_isub hx hb d_M_cut_27 ?_
      refine ag_topi (nI (i + 1)) (nI_pred _) ?_
      refine ag_iald hx hb hK hP 1 0 rfl rfl (by omega) (by decide) d_M_cut_28 ?_
      refine ag_topi (nI ((ms[i + 1]).1)) ((hrep (i + 1) hk).1) ?_
      refine lv_i2l (v := lN ((ms[i + 1]).1)) hx hb d_M_cut_29 (nI_l (by omega)) ?_
      refine lv_aload_n hx hb d_M_cut_30 rfl (lv_at hl 1 rfl) ?_
      refine va_get (D := (dC, dI)) (ci := 2) (v := .int (nI G)) (C := RX2) (T := TX2) (N := 12) hx hb ht inA2 hown hK hP 0 rfl rfl 1 (by decide) (ht _ mw_f_M_23) (fun _ h9 => h9) rfl d_M_cut_31 ?_
      refine lv_i2l (v := lN G) hx hb d_M_cut_34 (nI_l (by omega)) ?_
      refine lv_lmul hx hb d_M_cut_35 ?_
      refine ag_topl (lN (((ms[i + 1]).1) * G)) (lN_mul _ _) ?_
      refine lv_aload_n hx hb d_M_cut_36 rfl (lv_at hl 1 rfl) ?_
      refine va_get (D := (dC, dI)) (ci := 2) (v := .long (lN nw)) (C := RX2) (T := TX2) (N := 12) hx hb ht inA2 hown hK hP 0 rfl rfl 3 (by decide) (ht _ mw_f_M_58) (fun _ h9 => h9) rfl d_M_cut_37 ?_
      refine ag_lc_le (tgt := 57) hx hb d_M_cut_40 d_M_cut_41 (by decide) (fun c40 => ?_) (fun c40 => ?_)
      · have h_n := trivial
        have hle1 := (pk_lLE (a := (ms[i + 1]).1 * G) (b := nw) (by omega) (by omega)).mp c40
        have hcut := ag_cut_take ms G nw (i + 1) hso hk hle1 hgt
        have hcl : i + 1 + 1 = (ag_cutm G nw ms).length := by rw [hcut]; simp; omega
        refine lv_aload_n hx hb d_M_cut_57 rfl (lv_at hl 1 rfl) ?_
        refine lv_dup hx hb d_M_cut_58 rfl ?_
        refine va_get (D := (dC, dI)) (ci := 2) (v := .long (lN go)) (C := RX2) (T := TX2) (N := 12) hx hb ht inA2 hown hK hP 0 rfl rfl 10 (by decide) (ht _ mw_f_M_42) (fun _ h9 => h9) rfl d_M_cut_59 ?_
        refine lv_iload_n hx hb d_M_cut_62 rfl (lv_at hl 0 rfl) ?_
        refine lv_aload_n hx hb d_M_cut_63 rfl (lv_at hl 1 rfl) ?_
        refine va_get (D := (dC, dI)) (ci := 2) (v := .int (nI (i + 1 + 1))) (C := RX2) (T := TX2) (N := 12) hx hb ht inA2 hown hK hP 0 rfl rfl 5 (by decide) (ht _ mw_f_M_7) (fun _ h9 => h9) rfl d_M_cut_64 ?_
        refine lv_isub hx hb d_M_cut_67 ?_
        refine ag_topi (nI (ms.length - (i + 1 + 1))) (pk_sub (by omega)) ?_
        refine lv_i2l (v := lN (ms.length - (i + 1 + 1))) hx hb d_M_cut_68 (nI_l (by omega)) ?_
        refine lv_ladd hx hb d_M_cut_69 ?_
        refine ag_topl (lN (go + (ms.length - (i + 1 + 1)))) (lN_add _ _) ?_
        refine va_put (D := (dC, dI)) (ci := 2) (v := .long (lN (go + (ms.length - (i + 1 + 1))))) (ty := .long) (C := RX2) (T := TX2) (N := 12) hx hb ht inA2 tyX2 tyX2_ok nmX2 hown hK hP hD hS 0 rfl rfl 10 (by decide) (ht _ mw_f_M_42) (fun _ h9 => h9) rfl (by decide +kernel) rfl rfl (Nat.le_of_ble_eq_true rfl) d_M_cut_70 (fun H locs hP hD hS => ?_)
        have hP : va_P (dC, dI) agCl [(b, .inr (2, [.int (nI 0), .int (nI G), .int (nI R), .long (lN nw), .long (lN nw), .int (nI (i + 1 + 1)), .ref qn, .ref qk, .int (nI mo), .long (lN la), .long (lN (go + (ms.length - (i + 1 + 1)))), .long (lN sp)])), (qn, .inl (cI, 1200, .inl f)), (qk, .inl (cI, 1200, .inl g))] H := hP
        have hD : va_D A [(b, .inr (2, [.int (nI 0), .int (nI G), .int (nI R), .long (lN nw), .long (lN nw), .int (nI (i + 1 + 1)), .ref qn, .ref qk, .int (nI mo), .long (lN la), .long (lN (go + (ms.length - (i + 1 + 1)))), .long (lN sp)])), (qn, .inl (cI, 1200, .inl f)), (qk, .inl (cI, 1200, .inl g))] := hD
        refine lv_iload_n hx hb d_M_cut_73 rfl (lv_at hl 0 rfl) ?_
        refine lv_aload_n hx hb d_M_cut_74 rfl (lv_at hl 1 rfl) ?_
        refine va_get (D := (dC, dI)) (ci := 2) (v := .int (nI (i + 1 + 1))) (C := RX2) (T := TX2) (N := 12) hx hb ht inA2 hown hK hP 0 rfl rfl 5 (by decide) (ht _ mw_f_M_7) (fun _ h9 => h9) rfl d_M_cut_75 ?_
        refine lv_isub hx hb d_M_cut_78 ?_
        refine ag_topi (nI (ms.length - (i + 1 + 1))) (pk_sub (by omega)) ?_
        rw [hcl] at hP hD
        refine ag_topi (nI (ms.length - (ag_cutm G nw ms).length)) (by rw [hcl]) ?_
        exact ag_reti hx hb hr hlocks () rfl hP hK hD hS d_M_cut_79
      · have h_n := trivial
        have hgt1 : nw < (ms[i + 1]).1 * G := by have h9 := mt (pk_lLE (a := (ms[i + 1]).1 * G) (b := nw) (by omega) (by omega)).mpr c40; omega
        refine lv_aload_n hx hb d_M_cut_44 rfl (lv_at hl 1 rfl) ?_
        refine lv_dup hx hb d_M_cut_45 rfl ?_
        refine va_get (D := (dC, dI)) (ci := 2) (v := .int (nI (i + 1 + 1))) (C := RX2) (T := TX2) (N := 12) hx hb ht inA2 hown hK hP 0 rfl rfl 5 (by decide) (ht _ mw_f_M_7) (fun _ h9 => h9) rfl d_M_cut_46 ?_
        refine ag_iconst hx hb 1 d_M_cut_49 (by decide) ?_
        refine lv_isub hx hb d_M_cut_50 ?_
        refine ag_topi (nI (i + 1)) (nI_pred _) ?_
        refine va_put (D := (dC, dI)) (ci := 2) (v := .int (nI (i + 1))) (ty := .int) (C := RX2) (T := TX2) (N := 12) hx hb ht inA2 tyX2 tyX2_ok nmX2 hown hK hP hD hS 0 rfl rfl 5 (by decide) (ht _ mw_f_M_7) (fun _ h9 => h9) rfl (by decide +kernel) rfl rfl (Nat.le_of_ble_eq_true rfl) d_M_cut_51 (fun H locs hP hD hS => ?_)
        have hP : va_P (dC, dI) agCl [(b, .inr (2, [.int (nI 0), .int (nI G), .int (nI R), .long (lN nw), .long (lN nw), .int (nI (i + 1)), .ref qn, .ref qk, .int (nI mo), .long (lN la), .long (lN go), .long (lN sp)])), (qn, .inl (cI, 1200, .inl f)), (qk, .inl (cI, 1200, .inl g))] H := hP
        have hD : va_D A [(b, .inr (2, [.int (nI 0), .int (nI G), .int (nI R), .long (lN nw), .long (lN nw), .int (nI (i + 1)), .ref qn, .ref qk, .int (nI mo), .long (lN la), .long (lN go), .long (lN sp)])), (qn, .inl (cI, 1200, .inl f)), (qk, .inl (cI, 1200, .inl g))] := hD
        refine lv_goto (tgt := 18) hx hb d_M_cut_54 (by decide) ?_
        refine ih (by omega) (fun j hj h => ?_) H locs hP hD hS ls hl
        rcases Nat.lt_or_ge (i + 1) j with q | q
        · exact hgt j hj q
        · have e9 : j = i + 1 := by omega
          subst e9
          exact hgt1
  have e3 : ms.length - 1 + 1 = ms.length := by omega
  refine loop (ms.length - 1) (by omega) (fun j hj h => by omega) H locs ?_ ?_ hS ls hl
  · rw [e3]; exact hP
  · rw [e3]; exact hD

set_option maxHeartbeats 4000000 in
set_option maxRecDepth 100000 in
/-- holder(x) -/
theorem c_M_holder (l : Launch) (dC : Nat → ClassId) (dI : Nat → Nat → Nat) (sz : Nat) (b qn qk : Nat) (cI : ClassId) (cd G R en nw mo la go sp : Nat) (f g : Nat → Int32) (ms : ag_M) (x : Int32) (hbd : ag_bd ms) (hrep : ag_rpm ms f g) : Met l y_M_holder (Cond.code y_M_holder b_M_holder 3 (some .int) :: agW) ({ frames := 0, cells := 0, slots := 0, locals := 0 }) (va_Pc [.ref b, .int x] (ag_at (dC, dI) agCl [(cI, .int)] sz [(b, .inr (2, [.int (nI cd), .int (nI G), .int (nI R), .long (lN en), .long (lN nw), .int (nI ms.length), .ref qn, .ref qk, .int (nI mo), .long (lN la), .long (lN go), .long (lN sp)])), (qn, .inl (cI, 1200, .inl f)), (qk, .inl (cI, 1200, .inl g))])) (va_Qi (fun (r : Int32) (_ : Unit) => ag_hold ms x r) (ag_to (dC, dI) agCl [(cI, .int)] (va_A [(b, .inr (2, [.int (nI cd), .int (nI G), .int (nI R), .long (lN en), .long (lN nw), .int (nI ms.length), .ref qn, .ref qk, .int (nI mo), .long (lN la), .long (lN go), .long (lN sp)])), (qn, .inl (cI, 1200, .inl f)), (qk, .inl (cI, 1200, .inl g))] sz) (fun _ : Unit => [(b, .inr (2, [.int (nI 0), .int (nI G), .int (nI R), .long (lN en), .long (lN nw), .int (nI ms.length), .ref qn, .ref qk, .int (nI mo), .long (lN la), .long (lN go), .long (lN sp)])), (qn, .inl (cI, 1200, .inl f)), (qk, .inl (cI, 1200, .inl g))])) (va_A [(b, .inr (2, [.int (nI cd), .int (nI G), .int (nI R), .long (lN en), .long (lN nw), .int (nI ms.length), .ref qn, .ref qk, .int (nI mo), .long (lN la), .long (lN go), .long (lN sp)])), (qn, .inl (cI, 1200, .inl f)), (qk, .inl (cI, 1200, .inl g))] sz)) 0 0 (va_A [(b, .inr (2, [.int (nI cd), .int (nI G), .int (nI R), .long (lN en), .long (lN nw), .int (nI ms.length), .ref qn, .ref qk, .int (nI mo), .long (lN la), .long (lN go), .long (lN sp)])), (qn, .inl (cI, 1200, .inl f)), (qk, .inl (cI, 1200, .inl g))] sz) := by
  refine ag_ofW (Qf := fun A => va_Qi (fun (r : Int32) (_ : Unit) => ag_hold ms x r) (ag_to (dC, dI) agCl [(cI, .int)] A (fun _ : Unit => [(b, .inr (2, [.int (nI 0), .int (nI G), .int (nI R), .long (lN en), .long (lN nw), .int (nI ms.length), .ref qn, .ref qk, .int (nI mo), .long (lN la), .long (lN go), .long (lN sp)])), (qn, .inl (cI, 1200, .inl f)), (qk, .inl (cI, 1200, .inl g))])) A) (cc := b_M_holder) (maxL := 3) (ret := (some .int)) (lv := [(0, .ref b), (1, .int x)]) (by decide) rfl (Nat.le_of_ble_eq_true rfl) rfl (fun p e s m below meth c A ls hx hb hr hts hown hlocks hml hnm hA hS hP hK hD hl hsz => ?_)
  have hown : s.vm.findClass "AgedMarksModel" = some m.cls := hown
  have ht : ∀ w ∈ agW, w.before [.ref b, .int x].toArray s = true := fun w h => hts w (List.mem_cons_of_mem _ h)
  have hlen := hbd.1
  refine lv_aload_n hx hb d_M_holder_0 rfl (lv_at hl 0 rfl) ?_
  refine ag_iconst hx hb 0 d_M_holder_1 (by decide) ?_
  refine va_put (D := (dC, dI)) (ci := 2) (v := .int (nI 0)) (ty := .int) (C := RX2) (T := TX2) (N := 12) hx hb ht inA2 tyX2 tyX2_ok nmX2 hown hK hP hD hS 0 rfl rfl 0 (by decide) (ht _ mw_f_M_29) (fun _ h9 => h9) rfl (by decide +kernel) rfl rfl (Nat.le_of_ble_eq_true rfl) d_M_holder_2 (fun H locs hP hD hS => ?_)
  have hP : va_P (dC, dI) agCl [(b, .inr (2, [.int (nI 0), .int (nI G), .int (nI R), .long (lN en), .long (lN nw), .int (nI ms.length), .ref qn, .ref qk, .int (nI mo), .long (lN la), .long (lN go), .long (lN sp)])), (qn, .inl (cI, 1200, .inl f)), (qk, .inl (cI, 1200, .inl g))] H := hP
  have hD : va_D A [(b, .inr (2, [.int (nI 0), .int (nI G), .int (nI R), .long (lN en), .long (lN nw), .int (nI ms.length), .ref qn, .ref qk, .int (nI mo), .long (lN la), .long (lN go), .long (lN sp)])), (qn, .inl (cI, 1200, .inl f)), (qk, .inl (cI, 1200, .inl g))] := hD
  refine ag_iconst hx hb 0 d_M_holder_5 (by decide) ?_
  refine lv_istore_n (lv' := [(2, .int (nI 0)), (0, .ref b), (1, .int x)]) hx hb d_M_holder_6 rfl hl (by decide) rfl (fun ls hl => ?_)
  have loop : ∀ (n k : Nat), ms.length < k + n → k ≤ ms.length → (∀ j (hj : j < ms.length), j < k → nI (ms[j]).2 ≠ x) → ∀ ls : Array Slot, lv_has ls 3 [(2, .int (nI k)), (0, .ref b), (1, .int x)] → W p l e { frames := 0, cells := 0, slots := 0, locals := 0 } s m [.ref b, .int x].toArray below meth c H locs 0 0 (MQ below (va_Qi (fun (r : Int32) (_ : Unit) => ag_hold ms x r) (ag_to (dC, dI) agCl [(cI, .int)] A (fun _ : Unit => [(b, .inr (2, [.int (nI 0), .int (nI G), .int (nI R), .long (lN en), .long (lN nw), .int (nI ms.length), .ref qn, .ref qk, .int (nI mo), .long (lN la), .long (lN go), .long (lN sp)])), (qn, .inl (cI, 1200, .inl f)), (qk, .inl (cI, 1200, .inl g))])) A) [.ref b, .int x].toArray s 0 0 A) (F0 m 7 ls []) := by
    intro n
    induction n with
    | zero => intro k h1 h2; omega
    | succ n ih =>
      intro k hn hk hno ls hl
      refine lv_iload_n hx hb d_M_holder_7 rfl (lv_at hl 0 rfl) ?_
      refine lv_aload_n hx hb d_M_holder_8 rfl (lv_at hl 1 rfl) ?_
      refine va_get (D := (dC, dI)) (ci := 2) (v := .int (nI ms.length)) (C := RX2) (T := TX2) (N := 12) hx hb ht inA2 hown hK hP 0 rfl rfl 5 (by decide) (ht _ mw_f_M_7) (fun _ h9 => h9) rfl d_M_holder_9 ?_
      refine ag_icmp_ge (tgt := 33) hx hb d_M_holder_12 (by decide) (by omega) (by omega) (fun c12 => ?_) (fun c12 => ?_)
      · have h_n := trivial
        refine lv_iconst (v := -1) hx hb d_M_holder_33 (by decide) ?_
        exact ag_reti hx hb hr hlocks () (Or.inr ⟨fun j hj => hno j hj (by omega), rfl⟩) hP hK hD hS d_M_holder_34
      · have h_n := trivial
        refine lv_aload_n hx hb d_M_holder_15 rfl (lv_at hl 1 rfl) ?_
        refine va_get (D := (dC, dI)) (ci := 2) (v := .ref qk) (C := RX2) (T := TX2) (N := 12) hx hb ht inA2 hown hK hP 0 rfl rfl 7 (by decide) (ht _ mw_f_M_17) (fun _ h9 => h9) rfl d_M_holder_16 ?_
        refine lv_iload_n hx hb d_M_holder_19 rfl (lv_at hl 0 rfl) ?_
        refine ag_iald hx hb hK hP 2 0 rfl rfl (by omega) (by decide) d_M_holder_20 ?_
        refine ag_topi (nI ((ms[k]).2)) ((hrep k c12).2) ?_
        refine lv_iload_n hx hb d_M_holder_21 rfl (lv_at hl 2 rfl) ?_
        refine lv_icmp_ne (tgt := 27) hx hb d_M_holder_22 (by decide) (fun c22 => ?_) (fun c22 => ?_)
        · have h_n := trivial
          refine lv_iinc (v := nI (k + 1)) (lv' := [(2, .int (nI (k + 1))), (0, .ref b), (1, .int x)]) hx hb d_M_holder_27 hl (k := 0) rfl (nI_1 _) (by decide) rfl (fun ls hl => ?_)
          refine lv_goto (tgt := 7) hx hb d_M_holder_30 (by decide) ?_
          refine ih (k + 1) (by omega) (by omega) (fun j hj h => ?_) ls hl
          rcases Nat.lt_or_ge j k with q | q
          · exact hno j hj q
          · have e9 : j = k := by omega
            subst e9
            exact c22
        · have h_n := trivial
          refine lv_iload_n hx hb d_M_holder_25 rfl (lv_at hl 0 rfl) ?_
          exact ag_reti hx hb hr hlocks () (Or.inl ⟨k, c12, c22, hno, rfl⟩) hP hK hD hS d_M_holder_26
  exact loop (ms.length + 1) 0 (by omega) (by omega) (fun j hj h => by omega) ls hl

set_option maxHeartbeats 4000000 in
set_option maxRecDepth 100000 in
/-- count(x) -/
theorem c_M_count (l : Launch) (dC : Nat → ClassId) (dI : Nat → Nat → Nat) (sz : Nat) (b qn qk : Nat) (cI : ClassId) (cd G R en nw mo la go sp : Nat) (f g : Nat → Int32) (ms : ag_M) (x : Int32) (hmo : mo ≤ 300) (hbd : ag_bd ms) : Met l y_M_count (Cond.code y_M_count b_M_count 2 (some .long) :: agW) ({ frames := 0, cells := 0, slots := 0, locals := 0 }) (va_Pc [.ref b, .int x] (ag_at (dC, dI) agCl [(cI, .int)] sz [(b, .inr (2, [.int (nI cd), .int (nI G), .int (nI R), .long (lN en), .long (lN nw), .int (nI ms.length), .ref qn, .ref qk, .int (nI mo), .long (lN la), .long (lN go), .long (lN sp)])), (qn, .inl (cI, 1200, .inl f)), (qk, .inl (cI, 1200, .inl g))])) (va_Ql (fun (r : Int64) (_ : Unit) => r = ag_count x nw en ms.length mo la go sp) (ag_to (dC, dI) agCl [(cI, .int)] (va_A [(b, .inr (2, [.int (nI cd), .int (nI G), .int (nI R), .long (lN en), .long (lN nw), .int (nI ms.length), .ref qn, .ref qk, .int (nI mo), .long (lN la), .long (lN go), .long (lN sp)])), (qn, .inl (cI, 1200, .inl f)), (qk, .inl (cI, 1200, .inl g))] sz) (fun _ : Unit => [(b, .inr (2, [.int (nI 0), .int (nI G), .int (nI R), .long (lN en), .long (lN nw), .int (nI ms.length), .ref qn, .ref qk, .int (nI mo), .long (lN la), .long (lN go), .long (lN sp)])), (qn, .inl (cI, 1200, .inl f)), (qk, .inl (cI, 1200, .inl g))])) (va_A [(b, .inr (2, [.int (nI cd), .int (nI G), .int (nI R), .long (lN en), .long (lN nw), .int (nI ms.length), .ref qn, .ref qk, .int (nI mo), .long (lN la), .long (lN go), .long (lN sp)])), (qn, .inl (cI, 1200, .inl f)), (qk, .inl (cI, 1200, .inl g))] sz)) 0 0 (va_A [(b, .inr (2, [.int (nI cd), .int (nI G), .int (nI R), .long (lN en), .long (lN nw), .int (nI ms.length), .ref qn, .ref qk, .int (nI mo), .long (lN la), .long (lN go), .long (lN sp)])), (qn, .inl (cI, 1200, .inl f)), (qk, .inl (cI, 1200, .inl g))] sz) := by
  refine ag_ofW (Qf := fun A => va_Ql (fun (r : Int64) (_ : Unit) => r = ag_count x nw en ms.length mo la go sp) (ag_to (dC, dI) agCl [(cI, .int)] A (fun _ : Unit => [(b, .inr (2, [.int (nI 0), .int (nI G), .int (nI R), .long (lN en), .long (lN nw), .int (nI ms.length), .ref qn, .ref qk, .int (nI mo), .long (lN la), .long (lN go), .long (lN sp)])), (qn, .inl (cI, 1200, .inl f)), (qk, .inl (cI, 1200, .inl g))])) A) (cc := b_M_count) (maxL := 2) (ret := (some .long)) (lv := [(0, .ref b), (1, .int x)]) (by decide) rfl (Nat.le_of_ble_eq_true rfl) rfl (fun p e s m below meth c A ls hx hb hr hts hown hlocks hml hnm hA hS hP hK hD hl hsz => ?_)
  have hown : s.vm.findClass "AgedMarksModel" = some m.cls := hown
  have ht : ∀ w ∈ agW, w.before [.ref b, .int x].toArray s = true := fun w h => hts w (List.mem_cons_of_mem _ h)
  have hlen := hbd.1
  refine lv_aload_n hx hb d_M_count_0 rfl (lv_at hl 0 rfl) ?_
  refine ag_iconst hx hb 0 d_M_count_1 (by decide) ?_
  refine va_put (D := (dC, dI)) (ci := 2) (v := .int (nI 0)) (ty := .int) (C := RX2) (T := TX2) (N := 12) hx hb ht inA2 tyX2 tyX2_ok nmX2 hown hK hP hD hS 0 rfl rfl 0 (by decide) (ht _ mw_f_M_29) (fun _ h9 => h9) rfl (by decide +kernel) rfl rfl (Nat.le_of_ble_eq_true rfl) d_M_count_2 (fun H locs hP hD hS => ?_)
  have hP : va_P (dC, dI) agCl [(b, .inr (2, [.int (nI 0), .int (nI G), .int (nI R), .long (lN en), .long (lN nw), .int (nI ms.length), .ref qn, .ref qk, .int (nI mo), .long (lN la), .long (lN go), .long (lN sp)])), (qn, .inl (cI, 1200, .inl f)), (qk, .inl (cI, 1200, .inl g))] H := hP
  have hD : va_D A [(b, .inr (2, [.int (nI 0), .int (nI G), .int (nI R), .long (lN en), .long (lN nw), .int (nI ms.length), .ref qn, .ref qk, .int (nI mo), .long (lN la), .long (lN go), .long (lN sp)])), (qn, .inl (cI, 1200, .inl f)), (qk, .inl (cI, 1200, .inl g))] := hD
  refine lv_iload_n hx hb d_M_count_5 rfl (lv_at hl 1 rfl) ?_
  by_cases hlo : x.toInt < 0 ∨ 6 < x.toInt
  · have h_n := trivial
    refine lv_tableOut (tgt := 85) hx hb d_M_count_6 hlo (by decide) ?_
    refine lv_ldc2 (v := -1) hx hb hown (ht _ mw_k_M_75) d_M_count_85 ?_
    exact ag_retl hx hb hr hlocks () (by rw [ag_count, if_neg (by rintro rfl; revert hlo; decide), if_neg (by rintro rfl; revert hlo; decide), if_neg (by rintro rfl; revert hlo; decide), if_neg (by rintro rfl; revert hlo; decide), if_neg (by rintro rfl; revert hlo; decide), if_neg (by rintro rfl; revert hlo; decide), if_neg (by rintro rfl; revert hlo; decide)]) hP hK hD hS d_M_count_88
  · have h_n := trivial
    obtain ⟨k, hk, rfl⟩ := ag_small hlo
    rcases (show k = 0 ∨ k = 1 ∨ k = 2 ∨ k = 3 ∨ k = 4 ∨ k = 5 ∨ k = 6 by omega) with rfl | rfl | rfl | rfl | rfl | rfl | rfl
    · have h_n := trivial
      refine lv_tableIn (off := 42) (tgt := 48) hx hb d_M_count_6 (by decide) (by decide) (by decide) (by decide) ?_
      refine lv_aload_n hx hb d_M_count_48 rfl (lv_at hl 0 rfl) ?_
      refine va_get (D := (dC, dI)) (ci := 2) (v := .long (lN nw)) (C := RX2) (T := TX2) (N := 12) hx hb ht inA2 hown hK hP 0 rfl rfl 4 (by decide) (ht _ mw_f_M_49) (fun _ h9 => h9) rfl d_M_count_49 ?_
      exact ag_retl hx hb hr hlocks () rfl hP hK hD hS d_M_count_52
    · have h_n := trivial
      refine lv_tableIn (off := 47) (tgt := 53) hx hb d_M_count_6 (by decide) (by decide) (by decide) (by decide) ?_
      refine lv_aload_n hx hb d_M_count_53 rfl (lv_at hl 0 rfl) ?_
      refine va_get (D := (dC, dI)) (ci := 2) (v := .long (lN en)) (C := RX2) (T := TX2) (N := 12) hx hb ht inA2 hown hK hP 0 rfl rfl 3 (by decide) (ht _ mw_f_M_58) (fun _ h9 => h9) rfl d_M_count_54 ?_
      exact ag_retl hx hb hr hlocks () rfl hP hK hD hS d_M_count_57
    · have h_n := trivial
      refine lv_tableIn (off := 52) (tgt := 58) hx hb d_M_count_6 (by decide) (by decide) (by decide) (by decide) ?_
      refine lv_aload_n hx hb d_M_count_58 rfl (lv_at hl 0 rfl) ?_
      refine va_get (D := (dC, dI)) (ci := 2) (v := .int (nI ms.length)) (C := RX2) (T := TX2) (N := 12) hx hb ht inA2 hown hK hP 0 rfl rfl 5 (by decide) (ht _ mw_f_M_7) (fun _ h9 => h9) rfl d_M_count_59 ?_
      refine lv_i2l (v := lN ms.length) hx hb d_M_count_62 (nI_l (by omega)) ?_
      exact ag_retl hx hb hr hlocks () rfl hP hK hD hS d_M_count_63
    · have h_n := trivial
      refine lv_tableIn (off := 58) (tgt := 64) hx hb d_M_count_6 (by decide) (by decide) (by decide) (by decide) ?_
      refine lv_aload_n hx hb d_M_count_64 rfl (lv_at hl 0 rfl) ?_
      refine va_get (D := (dC, dI)) (ci := 2) (v := .int (nI mo)) (C := RX2) (T := TX2) (N := 12) hx hb ht inA2 hown hK hP 0 rfl rfl 8 (by decide) (ht _ mw_f_M_20) (fun _ h9 => h9) rfl d_M_count_65 ?_
      refine lv_i2l (v := lN mo) hx hb d_M_count_68 (nI_l (by omega)) ?_
      exact ag_retl hx hb hr hlocks () rfl hP hK hD hS d_M_count_69
    · have h_n := trivial
      refine lv_tableIn (off := 64) (tgt := 70) hx hb d_M_count_6 (by decide) (by decide) (by decide) (by decide) ?_
      refine lv_aload_n hx hb d_M_count_70 rfl (lv_at hl 0 rfl) ?_
      refine va_get (D := (dC, dI)) (ci := 2) (v := .long (lN la)) (C := RX2) (T := TX2) (N := 12) hx hb ht inA2 hown hK hP 0 rfl rfl 9 (by decide) (ht _ mw_f_M_46) (fun _ h9 => h9) rfl d_M_count_71 ?_
      exact ag_retl hx hb hr hlocks () rfl hP hK hD hS d_M_count_74
    · have h_n := trivial
      refine lv_tableIn (off := 69) (tgt := 75) hx hb d_M_count_6 (by decide) (by decide) (by decide) (by decide) ?_
      refine lv_aload_n hx hb d_M_count_75 rfl (lv_at hl 0 rfl) ?_
      refine va_get (D := (dC, dI)) (ci := 2) (v := .long (lN go)) (C := RX2) (T := TX2) (N := 12) hx hb ht inA2 hown hK hP 0 rfl rfl 10 (by decide) (ht _ mw_f_M_42) (fun _ h9 => h9) rfl d_M_count_76 ?_
      exact ag_retl hx hb hr hlocks () rfl hP hK hD hS d_M_count_79
    · have h_n := trivial
      refine lv_tableIn (off := 74) (tgt := 80) hx hb d_M_count_6 (by decide) (by decide) (by decide) (by decide) ?_
      refine lv_aload_n hx hb d_M_count_80 rfl (lv_at hl 0 rfl) ?_
      refine va_get (D := (dC, dI)) (ci := 2) (v := .long (lN sp)) (C := RX2) (T := TX2) (N := 12) hx hb ht inA2 hown hK hP 0 rfl rfl 11 (by decide) (ht _ mw_f_M_69) (fun _ h9 => h9) rfl d_M_count_81 ?_
      exact ag_retl hx hb hr hlocks () rfl hP hK hD hS d_M_count_84
