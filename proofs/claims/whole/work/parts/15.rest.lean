section AgCount
def ag_count (x : Int32) (nw en hd mo la go sp : Nat) : Int64 := if x = 0 then lN nw else if x = 1 then lN en else if x = 2 then lN hd else if x = 3 then lN mo else if x = 4 then lN la else if x = 5 then lN go else if x = 6 then lN sp else -1
theorem ag_small {x : Int32} {n : Int} (h : ¬ (x.toInt < 0 ∨ n < x.toInt)) : ∃ k : Nat, (k : Int) ≤ n ∧ x = nI k := by
  have h1 : ¬ x < 0 := fun q => h (Or.inl (by have := Int32.lt_iff_toInt_lt.mp q; simpa using this))
  obtain ⟨k, hk, rfl⟩ := nI_of h1
  refine ⟨k, ?_, rfl⟩
  rw [nI_toInt hk] at h
  omega
end AgCount

set_option maxHeartbeats 4000000 in
set_option maxRecDepth 100000 in
/-- count(x) -/
theorem c_A_count (l : Launch) (dC : Nat → ClassId) (dI : Nat → Nat → Nat) (sz : Nat) (a qm qs qt qw : Nat) (cI cJ : ClassId) (G R nw en mo la go sp : Nat) (f g : Nat → Int32) (w : Nat → Int64) (ms : ag_M) (x : Int32) (hmo : mo ≤ 300) (hbd : ag_bd ms) : Met l y_A_count (Cond.code y_A_count b_A_count 2 (some .long) :: agW) ({ frames := 0, cells := 0, slots := 0, locals := 0 }) (va_Pc [.ref a, .int x] (ag_at (dC, dI) agCl [(cI, .int), (cJ, .long)] sz [(a, .inr (1, [.int (nI G), .int (nI R), .ref qm, .ref qs, .ref qt, .int (nI ms.length), .long (lN nw), .long (lN en), .int (nI mo), .long (lN la), .long (lN go), .long (lN sp)])), (qm, .inl (cI, 320, .inl f)), (qs, .inl (cI, 320, .inl g)), (qt, .inr (0, [.ref qw])), (qw, .inl (cJ, 5, .inr (.inl w)))])) (va_Ql (fun (r : Int64) (_ : Unit) => r = ag_count x nw en ms.length mo la go sp) (ag_to (dC, dI) agCl [(cI, .int), (cJ, .long)] (va_A [(a, .inr (1, [.int (nI G), .int (nI R), .ref qm, .ref qs, .ref qt, .int (nI ms.length), .long (lN nw), .long (lN en), .int (nI mo), .long (lN la), .long (lN go), .long (lN sp)])), (qm, .inl (cI, 320, .inl f)), (qs, .inl (cI, 320, .inl g)), (qt, .inr (0, [.ref qw])), (qw, .inl (cJ, 5, .inr (.inl w)))] sz) (fun _ : Unit => [(a, .inr (1, [.int (nI G), .int (nI R), .ref qm, .ref qs, .ref qt, .int (nI ms.length), .long (lN nw), .long (lN en), .int (nI mo), .long (lN la), .long (lN go), .long (lN sp)])), (qm, .inl (cI, 320, .inl f)), (qs, .inl (cI, 320, .inl g)), (qt, .inr (0, [.ref qw])), (qw, .inl (cJ, 5, .inr (.inl w)))])) (va_A [(a, .inr (1, [.int (nI G), .int (nI R), .ref qm, .ref qs, .ref qt, .int (nI ms.length), .long (lN nw), .long (lN en), .int (nI mo), .long (lN la), .long (lN go), .long (lN sp)])), (qm, .inl (cI, 320, .inl f)), (qs, .inl (cI, 320, .inl g)), (qt, .inr (0, [.ref qw])), (qw, .inl (cJ, 5, .inr (.inl w)))] sz)) 0 0 (va_A [(a, .inr (1, [.int (nI G), .int (nI R), .ref qm, .ref qs, .ref qt, .int (nI ms.length), .long (lN nw), .long (lN en), .int (nI mo), .long (lN la), .long (lN go), .long (lN sp)])), (qm, .inl (cI, 320, .inl f)), (qs, .inl (cI, 320, .inl g)), (qt, .inr (0, [.ref qw])), (qw, .inl (cJ, 5, .inr (.inl w)))] sz) := by
  refine ag_ofW (Qf := fun A => va_Ql (fun (r : Int64) (_ : Unit) => r = ag_count x nw en ms.length mo la go sp) (ag_to (dC, dI) agCl [(cI, .int), (cJ, .long)] A (fun _ : Unit => [(a, .inr (1, [.int (nI G), .int (nI R), .ref qm, .ref qs, .ref qt, .int (nI ms.length), .long (lN nw), .long (lN en), .int (nI mo), .long (lN la), .long (lN go), .long (lN sp)])), (qm, .inl (cI, 320, .inl f)), (qs, .inl (cI, 320, .inl g)), (qt, .inr (0, [.ref qw])), (qw, .inl (cJ, 5, .inr (.inl w)))])) A) (cc := b_A_count) (maxL := 2) (ret := (some .long)) (lv := [(0, .ref a), (1, .int x)]) (by decide) rfl (Nat.le_of_ble_eq_true rfl) rfl (fun p e s m below meth c A ls hx hb hr hts hown hlocks hml hnm hA hS hP hK hD hl hsz => ?_)
  have hown : s.vm.findClass "AgedMarks" = some m.cls := hown
  have ht : ∀ w ∈ agW, w.before [.ref a, .int x].toArray s = true := fun w h => hts w (List.mem_cons_of_mem _ h)
  have hlen := hbd.1
  refine lv_iload_n hx hb d_A_count_0 rfl (lv_at hl 1 rfl) ?_
  by_cases hlo : x.toInt < 0 ∨ 6 < x.toInt
  · have h_n := trivial
    refine lv_tableOut (tgt := 81) hx hb d_A_count_1 hlo (by decide) ?_
    refine lv_ldc2 (v := -1) hx hb hown (ht _ mw_k_A_109) d_A_count_81 ?_
    exact ag_retl hx hb hr hlocks () (by rw [ag_count, if_neg (by rintro rfl; revert hlo; decide), if_neg (by rintro rfl; revert hlo; decide), if_neg (by rintro rfl; revert hlo; decide), if_neg (by rintro rfl; revert hlo; decide), if_neg (by rintro rfl; revert hlo; decide), if_neg (by rintro rfl; revert hlo; decide), if_neg (by rintro rfl; revert hlo; decide)]) hP hK hD hS d_A_count_84
  · have h_n := trivial
    obtain ⟨k, hk, rfl⟩ := ag_small hlo
    rcases (show k = 0 ∨ k = 1 ∨ k = 2 ∨ k = 3 ∨ k = 4 ∨ k = 5 ∨ k = 6 by omega) with rfl | rfl | rfl | rfl | rfl | rfl | rfl
    · have h_n := trivial
      refine lv_tableIn (off := 43) (tgt := 44) hx hb d_A_count_1 (by decide) (by decide) (by decide) (by decide) ?_
      refine lv_aload_n hx hb d_A_count_44 rfl (lv_at hl 0 rfl) ?_
      refine va_get (D := (dC, dI)) (ci := 1) (v := .long (lN nw)) (C := RX1) (T := TX1) (N := 12) hx hb ht inA1 hown hK hP 0 rfl rfl 6 (by decide) (ht _ mw_f_A_56) (fun _ h9 => h9) rfl d_A_count_45 ?_
      exact ag_retl hx hb hr hlocks () rfl hP hK hD hS d_A_count_48
    · have h_n := trivial
      refine lv_tableIn (off := 48) (tgt := 49) hx hb d_A_count_1 (by decide) (by decide) (by decide) (by decide) ?_
      refine lv_aload_n hx hb d_A_count_49 rfl (lv_at hl 0 rfl) ?_
      refine va_get (D := (dC, dI)) (ci := 1) (v := .long (lN en)) (C := RX1) (T := TX1) (N := 12) hx hb ht inA1 hown hK hP 0 rfl rfl 7 (by decide) (ht _ mw_f_A_67) (fun _ h9 => h9) rfl d_A_count_50 ?_
      exact ag_retl hx hb hr hlocks () rfl hP hK hD hS d_A_count_53
    · have h_n := trivial
      refine lv_tableIn (off := 53) (tgt := 54) hx hb d_A_count_1 (by decide) (by decide) (by decide) (by decide) ?_
      refine lv_aload_n hx hb d_A_count_54 rfl (lv_at hl 0 rfl) ?_
      refine va_get (D := (dC, dI)) (ci := 1) (v := .int (nI ms.length)) (C := RX1) (T := TX1) (N := 12) hx hb ht inA1 hown hK hP 0 rfl rfl 5 (by decide) (ht _ mw_f_A_43) (fun _ h9 => h9) rfl d_A_count_55 ?_
      refine lv_i2l (v := lN ms.length) hx hb d_A_count_58 (nI_l (by omega)) ?_
      exact ag_retl hx hb hr hlocks () rfl hP hK hD hS d_A_count_59
    · have h_n := trivial
      refine lv_tableIn (off := 59) (tgt := 60) hx hb d_A_count_1 (by decide) (by decide) (by decide) (by decide) ?_
      refine lv_aload_n hx hb d_A_count_60 rfl (lv_at hl 0 rfl) ?_
      refine va_get (D := (dC, dI)) (ci := 1) (v := .int (nI mo)) (C := RX1) (T := TX1) (N := 12) hx hb ht inA1 hown hK hP 0 rfl rfl 8 (by decide) (ht _ mw_f_A_46) (fun _ h9 => h9) rfl d_A_count_61 ?_
      refine lv_i2l (v := lN mo) hx hb d_A_count_64 (nI_l (by omega)) ?_
      exact ag_retl hx hb hr hlocks () rfl hP hK hD hS d_A_count_65
    · have h_n := trivial
      refine lv_tableIn (off := 65) (tgt := 66) hx hb d_A_count_1 (by decide) (by decide) (by decide) (by decide) ?_
      refine lv_aload_n hx hb d_A_count_66 rfl (lv_at hl 0 rfl) ?_
      refine va_get (D := (dC, dI)) (ci := 1) (v := .long (lN la)) (C := RX1) (T := TX1) (N := 12) hx hb ht inA1 hown hK hP 0 rfl rfl 9 (by decide) (ht _ mw_f_A_100) (fun _ h9 => h9) rfl d_A_count_67 ?_
      exact ag_retl hx hb hr hlocks () rfl hP hK hD hS d_A_count_70
    · have h_n := trivial
      refine lv_tableIn (off := 70) (tgt := 71) hx hb d_A_count_1 (by decide) (by decide) (by decide) (by decide) ?_
      refine lv_aload_n hx hb d_A_count_71 rfl (lv_at hl 0 rfl) ?_
      refine va_get (D := (dC, dI)) (ci := 1) (v := .long (lN go)) (C := RX1) (T := TX1) (N := 12) hx hb ht inA1 hown hK hP 0 rfl rfl 10 (by decide) (ht _ mw_f_A_103) (fun _ h9 => h9) rfl d_A_count_72 ?_
      exact ag_retl hx hb hr hlocks () rfl hP hK hD hS d_A_count_75
    · have h_n := trivial
      refine lv_tableIn (off := 75) (tgt := 76) hx hb d_A_count_1 (by decide) (by decide) (by decide) (by decide) ?_
      refine lv_aload_n hx hb d_A_count_76 rfl (lv_at hl 0 rfl) ?_
      refine va_get (D := (dC, dI)) (ci := 1) (v := .long (lN sp)) (C := RX1) (T := TX1) (N := 12) hx hb ht inA1 hown hK hP 0 rfl rfl 11 (by decide) (ht _ mw_f_A_106) (fun _ h9 => h9) rfl d_A_count_77 ?_
      exact ag_retl hx hb hr hlocks () rfl hP hK hD hS d_A_count_80

set_option maxHeartbeats 4000000 in
set_option maxRecDepth 100000 in
/-- cut(): the marks behind now go -/
theorem c_A_cut (l : Launch) (dC : Nat → ClassId) (dI : Nat → Nat → Nat) (sz : Nat) (a qm qs qt qw : Nat) (cI cJ : ClassId) (G R nw en mo la go sp : Nat) (f g : Nat → Int32) (w : Nat → Int64) (ms : ag_M) (hG2 : G ≤ 1000) (hnw : nw ≤ 1000000000) (hso : ms.Pairwise (fun x y => x.1 < y.1)) (hbd : ag_bd ms) (hn : (ms.map (·.2)).Nodup) (h0 : 0 < ms.length) (h00 : (ms[0]).1 = 0) (hrep : ag_rep ms f g w) : Met l y_A_cut (Cond.code y_A_cut b_A_cut 3 (some .int) :: agW) ({ frames := 2, cells := 0, slots := 0, locals := 70 }) (va_Pc [.ref a] (ag_at (dC, dI) agCl [(cI, .int), (cJ, .long)] sz [(a, .inr (1, [.int (nI G), .int (nI R), .ref qm, .ref qs, .ref qt, .int (nI ms.length), .long (lN nw), .long (lN en), .int (nI mo), .long (lN la), .long (lN go), .long (lN sp)])), (qm, .inl (cI, 320, .inl f)), (qs, .inl (cI, 320, .inl g)), (qt, .inr (0, [.ref qw])), (qw, .inl (cJ, 5, .inr (.inl w)))])) (va_Qi (fun (r : Int32) (u : ag_M × (Nat → Int32) × (Nat → Int32) × (Nat → Int64)) => u.1 = ag_cutm G nw ms ∧ r = nI (ms.length - u.1.length) ∧ ag_rep u.1 u.2.1 u.2.2.1 u.2.2.2) (ag_to (dC, dI) agCl [(cI, .int), (cJ, .long)] (va_A [(a, .inr (1, [.int (nI G), .int (nI R), .ref qm, .ref qs, .ref qt, .int (nI ms.length), .long (lN nw), .long (lN en), .int (nI mo), .long (lN la), .long (lN go), .long (lN sp)])), (qm, .inl (cI, 320, .inl f)), (qs, .inl (cI, 320, .inl g)), (qt, .inr (0, [.ref qw])), (qw, .inl (cJ, 5, .inr (.inl w)))] sz) (fun u : ag_M × (Nat → Int32) × (Nat → Int32) × (Nat → Int64) => [(a, .inr (1, [.int (nI G), .int (nI R), .ref qm, .ref qs, .ref qt, .int (nI u.1.length), .long (lN nw), .long (lN nw), .int (nI mo), .long (lN la), .long (lN (go + (ms.length - u.1.length))), .long (lN sp)])), (qm, .inl (cI, 320, .inl u.2.1)), (qs, .inl (cI, 320, .inl u.2.2.1)), (qt, .inr (0, [.ref qw])), (qw, .inl (cJ, 5, .inr (.inl u.2.2.2)))])) (va_A [(a, .inr (1, [.int (nI G), .int (nI R), .ref qm, .ref qs, .ref qt, .int (nI ms.length), .long (lN nw), .long (lN en), .int (nI mo), .long (lN la), .long (lN go), .long (lN sp)])), (qm, .inl (cI, 320, .inl f)), (qs, .inl (cI, 320, .inl g)), (qt, .inr (0, [.ref qw])), (qw, .inl (cJ, 5, .inr (.inl w)))] sz)) 0 0 (va_A [(a, .inr (1, [.int (nI G), .int (nI R), .ref qm, .ref qs, .ref qt, .int (nI ms.length), .long (lN nw), .long (lN en), .int (nI mo), .long (lN la), .long (lN go), .long (lN sp)])), (qm, .inl (cI, 320, .inl f)), (qs, .inl (cI, 320, .inl g)), (qt, .inr (0, [.ref qw])), (qw, .inl (cJ, 5, .inr (.inl w)))] sz) := by
  refine ag_ofW (Qf := fun A => va_Qi (fun (r : Int32) (u : ag_M × (Nat → Int32) × (Nat → Int32) × (Nat → Int64)) => u.1 = ag_cutm G nw ms ∧ r = nI (ms.length - u.1.length) ∧ ag_rep u.1 u.2.1 u.2.2.1 u.2.2.2) (ag_to (dC, dI) agCl [(cI, .int), (cJ, .long)] A (fun u : ag_M × (Nat → Int32) × (Nat → Int32) × (Nat → Int64) => [(a, .inr (1, [.int (nI G), .int (nI R), .ref qm, .ref qs, .ref qt, .int (nI u.1.length), .long (lN nw), .long (lN nw), .int (nI mo), .long (lN la), .long (lN (go + (ms.length - u.1.length))), .long (lN sp)])), (qm, .inl (cI, 320, .inl u.2.1)), (qs, .inl (cI, 320, .inl u.2.2.1)), (qt, .inr (0, [.ref qw])), (qw, .inl (cJ, 5, .inr (.inl u.2.2.2)))])) A) (cc := b_A_cut) (maxL := 3) (ret := (some .int)) (lv := [(0, .ref a)]) (by decide) rfl (Nat.le_of_ble_eq_true rfl) rfl (fun p e s m below meth c A ls hx hb hr hts hown hlocks hml hnm hA hS hP hK hD hl hsz => ?_)
  have hown : s.vm.findClass "AgedMarks" = some m.cls := hown
  have ht : ∀ w ∈ agW, w.before [.ref a].toArray s = true := fun w h => hts w (List.mem_cons_of_mem _ h)
  have hlen := hbd.1
  have hmul : ∀ j (hj : j < ms.length), (ms[j]).1 * G ≤ 1000000000 := fun j hj => Nat.le_trans (Nat.mul_le_mul (hbd.2 _ (List.getElem_mem hj)).1 hG2) (by decide)
  refine lv_aload_n hx hb d_A_cut_0 rfl (lv_at hl 0 rfl) ?_
  refine va_get (D := (dC, dI)) (ci := 1) (v := .int (nI ms.length)) (C := RX1) (T := TX1) (N := 12) hx hb ht inA1 hown hK hP 0 rfl rfl 5 (by decide) (ht _ mw_f_A_43) (fun _ h9 => h9) rfl d_A_cut_1 ?_
  refine lv_istore_n (lv' := [(1, .int (nI ms.length)), (0, .ref a)]) hx hb d_A_cut_4 rfl hl (by decide) rfl (fun ls hl => ?_)
  refine lv_aload_n hx hb d_A_cut_5 rfl (lv_at hl 1 rfl) ?_
  refine lv_aload_n hx hb d_A_cut_6 rfl (lv_at hl 1 rfl) ?_
  refine va_get (D := (dC, dI)) (ci := 1) (v := .long (lN nw)) (C := RX1) (T := TX1) (N := 12) hx hb ht inA1 hown hK hP 0 rfl rfl 6 (by decide) (ht _ mw_f_A_56) (fun _ h9 => h9) rfl d_A_cut_7 ?_
  refine va_put (D := (dC, dI)) (ci := 1) (v := .long (lN nw)) (ty := .long) (C := RX1) (T := TX1) (N := 12) hx hb ht inA1 tyX1 tyX1_ok nmX1 hown hK hP hD hS 0 rfl rfl 7 (by decide) (ht _ mw_f_A_67) (fun _ h9 => h9) rfl (by decide +kernel) rfl rfl (Nat.le_of_ble_eq_true rfl) d_A_cut_10 (fun H locs hP hD hS => ?_)
  have hP : va_P (dC, dI) agCl [(a, .inr (1, [.int (nI G), .int (nI R), .ref qm, .ref qs, .ref qt, .int (nI ms.length), .long (lN nw), .long (lN nw), .int (nI mo), .long (lN la), .long (lN go), .long (lN sp)])), (qm, .inl (cI, 320, .inl f)), (qs, .inl (cI, 320, .inl g)), (qt, .inr (0, [.ref qw])), (qw, .inl (cJ, 5, .inr (.inl w)))] H := hP
  have hD : va_D A [(a, .inr (1, [.int (nI G), .int (nI R), .ref qm, .ref qs, .ref qt, .int (nI ms.length), .long (lN nw), .long (lN nw), .int (nI mo), .long (lN la), .long (lN go), .long (lN sp)])), (qm, .inl (cI, 320, .inl f)), (qs, .inl (cI, 320, .inl g)), (qt, .inr (0, [.ref qw])), (qw, .inl (cJ, 5, .inr (.inl w)))] := hD
  refine lv_aload_n hx hb d_A_cut_13 rfl (lv_at hl 1 rfl) ?_
  refine va_get (D := (dC, dI)) (ci := 1) (v := .int (nI ms.length)) (C := RX1) (T := TX1) (N := 12) hx hb ht inA1 hown hK hP 0 rfl rfl 5 (by decide) (ht _ mw_f_A_43) (fun _ h9 => h9) rfl d_A_cut_14 ?_
  refine ag_iconst hx hb 1 d_A_cut_17 (by decide) ?_
  refine lv_isub hx hb d_A_cut_18 ?_
  refine ag_topi (nI (ms.length - 1)) (pk_sub (by omega)) ?_
  refine lv_istore_n (lv' := [(2, .int (nI (ms.length - 1))), (1, .int (nI ms.length)), (0, .ref a)]) hx hb d_A_cut_19 rfl hl (by decide) rfl (fun ls hl => ?_)
  have loop : ∀ (k : Nat) (hk : k < ms.length), (∀ j (hj : j < ms.length), k < j → nw < (ms[j]).1 * G) → ∀ (f1 g1 : Nat → Int32) (w1 : Nat → Int64), ag_rep (ms.take (k + 1)) f1 g1 w1 → ∀ (H : Heap) (locs : List Loc), va_P (dC, dI) agCl [(a, .inr (1, [.int (nI G), .int (nI R), .ref qm, .ref qs, .ref qt, .int (nI (k + 1)), .long (lN nw), .long (lN nw), .int (nI mo), .long (lN la), .long (lN (go + (ms.length - (k + 1)))), .long (lN sp)])), (qm, .inl (cI, 320, .inl f1)), (qs, .inl (cI, 320, .inl g1)), (qt, .inr (0, [.ref qw])), (qw, .inl (cJ, 5, .inr (.inl w1)))] H → va_D A [(a, .inr (1, [.int (nI G), .int (nI R), .ref qm, .ref qs, .ref qt, .int (nI (k + 1)), .long (lN nw), .long (lN nw), .int (nI mo), .long (lN la), .long (lN (go + (ms.length - (k + 1)))), .long (lN sp)])), (qm, .inl (cI, 320, .inl f1)), (qs, .inl (cI, 320, .inl g1)), (qt, .inr (0, [.ref qw])), (qw, .inl (cJ, 5, .inr (.inl w1)))] → va_S A s.heap H locs → ∀ ls : Array Slot, lv_has ls 3 [(2, .int (nI k)), (1, .int (nI ms.length)), (0, .ref a)] → W p l e { frames := 2, cells := 0, slots := 0, locals := 70 } s m [.ref a].toArray below meth c H locs 0 0 (MQ below (va_Qi (fun (r : Int32) (u : ag_M × (Nat → Int32) × (Nat → Int32) × (Nat → Int64)) => u.1 = ag_cutm G nw ms ∧ r = nI (ms.length - u.1.length) ∧ ag_rep u.1 u.2.1 u.2.2.1 u.2.2.2) (ag_to (dC, dI) agCl [(cI, .int), (cJ, .long)] A (fun u : ag_M × (Nat → Int32) × (Nat → Int32) × (Nat → Int64) => [(a, .inr (1, [.int (nI G), .int (nI R), .ref qm, .ref qs, .ref qt, .int (nI u.1.length), .long (lN nw), .long (lN nw), .int (nI mo), .long (lN la), .long (lN (go + (ms.length - u.1.length))), .long (lN sp)])), (qm, .inl (cI, 320, .inl u.2.1)), (qs, .inl (cI, 320, .inl u.2.2.1)), (qt, .inr (0, [.ref qw])), (qw, .inl (cJ, 5, .inr (.inl u.2.2.2)))])) A) [.ref a].toArray s 0 0 A) (F0 m 20 ls []) := by
    intro k
    induction k with
    | zero =>
      intro hk hgt f1 g1 w1 hrep1 H locs hP hD hS ls hl
      refine lv_iload_n hx hb d_A_cut_20 rfl (lv_at hl 0 rfl) ?_
      refine ag_if_le (tgt := 48) hx hb d_A_cut_21 (by decide) (by omega) (fun c21 => ?_) (fun c21 => ?_)
      · have h_n := trivial
        have hcut := ag_cut_take ms G nw 0 hso hk (by rw [h00]; omega) hgt
        refine lv_iload_n hx hb d_A_cut_48 rfl (lv_at hl 1 rfl) ?_
        refine lv_aload_n hx hb d_A_cut_49 rfl (lv_at hl 2 rfl) ?_
        refine va_get (D := (dC, dI)) (ci := 1) (v := .int (nI (0 + 1))) (C := RX1) (T := TX1) (N := 12) hx hb ht inA1 hown hK hP 0 rfl rfl 5 (by decide) (ht _ mw_f_A_43) (fun _ h9 => h9) rfl d_A_cut_50 ?_
        refine lv_isub hx hb d_A_cut_53 ?_
        refine ag_topi (nI (ms.length - (0 + 1))) (pk_sub (by omega)) ?_
        have hle : (ms.take (0 + 1)).length = 0 + 1 := by simp; omega
        rw [← hle] at hP hD
        refine ag_topi (nI (ms.length - (ms.take (0 + 1)).length)) (by rw [hle]) ?_
        exact ag_reti hx hb hr hlocks (ms.take (0 + 1), f1, g1, w1) (⟨hcut.symm, rfl, hrep1⟩) hP hK hD hS d_A_cut_54
      · have h_n := trivial
        exact absurd c21 (by omega)
    | succ i ih =>
      intro hk hgt f1 g1 w1 hrep1 H locs hP hD hS ls hl
      have hm := hmul (i + 1) hk
      have hbb := (hbd.2 _ (List.getElem_mem hk)).1
      have htl : (ms.take (i + 1 + 1)).length = i + 1 + 1 := by simp; omega
      have hki : i + 1 < (ms.take (i + 1 + 1)).length := by omega
      have hge : (ms.take (i + 1 + 1))[i + 1] = ms[i + 1] := by rw [List.getElem_take]
      have hbd1 : ag_bd (ms.take (i + 1 + 1)) := ⟨by omega, fun x hx => hbd.2 x (List.mem_of_mem_take hx)⟩
      have hn1 : ((ms.take (i + 1 + 1)).map (·.2)).Nodup := List.Pairwise.sublist ((List.take_sublist _ _).map _) hn
      refine lv_iload_n hx hb d_A_cut_20 rfl (lv_at hl 0 rfl) ?_
      refine ag_if_le (tgt := 48) hx hb d_A_cut_21 (by decide) (by omega) (fun c21 => ?_) (fun c21 => ?_)
      · have h_n := trivial
        exact absurd c21 (by omega)
      · have h_n := trivial
        refine lv_aload_n hx hb d_A_cut_24 rfl (lv_at hl 2 rfl) ?_
        refine lv_iload_n hx hb d_A_cut_25 rfl (lv_at hl 0 rfl) ?_
        have hPc := hP.sub (ws' := [(a, .inr (1, [.int (nI G), .int (nI R), .ref qm, .ref qs, .ref qt, .int (nI (i + 1 + 1)), .long (lN nw), .long (lN nw), .int (nI mo), .long (lN la), .long (lN (go + (ms.length - (i + 1 + 1)))), .long (lN sp)])), (qm, .inl (cI, 320, .inl f1)), (qs, .inl (cI, 320, .inl g1)), (qt, .inr (0, [.ref qw])), (qw, .inl (cJ, 5, .inr (.inl w1)))]) [0, 1, 2, 3, 4] rfl
        have hDc := hD.sub (ws' := [(a, .inr (1, [.int (nI G), .int (nI R), .ref qm, .ref qs, .ref qt, .int (nI (i + 1 + 1)), .long (lN nw), .long (lN nw), .int (nI mo), .long (lN la), .long (lN (go + (ms.length - (i + 1 + 1)))), .long (lN sp)])), (qm, .inl (cI, 320, .inl f1)), (qs, .inl (cI, 320, .inl g1)), (qt, .inr (0, [.ref qw])), (qw, .inl (cJ, 5, .inr (.inl w1)))]) [0, 1, 2, 3, 4] (by decide) rfl
        refine ag_cll (wc := [(a, .inr (1, [.int (nI G), .int (nI R), .ref qm, .ref qs, .ref qt, .int (nI (i + 1 + 1)), .long (lN nw), .long (lN nw), .int (nI mo), .long (lN la), .long (lN (go + (ms.length - (i + 1 + 1)))), .long (lN sp)])), (qm, .inl (cI, 320, .inl f1)), (qs, .inl (cI, 320, .inl g1)), (qt, .inr (0, [.ref qw])), (qw, .inl (cJ, 5, .inr (.inl w1)))]) (wr := []) (Wf := fun _ : Unit => [(a, .inr (1, [.int (nI G), .int (nI R), .ref qm, .ref qs, .ref qt, .int (nI (i + 1 + 1)), .long (lN nw), .long (lN nw), .int (nI mo), .long (lN la), .long (lN (go + (ms.length - (i + 1 + 1)))), .long (lN sp)])), (qm, .inl (cI, 320, .inl f1)), (qs, .inl (cI, 320, .inl g1)), (qt, .inr (0, [.ref qw])), (qw, .inl (cJ, 5, .inr (.inl w1)))]) hP hD hS hA [0, 1, 2, 3, 4] [] rfl rfl (by decide) (by decide) (va_runV (C := "AgedMarks") (As := [.int (nI (i + 1))]) (rest := []) ⟨hx, hb, hml, hown, hts⟩ (c_A_countAt l dC dI H.size a qm qs qt qw cI cJ G R (i + 1 + 1) nw nw mo la (go + (ms.length - (i + 1 + 1))) sp f1 g1 w1 (i + 1) (ms[i + 1]).1 (by omega) (by omega) hG2 (by rw [(hrep1.1 (i + 1) hki).1, hge])) (ag_cwV 1 hts mw_m_A_82 mw_instanceMethod_A_countAt mw_sel_A_countAt mw_ini_A mw_code_A_countAt rfl rfl (by decide +kernel) ⟨Nat.le_of_ble_eq_true rfl, Nat.le_of_ble_eq_true rfl⟩) ⟨ag_blind, va_recv hK hPc (ci := 1) (q0 := 0) rfl rfl, ag_pre hPc hK hDc⟩ rfl rfl hl.1 rfl (lv_room (Nat.le_of_ble_eq_true rfl)) d_A_cut_26 ⟨Nat.le_of_ble_eq_true rfl, Nat.le_of_ble_eq_true rfl⟩) (fun r1 u H locs hw hP hD hS => ?_)
        try dsimp only at hw
        subst hw
        have hP : va_P (dC, dI) agCl [(a, .inr (1, [.int (nI G), .int (nI R), .ref qm, .ref qs, .ref qt, .int (nI (i + 1 + 1)), .long (lN nw), .long (lN nw), .int (nI mo), .long (lN la), .long (lN (go + (ms.length - (i + 1 + 1)))), .long (lN sp)])), (qm, .inl (cI, 320, .inl f1)), (qs, .inl (cI, 320, .inl g1)), (qt, .inr (0, [.ref qw])), (qw, .inl (cJ, 5, .inr (.inl w1)))] H := hP
        have hD : va_D A [(a, .inr (1, [.int (nI G), .int (nI R), .ref qm, .ref qs, .ref qt, .int (nI (i + 1 + 1)), .long (lN nw), .long (lN nw), .int (nI mo), .long (lN la), .long (lN (go + (ms.length - (i + 1 + 1)))), .long (lN sp)])), (qm, .inl (cI, 320, .inl f1)), (qs, .inl (cI, 320, .inl g1)), (qt, .inr (0, [.ref qw])), (qw, .inl (cJ, 5, .inr (.inl w1)))] := hD
        refine lv_aload_n hx hb d_A_cut_29 rfl (lv_at hl 2 rfl) ?_
        refine va_get (D := (dC, dI)) (ci := 1) (v := .long (lN nw)) (C := RX1) (T := TX1) (N := 12) hx hb ht inA1 hown hK hP 0 rfl rfl 7 (by decide) (ht _ mw_f_A_67) (fun _ h9 => h9) rfl d_A_cut_30 ?_
        refine ag_lc_le (tgt := 48) hx hb d_A_cut_33 d_A_cut_34 (by decide) (fun c33 => ?_) (fun c33 => ?_)
        · have h_n := trivial
          have hle1 := (pk_lLE (by omega) (by omega)).mp c33
          have hcut := ag_cut_take ms G nw (i + 1) hso hk hle1 hgt
          refine lv_iload_n hx hb d_A_cut_48 rfl (lv_at hl 1 rfl) ?_
          refine lv_aload_n hx hb d_A_cut_49 rfl (lv_at hl 2 rfl) ?_
          refine va_get (D := (dC, dI)) (ci := 1) (v := .int (nI (i + 1 + 1))) (C := RX1) (T := TX1) (N := 12) hx hb ht inA1 hown hK hP 0 rfl rfl 5 (by decide) (ht _ mw_f_A_43) (fun _ h9 => h9) rfl d_A_cut_50 ?_
          refine lv_isub hx hb d_A_cut_53 ?_
          refine ag_topi (nI (ms.length - (i + 1 + 1))) (pk_sub (by omega)) ?_
          have hle : (ms.take (i + 1 + 1)).length = i + 1 + 1 := by simp; omega
          rw [← hle] at hP hD
          refine ag_topi (nI (ms.length - (ms.take (i + 1 + 1)).length)) (by rw [hle]) ?_
          exact ag_reti hx hb hr hlocks (ms.take (i + 1 + 1), f1, g1, w1) (⟨hcut.symm, rfl, hrep1⟩) hP hK hD hS d_A_cut_54
        · have h_n := trivial
          have hgt1 : nw < (ms[i + 1]).1 * G := by have h9 := mt (pk_lLE (a := (ms[i + 1]).1 * G) (b := nw) (by omega) (by omega)).mpr c33; omega
          refine lv_aload_n hx hb d_A_cut_37 rfl (lv_at hl 2 rfl) ?_
          refine lv_iload_n hx hb d_A_cut_38 rfl (lv_at hl 0 rfl) ?_
          rw [← htl] at hP hD
          have hPc := hP.sub (ws' := [(a, .inr (1, [.int (nI G), .int (nI R), .ref qm, .ref qs, .ref qt, .int (nI ((ms.take (i + 1 + 1)).length)), .long (lN nw), .long (lN nw), .int (nI mo), .long (lN la), .long (lN (go + (ms.length - (ms.take (i + 1 + 1)).length))), .long (lN sp)])), (qm, .inl (cI, 320, .inl f1)), (qs, .inl (cI, 320, .inl g1)), (qt, .inr (0, [.ref qw])), (qw, .inl (cJ, 5, .inr (.inl w1)))]) [0, 1, 2, 3, 4] rfl
          have hDc := hD.sub (ws' := [(a, .inr (1, [.int (nI G), .int (nI R), .ref qm, .ref qs, .ref qt, .int (nI ((ms.take (i + 1 + 1)).length)), .long (lN nw), .long (lN nw), .int (nI mo), .long (lN la), .long (lN (go + (ms.length - (ms.take (i + 1 + 1)).length))), .long (lN sp)])), (qm, .inl (cI, 320, .inl f1)), (qs, .inl (cI, 320, .inl g1)), (qt, .inr (0, [.ref qw])), (qw, .inl (cJ, 5, .inr (.inl w1)))]) [0, 1, 2, 3, 4] (by decide) rfl
          refine ag_clv (wc := [(a, .inr (1, [.int (nI G), .int (nI R), .ref qm, .ref qs, .ref qt, .int (nI ((ms.take (i + 1 + 1)).length)), .long (lN nw), .long (lN nw), .int (nI mo), .long (lN la), .long (lN (go + (ms.length - (ms.take (i + 1 + 1)).length))), .long (lN sp)])), (qm, .inl (cI, 320, .inl f1)), (qs, .inl (cI, 320, .inl g1)), (qt, .inr (0, [.ref qw])), (qw, .inl (cJ, 5, .inr (.inl w1)))]) (wr := []) (Wf := fun u : (Nat → Int32) × (Nat → Int32) × (Nat → Int64) => [(a, .inr (1, [.int (nI G), .int (nI R), .ref qm, .ref qs, .ref qt, .int (nI ((ms.take (i + 1 + 1)).length - 1)), .long (lN nw), .long (lN nw), .int (nI mo), .long (lN la), .long (lN (go + (ms.length - (ms.take (i + 1 + 1)).length) + 1)), .long (lN sp)])), (qm, .inl (cI, 320, .inl u.1)), (qs, .inl (cI, 320, .inl u.2.1)), (qt, .inr (0, [.ref qw])), (qw, .inl (cJ, 5, .inr (.inl u.2.2)))]) hP hD hS hA [0, 1, 2, 3, 4] [] rfl rfl (by decide) (by decide) (va_runV (C := "AgedMarks") (As := [.int (nI (i + 1))]) (rest := []) ⟨hx, hb, hml, hown, hts⟩ (c_A_drop l dC dI H.size a qm qs qt qw cI cJ G R nw nw mo la (go + (ms.length - (ms.take (i + 1 + 1)).length)) sp f1 g1 w1 (ms.take (i + 1 + 1)) (i + 1) hki hbd1 hn1 hrep1) (ag_cwV 1 hts mw_m_A_86 mw_instanceMethod_A_drop mw_sel_A_drop mw_ini_A mw_code_A_drop rfl rfl (by decide +kernel) ⟨Nat.le_of_ble_eq_true rfl, Nat.le_of_ble_eq_true rfl⟩) ⟨ag_blind, va_recv hK hPc (ci := 1) (q0 := 0) rfl rfl, ag_pre hPc hK hDc⟩ rfl rfl hl.1 rfl (lv_room (Nat.le_of_ble_eq_true rfl)) d_A_cut_39 ⟨Nat.le_of_ble_eq_true rfl, Nat.le_of_ble_eq_true rfl⟩) (fun u H locs hw hP hD hS => ?_)
          obtain ⟨f2, g2, w2⟩ := u
          try dsimp only at hw
          have hP : va_P (dC, dI) agCl [(a, .inr (1, [.int (nI G), .int (nI R), .ref qm, .ref qs, .ref qt, .int (nI ((ms.take (i + 1 + 1)).length - 1)), .long (lN nw), .long (lN nw), .int (nI mo), .long (lN la), .long (lN (go + (ms.length - (ms.take (i + 1 + 1)).length) + 1)), .long (lN sp)])), (qm, .inl (cI, 320, .inl f2)), (qs, .inl (cI, 320, .inl g2)), (qt, .inr (0, [.ref qw])), (qw, .inl (cJ, 5, .inr (.inl w2)))] H := hP
          have hD : va_D A [(a, .inr (1, [.int (nI G), .int (nI R), .ref qm, .ref qs, .ref qt, .int (nI ((ms.take (i + 1 + 1)).length - 1)), .long (lN nw), .long (lN nw), .int (nI mo), .long (lN la), .long (lN (go + (ms.length - (ms.take (i + 1 + 1)).length) + 1)), .long (lN sp)])), (qm, .inl (cI, 320, .inl f2)), (qs, .inl (cI, 320, .inl g2)), (qt, .inr (0, [.ref qw])), (qw, .inl (cJ, 5, .inr (.inl w2)))] := hD
          rw [ag_take_erase hk] at hw
          have e1 : (ms.take (i + 1 + 1)).length - 1 = i + 1 := by omega
          have e2 : go + (ms.length - (ms.take (i + 1 + 1)).length) + 1 = go + (ms.length - (i + 1)) := by omega
          rw [e1, e2] at hP hD
          refine lv_iinc (v := nI i) (lv' := [(2, .int (nI i)), (1, .int (nI ms.length)), (0, .ref a)]) hx hb d_A_cut_42 hl (k := 0) rfl (pk_m1 i) (by decide) rfl (fun ls hl => ?_)
          refine lv_goto (tgt := 20) hx hb d_A_cut_45 (by decide) ?_
          refine ih (by omega) (fun j hj h => ?_) f2 g2 w2 hw H locs hP hD hS ls hl
          rcases Nat.lt_or_ge (i + 1) j with q | q
          · exact hgt j hj q
          · have e9 : j = i + 1 := by omega
            subst e9
            exact hgt1
  have e3 : ms.length - 1 + 1 = ms.length := by omega
  have e4 : go + (ms.length - (ms.length - 1 + 1)) = go := by omega
  refine loop (ms.length - 1) (by omega) (fun j hj h => by omega) f g w (by rw [List.take_of_length_le (by omega)]; exact hrep) H locs ?_ ?_ hS ls hl
  · rw [e4, e3]; exact hP
  · rw [e4, e3]; exact hD

set_option maxHeartbeats 4000000 in
set_option maxRecDepth 100000 in
/-- worst(): the greatest cost -/
theorem c_A_worst (l : Launch) (dC : Nat → ClassId) (dI : Nat → Nat → Nat) (sz : Nat) (a qm qs qt qw : Nat) (cI cJ : ClassId) (G R nw en mo la go sp : Nat) (f g : Nat → Int32) (w : Nat → Int64) (ms : ag_M) (hG : 1 ≤ G) (hG2 : G ≤ 1000) (hen : en ≤ 1000000000) (hle : ∀ x ∈ ms, x.1 * G ≤ en) (hso : ms.Pairwise (fun x y => x.1 < y.1)) (hbd : ag_bd ms) (h0 : 0 < ms.length) (hrep : ag_rep ms f g w) : Met l y_A_worst (Cond.code y_A_worst b_A_worst 4 (some .long) :: agW) ({ frames := 1, cells := 0, slots := 0, locals := 24 }) (va_Pc [.ref a] (ag_at (dC, dI) agCl [(cI, .int), (cJ, .long)] sz [(a, .inr (1, [.int (nI G), .int (nI R), .ref qm, .ref qs, .ref qt, .int (nI ms.length), .long (lN nw), .long (lN en), .int (nI mo), .long (lN la), .long (lN go), .long (lN sp)])), (qm, .inl (cI, 320, .inl f)), (qs, .inl (cI, 320, .inl g)), (qt, .inr (0, [.ref qw])), (qw, .inl (cJ, 5, .inr (.inl w)))])) (va_Ql (fun (r : Int64) (_ : Unit) => r = lN (ag_wst G en ms (ms.length - 1))) (ag_to (dC, dI) agCl [(cI, .int), (cJ, .long)] (va_A [(a, .inr (1, [.int (nI G), .int (nI R), .ref qm, .ref qs, .ref qt, .int (nI ms.length), .long (lN nw), .long (lN en), .int (nI mo), .long (lN la), .long (lN go), .long (lN sp)])), (qm, .inl (cI, 320, .inl f)), (qs, .inl (cI, 320, .inl g)), (qt, .inr (0, [.ref qw])), (qw, .inl (cJ, 5, .inr (.inl w)))] sz) (fun _ : Unit => [(a, .inr (1, [.int (nI G), .int (nI R), .ref qm, .ref qs, .ref qt, .int (nI ms.length), .long (lN nw), .long (lN en), .int (nI mo), .long (lN la), .long (lN go), .long (lN sp)])), (qm, .inl (cI, 320, .inl f)), (qs, .inl (cI, 320, .inl g)), (qt, .inr (0, [.ref qw])), (qw, .inl (cJ, 5, .inr (.inl w)))])) (va_A [(a, .inr (1, [.int (nI G), .int (nI R), .ref qm, .ref qs, .ref qt, .int (nI ms.length), .long (lN nw), .long (lN en), .int (nI mo), .long (lN la), .long (lN go), .long (lN sp)])), (qm, .inl (cI, 320, .inl f)), (qs, .inl (cI, 320, .inl g)), (qt, .inr (0, [.ref qw])), (qw, .inl (cJ, 5, .inr (.inl w)))] sz)) 0 0 (va_A [(a, .inr (1, [.int (nI G), .int (nI R), .ref qm, .ref qs, .ref qt, .int (nI ms.length), .long (lN nw), .long (lN en), .int (nI mo), .long (lN la), .long (lN go), .long (lN sp)])), (qm, .inl (cI, 320, .inl f)), (qs, .inl (cI, 320, .inl g)), (qt, .inr (0, [.ref qw])), (qw, .inl (cJ, 5, .inr (.inl w)))] sz) := by
  refine ag_ofW (Qf := fun A => va_Ql (fun (r : Int64) (_ : Unit) => r = lN (ag_wst G en ms (ms.length - 1))) (ag_to (dC, dI) agCl [(cI, .int), (cJ, .long)] A (fun _ : Unit => [(a, .inr (1, [.int (nI G), .int (nI R), .ref qm, .ref qs, .ref qt, .int (nI ms.length), .long (lN nw), .long (lN en), .int (nI mo), .long (lN la), .long (lN go), .long (lN sp)])), (qm, .inl (cI, 320, .inl f)), (qs, .inl (cI, 320, .inl g)), (qt, .inr (0, [.ref qw])), (qw, .inl (cJ, 5, .inr (.inl w)))])) A) (cc := b_A_worst) (maxL := 4) (ret := (some .long)) (lv := [(0, .ref a)]) (by decide) rfl (Nat.le_of_ble_eq_true rfl) rfl (fun p e s m below meth c A ls hx hb hr hts hown hlocks hml hnm hA hS hP hK hD hl hsz => ?_)
  have hown : s.vm.findClass "AgedMarks" = some m.cls := hown
  have ht : ∀ w ∈ agW, w.before [.ref a].toArray s = true := fun w h => hts w (List.mem_cons_of_mem _ h)
  have hlen := hbd.1
  have hnum : ∀ j, j < ms.length → ag_num ms j * G ≤ en ∧ ag_num ms j ≤ 1000000 ∧ f j = nI (ag_num ms j) := fun j hj => by rw [ag_num_eq hj]; exact ⟨hle _ (List.getElem_mem hj), (hbd.2 _ (List.getElem_mem hj)).1, (hrep.1 j hj).1⟩
  have hlt : ∀ j, j + 1 < ms.length → ag_num ms j * G + 1 ≤ ag_num ms (j + 1) * G := fun j hj => by
    rw [ag_num_eq hj, ag_num_eq (show j < ms.length by omega)]
    have h1 := List.pairwise_iff_getElem.mp hso j (j + 1) (by omega) hj (by omega)
    have h2 := Nat.mul_le_mul_right G (show (ms[j]).1 + 1 ≤ (ms[j + 1]).1 by omega)
    rw [Nat.add_mul] at h2
    omega
  have hl9 := hnum (ms.length - 1) (by omega)
  refine lv_aload_n hx hb d_A_worst_0 rfl (lv_at hl 0 rfl) ?_
  refine va_get (D := (dC, dI)) (ci := 1) (v := .long (lN en)) (C := RX1) (T := TX1) (N := 12) hx hb ht inA1 hown hK hP 0 rfl rfl 7 (by decide) (ht _ mw_f_A_67) (fun _ h9 => h9) rfl d_A_worst_1 ?_
  refine lv_aload_n hx hb d_A_worst_4 rfl (lv_at hl 0 rfl) ?_
  refine lv_aload_n hx hb d_A_worst_5 rfl (lv_at hl 0 rfl) ?_
  refine va_get (D := (dC, dI)) (ci := 1) (v := .int (nI ms.length)) (C := RX1) (T := TX1) (N := 12) hx hb ht inA1 hown hK hP 0 rfl rfl 5 (by decide) (ht _ mw_f_A_43) (fun _ h9 => h9) rfl d_A_worst_6 ?_
  refine ag_iconst hx hb 1 d_A_worst_9 (by decide) ?_
  refine lv_isub hx hb d_A_worst_10 ?_
  refine ag_topi (nI (ms.length - 1)) (pk_sub (by omega)) ?_
  have hPc := hP.sub (ws' := [(a, .inr (1, [.int (nI G), .int (nI R), .ref qm, .ref qs, .ref qt, .int (nI ms.length), .long (lN nw), .long (lN en), .int (nI mo), .long (lN la), .long (lN go), .long (lN sp)])), (qm, .inl (cI, 320, .inl f)), (qs, .inl (cI, 320, .inl g)), (qt, .inr (0, [.ref qw])), (qw, .inl (cJ, 5, .inr (.inl w)))]) [0, 1, 2, 3, 4] rfl
  have hDc := hD.sub (ws' := [(a, .inr (1, [.int (nI G), .int (nI R), .ref qm, .ref qs, .ref qt, .int (nI ms.length), .long (lN nw), .long (lN en), .int (nI mo), .long (lN la), .long (lN go), .long (lN sp)])), (qm, .inl (cI, 320, .inl f)), (qs, .inl (cI, 320, .inl g)), (qt, .inr (0, [.ref qw])), (qw, .inl (cJ, 5, .inr (.inl w)))]) [0, 1, 2, 3, 4] (by decide) rfl
  refine ag_cll (wc := [(a, .inr (1, [.int (nI G), .int (nI R), .ref qm, .ref qs, .ref qt, .int (nI ms.length), .long (lN nw), .long (lN en), .int (nI mo), .long (lN la), .long (lN go), .long (lN sp)])), (qm, .inl (cI, 320, .inl f)), (qs, .inl (cI, 320, .inl g)), (qt, .inr (0, [.ref qw])), (qw, .inl (cJ, 5, .inr (.inl w)))]) (wr := []) (Wf := fun _ : Unit => [(a, .inr (1, [.int (nI G), .int (nI R), .ref qm, .ref qs, .ref qt, .int (nI ms.length), .long (lN nw), .long (lN en), .int (nI mo), .long (lN la), .long (lN go), .long (lN sp)])), (qm, .inl (cI, 320, .inl f)), (qs, .inl (cI, 320, .inl g)), (qt, .inr (0, [.ref qw])), (qw, .inl (cJ, 5, .inr (.inl w)))]) hP hD hS hA [0, 1, 2, 3, 4] [] rfl rfl (by decide) (by decide) (va_runV (C := "AgedMarks") (As := [.int (nI (ms.length - 1))]) (rest := [.long (lN en)]) ⟨hx, hb, hml, hown, hts⟩ (c_A_countAt l dC dI s.heap.size a qm qs qt qw cI cJ G R ms.length nw en mo la go sp f g w (ms.length - 1) (ag_num ms (ms.length - 1)) (by omega) (by omega) hG2 hl9.2.2) (ag_cwV 1 hts mw_m_A_82 mw_instanceMethod_A_countAt mw_sel_A_countAt mw_ini_A mw_code_A_countAt rfl rfl (by decide +kernel) ⟨Nat.le_of_ble_eq_true rfl, Nat.le_of_ble_eq_true rfl⟩) ⟨ag_blind, va_recv hK hPc (ci := 1) (q0 := 0) rfl rfl, ag_pre hPc hK hDc⟩ rfl rfl hl.1 rfl (lv_room (Nat.le_of_ble_eq_true rfl)) d_A_worst_11 ⟨Nat.le_of_ble_eq_true rfl, Nat.le_of_ble_eq_true rfl⟩) (fun r1 u H locs hw hP hD hS => ?_)
  try dsimp only at hw
  subst hw
  have hP : va_P (dC, dI) agCl [(a, .inr (1, [.int (nI G), .int (nI R), .ref qm, .ref qs, .ref qt, .int (nI ms.length), .long (lN nw), .long (lN en), .int (nI mo), .long (lN la), .long (lN go), .long (lN sp)])), (qm, .inl (cI, 320, .inl f)), (qs, .inl (cI, 320, .inl g)), (qt, .inr (0, [.ref qw])), (qw, .inl (cJ, 5, .inr (.inl w)))] H := hP
  have hD : va_D A [(a, .inr (1, [.int (nI G), .int (nI R), .ref qm, .ref qs, .ref qt, .int (nI ms.length), .long (lN nw), .long (lN en), .int (nI mo), .long (lN la), .long (lN go), .long (lN sp)])), (qm, .inl (cI, 320, .inl f)), (qs, .inl (cI, 320, .inl g)), (qt, .inr (0, [.ref qw])), (qw, .inl (cJ, 5, .inr (.inl w)))] := hD
  refine lv_lsub hx hb d_A_worst_14 ?_
  refine ag_topl (lN (en - (ag_num ms (ms.length - 1) * G))) (lN_sub (by omega)) ?_
  refine lv_lstore_n (lv' := [(1, .long (lN (en - (ag_num ms (ms.length - 1) * G)))), (0, .ref a)]) hx hb d_A_worst_15 rfl hl (by decide) rfl (fun ls hl => ?_)
  refine ag_iconst hx hb 1 d_A_worst_16 (by decide) ?_
  refine lv_istore_n (lv' := [(3, .int (nI 1)), (1, .long (lN (en - (ag_num ms (ms.length - 1) * G)))), (0, .ref a)]) hx hb d_A_worst_17 rfl hl (by decide) rfl (fun ls hl => ?_)
  have hbnd : ∀ k, k < ms.length → ag_wst G en ms k ≤ en := by
    intro k
    induction k with
    | zero => intro _; exact Nat.sub_le _ _
    | succ i ih =>
      intro hi
      have h1 := ih (by omega)
      have h2 := (hnum (i + 1) hi).1
      exact Nat.max_le.mpr ⟨h1, by omega⟩
  have loop : ∀ (n k : Nat), ms.length < k + 1 + n → k + 1 ≤ ms.length → ∀ (H : Heap) (locs : List Loc), va_P (dC, dI) agCl [(a, .inr (1, [.int (nI G), .int (nI R), .ref qm, .ref qs, .ref qt, .int (nI ms.length), .long (lN nw), .long (lN en), .int (nI mo), .long (lN la), .long (lN go), .long (lN sp)])), (qm, .inl (cI, 320, .inl f)), (qs, .inl (cI, 320, .inl g)), (qt, .inr (0, [.ref qw])), (qw, .inl (cJ, 5, .inr (.inl w)))] H → va_D A [(a, .inr (1, [.int (nI G), .int (nI R), .ref qm, .ref qs, .ref qt, .int (nI ms.length), .long (lN nw), .long (lN en), .int (nI mo), .long (lN la), .long (lN go), .long (lN sp)])), (qm, .inl (cI, 320, .inl f)), (qs, .inl (cI, 320, .inl g)), (qt, .inr (0, [.ref qw])), (qw, .inl (cJ, 5, .inr (.inl w)))] → va_S A s.heap H locs → ∀ ls : Array Slot, lv_has ls 4 [(3, .int (nI (k + 1))), (1, .long (lN (ag_wst G en ms k))), (0, .ref a)] → W p l e { frames := 1, cells := 0, slots := 0, locals := 24 } s m [.ref a].toArray below meth c H locs 0 0 (MQ below (va_Ql (fun (r : Int64) (_ : Unit) => r = lN (ag_wst G en ms (ms.length - 1))) (ag_to (dC, dI) agCl [(cI, .int), (cJ, .long)] A (fun _ : Unit => [(a, .inr (1, [.int (nI G), .int (nI R), .ref qm, .ref qs, .ref qt, .int (nI ms.length), .long (lN nw), .long (lN en), .int (nI mo), .long (lN la), .long (lN go), .long (lN sp)])), (qm, .inl (cI, 320, .inl f)), (qs, .inl (cI, 320, .inl g)), (qt, .inr (0, [.ref qw])), (qw, .inl (cJ, 5, .inr (.inl w)))])) A) [.ref a].toArray s 0 0 A) (F0 m 18 ls []) := by
    intro n
    induction n with
    | zero => intro k h1 h2; omega
    | succ n ih =>
      intro k hn hk H locs hP hD hS ls hl
      refine lv_iload_n hx hb d_A_worst_18 rfl (lv_at hl 0 rfl) ?_
      refine lv_aload_n hx hb d_A_worst_19 rfl (lv_at hl 2 rfl) ?_
      refine va_get (D := (dC, dI)) (ci := 1) (v := .int (nI ms.length)) (C := RX1) (T := TX1) (N := 12) hx hb ht inA1 hown hK hP 0 rfl rfl 5 (by decide) (ht _ mw_f_A_43) (fun _ h9 => h9) rfl d_A_worst_20 ?_
      refine ag_icmp_ge (tgt := 52) hx hb d_A_worst_23 (by decide) (by omega) (by omega) (fun c23 => ?_) (fun c23 => ?_)
      · have h_n := trivial
        refine lv_lload_n hx hb d_A_worst_52 rfl (lv_at hl 1 rfl) ?_
        exact ag_retl hx hb hr hlocks () (by rw [show k = ms.length - 1 by omega]) hP hK hD hS d_A_worst_53
      · have h_n := trivial
        have hk1 := hnum (k + 1) c23
        have hk0 := hnum k (by omega)
        have hk2 := hlt k c23
        have hk3 := hbnd k (by omega)
        refine lv_lload_n hx hb d_A_worst_26 rfl (lv_at hl 1 rfl) ?_
        refine lv_aload_n hx hb d_A_worst_27 rfl (lv_at hl 2 rfl) ?_
        refine lv_iload_n hx hb d_A_worst_28 rfl (lv_at hl 0 rfl) ?_
        have hPc := hP.sub (ws' := [(a, .inr (1, [.int (nI G), .int (nI R), .ref qm, .ref qs, .ref qt, .int (nI ms.length), .long (lN nw), .long (lN en), .int (nI mo), .long (lN la), .long (lN go), .long (lN sp)])), (qm, .inl (cI, 320, .inl f)), (qs, .inl (cI, 320, .inl g)), (qt, .inr (0, [.ref qw])), (qw, .inl (cJ, 5, .inr (.inl w)))]) [0, 1, 2, 3, 4] rfl
        have hDc := hD.sub (ws' := [(a, .inr (1, [.int (nI G), .int (nI R), .ref qm, .ref qs, .ref qt, .int (nI ms.length), .long (lN nw), .long (lN en), .int (nI mo), .long (lN la), .long (lN go), .long (lN sp)])), (qm, .inl (cI, 320, .inl f)), (qs, .inl (cI, 320, .inl g)), (qt, .inr (0, [.ref qw])), (qw, .inl (cJ, 5, .inr (.inl w)))]) [0, 1, 2, 3, 4] (by decide) rfl
        refine ag_cll (wc := [(a, .inr (1, [.int (nI G), .int (nI R), .ref qm, .ref qs, .ref qt, .int (nI ms.length), .long (lN nw), .long (lN en), .int (nI mo), .long (lN la), .long (lN go), .long (lN sp)])), (qm, .inl (cI, 320, .inl f)), (qs, .inl (cI, 320, .inl g)), (qt, .inr (0, [.ref qw])), (qw, .inl (cJ, 5, .inr (.inl w)))]) (wr := []) (Wf := fun _ : Unit => [(a, .inr (1, [.int (nI G), .int (nI R), .ref qm, .ref qs, .ref qt, .int (nI ms.length), .long (lN nw), .long (lN en), .int (nI mo), .long (lN la), .long (lN go), .long (lN sp)])), (qm, .inl (cI, 320, .inl f)), (qs, .inl (cI, 320, .inl g)), (qt, .inr (0, [.ref qw])), (qw, .inl (cJ, 5, .inr (.inl w)))]) hP hD hS hA [0, 1, 2, 3, 4] [] rfl rfl (by decide) (by decide) (va_runV (C := "AgedMarks") (As := [.int (nI (k + 1))]) (rest := [.long (lN (ag_wst G en ms k))]) ⟨hx, hb, hml, hown, hts⟩ (c_A_countAt l dC dI H.size a qm qs qt qw cI cJ G R ms.length nw en mo la go sp f g w (k + 1) (ag_num ms (k + 1)) (by omega) (by omega) hG2 hk1.2.2) (ag_cwV 1 hts mw_m_A_82 mw_instanceMethod_A_countAt mw_sel_A_countAt mw_ini_A mw_code_A_countAt rfl rfl (by decide +kernel) ⟨Nat.le_of_ble_eq_true rfl, Nat.le_of_ble_eq_true rfl⟩) ⟨ag_blind, va_recv hK hPc (ci := 1) (q0 := 0) rfl rfl, ag_pre hPc hK hDc⟩ rfl rfl hl.1 rfl (lv_room (Nat.le_of_ble_eq_true rfl)) d_A_worst_29 ⟨Nat.le_of_ble_eq_true rfl, Nat.le_of_ble_eq_true rfl⟩) (fun r2 u H locs hw hP hD hS => ?_)
        try dsimp only at hw
        subst hw
        have hP : va_P (dC, dI) agCl [(a, .inr (1, [.int (nI G), .int (nI R), .ref qm, .ref qs, .ref qt, .int (nI ms.length), .long (lN nw), .long (lN en), .int (nI mo), .long (lN la), .long (lN go), .long (lN sp)])), (qm, .inl (cI, 320, .inl f)), (qs, .inl (cI, 320, .inl g)), (qt, .inr (0, [.ref qw])), (qw, .inl (cJ, 5, .inr (.inl w)))] H := hP
        have hD : va_D A [(a, .inr (1, [.int (nI G), .int (nI R), .ref qm, .ref qs, .ref qt, .int (nI ms.length), .long (lN nw), .long (lN en), .int (nI mo), .long (lN la), .long (lN go), .long (lN sp)])), (qm, .inl (cI, 320, .inl f)), (qs, .inl (cI, 320, .inl g)), (qt, .inr (0, [.ref qw])), (qw, .inl (cJ, 5, .inr (.inl w)))] := hD
        refine ag_lconst hx hb 1 d_A_worst_32 (by decide) ?_
        refine lv_lsub hx hb d_A_worst_33 ?_
        refine ag_topl (lN ((ag_num ms (k + 1) * G) - 1)) (lN_sub (by omega)) ?_
        refine lv_aload_n hx hb d_A_worst_34 rfl (lv_at hl 2 rfl) ?_
        refine lv_iload_n hx hb d_A_worst_35 rfl (lv_at hl 0 rfl) ?_
        refine ag_iconst hx hb 1 d_A_worst_36 (by decide) ?_
        refine lv_isub hx hb d_A_worst_37 ?_
        refine ag_topi (nI k) (nI_pred k) ?_
        have hPc := hP.sub (ws' := [(a, .inr (1, [.int (nI G), .int (nI R), .ref qm, .ref qs, .ref qt, .int (nI ms.length), .long (lN nw), .long (lN en), .int (nI mo), .long (lN la), .long (lN go), .long (lN sp)])), (qm, .inl (cI, 320, .inl f)), (qs, .inl (cI, 320, .inl g)), (qt, .inr (0, [.ref qw])), (qw, .inl (cJ, 5, .inr (.inl w)))]) [0, 1, 2, 3, 4] rfl
        have hDc := hD.sub (ws' := [(a, .inr (1, [.int (nI G), .int (nI R), .ref qm, .ref qs, .ref qt, .int (nI ms.length), .long (lN nw), .long (lN en), .int (nI mo), .long (lN la), .long (lN go), .long (lN sp)])), (qm, .inl (cI, 320, .inl f)), (qs, .inl (cI, 320, .inl g)), (qt, .inr (0, [.ref qw])), (qw, .inl (cJ, 5, .inr (.inl w)))]) [0, 1, 2, 3, 4] (by decide) rfl
        refine ag_cll (wc := [(a, .inr (1, [.int (nI G), .int (nI R), .ref qm, .ref qs, .ref qt, .int (nI ms.length), .long (lN nw), .long (lN en), .int (nI mo), .long (lN la), .long (lN go), .long (lN sp)])), (qm, .inl (cI, 320, .inl f)), (qs, .inl (cI, 320, .inl g)), (qt, .inr (0, [.ref qw])), (qw, .inl (cJ, 5, .inr (.inl w)))]) (wr := []) (Wf := fun _ : Unit => [(a, .inr (1, [.int (nI G), .int (nI R), .ref qm, .ref qs, .ref qt, .int (nI ms.length), .long (lN nw), .long (lN en), .int (nI mo), .long (lN la), .long (lN go), .long (lN sp)])), (qm, .inl (cI, 320, .inl f)), (qs, .inl (cI, 320, .inl g)), (qt, .inr (0, [.ref qw])), (qw, .inl (cJ, 5, .inr (.inl w)))]) hP hD hS hA [0, 1, 2, 3, 4] [] rfl rfl (by decide) (by decide) (va_runV (C := "AgedMarks") (As := [.int (nI k)]) (rest := [.long (lN ((ag_num ms (k + 1) * G) - 1)), .long (lN (ag_wst G en ms k))]) ⟨hx, hb, hml, hown, hts⟩ (c_A_countAt l dC dI H.size a qm qs qt qw cI cJ G R ms.length nw en mo la go sp f g w (k) (ag_num ms (k)) (by omega) (by omega) hG2 hk0.2.2) (ag_cwV 1 hts mw_m_A_82 mw_instanceMethod_A_countAt mw_sel_A_countAt mw_ini_A mw_code_A_countAt rfl rfl (by decide +kernel) ⟨Nat.le_of_ble_eq_true rfl, Nat.le_of_ble_eq_true rfl⟩) ⟨ag_blind, va_recv hK hPc (ci := 1) (q0 := 0) rfl rfl, ag_pre hPc hK hDc⟩ rfl rfl hl.1 rfl (lv_room (Nat.le_of_ble_eq_true rfl)) d_A_worst_38 ⟨Nat.le_of_ble_eq_true rfl, Nat.le_of_ble_eq_true rfl⟩) (fun r3 u H locs hw hP hD hS => ?_)
        try dsimp only at hw
        subst hw
        have hP : va_P (dC, dI) agCl [(a, .inr (1, [.int (nI G), .int (nI R), .ref qm, .ref qs, .ref qt, .int (nI ms.length), .long (lN nw), .long (lN en), .int (nI mo), .long (lN la), .long (lN go), .long (lN sp)])), (qm, .inl (cI, 320, .inl f)), (qs, .inl (cI, 320, .inl g)), (qt, .inr (0, [.ref qw])), (qw, .inl (cJ, 5, .inr (.inl w)))] H := hP
        have hD : va_D A [(a, .inr (1, [.int (nI G), .int (nI R), .ref qm, .ref qs, .ref qt, .int (nI ms.length), .long (lN nw), .long (lN en), .int (nI mo), .long (lN la), .long (lN go), .long (lN sp)])), (qm, .inl (cI, 320, .inl f)), (qs, .inl (cI, 320, .inl g)), (qt, .inr (0, [.ref qw])), (qw, .inl (cJ, 5, .inr (.inl w)))] := hD
        refine lv_lsub hx hb d_A_worst_41 ?_
        refine ag_topl (lN (((ag_num ms (k + 1) * G) - 1) - (ag_num ms k * G))) (lN_sub (by omega)) ?_
        refine va_mmax_long hx hb (hml.trans hl.1.symm) hown (ht _ mw_m_A_97) (ht _ mw_static_H_max_JJJ) (ht _ mw_ini_H) (ht _ mw_code_H_max_116) (Nat.le_of_ble_eq_true rfl) (Nat.le_of_ble_eq_true rfl) (Nat.le_of_ble_eq_true rfl) (Nat.le_of_ble_eq_true rfl) d_A_worst_42 ?_
        refine ag_topl (lN (ag_wst G en ms (k + 1))) (ag_lmax (by omega) (by omega)) ?_
        refine lv_lstore_n (lv' := [(1, .long (lN (ag_wst G en ms (k + 1)))), (3, .int (nI (k + 1))), (0, .ref a)]) hx hb d_A_worst_45 rfl hl (by decide) rfl (fun ls hl => ?_)
        refine lv_iinc (v := nI (k + 1 + 1)) (lv' := [(3, .int (nI (k + 1 + 1))), (1, .long (lN (ag_wst G en ms (k + 1)))), (0, .ref a)]) hx hb d_A_worst_46 hl (k := 1) rfl (nI_1 _) (by decide) rfl (fun ls hl => ?_)
        refine lv_goto (tgt := 18) hx hb d_A_worst_49 (by decide) ?_
        exact ih (k + 1) (by omega) (by omega) H locs hP hD hS ls hl
  exact loop ms.length 0 (by omega) (by omega) H locs hP hD hS ls hl
