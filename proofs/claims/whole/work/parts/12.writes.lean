set_option maxHeartbeats 4000000 in
set_option maxRecDepth 100000 in
/-- drop(k): the mark at k goes -/
theorem c_A_drop (l : Launch) (dC : Nat → ClassId) (dI : Nat → Nat → Nat) (sz : Nat) (a qm qs qt qw : Nat) (cI cJ : ClassId) (G R nw en mo la go sp : Nat) (f g : Nat → Int32) (w : Nat → Int64) (ms : ag_M) (k : Nat) (hk : k < ms.length) (hbd : ag_bd ms) (hn : (ms.map (·.2)).Nodup) (hrep : ag_rep ms f g w) : Met l y_A_drop (Cond.code y_A_drop b_A_drop 3 none :: agW) ({ frames := 1, cells := 0, slots := 0, locals := 40 }) (va_Pc [.ref a, .int (nI k)] (ag_at (dC, dI) agCl [(cI, .int), (cJ, .long)] sz [(a, .inr (1, [.int (nI G), .int (nI R), .ref qm, .ref qs, .ref qt, .int (nI ms.length), .long (lN nw), .long (lN en), .int (nI mo), .long (lN la), .long (lN go), .long (lN sp)])), (qm, .inl (cI, 320, .inl f)), (qs, .inl (cI, 320, .inl g)), (qt, .inr (0, [.ref qw])), (qw, .inl (cJ, 5, .inr (.inl w)))])) (va_Qv (fun u : (Nat → Int32) × (Nat → Int32) × (Nat → Int64) => ag_rep (ms.eraseIdx k) u.1 u.2.1 u.2.2) (ag_to (dC, dI) agCl [(cI, .int), (cJ, .long)] (va_A [(a, .inr (1, [.int (nI G), .int (nI R), .ref qm, .ref qs, .ref qt, .int (nI ms.length), .long (lN nw), .long (lN en), .int (nI mo), .long (lN la), .long (lN go), .long (lN sp)])), (qm, .inl (cI, 320, .inl f)), (qs, .inl (cI, 320, .inl g)), (qt, .inr (0, [.ref qw])), (qw, .inl (cJ, 5, .inr (.inl w)))] sz) (fun u : (Nat → Int32) × (Nat → Int32) × (Nat → Int64) => [(a, .inr (1, [.int (nI G), .int (nI R), .ref qm, .ref qs, .ref qt, .int (nI (ms.length - 1)), .long (lN nw), .long (lN en), .int (nI mo), .long (lN la), .long (lN (go + 1)), .long (lN sp)])), (qm, .inl (cI, 320, .inl u.1)), (qs, .inl (cI, 320, .inl u.2.1)), (qt, .inr (0, [.ref qw])), (qw, .inl (cJ, 5, .inr (.inl u.2.2)))])) (va_A [(a, .inr (1, [.int (nI G), .int (nI R), .ref qm, .ref qs, .ref qt, .int (nI ms.length), .long (lN nw), .long (lN en), .int (nI mo), .long (lN la), .long (lN go), .long (lN sp)])), (qm, .inl (cI, 320, .inl f)), (qs, .inl (cI, 320, .inl g)), (qt, .inr (0, [.ref qw])), (qw, .inl (cJ, 5, .inr (.inl w)))] sz)) 0 0 (va_A [(a, .inr (1, [.int (nI G), .int (nI R), .ref qm, .ref qs, .ref qt, .int (nI ms.length), .long (lN nw), .long (lN en), .int (nI mo), .long (lN la), .long (lN go), .long (lN sp)])), (qm, .inl (cI, 320, .inl f)), (qs, .inl (cI, 320, .inl g)), (qt, .inr (0, [.ref qw])), (qw, .inl (cJ, 5, .inr (.inl w)))] sz) := by
  refine ag_ofW (Qf := fun A => va_Qv (fun u : (Nat → Int32) × (Nat → Int32) × (Nat → Int64) => ag_rep (ms.eraseIdx k) u.1 u.2.1 u.2.2) (ag_to (dC, dI) agCl [(cI, .int), (cJ, .long)] A (fun u : (Nat → Int32) × (Nat → Int32) × (Nat → Int64) => [(a, .inr (1, [.int (nI G), .int (nI R), .ref qm, .ref qs, .ref qt, .int (nI (ms.length - 1)), .long (lN nw), .long (lN en), .int (nI mo), .long (lN la), .long (lN (go + 1)), .long (lN sp)])), (qm, .inl (cI, 320, .inl u.1)), (qs, .inl (cI, 320, .inl u.2.1)), (qt, .inr (0, [.ref qw])), (qw, .inl (cJ, 5, .inr (.inl u.2.2)))])) A) (cc := b_A_drop) (maxL := 3) (ret := none) (lv := [(0, .ref a), (1, .int (nI k))]) (by decide) rfl (Nat.le_of_ble_eq_true rfl) rfl (fun p e s m below meth c A ls hx hb hr hts hown hlocks hml hnm hA hS hP hK hD hl hsz => ?_)
  have hown : s.vm.findClass "AgedMarks" = some m.cls := hown
  have ht : ∀ w ∈ agW, w.before [.ref a, .int (nI k)].toArray s = true := fun w h => hts w (List.mem_cons_of_mem _ h)
  have hlen := hbd.1
  have hsl : (ms[k]).2 < 320 := (hbd.2 _ (List.getElem_mem hk)).2
  refine lv_iload_n hx hb d_A_drop_0 rfl (lv_at hl 1 rfl) ?_
  refine ag_if_lt (tgt := 12) hx hb d_A_drop_1 (by decide) (by omega) ?_
  refine lv_iload_n hx hb d_A_drop_4 rfl (lv_at hl 1 rfl) ?_
  refine lv_aload_n hx hb d_A_drop_5 rfl (lv_at hl 0 rfl) ?_
  refine va_get (D := (dC, dI)) (ci := 1) (v := .int (nI ms.length)) (C := RX1) (T := TX1) (N := 12) hx hb ht inA1 hown hK hP 0 rfl rfl 5 (by decide) (ht _ mw_f_A_43) (fun _ h9 => h9) rfl d_A_drop_6 ?_
  refine ag_icmp_lt (tgt := 13) hx hb d_A_drop_9 (by decide) (by omega) (by omega) (fun c9 => ?_) (fun c9 => ?_)
  · have h_n := trivial
    refine lv_aload_n hx hb d_A_drop_13 rfl (lv_at hl 0 rfl) ?_
    refine va_get (D := (dC, dI)) (ci := 1) (v := .ref qt) (C := RX1) (T := TX1) (N := 12) hx hb ht inA1 hown hK hP 0 rfl rfl 4 (by decide) (ht _ mw_f_A_19) (fun _ h9 => h9) rfl d_A_drop_14 ?_
    refine lv_aload_n hx hb d_A_drop_17 rfl (lv_at hl 0 rfl) ?_
    refine va_get (D := (dC, dI)) (ci := 1) (v := .ref qs) (C := RX1) (T := TX1) (N := 12) hx hb ht inA1 hown hK hP 0 rfl rfl 3 (by decide) (ht _ mw_f_A_13) (fun _ h9 => h9) rfl d_A_drop_18 ?_
    refine lv_iload_n hx hb d_A_drop_21 rfl (lv_at hl 1 rfl) ?_
    refine ag_iald hx hb hK hP 2 0 rfl rfl (by omega) (by decide) d_A_drop_22 ?_
    refine ag_topi (nI ((ms[k]).2)) ((hrep.1 k hk).2) ?_
    have hPc := hP.sub (ws' := [(qt, .inr (0, [.ref qw])), (qw, .inl (cJ, 5, .inr (.inl w)))]) [3, 4] rfl
    have hDc := hD.sub (ws' := [(qt, .inr (0, [.ref qw])), (qw, .inl (cJ, 5, .inr (.inl w)))]) [3, 4] (by decide) rfl
    have hKc := hK.sub (tys' := [(cJ, .long)]) [1] rfl
    refine ag_clv (wc := [(qt, .inr (0, [.ref qw])), (qw, .inl (cJ, 5, .inr (.inl w)))]) (wr := [(a, .inr (1, [.int (nI G), .int (nI R), .ref qm, .ref qs, .ref qt, .int (nI ms.length), .long (lN nw), .long (lN en), .int (nI mo), .long (lN la), .long (lN go), .long (lN sp)])), (qm, .inl (cI, 320, .inl f)), (qs, .inl (cI, 320, .inl g))]) (Wf := fun u : Nat → Int64 => [(qt, .inr (0, [.ref qw])), (qw, .inl (cJ, 5, .inr (.inl u)))]) hP hD hS hA [3, 4] [0, 1, 2] rfl rfl (by decide) (by decide) (va_runV (C := "AgedMarks$Slots") (As := [.int (nI ((ms[k]).2))]) (rest := []) ⟨hx, hb, hml, hown, hts⟩ (c_S_release l dC dI s.heap.size qt qw cJ w (ms[k]).2 hsl) (ag_cwV 1 hts mw_m_A_124 mw_instanceMethod_S_release mw_sel_S_release mw_ini_S mw_code_S_release rfl rfl (by decide +kernel) ⟨Nat.le_of_ble_eq_true rfl, Nat.le_of_ble_eq_true rfl⟩) ⟨ag_blind, va_recv hK hPc (ci := 0) (q0 := 0) rfl rfl, ag_pre hPc hKc hDc⟩ rfl rfl hl.1 rfl (lv_room (Nat.le_of_ble_eq_true rfl)) d_A_drop_23 ⟨Nat.le_of_ble_eq_true rfl, Nat.le_of_ble_eq_true rfl⟩) (fun w1 H locs hw hP hD hS => ?_)
    try dsimp only at hw
    have hP : va_P (dC, dI) agCl [(a, .inr (1, [.int (nI G), .int (nI R), .ref qm, .ref qs, .ref qt, .int (nI ms.length), .long (lN nw), .long (lN en), .int (nI mo), .long (lN la), .long (lN go), .long (lN sp)])), (qm, .inl (cI, 320, .inl f)), (qs, .inl (cI, 320, .inl g)), (qt, .inr (0, [.ref qw])), (qw, .inl (cJ, 5, .inr (.inl w1)))] H := hP
    have hD : va_D A [(a, .inr (1, [.int (nI G), .int (nI R), .ref qm, .ref qs, .ref qt, .int (nI ms.length), .long (lN nw), .long (lN en), .int (nI mo), .long (lN la), .long (lN go), .long (lN sp)])), (qm, .inl (cI, 320, .inl f)), (qs, .inl (cI, 320, .inl g)), (qt, .inr (0, [.ref qw])), (qw, .inl (cJ, 5, .inr (.inl w1)))] := hD
    refine lv_aload_n hx hb d_A_drop_26 rfl (lv_at hl 0 rfl) ?_
    refine va_get (D := (dC, dI)) (ci := 1) (v := .int (nI ms.length)) (C := RX1) (T := TX1) (N := 12) hx hb ht inA1 hown hK hP 0 rfl rfl 5 (by decide) (ht _ mw_f_A_43) (fun _ h9 => h9) rfl d_A_drop_27 ?_
    refine ag_iconst hx hb 1 d_A_drop_30 (by decide) ?_
    refine lv_isub hx hb d_A_drop_31 ?_
    refine ag_topi (nI (ms.length - 1)) (pk_sub (by omega)) ?_
    refine lv_iload_n hx hb d_A_drop_32 rfl (lv_at hl 1 rfl) ?_
    refine lv_isub hx hb d_A_drop_33 ?_
    refine ag_topi (nI ((ms.length - 1) - k)) (pk_sub (by omega)) ?_
    refine lv_istore_n (lv' := [(2, .int (nI ((ms.length - 1) - k))), (0, .ref a), (1, .int (nI k))]) hx hb d_A_drop_34 rfl hl (by decide) rfl (fun ls hl => ?_)
    refine lv_aload_n hx hb d_A_drop_35 rfl (lv_at hl 1 rfl) ?_
    refine va_get (D := (dC, dI)) (ci := 1) (v := .ref qm) (C := RX1) (T := TX1) (N := 12) hx hb ht inA1 hown hK hP 0 rfl rfl 2 (by decide) (ht _ mw_f_A_9) (fun _ h9 => h9) rfl d_A_drop_36 ?_
    refine lv_iload_n hx hb d_A_drop_39 rfl (lv_at hl 2 rfl) ?_
    refine ag_iconst hx hb 1 d_A_drop_40 (by decide) ?_
    refine lv_iadd hx hb d_A_drop_41 ?_
    refine ag_topi (nI (k + 1)) (nI_add _ _) ?_
    refine lv_aload_n hx hb d_A_drop_42 rfl (lv_at hl 1 rfl) ?_
    refine va_get (D := (dC, dI)) (ci := 1) (v := .ref qm) (C := RX1) (T := TX1) (N := 12) hx hb ht inA1 hown hK hP 0 rfl rfl 2 (by decide) (ht _ mw_f_A_9) (fun _ h9 => h9) rfl d_A_drop_43 ?_
    refine lv_iload_n hx hb d_A_drop_46 rfl (lv_at hl 2 rfl) ?_
    refine lv_iload_n hx hb d_A_drop_47 rfl (lv_at hl 0 rfl) ?_
    refine ag_copyi hx hb (hml.trans hl.1.symm) hown (ht _ mw_m_A_127) (ht _ mw_native_Y_arraycopy) (ht _ mw_static_Y_arraycopy) (ht _ mw_ini_Y) hK hP hD hS 1 0 rfl rfl (sp := k + 1) (dp := k) (n := ms.length - 1 - k) (by omega) (by omega) (by decide) (Nat.le_of_ble_eq_true rfl) (Nat.le_of_ble_eq_true rfl) d_A_drop_48 (fun H locs hP hD hS => ?_)
    have hP : va_P (dC, dI) agCl [(a, .inr (1, [.int (nI G), .int (nI R), .ref qm, .ref qs, .ref qt, .int (nI ms.length), .long (lN nw), .long (lN en), .int (nI mo), .long (lN la), .long (lN go), .long (lN sp)])), (qm, .inl (cI, 320, .inl (va_cpy f f (k + 1) k (ms.length - 1 - k)))), (qs, .inl (cI, 320, .inl g)), (qt, .inr (0, [.ref qw])), (qw, .inl (cJ, 5, .inr (.inl w1)))] H := hP
    have hD : va_D A [(a, .inr (1, [.int (nI G), .int (nI R), .ref qm, .ref qs, .ref qt, .int (nI ms.length), .long (lN nw), .long (lN en), .int (nI mo), .long (lN la), .long (lN go), .long (lN sp)])), (qm, .inl (cI, 320, .inl (va_cpy f f (k + 1) k (ms.length - 1 - k)))), (qs, .inl (cI, 320, .inl g)), (qt, .inr (0, [.ref qw])), (qw, .inl (cJ, 5, .inr (.inl w1)))] := hD
    refine lv_aload_n hx hb d_A_drop_51 rfl (lv_at hl 1 rfl) ?_
    refine va_get (D := (dC, dI)) (ci := 1) (v := .ref qs) (C := RX1) (T := TX1) (N := 12) hx hb ht inA1 hown hK hP 0 rfl rfl 3 (by decide) (ht _ mw_f_A_13) (fun _ h9 => h9) rfl d_A_drop_52 ?_
    refine lv_iload_n hx hb d_A_drop_55 rfl (lv_at hl 2 rfl) ?_
    refine ag_iconst hx hb 1 d_A_drop_56 (by decide) ?_
    refine lv_iadd hx hb d_A_drop_57 ?_
    refine ag_topi (nI (k + 1)) (nI_add _ _) ?_
    refine lv_aload_n hx hb d_A_drop_58 rfl (lv_at hl 1 rfl) ?_
    refine va_get (D := (dC, dI)) (ci := 1) (v := .ref qs) (C := RX1) (T := TX1) (N := 12) hx hb ht inA1 hown hK hP 0 rfl rfl 3 (by decide) (ht _ mw_f_A_13) (fun _ h9 => h9) rfl d_A_drop_59 ?_
    refine lv_iload_n hx hb d_A_drop_62 rfl (lv_at hl 2 rfl) ?_
    refine lv_iload_n hx hb d_A_drop_63 rfl (lv_at hl 0 rfl) ?_
    refine ag_copyi hx hb (hml.trans hl.1.symm) hown (ht _ mw_m_A_127) (ht _ mw_native_Y_arraycopy) (ht _ mw_static_Y_arraycopy) (ht _ mw_ini_Y) hK hP hD hS 2 0 rfl rfl (sp := k + 1) (dp := k) (n := ms.length - 1 - k) (by omega) (by omega) (by decide) (Nat.le_of_ble_eq_true rfl) (Nat.le_of_ble_eq_true rfl) d_A_drop_64 (fun H locs hP hD hS => ?_)
    have hP : va_P (dC, dI) agCl [(a, .inr (1, [.int (nI G), .int (nI R), .ref qm, .ref qs, .ref qt, .int (nI ms.length), .long (lN nw), .long (lN en), .int (nI mo), .long (lN la), .long (lN go), .long (lN sp)])), (qm, .inl (cI, 320, .inl (va_cpy f f (k + 1) k (ms.length - 1 - k)))), (qs, .inl (cI, 320, .inl (va_cpy g g (k + 1) k (ms.length - 1 - k)))), (qt, .inr (0, [.ref qw])), (qw, .inl (cJ, 5, .inr (.inl w1)))] H := hP
    have hD : va_D A [(a, .inr (1, [.int (nI G), .int (nI R), .ref qm, .ref qs, .ref qt, .int (nI ms.length), .long (lN nw), .long (lN en), .int (nI mo), .long (lN la), .long (lN go), .long (lN sp)])), (qm, .inl (cI, 320, .inl (va_cpy f f (k + 1) k (ms.length - 1 - k)))), (qs, .inl (cI, 320, .inl (va_cpy g g (k + 1) k (ms.length - 1 - k)))), (qt, .inr (0, [.ref qw])), (qw, .inl (cJ, 5, .inr (.inl w1)))] := hD
    refine lv_aload_n hx hb d_A_drop_67 rfl (lv_at hl 1 rfl) ?_
    refine lv_dup hx hb d_A_drop_68 rfl ?_
    refine va_get (D := (dC, dI)) (ci := 1) (v := .int (nI ms.length)) (C := RX1) (T := TX1) (N := 12) hx hb ht inA1 hown hK hP 0 rfl rfl 5 (by decide) (ht _ mw_f_A_43) (fun _ h9 => h9) rfl d_A_drop_69 ?_
    refine ag_iconst hx hb 1 d_A_drop_72 (by decide) ?_
    refine lv_isub hx hb d_A_drop_73 ?_
    refine ag_topi (nI (ms.length - 1)) (pk_sub (by omega)) ?_
    refine va_put (D := (dC, dI)) (ci := 1) (v := .int (nI (ms.length - 1))) (ty := .int) (C := RX1) (T := TX1) (N := 12) hx hb ht inA1 tyX1 tyX1_ok nmX1 hown hK hP hD hS 0 rfl rfl 5 (by decide) (ht _ mw_f_A_43) (fun _ h9 => h9) rfl (by decide +kernel) rfl rfl (Nat.le_of_ble_eq_true rfl) d_A_drop_74 (fun H locs hP hD hS => ?_)
    have hP : va_P (dC, dI) agCl [(a, .inr (1, [.int (nI G), .int (nI R), .ref qm, .ref qs, .ref qt, .int (nI (ms.length - 1)), .long (lN nw), .long (lN en), .int (nI mo), .long (lN la), .long (lN go), .long (lN sp)])), (qm, .inl (cI, 320, .inl (va_cpy f f (k + 1) k (ms.length - 1 - k)))), (qs, .inl (cI, 320, .inl (va_cpy g g (k + 1) k (ms.length - 1 - k)))), (qt, .inr (0, [.ref qw])), (qw, .inl (cJ, 5, .inr (.inl w1)))] H := hP
    have hD : va_D A [(a, .inr (1, [.int (nI G), .int (nI R), .ref qm, .ref qs, .ref qt, .int (nI (ms.length - 1)), .long (lN nw), .long (lN en), .int (nI mo), .long (lN la), .long (lN go), .long (lN sp)])), (qm, .inl (cI, 320, .inl (va_cpy f f (k + 1) k (ms.length - 1 - k)))), (qs, .inl (cI, 320, .inl (va_cpy g g (k + 1) k (ms.length - 1 - k)))), (qt, .inr (0, [.ref qw])), (qw, .inl (cJ, 5, .inr (.inl w1)))] := hD
    refine lv_aload_n hx hb d_A_drop_77 rfl (lv_at hl 1 rfl) ?_
    refine lv_dup hx hb d_A_drop_78 rfl ?_
    refine va_get (D := (dC, dI)) (ci := 1) (v := .long (lN go)) (C := RX1) (T := TX1) (N := 12) hx hb ht inA1 hown hK hP 0 rfl rfl 10 (by decide) (ht _ mw_f_A_103) (fun _ h9 => h9) rfl d_A_drop_79 ?_
    refine ag_lconst hx hb 1 d_A_drop_82 (by decide) ?_
    refine lv_ladd hx hb d_A_drop_83 ?_
    refine ag_topl (lN (go + 1)) (lN_add _ _) ?_
    refine va_put (D := (dC, dI)) (ci := 1) (v := .long (lN (go + 1))) (ty := .long) (C := RX1) (T := TX1) (N := 12) hx hb ht inA1 tyX1 tyX1_ok nmX1 hown hK hP hD hS 0 rfl rfl 10 (by decide) (ht _ mw_f_A_103) (fun _ h9 => h9) rfl (by decide +kernel) rfl rfl (Nat.le_of_ble_eq_true rfl) d_A_drop_84 (fun H locs hP hD hS => ?_)
    have hP : va_P (dC, dI) agCl [(a, .inr (1, [.int (nI G), .int (nI R), .ref qm, .ref qs, .ref qt, .int (nI (ms.length - 1)), .long (lN nw), .long (lN en), .int (nI mo), .long (lN la), .long (lN (go + 1)), .long (lN sp)])), (qm, .inl (cI, 320, .inl (va_cpy f f (k + 1) k (ms.length - 1 - k)))), (qs, .inl (cI, 320, .inl (va_cpy g g (k + 1) k (ms.length - 1 - k)))), (qt, .inr (0, [.ref qw])), (qw, .inl (cJ, 5, .inr (.inl w1)))] H := hP
    have hD : va_D A [(a, .inr (1, [.int (nI G), .int (nI R), .ref qm, .ref qs, .ref qt, .int (nI (ms.length - 1)), .long (lN nw), .long (lN en), .int (nI mo), .long (lN la), .long (lN (go + 1)), .long (lN sp)])), (qm, .inl (cI, 320, .inl (va_cpy f f (k + 1) k (ms.length - 1 - k)))), (qs, .inl (cI, 320, .inl (va_cpy g g (k + 1) k (ms.length - 1 - k)))), (qt, .inr (0, [.ref qw])), (qw, .inl (cJ, 5, .inr (.inl w1)))] := hD
    exact ag_retv hx hb hr hlocks (va_cpy f f (k + 1) k (ms.length - 1 - k), va_cpy g g (k + 1) k (ms.length - 1 - k), w1) (ag_rep_del hrep hk hn (fun j _ => hw j)) hP hK hD hS d_A_drop_87
  · have h_n := trivial
    exact absurd hk (by omega)

set_option maxHeartbeats 4000000 in
set_option maxRecDepth 100000 in
/-- lay(n): mark n is laid, with the least free slot -/
theorem c_A_lay (l : Launch) (dC : Nat → ClassId) (dI : Nat → Nat → Nat) (sz : Nat) (a qm qs qt qw : Nat) (cI cJ : ClassId) (G R nw en mo la go sp : Nat) (f g : Nat → Int32) (w : Nat → Int64) (ms : ag_M) (n : Nat) (hbd : ag_bd ms) (hrep : ag_rep ms f g w) : Met l y_A_lay (Cond.code y_A_lay b_A_lay 2 none :: agW) ({ frames := 2, cells := 0, slots := 0, locals := 60 }) (va_Pc [.ref a, .int (nI n)] (ag_at (dC, dI) agCl [(cI, .int), (cJ, .long)] sz [(a, .inr (1, [.int (nI G), .int (nI R), .ref qm, .ref qs, .ref qt, .int (nI ms.length), .long (lN nw), .long (lN en), .int (nI mo), .long (lN la), .long (lN go), .long (lN sp)])), (qm, .inl (cI, 320, .inl f)), (qs, .inl (cI, 320, .inl g)), (qt, .inr (0, [.ref qw])), (qw, .inl (cJ, 5, .inr (.inl w)))])) (va_Qv (fun u : (Nat → Int32) × (Nat → Int32) × (Nat → Int64) => ag_rep (ms ++ [(n, ag_slot ms)]) u.1 u.2.1 u.2.2) (ag_to (dC, dI) agCl [(cI, .int), (cJ, .long)] (va_A [(a, .inr (1, [.int (nI G), .int (nI R), .ref qm, .ref qs, .ref qt, .int (nI ms.length), .long (lN nw), .long (lN en), .int (nI mo), .long (lN la), .long (lN go), .long (lN sp)])), (qm, .inl (cI, 320, .inl f)), (qs, .inl (cI, 320, .inl g)), (qt, .inr (0, [.ref qw])), (qw, .inl (cJ, 5, .inr (.inl w)))] sz) (fun u : (Nat → Int32) × (Nat → Int32) × (Nat → Int64) => [(a, .inr (1, [.int (nI G), .int (nI R), .ref qm, .ref qs, .ref qt, .int (nI (ms.length + 1)), .long (lN nw), .long (lN en), .int (nI mo), .long (lN (la + 1)), .long (lN go), .long (lN sp)])), (qm, .inl (cI, 320, .inl u.1)), (qs, .inl (cI, 320, .inl u.2.1)), (qt, .inr (0, [.ref qw])), (qw, .inl (cJ, 5, .inr (.inl u.2.2)))])) (va_A [(a, .inr (1, [.int (nI G), .int (nI R), .ref qm, .ref qs, .ref qt, .int (nI ms.length), .long (lN nw), .long (lN en), .int (nI mo), .long (lN la), .long (lN go), .long (lN sp)])), (qm, .inl (cI, 320, .inl f)), (qs, .inl (cI, 320, .inl g)), (qt, .inr (0, [.ref qw])), (qw, .inl (cJ, 5, .inr (.inl w)))] sz)) 0 0 (va_A [(a, .inr (1, [.int (nI G), .int (nI R), .ref qm, .ref qs, .ref qt, .int (nI ms.length), .long (lN nw), .long (lN en), .int (nI mo), .long (lN la), .long (lN go), .long (lN sp)])), (qm, .inl (cI, 320, .inl f)), (qs, .inl (cI, 320, .inl g)), (qt, .inr (0, [.ref qw])), (qw, .inl (cJ, 5, .inr (.inl w)))] sz) := by
  refine ag_ofW (Qf := fun A => va_Qv (fun u : (Nat → Int32) × (Nat → Int32) × (Nat → Int64) => ag_rep (ms ++ [(n, ag_slot ms)]) u.1 u.2.1 u.2.2) (ag_to (dC, dI) agCl [(cI, .int), (cJ, .long)] A (fun u : (Nat → Int32) × (Nat → Int32) × (Nat → Int64) => [(a, .inr (1, [.int (nI G), .int (nI R), .ref qm, .ref qs, .ref qt, .int (nI (ms.length + 1)), .long (lN nw), .long (lN en), .int (nI mo), .long (lN (la + 1)), .long (lN go), .long (lN sp)])), (qm, .inl (cI, 320, .inl u.1)), (qs, .inl (cI, 320, .inl u.2.1)), (qt, .inr (0, [.ref qw])), (qw, .inl (cJ, 5, .inr (.inl u.2.2)))])) A) (cc := b_A_lay) (maxL := 2) (ret := none) (lv := [(0, .ref a), (1, .int (nI n))]) (by decide) rfl (Nat.le_of_ble_eq_true rfl) rfl (fun p e s m below meth c A ls hx hb hr hts hown hlocks hml hnm hA hS hP hK hD hl hsz => ?_)
  have hown : s.vm.findClass "AgedMarks" = some m.cls := hown
  have ht : ∀ w ∈ agW, w.before [.ref a, .int (nI n)].toArray s = true := fun w h => hts w (List.mem_cons_of_mem _ h)
  have hlen := hbd.1
  have hsl := ag_slot_le ms
  have hlf := ag_slot_lf ms
  refine lv_aload_n hx hb d_A_lay_0 rfl (lv_at hl 0 rfl) ?_
  refine va_get (D := (dC, dI)) (ci := 1) (v := .int (nI ms.length)) (C := RX1) (T := TX1) (N := 12) hx hb ht inA1 hown hK hP 0 rfl rfl 5 (by decide) (ht _ mw_f_A_43) (fun _ h9 => h9) rfl d_A_lay_1 ?_
  refine ag_if_lt (tgt := 17) hx hb d_A_lay_4 (by decide) (by omega) ?_
  refine lv_aload_n hx hb d_A_lay_7 rfl (lv_at hl 0 rfl) ?_
  refine va_get (D := (dC, dI)) (ci := 1) (v := .int (nI ms.length)) (C := RX1) (T := TX1) (N := 12) hx hb ht inA1 hown hK hP 0 rfl rfl 5 (by decide) (ht _ mw_f_A_43) (fun _ h9 => h9) rfl d_A_lay_8 ?_
  refine ag_sipush hx hb 320 d_A_lay_11 (by decide) ?_
  refine ag_icmp_lt (tgt := 18) hx hb d_A_lay_14 (by decide) (by omega) (by omega) (fun c14 => ?_) (fun c14 => ?_)
  · have h_n := trivial
    refine lv_aload_n hx hb d_A_lay_18 rfl (lv_at hl 0 rfl) ?_
    refine va_get (D := (dC, dI)) (ci := 1) (v := .ref qm) (C := RX1) (T := TX1) (N := 12) hx hb ht inA1 hown hK hP 0 rfl rfl 2 (by decide) (ht _ mw_f_A_9) (fun _ h9 => h9) rfl d_A_lay_19 ?_
    refine lv_aload_n hx hb d_A_lay_22 rfl (lv_at hl 0 rfl) ?_
    refine va_get (D := (dC, dI)) (ci := 1) (v := .int (nI ms.length)) (C := RX1) (T := TX1) (N := 12) hx hb ht inA1 hown hK hP 0 rfl rfl 5 (by decide) (ht _ mw_f_A_43) (fun _ h9 => h9) rfl d_A_lay_23 ?_
    refine lv_iload_n hx hb d_A_lay_26 rfl (lv_at hl 1 rfl) ?_
    refine ag_iast hx hb hK hP hD hS 1 0 rfl rfl (by omega) (by decide) d_A_lay_27 (fun H locs hP hD hS => ?_)
    have hP : va_P (dC, dI) agCl [(a, .inr (1, [.int (nI G), .int (nI R), .ref qm, .ref qs, .ref qt, .int (nI ms.length), .long (lN nw), .long (lN en), .int (nI mo), .long (lN la), .long (lN go), .long (lN sp)])), (qm, .inl (cI, 320, .inl (upd f ms.length (nI n)))), (qs, .inl (cI, 320, .inl g)), (qt, .inr (0, [.ref qw])), (qw, .inl (cJ, 5, .inr (.inl w)))] H := hP
    have hD : va_D A [(a, .inr (1, [.int (nI G), .int (nI R), .ref qm, .ref qs, .ref qt, .int (nI ms.length), .long (lN nw), .long (lN en), .int (nI mo), .long (lN la), .long (lN go), .long (lN sp)])), (qm, .inl (cI, 320, .inl (upd f ms.length (nI n)))), (qs, .inl (cI, 320, .inl g)), (qt, .inr (0, [.ref qw])), (qw, .inl (cJ, 5, .inr (.inl w)))] := hD
    refine lv_aload_n hx hb d_A_lay_28 rfl (lv_at hl 0 rfl) ?_
    refine va_get (D := (dC, dI)) (ci := 1) (v := .ref qs) (C := RX1) (T := TX1) (N := 12) hx hb ht inA1 hown hK hP 0 rfl rfl 3 (by decide) (ht _ mw_f_A_13) (fun _ h9 => h9) rfl d_A_lay_29 ?_
    refine lv_aload_n hx hb d_A_lay_32 rfl (lv_at hl 0 rfl) ?_
    refine va_get (D := (dC, dI)) (ci := 1) (v := .int (nI ms.length)) (C := RX1) (T := TX1) (N := 12) hx hb ht inA1 hown hK hP 0 rfl rfl 5 (by decide) (ht _ mw_f_A_43) (fun _ h9 => h9) rfl d_A_lay_33 ?_
    refine lv_aload_n hx hb d_A_lay_36 rfl (lv_at hl 0 rfl) ?_
    refine va_get (D := (dC, dI)) (ci := 1) (v := .ref qt) (C := RX1) (T := TX1) (N := 12) hx hb ht inA1 hown hK hP 0 rfl rfl 4 (by decide) (ht _ mw_f_A_19) (fun _ h9 => h9) rfl d_A_lay_37 ?_
    have hPc := hP.sub (ws' := [(qt, .inr (0, [.ref qw])), (qw, .inl (cJ, 5, .inr (.inl w)))]) [3, 4] rfl
    have hDc := hD.sub (ws' := [(qt, .inr (0, [.ref qw])), (qw, .inl (cJ, 5, .inr (.inl w)))]) [3, 4] (by decide) rfl
    have hKc := hK.sub (tys' := [(cJ, .long)]) [1] rfl
    refine ag_cli (wc := [(qt, .inr (0, [.ref qw])), (qw, .inl (cJ, 5, .inr (.inl w)))]) (wr := [(a, .inr (1, [.int (nI G), .int (nI R), .ref qm, .ref qs, .ref qt, .int (nI ms.length), .long (lN nw), .long (lN en), .int (nI mo), .long (lN la), .long (lN go), .long (lN sp)])), (qm, .inl (cI, 320, .inl (upd f ms.length (nI n)))), (qs, .inl (cI, 320, .inl g))]) (Wf := fun u : Nat → Int64 => [(qt, .inr (0, [.ref qw])), (qw, .inl (cJ, 5, .inr (.inl u)))]) hP hD hS hA [3, 4] [0, 1, 2] rfl rfl (by decide) (by decide) (va_runV (C := "AgedMarks$Slots") (As := []) (rest := [.int (nI ms.length), .ref qs]) ⟨hx, hb, hml, hown, hts⟩ (c_S_takeLeast l dC dI H.size qt qw cJ w (ag_slot ms) (by omega) (by have h9 := mt (hrep.2 (ag_slot ms) (by omega)).mp hlf.1; simpa using h9) (fun j hj => (hrep.2 j (by omega)).mpr (hlf.2 j hj))) (ag_cwV 0 hts mw_m_A_39 mw_instanceMethod_S_takeLeast mw_sel_S_takeLeast mw_ini_S mw_code_S_takeLeast rfl rfl (by decide +kernel) ⟨Nat.le_of_ble_eq_true rfl, Nat.le_of_ble_eq_true rfl⟩) ⟨ag_blind, va_recv hK hPc (ci := 0) (q0 := 0) rfl rfl, ag_pre hPc hKc hDc⟩ rfl rfl hl.1 rfl (lv_room (Nat.le_of_ble_eq_true rfl)) d_A_lay_40 ⟨Nat.le_of_ble_eq_true rfl, Nat.le_of_ble_eq_true rfl⟩) (fun r1 w1 H locs hw hP hD hS => ?_)
    try dsimp only at hw
    obtain ⟨rfl, hw⟩ := hw
    have hP : va_P (dC, dI) agCl [(a, .inr (1, [.int (nI G), .int (nI R), .ref qm, .ref qs, .ref qt, .int (nI ms.length), .long (lN nw), .long (lN en), .int (nI mo), .long (lN la), .long (lN go), .long (lN sp)])), (qm, .inl (cI, 320, .inl (upd f ms.length (nI n)))), (qs, .inl (cI, 320, .inl g)), (qt, .inr (0, [.ref qw])), (qw, .inl (cJ, 5, .inr (.inl w1)))] H := hP
    have hD : va_D A [(a, .inr (1, [.int (nI G), .int (nI R), .ref qm, .ref qs, .ref qt, .int (nI ms.length), .long (lN nw), .long (lN en), .int (nI mo), .long (lN la), .long (lN go), .long (lN sp)])), (qm, .inl (cI, 320, .inl (upd f ms.length (nI n)))), (qs, .inl (cI, 320, .inl g)), (qt, .inr (0, [.ref qw])), (qw, .inl (cJ, 5, .inr (.inl w1)))] := hD
    refine ag_iast hx hb hK hP hD hS 2 0 rfl rfl (by omega) (by decide) d_A_lay_43 (fun H locs hP hD hS => ?_)
    have hP : va_P (dC, dI) agCl [(a, .inr (1, [.int (nI G), .int (nI R), .ref qm, .ref qs, .ref qt, .int (nI ms.length), .long (lN nw), .long (lN en), .int (nI mo), .long (lN la), .long (lN go), .long (lN sp)])), (qm, .inl (cI, 320, .inl (upd f ms.length (nI n)))), (qs, .inl (cI, 320, .inl (upd g ms.length (nI (ag_slot ms))))), (qt, .inr (0, [.ref qw])), (qw, .inl (cJ, 5, .inr (.inl w1)))] H := hP
    have hD : va_D A [(a, .inr (1, [.int (nI G), .int (nI R), .ref qm, .ref qs, .ref qt, .int (nI ms.length), .long (lN nw), .long (lN en), .int (nI mo), .long (lN la), .long (lN go), .long (lN sp)])), (qm, .inl (cI, 320, .inl (upd f ms.length (nI n)))), (qs, .inl (cI, 320, .inl (upd g ms.length (nI (ag_slot ms))))), (qt, .inr (0, [.ref qw])), (qw, .inl (cJ, 5, .inr (.inl w1)))] := hD
    refine lv_aload_n hx hb d_A_lay_44 rfl (lv_at hl 0 rfl) ?_
    refine lv_dup hx hb d_A_lay_45 rfl ?_
    refine va_get (D := (dC, dI)) (ci := 1) (v := .int (nI ms.length)) (C := RX1) (T := TX1) (N := 12) hx hb ht inA1 hown hK hP 0 rfl rfl 5 (by decide) (ht _ mw_f_A_43) (fun _ h9 => h9) rfl d_A_lay_46 ?_
    refine ag_iconst hx hb 1 d_A_lay_49 (by decide) ?_
    refine lv_iadd hx hb d_A_lay_50 ?_
    refine ag_topi (nI (ms.length + 1)) (nI_add _ _) ?_
    refine va_put (D := (dC, dI)) (ci := 1) (v := .int (nI (ms.length + 1))) (ty := .int) (C := RX1) (T := TX1) (N := 12) hx hb ht inA1 tyX1 tyX1_ok nmX1 hown hK hP hD hS 0 rfl rfl 5 (by decide) (ht _ mw_f_A_43) (fun _ h9 => h9) rfl (by decide +kernel) rfl rfl (Nat.le_of_ble_eq_true rfl) d_A_lay_51 (fun H locs hP hD hS => ?_)
    have hP : va_P (dC, dI) agCl [(a, .inr (1, [.int (nI G), .int (nI R), .ref qm, .ref qs, .ref qt, .int (nI (ms.length + 1)), .long (lN nw), .long (lN en), .int (nI mo), .long (lN la), .long (lN go), .long (lN sp)])), (qm, .inl (cI, 320, .inl (upd f ms.length (nI n)))), (qs, .inl (cI, 320, .inl (upd g ms.length (nI (ag_slot ms))))), (qt, .inr (0, [.ref qw])), (qw, .inl (cJ, 5, .inr (.inl w1)))] H := hP
    have hD : va_D A [(a, .inr (1, [.int (nI G), .int (nI R), .ref qm, .ref qs, .ref qt, .int (nI (ms.length + 1)), .long (lN nw), .long (lN en), .int (nI mo), .long (lN la), .long (lN go), .long (lN sp)])), (qm, .inl (cI, 320, .inl (upd f ms.length (nI n)))), (qs, .inl (cI, 320, .inl (upd g ms.length (nI (ag_slot ms))))), (qt, .inr (0, [.ref qw])), (qw, .inl (cJ, 5, .inr (.inl w1)))] := hD
    refine lv_aload_n hx hb d_A_lay_54 rfl (lv_at hl 0 rfl) ?_
    refine lv_dup hx hb d_A_lay_55 rfl ?_
    refine va_get (D := (dC, dI)) (ci := 1) (v := .long (lN la)) (C := RX1) (T := TX1) (N := 12) hx hb ht inA1 hown hK hP 0 rfl rfl 9 (by decide) (ht _ mw_f_A_100) (fun _ h9 => h9) rfl d_A_lay_56 ?_
    refine ag_lconst hx hb 1 d_A_lay_59 (by decide) ?_
    refine lv_ladd hx hb d_A_lay_60 ?_
    refine ag_topl (lN (la + 1)) (lN_add _ _) ?_
    refine va_put (D := (dC, dI)) (ci := 1) (v := .long (lN (la + 1))) (ty := .long) (C := RX1) (T := TX1) (N := 12) hx hb ht inA1 tyX1 tyX1_ok nmX1 hown hK hP hD hS 0 rfl rfl 9 (by decide) (ht _ mw_f_A_100) (fun _ h9 => h9) rfl (by decide +kernel) rfl rfl (Nat.le_of_ble_eq_true rfl) d_A_lay_61 (fun H locs hP hD hS => ?_)
    have hP : va_P (dC, dI) agCl [(a, .inr (1, [.int (nI G), .int (nI R), .ref qm, .ref qs, .ref qt, .int (nI (ms.length + 1)), .long (lN nw), .long (lN en), .int (nI mo), .long (lN (la + 1)), .long (lN go), .long (lN sp)])), (qm, .inl (cI, 320, .inl (upd f ms.length (nI n)))), (qs, .inl (cI, 320, .inl (upd g ms.length (nI (ag_slot ms))))), (qt, .inr (0, [.ref qw])), (qw, .inl (cJ, 5, .inr (.inl w1)))] H := hP
    have hD : va_D A [(a, .inr (1, [.int (nI G), .int (nI R), .ref qm, .ref qs, .ref qt, .int (nI (ms.length + 1)), .long (lN nw), .long (lN en), .int (nI mo), .long (lN (la + 1)), .long (lN go), .long (lN sp)])), (qm, .inl (cI, 320, .inl (upd f ms.length (nI n)))), (qs, .inl (cI, 320, .inl (upd g ms.length (nI (ag_slot ms))))), (qt, .inr (0, [.ref qw])), (qw, .inl (cJ, 5, .inr (.inl w1)))] := hD
    exact ag_retv hx hb hr hlocks (upd f ms.length (nI n), upd g ms.length (nI (ag_slot ms)), w1) (ag_rep_app hrep (fun j _ => hw j)) hP hK hD hS d_A_lay_64
  · have h_n := trivial
    exact absurd hlen (by omega)

set_option maxHeartbeats 4000000 in
set_option maxRecDepth 100000 in
/-- thin(n): the mark at n - 2 * rich * (the greatest power of 2 in n) goes, if there is one -/
theorem c_A_thin (l : Launch) (dC : Nat → ClassId) (dI : Nat → Nat → Nat) (sz : Nat) (a qm qs qt qw : Nat) (cI cJ : ClassId) (G R nw en mo la go sp : Nat) (f g : Nat → Int32) (w : Nat → Int64) (ms : ag_M) (n P : Nat) (hP9 : nI n &&& -nI n = nI P) (hPn : P ≤ n) (hn9 : n ≤ 1000000) (hR : R ≤ 16) (h0 : 0 < ms.length) (hso : ms.Pairwise (fun x y => x.1 < y.1)) (hbd : ag_bd ms) (hn : (ms.map (·.2)).Nodup) (hrep : ag_rep ms f g w) : Met l y_A_thin (Cond.code y_A_thin b_A_thin 4 none :: agW) ({ frames := 2, cells := 0, slots := 0, locals := 70 }) (va_Pc [.ref a, .int (nI n)] (ag_at (dC, dI) agCl [(cI, .int), (cJ, .long)] sz [(a, .inr (1, [.int (nI G), .int (nI R), .ref qm, .ref qs, .ref qt, .int (nI ms.length), .long (lN nw), .long (lN en), .int (nI mo), .long (lN la), .long (lN go), .long (lN sp)])), (qm, .inl (cI, 320, .inl f)), (qs, .inl (cI, 320, .inl g)), (qt, .inr (0, [.ref qw])), (qw, .inl (cJ, 5, .inr (.inl w)))])) (va_Qv (fun u : (Nat → Int32) × (Nat → Int32) × (Nat → Int64) => ag_rep (ms.filter (fun x => decide (x.1 ≠ n - 2 * R * P ∨ n < 2 * R * P))) u.1 u.2.1 u.2.2) (ag_to (dC, dI) agCl [(cI, .int), (cJ, .long)] (va_A [(a, .inr (1, [.int (nI G), .int (nI R), .ref qm, .ref qs, .ref qt, .int (nI ms.length), .long (lN nw), .long (lN en), .int (nI mo), .long (lN la), .long (lN go), .long (lN sp)])), (qm, .inl (cI, 320, .inl f)), (qs, .inl (cI, 320, .inl g)), (qt, .inr (0, [.ref qw])), (qw, .inl (cJ, 5, .inr (.inl w)))] sz) (fun u : (Nat → Int32) × (Nat → Int32) × (Nat → Int64) => [(a, .inr (1, [.int (nI G), .int (nI R), .ref qm, .ref qs, .ref qt, .int (nI ((ms.filter (fun x => decide (x.1 ≠ n - 2 * R * P ∨ n < 2 * R * P))).length)), .long (lN nw), .long (lN en), .int (nI mo), .long (lN la), .long (lN (go + (ms.length - (ms.filter (fun x => decide (x.1 ≠ n - 2 * R * P ∨ n < 2 * R * P))).length))), .long (lN sp)])), (qm, .inl (cI, 320, .inl u.1)), (qs, .inl (cI, 320, .inl u.2.1)), (qt, .inr (0, [.ref qw])), (qw, .inl (cJ, 5, .inr (.inl u.2.2)))])) (va_A [(a, .inr (1, [.int (nI G), .int (nI R), .ref qm, .ref qs, .ref qt, .int (nI ms.length), .long (lN nw), .long (lN en), .int (nI mo), .long (lN la), .long (lN go), .long (lN sp)])), (qm, .inl (cI, 320, .inl f)), (qs, .inl (cI, 320, .inl g)), (qt, .inr (0, [.ref qw])), (qw, .inl (cJ, 5, .inr (.inl w)))] sz)) 0 0 (va_A [(a, .inr (1, [.int (nI G), .int (nI R), .ref qm, .ref qs, .ref qt, .int (nI ms.length), .long (lN nw), .long (lN en), .int (nI mo), .long (lN la), .long (lN go), .long (lN sp)])), (qm, .inl (cI, 320, .inl f)), (qs, .inl (cI, 320, .inl g)), (qt, .inr (0, [.ref qw])), (qw, .inl (cJ, 5, .inr (.inl w)))] sz) := by
  refine ag_ofW (Qf := fun A => va_Qv (fun u : (Nat → Int32) × (Nat → Int32) × (Nat → Int64) => ag_rep (ms.filter (fun x => decide (x.1 ≠ n - 2 * R * P ∨ n < 2 * R * P))) u.1 u.2.1 u.2.2) (ag_to (dC, dI) agCl [(cI, .int), (cJ, .long)] A (fun u : (Nat → Int32) × (Nat → Int32) × (Nat → Int64) => [(a, .inr (1, [.int (nI G), .int (nI R), .ref qm, .ref qs, .ref qt, .int (nI ((ms.filter (fun x => decide (x.1 ≠ n - 2 * R * P ∨ n < 2 * R * P))).length)), .long (lN nw), .long (lN en), .int (nI mo), .long (lN la), .long (lN (go + (ms.length - (ms.filter (fun x => decide (x.1 ≠ n - 2 * R * P ∨ n < 2 * R * P))).length))), .long (lN sp)])), (qm, .inl (cI, 320, .inl u.1)), (qs, .inl (cI, 320, .inl u.2.1)), (qt, .inr (0, [.ref qw])), (qw, .inl (cJ, 5, .inr (.inl u.2.2)))])) A) (cc := b_A_thin) (maxL := 4) (ret := none) (lv := [(0, .ref a), (1, .int (nI n))]) (by decide) rfl (Nat.le_of_ble_eq_true rfl) rfl (fun p e s m below meth c A ls hx hb hr hts hown hlocks hml hnm hA hS hP hK hD hl hsz => ?_)
  have hown : s.vm.findClass "AgedMarks" = some m.cls := hown
  have ht : ∀ w ∈ agW, w.before [.ref a, .int (nI n)].toArray s = true := fun w h => hts w (List.mem_cons_of_mem _ h)
  have hlen := hbd.1
  have hRP : 2 * R * P ≤ 32 * P := Nat.mul_le_mul_right P (by omega)
  have hs : ∀ i j, i < j → j < ms.length → f i < f j := fun i j h1 h2 => by
    rw [(hrep.1 i (by omega)).1, (hrep.1 j h2).1]
    exact nI_lt (List.pairwise_iff_getElem.mp hso i j (by omega) h2 h1) (by have := (hbd.2 _ (List.getElem_mem h2)).1; omega)
  refine lv_iload_n hx hb d_A_thin_0 rfl (lv_at hl 1 rfl) ?_
  refine lv_iload_n hx hb d_A_thin_1 rfl (lv_at hl 1 rfl) ?_
  refine lv_ineg hx hb d_A_thin_2 ?_
  refine lv_iand hx hb d_A_thin_3 ?_
  refine ag_topi (nI P) hP9 ?_
  refine lv_istore_n (lv' := [(2, .int (nI P)), (0, .ref a), (1, .int (nI n))]) hx hb d_A_thin_4 rfl hl (by decide) rfl (fun ls hl => ?_)
  refine lv_aload_n hx hb d_A_thin_5 rfl (lv_at hl 1 rfl) ?_
  refine lv_iload_n hx hb d_A_thin_6 rfl (lv_at hl 2 rfl) ?_
  refine lv_aload_n hx hb d_A_thin_7 rfl (lv_at hl 1 rfl) ?_
  refine va_get (D := (dC, dI)) (ci := 1) (v := .int (nI R)) (C := RX1) (T := TX1) (N := 12) hx hb ht inA1 hown hK hP 0 rfl rfl 1 (by decide) (ht _ mw_f_A_36) (fun _ h9 => h9) rfl d_A_thin_8 ?_
  refine ag_iconst hx hb 2 d_A_thin_11 (by decide) ?_
  refine lv_imul hx hb d_A_thin_12 ?_
  refine ag_topi (nI (2 * R)) (by rw [pk_mul, Nat.mul_comm]) ?_
  refine lv_iload_n hx hb d_A_thin_13 rfl (lv_at hl 0 rfl) ?_
  refine lv_imul hx hb d_A_thin_14 ?_
  refine ag_topi (nI ((2 * R) * P)) (pk_mul _ _) ?_
  refine lv_isub hx hb d_A_thin_15 ?_
  refine ag_topi (nI n - nI (2 * R * P)) rfl ?_
  have hPc := hP.sub (ws' := [(a, .inr (1, [.int (nI G), .int (nI R), .ref qm, .ref qs, .ref qt, .int (nI ms.length), .long (lN nw), .long (lN en), .int (nI mo), .long (lN la), .long (lN go), .long (lN sp)])), (qm, .inl (cI, 320, .inl f)), (qs, .inl (cI, 320, .inl g)), (qt, .inr (0, [.ref qw])), (qw, .inl (cJ, 5, .inr (.inl w)))]) [0, 1, 2, 3, 4] rfl
  have hDc := hD.sub (ws' := [(a, .inr (1, [.int (nI G), .int (nI R), .ref qm, .ref qs, .ref qt, .int (nI ms.length), .long (lN nw), .long (lN en), .int (nI mo), .long (lN la), .long (lN go), .long (lN sp)])), (qm, .inl (cI, 320, .inl f)), (qs, .inl (cI, 320, .inl g)), (qt, .inr (0, [.ref qw])), (qw, .inl (cJ, 5, .inr (.inl w)))]) [0, 1, 2, 3, 4] (by decide) rfl
  refine ag_cli (wc := [(a, .inr (1, [.int (nI G), .int (nI R), .ref qm, .ref qs, .ref qt, .int (nI ms.length), .long (lN nw), .long (lN en), .int (nI mo), .long (lN la), .long (lN go), .long (lN sp)])), (qm, .inl (cI, 320, .inl f)), (qs, .inl (cI, 320, .inl g)), (qt, .inr (0, [.ref qw])), (qw, .inl (cJ, 5, .inr (.inl w)))]) (wr := []) (Wf := fun _ : Unit => [(a, .inr (1, [.int (nI G), .int (nI R), .ref qm, .ref qs, .ref qt, .int (nI ms.length), .long (lN nw), .long (lN en), .int (nI mo), .long (lN la), .long (lN go), .long (lN sp)])), (qm, .inl (cI, 320, .inl f)), (qs, .inl (cI, 320, .inl g)), (qt, .inr (0, [.ref qw])), (qw, .inl (cJ, 5, .inr (.inl w)))]) hP hD hS hA [0, 1, 2, 3, 4] [] rfl rfl (by decide) (by decide) (va_runV (C := "AgedMarks") (As := [.int (nI n - nI (2 * R * P))]) (rest := []) ⟨hx, hb, hml, hown, hts⟩ (c_A_placeOf l dC dI s.heap.size a qm qs qt qw cI cJ G R ms.length nw en mo la go sp f g w (nI n - nI (2 * R * P)) h0 (by omega) hs) (ag_cwV 1 hts mw_m_A_120 mw_instanceMethod_A_placeOf mw_sel_A_placeOf mw_ini_A mw_code_A_placeOf rfl rfl (by decide +kernel) ⟨Nat.le_of_ble_eq_true rfl, Nat.le_of_ble_eq_true rfl⟩) ⟨ag_blind, va_recv hK hPc (ci := 1) (q0 := 0) rfl rfl, ag_pre hPc hK hDc⟩ rfl rfl hl.1 rfl (lv_room (Nat.le_of_ble_eq_true rfl)) d_A_thin_16 ⟨Nat.le_of_ble_eq_true rfl, Nat.le_of_ble_eq_true rfl⟩) (fun r1 u H locs hw hP hD hS => ?_)
  try dsimp only at hw
  have hP : va_P (dC, dI) agCl [(a, .inr (1, [.int (nI G), .int (nI R), .ref qm, .ref qs, .ref qt, .int (nI ms.length), .long (lN nw), .long (lN en), .int (nI mo), .long (lN la), .long (lN go), .long (lN sp)])), (qm, .inl (cI, 320, .inl f)), (qs, .inl (cI, 320, .inl g)), (qt, .inr (0, [.ref qw])), (qw, .inl (cJ, 5, .inr (.inl w)))] H := hP
  have hD : va_D A [(a, .inr (1, [.int (nI G), .int (nI R), .ref qm, .ref qs, .ref qt, .int (nI ms.length), .long (lN nw), .long (lN en), .int (nI mo), .long (lN la), .long (lN go), .long (lN sp)])), (qm, .inl (cI, 320, .inl f)), (qs, .inl (cI, 320, .inl g)), (qt, .inr (0, [.ref qw])), (qw, .inl (cJ, 5, .inr (.inl w)))] := hD
  rcases hw with ⟨k, hk, hfk, rfl⟩ | ⟨hno, rfl⟩
  · have h_n := trivial
    have hki := (hrep.1 k hk).1
    have hb1 := (hbd.2 _ (List.getElem_mem hk)).1
    rw [hfk] at hki
    have hle : 2 * R * P ≤ n := by
      rcases Nat.lt_or_ge n (2 * R * P) with q | q
      · have h1 := pk_sneg (a := n) (b := 2 * R * P) (by omega) q
        rw [hki] at h1
        exact absurd h1 (nI_pos (by omega))
      · exact q
    have hkv : (ms[k]).1 = n - 2 * R * P := by
      rw [pk_sub hle] at hki
      exact ((nI_eq (by omega) (by omega)).mp hki).symm
    have hfe : ms.filter (fun x => decide (x.1 ≠ n - 2 * R * P ∨ n < 2 * R * P)) = ms.eraseIdx k := by
      rw [← ag_filt_erase ms (n - 2 * R * P) k hso hk hkv]
      refine List.filter_congr fun x _ => ?_
      refine decide_eq_decide.mpr ⟨fun h => ?_, Or.inl⟩
      rcases h with h | h
      · exact h
      · omega
    have hfl : (ms.eraseIdx k).length = ms.length - 1 := List.length_eraseIdx_of_lt hk
    refine lv_istore_n (lv' := [(3, .int (nI k)), (2, .int (nI P)), (0, .ref a), (1, .int (nI n))]) hx hb d_A_thin_19 rfl hl (by decide) rfl (fun ls hl => ?_)
    refine lv_iload_n hx hb d_A_thin_20 rfl (lv_at hl 0 rfl) ?_
    refine lv_iconst (v := -1) hx hb d_A_thin_21 (by decide) ?_
    refine lv_icmp_eq (tgt := 30) hx hb d_A_thin_22 (by decide) (fun c22 => ?_) (fun c22 => ?_)
    · have h_n := trivial
      exact absurd c22 (ag_nm1 (by omega))
    · have h_n := trivial
      refine lv_aload_n hx hb d_A_thin_25 rfl (lv_at hl 2 rfl) ?_
      refine lv_iload_n hx hb d_A_thin_26 rfl (lv_at hl 0 rfl) ?_
      have hPc := hP.sub (ws' := [(a, .inr (1, [.int (nI G), .int (nI R), .ref qm, .ref qs, .ref qt, .int (nI ms.length), .long (lN nw), .long (lN en), .int (nI mo), .long (lN la), .long (lN go), .long (lN sp)])), (qm, .inl (cI, 320, .inl f)), (qs, .inl (cI, 320, .inl g)), (qt, .inr (0, [.ref qw])), (qw, .inl (cJ, 5, .inr (.inl w)))]) [0, 1, 2, 3, 4] rfl
      have hDc := hD.sub (ws' := [(a, .inr (1, [.int (nI G), .int (nI R), .ref qm, .ref qs, .ref qt, .int (nI ms.length), .long (lN nw), .long (lN en), .int (nI mo), .long (lN la), .long (lN go), .long (lN sp)])), (qm, .inl (cI, 320, .inl f)), (qs, .inl (cI, 320, .inl g)), (qt, .inr (0, [.ref qw])), (qw, .inl (cJ, 5, .inr (.inl w)))]) [0, 1, 2, 3, 4] (by decide) rfl
      refine ag_clv (wc := [(a, .inr (1, [.int (nI G), .int (nI R), .ref qm, .ref qs, .ref qt, .int (nI ms.length), .long (lN nw), .long (lN en), .int (nI mo), .long (lN la), .long (lN go), .long (lN sp)])), (qm, .inl (cI, 320, .inl f)), (qs, .inl (cI, 320, .inl g)), (qt, .inr (0, [.ref qw])), (qw, .inl (cJ, 5, .inr (.inl w)))]) (wr := []) (Wf := fun u : (Nat → Int32) × (Nat → Int32) × (Nat → Int64) => [(a, .inr (1, [.int (nI G), .int (nI R), .ref qm, .ref qs, .ref qt, .int (nI (ms.length - 1)), .long (lN nw), .long (lN en), .int (nI mo), .long (lN la), .long (lN (go + 1)), .long (lN sp)])), (qm, .inl (cI, 320, .inl u.1)), (qs, .inl (cI, 320, .inl u.2.1)), (qt, .inr (0, [.ref qw])), (qw, .inl (cJ, 5, .inr (.inl u.2.2)))]) hP hD hS hA [0, 1, 2, 3, 4] [] rfl rfl (by decide) (by decide) (va_runV (C := "AgedMarks") (As := [.int (nI k)]) (rest := []) ⟨hx, hb, hml, hown, hts⟩ (c_A_drop l dC dI H.size a qm qs qt qw cI cJ G R nw en mo la go sp f g w ms k hk hbd hn hrep) (ag_cwV 1 hts mw_m_A_86 mw_instanceMethod_A_drop mw_sel_A_drop mw_ini_A mw_code_A_drop rfl rfl (by decide +kernel) ⟨Nat.le_of_ble_eq_true rfl, Nat.le_of_ble_eq_true rfl⟩) ⟨ag_blind, va_recv hK hPc (ci := 1) (q0 := 0) rfl rfl, ag_pre hPc hK hDc⟩ rfl rfl hl.1 rfl (lv_room (Nat.le_of_ble_eq_true rfl)) d_A_thin_27 ⟨Nat.le_of_ble_eq_true rfl, Nat.le_of_ble_eq_true rfl⟩) (fun u H locs hw hP hD hS => ?_)
      obtain ⟨f1, g1, w1⟩ := u
      try dsimp only at hw
      have hP : va_P (dC, dI) agCl [(a, .inr (1, [.int (nI G), .int (nI R), .ref qm, .ref qs, .ref qt, .int (nI (ms.length - 1)), .long (lN nw), .long (lN en), .int (nI mo), .long (lN la), .long (lN (go + 1)), .long (lN sp)])), (qm, .inl (cI, 320, .inl f1)), (qs, .inl (cI, 320, .inl g1)), (qt, .inr (0, [.ref qw])), (qw, .inl (cJ, 5, .inr (.inl w1)))] H := hP
      have hD : va_D A [(a, .inr (1, [.int (nI G), .int (nI R), .ref qm, .ref qs, .ref qt, .int (nI (ms.length - 1)), .long (lN nw), .long (lN en), .int (nI mo), .long (lN la), .long (lN (go + 1)), .long (lN sp)])), (qm, .inl (cI, 320, .inl f1)), (qs, .inl (cI, 320, .inl g1)), (qt, .inr (0, [.ref qw])), (qw, .inl (cJ, 5, .inr (.inl w1)))] := hD
      have e1 : ms.length - 1 = (ms.filter (fun x => decide (x.1 ≠ n - 2 * R * P ∨ n < 2 * R * P))).length := by rw [hfe, hfl]
      have e2 : go + 1 = go + (ms.length - (ms.filter (fun x => decide (x.1 ≠ n - 2 * R * P ∨ n < 2 * R * P))).length) := by rw [hfe, hfl]; omega
      rw [e1, e2] at hP hD
      exact ag_retv hx hb hr hlocks (f1, g1, w1) (by rw [hfe]; exact hw) hP hK hD hS d_A_thin_30
  · have h_n := trivial
    have hfe : ms.filter (fun x => decide (x.1 ≠ n - 2 * R * P ∨ n < 2 * R * P)) = ms := List.filter_eq_self.mpr fun x hx => by
      obtain ⟨k, hk, rfl⟩ := List.getElem_of_mem hx
      rw [decide_eq_true_eq]
      rcases Nat.lt_or_ge n (2 * R * P) with q | q
      · exact Or.inr q
      · refine Or.inl fun z => hno k hk ?_
        rw [(hrep.1 k hk).1, z, pk_sub q]
    refine lv_istore_n (lv' := [(3, .int (-1)), (2, .int (nI P)), (0, .ref a), (1, .int (nI n))]) hx hb d_A_thin_19 rfl hl (by decide) rfl (fun ls hl => ?_)
    refine lv_iload_n hx hb d_A_thin_20 rfl (lv_at hl 0 rfl) ?_
    refine lv_iconst (v := -1) hx hb d_A_thin_21 (by decide) ?_
    refine lv_icmp_eq (tgt := 30) hx hb d_A_thin_22 (by decide) (fun c22 => ?_) (fun c22 => ?_)
    · have h_n := trivial
      have e1 : ms.length = (ms.filter (fun x => decide (x.1 ≠ n - 2 * R * P ∨ n < 2 * R * P))).length := by rw [hfe]
      have e2 : go = go + (ms.length - (ms.filter (fun x => decide (x.1 ≠ n - 2 * R * P ∨ n < 2 * R * P))).length) := by rw [hfe]; omega
      rw [e1, e2] at hP hD
      exact ag_retv hx hb hr hlocks (f, g, w) (by rw [hfe]; exact hrep) hP hK hD hS d_A_thin_30
    · have h_n := trivial
      exact absurd rfl c22
