set_option maxHeartbeats 4000000 in
set_option maxRecDepth 100000 in
/-- mark(x, y) -/
theorem c_A_mark (l : Launch) (dC : Nat → ClassId) (dI : Nat → Nat → Nat) (sz : Nat) (a qm qs qt qw : Nat) (cI cJ : ClassId) (G R nw en mo la go sp : Nat) (f g : Nat → Int32) (w : Nat → Int64) (ms : ag_M) (x y : Int32) (hlx : l.stackTraces = false) (hG2 : G ≤ 1000) (hbd : ag_bd ms) (hso : ms.Pairwise (fun x y => x.1 < y.1)) (hrep : ag_rep ms f g w) : vx_Met l y_A_mark (Cond.code y_A_mark b_A_mark 3 (some .long) :: agW) ({ frames := 8, cells := 1, slots := 6, locals := 100 }) (va_Pc [.ref a, .int x, .int y] (ag_atx (dC, dI) agCl [(cI, .int), (cJ, .long)] sz [(a, .inr (1, [.int (nI G), .int (nI R), .ref qm, .ref qs, .ref qt, .int (nI ms.length), .long (lN nw), .long (lN en), .int (nI mo), .long (lN la), .long (lN go), .long (lN sp)])), (qm, .inl (cI, 320, .inl f)), (qs, .inl (cI, 320, .inl g)), (qt, .inr (0, [.ref qw])), (qw, .inl (cJ, 5, .inr (.inl w)))])) (va_Ql (fun (r : Int64) (u : Nat × Nat) => u.1 < ms.length ∧ u.2 ≤ 2 ∧ x = nI u.1 ∧ y = nI u.2 ∧ r = ag_mark G ms u.1 u.2) (ag_to (dC, dI) agCl [(cI, .int), (cJ, .long)] (va_A [(a, .inr (1, [.int (nI G), .int (nI R), .ref qm, .ref qs, .ref qt, .int (nI ms.length), .long (lN nw), .long (lN en), .int (nI mo), .long (lN la), .long (lN go), .long (lN sp)])), (qm, .inl (cI, 320, .inl f)), (qs, .inl (cI, 320, .inl g)), (qt, .inr (0, [.ref qw])), (qw, .inl (cJ, 5, .inr (.inl w)))] sz) (fun _ : Nat × Nat => [(a, .inr (1, [.int (nI G), .int (nI R), .ref qm, .ref qs, .ref qt, .int (nI ms.length), .long (lN nw), .long (lN en), .int (nI mo), .long (lN la), .long (lN go), .long (lN sp)])), (qm, .inl (cI, 320, .inl f)), (qs, .inl (cI, 320, .inl g)), (qt, .inr (0, [.ref qw])), (qw, .inl (cJ, 5, .inr (.inl w)))])) (va_A [(a, .inr (1, [.int (nI G), .int (nI R), .ref qm, .ref qs, .ref qt, .int (nI ms.length), .long (lN nw), .long (lN en), .int (nI mo), .long (lN la), .long (lN go), .long (lN sp)])), (qm, .inl (cI, 320, .inl f)), (qs, .inl (cI, 320, .inl g)), (qt, .inr (0, [.ref qw])), (qw, .inl (cJ, 5, .inr (.inl w)))] sz)) (vx_X (fun _ : Unit => True) (fun E _ t => (fun E : String => (E = xNSE ∧ ¬ ∃ k, k < ms.length ∧ x = nI k) ∨ (E = xIAE ∧ (∃ k, k < ms.length ∧ x = nI k) ∧ ¬ ∃ j, j ≤ 2 ∧ y = nI j)) E ∧ ag_to (dC, dI) agCl [(cI, .int), (cJ, .long)] (va_A [(a, .inr (1, [.int (nI G), .int (nI R), .ref qm, .ref qs, .ref qt, .int (nI ms.length), .long (lN nw), .long (lN en), .int (nI mo), .long (lN la), .long (lN go), .long (lN sp)])), (qm, .inl (cI, 320, .inl f)), (qs, .inl (cI, 320, .inl g)), (qt, .inr (0, [.ref qw])), (qw, .inl (cJ, 5, .inr (.inl w)))] sz) (fun _ : Unit => [(a, .inr (1, [.int (nI G), .int (nI R), .ref qm, .ref qs, .ref qt, .int (nI ms.length), .long (lN nw), .long (lN en), .int (nI mo), .long (lN la), .long (lN go), .long (lN sp)])), (qm, .inl (cI, 320, .inl f)), (qs, .inl (cI, 320, .inl g)), (qt, .inr (0, [.ref qw])), (qw, .inl (cJ, 5, .inr (.inl w)))]) () t) (va_A [(a, .inr (1, [.int (nI G), .int (nI R), .ref qm, .ref qs, .ref qt, .int (nI ms.length), .long (lN nw), .long (lN en), .int (nI mo), .long (lN la), .long (lN go), .long (lN sp)])), (qm, .inl (cI, 320, .inl f)), (qs, .inl (cI, 320, .inl g)), (qt, .inr (0, [.ref qw])), (qw, .inl (cJ, 5, .inr (.inl w)))] sz)) 1 6 (va_A [(a, .inr (1, [.int (nI G), .int (nI R), .ref qm, .ref qs, .ref qt, .int (nI ms.length), .long (lN nw), .long (lN en), .int (nI mo), .long (lN la), .long (lN go), .long (lN sp)])), (qm, .inl (cI, 320, .inl f)), (qs, .inl (cI, 320, .inl g)), (qt, .inr (0, [.ref qw])), (qw, .inl (cJ, 5, .inr (.inl w)))] sz) := by
  refine ag_ofX (Qf := fun A => va_Ql (fun (r : Int64) (u : Nat × Nat) => u.1 < ms.length ∧ u.2 ≤ 2 ∧ x = nI u.1 ∧ y = nI u.2 ∧ r = ag_mark G ms u.1 u.2) (ag_to (dC, dI) agCl [(cI, .int), (cJ, .long)] A (fun _ : Nat × Nat => [(a, .inr (1, [.int (nI G), .int (nI R), .ref qm, .ref qs, .ref qt, .int (nI ms.length), .long (lN nw), .long (lN en), .int (nI mo), .long (lN la), .long (lN go), .long (lN sp)])), (qm, .inl (cI, 320, .inl f)), (qs, .inl (cI, 320, .inl g)), (qt, .inr (0, [.ref qw])), (qw, .inl (cJ, 5, .inr (.inl w)))])) A) (Xf := fun A => vx_X (fun _ : Unit => True) (fun E _ t => (fun E : String => (E = xNSE ∧ ¬ ∃ k, k < ms.length ∧ x = nI k) ∨ (E = xIAE ∧ (∃ k, k < ms.length ∧ x = nI k) ∧ ¬ ∃ j, j ≤ 2 ∧ y = nI j)) E ∧ ag_to (dC, dI) agCl [(cI, .int), (cJ, .long)] A (fun _ : Unit => [(a, .inr (1, [.int (nI G), .int (nI R), .ref qm, .ref qs, .ref qt, .int (nI ms.length), .long (lN nw), .long (lN en), .int (nI mo), .long (lN la), .long (lN go), .long (lN sp)])), (qm, .inl (cI, 320, .inl f)), (qs, .inl (cI, 320, .inl g)), (qt, .inr (0, [.ref qw])), (qw, .inl (cJ, 5, .inr (.inl w)))]) () t) A) (cc := b_A_mark) (maxL := 3) (ret := (some .long)) (lv := [(0, .ref a), (1, .int x), (2, .int y)]) (by decide) rfl (Nat.le_of_ble_eq_true rfl) rfl (fun p e s m below meth c A ls hx hb hr hts hown hlocks hml hnm hA hS hP hK hD hl hsz hout hX => ?_)
  have hown : s.vm.findClass "AgedMarks" = some m.cls := hown
  have ht : ∀ w ∈ agW, w.before [.ref a, .int x, .int y].toArray s = true := fun w h => hts w (List.mem_cons_of_mem _ h)
  have hlen := hbd.1
  refine lv_iload_n hx hb d_A_mark_0 rfl (lv_at hl 1 rfl) ?_
  refine lv_if_lt (tgt := 12) hx hb d_A_mark_1 (by decide) (fun c1 => ?_) (fun c1 => ?_)
  · have h_n := trivial
    obtain ⟨sa, hstr⟩ := hX.2.2.2.2.2.2.2.2.1
    exact ag_thrN hx hb hlx hown hstr ht hX hS (hl.1.trans hml.symm) d_A_mark_12 d_A_mark_15 d_A_mark_16 d_A_mark_18 d_A_mark_21 hout (by decide) (by decide) (by decide) (by decide) hlocks (Or.inl ⟨rfl, fun ⟨k, h1, h2⟩ => by rw [h2] at c1; exact absurd c1 (nI_pos (by omega))⟩) hP hK hD (by decide) (by decide)
  · have h_n := trivial
    obtain ⟨k, hk31, rfl⟩ := nI_of c1
    refine lv_iload_n hx hb d_A_mark_4 rfl (lv_at hl 1 rfl) ?_
    refine lv_aload_n hx hb d_A_mark_5 rfl (lv_at hl 0 rfl) ?_
    refine va_get (D := (dC, dI)) (ci := 1) (v := .int (nI ms.length)) (C := RX1) (T := TX1) (N := 12) hx hb ht inA1 hown hK hP 0 rfl rfl 5 (by decide) (ht _ mw_f_A_43) (fun _ h9 => h9) rfl d_A_mark_6 ?_
    refine ag_icmp_lt (tgt := 22) hx hb d_A_mark_9 (by decide) (by omega) (by omega) (fun c9 => ?_) (fun c9 => ?_)
    · have h_n := trivial
      have hb1 := hbd.2 _ (List.getElem_mem c9)
      have hk9 : ms.length - 1 < ms.length := by omega
      have hb2 := hbd.2 _ (List.getElem_mem hk9)
      have hle9 : (ms[k]).1 ≤ (ms[ms.length - 1]).1 := by
        rcases Nat.lt_or_ge k (ms.length - 1) with q | q
        · exact Nat.le_of_lt (List.pairwise_iff_getElem.mp hso k (ms.length - 1) c9 hk9 q)
        · have e9 : k = ms.length - 1 := by omega
          subst e9
          exact Nat.le_refl _
      refine lv_iload_n hx hb d_A_mark_22 rfl (lv_at hl 2 rfl) ?_
      by_cases hlo : y.toInt < 0 ∨ 2 < y.toInt
      · have h_n := trivial
        refine lv_tableOut (tgt := 82) hx hb d_A_mark_23 hlo (by decide) ?_
        obtain ⟨sa, hstr⟩ := hX.2.2.2.2.2.2.2.2.2
        exact ag_thr hx hb hlx hown (by decide) mw_c_A_49 mw_ini_Ill hstr ag_at_IAE ag_ot_IAE ht hX hS (hl.1.trans hml.symm) d_A_mark_82 d_A_mark_85 d_A_mark_86 d_A_mark_88 d_A_mark_91 hout (by decide) (by decide) (by decide) (by decide) hlocks (Or.inr ⟨rfl, ⟨k, c9, rfl⟩, fun ⟨j, h1, h2⟩ => by rw [h2, nI_toInt (by omega)] at hlo; omega⟩) hP hK hD (by decide) (by decide)
      · have h_n := trivial
        obtain ⟨j, hj, rfl⟩ := ag_small hlo
        rcases (show j = 0 ∨ j = 1 ∨ j = 2 by omega) with rfl | rfl | rfl
        · have h_n := trivial
          refine lv_tableIn (off := 25) (tgt := 48) hx hb d_A_mark_23 (by decide) (by decide) (by decide) (by decide) ?_
          refine lv_aload_n hx hb d_A_mark_48 rfl (lv_at hl 0 rfl) ?_
          refine lv_iload_n hx hb d_A_mark_49 rfl (lv_at hl 1 rfl) ?_
          have hPc := hP.sub (ws' := [(a, .inr (1, [.int (nI G), .int (nI R), .ref qm, .ref qs, .ref qt, .int (nI ms.length), .long (lN nw), .long (lN en), .int (nI mo), .long (lN la), .long (lN go), .long (lN sp)])), (qm, .inl (cI, 320, .inl f)), (qs, .inl (cI, 320, .inl g)), (qt, .inr (0, [.ref qw])), (qw, .inl (cJ, 5, .inr (.inl w)))]) [0, 1, 2, 3, 4] rfl
          have hDc := hD.sub (ws' := [(a, .inr (1, [.int (nI G), .int (nI R), .ref qm, .ref qs, .ref qt, .int (nI ms.length), .long (lN nw), .long (lN en), .int (nI mo), .long (lN la), .long (lN go), .long (lN sp)])), (qm, .inl (cI, 320, .inl f)), (qs, .inl (cI, 320, .inl g)), (qt, .inr (0, [.ref qw])), (qw, .inl (cJ, 5, .inr (.inl w)))]) [0, 1, 2, 3, 4] (by decide) rfl
          refine ag_cll (wc := [(a, .inr (1, [.int (nI G), .int (nI R), .ref qm, .ref qs, .ref qt, .int (nI ms.length), .long (lN nw), .long (lN en), .int (nI mo), .long (lN la), .long (lN go), .long (lN sp)])), (qm, .inl (cI, 320, .inl f)), (qs, .inl (cI, 320, .inl g)), (qt, .inr (0, [.ref qw])), (qw, .inl (cJ, 5, .inr (.inl w)))]) (wr := []) (Wf := fun _ : Unit => [(a, .inr (1, [.int (nI G), .int (nI R), .ref qm, .ref qs, .ref qt, .int (nI ms.length), .long (lN nw), .long (lN en), .int (nI mo), .long (lN la), .long (lN go), .long (lN sp)])), (qm, .inl (cI, 320, .inl f)), (qs, .inl (cI, 320, .inl g)), (qt, .inr (0, [.ref qw])), (qw, .inl (cJ, 5, .inr (.inl w)))]) hP hD hS hA [0, 1, 2, 3, 4] [] rfl rfl (by decide) (by decide) (va_runV (C := "AgedMarks") (As := [.int (nI k)]) (rest := []) ⟨hx, hb, hml, hown, hts⟩ (c_A_countAt l dC dI s.heap.size a qm qs qt qw cI cJ G R ms.length nw en mo la go sp f g w k (ms[k]).1 (by omega) (by omega) hG2 (hrep.1 k c9).1) (ag_cwV 1 hts mw_m_A_82 mw_instanceMethod_A_countAt mw_sel_A_countAt mw_ini_A mw_code_A_countAt rfl rfl (by decide +kernel) ⟨Nat.le_of_ble_eq_true rfl, Nat.le_of_ble_eq_true rfl⟩) ⟨ag_blind, va_recv hK hPc (ci := 1) (q0 := 0) rfl rfl, ag_pre hPc hK hDc⟩ rfl rfl hl.1 rfl (lv_room (Nat.le_of_ble_eq_true rfl)) d_A_mark_50 ⟨Nat.le_of_ble_eq_true rfl, Nat.le_of_ble_eq_true rfl⟩) (fun r1 u H locs hw hP hD hS => ?_)
          try dsimp only at hw
          subst hw
          have hP : va_P (dC, dI) agCl [(a, .inr (1, [.int (nI G), .int (nI R), .ref qm, .ref qs, .ref qt, .int (nI ms.length), .long (lN nw), .long (lN en), .int (nI mo), .long (lN la), .long (lN go), .long (lN sp)])), (qm, .inl (cI, 320, .inl f)), (qs, .inl (cI, 320, .inl g)), (qt, .inr (0, [.ref qw])), (qw, .inl (cJ, 5, .inr (.inl w)))] H := hP
          have hD : va_D A [(a, .inr (1, [.int (nI G), .int (nI R), .ref qm, .ref qs, .ref qt, .int (nI ms.length), .long (lN nw), .long (lN en), .int (nI mo), .long (lN la), .long (lN go), .long (lN sp)])), (qm, .inl (cI, 320, .inl f)), (qs, .inl (cI, 320, .inl g)), (qt, .inr (0, [.ref qw])), (qw, .inl (cJ, 5, .inr (.inl w)))] := hD
          refine W.widen (k := 1) (n := 6) (by decide) (by decide) ?_
          refine vx_ret ?_
          exact ag_retl hx hb hr hlocks (k, 0) (⟨c9, Nat.le_of_ble_eq_true rfl, rfl, rfl, by rw [ag_mark, ag_num_eq c9]; rfl⟩) hP hK hD hS d_A_mark_53
        · have h_n := trivial
          refine lv_tableIn (off := 31) (tgt := 54) hx hb d_A_mark_23 (by decide) (by decide) (by decide) (by decide) ?_
          refine lv_aload_n hx hb d_A_mark_54 rfl (lv_at hl 0 rfl) ?_
          refine va_get (D := (dC, dI)) (ci := 1) (v := .ref qs) (C := RX1) (T := TX1) (N := 12) hx hb ht inA1 hown hK hP 0 rfl rfl 3 (by decide) (ht _ mw_f_A_13) (fun _ h9 => h9) rfl d_A_mark_55 ?_
          refine lv_iload_n hx hb d_A_mark_58 rfl (lv_at hl 1 rfl) ?_
          refine ag_iald hx hb hK hP 2 0 rfl rfl (by omega) (by decide) d_A_mark_59 ?_
          refine ag_topi (nI ((ms[k]).2)) ((hrep.1 k c9).2) ?_
          refine lv_i2l (v := lN ((ms[k]).2)) hx hb d_A_mark_60 (nI_l (by omega)) ?_
          refine W.widen (k := 1) (n := 6) (by decide) (by decide) ?_
          refine vx_ret ?_
          exact ag_retl hx hb hr hlocks (k, 1) (⟨c9, Nat.le_of_ble_eq_true rfl, rfl, rfl, by rw [ag_mark, ag_slo_eq c9]; rfl⟩) hP hK hD hS d_A_mark_61
        · have h_n := trivial
          refine lv_tableIn (off := 39) (tgt := 62) hx hb d_A_mark_23 (by decide) (by decide) (by decide) (by decide) ?_
          refine lv_aload_n hx hb d_A_mark_62 rfl (lv_at hl 0 rfl) ?_
          refine va_get (D := (dC, dI)) (ci := 1) (v := .ref qm) (C := RX1) (T := TX1) (N := 12) hx hb ht inA1 hown hK hP 0 rfl rfl 2 (by decide) (ht _ mw_f_A_9) (fun _ h9 => h9) rfl d_A_mark_63 ?_
          refine lv_aload_n hx hb d_A_mark_66 rfl (lv_at hl 0 rfl) ?_
          refine va_get (D := (dC, dI)) (ci := 1) (v := .int (nI ms.length)) (C := RX1) (T := TX1) (N := 12) hx hb ht inA1 hown hK hP 0 rfl rfl 5 (by decide) (ht _ mw_f_A_43) (fun _ h9 => h9) rfl d_A_mark_67 ?_
          refine ag_iconst hx hb 1 d_A_mark_70 (by decide) ?_
          refine lv_isub hx hb d_A_mark_71 ?_
          refine ag_topi (nI (ms.length - 1)) (pk_sub (by omega)) ?_
          refine ag_iald hx hb hK hP 1 0 rfl rfl (by omega) (by decide) d_A_mark_72 ?_
          refine ag_topi (nI ((ms[ms.length - 1]).1)) ((hrep.1 _ hk9).1) ?_
          refine lv_aload_n hx hb d_A_mark_73 rfl (lv_at hl 0 rfl) ?_
          refine va_get (D := (dC, dI)) (ci := 1) (v := .ref qm) (C := RX1) (T := TX1) (N := 12) hx hb ht inA1 hown hK hP 0 rfl rfl 2 (by decide) (ht _ mw_f_A_9) (fun _ h9 => h9) rfl d_A_mark_74 ?_
          refine lv_iload_n hx hb d_A_mark_77 rfl (lv_at hl 1 rfl) ?_
          refine ag_iald hx hb hK hP 1 0 rfl rfl (by omega) (by decide) d_A_mark_78 ?_
          refine ag_topi (nI ((ms[k]).1)) ((hrep.1 k c9).1) ?_
          refine lv_isub hx hb d_A_mark_79 ?_
          refine ag_topi (nI (((ms[ms.length - 1]).1) - ((ms[k]).1))) (pk_sub (by omega)) ?_
          refine lv_i2l (v := lN (((ms[ms.length - 1]).1) - ((ms[k]).1))) hx hb d_A_mark_80 (nI_l (by omega)) ?_
          refine W.widen (k := 1) (n := 6) (by decide) (by decide) ?_
          refine vx_ret ?_
          exact ag_retl hx hb hr hlocks (k, 2) (⟨c9, Nat.le_of_ble_eq_true rfl, rfl, rfl, by rw [ag_mark, ag_num_eq c9, ag_num_eq hk9]; rfl⟩) hP hK hD hS d_A_mark_81
    · have h_n := trivial
      obtain ⟨sa, hstr⟩ := hX.2.2.2.2.2.2.2.2.1
      exact ag_thrN hx hb hlx hown hstr ht hX hS (hl.1.trans hml.symm) d_A_mark_12 d_A_mark_15 d_A_mark_16 d_A_mark_18 d_A_mark_21 hout (by decide) (by decide) (by decide) (by decide) hlocks (Or.inl ⟨rfl, fun ⟨j, h1, h2⟩ => by have := (nI_eq (a := k) (b := j) (by omega) (by omega)).mp h2; omega⟩) hP hK hD (by decide) (by decide)
