set_option maxHeartbeats 4000000 in
set_option maxRecDepth 100000 in
/-- worst() -/
theorem c_M_worst (l : Launch) (dC : Nat → ClassId) (dI : Nat → Nat → Nat) (sz : Nat) (b qn qk : Nat) (cI : ClassId) (cd G R en nw mo la go sp : Nat) (f g : Nat → Int32) (ms : ag_M) (hG : 1 ≤ G) (hG2 : G ≤ 1000) (hen : en ≤ 1000000000) (hle : ∀ x ∈ ms, x.1 * G ≤ en) (hso : ms.Pairwise (fun x y => x.1 < y.1)) (hbd : ag_bd ms) (h0 : 0 < ms.length) (h00 : (ms[0]).1 = 0) (hrep : ag_rpm ms f g) : Met l y_M_worst (Cond.code y_M_worst b_M_worst 6 (some .long) :: agW) ({ frames := 1, cells := 0, slots := 0, locals := 24 }) (va_Pc [.ref b] (ag_at (dC, dI) agCl [(cI, .int)] sz [(b, .inr (2, [.int (nI cd), .int (nI G), .int (nI R), .long (lN en), .long (lN nw), .int (nI ms.length), .ref qn, .ref qk, .int (nI mo), .long (lN la), .long (lN go), .long (lN sp)])), (qn, .inl (cI, 1200, .inl f)), (qk, .inl (cI, 1200, .inl g))])) (va_Ql (fun (r : Int64) (_ : Unit) => r = lN (ag_wst G en ms (ms.length - 1))) (ag_to (dC, dI) agCl [(cI, .int)] (va_A [(b, .inr (2, [.int (nI cd), .int (nI G), .int (nI R), .long (lN en), .long (lN nw), .int (nI ms.length), .ref qn, .ref qk, .int (nI mo), .long (lN la), .long (lN go), .long (lN sp)])), (qn, .inl (cI, 1200, .inl f)), (qk, .inl (cI, 1200, .inl g))] sz) (fun _ : Unit => [(b, .inr (2, [.int (nI 0), .int (nI G), .int (nI R), .long (lN en), .long (lN nw), .int (nI ms.length), .ref qn, .ref qk, .int (nI mo), .long (lN la), .long (lN go), .long (lN sp)])), (qn, .inl (cI, 1200, .inl f)), (qk, .inl (cI, 1200, .inl g))])) (va_A [(b, .inr (2, [.int (nI cd), .int (nI G), .int (nI R), .long (lN en), .long (lN nw), .int (nI ms.length), .ref qn, .ref qk, .int (nI mo), .long (lN la), .long (lN go), .long (lN sp)])), (qn, .inl (cI, 1200, .inl f)), (qk, .inl (cI, 1200, .inl g))] sz)) 0 0 (va_A [(b, .inr (2, [.int (nI cd), .int (nI G), .int (nI R), .long (lN en), .long (lN nw), .int (nI ms.length), .ref qn, .ref qk, .int (nI mo), .long (lN la), .long (lN go), .long (lN sp)])), (qn, .inl (cI, 1200, .inl f)), (qk, .inl (cI, 1200, .inl g))] sz) := by
  refine ag_ofW (Qf := fun A => va_Ql (fun (r : Int64) (_ : Unit) => r = lN (ag_wst G en ms (ms.length - 1))) (ag_to (dC, dI) agCl [(cI, .int)] A (fun _ : Unit => [(b, .inr (2, [.int (nI 0), .int (nI G), .int (nI R), .long (lN en), .long (lN nw), .int (nI ms.length), .ref qn, .ref qk, .int (nI mo), .long (lN la), .long (lN go), .long (lN sp)])), (qn, .inl (cI, 1200, .inl f)), (qk, .inl (cI, 1200, .inl g))])) A) (cc := b_M_worst) (maxL := 6) (ret := (some .long)) (lv := [(0, .ref b)]) (by decide) rfl (Nat.le_of_ble_eq_true rfl) rfl (fun p e s m below meth c A ls hx hb hr hts hown hlocks hml hnm hA hS hP hK hD hl hsz => ?_)
  have hown : s.vm.findClass "AgedMarksModel" = some m.cls := hown
  have ht : ∀ w ∈ agW, w.before [.ref b].toArray s = true := fun w h => hts w (List.mem_cons_of_mem _ h)
  have hlen := hbd.1
  have hnum : ∀ j, j < ms.length → ag_num ms j * G ≤ en ∧ ag_num ms j ≤ 1000000 ∧ f j = nI (ag_num ms j) := fun j hj => by rw [ag_num_eq hj]; exact ⟨hle _ (List.getElem_mem hj), (hbd.2 _ (List.getElem_mem hj)).1, (hrep j hj).1⟩
  have hlt : ∀ i j, i < j → j < ms.length → ag_num ms i * G + 1 ≤ ag_num ms j * G := fun i j hij hj => by
    rw [ag_num_eq hj, ag_num_eq (show i < ms.length by omega)]
    have h1 := List.pairwise_iff_getElem.mp hso i j (by omega) hj hij
    have h2 := Nat.mul_le_mul_right G (show (ms[i]).1 + 1 ≤ (ms[j]).1 by omega)
    rw [Nat.add_mul] at h2
    omega
  have hcost : ∀ k, k + 1 < ms.length → ag_cost G ms (ag_num ms (k + 1) * G - 1) = ag_num ms (k + 1) * G - 1 - ag_num ms k * G := fun k hk => by
    have h1 := hlt k (k + 1) (by omega) hk
    refine ag_cost_eq ⟨k, by omega, ?_, fun j hj hkj => ?_, ?_⟩
    · rw [← ag_num_eq]; omega
    · rw [← ag_num_eq hj]
      rcases Nat.lt_or_ge (k + 1) j with q | q
      · have h2 := hlt (k + 1) j q hj; omega
      · rw [show j = k + 1 by omega]; omega
    · rw [← ag_num_eq]
  have hl9 := hnum (ms.length - 1) (by omega)
  refine lv_aload_n hx hb d_M_worst_0 rfl (lv_at hl 0 rfl) ?_
  refine ag_iconst hx hb 0 d_M_worst_1 (by decide) ?_
  refine va_put (D := (dC, dI)) (ci := 2) (v := .int (nI 0)) (ty := .int) (C := RX2) (T := TX2) (N := 12) hx hb ht inA2 tyX2 tyX2_ok nmX2 hown hK hP hD hS 0 rfl rfl 0 (by decide) (ht _ mw_f_M_29) (fun _ h9 => h9) rfl (by decide +kernel) rfl rfl (Nat.le_of_ble_eq_true rfl) d_M_worst_2 (fun H locs hP hD hS => ?_)
  have hP : va_P (dC, dI) agCl [(b, .inr (2, [.int (nI 0), .int (nI G), .int (nI R), .long (lN en), .long (lN nw), .int (nI ms.length), .ref qn, .ref qk, .int (nI mo), .long (lN la), .long (lN go), .long (lN sp)])), (qn, .inl (cI, 1200, .inl f)), (qk, .inl (cI, 1200, .inl g))] H := hP
  have hD : va_D A [(b, .inr (2, [.int (nI 0), .int (nI G), .int (nI R), .long (lN en), .long (lN nw), .int (nI ms.length), .ref qn, .ref qk, .int (nI mo), .long (lN la), .long (lN go), .long (lN sp)])), (qn, .inl (cI, 1200, .inl f)), (qk, .inl (cI, 1200, .inl g))] := hD
  refine lv_aload_n hx hb d_M_worst_5 rfl (lv_at hl 0 rfl) ?_
  refine va_get (D := (dC, dI)) (ci := 2) (v := .long (lN en)) (C := RX2) (T := TX2) (N := 12) hx hb ht inA2 hown hK hP 0 rfl rfl 3 (by decide) (ht _ mw_f_M_58) (fun _ h9 => h9) rfl d_M_worst_6 ?_
  refine lv_aload_n hx hb d_M_worst_9 rfl (lv_at hl 0 rfl) ?_
  refine va_get (D := (dC, dI)) (ci := 2) (v := .ref qn) (C := RX2) (T := TX2) (N := 12) hx hb ht inA2 hown hK hP 0 rfl rfl 6 (by decide) (ht _ mw_f_M_13) (fun _ h9 => h9) rfl d_M_worst_10 ?_
  refine lv_aload_n hx hb d_M_worst_13 rfl (lv_at hl 0 rfl) ?_
  refine va_get (D := (dC, dI)) (ci := 2) (v := .int (nI ms.length)) (C := RX2) (T := TX2) (N := 12) hx hb ht inA2 hown hK hP 0 rfl rfl 5 (by decide) (ht _ mw_f_M_7) (fun _ h9 => h9) rfl d_M_worst_14 ?_
  refine ag_iconst hx hb 1 d_M_worst_17 (by decide) ?_
  refine lv_isub hx hb d_M_worst_18 ?_
  refine ag_topi (nI (ms.length - 1)) (pk_sub (by omega)) ?_
  refine ag_iald hx hb hK hP 1 0 rfl rfl (by omega) (by decide) d_M_worst_19 ?_
  refine ag_topi (nI (ag_num ms (ms.length - 1))) hl9.2.2 ?_
  refine lv_i2l (v := lN (ag_num ms (ms.length - 1))) hx hb d_M_worst_20 (nI_l (by omega)) ?_
  refine lv_aload_n hx hb d_M_worst_21 rfl (lv_at hl 0 rfl) ?_
  refine va_get (D := (dC, dI)) (ci := 2) (v := .int (nI G)) (C := RX2) (T := TX2) (N := 12) hx hb ht inA2 hown hK hP 0 rfl rfl 1 (by decide) (ht _ mw_f_M_23) (fun _ h9 => h9) rfl d_M_worst_22 ?_
  refine lv_i2l (v := lN G) hx hb d_M_worst_25 (nI_l (by omega)) ?_
  refine lv_lmul hx hb d_M_worst_26 ?_
  refine ag_topl (lN ((ag_num ms (ms.length - 1)) * G)) (lN_mul _ _) ?_
  refine lv_lsub hx hb d_M_worst_27 ?_
  refine ag_topl (lN (en - ((ag_num ms (ms.length - 1)) * G))) (lN_sub (by omega)) ?_
  refine lv_lstore_n (lv' := [(1, .long (lN (en - ((ag_num ms (ms.length - 1)) * G)))), (0, .ref b)]) hx hb d_M_worst_28 rfl hl (by decide) rfl (fun ls hl => ?_)
  refine ag_iconst hx hb 1 d_M_worst_29 (by decide) ?_
  refine lv_istore_n (lv' := [(3, .int (nI 1)), (1, .long (lN (en - ((ag_num ms (ms.length - 1)) * G)))), (0, .ref b)]) hx hb d_M_worst_30 rfl hl (by decide) rfl (fun ls hl => ?_)
  have hbnd : ∀ k, k < ms.length → ag_wst G en ms k ≤ en := by
    intro k
    induction k with
    | zero => intro _; exact Nat.sub_le _ _
    | succ i ih =>
      intro hi
      have h1 := ih (by omega)
      have h2 := (hnum (i + 1) hi).1
      exact Nat.max_le.mpr ⟨h1, by omega⟩
  have loop : ∀ (n k : Nat), ms.length < k + 1 + n → k + 1 ≤ ms.length → ∀ (H : Heap) (locs : List Loc), va_P (dC, dI) agCl [(b, .inr (2, [.int (nI 0), .int (nI G), .int (nI R), .long (lN en), .long (lN nw), .int (nI ms.length), .ref qn, .ref qk, .int (nI mo), .long (lN la), .long (lN go), .long (lN sp)])), (qn, .inl (cI, 1200, .inl f)), (qk, .inl (cI, 1200, .inl g))] H → va_D A [(b, .inr (2, [.int (nI 0), .int (nI G), .int (nI R), .long (lN en), .long (lN nw), .int (nI ms.length), .ref qn, .ref qk, .int (nI mo), .long (lN la), .long (lN go), .long (lN sp)])), (qn, .inl (cI, 1200, .inl f)), (qk, .inl (cI, 1200, .inl g))] → va_S A s.heap H locs → ∀ ls : Array Slot, lv_has ls 6 [(3, .int (nI (k + 1))), (1, .long (lN (ag_wst G en ms k))), (0, .ref b)] → W p l e { frames := 1, cells := 0, slots := 0, locals := 24 } s m [.ref b].toArray below meth c H locs 0 0 (MQ below (va_Ql (fun (r : Int64) (_ : Unit) => r = lN (ag_wst G en ms (ms.length - 1))) (ag_to (dC, dI) agCl [(cI, .int)] A (fun _ : Unit => [(b, .inr (2, [.int (nI 0), .int (nI G), .int (nI R), .long (lN en), .long (lN nw), .int (nI ms.length), .ref qn, .ref qk, .int (nI mo), .long (lN la), .long (lN go), .long (lN sp)])), (qn, .inl (cI, 1200, .inl f)), (qk, .inl (cI, 1200, .inl g))])) A) [.ref b].toArray s 0 0 A) (F0 m 31 ls []) := by
    intro n
    induction n with
    | zero => intro k h1 h2; omega
    | succ n ih =>
      intro k hn hk H locs hP hD hS ls hl
      refine lv_iload_n hx hb d_M_worst_31 rfl (lv_at hl 0 rfl) ?_
      refine lv_aload_n hx hb d_M_worst_32 rfl (lv_at hl 2 rfl) ?_
      refine va_get (D := (dC, dI)) (ci := 2) (v := .int (nI ms.length)) (C := RX2) (T := TX2) (N := 12) hx hb ht inA2 hown hK hP 0 rfl rfl 5 (by decide) (ht _ mw_f_M_7) (fun _ h9 => h9) rfl d_M_worst_33 ?_
      refine ag_icmp_ge (tgt := 80) hx hb d_M_worst_36 (by decide) (by omega) (by omega) (fun c36 => ?_) (fun c36 => ?_)
      · have h_n := trivial
        refine lv_lload_n hx hb d_M_worst_80 rfl (lv_at hl 1 rfl) ?_
        exact ag_retl hx hb hr hlocks () (by rw [show k = ms.length - 1 by omega]) hP hK hD hS d_M_worst_81
      · have h_n := trivial
        have hk1 := hnum (k + 1) c36
        have hk0 := hnum k (by omega)
        have hk2 := hlt k (k + 1) (by omega) c36
        have hk3 := hbnd k (by omega)
        refine lv_aload_n hx hb d_M_worst_39 rfl (lv_at hl 2 rfl) ?_
        refine lv_aload_n hx hb d_M_worst_40 rfl (lv_at hl 2 rfl) ?_
        refine va_get (D := (dC, dI)) (ci := 2) (v := .ref qn) (C := RX2) (T := TX2) (N := 12) hx hb ht inA2 hown hK hP 0 rfl rfl 6 (by decide) (ht _ mw_f_M_13) (fun _ h9 => h9) rfl d_M_worst_41 ?_
        refine lv_iload_n hx hb d_M_worst_44 rfl (lv_at hl 0 rfl) ?_
        refine ag_iald hx hb hK hP 1 0 rfl rfl (by omega) (by decide) d_M_worst_45 ?_
        refine ag_topi (nI (ag_num ms (k + 1))) hk1.2.2 ?_
        refine lv_i2l (v := lN (ag_num ms (k + 1))) hx hb d_M_worst_46 (nI_l (by omega)) ?_
        refine lv_aload_n hx hb d_M_worst_47 rfl (lv_at hl 2 rfl) ?_
        refine va_get (D := (dC, dI)) (ci := 2) (v := .int (nI G)) (C := RX2) (T := TX2) (N := 12) hx hb ht inA2 hown hK hP 0 rfl rfl 1 (by decide) (ht _ mw_f_M_23) (fun _ h9 => h9) rfl d_M_worst_48 ?_
        refine lv_i2l (v := lN G) hx hb d_M_worst_51 (nI_l (by omega)) ?_
        refine lv_lmul hx hb d_M_worst_52 ?_
        refine ag_topl (lN ((ag_num ms (k + 1)) * G)) (lN_mul _ _) ?_
        refine ag_lconst hx hb 1 d_M_worst_53 (by decide) ?_
        refine lv_lsub hx hb d_M_worst_54 ?_
        refine ag_topl (lN (((ag_num ms (k + 1)) * G) - 1)) (lN_sub (by omega)) ?_
        have hPc := hP.sub (ws' := [(b, .inr (2, [.int (nI 0), .int (nI G), .int (nI R), .long (lN en), .long (lN nw), .int (nI ms.length), .ref qn, .ref qk, .int (nI mo), .long (lN la), .long (lN go), .long (lN sp)])), (qn, .inl (cI, 1200, .inl f)), (qk, .inl (cI, 1200, .inl g))]) [0, 1, 2] rfl
        have hDc := hD.sub (ws' := [(b, .inr (2, [.int (nI 0), .int (nI G), .int (nI R), .long (lN en), .long (lN nw), .int (nI ms.length), .ref qn, .ref qk, .int (nI mo), .long (lN la), .long (lN go), .long (lN sp)])), (qn, .inl (cI, 1200, .inl f)), (qk, .inl (cI, 1200, .inl g))]) [0, 1, 2] (by decide) rfl
        refine ag_cll (wc := [(b, .inr (2, [.int (nI 0), .int (nI G), .int (nI R), .long (lN en), .long (lN nw), .int (nI ms.length), .ref qn, .ref qk, .int (nI mo), .long (lN la), .long (lN go), .long (lN sp)])), (qn, .inl (cI, 1200, .inl f)), (qk, .inl (cI, 1200, .inl g))]) (wr := []) (Wf := fun _ : Unit => [(b, .inr (2, [.int (nI 0), .int (nI G), .int (nI R), .long (lN en), .long (lN nw), .int (nI ms.length), .ref qn, .ref qk, .int (nI mo), .long (lN la), .long (lN go), .long (lN sp)])), (qn, .inl (cI, 1200, .inl f)), (qk, .inl (cI, 1200, .inl g))]) hP hD hS hA [0, 1, 2] [] rfl rfl (by decide) (by decide) (va_runV (C := "AgedMarksModel") (As := [.long (lN (((ag_num ms (k + 1)) * G) - 1))]) (rest := []) ⟨hx, hb, hml, hown, hts⟩ (c_M_cost l dC dI H.size b qn qk cI 0 G R en nw mo la go sp f g ms (ag_num ms (k + 1) * G - 1) hG2 (by omega) hbd h0 h00 hrep) (ag_cwV 1 hts mw_m_M_65 mw_instanceMethod_M_cost mw_sel_M_cost mw_ini_M mw_code_M_cost rfl rfl (by decide +kernel) ⟨Nat.le_of_ble_eq_true rfl, Nat.le_of_ble_eq_true rfl⟩) ⟨ag_blind, va_recv hK hPc (ci := 2) (q0 := 0) rfl rfl, ag_pre hPc hK hDc⟩ rfl rfl hl.1 rfl (lv_room (Nat.le_of_ble_eq_true rfl)) d_M_worst_55 ⟨Nat.le_of_ble_eq_true rfl, Nat.le_of_ble_eq_true rfl⟩) (fun r1 u H locs hw hP hD hS => ?_)
        try dsimp only at hw
        subst hw
        have hP : va_P (dC, dI) agCl [(b, .inr (2, [.int (nI 0), .int (nI G), .int (nI R), .long (lN en), .long (lN nw), .int (nI ms.length), .ref qn, .ref qk, .int (nI mo), .long (lN la), .long (lN go), .long (lN sp)])), (qn, .inl (cI, 1200, .inl f)), (qk, .inl (cI, 1200, .inl g))] H := hP
        have hD : va_D A [(b, .inr (2, [.int (nI 0), .int (nI G), .int (nI R), .long (lN en), .long (lN nw), .int (nI ms.length), .ref qn, .ref qk, .int (nI mo), .long (lN la), .long (lN go), .long (lN sp)])), (qn, .inl (cI, 1200, .inl f)), (qk, .inl (cI, 1200, .inl g))] := hD
        refine ag_topl (lN (ag_num ms (k + 1) * G - 1 - ag_num ms k * G)) (by rw [hcost k c36]) ?_
        refine lv_lstore (lv' := [(4, .long (lN (ag_num ms (k + 1) * G - 1 - ag_num ms k * G))), (3, .int (nI (k + 1))), (1, .long (lN (ag_wst G en ms k))), (0, .ref b)]) hx hb d_M_worst_58 hl (by decide) rfl (fun ls hl => ?_)
        refine lv_lload hx hb d_M_worst_60 (lv_at hl 0 rfl) ?_
        refine lv_lload_n hx hb d_M_worst_62 rfl (lv_at hl 2 rfl) ?_
        refine ag_lc_le (tgt := 72) hx hb d_M_worst_63 d_M_worst_64 (by decide) (fun c63 => ?_) (fun c63 => ?_)
        · have h_n := trivial
          have hle9 := (pk_lLE (a := ag_num ms (k + 1) * G - 1 - ag_num ms k * G) (b := ag_wst G en ms k) (by omega) (by omega)).mp c63
          refine lv_lload_n hx hb d_M_worst_72 rfl (lv_at hl 2 rfl) ?_
          refine ag_topl (lN (ag_wst G en ms (k + 1))) (congrArg lN (Nat.max_eq_left hle9).symm) ?_
          refine lv_lstore_n (lv' := [(1, .long (lN (ag_wst G en ms (k + 1)))), (4, .long (lN (ag_num ms (k + 1) * G - 1 - ag_num ms k * G))), (3, .int (nI (k + 1))), (0, .ref b)]) hx hb d_M_worst_73 rfl hl (by decide) rfl (fun ls hl => ?_)
          refine lv_iinc (v := nI (k + 1 + 1)) (lv' := [(3, .int (nI (k + 1 + 1))), (1, .long (lN (ag_wst G en ms (k + 1)))), (4, .long (lN (ag_num ms (k + 1) * G - 1 - ag_num ms k * G))), (0, .ref b)]) hx hb d_M_worst_74 hl (k := 2) rfl (nI_1 _) (by decide) rfl (fun ls hl => ?_)
          refine lv_goto (tgt := 31) hx hb d_M_worst_77 (by decide) ?_
          exact ih (k + 1) (by omega) (by omega) H locs hP hD hS ls (lv_sub hl [0, 1, 3] rfl)
        · have h_n := trivial
          have hgt9 : ag_wst G en ms k ≤ ag_num ms (k + 1) * G - 1 - ag_num ms k * G := by have h9 := mt (pk_lLE (a := ag_num ms (k + 1) * G - 1 - ag_num ms k * G) (b := ag_wst G en ms k) (by omega) (by omega)).mpr c63; omega
          refine lv_lload hx hb d_M_worst_67 (lv_at hl 0 rfl) ?_
          refine lv_goto (tgt := 73) hx hb d_M_worst_69 (by decide) ?_
          refine ag_topl (lN (ag_wst G en ms (k + 1))) (congrArg lN (Nat.max_eq_right hgt9).symm) ?_
          refine lv_lstore_n (lv' := [(1, .long (lN (ag_wst G en ms (k + 1)))), (4, .long (lN (ag_num ms (k + 1) * G - 1 - ag_num ms k * G))), (3, .int (nI (k + 1))), (0, .ref b)]) hx hb d_M_worst_73 rfl hl (by decide) rfl (fun ls hl => ?_)
          refine lv_iinc (v := nI (k + 1 + 1)) (lv' := [(3, .int (nI (k + 1 + 1))), (1, .long (lN (ag_wst G en ms (k + 1)))), (4, .long (lN (ag_num ms (k + 1) * G - 1 - ag_num ms k * G))), (0, .ref b)]) hx hb d_M_worst_74 hl (k := 2) rfl (nI_1 _) (by decide) rfl (fun ls hl => ?_)
          refine lv_goto (tgt := 31) hx hb d_M_worst_77 (by decide) ?_
          exact ih (k + 1) (by omega) (by omega) H locs hP hD hS ls (lv_sub hl [0, 1, 3] rfl)
  exact loop ms.length 0 (by omega) (by omega) H locs hP hD hS ls hl

set_option maxHeartbeats 4000000 in
set_option maxRecDepth 100000 in
/-- mark(x, y): no such mark -/
theorem c_M_mark_1 (l : Launch) (dC : Nat → ClassId) (dI : Nat → Nat → Nat) (sz : Nat) (b qn qk : Nat) (cI : ClassId) (cd G R en nw mo la go sp : Nat) (f g : Nat → Int32) (ms : ag_M) (x y : Int32) (hbd : ag_bd ms) (hno : ¬ ∃ k, k < ms.length ∧ x = nI k) : Met l y_M_mark (Cond.code y_M_mark b_M_mark 3 (some .long) :: agW) ({ frames := 2, cells := 0, slots := 0, locals := 50 }) (va_Pc [.ref b, .int x, .int y] (ag_at (dC, dI) agCl [(cI, .int)] sz [(b, .inr (2, [.int (nI cd), .int (nI G), .int (nI R), .long (lN en), .long (lN nw), .int (nI ms.length), .ref qn, .ref qk, .int (nI mo), .long (lN la), .long (lN go), .long (lN sp)])), (qn, .inl (cI, 1200, .inl f)), (qk, .inl (cI, 1200, .inl g))])) (va_Ql (fun (_ : Int64) (_ : Unit) => True) (ag_to (dC, dI) agCl [(cI, .int)] (va_A [(b, .inr (2, [.int (nI cd), .int (nI G), .int (nI R), .long (lN en), .long (lN nw), .int (nI ms.length), .ref qn, .ref qk, .int (nI mo), .long (lN la), .long (lN go), .long (lN sp)])), (qn, .inl (cI, 1200, .inl f)), (qk, .inl (cI, 1200, .inl g))] sz) (fun _ : Unit => [(b, .inr (2, [.int (nI 1), .int (nI G), .int (nI R), .long (lN en), .long (lN nw), .int (nI ms.length), .ref qn, .ref qk, .int (nI mo), .long (lN la), .long (lN go), .long (lN sp)])), (qn, .inl (cI, 1200, .inl f)), (qk, .inl (cI, 1200, .inl g))])) (va_A [(b, .inr (2, [.int (nI cd), .int (nI G), .int (nI R), .long (lN en), .long (lN nw), .int (nI ms.length), .ref qn, .ref qk, .int (nI mo), .long (lN la), .long (lN go), .long (lN sp)])), (qn, .inl (cI, 1200, .inl f)), (qk, .inl (cI, 1200, .inl g))] sz)) 0 0 (va_A [(b, .inr (2, [.int (nI cd), .int (nI G), .int (nI R), .long (lN en), .long (lN nw), .int (nI ms.length), .ref qn, .ref qk, .int (nI mo), .long (lN la), .long (lN go), .long (lN sp)])), (qn, .inl (cI, 1200, .inl f)), (qk, .inl (cI, 1200, .inl g))] sz) := by
  refine ag_ofW (Qf := fun A => va_Ql (fun (_ : Int64) (_ : Unit) => True) (ag_to (dC, dI) agCl [(cI, .int)] A (fun _ : Unit => [(b, .inr (2, [.int (nI 1), .int (nI G), .int (nI R), .long (lN en), .long (lN nw), .int (nI ms.length), .ref qn, .ref qk, .int (nI mo), .long (lN la), .long (lN go), .long (lN sp)])), (qn, .inl (cI, 1200, .inl f)), (qk, .inl (cI, 1200, .inl g))])) A) (cc := b_M_mark) (maxL := 3) (ret := (some .long)) (lv := [(0, .ref b), (1, .int x), (2, .int y)]) (by decide) rfl (Nat.le_of_ble_eq_true rfl) rfl (fun p e s m below meth c A ls hx hb hr hts hown hlocks hml hnm hA hS hP hK hD hl hsz => ?_)
  have hown : s.vm.findClass "AgedMarksModel" = some m.cls := hown
  have ht : ∀ w ∈ agW, w.before [.ref b, .int x, .int y].toArray s = true := fun w h => hts w (List.mem_cons_of_mem _ h)
  have hlen := hbd.1
  refine lv_aload_n hx hb d_M_mark_0 rfl (lv_at hl 0 rfl) ?_
  refine lv_iload_n hx hb d_M_mark_1 rfl (lv_at hl 1 rfl) ?_
  refine lv_if_lt (tgt := 13) hx hb d_M_mark_2 (by decide) (fun c2 => ?_) (fun c2 => ?_)
  · have h_n := trivial
    refine ag_iconst hx hb 1 d_M_mark_13 (by decide) ?_
    refine lv_goto (tgt := 18) hx hb d_M_mark_14 (by decide) ?_
    refine lv_iload_n hx hb d_M_mark_18 rfl (lv_at hl 2 rfl) ?_
    refine lv_if_lt (tgt := 27) hx hb d_M_mark_19 (by decide) (fun c19 => ?_) (fun c19 => ?_)
    · have h_n := trivial
      refine ag_iconst hx hb 1 d_M_mark_27 (by decide) ?_
      refine lv_goto (tgt := 32) hx hb d_M_mark_28 (by decide) ?_
      have hPc := hP.sub (ws' := [(b, .inr (2, [.int (nI cd), .int (nI G), .int (nI R), .long (lN en), .long (lN nw), .int (nI ms.length), .ref qn, .ref qk, .int (nI mo), .long (lN la), .long (lN go), .long (lN sp)])), (qn, .inl (cI, 1200, .inl f)), (qk, .inl (cI, 1200, .inl g))]) [0, 1, 2] rfl
      have hDc := hD.sub (ws' := [(b, .inr (2, [.int (nI cd), .int (nI G), .int (nI R), .long (lN en), .long (lN nw), .int (nI ms.length), .ref qn, .ref qk, .int (nI mo), .long (lN la), .long (lN go), .long (lN sp)])), (qn, .inl (cI, 1200, .inl f)), (qk, .inl (cI, 1200, .inl g))]) [0, 1, 2] (by decide) rfl
      refine ag_cli (wc := [(b, .inr (2, [.int (nI cd), .int (nI G), .int (nI R), .long (lN en), .long (lN nw), .int (nI ms.length), .ref qn, .ref qk, .int (nI mo), .long (lN la), .long (lN go), .long (lN sp)])), (qn, .inl (cI, 1200, .inl f)), (qk, .inl (cI, 1200, .inl g))]) (wr := []) (Wf := fun _ : Unit => [(b, .inr (2, [.int (nI (if 1 = 1 then 1 else if 1 = 1 then 2 else 0)), .int (nI G), .int (nI R), .long (lN en), .long (lN nw), .int (nI ms.length), .ref qn, .ref qk, .int (nI mo), .long (lN la), .long (lN go), .long (lN sp)])), (qn, .inl (cI, 1200, .inl f)), (qk, .inl (cI, 1200, .inl g))]) hP hD hS hA [0, 1, 2] [] rfl rfl (by decide) (by decide) (va_runV (C := "AgedMarksModel") (As := [.int (nI 1), .int (nI 1)]) (rest := []) ⟨hx, hb, hml, hown, hts⟩ (c_M_fails l dC dI s.heap.size b qn qk cI cd G R en nw mo la go sp f g ms 1 1 (by decide) (by decide)) (ag_cwV 2 hts mw_m_M_54 mw_instanceMethod_M_fails mw_sel_M_fails mw_ini_M mw_code_M_fails rfl rfl (by decide +kernel) ⟨Nat.le_of_ble_eq_true rfl, Nat.le_of_ble_eq_true rfl⟩) ⟨ag_blind, va_recv hK hPc (ci := 2) (q0 := 0) rfl rfl, ag_pre hPc hK hDc⟩ rfl rfl hl.1 rfl (lv_room (Nat.le_of_ble_eq_true rfl)) d_M_mark_32 ⟨Nat.le_of_ble_eq_true rfl, Nat.le_of_ble_eq_true rfl⟩) (fun r1 u H locs hw hP hD hS => ?_)
      try dsimp only at hw
      subst hw
      have hP : va_P (dC, dI) agCl [(b, .inr (2, [.int (nI 1), .int (nI G), .int (nI R), .long (lN en), .long (lN nw), .int (nI ms.length), .ref qn, .ref qk, .int (nI mo), .long (lN la), .long (lN go), .long (lN sp)])), (qn, .inl (cI, 1200, .inl f)), (qk, .inl (cI, 1200, .inl g))] H := hP
      have hD : va_D A [(b, .inr (2, [.int (nI 1), .int (nI G), .int (nI R), .long (lN en), .long (lN nw), .int (nI ms.length), .ref qn, .ref qk, .int (nI mo), .long (lN la), .long (lN go), .long (lN sp)])), (qn, .inl (cI, 1200, .inl f)), (qk, .inl (cI, 1200, .inl g))] := hD
      refine lv_if_eq (tgt := 40) hx hb d_M_mark_35 (by decide) (fun c35 => ?_) (fun c35 => ?_)
      · have h_n := trivial
        exact absurd c35 (by decide)
      · have h_n := trivial
        refine ag_lconst hx hb 0 d_M_mark_38 (by decide) ?_
        exact ag_retl hx hb hr hlocks () trivial hP hK hD hS d_M_mark_39
    · have h_n := trivial
      refine lv_iload_n hx hb d_M_mark_22 rfl (lv_at hl 2 rfl) ?_
      refine ag_iconst hx hb 2 d_M_mark_23 (by decide) ?_
      refine lv_icmp_le (tgt := 31) hx hb d_M_mark_24 (by decide) (fun c24 => ?_) (fun c24 => ?_)
      · have h_n := trivial
        refine ag_iconst hx hb 0 d_M_mark_31 (by decide) ?_
        have hPc := hP.sub (ws' := [(b, .inr (2, [.int (nI cd), .int (nI G), .int (nI R), .long (lN en), .long (lN nw), .int (nI ms.length), .ref qn, .ref qk, .int (nI mo), .long (lN la), .long (lN go), .long (lN sp)])), (qn, .inl (cI, 1200, .inl f)), (qk, .inl (cI, 1200, .inl g))]) [0, 1, 2] rfl
        have hDc := hD.sub (ws' := [(b, .inr (2, [.int (nI cd), .int (nI G), .int (nI R), .long (lN en), .long (lN nw), .int (nI ms.length), .ref qn, .ref qk, .int (nI mo), .long (lN la), .long (lN go), .long (lN sp)])), (qn, .inl (cI, 1200, .inl f)), (qk, .inl (cI, 1200, .inl g))]) [0, 1, 2] (by decide) rfl
        refine ag_cli (wc := [(b, .inr (2, [.int (nI cd), .int (nI G), .int (nI R), .long (lN en), .long (lN nw), .int (nI ms.length), .ref qn, .ref qk, .int (nI mo), .long (lN la), .long (lN go), .long (lN sp)])), (qn, .inl (cI, 1200, .inl f)), (qk, .inl (cI, 1200, .inl g))]) (wr := []) (Wf := fun _ : Unit => [(b, .inr (2, [.int (nI (if 1 = 1 then 1 else if 0 = 1 then 2 else 0)), .int (nI G), .int (nI R), .long (lN en), .long (lN nw), .int (nI ms.length), .ref qn, .ref qk, .int (nI mo), .long (lN la), .long (lN go), .long (lN sp)])), (qn, .inl (cI, 1200, .inl f)), (qk, .inl (cI, 1200, .inl g))]) hP hD hS hA [0, 1, 2] [] rfl rfl (by decide) (by decide) (va_runV (C := "AgedMarksModel") (As := [.int (nI 1), .int (nI 0)]) (rest := []) ⟨hx, hb, hml, hown, hts⟩ (c_M_fails l dC dI s.heap.size b qn qk cI cd G R en nw mo la go sp f g ms 1 0 (by decide) (by decide)) (ag_cwV 2 hts mw_m_M_54 mw_instanceMethod_M_fails mw_sel_M_fails mw_ini_M mw_code_M_fails rfl rfl (by decide +kernel) ⟨Nat.le_of_ble_eq_true rfl, Nat.le_of_ble_eq_true rfl⟩) ⟨ag_blind, va_recv hK hPc (ci := 2) (q0 := 0) rfl rfl, ag_pre hPc hK hDc⟩ rfl rfl hl.1 rfl (lv_room (Nat.le_of_ble_eq_true rfl)) d_M_mark_32 ⟨Nat.le_of_ble_eq_true rfl, Nat.le_of_ble_eq_true rfl⟩) (fun r2 u H locs hw hP hD hS => ?_)
        try dsimp only at hw
        subst hw
        have hP : va_P (dC, dI) agCl [(b, .inr (2, [.int (nI 1), .int (nI G), .int (nI R), .long (lN en), .long (lN nw), .int (nI ms.length), .ref qn, .ref qk, .int (nI mo), .long (lN la), .long (lN go), .long (lN sp)])), (qn, .inl (cI, 1200, .inl f)), (qk, .inl (cI, 1200, .inl g))] H := hP
        have hD : va_D A [(b, .inr (2, [.int (nI 1), .int (nI G), .int (nI R), .long (lN en), .long (lN nw), .int (nI ms.length), .ref qn, .ref qk, .int (nI mo), .long (lN la), .long (lN go), .long (lN sp)])), (qn, .inl (cI, 1200, .inl f)), (qk, .inl (cI, 1200, .inl g))] := hD
        refine lv_if_eq (tgt := 40) hx hb d_M_mark_35 (by decide) (fun c35 => ?_) (fun c35 => ?_)
        · have h_n := trivial
          exact absurd c35 (by decide)
        · have h_n := trivial
          refine ag_lconst hx hb 0 d_M_mark_38 (by decide) ?_
          exact ag_retl hx hb hr hlocks () trivial hP hK hD hS d_M_mark_39
      · have h_n := trivial
        refine ag_iconst hx hb 1 d_M_mark_27 (by decide) ?_
        refine lv_goto (tgt := 32) hx hb d_M_mark_28 (by decide) ?_
        have hPc := hP.sub (ws' := [(b, .inr (2, [.int (nI cd), .int (nI G), .int (nI R), .long (lN en), .long (lN nw), .int (nI ms.length), .ref qn, .ref qk, .int (nI mo), .long (lN la), .long (lN go), .long (lN sp)])), (qn, .inl (cI, 1200, .inl f)), (qk, .inl (cI, 1200, .inl g))]) [0, 1, 2] rfl
        have hDc := hD.sub (ws' := [(b, .inr (2, [.int (nI cd), .int (nI G), .int (nI R), .long (lN en), .long (lN nw), .int (nI ms.length), .ref qn, .ref qk, .int (nI mo), .long (lN la), .long (lN go), .long (lN sp)])), (qn, .inl (cI, 1200, .inl f)), (qk, .inl (cI, 1200, .inl g))]) [0, 1, 2] (by decide) rfl
        refine ag_cli (wc := [(b, .inr (2, [.int (nI cd), .int (nI G), .int (nI R), .long (lN en), .long (lN nw), .int (nI ms.length), .ref qn, .ref qk, .int (nI mo), .long (lN la), .long (lN go), .long (lN sp)])), (qn, .inl (cI, 1200, .inl f)), (qk, .inl (cI, 1200, .inl g))]) (wr := []) (Wf := fun _ : Unit => [(b, .inr (2, [.int (nI (if 1 = 1 then 1 else if 1 = 1 then 2 else 0)), .int (nI G), .int (nI R), .long (lN en), .long (lN nw), .int (nI ms.length), .ref qn, .ref qk, .int (nI mo), .long (lN la), .long (lN go), .long (lN sp)])), (qn, .inl (cI, 1200, .inl f)), (qk, .inl (cI, 1200, .inl g))]) hP hD hS hA [0, 1, 2] [] rfl rfl (by decide) (by decide) (va_runV (C := "AgedMarksModel") (As := [.int (nI 1), .int (nI 1)]) (rest := []) ⟨hx, hb, hml, hown, hts⟩ (c_M_fails l dC dI s.heap.size b qn qk cI cd G R en nw mo la go sp f g ms 1 1 (by decide) (by decide)) (ag_cwV 2 hts mw_m_M_54 mw_instanceMethod_M_fails mw_sel_M_fails mw_ini_M mw_code_M_fails rfl rfl (by decide +kernel) ⟨Nat.le_of_ble_eq_true rfl, Nat.le_of_ble_eq_true rfl⟩) ⟨ag_blind, va_recv hK hPc (ci := 2) (q0 := 0) rfl rfl, ag_pre hPc hK hDc⟩ rfl rfl hl.1 rfl (lv_room (Nat.le_of_ble_eq_true rfl)) d_M_mark_32 ⟨Nat.le_of_ble_eq_true rfl, Nat.le_of_ble_eq_true rfl⟩) (fun r3 u H locs hw hP hD hS => ?_)
        try dsimp only at hw
        subst hw
        have hP : va_P (dC, dI) agCl [(b, .inr (2, [.int (nI 1), .int (nI G), .int (nI R), .long (lN en), .long (lN nw), .int (nI ms.length), .ref qn, .ref qk, .int (nI mo), .long (lN la), .long (lN go), .long (lN sp)])), (qn, .inl (cI, 1200, .inl f)), (qk, .inl (cI, 1200, .inl g))] H := hP
        have hD : va_D A [(b, .inr (2, [.int (nI 1), .int (nI G), .int (nI R), .long (lN en), .long (lN nw), .int (nI ms.length), .ref qn, .ref qk, .int (nI mo), .long (lN la), .long (lN go), .long (lN sp)])), (qn, .inl (cI, 1200, .inl f)), (qk, .inl (cI, 1200, .inl g))] := hD
        refine lv_if_eq (tgt := 40) hx hb d_M_mark_35 (by decide) (fun c35 => ?_) (fun c35 => ?_)
        · have h_n := trivial
          exact absurd c35 (by decide)
        · have h_n := trivial
          refine ag_lconst hx hb 0 d_M_mark_38 (by decide) ?_
          exact ag_retl hx hb hr hlocks () trivial hP hK hD hS d_M_mark_39
  · have h_n := trivial
    obtain ⟨k, hk31, rfl⟩ := nI_of c2
    refine lv_iload_n hx hb d_M_mark_5 rfl (lv_at hl 1 rfl) ?_
    refine lv_aload_n hx hb d_M_mark_6 rfl (lv_at hl 0 rfl) ?_
    refine va_get (D := (dC, dI)) (ci := 2) (v := .int (nI ms.length)) (C := RX2) (T := TX2) (N := 12) hx hb ht inA2 hown hK hP 0 rfl rfl 5 (by decide) (ht _ mw_f_M_7) (fun _ h9 => h9) rfl d_M_mark_7 ?_
    refine ag_icmp_lt (tgt := 17) hx hb d_M_mark_10 (by decide) (by omega) (by omega) (fun c10 => ?_) (fun c10 => ?_)
    · have h_n := trivial
      exact absurd ⟨k, c10, rfl⟩ hno
    · have h_n := trivial
      refine ag_iconst hx hb 1 d_M_mark_13 (by decide) ?_
      refine lv_goto (tgt := 18) hx hb d_M_mark_14 (by decide) ?_
      refine lv_iload_n hx hb d_M_mark_18 rfl (lv_at hl 2 rfl) ?_
      refine lv_if_lt (tgt := 27) hx hb d_M_mark_19 (by decide) (fun c19 => ?_) (fun c19 => ?_)
      · have h_n := trivial
        refine ag_iconst hx hb 1 d_M_mark_27 (by decide) ?_
        refine lv_goto (tgt := 32) hx hb d_M_mark_28 (by decide) ?_
        have hPc := hP.sub (ws' := [(b, .inr (2, [.int (nI cd), .int (nI G), .int (nI R), .long (lN en), .long (lN nw), .int (nI ms.length), .ref qn, .ref qk, .int (nI mo), .long (lN la), .long (lN go), .long (lN sp)])), (qn, .inl (cI, 1200, .inl f)), (qk, .inl (cI, 1200, .inl g))]) [0, 1, 2] rfl
        have hDc := hD.sub (ws' := [(b, .inr (2, [.int (nI cd), .int (nI G), .int (nI R), .long (lN en), .long (lN nw), .int (nI ms.length), .ref qn, .ref qk, .int (nI mo), .long (lN la), .long (lN go), .long (lN sp)])), (qn, .inl (cI, 1200, .inl f)), (qk, .inl (cI, 1200, .inl g))]) [0, 1, 2] (by decide) rfl
        refine ag_cli (wc := [(b, .inr (2, [.int (nI cd), .int (nI G), .int (nI R), .long (lN en), .long (lN nw), .int (nI ms.length), .ref qn, .ref qk, .int (nI mo), .long (lN la), .long (lN go), .long (lN sp)])), (qn, .inl (cI, 1200, .inl f)), (qk, .inl (cI, 1200, .inl g))]) (wr := []) (Wf := fun _ : Unit => [(b, .inr (2, [.int (nI (if 1 = 1 then 1 else if 1 = 1 then 2 else 0)), .int (nI G), .int (nI R), .long (lN en), .long (lN nw), .int (nI ms.length), .ref qn, .ref qk, .int (nI mo), .long (lN la), .long (lN go), .long (lN sp)])), (qn, .inl (cI, 1200, .inl f)), (qk, .inl (cI, 1200, .inl g))]) hP hD hS hA [0, 1, 2] [] rfl rfl (by decide) (by decide) (va_runV (C := "AgedMarksModel") (As := [.int (nI 1), .int (nI 1)]) (rest := []) ⟨hx, hb, hml, hown, hts⟩ (c_M_fails l dC dI s.heap.size b qn qk cI cd G R en nw mo la go sp f g ms 1 1 (by decide) (by decide)) (ag_cwV 2 hts mw_m_M_54 mw_instanceMethod_M_fails mw_sel_M_fails mw_ini_M mw_code_M_fails rfl rfl (by decide +kernel) ⟨Nat.le_of_ble_eq_true rfl, Nat.le_of_ble_eq_true rfl⟩) ⟨ag_blind, va_recv hK hPc (ci := 2) (q0 := 0) rfl rfl, ag_pre hPc hK hDc⟩ rfl rfl hl.1 rfl (lv_room (Nat.le_of_ble_eq_true rfl)) d_M_mark_32 ⟨Nat.le_of_ble_eq_true rfl, Nat.le_of_ble_eq_true rfl⟩) (fun r4 u H locs hw hP hD hS => ?_)
        try dsimp only at hw
        subst hw
        have hP : va_P (dC, dI) agCl [(b, .inr (2, [.int (nI 1), .int (nI G), .int (nI R), .long (lN en), .long (lN nw), .int (nI ms.length), .ref qn, .ref qk, .int (nI mo), .long (lN la), .long (lN go), .long (lN sp)])), (qn, .inl (cI, 1200, .inl f)), (qk, .inl (cI, 1200, .inl g))] H := hP
        have hD : va_D A [(b, .inr (2, [.int (nI 1), .int (nI G), .int (nI R), .long (lN en), .long (lN nw), .int (nI ms.length), .ref qn, .ref qk, .int (nI mo), .long (lN la), .long (lN go), .long (lN sp)])), (qn, .inl (cI, 1200, .inl f)), (qk, .inl (cI, 1200, .inl g))] := hD
        refine lv_if_eq (tgt := 40) hx hb d_M_mark_35 (by decide) (fun c35 => ?_) (fun c35 => ?_)
        · have h_n := trivial
          exact absurd c35 (by decide)
        · have h_n := trivial
          refine ag_lconst hx hb 0 d_M_mark_38 (by decide) ?_
          exact ag_retl hx hb hr hlocks () trivial hP hK hD hS d_M_mark_39
      · have h_n := trivial
        refine lv_iload_n hx hb d_M_mark_22 rfl (lv_at hl 2 rfl) ?_
        refine ag_iconst hx hb 2 d_M_mark_23 (by decide) ?_
        refine lv_icmp_le (tgt := 31) hx hb d_M_mark_24 (by decide) (fun c24 => ?_) (fun c24 => ?_)
        · have h_n := trivial
          refine ag_iconst hx hb 0 d_M_mark_31 (by decide) ?_
          have hPc := hP.sub (ws' := [(b, .inr (2, [.int (nI cd), .int (nI G), .int (nI R), .long (lN en), .long (lN nw), .int (nI ms.length), .ref qn, .ref qk, .int (nI mo), .long (lN la), .long (lN go), .long (lN sp)])), (qn, .inl (cI, 1200, .inl f)), (qk, .inl (cI, 1200, .inl g))]) [0, 1, 2] rfl
          have hDc := hD.sub (ws' := [(b, .inr (2, [.int (nI cd), .int (nI G), .int (nI R), .long (lN en), .long (lN nw), .int (nI ms.length), .ref qn, .ref qk, .int (nI mo), .long (lN la), .long (lN go), .long (lN sp)])), (qn, .inl (cI, 1200, .inl f)), (qk, .inl (cI, 1200, .inl g))]) [0, 1, 2] (by decide) rfl
          refine ag_cli (wc := [(b, .inr (2, [.int (nI cd), .int (nI G), .int (nI R), .long (lN en), .long (lN nw), .int (nI ms.length), .ref qn, .ref qk, .int (nI mo), .long (lN la), .long (lN go), .long (lN sp)])), (qn, .inl (cI, 1200, .inl f)), (qk, .inl (cI, 1200, .inl g))]) (wr := []) (Wf := fun _ : Unit => [(b, .inr (2, [.int (nI (if 1 = 1 then 1 else if 0 = 1 then 2 else 0)), .int (nI G), .int (nI R), .long (lN en), .long (lN nw), .int (nI ms.length), .ref qn, .ref qk, .int (nI mo), .long (lN la), .long (lN go), .long (lN sp)])), (qn, .inl (cI, 1200, .inl f)), (qk, .inl (cI, 1200, .inl g))]) hP hD hS hA [0, 1, 2] [] rfl rfl (by decide) (by decide) (va_runV (C := "AgedMarksModel") (As := [.int (nI 1), .int (nI 0)]) (rest := []) ⟨hx, hb, hml, hown, hts⟩ (c_M_fails l dC dI s.heap.size b qn qk cI cd G R en nw mo la go sp f g ms 1 0 (by decide) (by decide)) (ag_cwV 2 hts mw_m_M_54 mw_instanceMethod_M_fails mw_sel_M_fails mw_ini_M mw_code_M_fails rfl rfl (by decide +kernel) ⟨Nat.le_of_ble_eq_true rfl, Nat.le_of_ble_eq_true rfl⟩) ⟨ag_blind, va_recv hK hPc (ci := 2) (q0 := 0) rfl rfl, ag_pre hPc hK hDc⟩ rfl rfl hl.1 rfl (lv_room (Nat.le_of_ble_eq_true rfl)) d_M_mark_32 ⟨Nat.le_of_ble_eq_true rfl, Nat.le_of_ble_eq_true rfl⟩) (fun r5 u H locs hw hP hD hS => ?_)
          try dsimp only at hw
          subst hw
          have hP : va_P (dC, dI) agCl [(b, .inr (2, [.int (nI 1), .int (nI G), .int (nI R), .long (lN en), .long (lN nw), .int (nI ms.length), .ref qn, .ref qk, .int (nI mo), .long (lN la), .long (lN go), .long (lN sp)])), (qn, .inl (cI, 1200, .inl f)), (qk, .inl (cI, 1200, .inl g))] H := hP
          have hD : va_D A [(b, .inr (2, [.int (nI 1), .int (nI G), .int (nI R), .long (lN en), .long (lN nw), .int (nI ms.length), .ref qn, .ref qk, .int (nI mo), .long (lN la), .long (lN go), .long (lN sp)])), (qn, .inl (cI, 1200, .inl f)), (qk, .inl (cI, 1200, .inl g))] := hD
          refine lv_if_eq (tgt := 40) hx hb d_M_mark_35 (by decide) (fun c35 => ?_) (fun c35 => ?_)
          · have h_n := trivial
            exact absurd c35 (by decide)
          · have h_n := trivial
            refine ag_lconst hx hb 0 d_M_mark_38 (by decide) ?_
            exact ag_retl hx hb hr hlocks () trivial hP hK hD hS d_M_mark_39
        · have h_n := trivial
          refine ag_iconst hx hb 1 d_M_mark_27 (by decide) ?_
          refine lv_goto (tgt := 32) hx hb d_M_mark_28 (by decide) ?_
          have hPc := hP.sub (ws' := [(b, .inr (2, [.int (nI cd), .int (nI G), .int (nI R), .long (lN en), .long (lN nw), .int (nI ms.length), .ref qn, .ref qk, .int (nI mo), .long (lN la), .long (lN go), .long (lN sp)])), (qn, .inl (cI, 1200, .inl f)), (qk, .inl (cI, 1200, .inl g))]) [0, 1, 2] rfl
          have hDc := hD.sub (ws' := [(b, .inr (2, [.int (nI cd), .int (nI G), .int (nI R), .long (lN en), .long (lN nw), .int (nI ms.length), .ref qn, .ref qk, .int (nI mo), .long (lN la), .long (lN go), .long (lN sp)])), (qn, .inl (cI, 1200, .inl f)), (qk, .inl (cI, 1200, .inl g))]) [0, 1, 2] (by decide) rfl
          refine ag_cli (wc := [(b, .inr (2, [.int (nI cd), .int (nI G), .int (nI R), .long (lN en), .long (lN nw), .int (nI ms.length), .ref qn, .ref qk, .int (nI mo), .long (lN la), .long (lN go), .long (lN sp)])), (qn, .inl (cI, 1200, .inl f)), (qk, .inl (cI, 1200, .inl g))]) (wr := []) (Wf := fun _ : Unit => [(b, .inr (2, [.int (nI (if 1 = 1 then 1 else if 1 = 1 then 2 else 0)), .int (nI G), .int (nI R), .long (lN en), .long (lN nw), .int (nI ms.length), .ref qn, .ref qk, .int (nI mo), .long (lN la), .long (lN go), .long (lN sp)])), (qn, .inl (cI, 1200, .inl f)), (qk, .inl (cI, 1200, .inl g))]) hP hD hS hA [0, 1, 2] [] rfl rfl (by decide) (by decide) (va_runV (C := "AgedMarksModel") (As := [.int (nI 1), .int (nI 1)]) (rest := []) ⟨hx, hb, hml, hown, hts⟩ (c_M_fails l dC dI s.heap.size b qn qk cI cd G R en nw mo la go sp f g ms 1 1 (by decide) (by decide)) (ag_cwV 2 hts mw_m_M_54 mw_instanceMethod_M_fails mw_sel_M_fails mw_ini_M mw_code_M_fails rfl rfl (by decide +kernel) ⟨Nat.le_of_ble_eq_true rfl, Nat.le_of_ble_eq_true rfl⟩) ⟨ag_blind, va_recv hK hPc (ci := 2) (q0 := 0) rfl rfl, ag_pre hPc hK hDc⟩ rfl rfl hl.1 rfl (lv_room (Nat.le_of_ble_eq_true rfl)) d_M_mark_32 ⟨Nat.le_of_ble_eq_true rfl, Nat.le_of_ble_eq_true rfl⟩) (fun r6 u H locs hw hP hD hS => ?_)
          try dsimp only at hw
          subst hw
          have hP : va_P (dC, dI) agCl [(b, .inr (2, [.int (nI 1), .int (nI G), .int (nI R), .long (lN en), .long (lN nw), .int (nI ms.length), .ref qn, .ref qk, .int (nI mo), .long (lN la), .long (lN go), .long (lN sp)])), (qn, .inl (cI, 1200, .inl f)), (qk, .inl (cI, 1200, .inl g))] H := hP
          have hD : va_D A [(b, .inr (2, [.int (nI 1), .int (nI G), .int (nI R), .long (lN en), .long (lN nw), .int (nI ms.length), .ref qn, .ref qk, .int (nI mo), .long (lN la), .long (lN go), .long (lN sp)])), (qn, .inl (cI, 1200, .inl f)), (qk, .inl (cI, 1200, .inl g))] := hD
          refine lv_if_eq (tgt := 40) hx hb d_M_mark_35 (by decide) (fun c35 => ?_) (fun c35 => ?_)
          · have h_n := trivial
            exact absurd c35 (by decide)
          · have h_n := trivial
            refine ag_lconst hx hb 0 d_M_mark_38 (by decide) ?_
            exact ag_retl hx hb hr hlocks () trivial hP hK hD hS d_M_mark_39

set_option maxHeartbeats 4000000 in
set_option maxRecDepth 100000 in
/-- mark(k, y): y is none of 0 .. 2 -/
theorem c_M_mark_2 (l : Launch) (dC : Nat → ClassId) (dI : Nat → Nat → Nat) (sz : Nat) (b qn qk : Nat) (cI : ClassId) (cd G R en nw mo la go sp : Nat) (f g : Nat → Int32) (ms : ag_M) (k : Nat) (y : Int32) (hbd : ag_bd ms) (hk : k < ms.length) (hno : ¬ ∃ j, j ≤ 2 ∧ y = nI j) : Met l y_M_mark (Cond.code y_M_mark b_M_mark 3 (some .long) :: agW) ({ frames := 2, cells := 0, slots := 0, locals := 50 }) (va_Pc [.ref b, .int (nI k), .int y] (ag_at (dC, dI) agCl [(cI, .int)] sz [(b, .inr (2, [.int (nI cd), .int (nI G), .int (nI R), .long (lN en), .long (lN nw), .int (nI ms.length), .ref qn, .ref qk, .int (nI mo), .long (lN la), .long (lN go), .long (lN sp)])), (qn, .inl (cI, 1200, .inl f)), (qk, .inl (cI, 1200, .inl g))])) (va_Ql (fun (_ : Int64) (_ : Unit) => True) (ag_to (dC, dI) agCl [(cI, .int)] (va_A [(b, .inr (2, [.int (nI cd), .int (nI G), .int (nI R), .long (lN en), .long (lN nw), .int (nI ms.length), .ref qn, .ref qk, .int (nI mo), .long (lN la), .long (lN go), .long (lN sp)])), (qn, .inl (cI, 1200, .inl f)), (qk, .inl (cI, 1200, .inl g))] sz) (fun _ : Unit => [(b, .inr (2, [.int (nI 2), .int (nI G), .int (nI R), .long (lN en), .long (lN nw), .int (nI ms.length), .ref qn, .ref qk, .int (nI mo), .long (lN la), .long (lN go), .long (lN sp)])), (qn, .inl (cI, 1200, .inl f)), (qk, .inl (cI, 1200, .inl g))])) (va_A [(b, .inr (2, [.int (nI cd), .int (nI G), .int (nI R), .long (lN en), .long (lN nw), .int (nI ms.length), .ref qn, .ref qk, .int (nI mo), .long (lN la), .long (lN go), .long (lN sp)])), (qn, .inl (cI, 1200, .inl f)), (qk, .inl (cI, 1200, .inl g))] sz)) 0 0 (va_A [(b, .inr (2, [.int (nI cd), .int (nI G), .int (nI R), .long (lN en), .long (lN nw), .int (nI ms.length), .ref qn, .ref qk, .int (nI mo), .long (lN la), .long (lN go), .long (lN sp)])), (qn, .inl (cI, 1200, .inl f)), (qk, .inl (cI, 1200, .inl g))] sz) := by
  refine ag_ofW (Qf := fun A => va_Ql (fun (_ : Int64) (_ : Unit) => True) (ag_to (dC, dI) agCl [(cI, .int)] A (fun _ : Unit => [(b, .inr (2, [.int (nI 2), .int (nI G), .int (nI R), .long (lN en), .long (lN nw), .int (nI ms.length), .ref qn, .ref qk, .int (nI mo), .long (lN la), .long (lN go), .long (lN sp)])), (qn, .inl (cI, 1200, .inl f)), (qk, .inl (cI, 1200, .inl g))])) A) (cc := b_M_mark) (maxL := 3) (ret := (some .long)) (lv := [(0, .ref b), (1, .int (nI k)), (2, .int y)]) (by decide) rfl (Nat.le_of_ble_eq_true rfl) rfl (fun p e s m below meth c A ls hx hb hr hts hown hlocks hml hnm hA hS hP hK hD hl hsz => ?_)
  have hown : s.vm.findClass "AgedMarksModel" = some m.cls := hown
  have ht : ∀ w ∈ agW, w.before [.ref b, .int (nI k), .int y].toArray s = true := fun w h => hts w (List.mem_cons_of_mem _ h)
  have hlen := hbd.1
  refine lv_aload_n hx hb d_M_mark_0 rfl (lv_at hl 0 rfl) ?_
  refine lv_iload_n hx hb d_M_mark_1 rfl (lv_at hl 1 rfl) ?_
  refine ag_if_lt (tgt := 13) hx hb d_M_mark_2 (by decide) (by omega) ?_
  refine lv_iload_n hx hb d_M_mark_5 rfl (lv_at hl 1 rfl) ?_
  refine lv_aload_n hx hb d_M_mark_6 rfl (lv_at hl 0 rfl) ?_
  refine va_get (D := (dC, dI)) (ci := 2) (v := .int (nI ms.length)) (C := RX2) (T := TX2) (N := 12) hx hb ht inA2 hown hK hP 0 rfl rfl 5 (by decide) (ht _ mw_f_M_7) (fun _ h9 => h9) rfl d_M_mark_7 ?_
  refine ag_icmp_lt (tgt := 17) hx hb d_M_mark_10 (by decide) (by omega) (by omega) (fun c10 => ?_) (fun c10 => ?_)
  · have h_n := trivial
    refine ag_iconst hx hb 0 d_M_mark_17 (by decide) ?_
    refine lv_iload_n hx hb d_M_mark_18 rfl (lv_at hl 2 rfl) ?_
    refine lv_if_lt (tgt := 27) hx hb d_M_mark_19 (by decide) (fun c19 => ?_) (fun c19 => ?_)
    · have h_n := trivial
      refine ag_iconst hx hb 1 d_M_mark_27 (by decide) ?_
      refine lv_goto (tgt := 32) hx hb d_M_mark_28 (by decide) ?_
      have hPc := hP.sub (ws' := [(b, .inr (2, [.int (nI cd), .int (nI G), .int (nI R), .long (lN en), .long (lN nw), .int (nI ms.length), .ref qn, .ref qk, .int (nI mo), .long (lN la), .long (lN go), .long (lN sp)])), (qn, .inl (cI, 1200, .inl f)), (qk, .inl (cI, 1200, .inl g))]) [0, 1, 2] rfl
      have hDc := hD.sub (ws' := [(b, .inr (2, [.int (nI cd), .int (nI G), .int (nI R), .long (lN en), .long (lN nw), .int (nI ms.length), .ref qn, .ref qk, .int (nI mo), .long (lN la), .long (lN go), .long (lN sp)])), (qn, .inl (cI, 1200, .inl f)), (qk, .inl (cI, 1200, .inl g))]) [0, 1, 2] (by decide) rfl
      refine ag_cli (wc := [(b, .inr (2, [.int (nI cd), .int (nI G), .int (nI R), .long (lN en), .long (lN nw), .int (nI ms.length), .ref qn, .ref qk, .int (nI mo), .long (lN la), .long (lN go), .long (lN sp)])), (qn, .inl (cI, 1200, .inl f)), (qk, .inl (cI, 1200, .inl g))]) (wr := []) (Wf := fun _ : Unit => [(b, .inr (2, [.int (nI (if 0 = 1 then 1 else if 1 = 1 then 2 else 0)), .int (nI G), .int (nI R), .long (lN en), .long (lN nw), .int (nI ms.length), .ref qn, .ref qk, .int (nI mo), .long (lN la), .long (lN go), .long (lN sp)])), (qn, .inl (cI, 1200, .inl f)), (qk, .inl (cI, 1200, .inl g))]) hP hD hS hA [0, 1, 2] [] rfl rfl (by decide) (by decide) (va_runV (C := "AgedMarksModel") (As := [.int (nI 0), .int (nI 1)]) (rest := []) ⟨hx, hb, hml, hown, hts⟩ (c_M_fails l dC dI s.heap.size b qn qk cI cd G R en nw mo la go sp f g ms 0 1 (by decide) (by decide)) (ag_cwV 2 hts mw_m_M_54 mw_instanceMethod_M_fails mw_sel_M_fails mw_ini_M mw_code_M_fails rfl rfl (by decide +kernel) ⟨Nat.le_of_ble_eq_true rfl, Nat.le_of_ble_eq_true rfl⟩) ⟨ag_blind, va_recv hK hPc (ci := 2) (q0 := 0) rfl rfl, ag_pre hPc hK hDc⟩ rfl rfl hl.1 rfl (lv_room (Nat.le_of_ble_eq_true rfl)) d_M_mark_32 ⟨Nat.le_of_ble_eq_true rfl, Nat.le_of_ble_eq_true rfl⟩) (fun r1 u H locs hw hP hD hS => ?_)
      try dsimp only at hw
      subst hw
      have hP : va_P (dC, dI) agCl [(b, .inr (2, [.int (nI 2), .int (nI G), .int (nI R), .long (lN en), .long (lN nw), .int (nI ms.length), .ref qn, .ref qk, .int (nI mo), .long (lN la), .long (lN go), .long (lN sp)])), (qn, .inl (cI, 1200, .inl f)), (qk, .inl (cI, 1200, .inl g))] H := hP
      have hD : va_D A [(b, .inr (2, [.int (nI 2), .int (nI G), .int (nI R), .long (lN en), .long (lN nw), .int (nI ms.length), .ref qn, .ref qk, .int (nI mo), .long (lN la), .long (lN go), .long (lN sp)])), (qn, .inl (cI, 1200, .inl f)), (qk, .inl (cI, 1200, .inl g))] := hD
      refine lv_if_eq (tgt := 40) hx hb d_M_mark_35 (by decide) (fun c35 => ?_) (fun c35 => ?_)
      · have h_n := trivial
        exact absurd c35 (by decide)
      · have h_n := trivial
        refine ag_lconst hx hb 0 d_M_mark_38 (by decide) ?_
        exact ag_retl hx hb hr hlocks () trivial hP hK hD hS d_M_mark_39
    · have h_n := trivial
      obtain ⟨j, hj31, rfl⟩ := nI_of c19
      refine lv_iload_n hx hb d_M_mark_22 rfl (lv_at hl 2 rfl) ?_
      refine ag_iconst hx hb 2 d_M_mark_23 (by decide) ?_
      refine ag_icmp_le (tgt := 31) hx hb d_M_mark_24 (by decide) (by omega) (by omega) (fun c24 => ?_) (fun c24 => ?_)
      · have h_n := trivial
        exact absurd ⟨j, c24, rfl⟩ hno
      · have h_n := trivial
        refine ag_iconst hx hb 1 d_M_mark_27 (by decide) ?_
        refine lv_goto (tgt := 32) hx hb d_M_mark_28 (by decide) ?_
        have hPc := hP.sub (ws' := [(b, .inr (2, [.int (nI cd), .int (nI G), .int (nI R), .long (lN en), .long (lN nw), .int (nI ms.length), .ref qn, .ref qk, .int (nI mo), .long (lN la), .long (lN go), .long (lN sp)])), (qn, .inl (cI, 1200, .inl f)), (qk, .inl (cI, 1200, .inl g))]) [0, 1, 2] rfl
        have hDc := hD.sub (ws' := [(b, .inr (2, [.int (nI cd), .int (nI G), .int (nI R), .long (lN en), .long (lN nw), .int (nI ms.length), .ref qn, .ref qk, .int (nI mo), .long (lN la), .long (lN go), .long (lN sp)])), (qn, .inl (cI, 1200, .inl f)), (qk, .inl (cI, 1200, .inl g))]) [0, 1, 2] (by decide) rfl
        refine ag_cli (wc := [(b, .inr (2, [.int (nI cd), .int (nI G), .int (nI R), .long (lN en), .long (lN nw), .int (nI ms.length), .ref qn, .ref qk, .int (nI mo), .long (lN la), .long (lN go), .long (lN sp)])), (qn, .inl (cI, 1200, .inl f)), (qk, .inl (cI, 1200, .inl g))]) (wr := []) (Wf := fun _ : Unit => [(b, .inr (2, [.int (nI (if 0 = 1 then 1 else if 1 = 1 then 2 else 0)), .int (nI G), .int (nI R), .long (lN en), .long (lN nw), .int (nI ms.length), .ref qn, .ref qk, .int (nI mo), .long (lN la), .long (lN go), .long (lN sp)])), (qn, .inl (cI, 1200, .inl f)), (qk, .inl (cI, 1200, .inl g))]) hP hD hS hA [0, 1, 2] [] rfl rfl (by decide) (by decide) (va_runV (C := "AgedMarksModel") (As := [.int (nI 0), .int (nI 1)]) (rest := []) ⟨hx, hb, hml, hown, hts⟩ (c_M_fails l dC dI s.heap.size b qn qk cI cd G R en nw mo la go sp f g ms 0 1 (by decide) (by decide)) (ag_cwV 2 hts mw_m_M_54 mw_instanceMethod_M_fails mw_sel_M_fails mw_ini_M mw_code_M_fails rfl rfl (by decide +kernel) ⟨Nat.le_of_ble_eq_true rfl, Nat.le_of_ble_eq_true rfl⟩) ⟨ag_blind, va_recv hK hPc (ci := 2) (q0 := 0) rfl rfl, ag_pre hPc hK hDc⟩ rfl rfl hl.1 rfl (lv_room (Nat.le_of_ble_eq_true rfl)) d_M_mark_32 ⟨Nat.le_of_ble_eq_true rfl, Nat.le_of_ble_eq_true rfl⟩) (fun r2 u H locs hw hP hD hS => ?_)
        try dsimp only at hw
        subst hw
        have hP : va_P (dC, dI) agCl [(b, .inr (2, [.int (nI 2), .int (nI G), .int (nI R), .long (lN en), .long (lN nw), .int (nI ms.length), .ref qn, .ref qk, .int (nI mo), .long (lN la), .long (lN go), .long (lN sp)])), (qn, .inl (cI, 1200, .inl f)), (qk, .inl (cI, 1200, .inl g))] H := hP
        have hD : va_D A [(b, .inr (2, [.int (nI 2), .int (nI G), .int (nI R), .long (lN en), .long (lN nw), .int (nI ms.length), .ref qn, .ref qk, .int (nI mo), .long (lN la), .long (lN go), .long (lN sp)])), (qn, .inl (cI, 1200, .inl f)), (qk, .inl (cI, 1200, .inl g))] := hD
        refine lv_if_eq (tgt := 40) hx hb d_M_mark_35 (by decide) (fun c35 => ?_) (fun c35 => ?_)
        · have h_n := trivial
          exact absurd c35 (by decide)
        · have h_n := trivial
          refine ag_lconst hx hb 0 d_M_mark_38 (by decide) ?_
          exact ag_retl hx hb hr hlocks () trivial hP hK hD hS d_M_mark_39
  · have h_n := trivial
    exact absurd hk (by omega)

set_option maxHeartbeats 4000000 in
set_option maxRecDepth 100000 in
/-- mark(k, j) -/
theorem c_M_mark_0 (l : Launch) (dC : Nat → ClassId) (dI : Nat → Nat → Nat) (sz : Nat) (b qn qk : Nat) (cI : ClassId) (cd G R en nw mo la go sp : Nat) (f g : Nat → Int32) (ms : ag_M) (k j : Nat) (hG2 : G ≤ 1000) (hbd : ag_bd ms) (hso : ms.Pairwise (fun x y => x.1 < y.1)) (hk : k < ms.length) (hj : j ≤ 2) (hrep : ag_rpm ms f g) : Met l y_M_mark (Cond.code y_M_mark b_M_mark 3 (some .long) :: agW) ({ frames := 2, cells := 0, slots := 0, locals := 50 }) (va_Pc [.ref b, .int (nI k), .int (nI j)] (ag_at (dC, dI) agCl [(cI, .int)] sz [(b, .inr (2, [.int (nI cd), .int (nI G), .int (nI R), .long (lN en), .long (lN nw), .int (nI ms.length), .ref qn, .ref qk, .int (nI mo), .long (lN la), .long (lN go), .long (lN sp)])), (qn, .inl (cI, 1200, .inl f)), (qk, .inl (cI, 1200, .inl g))])) (va_Ql (fun (r : Int64) (_ : Unit) => r = ag_mark G ms k j) (ag_to (dC, dI) agCl [(cI, .int)] (va_A [(b, .inr (2, [.int (nI cd), .int (nI G), .int (nI R), .long (lN en), .long (lN nw), .int (nI ms.length), .ref qn, .ref qk, .int (nI mo), .long (lN la), .long (lN go), .long (lN sp)])), (qn, .inl (cI, 1200, .inl f)), (qk, .inl (cI, 1200, .inl g))] sz) (fun _ : Unit => [(b, .inr (2, [.int (nI 0), .int (nI G), .int (nI R), .long (lN en), .long (lN nw), .int (nI ms.length), .ref qn, .ref qk, .int (nI mo), .long (lN la), .long (lN go), .long (lN sp)])), (qn, .inl (cI, 1200, .inl f)), (qk, .inl (cI, 1200, .inl g))])) (va_A [(b, .inr (2, [.int (nI cd), .int (nI G), .int (nI R), .long (lN en), .long (lN nw), .int (nI ms.length), .ref qn, .ref qk, .int (nI mo), .long (lN la), .long (lN go), .long (lN sp)])), (qn, .inl (cI, 1200, .inl f)), (qk, .inl (cI, 1200, .inl g))] sz)) 0 0 (va_A [(b, .inr (2, [.int (nI cd), .int (nI G), .int (nI R), .long (lN en), .long (lN nw), .int (nI ms.length), .ref qn, .ref qk, .int (nI mo), .long (lN la), .long (lN go), .long (lN sp)])), (qn, .inl (cI, 1200, .inl f)), (qk, .inl (cI, 1200, .inl g))] sz) := by
  refine ag_ofW (Qf := fun A => va_Ql (fun (r : Int64) (_ : Unit) => r = ag_mark G ms k j) (ag_to (dC, dI) agCl [(cI, .int)] A (fun _ : Unit => [(b, .inr (2, [.int (nI 0), .int (nI G), .int (nI R), .long (lN en), .long (lN nw), .int (nI ms.length), .ref qn, .ref qk, .int (nI mo), .long (lN la), .long (lN go), .long (lN sp)])), (qn, .inl (cI, 1200, .inl f)), (qk, .inl (cI, 1200, .inl g))])) A) (cc := b_M_mark) (maxL := 3) (ret := (some .long)) (lv := [(0, .ref b), (1, .int (nI k)), (2, .int (nI j))]) (by decide) rfl (Nat.le_of_ble_eq_true rfl) rfl (fun p e s m below meth c A ls hx hb hr hts hown hlocks hml hnm hA hS hP hK hD hl hsz => ?_)
  have hown : s.vm.findClass "AgedMarksModel" = some m.cls := hown
  have ht : ∀ w ∈ agW, w.before [.ref b, .int (nI k), .int (nI j)].toArray s = true := fun w h => hts w (List.mem_cons_of_mem _ h)
  have hlen := hbd.1
  have hb1 := hbd.2 _ (List.getElem_mem hk)
  have hk9 : ms.length - 1 < ms.length := by omega
  have hb2 := hbd.2 _ (List.getElem_mem hk9)
  have hle9 : (ms[k]).1 ≤ (ms[ms.length - 1]).1 := by
    rcases Nat.lt_or_ge k (ms.length - 1) with q | q
    · exact Nat.le_of_lt (List.pairwise_iff_getElem.mp hso k (ms.length - 1) hk hk9 q)
    · have e9 : k = ms.length - 1 := by omega
      subst e9
      exact Nat.le_refl _
  refine lv_aload_n hx hb d_M_mark_0 rfl (lv_at hl 0 rfl) ?_
  refine lv_iload_n hx hb d_M_mark_1 rfl (lv_at hl 1 rfl) ?_
  refine ag_if_lt (tgt := 13) hx hb d_M_mark_2 (by decide) (by omega) ?_
  refine lv_iload_n hx hb d_M_mark_5 rfl (lv_at hl 1 rfl) ?_
  refine lv_aload_n hx hb d_M_mark_6 rfl (lv_at hl 0 rfl) ?_
  refine va_get (D := (dC, dI)) (ci := 2) (v := .int (nI ms.length)) (C := RX2) (T := TX2) (N := 12) hx hb ht inA2 hown hK hP 0 rfl rfl 5 (by decide) (ht _ mw_f_M_7) (fun _ h9 => h9) rfl d_M_mark_7 ?_
  refine ag_icmp_lt (tgt := 17) hx hb d_M_mark_10 (by decide) (by omega) (by omega) (fun c10 => ?_) (fun c10 => ?_)
  · have h_n := trivial
    refine ag_iconst hx hb 0 d_M_mark_17 (by decide) ?_
    refine lv_iload_n hx hb d_M_mark_18 rfl (lv_at hl 2 rfl) ?_
    refine ag_if_lt (tgt := 27) hx hb d_M_mark_19 (by decide) (by omega) ?_
    refine lv_iload_n hx hb d_M_mark_22 rfl (lv_at hl 2 rfl) ?_
    refine ag_iconst hx hb 2 d_M_mark_23 (by decide) ?_
    refine ag_icmp_le (tgt := 31) hx hb d_M_mark_24 (by decide) (by omega) (by omega) (fun c24 => ?_) (fun c24 => ?_)
    · have h_n := trivial
      refine ag_iconst hx hb 0 d_M_mark_31 (by decide) ?_
      have hPc := hP.sub (ws' := [(b, .inr (2, [.int (nI cd), .int (nI G), .int (nI R), .long (lN en), .long (lN nw), .int (nI ms.length), .ref qn, .ref qk, .int (nI mo), .long (lN la), .long (lN go), .long (lN sp)])), (qn, .inl (cI, 1200, .inl f)), (qk, .inl (cI, 1200, .inl g))]) [0, 1, 2] rfl
      have hDc := hD.sub (ws' := [(b, .inr (2, [.int (nI cd), .int (nI G), .int (nI R), .long (lN en), .long (lN nw), .int (nI ms.length), .ref qn, .ref qk, .int (nI mo), .long (lN la), .long (lN go), .long (lN sp)])), (qn, .inl (cI, 1200, .inl f)), (qk, .inl (cI, 1200, .inl g))]) [0, 1, 2] (by decide) rfl
      refine ag_cli (wc := [(b, .inr (2, [.int (nI cd), .int (nI G), .int (nI R), .long (lN en), .long (lN nw), .int (nI ms.length), .ref qn, .ref qk, .int (nI mo), .long (lN la), .long (lN go), .long (lN sp)])), (qn, .inl (cI, 1200, .inl f)), (qk, .inl (cI, 1200, .inl g))]) (wr := []) (Wf := fun _ : Unit => [(b, .inr (2, [.int (nI (if 0 = 1 then 1 else if 0 = 1 then 2 else 0)), .int (nI G), .int (nI R), .long (lN en), .long (lN nw), .int (nI ms.length), .ref qn, .ref qk, .int (nI mo), .long (lN la), .long (lN go), .long (lN sp)])), (qn, .inl (cI, 1200, .inl f)), (qk, .inl (cI, 1200, .inl g))]) hP hD hS hA [0, 1, 2] [] rfl rfl (by decide) (by decide) (va_runV (C := "AgedMarksModel") (As := [.int (nI 0), .int (nI 0)]) (rest := []) ⟨hx, hb, hml, hown, hts⟩ (c_M_fails l dC dI s.heap.size b qn qk cI cd G R en nw mo la go sp f g ms 0 0 (by decide) (by decide)) (ag_cwV 2 hts mw_m_M_54 mw_instanceMethod_M_fails mw_sel_M_fails mw_ini_M mw_code_M_fails rfl rfl (by decide +kernel) ⟨Nat.le_of_ble_eq_true rfl, Nat.le_of_ble_eq_true rfl⟩) ⟨ag_blind, va_recv hK hPc (ci := 2) (q0 := 0) rfl rfl, ag_pre hPc hK hDc⟩ rfl rfl hl.1 rfl (lv_room (Nat.le_of_ble_eq_true rfl)) d_M_mark_32 ⟨Nat.le_of_ble_eq_true rfl, Nat.le_of_ble_eq_true rfl⟩) (fun r1 u H locs hw hP hD hS => ?_)
      try dsimp only at hw
      subst hw
      have hP : va_P (dC, dI) agCl [(b, .inr (2, [.int (nI 0), .int (nI G), .int (nI R), .long (lN en), .long (lN nw), .int (nI ms.length), .ref qn, .ref qk, .int (nI mo), .long (lN la), .long (lN go), .long (lN sp)])), (qn, .inl (cI, 1200, .inl f)), (qk, .inl (cI, 1200, .inl g))] H := hP
      have hD : va_D A [(b, .inr (2, [.int (nI 0), .int (nI G), .int (nI R), .long (lN en), .long (lN nw), .int (nI ms.length), .ref qn, .ref qk, .int (nI mo), .long (lN la), .long (lN go), .long (lN sp)])), (qn, .inl (cI, 1200, .inl f)), (qk, .inl (cI, 1200, .inl g))] := hD
      refine lv_if_eq (tgt := 40) hx hb d_M_mark_35 (by decide) (fun c35 => ?_) (fun c35 => ?_)
      · have h_n := trivial
        rcases (show j = 0 ∨ j = 1 ∨ j = 2 by omega) with rfl | rfl | rfl
        · have h_n := trivial
          refine lv_iload_n hx hb d_M_mark_40 rfl (lv_at hl 2 rfl) ?_
          refine lv_if_ne (tgt := 60) hx hb d_M_mark_41 (by decide) (fun c41 => ?_) (fun c41 => ?_)
          · have h_n := trivial
            exact absurd (by decide) c41
          · have h_n := trivial
            refine lv_aload_n hx hb d_M_mark_44 rfl (lv_at hl 0 rfl) ?_
            refine va_get (D := (dC, dI)) (ci := 2) (v := .ref qn) (C := RX2) (T := TX2) (N := 12) hx hb ht inA2 hown hK hP 0 rfl rfl 6 (by decide) (ht _ mw_f_M_13) (fun _ h9 => h9) rfl d_M_mark_45 ?_
            refine lv_iload_n hx hb d_M_mark_48 rfl (lv_at hl 1 rfl) ?_
            refine ag_iald hx hb hK hP 1 0 rfl rfl (by omega) (by decide) d_M_mark_49 ?_
            refine ag_topi (nI ((ms[k]).1)) ((hrep k hk).1) ?_
            refine lv_i2l (v := lN ((ms[k]).1)) hx hb d_M_mark_50 (nI_l (by omega)) ?_
            refine lv_aload_n hx hb d_M_mark_51 rfl (lv_at hl 0 rfl) ?_
            refine va_get (D := (dC, dI)) (ci := 2) (v := .int (nI G)) (C := RX2) (T := TX2) (N := 12) hx hb ht inA2 hown hK hP 0 rfl rfl 1 (by decide) (ht _ mw_f_M_23) (fun _ h9 => h9) rfl d_M_mark_52 ?_
            refine lv_i2l (v := lN G) hx hb d_M_mark_55 (nI_l (by omega)) ?_
            refine lv_lmul hx hb d_M_mark_56 ?_
            refine ag_topl (lN (((ms[k]).1) * G)) (lN_mul _ _) ?_
            refine lv_goto (tgt := 94) hx hb d_M_mark_57 (by decide) ?_
            exact ag_retl hx hb hr hlocks () (by rw [ag_mark, ag_num_eq hk]; rfl) hP hK hD hS d_M_mark_94
        · have h_n := trivial
          refine lv_iload_n hx hb d_M_mark_40 rfl (lv_at hl 2 rfl) ?_
          refine lv_if_ne (tgt := 60) hx hb d_M_mark_41 (by decide) (fun c41 => ?_) (fun c41 => ?_)
          · have h_n := trivial
            refine lv_iload_n hx hb d_M_mark_60 rfl (lv_at hl 2 rfl) ?_
            refine ag_iconst hx hb 1 d_M_mark_61 (by decide) ?_
            refine ag_icmp_ne (tgt := 75) hx hb d_M_mark_62 (by decide) (by omega) (by omega) (fun c62 => ?_) (fun c62 => ?_)
            · have h_n := trivial
              exact absurd rfl c62
            · have h_n := trivial
              refine lv_aload_n hx hb d_M_mark_65 rfl (lv_at hl 0 rfl) ?_
              refine va_get (D := (dC, dI)) (ci := 2) (v := .ref qk) (C := RX2) (T := TX2) (N := 12) hx hb ht inA2 hown hK hP 0 rfl rfl 7 (by decide) (ht _ mw_f_M_17) (fun _ h9 => h9) rfl d_M_mark_66 ?_
              refine lv_iload_n hx hb d_M_mark_69 rfl (lv_at hl 1 rfl) ?_
              refine ag_iald hx hb hK hP 2 0 rfl rfl (by omega) (by decide) d_M_mark_70 ?_
              refine ag_topi (nI ((ms[k]).2)) ((hrep k hk).2) ?_
              refine lv_i2l (v := lN ((ms[k]).2)) hx hb d_M_mark_71 (nI_l (by omega)) ?_
              refine lv_goto (tgt := 94) hx hb d_M_mark_72 (by decide) ?_
              exact ag_retl hx hb hr hlocks () (by rw [ag_mark, ag_slo_eq hk]; rfl) hP hK hD hS d_M_mark_94
          · have h_n := trivial
            exact absurd c41 (by decide)
        · have h_n := trivial
          refine lv_iload_n hx hb d_M_mark_40 rfl (lv_at hl 2 rfl) ?_
          refine lv_if_ne (tgt := 60) hx hb d_M_mark_41 (by decide) (fun c41 => ?_) (fun c41 => ?_)
          · have h_n := trivial
            refine lv_iload_n hx hb d_M_mark_60 rfl (lv_at hl 2 rfl) ?_
            refine ag_iconst hx hb 1 d_M_mark_61 (by decide) ?_
            refine ag_icmp_ne (tgt := 75) hx hb d_M_mark_62 (by decide) (by omega) (by omega) (fun c62 => ?_) (fun c62 => ?_)
            · have h_n := trivial
              refine lv_aload_n hx hb d_M_mark_75 rfl (lv_at hl 0 rfl) ?_
              refine va_get (D := (dC, dI)) (ci := 2) (v := .ref qn) (C := RX2) (T := TX2) (N := 12) hx hb ht inA2 hown hK hP 0 rfl rfl 6 (by decide) (ht _ mw_f_M_13) (fun _ h9 => h9) rfl d_M_mark_76 ?_
              refine lv_aload_n hx hb d_M_mark_79 rfl (lv_at hl 0 rfl) ?_
              refine va_get (D := (dC, dI)) (ci := 2) (v := .int (nI ms.length)) (C := RX2) (T := TX2) (N := 12) hx hb ht inA2 hown hK hP 0 rfl rfl 5 (by decide) (ht _ mw_f_M_7) (fun _ h9 => h9) rfl d_M_mark_80 ?_
              refine ag_iconst hx hb 1 d_M_mark_83 (by decide) ?_
              refine lv_isub hx hb d_M_mark_84 ?_
              refine ag_topi (nI (ms.length - 1)) (pk_sub (by omega)) ?_
              refine ag_iald hx hb hK hP 1 0 rfl rfl (by omega) (by decide) d_M_mark_85 ?_
              refine ag_topi (nI ((ms[ms.length - 1]).1)) ((hrep _ hk9).1) ?_
              refine lv_aload_n hx hb d_M_mark_86 rfl (lv_at hl 0 rfl) ?_
              refine va_get (D := (dC, dI)) (ci := 2) (v := .ref qn) (C := RX2) (T := TX2) (N := 12) hx hb ht inA2 hown hK hP 0 rfl rfl 6 (by decide) (ht _ mw_f_M_13) (fun _ h9 => h9) rfl d_M_mark_87 ?_
              refine lv_iload_n hx hb d_M_mark_90 rfl (lv_at hl 1 rfl) ?_
              refine ag_iald hx hb hK hP 1 0 rfl rfl (by omega) (by decide) d_M_mark_91 ?_
              refine ag_topi (nI ((ms[k]).1)) ((hrep k hk).1) ?_
              refine lv_isub hx hb d_M_mark_92 ?_
              refine ag_topi (nI (((ms[ms.length - 1]).1) - ((ms[k]).1))) (pk_sub (by omega)) ?_
              refine lv_i2l (v := lN (((ms[ms.length - 1]).1) - ((ms[k]).1))) hx hb d_M_mark_93 (nI_l (by omega)) ?_
              exact ag_retl hx hb hr hlocks () (by rw [ag_mark, ag_num_eq hk, ag_num_eq hk9]; rfl) hP hK hD hS d_M_mark_94
            · have h_n := trivial
              exact absurd c62 (by decide)
          · have h_n := trivial
            exact absurd c41 (by decide)
      · have h_n := trivial
        exact absurd (by decide) c35
    · have h_n := trivial
      exact absurd hj (by omega)
  · have h_n := trivial
    exact absurd hk (by omega)
