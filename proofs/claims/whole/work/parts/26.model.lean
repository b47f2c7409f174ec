section AgCl2
theorem ag_rpm0 : ag_rpm [(0, 0)] (fun _ => 0) (fun _ => 0) := fun j hj => by
  have e : j = 0 := by simpa using hj
  subst e
  exact ⟨rfl, rfl⟩
theorem ag_nIlit {k : Nat} (h : k < 2 ^ 31) {x : Int32} : (nI k ≤ x ↔ (k : Int) ≤ x.toInt) ∧ (x ≤ nI k ↔ x.toInt ≤ (k : Int)) := by
  rw [Int32.le_iff_toInt_le, Int32.le_iff_toInt_le, nI_toInt h]
  exact ⟨Iff.rfl, Iff.rfl⟩
theorem ag_clampA {lo hi : Nat} {x : Int32} (h : ¬ nI lo ≤ x) (hl : lo < 2 ^ 31 := by decide) : lo = ag_clamp lo hi x := by
  have h1 := mt (ag_nIlit hl).1.mpr h
  unfold ag_clamp
  rw [if_pos (by omega)]
theorem ag_clampC {lo hi : Nat} {x : Int32} (hlh : lo ≤ hi) (h : ¬ x ≤ nI hi) (hl : hi < 2 ^ 31 := by decide) : hi = ag_clamp lo hi x := by
  have h1 := mt (ag_nIlit hl).2.mpr h
  unfold ag_clamp
  rw [if_neg (by omega), if_pos (by omega)]
theorem ag_clampB {lo hi : Nat} {x : Int32} (h : nI lo ≤ x) (h2 : x ≤ nI hi) (hl : lo < 2 ^ 31 := by decide) (hh : hi < 2 ^ 31 := by decide) : x = nI (ag_clamp lo hi x) := by
  have h1 := (ag_nIlit hl).1.mp h
  have h3 := (ag_nIlit hh).2.mp h2
  unfold ag_clamp
  rw [if_neg (by omega), if_neg (by omega)]
  have h4 : ¬ x < 0 := fun q => by
    have h5 := Int32.lt_iff_toInt_lt.mp q
    have h0 : (0 : Int32).toInt = 0 := rfl
    omega
  obtain ⟨k, hk, rfl⟩ := nI_of h4
  rw [nI_toInt hk]
  rfl
end AgCl2

set_option maxHeartbeats 4000000 in
set_option maxRecDepth 100000 in
/-- AgedMarksModel(x, y) -/
theorem c_M_init (l : Launch) (dC : Nat → ClassId) (dI : Nat → Nat → Nat) (sz : Nat) (b : Nat) (cI : ClassId) (x y : Int32)  : Met l y_M_init (Cond.code y_M_init b_M_init 3 none :: agW) ({ frames := 1, cells := 2, slots := 2400, locals := 20 }) (va_Pc [.ref b, .int x, .int y] (ag_at (dC, dI) agCl [(cI, .int)] sz [(b, .inr (2, [.int (nI 0), .int (nI 0), .int (nI 0), .long (lN 0), .long (lN 0), .int (nI 0), .null, .null, .int (nI 0), .long (lN 0), .long (lN 0), .long (lN 0)]))])) (va_Qv (fun u : Nat × Nat × (Nat → Int32) × (Nat → Int32) => ag_rpm [(0, 0)] u.2.2.1 u.2.2.2) (ag_to (dC, dI) agCl [(cI, .int)] (va_A [(b, .inr (2, [.int (nI 0), .int (nI 0), .int (nI 0), .long (lN 0), .long (lN 0), .int (nI 0), .null, .null, .int (nI 0), .long (lN 0), .long (lN 0), .long (lN 0)]))] sz) (fun u : Nat × Nat × (Nat → Int32) × (Nat → Int32) => [(b, .inr (2, [.int (nI 0), .int (nI (ag_clamp 1 1000 x)), .int (nI (ag_clamp 2 16 y)), .long (lN 0), .long (lN 0), .int (nI 1), .ref u.1, .ref u.2.1, .int (nI 1), .long (lN 0), .long (lN 0), .long (lN 0)])), (u.1, .inl (cI, 1200, .inl u.2.2.1)), (u.2.1, .inl (cI, 1200, .inl u.2.2.2))])) (va_A [(b, .inr (2, [.int (nI 0), .int (nI 0), .int (nI 0), .long (lN 0), .long (lN 0), .int (nI 0), .null, .null, .int (nI 0), .long (lN 0), .long (lN 0), .long (lN 0)]))] sz)) 2 2400 (va_A [(b, .inr (2, [.int (nI 0), .int (nI 0), .int (nI 0), .long (lN 0), .long (lN 0), .int (nI 0), .null, .null, .int (nI 0), .long (lN 0), .long (lN 0), .long (lN 0)]))] sz) := by
  refine ag_ofW (Qf := fun A => va_Qv (fun u : Nat × Nat × (Nat → Int32) × (Nat → Int32) => ag_rpm [(0, 0)] u.2.2.1 u.2.2.2) (ag_to (dC, dI) agCl [(cI, .int)] A (fun u : Nat × Nat × (Nat → Int32) × (Nat → Int32) => [(b, .inr (2, [.int (nI 0), .int (nI (ag_clamp 1 1000 x)), .int (nI (ag_clamp 2 16 y)), .long (lN 0), .long (lN 0), .int (nI 1), .ref u.1, .ref u.2.1, .int (nI 1), .long (lN 0), .long (lN 0), .long (lN 0)])), (u.1, .inl (cI, 1200, .inl u.2.2.1)), (u.2.1, .inl (cI, 1200, .inl u.2.2.2))])) A) (cc := b_M_init) (maxL := 3) (ret := none) (lv := [(0, .ref b), (1, .int x), (2, .int y)]) (by decide) rfl (Nat.le_of_ble_eq_true rfl) rfl (fun p e s m below meth c A ls hx hb hr hts hown hlocks hml hnm hA hS hP hK hD hl hsz => ?_)
  have hown : s.vm.findClass "AgedMarksModel" = some m.cls := hown
  have ht : ∀ w ∈ agW, w.before [.ref b, .int x, .int y].toArray s = true := fun w h => hts w (List.mem_cons_of_mem _ h)
  refine lv_aload_n hx hb d_M_init_0 rfl (lv_at hl 0 rfl) ?_
  refine W.objInit hx hb hown (ht _ mw_m_M_1) (ht _ mw_instanceMethod_O_init) (ht _ mw_code_O_init) rfl (by rw [hml]; exact hl.1) rfl d_M_init_1 (Nat.le_of_ble_eq_true rfl) (Nat.le_of_ble_eq_true rfl) ?_
  refine W.eq (g2 := F0 m 4 ls []) rfl ?_
  have hnm : meth.name = "<init>" := hnm
  refine lv_aload_n hx hb d_M_init_4 rfl (lv_at hl 0 rfl) ?_
  refine ag_iconst hx hb 1 d_M_init_5 (by decide) ?_
  refine va_put (D := (dC, dI)) (ci := 2) (v := .int (nI 1)) (ty := .int) (C := RX2) (T := TX2) (N := 12) hx hb ht inA2 tyX2 tyX2_ok nmX2 hown hK hP hD hS 0 rfl rfl 5 (by decide) (ht _ mw_f_M_7) (fun _ h9 => h9) rfl (by decide +kernel) rfl rfl (Nat.le_of_ble_eq_true rfl) d_M_init_6 (fun H locs hP hD hS => ?_)
  have hP : va_P (dC, dI) agCl [(b, .inr (2, [.int (nI 0), .int (nI 0), .int (nI 0), .long (lN 0), .long (lN 0), .int (nI 1), .null, .null, .int (nI 0), .long (lN 0), .long (lN 0), .long (lN 0)]))] H := hP
  have hD : va_D A [(b, .inr (2, [.int (nI 0), .int (nI 0), .int (nI 0), .long (lN 0), .long (lN 0), .int (nI 1), .null, .null, .int (nI 0), .long (lN 0), .long (lN 0), .long (lN 0)]))] := hD
  refine lv_aload_n hx hb d_M_init_9 rfl (lv_at hl 0 rfl) ?_
  refine ag_sipush hx hb 1200 d_M_init_10 (by decide) ?_
  refine va_newa (atype := .int) (ty := .int) (N' := 1200) (a0 := (1200, .inl (fun _ => 0))) hx hb (ht _ mw_arr__int_) rfl hK hP hD hS hA (fun _ => rfl) (nI_pos (by decide)) (nI_clamp (by decide)) (by decide) (Nat.le_of_ble_eq_true rfl) (Nat.le_of_ble_eq_true rfl) d_M_init_13 (fun qn c9 H hK9 hP hD hS => ?_)
  obtain rfl : cI = c9 := ag_Ku hK9 0 1 rfl rfl
  clear hK9
  have hP : va_P (dC, dI) agCl [(b, .inr (2, [.int (nI 0), .int (nI 0), .int (nI 0), .long (lN 0), .long (lN 0), .int (nI 1), .null, .null, .int (nI 0), .long (lN 0), .long (lN 0), .long (lN 0)])), (qn, .inl (cI, 1200, .inl (fun _ => 0)))] H := hP
  have hD : va_D A [(b, .inr (2, [.int (nI 0), .int (nI 0), .int (nI 0), .long (lN 0), .long (lN 0), .int (nI 1), .null, .null, .int (nI 0), .long (lN 0), .long (lN 0), .long (lN 0)])), (qn, .inl (cI, 1200, .inl (fun _ => 0)))] := hD
  refine va_putF (D := (dC, dI)) (ci := 2) (v := .ref qn) (ty := .array .int) (C := RX2) (T := TX2) (N := 12) hx hb ht inA2 tyX2 tyX2_ok nmX2 hown hK hP hD hS 0 rfl rfl 6 (by decide) (ht _ mw_f_M_13) (fun _ h9 => h9) rfl hnm rfl (by decide +kernel) rfl rfl (Nat.le_of_ble_eq_true rfl) d_M_init_15 (fun H locs hP hD hS => ?_)
  have hP : va_P (dC, dI) agCl [(b, .inr (2, [.int (nI 0), .int (nI 0), .int (nI 0), .long (lN 0), .long (lN 0), .int (nI 1), .ref qn, .null, .int (nI 0), .long (lN 0), .long (lN 0), .long (lN 0)])), (qn, .inl (cI, 1200, .inl (fun _ => 0)))] H := hP
  have hD : va_D A [(b, .inr (2, [.int (nI 0), .int (nI 0), .int (nI 0), .long (lN 0), .long (lN 0), .int (nI 1), .ref qn, .null, .int (nI 0), .long (lN 0), .long (lN 0), .long (lN 0)])), (qn, .inl (cI, 1200, .inl (fun _ => 0)))] := hD
  refine lv_aload_n hx hb d_M_init_18 rfl (lv_at hl 0 rfl) ?_
  refine ag_sipush hx hb 1200 d_M_init_19 (by decide) ?_
  refine va_newa (atype := .int) (ty := .int) (N' := 1200) (a0 := (1200, .inl (fun _ => 0))) hx hb (ht _ mw_arr__int_) rfl hK hP hD hS hA (fun _ => rfl) (nI_pos (by decide)) (nI_clamp (by decide)) (by decide) (Nat.le_of_ble_eq_true rfl) (Nat.le_of_ble_eq_true rfl) d_M_init_22 (fun qk c9 H hK9 hP hD hS => ?_)
  obtain rfl : cI = c9 := ag_Ku hK9 0 1 rfl rfl
  clear hK9
  have hP : va_P (dC, dI) agCl [(b, .inr (2, [.int (nI 0), .int (nI 0), .int (nI 0), .long (lN 0), .long (lN 0), .int (nI 1), .ref qn, .null, .int (nI 0), .long (lN 0), .long (lN 0), .long (lN 0)])), (qn, .inl (cI, 1200, .inl (fun _ => 0))), (qk, .inl (cI, 1200, .inl (fun _ => 0)))] H := hP
  have hD : va_D A [(b, .inr (2, [.int (nI 0), .int (nI 0), .int (nI 0), .long (lN 0), .long (lN 0), .int (nI 1), .ref qn, .null, .int (nI 0), .long (lN 0), .long (lN 0), .long (lN 0)])), (qn, .inl (cI, 1200, .inl (fun _ => 0))), (qk, .inl (cI, 1200, .inl (fun _ => 0)))] := hD
  refine va_putF (D := (dC, dI)) (ci := 2) (v := .ref qk) (ty := .array .int) (C := RX2) (T := TX2) (N := 12) hx hb ht inA2 tyX2 tyX2_ok nmX2 hown hK hP hD hS 0 rfl rfl 7 (by decide) (ht _ mw_f_M_17) (fun _ h9 => h9) rfl hnm rfl (by decide +kernel) rfl rfl (Nat.le_of_ble_eq_true rfl) d_M_init_24 (fun H locs hP hD hS => ?_)
  have hP : va_P (dC, dI) agCl [(b, .inr (2, [.int (nI 0), .int (nI 0), .int (nI 0), .long (lN 0), .long (lN 0), .int (nI 1), .ref qn, .ref qk, .int (nI 0), .long (lN 0), .long (lN 0), .long (lN 0)])), (qn, .inl (cI, 1200, .inl (fun _ => 0))), (qk, .inl (cI, 1200, .inl (fun _ => 0)))] H := hP
  have hD : va_D A [(b, .inr (2, [.int (nI 0), .int (nI 0), .int (nI 0), .long (lN 0), .long (lN 0), .int (nI 1), .ref qn, .ref qk, .int (nI 0), .long (lN 0), .long (lN 0), .long (lN 0)])), (qn, .inl (cI, 1200, .inl (fun _ => 0))), (qk, .inl (cI, 1200, .inl (fun _ => 0)))] := hD
  refine lv_aload_n hx hb d_M_init_27 rfl (lv_at hl 0 rfl) ?_
  refine ag_iconst hx hb 1 d_M_init_28 (by decide) ?_
  refine va_put (D := (dC, dI)) (ci := 2) (v := .int (nI 1)) (ty := .int) (C := RX2) (T := TX2) (N := 12) hx hb ht inA2 tyX2 tyX2_ok nmX2 hown hK hP hD hS 0 rfl rfl 8 (by decide) (ht _ mw_f_M_20) (fun _ h9 => h9) rfl (by decide +kernel) rfl rfl (Nat.le_of_ble_eq_true rfl) d_M_init_29 (fun H locs hP hD hS => ?_)
  have hP : va_P (dC, dI) agCl [(b, .inr (2, [.int (nI 0), .int (nI 0), .int (nI 0), .long (lN 0), .long (lN 0), .int (nI 1), .ref qn, .ref qk, .int (nI 1), .long (lN 0), .long (lN 0), .long (lN 0)])), (qn, .inl (cI, 1200, .inl (fun _ => 0))), (qk, .inl (cI, 1200, .inl (fun _ => 0)))] H := hP
  have hD : va_D A [(b, .inr (2, [.int (nI 0), .int (nI 0), .int (nI 0), .long (lN 0), .long (lN 0), .int (nI 1), .ref qn, .ref qk, .int (nI 1), .long (lN 0), .long (lN 0), .long (lN 0)])), (qn, .inl (cI, 1200, .inl (fun _ => 0))), (qk, .inl (cI, 1200, .inl (fun _ => 0)))] := hD
  refine lv_aload_n hx hb d_M_init_32 rfl (lv_at hl 0 rfl) ?_
  refine lv_iload_n hx hb d_M_init_33 rfl (lv_at hl 1 rfl) ?_
  refine ag_iconst hx hb 1 d_M_init_34 (by decide) ?_
  refine lv_icmp_ge (tgt := 42) hx hb d_M_init_35 (by decide) (fun c35 => ?_) (fun c35 => ?_)
  · have h_n := trivial
    refine lv_iload_n hx hb d_M_init_42 rfl (lv_at hl 1 rfl) ?_
    refine ag_sipush hx hb 1000 d_M_init_43 (by decide) ?_
    refine lv_icmp_le (tgt := 55) hx hb d_M_init_46 (by decide) (fun c46 => ?_) (fun c46 => ?_)
    · have h_n := trivial
      refine lv_iload_n hx hb d_M_init_55 rfl (lv_at hl 1 rfl) ?_
      refine ag_topi (nI (ag_clamp 1 1000 x)) (ag_clampB c35 c46) ?_
      refine va_putF (D := (dC, dI)) (ci := 2) (v := .int (nI (ag_clamp 1 1000 x))) (ty := .int) (C := RX2) (T := TX2) (N := 12) hx hb ht inA2 tyX2 tyX2_ok nmX2 hown hK hP hD hS 0 rfl rfl 1 (by decide) (ht _ mw_f_M_23) (fun _ h9 => h9) rfl hnm rfl (by decide +kernel) rfl rfl (Nat.le_of_ble_eq_true rfl) d_M_init_56 (fun H locs hP hD hS => ?_)
      have hP : va_P (dC, dI) agCl [(b, .inr (2, [.int (nI 0), .int (nI (ag_clamp 1 1000 x)), .int (nI 0), .long (lN 0), .long (lN 0), .int (nI 1), .ref qn, .ref qk, .int (nI 1), .long (lN 0), .long (lN 0), .long (lN 0)])), (qn, .inl (cI, 1200, .inl (fun _ => 0))), (qk, .inl (cI, 1200, .inl (fun _ => 0)))] H := hP
      have hD : va_D A [(b, .inr (2, [.int (nI 0), .int (nI (ag_clamp 1 1000 x)), .int (nI 0), .long (lN 0), .long (lN 0), .int (nI 1), .ref qn, .ref qk, .int (nI 1), .long (lN 0), .long (lN 0), .long (lN 0)])), (qn, .inl (cI, 1200, .inl (fun _ => 0))), (qk, .inl (cI, 1200, .inl (fun _ => 0)))] := hD
      refine lv_aload_n hx hb d_M_init_59 rfl (lv_at hl 0 rfl) ?_
      refine lv_iload_n hx hb d_M_init_60 rfl (lv_at hl 2 rfl) ?_
      refine ag_iconst hx hb 2 d_M_init_61 (by decide) ?_
      refine lv_icmp_ge (tgt := 69) hx hb d_M_init_62 (by decide) (fun c62 => ?_) (fun c62 => ?_)
      · have h_n := trivial
        refine lv_iload_n hx hb d_M_init_69 rfl (lv_at hl 2 rfl) ?_
        refine ag_bipush hx hb 16 d_M_init_70 (by decide) ?_
        refine lv_icmp_le (tgt := 80) hx hb d_M_init_72 (by decide) (fun c72 => ?_) (fun c72 => ?_)
        · have h_n := trivial
          refine lv_iload_n hx hb d_M_init_80 rfl (lv_at hl 2 rfl) ?_
          refine ag_topi (nI (ag_clamp 2 16 y)) (ag_clampB c62 c72) ?_
          refine va_putF (D := (dC, dI)) (ci := 2) (v := .int (nI (ag_clamp 2 16 y))) (ty := .int) (C := RX2) (T := TX2) (N := 12) hx hb ht inA2 tyX2 tyX2_ok nmX2 hown hK hP hD hS 0 rfl rfl 2 (by decide) (ht _ mw_f_M_26) (fun _ h9 => h9) rfl hnm rfl (by decide +kernel) rfl rfl (Nat.le_of_ble_eq_true rfl) d_M_init_81 (fun H locs hP hD hS => ?_)
          have hP : va_P (dC, dI) agCl [(b, .inr (2, [.int (nI 0), .int (nI (ag_clamp 1 1000 x)), .int (nI (ag_clamp 2 16 y)), .long (lN 0), .long (lN 0), .int (nI 1), .ref qn, .ref qk, .int (nI 1), .long (lN 0), .long (lN 0), .long (lN 0)])), (qn, .inl (cI, 1200, .inl (fun _ => 0))), (qk, .inl (cI, 1200, .inl (fun _ => 0)))] H := hP
          have hD : va_D A [(b, .inr (2, [.int (nI 0), .int (nI (ag_clamp 1 1000 x)), .int (nI (ag_clamp 2 16 y)), .long (lN 0), .long (lN 0), .int (nI 1), .ref qn, .ref qk, .int (nI 1), .long (lN 0), .long (lN 0), .long (lN 0)])), (qn, .inl (cI, 1200, .inl (fun _ => 0))), (qk, .inl (cI, 1200, .inl (fun _ => 0)))] := hD
          refine W.widen (k := 2) (n := 2400) (by decide) (by decide) ?_
          exact ag_retv hx hb hr hlocks (qn, qk, fun _ => 0, fun _ => 0) (fun j hj => ag_rpm0 j hj) hP hK hD hS d_M_init_84
        · have h_n := trivial
          refine ag_bipush hx hb 16 d_M_init_75 (by decide) ?_
          refine lv_goto (tgt := 81) hx hb d_M_init_77 (by decide) ?_
          refine ag_topi (nI (ag_clamp 2 16 y)) (congrArg nI (ag_clampC (by decide) c72)) ?_
          refine va_putF (D := (dC, dI)) (ci := 2) (v := .int (nI (ag_clamp 2 16 y))) (ty := .int) (C := RX2) (T := TX2) (N := 12) hx hb ht inA2 tyX2 tyX2_ok nmX2 hown hK hP hD hS 0 rfl rfl 2 (by decide) (ht _ mw_f_M_26) (fun _ h9 => h9) rfl hnm rfl (by decide +kernel) rfl rfl (Nat.le_of_ble_eq_true rfl) d_M_init_81 (fun H locs hP hD hS => ?_)
          have hP : va_P (dC, dI) agCl [(b, .inr (2, [.int (nI 0), .int (nI (ag_clamp 1 1000 x)), .int (nI (ag_clamp 2 16 y)), .long (lN 0), .long (lN 0), .int (nI 1), .ref qn, .ref qk, .int (nI 1), .long (lN 0), .long (lN 0), .long (lN 0)])), (qn, .inl (cI, 1200, .inl (fun _ => 0))), (qk, .inl (cI, 1200, .inl (fun _ => 0)))] H := hP
          have hD : va_D A [(b, .inr (2, [.int (nI 0), .int (nI (ag_clamp 1 1000 x)), .int (nI (ag_clamp 2 16 y)), .long (lN 0), .long (lN 0), .int (nI 1), .ref qn, .ref qk, .int (nI 1), .long (lN 0), .long (lN 0), .long (lN 0)])), (qn, .inl (cI, 1200, .inl (fun _ => 0))), (qk, .inl (cI, 1200, .inl (fun _ => 0)))] := hD
          refine W.widen (k := 2) (n := 2400) (by decide) (by decide) ?_
          exact ag_retv hx hb hr hlocks (qn, qk, fun _ => 0, fun _ => 0) (fun j hj => ag_rpm0 j hj) hP hK hD hS d_M_init_84
      · have h_n := trivial
        refine ag_iconst hx hb 2 d_M_init_65 (by decide) ?_
        refine lv_goto (tgt := 81) hx hb d_M_init_66 (by decide) ?_
        refine ag_topi (nI (ag_clamp 2 16 y)) (congrArg nI (ag_clampA c62)) ?_
        refine va_putF (D := (dC, dI)) (ci := 2) (v := .int (nI (ag_clamp 2 16 y))) (ty := .int) (C := RX2) (T := TX2) (N := 12) hx hb ht inA2 tyX2 tyX2_ok nmX2 hown hK hP hD hS 0 rfl rfl 2 (by decide) (ht _ mw_f_M_26) (fun _ h9 => h9) rfl hnm rfl (by decide +kernel) rfl rfl (Nat.le_of_ble_eq_true rfl) d_M_init_81 (fun H locs hP hD hS => ?_)
        have hP : va_P (dC, dI) agCl [(b, .inr (2, [.int (nI 0), .int (nI (ag_clamp 1 1000 x)), .int (nI (ag_clamp 2 16 y)), .long (lN 0), .long (lN 0), .int (nI 1), .ref qn, .ref qk, .int (nI 1), .long (lN 0), .long (lN 0), .long (lN 0)])), (qn, .inl (cI, 1200, .inl (fun _ => 0))), (qk, .inl (cI, 1200, .inl (fun _ => 0)))] H := hP
        have hD : va_D A [(b, .inr (2, [.int (nI 0), .int (nI (ag_clamp 1 1000 x)), .int (nI (ag_clamp 2 16 y)), .long (lN 0), .long (lN 0), .int (nI 1), .ref qn, .ref qk, .int (nI 1), .long (lN 0), .long (lN 0), .long (lN 0)])), (qn, .inl (cI, 1200, .inl (fun _ => 0))), (qk, .inl (cI, 1200, .inl (fun _ => 0)))] := hD
        refine W.widen (k := 2) (n := 2400) (by decide) (by decide) ?_
        exact ag_retv hx hb hr hlocks (qn, qk, fun _ => 0, fun _ => 0) (fun j hj => ag_rpm0 j hj) hP hK hD hS d_M_init_84
    · have h_n := trivial
      refine ag_sipush hx hb 1000 d_M_init_49 (by decide) ?_
      refine lv_goto (tgt := 56) hx hb d_M_init_52 (by decide) ?_
      refine ag_topi (nI (ag_clamp 1 1000 x)) (congrArg nI (ag_clampC (by decide) c46)) ?_
      refine va_putF (D := (dC, dI)) (ci := 2) (v := .int (nI (ag_clamp 1 1000 x))) (ty := .int) (C := RX2) (T := TX2) (N := 12) hx hb ht inA2 tyX2 tyX2_ok nmX2 hown hK hP hD hS 0 rfl rfl 1 (by decide) (ht _ mw_f_M_23) (fun _ h9 => h9) rfl hnm rfl (by decide +kernel) rfl rfl (Nat.le_of_ble_eq_true rfl) d_M_init_56 (fun H locs hP hD hS => ?_)
      have hP : va_P (dC, dI) agCl [(b, .inr (2, [.int (nI 0), .int (nI (ag_clamp 1 1000 x)), .int (nI 0), .long (lN 0), .long (lN 0), .int (nI 1), .ref qn, .ref qk, .int (nI 1), .long (lN 0), .long (lN 0), .long (lN 0)])), (qn, .inl (cI, 1200, .inl (fun _ => 0))), (qk, .inl (cI, 1200, .inl (fun _ => 0)))] H := hP
      have hD : va_D A [(b, .inr (2, [.int (nI 0), .int (nI (ag_clamp 1 1000 x)), .int (nI 0), .long (lN 0), .long (lN 0), .int (nI 1), .ref qn, .ref qk, .int (nI 1), .long (lN 0), .long (lN 0), .long (lN 0)])), (qn, .inl (cI, 1200, .inl (fun _ => 0))), (qk, .inl (cI, 1200, .inl (fun _ => 0)))] := hD
      refine lv_aload_n hx hb d_M_init_59 rfl (lv_at hl 0 rfl) ?_
      refine lv_iload_n hx hb d_M_init_60 rfl (lv_at hl 2 rfl) ?_
      refine ag_iconst hx hb 2 d_M_init_61 (by decide) ?_
      refine lv_icmp_ge (tgt := 69) hx hb d_M_init_62 (by decide) (fun c62 => ?_) (fun c62 => ?_)
      · have h_n := trivial
        refine lv_iload_n hx hb d_M_init_69 rfl (lv_at hl 2 rfl) ?_
        refine ag_bipush hx hb 16 d_M_init_70 (by decide) ?_
        refine lv_icmp_le (tgt := 80) hx hb d_M_init_72 (by decide) (fun c72 => ?_) (fun c72 => ?_)
        · have h_n := trivial
          refine lv_iload_n hx hb d_M_init_80 rfl (lv_at hl 2 rfl) ?_
          refine ag_topi (nI (ag_clamp 2 16 y)) (ag_clampB c62 c72) ?_
          refine va_putF (D := (dC, dI)) (ci := 2) (v := .int (nI (ag_clamp 2 16 y))) (ty := .int) (C := RX2) (T := TX2) (N := 12) hx hb ht inA2 tyX2 tyX2_ok nmX2 hown hK hP hD hS 0 rfl rfl 2 (by decide) (ht _ mw_f_M_26) (fun _ h9 => h9) rfl hnm rfl (by decide +kernel) rfl rfl (Nat.le_of_ble_eq_true rfl) d_M_init_81 (fun H locs hP hD hS => ?_)
          have hP : va_P (dC, dI) agCl [(b, .inr (2, [.int (nI 0), .int (nI (ag_clamp 1 1000 x)), .int (nI (ag_clamp 2 16 y)), .long (lN 0), .long (lN 0), .int (nI 1), .ref qn, .ref qk, .int (nI 1), .long (lN 0), .long (lN 0), .long (lN 0)])), (qn, .inl (cI, 1200, .inl (fun _ => 0))), (qk, .inl (cI, 1200, .inl (fun _ => 0)))] H := hP
          have hD : va_D A [(b, .inr (2, [.int (nI 0), .int (nI (ag_clamp 1 1000 x)), .int (nI (ag_clamp 2 16 y)), .long (lN 0), .long (lN 0), .int (nI 1), .ref qn, .ref qk, .int (nI 1), .long (lN 0), .long (lN 0), .long (lN 0)])), (qn, .inl (cI, 1200, .inl (fun _ => 0))), (qk, .inl (cI, 1200, .inl (fun _ => 0)))] := hD
          refine W.widen (k := 2) (n := 2400) (by decide) (by decide) ?_
          exact ag_retv hx hb hr hlocks (qn, qk, fun _ => 0, fun _ => 0) (fun j hj => ag_rpm0 j hj) hP hK hD hS d_M_init_84
        · have h_n := trivial
          refine ag_bipush hx hb 16 d_M_init_75 (by decide) ?_
          refine lv_goto (tgt := 81) hx hb d_M_init_77 (by decide) ?_
          refine ag_topi (nI (ag_clamp 2 16 y)) (congrArg nI (ag_clampC (by decide) c72)) ?_
          refine va_putF (D := (dC, dI)) (ci := 2) (v := .int (nI (ag_clamp 2 16 y))) (ty := .int) (C := RX2) (T := TX2) (N := 12) hx hb ht inA2 tyX2 tyX2_ok nmX2 hown hK hP hD hS 0 rfl rfl 2 (by decide) (ht _ mw_f_M_26) (fun _ h9 => h9) rfl hnm rfl (by decide +kernel) rfl rfl (Nat.le_of_ble_eq_true rfl) d_M_init_81 (fun H locs hP hD hS => ?_)
          have hP : va_P (dC, dI) agCl [(b, .inr (2, [.int (nI 0), .int (nI (ag_clamp 1 1000 x)), .int (nI (ag_clamp 2 16 y)), .long (lN 0), .long (lN 0), .int (nI 1), .ref qn, .ref qk, .int (nI 1), .long (lN 0), .long (lN 0), .long (lN 0)])), (qn, .inl (cI, 1200, .inl (fun _ => 0))), (qk, .inl (cI, 1200, .inl (fun _ => 0)))] H := hP
          have hD : va_D A [(b, .inr (2, [.int (nI 0), .int (nI (ag_clamp 1 1000 x)), .int (nI (ag_clamp 2 16 y)), .long (lN 0), .long (lN 0), .int (nI 1), .ref qn, .ref qk, .int (nI 1), .long (lN 0), .long (lN 0), .long (lN 0)])), (qn, .inl (cI, 1200, .inl (fun _ => 0))), (qk, .inl (cI, 1200, .inl (fun _ => 0)))] := hD
          refine W.widen (k := 2) (n := 2400) (by decide) (by decide) ?_
          exact ag_retv hx hb hr hlocks (qn, qk, fun _ => 0, fun _ => 0) (fun j hj => ag_rpm0 j hj) hP hK hD hS d_M_init_84
      · have h_n := trivial
        refine ag_iconst hx hb 2 d_M_init_65 (by decide) ?_
        refine lv_goto (tgt := 81) hx hb d_M_init_66 (by decide) ?_
        refine ag_topi (nI (ag_clamp 2 16 y)) (congrArg nI (ag_clampA c62)) ?_
        refine va_putF (D := (dC, dI)) (ci := 2) (v := .int (nI (ag_clamp 2 16 y))) (ty := .int) (C := RX2) (T := TX2) (N := 12) hx hb ht inA2 tyX2 tyX2_ok nmX2 hown hK hP hD hS 0 rfl rfl 2 (by decide) (ht _ mw_f_M_26) (fun _ h9 => h9) rfl hnm rfl (by decide +kernel) rfl rfl (Nat.le_of_ble_eq_true rfl) d_M_init_81 (fun H locs hP hD hS => ?_)
        have hP : va_P (dC, dI) agCl [(b, .inr (2, [.int (nI 0), .int (nI (ag_clamp 1 1000 x)), .int (nI (ag_clamp 2 16 y)), .long (lN 0), .long (lN 0), .int (nI 1), .ref qn, .ref qk, .int (nI 1), .long (lN 0), .long (lN 0), .long (lN 0)])), (qn, .inl (cI, 1200, .inl (fun _ => 0))), (qk, .inl (cI, 1200, .inl (fun _ => 0)))] H := hP
        have hD : va_D A [(b, .inr (2, [.int (nI 0), .int (nI (ag_clamp 1 1000 x)), .int (nI (ag_clamp 2 16 y)), .long (lN 0), .long (lN 0), .int (nI 1), .ref qn, .ref qk, .int (nI 1), .long (lN 0), .long (lN 0), .long (lN 0)])), (qn, .inl (cI, 1200, .inl (fun _ => 0))), (qk, .inl (cI, 1200, .inl (fun _ => 0)))] := hD
        refine W.widen (k := 2) (n := 2400) (by decide) (by decide) ?_
        exact ag_retv hx hb hr hlocks (qn, qk, fun _ => 0, fun _ => 0) (fun j hj => ag_rpm0 j hj) hP hK hD hS d_M_init_84
  · have h_n := trivial
    refine ag_iconst hx hb 1 d_M_init_38 (by decide) ?_
    refine lv_goto (tgt := 56) hx hb d_M_init_39 (by decide) ?_
    refine ag_topi (nI (ag_clamp 1 1000 x)) (congrArg nI (ag_clampA c35)) ?_
    refine va_putF (D := (dC, dI)) (ci := 2) (v := .int (nI (ag_clamp 1 1000 x))) (ty := .int) (C := RX2) (T := TX2) (N := 12) hx hb ht inA2 tyX2 tyX2_ok nmX2 hown hK hP hD hS 0 rfl rfl 1 (by decide) (ht _ mw_f_M_23) (fun _ h9 => h9) rfl hnm rfl (by decide +kernel) rfl rfl (Nat.le_of_ble_eq_true rfl) d_M_init_56 (fun H locs hP hD hS => ?_)
    have hP : va_P (dC, dI) agCl [(b, .inr (2, [.int (nI 0), .int (nI (ag_clamp 1 1000 x)), .int (nI 0), .long (lN 0), .long (lN 0), .int (nI 1), .ref qn, .ref qk, .int (nI 1), .long (lN 0), .long (lN 0), .long (lN 0)])), (qn, .inl (cI, 1200, .inl (fun _ => 0))), (qk, .inl (cI, 1200, .inl (fun _ => 0)))] H := hP
    have hD : va_D A [(b, .inr (2, [.int (nI 0), .int (nI (ag_clamp 1 1000 x)), .int (nI 0), .long (lN 0), .long (lN 0), .int (nI 1), .ref qn, .ref qk, .int (nI 1), .long (lN 0), .long (lN 0), .long (lN 0)])), (qn, .inl (cI, 1200, .inl (fun _ => 0))), (qk, .inl (cI, 1200, .inl (fun _ => 0)))] := hD
    refine lv_aload_n hx hb d_M_init_59 rfl (lv_at hl 0 rfl) ?_
    refine lv_iload_n hx hb d_M_init_60 rfl (lv_at hl 2 rfl) ?_
    refine ag_iconst hx hb 2 d_M_init_61 (by decide) ?_
    refine lv_icmp_ge (tgt := 69) hx hb d_M_init_62 (by decide) (fun c62 => ?_) (fun c62 => ?_)
    · have h_n := trivial
      refine lv_iload_n hx hb d_M_init_69 rfl (lv_at hl 2 rfl) ?_
      refine ag_bipush hx hb 16 d_M_init_70 (by decide) ?_
      refine lv_icmp_le (tgt := 80) hx hb d_M_init_72 (by decide) (fun c72 => ?_) (fun c72 => ?_)
      · have h_n := trivial
        refine lv_iload_n hx hb d_M_init_80 rfl (lv_at hl 2 rfl) ?_
        refine ag_topi (nI (ag_clamp 2 16 y)) (ag_clampB c62 c72) ?_
        refine va_putF (D := (dC, dI)) (ci := 2) (v := .int (nI (ag_clamp 2 16 y))) (ty := .int) (C := RX2) (T := TX2) (N := 12) hx hb ht inA2 tyX2 tyX2_ok nmX2 hown hK hP hD hS 0 rfl rfl 2 (by decide) (ht _ mw_f_M_26) (fun _ h9 => h9) rfl hnm rfl (by decide +kernel) rfl rfl (Nat.le_of_ble_eq_true rfl) d_M_init_81 (fun H locs hP hD hS => ?_)
        have hP : va_P (dC, dI) agCl [(b, .inr (2, [.int (nI 0), .int (nI (ag_clamp 1 1000 x)), .int (nI (ag_clamp 2 16 y)), .long (lN 0), .long (lN 0), .int (nI 1), .ref qn, .ref qk, .int (nI 1), .long (lN 0), .long (lN 0), .long (lN 0)])), (qn, .inl (cI, 1200, .inl (fun _ => 0))), (qk, .inl (cI, 1200, .inl (fun _ => 0)))] H := hP
        have hD : va_D A [(b, .inr (2, [.int (nI 0), .int (nI (ag_clamp 1 1000 x)), .int (nI (ag_clamp 2 16 y)), .long (lN 0), .long (lN 0), .int (nI 1), .ref qn, .ref qk, .int (nI 1), .long (lN 0), .long (lN 0), .long (lN 0)])), (qn, .inl (cI, 1200, .inl (fun _ => 0))), (qk, .inl (cI, 1200, .inl (fun _ => 0)))] := hD
        refine W.widen (k := 2) (n := 2400) (by decide) (by decide) ?_
        exact ag_retv hx hb hr hlocks (qn, qk, fun _ => 0, fun _ => 0) (fun j hj => ag_rpm0 j hj) hP hK hD hS d_M_init_84
      · have h_n := trivial
        refine ag_bipush hx hb 16 d_M_init_75 (by decide) ?_
        refine lv_goto (tgt := 81) hx hb d_M_init_77 (by decide) ?_
        refine ag_topi (nI (ag_clamp 2 16 y)) (congrArg nI (ag_clampC (by decide) c72)) ?_
        refine va_putF (D := (dC, dI)) (ci := 2) (v := .int (nI (ag_clamp 2 16 y))) (ty := .int) (C := RX2) (T := TX2) (N := 12) hx hb ht inA2 tyX2 tyX2_ok nmX2 hown hK hP hD hS 0 rfl rfl 2 (by decide) (ht _ mw_f_M_26) (fun _ h9 => h9) rfl hnm rfl (by decide +kernel) rfl rfl (Nat.le_of_ble_eq_true rfl) d_M_init_81 (fun H locs hP hD hS => ?_)
        have hP : va_P (dC, dI) agCl [(b, .inr (2, [.int (nI 0), .int (nI (ag_clamp 1 1000 x)), .int (nI (ag_clamp 2 16 y)), .long (lN 0), .long (lN 0), .int (nI 1), .ref qn, .ref qk, .int (nI 1), .long (lN 0), .long (lN 0), .long (lN 0)])), (qn, .inl (cI, 1200, .inl (fun _ => 0))), (qk, .inl (cI, 1200, .inl (fun _ => 0)))] H := hP
        have hD : va_D A [(b, .inr (2, [.int (nI 0), .int (nI (ag_clamp 1 1000 x)), .int (nI (ag_clamp 2 16 y)), .long (lN 0), .long (lN 0), .int (nI 1), .ref qn, .ref qk, .int (nI 1), .long (lN 0), .long (lN 0), .long (lN 0)])), (qn, .inl (cI, 1200, .inl (fun _ => 0))), (qk, .inl (cI, 1200, .inl (fun _ => 0)))] := hD
        refine W.widen (k := 2) (n := 2400) (by decide) (by decide) ?_
        exact ag_retv hx hb hr hlocks (qn, qk, fun _ => 0, fun _ => 0) (fun j hj => ag_rpm0 j hj) hP hK hD hS d_M_init_84
    · have h_n := trivial
      refine ag_iconst hx hb 2 d_M_init_65 (by decide) ?_
      refine lv_goto (tgt := 81) hx hb d_M_init_66 (by decide) ?_
      refine ag_topi (nI (ag_clamp 2 16 y)) (congrArg nI (ag_clampA c62)) ?_
      refine va_putF (D := (dC, dI)) (ci := 2) (v := .int (nI (ag_clamp 2 16 y))) (ty := .int) (C := RX2) (T := TX2) (N := 12) hx hb ht inA2 tyX2 tyX2_ok nmX2 hown hK hP hD hS 0 rfl rfl 2 (by decide) (ht _ mw_f_M_26) (fun _ h9 => h9) rfl hnm rfl (by decide +kernel) rfl rfl (Nat.le_of_ble_eq_true rfl) d_M_init_81 (fun H locs hP hD hS => ?_)
      have hP : va_P (dC, dI) agCl [(b, .inr (2, [.int (nI 0), .int (nI (ag_clamp 1 1000 x)), .int (nI (ag_clamp 2 16 y)), .long (lN 0), .long (lN 0), .int (nI 1), .ref qn, .ref qk, .int (nI 1), .long (lN 0), .long (lN 0), .long (lN 0)])), (qn, .inl (cI, 1200, .inl (fun _ => 0))), (qk, .inl (cI, 1200, .inl (fun _ => 0)))] H := hP
      have hD : va_D A [(b, .inr (2, [.int (nI 0), .int (nI (ag_clamp 1 1000 x)), .int (nI (ag_clamp 2 16 y)), .long (lN 0), .long (lN 0), .int (nI 1), .ref qn, .ref qk, .int (nI 1), .long (lN 0), .long (lN 0), .long (lN 0)])), (qn, .inl (cI, 1200, .inl (fun _ => 0))), (qk, .inl (cI, 1200, .inl (fun _ => 0)))] := hD
      refine W.widen (k := 2) (n := 2400) (by decide) (by decide) ?_
      exact ag_retv hx hb hr hlocks (qn, qk, fun _ => 0, fun _ => 0) (fun j hj => ag_rpm0 j hj) hP hK hD hS d_M_init_84
