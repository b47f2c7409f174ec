section AgBc
/-- the count of bits as Long.bitCount computes it -/
def ag_us (x : Int64) (k : Int32) : Int64 := (x.toUInt64 >>> (k.toInt64.toUInt64 &&& Int64.toUInt64 63)).toInt64
def ag_bc (x : Int64) : Int32 :=
  let i1 := x - (ag_us x 1 &&& 6148914691236517205)
  let i2 := (i1 &&& 3689348814741910323) + (ag_us i1 2 &&& 3689348814741910323)
  let i3 := (i2 + ag_us i2 4) &&& 1085102592571150095
  let i4 := i3 + ag_us i3 8
  let i5 := i4 + ag_us i4 16
  let i6 := i5 + ag_us i5 32
  i6.toInt32 &&& 127
theorem ag_bc_pow : ∀ k, k < 64 → ag_bc (lN (2 ^ k) - lN 1) = nI k := by decide +kernel
theorem ag_shl1 : ∀ k, k < 64 → lN 1 <<< ((nI k).toInt64 &&& 63) = lN (2 ^ k) := by decide +kernel
end AgBc

set_option maxHeartbeats 4000000 in
set_option maxRecDepth 100000 in
/-- Long.bitCount: the answer is ag_bc -/
theorem c_B_bitCount (l : Launch) (dC : Nat → ClassId) (dI : Nat → Nat → Nat) (sz : Nat) (x : Int64)  : Met l y_B_bitCount (Cond.code y_B_bitCount b_B_bitCount 2 (some .int) :: agW) ({ frames := 0, cells := 0, slots := 0, locals := 0 }) (va_Pc [.long x] (ag_at (dC, dI) agCl [] sz [])) (va_Qi (fun (r : Int32) (_ : Unit) => r = ag_bc x) (ag_to (dC, dI) agCl [] (va_A [] sz) (fun _ : Unit => ([] : va_W))) (va_A [] sz)) 0 0 (va_A [] sz) := by
  refine ag_ofW (Qf := fun A => va_Qi (fun (r : Int32) (_ : Unit) => r = ag_bc x) (ag_to (dC, dI) agCl [] A (fun _ : Unit => ([] : va_W))) A) (cc := b_B_bitCount) (maxL := 2) (ret := (some .int)) (lv := [(0, .long x)]) (by decide) rfl (Nat.le_of_ble_eq_true rfl) rfl (fun p e s m below meth c A ls hx hb hr hts hown hlocks hml hnm hA hS hP hK hD hl hsz => ?_)
  have hown : s.vm.findClass "java/lang/Long" = some m.cls := hown
  have ht : ∀ w ∈ agW, w.before [.long x].toArray s = true := fun w h => hts w (List.mem_cons_of_mem _ h)
  refine lv_lload_n hx hb d_B_bitCount_0 rfl (lv_at hl 0 rfl) ?_
  refine lv_lload_n hx hb d_B_bitCount_1 rfl (lv_at hl 0 rfl) ?_
  refine ag_iconst hx hb 1 d_B_bitCount_2 (by decide) ?_
  refine lv_lushr (v := (x.toUInt64 >>> ((nI 1).toInt64.toUInt64 &&& Int64.toUInt64 63)).toInt64) hx hb d_B_bitCount_3 (rfl) ?_
  refine lv_ldc2 (v := lN 6148914691236517205) hx hb hown (ht _ mw_k_B_314) d_B_bitCount_4 ?_
  refine lv_land hx hb d_B_bitCount_7 ?_
  refine lv_lsub hx hb d_B_bitCount_8 ?_
  refine lv_topl (fun x1 ex1 => ?_)
  refine lv_lstore_n (lv' := [(0, .long x1)]) hx hb d_B_bitCount_9 rfl hl (by decide) rfl (fun ls hl => ?_)
  refine lv_lload_n hx hb d_B_bitCount_10 rfl (lv_at hl 0 rfl) ?_
  refine lv_ldc2 (v := lN 3689348814741910323) hx hb hown (ht _ mw_k_B_316) d_B_bitCount_11 ?_
  refine lv_land hx hb d_B_bitCount_14 ?_
  refine lv_lload_n hx hb d_B_bitCount_15 rfl (lv_at hl 0 rfl) ?_
  refine ag_iconst hx hb 2 d_B_bitCount_16 (by decide) ?_
  refine lv_lushr (v := (x1.toUInt64 >>> ((nI 2).toInt64.toUInt64 &&& Int64.toUInt64 63)).toInt64) hx hb d_B_bitCount_17 (rfl) ?_
  refine lv_ldc2 (v := lN 3689348814741910323) hx hb hown (ht _ mw_k_B_316) d_B_bitCount_18 ?_
  refine lv_land hx hb d_B_bitCount_21 ?_
  refine lv_ladd hx hb d_B_bitCount_22 ?_
  refine lv_topl (fun x2 ex2 => ?_)
  refine lv_lstore_n (lv' := [(0, .long x2)]) hx hb d_B_bitCount_23 rfl hl (by decide) rfl (fun ls hl => ?_)
  refine lv_lload_n hx hb d_B_bitCount_24 rfl (lv_at hl 0 rfl) ?_
  refine lv_lload_n hx hb d_B_bitCount_25 rfl (lv_at hl 0 rfl) ?_
  refine ag_iconst hx hb 4 d_B_bitCount_26 (by decide) ?_
  refine lv_lushr (v := (x2.toUInt64 >>> ((nI 4).toInt64.toUInt64 &&& Int64.toUInt64 63)).toInt64) hx hb d_B_bitCount_27 (rfl) ?_
  refine lv_ladd hx hb d_B_bitCount_28 ?_
  refine lv_ldc2 (v := lN 1085102592571150095) hx hb hown (ht _ mw_k_B_318) d_B_bitCount_29 ?_
  refine lv_land hx hb d_B_bitCount_32 ?_
  refine lv_topl (fun x3 ex3 => ?_)
  refine lv_lstore_n (lv' := [(0, .long x3)]) hx hb d_B_bitCount_33 rfl hl (by decide) rfl (fun ls hl => ?_)
  refine lv_lload_n hx hb d_B_bitCount_34 rfl (lv_at hl 0 rfl) ?_
  refine lv_lload_n hx hb d_B_bitCount_35 rfl (lv_at hl 0 rfl) ?_
  refine ag_bipush hx hb 8 d_B_bitCount_36 (by decide) ?_
  refine lv_lushr (v := (x3.toUInt64 >>> ((nI 8).toInt64.toUInt64 &&& Int64.toUInt64 63)).toInt64) hx hb d_B_bitCount_38 (rfl) ?_
  refine lv_ladd hx hb d_B_bitCount_39 ?_
  refine lv_topl (fun x4 ex4 => ?_)
  refine lv_lstore_n (lv' := [(0, .long x4)]) hx hb d_B_bitCount_40 rfl hl (by decide) rfl (fun ls hl => ?_)
  refine lv_lload_n hx hb d_B_bitCount_41 rfl (lv_at hl 0 rfl) ?_
  refine lv_lload_n hx hb d_B_bitCount_42 rfl (lv_at hl 0 rfl) ?_
  refine ag_bipush hx hb 16 d_B_bitCount_43 (by decide) ?_
  refine lv_lushr (v := (x4.toUInt64 >>> ((nI 16).toInt64.toUInt64 &&& Int64.toUInt64 63)).toInt64) hx hb d_B_bitCount_45 (rfl) ?_
  refine lv_ladd hx hb d_B_bitCount_46 ?_
  refine lv_topl (fun x5 ex5 => ?_)
  refine lv_lstore_n (lv' := [(0, .long x5)]) hx hb d_B_bitCount_47 rfl hl (by decide) rfl (fun ls hl => ?_)
  refine lv_lload_n hx hb d_B_bitCount_48 rfl (lv_at hl 0 rfl) ?_
  refine lv_lload_n hx hb d_B_bitCount_49 rfl (lv_at hl 0 rfl) ?_
  refine ag_bipush hx hb 32 d_B_bitCount_50 (by decide) ?_
  refine lv_lushr (v := (x5.toUInt64 >>> ((nI 32).toInt64.toUInt64 &&& Int64.toUInt64 63)).toInt64) hx hb d_B_bitCount_52 (rfl) ?_
  refine lv_ladd hx hb d_B_bitCount_53 ?_
  refine lv_topl (fun x6 ex6 => ?_)
  refine lv_lstore_n (lv' := [(0, .long x6)]) hx hb d_B_bitCount_54 rfl hl (by decide) rfl (fun ls hl => ?_)
  refine lv_lload_n hx hb d_B_bitCount_55 rfl (lv_at hl 0 rfl) ?_
  refine lv_l2i (v := x6.toInt32) hx hb d_B_bitCount_56 (rfl) ?_
  refine ag_bipush hx hb 127 d_B_bitCount_57 (by decide) ?_
  refine lv_iand hx hb d_B_bitCount_59 ?_
  exact ag_reti hx hb hr hlocks () (by subst ex1 ex2 ex3 ex4 ex5 ex6; rfl) hP hK hD hS d_B_bitCount_60

set_option maxHeartbeats 4000000 in
set_option maxRecDepth 100000 in
/-- Slots.release(k): the bit k is cleared -/
theorem c_S_release (l : Launch) (dC : Nat → ClassId) (dI : Nat → Nat → Nat) (sz : Nat) (qt qw : Nat) (cJ : ClassId) (w : Nat → Int64) (k : Nat) (hk : k < 320) : Met l y_S_release (Cond.code y_S_release b_S_release 2 none :: agW) ({ frames := 0, cells := 0, slots := 0, locals := 0 }) (va_Pc [.ref qt, .int (nI k)] (ag_at (dC, dI) agCl [(cJ, .long)] sz [(qt, .inr (0, [.ref qw])), (qw, .inl (cJ, 5, .inr (.inl w)))])) (va_Qv (fun u : Nat → Int64 => ∀ j, ag_bt u j = (ag_bt w j && decide (j ≠ k))) (ag_to (dC, dI) agCl [(cJ, .long)] (va_A [(qt, .inr (0, [.ref qw])), (qw, .inl (cJ, 5, .inr (.inl w)))] sz) (fun u : Nat → Int64 => [(qt, .inr (0, [.ref qw])), (qw, .inl (cJ, 5, .inr (.inl u)))])) (va_A [(qt, .inr (0, [.ref qw])), (qw, .inl (cJ, 5, .inr (.inl w)))] sz)) 0 0 (va_A [(qt, .inr (0, [.ref qw])), (qw, .inl (cJ, 5, .inr (.inl w)))] sz) := by
  refine ag_ofW (Qf := fun A => va_Qv (fun u : Nat → Int64 => ∀ j, ag_bt u j = (ag_bt w j && decide (j ≠ k))) (ag_to (dC, dI) agCl [(cJ, .long)] A (fun u : Nat → Int64 => [(qt, .inr (0, [.ref qw])), (qw, .inl (cJ, 5, .inr (.inl u)))])) A) (cc := b_S_release) (maxL := 2) (ret := none) (lv := [(0, .ref qt), (1, .int (nI k))]) (by decide) rfl (Nat.le_of_ble_eq_true rfl) rfl (fun p e s m below meth c A ls hx hb hr hts hown hlocks hml hnm hA hS hP hK hD hl hsz => ?_)
  have hown : s.vm.findClass "AgedMarks$Slots" = some m.cls := hown
  have ht : ∀ w ∈ agW, w.before [.ref qt, .int (nI k)].toArray s = true := fun w h => hts w (List.mem_cons_of_mem _ h)
  refine lv_iload_n hx hb d_S_release_0 rfl (lv_at hl 1 rfl) ?_
  refine ag_if_lt (tgt := 33) hx hb d_S_release_1 (by decide) (by omega) ?_
  refine lv_iload_n hx hb d_S_release_4 rfl (lv_at hl 1 rfl) ?_
  refine ag_sipush hx hb 320 d_S_release_5 (by decide) ?_
  refine ag_icmp_ge (tgt := 33) hx hb d_S_release_8 (by decide) (by omega) (by omega) (fun c8 => ?_) (fun c8 => ?_)
  · have h_n := trivial
    exact absurd c8 (by omega)
  · have h_n := trivial
    refine lv_aload_n hx hb d_S_release_11 rfl (lv_at hl 0 rfl) ?_
    refine va_get (D := (dC, dI)) (ci := 0) (v := .ref qw) (C := RX0) (T := TX0) (N := 1) hx hb ht inA0 hown hK hP 0 rfl rfl 0 (by decide) (ht _ mw_f_S_9) (fun _ h9 => h9) rfl d_S_release_12 ?_
    refine lv_iload_n hx hb d_S_release_15 rfl (lv_at hl 1 rfl) ?_
    refine ag_bipush hx hb 64 d_S_release_16 (by decide) ?_
    refine lv_idiv hx hb d_S_release_18 (nI_ne0 (by omega) (by omega)) ?_
    refine ag_topi (nI (k / 64)) (pk_div (by omega) (by omega) (by omega)) ?_
    refine lv_dup2_11 hx hb d_S_release_19 rfl rfl ?_
    refine ag_lald hx hb hK hP 1 0 rfl rfl (by omega) (by decide) d_S_release_20 ?_
    refine ag_lconst hx hb 1 d_S_release_21 (by decide) ?_
    refine lv_iload_n hx hb d_S_release_22 rfl (lv_at hl 1 rfl) ?_
    refine ag_bipush hx hb 64 d_S_release_23 (by decide) ?_
    refine lv_irem hx hb d_S_release_25 (nI_ne0 (by omega) (by omega)) ?_
    refine ag_topi (nI (k % 64)) (pk_rem (by omega) (by omega) (by omega)) ?_
    refine lv_lshl (v := lN (2 ^ (k % 64))) hx hb d_S_release_26 (ag_shl1 (k % 64) (by omega)) ?_
    refine lv_ldc2 (v := -1) hx hb hown (ht _ mw_k_S_15) d_S_release_27 ?_
    refine lv_lxor hx hb d_S_release_30 ?_
    refine lv_land hx hb d_S_release_31 ?_
    refine ag_last hx hb hK hP hD hS 1 0 rfl rfl (by omega) (by decide) d_S_release_32 (fun H locs hP hD hS => ?_)
    have hP : va_P (dC, dI) agCl [(qt, .inr (0, [.ref qw])), (qw, .inl (cJ, 5, .inr (.inl (vp_updL w (k / 64) ((w (k / 64)) &&& ((lN (2 ^ (k % 64))) ^^^ (-1)))))))] H := hP
    have hD : va_D A [(qt, .inr (0, [.ref qw])), (qw, .inl (cJ, 5, .inr (.inl (vp_updL w (k / 64) ((w (k / 64)) &&& ((lN (2 ^ (k % 64))) ^^^ (-1)))))))] := hD
    exact ag_retv hx hb hr hlocks (vp_updL w (k / 64) (w (k / 64) &&& (lN (2 ^ (k % 64)) ^^^ -1))) (fun j => by rw [ag_bt_clr (by omega), show 64 * (k / 64) + k % 64 = k by omega]) hP hK hD hS d_S_release_33

set_option maxHeartbeats 4000000 in
set_option maxRecDepth 100000 in
/-- Slots.takeLeast(): the least bit that is free is taken -/
theorem c_S_takeLeast (l : Launch) (dC : Nat → ClassId) (dI : Nat → Nat → Nat) (sz : Nat) (qt qw : Nat) (cJ : ClassId) (w : Nat → Int64) (K : Nat) (hK9 : K < 320) (h0 : ag_bt w K = false) (h1 : ∀ j, j < K → ag_bt w j = true) : Met l y_S_takeLeast (Cond.code y_S_takeLeast b_S_takeLeast 6 (some .int) :: agW) ({ frames := 1, cells := 0, slots := 0, locals := 24 }) (va_Pc [.ref qt] (ag_at (dC, dI) agCl [(cJ, .long)] sz [(qt, .inr (0, [.ref qw])), (qw, .inl (cJ, 5, .inr (.inl w)))])) (va_Qi (fun (r : Int32) (u : Nat → Int64) => r = nI K ∧ ∀ j, ag_bt u j = (ag_bt w j || decide (j = K))) (ag_to (dC, dI) agCl [(cJ, .long)] (va_A [(qt, .inr (0, [.ref qw])), (qw, .inl (cJ, 5, .inr (.inl w)))] sz) (fun u : Nat → Int64 => [(qt, .inr (0, [.ref qw])), (qw, .inl (cJ, 5, .inr (.inl u)))])) (va_A [(qt, .inr (0, [.ref qw])), (qw, .inl (cJ, 5, .inr (.inl w)))] sz)) 0 0 (va_A [(qt, .inr (0, [.ref qw])), (qw, .inl (cJ, 5, .inr (.inl w)))] sz) := by
  refine ag_ofW (Qf := fun A => va_Qi (fun (r : Int32) (u : Nat → Int64) => r = nI K ∧ ∀ j, ag_bt u j = (ag_bt w j || decide (j = K))) (ag_to (dC, dI) agCl [(cJ, .long)] A (fun u : Nat → Int64 => [(qt, .inr (0, [.ref qw])), (qw, .inl (cJ, 5, .inr (.inl u)))])) A) (cc := b_S_takeLeast) (maxL := 6) (ret := (some .int)) (lv := [(0, .ref qt)]) (by decide) rfl (Nat.le_of_ble_eq_true rfl) rfl (fun p e s m below meth c A ls hx hb hr hts hown hlocks hml hnm hA hS hP hK hD hl hsz => ?_)
  have hown : s.vm.findClass "AgedMarks$Slots" = some m.cls := hown
  have ht : ∀ w ∈ agW, w.before [.ref qt].toArray s = true := fun w h => hts w (List.mem_cons_of_mem _ h)
  refine ag_iconst hx hb 0 d_S_takeLeast_0 (by decide) ?_
  refine lv_istore_n (lv' := [(1, .int (nI 0)), (0, .ref qt)]) hx hb d_S_takeLeast_1 rfl hl (by decide) rfl (fun ls hl => ?_)
  have loop : ∀ (n i : Nat), 5 < i + n → 64 * i ≤ K → ∀ ls : Array Slot, lv_has ls 6 [(1, .int (nI i)), (0, .ref qt)] → W p l e { frames := 1, cells := 0, slots := 0, locals := 24 } s m [.ref qt].toArray below meth c s.heap [] 0 0 (MQ below (va_Qi (fun (r : Int32) (u : Nat → Int64) => r = nI K ∧ ∀ j, ag_bt u j = (ag_bt w j || decide (j = K))) (ag_to (dC, dI) agCl [(cJ, .long)] A (fun u : Nat → Int64 => [(qt, .inr (0, [.ref qw])), (qw, .inl (cJ, 5, .inr (.inl u)))])) A) [.ref qt].toArray s 0 0 A) (F0 m 2 ls []) := by
    intro n
    induction n with
    | zero => intro i h; omega
    | succ n ih =>
      intro i hn hi ls hl
      refine lv_iload_n hx hb d_S_takeLeast_2 rfl (lv_at hl 0 rfl) ?_
      refine ag_iconst hx hb 5 d_S_takeLeast_3 (by decide) ?_
      refine ag_icmp_ge (tgt := 60) hx hb d_S_takeLeast_4 (by decide) (by omega) (by omega) (fun c4 => ?_) (fun c4 => ?_)
      · have h_n := trivial
        exact absurd c4 (by omega)
      · have h_n := trivial
        refine lv_aload_n hx hb d_S_takeLeast_7 rfl (lv_at hl 1 rfl) ?_
        refine va_get (D := (dC, dI)) (ci := 0) (v := .ref qw) (C := RX0) (T := TX0) (N := 1) hx hb ht inA0 hown hK hP 0 rfl rfl 0 (by decide) (ht _ mw_f_S_9) (fun _ h9 => h9) rfl d_S_takeLeast_8 ?_
        refine lv_iload_n hx hb d_S_takeLeast_11 rfl (lv_at hl 0 rfl) ?_
        refine ag_lald hx hb hK hP 1 0 rfl rfl (by omega) (by decide) d_S_takeLeast_12 ?_
        refine lv_ldc2 (v := -1) hx hb hown (ht _ mw_k_S_15) d_S_takeLeast_13 ?_
        refine lv_lxor hx hb d_S_takeLeast_16 ?_
        refine lv_lstore_n (lv' := [(2, .long ((w i) ^^^ (-1))), (1, .int (nI i)), (0, .ref qt)]) hx hb d_S_takeLeast_17 rfl hl (by decide) rfl (fun ls hl => ?_)
        refine lv_lload_n hx hb d_S_takeLeast_18 rfl (lv_at hl 0 rfl) ?_
        refine ag_lconst hx hb 0 d_S_takeLeast_19 (by decide) ?_
        refine ag_lc_eq (tgt := 54) hx hb d_S_takeLeast_20 d_S_takeLeast_21 (by decide) (fun c20 => ?_) (fun c20 => ?_)
        · have h_n := trivial
          have hf : ∀ j, j < 64 → (w i).toBitVec.getLsbD j = true := fun j hj => ag_full c20 hj
          have hi2 : 64 * (i + 1) ≤ K := by
            rcases Nat.lt_or_ge K (64 * (i + 1)) with q | q
            · have h2 := hf (K % 64) (by omega)
              unfold ag_bt at h0
              rw [show K / 64 = i by omega, h2] at h0
              cases h0
            · exact q
          refine lv_iinc (v := nI (i + 1)) (lv' := [(1, .int (nI (i + 1))), (2, .long ((w i) ^^^ (-1))), (0, .ref qt)]) hx hb d_S_takeLeast_54 hl (k := 1) rfl (nI_1 _) (by decide) rfl (fun ls hl => ?_)
          refine lv_goto (tgt := 2) hx hb d_S_takeLeast_57 (by decide) ?_
          exact ih (i + 1) (by omega) hi2 ls (lv_sub hl [0, 2] rfl)
        · have h_n := trivial
          obtain ⟨j, hj, b1, b2, b3⟩ := ag_free c20
          have hb1 : ag_bt w (64 * i + j) = false := by unfold ag_bt; rw [show (64 * i + j) / 64 = i by omega, show (64 * i + j) % 64 = j by omega]; exact b1
          have hb2 : ∀ q, q < j → ag_bt w (64 * i + q) = true := fun q hq => by unfold ag_bt; rw [show (64 * i + q) / 64 = i by omega, show (64 * i + q) % 64 = q by omega]; exact b2 q hq
          have hKe : K = 64 * i + j := by
            rcases Nat.lt_trichotomy K (64 * i + j) with q | q | q
            · have h2 := hb2 (K - 64 * i) (by omega)
              rw [show 64 * i + (K - 64 * i) = K by omega, h0] at h2
              cases h2
            · exact q
            · have h2 := h1 _ q
              rw [hb1] at h2
              cases h2
          refine lv_lload_n hx hb d_S_takeLeast_24 rfl (lv_at hl 0 rfl) ?_
          refine lv_lload_n hx hb d_S_takeLeast_25 rfl (lv_at hl 0 rfl) ?_
          refine lv_lneg hx hb d_S_takeLeast_26 ?_
          refine lv_land hx hb d_S_takeLeast_27 ?_
          refine ag_topl (lN (2 ^ j)) b3 ?_
          refine lv_lstore (lv' := [(4, .long (lN (2 ^ j))), (2, .long ((w i) ^^^ (-1))), (1, .int (nI i)), (0, .ref qt)]) hx hb d_S_takeLeast_28 hl (by decide) rfl (fun ls hl => ?_)
          refine lv_aload_n hx hb d_S_takeLeast_30 rfl (lv_at hl 3 rfl) ?_
          refine va_get (D := (dC, dI)) (ci := 0) (v := .ref qw) (C := RX0) (T := TX0) (N := 1) hx hb ht inA0 hown hK hP 0 rfl rfl 0 (by decide) (ht _ mw_f_S_9) (fun _ h9 => h9) rfl d_S_takeLeast_31 ?_
          refine lv_iload_n hx hb d_S_takeLeast_34 rfl (lv_at hl 2 rfl) ?_
          refine lv_dup2_11 hx hb d_S_takeLeast_35 rfl rfl ?_
          refine ag_lald hx hb hK hP 1 0 rfl rfl (by omega) (by decide) d_S_takeLeast_36 ?_
          refine lv_lload hx hb d_S_takeLeast_37 (lv_at hl 0 rfl) ?_
          refine lv_lor hx hb d_S_takeLeast_39 ?_
          refine ag_last hx hb hK hP hD hS 1 0 rfl rfl (by omega) (by decide) d_S_takeLeast_40 (fun H locs hP hD hS => ?_)
          have hP : va_P (dC, dI) agCl [(qt, .inr (0, [.ref qw])), (qw, .inl (cJ, 5, .inr (.inl (vp_updL w i ((w i) ||| (lN (2 ^ j)))))))] H := hP
          have hD : va_D A [(qt, .inr (0, [.ref qw])), (qw, .inl (cJ, 5, .inr (.inl (vp_updL w i ((w i) ||| (lN (2 ^ j)))))))] := hD
          refine lv_iload_n hx hb d_S_takeLeast_41 rfl (lv_at hl 2 rfl) ?_
          refine ag_bipush hx hb 64 d_S_takeLeast_42 (by decide) ?_
          refine lv_imul hx hb d_S_takeLeast_44 ?_
          refine ag_topi (nI (i * 64)) (pk_mul _ _) ?_
          refine lv_lload hx hb d_S_takeLeast_45 (lv_at hl 0 rfl) ?_
          refine ag_lconst hx hb 1 d_S_takeLeast_47 (by decide) ?_
          refine lv_lsub hx hb d_S_takeLeast_48 ?_
          refine ag_topl (lN (2 ^ j) - lN 1) rfl ?_
          have hPc := hP.sub (ws' := []) [] rfl
          have hDc := hD.sub (ws' := []) [] (by decide) rfl
          have hKc := hK.sub (tys' := []) [] rfl
          refine ag_cli (wc := []) (wr := [(qt, .inr (0, [.ref qw])), (qw, .inl (cJ, 5, .inr (.inl (vp_updL w i ((w i) ||| (lN (2 ^ j)))))))]) (Wf := fun _ : Unit => ([] : va_W)) hP hD hS hA [] [0, 1] rfl rfl (by decide) (by decide) (va_runS (As := [.long (lN (2 ^ j) - lN 1)]) (rest := [.int (nI (i * 64))]) ⟨hx, hb, hml, hown, hts⟩ (c_B_bitCount l dC dI H.size (lN (2 ^ j) - lN 1)) (ag_cwS 1 hts mw_m_S_17 mw_static_B_bitCount mw_ini_B mw_code_B_bitCount rfl rfl (by decide +kernel) ⟨Nat.le_of_ble_eq_true rfl, Nat.le_of_ble_eq_true rfl⟩) ⟨ag_blind, ag_pre hPc hKc hDc⟩ rfl rfl hl.1 rfl (lv_room (Nat.le_of_ble_eq_true rfl)) d_S_takeLeast_49 ⟨Nat.le_of_ble_eq_true rfl, Nat.le_of_ble_eq_true rfl⟩) (fun r1 u H locs hw hP hD hS => ?_)
          try dsimp only at hw
          rw [ag_bc_pow j hj] at hw
          subst hw
          have hP : va_P (dC, dI) agCl [(qt, .inr (0, [.ref qw])), (qw, .inl (cJ, 5, .inr (.inl (vp_updL w i ((w i) ||| (lN (2 ^ j)))))))] H := hP
          have hD : va_D A [(qt, .inr (0, [.ref qw])), (qw, .inl (cJ, 5, .inr (.inl (vp_updL w i ((w i) ||| (lN (2 ^ j)))))))] := hD
          refine lv_iadd hx hb d_S_takeLeast_52 ?_
          refine ag_topi (nI ((i * 64) + j)) (nI_add _ _) ?_
          exact ag_reti hx hb hr hlocks (vp_updL w i (w i ||| lN (2 ^ j))) (⟨by rw [hKe, Nat.mul_comm], fun q => by rw [ag_bt_set hj, hKe]⟩) hP hK hD hS d_S_takeLeast_53
  exact loop 6 0 (by omega) (by omega) ls hl
