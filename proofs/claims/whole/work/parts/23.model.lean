set_option maxHeartbeats 4000000 in
set_option maxRecDepth 100000 in
/-- stays(i, n) -/
theorem c_M_stays (l : Launch) (dC : Nat → ClassId) (dI : Nat → Nat → Nat) (sz : Nat) (b qn qk : Nat) (cI : ClassId) (cd G R en nw mo la go sp : Nat) (f g : Nat → Int32) (ms : ag_M) (i n : Nat) (hR2 : 2 ≤ R) (hR16 : R ≤ 16) (hi : i ≤ n) (hn : n ≤ 1000000) : Met l y_M_stays (Cond.code y_M_stays b_M_stays 4 (some .boolean) :: agW) ({ frames := 0, cells := 0, slots := 0, locals := 0 }) (va_Pc [.ref b, .int (nI i), .int (nI n)] (ag_at (dC, dI) agCl [(cI, .int)] sz [(b, .inr (2, [.int (nI cd), .int (nI G), .int (nI R), .long (lN en), .long (lN nw), .int (nI ms.length), .ref qn, .ref qk, .int (nI mo), .long (lN la), .long (lN go), .long (lN sp)])), (qn, .inl (cI, 1200, .inl f)), (qk, .inl (cI, 1200, .inl g))])) (va_Qi (fun (r : Int32) (_ : Unit) => (ag_keep R n i ∧ r = nI 1) ∨ (¬ ag_keep R n i ∧ r = nI 0)) (ag_to (dC, dI) agCl [(cI, .int)] (va_A [(b, .inr (2, [.int (nI cd), .int (nI G), .int (nI R), .long (lN en), .long (lN nw), .int (nI ms.length), .ref qn, .ref qk, .int (nI mo), .long (lN la), .long (lN go), .long (lN sp)])), (qn, .inl (cI, 1200, .inl f)), (qk, .inl (cI, 1200, .inl g))] sz) (fun _ : Unit => [(b, .inr (2, [.int (nI cd), .int (nI G), .int (nI R), .long (lN en), .long (lN nw), .int (nI ms.length), .ref qn, .ref qk, .int (nI mo), .long (lN la), .long (lN go), .long (lN sp)])), (qn, .inl (cI, 1200, .inl f)), (qk, .inl (cI, 1200, .inl g))])) (va_A [(b, .inr (2, [.int (nI cd), .int (nI G), .int (nI R), .long (lN en), .long (lN nw), .int (nI ms.length), .ref qn, .ref qk, .int (nI mo), .long (lN la), .long (lN go), .long (lN sp)])), (qn, .inl (cI, 1200, .inl f)), (qk, .inl (cI, 1200, .inl g))] sz)) 0 0 (va_A [(b, .inr (2, [.int (nI cd), .int (nI G), .int (nI R), .long (lN en), .long (lN nw), .int (nI ms.length), .ref qn, .ref qk, .int (nI mo), .long (lN la), .long (lN go), .long (lN sp)])), (qn, .inl (cI, 1200, .inl f)), (qk, .inl (cI, 1200, .inl g))] sz) := by
  refine ag_ofW (Qf := fun A => va_Qi (fun (r : Int32) (_ : Unit) => (ag_keep R n i ∧ r = nI 1) ∨ (¬ ag_keep R n i ∧ r = nI 0)) (ag_to (dC, dI) agCl [(cI, .int)] A (fun _ : Unit => [(b, .inr (2, [.int (nI cd), .int (nI G), .int (nI R), .long (lN en), .long (lN nw), .int (nI ms.length), .ref qn, .ref qk, .int (nI mo), .long (lN la), .long (lN go), .long (lN sp)])), (qn, .inl (cI, 1200, .inl f)), (qk, .inl (cI, 1200, .inl g))])) A) (cc := b_M_stays) (maxL := 4) (ret := (some .boolean)) (lv := [(0, .ref b), (1, .int (nI i)), (2, .int (nI n))]) (by decide) rfl (Nat.le_of_ble_eq_true rfl) rfl (fun p e s m below meth c A ls hx hb hr hts hown hlocks hml hnm hA hS hP hK hD hl hsz => ?_)
  have hown : s.vm.findClass "AgedMarksModel" = some m.cls := hown
  have ht : ∀ w ∈ agW, w.before [.ref b, .int (nI i), .int (nI n)].toArray s = true := fun w h => hts w (List.mem_cons_of_mem _ h)
  refine ag_iconst hx hb 1 d_M_stays_0 (by decide) ?_
  refine lv_istore_n (lv' := [(3, .int (nI 1)), (0, .ref b), (1, .int (nI i)), (2, .int (nI n))]) hx hb d_M_stays_1 rfl hl (by decide) rfl (fun ls hl => ?_)
  have loop : ∀ (q t : Nat), n + 1 < 2 ^ t + q → (t = 0 ∨ R * 2 ^ t ≤ n - i) → ∀ ls : Array Slot, lv_has ls 4 [(3, .int (nI (2 ^ t))), (0, .ref b), (1, .int (nI i)), (2, .int (nI n))] → W p l e { frames := 0, cells := 0, slots := 0, locals := 0 } s m [.ref b, .int (nI i), .int (nI n)].toArray below meth c s.heap [] 0 0 (MQ below (va_Qi (fun (r : Int32) (_ : Unit) => (ag_keep R n i ∧ r = nI 1) ∨ (¬ ag_keep R n i ∧ r = nI 0)) (ag_to (dC, dI) agCl [(cI, .int)] A (fun _ : Unit => [(b, .inr (2, [.int (nI cd), .int (nI G), .int (nI R), .long (lN en), .long (lN nw), .int (nI ms.length), .ref qn, .ref qk, .int (nI mo), .long (lN la), .long (lN go), .long (lN sp)])), (qn, .inl (cI, 1200, .inl f)), (qk, .inl (cI, 1200, .inl g))])) A) [.ref b, .int (nI i), .int (nI n)].toArray s 0 0 A) (F0 m 2 ls []) := by
    intro q
    induction q with
    | zero =>
      intro t h1 h2
      rcases h2 with rfl | h2
      · simp at h1
      · have h3 := Nat.mul_le_mul_right (2 ^ t) hR2
        omega
    | succ q ih =>
      intro t h1 h2 ls hl
      have hp := Nat.two_pow_pos t
      have htn : 2 ^ t ≤ 1000000 := by
        rcases h2 with rfl | h2
        · decide
        · have h3 := Nat.mul_le_mul_right (2 ^ t) hR2
          omega
      have hRt : R * 2 ^ t ≤ 16 * 2 ^ t := Nat.mul_le_mul_right _ hR16
      refine lv_aload_n hx hb d_M_stays_2 rfl (lv_at hl 1 rfl) ?_
      refine va_get (D := (dC, dI)) (ci := 2) (v := .int (nI R)) (C := RX2) (T := TX2) (N := 12) hx hb ht inA2 hown hK hP 0 rfl rfl 2 (by decide) (ht _ mw_f_M_26) (fun _ h9 => h9) rfl d_M_stays_3 ?_
      refine lv_i2l (v := lN R) hx hb d_M_stays_6 (nI_l (by omega)) ?_
      refine lv_iload_n hx hb d_M_stays_7 rfl (lv_at hl 0 rfl) ?_
      refine lv_i2l (v := lN (2 ^ t)) hx hb d_M_stays_8 (nI_l (by omega)) ?_
      refine lv_lmul hx hb d_M_stays_9 ?_
      refine ag_topl (lN (R * (2 ^ t))) (lN_mul _ _) ?_
      refine lv_ldc2 (v := lN 2) hx hb hown (ht _ mw_k_M_32) d_M_stays_10 ?_
      refine lv_lmul hx hb d_M_stays_13 ?_
      refine ag_topl (lN ((R * (2 ^ t)) * 2)) (lN_mul _ _) ?_
      refine lv_iload_n hx hb d_M_stays_14 rfl (lv_at hl 3 rfl) ?_
      refine lv_iload_n hx hb d_M_stays_15 rfl (lv_at hl 2 rfl) ?_
      refine lv_isub hx hb d_M_stays_16 ?_
      refine ag_topi (nI (n - i)) (pk_sub (by omega)) ?_
      refine lv_i2l (v := lN (n - i)) hx hb d_M_stays_17 (nI_l (by omega)) ?_
      refine ag_lc_gt (tgt := 29) hx hb d_M_stays_18 d_M_stays_19 (by decide) (fun c18 => ?_) (fun c18 => ?_)
      · have h_n := trivial
        have hgt9 : n - i < R * 2 ^ t * 2 := (pk_lLT (a := n - i) (b := R * 2 ^ t * 2) (by omega) (by omega)).mp c18
        have hiff : ag_keep R n i ↔ i % 2 ^ t = 0 := by
          constructor
          · intro h
            rcases h2 with rfl | h2
            · simp [Nat.mod_one]
            · exact Nat.mod_eq_zero_of_dvd (h t h2)
          · intro h j hj
            refine Nat.dvd_trans (Nat.pow_dvd_pow 2 ?_) (Nat.dvd_of_mod_eq_zero h)
            rcases Nat.lt_or_ge t j with z | z
            · have h3 := Nat.mul_le_mul_left R (Nat.pow_le_pow_right (n := 2) (by decide) (show t + 1 ≤ j by omega))
              rw [Nat.pow_succ, ← Nat.mul_assoc] at h3
              omega
            · exact z
        have hmod : i % 2 ^ t < 2 ^ t := Nat.mod_lt _ hp
        refine lv_iload_n hx hb d_M_stays_29 rfl (lv_at hl 2 rfl) ?_
        refine lv_iload_n hx hb d_M_stays_30 rfl (lv_at hl 0 rfl) ?_
        refine lv_irem hx hb d_M_stays_31 (nI_ne0 (by omega) (by omega)) ?_
        refine ag_topi (nI (i % 2 ^ t)) (pk_rem (by omega) (by omega) (by omega)) ?_
        refine lv_if_ne (tgt := 39) hx hb d_M_stays_32 (by decide) (fun c32 => ?_) (fun c32 => ?_)
        · have h_n := trivial
          refine ag_iconst hx hb 0 d_M_stays_39 (by decide) ?_
          exact ag_retz hx hb hr (by decide) hlocks () (Or.inr ⟨fun h => c32 (by rw [hiff.mp h]; rfl), rfl⟩) hP hK hD hS d_M_stays_40
        · have h_n := trivial
          refine ag_iconst hx hb 1 d_M_stays_35 (by decide) ?_
          refine lv_goto (tgt := 40) hx hb d_M_stays_36 (by decide) ?_
          exact ag_retz hx hb hr (by decide) hlocks () (Or.inl ⟨hiff.mpr ((nI_eq (a := i % 2 ^ t) (b := 0) (by omega) (by omega)).mp c32), rfl⟩) hP hK hD hS d_M_stays_40
      · have h_n := trivial
        have hle9 : R * 2 ^ t * 2 ≤ n - i := by have h9 := mt (pk_lLT (a := n - i) (b := R * 2 ^ t * 2) (by omega) (by omega)).mpr c18; omega
        refine lv_iload_n hx hb d_M_stays_22 rfl (lv_at hl 0 rfl) ?_
        refine ag_iconst hx hb 2 d_M_stays_23 (by decide) ?_
        refine lv_imul hx hb d_M_stays_24 ?_
        refine ag_topi (nI (2 ^ (t + 1))) (by rw [pk_mul, Nat.pow_succ]) ?_
        refine lv_istore_n (lv' := [(3, .int (nI (2 ^ (t + 1)))), (0, .ref b), (1, .int (nI i)), (2, .int (nI n))]) hx hb d_M_stays_25 rfl hl (by decide) rfl (fun ls hl => ?_)
        refine lv_goto (tgt := 2) hx hb d_M_stays_26 (by decide) ?_
        refine ih (t + 1) (by rw [Nat.pow_succ]; omega) (Or.inr (by rw [Nat.pow_succ, ← Nat.mul_assoc]; exact hle9)) ls hl
  exact loop (n + 1) 0 (by simp) (Or.inl rfl) ls hl

set_option maxHeartbeats 4000000 in
set_option maxRecDepth 100000 in
/-- freeSlot() -/
theorem c_M_freeSlot (l : Launch) (dC : Nat → ClassId) (dI : Nat → Nat → Nat) (sz : Nat) (b qn qk : Nat) (cI : ClassId) (cd G R en nw mo la go sp : Nat) (f g : Nat → Int32) (ms : ag_M) (hbd : ag_bd ms) (hrep : ag_rpm ms f g) : Met l y_M_freeSlot (Cond.code y_M_freeSlot b_M_freeSlot 4 (some .int) :: agW) ({ frames := 0, cells := 0, slots := 0, locals := 0 }) (va_Pc [.ref b] (ag_at (dC, dI) agCl [(cI, .int)] sz [(b, .inr (2, [.int (nI cd), .int (nI G), .int (nI R), .long (lN en), .long (lN nw), .int (nI ms.length), .ref qn, .ref qk, .int (nI mo), .long (lN la), .long (lN go), .long (lN sp)])), (qn, .inl (cI, 1200, .inl f)), (qk, .inl (cI, 1200, .inl g))])) (va_Qi (fun (r : Int32) (_ : Unit) => r = nI (ag_slot ms)) (ag_to (dC, dI) agCl [(cI, .int)] (va_A [(b, .inr (2, [.int (nI cd), .int (nI G), .int (nI R), .long (lN en), .long (lN nw), .int (nI ms.length), .ref qn, .ref qk, .int (nI mo), .long (lN la), .long (lN go), .long (lN sp)])), (qn, .inl (cI, 1200, .inl f)), (qk, .inl (cI, 1200, .inl g))] sz) (fun _ : Unit => [(b, .inr (2, [.int (nI cd), .int (nI G), .int (nI R), .long (lN en), .long (lN nw), .int (nI ms.length), .ref qn, .ref qk, .int (nI mo), .long (lN la), .long (lN go), .long (lN sp)])), (qn, .inl (cI, 1200, .inl f)), (qk, .inl (cI, 1200, .inl g))])) (va_A [(b, .inr (2, [.int (nI cd), .int (nI G), .int (nI R), .long (lN en), .long (lN nw), .int (nI ms.length), .ref qn, .ref qk, .int (nI mo), .long (lN la), .long (lN go), .long (lN sp)])), (qn, .inl (cI, 1200, .inl f)), (qk, .inl (cI, 1200, .inl g))] sz)) 0 0 (va_A [(b, .inr (2, [.int (nI cd), .int (nI G), .int (nI R), .long (lN en), .long (lN nw), .int (nI ms.length), .ref qn, .ref qk, .int (nI mo), .long (lN la), .long (lN go), .long (lN sp)])), (qn, .inl (cI, 1200, .inl f)), (qk, .inl (cI, 1200, .inl g))] sz) := by
  refine ag_ofW (Qf := fun A => va_Qi (fun (r : Int32) (_ : Unit) => r = nI (ag_slot ms)) (ag_to (dC, dI) agCl [(cI, .int)] A (fun _ : Unit => [(b, .inr (2, [.int (nI cd), .int (nI G), .int (nI R), .long (lN en), .long (lN nw), .int (nI ms.length), .ref qn, .ref qk, .int (nI mo), .long (lN la), .long (lN go), .long (lN sp)])), (qn, .inl (cI, 1200, .inl f)), (qk, .inl (cI, 1200, .inl g))])) A) (cc := b_M_freeSlot) (maxL := 4) (ret := (some .int)) (lv := [(0, .ref b)]) (by decide) rfl (Nat.le_of_ble_eq_true rfl) rfl (fun p e s m below meth c A ls hx hb hr hts hown hlocks hml hnm hA hS hP hK hD hl hsz => ?_)
  have hown : s.vm.findClass "AgedMarksModel" = some m.cls := hown
  have ht : ∀ w ∈ agW, w.before [.ref b].toArray s = true := fun w h => hts w (List.mem_cons_of_mem _ h)
  have hlen := hbd.1
  have hsl := ag_slot_le ms
  have hlf := ag_slot_lf ms
  refine ag_iconst hx hb 0 d_M_freeSlot_0 (by decide) ?_
  refine lv_istore_n (lv' := [(1, .int (nI 0)), (0, .ref b)]) hx hb d_M_freeSlot_1 rfl hl (by decide) rfl (fun ls hl => ?_)
  refine ag_iconst hx hb 1 d_M_freeSlot_2 (by decide) ?_
  refine lv_istore_n (lv' := [(2, .int (nI 1)), (1, .int (nI 0)), (0, .ref b)]) hx hb d_M_freeSlot_3 rfl hl (by decide) rfl (fun ls hl => ?_)
  have loop : ∀ (n z : Nat), ag_slot ms + 1 < z + n → z ≤ ag_slot ms + 1 → ∀ ls : Array Slot, lv_has ls 4 [(2, .int (nI (if z ≤ ag_slot ms then 1 else 0))), (1, .int (nI z)), (0, .ref b)] → W p l e { frames := 0, cells := 0, slots := 0, locals := 0 } s m [.ref b].toArray below meth c s.heap [] 0 0 (MQ below (va_Qi (fun (r : Int32) (_ : Unit) => r = nI (ag_slot ms)) (ag_to (dC, dI) agCl [(cI, .int)] A (fun _ : Unit => [(b, .inr (2, [.int (nI cd), .int (nI G), .int (nI R), .long (lN en), .long (lN nw), .int (nI ms.length), .ref qn, .ref qk, .int (nI mo), .long (lN la), .long (lN go), .long (lN sp)])), (qn, .inl (cI, 1200, .inl f)), (qk, .inl (cI, 1200, .inl g))])) A) [.ref b].toArray s 0 0 A) (F0 m 4 ls []) := by
    intro n
    induction n with
    | zero => intro z h1 h2; omega
    | succ n ih =>
      intro z hn hz ls hl
      by_cases hzk : z ≤ ag_slot ms
      · have h_n := trivial
        rw [if_pos hzk] at hl
        refine lv_iload_n hx hb d_M_freeSlot_4 rfl (lv_at hl 0 rfl) ?_
        refine lv_if_eq (tgt := 52) hx hb d_M_freeSlot_5 (by decide) (fun c5 => ?_) (fun c5 => ?_)
        · have h_n := trivial
          exact absurd c5 (by decide)
        · have h_n := trivial
          refine ag_iconst hx hb 0 d_M_freeSlot_8 (by decide) ?_
          refine lv_istore_n (lv' := [(2, .int (nI 0)), (1, .int (nI z)), (0, .ref b)]) hx hb d_M_freeSlot_9 rfl hl (by decide) rfl (fun ls hl => ?_)
          refine ag_iconst hx hb 0 d_M_freeSlot_10 (by decide) ?_
          refine lv_istore_n (lv' := [(3, .int (nI 0)), (2, .int (nI 0)), (1, .int (nI z)), (0, .ref b)]) hx hb d_M_freeSlot_11 rfl hl (by decide) rfl (fun ls hl => ?_)
          have inner : ∀ (q k t : Nat), ms.length < k + q → k ≤ ms.length → ((t = 1 ∧ ∃ j, ∃ h : j < ms.length, j < k ∧ (ms[j]).2 = z) ∨ (t = 0 ∧ ∀ j (h : j < ms.length), j < k → (ms[j]).2 ≠ z)) → ∀ ls : Array Slot, lv_has ls 4 [(3, .int (nI k)), (2, .int (nI t)), (1, .int (nI z)), (0, .ref b)] → W p l e { frames := 0, cells := 0, slots := 0, locals := 0 } s m [.ref b].toArray below meth c s.heap [] 0 0 (MQ below (va_Qi (fun (r : Int32) (_ : Unit) => r = nI (ag_slot ms)) (ag_to (dC, dI) agCl [(cI, .int)] A (fun _ : Unit => [(b, .inr (2, [.int (nI cd), .int (nI G), .int (nI R), .long (lN en), .long (lN nw), .int (nI ms.length), .ref qn, .ref qk, .int (nI mo), .long (lN la), .long (lN go), .long (lN sp)])), (qn, .inl (cI, 1200, .inl f)), (qk, .inl (cI, 1200, .inl g))])) A) [.ref b].toArray s 0 0 A) (F0 m 12 ls []) := by
            intro q
            induction q with
            | zero => intro k t h1 h2; omega
            | succ q ih2 =>
              intro k t hq hk ht9 ls hl
              have ht1 : t ≤ 1 := by rcases ht9 with h | h <;> omega
              refine lv_iload_n hx hb d_M_freeSlot_12 rfl (lv_at hl 0 rfl) ?_
              refine lv_aload_n hx hb d_M_freeSlot_13 rfl (lv_at hl 3 rfl) ?_
              refine va_get (D := (dC, dI)) (ci := 2) (v := .int (nI ms.length)) (C := RX2) (T := TX2) (N := 12) hx hb ht inA2 hown hK hP 0 rfl rfl 5 (by decide) (ht _ mw_f_M_7) (fun _ h9 => h9) rfl d_M_freeSlot_14 ?_
              refine ag_icmp_ge (tgt := 46) hx hb d_M_freeSlot_17 (by decide) (by omega) (by omega) (fun c17 => ?_) (fun c17 => ?_)
              · have h_n := trivial
                have hte : t = if z + 1 ≤ ag_slot ms then 1 else 0 := by
                  by_cases h1 : z + 1 ≤ ag_slot ms
                  · rw [if_pos h1]
                    rcases ht9 with ⟨h, -⟩ | ⟨-, h⟩
                    · exact h
                    · obtain ⟨y, hy, e1⟩ := List.mem_map.mp (hlf.2 z (by omega))
                      obtain ⟨j, hj, rfl⟩ := List.getElem_of_mem hy
                      exact absurd e1 (h j hj (by omega))
                  · rw [if_neg h1]
                    rcases ht9 with ⟨-, j, hj, -, h⟩ | ⟨h, -⟩
                    · refine absurd ?_ hlf.1
                      rw [show ag_slot ms = z by omega]
                      exact List.mem_map.mpr ⟨_, List.getElem_mem hj, h⟩
                    · exact h
                refine lv_iinc (v := nI (z + 1)) (lv' := [(1, .int (nI (z + 1))), (3, .int (nI k)), (2, .int (nI t)), (0, .ref b)]) hx hb d_M_freeSlot_46 hl (k := 2) rfl (nI_1 _) (by decide) rfl (fun ls hl => ?_)
                refine lv_goto (tgt := 4) hx hb d_M_freeSlot_49 (by decide) ?_
                rw [hte] at hl
                exact ih (z + 1) (by omega) (by omega) ls (lv_sub hl [2, 0, 3] rfl)
              · have h_n := trivial
                have hbk := hbd.2 _ (List.getElem_mem c17)
                refine lv_iload_n hx hb d_M_freeSlot_20 rfl (lv_at hl 1 rfl) ?_
                refine lv_if_ne (tgt := 34) hx hb d_M_freeSlot_21 (by decide) (fun c21 => ?_) (fun c21 => ?_)
                · have h_n := trivial
                  have h9 : t = 1 := by rcases (show t = 0 ∨ t = 1 by omega) with rfl | h; (exact absurd (by decide) c21); exact h
                  refine ag_iconst hx hb 1 d_M_freeSlot_34 (by decide) ?_
                  refine lv_goto (tgt := 39) hx hb d_M_freeSlot_35 (by decide) ?_
                  refine lv_istore_n (lv' := [(2, .int (nI 1)), (3, .int (nI k)), (1, .int (nI z)), (0, .ref b)]) hx hb d_M_freeSlot_39 rfl hl (by decide) rfl (fun ls hl => ?_)
                  refine lv_iinc (v := nI (k + 1)) (lv' := [(3, .int (nI (k + 1))), (2, .int (nI 1)), (1, .int (nI z)), (0, .ref b)]) hx hb d_M_freeSlot_40 hl (k := 1) rfl (nI_1 _) (by decide) rfl (fun ls hl => ?_)
                  refine lv_goto (tgt := 12) hx hb d_M_freeSlot_43 (by decide) ?_
                  refine ih2 (k + 1) 1 (by omega) (by omega) (Or.inl ⟨rfl, by rcases ht9 with ⟨-, j, hj, h1, h2⟩ | ⟨h1, -⟩; (exact ⟨j, hj, by omega, h2⟩); omega⟩) ls hl
                · have h_n := trivial
                  have h9 : t = 0 := by rcases (show t = 0 ∨ t = 1 by omega) with h | rfl; (exact h); exact absurd c21 (by decide)
                  refine lv_aload_n hx hb d_M_freeSlot_24 rfl (lv_at hl 3 rfl) ?_
                  refine va_get (D := (dC, dI)) (ci := 2) (v := .ref qk) (C := RX2) (T := TX2) (N := 12) hx hb ht inA2 hown hK hP 0 rfl rfl 7 (by decide) (ht _ mw_f_M_17) (fun _ h9 => h9) rfl d_M_freeSlot_25 ?_
                  refine lv_iload_n hx hb d_M_freeSlot_28 rfl (lv_at hl 0 rfl) ?_
                  refine ag_iald hx hb hK hP 2 0 rfl rfl (by omega) (by decide) d_M_freeSlot_29 ?_
                  refine ag_topi (nI ((ms[k]).2)) ((hrep k c17).2) ?_
                  refine lv_iload_n hx hb d_M_freeSlot_30 rfl (lv_at hl 2 rfl) ?_
                  refine ag_icmp_ne (tgt := 38) hx hb d_M_freeSlot_31 (by decide) (by omega) (by omega) (fun c31 => ?_) (fun c31 => ?_)
                  · have h_n := trivial
                    refine ag_iconst hx hb 0 d_M_freeSlot_38 (by decide) ?_
                    refine lv_istore_n (lv' := [(2, .int (nI 0)), (3, .int (nI k)), (1, .int (nI z)), (0, .ref b)]) hx hb d_M_freeSlot_39 rfl hl (by decide) rfl (fun ls hl => ?_)
                    refine lv_iinc (v := nI (k + 1)) (lv' := [(3, .int (nI (k + 1))), (2, .int (nI 0)), (1, .int (nI z)), (0, .ref b)]) hx hb d_M_freeSlot_40 hl (k := 1) rfl (nI_1 _) (by decide) rfl (fun ls hl => ?_)
                    refine lv_goto (tgt := 12) hx hb d_M_freeSlot_43 (by decide) ?_
                    refine ih2 (k + 1) 0 (by omega) (by omega) (Or.inr ⟨rfl, fun j hj h => by rcases ht9 with ⟨h1, -⟩ | ⟨-, h1⟩; (exact absurd h1 (by omega)); rcases Nat.lt_or_ge j k with z9 | z9; (exact h1 j hj z9); (have e9 : j = k := by omega); (subst e9; exact c31)⟩) ls hl
                  · have h_n := trivial
                    refine ag_iconst hx hb 1 d_M_freeSlot_34 (by decide) ?_
                    refine lv_goto (tgt := 39) hx hb d_M_freeSlot_35 (by decide) ?_
                    refine lv_istore_n (lv' := [(2, .int (nI 1)), (3, .int (nI k)), (1, .int (nI z)), (0, .ref b)]) hx hb d_M_freeSlot_39 rfl hl (by decide) rfl (fun ls hl => ?_)
                    refine lv_iinc (v := nI (k + 1)) (lv' := [(3, .int (nI (k + 1))), (2, .int (nI 1)), (1, .int (nI z)), (0, .ref b)]) hx hb d_M_freeSlot_40 hl (k := 1) rfl (nI_1 _) (by decide) rfl (fun ls hl => ?_)
                    refine lv_goto (tgt := 12) hx hb d_M_freeSlot_43 (by decide) ?_
                    refine ih2 (k + 1) 1 (by omega) (by omega) (Or.inl ⟨rfl, k, c17, by omega, c31⟩) ls hl
          exact inner (ms.length + 1) 0 0 (by omega) (by omega) (Or.inr ⟨rfl, fun j hj h => absurd h (by omega)⟩) ls hl
      · have h_n := trivial
        rw [if_neg hzk] at hl
        refine lv_iload_n hx hb d_M_freeSlot_4 rfl (lv_at hl 0 rfl) ?_
        refine lv_if_eq (tgt := 52) hx hb d_M_freeSlot_5 (by decide) (fun c5 => ?_) (fun c5 => ?_)
        · have h_n := trivial
          refine lv_iload_n hx hb d_M_freeSlot_52 rfl (lv_at hl 1 rfl) ?_
          refine ag_iconst hx hb 1 d_M_freeSlot_53 (by decide) ?_
          refine lv_isub hx hb d_M_freeSlot_54 ?_
          refine ag_topi (nI (z - 1)) (pk_sub (by omega)) ?_
          exact ag_reti hx hb hr hlocks () (by rw [show z - 1 = ag_slot ms by omega]) hP hK hD hS d_M_freeSlot_55
        · have h_n := trivial
          exact absurd (by decide) c5
  exact loop (ag_slot ms + 2) 0 (by omega) (by omega) ls (by rw [if_pos (Nat.zero_le _)]; exact hl)
