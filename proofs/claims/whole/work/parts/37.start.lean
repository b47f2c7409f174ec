section AgStart
theorem ag_str {s : State} {args : Array Value} {own tx : String} {k : Nat} (h1 : (Cond.stringRef own k tx).before args s = true) (h2 : (Cond.exactly (.string own k) "java/lang/String").before args s = true) : ∃ q, vk_R own k tx q s := by
  obtain ⟨a, c, cell, kk, q1, -⟩ := Cond.exactly_spec (args := args) (first := s) (o := none) (s := s) (idx := []) (t := .string own k) (cls := "java/lang/String") h2
  exact ⟨a, vk_R.of (A := args) h1 q1⟩
theorem agN_in : ∀ w ∈ agN, w ∈ lw_tbl := by decide +kernel
theorem ag_l1 : Cond.laysStatic Bundle.tN "UNASSIGNED_STACK" Bundle.steD ∈ lw_tbl := by decide +kernel
theorem ag_l2 : Cond.laysStatic Bundle.tN "SUPPRESSED_SENTINEL" Bundle.listD ∈ lw_tbl := by decide +kernel
theorem ag_l3 : Cond.initialized Bundle.tN ∈ lw_tbl := by decide +kernel
def agF : List Cond := flatC (Jvm.Cond.and given_1 narrow_1)
theorem ag_f1 : Cond.isRef (.static Bundle.tN "UNASSIGNED_STACK" Bundle.steD) ∈ agF := by decide +kernel
theorem ag_f2 : Cond.isRef (.static Bundle.tN "SUPPRESSED_SENTINEL" Bundle.listD) ∈ agF := by decide +kernel
theorem ag_f3 : Cond.not (.castable xISE xIAE) ∈ agF := by decide +kernel
theorem ag_f4 : Cond.not (.castable xIAE xNSE) ∈ agF := by decide +kernel
theorem ag_f5 : ∀ k ∈ [51, 64, 74, 80, 92, 95], Cond.exactly (.string "AgedMarks" k) "java/lang/String" ∈ agF := by decide +kernel
theorem ag_s1 : Cond.stringRef "AgedMarks" 51 "a run is 0 to 4000 long" ∈ lw_tbl := by decide +kernel
theorem ag_s2 : Cond.stringRef "AgedMarks" 64 "the count would be above 1000000 gaps" ∈ lw_tbl := by decide +kernel
theorem ag_s3 : Cond.stringRef "AgedMarks" 74 "the count is not 0 to the end" ∈ lw_tbl := by decide +kernel
theorem ag_s4 : Cond.stringRef "AgedMarks" 80 "the way back is below 0" ∈ lw_tbl := by decide +kernel
theorem ag_s5 : Cond.stringRef "AgedMarks" 92 "there is no such mark" ∈ lw_tbl := by decide +kernel
theorem ag_s6 : Cond.stringRef "AgedMarks" 95 "what is not 0 to 2" ∈ lw_tbl := by decide +kernel
theorem ag_nest : Cond.methodLinkNest "AgedMarks" 18 y_S_init "AgedMarks" ∈ lw_tbl := by decide +kernel
theorem ag_x0 {args : Array Value} {s : State} (htt : ∀ w ∈ lw_tbl, w.before args s = true) (hgv : (Jvm.Cond.and given_1 narrow_1).before args s = true) : ag_x (fun q : Nat => s.heap.size ≤ q) s s.heap := by
  have hs : ∀ c ∈ agF, c.before args s = true := flat_of_before _ hgv
  have hA : ∀ a : Nat, a < s.heap.size → ¬ (fun q : Nat => s.heap.size ≤ q) a := fun a h => Nat.not_le.mpr h
  have he : ∀ k ∈ [51, 64, 74, 80, 92, 95], (Cond.exactly (.string "AgedMarks" k) "java/lang/String").before args s = true := fun k hk => hs _ (ag_f5 k hk)
  exact ⟨vx_Zqof (htt _ ag_l1) (htt _ ag_l3) (hs _ ag_f1) hA, vx_Zqof (htt _ ag_l2) (htt _ ag_l3) (hs _ ag_f2) hA, fun w hw => va_Nw.of (ag_nok hw) (htt w (agN_in w hw)), ⟨va_Nc.of (hs _ ag_f3), va_Nc.of (hs _ ag_f4)⟩,
    ag_str (htt _ ag_s1) (he 51 (by decide)), ag_str (htt _ ag_s2) (he 64 (by decide)), ag_str (htt _ ag_s3) (he 74 (by decide)), ag_str (htt _ ag_s4) (he 80 (by decide)), ag_str (htt _ ag_s5) (he 92 (by decide)), ag_str (htt _ ag_s6) (he 95 (by decide))⟩
theorem ag_K0 {args : Array Value} {s : State} (ht : ∀ w ∈ agW, w.before args s = true) : ∃ (dC : Nat → ClassId) (dI : Nat → Nat → Nat) (cI cJ : ClassId), va_K (dC, dI) agCl [(cI, .int), (cJ, .long)] s := by
  obtain ⟨c0, i0, h0⟩ := u_known (C := RX0) (T := TX0) (N := 1) (n := 1) ht inA0 (ht _ mw_new_S)
  obtain ⟨c1, i1, h1⟩ := u_known (C := RX1) (T := TX1) (N := 12) (n := 12) ht inA1 (ht _ mw_new_A)
  obtain ⟨c2, i2, h2⟩ := u_known (C := RX2) (T := TX2) (N := 12) (n := 12) ht inA2 (ht _ mw_new_M)
  obtain ⟨cI, kI, mI, a1, a2, a3⟩ := Cond.arrayClass_spec (ht _ mw_arr__int_)
  obtain ⟨cJ, kJ, mJ, b1, b2, b3⟩ := Cond.arrayClass_spec (ht _ mw_arr__long_)
  refine ⟨fun k => if k = 0 then c0 else if k = 1 then c1 else c2, fun k => if k = 0 then i0 else if k = 1 then i1 else i2, cI, cJ, fun k q hq => ?_, fun k q hq => ?_⟩
  · match k, hq with
    | 0, hq => cases hq; exact h0
    | 1, hq => cases hq; exact h1
    | 2, hq => cases hq; exact h2
    | k + 3, hq => simp [agCl] at hq
  · match k, hq with
    | 0, hq => cases hq; exact ⟨fun n z => ⟨fun k h => (by cases h), kI, a2, mI, a3⟩, a1⟩
    | 1, hq => cases hq; exact ⟨fun n z => ⟨fun k h => (by cases h), kJ, b2, mJ, b3⟩, b1⟩
    | k + 2, hq => simp at hq
end AgStart

set_option maxHeartbeats 4000000 in
set_option maxRecDepth 100000 in
/-- THE LAW, from its entry -/
theorem whole_start {p : Program} {e : Env} {s : State} {m : MethodId} {below : List Frame} {meth : Method} {c : Code} (l : Launch) (hlx : l.stackTraces = false) {b0 L : Nat} {xs : Nat → Int32} (hL : L ≤ 1538) (C0 : lw_At p s m meth c b0 L xs) : W p l e room_1 s m #[Value.ref b0] below meth c s.heap [] 0 0 (lw_Z below #[Value.ref b0] s) (entryFrame m ([Value.ref b0] : List Value).toArray 8) := by
  obtain ⟨hx, hb, hr, hml, hown, htt, hXs, hbl, hlocks, hgv⟩ := id C0
  have hb : c.code = b_W_law := hb
  have hown : s.vm.findClass "AgedMarksLaw" = some m.cls := hown
  have ht : ∀ w ∈ agW, w.before #[Value.ref b0] s = true := fun w h => htt w (agW_in w h)
  have hts : ∀ w ∈ Cond.initialized "AgedMarksLaw" :: agW, w.before #[Value.ref b0] s = true := fun w h => by
    rcases List.mem_cons.mp h with rfl | h
    · exact ht _ mw_ini_W
    · exact ht _ h
  have hX0 := ag_x0 htt hgv
  have hnest : va_Nw (Cond.methodLinkNest "AgedMarks" 18 y_S_init "AgedMarks") s := va_Nw.of rfl (htt _ ag_nest)
  obtain ⟨dC, dI, cI, cJ, hK⟩ := ag_K0 ht
  obtain ⟨A, hAe⟩ : ∃ A : Nat → Prop, A = fun q : Nat => s.heap.size ≤ q := ⟨_, rfl⟩
  rw [← hAe] at hX0
  have hA : ∀ q : Nat, s.heap.size ≤ q → A q := fun q h => by rw [hAe]; exact h
  have hA2 : ∀ q : Nat, A q → s.heap.size ≤ q := fun q h => by rw [hAe] at h; exact h
  have hbA : ¬ A b0 := fun h => absurd (hA2 _ h) (Nat.not_le.mpr hbl)
  have hS : va_S A s.heap s.heap [] := va_S.rf
  have hP : va_P (dC, dI) agCl [] s.heap := fun k q h => by simp at h
  have hD : va_D A [] := ⟨fun i j p q h => by simp at h, fun k q h => by simp at h⟩
  have hl := lv_entry ([.ref b0]) (n := 8) (Nat.le_of_ble_eq_true rfl)
  rw [lg_entry_eq]
  generalize (lg_sl ([.ref b0]) ++ List.replicate (8 - (lg_sl ([.ref b0])).length) Slot.unset).toArray = ls at hl ⊢
  have hl : lv_has ls 8 [(0, .ref b0)] := hl
  obtain ⟨x, hx1⟩ : ∃ x : Int32, x = if 0 < L then xs 0 else 0 := ⟨_, rfl⟩
  obtain ⟨y, hy1⟩ : ∃ y : Int32, y = if 1 < L then xs 1 else 0 := ⟨_, rfl⟩
  refine va_new (ci := 1) (fs := [.int (nI 0), .int (nI 0), .null, .null, .null, .int (nI 0), .long (lN 0), .long (lN 0), .int (nI 0), .long (lN 0), .long (lN 0), .long (lN 0)]) (C := RX1) (T := TX1) (N := 12) hx hb ht inA1 tyX1 tyX1_ok hown (ht _ mw_c_W_8) (ht _ mw_new_A) (ht _ mw_ini_A) hK hP hD hS hA rfl (fun j hj => by rcases (show j = 0 ∨ j = 1 ∨ j = 2 ∨ j = 3 ∨ j = 4 ∨ j = 5 ∨ j = 6 ∨ j = 7 ∨ j = 8 ∨ j = 9 ∨ j = 10 ∨ j = 11 by omega) with rfl | rfl | rfl | rfl | rfl | rfl | rfl | rfl | rfl | rfl | rfl | rfl <;> rfl) (Nat.le_of_ble_eq_true rfl) (Nat.le_of_ble_eq_true rfl) d_W_law_0 (fun a H hP hD hS => ?_)
  have hP : va_P (dC, dI) agCl [(a, .inr (1, [.int (nI 0), .int (nI 0), .null, .null, .null, .int (nI 0), .long (lN 0), .long (lN 0), .int (nI 0), .long (lN 0), .long (lN 0), .long (lN 0)]))] H := hP
  have hD : va_D A [(a, .inr (1, [.int (nI 0), .int (nI 0), .null, .null, .null, .int (nI 0), .long (lN 0), .long (lN 0), .int (nI 0), .long (lN 0), .long (lN 0), .long (lN 0)]))] := hD
  refine W.widen (k := 1) (n := 12) (by decide) (by decide) ?_
  refine lv_dup hx hb d_W_law_3 rfl ?_
  refine lv_aload_n hx hb d_W_law_4 rfl (lv_at hl 0 rfl) ?_
  refine ag_iconst hx hb 0 d_W_law_5 (by decide) ?_
  have hK0 := hK.sub (tys' := []) [] rfl
  have hXH : va_X b0 L xs s H := hXs.kept (hS.2.1 b0 hbl hbA)
  have hbH : b0 < H.size := Nat.lt_of_lt_of_le hbl hS.1
  refine ag_cli (wc := []) (wr := [(a, .inr (1, [.int (nI 0), .int (nI 0), .null, .null, .null, .int (nI 0), .long (lN 0), .long (lN 0), .int (nI 0), .long (lN 0), .long (lN 0), .long (lN 0)]))]) (Wf := fun _ : Unit => ([] : va_W)) hP hD hS hA [] [0] rfl rfl (by decide) (by decide) (va_runS (As := [.ref b0, .int (nI 0)]) (rest := [.ref a, .ref a]) ⟨hx, hb, hml, hown, hts⟩ (c_W_cell l dC dI H.size b0 L xs 0 hL (by decide)) (ag_cwS 2 hts mw_m_W_30 mw_static_W_cell mw_ini_W mw_code_W_cell rfl rfl (by decide +kernel) ⟨Nat.le_of_ble_eq_true rfl, Nat.le_of_ble_eq_true rfl⟩) ⟨ag_blinds, ag_pres hK0 hXH hbH⟩ rfl rfl hl.1 rfl (lv_room (Nat.le_of_ble_eq_true rfl)) d_W_law_6 ⟨Nat.le_of_ble_eq_true rfl, Nat.le_of_ble_eq_true rfl⟩) (fun r u H locs hw hP hD hS => ?_)
  clear hXH hbH
  rw [← hx1] at hw
  obtain rfl : x = r := hw.symm
  have hP : va_P (dC, dI) agCl [(a, .inr (1, [.int (nI 0), .int (nI 0), .null, .null, .null, .int (nI 0), .long (lN 0), .long (lN 0), .int (nI 0), .long (lN 0), .long (lN 0), .long (lN 0)]))] H := hP
  have hD : va_D A [(a, .inr (1, [.int (nI 0), .int (nI 0), .null, .null, .null, .int (nI 0), .long (lN 0), .long (lN 0), .int (nI 0), .long (lN 0), .long (lN 0), .long (lN 0)]))] := hD
  refine W.widen (k := 1) (n := 12) (by decide) (by decide) ?_
  refine lv_aload_n hx hb d_W_law_9 rfl (lv_at hl 0 rfl) ?_
  refine ag_iconst hx hb 1 d_W_law_10 (by decide) ?_
  have hK0 := hK.sub (tys' := []) [] rfl
  have hXH : va_X b0 L xs s H := hXs.kept (hS.2.1 b0 hbl hbA)
  have hbH : b0 < H.size := Nat.lt_of_lt_of_le hbl hS.1
  refine ag_cli (wc := []) (wr := [(a, .inr (1, [.int (nI 0), .int (nI 0), .null, .null, .null, .int (nI 0), .long (lN 0), .long (lN 0), .int (nI 0), .long (lN 0), .long (lN 0), .long (lN 0)]))]) (Wf := fun _ : Unit => ([] : va_W)) hP hD hS hA [] [0] rfl rfl (by decide) (by decide) (va_runS (As := [.ref b0, .int (nI 1)]) (rest := [.int x, .ref a, .ref a]) ⟨hx, hb, hml, hown, hts⟩ (c_W_cell l dC dI H.size b0 L xs 1 hL (by decide)) (ag_cwS 2 hts mw_m_W_30 mw_static_W_cell mw_ini_W mw_code_W_cell rfl rfl (by decide +kernel) ⟨Nat.le_of_ble_eq_true rfl, Nat.le_of_ble_eq_true rfl⟩) ⟨ag_blinds, ag_pres hK0 hXH hbH⟩ rfl rfl hl.1 rfl (lv_room (Nat.le_of_ble_eq_true rfl)) d_W_law_11 ⟨Nat.le_of_ble_eq_true rfl, Nat.le_of_ble_eq_true rfl⟩) (fun r u H locs hw hP hD hS => ?_)
  clear hXH hbH
  rw [← hy1] at hw
  obtain rfl : y = r := hw.symm
  have hP : va_P (dC, dI) agCl [(a, .inr (1, [.int (nI 0), .int (nI 0), .null, .null, .null, .int (nI 0), .long (lN 0), .long (lN 0), .int (nI 0), .long (lN 0), .long (lN 0), .long (lN 0)]))] H := hP
  have hD : va_D A [(a, .inr (1, [.int (nI 0), .int (nI 0), .null, .null, .null, .int (nI 0), .long (lN 0), .long (lN 0), .int (nI 0), .long (lN 0), .long (lN 0), .long (lN 0)]))] := hD
  refine W.widen (k := 1) (n := 12) (by decide) (by decide) ?_
  have hPc := hP.sub (ws' := [(a, .inr (1, [.int (nI 0), .int (nI 0), .null, .null, .null, .int (nI 0), .long (lN 0), .long (lN 0), .int (nI 0), .long (lN 0), .long (lN 0), .long (lN 0)]))]) [0] rfl
  have hDc := hD.sub (ws' := [(a, .inr (1, [.int (nI 0), .int (nI 0), .null, .null, .null, .int (nI 0), .long (lN 0), .long (lN 0), .int (nI 0), .long (lN 0), .long (lN 0), .long (lN 0)]))]) [0] (by decide) rfl
  have hKi := hK.sub (tys' := [(cI, .int)]) [0] rfl
  refine ag_clv (wc := [(a, .inr (1, [.int (nI 0), .int (nI 0), .null, .null, .null, .int (nI 0), .long (lN 0), .long (lN 0), .int (nI 0), .long (lN 0), .long (lN 0), .long (lN 0)]))]) (wr := []) (Wf := fun u : Nat × Nat × Nat × Nat × (Nat → Int32) × (Nat → Int32) × (Nat → Int64) => [(a, .inr (1, [.int (nI (ag_clamp 1 1000 x)), .int (nI (ag_clamp 2 16 y)), .ref u.1, .ref u.2.1, .ref u.2.2.1, .int (nI 1), .long (lN 0), .long (lN 0), .int (nI 1), .long (lN 0), .long (lN 0), .long (lN 0)])), (u.1, .inl (cI, 320, .inl u.2.2.2.2.1)), (u.2.1, .inl (cI, 320, .inl u.2.2.2.2.2.1)), (u.2.2.1, .inr (0, [.ref u.2.2.2.1])), (u.2.2.2.1, .inl (cJ, 5, .inr (.inl u.2.2.2.2.2.2)))]) hP hD hS hA [0] [] rfl rfl (by decide) (by decide) (va_runI (As := [.int x, .int y]) (rest := [.ref a]) ⟨hx, hb, hml, hown, hts⟩ (c_A_init l dC dI H.size a cI cJ x y) (cwI 2 hts (ag_goodIn (fun w h => by rcases List.mem_cons.mp h with rfl | h; exact mw_code_A_init; exact h)) rfl rfl rfl (ht _ mw_ini_A) (ht _ mw_m_W_36) (ht _ mw_instanceMethod_A_init) rfl (by decide +kernel) ⟨Nat.le_of_ble_eq_true rfl, Nat.le_of_ble_eq_true rfl⟩) ⟨ag_blindk rfl, fun U hU hW => ⟨rfl, ⟨by rw [hU], by rw [hU]; exact hPc, va_K.moved hW.alike hK, hDc.weaken (fun _ _ _ _ => trivial)⟩, va_Nw.warmM hW hnest⟩⟩ rfl rfl hl.1 rfl (lv_room (Nat.le_of_ble_eq_true rfl)) d_W_law_14 ⟨Nat.le_of_ble_eq_true rfl, Nat.le_of_ble_eq_true rfl⟩) (fun u H locs hw hP hD hS => ?_)
  obtain ⟨qm, qs, qt, qw, f, g, w⟩ := u
  have hrep : ag_rep [(0, 0)] f g w := hw
  have hP : va_P (dC, dI) agCl [(a, .inr (1, [.int (nI (ag_clamp 1 1000 x)), .int (nI (ag_clamp 2 16 y)), .ref qm, .ref qs, .ref qt, .int (nI 1), .long (lN 0), .long (lN 0), .int (nI 1), .long (lN 0), .long (lN 0), .long (lN 0)])), (qm, .inl (cI, 320, .inl f)), (qs, .inl (cI, 320, .inl g)), (qt, .inr (0, [.ref qw])), (qw, .inl (cJ, 5, .inr (.inl w)))] H := hP
  have hD : va_D A [(a, .inr (1, [.int (nI (ag_clamp 1 1000 x)), .int (nI (ag_clamp 2 16 y)), .ref qm, .ref qs, .ref qt, .int (nI 1), .long (lN 0), .long (lN 0), .int (nI 1), .long (lN 0), .long (lN 0), .long (lN 0)])), (qm, .inl (cI, 320, .inl f)), (qs, .inl (cI, 320, .inl g)), (qt, .inr (0, [.ref qw])), (qw, .inl (cJ, 5, .inr (.inl w)))] := hD
  refine W.widen (k := 5) (n := 658) (by decide) (by decide) ?_
  refine lv_astore_n (lv' := [(1, .ref a), (0, .ref b0)]) hx hb d_W_law_17 rfl hl (by decide) rfl (fun ls hl => ?_)
  refine va_new (ci := 2) (fs := [.int (nI 0), .int (nI 0), .int (nI 0), .long (lN 0), .long (lN 0), .int (nI 0), .null, .null, .int (nI 0), .long (lN 0), .long (lN 0), .long (lN 0)]) (C := RX2) (T := TX2) (N := 12) hx hb ht inA2 tyX2 tyX2_ok hown (ht _ mw_c_W_39) (ht _ mw_new_M) (ht _ mw_ini_M) hK hP hD hS hA rfl (fun j hj => by rcases (show j = 0 ∨ j = 1 ∨ j = 2 ∨ j = 3 ∨ j = 4 ∨ j = 5 ∨ j = 6 ∨ j = 7 ∨ j = 8 ∨ j = 9 ∨ j = 10 ∨ j = 11 by omega) with rfl | rfl | rfl | rfl | rfl | rfl | rfl | rfl | rfl | rfl | rfl | rfl <;> rfl) (Nat.le_of_ble_eq_true rfl) (Nat.le_of_ble_eq_true rfl) d_W_law_18 (fun b H hP hD hS => ?_)
  have hP : va_P (dC, dI) agCl [(a, .inr (1, [.int (nI (ag_clamp 1 1000 x)), .int (nI (ag_clamp 2 16 y)), .ref qm, .ref qs, .ref qt, .int (nI 1), .long (lN 0), .long (lN 0), .int (nI 1), .long (lN 0), .long (lN 0), .long (lN 0)])), (qm, .inl (cI, 320, .inl f)), (qs, .inl (cI, 320, .inl g)), (qt, .inr (0, [.ref qw])), (qw, .inl (cJ, 5, .inr (.inl w))), (b, .inr (2, [.int (nI 0), .int (nI 0), .int (nI 0), .long (lN 0), .long (lN 0), .int (nI 0), .null, .null, .int (nI 0), .long (lN 0), .long (lN 0), .long (lN 0)]))] H := hP
  have hD : va_D A [(a, .inr (1, [.int (nI (ag_clamp 1 1000 x)), .int (nI (ag_clamp 2 16 y)), .ref qm, .ref qs, .ref qt, .int (nI 1), .long (lN 0), .long (lN 0), .int (nI 1), .long (lN 0), .long (lN 0), .long (lN 0)])), (qm, .inl (cI, 320, .inl f)), (qs, .inl (cI, 320, .inl g)), (qt, .inr (0, [.ref qw])), (qw, .inl (cJ, 5, .inr (.inl w))), (b, .inr (2, [.int (nI 0), .int (nI 0), .int (nI 0), .long (lN 0), .long (lN 0), .int (nI 0), .null, .null, .int (nI 0), .long (lN 0), .long (lN 0), .long (lN 0)]))] := hD
  refine W.widen (k := 6) (n := 670) (by decide) (by decide) ?_
  refine lv_dup hx hb d_W_law_21 rfl ?_
  refine lv_aload_n hx hb d_W_law_22 rfl (lv_at hl 1 rfl) ?_
  refine ag_iconst hx hb 0 d_W_law_23 (by decide) ?_
  have hK0 := hK.sub (tys' := []) [] rfl
  have hXH : va_X b0 L xs s H := hXs.kept (hS.2.1 b0 hbl hbA)
  have hbH : b0 < H.size := Nat.lt_of_lt_of_le hbl hS.1
  refine ag_cli (wc := []) (wr := [(a, .inr (1, [.int (nI (ag_clamp 1 1000 x)), .int (nI (ag_clamp 2 16 y)), .ref qm, .ref qs, .ref qt, .int (nI 1), .long (lN 0), .long (lN 0), .int (nI 1), .long (lN 0), .long (lN 0), .long (lN 0)])), (qm, .inl (cI, 320, .inl f)), (qs, .inl (cI, 320, .inl g)), (qt, .inr (0, [.ref qw])), (qw, .inl (cJ, 5, .inr (.inl w))), (b, .inr (2, [.int (nI 0), .int (nI 0), .int (nI 0), .long (lN 0), .long (lN 0), .int (nI 0), .null, .null, .int (nI 0), .long (lN 0), .long (lN 0), .long (lN 0)]))]) (Wf := fun _ : Unit => ([] : va_W)) hP hD hS hA [] [0, 1, 2, 3, 4, 5] rfl rfl (by decide) (by decide) (va_runS (As := [.ref b0, .int (nI 0)]) (rest := [.ref b, .ref b]) ⟨hx, hb, hml, hown, hts⟩ (c_W_cell l dC dI H.size b0 L xs 0 hL (by decide)) (ag_cwS 2 hts mw_m_W_30 mw_static_W_cell mw_ini_W mw_code_W_cell rfl rfl (by decide +kernel) ⟨Nat.le_of_ble_eq_true rfl, Nat.le_of_ble_eq_true rfl⟩) ⟨ag_blinds, ag_pres hK0 hXH hbH⟩ rfl rfl hl.1 rfl (lv_room (Nat.le_of_ble_eq_true rfl)) d_W_law_24 ⟨Nat.le_of_ble_eq_true rfl, Nat.le_of_ble_eq_true rfl⟩) (fun r u H locs hw hP hD hS => ?_)
  clear hXH hbH
  rw [← hx1] at hw
  obtain rfl : x = r := hw.symm
  have hP : va_P (dC, dI) agCl [(a, .inr (1, [.int (nI (ag_clamp 1 1000 x)), .int (nI (ag_clamp 2 16 y)), .ref qm, .ref qs, .ref qt, .int (nI 1), .long (lN 0), .long (lN 0), .int (nI 1), .long (lN 0), .long (lN 0), .long (lN 0)])), (qm, .inl (cI, 320, .inl f)), (qs, .inl (cI, 320, .inl g)), (qt, .inr (0, [.ref qw])), (qw, .inl (cJ, 5, .inr (.inl w))), (b, .inr (2, [.int (nI 0), .int (nI 0), .int (nI 0), .long (lN 0), .long (lN 0), .int (nI 0), .null, .null, .int (nI 0), .long (lN 0), .long (lN 0), .long (lN 0)]))] H := hP
  have hD : va_D A [(a, .inr (1, [.int (nI (ag_clamp 1 1000 x)), .int (nI (ag_clamp 2 16 y)), .ref qm, .ref qs, .ref qt, .int (nI 1), .long (lN 0), .long (lN 0), .int (nI 1), .long (lN 0), .long (lN 0), .long (lN 0)])), (qm, .inl (cI, 320, .inl f)), (qs, .inl (cI, 320, .inl g)), (qt, .inr (0, [.ref qw])), (qw, .inl (cJ, 5, .inr (.inl w))), (b, .inr (2, [.int (nI 0), .int (nI 0), .int (nI 0), .long (lN 0), .long (lN 0), .int (nI 0), .null, .null, .int (nI 0), .long (lN 0), .long (lN 0), .long (lN 0)]))] := hD
  refine W.widen (k := 6) (n := 670) (by decide) (by decide) ?_
  refine lv_aload_n hx hb d_W_law_27 rfl (lv_at hl 1 rfl) ?_
  refine ag_iconst hx hb 1 d_W_law_28 (by decide) ?_
  have hK0 := hK.sub (tys' := []) [] rfl
  have hXH : va_X b0 L xs s H := hXs.kept (hS.2.1 b0 hbl hbA)
  have hbH : b0 < H.size := Nat.lt_of_lt_of_le hbl hS.1
  refine ag_cli (wc := []) (wr := [(a, .inr (1, [.int (nI (ag_clamp 1 1000 x)), .int (nI (ag_clamp 2 16 y)), .ref qm, .ref qs, .ref qt, .int (nI 1), .long (lN 0), .long (lN 0), .int (nI 1), .long (lN 0), .long (lN 0), .long (lN 0)])), (qm, .inl (cI, 320, .inl f)), (qs, .inl (cI, 320, .inl g)), (qt, .inr (0, [.ref qw])), (qw, .inl (cJ, 5, .inr (.inl w))), (b, .inr (2, [.int (nI 0), .int (nI 0), .int (nI 0), .long (lN 0), .long (lN 0), .int (nI 0), .null, .null, .int (nI 0), .long (lN 0), .long (lN 0), .long (lN 0)]))]) (Wf := fun _ : Unit => ([] : va_W)) hP hD hS hA [] [0, 1, 2, 3, 4, 5] rfl rfl (by decide) (by decide) (va_runS (As := [.ref b0, .int (nI 1)]) (rest := [.int x, .ref b, .ref b]) ⟨hx, hb, hml, hown, hts⟩ (c_W_cell l dC dI H.size b0 L xs 1 hL (by decide)) (ag_cwS 2 hts mw_m_W_30 mw_static_W_cell mw_ini_W mw_code_W_cell rfl rfl (by decide +kernel) ⟨Nat.le_of_ble_eq_true rfl, Nat.le_of_ble_eq_true rfl⟩) ⟨ag_blinds, ag_pres hK0 hXH hbH⟩ rfl rfl hl.1 rfl (lv_room (Nat.le_of_ble_eq_true rfl)) d_W_law_29 ⟨Nat.le_of_ble_eq_true rfl, Nat.le_of_ble_eq_true rfl⟩) (fun r u H locs hw hP hD hS => ?_)
  clear hXH hbH
  rw [← hy1] at hw
  obtain rfl : y = r := hw.symm
  have hP : va_P (dC, dI) agCl [(a, .inr (1, [.int (nI (ag_clamp 1 1000 x)), .int (nI (ag_clamp 2 16 y)), .ref qm, .ref qs, .ref qt, .int (nI 1), .long (lN 0), .long (lN 0), .int (nI 1), .long (lN 0), .long (lN 0), .long (lN 0)])), (qm, .inl (cI, 320, .inl f)), (qs, .inl (cI, 320, .inl g)), (qt, .inr (0, [.ref qw])), (qw, .inl (cJ, 5, .inr (.inl w))), (b, .inr (2, [.int (nI 0), .int (nI 0), .int (nI 0), .long (lN 0), .long (lN 0), .int (nI 0), .null, .null, .int (nI 0), .long (lN 0), .long (lN 0), .long (lN 0)]))] H := hP
  have hD : va_D A [(a, .inr (1, [.int (nI (ag_clamp 1 1000 x)), .int (nI (ag_clamp 2 16 y)), .ref qm, .ref qs, .ref qt, .int (nI 1), .long (lN 0), .long (lN 0), .int (nI 1), .long (lN 0), .long (lN 0), .long (lN 0)])), (qm, .inl (cI, 320, .inl f)), (qs, .inl (cI, 320, .inl g)), (qt, .inr (0, [.ref qw])), (qw, .inl (cJ, 5, .inr (.inl w))), (b, .inr (2, [.int (nI 0), .int (nI 0), .int (nI 0), .long (lN 0), .long (lN 0), .int (nI 0), .null, .null, .int (nI 0), .long (lN 0), .long (lN 0), .long (lN 0)]))] := hD
  refine W.widen (k := 6) (n := 670) (by decide) (by decide) ?_
  have hPc := hP.sub (ws' := [(b, .inr (2, [.int (nI 0), .int (nI 0), .int (nI 0), .long (lN 0), .long (lN 0), .int (nI 0), .null, .null, .int (nI 0), .long (lN 0), .long (lN 0), .long (lN 0)]))]) [5] rfl
  have hDc := hD.sub (ws' := [(b, .inr (2, [.int (nI 0), .int (nI 0), .int (nI 0), .long (lN 0), .long (lN 0), .int (nI 0), .null, .null, .int (nI 0), .long (lN 0), .long (lN 0), .long (lN 0)]))]) [5] (by decide) rfl
  have hKi := hK.sub (tys' := [(cI, .int)]) [0] rfl
  refine ag_clv (wc := [(b, .inr (2, [.int (nI 0), .int (nI 0), .int (nI 0), .long (lN 0), .long (lN 0), .int (nI 0), .null, .null, .int (nI 0), .long (lN 0), .long (lN 0), .long (lN 0)]))]) (wr := [(a, .inr (1, [.int (nI (ag_clamp 1 1000 x)), .int (nI (ag_clamp 2 16 y)), .ref qm, .ref qs, .ref qt, .int (nI 1), .long (lN 0), .long (lN 0), .int (nI 1), .long (lN 0), .long (lN 0), .long (lN 0)])), (qm, .inl (cI, 320, .inl f)), (qs, .inl (cI, 320, .inl g)), (qt, .inr (0, [.ref qw])), (qw, .inl (cJ, 5, .inr (.inl w)))]) (Wf := fun u : Nat × Nat × (Nat → Int32) × (Nat → Int32) => [(b, .inr (2, [.int (nI 0), .int (nI (ag_clamp 1 1000 x)), .int (nI (ag_clamp 2 16 y)), .long (lN 0), .long (lN 0), .int (nI 1), .ref u.1, .ref u.2.1, .int (nI 1), .long (lN 0), .long (lN 0), .long (lN 0)])), (u.1, .inl (cI, 1200, .inl u.2.2.1)), (u.2.1, .inl (cI, 1200, .inl u.2.2.2))]) hP hD hS hA [5] [0, 1, 2, 3, 4] rfl rfl (by decide) (by decide) (va_runI (As := [.int x, .int y]) (rest := [.ref b]) ⟨hx, hb, hml, hown, hts⟩ (c_M_init l dC dI H.size b cI x y) (cwI 2 hts (ag_goodIn (fun w h => by rcases List.mem_cons.mp h with rfl | h; exact mw_code_M_init; exact h)) rfl rfl rfl (ht _ mw_ini_M) (ht _ mw_m_W_41) (ht _ mw_instanceMethod_M_init) rfl (by decide +kernel) ⟨Nat.le_of_ble_eq_true rfl, Nat.le_of_ble_eq_true rfl⟩) ⟨ag_blind, ag_pre hPc hKi hDc⟩ rfl rfl hl.1 rfl (lv_room (Nat.le_of_ble_eq_true rfl)) d_W_law_32 ⟨Nat.le_of_ble_eq_true rfl, Nat.le_of_ble_eq_true rfl⟩) (fun u H locs hw hP hD hS => ?_)
  obtain ⟨qn, qk, f2, g2⟩ := u
  have hrpm : ag_rpm [(0, 0)] f2 g2 := hw
  have hP : va_P (dC, dI) agCl [(a, .inr (1, [.int (nI (ag_clamp 1 1000 x)), .int (nI (ag_clamp 2 16 y)), .ref qm, .ref qs, .ref qt, .int (nI 1), .long (lN 0), .long (lN 0), .int (nI 1), .long (lN 0), .long (lN 0), .long (lN 0)])), (qm, .inl (cI, 320, .inl f)), (qs, .inl (cI, 320, .inl g)), (qt, .inr (0, [.ref qw])), (qw, .inl (cJ, 5, .inr (.inl w))), (b, .inr (2, [.int (nI 0), .int (nI (ag_clamp 1 1000 x)), .int (nI (ag_clamp 2 16 y)), .long (lN 0), .long (lN 0), .int (nI 1), .ref qn, .ref qk, .int (nI 1), .long (lN 0), .long (lN 0), .long (lN 0)])), (qn, .inl (cI, 1200, .inl f2)), (qk, .inl (cI, 1200, .inl g2))] H := hP
  have hD : va_D A [(a, .inr (1, [.int (nI (ag_clamp 1 1000 x)), .int (nI (ag_clamp 2 16 y)), .ref qm, .ref qs, .ref qt, .int (nI 1), .long (lN 0), .long (lN 0), .int (nI 1), .long (lN 0), .long (lN 0), .long (lN 0)])), (qm, .inl (cI, 320, .inl f)), (qs, .inl (cI, 320, .inl g)), (qt, .inr (0, [.ref qw])), (qw, .inl (cJ, 5, .inr (.inl w))), (b, .inr (2, [.int (nI 0), .int (nI (ag_clamp 1 1000 x)), .int (nI (ag_clamp 2 16 y)), .long (lN 0), .long (lN 0), .int (nI 1), .ref qn, .ref qk, .int (nI 1), .long (lN 0), .long (lN 0), .long (lN 0)])), (qn, .inl (cI, 1200, .inl f2)), (qk, .inl (cI, 1200, .inl g2))] := hD
  refine W.widen (k := 8) (n := 3070) (by decide) (by decide) ?_
  refine lv_astore_n (lv' := [(2, .ref b), (1, .ref a), (0, .ref b0)]) hx hb d_W_law_35 rfl hl (by decide) rfl (fun ls hl => ?_)
  refine ag_iconst hx hb 1 d_W_law_36 (by decide) ?_
  refine va_newa (atype := .long) (ty := .long) (N' := 1) (a0 := (1, .inr (.inl (fun _ => 0)))) hx hb (ht _ mw_arr__long_) rfl hK hP hD hS hA (fun _ => rfl) (nI_pos (by decide)) (nI_clamp (by decide)) (by decide) (Nat.le_of_ble_eq_true rfl) (Nat.le_of_ble_eq_true rfl) d_W_law_37 (fun qo c9 H hK9 hP hD hS => ?_)
  obtain rfl : cJ = c9 := ag_KuL hK9 1 2 rfl rfl
  clear hK9
  have hP : va_P (dC, dI) agCl [(a, .inr (1, [.int (nI (ag_clamp 1 1000 x)), .int (nI (ag_clamp 2 16 y)), .ref qm, .ref qs, .ref qt, .int (nI 1), .long (lN 0), .long (lN 0), .int (nI 1), .long (lN 0), .long (lN 0), .long (lN 0)])), (qm, .inl (cI, 320, .inl f)), (qs, .inl (cI, 320, .inl g)), (qt, .inr (0, [.ref qw])), (qw, .inl (cJ, 5, .inr (.inl w))), (b, .inr (2, [.int (nI 0), .int (nI (ag_clamp 1 1000 x)), .int (nI (ag_clamp 2 16 y)), .long (lN 0), .long (lN 0), .int (nI 1), .ref qn, .ref qk, .int (nI 1), .long (lN 0), .long (lN 0), .long (lN 0)])), (qn, .inl (cI, 1200, .inl f2)), (qk, .inl (cI, 1200, .inl g2)), (qo, .inl (cJ, 1, .inr (.inl (fun _ => 0))))] H := hP
  have hD : va_D A [(a, .inr (1, [.int (nI (ag_clamp 1 1000 x)), .int (nI (ag_clamp 2 16 y)), .ref qm, .ref qs, .ref qt, .int (nI 1), .long (lN 0), .long (lN 0), .int (nI 1), .long (lN 0), .long (lN 0), .long (lN 0)])), (qm, .inl (cI, 320, .inl f)), (qs, .inl (cI, 320, .inl g)), (qt, .inr (0, [.ref qw])), (qw, .inl (cJ, 5, .inr (.inl w))), (b, .inr (2, [.int (nI 0), .int (nI (ag_clamp 1 1000 x)), .int (nI (ag_clamp 2 16 y)), .long (lN 0), .long (lN 0), .int (nI 1), .ref qn, .ref qk, .int (nI 1), .long (lN 0), .long (lN 0), .long (lN 0)])), (qn, .inl (cI, 1200, .inl f2)), (qk, .inl (cI, 1200, .inl g2)), (qo, .inl (cJ, 1, .inr (.inl (fun _ => 0))))] := hD
  refine W.widen (k := 9) (n := 3071) (by decide) (by decide) ?_
  refine lv_astore_n (lv' := [(3, .ref qo), (2, .ref b), (1, .ref a), (0, .ref b0)]) hx hb d_W_law_39 rfl hl (by decide) rfl (fun ls hl => ?_)
  refine ag_iconst hx hb 2 d_W_law_40 (by decide) ?_
  refine lv_istore (lv' := [(4, .int (nI 2)), (3, .ref qo), (2, .ref b), (1, .ref a), (0, .ref b0)]) hx hb d_W_law_41 hl (by decide) rfl (fun ls hl => ?_)
  have hg := ag_clamp_in (lo := 1) (hi := 1000) x (by decide)
  have hr2 := ag_clamp_in (lo := 2) (hi := 16) y (by decide)
  exact lw_loop l hlx hL C0 A hA hA2 hbA hX0 dC dI a qm qs qt qw b qn qk qo cI cJ (ag_clamp 1 1000 x) (ag_clamp 2 16 y) hK (L + 1) 0 (by omega) (by omega) 0 0 0 1 0 0 0 f g w f2 g2 (fun _ => 0) [(0, 0)] ⟨hg.1, hg.2, hr2.1, hr2.2, by decide, Nat.zero_le _, Nat.le_refl _, by rw [Nat.zero_div]; exact ag_in_new _, hrep, hrpm⟩ H locs (hP.sub [8, 0, 1, 2, 3, 4, 5, 6, 7] rfl) (hD.sub [8, 0, 1, 2, 3, 4, 5, 6, 7] (by decide) rfl) hS ls (lv_sub hl [0, 4, 3, 2, 1] rfl)
