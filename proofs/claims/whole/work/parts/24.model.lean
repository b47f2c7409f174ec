section AgFlt
/-- the marks before place k that stay -/
noncomputable def ag_F (R n : Nat) (ms : ag_M) (k : Nat) : ag_M := (ms.take k).filter (ag_kb R n)
theorem ag_F_le {R n : Nat} {ms : ag_M} {k : Nat} : (ag_F R n ms k).length ≤ k := Nat.le_trans (List.length_filter_le _ _) (by simp; omega)
theorem ag_F_t {R n : Nat} {ms : ag_M} {k : Nat} (hk : k < ms.length) (h : ag_keep R n (ms[k]).1) : ag_F R n ms (k + 1) = ag_F R n ms k ++ [ms[k]] := by
  unfold ag_F
  rw [List.take_succ_eq_append_getElem hk, List.filter_append, List.filter_cons_of_pos (ag_kb_iff.mpr h), List.filter_nil]
theorem ag_F_f {R n : Nat} {ms : ag_M} {k : Nat} (hk : k < ms.length) (h : ¬ ag_keep R n (ms[k]).1) : ag_F R n ms (k + 1) = ag_F R n ms k := by
  unfold ag_F
  rw [List.take_succ_eq_append_getElem hk, List.filter_append, List.filter_cons_of_neg (mt ag_kb_iff.mp h), List.filter_nil, List.append_nil]
theorem ag_F_end {R n : Nat} {ms : ag_M} (hR : 0 < R) : ag_put R n ms = ag_F R n ms ms.length ++ [(n, ag_slot ms)] := by
  unfold ag_put ag_F
  rw [List.filter_append, List.take_of_length_le (Nat.le_refl _), List.filter_cons_of_pos (a := (n, ag_slot ms)) (show ag_kb R n (n, ag_slot ms) = true from ag_kb_iff.mpr (ag_keep_self hR)), List.filter_nil]
theorem ag_rpm_app {F : ag_M} {f g : Nat → Int32} {x : Nat × Nat} (h : ag_rpm F f g) : ag_rpm (F ++ [x]) (upd f F.length (nI x.1)) (upd g F.length (nI x.2)) := fun j hj => by
  by_cases q : j < F.length
  · rw [pk_un (by omega), pk_un (by omega), List.getElem_append_left q]
    exact h j q
  · have e : j = F.length := by simp at hj; omega
    subst e
    rw [pk_us, pk_us]
    simp
end AgFlt

set_option maxHeartbeats 4000000 in
set_option maxRecDepth 100000 in
/-- lay(L0 + 1) -/
theorem c_M_lay (l : Launch) (dC : Nat → ClassId) (dI : Nat → Nat → Nat) (sz : Nat) (b qn qk : Nat) (cI : ClassId) (cd G R en nw mo la go sp : Nat) (f g : Nat → Int32) (ms : ag_M) (L0 : Nat) (hR2 : 2 ≤ R) (hR16 : R ≤ 16) (hmo : mo ≤ 300) (hL : L0 + 1 ≤ 1000000) (hin : ag_in R L0 ms) (hrep : ag_rpm ms f g) : Met l y_M_lay (Cond.code y_M_lay b_M_lay 5 none :: agW) ({ frames := 1, cells := 0, slots := 0, locals := 40 }) (va_Pc [.ref b, .int (nI (L0 + 1))] (ag_at (dC, dI) agCl [(cI, .int)] sz [(b, .inr (2, [.int (nI cd), .int (nI G), .int (nI R), .long (lN en), .long (lN nw), .int (nI ms.length), .ref qn, .ref qk, .int (nI mo), .long (lN la), .long (lN go), .long (lN sp)])), (qn, .inl (cI, 1200, .inl f)), (qk, .inl (cI, 1200, .inl g))])) (va_Qv (fun u : (Nat → Int32) × (Nat → Int32) => ag_rpm (ag_put R (L0 + 1) ms) u.1 u.2) (ag_to (dC, dI) agCl [(cI, .int)] (va_A [(b, .inr (2, [.int (nI cd), .int (nI G), .int (nI R), .long (lN en), .long (lN nw), .int (nI ms.length), .ref qn, .ref qk, .int (nI mo), .long (lN la), .long (lN go), .long (lN sp)])), (qn, .inl (cI, 1200, .inl f)), (qk, .inl (cI, 1200, .inl g))] sz) (fun u : (Nat → Int32) × (Nat → Int32) => [(b, .inr (2, [.int (nI cd), .int (nI G), .int (nI R), .long (lN en), .long (lN nw), .int (nI ((ag_put R (L0 + 1) ms).length)), .ref qn, .ref qk, .int (nI (max mo (ag_put R (L0 + 1) ms).length)), .long (lN (la + 1)), .long (lN (go + (ms.length + 1 - (ag_put R (L0 + 1) ms).length))), .long (lN sp)])), (qn, .inl (cI, 1200, .inl u.1)), (qk, .inl (cI, 1200, .inl u.2))])) (va_A [(b, .inr (2, [.int (nI cd), .int (nI G), .int (nI R), .long (lN en), .long (lN nw), .int (nI ms.length), .ref qn, .ref qk, .int (nI mo), .long (lN la), .long (lN go), .long (lN sp)])), (qn, .inl (cI, 1200, .inl f)), (qk, .inl (cI, 1200, .inl g))] sz)) 0 0 (va_A [(b, .inr (2, [.int (nI cd), .int (nI G), .int (nI R), .long (lN en), .long (lN nw), .int (nI ms.length), .ref qn, .ref qk, .int (nI mo), .long (lN la), .long (lN go), .long (lN sp)])), (qn, .inl (cI, 1200, .inl f)), (qk, .inl (cI, 1200, .inl g))] sz) := by
  refine ag_ofW (Qf := fun A => va_Qv (fun u : (Nat → Int32) × (Nat → Int32) => ag_rpm (ag_put R (L0 + 1) ms) u.1 u.2) (ag_to (dC, dI) agCl [(cI, .int)] A (fun u : (Nat → Int32) × (Nat → Int32) => [(b, .inr (2, [.int (nI cd), .int (nI G), .int (nI R), .long (lN en), .long (lN nw), .int (nI ((ag_put R (L0 + 1) ms).length)), .ref qn, .ref qk, .int (nI (max mo (ag_put R (L0 + 1) ms).length)), .long (lN (la + 1)), .long (lN (go + (ms.length + 1 - (ag_put R (L0 + 1) ms).length))), .long (lN sp)])), (qn, .inl (cI, 1200, .inl u.1)), (qk, .inl (cI, 1200, .inl u.2))])) A) (cc := b_M_lay) (maxL := 5) (ret := none) (lv := [(0, .ref b), (1, .int (nI (L0 + 1)))]) (by decide) rfl (Nat.le_of_ble_eq_true rfl) rfl (fun p e s m below meth c A ls hx hb hr hts hown hlocks hml hnm hA hS hP hK hD hl hsz => ?_)
  have hown : s.vm.findClass "AgedMarksModel" = some m.cls := hown
  have ht : ∀ w ∈ agW, w.before [.ref b, .int (nI (L0 + 1))].toArray s = true := fun w h => hts w (List.mem_cons_of_mem _ h)
  have hlen := ag_il hR2 hR16 (by omega) hin
  have hbd := ag_in_bd hR2 hR16 (by omega) hin
  have hin2 := ag_in_put hR2 hR16 (by omega) hin
  have hlen2 : (ag_put R (L0 + 1) ms).length ≤ 300 := ag_il hR2 hR16 (by omega) hin2
  have hend := ag_F_end (n := L0 + 1) (ms := ms) (show 0 < R by omega)
  have hFl := ag_F_le (R := R) (n := L0 + 1) (ms := ms) (k := ms.length)
  have hpl : (ag_put R (L0 + 1) ms).length = (ag_F R (L0 + 1) ms ms.length).length + 1 := by rw [hend]; simp
  refine lv_aload_n hx hb d_M_lay_0 rfl (lv_at hl 0 rfl) ?_
  have hPc := hP.sub (ws' := [(b, .inr (2, [.int (nI cd), .int (nI G), .int (nI R), .long (lN en), .long (lN nw), .int (nI ms.length), .ref qn, .ref qk, .int (nI mo), .long (lN la), .long (lN go), .long (lN sp)])), (qn, .inl (cI, 1200, .inl f)), (qk, .inl (cI, 1200, .inl g))]) [0, 1, 2] rfl
  have hDc := hD.sub (ws' := [(b, .inr (2, [.int (nI cd), .int (nI G), .int (nI R), .long (lN en), .long (lN nw), .int (nI ms.length), .ref qn, .ref qk, .int (nI mo), .long (lN la), .long (lN go), .long (lN sp)])), (qn, .inl (cI, 1200, .inl f)), (qk, .inl (cI, 1200, .inl g))]) [0, 1, 2] (by decide) rfl
  refine ag_cli (wc := [(b, .inr (2, [.int (nI cd), .int (nI G), .int (nI R), .long (lN en), .long (lN nw), .int (nI ms.length), .ref qn, .ref qk, .int (nI mo), .long (lN la), .long (lN go), .long (lN sp)])), (qn, .inl (cI, 1200, .inl f)), (qk, .inl (cI, 1200, .inl g))]) (wr := []) (Wf := fun _ : Unit => [(b, .inr (2, [.int (nI cd), .int (nI G), .int (nI R), .long (lN en), .long (lN nw), .int (nI ms.length), .ref qn, .ref qk, .int (nI mo), .long (lN la), .long (lN go), .long (lN sp)])), (qn, .inl (cI, 1200, .inl f)), (qk, .inl (cI, 1200, .inl g))]) hP hD hS hA [0, 1, 2] [] rfl rfl (by decide) (by decide) (va_runV (C := "AgedMarksModel") (As := []) (rest := []) ⟨hx, hb, hml, hown, hts⟩ (c_M_freeSlot l dC dI s.heap.size b qn qk cI cd G R en nw mo la go sp f g ms hbd hrep) (ag_cwV 0 hts mw_m_M_34 mw_instanceMethod_M_freeSlot mw_sel_M_freeSlot mw_ini_M mw_code_M_freeSlot rfl rfl (by decide +kernel) ⟨Nat.le_of_ble_eq_true rfl, Nat.le_of_ble_eq_true rfl⟩) ⟨ag_blind, va_recv hK hPc (ci := 2) (q0 := 0) rfl rfl, ag_pre hPc hK hDc⟩ rfl rfl hl.1 rfl (lv_room (Nat.le_of_ble_eq_true rfl)) d_M_lay_1 ⟨Nat.le_of_ble_eq_true rfl, Nat.le_of_ble_eq_true rfl⟩) (fun r1 u H locs hw hP hD hS => ?_)
  try dsimp only at hw
  subst hw
  have hP : va_P (dC, dI) agCl [(b, .inr (2, [.int (nI cd), .int (nI G), .int (nI R), .long (lN en), .long (lN nw), .int (nI ms.length), .ref qn, .ref qk, .int (nI mo), .long (lN la), .long (lN go), .long (lN sp)])), (qn, .inl (cI, 1200, .inl f)), (qk, .inl (cI, 1200, .inl g))] H := hP
  have hD : va_D A [(b, .inr (2, [.int (nI cd), .int (nI G), .int (nI R), .long (lN en), .long (lN nw), .int (nI ms.length), .ref qn, .ref qk, .int (nI mo), .long (lN la), .long (lN go), .long (lN sp)])), (qn, .inl (cI, 1200, .inl f)), (qk, .inl (cI, 1200, .inl g))] := hD
  refine lv_istore_n (lv' := [(2, .int (nI (ag_slot ms))), (0, .ref b), (1, .int (nI (L0 + 1)))]) hx hb d_M_lay_4 rfl hl (by decide) rfl (fun ls hl => ?_)
  refine ag_iconst hx hb 0 d_M_lay_5 (by decide) ?_
  refine lv_istore_n (lv' := [(3, .int (nI 0)), (2, .int (nI (ag_slot ms))), (0, .ref b), (1, .int (nI (L0 + 1)))]) hx hb d_M_lay_6 rfl hl (by decide) rfl (fun ls hl => ?_)
  refine ag_iconst hx hb 0 d_M_lay_7 (by decide) ?_
  refine lv_istore (lv' := [(4, .int (nI 0)), (3, .int (nI 0)), (2, .int (nI (ag_slot ms))), (0, .ref b), (1, .int (nI (L0 + 1)))]) hx hb d_M_lay_8 hl (by decide) rfl (fun ls hl => ?_)
  have loop : ∀ (q k : Nat), ms.length < k + q → k ≤ ms.length → ∀ (f1 g1 : Nat → Int32), ag_rpm (ag_F R (L0 + 1) ms k) f1 g1 → (∀ j (h : j < ms.length), k ≤ j → f1 j = nI (ms[j]).1 ∧ g1 j = nI (ms[j]).2) → ∀ (H : Heap) (locs : List Loc), va_P (dC, dI) agCl [(b, .inr (2, [.int (nI cd), .int (nI G), .int (nI R), .long (lN en), .long (lN nw), .int (nI ms.length), .ref qn, .ref qk, .int (nI mo), .long (lN la), .long (lN go), .long (lN sp)])), (qn, .inl (cI, 1200, .inl f1)), (qk, .inl (cI, 1200, .inl g1))] H → va_D A [(b, .inr (2, [.int (nI cd), .int (nI G), .int (nI R), .long (lN en), .long (lN nw), .int (nI ms.length), .ref qn, .ref qk, .int (nI mo), .long (lN la), .long (lN go), .long (lN sp)])), (qn, .inl (cI, 1200, .inl f1)), (qk, .inl (cI, 1200, .inl g1))] → va_S A s.heap H locs → ∀ ls : Array Slot, lv_has ls 5 [(4, .int (nI k)), (3, .int (nI ((ag_F R (L0 + 1) ms k).length))), (2, .int (nI (ag_slot ms))), (0, .ref b), (1, .int (nI (L0 + 1)))] → W p l e { frames := 1, cells := 0, slots := 0, locals := 40 } s m [.ref b, .int (nI (L0 + 1))].toArray below meth c H locs 0 0 (MQ below (va_Qv (fun u : (Nat → Int32) × (Nat → Int32) => ag_rpm (ag_put R (L0 + 1) ms) u.1 u.2) (ag_to (dC, dI) agCl [(cI, .int)] A (fun u : (Nat → Int32) × (Nat → Int32) => [(b, .inr (2, [.int (nI cd), .int (nI G), .int (nI R), .long (lN en), .long (lN nw), .int (nI ((ag_put R (L0 + 1) ms).length)), .ref qn, .ref qk, .int (nI (max mo (ag_put R (L0 + 1) ms).length)), .long (lN (la + 1)), .long (lN (go + (ms.length + 1 - (ag_put R (L0 + 1) ms).length))), .long (lN sp)])), (qn, .inl (cI, 1200, .inl u.1)), (qk, .inl (cI, 1200, .inl u.2))])) A) [.ref b, .int (nI (L0 + 1))].toArray s 0 0 A) (F0 m 10 ls []) := by
    intro q
    induction q with
    | zero => intro k h1 h2; omega
    | succ q ih =>
      intro k hq hk f1 g1 hA9 hB9 H locs hP hD hS ls hl
      have hFk := ag_F_le (R := R) (n := L0 + 1) (ms := ms) (k := k)
      refine lv_iload hx hb d_M_lay_10 (lv_at hl 0 rfl) ?_
      refine lv_aload_n hx hb d_M_lay_12 rfl (lv_at hl 3 rfl) ?_
      refine va_get (D := (dC, dI)) (ci := 2) (v := .int (nI ms.length)) (C := RX2) (T := TX2) (N := 12) hx hb ht inA2 hown hK hP 0 rfl rfl 5 (by decide) (ht _ mw_f_M_7) (fun _ h9 => h9) rfl d_M_lay_13 ?_
      refine ag_icmp_ge (tgt := 72) hx hb d_M_lay_16 (by decide) (by omega) (by omega) (fun c16 => ?_) (fun c16 => ?_)
      · have h_n := trivial
        have hke : k = ms.length := by omega
        subst hke
        refine lv_aload_n hx hb d_M_lay_72 rfl (lv_at hl 3 rfl) ?_
        refine lv_dup hx hb d_M_lay_73 rfl ?_
        refine va_get (D := (dC, dI)) (ci := 2) (v := .long (lN go)) (C := RX2) (T := TX2) (N := 12) hx hb ht inA2 hown hK hP 0 rfl rfl 10 (by decide) (ht _ mw_f_M_42) (fun _ h9 => h9) rfl d_M_lay_74 ?_
        refine lv_aload_n hx hb d_M_lay_77 rfl (lv_at hl 3 rfl) ?_
        refine va_get (D := (dC, dI)) (ci := 2) (v := .int (nI ms.length)) (C := RX2) (T := TX2) (N := 12) hx hb ht inA2 hown hK hP 0 rfl rfl 5 (by decide) (ht _ mw_f_M_7) (fun _ h9 => h9) rfl d_M_lay_78 ?_
        refine lv_iload_n hx hb d_M_lay_81 rfl (lv_at hl 1 rfl) ?_
        refine lv_isub hx hb d_M_lay_82 ?_
        refine ag_topi (nI (ms.length - ((ag_F R (L0 + 1) ms ms.length).length))) (pk_sub (by omega)) ?_
        refine lv_i2l (v := lN (ms.length - ((ag_F R (L0 + 1) ms ms.length).length))) hx hb d_M_lay_83 (nI_l (by omega)) ?_
        refine lv_ladd hx hb d_M_lay_84 ?_
        refine ag_topl (lN (go + (ms.length - ((ag_F R (L0 + 1) ms ms.length).length)))) (lN_add _ _) ?_
        refine va_put (D := (dC, dI)) (ci := 2) (v := .long (lN (go + (ms.length - ((ag_F R (L0 + 1) ms ms.length).length))))) (ty := .long) (C := RX2) (T := TX2) (N := 12) hx hb ht inA2 tyX2 tyX2_ok nmX2 hown hK hP hD hS 0 rfl rfl 10 (by decide) (ht _ mw_f_M_42) (fun _ h9 => h9) rfl (by decide +kernel) rfl rfl (Nat.le_of_ble_eq_true rfl) d_M_lay_85 (fun H locs hP hD hS => ?_)
        have hP : va_P (dC, dI) agCl [(b, .inr (2, [.int (nI cd), .int (nI G), .int (nI R), .long (lN en), .long (lN nw), .int (nI ms.length), .ref qn, .ref qk, .int (nI mo), .long (lN la), .long (lN (go + (ms.length - ((ag_F R (L0 + 1) ms ms.length).length)))), .long (lN sp)])), (qn, .inl (cI, 1200, .inl f1)), (qk, .inl (cI, 1200, .inl g1))] H := hP
        have hD : va_D A [(b, .inr (2, [.int (nI cd), .int (nI G), .int (nI R), .long (lN en), .long (lN nw), .int (nI ms.length), .ref qn, .ref qk, .int (nI mo), .long (lN la), .long (lN (go + (ms.length - ((ag_F R (L0 + 1) ms ms.length).length)))), .long (lN sp)])), (qn, .inl (cI, 1200, .inl f1)), (qk, .inl (cI, 1200, .inl g1))] := hD
        refine lv_aload_n hx hb d_M_lay_88 rfl (lv_at hl 3 rfl) ?_
        refine va_get (D := (dC, dI)) (ci := 2) (v := .ref qn) (C := RX2) (T := TX2) (N := 12) hx hb ht inA2 hown hK hP 0 rfl rfl 6 (by decide) (ht _ mw_f_M_13) (fun _ h9 => h9) rfl d_M_lay_89 ?_
        refine lv_iload_n hx hb d_M_lay_92 rfl (lv_at hl 1 rfl) ?_
        refine lv_iload_n hx hb d_M_lay_93 rfl (lv_at hl 4 rfl) ?_
        refine ag_iast hx hb hK hP hD hS 1 0 rfl rfl (by omega) (by decide) d_M_lay_94 (fun H locs hP hD hS => ?_)
        have hP : va_P (dC, dI) agCl [(b, .inr (2, [.int (nI cd), .int (nI G), .int (nI R), .long (lN en), .long (lN nw), .int (nI ms.length), .ref qn, .ref qk, .int (nI mo), .long (lN la), .long (lN (go + (ms.length - ((ag_F R (L0 + 1) ms ms.length).length)))), .long (lN sp)])), (qn, .inl (cI, 1200, .inl (upd f1 ((ag_F R (L0 + 1) ms ms.length).length) (nI (L0 + 1))))), (qk, .inl (cI, 1200, .inl g1))] H := hP
        have hD : va_D A [(b, .inr (2, [.int (nI cd), .int (nI G), .int (nI R), .long (lN en), .long (lN nw), .int (nI ms.length), .ref qn, .ref qk, .int (nI mo), .long (lN la), .long (lN (go + (ms.length - ((ag_F R (L0 + 1) ms ms.length).length)))), .long (lN sp)])), (qn, .inl (cI, 1200, .inl (upd f1 ((ag_F R (L0 + 1) ms ms.length).length) (nI (L0 + 1))))), (qk, .inl (cI, 1200, .inl g1))] := hD
        refine lv_aload_n hx hb d_M_lay_95 rfl (lv_at hl 3 rfl) ?_
        refine va_get (D := (dC, dI)) (ci := 2) (v := .ref qk) (C := RX2) (T := TX2) (N := 12) hx hb ht inA2 hown hK hP 0 rfl rfl 7 (by decide) (ht _ mw_f_M_17) (fun _ h9 => h9) rfl d_M_lay_96 ?_
        refine lv_iload_n hx hb d_M_lay_99 rfl (lv_at hl 1 rfl) ?_
        refine lv_iload_n hx hb d_M_lay_100 rfl (lv_at hl 2 rfl) ?_
        refine ag_iast hx hb hK hP hD hS 2 0 rfl rfl (by omega) (by decide) d_M_lay_101 (fun H locs hP hD hS => ?_)
        have hP : va_P (dC, dI) agCl [(b, .inr (2, [.int (nI cd), .int (nI G), .int (nI R), .long (lN en), .long (lN nw), .int (nI ms.length), .ref qn, .ref qk, .int (nI mo), .long (lN la), .long (lN (go + (ms.length - ((ag_F R (L0 + 1) ms ms.length).length)))), .long (lN sp)])), (qn, .inl (cI, 1200, .inl (upd f1 ((ag_F R (L0 + 1) ms ms.length).length) (nI (L0 + 1))))), (qk, .inl (cI, 1200, .inl (upd g1 ((ag_F R (L0 + 1) ms ms.length).length) (nI (ag_slot ms)))))] H := hP
        have hD : va_D A [(b, .inr (2, [.int (nI cd), .int (nI G), .int (nI R), .long (lN en), .long (lN nw), .int (nI ms.length), .ref qn, .ref qk, .int (nI mo), .long (lN la), .long (lN (go + (ms.length - ((ag_F R (L0 + 1) ms ms.length).length)))), .long (lN sp)])), (qn, .inl (cI, 1200, .inl (upd f1 ((ag_F R (L0 + 1) ms ms.length).length) (nI (L0 + 1))))), (qk, .inl (cI, 1200, .inl (upd g1 ((ag_F R (L0 + 1) ms ms.length).length) (nI (ag_slot ms)))))] := hD
        refine lv_aload_n hx hb d_M_lay_102 rfl (lv_at hl 3 rfl) ?_
        refine lv_iload_n hx hb d_M_lay_103 rfl (lv_at hl 1 rfl) ?_
        refine ag_iconst hx hb 1 d_M_lay_104 (by decide) ?_
        refine lv_iadd hx hb d_M_lay_105 ?_
        refine ag_topi (nI (((ag_F R (L0 + 1) ms ms.length).length) + 1)) (nI_add _ _) ?_
        refine va_put (D := (dC, dI)) (ci := 2) (v := .int (nI (((ag_F R (L0 + 1) ms ms.length).length) + 1))) (ty := .int) (C := RX2) (T := TX2) (N := 12) hx hb ht inA2 tyX2 tyX2_ok nmX2 hown hK hP hD hS 0 rfl rfl 5 (by decide) (ht _ mw_f_M_7) (fun _ h9 => h9) rfl (by decide +kernel) rfl rfl (Nat.le_of_ble_eq_true rfl) d_M_lay_106 (fun H locs hP hD hS => ?_)
        have hP : va_P (dC, dI) agCl [(b, .inr (2, [.int (nI cd), .int (nI G), .int (nI R), .long (lN en), .long (lN nw), .int (nI (((ag_F R (L0 + 1) ms ms.length).length) + 1)), .ref qn, .ref qk, .int (nI mo), .long (lN la), .long (lN (go + (ms.length - ((ag_F R (L0 + 1) ms ms.length).length)))), .long (lN sp)])), (qn, .inl (cI, 1200, .inl (upd f1 ((ag_F R (L0 + 1) ms ms.length).length) (nI (L0 + 1))))), (qk, .inl (cI, 1200, .inl (upd g1 ((ag_F R (L0 + 1) ms ms.length).length) (nI (ag_slot ms)))))] H := hP
        have hD : va_D A [(b, .inr (2, [.int (nI cd), .int (nI G), .int (nI R), .long (lN en), .long (lN nw), .int (nI (((ag_F R (L0 + 1) ms ms.length).length) + 1)), .ref qn, .ref qk, .int (nI mo), .long (lN la), .long (lN (go + (ms.length - ((ag_F R (L0 + 1) ms ms.length).length)))), .long (lN sp)])), (qn, .inl (cI, 1200, .inl (upd f1 ((ag_F R (L0 + 1) ms ms.length).length) (nI (L0 + 1))))), (qk, .inl (cI, 1200, .inl (upd g1 ((ag_F R (L0 + 1) ms ms.length).length) (nI (ag_slot ms)))))] := hD
        refine lv_aload_n hx hb d_M_lay_109 rfl (lv_at hl 3 rfl) ?_
        refine lv_dup hx hb d_M_lay_110 rfl ?_
        refine va_get (D := (dC, dI)) (ci := 2) (v := .long (lN la)) (C := RX2) (T := TX2) (N := 12) hx hb ht inA2 hown hK hP 0 rfl rfl 9 (by decide) (ht _ mw_f_M_46) (fun _ h9 => h9) rfl d_M_lay_111 ?_
        refine ag_lconst hx hb 1 d_M_lay_114 (by decide) ?_
        refine lv_ladd hx hb d_M_lay_115 ?_
        refine ag_topl (lN (la + 1)) (lN_add _ _) ?_
        refine va_put (D := (dC, dI)) (ci := 2) (v := .long (lN (la + 1))) (ty := .long) (C := RX2) (T := TX2) (N := 12) hx hb ht inA2 tyX2 tyX2_ok nmX2 hown hK hP hD hS 0 rfl rfl 9 (by decide) (ht _ mw_f_M_46) (fun _ h9 => h9) rfl (by decide +kernel) rfl rfl (Nat.le_of_ble_eq_true rfl) d_M_lay_116 (fun H locs hP hD hS => ?_)
        have hP : va_P (dC, dI) agCl [(b, .inr (2, [.int (nI cd), .int (nI G), .int (nI R), .long (lN en), .long (lN nw), .int (nI (((ag_F R (L0 + 1) ms ms.length).length) + 1)), .ref qn, .ref qk, .int (nI mo), .long (lN (la + 1)), .long (lN (go + (ms.length - ((ag_F R (L0 + 1) ms ms.length).length)))), .long (lN sp)])), (qn, .inl (cI, 1200, .inl (upd f1 ((ag_F R (L0 + 1) ms ms.length).length) (nI (L0 + 1))))), (qk, .inl (cI, 1200, .inl (upd g1 ((ag_F R (L0 + 1) ms ms.length).length) (nI (ag_slot ms)))))] H := hP
        have hD : va_D A [(b, .inr (2, [.int (nI cd), .int (nI G), .int (nI R), .long (lN en), .long (lN nw), .int (nI (((ag_F R (L0 + 1) ms ms.length).length) + 1)), .ref qn, .ref qk, .int (nI mo), .long (lN (la + 1)), .long (lN (go + (ms.length - ((ag_F R (L0 + 1) ms ms.length).length)))), .long (lN sp)])), (qn, .inl (cI, 1200, .inl (upd f1 ((ag_F R (L0 + 1) ms ms.length).length) (nI (L0 + 1))))), (qk, .inl (cI, 1200, .inl (upd g1 ((ag_F R (L0 + 1) ms ms.length).length) (nI (ag_slot ms)))))] := hD
        refine lv_aload_n hx hb d_M_lay_119 rfl (lv_at hl 3 rfl) ?_
        refine lv_aload_n hx hb d_M_lay_120 rfl (lv_at hl 3 rfl) ?_
        refine va_get (D := (dC, dI)) (ci := 2) (v := .int (nI (((ag_F R (L0 + 1) ms ms.length).length) + 1))) (C := RX2) (T := TX2) (N := 12) hx hb ht inA2 hown hK hP 0 rfl rfl 5 (by decide) (ht _ mw_f_M_7) (fun _ h9 => h9) rfl d_M_lay_121 ?_
        refine lv_aload_n hx hb d_M_lay_124 rfl (lv_at hl 3 rfl) ?_
        refine va_get (D := (dC, dI)) (ci := 2) (v := .int (nI mo)) (C := RX2) (T := TX2) (N := 12) hx hb ht inA2 hown hK hP 0 rfl rfl 8 (by decide) (ht _ mw_f_M_20) (fun _ h9 => h9) rfl d_M_lay_125 ?_
        refine ag_icmp_le (tgt := 138) hx hb d_M_lay_128 (by decide) (by omega) (by omega) (fun c128 => ?_) (fun c128 => ?_)
        · have h_n := trivial
          refine lv_aload_n hx hb d_M_lay_138 rfl (lv_at hl 3 rfl) ?_
          refine va_get (D := (dC, dI)) (ci := 2) (v := .int (nI mo)) (C := RX2) (T := TX2) (N := 12) hx hb ht inA2 hown hK hP 0 rfl rfl 8 (by decide) (ht _ mw_f_M_20) (fun _ h9 => h9) rfl d_M_lay_139 ?_
          refine ag_topi (nI (max mo (ag_put R (L0 + 1) ms).length)) (by rw [Nat.max_eq_left (by omega)]) ?_
          refine va_put (D := (dC, dI)) (ci := 2) (v := .int (nI (max mo (ag_put R (L0 + 1) ms).length))) (ty := .int) (C := RX2) (T := TX2) (N := 12) hx hb ht inA2 tyX2 tyX2_ok nmX2 hown hK hP hD hS 0 rfl rfl 8 (by decide) (ht _ mw_f_M_20) (fun _ h9 => h9) rfl (by decide +kernel) rfl rfl (Nat.le_of_ble_eq_true rfl) d_M_lay_142 (fun H locs hP hD hS => ?_)
          have hP : va_P (dC, dI) agCl [(b, .inr (2, [.int (nI cd), .int (nI G), .int (nI R), .long (lN en), .long (lN nw), .int (nI (((ag_F R (L0 + 1) ms ms.length).length) + 1)), .ref qn, .ref qk, .int (nI (max mo (ag_put R (L0 + 1) ms).length)), .long (lN (la + 1)), .long (lN (go + (ms.length - ((ag_F R (L0 + 1) ms ms.length).length)))), .long (lN sp)])), (qn, .inl (cI, 1200, .inl (upd f1 ((ag_F R (L0 + 1) ms ms.length).length) (nI (L0 + 1))))), (qk, .inl (cI, 1200, .inl (upd g1 ((ag_F R (L0 + 1) ms ms.length).length) (nI (ag_slot ms)))))] H := hP
          have hD : va_D A [(b, .inr (2, [.int (nI cd), .int (nI G), .int (nI R), .long (lN en), .long (lN nw), .int (nI (((ag_F R (L0 + 1) ms ms.length).length) + 1)), .ref qn, .ref qk, .int (nI (max mo (ag_put R (L0 + 1) ms).length)), .long (lN (la + 1)), .long (lN (go + (ms.length - ((ag_F R (L0 + 1) ms ms.length).length)))), .long (lN sp)])), (qn, .inl (cI, 1200, .inl (upd f1 ((ag_F R (L0 + 1) ms ms.length).length) (nI (L0 + 1))))), (qk, .inl (cI, 1200, .inl (upd g1 ((ag_F R (L0 + 1) ms ms.length).length) (nI (ag_slot ms)))))] := hD
          have e1 : (ag_F R (L0 + 1) ms ms.length).length + 1 = (ag_put R (L0 + 1) ms).length := hpl.symm
          have e2 : go + (ms.length - (ag_F R (L0 + 1) ms ms.length).length) = go + (ms.length + 1 - (ag_put R (L0 + 1) ms).length) := by omega
          rw [e1, e2] at hP hD
          exact ag_retv hx hb hr hlocks (upd f1 (ag_F R (L0 + 1) ms ms.length).length (nI (L0 + 1)), upd g1 (ag_F R (L0 + 1) ms ms.length).length (nI (ag_slot ms))) (by rw [hend]; exact ag_rpm_app (x := (L0 + 1, ag_slot ms)) hA9) hP hK hD hS d_M_lay_145
        · have h_n := trivial
          refine lv_aload_n hx hb d_M_lay_131 rfl (lv_at hl 3 rfl) ?_
          refine va_get (D := (dC, dI)) (ci := 2) (v := .int (nI (((ag_F R (L0 + 1) ms ms.length).length) + 1))) (C := RX2) (T := TX2) (N := 12) hx hb ht inA2 hown hK hP 0 rfl rfl 5 (by decide) (ht _ mw_f_M_7) (fun _ h9 => h9) rfl d_M_lay_132 ?_
          refine lv_goto (tgt := 142) hx hb d_M_lay_135 (by decide) ?_
          refine ag_topi (nI (max mo (ag_put R (L0 + 1) ms).length)) (by rw [Nat.max_eq_right (by omega), hpl]) ?_
          refine va_put (D := (dC, dI)) (ci := 2) (v := .int (nI (max mo (ag_put R (L0 + 1) ms).length))) (ty := .int) (C := RX2) (T := TX2) (N := 12) hx hb ht inA2 tyX2 tyX2_ok nmX2 hown hK hP hD hS 0 rfl rfl 8 (by decide) (ht _ mw_f_M_20) (fun _ h9 => h9) rfl (by decide +kernel) rfl rfl (Nat.le_of_ble_eq_true rfl) d_M_lay_142 (fun H locs hP hD hS => ?_)
          have hP : va_P (dC, dI) agCl [(b, .inr (2, [.int (nI cd), .int (nI G), .int (nI R), .long (lN en), .long (lN nw), .int (nI (((ag_F R (L0 + 1) ms ms.length).length) + 1)), .ref qn, .ref qk, .int (nI (max mo (ag_put R (L0 + 1) ms).length)), .long (lN (la + 1)), .long (lN (go + (ms.length - ((ag_F R (L0 + 1) ms ms.length).length)))), .long (lN sp)])), (qn, .inl (cI, 1200, .inl (upd f1 ((ag_F R (L0 + 1) ms ms.length).length) (nI (L0 + 1))))), (qk, .inl (cI, 1200, .inl (upd g1 ((ag_F R (L0 + 1) ms ms.length).length) (nI (ag_slot ms)))))] H := hP
          have hD : va_D A [(b, .inr (2, [.int (nI cd), .int (nI G), .int (nI R), .long (lN en), .long (lN nw), .int (nI (((ag_F R (L0 + 1) ms ms.length).length) + 1)), .ref qn, .ref qk, .int (nI (max mo (ag_put R (L0 + 1) ms).length)), .long (lN (la + 1)), .long (lN (go + (ms.length - ((ag_F R (L0 + 1) ms ms.length).length)))), .long (lN sp)])), (qn, .inl (cI, 1200, .inl (upd f1 ((ag_F R (L0 + 1) ms ms.length).length) (nI (L0 + 1))))), (qk, .inl (cI, 1200, .inl (upd g1 ((ag_F R (L0 + 1) ms ms.length).length) (nI (ag_slot ms)))))] := hD
          have e1 : (ag_F R (L0 + 1) ms ms.length).length + 1 = (ag_put R (L0 + 1) ms).length := hpl.symm
          have e2 : go + (ms.length - (ag_F R (L0 + 1) ms ms.length).length) = go + (ms.length + 1 - (ag_put R (L0 + 1) ms).length) := by omega
          rw [e1, e2] at hP hD
          exact ag_retv hx hb hr hlocks (upd f1 (ag_F R (L0 + 1) ms ms.length).length (nI (L0 + 1)), upd g1 (ag_F R (L0 + 1) ms ms.length).length (nI (ag_slot ms))) (by rw [hend]; exact ag_rpm_app (x := (L0 + 1, ag_slot ms)) hA9) hP hK hD hS d_M_lay_145
      · have h_n := trivial
        have hbk := hbd.2 _ (List.getElem_mem c16)
        have hkL := (hin.1.2.1 _ (List.getElem_mem c16)).1
        refine lv_aload_n hx hb d_M_lay_19 rfl (lv_at hl 3 rfl) ?_
        refine lv_aload_n hx hb d_M_lay_20 rfl (lv_at hl 3 rfl) ?_
        refine va_get (D := (dC, dI)) (ci := 2) (v := .ref qn) (C := RX2) (T := TX2) (N := 12) hx hb ht inA2 hown hK hP 0 rfl rfl 6 (by decide) (ht _ mw_f_M_13) (fun _ h9 => h9) rfl d_M_lay_21 ?_
        refine lv_iload hx hb d_M_lay_24 (lv_at hl 0 rfl) ?_
        refine ag_iald hx hb hK hP 1 0 rfl rfl (by omega) (by decide) d_M_lay_26 ?_
        refine ag_topi (nI ((ms[k]).1)) ((hB9 k c16 (Nat.le_refl _)).1) ?_
        refine lv_iload_n hx hb d_M_lay_27 rfl (lv_at hl 4 rfl) ?_
        have hPc := hP.sub (ws' := [(b, .inr (2, [.int (nI cd), .int (nI G), .int (nI R), .long (lN en), .long (lN nw), .int (nI ms.length), .ref qn, .ref qk, .int (nI mo), .long (lN la), .long (lN go), .long (lN sp)])), (qn, .inl (cI, 1200, .inl f1)), (qk, .inl (cI, 1200, .inl g1))]) [0, 1, 2] rfl
        have hDc := hD.sub (ws' := [(b, .inr (2, [.int (nI cd), .int (nI G), .int (nI R), .long (lN en), .long (lN nw), .int (nI ms.length), .ref qn, .ref qk, .int (nI mo), .long (lN la), .long (lN go), .long (lN sp)])), (qn, .inl (cI, 1200, .inl f1)), (qk, .inl (cI, 1200, .inl g1))]) [0, 1, 2] (by decide) rfl
        refine ag_cli (wc := [(b, .inr (2, [.int (nI cd), .int (nI G), .int (nI R), .long (lN en), .long (lN nw), .int (nI ms.length), .ref qn, .ref qk, .int (nI mo), .long (lN la), .long (lN go), .long (lN sp)])), (qn, .inl (cI, 1200, .inl f1)), (qk, .inl (cI, 1200, .inl g1))]) (wr := []) (Wf := fun _ : Unit => [(b, .inr (2, [.int (nI cd), .int (nI G), .int (nI R), .long (lN en), .long (lN nw), .int (nI ms.length), .ref qn, .ref qk, .int (nI mo), .long (lN la), .long (lN go), .long (lN sp)])), (qn, .inl (cI, 1200, .inl f1)), (qk, .inl (cI, 1200, .inl g1))]) hP hD hS hA [0, 1, 2] [] rfl rfl (by decide) (by decide) (va_runV (C := "AgedMarksModel") (As := [.int (nI ((ms[k]).1)), .int (nI (L0 + 1))]) (rest := []) ⟨hx, hb, hml, hown, hts⟩ (c_M_stays l dC dI H.size b qn qk cI cd G R en nw mo la go sp f1 g1 ms (ms[k]).1 (L0 + 1) hR2 hR16 (by omega) hL) (ag_cwV 2 hts mw_m_M_38 mw_instanceMethod_M_stays mw_sel_M_stays mw_ini_M mw_code_M_stays rfl rfl (by decide +kernel) ⟨Nat.le_of_ble_eq_true rfl, Nat.le_of_ble_eq_true rfl⟩) ⟨ag_blind, va_recv hK hPc (ci := 2) (q0 := 0) rfl rfl, ag_pre hPc hK hDc⟩ rfl rfl hl.1 rfl (lv_room (Nat.le_of_ble_eq_true rfl)) d_M_lay_28 ⟨Nat.le_of_ble_eq_true rfl, Nat.le_of_ble_eq_true rfl⟩) (fun r2 u H locs hw hP hD hS => ?_)
        try dsimp only at hw
        have hP : va_P (dC, dI) agCl [(b, .inr (2, [.int (nI cd), .int (nI G), .int (nI R), .long (lN en), .long (lN nw), .int (nI ms.length), .ref qn, .ref qk, .int (nI mo), .long (lN la), .long (lN go), .long (lN sp)])), (qn, .inl (cI, 1200, .inl f1)), (qk, .inl (cI, 1200, .inl g1))] H := hP
        have hD : va_D A [(b, .inr (2, [.int (nI cd), .int (nI G), .int (nI R), .long (lN en), .long (lN nw), .int (nI ms.length), .ref qn, .ref qk, .int (nI mo), .long (lN la), .long (lN go), .long (lN sp)])), (qn, .inl (cI, 1200, .inl f1)), (qk, .inl (cI, 1200, .inl g1))] := hD
        rcases hw with ⟨hkp, rfl⟩ | ⟨hkp, rfl⟩
        · have h_n := trivial
          refine lv_if_ne (tgt := 37) hx hb d_M_lay_31 (by decide) (fun c31 => ?_) (fun c31 => ?_)
          · have h_n := trivial
            refine lv_aload_n hx hb d_M_lay_37 rfl (lv_at hl 3 rfl) ?_
            refine va_get (D := (dC, dI)) (ci := 2) (v := .ref qn) (C := RX2) (T := TX2) (N := 12) hx hb ht inA2 hown hK hP 0 rfl rfl 6 (by decide) (ht _ mw_f_M_13) (fun _ h9 => h9) rfl d_M_lay_38 ?_
            refine lv_iload_n hx hb d_M_lay_41 rfl (lv_at hl 1 rfl) ?_
            refine lv_aload_n hx hb d_M_lay_42 rfl (lv_at hl 3 rfl) ?_
            refine va_get (D := (dC, dI)) (ci := 2) (v := .ref qn) (C := RX2) (T := TX2) (N := 12) hx hb ht inA2 hown hK hP 0 rfl rfl 6 (by decide) (ht _ mw_f_M_13) (fun _ h9 => h9) rfl d_M_lay_43 ?_
            refine lv_iload hx hb d_M_lay_46 (lv_at hl 0 rfl) ?_
            refine ag_iald hx hb hK hP 1 0 rfl rfl (by omega) (by decide) d_M_lay_48 ?_
            refine ag_topi (nI ((ms[k]).1)) ((hB9 k c16 (Nat.le_refl _)).1) ?_
            refine ag_iast hx hb hK hP hD hS 1 0 rfl rfl (by omega) (by decide) d_M_lay_49 (fun H locs hP hD hS => ?_)
            have hP : va_P (dC, dI) agCl [(b, .inr (2, [.int (nI cd), .int (nI G), .int (nI R), .long (lN en), .long (lN nw), .int (nI ms.length), .ref qn, .ref qk, .int (nI mo), .long (lN la), .long (lN go), .long (lN sp)])), (qn, .inl (cI, 1200, .inl (upd f1 ((ag_F R (L0 + 1) ms k).length) (nI ((ms[k]).1))))), (qk, .inl (cI, 1200, .inl g1))] H := hP
            have hD : va_D A [(b, .inr (2, [.int (nI cd), .int (nI G), .int (nI R), .long (lN en), .long (lN nw), .int (nI ms.length), .ref qn, .ref qk, .int (nI mo), .long (lN la), .long (lN go), .long (lN sp)])), (qn, .inl (cI, 1200, .inl (upd f1 ((ag_F R (L0 + 1) ms k).length) (nI ((ms[k]).1))))), (qk, .inl (cI, 1200, .inl g1))] := hD
            refine lv_aload_n hx hb d_M_lay_50 rfl (lv_at hl 3 rfl) ?_
            refine va_get (D := (dC, dI)) (ci := 2) (v := .ref qk) (C := RX2) (T := TX2) (N := 12) hx hb ht inA2 hown hK hP 0 rfl rfl 7 (by decide) (ht _ mw_f_M_17) (fun _ h9 => h9) rfl d_M_lay_51 ?_
            refine lv_iload_n hx hb d_M_lay_54 rfl (lv_at hl 1 rfl) ?_
            refine lv_aload_n hx hb d_M_lay_55 rfl (lv_at hl 3 rfl) ?_
            refine va_get (D := (dC, dI)) (ci := 2) (v := .ref qk) (C := RX2) (T := TX2) (N := 12) hx hb ht inA2 hown hK hP 0 rfl rfl 7 (by decide) (ht _ mw_f_M_17) (fun _ h9 => h9) rfl d_M_lay_56 ?_
            refine lv_iload hx hb d_M_lay_59 (lv_at hl 0 rfl) ?_
            refine ag_iald hx hb hK hP 2 0 rfl rfl (by omega) (by decide) d_M_lay_61 ?_
            refine ag_topi (nI ((ms[k]).2)) ((hB9 k c16 (Nat.le_refl _)).2) ?_
            refine ag_iast hx hb hK hP hD hS 2 0 rfl rfl (by omega) (by decide) d_M_lay_62 (fun H locs hP hD hS => ?_)
            have hP : va_P (dC, dI) agCl [(b, .inr (2, [.int (nI cd), .int (nI G), .int (nI R), .long (lN en), .long (lN nw), .int (nI ms.length), .ref qn, .ref qk, .int (nI mo), .long (lN la), .long (lN go), .long (lN sp)])), (qn, .inl (cI, 1200, .inl (upd f1 ((ag_F R (L0 + 1) ms k).length) (nI ((ms[k]).1))))), (qk, .inl (cI, 1200, .inl (upd g1 ((ag_F R (L0 + 1) ms k).length) (nI ((ms[k]).2)))))] H := hP
            have hD : va_D A [(b, .inr (2, [.int (nI cd), .int (nI G), .int (nI R), .long (lN en), .long (lN nw), .int (nI ms.length), .ref qn, .ref qk, .int (nI mo), .long (lN la), .long (lN go), .long (lN sp)])), (qn, .inl (cI, 1200, .inl (upd f1 ((ag_F R (L0 + 1) ms k).length) (nI ((ms[k]).1))))), (qk, .inl (cI, 1200, .inl (upd g1 ((ag_F R (L0 + 1) ms k).length) (nI ((ms[k]).2)))))] := hD
            refine lv_iinc (v := nI ((ag_F R (L0 + 1) ms k).length + 1)) (lv' := [(3, .int (nI ((ag_F R (L0 + 1) ms k).length + 1))), (4, .int (nI k)), (2, .int (nI (ag_slot ms))), (0, .ref b), (1, .int (nI (L0 + 1)))]) hx hb d_M_lay_63 hl (k := 1) rfl (nI_1 _) (by decide) rfl (fun ls hl => ?_)
            refine lv_iinc (v := nI (k + 1)) (lv' := [(4, .int (nI (k + 1))), (3, .int (nI ((ag_F R (L0 + 1) ms k).length + 1))), (2, .int (nI (ag_slot ms))), (0, .ref b), (1, .int (nI (L0 + 1)))]) hx hb d_M_lay_66 hl (k := 1) rfl (nI_1 _) (by decide) rfl (fun ls hl => ?_)
            refine lv_goto (tgt := 10) hx hb d_M_lay_69 (by decide) ?_
            have hF1 := ag_F_t c16 hkp
            refine ih (k + 1) (by omega) (by omega) _ _ (by rw [hF1]; exact ag_rpm_app (x := ms[k]) hA9) (fun j hj h => ?_) H locs hP hD hS ls (by rw [hF1, List.length_append]; exact lv_sub hl [0, 1, 2, 3, 4] rfl)
            rw [pk_un (by omega), pk_un (by omega)]
            exact hB9 j hj (by omega)
          · have h_n := trivial
            exact absurd c31 (by decide)
        · have h_n := trivial
          refine lv_if_ne (tgt := 37) hx hb d_M_lay_31 (by decide) (fun c31 => ?_) (fun c31 => ?_)
          · have h_n := trivial
            exact absurd (by decide) c31
          · have h_n := trivial
            refine lv_goto (tgt := 66) hx hb d_M_lay_34 (by decide) ?_
            refine lv_iinc (v := nI (k + 1)) (lv' := [(4, .int (nI (k + 1))), (3, .int (nI ((ag_F R (L0 + 1) ms k).length))), (2, .int (nI (ag_slot ms))), (0, .ref b), (1, .int (nI (L0 + 1)))]) hx hb d_M_lay_66 hl (k := 0) rfl (nI_1 _) (by decide) rfl (fun ls hl => ?_)
            refine lv_goto (tgt := 10) hx hb d_M_lay_69 (by decide) ?_
            have hF1 := ag_F_f c16 hkp
            exact ih (k + 1) (by omega) (by omega) f1 g1 (by rw [hF1]; exact hA9) (fun j hj h => hB9 j hj (by omega)) H locs hP hD hS ls (by rw [hF1]; exact lv_sub hl [0, 1, 2, 3, 4] rfl)
  exact loop (ms.length + 1) 0 (by omega) (by omega) f g (fun j hj => absurd hj (by simp [ag_F])) (fun j hj _ => hrep j hj) H locs hP hD hS ls (by rw [show (ag_F R (L0 + 1) ms 0).length = 0 from by simp [ag_F]]; exact hl)
