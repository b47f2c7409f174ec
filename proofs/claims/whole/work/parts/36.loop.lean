set_option maxHeartbeats 4000000 in
set_option maxRecDepth 100000 in
/-- THE LOOP -/
theorem lw_loop {p : Program} {e : Env} {s : State} {m : MethodId} {below : List Frame} {meth : Method} {c : Code} (l : Launch) {b0 L : Nat} {xs : Nat → Int32} (hlx : l.stackTraces = false) (hL : L ≤ 1538) (C0 : lw_At p s m meth c b0 L xs) (A : Nat → Prop) (hA : ∀ q : Nat, s.heap.size ≤ q → A q) (hA2 : ∀ q : Nat, A q → s.heap.size ≤ q) (hbA : ¬ A b0) (hX0 : ag_x A s s.heap) (dC : Nat → ClassId) (dI : Nat → Nat → Nat) (a qm qs qt qw b qn qk qo : Nat) (cI cJ : ClassId) (G R : Nat) (hK : va_K (dC, dI) agCl [(cI, .int), (cJ, .long)] s) : ∀ (n j : Nat), L < j + n → 3 * j ≤ L → ∀ (cd nw en mo la go sp : Nat) (f g : Nat → Int32) (w : Nat → Int64) (f2 g2 : Nat → Int32) (o : Nat → Int64) (ms : ag_M), lw_inv G R nw en mo ms f g w f2 g2 → ∀ (H : Heap) (locs : List Loc), va_P (dC, dI) agCl [(qo, .inl (cJ, 1, .inr (.inl o))), (a, .inr (1, [.int (nI G), .int (nI R), .ref qm, .ref qs, .ref qt, .int (nI ms.length), .long (lN nw), .long (lN en), .int (nI mo), .long (lN la), .long (lN go), .long (lN sp)])), (qm, .inl (cI, 320, .inl f)), (qs, .inl (cI, 320, .inl g)), (qt, .inr (0, [.ref qw])), (qw, .inl (cJ, 5, .inr (.inl w))), (b, .inr (2, [.int (nI cd), .int (nI G), .int (nI R), .long (lN en), .long (lN nw), .int (nI ms.length), .ref qn, .ref qk, .int (nI mo), .long (lN la), .long (lN go), .long (lN sp)])), (qn, .inl (cI, 1200, .inl f2)), (qk, .inl (cI, 1200, .inl g2))] H → va_D A [(qo, .inl (cJ, 1, .inr (.inl o))), (a, .inr (1, [.int (nI G), .int (nI R), .ref qm, .ref qs, .ref qt, .int (nI ms.length), .long (lN nw), .long (lN en), .int (nI mo), .long (lN la), .long (lN go), .long (lN sp)])), (qm, .inl (cI, 320, .inl f)), (qs, .inl (cI, 320, .inl g)), (qt, .inr (0, [.ref qw])), (qw, .inl (cJ, 5, .inr (.inl w))), (b, .inr (2, [.int (nI cd), .int (nI G), .int (nI R), .long (lN en), .long (lN nw), .int (nI ms.length), .ref qn, .ref qk, .int (nI mo), .long (lN la), .long (lN go), .long (lN sp)])), (qn, .inl (cI, 1200, .inl f2)), (qk, .inl (cI, 1200, .inl g2))] → va_S A s.heap H locs → ∀ ls : Array Slot, lv_has ls 8 [(4, .int (nI (3 * j + 2))), (0, .ref b0), (1, .ref a), (2, .ref b), (3, .ref qo)] →
    W p l e room_1 s m #[Value.ref b0] below meth c H locs (9 + j) (3071 + 6 * j) (lw_Z below #[Value.ref b0] s) (F0 m 43 ls []) := by
  obtain ⟨hx, hb, hr, hml, hown, htt, hXs, hbl, hlocks, hgv⟩ := id C0
  have hb : c.code = b_W_law := hb
  intro n
  induction n with
  | zero => intro j h1 h2; omega
  | succ n ih =>
    intro j hn hjb cd nw en mo la go sp f g w f2 g2 o ms hI H locs hP hD hS ls hl
    have kk : 3 * j + 5 ≤ L → lw_K p l e s m below meth c b0 A dC dI a qm qs qt qw b qn qk qo cI cJ G R j := by
      intro hj5 cd nw en mo la go sp f g w f2 g2 o ms hI H locs hP hD hS ls hl
      refine lv_iinc (v := nI (3 * j + 2 + 3)) (lv' := [(4, .int (nI (3 * j + 2 + 3))), (0, .ref b0), (1, .ref a), (2, .ref b), (3, .ref qo)]) hx hb d_W_law_479 hl (k := 0) rfl (nI_add _ 3) (by decide) rfl (fun ls hl => ?_)
      refine lv_goto (tgt := 43) hx hb d_W_law_482 (by decide) ?_
      exact ih (j + 1) (by omega) (by omega) cd nw en mo la go sp f g w f2 g2 o ms hI H locs hP hD hS ls (by rw [show 3 * (j + 1) + 2 = 3 * j + 2 + 3 by omega]; exact lv_sub hl [0, 1, 2, 3, 4] rfl)
    by_cases h3 : 3 ≤ L
    · have h_n := trivial
      refine lv_iload hx hb d_W_law_43 (lv_at hl 0 rfl) ?_
      refine lv_aload_n hx hb d_W_law_45 rfl (lv_at hl 1 rfl) ?_
      refine ag_slen hx hb hXs hbl hbA hS d_W_law_46 ?_
      refine ag_iconst hx hb 3 d_W_law_47 (by decide) ?_
      refine lv_isub hx hb d_W_law_48 ?_
      refine ag_topi (nI (L - 3)) (pk_sub (by omega)) ?_
      refine ag_icmp_gt (tgt := 485) hx hb d_W_law_49 (by decide) (by omega) (by omega) (fun c49 => ?_) (fun c49 => ?_)
      · have h_n := trivial
        refine lv_iconst (v := 1) hx hb d_W_law_485 (by decide) ?_
        refine va_forget (fun q hq => hA2 _ (hS.2.2 q hq)) ?_
        refine W.widen (k := 1039) (n := 11299) (by omega) (by omega) ?_
        exact lw_ret hx hb hr hlocks d_W_law_486
      · have h_n := trivial
        refine lv_aload_n hx hb d_W_law_52 rfl (lv_at hl 1 rfl) ?_
        refine lv_iload hx hb d_W_law_53 (lv_at hl 0 rfl) ?_
        refine ag_sld hx hb hXs hbl hbA hS (i := 3 * j + 2) (by omega) (by omega) d_W_law_55 ?_
        refine ag_bipush hx hb 7 d_W_law_56 (by decide) ?_
        refine lv_iand hx hb d_W_law_58 ?_
        obtain ⟨k, hk, hke⟩ := pk_andE (xs (3 * j + 2)) (m := nI 7) 3 (by decide)
        refine ag_topi (nI k) hke ?_
        clear hke
        rcases (show k = 0 ∨ k = 1 ∨ k = 2 ∨ k = 3 ∨ k = 4 ∨ k = 5 ∨ k = 6 ∨ k = 7 by omega) with rfl | rfl | rfl | rfl | rfl | rfl | rfl | rfl
        · have h_n := trivial
          refine lv_tableIn (off := 45) (tgt := 104) hx hb d_W_law_59 (by decide) (by decide) (by decide) (by decide) ?_
          exact lw_c0 l hlx hL C0 A hA hbA hX0 dC dI a qm qs qt qw b qn qk qo cI cJ G R hK j (by omega) (kk (by omega)) cd nw en mo la go sp f g w f2 g2 o ms hI H locs hP hD hS ls (lv_sub hl [0, 1, 2, 3, 4] rfl)
        · have h_n := trivial
          refine lv_tableIn (off := 101) (tgt := 160) hx hb d_W_law_59 (by decide) (by decide) (by decide) (by decide) ?_
          exact lw_c1 l hlx hL C0 A hA hbA hX0 dC dI a qm qs qt qw b qn qk qo cI cJ G R hK j (by omega) (kk (by omega)) cd nw en mo la go sp f g w f2 g2 o ms hI H locs hP hD hS ls (lv_sub hl [0, 1, 2, 3, 4] rfl)
        · have h_n := trivial
          refine lv_tableIn (off := 188) (tgt := 247) hx hb d_W_law_59 (by decide) (by decide) (by decide) (by decide) ?_
          exact lw_c2 l hlx hL C0 A hA hbA hX0 dC dI a qm qs qt qw b qn qk qo cI cJ G R hK j (by omega) (kk (by omega)) cd nw en mo la go sp f g w f2 g2 o ms hI H locs hP hD hS ls (lv_sub hl [0, 1, 2, 3, 4] rfl)
        · have h_n := trivial
          refine lv_tableIn (off := 275) (tgt := 334) hx hb d_W_law_59 (by decide) (by decide) (by decide) (by decide) ?_
          exact lw_c3 l hlx hL C0 A hA hbA hX0 dC dI a qm qs qt qw b qn qk qo cI cJ G R hK j (by omega) (kk (by omega)) cd nw en mo la go sp f g w f2 g2 o ms hI H locs hP hD hS ls (lv_sub hl [0, 1, 2, 3, 4] rfl)
        · have h_n := trivial
          refine lv_tableIn (off := 288) (tgt := 347) hx hb d_W_law_59 (by decide) (by decide) (by decide) (by decide) ?_
          exact lw_c4 l hlx hL C0 A hA hbA hX0 dC dI a qm qs qt qw b qn qk qo cI cJ G R hK j (by omega) (kk (by omega)) cd nw en mo la go sp f g w f2 g2 o ms hI H locs hP hD hS ls (lv_sub hl [0, 1, 2, 3, 4] rfl)
        · have h_n := trivial
          refine lv_tableIn (off := 355) (tgt := 414) hx hb d_W_law_59 (by decide) (by decide) (by decide) (by decide) ?_
          exact lw_c5 l hlx hL C0 A hA hbA hX0 dC dI a qm qs qt qw b qn qk qo cI cJ G R hK j (by omega) (kk (by omega)) cd nw en mo la go sp f g w f2 g2 o ms hI H locs hP hD hS ls (lv_sub hl [0, 1, 2, 3, 4] rfl)
        · have h_n := trivial
          refine lv_tableIn (off := 380) (tgt := 439) hx hb d_W_law_59 (by decide) (by decide) (by decide) (by decide) ?_
          exact lw_c6 l hlx hL C0 A hA hbA hX0 dC dI a qm qs qt qw b qn qk qo cI cJ G R hK j (by omega) (kk (by omega)) cd nw en mo la go sp f g w f2 g2 o ms hI H locs hP hD hS ls (lv_sub hl [0, 1, 2, 3, 4] rfl)
        · have h_n := trivial
          refine lv_tableIn (off := 394) (tgt := 453) hx hb d_W_law_59 (by decide) (by decide) (by decide) (by decide) ?_
          exact lw_c7 l hlx hL C0 A hA hbA hX0 dC dI a qm qs qt qw b qn qk qo cI cJ G R hK j (by omega) (kk (by omega)) cd nw en mo la go sp f g w f2 g2 o ms hI H locs hP hD hS ls (lv_sub hl [0, 1, 2, 3, 4] rfl)
    · have h_n := trivial
      refine lv_iload hx hb d_W_law_43 (lv_at hl 0 rfl) ?_
      refine lv_aload_n hx hb d_W_law_45 rfl (lv_at hl 1 rfl) ?_
      refine ag_slen hx hb hXs hbl hbA hS d_W_law_46 ?_
      refine ag_iconst hx hb 3 d_W_law_47 (by decide) ?_
      refine lv_isub hx hb d_W_law_48 ?_
      refine lv_icmp_gt (tgt := 485) hx hb d_W_law_49 (by decide) (fun c49 => ?_) (fun c49 => ?_)
      · have h_n := trivial
        refine lv_iconst (v := 1) hx hb d_W_law_485 (by decide) ?_
        refine va_forget (fun q hq => hA2 _ (hS.2.2 q hq)) ?_
        refine W.widen (k := 1039) (n := 11299) (by omega) (by omega) ?_
        exact lw_ret hx hb hr hlocks d_W_law_486
      · have h_n := trivial
        exfalso
        have hj0 : j = 0 := by omega
        subst hj0
        rcases (show L = 0 ∨ L = 1 ∨ L = 2 by omega) with rfl | rfl | rfl
        · exact c49 (by decide)
        · exact c49 (by decide)
        · exact c49 (by decide)
