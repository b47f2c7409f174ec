def R_law : String := "AgedMarksLaw"
def lw_P (b : Addr) (xs : List Int32) (args : Array Value) (s : State) : Prop := args = #[.ref b] ∧ s.IntsAt b xs ∧ xs.length ≤ 1538 ∧ (Jvm.Cond.and given_1 narrow_1).before args s = true
def lw_Q (_ : Array Value) (s : State) (o : Outcome) (t : State) : Prop := o = .returned (some (.int 1)) ∧ Framed s o t [] 1039 11299
def lw_Z (below : List Frame) (a : Array Value) (s : State) : State → Prop := fun t => ∃ o, t.status = .running ∧ Ended t below o ∧ lw_Q a s o t
/-- the law's own end, with 1 on the stack, nothing written that was there before, its room as the claim has it -/
theorem lw_ret {p : Program} {l : Launch} {e : Env} {s : State} {m : MethodId} {below : List Frame} {meth : Method} {c : Code} {b : Nat} (hx : p.tables.exec = Jvm.exec) (hb : c.code = code) (hr : meth.sig.returnType = ret) (hlocks : meth.locks = false) {pc : Nat} {H : Heap} {ls : Array Slot} (hdg : decode code pc = .ok (.ireturn, 1)) : W p l e room_1 s m #[Value.ref b] below meth c H [] 1039 11299 (lw_Z below #[Value.ref b] s) (F0 m pc ls [.int 1]) := by
  intro T hT X
  obtain ⟨fs, hret, hrun, hended, hW, hframe⟩ := X.leave (v := some (.int 1)) (hlocks := hlocks) (fun h => by rw [hr] at h; cases h)
  have hmeth' : T.vm.method? m = some meth := X.method'
  refine ⟨T.setFrames fs, ?_, .returned (some (.int 1)), hrun, hended, rfl, ⟨_, rfl⟩, hW, hframe⟩
  jvm_step X.here [X.here.top, hx, hb, hdg, hmeth', hr, ret, narrow_b1]
  (try refine ⟨rfl, ?_⟩); (try refine ⟨rfl, ?_⟩)
  first | (intro acts; rw [hret _ acts rfl rfl rfl]) | rw [hret _ _ rfl rfl rfl]
  exact Steps.refl _
/-- what holds at the law's entry: the machine, the code, the tables' words (any of lw_tbl by 'hts w (by decide +kernel)'), the script of L ints xs at the cell b, what the Statement gives of the start (any of its parts by flat_of_before) -/
def lw_At (p : Program) (s : State) (m : MethodId) (meth : Method) (c : Code) (b L : Nat) (xs : Nat → Int32) : Prop :=
  p.tables.exec = Jvm.exec ∧ c.code = code ∧ meth.sig.returnType = ret ∧ c.maxLocals = 8 ∧ s.vm.findClass R_law = some m.cls ∧ (∀ w ∈ lw_tbl, w.before #[Value.ref b] s = true) ∧ va_X b L xs s s.heap ∧ b < s.heap.size ∧ meth.locks = false ∧ (Jvm.Cond.and given_1 narrow_1).before #[Value.ref b] s = true

section AgLaw
/-- what holds between two calls of the law -/
def lw_inv (G R nw en mo : Nat) (ms : ag_M) (f g : Nat → Int32) (w : Nat → Int64) (f2 g2 : Nat → Int32) : Prop := 1 ≤ G ∧ G ≤ 1000 ∧ 2 ≤ R ∧ R ≤ 16 ∧ mo ≤ 300 ∧ en ≤ 1000000 * G ∧ nw ≤ en ∧ ag_in R (en / G) ms ∧ ag_rep ms f g w ∧ ag_rpm ms f2 g2
theorem ag_in_cut {R G nw en : Nat} {ms : ag_M} (hG : 1 ≤ G) (h : ag_in R (en / G) ms) (hn : nw ≤ en) : ag_in R (nw / G) (ag_cutm G nw ms) := by
  have e : ag_cutm G nw ms = ms.filter (fun x => decide (x.1 ≤ nw / G)) := by
    unfold ag_cutm
    refine List.filter_congr (fun x _ => ?_)
    rw [decide_eq_decide]
    exact (Nat.le_div_iff_mul_le (by omega)).symm
  rw [e]
  exact ⟨ag_cut_ok h.1 (Nat.div_le_div_right hn), fun x hx => h.2 x (List.mem_filter.mp hx).1⟩
theorem ag_rpm_take {ms : ag_M} {f g : Nat → Int32} (h : ag_rpm ms f g) (k : Nat) : ag_rpm (ms.take k) f g := fun j hj => by
  have h1 : j < ms.length := by
    have := List.length_take_le' k ms
    omega
  rw [List.getElem_take]
  exact h j h1
theorem ag_cut_pre : ∀ (ms : ag_M) (G nw : Nat), ms.Pairwise (fun a b => a.1 < b.1) → ∃ k, ag_cutm G nw ms = ms.take k
  | [], _, _, _ => ⟨0, rfl⟩
  | x :: t, G, nw, hp => by
    obtain ⟨p1, p2⟩ := List.pairwise_cons.mp hp
    by_cases h : x.1 * G ≤ nw
    · obtain ⟨k, hk⟩ := ag_cut_pre t G nw p2
      refine ⟨k + 1, ?_⟩
      unfold ag_cutm at hk ⊢
      rw [List.filter_cons_of_pos (by simpa using h), hk, List.take_succ_cons]
    · refine ⟨0, ?_⟩
      unfold ag_cutm
      refine List.filter_eq_nil_iff.mpr (fun y hy => ?_)
      have h1 : x.1 * G ≤ y.1 * G := by
        rcases List.mem_cons.mp hy with q | q
        · rw [q]; exact Nat.le_refl _
        · exact Nat.mul_le_mul_right G (Nat.le_of_lt (p1 y q))
      simp
      omega
theorem ag_rpm_cut {ms : ag_M} {G nw : Nat} {f g : Nat → Int32} (hp : ms.Pairwise (fun a b => a.1 < b.1)) (h : ag_rpm ms f g) : ag_rpm (ag_cutm G nw ms) f g := by
  obtain ⟨k, hk⟩ := ag_cut_pre ms G nw hp
  rw [hk]
  exact ag_rpm_take h k
end AgLaw

/-- the way on, behind a call of the law -/
def lw_K (p : Program) (l : Launch) (e : Env) (s : State) (m : MethodId) (below : List Frame) (meth : Method) (c : Code) (b0 : Nat) (A : Nat → Prop) (dC : Nat → ClassId) (dI : Nat → Nat → Nat) (a qm qs qt qw b qn qk qo : Nat) (cI cJ : ClassId) (G R : Nat) (j : Nat) : Prop :=
  ∀ (cd nw en mo la go sp : Nat) (f g : Nat → Int32) (w : Nat → Int64) (f2 g2 : Nat → Int32) (o : Nat → Int64) (ms : ag_M), lw_inv G R nw en mo ms f g w f2 g2 → ∀ (H : Heap) (locs : List Loc), va_P (dC, dI) agCl [(qo, .inl (cJ, 1, .inr (.inl o))), (a, .inr (1, [.int (nI G), .int (nI R), .ref qm, .ref qs, .ref qt, .int (nI ms.length), .long (lN nw), .long (lN en), .int (nI mo), .long (lN la), .long (lN go), .long (lN sp)])), (qm, .inl (cI, 320, .inl f)), (qs, .inl (cI, 320, .inl g)), (qt, .inr (0, [.ref qw])), (qw, .inl (cJ, 5, .inr (.inl w))), (b, .inr (2, [.int (nI cd), .int (nI G), .int (nI R), .long (lN en), .long (lN nw), .int (nI ms.length), .ref qn, .ref qk, .int (nI mo), .long (lN la), .long (lN go), .long (lN sp)])), (qn, .inl (cI, 1200, .inl f2)), (qk, .inl (cI, 1200, .inl g2))] H → va_D A [(qo, .inl (cJ, 1, .inr (.inl o))), (a, .inr (1, [.int (nI G), .int (nI R), .ref qm, .ref qs, .ref qt, .int (nI ms.length), .long (lN nw), .long (lN en), .int (nI mo), .long (lN la), .long (lN go), .long (lN sp)])), (qm, .inl (cI, 320, .inl f)), (qs, .inl (cI, 320, .inl g)), (qt, .inr (0, [.ref qw])), (qw, .inl (cJ, 5, .inr (.inl w))), (b, .inr (2, [.int (nI cd), .int (nI G), .int (nI R), .long (lN en), .long (lN nw), .int (nI ms.length), .ref qn, .ref qk, .int (nI mo), .long (lN la), .long (lN go), .long (lN sp)])), (qn, .inl (cI, 1200, .inl f2)), (qk, .inl (cI, 1200, .inl g2))] → va_S A s.heap H locs → ∀ ls : Array Slot, lv_has ls 8 [(4, .int (nI (3 * j + 2))), (0, .ref b0), (1, .ref a), (2, .ref b), (3, .ref qo)] →
    W p l e room_1 s m #[Value.ref b0] below meth c H locs (9 + (j + 1)) (3071 + 6 * (j + 1)) (lw_Z below #[Value.ref b0] s) (F0 m 479 ls [])
