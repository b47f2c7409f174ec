section AgExc
abbrev xIAE : String := "java/lang/IllegalArgumentException"
abbrev xISE : String := "java/lang/IllegalStateException"
abbrev xNSE : String := "java/util/NoSuchElementException"
abbrev xUp : List String := ["java/lang/RuntimeException", "java/lang/Exception"]
/-- words of the tables that are carried by hand -/
def agN : List Cond := [.castable xIAE xIAE, .castable xISE xISE, .castable xNSE xNSE, .declares ⟨"java/lang/RuntimeException", "<init>", "(Ljava/lang/String;)V"⟩, .declares ⟨"java/lang/Exception", "<init>", "(Ljava/lang/String;)V"⟩, .declares ⟨"java/lang/Throwable", "<init>", "(Ljava/lang/String;)V"⟩]
def ag_xw (U : State) : Prop := ∀ w ∈ agN, va_Nw w U
theorem ag_xw.warm {s U : State} (hW : s.WarmedH U.vm) (h : ag_xw s) : ag_xw U := fun w hw => by
  have h1 := h w hw
  simp only [agN, List.mem_cons, List.not_mem_nil, or_false] at hw
  rcases hw with rfl | rfl | rfl | rfl | rfl | rfl
  · exact va_Nw.warmC hW h1
  · exact va_Nw.warmC hW h1
  · exact va_Nw.warmC hW h1
  · exact va_Nw.warmD hW h1
  · exact va_Nw.warmD hW h1
  · exact va_Nw.warmD hW h1
def ag_xn (U : State) : Prop := va_Nc xISE xIAE U ∧ va_Nc xIAE xNSE U
def ag_xs (U : State) : Prop := (∃ q, vk_R "AgedMarks" 51 "a run is 0 to 4000 long" q U) ∧ (∃ q, vk_R "AgedMarks" 64 "the count would be above 1000000 gaps" q U) ∧ (∃ q, vk_R "AgedMarks" 74 "the count is not 0 to the end" q U) ∧ (∃ q, vk_R "AgedMarks" 80 "the way back is below 0" q U) ∧ (∃ q, vk_R "AgedMarks" 92 "there is no such mark" q U) ∧ ∃ q, vk_R "AgedMarks" 95 "what is not 0 to 2" q U
theorem ag_xs.warm {s U : State} (hW : s.WarmedH U.vm) (h : ag_xs s) : ag_xs U := by
  obtain ⟨⟨a, h1⟩, ⟨b, h2⟩, ⟨c, h3⟩, ⟨d, h4⟩, ⟨e, h5⟩, ⟨f, h6⟩⟩ := h
  exact ⟨⟨a, h1.warm hW⟩, ⟨b, h2.warm hW⟩, ⟨c, h3.warm hW⟩, ⟨d, h4.warm hW⟩, ⟨e, h5.warm hW⟩, ⟨f, h6.warm hW⟩⟩
/-- what a throw and its catch take of the state -/
def ag_x (A : Nat → Prop) (U : State) (H : Heap) : Prop := vx_Zq Bundle.tN "UNASSIGNED_STACK" Bundle.steD A U H ∧ vx_Zq Bundle.tN "SUPPRESSED_SENTINEL" Bundle.listD A U H ∧ ag_xw U ∧ ag_xn U ∧ ag_xs U
theorem ag_x.warm {A : Nat → Prop} {s U : State} {H : Heap} (hW : s.WarmedH U.vm) (h : ag_x A s H) : ag_x A U H := ⟨vx_Zq.moved hW.alike h.1, vx_Zq.moved hW.alike h.2.1, h.2.2.1.warm hW, ⟨va_Nc.moved hW.alike h.2.2.2.1.1, va_Nc.moved hW.alike h.2.2.2.1.2⟩, h.2.2.2.2.warm hW⟩
theorem ag_x.kept {A : Nat → Prop} {U : State} {H H1 : Heap} (h : ag_x A U H) (hq : ∀ a : Nat, a < H.size → ¬ A a → H1[a]? = H[a]?) : ag_x A U H1 := ⟨vx_Zq.kept h.1 hq, vx_Zq.kept h.2.1 hq, h.2.2⟩
theorem ag_x.narrow {A B : Nat → Prop} {U : State} {H : Heap} (h : ag_x A U H) (hAB : ∀ q, B q → A q) : ag_x B U H := ⟨vx_Zq.narrow h.1 hAB, vx_Zq.narrow h.2.1 hAB, h.2.2⟩
def ag_atx (D : va_G) (cl : List vw_C) (tys : List (ClassId × FieldType)) (sz : Nat) (ws : va_W) : State → Prop := fun U => ag_at D cl tys sz ws U ∧ ag_x (va_A ws sz) U U.heap
theorem ag_blindx {D : va_G} {cl : List vw_C} {tys : List (ClassId × FieldType)} {sz : Nat} {ws : va_W} {av : List Value} : FrameBlind (va_Pc av (ag_atx D cl tys sz ws)) := fun a U g mk q => by
  obtain ⟨q0, ⟨q1, qP, qK, qD⟩, qx⟩ := q
  exact ⟨q0, ⟨q1, qP, va_K.moved (u := U) (U := U.calling g mk a) (Vm.Alike.refl U.vm) qK, qD⟩, ag_x.warm (s := U) (U := U.calling g mk a) (State.WarmedH.refl U) qx⟩
theorem ag_prex {D : va_G} {cl : List vw_C} {tys : List (ClassId × FieldType)} {ws : va_W} {A : Nat → Prop} {s : State} {H : Heap} {av : List Value} (hP : va_P D cl ws H) (hK : va_K D cl tys s) (hD : va_D A ws) (hx : ag_x A s H) (hA : ∀ q, va_A ws H.size q → A q) : ∀ U : State, U.heap = H → s.WarmedH U.vm → va_Pc av (ag_atx D cl tys H.size ws) av.toArray U :=
  fun U hU hW => ⟨rfl, ⟨by rw [hU], by rw [hU]; exact hP, va_K.moved hW.alike hK, hD.weaken (fun _ _ _ _ => trivial)⟩, by rw [hU]; exact (hx.narrow hA).warm hW⟩
theorem ag_at_IAE : ∀ w ∈ vx_atS "AgedMarks" 53 xIAE xUp, w ∈ agW ∨ w ∈ agN := by decide +kernel
theorem ag_at_ISE : ∀ w ∈ vx_atS "AgedMarks" 66 xISE xUp, w ∈ agW ∨ w ∈ agN := by decide +kernel
theorem ag_ot_IAE : ∀ w ∈ Cond.classLink "AgedMarks" 49 xIAE :: Cond.initialized xIAE :: vx_atS "AgedMarks" 53 xIAE xUp, vx_ot w = true := by decide +kernel
theorem ag_ot_ISE : ∀ w ∈ Cond.classLink "AgedMarks" 62 xISE :: Cond.initialized xISE :: vx_atS "AgedMarks" 66 xISE xUp, vx_ot w = true := by decide +kernel
theorem ag_nok {w : Cond} (h : w ∈ agN) : w.onTables = true := by
  revert w
  decide +kernel
theorem ag_hatx {args : Array Value} {s : State} {L : List Cond} (h : ∀ w ∈ L, w ∈ agW ∨ w ∈ agN) (ht : ∀ w ∈ agW, w.before args s = true) (hx : ag_xw s) : ∀ w ∈ L, w.before args s = true := fun w hw => (h w hw).elim (ht w) (fun h1 => va_Nw.use (ag_nok h1) (hx w h1))
variable {p : Program} {l : Launch} {e : Env} {R : Room} {s : State} {m : MethodId} {args : Array Value} {below : List Frame} {meth : Method} {c : Code} {H : Heap} {locs : List Loc} {cells slots : Nat} {Q : State → Prop} {pc : Nat} {ls : Array Slot} {st0 rest : List Value} {D : va_G} {cl : List vw_C} {tys tysC : List (ClassId × FieldType)} {ws wc wr : va_W} {A A0 : Nat → Prop} {H0 : Heap} {mc ms : Nat} {a : Array Value}
theorem ag_ofX {y : MethodName} {ws0 ws' : List Cond} {rm : Room} {sz : Nat} {wsc : va_W} {av : List Value} {lv : List (Nat × Value)} {Qf : (Nat → Prop) → Array Value → State → Outcome → State → Prop} {Xf : (Nat → Prop) → String → State → State → Prop} {cc : ByteArray} {maxL : Nat} {ret : Option FieldType}
    (hy : plainName y.cls = true) (hw : ws0 = Cond.code y cc maxL ret :: ws') (hlen : (lg_sl av).length ≤ maxL) (hlv : lv_args 0 av = lv)
    (body : ∀ (p : Program) (e : Env) (s : State) (m : MethodId) (below : List Frame) (meth : Method) (c : Code) (A : Nat → Prop) (ls : Array Slot), p.tables.exec = Jvm.exec → c.code = cc → meth.sig.returnType = ret → (∀ w ∈ ws0, w.before av.toArray s = true) → s.vm.findClass y.cls = some m.cls → meth.locks = false → c.maxLocals = maxL → meth.name = y.name →
      (∀ q : Nat, s.heap.size ≤ q → A q) → va_S A s.heap s.heap [] → va_P D cl wsc s.heap → va_K D cl tys s → va_D A wsc → lv_has ls maxL lv → s.heap.size = sz → (∀ x ∈ c.exceptionTable.toList, False) → ag_x A s s.heap → W p l e rm s m av.toArray below meth c s.heap [] 0 0 (vx_MQ below (Qf A) (Xf A) av.toArray s mc ms A) (F0 m 0 ls [])) :
    vx_Met l y ws0 rm (va_Pc av (ag_atx D cl tys sz wsc)) (Qf (va_A wsc sz)) (Xf (va_A wsc sz)) mc ms (va_A wsc sz) := by
  refine vx_ofW (cc := cc) (maxL := maxL) (ret := ret) hy hw ?_
  intro p e s m args below meth c s₁ B hml hout hv
  obtain ⟨rfl, ⟨hsz, hP, hK, hD0⟩, hX⟩ := hv
  subst hsz
  have hl := lv_entry av (n := maxL) hlen
  rw [hlv] at hl
  rw [lg_entry_eq]
  exact body p e s m below meth c _ _ B.exec B.bytes B.returns (atoms_spec (ws := ws0) B.pre) (findClass_of_methodNamed B.named) B.notSynchronized hml (name_of_methodNamed B.named B.method).1 (fun q h => Or.inr h) va_S.rf hP hK (hD0.self (sz := s.heap.size)) hl rfl hout hX
theorem ag_thr {cc : ByteArray} {Qc : Array Value → State → Outcome → State → Prop} {cls text : String} {ik is ic sa : Nat} {PX : String → Prop} (hx : p.tables.exec = Jvm.exec) (hb : c.code = cc) (hl : l.stackTraces = false) (hown : s.vm.findClass "AgedMarks" = some m.cls) (hfit : Bundle.fit cls = true) (hk : Cond.classLink "AgedMarks" ik cls ∈ agW) (hini : Cond.initialized cls ∈ agW) (hstr : vk_R "AgedMarks" is text sa s)
    (hat : ∀ w ∈ vx_atS "AgedMarks" ic cls xUp, w ∈ agW ∨ w ∈ agN) (hot : ∀ w ∈ Cond.classLink "AgedMarks" ik cls :: Cond.initialized cls :: vx_atS "AgedMarks" ic cls xUp, vx_ot w = true) (ht : ∀ w ∈ agW, w.before args s = true) (hX : ag_x A s s.heap) (hS : va_S A s.heap s.heap []) (hsize : ls.size = c.maxLocals)
    (d0 : decode cc pc = .ok (.new ik, 3)) (d3 : decode cc (pc + 3) = .ok (.dup, 1)) (d4 : decode cc (pc + 4) = .ok (.ldc is, 2)) (d6 : decode cc (pc + 6) = .ok (.invokespecial ic, 3)) (d9 : decode cc (pc + 9) = .ok (.athrow, 1)) (hout : ∀ x ∈ c.exceptionTable.toList, False)
    (hRframes : 5 < R.frames) (hRlocals : (rest.map fun v => v.category).sum + 82 ≤ R.locals) (hRcells : 1 ≤ R.cells) (hRslots : 6 ≤ R.slots) (hlocks : meth.locks = false) (hpx : PX cls) (hP : va_P D cl ws s.heap) (hK : va_K D cl tys s) (hD : va_D A ws) (hmc : 1 ≤ mc) (hms : 6 ≤ ms) :
    W p l e R s m args below meth c s.heap [] 0 0 (vx_MQ below Qc (vx_X (fun _ : Unit => True) (fun E _ t => PX E ∧ ag_to D cl tys A (fun _ : Unit => ws) () t) A) args s mc ms A) (F0 m pc ls rest) :=
  vx_throwS hx hb hl hown hfit (by decide) (ht _ hk) (ht _ hini) hstr (ag_hatx hat ht hX.2.2.1) hot hX.1 hX.2.1 hS hsize d0 d3 d4 d6 d9 (fun x h => (hout x h).elim) hRframes hRlocals (by omega) (by omega) hlocks
    (fun t hvm hz hk => ⟨(), trivial, ⟨hpx, hP.kept (fun k q h => hk _ (hP k q h).lt), va_K.moved hvm hK, hD⟩, hz, fun q h1 _ => hk q h1⟩) hS.2.2 (by omega) (by omega)
theorem ag_xli {S : Type} {post : Int32 → S → Prop} {Wf : S → va_W} {PX : String → Prop} (hP : va_P D cl ws H) (hD : va_D A0 ws) (hS : va_S A0 H0 H locs) (hA : ∀ q, H0.size ≤ q → A0 q) (isC isR : List Nat) (hC : isC.map (fun i => ws[i]?) = wc.map some) (hR : isR.map (fun i => ws[i]?) = wr.map some) (hn : va_nd isR = true) (hdis : ∀ i ∈ isR, i ∉ isC)
    (hr : vx_Run p l e R s m args below meth c H locs cells slots mc ms (F0 m pc ls st0) rest (va_Qi post (ag_to D cl tysC (va_A wc H.size) Wf) (va_A wc H.size) a) (vx_X (fun _ : Unit => True) (fun E _ t => PX E ∧ ag_to D cl tysC (va_A wc H.size) (fun _ : Unit => wc) () t) (va_A wc H.size)) (va_A wc H.size))
    (kx : ∀ (E : String) (ce : Cell) (q9 : Addr) (H1 : Heap) (locs1 : List Loc), PX E → va_P D cl (wr ++ wc) H1 → va_D A0 (wr ++ wc) → va_S A0 H0 H1 locs1 → H1[q9]? = some ce → ce.vm = .none → s.vm.findClass E = some ce.cls → vx_W p l e R s m args below meth c H1 locs1 (cells + mc) (slots + ms) Q (F0 m pc ls rest) q9)
    (kk : ∀ (r : Int32) (u : S) (H1 : Heap) (locs1 : List Loc), post r u → va_P D cl (wr ++ Wf u) H1 → va_D A0 (wr ++ Wf u) → va_S A0 H0 H1 locs1 → W p l e R s m args below meth c H1 locs1 (cells + mc) (slots + ms) Q (F0 m (pc + 3) ls (.int r :: rest))) : W p l e R s m args below meth c H locs cells slots Q (F0 m pc ls st0) := by
  have hFc := va_free (wc := wc) hD hS hA isC hC
  refine vx_calli hr hS (fun q _ h => hFc q h) hFc (fun q _ h => hFc q h) (fun E ce q9 u t H1 locs ht hvm _ hB hz1 hk1 hS hc1 hc2 hc3 => ?_) (fun r u t H1 locs ht hvm hw hB hz1 hk1 hS => ?_)
  · obtain ⟨hpx, hP1, hK1, hD1⟩ := hB
    rw [ht] at hP1
    obtain ⟨hP, hD⟩ := va_join (wr := wr) (w1 := wc) hP hD isC isR hC hR hn hdis hk1 hFc hP1 hD1
    exact kx E ce q9 H1 locs hpx hP hD hS hc1 hc2 hc3
  · obtain ⟨hP1, hK1, hD1⟩ := hB
    rw [ht] at hP1
    obtain ⟨hP, hD⟩ := va_join (wr := wr) (w1 := Wf u) hP hD isC isR hC hR hn hdis hk1 hFc hP1 hD1
    exact kk r u H1 locs hw hP hD hS
theorem ag_xll {S : Type} {post : Int64 → S → Prop} {Wf : S → va_W} {PX : String → Prop} (hP : va_P D cl ws H) (hD : va_D A0 ws) (hS : va_S A0 H0 H locs) (hA : ∀ q, H0.size ≤ q → A0 q) (isC isR : List Nat) (hC : isC.map (fun i => ws[i]?) = wc.map some) (hR : isR.map (fun i => ws[i]?) = wr.map some) (hn : va_nd isR = true) (hdis : ∀ i ∈ isR, i ∉ isC)
    (hr : vx_Run p l e R s m args below meth c H locs cells slots mc ms (F0 m pc ls st0) rest (va_Ql post (ag_to D cl tysC (va_A wc H.size) Wf) (va_A wc H.size) a) (vx_X (fun _ : Unit => True) (fun E _ t => PX E ∧ ag_to D cl tysC (va_A wc H.size) (fun _ : Unit => wc) () t) (va_A wc H.size)) (va_A wc H.size))
    (kx : ∀ (E : String) (ce : Cell) (q9 : Addr) (H1 : Heap) (locs1 : List Loc), PX E → va_P D cl (wr ++ wc) H1 → va_D A0 (wr ++ wc) → va_S A0 H0 H1 locs1 → H1[q9]? = some ce → ce.vm = .none → s.vm.findClass E = some ce.cls → vx_W p l e R s m args below meth c H1 locs1 (cells + mc) (slots + ms) Q (F0 m pc ls rest) q9)
    (kk : ∀ (r : Int64) (u : S) (H1 : Heap) (locs1 : List Loc), post r u → va_P D cl (wr ++ Wf u) H1 → va_D A0 (wr ++ Wf u) → va_S A0 H0 H1 locs1 → W p l e R s m args below meth c H1 locs1 (cells + mc) (slots + ms) Q (F0 m (pc + 3) ls (.long r :: rest))) : W p l e R s m args below meth c H locs cells slots Q (F0 m pc ls st0) := by
  have hFc := va_free (wc := wc) hD hS hA isC hC
  refine vx_calll hr hS (fun q _ h => hFc q h) hFc (fun q _ h => hFc q h) (fun E ce q9 u t H1 locs ht hvm _ hB hz1 hk1 hS hc1 hc2 hc3 => ?_) (fun r u t H1 locs ht hvm hw hB hz1 hk1 hS => ?_)
  · obtain ⟨hpx, hP1, hK1, hD1⟩ := hB
    rw [ht] at hP1
    obtain ⟨hP, hD⟩ := va_join (wr := wr) (w1 := wc) hP hD isC isR hC hR hn hdis hk1 hFc hP1 hD1
    exact kx E ce q9 H1 locs hpx hP hD hS hc1 hc2 hc3
  · obtain ⟨hP1, hK1, hD1⟩ := hB
    rw [ht] at hP1
    obtain ⟨hP, hD⟩ := va_join (wr := wr) (w1 := Wf u) hP hD isC isR hC hR hn hdis hk1 hFc hP1 hD1
    exact kk r u H1 locs hw hP hD hS
end AgExc
