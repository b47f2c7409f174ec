section
-- ===== PART A: goes FIRST, ahead of the names: the tables' words, and 'selects' of the private methods out of them =====
/-- a private method of a class that the tables say can be made, by its rows of tables_1 -/
def lw_okq (q : MethodName × Nat) : Prop := (q.1.cls ≠ "java/lang/invoke/MethodHandle" ∧ q.1.cls ≠ "java/lang/invoke/VarHandle") ∧ Cond.instantiable q.1.cls q.2 ∈ tables_1 ∧ Cond.privateMethod q.1 ∈ tables_1 ∧ Cond.instanceMethod q.1 ∈ tables_1
theorem lw_p0 : lw_okq (⟨"AgedMarks", "countAt", "(I)J"⟩, 12) := ⟨⟨by decide +kernel, by decide +kernel⟩, List.mem_of_getElem? (i := 14) (by decide +kernel), List.mem_of_getElem? (i := 92) (by decide +kernel), List.mem_of_getElem? (i := 93) (by decide +kernel)⟩
theorem lw_p1 : lw_okq (⟨"AgedMarks", "drop", "(I)V"⟩, 12) := ⟨⟨by decide +kernel, by decide +kernel⟩, List.mem_of_getElem? (i := 14) (by decide +kernel), List.mem_of_getElem? (i := 96) (by decide +kernel), List.mem_of_getElem? (i := 97) (by decide +kernel)⟩
theorem lw_p2 : lw_okq (⟨"java/lang/Throwable", "fillInStackTrace", "(I)Ljava/lang/Throwable;"⟩, 6) := ⟨⟨by decide +kernel, by decide +kernel⟩, List.mem_of_getElem? (i := 173) (by decide +kernel), List.mem_of_getElem? (i := 171) (by decide +kernel), List.mem_of_getElem? (i := 172) (by decide +kernel)⟩
theorem lw_p3 : lw_okq (⟨"AgedMarks", "growTo", "(J)I"⟩, 12) := ⟨⟨by decide +kernel, by decide +kernel⟩, List.mem_of_getElem? (i := 14) (by decide +kernel), List.mem_of_getElem? (i := 220) (by decide +kernel), List.mem_of_getElem? (i := 221) (by decide +kernel)⟩
theorem lw_p4 : lw_okq (⟨"AgedMarks", "gapsIn", "(J)I"⟩, 12) := ⟨⟨by decide +kernel, by decide +kernel⟩, List.mem_of_getElem? (i := 14) (by decide +kernel), List.mem_of_getElem? (i := 224) (by decide +kernel), List.mem_of_getElem? (i := 225) (by decide +kernel)⟩
theorem lw_p5 : lw_okq (⟨"AgedMarks", "lay", "(I)V"⟩, 12) := ⟨⟨by decide +kernel, by decide +kernel⟩, List.mem_of_getElem? (i := 14) (by decide +kernel), List.mem_of_getElem? (i := 228) (by decide +kernel), List.mem_of_getElem? (i := 229) (by decide +kernel)⟩
theorem lw_p6 : lw_okq (⟨"AgedMarks", "thin", "(I)V"⟩, 12) := ⟨⟨by decide +kernel, by decide +kernel⟩, List.mem_of_getElem? (i := 14) (by decide +kernel), List.mem_of_getElem? (i := 232) (by decide +kernel), List.mem_of_getElem? (i := 233) (by decide +kernel)⟩
theorem lw_p7 : lw_okq (⟨"AgedMarks", "placeOf", "(I)I"⟩, 12) := ⟨⟨by decide +kernel, by decide +kernel⟩, List.mem_of_getElem? (i := 14) (by decide +kernel), List.mem_of_getElem? (i := 236) (by decide +kernel), List.mem_of_getElem? (i := 237) (by decide +kernel)⟩
theorem lw_p8 : lw_okq (⟨"AgedMarks", "moveTo", "(J)J"⟩, 12) := ⟨⟨by decide +kernel, by decide +kernel⟩, List.mem_of_getElem? (i := 14) (by decide +kernel), List.mem_of_getElem? (i := 248) (by decide +kernel), List.mem_of_getElem? (i := 249) (by decide +kernel)⟩
theorem lw_p9 : lw_okq (⟨"AgedMarks", "costOf", "(J)J"⟩, 12) := ⟨⟨by decide +kernel, by decide +kernel⟩, List.mem_of_getElem? (i := 14) (by decide +kernel), List.mem_of_getElem? (i := 252) (by decide +kernel), List.mem_of_getElem? (i := 253) (by decide +kernel)⟩
theorem lw_p10 : lw_okq (⟨"AgedMarksModel", "fails", "(ZZ)Z"⟩, 12) := ⟨⟨by decide +kernel, by decide +kernel⟩, List.mem_of_getElem? (i := 289) (by decide +kernel), List.mem_of_getElem? (i := 341) (by decide +kernel), List.mem_of_getElem? (i := 342) (by decide +kernel)⟩
theorem lw_p11 : lw_okq (⟨"AgedMarksModel", "lay", "(I)V"⟩, 12) := ⟨⟨by decide +kernel, by decide +kernel⟩, List.mem_of_getElem? (i := 289) (by decide +kernel), List.mem_of_getElem? (i := 345) (by decide +kernel), List.mem_of_getElem? (i := 346) (by decide +kernel)⟩
theorem lw_p12 : lw_okq (⟨"AgedMarksModel", "freeSlot", "()I"⟩, 12) := ⟨⟨by decide +kernel, by decide +kernel⟩, List.mem_of_getElem? (i := 289) (by decide +kernel), List.mem_of_getElem? (i := 349) (by decide +kernel), List.mem_of_getElem? (i := 350) (by decide +kernel)⟩
theorem lw_p13 : lw_okq (⟨"AgedMarksModel", "stays", "(II)Z"⟩, 12) := ⟨⟨by decide +kernel, by decide +kernel⟩, List.mem_of_getElem? (i := 289) (by decide +kernel), List.mem_of_getElem? (i := 353) (by decide +kernel), List.mem_of_getElem? (i := 354) (by decide +kernel)⟩
theorem lw_p14 : lw_okq (⟨"AgedMarksModel", "to", "(J)J"⟩, 12) := ⟨⟨by decide +kernel, by decide +kernel⟩, List.mem_of_getElem? (i := 289) (by decide +kernel), List.mem_of_getElem? (i := 362) (by decide +kernel), List.mem_of_getElem? (i := 363) (by decide +kernel)⟩
theorem lw_p15 : lw_okq (⟨"AgedMarksModel", "cost", "(J)J"⟩, 12) := ⟨⟨by decide +kernel, by decide +kernel⟩, List.mem_of_getElem? (i := 289) (by decide +kernel), List.mem_of_getElem? (i := 366) (by decide +kernel), List.mem_of_getElem? (i := 367) (by decide +kernel)⟩
def lw_privs_1 : List (MethodName × Nat) := [(⟨"AgedMarks", "countAt", "(I)J"⟩, 12), (⟨"AgedMarks", "drop", "(I)V"⟩, 12), (⟨"java/lang/Throwable", "fillInStackTrace", "(I)Ljava/lang/Throwable;"⟩, 6), (⟨"AgedMarks", "growTo", "(J)I"⟩, 12), (⟨"AgedMarks", "gapsIn", "(J)I"⟩, 12), (⟨"AgedMarks", "lay", "(I)V"⟩, 12), (⟨"AgedMarks", "thin", "(I)V"⟩, 12), (⟨"AgedMarks", "placeOf", "(I)I"⟩, 12), (⟨"AgedMarks", "moveTo", "(J)J"⟩, 12), (⟨"AgedMarks", "costOf", "(J)J"⟩, 12), (⟨"AgedMarksModel", "fails", "(ZZ)Z"⟩, 12), (⟨"AgedMarksModel", "lay", "(I)V"⟩, 12), (⟨"AgedMarksModel", "freeSlot", "()I"⟩, 12), (⟨"AgedMarksModel", "stays", "(II)Z"⟩, 12), (⟨"AgedMarksModel", "to", "(J)J"⟩, 12), (⟨"AgedMarksModel", "cost", "(J)J"⟩, 12)]
theorem lw_r1 : ∀ q ∈ lw_privs_1, lw_okq q := List.forall_mem_cons.mpr ⟨lw_p0, List.forall_mem_cons.mpr ⟨lw_p1, List.forall_mem_cons.mpr ⟨lw_p2, List.forall_mem_cons.mpr ⟨lw_p3, List.forall_mem_cons.mpr ⟨lw_p4, List.forall_mem_cons.mpr ⟨lw_p5, List.forall_mem_cons.mpr ⟨lw_p6, List.forall_mem_cons.mpr ⟨lw_p7, List.forall_mem_cons.mpr ⟨lw_p8, List.forall_mem_cons.mpr ⟨lw_p9, List.forall_mem_cons.mpr ⟨lw_p10, List.forall_mem_cons.mpr ⟨lw_p11, List.forall_mem_cons.mpr ⟨lw_p12, List.forall_mem_cons.mpr ⟨lw_p13, List.forall_mem_cons.mpr ⟨lw_p14, List.forall_mem_cons.mpr ⟨lw_p15, fun _ h => absurd h List.not_mem_nil⟩⟩⟩⟩⟩⟩⟩⟩⟩⟩⟩⟩⟩⟩⟩⟩
def lw_privs : List (MethodName × Nat) := lw_privs_1
def lw_tbl : List Cond := k2_sels lw_privs ++ tables_1
theorem lw_privs_ok : ∀ q ∈ lw_privs, lw_okq q := lw_r1
-- ===== end of PART A =====
/-! ===== BEGIN words of one list among another's, by their places ===== -/
theorem goodIn_r {big : List Cond} (ws : List Cond) (ps : List Nat) (hp : ws = ps.filterMap (fun i => big[i]?)) (h : ws.all goodWord = true) : GoodIn big ws := by
  intro w hw
  have h1 := List.all_eq_true.mp h w hw
  rw [hp] at hw
  obtain ⟨i, -, hi⟩ := List.mem_filterMap.mp hw
  have hm : w ∈ big := by first | exact List.mem_of_getElem? hi | exact List.getElem?_mem hi
  exact ⟨hm, good_of_word h1⟩
theorem goodIn_app {big a b : List Cond} (ha : GoodIn big a) (hb : GoodIn big b) : GoodIn big (a ++ b) := fun w h => (List.mem_append.mp h).elim (ha w) (hb w)
theorem goodIn_ca {big a b : List Cond} {c : Cond} (ha : GoodIn big (c :: a)) (hb : GoodIn big b) : GoodIn big (c :: (a ++ b)) := fun w h => (List.mem_cons.mp h).elim (fun e => ha w (List.mem_cons.mpr (Or.inl e))) (fun h => (List.mem_append.mp h).elim (fun h => ha w (List.mem_cons.mpr (Or.inr h))) (hb w))
theorem goodIn_sub {big ws : List Cond} (hm : ∀ w ∈ ws, w ∈ big) (h : ws.all goodWord = true) : GoodIn big ws := fun w hw => ⟨hm w hw, good_of_word (List.all_eq_true.mp h w hw)⟩
/-! ===== END ===== -/

/-! ===== BEGIN exceptions that leave a method, and their catching by the caller (launches without stack traces) ===== -/
section VXA
/-! The laws vx_back, vx_callV, vx_callS, vx_callSW, vx_throw0, vx_throwS follow proofs of the library, with one case more: JvmDerived/Free/Laws.lean (Back.of_free), Shelf42/LK1.lean (callV, callS), Shelf/KitTraced.lean (throwNew0V, throwNewS). -/
/-- where a method has thrown q: the class by its name, the cell, what was written, the world -/
def vx_T (XC : String → State → State → Prop) (st : State) (q : Addr) (t : State) (mc ms : Nat) (free : Addr → Prop) : Prop :=
  ∃ (E : String) (ce : Cell) (L : List Loc), XC E st t ∧ t.heap[q]? = some ce ∧ ce.vm = .none ∧ st.vm.findClass E = some ce.cls ∧ st.WarmedH t.vm ∧ st.sameButNew ({ t with vm := st.vm } : State) L mc ms ∧ ∀ z ∈ L, free z.base
def vx_Q (Qc : Array Value → State → Outcome → State → Prop) (XC : String → State → State → Prop) (mc ms : Nat) (free : Addr → Prop) : Array Value → State → Outcome → State → Prop := fun a st o t =>
  (Qc a st o t ∧ ∃ L, FrameEnd st o t L mc ms ∧ ∀ q ∈ L, free q.base) ∨ ∃ q, o = .threw q ∧ vx_T XC st q t mc ms free
/-- a callee that returns or throws -/
def vx_Met (l : Launch) (y : MethodName) (ws : List Cond) (rm : Room) (Pc : Array Value → State → Prop) (Qc : Array Value → State → Outcome → State → Prop) (XC : String → State → State → Prop) (mc ms : Nat) (free : Addr → Prop) : Prop :=
  MetFree l y (headSpec ws rm) Pc (fun _ _ _ _ _ => True) (vx_Q Qc XC mc ms free)
def vx_Post (XC : String → State → State → Prop) (mc ms : Nat) (free : Addr → Prop) : Pt → Array Value → Addr → Pt → Prop := fun A a q B =>
  ∃ (g : JFrame) (mk : MethodId) (t : State) (L : List Loc) (E : String) (ce : Cell), B.U.heap = t.heap ∧ B.U.vm = t.vm ∧ XC E (A.U.calling g mk a) t ∧ t.heap[q]? = some ce ∧ ce.vm = .none ∧ A.U.vm.findClass E = some ce.cls ∧ B.locs = A.locs ++ L ∧ (∀ z ∈ L, free z.base) ∧ B.cells = A.cells + mc ∧ B.slots = A.slots + ms
def vx_Back (l : Launch) (R : Room) (p : Program) (e : Env) (below : List Frame) (s : State) (sargs : Array Value) (y : MethodName) (len W9 : Nat)
    (Pre : Pt → Array Value → Prop) (Post : Pt → Array Value → Option Value → Pt → Prop) (PostX : Pt → Array Value → Addr → Pt → Prop) : Prop :=
  ∀ (m : MethodId) (meth : Method) (c : Code) (A : Pt) (g : JFrame) (ig : Instr) (mk : MethodId) (a : Array Value),
    Stand p l e R s m sargs below meth c A.U A.locs A.cells A.slots → g.method = m → g.locals.size = c.maxLocals → decode c.code g.pc = .ok (ig, len) →
    2 * g.monitorRoom + (g.stack.map fun v => v.category).sum ≤ W9 → A.U.methodNamed? y = some mk → Pre A a →
    (∃ (v : Option Value) (B : Pt), Stand p l e R s m sargs below meth c B.U B.locs B.cells B.slots ∧ Post A a v B ∧
      Steps p.tables e below (doInvoke e (A.U.setTop g) [] mk a).1 (B.U.setTop { g with pc := g.pc + len, stack := v.toList ++ g.stack })) ∨
    (∃ (q : Addr) (B : Pt), Stand p l e R s m sargs below meth c B.U B.locs B.cells B.slots ∧ PostX A a q B ∧
      Steps p.tables e below (doInvoke e (A.U.setTop g) [] mk a).1 ((B.U.setTop g).pushFrame (.throwing q)))
section Payer
variable {l : Launch} {R : Room} {p : Program} {e : Env} {below : List Frame} {s : State} {sargs : Array Value} {y : MethodName} {len W9 : Nat}
theorem vx_back {ws : List Cond} {rm : Room} {Pc : Array Value → State → Prop} {Qc : Array Value → State → Outcome → State → Prop} {XC : String → State → State → Prop} {mc ms : Nat} {free : Addr → Prop} {bytes : ByteArray} {maxL : Nat} {ret : Option FieldType}
    (hM : vx_Met l y ws rm Pc Qc XC mc ms free) (hblind : FrameBlind Pc) (hrc : rm.cells = mc) (hrs : rm.slots = ms)
    (hframes : rm.frames + 1 ≤ R.frames) (hlocals : W9 + (maxL + 11) + rm.locals ≤ R.locals)
    (hws : ∀ w ∈ ws, ∀ a' U, s.WarmedH U.vm → w.before a' U = true) (hcode : Cond.code y bytes maxL ret ∈ ws) (hinit : ∀ a' U, s.WarmedH U.vm → (Cond.initialized y.cls).before a' U = true) :
    vx_Back l R p e below s sargs y len W9 (PreOf R mc ms Pc) (PostOf Qc mc ms free) (vx_Post XC mc ms free) := by
  intro m meth c A g ig mk a X hg hsize hdg hW hn hp
  have h1 : (headSpec ws rm).pre.before a A.U = true := atoms_intro fun w hw => hws w hw _ _ X.warmed
  have h2 : (Cond.code y bytes maxL ret).before a A.U = true := hws _ hcode _ _ X.warmed
  have h3 : (Cond.initialized y.cls).before a A.U = true := hinit _ _ X.warmed
  have h4 : A.cells + (headSpec ws rm).room.cells ≤ R.cells := by rw [show (headSpec ws rm).room.cells = mc from hrc]; exact hp.1
  have h5 : A.slots + (headSpec ws rm).room.slots ≤ R.slots := by rw [show (headSpec ws rm).room.slots = ms from hrs]; exact hp.2.1
  have hPc : Pc a (A.U.calling g mk a) := hblind _ _ _ _ hp.2.2
  obtain ⟨U, Ls, c0, s0⟩ := A
  dsimp only [Pt.U, Pt.locs, Pt.cells, Pt.slots] at h1 h2 h3 h4 h5 X hn hPc ⊢
  obtain ⟨methY, cY, hmY, hcY, -, hlY, -, -, -, -⟩ := Cond.code_spec hn h2
  obtain ⟨kY, hkY, -⟩ := className_of_methodNamed hn
  have hinitY : kY.init = .initialized := Cond.initialized_spec (findClass_of_methodNamed hn) hkY h3
  have h : At U g.method c below := by rw [hg]; exact X.here
  have hlocals9 : W9 + (maxL + 11) + (headSpec ws rm).room.locals ≤ R.locals := hlocals
  have happ : (headSpec ws rm).appliesLoose y e.platform (U.calling g mk a) = true :=
    Spec.appliesLoose_calling (g := g) h hdg hn hkY hinitY
      (X.room_calling (g := g) (R' := (headSpec ws rm).room) hsize hmY hcY hframes (by rw [hlY]; omega) h4 h5) h1
  obtain ⟨mid, hmid⟩ := h.above
  have hfr : (U.setTop g).frames = (.java g :: mid) ++ below := by rw [State.frames_setTop' g h.top, hmid]; rfl
  obtain ⟨o, s₂, hsteps, -, hend, hq⟩ := Steps.callFree hM p X.admits X.cas X.clock (acts := []) hfr happ hPc trivial
  have hq' : vx_Q Qc XC mc ms free a (U.calling g mk a) o s₂ := hq
  rw [State.frames_setTop' g h.top] at hend
  obtain ⟨g₀, hg0⟩ := Option.isSome_iff_exists.mp h.top
  obtain ⟨r, hr⟩ := State.topJava?_eq_some.mp hg0
  have hr' : (({ U with heap := s₂.heap, slotsUsed := s₂.slotsUsed } : State).setVm s₂.vm).frames = .java g₀ :: r := hr
  rcases hq' with ⟨hqc, L, hfe, hL⟩ | ⟨q, rfl, E, ce, L, hx, hce, hcv, hcl, hW₂, hsm, hL⟩
  · obtain ⟨⟨v, rfl⟩, hW₂, e2, q2, q3, q4, q5, q6⟩ := id hfe
    have e3 : s₂ = ({ (U.calling g mk a).setFrames s₂.frames with heap := s₂.heap, slotsUsed := s₂.slotsUsed } : State).setVm s₂.vm := by
      have : s₂ = ({ s₂ with vm := (U.calling g mk a).vm } : State).setVm s₂.vm := rfl
      rw [e2] at this
      exact this
    obtain ⟨c₂, i₂, len₂, hc₂, hd₂, hf₂⟩ := hend
    have hW' : U.WarmedH s₂.vm := hW₂
    have hcc : c₂ = c := by
      have h1 : s₂.code? g.method = U.code? g.method := by
        rw [State.code?_eq, State.code?_eq, hW'.alike.method?]
      exact Option.some.inj (hc₂.symm.trans (h1.trans h.code))
    subst hcc
    have hlen : len₂ = len := by rw [hdg] at hd₂; cases hd₂; rfl
    subst hlen
    have hs₂ : s₂ = (({ U with heap := s₂.heap, slotsUsed := s₂.slotsUsed } : State).setVm s₂.vm).setTop { g with pc := g.pc + len₂, stack := v.toList ++ g.stack } := by
      refine e3.trans ?_
      rw [hf₂, State.calling_eq h.top, State.setFrames_setFrames, State.setTop_of_frames _ hr', hr]
      rfl
    have hsame : U.sameButNew ({ U with heap := s₂.heap, slotsUsed := s₂.slotsUsed } : State) L mc ms := by
      refine ⟨?_, q2, q3, q4, q5, q6⟩
      obtain ⟨t, ht, -⟩ := State.frames_cons hr
      show ({ U with heap := s₂.heap, slotsUsed := s₂.slotsUsed } : State) = { U.setFrames U.frames with heap := s₂.heap, slotsUsed := s₂.slotsUsed }
      rw [State.setFrames_self ht]
    subst hg
    refine Or.inl ⟨v, ⟨(({ U with heap := s₂.heap, slotsUsed := s₂.slotsUsed } : State).setVm s₂.vm), Ls ++ L, c0 + mc, s0 + ms⟩,
      ⟨X.admits, X.cas, X.clock, X.frames, X.room, X.hears, X.method, X.code, (X.here.setHeapUsed s₂.heap s₂.slotsUsed).setVm hW'.alike, X.tail, State.WarmedH.trans X.warmed hW', X.limits, X.bytes, X.same.trans (hsame.setVm s.vm)⟩,
      ⟨g, mk, s₂, L, rfl, rfl, hqc, rfl, hL, rfl, rfl⟩, ?_⟩
    show Steps p.tables e below _ ((({ U with heap := s₂.heap, slotsUsed := s₂.slotsUsed } : State).setVm s₂.vm).setTop { g with pc := g.pc + len₂, stack := v.toList ++ g.stack })
    rw [← hs₂]
    exact hsteps
  · obtain ⟨e2, q2, q3, q4, q5, q6⟩ := id hsm
    have e3 : s₂ = ({ (U.calling g mk a).setFrames s₂.frames with heap := s₂.heap, slotsUsed := s₂.slotsUsed } : State).setVm s₂.vm := by
      have : s₂ = ({ s₂ with vm := (U.calling g mk a).vm } : State).setVm s₂.vm := rfl
      rw [e2] at this
      exact this
    have hf₂ : s₂.frames = .throwing q :: .java g :: U.frames.tail := hend
    have hW' : U.WarmedH s₂.vm := hW₂
    have hs₂ : s₂ = ((({ U with heap := s₂.heap, slotsUsed := s₂.slotsUsed } : State).setVm s₂.vm).setTop g).pushFrame (.throwing q) := by
      refine e3.trans ?_
      rw [hf₂, State.calling_eq h.top, State.setFrames_setFrames, State.pushFrame, State.frames_setTop _ hr', State.setTop_of_frames _ hr', State.setFrames_setFrames, hr]
      rfl
    have hsame : U.sameButNew ({ U with heap := s₂.heap, slotsUsed := s₂.slotsUsed } : State) L mc ms := by
      refine ⟨?_, q2, q3, q4, q5, q6⟩
      obtain ⟨t, ht, -⟩ := State.frames_cons hr
      show ({ U with heap := s₂.heap, slotsUsed := s₂.slotsUsed } : State) = { U.setFrames U.frames with heap := s₂.heap, slotsUsed := s₂.slotsUsed }
      rw [State.setFrames_self ht]
    subst hg
    refine Or.inr ⟨q, ⟨(({ U with heap := s₂.heap, slotsUsed := s₂.slotsUsed } : State).setVm s₂.vm), Ls ++ L, c0 + mc, s0 + ms⟩,
      ⟨X.admits, X.cas, X.clock, X.frames, X.room, X.hears, X.method, X.code, (X.here.setHeapUsed s₂.heap s₂.slotsUsed).setVm hW'.alike, X.tail, State.WarmedH.trans X.warmed hW', X.limits, X.bytes, X.same.trans (hsame.setVm s.vm)⟩,
      ⟨g, mk, s₂, L, E, ce, rfl, rfl, hx, hce, hcv, hcl, rfl, hL, rfl, rfl⟩, ?_⟩
    show Steps p.tables e below _ (((({ U with heap := s₂.heap, slotsUsed := s₂.slotsUsed } : State).setVm s₂.vm).setTop g).pushFrame (.throwing q))
    rw [← hs₂]
    exact hsteps
end Payer
section Calls
variable {p : Program} {l : Launch} {e : Env} {R : Room} {s : State} {m : MethodId} {args : Array Value} {below : List Frame} {meth : Method} {c : Code} {T : State} {locs : List Loc} {cells slots : Nat}
theorem vx_callV (X : Stand p l e R s m args below meth c T locs cells slots) (hexec : p.tables.exec = Jvm.exec) {own C : String} {index : Nat} {y : MethodName} {bytes : ByteArray} {maxL : Nat} {ret : Option FieldType}
    (hown : s.vm.findClass own = some m.cls) (hlink : (Cond.methodLink own index y).before args s = true) (hinst : (Cond.instanceMethod y).before args s = true) (hsel : (Cond.selects C y y).before args s = true)
    (hcode : (Cond.code y bytes maxL ret).before args s = true) (hy : y.cls ≠ "java/lang/invoke/MethodHandle" ∧ y.cls ≠ "java/lang/invoke/VarHandle")
    {W9 : Nat} {Pre : Pt → Array Value → Prop} {Post : Pt → Array Value → Option Value → Pt → Prop} {PostX : Pt → Array Value → Addr → Pt → Prop} (hK : vx_Back l R p e below s args y 3 W9 Pre Post PostX)
    {b : Addr} {cellB : Cell} (hcell : T.heap[b]? = some cellB) (hobj : cellB.vm.isStatics = false) (hcls : s.vm.findClass C = some cellB.cls)
    {g : JFrame} (hg : g.method = m) (hsize : g.locals.size = c.maxLocals) {argsL rest : List Value} (hlen : ∀ sig, parseMethodDescriptor y.desc = some sig → argsL.length = sig.parameters.length)
    (hstack : g.stack = argsL.reverse ++ .ref b :: rest) (hW : 2 * g.monitorRoom + (rest.map fun v => v.category).sum ≤ W9) (hdg : decode c.code g.pc = .ok (.invokevirtual index, 3))
    (hpre : ∀ vm₁, s.WarmedH vm₁ → Pre ⟨T.setVm vm₁, locs, cells, slots⟩ (Value.ref b :: argsL).toArray) :
    (∃ (v : Option Value) (vm₁ : Vm) (B : Pt), s.WarmedH vm₁ ∧ Stand p l e R s m args below meth c B.U B.locs B.cells B.slots ∧ Post ⟨T.setVm vm₁, locs, cells, slots⟩ (Value.ref b :: argsL).toArray v B ∧
      ∀ target, Steps p.tables e below (B.U.setTop { g with pc := g.pc + 3, stack := v.toList ++ rest }) target → Steps p.tables e below (T.setTop g) target) ∨
    (∃ (q : Addr) (vm₁ : Vm) (B : Pt), s.WarmedH vm₁ ∧ Stand p l e R s m args below meth c B.U B.locs B.cells B.slots ∧ PostX ⟨T.setVm vm₁, locs, cells, slots⟩ (Value.ref b :: argsL).toArray q B ∧
      Steps p.tables e below (T.setTop g) ((B.U.setTop { g with stack := rest }).pushFrame (.throwing q))) := by
  obtain ⟨mk, methM, hnamed, hmethM, hstM, habM⟩ := Cond.instanceMethod_spec hinst
  obtain ⟨methM', cM, hmethM', -, -, -, -, -, -, hsigM⟩ := Cond.code_spec hnamed hcode
  cases hmethM.symm.trans hmethM'
  obtain ⟨c2, r2, m2, q1, q2, q3, q4, kP, hkP, hkPi⟩ := Cond.selects_spec hsel
  cases hcls.symm.trans q1
  cases (State.methodFound?_of_named hnamed hy).symm.trans q2
  cases hnamed.symm.trans q3
  have hselP : selectMethod e.platform s.vm cellB.cls mk = .method mk := by rw [Launch.admits_selectMethod X.admits]; exact q4
  obtain ⟨vm₁, X₁, hstep₁⟩ := X.invokevirtual hexec hown hlink hnamed hmethM hstM hkP hkPi hy (a := b) (cell := cellB) hcell
    (fun z h => by rw [h] at hobj; cases hobj) hselP hmethM habM hkP hkPi (g := g) hg (argsL := argsL) (rest := rest) (hlen _ hsigM) hstack hdg
  rcases hK m meth c ⟨T.setVm vm₁, locs, cells, slots⟩ { g with stack := rest } (.invokevirtual index) mk (Value.ref b :: argsL).toArray X₁ hg hsize hdg hW (X₁.named hnamed) (hpre vm₁ X₁.warmed) with ⟨v, B, X', hpost, hsteps⟩ | ⟨q, B, X', hpost, hsteps⟩
  · exact Or.inl ⟨v, vm₁, B, X₁.warmed, X', hpost, fun target h => hstep₁ _ fun acts => by rw [doInvoke_state]; exact hsteps.trans h⟩
  · exact Or.inr ⟨q, vm₁, B, X₁.warmed, X', hpost, hstep₁ _ fun acts => by rw [doInvoke_state]; exact hsteps⟩
theorem vx_callS (X : Stand p l e R s m args below meth c T locs cells slots) (hexec : p.tables.exec = Jvm.exec) {own : String} {index : Nat} {y : MethodName} {bytes : ByteArray} {maxL : Nat} {ret : Option FieldType}
    (hown : s.vm.findClass own = some m.cls) (hlink : (Cond.methodLink own index y).before args s = true) (hstat : (Cond.static y).before args s = true) (hinit : (Cond.initialized y.cls).before args s = true)
    (hcode : (Cond.code y bytes maxL ret).before args s = true) (hy : y.cls ≠ "java/lang/invoke/MethodHandle" ∧ y.cls ≠ "java/lang/invoke/VarHandle")
    {W9 : Nat} {Pre : Pt → Array Value → Prop} {Post : Pt → Array Value → Option Value → Pt → Prop} {PostX : Pt → Array Value → Addr → Pt → Prop} (hK : vx_Back l R p e below s args y 3 W9 Pre Post PostX)
    {g : JFrame} (hg : g.method = m) (hsize : g.locals.size = c.maxLocals) {argsL rest : List Value} (hlen : ∀ sig, parseMethodDescriptor y.desc = some sig → argsL.length = sig.parameters.length)
    (hstack : g.stack = argsL.reverse ++ rest) (hW : 2 * g.monitorRoom + (rest.map fun v => v.category).sum ≤ W9) (hdg : decode c.code g.pc = .ok (.invokestatic index, 3))
    (hpre : ∀ vm₁, s.WarmedH vm₁ → Pre ⟨T.setVm vm₁, locs, cells, slots⟩ argsL.toArray) :
    (∃ (v : Option Value) (vm₁ : Vm) (B : Pt), s.WarmedH vm₁ ∧ Stand p l e R s m args below meth c B.U B.locs B.cells B.slots ∧ Post ⟨T.setVm vm₁, locs, cells, slots⟩ argsL.toArray v B ∧
      ∀ target, Steps p.tables e below (B.U.setTop { g with pc := g.pc + 3, stack := v.toList ++ rest }) target → Steps p.tables e below (T.setTop g) target) ∨
    (∃ (q : Addr) (vm₁ : Vm) (B : Pt), s.WarmedH vm₁ ∧ Stand p l e R s m args below meth c B.U B.locs B.cells B.slots ∧ PostX ⟨T.setVm vm₁, locs, cells, slots⟩ argsL.toArray q B ∧
      Steps p.tables e below (T.setTop g) ((B.U.setTop { g with stack := rest }).pushFrame (.throwing q))) := by
  obtain ⟨mk, hnamed⟩ := Cond.code_named hcode
  obtain ⟨methM, cM, hmethM, -, -, -, -, -, -, hsigM⟩ := Cond.code_spec hnamed hcode
  have hstatic : methM.isStatic = true := Cond.static_spec hnamed hmethM hstat
  obtain ⟨kP, hkP, -⟩ := className_of_methodNamed hnamed
  have hinitP : kP.init = .initialized := Cond.initialized_spec (findClass_of_methodNamed hnamed) hkP hinit
  obtain ⟨vm₁, X₁, hstep₁⟩ := X.invokestatic hexec hown hlink hnamed hmethM hstatic hkP hinitP hy (g := g) hg (argsL := argsL) (rest := rest) (hlen _ hsigM) hstack hdg
  rcases hK m meth c ⟨T.setVm vm₁, locs, cells, slots⟩ { g with stack := rest } (.invokestatic index) mk argsL.toArray X₁ hg hsize hdg hW (X₁.named hnamed) (hpre vm₁ X₁.warmed) with ⟨v, B, X', hpost, hsteps⟩ | ⟨q, B, X', hpost, hsteps⟩
  · exact Or.inl ⟨v, vm₁, B, X₁.warmed, X', hpost, fun target h => hstep₁ _ fun acts => by rw [doInvoke_state]; exact hsteps.trans h⟩
  · exact Or.inr ⟨q, vm₁, B, X₁.warmed, X', hpost, hstep₁ _ fun acts => by rw [doInvoke_state]; exact hsteps⟩
end Calls
theorem vx_cls {s : State} {T : State} {vm₁ : Vm} {E : String} {k : ClassId} (hW : s.WarmedH vm₁) (h : (T.setVm vm₁).vm.findClass E = some k) : s.vm.findClass E = some k := by
  have h1 : vm₁.findClass E = some k := h
  rw [hW.alike.findClass] at h1
  exact h1
/-- the method's frame g, with q thrown over it -/
def vx_W (p : Program) (l : Launch) (e : Env) (R : Room) (s : State) (m : MethodId) (args : Array Value) (below : List Frame) (meth : Method) (c : Code) (H : Heap) (locs : List Loc) (cells slots : Nat) (Q : State → Prop) (g : JFrame) (q : Addr) : Prop :=
  ∀ T : State, T.heap = H → Stand p l e R s m args below meth c T locs cells slots → ∃ t, Steps p.tables e below ((T.setTop g).pushFrame (.throwing q)) t ∧ Q t
def vx_Run (p : Program) (l : Launch) (e : Env) (R : Room) (s : State) (m : MethodId) (args : Array Value) (below : List Frame) (meth : Method) (c : Code) (H : Heap) (locs : List Loc) (cells slots mc ms : Nat) (g : JFrame) (rest : List Value) (Qa : State → Outcome → State → Prop) (XC : String → State → State → Prop) (free : Addr → Prop) : Prop :=
  ∀ T : State, T.heap = H → Stand p l e R s m args below meth c T locs cells slots →
    (∃ (v : Option Value) (st₀ t T' : State) (L : List Loc), st₀.heap = H ∧ Stand p l e R s m args below meth c T' (locs ++ L) (cells + mc) (slots + ms) ∧ (∀ q ∈ L, free q.base) ∧ T'.heap = t.heap ∧ T'.vm = t.vm ∧ Qa st₀ (.returned v) t ∧
      Goes p e below T g T' { g with pc := g.pc + 3, stack := v.toList ++ rest }) ∨
    (∃ (q : Addr) (st₀ t T' : State) (L : List Loc) (E : String) (ce : Cell), st₀.heap = H ∧ Stand p l e R s m args below meth c T' (locs ++ L) (cells + mc) (slots + ms) ∧ (∀ z ∈ L, free z.base) ∧ T'.heap = t.heap ∧ T'.vm = t.vm ∧ XC E st₀ t ∧ t.heap[q]? = some ce ∧ ce.vm = .none ∧ s.vm.findClass E = some ce.cls ∧
      Steps p.tables e below (T.setTop g) ((T'.setTop { g with stack := rest }).pushFrame (.throwing q)))
def vx_X {S : Type} (px : S → Prop) (B : String → S → State → Prop) (A : Nat → Prop) : String → State → State → Prop := fun E st t => ∃ u : S, px u ∧ B E u t ∧ va_F A st t
section Runs
variable {p : Program} {l : Launch} {e : Env} {R : Room} {s : State} {m : MethodId} {args : Array Value} {below : List Frame} {meth : Method} {c : Code} {H : Heap} {locs : List Loc} {cells slots : Nat}
variable {y : MethodName} {bytes cc : ByteArray} {maxL nL mc ms n index : Nat} {ret : Option FieldType} {ws : List Cond} {rm : Room} {Pc : Array Value → State → Prop} {Qc : Array Value → State → Outcome → State → Prop} {XC : String → State → State → Prop} {free : Addr → Prop} {Ts : List Cond} {own C : String} {b : Addr} {As rest : List Value} {g : JFrame}
theorem vx_callBack (cb : CallB R s args own index y bytes maxL ret ws rm mc ms n) (hM : vx_Met l y ws rm Pc Qc XC mc ms free) (hbl : FrameBlind Pc) : vx_Back l R p e below s args y 3 8 (PreOf R mc ms Pc) (PostOf Qc mc ms free) (vx_Post XC mc ms free) := by
  obtain ⟨hrc, hrs, hfr, hlo, hws, hcw, -, hini, -⟩ := cb
  exact vx_back (bytes := bytes) (maxL := maxL) (ret := ret) hM hbl hrc hrs hfr hlo hws hcw (fun a' U hW => word_at hW (Or.inl (by first | rfl | simp [Cond.onTables, Cond.keeps, Cond.steady])) hini)
theorem vx_runV (S : CallFix p m c cc nL s args Ts own) (hM : vx_Met l y ws rm Pc Qc XC mc ms free) (cw : CallW R s args own C index y bytes maxL ret ws rm mc ms n) (hp : PreV s H C b Pc As)
    (hg : g.method = m) (hn : As.length = n) (hsize : g.locals.size = nL) (hstack : g.stack = As.reverse ++ .ref b :: rest) (hW : 2 * g.monitorRoom + (rest.map fun v => v.category).sum ≤ 8) (hdg : decode cc g.pc = .ok (.invokevirtual index, 3)) (hf : cells + mc ≤ R.cells ∧ slots + ms ≤ R.slots) :
    vx_Run p l e R s m args below meth c H locs cells slots mc ms g rest (Qc (Value.ref b :: As).toArray) XC free := by
  have hK : vx_Back l R p e below s args y 3 8 (PreOf R mc ms Pc) (PostOf Qc mc ms free) (vx_Post XC mc ms free) := vx_callBack cw.1 hM hp.1
  obtain ⟨⟨-, -, -, -, -, -, hcode, -, hy, hlen, hl⟩, hin, hse⟩ := cw
  obtain ⟨hx, hb, hml, ho, -⟩ := S
  obtain ⟨-, ⟨cellB, hcB, hoB, hclB⟩, hPc⟩ := hp
  intro T hT X
  rcases vx_callV X hx (C := C) (bytes := bytes) (maxL := maxL) (ret := ret) ho hl hin hse hcode hy hK (by rw [hT]; exact hcB) hoB hclB hg (hsize.trans hml.symm) (argsL := As) (rest := rest) (fun sig h => hn.trans (hlen sig h)) hstack hW (by rw [hb]; exact hdg)
    (fun vm₁ hW₁ => ⟨hf.1, hf.2, hPc (T.setVm vm₁) hT hW₁⟩) with ⟨v, vm₁, ⟨U', l2, c2, s2⟩, hW₁, X', ⟨g', mk, t, L, e1, e2, hq, h1, hL, h2, h3⟩, st⟩ | ⟨q, vm₁, ⟨U', l2, c2, s2⟩, hW₁, X', ⟨g', mk, t, L, E, ce, e1, e2, hq, hce, hcv, hcl, h1, hL, h2, h3⟩, st⟩
  · dsimp only [Pt.U, Pt.locs, Pt.cells, Pt.slots] at X' e1 e2 h1 h2 h3 st
    subst h1; subst h2; subst h3
    exact Or.inl ⟨v, (T.setVm vm₁).calling g' mk (Value.ref b :: As).toArray, t, U', L, hT, X', hL, e1, e2, hq, st⟩
  · dsimp only [Pt.U, Pt.locs, Pt.cells, Pt.slots] at X' e1 e2 h1 h2 h3 st hcl
    subst h1; subst h2; subst h3
    exact Or.inr ⟨q, (T.setVm vm₁).calling g' mk (Value.ref b :: As).toArray, t, U', L, E, ce, hT, X', hL, e1, e2, hq, hce, hcv, vx_cls hW₁ hcl, st⟩
theorem vx_runS (S : CallFix p m c cc nL s args Ts own) (hM : vx_Met l y ws rm Pc Qc XC mc ms free) (cw : CallB R s args own index y bytes maxL ret ws rm mc ms n ∧ (Cond.static y).before args s = true) (hp : PreS s H Pc As)
    (hg : g.method = m) (hn : As.length = n) (hsize : g.locals.size = nL) (hstack : g.stack = As.reverse ++ rest) (hW : 2 * g.monitorRoom + (rest.map fun v => v.category).sum ≤ 8) (hdg : decode cc g.pc = .ok (.invokestatic index, 3)) (hf : cells + mc ≤ R.cells ∧ slots + ms ≤ R.slots) :
    vx_Run p l e R s m args below meth c H locs cells slots mc ms g rest (Qc As.toArray) XC free := by
  have hK : vx_Back l R p e below s args y 3 8 (PreOf R mc ms Pc) (PostOf Qc mc ms free) (vx_Post XC mc ms free) := vx_callBack cw.1 hM hp.1
  obtain ⟨⟨-, -, -, -, -, -, hcode, hini, hy, hlen, hl⟩, hstt⟩ := cw
  obtain ⟨hx, hb, hml, ho, -⟩ := S
  intro T hT X
  rcases vx_callS X hx (bytes := bytes) (maxL := maxL) (ret := ret) ho hl hstt hini hcode hy hK hg (hsize.trans hml.symm) (argsL := As) (rest := rest) (fun sig h => hn.trans (hlen sig h)) hstack hW (by rw [hb]; exact hdg)
    (fun vm₁ hW₁ => ⟨hf.1, hf.2, hp.2 (T.setVm vm₁) hT hW₁⟩) with ⟨v, vm₁, ⟨U', l2, c2, s2⟩, hW₁, X', ⟨g', mk, t, L, e1, e2, hq, h1, hL, h2, h3⟩, st⟩ | ⟨q, vm₁, ⟨U', l2, c2, s2⟩, hW₁, X', ⟨g', mk, t, L, E, ce, e1, e2, hq, hce, hcv, hcl, h1, hL, h2, h3⟩, st⟩
  · dsimp only [Pt.U, Pt.locs, Pt.cells, Pt.slots] at X' e1 e2 h1 h2 h3 st
    subst h1; subst h2; subst h3
    exact Or.inl ⟨v, (T.setVm vm₁).calling g' mk As.toArray, t, U', L, hT, X', hL, e1, e2, hq, st⟩
  · dsimp only [Pt.U, Pt.locs, Pt.cells, Pt.slots] at X' e1 e2 h1 h2 h3 st hcl
    subst h1; subst h2; subst h3
    exact Or.inr ⟨q, (T.setVm vm₁).calling g' mk As.toArray, t, U', L, E, ce, hT, X', hL, e1, e2, hq, hce, hcv, vx_cls hW₁ hcl, st⟩
end Runs
section Rows
variable {p : Program} {l : Launch} {e : Env} {R : Room} {s : State} {m : MethodId} {args : Array Value} {below : List Frame} {meth : Method} {c : Code} {H : Heap} {locs : List Loc} {cells slots : Nat} {Q : State → Prop}
variable {mc ms : Nat} {free : Addr → Prop} {A0 A1 : Nat → Prop} {H0 : Heap} {a : Array Value} {pc : Nat} {ls : Array Slot} {st0 rest : List Value}
theorem vx_keep {st₀ t T' : State} {L : List Loc} (h0 : st₀.heap = H) (e1 : T'.heap = t.heap) (hS : va_S A0 H0 H locs) (hA : ∀ q, q < H.size → A1 q → A0 q) (hf : ∀ q, free q → A0 q) (hL : ∀ q ∈ L, free q.base) (hF : va_F A1 st₀ t) :
    H.size ≤ T'.heap.size ∧ (∀ q : Nat, q < H.size → ¬ A1 q → T'.heap[q]? = H[q]?) ∧ va_S A0 H0 T'.heap (locs ++ L) := by
  obtain ⟨hz, hk⟩ := hF
  rw [h0] at hz hk
  exact ⟨by rw [e1]; exact hz, fun q h1 h2 => by rw [e1]; exact hk q h1 h2,
    ⟨Nat.le_trans hS.1 (by rw [e1]; exact hz), fun q h1 h2 => by rw [e1, hk q (Nat.lt_of_lt_of_le h1 hS.1) (fun z => h2 (hA q (Nat.lt_of_lt_of_le h1 hS.1) z))]; exact hS.2.1 q h1 h2, fun q hq => by
      rcases List.mem_append.mp hq with h | h
      · exact hS.2.2 q h
      · exact hf _ (hL q h)⟩⟩
theorem vx_calli {S SX : Type} {post : Int32 → S → Prop} {px : SX → Prop} {B : S → State → Prop} {BX : String → SX → State → Prop} {AX : Nat → Prop} (hr : vx_Run p l e R s m args below meth c H locs cells slots mc ms (F0 m pc ls st0) rest (va_Qi post B A1 a) (vx_X px BX AX) free) (hS : va_S A0 H0 H locs) (hA : ∀ q, q < H.size → A1 q → A0 q) (hf : ∀ q, free q → A0 q) (hAX : ∀ q, q < H.size → AX q → A0 q)
    (kx : ∀ (E : String) (ce : Cell) (q9 : Addr) (u : SX) (t : State) (H1 : Heap) (locs1 : List Loc), t.heap = H1 → s.vm.Alike t.vm → px u → BX E u t → H.size ≤ H1.size → (∀ q : Nat, q < H.size → ¬ AX q → H1[q]? = H[q]?) → va_S A0 H0 H1 locs1 → H1[q9]? = some ce → ce.vm = .none → s.vm.findClass E = some ce.cls → vx_W p l e R s m args below meth c H1 locs1 (cells + mc) (slots + ms) Q (F0 m pc ls rest) q9)
    (kk : ∀ (r : Int32) (u : S) (t : State) (H1 : Heap) (locs1 : List Loc), t.heap = H1 → s.vm.Alike t.vm → post r u → B u t → H.size ≤ H1.size → (∀ q : Nat, q < H.size → ¬ A1 q → H1[q]? = H[q]?) → va_S A0 H0 H1 locs1 → W p l e R s m args below meth c H1 locs1 (cells + mc) (slots + ms) Q (F0 m (pc + 3) ls (.int r :: rest))) : W p l e R s m args below meth c H locs cells slots Q (F0 m pc ls st0) := by
  intro T hT X
  rcases hr T hT X with ⟨v, st₀, t, T', L, h0, X', hL, e1, e2, ⟨⟨r, u, hv, hp, hb⟩, hF⟩, st⟩ | ⟨q, st₀, t, T', L, E, ce, h0, X', hL, e1, e2, ⟨u, hp, hb, hF⟩, hce, hcv, hcl, st⟩
  · cases hv
    obtain ⟨k1, k2, k3⟩ := vx_keep h0 e1 hS hA hf hL hF
    obtain ⟨t2, a1, b1⟩ := kk r u t T'.heap (locs ++ L) e1.symm (by rw [← e2]; exact X'.warmed.alike) hp hb k1 k2 k3 T' rfl X'
    exact ⟨t2, st t2 a1, b1⟩
  · obtain ⟨k1, k2, k3⟩ := vx_keep h0 e1 hS hAX hf hL hF
    obtain ⟨t2, a1, b1⟩ := kx E ce q u t T'.heap (locs ++ L) e1.symm (by rw [← e2]; exact X'.warmed.alike) hp hb k1 k2 k3 (by rw [e1]; exact hce) hcv hcl T' rfl X'
    exact ⟨t2, st.trans a1, b1⟩
theorem vx_calll {S SX : Type} {post : Int64 → S → Prop} {px : SX → Prop} {B : S → State → Prop} {BX : String → SX → State → Prop} {AX : Nat → Prop} (hr : vx_Run p l e R s m args below meth c H locs cells slots mc ms (F0 m pc ls st0) rest (va_Ql post B A1 a) (vx_X px BX AX) free) (hS : va_S A0 H0 H locs) (hA : ∀ q, q < H.size → A1 q → A0 q) (hf : ∀ q, free q → A0 q) (hAX : ∀ q, q < H.size → AX q → A0 q)
    (kx : ∀ (E : String) (ce : Cell) (q9 : Addr) (u : SX) (t : State) (H1 : Heap) (locs1 : List Loc), t.heap = H1 → s.vm.Alike t.vm → px u → BX E u t → H.size ≤ H1.size → (∀ q : Nat, q < H.size → ¬ AX q → H1[q]? = H[q]?) → va_S A0 H0 H1 locs1 → H1[q9]? = some ce → ce.vm = .none → s.vm.findClass E = some ce.cls → vx_W p l e R s m args below meth c H1 locs1 (cells + mc) (slots + ms) Q (F0 m pc ls rest) q9)
    (kk : ∀ (r : Int64) (u : S) (t : State) (H1 : Heap) (locs1 : List Loc), t.heap = H1 → s.vm.Alike t.vm → post r u → B u t → H.size ≤ H1.size → (∀ q : Nat, q < H.size → ¬ A1 q → H1[q]? = H[q]?) → va_S A0 H0 H1 locs1 → W p l e R s m args below meth c H1 locs1 (cells + mc) (slots + ms) Q (F0 m (pc + 3) ls (.long r :: rest))) : W p l e R s m args below meth c H locs cells slots Q (F0 m pc ls st0) := by
  intro T hT X
  rcases hr T hT X with ⟨v, st₀, t, T', L, h0, X', hL, e1, e2, ⟨⟨r, u, hv, hp, hb⟩, hF⟩, st⟩ | ⟨q, st₀, t, T', L, E, ce, h0, X', hL, e1, e2, ⟨u, hp, hb, hF⟩, hce, hcv, hcl, st⟩
  · cases hv
    obtain ⟨k1, k2, k3⟩ := vx_keep h0 e1 hS hA hf hL hF
    obtain ⟨t2, a1, b1⟩ := kk r u t T'.heap (locs ++ L) e1.symm (by rw [← e2]; exact X'.warmed.alike) hp hb k1 k2 k3 T' rfl X'
    exact ⟨t2, st t2 a1, b1⟩
  · obtain ⟨k1, k2, k3⟩ := vx_keep h0 e1 hS hAX hf hL hF
    obtain ⟨t2, a1, b1⟩ := kx E ce q u t T'.heap (locs ++ L) e1.symm (by rw [← e2]; exact X'.warmed.alike) hp hb k1 k2 k3 (by rw [e1]; exact hce) hcv hcl T' rfl X'
    exact ⟨t2, st.trans a1, b1⟩
theorem vx_callf {S SX : Type} {post : UInt32 → S → Prop} {px : SX → Prop} {B : S → State → Prop} {BX : String → SX → State → Prop} {AX : Nat → Prop} (hr : vx_Run p l e R s m args below meth c H locs cells slots mc ms (F0 m pc ls st0) rest (va_Qf post B A1 a) (vx_X px BX AX) free) (hS : va_S A0 H0 H locs) (hA : ∀ q, q < H.size → A1 q → A0 q) (hf : ∀ q, free q → A0 q) (hAX : ∀ q, q < H.size → AX q → A0 q)
    (kx : ∀ (E : String) (ce : Cell) (q9 : Addr) (u : SX) (t : State) (H1 : Heap) (locs1 : List Loc), t.heap = H1 → s.vm.Alike t.vm → px u → BX E u t → H.size ≤ H1.size → (∀ q : Nat, q < H.size → ¬ AX q → H1[q]? = H[q]?) → va_S A0 H0 H1 locs1 → H1[q9]? = some ce → ce.vm = .none → s.vm.findClass E = some ce.cls → vx_W p l e R s m args below meth c H1 locs1 (cells + mc) (slots + ms) Q (F0 m pc ls rest) q9)
    (kk : ∀ (r : UInt32) (u : S) (t : State) (H1 : Heap) (locs1 : List Loc), t.heap = H1 → s.vm.Alike t.vm → post r u → B u t → H.size ≤ H1.size → (∀ q : Nat, q < H.size → ¬ A1 q → H1[q]? = H[q]?) → va_S A0 H0 H1 locs1 → W p l e R s m args below meth c H1 locs1 (cells + mc) (slots + ms) Q (F0 m (pc + 3) ls (.float r :: rest))) : W p l e R s m args below meth c H locs cells slots Q (F0 m pc ls st0) := by
  intro T hT X
  rcases hr T hT X with ⟨v, st₀, t, T', L, h0, X', hL, e1, e2, ⟨⟨r, u, hv, hp, hb⟩, hF⟩, st⟩ | ⟨q, st₀, t, T', L, E, ce, h0, X', hL, e1, e2, ⟨u, hp, hb, hF⟩, hce, hcv, hcl, st⟩
  · cases hv
    obtain ⟨k1, k2, k3⟩ := vx_keep h0 e1 hS hA hf hL hF
    obtain ⟨t2, a1, b1⟩ := kk r u t T'.heap (locs ++ L) e1.symm (by rw [← e2]; exact X'.warmed.alike) hp hb k1 k2 k3 T' rfl X'
    exact ⟨t2, st t2 a1, b1⟩
  · obtain ⟨k1, k2, k3⟩ := vx_keep h0 e1 hS hAX hf hL hF
    obtain ⟨t2, a1, b1⟩ := kx E ce q u t T'.heap (locs ++ L) e1.symm (by rw [← e2]; exact X'.warmed.alike) hp hb k1 k2 k3 (by rw [e1]; exact hce) hcv hcl T' rfl X'
    exact ⟨t2, st.trans a1, b1⟩
theorem vx_calld {S SX : Type} {post : UInt64 → S → Prop} {px : SX → Prop} {B : S → State → Prop} {BX : String → SX → State → Prop} {AX : Nat → Prop} (hr : vx_Run p l e R s m args below meth c H locs cells slots mc ms (F0 m pc ls st0) rest (va_Qd post B A1 a) (vx_X px BX AX) free) (hS : va_S A0 H0 H locs) (hA : ∀ q, q < H.size → A1 q → A0 q) (hf : ∀ q, free q → A0 q) (hAX : ∀ q, q < H.size → AX q → A0 q)
    (kx : ∀ (E : String) (ce : Cell) (q9 : Addr) (u : SX) (t : State) (H1 : Heap) (locs1 : List Loc), t.heap = H1 → s.vm.Alike t.vm → px u → BX E u t → H.size ≤ H1.size → (∀ q : Nat, q < H.size → ¬ AX q → H1[q]? = H[q]?) → va_S A0 H0 H1 locs1 → H1[q9]? = some ce → ce.vm = .none → s.vm.findClass E = some ce.cls → vx_W p l e R s m args below meth c H1 locs1 (cells + mc) (slots + ms) Q (F0 m pc ls rest) q9)
    (kk : ∀ (r : UInt64) (u : S) (t : State) (H1 : Heap) (locs1 : List Loc), t.heap = H1 → s.vm.Alike t.vm → post r u → B u t → H.size ≤ H1.size → (∀ q : Nat, q < H.size → ¬ A1 q → H1[q]? = H[q]?) → va_S A0 H0 H1 locs1 → W p l e R s m args below meth c H1 locs1 (cells + mc) (slots + ms) Q (F0 m (pc + 3) ls (.double r :: rest))) : W p l e R s m args below meth c H locs cells slots Q (F0 m pc ls st0) := by
  intro T hT X
  rcases hr T hT X with ⟨v, st₀, t, T', L, h0, X', hL, e1, e2, ⟨⟨r, u, hv, hp, hb⟩, hF⟩, st⟩ | ⟨q, st₀, t, T', L, E, ce, h0, X', hL, e1, e2, ⟨u, hp, hb, hF⟩, hce, hcv, hcl, st⟩
  · cases hv
    obtain ⟨k1, k2, k3⟩ := vx_keep h0 e1 hS hA hf hL hF
    obtain ⟨t2, a1, b1⟩ := kk r u t T'.heap (locs ++ L) e1.symm (by rw [← e2]; exact X'.warmed.alike) hp hb k1 k2 k3 T' rfl X'
    exact ⟨t2, st t2 a1, b1⟩
  · obtain ⟨k1, k2, k3⟩ := vx_keep h0 e1 hS hAX hf hL hF
    obtain ⟨t2, a1, b1⟩ := kx E ce q u t T'.heap (locs ++ L) e1.symm (by rw [← e2]; exact X'.warmed.alike) hp hb k1 k2 k3 (by rw [e1]; exact hce) hcv hcl T' rfl X'
    exact ⟨t2, st.trans a1, b1⟩
theorem vx_callv {S SX : Type} {post : S → Prop} {px : SX → Prop} {B : S → State → Prop} {BX : String → SX → State → Prop} {AX : Nat → Prop} (hr : vx_Run p l e R s m args below meth c H locs cells slots mc ms (F0 m pc ls st0) rest (va_Qv post B A1 a) (vx_X px BX AX) free) (hS : va_S A0 H0 H locs) (hA : ∀ q, q < H.size → A1 q → A0 q) (hf : ∀ q, free q → A0 q) (hAX : ∀ q, q < H.size → AX q → A0 q)
    (kx : ∀ (E : String) (ce : Cell) (q9 : Addr) (u : SX) (t : State) (H1 : Heap) (locs1 : List Loc), t.heap = H1 → s.vm.Alike t.vm → px u → BX E u t → H.size ≤ H1.size → (∀ q : Nat, q < H.size → ¬ AX q → H1[q]? = H[q]?) → va_S A0 H0 H1 locs1 → H1[q9]? = some ce → ce.vm = .none → s.vm.findClass E = some ce.cls → vx_W p l e R s m args below meth c H1 locs1 (cells + mc) (slots + ms) Q (F0 m pc ls rest) q9)
    (kk : ∀ (u : S) (t : State) (H1 : Heap) (locs1 : List Loc), t.heap = H1 → s.vm.Alike t.vm → post u → B u t → H.size ≤ H1.size → (∀ q : Nat, q < H.size → ¬ A1 q → H1[q]? = H[q]?) → va_S A0 H0 H1 locs1 → W p l e R s m args below meth c H1 locs1 (cells + mc) (slots + ms) Q (F0 m (pc + 3) ls (rest))) : W p l e R s m args below meth c H locs cells slots Q (F0 m pc ls st0) := by
  intro T hT X
  rcases hr T hT X with ⟨v, st₀, t, T', L, h0, X', hL, e1, e2, ⟨⟨u, hv, hp, hb⟩, hF⟩, st⟩ | ⟨q, st₀, t, T', L, E, ce, h0, X', hL, e1, e2, ⟨u, hp, hb, hF⟩, hce, hcv, hcl, st⟩
  · cases hv
    obtain ⟨k1, k2, k3⟩ := vx_keep h0 e1 hS hA hf hL hF
    obtain ⟨t2, a1, b1⟩ := kk u t T'.heap (locs ++ L) e1.symm (by rw [← e2]; exact X'.warmed.alike) hp hb k1 k2 k3 T' rfl X'
    exact ⟨t2, st t2 a1, b1⟩
  · obtain ⟨k1, k2, k3⟩ := vx_keep h0 e1 hS hAX hf hL hF
    obtain ⟨t2, a1, b1⟩ := kx E ce q u t T'.heap (locs ++ L) e1.symm (by rw [← e2]; exact X'.warmed.alike) hp hb k1 k2 k3 (by rw [e1]; exact hce) hcv hcl T' rfl X'
    exact ⟨t2, st.trans a1, b1⟩
/-- caught by the row x of this method's table; the rows ahead don't take it -/
theorem vx_catch {own name : String} {E : String} {ce : Cell} {q : Addr} (hown : s.vm.findClass own = some m.cls) (pre : List ExceptionTableEntry) (x : ExceptionTableEntry) (suf : List ExceptionTableEntry) (hsplit : c.exceptionTable.toList = pre ++ x :: suf)
    (hpass : ∀ z ∈ pre, covers z pc = false ∨ (z.catchType ≠ 0 ∧ ∃ nm : String, (Cond.classLink own z.catchType nm).before args s = true ∧ va_Nc E nm s)) (hx : covers x pc = true) (h0 : x.catchType ≠ 0)
    (hlink : (Cond.classLink own x.catchType name).before args s = true) (hcast : (Cond.castable E name).before args s = true) (hcell : H[q]? = some ce) (hv : ce.vm = .none) (hcl : s.vm.findClass E = some ce.cls)
    (kk : W p l e R s m args below meth c H locs cells slots Q (F0 m x.handlerPc ls [.ref q])) : vx_W p l e R s m args below meth c H locs cells slots Q (F0 m pc ls rest) q := by
  intro T hT X
  have hpl : e.platform.magicAccessors = ({} : Platform).magicAccessors := by rw [X.admits.platform]
  obtain ⟨c3, c4, hc3, hc4, hasg⟩ := Cond.castable_spec hcast
  cases Option.some.inj (hc3.symm.trans hcl)
  obtain ⟨c5, hc5, hcl5⟩ := Cond.classLink_spec hown hlink e.platform hpl
  cases Option.some.inj (hc4.symm.trans hc5)
  obtain ⟨vm', X', st⟩ := X.thenCaughtThrough q (g := F0 m pc ls rest) rfl (Steps.refl _) (by rw [hT]; exact hcell) (by rw [hv]; rfl) (by obtain ⟨k9, h9, -⟩ := Vm.findClass_spec hcl; exact ⟨k9, h9⟩) pre x suf hsplit
    (fun z hz => by
      rcases hpass z hz with h | ⟨hz0, nm, hl1, hn1⟩
      · exact Or.inl h
      · obtain ⟨c6, hc6, hcl6⟩ := Cond.classLink_spec hown hl1 e.platform hpl
        obtain ⟨a8, b8, h1, h2, h3⟩ := hn1
        cases Option.some.inj (h1.symm.trans hcl)
        cases Option.some.inj (h2.symm.trans hc6)
        exact Or.inr ⟨hz0, _, hcl6, h3⟩) hx (Or.inr ⟨h0, c4, hcl5, hasg⟩)
  obtain ⟨t, a1, b1⟩ := kk (T.setVm vm') hT X'
  exact ⟨t, st.trans a1, b1⟩
end Rows
section Ends
variable {p : Program} {l : Launch} {e : Env} {R : Room} {s : State} {m : MethodId} {args : Array Value} {below : List Frame} {meth : Method} {c : Code} {H : Heap} {locs : List Loc} {cells slots : Nat} {Q : State → Prop}
variable {mc ms : Nat} {free : Addr → Prop} {A0 A1 : Nat → Prop} {H0 : Heap} {a : Array Value} {ls : Array Slot} {st0 rest : List Value}
variable {Qc : Array Value → State → Outcome → State → Prop} {XC : String → State → State → Prop}
/-- what a body that may throw owes at its end -/
def vx_MQ (below : List Frame) (Qc : Array Value → State → Outcome → State → Prop) (XC : String → State → State → Prop) (a : Array Value) (s : State) (mc ms : Nat) (free : Addr → Prop) : State → Prop := fun t =>
  ∃ o, t.status = .running ∧ Ended t below o ∧ vx_Q Qc XC mc ms free a s o t
theorem vx_ret {g : JFrame} {mc ms : Nat} (k : W p l e R s m args below meth c H locs cells slots (MQ below Qc args s mc ms free) g) : W p l e R s m args below meth c H locs cells slots (vx_MQ below Qc XC args s mc ms free) g := by
  intro T hT X
  obtain ⟨t, a1, o, b1, b2, b3, b4⟩ := k T hT X
  exact ⟨t, a1, o, b1, b2, Or.inl ⟨b3, b4⟩⟩
/-- not caught here: it goes on to the caller -/
theorem vx_widen {g : JFrame} {q : Addr} {k n : Nat} (h1 : cells ≤ k) (h2 : slots ≤ n) (kk : vx_W p l e R s m args below meth c H locs k n Q g q) : vx_W p l e R s m args below meth c H locs cells slots Q g q := fun T hT X => kk T hT (stand_widen X h1 h2)
theorem vx_out {pc : Nat} {E : String} {ce : Cell} {q : Addr} {mc ms : Nat} (hout : ∀ x ∈ c.exceptionTable.toList, covers x pc = false) (hlocks : meth.locks = false) (hcell : H[q]? = some ce) (hv : ce.vm = .none) (hcl : s.vm.findClass E = some ce.cls)
    (hx : ∀ t : State, t.heap = H → s.vm.Alike t.vm → XC E s t) (hf : ∀ z ∈ locs, free z.base) (hc : cells ≤ mc) (hs : slots ≤ ms) :
    vx_W p l e R s m args below meth c H locs cells slots (vx_MQ below Qc XC args s mc ms free) (F0 m pc ls rest) q := by
  intro T hT X
  obtain ⟨st1, hrun, hend, hW, hsm⟩ := X.leaveThrown q (g := F0 m pc ls rest) rfl rfl rfl hout hlocks
  have hcell9 : (T.setFrames (.throwing q :: below)).heap[q]? = some ce := by
    show T.heap[q]? = some ce
    rw [hT]; exact hcell
  exact ⟨_, st1, .threw q, hrun, hend, Or.inr ⟨q, rfl, E, ce, locs, hx _ hT hW.alike, hcell9, hv, hcl, hW, hsm.mono hc hs, hf⟩⟩
theorem vx_frame {U : State} {k n : Nat} (h : s.sameButNew ({ U with vm := s.vm } : State) locs k n) : s.heap.size ≤ U.heap.size ∧ ∀ q : Nat, q < s.heap.size → (∀ z ∈ locs, z.base ≠ q) → U.heap[q]? = s.heap[q]? := by
  obtain ⟨-, h2, -, -, -, h6⟩ := h
  refine ⟨h2, fun q hq hz => ?_⟩
  obtain ⟨c9, e1, e2, e3, e4⟩ := h6 q _ (Array.getElem?_eq_getElem hq)
  have hs : c9.slots = (s.heap[q]).slots := Array.ext_getElem? fun i => e4 i fun hm => hz _ hm rfl
  have h9 : c9 = s.heap[q] := by
    rw [hs] at e2
    exact e2
  have e5 : U.heap[q]? = some c9 := e1
  rw [e5, h9, Array.getElem?_eq_getElem hq]
/-- the words of a throw but the four that speak of the heap -/
def vx_no (w : Cond) : Bool := decide (w ≠ .isRef (.static Bundle.tN "UNASSIGNED_STACK" Bundle.steD)) && decide (w ≠ .isRef (.static Bundle.tN "SUPPRESSED_SENTINEL" Bundle.listD)) && decide (w ≠ .laysStatic Bundle.tN "UNASSIGNED_STACK" Bundle.steD) && decide (w ≠ .laysStatic Bundle.tN "SUPPRESSED_SENTINEL" Bundle.listD)
def vx_at0 (own : String) (ic : Nat) (X : String) (names : List String) : List Cond := (Bundle.ownAtoms0 own ic X names).filter vx_no
def vx_atS (own : String) (ic : Nat) (X : String) (names : List String) : List Cond := (Bundle.ownAtoms own ic X names).filter vx_no
/-- a word that the tables alone decide, or a good one -/
def vx_ot (w : Cond) : Bool := w.onTables || goodWord w
theorem vx_ot_at {args a' : Array Value} {s U : State} {w : Cond} (hW : s.WarmedH U.vm) (hvm : s.vm = U.vm) (hg : vx_ot w = true) (h : w.before args s = true) : w.before a' U = true := by
  simp only [vx_ot, Bool.or_eq_true] at hg
  rcases hg with hg | hg
  · exact va_tabs hg hvm h
  · exact word_at hW (good_of_word hg) h
/-- a list's words: the good ones out of the method's own list, the others by premises of their own -/
theorem vx_hat {args : Array Value} {s : State} {L B : List Cond} (h1 : ∀ w ∈ L.filter goodWord, w.before args s = true) (h2 : ∀ w ∈ L.filter (fun w => !goodWord w), w ∈ B) (h3 : ∀ w ∈ B, w.before args s = true) : ∀ w ∈ L, w.before args s = true := by
  intro w hw
  by_cases g : goodWord w = true
  · exact h1 w (List.mem_filter.mpr ⟨hw, g⟩)
  · refine h3 w (h2 w (List.mem_filter.mpr ⟨hw, ?_⟩))
    show (!goodWord w) = true
    cases hgw : goodWord w
    · rfl
    · exact absurd hgw g
theorem vx_c {args : Array Value} {s : State} {w : Cond} {B : List Cond} (h : w.before args s = true) (t : ∀ w ∈ B, w.before args s = true) : ∀ w' ∈ w :: B, w'.before args s = true := fun w' h' => (List.mem_cons.mp h').elim (fun e => by rw [e]; exact h) (t w')
theorem vx_n {args : Array Value} {s : State} : ∀ w ∈ ([] : List Cond), w.before args s = true := fun _ h => nomatch h
theorem vx_own {args : Array Value} {s : State} {L : List Cond} (h1 : ∀ w ∈ L.filter vx_no, w.before args s = true)
    (hU : (Cond.isRef (.static Bundle.tN "UNASSIGNED_STACK" Bundle.steD)).before args s = true) (hN : (Cond.isRef (.static Bundle.tN "SUPPRESSED_SENTINEL" Bundle.listD)).before args s = true)
    (lU : (Cond.laysStatic Bundle.tN "UNASSIGNED_STACK" Bundle.steD).before args s = true) (lN : (Cond.laysStatic Bundle.tN "SUPPRESSED_SENTINEL" Bundle.listD).before args s = true) : ∀ w ∈ L, w.before args s = true := by
  intro w hw
  by_cases e1 : w = .isRef (.static Bundle.tN "UNASSIGNED_STACK" Bundle.steD)
  · rw [e1]; exact hU
  · by_cases e2 : w = .isRef (.static Bundle.tN "SUPPRESSED_SENTINEL" Bundle.listD)
    · rw [e2]; exact hN
    · by_cases e3 : w = .laysStatic Bundle.tN "UNASSIGNED_STACK" Bundle.steD
      · rw [e3]; exact lU
      · by_cases e4 : w = .laysStatic Bundle.tN "SUPPRESSED_SENTINEL" Bundle.listD
        · rw [e4]; exact lN
        · exact h1 w (List.mem_filter.mpr ⟨hw, by unfold vx_no; rw [decide_eq_true e1, decide_eq_true e2, decide_eq_true e3, decide_eq_true e4]; rfl⟩)
/-- where a static field lies, its class's statics cell in H -/
def vx_L (C n d : String) (A : Nat → Prop) (U : State) (H : Heap) : Prop := ∃ (c : ClassId) (k : Class) (i : Nat) (f : Field) (a : Nat) (cell : Cell), U.vm.findClass C = some c ∧ U.fieldFound? C n d = some (c, k, i, f) ∧ f.isStatic = true ∧ k.statics = some a ∧ H[a]? = some cell ∧ cell.vm.isStatics = true ∧ cell.cls = c ∧ f.slot < cell.slots.size ∧ k.staticTypes[f.slot]? = some f.type ∧ ¬ A a
theorem vx_L.moved {C n d : String} {A : Nat → Prop} {u U : State} {H : Heap} (hvm : u.vm.Alike U.vm) (h : vx_L C n d A u H) : vx_L C n d A U H := by
  obtain ⟨c, k, i, f, a, cell, h1, h2, h3, h4, h5, h6, h7, h8, h9, h10⟩ := h
  obtain ⟨k', hi', he⟩ := State.fieldFound?_setVm hvm h2
  exact ⟨c, k', i, f, a, cell, by rw [hvm.findClass]; exact h1, hi', h3, by rw [he]; exact h4, h5, h6, h7, h8, by rw [he]; exact h9, h10⟩
theorem vx_L.kept {C n d : String} {A : Nat → Prop} {U : State} {H H1 : Heap} (h : vx_L C n d A U H) (hq : ∀ a : Nat, a < H.size → ¬ A a → H1[a]? = H[a]?) : vx_L C n d A U H1 := by
  obtain ⟨c, k, i, f, a, cell, h1, h2, h3, h4, h5, h6, h7, h8, h9, h10⟩ := h
  exact ⟨c, k, i, f, a, cell, h1, h2, h3, h4, by rw [hq a (Array.getElem?_eq_some_iff.mp h5).1 h10]; exact h5, h6, h7, h8, h9, h10⟩
theorem vx_L.narrow {C n d : String} {A B : Nat → Prop} {U : State} {H : Heap} (h : vx_L C n d A U H) (hAB : ∀ q, B q → A q) : vx_L C n d B U H := by
  obtain ⟨c, k, i, f, a, cell, h1, h2, h3, h4, h5, h6, h7, h8, h9, h10⟩ := h
  exact ⟨c, k, i, f, a, cell, h1, h2, h3, h4, h5, h6, h7, h8, h9, fun z => h10 (hAB _ z)⟩
theorem vx_L.word {C n d : String} {A : Nat → Prop} {s : State} {args : Array Value} (h : vx_L C n d A s s.heap) : (Cond.laysStatic C n d).before args s = true := by
  obtain ⟨c, k, i, f, a, cell, h1, h2, h3, h4, h5, h6, h7, h8, h9, -⟩ := h
  show (Cond.laysStatic C n d).holds args s none s [] = true
  exact Cond.laysStatic_of h1 h2 h3 h4 h5 h6 h7 h8 h9
/-- .. and what it holds: null or some reference -/
def vx_Zq (C n d : String) (A : Nat → Prop) (U : State) (H : Heap) : Prop := va_Zq C n d A U H ∧ vx_L C n d A U H
theorem vx_Zq.moved {C n d : String} {A : Nat → Prop} {u U : State} {H : Heap} (hvm : u.vm.Alike U.vm) (h : vx_Zq C n d A u H) : vx_Zq C n d A U H := ⟨va_Zq.moved hvm h.1, vx_L.moved hvm h.2⟩
theorem vx_Zq.kept {C n d : String} {A : Nat → Prop} {U : State} {H H1 : Heap} (h : vx_Zq C n d A U H) (hq : ∀ a : Nat, a < H.size → ¬ A a → H1[a]? = H[a]?) : vx_Zq C n d A U H1 := ⟨va_Zq.kept h.1 hq, vx_L.kept h.2 hq⟩
theorem vx_Zq.narrow {C n d : String} {A B : Nat → Prop} {U : State} {H : Heap} (h : vx_Zq C n d A U H) (hAB : ∀ q, B q → A q) : vx_Zq C n d B U H := ⟨va_Zq.narrow h.1 hAB, vx_L.narrow h.2 hAB⟩
theorem vx_Zqof {args : Array Value} {s : State} {C n d : String} {A : Nat → Prop} (hl : (Cond.laysStatic C n d).before args s = true) (hini : (Cond.initialized C).before args s = true) (h : (Cond.isRef (.static C n d)).before args s = true) (hA : ∀ a : Nat, a < s.heap.size → ¬ A a) : vx_Zq C n d A s s.heap := by
  refine ⟨va_Zqof hl hini h hA, ?_⟩
  obtain ⟨c, k, i, f, a, cell, h1, h2, h3, h4, h5, h6, h7, h8, h9⟩ := Cond.laysStatic_spec hl
  exact ⟨c, k, i, f, a, cell, h1, h2, h3, h4, h5, h6, h7, h8, h9, hA a (Array.getElem?_eq_some_iff.mp h5).1⟩
theorem vx_isRef {C n d : String} {v : Value} {A : Nat → Prop} {s : State} {args : Array Value} (h : va_Z C n d v A s s.heap) (hv : v.isRef = true) : (Cond.isRef (.static C n d)).before args s = true := by
  obtain ⟨cf, kf, fi, f, a, cell, h1, h2, h3, h4, h5, h6, h7, -⟩ := h
  have he : (Term.static C n d).eval args s none [] s = some v := by
    simp [Term.eval, State.fieldNamed?, h1, h2, h4, h5, h6, h7]
  simp only [Cond.before, Cond.holds, Cond.value, he]
  cases v <;> simp_all [Value.isRef]
theorem vx_isRefq {C n d : String} {A : Nat → Prop} {s : State} {args : Array Value} (h : va_Zq C n d A s s.heap) : (Cond.isRef (.static C n d)).before args s = true := by
  rcases h with h | ⟨t, h⟩
  · exact vx_isRef h rfl
  · exact vx_isRef h rfl
/-- the same frame, seen from here: as if the method were called anew in this heap -/
theorem vx_rebase {T : State} (X : Stand p l e R s m args below meth c T locs cells slots) {R' : Room} (hf : R'.frames ≤ R.frames) (hl : R'.locals ≤ R.locals) (hc : cells + R'.cells ≤ R.cells) (hs : slots + R'.slots ≤ R.slots) :
    Stand p l e R' ((T.setVm s.vm).setFrames (.invoking m args :: below)) m args below meth c T [] 0 0 := by
  have htop : (T.setVm s.vm).topJava?.isSome := X.here.top
  have hF : ((T.setVm s.vm).setFrames (.invoking m args :: below)).frames = .invoking m args :: below := State.frames_setFrames _ (State.cur_lt_of_top htop)
  obtain ⟨g₀, hg0⟩ := Option.isSome_iff_exists.mp htop
  obtain ⟨r, hr⟩ := State.topJava?_eq_some.mp hg0
  have hl9 : e.platform.stackLimits (T.setVm s.vm).me = e.platform.stackLimits s.me := X.limits
  have hb9 : (T.setVm s.vm).me.stackBytes = s.me.stackBytes := X.bytes
  refine ⟨X.admits, X.cas, X.clock, hF, ?_, X.hears, X.method, X.code, X.here, X.tail, X.warmed, ?_, ?_, ?_⟩
  · have h := X.room
    have hU : ((T.setVm s.vm).setFrames (.invoking m args :: below)).localsInUse = s.localsInUse := by
      rw [State.localsInUse_invoking hF (meth := meth) (c := c) X.method X.code, State.localsInUse_invoking X.frames X.method X.code]
    simp only [State.hasRoom, Bool.and_eq_true, decide_eq_true_eq] at h ⊢
    obtain ⟨⟨⟨⟨h1, h2, h3, h4, h5, h6⟩, h7⟩, h8⟩, h9⟩ := h
    rw [X.frames, List.length_cons] at h2 h3
    have q1 := X.heapSize
    have q2 := X.used
    simp only [hF, hU, List.length_cons, State.stackLimits_setFrames, State.stackBytes_setFrames, hl9, hb9]
    refine ⟨⟨⟨⟨by omega, by omega, by omega, by omega, by omega, h6⟩, ?_⟩, ?_⟩, X.book⟩
    · show T.heap.size + R'.cells ≤ e.platform.maxCells
      omega
    · show T.slotsUsed + R'.slots ≤ e.platform.maxSlots
      omega
  · rw [State.stackLimits_setFrames]; rfl
  · rw [State.stackBytes_setFrames]; rfl
  · refine ⟨?_, Nat.le_refl _, Nat.le_refl _, ?_, ?_, fun a c9 h9 => ⟨c9, h9, rfl, rfl, fun _ _ => rfl⟩⟩
    · obtain ⟨t, ht, -⟩ := State.frames_cons hr
      show T.setVm s.vm = { ((T.setVm s.vm).setFrames (.invoking m args :: below)).setFrames (T.setVm s.vm).frames with heap := T.heap, slotsUsed := T.slotsUsed }
      rw [State.setFrames_setFrames, State.setFrames_self ht]
      rfl
    · show T.slotsUsed = T.slotsUsed + ((T.heap.toList.drop T.heap.size).map (·.slots.size)).sum
      rw [List.drop_eq_nil_of_le (Nat.le_of_eq Array.length_toList)]
      rfl
    · show ((T.heap.toList.drop T.heap.size).map (·.slots.size)).sum ≤ 0
      rw [List.drop_eq_nil_of_le (Nat.le_of_eq Array.length_toList)]
      exact Nat.le_refl _
/-- 'throw new E()': new; dup; invokespecial; athrow -/
theorem vx_throw0 {cc : ByteArray} {pc : Nat} (hexec : p.tables.exec = Jvm.exec) (hb : c.code = cc) (hl : l.stackTraces = false) {own cls : String} {names : List String} {ik ic mc ms : Nat} {A : Nat → Prop}
    (hown : s.vm.findClass own = some m.cls) (hcls : Bundle.fit cls = true) (hnames : ∀ n ∈ names, Bundle.fit n = true)
    (hk : (Cond.classLink own ik cls).before args s = true) (hini : (Cond.initialized cls).before args s = true) (hat : ∀ w ∈ vx_at0 own ic cls names, w.before args s = true)
    (hgood : ∀ w ∈ Cond.classLink own ik cls :: Cond.initialized cls :: vx_at0 own ic cls names, vx_ot w = true)
    (hU : vx_Zq Bundle.tN "UNASSIGNED_STACK" Bundle.steD A s s.heap) (hN : vx_Zq Bundle.tN "SUPPRESSED_SENTINEL" Bundle.listD A s s.heap) (hS : va_S A s.heap H locs) (hsize : ls.size = c.maxLocals)
    (d0 : decode cc pc = .ok (.new ik, 3)) (d3 : decode cc (pc + 3) = .ok (.dup, 1)) (d4 : decode cc (pc + 4) = .ok (.invokespecial ic, 3)) (d7 : decode cc (pc + 7) = .ok (.athrow, 1))
    (hout : ∀ x ∈ c.exceptionTable.toList, covers x (pc + 7) = false)
    (hRframes : names.length + 3 < R.frames) (hRlocals : (rest.map fun v => v.category).sum + (13 * (names.length + 1) + 42) ≤ R.locals) (hRcells : cells + 1 ≤ R.cells) (hRslots : slots + 6 ≤ R.slots) (hlocks : meth.locks = false)
    (hx : ∀ t : State, s.vm.Alike t.vm → H.size ≤ t.heap.size → (∀ q : Nat, q < H.size → t.heap[q]? = H[q]?) → XC cls s t)
    (hf : ∀ z ∈ locs, free z.base) (hc : cells + 1 ≤ mc) (hs : slots + 6 ≤ ms) :
    W p l e R s m args below meth c H locs cells slots (vx_MQ below Qc XC args s mc ms free) (F0 m pc ls rest) := by
  intro T hT X
  have htr : e.platform.stackTraces = false := (show e.platform.stackTraces = l.stackTraces by rw [X.admits.platform]).trans hl
  have Y := vx_rebase X (R' := { frames := R.frames, locals := R.locals, cells := 1, slots := 6 }) (Nat.le_refl _) (Nat.le_refl _) hRcells hRslots
  obtain ⟨s', hA⟩ : ∃ z, z = (T.setVm s.vm).setFrames (.invoking m args :: below) := ⟨_, rfl⟩
  rw [← hA] at Y
  have hvm : s'.vm = s.vm := by rw [hA]; rfl
  have hhp : s'.heap = H := by rw [hA]; exact hT
  have hW0 : s.WarmedH s'.vm := by rw [hvm]; exact State.WarmedH.refl s
  have hat' : ∀ w ∈ vx_at0 own ic cls names, w.before args s' = true := fun w hw => vx_ot_at hW0 hvm.symm (hgood w (List.mem_cons_of_mem _ (List.mem_cons_of_mem _ hw))) (hat w hw)
  have hk' : (Cond.classLink own ik cls).before args s' = true := vx_ot_at hW0 hvm.symm (hgood _ List.mem_cons_self) hk
  have hini' : (Cond.initialized cls).before args s' = true := vx_ot_at hW0 hvm.symm (hgood _ (List.mem_cons_of_mem _ List.mem_cons_self)) hini
  have hU' : vx_Zq Bundle.tN "UNASSIGNED_STACK" Bundle.steD A s' s'.heap := by rw [hhp]; exact vx_Zq.moved hW0.alike (hU.kept hS.2.1)
  have hN' : vx_Zq Bundle.tN "SUPPRESSED_SENTINEL" Bundle.listD A s' s'.heap := by rw [hhp]; exact vx_Zq.moved hW0.alike (hN.kept hS.2.1)
  have h : ∀ w ∈ Bundle.ownAtoms0 own ic cls names, w.before args s' = true := vx_own hat' (vx_isRefq hU'.1) (vx_isRefq hN'.1) hU'.2.word hN'.2.word
  have hown' : s'.vm.findClass own = some m.cls := by rw [hvm]; exact hown
  have hins : (Cond.instantiable cls 6).before args s' = true := h _ (by simp [Bundle.ownAtoms0])
  obtain ⟨vm₁, cX, kX, hfX, hkX, -, -, X₁, st1⟩ := Y.newCold hexec (own := own) (C := cls) (index := ik) (n := 6) hown' hk' hins hini'
    (g := F0 m pc ls rest) rfl (by rw [hb]; exact d0) (Nat.le_refl _) (Nat.le_refl _)
  generalize hT1 : (T.setVm vm₁).pushCell { cls := cX, slots := kX.instanceTypes.map defaultValue, vm := .none } = T1 at X₁ st1
  have hcat : (Value.ref T.heap.size).category = 1 := rfl
  have hcellA : T1.heap[T.heap.size]? = some (freshCell cX kX) := by rw [← hT1]; exact State.heap_pushCell_size _ _
  have d3' : decode c.code (pc + 3) = .ok (.dup, 1) := by rw [hb]; exact d3
  obtain ⟨U, hsteps, hrun, hend, hW, hsame, ce, hce, hO⟩ := X₁.ctorThrow0 hexec htr (own := own) (cls := cls) (names := names) (ic := ic) hown' hcls hnames h (fun x hx => nomatch hx) hfX hkX hcellA (by rw [hhp, hT]; exact Nat.le_refl _)
    (g := { method := m, pc := pc + 4, locals := ls, stack := .ref T.heap.size :: .ref T.heap.size :: rest, locked := none }) rfl hsize rfl rfl (rest := rest) rfl
    (by rw [hb]; exact d4) (by rw [hb]; exact d7) hout hRframes (by simp only [List.map_cons, List.sum_cons, hcat]; omega) hlocks
  obtain ⟨f1, f2⟩ := vx_frame hsame
  rw [hhp] at f1 f2
  have hWs : s.WarmedH U.vm := State.WarmedH.trans hW0 hW
  have hcl : s.vm.findClass cls = some ce.cls := by
    have h9 := hO.cls
    rw [hvm] at h9
    exact h9
  have hall : s.sameButNew ({ U with vm := s.vm } : State) locs mc ms := by
    subst hA
    obtain ⟨e1, e2⟩ := hsame
    rw [State.setFrames_setFrames] at e1
    have h2 : (T.setVm s.vm).sameButNew ({ U with vm := s.vm } : State) [] (0 + 1) (0 + 6) := ⟨e1, e2⟩
    have h3 := X.same.trans h2
    rw [List.append_nil] at h3
    exact h3.mono hc hs
  refine ⟨U, ?_, .threw T.heap.size, hrun, hend, Or.inr ⟨T.heap.size, rfl, cls, ce, locs, hx U hWs.alike f1 (fun q hq => f2 q hq (fun z hz => nomatch hz)), hce, hO.vm, hcl, hWs, hall, hf⟩⟩
  refine st1 _ ?_
  show Steps p.tables e below (T1.setTop { method := m, pc := pc + 3, locals := ls, stack := .ref T.heap.size :: rest, locked := none }) _
  jvm_step X₁.here [X₁.here.top, hexec, d3', Value.category]
  exact hsteps
/-- 'throw new E("text")': new; dup; ldc; invokespecial; athrow -/
theorem vx_throwS {cc : ByteArray} {pc : Nat} (hexec : p.tables.exec = Jvm.exec) (hb : c.code = cc) (hl : l.stackTraces = false) {own cls text : String} {names : List String} {ik is ic mc ms sa : Nat} {A : Nat → Prop}
    (hown : s.vm.findClass own = some m.cls) (hcls : Bundle.fit cls = true) (hnames : ∀ n ∈ names, Bundle.fit n = true)
    (hk : (Cond.classLink own ik cls).before args s = true) (hini : (Cond.initialized cls).before args s = true) (hstr : vk_R own is text sa s) (hat : ∀ w ∈ vx_atS own ic cls names, w.before args s = true)
    (hgood : ∀ w ∈ Cond.classLink own ik cls :: Cond.initialized cls :: vx_atS own ic cls names, vx_ot w = true)
    (hU : vx_Zq Bundle.tN "UNASSIGNED_STACK" Bundle.steD A s s.heap) (hN : vx_Zq Bundle.tN "SUPPRESSED_SENTINEL" Bundle.listD A s s.heap) (hS : va_S A s.heap H locs) (hsize : ls.size = c.maxLocals)
    (d0 : decode cc pc = .ok (.new ik, 3)) (d3 : decode cc (pc + 3) = .ok (.dup, 1)) (d4 : decode cc (pc + 4) = .ok (.ldc is, 2)) (d6 : decode cc (pc + 6) = .ok (.invokespecial ic, 3)) (d9 : decode cc (pc + 9) = .ok (.athrow, 1))
    (hout : ∀ x ∈ c.exceptionTable.toList, covers x (pc + 9) = false)
    (hRframes : names.length + 3 < R.frames) (hRlocals : (rest.map fun v => v.category).sum + (13 * (names.length + 1) + 43) ≤ R.locals) (hRcells : cells + 1 ≤ R.cells) (hRslots : slots + 6 ≤ R.slots) (hlocks : meth.locks = false)
    (hx : ∀ t : State, s.vm.Alike t.vm → H.size ≤ t.heap.size → (∀ q : Nat, q < H.size → t.heap[q]? = H[q]?) → XC cls s t)
    (hf : ∀ z ∈ locs, free z.base) (hc : cells + 1 ≤ mc) (hs : slots + 6 ≤ ms) :
    W p l e R s m args below meth c H locs cells slots (vx_MQ below Qc XC args s mc ms free) (F0 m pc ls rest) := by
  intro T hT X
  have htr : e.platform.stackTraces = false := (show e.platform.stackTraces = l.stackTraces by rw [X.admits.platform]).trans hl
  have Y := vx_rebase X (R' := { frames := R.frames, locals := R.locals, cells := 1, slots := 6 }) (Nat.le_refl _) (Nat.le_refl _) hRcells hRslots
  obtain ⟨s', hA⟩ : ∃ z, z = (T.setVm s.vm).setFrames (.invoking m args :: below) := ⟨_, rfl⟩
  rw [← hA] at Y
  have hvm : s'.vm = s.vm := by rw [hA]; rfl
  have hhp : s'.heap = H := by rw [hA]; exact hT
  have hW0 : s.WarmedH s'.vm := by rw [hvm]; exact State.WarmedH.refl s
  have hat' : ∀ w ∈ vx_atS own ic cls names, w.before args s' = true := fun w hw => vx_ot_at hW0 hvm.symm (hgood w (List.mem_cons_of_mem _ (List.mem_cons_of_mem _ hw))) (hat w hw)
  have hk' : (Cond.classLink own ik cls).before args s' = true := vx_ot_at hW0 hvm.symm (hgood _ List.mem_cons_self) hk
  have hini' : (Cond.initialized cls).before args s' = true := vx_ot_at hW0 hvm.symm (hgood _ (List.mem_cons_of_mem _ List.mem_cons_self)) hini
  have hU' : vx_Zq Bundle.tN "UNASSIGNED_STACK" Bundle.steD A s' s'.heap := by rw [hhp]; exact vx_Zq.moved hW0.alike (hU.kept hS.2.1)
  have hN' : vx_Zq Bundle.tN "SUPPRESSED_SENTINEL" Bundle.listD A s' s'.heap := by rw [hhp]; exact vx_Zq.moved hW0.alike (hN.kept hS.2.1)
  have h : ∀ w ∈ Bundle.ownAtoms own ic cls names, w.before args s' = true := vx_own hat' (vx_isRefq hU'.1) (vx_isRefq hN'.1) hU'.2.word hN'.2.word
  have hown' : s'.vm.findClass own = some m.cls := by rw [hvm]; exact hown
  have hins : (Cond.instantiable cls 6).before args s' = true := h _ (by simp [Bundle.ownAtoms])
  obtain ⟨vm₁, cX, kX, hfX, hkX, -, -, X₁, st1⟩ := Y.newCold hexec (own := own) (C := cls) (index := ik) (n := 6) hown' hk' hins hini'
    (g := F0 m pc ls rest) rfl (by rw [hb]; exact d0) (Nat.le_refl _) (Nat.le_refl _)
  generalize hT1 : (T.setVm vm₁).pushCell { cls := cX, slots := kX.instanceTypes.map defaultValue, vm := .none } = T1 at X₁ st1
  have hcat : (Value.ref T.heap.size).category = 1 := rfl
  have hcellA : T1.heap[T.heap.size]? = some (freshCell cX kX) := by rw [← hT1]; exact State.heap_pushCell_size _ _
  have d3' : decode c.code (pc + 3) = .ok (.dup, 1) := by rw [hb]; exact d3
  have d4' : decode c.code (pc + 4) = .ok (.ldc is, 2) := by rw [hb]; exact d4
  have hstr' : vk_R own is text sa s' := vk_R.warm hW0 hstr
  obtain ⟨U, hsteps, hrun, hend, hW, hsame, ce, hce, hO⟩ := X₁.ctorThrowS hexec htr (own := own) (cls := cls) (names := names) (ic := ic) hown' hcls hnames h (fun x hx => nomatch hx) hfX hkX hcellA (by rw [hhp, hT]; exact Nat.le_refl _) (msg := .ref sa) rfl
    (g := { method := m, pc := pc + 6, locals := ls, stack := .ref sa :: .ref T.heap.size :: .ref T.heap.size :: rest, locked := none }) rfl hsize rfl rfl (rest := rest) rfl
    (by rw [hb]; exact d6) (by rw [hb]; exact d9) hout hRframes (by simp only [List.map_cons, List.sum_cons, hcat]; omega) hlocks
  obtain ⟨f1, f2⟩ := vx_frame hsame
  rw [hhp] at f1 f2
  have hWs : s.WarmedH U.vm := State.WarmedH.trans hW0 hW
  have hcl : s.vm.findClass cls = some ce.cls := by
    have h9 := hO.cls
    rw [hvm] at h9
    exact h9
  have hall : s.sameButNew ({ U with vm := s.vm } : State) locs mc ms := by
    subst hA
    obtain ⟨e1, e2⟩ := hsame
    rw [State.setFrames_setFrames] at e1
    have h2 : (T.setVm s.vm).sameButNew ({ U with vm := s.vm } : State) [] (0 + 1) (0 + 6) := ⟨e1, e2⟩
    have h3 := X.same.trans h2
    rw [List.append_nil] at h3
    exact h3.mono hc hs
  refine ⟨U, ?_, .threw T.heap.size, hrun, hend, Or.inr ⟨T.heap.size, rfl, cls, ce, locs, hx U hWs.alike f1 (fun q hq => f2 q hq (fun z hz => nomatch hz)), hce, hO.vm, hcl, hWs, hall, hf⟩⟩
  refine st1 _ ?_
  show Steps p.tables e below (T1.setTop { method := m, pc := pc + 3, locals := ls, stack := .ref T.heap.size :: rest, locked := none }) _
  jvm_step X₁.here [X₁.here.top, hexec, d3', Value.category]
  exact X₁.ldcString hexec (own := own) (text := text) (index := is) (a := sa) hown' hstr'.1 hstr'.2
    (g := { method := m, pc := pc + 4, locals := ls, stack := .ref T.heap.size :: .ref T.heap.size :: rest, locked := none }) rfl d4' _ hsteps
/-- 'throw new E("text")', the text by a wide index -/
theorem vx_throwSW {cc : ByteArray} {pc : Nat} (hexec : p.tables.exec = Jvm.exec) (hb : c.code = cc) (hl : l.stackTraces = false) {own cls text : String} {names : List String} {ik is ic mc ms sa : Nat} {A : Nat → Prop}
    (hown : s.vm.findClass own = some m.cls) (hcls : Bundle.fit cls = true) (hnames : ∀ n ∈ names, Bundle.fit n = true)
    (hk : (Cond.classLink own ik cls).before args s = true) (hini : (Cond.initialized cls).before args s = true) (hstr : vk_R own is text sa s) (hat : ∀ w ∈ vx_atS own ic cls names, w.before args s = true)
    (hgood : ∀ w ∈ Cond.classLink own ik cls :: Cond.initialized cls :: vx_atS own ic cls names, vx_ot w = true)
    (hU : vx_Zq Bundle.tN "UNASSIGNED_STACK" Bundle.steD A s s.heap) (hN : vx_Zq Bundle.tN "SUPPRESSED_SENTINEL" Bundle.listD A s s.heap) (hS : va_S A s.heap H locs) (hsize : ls.size = c.maxLocals)
    (d0 : decode cc pc = .ok (.new ik, 3)) (d3 : decode cc (pc + 3) = .ok (.dup, 1)) (d4 : decode cc (pc + 4) = .ok (.ldc_w is, 3)) (d7 : decode cc (pc + 7) = .ok (.invokespecial ic, 3)) (d10 : decode cc (pc + 10) = .ok (.athrow, 1))
    (hout : ∀ x ∈ c.exceptionTable.toList, covers x (pc + 10) = false)
    (hRframes : names.length + 3 < R.frames) (hRlocals : (rest.map fun v => v.category).sum + (13 * (names.length + 1) + 43) ≤ R.locals) (hRcells : cells + 1 ≤ R.cells) (hRslots : slots + 6 ≤ R.slots) (hlocks : meth.locks = false)
    (hx : ∀ t : State, s.vm.Alike t.vm → H.size ≤ t.heap.size → (∀ q : Nat, q < H.size → t.heap[q]? = H[q]?) → XC cls s t)
    (hf : ∀ z ∈ locs, free z.base) (hc : cells + 1 ≤ mc) (hs : slots + 6 ≤ ms) :
    W p l e R s m args below meth c H locs cells slots (vx_MQ below Qc XC args s mc ms free) (F0 m pc ls rest) := by
  intro T hT X
  have htr : e.platform.stackTraces = false := (show e.platform.stackTraces = l.stackTraces by rw [X.admits.platform]).trans hl
  have Y := vx_rebase X (R' := { frames := R.frames, locals := R.locals, cells := 1, slots := 6 }) (Nat.le_refl _) (Nat.le_refl _) hRcells hRslots
  obtain ⟨s', hA⟩ : ∃ z, z = (T.setVm s.vm).setFrames (.invoking m args :: below) := ⟨_, rfl⟩
  rw [← hA] at Y
  have hvm : s'.vm = s.vm := by rw [hA]; rfl
  have hhp : s'.heap = H := by rw [hA]; exact hT
  have hW0 : s.WarmedH s'.vm := by rw [hvm]; exact State.WarmedH.refl s
  have hat' : ∀ w ∈ vx_atS own ic cls names, w.before args s' = true := fun w hw => vx_ot_at hW0 hvm.symm (hgood w (List.mem_cons_of_mem _ (List.mem_cons_of_mem _ hw))) (hat w hw)
  have hk' : (Cond.classLink own ik cls).before args s' = true := vx_ot_at hW0 hvm.symm (hgood _ List.mem_cons_self) hk
  have hini' : (Cond.initialized cls).before args s' = true := vx_ot_at hW0 hvm.symm (hgood _ (List.mem_cons_of_mem _ List.mem_cons_self)) hini
  have hU' : vx_Zq Bundle.tN "UNASSIGNED_STACK" Bundle.steD A s' s'.heap := by rw [hhp]; exact vx_Zq.moved hW0.alike (hU.kept hS.2.1)
  have hN' : vx_Zq Bundle.tN "SUPPRESSED_SENTINEL" Bundle.listD A s' s'.heap := by rw [hhp]; exact vx_Zq.moved hW0.alike (hN.kept hS.2.1)
  have h : ∀ w ∈ Bundle.ownAtoms own ic cls names, w.before args s' = true := vx_own hat' (vx_isRefq hU'.1) (vx_isRefq hN'.1) hU'.2.word hN'.2.word
  have hown' : s'.vm.findClass own = some m.cls := by rw [hvm]; exact hown
  have hins : (Cond.instantiable cls 6).before args s' = true := h _ (by simp [Bundle.ownAtoms])
  obtain ⟨vm₁, cX, kX, hfX, hkX, -, -, X₁, st1⟩ := Y.newCold hexec (own := own) (C := cls) (index := ik) (n := 6) hown' hk' hins hini'
    (g := F0 m pc ls rest) rfl (by rw [hb]; exact d0) (Nat.le_refl _) (Nat.le_refl _)
  generalize hT1 : (T.setVm vm₁).pushCell { cls := cX, slots := kX.instanceTypes.map defaultValue, vm := .none } = T1 at X₁ st1
  have hcat : (Value.ref T.heap.size).category = 1 := rfl
  have hcellA : T1.heap[T.heap.size]? = some (freshCell cX kX) := by rw [← hT1]; exact State.heap_pushCell_size _ _
  have d3' : decode c.code (pc + 3) = .ok (.dup, 1) := by rw [hb]; exact d3
  have d4' : decode c.code (pc + 4) = .ok (.ldc_w is, 3) := by rw [hb]; exact d4
  have hstr' : vk_R own is text sa s' := vk_R.warm hW0 hstr
  obtain ⟨U, hsteps, hrun, hend, hW, hsame, ce, hce, hO⟩ := X₁.ctorThrowS hexec htr (own := own) (cls := cls) (names := names) (ic := ic) hown' hcls hnames h (fun x hx => nomatch hx) hfX hkX hcellA (by rw [hhp, hT]; exact Nat.le_refl _) (msg := .ref sa) rfl
    (g := { method := m, pc := pc + 7, locals := ls, stack := .ref sa :: .ref T.heap.size :: .ref T.heap.size :: rest, locked := none }) rfl hsize rfl rfl (rest := rest) rfl
    (by rw [hb]; exact d7) (by rw [hb]; exact d10) hout hRframes (by simp only [List.map_cons, List.sum_cons, hcat]; omega) hlocks
  obtain ⟨f1, f2⟩ := vx_frame hsame
  rw [hhp] at f1 f2
  have hWs : s.WarmedH U.vm := State.WarmedH.trans hW0 hW
  have hcl : s.vm.findClass cls = some ce.cls := by
    have h9 := hO.cls
    rw [hvm] at h9
    exact h9
  have hall : s.sameButNew ({ U with vm := s.vm } : State) locs mc ms := by
    subst hA
    obtain ⟨e1, e2⟩ := hsame
    rw [State.setFrames_setFrames] at e1
    have h2 : (T.setVm s.vm).sameButNew ({ U with vm := s.vm } : State) [] (0 + 1) (0 + 6) := ⟨e1, e2⟩
    have h3 := X.same.trans h2
    rw [List.append_nil] at h3
    exact h3.mono hc hs
  refine ⟨U, ?_, .threw T.heap.size, hrun, hend, Or.inr ⟨T.heap.size, rfl, cls, ce, locs, hx U hWs.alike f1 (fun q hq => f2 q hq (fun z hz => nomatch hz)), hce, hO.vm, hcl, hWs, hall, hf⟩⟩
  refine st1 _ ?_
  show Steps p.tables e below (T1.setTop { method := m, pc := pc + 3, locals := ls, stack := .ref T.heap.size :: rest, locked := none }) _
  jvm_step X₁.here [X₁.here.top, hexec, d3', Value.category]
  exact X₁.ldcStringW hexec (own := own) (text := text) (index := is) (a := sa) hown' hstr'.1 hstr'.2
    (g := { method := m, pc := pc + 4, locals := ls, stack := .ref T.heap.size :: .ref T.heap.size :: rest, locked := none }) rfl d4' _ hsteps
end Ends
section Bodies
variable {l : Launch}
theorem vx_ofW {y : MethodName} {ws ws' : List Cond} {rm : Room} {Pc : Array Value → State → Prop} {Qc : Array Value → State → Outcome → State → Prop} {XC : String → State → State → Prop} {mc ms : Nat} {free : Addr → Prop} {cc : ByteArray} {maxL : Nat} {ret : Option FieldType}
    (hy : plainName y.cls = true) (hw : ws = Cond.code y cc maxL ret :: ws')
    (body : ∀ p e s m args below meth c s₁, BodyLoose p l y (headSpec ws rm) cc maxL ret e s m args below meth c s₁ → c.maxLocals = maxL → (∀ x ∈ c.exceptionTable.toList, False) → Pc args s →
      W p l e (headSpec ws rm).room s m args below meth c s.heap [] 0 0 (vx_MQ below Qc XC args s mc ms free) (entryFrame m args maxL)) : vx_Met l y ws rm Pc Qc XC mc ms free := by
  refine MetFree.of_bodyS (code := cc) (maxLocals := maxL) (ret := ret) hy ?_ ?_
  · intro args s m h hn
    obtain ⟨meth, c, h1, h2, h3, h4, h5, h6, -, -⟩ := Cond.code_spec hn (atoms_spec (ws := ws) h _ (by rw [hw]; exact List.mem_cons_self))
    exact ⟨meth, c, h1, h2, h3, h4, h5, h6⟩
  · intro p e s m args below meth c s₁ B hml hP _
    have hh0 : s₁.heap = s.heap := by rw [B.state]; rfl
    have ht : ∀ x ∈ c.exceptionTable.toList, False := by
      obtain ⟨meth9, c9, h1, h2, -, -, -, -, h7, -⟩ := Cond.code_spec B.named (atoms_spec (ws := ws) B.pre _ (by rw [hw]; exact List.mem_cons_self))
      cases Option.some.inj (h1.symm.trans B.method)
      cases Option.some.inj (h2.symm.trans (Stand.of_body B).code)
      intro x hx
      rw [Array.isEmpty_iff.mp h7] at hx
      cases hx
    obtain ⟨t, a1, o, b1, b2, b3⟩ := body p e s m args below meth c s₁ B hml ht hP s₁ hh0 (Stand.of_body B)
    exact ⟨t, o, a1, b1, b2, b3⟩
/-- the table of a body with handlers -/
theorem vx_table {p : Program} {x y : MethodName} {S : Spec} {cc bytes : ByteArray} {maxL maxL' : Nat} {ret ret' : Option FieldType} {e : Env} {s s₁ : State} {m : MethodId} {args : Array Value} {below : List Frame} {meth : Method} {c : Code} {hh : List (Nat × Nat × Nat × Nat)}
    (B : BodyLoose p l y S cc maxL ret e s m args below meth c s₁) (h : (Cond.codeWith y bytes maxL' ret' hh).before args s = true) : c.exceptionTable.toList = tableOf hh := by
  obtain ⟨m9, meth9, c9, hn9, h1, h2, -, -, h6, -⟩ := Cond.codeWith_spec h
  cases Option.some.inj (hn9.symm.trans B.named)
  cases Option.some.inj (h1.symm.trans B.method)
  cases Option.some.inj (h2.symm.trans (Stand.of_body B).code)
  rw [← h6, table_eq]
end Bodies
end VXA
/-! ===== END ===== -/
/-! ===== BEGIN a static call of a method with an exception table ===== -/
section VXS
variable {p : Program} {l : Launch} {e : Env} {R : Room} {s : State} {m : MethodId} {args : Array Value} {below : List Frame} {meth : Method} {c : Code} {T : State} {H : Heap} {locs : List Loc} {cells slots : Nat}
abbrev vx_CSW (R : Room) (s : State) (args : Array Value) (own : String) (index : Nat) (y : MethodName) (bytes : ByteArray) (maxL : Nat) (ret : Option FieldType) (hh : List (Nat × Nat × Nat × Nat)) (ws : List Cond) (rm : Room) (mc ms n : Nat) : Prop :=
  (rm.cells = mc ∧ rm.slots = ms ∧ rm.frames + 1 ≤ R.frames ∧ 8 + (maxL + 11) + rm.locals ≤ R.locals ∧ (∀ w ∈ ws, ∀ (a' : Array Value) (U : State), s.WarmedH U.vm → w.before a' U = true) ∧ Cond.codeWith y bytes maxL ret hh ∈ ws) ∧
  (Cond.codeWith y bytes maxL ret hh).before args s = true ∧ (Cond.initialized y.cls).before args s = true ∧ (y.cls ≠ "java/lang/invoke/MethodHandle" ∧ y.cls ≠ "java/lang/invoke/VarHandle") ∧
  (∀ sig, parseMethodDescriptor y.desc = some sig → n = sig.parameters.length) ∧ (Cond.methodLink own index y).before args s = true ∧ (Cond.static y).before args s = true
theorem vx_cwSW {own : String} {index maxL mc ms : Nat} {y : MethodName} {bytes : ByteArray} {ret : Option FieldType} {hh : List (Nat × Nat × Nat × Nat)} {Ts ws ws' : List Cond} {rm : Room} (n : Nat) (ht : ∀ w ∈ Ts, w.before args s = true) (hT : GoodIn Ts (va_wsS own index y ws)) (hw : ws = Cond.codeWith y bytes maxL ret hh :: ws') (hrc : rm.cells = mc) (hrs : rm.slots = ms)
    (hd : y.cls ≠ "java/lang/invoke/MethodHandle" ∧ y.cls ≠ "java/lang/invoke/VarHandle" ∧ (parseMethodDescriptor y.desc).map (fun d => d.parameters.length) = some n) (hR : rm.frames + 1 ≤ R.frames ∧ 8 + (maxL + 11) + rm.locals ≤ R.locals) :
    vx_CSW R s args own index y bytes maxL ret hh ws rm mc ms n := by
  have ok : ∀ w ∈ va_wsS own index y ws, w.before args s = true := fun w h => ht w (hT w h).1
  have hG : GoodIn Ts ws := fun w h => hT w (by unfold va_wsS; exact List.mem_append_right _ h)
  have hc : Cond.codeWith y bytes maxL ret hh ∈ ws := by rw [hw]; exact List.mem_cons_self
  refine ⟨⟨hrc, hrs, hR.1, hR.2, pay_in ht hG, hc⟩, ht _ (hG _ hc).1, ok _ (by simp [va_wsS]), ⟨hd.1, hd.2.1⟩, fun sig h => ?_, ok _ (by simp [va_wsS]), ok _ (by simp [va_wsS])⟩
  have h2 := hd.2.2
  rw [h] at h2
  exact (Option.some.inj h2).symm
theorem vx_callSW (X : Stand p l e R s m args below meth c T locs cells slots) (hexec : p.tables.exec = Jvm.exec) {own : String} {index : Nat} {y : MethodName} {bytes : ByteArray} {maxL : Nat} {ret : Option FieldType} {hh : List (Nat × Nat × Nat × Nat)}
    (hown : s.vm.findClass own = some m.cls) (hlink : (Cond.methodLink own index y).before args s = true) (hstat : (Cond.static y).before args s = true) (hinit : (Cond.initialized y.cls).before args s = true)
    (hcode : (Cond.codeWith y bytes maxL ret hh).before args s = true) (hy : y.cls ≠ "java/lang/invoke/MethodHandle" ∧ y.cls ≠ "java/lang/invoke/VarHandle")
    {W9 : Nat} {Pre : Pt → Array Value → Prop} {Post : Pt → Array Value → Option Value → Pt → Prop} (hK : Back l R p e below s args y 3 W9 Pre Post)
    {g : JFrame} (hg : g.method = m) (hsize : g.locals.size = c.maxLocals) {argsL rest : List Value} (hlen : ∀ sig, parseMethodDescriptor y.desc = some sig → argsL.length = sig.parameters.length)
    (hstack : g.stack = argsL.reverse ++ rest) (hW : 2 * g.monitorRoom + (rest.map fun v => v.category).sum ≤ W9) (hdg : decode c.code g.pc = .ok (.invokestatic index, 3))
    (hpre : ∀ vm₁, s.WarmedH vm₁ → Pre ⟨T.setVm vm₁, locs, cells, slots⟩ argsL.toArray) :
    ∃ (v : Option Value) (vm₁ : Vm) (B : Pt), s.WarmedH vm₁ ∧ Stand p l e R s m args below meth c B.U B.locs B.cells B.slots ∧ Post ⟨T.setVm vm₁, locs, cells, slots⟩ argsL.toArray v B ∧
      ∀ target, Steps p.tables e below (B.U.setTop { g with pc := g.pc + 3, stack := v.toList ++ rest }) target → Steps p.tables e below (T.setTop g) target := by
  obtain ⟨mk, methM, cM, hnamed, hmethM, -, -, -, -, -, -, hsigM⟩ := Cond.codeWith_spec hcode
  have hstatic : methM.isStatic = true := Cond.static_spec hnamed hmethM hstat
  obtain ⟨kP, hkP, -⟩ := className_of_methodNamed hnamed
  have hinitP : kP.init = .initialized := Cond.initialized_spec (findClass_of_methodNamed hnamed) hkP hinit
  obtain ⟨vm₁, X₁, hstep₁⟩ := X.invokestatic hexec hown hlink hnamed hmethM hstatic hkP hinitP hy (g := g) hg (argsL := argsL) (rest := rest) (hlen _ hsigM) hstack hdg
  obtain ⟨v, B, X', hpost, hsteps⟩ := hK m meth c ⟨T.setVm vm₁, locs, cells, slots⟩ { g with stack := rest } (.invokestatic index) mk argsL.toArray X₁ hg hsize hdg hW (X₁.named hnamed) (hpre vm₁ X₁.warmed)
  exact ⟨v, vm₁, B, X₁.warmed, X', hpost, fun target h => hstep₁ _ fun acts => by rw [doInvoke_state]; exact hsteps.trans h⟩
theorem vx_runSW {y : MethodName} {bytes cc : ByteArray} {maxL nL mc ms n index : Nat} {ret : Option FieldType} {hh : List (Nat × Nat × Nat × Nat)} {ws : List Cond} {rm : Room} {Pc : Array Value → State → Prop} {Qc : Array Value → State → Outcome → State → Prop} {free : Addr → Prop} {Ts : List Cond} {own : String} {As rest : List Value} {g : JFrame}
    (S : CallFix p m c cc nL s args Ts own) (hM : Met l y ws rm Pc Qc mc ms free) (cw : vx_CSW R s args own index y bytes maxL ret hh ws rm mc ms n) (hp : PreS s H Pc As)
    (hg : g.method = m) (hn : As.length = n) (hsize : g.locals.size = nL) (hstack : g.stack = As.reverse ++ rest) (hW : 2 * g.monitorRoom + (rest.map fun v => v.category).sum ≤ 8) (hdg : decode cc g.pc = .ok (.invokestatic index, 3)) (hf : cells + mc ≤ R.cells ∧ slots + ms ≤ R.slots) :
    va_Run p l e R s m args below meth c H locs cells slots mc ms g rest (Qc As.toArray) (free) := by
  obtain ⟨⟨hrc, hrs, hfr, hlo, hws, hcw⟩, hcode, hini, hy, hlen, hl, hstt⟩ := cw
  have hK : Back l R p e below s args y 3 8 (PreOf R mc ms Pc) (PostOf Qc mc ms free) := va_backW (hh := hh) (bytes := bytes) (maxL := maxL) (ret := ret) hM hp.1 hrc hrs hfr hlo hws hcw (fun a' U hW => word_at hW (Or.inl (by first | rfl | simp [Cond.onTables, Cond.keeps, Cond.steady])) hini)
  obtain ⟨hx, hb, hml, ho, -⟩ := S
  intro T hT X
  obtain ⟨v, vm₁, ⟨U', l2, c2, s2⟩, hW₁, X', ⟨g', mk, t, L, e1, e2, hq, h1, hL, h2, h3⟩, st⟩ := vx_callSW X hx (hh := hh) (bytes := bytes) (maxL := maxL) (ret := ret) ho hl hstt hini hcode hy hK hg (hsize.trans hml.symm) (argsL := As) (rest := rest) (fun sig h => hn.trans (hlen sig h)) hstack hW (by rw [hb]; exact hdg)
    (fun vm₁ hW₁ => ⟨hf.1, hf.2, hp.2 (T.setVm vm₁) hT hW₁⟩)
  dsimp only [Pt.U, Pt.locs, Pt.cells, Pt.slots] at X' e1 e2 h1 h2 h3 st
  subst h1; subst h2; subst h3
  exact ⟨v, (T.setVm vm₁).calling g' mk As.toArray, t, U', L, hT, X', hL, e1, e2, hq, st⟩
/-- not caught here, past rows that name other classes: it goes on to the caller -/
theorem vx_outP {p : Program} {l : Launch} {e : Env} {R : Room} {s : State} {m : MethodId} {args : Array Value} {below : List Frame} {meth : Method} {c : Code} {H : Heap} {locs : List Loc} {cells slots : Nat} {free : Addr → Prop} {ls : Array Slot} {rest : List Value} {Qc : Array Value → State → Outcome → State → Prop} {XC : String → State → State → Prop}
    {pc : Nat} {own E : String} {ce : Cell} {q : Addr} {mc ms : Nat} (hown : s.vm.findClass own = some m.cls) (hlocks : meth.locks = false)
    (hpass : ∀ z ∈ c.exceptionTable.toList, covers z pc = false ∨ (z.catchType ≠ 0 ∧ ∃ nm : String, (Cond.classLink own z.catchType nm).before args s = true ∧ va_Nc E nm s)) (hcell : H[q]? = some ce) (hv : ce.vm = .none) (hcl : s.vm.findClass E = some ce.cls)
    (hx : ∀ t : State, t.heap = H → s.vm.Alike t.vm → XC E s t) (hf : ∀ z ∈ locs, free z.base) (hc : cells ≤ mc) (hs : slots ≤ ms) :
    vx_W p l e R s m args below meth c H locs cells slots (vx_MQ below Qc XC args s mc ms free) (F0 m pc ls rest) q := by
  intro T hT X
  have hpl : e.platform.magicAccessors = ({} : Platform).magicAccessors := by rw [X.admits.platform]
  obtain ⟨vm', hW', X', st⟩ := X.outThrough hlocks q (g := F0 m pc ls rest) rfl rfl rfl (cell := ce) (by rw [hT]; exact hcell) (by rw [hv]; rfl)
    (by obtain ⟨k9, h9, -⟩ := Vm.findClass_spec hcl; exact ⟨k9, h9⟩) (fun z hz => by
      rcases hpass z hz with h | ⟨hz0, nm, hl1, hn1⟩
      · exact Or.inl h
      · obtain ⟨c6, hc6, hcl6⟩ := Cond.classLink_spec hown hl1 e.platform hpl
        obtain ⟨a8, b8, h1, h2, h3⟩ := hn1
        cases Option.some.inj (h1.symm.trans hcl)
        cases Option.some.inj (h2.symm.trans hc6)
        exact Or.inr ⟨hz0, _, hcl6, h3⟩)
  obtain ⟨g₀, hfr⟩ := X'.frames_eq
  have hcell9 : ((T.setVm vm').setFrames (.throwing q :: below)).heap[q]? = some ce := by
    show T.heap[q]? = some ce
    rw [hT]; exact hcell
  have hend : Ended ((T.setVm vm').setFrames (.throwing q :: below)) below (.threw q) := State.frames_setFrames _ (State.cur_lt_of_frames hfr)
  refine ⟨(T.setVm vm').setFrames (.throwing q :: below), ?_, .threw q, X'.here.running, hend, Or.inr ⟨q, rfl, E, ce, locs, hx _ hT (X'.ends _).1.alike, hcell9, hv, hcl, (X'.ends _).1, (X'.ends _).2.mono hc hs, hf⟩⟩
  rw [X.pushThrowing_eq]
  exact st
/-- a thing of a world lies in the heap -/
theorem vx_lt {D : va_G} {cl : List vw_C} {ws : va_W} {H1 : Heap} (h : va_P D cl ws H1) {k : Nat} {q : Nat × va_E} (hk : ws[k]? = some q) : q.1 < H1.size := (h k q hk).lt
end VXS
/-! ===== END ===== -/
/-! ===== BEGIN methods with a table of their own: called by a name, returning or throwing ===== -/
section VXH
/-! vx_backW, vx_callVX, vx_callSX, vx_callVW, vx_runVW, vx_runVX, vx_runSX, vx_ofWH follow the same proofs as their sisters above (Free/Laws.lean, Shelf42/LK1.lean); vx_outP calls Shelf42/NT130.lean (outThrough). -/
section
variable {l : Launch} {R : Room} {p : Program} {e : Env} {below : List Frame} {s : State} {sargs : Array Value} {y : MethodName} {len W9 : Nat}
theorem vx_backW {ws : List Cond} {rm : Room} {Pc : Array Value → State → Prop} {Qc : Array Value → State → Outcome → State → Prop} {XC : String → State → State → Prop} {mc ms : Nat} {free : Addr → Prop} {bytes : ByteArray} {maxL : Nat} {ret : Option FieldType} {hh : List (Nat × Nat × Nat × Nat)}
    (hM : vx_Met l y ws rm Pc Qc XC mc ms free) (hblind : FrameBlind Pc) (hrc : rm.cells = mc) (hrs : rm.slots = ms)
    (hframes : rm.frames + 1 ≤ R.frames) (hlocals : W9 + (maxL + 11) + rm.locals ≤ R.locals)
    (hws : ∀ w ∈ ws, ∀ a' U, s.WarmedH U.vm → w.before a' U = true) (hcode : Cond.codeWith y bytes maxL ret hh ∈ ws) (hinit : ∀ a' U, s.WarmedH U.vm → (Cond.initialized y.cls).before a' U = true) :
    vx_Back l R p e below s sargs y len W9 (PreOf R mc ms Pc) (PostOf Qc mc ms free) (vx_Post XC mc ms free) := by
  intro m meth c A g ig mk a X hg hsize hdg hW hn hp
  have h1 : (headSpec ws rm).pre.before a A.U = true := atoms_intro fun w hw => hws w hw _ _ X.warmed
  have h2 : (Cond.codeWith y bytes maxL ret hh).before a A.U = true := hws _ hcode _ _ X.warmed
  have h3 : (Cond.initialized y.cls).before a A.U = true := hinit _ _ X.warmed
  have h4 : A.cells + (headSpec ws rm).room.cells ≤ R.cells := by rw [show (headSpec ws rm).room.cells = mc from hrc]; exact hp.1
  have h5 : A.slots + (headSpec ws rm).room.slots ≤ R.slots := by rw [show (headSpec ws rm).room.slots = ms from hrs]; exact hp.2.1
  have hPc : Pc a (A.U.calling g mk a) := hblind _ _ _ _ hp.2.2
  obtain ⟨U, Ls, c0, s0⟩ := A
  dsimp only [Pt.U, Pt.locs, Pt.cells, Pt.slots] at h1 h2 h3 h4 h5 X hn hPc ⊢
  obtain ⟨m9, methY, cY, hn9, hmY, hcY, -, hlY, -⟩ := Cond.codeWith_spec h2
  cases Option.some.inj (hn9.symm.trans hn)
  obtain ⟨kY, hkY, -⟩ := className_of_methodNamed hn
  have hinitY : kY.init = .initialized := Cond.initialized_spec (findClass_of_methodNamed hn) hkY h3
  have h : At U g.method c below := by rw [hg]; exact X.here
  have hlocals9 : W9 + (maxL + 11) + (headSpec ws rm).room.locals ≤ R.locals := hlocals
  have happ : (headSpec ws rm).appliesLoose y e.platform (U.calling g mk a) = true :=
    Spec.appliesLoose_calling (g := g) h hdg hn hkY hinitY
      (X.room_calling (g := g) (R' := (headSpec ws rm).room) hsize hmY hcY hframes (by rw [hlY]; omega) h4 h5) h1
  obtain ⟨mid, hmid⟩ := h.above
  have hfr : (U.setTop g).frames = (.java g :: mid) ++ below := by rw [State.frames_setTop' g h.top, hmid]; rfl
  obtain ⟨o, s₂, hsteps, -, hend, hq⟩ := Steps.callFree hM p X.admits X.cas X.clock (acts := []) hfr happ hPc trivial
  have hq' : vx_Q Qc XC mc ms free a (U.calling g mk a) o s₂ := hq
  rw [State.frames_setTop' g h.top] at hend
  obtain ⟨g₀, hg0⟩ := Option.isSome_iff_exists.mp h.top
  obtain ⟨r, hr⟩ := State.topJava?_eq_some.mp hg0
  have hr' : (({ U with heap := s₂.heap, slotsUsed := s₂.slotsUsed } : State).setVm s₂.vm).frames = .java g₀ :: r := hr
  rcases hq' with ⟨hqc, L, hfe, hL⟩ | ⟨q, rfl, E, ce, L, hx, hce, hcv, hcl, hW₂, hsm, hL⟩
  · obtain ⟨⟨v, rfl⟩, hW₂, e2, q2, q3, q4, q5, q6⟩ := id hfe
    have e3 : s₂ = ({ (U.calling g mk a).setFrames s₂.frames with heap := s₂.heap, slotsUsed := s₂.slotsUsed } : State).setVm s₂.vm := by
      have : s₂ = ({ s₂ with vm := (U.calling g mk a).vm } : State).setVm s₂.vm := rfl
      rw [e2] at this
      exact this
    obtain ⟨c₂, i₂, len₂, hc₂, hd₂, hf₂⟩ := hend
    have hW' : U.WarmedH s₂.vm := hW₂
    have hcc : c₂ = c := by
      have h1 : s₂.code? g.method = U.code? g.method := by
        rw [State.code?_eq, State.code?_eq, hW'.alike.method?]
      exact Option.some.inj (hc₂.symm.trans (h1.trans h.code))
    subst hcc
    have hlen : len₂ = len := by rw [hdg] at hd₂; cases hd₂; rfl
    subst hlen
    have hs₂ : s₂ = (({ U with heap := s₂.heap, slotsUsed := s₂.slotsUsed } : State).setVm s₂.vm).setTop { g with pc := g.pc + len₂, stack := v.toList ++ g.stack } := by
      refine e3.trans ?_
      rw [hf₂, State.calling_eq h.top, State.setFrames_setFrames, State.setTop_of_frames _ hr', hr]
      rfl
    have hsame : U.sameButNew ({ U with heap := s₂.heap, slotsUsed := s₂.slotsUsed } : State) L mc ms := by
      refine ⟨?_, q2, q3, q4, q5, q6⟩
      obtain ⟨t, ht, -⟩ := State.frames_cons hr
      show ({ U with heap := s₂.heap, slotsUsed := s₂.slotsUsed } : State) = { U.setFrames U.frames with heap := s₂.heap, slotsUsed := s₂.slotsUsed }
      rw [State.setFrames_self ht]
    subst hg
    refine Or.inl ⟨v, ⟨(({ U with heap := s₂.heap, slotsUsed := s₂.slotsUsed } : State).setVm s₂.vm), Ls ++ L, c0 + mc, s0 + ms⟩,
      ⟨X.admits, X.cas, X.clock, X.frames, X.room, X.hears, X.method, X.code, (X.here.setHeapUsed s₂.heap s₂.slotsUsed).setVm hW'.alike, X.tail, State.WarmedH.trans X.warmed hW', X.limits, X.bytes, X.same.trans (hsame.setVm s.vm)⟩,
      ⟨g, mk, s₂, L, rfl, rfl, hqc, rfl, hL, rfl, rfl⟩, ?_⟩
    show Steps p.tables e below _ ((({ U with heap := s₂.heap, slotsUsed := s₂.slotsUsed } : State).setVm s₂.vm).setTop { g with pc := g.pc + len₂, stack := v.toList ++ g.stack })
    rw [← hs₂]
    exact hsteps
  · obtain ⟨e2, q2, q3, q4, q5, q6⟩ := id hsm
    have e3 : s₂ = ({ (U.calling g mk a).setFrames s₂.frames with heap := s₂.heap, slotsUsed := s₂.slotsUsed } : State).setVm s₂.vm := by
      have : s₂ = ({ s₂ with vm := (U.calling g mk a).vm } : State).setVm s₂.vm := rfl
      rw [e2] at this
      exact this
    have hf₂ : s₂.frames = .throwing q :: .java g :: U.frames.tail := hend
    have hW' : U.WarmedH s₂.vm := hW₂
    have hs₂ : s₂ = ((({ U with heap := s₂.heap, slotsUsed := s₂.slotsUsed } : State).setVm s₂.vm).setTop g).pushFrame (.throwing q) := by
      refine e3.trans ?_
      rw [hf₂, State.calling_eq h.top, State.setFrames_setFrames, State.pushFrame, State.frames_setTop _ hr', State.setTop_of_frames _ hr', State.setFrames_setFrames, hr]
      rfl
    have hsame : U.sameButNew ({ U with heap := s₂.heap, slotsUsed := s₂.slotsUsed } : State) L mc ms := by
      refine ⟨?_, q2, q3, q4, q5, q6⟩
      obtain ⟨t, ht, -⟩ := State.frames_cons hr
      show ({ U with heap := s₂.heap, slotsUsed := s₂.slotsUsed } : State) = { U.setFrames U.frames with heap := s₂.heap, slotsUsed := s₂.slotsUsed }
      rw [State.setFrames_self ht]
    subst hg
    refine Or.inr ⟨q, ⟨(({ U with heap := s₂.heap, slotsUsed := s₂.slotsUsed } : State).setVm s₂.vm), Ls ++ L, c0 + mc, s0 + ms⟩,
      ⟨X.admits, X.cas, X.clock, X.frames, X.room, X.hears, X.method, X.code, (X.here.setHeapUsed s₂.heap s₂.slotsUsed).setVm hW'.alike, X.tail, State.WarmedH.trans X.warmed hW', X.limits, X.bytes, X.same.trans (hsame.setVm s.vm)⟩,
      ⟨g, mk, s₂, L, E, ce, rfl, rfl, hx, hce, hcv, hcl, rfl, hL, rfl, rfl⟩, ?_⟩
    show Steps p.tables e below _ (((({ U with heap := s₂.heap, slotsUsed := s₂.slotsUsed } : State).setVm s₂.vm).setTop g).pushFrame (.throwing q))
    rw [← hs₂]
    exact hsteps
end
variable {p : Program} {l : Launch} {e : Env} {R : Room} {s : State} {m : MethodId} {args : Array Value} {below : List Frame} {meth : Method} {c : Code} {T : State} {H : Heap} {locs : List Loc} {cells slots : Nat}
theorem vx_callVX (X : Stand p l e R s m args below meth c T locs cells slots) (hexec : p.tables.exec = Jvm.exec) {own C : String} {index : Nat} {y : MethodName} {bytes : ByteArray} {maxL : Nat} {ret : Option FieldType} {hh : List (Nat × Nat × Nat × Nat)}
    (hown : s.vm.findClass own = some m.cls) (hlink : (Cond.methodLink own index y).before args s = true) (hinst : (Cond.instanceMethod y).before args s = true) (hsel : (Cond.selects C y y).before args s = true)
    (hcode : (Cond.codeWith y bytes maxL ret hh).before args s = true) (hy : y.cls ≠ "java/lang/invoke/MethodHandle" ∧ y.cls ≠ "java/lang/invoke/VarHandle")
    {W9 : Nat} {Pre : Pt → Array Value → Prop} {Post : Pt → Array Value → Option Value → Pt → Prop} {PostX : Pt → Array Value → Addr → Pt → Prop} (hK : vx_Back l R p e below s args y 3 W9 Pre Post PostX)
    {b : Addr} {cellB : Cell} (hcell : T.heap[b]? = some cellB) (hobj : cellB.vm.isStatics = false) (hcls : s.vm.findClass C = some cellB.cls)
    {g : JFrame} (hg : g.method = m) (hsize : g.locals.size = c.maxLocals) {argsL rest : List Value} (hlen : ∀ sig, parseMethodDescriptor y.desc = some sig → argsL.length = sig.parameters.length)
    (hstack : g.stack = argsL.reverse ++ .ref b :: rest) (hW : 2 * g.monitorRoom + (rest.map fun v => v.category).sum ≤ W9) (hdg : decode c.code g.pc = .ok (.invokevirtual index, 3))
    (hpre : ∀ vm₁, s.WarmedH vm₁ → Pre ⟨T.setVm vm₁, locs, cells, slots⟩ (Value.ref b :: argsL).toArray) :
    (∃ (v : Option Value) (vm₁ : Vm) (B : Pt), s.WarmedH vm₁ ∧ Stand p l e R s m args below meth c B.U B.locs B.cells B.slots ∧ Post ⟨T.setVm vm₁, locs, cells, slots⟩ (Value.ref b :: argsL).toArray v B ∧
      ∀ target, Steps p.tables e below (B.U.setTop { g with pc := g.pc + 3, stack := v.toList ++ rest }) target → Steps p.tables e below (T.setTop g) target) ∨
    (∃ (q : Addr) (vm₁ : Vm) (B : Pt), s.WarmedH vm₁ ∧ Stand p l e R s m args below meth c B.U B.locs B.cells B.slots ∧ PostX ⟨T.setVm vm₁, locs, cells, slots⟩ (Value.ref b :: argsL).toArray q B ∧
      Steps p.tables e below (T.setTop g) ((B.U.setTop { g with stack := rest }).pushFrame (.throwing q))) := by
  obtain ⟨mk, methM, hnamed, hmethM, hstM, habM⟩ := Cond.instanceMethod_spec hinst
  obtain ⟨m8, methM', cM, hn8, hmethM', -, -, -, -, -, -, hsigM⟩ := Cond.codeWith_spec hcode
  cases Option.some.inj (hn8.symm.trans hnamed)
  cases hmethM.symm.trans hmethM'
  obtain ⟨c2, r2, m2, q1, q2, q3, q4, kP, hkP, hkPi⟩ := Cond.selects_spec hsel
  cases hcls.symm.trans q1
  cases (State.methodFound?_of_named hnamed hy).symm.trans q2
  cases hnamed.symm.trans q3
  have hselP : selectMethod e.platform s.vm cellB.cls mk = .method mk := by rw [Launch.admits_selectMethod X.admits]; exact q4
  obtain ⟨vm₁, X₁, hstep₁⟩ := X.invokevirtual hexec hown hlink hnamed hmethM hstM hkP hkPi hy (a := b) (cell := cellB) hcell
    (fun z h => by rw [h] at hobj; cases hobj) hselP hmethM habM hkP hkPi (g := g) hg (argsL := argsL) (rest := rest) (hlen _ hsigM) hstack hdg
  rcases hK m meth c ⟨T.setVm vm₁, locs, cells, slots⟩ { g with stack := rest } (.invokevirtual index) mk (Value.ref b :: argsL).toArray X₁ hg hsize hdg hW (X₁.named hnamed) (hpre vm₁ X₁.warmed) with ⟨v, B, X', hpost, hsteps⟩ | ⟨q, B, X', hpost, hsteps⟩
  · exact Or.inl ⟨v, vm₁, B, X₁.warmed, X', hpost, fun target h => hstep₁ _ fun acts => by rw [doInvoke_state]; exact hsteps.trans h⟩
  · exact Or.inr ⟨q, vm₁, B, X₁.warmed, X', hpost, hstep₁ _ fun acts => by rw [doInvoke_state]; exact hsteps⟩
theorem vx_callSX (X : Stand p l e R s m args below meth c T locs cells slots) (hexec : p.tables.exec = Jvm.exec) {own : String} {index : Nat} {y : MethodName} {bytes : ByteArray} {maxL : Nat} {ret : Option FieldType} {hh : List (Nat × Nat × Nat × Nat)}
    (hown : s.vm.findClass own = some m.cls) (hlink : (Cond.methodLink own index y).before args s = true) (hstat : (Cond.static y).before args s = true) (hinit : (Cond.initialized y.cls).before args s = true)
    (hcode : (Cond.codeWith y bytes maxL ret hh).before args s = true) (hy : y.cls ≠ "java/lang/invoke/MethodHandle" ∧ y.cls ≠ "java/lang/invoke/VarHandle")
    {W9 : Nat} {Pre : Pt → Array Value → Prop} {Post : Pt → Array Value → Option Value → Pt → Prop} {PostX : Pt → Array Value → Addr → Pt → Prop} (hK : vx_Back l R p e below s args y 3 W9 Pre Post PostX)
    {g : JFrame} (hg : g.method = m) (hsize : g.locals.size = c.maxLocals) {argsL rest : List Value} (hlen : ∀ sig, parseMethodDescriptor y.desc = some sig → argsL.length = sig.parameters.length)
    (hstack : g.stack = argsL.reverse ++ rest) (hW : 2 * g.monitorRoom + (rest.map fun v => v.category).sum ≤ W9) (hdg : decode c.code g.pc = .ok (.invokestatic index, 3))
    (hpre : ∀ vm₁, s.WarmedH vm₁ → Pre ⟨T.setVm vm₁, locs, cells, slots⟩ argsL.toArray) :
    (∃ (v : Option Value) (vm₁ : Vm) (B : Pt), s.WarmedH vm₁ ∧ Stand p l e R s m args below meth c B.U B.locs B.cells B.slots ∧ Post ⟨T.setVm vm₁, locs, cells, slots⟩ argsL.toArray v B ∧
      ∀ target, Steps p.tables e below (B.U.setTop { g with pc := g.pc + 3, stack := v.toList ++ rest }) target → Steps p.tables e below (T.setTop g) target) ∨
    (∃ (q : Addr) (vm₁ : Vm) (B : Pt), s.WarmedH vm₁ ∧ Stand p l e R s m args below meth c B.U B.locs B.cells B.slots ∧ PostX ⟨T.setVm vm₁, locs, cells, slots⟩ argsL.toArray q B ∧
      Steps p.tables e below (T.setTop g) ((B.U.setTop { g with stack := rest }).pushFrame (.throwing q))) := by
  obtain ⟨mk, methM, cM, hnamed, hmethM, -, -, -, -, -, -, hsigM⟩ := Cond.codeWith_spec hcode
  have hstatic : methM.isStatic = true := Cond.static_spec hnamed hmethM hstat
  obtain ⟨kP, hkP, -⟩ := className_of_methodNamed hnamed
  have hinitP : kP.init = .initialized := Cond.initialized_spec (findClass_of_methodNamed hnamed) hkP hinit
  obtain ⟨vm₁, X₁, hstep₁⟩ := X.invokestatic hexec hown hlink hnamed hmethM hstatic hkP hinitP hy (g := g) hg (argsL := argsL) (rest := rest) (hlen _ hsigM) hstack hdg
  rcases hK m meth c ⟨T.setVm vm₁, locs, cells, slots⟩ { g with stack := rest } (.invokestatic index) mk argsL.toArray X₁ hg hsize hdg hW (X₁.named hnamed) (hpre vm₁ X₁.warmed) with ⟨v, B, X', hpost, hsteps⟩ | ⟨q, B, X', hpost, hsteps⟩
  · exact Or.inl ⟨v, vm₁, B, X₁.warmed, X', hpost, fun target h => hstep₁ _ fun acts => by rw [doInvoke_state]; exact hsteps.trans h⟩
  · exact Or.inr ⟨q, vm₁, B, X₁.warmed, X', hpost, hstep₁ _ fun acts => by rw [doInvoke_state]; exact hsteps⟩
theorem vx_callVW (X : Stand p l e R s m args below meth c T locs cells slots) (hexec : p.tables.exec = Jvm.exec) {own C : String} {index : Nat} {y : MethodName} {bytes : ByteArray} {maxL : Nat} {ret : Option FieldType} {hh : List (Nat × Nat × Nat × Nat)}
    (hown : s.vm.findClass own = some m.cls) (hlink : (Cond.methodLink own index y).before args s = true) (hinst : (Cond.instanceMethod y).before args s = true) (hsel : (Cond.selects C y y).before args s = true)
    (hcode : (Cond.codeWith y bytes maxL ret hh).before args s = true) (hy : y.cls ≠ "java/lang/invoke/MethodHandle" ∧ y.cls ≠ "java/lang/invoke/VarHandle")
    {W9 : Nat} {Pre : Pt → Array Value → Prop} {Post : Pt → Array Value → Option Value → Pt → Prop} (hK : Back l R p e below s args y 3 W9 Pre Post)
    {b : Addr} {cellB : Cell} (hcell : T.heap[b]? = some cellB) (hobj : cellB.vm.isStatics = false) (hcls : s.vm.findClass C = some cellB.cls)
    {g : JFrame} (hg : g.method = m) (hsize : g.locals.size = c.maxLocals) {argsL rest : List Value} (hlen : ∀ sig, parseMethodDescriptor y.desc = some sig → argsL.length = sig.parameters.length)
    (hstack : g.stack = argsL.reverse ++ .ref b :: rest) (hW : 2 * g.monitorRoom + (rest.map fun v => v.category).sum ≤ W9) (hdg : decode c.code g.pc = .ok (.invokevirtual index, 3))
    (hpre : ∀ vm₁, s.WarmedH vm₁ → Pre ⟨T.setVm vm₁, locs, cells, slots⟩ (Value.ref b :: argsL).toArray) :
    ∃ (v : Option Value) (vm₁ : Vm) (B : Pt), s.WarmedH vm₁ ∧ Stand p l e R s m args below meth c B.U B.locs B.cells B.slots ∧ Post ⟨T.setVm vm₁, locs, cells, slots⟩ (Value.ref b :: argsL).toArray v B ∧
      ∀ target, Steps p.tables e below (B.U.setTop { g with pc := g.pc + 3, stack := v.toList ++ rest }) target → Steps p.tables e below (T.setTop g) target := by
  obtain ⟨mk, methM, hnamed, hmethM, hstM, habM⟩ := Cond.instanceMethod_spec hinst
  obtain ⟨m8, methM', cM, hn8, hmethM', -, -, -, -, -, -, hsigM⟩ := Cond.codeWith_spec hcode
  cases Option.some.inj (hn8.symm.trans hnamed)
  cases hmethM.symm.trans hmethM'
  obtain ⟨c2, r2, m2, q1, q2, q3, q4, kP, hkP, hkPi⟩ := Cond.selects_spec hsel
  cases hcls.symm.trans q1
  cases (State.methodFound?_of_named hnamed hy).symm.trans q2
  cases hnamed.symm.trans q3
  have hselP : selectMethod e.platform s.vm cellB.cls mk = .method mk := by rw [Launch.admits_selectMethod X.admits]; exact q4
  obtain ⟨vm₁, X₁, hstep₁⟩ := X.invokevirtual hexec hown hlink hnamed hmethM hstM hkP hkPi hy (a := b) (cell := cellB) hcell
    (fun z h => by rw [h] at hobj; cases hobj) hselP hmethM habM hkP hkPi (g := g) hg (argsL := argsL) (rest := rest) (hlen _ hsigM) hstack hdg
  obtain ⟨v, B, X', hpost, hsteps⟩ := hK m meth c ⟨T.setVm vm₁, locs, cells, slots⟩ { g with stack := rest } (.invokevirtual index) mk (Value.ref b :: argsL).toArray X₁ hg hsize hdg hW (X₁.named hnamed) (hpre vm₁ X₁.warmed)
  exact ⟨v, vm₁, B, X₁.warmed, X', hpost, fun target h => hstep₁ _ fun acts => by rw [doInvoke_state]; exact hsteps.trans h⟩
abbrev vx_CVW (R : Room) (s : State) (args : Array Value) (own C : String) (index : Nat) (y : MethodName) (bytes : ByteArray) (maxL : Nat) (ret : Option FieldType) (hh : List (Nat × Nat × Nat × Nat)) (ws : List Cond) (rm : Room) (mc ms n : Nat) : Prop :=
  (rm.cells = mc ∧ rm.slots = ms ∧ rm.frames + 1 ≤ R.frames ∧ 8 + (maxL + 11) + rm.locals ≤ R.locals ∧ (∀ w ∈ ws, ∀ (a' : Array Value) (U : State), s.WarmedH U.vm → w.before a' U = true) ∧ Cond.codeWith y bytes maxL ret hh ∈ ws) ∧
  (Cond.codeWith y bytes maxL ret hh).before args s = true ∧ (Cond.initialized y.cls).before args s = true ∧ (y.cls ≠ "java/lang/invoke/MethodHandle" ∧ y.cls ≠ "java/lang/invoke/VarHandle") ∧
  (∀ sig, parseMethodDescriptor y.desc = some sig → n = sig.parameters.length) ∧ (Cond.methodLink own index y).before args s = true ∧ (Cond.instanceMethod y).before args s = true ∧ (Cond.selects C y y).before args s = true
theorem vx_cwVW {own C : String} {index maxL mc ms : Nat} {y : MethodName} {bytes : ByteArray} {ret : Option FieldType} {hh : List (Nat × Nat × Nat × Nat)} {Ts ws ws' : List Cond} {rm : Room} (n : Nat) (ht : ∀ w ∈ Ts, w.before args s = true) (hT : GoodIn Ts (wsV own index C y ws)) (hw : ws = Cond.codeWith y bytes maxL ret hh :: ws') (hrc : rm.cells = mc) (hrs : rm.slots = ms)
    (hd : y.cls = C ∧ y.cls ≠ "java/lang/invoke/MethodHandle" ∧ y.cls ≠ "java/lang/invoke/VarHandle" ∧ (parseMethodDescriptor y.desc).map (fun d => d.parameters.length) = some n) (hR : rm.frames + 1 ≤ R.frames ∧ 8 + (maxL + 11) + rm.locals ≤ R.locals) :
    vx_CVW R s args own C index y bytes maxL ret hh ws rm mc ms n := by
  obtain ⟨hC, hd⟩ := hd
  subst hC
  have ok : ∀ w ∈ wsV own index y.cls y ws, w.before args s = true := fun w h => ht w (hT w h).1
  have hG : GoodIn Ts ws := fun w h => hT w (by unfold wsV; exact List.mem_append_right _ h)
  have hc : Cond.codeWith y bytes maxL ret hh ∈ ws := by rw [hw]; exact List.mem_cons_self
  refine ⟨⟨hrc, hrs, hR.1, hR.2, pay_in ht hG, hc⟩, ht _ (hG _ hc).1, ok _ (by simp [wsV]), ⟨hd.1, hd.2.1⟩, fun sig h => ?_, ok _ (by simp [wsV]), ok _ (by simp [wsV]), ok _ (by simp [wsV])⟩
  have h2 := hd.2.2
  rw [h] at h2
  exact (Option.some.inj h2).symm
theorem vx_runVW {y : MethodName} {bytes cc : ByteArray} {maxL nL mc ms n index : Nat} {ret : Option FieldType} {hh : List (Nat × Nat × Nat × Nat)} {ws : List Cond} {rm : Room} {Pc : Array Value → State → Prop} {Qc : Array Value → State → Outcome → State → Prop} {free : Addr → Prop} {Ts : List Cond} {own C : String} {b : Addr} {As rest : List Value} {g : JFrame}
    (S : CallFix p m c cc nL s args Ts own) (hM : Met l y ws rm Pc Qc mc ms free) (cw : vx_CVW R s args own C index y bytes maxL ret hh ws rm mc ms n) (hp : PreV s H C b Pc As)
    (hg : g.method = m) (hn : As.length = n) (hsize : g.locals.size = nL) (hstack : g.stack = As.reverse ++ .ref b :: rest) (hW : 2 * g.monitorRoom + (rest.map fun v => v.category).sum ≤ 8) (hdg : decode cc g.pc = .ok (.invokevirtual index, 3)) (hf : cells + mc ≤ R.cells ∧ slots + ms ≤ R.slots) :
    va_Run p l e R s m args below meth c H locs cells slots mc ms g rest (Qc (Value.ref b :: As).toArray) free := by
  obtain ⟨⟨hrc, hrs, hfr, hlo, hws, hcw⟩, hcode, hini, hy, hlen, hl, hin, hse⟩ := cw
  have hK : Back l R p e below s args y 3 8 (PreOf R mc ms Pc) (PostOf Qc mc ms free) := va_backW (hh := hh) (bytes := bytes) (maxL := maxL) (ret := ret) hM hp.1 hrc hrs hfr hlo hws hcw (fun a' U hW => word_at hW (Or.inl (by first | rfl | simp [Cond.onTables, Cond.keeps, Cond.steady])) hini)
  obtain ⟨hx, hb, hml, ho, -⟩ := S
  obtain ⟨-, ⟨cellB, hcB, hoB, hclB⟩, hPc⟩ := hp
  intro T hT X
  obtain ⟨v, vm₁, ⟨U', l2, c2, s2⟩, hW₁, X', ⟨g', mk, t, L, e1, e2, hq, h1, hL, h2, h3⟩, st⟩ := vx_callVW X hx (C := C) (hh := hh) (bytes := bytes) (maxL := maxL) (ret := ret) ho hl hin hse hcode hy hK (by rw [hT]; exact hcB) hoB hclB hg (hsize.trans hml.symm) (argsL := As) (rest := rest) (fun sig h => hn.trans (hlen sig h)) hstack hW (by rw [hb]; exact hdg)
    (fun vm₁ hW₁ => ⟨hf.1, hf.2, hPc (T.setVm vm₁) hT hW₁⟩)
  dsimp only [Pt.U, Pt.locs, Pt.cells, Pt.slots] at X' e1 e2 h1 h2 h3 st
  subst h1; subst h2; subst h3
  exact ⟨v, (T.setVm vm₁).calling g' mk (Value.ref b :: As).toArray, t, U', L, hT, X', hL, e1, e2, hq, st⟩
section
variable {y : MethodName} {bytes cc : ByteArray} {maxL nL mc ms n index : Nat} {ret : Option FieldType} {ws : List Cond} {rm : Room} {Pc : Array Value → State → Prop} {Qc : Array Value → State → Outcome → State → Prop} {XC : String → State → State → Prop} {free : Addr → Prop} {Ts : List Cond} {own C : String} {b : Addr} {As rest : List Value} {g : JFrame}
theorem vx_runVX {hh : List (Nat × Nat × Nat × Nat)} (S : CallFix p m c cc nL s args Ts own) (hM : vx_Met l y ws rm Pc Qc XC mc ms free) (cw : vx_CVW R s args own C index y bytes maxL ret hh ws rm mc ms n) (hp : PreV s H C b Pc As)
    (hg : g.method = m) (hn : As.length = n) (hsize : g.locals.size = nL) (hstack : g.stack = As.reverse ++ .ref b :: rest) (hW : 2 * g.monitorRoom + (rest.map fun v => v.category).sum ≤ 8) (hdg : decode cc g.pc = .ok (.invokevirtual index, 3)) (hf : cells + mc ≤ R.cells ∧ slots + ms ≤ R.slots) :
    vx_Run p l e R s m args below meth c H locs cells slots mc ms g rest (Qc (Value.ref b :: As).toArray) XC free := by
  obtain ⟨⟨hrc, hrs, hfr, hlo, hws, hcw⟩, hcode, hini, hy, hlen, hl, hin, hse⟩ := cw
  have hK : vx_Back l R p e below s args y 3 8 (PreOf R mc ms Pc) (PostOf Qc mc ms free) (vx_Post XC mc ms free) := vx_backW (hh := hh) (bytes := bytes) (maxL := maxL) (ret := ret) hM hp.1 hrc hrs hfr hlo hws hcw (fun a' U hW => word_at hW (Or.inl (by first | rfl | simp [Cond.onTables, Cond.keeps, Cond.steady])) hini)
  obtain ⟨hx, hb, hml, ho, -⟩ := S
  obtain ⟨-, ⟨cellB, hcB, hoB, hclB⟩, hPc⟩ := hp
  intro T hT X
  rcases vx_callVX X hx (C := C) (hh := hh) (bytes := bytes) (maxL := maxL) (ret := ret) ho hl hin hse hcode hy hK (by rw [hT]; exact hcB) hoB hclB hg (hsize.trans hml.symm) (argsL := As) (rest := rest) (fun sig h => hn.trans (hlen sig h)) hstack hW (by rw [hb]; exact hdg)
    (fun vm₁ hW₁ => ⟨hf.1, hf.2, hPc (T.setVm vm₁) hT hW₁⟩) with ⟨v, vm₁, ⟨U', l2, c2, s2⟩, hW₁, X', ⟨g', mk, t, L, e1, e2, hq, h1, hL, h2, h3⟩, st⟩ | ⟨q, vm₁, ⟨U', l2, c2, s2⟩, hW₁, X', ⟨g', mk, t, L, E, ce, e1, e2, hq, hce, hcv, hcl, h1, hL, h2, h3⟩, st⟩
  · dsimp only [Pt.U, Pt.locs, Pt.cells, Pt.slots] at X' e1 e2 h1 h2 h3 st
    subst h1; subst h2; subst h3
    exact Or.inl ⟨v, (T.setVm vm₁).calling g' mk (Value.ref b :: As).toArray, t, U', L, hT, X', hL, e1, e2, hq, st⟩
  · dsimp only [Pt.U, Pt.locs, Pt.cells, Pt.slots] at X' e1 e2 h1 h2 h3 st hcl
    subst h1; subst h2; subst h3
    exact Or.inr ⟨q, (T.setVm vm₁).calling g' mk (Value.ref b :: As).toArray, t, U', L, E, ce, hT, X', hL, e1, e2, hq, hce, hcv, vx_cls hW₁ hcl, st⟩
theorem vx_runSX {hh : List (Nat × Nat × Nat × Nat)} (S : CallFix p m c cc nL s args Ts own) (hM : vx_Met l y ws rm Pc Qc XC mc ms free) (cw : vx_CSW R s args own index y bytes maxL ret hh ws rm mc ms n) (hp : PreS s H Pc As)
    (hg : g.method = m) (hn : As.length = n) (hsize : g.locals.size = nL) (hstack : g.stack = As.reverse ++ rest) (hW : 2 * g.monitorRoom + (rest.map fun v => v.category).sum ≤ 8) (hdg : decode cc g.pc = .ok (.invokestatic index, 3)) (hf : cells + mc ≤ R.cells ∧ slots + ms ≤ R.slots) :
    vx_Run p l e R s m args below meth c H locs cells slots mc ms g rest (Qc As.toArray) XC free := by
  obtain ⟨⟨hrc, hrs, hfr, hlo, hws, hcw⟩, hcode, hini, hy, hlen, hl, hstt⟩ := cw
  have hK : vx_Back l R p e below s args y 3 8 (PreOf R mc ms Pc) (PostOf Qc mc ms free) (vx_Post XC mc ms free) := vx_backW (hh := hh) (bytes := bytes) (maxL := maxL) (ret := ret) hM hp.1 hrc hrs hfr hlo hws hcw (fun a' U hW => word_at hW (Or.inl (by first | rfl | simp [Cond.onTables, Cond.keeps, Cond.steady])) hini)
  obtain ⟨hx, hb, hml, ho, -⟩ := S
  intro T hT X
  rcases vx_callSX X hx (hh := hh) (bytes := bytes) (maxL := maxL) (ret := ret) ho hl hstt hini hcode hy hK hg (hsize.trans hml.symm) (argsL := As) (rest := rest) (fun sig h => hn.trans (hlen sig h)) hstack hW (by rw [hb]; exact hdg)
    (fun vm₁ hW₁ => ⟨hf.1, hf.2, hp.2 (T.setVm vm₁) hT hW₁⟩) with ⟨v, vm₁, ⟨U', l2, c2, s2⟩, hW₁, X', ⟨g', mk, t, L, e1, e2, hq, h1, hL, h2, h3⟩, st⟩ | ⟨q, vm₁, ⟨U', l2, c2, s2⟩, hW₁, X', ⟨g', mk, t, L, E, ce, e1, e2, hq, hce, hcv, hcl, h1, hL, h2, h3⟩, st⟩
  · dsimp only [Pt.U, Pt.locs, Pt.cells, Pt.slots] at X' e1 e2 h1 h2 h3 st
    subst h1; subst h2; subst h3
    exact Or.inl ⟨v, (T.setVm vm₁).calling g' mk As.toArray, t, U', L, hT, X', hL, e1, e2, hq, st⟩
  · dsimp only [Pt.U, Pt.locs, Pt.cells, Pt.slots] at X' e1 e2 h1 h2 h3 st hcl
    subst h1; subst h2; subst h3
    exact Or.inr ⟨q, (T.setVm vm₁).calling g' mk As.toArray, t, U', L, E, ce, hT, X', hL, e1, e2, hq, hce, hcv, vx_cls hW₁ hcl, st⟩
end
end VXH
theorem vx_ofWH {l : Launch} {y : MethodName} {ws ws' : List Cond} {rm : Room} {Pc : Array Value → State → Prop} {Qc : Array Value → State → Outcome → State → Prop} {XC : String → State → State → Prop} {mc ms : Nat} {free : Addr → Prop} {cc : ByteArray} {maxL : Nat} {ret : Option FieldType} {hh : List (Nat × Nat × Nat × Nat)}
    (hy : plainName y.cls = true) (hw : ws = Cond.codeWith y cc maxL ret hh :: ws')
    (body : ∀ p e s m args below meth c s₁, BodyLoose p l y (headSpec ws rm) cc maxL ret e s m args below meth c s₁ → c.maxLocals = maxL → Pc args s →
      W p l e (headSpec ws rm).room s m args below meth c s.heap [] 0 0 (vx_MQ below Qc XC args s mc ms free) (entryFrame m args maxL)) : vx_Met l y ws rm Pc Qc XC mc ms free := by
  refine MetFree.of_bodyS (code := cc) (maxLocals := maxL) (ret := ret) hy ?_ ?_
  · intro args s m h hn
    obtain ⟨m9, meth, c, hn9, h1, h2, h3, h4, -, h5, h6, -⟩ := Cond.codeWith_spec (atoms_spec (ws := ws) h _ (by rw [hw]; exact List.mem_cons_self))
    cases hn.symm.trans hn9
    exact ⟨meth, c, h1, h2, h3, h4, h5, h6⟩
  · intro p e s m args below meth c s₁ B hml hP _
    have hh0 : s₁.heap = s.heap := by rw [B.state]; rfl
    obtain ⟨t, a1, o, b1, b2, b3⟩ := body p e s m args below meth c s₁ B hml hP s₁ hh0 (Stand.of_body B)
    exact ⟨t, o, a1, b1, b2, b3⟩
/-! ===== END ===== -/

def RX0 : String := "AgedMarks$Slots"
def TX0 : u_T := fun k => match k with
  | _ => ("AgedMarks$Slots", "words", "[J", true)
def tyX0 : Nat → FieldType := fun k => match k with
  | _ => .array .long
abbrev wsX00 : List Cond := u_ws RX0 TX0 1
theorem nmX0 : ∀ a, a < 1 → ∀ b, b < 1 → a ≠ b → (TX0 a).2.1 ≠ (TX0 b).2.1 := by decide +kernel
theorem tyX0_ok : ∀ k, k < 1 → parseFieldDescriptor (TX0 k).2.2.1 = some (tyX0 k) := by decide +kernel
def RX1 : String := "AgedMarks"
def TX1 : u_T := fun k => match k with
  | 0 => ("AgedMarks", "gap", "I", true)
  | 1 => ("AgedMarks", "rich", "I", true)
  | 2 => ("AgedMarks", "marks", "[I", true)
  | 3 => ("AgedMarks", "slots", "[I", true)
  | 4 => ("AgedMarks", "taken", "LAgedMarks$Slots;", true)
  | 5 => ("AgedMarks", "held", "I", false)
  | 6 => ("AgedMarks", "now", "J", false)
  | 7 => ("AgedMarks", "end", "J", false)
  | 8 => ("AgedMarks", "most", "I", false)
  | 9 => ("AgedMarks", "laid", "J", false)
  | 10 => ("AgedMarks", "gone", "J", false)
  | _ => ("AgedMarks", "spent", "J", false)
def tyX1 : Nat → FieldType := fun k => match k with
  | 0 => .int
  | 1 => .int
  | 2 => .array .int
  | 3 => .array .int
  | 4 => .object "AgedMarks$Slots"
  | 5 => .int
  | 6 => .long
  | 7 => .long
  | 8 => .int
  | 9 => .long
  | 10 => .long
  | _ => .long
abbrev wsX10 : List Cond := u_ws RX1 TX1 12
theorem nmX1 : ∀ a, a < 12 → ∀ b, b < 12 → a ≠ b → (TX1 a).2.1 ≠ (TX1 b).2.1 := by decide +kernel
theorem tyX1_ok : ∀ k, k < 12 → parseFieldDescriptor (TX1 k).2.2.1 = some (tyX1 k) := by decide +kernel
def RX2 : String := "AgedMarksModel"
def TX2 : u_T := fun k => match k with
  | 0 => ("AgedMarksModel", "code", "I", false)
  | 1 => ("AgedMarksModel", "gap", "I", true)
  | 2 => ("AgedMarksModel", "rich", "I", true)
  | 3 => ("AgedMarksModel", "end", "J", false)
  | 4 => ("AgedMarksModel", "now", "J", false)
  | 5 => ("AgedMarksModel", "marks", "I", false)
  | 6 => ("AgedMarksModel", "number", "[I", true)
  | 7 => ("AgedMarksModel", "slot", "[I", true)
  | 8 => ("AgedMarksModel", "most", "I", false)
  | 9 => ("AgedMarksModel", "laid", "J", false)
  | 10 => ("AgedMarksModel", "gone", "J", false)
  | _ => ("AgedMarksModel", "costs", "J", false)
def tyX2 : Nat → FieldType := fun k => match k with
  | 0 => .int
  | 1 => .int
  | 2 => .int
  | 3 => .long
  | 4 => .long
  | 5 => .int
  | 6 => .array .int
  | 7 => .array .int
  | 8 => .int
  | 9 => .long
  | 10 => .long
  | _ => .long
abbrev wsX20 : List Cond := u_ws RX2 TX2 12
theorem nmX2 : ∀ a, a < 12 → ∀ b, b < 12 → a ≠ b → (TX2 a).2.1 ≠ (TX2 b).2.1 := by decide +kernel
theorem tyX2_ok : ∀ k, k < 12 → parseFieldDescriptor (TX2 k).2.2.1 = some (tyX2 k) := by decide +kernel
abbrev agCl : List vw_C := [(RX0, TX0, 1), (RX1, TX1, 12), (RX2, TX2, 12)]
end
section
/-- the words that every contract of mine takes: all of the tables that stay -/
def agW : List Cond := lw_tbl.filter goodWord
theorem agW_in : ∀ w ∈ agW, w ∈ lw_tbl := fun w h => (List.mem_filter.mp h).1
theorem agW_good : ∀ w ∈ agW, (w.onTables && w.keeps) = true ∨ ∃ ty, w = .arrayClass ty := fun w h => good_of_word (List.mem_filter.mp h).2
theorem ag_m1w {w : Cond} (h : w ∈ tables_1_1) (hg : goodWord w = true) : w ∈ agW := List.mem_filter.mpr ⟨List.mem_append_right _ (List.mem_append_left _ h), hg⟩
theorem ag_m2w {w : Cond} (h : w ∈ tables_1_2) (hg : goodWord w = true) : w ∈ agW := List.mem_filter.mpr ⟨List.mem_append_right _ (List.mem_append_right _ h), hg⟩
theorem ag_msel {q : MethodName × Nat} {w : Cond} (h : w ∈ k2_sels lw_privs) (hg : goodWord w = true) : w ∈ agW := List.mem_filter.mpr ⟨List.mem_append_left _ h, hg⟩
theorem ag_goodIn {c0 : Cond} {ws : List Cond} (h : ∀ w ∈ ws, w ∈ agW) : GoodIn (c0 :: agW) ws := fun w hw => ⟨List.mem_cons_of_mem _ (h w hw), agW_good w (h w hw)⟩
theorem ag_goodL {ws : List Cond} (h : ∀ w ∈ ws, w ∈ agW) : GoodIn lw_tbl ws := fun w hw => ⟨agW_in w (h w hw), agW_good w (h w hw)⟩

theorem mw_ini_W : (Jvm.Cond.initialized "AgedMarksLaw") ∈ agW := ag_m1w (List.mem_of_getElem? (i := 0) (by decide +kernel)) (by decide +kernel)
theorem mw_ini_A : (Jvm.Cond.initialized "AgedMarks") ∈ agW := ag_m1w (List.mem_of_getElem? (i := 1) (by decide +kernel)) (by decide +kernel)
theorem mw_ini_S : (Jvm.Cond.initialized "AgedMarks$Slots") ∈ agW := ag_m1w (List.mem_of_getElem? (i := 2) (by decide +kernel)) (by decide +kernel)
theorem mw_ini_H : (Jvm.Cond.initialized "java/lang/Math") ∈ agW := ag_m1w (List.mem_of_getElem? (i := 3) (by decide +kernel)) (by decide +kernel)
theorem mw_ini_B : (Jvm.Cond.initialized "java/lang/Long") ∈ agW := ag_m1w (List.mem_of_getElem? (i := 4) (by decide +kernel)) (by decide +kernel)
theorem mw_ini_M : (Jvm.Cond.initialized "AgedMarksModel") ∈ agW := ag_m1w (List.mem_of_getElem? (i := 5) (by decide +kernel)) (by decide +kernel)
theorem mw_ini_T : (Jvm.Cond.initialized "java/lang/Throwable") ∈ agW := ag_m1w (List.mem_of_getElem? (i := 6) (by decide +kernel)) (by decide +kernel)
theorem mw_ini_Exc : (Jvm.Cond.initialized "java/lang/Exception") ∈ agW := ag_m1w (List.mem_of_getElem? (i := 7) (by decide +kernel)) (by decide +kernel)
theorem mw_ini_Run : (Jvm.Cond.initialized "java/lang/RuntimeException") ∈ agW := ag_m1w (List.mem_of_getElem? (i := 8) (by decide +kernel)) (by decide +kernel)
theorem mw_ini_Ill : (Jvm.Cond.initialized "java/lang/IllegalArgumentException") ∈ agW := ag_m1w (List.mem_of_getElem? (i := 9) (by decide +kernel)) (by decide +kernel)
theorem mw_ini_Illx : (Jvm.Cond.initialized "java/lang/IllegalStateException") ∈ agW := ag_m1w (List.mem_of_getElem? (i := 10) (by decide +kernel)) (by decide +kernel)
theorem mw_ini_Y : (Jvm.Cond.initialized "java/lang/System") ∈ agW := ag_m1w (List.mem_of_getElem? (i := 11) (by decide +kernel)) (by decide +kernel)
theorem mw_ini_NoS : (Jvm.Cond.initialized "java/util/NoSuchElementException") ∈ agW := ag_m1w (List.mem_of_getElem? (i := 12) (by decide +kernel)) (by decide +kernel)
theorem mw_c_W_8 : (Jvm.Cond.classLink "AgedMarksLaw" (8 : Nat) "AgedMarks") ∈ agW := ag_m1w (List.mem_of_getElem? (i := 13) (by decide +kernel)) (by decide +kernel)
theorem mw_new_A : (Jvm.Cond.instantiable "AgedMarks" (12 : Nat)) ∈ agW := ag_m1w (List.mem_of_getElem? (i := 14) (by decide +kernel)) (by decide +kernel)
theorem mw_m_W_36 : (Jvm.Cond.methodLink "AgedMarksLaw" (36 : Nat) ({ cls := "AgedMarks", name := "<init>", desc := "(II)V" } : Jvm.MethodName)) ∈ agW := ag_m1w (List.mem_of_getElem? (i := 15) (by decide +kernel)) (by decide +kernel)
theorem mw_instanceMethod_A_init : (Jvm.Cond.instanceMethod ({ cls := "AgedMarks", name := "<init>", desc := "(II)V" } : Jvm.MethodName)) ∈ agW := ag_m1w (List.mem_of_getElem? (i := 16) (by decide +kernel)) (by decide +kernel)
theorem mw_code_A_init : (Jvm.Cond.code ({ cls := "AgedMarks", name := "<init>", desc := "(II)V" } : Jvm.MethodName) prog_1_method_1_code (3 : Nat) (Option.none : Option Jvm.ClassFile.FieldType)) ∈ agW := ag_m1w (List.mem_of_getElem? (i := 17) (by decide +kernel)) (by decide +kernel)
theorem mw_m_A_3 : (Jvm.Cond.methodLink "AgedMarks" (3 : Nat) ({ cls := "java/lang/Object", name := "<init>", desc := "()V" } : Jvm.MethodName)) ∈ agW := ag_m1w (List.mem_of_getElem? (i := 18) (by decide +kernel)) (by decide +kernel)
theorem mw_instanceMethod_O_init : (Jvm.Cond.instanceMethod ({ cls := "java/lang/Object", name := "<init>", desc := "()V" } : Jvm.MethodName)) ∈ agW := ag_m1w (List.mem_of_getElem? (i := 19) (by decide +kernel)) (by decide +kernel)
theorem mw_code_O_init : (Jvm.Cond.code ({ cls := "java/lang/Object", name := "<init>", desc := "()V" } : Jvm.MethodName) object_method_1_code (1 : Nat) (Option.none : Option Jvm.ClassFile.FieldType)) ∈ agW := ag_m1w (List.mem_of_getElem? (i := 20) (by decide +kernel)) (by decide +kernel)
theorem mw_c_A_16 : (Jvm.Cond.classLink "AgedMarks" (16 : Nat) "AgedMarks$Slots") ∈ agW := ag_m1w (List.mem_of_getElem? (i := 21) (by decide +kernel)) (by decide +kernel)
theorem mw_new_S : (Jvm.Cond.instantiable "AgedMarks$Slots" (1 : Nat)) ∈ agW := ag_m1w (List.mem_of_getElem? (i := 22) (by decide +kernel)) (by decide +kernel)
theorem mw_instanceMethod_S_init : (Jvm.Cond.instanceMethod ({ cls := "AgedMarks$Slots", name := "<init>", desc := "()V" } : Jvm.MethodName)) ∈ agW := ag_m1w (List.mem_of_getElem? (i := 24) (by decide +kernel)) (by decide +kernel)
theorem mw_code_S_init : (Jvm.Cond.code ({ cls := "AgedMarks$Slots", name := "<init>", desc := "()V" } : Jvm.MethodName) prog_2_method_1_code (1 : Nat) (Option.none : Option Jvm.ClassFile.FieldType)) ∈ agW := ag_m1w (List.mem_of_getElem? (i := 25) (by decide +kernel)) (by decide +kernel)
theorem mw_m_S_3 : (Jvm.Cond.methodLink "AgedMarks$Slots" (3 : Nat) ({ cls := "java/lang/Object", name := "<init>", desc := "()V" } : Jvm.MethodName)) ∈ agW := ag_m1w (List.mem_of_getElem? (i := 26) (by decide +kernel)) (by decide +kernel)
theorem mw_f_S_9 : (Jvm.Cond.fieldLink "AgedMarks$Slots" (9 : Nat) "AgedMarks$Slots" "words" "[J") ∈ agW := ag_m1w (List.mem_of_getElem? (i := 27) (by decide +kernel)) (by decide +kernel)
theorem mw_arr__int_ : (Jvm.Cond.arrayClass Jvm.ClassFile.FieldType.int) ∈ agW := ag_m1w (List.mem_of_getElem? (i := 31) (by decide +kernel)) (by decide +kernel)
theorem mw_arr__long_ : (Jvm.Cond.arrayClass Jvm.ClassFile.FieldType.long) ∈ agW := ag_m1w (List.mem_of_getElem? (i := 32) (by decide +kernel)) (by decide +kernel)
theorem mw_m_A_23 : (Jvm.Cond.methodLink "AgedMarks" (23 : Nat) ({ cls := "java/lang/Math", name := "min", desc := "(II)I" } : Jvm.MethodName)) ∈ agW := ag_m1w (List.mem_of_getElem? (i := 33) (by decide +kernel)) (by decide +kernel)
theorem mw_static_H_min : (Jvm.Cond.static ({ cls := "java/lang/Math", name := "min", desc := "(II)I" } : Jvm.MethodName)) ∈ agW := ag_m1w (List.mem_of_getElem? (i := 34) (by decide +kernel)) (by decide +kernel)
theorem mw_code_H_min : (Jvm.Cond.code ({ cls := "java/lang/Math", name := "min", desc := "(II)I" } : Jvm.MethodName) prog_9_method_69_code (2 : Nat) (Option.some Jvm.ClassFile.FieldType.int)) ∈ agW := ag_m1w (List.mem_of_getElem? (i := 35) (by decide +kernel)) (by decide +kernel)
theorem mw_m_A_29 : (Jvm.Cond.methodLink "AgedMarks" (29 : Nat) ({ cls := "java/lang/Math", name := "max", desc := "(II)I" } : Jvm.MethodName)) ∈ agW := ag_m1w (List.mem_of_getElem? (i := 36) (by decide +kernel)) (by decide +kernel)
theorem mw_static_H_max : (Jvm.Cond.static ({ cls := "java/lang/Math", name := "max", desc := "(II)I" } : Jvm.MethodName)) ∈ agW := ag_m1w (List.mem_of_getElem? (i := 37) (by decide +kernel)) (by decide +kernel)
theorem mw_code_H_max : (Jvm.Cond.code ({ cls := "java/lang/Math", name := "max", desc := "(II)I" } : Jvm.MethodName) prog_9_method_65_code (2 : Nat) (Option.some Jvm.ClassFile.FieldType.int)) ∈ agW := ag_m1w (List.mem_of_getElem? (i := 38) (by decide +kernel)) (by decide +kernel)
theorem mw_m_A_39 : (Jvm.Cond.methodLink "AgedMarks" (39 : Nat) ({ cls := "AgedMarks$Slots", name := "takeLeast", desc := "()I" } : Jvm.MethodName)) ∈ agW := ag_m1w (List.mem_of_getElem? (i := 39) (by decide +kernel)) (by decide +kernel)
theorem mw_instanceMethod_S_takeLeast : (Jvm.Cond.instanceMethod ({ cls := "AgedMarks$Slots", name := "takeLeast", desc := "()I" } : Jvm.MethodName)) ∈ agW := ag_m1w (List.mem_of_getElem? (i := 40) (by decide +kernel)) (by decide +kernel)
theorem mw_sel_S_takeLeast : (Jvm.Cond.selects "AgedMarks$Slots" ({ cls := "AgedMarks$Slots", name := "takeLeast", desc := "()I" } : Jvm.MethodName) ({ cls := "AgedMarks$Slots", name := "takeLeast", desc := "()I" } : Jvm.MethodName)) ∈ agW := ag_m1w (List.mem_of_getElem? (i := 41) (by decide +kernel)) (by decide +kernel)
theorem mw_code_S_takeLeast : (Jvm.Cond.code ({ cls := "AgedMarks$Slots", name := "takeLeast", desc := "()I" } : Jvm.MethodName) prog_2_method_2_code (6 : Nat) (Option.some Jvm.ClassFile.FieldType.int)) ∈ agW := ag_m1w (List.mem_of_getElem? (i := 42) (by decide +kernel)) (by decide +kernel)
theorem mw_k_S_15 : (Jvm.Cond.constantLong "AgedMarks$Slots" (15 : Nat) (-1 : Int64)) ∈ agW := ag_m1w (List.mem_of_getElem? (i := 43) (by decide +kernel)) (by decide +kernel)
theorem mw_m_S_17 : (Jvm.Cond.methodLink "AgedMarks$Slots" (17 : Nat) ({ cls := "java/lang/Long", name := "bitCount", desc := "(J)I" } : Jvm.MethodName)) ∈ agW := ag_m1w (List.mem_of_getElem? (i := 44) (by decide +kernel)) (by decide +kernel)
theorem mw_static_B_bitCount : (Jvm.Cond.static ({ cls := "java/lang/Long", name := "bitCount", desc := "(J)I" } : Jvm.MethodName)) ∈ agW := ag_m1w (List.mem_of_getElem? (i := 45) (by decide +kernel)) (by decide +kernel)
theorem mw_code_B_bitCount : (Jvm.Cond.code ({ cls := "java/lang/Long", name := "bitCount", desc := "(J)I" } : Jvm.MethodName) prog_8_method_50_code (2 : Nat) (Option.some Jvm.ClassFile.FieldType.int)) ∈ agW := ag_m1w (List.mem_of_getElem? (i := 46) (by decide +kernel)) (by decide +kernel)
theorem mw_k_B_314 : (Jvm.Cond.constantLong "java/lang/Long" (314 : Nat) (6148914691236517205 : Int64)) ∈ agW := ag_m1w (List.mem_of_getElem? (i := 47) (by decide +kernel)) (by decide +kernel)
theorem mw_k_B_316 : (Jvm.Cond.constantLong "java/lang/Long" (316 : Nat) (3689348814741910323 : Int64)) ∈ agW := ag_m1w (List.mem_of_getElem? (i := 48) (by decide +kernel)) (by decide +kernel)
theorem mw_k_B_318 : (Jvm.Cond.constantLong "java/lang/Long" (318 : Nat) (1085102592571150095 : Int64)) ∈ agW := ag_m1w (List.mem_of_getElem? (i := 49) (by decide +kernel)) (by decide +kernel)
theorem mw_f_A_32 : (Jvm.Cond.fieldLink "AgedMarks" (32 : Nat) "AgedMarks" "gap" "I") ∈ agW := ag_m1w (List.mem_of_getElem? (i := 50) (by decide +kernel)) (by decide +kernel)
theorem mw_f_A_36 : (Jvm.Cond.fieldLink "AgedMarks" (36 : Nat) "AgedMarks" "rich" "I") ∈ agW := ag_m1w (List.mem_of_getElem? (i := 51) (by decide +kernel)) (by decide +kernel)
theorem mw_f_A_9 : (Jvm.Cond.fieldLink "AgedMarks" (9 : Nat) "AgedMarks" "marks" "[I") ∈ agW := ag_m1w (List.mem_of_getElem? (i := 52) (by decide +kernel)) (by decide +kernel)
theorem mw_f_A_13 : (Jvm.Cond.fieldLink "AgedMarks" (13 : Nat) "AgedMarks" "slots" "[I") ∈ agW := ag_m1w (List.mem_of_getElem? (i := 53) (by decide +kernel)) (by decide +kernel)
theorem mw_f_A_19 : (Jvm.Cond.fieldLink "AgedMarks" (19 : Nat) "AgedMarks" "taken" "LAgedMarks$Slots;") ∈ agW := ag_m1w (List.mem_of_getElem? (i := 54) (by decide +kernel)) (by decide +kernel)
theorem mw_f_A_43 : (Jvm.Cond.fieldLink "AgedMarks" (43 : Nat) "AgedMarks" "held" "I") ∈ agW := ag_m1w (List.mem_of_getElem? (i := 55) (by decide +kernel)) (by decide +kernel)
theorem mw_f_A_56 : (Jvm.Cond.fieldLink "AgedMarks" (56 : Nat) "AgedMarks" "now" "J") ∈ agW := ag_m1w (List.mem_of_getElem? (i := 56) (by decide +kernel)) (by decide +kernel)
theorem mw_f_A_67 : (Jvm.Cond.fieldLink "AgedMarks" (67 : Nat) "AgedMarks" "end" "J") ∈ agW := ag_m1w (List.mem_of_getElem? (i := 57) (by decide +kernel)) (by decide +kernel)
theorem mw_f_A_46 : (Jvm.Cond.fieldLink "AgedMarks" (46 : Nat) "AgedMarks" "most" "I") ∈ agW := ag_m1w (List.mem_of_getElem? (i := 58) (by decide +kernel)) (by decide +kernel)
theorem mw_f_A_100 : (Jvm.Cond.fieldLink "AgedMarks" (100 : Nat) "AgedMarks" "laid" "J") ∈ agW := ag_m1w (List.mem_of_getElem? (i := 59) (by decide +kernel)) (by decide +kernel)
theorem mw_f_A_103 : (Jvm.Cond.fieldLink "AgedMarks" (103 : Nat) "AgedMarks" "gone" "J") ∈ agW := ag_m1w (List.mem_of_getElem? (i := 60) (by decide +kernel)) (by decide +kernel)
theorem mw_f_A_106 : (Jvm.Cond.fieldLink "AgedMarks" (106 : Nat) "AgedMarks" "spent" "J") ∈ agW := ag_m1w (List.mem_of_getElem? (i := 61) (by decide +kernel)) (by decide +kernel)
theorem mw_m_W_59 : (Jvm.Cond.methodLink "AgedMarksLaw" (59 : Nat) ({ cls := "AgedMarks", name := "cut", desc := "()I" } : Jvm.MethodName)) ∈ agW := ag_m1w (List.mem_of_getElem? (i := 87) (by decide +kernel)) (by decide +kernel)
theorem mw_instanceMethod_A_cut : (Jvm.Cond.instanceMethod ({ cls := "AgedMarks", name := "cut", desc := "()I" } : Jvm.MethodName)) ∈ agW := ag_m1w (List.mem_of_getElem? (i := 88) (by decide +kernel)) (by decide +kernel)
theorem mw_sel_A_cut : (Jvm.Cond.selects "AgedMarks" ({ cls := "AgedMarks", name := "cut", desc := "()I" } : Jvm.MethodName) ({ cls := "AgedMarks", name := "cut", desc := "()I" } : Jvm.MethodName)) ∈ agW := ag_m1w (List.mem_of_getElem? (i := 89) (by decide +kernel)) (by decide +kernel)
theorem mw_code_A_cut : (Jvm.Cond.code ({ cls := "AgedMarks", name := "cut", desc := "()I" } : Jvm.MethodName) prog_1_method_5_code (3 : Nat) (Option.some Jvm.ClassFile.FieldType.int)) ∈ agW := ag_m1w (List.mem_of_getElem? (i := 90) (by decide +kernel)) (by decide +kernel)
theorem mw_m_A_82 : (Jvm.Cond.methodLink "AgedMarks" (82 : Nat) ({ cls := "AgedMarks", name := "countAt", desc := "(I)J" } : Jvm.MethodName)) ∈ agW := ag_m1w (List.mem_of_getElem? (i := 91) (by decide +kernel)) (by decide +kernel)
theorem mw_instanceMethod_A_countAt : (Jvm.Cond.instanceMethod ({ cls := "AgedMarks", name := "countAt", desc := "(I)J" } : Jvm.MethodName)) ∈ agW := ag_m1w (List.mem_of_getElem? (i := 93) (by decide +kernel)) (by decide +kernel)
theorem mw_code_A_countAt : (Jvm.Cond.code ({ cls := "AgedMarks", name := "countAt", desc := "(I)J" } : Jvm.MethodName) prog_1_method_18_code (2 : Nat) (Option.some Jvm.ClassFile.FieldType.long)) ∈ agW := ag_m1w (List.mem_of_getElem? (i := 94) (by decide +kernel)) (by decide +kernel)
theorem mw_m_A_86 : (Jvm.Cond.methodLink "AgedMarks" (86 : Nat) ({ cls := "AgedMarks", name := "drop", desc := "(I)V" } : Jvm.MethodName)) ∈ agW := ag_m1w (List.mem_of_getElem? (i := 95) (by decide +kernel)) (by decide +kernel)
theorem mw_instanceMethod_A_drop : (Jvm.Cond.instanceMethod ({ cls := "AgedMarks", name := "drop", desc := "(I)V" } : Jvm.MethodName)) ∈ agW := ag_m1w (List.mem_of_getElem? (i := 97) (by decide +kernel)) (by decide +kernel)
theorem mw_code_A_drop : (Jvm.Cond.code ({ cls := "AgedMarks", name := "drop", desc := "(I)V" } : Jvm.MethodName) prog_1_method_15_code (3 : Nat) (Option.none : Option Jvm.ClassFile.FieldType)) ∈ agW := ag_m1w (List.mem_of_getElem? (i := 98) (by decide +kernel)) (by decide +kernel)
theorem mw_m_A_124 : (Jvm.Cond.methodLink "AgedMarks" (124 : Nat) ({ cls := "AgedMarks$Slots", name := "release", desc := "(I)V" } : Jvm.MethodName)) ∈ agW := ag_m1w (List.mem_of_getElem? (i := 99) (by decide +kernel)) (by decide +kernel)
theorem mw_instanceMethod_S_release : (Jvm.Cond.instanceMethod ({ cls := "AgedMarks$Slots", name := "release", desc := "(I)V" } : Jvm.MethodName)) ∈ agW := ag_m1w (List.mem_of_getElem? (i := 100) (by decide +kernel)) (by decide +kernel)
theorem mw_sel_S_release : (Jvm.Cond.selects "AgedMarks$Slots" ({ cls := "AgedMarks$Slots", name := "release", desc := "(I)V" } : Jvm.MethodName) ({ cls := "AgedMarks$Slots", name := "release", desc := "(I)V" } : Jvm.MethodName)) ∈ agW := ag_m1w (List.mem_of_getElem? (i := 101) (by decide +kernel)) (by decide +kernel)
theorem mw_code_S_release : (Jvm.Cond.code ({ cls := "AgedMarks$Slots", name := "release", desc := "(I)V" } : Jvm.MethodName) prog_2_method_3_code (2 : Nat) (Option.none : Option Jvm.ClassFile.FieldType)) ∈ agW := ag_m1w (List.mem_of_getElem? (i := 102) (by decide +kernel)) (by decide +kernel)
theorem mw_m_A_127 : (Jvm.Cond.methodLink "AgedMarks" (127 : Nat) ({ cls := "java/lang/System", name := "arraycopy", desc := "(Ljava/lang/Object;ILjava/lang/Object;II)V" } : Jvm.MethodName)) ∈ agW := ag_m1w (List.mem_of_getElem? (i := 103) (by decide +kernel)) (by decide +kernel)
theorem mw_static_Y_arraycopy : (Jvm.Cond.static ({ cls := "java/lang/System", name := "arraycopy", desc := "(Ljava/lang/Object;ILjava/lang/Object;II)V" } : Jvm.MethodName)) ∈ agW := ag_m1w (List.mem_of_getElem? (i := 104) (by decide +kernel)) (by decide +kernel)
theorem mw_native_Y_arraycopy : (Jvm.Cond.native ({ cls := "java/lang/System", name := "arraycopy", desc := "(Ljava/lang/Object;ILjava/lang/Object;II)V" } : Jvm.MethodName)) ∈ agW := ag_m1w (List.mem_of_getElem? (i := 105) (by decide +kernel)) (by decide +kernel)
theorem mw_m_W_67 : (Jvm.Cond.methodLink "AgedMarksLaw" (67 : Nat) ({ cls := "AgedMarks", name := "holder", desc := "(I)I" } : Jvm.MethodName)) ∈ agW := ag_m1w (List.mem_of_getElem? (i := 106) (by decide +kernel)) (by decide +kernel)
theorem mw_instanceMethod_A_holder : (Jvm.Cond.instanceMethod ({ cls := "AgedMarks", name := "holder", desc := "(I)I" } : Jvm.MethodName)) ∈ agW := ag_m1w (List.mem_of_getElem? (i := 107) (by decide +kernel)) (by decide +kernel)
theorem mw_sel_A_holder : (Jvm.Cond.selects "AgedMarks" ({ cls := "AgedMarks", name := "holder", desc := "(I)I" } : Jvm.MethodName) ({ cls := "AgedMarks", name := "holder", desc := "(I)I" } : Jvm.MethodName)) ∈ agW := ag_m1w (List.mem_of_getElem? (i := 108) (by decide +kernel)) (by decide +kernel)
theorem mw_code_A_holder : (Jvm.Cond.code ({ cls := "AgedMarks", name := "holder", desc := "(I)I" } : Jvm.MethodName) prog_1_method_7_code (3 : Nat) (Option.some Jvm.ClassFile.FieldType.int)) ∈ agW := ag_m1w (List.mem_of_getElem? (i := 109) (by decide +kernel)) (by decide +kernel)
theorem mw_m_W_71 : (Jvm.Cond.methodLink "AgedMarksLaw" (71 : Nat) ({ cls := "AgedMarks", name := "worst", desc := "()J" } : Jvm.MethodName)) ∈ agW := ag_m1w (List.mem_of_getElem? (i := 110) (by decide +kernel)) (by decide +kernel)
theorem mw_instanceMethod_A_worst : (Jvm.Cond.instanceMethod ({ cls := "AgedMarks", name := "worst", desc := "()J" } : Jvm.MethodName)) ∈ agW := ag_m1w (List.mem_of_getElem? (i := 111) (by decide +kernel)) (by decide +kernel)
theorem mw_sel_A_worst : (Jvm.Cond.selects "AgedMarks" ({ cls := "AgedMarks", name := "worst", desc := "()J" } : Jvm.MethodName) ({ cls := "AgedMarks", name := "worst", desc := "()J" } : Jvm.MethodName)) ∈ agW := ag_m1w (List.mem_of_getElem? (i := 112) (by decide +kernel)) (by decide +kernel)
theorem mw_code_A_worst : (Jvm.Cond.code ({ cls := "AgedMarks", name := "worst", desc := "()J" } : Jvm.MethodName) prog_1_method_8_code (4 : Nat) (Option.some Jvm.ClassFile.FieldType.long)) ∈ agW := ag_m1w (List.mem_of_getElem? (i := 113) (by decide +kernel)) (by decide +kernel)
theorem mw_m_A_97 : (Jvm.Cond.methodLink "AgedMarks" (97 : Nat) ({ cls := "java/lang/Math", name := "max", desc := "(JJ)J" } : Jvm.MethodName)) ∈ agW := ag_m1w (List.mem_of_getElem? (i := 114) (by decide +kernel)) (by decide +kernel)
theorem mw_static_H_max_JJJ : (Jvm.Cond.static ({ cls := "java/lang/Math", name := "max", desc := "(JJ)J" } : Jvm.MethodName)) ∈ agW := ag_m1w (List.mem_of_getElem? (i := 115) (by decide +kernel)) (by decide +kernel)
theorem mw_code_H_max_116 : (Jvm.Cond.code ({ cls := "java/lang/Math", name := "max", desc := "(JJ)J" } : Jvm.MethodName) prog_9_method_66_code (4 : Nat) (Option.some Jvm.ClassFile.FieldType.long)) ∈ agW := ag_m1w (List.mem_of_getElem? (i := 116) (by decide +kernel)) (by decide +kernel)
theorem mw_m_W_76 : (Jvm.Cond.methodLink "AgedMarksLaw" (76 : Nat) ({ cls := "AgedMarks", name := "count", desc := "(I)J" } : Jvm.MethodName)) ∈ agW := ag_m1w (List.mem_of_getElem? (i := 117) (by decide +kernel)) (by decide +kernel)
theorem mw_instanceMethod_A_count : (Jvm.Cond.instanceMethod ({ cls := "AgedMarks", name := "count", desc := "(I)J" } : Jvm.MethodName)) ∈ agW := ag_m1w (List.mem_of_getElem? (i := 118) (by decide +kernel)) (by decide +kernel)
theorem mw_sel_A_count : (Jvm.Cond.selects "AgedMarks" ({ cls := "AgedMarks", name := "count", desc := "(I)J" } : Jvm.MethodName) ({ cls := "AgedMarks", name := "count", desc := "(I)J" } : Jvm.MethodName)) ∈ agW := ag_m1w (List.mem_of_getElem? (i := 119) (by decide +kernel)) (by decide +kernel)
theorem mw_code_A_count : (Jvm.Cond.code ({ cls := "AgedMarks", name := "count", desc := "(I)J" } : Jvm.MethodName) prog_1_method_9_code (2 : Nat) (Option.some Jvm.ClassFile.FieldType.long)) ∈ agW := ag_m1w (List.mem_of_getElem? (i := 120) (by decide +kernel)) (by decide +kernel)
theorem mw_k_A_109 : (Jvm.Cond.constantLong "AgedMarks" (109 : Nat) (-1 : Int64)) ∈ agW := ag_m1w (List.mem_of_getElem? (i := 121) (by decide +kernel)) (by decide +kernel)
theorem mw_m_W_30 : (Jvm.Cond.methodLink "AgedMarksLaw" (30 : Nat) ({ cls := "AgedMarksLaw", name := "cell", desc := "([II)I" } : Jvm.MethodName)) ∈ agW := ag_m1w (List.mem_of_getElem? (i := 122) (by decide +kernel)) (by decide +kernel)
theorem mw_static_W_cell : (Jvm.Cond.static ({ cls := "AgedMarksLaw", name := "cell", desc := "([II)I" } : Jvm.MethodName)) ∈ agW := ag_m1w (List.mem_of_getElem? (i := 123) (by decide +kernel)) (by decide +kernel)
theorem mw_code_W_cell : (Jvm.Cond.code ({ cls := "AgedMarksLaw", name := "cell", desc := "([II)I" } : Jvm.MethodName) method_2_code (2 : Nat) (Option.some Jvm.ClassFile.FieldType.int)) ∈ agW := ag_m1w (List.mem_of_getElem? (i := 124) (by decide +kernel)) (by decide +kernel)
theorem mw_m_W_42 : (Jvm.Cond.methodLink "AgedMarksLaw" (42 : Nat) ({ cls := "AgedMarksLaw", name := "run", desc := "(LAgedMarks;I[J)I" } : Jvm.MethodName)) ∈ agW := ag_m1w (List.mem_of_getElem? (i := 125) (by decide +kernel)) (by decide +kernel)
theorem mw_static_W_run : (Jvm.Cond.static ({ cls := "AgedMarksLaw", name := "run", desc := "(LAgedMarks;I[J)I" } : Jvm.MethodName)) ∈ agW := ag_m1w (List.mem_of_getElem? (i := 126) (by decide +kernel)) (by decide +kernel)
theorem mw_code_W_run : (Jvm.Cond.codeWith ({ cls := "AgedMarksLaw", name := "run", desc := "(LAgedMarks;I[J)I" } : Jvm.MethodName) method_3_code (4 : Nat) (Option.some Jvm.ClassFile.FieldType.int) [((0 : Nat), (9 : Nat), (12 : Nat), (13 : Nat)), ((0 : Nat), (9 : Nat), (15 : Nat), (15 : Nat))]) ∈ agW := ag_m1w (List.mem_of_getElem? (i := 127) (by decide +kernel)) (by decide +kernel)
theorem mw_c_W_13 : (Jvm.Cond.classLink "AgedMarksLaw" (13 : Nat) "java/lang/IllegalArgumentException") ∈ agW := ag_m1w (List.mem_of_getElem? (i := 128) (by decide +kernel)) (by decide +kernel)
theorem mw_c_W_15 : (Jvm.Cond.classLink "AgedMarksLaw" (15 : Nat) "java/lang/IllegalStateException") ∈ agW := ag_m1w (List.mem_of_getElem? (i := 129) (by decide +kernel)) (by decide +kernel)
theorem mw_m_W_7 : (Jvm.Cond.methodLink "AgedMarksLaw" (7 : Nat) ({ cls := "AgedMarks", name := "run", desc := "(I)I" } : Jvm.MethodName)) ∈ agW := ag_m1w (List.mem_of_getElem? (i := 130) (by decide +kernel)) (by decide +kernel)
theorem mw_instanceMethod_A_run : (Jvm.Cond.instanceMethod ({ cls := "AgedMarks", name := "run", desc := "(I)I" } : Jvm.MethodName)) ∈ agW := ag_m1w (List.mem_of_getElem? (i := 131) (by decide +kernel)) (by decide +kernel)
theorem mw_sel_A_run : (Jvm.Cond.selects "AgedMarks" ({ cls := "AgedMarks", name := "run", desc := "(I)I" } : Jvm.MethodName) ({ cls := "AgedMarks", name := "run", desc := "(I)I" } : Jvm.MethodName)) ∈ agW := ag_m1w (List.mem_of_getElem? (i := 132) (by decide +kernel)) (by decide +kernel)
theorem mw_code_A_run : (Jvm.Cond.code ({ cls := "AgedMarks", name := "run", desc := "(I)I" } : Jvm.MethodName) prog_1_method_2_code (2 : Nat) (Option.some Jvm.ClassFile.FieldType.int)) ∈ agW := ag_m1w (List.mem_of_getElem? (i := 133) (by decide +kernel)) (by decide +kernel)
theorem mw_c_A_49 : (Jvm.Cond.classLink "AgedMarks" (49 : Nat) "java/lang/IllegalArgumentException") ∈ agW := ag_m1w (List.mem_of_getElem? (i := 134) (by decide +kernel)) (by decide +kernel)
theorem mw_new_Ill : (Jvm.Cond.instantiable "java/lang/IllegalArgumentException" (6 : Nat)) ∈ agW := ag_m1w (List.mem_of_getElem? (i := 135) (by decide +kernel)) (by decide +kernel)
theorem mw_sel_T_fillInStackTrace : (Jvm.Cond.selects "java/lang/IllegalArgumentException" ({ cls := "java/lang/Throwable", name := "fillInStackTrace", desc := "(I)Ljava/lang/Throwable;" } : Jvm.MethodName) ({ cls := "java/lang/Throwable", name := "fillInStackTrace", desc := "(I)Ljava/lang/Throwable;" } : Jvm.MethodName)) ∈ agW := ag_m1w (List.mem_of_getElem? (i := 143) (by decide +kernel)) (by decide +kernel)
theorem mw_sel_T_fillInStackTrace_144 : (Jvm.Cond.selects "java/lang/IllegalArgumentException" ({ cls := "java/lang/Throwable", name := "fillInStackTrace", desc := "()Ljava/lang/Throwable;" } : Jvm.MethodName) ({ cls := "java/lang/Throwable", name := "fillInStackTrace", desc := "()Ljava/lang/Throwable;" } : Jvm.MethodName)) ∈ agW := ag_m1w (List.mem_of_getElem? (i := 144) (by decide +kernel)) (by decide +kernel)
theorem mw_f_T_198 : (Jvm.Cond.fieldLink "java/lang/Throwable" (198 : Nat) "java/lang/Throwable" "backtrace" "Ljava/lang/Object;") ∈ agW := ag_m1w (List.mem_of_getElem? (i := 155) (by decide +kernel)) (by decide +kernel)
theorem mw_instanceMethod_T_init : (Jvm.Cond.instanceMethod ({ cls := "java/lang/Throwable", name := "<init>", desc := "()V" } : Jvm.MethodName)) ∈ agW := ag_m1w (List.mem_of_getElem? (i := 157) (by decide +kernel)) (by decide +kernel)
theorem mw_code_T_init : (Jvm.Cond.code ({ cls := "java/lang/Throwable", name := "<init>", desc := "()V" } : Jvm.MethodName) prog_13_method_1_code (1 : Nat) (Option.none : Option Jvm.ClassFile.FieldType)) ∈ agW := ag_m1w (List.mem_of_getElem? (i := 158) (by decide +kernel)) (by decide +kernel)
theorem mw_m_T_1 : (Jvm.Cond.methodLink "java/lang/Throwable" (1 : Nat) ({ cls := "java/lang/Object", name := "<init>", desc := "()V" } : Jvm.MethodName)) ∈ agW := ag_m1w (List.mem_of_getElem? (i := 159) (by decide +kernel)) (by decide +kernel)
theorem mw_f_T_13 : (Jvm.Cond.fieldLink "java/lang/Throwable" (13 : Nat) "java/lang/Throwable" "UNASSIGNED_STACK" "[Ljava/lang/StackTraceElement;") ∈ agW := ag_m1w (List.mem_of_getElem? (i := 160) (by decide +kernel)) (by decide +kernel)
theorem mw_f_T_20 : (Jvm.Cond.fieldLink "java/lang/Throwable" (20 : Nat) "java/lang/Throwable" "SUPPRESSED_SENTINEL" "Ljava/util/List;") ∈ agW := ag_m1w (List.mem_of_getElem? (i := 162) (by decide +kernel)) (by decide +kernel)
theorem mw_m_T_27 : (Jvm.Cond.methodLink "java/lang/Throwable" (27 : Nat) ({ cls := "java/lang/Throwable", name := "fillInStackTrace", desc := "()Ljava/lang/Throwable;" } : Jvm.MethodName)) ∈ agW := ag_m1w (List.mem_of_getElem? (i := 164) (by decide +kernel)) (by decide +kernel)
theorem mw_instanceMethod_T_fillInStackTrace : (Jvm.Cond.instanceMethod ({ cls := "java/lang/Throwable", name := "fillInStackTrace", desc := "()Ljava/lang/Throwable;" } : Jvm.MethodName)) ∈ agW := ag_m1w (List.mem_of_getElem? (i := 165) (by decide +kernel)) (by decide +kernel)
theorem mw_sameMethod_1_166 : (Jvm.Cond.sameMethod "java/lang/Throwable" "java/lang/Throwable" "fillInStackTrace" "()Ljava/lang/Throwable;") ∈ agW := ag_m1w (List.mem_of_getElem? (i := 166) (by decide +kernel)) (by decide +kernel)
theorem mw_sel_T_fillInStackTrace_167 : (Jvm.Cond.selects "java/lang/IllegalStateException" ({ cls := "java/lang/Throwable", name := "fillInStackTrace", desc := "()Ljava/lang/Throwable;" } : Jvm.MethodName) ({ cls := "java/lang/Throwable", name := "fillInStackTrace", desc := "()Ljava/lang/Throwable;" } : Jvm.MethodName)) ∈ agW := ag_m1w (List.mem_of_getElem? (i := 167) (by decide +kernel)) (by decide +kernel)
theorem mw_sel_T_fillInStackTrace_168 : (Jvm.Cond.selects "java/util/NoSuchElementException" ({ cls := "java/lang/Throwable", name := "fillInStackTrace", desc := "()Ljava/lang/Throwable;" } : Jvm.MethodName) ({ cls := "java/lang/Throwable", name := "fillInStackTrace", desc := "()Ljava/lang/Throwable;" } : Jvm.MethodName)) ∈ agW := ag_m1w (List.mem_of_getElem? (i := 168) (by decide +kernel)) (by decide +kernel)
theorem mw_codeSync_1_169 : (Jvm.Cond.codeSync ({ cls := "java/lang/Throwable", name := "fillInStackTrace", desc := "()Ljava/lang/Throwable;" } : Jvm.MethodName) prog_13_method_18_code (1 : Nat) (Option.some (Jvm.ClassFile.FieldType.object "java/lang/Throwable"))) ∈ agW := ag_m1w (List.mem_of_getElem? (i := 169) (by decide +kernel)) (by decide +kernel)
theorem mw_m_T_202 : (Jvm.Cond.methodLink "java/lang/Throwable" (202 : Nat) ({ cls := "java/lang/Throwable", name := "fillInStackTrace", desc := "(I)Ljava/lang/Throwable;" } : Jvm.MethodName)) ∈ agW := ag_m1w (List.mem_of_getElem? (i := 170) (by decide +kernel)) (by decide +kernel)
theorem mw_instanceMethod_T_fillInStackTrace_ILjavalangThrowable : (Jvm.Cond.instanceMethod ({ cls := "java/lang/Throwable", name := "fillInStackTrace", desc := "(I)Ljava/lang/Throwable;" } : Jvm.MethodName)) ∈ agW := ag_m1w (List.mem_of_getElem? (i := 172) (by decide +kernel)) (by decide +kernel)
theorem mw_new_T : (Jvm.Cond.instantiable "java/lang/Throwable" (6 : Nat)) ∈ agW := ag_m1w (List.mem_of_getElem? (i := 173) (by decide +kernel)) (by decide +kernel)
theorem mw_native_T_fillInStackTrace : (Jvm.Cond.native ({ cls := "java/lang/Throwable", name := "fillInStackTrace", desc := "(I)Ljava/lang/Throwable;" } : Jvm.MethodName)) ∈ agW := ag_m1w (List.mem_of_getElem? (i := 174) (by decide +kernel)) (by decide +kernel)
theorem mw_m_A_53 : (Jvm.Cond.methodLink "AgedMarks" (53 : Nat) ({ cls := "java/lang/IllegalArgumentException", name := "<init>", desc := "(Ljava/lang/String;)V" } : Jvm.MethodName)) ∈ agW := ag_m1w (List.mem_of_getElem? (i := 176) (by decide +kernel)) (by decide +kernel)
theorem mw_instanceMethod_Ill_init : (Jvm.Cond.instanceMethod ({ cls := "java/lang/IllegalArgumentException", name := "<init>", desc := "(Ljava/lang/String;)V" } : Jvm.MethodName)) ∈ agW := ag_m1w (List.mem_of_getElem? (i := 177) (by decide +kernel)) (by decide +kernel)
theorem mw_code_Ill_init : (Jvm.Cond.code ({ cls := "java/lang/IllegalArgumentException", name := "<init>", desc := "(Ljava/lang/String;)V" } : Jvm.MethodName) prog_6_method_2_code (2 : Nat) (Option.none : Option Jvm.ClassFile.FieldType)) ∈ agW := ag_m1w (List.mem_of_getElem? (i := 178) (by decide +kernel)) (by decide +kernel)
theorem mw_m_Ill_7 : (Jvm.Cond.methodLink "java/lang/IllegalArgumentException" (7 : Nat) ({ cls := "java/lang/RuntimeException", name := "<init>", desc := "(Ljava/lang/String;)V" } : Jvm.MethodName)) ∈ agW := ag_m1w (List.mem_of_getElem? (i := 179) (by decide +kernel)) (by decide +kernel)
theorem mw_instanceMethod_Run_init : (Jvm.Cond.instanceMethod ({ cls := "java/lang/RuntimeException", name := "<init>", desc := "(Ljava/lang/String;)V" } : Jvm.MethodName)) ∈ agW := ag_m1w (List.mem_of_getElem? (i := 180) (by decide +kernel)) (by decide +kernel)
theorem mw_code_Run_init : (Jvm.Cond.code ({ cls := "java/lang/RuntimeException", name := "<init>", desc := "(Ljava/lang/String;)V" } : Jvm.MethodName) prog_10_method_2_code (2 : Nat) (Option.none : Option Jvm.ClassFile.FieldType)) ∈ agW := ag_m1w (List.mem_of_getElem? (i := 181) (by decide +kernel)) (by decide +kernel)
theorem mw_m_Run_7 : (Jvm.Cond.methodLink "java/lang/RuntimeException" (7 : Nat) ({ cls := "java/lang/Exception", name := "<init>", desc := "(Ljava/lang/String;)V" } : Jvm.MethodName)) ∈ agW := ag_m1w (List.mem_of_getElem? (i := 182) (by decide +kernel)) (by decide +kernel)
theorem mw_instanceMethod_Exc_init : (Jvm.Cond.instanceMethod ({ cls := "java/lang/Exception", name := "<init>", desc := "(Ljava/lang/String;)V" } : Jvm.MethodName)) ∈ agW := ag_m1w (List.mem_of_getElem? (i := 183) (by decide +kernel)) (by decide +kernel)
theorem mw_code_Exc_init : (Jvm.Cond.code ({ cls := "java/lang/Exception", name := "<init>", desc := "(Ljava/lang/String;)V" } : Jvm.MethodName) prog_5_method_2_code (2 : Nat) (Option.none : Option Jvm.ClassFile.FieldType)) ∈ agW := ag_m1w (List.mem_of_getElem? (i := 184) (by decide +kernel)) (by decide +kernel)
theorem mw_m_Exc_7 : (Jvm.Cond.methodLink "java/lang/Exception" (7 : Nat) ({ cls := "java/lang/Throwable", name := "<init>", desc := "(Ljava/lang/String;)V" } : Jvm.MethodName)) ∈ agW := ag_m1w (List.mem_of_getElem? (i := 185) (by decide +kernel)) (by decide +kernel)
theorem mw_instanceMethod_T_init_LjavalangStringV : (Jvm.Cond.instanceMethod ({ cls := "java/lang/Throwable", name := "<init>", desc := "(Ljava/lang/String;)V" } : Jvm.MethodName)) ∈ agW := ag_m1w (List.mem_of_getElem? (i := 186) (by decide +kernel)) (by decide +kernel)
theorem mw_code_T_init_187 : (Jvm.Cond.code ({ cls := "java/lang/Throwable", name := "<init>", desc := "(Ljava/lang/String;)V" } : Jvm.MethodName) prog_13_method_2_code (2 : Nat) (Option.none : Option Jvm.ClassFile.FieldType)) ∈ agW := ag_m1w (List.mem_of_getElem? (i := 187) (by decide +kernel)) (by decide +kernel)
theorem mw_f_T_198x : (Jvm.Cond.fieldLink "java/lang/Throwable" (198 : Nat) "java/lang/Throwable" "backtrace" "Ljava/lang/Object;") ∈ agW := ag_m1w (List.mem_of_getElem? (i := 188) (by decide +kernel)) (by decide +kernel)
theorem mw_f_T_31 : (Jvm.Cond.fieldLink "java/lang/Throwable" (31 : Nat) "java/lang/Throwable" "detailMessage" "Ljava/lang/String;") ∈ agW := ag_m1w (List.mem_of_getElem? (i := 189) (by decide +kernel)) (by decide +kernel)
theorem mw_f_T_7 : (Jvm.Cond.fieldLink "java/lang/Throwable" (7 : Nat) "java/lang/Throwable" "cause" "Ljava/lang/Throwable;") ∈ agW := ag_m1w (List.mem_of_getElem? (i := 190) (by decide +kernel)) (by decide +kernel)
theorem mw_f_T_17 : (Jvm.Cond.fieldLink "java/lang/Throwable" (17 : Nat) "java/lang/Throwable" "stackTrace" "[Ljava/lang/StackTraceElement;") ∈ agW := ag_m1w (List.mem_of_getElem? (i := 191) (by decide +kernel)) (by decide +kernel)
theorem mw_f_T_24 : (Jvm.Cond.fieldLink "java/lang/Throwable" (24 : Nat) "java/lang/Throwable" "suppressedExceptions" "Ljava/util/List;") ∈ agW := ag_m1w (List.mem_of_getElem? (i := 192) (by decide +kernel)) (by decide +kernel)
theorem mw_arr__byte_ : (Jvm.Cond.arrayClass Jvm.ClassFile.FieldType.byte) ∈ agW := ag_m1w (List.mem_of_getElem? (i := 201) (by decide +kernel)) (by decide +kernel)
theorem mw_k_A_60 : (Jvm.Cond.constantLong "AgedMarks" (60 : Nat) (1000000 : Int64)) ∈ agW := ag_m1w (List.mem_of_getElem? (i := 202) (by decide +kernel)) (by decide +kernel)
theorem mw_c_A_62 : (Jvm.Cond.classLink "AgedMarks" (62 : Nat) "java/lang/IllegalStateException") ∈ agW := ag_m1w (List.mem_of_getElem? (i := 203) (by decide +kernel)) (by decide +kernel)
theorem mw_new_Illx : (Jvm.Cond.instantiable "java/lang/IllegalStateException" (6 : Nat)) ∈ agW := ag_m1w (List.mem_of_getElem? (i := 204) (by decide +kernel)) (by decide +kernel)
theorem mw_sel_T_fillInStackTrace_206 : (Jvm.Cond.selects "java/lang/IllegalStateException" ({ cls := "java/lang/Throwable", name := "fillInStackTrace", desc := "(I)Ljava/lang/Throwable;" } : Jvm.MethodName) ({ cls := "java/lang/Throwable", name := "fillInStackTrace", desc := "(I)Ljava/lang/Throwable;" } : Jvm.MethodName)) ∈ agW := ag_m1w (List.mem_of_getElem? (i := 206) (by decide +kernel)) (by decide +kernel)
theorem mw_m_A_66 : (Jvm.Cond.methodLink "AgedMarks" (66 : Nat) ({ cls := "java/lang/IllegalStateException", name := "<init>", desc := "(Ljava/lang/String;)V" } : Jvm.MethodName)) ∈ agW := ag_m1w (List.mem_of_getElem? (i := 213) (by decide +kernel)) (by decide +kernel)
theorem mw_instanceMethod_Ill_init_LjavalangStringV : (Jvm.Cond.instanceMethod ({ cls := "java/lang/IllegalStateException", name := "<init>", desc := "(Ljava/lang/String;)V" } : Jvm.MethodName)) ∈ agW := ag_m1w (List.mem_of_getElem? (i := 214) (by decide +kernel)) (by decide +kernel)
theorem mw_code_Ill_init_215 : (Jvm.Cond.code ({ cls := "java/lang/IllegalStateException", name := "<init>", desc := "(Ljava/lang/String;)V" } : Jvm.MethodName) prog_7_method_2_code (2 : Nat) (Option.none : Option Jvm.ClassFile.FieldType)) ∈ agW := ag_m1w (List.mem_of_getElem? (i := 215) (by decide +kernel)) (by decide +kernel)
theorem mw_m_Ill_7x : (Jvm.Cond.methodLink "java/lang/IllegalStateException" (7 : Nat) ({ cls := "java/lang/RuntimeException", name := "<init>", desc := "(Ljava/lang/String;)V" } : Jvm.MethodName)) ∈ agW := ag_m1w (List.mem_of_getElem? (i := 216) (by decide +kernel)) (by decide +kernel)
theorem mw_m_A_70 : (Jvm.Cond.methodLink "AgedMarks" (70 : Nat) ({ cls := "AgedMarks", name := "growTo", desc := "(J)I" } : Jvm.MethodName)) ∈ agW := ag_m1w (List.mem_of_getElem? (i := 219) (by decide +kernel)) (by decide +kernel)
theorem mw_instanceMethod_A_growTo : (Jvm.Cond.instanceMethod ({ cls := "AgedMarks", name := "growTo", desc := "(J)I" } : Jvm.MethodName)) ∈ agW := ag_m1w (List.mem_of_getElem? (i := 221) (by decide +kernel)) (by decide +kernel)
theorem mw_code_A_growTo : (Jvm.Cond.code ({ cls := "AgedMarks", name := "growTo", desc := "(J)I" } : Jvm.MethodName) prog_1_method_10_code (6 : Nat) (Option.some Jvm.ClassFile.FieldType.int)) ∈ agW := ag_m1w (List.mem_of_getElem? (i := 222) (by decide +kernel)) (by decide +kernel)
theorem mw_m_A_111 : (Jvm.Cond.methodLink "AgedMarks" (111 : Nat) ({ cls := "AgedMarks", name := "gapsIn", desc := "(J)I" } : Jvm.MethodName)) ∈ agW := ag_m1w (List.mem_of_getElem? (i := 223) (by decide +kernel)) (by decide +kernel)
theorem mw_instanceMethod_A_gapsIn : (Jvm.Cond.instanceMethod ({ cls := "AgedMarks", name := "gapsIn", desc := "(J)I" } : Jvm.MethodName)) ∈ agW := ag_m1w (List.mem_of_getElem? (i := 225) (by decide +kernel)) (by decide +kernel)
theorem mw_code_A_gapsIn : (Jvm.Cond.code ({ cls := "AgedMarks", name := "gapsIn", desc := "(J)I" } : Jvm.MethodName) prog_1_method_11_code (3 : Nat) (Option.some Jvm.ClassFile.FieldType.int)) ∈ agW := ag_m1w (List.mem_of_getElem? (i := 226) (by decide +kernel)) (by decide +kernel)
theorem mw_m_A_114 : (Jvm.Cond.methodLink "AgedMarks" (114 : Nat) ({ cls := "AgedMarks", name := "lay", desc := "(I)V" } : Jvm.MethodName)) ∈ agW := ag_m1w (List.mem_of_getElem? (i := 227) (by decide +kernel)) (by decide +kernel)
theorem mw_instanceMethod_A_lay : (Jvm.Cond.instanceMethod ({ cls := "AgedMarks", name := "lay", desc := "(I)V" } : Jvm.MethodName)) ∈ agW := ag_m1w (List.mem_of_getElem? (i := 229) (by decide +kernel)) (by decide +kernel)
theorem mw_code_A_lay : (Jvm.Cond.code ({ cls := "AgedMarks", name := "lay", desc := "(I)V" } : Jvm.MethodName) prog_1_method_12_code (2 : Nat) (Option.none : Option Jvm.ClassFile.FieldType)) ∈ agW := ag_m1w (List.mem_of_getElem? (i := 230) (by decide +kernel)) (by decide +kernel)
theorem mw_m_A_117 : (Jvm.Cond.methodLink "AgedMarks" (117 : Nat) ({ cls := "AgedMarks", name := "thin", desc := "(I)V" } : Jvm.MethodName)) ∈ agW := ag_m1w (List.mem_of_getElem? (i := 231) (by decide +kernel)) (by decide +kernel)
theorem mw_instanceMethod_A_thin : (Jvm.Cond.instanceMethod ({ cls := "AgedMarks", name := "thin", desc := "(I)V" } : Jvm.MethodName)) ∈ agW := ag_m1w (List.mem_of_getElem? (i := 233) (by decide +kernel)) (by decide +kernel)
theorem mw_code_A_thin : (Jvm.Cond.code ({ cls := "AgedMarks", name := "thin", desc := "(I)V" } : Jvm.MethodName) prog_1_method_13_code (4 : Nat) (Option.none : Option Jvm.ClassFile.FieldType)) ∈ agW := ag_m1w (List.mem_of_getElem? (i := 234) (by decide +kernel)) (by decide +kernel)
theorem mw_m_A_120 : (Jvm.Cond.methodLink "AgedMarks" (120 : Nat) ({ cls := "AgedMarks", name := "placeOf", desc := "(I)I" } : Jvm.MethodName)) ∈ agW := ag_m1w (List.mem_of_getElem? (i := 235) (by decide +kernel)) (by decide +kernel)
theorem mw_instanceMethod_A_placeOf : (Jvm.Cond.instanceMethod ({ cls := "AgedMarks", name := "placeOf", desc := "(I)I" } : Jvm.MethodName)) ∈ agW := ag_m1w (List.mem_of_getElem? (i := 237) (by decide +kernel)) (by decide +kernel)
theorem mw_code_A_placeOf : (Jvm.Cond.code ({ cls := "AgedMarks", name := "placeOf", desc := "(I)I" } : Jvm.MethodName) prog_1_method_14_code (3 : Nat) (Option.some Jvm.ClassFile.FieldType.int)) ∈ agW := ag_m1w (List.mem_of_getElem? (i := 238) (by decide +kernel)) (by decide +kernel)
theorem mw_m_W_52 : (Jvm.Cond.methodLink "AgedMarksLaw" (52 : Nat) ({ cls := "AgedMarksLaw", name := "go", desc := "(LAgedMarks;J[J)I" } : Jvm.MethodName)) ∈ agW := ag_m1w (List.mem_of_getElem? (i := 239) (by decide +kernel)) (by decide +kernel)
theorem mw_static_W_go : (Jvm.Cond.static ({ cls := "AgedMarksLaw", name := "go", desc := "(LAgedMarks;J[J)I" } : Jvm.MethodName)) ∈ agW := ag_m2w (List.mem_of_getElem? (i := 0) (by decide +kernel)) (by decide +kernel)
theorem mw_code_W_go : (Jvm.Cond.codeWith ({ cls := "AgedMarksLaw", name := "go", desc := "(LAgedMarks;J[J)I" } : Jvm.MethodName) method_4_code (5 : Nat) (Option.some Jvm.ClassFile.FieldType.int) [((0 : Nat), (8 : Nat), (11 : Nat), (13 : Nat))]) ∈ agW := ag_m2w (List.mem_of_getElem? (i := 1) (by decide +kernel)) (by decide +kernel)
theorem mw_m_W_17 : (Jvm.Cond.methodLink "AgedMarksLaw" (17 : Nat) ({ cls := "AgedMarks", name := "go", desc := "(J)J" } : Jvm.MethodName)) ∈ agW := ag_m2w (List.mem_of_getElem? (i := 2) (by decide +kernel)) (by decide +kernel)
theorem mw_instanceMethod_A_go : (Jvm.Cond.instanceMethod ({ cls := "AgedMarks", name := "go", desc := "(J)J" } : Jvm.MethodName)) ∈ agW := ag_m2w (List.mem_of_getElem? (i := 3) (by decide +kernel)) (by decide +kernel)
theorem mw_sel_A_go : (Jvm.Cond.selects "AgedMarks" ({ cls := "AgedMarks", name := "go", desc := "(J)J" } : Jvm.MethodName) ({ cls := "AgedMarks", name := "go", desc := "(J)J" } : Jvm.MethodName)) ∈ agW := ag_m2w (List.mem_of_getElem? (i := 4) (by decide +kernel)) (by decide +kernel)
theorem mw_code_A_go : (Jvm.Cond.code ({ cls := "AgedMarks", name := "go", desc := "(J)J" } : Jvm.MethodName) prog_1_method_3_code (3 : Nat) (Option.some Jvm.ClassFile.FieldType.long)) ∈ agW := ag_m2w (List.mem_of_getElem? (i := 5) (by decide +kernel)) (by decide +kernel)
theorem mw_m_A_76 : (Jvm.Cond.methodLink "AgedMarks" (76 : Nat) ({ cls := "AgedMarks", name := "moveTo", desc := "(J)J" } : Jvm.MethodName)) ∈ agW := ag_m2w (List.mem_of_getElem? (i := 7) (by decide +kernel)) (by decide +kernel)
theorem mw_instanceMethod_A_moveTo : (Jvm.Cond.instanceMethod ({ cls := "AgedMarks", name := "moveTo", desc := "(J)J" } : Jvm.MethodName)) ∈ agW := ag_m2w (List.mem_of_getElem? (i := 9) (by decide +kernel)) (by decide +kernel)
theorem mw_code_A_moveTo : (Jvm.Cond.code ({ cls := "AgedMarks", name := "moveTo", desc := "(J)J" } : Jvm.MethodName) prog_1_method_16_code (5 : Nat) (Option.some Jvm.ClassFile.FieldType.long)) ∈ agW := ag_m2w (List.mem_of_getElem? (i := 10) (by decide +kernel)) (by decide +kernel)
theorem mw_m_A_133 : (Jvm.Cond.methodLink "AgedMarks" (133 : Nat) ({ cls := "AgedMarks", name := "costOf", desc := "(J)J" } : Jvm.MethodName)) ∈ agW := ag_m2w (List.mem_of_getElem? (i := 11) (by decide +kernel)) (by decide +kernel)
theorem mw_instanceMethod_A_costOf : (Jvm.Cond.instanceMethod ({ cls := "AgedMarks", name := "costOf", desc := "(J)J" } : Jvm.MethodName)) ∈ agW := ag_m2w (List.mem_of_getElem? (i := 13) (by decide +kernel)) (by decide +kernel)
theorem mw_code_A_costOf : (Jvm.Cond.code ({ cls := "AgedMarks", name := "costOf", desc := "(J)J" } : Jvm.MethodName) prog_1_method_17_code (4 : Nat) (Option.some Jvm.ClassFile.FieldType.long)) ∈ agW := ag_m2w (List.mem_of_getElem? (i := 14) (by decide +kernel)) (by decide +kernel)
theorem mw_m_W_56 : (Jvm.Cond.methodLink "AgedMarksLaw" (56 : Nat) ({ cls := "AgedMarksLaw", name := "back", desc := "(LAgedMarks;J[J)I" } : Jvm.MethodName)) ∈ agW := ag_m2w (List.mem_of_getElem? (i := 15) (by decide +kernel)) (by decide +kernel)
theorem mw_static_W_back : (Jvm.Cond.static ({ cls := "AgedMarksLaw", name := "back", desc := "(LAgedMarks;J[J)I" } : Jvm.MethodName)) ∈ agW := ag_m2w (List.mem_of_getElem? (i := 16) (by decide +kernel)) (by decide +kernel)
theorem mw_code_W_back : (Jvm.Cond.codeWith ({ cls := "AgedMarksLaw", name := "back", desc := "(LAgedMarks;J[J)I" } : Jvm.MethodName) method_5_code (5 : Nat) (Option.some Jvm.ClassFile.FieldType.int) [((0 : Nat), (8 : Nat), (11 : Nat), (13 : Nat))]) ∈ agW := ag_m2w (List.mem_of_getElem? (i := 17) (by decide +kernel)) (by decide +kernel)
theorem mw_m_W_21 : (Jvm.Cond.methodLink "AgedMarksLaw" (21 : Nat) ({ cls := "AgedMarks", name := "back", desc := "(J)J" } : Jvm.MethodName)) ∈ agW := ag_m2w (List.mem_of_getElem? (i := 18) (by decide +kernel)) (by decide +kernel)
theorem mw_instanceMethod_A_back : (Jvm.Cond.instanceMethod ({ cls := "AgedMarks", name := "back", desc := "(J)J" } : Jvm.MethodName)) ∈ agW := ag_m2w (List.mem_of_getElem? (i := 19) (by decide +kernel)) (by decide +kernel)
theorem mw_sel_A_back : (Jvm.Cond.selects "AgedMarks" ({ cls := "AgedMarks", name := "back", desc := "(J)J" } : Jvm.MethodName) ({ cls := "AgedMarks", name := "back", desc := "(J)J" } : Jvm.MethodName)) ∈ agW := ag_m2w (List.mem_of_getElem? (i := 20) (by decide +kernel)) (by decide +kernel)
theorem mw_code_A_back : (Jvm.Cond.code ({ cls := "AgedMarks", name := "back", desc := "(J)J" } : Jvm.MethodName) prog_1_method_4_code (3 : Nat) (Option.some Jvm.ClassFile.FieldType.long)) ∈ agW := ag_m2w (List.mem_of_getElem? (i := 21) (by decide +kernel)) (by decide +kernel)
theorem mw_m_W_63 : (Jvm.Cond.methodLink "AgedMarksLaw" (63 : Nat) ({ cls := "AgedMarksLaw", name := "mark", desc := "(LAgedMarks;II[J)I" } : Jvm.MethodName)) ∈ agW := ag_m2w (List.mem_of_getElem? (i := 23) (by decide +kernel)) (by decide +kernel)
theorem mw_static_W_mark : (Jvm.Cond.static ({ cls := "AgedMarksLaw", name := "mark", desc := "(LAgedMarks;II[J)I" } : Jvm.MethodName)) ∈ agW := ag_m2w (List.mem_of_getElem? (i := 24) (by decide +kernel)) (by decide +kernel)
theorem mw_code_W_mark : (Jvm.Cond.codeWith ({ cls := "AgedMarksLaw", name := "mark", desc := "(LAgedMarks;II[J)I" } : Jvm.MethodName) method_6_code (5 : Nat) (Option.some Jvm.ClassFile.FieldType.int) [((0 : Nat), (9 : Nat), (12 : Nat), (28 : Nat)), ((0 : Nat), (9 : Nat), (16 : Nat), (13 : Nat))]) ∈ agW := ag_m2w (List.mem_of_getElem? (i := 25) (by decide +kernel)) (by decide +kernel)
theorem mw_c_W_28 : (Jvm.Cond.classLink "AgedMarksLaw" (28 : Nat) "java/util/NoSuchElementException") ∈ agW := ag_m2w (List.mem_of_getElem? (i := 26) (by decide +kernel)) (by decide +kernel)
theorem mw_m_W_24 : (Jvm.Cond.methodLink "AgedMarksLaw" (24 : Nat) ({ cls := "AgedMarks", name := "mark", desc := "(II)J" } : Jvm.MethodName)) ∈ agW := ag_m2w (List.mem_of_getElem? (i := 27) (by decide +kernel)) (by decide +kernel)
theorem mw_instanceMethod_A_mark : (Jvm.Cond.instanceMethod ({ cls := "AgedMarks", name := "mark", desc := "(II)J" } : Jvm.MethodName)) ∈ agW := ag_m2w (List.mem_of_getElem? (i := 28) (by decide +kernel)) (by decide +kernel)
theorem mw_sel_A_mark : (Jvm.Cond.selects "AgedMarks" ({ cls := "AgedMarks", name := "mark", desc := "(II)J" } : Jvm.MethodName) ({ cls := "AgedMarks", name := "mark", desc := "(II)J" } : Jvm.MethodName)) ∈ agW := ag_m2w (List.mem_of_getElem? (i := 29) (by decide +kernel)) (by decide +kernel)
theorem mw_code_A_mark : (Jvm.Cond.code ({ cls := "AgedMarks", name := "mark", desc := "(II)J" } : Jvm.MethodName) prog_1_method_6_code (3 : Nat) (Option.some Jvm.ClassFile.FieldType.long)) ∈ agW := ag_m2w (List.mem_of_getElem? (i := 30) (by decide +kernel)) (by decide +kernel)
theorem mw_c_A_90 : (Jvm.Cond.classLink "AgedMarks" (90 : Nat) "java/util/NoSuchElementException") ∈ agW := ag_m2w (List.mem_of_getElem? (i := 31) (by decide +kernel)) (by decide +kernel)
theorem mw_new_NoS : (Jvm.Cond.instantiable "java/util/NoSuchElementException" (6 : Nat)) ∈ agW := ag_m2w (List.mem_of_getElem? (i := 32) (by decide +kernel)) (by decide +kernel)
theorem mw_sel_T_fillInStackTrace_274 : (Jvm.Cond.selects "java/util/NoSuchElementException" ({ cls := "java/lang/Throwable", name := "fillInStackTrace", desc := "(I)Ljava/lang/Throwable;" } : Jvm.MethodName) ({ cls := "java/lang/Throwable", name := "fillInStackTrace", desc := "(I)Ljava/lang/Throwable;" } : Jvm.MethodName)) ∈ agW := ag_m2w (List.mem_of_getElem? (i := 34) (by decide +kernel)) (by decide +kernel)
theorem mw_m_A_94 : (Jvm.Cond.methodLink "AgedMarks" (94 : Nat) ({ cls := "java/util/NoSuchElementException", name := "<init>", desc := "(Ljava/lang/String;)V" } : Jvm.MethodName)) ∈ agW := ag_m2w (List.mem_of_getElem? (i := 41) (by decide +kernel)) (by decide +kernel)
theorem mw_instanceMethod_NoS_init : (Jvm.Cond.instanceMethod ({ cls := "java/util/NoSuchElementException", name := "<init>", desc := "(Ljava/lang/String;)V" } : Jvm.MethodName)) ∈ agW := ag_m2w (List.mem_of_getElem? (i := 42) (by decide +kernel)) (by decide +kernel)
theorem mw_code_NoS_init : (Jvm.Cond.code ({ cls := "java/util/NoSuchElementException", name := "<init>", desc := "(Ljava/lang/String;)V" } : Jvm.MethodName) prog_14_method_4_code (2 : Nat) (Option.none : Option Jvm.ClassFile.FieldType)) ∈ agW := ag_m2w (List.mem_of_getElem? (i := 43) (by decide +kernel)) (by decide +kernel)
theorem mw_m_NoS_13 : (Jvm.Cond.methodLink "java/util/NoSuchElementException" (13 : Nat) ({ cls := "java/lang/RuntimeException", name := "<init>", desc := "(Ljava/lang/String;)V" } : Jvm.MethodName)) ∈ agW := ag_m2w (List.mem_of_getElem? (i := 44) (by decide +kernel)) (by decide +kernel)
theorem mw_c_W_39 : (Jvm.Cond.classLink "AgedMarksLaw" (39 : Nat) "AgedMarksModel") ∈ agW := ag_m2w (List.mem_of_getElem? (i := 48) (by decide +kernel)) (by decide +kernel)
theorem mw_new_M : (Jvm.Cond.instantiable "AgedMarksModel" (12 : Nat)) ∈ agW := ag_m2w (List.mem_of_getElem? (i := 49) (by decide +kernel)) (by decide +kernel)
theorem mw_m_W_41 : (Jvm.Cond.methodLink "AgedMarksLaw" (41 : Nat) ({ cls := "AgedMarksModel", name := "<init>", desc := "(II)V" } : Jvm.MethodName)) ∈ agW := ag_m2w (List.mem_of_getElem? (i := 50) (by decide +kernel)) (by decide +kernel)
theorem mw_instanceMethod_M_init : (Jvm.Cond.instanceMethod ({ cls := "AgedMarksModel", name := "<init>", desc := "(II)V" } : Jvm.MethodName)) ∈ agW := ag_m2w (List.mem_of_getElem? (i := 51) (by decide +kernel)) (by decide +kernel)
theorem mw_code_M_init : (Jvm.Cond.code ({ cls := "AgedMarksModel", name := "<init>", desc := "(II)V" } : Jvm.MethodName) prog_4_method_1_code (3 : Nat) (Option.none : Option Jvm.ClassFile.FieldType)) ∈ agW := ag_m2w (List.mem_of_getElem? (i := 52) (by decide +kernel)) (by decide +kernel)
theorem mw_m_M_1 : (Jvm.Cond.methodLink "AgedMarksModel" (1 : Nat) ({ cls := "java/lang/Object", name := "<init>", desc := "()V" } : Jvm.MethodName)) ∈ agW := ag_m2w (List.mem_of_getElem? (i := 53) (by decide +kernel)) (by decide +kernel)
theorem mw_f_M_29 : (Jvm.Cond.fieldLink "AgedMarksModel" (29 : Nat) "AgedMarksModel" "code" "I") ∈ agW := ag_m2w (List.mem_of_getElem? (i := 54) (by decide +kernel)) (by decide +kernel)
theorem mw_f_M_23 : (Jvm.Cond.fieldLink "AgedMarksModel" (23 : Nat) "AgedMarksModel" "gap" "I") ∈ agW := ag_m2w (List.mem_of_getElem? (i := 55) (by decide +kernel)) (by decide +kernel)
theorem mw_f_M_26 : (Jvm.Cond.fieldLink "AgedMarksModel" (26 : Nat) "AgedMarksModel" "rich" "I") ∈ agW := ag_m2w (List.mem_of_getElem? (i := 56) (by decide +kernel)) (by decide +kernel)
theorem mw_f_M_58 : (Jvm.Cond.fieldLink "AgedMarksModel" (58 : Nat) "AgedMarksModel" "end" "J") ∈ agW := ag_m2w (List.mem_of_getElem? (i := 57) (by decide +kernel)) (by decide +kernel)
theorem mw_f_M_49 : (Jvm.Cond.fieldLink "AgedMarksModel" (49 : Nat) "AgedMarksModel" "now" "J") ∈ agW := ag_m2w (List.mem_of_getElem? (i := 58) (by decide +kernel)) (by decide +kernel)
theorem mw_f_M_7 : (Jvm.Cond.fieldLink "AgedMarksModel" (7 : Nat) "AgedMarksModel" "marks" "I") ∈ agW := ag_m2w (List.mem_of_getElem? (i := 59) (by decide +kernel)) (by decide +kernel)
theorem mw_f_M_13 : (Jvm.Cond.fieldLink "AgedMarksModel" (13 : Nat) "AgedMarksModel" "number" "[I") ∈ agW := ag_m2w (List.mem_of_getElem? (i := 60) (by decide +kernel)) (by decide +kernel)
theorem mw_f_M_17 : (Jvm.Cond.fieldLink "AgedMarksModel" (17 : Nat) "AgedMarksModel" "slot" "[I") ∈ agW := ag_m2w (List.mem_of_getElem? (i := 61) (by decide +kernel)) (by decide +kernel)
theorem mw_f_M_20 : (Jvm.Cond.fieldLink "AgedMarksModel" (20 : Nat) "AgedMarksModel" "most" "I") ∈ agW := ag_m2w (List.mem_of_getElem? (i := 62) (by decide +kernel)) (by decide +kernel)
theorem mw_f_M_46 : (Jvm.Cond.fieldLink "AgedMarksModel" (46 : Nat) "AgedMarksModel" "laid" "J") ∈ agW := ag_m2w (List.mem_of_getElem? (i := 63) (by decide +kernel)) (by decide +kernel)
theorem mw_f_M_42 : (Jvm.Cond.fieldLink "AgedMarksModel" (42 : Nat) "AgedMarksModel" "gone" "J") ∈ agW := ag_m2w (List.mem_of_getElem? (i := 64) (by decide +kernel)) (by decide +kernel)
theorem mw_f_M_69 : (Jvm.Cond.fieldLink "AgedMarksModel" (69 : Nat) "AgedMarksModel" "costs" "J") ∈ agW := ag_m2w (List.mem_of_getElem? (i := 65) (by decide +kernel)) (by decide +kernel)
theorem mw_m_W_46 : (Jvm.Cond.methodLink "AgedMarksLaw" (46 : Nat) ({ cls := "AgedMarksModel", name := "thrown", desc := "()I" } : Jvm.MethodName)) ∈ agW := ag_m2w (List.mem_of_getElem? (i := 91) (by decide +kernel)) (by decide +kernel)
theorem mw_instanceMethod_M_thrown : (Jvm.Cond.instanceMethod ({ cls := "AgedMarksModel", name := "thrown", desc := "()I" } : Jvm.MethodName)) ∈ agW := ag_m2w (List.mem_of_getElem? (i := 92) (by decide +kernel)) (by decide +kernel)
theorem mw_sel_M_thrown : (Jvm.Cond.selects "AgedMarksModel" ({ cls := "AgedMarksModel", name := "thrown", desc := "()I" } : Jvm.MethodName) ({ cls := "AgedMarksModel", name := "thrown", desc := "()I" } : Jvm.MethodName)) ∈ agW := ag_m2w (List.mem_of_getElem? (i := 93) (by decide +kernel)) (by decide +kernel)
theorem mw_code_M_thrown : (Jvm.Cond.code ({ cls := "AgedMarksModel", name := "thrown", desc := "()I" } : Jvm.MethodName) prog_4_method_2_code (1 : Nat) (Option.some Jvm.ClassFile.FieldType.int)) ∈ agW := ag_m2w (List.mem_of_getElem? (i := 94) (by decide +kernel)) (by decide +kernel)
theorem mw_m_W_45 : (Jvm.Cond.methodLink "AgedMarksLaw" (45 : Nat) ({ cls := "AgedMarksModel", name := "run", desc := "(I)I" } : Jvm.MethodName)) ∈ agW := ag_m2w (List.mem_of_getElem? (i := 95) (by decide +kernel)) (by decide +kernel)
theorem mw_instanceMethod_M_run : (Jvm.Cond.instanceMethod ({ cls := "AgedMarksModel", name := "run", desc := "(I)I" } : Jvm.MethodName)) ∈ agW := ag_m2w (List.mem_of_getElem? (i := 96) (by decide +kernel)) (by decide +kernel)
theorem mw_sel_M_run : (Jvm.Cond.selects "AgedMarksModel" ({ cls := "AgedMarksModel", name := "run", desc := "(I)I" } : Jvm.MethodName) ({ cls := "AgedMarksModel", name := "run", desc := "(I)I" } : Jvm.MethodName)) ∈ agW := ag_m2w (List.mem_of_getElem? (i := 97) (by decide +kernel)) (by decide +kernel)
theorem mw_code_M_run : (Jvm.Cond.code ({ cls := "AgedMarksModel", name := "run", desc := "(I)I" } : Jvm.MethodName) prog_4_method_7_code (3 : Nat) (Option.some Jvm.ClassFile.FieldType.int)) ∈ agW := ag_m2w (List.mem_of_getElem? (i := 98) (by decide +kernel)) (by decide +kernel)
theorem mw_k_M_52 : (Jvm.Cond.constantLong "AgedMarksModel" (52 : Nat) (1000000 : Int64)) ∈ agW := ag_m2w (List.mem_of_getElem? (i := 99) (by decide +kernel)) (by decide +kernel)
theorem mw_m_M_54 : (Jvm.Cond.methodLink "AgedMarksModel" (54 : Nat) ({ cls := "AgedMarksModel", name := "fails", desc := "(ZZ)Z" } : Jvm.MethodName)) ∈ agW := ag_m2w (List.mem_of_getElem? (i := 100) (by decide +kernel)) (by decide +kernel)
theorem mw_instanceMethod_M_fails : (Jvm.Cond.instanceMethod ({ cls := "AgedMarksModel", name := "fails", desc := "(ZZ)Z" } : Jvm.MethodName)) ∈ agW := ag_m2w (List.mem_of_getElem? (i := 102) (by decide +kernel)) (by decide +kernel)
theorem mw_code_M_fails : (Jvm.Cond.code ({ cls := "AgedMarksModel", name := "fails", desc := "(ZZ)Z" } : Jvm.MethodName) prog_4_method_3_code (3 : Nat) (Option.some Jvm.ClassFile.FieldType.boolean)) ∈ agW := ag_m2w (List.mem_of_getElem? (i := 103) (by decide +kernel)) (by decide +kernel)
theorem mw_m_M_61 : (Jvm.Cond.methodLink "AgedMarksModel" (61 : Nat) ({ cls := "AgedMarksModel", name := "lay", desc := "(I)V" } : Jvm.MethodName)) ∈ agW := ag_m2w (List.mem_of_getElem? (i := 104) (by decide +kernel)) (by decide +kernel)
theorem mw_instanceMethod_M_lay : (Jvm.Cond.instanceMethod ({ cls := "AgedMarksModel", name := "lay", desc := "(I)V" } : Jvm.MethodName)) ∈ agW := ag_m2w (List.mem_of_getElem? (i := 106) (by decide +kernel)) (by decide +kernel)
theorem mw_code_M_lay : (Jvm.Cond.code ({ cls := "AgedMarksModel", name := "lay", desc := "(I)V" } : Jvm.MethodName) prog_4_method_6_code (5 : Nat) (Option.none : Option Jvm.ClassFile.FieldType)) ∈ agW := ag_m2w (List.mem_of_getElem? (i := 107) (by decide +kernel)) (by decide +kernel)
theorem mw_m_M_34 : (Jvm.Cond.methodLink "AgedMarksModel" (34 : Nat) ({ cls := "AgedMarksModel", name := "freeSlot", desc := "()I" } : Jvm.MethodName)) ∈ agW := ag_m2w (List.mem_of_getElem? (i := 108) (by decide +kernel)) (by decide +kernel)
theorem mw_instanceMethod_M_freeSlot : (Jvm.Cond.instanceMethod ({ cls := "AgedMarksModel", name := "freeSlot", desc := "()I" } : Jvm.MethodName)) ∈ agW := ag_m2w (List.mem_of_getElem? (i := 110) (by decide +kernel)) (by decide +kernel)
theorem mw_code_M_freeSlot : (Jvm.Cond.code ({ cls := "AgedMarksModel", name := "freeSlot", desc := "()I" } : Jvm.MethodName) prog_4_method_4_code (4 : Nat) (Option.some Jvm.ClassFile.FieldType.int)) ∈ agW := ag_m2w (List.mem_of_getElem? (i := 111) (by decide +kernel)) (by decide +kernel)
theorem mw_m_M_38 : (Jvm.Cond.methodLink "AgedMarksModel" (38 : Nat) ({ cls := "AgedMarksModel", name := "stays", desc := "(II)Z" } : Jvm.MethodName)) ∈ agW := ag_m2w (List.mem_of_getElem? (i := 112) (by decide +kernel)) (by decide +kernel)
theorem mw_instanceMethod_M_stays : (Jvm.Cond.instanceMethod ({ cls := "AgedMarksModel", name := "stays", desc := "(II)Z" } : Jvm.MethodName)) ∈ agW := ag_m2w (List.mem_of_getElem? (i := 114) (by decide +kernel)) (by decide +kernel)
theorem mw_code_M_stays : (Jvm.Cond.code ({ cls := "AgedMarksModel", name := "stays", desc := "(II)Z" } : Jvm.MethodName) prog_4_method_5_code (4 : Nat) (Option.some Jvm.ClassFile.FieldType.boolean)) ∈ agW := ag_m2w (List.mem_of_getElem? (i := 115) (by decide +kernel)) (by decide +kernel)
theorem mw_k_M_32 : (Jvm.Cond.constantLong "AgedMarksModel" (32 : Nat) (2 : Int64)) ∈ agW := ag_m2w (List.mem_of_getElem? (i := 116) (by decide +kernel)) (by decide +kernel)
theorem mw_m_W_55 : (Jvm.Cond.methodLink "AgedMarksLaw" (55 : Nat) ({ cls := "AgedMarksModel", name := "go", desc := "(J)J" } : Jvm.MethodName)) ∈ agW := ag_m2w (List.mem_of_getElem? (i := 117) (by decide +kernel)) (by decide +kernel)
theorem mw_instanceMethod_M_go : (Jvm.Cond.instanceMethod ({ cls := "AgedMarksModel", name := "go", desc := "(J)J" } : Jvm.MethodName)) ∈ agW := ag_m2w (List.mem_of_getElem? (i := 118) (by decide +kernel)) (by decide +kernel)
theorem mw_sel_M_go : (Jvm.Cond.selects "AgedMarksModel" ({ cls := "AgedMarksModel", name := "go", desc := "(J)J" } : Jvm.MethodName) ({ cls := "AgedMarksModel", name := "go", desc := "(J)J" } : Jvm.MethodName)) ∈ agW := ag_m2w (List.mem_of_getElem? (i := 119) (by decide +kernel)) (by decide +kernel)
theorem mw_code_M_go : (Jvm.Cond.code ({ cls := "AgedMarksModel", name := "go", desc := "(J)J" } : Jvm.MethodName) prog_4_method_10_code (3 : Nat) (Option.some Jvm.ClassFile.FieldType.long)) ∈ agW := ag_m2w (List.mem_of_getElem? (i := 120) (by decide +kernel)) (by decide +kernel)
theorem mw_m_M_72 : (Jvm.Cond.methodLink "AgedMarksModel" (72 : Nat) ({ cls := "AgedMarksModel", name := "to", desc := "(J)J" } : Jvm.MethodName)) ∈ agW := ag_m2w (List.mem_of_getElem? (i := 121) (by decide +kernel)) (by decide +kernel)
theorem mw_instanceMethod_M_to : (Jvm.Cond.instanceMethod ({ cls := "AgedMarksModel", name := "to", desc := "(J)J" } : Jvm.MethodName)) ∈ agW := ag_m2w (List.mem_of_getElem? (i := 123) (by decide +kernel)) (by decide +kernel)
theorem mw_code_M_to : (Jvm.Cond.code ({ cls := "AgedMarksModel", name := "to", desc := "(J)J" } : Jvm.MethodName) prog_4_method_9_code (5 : Nat) (Option.some Jvm.ClassFile.FieldType.long)) ∈ agW := ag_m2w (List.mem_of_getElem? (i := 124) (by decide +kernel)) (by decide +kernel)
theorem mw_m_M_65 : (Jvm.Cond.methodLink "AgedMarksModel" (65 : Nat) ({ cls := "AgedMarksModel", name := "cost", desc := "(J)J" } : Jvm.MethodName)) ∈ agW := ag_m2w (List.mem_of_getElem? (i := 125) (by decide +kernel)) (by decide +kernel)
theorem mw_instanceMethod_M_cost : (Jvm.Cond.instanceMethod ({ cls := "AgedMarksModel", name := "cost", desc := "(J)J" } : Jvm.MethodName)) ∈ agW := ag_m2w (List.mem_of_getElem? (i := 127) (by decide +kernel)) (by decide +kernel)
theorem mw_code_M_cost : (Jvm.Cond.code ({ cls := "AgedMarksModel", name := "cost", desc := "(J)J" } : Jvm.MethodName) prog_4_method_8_code (4 : Nat) (Option.some Jvm.ClassFile.FieldType.long)) ∈ agW := ag_m2w (List.mem_of_getElem? (i := 128) (by decide +kernel)) (by decide +kernel)
theorem mw_m_W_58 : (Jvm.Cond.methodLink "AgedMarksLaw" (58 : Nat) ({ cls := "AgedMarksModel", name := "back", desc := "(J)J" } : Jvm.MethodName)) ∈ agW := ag_m2w (List.mem_of_getElem? (i := 129) (by decide +kernel)) (by decide +kernel)
theorem mw_instanceMethod_M_back : (Jvm.Cond.instanceMethod ({ cls := "AgedMarksModel", name := "back", desc := "(J)J" } : Jvm.MethodName)) ∈ agW := ag_m2w (List.mem_of_getElem? (i := 130) (by decide +kernel)) (by decide +kernel)
theorem mw_sel_M_back : (Jvm.Cond.selects "AgedMarksModel" ({ cls := "AgedMarksModel", name := "back", desc := "(J)J" } : Jvm.MethodName) ({ cls := "AgedMarksModel", name := "back", desc := "(J)J" } : Jvm.MethodName)) ∈ agW := ag_m2w (List.mem_of_getElem? (i := 131) (by decide +kernel)) (by decide +kernel)
theorem mw_code_M_back : (Jvm.Cond.code ({ cls := "AgedMarksModel", name := "back", desc := "(J)J" } : Jvm.MethodName) prog_4_method_11_code (3 : Nat) (Option.some Jvm.ClassFile.FieldType.long)) ∈ agW := ag_m2w (List.mem_of_getElem? (i := 132) (by decide +kernel)) (by decide +kernel)
theorem mw_m_W_62 : (Jvm.Cond.methodLink "AgedMarksLaw" (62 : Nat) ({ cls := "AgedMarksModel", name := "cut", desc := "()I" } : Jvm.MethodName)) ∈ agW := ag_m2w (List.mem_of_getElem? (i := 133) (by decide +kernel)) (by decide +kernel)
theorem mw_instanceMethod_M_cut : (Jvm.Cond.instanceMethod ({ cls := "AgedMarksModel", name := "cut", desc := "()I" } : Jvm.MethodName)) ∈ agW := ag_m2w (List.mem_of_getElem? (i := 134) (by decide +kernel)) (by decide +kernel)
theorem mw_sel_M_cut : (Jvm.Cond.selects "AgedMarksModel" ({ cls := "AgedMarksModel", name := "cut", desc := "()I" } : Jvm.MethodName) ({ cls := "AgedMarksModel", name := "cut", desc := "()I" } : Jvm.MethodName)) ∈ agW := ag_m2w (List.mem_of_getElem? (i := 135) (by decide +kernel)) (by decide +kernel)
theorem mw_code_M_cut : (Jvm.Cond.code ({ cls := "AgedMarksModel", name := "cut", desc := "()I" } : Jvm.MethodName) prog_4_method_12_code (2 : Nat) (Option.some Jvm.ClassFile.FieldType.int)) ∈ agW := ag_m2w (List.mem_of_getElem? (i := 136) (by decide +kernel)) (by decide +kernel)
theorem mw_m_W_66 : (Jvm.Cond.methodLink "AgedMarksLaw" (66 : Nat) ({ cls := "AgedMarksModel", name := "mark", desc := "(II)J" } : Jvm.MethodName)) ∈ agW := ag_m2w (List.mem_of_getElem? (i := 137) (by decide +kernel)) (by decide +kernel)
theorem mw_instanceMethod_M_mark : (Jvm.Cond.instanceMethod ({ cls := "AgedMarksModel", name := "mark", desc := "(II)J" } : Jvm.MethodName)) ∈ agW := ag_m2w (List.mem_of_getElem? (i := 138) (by decide +kernel)) (by decide +kernel)
theorem mw_sel_M_mark : (Jvm.Cond.selects "AgedMarksModel" ({ cls := "AgedMarksModel", name := "mark", desc := "(II)J" } : Jvm.MethodName) ({ cls := "AgedMarksModel", name := "mark", desc := "(II)J" } : Jvm.MethodName)) ∈ agW := ag_m2w (List.mem_of_getElem? (i := 139) (by decide +kernel)) (by decide +kernel)
theorem mw_code_M_mark : (Jvm.Cond.code ({ cls := "AgedMarksModel", name := "mark", desc := "(II)J" } : Jvm.MethodName) prog_4_method_13_code (3 : Nat) (Option.some Jvm.ClassFile.FieldType.long)) ∈ agW := ag_m2w (List.mem_of_getElem? (i := 140) (by decide +kernel)) (by decide +kernel)
theorem mw_m_W_70 : (Jvm.Cond.methodLink "AgedMarksLaw" (70 : Nat) ({ cls := "AgedMarksModel", name := "holder", desc := "(I)I" } : Jvm.MethodName)) ∈ agW := ag_m2w (List.mem_of_getElem? (i := 141) (by decide +kernel)) (by decide +kernel)
theorem mw_instanceMethod_M_holder : (Jvm.Cond.instanceMethod ({ cls := "AgedMarksModel", name := "holder", desc := "(I)I" } : Jvm.MethodName)) ∈ agW := ag_m2w (List.mem_of_getElem? (i := 142) (by decide +kernel)) (by decide +kernel)
theorem mw_sel_M_holder : (Jvm.Cond.selects "AgedMarksModel" ({ cls := "AgedMarksModel", name := "holder", desc := "(I)I" } : Jvm.MethodName) ({ cls := "AgedMarksModel", name := "holder", desc := "(I)I" } : Jvm.MethodName)) ∈ agW := ag_m2w (List.mem_of_getElem? (i := 143) (by decide +kernel)) (by decide +kernel)
theorem mw_code_M_holder : (Jvm.Cond.code ({ cls := "AgedMarksModel", name := "holder", desc := "(I)I" } : Jvm.MethodName) prog_4_method_14_code (3 : Nat) (Option.some Jvm.ClassFile.FieldType.int)) ∈ agW := ag_m2w (List.mem_of_getElem? (i := 144) (by decide +kernel)) (by decide +kernel)
theorem mw_m_W_75 : (Jvm.Cond.methodLink "AgedMarksLaw" (75 : Nat) ({ cls := "AgedMarksModel", name := "worst", desc := "()J" } : Jvm.MethodName)) ∈ agW := ag_m2w (List.mem_of_getElem? (i := 145) (by decide +kernel)) (by decide +kernel)
theorem mw_instanceMethod_M_worst : (Jvm.Cond.instanceMethod ({ cls := "AgedMarksModel", name := "worst", desc := "()J" } : Jvm.MethodName)) ∈ agW := ag_m2w (List.mem_of_getElem? (i := 146) (by decide +kernel)) (by decide +kernel)
theorem mw_sel_M_worst : (Jvm.Cond.selects "AgedMarksModel" ({ cls := "AgedMarksModel", name := "worst", desc := "()J" } : Jvm.MethodName) ({ cls := "AgedMarksModel", name := "worst", desc := "()J" } : Jvm.MethodName)) ∈ agW := ag_m2w (List.mem_of_getElem? (i := 147) (by decide +kernel)) (by decide +kernel)
theorem mw_code_M_worst : (Jvm.Cond.code ({ cls := "AgedMarksModel", name := "worst", desc := "()J" } : Jvm.MethodName) prog_4_method_15_code (6 : Nat) (Option.some Jvm.ClassFile.FieldType.long)) ∈ agW := ag_m2w (List.mem_of_getElem? (i := 148) (by decide +kernel)) (by decide +kernel)
theorem mw_m_W_80 : (Jvm.Cond.methodLink "AgedMarksLaw" (80 : Nat) ({ cls := "AgedMarksModel", name := "count", desc := "(I)J" } : Jvm.MethodName)) ∈ agW := ag_m2w (List.mem_of_getElem? (i := 149) (by decide +kernel)) (by decide +kernel)
theorem mw_instanceMethod_M_count : (Jvm.Cond.instanceMethod ({ cls := "AgedMarksModel", name := "count", desc := "(I)J" } : Jvm.MethodName)) ∈ agW := ag_m2w (List.mem_of_getElem? (i := 150) (by decide +kernel)) (by decide +kernel)
theorem mw_sel_M_count : (Jvm.Cond.selects "AgedMarksModel" ({ cls := "AgedMarksModel", name := "count", desc := "(I)J" } : Jvm.MethodName) ({ cls := "AgedMarksModel", name := "count", desc := "(I)J" } : Jvm.MethodName)) ∈ agW := ag_m2w (List.mem_of_getElem? (i := 151) (by decide +kernel)) (by decide +kernel)
theorem mw_code_M_count : (Jvm.Cond.code ({ cls := "AgedMarksModel", name := "count", desc := "(I)J" } : Jvm.MethodName) prog_4_method_16_code (2 : Nat) (Option.some Jvm.ClassFile.FieldType.long)) ∈ agW := ag_m2w (List.mem_of_getElem? (i := 152) (by decide +kernel)) (by decide +kernel)
theorem mw_k_M_75 : (Jvm.Cond.constantLong "AgedMarksModel" (75 : Nat) (-1 : Int64)) ∈ agW := ag_m2w (List.mem_of_getElem? (i := 153) (by decide +kernel)) (by decide +kernel)
theorem mw_k_W_50 : (Jvm.Cond.constantLong "AgedMarksLaw" (50 : Nat) (4294967295 : Int64)) ∈ agW := ag_m2w (List.mem_of_getElem? (i := 154) (by decide +kernel)) (by decide +kernel)
theorem mw_sameMethod_2_155 : (Jvm.Cond.sameMethod "java/lang/Throwable" "java/lang/Throwable" "fillInStackTrace" "(I)Ljava/lang/Throwable;") ∈ agW := ag_m2w (List.mem_of_getElem? (i := 155) (by decide +kernel)) (by decide +kernel)
theorem mw_sel_A_countAt : Cond.selects "AgedMarks" (⟨"AgedMarks", "countAt", "(I)J"⟩ : MethodName) (⟨"AgedMarks", "countAt", "(I)J"⟩ : MethodName) ∈ agW := ag_msel (q := ((⟨"AgedMarks", "countAt", "(I)J"⟩ : MethodName), 0)) (by decide +kernel) (by decide +kernel)
theorem mw_sel_A_drop : Cond.selects "AgedMarks" (⟨"AgedMarks", "drop", "(I)V"⟩ : MethodName) (⟨"AgedMarks", "drop", "(I)V"⟩ : MethodName) ∈ agW := ag_msel (q := ((⟨"AgedMarks", "drop", "(I)V"⟩ : MethodName), 0)) (by decide +kernel) (by decide +kernel)
theorem mw_sel_A_growTo : Cond.selects "AgedMarks" (⟨"AgedMarks", "growTo", "(J)I"⟩ : MethodName) (⟨"AgedMarks", "growTo", "(J)I"⟩ : MethodName) ∈ agW := ag_msel (q := ((⟨"AgedMarks", "growTo", "(J)I"⟩ : MethodName), 0)) (by decide +kernel) (by decide +kernel)
theorem mw_sel_A_gapsIn : Cond.selects "AgedMarks" (⟨"AgedMarks", "gapsIn", "(J)I"⟩ : MethodName) (⟨"AgedMarks", "gapsIn", "(J)I"⟩ : MethodName) ∈ agW := ag_msel (q := ((⟨"AgedMarks", "gapsIn", "(J)I"⟩ : MethodName), 0)) (by decide +kernel) (by decide +kernel)
theorem mw_sel_A_lay : Cond.selects "AgedMarks" (⟨"AgedMarks", "lay", "(I)V"⟩ : MethodName) (⟨"AgedMarks", "lay", "(I)V"⟩ : MethodName) ∈ agW := ag_msel (q := ((⟨"AgedMarks", "lay", "(I)V"⟩ : MethodName), 0)) (by decide +kernel) (by decide +kernel)
theorem mw_sel_A_thin : Cond.selects "AgedMarks" (⟨"AgedMarks", "thin", "(I)V"⟩ : MethodName) (⟨"AgedMarks", "thin", "(I)V"⟩ : MethodName) ∈ agW := ag_msel (q := ((⟨"AgedMarks", "thin", "(I)V"⟩ : MethodName), 0)) (by decide +kernel) (by decide +kernel)
theorem mw_sel_A_placeOf : Cond.selects "AgedMarks" (⟨"AgedMarks", "placeOf", "(I)I"⟩ : MethodName) (⟨"AgedMarks", "placeOf", "(I)I"⟩ : MethodName) ∈ agW := ag_msel (q := ((⟨"AgedMarks", "placeOf", "(I)I"⟩ : MethodName), 0)) (by decide +kernel) (by decide +kernel)
theorem mw_sel_A_moveTo : Cond.selects "AgedMarks" (⟨"AgedMarks", "moveTo", "(J)J"⟩ : MethodName) (⟨"AgedMarks", "moveTo", "(J)J"⟩ : MethodName) ∈ agW := ag_msel (q := ((⟨"AgedMarks", "moveTo", "(J)J"⟩ : MethodName), 0)) (by decide +kernel) (by decide +kernel)
theorem mw_sel_A_costOf : Cond.selects "AgedMarks" (⟨"AgedMarks", "costOf", "(J)J"⟩ : MethodName) (⟨"AgedMarks", "costOf", "(J)J"⟩ : MethodName) ∈ agW := ag_msel (q := ((⟨"AgedMarks", "costOf", "(J)J"⟩ : MethodName), 0)) (by decide +kernel) (by decide +kernel)
theorem mw_sel_M_fails : Cond.selects "AgedMarksModel" (⟨"AgedMarksModel", "fails", "(ZZ)Z"⟩ : MethodName) (⟨"AgedMarksModel", "fails", "(ZZ)Z"⟩ : MethodName) ∈ agW := ag_msel (q := ((⟨"AgedMarksModel", "fails", "(ZZ)Z"⟩ : MethodName), 0)) (by decide +kernel) (by decide +kernel)
theorem mw_sel_M_lay : Cond.selects "AgedMarksModel" (⟨"AgedMarksModel", "lay", "(I)V"⟩ : MethodName) (⟨"AgedMarksModel", "lay", "(I)V"⟩ : MethodName) ∈ agW := ag_msel (q := ((⟨"AgedMarksModel", "lay", "(I)V"⟩ : MethodName), 0)) (by decide +kernel) (by decide +kernel)
theorem mw_sel_M_freeSlot : Cond.selects "AgedMarksModel" (⟨"AgedMarksModel", "freeSlot", "()I"⟩ : MethodName) (⟨"AgedMarksModel", "freeSlot", "()I"⟩ : MethodName) ∈ agW := ag_msel (q := ((⟨"AgedMarksModel", "freeSlot", "()I"⟩ : MethodName), 0)) (by decide +kernel) (by decide +kernel)
theorem mw_sel_M_stays : Cond.selects "AgedMarksModel" (⟨"AgedMarksModel", "stays", "(II)Z"⟩ : MethodName) (⟨"AgedMarksModel", "stays", "(II)Z"⟩ : MethodName) ∈ agW := ag_msel (q := ((⟨"AgedMarksModel", "stays", "(II)Z"⟩ : MethodName), 0)) (by decide +kernel) (by decide +kernel)
theorem mw_sel_M_to : Cond.selects "AgedMarksModel" (⟨"AgedMarksModel", "to", "(J)J"⟩ : MethodName) (⟨"AgedMarksModel", "to", "(J)J"⟩ : MethodName) ∈ agW := ag_msel (q := ((⟨"AgedMarksModel", "to", "(J)J"⟩ : MethodName), 0)) (by decide +kernel) (by decide +kernel)
theorem mw_sel_M_cost : Cond.selects "AgedMarksModel" (⟨"AgedMarksModel", "cost", "(J)J"⟩ : MethodName) (⟨"AgedMarksModel", "cost", "(J)J"⟩ : MethodName) ∈ agW := ag_msel (q := ((⟨"AgedMarksModel", "cost", "(J)J"⟩ : MethodName), 0)) (by decide +kernel) (by decide +kernel)
theorem inA0 : ∀ w ∈ wsX00, w ∈ agW := fun w h => List.mem_filter.mpr ⟨(show ∀ w ∈ wsX00, w ∈ lw_tbl by decide +kernel) w h, (show ∀ w ∈ wsX00, goodWord w = true by decide +kernel) w h⟩
theorem inA1 : ∀ w ∈ wsX10, w ∈ agW := fun w h => List.mem_filter.mpr ⟨(show ∀ w ∈ wsX10, w ∈ lw_tbl by decide +kernel) w h, (show ∀ w ∈ wsX10, goodWord w = true by decide +kernel) w h⟩
theorem inA2 : ∀ w ∈ wsX20, w ∈ agW := fun w h => List.mem_filter.mpr ⟨(show ∀ w ∈ wsX20, w ∈ lw_tbl by decide +kernel) w h, (show ∀ w ∈ wsX20, goodWord w = true by decide +kernel) w h⟩
end
section
abbrev b_A_init : ByteArray := prog_1_method_1_code
def y_A_init : MethodName := ⟨"AgedMarks", "<init>", "(II)V"⟩
theorem d_A_init_0 : decode b_A_init 0 = .ok (.aload_n 0, 1) := by decide +kernel
theorem d_A_init_1 : decode b_A_init 1 = .ok (.invokespecial 3, 3) := by decide +kernel
theorem d_A_init_4 : decode b_A_init 4 = .ok (.aload_n 0, 1) := by decide +kernel
theorem d_A_init_5 : decode b_A_init 5 = .ok (.sipush 320, 3) := by decide +kernel
theorem d_A_init_8 : decode b_A_init 8 = .ok (.newarray .int, 2) := by decide +kernel
theorem d_A_init_10 : decode b_A_init 10 = .ok (.putfield 9, 3) := by decide +kernel
theorem d_A_init_13 : decode b_A_init 13 = .ok (.aload_n 0, 1) := by decide +kernel
theorem d_A_init_14 : decode b_A_init 14 = .ok (.sipush 320, 3) := by decide +kernel
theorem d_A_init_17 : decode b_A_init 17 = .ok (.newarray .int, 2) := by decide +kernel
theorem d_A_init_19 : decode b_A_init 19 = .ok (.putfield 13, 3) := by decide +kernel
theorem d_A_init_22 : decode b_A_init 22 = .ok (.aload_n 0, 1) := by decide +kernel
theorem d_A_init_23 : decode b_A_init 23 = .ok (.new 16, 3) := by decide +kernel
theorem d_A_init_26 : decode b_A_init 26 = .ok (.dup, 1) := by decide +kernel
theorem d_A_init_27 : decode b_A_init 27 = .ok (.invokespecial 18, 3) := by decide +kernel
theorem d_A_init_30 : decode b_A_init 30 = .ok (.putfield 19, 3) := by decide +kernel
theorem d_A_init_33 : decode b_A_init 33 = .ok (.aload_n 0, 1) := by decide +kernel
theorem d_A_init_34 : decode b_A_init 34 = .ok (.iconst 1, 1) := by decide +kernel
theorem d_A_init_35 : decode b_A_init 35 = .ok (.sipush 1000, 3) := by decide +kernel
theorem d_A_init_38 : decode b_A_init 38 = .ok (.iload_n 1, 1) := by decide +kernel
theorem d_A_init_39 : decode b_A_init 39 = .ok (.invokestatic 23, 3) := by decide +kernel
theorem d_A_init_42 : decode b_A_init 42 = .ok (.invokestatic 29, 3) := by decide +kernel
theorem d_A_init_45 : decode b_A_init 45 = .ok (.putfield 32, 3) := by decide +kernel
theorem d_A_init_48 : decode b_A_init 48 = .ok (.aload_n 0, 1) := by decide +kernel
theorem d_A_init_49 : decode b_A_init 49 = .ok (.iconst 2, 1) := by decide +kernel
theorem d_A_init_50 : decode b_A_init 50 = .ok (.bipush 16, 2) := by decide +kernel
theorem d_A_init_52 : decode b_A_init 52 = .ok (.iload_n 2, 1) := by decide +kernel
theorem d_A_init_53 : decode b_A_init 53 = .ok (.invokestatic 23, 3) := by decide +kernel
theorem d_A_init_56 : decode b_A_init 56 = .ok (.invokestatic 29, 3) := by decide +kernel
theorem d_A_init_59 : decode b_A_init 59 = .ok (.putfield 36, 3) := by decide +kernel
theorem d_A_init_62 : decode b_A_init 62 = .ok (.aload_n 0, 1) := by decide +kernel
theorem d_A_init_63 : decode b_A_init 63 = .ok (.getfield 9, 3) := by decide +kernel
theorem d_A_init_66 : decode b_A_init 66 = .ok (.iconst 0, 1) := by decide +kernel
theorem d_A_init_67 : decode b_A_init 67 = .ok (.iconst 0, 1) := by decide +kernel
theorem d_A_init_68 : decode b_A_init 68 = .ok (.iastore, 1) := by decide +kernel
theorem d_A_init_69 : decode b_A_init 69 = .ok (.aload_n 0, 1) := by decide +kernel
theorem d_A_init_70 : decode b_A_init 70 = .ok (.getfield 13, 3) := by decide +kernel
theorem d_A_init_73 : decode b_A_init 73 = .ok (.iconst 0, 1) := by decide +kernel
theorem d_A_init_74 : decode b_A_init 74 = .ok (.aload_n 0, 1) := by decide +kernel
theorem d_A_init_75 : decode b_A_init 75 = .ok (.getfield 19, 3) := by decide +kernel
theorem d_A_init_78 : decode b_A_init 78 = .ok (.invokevirtual 39, 3) := by decide +kernel
theorem d_A_init_81 : decode b_A_init 81 = .ok (.iastore, 1) := by decide +kernel
theorem d_A_init_82 : decode b_A_init 82 = .ok (.aload_n 0, 1) := by decide +kernel
theorem d_A_init_83 : decode b_A_init 83 = .ok (.iconst 1, 1) := by decide +kernel
theorem d_A_init_84 : decode b_A_init 84 = .ok (.putfield 43, 3) := by decide +kernel
theorem d_A_init_87 : decode b_A_init 87 = .ok (.aload_n 0, 1) := by decide +kernel
theorem d_A_init_88 : decode b_A_init 88 = .ok (.iconst 1, 1) := by decide +kernel
theorem d_A_init_89 : decode b_A_init 89 = .ok (.putfield 46, 3) := by decide +kernel
theorem d_A_init_92 : decode b_A_init 92 = .ok (.return_, 1) := by decide +kernel
abbrev b_A_run : ByteArray := prog_1_method_2_code
def y_A_run : MethodName := ⟨"AgedMarks", "run", "(I)I"⟩
theorem d_A_run_0 : decode b_A_run 0 = .ok (.iload_n 1, 1) := by decide +kernel
theorem d_A_run_1 : decode b_A_run 1 = .ok (.ifCond .lt 10, 3) := by decide +kernel
theorem d_A_run_4 : decode b_A_run 4 = .ok (.iload_n 1, 1) := by decide +kernel
theorem d_A_run_5 : decode b_A_run 5 = .ok (.sipush 4000, 3) := by decide +kernel
theorem d_A_run_8 : decode b_A_run 8 = .ok (.if_icmp .le 13, 3) := by decide +kernel
theorem d_A_run_11 : decode b_A_run 11 = .ok (.new 49, 3) := by decide +kernel
theorem d_A_run_14 : decode b_A_run 14 = .ok (.dup, 1) := by decide +kernel
theorem d_A_run_15 : decode b_A_run 15 = .ok (.ldc 51, 2) := by decide +kernel
theorem d_A_run_17 : decode b_A_run 17 = .ok (.invokespecial 53, 3) := by decide +kernel
theorem d_A_run_20 : decode b_A_run 20 = .ok (.athrow, 1) := by decide +kernel
theorem d_A_run_21 : decode b_A_run 21 = .ok (.aload_n 0, 1) := by decide +kernel
theorem d_A_run_22 : decode b_A_run 22 = .ok (.getfield 56, 3) := by decide +kernel
theorem d_A_run_25 : decode b_A_run 25 = .ok (.iload_n 1, 1) := by decide +kernel
theorem d_A_run_26 : decode b_A_run 26 = .ok (.i2l, 1) := by decide +kernel
theorem d_A_run_27 : decode b_A_run 27 = .ok (.ladd, 1) := by decide +kernel
theorem d_A_run_28 : decode b_A_run 28 = .ok (.ldc2_w 60, 3) := by decide +kernel
theorem d_A_run_31 : decode b_A_run 31 = .ok (.aload_n 0, 1) := by decide +kernel
theorem d_A_run_32 : decode b_A_run 32 = .ok (.getfield 32, 3) := by decide +kernel
theorem d_A_run_35 : decode b_A_run 35 = .ok (.i2l, 1) := by decide +kernel
theorem d_A_run_36 : decode b_A_run 36 = .ok (.lmul, 1) := by decide +kernel
theorem d_A_run_37 : decode b_A_run 37 = .ok (.lcmp, 1) := by decide +kernel
theorem d_A_run_38 : decode b_A_run 38 = .ok (.ifCond .le 13, 3) := by decide +kernel
theorem d_A_run_41 : decode b_A_run 41 = .ok (.new 62, 3) := by decide +kernel
theorem d_A_run_44 : decode b_A_run 44 = .ok (.dup, 1) := by decide +kernel
theorem d_A_run_45 : decode b_A_run 45 = .ok (.ldc 64, 2) := by decide +kernel
theorem d_A_run_47 : decode b_A_run 47 = .ok (.invokespecial 66, 3) := by decide +kernel
theorem d_A_run_50 : decode b_A_run 50 = .ok (.athrow, 1) := by decide +kernel
theorem d_A_run_51 : decode b_A_run 51 = .ok (.aload_n 0, 1) := by decide +kernel
theorem d_A_run_52 : decode b_A_run 52 = .ok (.dup, 1) := by decide +kernel
theorem d_A_run_53 : decode b_A_run 53 = .ok (.getfield 56, 3) := by decide +kernel
theorem d_A_run_56 : decode b_A_run 56 = .ok (.iload_n 1, 1) := by decide +kernel
theorem d_A_run_57 : decode b_A_run 57 = .ok (.i2l, 1) := by decide +kernel
theorem d_A_run_58 : decode b_A_run 58 = .ok (.ladd, 1) := by decide +kernel
theorem d_A_run_59 : decode b_A_run 59 = .ok (.putfield 56, 3) := by decide +kernel
theorem d_A_run_62 : decode b_A_run 62 = .ok (.aload_n 0, 1) := by decide +kernel
theorem d_A_run_63 : decode b_A_run 63 = .ok (.getfield 56, 3) := by decide +kernel
theorem d_A_run_66 : decode b_A_run 66 = .ok (.aload_n 0, 1) := by decide +kernel
theorem d_A_run_67 : decode b_A_run 67 = .ok (.getfield 67, 3) := by decide +kernel
theorem d_A_run_70 : decode b_A_run 70 = .ok (.lcmp, 1) := by decide +kernel
theorem d_A_run_71 : decode b_A_run 71 = .ok (.ifCond .le 14, 3) := by decide +kernel
theorem d_A_run_74 : decode b_A_run 74 = .ok (.aload_n 0, 1) := by decide +kernel
theorem d_A_run_75 : decode b_A_run 75 = .ok (.aload_n 0, 1) := by decide +kernel
theorem d_A_run_76 : decode b_A_run 76 = .ok (.getfield 56, 3) := by decide +kernel
theorem d_A_run_79 : decode b_A_run 79 = .ok (.invokevirtual 70, 3) := by decide +kernel
theorem d_A_run_82 : decode b_A_run 82 = .ok (.goto 4, 3) := by decide +kernel
theorem d_A_run_85 : decode b_A_run 85 = .ok (.iconst 0, 1) := by decide +kernel
theorem d_A_run_86 : decode b_A_run 86 = .ok (.ireturn, 1) := by decide +kernel
abbrev b_A_go : ByteArray := prog_1_method_3_code
def y_A_go : MethodName := ⟨"AgedMarks", "go", "(J)J"⟩
theorem d_A_go_0 : decode b_A_go 0 = .ok (.lload_n 1, 1) := by decide +kernel
theorem d_A_go_1 : decode b_A_go 1 = .ok (.lconst 0, 1) := by decide +kernel
theorem d_A_go_2 : decode b_A_go 2 = .ok (.lcmp, 1) := by decide +kernel
theorem d_A_go_3 : decode b_A_go 3 = .ok (.ifCond .lt 12, 3) := by decide +kernel
theorem d_A_go_6 : decode b_A_go 6 = .ok (.lload_n 1, 1) := by decide +kernel
theorem d_A_go_7 : decode b_A_go 7 = .ok (.aload_n 0, 1) := by decide +kernel
theorem d_A_go_8 : decode b_A_go 8 = .ok (.getfield 67, 3) := by decide +kernel
theorem d_A_go_11 : decode b_A_go 11 = .ok (.lcmp, 1) := by decide +kernel
theorem d_A_go_12 : decode b_A_go 12 = .ok (.ifCond .le 13, 3) := by decide +kernel
theorem d_A_go_15 : decode b_A_go 15 = .ok (.new 49, 3) := by decide +kernel
theorem d_A_go_18 : decode b_A_go 18 = .ok (.dup, 1) := by decide +kernel
theorem d_A_go_19 : decode b_A_go 19 = .ok (.ldc 74, 2) := by decide +kernel
theorem d_A_go_21 : decode b_A_go 21 = .ok (.invokespecial 53, 3) := by decide +kernel
theorem d_A_go_24 : decode b_A_go 24 = .ok (.athrow, 1) := by decide +kernel
theorem d_A_go_25 : decode b_A_go 25 = .ok (.aload_n 0, 1) := by decide +kernel
theorem d_A_go_26 : decode b_A_go 26 = .ok (.lload_n 1, 1) := by decide +kernel
theorem d_A_go_27 : decode b_A_go 27 = .ok (.invokevirtual 76, 3) := by decide +kernel
theorem d_A_go_30 : decode b_A_go 30 = .ok (.lreturn, 1) := by decide +kernel
abbrev b_A_back : ByteArray := prog_1_method_4_code
def y_A_back : MethodName := ⟨"AgedMarks", "back", "(J)J"⟩
theorem d_A_back_0 : decode b_A_back 0 = .ok (.lload_n 1, 1) := by decide +kernel
theorem d_A_back_1 : decode b_A_back 1 = .ok (.lconst 0, 1) := by decide +kernel
theorem d_A_back_2 : decode b_A_back 2 = .ok (.lcmp, 1) := by decide +kernel
theorem d_A_back_3 : decode b_A_back 3 = .ok (.ifCond .ge 13, 3) := by decide +kernel
theorem d_A_back_6 : decode b_A_back 6 = .ok (.new 49, 3) := by decide +kernel
theorem d_A_back_9 : decode b_A_back 9 = .ok (.dup, 1) := by decide +kernel
theorem d_A_back_10 : decode b_A_back 10 = .ok (.ldc 80, 2) := by decide +kernel
theorem d_A_back_12 : decode b_A_back 12 = .ok (.invokespecial 53, 3) := by decide +kernel
theorem d_A_back_15 : decode b_A_back 15 = .ok (.athrow, 1) := by decide +kernel
theorem d_A_back_16 : decode b_A_back 16 = .ok (.aload_n 0, 1) := by decide +kernel
theorem d_A_back_17 : decode b_A_back 17 = .ok (.lload_n 1, 1) := by decide +kernel
theorem d_A_back_18 : decode b_A_back 18 = .ok (.aload_n 0, 1) := by decide +kernel
theorem d_A_back_19 : decode b_A_back 19 = .ok (.getfield 56, 3) := by decide +kernel
theorem d_A_back_22 : decode b_A_back 22 = .ok (.lcmp, 1) := by decide +kernel
theorem d_A_back_23 : decode b_A_back 23 = .ok (.ifCond .le 7, 3) := by decide +kernel
theorem d_A_back_26 : decode b_A_back 26 = .ok (.lconst 0, 1) := by decide +kernel
theorem d_A_back_27 : decode b_A_back 27 = .ok (.goto 9, 3) := by decide +kernel
theorem d_A_back_30 : decode b_A_back 30 = .ok (.aload_n 0, 1) := by decide +kernel
theorem d_A_back_31 : decode b_A_back 31 = .ok (.getfield 56, 3) := by decide +kernel
theorem d_A_back_34 : decode b_A_back 34 = .ok (.lload_n 1, 1) := by decide +kernel
theorem d_A_back_35 : decode b_A_back 35 = .ok (.lsub, 1) := by decide +kernel
theorem d_A_back_36 : decode b_A_back 36 = .ok (.invokevirtual 76, 3) := by decide +kernel
theorem d_A_back_39 : decode b_A_back 39 = .ok (.lreturn, 1) := by decide +kernel
abbrev b_A_cut : ByteArray := prog_1_method_5_code
def y_A_cut : MethodName := ⟨"AgedMarks", "cut", "()I"⟩
theorem d_A_cut_0 : decode b_A_cut 0 = .ok (.aload_n 0, 1) := by decide +kernel
theorem d_A_cut_1 : decode b_A_cut 1 = .ok (.getfield 43, 3) := by decide +kernel
theorem d_A_cut_4 : decode b_A_cut 4 = .ok (.istore_n 1, 1) := by decide +kernel
theorem d_A_cut_5 : decode b_A_cut 5 = .ok (.aload_n 0, 1) := by decide +kernel
theorem d_A_cut_6 : decode b_A_cut 6 = .ok (.aload_n 0, 1) := by decide +kernel
theorem d_A_cut_7 : decode b_A_cut 7 = .ok (.getfield 56, 3) := by decide +kernel
theorem d_A_cut_10 : decode b_A_cut 10 = .ok (.putfield 67, 3) := by decide +kernel
theorem d_A_cut_13 : decode b_A_cut 13 = .ok (.aload_n 0, 1) := by decide +kernel
theorem d_A_cut_14 : decode b_A_cut 14 = .ok (.getfield 43, 3) := by decide +kernel
theorem d_A_cut_17 : decode b_A_cut 17 = .ok (.iconst 1, 1) := by decide +kernel
theorem d_A_cut_18 : decode b_A_cut 18 = .ok (.isub, 1) := by decide +kernel
theorem d_A_cut_19 : decode b_A_cut 19 = .ok (.istore_n 2, 1) := by decide +kernel
theorem d_A_cut_20 : decode b_A_cut 20 = .ok (.iload_n 2, 1) := by decide +kernel
theorem d_A_cut_21 : decode b_A_cut 21 = .ok (.ifCond .le 27, 3) := by decide +kernel
theorem d_A_cut_24 : decode b_A_cut 24 = .ok (.aload_n 0, 1) := by decide +kernel
theorem d_A_cut_25 : decode b_A_cut 25 = .ok (.iload_n 2, 1) := by decide +kernel
theorem d_A_cut_26 : decode b_A_cut 26 = .ok (.invokevirtual 82, 3) := by decide +kernel
theorem d_A_cut_29 : decode b_A_cut 29 = .ok (.aload_n 0, 1) := by decide +kernel
theorem d_A_cut_30 : decode b_A_cut 30 = .ok (.getfield 67, 3) := by decide +kernel
theorem d_A_cut_33 : decode b_A_cut 33 = .ok (.lcmp, 1) := by decide +kernel
theorem d_A_cut_34 : decode b_A_cut 34 = .ok (.ifCond .le 14, 3) := by decide +kernel
theorem d_A_cut_37 : decode b_A_cut 37 = .ok (.aload_n 0, 1) := by decide +kernel
theorem d_A_cut_38 : decode b_A_cut 38 = .ok (.iload_n 2, 1) := by decide +kernel
theorem d_A_cut_39 : decode b_A_cut 39 = .ok (.invokevirtual 86, 3) := by decide +kernel
theorem d_A_cut_42 : decode b_A_cut 42 = .ok (.iinc 2 (-1), 3) := by decide +kernel
theorem d_A_cut_45 : decode b_A_cut 45 = .ok (.goto (-25), 3) := by decide +kernel
theorem d_A_cut_48 : decode b_A_cut 48 = .ok (.iload_n 1, 1) := by decide +kernel
theorem d_A_cut_49 : decode b_A_cut 49 = .ok (.aload_n 0, 1) := by decide +kernel
theorem d_A_cut_50 : decode b_A_cut 50 = .ok (.getfield 43, 3) := by decide +kernel
theorem d_A_cut_53 : decode b_A_cut 53 = .ok (.isub, 1) := by decide +kernel
theorem d_A_cut_54 : decode b_A_cut 54 = .ok (.ireturn, 1) := by decide +kernel
abbrev b_A_mark : ByteArray := prog_1_method_6_code
def y_A_mark : MethodName := ⟨"AgedMarks", "mark", "(II)J"⟩
theorem d_A_mark_0 : decode b_A_mark 0 = .ok (.iload_n 1, 1) := by decide +kernel
theorem d_A_mark_1 : decode b_A_mark 1 = .ok (.ifCond .lt 11, 3) := by decide +kernel
theorem d_A_mark_4 : decode b_A_mark 4 = .ok (.iload_n 1, 1) := by decide +kernel
theorem d_A_mark_5 : decode b_A_mark 5 = .ok (.aload_n 0, 1) := by decide +kernel
theorem d_A_mark_6 : decode b_A_mark 6 = .ok (.getfield 43, 3) := by decide +kernel
theorem d_A_mark_9 : decode b_A_mark 9 = .ok (.if_icmp .lt 13, 3) := by decide +kernel
theorem d_A_mark_12 : decode b_A_mark 12 = .ok (.new 90, 3) := by decide +kernel
theorem d_A_mark_15 : decode b_A_mark 15 = .ok (.dup, 1) := by decide +kernel
theorem d_A_mark_16 : decode b_A_mark 16 = .ok (.ldc 92, 2) := by decide +kernel
theorem d_A_mark_18 : decode b_A_mark 18 = .ok (.invokespecial 94, 3) := by decide +kernel
theorem d_A_mark_21 : decode b_A_mark 21 = .ok (.athrow, 1) := by decide +kernel
theorem d_A_mark_22 : decode b_A_mark 22 = .ok (.iload_n 2, 1) := by decide +kernel
theorem d_A_mark_23 : decode b_A_mark 23 = .ok (.tableswitch 59 0 2 #[25, 31, 39], 25) := by decide +kernel
theorem d_A_mark_48 : decode b_A_mark 48 = .ok (.aload_n 0, 1) := by decide +kernel
theorem d_A_mark_49 : decode b_A_mark 49 = .ok (.iload_n 1, 1) := by decide +kernel
theorem d_A_mark_50 : decode b_A_mark 50 = .ok (.invokevirtual 82, 3) := by decide +kernel
theorem d_A_mark_53 : decode b_A_mark 53 = .ok (.lreturn, 1) := by decide +kernel
theorem d_A_mark_54 : decode b_A_mark 54 = .ok (.aload_n 0, 1) := by decide +kernel
theorem d_A_mark_55 : decode b_A_mark 55 = .ok (.getfield 13, 3) := by decide +kernel
theorem d_A_mark_58 : decode b_A_mark 58 = .ok (.iload_n 1, 1) := by decide +kernel
theorem d_A_mark_59 : decode b_A_mark 59 = .ok (.iaload, 1) := by decide +kernel
theorem d_A_mark_60 : decode b_A_mark 60 = .ok (.i2l, 1) := by decide +kernel
theorem d_A_mark_61 : decode b_A_mark 61 = .ok (.lreturn, 1) := by decide +kernel
theorem d_A_mark_62 : decode b_A_mark 62 = .ok (.aload_n 0, 1) := by decide +kernel
theorem d_A_mark_63 : decode b_A_mark 63 = .ok (.getfield 9, 3) := by decide +kernel
theorem d_A_mark_66 : decode b_A_mark 66 = .ok (.aload_n 0, 1) := by decide +kernel
theorem d_A_mark_67 : decode b_A_mark 67 = .ok (.getfield 43, 3) := by decide +kernel
theorem d_A_mark_70 : decode b_A_mark 70 = .ok (.iconst 1, 1) := by decide +kernel
theorem d_A_mark_71 : decode b_A_mark 71 = .ok (.isub, 1) := by decide +kernel
theorem d_A_mark_72 : decode b_A_mark 72 = .ok (.iaload, 1) := by decide +kernel
theorem d_A_mark_73 : decode b_A_mark 73 = .ok (.aload_n 0, 1) := by decide +kernel
theorem d_A_mark_74 : decode b_A_mark 74 = .ok (.getfield 9, 3) := by decide +kernel
theorem d_A_mark_77 : decode b_A_mark 77 = .ok (.iload_n 1, 1) := by decide +kernel
theorem d_A_mark_78 : decode b_A_mark 78 = .ok (.iaload, 1) := by decide +kernel
theorem d_A_mark_79 : decode b_A_mark 79 = .ok (.isub, 1) := by decide +kernel
theorem d_A_mark_80 : decode b_A_mark 80 = .ok (.i2l, 1) := by decide +kernel
theorem d_A_mark_81 : decode b_A_mark 81 = .ok (.lreturn, 1) := by decide +kernel
theorem d_A_mark_82 : decode b_A_mark 82 = .ok (.new 49, 3) := by decide +kernel
theorem d_A_mark_85 : decode b_A_mark 85 = .ok (.dup, 1) := by decide +kernel
theorem d_A_mark_86 : decode b_A_mark 86 = .ok (.ldc 95, 2) := by decide +kernel
theorem d_A_mark_88 : decode b_A_mark 88 = .ok (.invokespecial 53, 3) := by decide +kernel
theorem d_A_mark_91 : decode b_A_mark 91 = .ok (.athrow, 1) := by decide +kernel
abbrev b_A_holder : ByteArray := prog_1_method_7_code
def y_A_holder : MethodName := ⟨"AgedMarks", "holder", "(I)I"⟩
theorem d_A_holder_0 : decode b_A_holder 0 = .ok (.iconst 0, 1) := by decide +kernel
theorem d_A_holder_1 : decode b_A_holder 1 = .ok (.istore_n 2, 1) := by decide +kernel
theorem d_A_holder_2 : decode b_A_holder 2 = .ok (.iload_n 2, 1) := by decide +kernel
theorem d_A_holder_3 : decode b_A_holder 3 = .ok (.aload_n 0, 1) := by decide +kernel
theorem d_A_holder_4 : decode b_A_holder 4 = .ok (.getfield 43, 3) := by decide +kernel
theorem d_A_holder_7 : decode b_A_holder 7 = .ok (.if_icmp .ge 21, 3) := by decide +kernel
theorem d_A_holder_10 : decode b_A_holder 10 = .ok (.aload_n 0, 1) := by decide +kernel
theorem d_A_holder_11 : decode b_A_holder 11 = .ok (.getfield 13, 3) := by decide +kernel
theorem d_A_holder_14 : decode b_A_holder 14 = .ok (.iload_n 2, 1) := by decide +kernel
theorem d_A_holder_15 : decode b_A_holder 15 = .ok (.iaload, 1) := by decide +kernel
theorem d_A_holder_16 : decode b_A_holder 16 = .ok (.iload_n 1, 1) := by decide +kernel
theorem d_A_holder_17 : decode b_A_holder 17 = .ok (.if_icmp .ne 5, 3) := by decide +kernel
theorem d_A_holder_20 : decode b_A_holder 20 = .ok (.iload_n 2, 1) := by decide +kernel
theorem d_A_holder_21 : decode b_A_holder 21 = .ok (.ireturn, 1) := by decide +kernel
theorem d_A_holder_22 : decode b_A_holder 22 = .ok (.iinc 2 1, 3) := by decide +kernel
theorem d_A_holder_25 : decode b_A_holder 25 = .ok (.goto (-23), 3) := by decide +kernel
theorem d_A_holder_28 : decode b_A_holder 28 = .ok (.iconst (-1), 1) := by decide +kernel
theorem d_A_holder_29 : decode b_A_holder 29 = .ok (.ireturn, 1) := by decide +kernel
abbrev b_A_worst : ByteArray := prog_1_method_8_code
def y_A_worst : MethodName := ⟨"AgedMarks", "worst", "()J"⟩
theorem d_A_worst_0 : decode b_A_worst 0 = .ok (.aload_n 0, 1) := by decide +kernel
theorem d_A_worst_1 : decode b_A_worst 1 = .ok (.getfield 67, 3) := by decide +kernel
theorem d_A_worst_4 : decode b_A_worst 4 = .ok (.aload_n 0, 1) := by decide +kernel
theorem d_A_worst_5 : decode b_A_worst 5 = .ok (.aload_n 0, 1) := by decide +kernel
theorem d_A_worst_6 : decode b_A_worst 6 = .ok (.getfield 43, 3) := by decide +kernel
theorem d_A_worst_9 : decode b_A_worst 9 = .ok (.iconst 1, 1) := by decide +kernel
theorem d_A_worst_10 : decode b_A_worst 10 = .ok (.isub, 1) := by decide +kernel
theorem d_A_worst_11 : decode b_A_worst 11 = .ok (.invokevirtual 82, 3) := by decide +kernel
theorem d_A_worst_14 : decode b_A_worst 14 = .ok (.lsub, 1) := by decide +kernel
theorem d_A_worst_15 : decode b_A_worst 15 = .ok (.lstore_n 1, 1) := by decide +kernel
theorem d_A_worst_16 : decode b_A_worst 16 = .ok (.iconst 1, 1) := by decide +kernel
theorem d_A_worst_17 : decode b_A_worst 17 = .ok (.istore_n 3, 1) := by decide +kernel
theorem d_A_worst_18 : decode b_A_worst 18 = .ok (.iload_n 3, 1) := by decide +kernel
theorem d_A_worst_19 : decode b_A_worst 19 = .ok (.aload_n 0, 1) := by decide +kernel
theorem d_A_worst_20 : decode b_A_worst 20 = .ok (.getfield 43, 3) := by decide +kernel
theorem d_A_worst_23 : decode b_A_worst 23 = .ok (.if_icmp .ge 29, 3) := by decide +kernel
theorem d_A_worst_26 : decode b_A_worst 26 = .ok (.lload_n 1, 1) := by decide +kernel
theorem d_A_worst_27 : decode b_A_worst 27 = .ok (.aload_n 0, 1) := by decide +kernel
theorem d_A_worst_28 : decode b_A_worst 28 = .ok (.iload_n 3, 1) := by decide +kernel
theorem d_A_worst_29 : decode b_A_worst 29 = .ok (.invokevirtual 82, 3) := by decide +kernel
theorem d_A_worst_32 : decode b_A_worst 32 = .ok (.lconst 1, 1) := by decide +kernel
theorem d_A_worst_33 : decode b_A_worst 33 = .ok (.lsub, 1) := by decide +kernel
theorem d_A_worst_34 : decode b_A_worst 34 = .ok (.aload_n 0, 1) := by decide +kernel
theorem d_A_worst_35 : decode b_A_worst 35 = .ok (.iload_n 3, 1) := by decide +kernel
theorem d_A_worst_36 : decode b_A_worst 36 = .ok (.iconst 1, 1) := by decide +kernel
theorem d_A_worst_37 : decode b_A_worst 37 = .ok (.isub, 1) := by decide +kernel
theorem d_A_worst_38 : decode b_A_worst 38 = .ok (.invokevirtual 82, 3) := by decide +kernel
theorem d_A_worst_41 : decode b_A_worst 41 = .ok (.lsub, 1) := by decide +kernel
theorem d_A_worst_42 : decode b_A_worst 42 = .ok (.invokestatic 97, 3) := by decide +kernel
theorem d_A_worst_45 : decode b_A_worst 45 = .ok (.lstore_n 1, 1) := by decide +kernel
theorem d_A_worst_46 : decode b_A_worst 46 = .ok (.iinc 3 1, 3) := by decide +kernel
theorem d_A_worst_49 : decode b_A_worst 49 = .ok (.goto (-31), 3) := by decide +kernel
theorem d_A_worst_52 : decode b_A_worst 52 = .ok (.lload_n 1, 1) := by decide +kernel
theorem d_A_worst_53 : decode b_A_worst 53 = .ok (.lreturn, 1) := by decide +kernel
abbrev b_A_count : ByteArray := prog_1_method_9_code
def y_A_count : MethodName := ⟨"AgedMarks", "count", "(I)J"⟩
theorem d_A_count_0 : decode b_A_count 0 = .ok (.iload_n 1, 1) := by decide +kernel
theorem d_A_count_1 : decode b_A_count 1 = .ok (.tableswitch 80 0 6 #[43, 48, 53, 59, 65, 70, 75], 43) := by decide +kernel
theorem d_A_count_44 : decode b_A_count 44 = .ok (.aload_n 0, 1) := by decide +kernel
theorem d_A_count_45 : decode b_A_count 45 = .ok (.getfield 56, 3) := by decide +kernel
theorem d_A_count_48 : decode b_A_count 48 = .ok (.lreturn, 1) := by decide +kernel
theorem d_A_count_49 : decode b_A_count 49 = .ok (.aload_n 0, 1) := by decide +kernel
theorem d_A_count_50 : decode b_A_count 50 = .ok (.getfield 67, 3) := by decide +kernel
theorem d_A_count_53 : decode b_A_count 53 = .ok (.lreturn, 1) := by decide +kernel
theorem d_A_count_54 : decode b_A_count 54 = .ok (.aload_n 0, 1) := by decide +kernel
theorem d_A_count_55 : decode b_A_count 55 = .ok (.getfield 43, 3) := by decide +kernel
theorem d_A_count_58 : decode b_A_count 58 = .ok (.i2l, 1) := by decide +kernel
theorem d_A_count_59 : decode b_A_count 59 = .ok (.lreturn, 1) := by decide +kernel
theorem d_A_count_60 : decode b_A_count 60 = .ok (.aload_n 0, 1) := by decide +kernel
theorem d_A_count_61 : decode b_A_count 61 = .ok (.getfield 46, 3) := by decide +kernel
theorem d_A_count_64 : decode b_A_count 64 = .ok (.i2l, 1) := by decide +kernel
theorem d_A_count_65 : decode b_A_count 65 = .ok (.lreturn, 1) := by decide +kernel
theorem d_A_count_66 : decode b_A_count 66 = .ok (.aload_n 0, 1) := by decide +kernel
theorem d_A_count_67 : decode b_A_count 67 = .ok (.getfield 100, 3) := by decide +kernel
theorem d_A_count_70 : decode b_A_count 70 = .ok (.lreturn, 1) := by decide +kernel
theorem d_A_count_71 : decode b_A_count 71 = .ok (.aload_n 0, 1) := by decide +kernel
theorem d_A_count_72 : decode b_A_count 72 = .ok (.getfield 103, 3) := by decide +kernel
theorem d_A_count_75 : decode b_A_count 75 = .ok (.lreturn, 1) := by decide +kernel
theorem d_A_count_76 : decode b_A_count 76 = .ok (.aload_n 0, 1) := by decide +kernel
theorem d_A_count_77 : decode b_A_count 77 = .ok (.getfield 106, 3) := by decide +kernel
theorem d_A_count_80 : decode b_A_count 80 = .ok (.lreturn, 1) := by decide +kernel
theorem d_A_count_81 : decode b_A_count 81 = .ok (.ldc2_w 109, 3) := by decide +kernel
theorem d_A_count_84 : decode b_A_count 84 = .ok (.lreturn, 1) := by decide +kernel
abbrev b_A_growTo : ByteArray := prog_1_method_10_code
def y_A_growTo : MethodName := ⟨"AgedMarks", "growTo", "(J)I"⟩
theorem d_A_growTo_0 : decode b_A_growTo 0 = .ok (.aload_n 0, 1) := by decide +kernel
theorem d_A_growTo_1 : decode b_A_growTo 1 = .ok (.aload_n 0, 1) := by decide +kernel
theorem d_A_growTo_2 : decode b_A_growTo 2 = .ok (.getfield 67, 3) := by decide +kernel
theorem d_A_growTo_5 : decode b_A_growTo 5 = .ok (.invokevirtual 111, 3) := by decide +kernel
theorem d_A_growTo_8 : decode b_A_growTo 8 = .ok (.istore_n 3, 1) := by decide +kernel
theorem d_A_growTo_9 : decode b_A_growTo 9 = .ok (.aload_n 0, 1) := by decide +kernel
theorem d_A_growTo_10 : decode b_A_growTo 10 = .ok (.lload_n 1, 1) := by decide +kernel
theorem d_A_growTo_11 : decode b_A_growTo 11 = .ok (.invokevirtual 111, 3) := by decide +kernel
theorem d_A_growTo_14 : decode b_A_growTo 14 = .ok (.istore 4, 2) := by decide +kernel
theorem d_A_growTo_16 : decode b_A_growTo 16 = .ok (.aload_n 0, 1) := by decide +kernel
theorem d_A_growTo_17 : decode b_A_growTo 17 = .ok (.lload_n 1, 1) := by decide +kernel
theorem d_A_growTo_18 : decode b_A_growTo 18 = .ok (.putfield 67, 3) := by decide +kernel
theorem d_A_growTo_21 : decode b_A_growTo 21 = .ok (.iload_n 3, 1) := by decide +kernel
theorem d_A_growTo_22 : decode b_A_growTo 22 = .ok (.iconst 1, 1) := by decide +kernel
theorem d_A_growTo_23 : decode b_A_growTo 23 = .ok (.iadd, 1) := by decide +kernel
theorem d_A_growTo_24 : decode b_A_growTo 24 = .ok (.istore 5, 2) := by decide +kernel
theorem d_A_growTo_26 : decode b_A_growTo 26 = .ok (.iload 5, 2) := by decide +kernel
theorem d_A_growTo_28 : decode b_A_growTo 28 = .ok (.iload 4, 2) := by decide +kernel
theorem d_A_growTo_30 : decode b_A_growTo 30 = .ok (.if_icmp .gt 36, 3) := by decide +kernel
theorem d_A_growTo_33 : decode b_A_growTo 33 = .ok (.aload_n 0, 1) := by decide +kernel
theorem d_A_growTo_34 : decode b_A_growTo 34 = .ok (.iload 5, 2) := by decide +kernel
theorem d_A_growTo_36 : decode b_A_growTo 36 = .ok (.invokevirtual 114, 3) := by decide +kernel
theorem d_A_growTo_39 : decode b_A_growTo 39 = .ok (.aload_n 0, 1) := by decide +kernel
theorem d_A_growTo_40 : decode b_A_growTo 40 = .ok (.iload 5, 2) := by decide +kernel
theorem d_A_growTo_42 : decode b_A_growTo 42 = .ok (.invokevirtual 117, 3) := by decide +kernel
theorem d_A_growTo_45 : decode b_A_growTo 45 = .ok (.aload_n 0, 1) := by decide +kernel
theorem d_A_growTo_46 : decode b_A_growTo 46 = .ok (.aload_n 0, 1) := by decide +kernel
theorem d_A_growTo_47 : decode b_A_growTo 47 = .ok (.getfield 46, 3) := by decide +kernel
theorem d_A_growTo_50 : decode b_A_growTo 50 = .ok (.aload_n 0, 1) := by decide +kernel
theorem d_A_growTo_51 : decode b_A_growTo 51 = .ok (.getfield 43, 3) := by decide +kernel
theorem d_A_growTo_54 : decode b_A_growTo 54 = .ok (.invokestatic 29, 3) := by decide +kernel
theorem d_A_growTo_57 : decode b_A_growTo 57 = .ok (.putfield 46, 3) := by decide +kernel
theorem d_A_growTo_60 : decode b_A_growTo 60 = .ok (.iinc 5 1, 3) := by decide +kernel
theorem d_A_growTo_63 : decode b_A_growTo 63 = .ok (.goto (-37), 3) := by decide +kernel
theorem d_A_growTo_66 : decode b_A_growTo 66 = .ok (.iload 4, 2) := by decide +kernel
theorem d_A_growTo_68 : decode b_A_growTo 68 = .ok (.iload_n 3, 1) := by decide +kernel
theorem d_A_growTo_69 : decode b_A_growTo 69 = .ok (.isub, 1) := by decide +kernel
theorem d_A_growTo_70 : decode b_A_growTo 70 = .ok (.ireturn, 1) := by decide +kernel
abbrev b_A_gapsIn : ByteArray := prog_1_method_11_code
def y_A_gapsIn : MethodName := ⟨"AgedMarks", "gapsIn", "(J)I"⟩
theorem d_A_gapsIn_0 : decode b_A_gapsIn 0 = .ok (.aload_n 0, 1) := by decide +kernel
theorem d_A_gapsIn_1 : decode b_A_gapsIn 1 = .ok (.getfield 32, 3) := by decide +kernel
theorem d_A_gapsIn_4 : decode b_A_gapsIn 4 = .ok (.ifCond .le 14, 3) := by decide +kernel
theorem d_A_gapsIn_7 : decode b_A_gapsIn 7 = .ok (.lload_n 1, 1) := by decide +kernel
theorem d_A_gapsIn_8 : decode b_A_gapsIn 8 = .ok (.aload_n 0, 1) := by decide +kernel
theorem d_A_gapsIn_9 : decode b_A_gapsIn 9 = .ok (.getfield 32, 3) := by decide +kernel
theorem d_A_gapsIn_12 : decode b_A_gapsIn 12 = .ok (.i2l, 1) := by decide +kernel
theorem d_A_gapsIn_13 : decode b_A_gapsIn 13 = .ok (.ldiv, 1) := by decide +kernel
theorem d_A_gapsIn_14 : decode b_A_gapsIn 14 = .ok (.l2i, 1) := by decide +kernel
theorem d_A_gapsIn_15 : decode b_A_gapsIn 15 = .ok (.goto 4, 3) := by decide +kernel
theorem d_A_gapsIn_18 : decode b_A_gapsIn 18 = .ok (.iconst 0, 1) := by decide +kernel
theorem d_A_gapsIn_19 : decode b_A_gapsIn 19 = .ok (.ireturn, 1) := by decide +kernel
abbrev b_A_lay : ByteArray := prog_1_method_12_code
def y_A_lay : MethodName := ⟨"AgedMarks", "lay", "(I)V"⟩
theorem d_A_lay_0 : decode b_A_lay 0 = .ok (.aload_n 0, 1) := by decide +kernel
theorem d_A_lay_1 : decode b_A_lay 1 = .ok (.getfield 43, 3) := by decide +kernel
theorem d_A_lay_4 : decode b_A_lay 4 = .ok (.ifCond .lt 13, 3) := by decide +kernel
theorem d_A_lay_7 : decode b_A_lay 7 = .ok (.aload_n 0, 1) := by decide +kernel
theorem d_A_lay_8 : decode b_A_lay 8 = .ok (.getfield 43, 3) := by decide +kernel
theorem d_A_lay_11 : decode b_A_lay 11 = .ok (.sipush 320, 3) := by decide +kernel
theorem d_A_lay_14 : decode b_A_lay 14 = .ok (.if_icmp .lt 4, 3) := by decide +kernel
theorem d_A_lay_17 : decode b_A_lay 17 = .ok (.return_, 1) := by decide +kernel
theorem d_A_lay_18 : decode b_A_lay 18 = .ok (.aload_n 0, 1) := by decide +kernel
theorem d_A_lay_19 : decode b_A_lay 19 = .ok (.getfield 9, 3) := by decide +kernel
theorem d_A_lay_22 : decode b_A_lay 22 = .ok (.aload_n 0, 1) := by decide +kernel
theorem d_A_lay_23 : decode b_A_lay 23 = .ok (.getfield 43, 3) := by decide +kernel
theorem d_A_lay_26 : decode b_A_lay 26 = .ok (.iload_n 1, 1) := by decide +kernel
theorem d_A_lay_27 : decode b_A_lay 27 = .ok (.iastore, 1) := by decide +kernel
theorem d_A_lay_28 : decode b_A_lay 28 = .ok (.aload_n 0, 1) := by decide +kernel
theorem d_A_lay_29 : decode b_A_lay 29 = .ok (.getfield 13, 3) := by decide +kernel
theorem d_A_lay_32 : decode b_A_lay 32 = .ok (.aload_n 0, 1) := by decide +kernel
theorem d_A_lay_33 : decode b_A_lay 33 = .ok (.getfield 43, 3) := by decide +kernel
theorem d_A_lay_36 : decode b_A_lay 36 = .ok (.aload_n 0, 1) := by decide +kernel
theorem d_A_lay_37 : decode b_A_lay 37 = .ok (.getfield 19, 3) := by decide +kernel
theorem d_A_lay_40 : decode b_A_lay 40 = .ok (.invokevirtual 39, 3) := by decide +kernel
theorem d_A_lay_43 : decode b_A_lay 43 = .ok (.iastore, 1) := by decide +kernel
theorem d_A_lay_44 : decode b_A_lay 44 = .ok (.aload_n 0, 1) := by decide +kernel
theorem d_A_lay_45 : decode b_A_lay 45 = .ok (.dup, 1) := by decide +kernel
theorem d_A_lay_46 : decode b_A_lay 46 = .ok (.getfield 43, 3) := by decide +kernel
theorem d_A_lay_49 : decode b_A_lay 49 = .ok (.iconst 1, 1) := by decide +kernel
theorem d_A_lay_50 : decode b_A_lay 50 = .ok (.iadd, 1) := by decide +kernel
theorem d_A_lay_51 : decode b_A_lay 51 = .ok (.putfield 43, 3) := by decide +kernel
theorem d_A_lay_54 : decode b_A_lay 54 = .ok (.aload_n 0, 1) := by decide +kernel
theorem d_A_lay_55 : decode b_A_lay 55 = .ok (.dup, 1) := by decide +kernel
theorem d_A_lay_56 : decode b_A_lay 56 = .ok (.getfield 100, 3) := by decide +kernel
theorem d_A_lay_59 : decode b_A_lay 59 = .ok (.lconst 1, 1) := by decide +kernel
theorem d_A_lay_60 : decode b_A_lay 60 = .ok (.ladd, 1) := by decide +kernel
theorem d_A_lay_61 : decode b_A_lay 61 = .ok (.putfield 100, 3) := by decide +kernel
theorem d_A_lay_64 : decode b_A_lay 64 = .ok (.return_, 1) := by decide +kernel
abbrev b_A_thin : ByteArray := prog_1_method_13_code
def y_A_thin : MethodName := ⟨"AgedMarks", "thin", "(I)V"⟩
theorem d_A_thin_0 : decode b_A_thin 0 = .ok (.iload_n 1, 1) := by decide +kernel
theorem d_A_thin_1 : decode b_A_thin 1 = .ok (.iload_n 1, 1) := by decide +kernel
theorem d_A_thin_2 : decode b_A_thin 2 = .ok (.ineg, 1) := by decide +kernel
theorem d_A_thin_3 : decode b_A_thin 3 = .ok (.iand, 1) := by decide +kernel
theorem d_A_thin_4 : decode b_A_thin 4 = .ok (.istore_n 2, 1) := by decide +kernel
theorem d_A_thin_5 : decode b_A_thin 5 = .ok (.aload_n 0, 1) := by decide +kernel
theorem d_A_thin_6 : decode b_A_thin 6 = .ok (.iload_n 1, 1) := by decide +kernel
theorem d_A_thin_7 : decode b_A_thin 7 = .ok (.aload_n 0, 1) := by decide +kernel
theorem d_A_thin_8 : decode b_A_thin 8 = .ok (.getfield 36, 3) := by decide +kernel
theorem d_A_thin_11 : decode b_A_thin 11 = .ok (.iconst 2, 1) := by decide +kernel
theorem d_A_thin_12 : decode b_A_thin 12 = .ok (.imul, 1) := by decide +kernel
theorem d_A_thin_13 : decode b_A_thin 13 = .ok (.iload_n 2, 1) := by decide +kernel
theorem d_A_thin_14 : decode b_A_thin 14 = .ok (.imul, 1) := by decide +kernel
theorem d_A_thin_15 : decode b_A_thin 15 = .ok (.isub, 1) := by decide +kernel
theorem d_A_thin_16 : decode b_A_thin 16 = .ok (.invokevirtual 120, 3) := by decide +kernel
theorem d_A_thin_19 : decode b_A_thin 19 = .ok (.istore_n 3, 1) := by decide +kernel
theorem d_A_thin_20 : decode b_A_thin 20 = .ok (.iload_n 3, 1) := by decide +kernel
theorem d_A_thin_21 : decode b_A_thin 21 = .ok (.iconst (-1), 1) := by decide +kernel
theorem d_A_thin_22 : decode b_A_thin 22 = .ok (.if_icmp .eq 8, 3) := by decide +kernel
theorem d_A_thin_25 : decode b_A_thin 25 = .ok (.aload_n 0, 1) := by decide +kernel
theorem d_A_thin_26 : decode b_A_thin 26 = .ok (.iload_n 3, 1) := by decide +kernel
theorem d_A_thin_27 : decode b_A_thin 27 = .ok (.invokevirtual 86, 3) := by decide +kernel
theorem d_A_thin_30 : decode b_A_thin 30 = .ok (.return_, 1) := by decide +kernel
abbrev b_A_placeOf : ByteArray := prog_1_method_14_code
def y_A_placeOf : MethodName := ⟨"AgedMarks", "placeOf", "(I)I"⟩
theorem d_A_placeOf_0 : decode b_A_placeOf 0 = .ok (.aload_n 0, 1) := by decide +kernel
theorem d_A_placeOf_1 : decode b_A_placeOf 1 = .ok (.getfield 43, 3) := by decide +kernel
theorem d_A_placeOf_4 : decode b_A_placeOf 4 = .ok (.iconst 1, 1) := by decide +kernel
theorem d_A_placeOf_5 : decode b_A_placeOf 5 = .ok (.isub, 1) := by decide +kernel
theorem d_A_placeOf_6 : decode b_A_placeOf 6 = .ok (.istore_n 2, 1) := by decide +kernel
theorem d_A_placeOf_7 : decode b_A_placeOf 7 = .ok (.iload_n 2, 1) := by decide +kernel
theorem d_A_placeOf_8 : decode b_A_placeOf 8 = .ok (.ifCond .lt 35, 3) := by decide +kernel
theorem d_A_placeOf_11 : decode b_A_placeOf 11 = .ok (.aload_n 0, 1) := by decide +kernel
theorem d_A_placeOf_12 : decode b_A_placeOf 12 = .ok (.getfield 9, 3) := by decide +kernel
theorem d_A_placeOf_15 : decode b_A_placeOf 15 = .ok (.iload_n 2, 1) := by decide +kernel
theorem d_A_placeOf_16 : decode b_A_placeOf 16 = .ok (.iaload, 1) := by decide +kernel
theorem d_A_placeOf_17 : decode b_A_placeOf 17 = .ok (.iload_n 1, 1) := by decide +kernel
theorem d_A_placeOf_18 : decode b_A_placeOf 18 = .ok (.if_icmp .gt 19, 3) := by decide +kernel
theorem d_A_placeOf_21 : decode b_A_placeOf 21 = .ok (.aload_n 0, 1) := by decide +kernel
theorem d_A_placeOf_22 : decode b_A_placeOf 22 = .ok (.getfield 9, 3) := by decide +kernel
theorem d_A_placeOf_25 : decode b_A_placeOf 25 = .ok (.iload_n 2, 1) := by decide +kernel
theorem d_A_placeOf_26 : decode b_A_placeOf 26 = .ok (.iaload, 1) := by decide +kernel
theorem d_A_placeOf_27 : decode b_A_placeOf 27 = .ok (.iload_n 1, 1) := by decide +kernel
theorem d_A_placeOf_28 : decode b_A_placeOf 28 = .ok (.if_icmp .ne 7, 3) := by decide +kernel
theorem d_A_placeOf_31 : decode b_A_placeOf 31 = .ok (.iload_n 2, 1) := by decide +kernel
theorem d_A_placeOf_32 : decode b_A_placeOf 32 = .ok (.goto 4, 3) := by decide +kernel
theorem d_A_placeOf_35 : decode b_A_placeOf 35 = .ok (.iconst (-1), 1) := by decide +kernel
theorem d_A_placeOf_36 : decode b_A_placeOf 36 = .ok (.ireturn, 1) := by decide +kernel
theorem d_A_placeOf_37 : decode b_A_placeOf 37 = .ok (.iinc 2 (-1), 3) := by decide +kernel
theorem d_A_placeOf_40 : decode b_A_placeOf 40 = .ok (.goto (-33), 3) := by decide +kernel
theorem d_A_placeOf_43 : decode b_A_placeOf 43 = .ok (.iconst (-1), 1) := by decide +kernel
theorem d_A_placeOf_44 : decode b_A_placeOf 44 = .ok (.ireturn, 1) := by decide +kernel
abbrev b_A_drop : ByteArray := prog_1_method_15_code
def y_A_drop : MethodName := ⟨"AgedMarks", "drop", "(I)V"⟩
theorem d_A_drop_0 : decode b_A_drop 0 = .ok (.iload_n 1, 1) := by decide +kernel
theorem d_A_drop_1 : decode b_A_drop 1 = .ok (.ifCond .lt 11, 3) := by decide +kernel
theorem d_A_drop_4 : decode b_A_drop 4 = .ok (.iload_n 1, 1) := by decide +kernel
theorem d_A_drop_5 : decode b_A_drop 5 = .ok (.aload_n 0, 1) := by decide +kernel
theorem d_A_drop_6 : decode b_A_drop 6 = .ok (.getfield 43, 3) := by decide +kernel
theorem d_A_drop_9 : decode b_A_drop 9 = .ok (.if_icmp .lt 4, 3) := by decide +kernel
theorem d_A_drop_12 : decode b_A_drop 12 = .ok (.return_, 1) := by decide +kernel
theorem d_A_drop_13 : decode b_A_drop 13 = .ok (.aload_n 0, 1) := by decide +kernel
theorem d_A_drop_14 : decode b_A_drop 14 = .ok (.getfield 19, 3) := by decide +kernel
theorem d_A_drop_17 : decode b_A_drop 17 = .ok (.aload_n 0, 1) := by decide +kernel
theorem d_A_drop_18 : decode b_A_drop 18 = .ok (.getfield 13, 3) := by decide +kernel
theorem d_A_drop_21 : decode b_A_drop 21 = .ok (.iload_n 1, 1) := by decide +kernel
theorem d_A_drop_22 : decode b_A_drop 22 = .ok (.iaload, 1) := by decide +kernel
theorem d_A_drop_23 : decode b_A_drop 23 = .ok (.invokevirtual 124, 3) := by decide +kernel
theorem d_A_drop_26 : decode b_A_drop 26 = .ok (.aload_n 0, 1) := by decide +kernel
theorem d_A_drop_27 : decode b_A_drop 27 = .ok (.getfield 43, 3) := by decide +kernel
theorem d_A_drop_30 : decode b_A_drop 30 = .ok (.iconst 1, 1) := by decide +kernel
theorem d_A_drop_31 : decode b_A_drop 31 = .ok (.isub, 1) := by decide +kernel
theorem d_A_drop_32 : decode b_A_drop 32 = .ok (.iload_n 1, 1) := by decide +kernel
theorem d_A_drop_33 : decode b_A_drop 33 = .ok (.isub, 1) := by decide +kernel
theorem d_A_drop_34 : decode b_A_drop 34 = .ok (.istore_n 2, 1) := by decide +kernel
theorem d_A_drop_35 : decode b_A_drop 35 = .ok (.aload_n 0, 1) := by decide +kernel
theorem d_A_drop_36 : decode b_A_drop 36 = .ok (.getfield 9, 3) := by decide +kernel
theorem d_A_drop_39 : decode b_A_drop 39 = .ok (.iload_n 1, 1) := by decide +kernel
theorem d_A_drop_40 : decode b_A_drop 40 = .ok (.iconst 1, 1) := by decide +kernel
theorem d_A_drop_41 : decode b_A_drop 41 = .ok (.iadd, 1) := by decide +kernel
theorem d_A_drop_42 : decode b_A_drop 42 = .ok (.aload_n 0, 1) := by decide +kernel
theorem d_A_drop_43 : decode b_A_drop 43 = .ok (.getfield 9, 3) := by decide +kernel
theorem d_A_drop_46 : decode b_A_drop 46 = .ok (.iload_n 1, 1) := by decide +kernel
theorem d_A_drop_47 : decode b_A_drop 47 = .ok (.iload_n 2, 1) := by decide +kernel
theorem d_A_drop_48 : decode b_A_drop 48 = .ok (.invokestatic 127, 3) := by decide +kernel
theorem d_A_drop_51 : decode b_A_drop 51 = .ok (.aload_n 0, 1) := by decide +kernel
theorem d_A_drop_52 : decode b_A_drop 52 = .ok (.getfield 13, 3) := by decide +kernel
theorem d_A_drop_55 : decode b_A_drop 55 = .ok (.iload_n 1, 1) := by decide +kernel
theorem d_A_drop_56 : decode b_A_drop 56 = .ok (.iconst 1, 1) := by decide +kernel
theorem d_A_drop_57 : decode b_A_drop 57 = .ok (.iadd, 1) := by decide +kernel
theorem d_A_drop_58 : decode b_A_drop 58 = .ok (.aload_n 0, 1) := by decide +kernel
theorem d_A_drop_59 : decode b_A_drop 59 = .ok (.getfield 13, 3) := by decide +kernel
theorem d_A_drop_62 : decode b_A_drop 62 = .ok (.iload_n 1, 1) := by decide +kernel
theorem d_A_drop_63 : decode b_A_drop 63 = .ok (.iload_n 2, 1) := by decide +kernel
theorem d_A_drop_64 : decode b_A_drop 64 = .ok (.invokestatic 127, 3) := by decide +kernel
theorem d_A_drop_67 : decode b_A_drop 67 = .ok (.aload_n 0, 1) := by decide +kernel
theorem d_A_drop_68 : decode b_A_drop 68 = .ok (.dup, 1) := by decide +kernel
theorem d_A_drop_69 : decode b_A_drop 69 = .ok (.getfield 43, 3) := by decide +kernel
theorem d_A_drop_72 : decode b_A_drop 72 = .ok (.iconst 1, 1) := by decide +kernel
theorem d_A_drop_73 : decode b_A_drop 73 = .ok (.isub, 1) := by decide +kernel
theorem d_A_drop_74 : decode b_A_drop 74 = .ok (.putfield 43, 3) := by decide +kernel
theorem d_A_drop_77 : decode b_A_drop 77 = .ok (.aload_n 0, 1) := by decide +kernel
theorem d_A_drop_78 : decode b_A_drop 78 = .ok (.dup, 1) := by decide +kernel
theorem d_A_drop_79 : decode b_A_drop 79 = .ok (.getfield 103, 3) := by decide +kernel
theorem d_A_drop_82 : decode b_A_drop 82 = .ok (.lconst 1, 1) := by decide +kernel
theorem d_A_drop_83 : decode b_A_drop 83 = .ok (.ladd, 1) := by decide +kernel
theorem d_A_drop_84 : decode b_A_drop 84 = .ok (.putfield 103, 3) := by decide +kernel
theorem d_A_drop_87 : decode b_A_drop 87 = .ok (.return_, 1) := by decide +kernel
abbrev b_A_moveTo : ByteArray := prog_1_method_16_code
def y_A_moveTo : MethodName := ⟨"AgedMarks", "moveTo", "(J)J"⟩
theorem d_A_moveTo_0 : decode b_A_moveTo 0 = .ok (.aload_n 0, 1) := by decide +kernel
theorem d_A_moveTo_1 : decode b_A_moveTo 1 = .ok (.lload_n 1, 1) := by decide +kernel
theorem d_A_moveTo_2 : decode b_A_moveTo 2 = .ok (.invokevirtual 133, 3) := by decide +kernel
theorem d_A_moveTo_5 : decode b_A_moveTo 5 = .ok (.lstore_n 3, 1) := by decide +kernel
theorem d_A_moveTo_6 : decode b_A_moveTo 6 = .ok (.aload_n 0, 1) := by decide +kernel
theorem d_A_moveTo_7 : decode b_A_moveTo 7 = .ok (.lload_n 1, 1) := by decide +kernel
theorem d_A_moveTo_8 : decode b_A_moveTo 8 = .ok (.putfield 56, 3) := by decide +kernel
theorem d_A_moveTo_11 : decode b_A_moveTo 11 = .ok (.aload_n 0, 1) := by decide +kernel
theorem d_A_moveTo_12 : decode b_A_moveTo 12 = .ok (.dup, 1) := by decide +kernel
theorem d_A_moveTo_13 : decode b_A_moveTo 13 = .ok (.getfield 106, 3) := by decide +kernel
theorem d_A_moveTo_16 : decode b_A_moveTo 16 = .ok (.lload_n 3, 1) := by decide +kernel
theorem d_A_moveTo_17 : decode b_A_moveTo 17 = .ok (.ladd, 1) := by decide +kernel
theorem d_A_moveTo_18 : decode b_A_moveTo 18 = .ok (.putfield 106, 3) := by decide +kernel
theorem d_A_moveTo_21 : decode b_A_moveTo 21 = .ok (.lload_n 3, 1) := by decide +kernel
theorem d_A_moveTo_22 : decode b_A_moveTo 22 = .ok (.lreturn, 1) := by decide +kernel
abbrev b_A_costOf : ByteArray := prog_1_method_17_code
def y_A_costOf : MethodName := ⟨"AgedMarks", "costOf", "(J)J"⟩
theorem d_A_costOf_0 : decode b_A_costOf 0 = .ok (.aload_n 0, 1) := by decide +kernel
theorem d_A_costOf_1 : decode b_A_costOf 1 = .ok (.getfield 43, 3) := by decide +kernel
theorem d_A_costOf_4 : decode b_A_costOf 4 = .ok (.iconst 1, 1) := by decide +kernel
theorem d_A_costOf_5 : decode b_A_costOf 5 = .ok (.isub, 1) := by decide +kernel
theorem d_A_costOf_6 : decode b_A_costOf 6 = .ok (.istore_n 3, 1) := by decide +kernel
theorem d_A_costOf_7 : decode b_A_costOf 7 = .ok (.iload_n 3, 1) := by decide +kernel
theorem d_A_costOf_8 : decode b_A_costOf 8 = .ok (.ifCond .le 27, 3) := by decide +kernel
theorem d_A_costOf_11 : decode b_A_costOf 11 = .ok (.aload_n 0, 1) := by decide +kernel
theorem d_A_costOf_12 : decode b_A_costOf 12 = .ok (.iload_n 3, 1) := by decide +kernel
theorem d_A_costOf_13 : decode b_A_costOf 13 = .ok (.invokevirtual 82, 3) := by decide +kernel
theorem d_A_costOf_16 : decode b_A_costOf 16 = .ok (.lload_n 1, 1) := by decide +kernel
theorem d_A_costOf_17 : decode b_A_costOf 17 = .ok (.lcmp, 1) := by decide +kernel
theorem d_A_costOf_18 : decode b_A_costOf 18 = .ok (.ifCond .gt 11, 3) := by decide +kernel
theorem d_A_costOf_21 : decode b_A_costOf 21 = .ok (.lload_n 1, 1) := by decide +kernel
theorem d_A_costOf_22 : decode b_A_costOf 22 = .ok (.aload_n 0, 1) := by decide +kernel
theorem d_A_costOf_23 : decode b_A_costOf 23 = .ok (.iload_n 3, 1) := by decide +kernel
theorem d_A_costOf_24 : decode b_A_costOf 24 = .ok (.invokevirtual 82, 3) := by decide +kernel
theorem d_A_costOf_27 : decode b_A_costOf 27 = .ok (.lsub, 1) := by decide +kernel
theorem d_A_costOf_28 : decode b_A_costOf 28 = .ok (.lreturn, 1) := by decide +kernel
theorem d_A_costOf_29 : decode b_A_costOf 29 = .ok (.iinc 3 (-1), 3) := by decide +kernel
theorem d_A_costOf_32 : decode b_A_costOf 32 = .ok (.goto (-25), 3) := by decide +kernel
theorem d_A_costOf_35 : decode b_A_costOf 35 = .ok (.lload_n 1, 1) := by decide +kernel
theorem d_A_costOf_36 : decode b_A_costOf 36 = .ok (.lreturn, 1) := by decide +kernel
abbrev b_A_countAt : ByteArray := prog_1_method_18_code
def y_A_countAt : MethodName := ⟨"AgedMarks", "countAt", "(I)J"⟩
theorem d_A_countAt_0 : decode b_A_countAt 0 = .ok (.iload_n 1, 1) := by decide +kernel
theorem d_A_countAt_1 : decode b_A_countAt 1 = .ok (.ifCond .lt 26, 3) := by decide +kernel
theorem d_A_countAt_4 : decode b_A_countAt 4 = .ok (.iload_n 1, 1) := by decide +kernel
theorem d_A_countAt_5 : decode b_A_countAt 5 = .ok (.sipush 320, 3) := by decide +kernel
theorem d_A_countAt_8 : decode b_A_countAt 8 = .ok (.if_icmp .ge 19, 3) := by decide +kernel
theorem d_A_countAt_11 : decode b_A_countAt 11 = .ok (.aload_n 0, 1) := by decide +kernel
theorem d_A_countAt_12 : decode b_A_countAt 12 = .ok (.getfield 9, 3) := by decide +kernel
theorem d_A_countAt_15 : decode b_A_countAt 15 = .ok (.iload_n 1, 1) := by decide +kernel
theorem d_A_countAt_16 : decode b_A_countAt 16 = .ok (.iaload, 1) := by decide +kernel
theorem d_A_countAt_17 : decode b_A_countAt 17 = .ok (.i2l, 1) := by decide +kernel
theorem d_A_countAt_18 : decode b_A_countAt 18 = .ok (.aload_n 0, 1) := by decide +kernel
theorem d_A_countAt_19 : decode b_A_countAt 19 = .ok (.getfield 32, 3) := by decide +kernel
theorem d_A_countAt_22 : decode b_A_countAt 22 = .ok (.i2l, 1) := by decide +kernel
theorem d_A_countAt_23 : decode b_A_countAt 23 = .ok (.lmul, 1) := by decide +kernel
theorem d_A_countAt_24 : decode b_A_countAt 24 = .ok (.goto 4, 3) := by decide +kernel
theorem d_A_countAt_27 : decode b_A_countAt 27 = .ok (.lconst 0, 1) := by decide +kernel
theorem d_A_countAt_28 : decode b_A_countAt 28 = .ok (.lreturn, 1) := by decide +kernel
end
section
abbrev b_B_bitCount : ByteArray := prog_8_method_50_code
def y_B_bitCount : MethodName := ⟨"java/lang/Long", "bitCount", "(J)I"⟩
theorem d_B_bitCount_0 : decode b_B_bitCount 0 = .ok (.lload_n 0, 1) := by decide +kernel
theorem d_B_bitCount_1 : decode b_B_bitCount 1 = .ok (.lload_n 0, 1) := by decide +kernel
theorem d_B_bitCount_2 : decode b_B_bitCount 2 = .ok (.iconst 1, 1) := by decide +kernel
theorem d_B_bitCount_3 : decode b_B_bitCount 3 = .ok (.lushr, 1) := by decide +kernel
theorem d_B_bitCount_4 : decode b_B_bitCount 4 = .ok (.ldc2_w 314, 3) := by decide +kernel
theorem d_B_bitCount_7 : decode b_B_bitCount 7 = .ok (.land, 1) := by decide +kernel
theorem d_B_bitCount_8 : decode b_B_bitCount 8 = .ok (.lsub, 1) := by decide +kernel
theorem d_B_bitCount_9 : decode b_B_bitCount 9 = .ok (.lstore_n 0, 1) := by decide +kernel
theorem d_B_bitCount_10 : decode b_B_bitCount 10 = .ok (.lload_n 0, 1) := by decide +kernel
theorem d_B_bitCount_11 : decode b_B_bitCount 11 = .ok (.ldc2_w 316, 3) := by decide +kernel
theorem d_B_bitCount_14 : decode b_B_bitCount 14 = .ok (.land, 1) := by decide +kernel
theorem d_B_bitCount_15 : decode b_B_bitCount 15 = .ok (.lload_n 0, 1) := by decide +kernel
theorem d_B_bitCount_16 : decode b_B_bitCount 16 = .ok (.iconst 2, 1) := by decide +kernel
theorem d_B_bitCount_17 : decode b_B_bitCount 17 = .ok (.lushr, 1) := by decide +kernel
theorem d_B_bitCount_18 : decode b_B_bitCount 18 = .ok (.ldc2_w 316, 3) := by decide +kernel
theorem d_B_bitCount_21 : decode b_B_bitCount 21 = .ok (.land, 1) := by decide +kernel
theorem d_B_bitCount_22 : decode b_B_bitCount 22 = .ok (.ladd, 1) := by decide +kernel
theorem d_B_bitCount_23 : decode b_B_bitCount 23 = .ok (.lstore_n 0, 1) := by decide +kernel
theorem d_B_bitCount_24 : decode b_B_bitCount 24 = .ok (.lload_n 0, 1) := by decide +kernel
theorem d_B_bitCount_25 : decode b_B_bitCount 25 = .ok (.lload_n 0, 1) := by decide +kernel
theorem d_B_bitCount_26 : decode b_B_bitCount 26 = .ok (.iconst 4, 1) := by decide +kernel
theorem d_B_bitCount_27 : decode b_B_bitCount 27 = .ok (.lushr, 1) := by decide +kernel
theorem d_B_bitCount_28 : decode b_B_bitCount 28 = .ok (.ladd, 1) := by decide +kernel
theorem d_B_bitCount_29 : decode b_B_bitCount 29 = .ok (.ldc2_w 318, 3) := by decide +kernel
theorem d_B_bitCount_32 : decode b_B_bitCount 32 = .ok (.land, 1) := by decide +kernel
theorem d_B_bitCount_33 : decode b_B_bitCount 33 = .ok (.lstore_n 0, 1) := by decide +kernel
theorem d_B_bitCount_34 : decode b_B_bitCount 34 = .ok (.lload_n 0, 1) := by decide +kernel
theorem d_B_bitCount_35 : decode b_B_bitCount 35 = .ok (.lload_n 0, 1) := by decide +kernel
theorem d_B_bitCount_36 : decode b_B_bitCount 36 = .ok (.bipush 8, 2) := by decide +kernel
theorem d_B_bitCount_38 : decode b_B_bitCount 38 = .ok (.lushr, 1) := by decide +kernel
theorem d_B_bitCount_39 : decode b_B_bitCount 39 = .ok (.ladd, 1) := by decide +kernel
theorem d_B_bitCount_40 : decode b_B_bitCount 40 = .ok (.lstore_n 0, 1) := by decide +kernel
theorem d_B_bitCount_41 : decode b_B_bitCount 41 = .ok (.lload_n 0, 1) := by decide +kernel
theorem d_B_bitCount_42 : decode b_B_bitCount 42 = .ok (.lload_n 0, 1) := by decide +kernel
theorem d_B_bitCount_43 : decode b_B_bitCount 43 = .ok (.bipush 16, 2) := by decide +kernel
theorem d_B_bitCount_45 : decode b_B_bitCount 45 = .ok (.lushr, 1) := by decide +kernel
theorem d_B_bitCount_46 : decode b_B_bitCount 46 = .ok (.ladd, 1) := by decide +kernel
theorem d_B_bitCount_47 : decode b_B_bitCount 47 = .ok (.lstore_n 0, 1) := by decide +kernel
theorem d_B_bitCount_48 : decode b_B_bitCount 48 = .ok (.lload_n 0, 1) := by decide +kernel
theorem d_B_bitCount_49 : decode b_B_bitCount 49 = .ok (.lload_n 0, 1) := by decide +kernel
theorem d_B_bitCount_50 : decode b_B_bitCount 50 = .ok (.bipush 32, 2) := by decide +kernel
theorem d_B_bitCount_52 : decode b_B_bitCount 52 = .ok (.lushr, 1) := by decide +kernel
theorem d_B_bitCount_53 : decode b_B_bitCount 53 = .ok (.ladd, 1) := by decide +kernel
theorem d_B_bitCount_54 : decode b_B_bitCount 54 = .ok (.lstore_n 0, 1) := by decide +kernel
theorem d_B_bitCount_55 : decode b_B_bitCount 55 = .ok (.lload_n 0, 1) := by decide +kernel
theorem d_B_bitCount_56 : decode b_B_bitCount 56 = .ok (.l2i, 1) := by decide +kernel
theorem d_B_bitCount_57 : decode b_B_bitCount 57 = .ok (.bipush 127, 2) := by decide +kernel
theorem d_B_bitCount_59 : decode b_B_bitCount 59 = .ok (.iand, 1) := by decide +kernel
theorem d_B_bitCount_60 : decode b_B_bitCount 60 = .ok (.ireturn, 1) := by decide +kernel
end
section
abbrev b_M_init : ByteArray := prog_4_method_1_code
def y_M_init : MethodName := ⟨"AgedMarksModel", "<init>", "(II)V"⟩
theorem d_M_init_0 : decode b_M_init 0 = .ok (.aload_n 0, 1) := by decide +kernel
theorem d_M_init_1 : decode b_M_init 1 = .ok (.invokespecial 1, 3) := by decide +kernel
theorem d_M_init_4 : decode b_M_init 4 = .ok (.aload_n 0, 1) := by decide +kernel
theorem d_M_init_5 : decode b_M_init 5 = .ok (.iconst 1, 1) := by decide +kernel
theorem d_M_init_6 : decode b_M_init 6 = .ok (.putfield 7, 3) := by decide +kernel
theorem d_M_init_9 : decode b_M_init 9 = .ok (.aload_n 0, 1) := by decide +kernel
theorem d_M_init_10 : decode b_M_init 10 = .ok (.sipush 1200, 3) := by decide +kernel
theorem d_M_init_13 : decode b_M_init 13 = .ok (.newarray .int, 2) := by decide +kernel
theorem d_M_init_15 : decode b_M_init 15 = .ok (.putfield 13, 3) := by decide +kernel
theorem d_M_init_18 : decode b_M_init 18 = .ok (.aload_n 0, 1) := by decide +kernel
theorem d_M_init_19 : decode b_M_init 19 = .ok (.sipush 1200, 3) := by decide +kernel
theorem d_M_init_22 : decode b_M_init 22 = .ok (.newarray .int, 2) := by decide +kernel
theorem d_M_init_24 : decode b_M_init 24 = .ok (.putfield 17, 3) := by decide +kernel
theorem d_M_init_27 : decode b_M_init 27 = .ok (.aload_n 0, 1) := by decide +kernel
theorem d_M_init_28 : decode b_M_init 28 = .ok (.iconst 1, 1) := by decide +kernel
theorem d_M_init_29 : decode b_M_init 29 = .ok (.putfield 20, 3) := by decide +kernel
theorem d_M_init_32 : decode b_M_init 32 = .ok (.aload_n 0, 1) := by decide +kernel
theorem d_M_init_33 : decode b_M_init 33 = .ok (.iload_n 1, 1) := by decide +kernel
theorem d_M_init_34 : decode b_M_init 34 = .ok (.iconst 1, 1) := by decide +kernel
theorem d_M_init_35 : decode b_M_init 35 = .ok (.if_icmp .ge 7, 3) := by decide +kernel
theorem d_M_init_38 : decode b_M_init 38 = .ok (.iconst 1, 1) := by decide +kernel
theorem d_M_init_39 : decode b_M_init 39 = .ok (.goto 17, 3) := by decide +kernel
theorem d_M_init_42 : decode b_M_init 42 = .ok (.iload_n 1, 1) := by decide +kernel
theorem d_M_init_43 : decode b_M_init 43 = .ok (.sipush 1000, 3) := by decide +kernel
theorem d_M_init_46 : decode b_M_init 46 = .ok (.if_icmp .le 9, 3) := by decide +kernel
theorem d_M_init_49 : decode b_M_init 49 = .ok (.sipush 1000, 3) := by decide +kernel
theorem d_M_init_52 : decode b_M_init 52 = .ok (.goto 4, 3) := by decide +kernel
theorem d_M_init_55 : decode b_M_init 55 = .ok (.iload_n 1, 1) := by decide +kernel
theorem d_M_init_56 : decode b_M_init 56 = .ok (.putfield 23, 3) := by decide +kernel
theorem d_M_init_59 : decode b_M_init 59 = .ok (.aload_n 0, 1) := by decide +kernel
theorem d_M_init_60 : decode b_M_init 60 = .ok (.iload_n 2, 1) := by decide +kernel
theorem d_M_init_61 : decode b_M_init 61 = .ok (.iconst 2, 1) := by decide +kernel
theorem d_M_init_62 : decode b_M_init 62 = .ok (.if_icmp .ge 7, 3) := by decide +kernel
theorem d_M_init_65 : decode b_M_init 65 = .ok (.iconst 2, 1) := by decide +kernel
theorem d_M_init_66 : decode b_M_init 66 = .ok (.goto 15, 3) := by decide +kernel
theorem d_M_init_69 : decode b_M_init 69 = .ok (.iload_n 2, 1) := by decide +kernel
theorem d_M_init_70 : decode b_M_init 70 = .ok (.bipush 16, 2) := by decide +kernel
theorem d_M_init_72 : decode b_M_init 72 = .ok (.if_icmp .le 8, 3) := by decide +kernel
theorem d_M_init_75 : decode b_M_init 75 = .ok (.bipush 16, 2) := by decide +kernel
theorem d_M_init_77 : decode b_M_init 77 = .ok (.goto 4, 3) := by decide +kernel
theorem d_M_init_80 : decode b_M_init 80 = .ok (.iload_n 2, 1) := by decide +kernel
theorem d_M_init_81 : decode b_M_init 81 = .ok (.putfield 26, 3) := by decide +kernel
theorem d_M_init_84 : decode b_M_init 84 = .ok (.return_, 1) := by decide +kernel
abbrev b_M_thrown : ByteArray := prog_4_method_2_code
def y_M_thrown : MethodName := ⟨"AgedMarksModel", "thrown", "()I"⟩
theorem d_M_thrown_0 : decode b_M_thrown 0 = .ok (.aload_n 0, 1) := by decide +kernel
theorem d_M_thrown_1 : decode b_M_thrown 1 = .ok (.getfield 29, 3) := by decide +kernel
theorem d_M_thrown_4 : decode b_M_thrown 4 = .ok (.ireturn, 1) := by decide +kernel
abbrev b_M_fails : ByteArray := prog_4_method_3_code
def y_M_fails : MethodName := ⟨"AgedMarksModel", "fails", "(ZZ)Z"⟩
theorem d_M_fails_0 : decode b_M_fails 0 = .ok (.aload_n 0, 1) := by decide +kernel
theorem d_M_fails_1 : decode b_M_fails 1 = .ok (.iload_n 1, 1) := by decide +kernel
theorem d_M_fails_2 : decode b_M_fails 2 = .ok (.ifCond .eq 7, 3) := by decide +kernel
theorem d_M_fails_5 : decode b_M_fails 5 = .ok (.iconst 1, 1) := by decide +kernel
theorem d_M_fails_6 : decode b_M_fails 6 = .ok (.goto 12, 3) := by decide +kernel
theorem d_M_fails_9 : decode b_M_fails 9 = .ok (.iload_n 2, 1) := by decide +kernel
theorem d_M_fails_10 : decode b_M_fails 10 = .ok (.ifCond .eq 7, 3) := by decide +kernel
theorem d_M_fails_13 : decode b_M_fails 13 = .ok (.iconst 2, 1) := by decide +kernel
theorem d_M_fails_14 : decode b_M_fails 14 = .ok (.goto 4, 3) := by decide +kernel
theorem d_M_fails_17 : decode b_M_fails 17 = .ok (.iconst 0, 1) := by decide +kernel
theorem d_M_fails_18 : decode b_M_fails 18 = .ok (.putfield 29, 3) := by decide +kernel
theorem d_M_fails_21 : decode b_M_fails 21 = .ok (.aload_n 0, 1) := by decide +kernel
theorem d_M_fails_22 : decode b_M_fails 22 = .ok (.getfield 29, 3) := by decide +kernel
theorem d_M_fails_25 : decode b_M_fails 25 = .ok (.ifCond .le 7, 3) := by decide +kernel
theorem d_M_fails_28 : decode b_M_fails 28 = .ok (.iconst 1, 1) := by decide +kernel
theorem d_M_fails_29 : decode b_M_fails 29 = .ok (.goto 4, 3) := by decide +kernel
theorem d_M_fails_32 : decode b_M_fails 32 = .ok (.iconst 0, 1) := by decide +kernel
theorem d_M_fails_33 : decode b_M_fails 33 = .ok (.ireturn, 1) := by decide +kernel
abbrev b_M_freeSlot : ByteArray := prog_4_method_4_code
def y_M_freeSlot : MethodName := ⟨"AgedMarksModel", "freeSlot", "()I"⟩
theorem d_M_freeSlot_0 : decode b_M_freeSlot 0 = .ok (.iconst 0, 1) := by decide +kernel
theorem d_M_freeSlot_1 : decode b_M_freeSlot 1 = .ok (.istore_n 1, 1) := by decide +kernel
theorem d_M_freeSlot_2 : decode b_M_freeSlot 2 = .ok (.iconst 1, 1) := by decide +kernel
theorem d_M_freeSlot_3 : decode b_M_freeSlot 3 = .ok (.istore_n 2, 1) := by decide +kernel
theorem d_M_freeSlot_4 : decode b_M_freeSlot 4 = .ok (.iload_n 2, 1) := by decide +kernel
theorem d_M_freeSlot_5 : decode b_M_freeSlot 5 = .ok (.ifCond .eq 47, 3) := by decide +kernel
theorem d_M_freeSlot_8 : decode b_M_freeSlot 8 = .ok (.iconst 0, 1) := by decide +kernel
theorem d_M_freeSlot_9 : decode b_M_freeSlot 9 = .ok (.istore_n 2, 1) := by decide +kernel
theorem d_M_freeSlot_10 : decode b_M_freeSlot 10 = .ok (.iconst 0, 1) := by decide +kernel
theorem d_M_freeSlot_11 : decode b_M_freeSlot 11 = .ok (.istore_n 3, 1) := by decide +kernel
theorem d_M_freeSlot_12 : decode b_M_freeSlot 12 = .ok (.iload_n 3, 1) := by decide +kernel
theorem d_M_freeSlot_13 : decode b_M_freeSlot 13 = .ok (.aload_n 0, 1) := by decide +kernel
theorem d_M_freeSlot_14 : decode b_M_freeSlot 14 = .ok (.getfield 7, 3) := by decide +kernel
theorem d_M_freeSlot_17 : decode b_M_freeSlot 17 = .ok (.if_icmp .ge 29, 3) := by decide +kernel
theorem d_M_freeSlot_20 : decode b_M_freeSlot 20 = .ok (.iload_n 2, 1) := by decide +kernel
theorem d_M_freeSlot_21 : decode b_M_freeSlot 21 = .ok (.ifCond .ne 13, 3) := by decide +kernel
theorem d_M_freeSlot_24 : decode b_M_freeSlot 24 = .ok (.aload_n 0, 1) := by decide +kernel
theorem d_M_freeSlot_25 : decode b_M_freeSlot 25 = .ok (.getfield 17, 3) := by decide +kernel
theorem d_M_freeSlot_28 : decode b_M_freeSlot 28 = .ok (.iload_n 3, 1) := by decide +kernel
theorem d_M_freeSlot_29 : decode b_M_freeSlot 29 = .ok (.iaload, 1) := by decide +kernel
theorem d_M_freeSlot_30 : decode b_M_freeSlot 30 = .ok (.iload_n 1, 1) := by decide +kernel
theorem d_M_freeSlot_31 : decode b_M_freeSlot 31 = .ok (.if_icmp .ne 7, 3) := by decide +kernel
theorem d_M_freeSlot_34 : decode b_M_freeSlot 34 = .ok (.iconst 1, 1) := by decide +kernel
theorem d_M_freeSlot_35 : decode b_M_freeSlot 35 = .ok (.goto 4, 3) := by decide +kernel
theorem d_M_freeSlot_38 : decode b_M_freeSlot 38 = .ok (.iconst 0, 1) := by decide +kernel
theorem d_M_freeSlot_39 : decode b_M_freeSlot 39 = .ok (.istore_n 2, 1) := by decide +kernel
theorem d_M_freeSlot_40 : decode b_M_freeSlot 40 = .ok (.iinc 3 1, 3) := by decide +kernel
theorem d_M_freeSlot_43 : decode b_M_freeSlot 43 = .ok (.goto (-31), 3) := by decide +kernel
theorem d_M_freeSlot_46 : decode b_M_freeSlot 46 = .ok (.iinc 1 1, 3) := by decide +kernel
theorem d_M_freeSlot_49 : decode b_M_freeSlot 49 = .ok (.goto (-45), 3) := by decide +kernel
theorem d_M_freeSlot_52 : decode b_M_freeSlot 52 = .ok (.iload_n 1, 1) := by decide +kernel
theorem d_M_freeSlot_53 : decode b_M_freeSlot 53 = .ok (.iconst 1, 1) := by decide +kernel
theorem d_M_freeSlot_54 : decode b_M_freeSlot 54 = .ok (.isub, 1) := by decide +kernel
theorem d_M_freeSlot_55 : decode b_M_freeSlot 55 = .ok (.ireturn, 1) := by decide +kernel
abbrev b_M_stays : ByteArray := prog_4_method_5_code
def y_M_stays : MethodName := ⟨"AgedMarksModel", "stays", "(II)Z"⟩
theorem d_M_stays_0 : decode b_M_stays 0 = .ok (.iconst 1, 1) := by decide +kernel
theorem d_M_stays_1 : decode b_M_stays 1 = .ok (.istore_n 3, 1) := by decide +kernel
theorem d_M_stays_2 : decode b_M_stays 2 = .ok (.aload_n 0, 1) := by decide +kernel
theorem d_M_stays_3 : decode b_M_stays 3 = .ok (.getfield 26, 3) := by decide +kernel
theorem d_M_stays_6 : decode b_M_stays 6 = .ok (.i2l, 1) := by decide +kernel
theorem d_M_stays_7 : decode b_M_stays 7 = .ok (.iload_n 3, 1) := by decide +kernel
theorem d_M_stays_8 : decode b_M_stays 8 = .ok (.i2l, 1) := by decide +kernel
theorem d_M_stays_9 : decode b_M_stays 9 = .ok (.lmul, 1) := by decide +kernel
theorem d_M_stays_10 : decode b_M_stays 10 = .ok (.ldc2_w 32, 3) := by decide +kernel
theorem d_M_stays_13 : decode b_M_stays 13 = .ok (.lmul, 1) := by decide +kernel
theorem d_M_stays_14 : decode b_M_stays 14 = .ok (.iload_n 2, 1) := by decide +kernel
theorem d_M_stays_15 : decode b_M_stays 15 = .ok (.iload_n 1, 1) := by decide +kernel
theorem d_M_stays_16 : decode b_M_stays 16 = .ok (.isub, 1) := by decide +kernel
theorem d_M_stays_17 : decode b_M_stays 17 = .ok (.i2l, 1) := by decide +kernel
theorem d_M_stays_18 : decode b_M_stays 18 = .ok (.lcmp, 1) := by decide +kernel
theorem d_M_stays_19 : decode b_M_stays 19 = .ok (.ifCond .gt 10, 3) := by decide +kernel
theorem d_M_stays_22 : decode b_M_stays 22 = .ok (.iload_n 3, 1) := by decide +kernel
theorem d_M_stays_23 : decode b_M_stays 23 = .ok (.iconst 2, 1) := by decide +kernel
theorem d_M_stays_24 : decode b_M_stays 24 = .ok (.imul, 1) := by decide +kernel
theorem d_M_stays_25 : decode b_M_stays 25 = .ok (.istore_n 3, 1) := by decide +kernel
theorem d_M_stays_26 : decode b_M_stays 26 = .ok (.goto (-24), 3) := by decide +kernel
theorem d_M_stays_29 : decode b_M_stays 29 = .ok (.iload_n 1, 1) := by decide +kernel
theorem d_M_stays_30 : decode b_M_stays 30 = .ok (.iload_n 3, 1) := by decide +kernel
theorem d_M_stays_31 : decode b_M_stays 31 = .ok (.irem, 1) := by decide +kernel
theorem d_M_stays_32 : decode b_M_stays 32 = .ok (.ifCond .ne 7, 3) := by decide +kernel
theorem d_M_stays_35 : decode b_M_stays 35 = .ok (.iconst 1, 1) := by decide +kernel
theorem d_M_stays_36 : decode b_M_stays 36 = .ok (.goto 4, 3) := by decide +kernel
theorem d_M_stays_39 : decode b_M_stays 39 = .ok (.iconst 0, 1) := by decide +kernel
theorem d_M_stays_40 : decode b_M_stays 40 = .ok (.ireturn, 1) := by decide +kernel
abbrev b_M_lay : ByteArray := prog_4_method_6_code
def y_M_lay : MethodName := ⟨"AgedMarksModel", "lay", "(I)V"⟩
theorem d_M_lay_0 : decode b_M_lay 0 = .ok (.aload_n 0, 1) := by decide +kernel
theorem d_M_lay_1 : decode b_M_lay 1 = .ok (.invokevirtual 34, 3) := by decide +kernel
theorem d_M_lay_4 : decode b_M_lay 4 = .ok (.istore_n 2, 1) := by decide +kernel
theorem d_M_lay_5 : decode b_M_lay 5 = .ok (.iconst 0, 1) := by decide +kernel
theorem d_M_lay_6 : decode b_M_lay 6 = .ok (.istore_n 3, 1) := by decide +kernel
theorem d_M_lay_7 : decode b_M_lay 7 = .ok (.iconst 0, 1) := by decide +kernel
theorem d_M_lay_8 : decode b_M_lay 8 = .ok (.istore 4, 2) := by decide +kernel
theorem d_M_lay_10 : decode b_M_lay 10 = .ok (.iload 4, 2) := by decide +kernel
theorem d_M_lay_12 : decode b_M_lay 12 = .ok (.aload_n 0, 1) := by decide +kernel
theorem d_M_lay_13 : decode b_M_lay 13 = .ok (.getfield 7, 3) := by decide +kernel
theorem d_M_lay_16 : decode b_M_lay 16 = .ok (.if_icmp .ge 56, 3) := by decide +kernel
theorem d_M_lay_19 : decode b_M_lay 19 = .ok (.aload_n 0, 1) := by decide +kernel
theorem d_M_lay_20 : decode b_M_lay 20 = .ok (.aload_n 0, 1) := by decide +kernel
theorem d_M_lay_21 : decode b_M_lay 21 = .ok (.getfield 13, 3) := by decide +kernel
theorem d_M_lay_24 : decode b_M_lay 24 = .ok (.iload 4, 2) := by decide +kernel
theorem d_M_lay_26 : decode b_M_lay 26 = .ok (.iaload, 1) := by decide +kernel
theorem d_M_lay_27 : decode b_M_lay 27 = .ok (.iload_n 1, 1) := by decide +kernel
theorem d_M_lay_28 : decode b_M_lay 28 = .ok (.invokevirtual 38, 3) := by decide +kernel
theorem d_M_lay_31 : decode b_M_lay 31 = .ok (.ifCond .ne 6, 3) := by decide +kernel
theorem d_M_lay_34 : decode b_M_lay 34 = .ok (.goto 32, 3) := by decide +kernel
theorem d_M_lay_37 : decode b_M_lay 37 = .ok (.aload_n 0, 1) := by decide +kernel
theorem d_M_lay_38 : decode b_M_lay 38 = .ok (.getfield 13, 3) := by decide +kernel
theorem d_M_lay_41 : decode b_M_lay 41 = .ok (.iload_n 3, 1) := by decide +kernel
theorem d_M_lay_42 : decode b_M_lay 42 = .ok (.aload_n 0, 1) := by decide +kernel
theorem d_M_lay_43 : decode b_M_lay 43 = .ok (.getfield 13, 3) := by decide +kernel
theorem d_M_lay_46 : decode b_M_lay 46 = .ok (.iload 4, 2) := by decide +kernel
theorem d_M_lay_48 : decode b_M_lay 48 = .ok (.iaload, 1) := by decide +kernel
theorem d_M_lay_49 : decode b_M_lay 49 = .ok (.iastore, 1) := by decide +kernel
theorem d_M_lay_50 : decode b_M_lay 50 = .ok (.aload_n 0, 1) := by decide +kernel
theorem d_M_lay_51 : decode b_M_lay 51 = .ok (.getfield 17, 3) := by decide +kernel
theorem d_M_lay_54 : decode b_M_lay 54 = .ok (.iload_n 3, 1) := by decide +kernel
theorem d_M_lay_55 : decode b_M_lay 55 = .ok (.aload_n 0, 1) := by decide +kernel
theorem d_M_lay_56 : decode b_M_lay 56 = .ok (.getfield 17, 3) := by decide +kernel
theorem d_M_lay_59 : decode b_M_lay 59 = .ok (.iload 4, 2) := by decide +kernel
theorem d_M_lay_61 : decode b_M_lay 61 = .ok (.iaload, 1) := by decide +kernel
theorem d_M_lay_62 : decode b_M_lay 62 = .ok (.iastore, 1) := by decide +kernel
theorem d_M_lay_63 : decode b_M_lay 63 = .ok (.iinc 3 1, 3) := by decide +kernel
theorem d_M_lay_66 : decode b_M_lay 66 = .ok (.iinc 4 1, 3) := by decide +kernel
theorem d_M_lay_69 : decode b_M_lay 69 = .ok (.goto (-59), 3) := by decide +kernel
theorem d_M_lay_72 : decode b_M_lay 72 = .ok (.aload_n 0, 1) := by decide +kernel
theorem d_M_lay_73 : decode b_M_lay 73 = .ok (.dup, 1) := by decide +kernel
theorem d_M_lay_74 : decode b_M_lay 74 = .ok (.getfield 42, 3) := by decide +kernel
theorem d_M_lay_77 : decode b_M_lay 77 = .ok (.aload_n 0, 1) := by decide +kernel
theorem d_M_lay_78 : decode b_M_lay 78 = .ok (.getfield 7, 3) := by decide +kernel
theorem d_M_lay_81 : decode b_M_lay 81 = .ok (.iload_n 3, 1) := by decide +kernel
theorem d_M_lay_82 : decode b_M_lay 82 = .ok (.isub, 1) := by decide +kernel
theorem d_M_lay_83 : decode b_M_lay 83 = .ok (.i2l, 1) := by decide +kernel
theorem d_M_lay_84 : decode b_M_lay 84 = .ok (.ladd, 1) := by decide +kernel
theorem d_M_lay_85 : decode b_M_lay 85 = .ok (.putfield 42, 3) := by decide +kernel
theorem d_M_lay_88 : decode b_M_lay 88 = .ok (.aload_n 0, 1) := by decide +kernel
theorem d_M_lay_89 : decode b_M_lay 89 = .ok (.getfield 13, 3) := by decide +kernel
theorem d_M_lay_92 : decode b_M_lay 92 = .ok (.iload_n 3, 1) := by decide +kernel
theorem d_M_lay_93 : decode b_M_lay 93 = .ok (.iload_n 1, 1) := by decide +kernel
theorem d_M_lay_94 : decode b_M_lay 94 = .ok (.iastore, 1) := by decide +kernel
theorem d_M_lay_95 : decode b_M_lay 95 = .ok (.aload_n 0, 1) := by decide +kernel
theorem d_M_lay_96 : decode b_M_lay 96 = .ok (.getfield 17, 3) := by decide +kernel
theorem d_M_lay_99 : decode b_M_lay 99 = .ok (.iload_n 3, 1) := by decide +kernel
theorem d_M_lay_100 : decode b_M_lay 100 = .ok (.iload_n 2, 1) := by decide +kernel
theorem d_M_lay_101 : decode b_M_lay 101 = .ok (.iastore, 1) := by decide +kernel
theorem d_M_lay_102 : decode b_M_lay 102 = .ok (.aload_n 0, 1) := by decide +kernel
theorem d_M_lay_103 : decode b_M_lay 103 = .ok (.iload_n 3, 1) := by decide +kernel
theorem d_M_lay_104 : decode b_M_lay 104 = .ok (.iconst 1, 1) := by decide +kernel
theorem d_M_lay_105 : decode b_M_lay 105 = .ok (.iadd, 1) := by decide +kernel
theorem d_M_lay_106 : decode b_M_lay 106 = .ok (.putfield 7, 3) := by decide +kernel
theorem d_M_lay_109 : decode b_M_lay 109 = .ok (.aload_n 0, 1) := by decide +kernel
theorem d_M_lay_110 : decode b_M_lay 110 = .ok (.dup, 1) := by decide +kernel
theorem d_M_lay_111 : decode b_M_lay 111 = .ok (.getfield 46, 3) := by decide +kernel
theorem d_M_lay_114 : decode b_M_lay 114 = .ok (.lconst 1, 1) := by decide +kernel
theorem d_M_lay_115 : decode b_M_lay 115 = .ok (.ladd, 1) := by decide +kernel
theorem d_M_lay_116 : decode b_M_lay 116 = .ok (.putfield 46, 3) := by decide +kernel
theorem d_M_lay_119 : decode b_M_lay 119 = .ok (.aload_n 0, 1) := by decide +kernel
theorem d_M_lay_120 : decode b_M_lay 120 = .ok (.aload_n 0, 1) := by decide +kernel
theorem d_M_lay_121 : decode b_M_lay 121 = .ok (.getfield 7, 3) := by decide +kernel
theorem d_M_lay_124 : decode b_M_lay 124 = .ok (.aload_n 0, 1) := by decide +kernel
theorem d_M_lay_125 : decode b_M_lay 125 = .ok (.getfield 20, 3) := by decide +kernel
theorem d_M_lay_128 : decode b_M_lay 128 = .ok (.if_icmp .le 10, 3) := by decide +kernel
theorem d_M_lay_131 : decode b_M_lay 131 = .ok (.aload_n 0, 1) := by decide +kernel
theorem d_M_lay_132 : decode b_M_lay 132 = .ok (.getfield 7, 3) := by decide +kernel
theorem d_M_lay_135 : decode b_M_lay 135 = .ok (.goto 7, 3) := by decide +kernel
theorem d_M_lay_138 : decode b_M_lay 138 = .ok (.aload_n 0, 1) := by decide +kernel
theorem d_M_lay_139 : decode b_M_lay 139 = .ok (.getfield 20, 3) := by decide +kernel
theorem d_M_lay_142 : decode b_M_lay 142 = .ok (.putfield 20, 3) := by decide +kernel
theorem d_M_lay_145 : decode b_M_lay 145 = .ok (.return_, 1) := by decide +kernel
abbrev b_M_run : ByteArray := prog_4_method_7_code
def y_M_run : MethodName := ⟨"AgedMarksModel", "run", "(I)I"⟩
theorem d_M_run_0 : decode b_M_run 0 = .ok (.aload_n 0, 1) := by decide +kernel
theorem d_M_run_1 : decode b_M_run 1 = .ok (.iload_n 1, 1) := by decide +kernel
theorem d_M_run_2 : decode b_M_run 2 = .ok (.ifCond .lt 10, 3) := by decide +kernel
theorem d_M_run_5 : decode b_M_run 5 = .ok (.iload_n 1, 1) := by decide +kernel
theorem d_M_run_6 : decode b_M_run 6 = .ok (.sipush 4000, 3) := by decide +kernel
theorem d_M_run_9 : decode b_M_run 9 = .ok (.if_icmp .le 7, 3) := by decide +kernel
theorem d_M_run_12 : decode b_M_run 12 = .ok (.iconst 1, 1) := by decide +kernel
theorem d_M_run_13 : decode b_M_run 13 = .ok (.goto 4, 3) := by decide +kernel
theorem d_M_run_16 : decode b_M_run 16 = .ok (.iconst 0, 1) := by decide +kernel
theorem d_M_run_17 : decode b_M_run 17 = .ok (.iload_n 1, 1) := by decide +kernel
theorem d_M_run_18 : decode b_M_run 18 = .ok (.ifCond .lt 34, 3) := by decide +kernel
theorem d_M_run_21 : decode b_M_run 21 = .ok (.iload_n 1, 1) := by decide +kernel
theorem d_M_run_22 : decode b_M_run 22 = .ok (.sipush 4000, 3) := by decide +kernel
theorem d_M_run_25 : decode b_M_run 25 = .ok (.if_icmp .gt 27, 3) := by decide +kernel
theorem d_M_run_28 : decode b_M_run 28 = .ok (.aload_n 0, 1) := by decide +kernel
theorem d_M_run_29 : decode b_M_run 29 = .ok (.getfield 49, 3) := by decide +kernel
theorem d_M_run_32 : decode b_M_run 32 = .ok (.iload_n 1, 1) := by decide +kernel
theorem d_M_run_33 : decode b_M_run 33 = .ok (.i2l, 1) := by decide +kernel
theorem d_M_run_34 : decode b_M_run 34 = .ok (.ladd, 1) := by decide +kernel
theorem d_M_run_35 : decode b_M_run 35 = .ok (.ldc2_w 52, 3) := by decide +kernel
theorem d_M_run_38 : decode b_M_run 38 = .ok (.aload_n 0, 1) := by decide +kernel
theorem d_M_run_39 : decode b_M_run 39 = .ok (.getfield 23, 3) := by decide +kernel
theorem d_M_run_42 : decode b_M_run 42 = .ok (.i2l, 1) := by decide +kernel
theorem d_M_run_43 : decode b_M_run 43 = .ok (.lmul, 1) := by decide +kernel
theorem d_M_run_44 : decode b_M_run 44 = .ok (.lcmp, 1) := by decide +kernel
theorem d_M_run_45 : decode b_M_run 45 = .ok (.ifCond .le 7, 3) := by decide +kernel
theorem d_M_run_48 : decode b_M_run 48 = .ok (.iconst 1, 1) := by decide +kernel
theorem d_M_run_49 : decode b_M_run 49 = .ok (.goto 4, 3) := by decide +kernel
theorem d_M_run_52 : decode b_M_run 52 = .ok (.iconst 0, 1) := by decide +kernel
theorem d_M_run_53 : decode b_M_run 53 = .ok (.invokevirtual 54, 3) := by decide +kernel
theorem d_M_run_56 : decode b_M_run 56 = .ok (.ifCond .eq 5, 3) := by decide +kernel
theorem d_M_run_59 : decode b_M_run 59 = .ok (.iconst 0, 1) := by decide +kernel
theorem d_M_run_60 : decode b_M_run 60 = .ok (.ireturn, 1) := by decide +kernel
theorem d_M_run_61 : decode b_M_run 61 = .ok (.aload_n 0, 1) := by decide +kernel
theorem d_M_run_62 : decode b_M_run 62 = .ok (.dup, 1) := by decide +kernel
theorem d_M_run_63 : decode b_M_run 63 = .ok (.getfield 49, 3) := by decide +kernel
theorem d_M_run_66 : decode b_M_run 66 = .ok (.iload_n 1, 1) := by decide +kernel
theorem d_M_run_67 : decode b_M_run 67 = .ok (.i2l, 1) := by decide +kernel
theorem d_M_run_68 : decode b_M_run 68 = .ok (.ladd, 1) := by decide +kernel
theorem d_M_run_69 : decode b_M_run 69 = .ok (.putfield 49, 3) := by decide +kernel
theorem d_M_run_72 : decode b_M_run 72 = .ok (.iconst 0, 1) := by decide +kernel
theorem d_M_run_73 : decode b_M_run 73 = .ok (.istore_n 2, 1) := by decide +kernel
theorem d_M_run_74 : decode b_M_run 74 = .ok (.aload_n 0, 1) := by decide +kernel
theorem d_M_run_75 : decode b_M_run 75 = .ok (.getfield 58, 3) := by decide +kernel
theorem d_M_run_78 : decode b_M_run 78 = .ok (.aload_n 0, 1) := by decide +kernel
theorem d_M_run_79 : decode b_M_run 79 = .ok (.getfield 49, 3) := by decide +kernel
theorem d_M_run_82 : decode b_M_run 82 = .ok (.lcmp, 1) := by decide +kernel
theorem d_M_run_83 : decode b_M_run 83 = .ok (.ifCond .ge 52, 3) := by decide +kernel
theorem d_M_run_86 : decode b_M_run 86 = .ok (.aload_n 0, 1) := by decide +kernel
theorem d_M_run_87 : decode b_M_run 87 = .ok (.dup, 1) := by decide +kernel
theorem d_M_run_88 : decode b_M_run 88 = .ok (.getfield 58, 3) := by decide +kernel
theorem d_M_run_91 : decode b_M_run 91 = .ok (.lconst 1, 1) := by decide +kernel
theorem d_M_run_92 : decode b_M_run 92 = .ok (.ladd, 1) := by decide +kernel
theorem d_M_run_93 : decode b_M_run 93 = .ok (.putfield 58, 3) := by decide +kernel
theorem d_M_run_96 : decode b_M_run 96 = .ok (.aload_n 0, 1) := by decide +kernel
theorem d_M_run_97 : decode b_M_run 97 = .ok (.getfield 58, 3) := by decide +kernel
theorem d_M_run_100 : decode b_M_run 100 = .ok (.aload_n 0, 1) := by decide +kernel
theorem d_M_run_101 : decode b_M_run 101 = .ok (.getfield 23, 3) := by decide +kernel
theorem d_M_run_104 : decode b_M_run 104 = .ok (.i2l, 1) := by decide +kernel
theorem d_M_run_105 : decode b_M_run 105 = .ok (.lrem, 1) := by decide +kernel
theorem d_M_run_106 : decode b_M_run 106 = .ok (.lconst 0, 1) := by decide +kernel
theorem d_M_run_107 : decode b_M_run 107 = .ok (.lcmp, 1) := by decide +kernel
theorem d_M_run_108 : decode b_M_run 108 = .ok (.ifCond .eq 6, 3) := by decide +kernel
theorem d_M_run_111 : decode b_M_run 111 = .ok (.goto (-37), 3) := by decide +kernel
theorem d_M_run_114 : decode b_M_run 114 = .ok (.aload_n 0, 1) := by decide +kernel
theorem d_M_run_115 : decode b_M_run 115 = .ok (.aload_n 0, 1) := by decide +kernel
theorem d_M_run_116 : decode b_M_run 116 = .ok (.getfield 58, 3) := by decide +kernel
theorem d_M_run_119 : decode b_M_run 119 = .ok (.aload_n 0, 1) := by decide +kernel
theorem d_M_run_120 : decode b_M_run 120 = .ok (.getfield 23, 3) := by decide +kernel
theorem d_M_run_123 : decode b_M_run 123 = .ok (.i2l, 1) := by decide +kernel
theorem d_M_run_124 : decode b_M_run 124 = .ok (.ldiv, 1) := by decide +kernel
theorem d_M_run_125 : decode b_M_run 125 = .ok (.l2i, 1) := by decide +kernel
theorem d_M_run_126 : decode b_M_run 126 = .ok (.invokevirtual 61, 3) := by decide +kernel
theorem d_M_run_129 : decode b_M_run 129 = .ok (.iinc 2 1, 3) := by decide +kernel
theorem d_M_run_132 : decode b_M_run 132 = .ok (.goto (-58), 3) := by decide +kernel
theorem d_M_run_135 : decode b_M_run 135 = .ok (.iload_n 2, 1) := by decide +kernel
theorem d_M_run_136 : decode b_M_run 136 = .ok (.ireturn, 1) := by decide +kernel
abbrev b_M_cost : ByteArray := prog_4_method_8_code
def y_M_cost : MethodName := ⟨"AgedMarksModel", "cost", "(J)J"⟩
theorem d_M_cost_0 : decode b_M_cost 0 = .ok (.aload_n 0, 1) := by decide +kernel
theorem d_M_cost_1 : decode b_M_cost 1 = .ok (.getfield 7, 3) := by decide +kernel
theorem d_M_cost_4 : decode b_M_cost 4 = .ok (.iconst 1, 1) := by decide +kernel
theorem d_M_cost_5 : decode b_M_cost 5 = .ok (.isub, 1) := by decide +kernel
theorem d_M_cost_6 : decode b_M_cost 6 = .ok (.istore_n 3, 1) := by decide +kernel
theorem d_M_cost_7 : decode b_M_cost 7 = .ok (.aload_n 0, 1) := by decide +kernel
theorem d_M_cost_8 : decode b_M_cost 8 = .ok (.getfield 13, 3) := by decide +kernel
theorem d_M_cost_11 : decode b_M_cost 11 = .ok (.iload_n 3, 1) := by decide +kernel
theorem d_M_cost_12 : decode b_M_cost 12 = .ok (.iaload, 1) := by decide +kernel
theorem d_M_cost_13 : decode b_M_cost 13 = .ok (.i2l, 1) := by decide +kernel
theorem d_M_cost_14 : decode b_M_cost 14 = .ok (.aload_n 0, 1) := by decide +kernel
theorem d_M_cost_15 : decode b_M_cost 15 = .ok (.getfield 23, 3) := by decide +kernel
theorem d_M_cost_18 : decode b_M_cost 18 = .ok (.i2l, 1) := by decide +kernel
theorem d_M_cost_19 : decode b_M_cost 19 = .ok (.lmul, 1) := by decide +kernel
theorem d_M_cost_20 : decode b_M_cost 20 = .ok (.lload_n 1, 1) := by decide +kernel
theorem d_M_cost_21 : decode b_M_cost 21 = .ok (.lcmp, 1) := by decide +kernel
theorem d_M_cost_22 : decode b_M_cost 22 = .ok (.ifCond .le 9, 3) := by decide +kernel
theorem d_M_cost_25 : decode b_M_cost 25 = .ok (.iinc 3 (-1), 3) := by decide +kernel
theorem d_M_cost_28 : decode b_M_cost 28 = .ok (.goto (-21), 3) := by decide +kernel
theorem d_M_cost_31 : decode b_M_cost 31 = .ok (.lload_n 1, 1) := by decide +kernel
theorem d_M_cost_32 : decode b_M_cost 32 = .ok (.aload_n 0, 1) := by decide +kernel
theorem d_M_cost_33 : decode b_M_cost 33 = .ok (.getfield 13, 3) := by decide +kernel
theorem d_M_cost_36 : decode b_M_cost 36 = .ok (.iload_n 3, 1) := by decide +kernel
theorem d_M_cost_37 : decode b_M_cost 37 = .ok (.iaload, 1) := by decide +kernel
theorem d_M_cost_38 : decode b_M_cost 38 = .ok (.i2l, 1) := by decide +kernel
theorem d_M_cost_39 : decode b_M_cost 39 = .ok (.aload_n 0, 1) := by decide +kernel
theorem d_M_cost_40 : decode b_M_cost 40 = .ok (.getfield 23, 3) := by decide +kernel
theorem d_M_cost_43 : decode b_M_cost 43 = .ok (.i2l, 1) := by decide +kernel
theorem d_M_cost_44 : decode b_M_cost 44 = .ok (.lmul, 1) := by decide +kernel
theorem d_M_cost_45 : decode b_M_cost 45 = .ok (.lsub, 1) := by decide +kernel
theorem d_M_cost_46 : decode b_M_cost 46 = .ok (.lreturn, 1) := by decide +kernel
abbrev b_M_to : ByteArray := prog_4_method_9_code
def y_M_to : MethodName := ⟨"AgedMarksModel", "to", "(J)J"⟩
theorem d_M_to_0 : decode b_M_to 0 = .ok (.aload_n 0, 1) := by decide +kernel
theorem d_M_to_1 : decode b_M_to 1 = .ok (.lload_n 1, 1) := by decide +kernel
theorem d_M_to_2 : decode b_M_to 2 = .ok (.putfield 49, 3) := by decide +kernel
theorem d_M_to_5 : decode b_M_to 5 = .ok (.aload_n 0, 1) := by decide +kernel
theorem d_M_to_6 : decode b_M_to 6 = .ok (.lload_n 1, 1) := by decide +kernel
theorem d_M_to_7 : decode b_M_to 7 = .ok (.invokevirtual 65, 3) := by decide +kernel
theorem d_M_to_10 : decode b_M_to 10 = .ok (.lstore_n 3, 1) := by decide +kernel
theorem d_M_to_11 : decode b_M_to 11 = .ok (.aload_n 0, 1) := by decide +kernel
theorem d_M_to_12 : decode b_M_to 12 = .ok (.dup, 1) := by decide +kernel
theorem d_M_to_13 : decode b_M_to 13 = .ok (.getfield 69, 3) := by decide +kernel
theorem d_M_to_16 : decode b_M_to 16 = .ok (.lload_n 3, 1) := by decide +kernel
theorem d_M_to_17 : decode b_M_to 17 = .ok (.ladd, 1) := by decide +kernel
theorem d_M_to_18 : decode b_M_to 18 = .ok (.putfield 69, 3) := by decide +kernel
theorem d_M_to_21 : decode b_M_to 21 = .ok (.lload_n 3, 1) := by decide +kernel
theorem d_M_to_22 : decode b_M_to 22 = .ok (.lreturn, 1) := by decide +kernel
abbrev b_M_go : ByteArray := prog_4_method_10_code
def y_M_go : MethodName := ⟨"AgedMarksModel", "go", "(J)J"⟩
theorem d_M_go_0 : decode b_M_go 0 = .ok (.aload_n 0, 1) := by decide +kernel
theorem d_M_go_1 : decode b_M_go 1 = .ok (.lload_n 1, 1) := by decide +kernel
theorem d_M_go_2 : decode b_M_go 2 = .ok (.lconst 0, 1) := by decide +kernel
theorem d_M_go_3 : decode b_M_go 3 = .ok (.lcmp, 1) := by decide +kernel
theorem d_M_go_4 : decode b_M_go 4 = .ok (.ifCond .lt 12, 3) := by decide +kernel
theorem d_M_go_7 : decode b_M_go 7 = .ok (.lload_n 1, 1) := by decide +kernel
theorem d_M_go_8 : decode b_M_go 8 = .ok (.aload_n 0, 1) := by decide +kernel
theorem d_M_go_9 : decode b_M_go 9 = .ok (.getfield 58, 3) := by decide +kernel
theorem d_M_go_12 : decode b_M_go 12 = .ok (.lcmp, 1) := by decide +kernel
theorem d_M_go_13 : decode b_M_go 13 = .ok (.ifCond .le 7, 3) := by decide +kernel
theorem d_M_go_16 : decode b_M_go 16 = .ok (.iconst 1, 1) := by decide +kernel
theorem d_M_go_17 : decode b_M_go 17 = .ok (.goto 4, 3) := by decide +kernel
theorem d_M_go_20 : decode b_M_go 20 = .ok (.iconst 0, 1) := by decide +kernel
theorem d_M_go_21 : decode b_M_go 21 = .ok (.iconst 0, 1) := by decide +kernel
theorem d_M_go_22 : decode b_M_go 22 = .ok (.invokevirtual 54, 3) := by decide +kernel
theorem d_M_go_25 : decode b_M_go 25 = .ok (.ifCond .eq 7, 3) := by decide +kernel
theorem d_M_go_28 : decode b_M_go 28 = .ok (.lconst 0, 1) := by decide +kernel
theorem d_M_go_29 : decode b_M_go 29 = .ok (.goto 8, 3) := by decide +kernel
theorem d_M_go_32 : decode b_M_go 32 = .ok (.aload_n 0, 1) := by decide +kernel
theorem d_M_go_33 : decode b_M_go 33 = .ok (.lload_n 1, 1) := by decide +kernel
theorem d_M_go_34 : decode b_M_go 34 = .ok (.invokevirtual 72, 3) := by decide +kernel
theorem d_M_go_37 : decode b_M_go 37 = .ok (.lreturn, 1) := by decide +kernel
abbrev b_M_back : ByteArray := prog_4_method_11_code
def y_M_back : MethodName := ⟨"AgedMarksModel", "back", "(J)J"⟩
theorem d_M_back_0 : decode b_M_back 0 = .ok (.aload_n 0, 1) := by decide +kernel
theorem d_M_back_1 : decode b_M_back 1 = .ok (.lload_n 1, 1) := by decide +kernel
theorem d_M_back_2 : decode b_M_back 2 = .ok (.lconst 0, 1) := by decide +kernel
theorem d_M_back_3 : decode b_M_back 3 = .ok (.lcmp, 1) := by decide +kernel
theorem d_M_back_4 : decode b_M_back 4 = .ok (.ifCond .ge 7, 3) := by decide +kernel
theorem d_M_back_7 : decode b_M_back 7 = .ok (.iconst 1, 1) := by decide +kernel
theorem d_M_back_8 : decode b_M_back 8 = .ok (.goto 4, 3) := by decide +kernel
theorem d_M_back_11 : decode b_M_back 11 = .ok (.iconst 0, 1) := by decide +kernel
theorem d_M_back_12 : decode b_M_back 12 = .ok (.iconst 0, 1) := by decide +kernel
theorem d_M_back_13 : decode b_M_back 13 = .ok (.invokevirtual 54, 3) := by decide +kernel
theorem d_M_back_16 : decode b_M_back 16 = .ok (.ifCond .eq 7, 3) := by decide +kernel
theorem d_M_back_19 : decode b_M_back 19 = .ok (.lconst 0, 1) := by decide +kernel
theorem d_M_back_20 : decode b_M_back 20 = .ok (.goto 26, 3) := by decide +kernel
theorem d_M_back_23 : decode b_M_back 23 = .ok (.aload_n 0, 1) := by decide +kernel
theorem d_M_back_24 : decode b_M_back 24 = .ok (.lload_n 1, 1) := by decide +kernel
theorem d_M_back_25 : decode b_M_back 25 = .ok (.aload_n 0, 1) := by decide +kernel
theorem d_M_back_26 : decode b_M_back 26 = .ok (.getfield 49, 3) := by decide +kernel
theorem d_M_back_29 : decode b_M_back 29 = .ok (.lcmp, 1) := by decide +kernel
theorem d_M_back_30 : decode b_M_back 30 = .ok (.ifCond .le 7, 3) := by decide +kernel
theorem d_M_back_33 : decode b_M_back 33 = .ok (.lconst 0, 1) := by decide +kernel
theorem d_M_back_34 : decode b_M_back 34 = .ok (.goto 9, 3) := by decide +kernel
theorem d_M_back_37 : decode b_M_back 37 = .ok (.aload_n 0, 1) := by decide +kernel
theorem d_M_back_38 : decode b_M_back 38 = .ok (.getfield 49, 3) := by decide +kernel
theorem d_M_back_41 : decode b_M_back 41 = .ok (.lload_n 1, 1) := by decide +kernel
theorem d_M_back_42 : decode b_M_back 42 = .ok (.lsub, 1) := by decide +kernel
theorem d_M_back_43 : decode b_M_back 43 = .ok (.invokevirtual 72, 3) := by decide +kernel
theorem d_M_back_46 : decode b_M_back 46 = .ok (.lreturn, 1) := by decide +kernel
abbrev b_M_cut : ByteArray := prog_4_method_12_code
def y_M_cut : MethodName := ⟨"AgedMarksModel", "cut", "()I"⟩
theorem d_M_cut_0 : decode b_M_cut 0 = .ok (.aload_n 0, 1) := by decide +kernel
theorem d_M_cut_1 : decode b_M_cut 1 = .ok (.iconst 0, 1) := by decide +kernel
theorem d_M_cut_2 : decode b_M_cut 2 = .ok (.putfield 29, 3) := by decide +kernel
theorem d_M_cut_5 : decode b_M_cut 5 = .ok (.aload_n 0, 1) := by decide +kernel
theorem d_M_cut_6 : decode b_M_cut 6 = .ok (.aload_n 0, 1) := by decide +kernel
theorem d_M_cut_7 : decode b_M_cut 7 = .ok (.getfield 49, 3) := by decide +kernel
theorem d_M_cut_10 : decode b_M_cut 10 = .ok (.putfield 58, 3) := by decide +kernel
theorem d_M_cut_13 : decode b_M_cut 13 = .ok (.aload_n 0, 1) := by decide +kernel
theorem d_M_cut_14 : decode b_M_cut 14 = .ok (.getfield 7, 3) := by decide +kernel
theorem d_M_cut_17 : decode b_M_cut 17 = .ok (.istore_n 1, 1) := by decide +kernel
theorem d_M_cut_18 : decode b_M_cut 18 = .ok (.aload_n 0, 1) := by decide +kernel
theorem d_M_cut_19 : decode b_M_cut 19 = .ok (.getfield 13, 3) := by decide +kernel
theorem d_M_cut_22 : decode b_M_cut 22 = .ok (.aload_n 0, 1) := by decide +kernel
theorem d_M_cut_23 : decode b_M_cut 23 = .ok (.getfield 7, 3) := by decide +kernel
theorem d_M_cut_26 : decode b_M_cut 26 = .ok (.iconst 1, 1) := by decide +kernel
theorem d_M_cut_27 : decode b_M_cut 27 = .ok (.isub, 1) := by decide +kernel
theorem d_M_cut_28 : decode b_M_cut 28 = .ok (.iaload, 1) := by decide +kernel
theorem d_M_cut_29 : decode b_M_cut 29 = .ok (.i2l, 1) := by decide +kernel
theorem d_M_cut_30 : decode b_M_cut 30 = .ok (.aload_n 0, 1) := by decide +kernel
theorem d_M_cut_31 : decode b_M_cut 31 = .ok (.getfield 23, 3) := by decide +kernel
theorem d_M_cut_34 : decode b_M_cut 34 = .ok (.i2l, 1) := by decide +kernel
theorem d_M_cut_35 : decode b_M_cut 35 = .ok (.lmul, 1) := by decide +kernel
theorem d_M_cut_36 : decode b_M_cut 36 = .ok (.aload_n 0, 1) := by decide +kernel
theorem d_M_cut_37 : decode b_M_cut 37 = .ok (.getfield 58, 3) := by decide +kernel
theorem d_M_cut_40 : decode b_M_cut 40 = .ok (.lcmp, 1) := by decide +kernel
theorem d_M_cut_41 : decode b_M_cut 41 = .ok (.ifCond .le 16, 3) := by decide +kernel
theorem d_M_cut_44 : decode b_M_cut 44 = .ok (.aload_n 0, 1) := by decide +kernel
theorem d_M_cut_45 : decode b_M_cut 45 = .ok (.dup, 1) := by decide +kernel
theorem d_M_cut_46 : decode b_M_cut 46 = .ok (.getfield 7, 3) := by decide +kernel
theorem d_M_cut_49 : decode b_M_cut 49 = .ok (.iconst 1, 1) := by decide +kernel
theorem d_M_cut_50 : decode b_M_cut 50 = .ok (.isub, 1) := by decide +kernel
theorem d_M_cut_51 : decode b_M_cut 51 = .ok (.putfield 7, 3) := by decide +kernel
theorem d_M_cut_54 : decode b_M_cut 54 = .ok (.goto (-36), 3) := by decide +kernel
theorem d_M_cut_57 : decode b_M_cut 57 = .ok (.aload_n 0, 1) := by decide +kernel
theorem d_M_cut_58 : decode b_M_cut 58 = .ok (.dup, 1) := by decide +kernel
theorem d_M_cut_59 : decode b_M_cut 59 = .ok (.getfield 42, 3) := by decide +kernel
theorem d_M_cut_62 : decode b_M_cut 62 = .ok (.iload_n 1, 1) := by decide +kernel
theorem d_M_cut_63 : decode b_M_cut 63 = .ok (.aload_n 0, 1) := by decide +kernel
theorem d_M_cut_64 : decode b_M_cut 64 = .ok (.getfield 7, 3) := by decide +kernel
theorem d_M_cut_67 : decode b_M_cut 67 = .ok (.isub, 1) := by decide +kernel
theorem d_M_cut_68 : decode b_M_cut 68 = .ok (.i2l, 1) := by decide +kernel
theorem d_M_cut_69 : decode b_M_cut 69 = .ok (.ladd, 1) := by decide +kernel
theorem d_M_cut_70 : decode b_M_cut 70 = .ok (.putfield 42, 3) := by decide +kernel
theorem d_M_cut_73 : decode b_M_cut 73 = .ok (.iload_n 1, 1) := by decide +kernel
theorem d_M_cut_74 : decode b_M_cut 74 = .ok (.aload_n 0, 1) := by decide +kernel
theorem d_M_cut_75 : decode b_M_cut 75 = .ok (.getfield 7, 3) := by decide +kernel
theorem d_M_cut_78 : decode b_M_cut 78 = .ok (.isub, 1) := by decide +kernel
theorem d_M_cut_79 : decode b_M_cut 79 = .ok (.ireturn, 1) := by decide +kernel
abbrev b_M_mark : ByteArray := prog_4_method_13_code
def y_M_mark : MethodName := ⟨"AgedMarksModel", "mark", "(II)J"⟩
theorem d_M_mark_0 : decode b_M_mark 0 = .ok (.aload_n 0, 1) := by decide +kernel
theorem d_M_mark_1 : decode b_M_mark 1 = .ok (.iload_n 1, 1) := by decide +kernel
theorem d_M_mark_2 : decode b_M_mark 2 = .ok (.ifCond .lt 11, 3) := by decide +kernel
theorem d_M_mark_5 : decode b_M_mark 5 = .ok (.iload_n 1, 1) := by decide +kernel
theorem d_M_mark_6 : decode b_M_mark 6 = .ok (.aload_n 0, 1) := by decide +kernel
theorem d_M_mark_7 : decode b_M_mark 7 = .ok (.getfield 7, 3) := by decide +kernel
theorem d_M_mark_10 : decode b_M_mark 10 = .ok (.if_icmp .lt 7, 3) := by decide +kernel
theorem d_M_mark_13 : decode b_M_mark 13 = .ok (.iconst 1, 1) := by decide +kernel
theorem d_M_mark_14 : decode b_M_mark 14 = .ok (.goto 4, 3) := by decide +kernel
theorem d_M_mark_17 : decode b_M_mark 17 = .ok (.iconst 0, 1) := by decide +kernel
theorem d_M_mark_18 : decode b_M_mark 18 = .ok (.iload_n 2, 1) := by decide +kernel
theorem d_M_mark_19 : decode b_M_mark 19 = .ok (.ifCond .lt 8, 3) := by decide +kernel
theorem d_M_mark_22 : decode b_M_mark 22 = .ok (.iload_n 2, 1) := by decide +kernel
theorem d_M_mark_23 : decode b_M_mark 23 = .ok (.iconst 2, 1) := by decide +kernel
theorem d_M_mark_24 : decode b_M_mark 24 = .ok (.if_icmp .le 7, 3) := by decide +kernel
theorem d_M_mark_27 : decode b_M_mark 27 = .ok (.iconst 1, 1) := by decide +kernel
theorem d_M_mark_28 : decode b_M_mark 28 = .ok (.goto 4, 3) := by decide +kernel
theorem d_M_mark_31 : decode b_M_mark 31 = .ok (.iconst 0, 1) := by decide +kernel
theorem d_M_mark_32 : decode b_M_mark 32 = .ok (.invokevirtual 54, 3) := by decide +kernel
theorem d_M_mark_35 : decode b_M_mark 35 = .ok (.ifCond .eq 5, 3) := by decide +kernel
theorem d_M_mark_38 : decode b_M_mark 38 = .ok (.lconst 0, 1) := by decide +kernel
theorem d_M_mark_39 : decode b_M_mark 39 = .ok (.lreturn, 1) := by decide +kernel
theorem d_M_mark_40 : decode b_M_mark 40 = .ok (.iload_n 2, 1) := by decide +kernel
theorem d_M_mark_41 : decode b_M_mark 41 = .ok (.ifCond .ne 19, 3) := by decide +kernel
theorem d_M_mark_44 : decode b_M_mark 44 = .ok (.aload_n 0, 1) := by decide +kernel
theorem d_M_mark_45 : decode b_M_mark 45 = .ok (.getfield 13, 3) := by decide +kernel
theorem d_M_mark_48 : decode b_M_mark 48 = .ok (.iload_n 1, 1) := by decide +kernel
theorem d_M_mark_49 : decode b_M_mark 49 = .ok (.iaload, 1) := by decide +kernel
theorem d_M_mark_50 : decode b_M_mark 50 = .ok (.i2l, 1) := by decide +kernel
theorem d_M_mark_51 : decode b_M_mark 51 = .ok (.aload_n 0, 1) := by decide +kernel
theorem d_M_mark_52 : decode b_M_mark 52 = .ok (.getfield 23, 3) := by decide +kernel
theorem d_M_mark_55 : decode b_M_mark 55 = .ok (.i2l, 1) := by decide +kernel
theorem d_M_mark_56 : decode b_M_mark 56 = .ok (.lmul, 1) := by decide +kernel
theorem d_M_mark_57 : decode b_M_mark 57 = .ok (.goto 37, 3) := by decide +kernel
theorem d_M_mark_60 : decode b_M_mark 60 = .ok (.iload_n 2, 1) := by decide +kernel
theorem d_M_mark_61 : decode b_M_mark 61 = .ok (.iconst 1, 1) := by decide +kernel
theorem d_M_mark_62 : decode b_M_mark 62 = .ok (.if_icmp .ne 13, 3) := by decide +kernel
theorem d_M_mark_65 : decode b_M_mark 65 = .ok (.aload_n 0, 1) := by decide +kernel
theorem d_M_mark_66 : decode b_M_mark 66 = .ok (.getfield 17, 3) := by decide +kernel
theorem d_M_mark_69 : decode b_M_mark 69 = .ok (.iload_n 1, 1) := by decide +kernel
theorem d_M_mark_70 : decode b_M_mark 70 = .ok (.iaload, 1) := by decide +kernel
theorem d_M_mark_71 : decode b_M_mark 71 = .ok (.i2l, 1) := by decide +kernel
theorem d_M_mark_72 : decode b_M_mark 72 = .ok (.goto 22, 3) := by decide +kernel
theorem d_M_mark_75 : decode b_M_mark 75 = .ok (.aload_n 0, 1) := by decide +kernel
theorem d_M_mark_76 : decode b_M_mark 76 = .ok (.getfield 13, 3) := by decide +kernel
theorem d_M_mark_79 : decode b_M_mark 79 = .ok (.aload_n 0, 1) := by decide +kernel
theorem d_M_mark_80 : decode b_M_mark 80 = .ok (.getfield 7, 3) := by decide +kernel
theorem d_M_mark_83 : decode b_M_mark 83 = .ok (.iconst 1, 1) := by decide +kernel
theorem d_M_mark_84 : decode b_M_mark 84 = .ok (.isub, 1) := by decide +kernel
theorem d_M_mark_85 : decode b_M_mark 85 = .ok (.iaload, 1) := by decide +kernel
theorem d_M_mark_86 : decode b_M_mark 86 = .ok (.aload_n 0, 1) := by decide +kernel
theorem d_M_mark_87 : decode b_M_mark 87 = .ok (.getfield 13, 3) := by decide +kernel
theorem d_M_mark_90 : decode b_M_mark 90 = .ok (.iload_n 1, 1) := by decide +kernel
theorem d_M_mark_91 : decode b_M_mark 91 = .ok (.iaload, 1) := by decide +kernel
theorem d_M_mark_92 : decode b_M_mark 92 = .ok (.isub, 1) := by decide +kernel
theorem d_M_mark_93 : decode b_M_mark 93 = .ok (.i2l, 1) := by decide +kernel
theorem d_M_mark_94 : decode b_M_mark 94 = .ok (.lreturn, 1) := by decide +kernel
abbrev b_M_holder : ByteArray := prog_4_method_14_code
def y_M_holder : MethodName := ⟨"AgedMarksModel", "holder", "(I)I"⟩
theorem d_M_holder_0 : decode b_M_holder 0 = .ok (.aload_n 0, 1) := by decide +kernel
theorem d_M_holder_1 : decode b_M_holder 1 = .ok (.iconst 0, 1) := by decide +kernel
theorem d_M_holder_2 : decode b_M_holder 2 = .ok (.putfield 29, 3) := by decide +kernel
theorem d_M_holder_5 : decode b_M_holder 5 = .ok (.iconst 0, 1) := by decide +kernel
theorem d_M_holder_6 : decode b_M_holder 6 = .ok (.istore_n 2, 1) := by decide +kernel
theorem d_M_holder_7 : decode b_M_holder 7 = .ok (.iload_n 2, 1) := by decide +kernel
theorem d_M_holder_8 : decode b_M_holder 8 = .ok (.aload_n 0, 1) := by decide +kernel
theorem d_M_holder_9 : decode b_M_holder 9 = .ok (.getfield 7, 3) := by decide +kernel
theorem d_M_holder_12 : decode b_M_holder 12 = .ok (.if_icmp .ge 21, 3) := by decide +kernel
theorem d_M_holder_15 : decode b_M_holder 15 = .ok (.aload_n 0, 1) := by decide +kernel
theorem d_M_holder_16 : decode b_M_holder 16 = .ok (.getfield 17, 3) := by decide +kernel
theorem d_M_holder_19 : decode b_M_holder 19 = .ok (.iload_n 2, 1) := by decide +kernel
theorem d_M_holder_20 : decode b_M_holder 20 = .ok (.iaload, 1) := by decide +kernel
theorem d_M_holder_21 : decode b_M_holder 21 = .ok (.iload_n 1, 1) := by decide +kernel
theorem d_M_holder_22 : decode b_M_holder 22 = .ok (.if_icmp .ne 5, 3) := by decide +kernel
theorem d_M_holder_25 : decode b_M_holder 25 = .ok (.iload_n 2, 1) := by decide +kernel
theorem d_M_holder_26 : decode b_M_holder 26 = .ok (.ireturn, 1) := by decide +kernel
theorem d_M_holder_27 : decode b_M_holder 27 = .ok (.iinc 2 1, 3) := by decide +kernel
theorem d_M_holder_30 : decode b_M_holder 30 = .ok (.goto (-23), 3) := by decide +kernel
theorem d_M_holder_33 : decode b_M_holder 33 = .ok (.iconst (-1), 1) := by decide +kernel
theorem d_M_holder_34 : decode b_M_holder 34 = .ok (.ireturn, 1) := by decide +kernel
abbrev b_M_worst : ByteArray := prog_4_method_15_code
def y_M_worst : MethodName := ⟨"AgedMarksModel", "worst", "()J"⟩
theorem d_M_worst_0 : decode b_M_worst 0 = .ok (.aload_n 0, 1) := by decide +kernel
theorem d_M_worst_1 : decode b_M_worst 1 = .ok (.iconst 0, 1) := by decide +kernel
theorem d_M_worst_2 : decode b_M_worst 2 = .ok (.putfield 29, 3) := by decide +kernel
theorem d_M_worst_5 : decode b_M_worst 5 = .ok (.aload_n 0, 1) := by decide +kernel
theorem d_M_worst_6 : decode b_M_worst 6 = .ok (.getfield 58, 3) := by decide +kernel
theorem d_M_worst_9 : decode b_M_worst 9 = .ok (.aload_n 0, 1) := by decide +kernel
theorem d_M_worst_10 : decode b_M_worst 10 = .ok (.getfield 13, 3) := by decide +kernel
theorem d_M_worst_13 : decode b_M_worst 13 = .ok (.aload_n 0, 1) := by decide +kernel
theorem d_M_worst_14 : decode b_M_worst 14 = .ok (.getfield 7, 3) := by decide +kernel
theorem d_M_worst_17 : decode b_M_worst 17 = .ok (.iconst 1, 1) := by decide +kernel
theorem d_M_worst_18 : decode b_M_worst 18 = .ok (.isub, 1) := by decide +kernel
theorem d_M_worst_19 : decode b_M_worst 19 = .ok (.iaload, 1) := by decide +kernel
theorem d_M_worst_20 : decode b_M_worst 20 = .ok (.i2l, 1) := by decide +kernel
theorem d_M_worst_21 : decode b_M_worst 21 = .ok (.aload_n 0, 1) := by decide +kernel
theorem d_M_worst_22 : decode b_M_worst 22 = .ok (.getfield 23, 3) := by decide +kernel
theorem d_M_worst_25 : decode b_M_worst 25 = .ok (.i2l, 1) := by decide +kernel
theorem d_M_worst_26 : decode b_M_worst 26 = .ok (.lmul, 1) := by decide +kernel
theorem d_M_worst_27 : decode b_M_worst 27 = .ok (.lsub, 1) := by decide +kernel
theorem d_M_worst_28 : decode b_M_worst 28 = .ok (.lstore_n 1, 1) := by decide +kernel
theorem d_M_worst_29 : decode b_M_worst 29 = .ok (.iconst 1, 1) := by decide +kernel
theorem d_M_worst_30 : decode b_M_worst 30 = .ok (.istore_n 3, 1) := by decide +kernel
theorem d_M_worst_31 : decode b_M_worst 31 = .ok (.iload_n 3, 1) := by decide +kernel
theorem d_M_worst_32 : decode b_M_worst 32 = .ok (.aload_n 0, 1) := by decide +kernel
theorem d_M_worst_33 : decode b_M_worst 33 = .ok (.getfield 7, 3) := by decide +kernel
theorem d_M_worst_36 : decode b_M_worst 36 = .ok (.if_icmp .ge 44, 3) := by decide +kernel
theorem d_M_worst_39 : decode b_M_worst 39 = .ok (.aload_n 0, 1) := by decide +kernel
theorem d_M_worst_40 : decode b_M_worst 40 = .ok (.aload_n 0, 1) := by decide +kernel
theorem d_M_worst_41 : decode b_M_worst 41 = .ok (.getfield 13, 3) := by decide +kernel
theorem d_M_worst_44 : decode b_M_worst 44 = .ok (.iload_n 3, 1) := by decide +kernel
theorem d_M_worst_45 : decode b_M_worst 45 = .ok (.iaload, 1) := by decide +kernel
theorem d_M_worst_46 : decode b_M_worst 46 = .ok (.i2l, 1) := by decide +kernel
theorem d_M_worst_47 : decode b_M_worst 47 = .ok (.aload_n 0, 1) := by decide +kernel
theorem d_M_worst_48 : decode b_M_worst 48 = .ok (.getfield 23, 3) := by decide +kernel
theorem d_M_worst_51 : decode b_M_worst 51 = .ok (.i2l, 1) := by decide +kernel
theorem d_M_worst_52 : decode b_M_worst 52 = .ok (.lmul, 1) := by decide +kernel
theorem d_M_worst_53 : decode b_M_worst 53 = .ok (.lconst 1, 1) := by decide +kernel
theorem d_M_worst_54 : decode b_M_worst 54 = .ok (.lsub, 1) := by decide +kernel
theorem d_M_worst_55 : decode b_M_worst 55 = .ok (.invokevirtual 65, 3) := by decide +kernel
theorem d_M_worst_58 : decode b_M_worst 58 = .ok (.lstore 4, 2) := by decide +kernel
theorem d_M_worst_60 : decode b_M_worst 60 = .ok (.lload 4, 2) := by decide +kernel
theorem d_M_worst_62 : decode b_M_worst 62 = .ok (.lload_n 1, 1) := by decide +kernel
theorem d_M_worst_63 : decode b_M_worst 63 = .ok (.lcmp, 1) := by decide +kernel
theorem d_M_worst_64 : decode b_M_worst 64 = .ok (.ifCond .le 8, 3) := by decide +kernel
theorem d_M_worst_67 : decode b_M_worst 67 = .ok (.lload 4, 2) := by decide +kernel
theorem d_M_worst_69 : decode b_M_worst 69 = .ok (.goto 4, 3) := by decide +kernel
theorem d_M_worst_72 : decode b_M_worst 72 = .ok (.lload_n 1, 1) := by decide +kernel
theorem d_M_worst_73 : decode b_M_worst 73 = .ok (.lstore_n 1, 1) := by decide +kernel
theorem d_M_worst_74 : decode b_M_worst 74 = .ok (.iinc 3 1, 3) := by decide +kernel
theorem d_M_worst_77 : decode b_M_worst 77 = .ok (.goto (-46), 3) := by decide +kernel
theorem d_M_worst_80 : decode b_M_worst 80 = .ok (.lload_n 1, 1) := by decide +kernel
theorem d_M_worst_81 : decode b_M_worst 81 = .ok (.lreturn, 1) := by decide +kernel
abbrev b_M_count : ByteArray := prog_4_method_16_code
def y_M_count : MethodName := ⟨"AgedMarksModel", "count", "(I)J"⟩
theorem d_M_count_0 : decode b_M_count 0 = .ok (.aload_n 0, 1) := by decide +kernel
theorem d_M_count_1 : decode b_M_count 1 = .ok (.iconst 0, 1) := by decide +kernel
theorem d_M_count_2 : decode b_M_count 2 = .ok (.putfield 29, 3) := by decide +kernel
theorem d_M_count_5 : decode b_M_count 5 = .ok (.iload_n 1, 1) := by decide +kernel
theorem d_M_count_6 : decode b_M_count 6 = .ok (.tableswitch 79 0 6 #[42, 47, 52, 58, 64, 69, 74], 42) := by decide +kernel
theorem d_M_count_48 : decode b_M_count 48 = .ok (.aload_n 0, 1) := by decide +kernel
theorem d_M_count_49 : decode b_M_count 49 = .ok (.getfield 49, 3) := by decide +kernel
theorem d_M_count_52 : decode b_M_count 52 = .ok (.lreturn, 1) := by decide +kernel
theorem d_M_count_53 : decode b_M_count 53 = .ok (.aload_n 0, 1) := by decide +kernel
theorem d_M_count_54 : decode b_M_count 54 = .ok (.getfield 58, 3) := by decide +kernel
theorem d_M_count_57 : decode b_M_count 57 = .ok (.lreturn, 1) := by decide +kernel
theorem d_M_count_58 : decode b_M_count 58 = .ok (.aload_n 0, 1) := by decide +kernel
theorem d_M_count_59 : decode b_M_count 59 = .ok (.getfield 7, 3) := by decide +kernel
theorem d_M_count_62 : decode b_M_count 62 = .ok (.i2l, 1) := by decide +kernel
theorem d_M_count_63 : decode b_M_count 63 = .ok (.lreturn, 1) := by decide +kernel
theorem d_M_count_64 : decode b_M_count 64 = .ok (.aload_n 0, 1) := by decide +kernel
theorem d_M_count_65 : decode b_M_count 65 = .ok (.getfield 20, 3) := by decide +kernel
theorem d_M_count_68 : decode b_M_count 68 = .ok (.i2l, 1) := by decide +kernel
theorem d_M_count_69 : decode b_M_count 69 = .ok (.lreturn, 1) := by decide +kernel
theorem d_M_count_70 : decode b_M_count 70 = .ok (.aload_n 0, 1) := by decide +kernel
theorem d_M_count_71 : decode b_M_count 71 = .ok (.getfield 46, 3) := by decide +kernel
theorem d_M_count_74 : decode b_M_count 74 = .ok (.lreturn, 1) := by decide +kernel
theorem d_M_count_75 : decode b_M_count 75 = .ok (.aload_n 0, 1) := by decide +kernel
theorem d_M_count_76 : decode b_M_count 76 = .ok (.getfield 42, 3) := by decide +kernel
theorem d_M_count_79 : decode b_M_count 79 = .ok (.lreturn, 1) := by decide +kernel
theorem d_M_count_80 : decode b_M_count 80 = .ok (.aload_n 0, 1) := by decide +kernel
theorem d_M_count_81 : decode b_M_count 81 = .ok (.getfield 69, 3) := by decide +kernel
theorem d_M_count_84 : decode b_M_count 84 = .ok (.lreturn, 1) := by decide +kernel
theorem d_M_count_85 : decode b_M_count 85 = .ok (.ldc2_w 75, 3) := by decide +kernel
theorem d_M_count_88 : decode b_M_count 88 = .ok (.lreturn, 1) := by decide +kernel
end
section
abbrev b_S_init : ByteArray := prog_2_method_1_code
def y_S_init : MethodName := ⟨"AgedMarks$Slots", "<init>", "()V"⟩
theorem d_S_init_0 : decode b_S_init 0 = .ok (.aload_n 0, 1) := by decide +kernel
theorem d_S_init_1 : decode b_S_init 1 = .ok (.invokespecial 3, 3) := by decide +kernel
theorem d_S_init_4 : decode b_S_init 4 = .ok (.aload_n 0, 1) := by decide +kernel
theorem d_S_init_5 : decode b_S_init 5 = .ok (.iconst 5, 1) := by decide +kernel
theorem d_S_init_6 : decode b_S_init 6 = .ok (.newarray .long, 2) := by decide +kernel
theorem d_S_init_8 : decode b_S_init 8 = .ok (.putfield 9, 3) := by decide +kernel
theorem d_S_init_11 : decode b_S_init 11 = .ok (.return_, 1) := by decide +kernel
abbrev b_S_takeLeast : ByteArray := prog_2_method_2_code
def y_S_takeLeast : MethodName := ⟨"AgedMarks$Slots", "takeLeast", "()I"⟩
theorem d_S_takeLeast_0 : decode b_S_takeLeast 0 = .ok (.iconst 0, 1) := by decide +kernel
theorem d_S_takeLeast_1 : decode b_S_takeLeast 1 = .ok (.istore_n 1, 1) := by decide +kernel
theorem d_S_takeLeast_2 : decode b_S_takeLeast 2 = .ok (.iload_n 1, 1) := by decide +kernel
theorem d_S_takeLeast_3 : decode b_S_takeLeast 3 = .ok (.iconst 5, 1) := by decide +kernel
theorem d_S_takeLeast_4 : decode b_S_takeLeast 4 = .ok (.if_icmp .ge 56, 3) := by decide +kernel
theorem d_S_takeLeast_7 : decode b_S_takeLeast 7 = .ok (.aload_n 0, 1) := by decide +kernel
theorem d_S_takeLeast_8 : decode b_S_takeLeast 8 = .ok (.getfield 9, 3) := by decide +kernel
theorem d_S_takeLeast_11 : decode b_S_takeLeast 11 = .ok (.iload_n 1, 1) := by decide +kernel
theorem d_S_takeLeast_12 : decode b_S_takeLeast 12 = .ok (.laload, 1) := by decide +kernel
theorem d_S_takeLeast_13 : decode b_S_takeLeast 13 = .ok (.ldc2_w 15, 3) := by decide +kernel
theorem d_S_takeLeast_16 : decode b_S_takeLeast 16 = .ok (.lxor, 1) := by decide +kernel
theorem d_S_takeLeast_17 : decode b_S_takeLeast 17 = .ok (.lstore_n 2, 1) := by decide +kernel
theorem d_S_takeLeast_18 : decode b_S_takeLeast 18 = .ok (.lload_n 2, 1) := by decide +kernel
theorem d_S_takeLeast_19 : decode b_S_takeLeast 19 = .ok (.lconst 0, 1) := by decide +kernel
theorem d_S_takeLeast_20 : decode b_S_takeLeast 20 = .ok (.lcmp, 1) := by decide +kernel
theorem d_S_takeLeast_21 : decode b_S_takeLeast 21 = .ok (.ifCond .eq 33, 3) := by decide +kernel
theorem d_S_takeLeast_24 : decode b_S_takeLeast 24 = .ok (.lload_n 2, 1) := by decide +kernel
theorem d_S_takeLeast_25 : decode b_S_takeLeast 25 = .ok (.lload_n 2, 1) := by decide +kernel
theorem d_S_takeLeast_26 : decode b_S_takeLeast 26 = .ok (.lneg, 1) := by decide +kernel
theorem d_S_takeLeast_27 : decode b_S_takeLeast 27 = .ok (.land, 1) := by decide +kernel
theorem d_S_takeLeast_28 : decode b_S_takeLeast 28 = .ok (.lstore 4, 2) := by decide +kernel
theorem d_S_takeLeast_30 : decode b_S_takeLeast 30 = .ok (.aload_n 0, 1) := by decide +kernel
theorem d_S_takeLeast_31 : decode b_S_takeLeast 31 = .ok (.getfield 9, 3) := by decide +kernel
theorem d_S_takeLeast_34 : decode b_S_takeLeast 34 = .ok (.iload_n 1, 1) := by decide +kernel
theorem d_S_takeLeast_35 : decode b_S_takeLeast 35 = .ok (.dup2, 1) := by decide +kernel
theorem d_S_takeLeast_36 : decode b_S_takeLeast 36 = .ok (.laload, 1) := by decide +kernel
theorem d_S_takeLeast_37 : decode b_S_takeLeast 37 = .ok (.lload 4, 2) := by decide +kernel
theorem d_S_takeLeast_39 : decode b_S_takeLeast 39 = .ok (.lor, 1) := by decide +kernel
theorem d_S_takeLeast_40 : decode b_S_takeLeast 40 = .ok (.lastore, 1) := by decide +kernel
theorem d_S_takeLeast_41 : decode b_S_takeLeast 41 = .ok (.iload_n 1, 1) := by decide +kernel
theorem d_S_takeLeast_42 : decode b_S_takeLeast 42 = .ok (.bipush 64, 2) := by decide +kernel
theorem d_S_takeLeast_44 : decode b_S_takeLeast 44 = .ok (.imul, 1) := by decide +kernel
theorem d_S_takeLeast_45 : decode b_S_takeLeast 45 = .ok (.lload 4, 2) := by decide +kernel
theorem d_S_takeLeast_47 : decode b_S_takeLeast 47 = .ok (.lconst 1, 1) := by decide +kernel
theorem d_S_takeLeast_48 : decode b_S_takeLeast 48 = .ok (.lsub, 1) := by decide +kernel
theorem d_S_takeLeast_49 : decode b_S_takeLeast 49 = .ok (.invokestatic 17, 3) := by decide +kernel
theorem d_S_takeLeast_52 : decode b_S_takeLeast 52 = .ok (.iadd, 1) := by decide +kernel
theorem d_S_takeLeast_53 : decode b_S_takeLeast 53 = .ok (.ireturn, 1) := by decide +kernel
theorem d_S_takeLeast_54 : decode b_S_takeLeast 54 = .ok (.iinc 1 1, 3) := by decide +kernel
theorem d_S_takeLeast_57 : decode b_S_takeLeast 57 = .ok (.goto (-55), 3) := by decide +kernel
theorem d_S_takeLeast_60 : decode b_S_takeLeast 60 = .ok (.iconst (-1), 1) := by decide +kernel
theorem d_S_takeLeast_61 : decode b_S_takeLeast 61 = .ok (.ireturn, 1) := by decide +kernel
abbrev b_S_release : ByteArray := prog_2_method_3_code
def y_S_release : MethodName := ⟨"AgedMarks$Slots", "release", "(I)V"⟩
theorem d_S_release_0 : decode b_S_release 0 = .ok (.iload_n 1, 1) := by decide +kernel
theorem d_S_release_1 : decode b_S_release 1 = .ok (.ifCond .lt 32, 3) := by decide +kernel
theorem d_S_release_4 : decode b_S_release 4 = .ok (.iload_n 1, 1) := by decide +kernel
theorem d_S_release_5 : decode b_S_release 5 = .ok (.sipush 320, 3) := by decide +kernel
theorem d_S_release_8 : decode b_S_release 8 = .ok (.if_icmp .ge 25, 3) := by decide +kernel
theorem d_S_release_11 : decode b_S_release 11 = .ok (.aload_n 0, 1) := by decide +kernel
theorem d_S_release_12 : decode b_S_release 12 = .ok (.getfield 9, 3) := by decide +kernel
theorem d_S_release_15 : decode b_S_release 15 = .ok (.iload_n 1, 1) := by decide +kernel
theorem d_S_release_16 : decode b_S_release 16 = .ok (.bipush 64, 2) := by decide +kernel
theorem d_S_release_18 : decode b_S_release 18 = .ok (.idiv, 1) := by decide +kernel
theorem d_S_release_19 : decode b_S_release 19 = .ok (.dup2, 1) := by decide +kernel
theorem d_S_release_20 : decode b_S_release 20 = .ok (.laload, 1) := by decide +kernel
theorem d_S_release_21 : decode b_S_release 21 = .ok (.lconst 1, 1) := by decide +kernel
theorem d_S_release_22 : decode b_S_release 22 = .ok (.iload_n 1, 1) := by decide +kernel
theorem d_S_release_23 : decode b_S_release 23 = .ok (.bipush 64, 2) := by decide +kernel
theorem d_S_release_25 : decode b_S_release 25 = .ok (.irem, 1) := by decide +kernel
theorem d_S_release_26 : decode b_S_release 26 = .ok (.lshl, 1) := by decide +kernel
theorem d_S_release_27 : decode b_S_release 27 = .ok (.ldc2_w 15, 3) := by decide +kernel
theorem d_S_release_30 : decode b_S_release 30 = .ok (.lxor, 1) := by decide +kernel
theorem d_S_release_31 : decode b_S_release 31 = .ok (.land, 1) := by decide +kernel
theorem d_S_release_32 : decode b_S_release 32 = .ok (.lastore, 1) := by decide +kernel
theorem d_S_release_33 : decode b_S_release 33 = .ok (.return_, 1) := by decide +kernel
end
section
abbrev b_W_cell : ByteArray := method_2_code
def y_W_cell : MethodName := ⟨"AgedMarksLaw", "cell", "([II)I"⟩
theorem d_W_cell_0 : decode b_W_cell 0 = .ok (.iload_n 1, 1) := by decide +kernel
theorem d_W_cell_1 : decode b_W_cell 1 = .ok (.aload_n 0, 1) := by decide +kernel
theorem d_W_cell_2 : decode b_W_cell 2 = .ok (.arraylength, 1) := by decide +kernel
theorem d_W_cell_3 : decode b_W_cell 3 = .ok (.if_icmp .ge 9, 3) := by decide +kernel
theorem d_W_cell_6 : decode b_W_cell 6 = .ok (.aload_n 0, 1) := by decide +kernel
theorem d_W_cell_7 : decode b_W_cell 7 = .ok (.iload_n 1, 1) := by decide +kernel
theorem d_W_cell_8 : decode b_W_cell 8 = .ok (.iaload, 1) := by decide +kernel
theorem d_W_cell_9 : decode b_W_cell 9 = .ok (.goto 4, 3) := by decide +kernel
theorem d_W_cell_12 : decode b_W_cell 12 = .ok (.iconst 0, 1) := by decide +kernel
theorem d_W_cell_13 : decode b_W_cell 13 = .ok (.ireturn, 1) := by decide +kernel
abbrev b_W_run : ByteArray := method_3_code
def y_W_run : MethodName := ⟨"AgedMarksLaw", "run", "(LAgedMarks;I[J)I"⟩
theorem d_W_run_0 : decode b_W_run 0 = .ok (.aload_n 2, 1) := by decide +kernel
theorem d_W_run_1 : decode b_W_run 1 = .ok (.iconst 0, 1) := by decide +kernel
theorem d_W_run_2 : decode b_W_run 2 = .ok (.aload_n 0, 1) := by decide +kernel
theorem d_W_run_3 : decode b_W_run 3 = .ok (.iload_n 1, 1) := by decide +kernel
theorem d_W_run_4 : decode b_W_run 4 = .ok (.invokevirtual 7, 3) := by decide +kernel
theorem d_W_run_7 : decode b_W_run 7 = .ok (.i2l, 1) := by decide +kernel
theorem d_W_run_8 : decode b_W_run 8 = .ok (.lastore, 1) := by decide +kernel
theorem d_W_run_9 : decode b_W_run 9 = .ok (.goto 9, 3) := by decide +kernel
theorem d_W_run_12 : decode b_W_run 12 = .ok (.astore_n 3, 1) := by decide +kernel
theorem d_W_run_13 : decode b_W_run 13 = .ok (.iconst 1, 1) := by decide +kernel
theorem d_W_run_14 : decode b_W_run 14 = .ok (.ireturn, 1) := by decide +kernel
theorem d_W_run_15 : decode b_W_run 15 = .ok (.astore_n 3, 1) := by decide +kernel
theorem d_W_run_16 : decode b_W_run 16 = .ok (.iconst 2, 1) := by decide +kernel
theorem d_W_run_17 : decode b_W_run 17 = .ok (.ireturn, 1) := by decide +kernel
theorem d_W_run_18 : decode b_W_run 18 = .ok (.iconst 0, 1) := by decide +kernel
theorem d_W_run_19 : decode b_W_run 19 = .ok (.ireturn, 1) := by decide +kernel
abbrev b_W_go : ByteArray := method_4_code
def y_W_go : MethodName := ⟨"AgedMarksLaw", "go", "(LAgedMarks;J[J)I"⟩
theorem d_W_go_0 : decode b_W_go 0 = .ok (.aload_n 3, 1) := by decide +kernel
theorem d_W_go_1 : decode b_W_go 1 = .ok (.iconst 0, 1) := by decide +kernel
theorem d_W_go_2 : decode b_W_go 2 = .ok (.aload_n 0, 1) := by decide +kernel
theorem d_W_go_3 : decode b_W_go 3 = .ok (.lload_n 1, 1) := by decide +kernel
theorem d_W_go_4 : decode b_W_go 4 = .ok (.invokevirtual 17, 3) := by decide +kernel
theorem d_W_go_7 : decode b_W_go 7 = .ok (.lastore, 1) := by decide +kernel
theorem d_W_go_8 : decode b_W_go 8 = .ok (.goto 7, 3) := by decide +kernel
theorem d_W_go_11 : decode b_W_go 11 = .ok (.astore 4, 2) := by decide +kernel
theorem d_W_go_13 : decode b_W_go 13 = .ok (.iconst 1, 1) := by decide +kernel
theorem d_W_go_14 : decode b_W_go 14 = .ok (.ireturn, 1) := by decide +kernel
theorem d_W_go_15 : decode b_W_go 15 = .ok (.iconst 0, 1) := by decide +kernel
theorem d_W_go_16 : decode b_W_go 16 = .ok (.ireturn, 1) := by decide +kernel
abbrev b_W_back : ByteArray := method_5_code
def y_W_back : MethodName := ⟨"AgedMarksLaw", "back", "(LAgedMarks;J[J)I"⟩
theorem d_W_back_0 : decode b_W_back 0 = .ok (.aload_n 3, 1) := by decide +kernel
theorem d_W_back_1 : decode b_W_back 1 = .ok (.iconst 0, 1) := by decide +kernel
theorem d_W_back_2 : decode b_W_back 2 = .ok (.aload_n 0, 1) := by decide +kernel
theorem d_W_back_3 : decode b_W_back 3 = .ok (.lload_n 1, 1) := by decide +kernel
theorem d_W_back_4 : decode b_W_back 4 = .ok (.invokevirtual 21, 3) := by decide +kernel
theorem d_W_back_7 : decode b_W_back 7 = .ok (.lastore, 1) := by decide +kernel
theorem d_W_back_8 : decode b_W_back 8 = .ok (.goto 7, 3) := by decide +kernel
theorem d_W_back_11 : decode b_W_back 11 = .ok (.astore 4, 2) := by decide +kernel
theorem d_W_back_13 : decode b_W_back 13 = .ok (.iconst 1, 1) := by decide +kernel
theorem d_W_back_14 : decode b_W_back 14 = .ok (.ireturn, 1) := by decide +kernel
theorem d_W_back_15 : decode b_W_back 15 = .ok (.iconst 0, 1) := by decide +kernel
theorem d_W_back_16 : decode b_W_back 16 = .ok (.ireturn, 1) := by decide +kernel
abbrev b_W_mark : ByteArray := method_6_code
def y_W_mark : MethodName := ⟨"AgedMarksLaw", "mark", "(LAgedMarks;II[J)I"⟩
theorem d_W_mark_0 : decode b_W_mark 0 = .ok (.aload_n 3, 1) := by decide +kernel
theorem d_W_mark_1 : decode b_W_mark 1 = .ok (.iconst 0, 1) := by decide +kernel
theorem d_W_mark_2 : decode b_W_mark 2 = .ok (.aload_n 0, 1) := by decide +kernel
theorem d_W_mark_3 : decode b_W_mark 3 = .ok (.iload_n 1, 1) := by decide +kernel
theorem d_W_mark_4 : decode b_W_mark 4 = .ok (.iload_n 2, 1) := by decide +kernel
theorem d_W_mark_5 : decode b_W_mark 5 = .ok (.invokevirtual 24, 3) := by decide +kernel
theorem d_W_mark_8 : decode b_W_mark 8 = .ok (.lastore, 1) := by decide +kernel
theorem d_W_mark_9 : decode b_W_mark 9 = .ok (.goto 11, 3) := by decide +kernel
theorem d_W_mark_12 : decode b_W_mark 12 = .ok (.astore 4, 2) := by decide +kernel
theorem d_W_mark_14 : decode b_W_mark 14 = .ok (.iconst 1, 1) := by decide +kernel
theorem d_W_mark_15 : decode b_W_mark 15 = .ok (.ireturn, 1) := by decide +kernel
theorem d_W_mark_16 : decode b_W_mark 16 = .ok (.astore 4, 2) := by decide +kernel
theorem d_W_mark_18 : decode b_W_mark 18 = .ok (.iconst 2, 1) := by decide +kernel
theorem d_W_mark_19 : decode b_W_mark 19 = .ok (.ireturn, 1) := by decide +kernel
theorem d_W_mark_20 : decode b_W_mark 20 = .ok (.iconst 0, 1) := by decide +kernel
theorem d_W_mark_21 : decode b_W_mark 21 = .ok (.ireturn, 1) := by decide +kernel
abbrev b_W_law : ByteArray := code
def y_W_law : MethodName := ⟨"AgedMarksLaw", "law", "([I)Z"⟩
theorem d_W_law_0 : decode b_W_law 0 = .ok (.new 8, 3) := by decide +kernel
theorem d_W_law_3 : decode b_W_law 3 = .ok (.dup, 1) := by decide +kernel
theorem d_W_law_4 : decode b_W_law 4 = .ok (.aload_n 0, 1) := by decide +kernel
theorem d_W_law_5 : decode b_W_law 5 = .ok (.iconst 0, 1) := by decide +kernel
theorem d_W_law_6 : decode b_W_law 6 = .ok (.invokestatic 30, 3) := by decide +kernel
theorem d_W_law_9 : decode b_W_law 9 = .ok (.aload_n 0, 1) := by decide +kernel
theorem d_W_law_10 : decode b_W_law 10 = .ok (.iconst 1, 1) := by decide +kernel
theorem d_W_law_11 : decode b_W_law 11 = .ok (.invokestatic 30, 3) := by decide +kernel
theorem d_W_law_14 : decode b_W_law 14 = .ok (.invokespecial 36, 3) := by decide +kernel
theorem d_W_law_17 : decode b_W_law 17 = .ok (.astore_n 1, 1) := by decide +kernel
theorem d_W_law_18 : decode b_W_law 18 = .ok (.new 39, 3) := by decide +kernel
theorem d_W_law_21 : decode b_W_law 21 = .ok (.dup, 1) := by decide +kernel
theorem d_W_law_22 : decode b_W_law 22 = .ok (.aload_n 0, 1) := by decide +kernel
theorem d_W_law_23 : decode b_W_law 23 = .ok (.iconst 0, 1) := by decide +kernel
theorem d_W_law_24 : decode b_W_law 24 = .ok (.invokestatic 30, 3) := by decide +kernel
theorem d_W_law_27 : decode b_W_law 27 = .ok (.aload_n 0, 1) := by decide +kernel
theorem d_W_law_28 : decode b_W_law 28 = .ok (.iconst 1, 1) := by decide +kernel
theorem d_W_law_29 : decode b_W_law 29 = .ok (.invokestatic 30, 3) := by decide +kernel
theorem d_W_law_32 : decode b_W_law 32 = .ok (.invokespecial 41, 3) := by decide +kernel
theorem d_W_law_35 : decode b_W_law 35 = .ok (.astore_n 2, 1) := by decide +kernel
theorem d_W_law_36 : decode b_W_law 36 = .ok (.iconst 1, 1) := by decide +kernel
theorem d_W_law_37 : decode b_W_law 37 = .ok (.newarray .long, 2) := by decide +kernel
theorem d_W_law_39 : decode b_W_law 39 = .ok (.astore_n 3, 1) := by decide +kernel
theorem d_W_law_40 : decode b_W_law 40 = .ok (.iconst 2, 1) := by decide +kernel
theorem d_W_law_41 : decode b_W_law 41 = .ok (.istore 4, 2) := by decide +kernel
theorem d_W_law_43 : decode b_W_law 43 = .ok (.iload 4, 2) := by decide +kernel
theorem d_W_law_45 : decode b_W_law 45 = .ok (.aload_n 0, 1) := by decide +kernel
theorem d_W_law_46 : decode b_W_law 46 = .ok (.arraylength, 1) := by decide +kernel
theorem d_W_law_47 : decode b_W_law 47 = .ok (.iconst 3, 1) := by decide +kernel
theorem d_W_law_48 : decode b_W_law 48 = .ok (.isub, 1) := by decide +kernel
theorem d_W_law_49 : decode b_W_law 49 = .ok (.if_icmp .gt 436, 3) := by decide +kernel
theorem d_W_law_52 : decode b_W_law 52 = .ok (.aload_n 0, 1) := by decide +kernel
theorem d_W_law_53 : decode b_W_law 53 = .ok (.iload 4, 2) := by decide +kernel
theorem d_W_law_55 : decode b_W_law 55 = .ok (.iaload, 1) := by decide +kernel
theorem d_W_law_56 : decode b_W_law 56 = .ok (.bipush 7, 2) := by decide +kernel
theorem d_W_law_58 : decode b_W_law 58 = .ok (.iand, 1) := by decide +kernel
theorem d_W_law_59 : decode b_W_law 59 = .ok (.tableswitch 420 0 7 #[45, 101, 188, 275, 288, 355, 380, 394], 45) := by decide +kernel
theorem d_W_law_104 : decode b_W_law 104 = .ok (.aload_n 1, 1) := by decide +kernel
theorem d_W_law_105 : decode b_W_law 105 = .ok (.aload_n 0, 1) := by decide +kernel
theorem d_W_law_106 : decode b_W_law 106 = .ok (.iload 4, 2) := by decide +kernel
theorem d_W_law_108 : decode b_W_law 108 = .ok (.iconst 1, 1) := by decide +kernel
theorem d_W_law_109 : decode b_W_law 109 = .ok (.iadd, 1) := by decide +kernel
theorem d_W_law_110 : decode b_W_law 110 = .ok (.iaload, 1) := by decide +kernel
theorem d_W_law_111 : decode b_W_law 111 = .ok (.aload_n 3, 1) := by decide +kernel
theorem d_W_law_112 : decode b_W_law 112 = .ok (.invokestatic 42, 3) := by decide +kernel
theorem d_W_law_115 : decode b_W_law 115 = .ok (.istore 5, 2) := by decide +kernel
theorem d_W_law_117 : decode b_W_law 117 = .ok (.aload_n 2, 1) := by decide +kernel
theorem d_W_law_118 : decode b_W_law 118 = .ok (.aload_n 0, 1) := by decide +kernel
theorem d_W_law_119 : decode b_W_law 119 = .ok (.iload 4, 2) := by decide +kernel
theorem d_W_law_121 : decode b_W_law 121 = .ok (.iconst 1, 1) := by decide +kernel
theorem d_W_law_122 : decode b_W_law 122 = .ok (.iadd, 1) := by decide +kernel
theorem d_W_law_123 : decode b_W_law 123 = .ok (.iaload, 1) := by decide +kernel
theorem d_W_law_124 : decode b_W_law 124 = .ok (.invokevirtual 45, 3) := by decide +kernel
theorem d_W_law_127 : decode b_W_law 127 = .ok (.istore 6, 2) := by decide +kernel
theorem d_W_law_129 : decode b_W_law 129 = .ok (.aload_n 2, 1) := by decide +kernel
theorem d_W_law_130 : decode b_W_law 130 = .ok (.invokevirtual 46, 3) := by decide +kernel
theorem d_W_law_133 : decode b_W_law 133 = .ok (.iload 5, 2) := by decide +kernel
theorem d_W_law_135 : decode b_W_law 135 = .ok (.if_icmp .eq 5, 3) := by decide +kernel
theorem d_W_law_138 : decode b_W_law 138 = .ok (.iconst 0, 1) := by decide +kernel
theorem d_W_law_139 : decode b_W_law 139 = .ok (.ireturn, 1) := by decide +kernel
theorem d_W_law_140 : decode b_W_law 140 = .ok (.iload 5, 2) := by decide +kernel
theorem d_W_law_142 : decode b_W_law 142 = .ok (.ifCond .ne 15, 3) := by decide +kernel
theorem d_W_law_145 : decode b_W_law 145 = .ok (.aload_n 3, 1) := by decide +kernel
theorem d_W_law_146 : decode b_W_law 146 = .ok (.iconst 0, 1) := by decide +kernel
theorem d_W_law_147 : decode b_W_law 147 = .ok (.laload, 1) := by decide +kernel
theorem d_W_law_148 : decode b_W_law 148 = .ok (.iload 6, 2) := by decide +kernel
theorem d_W_law_150 : decode b_W_law 150 = .ok (.i2l, 1) := by decide +kernel
theorem d_W_law_151 : decode b_W_law 151 = .ok (.lcmp, 1) := by decide +kernel
theorem d_W_law_152 : decode b_W_law 152 = .ok (.ifCond .eq 5, 3) := by decide +kernel
theorem d_W_law_155 : decode b_W_law 155 = .ok (.iconst 0, 1) := by decide +kernel
theorem d_W_law_156 : decode b_W_law 156 = .ok (.ireturn, 1) := by decide +kernel
theorem d_W_law_157 : decode b_W_law 157 = .ok (.goto 322, 3) := by decide +kernel
theorem d_W_law_160 : decode b_W_law 160 = .ok (.aload_n 1, 1) := by decide +kernel
theorem d_W_law_161 : decode b_W_law 161 = .ok (.aload_n 0, 1) := by decide +kernel
theorem d_W_law_162 : decode b_W_law 162 = .ok (.iload 4, 2) := by decide +kernel
theorem d_W_law_164 : decode b_W_law 164 = .ok (.iconst 1, 1) := by decide +kernel
theorem d_W_law_165 : decode b_W_law 165 = .ok (.iadd, 1) := by decide +kernel
theorem d_W_law_166 : decode b_W_law 166 = .ok (.iaload, 1) := by decide +kernel
theorem d_W_law_167 : decode b_W_law 167 = .ok (.i2l, 1) := by decide +kernel
theorem d_W_law_168 : decode b_W_law 168 = .ok (.bipush 32, 2) := by decide +kernel
theorem d_W_law_170 : decode b_W_law 170 = .ok (.lshl, 1) := by decide +kernel
theorem d_W_law_171 : decode b_W_law 171 = .ok (.aload_n 0, 1) := by decide +kernel
theorem d_W_law_172 : decode b_W_law 172 = .ok (.iload 4, 2) := by decide +kernel
theorem d_W_law_174 : decode b_W_law 174 = .ok (.iconst 2, 1) := by decide +kernel
theorem d_W_law_175 : decode b_W_law 175 = .ok (.iadd, 1) := by decide +kernel
theorem d_W_law_176 : decode b_W_law 176 = .ok (.iaload, 1) := by decide +kernel
theorem d_W_law_177 : decode b_W_law 177 = .ok (.i2l, 1) := by decide +kernel
theorem d_W_law_178 : decode b_W_law 178 = .ok (.ldc2_w 50, 3) := by decide +kernel
theorem d_W_law_181 : decode b_W_law 181 = .ok (.land, 1) := by decide +kernel
theorem d_W_law_182 : decode b_W_law 182 = .ok (.lor, 1) := by decide +kernel
theorem d_W_law_183 : decode b_W_law 183 = .ok (.aload_n 3, 1) := by decide +kernel
theorem d_W_law_184 : decode b_W_law 184 = .ok (.invokestatic 52, 3) := by decide +kernel
theorem d_W_law_187 : decode b_W_law 187 = .ok (.istore 5, 2) := by decide +kernel
theorem d_W_law_189 : decode b_W_law 189 = .ok (.aload_n 2, 1) := by decide +kernel
theorem d_W_law_190 : decode b_W_law 190 = .ok (.aload_n 0, 1) := by decide +kernel
theorem d_W_law_191 : decode b_W_law 191 = .ok (.iload 4, 2) := by decide +kernel
theorem d_W_law_193 : decode b_W_law 193 = .ok (.iconst 1, 1) := by decide +kernel
theorem d_W_law_194 : decode b_W_law 194 = .ok (.iadd, 1) := by decide +kernel
theorem d_W_law_195 : decode b_W_law 195 = .ok (.iaload, 1) := by decide +kernel
theorem d_W_law_196 : decode b_W_law 196 = .ok (.i2l, 1) := by decide +kernel
theorem d_W_law_197 : decode b_W_law 197 = .ok (.bipush 32, 2) := by decide +kernel
theorem d_W_law_199 : decode b_W_law 199 = .ok (.lshl, 1) := by decide +kernel
theorem d_W_law_200 : decode b_W_law 200 = .ok (.aload_n 0, 1) := by decide +kernel
theorem d_W_law_201 : decode b_W_law 201 = .ok (.iload 4, 2) := by decide +kernel
theorem d_W_law_203 : decode b_W_law 203 = .ok (.iconst 2, 1) := by decide +kernel
theorem d_W_law_204 : decode b_W_law 204 = .ok (.iadd, 1) := by decide +kernel
theorem d_W_law_205 : decode b_W_law 205 = .ok (.iaload, 1) := by decide +kernel
theorem d_W_law_206 : decode b_W_law 206 = .ok (.i2l, 1) := by decide +kernel
theorem d_W_law_207 : decode b_W_law 207 = .ok (.ldc2_w 50, 3) := by decide +kernel
theorem d_W_law_210 : decode b_W_law 210 = .ok (.land, 1) := by decide +kernel
theorem d_W_law_211 : decode b_W_law 211 = .ok (.lor, 1) := by decide +kernel
theorem d_W_law_212 : decode b_W_law 212 = .ok (.invokevirtual 55, 3) := by decide +kernel
theorem d_W_law_215 : decode b_W_law 215 = .ok (.lstore 6, 2) := by decide +kernel
theorem d_W_law_217 : decode b_W_law 217 = .ok (.aload_n 2, 1) := by decide +kernel
theorem d_W_law_218 : decode b_W_law 218 = .ok (.invokevirtual 46, 3) := by decide +kernel
theorem d_W_law_221 : decode b_W_law 221 = .ok (.iload 5, 2) := by decide +kernel
theorem d_W_law_223 : decode b_W_law 223 = .ok (.if_icmp .eq 5, 3) := by decide +kernel
theorem d_W_law_226 : decode b_W_law 226 = .ok (.iconst 0, 1) := by decide +kernel
theorem d_W_law_227 : decode b_W_law 227 = .ok (.ireturn, 1) := by decide +kernel
theorem d_W_law_228 : decode b_W_law 228 = .ok (.iload 5, 2) := by decide +kernel
theorem d_W_law_230 : decode b_W_law 230 = .ok (.ifCond .ne 14, 3) := by decide +kernel
theorem d_W_law_233 : decode b_W_law 233 = .ok (.aload_n 3, 1) := by decide +kernel
theorem d_W_law_234 : decode b_W_law 234 = .ok (.iconst 0, 1) := by decide +kernel
theorem d_W_law_235 : decode b_W_law 235 = .ok (.laload, 1) := by decide +kernel
theorem d_W_law_236 : decode b_W_law 236 = .ok (.lload 6, 2) := by decide +kernel
theorem d_W_law_238 : decode b_W_law 238 = .ok (.lcmp, 1) := by decide +kernel
theorem d_W_law_239 : decode b_W_law 239 = .ok (.ifCond .eq 5, 3) := by decide +kernel
theorem d_W_law_242 : decode b_W_law 242 = .ok (.iconst 0, 1) := by decide +kernel
theorem d_W_law_243 : decode b_W_law 243 = .ok (.ireturn, 1) := by decide +kernel
theorem d_W_law_244 : decode b_W_law 244 = .ok (.goto 235, 3) := by decide +kernel
theorem d_W_law_247 : decode b_W_law 247 = .ok (.aload_n 1, 1) := by decide +kernel
theorem d_W_law_248 : decode b_W_law 248 = .ok (.aload_n 0, 1) := by decide +kernel
theorem d_W_law_249 : decode b_W_law 249 = .ok (.iload 4, 2) := by decide +kernel
theorem d_W_law_251 : decode b_W_law 251 = .ok (.iconst 1, 1) := by decide +kernel
theorem d_W_law_252 : decode b_W_law 252 = .ok (.iadd, 1) := by decide +kernel
theorem d_W_law_253 : decode b_W_law 253 = .ok (.iaload, 1) := by decide +kernel
theorem d_W_law_254 : decode b_W_law 254 = .ok (.i2l, 1) := by decide +kernel
theorem d_W_law_255 : decode b_W_law 255 = .ok (.bipush 32, 2) := by decide +kernel
theorem d_W_law_257 : decode b_W_law 257 = .ok (.lshl, 1) := by decide +kernel
theorem d_W_law_258 : decode b_W_law 258 = .ok (.aload_n 0, 1) := by decide +kernel
theorem d_W_law_259 : decode b_W_law 259 = .ok (.iload 4, 2) := by decide +kernel
theorem d_W_law_261 : decode b_W_law 261 = .ok (.iconst 2, 1) := by decide +kernel
theorem d_W_law_262 : decode b_W_law 262 = .ok (.iadd, 1) := by decide +kernel
theorem d_W_law_263 : decode b_W_law 263 = .ok (.iaload, 1) := by decide +kernel
theorem d_W_law_264 : decode b_W_law 264 = .ok (.i2l, 1) := by decide +kernel
theorem d_W_law_265 : decode b_W_law 265 = .ok (.ldc2_w 50, 3) := by decide +kernel
theorem d_W_law_268 : decode b_W_law 268 = .ok (.land, 1) := by decide +kernel
theorem d_W_law_269 : decode b_W_law 269 = .ok (.lor, 1) := by decide +kernel
theorem d_W_law_270 : decode b_W_law 270 = .ok (.aload_n 3, 1) := by decide +kernel
theorem d_W_law_271 : decode b_W_law 271 = .ok (.invokestatic 56, 3) := by decide +kernel
theorem d_W_law_274 : decode b_W_law 274 = .ok (.istore 5, 2) := by decide +kernel
theorem d_W_law_276 : decode b_W_law 276 = .ok (.aload_n 2, 1) := by decide +kernel
theorem d_W_law_277 : decode b_W_law 277 = .ok (.aload_n 0, 1) := by decide +kernel
theorem d_W_law_278 : decode b_W_law 278 = .ok (.iload 4, 2) := by decide +kernel
theorem d_W_law_280 : decode b_W_law 280 = .ok (.iconst 1, 1) := by decide +kernel
theorem d_W_law_281 : decode b_W_law 281 = .ok (.iadd, 1) := by decide +kernel
theorem d_W_law_282 : decode b_W_law 282 = .ok (.iaload, 1) := by decide +kernel
theorem d_W_law_283 : decode b_W_law 283 = .ok (.i2l, 1) := by decide +kernel
theorem d_W_law_284 : decode b_W_law 284 = .ok (.bipush 32, 2) := by decide +kernel
theorem d_W_law_286 : decode b_W_law 286 = .ok (.lshl, 1) := by decide +kernel
theorem d_W_law_287 : decode b_W_law 287 = .ok (.aload_n 0, 1) := by decide +kernel
theorem d_W_law_288 : decode b_W_law 288 = .ok (.iload 4, 2) := by decide +kernel
theorem d_W_law_290 : decode b_W_law 290 = .ok (.iconst 2, 1) := by decide +kernel
theorem d_W_law_291 : decode b_W_law 291 = .ok (.iadd, 1) := by decide +kernel
theorem d_W_law_292 : decode b_W_law 292 = .ok (.iaload, 1) := by decide +kernel
theorem d_W_law_293 : decode b_W_law 293 = .ok (.i2l, 1) := by decide +kernel
theorem d_W_law_294 : decode b_W_law 294 = .ok (.ldc2_w 50, 3) := by decide +kernel
theorem d_W_law_297 : decode b_W_law 297 = .ok (.land, 1) := by decide +kernel
theorem d_W_law_298 : decode b_W_law 298 = .ok (.lor, 1) := by decide +kernel
theorem d_W_law_299 : decode b_W_law 299 = .ok (.invokevirtual 58, 3) := by decide +kernel
theorem d_W_law_302 : decode b_W_law 302 = .ok (.lstore 6, 2) := by decide +kernel
theorem d_W_law_304 : decode b_W_law 304 = .ok (.aload_n 2, 1) := by decide +kernel
theorem d_W_law_305 : decode b_W_law 305 = .ok (.invokevirtual 46, 3) := by decide +kernel
theorem d_W_law_308 : decode b_W_law 308 = .ok (.iload 5, 2) := by decide +kernel
theorem d_W_law_310 : decode b_W_law 310 = .ok (.if_icmp .eq 5, 3) := by decide +kernel
theorem d_W_law_313 : decode b_W_law 313 = .ok (.iconst 0, 1) := by decide +kernel
theorem d_W_law_314 : decode b_W_law 314 = .ok (.ireturn, 1) := by decide +kernel
theorem d_W_law_315 : decode b_W_law 315 = .ok (.iload 5, 2) := by decide +kernel
theorem d_W_law_317 : decode b_W_law 317 = .ok (.ifCond .ne 14, 3) := by decide +kernel
theorem d_W_law_320 : decode b_W_law 320 = .ok (.aload_n 3, 1) := by decide +kernel
theorem d_W_law_321 : decode b_W_law 321 = .ok (.iconst 0, 1) := by decide +kernel
theorem d_W_law_322 : decode b_W_law 322 = .ok (.laload, 1) := by decide +kernel
theorem d_W_law_323 : decode b_W_law 323 = .ok (.lload 6, 2) := by decide +kernel
theorem d_W_law_325 : decode b_W_law 325 = .ok (.lcmp, 1) := by decide +kernel
theorem d_W_law_326 : decode b_W_law 326 = .ok (.ifCond .eq 5, 3) := by decide +kernel
theorem d_W_law_329 : decode b_W_law 329 = .ok (.iconst 0, 1) := by decide +kernel
theorem d_W_law_330 : decode b_W_law 330 = .ok (.ireturn, 1) := by decide +kernel
theorem d_W_law_331 : decode b_W_law 331 = .ok (.goto 148, 3) := by decide +kernel
theorem d_W_law_334 : decode b_W_law 334 = .ok (.aload_n 1, 1) := by decide +kernel
theorem d_W_law_335 : decode b_W_law 335 = .ok (.invokevirtual 59, 3) := by decide +kernel
theorem d_W_law_338 : decode b_W_law 338 = .ok (.aload_n 2, 1) := by decide +kernel
theorem d_W_law_339 : decode b_W_law 339 = .ok (.invokevirtual 62, 3) := by decide +kernel
theorem d_W_law_342 : decode b_W_law 342 = .ok (.if_icmp .eq 137, 3) := by decide +kernel
theorem d_W_law_345 : decode b_W_law 345 = .ok (.iconst 0, 1) := by decide +kernel
theorem d_W_law_346 : decode b_W_law 346 = .ok (.ireturn, 1) := by decide +kernel
theorem d_W_law_347 : decode b_W_law 347 = .ok (.aload_n 1, 1) := by decide +kernel
theorem d_W_law_348 : decode b_W_law 348 = .ok (.aload_n 0, 1) := by decide +kernel
theorem d_W_law_349 : decode b_W_law 349 = .ok (.iload 4, 2) := by decide +kernel
theorem d_W_law_351 : decode b_W_law 351 = .ok (.iconst 1, 1) := by decide +kernel
theorem d_W_law_352 : decode b_W_law 352 = .ok (.iadd, 1) := by decide +kernel
theorem d_W_law_353 : decode b_W_law 353 = .ok (.iaload, 1) := by decide +kernel
theorem d_W_law_354 : decode b_W_law 354 = .ok (.aload_n 0, 1) := by decide +kernel
theorem d_W_law_355 : decode b_W_law 355 = .ok (.iload 4, 2) := by decide +kernel
theorem d_W_law_357 : decode b_W_law 357 = .ok (.iconst 2, 1) := by decide +kernel
theorem d_W_law_358 : decode b_W_law 358 = .ok (.iadd, 1) := by decide +kernel
theorem d_W_law_359 : decode b_W_law 359 = .ok (.iaload, 1) := by decide +kernel
theorem d_W_law_360 : decode b_W_law 360 = .ok (.aload_n 3, 1) := by decide +kernel
theorem d_W_law_361 : decode b_W_law 361 = .ok (.invokestatic 63, 3) := by decide +kernel
theorem d_W_law_364 : decode b_W_law 364 = .ok (.istore 5, 2) := by decide +kernel
theorem d_W_law_366 : decode b_W_law 366 = .ok (.aload_n 2, 1) := by decide +kernel
theorem d_W_law_367 : decode b_W_law 367 = .ok (.aload_n 0, 1) := by decide +kernel
theorem d_W_law_368 : decode b_W_law 368 = .ok (.iload 4, 2) := by decide +kernel
theorem d_W_law_370 : decode b_W_law 370 = .ok (.iconst 1, 1) := by decide +kernel
theorem d_W_law_371 : decode b_W_law 371 = .ok (.iadd, 1) := by decide +kernel
theorem d_W_law_372 : decode b_W_law 372 = .ok (.iaload, 1) := by decide +kernel
theorem d_W_law_373 : decode b_W_law 373 = .ok (.aload_n 0, 1) := by decide +kernel
theorem d_W_law_374 : decode b_W_law 374 = .ok (.iload 4, 2) := by decide +kernel
theorem d_W_law_376 : decode b_W_law 376 = .ok (.iconst 2, 1) := by decide +kernel
theorem d_W_law_377 : decode b_W_law 377 = .ok (.iadd, 1) := by decide +kernel
theorem d_W_law_378 : decode b_W_law 378 = .ok (.iaload, 1) := by decide +kernel
theorem d_W_law_379 : decode b_W_law 379 = .ok (.invokevirtual 66, 3) := by decide +kernel
theorem d_W_law_382 : decode b_W_law 382 = .ok (.lstore 6, 2) := by decide +kernel
theorem d_W_law_384 : decode b_W_law 384 = .ok (.aload_n 2, 1) := by decide +kernel
theorem d_W_law_385 : decode b_W_law 385 = .ok (.invokevirtual 46, 3) := by decide +kernel
theorem d_W_law_388 : decode b_W_law 388 = .ok (.iload 5, 2) := by decide +kernel
theorem d_W_law_390 : decode b_W_law 390 = .ok (.if_icmp .eq 5, 3) := by decide +kernel
theorem d_W_law_393 : decode b_W_law 393 = .ok (.iconst 0, 1) := by decide +kernel
theorem d_W_law_394 : decode b_W_law 394 = .ok (.ireturn, 1) := by decide +kernel
theorem d_W_law_395 : decode b_W_law 395 = .ok (.iload 5, 2) := by decide +kernel
theorem d_W_law_397 : decode b_W_law 397 = .ok (.ifCond .ne 14, 3) := by decide +kernel
theorem d_W_law_400 : decode b_W_law 400 = .ok (.aload_n 3, 1) := by decide +kernel
theorem d_W_law_401 : decode b_W_law 401 = .ok (.iconst 0, 1) := by decide +kernel
theorem d_W_law_402 : decode b_W_law 402 = .ok (.laload, 1) := by decide +kernel
theorem d_W_law_403 : decode b_W_law 403 = .ok (.lload 6, 2) := by decide +kernel
theorem d_W_law_405 : decode b_W_law 405 = .ok (.lcmp, 1) := by decide +kernel
theorem d_W_law_406 : decode b_W_law 406 = .ok (.ifCond .eq 5, 3) := by decide +kernel
theorem d_W_law_409 : decode b_W_law 409 = .ok (.iconst 0, 1) := by decide +kernel
theorem d_W_law_410 : decode b_W_law 410 = .ok (.ireturn, 1) := by decide +kernel
theorem d_W_law_411 : decode b_W_law 411 = .ok (.goto 68, 3) := by decide +kernel
theorem d_W_law_414 : decode b_W_law 414 = .ok (.aload_n 1, 1) := by decide +kernel
theorem d_W_law_415 : decode b_W_law 415 = .ok (.aload_n 0, 1) := by decide +kernel
theorem d_W_law_416 : decode b_W_law 416 = .ok (.iload 4, 2) := by decide +kernel
theorem d_W_law_418 : decode b_W_law 418 = .ok (.iconst 1, 1) := by decide +kernel
theorem d_W_law_419 : decode b_W_law 419 = .ok (.iadd, 1) := by decide +kernel
theorem d_W_law_420 : decode b_W_law 420 = .ok (.iaload, 1) := by decide +kernel
theorem d_W_law_421 : decode b_W_law 421 = .ok (.invokevirtual 67, 3) := by decide +kernel
theorem d_W_law_424 : decode b_W_law 424 = .ok (.aload_n 2, 1) := by decide +kernel
theorem d_W_law_425 : decode b_W_law 425 = .ok (.aload_n 0, 1) := by decide +kernel
theorem d_W_law_426 : decode b_W_law 426 = .ok (.iload 4, 2) := by decide +kernel
theorem d_W_law_428 : decode b_W_law 428 = .ok (.iconst 1, 1) := by decide +kernel
theorem d_W_law_429 : decode b_W_law 429 = .ok (.iadd, 1) := by decide +kernel
theorem d_W_law_430 : decode b_W_law 430 = .ok (.iaload, 1) := by decide +kernel
theorem d_W_law_431 : decode b_W_law 431 = .ok (.invokevirtual 70, 3) := by decide +kernel
theorem d_W_law_434 : decode b_W_law 434 = .ok (.if_icmp .eq 45, 3) := by decide +kernel
theorem d_W_law_437 : decode b_W_law 437 = .ok (.iconst 0, 1) := by decide +kernel
theorem d_W_law_438 : decode b_W_law 438 = .ok (.ireturn, 1) := by decide +kernel
theorem d_W_law_439 : decode b_W_law 439 = .ok (.aload_n 1, 1) := by decide +kernel
theorem d_W_law_440 : decode b_W_law 440 = .ok (.invokevirtual 71, 3) := by decide +kernel
theorem d_W_law_443 : decode b_W_law 443 = .ok (.aload_n 2, 1) := by decide +kernel
theorem d_W_law_444 : decode b_W_law 444 = .ok (.invokevirtual 75, 3) := by decide +kernel
theorem d_W_law_447 : decode b_W_law 447 = .ok (.lcmp, 1) := by decide +kernel
theorem d_W_law_448 : decode b_W_law 448 = .ok (.ifCond .eq 31, 3) := by decide +kernel
theorem d_W_law_451 : decode b_W_law 451 = .ok (.iconst 0, 1) := by decide +kernel
theorem d_W_law_452 : decode b_W_law 452 = .ok (.ireturn, 1) := by decide +kernel
theorem d_W_law_453 : decode b_W_law 453 = .ok (.aload_n 1, 1) := by decide +kernel
theorem d_W_law_454 : decode b_W_law 454 = .ok (.aload_n 0, 1) := by decide +kernel
theorem d_W_law_455 : decode b_W_law 455 = .ok (.iload 4, 2) := by decide +kernel
theorem d_W_law_457 : decode b_W_law 457 = .ok (.iconst 1, 1) := by decide +kernel
theorem d_W_law_458 : decode b_W_law 458 = .ok (.iadd, 1) := by decide +kernel
theorem d_W_law_459 : decode b_W_law 459 = .ok (.iaload, 1) := by decide +kernel
theorem d_W_law_460 : decode b_W_law 460 = .ok (.invokevirtual 76, 3) := by decide +kernel
theorem d_W_law_463 : decode b_W_law 463 = .ok (.aload_n 2, 1) := by decide +kernel
theorem d_W_law_464 : decode b_W_law 464 = .ok (.aload_n 0, 1) := by decide +kernel
theorem d_W_law_465 : decode b_W_law 465 = .ok (.iload 4, 2) := by decide +kernel
theorem d_W_law_467 : decode b_W_law 467 = .ok (.iconst 1, 1) := by decide +kernel
theorem d_W_law_468 : decode b_W_law 468 = .ok (.iadd, 1) := by decide +kernel
theorem d_W_law_469 : decode b_W_law 469 = .ok (.iaload, 1) := by decide +kernel
theorem d_W_law_470 : decode b_W_law 470 = .ok (.invokevirtual 80, 3) := by decide +kernel
theorem d_W_law_473 : decode b_W_law 473 = .ok (.lcmp, 1) := by decide +kernel
theorem d_W_law_474 : decode b_W_law 474 = .ok (.ifCond .eq 5, 3) := by decide +kernel
theorem d_W_law_477 : decode b_W_law 477 = .ok (.iconst 0, 1) := by decide +kernel
theorem d_W_law_478 : decode b_W_law 478 = .ok (.ireturn, 1) := by decide +kernel
theorem d_W_law_479 : decode b_W_law 479 = .ok (.iinc 4 3, 3) := by decide +kernel
theorem d_W_law_482 : decode b_W_law 482 = .ok (.goto (-439), 3) := by decide +kernel
theorem d_W_law_485 : decode b_W_law 485 = .ok (.iconst 1, 1) := by decide +kernel
theorem d_W_law_486 : decode b_W_law 486 = .ok (.ireturn, 1) := by decide +kernel
end
section
section AgRows
variable {p : Program} {l : Launch} {e : Env} {R : Room} {s : State} {m : MethodId} {args : Array Value} {below : List Frame} {meth : Method} {c : Code} {H : Heap} {locs : List Loc} {cells slots : Nat} {Q : State → Prop} {cc : ByteArray} {pc : Nat} {ls : Array Slot} {rest : List Value}
theorem ag_topi {x : Int32} (y : Int32) (h : x = y) (k : W p l e R s m args below meth c H locs cells slots Q (F0 m pc ls (.int y :: rest))) : W p l e R s m args below meth c H locs cells slots Q (F0 m pc ls (.int x :: rest)) := h ▸ k
theorem ag_topl {x : Int64} (y : Int64) (h : x = y) (k : W p l e R s m args below meth c H locs cells slots Q (F0 m pc ls (.long y :: rest))) : W p l e R s m args below meth c H locs cells slots Q (F0 m pc ls (.long x :: rest)) := h ▸ k
theorem ag_mono {Q' : State → Prop} {g : JFrame} (h : ∀ t, Q t → Q' t) (k : W p l e R s m args below meth c H locs cells slots Q g) : W p l e R s m args below meth c H locs cells slots Q' g := fun T hT X => by
  obtain ⟨t, a, b⟩ := k T hT X
  exact ⟨t, a, h t b⟩
theorem ag_iconst (hx : p.tables.exec = Jvm.exec) (hb : c.code = cc) {n : Int} (v : Nat) (hdg : decode cc pc = .ok (.iconst n, 1)) (hv : Int32.ofInt n = nI v) (k : W p l e R s m args below meth c H locs cells slots Q (F0 m (pc + 1) ls (.int (nI v) :: rest))) : W p l e R s m args below meth c H locs cells slots Q (F0 m pc ls rest) := lv_iconst hx hb hdg hv k
theorem ag_bipush (hx : p.tables.exec = Jvm.exec) (hb : c.code = cc) {n : Int} (v : Nat) (hdg : decode cc pc = .ok (.bipush n, 2)) (hv : (Int8.ofInt n).toInt32 = nI v) (k : W p l e R s m args below meth c H locs cells slots Q (F0 m (pc + 2) ls (.int (nI v) :: rest))) : W p l e R s m args below meth c H locs cells slots Q (F0 m pc ls rest) := lv_bipush hx hb hdg hv k
theorem ag_sipush (hx : p.tables.exec = Jvm.exec) (hb : c.code = cc) {n : Int} (v : Nat) (hdg : decode cc pc = .ok (.sipush n, 3)) (hv : (Int16.ofInt n).toInt32 = nI v) (k : W p l e R s m args below meth c H locs cells slots Q (F0 m (pc + 3) ls (.int (nI v) :: rest))) : W p l e R s m args below meth c H locs cells slots Q (F0 m pc ls rest) := lv_sipush hx hb hdg hv k
theorem ag_lconst (hx : p.tables.exec = Jvm.exec) (hb : c.code = cc) {n : Fin 2} (v : Nat) (hdg : decode cc pc = .ok (.lconst n, 1)) (hv : Int64.ofNat (n : Nat) = lN v) (k : W p l e R s m args below meth c H locs cells slots Q (F0 m (pc + 1) ls (.long (lN v) :: rest))) : W p l e R s m args below meth c H locs cells slots Q (F0 m pc ls rest) := lv_lconst hx hb hdg hv k
theorem ag_icmp_ge (hx : p.tables.exec = Jvm.exec) (hb : c.code = cc) {a b : Nat} {off : Int} {tgt : Nat} (hdg : decode cc pc = .ok (.if_icmp .ge off, 3)) (ht : (pc : Int) + off = (tgt : Int)) (ha : a < 2 ^ 31) (hb2 : b < 2 ^ 31)
    (kt : b ≤ a → W p l e R s m args below meth c H locs cells slots Q (F0 m tgt ls rest)) (kf : a < b → W p l e R s m args below meth c H locs cells slots Q (F0 m (pc + 3) ls rest)) : W p l e R s m args below meth c H locs cells slots Q (F0 m pc ls (.int (nI b) :: .int (nI a) :: rest)) :=
  lv_icmp_ge hx hb hdg ht (fun h => kt ((nI_leI hb2 ha).mp h)) (fun h => kf (by have := mt (nI_leI hb2 ha).mpr h; omega))
theorem ag_icmp_lt (hx : p.tables.exec = Jvm.exec) (hb : c.code = cc) {a b : Nat} {off : Int} {tgt : Nat} (hdg : decode cc pc = .ok (.if_icmp .lt off, 3)) (ht : (pc : Int) + off = (tgt : Int)) (ha : a < 2 ^ 31) (hb2 : b < 2 ^ 31)
    (kt : a < b → W p l e R s m args below meth c H locs cells slots Q (F0 m tgt ls rest)) (kf : b ≤ a → W p l e R s m args below meth c H locs cells slots Q (F0 m (pc + 3) ls rest)) : W p l e R s m args below meth c H locs cells slots Q (F0 m pc ls (.int (nI b) :: .int (nI a) :: rest)) :=
  lv_icmp_lt hx hb hdg ht (fun h => kt ((nI_ltI ha hb2).mp h)) (fun h => kf (by have := mt (nI_ltI ha hb2).mpr h; omega))
theorem ag_icmp_gt (hx : p.tables.exec = Jvm.exec) (hb : c.code = cc) {a b : Nat} {off : Int} {tgt : Nat} (hdg : decode cc pc = .ok (.if_icmp .gt off, 3)) (ht : (pc : Int) + off = (tgt : Int)) (ha : a < 2 ^ 31) (hb2 : b < 2 ^ 31)
    (kt : b < a → W p l e R s m args below meth c H locs cells slots Q (F0 m tgt ls rest)) (kf : a ≤ b → W p l e R s m args below meth c H locs cells slots Q (F0 m (pc + 3) ls rest)) : W p l e R s m args below meth c H locs cells slots Q (F0 m pc ls (.int (nI b) :: .int (nI a) :: rest)) :=
  lv_icmp_gt hx hb hdg ht (fun h => kt ((nI_ltI hb2 ha).mp h)) (fun h => kf (by have := mt (nI_ltI hb2 ha).mpr h; omega))
theorem ag_icmp_le (hx : p.tables.exec = Jvm.exec) (hb : c.code = cc) {a b : Nat} {off : Int} {tgt : Nat} (hdg : decode cc pc = .ok (.if_icmp .le off, 3)) (ht : (pc : Int) + off = (tgt : Int)) (ha : a < 2 ^ 31) (hb2 : b < 2 ^ 31)
    (kt : a ≤ b → W p l e R s m args below meth c H locs cells slots Q (F0 m tgt ls rest)) (kf : b < a → W p l e R s m args below meth c H locs cells slots Q (F0 m (pc + 3) ls rest)) : W p l e R s m args below meth c H locs cells slots Q (F0 m pc ls (.int (nI b) :: .int (nI a) :: rest)) :=
  lv_icmp_le hx hb hdg ht (fun h => kt ((nI_leI ha hb2).mp h)) (fun h => kf (by have := mt (nI_leI ha hb2).mpr h; omega))
theorem ag_icmp_ne (hx : p.tables.exec = Jvm.exec) (hb : c.code = cc) {a b : Nat} {off : Int} {tgt : Nat} (hdg : decode cc pc = .ok (.if_icmp .ne off, 3)) (ht : (pc : Int) + off = (tgt : Int)) (ha : a < 2 ^ 31) (hb2 : b < 2 ^ 31)
    (kt : a ≠ b → W p l e R s m args below meth c H locs cells slots Q (F0 m tgt ls rest)) (kf : a = b → W p l e R s m args below meth c H locs cells slots Q (F0 m (pc + 3) ls rest)) : W p l e R s m args below meth c H locs cells slots Q (F0 m pc ls (.int (nI b) :: .int (nI a) :: rest)) :=
  lv_icmp_ne hx hb hdg ht (fun h => kt (mt (nI_eq ha hb2).mpr h)) (fun h => kf ((nI_eq ha hb2).mp h))
theorem ag_if_lt (hx : p.tables.exec = Jvm.exec) (hb : c.code = cc) {a : Nat} {off : Int} {tgt : Nat} (hdg : decode cc pc = .ok (.ifCond .lt off, 3)) (ht : (pc : Int) + off = (tgt : Int)) (ha : a < 2 ^ 31)
    (kf : W p l e R s m args below meth c H locs cells slots Q (F0 m (pc + 3) ls rest)) : W p l e R s m args below meth c H locs cells slots Q (F0 m pc ls (.int (nI a) :: rest)) :=
  lv_if_lt hx hb hdg ht (fun h => absurd h (nI_pos ha)) (fun _ => kf)
theorem ag_if_le (hx : p.tables.exec = Jvm.exec) (hb : c.code = cc) {a : Nat} {off : Int} {tgt : Nat} (hdg : decode cc pc = .ok (.ifCond .le off, 3)) (ht : (pc : Int) + off = (tgt : Int)) (ha : a < 2 ^ 31)
    (kt : a = 0 → W p l e R s m args below meth c H locs cells slots Q (F0 m tgt ls rest)) (kf : 0 < a → W p l e R s m args below meth c H locs cells slots Q (F0 m (pc + 3) ls rest)) : W p l e R s m args below meth c H locs cells slots Q (F0 m pc ls (.int (nI a) :: rest)) :=
  lv_if_le hx hb hdg ht (fun h => kt (by rcases Nat.eq_zero_or_pos a with q | q; exact q; exact absurd h (nI_nle q ha))) (fun h => kf (by rcases Nat.eq_zero_or_pos a with q | q; (subst q; exact absurd (by decide) h); exact q))
-- a compare of longs and the branch behind it
theorem ag_lc_le (hx : p.tables.exec = Jvm.exec) (hb : c.code = cc) {x y : Int64} {off : Int} {tgt : Nat} (hdc : decode cc pc = .ok (.lcmp, 1)) (hdg : decode cc (pc + 1) = .ok (.ifCond .le off, 3)) (ht : ((pc + 1 : Nat) : Int) + off = (tgt : Int))
    (kt : x ≤ y → W p l e R s m args below meth c H locs cells slots Q (F0 m tgt ls rest)) (kf : ¬ x ≤ y → W p l e R s m args below meth c H locs cells slots Q (F0 m (pc + 4) ls rest)) : W p l e R s m args below meth c H locs cells slots Q (F0 m pc ls (.long y :: .long x :: rest)) :=
  W.lcmp hx hb hdc (lv_if_le hx hb hdg ht (fun h => kt ((lg_cmp_le x y).mp h)) (fun h => kf (mt (lg_cmp_le x y).mpr h)))
theorem ag_lc_lt (hx : p.tables.exec = Jvm.exec) (hb : c.code = cc) {x y : Int64} {off : Int} {tgt : Nat} (hdc : decode cc pc = .ok (.lcmp, 1)) (hdg : decode cc (pc + 1) = .ok (.ifCond .lt off, 3)) (ht : ((pc + 1 : Nat) : Int) + off = (tgt : Int))
    (kt : x < y → W p l e R s m args below meth c H locs cells slots Q (F0 m tgt ls rest)) (kf : ¬ x < y → W p l e R s m args below meth c H locs cells slots Q (F0 m (pc + 4) ls rest)) : W p l e R s m args below meth c H locs cells slots Q (F0 m pc ls (.long y :: .long x :: rest)) :=
  W.lcmp hx hb hdc (lv_if_lt hx hb hdg ht (fun h => kt ((lg_cmp_lt x y).mp h)) (fun h => kf (mt (lg_cmp_lt x y).mpr h)))
theorem ag_lc_ge (hx : p.tables.exec = Jvm.exec) (hb : c.code = cc) {x y : Int64} {off : Int} {tgt : Nat} (hdc : decode cc pc = .ok (.lcmp, 1)) (hdg : decode cc (pc + 1) = .ok (.ifCond .ge off, 3)) (ht : ((pc + 1 : Nat) : Int) + off = (tgt : Int))
    (kt : y ≤ x → W p l e R s m args below meth c H locs cells slots Q (F0 m tgt ls rest)) (kf : ¬ y ≤ x → W p l e R s m args below meth c H locs cells slots Q (F0 m (pc + 4) ls rest)) : W p l e R s m args below meth c H locs cells slots Q (F0 m pc ls (.long y :: .long x :: rest)) :=
  W.lcmp hx hb hdc (lv_if_ge hx hb hdg ht (fun h => kt ((lg_cmp_ge x y).mp h)) (fun h => kf (mt (lg_cmp_ge x y).mpr h)))
theorem ag_lc_gt (hx : p.tables.exec = Jvm.exec) (hb : c.code = cc) {x y : Int64} {off : Int} {tgt : Nat} (hdc : decode cc pc = .ok (.lcmp, 1)) (hdg : decode cc (pc + 1) = .ok (.ifCond .gt off, 3)) (ht : ((pc + 1 : Nat) : Int) + off = (tgt : Int))
    (kt : y < x → W p l e R s m args below meth c H locs cells slots Q (F0 m tgt ls rest)) (kf : ¬ y < x → W p l e R s m args below meth c H locs cells slots Q (F0 m (pc + 4) ls rest)) : W p l e R s m args below meth c H locs cells slots Q (F0 m pc ls (.long y :: .long x :: rest)) :=
  W.lcmp hx hb hdc (lv_if_gt hx hb hdg ht (fun h => kt ((lg_cmp_gt x y).mp h)) (fun h => kf (mt (lg_cmp_gt x y).mpr h)))
theorem ag_lc_eq (hx : p.tables.exec = Jvm.exec) (hb : c.code = cc) {x y : Int64} {off : Int} {tgt : Nat} (hdc : decode cc pc = .ok (.lcmp, 1)) (hdg : decode cc (pc + 1) = .ok (.ifCond .eq off, 3)) (ht : ((pc + 1 : Nat) : Int) + off = (tgt : Int))
    (kt : x = y → W p l e R s m args below meth c H locs cells slots Q (F0 m tgt ls rest)) (kf : ¬ x = y → W p l e R s m args below meth c H locs cells slots Q (F0 m (pc + 4) ls rest)) : W p l e R s m args below meth c H locs cells slots Q (F0 m pc ls (.long y :: .long x :: rest)) :=
  W.lcmp hx hb hdc (lv_if_eq hx hb hdg ht (fun h => kt ((lg_cmp_eq x y).mp h)) (fun h => kf (mt (lg_cmp_eq x y).mpr h)))
end AgRows
section AgRows2
variable {p : Program} {l : Launch} {e : Env} {R : Room} {s : State} {m : MethodId} {args : Array Value} {below : List Frame} {meth : Method} {c : Code} {H : Heap} {locs : List Loc} {cells slots : Nat} {Q : State → Prop} {cc : ByteArray} {pc : Nat} {ls : Array Slot} {rest : List Value} {D : va_G} {cl : List vw_C} {tys : List (ClassId × FieldType)} {ws : va_W} {A : Nat → Prop} {H0 : Heap} {a : Nat}
theorem ag_iald (hx : p.tables.exec = Jvm.exec) (hb : c.code = cc) (hK : va_K D cl tys s) (hP : va_P D cl ws H) (q0 t0 : Nat) {cA : ClassId} {n : Nat} {f : Nat → Int32} (ha : ws[q0]? = some (a, .inl (cA, n, .inl f))) (ht : tys[t0]? = some (cA, .int)) {i : Nat} (hi : i < n) (hn : n < 2 ^ 31) (hdg : decode cc pc = .ok (.iaload, 1))
    (kk : W p l e R s m args below meth c H locs cells slots Q (F0 m (pc + 1) ls (.int (f i) :: rest))) : W p l e R s m args below meth c H locs cells slots Q (F0 m pc ls (.int (nI i) :: .ref a :: rest)) :=
  va_iald hx hb hK hP q0 t0 ha ht (vp_in_nI hi hn) hdg (by rw [nI_clamp (by omega)]; exact kk)
theorem ag_lald (hx : p.tables.exec = Jvm.exec) (hb : c.code = cc) (hK : va_K D cl tys s) (hP : va_P D cl ws H) (q0 t0 : Nat) {cA : ClassId} {n : Nat} {f : Nat → Int64} (ha : ws[q0]? = some (a, .inl (cA, n, .inr (.inl f)))) (ht : tys[t0]? = some (cA, .long)) {i : Nat} (hi : i < n) (hn : n < 2 ^ 31) (hdg : decode cc pc = .ok (.laload, 1))
    (kk : W p l e R s m args below meth c H locs cells slots Q (F0 m (pc + 1) ls (.long (f i) :: rest))) : W p l e R s m args below meth c H locs cells slots Q (F0 m pc ls (.int (nI i) :: .ref a :: rest)) :=
  va_lald hx hb hK hP q0 t0 ha ht (vp_in_nI hi hn) hdg (by rw [nI_clamp (by omega)]; exact kk)
theorem ag_iast (hx : p.tables.exec = Jvm.exec) (hb : c.code = cc) (hK : va_K D cl tys s) (hP : va_P D cl ws H) (hD : va_D A ws) (hS : va_S A H0 H locs) (q0 t0 : Nat) {cA : ClassId} {n : Nat} {f : Nat → Int32} (ha : ws[q0]? = some (a, .inl (cA, n, .inl f))) (ht : tys[t0]? = some (cA, .int)) {i : Nat} {x : Int32} (hi : i < n) (hn : n < 2 ^ 31) (hdg : decode cc pc = .ok (.iastore, 1))
    (kk : ∀ (H1 : Heap) (locs1 : List Loc), va_P D cl (ws.set q0 (a, .inl (cA, n, .inl (upd f i x)))) H1 → va_D A (ws.set q0 (a, .inl (cA, n, .inl (upd f i x)))) → va_S A H0 H1 locs1 → W p l e R s m args below meth c H1 locs1 cells slots Q (F0 m (pc + 1) ls rest)) : W p l e R s m args below meth c H locs cells slots Q (F0 m pc ls (.int x :: .int (nI i) :: .ref a :: rest)) :=
  va_iast hx hb hK hP hD hS q0 t0 ha ht (vp_in_nI hi hn) hdg (by rw [nI_clamp (by omega)]; exact kk)
theorem ag_last (hx : p.tables.exec = Jvm.exec) (hb : c.code = cc) (hK : va_K D cl tys s) (hP : va_P D cl ws H) (hD : va_D A ws) (hS : va_S A H0 H locs) (q0 t0 : Nat) {cA : ClassId} {n : Nat} {f : Nat → Int64} (ha : ws[q0]? = some (a, .inl (cA, n, .inr (.inl f)))) (ht : tys[t0]? = some (cA, .long)) {i : Nat} {x : Int64} (hi : i < n) (hn : n < 2 ^ 31) (hdg : decode cc pc = .ok (.lastore, 1))
    (kk : ∀ (H1 : Heap) (locs1 : List Loc), va_P D cl (ws.set q0 (a, .inl (cA, n, .inr (.inl (vp_updL f i x))))) H1 → va_D A (ws.set q0 (a, .inl (cA, n, .inr (.inl (vp_updL f i x))))) → va_S A H0 H1 locs1 → W p l e R s m args below meth c H1 locs1 cells slots Q (F0 m (pc + 1) ls rest)) : W p l e R s m args below meth c H locs cells slots Q (F0 m pc ls (.long x :: .int (nI i) :: .ref a :: rest)) :=
  va_last hx hb hK hP hD hS q0 t0 ha ht (vp_in_nI hi hn) hdg (by rw [nI_clamp (by omega)]; exact kk)
end AgRows2
section AgRows3
variable {p : Program} {l : Launch} {e : Env} {R : Room} {s : State} {m : MethodId} {args : Array Value} {below : List Frame} {meth : Method} {c : Code} {H : Heap} {locs : List Loc} {cells slots : Nat} {Q : State → Prop} {cc : ByteArray} {pc : Nat} {ls : Array Slot} {rest : List Value} {D : va_G} {cl : List vw_C} {tys : List (ClassId × FieldType)} {ws : va_W} {A : Nat → Prop} {H0 : Heap} {a : Nat}
theorem ag_nm1 {k : Nat} (h : k < 2 ^ 31) : ¬ nI k = -1 := fun q => by
  have h1 := nI_pos h
  rw [q] at h1
  exact h1 (by decide)
theorem ag_copyi (hx : p.tables.exec = Jvm.exec) (hb : c.code = cc) (hml : c.maxLocals = ls.size) {own : String} {index : Nat} (hown : s.vm.findClass own = some m.cls) (hlink : (Cond.methodLink own index arraycopyName).before args s = true) (hnat : (Cond.native arraycopyName).before args s = true) (hstat : (Cond.static arraycopyName).before args s = true) (hini : (Cond.initialized "java/lang/System").before args s = true)
    (hK : va_K D cl tys s) (hP : va_P D cl ws H) (hD : va_D A ws) (hS : va_S A H0 H locs) (q0 t0 : Nat) {c0 : ClassId} {n0 : Nat} {f : Nat → Int32} (ha0 : ws[q0]? = some (a, .inl (c0, n0, .inl f))) (ht0 : tys[t0]? = some (c0, .int)) {sp dp n : Nat} (h4 : sp + n ≤ n0) (h5 : dp + n ≤ n0) (hn0 : n0 < 2 ^ 31)
    (hframes : 1 ≤ R.frames) (hlocals : (rest.map fun v => v.category).sum + (nativeFrameWords "java/lang/System" "arraycopy" 5 + 11) ≤ R.locals) (hdg : decode cc pc = .ok (.invokestatic index, 3))
    (kk : ∀ (H1 : Heap) (locs1 : List Loc), va_P D cl (ws.set q0 (a, .inl (c0, n0, .inl (va_cpy f f sp dp n)))) H1 → va_D A (ws.set q0 (a, .inl (c0, n0, .inl (va_cpy f f sp dp n)))) → va_S A H0 H1 locs1 → W p l e R s m args below meth c H1 locs1 cells slots Q (F0 m (pc + 3) ls rest)) :
    W p l e R s m args below meth c H locs cells slots Q (F0 m pc ls (.int (nI n) :: .int (nI dp) :: .ref a :: .int (nI sp) :: .ref a :: rest)) :=
  va_copyi hx hb hml hown hlink hnat hstat hini hK hP hD hS q0 q0 t0 t0 ha0 ha0 ht0 ht0 rfl (nI_pos (by omega)) (nI_pos (by omega)) (nI_pos (by omega)) (by rw [nI_clamp (by omega), nI_clamp (by omega)]; exact h4) (by rw [nI_clamp (by omega), nI_clamp (by omega)]; exact h5) (fun _ _ => rfl) hframes hlocals hdg
    (by rw [nI_clamp (n := sp) (by omega), nI_clamp (n := dp) (by omega), nI_clamp (n := n) (by omega)]; exact kk)
end AgRows3
end
section
section AgCalls
/-- a contract's start: these cells, these classes -/
def ag_at (D : va_G) (cl : List vw_C) (tys : List (ClassId × FieldType)) (sz : Nat) (ws : va_W) : State → Prop := fun U => U.heap.size = sz ∧ va_P D cl ws U.heap ∧ va_K D cl tys U ∧ va_D (fun _ => True) ws
/-- a contract's end: the cells of the new state -/
def ag_to {S : Type} (D : va_G) (cl : List vw_C) (tys : List (ClassId × FieldType)) (A : Nat → Prop) (Wf : S → va_W) : S → State → Prop := fun u t => va_P D cl (Wf u) t.heap ∧ va_K D cl tys t ∧ va_D A (Wf u)
theorem ag_blind {D : va_G} {cl : List vw_C} {tys : List (ClassId × FieldType)} {sz : Nat} {ws : va_W} {av : List Value} : FrameBlind (va_Pc av (ag_at D cl tys sz ws)) := fun a U g mk q => by
  obtain ⟨q0, q1, qP, qK, qD⟩ := q
  exact ⟨q0, q1, qP, va_K.moved (u := U) (U := U.calling g mk a) (Vm.Alike.refl U.vm) qK, qD⟩
theorem ag_pre {D : va_G} {cl : List vw_C} {tys : List (ClassId × FieldType)} {ws : va_W} {A : Nat → Prop} {s : State} {H : Heap} {av : List Value} (hP : va_P D cl ws H) (hK : va_K D cl tys s) (hD : va_D A ws) : ∀ U : State, U.heap = H → s.WarmedH U.vm → va_Pc av (ag_at D cl tys H.size ws) av.toArray U :=
  fun U hU hW => ⟨rfl, by rw [hU], by rw [hU]; exact hP, va_K.moved hW.alike hK, hD.weaken (fun _ _ _ _ => trivial)⟩
variable {p : Program} {l : Launch} {e : Env} {R : Room} {s : State} {m : MethodId} {args : Array Value} {below : List Frame} {meth : Method} {c : Code} {H : Heap} {locs : List Loc} {cells slots : Nat} {Q : State → Prop} {pc : Nat} {ls : Array Slot} {st0 rest : List Value} {D : va_G} {cl : List vw_C} {tys tysC : List (ClassId × FieldType)} {ws wc wr : va_W} {A0 : Nat → Prop} {H0 : Heap} {mc ms : Nat} {a : Array Value}
theorem ag_cli {S : Type} {post : Int32 → S → Prop} {Wf : S → va_W} (hP : va_P D cl ws H) (hD : va_D A0 ws) (hS : va_S A0 H0 H locs) (hA : ∀ q, H0.size ≤ q → A0 q) (isC isR : List Nat) (hC : isC.map (fun i => ws[i]?) = wc.map some) (hR : isR.map (fun i => ws[i]?) = wr.map some) (hn : va_nd isR = true) (hdis : ∀ i ∈ isR, i ∉ isC)
    (hr : va_Run p l e R s m args below meth c H locs cells slots mc ms (F0 m pc ls st0) rest (va_Qi post (ag_to D cl tysC (va_A wc H.size) Wf) (va_A wc H.size) a) (va_A wc H.size))
    (kk : ∀ (r : Int32) (u : S) (H1 : Heap) (locs1 : List Loc), post r u → va_P D cl (wr ++ Wf u) H1 → va_D A0 (wr ++ Wf u) → va_S A0 H0 H1 locs1 → W p l e R s m args below meth c H1 locs1 (cells + mc) (slots + ms) Q (F0 m (pc + 3) ls (.int r :: rest))) : W p l e R s m args below meth c H locs cells slots Q (F0 m pc ls st0) := by
  have hFc := va_free (wc := wc) hD hS hA isC hC
  refine va_calli hr hS (fun q _ h => hFc q h) hFc (fun r u t H1 locs ht hvm hw hB hz1 hk1 hS => ?_)
  obtain ⟨hP1, hK1, hD1⟩ := hB
  rw [ht] at hP1
  obtain ⟨hP, hD⟩ := va_join (wr := wr) (w1 := Wf u) hP hD isC isR hC hR hn hdis hk1 hFc hP1 hD1
  exact kk r u H1 locs hw hP hD hS
theorem ag_cll {S : Type} {post : Int64 → S → Prop} {Wf : S → va_W} (hP : va_P D cl ws H) (hD : va_D A0 ws) (hS : va_S A0 H0 H locs) (hA : ∀ q, H0.size ≤ q → A0 q) (isC isR : List Nat) (hC : isC.map (fun i => ws[i]?) = wc.map some) (hR : isR.map (fun i => ws[i]?) = wr.map some) (hn : va_nd isR = true) (hdis : ∀ i ∈ isR, i ∉ isC)
    (hr : va_Run p l e R s m args below meth c H locs cells slots mc ms (F0 m pc ls st0) rest (va_Ql post (ag_to D cl tysC (va_A wc H.size) Wf) (va_A wc H.size) a) (va_A wc H.size))
    (kk : ∀ (r : Int64) (u : S) (H1 : Heap) (locs1 : List Loc), post r u → va_P D cl (wr ++ Wf u) H1 → va_D A0 (wr ++ Wf u) → va_S A0 H0 H1 locs1 → W p l e R s m args below meth c H1 locs1 (cells + mc) (slots + ms) Q (F0 m (pc + 3) ls (.long r :: rest))) : W p l e R s m args below meth c H locs cells slots Q (F0 m pc ls st0) := by
  have hFc := va_free (wc := wc) hD hS hA isC hC
  refine va_calll hr hS (fun q _ h => hFc q h) hFc (fun r u t H1 locs ht hvm hw hB hz1 hk1 hS => ?_)
  obtain ⟨hP1, hK1, hD1⟩ := hB
  rw [ht] at hP1
  obtain ⟨hP, hD⟩ := va_join (wr := wr) (w1 := Wf u) hP hD isC isR hC hR hn hdis hk1 hFc hP1 hD1
  exact kk r u H1 locs hw hP hD hS
theorem ag_clv {S : Type} {post : S → Prop} {Wf : S → va_W} (hP : va_P D cl ws H) (hD : va_D A0 ws) (hS : va_S A0 H0 H locs) (hA : ∀ q, H0.size ≤ q → A0 q) (isC isR : List Nat) (hC : isC.map (fun i => ws[i]?) = wc.map some) (hR : isR.map (fun i => ws[i]?) = wr.map some) (hn : va_nd isR = true) (hdis : ∀ i ∈ isR, i ∉ isC)
    (hr : va_Run p l e R s m args below meth c H locs cells slots mc ms (F0 m pc ls st0) rest (va_Qv post (ag_to D cl tysC (va_A wc H.size) Wf) (va_A wc H.size) a) (va_A wc H.size))
    (kk : ∀ (u : S) (H1 : Heap) (locs1 : List Loc), post u → va_P D cl (wr ++ Wf u) H1 → va_D A0 (wr ++ Wf u) → va_S A0 H0 H1 locs1 → W p l e R s m args below meth c H1 locs1 (cells + mc) (slots + ms) Q (F0 m (pc + 3) ls rest)) : W p l e R s m args below meth c H locs cells slots Q (F0 m pc ls st0) := by
  have hFc := va_free (wc := wc) hD hS hA isC hC
  refine va_callv hr hS (fun q _ h => hFc q h) hFc (fun u t H1 locs ht hvm hw hB hz1 hk1 hS => ?_)
  obtain ⟨hP1, hK1, hD1⟩ := hB
  rw [ht] at hP1
  obtain ⟨hP, hD⟩ := va_join (wr := wr) (w1 := Wf u) hP hD isC isR hC hR hn hdis hk1 hFc hP1 hD1
  exact kk u H1 locs hw hP hD hS
/-- the ends of a contract -/
theorem ag_reti {cc : ByteArray} {S : Type} {post : Int32 → S → Prop} {Wf : S → va_W} {v : Int32} {A : Nat → Prop} (hx : p.tables.exec = Jvm.exec) (hb : c.code = cc) (hr : meth.sig.returnType = some .int) (hlocks : meth.locks = false) (u : S) (hp : post v u) (hP : va_P D cl (Wf u) H) (hK : va_K D cl tys s) (hD : va_D A (Wf u)) (hS : va_S A s.heap H locs) (hdg : decode cc pc = .ok (.ireturn, 1)) :
    W p l e R s m args below meth c H locs cells slots (MQ below (va_Qi post (ag_to D cl tys A Wf) A) args s cells slots A) (F0 m pc ls [.int v]) :=
  W.iret (v := v) hx hb hr (fun t ht hW => ⟨⟨v, u, rfl, hp, by rw [ht]; exact hP, va_K.moved hW.alike hK, hD⟩, hS.F ht⟩) hS.2.2 hdg hlocks
theorem ag_retl {cc : ByteArray} {S : Type} {post : Int64 → S → Prop} {Wf : S → va_W} {v : Int64} {A : Nat → Prop} (hx : p.tables.exec = Jvm.exec) (hb : c.code = cc) (hr : meth.sig.returnType = some .long) (hlocks : meth.locks = false) (u : S) (hp : post v u) (hP : va_P D cl (Wf u) H) (hK : va_K D cl tys s) (hD : va_D A (Wf u)) (hS : va_S A s.heap H locs) (hdg : decode cc pc = .ok (.lreturn, 1)) :
    W p l e R s m args below meth c H locs cells slots (MQ below (va_Ql post (ag_to D cl tys A Wf) A) args s cells slots A) (F0 m pc ls [.long v]) :=
  W.lret (v := v) hx hb hr (fun t ht hW => ⟨⟨v, u, rfl, hp, by rw [ht]; exact hP, va_K.moved hW.alike hK, hD⟩, hS.F ht⟩) hS.2.2 hdg hlocks
theorem ag_retv {cc : ByteArray} {S : Type} {post : S → Prop} {Wf : S → va_W} {A : Nat → Prop} (hx : p.tables.exec = Jvm.exec) (hb : c.code = cc) (hr : meth.sig.returnType = none) (hlocks : meth.locks = false) (u : S) (hp : post u) (hP : va_P D cl (Wf u) H) (hK : va_K D cl tys s) (hD : va_D A (Wf u)) (hS : va_S A s.heap H locs) (hdg : decode cc pc = .ok (.return_, 1)) :
    W p l e R s m args below meth c H locs cells slots (MQ below (va_Qv post (ag_to D cl tys A Wf) A) args s cells slots A) (F0 m pc ls []) :=
  W.vret hx hb hr (fun t ht hW => ⟨⟨u, rfl, hp, by rw [ht]; exact hP, va_K.moved hW.alike hK, hD⟩, hS.F ht⟩) hS.2.2 hdg hlocks
theorem ag_ofW {y : MethodName} {ws0 ws' : List Cond} {rm : Room} {sz : Nat} {wsc : va_W} {av : List Value} {lv : List (Nat × Value)} {Qf : (Nat → Prop) → Array Value → State → Outcome → State → Prop} {mc ms : Nat} {cc : ByteArray} {maxL : Nat} {ret : Option FieldType}
    (hy : plainName y.cls = true) (hw : ws0 = Cond.code y cc maxL ret :: ws') (hlen : (lg_sl av).length ≤ maxL) (hlv : lv_args 0 av = lv)
    (body : ∀ (p : Program) (e : Env) (s : State) (m : MethodId) (below : List Frame) (meth : Method) (c : Code) (A : Nat → Prop) (ls : Array Slot), p.tables.exec = Jvm.exec → c.code = cc → meth.sig.returnType = ret → (∀ w ∈ ws0, w.before av.toArray s = true) → s.vm.findClass y.cls = some m.cls → meth.locks = false → c.maxLocals = maxL → meth.name = y.name →
      (∀ q : Nat, s.heap.size ≤ q → A q) → va_S A s.heap s.heap [] → va_P D cl wsc s.heap → va_K D cl tys s → va_D A wsc → lv_has ls maxL lv → s.heap.size = sz → W p l e rm s m av.toArray below meth c s.heap [] 0 0 (MQ below (Qf A) av.toArray s mc ms A) (F0 m 0 ls [])) :
    Met l y ws0 rm (va_Pc av (ag_at D cl tys sz wsc)) (Qf (va_A wsc sz)) mc ms (va_A wsc sz) := by
  refine Met.ofW (cc := cc) (maxL := maxL) (ret := ret) hy hw ?_
  intro p e s m args below meth c s₁ B hml hv
  obtain ⟨rfl, hsz, hP, hK, hD0⟩ := hv
  subst hsz
  have hl := lv_entry av (n := maxL) hlen
  rw [hlv] at hl
  rw [lg_entry_eq]
  exact body p e s m below meth c _ _ B.exec B.bytes B.returns (atoms_spec (ws := ws0) B.pre) (findClass_of_methodNamed B.named) B.notSynchronized hml (name_of_methodNamed B.named B.method).1 (fun q h => Or.inr h) va_S.rf hP hK (hD0.self (sz := s.heap.size)) hl rfl
end AgCalls
section AgCw
variable {R : Room} {s : State} {args : Array Value} {own C : String} {index maxL mc ms : Nat} {y : MethodName} {bytes : ByteArray} {ret : Option FieldType} {rm : Room} {c0 : Cond}
theorem ag_cwV (n : Nat) (ht : ∀ w ∈ c0 :: agW, w.before args s = true) (h1 : Cond.methodLink own index y ∈ agW) (h2 : Cond.instanceMethod y ∈ agW) (h3 : Cond.selects C y y ∈ agW) (h4 : Cond.initialized C ∈ agW) (h5 : Cond.code y bytes maxL ret ∈ agW) (hrc : rm.cells = mc) (hrs : rm.slots = ms)
    (hd : y.cls = C ∧ y.cls ≠ "java/lang/invoke/MethodHandle" ∧ y.cls ≠ "java/lang/invoke/VarHandle" ∧ (parseMethodDescriptor y.desc).map (fun d => d.parameters.length) = some n) (hR : rm.frames + 1 ≤ R.frames ∧ 8 + (maxL + 11) + rm.locals ≤ R.locals) :
    CallW R s args own C index y bytes maxL ret (Cond.code y bytes maxL ret :: agW) rm mc ms n :=
  cwV n ht (ag_goodIn (fun w h => by
    simp only [wsV, List.cons_append, List.nil_append, List.mem_cons] at h
    rcases h with rfl | rfl | rfl | rfl | rfl | h
    · exact h1
    · exact h2
    · exact h3
    · exact h4
    · exact h5
    · exact h)) rfl hrc hrs hd hR
theorem ag_cwS (n : Nat) (ht : ∀ w ∈ c0 :: agW, w.before args s = true) (h1 : Cond.methodLink own index y ∈ agW) (h2 : Cond.static y ∈ agW) (h4 : Cond.initialized y.cls ∈ agW) (h5 : Cond.code y bytes maxL ret ∈ agW) (hrc : rm.cells = mc) (hrs : rm.slots = ms)
    (hd : y.cls ≠ "java/lang/invoke/MethodHandle" ∧ y.cls ≠ "java/lang/invoke/VarHandle" ∧ (parseMethodDescriptor y.desc).map (fun d => d.parameters.length) = some n) (hR : rm.frames + 1 ≤ R.frames ∧ 8 + (maxL + 11) + rm.locals ≤ R.locals) :
    CallB R s args own index y bytes maxL ret (Cond.code y bytes maxL ret :: agW) rm mc ms n ∧ (Cond.static y).before args s = true :=
  va_cwS n ht (ag_goodIn (fun w h => by
    simp only [va_wsS, List.cons_append, List.nil_append, List.mem_cons] at h
    rcases h with rfl | rfl | rfl | rfl | h
    · exact h1
    · exact h2
    · exact h4
    · exact h5
    · exact h)) rfl hrc hrs hd hR
end AgCw
end
section
section AgMath
abbrev ag_M : Type := List (Nat × Nat)
/-- a mark numbered i may stay when n is the newest number: wherever R * 2^j reaches to it, 2^j divides it -/
def ag_keep (R n i : Nat) : Prop := ∀ j : Nat, R * 2 ^ j ≤ n - i → 2 ^ j ∣ i
noncomputable def ag_kb (R n : Nat) (x : Nat × Nat) : Bool := @decide (ag_keep R n x.1) (Classical.propDecidable _)
theorem ag_kb_iff {R n : Nat} {x : Nat × Nat} : ag_kb R n x = true ↔ ag_keep R n x.1 := by simp [ag_kb]
/-- k is the least number that no mark has for its slot -/
def ag_lf (ms : ag_M) (k : Nat) : Prop := (k ∉ ms.map (·.2)) ∧ ∀ j, j < k → j ∈ ms.map (·.2)
noncomputable def ag_slot (ms : ag_M) : Nat := Classical.epsilon (ag_lf ms)
theorem ag_slot_eq {ms : ag_M} {k : Nat} (h : ag_lf ms k) : ag_slot ms = k := by
  have h2 : ag_lf ms (ag_slot ms) := Classical.epsilon_spec (p := ag_lf ms) ⟨k, h⟩
  rcases Nat.lt_trichotomy (ag_slot ms) k with q | q | q
  · exact absurd (h.2 _ q) h2.1
  · exact q
  · exact absurd (h2.2 _ q) h.1
theorem ag_in_len : ∀ (N : Nat) (l : List Nat), (∀ k, k < N → k ∈ l) → N ≤ l.length
  | 0, _, _ => Nat.zero_le _
  | N + 1, l, h => by
    have h1 : N ∈ l := h N (Nat.lt_succ_self N)
    have h2 := ag_in_len N (l.erase N) (fun k hk => (List.mem_erase_of_ne (by omega)).mpr (h k (by omega)))
    rw [List.length_erase_of_mem h1] at h2
    have h3 : 0 < l.length := List.length_pos_of_mem h1
    omega
theorem ag_lf_ex (ms : ag_M) : ∃ k, ag_lf ms k ∧ k ≤ ms.length := by
  have h0 : ∃ k, k ∉ ms.map (·.2) := by
    apply Classical.byContradiction
    intro hn
    have h1 := ag_in_len (ms.length + 1) (ms.map (·.2)) (fun k _ => Classical.byContradiction fun q => hn ⟨k, q⟩)
    rw [List.length_map] at h1
    omega
  obtain ⟨k, hk, hl⟩ := pk_least (fun k => k ∉ ms.map (·.2)) h0
  have hl' : ∀ j, j < k → j ∈ ms.map (·.2) := fun j hj => Classical.not_not.mp (hl j hj)
  refine ⟨k, ⟨hk, hl'⟩, ?_⟩
  have h1 := ag_in_len k (ms.map (·.2)) hl'
  rw [List.length_map] at h1
  exact h1
theorem ag_slot_lf (ms : ag_M) : ag_lf ms (ag_slot ms) := by
  obtain ⟨k, h, -⟩ := ag_lf_ex ms
  rw [ag_slot_eq h]
  exact h
theorem ag_slot_le (ms : ag_M) : ag_slot ms ≤ ms.length := by
  obtain ⟨k, h, h2⟩ := ag_lf_ex ms
  rw [ag_slot_eq h]
  exact h2
theorem ag_pig : ∀ (N : Nat) (l : List Nat), l.Nodup → (∀ x ∈ l, x < N) → l.length ≤ N
  | 0, l, _, h => by
    cases l with
    | nil => simp
    | cons a t => exact absurd (h a (by simp)) (by omega)
  | N + 1, l, hn, h => by
    by_cases hm : N ∈ l
    · have h2 := ag_pig N (l.erase N) (hn.erase N) (fun x hx => by
        have h3 := (hn.mem_erase_iff).mp hx
        have h4 := h x h3.2
        have h5 := h3.1
        omega)
      rw [List.length_erase_of_mem hm] at h2
      omega
    · have h2 := ag_pig N l hn (fun x hx => by
        have h3 := h x hx
        have h4 : x ≠ N := fun q => hm (q ▸ hx)
        omega)
      omega
/-- P is the greatest power of 2 in n -/
def ag_p2 (n P : Nat) : Prop := ∃ t, P = 2 ^ t ∧ 2 ^ t ∣ n ∧ ¬ 2 ^ (t + 1) ∣ n
theorem ag_p2_u {n t j : Nat} (h1 : 2 ^ t ∣ n) (h2 : ¬ 2 ^ (t + 1) ∣ n) (h3 : 2 ^ j ∣ n) (h4 : ¬ 2 ^ (j + 1) ∣ n) : t = j := by
  rcases Nat.lt_trichotomy t j with q | q | q
  · exact absurd (Nat.dvd_trans (Nat.pow_dvd_pow 2 (by omega)) h3) h2
  · exact q
  · exact absurd (Nat.dvd_trans (Nat.pow_dvd_pow 2 (by omega)) h1) h4
theorem ag_thin {R n i P : Nat} (hR : 0 < R) (hi : i < n) (hk : ag_keep R (n - 1) i) (hP : ag_p2 n P) : ag_keep R n i ↔ i + 2 * R * P ≠ n := by
  obtain ⟨t, rfl, h1, h2⟩ := hP
  have e2 : ∀ j, R * 2 ^ (j + 1) = 2 * R * 2 ^ j := fun j => by rw [Nat.pow_succ, Nat.mul_comm (2 ^ j) 2, ← Nat.mul_assoc, Nat.mul_comm R 2]
  have dv : ∀ j, 2 ^ (j + 1) ∣ 2 * R * 2 ^ j := fun j => ⟨R, by rw [← e2 j, Nat.mul_comm]⟩
  constructor
  · intro h e
    apply h2
    have h3 := h (t + 1) (by rw [e2]; omega)
    rw [← e]
    exact Nat.dvd_add h3 (dv t)
  · intro hne j hj
    apply Classical.byContradiction
    intro hnd
    have hlt : ¬ R * 2 ^ j ≤ n - 1 - i := fun q => hnd (hk j q)
    have he : n - i = R * 2 ^ j := by omega
    cases j with
    | zero => exact hnd (by simp)
    | succ j =>
      have hp : 0 < R * 2 ^ j := Nat.mul_pos hR (Nat.two_pow_pos j)
      have e3 : R * 2 ^ (j + 1) = R * 2 ^ j + R * 2 ^ j := by rw [e2, Nat.mul_assoc]; omega
      have hd : 2 ^ j ∣ i := hk j (by omega)
      have hn : n = i + 2 * R * 2 ^ j := by rw [← e2]; omega
      have d1 : 2 ^ j ∣ n := by
        rw [hn]
        exact Nat.dvd_add hd (Nat.dvd_mul_left _ _)
      have d2 : ¬ 2 ^ (j + 1) ∣ n := fun q => hnd (by
        rw [hn, Nat.add_comm i] at q
        exact (Nat.dvd_add_right (dv j)).mp q)
      have ht := ag_p2_u h1 h2 d1 d2
      subst ht
      exact hne hn.symm
theorem ag_keep_le {R n n' i : Nat} (h : ag_keep R n i) (hn : n' ≤ n) : ag_keep R n' i := fun j hj => h j (by omega)
theorem ag_keep_self {R n : Nat} (hR : 0 < R) : ag_keep R n n := fun j hj => by
  have := Nat.mul_pos hR (Nat.two_pow_pos j)
  omega
theorem ag_keep_0 {R n : Nat} : ag_keep R n 0 := fun _ _ => Nat.dvd_zero _
/-- the marks, oldest first, when L is the newest number reached -/
def ag_ok (R L : Nat) (ms : ag_M) : Prop := ms.Pairwise (fun a b => a.1 < b.1) ∧ (∀ x ∈ ms, x.1 ≤ L ∧ ag_keep R L x.1) ∧ (ms.map (·.2)).Nodup ∧ ∃ z t, ms = (0, z) :: t
noncomputable def ag_put (R n : Nat) (ms : ag_M) : ag_M := (ms ++ [(n, ag_slot ms)]).filter (ag_kb R n)
theorem ag_filt_erase : ∀ (ms : ag_M) (v k : Nat), ms.Pairwise (fun a b => a.1 < b.1) → ∀ hk : k < ms.length, ms[k].1 = v → ms.filter (fun x => decide (x.1 ≠ v)) = ms.eraseIdx k
  | [], _, _, _, hk, _ => absurd hk (by simp)
  | a :: t, v, 0, hp, _, e => by
    obtain ⟨h1, -⟩ := List.pairwise_cons.mp hp
    have e' : a.1 = v := e
    rw [List.eraseIdx_cons_zero, List.filter_cons_of_neg (by simp [e'])]
    exact List.filter_eq_self.mpr fun x hx => by
      have := h1 x hx
      simp; omega
  | a :: t, v, k + 1, hp, hk, e => by
    obtain ⟨h1, h2⟩ := List.pairwise_cons.mp hp
    have hk' : k < t.length := by simpa using hk
    have e' : t[k].1 = v := e
    have h3 := h1 t[k] (List.getElem_mem hk')
    rw [List.eraseIdx_cons_succ, List.filter_cons_of_pos (by simp; omega), ag_filt_erase t v k h2 hk' e']
theorem ag_put_filt {R L P : Nat} {ms : ag_M} (hR : 0 < R) (h : ag_ok R L ms) (hP : ag_p2 (L + 1) P) : ag_put R (L + 1) ms = (ms ++ [(L + 1, ag_slot ms)]).filter (fun x => decide (x.1 ≠ L + 1 - 2 * R * P ∨ L + 1 < 2 * R * P)) := by
  unfold ag_put
  have hP0 : 0 < P := by obtain ⟨t, rfl, -⟩ := hP; exact Nat.two_pow_pos t
  have hq : 0 < 2 * R * P := Nat.mul_pos (Nat.mul_pos (by decide) hR) hP0
  refine List.filter_congr fun x hx => ?_
  have h1 : ag_keep R (L + 1) x.1 ↔ (x.1 ≠ L + 1 - 2 * R * P ∨ L + 1 < 2 * R * P) := by
    rcases List.mem_append.mp hx with q | q
    · have h2 := h.2.1 x q
      rw [ag_thin (n := L + 1) (i := x.1) hR (by omega) (show ag_keep R (L + 1 - 1) x.1 from h2.2) hP]
      omega
    · have h3 : x = (L + 1, ag_slot ms) := by simpa using q
      subst h3
      refine ⟨fun _ => ?_, fun _ => ag_keep_self hR⟩
      show L + 1 ≠ L + 1 - 2 * R * P ∨ L + 1 < 2 * R * P
      omega
  rw [Bool.eq_iff_iff, ag_kb_iff, h1]
  simp
theorem ag_app_ok {R L : Nat} {ms : ag_M} (h : ag_ok R L ms) : (ms ++ [(L + 1, ag_slot ms)]).Pairwise (fun a b => a.1 < b.1) ∧ ((ms ++ [(L + 1, ag_slot ms)]).map (·.2)).Nodup := by
  refine ⟨List.pairwise_append.mpr ⟨h.1, by simp, fun a ha b hb => ?_⟩, ?_⟩
  · have h1 : b = (L + 1, ag_slot ms) := by simpa using hb
    have h2 := (h.2.1 a ha).1
    subst h1
    show a.1 < L + 1
    omega
  · rw [List.map_append]
    refine List.pairwise_append.mpr ⟨h.2.2.1, by simp, fun a ha b hb => ?_⟩
    have h1 : b = ag_slot ms := by simpa using hb
    intro q
    subst q
    rw [h1] at ha
    exact (ag_slot_lf ms).1 ha
theorem ag_put_ok {R L : Nat} {ms : ag_M} (hR : 0 < R) (h : ag_ok R L ms) : ag_ok R (L + 1) (ag_put R (L + 1) ms) := by
  obtain ⟨h1, h2⟩ := ag_app_ok h
  refine ⟨h1.filter _, fun x hx => ?_, ?_, ?_⟩
  · obtain ⟨h3, h4⟩ := List.mem_filter.mp hx
    refine ⟨?_, ag_kb_iff.mp h4⟩
    rcases List.mem_append.mp h3 with q | q
    · have := (h.2.1 x q).1
      omega
    · have h5 : x = (L + 1, ag_slot ms) := by simpa using q
      subst h5
      exact Nat.le_refl _
  · exact List.Pairwise.sublist ((List.filter_sublist).map _) h2
  · obtain ⟨z, t, rfl⟩ := h.2.2.2
    refine ⟨z, (t ++ [(L + 1, ag_slot ((0, z) :: t))]).filter (ag_kb R (L + 1)), ?_⟩
    unfold ag_put
    rw [List.cons_append, List.filter_cons_of_pos (ag_kb_iff.mpr ag_keep_0)]
theorem ag_cut_ok {R L L' : Nat} {ms : ag_M} (h : ag_ok R L ms) (hL : L' ≤ L) : ag_ok R L' (ms.filter (fun x => decide (x.1 ≤ L'))) := by
  refine ⟨h.1.filter _, fun x hx => ?_, List.Pairwise.sublist ((List.filter_sublist).map _) h.2.2.1, ?_⟩
  · obtain ⟨h3, h4⟩ := List.mem_filter.mp hx
    exact ⟨by simpa using h4, ag_keep_le (h.2.1 x h3).2 hL⟩
  · obtain ⟨z, t, rfl⟩ := h.2.2.2
    exact ⟨z, t.filter (fun x => decide (x.1 ≤ L')), by rw [List.filter_cons_of_pos (by simp)]⟩
/-- a code for each mark: no two marks have one, and they are below 300 -/
def ag_cd (R L i : Nat) : Nat := if L - i < 2 * R then L - i else 2 * R + (((L - i) / R).log2 - 1) * R + (i / 2 ^ ((L - i) / R).log2) % R
theorem ag_cd_big {R d : Nat} (hR : 2 ≤ R) (h : ¬ d < 2 * R) : 1 ≤ (d / R).log2 ∧ R * 2 ^ (d / R).log2 ≤ d ∧ d < 2 * (R * 2 ^ (d / R).log2) := by
  have h1 : 2 ≤ d / R := (Nat.le_div_iff_mul_le (by omega)).mpr (by omega)
  have h0 : d / R ≠ 0 := by omega
  refine ⟨(Nat.le_log2 h0).mpr (by omega), ?_, ?_⟩
  · have h2 := (Nat.le_div_iff_mul_le (by omega)).mp (Nat.log2_self_le h0)
    rw [Nat.mul_comm]
    exact h2
  · have h2 := (Nat.div_lt_iff_lt_mul (by omega)).mp (Nat.lt_log2_self (n := d / R))
    rw [Nat.pow_succ] at h2
    have e : 2 * (R * 2 ^ (d / R).log2) = 2 ^ (d / R).log2 * 2 * R := by
      rw [Nat.mul_comm R, ← Nat.mul_assoc, Nat.mul_comm 2]
    omega
theorem ag_cd_q {R a b j : Nat} (hR : 0 < R) (hab : a ≤ b) (da : 2 ^ j ∣ a) (db : 2 ^ j ∣ b) (hlt : b - a < R * 2 ^ j) (e : (a / 2 ^ j) % R = (b / 2 ^ j) % R) : a = b := by
  obtain ⟨q1, rfl⟩ := da
  obtain ⟨q2, rfl⟩ := db
  have hp := Nat.two_pow_pos j
  rw [Nat.mul_div_cancel_left _ hp, Nat.mul_div_cancel_left _ hp] at e
  have h1 : q1 ≤ q2 := Nat.le_of_mul_le_mul_left hab hp
  have h2 : q2 - q1 < R := by
    rw [← Nat.mul_sub, Nat.mul_comm R] at hlt
    exact Nat.lt_of_mul_lt_mul_left hlt
  have h3 := Nat.sub_mod_eq_zero_of_mod_eq e.symm
  rw [Nat.mod_eq_of_lt h2] at h3
  have h4 : q1 = q2 := by omega
  rw [h4]
theorem ag_cd_inj {R L a b : Nat} (hR : 2 ≤ R) (ha : a ≤ L) (hb : b ≤ L) (ka : ag_keep R L a) (kb : ag_keep R L b) (e : ag_cd R L a = ag_cd R L b) : a = b := by
  unfold ag_cd at e
  by_cases h1 : L - a < 2 * R <;> by_cases h2 : L - b < 2 * R
  · rw [if_pos h1, if_pos h2] at e
    omega
  · rw [if_pos h1, if_neg h2] at e
    omega
  · rw [if_neg h1, if_pos h2] at e
    omega
  · rw [if_neg h1, if_neg h2] at e
    obtain ⟨a1, a2, a3⟩ := ag_cd_big hR h1
    obtain ⟨b1, b2, b3⟩ := ag_cd_big hR h2
    generalize ((L - a) / R).log2 = j at *
    generalize ((L - b) / R).log2 = i at *
    have m1 : (a / 2 ^ j) % R < R := Nat.mod_lt _ (by omega)
    have m2 : (b / 2 ^ i) % R < R := Nat.mod_lt _ (by omega)
    have hji : j = i := by
      rcases Nat.lt_trichotomy j i with q | q | q
      · have := Nat.mul_le_mul_right R (show j - 1 + 1 ≤ i - 1 by omega)
        rw [Nat.add_mul] at this
        omega
      · exact q
      · have := Nat.mul_le_mul_right R (show i - 1 + 1 ≤ j - 1 by omega)
        rw [Nat.add_mul] at this
        omega
    subst hji
    have da := ka j a2
    have db := kb j b2
    have e2 : (a / 2 ^ j) % R = (b / 2 ^ j) % R := by omega
    rcases Nat.le_total a b with q | q
    · exact ag_cd_q (by omega) q da db (by omega) e2
    · exact (ag_cd_q (by omega) q db da (by omega) e2.symm).symm
theorem ag_cd_lt {R L i : Nat} (hR : 2 ≤ R) (h16 : R ≤ 16) (hL : L ≤ 1000000) : ag_cd R L i < 300 := by
  unfold ag_cd
  by_cases h1 : L - i < 2 * R
  · rw [if_pos h1]
    omega
  · rw [if_neg h1]
    obtain ⟨a1, a2, a3⟩ := ag_cd_big hR h1
    generalize ((L - i) / R).log2 = j at *
    have m1 : (i / 2 ^ j) % R < R := Nat.mod_lt _ (by omega)
    have h18 : j ≤ 18 := by
      rcases Nat.lt_or_ge 18 j with q | q
      · have h2 := Nat.pow_le_pow_right (n := 2) (by decide) (show 19 ≤ j by omega)
        have h3 := Nat.mul_le_mul hR h2
        omega
      · exact q
    rcases Nat.lt_or_ge R 16 with q | q
    · have h3 := Nat.mul_le_mul (show j - 1 ≤ 17 by omega) (show R ≤ 15 by omega)
      omega
    · have hR16 : R = 16 := by omega
      subst hR16
      have h15 : j ≤ 15 := by
        rcases Nat.lt_or_ge 15 j with q | q
        · have h2 := Nat.pow_le_pow_right (n := 2) (by decide) (show 16 ≤ j by omega)
          omega
        · exact q
      omega
theorem ag_len {R L : Nat} {ms : ag_M} (hR : 2 ≤ R) (h16 : R ≤ 16) (hL : L ≤ 1000000) (h : ag_ok R L ms) : ms.length ≤ 300 := by
  have h1 : (ms.map (fun x => ag_cd R L x.1)).Nodup := by
    refine List.pairwise_map.mpr (h.1.imp_of_mem fun {a b} ha hb hab e => ?_)
    have h2 := ag_cd_inj hR (h.2.1 a ha).1 (h.2.1 b hb).1 (h.2.1 a ha).2 (h.2.1 b hb).2 e
    omega
  have h2 := ag_pig 300 _ h1 (fun x hx => by
    obtain ⟨y, -, rfl⟩ := List.mem_map.mp hx
    exact ag_cd_lt hR h16 hL)
  rw [List.length_map] at h2
  exact h2
end AgMath
section AgBits
theorem ag_low {w : Nat} (x : BitVec w) (h : x ≠ 0#w) : ∃ k, k < w ∧ x.getLsbD k = true ∧ (∀ j, j < k → x.getLsbD j = false) ∧ x &&& -x = BitVec.twoPow w k := by
  have h0 : ∃ k, x.getLsbD k = true := by
    apply Classical.byContradiction
    intro hn
    apply h
    apply BitVec.eq_of_getLsbD_eq
    intro i _
    have h1 : ¬ x.getLsbD i = true := fun q => hn ⟨i, q⟩
    simpa using h1
  obtain ⟨k, hk, hl⟩ := pk_least (fun k => x.getLsbD k = true) h0
  have hl' : ∀ j, j < k → x.getLsbD j = false := fun j hj => by simpa using hl j hj
  have hkw : k < w := by
    rcases Nat.lt_or_ge k w with q | q
    · exact q
    · rw [BitVec.getLsbD_of_ge _ _ q] at hk
      cases hk
  refine ⟨k, hkw, hk, hl', ?_⟩
  apply BitVec.eq_of_getLsbD_eq
  intro i hi
  rw [BitVec.getLsbD_and, BitVec.getLsbD_neg, BitVec.getLsbD_twoPow]
  rcases Nat.lt_trichotomy i k with q | q | q
  · have : ¬ k = i := by omega
    simp [hl' i q, this]
  · subst q
    have : ¬ ∃ j, j < i ∧ x.getLsbD j = true := fun ⟨j, a, b⟩ => by rw [hl' j a] at b; cases b
    simp [hk, hkw, this]
  · have h1 : ∃ j, j < i ∧ x.getLsbD j = true := ⟨k, q, hk⟩
    have h2 : ¬ k = i := by omega
    simp [h1, h2, hi]
end AgBits
end
section
section AgBits2
theorem ag_m1 : ((-1 : Int64)).toBitVec = BitVec.allOnes 64 := by decide
theorem ag_inj {x y : Int64} (h : x.toBitVec = y.toBitVec) : x = y := by
  exact Int64.toBitVec_inj.mp h
theorem ag_two {k : Nat} (hk : k < 64) : (lN (2 ^ k)).toBitVec = BitVec.twoPow 64 k := by
  apply BitVec.eq_of_toNat_eq
  rw [BitVec.toNat_twoPow_of_lt hk]
  show (BitVec.ofNat 64 (2 ^ k)).toNat = 2 ^ k
  rw [BitVec.toNat_ofNat, Nat.mod_eq_of_lt (Nat.pow_lt_pow_right (by decide) hk)]
theorem ag_full {x : Int64} (h : x ^^^ (-1) = 0) {j : Nat} (hj : j < 64) : x.toBitVec.getLsbD j = true := by
  have h1 : x.toBitVec ^^^ BitVec.allOnes 64 = 0#64 := by
    have := congrArg Int64.toBitVec h
    rw [← ag_m1]
    exact this
  have h2 : (x.toBitVec ^^^ BitVec.allOnes 64).getLsbD j = (0#64).getLsbD j := by rw [h1]
  rw [BitVec.getLsbD_xor, BitVec.getLsbD_allOnes, decide_eq_true hj, BitVec.getLsbD_zero] at h2
  revert h2
  cases x.toBitVec.getLsbD j <;> decide
theorem ag_free {x : Int64} (h : ¬ x ^^^ (-1) = 0) : ∃ j, j < 64 ∧ x.toBitVec.getLsbD j = false ∧ (∀ i, i < j → x.toBitVec.getLsbD i = true) ∧ (x ^^^ (-1)) &&& -(x ^^^ (-1)) = lN (2 ^ j) := by
  have h0 : (x ^^^ (-1)).toBitVec ≠ 0#64 := fun q => h (ag_inj q)
  obtain ⟨j, hj, h1, h2, h3⟩ := ag_low _ h0
  have hb : ∀ i, i < 64 → (x ^^^ (-1)).toBitVec.getLsbD i = !x.toBitVec.getLsbD i := fun i hi => by
    have e : (x ^^^ (-1)).toBitVec = x.toBitVec ^^^ BitVec.allOnes 64 := by rw [← ag_m1]; rfl
    rw [e, BitVec.getLsbD_xor, BitVec.getLsbD_allOnes, decide_eq_true hi]
    cases x.toBitVec.getLsbD i <;> rfl
  refine ⟨j, hj, ?_, fun i hi => ?_, ag_inj ?_⟩
  · rw [hb j hj] at h1
    revert h1
    cases x.toBitVec.getLsbD j <;> decide
  · have h4 := h2 i hi
    rw [hb i (by omega)] at h4
    revert h4
    cases x.toBitVec.getLsbD i <;> decide
  rw [ag_two hj]
  exact h3
theorem ag_set {x : Int64} {j i : Nat} (hj : j < 64) (hi : i < 64) : (x ||| lN (2 ^ j)).toBitVec.getLsbD i = (x.toBitVec.getLsbD i || decide (i = j)) := by
  have e : (x ||| lN (2 ^ j)).toBitVec = x.toBitVec ||| BitVec.twoPow 64 j := by rw [← ag_two hj]; rfl
  rw [e, BitVec.getLsbD_or, BitVec.getLsbD_twoPow]
  by_cases q : i = j
  · subst q; simp [hj]
  · have : ¬ j = i := fun z => q z.symm
    simp [q, this]
theorem ag_clr {x : Int64} {j i : Nat} (hj : j < 64) (hi : i < 64) : (x &&& (lN (2 ^ j) ^^^ (-1))).toBitVec.getLsbD i = (x.toBitVec.getLsbD i && decide (i ≠ j)) := by
  have e : (x &&& (lN (2 ^ j) ^^^ (-1))).toBitVec = x.toBitVec &&& (BitVec.twoPow 64 j ^^^ BitVec.allOnes 64) := by rw [← ag_two hj, ← ag_m1]; rfl
  rw [e, BitVec.getLsbD_and, BitVec.getLsbD_xor, BitVec.getLsbD_twoPow, BitVec.getLsbD_allOnes, decide_eq_true hi]
  by_cases q : i = j
  · subst q; simp [hj]
  · have : ¬ j = i := fun z => q z.symm
    simp [q, this]
/-- bit k of a row of words -/
def ag_bt (w : Nat → Int64) (k : Nat) : Bool := (w (k / 64)).toBitVec.getLsbD (k % 64)
theorem ag_bt_set {w : Nat → Int64} {i j k : Nat} (hj : j < 64) : ag_bt (vp_updL w i (w i ||| lN (2 ^ j))) k = (ag_bt w k || decide (k = 64 * i + j)) := by
  unfold ag_bt
  by_cases q : k / 64 = i
  · rw [q, pk_uLs, ag_set hj (by omega)]
    congr 1
    exact decide_eq_decide.mpr (by omega)
  · rw [pk_uLn q]
    have : ¬ k = 64 * i + j := by omega
    simp [this]
theorem ag_bt_clr {w : Nat → Int64} {i j k : Nat} (hj : j < 64) : ag_bt (vp_updL w i (w i &&& (lN (2 ^ j) ^^^ (-1)))) k = (ag_bt w k && decide (k ≠ 64 * i + j)) := by
  unfold ag_bt
  by_cases q : k / 64 = i
  · rw [q, pk_uLs, ag_clr hj (by omega)]
    congr 1
    exact decide_eq_decide.mpr (by omega)
  · rw [pk_uLn q]
    have : k ≠ 64 * i + j := by omega
    simp [this]
theorem ag_p2_of {n k : Nat} (h1 : n.testBit k = true) (h2 : ∀ j, j < k → n.testBit j = false) : ag_p2 n (2 ^ k) := by
  refine ⟨k, rfl, Nat.dvd_of_mod_eq_zero ?_, fun hd => ?_⟩
  · apply Nat.eq_of_testBit_eq
    intro i
    rw [Nat.testBit_mod_two_pow, Nat.zero_testBit]
    by_cases q : i < k
    · simp [h2 i q]
    · simp [q]
  · have h3 := Nat.mod_eq_zero_of_dvd hd
    have h4 := congrArg (fun z => z.testBit k) h3
    simp only [Nat.testBit_mod_two_pow, Nat.zero_testBit, h1] at h4
    simp at h4
theorem ag_inj32 {x y : Int32} (h : x.toBitVec = y.toBitVec) : x = y := by
  exact Int32.toBitVec_inj.mp h
theorem ag_low32 {n : Nat} (h0 : 0 < n) (hn : n < 2 ^ 31) : ∃ P, ag_p2 n P ∧ P ≤ n ∧ nI n &&& -nI n = nI P := by
  have hb : (nI n).toBitVec = BitVec.ofNat 32 n := rfl
  have hne : (nI n).toBitVec ≠ 0#32 := fun q => by
    have := congrArg BitVec.toNat q
    rw [hb, BitVec.toNat_ofNat, Nat.mod_eq_of_lt (by omega)] at this
    simp at this
    omega
  obtain ⟨k, hk, h1, h2, h3⟩ := ag_low _ hne
  have ht : ∀ i, i < 32 → (nI n).toBitVec.getLsbD i = n.testBit i := fun i hi => by
    rw [hb, BitVec.getLsbD_ofNat]
    simp [hi]
  have hp := ag_p2_of (n := n) (k := k) (by rw [← ht k hk]; exact h1) (fun j hj => by rw [← ht j (by omega)]; exact h2 j hj)
  have hle : 2 ^ k ≤ n := by
    obtain ⟨t, -, hd, -⟩ := id hp
    exact Nat.le_of_dvd h0 (by obtain ⟨t, e, hd, -⟩ := hp; rw [e]; exact hd)
  refine ⟨2 ^ k, hp, hle, ag_inj32 ?_⟩
  have e : (nI n &&& -nI n).toBitVec = (nI n).toBitVec &&& -(nI n).toBitVec := rfl
  rw [e, h3]
  apply BitVec.eq_of_toNat_eq
  rw [BitVec.toNat_twoPow_of_lt hk]
  show 2 ^ k = (BitVec.ofNat 32 (2 ^ k)).toNat
  rw [BitVec.toNat_ofNat, Nat.mod_eq_of_lt (Nat.pow_lt_pow_right (by decide) hk)]
end AgBits2
end
section
section AgState
/-- the arrays hold the marks ms, the words their slots -/
def ag_rep (ms : ag_M) (f g : Nat → Int32) (w : Nat → Int64) : Prop := (∀ (k : Nat) (h : k < ms.length), f k = nI (ms[k]).1 ∧ g k = nI (ms[k]).2) ∧ ∀ k, k < 320 → (ag_bt w k = true ↔ k ∈ ms.map (·.2))
/-- the marks' bounds -/
def ag_bd (ms : ag_M) : Prop := ms.length ≤ 301 ∧ ∀ x ∈ ms, x.1 ≤ 1000000 ∧ x.2 < 320
/-- what holds between two calls: gap, rich, the marks, the end -/
def ag_inv (G R en : Nat) (ms : ag_M) : Prop := 1 ≤ G ∧ G ≤ 1000 ∧ 2 ≤ R ∧ R ≤ 16 ∧ en ≤ 1000000 * G ∧ ag_ok R (en / G) ms ∧ ∀ x ∈ ms, x.2 ≤ 300
theorem ag_inv_L {G R en : Nat} {ms : ag_M} (h : ag_inv G R en ms) : en / G ≤ 1000000 := by
  obtain ⟨h1, -, -, -, h5, -⟩ := h
  exact Nat.div_le_of_le_mul (by rw [Nat.mul_comm]; exact h5)
theorem ag_inv_len {G R en : Nat} {ms : ag_M} (h : ag_inv G R en ms) : ms.length ≤ 300 := ag_len h.2.2.1 h.2.2.2.1 (ag_inv_L h) h.2.2.2.2.2.1
theorem ag_inv_bd {G R en : Nat} {ms : ag_M} (h : ag_inv G R en ms) : ag_bd ms := ⟨by have := ag_inv_len h; omega, fun x hx => ⟨Nat.le_trans (h.2.2.2.2.2.1.2.1 x hx).1 (ag_inv_L h), by have := h.2.2.2.2.2.2 x hx; omega⟩⟩
theorem ag_inv_pos {G R en : Nat} {ms : ag_M} (h : ag_inv G R en ms) : 0 < ms.length := by
  obtain ⟨z, t, rfl⟩ := h.2.2.2.2.2.1.2.2.2
  simp
theorem ag_rep_app {ms : ag_M} {f g : Nat → Int32} {w w' : Nat → Int64} {n k : Nat} (h : ag_rep ms f g w) (hw : ∀ j, j < 320 → ag_bt w' j = (ag_bt w j || decide (j = k))) : ag_rep (ms ++ [(n, k)]) (upd f ms.length (nI n)) (upd g ms.length (nI k)) w' := by
  refine ⟨fun j hj => ?_, fun j hj => ?_⟩
  · by_cases q : j < ms.length
    · rw [pk_un (by omega), pk_un (by omega), List.getElem_append_left q]
      exact h.1 j q
    · have e : j = ms.length := by simp at hj; omega
      subst e
      rw [pk_us, pk_us]
      simp
  · rw [hw j hj, List.map_append, List.mem_append, ← h.2 j hj]
    simp
theorem ag_er_map {α β : Type} (f : α → β) : ∀ (l : List α) (k : Nat), (l.eraseIdx k).map f = (l.map f).eraseIdx k
  | [], _ => by simp
  | a :: t, 0 => by simp
  | a :: t, k + 1 => by simp [ag_er_map f t k]
theorem ag_nd_inj {l : List Nat} (h : l.Nodup) {i j : Nat} (hi : i < l.length) (hj : j < l.length) (e : l[i] = l[j]) : i = j := by
  rcases Nat.lt_trichotomy i j with q | q | q
  · exact absurd e (List.pairwise_iff_getElem.mp h i j hi hj q)
  · exact q
  · exact absurd e.symm (List.pairwise_iff_getElem.mp h j i hj hi q)
theorem ag_rep_del {ms : ag_M} {f g : Nat → Int32} {w w' : Nat → Int64} {k : Nat} (h : ag_rep ms f g w) (hk : k < ms.length) (hn : (ms.map (·.2)).Nodup) (hw : ∀ j, j < 320 → ag_bt w' j = (ag_bt w j && decide (j ≠ (ms[k]).2))) :
    ag_rep (ms.eraseIdx k) (va_cpy f f (k + 1) k (ms.length - 1 - k)) (va_cpy g g (k + 1) k (ms.length - 1 - k)) w' := by
  have hl : (ms.eraseIdx k).length = ms.length - 1 := List.length_eraseIdx_of_lt hk
  refine ⟨fun j hj => ?_, fun j hj => ?_⟩
  · rw [hl] at hj
    rw [List.getElem_eraseIdx]
    by_cases q : j < k
    · rw [pk_cpy_out (Or.inl q), pk_cpy_out (Or.inl q)]
      simp only [q, dite_true]
      exact h.1 j (by omega)
    · rw [pk_cpy_in (by omega) (by omega), pk_cpy_in (by omega) (by omega)]
      simp only [q, dite_false]
      have e : k + 1 + (j - k) = j + 1 := by omega
      rw [e]
      exact h.1 (j + 1) (by omega)
  · rw [hw j hj, Bool.and_eq_true, h.2 j hj, decide_eq_true_eq]
    have e1 : (ms.eraseIdx k).map (·.2) = (ms.map (·.2)).eraseIdx k := ag_er_map _ _ _
    have e2 : (ms.map (·.2))[k]'(by simpa using hk) = (ms[k]).2 := by simp
    rw [e1, ← e2]
    constructor
    · rintro ⟨h1, h2⟩
      obtain ⟨i, hi, e3⟩ := List.getElem_of_mem h1
      rw [List.mem_eraseIdx_iff_getElem]
      exact ⟨i, hi, fun q => h2 (by subst q; exact e3.symm), e3⟩
    · intro h1
      rw [List.mem_eraseIdx_iff_getElem] at h1
      obtain ⟨i, hi, hne, e3⟩ := h1
      refine ⟨e3 ▸ List.getElem_mem hi, fun q => hne ?_⟩
      exact ag_nd_inj hn _ _ (e3.trans q)
end AgState
end
section
section AgSpec
/-- marks, most, laid, gone -/
abbrev ag_T : Type := ag_M × Nat × Nat × Nat
noncomputable def ag_step (R n : Nat) (u : ag_T) : ag_T := (ag_put R n u.1, max u.2.1 (ag_put R n u.1).length, u.2.2.1 + 1, u.2.2.2 + (u.1.length + 1 - (ag_put R n u.1).length))
/-- k marks laid behind number a -/
noncomputable def ag_grow (R a : Nat) : Nat → ag_T → ag_T
  | 0, u => u
  | k + 1, u => ag_step R (a + k + 1) (ag_grow R a k u)
def ag_in (R L : Nat) (ms : ag_M) : Prop := ag_ok R L ms ∧ ∀ x ∈ ms, x.2 ≤ 300
theorem ag_il {R L : Nat} {ms : ag_M} (h2 : 2 ≤ R) (h16 : R ≤ 16) (hL : L ≤ 1000000) (h : ag_in R L ms) : ms.length ≤ 300 := ag_len h2 h16 hL h.1
theorem ag_in_bd {R L : Nat} {ms : ag_M} (h2 : 2 ≤ R) (h16 : R ≤ 16) (hL : L ≤ 1000000) (h : ag_in R L ms) : ag_bd ms := ⟨by have := ag_il h2 h16 hL h; omega, fun x hx => ⟨Nat.le_trans (h.1.2.1 x hx).1 hL, by have := h.2 x hx; omega⟩⟩
theorem ag_in_bd1 {R L : Nat} {ms : ag_M} (h2 : 2 ≤ R) (h16 : R ≤ 16) (hL : L + 1 ≤ 1000000) (h : ag_in R L ms) : ag_bd (ms ++ [(L + 1, ag_slot ms)]) := by
  have h1 := ag_il h2 h16 (by omega) h
  have h3 := ag_slot_le ms
  refine ⟨by simp; omega, fun x hx => ?_⟩
  rcases List.mem_append.mp hx with q | q
  · exact (ag_in_bd h2 h16 (by omega) h).2 x q
  · have h4 : x = (L + 1, ag_slot ms) := by simpa using q
    subst h4
    exact ⟨hL, by show ag_slot ms < 320; omega⟩
theorem ag_in_put {R L : Nat} {ms : ag_M} (h2 : 2 ≤ R) (h16 : R ≤ 16) (hL : L ≤ 1000000) (h : ag_in R L ms) : ag_in R (L + 1) (ag_put R (L + 1) ms) := by
  refine ⟨ag_put_ok (by omega) h.1, fun x hx => ?_⟩
  have h1 := ag_il h2 h16 hL h
  have h3 := ag_slot_le ms
  rcases List.mem_append.mp (List.mem_filter.mp hx).1 with q | q
  · exact h.2 x q
  · have h4 : x = (L + 1, ag_slot ms) := by simpa using q
    subst h4
    show ag_slot ms ≤ 300
    omega
theorem ag_in_pos {R L : Nat} {ms : ag_M} (h : ag_in R L ms) : 0 < ms.length := by
  obtain ⟨z, t, rfl⟩ := h.1.2.2.2
  simp
theorem ag_in_0 {R L : Nat} {ms : ag_M} (h : ag_in R L ms) (h0 : 0 < ms.length) : (ms[0]).1 = 0 := by
  obtain ⟨z, t, rfl⟩ := h.1.2.2.2
  rfl
theorem ag_imax {a b : Nat} (ha : a < 2 ^ 31) (hb : b < 2 ^ 31) : (if nI a < nI b then nI b else nI a) = nI (max a b) := by
  by_cases h : a < b
  · rw [if_pos ((nI_ltI ha hb).mpr h), Nat.max_eq_right (by omega)]
  · rw [if_neg (mt (nI_ltI ha hb).mp h), Nat.max_eq_left (by omega)]
theorem ag_imin {a b : Nat} (ha : a < 2 ^ 31) (hb : b < 2 ^ 31) : (if nI b < nI a then nI b else nI a) = nI (min a b) := by
  by_cases h : b < a
  · rw [if_pos ((nI_ltI hb ha).mpr h), Nat.min_eq_right (by omega)]
  · rw [if_neg (mt (nI_ltI hb ha).mp h), Nat.min_eq_left (by omega)]
theorem ag_lmax {a b : Nat} (ha : a < 2 ^ 63) (hb : b < 2 ^ 63) : (if lN b < lN a then lN a else lN b) = lN (max a b) := by
  by_cases h : b < a
  · rw [if_pos ((pk_lLT hb ha).mpr h), Nat.max_eq_left (by omega)]
  · rw [if_neg (mt (pk_lLT hb ha).mp h), Nat.max_eq_right (by omega)]
/-- v is what going to c costs -/
def ag_isC (G : Nat) (ms : ag_M) (c v : Nat) : Prop := ∃ k, ∃ h : k < ms.length, (ms[k]).1 * G ≤ c ∧ (∀ j (hj : j < ms.length), k < j → c < (ms[j]).1 * G) ∧ v = c - (ms[k]).1 * G
noncomputable def ag_cost (G : Nat) (ms : ag_M) (c : Nat) : Nat := Classical.epsilon (ag_isC G ms c)
theorem ag_isC_u {G : Nat} {ms : ag_M} {c v w : Nat} (h1 : ag_isC G ms c v) (h2 : ag_isC G ms c w) : v = w := by
  obtain ⟨k, hk, a1, a2, a3⟩ := h1
  obtain ⟨i, hi, b1, b2, b3⟩ := h2
  rcases Nat.lt_trichotomy k i with q | q | q
  · exact absurd (a2 i hi q) (by omega)
  · subst q; rw [a3, b3]
  · exact absurd (b2 k hk q) (by omega)
theorem ag_cost_eq {G : Nat} {ms : ag_M} {c v : Nat} (h : ag_isC G ms c v) : ag_cost G ms c = v := ag_isC_u (Classical.epsilon_spec (p := ag_isC G ms c) ⟨v, h⟩) h
/-- the marks behind the end cut off -/
def ag_cutm (G nw : Nat) (ms : ag_M) : ag_M := ms.filter (fun x => decide (x.1 * G ≤ nw))
theorem ag_cut_take : ∀ (ms : ag_M) (G nw k : Nat), ms.Pairwise (fun a b => a.1 < b.1) → ∀ hk : k < ms.length, (ms[k]).1 * G ≤ nw → (∀ j (hj : j < ms.length), k < j → nw < (ms[j]).1 * G) → ag_cutm G nw ms = ms.take (k + 1)
  | [], _, _, _, _, hk, _, _ => absurd hk (by simp)
  | x :: t, G, nw, 0, hp, _, h1, h2 => by
    have h3 : x.1 * G ≤ nw := h1
    unfold ag_cutm
    rw [List.filter_cons_of_pos (by simpa using h3)]
    have h4 : t.filter (fun x => decide (x.1 * G ≤ nw)) = [] := List.filter_eq_nil_iff.mpr fun y hy => by
      obtain ⟨j, hj, rfl⟩ := List.getElem_of_mem hy
      have h5 := h2 (j + 1) (by simpa using hj) (by omega)
      have h6 : nw < (t[j]).1 * G := h5
      simp; omega
    rw [h4]
    rfl
  | x :: t, G, nw, k + 1, hp, hk, h1, h2 => by
    obtain ⟨p1, p2⟩ := List.pairwise_cons.mp hp
    have hk' : k < t.length := by simpa using hk
    have h3 : (t[k]).1 * G ≤ nw := h1
    have h4 := p1 _ (List.getElem_mem hk')
    have h5 : x.1 * G ≤ nw := Nat.le_trans (Nat.mul_le_mul_right G (Nat.le_of_lt h4)) h3
    unfold ag_cutm
    rw [List.filter_cons_of_pos (by simpa using h5), List.take_succ_cons]
    have h6 := ag_cut_take t G nw k p2 hk' h3 (fun j hj hkj => h2 (j + 1) (by simpa using hj) (by omega))
    unfold ag_cutm at h6
    rw [h6]
theorem ag_take_erase {ms : ag_M} {k : Nat} (hk : k < ms.length) : (ms.take (k + 1)).eraseIdx k = ms.take k := by
  rw [List.eraseIdx_eq_take_drop_succ, List.take_take, List.drop_eq_nil_of_le (by simp; omega), List.append_nil, Nat.min_eq_left (by omega)]
theorem ag_rep_take {ms : ag_M} {k : Nat} {f g : Nat → Int32} {w : Nat → Int64} (h : ag_rep (ms.take k) f g w) (hk : ms.length ≤ k) : ag_rep ms f g w := by rw [List.take_of_length_le hk] at h; exact h
def ag_num (ms : ag_M) (k : Nat) : Nat := (ms.getD k (0, 0)).1
theorem ag_num_eq {ms : ag_M} {k : Nat} (h : k < ms.length) : ag_num ms k = (ms[k]).1 := by
  unfold ag_num
  rw [List.getD_eq_getElem?_getD, List.getElem?_eq_getElem h]
  rfl
/-- the greatest cost, over the marks 0 .. k -/
def ag_wst (G en : Nat) (ms : ag_M) : Nat → Nat
  | 0 => en - ag_num ms (ms.length - 1) * G
  | k + 1 => max (ag_wst G en ms k) (ag_num ms (k + 1) * G - 1 - ag_num ms k * G)
/-- which mark has the slot x -/
def ag_hold (ms : ag_M) (x r : Int32) : Prop := (∃ k, ∃ h : k < ms.length, nI (ms[k]).2 = x ∧ (∀ j (hj : j < ms.length), j < k → nI (ms[j]).2 ≠ x) ∧ r = nI k) ∨ ((∀ k (h : k < ms.length), nI (ms[k]).2 ≠ x) ∧ r = -1)
theorem ag_hold_u {ms : ag_M} {x r q : Int32} (h1 : ag_hold ms x r) (h2 : ag_hold ms x q) : r = q := by
  rcases h1 with ⟨k, hk, a1, a2, rfl⟩ | ⟨a1, rfl⟩ <;> rcases h2 with ⟨i, hi, b1, b2, rfl⟩ | ⟨b1, rfl⟩
  · rcases Nat.lt_trichotomy k i with z | z | z
    · exact absurd a1 (b2 k hk z)
    · rw [z]
    · exact absurd b1 (a2 i hi z)
  · exact absurd a1 (b1 k hk)
  · exact absurd b1 (a1 i hi)
  · rfl
end AgSpec
end
section
section AgBc
/-- the count of bits as Long.bitCount computes it -/
def ag_us (x : Int64) (k : Int32) : Int64 := (x.toUInt64 >>> (k.toInt64.toUInt64 &&& Int64.toUInt64 63)).toInt64
def ag_bc (x : Int64) : Int32 :=
  let i1 := x - (ag_us x 1 &&& 6148914691236517205)
  let i2 := (i1 &&& 3689348814741910323) + (ag_us i1 2 &&& 3689348814741910323)
  let i3 := (i2 + ag_us i2 4) &&& 1085102592571150095
  let i4 := i3 + ag_us i3 8
  let i5 := i4 + ag_us i4 16
  let i6 := i5 + ag_us i5 32
  i6.toInt32 &&& 127
theorem ag_bc_pow : ∀ k, k < 64 → ag_bc (lN (2 ^ k) - lN 1) = nI k := by decide +kernel
theorem ag_shl1 : ∀ k, k < 64 → lN 1 <<< ((nI k).toInt64 &&& 63) = lN (2 ^ k) := by decide +kernel
end AgBc

set_option maxHeartbeats 4000000 in
set_option maxRecDepth 100000 in
/-- Long.bitCount: the answer is ag_bc -/
theorem c_B_bitCount (l : Launch) (dC : Nat → ClassId) (dI : Nat → Nat → Nat) (sz : Nat) (x : Int64)  : Met l y_B_bitCount (Cond.code y_B_bitCount b_B_bitCount 2 (some .int) :: agW) ({ frames := 0, cells := 0, slots := 0, locals := 0 }) (va_Pc [.long x] (ag_at (dC, dI) agCl [] sz [])) (va_Qi (fun (r : Int32) (_ : Unit) => r = ag_bc x) (ag_to (dC, dI) agCl [] (va_A [] sz) (fun _ : Unit => ([] : va_W))) (va_A [] sz)) 0 0 (va_A [] sz) := by
  refine ag_ofW (Qf := fun A => va_Qi (fun (r : Int32) (_ : Unit) => r = ag_bc x) (ag_to (dC, dI) agCl [] A (fun _ : Unit => ([] : va_W))) A) (cc := b_B_bitCount) (maxL := 2) (ret := (some .int)) (lv := [(0, .long x)]) (by decide) rfl (Nat.le_of_ble_eq_true rfl) rfl (fun p e s m below meth c A ls hx hb hr hts hown hlocks hml hnm hA hS hP hK hD hl hsz => ?_)
  have hown : s.vm.findClass "java/lang/Long" = some m.cls := hown
  have ht : ∀ w ∈ agW, w.before [.long x].toArray s = true := fun w h => hts w (List.mem_cons_of_mem _ h)
  refine lv_lload_n hx hb d_B_bitCount_0 rfl (lv_at hl 0 rfl) ?_
  refine lv_lload_n hx hb d_B_bitCount_1 rfl (lv_at hl 0 rfl) ?_
  refine ag_iconst hx hb 1 d_B_bitCount_2 (by decide) ?_
  refine lv_lushr (v := (x.toUInt64 >>> ((nI 1).toInt64.toUInt64 &&& Int64.toUInt64 63)).toInt64) hx hb d_B_bitCount_3 (rfl) ?_
  refine lv_ldc2 (v := lN 6148914691236517205) hx hb hown (ht _ mw_k_B_314) d_B_bitCount_4 ?_
  refine lv_land hx hb d_B_bitCount_7 ?_
  refine lv_lsub hx hb d_B_bitCount_8 ?_
  refine lv_topl (fun x1 ex1 => ?_)
  refine lv_lstore_n (lv' := [(0, .long x1)]) hx hb d_B_bitCount_9 rfl hl (by decide) rfl (fun ls hl => ?_)
  refine lv_lload_n hx hb d_B_bitCount_10 rfl (lv_at hl 0 rfl) ?_
  refine lv_ldc2 (v := lN 3689348814741910323) hx hb hown (ht _ mw_k_B_316) d_B_bitCount_11 ?_
  refine lv_land hx hb d_B_bitCount_14 ?_
  refine lv_lload_n hx hb d_B_bitCount_15 rfl (lv_at hl 0 rfl) ?_
  refine ag_iconst hx hb 2 d_B_bitCount_16 (by decide) ?_
  refine lv_lushr (v := (x1.toUInt64 >>> ((nI 2).toInt64.toUInt64 &&& Int64.toUInt64 63)).toInt64) hx hb d_B_bitCount_17 (rfl) ?_
  refine lv_ldc2 (v := lN 3689348814741910323) hx hb hown (ht _ mw_k_B_316) d_B_bitCount_18 ?_
  refine lv_land hx hb d_B_bitCount_21 ?_
  refine lv_ladd hx hb d_B_bitCount_22 ?_
  refine lv_topl (fun x2 ex2 => ?_)
  refine lv_lstore_n (lv' := [(0, .long x2)]) hx hb d_B_bitCount_23 rfl hl (by decide) rfl (fun ls hl => ?_)
  refine lv_lload_n hx hb d_B_bitCount_24 rfl (lv_at hl 0 rfl) ?_
  refine lv_lload_n hx hb d_B_bitCount_25 rfl (lv_at hl 0 rfl) ?_
  refine ag_iconst hx hb 4 d_B_bitCount_26 (by decide) ?_
  refine lv_lushr (v := (x2.toUInt64 >>> ((nI 4).toInt64.toUInt64 &&& Int64.toUInt64 63)).toInt64) hx hb d_B_bitCount_27 (rfl) ?_
  refine lv_ladd hx hb d_B_bitCount_28 ?_
  refine lv_ldc2 (v := lN 1085102592571150095) hx hb hown (ht _ mw_k_B_318) d_B_bitCount_29 ?_
  refine lv_land hx hb d_B_bitCount_32 ?_
  refine lv_topl (fun x3 ex3 => ?_)
  refine lv_lstore_n (lv' := [(0, .long x3)]) hx hb d_B_bitCount_33 rfl hl (by decide) rfl (fun ls hl => ?_)
  refine lv_lload_n hx hb d_B_bitCount_34 rfl (lv_at hl 0 rfl) ?_
  refine lv_lload_n hx hb d_B_bitCount_35 rfl (lv_at hl 0 rfl) ?_
  refine ag_bipush hx hb 8 d_B_bitCount_36 (by decide) ?_
  refine lv_lushr (v := (x3.toUInt64 >>> ((nI 8).toInt64.toUInt64 &&& Int64.toUInt64 63)).toInt64) hx hb d_B_bitCount_38 (rfl) ?_
  refine lv_ladd hx hb d_B_bitCount_39 ?_
  refine lv_topl (fun x4 ex4 => ?_)
  refine lv_lstore_n (lv' := [(0, .long x4)]) hx hb d_B_bitCount_40 rfl hl (by decide) rfl (fun ls hl => ?_)
  refine lv_lload_n hx hb d_B_bitCount_41 rfl (lv_at hl 0 rfl) ?_
  refine lv_lload_n hx hb d_B_bitCount_42 rfl (lv_at hl 0 rfl) ?_
  refine ag_bipush hx hb 16 d_B_bitCount_43 (by decide) ?_
  refine lv_lushr (v := (x4.toUInt64 >>> ((nI 16).toInt64.toUInt64 &&& Int64.toUInt64 63)).toInt64) hx hb d_B_bitCount_45 (rfl) ?_
  refine lv_ladd hx hb d_B_bitCount_46 ?_
  refine lv_topl (fun x5 ex5 => ?_)
  refine lv_lstore_n (lv' := [(0, .long x5)]) hx hb d_B_bitCount_47 rfl hl (by decide) rfl (fun ls hl => ?_)
  refine lv_lload_n hx hb d_B_bitCount_48 rfl (lv_at hl 0 rfl) ?_
  refine lv_lload_n hx hb d_B_bitCount_49 rfl (lv_at hl 0 rfl) ?_
  refine ag_bipush hx hb 32 d_B_bitCount_50 (by decide) ?_
  refine lv_lushr (v := (x5.toUInt64 >>> ((nI 32).toInt64.toUInt64 &&& Int64.toUInt64 63)).toInt64) hx hb d_B_bitCount_52 (rfl) ?_
  refine lv_ladd hx hb d_B_bitCount_53 ?_
  refine lv_topl (fun x6 ex6 => ?_)
  refine lv_lstore_n (lv' := [(0, .long x6)]) hx hb d_B_bitCount_54 rfl hl (by decide) rfl (fun ls hl => ?_)
  refine lv_lload_n hx hb d_B_bitCount_55 rfl (lv_at hl 0 rfl) ?_
  refine lv_l2i (v := x6.toInt32) hx hb d_B_bitCount_56 (rfl) ?_
  refine ag_bipush hx hb 127 d_B_bitCount_57 (by decide) ?_
  refine lv_iand hx hb d_B_bitCount_59 ?_
  exact ag_reti hx hb hr hlocks () (by subst ex1 ex2 ex3 ex4 ex5 ex6; rfl) hP hK hD hS d_B_bitCount_60

set_option maxHeartbeats 4000000 in
set_option maxRecDepth 100000 in
/-- Slots.release(k): the bit k is cleared -/
theorem c_S_release (l : Launch) (dC : Nat → ClassId) (dI : Nat → Nat → Nat) (sz : Nat) (qt qw : Nat) (cJ : ClassId) (w : Nat → Int64) (k : Nat) (hk : k < 320) : Met l y_S_release (Cond.code y_S_release b_S_release 2 none :: agW) ({ frames := 0, cells := 0, slots := 0, locals := 0 }) (va_Pc [.ref qt, .int (nI k)] (ag_at (dC, dI) agCl [(cJ, .long)] sz [(qt, .inr (0, [.ref qw])), (qw, .inl (cJ, 5, .inr (.inl w)))])) (va_Qv (fun u : Nat → Int64 => ∀ j, ag_bt u j = (ag_bt w j && decide (j ≠ k))) (ag_to (dC, dI) agCl [(cJ, .long)] (va_A [(qt, .inr (0, [.ref qw])), (qw, .inl (cJ, 5, .inr (.inl w)))] sz) (fun u : Nat → Int64 => [(qt, .inr (0, [.ref qw])), (qw, .inl (cJ, 5, .inr (.inl u)))])) (va_A [(qt, .inr (0, [.ref qw])), (qw, .inl (cJ, 5, .inr (.inl w)))] sz)) 0 0 (va_A [(qt, .inr (0, [.ref qw])), (qw, .inl (cJ, 5, .inr (.inl w)))] sz) := by
  refine ag_ofW (Qf := fun A => va_Qv (fun u : Nat → Int64 => ∀ j, ag_bt u j = (ag_bt w j && decide (j ≠ k))) (ag_to (dC, dI) agCl [(cJ, .long)] A (fun u : Nat → Int64 => [(qt, .inr (0, [.ref qw])), (qw, .inl (cJ, 5, .inr (.inl u)))])) A) (cc := b_S_release) (maxL := 2) (ret := none) (lv := [(0, .ref qt), (1, .int (nI k))]) (by decide) rfl (Nat.le_of_ble_eq_true rfl) rfl (fun p e s m below meth c A ls hx hb hr hts hown hlocks hml hnm hA hS hP hK hD hl hsz => ?_)
  have hown : s.vm.findClass "AgedMarks$Slots" = some m.cls := hown
  have ht : ∀ w ∈ agW, w.before [.ref qt, .int (nI k)].toArray s = true := fun w h => hts w (List.mem_cons_of_mem _ h)
  refine lv_iload_n hx hb d_S_release_0 rfl (lv_at hl 1 rfl) ?_
  refine ag_if_lt (tgt := 33) hx hb d_S_release_1 (by decide) (by omega) ?_
  refine lv_iload_n hx hb d_S_release_4 rfl (lv_at hl 1 rfl) ?_
  refine ag_sipush hx hb 320 d_S_release_5 (by decide) ?_
  refine ag_icmp_ge (tgt := 33) hx hb d_S_release_8 (by decide) (by omega) (by omega) (fun c8 => ?_) (fun c8 => ?_)
  · have h_n := trivial
    exact absurd c8 (by omega)
  · have h_n := trivial
    refine lv_aload_n hx hb d_S_release_11 rfl (lv_at hl 0 rfl) ?_
    refine va_get (D := (dC, dI)) (ci := 0) (v := .ref qw) (C := RX0) (T := TX0) (N := 1) hx hb ht inA0 hown hK hP 0 rfl rfl 0 (by decide) (ht _ mw_f_S_9) (fun _ h9 => h9) rfl d_S_release_12 ?_
    refine lv_iload_n hx hb d_S_release_15 rfl (lv_at hl 1 rfl) ?_
    refine ag_bipush hx hb 64 d_S_release_16 (by decide) ?_
    refine lv_idiv hx hb d_S_release_18 (nI_ne0 (by omega) (by omega)) ?_
    refine ag_topi (nI (k / 64)) (pk_div (by omega) (by omega) (by omega)) ?_
    refine lv_dup2_11 hx hb d_S_release_19 rfl rfl ?_
    refine ag_lald hx hb hK hP 1 0 rfl rfl (by omega) (by decide) d_S_release_20 ?_
    refine ag_lconst hx hb 1 d_S_release_21 (by decide) ?_
    refine lv_iload_n hx hb d_S_release_22 rfl (lv_at hl 1 rfl) ?_
    refine ag_bipush hx hb 64 d_S_release_23 (by decide) ?_
    refine lv_irem hx hb d_S_release_25 (nI_ne0 (by omega) (by omega)) ?_
    refine ag_topi (nI (k % 64)) (pk_rem (by omega) (by omega) (by omega)) ?_
    refine lv_lshl (v := lN (2 ^ (k % 64))) hx hb d_S_release_26 (ag_shl1 (k % 64) (by omega)) ?_
    refine lv_ldc2 (v := -1) hx hb hown (ht _ mw_k_S_15) d_S_release_27 ?_
    refine lv_lxor hx hb d_S_release_30 ?_
    refine lv_land hx hb d_S_release_31 ?_
    refine ag_last hx hb hK hP hD hS 1 0 rfl rfl (by omega) (by decide) d_S_release_32 (fun H locs hP hD hS => ?_)
    have hP : va_P (dC, dI) agCl [(qt, .inr (0, [.ref qw])), (qw, .inl (cJ, 5, .inr (.inl (vp_updL w (k / 64) ((w (k / 64)) &&& ((lN (2 ^ (k % 64))) ^^^ (-1)))))))] H := hP
    have hD : va_D A [(qt, .inr (0, [.ref qw])), (qw, .inl (cJ, 5, .inr (.inl (vp_updL w (k / 64) ((w (k / 64)) &&& ((lN (2 ^ (k % 64))) ^^^ (-1)))))))] := hD
    exact ag_retv hx hb hr hlocks (vp_updL w (k / 64) (w (k / 64) &&& (lN (2 ^ (k % 64)) ^^^ -1))) (fun j => by rw [ag_bt_clr (by omega), show 64 * (k / 64) + k % 64 = k by omega]) hP hK hD hS d_S_release_33

set_option maxHeartbeats 4000000 in
set_option maxRecDepth 100000 in
/-- Slots.takeLeast(): the least bit that is free is taken -/
theorem c_S_takeLeast (l : Launch) (dC : Nat → ClassId) (dI : Nat → Nat → Nat) (sz : Nat) (qt qw : Nat) (cJ : ClassId) (w : Nat → Int64) (K : Nat) (hK9 : K < 320) (h0 : ag_bt w K = false) (h1 : ∀ j, j < K → ag_bt w j = true) : Met l y_S_takeLeast (Cond.code y_S_takeLeast b_S_takeLeast 6 (some .int) :: agW) ({ frames := 1, cells := 0, slots := 0, locals := 24 }) (va_Pc [.ref qt] (ag_at (dC, dI) agCl [(cJ, .long)] sz [(qt, .inr (0, [.ref qw])), (qw, .inl (cJ, 5, .inr (.inl w)))])) (va_Qi (fun (r : Int32) (u : Nat → Int64) => r = nI K ∧ ∀ j, ag_bt u j = (ag_bt w j || decide (j = K))) (ag_to (dC, dI) agCl [(cJ, .long)] (va_A [(qt, .inr (0, [.ref qw])), (qw, .inl (cJ, 5, .inr (.inl w)))] sz) (fun u : Nat → Int64 => [(qt, .inr (0, [.ref qw])), (qw, .inl (cJ, 5, .inr (.inl u)))])) (va_A [(qt, .inr (0, [.ref qw])), (qw, .inl (cJ, 5, .inr (.inl w)))] sz)) 0 0 (va_A [(qt, .inr (0, [.ref qw])), (qw, .inl (cJ, 5, .inr (.inl w)))] sz) := by
  refine ag_ofW (Qf := fun A => va_Qi (fun (r : Int32) (u : Nat → Int64) => r = nI K ∧ ∀ j, ag_bt u j = (ag_bt w j || decide (j = K))) (ag_to (dC, dI) agCl [(cJ, .long)] A (fun u : Nat → Int64 => [(qt, .inr (0, [.ref qw])), (qw, .inl (cJ, 5, .inr (.inl u)))])) A) (cc := b_S_takeLeast) (maxL := 6) (ret := (some .int)) (lv := [(0, .ref qt)]) (by decide) rfl (Nat.le_of_ble_eq_true rfl) rfl (fun p e s m below meth c A ls hx hb hr hts hown hlocks hml hnm hA hS hP hK hD hl hsz => ?_)
  have hown : s.vm.findClass "AgedMarks$Slots" = some m.cls := hown
  have ht : ∀ w ∈ agW, w.before [.ref qt].toArray s = true := fun w h => hts w (List.mem_cons_of_mem _ h)
  refine ag_iconst hx hb 0 d_S_takeLeast_0 (by decide) ?_
  refine lv_istore_n (lv' := [(1, .int (nI 0)), (0, .ref qt)]) hx hb d_S_takeLeast_1 rfl hl (by decide) rfl (fun ls hl => ?_)
  have loop : ∀ (n i : Nat), 5 < i + n → 64 * i ≤ K → ∀ ls : Array Slot, lv_has ls 6 [(1, .int (nI i)), (0, .ref qt)] → W p l e { frames := 1, cells := 0, slots := 0, locals := 24 } s m [.ref qt].toArray below meth c s.heap [] 0 0 (MQ below (va_Qi (fun (r : Int32) (u : Nat → Int64) => r = nI K ∧ ∀ j, ag_bt u j = (ag_bt w j || decide (j = K))) (ag_to (dC, dI) agCl [(cJ, .long)] A (fun u : Nat → Int64 => [(qt, .inr (0, [.ref qw])), (qw, .inl (cJ, 5, .inr (.inl u)))])) A) [.ref qt].toArray s 0 0 A) (F0 m 2 ls []) := by
    intro n
    induction n with
    | zero => intro i h; omega
    | succ n ih =>
      intro i hn hi ls hl
      refine lv_iload_n hx hb d_S_takeLeast_2 rfl (lv_at hl 0 rfl) ?_
      refine ag_iconst hx hb 5 d_S_takeLeast_3 (by decide) ?_
      refine ag_icmp_ge (tgt := 60) hx hb d_S_takeLeast_4 (by decide) (by omega) (by omega) (fun c4 => ?_) (fun c4 => ?_)
      · have h_n := trivial
        exact absurd c4 (by omega)
      · have h_n := trivial
        refine lv_aload_n hx hb d_S_takeLeast_7 rfl (lv_at hl 1 rfl) ?_
        refine va_get (D := (dC, dI)) (ci := 0) (v := .ref qw) (C := RX0) (T := TX0) (N := 1) hx hb ht inA0 hown hK hP 0 rfl rfl 0 (by decide) (ht _ mw_f_S_9) (fun _ h9 => h9) rfl d_S_takeLeast_8 ?_
        refine lv_iload_n hx hb d_S_takeLeast_11 rfl (lv_at hl 0 rfl) ?_
        refine ag_lald hx hb hK hP 1 0 rfl rfl (by omega) (by decide) d_S_takeLeast_12 ?_
        refine lv_ldc2 (v := -1) hx hb hown (ht _ mw_k_S_15) d_S_takeLeast_13 ?_
        refine lv_lxor hx hb d_S_takeLeast_16 ?_
        refine lv_lstore_n (lv' := [(2, .long ((w i) ^^^ (-1))), (1, .int (nI i)), (0, .ref qt)]) hx hb d_S_takeLeast_17 rfl hl (by decide) rfl (fun ls hl => ?_)
        refine lv_lload_n hx hb d_S_takeLeast_18 rfl (lv_at hl 0 rfl) ?_
        refine ag_lconst hx hb 0 d_S_takeLeast_19 (by decide) ?_
        refine ag_lc_eq (tgt := 54) hx hb d_S_takeLeast_20 d_S_takeLeast_21 (by decide) (fun c20 => ?_) (fun c20 => ?_)
        · have h_n := trivial
          have hf : ∀ j, j < 64 → (w i).toBitVec.getLsbD j = true := fun j hj => ag_full c20 hj
          have hi2 : 64 * (i + 1) ≤ K := by
            rcases Nat.lt_or_ge K (64 * (i + 1)) with q | q
            · have h2 := hf (K % 64) (by omega)
              unfold ag_bt at h0
              rw [show K / 64 = i by omega, h2] at h0
              cases h0
            · exact q
          refine lv_iinc (v := nI (i + 1)) (lv' := [(1, .int (nI (i + 1))), (2, .long ((w i) ^^^ (-1))), (0, .ref qt)]) hx hb d_S_takeLeast_54 hl (k := 1) rfl (nI_1 _) (by decide) rfl (fun ls hl => ?_)
          refine lv_goto (tgt := 2) hx hb d_S_takeLeast_57 (by decide) ?_
          exact ih (i + 1) (by omega) hi2 ls (lv_sub hl [0, 2] rfl)
        · have h_n := trivial
          obtain ⟨j, hj, b1, b2, b3⟩ := ag_free c20
          have hb1 : ag_bt w (64 * i + j) = false := by unfold ag_bt; rw [show (64 * i + j) / 64 = i by omega, show (64 * i + j) % 64 = j by omega]; exact b1
          have hb2 : ∀ q, q < j → ag_bt w (64 * i + q) = true := fun q hq => by unfold ag_bt; rw [show (64 * i + q) / 64 = i by omega, show (64 * i + q) % 64 = q by omega]; exact b2 q hq
          have hKe : K = 64 * i + j := by
            rcases Nat.lt_trichotomy K (64 * i + j) with q | q | q
            · have h2 := hb2 (K - 64 * i) (by omega)
              rw [show 64 * i + (K - 64 * i) = K by omega, h0] at h2
              cases h2
            · exact q
            · have h2 := h1 _ q
              rw [hb1] at h2
              cases h2
          refine lv_lload_n hx hb d_S_takeLeast_24 rfl (lv_at hl 0 rfl) ?_
          refine lv_lload_n hx hb d_S_takeLeast_25 rfl (lv_at hl 0 rfl) ?_
          refine lv_lneg hx hb d_S_takeLeast_26 ?_
          refine lv_land hx hb d_S_takeLeast_27 ?_
          refine ag_topl (lN (2 ^ j)) b3 ?_
          refine lv_lstore (lv' := [(4, .long (lN (2 ^ j))), (2, .long ((w i) ^^^ (-1))), (1, .int (nI i)), (0, .ref qt)]) hx hb d_S_takeLeast_28 hl (by decide) rfl (fun ls hl => ?_)
          refine lv_aload_n hx hb d_S_takeLeast_30 rfl (lv_at hl 3 rfl) ?_
          refine va_get (D := (dC, dI)) (ci := 0) (v := .ref qw) (C := RX0) (T := TX0) (N := 1) hx hb ht inA0 hown hK hP 0 rfl rfl 0 (by decide) (ht _ mw_f_S_9) (fun _ h9 => h9) rfl d_S_takeLeast_31 ?_
          refine lv_iload_n hx hb d_S_takeLeast_34 rfl (lv_at hl 2 rfl) ?_
          refine lv_dup2_11 hx hb d_S_takeLeast_35 rfl rfl ?_
          refine ag_lald hx hb hK hP 1 0 rfl rfl (by omega) (by decide) d_S_takeLeast_36 ?_
          refine lv_lload hx hb d_S_takeLeast_37 (lv_at hl 0 rfl) ?_
          refine lv_lor hx hb d_S_takeLeast_39 ?_
          refine ag_last hx hb hK hP hD hS 1 0 rfl rfl (by omega) (by decide) d_S_takeLeast_40 (fun H locs hP hD hS => ?_)
          have hP : va_P (dC, dI) agCl [(qt, .inr (0, [.ref qw])), (qw, .inl (cJ, 5, .inr (.inl (vp_updL w i ((w i) ||| (lN (2 ^ j)))))))] H := hP
          have hD : va_D A [(qt, .inr (0, [.ref qw])), (qw, .inl (cJ, 5, .inr (.inl (vp_updL w i ((w i) ||| (lN (2 ^ j)))))))] := hD
          refine lv_iload_n hx hb d_S_takeLeast_41 rfl (lv_at hl 2 rfl) ?_
          refine ag_bipush hx hb 64 d_S_takeLeast_42 (by decide) ?_
          refine lv_imul hx hb d_S_takeLeast_44 ?_
          refine ag_topi (nI (i * 64)) (pk_mul _ _) ?_
          refine lv_lload hx hb d_S_takeLeast_45 (lv_at hl 0 rfl) ?_
          refine ag_lconst hx hb 1 d_S_takeLeast_47 (by decide) ?_
          refine lv_lsub hx hb d_S_takeLeast_48 ?_
          refine ag_topl (lN (2 ^ j) - lN 1) rfl ?_
          have hPc := hP.sub (ws' := []) [] rfl
          have hDc := hD.sub (ws' := []) [] (by decide) rfl
          have hKc := hK.sub (tys' := []) [] rfl
          refine ag_cli (wc := []) (wr := [(qt, .inr (0, [.ref qw])), (qw, .inl (cJ, 5, .inr (.inl (vp_updL w i ((w i) ||| (lN (2 ^ j)))))))]) (Wf := fun _ : Unit => ([] : va_W)) hP hD hS hA [] [0, 1] rfl rfl (by decide) (by decide) (va_runS (As := [.long (lN (2 ^ j) - lN 1)]) (rest := [.int (nI (i * 64))]) ⟨hx, hb, hml, hown, hts⟩ (c_B_bitCount l dC dI H.size (lN (2 ^ j) - lN 1)) (ag_cwS 1 hts mw_m_S_17 mw_static_B_bitCount mw_ini_B mw_code_B_bitCount rfl rfl (by decide +kernel) ⟨Nat.le_of_ble_eq_true rfl, Nat.le_of_ble_eq_true rfl⟩) ⟨ag_blind, ag_pre hPc hKc hDc⟩ rfl rfl hl.1 rfl (lv_room (Nat.le_of_ble_eq_true rfl)) d_S_takeLeast_49 ⟨Nat.le_of_ble_eq_true rfl, Nat.le_of_ble_eq_true rfl⟩) (fun r1 u H locs hw hP hD hS => ?_)
          try dsimp only at hw
          rw [ag_bc_pow j hj] at hw
          subst hw
          have hP : va_P (dC, dI) agCl [(qt, .inr (0, [.ref qw])), (qw, .inl (cJ, 5, .inr (.inl (vp_updL w i ((w i) ||| (lN (2 ^ j)))))))] H := hP
          have hD : va_D A [(qt, .inr (0, [.ref qw])), (qw, .inl (cJ, 5, .inr (.inl (vp_updL w i ((w i) ||| (lN (2 ^ j)))))))] := hD
          refine lv_iadd hx hb d_S_takeLeast_52 ?_
          refine ag_topi (nI ((i * 64) + j)) (nI_add _ _) ?_
          exact ag_reti hx hb hr hlocks (vp_updL w i (w i ||| lN (2 ^ j))) (⟨by rw [hKe, Nat.mul_comm], fun q => by rw [ag_bt_set hj, hKe]⟩) hP hK hD hS d_S_takeLeast_53
  exact loop 6 0 (by omega) (by omega) ls hl
end
section
set_option maxHeartbeats 4000000 in
set_option maxRecDepth 100000 in
/-- gapsIn(x): x / gap -/
theorem c_A_gapsIn (l : Launch) (dC : Nat → ClassId) (dI : Nat → Nat → Nat) (sz : Nat) (a qm qs qt qw : Nat) (cI cJ : ClassId) (G R hd nw en mo la go sp : Nat) (f g : Nat → Int32) (w : Nat → Int64) (x : Nat) (hG : 0 < G) (hG2 : G ≤ 1000) (hx9 : x ≤ 1000000 * G) : Met l y_A_gapsIn (Cond.code y_A_gapsIn b_A_gapsIn 3 (some .int) :: agW) ({ frames := 0, cells := 0, slots := 0, locals := 0 }) (va_Pc [.ref a, .long (lN x)] (ag_at (dC, dI) agCl [(cI, .int), (cJ, .long)] sz [(a, .inr (1, [.int (nI G), .int (nI R), .ref qm, .ref qs, .ref qt, .int (nI hd), .long (lN nw), .long (lN en), .int (nI mo), .long (lN la), .long (lN go), .long (lN sp)])), (qm, .inl (cI, 320, .inl f)), (qs, .inl (cI, 320, .inl g)), (qt, .inr (0, [.ref qw])), (qw, .inl (cJ, 5, .inr (.inl w)))])) (va_Qi (fun (r : Int32) (_ : Unit) => r = nI (x / G)) (ag_to (dC, dI) agCl [(cI, .int), (cJ, .long)] (va_A [(a, .inr (1, [.int (nI G), .int (nI R), .ref qm, .ref qs, .ref qt, .int (nI hd), .long (lN nw), .long (lN en), .int (nI mo), .long (lN la), .long (lN go), .long (lN sp)])), (qm, .inl (cI, 320, .inl f)), (qs, .inl (cI, 320, .inl g)), (qt, .inr (0, [.ref qw])), (qw, .inl (cJ, 5, .inr (.inl w)))] sz) (fun _ : Unit => [(a, .inr (1, [.int (nI G), .int (nI R), .ref qm, .ref qs, .ref qt, .int (nI hd), .long (lN nw), .long (lN en), .int (nI mo), .long (lN la), .long (lN go), .long (lN sp)])), (qm, .inl (cI, 320, .inl f)), (qs, .inl (cI, 320, .inl g)), (qt, .inr (0, [.ref qw])), (qw, .inl (cJ, 5, .inr (.inl w)))])) (va_A [(a, .inr (1, [.int (nI G), .int (nI R), .ref qm, .ref qs, .ref qt, .int (nI hd), .long (lN nw), .long (lN en), .int (nI mo), .long (lN la), .long (lN go), .long (lN sp)])), (qm, .inl (cI, 320, .inl f)), (qs, .inl (cI, 320, .inl g)), (qt, .inr (0, [.ref qw])), (qw, .inl (cJ, 5, .inr (.inl w)))] sz)) 0 0 (va_A [(a, .inr (1, [.int (nI G), .int (nI R), .ref qm, .ref qs, .ref qt, .int (nI hd), .long (lN nw), .long (lN en), .int (nI mo), .long (lN la), .long (lN go), .long (lN sp)])), (qm, .inl (cI, 320, .inl f)), (qs, .inl (cI, 320, .inl g)), (qt, .inr (0, [.ref qw])), (qw, .inl (cJ, 5, .inr (.inl w)))] sz) := by
  refine ag_ofW (Qf := fun A => va_Qi (fun (r : Int32) (_ : Unit) => r = nI (x / G)) (ag_to (dC, dI) agCl [(cI, .int), (cJ, .long)] A (fun _ : Unit => [(a, .inr (1, [.int (nI G), .int (nI R), .ref qm, .ref qs, .ref qt, .int (nI hd), .long (lN nw), .long (lN en), .int (nI mo), .long (lN la), .long (lN go), .long (lN sp)])), (qm, .inl (cI, 320, .inl f)), (qs, .inl (cI, 320, .inl g)), (qt, .inr (0, [.ref qw])), (qw, .inl (cJ, 5, .inr (.inl w)))])) A) (cc := b_A_gapsIn) (maxL := 3) (ret := (some .int)) (lv := [(0, .ref a), (1, .long (lN x))]) (by decide) rfl (Nat.le_of_ble_eq_true rfl) rfl (fun p e s m below meth c A ls hx hb hr hts hown hlocks hml hnm hA hS hP hK hD hl hsz => ?_)
  have hown : s.vm.findClass "AgedMarks" = some m.cls := hown
  have ht : ∀ w ∈ agW, w.before [.ref a, .long (lN x)].toArray s = true := fun w h => hts w (List.mem_cons_of_mem _ h)
  refine lv_aload_n hx hb d_A_gapsIn_0 rfl (lv_at hl 0 rfl) ?_
  refine va_get (D := (dC, dI)) (ci := 1) (v := .int (nI G)) (C := RX1) (T := TX1) (N := 12) hx hb ht inA1 hown hK hP 0 rfl rfl 0 (by decide) (ht _ mw_f_A_32) (fun _ h9 => h9) rfl d_A_gapsIn_1 ?_
  refine ag_if_le (tgt := 18) hx hb d_A_gapsIn_4 (by decide) (by omega) (fun c4 => ?_) (fun c4 => ?_)
  · have h_n := trivial
    exact absurd c4 (by omega)
  · have h_n := trivial
    refine lv_lload_n hx hb d_A_gapsIn_7 rfl (lv_at hl 1 rfl) ?_
    refine lv_aload_n hx hb d_A_gapsIn_8 rfl (lv_at hl 0 rfl) ?_
    refine va_get (D := (dC, dI)) (ci := 1) (v := .int (nI G)) (C := RX1) (T := TX1) (N := 12) hx hb ht inA1 hown hK hP 0 rfl rfl 0 (by decide) (ht _ mw_f_A_32) (fun _ h9 => h9) rfl d_A_gapsIn_9 ?_
    refine lv_i2l (v := lN G) hx hb d_A_gapsIn_12 (nI_l (by omega)) ?_
    refine lv_ldiv hx hb d_A_gapsIn_13 (fun q => absurd ((pk_lEQ (a := G) (b := 0) (by omega) (by omega)).mp q) (by omega)) ?_
    refine ag_topl (lN (x / G)) (pk_lDiv (by omega) (by omega) (by omega)) ?_
    refine lv_l2i (v := nI (x / G)) hx hb d_A_gapsIn_14 (lN_i _) ?_
    refine lv_goto (tgt := 19) hx hb d_A_gapsIn_15 (by decide) ?_
    exact ag_reti hx hb hr hlocks () rfl hP hK hD hS d_A_gapsIn_19

set_option maxHeartbeats 4000000 in
set_option maxRecDepth 100000 in
/-- countAt(k): the count of the mark at k -/
theorem c_A_countAt (l : Launch) (dC : Nat → ClassId) (dI : Nat → Nat → Nat) (sz : Nat) (a qm qs qt qw : Nat) (cI cJ : ClassId) (G R hd nw en mo la go sp : Nat) (f g : Nat → Int32) (w : Nat → Int64) (k i : Nat) (hk : k < 320) (hi : i < 2 ^ 31) (hG2 : G ≤ 1000) (hf : f k = nI i) : Met l y_A_countAt (Cond.code y_A_countAt b_A_countAt 2 (some .long) :: agW) ({ frames := 0, cells := 0, slots := 0, locals := 0 }) (va_Pc [.ref a, .int (nI k)] (ag_at (dC, dI) agCl [(cI, .int), (cJ, .long)] sz [(a, .inr (1, [.int (nI G), .int (nI R), .ref qm, .ref qs, .ref qt, .int (nI hd), .long (lN nw), .long (lN en), .int (nI mo), .long (lN la), .long (lN go), .long (lN sp)])), (qm, .inl (cI, 320, .inl f)), (qs, .inl (cI, 320, .inl g)), (qt, .inr (0, [.ref qw])), (qw, .inl (cJ, 5, .inr (.inl w)))])) (va_Ql (fun (r : Int64) (_ : Unit) => r = lN (i * G)) (ag_to (dC, dI) agCl [(cI, .int), (cJ, .long)] (va_A [(a, .inr (1, [.int (nI G), .int (nI R), .ref qm, .ref qs, .ref qt, .int (nI hd), .long (lN nw), .long (lN en), .int (nI mo), .long (lN la), .long (lN go), .long (lN sp)])), (qm, .inl (cI, 320, .inl f)), (qs, .inl (cI, 320, .inl g)), (qt, .inr (0, [.ref qw])), (qw, .inl (cJ, 5, .inr (.inl w)))] sz) (fun _ : Unit => [(a, .inr (1, [.int (nI G), .int (nI R), .ref qm, .ref qs, .ref qt, .int (nI hd), .long (lN nw), .long (lN en), .int (nI mo), .long (lN la), .long (lN go), .long (lN sp)])), (qm, .inl (cI, 320, .inl f)), (qs, .inl (cI, 320, .inl g)), (qt, .inr (0, [.ref qw])), (qw, .inl (cJ, 5, .inr (.inl w)))])) (va_A [(a, .inr (1, [.int (nI G), .int (nI R), .ref qm, .ref qs, .ref qt, .int (nI hd), .long (lN nw), .long (lN en), .int (nI mo), .long (lN la), .long (lN go), .long (lN sp)])), (qm, .inl (cI, 320, .inl f)), (qs, .inl (cI, 320, .inl g)), (qt, .inr (0, [.ref qw])), (qw, .inl (cJ, 5, .inr (.inl w)))] sz)) 0 0 (va_A [(a, .inr (1, [.int (nI G), .int (nI R), .ref qm, .ref qs, .ref qt, .int (nI hd), .long (lN nw), .long (lN en), .int (nI mo), .long (lN la), .long (lN go), .long (lN sp)])), (qm, .inl (cI, 320, .inl f)), (qs, .inl (cI, 320, .inl g)), (qt, .inr (0, [.ref qw])), (qw, .inl (cJ, 5, .inr (.inl w)))] sz) := by
  refine ag_ofW (Qf := fun A => va_Ql (fun (r : Int64) (_ : Unit) => r = lN (i * G)) (ag_to (dC, dI) agCl [(cI, .int), (cJ, .long)] A (fun _ : Unit => [(a, .inr (1, [.int (nI G), .int (nI R), .ref qm, .ref qs, .ref qt, .int (nI hd), .long (lN nw), .long (lN en), .int (nI mo), .long (lN la), .long (lN go), .long (lN sp)])), (qm, .inl (cI, 320, .inl f)), (qs, .inl (cI, 320, .inl g)), (qt, .inr (0, [.ref qw])), (qw, .inl (cJ, 5, .inr (.inl w)))])) A) (cc := b_A_countAt) (maxL := 2) (ret := (some .long)) (lv := [(0, .ref a), (1, .int (nI k))]) (by decide) rfl (Nat.le_of_ble_eq_true rfl) rfl (fun p e s m below meth c A ls hx hb hr hts hown hlocks hml hnm hA hS hP hK hD hl hsz => ?_)
  have hown : s.vm.findClass "AgedMarks" = some m.cls := hown
  have ht : ∀ w ∈ agW, w.before [.ref a, .int (nI k)].toArray s = true := fun w h => hts w (List.mem_cons_of_mem _ h)
  refine lv_iload_n hx hb d_A_countAt_0 rfl (lv_at hl 1 rfl) ?_
  refine ag_if_lt (tgt := 27) hx hb d_A_countAt_1 (by decide) (by omega) ?_
  refine lv_iload_n hx hb d_A_countAt_4 rfl (lv_at hl 1 rfl) ?_
  refine ag_sipush hx hb 320 d_A_countAt_5 (by decide) ?_
  refine ag_icmp_ge (tgt := 27) hx hb d_A_countAt_8 (by decide) (by omega) (by omega) (fun c8 => ?_) (fun c8 => ?_)
  · have h_n := trivial
    exact absurd c8 (by omega)
  · have h_n := trivial
    refine lv_aload_n hx hb d_A_countAt_11 rfl (lv_at hl 0 rfl) ?_
    refine va_get (D := (dC, dI)) (ci := 1) (v := .ref qm) (C := RX1) (T := TX1) (N := 12) hx hb ht inA1 hown hK hP 0 rfl rfl 2 (by decide) (ht _ mw_f_A_9) (fun _ h9 => h9) rfl d_A_countAt_12 ?_
    refine lv_iload_n hx hb d_A_countAt_15 rfl (lv_at hl 1 rfl) ?_
    refine ag_iald hx hb hK hP 1 0 rfl rfl hk (by decide) d_A_countAt_16 ?_
    refine ag_topi (nI i) hf ?_
    refine lv_i2l (v := lN i) hx hb d_A_countAt_17 (nI_l (by omega)) ?_
    refine lv_aload_n hx hb d_A_countAt_18 rfl (lv_at hl 0 rfl) ?_
    refine va_get (D := (dC, dI)) (ci := 1) (v := .int (nI G)) (C := RX1) (T := TX1) (N := 12) hx hb ht inA1 hown hK hP 0 rfl rfl 0 (by decide) (ht _ mw_f_A_32) (fun _ h9 => h9) rfl d_A_countAt_19 ?_
    refine lv_i2l (v := lN G) hx hb d_A_countAt_22 (nI_l (by omega)) ?_
    refine lv_lmul hx hb d_A_countAt_23 ?_
    refine ag_topl (lN (i * G)) (lN_mul _ _) ?_
    refine lv_goto (tgt := 28) hx hb d_A_countAt_24 (by decide) ?_
    exact ag_retl hx hb hr hlocks () rfl hP hK hD hS d_A_countAt_28

set_option maxHeartbeats 4000000 in
set_option maxRecDepth 100000 in
/-- placeOf(x): where x lies among the marks, or -1 -/
theorem c_A_placeOf (l : Launch) (dC : Nat → ClassId) (dI : Nat → Nat → Nat) (sz : Nat) (a qm qs qt qw : Nat) (cI cJ : ClassId) (G R hd nw en mo la go sp : Nat) (f g : Nat → Int32) (w : Nat → Int64) (x : Int32) (hd0 : 0 < hd) (hd1 : hd ≤ 320) (hs : ∀ i j, i < j → j < hd → f i < f j) : Met l y_A_placeOf (Cond.code y_A_placeOf b_A_placeOf 3 (some .int) :: agW) ({ frames := 0, cells := 0, slots := 0, locals := 0 }) (va_Pc [.ref a, .int x] (ag_at (dC, dI) agCl [(cI, .int), (cJ, .long)] sz [(a, .inr (1, [.int (nI G), .int (nI R), .ref qm, .ref qs, .ref qt, .int (nI hd), .long (lN nw), .long (lN en), .int (nI mo), .long (lN la), .long (lN go), .long (lN sp)])), (qm, .inl (cI, 320, .inl f)), (qs, .inl (cI, 320, .inl g)), (qt, .inr (0, [.ref qw])), (qw, .inl (cJ, 5, .inr (.inl w)))])) (va_Qi (fun (r : Int32) (_ : Unit) => (∃ k, k < hd ∧ f k = x ∧ r = nI k) ∨ ((∀ k, k < hd → f k ≠ x) ∧ r = -1)) (ag_to (dC, dI) agCl [(cI, .int), (cJ, .long)] (va_A [(a, .inr (1, [.int (nI G), .int (nI R), .ref qm, .ref qs, .ref qt, .int (nI hd), .long (lN nw), .long (lN en), .int (nI mo), .long (lN la), .long (lN go), .long (lN sp)])), (qm, .inl (cI, 320, .inl f)), (qs, .inl (cI, 320, .inl g)), (qt, .inr (0, [.ref qw])), (qw, .inl (cJ, 5, .inr (.inl w)))] sz) (fun _ : Unit => [(a, .inr (1, [.int (nI G), .int (nI R), .ref qm, .ref qs, .ref qt, .int (nI hd), .long (lN nw), .long (lN en), .int (nI mo), .long (lN la), .long (lN go), .long (lN sp)])), (qm, .inl (cI, 320, .inl f)), (qs, .inl (cI, 320, .inl g)), (qt, .inr (0, [.ref qw])), (qw, .inl (cJ, 5, .inr (.inl w)))])) (va_A [(a, .inr (1, [.int (nI G), .int (nI R), .ref qm, .ref qs, .ref qt, .int (nI hd), .long (lN nw), .long (lN en), .int (nI mo), .long (lN la), .long (lN go), .long (lN sp)])), (qm, .inl (cI, 320, .inl f)), (qs, .inl (cI, 320, .inl g)), (qt, .inr (0, [.ref qw])), (qw, .inl (cJ, 5, .inr (.inl w)))] sz)) 0 0 (va_A [(a, .inr (1, [.int (nI G), .int (nI R), .ref qm, .ref qs, .ref qt, .int (nI hd), .long (lN nw), .long (lN en), .int (nI mo), .long (lN la), .long (lN go), .long (lN sp)])), (qm, .inl (cI, 320, .inl f)), (qs, .inl (cI, 320, .inl g)), (qt, .inr (0, [.ref qw])), (qw, .inl (cJ, 5, .inr (.inl w)))] sz) := by
  refine ag_ofW (Qf := fun A => va_Qi (fun (r : Int32) (_ : Unit) => (∃ k, k < hd ∧ f k = x ∧ r = nI k) ∨ ((∀ k, k < hd → f k ≠ x) ∧ r = -1)) (ag_to (dC, dI) agCl [(cI, .int), (cJ, .long)] A (fun _ : Unit => [(a, .inr (1, [.int (nI G), .int (nI R), .ref qm, .ref qs, .ref qt, .int (nI hd), .long (lN nw), .long (lN en), .int (nI mo), .long (lN la), .long (lN go), .long (lN sp)])), (qm, .inl (cI, 320, .inl f)), (qs, .inl (cI, 320, .inl g)), (qt, .inr (0, [.ref qw])), (qw, .inl (cJ, 5, .inr (.inl w)))])) A) (cc := b_A_placeOf) (maxL := 3) (ret := (some .int)) (lv := [(0, .ref a), (1, .int x)]) (by decide) rfl (Nat.le_of_ble_eq_true rfl) rfl (fun p e s m below meth c A ls hx hb hr hts hown hlocks hml hnm hA hS hP hK hD hl hsz => ?_)
  have hown : s.vm.findClass "AgedMarks" = some m.cls := hown
  have ht : ∀ w ∈ agW, w.before [.ref a, .int x].toArray s = true := fun w h => hts w (List.mem_cons_of_mem _ h)
  refine lv_aload_n hx hb d_A_placeOf_0 rfl (lv_at hl 0 rfl) ?_
  refine va_get (D := (dC, dI)) (ci := 1) (v := .int (nI hd)) (C := RX1) (T := TX1) (N := 12) hx hb ht inA1 hown hK hP 0 rfl rfl 5 (by decide) (ht _ mw_f_A_43) (fun _ h9 => h9) rfl d_A_placeOf_1 ?_
  refine ag_iconst hx hb 1 d_A_placeOf_4 (by decide) ?_
  refine lv_isub hx hb d_A_placeOf_5 ?_
  refine ag_topi (nI (hd - 1)) (pk_sub (by omega)) ?_
  refine ag_topi (nI hd - 1) (by rw [← pk_sub (by omega)]; rfl) ?_
  refine lv_istore_n (lv' := [(2, .int (nI hd - 1)), (0, .ref a), (1, .int x)]) hx hb d_A_placeOf_6 rfl hl (by decide) rfl (fun ls hl => ?_)
  have loop : ∀ (j : Nat), j ≤ hd → (∀ k, j ≤ k → k < hd → x < f k) → ∀ ls : Array Slot, lv_has ls 3 [(2, .int (nI j - 1)), (0, .ref a), (1, .int x)] → W p l e { frames := 0, cells := 0, slots := 0, locals := 0 } s m [.ref a, .int x].toArray below meth c s.heap [] 0 0 (MQ below (va_Qi (fun (r : Int32) (_ : Unit) => (∃ k, k < hd ∧ f k = x ∧ r = nI k) ∨ ((∀ k, k < hd → f k ≠ x) ∧ r = -1)) (ag_to (dC, dI) agCl [(cI, .int), (cJ, .long)] A (fun _ : Unit => [(a, .inr (1, [.int (nI G), .int (nI R), .ref qm, .ref qs, .ref qt, .int (nI hd), .long (lN nw), .long (lN en), .int (nI mo), .long (lN la), .long (lN go), .long (lN sp)])), (qm, .inl (cI, 320, .inl f)), (qs, .inl (cI, 320, .inl g)), (qt, .inr (0, [.ref qw])), (qw, .inl (cJ, 5, .inr (.inl w)))])) A) [.ref a, .int x].toArray s 0 0 A) (F0 m 7 ls []) := by
    intro j
    induction j with
    | zero =>
      intro _ hgt ls hl
      refine lv_iload_n hx hb d_A_placeOf_7 rfl (lv_at hl 0 rfl) ?_
      refine lv_if_lt (tgt := 43) hx hb d_A_placeOf_8 (by decide) (fun c8 => ?_) (fun c8 => ?_)
      · have h_n := trivial
        refine lv_iconst (v := -1) hx hb d_A_placeOf_43 (by decide) ?_
        exact ag_reti hx hb hr hlocks () (Or.inr ⟨fun k hk q => absurd (hgt k (Nat.zero_le _) hk) (by rw [q]; exact Int32.lt_irrefl), rfl⟩) hP hK hD hS d_A_placeOf_44
      · have h_n := trivial
        exact absurd (by decide) c8
    | succ i ih =>
      intro hi hgt ls hl
      have hl : lv_has ls 3 [(2, .int (nI i)), (0, .ref a), (1, .int x)] := by rw [← nI_pred i]; exact hl
      refine lv_iload_n hx hb d_A_placeOf_7 rfl (lv_at hl 0 rfl) ?_
      refine ag_if_lt (tgt := 43) hx hb d_A_placeOf_8 (by decide) (by omega) ?_
      refine lv_aload_n hx hb d_A_placeOf_11 rfl (lv_at hl 1 rfl) ?_
      refine va_get (D := (dC, dI)) (ci := 1) (v := .ref qm) (C := RX1) (T := TX1) (N := 12) hx hb ht inA1 hown hK hP 0 rfl rfl 2 (by decide) (ht _ mw_f_A_9) (fun _ h9 => h9) rfl d_A_placeOf_12 ?_
      refine lv_iload_n hx hb d_A_placeOf_15 rfl (lv_at hl 0 rfl) ?_
      refine ag_iald hx hb hK hP 1 0 rfl rfl (by omega) (by decide) d_A_placeOf_16 ?_
      refine lv_iload_n hx hb d_A_placeOf_17 rfl (lv_at hl 2 rfl) ?_
      refine lv_icmp_gt (tgt := 37) hx hb d_A_placeOf_18 (by decide) (fun c18 => ?_) (fun c18 => ?_)
      · have h_n := trivial
        refine lv_iinc (v := nI i - 1) (lv' := [(2, .int (nI i - 1)), (0, .ref a), (1, .int x)]) hx hb d_A_placeOf_37 hl (k := 0) rfl (by rw [Int32.sub_eq_add_neg]; rfl) (by decide) rfl (fun ls hl => ?_)
        refine lv_goto (tgt := 7) hx hb d_A_placeOf_40 (by decide) ?_
        refine ih (by omega) (fun k h1 h2 => ?_) ls hl
        rcases Nat.lt_or_ge i k with q | q
        · exact hgt k (by omega) h2
        · rw [show k = i by omega]; exact c18
      · have h_n := trivial
        refine lv_aload_n hx hb d_A_placeOf_21 rfl (lv_at hl 1 rfl) ?_
        refine va_get (D := (dC, dI)) (ci := 1) (v := .ref qm) (C := RX1) (T := TX1) (N := 12) hx hb ht inA1 hown hK hP 0 rfl rfl 2 (by decide) (ht _ mw_f_A_9) (fun _ h9 => h9) rfl d_A_placeOf_22 ?_
        refine lv_iload_n hx hb d_A_placeOf_25 rfl (lv_at hl 0 rfl) ?_
        refine ag_iald hx hb hK hP 1 0 rfl rfl (by omega) (by decide) d_A_placeOf_26 ?_
        refine lv_iload_n hx hb d_A_placeOf_27 rfl (lv_at hl 2 rfl) ?_
        refine lv_icmp_ne (tgt := 35) hx hb d_A_placeOf_28 (by decide) (fun c28 => ?_) (fun c28 => ?_)
        · have h_n := trivial
          refine lv_iconst (v := -1) hx hb d_A_placeOf_35 (by decide) ?_
          exact ag_reti hx hb hr hlocks () (Or.inr ⟨fun k hk q => by rcases Nat.lt_trichotomy k i with z | z | z; (exact c18 (by rw [← q]; exact hs k i z (by omega))); (exact c28 (by rw [← z]; exact q)); (exact absurd (hgt k (by omega) hk) (by rw [q]; exact Int32.lt_irrefl)), rfl⟩) hP hK hD hS d_A_placeOf_36
        · have h_n := trivial
          refine lv_iload_n hx hb d_A_placeOf_31 rfl (lv_at hl 0 rfl) ?_
          refine lv_goto (tgt := 36) hx hb d_A_placeOf_32 (by decide) ?_
          exact ag_reti hx hb hr hlocks () (Or.inl ⟨i, by omega, c28, rfl⟩) hP hK hD hS d_A_placeOf_36
  exact loop hd (Nat.le_refl _) (fun k h1 h2 => by omega) ls hl
end
section
set_option maxHeartbeats 4000000 in
set_option maxRecDepth 100000 in
/-- drop(k): the mark at k goes -/
theorem c_A_drop (l : Launch) (dC : Nat → ClassId) (dI : Nat → Nat → Nat) (sz : Nat) (a qm qs qt qw : Nat) (cI cJ : ClassId) (G R nw en mo la go sp : Nat) (f g : Nat → Int32) (w : Nat → Int64) (ms : ag_M) (k : Nat) (hk : k < ms.length) (hbd : ag_bd ms) (hn : (ms.map (·.2)).Nodup) (hrep : ag_rep ms f g w) : Met l y_A_drop (Cond.code y_A_drop b_A_drop 3 none :: agW) ({ frames := 1, cells := 0, slots := 0, locals := 40 }) (va_Pc [.ref a, .int (nI k)] (ag_at (dC, dI) agCl [(cI, .int), (cJ, .long)] sz [(a, .inr (1, [.int (nI G), .int (nI R), .ref qm, .ref qs, .ref qt, .int (nI ms.length), .long (lN nw), .long (lN en), .int (nI mo), .long (lN la), .long (lN go), .long (lN sp)])), (qm, .inl (cI, 320, .inl f)), (qs, .inl (cI, 320, .inl g)), (qt, .inr (0, [.ref qw])), (qw, .inl (cJ, 5, .inr (.inl w)))])) (va_Qv (fun u : (Nat → Int32) × (Nat → Int32) × (Nat → Int64) => ag_rep (ms.eraseIdx k) u.1 u.2.1 u.2.2) (ag_to (dC, dI) agCl [(cI, .int), (cJ, .long)] (va_A [(a, .inr (1, [.int (nI G), .int (nI R), .ref qm, .ref qs, .ref qt, .int (nI ms.length), .long (lN nw), .long (lN en), .int (nI mo), .long (lN la), .long (lN go), .long (lN sp)])), (qm, .inl (cI, 320, .inl f)), (qs, .inl (cI, 320, .inl g)), (qt, .inr (0, [.ref qw])), (qw, .inl (cJ, 5, .inr (.inl w)))] sz) (fun u : (Nat → Int32) × (Nat → Int32) × (Nat → Int64) => [(a, .inr (1, [.int (nI G), .int (nI R), .ref qm, .ref qs, .ref qt, .int (nI (ms.length - 1)), .long (lN nw), .long (lN en), .int (nI mo), .long (lN la), .long (lN (go + 1)), .long (lN sp)])), (qm, .inl (cI, 320, .inl u.1)), (qs, .inl (cI, 320, .inl u.2.1)), (qt, .inr (0, [.ref qw])), (qw, .inl (cJ, 5, .inr (.inl u.2.2)))])) (va_A [(a, .inr (1, [.int (nI G), .int (nI R), .ref qm, .ref qs, .ref qt, .int (nI ms.length), .long (lN nw), .long (lN en), .int (nI mo), .long (lN la), .long (lN go), .long (lN sp)])), (qm, .inl (cI, 320, .inl f)), (qs, .inl (cI, 320, .inl g)), (qt, .inr (0, [.ref qw])), (qw, .inl (cJ, 5, .inr (.inl w)))] sz)) 0 0 (va_A [(a, .inr (1, [.int (nI G), .int (nI R), .ref qm, .ref qs, .ref qt, .int (nI ms.length), .long (lN nw), .long (lN en), .int (nI mo), .long (lN la), .long (lN go), .long (lN sp)])), (qm, .inl (cI, 320, .inl f)), (qs, .inl (cI, 320, .inl g)), (qt, .inr (0, [.ref qw])), (qw, .inl (cJ, 5, .inr (.inl w)))] sz) := by
  refine ag_ofW (Qf := fun A => va_Qv (fun u : (Nat → Int32) × (Nat → Int32) × (Nat → Int64) => ag_rep (ms.eraseIdx k) u.1 u.2.1 u.2.2) (ag_to (dC, dI) agCl [(cI, .int), (cJ, .long)] A (fun u : (Nat → Int32) × (Nat → Int32) × (Nat → Int64) => [(a, .inr (1, [.int (nI G), .int (nI R), .ref qm, .ref qs, .ref qt, .int (nI (ms.length - 1)), .long (lN nw), .long (lN en), .int (nI mo), .long (lN la), .long (lN (go + 1)), .long (lN sp)])), (qm, .inl (cI, 320, .inl u.1)), (qs, .inl (cI, 320, .inl u.2.1)), (qt, .inr (0, [.ref qw])), (qw, .inl (cJ, 5, .inr (.inl u.2.2)))])) A) (cc := b_A_drop) (maxL := 3) (ret := none) (lv := [(0, .ref a), (1, .int (nI k))]) (by decide) rfl (Nat.le_of_ble_eq_true rfl) rfl (fun p e s m below meth c A ls hx hb hr hts hown hlocks hml hnm hA hS hP hK hD hl hsz => ?_)
  have hown : s.vm.findClass "AgedMarks" = some m.cls := hown
  have ht : ∀ w ∈ agW, w.before [.ref a, .int (nI k)].toArray s = true := fun w h => hts w (List.mem_cons_of_mem _ h)
  have hlen := hbd.1
  have hsl : (ms[k]).2 < 320 := (hbd.2 _ (List.getElem_mem hk)).2
  refine lv_iload_n hx hb d_A_drop_0 rfl (lv_at hl 1 rfl) ?_
  refine ag_if_lt (tgt := 12) hx hb d_A_drop_1 (by decide) (by omega) ?_
  refine lv_iload_n hx hb d_A_drop_4 rfl (lv_at hl 1 rfl) ?_
  refine lv_aload_n hx hb d_A_drop_5 rfl (lv_at hl 0 rfl) ?_
  refine va_get (D := (dC, dI)) (ci := 1) (v := .int (nI ms.length)) (C := RX1) (T := TX1) (N := 12) hx hb ht inA1 hown hK hP 0 rfl rfl 5 (by decide) (ht _ mw_f_A_43) (fun _ h9 => h9) rfl d_A_drop_6 ?_
  refine ag_icmp_lt (tgt := 13) hx hb d_A_drop_9 (by decide) (by omega) (by omega) (fun c9 => ?_) (fun c9 => ?_)
  · have h_n := trivial
    refine lv_aload_n hx hb d_A_drop_13 rfl (lv_at hl 0 rfl) ?_
    refine va_get (D := (dC, dI)) (ci := 1) (v := .ref qt) (C := RX1) (T := TX1) (N := 12) hx hb ht inA1 hown hK hP 0 rfl rfl 4 (by decide) (ht _ mw_f_A_19) (fun _ h9 => h9) rfl d_A_drop_14 ?_
    refine lv_aload_n hx hb d_A_drop_17 rfl (lv_at hl 0 rfl) ?_
    refine va_get (D := (dC, dI)) (ci := 1) (v := .ref qs) (C := RX1) (T := TX1) (N := 12) hx hb ht inA1 hown hK hP 0 rfl rfl 3 (by decide) (ht _ mw_f_A_13) (fun _ h9 => h9) rfl d_A_drop_18 ?_
    refine lv_iload_n hx hb d_A_drop_21 rfl (lv_at hl 1 rfl) ?_
    refine ag_iald hx hb hK hP 2 0 rfl rfl (by omega) (by decide) d_A_drop_22 ?_
    refine ag_topi (nI ((ms[k]).2)) ((hrep.1 k hk).2) ?_
    have hPc := hP.sub (ws' := [(qt, .inr (0, [.ref qw])), (qw, .inl (cJ, 5, .inr (.inl w)))]) [3, 4] rfl
    have hDc := hD.sub (ws' := [(qt, .inr (0, [.ref qw])), (qw, .inl (cJ, 5, .inr (.inl w)))]) [3, 4] (by decide) rfl
    have hKc := hK.sub (tys' := [(cJ, .long)]) [1] rfl
    refine ag_clv (wc := [(qt, .inr (0, [.ref qw])), (qw, .inl (cJ, 5, .inr (.inl w)))]) (wr := [(a, .inr (1, [.int (nI G), .int (nI R), .ref qm, .ref qs, .ref qt, .int (nI ms.length), .long (lN nw), .long (lN en), .int (nI mo), .long (lN la), .long (lN go), .long (lN sp)])), (qm, .inl (cI, 320, .inl f)), (qs, .inl (cI, 320, .inl g))]) (Wf := fun u : Nat → Int64 => [(qt, .inr (0, [.ref qw])), (qw, .inl (cJ, 5, .inr (.inl u)))]) hP hD hS hA [3, 4] [0, 1, 2] rfl rfl (by decide) (by decide) (va_runV (C := "AgedMarks$Slots") (As := [.int (nI ((ms[k]).2))]) (rest := []) ⟨hx, hb, hml, hown, hts⟩ (c_S_release l dC dI s.heap.size qt qw cJ w (ms[k]).2 hsl) (ag_cwV 1 hts mw_m_A_124 mw_instanceMethod_S_release mw_sel_S_release mw_ini_S mw_code_S_release rfl rfl (by decide +kernel) ⟨Nat.le_of_ble_eq_true rfl, Nat.le_of_ble_eq_true rfl⟩) ⟨ag_blind, va_recv hK hPc (ci := 0) (q0 := 0) rfl rfl, ag_pre hPc hKc hDc⟩ rfl rfl hl.1 rfl (lv_room (Nat.le_of_ble_eq_true rfl)) d_A_drop_23 ⟨Nat.le_of_ble_eq_true rfl, Nat.le_of_ble_eq_true rfl⟩) (fun w1 H locs hw hP hD hS => ?_)
    try dsimp only at hw
    have hP : va_P (dC, dI) agCl [(a, .inr (1, [.int (nI G), .int (nI R), .ref qm, .ref qs, .ref qt, .int (nI ms.length), .long (lN nw), .long (lN en), .int (nI mo), .long (lN la), .long (lN go), .long (lN sp)])), (qm, .inl (cI, 320, .inl f)), (qs, .inl (cI, 320, .inl g)), (qt, .inr (0, [.ref qw])), (qw, .inl (cJ, 5, .inr (.inl w1)))] H := hP
    have hD : va_D A [(a, .inr (1, [.int (nI G), .int (nI R), .ref qm, .ref qs, .ref qt, .int (nI ms.length), .long (lN nw), .long (lN en), .int (nI mo), .long (lN la), .long (lN go), .long (lN sp)])), (qm, .inl (cI, 320, .inl f)), (qs, .inl (cI, 320, .inl g)), (qt, .inr (0, [.ref qw])), (qw, .inl (cJ, 5, .inr (.inl w1)))] := hD
    refine lv_aload_n hx hb d_A_drop_26 rfl (lv_at hl 0 rfl) ?_
    refine va_get (D := (dC, dI)) (ci := 1) (v := .int (nI ms.length)) (C := RX1) (T := TX1) (N := 12) hx hb ht inA1 hown hK hP 0 rfl rfl 5 (by decide) (ht _ mw_f_A_43) (fun _ h9 => h9) rfl d_A_drop_27 ?_
    refine ag_iconst hx hb 1 d_A_drop_30 (by decide) ?_
    refine lv_isub hx hb d_A_drop_31 ?_
    refine ag_topi (nI (ms.length - 1)) (pk_sub (by omega)) ?_
    refine lv_iload_n hx hb d_A_drop_32 rfl (lv_at hl 1 rfl) ?_
    refine lv_isub hx hb d_A_drop_33 ?_
    refine ag_topi (nI ((ms.length - 1) - k)) (pk_sub (by omega)) ?_
    refine lv_istore_n (lv' := [(2, .int (nI ((ms.length - 1) - k))), (0, .ref a), (1, .int (nI k))]) hx hb d_A_drop_34 rfl hl (by decide) rfl (fun ls hl => ?_)
    refine lv_aload_n hx hb d_A_drop_35 rfl (lv_at hl 1 rfl) ?_
    refine va_get (D := (dC, dI)) (ci := 1) (v := .ref qm) (C := RX1) (T := TX1) (N := 12) hx hb ht inA1 hown hK hP 0 rfl rfl 2 (by decide) (ht _ mw_f_A_9) (fun _ h9 => h9) rfl d_A_drop_36 ?_
    refine lv_iload_n hx hb d_A_drop_39 rfl (lv_at hl 2 rfl) ?_
    refine ag_iconst hx hb 1 d_A_drop_40 (by decide) ?_
    refine lv_iadd hx hb d_A_drop_41 ?_
    refine ag_topi (nI (k + 1)) (nI_add _ _) ?_
    refine lv_aload_n hx hb d_A_drop_42 rfl (lv_at hl 1 rfl) ?_
    refine va_get (D := (dC, dI)) (ci := 1) (v := .ref qm) (C := RX1) (T := TX1) (N := 12) hx hb ht inA1 hown hK hP 0 rfl rfl 2 (by decide) (ht _ mw_f_A_9) (fun _ h9 => h9) rfl d_A_drop_43 ?_
    refine lv_iload_n hx hb d_A_drop_46 rfl (lv_at hl 2 rfl) ?_
    refine lv_iload_n hx hb d_A_drop_47 rfl (lv_at hl 0 rfl) ?_
    refine ag_copyi hx hb (hml.trans hl.1.symm) hown (ht _ mw_m_A_127) (ht _ mw_native_Y_arraycopy) (ht _ mw_static_Y_arraycopy) (ht _ mw_ini_Y) hK hP hD hS 1 0 rfl rfl (sp := k + 1) (dp := k) (n := ms.length - 1 - k) (by omega) (by omega) (by decide) (Nat.le_of_ble_eq_true rfl) (Nat.le_of_ble_eq_true rfl) d_A_drop_48 (fun H locs hP hD hS => ?_)
    have hP : va_P (dC, dI) agCl [(a, .inr (1, [.int (nI G), .int (nI R), .ref qm, .ref qs, .ref qt, .int (nI ms.length), .long (lN nw), .long (lN en), .int (nI mo), .long (lN la), .long (lN go), .long (lN sp)])), (qm, .inl (cI, 320, .inl (va_cpy f f (k + 1) k (ms.length - 1 - k)))), (qs, .inl (cI, 320, .inl g)), (qt, .inr (0, [.ref qw])), (qw, .inl (cJ, 5, .inr (.inl w1)))] H := hP
    have hD : va_D A [(a, .inr (1, [.int (nI G), .int (nI R), .ref qm, .ref qs, .ref qt, .int (nI ms.length), .long (lN nw), .long (lN en), .int (nI mo), .long (lN la), .long (lN go), .long (lN sp)])), (qm, .inl (cI, 320, .inl (va_cpy f f (k + 1) k (ms.length - 1 - k)))), (qs, .inl (cI, 320, .inl g)), (qt, .inr (0, [.ref qw])), (qw, .inl (cJ, 5, .inr (.inl w1)))] := hD
    refine lv_aload_n hx hb d_A_drop_51 rfl (lv_at hl 1 rfl) ?_
    refine va_get (D := (dC, dI)) (ci := 1) (v := .ref qs) (C := RX1) (T := TX1) (N := 12) hx hb ht inA1 hown hK hP 0 rfl rfl 3 (by decide) (ht _ mw_f_A_13) (fun _ h9 => h9) rfl d_A_drop_52 ?_
    refine lv_iload_n hx hb d_A_drop_55 rfl (lv_at hl 2 rfl) ?_
    refine ag_iconst hx hb 1 d_A_drop_56 (by decide) ?_
    refine lv_iadd hx hb d_A_drop_57 ?_
    refine ag_topi (nI (k + 1)) (nI_add _ _) ?_
    refine lv_aload_n hx hb d_A_drop_58 rfl (lv_at hl 1 rfl) ?_
    refine va_get (D := (dC, dI)) (ci := 1) (v := .ref qs) (C := RX1) (T := TX1) (N := 12) hx hb ht inA1 hown hK hP 0 rfl rfl 3 (by decide) (ht _ mw_f_A_13) (fun _ h9 => h9) rfl d_A_drop_59 ?_
    refine lv_iload_n hx hb d_A_drop_62 rfl (lv_at hl 2 rfl) ?_
    refine lv_iload_n hx hb d_A_drop_63 rfl (lv_at hl 0 rfl) ?_
    refine ag_copyi hx hb (hml.trans hl.1.symm) hown (ht _ mw_m_A_127) (ht _ mw_native_Y_arraycopy) (ht _ mw_static_Y_arraycopy) (ht _ mw_ini_Y) hK hP hD hS 2 0 rfl rfl (sp := k + 1) (dp := k) (n := ms.length - 1 - k) (by omega) (by omega) (by decide) (Nat.le_of_ble_eq_true rfl) (Nat.le_of_ble_eq_true rfl) d_A_drop_64 (fun H locs hP hD hS => ?_)
    have hP : va_P (dC, dI) agCl [(a, .inr (1, [.int (nI G), .int (nI R), .ref qm, .ref qs, .ref qt, .int (nI ms.length), .long (lN nw), .long (lN en), .int (nI mo), .long (lN la), .long (lN go), .long (lN sp)])), (qm, .inl (cI, 320, .inl (va_cpy f f (k + 1) k (ms.length - 1 - k)))), (qs, .inl (cI, 320, .inl (va_cpy g g (k + 1) k (ms.length - 1 - k)))), (qt, .inr (0, [.ref qw])), (qw, .inl (cJ, 5, .inr (.inl w1)))] H := hP
    have hD : va_D A [(a, .inr (1, [.int (nI G), .int (nI R), .ref qm, .ref qs, .ref qt, .int (nI ms.length), .long (lN nw), .long (lN en), .int (nI mo), .long (lN la), .long (lN go), .long (lN sp)])), (qm, .inl (cI, 320, .inl (va_cpy f f (k + 1) k (ms.length - 1 - k)))), (qs, .inl (cI, 320, .inl (va_cpy g g (k + 1) k (ms.length - 1 - k)))), (qt, .inr (0, [.ref qw])), (qw, .inl (cJ, 5, .inr (.inl w1)))] := hD
    refine lv_aload_n hx hb d_A_drop_67 rfl (lv_at hl 1 rfl) ?_
    refine lv_dup hx hb d_A_drop_68 rfl ?_
    refine va_get (D := (dC, dI)) (ci := 1) (v := .int (nI ms.length)) (C := RX1) (T := TX1) (N := 12) hx hb ht inA1 hown hK hP 0 rfl rfl 5 (by decide) (ht _ mw_f_A_43) (fun _ h9 => h9) rfl d_A_drop_69 ?_
    refine ag_iconst hx hb 1 d_A_drop_72 (by decide) ?_
    refine lv_isub hx hb d_A_drop_73 ?_
    refine ag_topi (nI (ms.length - 1)) (pk_sub (by omega)) ?_
    refine va_put (D := (dC, dI)) (ci := 1) (v := .int (nI (ms.length - 1))) (ty := .int) (C := RX1) (T := TX1) (N := 12) hx hb ht inA1 tyX1 tyX1_ok nmX1 hown hK hP hD hS 0 rfl rfl 5 (by decide) (ht _ mw_f_A_43) (fun _ h9 => h9) rfl (by decide +kernel) rfl rfl (Nat.le_of_ble_eq_true rfl) d_A_drop_74 (fun H locs hP hD hS => ?_)
    have hP : va_P (dC, dI) agCl [(a, .inr (1, [.int (nI G), .int (nI R), .ref qm, .ref qs, .ref qt, .int (nI (ms.length - 1)), .long (lN nw), .long (lN en), .int (nI mo), .long (lN la), .long (lN go), .long (lN sp)])), (qm, .inl (cI, 320, .inl (va_cpy f f (k + 1) k (ms.length - 1 - k)))), (qs, .inl (cI, 320, .inl (va_cpy g g (k + 1) k (ms.length - 1 - k)))), (qt, .inr (0, [.ref qw])), (qw, .inl (cJ, 5, .inr (.inl w1)))] H := hP
    have hD : va_D A [(a, .inr (1, [.int (nI G), .int (nI R), .ref qm, .ref qs, .ref qt, .int (nI (ms.length - 1)), .long (lN nw), .long (lN en), .int (nI mo), .long (lN la), .long (lN go), .long (lN sp)])), (qm, .inl (cI, 320, .inl (va_cpy f f (k + 1) k (ms.length - 1 - k)))), (qs, .inl (cI, 320, .inl (va_cpy g g (k + 1) k (ms.length - 1 - k)))), (qt, .inr (0, [.ref qw])), (qw, .inl (cJ, 5, .inr (.inl w1)))] := hD
    refine lv_aload_n hx hb d_A_drop_77 rfl (lv_at hl 1 rfl) ?_
    refine lv_dup hx hb d_A_drop_78 rfl ?_
    refine va_get (D := (dC, dI)) (ci := 1) (v := .long (lN go)) (C := RX1) (T := TX1) (N := 12) hx hb ht inA1 hown hK hP 0 rfl rfl 10 (by decide) (ht _ mw_f_A_103) (fun _ h9 => h9) rfl d_A_drop_79 ?_
    refine ag_lconst hx hb 1 d_A_drop_82 (by decide) ?_
    refine lv_ladd hx hb d_A_drop_83 ?_
    refine ag_topl (lN (go + 1)) (lN_add _ _) ?_
    refine va_put (D := (dC, dI)) (ci := 1) (v := .long (lN (go + 1))) (ty := .long) (C := RX1) (T := TX1) (N := 12) hx hb ht inA1 tyX1 tyX1_ok nmX1 hown hK hP hD hS 0 rfl rfl 10 (by decide) (ht _ mw_f_A_103) (fun _ h9 => h9) rfl (by decide +kernel) rfl rfl (Nat.le_of_ble_eq_true rfl) d_A_drop_84 (fun H locs hP hD hS => ?_)
    have hP : va_P (dC, dI) agCl [(a, .inr (1, [.int (nI G), .int (nI R), .ref qm, .ref qs, .ref qt, .int (nI (ms.length - 1)), .long (lN nw), .long (lN en), .int (nI mo), .long (lN la), .long (lN (go + 1)), .long (lN sp)])), (qm, .inl (cI, 320, .inl (va_cpy f f (k + 1) k (ms.length - 1 - k)))), (qs, .inl (cI, 320, .inl (va_cpy g g (k + 1) k (ms.length - 1 - k)))), (qt, .inr (0, [.ref qw])), (qw, .inl (cJ, 5, .inr (.inl w1)))] H := hP
    have hD : va_D A [(a, .inr (1, [.int (nI G), .int (nI R), .ref qm, .ref qs, .ref qt, .int (nI (ms.length - 1)), .long (lN nw), .long (lN en), .int (nI mo), .long (lN la), .long (lN (go + 1)), .long (lN sp)])), (qm, .inl (cI, 320, .inl (va_cpy f f (k + 1) k (ms.length - 1 - k)))), (qs, .inl (cI, 320, .inl (va_cpy g g (k + 1) k (ms.length - 1 - k)))), (qt, .inr (0, [.ref qw])), (qw, .inl (cJ, 5, .inr (.inl w1)))] := hD
    exact ag_retv hx hb hr hlocks (va_cpy f f (k + 1) k (ms.length - 1 - k), va_cpy g g (k + 1) k (ms.length - 1 - k), w1) (ag_rep_del hrep hk hn (fun j _ => hw j)) hP hK hD hS d_A_drop_87
  · have h_n := trivial
    exact absurd hk (by omega)

set_option maxHeartbeats 4000000 in
set_option maxRecDepth 100000 in
/-- lay(n): mark n is laid, with the least free slot -/
theorem c_A_lay (l : Launch) (dC : Nat → ClassId) (dI : Nat → Nat → Nat) (sz : Nat) (a qm qs qt qw : Nat) (cI cJ : ClassId) (G R nw en mo la go sp : Nat) (f g : Nat → Int32) (w : Nat → Int64) (ms : ag_M) (n : Nat) (hbd : ag_bd ms) (hrep : ag_rep ms f g w) : Met l y_A_lay (Cond.code y_A_lay b_A_lay 2 none :: agW) ({ frames := 2, cells := 0, slots := 0, locals := 60 }) (va_Pc [.ref a, .int (nI n)] (ag_at (dC, dI) agCl [(cI, .int), (cJ, .long)] sz [(a, .inr (1, [.int (nI G), .int (nI R), .ref qm, .ref qs, .ref qt, .int (nI ms.length), .long (lN nw), .long (lN en), .int (nI mo), .long (lN la), .long (lN go), .long (lN sp)])), (qm, .inl (cI, 320, .inl f)), (qs, .inl (cI, 320, .inl g)), (qt, .inr (0, [.ref qw])), (qw, .inl (cJ, 5, .inr (.inl w)))])) (va_Qv (fun u : (Nat → Int32) × (Nat → Int32) × (Nat → Int64) => ag_rep (ms ++ [(n, ag_slot ms)]) u.1 u.2.1 u.2.2) (ag_to (dC, dI) agCl [(cI, .int), (cJ, .long)] (va_A [(a, .inr (1, [.int (nI G), .int (nI R), .ref qm, .ref qs, .ref qt, .int (nI ms.length), .long (lN nw), .long (lN en), .int (nI mo), .long (lN la), .long (lN go), .long (lN sp)])), (qm, .inl (cI, 320, .inl f)), (qs, .inl (cI, 320, .inl g)), (qt, .inr (0, [.ref qw])), (qw, .inl (cJ, 5, .inr (.inl w)))] sz) (fun u : (Nat → Int32) × (Nat → Int32) × (Nat → Int64) => [(a, .inr (1, [.int (nI G), .int (nI R), .ref qm, .ref qs, .ref qt, .int (nI (ms.length + 1)), .long (lN nw), .long (lN en), .int (nI mo), .long (lN (la + 1)), .long (lN go), .long (lN sp)])), (qm, .inl (cI, 320, .inl u.1)), (qs, .inl (cI, 320, .inl u.2.1)), (qt, .inr (0, [.ref qw])), (qw, .inl (cJ, 5, .inr (.inl u.2.2)))])) (va_A [(a, .inr (1, [.int (nI G), .int (nI R), .ref qm, .ref qs, .ref qt, .int (nI ms.length), .long (lN nw), .long (lN en), .int (nI mo), .long (lN la), .long (lN go), .long (lN sp)])), (qm, .inl (cI, 320, .inl f)), (qs, .inl (cI, 320, .inl g)), (qt, .inr (0, [.ref qw])), (qw, .inl (cJ, 5, .inr (.inl w)))] sz)) 0 0 (va_A [(a, .inr (1, [.int (nI G), .int (nI R), .ref qm, .ref qs, .ref qt, .int (nI ms.length), .long (lN nw), .long (lN en), .int (nI mo), .long (lN la), .long (lN go), .long (lN sp)])), (qm, .inl (cI, 320, .inl f)), (qs, .inl (cI, 320, .inl g)), (qt, .inr (0, [.ref qw])), (qw, .inl (cJ, 5, .inr (.inl w)))] sz) := by
  refine ag_ofW (Qf := fun A => va_Qv (fun u : (Nat → Int32) × (Nat → Int32) × (Nat → Int64) => ag_rep (ms ++ [(n, ag_slot ms)]) u.1 u.2.1 u.2.2) (ag_to (dC, dI) agCl [(cI, .int), (cJ, .long)] A (fun u : (Nat → Int32) × (Nat → Int32) × (Nat → Int64) => [(a, .inr (1, [.int (nI G), .int (nI R), .ref qm, .ref qs, .ref qt, .int (nI (ms.length + 1)), .long (lN nw), .long (lN en), .int (nI mo), .long (lN (la + 1)), .long (lN go), .long (lN sp)])), (qm, .inl (cI, 320, .inl u.1)), (qs, .inl (cI, 320, .inl u.2.1)), (qt, .inr (0, [.ref qw])), (qw, .inl (cJ, 5, .inr (.inl u.2.2)))])) A) (cc := b_A_lay) (maxL := 2) (ret := none) (lv := [(0, .ref a), (1, .int (nI n))]) (by decide) rfl (Nat.le_of_ble_eq_true rfl) rfl (fun p e s m below meth c A ls hx hb hr hts hown hlocks hml hnm hA hS hP hK hD hl hsz => ?_)
  have hown : s.vm.findClass "AgedMarks" = some m.cls := hown
  have ht : ∀ w ∈ agW, w.before [.ref a, .int (nI n)].toArray s = true := fun w h => hts w (List.mem_cons_of_mem _ h)
  have hlen := hbd.1
  have hsl := ag_slot_le ms
  have hlf := ag_slot_lf ms
  refine lv_aload_n hx hb d_A_lay_0 rfl (lv_at hl 0 rfl) ?_
  refine va_get (D := (dC, dI)) (ci := 1) (v := .int (nI ms.length)) (C := RX1) (T := TX1) (N := 12) hx hb ht inA1 hown hK hP 0 rfl rfl 5 (by decide) (ht _ mw_f_A_43) (fun _ h9 => h9) rfl d_A_lay_1 ?_
  refine ag_if_lt (tgt := 17) hx hb d_A_lay_4 (by decide) (by omega) ?_
  refine lv_aload_n hx hb d_A_lay_7 rfl (lv_at hl 0 rfl) ?_
  refine va_get (D := (dC, dI)) (ci := 1) (v := .int (nI ms.length)) (C := RX1) (T := TX1) (N := 12) hx hb ht inA1 hown hK hP 0 rfl rfl 5 (by decide) (ht _ mw_f_A_43) (fun _ h9 => h9) rfl d_A_lay_8 ?_
  refine ag_sipush hx hb 320 d_A_lay_11 (by decide) ?_
  refine ag_icmp_lt (tgt := 18) hx hb d_A_lay_14 (by decide) (by omega) (by omega) (fun c14 => ?_) (fun c14 => ?_)
  · have h_n := trivial
    refine lv_aload_n hx hb d_A_lay_18 rfl (lv_at hl 0 rfl) ?_
    refine va_get (D := (dC, dI)) (ci := 1) (v := .ref qm) (C := RX1) (T := TX1) (N := 12) hx hb ht inA1 hown hK hP 0 rfl rfl 2 (by decide) (ht _ mw_f_A_9) (fun _ h9 => h9) rfl d_A_lay_19 ?_
    refine lv_aload_n hx hb d_A_lay_22 rfl (lv_at hl 0 rfl) ?_
    refine va_get (D := (dC, dI)) (ci := 1) (v := .int (nI ms.length)) (C := RX1) (T := TX1) (N := 12) hx hb ht inA1 hown hK hP 0 rfl rfl 5 (by decide) (ht _ mw_f_A_43) (fun _ h9 => h9) rfl d_A_lay_23 ?_
    refine lv_iload_n hx hb d_A_lay_26 rfl (lv_at hl 1 rfl) ?_
    refine ag_iast hx hb hK hP hD hS 1 0 rfl rfl (by omega) (by decide) d_A_lay_27 (fun H locs hP hD hS => ?_)
    have hP : va_P (dC, dI) agCl [(a, .inr (1, [.int (nI G), .int (nI R), .ref qm, .ref qs, .ref qt, .int (nI ms.length), .long (lN nw), .long (lN en), .int (nI mo), .long (lN la), .long (lN go), .long (lN sp)])), (qm, .inl (cI, 320, .inl (upd f ms.length (nI n)))), (qs, .inl (cI, 320, .inl g)), (qt, .inr (0, [.ref qw])), (qw, .inl (cJ, 5, .inr (.inl w)))] H := hP
    have hD : va_D A [(a, .inr (1, [.int (nI G), .int (nI R), .ref qm, .ref qs, .ref qt, .int (nI ms.length), .long (lN nw), .long (lN en), .int (nI mo), .long (lN la), .long (lN go), .long (lN sp)])), (qm, .inl (cI, 320, .inl (upd f ms.length (nI n)))), (qs, .inl (cI, 320, .inl g)), (qt, .inr (0, [.ref qw])), (qw, .inl (cJ, 5, .inr (.inl w)))] := hD
    refine lv_aload_n hx hb d_A_lay_28 rfl (lv_at hl 0 rfl) ?_
    refine va_get (D := (dC, dI)) (ci := 1) (v := .ref qs) (C := RX1) (T := TX1) (N := 12) hx hb ht inA1 hown hK hP 0 rfl rfl 3 (by decide) (ht _ mw_f_A_13) (fun _ h9 => h9) rfl d_A_lay_29 ?_
    refine lv_aload_n hx hb d_A_lay_32 rfl (lv_at hl 0 rfl) ?_
    refine va_get (D := (dC, dI)) (ci := 1) (v := .int (nI ms.length)) (C := RX1) (T := TX1) (N := 12) hx hb ht inA1 hown hK hP 0 rfl rfl 5 (by decide) (ht _ mw_f_A_43) (fun _ h9 => h9) rfl d_A_lay_33 ?_
    refine lv_aload_n hx hb d_A_lay_36 rfl (lv_at hl 0 rfl) ?_
    refine va_get (D := (dC, dI)) (ci := 1) (v := .ref qt) (C := RX1) (T := TX1) (N := 12) hx hb ht inA1 hown hK hP 0 rfl rfl 4 (by decide) (ht _ mw_f_A_19) (fun _ h9 => h9) rfl d_A_lay_37 ?_
    have hPc := hP.sub (ws' := [(qt, .inr (0, [.ref qw])), (qw, .inl (cJ, 5, .inr (.inl w)))]) [3, 4] rfl
    have hDc := hD.sub (ws' := [(qt, .inr (0, [.ref qw])), (qw, .inl (cJ, 5, .inr (.inl w)))]) [3, 4] (by decide) rfl
    have hKc := hK.sub (tys' := [(cJ, .long)]) [1] rfl
    refine ag_cli (wc := [(qt, .inr (0, [.ref qw])), (qw, .inl (cJ, 5, .inr (.inl w)))]) (wr := [(a, .inr (1, [.int (nI G), .int (nI R), .ref qm, .ref qs, .ref qt, .int (nI ms.length), .long (lN nw), .long (lN en), .int (nI mo), .long (lN la), .long (lN go), .long (lN sp)])), (qm, .inl (cI, 320, .inl (upd f ms.length (nI n)))), (qs, .inl (cI, 320, .inl g))]) (Wf := fun u : Nat → Int64 => [(qt, .inr (0, [.ref qw])), (qw, .inl (cJ, 5, .inr (.inl u)))]) hP hD hS hA [3, 4] [0, 1, 2] rfl rfl (by decide) (by decide) (va_runV (C := "AgedMarks$Slots") (As := []) (rest := [.int (nI ms.length), .ref qs]) ⟨hx, hb, hml, hown, hts⟩ (c_S_takeLeast l dC dI H.size qt qw cJ w (ag_slot ms) (by omega) (by have h9 := mt (hrep.2 (ag_slot ms) (by omega)).mp hlf.1; simpa using h9) (fun j hj => (hrep.2 j (by omega)).mpr (hlf.2 j hj))) (ag_cwV 0 hts mw_m_A_39 mw_instanceMethod_S_takeLeast mw_sel_S_takeLeast mw_ini_S mw_code_S_takeLeast rfl rfl (by decide +kernel) ⟨Nat.le_of_ble_eq_true rfl, Nat.le_of_ble_eq_true rfl⟩) ⟨ag_blind, va_recv hK hPc (ci := 0) (q0 := 0) rfl rfl, ag_pre hPc hKc hDc⟩ rfl rfl hl.1 rfl (lv_room (Nat.le_of_ble_eq_true rfl)) d_A_lay_40 ⟨Nat.le_of_ble_eq_true rfl, Nat.le_of_ble_eq_true rfl⟩) (fun r1 w1 H locs hw hP hD hS => ?_)
    try dsimp only at hw
    obtain ⟨rfl, hw⟩ := hw
    have hP : va_P (dC, dI) agCl [(a, .inr (1, [.int (nI G), .int (nI R), .ref qm, .ref qs, .ref qt, .int (nI ms.length), .long (lN nw), .long (lN en), .int (nI mo), .long (lN la), .long (lN go), .long (lN sp)])), (qm, .inl (cI, 320, .inl (upd f ms.length (nI n)))), (qs, .inl (cI, 320, .inl g)), (qt, .inr (0, [.ref qw])), (qw, .inl (cJ, 5, .inr (.inl w1)))] H := hP
    have hD : va_D A [(a, .inr (1, [.int (nI G), .int (nI R), .ref qm, .ref qs, .ref qt, .int (nI ms.length), .long (lN nw), .long (lN en), .int (nI mo), .long (lN la), .long (lN go), .long (lN sp)])), (qm, .inl (cI, 320, .inl (upd f ms.length (nI n)))), (qs, .inl (cI, 320, .inl g)), (qt, .inr (0, [.ref qw])), (qw, .inl (cJ, 5, .inr (.inl w1)))] := hD
    refine ag_iast hx hb hK hP hD hS 2 0 rfl rfl (by omega) (by decide) d_A_lay_43 (fun H locs hP hD hS => ?_)
    have hP : va_P (dC, dI) agCl [(a, .inr (1, [.int (nI G), .int (nI R), .ref qm, .ref qs, .ref qt, .int (nI ms.length), .long (lN nw), .long (lN en), .int (nI mo), .long (lN la), .long (lN go), .long (lN sp)])), (qm, .inl (cI, 320, .inl (upd f ms.length (nI n)))), (qs, .inl (cI, 320, .inl (upd g ms.length (nI (ag_slot ms))))), (qt, .inr (0, [.ref qw])), (qw, .inl (cJ, 5, .inr (.inl w1)))] H := hP
    have hD : va_D A [(a, .inr (1, [.int (nI G), .int (nI R), .ref qm, .ref qs, .ref qt, .int (nI ms.length), .long (lN nw), .long (lN en), .int (nI mo), .long (lN la), .long (lN go), .long (lN sp)])), (qm, .inl (cI, 320, .inl (upd f ms.length (nI n)))), (qs, .inl (cI, 320, .inl (upd g ms.length (nI (ag_slot ms))))), (qt, .inr (0, [.ref qw])), (qw, .inl (cJ, 5, .inr (.inl w1)))] := hD
    refine lv_aload_n hx hb d_A_lay_44 rfl (lv_at hl 0 rfl) ?_
    refine lv_dup hx hb d_A_lay_45 rfl ?_
    refine va_get (D := (dC, dI)) (ci := 1) (v := .int (nI ms.length)) (C := RX1) (T := TX1) (N := 12) hx hb ht inA1 hown hK hP 0 rfl rfl 5 (by decide) (ht _ mw_f_A_43) (fun _ h9 => h9) rfl d_A_lay_46 ?_
    refine ag_iconst hx hb 1 d_A_lay_49 (by decide) ?_
    refine lv_iadd hx hb d_A_lay_50 ?_
    refine ag_topi (nI (ms.length + 1)) (nI_add _ _) ?_
    refine va_put (D := (dC, dI)) (ci := 1) (v := .int (nI (ms.length + 1))) (ty := .int) (C := RX1) (T := TX1) (N := 12) hx hb ht inA1 tyX1 tyX1_ok nmX1 hown hK hP hD hS 0 rfl rfl 5 (by decide) (ht _ mw_f_A_43) (fun _ h9 => h9) rfl (by decide +kernel) rfl rfl (Nat.le_of_ble_eq_true rfl) d_A_lay_51 (fun H locs hP hD hS => ?_)
    have hP : va_P (dC, dI) agCl [(a, .inr (1, [.int (nI G), .int (nI R), .ref qm, .ref qs, .ref qt, .int (nI (ms.length + 1)), .long (lN nw), .long (lN en), .int (nI mo), .long (lN la), .long (lN go), .long (lN sp)])), (qm, .inl (cI, 320, .inl (upd f ms.length (nI n)))), (qs, .inl (cI, 320, .inl (upd g ms.length (nI (ag_slot ms))))), (qt, .inr (0, [.ref qw])), (qw, .inl (cJ, 5, .inr (.inl w1)))] H := hP
    have hD : va_D A [(a, .inr (1, [.int (nI G), .int (nI R), .ref qm, .ref qs, .ref qt, .int (nI (ms.length + 1)), .long (lN nw), .long (lN en), .int (nI mo), .long (lN la), .long (lN go), .long (lN sp)])), (qm, .inl (cI, 320, .inl (upd f ms.length (nI n)))), (qs, .inl (cI, 320, .inl (upd g ms.length (nI (ag_slot ms))))), (qt, .inr (0, [.ref qw])), (qw, .inl (cJ, 5, .inr (.inl w1)))] := hD
    refine lv_aload_n hx hb d_A_lay_54 rfl (lv_at hl 0 rfl) ?_
    refine lv_dup hx hb d_A_lay_55 rfl ?_
    refine va_get (D := (dC, dI)) (ci := 1) (v := .long (lN la)) (C := RX1) (T := TX1) (N := 12) hx hb ht inA1 hown hK hP 0 rfl rfl 9 (by decide) (ht _ mw_f_A_100) (fun _ h9 => h9) rfl d_A_lay_56 ?_
    refine ag_lconst hx hb 1 d_A_lay_59 (by decide) ?_
    refine lv_ladd hx hb d_A_lay_60 ?_
    refine ag_topl (lN (la + 1)) (lN_add _ _) ?_
    refine va_put (D := (dC, dI)) (ci := 1) (v := .long (lN (la + 1))) (ty := .long) (C := RX1) (T := TX1) (N := 12) hx hb ht inA1 tyX1 tyX1_ok nmX1 hown hK hP hD hS 0 rfl rfl 9 (by decide) (ht _ mw_f_A_100) (fun _ h9 => h9) rfl (by decide +kernel) rfl rfl (Nat.le_of_ble_eq_true rfl) d_A_lay_61 (fun H locs hP hD hS => ?_)
    have hP : va_P (dC, dI) agCl [(a, .inr (1, [.int (nI G), .int (nI R), .ref qm, .ref qs, .ref qt, .int (nI (ms.length + 1)), .long (lN nw), .long (lN en), .int (nI mo), .long (lN (la + 1)), .long (lN go), .long (lN sp)])), (qm, .inl (cI, 320, .inl (upd f ms.length (nI n)))), (qs, .inl (cI, 320, .inl (upd g ms.length (nI (ag_slot ms))))), (qt, .inr (0, [.ref qw])), (qw, .inl (cJ, 5, .inr (.inl w1)))] H := hP
    have hD : va_D A [(a, .inr (1, [.int (nI G), .int (nI R), .ref qm, .ref qs, .ref qt, .int (nI (ms.length + 1)), .long (lN nw), .long (lN en), .int (nI mo), .long (lN (la + 1)), .long (lN go), .long (lN sp)])), (qm, .inl (cI, 320, .inl (upd f ms.length (nI n)))), (qs, .inl (cI, 320, .inl (upd g ms.length (nI (ag_slot ms))))), (qt, .inr (0, [.ref qw])), (qw, .inl (cJ, 5, .inr (.inl w1)))] := hD
    exact ag_retv hx hb hr hlocks (upd f ms.length (nI n), upd g ms.length (nI (ag_slot ms)), w1) (ag_rep_app hrep (fun j _ => hw j)) hP hK hD hS d_A_lay_64
  · have h_n := trivial
    exact absurd hlen (by omega)

set_option maxHeartbeats 4000000 in
set_option maxRecDepth 100000 in
/-- thin(n): the mark at n - 2 * rich * (the greatest power of 2 in n) goes, if there is one -/
theorem c_A_thin (l : Launch) (dC : Nat → ClassId) (dI : Nat → Nat → Nat) (sz : Nat) (a qm qs qt qw : Nat) (cI cJ : ClassId) (G R nw en mo la go sp : Nat) (f g : Nat → Int32) (w : Nat → Int64) (ms : ag_M) (n P : Nat) (hP9 : nI n &&& -nI n = nI P) (hPn : P ≤ n) (hn9 : n ≤ 1000000) (hR : R ≤ 16) (h0 : 0 < ms.length) (hso : ms.Pairwise (fun x y => x.1 < y.1)) (hbd : ag_bd ms) (hn : (ms.map (·.2)).Nodup) (hrep : ag_rep ms f g w) : Met l y_A_thin (Cond.code y_A_thin b_A_thin 4 none :: agW) ({ frames := 2, cells := 0, slots := 0, locals := 70 }) (va_Pc [.ref a, .int (nI n)] (ag_at (dC, dI) agCl [(cI, .int), (cJ, .long)] sz [(a, .inr (1, [.int (nI G), .int (nI R), .ref qm, .ref qs, .ref qt, .int (nI ms.length), .long (lN nw), .long (lN en), .int (nI mo), .long (lN la), .long (lN go), .long (lN sp)])), (qm, .inl (cI, 320, .inl f)), (qs, .inl (cI, 320, .inl g)), (qt, .inr (0, [.ref qw])), (qw, .inl (cJ, 5, .inr (.inl w)))])) (va_Qv (fun u : (Nat → Int32) × (Nat → Int32) × (Nat → Int64) => ag_rep (ms.filter (fun x => decide (x.1 ≠ n - 2 * R * P ∨ n < 2 * R * P))) u.1 u.2.1 u.2.2) (ag_to (dC, dI) agCl [(cI, .int), (cJ, .long)] (va_A [(a, .inr (1, [.int (nI G), .int (nI R), .ref qm, .ref qs, .ref qt, .int (nI ms.length), .long (lN nw), .long (lN en), .int (nI mo), .long (lN la), .long (lN go), .long (lN sp)])), (qm, .inl (cI, 320, .inl f)), (qs, .inl (cI, 320, .inl g)), (qt, .inr (0, [.ref qw])), (qw, .inl (cJ, 5, .inr (.inl w)))] sz) (fun u : (Nat → Int32) × (Nat → Int32) × (Nat → Int64) => [(a, .inr (1, [.int (nI G), .int (nI R), .ref qm, .ref qs, .ref qt, .int (nI ((ms.filter (fun x => decide (x.1 ≠ n - 2 * R * P ∨ n < 2 * R * P))).length)), .long (lN nw), .long (lN en), .int (nI mo), .long (lN la), .long (lN (go + (ms.length - (ms.filter (fun x => decide (x.1 ≠ n - 2 * R * P ∨ n < 2 * R * P))).length))), .long (lN sp)])), (qm, .inl (cI, 320, .inl u.1)), (qs, .inl (cI, 320, .inl u.2.1)), (qt, .inr (0, [.ref qw])), (qw, .inl (cJ, 5, .inr (.inl u.2.2)))])) (va_A [(a, .inr (1, [.int (nI G), .int (nI R), .ref qm, .ref qs, .ref qt, .int (nI ms.length), .long (lN nw), .long (lN en), .int (nI mo), .long (lN la), .long (lN go), .long (lN sp)])), (qm, .inl (cI, 320, .inl f)), (qs, .inl (cI, 320, .inl g)), (qt, .inr (0, [.ref qw])), (qw, .inl (cJ, 5, .inr (.inl w)))] sz)) 0 0 (va_A [(a, .inr (1, [.int (nI G), .int (nI R), .ref qm, .ref qs, .ref qt, .int (nI ms.length), .long (lN nw), .long (lN en), .int (nI mo), .long (lN la), .long (lN go), .long (lN sp)])), (qm, .inl (cI, 320, .inl f)), (qs, .inl (cI, 320, .inl g)), (qt, .inr (0, [.ref qw])), (qw, .inl (cJ, 5, .inr (.inl w)))] sz) := by
  refine ag_ofW (Qf := fun A => va_Qv (fun u : (Nat → Int32) × (Nat → Int32) × (Nat → Int64) => ag_rep (ms.filter (fun x => decide (x.1 ≠ n - 2 * R * P ∨ n < 2 * R * P))) u.1 u.2.1 u.2.2) (ag_to (dC, dI) agCl [(cI, .int), (cJ, .long)] A (fun u : (Nat → Int32) × (Nat → Int32) × (Nat → Int64) => [(a, .inr (1, [.int (nI G), .int (nI R), .ref qm, .ref qs, .ref qt, .int (nI ((ms.filter (fun x => decide (x.1 ≠ n - 2 * R * P ∨ n < 2 * R * P))).length)), .long (lN nw), .long (lN en), .int (nI mo), .long (lN la), .long (lN (go + (ms.length - (ms.filter (fun x => decide (x.1 ≠ n - 2 * R * P ∨ n < 2 * R * P))).length))), .long (lN sp)])), (qm, .inl (cI, 320, .inl u.1)), (qs, .inl (cI, 320, .inl u.2.1)), (qt, .inr (0, [.ref qw])), (qw, .inl (cJ, 5, .inr (.inl u.2.2)))])) A) (cc := b_A_thin) (maxL := 4) (ret := none) (lv := [(0, .ref a), (1, .int (nI n))]) (by decide) rfl (Nat.le_of_ble_eq_true rfl) rfl (fun p e s m below meth c A ls hx hb hr hts hown hlocks hml hnm hA hS hP hK hD hl hsz => ?_)
  have hown : s.vm.findClass "AgedMarks" = some m.cls := hown
  have ht : ∀ w ∈ agW, w.before [.ref a, .int (nI n)].toArray s = true := fun w h => hts w (List.mem_cons_of_mem _ h)
  have hlen := hbd.1
  have hRP : 2 * R * P ≤ 32 * P := Nat.mul_le_mul_right P (by omega)
  have hs : ∀ i j, i < j → j < ms.length → f i < f j := fun i j h1 h2 => by
    rw [(hrep.1 i (by omega)).1, (hrep.1 j h2).1]
    exact nI_lt (List.pairwise_iff_getElem.mp hso i j (by omega) h2 h1) (by have := (hbd.2 _ (List.getElem_mem h2)).1; omega)
  refine lv_iload_n hx hb d_A_thin_0 rfl (lv_at hl 1 rfl) ?_
  refine lv_iload_n hx hb d_A_thin_1 rfl (lv_at hl 1 rfl) ?_
  refine lv_ineg hx hb d_A_thin_2 ?_
  refine lv_iand hx hb d_A_thin_3 ?_
  refine ag_topi (nI P) hP9 ?_
  refine lv_istore_n (lv' := [(2, .int (nI P)), (0, .ref a), (1, .int (nI n))]) hx hb d_A_thin_4 rfl hl (by decide) rfl (fun ls hl => ?_)
  refine lv_aload_n hx hb d_A_thin_5 rfl (lv_at hl 1 rfl) ?_
  refine lv_iload_n hx hb d_A_thin_6 rfl (lv_at hl 2 rfl) ?_
  refine lv_aload_n hx hb d_A_thin_7 rfl (lv_at hl 1 rfl) ?_
  refine va_get (D := (dC, dI)) (ci := 1) (v := .int (nI R)) (C := RX1) (T := TX1) (N := 12) hx hb ht inA1 hown hK hP 0 rfl rfl 1 (by decide) (ht _ mw_f_A_36) (fun _ h9 => h9) rfl d_A_thin_8 ?_
  refine ag_iconst hx hb 2 d_A_thin_11 (by decide) ?_
  refine lv_imul hx hb d_A_thin_12 ?_
  refine ag_topi (nI (2 * R)) (by rw [pk_mul, Nat.mul_comm]) ?_
  refine lv_iload_n hx hb d_A_thin_13 rfl (lv_at hl 0 rfl) ?_
  refine lv_imul hx hb d_A_thin_14 ?_
  refine ag_topi (nI ((2 * R) * P)) (pk_mul _ _) ?_
  refine lv_isub hx hb d_A_thin_15 ?_
  refine ag_topi (nI n - nI (2 * R * P)) rfl ?_
  have hPc := hP.sub (ws' := [(a, .inr (1, [.int (nI G), .int (nI R), .ref qm, .ref qs, .ref qt, .int (nI ms.length), .long (lN nw), .long (lN en), .int (nI mo), .long (lN la), .long (lN go), .long (lN sp)])), (qm, .inl (cI, 320, .inl f)), (qs, .inl (cI, 320, .inl g)), (qt, .inr (0, [.ref qw])), (qw, .inl (cJ, 5, .inr (.inl w)))]) [0, 1, 2, 3, 4] rfl
  have hDc := hD.sub (ws' := [(a, .inr (1, [.int (nI G), .int (nI R), .ref qm, .ref qs, .ref qt, .int (nI ms.length), .long (lN nw), .long (lN en), .int (nI mo), .long (lN la), .long (lN go), .long (lN sp)])), (qm, .inl (cI, 320, .inl f)), (qs, .inl (cI, 320, .inl g)), (qt, .inr (0, [.ref qw])), (qw, .inl (cJ, 5, .inr (.inl w)))]) [0, 1, 2, 3, 4] (by decide) rfl
  refine ag_cli (wc := [(a, .inr (1, [.int (nI G), .int (nI R), .ref qm, .ref qs, .ref qt, .int (nI ms.length), .long (lN nw), .long (lN en), .int (nI mo), .long (lN la), .long (lN go), .long (lN sp)])), (qm, .inl (cI, 320, .inl f)), (qs, .inl (cI, 320, .inl g)), (qt, .inr (0, [.ref qw])), (qw, .inl (cJ, 5, .inr (.inl w)))]) (wr := []) (Wf := fun _ : Unit => [(a, .inr (1, [.int (nI G), .int (nI R), .ref qm, .ref qs, .ref qt, .int (nI ms.length), .long (lN nw), .long (lN en), .int (nI mo), .long (lN la), .long (lN go), .long (lN sp)])), (qm, .inl (cI, 320, .inl f)), (qs, .inl (cI, 320, .inl g)), (qt, .inr (0, [.ref qw])), (qw, .inl (cJ, 5, .inr (.inl w)))]) hP hD hS hA [0, 1, 2, 3, 4] [] rfl rfl (by decide) (by decide) (va_runV (C := "AgedMarks") (As := [.int (nI n - nI (2 * R * P))]) (rest := []) ⟨hx, hb, hml, hown, hts⟩ (c_A_placeOf l dC dI s.heap.size a qm qs qt qw cI cJ G R ms.length nw en mo la go sp f g w (nI n - nI (2 * R * P)) h0 (by omega) hs) (ag_cwV 1 hts mw_m_A_120 mw_instanceMethod_A_placeOf mw_sel_A_placeOf mw_ini_A mw_code_A_placeOf rfl rfl (by decide +kernel) ⟨Nat.le_of_ble_eq_true rfl, Nat.le_of_ble_eq_true rfl⟩) ⟨ag_blind, va_recv hK hPc (ci := 1) (q0 := 0) rfl rfl, ag_pre hPc hK hDc⟩ rfl rfl hl.1 rfl (lv_room (Nat.le_of_ble_eq_true rfl)) d_A_thin_16 ⟨Nat.le_of_ble_eq_true rfl, Nat.le_of_ble_eq_true rfl⟩) (fun r1 u H locs hw hP hD hS => ?_)
  try dsimp only at hw
  have hP : va_P (dC, dI) agCl [(a, .inr (1, [.int (nI G), .int (nI R), .ref qm, .ref qs, .ref qt, .int (nI ms.length), .long (lN nw), .long (lN en), .int (nI mo), .long (lN la), .long (lN go), .long (lN sp)])), (qm, .inl (cI, 320, .inl f)), (qs, .inl (cI, 320, .inl g)), (qt, .inr (0, [.ref qw])), (qw, .inl (cJ, 5, .inr (.inl w)))] H := hP
  have hD : va_D A [(a, .inr (1, [.int (nI G), .int (nI R), .ref qm, .ref qs, .ref qt, .int (nI ms.length), .long (lN nw), .long (lN en), .int (nI mo), .long (lN la), .long (lN go), .long (lN sp)])), (qm, .inl (cI, 320, .inl f)), (qs, .inl (cI, 320, .inl g)), (qt, .inr (0, [.ref qw])), (qw, .inl (cJ, 5, .inr (.inl w)))] := hD
  rcases hw with ⟨k, hk, hfk, rfl⟩ | ⟨hno, rfl⟩
  · have h_n := trivial
    have hki := (hrep.1 k hk).1
    have hb1 := (hbd.2 _ (List.getElem_mem hk)).1
    rw [hfk] at hki
    have hle : 2 * R * P ≤ n := by
      rcases Nat.lt_or_ge n (2 * R * P) with q | q
      · have h1 := pk_sneg (a := n) (b := 2 * R * P) (by omega) q
        rw [hki] at h1
        exact absurd h1 (nI_pos (by omega))
      · exact q
    have hkv : (ms[k]).1 = n - 2 * R * P := by
      rw [pk_sub hle] at hki
      exact ((nI_eq (by omega) (by omega)).mp hki).symm
    have hfe : ms.filter (fun x => decide (x.1 ≠ n - 2 * R * P ∨ n < 2 * R * P)) = ms.eraseIdx k := by
      rw [← ag_filt_erase ms (n - 2 * R * P) k hso hk hkv]
      refine List.filter_congr fun x _ => ?_
      refine decide_eq_decide.mpr ⟨fun h => ?_, Or.inl⟩
      rcases h with h | h
      · exact h
      · omega
    have hfl : (ms.eraseIdx k).length = ms.length - 1 := List.length_eraseIdx_of_lt hk
    refine lv_istore_n (lv' := [(3, .int (nI k)), (2, .int (nI P)), (0, .ref a), (1, .int (nI n))]) hx hb d_A_thin_19 rfl hl (by decide) rfl (fun ls hl => ?_)
    refine lv_iload_n hx hb d_A_thin_20 rfl (lv_at hl 0 rfl) ?_
    refine lv_iconst (v := -1) hx hb d_A_thin_21 (by decide) ?_
    refine lv_icmp_eq (tgt := 30) hx hb d_A_thin_22 (by decide) (fun c22 => ?_) (fun c22 => ?_)
    · have h_n := trivial
      exact absurd c22 (ag_nm1 (by omega))
    · have h_n := trivial
      refine lv_aload_n hx hb d_A_thin_25 rfl (lv_at hl 2 rfl) ?_
      refine lv_iload_n hx hb d_A_thin_26 rfl (lv_at hl 0 rfl) ?_
      have hPc := hP.sub (ws' := [(a, .inr (1, [.int (nI G), .int (nI R), .ref qm, .ref qs, .ref qt, .int (nI ms.length), .long (lN nw), .long (lN en), .int (nI mo), .long (lN la), .long (lN go), .long (lN sp)])), (qm, .inl (cI, 320, .inl f)), (qs, .inl (cI, 320, .inl g)), (qt, .inr (0, [.ref qw])), (qw, .inl (cJ, 5, .inr (.inl w)))]) [0, 1, 2, 3, 4] rfl
      have hDc := hD.sub (ws' := [(a, .inr (1, [.int (nI G), .int (nI R), .ref qm, .ref qs, .ref qt, .int (nI ms.length), .long (lN nw), .long (lN en), .int (nI mo), .long (lN la), .long (lN go), .long (lN sp)])), (qm, .inl (cI, 320, .inl f)), (qs, .inl (cI, 320, .inl g)), (qt, .inr (0, [.ref qw])), (qw, .inl (cJ, 5, .inr (.inl w)))]) [0, 1, 2, 3, 4] (by decide) rfl
      refine ag_clv (wc := [(a, .inr (1, [.int (nI G), .int (nI R), .ref qm, .ref qs, .ref qt, .int (nI ms.length), .long (lN nw), .long (lN en), .int (nI mo), .long (lN la), .long (lN go), .long (lN sp)])), (qm, .inl (cI, 320, .inl f)), (qs, .inl (cI, 320, .inl g)), (qt, .inr (0, [.ref qw])), (qw, .inl (cJ, 5, .inr (.inl w)))]) (wr := []) (Wf := fun u : (Nat → Int32) × (Nat → Int32) × (Nat → Int64) => [(a, .inr (1, [.int (nI G), .int (nI R), .ref qm, .ref qs, .ref qt, .int (nI (ms.length - 1)), .long (lN nw), .long (lN en), .int (nI mo), .long (lN la), .long (lN (go + 1)), .long (lN sp)])), (qm, .inl (cI, 320, .inl u.1)), (qs, .inl (cI, 320, .inl u.2.1)), (qt, .inr (0, [.ref qw])), (qw, .inl (cJ, 5, .inr (.inl u.2.2)))]) hP hD hS hA [0, 1, 2, 3, 4] [] rfl rfl (by decide) (by decide) (va_runV (C := "AgedMarks") (As := [.int (nI k)]) (rest := []) ⟨hx, hb, hml, hown, hts⟩ (c_A_drop l dC dI H.size a qm qs qt qw cI cJ G R nw en mo la go sp f g w ms k hk hbd hn hrep) (ag_cwV 1 hts mw_m_A_86 mw_instanceMethod_A_drop mw_sel_A_drop mw_ini_A mw_code_A_drop rfl rfl (by decide +kernel) ⟨Nat.le_of_ble_eq_true rfl, Nat.le_of_ble_eq_true rfl⟩) ⟨ag_blind, va_recv hK hPc (ci := 1) (q0 := 0) rfl rfl, ag_pre hPc hK hDc⟩ rfl rfl hl.1 rfl (lv_room (Nat.le_of_ble_eq_true rfl)) d_A_thin_27 ⟨Nat.le_of_ble_eq_true rfl, Nat.le_of_ble_eq_true rfl⟩) (fun u H locs hw hP hD hS => ?_)
      obtain ⟨f1, g1, w1⟩ := u
      try dsimp only at hw
      have hP : va_P (dC, dI) agCl [(a, .inr (1, [.int (nI G), .int (nI R), .ref qm, .ref qs, .ref qt, .int (nI (ms.length - 1)), .long (lN nw), .long (lN en), .int (nI mo), .long (lN la), .long (lN (go + 1)), .long (lN sp)])), (qm, .inl (cI, 320, .inl f1)), (qs, .inl (cI, 320, .inl g1)), (qt, .inr (0, [.ref qw])), (qw, .inl (cJ, 5, .inr (.inl w1)))] H := hP
      have hD : va_D A [(a, .inr (1, [.int (nI G), .int (nI R), .ref qm, .ref qs, .ref qt, .int (nI (ms.length - 1)), .long (lN nw), .long (lN en), .int (nI mo), .long (lN la), .long (lN (go + 1)), .long (lN sp)])), (qm, .inl (cI, 320, .inl f1)), (qs, .inl (cI, 320, .inl g1)), (qt, .inr (0, [.ref qw])), (qw, .inl (cJ, 5, .inr (.inl w1)))] := hD
      have e1 : ms.length - 1 = (ms.filter (fun x => decide (x.1 ≠ n - 2 * R * P ∨ n < 2 * R * P))).length := by rw [hfe, hfl]
      have e2 : go + 1 = go + (ms.length - (ms.filter (fun x => decide (x.1 ≠ n - 2 * R * P ∨ n < 2 * R * P))).length) := by rw [hfe, hfl]; omega
      rw [e1, e2] at hP hD
      exact ag_retv hx hb hr hlocks (f1, g1, w1) (by rw [hfe]; exact hw) hP hK hD hS d_A_thin_30
  · have h_n := trivial
    have hfe : ms.filter (fun x => decide (x.1 ≠ n - 2 * R * P ∨ n < 2 * R * P)) = ms := List.filter_eq_self.mpr fun x hx => by
      obtain ⟨k, hk, rfl⟩ := List.getElem_of_mem hx
      rw [decide_eq_true_eq]
      rcases Nat.lt_or_ge n (2 * R * P) with q | q
      · exact Or.inr q
      · refine Or.inl fun z => hno k hk ?_
        rw [(hrep.1 k hk).1, z, pk_sub q]
    refine lv_istore_n (lv' := [(3, .int (-1)), (2, .int (nI P)), (0, .ref a), (1, .int (nI n))]) hx hb d_A_thin_19 rfl hl (by decide) rfl (fun ls hl => ?_)
    refine lv_iload_n hx hb d_A_thin_20 rfl (lv_at hl 0 rfl) ?_
    refine lv_iconst (v := -1) hx hb d_A_thin_21 (by decide) ?_
    refine lv_icmp_eq (tgt := 30) hx hb d_A_thin_22 (by decide) (fun c22 => ?_) (fun c22 => ?_)
    · have h_n := trivial
      have e1 : ms.length = (ms.filter (fun x => decide (x.1 ≠ n - 2 * R * P ∨ n < 2 * R * P))).length := by rw [hfe]
      have e2 : go = go + (ms.length - (ms.filter (fun x => decide (x.1 ≠ n - 2 * R * P ∨ n < 2 * R * P))).length) := by rw [hfe]; omega
      rw [e1, e2] at hP hD
      exact ag_retv hx hb hr hlocks (f, g, w) (by rw [hfe]; exact hrep) hP hK hD hS d_A_thin_30
    · have h_n := trivial
      exact absurd rfl c22
end
section
set_option maxHeartbeats 4000000 in
set_option maxRecDepth 100000 in
/-- growTo(x): the marks up to x are laid, one after the other -/
theorem c_A_growTo (l : Launch) (dC : Nat → ClassId) (dI : Nat → Nat → Nat) (sz : Nat) (a qm qs qt qw : Nat) (cI cJ : ClassId) (G R nw en mo la go sp : Nat) (f g : Nat → Int32) (w : Nat → Int64) (ms : ag_M) (x : Nat) (hG : 1 ≤ G) (hG2 : G ≤ 1000) (hR2 : 2 ≤ R) (hR16 : R ≤ 16) (hmo : mo ≤ 300) (hin : ag_in R (en / G) ms) (hx1 : en ≤ x) (hx2 : x ≤ 1000000 * G) (hrep : ag_rep ms f g w) : Met l y_A_growTo (Cond.code y_A_growTo b_A_growTo 6 (some .int) :: agW) ({ frames := 3, cells := 0, slots := 0, locals := 110 }) (va_Pc [.ref a, .long (lN x)] (ag_at (dC, dI) agCl [(cI, .int), (cJ, .long)] sz [(a, .inr (1, [.int (nI G), .int (nI R), .ref qm, .ref qs, .ref qt, .int (nI ms.length), .long (lN nw), .long (lN en), .int (nI mo), .long (lN la), .long (lN go), .long (lN sp)])), (qm, .inl (cI, 320, .inl f)), (qs, .inl (cI, 320, .inl g)), (qt, .inr (0, [.ref qw])), (qw, .inl (cJ, 5, .inr (.inl w)))])) (va_Qi (fun (r : Int32) (u : ag_T × (Nat → Int32) × (Nat → Int32) × (Nat → Int64)) => r = nI (x / G - en / G) ∧ u.1 = ag_grow R (en / G) (x / G - en / G) (ms, mo, la, go) ∧ ag_rep u.1.1 u.2.1 u.2.2.1 u.2.2.2 ∧ ag_in R (x / G) u.1.1 ∧ u.1.2.1 ≤ 300) (ag_to (dC, dI) agCl [(cI, .int), (cJ, .long)] (va_A [(a, .inr (1, [.int (nI G), .int (nI R), .ref qm, .ref qs, .ref qt, .int (nI ms.length), .long (lN nw), .long (lN en), .int (nI mo), .long (lN la), .long (lN go), .long (lN sp)])), (qm, .inl (cI, 320, .inl f)), (qs, .inl (cI, 320, .inl g)), (qt, .inr (0, [.ref qw])), (qw, .inl (cJ, 5, .inr (.inl w)))] sz) (fun u : ag_T × (Nat → Int32) × (Nat → Int32) × (Nat → Int64) => [(a, .inr (1, [.int (nI G), .int (nI R), .ref qm, .ref qs, .ref qt, .int (nI u.1.1.length), .long (lN nw), .long (lN x), .int (nI u.1.2.1), .long (lN u.1.2.2.1), .long (lN u.1.2.2.2), .long (lN sp)])), (qm, .inl (cI, 320, .inl u.2.1)), (qs, .inl (cI, 320, .inl u.2.2.1)), (qt, .inr (0, [.ref qw])), (qw, .inl (cJ, 5, .inr (.inl u.2.2.2)))])) (va_A [(a, .inr (1, [.int (nI G), .int (nI R), .ref qm, .ref qs, .ref qt, .int (nI ms.length), .long (lN nw), .long (lN en), .int (nI mo), .long (lN la), .long (lN go), .long (lN sp)])), (qm, .inl (cI, 320, .inl f)), (qs, .inl (cI, 320, .inl g)), (qt, .inr (0, [.ref qw])), (qw, .inl (cJ, 5, .inr (.inl w)))] sz)) 0 0 (va_A [(a, .inr (1, [.int (nI G), .int (nI R), .ref qm, .ref qs, .ref qt, .int (nI ms.length), .long (lN nw), .long (lN en), .int (nI mo), .long (lN la), .long (lN go), .long (lN sp)])), (qm, .inl (cI, 320, .inl f)), (qs, .inl (cI, 320, .inl g)), (qt, .inr (0, [.ref qw])), (qw, .inl (cJ, 5, .inr (.inl w)))] sz) := by
  refine ag_ofW (Qf := fun A => va_Qi (fun (r : Int32) (u : ag_T × (Nat → Int32) × (Nat → Int32) × (Nat → Int64)) => r = nI (x / G - en / G) ∧ u.1 = ag_grow R (en / G) (x / G - en / G) (ms, mo, la, go) ∧ ag_rep u.1.1 u.2.1 u.2.2.1 u.2.2.2 ∧ ag_in R (x / G) u.1.1 ∧ u.1.2.1 ≤ 300) (ag_to (dC, dI) agCl [(cI, .int), (cJ, .long)] A (fun u : ag_T × (Nat → Int32) × (Nat → Int32) × (Nat → Int64) => [(a, .inr (1, [.int (nI G), .int (nI R), .ref qm, .ref qs, .ref qt, .int (nI u.1.1.length), .long (lN nw), .long (lN x), .int (nI u.1.2.1), .long (lN u.1.2.2.1), .long (lN u.1.2.2.2), .long (lN sp)])), (qm, .inl (cI, 320, .inl u.2.1)), (qs, .inl (cI, 320, .inl u.2.2.1)), (qt, .inr (0, [.ref qw])), (qw, .inl (cJ, 5, .inr (.inl u.2.2.2)))])) A) (cc := b_A_growTo) (maxL := 6) (ret := (some .int)) (lv := [(0, .ref a), (1, .long (lN x))]) (by decide) rfl (Nat.le_of_ble_eq_true rfl) rfl (fun p e s m below meth c A ls hx hb hr hts hown hlocks hml hnm hA hS hP hK hD hl hsz => ?_)
  have hown : s.vm.findClass "AgedMarks" = some m.cls := hown
  have ht : ∀ w ∈ agW, w.before [.ref a, .long (lN x)].toArray s = true := fun w h => hts w (List.mem_cons_of_mem _ h)
  have hz9 : 0 ≤ en / G := Nat.zero_le _
  have hdv : en / G ≤ x / G := Nat.div_le_div_right hx1
  have hdx : x / G ≤ 1000000 := Nat.div_le_of_le_mul (by rw [Nat.mul_comm]; exact hx2)
  refine lv_aload_n hx hb d_A_growTo_0 rfl (lv_at hl 0 rfl) ?_
  refine lv_aload_n hx hb d_A_growTo_1 rfl (lv_at hl 0 rfl) ?_
  refine va_get (D := (dC, dI)) (ci := 1) (v := .long (lN en)) (C := RX1) (T := TX1) (N := 12) hx hb ht inA1 hown hK hP 0 rfl rfl 7 (by decide) (ht _ mw_f_A_67) (fun _ h9 => h9) rfl d_A_growTo_2 ?_
  have hPc := hP.sub (ws' := [(a, .inr (1, [.int (nI G), .int (nI R), .ref qm, .ref qs, .ref qt, .int (nI ms.length), .long (lN nw), .long (lN en), .int (nI mo), .long (lN la), .long (lN go), .long (lN sp)])), (qm, .inl (cI, 320, .inl f)), (qs, .inl (cI, 320, .inl g)), (qt, .inr (0, [.ref qw])), (qw, .inl (cJ, 5, .inr (.inl w)))]) [0, 1, 2, 3, 4] rfl
  have hDc := hD.sub (ws' := [(a, .inr (1, [.int (nI G), .int (nI R), .ref qm, .ref qs, .ref qt, .int (nI ms.length), .long (lN nw), .long (lN en), .int (nI mo), .long (lN la), .long (lN go), .long (lN sp)])), (qm, .inl (cI, 320, .inl f)), (qs, .inl (cI, 320, .inl g)), (qt, .inr (0, [.ref qw])), (qw, .inl (cJ, 5, .inr (.inl w)))]) [0, 1, 2, 3, 4] (by decide) rfl
  refine ag_cli (wc := [(a, .inr (1, [.int (nI G), .int (nI R), .ref qm, .ref qs, .ref qt, .int (nI ms.length), .long (lN nw), .long (lN en), .int (nI mo), .long (lN la), .long (lN go), .long (lN sp)])), (qm, .inl (cI, 320, .inl f)), (qs, .inl (cI, 320, .inl g)), (qt, .inr (0, [.ref qw])), (qw, .inl (cJ, 5, .inr (.inl w)))]) (wr := []) (Wf := fun _ : Unit => [(a, .inr (1, [.int (nI G), .int (nI R), .ref qm, .ref qs, .ref qt, .int (nI ms.length), .long (lN nw), .long (lN en), .int (nI mo), .long (lN la), .long (lN go), .long (lN sp)])), (qm, .inl (cI, 320, .inl f)), (qs, .inl (cI, 320, .inl g)), (qt, .inr (0, [.ref qw])), (qw, .inl (cJ, 5, .inr (.inl w)))]) hP hD hS hA [0, 1, 2, 3, 4] [] rfl rfl (by decide) (by decide) (va_runV (C := "AgedMarks") (As := [.long (lN en)]) (rest := []) ⟨hx, hb, hml, hown, hts⟩ (c_A_gapsIn l dC dI s.heap.size a qm qs qt qw cI cJ G R ms.length nw en mo la go sp f g w en (by omega) hG2 (by omega)) (ag_cwV 1 hts mw_m_A_111 mw_instanceMethod_A_gapsIn mw_sel_A_gapsIn mw_ini_A mw_code_A_gapsIn rfl rfl (by decide +kernel) ⟨Nat.le_of_ble_eq_true rfl, Nat.le_of_ble_eq_true rfl⟩) ⟨ag_blind, va_recv hK hPc (ci := 1) (q0 := 0) rfl rfl, ag_pre hPc hK hDc⟩ rfl rfl hl.1 rfl (lv_room (Nat.le_of_ble_eq_true rfl)) d_A_growTo_5 ⟨Nat.le_of_ble_eq_true rfl, Nat.le_of_ble_eq_true rfl⟩) (fun r1 u H locs hw hP hD hS => ?_)
  try dsimp only at hw
  subst hw
  have hP : va_P (dC, dI) agCl [(a, .inr (1, [.int (nI G), .int (nI R), .ref qm, .ref qs, .ref qt, .int (nI ms.length), .long (lN nw), .long (lN en), .int (nI mo), .long (lN la), .long (lN go), .long (lN sp)])), (qm, .inl (cI, 320, .inl f)), (qs, .inl (cI, 320, .inl g)), (qt, .inr (0, [.ref qw])), (qw, .inl (cJ, 5, .inr (.inl w)))] H := hP
  have hD : va_D A [(a, .inr (1, [.int (nI G), .int (nI R), .ref qm, .ref qs, .ref qt, .int (nI ms.length), .long (lN nw), .long (lN en), .int (nI mo), .long (lN la), .long (lN go), .long (lN sp)])), (qm, .inl (cI, 320, .inl f)), (qs, .inl (cI, 320, .inl g)), (qt, .inr (0, [.ref qw])), (qw, .inl (cJ, 5, .inr (.inl w)))] := hD
  refine lv_istore_n (lv' := [(3, .int (nI (en / G))), (0, .ref a), (1, .long (lN x))]) hx hb d_A_growTo_8 rfl hl (by decide) rfl (fun ls hl => ?_)
  refine lv_aload_n hx hb d_A_growTo_9 rfl (lv_at hl 1 rfl) ?_
  refine lv_lload_n hx hb d_A_growTo_10 rfl (lv_at hl 2 rfl) ?_
  have hPc := hP.sub (ws' := [(a, .inr (1, [.int (nI G), .int (nI R), .ref qm, .ref qs, .ref qt, .int (nI ms.length), .long (lN nw), .long (lN en), .int (nI mo), .long (lN la), .long (lN go), .long (lN sp)])), (qm, .inl (cI, 320, .inl f)), (qs, .inl (cI, 320, .inl g)), (qt, .inr (0, [.ref qw])), (qw, .inl (cJ, 5, .inr (.inl w)))]) [0, 1, 2, 3, 4] rfl
  have hDc := hD.sub (ws' := [(a, .inr (1, [.int (nI G), .int (nI R), .ref qm, .ref qs, .ref qt, .int (nI ms.length), .long (lN nw), .long (lN en), .int (nI mo), .long (lN la), .long (lN go), .long (lN sp)])), (qm, .inl (cI, 320, .inl f)), (qs, .inl (cI, 320, .inl g)), (qt, .inr (0, [.ref qw])), (qw, .inl (cJ, 5, .inr (.inl w)))]) [0, 1, 2, 3, 4] (by decide) rfl
  refine ag_cli (wc := [(a, .inr (1, [.int (nI G), .int (nI R), .ref qm, .ref qs, .ref qt, .int (nI ms.length), .long (lN nw), .long (lN en), .int (nI mo), .long (lN la), .long (lN go), .long (lN sp)])), (qm, .inl (cI, 320, .inl f)), (qs, .inl (cI, 320, .inl g)), (qt, .inr (0, [.ref qw])), (qw, .inl (cJ, 5, .inr (.inl w)))]) (wr := []) (Wf := fun _ : Unit => [(a, .inr (1, [.int (nI G), .int (nI R), .ref qm, .ref qs, .ref qt, .int (nI ms.length), .long (lN nw), .long (lN en), .int (nI mo), .long (lN la), .long (lN go), .long (lN sp)])), (qm, .inl (cI, 320, .inl f)), (qs, .inl (cI, 320, .inl g)), (qt, .inr (0, [.ref qw])), (qw, .inl (cJ, 5, .inr (.inl w)))]) hP hD hS hA [0, 1, 2, 3, 4] [] rfl rfl (by decide) (by decide) (va_runV (C := "AgedMarks") (As := [.long (lN x)]) (rest := []) ⟨hx, hb, hml, hown, hts⟩ (c_A_gapsIn l dC dI H.size a qm qs qt qw cI cJ G R ms.length nw en mo la go sp f g w x (by omega) hG2 hx2) (ag_cwV 1 hts mw_m_A_111 mw_instanceMethod_A_gapsIn mw_sel_A_gapsIn mw_ini_A mw_code_A_gapsIn rfl rfl (by decide +kernel) ⟨Nat.le_of_ble_eq_true rfl, Nat.le_of_ble_eq_true rfl⟩) ⟨ag_blind, va_recv hK hPc (ci := 1) (q0 := 0) rfl rfl, ag_pre hPc hK hDc⟩ rfl rfl hl.1 rfl (lv_room (Nat.le_of_ble_eq_true rfl)) d_A_growTo_11 ⟨Nat.le_of_ble_eq_true rfl, Nat.le_of_ble_eq_true rfl⟩) (fun r2 u H locs hw hP hD hS => ?_)
  try dsimp only at hw
  subst hw
  have hP : va_P (dC, dI) agCl [(a, .inr (1, [.int (nI G), .int (nI R), .ref qm, .ref qs, .ref qt, .int (nI ms.length), .long (lN nw), .long (lN en), .int (nI mo), .long (lN la), .long (lN go), .long (lN sp)])), (qm, .inl (cI, 320, .inl f)), (qs, .inl (cI, 320, .inl g)), (qt, .inr (0, [.ref qw])), (qw, .inl (cJ, 5, .inr (.inl w)))] H := hP
  have hD : va_D A [(a, .inr (1, [.int (nI G), .int (nI R), .ref qm, .ref qs, .ref qt, .int (nI ms.length), .long (lN nw), .long (lN en), .int (nI mo), .long (lN la), .long (lN go), .long (lN sp)])), (qm, .inl (cI, 320, .inl f)), (qs, .inl (cI, 320, .inl g)), (qt, .inr (0, [.ref qw])), (qw, .inl (cJ, 5, .inr (.inl w)))] := hD
  refine lv_istore (lv' := [(4, .int (nI (x / G))), (3, .int (nI (en / G))), (0, .ref a), (1, .long (lN x))]) hx hb d_A_growTo_14 hl (by decide) rfl (fun ls hl => ?_)
  refine lv_aload_n hx hb d_A_growTo_16 rfl (lv_at hl 2 rfl) ?_
  refine lv_lload_n hx hb d_A_growTo_17 rfl (lv_at hl 3 rfl) ?_
  refine va_put (D := (dC, dI)) (ci := 1) (v := .long (lN x)) (ty := .long) (C := RX1) (T := TX1) (N := 12) hx hb ht inA1 tyX1 tyX1_ok nmX1 hown hK hP hD hS 0 rfl rfl 7 (by decide) (ht _ mw_f_A_67) (fun _ h9 => h9) rfl (by decide +kernel) rfl rfl (Nat.le_of_ble_eq_true rfl) d_A_growTo_18 (fun H locs hP hD hS => ?_)
  have hP : va_P (dC, dI) agCl [(a, .inr (1, [.int (nI G), .int (nI R), .ref qm, .ref qs, .ref qt, .int (nI ms.length), .long (lN nw), .long (lN x), .int (nI mo), .long (lN la), .long (lN go), .long (lN sp)])), (qm, .inl (cI, 320, .inl f)), (qs, .inl (cI, 320, .inl g)), (qt, .inr (0, [.ref qw])), (qw, .inl (cJ, 5, .inr (.inl w)))] H := hP
  have hD : va_D A [(a, .inr (1, [.int (nI G), .int (nI R), .ref qm, .ref qs, .ref qt, .int (nI ms.length), .long (lN nw), .long (lN x), .int (nI mo), .long (lN la), .long (lN go), .long (lN sp)])), (qm, .inl (cI, 320, .inl f)), (qs, .inl (cI, 320, .inl g)), (qt, .inr (0, [.ref qw])), (qw, .inl (cJ, 5, .inr (.inl w)))] := hD
  refine lv_iload_n hx hb d_A_growTo_21 rfl (lv_at hl 1 rfl) ?_
  refine ag_iconst hx hb 1 d_A_growTo_22 (by decide) ?_
  refine lv_iadd hx hb d_A_growTo_23 ?_
  refine ag_topi (nI ((en / G) + 1)) (nI_add _ _) ?_
  refine lv_istore (lv' := [(5, .int (nI ((en / G) + 1))), (4, .int (nI (x / G))), (3, .int (nI (en / G))), (0, .ref a), (1, .long (lN x))]) hx hb d_A_growTo_24 hl (by decide) rfl (fun ls hl => ?_)
  have loop : ∀ (n k : Nat), x / G < en / G + k + n → en / G + k ≤ x / G → ∀ (ms1 : ag_M) (mo1 la1 go1 : Nat), ag_grow R (en / G) k (ms, mo, la, go) = (ms1, mo1, la1, go1) → ag_in R (en / G + k) ms1 → mo1 ≤ 300 → ∀ (f1 g1 : Nat → Int32) (w1 : Nat → Int64), ag_rep ms1 f1 g1 w1 → ∀ (H : Heap) (locs : List Loc), va_P (dC, dI) agCl [(a, .inr (1, [.int (nI G), .int (nI R), .ref qm, .ref qs, .ref qt, .int (nI ms1.length), .long (lN nw), .long (lN x), .int (nI mo1), .long (lN la1), .long (lN go1), .long (lN sp)])), (qm, .inl (cI, 320, .inl f1)), (qs, .inl (cI, 320, .inl g1)), (qt, .inr (0, [.ref qw])), (qw, .inl (cJ, 5, .inr (.inl w1)))] H → va_D A [(a, .inr (1, [.int (nI G), .int (nI R), .ref qm, .ref qs, .ref qt, .int (nI ms1.length), .long (lN nw), .long (lN x), .int (nI mo1), .long (lN la1), .long (lN go1), .long (lN sp)])), (qm, .inl (cI, 320, .inl f1)), (qs, .inl (cI, 320, .inl g1)), (qt, .inr (0, [.ref qw])), (qw, .inl (cJ, 5, .inr (.inl w1)))] → va_S A s.heap H locs → ∀ ls : Array Slot, lv_has ls 6 [(5, .int (nI (en / G + k + 1))), (4, .int (nI (x / G))), (3, .int (nI (en / G))), (0, .ref a), (1, .long (lN x))] → W p l e { frames := 3, cells := 0, slots := 0, locals := 110 } s m [.ref a, .long (lN x)].toArray below meth c H locs 0 0 (MQ below (va_Qi (fun (r : Int32) (u : ag_T × (Nat → Int32) × (Nat → Int32) × (Nat → Int64)) => r = nI (x / G - en / G) ∧ u.1 = ag_grow R (en / G) (x / G - en / G) (ms, mo, la, go) ∧ ag_rep u.1.1 u.2.1 u.2.2.1 u.2.2.2 ∧ ag_in R (x / G) u.1.1 ∧ u.1.2.1 ≤ 300) (ag_to (dC, dI) agCl [(cI, .int), (cJ, .long)] A (fun u : ag_T × (Nat → Int32) × (Nat → Int32) × (Nat → Int64) => [(a, .inr (1, [.int (nI G), .int (nI R), .ref qm, .ref qs, .ref qt, .int (nI u.1.1.length), .long (lN nw), .long (lN x), .int (nI u.1.2.1), .long (lN u.1.2.2.1), .long (lN u.1.2.2.2), .long (lN sp)])), (qm, .inl (cI, 320, .inl u.2.1)), (qs, .inl (cI, 320, .inl u.2.2.1)), (qt, .inr (0, [.ref qw])), (qw, .inl (cJ, 5, .inr (.inl u.2.2.2)))])) A) [.ref a, .long (lN x)].toArray s 0 0 A) (F0 m 26 ls []) := by
    intro n
    induction n with
    | zero => intro k h1 h2; omega
    | succ n ih =>
      intro k hkn hkx ms1 mo1 la1 go1 hU hin1 hmo1 f1 g1 w1 hrep1 H locs hP hD hS ls hl
      have hlen1 := ag_il hR2 hR16 (by omega) hin1
      refine lv_iload hx hb d_A_growTo_26 (lv_at hl 0 rfl) ?_
      refine lv_iload hx hb d_A_growTo_28 (lv_at hl 1 rfl) ?_
      refine ag_icmp_gt (tgt := 66) hx hb d_A_growTo_30 (by decide) (by omega) (by omega) (fun c30 => ?_) (fun c30 => ?_)
      · have h_n := trivial
        refine lv_iload hx hb d_A_growTo_66 (lv_at hl 1 rfl) ?_
        refine lv_iload_n hx hb d_A_growTo_68 rfl (lv_at hl 2 rfl) ?_
        refine lv_isub hx hb d_A_growTo_69 ?_
        refine ag_topi (nI ((x / G) - (en / G))) (pk_sub (by omega)) ?_
        have hke : x / G - en / G = k := by omega
        exact ag_reti hx hb hr hlocks ((ms1, mo1, la1, go1), f1, g1, w1) (⟨rfl, by rw [hke]; exact hU.symm, hrep1, by rw [show x / G = en / G + k by omega]; exact hin1, hmo1⟩) hP hK hD hS d_A_growTo_70
      · have h_n := trivial
        have hbd1 := ag_in_bd hR2 hR16 (by omega) hin1
        have hbd2 := ag_in_bd1 hR2 hR16 (by omega) hin1
        have hao := ag_app_ok hin1.1
        obtain ⟨P, hp2, hPn, hPe⟩ := ag_low32 (n := en / G + k + 1) (by omega) (by omega)
        have hput := ag_put_filt (by omega) hin1.1 hp2
        have hin2 := ag_in_put hR2 hR16 (by omega) hin1
        have hlen2 : (ag_put R (en / G + k + 1) ms1).length ≤ 300 := ag_il hR2 hR16 (by omega) hin2
        refine lv_aload_n hx hb d_A_growTo_33 rfl (lv_at hl 3 rfl) ?_
        refine lv_iload hx hb d_A_growTo_34 (lv_at hl 0 rfl) ?_
        have hPc := hP.sub (ws' := [(a, .inr (1, [.int (nI G), .int (nI R), .ref qm, .ref qs, .ref qt, .int (nI ms1.length), .long (lN nw), .long (lN x), .int (nI mo1), .long (lN la1), .long (lN go1), .long (lN sp)])), (qm, .inl (cI, 320, .inl f1)), (qs, .inl (cI, 320, .inl g1)), (qt, .inr (0, [.ref qw])), (qw, .inl (cJ, 5, .inr (.inl w1)))]) [0, 1, 2, 3, 4] rfl
        have hDc := hD.sub (ws' := [(a, .inr (1, [.int (nI G), .int (nI R), .ref qm, .ref qs, .ref qt, .int (nI ms1.length), .long (lN nw), .long (lN x), .int (nI mo1), .long (lN la1), .long (lN go1), .long (lN sp)])), (qm, .inl (cI, 320, .inl f1)), (qs, .inl (cI, 320, .inl g1)), (qt, .inr (0, [.ref qw])), (qw, .inl (cJ, 5, .inr (.inl w1)))]) [0, 1, 2, 3, 4] (by decide) rfl
        refine ag_clv (wc := [(a, .inr (1, [.int (nI G), .int (nI R), .ref qm, .ref qs, .ref qt, .int (nI ms1.length), .long (lN nw), .long (lN x), .int (nI mo1), .long (lN la1), .long (lN go1), .long (lN sp)])), (qm, .inl (cI, 320, .inl f1)), (qs, .inl (cI, 320, .inl g1)), (qt, .inr (0, [.ref qw])), (qw, .inl (cJ, 5, .inr (.inl w1)))]) (wr := []) (Wf := fun u : (Nat → Int32) × (Nat → Int32) × (Nat → Int64) => [(a, .inr (1, [.int (nI G), .int (nI R), .ref qm, .ref qs, .ref qt, .int (nI (ms1.length + 1)), .long (lN nw), .long (lN x), .int (nI mo1), .long (lN (la1 + 1)), .long (lN go1), .long (lN sp)])), (qm, .inl (cI, 320, .inl u.1)), (qs, .inl (cI, 320, .inl u.2.1)), (qt, .inr (0, [.ref qw])), (qw, .inl (cJ, 5, .inr (.inl u.2.2)))]) hP hD hS hA [0, 1, 2, 3, 4] [] rfl rfl (by decide) (by decide) (va_runV (C := "AgedMarks") (As := [.int (nI (en / G + k + 1))]) (rest := []) ⟨hx, hb, hml, hown, hts⟩ (c_A_lay l dC dI H.size a qm qs qt qw cI cJ G R nw x mo1 la1 go1 sp f1 g1 w1 ms1 (en / G + k + 1) hbd1 hrep1) (ag_cwV 1 hts mw_m_A_114 mw_instanceMethod_A_lay mw_sel_A_lay mw_ini_A mw_code_A_lay rfl rfl (by decide +kernel) ⟨Nat.le_of_ble_eq_true rfl, Nat.le_of_ble_eq_true rfl⟩) ⟨ag_blind, va_recv hK hPc (ci := 1) (q0 := 0) rfl rfl, ag_pre hPc hK hDc⟩ rfl rfl hl.1 rfl (lv_room (Nat.le_of_ble_eq_true rfl)) d_A_growTo_36 ⟨Nat.le_of_ble_eq_true rfl, Nat.le_of_ble_eq_true rfl⟩) (fun u H locs hw hP hD hS => ?_)
        obtain ⟨f2, g2, w2⟩ := u
        try dsimp only at hw
        have hP : va_P (dC, dI) agCl [(a, .inr (1, [.int (nI G), .int (nI R), .ref qm, .ref qs, .ref qt, .int (nI (ms1.length + 1)), .long (lN nw), .long (lN x), .int (nI mo1), .long (lN (la1 + 1)), .long (lN go1), .long (lN sp)])), (qm, .inl (cI, 320, .inl f2)), (qs, .inl (cI, 320, .inl g2)), (qt, .inr (0, [.ref qw])), (qw, .inl (cJ, 5, .inr (.inl w2)))] H := hP
        have hD : va_D A [(a, .inr (1, [.int (nI G), .int (nI R), .ref qm, .ref qs, .ref qt, .int (nI (ms1.length + 1)), .long (lN nw), .long (lN x), .int (nI mo1), .long (lN (la1 + 1)), .long (lN go1), .long (lN sp)])), (qm, .inl (cI, 320, .inl f2)), (qs, .inl (cI, 320, .inl g2)), (qt, .inr (0, [.ref qw])), (qw, .inl (cJ, 5, .inr (.inl w2)))] := hD
        have hle : ms1.length + 1 = (ms1 ++ [(en / G + k + 1, ag_slot ms1)]).length := by simp
        rw [hle] at hP hD
        refine lv_aload_n hx hb d_A_growTo_39 rfl (lv_at hl 3 rfl) ?_
        refine lv_iload hx hb d_A_growTo_40 (lv_at hl 0 rfl) ?_
        have hPc := hP.sub (ws' := [(a, .inr (1, [.int (nI G), .int (nI R), .ref qm, .ref qs, .ref qt, .int (nI ((ms1 ++ [(en / G + k + 1, ag_slot ms1)]).length)), .long (lN nw), .long (lN x), .int (nI mo1), .long (lN (la1 + 1)), .long (lN go1), .long (lN sp)])), (qm, .inl (cI, 320, .inl f2)), (qs, .inl (cI, 320, .inl g2)), (qt, .inr (0, [.ref qw])), (qw, .inl (cJ, 5, .inr (.inl w2)))]) [0, 1, 2, 3, 4] rfl
        have hDc := hD.sub (ws' := [(a, .inr (1, [.int (nI G), .int (nI R), .ref qm, .ref qs, .ref qt, .int (nI ((ms1 ++ [(en / G + k + 1, ag_slot ms1)]).length)), .long (lN nw), .long (lN x), .int (nI mo1), .long (lN (la1 + 1)), .long (lN go1), .long (lN sp)])), (qm, .inl (cI, 320, .inl f2)), (qs, .inl (cI, 320, .inl g2)), (qt, .inr (0, [.ref qw])), (qw, .inl (cJ, 5, .inr (.inl w2)))]) [0, 1, 2, 3, 4] (by decide) rfl
        refine ag_clv (wc := [(a, .inr (1, [.int (nI G), .int (nI R), .ref qm, .ref qs, .ref qt, .int (nI ((ms1 ++ [(en / G + k + 1, ag_slot ms1)]).length)), .long (lN nw), .long (lN x), .int (nI mo1), .long (lN (la1 + 1)), .long (lN go1), .long (lN sp)])), (qm, .inl (cI, 320, .inl f2)), (qs, .inl (cI, 320, .inl g2)), (qt, .inr (0, [.ref qw])), (qw, .inl (cJ, 5, .inr (.inl w2)))]) (wr := []) (Wf := fun u : (Nat → Int32) × (Nat → Int32) × (Nat → Int64) => [(a, .inr (1, [.int (nI G), .int (nI R), .ref qm, .ref qs, .ref qt, .int (nI (((ms1 ++ [(en / G + k + 1, ag_slot ms1)]).filter (fun x => decide (x.1 ≠ en / G + k + 1 - 2 * R * P ∨ en / G + k + 1 < 2 * R * P))).length)), .long (lN nw), .long (lN x), .int (nI mo1), .long (lN (la1 + 1)), .long (lN (go1 + ((ms1 ++ [(en / G + k + 1, ag_slot ms1)]).length - ((ms1 ++ [(en / G + k + 1, ag_slot ms1)]).filter (fun x => decide (x.1 ≠ en / G + k + 1 - 2 * R * P ∨ en / G + k + 1 < 2 * R * P))).length))), .long (lN sp)])), (qm, .inl (cI, 320, .inl u.1)), (qs, .inl (cI, 320, .inl u.2.1)), (qt, .inr (0, [.ref qw])), (qw, .inl (cJ, 5, .inr (.inl u.2.2)))]) hP hD hS hA [0, 1, 2, 3, 4] [] rfl rfl (by decide) (by decide) (va_runV (C := "AgedMarks") (As := [.int (nI (en / G + k + 1))]) (rest := []) ⟨hx, hb, hml, hown, hts⟩ (c_A_thin l dC dI H.size a qm qs qt qw cI cJ G R nw x mo1 (la1 + 1) go1 sp f2 g2 w2 (ms1 ++ [(en / G + k + 1, ag_slot ms1)]) (en / G + k + 1) P hPe hPn (by omega) hR16 (by simp) hao.1 hbd2 hao.2 hw) (ag_cwV 1 hts mw_m_A_117 mw_instanceMethod_A_thin mw_sel_A_thin mw_ini_A mw_code_A_thin rfl rfl (by decide +kernel) ⟨Nat.le_of_ble_eq_true rfl, Nat.le_of_ble_eq_true rfl⟩) ⟨ag_blind, va_recv hK hPc (ci := 1) (q0 := 0) rfl rfl, ag_pre hPc hK hDc⟩ rfl rfl hl.1 rfl (lv_room (Nat.le_of_ble_eq_true rfl)) d_A_growTo_42 ⟨Nat.le_of_ble_eq_true rfl, Nat.le_of_ble_eq_true rfl⟩) (fun u H locs hw3 hP hD hS => ?_)
        obtain ⟨f3, g3, w3⟩ := u
        try dsimp only at hw3
        have hP : va_P (dC, dI) agCl [(a, .inr (1, [.int (nI G), .int (nI R), .ref qm, .ref qs, .ref qt, .int (nI (((ms1 ++ [(en / G + k + 1, ag_slot ms1)]).filter (fun x => decide (x.1 ≠ en / G + k + 1 - 2 * R * P ∨ en / G + k + 1 < 2 * R * P))).length)), .long (lN nw), .long (lN x), .int (nI mo1), .long (lN (la1 + 1)), .long (lN (go1 + ((ms1 ++ [(en / G + k + 1, ag_slot ms1)]).length - ((ms1 ++ [(en / G + k + 1, ag_slot ms1)]).filter (fun x => decide (x.1 ≠ en / G + k + 1 - 2 * R * P ∨ en / G + k + 1 < 2 * R * P))).length))), .long (lN sp)])), (qm, .inl (cI, 320, .inl f3)), (qs, .inl (cI, 320, .inl g3)), (qt, .inr (0, [.ref qw])), (qw, .inl (cJ, 5, .inr (.inl w3)))] H := hP
        have hD : va_D A [(a, .inr (1, [.int (nI G), .int (nI R), .ref qm, .ref qs, .ref qt, .int (nI (((ms1 ++ [(en / G + k + 1, ag_slot ms1)]).filter (fun x => decide (x.1 ≠ en / G + k + 1 - 2 * R * P ∨ en / G + k + 1 < 2 * R * P))).length)), .long (lN nw), .long (lN x), .int (nI mo1), .long (lN (la1 + 1)), .long (lN (go1 + ((ms1 ++ [(en / G + k + 1, ag_slot ms1)]).length - ((ms1 ++ [(en / G + k + 1, ag_slot ms1)]).filter (fun x => decide (x.1 ≠ en / G + k + 1 - 2 * R * P ∨ en / G + k + 1 < 2 * R * P))).length))), .long (lN sp)])), (qm, .inl (cI, 320, .inl f3)), (qs, .inl (cI, 320, .inl g3)), (qt, .inr (0, [.ref qw])), (qw, .inl (cJ, 5, .inr (.inl w3)))] := hD
        rw [← hput, ← hle] at hP hD
        rw [← hput] at hw3
        have hP : va_P (dC, dI) agCl [(a, .inr (1, [.int (nI G), .int (nI R), .ref qm, .ref qs, .ref qt, .int (nI ((ag_put R (en / G + k + 1) ms1).length)), .long (lN nw), .long (lN x), .int (nI mo1), .long (lN (la1 + 1)), .long (lN (go1 + (ms1.length + 1 - (ag_put R (en / G + k + 1) ms1).length))), .long (lN sp)])), (qm, .inl (cI, 320, .inl f3)), (qs, .inl (cI, 320, .inl g3)), (qt, .inr (0, [.ref qw])), (qw, .inl (cJ, 5, .inr (.inl w3)))] H := hP
        have hD : va_D A [(a, .inr (1, [.int (nI G), .int (nI R), .ref qm, .ref qs, .ref qt, .int (nI ((ag_put R (en / G + k + 1) ms1).length)), .long (lN nw), .long (lN x), .int (nI mo1), .long (lN (la1 + 1)), .long (lN (go1 + (ms1.length + 1 - (ag_put R (en / G + k + 1) ms1).length))), .long (lN sp)])), (qm, .inl (cI, 320, .inl f3)), (qs, .inl (cI, 320, .inl g3)), (qt, .inr (0, [.ref qw])), (qw, .inl (cJ, 5, .inr (.inl w3)))] := hD
        refine lv_aload_n hx hb d_A_growTo_45 rfl (lv_at hl 3 rfl) ?_
        refine lv_aload_n hx hb d_A_growTo_46 rfl (lv_at hl 3 rfl) ?_
        refine va_get (D := (dC, dI)) (ci := 1) (v := .int (nI mo1)) (C := RX1) (T := TX1) (N := 12) hx hb ht inA1 hown hK hP 0 rfl rfl 8 (by decide) (ht _ mw_f_A_46) (fun _ h9 => h9) rfl d_A_growTo_47 ?_
        refine lv_aload_n hx hb d_A_growTo_50 rfl (lv_at hl 3 rfl) ?_
        refine va_get (D := (dC, dI)) (ci := 1) (v := .int (nI ((ag_put R (en / G + k + 1) ms1).length))) (C := RX1) (T := TX1) (N := 12) hx hb ht inA1 hown hK hP 0 rfl rfl 5 (by decide) (ht _ mw_f_A_43) (fun _ h9 => h9) rfl d_A_growTo_51 ?_
        refine va_mmax hx hb (hml.trans hl.1.symm) hown (ht _ mw_m_A_29) (ht _ mw_static_H_max) (ht _ mw_ini_H) (ht _ mw_code_H_max) (Nat.le_of_ble_eq_true rfl) (Nat.le_of_ble_eq_true rfl) (Nat.le_of_ble_eq_true rfl) (Nat.le_of_ble_eq_true rfl) d_A_growTo_54 ?_
        refine ag_topi (nI (max mo1 (ag_put R (en / G + k + 1) ms1).length)) (ag_imax (by omega) (by omega)) ?_
        refine va_put (D := (dC, dI)) (ci := 1) (v := .int (nI (max mo1 (ag_put R (en / G + k + 1) ms1).length))) (ty := .int) (C := RX1) (T := TX1) (N := 12) hx hb ht inA1 tyX1 tyX1_ok nmX1 hown hK hP hD hS 0 rfl rfl 8 (by decide) (ht _ mw_f_A_46) (fun _ h9 => h9) rfl (by decide +kernel) rfl rfl (Nat.le_of_ble_eq_true rfl) d_A_growTo_57 (fun H locs hP hD hS => ?_)
        have hP : va_P (dC, dI) agCl [(a, .inr (1, [.int (nI G), .int (nI R), .ref qm, .ref qs, .ref qt, .int (nI ((ag_put R (en / G + k + 1) ms1).length)), .long (lN nw), .long (lN x), .int (nI (max mo1 (ag_put R (en / G + k + 1) ms1).length)), .long (lN (la1 + 1)), .long (lN (go1 + (ms1.length + 1 - (ag_put R (en / G + k + 1) ms1).length))), .long (lN sp)])), (qm, .inl (cI, 320, .inl f3)), (qs, .inl (cI, 320, .inl g3)), (qt, .inr (0, [.ref qw])), (qw, .inl (cJ, 5, .inr (.inl w3)))] H := hP
        have hD : va_D A [(a, .inr (1, [.int (nI G), .int (nI R), .ref qm, .ref qs, .ref qt, .int (nI ((ag_put R (en / G + k + 1) ms1).length)), .long (lN nw), .long (lN x), .int (nI (max mo1 (ag_put R (en / G + k + 1) ms1).length)), .long (lN (la1 + 1)), .long (lN (go1 + (ms1.length + 1 - (ag_put R (en / G + k + 1) ms1).length))), .long (lN sp)])), (qm, .inl (cI, 320, .inl f3)), (qs, .inl (cI, 320, .inl g3)), (qt, .inr (0, [.ref qw])), (qw, .inl (cJ, 5, .inr (.inl w3)))] := hD
        refine lv_iinc (v := nI (en / G + k + 1 + 1)) (lv' := [(5, .int (nI (en / G + k + 1 + 1))), (4, .int (nI (x / G))), (3, .int (nI (en / G))), (0, .ref a), (1, .long (lN x))]) hx hb d_A_growTo_60 hl (k := 0) rfl (nI_1 _) (by decide) rfl (fun ls hl => ?_)
        refine lv_goto (tgt := 26) hx hb d_A_growTo_63 (by decide) ?_
        refine ih (k + 1) (by omega) (by omega) _ _ _ _ ?_ hin2 ?_ f3 g3 w3 hw3 H locs hP hD hS ls hl
        · show ag_step R (en / G + k + 1) (ag_grow R (en / G) k (ms, mo, la, go)) = _
          rw [hU]
          rfl
        · exact Nat.max_le.mpr ⟨hmo1, hlen2⟩
  exact loop (x / G + 1) 0 (by omega) (by omega) ms mo la go rfl hin hmo f g w hrep H locs hP hD hS ls hl
end
section
set_option maxHeartbeats 4000000 in
set_option maxRecDepth 100000 in
/-- costOf(x): what going to x costs -/
theorem c_A_costOf (l : Launch) (dC : Nat → ClassId) (dI : Nat → Nat → Nat) (sz : Nat) (a qm qs qt qw : Nat) (cI cJ : ClassId) (G R nw en mo la go sp : Nat) (f g : Nat → Int32) (w : Nat → Int64) (ms : ag_M) (x : Nat) (hG2 : G ≤ 1000) (hx1 : x ≤ 1000000000) (hbd : ag_bd ms) (h0 : 0 < ms.length) (h00 : (ms[0]).1 = 0) (hrep : ag_rep ms f g w) : Met l y_A_costOf (Cond.code y_A_costOf b_A_costOf 4 (some .long) :: agW) ({ frames := 1, cells := 0, slots := 0, locals := 24 }) (va_Pc [.ref a, .long (lN x)] (ag_at (dC, dI) agCl [(cI, .int), (cJ, .long)] sz [(a, .inr (1, [.int (nI G), .int (nI R), .ref qm, .ref qs, .ref qt, .int (nI ms.length), .long (lN nw), .long (lN en), .int (nI mo), .long (lN la), .long (lN go), .long (lN sp)])), (qm, .inl (cI, 320, .inl f)), (qs, .inl (cI, 320, .inl g)), (qt, .inr (0, [.ref qw])), (qw, .inl (cJ, 5, .inr (.inl w)))])) (va_Ql (fun (r : Int64) (_ : Unit) => r = lN (ag_cost G ms x)) (ag_to (dC, dI) agCl [(cI, .int), (cJ, .long)] (va_A [(a, .inr (1, [.int (nI G), .int (nI R), .ref qm, .ref qs, .ref qt, .int (nI ms.length), .long (lN nw), .long (lN en), .int (nI mo), .long (lN la), .long (lN go), .long (lN sp)])), (qm, .inl (cI, 320, .inl f)), (qs, .inl (cI, 320, .inl g)), (qt, .inr (0, [.ref qw])), (qw, .inl (cJ, 5, .inr (.inl w)))] sz) (fun _ : Unit => [(a, .inr (1, [.int (nI G), .int (nI R), .ref qm, .ref qs, .ref qt, .int (nI ms.length), .long (lN nw), .long (lN en), .int (nI mo), .long (lN la), .long (lN go), .long (lN sp)])), (qm, .inl (cI, 320, .inl f)), (qs, .inl (cI, 320, .inl g)), (qt, .inr (0, [.ref qw])), (qw, .inl (cJ, 5, .inr (.inl w)))])) (va_A [(a, .inr (1, [.int (nI G), .int (nI R), .ref qm, .ref qs, .ref qt, .int (nI ms.length), .long (lN nw), .long (lN en), .int (nI mo), .long (lN la), .long (lN go), .long (lN sp)])), (qm, .inl (cI, 320, .inl f)), (qs, .inl (cI, 320, .inl g)), (qt, .inr (0, [.ref qw])), (qw, .inl (cJ, 5, .inr (.inl w)))] sz)) 0 0 (va_A [(a, .inr (1, [.int (nI G), .int (nI R), .ref qm, .ref qs, .ref qt, .int (nI ms.length), .long (lN nw), .long (lN en), .int (nI mo), .long (lN la), .long (lN go), .long (lN sp)])), (qm, .inl (cI, 320, .inl f)), (qs, .inl (cI, 320, .inl g)), (qt, .inr (0, [.ref qw])), (qw, .inl (cJ, 5, .inr (.inl w)))] sz) := by
  refine ag_ofW (Qf := fun A => va_Ql (fun (r : Int64) (_ : Unit) => r = lN (ag_cost G ms x)) (ag_to (dC, dI) agCl [(cI, .int), (cJ, .long)] A (fun _ : Unit => [(a, .inr (1, [.int (nI G), .int (nI R), .ref qm, .ref qs, .ref qt, .int (nI ms.length), .long (lN nw), .long (lN en), .int (nI mo), .long (lN la), .long (lN go), .long (lN sp)])), (qm, .inl (cI, 320, .inl f)), (qs, .inl (cI, 320, .inl g)), (qt, .inr (0, [.ref qw])), (qw, .inl (cJ, 5, .inr (.inl w)))])) A) (cc := b_A_costOf) (maxL := 4) (ret := (some .long)) (lv := [(0, .ref a), (1, .long (lN x))]) (by decide) rfl (Nat.le_of_ble_eq_true rfl) rfl (fun p e s m below meth c A ls hx hb hr hts hown hlocks hml hnm hA hS hP hK hD hl hsz => ?_)
  have hown : s.vm.findClass "AgedMarks" = some m.cls := hown
  have ht : ∀ w ∈ agW, w.before [.ref a, .long (lN x)].toArray s = true := fun w h => hts w (List.mem_cons_of_mem _ h)
  have hlen := hbd.1
  have hmul : ∀ j (hj : j < ms.length), (ms[j]).1 * G ≤ 1000000000 := fun j hj => Nat.le_trans (Nat.mul_le_mul (hbd.2 _ (List.getElem_mem hj)).1 hG2) (by decide)
  refine lv_aload_n hx hb d_A_costOf_0 rfl (lv_at hl 0 rfl) ?_
  refine va_get (D := (dC, dI)) (ci := 1) (v := .int (nI ms.length)) (C := RX1) (T := TX1) (N := 12) hx hb ht inA1 hown hK hP 0 rfl rfl 5 (by decide) (ht _ mw_f_A_43) (fun _ h9 => h9) rfl d_A_costOf_1 ?_
  refine ag_iconst hx hb 1 d_A_costOf_4 (by decide) ?_
  refine lv_isub hx hb d_A_costOf_5 ?_
  refine ag_topi (nI (ms.length - 1)) (pk_sub (by omega)) ?_
  refine lv_istore_n (lv' := [(3, .int (nI (ms.length - 1))), (0, .ref a), (1, .long (lN x))]) hx hb d_A_costOf_6 rfl hl (by decide) rfl (fun ls hl => ?_)
  have loop : ∀ (k : Nat) (hk : k < ms.length), (∀ j (hj : j < ms.length), k < j → x < (ms[j]).1 * G) → ∀ (H : Heap) (locs : List Loc), va_P (dC, dI) agCl [(a, .inr (1, [.int (nI G), .int (nI R), .ref qm, .ref qs, .ref qt, .int (nI ms.length), .long (lN nw), .long (lN en), .int (nI mo), .long (lN la), .long (lN go), .long (lN sp)])), (qm, .inl (cI, 320, .inl f)), (qs, .inl (cI, 320, .inl g)), (qt, .inr (0, [.ref qw])), (qw, .inl (cJ, 5, .inr (.inl w)))] H → va_D A [(a, .inr (1, [.int (nI G), .int (nI R), .ref qm, .ref qs, .ref qt, .int (nI ms.length), .long (lN nw), .long (lN en), .int (nI mo), .long (lN la), .long (lN go), .long (lN sp)])), (qm, .inl (cI, 320, .inl f)), (qs, .inl (cI, 320, .inl g)), (qt, .inr (0, [.ref qw])), (qw, .inl (cJ, 5, .inr (.inl w)))] → va_S A s.heap H locs → ∀ ls : Array Slot, lv_has ls 4 [(3, .int (nI k)), (0, .ref a), (1, .long (lN x))] → W p l e { frames := 1, cells := 0, slots := 0, locals := 24 } s m [.ref a, .long (lN x)].toArray below meth c H locs 0 0 (MQ below (va_Ql (fun (r : Int64) (_ : Unit) => r = lN (ag_cost G ms x)) (ag_to (dC, dI) agCl [(cI, .int), (cJ, .long)] A (fun _ : Unit => [(a, .inr (1, [.int (nI G), .int (nI R), .ref qm, .ref qs, .ref qt, .int (nI ms.length), .long (lN nw), .long (lN en), .int (nI mo), .long (lN la), .long (lN go), .long (lN sp)])), (qm, .inl (cI, 320, .inl f)), (qs, .inl (cI, 320, .inl g)), (qt, .inr (0, [.ref qw])), (qw, .inl (cJ, 5, .inr (.inl w)))])) A) [.ref a, .long (lN x)].toArray s 0 0 A) (F0 m 7 ls []) := by
    intro k
    induction k with
    | zero =>
      intro hk hgt H locs hP hD hS ls hl
      refine lv_iload_n hx hb d_A_costOf_7 rfl (lv_at hl 0 rfl) ?_
      refine ag_if_le (tgt := 35) hx hb d_A_costOf_8 (by decide) (by omega) (fun c8 => ?_) (fun c8 => ?_)
      · have h_n := trivial
        refine lv_lload_n hx hb d_A_costOf_35 rfl (lv_at hl 2 rfl) ?_
        exact ag_retl hx hb hr hlocks () (by rw [ag_cost_eq (v := x) ⟨0, h0, by rw [h00]; omega, hgt, by rw [h00]; omega⟩]) hP hK hD hS d_A_costOf_36
      · have h_n := trivial
        exact absurd c8 (by omega)
    | succ i ih =>
      intro hk hgt H locs hP hD hS ls hl
      have hm := hmul (i + 1) hk
      have hbb := (hbd.2 _ (List.getElem_mem hk)).1
      refine lv_iload_n hx hb d_A_costOf_7 rfl (lv_at hl 0 rfl) ?_
      refine ag_if_le (tgt := 35) hx hb d_A_costOf_8 (by decide) (by omega) (fun c8 => ?_) (fun c8 => ?_)
      · have h_n := trivial
        exact absurd c8 (by omega)
      · have h_n := trivial
        refine lv_aload_n hx hb d_A_costOf_11 rfl (lv_at hl 1 rfl) ?_
        refine lv_iload_n hx hb d_A_costOf_12 rfl (lv_at hl 0 rfl) ?_
        have hPc := hP.sub (ws' := [(a, .inr (1, [.int (nI G), .int (nI R), .ref qm, .ref qs, .ref qt, .int (nI ms.length), .long (lN nw), .long (lN en), .int (nI mo), .long (lN la), .long (lN go), .long (lN sp)])), (qm, .inl (cI, 320, .inl f)), (qs, .inl (cI, 320, .inl g)), (qt, .inr (0, [.ref qw])), (qw, .inl (cJ, 5, .inr (.inl w)))]) [0, 1, 2, 3, 4] rfl
        have hDc := hD.sub (ws' := [(a, .inr (1, [.int (nI G), .int (nI R), .ref qm, .ref qs, .ref qt, .int (nI ms.length), .long (lN nw), .long (lN en), .int (nI mo), .long (lN la), .long (lN go), .long (lN sp)])), (qm, .inl (cI, 320, .inl f)), (qs, .inl (cI, 320, .inl g)), (qt, .inr (0, [.ref qw])), (qw, .inl (cJ, 5, .inr (.inl w)))]) [0, 1, 2, 3, 4] (by decide) rfl
        refine ag_cll (wc := [(a, .inr (1, [.int (nI G), .int (nI R), .ref qm, .ref qs, .ref qt, .int (nI ms.length), .long (lN nw), .long (lN en), .int (nI mo), .long (lN la), .long (lN go), .long (lN sp)])), (qm, .inl (cI, 320, .inl f)), (qs, .inl (cI, 320, .inl g)), (qt, .inr (0, [.ref qw])), (qw, .inl (cJ, 5, .inr (.inl w)))]) (wr := []) (Wf := fun _ : Unit => [(a, .inr (1, [.int (nI G), .int (nI R), .ref qm, .ref qs, .ref qt, .int (nI ms.length), .long (lN nw), .long (lN en), .int (nI mo), .long (lN la), .long (lN go), .long (lN sp)])), (qm, .inl (cI, 320, .inl f)), (qs, .inl (cI, 320, .inl g)), (qt, .inr (0, [.ref qw])), (qw, .inl (cJ, 5, .inr (.inl w)))]) hP hD hS hA [0, 1, 2, 3, 4] [] rfl rfl (by decide) (by decide) (va_runV (C := "AgedMarks") (As := [.int (nI (i + 1))]) (rest := []) ⟨hx, hb, hml, hown, hts⟩ (c_A_countAt l dC dI H.size a qm qs qt qw cI cJ G R ms.length nw en mo la go sp f g w (i + 1) (ms[i + 1]).1 (by omega) (by omega) hG2 (hrep.1 (i + 1) hk).1) (ag_cwV 1 hts mw_m_A_82 mw_instanceMethod_A_countAt mw_sel_A_countAt mw_ini_A mw_code_A_countAt rfl rfl (by decide +kernel) ⟨Nat.le_of_ble_eq_true rfl, Nat.le_of_ble_eq_true rfl⟩) ⟨ag_blind, va_recv hK hPc (ci := 1) (q0 := 0) rfl rfl, ag_pre hPc hK hDc⟩ rfl rfl hl.1 rfl (lv_room (Nat.le_of_ble_eq_true rfl)) d_A_costOf_13 ⟨Nat.le_of_ble_eq_true rfl, Nat.le_of_ble_eq_true rfl⟩) (fun r1 u H locs hw hP hD hS => ?_)
        try dsimp only at hw
        subst hw
        have hP : va_P (dC, dI) agCl [(a, .inr (1, [.int (nI G), .int (nI R), .ref qm, .ref qs, .ref qt, .int (nI ms.length), .long (lN nw), .long (lN en), .int (nI mo), .long (lN la), .long (lN go), .long (lN sp)])), (qm, .inl (cI, 320, .inl f)), (qs, .inl (cI, 320, .inl g)), (qt, .inr (0, [.ref qw])), (qw, .inl (cJ, 5, .inr (.inl w)))] H := hP
        have hD : va_D A [(a, .inr (1, [.int (nI G), .int (nI R), .ref qm, .ref qs, .ref qt, .int (nI ms.length), .long (lN nw), .long (lN en), .int (nI mo), .long (lN la), .long (lN go), .long (lN sp)])), (qm, .inl (cI, 320, .inl f)), (qs, .inl (cI, 320, .inl g)), (qt, .inr (0, [.ref qw])), (qw, .inl (cJ, 5, .inr (.inl w)))] := hD
        refine lv_lload_n hx hb d_A_costOf_16 rfl (lv_at hl 2 rfl) ?_
        refine ag_lc_gt (tgt := 29) hx hb d_A_costOf_17 d_A_costOf_18 (by decide) (fun c17 => ?_) (fun c17 => ?_)
        · have h_n := trivial
          refine lv_iinc (v := nI i) (lv' := [(3, .int (nI i)), (0, .ref a), (1, .long (lN x))]) hx hb d_A_costOf_29 hl (k := 0) rfl (pk_m1 i) (by decide) rfl (fun ls hl => ?_)
          refine lv_goto (tgt := 7) hx hb d_A_costOf_32 (by decide) ?_
          have hgt1 := (pk_lLT (by omega) (by omega)).mp c17
          refine ih (by omega) (fun j hj h => ?_) H locs hP hD hS ls hl
          rcases Nat.lt_or_ge (i + 1) j with q | q
          · exact hgt j hj q
          · have e9 : j = i + 1 := by omega
            subst e9
            exact hgt1
        · have h_n := trivial
          have hle1 : (ms[i + 1]).1 * G ≤ x := by have h9 := mt (pk_lLT (a := x) (b := (ms[i + 1]).1 * G) (by omega) (by omega)).mpr c17; omega
          refine lv_lload_n hx hb d_A_costOf_21 rfl (lv_at hl 2 rfl) ?_
          refine lv_aload_n hx hb d_A_costOf_22 rfl (lv_at hl 1 rfl) ?_
          refine lv_iload_n hx hb d_A_costOf_23 rfl (lv_at hl 0 rfl) ?_
          have hPc := hP.sub (ws' := [(a, .inr (1, [.int (nI G), .int (nI R), .ref qm, .ref qs, .ref qt, .int (nI ms.length), .long (lN nw), .long (lN en), .int (nI mo), .long (lN la), .long (lN go), .long (lN sp)])), (qm, .inl (cI, 320, .inl f)), (qs, .inl (cI, 320, .inl g)), (qt, .inr (0, [.ref qw])), (qw, .inl (cJ, 5, .inr (.inl w)))]) [0, 1, 2, 3, 4] rfl
          have hDc := hD.sub (ws' := [(a, .inr (1, [.int (nI G), .int (nI R), .ref qm, .ref qs, .ref qt, .int (nI ms.length), .long (lN nw), .long (lN en), .int (nI mo), .long (lN la), .long (lN go), .long (lN sp)])), (qm, .inl (cI, 320, .inl f)), (qs, .inl (cI, 320, .inl g)), (qt, .inr (0, [.ref qw])), (qw, .inl (cJ, 5, .inr (.inl w)))]) [0, 1, 2, 3, 4] (by decide) rfl
          refine ag_cll (wc := [(a, .inr (1, [.int (nI G), .int (nI R), .ref qm, .ref qs, .ref qt, .int (nI ms.length), .long (lN nw), .long (lN en), .int (nI mo), .long (lN la), .long (lN go), .long (lN sp)])), (qm, .inl (cI, 320, .inl f)), (qs, .inl (cI, 320, .inl g)), (qt, .inr (0, [.ref qw])), (qw, .inl (cJ, 5, .inr (.inl w)))]) (wr := []) (Wf := fun _ : Unit => [(a, .inr (1, [.int (nI G), .int (nI R), .ref qm, .ref qs, .ref qt, .int (nI ms.length), .long (lN nw), .long (lN en), .int (nI mo), .long (lN la), .long (lN go), .long (lN sp)])), (qm, .inl (cI, 320, .inl f)), (qs, .inl (cI, 320, .inl g)), (qt, .inr (0, [.ref qw])), (qw, .inl (cJ, 5, .inr (.inl w)))]) hP hD hS hA [0, 1, 2, 3, 4] [] rfl rfl (by decide) (by decide) (va_runV (C := "AgedMarks") (As := [.int (nI (i + 1))]) (rest := [.long (lN x)]) ⟨hx, hb, hml, hown, hts⟩ (c_A_countAt l dC dI H.size a qm qs qt qw cI cJ G R ms.length nw en mo la go sp f g w (i + 1) (ms[i + 1]).1 (by omega) (by omega) hG2 (hrep.1 (i + 1) hk).1) (ag_cwV 1 hts mw_m_A_82 mw_instanceMethod_A_countAt mw_sel_A_countAt mw_ini_A mw_code_A_countAt rfl rfl (by decide +kernel) ⟨Nat.le_of_ble_eq_true rfl, Nat.le_of_ble_eq_true rfl⟩) ⟨ag_blind, va_recv hK hPc (ci := 1) (q0 := 0) rfl rfl, ag_pre hPc hK hDc⟩ rfl rfl hl.1 rfl (lv_room (Nat.le_of_ble_eq_true rfl)) d_A_costOf_24 ⟨Nat.le_of_ble_eq_true rfl, Nat.le_of_ble_eq_true rfl⟩) (fun r2 u H locs hw hP hD hS => ?_)
          try dsimp only at hw
          subst hw
          have hP : va_P (dC, dI) agCl [(a, .inr (1, [.int (nI G), .int (nI R), .ref qm, .ref qs, .ref qt, .int (nI ms.length), .long (lN nw), .long (lN en), .int (nI mo), .long (lN la), .long (lN go), .long (lN sp)])), (qm, .inl (cI, 320, .inl f)), (qs, .inl (cI, 320, .inl g)), (qt, .inr (0, [.ref qw])), (qw, .inl (cJ, 5, .inr (.inl w)))] H := hP
          have hD : va_D A [(a, .inr (1, [.int (nI G), .int (nI R), .ref qm, .ref qs, .ref qt, .int (nI ms.length), .long (lN nw), .long (lN en), .int (nI mo), .long (lN la), .long (lN go), .long (lN sp)])), (qm, .inl (cI, 320, .inl f)), (qs, .inl (cI, 320, .inl g)), (qt, .inr (0, [.ref qw])), (qw, .inl (cJ, 5, .inr (.inl w)))] := hD
          refine lv_lsub hx hb d_A_costOf_27 ?_
          refine ag_topl (lN (x - ((ms[i + 1]).1 * G))) (lN_sub (by omega)) ?_
          exact ag_retl hx hb hr hlocks () (by rw [ag_cost_eq ⟨i + 1, hk, hle1, hgt, rfl⟩]) hP hK hD hS d_A_costOf_28
  exact loop (ms.length - 1) (by omega) (fun j hj h => by omega) s.heap [] hP hD hS ls hl

set_option maxHeartbeats 4000000 in
set_option maxRecDepth 100000 in
/-- moveTo(x): now is x, the cost is added -/
theorem c_A_moveTo (l : Launch) (dC : Nat → ClassId) (dI : Nat → Nat → Nat) (sz : Nat) (a qm qs qt qw : Nat) (cI cJ : ClassId) (G R nw en mo la go sp : Nat) (f g : Nat → Int32) (w : Nat → Int64) (ms : ag_M) (x : Nat) (hG2 : G ≤ 1000) (hx1 : x ≤ 1000000000) (hbd : ag_bd ms) (h0 : 0 < ms.length) (h00 : (ms[0]).1 = 0) (hrep : ag_rep ms f g w) : Met l y_A_moveTo (Cond.code y_A_moveTo b_A_moveTo 5 (some .long) :: agW) ({ frames := 2, cells := 0, slots := 0, locals := 50 }) (va_Pc [.ref a, .long (lN x)] (ag_at (dC, dI) agCl [(cI, .int), (cJ, .long)] sz [(a, .inr (1, [.int (nI G), .int (nI R), .ref qm, .ref qs, .ref qt, .int (nI ms.length), .long (lN nw), .long (lN en), .int (nI mo), .long (lN la), .long (lN go), .long (lN sp)])), (qm, .inl (cI, 320, .inl f)), (qs, .inl (cI, 320, .inl g)), (qt, .inr (0, [.ref qw])), (qw, .inl (cJ, 5, .inr (.inl w)))])) (va_Ql (fun (r : Int64) (_ : Unit) => r = lN (ag_cost G ms x)) (ag_to (dC, dI) agCl [(cI, .int), (cJ, .long)] (va_A [(a, .inr (1, [.int (nI G), .int (nI R), .ref qm, .ref qs, .ref qt, .int (nI ms.length), .long (lN nw), .long (lN en), .int (nI mo), .long (lN la), .long (lN go), .long (lN sp)])), (qm, .inl (cI, 320, .inl f)), (qs, .inl (cI, 320, .inl g)), (qt, .inr (0, [.ref qw])), (qw, .inl (cJ, 5, .inr (.inl w)))] sz) (fun _ : Unit => [(a, .inr (1, [.int (nI G), .int (nI R), .ref qm, .ref qs, .ref qt, .int (nI ms.length), .long (lN x), .long (lN en), .int (nI mo), .long (lN la), .long (lN go), .long (lN (sp + ag_cost G ms x))])), (qm, .inl (cI, 320, .inl f)), (qs, .inl (cI, 320, .inl g)), (qt, .inr (0, [.ref qw])), (qw, .inl (cJ, 5, .inr (.inl w)))])) (va_A [(a, .inr (1, [.int (nI G), .int (nI R), .ref qm, .ref qs, .ref qt, .int (nI ms.length), .long (lN nw), .long (lN en), .int (nI mo), .long (lN la), .long (lN go), .long (lN sp)])), (qm, .inl (cI, 320, .inl f)), (qs, .inl (cI, 320, .inl g)), (qt, .inr (0, [.ref qw])), (qw, .inl (cJ, 5, .inr (.inl w)))] sz)) 0 0 (va_A [(a, .inr (1, [.int (nI G), .int (nI R), .ref qm, .ref qs, .ref qt, .int (nI ms.length), .long (lN nw), .long (lN en), .int (nI mo), .long (lN la), .long (lN go), .long (lN sp)])), (qm, .inl (cI, 320, .inl f)), (qs, .inl (cI, 320, .inl g)), (qt, .inr (0, [.ref qw])), (qw, .inl (cJ, 5, .inr (.inl w)))] sz) := by
  refine ag_ofW (Qf := fun A => va_Ql (fun (r : Int64) (_ : Unit) => r = lN (ag_cost G ms x)) (ag_to (dC, dI) agCl [(cI, .int), (cJ, .long)] A (fun _ : Unit => [(a, .inr (1, [.int (nI G), .int (nI R), .ref qm, .ref qs, .ref qt, .int (nI ms.length), .long (lN x), .long (lN en), .int (nI mo), .long (lN la), .long (lN go), .long (lN (sp + ag_cost G ms x))])), (qm, .inl (cI, 320, .inl f)), (qs, .inl (cI, 320, .inl g)), (qt, .inr (0, [.ref qw])), (qw, .inl (cJ, 5, .inr (.inl w)))])) A) (cc := b_A_moveTo) (maxL := 5) (ret := (some .long)) (lv := [(0, .ref a), (1, .long (lN x))]) (by decide) rfl (Nat.le_of_ble_eq_true rfl) rfl (fun p e s m below meth c A ls hx hb hr hts hown hlocks hml hnm hA hS hP hK hD hl hsz => ?_)
  have hown : s.vm.findClass "AgedMarks" = some m.cls := hown
  have ht : ∀ w ∈ agW, w.before [.ref a, .long (lN x)].toArray s = true := fun w h => hts w (List.mem_cons_of_mem _ h)
  refine lv_aload_n hx hb d_A_moveTo_0 rfl (lv_at hl 0 rfl) ?_
  refine lv_lload_n hx hb d_A_moveTo_1 rfl (lv_at hl 1 rfl) ?_
  have hPc := hP.sub (ws' := [(a, .inr (1, [.int (nI G), .int (nI R), .ref qm, .ref qs, .ref qt, .int (nI ms.length), .long (lN nw), .long (lN en), .int (nI mo), .long (lN la), .long (lN go), .long (lN sp)])), (qm, .inl (cI, 320, .inl f)), (qs, .inl (cI, 320, .inl g)), (qt, .inr (0, [.ref qw])), (qw, .inl (cJ, 5, .inr (.inl w)))]) [0, 1, 2, 3, 4] rfl
  have hDc := hD.sub (ws' := [(a, .inr (1, [.int (nI G), .int (nI R), .ref qm, .ref qs, .ref qt, .int (nI ms.length), .long (lN nw), .long (lN en), .int (nI mo), .long (lN la), .long (lN go), .long (lN sp)])), (qm, .inl (cI, 320, .inl f)), (qs, .inl (cI, 320, .inl g)), (qt, .inr (0, [.ref qw])), (qw, .inl (cJ, 5, .inr (.inl w)))]) [0, 1, 2, 3, 4] (by decide) rfl
  refine ag_cll (wc := [(a, .inr (1, [.int (nI G), .int (nI R), .ref qm, .ref qs, .ref qt, .int (nI ms.length), .long (lN nw), .long (lN en), .int (nI mo), .long (lN la), .long (lN go), .long (lN sp)])), (qm, .inl (cI, 320, .inl f)), (qs, .inl (cI, 320, .inl g)), (qt, .inr (0, [.ref qw])), (qw, .inl (cJ, 5, .inr (.inl w)))]) (wr := []) (Wf := fun _ : Unit => [(a, .inr (1, [.int (nI G), .int (nI R), .ref qm, .ref qs, .ref qt, .int (nI ms.length), .long (lN nw), .long (lN en), .int (nI mo), .long (lN la), .long (lN go), .long (lN sp)])), (qm, .inl (cI, 320, .inl f)), (qs, .inl (cI, 320, .inl g)), (qt, .inr (0, [.ref qw])), (qw, .inl (cJ, 5, .inr (.inl w)))]) hP hD hS hA [0, 1, 2, 3, 4] [] rfl rfl (by decide) (by decide) (va_runV (C := "AgedMarks") (As := [.long (lN x)]) (rest := []) ⟨hx, hb, hml, hown, hts⟩ (c_A_costOf l dC dI s.heap.size a qm qs qt qw cI cJ G R nw en mo la go sp f g w ms x hG2 hx1 hbd h0 h00 hrep) (ag_cwV 1 hts mw_m_A_133 mw_instanceMethod_A_costOf mw_sel_A_costOf mw_ini_A mw_code_A_costOf rfl rfl (by decide +kernel) ⟨Nat.le_of_ble_eq_true rfl, Nat.le_of_ble_eq_true rfl⟩) ⟨ag_blind, va_recv hK hPc (ci := 1) (q0 := 0) rfl rfl, ag_pre hPc hK hDc⟩ rfl rfl hl.1 rfl (lv_room (Nat.le_of_ble_eq_true rfl)) d_A_moveTo_2 ⟨Nat.le_of_ble_eq_true rfl, Nat.le_of_ble_eq_true rfl⟩) (fun r1 u H locs hw hP hD hS => ?_)
  try dsimp only at hw
  subst hw
  have hP : va_P (dC, dI) agCl [(a, .inr (1, [.int (nI G), .int (nI R), .ref qm, .ref qs, .ref qt, .int (nI ms.length), .long (lN nw), .long (lN en), .int (nI mo), .long (lN la), .long (lN go), .long (lN sp)])), (qm, .inl (cI, 320, .inl f)), (qs, .inl (cI, 320, .inl g)), (qt, .inr (0, [.ref qw])), (qw, .inl (cJ, 5, .inr (.inl w)))] H := hP
  have hD : va_D A [(a, .inr (1, [.int (nI G), .int (nI R), .ref qm, .ref qs, .ref qt, .int (nI ms.length), .long (lN nw), .long (lN en), .int (nI mo), .long (lN la), .long (lN go), .long (lN sp)])), (qm, .inl (cI, 320, .inl f)), (qs, .inl (cI, 320, .inl g)), (qt, .inr (0, [.ref qw])), (qw, .inl (cJ, 5, .inr (.inl w)))] := hD
  refine lv_lstore_n (lv' := [(3, .long (lN (ag_cost G ms x))), (0, .ref a), (1, .long (lN x))]) hx hb d_A_moveTo_5 rfl hl (by decide) rfl (fun ls hl => ?_)
  refine lv_aload_n hx hb d_A_moveTo_6 rfl (lv_at hl 1 rfl) ?_
  refine lv_lload_n hx hb d_A_moveTo_7 rfl (lv_at hl 2 rfl) ?_
  refine va_put (D := (dC, dI)) (ci := 1) (v := .long (lN x)) (ty := .long) (C := RX1) (T := TX1) (N := 12) hx hb ht inA1 tyX1 tyX1_ok nmX1 hown hK hP hD hS 0 rfl rfl 6 (by decide) (ht _ mw_f_A_56) (fun _ h9 => h9) rfl (by decide +kernel) rfl rfl (Nat.le_of_ble_eq_true rfl) d_A_moveTo_8 (fun H locs hP hD hS => ?_)
  have hP : va_P (dC, dI) agCl [(a, .inr (1, [.int (nI G), .int (nI R), .ref qm, .ref qs, .ref qt, .int (nI ms.length), .long (lN x), .long (lN en), .int (nI mo), .long (lN la), .long (lN go), .long (lN sp)])), (qm, .inl (cI, 320, .inl f)), (qs, .inl (cI, 320, .inl g)), (qt, .inr (0, [.ref qw])), (qw, .inl (cJ, 5, .inr (.inl w)))] H := hP
  have hD : va_D A [(a, .inr (1, [.int (nI G), .int (nI R), .ref qm, .ref qs, .ref qt, .int (nI ms.length), .long (lN x), .long (lN en), .int (nI mo), .long (lN la), .long (lN go), .long (lN sp)])), (qm, .inl (cI, 320, .inl f)), (qs, .inl (cI, 320, .inl g)), (qt, .inr (0, [.ref qw])), (qw, .inl (cJ, 5, .inr (.inl w)))] := hD
  refine lv_aload_n hx hb d_A_moveTo_11 rfl (lv_at hl 1 rfl) ?_
  refine lv_dup hx hb d_A_moveTo_12 rfl ?_
  refine va_get (D := (dC, dI)) (ci := 1) (v := .long (lN sp)) (C := RX1) (T := TX1) (N := 12) hx hb ht inA1 hown hK hP 0 rfl rfl 11 (by decide) (ht _ mw_f_A_106) (fun _ h9 => h9) rfl d_A_moveTo_13 ?_
  refine lv_lload_n hx hb d_A_moveTo_16 rfl (lv_at hl 0 rfl) ?_
  refine lv_ladd hx hb d_A_moveTo_17 ?_
  refine ag_topl (lN (sp + (ag_cost G ms x))) (lN_add _ _) ?_
  refine va_put (D := (dC, dI)) (ci := 1) (v := .long (lN (sp + (ag_cost G ms x)))) (ty := .long) (C := RX1) (T := TX1) (N := 12) hx hb ht inA1 tyX1 tyX1_ok nmX1 hown hK hP hD hS 0 rfl rfl 11 (by decide) (ht _ mw_f_A_106) (fun _ h9 => h9) rfl (by decide +kernel) rfl rfl (Nat.le_of_ble_eq_true rfl) d_A_moveTo_18 (fun H locs hP hD hS => ?_)
  have hP : va_P (dC, dI) agCl [(a, .inr (1, [.int (nI G), .int (nI R), .ref qm, .ref qs, .ref qt, .int (nI ms.length), .long (lN x), .long (lN en), .int (nI mo), .long (lN la), .long (lN go), .long (lN (sp + (ag_cost G ms x)))])), (qm, .inl (cI, 320, .inl f)), (qs, .inl (cI, 320, .inl g)), (qt, .inr (0, [.ref qw])), (qw, .inl (cJ, 5, .inr (.inl w)))] H := hP
  have hD : va_D A [(a, .inr (1, [.int (nI G), .int (nI R), .ref qm, .ref qs, .ref qt, .int (nI ms.length), .long (lN x), .long (lN en), .int (nI mo), .long (lN la), .long (lN go), .long (lN (sp + (ag_cost G ms x)))])), (qm, .inl (cI, 320, .inl f)), (qs, .inl (cI, 320, .inl g)), (qt, .inr (0, [.ref qw])), (qw, .inl (cJ, 5, .inr (.inl w)))] := hD
  refine lv_lload_n hx hb d_A_moveTo_21 rfl (lv_at hl 0 rfl) ?_
  exact ag_retl hx hb hr hlocks () rfl hP hK hD hS d_A_moveTo_22

set_option maxHeartbeats 4000000 in
set_option maxRecDepth 100000 in
/-- holder(x) -/
theorem c_A_holder (l : Launch) (dC : Nat → ClassId) (dI : Nat → Nat → Nat) (sz : Nat) (a qm qs qt qw : Nat) (cI cJ : ClassId) (G R nw en mo la go sp : Nat) (f g : Nat → Int32) (w : Nat → Int64) (ms : ag_M) (x : Int32) (hbd : ag_bd ms) (hrep : ag_rep ms f g w) : Met l y_A_holder (Cond.code y_A_holder b_A_holder 3 (some .int) :: agW) ({ frames := 0, cells := 0, slots := 0, locals := 0 }) (va_Pc [.ref a, .int x] (ag_at (dC, dI) agCl [(cI, .int), (cJ, .long)] sz [(a, .inr (1, [.int (nI G), .int (nI R), .ref qm, .ref qs, .ref qt, .int (nI ms.length), .long (lN nw), .long (lN en), .int (nI mo), .long (lN la), .long (lN go), .long (lN sp)])), (qm, .inl (cI, 320, .inl f)), (qs, .inl (cI, 320, .inl g)), (qt, .inr (0, [.ref qw])), (qw, .inl (cJ, 5, .inr (.inl w)))])) (va_Qi (fun (r : Int32) (_ : Unit) => ag_hold ms x r) (ag_to (dC, dI) agCl [(cI, .int), (cJ, .long)] (va_A [(a, .inr (1, [.int (nI G), .int (nI R), .ref qm, .ref qs, .ref qt, .int (nI ms.length), .long (lN nw), .long (lN en), .int (nI mo), .long (lN la), .long (lN go), .long (lN sp)])), (qm, .inl (cI, 320, .inl f)), (qs, .inl (cI, 320, .inl g)), (qt, .inr (0, [.ref qw])), (qw, .inl (cJ, 5, .inr (.inl w)))] sz) (fun _ : Unit => [(a, .inr (1, [.int (nI G), .int (nI R), .ref qm, .ref qs, .ref qt, .int (nI ms.length), .long (lN nw), .long (lN en), .int (nI mo), .long (lN la), .long (lN go), .long (lN sp)])), (qm, .inl (cI, 320, .inl f)), (qs, .inl (cI, 320, .inl g)), (qt, .inr (0, [.ref qw])), (qw, .inl (cJ, 5, .inr (.inl w)))])) (va_A [(a, .inr (1, [.int (nI G), .int (nI R), .ref qm, .ref qs, .ref qt, .int (nI ms.length), .long (lN nw), .long (lN en), .int (nI mo), .long (lN la), .long (lN go), .long (lN sp)])), (qm, .inl (cI, 320, .inl f)), (qs, .inl (cI, 320, .inl g)), (qt, .inr (0, [.ref qw])), (qw, .inl (cJ, 5, .inr (.inl w)))] sz)) 0 0 (va_A [(a, .inr (1, [.int (nI G), .int (nI R), .ref qm, .ref qs, .ref qt, .int (nI ms.length), .long (lN nw), .long (lN en), .int (nI mo), .long (lN la), .long (lN go), .long (lN sp)])), (qm, .inl (cI, 320, .inl f)), (qs, .inl (cI, 320, .inl g)), (qt, .inr (0, [.ref qw])), (qw, .inl (cJ, 5, .inr (.inl w)))] sz) := by
  refine ag_ofW (Qf := fun A => va_Qi (fun (r : Int32) (_ : Unit) => ag_hold ms x r) (ag_to (dC, dI) agCl [(cI, .int), (cJ, .long)] A (fun _ : Unit => [(a, .inr (1, [.int (nI G), .int (nI R), .ref qm, .ref qs, .ref qt, .int (nI ms.length), .long (lN nw), .long (lN en), .int (nI mo), .long (lN la), .long (lN go), .long (lN sp)])), (qm, .inl (cI, 320, .inl f)), (qs, .inl (cI, 320, .inl g)), (qt, .inr (0, [.ref qw])), (qw, .inl (cJ, 5, .inr (.inl w)))])) A) (cc := b_A_holder) (maxL := 3) (ret := (some .int)) (lv := [(0, .ref a), (1, .int x)]) (by decide) rfl (Nat.le_of_ble_eq_true rfl) rfl (fun p e s m below meth c A ls hx hb hr hts hown hlocks hml hnm hA hS hP hK hD hl hsz => ?_)
  have hown : s.vm.findClass "AgedMarks" = some m.cls := hown
  have ht : ∀ w ∈ agW, w.before [.ref a, .int x].toArray s = true := fun w h => hts w (List.mem_cons_of_mem _ h)
  have hlen := hbd.1
  refine ag_iconst hx hb 0 d_A_holder_0 (by decide) ?_
  refine lv_istore_n (lv' := [(2, .int (nI 0)), (0, .ref a), (1, .int x)]) hx hb d_A_holder_1 rfl hl (by decide) rfl (fun ls hl => ?_)
  have loop : ∀ (n k : Nat), ms.length < k + n → k ≤ ms.length → (∀ j (hj : j < ms.length), j < k → nI (ms[j]).2 ≠ x) → ∀ ls : Array Slot, lv_has ls 3 [(2, .int (nI k)), (0, .ref a), (1, .int x)] → W p l e { frames := 0, cells := 0, slots := 0, locals := 0 } s m [.ref a, .int x].toArray below meth c s.heap [] 0 0 (MQ below (va_Qi (fun (r : Int32) (_ : Unit) => ag_hold ms x r) (ag_to (dC, dI) agCl [(cI, .int), (cJ, .long)] A (fun _ : Unit => [(a, .inr (1, [.int (nI G), .int (nI R), .ref qm, .ref qs, .ref qt, .int (nI ms.length), .long (lN nw), .long (lN en), .int (nI mo), .long (lN la), .long (lN go), .long (lN sp)])), (qm, .inl (cI, 320, .inl f)), (qs, .inl (cI, 320, .inl g)), (qt, .inr (0, [.ref qw])), (qw, .inl (cJ, 5, .inr (.inl w)))])) A) [.ref a, .int x].toArray s 0 0 A) (F0 m 2 ls []) := by
    intro n
    induction n with
    | zero => intro k h1 h2; omega
    | succ n ih =>
      intro k hn hk hno ls hl
      refine lv_iload_n hx hb d_A_holder_2 rfl (lv_at hl 0 rfl) ?_
      refine lv_aload_n hx hb d_A_holder_3 rfl (lv_at hl 1 rfl) ?_
      refine va_get (D := (dC, dI)) (ci := 1) (v := .int (nI ms.length)) (C := RX1) (T := TX1) (N := 12) hx hb ht inA1 hown hK hP 0 rfl rfl 5 (by decide) (ht _ mw_f_A_43) (fun _ h9 => h9) rfl d_A_holder_4 ?_
      refine ag_icmp_ge (tgt := 28) hx hb d_A_holder_7 (by decide) (by omega) (by omega) (fun c7 => ?_) (fun c7 => ?_)
      · have h_n := trivial
        refine lv_iconst (v := -1) hx hb d_A_holder_28 (by decide) ?_
        exact ag_reti hx hb hr hlocks () (Or.inr ⟨fun j hj => hno j hj (by omega), rfl⟩) hP hK hD hS d_A_holder_29
      · have h_n := trivial
        refine lv_aload_n hx hb d_A_holder_10 rfl (lv_at hl 1 rfl) ?_
        refine va_get (D := (dC, dI)) (ci := 1) (v := .ref qs) (C := RX1) (T := TX1) (N := 12) hx hb ht inA1 hown hK hP 0 rfl rfl 3 (by decide) (ht _ mw_f_A_13) (fun _ h9 => h9) rfl d_A_holder_11 ?_
        refine lv_iload_n hx hb d_A_holder_14 rfl (lv_at hl 0 rfl) ?_
        refine ag_iald hx hb hK hP 2 0 rfl rfl (by omega) (by decide) d_A_holder_15 ?_
        refine ag_topi (nI ((ms[k]).2)) ((hrep.1 k c7).2) ?_
        refine lv_iload_n hx hb d_A_holder_16 rfl (lv_at hl 2 rfl) ?_
        refine lv_icmp_ne (tgt := 22) hx hb d_A_holder_17 (by decide) (fun c17 => ?_) (fun c17 => ?_)
        · have h_n := trivial
          refine lv_iinc (v := nI (k + 1)) (lv' := [(2, .int (nI (k + 1))), (0, .ref a), (1, .int x)]) hx hb d_A_holder_22 hl (k := 0) rfl (nI_1 _) (by decide) rfl (fun ls hl => ?_)
          refine lv_goto (tgt := 2) hx hb d_A_holder_25 (by decide) ?_
          refine ih (k + 1) (by omega) (by omega) (fun j hj h => ?_) ls hl
          rcases Nat.lt_or_ge j k with q | q
          · exact hno j hj q
          · have e9 : j = k := by omega
            subst e9
            exact c17
        · have h_n := trivial
          refine lv_iload_n hx hb d_A_holder_20 rfl (lv_at hl 0 rfl) ?_
          exact ag_reti hx hb hr hlocks () (Or.inl ⟨k, c7, c17, hno, rfl⟩) hP hK hD hS d_A_holder_21
  exact loop (ms.length + 1) 0 (by omega) (by omega) (fun j hj h => by omega) ls hl
end
section
section AgCount
def ag_count (x : Int32) (nw en hd mo la go sp : Nat) : Int64 := if x = 0 then lN nw else if x = 1 then lN en else if x = 2 then lN hd else if x = 3 then lN mo else if x = 4 then lN la else if x = 5 then lN go else if x = 6 then lN sp else -1
theorem ag_small {x : Int32} {n : Int} (h : ¬ (x.toInt < 0 ∨ n < x.toInt)) : ∃ k : Nat, (k : Int) ≤ n ∧ x = nI k := by
  have h1 : ¬ x < 0 := fun q => h (Or.inl (by have := Int32.lt_iff_toInt_lt.mp q; simpa using this))
  obtain ⟨k, hk, rfl⟩ := nI_of h1
  refine ⟨k, ?_, rfl⟩
  rw [nI_toInt hk] at h
  omega
end AgCount

set_option maxHeartbeats 4000000 in
set_option maxRecDepth 100000 in
/-- count(x) -/
theorem c_A_count (l : Launch) (dC : Nat → ClassId) (dI : Nat → Nat → Nat) (sz : Nat) (a qm qs qt qw : Nat) (cI cJ : ClassId) (G R nw en mo la go sp : Nat) (f g : Nat → Int32) (w : Nat → Int64) (ms : ag_M) (x : Int32) (hmo : mo ≤ 300) (hbd : ag_bd ms) : Met l y_A_count (Cond.code y_A_count b_A_count 2 (some .long) :: agW) ({ frames := 0, cells := 0, slots := 0, locals := 0 }) (va_Pc [.ref a, .int x] (ag_at (dC, dI) agCl [(cI, .int), (cJ, .long)] sz [(a, .inr (1, [.int (nI G), .int (nI R), .ref qm, .ref qs, .ref qt, .int (nI ms.length), .long (lN nw), .long (lN en), .int (nI mo), .long (lN la), .long (lN go), .long (lN sp)])), (qm, .inl (cI, 320, .inl f)), (qs, .inl (cI, 320, .inl g)), (qt, .inr (0, [.ref qw])), (qw, .inl (cJ, 5, .inr (.inl w)))])) (va_Ql (fun (r : Int64) (_ : Unit) => r = ag_count x nw en ms.length mo la go sp) (ag_to (dC, dI) agCl [(cI, .int), (cJ, .long)] (va_A [(a, .inr (1, [.int (nI G), .int (nI R), .ref qm, .ref qs, .ref qt, .int (nI ms.length), .long (lN nw), .long (lN en), .int (nI mo), .long (lN la), .long (lN go), .long (lN sp)])), (qm, .inl (cI, 320, .inl f)), (qs, .inl (cI, 320, .inl g)), (qt, .inr (0, [.ref qw])), (qw, .inl (cJ, 5, .inr (.inl w)))] sz) (fun _ : Unit => [(a, .inr (1, [.int (nI G), .int (nI R), .ref qm, .ref qs, .ref qt, .int (nI ms.length), .long (lN nw), .long (lN en), .int (nI mo), .long (lN la), .long (lN go), .long (lN sp)])), (qm, .inl (cI, 320, .inl f)), (qs, .inl (cI, 320, .inl g)), (qt, .inr (0, [.ref qw])), (qw, .inl (cJ, 5, .inr (.inl w)))])) (va_A [(a, .inr (1, [.int (nI G), .int (nI R), .ref qm, .ref qs, .ref qt, .int (nI ms.length), .long (lN nw), .long (lN en), .int (nI mo), .long (lN la), .long (lN go), .long (lN sp)])), (qm, .inl (cI, 320, .inl f)), (qs, .inl (cI, 320, .inl g)), (qt, .inr (0, [.ref qw])), (qw, .inl (cJ, 5, .inr (.inl w)))] sz)) 0 0 (va_A [(a, .inr (1, [.int (nI G), .int (nI R), .ref qm, .ref qs, .ref qt, .int (nI ms.length), .long (lN nw), .long (lN en), .int (nI mo), .long (lN la), .long (lN go), .long (lN sp)])), (qm, .inl (cI, 320, .inl f)), (qs, .inl (cI, 320, .inl g)), (qt, .inr (0, [.ref qw])), (qw, .inl (cJ, 5, .inr (.inl w)))] sz) := by
  refine ag_ofW (Qf := fun A => va_Ql (fun (r : Int64) (_ : Unit) => r = ag_count x nw en ms.length mo la go sp) (ag_to (dC, dI) agCl [(cI, .int), (cJ, .long)] A (fun _ : Unit => [(a, .inr (1, [.int (nI G), .int (nI R), .ref qm, .ref qs, .ref qt, .int (nI ms.length), .long (lN nw), .long (lN en), .int (nI mo), .long (lN la), .long (lN go), .long (lN sp)])), (qm, .inl (cI, 320, .inl f)), (qs, .inl (cI, 320, .inl g)), (qt, .inr (0, [.ref qw])), (qw, .inl (cJ, 5, .inr (.inl w)))])) A) (cc := b_A_count) (maxL := 2) (ret := (some .long)) (lv := [(0, .ref a), (1, .int x)]) (by decide) rfl (Nat.le_of_ble_eq_true rfl) rfl (fun p e s m below meth c A ls hx hb hr hts hown hlocks hml hnm hA hS hP hK hD hl hsz => ?_)
  have hown : s.vm.findClass "AgedMarks" = some m.cls := hown
  have ht : ∀ w ∈ agW, w.before [.ref a, .int x].toArray s = true := fun w h => hts w (List.mem_cons_of_mem _ h)
  have hlen := hbd.1
  refine lv_iload_n hx hb d_A_count_0 rfl (lv_at hl 1 rfl) ?_
  by_cases hlo : x.toInt < 0 ∨ 6 < x.toInt
  · have h_n := trivial
    refine lv_tableOut (tgt := 81) hx hb d_A_count_1 hlo (by decide) ?_
    refine lv_ldc2 (v := -1) hx hb hown (ht _ mw_k_A_109) d_A_count_81 ?_
    exact ag_retl hx hb hr hlocks () (by rw [ag_count, if_neg (by rintro rfl; revert hlo; decide), if_neg (by rintro rfl; revert hlo; decide), if_neg (by rintro rfl; revert hlo; decide), if_neg (by rintro rfl; revert hlo; decide), if_neg (by rintro rfl; revert hlo; decide), if_neg (by rintro rfl; revert hlo; decide), if_neg (by rintro rfl; revert hlo; decide)]) hP hK hD hS d_A_count_84
  · have h_n := trivial
    obtain ⟨k, hk, rfl⟩ := ag_small hlo
    rcases (show k = 0 ∨ k = 1 ∨ k = 2 ∨ k = 3 ∨ k = 4 ∨ k = 5 ∨ k = 6 by omega) with rfl | rfl | rfl | rfl | rfl | rfl | rfl
    · have h_n := trivial
      refine lv_tableIn (off := 43) (tgt := 44) hx hb d_A_count_1 (by decide) (by decide) (by decide) (by decide) ?_
      refine lv_aload_n hx hb d_A_count_44 rfl (lv_at hl 0 rfl) ?_
      refine va_get (D := (dC, dI)) (ci := 1) (v := .long (lN nw)) (C := RX1) (T := TX1) (N := 12) hx hb ht inA1 hown hK hP 0 rfl rfl 6 (by decide) (ht _ mw_f_A_56) (fun _ h9 => h9) rfl d_A_count_45 ?_
      exact ag_retl hx hb hr hlocks () rfl hP hK hD hS d_A_count_48
    · have h_n := trivial
      refine lv_tableIn (off := 48) (tgt := 49) hx hb d_A_count_1 (by decide) (by decide) (by decide) (by decide) ?_
      refine lv_aload_n hx hb d_A_count_49 rfl (lv_at hl 0 rfl) ?_
      refine va_get (D := (dC, dI)) (ci := 1) (v := .long (lN en)) (C := RX1) (T := TX1) (N := 12) hx hb ht inA1 hown hK hP 0 rfl rfl 7 (by decide) (ht _ mw_f_A_67) (fun _ h9 => h9) rfl d_A_count_50 ?_
      exact ag_retl hx hb hr hlocks () rfl hP hK hD hS d_A_count_53
    · have h_n := trivial
      refine lv_tableIn (off := 53) (tgt := 54) hx hb d_A_count_1 (by decide) (by decide) (by decide) (by decide) ?_
      refine lv_aload_n hx hb d_A_count_54 rfl (lv_at hl 0 rfl) ?_
      refine va_get (D := (dC, dI)) (ci := 1) (v := .int (nI ms.length)) (C := RX1) (T := TX1) (N := 12) hx hb ht inA1 hown hK hP 0 rfl rfl 5 (by decide) (ht _ mw_f_A_43) (fun _ h9 => h9) rfl d_A_count_55 ?_
      refine lv_i2l (v := lN ms.length) hx hb d_A_count_58 (nI_l (by omega)) ?_
      exact ag_retl hx hb hr hlocks () rfl hP hK hD hS d_A_count_59
    · have h_n := trivial
      refine lv_tableIn (off := 59) (tgt := 60) hx hb d_A_count_1 (by decide) (by decide) (by decide) (by decide) ?_
      refine lv_aload_n hx hb d_A_count_60 rfl (lv_at hl 0 rfl) ?_
      refine va_get (D := (dC, dI)) (ci := 1) (v := .int (nI mo)) (C := RX1) (T := TX1) (N := 12) hx hb ht inA1 hown hK hP 0 rfl rfl 8 (by decide) (ht _ mw_f_A_46) (fun _ h9 => h9) rfl d_A_count_61 ?_
      refine lv_i2l (v := lN mo) hx hb d_A_count_64 (nI_l (by omega)) ?_
      exact ag_retl hx hb hr hlocks () rfl hP hK hD hS d_A_count_65
    · have h_n := trivial
      refine lv_tableIn (off := 65) (tgt := 66) hx hb d_A_count_1 (by decide) (by decide) (by decide) (by decide) ?_
      refine lv_aload_n hx hb d_A_count_66 rfl (lv_at hl 0 rfl) ?_
      refine va_get (D := (dC, dI)) (ci := 1) (v := .long (lN la)) (C := RX1) (T := TX1) (N := 12) hx hb ht inA1 hown hK hP 0 rfl rfl 9 (by decide) (ht _ mw_f_A_100) (fun _ h9 => h9) rfl d_A_count_67 ?_
      exact ag_retl hx hb hr hlocks () rfl hP hK hD hS d_A_count_70
    · have h_n := trivial
      refine lv_tableIn (off := 70) (tgt := 71) hx hb d_A_count_1 (by decide) (by decide) (by decide) (by decide) ?_
      refine lv_aload_n hx hb d_A_count_71 rfl (lv_at hl 0 rfl) ?_
      refine va_get (D := (dC, dI)) (ci := 1) (v := .long (lN go)) (C := RX1) (T := TX1) (N := 12) hx hb ht inA1 hown hK hP 0 rfl rfl 10 (by decide) (ht _ mw_f_A_103) (fun _ h9 => h9) rfl d_A_count_72 ?_
      exact ag_retl hx hb hr hlocks () rfl hP hK hD hS d_A_count_75
    · have h_n := trivial
      refine lv_tableIn (off := 75) (tgt := 76) hx hb d_A_count_1 (by decide) (by decide) (by decide) (by decide) ?_
      refine lv_aload_n hx hb d_A_count_76 rfl (lv_at hl 0 rfl) ?_
      refine va_get (D := (dC, dI)) (ci := 1) (v := .long (lN sp)) (C := RX1) (T := TX1) (N := 12) hx hb ht inA1 hown hK hP 0 rfl rfl 11 (by decide) (ht _ mw_f_A_106) (fun _ h9 => h9) rfl d_A_count_77 ?_
      exact ag_retl hx hb hr hlocks () rfl hP hK hD hS d_A_count_80

set_option maxHeartbeats 4000000 in
set_option maxRecDepth 100000 in
/-- cut(): the marks behind now go -/
theorem c_A_cut (l : Launch) (dC : Nat → ClassId) (dI : Nat → Nat → Nat) (sz : Nat) (a qm qs qt qw : Nat) (cI cJ : ClassId) (G R nw en mo la go sp : Nat) (f g : Nat → Int32) (w : Nat → Int64) (ms : ag_M) (hG2 : G ≤ 1000) (hnw : nw ≤ 1000000000) (hso : ms.Pairwise (fun x y => x.1 < y.1)) (hbd : ag_bd ms) (hn : (ms.map (·.2)).Nodup) (h0 : 0 < ms.length) (h00 : (ms[0]).1 = 0) (hrep : ag_rep ms f g w) : Met l y_A_cut (Cond.code y_A_cut b_A_cut 3 (some .int) :: agW) ({ frames := 2, cells := 0, slots := 0, locals := 70 }) (va_Pc [.ref a] (ag_at (dC, dI) agCl [(cI, .int), (cJ, .long)] sz [(a, .inr (1, [.int (nI G), .int (nI R), .ref qm, .ref qs, .ref qt, .int (nI ms.length), .long (lN nw), .long (lN en), .int (nI mo), .long (lN la), .long (lN go), .long (lN sp)])), (qm, .inl (cI, 320, .inl f)), (qs, .inl (cI, 320, .inl g)), (qt, .inr (0, [.ref qw])), (qw, .inl (cJ, 5, .inr (.inl w)))])) (va_Qi (fun (r : Int32) (u : ag_M × (Nat → Int32) × (Nat → Int32) × (Nat → Int64)) => u.1 = ag_cutm G nw ms ∧ r = nI (ms.length - u.1.length) ∧ ag_rep u.1 u.2.1 u.2.2.1 u.2.2.2) (ag_to (dC, dI) agCl [(cI, .int), (cJ, .long)] (va_A [(a, .inr (1, [.int (nI G), .int (nI R), .ref qm, .ref qs, .ref qt, .int (nI ms.length), .long (lN nw), .long (lN en), .int (nI mo), .long (lN la), .long (lN go), .long (lN sp)])), (qm, .inl (cI, 320, .inl f)), (qs, .inl (cI, 320, .inl g)), (qt, .inr (0, [.ref qw])), (qw, .inl (cJ, 5, .inr (.inl w)))] sz) (fun u : ag_M × (Nat → Int32) × (Nat → Int32) × (Nat → Int64) => [(a, .inr (1, [.int (nI G), .int (nI R), .ref qm, .ref qs, .ref qt, .int (nI u.1.length), .long (lN nw), .long (lN nw), .int (nI mo), .long (lN la), .long (lN (go + (ms.length - u.1.length))), .long (lN sp)])), (qm, .inl (cI, 320, .inl u.2.1)), (qs, .inl (cI, 320, .inl u.2.2.1)), (qt, .inr (0, [.ref qw])), (qw, .inl (cJ, 5, .inr (.inl u.2.2.2)))])) (va_A [(a, .inr (1, [.int (nI G), .int (nI R), .ref qm, .ref qs, .ref qt, .int (nI ms.length), .long (lN nw), .long (lN en), .int (nI mo), .long (lN la), .long (lN go), .long (lN sp)])), (qm, .inl (cI, 320, .inl f)), (qs, .inl (cI, 320, .inl g)), (qt, .inr (0, [.ref qw])), (qw, .inl (cJ, 5, .inr (.inl w)))] sz)) 0 0 (va_A [(a, .inr (1, [.int (nI G), .int (nI R), .ref qm, .ref qs, .ref qt, .int (nI ms.length), .long (lN nw), .long (lN en), .int (nI mo), .long (lN la), .long (lN go), .long (lN sp)])), (qm, .inl (cI, 320, .inl f)), (qs, .inl (cI, 320, .inl g)), (qt, .inr (0, [.ref qw])), (qw, .inl (cJ, 5, .inr (.inl w)))] sz) := by
  refine ag_ofW (Qf := fun A => va_Qi (fun (r : Int32) (u : ag_M × (Nat → Int32) × (Nat → Int32) × (Nat → Int64)) => u.1 = ag_cutm G nw ms ∧ r = nI (ms.length - u.1.length) ∧ ag_rep u.1 u.2.1 u.2.2.1 u.2.2.2) (ag_to (dC, dI) agCl [(cI, .int), (cJ, .long)] A (fun u : ag_M × (Nat → Int32) × (Nat → Int32) × (Nat → Int64) => [(a, .inr (1, [.int (nI G), .int (nI R), .ref qm, .ref qs, .ref qt, .int (nI u.1.length), .long (lN nw), .long (lN nw), .int (nI mo), .long (lN la), .long (lN (go + (ms.length - u.1.length))), .long (lN sp)])), (qm, .inl (cI, 320, .inl u.2.1)), (qs, .inl (cI, 320, .inl u.2.2.1)), (qt, .inr (0, [.ref qw])), (qw, .inl (cJ, 5, .inr (.inl u.2.2.2)))])) A) (cc := b_A_cut) (maxL := 3) (ret := (some .int)) (lv := [(0, .ref a)]) (by decide) rfl (Nat.le_of_ble_eq_true rfl) rfl (fun p e s m below meth c A ls hx hb hr hts hown hlocks hml hnm hA hS hP hK hD hl hsz => ?_)
  have hown : s.vm.findClass "AgedMarks" = some m.cls := hown
  have ht : ∀ w ∈ agW, w.before [.ref a].toArray s = true := fun w h => hts w (List.mem_cons_of_mem _ h)
  have hlen := hbd.1
  have hmul : ∀ j (hj : j < ms.length), (ms[j]).1 * G ≤ 1000000000 := fun j hj => Nat.le_trans (Nat.mul_le_mul (hbd.2 _ (List.getElem_mem hj)).1 hG2) (by decide)
  refine lv_aload_n hx hb d_A_cut_0 rfl (lv_at hl 0 rfl) ?_
  refine va_get (D := (dC, dI)) (ci := 1) (v := .int (nI ms.length)) (C := RX1) (T := TX1) (N := 12) hx hb ht inA1 hown hK hP 0 rfl rfl 5 (by decide) (ht _ mw_f_A_43) (fun _ h9 => h9) rfl d_A_cut_1 ?_
  refine lv_istore_n (lv' := [(1, .int (nI ms.length)), (0, .ref a)]) hx hb d_A_cut_4 rfl hl (by decide) rfl (fun ls hl => ?_)
  refine lv_aload_n hx hb d_A_cut_5 rfl (lv_at hl 1 rfl) ?_
  refine lv_aload_n hx hb d_A_cut_6 rfl (lv_at hl 1 rfl) ?_
  refine va_get (D := (dC, dI)) (ci := 1) (v := .long (lN nw)) (C := RX1) (T := TX1) (N := 12) hx hb ht inA1 hown hK hP 0 rfl rfl 6 (by decide) (ht _ mw_f_A_56) (fun _ h9 => h9) rfl d_A_cut_7 ?_
  refine va_put (D := (dC, dI)) (ci := 1) (v := .long (lN nw)) (ty := .long) (C := RX1) (T := TX1) (N := 12) hx hb ht inA1 tyX1 tyX1_ok nmX1 hown hK hP hD hS 0 rfl rfl 7 (by decide) (ht _ mw_f_A_67) (fun _ h9 => h9) rfl (by decide +kernel) rfl rfl (Nat.le_of_ble_eq_true rfl) d_A_cut_10 (fun H locs hP hD hS => ?_)
  have hP : va_P (dC, dI) agCl [(a, .inr (1, [.int (nI G), .int (nI R), .ref qm, .ref qs, .ref qt, .int (nI ms.length), .long (lN nw), .long (lN nw), .int (nI mo), .long (lN la), .long (lN go), .long (lN sp)])), (qm, .inl (cI, 320, .inl f)), (qs, .inl (cI, 320, .inl g)), (qt, .inr (0, [.ref qw])), (qw, .inl (cJ, 5, .inr (.inl w)))] H := hP
  have hD : va_D A [(a, .inr (1, [.int (nI G), .int (nI R), .ref qm, .ref qs, .ref qt, .int (nI ms.length), .long (lN nw), .long (lN nw), .int (nI mo), .long (lN la), .long (lN go), .long (lN sp)])), (qm, .inl (cI, 320, .inl f)), (qs, .inl (cI, 320, .inl g)), (qt, .inr (0, [.ref qw])), (qw, .inl (cJ, 5, .inr (.inl w)))] := hD
  refine lv_aload_n hx hb d_A_cut_13 rfl (lv_at hl 1 rfl) ?_
  refine va_get (D := (dC, dI)) (ci := 1) (v := .int (nI ms.length)) (C := RX1) (T := TX1) (N := 12) hx hb ht inA1 hown hK hP 0 rfl rfl 5 (by decide) (ht _ mw_f_A_43) (fun _ h9 => h9) rfl d_A_cut_14 ?_
  refine ag_iconst hx hb 1 d_A_cut_17 (by decide) ?_
  refine lv_isub hx hb d_A_cut_18 ?_
  refine ag_topi (nI (ms.length - 1)) (pk_sub (by omega)) ?_
  refine lv_istore_n (lv' := [(2, .int (nI (ms.length - 1))), (1, .int (nI ms.length)), (0, .ref a)]) hx hb d_A_cut_19 rfl hl (by decide) rfl (fun ls hl => ?_)
  have loop : ∀ (k : Nat) (hk : k < ms.length), (∀ j (hj : j < ms.length), k < j → nw < (ms[j]).1 * G) → ∀ (f1 g1 : Nat → Int32) (w1 : Nat → Int64), ag_rep (ms.take (k + 1)) f1 g1 w1 → ∀ (H : Heap) (locs : List Loc), va_P (dC, dI) agCl [(a, .inr (1, [.int (nI G), .int (nI R), .ref qm, .ref qs, .ref qt, .int (nI (k + 1)), .long (lN nw), .long (lN nw), .int (nI mo), .long (lN la), .long (lN (go + (ms.length - (k + 1)))), .long (lN sp)])), (qm, .inl (cI, 320, .inl f1)), (qs, .inl (cI, 320, .inl g1)), (qt, .inr (0, [.ref qw])), (qw, .inl (cJ, 5, .inr (.inl w1)))] H → va_D A [(a, .inr (1, [.int (nI G), .int (nI R), .ref qm, .ref qs, .ref qt, .int (nI (k + 1)), .long (lN nw), .long (lN nw), .int (nI mo), .long (lN la), .long (lN (go + (ms.length - (k + 1)))), .long (lN sp)])), (qm, .inl (cI, 320, .inl f1)), (qs, .inl (cI, 320, .inl g1)), (qt, .inr (0, [.ref qw])), (qw, .inl (cJ, 5, .inr (.inl w1)))] → va_S A s.heap H locs → ∀ ls : Array Slot, lv_has ls 3 [(2, .int (nI k)), (1, .int (nI ms.length)), (0, .ref a)] → W p l e { frames := 2, cells := 0, slots := 0, locals := 70 } s m [.ref a].toArray below meth c H locs 0 0 (MQ below (va_Qi (fun (r : Int32) (u : ag_M × (Nat → Int32) × (Nat → Int32) × (Nat → Int64)) => u.1 = ag_cutm G nw ms ∧ r = nI (ms.length - u.1.length) ∧ ag_rep u.1 u.2.1 u.2.2.1 u.2.2.2) (ag_to (dC, dI) agCl [(cI, .int), (cJ, .long)] A (fun u : ag_M × (Nat → Int32) × (Nat → Int32) × (Nat → Int64) => [(a, .inr (1, [.int (nI G), .int (nI R), .ref qm, .ref qs, .ref qt, .int (nI u.1.length), .long (lN nw), .long (lN nw), .int (nI mo), .long (lN la), .long (lN (go + (ms.length - u.1.length))), .long (lN sp)])), (qm, .inl (cI, 320, .inl u.2.1)), (qs, .inl (cI, 320, .inl u.2.2.1)), (qt, .inr (0, [.ref qw])), (qw, .inl (cJ, 5, .inr (.inl u.2.2.2)))])) A) [.ref a].toArray s 0 0 A) (F0 m 20 ls []) := by
    intro k
    induction k with
    | zero =>
      intro hk hgt f1 g1 w1 hrep1 H locs hP hD hS ls hl
      refine lv_iload_n hx hb d_A_cut_20 rfl (lv_at hl 0 rfl) ?_
      refine ag_if_le (tgt := 48) hx hb d_A_cut_21 (by decide) (by omega) (fun c21 => ?_) (fun c21 => ?_)
      · have h_n := trivial
        have hcut := ag_cut_take ms G nw 0 hso hk (by rw [h00]; omega) hgt
        refine lv_iload_n hx hb d_A_cut_48 rfl (lv_at hl 1 rfl) ?_
        refine lv_aload_n hx hb d_A_cut_49 rfl (lv_at hl 2 rfl) ?_
        refine va_get (D := (dC, dI)) (ci := 1) (v := .int (nI (0 + 1))) (C := RX1) (T := TX1) (N := 12) hx hb ht inA1 hown hK hP 0 rfl rfl 5 (by decide) (ht _ mw_f_A_43) (fun _ h9 => h9) rfl d_A_cut_50 ?_
        refine lv_isub hx hb d_A_cut_53 ?_
        refine ag_topi (nI (ms.length - (0 + 1))) (pk_sub (by omega)) ?_
        have hle : (ms.take (0 + 1)).length = 0 + 1 := by simp; omega
        rw [← hle] at hP hD
        refine ag_topi (nI (ms.length - (ms.take (0 + 1)).length)) (by rw [hle]) ?_
        exact ag_reti hx hb hr hlocks (ms.take (0 + 1), f1, g1, w1) (⟨hcut.symm, rfl, hrep1⟩) hP hK hD hS d_A_cut_54
      · have h_n := trivial
        exact absurd c21 (by omega)
    | succ i ih =>
      intro hk hgt f1 g1 w1 hrep1 H locs hP hD hS ls hl
      have hm := hmul (i + 1) hk
      have hbb := (hbd.2 _ (List.getElem_mem hk)).1
      have htl : (ms.take (i + 1 + 1)).length = i + 1 + 1 := by simp; omega
      have hki : i + 1 < (ms.take (i + 1 + 1)).length := by omega
      have hge : (ms.take (i + 1 + 1))[i + 1] = ms[i + 1] := by rw [List.getElem_take]
      have hbd1 : ag_bd (ms.take (i + 1 + 1)) := ⟨by omega, fun x hx => hbd.2 x (List.mem_of_mem_take hx)⟩
      have hn1 : ((ms.take (i + 1 + 1)).map (·.2)).Nodup := List.Pairwise.sublist ((List.take_sublist _ _).map _) hn
      refine lv_iload_n hx hb d_A_cut_20 rfl (lv_at hl 0 rfl) ?_
      refine ag_if_le (tgt := 48) hx hb d_A_cut_21 (by decide) (by omega) (fun c21 => ?_) (fun c21 => ?_)
      · have h_n := trivial
        exact absurd c21 (by omega)
      · have h_n := trivial
        refine lv_aload_n hx hb d_A_cut_24 rfl (lv_at hl 2 rfl) ?_
        refine lv_iload_n hx hb d_A_cut_25 rfl (lv_at hl 0 rfl) ?_
        have hPc := hP.sub (ws' := [(a, .inr (1, [.int (nI G), .int (nI R), .ref qm, .ref qs, .ref qt, .int (nI (i + 1 + 1)), .long (lN nw), .long (lN nw), .int (nI mo), .long (lN la), .long (lN (go + (ms.length - (i + 1 + 1)))), .long (lN sp)])), (qm, .inl (cI, 320, .inl f1)), (qs, .inl (cI, 320, .inl g1)), (qt, .inr (0, [.ref qw])), (qw, .inl (cJ, 5, .inr (.inl w1)))]) [0, 1, 2, 3, 4] rfl
        have hDc := hD.sub (ws' := [(a, .inr (1, [.int (nI G), .int (nI R), .ref qm, .ref qs, .ref qt, .int (nI (i + 1 + 1)), .long (lN nw), .long (lN nw), .int (nI mo), .long (lN la), .long (lN (go + (ms.length - (i + 1 + 1)))), .long (lN sp)])), (qm, .inl (cI, 320, .inl f1)), (qs, .inl (cI, 320, .inl g1)), (qt, .inr (0, [.ref qw])), (qw, .inl (cJ, 5, .inr (.inl w1)))]) [0, 1, 2, 3, 4] (by decide) rfl
        refine ag_cll (wc := [(a, .inr (1, [.int (nI G), .int (nI R), .ref qm, .ref qs, .ref qt, .int (nI (i + 1 + 1)), .long (lN nw), .long (lN nw), .int (nI mo), .long (lN la), .long (lN (go + (ms.length - (i + 1 + 1)))), .long (lN sp)])), (qm, .inl (cI, 320, .inl f1)), (qs, .inl (cI, 320, .inl g1)), (qt, .inr (0, [.ref qw])), (qw, .inl (cJ, 5, .inr (.inl w1)))]) (wr := []) (Wf := fun _ : Unit => [(a, .inr (1, [.int (nI G), .int (nI R), .ref qm, .ref qs, .ref qt, .int (nI (i + 1 + 1)), .long (lN nw), .long (lN nw), .int (nI mo), .long (lN la), .long (lN (go + (ms.length - (i + 1 + 1)))), .long (lN sp)])), (qm, .inl (cI, 320, .inl f1)), (qs, .inl (cI, 320, .inl g1)), (qt, .inr (0, [.ref qw])), (qw, .inl (cJ, 5, .inr (.inl w1)))]) hP hD hS hA [0, 1, 2, 3, 4] [] rfl rfl (by decide) (by decide) (va_runV (C := "AgedMarks") (As := [.int (nI (i + 1))]) (rest := []) ⟨hx, hb, hml, hown, hts⟩ (c_A_countAt l dC dI H.size a qm qs qt qw cI cJ G R (i + 1 + 1) nw nw mo la (go + (ms.length - (i + 1 + 1))) sp f1 g1 w1 (i + 1) (ms[i + 1]).1 (by omega) (by omega) hG2 (by rw [(hrep1.1 (i + 1) hki).1, hge])) (ag_cwV 1 hts mw_m_A_82 mw_instanceMethod_A_countAt mw_sel_A_countAt mw_ini_A mw_code_A_countAt rfl rfl (by decide +kernel) ⟨Nat.le_of_ble_eq_true rfl, Nat.le_of_ble_eq_true rfl⟩) ⟨ag_blind, va_recv hK hPc (ci := 1) (q0 := 0) rfl rfl, ag_pre hPc hK hDc⟩ rfl rfl hl.1 rfl (lv_room (Nat.le_of_ble_eq_true rfl)) d_A_cut_26 ⟨Nat.le_of_ble_eq_true rfl, Nat.le_of_ble_eq_true rfl⟩) (fun r1 u H locs hw hP hD hS => ?_)
        try dsimp only at hw
        subst hw
        have hP : va_P (dC, dI) agCl [(a, .inr (1, [.int (nI G), .int (nI R), .ref qm, .ref qs, .ref qt, .int (nI (i + 1 + 1)), .long (lN nw), .long (lN nw), .int (nI mo), .long (lN la), .long (lN (go + (ms.length - (i + 1 + 1)))), .long (lN sp)])), (qm, .inl (cI, 320, .inl f1)), (qs, .inl (cI, 320, .inl g1)), (qt, .inr (0, [.ref qw])), (qw, .inl (cJ, 5, .inr (.inl w1)))] H := hP
        have hD : va_D A [(a, .inr (1, [.int (nI G), .int (nI R), .ref qm, .ref qs, .ref qt, .int (nI (i + 1 + 1)), .long (lN nw), .long (lN nw), .int (nI mo), .long (lN la), .long (lN (go + (ms.length - (i + 1 + 1)))), .long (lN sp)])), (qm, .inl (cI, 320, .inl f1)), (qs, .inl (cI, 320, .inl g1)), (qt, .inr (0, [.ref qw])), (qw, .inl (cJ, 5, .inr (.inl w1)))] := hD
        refine lv_aload_n hx hb d_A_cut_29 rfl (lv_at hl 2 rfl) ?_
        refine va_get (D := (dC, dI)) (ci := 1) (v := .long (lN nw)) (C := RX1) (T := TX1) (N := 12) hx hb ht inA1 hown hK hP 0 rfl rfl 7 (by decide) (ht _ mw_f_A_67) (fun _ h9 => h9) rfl d_A_cut_30 ?_
        refine ag_lc_le (tgt := 48) hx hb d_A_cut_33 d_A_cut_34 (by decide) (fun c33 => ?_) (fun c33 => ?_)
        · have h_n := trivial
          have hle1 := (pk_lLE (by omega) (by omega)).mp c33
          have hcut := ag_cut_take ms G nw (i + 1) hso hk hle1 hgt
          refine lv_iload_n hx hb d_A_cut_48 rfl (lv_at hl 1 rfl) ?_
          refine lv_aload_n hx hb d_A_cut_49 rfl (lv_at hl 2 rfl) ?_
          refine va_get (D := (dC, dI)) (ci := 1) (v := .int (nI (i + 1 + 1))) (C := RX1) (T := TX1) (N := 12) hx hb ht inA1 hown hK hP 0 rfl rfl 5 (by decide) (ht _ mw_f_A_43) (fun _ h9 => h9) rfl d_A_cut_50 ?_
          refine lv_isub hx hb d_A_cut_53 ?_
          refine ag_topi (nI (ms.length - (i + 1 + 1))) (pk_sub (by omega)) ?_
          have hle : (ms.take (i + 1 + 1)).length = i + 1 + 1 := by simp; omega
          rw [← hle] at hP hD
          refine ag_topi (nI (ms.length - (ms.take (i + 1 + 1)).length)) (by rw [hle]) ?_
          exact ag_reti hx hb hr hlocks (ms.take (i + 1 + 1), f1, g1, w1) (⟨hcut.symm, rfl, hrep1⟩) hP hK hD hS d_A_cut_54
        · have h_n := trivial
          have hgt1 : nw < (ms[i + 1]).1 * G := by have h9 := mt (pk_lLE (a := (ms[i + 1]).1 * G) (b := nw) (by omega) (by omega)).mpr c33; omega
          refine lv_aload_n hx hb d_A_cut_37 rfl (lv_at hl 2 rfl) ?_
          refine lv_iload_n hx hb d_A_cut_38 rfl (lv_at hl 0 rfl) ?_
          rw [← htl] at hP hD
          have hPc := hP.sub (ws' := [(a, .inr (1, [.int (nI G), .int (nI R), .ref qm, .ref qs, .ref qt, .int (nI ((ms.take (i + 1 + 1)).length)), .long (lN nw), .long (lN nw), .int (nI mo), .long (lN la), .long (lN (go + (ms.length - (ms.take (i + 1 + 1)).length))), .long (lN sp)])), (qm, .inl (cI, 320, .inl f1)), (qs, .inl (cI, 320, .inl g1)), (qt, .inr (0, [.ref qw])), (qw, .inl (cJ, 5, .inr (.inl w1)))]) [0, 1, 2, 3, 4] rfl
          have hDc := hD.sub (ws' := [(a, .inr (1, [.int (nI G), .int (nI R), .ref qm, .ref qs, .ref qt, .int (nI ((ms.take (i + 1 + 1)).length)), .long (lN nw), .long (lN nw), .int (nI mo), .long (lN la), .long (lN (go + (ms.length - (ms.take (i + 1 + 1)).length))), .long (lN sp)])), (qm, .inl (cI, 320, .inl f1)), (qs, .inl (cI, 320, .inl g1)), (qt, .inr (0, [.ref qw])), (qw, .inl (cJ, 5, .inr (.inl w1)))]) [0, 1, 2, 3, 4] (by decide) rfl
          refine ag_clv (wc := [(a, .inr (1, [.int (nI G), .int (nI R), .ref qm, .ref qs, .ref qt, .int (nI ((ms.take (i + 1 + 1)).length)), .long (lN nw), .long (lN nw), .int (nI mo), .long (lN la), .long (lN (go + (ms.length - (ms.take (i + 1 + 1)).length))), .long (lN sp)])), (qm, .inl (cI, 320, .inl f1)), (qs, .inl (cI, 320, .inl g1)), (qt, .inr (0, [.ref qw])), (qw, .inl (cJ, 5, .inr (.inl w1)))]) (wr := []) (Wf := fun u : (Nat → Int32) × (Nat → Int32) × (Nat → Int64) => [(a, .inr (1, [.int (nI G), .int (nI R), .ref qm, .ref qs, .ref qt, .int (nI ((ms.take (i + 1 + 1)).length - 1)), .long (lN nw), .long (lN nw), .int (nI mo), .long (lN la), .long (lN (go + (ms.length - (ms.take (i + 1 + 1)).length) + 1)), .long (lN sp)])), (qm, .inl (cI, 320, .inl u.1)), (qs, .inl (cI, 320, .inl u.2.1)), (qt, .inr (0, [.ref qw])), (qw, .inl (cJ, 5, .inr (.inl u.2.2)))]) hP hD hS hA [0, 1, 2, 3, 4] [] rfl rfl (by decide) (by decide) (va_runV (C := "AgedMarks") (As := [.int (nI (i + 1))]) (rest := []) ⟨hx, hb, hml, hown, hts⟩ (c_A_drop l dC dI H.size a qm qs qt qw cI cJ G R nw nw mo la (go + (ms.length - (ms.take (i + 1 + 1)).length)) sp f1 g1 w1 (ms.take (i + 1 + 1)) (i + 1) hki hbd1 hn1 hrep1) (ag_cwV 1 hts mw_m_A_86 mw_instanceMethod_A_drop mw_sel_A_drop mw_ini_A mw_code_A_drop rfl rfl (by decide +kernel) ⟨Nat.le_of_ble_eq_true rfl, Nat.le_of_ble_eq_true rfl⟩) ⟨ag_blind, va_recv hK hPc (ci := 1) (q0 := 0) rfl rfl, ag_pre hPc hK hDc⟩ rfl rfl hl.1 rfl (lv_room (Nat.le_of_ble_eq_true rfl)) d_A_cut_39 ⟨Nat.le_of_ble_eq_true rfl, Nat.le_of_ble_eq_true rfl⟩) (fun u H locs hw hP hD hS => ?_)
          obtain ⟨f2, g2, w2⟩ := u
          try dsimp only at hw
          have hP : va_P (dC, dI) agCl [(a, .inr (1, [.int (nI G), .int (nI R), .ref qm, .ref qs, .ref qt, .int (nI ((ms.take (i + 1 + 1)).length - 1)), .long (lN nw), .long (lN nw), .int (nI mo), .long (lN la), .long (lN (go + (ms.length - (ms.take (i + 1 + 1)).length) + 1)), .long (lN sp)])), (qm, .inl (cI, 320, .inl f2)), (qs, .inl (cI, 320, .inl g2)), (qt, .inr (0, [.ref qw])), (qw, .inl (cJ, 5, .inr (.inl w2)))] H := hP
          have hD : va_D A [(a, .inr (1, [.int (nI G), .int (nI R), .ref qm, .ref qs, .ref qt, .int (nI ((ms.take (i + 1 + 1)).length - 1)), .long (lN nw), .long (lN nw), .int (nI mo), .long (lN la), .long (lN (go + (ms.length - (ms.take (i + 1 + 1)).length) + 1)), .long (lN sp)])), (qm, .inl (cI, 320, .inl f2)), (qs, .inl (cI, 320, .inl g2)), (qt, .inr (0, [.ref qw])), (qw, .inl (cJ, 5, .inr (.inl w2)))] := hD
          rw [ag_take_erase hk] at hw
          have e1 : (ms.take (i + 1 + 1)).length - 1 = i + 1 := by omega
          have e2 : go + (ms.length - (ms.take (i + 1 + 1)).length) + 1 = go + (ms.length - (i + 1)) := by omega
          rw [e1, e2] at hP hD
          refine lv_iinc (v := nI i) (lv' := [(2, .int (nI i)), (1, .int (nI ms.length)), (0, .ref a)]) hx hb d_A_cut_42 hl (k := 0) rfl (pk_m1 i) (by decide) rfl (fun ls hl => ?_)
          refine lv_goto (tgt := 20) hx hb d_A_cut_45 (by decide) ?_
          refine ih (by omega) (fun j hj h => ?_) f2 g2 w2 hw H locs hP hD hS ls hl
          rcases Nat.lt_or_ge (i + 1) j with q | q
          · exact hgt j hj q
          · have e9 : j = i + 1 := by omega
            subst e9
            exact hgt1
  have e3 : ms.length - 1 + 1 = ms.length := by omega
  have e4 : go + (ms.length - (ms.length - 1 + 1)) = go := by omega
  refine loop (ms.length - 1) (by omega) (fun j hj h => by omega) f g w (by rw [List.take_of_length_le (by omega)]; exact hrep) H locs ?_ ?_ hS ls hl
  · rw [e4, e3]; exact hP
  · rw [e4, e3]; exact hD

set_option maxHeartbeats 4000000 in
set_option maxRecDepth 100000 in
/-- worst(): the greatest cost -/
theorem c_A_worst (l : Launch) (dC : Nat → ClassId) (dI : Nat → Nat → Nat) (sz : Nat) (a qm qs qt qw : Nat) (cI cJ : ClassId) (G R nw en mo la go sp : Nat) (f g : Nat → Int32) (w : Nat → Int64) (ms : ag_M) (hG : 1 ≤ G) (hG2 : G ≤ 1000) (hen : en ≤ 1000000000) (hle : ∀ x ∈ ms, x.1 * G ≤ en) (hso : ms.Pairwise (fun x y => x.1 < y.1)) (hbd : ag_bd ms) (h0 : 0 < ms.length) (hrep : ag_rep ms f g w) : Met l y_A_worst (Cond.code y_A_worst b_A_worst 4 (some .long) :: agW) ({ frames := 1, cells := 0, slots := 0, locals := 24 }) (va_Pc [.ref a] (ag_at (dC, dI) agCl [(cI, .int), (cJ, .long)] sz [(a, .inr (1, [.int (nI G), .int (nI R), .ref qm, .ref qs, .ref qt, .int (nI ms.length), .long (lN nw), .long (lN en), .int (nI mo), .long (lN la), .long (lN go), .long (lN sp)])), (qm, .inl (cI, 320, .inl f)), (qs, .inl (cI, 320, .inl g)), (qt, .inr (0, [.ref qw])), (qw, .inl (cJ, 5, .inr (.inl w)))])) (va_Ql (fun (r : Int64) (_ : Unit) => r = lN (ag_wst G en ms (ms.length - 1))) (ag_to (dC, dI) agCl [(cI, .int), (cJ, .long)] (va_A [(a, .inr (1, [.int (nI G), .int (nI R), .ref qm, .ref qs, .ref qt, .int (nI ms.length), .long (lN nw), .long (lN en), .int (nI mo), .long (lN la), .long (lN go), .long (lN sp)])), (qm, .inl (cI, 320, .inl f)), (qs, .inl (cI, 320, .inl g)), (qt, .inr (0, [.ref qw])), (qw, .inl (cJ, 5, .inr (.inl w)))] sz) (fun _ : Unit => [(a, .inr (1, [.int (nI G), .int (nI R), .ref qm, .ref qs, .ref qt, .int (nI ms.length), .long (lN nw), .long (lN en), .int (nI mo), .long (lN la), .long (lN go), .long (lN sp)])), (qm, .inl (cI, 320, .inl f)), (qs, .inl (cI, 320, .inl g)), (qt, .inr (0, [.ref qw])), (qw, .inl (cJ, 5, .inr (.inl w)))])) (va_A [(a, .inr (1, [.int (nI G), .int (nI R), .ref qm, .ref qs, .ref qt, .int (nI ms.length), .long (lN nw), .long (lN en), .int (nI mo), .long (lN la), .long (lN go), .long (lN sp)])), (qm, .inl (cI, 320, .inl f)), (qs, .inl (cI, 320, .inl g)), (qt, .inr (0, [.ref qw])), (qw, .inl (cJ, 5, .inr (.inl w)))] sz)) 0 0 (va_A [(a, .inr (1, [.int (nI G), .int (nI R), .ref qm, .ref qs, .ref qt, .int (nI ms.length), .long (lN nw), .long (lN en), .int (nI mo), .long (lN la), .long (lN go), .long (lN sp)])), (qm, .inl (cI, 320, .inl f)), (qs, .inl (cI, 320, .inl g)), (qt, .inr (0, [.ref qw])), (qw, .inl (cJ, 5, .inr (.inl w)))] sz) := by
  refine ag_ofW (Qf := fun A => va_Ql (fun (r : Int64) (_ : Unit) => r = lN (ag_wst G en ms (ms.length - 1))) (ag_to (dC, dI) agCl [(cI, .int), (cJ, .long)] A (fun _ : Unit => [(a, .inr (1, [.int (nI G), .int (nI R), .ref qm, .ref qs, .ref qt, .int (nI ms.length), .long (lN nw), .long (lN en), .int (nI mo), .long (lN la), .long (lN go), .long (lN sp)])), (qm, .inl (cI, 320, .inl f)), (qs, .inl (cI, 320, .inl g)), (qt, .inr (0, [.ref qw])), (qw, .inl (cJ, 5, .inr (.inl w)))])) A) (cc := b_A_worst) (maxL := 4) (ret := (some .long)) (lv := [(0, .ref a)]) (by decide) rfl (Nat.le_of_ble_eq_true rfl) rfl (fun p e s m below meth c A ls hx hb hr hts hown hlocks hml hnm hA hS hP hK hD hl hsz => ?_)
  have hown : s.vm.findClass "AgedMarks" = some m.cls := hown
  have ht : ∀ w ∈ agW, w.before [.ref a].toArray s = true := fun w h => hts w (List.mem_cons_of_mem _ h)
  have hlen := hbd.1
  have hnum : ∀ j, j < ms.length → ag_num ms j * G ≤ en ∧ ag_num ms j ≤ 1000000 ∧ f j = nI (ag_num ms j) := fun j hj => by rw [ag_num_eq hj]; exact ⟨hle _ (List.getElem_mem hj), (hbd.2 _ (List.getElem_mem hj)).1, (hrep.1 j hj).1⟩
  have hlt : ∀ j, j + 1 < ms.length → ag_num ms j * G + 1 ≤ ag_num ms (j + 1) * G := fun j hj => by
    rw [ag_num_eq hj, ag_num_eq (show j < ms.length by omega)]
    have h1 := List.pairwise_iff_getElem.mp hso j (j + 1) (by omega) hj (by omega)
    have h2 := Nat.mul_le_mul_right G (show (ms[j]).1 + 1 ≤ (ms[j + 1]).1 by omega)
    rw [Nat.add_mul] at h2
    omega
  have hl9 := hnum (ms.length - 1) (by omega)
  refine lv_aload_n hx hb d_A_worst_0 rfl (lv_at hl 0 rfl) ?_
  refine va_get (D := (dC, dI)) (ci := 1) (v := .long (lN en)) (C := RX1) (T := TX1) (N := 12) hx hb ht inA1 hown hK hP 0 rfl rfl 7 (by decide) (ht _ mw_f_A_67) (fun _ h9 => h9) rfl d_A_worst_1 ?_
  refine lv_aload_n hx hb d_A_worst_4 rfl (lv_at hl 0 rfl) ?_
  refine lv_aload_n hx hb d_A_worst_5 rfl (lv_at hl 0 rfl) ?_
  refine va_get (D := (dC, dI)) (ci := 1) (v := .int (nI ms.length)) (C := RX1) (T := TX1) (N := 12) hx hb ht inA1 hown hK hP 0 rfl rfl 5 (by decide) (ht _ mw_f_A_43) (fun _ h9 => h9) rfl d_A_worst_6 ?_
  refine ag_iconst hx hb 1 d_A_worst_9 (by decide) ?_
  refine lv_isub hx hb d_A_worst_10 ?_
  refine ag_topi (nI (ms.length - 1)) (pk_sub (by omega)) ?_
  have hPc := hP.sub (ws' := [(a, .inr (1, [.int (nI G), .int (nI R), .ref qm, .ref qs, .ref qt, .int (nI ms.length), .long (lN nw), .long (lN en), .int (nI mo), .long (lN la), .long (lN go), .long (lN sp)])), (qm, .inl (cI, 320, .inl f)), (qs, .inl (cI, 320, .inl g)), (qt, .inr (0, [.ref qw])), (qw, .inl (cJ, 5, .inr (.inl w)))]) [0, 1, 2, 3, 4] rfl
  have hDc := hD.sub (ws' := [(a, .inr (1, [.int (nI G), .int (nI R), .ref qm, .ref qs, .ref qt, .int (nI ms.length), .long (lN nw), .long (lN en), .int (nI mo), .long (lN la), .long (lN go), .long (lN sp)])), (qm, .inl (cI, 320, .inl f)), (qs, .inl (cI, 320, .inl g)), (qt, .inr (0, [.ref qw])), (qw, .inl (cJ, 5, .inr (.inl w)))]) [0, 1, 2, 3, 4] (by decide) rfl
  refine ag_cll (wc := [(a, .inr (1, [.int (nI G), .int (nI R), .ref qm, .ref qs, .ref qt, .int (nI ms.length), .long (lN nw), .long (lN en), .int (nI mo), .long (lN la), .long (lN go), .long (lN sp)])), (qm, .inl (cI, 320, .inl f)), (qs, .inl (cI, 320, .inl g)), (qt, .inr (0, [.ref qw])), (qw, .inl (cJ, 5, .inr (.inl w)))]) (wr := []) (Wf := fun _ : Unit => [(a, .inr (1, [.int (nI G), .int (nI R), .ref qm, .ref qs, .ref qt, .int (nI ms.length), .long (lN nw), .long (lN en), .int (nI mo), .long (lN la), .long (lN go), .long (lN sp)])), (qm, .inl (cI, 320, .inl f)), (qs, .inl (cI, 320, .inl g)), (qt, .inr (0, [.ref qw])), (qw, .inl (cJ, 5, .inr (.inl w)))]) hP hD hS hA [0, 1, 2, 3, 4] [] rfl rfl (by decide) (by decide) (va_runV (C := "AgedMarks") (As := [.int (nI (ms.length - 1))]) (rest := [.long (lN en)]) ⟨hx, hb, hml, hown, hts⟩ (c_A_countAt l dC dI s.heap.size a qm qs qt qw cI cJ G R ms.length nw en mo la go sp f g w (ms.length - 1) (ag_num ms (ms.length - 1)) (by omega) (by omega) hG2 hl9.2.2) (ag_cwV 1 hts mw_m_A_82 mw_instanceMethod_A_countAt mw_sel_A_countAt mw_ini_A mw_code_A_countAt rfl rfl (by decide +kernel) ⟨Nat.le_of_ble_eq_true rfl, Nat.le_of_ble_eq_true rfl⟩) ⟨ag_blind, va_recv hK hPc (ci := 1) (q0 := 0) rfl rfl, ag_pre hPc hK hDc⟩ rfl rfl hl.1 rfl (lv_room (Nat.le_of_ble_eq_true rfl)) d_A_worst_11 ⟨Nat.le_of_ble_eq_true rfl, Nat.le_of_ble_eq_true rfl⟩) (fun r1 u H locs hw hP hD hS => ?_)
  try dsimp only at hw
  subst hw
  have hP : va_P (dC, dI) agCl [(a, .inr (1, [.int (nI G), .int (nI R), .ref qm, .ref qs, .ref qt, .int (nI ms.length), .long (lN nw), .long (lN en), .int (nI mo), .long (lN la), .long (lN go), .long (lN sp)])), (qm, .inl (cI, 320, .inl f)), (qs, .inl (cI, 320, .inl g)), (qt, .inr (0, [.ref qw])), (qw, .inl (cJ, 5, .inr (.inl w)))] H := hP
  have hD : va_D A [(a, .inr (1, [.int (nI G), .int (nI R), .ref qm, .ref qs, .ref qt, .int (nI ms.length), .long (lN nw), .long (lN en), .int (nI mo), .long (lN la), .long (lN go), .long (lN sp)])), (qm, .inl (cI, 320, .inl f)), (qs, .inl (cI, 320, .inl g)), (qt, .inr (0, [.ref qw])), (qw, .inl (cJ, 5, .inr (.inl w)))] := hD
  refine lv_lsub hx hb d_A_worst_14 ?_
  refine ag_topl (lN (en - (ag_num ms (ms.length - 1) * G))) (lN_sub (by omega)) ?_
  refine lv_lstore_n (lv' := [(1, .long (lN (en - (ag_num ms (ms.length - 1) * G)))), (0, .ref a)]) hx hb d_A_worst_15 rfl hl (by decide) rfl (fun ls hl => ?_)
  refine ag_iconst hx hb 1 d_A_worst_16 (by decide) ?_
  refine lv_istore_n (lv' := [(3, .int (nI 1)), (1, .long (lN (en - (ag_num ms (ms.length - 1) * G)))), (0, .ref a)]) hx hb d_A_worst_17 rfl hl (by decide) rfl (fun ls hl => ?_)
  have hbnd : ∀ k, k < ms.length → ag_wst G en ms k ≤ en := by
    intro k
    induction k with
    | zero => intro _; exact Nat.sub_le _ _
    | succ i ih =>
      intro hi
      have h1 := ih (by omega)
      have h2 := (hnum (i + 1) hi).1
      exact Nat.max_le.mpr ⟨h1, by omega⟩
  have loop : ∀ (n k : Nat), ms.length < k + 1 + n → k + 1 ≤ ms.length → ∀ (H : Heap) (locs : List Loc), va_P (dC, dI) agCl [(a, .inr (1, [.int (nI G), .int (nI R), .ref qm, .ref qs, .ref qt, .int (nI ms.length), .long (lN nw), .long (lN en), .int (nI mo), .long (lN la), .long (lN go), .long (lN sp)])), (qm, .inl (cI, 320, .inl f)), (qs, .inl (cI, 320, .inl g)), (qt, .inr (0, [.ref qw])), (qw, .inl (cJ, 5, .inr (.inl w)))] H → va_D A [(a, .inr (1, [.int (nI G), .int (nI R), .ref qm, .ref qs, .ref qt, .int (nI ms.length), .long (lN nw), .long (lN en), .int (nI mo), .long (lN la), .long (lN go), .long (lN sp)])), (qm, .inl (cI, 320, .inl f)), (qs, .inl (cI, 320, .inl g)), (qt, .inr (0, [.ref qw])), (qw, .inl (cJ, 5, .inr (.inl w)))] → va_S A s.heap H locs → ∀ ls : Array Slot, lv_has ls 4 [(3, .int (nI (k + 1))), (1, .long (lN (ag_wst G en ms k))), (0, .ref a)] → W p l e { frames := 1, cells := 0, slots := 0, locals := 24 } s m [.ref a].toArray below meth c H locs 0 0 (MQ below (va_Ql (fun (r : Int64) (_ : Unit) => r = lN (ag_wst G en ms (ms.length - 1))) (ag_to (dC, dI) agCl [(cI, .int), (cJ, .long)] A (fun _ : Unit => [(a, .inr (1, [.int (nI G), .int (nI R), .ref qm, .ref qs, .ref qt, .int (nI ms.length), .long (lN nw), .long (lN en), .int (nI mo), .long (lN la), .long (lN go), .long (lN sp)])), (qm, .inl (cI, 320, .inl f)), (qs, .inl (cI, 320, .inl g)), (qt, .inr (0, [.ref qw])), (qw, .inl (cJ, 5, .inr (.inl w)))])) A) [.ref a].toArray s 0 0 A) (F0 m 18 ls []) := by
    intro n
    induction n with
    | zero => intro k h1 h2; omega
    | succ n ih =>
      intro k hn hk H locs hP hD hS ls hl
      refine lv_iload_n hx hb d_A_worst_18 rfl (lv_at hl 0 rfl) ?_
      refine lv_aload_n hx hb d_A_worst_19 rfl (lv_at hl 2 rfl) ?_
      refine va_get (D := (dC, dI)) (ci := 1) (v := .int (nI ms.length)) (C := RX1) (T := TX1) (N := 12) hx hb ht inA1 hown hK hP 0 rfl rfl 5 (by decide) (ht _ mw_f_A_43) (fun _ h9 => h9) rfl d_A_worst_20 ?_
      refine ag_icmp_ge (tgt := 52) hx hb d_A_worst_23 (by decide) (by omega) (by omega) (fun c23 => ?_) (fun c23 => ?_)
      · have h_n := trivial
        refine lv_lload_n hx hb d_A_worst_52 rfl (lv_at hl 1 rfl) ?_
        exact ag_retl hx hb hr hlocks () (by rw [show k = ms.length - 1 by omega]) hP hK hD hS d_A_worst_53
      · have h_n := trivial
        have hk1 := hnum (k + 1) c23
        have hk0 := hnum k (by omega)
        have hk2 := hlt k c23
        have hk3 := hbnd k (by omega)
        refine lv_lload_n hx hb d_A_worst_26 rfl (lv_at hl 1 rfl) ?_
        refine lv_aload_n hx hb d_A_worst_27 rfl (lv_at hl 2 rfl) ?_
        refine lv_iload_n hx hb d_A_worst_28 rfl (lv_at hl 0 rfl) ?_
        have hPc := hP.sub (ws' := [(a, .inr (1, [.int (nI G), .int (nI R), .ref qm, .ref qs, .ref qt, .int (nI ms.length), .long (lN nw), .long (lN en), .int (nI mo), .long (lN la), .long (lN go), .long (lN sp)])), (qm, .inl (cI, 320, .inl f)), (qs, .inl (cI, 320, .inl g)), (qt, .inr (0, [.ref qw])), (qw, .inl (cJ, 5, .inr (.inl w)))]) [0, 1, 2, 3, 4] rfl
        have hDc := hD.sub (ws' := [(a, .inr (1, [.int (nI G), .int (nI R), .ref qm, .ref qs, .ref qt, .int (nI ms.length), .long (lN nw), .long (lN en), .int (nI mo), .long (lN la), .long (lN go), .long (lN sp)])), (qm, .inl (cI, 320, .inl f)), (qs, .inl (cI, 320, .inl g)), (qt, .inr (0, [.ref qw])), (qw, .inl (cJ, 5, .inr (.inl w)))]) [0, 1, 2, 3, 4] (by decide) rfl
        refine ag_cll (wc := [(a, .inr (1, [.int (nI G), .int (nI R), .ref qm, .ref qs, .ref qt, .int (nI ms.length), .long (lN nw), .long (lN en), .int (nI mo), .long (lN la), .long (lN go), .long (lN sp)])), (qm, .inl (cI, 320, .inl f)), (qs, .inl (cI, 320, .inl g)), (qt, .inr (0, [.ref qw])), (qw, .inl (cJ, 5, .inr (.inl w)))]) (wr := []) (Wf := fun _ : Unit => [(a, .inr (1, [.int (nI G), .int (nI R), .ref qm, .ref qs, .ref qt, .int (nI ms.length), .long (lN nw), .long (lN en), .int (nI mo), .long (lN la), .long (lN go), .long (lN sp)])), (qm, .inl (cI, 320, .inl f)), (qs, .inl (cI, 320, .inl g)), (qt, .inr (0, [.ref qw])), (qw, .inl (cJ, 5, .inr (.inl w)))]) hP hD hS hA [0, 1, 2, 3, 4] [] rfl rfl (by decide) (by decide) (va_runV (C := "AgedMarks") (As := [.int (nI (k + 1))]) (rest := [.long (lN (ag_wst G en ms k))]) ⟨hx, hb, hml, hown, hts⟩ (c_A_countAt l dC dI H.size a qm qs qt qw cI cJ G R ms.length nw en mo la go sp f g w (k + 1) (ag_num ms (k + 1)) (by omega) (by omega) hG2 hk1.2.2) (ag_cwV 1 hts mw_m_A_82 mw_instanceMethod_A_countAt mw_sel_A_countAt mw_ini_A mw_code_A_countAt rfl rfl (by decide +kernel) ⟨Nat.le_of_ble_eq_true rfl, Nat.le_of_ble_eq_true rfl⟩) ⟨ag_blind, va_recv hK hPc (ci := 1) (q0 := 0) rfl rfl, ag_pre hPc hK hDc⟩ rfl rfl hl.1 rfl (lv_room (Nat.le_of_ble_eq_true rfl)) d_A_worst_29 ⟨Nat.le_of_ble_eq_true rfl, Nat.le_of_ble_eq_true rfl⟩) (fun r2 u H locs hw hP hD hS => ?_)
        try dsimp only at hw
        subst hw
        have hP : va_P (dC, dI) agCl [(a, .inr (1, [.int (nI G), .int (nI R), .ref qm, .ref qs, .ref qt, .int (nI ms.length), .long (lN nw), .long (lN en), .int (nI mo), .long (lN la), .long (lN go), .long (lN sp)])), (qm, .inl (cI, 320, .inl f)), (qs, .inl (cI, 320, .inl g)), (qt, .inr (0, [.ref qw])), (qw, .inl (cJ, 5, .inr (.inl w)))] H := hP
        have hD : va_D A [(a, .inr (1, [.int (nI G), .int (nI R), .ref qm, .ref qs, .ref qt, .int (nI ms.length), .long (lN nw), .long (lN en), .int (nI mo), .long (lN la), .long (lN go), .long (lN sp)])), (qm, .inl (cI, 320, .inl f)), (qs, .inl (cI, 320, .inl g)), (qt, .inr (0, [.ref qw])), (qw, .inl (cJ, 5, .inr (.inl w)))] := hD
        refine ag_lconst hx hb 1 d_A_worst_32 (by decide) ?_
        refine lv_lsub hx hb d_A_worst_33 ?_
        refine ag_topl (lN ((ag_num ms (k + 1) * G) - 1)) (lN_sub (by omega)) ?_
        refine lv_aload_n hx hb d_A_worst_34 rfl (lv_at hl 2 rfl) ?_
        refine lv_iload_n hx hb d_A_worst_35 rfl (lv_at hl 0 rfl) ?_
        refine ag_iconst hx hb 1 d_A_worst_36 (by decide) ?_
        refine lv_isub hx hb d_A_worst_37 ?_
        refine ag_topi (nI k) (nI_pred k) ?_
        have hPc := hP.sub (ws' := [(a, .inr (1, [.int (nI G), .int (nI R), .ref qm, .ref qs, .ref qt, .int (nI ms.length), .long (lN nw), .long (lN en), .int (nI mo), .long (lN la), .long (lN go), .long (lN sp)])), (qm, .inl (cI, 320, .inl f)), (qs, .inl (cI, 320, .inl g)), (qt, .inr (0, [.ref qw])), (qw, .inl (cJ, 5, .inr (.inl w)))]) [0, 1, 2, 3, 4] rfl
        have hDc := hD.sub (ws' := [(a, .inr (1, [.int (nI G), .int (nI R), .ref qm, .ref qs, .ref qt, .int (nI ms.length), .long (lN nw), .long (lN en), .int (nI mo), .long (lN la), .long (lN go), .long (lN sp)])), (qm, .inl (cI, 320, .inl f)), (qs, .inl (cI, 320, .inl g)), (qt, .inr (0, [.ref qw])), (qw, .inl (cJ, 5, .inr (.inl w)))]) [0, 1, 2, 3, 4] (by decide) rfl
        refine ag_cll (wc := [(a, .inr (1, [.int (nI G), .int (nI R), .ref qm, .ref qs, .ref qt, .int (nI ms.length), .long (lN nw), .long (lN en), .int (nI mo), .long (lN la), .long (lN go), .long (lN sp)])), (qm, .inl (cI, 320, .inl f)), (qs, .inl (cI, 320, .inl g)), (qt, .inr (0, [.ref qw])), (qw, .inl (cJ, 5, .inr (.inl w)))]) (wr := []) (Wf := fun _ : Unit => [(a, .inr (1, [.int (nI G), .int (nI R), .ref qm, .ref qs, .ref qt, .int (nI ms.length), .long (lN nw), .long (lN en), .int (nI mo), .long (lN la), .long (lN go), .long (lN sp)])), (qm, .inl (cI, 320, .inl f)), (qs, .inl (cI, 320, .inl g)), (qt, .inr (0, [.ref qw])), (qw, .inl (cJ, 5, .inr (.inl w)))]) hP hD hS hA [0, 1, 2, 3, 4] [] rfl rfl (by decide) (by decide) (va_runV (C := "AgedMarks") (As := [.int (nI k)]) (rest := [.long (lN ((ag_num ms (k + 1) * G) - 1)), .long (lN (ag_wst G en ms k))]) ⟨hx, hb, hml, hown, hts⟩ (c_A_countAt l dC dI H.size a qm qs qt qw cI cJ G R ms.length nw en mo la go sp f g w (k) (ag_num ms (k)) (by omega) (by omega) hG2 hk0.2.2) (ag_cwV 1 hts mw_m_A_82 mw_instanceMethod_A_countAt mw_sel_A_countAt mw_ini_A mw_code_A_countAt rfl rfl (by decide +kernel) ⟨Nat.le_of_ble_eq_true rfl, Nat.le_of_ble_eq_true rfl⟩) ⟨ag_blind, va_recv hK hPc (ci := 1) (q0 := 0) rfl rfl, ag_pre hPc hK hDc⟩ rfl rfl hl.1 rfl (lv_room (Nat.le_of_ble_eq_true rfl)) d_A_worst_38 ⟨Nat.le_of_ble_eq_true rfl, Nat.le_of_ble_eq_true rfl⟩) (fun r3 u H locs hw hP hD hS => ?_)
        try dsimp only at hw
        subst hw
        have hP : va_P (dC, dI) agCl [(a, .inr (1, [.int (nI G), .int (nI R), .ref qm, .ref qs, .ref qt, .int (nI ms.length), .long (lN nw), .long (lN en), .int (nI mo), .long (lN la), .long (lN go), .long (lN sp)])), (qm, .inl (cI, 320, .inl f)), (qs, .inl (cI, 320, .inl g)), (qt, .inr (0, [.ref qw])), (qw, .inl (cJ, 5, .inr (.inl w)))] H := hP
        have hD : va_D A [(a, .inr (1, [.int (nI G), .int (nI R), .ref qm, .ref qs, .ref qt, .int (nI ms.length), .long (lN nw), .long (lN en), .int (nI mo), .long (lN la), .long (lN go), .long (lN sp)])), (qm, .inl (cI, 320, .inl f)), (qs, .inl (cI, 320, .inl g)), (qt, .inr (0, [.ref qw])), (qw, .inl (cJ, 5, .inr (.inl w)))] := hD
        refine lv_lsub hx hb d_A_worst_41 ?_
        refine ag_topl (lN (((ag_num ms (k + 1) * G) - 1) - (ag_num ms k * G))) (lN_sub (by omega)) ?_
        refine va_mmax_long hx hb (hml.trans hl.1.symm) hown (ht _ mw_m_A_97) (ht _ mw_static_H_max_JJJ) (ht _ mw_ini_H) (ht _ mw_code_H_max_116) (Nat.le_of_ble_eq_true rfl) (Nat.le_of_ble_eq_true rfl) (Nat.le_of_ble_eq_true rfl) (Nat.le_of_ble_eq_true rfl) d_A_worst_42 ?_
        refine ag_topl (lN (ag_wst G en ms (k + 1))) (ag_lmax (by omega) (by omega)) ?_
        refine lv_lstore_n (lv' := [(1, .long (lN (ag_wst G en ms (k + 1)))), (3, .int (nI (k + 1))), (0, .ref a)]) hx hb d_A_worst_45 rfl hl (by decide) rfl (fun ls hl => ?_)
        refine lv_iinc (v := nI (k + 1 + 1)) (lv' := [(3, .int (nI (k + 1 + 1))), (1, .long (lN (ag_wst G en ms (k + 1)))), (0, .ref a)]) hx hb d_A_worst_46 hl (k := 1) rfl (nI_1 _) (by decide) rfl (fun ls hl => ?_)
        refine lv_goto (tgt := 18) hx hb d_A_worst_49 (by decide) ?_
        exact ih (k + 1) (by omega) (by omega) H locs hP hD hS ls hl
  exact loop ms.length 0 (by omega) (by omega) H locs hP hD hS ls hl
end
section
section AgExc
abbrev xIAE : String := "java/lang/IllegalArgumentException"
abbrev xISE : String := "java/lang/IllegalStateException"
abbrev xNSE : String := "java/util/NoSuchElementException"
abbrev xUp : List String := ["java/lang/RuntimeException", "java/lang/Exception"]
/-- words of the tables that are carried by hand -/
def agN : List Cond := [.castable xIAE xIAE, .castable xISE xISE, .castable xNSE xNSE, .declares ⟨"java/lang/RuntimeException", "<init>", "(Ljava/lang/String;)V"⟩, .declares ⟨"java/lang/Exception", "<init>", "(Ljava/lang/String;)V"⟩, .declares ⟨"java/lang/Throwable", "<init>", "(Ljava/lang/String;)V"⟩]
def ag_xw (U : State) : Prop := ∀ w ∈ agN, va_Nw w U
theorem ag_xw.warm {s U : State} (hW : s.WarmedH U.vm) (h : ag_xw s) : ag_xw U := fun w hw => by
  have h1 := h w hw
  simp only [agN, List.mem_cons, List.not_mem_nil, or_false] at hw
  rcases hw with rfl | rfl | rfl | rfl | rfl | rfl
  · exact va_Nw.warmC hW h1
  · exact va_Nw.warmC hW h1
  · exact va_Nw.warmC hW h1
  · exact va_Nw.warmD hW h1
  · exact va_Nw.warmD hW h1
  · exact va_Nw.warmD hW h1
def ag_xn (U : State) : Prop := va_Nc xISE xIAE U ∧ va_Nc xIAE xNSE U
def ag_xs (U : State) : Prop := (∃ q, vk_R "AgedMarks" 51 "a run is 0 to 4000 long" q U) ∧ (∃ q, vk_R "AgedMarks" 64 "the count would be above 1000000 gaps" q U) ∧ (∃ q, vk_R "AgedMarks" 74 "the count is not 0 to the end" q U) ∧ (∃ q, vk_R "AgedMarks" 80 "the way back is below 0" q U) ∧ (∃ q, vk_R "AgedMarks" 92 "there is no such mark" q U) ∧ ∃ q, vk_R "AgedMarks" 95 "what is not 0 to 2" q U
theorem ag_xs.warm {s U : State} (hW : s.WarmedH U.vm) (h : ag_xs s) : ag_xs U := by
  obtain ⟨⟨a, h1⟩, ⟨b, h2⟩, ⟨c, h3⟩, ⟨d, h4⟩, ⟨e, h5⟩, ⟨f, h6⟩⟩ := h
  exact ⟨⟨a, h1.warm hW⟩, ⟨b, h2.warm hW⟩, ⟨c, h3.warm hW⟩, ⟨d, h4.warm hW⟩, ⟨e, h5.warm hW⟩, ⟨f, h6.warm hW⟩⟩
/-- what a throw and its catch take of the state -/
def ag_x (A : Nat → Prop) (U : State) (H : Heap) : Prop := vx_Zq Bundle.tN "UNASSIGNED_STACK" Bundle.steD A U H ∧ vx_Zq Bundle.tN "SUPPRESSED_SENTINEL" Bundle.listD A U H ∧ ag_xw U ∧ ag_xn U ∧ ag_xs U
theorem ag_x.warm {A : Nat → Prop} {s U : State} {H : Heap} (hW : s.WarmedH U.vm) (h : ag_x A s H) : ag_x A U H := ⟨vx_Zq.moved hW.alike h.1, vx_Zq.moved hW.alike h.2.1, h.2.2.1.warm hW, ⟨va_Nc.moved hW.alike h.2.2.2.1.1, va_Nc.moved hW.alike h.2.2.2.1.2⟩, h.2.2.2.2.warm hW⟩
theorem ag_x.kept {A : Nat → Prop} {U : State} {H H1 : Heap} (h : ag_x A U H) (hq : ∀ a : Nat, a < H.size → ¬ A a → H1[a]? = H[a]?) : ag_x A U H1 := ⟨vx_Zq.kept h.1 hq, vx_Zq.kept h.2.1 hq, h.2.2⟩
theorem ag_x.narrow {A B : Nat → Prop} {U : State} {H : Heap} (h : ag_x A U H) (hAB : ∀ q, B q → A q) : ag_x B U H := ⟨vx_Zq.narrow h.1 hAB, vx_Zq.narrow h.2.1 hAB, h.2.2⟩
def ag_atx (D : va_G) (cl : List vw_C) (tys : List (ClassId × FieldType)) (sz : Nat) (ws : va_W) : State → Prop := fun U => ag_at D cl tys sz ws U ∧ ag_x (va_A ws sz) U U.heap
theorem ag_blindx {D : va_G} {cl : List vw_C} {tys : List (ClassId × FieldType)} {sz : Nat} {ws : va_W} {av : List Value} : FrameBlind (va_Pc av (ag_atx D cl tys sz ws)) := fun a U g mk q => by
  obtain ⟨q0, ⟨q1, qP, qK, qD⟩, qx⟩ := q
  exact ⟨q0, ⟨q1, qP, va_K.moved (u := U) (U := U.calling g mk a) (Vm.Alike.refl U.vm) qK, qD⟩, ag_x.warm (s := U) (U := U.calling g mk a) (State.WarmedH.refl U) qx⟩
theorem ag_prex {D : va_G} {cl : List vw_C} {tys : List (ClassId × FieldType)} {ws : va_W} {A : Nat → Prop} {s : State} {H : Heap} {av : List Value} (hP : va_P D cl ws H) (hK : va_K D cl tys s) (hD : va_D A ws) (hx : ag_x A s H) (hA : ∀ q, va_A ws H.size q → A q) : ∀ U : State, U.heap = H → s.WarmedH U.vm → va_Pc av (ag_atx D cl tys H.size ws) av.toArray U :=
  fun U hU hW => ⟨rfl, ⟨by rw [hU], by rw [hU]; exact hP, va_K.moved hW.alike hK, hD.weaken (fun _ _ _ _ => trivial)⟩, by rw [hU]; exact (hx.narrow hA).warm hW⟩
theorem ag_at_IAE : ∀ w ∈ vx_atS "AgedMarks" 53 xIAE xUp, w ∈ agW ∨ w ∈ agN := by decide +kernel
theorem ag_at_ISE : ∀ w ∈ vx_atS "AgedMarks" 66 xISE xUp, w ∈ agW ∨ w ∈ agN := by decide +kernel
theorem ag_ot_IAE : ∀ w ∈ Cond.classLink "AgedMarks" 49 xIAE :: Cond.initialized xIAE :: vx_atS "AgedMarks" 53 xIAE xUp, vx_ot w = true := by decide +kernel
theorem ag_ot_ISE : ∀ w ∈ Cond.classLink "AgedMarks" 62 xISE :: Cond.initialized xISE :: vx_atS "AgedMarks" 66 xISE xUp, vx_ot w = true := by decide +kernel
theorem ag_nok {w : Cond} (h : w ∈ agN) : w.onTables = true := by
  revert w
  decide +kernel
theorem ag_hatx {args : Array Value} {s : State} {L : List Cond} (h : ∀ w ∈ L, w ∈ agW ∨ w ∈ agN) (ht : ∀ w ∈ agW, w.before args s = true) (hx : ag_xw s) : ∀ w ∈ L, w.before args s = true := fun w hw => (h w hw).elim (ht w) (fun h1 => va_Nw.use (ag_nok h1) (hx w h1))
variable {p : Program} {l : Launch} {e : Env} {R : Room} {s : State} {m : MethodId} {args : Array Value} {below : List Frame} {meth : Method} {c : Code} {H : Heap} {locs : List Loc} {cells slots : Nat} {Q : State → Prop} {pc : Nat} {ls : Array Slot} {st0 rest : List Value} {D : va_G} {cl : List vw_C} {tys tysC : List (ClassId × FieldType)} {ws wc wr : va_W} {A A0 : Nat → Prop} {H0 : Heap} {mc ms : Nat} {a : Array Value}
theorem ag_ofX {y : MethodName} {ws0 ws' : List Cond} {rm : Room} {sz : Nat} {wsc : va_W} {av : List Value} {lv : List (Nat × Value)} {Qf : (Nat → Prop) → Array Value → State → Outcome → State → Prop} {Xf : (Nat → Prop) → String → State → State → Prop} {cc : ByteArray} {maxL : Nat} {ret : Option FieldType}
    (hy : plainName y.cls = true) (hw : ws0 = Cond.code y cc maxL ret :: ws') (hlen : (lg_sl av).length ≤ maxL) (hlv : lv_args 0 av = lv)
    (body : ∀ (p : Program) (e : Env) (s : State) (m : MethodId) (below : List Frame) (meth : Method) (c : Code) (A : Nat → Prop) (ls : Array Slot), p.tables.exec = Jvm.exec → c.code = cc → meth.sig.returnType = ret → (∀ w ∈ ws0, w.before av.toArray s = true) → s.vm.findClass y.cls = some m.cls → meth.locks = false → c.maxLocals = maxL → meth.name = y.name →
      (∀ q : Nat, s.heap.size ≤ q → A q) → va_S A s.heap s.heap [] → va_P D cl wsc s.heap → va_K D cl tys s → va_D A wsc → lv_has ls maxL lv → s.heap.size = sz → (∀ x ∈ c.exceptionTable.toList, False) → ag_x A s s.heap → W p l e rm s m av.toArray below meth c s.heap [] 0 0 (vx_MQ below (Qf A) (Xf A) av.toArray s mc ms A) (F0 m 0 ls [])) :
    vx_Met l y ws0 rm (va_Pc av (ag_atx D cl tys sz wsc)) (Qf (va_A wsc sz)) (Xf (va_A wsc sz)) mc ms (va_A wsc sz) := by
  refine vx_ofW (cc := cc) (maxL := maxL) (ret := ret) hy hw ?_
  intro p e s m args below meth c s₁ B hml hout hv
  obtain ⟨rfl, ⟨hsz, hP, hK, hD0⟩, hX⟩ := hv
  subst hsz
  have hl := lv_entry av (n := maxL) hlen
  rw [hlv] at hl
  rw [lg_entry_eq]
  exact body p e s m below meth c _ _ B.exec B.bytes B.returns (atoms_spec (ws := ws0) B.pre) (findClass_of_methodNamed B.named) B.notSynchronized hml (name_of_methodNamed B.named B.method).1 (fun q h => Or.inr h) va_S.rf hP hK (hD0.self (sz := s.heap.size)) hl rfl hout hX
theorem ag_thr {cc : ByteArray} {Qc : Array Value → State → Outcome → State → Prop} {cls text : String} {ik is ic sa : Nat} {PX : String → Prop} (hx : p.tables.exec = Jvm.exec) (hb : c.code = cc) (hl : l.stackTraces = false) (hown : s.vm.findClass "AgedMarks" = some m.cls) (hfit : Bundle.fit cls = true) (hk : Cond.classLink "AgedMarks" ik cls ∈ agW) (hini : Cond.initialized cls ∈ agW) (hstr : vk_R "AgedMarks" is text sa s)
    (hat : ∀ w ∈ vx_atS "AgedMarks" ic cls xUp, w ∈ agW ∨ w ∈ agN) (hot : ∀ w ∈ Cond.classLink "AgedMarks" ik cls :: Cond.initialized cls :: vx_atS "AgedMarks" ic cls xUp, vx_ot w = true) (ht : ∀ w ∈ agW, w.before args s = true) (hX : ag_x A s s.heap) (hS : va_S A s.heap s.heap []) (hsize : ls.size = c.maxLocals)
    (d0 : decode cc pc = .ok (.new ik, 3)) (d3 : decode cc (pc + 3) = .ok (.dup, 1)) (d4 : decode cc (pc + 4) = .ok (.ldc is, 2)) (d6 : decode cc (pc + 6) = .ok (.invokespecial ic, 3)) (d9 : decode cc (pc + 9) = .ok (.athrow, 1)) (hout : ∀ x ∈ c.exceptionTable.toList, False)
    (hRframes : 5 < R.frames) (hRlocals : (rest.map fun v => v.category).sum + 82 ≤ R.locals) (hRcells : 1 ≤ R.cells) (hRslots : 6 ≤ R.slots) (hlocks : meth.locks = false) (hpx : PX cls) (hP : va_P D cl ws s.heap) (hK : va_K D cl tys s) (hD : va_D A ws) (hmc : 1 ≤ mc) (hms : 6 ≤ ms) :
    W p l e R s m args below meth c s.heap [] 0 0 (vx_MQ below Qc (vx_X (fun _ : Unit => True) (fun E _ t => PX E ∧ ag_to D cl tys A (fun _ : Unit => ws) () t) A) args s mc ms A) (F0 m pc ls rest) :=
  vx_throwS hx hb hl hown hfit (by decide) (ht _ hk) (ht _ hini) hstr (ag_hatx hat ht hX.2.2.1) hot hX.1 hX.2.1 hS hsize d0 d3 d4 d6 d9 (fun x h => (hout x h).elim) hRframes hRlocals (by omega) (by omega) hlocks
    (fun t hvm hz hk => ⟨(), trivial, ⟨hpx, hP.kept (fun k q h => hk _ (hP k q h).lt), va_K.moved hvm hK, hD⟩, hz, fun q h1 _ => hk q h1⟩) hS.2.2 (by omega) (by omega)
theorem ag_xli {S : Type} {post : Int32 → S → Prop} {Wf : S → va_W} {PX : String → Prop} (hP : va_P D cl ws H) (hD : va_D A0 ws) (hS : va_S A0 H0 H locs) (hA : ∀ q, H0.size ≤ q → A0 q) (isC isR : List Nat) (hC : isC.map (fun i => ws[i]?) = wc.map some) (hR : isR.map (fun i => ws[i]?) = wr.map some) (hn : va_nd isR = true) (hdis : ∀ i ∈ isR, i ∉ isC)
    (hr : vx_Run p l e R s m args below meth c H locs cells slots mc ms (F0 m pc ls st0) rest (va_Qi post (ag_to D cl tysC (va_A wc H.size) Wf) (va_A wc H.size) a) (vx_X (fun _ : Unit => True) (fun E _ t => PX E ∧ ag_to D cl tysC (va_A wc H.size) (fun _ : Unit => wc) () t) (va_A wc H.size)) (va_A wc H.size))
    (kx : ∀ (E : String) (ce : Cell) (q9 : Addr) (H1 : Heap) (locs1 : List Loc), PX E → va_P D cl (wr ++ wc) H1 → va_D A0 (wr ++ wc) → va_S A0 H0 H1 locs1 → H1[q9]? = some ce → ce.vm = .none → s.vm.findClass E = some ce.cls → vx_W p l e R s m args below meth c H1 locs1 (cells + mc) (slots + ms) Q (F0 m pc ls rest) q9)
    (kk : ∀ (r : Int32) (u : S) (H1 : Heap) (locs1 : List Loc), post r u → va_P D cl (wr ++ Wf u) H1 → va_D A0 (wr ++ Wf u) → va_S A0 H0 H1 locs1 → W p l e R s m args below meth c H1 locs1 (cells + mc) (slots + ms) Q (F0 m (pc + 3) ls (.int r :: rest))) : W p l e R s m args below meth c H locs cells slots Q (F0 m pc ls st0) := by
  have hFc := va_free (wc := wc) hD hS hA isC hC
  refine vx_calli hr hS (fun q _ h => hFc q h) hFc (fun q _ h => hFc q h) (fun E ce q9 u t H1 locs ht hvm _ hB hz1 hk1 hS hc1 hc2 hc3 => ?_) (fun r u t H1 locs ht hvm hw hB hz1 hk1 hS => ?_)
  · obtain ⟨hpx, hP1, hK1, hD1⟩ := hB
    rw [ht] at hP1
    obtain ⟨hP, hD⟩ := va_join (wr := wr) (w1 := wc) hP hD isC isR hC hR hn hdis hk1 hFc hP1 hD1
    exact kx E ce q9 H1 locs hpx hP hD hS hc1 hc2 hc3
  · obtain ⟨hP1, hK1, hD1⟩ := hB
    rw [ht] at hP1
    obtain ⟨hP, hD⟩ := va_join (wr := wr) (w1 := Wf u) hP hD isC isR hC hR hn hdis hk1 hFc hP1 hD1
    exact kk r u H1 locs hw hP hD hS
theorem ag_xll {S : Type} {post : Int64 → S → Prop} {Wf : S → va_W} {PX : String → Prop} (hP : va_P D cl ws H) (hD : va_D A0 ws) (hS : va_S A0 H0 H locs) (hA : ∀ q, H0.size ≤ q → A0 q) (isC isR : List Nat) (hC : isC.map (fun i => ws[i]?) = wc.map some) (hR : isR.map (fun i => ws[i]?) = wr.map some) (hn : va_nd isR = true) (hdis : ∀ i ∈ isR, i ∉ isC)
    (hr : vx_Run p l e R s m args below meth c H locs cells slots mc ms (F0 m pc ls st0) rest (va_Ql post (ag_to D cl tysC (va_A wc H.size) Wf) (va_A wc H.size) a) (vx_X (fun _ : Unit => True) (fun E _ t => PX E ∧ ag_to D cl tysC (va_A wc H.size) (fun _ : Unit => wc) () t) (va_A wc H.size)) (va_A wc H.size))
    (kx : ∀ (E : String) (ce : Cell) (q9 : Addr) (H1 : Heap) (locs1 : List Loc), PX E → va_P D cl (wr ++ wc) H1 → va_D A0 (wr ++ wc) → va_S A0 H0 H1 locs1 → H1[q9]? = some ce → ce.vm = .none → s.vm.findClass E = some ce.cls → vx_W p l e R s m args below meth c H1 locs1 (cells + mc) (slots + ms) Q (F0 m pc ls rest) q9)
    (kk : ∀ (r : Int64) (u : S) (H1 : Heap) (locs1 : List Loc), post r u → va_P D cl (wr ++ Wf u) H1 → va_D A0 (wr ++ Wf u) → va_S A0 H0 H1 locs1 → W p l e R s m args below meth c H1 locs1 (cells + mc) (slots + ms) Q (F0 m (pc + 3) ls (.long r :: rest))) : W p l e R s m args below meth c H locs cells slots Q (F0 m pc ls st0) := by
  have hFc := va_free (wc := wc) hD hS hA isC hC
  refine vx_calll hr hS (fun q _ h => hFc q h) hFc (fun q _ h => hFc q h) (fun E ce q9 u t H1 locs ht hvm _ hB hz1 hk1 hS hc1 hc2 hc3 => ?_) (fun r u t H1 locs ht hvm hw hB hz1 hk1 hS => ?_)
  · obtain ⟨hpx, hP1, hK1, hD1⟩ := hB
    rw [ht] at hP1
    obtain ⟨hP, hD⟩ := va_join (wr := wr) (w1 := wc) hP hD isC isR hC hR hn hdis hk1 hFc hP1 hD1
    exact kx E ce q9 H1 locs hpx hP hD hS hc1 hc2 hc3
  · obtain ⟨hP1, hK1, hD1⟩ := hB
    rw [ht] at hP1
    obtain ⟨hP, hD⟩ := va_join (wr := wr) (w1 := Wf u) hP hD isC isR hC hR hn hdis hk1 hFc hP1 hD1
    exact kk r u H1 locs hw hP hD hS
end AgExc
end
section
set_option maxHeartbeats 4000000 in
set_option maxRecDepth 100000 in
/-- run(x) -/
theorem c_A_run (l : Launch) (dC : Nat → ClassId) (dI : Nat → Nat → Nat) (sz : Nat) (a qm qs qt qw : Nat) (cI cJ : ClassId) (G R nw en mo la go sp : Nat) (f g : Nat → Int32) (w : Nat → Int64) (ms : ag_M) (x : Int32) (hlx : l.stackTraces = false) (hG : 1 ≤ G) (hG2 : G ≤ 1000) (hR2 : 2 ≤ R) (hR16 : R ≤ 16) (hmo : mo ≤ 300) (hen : en ≤ 1000000 * G) (hnw : nw ≤ 1000000 * G) (hin : ag_in R (en / G) ms) (hrep : ag_rep ms f g w) : vx_Met l y_A_run (Cond.code y_A_run b_A_run 2 (some .int) :: agW) ({ frames := 8, cells := 1, slots := 6, locals := 140 }) (va_Pc [.ref a, .int x] (ag_atx (dC, dI) agCl [(cI, .int), (cJ, .long)] sz [(a, .inr (1, [.int (nI G), .int (nI R), .ref qm, .ref qs, .ref qt, .int (nI ms.length), .long (lN nw), .long (lN en), .int (nI mo), .long (lN la), .long (lN go), .long (lN sp)])), (qm, .inl (cI, 320, .inl f)), (qs, .inl (cI, 320, .inl g)), (qt, .inr (0, [.ref qw])), (qw, .inl (cJ, 5, .inr (.inl w)))])) (va_Qi (fun (r : Int32) (u : Nat × ag_T × (Nat → Int32) × (Nat → Int32) × (Nat → Int64)) => x = nI u.1 ∧ u.1 ≤ 4000 ∧ nw + u.1 ≤ 1000000 * G ∧ r = nI (max en (nw + u.1) / G - en / G) ∧ u.2.1 = ag_grow R (en / G) (max en (nw + u.1) / G - en / G) (ms, mo, la, go) ∧ ag_rep u.2.1.1 u.2.2.1 u.2.2.2.1 u.2.2.2.2 ∧ ag_in R (max en (nw + u.1) / G) u.2.1.1 ∧ u.2.1.2.1 ≤ 300) (ag_to (dC, dI) agCl [(cI, .int), (cJ, .long)] (va_A [(a, .inr (1, [.int (nI G), .int (nI R), .ref qm, .ref qs, .ref qt, .int (nI ms.length), .long (lN nw), .long (lN en), .int (nI mo), .long (lN la), .long (lN go), .long (lN sp)])), (qm, .inl (cI, 320, .inl f)), (qs, .inl (cI, 320, .inl g)), (qt, .inr (0, [.ref qw])), (qw, .inl (cJ, 5, .inr (.inl w)))] sz) (fun u : Nat × ag_T × (Nat → Int32) × (Nat → Int32) × (Nat → Int64) => [(a, .inr (1, [.int (nI G), .int (nI R), .ref qm, .ref qs, .ref qt, .int (nI u.2.1.1.length), .long (lN (nw + u.1)), .long (lN (max en (nw + u.1))), .int (nI u.2.1.2.1), .long (lN u.2.1.2.2.1), .long (lN u.2.1.2.2.2), .long (lN sp)])), (qm, .inl (cI, 320, .inl u.2.2.1)), (qs, .inl (cI, 320, .inl u.2.2.2.1)), (qt, .inr (0, [.ref qw])), (qw, .inl (cJ, 5, .inr (.inl u.2.2.2.2)))])) (va_A [(a, .inr (1, [.int (nI G), .int (nI R), .ref qm, .ref qs, .ref qt, .int (nI ms.length), .long (lN nw), .long (lN en), .int (nI mo), .long (lN la), .long (lN go), .long (lN sp)])), (qm, .inl (cI, 320, .inl f)), (qs, .inl (cI, 320, .inl g)), (qt, .inr (0, [.ref qw])), (qw, .inl (cJ, 5, .inr (.inl w)))] sz)) (vx_X (fun _ : Unit => True) (fun E _ t => (fun E : String => (E = xIAE ∧ ¬ (0 ≤ x.toInt ∧ x.toInt ≤ 4000)) ∨ (E = xISE ∧ ∃ n, n ≤ 4000 ∧ x = nI n ∧ 1000000 * G < nw + n)) E ∧ ag_to (dC, dI) agCl [(cI, .int), (cJ, .long)] (va_A [(a, .inr (1, [.int (nI G), .int (nI R), .ref qm, .ref qs, .ref qt, .int (nI ms.length), .long (lN nw), .long (lN en), .int (nI mo), .long (lN la), .long (lN go), .long (lN sp)])), (qm, .inl (cI, 320, .inl f)), (qs, .inl (cI, 320, .inl g)), (qt, .inr (0, [.ref qw])), (qw, .inl (cJ, 5, .inr (.inl w)))] sz) (fun _ : Unit => [(a, .inr (1, [.int (nI G), .int (nI R), .ref qm, .ref qs, .ref qt, .int (nI ms.length), .long (lN nw), .long (lN en), .int (nI mo), .long (lN la), .long (lN go), .long (lN sp)])), (qm, .inl (cI, 320, .inl f)), (qs, .inl (cI, 320, .inl g)), (qt, .inr (0, [.ref qw])), (qw, .inl (cJ, 5, .inr (.inl w)))]) () t) (va_A [(a, .inr (1, [.int (nI G), .int (nI R), .ref qm, .ref qs, .ref qt, .int (nI ms.length), .long (lN nw), .long (lN en), .int (nI mo), .long (lN la), .long (lN go), .long (lN sp)])), (qm, .inl (cI, 320, .inl f)), (qs, .inl (cI, 320, .inl g)), (qt, .inr (0, [.ref qw])), (qw, .inl (cJ, 5, .inr (.inl w)))] sz)) 1 6 (va_A [(a, .inr (1, [.int (nI G), .int (nI R), .ref qm, .ref qs, .ref qt, .int (nI ms.length), .long (lN nw), .long (lN en), .int (nI mo), .long (lN la), .long (lN go), .long (lN sp)])), (qm, .inl (cI, 320, .inl f)), (qs, .inl (cI, 320, .inl g)), (qt, .inr (0, [.ref qw])), (qw, .inl (cJ, 5, .inr (.inl w)))] sz) := by
  refine ag_ofX (Qf := fun A => va_Qi (fun (r : Int32) (u : Nat × ag_T × (Nat → Int32) × (Nat → Int32) × (Nat → Int64)) => x = nI u.1 ∧ u.1 ≤ 4000 ∧ nw + u.1 ≤ 1000000 * G ∧ r = nI (max en (nw + u.1) / G - en / G) ∧ u.2.1 = ag_grow R (en / G) (max en (nw + u.1) / G - en / G) (ms, mo, la, go) ∧ ag_rep u.2.1.1 u.2.2.1 u.2.2.2.1 u.2.2.2.2 ∧ ag_in R (max en (nw + u.1) / G) u.2.1.1 ∧ u.2.1.2.1 ≤ 300) (ag_to (dC, dI) agCl [(cI, .int), (cJ, .long)] A (fun u : Nat × ag_T × (Nat → Int32) × (Nat → Int32) × (Nat → Int64) => [(a, .inr (1, [.int (nI G), .int (nI R), .ref qm, .ref qs, .ref qt, .int (nI u.2.1.1.length), .long (lN (nw + u.1)), .long (lN (max en (nw + u.1))), .int (nI u.2.1.2.1), .long (lN u.2.1.2.2.1), .long (lN u.2.1.2.2.2), .long (lN sp)])), (qm, .inl (cI, 320, .inl u.2.2.1)), (qs, .inl (cI, 320, .inl u.2.2.2.1)), (qt, .inr (0, [.ref qw])), (qw, .inl (cJ, 5, .inr (.inl u.2.2.2.2)))])) A) (Xf := fun A => vx_X (fun _ : Unit => True) (fun E _ t => (fun E : String => (E = xIAE ∧ ¬ (0 ≤ x.toInt ∧ x.toInt ≤ 4000)) ∨ (E = xISE ∧ ∃ n, n ≤ 4000 ∧ x = nI n ∧ 1000000 * G < nw + n)) E ∧ ag_to (dC, dI) agCl [(cI, .int), (cJ, .long)] A (fun _ : Unit => [(a, .inr (1, [.int (nI G), .int (nI R), .ref qm, .ref qs, .ref qt, .int (nI ms.length), .long (lN nw), .long (lN en), .int (nI mo), .long (lN la), .long (lN go), .long (lN sp)])), (qm, .inl (cI, 320, .inl f)), (qs, .inl (cI, 320, .inl g)), (qt, .inr (0, [.ref qw])), (qw, .inl (cJ, 5, .inr (.inl w)))]) () t) A) (cc := b_A_run) (maxL := 2) (ret := (some .int)) (lv := [(0, .ref a), (1, .int x)]) (by decide) rfl (Nat.le_of_ble_eq_true rfl) rfl (fun p e s m below meth c A ls hx hb hr hts hown hlocks hml hnm hA hS hP hK hD hl hsz hout hX => ?_)
  have hown : s.vm.findClass "AgedMarks" = some m.cls := hown
  have ht : ∀ w ∈ agW, w.before [.ref a, .int x].toArray s = true := fun w h => hts w (List.mem_cons_of_mem _ h)
  refine lv_iload_n hx hb d_A_run_0 rfl (lv_at hl 1 rfl) ?_
  refine lv_if_lt (tgt := 11) hx hb d_A_run_1 (by decide) (fun c1 => ?_) (fun c1 => ?_)
  · have h_n := trivial
    obtain ⟨sa, hstr⟩ := hX.2.2.2.2.1
    exact ag_thr hx hb hlx hown (by decide) mw_c_A_49 mw_ini_Ill hstr ag_at_IAE ag_ot_IAE ht hX hS (hl.1.trans hml.symm) d_A_run_11 d_A_run_14 d_A_run_15 d_A_run_17 d_A_run_20 hout (by decide) (by decide) (by decide) (by decide) hlocks (Or.inl ⟨rfl, fun h => absurd (Int32.lt_iff_toInt_lt.mp c1) (by have := h.1; simp; omega)⟩) hP hK hD (by decide) (by decide)
  · have h_n := trivial
    obtain ⟨n, hn31, rfl⟩ := nI_of c1
    refine lv_iload_n hx hb d_A_run_4 rfl (lv_at hl 1 rfl) ?_
    refine ag_sipush hx hb 4000 d_A_run_5 (by decide) ?_
    refine ag_icmp_le (tgt := 21) hx hb d_A_run_8 (by decide) (by omega) (by omega) (fun c8 => ?_) (fun c8 => ?_)
    · have h_n := trivial
      refine lv_aload_n hx hb d_A_run_21 rfl (lv_at hl 0 rfl) ?_
      refine va_get (D := (dC, dI)) (ci := 1) (v := .long (lN nw)) (C := RX1) (T := TX1) (N := 12) hx hb ht inA1 hown hK hP 0 rfl rfl 6 (by decide) (ht _ mw_f_A_56) (fun _ h9 => h9) rfl d_A_run_22 ?_
      refine lv_iload_n hx hb d_A_run_25 rfl (lv_at hl 1 rfl) ?_
      refine lv_i2l (v := lN n) hx hb d_A_run_26 (nI_l (by omega)) ?_
      refine lv_ladd hx hb d_A_run_27 ?_
      refine ag_topl (lN (nw + n)) (lN_add _ _) ?_
      refine lv_ldc2 (v := lN 1000000) hx hb hown (ht _ mw_k_A_60) d_A_run_28 ?_
      refine lv_aload_n hx hb d_A_run_31 rfl (lv_at hl 0 rfl) ?_
      refine va_get (D := (dC, dI)) (ci := 1) (v := .int (nI G)) (C := RX1) (T := TX1) (N := 12) hx hb ht inA1 hown hK hP 0 rfl rfl 0 (by decide) (ht _ mw_f_A_32) (fun _ h9 => h9) rfl d_A_run_32 ?_
      refine lv_i2l (v := lN G) hx hb d_A_run_35 (nI_l (by omega)) ?_
      refine lv_lmul hx hb d_A_run_36 ?_
      refine ag_topl (lN (1000000 * G)) (lN_mul _ _) ?_
      refine ag_lc_le (tgt := 51) hx hb d_A_run_37 d_A_run_38 (by decide) (fun c37 => ?_) (fun c37 => ?_)
      · have h_n := trivial
        have hle := (pk_lLE (a := nw + n) (b := 1000000 * G) (by omega) (by omega)).mp c37
        refine lv_aload_n hx hb d_A_run_51 rfl (lv_at hl 0 rfl) ?_
        refine lv_dup hx hb d_A_run_52 rfl ?_
        refine va_get (D := (dC, dI)) (ci := 1) (v := .long (lN nw)) (C := RX1) (T := TX1) (N := 12) hx hb ht inA1 hown hK hP 0 rfl rfl 6 (by decide) (ht _ mw_f_A_56) (fun _ h9 => h9) rfl d_A_run_53 ?_
        refine lv_iload_n hx hb d_A_run_56 rfl (lv_at hl 1 rfl) ?_
        refine lv_i2l (v := lN n) hx hb d_A_run_57 (nI_l (by omega)) ?_
        refine lv_ladd hx hb d_A_run_58 ?_
        refine ag_topl (lN (nw + n)) (lN_add _ _) ?_
        refine va_put (D := (dC, dI)) (ci := 1) (v := .long (lN (nw + n))) (ty := .long) (C := RX1) (T := TX1) (N := 12) hx hb ht inA1 tyX1 tyX1_ok nmX1 hown hK hP hD hS 0 rfl rfl 6 (by decide) (ht _ mw_f_A_56) (fun _ h9 => h9) rfl (by decide +kernel) rfl rfl (Nat.le_of_ble_eq_true rfl) d_A_run_59 (fun H locs hP hD hS => ?_)
        have hP : va_P (dC, dI) agCl [(a, .inr (1, [.int (nI G), .int (nI R), .ref qm, .ref qs, .ref qt, .int (nI ms.length), .long (lN (nw + n)), .long (lN en), .int (nI mo), .long (lN la), .long (lN go), .long (lN sp)])), (qm, .inl (cI, 320, .inl f)), (qs, .inl (cI, 320, .inl g)), (qt, .inr (0, [.ref qw])), (qw, .inl (cJ, 5, .inr (.inl w)))] H := hP
        have hD : va_D A [(a, .inr (1, [.int (nI G), .int (nI R), .ref qm, .ref qs, .ref qt, .int (nI ms.length), .long (lN (nw + n)), .long (lN en), .int (nI mo), .long (lN la), .long (lN go), .long (lN sp)])), (qm, .inl (cI, 320, .inl f)), (qs, .inl (cI, 320, .inl g)), (qt, .inr (0, [.ref qw])), (qw, .inl (cJ, 5, .inr (.inl w)))] := hD
        refine lv_aload_n hx hb d_A_run_62 rfl (lv_at hl 0 rfl) ?_
        refine va_get (D := (dC, dI)) (ci := 1) (v := .long (lN (nw + n))) (C := RX1) (T := TX1) (N := 12) hx hb ht inA1 hown hK hP 0 rfl rfl 6 (by decide) (ht _ mw_f_A_56) (fun _ h9 => h9) rfl d_A_run_63 ?_
        refine lv_aload_n hx hb d_A_run_66 rfl (lv_at hl 0 rfl) ?_
        refine va_get (D := (dC, dI)) (ci := 1) (v := .long (lN en)) (C := RX1) (T := TX1) (N := 12) hx hb ht inA1 hown hK hP 0 rfl rfl 7 (by decide) (ht _ mw_f_A_67) (fun _ h9 => h9) rfl d_A_run_67 ?_
        refine ag_lc_le (tgt := 85) hx hb d_A_run_70 d_A_run_71 (by decide) (fun c70 => ?_) (fun c70 => ?_)
        · have h_n := trivial
          have hle2 := (pk_lLE (a := nw + n) (b := en) (by omega) (by omega)).mp c70
          have hmx : max en (nw + n) = en := Nat.max_eq_left hle2
          refine ag_iconst hx hb 0 d_A_run_85 (by decide) ?_
          rw [show lN en = lN (max en (nw + n)) by rw [hmx]] at hP hD
          refine W.widen (k := 1) (n := 6) (by decide) (by decide) ?_
          refine vx_ret ?_
          exact ag_reti hx hb hr hlocks (n, (ms, mo, la, go), f, g, w) (⟨rfl, c8, hle, by rw [hmx, Nat.sub_self], by rw [hmx, Nat.sub_self]; rfl, hrep, by rw [hmx]; exact hin, hmo⟩) hP hK hD hS d_A_run_86
        · have h_n := trivial
          have hgt2 : en < nw + n := by have h9 := mt (pk_lLE (a := nw + n) (b := en) (by omega) (by omega)).mpr c70; omega
          have hmx : max en (nw + n) = nw + n := Nat.max_eq_right (by omega)
          refine lv_aload_n hx hb d_A_run_74 rfl (lv_at hl 0 rfl) ?_
          refine lv_aload_n hx hb d_A_run_75 rfl (lv_at hl 0 rfl) ?_
          refine va_get (D := (dC, dI)) (ci := 1) (v := .long (lN (nw + n))) (C := RX1) (T := TX1) (N := 12) hx hb ht inA1 hown hK hP 0 rfl rfl 6 (by decide) (ht _ mw_f_A_56) (fun _ h9 => h9) rfl d_A_run_76 ?_
          have hPc := hP.sub (ws' := [(a, .inr (1, [.int (nI G), .int (nI R), .ref qm, .ref qs, .ref qt, .int (nI ms.length), .long (lN (nw + n)), .long (lN en), .int (nI mo), .long (lN la), .long (lN go), .long (lN sp)])), (qm, .inl (cI, 320, .inl f)), (qs, .inl (cI, 320, .inl g)), (qt, .inr (0, [.ref qw])), (qw, .inl (cJ, 5, .inr (.inl w)))]) [0, 1, 2, 3, 4] rfl
          have hDc := hD.sub (ws' := [(a, .inr (1, [.int (nI G), .int (nI R), .ref qm, .ref qs, .ref qt, .int (nI ms.length), .long (lN (nw + n)), .long (lN en), .int (nI mo), .long (lN la), .long (lN go), .long (lN sp)])), (qm, .inl (cI, 320, .inl f)), (qs, .inl (cI, 320, .inl g)), (qt, .inr (0, [.ref qw])), (qw, .inl (cJ, 5, .inr (.inl w)))]) [0, 1, 2, 3, 4] (by decide) rfl
          refine ag_cli (wc := [(a, .inr (1, [.int (nI G), .int (nI R), .ref qm, .ref qs, .ref qt, .int (nI ms.length), .long (lN (nw + n)), .long (lN en), .int (nI mo), .long (lN la), .long (lN go), .long (lN sp)])), (qm, .inl (cI, 320, .inl f)), (qs, .inl (cI, 320, .inl g)), (qt, .inr (0, [.ref qw])), (qw, .inl (cJ, 5, .inr (.inl w)))]) (wr := []) (Wf := fun u : ag_T × (Nat → Int32) × (Nat → Int32) × (Nat → Int64) => [(a, .inr (1, [.int (nI G), .int (nI R), .ref qm, .ref qs, .ref qt, .int (nI u.1.1.length), .long (lN (nw + n)), .long (lN (nw + n)), .int (nI u.1.2.1), .long (lN u.1.2.2.1), .long (lN u.1.2.2.2), .long (lN sp)])), (qm, .inl (cI, 320, .inl u.2.1)), (qs, .inl (cI, 320, .inl u.2.2.1)), (qt, .inr (0, [.ref qw])), (qw, .inl (cJ, 5, .inr (.inl u.2.2.2)))]) hP hD hS hA [0, 1, 2, 3, 4] [] rfl rfl (by decide) (by decide) (va_runV (C := "AgedMarks") (As := [.long (lN (nw + n))]) (rest := []) ⟨hx, hb, hml, hown, hts⟩ (c_A_growTo l dC dI H.size a qm qs qt qw cI cJ G R (nw + n) en mo la go sp f g w ms (nw + n) hG hG2 hR2 hR16 hmo hin (by omega) hle hrep) (ag_cwV 1 hts mw_m_A_70 mw_instanceMethod_A_growTo mw_sel_A_growTo mw_ini_A mw_code_A_growTo rfl rfl (by decide +kernel) ⟨Nat.le_of_ble_eq_true rfl, Nat.le_of_ble_eq_true rfl⟩) ⟨ag_blind, va_recv hK hPc (ci := 1) (q0 := 0) rfl rfl, ag_pre hPc hK hDc⟩ rfl rfl hl.1 rfl (lv_room (Nat.le_of_ble_eq_true rfl)) d_A_run_79 ⟨Nat.le_of_ble_eq_true rfl, Nat.le_of_ble_eq_true rfl⟩) (fun r1 u H locs hw hP hD hS => ?_)
          obtain ⟨⟨ms1, mo1, la1, go1⟩, f1, g1, w1⟩ := u
          try dsimp only at hw
          obtain ⟨rfl, hw1, hw2, hw3, hw4⟩ := hw
          have hP : va_P (dC, dI) agCl [(a, .inr (1, [.int (nI G), .int (nI R), .ref qm, .ref qs, .ref qt, .int (nI ms1.length), .long (lN (nw + n)), .long (lN (nw + n)), .int (nI mo1), .long (lN la1), .long (lN go1), .long (lN sp)])), (qm, .inl (cI, 320, .inl f1)), (qs, .inl (cI, 320, .inl g1)), (qt, .inr (0, [.ref qw])), (qw, .inl (cJ, 5, .inr (.inl w1)))] H := hP
          have hD : va_D A [(a, .inr (1, [.int (nI G), .int (nI R), .ref qm, .ref qs, .ref qt, .int (nI ms1.length), .long (lN (nw + n)), .long (lN (nw + n)), .int (nI mo1), .long (lN la1), .long (lN go1), .long (lN sp)])), (qm, .inl (cI, 320, .inl f1)), (qs, .inl (cI, 320, .inl g1)), (qt, .inr (0, [.ref qw])), (qw, .inl (cJ, 5, .inr (.inl w1)))] := hD
          refine lv_goto (tgt := 86) hx hb d_A_run_82 (by decide) ?_
          rw [show [Value.int (nI G), Value.int (nI R), Value.ref qm, Value.ref qs, Value.ref qt, Value.int (nI ms1.length), Value.long (lN (nw + n)), Value.long (lN (nw + n)), Value.int (nI mo1), Value.long (lN la1), Value.long (lN go1), Value.long (lN sp)] = [Value.int (nI G), Value.int (nI R), Value.ref qm, Value.ref qs, Value.ref qt, Value.int (nI ms1.length), Value.long (lN (nw + n)), Value.long (lN (max en (nw + n))), Value.int (nI mo1), Value.long (lN la1), Value.long (lN go1), Value.long (lN sp)] by rw [hmx]] at hP hD
          refine W.widen (k := 1) (n := 6) (by decide) (by decide) ?_
          refine vx_ret ?_
          exact ag_reti hx hb hr hlocks (n, (ms1, mo1, la1, go1), f1, g1, w1) (⟨rfl, c8, hle, by rw [hmx], by rw [hmx]; exact hw1, hw2, by rw [hmx]; exact hw3, hw4⟩) hP hK hD hS d_A_run_86
      · have h_n := trivial
        obtain ⟨sa, hstr⟩ := hX.2.2.2.2.2.1
        exact ag_thr hx hb hlx hown (by decide) mw_c_A_62 mw_ini_Illx hstr ag_at_ISE ag_ot_ISE ht hX hS (hl.1.trans hml.symm) d_A_run_41 d_A_run_44 d_A_run_45 d_A_run_47 d_A_run_50 hout (by decide) (by decide) (by decide) (by decide) hlocks (Or.inr ⟨rfl, n, c8, rfl, by have h9 := mt (pk_lLE (a := nw + n) (b := 1000000 * G) (by omega) (by omega)).mpr c37; omega⟩) hP hK hD (by decide) (by decide)
    · have h_n := trivial
      obtain ⟨sa, hstr⟩ := hX.2.2.2.2.1
      exact ag_thr hx hb hlx hown (by decide) mw_c_A_49 mw_ini_Ill hstr ag_at_IAE ag_ot_IAE ht hX hS (hl.1.trans hml.symm) d_A_run_11 d_A_run_14 d_A_run_15 d_A_run_17 d_A_run_20 hout (by decide) (by decide) (by decide) (by decide) hlocks (Or.inl ⟨rfl, fun h => by have h1 := h.2; rw [nI_toInt hn31] at h1; omega⟩) hP hK hD (by decide) (by decide)

set_option maxHeartbeats 4000000 in
set_option maxRecDepth 100000 in
/-- go(x) -/
theorem c_A_go (l : Launch) (dC : Nat → ClassId) (dI : Nat → Nat → Nat) (sz : Nat) (a qm qs qt qw : Nat) (cI cJ : ClassId) (G R nw en mo la go sp : Nat) (f g : Nat → Int32) (w : Nat → Int64) (ms : ag_M) (x : Int64) (hlx : l.stackTraces = false) (hG2 : G ≤ 1000) (hen : en ≤ 1000000000) (hbd : ag_bd ms) (h0 : 0 < ms.length) (h00 : (ms[0]).1 = 0) (hrep : ag_rep ms f g w) : vx_Met l y_A_go (Cond.code y_A_go b_A_go 3 (some .long) :: agW) ({ frames := 8, cells := 1, slots := 6, locals := 100 }) (va_Pc [.ref a, .long x] (ag_atx (dC, dI) agCl [(cI, .int), (cJ, .long)] sz [(a, .inr (1, [.int (nI G), .int (nI R), .ref qm, .ref qs, .ref qt, .int (nI ms.length), .long (lN nw), .long (lN en), .int (nI mo), .long (lN la), .long (lN go), .long (lN sp)])), (qm, .inl (cI, 320, .inl f)), (qs, .inl (cI, 320, .inl g)), (qt, .inr (0, [.ref qw])), (qw, .inl (cJ, 5, .inr (.inl w)))])) (va_Ql (fun (r : Int64) (u : Nat) => x = lN u ∧ u ≤ en ∧ r = lN (ag_cost G ms u)) (ag_to (dC, dI) agCl [(cI, .int), (cJ, .long)] (va_A [(a, .inr (1, [.int (nI G), .int (nI R), .ref qm, .ref qs, .ref qt, .int (nI ms.length), .long (lN nw), .long (lN en), .int (nI mo), .long (lN la), .long (lN go), .long (lN sp)])), (qm, .inl (cI, 320, .inl f)), (qs, .inl (cI, 320, .inl g)), (qt, .inr (0, [.ref qw])), (qw, .inl (cJ, 5, .inr (.inl w)))] sz) (fun u : Nat => [(a, .inr (1, [.int (nI G), .int (nI R), .ref qm, .ref qs, .ref qt, .int (nI ms.length), .long (lN u), .long (lN en), .int (nI mo), .long (lN la), .long (lN go), .long (lN (sp + ag_cost G ms u))])), (qm, .inl (cI, 320, .inl f)), (qs, .inl (cI, 320, .inl g)), (qt, .inr (0, [.ref qw])), (qw, .inl (cJ, 5, .inr (.inl w)))])) (va_A [(a, .inr (1, [.int (nI G), .int (nI R), .ref qm, .ref qs, .ref qt, .int (nI ms.length), .long (lN nw), .long (lN en), .int (nI mo), .long (lN la), .long (lN go), .long (lN sp)])), (qm, .inl (cI, 320, .inl f)), (qs, .inl (cI, 320, .inl g)), (qt, .inr (0, [.ref qw])), (qw, .inl (cJ, 5, .inr (.inl w)))] sz)) (vx_X (fun _ : Unit => True) (fun E _ t => (fun E : String => E = xIAE ∧ ¬ ∃ n, n ≤ en ∧ x = lN n) E ∧ ag_to (dC, dI) agCl [(cI, .int), (cJ, .long)] (va_A [(a, .inr (1, [.int (nI G), .int (nI R), .ref qm, .ref qs, .ref qt, .int (nI ms.length), .long (lN nw), .long (lN en), .int (nI mo), .long (lN la), .long (lN go), .long (lN sp)])), (qm, .inl (cI, 320, .inl f)), (qs, .inl (cI, 320, .inl g)), (qt, .inr (0, [.ref qw])), (qw, .inl (cJ, 5, .inr (.inl w)))] sz) (fun _ : Unit => [(a, .inr (1, [.int (nI G), .int (nI R), .ref qm, .ref qs, .ref qt, .int (nI ms.length), .long (lN nw), .long (lN en), .int (nI mo), .long (lN la), .long (lN go), .long (lN sp)])), (qm, .inl (cI, 320, .inl f)), (qs, .inl (cI, 320, .inl g)), (qt, .inr (0, [.ref qw])), (qw, .inl (cJ, 5, .inr (.inl w)))]) () t) (va_A [(a, .inr (1, [.int (nI G), .int (nI R), .ref qm, .ref qs, .ref qt, .int (nI ms.length), .long (lN nw), .long (lN en), .int (nI mo), .long (lN la), .long (lN go), .long (lN sp)])), (qm, .inl (cI, 320, .inl f)), (qs, .inl (cI, 320, .inl g)), (qt, .inr (0, [.ref qw])), (qw, .inl (cJ, 5, .inr (.inl w)))] sz)) 1 6 (va_A [(a, .inr (1, [.int (nI G), .int (nI R), .ref qm, .ref qs, .ref qt, .int (nI ms.length), .long (lN nw), .long (lN en), .int (nI mo), .long (lN la), .long (lN go), .long (lN sp)])), (qm, .inl (cI, 320, .inl f)), (qs, .inl (cI, 320, .inl g)), (qt, .inr (0, [.ref qw])), (qw, .inl (cJ, 5, .inr (.inl w)))] sz) := by
  refine ag_ofX (Qf := fun A => va_Ql (fun (r : Int64) (u : Nat) => x = lN u ∧ u ≤ en ∧ r = lN (ag_cost G ms u)) (ag_to (dC, dI) agCl [(cI, .int), (cJ, .long)] A (fun u : Nat => [(a, .inr (1, [.int (nI G), .int (nI R), .ref qm, .ref qs, .ref qt, .int (nI ms.length), .long (lN u), .long (lN en), .int (nI mo), .long (lN la), .long (lN go), .long (lN (sp + ag_cost G ms u))])), (qm, .inl (cI, 320, .inl f)), (qs, .inl (cI, 320, .inl g)), (qt, .inr (0, [.ref qw])), (qw, .inl (cJ, 5, .inr (.inl w)))])) A) (Xf := fun A => vx_X (fun _ : Unit => True) (fun E _ t => (fun E : String => E = xIAE ∧ ¬ ∃ n, n ≤ en ∧ x = lN n) E ∧ ag_to (dC, dI) agCl [(cI, .int), (cJ, .long)] A (fun _ : Unit => [(a, .inr (1, [.int (nI G), .int (nI R), .ref qm, .ref qs, .ref qt, .int (nI ms.length), .long (lN nw), .long (lN en), .int (nI mo), .long (lN la), .long (lN go), .long (lN sp)])), (qm, .inl (cI, 320, .inl f)), (qs, .inl (cI, 320, .inl g)), (qt, .inr (0, [.ref qw])), (qw, .inl (cJ, 5, .inr (.inl w)))]) () t) A) (cc := b_A_go) (maxL := 3) (ret := (some .long)) (lv := [(0, .ref a), (1, .long x)]) (by decide) rfl (Nat.le_of_ble_eq_true rfl) rfl (fun p e s m below meth c A ls hx hb hr hts hown hlocks hml hnm hA hS hP hK hD hl hsz hout hX => ?_)
  have hown : s.vm.findClass "AgedMarks" = some m.cls := hown
  have ht : ∀ w ∈ agW, w.before [.ref a, .long x].toArray s = true := fun w h => hts w (List.mem_cons_of_mem _ h)
  refine lv_lload_n hx hb d_A_go_0 rfl (lv_at hl 1 rfl) ?_
  refine ag_lconst hx hb 0 d_A_go_1 (by decide) ?_
  refine ag_lc_lt (tgt := 15) hx hb d_A_go_2 d_A_go_3 (by decide) (fun c2 => ?_) (fun c2 => ?_)
  · have h_n := trivial
    obtain ⟨sa, hstr⟩ := hX.2.2.2.2.2.2.1
    exact ag_thr hx hb hlx hown (by decide) mw_c_A_49 mw_ini_Ill hstr ag_at_IAE ag_ot_IAE ht hX hS (hl.1.trans hml.symm) d_A_go_15 d_A_go_18 d_A_go_19 d_A_go_21 d_A_go_24 hout (by decide) (by decide) (by decide) (by decide) hlocks (⟨rfl, fun ⟨n, h1, h2⟩ => by rw [h2] at c2; exact absurd ((pk_lLT (a := n) (b := 0) (by omega) (by omega)).mp c2) (by omega)⟩) hP hK hD (by decide) (by decide)
  · have h_n := trivial
    obtain ⟨n, hn63, rfl⟩ := pk_lOf c2
    refine lv_lload_n hx hb d_A_go_6 rfl (lv_at hl 1 rfl) ?_
    refine lv_aload_n hx hb d_A_go_7 rfl (lv_at hl 0 rfl) ?_
    refine va_get (D := (dC, dI)) (ci := 1) (v := .long (lN en)) (C := RX1) (T := TX1) (N := 12) hx hb ht inA1 hown hK hP 0 rfl rfl 7 (by decide) (ht _ mw_f_A_67) (fun _ h9 => h9) rfl d_A_go_8 ?_
    refine ag_lc_le (tgt := 25) hx hb d_A_go_11 d_A_go_12 (by decide) (fun c11 => ?_) (fun c11 => ?_)
    · have h_n := trivial
      have hle := (pk_lLE (a := n) (b := en) (by omega) (by omega)).mp c11
      refine lv_aload_n hx hb d_A_go_25 rfl (lv_at hl 0 rfl) ?_
      refine lv_lload_n hx hb d_A_go_26 rfl (lv_at hl 1 rfl) ?_
      have hPc := hP.sub (ws' := [(a, .inr (1, [.int (nI G), .int (nI R), .ref qm, .ref qs, .ref qt, .int (nI ms.length), .long (lN nw), .long (lN en), .int (nI mo), .long (lN la), .long (lN go), .long (lN sp)])), (qm, .inl (cI, 320, .inl f)), (qs, .inl (cI, 320, .inl g)), (qt, .inr (0, [.ref qw])), (qw, .inl (cJ, 5, .inr (.inl w)))]) [0, 1, 2, 3, 4] rfl
      have hDc := hD.sub (ws' := [(a, .inr (1, [.int (nI G), .int (nI R), .ref qm, .ref qs, .ref qt, .int (nI ms.length), .long (lN nw), .long (lN en), .int (nI mo), .long (lN la), .long (lN go), .long (lN sp)])), (qm, .inl (cI, 320, .inl f)), (qs, .inl (cI, 320, .inl g)), (qt, .inr (0, [.ref qw])), (qw, .inl (cJ, 5, .inr (.inl w)))]) [0, 1, 2, 3, 4] (by decide) rfl
      refine ag_cll (wc := [(a, .inr (1, [.int (nI G), .int (nI R), .ref qm, .ref qs, .ref qt, .int (nI ms.length), .long (lN nw), .long (lN en), .int (nI mo), .long (lN la), .long (lN go), .long (lN sp)])), (qm, .inl (cI, 320, .inl f)), (qs, .inl (cI, 320, .inl g)), (qt, .inr (0, [.ref qw])), (qw, .inl (cJ, 5, .inr (.inl w)))]) (wr := []) (Wf := fun _ : Unit => [(a, .inr (1, [.int (nI G), .int (nI R), .ref qm, .ref qs, .ref qt, .int (nI ms.length), .long (lN n), .long (lN en), .int (nI mo), .long (lN la), .long (lN go), .long (lN (sp + ag_cost G ms n))])), (qm, .inl (cI, 320, .inl f)), (qs, .inl (cI, 320, .inl g)), (qt, .inr (0, [.ref qw])), (qw, .inl (cJ, 5, .inr (.inl w)))]) hP hD hS hA [0, 1, 2, 3, 4] [] rfl rfl (by decide) (by decide) (va_runV (C := "AgedMarks") (As := [.long (lN n)]) (rest := []) ⟨hx, hb, hml, hown, hts⟩ (c_A_moveTo l dC dI s.heap.size a qm qs qt qw cI cJ G R nw en mo la go sp f g w ms n hG2 (by omega) hbd h0 h00 hrep) (ag_cwV 1 hts mw_m_A_76 mw_instanceMethod_A_moveTo mw_sel_A_moveTo mw_ini_A mw_code_A_moveTo rfl rfl (by decide +kernel) ⟨Nat.le_of_ble_eq_true rfl, Nat.le_of_ble_eq_true rfl⟩) ⟨ag_blind, va_recv hK hPc (ci := 1) (q0 := 0) rfl rfl, ag_pre hPc hK hDc⟩ rfl rfl hl.1 rfl (lv_room (Nat.le_of_ble_eq_true rfl)) d_A_go_27 ⟨Nat.le_of_ble_eq_true rfl, Nat.le_of_ble_eq_true rfl⟩) (fun r1 u H locs hw hP hD hS => ?_)
      try dsimp only at hw
      subst hw
      have hP : va_P (dC, dI) agCl [(a, .inr (1, [.int (nI G), .int (nI R), .ref qm, .ref qs, .ref qt, .int (nI ms.length), .long (lN n), .long (lN en), .int (nI mo), .long (lN la), .long (lN go), .long (lN (sp + ag_cost G ms n))])), (qm, .inl (cI, 320, .inl f)), (qs, .inl (cI, 320, .inl g)), (qt, .inr (0, [.ref qw])), (qw, .inl (cJ, 5, .inr (.inl w)))] H := hP
      have hD : va_D A [(a, .inr (1, [.int (nI G), .int (nI R), .ref qm, .ref qs, .ref qt, .int (nI ms.length), .long (lN n), .long (lN en), .int (nI mo), .long (lN la), .long (lN go), .long (lN (sp + ag_cost G ms n))])), (qm, .inl (cI, 320, .inl f)), (qs, .inl (cI, 320, .inl g)), (qt, .inr (0, [.ref qw])), (qw, .inl (cJ, 5, .inr (.inl w)))] := hD
      refine W.widen (k := 1) (n := 6) (by decide) (by decide) ?_
      refine vx_ret ?_
      exact ag_retl hx hb hr hlocks n (⟨rfl, hle, rfl⟩) hP hK hD hS d_A_go_30
    · have h_n := trivial
      obtain ⟨sa, hstr⟩ := hX.2.2.2.2.2.2.1
      exact ag_thr hx hb hlx hown (by decide) mw_c_A_49 mw_ini_Ill hstr ag_at_IAE ag_ot_IAE ht hX hS (hl.1.trans hml.symm) d_A_go_15 d_A_go_18 d_A_go_19 d_A_go_21 d_A_go_24 hout (by decide) (by decide) (by decide) (by decide) hlocks (⟨rfl, fun ⟨k, h1, h2⟩ => c11 ((pk_lLE (a := n) (b := en) (by omega) (by omega)).mpr (by have := (pk_lEQ (a := n) (b := k) (by omega) (by omega)).mp h2; omega))⟩) hP hK hD (by decide) (by decide)

set_option maxHeartbeats 4000000 in
set_option maxRecDepth 100000 in
/-- back(x) -/
theorem c_A_back (l : Launch) (dC : Nat → ClassId) (dI : Nat → Nat → Nat) (sz : Nat) (a qm qs qt qw : Nat) (cI cJ : ClassId) (G R nw en mo la go sp : Nat) (f g : Nat → Int32) (w : Nat → Int64) (ms : ag_M) (x : Int64) (hlx : l.stackTraces = false) (hG2 : G ≤ 1000) (hnw : nw ≤ 1000000000) (hbd : ag_bd ms) (h0 : 0 < ms.length) (h00 : (ms[0]).1 = 0) (hrep : ag_rep ms f g w) : vx_Met l y_A_back (Cond.code y_A_back b_A_back 3 (some .long) :: agW) ({ frames := 8, cells := 1, slots := 6, locals := 100 }) (va_Pc [.ref a, .long x] (ag_atx (dC, dI) agCl [(cI, .int), (cJ, .long)] sz [(a, .inr (1, [.int (nI G), .int (nI R), .ref qm, .ref qs, .ref qt, .int (nI ms.length), .long (lN nw), .long (lN en), .int (nI mo), .long (lN la), .long (lN go), .long (lN sp)])), (qm, .inl (cI, 320, .inl f)), (qs, .inl (cI, 320, .inl g)), (qt, .inr (0, [.ref qw])), (qw, .inl (cJ, 5, .inr (.inl w)))])) (va_Ql (fun (r : Int64) (u : Nat) => x = lN u ∧ u < 2 ^ 63 ∧ r = lN (ag_cost G ms (nw - u))) (ag_to (dC, dI) agCl [(cI, .int), (cJ, .long)] (va_A [(a, .inr (1, [.int (nI G), .int (nI R), .ref qm, .ref qs, .ref qt, .int (nI ms.length), .long (lN nw), .long (lN en), .int (nI mo), .long (lN la), .long (lN go), .long (lN sp)])), (qm, .inl (cI, 320, .inl f)), (qs, .inl (cI, 320, .inl g)), (qt, .inr (0, [.ref qw])), (qw, .inl (cJ, 5, .inr (.inl w)))] sz) (fun u : Nat => [(a, .inr (1, [.int (nI G), .int (nI R), .ref qm, .ref qs, .ref qt, .int (nI ms.length), .long (lN (nw - u)), .long (lN en), .int (nI mo), .long (lN la), .long (lN go), .long (lN (sp + ag_cost G ms (nw - u)))])), (qm, .inl (cI, 320, .inl f)), (qs, .inl (cI, 320, .inl g)), (qt, .inr (0, [.ref qw])), (qw, .inl (cJ, 5, .inr (.inl w)))])) (va_A [(a, .inr (1, [.int (nI G), .int (nI R), .ref qm, .ref qs, .ref qt, .int (nI ms.length), .long (lN nw), .long (lN en), .int (nI mo), .long (lN la), .long (lN go), .long (lN sp)])), (qm, .inl (cI, 320, .inl f)), (qs, .inl (cI, 320, .inl g)), (qt, .inr (0, [.ref qw])), (qw, .inl (cJ, 5, .inr (.inl w)))] sz)) (vx_X (fun _ : Unit => True) (fun E _ t => (fun E : String => E = xIAE ∧ x < 0) E ∧ ag_to (dC, dI) agCl [(cI, .int), (cJ, .long)] (va_A [(a, .inr (1, [.int (nI G), .int (nI R), .ref qm, .ref qs, .ref qt, .int (nI ms.length), .long (lN nw), .long (lN en), .int (nI mo), .long (lN la), .long (lN go), .long (lN sp)])), (qm, .inl (cI, 320, .inl f)), (qs, .inl (cI, 320, .inl g)), (qt, .inr (0, [.ref qw])), (qw, .inl (cJ, 5, .inr (.inl w)))] sz) (fun _ : Unit => [(a, .inr (1, [.int (nI G), .int (nI R), .ref qm, .ref qs, .ref qt, .int (nI ms.length), .long (lN nw), .long (lN en), .int (nI mo), .long (lN la), .long (lN go), .long (lN sp)])), (qm, .inl (cI, 320, .inl f)), (qs, .inl (cI, 320, .inl g)), (qt, .inr (0, [.ref qw])), (qw, .inl (cJ, 5, .inr (.inl w)))]) () t) (va_A [(a, .inr (1, [.int (nI G), .int (nI R), .ref qm, .ref qs, .ref qt, .int (nI ms.length), .long (lN nw), .long (lN en), .int (nI mo), .long (lN la), .long (lN go), .long (lN sp)])), (qm, .inl (cI, 320, .inl f)), (qs, .inl (cI, 320, .inl g)), (qt, .inr (0, [.ref qw])), (qw, .inl (cJ, 5, .inr (.inl w)))] sz)) 1 6 (va_A [(a, .inr (1, [.int (nI G), .int (nI R), .ref qm, .ref qs, .ref qt, .int (nI ms.length), .long (lN nw), .long (lN en), .int (nI mo), .long (lN la), .long (lN go), .long (lN sp)])), (qm, .inl (cI, 320, .inl f)), (qs, .inl (cI, 320, .inl g)), (qt, .inr (0, [.ref qw])), (qw, .inl (cJ, 5, .inr (.inl w)))] sz) := by
  refine ag_ofX (Qf := fun A => va_Ql (fun (r : Int64) (u : Nat) => x = lN u ∧ u < 2 ^ 63 ∧ r = lN (ag_cost G ms (nw - u))) (ag_to (dC, dI) agCl [(cI, .int), (cJ, .long)] A (fun u : Nat => [(a, .inr (1, [.int (nI G), .int (nI R), .ref qm, .ref qs, .ref qt, .int (nI ms.length), .long (lN (nw - u)), .long (lN en), .int (nI mo), .long (lN la), .long (lN go), .long (lN (sp + ag_cost G ms (nw - u)))])), (qm, .inl (cI, 320, .inl f)), (qs, .inl (cI, 320, .inl g)), (qt, .inr (0, [.ref qw])), (qw, .inl (cJ, 5, .inr (.inl w)))])) A) (Xf := fun A => vx_X (fun _ : Unit => True) (fun E _ t => (fun E : String => E = xIAE ∧ x < 0) E ∧ ag_to (dC, dI) agCl [(cI, .int), (cJ, .long)] A (fun _ : Unit => [(a, .inr (1, [.int (nI G), .int (nI R), .ref qm, .ref qs, .ref qt, .int (nI ms.length), .long (lN nw), .long (lN en), .int (nI mo), .long (lN la), .long (lN go), .long (lN sp)])), (qm, .inl (cI, 320, .inl f)), (qs, .inl (cI, 320, .inl g)), (qt, .inr (0, [.ref qw])), (qw, .inl (cJ, 5, .inr (.inl w)))]) () t) A) (cc := b_A_back) (maxL := 3) (ret := (some .long)) (lv := [(0, .ref a), (1, .long x)]) (by decide) rfl (Nat.le_of_ble_eq_true rfl) rfl (fun p e s m below meth c A ls hx hb hr hts hown hlocks hml hnm hA hS hP hK hD hl hsz hout hX => ?_)
  have hown : s.vm.findClass "AgedMarks" = some m.cls := hown
  have ht : ∀ w ∈ agW, w.before [.ref a, .long x].toArray s = true := fun w h => hts w (List.mem_cons_of_mem _ h)
  refine lv_lload_n hx hb d_A_back_0 rfl (lv_at hl 1 rfl) ?_
  refine ag_lconst hx hb 0 d_A_back_1 (by decide) ?_
  refine ag_lc_ge (tgt := 16) hx hb d_A_back_2 d_A_back_3 (by decide) (fun c2 => ?_) (fun c2 => ?_)
  · have h_n := trivial
    obtain ⟨n, hn63, rfl⟩ := pk_lOf (show ¬ x < 0 from Int64.not_lt.mpr c2)
    refine lv_aload_n hx hb d_A_back_16 rfl (lv_at hl 0 rfl) ?_
    refine lv_lload_n hx hb d_A_back_17 rfl (lv_at hl 1 rfl) ?_
    refine lv_aload_n hx hb d_A_back_18 rfl (lv_at hl 0 rfl) ?_
    refine va_get (D := (dC, dI)) (ci := 1) (v := .long (lN nw)) (C := RX1) (T := TX1) (N := 12) hx hb ht inA1 hown hK hP 0 rfl rfl 6 (by decide) (ht _ mw_f_A_56) (fun _ h9 => h9) rfl d_A_back_19 ?_
    refine ag_lc_le (tgt := 30) hx hb d_A_back_22 d_A_back_23 (by decide) (fun c22 => ?_) (fun c22 => ?_)
    · have h_n := trivial
      have hle := (pk_lLE (a := n) (b := nw) (by omega) (by omega)).mp c22
      refine lv_aload_n hx hb d_A_back_30 rfl (lv_at hl 0 rfl) ?_
      refine va_get (D := (dC, dI)) (ci := 1) (v := .long (lN nw)) (C := RX1) (T := TX1) (N := 12) hx hb ht inA1 hown hK hP 0 rfl rfl 6 (by decide) (ht _ mw_f_A_56) (fun _ h9 => h9) rfl d_A_back_31 ?_
      refine lv_lload_n hx hb d_A_back_34 rfl (lv_at hl 1 rfl) ?_
      refine lv_lsub hx hb d_A_back_35 ?_
      refine ag_topl (lN (nw - n)) (lN_sub (by omega)) ?_
      have hPc := hP.sub (ws' := [(a, .inr (1, [.int (nI G), .int (nI R), .ref qm, .ref qs, .ref qt, .int (nI ms.length), .long (lN nw), .long (lN en), .int (nI mo), .long (lN la), .long (lN go), .long (lN sp)])), (qm, .inl (cI, 320, .inl f)), (qs, .inl (cI, 320, .inl g)), (qt, .inr (0, [.ref qw])), (qw, .inl (cJ, 5, .inr (.inl w)))]) [0, 1, 2, 3, 4] rfl
      have hDc := hD.sub (ws' := [(a, .inr (1, [.int (nI G), .int (nI R), .ref qm, .ref qs, .ref qt, .int (nI ms.length), .long (lN nw), .long (lN en), .int (nI mo), .long (lN la), .long (lN go), .long (lN sp)])), (qm, .inl (cI, 320, .inl f)), (qs, .inl (cI, 320, .inl g)), (qt, .inr (0, [.ref qw])), (qw, .inl (cJ, 5, .inr (.inl w)))]) [0, 1, 2, 3, 4] (by decide) rfl
      refine ag_cll (wc := [(a, .inr (1, [.int (nI G), .int (nI R), .ref qm, .ref qs, .ref qt, .int (nI ms.length), .long (lN nw), .long (lN en), .int (nI mo), .long (lN la), .long (lN go), .long (lN sp)])), (qm, .inl (cI, 320, .inl f)), (qs, .inl (cI, 320, .inl g)), (qt, .inr (0, [.ref qw])), (qw, .inl (cJ, 5, .inr (.inl w)))]) (wr := []) (Wf := fun _ : Unit => [(a, .inr (1, [.int (nI G), .int (nI R), .ref qm, .ref qs, .ref qt, .int (nI ms.length), .long (lN (nw - n)), .long (lN en), .int (nI mo), .long (lN la), .long (lN go), .long (lN (sp + ag_cost G ms (nw - n)))])), (qm, .inl (cI, 320, .inl f)), (qs, .inl (cI, 320, .inl g)), (qt, .inr (0, [.ref qw])), (qw, .inl (cJ, 5, .inr (.inl w)))]) hP hD hS hA [0, 1, 2, 3, 4] [] rfl rfl (by decide) (by decide) (va_runV (C := "AgedMarks") (As := [.long (lN (nw - n))]) (rest := []) ⟨hx, hb, hml, hown, hts⟩ (c_A_moveTo l dC dI s.heap.size a qm qs qt qw cI cJ G R nw en mo la go sp f g w ms (nw - n) hG2 (by omega) hbd h0 h00 hrep) (ag_cwV 1 hts mw_m_A_76 mw_instanceMethod_A_moveTo mw_sel_A_moveTo mw_ini_A mw_code_A_moveTo rfl rfl (by decide +kernel) ⟨Nat.le_of_ble_eq_true rfl, Nat.le_of_ble_eq_true rfl⟩) ⟨ag_blind, va_recv hK hPc (ci := 1) (q0 := 0) rfl rfl, ag_pre hPc hK hDc⟩ rfl rfl hl.1 rfl (lv_room (Nat.le_of_ble_eq_true rfl)) d_A_back_36 ⟨Nat.le_of_ble_eq_true rfl, Nat.le_of_ble_eq_true rfl⟩) (fun r1 u H locs hw hP hD hS => ?_)
      try dsimp only at hw
      subst hw
      have hP : va_P (dC, dI) agCl [(a, .inr (1, [.int (nI G), .int (nI R), .ref qm, .ref qs, .ref qt, .int (nI ms.length), .long (lN (nw - n)), .long (lN en), .int (nI mo), .long (lN la), .long (lN go), .long (lN (sp + ag_cost G ms (nw - n)))])), (qm, .inl (cI, 320, .inl f)), (qs, .inl (cI, 320, .inl g)), (qt, .inr (0, [.ref qw])), (qw, .inl (cJ, 5, .inr (.inl w)))] H := hP
      have hD : va_D A [(a, .inr (1, [.int (nI G), .int (nI R), .ref qm, .ref qs, .ref qt, .int (nI ms.length), .long (lN (nw - n)), .long (lN en), .int (nI mo), .long (lN la), .long (lN go), .long (lN (sp + ag_cost G ms (nw - n)))])), (qm, .inl (cI, 320, .inl f)), (qs, .inl (cI, 320, .inl g)), (qt, .inr (0, [.ref qw])), (qw, .inl (cJ, 5, .inr (.inl w)))] := hD
      refine W.widen (k := 1) (n := 6) (by decide) (by decide) ?_
      refine vx_ret ?_
      exact ag_retl hx hb hr hlocks n (⟨rfl, hn63, rfl⟩) hP hK hD hS d_A_back_39
    · have h_n := trivial
      have hgt : nw < n := by have h9 := mt (pk_lLE (a := n) (b := nw) (by omega) (by omega)).mpr c22; omega
      refine ag_lconst hx hb 0 d_A_back_26 (by decide) ?_
      refine ag_topl (lN (nw - n)) (by rw [Nat.sub_eq_zero_of_le (by omega)]) ?_
      refine lv_goto (tgt := 36) hx hb d_A_back_27 (by decide) ?_
      have hPc := hP.sub (ws' := [(a, .inr (1, [.int (nI G), .int (nI R), .ref qm, .ref qs, .ref qt, .int (nI ms.length), .long (lN nw), .long (lN en), .int (nI mo), .long (lN la), .long (lN go), .long (lN sp)])), (qm, .inl (cI, 320, .inl f)), (qs, .inl (cI, 320, .inl g)), (qt, .inr (0, [.ref qw])), (qw, .inl (cJ, 5, .inr (.inl w)))]) [0, 1, 2, 3, 4] rfl
      have hDc := hD.sub (ws' := [(a, .inr (1, [.int (nI G), .int (nI R), .ref qm, .ref qs, .ref qt, .int (nI ms.length), .long (lN nw), .long (lN en), .int (nI mo), .long (lN la), .long (lN go), .long (lN sp)])), (qm, .inl (cI, 320, .inl f)), (qs, .inl (cI, 320, .inl g)), (qt, .inr (0, [.ref qw])), (qw, .inl (cJ, 5, .inr (.inl w)))]) [0, 1, 2, 3, 4] (by decide) rfl
      refine ag_cll (wc := [(a, .inr (1, [.int (nI G), .int (nI R), .ref qm, .ref qs, .ref qt, .int (nI ms.length), .long (lN nw), .long (lN en), .int (nI mo), .long (lN la), .long (lN go), .long (lN sp)])), (qm, .inl (cI, 320, .inl f)), (qs, .inl (cI, 320, .inl g)), (qt, .inr (0, [.ref qw])), (qw, .inl (cJ, 5, .inr (.inl w)))]) (wr := []) (Wf := fun _ : Unit => [(a, .inr (1, [.int (nI G), .int (nI R), .ref qm, .ref qs, .ref qt, .int (nI ms.length), .long (lN (nw - n)), .long (lN en), .int (nI mo), .long (lN la), .long (lN go), .long (lN (sp + ag_cost G ms (nw - n)))])), (qm, .inl (cI, 320, .inl f)), (qs, .inl (cI, 320, .inl g)), (qt, .inr (0, [.ref qw])), (qw, .inl (cJ, 5, .inr (.inl w)))]) hP hD hS hA [0, 1, 2, 3, 4] [] rfl rfl (by decide) (by decide) (va_runV (C := "AgedMarks") (As := [.long (lN (nw - n))]) (rest := []) ⟨hx, hb, hml, hown, hts⟩ (c_A_moveTo l dC dI s.heap.size a qm qs qt qw cI cJ G R nw en mo la go sp f g w ms (nw - n) hG2 (by omega) hbd h0 h00 hrep) (ag_cwV 1 hts mw_m_A_76 mw_instanceMethod_A_moveTo mw_sel_A_moveTo mw_ini_A mw_code_A_moveTo rfl rfl (by decide +kernel) ⟨Nat.le_of_ble_eq_true rfl, Nat.le_of_ble_eq_true rfl⟩) ⟨ag_blind, va_recv hK hPc (ci := 1) (q0 := 0) rfl rfl, ag_pre hPc hK hDc⟩ rfl rfl hl.1 rfl (lv_room (Nat.le_of_ble_eq_true rfl)) d_A_back_36 ⟨Nat.le_of_ble_eq_true rfl, Nat.le_of_ble_eq_true rfl⟩) (fun r2 u H locs hw hP hD hS => ?_)
      try dsimp only at hw
      subst hw
      have hP : va_P (dC, dI) agCl [(a, .inr (1, [.int (nI G), .int (nI R), .ref qm, .ref qs, .ref qt, .int (nI ms.length), .long (lN (nw - n)), .long (lN en), .int (nI mo), .long (lN la), .long (lN go), .long (lN (sp + ag_cost G ms (nw - n)))])), (qm, .inl (cI, 320, .inl f)), (qs, .inl (cI, 320, .inl g)), (qt, .inr (0, [.ref qw])), (qw, .inl (cJ, 5, .inr (.inl w)))] H := hP
      have hD : va_D A [(a, .inr (1, [.int (nI G), .int (nI R), .ref qm, .ref qs, .ref qt, .int (nI ms.length), .long (lN (nw - n)), .long (lN en), .int (nI mo), .long (lN la), .long (lN go), .long (lN (sp + ag_cost G ms (nw - n)))])), (qm, .inl (cI, 320, .inl f)), (qs, .inl (cI, 320, .inl g)), (qt, .inr (0, [.ref qw])), (qw, .inl (cJ, 5, .inr (.inl w)))] := hD
      refine W.widen (k := 1) (n := 6) (by decide) (by decide) ?_
      refine vx_ret ?_
      exact ag_retl hx hb hr hlocks n (⟨rfl, hn63, rfl⟩) hP hK hD hS d_A_back_39
  · have h_n := trivial
    obtain ⟨sa, hstr⟩ := hX.2.2.2.2.2.2.2.1
    exact ag_thr hx hb hlx hown (by decide) mw_c_A_49 mw_ini_Ill hstr ag_at_IAE ag_ot_IAE ht hX hS (hl.1.trans hml.symm) d_A_back_6 d_A_back_9 d_A_back_10 d_A_back_12 d_A_back_15 hout (by decide) (by decide) (by decide) (by decide) hlocks (⟨rfl, Int64.not_le.mp c2⟩) hP hK hD (by decide) (by decide)
end
section
section AgNew
theorem ag_Ku {D : va_G} {cl : List vw_C} {tys : List (ClassId × FieldType)} {s : State} (h : va_K D cl tys s) {c1 c2 : ClassId} (i j : Nat) (hi : tys[i]? = some (c1, .int)) (hj : tys[j]? = some (c2, .int)) : c1 = c2 := by
  have a : s.vm.findClass ("[" ++ FieldType.int.toString) = some c1 := (h.2 i _ hi).2
  have b : s.vm.findClass ("[" ++ FieldType.int.toString) = some c2 := (h.2 j _ hj).2
  exact Option.some.inj (a.symm.trans b)
theorem ag_KuL {D : va_G} {cl : List vw_C} {tys : List (ClassId × FieldType)} {s : State} (h : va_K D cl tys s) {c1 c2 : ClassId} (i j : Nat) (hi : tys[i]? = some (c1, .long)) (hj : tys[j]? = some (c2, .long)) : c1 = c2 := by
  have a : s.vm.findClass ("[" ++ FieldType.long.toString) = some c1 := (h.2 i _ hi).2
  have b : s.vm.findClass ("[" ++ FieldType.long.toString) = some c2 := (h.2 j _ hj).2
  exact Option.some.inj (a.symm.trans b)
/-- the nearest of lo .. hi -/
def ag_clamp (lo hi : Nat) (x : Int32) : Nat := if x.toInt < lo then lo else if (hi : Int) < x.toInt then hi else x.toInt.toNat
theorem ag_clamp_in {lo hi : Nat} (x : Int32) (h : lo ≤ hi) : lo ≤ ag_clamp lo hi x ∧ ag_clamp lo hi x ≤ hi := by
  unfold ag_clamp
  by_cases h1 : x.toInt < lo
  · rw [if_pos h1]; omega
  · rw [if_neg h1]
    by_cases h2 : (hi : Int) < x.toInt
    · rw [if_pos h2]; omega
    · rw [if_neg h2]; omega
theorem ag_clamp_nI {lo hi k : Nat} (hk : k < 2 ^ 31) : ag_clamp lo hi (nI k) = if k < lo then lo else if hi < k then hi else k := by
  unfold ag_clamp
  rw [nI_toInt hk]
  by_cases h1 : k < lo
  · rw [if_pos (by omega), if_pos h1]
  · rw [if_neg (by omega), if_neg h1]
    by_cases h2 : hi < k
    · rw [if_pos (by omega), if_pos h2]
    · rw [if_neg (by omega), if_neg h2]; omega
theorem ag_clamp_neg {lo hi : Nat} {x : Int32} (h : x < 0) : ag_clamp lo hi x = lo := by
  unfold ag_clamp
  have h1 := Int32.lt_iff_toInt_lt.mp h
  have h0 : (0 : Int32).toInt = 0 := rfl
  rw [if_pos (by omega)]
theorem ag_neg_lt {x : Int32} {k : Nat} (h : x < 0) (hk : k < 2 ^ 31) : x < nI k := by
  have h1 := Int32.lt_iff_toInt_lt.mp h
  have h0 : (0 : Int32).toInt = 0 := rfl
  exact Int32.lt_iff_toInt_lt.mpr (by rw [nI_toInt hk]; omega)
theorem ag_clampJ {lo hi : Nat} (x : Int32) (hlh : lo ≤ hi) (hh : hi < 2 ^ 31) : (if nI lo < (if x < nI hi then x else nI hi) then (if x < nI hi then x else nI hi) else nI lo) = nI (ag_clamp lo hi x) := by
  by_cases hx : x < 0
  · have h1 := ag_neg_lt (k := hi) hx hh
    have h2 : ¬ nI lo < x := fun q => by
      have h3 := Int32.lt_iff_toInt_lt.mp q
      have h4 := Int32.lt_iff_toInt_lt.mp hx
      have h0 : (0 : Int32).toInt = 0 := rfl
      rw [nI_toInt (by omega)] at h3
      omega
    rw [if_pos h1, if_neg h2, ag_clamp_neg hx]
  · obtain ⟨k, hk, rfl⟩ := nI_of hx
    rw [ag_clamp_nI hk]
    by_cases h1 : k < hi
    · rw [if_pos ((nI_ltI hk hh).mpr h1)]
      by_cases h2 : lo < k
      · rw [if_pos ((nI_ltI (by omega) hk).mpr h2), if_neg (by omega), if_neg (by omega)]
      · rw [if_neg (mt (nI_ltI (by omega) hk).mp h2)]
        by_cases h3 : k < lo
        · rw [if_pos h3]
        · rw [if_neg h3, if_neg (by omega), show k = lo by omega]
    · rw [if_neg (mt (nI_ltI hk hh).mp h1)]
      by_cases h2 : lo < hi
      · rw [if_pos ((nI_ltI (by omega) hh).mpr h2), if_neg (by omega)]
        by_cases h3 : hi < k
        · rw [if_pos h3]
        · rw [if_neg h3, show k = hi by omega]
      · rw [if_neg (mt (nI_ltI (by omega) hh).mp h2), show lo = hi by omega]
        by_cases h3 : hi < k
        · rw [if_neg (by omega), if_pos h3]
        · rw [if_neg (by omega), if_neg h3, show k = hi by omega]
theorem ag_bt0 (j : Nat) : ag_bt (fun _ => 0) j = false := by
  unfold ag_bt
  show (0#64).getLsbD _ = false
  simp
theorem ag_rep_new {f g : Nat → Int32} {w : Nat → Int64} (hf : f 0 = nI 0) (hg : g 0 = nI 0) (hw : ∀ j, ag_bt w j = (ag_bt (fun _ => 0) j || decide (j = 0))) : ag_rep [(0, 0)] f g w := by
  refine ⟨fun k hk => ?_, fun k hk => ?_⟩
  · have e : k = 0 := by simpa using hk
    subst e
    exact ⟨hf, hg⟩
  · rw [hw k, ag_bt0]
    simp
theorem ag_in_new (R : Nat) : ag_in R 0 [(0, 0)] := by
  refine ⟨⟨by simp, fun x hx => ?_, by simp, 0, [], rfl⟩, fun x hx => ?_⟩
  · have e : x = (0, 0) := by simpa using hx
    subst e
    exact ⟨Nat.le_refl _, ag_keep_0⟩
  · have e : x = (0, 0) := by simpa using hx
    subst e
    exact Nat.zero_le _
/-- a contract's start with one fact more of the state -/
def ag_atk (D : va_G) (cl : List vw_C) (tys : List (ClassId × FieldType)) (sz : Nat) (ws : va_W) (w : Cond) : State → Prop := fun U => ag_at D cl tys sz ws U ∧ va_Nw w U
theorem ag_blindk {D : va_G} {cl : List vw_C} {tys : List (ClassId × FieldType)} {sz : Nat} {ws : va_W} {av : List Value} {w : Cond} (hw : w.onTables = true) : FrameBlind (va_Pc av (ag_atk D cl tys sz ws w)) := fun a U g mk q => by
  obtain ⟨q0, ⟨q1, qP, qK, qD⟩, qx⟩ := q
  exact ⟨q0, ⟨q1, qP, va_K.moved (u := U) (U := U.calling g mk a) (Vm.Alike.refl U.vm) qK, qD⟩, va_Nw.same (u := U) (U := U.calling g mk a) hw rfl qx⟩
variable {l : Launch} {D : va_G} {cl : List vw_C} {tys : List (ClassId × FieldType)} {mc ms : Nat}
theorem ag_ofK {y : MethodName} {ws0 ws' : List Cond} {rm : Room} {sz : Nat} {wsc : va_W} {av : List Value} {lv : List (Nat × Value)} {w9 : Cond} {Qf : (Nat → Prop) → Array Value → State → Outcome → State → Prop} {cc : ByteArray} {maxL : Nat} {ret : Option FieldType}
    (hy : plainName y.cls = true) (hw : ws0 = Cond.code y cc maxL ret :: ws') (hlen : (lg_sl av).length ≤ maxL) (hlv : lv_args 0 av = lv)
    (body : ∀ (p : Program) (e : Env) (s : State) (m : MethodId) (below : List Frame) (meth : Method) (c : Code) (A : Nat → Prop) (ls : Array Slot), p.tables.exec = Jvm.exec → c.code = cc → meth.sig.returnType = ret → (∀ w ∈ ws0, w.before av.toArray s = true) → s.vm.findClass y.cls = some m.cls → meth.locks = false → c.maxLocals = maxL → meth.name = y.name →
      (∀ q : Nat, s.heap.size ≤ q → A q) → va_S A s.heap s.heap [] → va_P D cl wsc s.heap → va_K D cl tys s → va_D A wsc → lv_has ls maxL lv → s.heap.size = sz → va_Nw w9 s → W p l e rm s m av.toArray below meth c s.heap [] 0 0 (MQ below (Qf A) av.toArray s mc ms A) (F0 m 0 ls [])) :
    Met l y ws0 rm (va_Pc av (ag_atk D cl tys sz wsc w9)) (Qf (va_A wsc sz)) mc ms (va_A wsc sz) := by
  refine Met.ofW (cc := cc) (maxL := maxL) (ret := ret) hy hw ?_
  intro p e s m args below meth c s₁ B hml hv
  obtain ⟨rfl, ⟨hsz, hP, hK, hD0⟩, h9⟩ := hv
  subst hsz
  have hl := lv_entry av (n := maxL) hlen
  rw [hlv] at hl
  rw [lg_entry_eq]
  exact body p e s m below meth c _ _ B.exec B.bytes B.returns (atoms_spec (ws := ws0) B.pre) (findClass_of_methodNamed B.named) B.notSynchronized hml (name_of_methodNamed B.named B.method).1 (fun q h => Or.inr h) va_S.rf hP hK (hD0.self (sz := s.heap.size)) hl rfl h9
end AgNew
section AgRetz
variable {p : Program} {l : Launch} {e : Env} {R : Room} {s : State} {m : MethodId} {args : Array Value} {below : List Frame} {meth : Method} {c : Code} {H : Heap} {locs : List Loc} {cells slots : Nat} {Q : State → Prop} {pc : Nat} {ls : Array Slot} {D : va_G} {cl : List vw_C} {tys : List (ClassId × FieldType)}
theorem ag_retz {cc : ByteArray} {S : Type} {post : Int32 → S → Prop} {Wf : S → va_W} {v : Int32} {A : Nat → Prop} (hx : p.tables.exec = Jvm.exec) (hb : c.code = cc) (hr : meth.sig.returnType = some .boolean) (hv : narrow .boolean (.int v) = .int v) (hlocks : meth.locks = false) (u : S) (hp : post v u) (hP : va_P D cl (Wf u) H) (hK : va_K D cl tys s) (hD : va_D A (Wf u)) (hS : va_S A s.heap H locs) (hdg : decode cc pc = .ok (.ireturn, 1)) :
    W p l e R s m args below meth c H locs cells slots (MQ below (va_Qi post (ag_to D cl tys A Wf) A) args s cells slots A) (F0 m pc ls [.int v]) :=
  W.zret (v := v) hx hb hr hv (fun t ht hW => ⟨⟨v, u, rfl, hp, by rw [ht]; exact hP, va_K.moved hW.alike hK, hD⟩, hS.F ht⟩) hS.2.2 hdg hlocks
end AgRetz
end
section
set_option maxHeartbeats 4000000 in
set_option maxRecDepth 100000 in
/-- Slots() -/
theorem c_S_init (l : Launch) (dC : Nat → ClassId) (dI : Nat → Nat → Nat) (sz : Nat) (qt : Nat) (cJ : ClassId)  : Met l y_S_init (Cond.code y_S_init b_S_init 1 none :: agW) ({ frames := 1, cells := 1, slots := 5, locals := 12 }) (va_Pc [.ref qt] (ag_at (dC, dI) agCl [(cJ, .long)] sz [(qt, .inr (0, [.null]))])) (va_Qv (fun _ : Nat => True) (ag_to (dC, dI) agCl [(cJ, .long)] (va_A [(qt, .inr (0, [.null]))] sz) (fun u : Nat => [(qt, .inr (0, [.ref u])), (u, .inl (cJ, 5, .inr (.inl (fun _ => 0))))])) (va_A [(qt, .inr (0, [.null]))] sz)) 1 5 (va_A [(qt, .inr (0, [.null]))] sz) := by
  refine ag_ofW (Qf := fun A => va_Qv (fun _ : Nat => True) (ag_to (dC, dI) agCl [(cJ, .long)] A (fun u : Nat => [(qt, .inr (0, [.ref u])), (u, .inl (cJ, 5, .inr (.inl (fun _ => 0))))])) A) (cc := b_S_init) (maxL := 1) (ret := none) (lv := [(0, .ref qt)]) (by decide) rfl (Nat.le_of_ble_eq_true rfl) rfl (fun p e s m below meth c A ls hx hb hr hts hown hlocks hml hnm hA hS hP hK hD hl hsz => ?_)
  have hown : s.vm.findClass "AgedMarks$Slots" = some m.cls := hown
  have ht : ∀ w ∈ agW, w.before [.ref qt].toArray s = true := fun w h => hts w (List.mem_cons_of_mem _ h)
  refine lv_aload_n hx hb d_S_init_0 rfl (lv_at hl 0 rfl) ?_
  refine W.objInit hx hb hown (ht _ mw_m_S_3) (ht _ mw_instanceMethod_O_init) (ht _ mw_code_O_init) rfl (by rw [hml]; exact hl.1) rfl d_S_init_1 (Nat.le_of_ble_eq_true rfl) (Nat.le_of_ble_eq_true rfl) ?_
  refine W.eq (g2 := F0 m 4 ls []) rfl ?_
  have hnm : meth.name = "<init>" := hnm
  refine lv_aload_n hx hb d_S_init_4 rfl (lv_at hl 0 rfl) ?_
  refine ag_iconst hx hb 5 d_S_init_5 (by decide) ?_
  refine va_newa (atype := .long) (ty := .long) (N' := 5) (a0 := (5, .inr (.inl (fun _ => 0)))) hx hb (ht _ mw_arr__long_) rfl hK hP hD hS hA (fun _ => rfl) (nI_pos (by decide)) (nI_clamp (by decide)) (by decide) (Nat.le_of_ble_eq_true rfl) (Nat.le_of_ble_eq_true rfl) d_S_init_6 (fun qw c9 H hK9 hP hD hS => ?_)
  obtain rfl : cJ = c9 := ag_KuL hK9 0 1 rfl rfl
  clear hK9
  have hP : va_P (dC, dI) agCl [(qt, .inr (0, [.null])), (qw, .inl (cJ, 5, .inr (.inl (fun _ => 0))))] H := hP
  have hD : va_D A [(qt, .inr (0, [.null])), (qw, .inl (cJ, 5, .inr (.inl (fun _ => 0))))] := hD
  refine va_putF (D := (dC, dI)) (ci := 0) (v := .ref qw) (ty := .array .long) (C := RX0) (T := TX0) (N := 1) hx hb ht inA0 tyX0 tyX0_ok nmX0 hown hK hP hD hS 0 rfl rfl 0 (by decide) (ht _ mw_f_S_9) (fun _ h9 => h9) rfl hnm rfl (by decide +kernel) rfl rfl (Nat.le_of_ble_eq_true rfl) d_S_init_8 (fun H locs hP hD hS => ?_)
  have hP : va_P (dC, dI) agCl [(qt, .inr (0, [.ref qw])), (qw, .inl (cJ, 5, .inr (.inl (fun _ => 0))))] H := hP
  have hD : va_D A [(qt, .inr (0, [.ref qw])), (qw, .inl (cJ, 5, .inr (.inl (fun _ => 0))))] := hD
  refine W.widen (k := 1) (n := 5) (by decide) (by decide) ?_
  exact ag_retv hx hb hr hlocks qw trivial hP hK hD hS d_S_init_11

set_option maxHeartbeats 4000000 in
set_option maxRecDepth 100000 in
/-- AgedMarks(x, y) -/
theorem c_A_init (l : Launch) (dC : Nat → ClassId) (dI : Nat → Nat → Nat) (sz : Nat) (a : Nat) (cI cJ : ClassId) (x y : Int32)  : Met l y_A_init (Cond.code y_A_init b_A_init 3 none :: agW) ({ frames := 2, cells := 4, slots := 646, locals := 60 }) (va_Pc [.ref a, .int x, .int y] (ag_atk (dC, dI) agCl [(cI, .int), (cJ, .long)] sz [(a, .inr (1, [.int (nI 0), .int (nI 0), .null, .null, .null, .int (nI 0), .long (lN 0), .long (lN 0), .int (nI 0), .long (lN 0), .long (lN 0), .long (lN 0)]))] (Cond.methodLinkNest "AgedMarks" 18 y_S_init "AgedMarks"))) (va_Qv (fun u : Nat × Nat × Nat × Nat × (Nat → Int32) × (Nat → Int32) × (Nat → Int64) => ag_rep [(0, 0)] u.2.2.2.2.1 u.2.2.2.2.2.1 u.2.2.2.2.2.2) (ag_to (dC, dI) agCl [(cI, .int), (cJ, .long)] (va_A [(a, .inr (1, [.int (nI 0), .int (nI 0), .null, .null, .null, .int (nI 0), .long (lN 0), .long (lN 0), .int (nI 0), .long (lN 0), .long (lN 0), .long (lN 0)]))] sz) (fun u : Nat × Nat × Nat × Nat × (Nat → Int32) × (Nat → Int32) × (Nat → Int64) => [(a, .inr (1, [.int (nI (ag_clamp 1 1000 x)), .int (nI (ag_clamp 2 16 y)), .ref u.1, .ref u.2.1, .ref u.2.2.1, .int (nI 1), .long (lN 0), .long (lN 0), .int (nI 1), .long (lN 0), .long (lN 0), .long (lN 0)])), (u.1, .inl (cI, 320, .inl u.2.2.2.2.1)), (u.2.1, .inl (cI, 320, .inl u.2.2.2.2.2.1)), (u.2.2.1, .inr (0, [.ref u.2.2.2.1])), (u.2.2.2.1, .inl (cJ, 5, .inr (.inl u.2.2.2.2.2.2)))])) (va_A [(a, .inr (1, [.int (nI 0), .int (nI 0), .null, .null, .null, .int (nI 0), .long (lN 0), .long (lN 0), .int (nI 0), .long (lN 0), .long (lN 0), .long (lN 0)]))] sz)) 4 646 (va_A [(a, .inr (1, [.int (nI 0), .int (nI 0), .null, .null, .null, .int (nI 0), .long (lN 0), .long (lN 0), .int (nI 0), .long (lN 0), .long (lN 0), .long (lN 0)]))] sz) := by
  refine ag_ofK (Qf := fun A => va_Qv (fun u : Nat × Nat × Nat × Nat × (Nat → Int32) × (Nat → Int32) × (Nat → Int64) => ag_rep [(0, 0)] u.2.2.2.2.1 u.2.2.2.2.2.1 u.2.2.2.2.2.2) (ag_to (dC, dI) agCl [(cI, .int), (cJ, .long)] A (fun u : Nat × Nat × Nat × Nat × (Nat → Int32) × (Nat → Int32) × (Nat → Int64) => [(a, .inr (1, [.int (nI (ag_clamp 1 1000 x)), .int (nI (ag_clamp 2 16 y)), .ref u.1, .ref u.2.1, .ref u.2.2.1, .int (nI 1), .long (lN 0), .long (lN 0), .int (nI 1), .long (lN 0), .long (lN 0), .long (lN 0)])), (u.1, .inl (cI, 320, .inl u.2.2.2.2.1)), (u.2.1, .inl (cI, 320, .inl u.2.2.2.2.2.1)), (u.2.2.1, .inr (0, [.ref u.2.2.2.1])), (u.2.2.2.1, .inl (cJ, 5, .inr (.inl u.2.2.2.2.2.2)))])) A) (cc := b_A_init) (maxL := 3) (ret := none) (lv := [(0, .ref a), (1, .int x), (2, .int y)]) (by decide) rfl (Nat.le_of_ble_eq_true rfl) rfl (fun p e s m below meth c A ls hx hb hr hts hown hlocks hml hnm hA hS hP hK hD hl hsz hnest => ?_)
  have hown : s.vm.findClass "AgedMarks" = some m.cls := hown
  have ht : ∀ w ∈ agW, w.before [.ref a, .int x, .int y].toArray s = true := fun w h => hts w (List.mem_cons_of_mem _ h)
  refine lv_aload_n hx hb d_A_init_0 rfl (lv_at hl 0 rfl) ?_
  refine W.objInit hx hb hown (ht _ mw_m_A_3) (ht _ mw_instanceMethod_O_init) (ht _ mw_code_O_init) rfl (by rw [hml]; exact hl.1) rfl d_A_init_1 (Nat.le_of_ble_eq_true rfl) (Nat.le_of_ble_eq_true rfl) ?_
  refine W.eq (g2 := F0 m 4 ls []) rfl ?_
  have hnm : meth.name = "<init>" := hnm
  refine lv_aload_n hx hb d_A_init_4 rfl (lv_at hl 0 rfl) ?_
  refine ag_sipush hx hb 320 d_A_init_5 (by decide) ?_
  refine va_newa (atype := .int) (ty := .int) (N' := 320) (a0 := (320, .inl (fun _ => 0))) hx hb (ht _ mw_arr__int_) rfl hK hP hD hS hA (fun _ => rfl) (nI_pos (by decide)) (nI_clamp (by decide)) (by decide) (Nat.le_of_ble_eq_true rfl) (Nat.le_of_ble_eq_true rfl) d_A_init_8 (fun qm c9 H hK9 hP hD hS => ?_)
  obtain rfl : cI = c9 := ag_Ku hK9 0 2 rfl rfl
  clear hK9
  have hP : va_P (dC, dI) agCl [(a, .inr (1, [.int (nI 0), .int (nI 0), .null, .null, .null, .int (nI 0), .long (lN 0), .long (lN 0), .int (nI 0), .long (lN 0), .long (lN 0), .long (lN 0)])), (qm, .inl (cI, 320, .inl (fun _ => 0)))] H := hP
  have hD : va_D A [(a, .inr (1, [.int (nI 0), .int (nI 0), .null, .null, .null, .int (nI 0), .long (lN 0), .long (lN 0), .int (nI 0), .long (lN 0), .long (lN 0), .long (lN 0)])), (qm, .inl (cI, 320, .inl (fun _ => 0)))] := hD
  refine va_putF (D := (dC, dI)) (ci := 1) (v := .ref qm) (ty := .array .int) (C := RX1) (T := TX1) (N := 12) hx hb ht inA1 tyX1 tyX1_ok nmX1 hown hK hP hD hS 0 rfl rfl 2 (by decide) (ht _ mw_f_A_9) (fun _ h9 => h9) rfl hnm rfl (by decide +kernel) rfl rfl (Nat.le_of_ble_eq_true rfl) d_A_init_10 (fun H locs hP hD hS => ?_)
  have hP : va_P (dC, dI) agCl [(a, .inr (1, [.int (nI 0), .int (nI 0), .ref qm, .null, .null, .int (nI 0), .long (lN 0), .long (lN 0), .int (nI 0), .long (lN 0), .long (lN 0), .long (lN 0)])), (qm, .inl (cI, 320, .inl (fun _ => 0)))] H := hP
  have hD : va_D A [(a, .inr (1, [.int (nI 0), .int (nI 0), .ref qm, .null, .null, .int (nI 0), .long (lN 0), .long (lN 0), .int (nI 0), .long (lN 0), .long (lN 0), .long (lN 0)])), (qm, .inl (cI, 320, .inl (fun _ => 0)))] := hD
  refine lv_aload_n hx hb d_A_init_13 rfl (lv_at hl 0 rfl) ?_
  refine ag_sipush hx hb 320 d_A_init_14 (by decide) ?_
  refine va_newa (atype := .int) (ty := .int) (N' := 320) (a0 := (320, .inl (fun _ => 0))) hx hb (ht _ mw_arr__int_) rfl hK hP hD hS hA (fun _ => rfl) (nI_pos (by decide)) (nI_clamp (by decide)) (by decide) (Nat.le_of_ble_eq_true rfl) (Nat.le_of_ble_eq_true rfl) d_A_init_17 (fun qs c9 H hK9 hP hD hS => ?_)
  obtain rfl : cI = c9 := ag_Ku hK9 0 2 rfl rfl
  clear hK9
  have hP : va_P (dC, dI) agCl [(a, .inr (1, [.int (nI 0), .int (nI 0), .ref qm, .null, .null, .int (nI 0), .long (lN 0), .long (lN 0), .int (nI 0), .long (lN 0), .long (lN 0), .long (lN 0)])), (qm, .inl (cI, 320, .inl (fun _ => 0))), (qs, .inl (cI, 320, .inl (fun _ => 0)))] H := hP
  have hD : va_D A [(a, .inr (1, [.int (nI 0), .int (nI 0), .ref qm, .null, .null, .int (nI 0), .long (lN 0), .long (lN 0), .int (nI 0), .long (lN 0), .long (lN 0), .long (lN 0)])), (qm, .inl (cI, 320, .inl (fun _ => 0))), (qs, .inl (cI, 320, .inl (fun _ => 0)))] := hD
  refine va_putF (D := (dC, dI)) (ci := 1) (v := .ref qs) (ty := .array .int) (C := RX1) (T := TX1) (N := 12) hx hb ht inA1 tyX1 tyX1_ok nmX1 hown hK hP hD hS 0 rfl rfl 3 (by decide) (ht _ mw_f_A_13) (fun _ h9 => h9) rfl hnm rfl (by decide +kernel) rfl rfl (Nat.le_of_ble_eq_true rfl) d_A_init_19 (fun H locs hP hD hS => ?_)
  have hP : va_P (dC, dI) agCl [(a, .inr (1, [.int (nI 0), .int (nI 0), .ref qm, .ref qs, .null, .int (nI 0), .long (lN 0), .long (lN 0), .int (nI 0), .long (lN 0), .long (lN 0), .long (lN 0)])), (qm, .inl (cI, 320, .inl (fun _ => 0))), (qs, .inl (cI, 320, .inl (fun _ => 0)))] H := hP
  have hD : va_D A [(a, .inr (1, [.int (nI 0), .int (nI 0), .ref qm, .ref qs, .null, .int (nI 0), .long (lN 0), .long (lN 0), .int (nI 0), .long (lN 0), .long (lN 0), .long (lN 0)])), (qm, .inl (cI, 320, .inl (fun _ => 0))), (qs, .inl (cI, 320, .inl (fun _ => 0)))] := hD
  refine lv_aload_n hx hb d_A_init_22 rfl (lv_at hl 0 rfl) ?_
  refine va_new (ci := 0) (fs := [.null]) (C := RX0) (T := TX0) (N := 1) hx hb ht inA0 tyX0 tyX0_ok hown (ht _ mw_c_A_16) (ht _ mw_new_S) (ht _ mw_ini_S) hK hP hD hS hA rfl (fun j hj => by rcases (show j = 0 by omega) with rfl; rfl) (Nat.le_of_ble_eq_true rfl) (Nat.le_of_ble_eq_true rfl) d_A_init_23 (fun qt H hP hD hS => ?_)
  have hP : va_P (dC, dI) agCl [(a, .inr (1, [.int (nI 0), .int (nI 0), .ref qm, .ref qs, .null, .int (nI 0), .long (lN 0), .long (lN 0), .int (nI 0), .long (lN 0), .long (lN 0), .long (lN 0)])), (qm, .inl (cI, 320, .inl (fun _ => 0))), (qs, .inl (cI, 320, .inl (fun _ => 0))), (qt, .inr (0, [.null]))] H := hP
  have hD : va_D A [(a, .inr (1, [.int (nI 0), .int (nI 0), .ref qm, .ref qs, .null, .int (nI 0), .long (lN 0), .long (lN 0), .int (nI 0), .long (lN 0), .long (lN 0), .long (lN 0)])), (qm, .inl (cI, 320, .inl (fun _ => 0))), (qs, .inl (cI, 320, .inl (fun _ => 0))), (qt, .inr (0, [.null]))] := hD
  refine lv_dup hx hb d_A_init_26 rfl ?_
  have hPc := hP.sub (ws' := [(qt, .inr (0, [.null]))]) [3] rfl
  have hDc := hD.sub (ws' := [(qt, .inr (0, [.null]))]) [3] (by decide) rfl
  have hKc := hK.sub (tys' := [(cJ, .long)]) [1] rfl
  refine ag_clv (wc := [(qt, .inr (0, [.null]))]) (wr := [(a, .inr (1, [.int (nI 0), .int (nI 0), .ref qm, .ref qs, .null, .int (nI 0), .long (lN 0), .long (lN 0), .int (nI 0), .long (lN 0), .long (lN 0), .long (lN 0)])), (qm, .inl (cI, 320, .inl (fun _ => 0))), (qs, .inl (cI, 320, .inl (fun _ => 0)))]) (Wf := fun u : Nat => [(qt, .inr (0, [.ref u])), (u, .inl (cJ, 5, .inr (.inl (fun _ => 0))))]) hP hD hS hA [3] [0, 1, 2] rfl rfl (by decide) (by decide) (va_runIN (As := []) (rest := [.ref qt, .ref a]) ⟨hx, hb, hml, hown, hts⟩ (c_S_init l dC dI H.size qt cJ) ⟨va_cnB 0 hts (ag_goodIn (fun w h => by rcases List.mem_cons.mp h with rfl | h; exact mw_code_S_init; exact h)) rfl rfl rfl hnest (ht _ mw_ini_S) (by decide +kernel) ⟨Nat.le_of_ble_eq_true rfl, Nat.le_of_ble_eq_true rfl⟩, rfl, ht _ mw_instanceMethod_S_init⟩ ⟨ag_blind, ag_pre hPc hKc hDc⟩ rfl rfl hl.1 rfl (lv_room (Nat.le_of_ble_eq_true rfl)) d_A_init_27 ⟨Nat.le_of_ble_eq_true rfl, Nat.le_of_ble_eq_true rfl⟩) (fun qw H locs hw hP hD hS => ?_)
  have hP : va_P (dC, dI) agCl [(a, .inr (1, [.int (nI 0), .int (nI 0), .ref qm, .ref qs, .null, .int (nI 0), .long (lN 0), .long (lN 0), .int (nI 0), .long (lN 0), .long (lN 0), .long (lN 0)])), (qm, .inl (cI, 320, .inl (fun _ => 0))), (qs, .inl (cI, 320, .inl (fun _ => 0))), (qt, .inr (0, [.ref qw])), (qw, .inl (cJ, 5, .inr (.inl (fun _ => 0))))] H := hP
  have hD : va_D A [(a, .inr (1, [.int (nI 0), .int (nI 0), .ref qm, .ref qs, .null, .int (nI 0), .long (lN 0), .long (lN 0), .int (nI 0), .long (lN 0), .long (lN 0), .long (lN 0)])), (qm, .inl (cI, 320, .inl (fun _ => 0))), (qs, .inl (cI, 320, .inl (fun _ => 0))), (qt, .inr (0, [.ref qw])), (qw, .inl (cJ, 5, .inr (.inl (fun _ => 0))))] := hD
  refine va_putF (D := (dC, dI)) (ci := 1) (v := .ref qt) (ty := .object "AgedMarks$Slots") (C := RX1) (T := TX1) (N := 12) hx hb ht inA1 tyX1 tyX1_ok nmX1 hown hK hP hD hS 0 rfl rfl 4 (by decide) (ht _ mw_f_A_19) (fun _ h9 => h9) rfl hnm rfl (by decide +kernel) rfl rfl (Nat.le_of_ble_eq_true rfl) d_A_init_30 (fun H locs hP hD hS => ?_)
  have hP : va_P (dC, dI) agCl [(a, .inr (1, [.int (nI 0), .int (nI 0), .ref qm, .ref qs, .ref qt, .int (nI 0), .long (lN 0), .long (lN 0), .int (nI 0), .long (lN 0), .long (lN 0), .long (lN 0)])), (qm, .inl (cI, 320, .inl (fun _ => 0))), (qs, .inl (cI, 320, .inl (fun _ => 0))), (qt, .inr (0, [.ref qw])), (qw, .inl (cJ, 5, .inr (.inl (fun _ => 0))))] H := hP
  have hD : va_D A [(a, .inr (1, [.int (nI 0), .int (nI 0), .ref qm, .ref qs, .ref qt, .int (nI 0), .long (lN 0), .long (lN 0), .int (nI 0), .long (lN 0), .long (lN 0), .long (lN 0)])), (qm, .inl (cI, 320, .inl (fun _ => 0))), (qs, .inl (cI, 320, .inl (fun _ => 0))), (qt, .inr (0, [.ref qw])), (qw, .inl (cJ, 5, .inr (.inl (fun _ => 0))))] := hD
  refine lv_aload_n hx hb d_A_init_33 rfl (lv_at hl 0 rfl) ?_
  refine ag_iconst hx hb 1 d_A_init_34 (by decide) ?_
  refine ag_sipush hx hb 1000 d_A_init_35 (by decide) ?_
  refine lv_iload_n hx hb d_A_init_38 rfl (lv_at hl 1 rfl) ?_
  refine va_mmin hx hb (hml.trans hl.1.symm) hown (ht _ mw_m_A_23) (ht _ mw_static_H_min) (ht _ mw_ini_H) (ht _ mw_code_H_min) (Nat.le_of_ble_eq_true rfl) (Nat.le_of_ble_eq_true rfl) (Nat.le_of_ble_eq_true rfl) (Nat.le_of_ble_eq_true rfl) d_A_init_39 ?_
  refine ag_topi (if x < nI 1000 then x else nI 1000) rfl ?_
  refine va_mmax hx hb (hml.trans hl.1.symm) hown (ht _ mw_m_A_29) (ht _ mw_static_H_max) (ht _ mw_ini_H) (ht _ mw_code_H_max) (Nat.le_of_ble_eq_true rfl) (Nat.le_of_ble_eq_true rfl) (Nat.le_of_ble_eq_true rfl) (Nat.le_of_ble_eq_true rfl) d_A_init_42 ?_
  refine ag_topi (nI (ag_clamp 1 1000 x)) (ag_clampJ x (by decide) (by decide)) ?_
  refine va_putF (D := (dC, dI)) (ci := 1) (v := .int (nI (ag_clamp 1 1000 x))) (ty := .int) (C := RX1) (T := TX1) (N := 12) hx hb ht inA1 tyX1 tyX1_ok nmX1 hown hK hP hD hS 0 rfl rfl 0 (by decide) (ht _ mw_f_A_32) (fun _ h9 => h9) rfl hnm rfl (by decide +kernel) rfl rfl (Nat.le_of_ble_eq_true rfl) d_A_init_45 (fun H locs hP hD hS => ?_)
  have hP : va_P (dC, dI) agCl [(a, .inr (1, [.int (nI (ag_clamp 1 1000 x)), .int (nI 0), .ref qm, .ref qs, .ref qt, .int (nI 0), .long (lN 0), .long (lN 0), .int (nI 0), .long (lN 0), .long (lN 0), .long (lN 0)])), (qm, .inl (cI, 320, .inl (fun _ => 0))), (qs, .inl (cI, 320, .inl (fun _ => 0))), (qt, .inr (0, [.ref qw])), (qw, .inl (cJ, 5, .inr (.inl (fun _ => 0))))] H := hP
  have hD : va_D A [(a, .inr (1, [.int (nI (ag_clamp 1 1000 x)), .int (nI 0), .ref qm, .ref qs, .ref qt, .int (nI 0), .long (lN 0), .long (lN 0), .int (nI 0), .long (lN 0), .long (lN 0), .long (lN 0)])), (qm, .inl (cI, 320, .inl (fun _ => 0))), (qs, .inl (cI, 320, .inl (fun _ => 0))), (qt, .inr (0, [.ref qw])), (qw, .inl (cJ, 5, .inr (.inl (fun _ => 0))))] := hD
  refine lv_aload_n hx hb d_A_init_48 rfl (lv_at hl 0 rfl) ?_
  refine ag_iconst hx hb 2 d_A_init_49 (by decide) ?_
  refine ag_bipush hx hb 16 d_A_init_50 (by decide) ?_
  refine lv_iload_n hx hb d_A_init_52 rfl (lv_at hl 2 rfl) ?_
  refine va_mmin hx hb (hml.trans hl.1.symm) hown (ht _ mw_m_A_23) (ht _ mw_static_H_min) (ht _ mw_ini_H) (ht _ mw_code_H_min) (Nat.le_of_ble_eq_true rfl) (Nat.le_of_ble_eq_true rfl) (Nat.le_of_ble_eq_true rfl) (Nat.le_of_ble_eq_true rfl) d_A_init_53 ?_
  refine ag_topi (if y < nI 16 then y else nI 16) rfl ?_
  refine va_mmax hx hb (hml.trans hl.1.symm) hown (ht _ mw_m_A_29) (ht _ mw_static_H_max) (ht _ mw_ini_H) (ht _ mw_code_H_max) (Nat.le_of_ble_eq_true rfl) (Nat.le_of_ble_eq_true rfl) (Nat.le_of_ble_eq_true rfl) (Nat.le_of_ble_eq_true rfl) d_A_init_56 ?_
  refine ag_topi (nI (ag_clamp 2 16 y)) (ag_clampJ y (by decide) (by decide)) ?_
  refine va_putF (D := (dC, dI)) (ci := 1) (v := .int (nI (ag_clamp 2 16 y))) (ty := .int) (C := RX1) (T := TX1) (N := 12) hx hb ht inA1 tyX1 tyX1_ok nmX1 hown hK hP hD hS 0 rfl rfl 1 (by decide) (ht _ mw_f_A_36) (fun _ h9 => h9) rfl hnm rfl (by decide +kernel) rfl rfl (Nat.le_of_ble_eq_true rfl) d_A_init_59 (fun H locs hP hD hS => ?_)
  have hP : va_P (dC, dI) agCl [(a, .inr (1, [.int (nI (ag_clamp 1 1000 x)), .int (nI (ag_clamp 2 16 y)), .ref qm, .ref qs, .ref qt, .int (nI 0), .long (lN 0), .long (lN 0), .int (nI 0), .long (lN 0), .long (lN 0), .long (lN 0)])), (qm, .inl (cI, 320, .inl (fun _ => 0))), (qs, .inl (cI, 320, .inl (fun _ => 0))), (qt, .inr (0, [.ref qw])), (qw, .inl (cJ, 5, .inr (.inl (fun _ => 0))))] H := hP
  have hD : va_D A [(a, .inr (1, [.int (nI (ag_clamp 1 1000 x)), .int (nI (ag_clamp 2 16 y)), .ref qm, .ref qs, .ref qt, .int (nI 0), .long (lN 0), .long (lN 0), .int (nI 0), .long (lN 0), .long (lN 0), .long (lN 0)])), (qm, .inl (cI, 320, .inl (fun _ => 0))), (qs, .inl (cI, 320, .inl (fun _ => 0))), (qt, .inr (0, [.ref qw])), (qw, .inl (cJ, 5, .inr (.inl (fun _ => 0))))] := hD
  refine lv_aload_n hx hb d_A_init_62 rfl (lv_at hl 0 rfl) ?_
  refine va_get (D := (dC, dI)) (ci := 1) (v := .ref qm) (C := RX1) (T := TX1) (N := 12) hx hb ht inA1 hown hK hP 0 rfl rfl 2 (by decide) (ht _ mw_f_A_9) (fun _ h9 => h9) rfl d_A_init_63 ?_
  refine ag_iconst hx hb 0 d_A_init_66 (by decide) ?_
  refine ag_iconst hx hb 0 d_A_init_67 (by decide) ?_
  refine ag_iast hx hb hK hP hD hS 1 0 rfl rfl (by omega) (by decide) d_A_init_68 (fun H locs hP hD hS => ?_)
  have hP : va_P (dC, dI) agCl [(a, .inr (1, [.int (nI (ag_clamp 1 1000 x)), .int (nI (ag_clamp 2 16 y)), .ref qm, .ref qs, .ref qt, .int (nI 0), .long (lN 0), .long (lN 0), .int (nI 0), .long (lN 0), .long (lN 0), .long (lN 0)])), (qm, .inl (cI, 320, .inl (upd (fun _ => 0) 0 (nI 0)))), (qs, .inl (cI, 320, .inl (fun _ => 0))), (qt, .inr (0, [.ref qw])), (qw, .inl (cJ, 5, .inr (.inl (fun _ => 0))))] H := hP
  have hD : va_D A [(a, .inr (1, [.int (nI (ag_clamp 1 1000 x)), .int (nI (ag_clamp 2 16 y)), .ref qm, .ref qs, .ref qt, .int (nI 0), .long (lN 0), .long (lN 0), .int (nI 0), .long (lN 0), .long (lN 0), .long (lN 0)])), (qm, .inl (cI, 320, .inl (upd (fun _ => 0) 0 (nI 0)))), (qs, .inl (cI, 320, .inl (fun _ => 0))), (qt, .inr (0, [.ref qw])), (qw, .inl (cJ, 5, .inr (.inl (fun _ => 0))))] := hD
  refine lv_aload_n hx hb d_A_init_69 rfl (lv_at hl 0 rfl) ?_
  refine va_get (D := (dC, dI)) (ci := 1) (v := .ref qs) (C := RX1) (T := TX1) (N := 12) hx hb ht inA1 hown hK hP 0 rfl rfl 3 (by decide) (ht _ mw_f_A_13) (fun _ h9 => h9) rfl d_A_init_70 ?_
  refine ag_iconst hx hb 0 d_A_init_73 (by decide) ?_
  refine lv_aload_n hx hb d_A_init_74 rfl (lv_at hl 0 rfl) ?_
  refine va_get (D := (dC, dI)) (ci := 1) (v := .ref qt) (C := RX1) (T := TX1) (N := 12) hx hb ht inA1 hown hK hP 0 rfl rfl 4 (by decide) (ht _ mw_f_A_19) (fun _ h9 => h9) rfl d_A_init_75 ?_
  have hPc := hP.sub (ws' := [(qt, .inr (0, [.ref qw])), (qw, .inl (cJ, 5, .inr (.inl (fun _ => 0))))]) [3, 4] rfl
  have hDc := hD.sub (ws' := [(qt, .inr (0, [.ref qw])), (qw, .inl (cJ, 5, .inr (.inl (fun _ => 0))))]) [3, 4] (by decide) rfl
  have hKc := hK.sub (tys' := [(cJ, .long)]) [1] rfl
  refine ag_cli (wc := [(qt, .inr (0, [.ref qw])), (qw, .inl (cJ, 5, .inr (.inl (fun _ => 0))))]) (wr := [(a, .inr (1, [.int (nI (ag_clamp 1 1000 x)), .int (nI (ag_clamp 2 16 y)), .ref qm, .ref qs, .ref qt, .int (nI 0), .long (lN 0), .long (lN 0), .int (nI 0), .long (lN 0), .long (lN 0), .long (lN 0)])), (qm, .inl (cI, 320, .inl (upd (fun _ => 0) 0 (nI 0)))), (qs, .inl (cI, 320, .inl (fun _ => 0)))]) (Wf := fun u : Nat → Int64 => [(qt, .inr (0, [.ref qw])), (qw, .inl (cJ, 5, .inr (.inl u)))]) hP hD hS hA [3, 4] [0, 1, 2] rfl rfl (by decide) (by decide) (va_runV (C := "AgedMarks$Slots") (As := []) (rest := [.int (nI 0), .ref qs]) ⟨hx, hb, hml, hown, hts⟩ (c_S_takeLeast l dC dI H.size qt qw cJ (fun _ => 0) 0 (by decide) (ag_bt0 0) (fun j hj => absurd hj (by omega))) (ag_cwV 0 hts mw_m_A_39 mw_instanceMethod_S_takeLeast mw_sel_S_takeLeast mw_ini_S mw_code_S_takeLeast rfl rfl (by decide +kernel) ⟨Nat.le_of_ble_eq_true rfl, Nat.le_of_ble_eq_true rfl⟩) ⟨ag_blind, va_recv hK hPc (ci := 0) (q0 := 0) rfl rfl, ag_pre hPc hKc hDc⟩ rfl rfl hl.1 rfl (lv_room (Nat.le_of_ble_eq_true rfl)) d_A_init_78 ⟨Nat.le_of_ble_eq_true rfl, Nat.le_of_ble_eq_true rfl⟩) (fun r1 w1 H locs hw hP hD hS => ?_)
  try dsimp only at hw
  obtain ⟨rfl, hw⟩ := hw
  have hP : va_P (dC, dI) agCl [(a, .inr (1, [.int (nI (ag_clamp 1 1000 x)), .int (nI (ag_clamp 2 16 y)), .ref qm, .ref qs, .ref qt, .int (nI 0), .long (lN 0), .long (lN 0), .int (nI 0), .long (lN 0), .long (lN 0), .long (lN 0)])), (qm, .inl (cI, 320, .inl (upd (fun _ => 0) 0 (nI 0)))), (qs, .inl (cI, 320, .inl (fun _ => 0))), (qt, .inr (0, [.ref qw])), (qw, .inl (cJ, 5, .inr (.inl w1)))] H := hP
  have hD : va_D A [(a, .inr (1, [.int (nI (ag_clamp 1 1000 x)), .int (nI (ag_clamp 2 16 y)), .ref qm, .ref qs, .ref qt, .int (nI 0), .long (lN 0), .long (lN 0), .int (nI 0), .long (lN 0), .long (lN 0), .long (lN 0)])), (qm, .inl (cI, 320, .inl (upd (fun _ => 0) 0 (nI 0)))), (qs, .inl (cI, 320, .inl (fun _ => 0))), (qt, .inr (0, [.ref qw])), (qw, .inl (cJ, 5, .inr (.inl w1)))] := hD
  refine ag_iast hx hb hK hP hD hS 2 0 rfl rfl (by omega) (by decide) d_A_init_81 (fun H locs hP hD hS => ?_)
  have hP : va_P (dC, dI) agCl [(a, .inr (1, [.int (nI (ag_clamp 1 1000 x)), .int (nI (ag_clamp 2 16 y)), .ref qm, .ref qs, .ref qt, .int (nI 0), .long (lN 0), .long (lN 0), .int (nI 0), .long (lN 0), .long (lN 0), .long (lN 0)])), (qm, .inl (cI, 320, .inl (upd (fun _ => 0) 0 (nI 0)))), (qs, .inl (cI, 320, .inl (upd (fun _ => 0) 0 (nI 0)))), (qt, .inr (0, [.ref qw])), (qw, .inl (cJ, 5, .inr (.inl w1)))] H := hP
  have hD : va_D A [(a, .inr (1, [.int (nI (ag_clamp 1 1000 x)), .int (nI (ag_clamp 2 16 y)), .ref qm, .ref qs, .ref qt, .int (nI 0), .long (lN 0), .long (lN 0), .int (nI 0), .long (lN 0), .long (lN 0), .long (lN 0)])), (qm, .inl (cI, 320, .inl (upd (fun _ => 0) 0 (nI 0)))), (qs, .inl (cI, 320, .inl (upd (fun _ => 0) 0 (nI 0)))), (qt, .inr (0, [.ref qw])), (qw, .inl (cJ, 5, .inr (.inl w1)))] := hD
  refine lv_aload_n hx hb d_A_init_82 rfl (lv_at hl 0 rfl) ?_
  refine ag_iconst hx hb 1 d_A_init_83 (by decide) ?_
  refine va_put (D := (dC, dI)) (ci := 1) (v := .int (nI 1)) (ty := .int) (C := RX1) (T := TX1) (N := 12) hx hb ht inA1 tyX1 tyX1_ok nmX1 hown hK hP hD hS 0 rfl rfl 5 (by decide) (ht _ mw_f_A_43) (fun _ h9 => h9) rfl (by decide +kernel) rfl rfl (Nat.le_of_ble_eq_true rfl) d_A_init_84 (fun H locs hP hD hS => ?_)
  have hP : va_P (dC, dI) agCl [(a, .inr (1, [.int (nI (ag_clamp 1 1000 x)), .int (nI (ag_clamp 2 16 y)), .ref qm, .ref qs, .ref qt, .int (nI 1), .long (lN 0), .long (lN 0), .int (nI 0), .long (lN 0), .long (lN 0), .long (lN 0)])), (qm, .inl (cI, 320, .inl (upd (fun _ => 0) 0 (nI 0)))), (qs, .inl (cI, 320, .inl (upd (fun _ => 0) 0 (nI 0)))), (qt, .inr (0, [.ref qw])), (qw, .inl (cJ, 5, .inr (.inl w1)))] H := hP
  have hD : va_D A [(a, .inr (1, [.int (nI (ag_clamp 1 1000 x)), .int (nI (ag_clamp 2 16 y)), .ref qm, .ref qs, .ref qt, .int (nI 1), .long (lN 0), .long (lN 0), .int (nI 0), .long (lN 0), .long (lN 0), .long (lN 0)])), (qm, .inl (cI, 320, .inl (upd (fun _ => 0) 0 (nI 0)))), (qs, .inl (cI, 320, .inl (upd (fun _ => 0) 0 (nI 0)))), (qt, .inr (0, [.ref qw])), (qw, .inl (cJ, 5, .inr (.inl w1)))] := hD
  refine lv_aload_n hx hb d_A_init_87 rfl (lv_at hl 0 rfl) ?_
  refine ag_iconst hx hb 1 d_A_init_88 (by decide) ?_
  refine va_put (D := (dC, dI)) (ci := 1) (v := .int (nI 1)) (ty := .int) (C := RX1) (T := TX1) (N := 12) hx hb ht inA1 tyX1 tyX1_ok nmX1 hown hK hP hD hS 0 rfl rfl 8 (by decide) (ht _ mw_f_A_46) (fun _ h9 => h9) rfl (by decide +kernel) rfl rfl (Nat.le_of_ble_eq_true rfl) d_A_init_89 (fun H locs hP hD hS => ?_)
  have hP : va_P (dC, dI) agCl [(a, .inr (1, [.int (nI (ag_clamp 1 1000 x)), .int (nI (ag_clamp 2 16 y)), .ref qm, .ref qs, .ref qt, .int (nI 1), .long (lN 0), .long (lN 0), .int (nI 1), .long (lN 0), .long (lN 0), .long (lN 0)])), (qm, .inl (cI, 320, .inl (upd (fun _ => 0) 0 (nI 0)))), (qs, .inl (cI, 320, .inl (upd (fun _ => 0) 0 (nI 0)))), (qt, .inr (0, [.ref qw])), (qw, .inl (cJ, 5, .inr (.inl w1)))] H := hP
  have hD : va_D A [(a, .inr (1, [.int (nI (ag_clamp 1 1000 x)), .int (nI (ag_clamp 2 16 y)), .ref qm, .ref qs, .ref qt, .int (nI 1), .long (lN 0), .long (lN 0), .int (nI 1), .long (lN 0), .long (lN 0), .long (lN 0)])), (qm, .inl (cI, 320, .inl (upd (fun _ => 0) 0 (nI 0)))), (qs, .inl (cI, 320, .inl (upd (fun _ => 0) 0 (nI 0)))), (qt, .inr (0, [.ref qw])), (qw, .inl (cJ, 5, .inr (.inl w1)))] := hD
  refine W.widen (k := 4) (n := 646) (by decide) (by decide) ?_
  exact ag_retv hx hb hr hlocks (qm, qs, qt, qw, upd (fun _ => 0) 0 (nI 0), upd (fun _ => 0) 0 (nI 0), w1) (ag_rep_new rfl rfl hw) hP hK hD hS d_A_init_92
end
section
section AgRpm
/-- the reference's arrays hold the marks -/
def ag_rpm (ms : ag_M) (f g : Nat → Int32) : Prop := ∀ (k : Nat) (h : k < ms.length), f k = nI (ms[k]).1 ∧ g k = nI (ms[k]).2
def ag_slo (ms : ag_M) (k : Nat) : Nat := (ms.getD k (0, 0)).2
theorem ag_slo_eq {ms : ag_M} {k : Nat} (h : k < ms.length) : ag_slo ms k = (ms[k]).2 := by
  unfold ag_slo
  rw [List.getD_eq_getElem?_getD, List.getElem?_eq_getElem h]
  rfl
/-- what mark(k, j) answers -/
def ag_mark (G : Nat) (ms : ag_M) (k j : Nat) : Int64 := if j = 0 then lN (ag_num ms k * G) else if j = 1 then lN (ag_slo ms k) else lN (ag_num ms (ms.length - 1) - ag_num ms k)
end AgRpm

set_option maxHeartbeats 4000000 in
set_option maxRecDepth 100000 in
/-- thrown() -/
theorem c_M_thrown (l : Launch) (dC : Nat → ClassId) (dI : Nat → Nat → Nat) (sz : Nat) (b qn qk : Nat) (cI : ClassId) (cd G R en nw mo la go sp : Nat) (f g : Nat → Int32) (ms : ag_M)  : Met l y_M_thrown (Cond.code y_M_thrown b_M_thrown 1 (some .int) :: agW) ({ frames := 0, cells := 0, slots := 0, locals := 0 }) (va_Pc [.ref b] (ag_at (dC, dI) agCl [(cI, .int)] sz [(b, .inr (2, [.int (nI cd), .int (nI G), .int (nI R), .long (lN en), .long (lN nw), .int (nI ms.length), .ref qn, .ref qk, .int (nI mo), .long (lN la), .long (lN go), .long (lN sp)])), (qn, .inl (cI, 1200, .inl f)), (qk, .inl (cI, 1200, .inl g))])) (va_Qi (fun (r : Int32) (_ : Unit) => r = nI cd) (ag_to (dC, dI) agCl [(cI, .int)] (va_A [(b, .inr (2, [.int (nI cd), .int (nI G), .int (nI R), .long (lN en), .long (lN nw), .int (nI ms.length), .ref qn, .ref qk, .int (nI mo), .long (lN la), .long (lN go), .long (lN sp)])), (qn, .inl (cI, 1200, .inl f)), (qk, .inl (cI, 1200, .inl g))] sz) (fun _ : Unit => [(b, .inr (2, [.int (nI cd), .int (nI G), .int (nI R), .long (lN en), .long (lN nw), .int (nI ms.length), .ref qn, .ref qk, .int (nI mo), .long (lN la), .long (lN go), .long (lN sp)])), (qn, .inl (cI, 1200, .inl f)), (qk, .inl (cI, 1200, .inl g))])) (va_A [(b, .inr (2, [.int (nI cd), .int (nI G), .int (nI R), .long (lN en), .long (lN nw), .int (nI ms.length), .ref qn, .ref qk, .int (nI mo), .long (lN la), .long (lN go), .long (lN sp)])), (qn, .inl (cI, 1200, .inl f)), (qk, .inl (cI, 1200, .inl g))] sz)) 0 0 (va_A [(b, .inr (2, [.int (nI cd), .int (nI G), .int (nI R), .long (lN en), .long (lN nw), .int (nI ms.length), .ref qn, .ref qk, .int (nI mo), .long (lN la), .long (lN go), .long (lN sp)])), (qn, .inl (cI, 1200, .inl f)), (qk, .inl (cI, 1200, .inl g))] sz) := by
  refine ag_ofW (Qf := fun A => va_Qi (fun (r : Int32) (_ : Unit) => r = nI cd) (ag_to (dC, dI) agCl [(cI, .int)] A (fun _ : Unit => [(b, .inr (2, [.int (nI cd), .int (nI G), .int (nI R), .long (lN en), .long (lN nw), .int (nI ms.length), .ref qn, .ref qk, .int (nI mo), .long (lN la), .long (lN go), .long (lN sp)])), (qn, .inl (cI, 1200, .inl f)), (qk, .inl (cI, 1200, .inl g))])) A) (cc := b_M_thrown) (maxL := 1) (ret := (some .int)) (lv := [(0, .ref b)]) (by decide) rfl (Nat.le_of_ble_eq_true rfl) rfl (fun p e s m below meth c A ls hx hb hr hts hown hlocks hml hnm hA hS hP hK hD hl hsz => ?_)
  have hown : s.vm.findClass "AgedMarksModel" = some m.cls := hown
  have ht : ∀ w ∈ agW, w.before [.ref b].toArray s = true := fun w h => hts w (List.mem_cons_of_mem _ h)
  refine lv_aload_n hx hb d_M_thrown_0 rfl (lv_at hl 0 rfl) ?_
  refine va_get (D := (dC, dI)) (ci := 2) (v := .int (nI cd)) (C := RX2) (T := TX2) (N := 12) hx hb ht inA2 hown hK hP 0 rfl rfl 0 (by decide) (ht _ mw_f_M_29) (fun _ h9 => h9) rfl d_M_thrown_1 ?_
  exact ag_reti hx hb hr hlocks () rfl hP hK hD hS d_M_thrown_4

set_option maxHeartbeats 4000000 in
set_option maxRecDepth 100000 in
/-- fails(i, j) -/
theorem c_M_fails (l : Launch) (dC : Nat → ClassId) (dI : Nat → Nat → Nat) (sz : Nat) (b qn qk : Nat) (cI : ClassId) (cd G R en nw mo la go sp : Nat) (f g : Nat → Int32) (ms : ag_M) (i j : Nat) (hi : i ≤ 1) (hj : j ≤ 1) : Met l y_M_fails (Cond.code y_M_fails b_M_fails 3 (some .boolean) :: agW) ({ frames := 0, cells := 0, slots := 0, locals := 0 }) (va_Pc [.ref b, .int (nI i), .int (nI j)] (ag_at (dC, dI) agCl [(cI, .int)] sz [(b, .inr (2, [.int (nI cd), .int (nI G), .int (nI R), .long (lN en), .long (lN nw), .int (nI ms.length), .ref qn, .ref qk, .int (nI mo), .long (lN la), .long (lN go), .long (lN sp)])), (qn, .inl (cI, 1200, .inl f)), (qk, .inl (cI, 1200, .inl g))])) (va_Qi (fun (r : Int32) (_ : Unit) => r = nI (if (if i = 1 then 1 else if j = 1 then 2 else 0) = 0 then 0 else 1)) (ag_to (dC, dI) agCl [(cI, .int)] (va_A [(b, .inr (2, [.int (nI cd), .int (nI G), .int (nI R), .long (lN en), .long (lN nw), .int (nI ms.length), .ref qn, .ref qk, .int (nI mo), .long (lN la), .long (lN go), .long (lN sp)])), (qn, .inl (cI, 1200, .inl f)), (qk, .inl (cI, 1200, .inl g))] sz) (fun _ : Unit => [(b, .inr (2, [.int (nI (if i = 1 then 1 else if j = 1 then 2 else 0)), .int (nI G), .int (nI R), .long (lN en), .long (lN nw), .int (nI ms.length), .ref qn, .ref qk, .int (nI mo), .long (lN la), .long (lN go), .long (lN sp)])), (qn, .inl (cI, 1200, .inl f)), (qk, .inl (cI, 1200, .inl g))])) (va_A [(b, .inr (2, [.int (nI cd), .int (nI G), .int (nI R), .long (lN en), .long (lN nw), .int (nI ms.length), .ref qn, .ref qk, .int (nI mo), .long (lN la), .long (lN go), .long (lN sp)])), (qn, .inl (cI, 1200, .inl f)), (qk, .inl (cI, 1200, .inl g))] sz)) 0 0 (va_A [(b, .inr (2, [.int (nI cd), .int (nI G), .int (nI R), .long (lN en), .long (lN nw), .int (nI ms.length), .ref qn, .ref qk, .int (nI mo), .long (lN la), .long (lN go), .long (lN sp)])), (qn, .inl (cI, 1200, .inl f)), (qk, .inl (cI, 1200, .inl g))] sz) := by
  refine ag_ofW (Qf := fun A => va_Qi (fun (r : Int32) (_ : Unit) => r = nI (if (if i = 1 then 1 else if j = 1 then 2 else 0) = 0 then 0 else 1)) (ag_to (dC, dI) agCl [(cI, .int)] A (fun _ : Unit => [(b, .inr (2, [.int (nI (if i = 1 then 1 else if j = 1 then 2 else 0)), .int (nI G), .int (nI R), .long (lN en), .long (lN nw), .int (nI ms.length), .ref qn, .ref qk, .int (nI mo), .long (lN la), .long (lN go), .long (lN sp)])), (qn, .inl (cI, 1200, .inl f)), (qk, .inl (cI, 1200, .inl g))])) A) (cc := b_M_fails) (maxL := 3) (ret := (some .boolean)) (lv := [(0, .ref b), (1, .int (nI i)), (2, .int (nI j))]) (by decide) rfl (Nat.le_of_ble_eq_true rfl) rfl (fun p e s m below meth c A ls hx hb hr hts hown hlocks hml hnm hA hS hP hK hD hl hsz => ?_)
  have hown : s.vm.findClass "AgedMarksModel" = some m.cls := hown
  have ht : ∀ w ∈ agW, w.before [.ref b, .int (nI i), .int (nI j)].toArray s = true := fun w h => hts w (List.mem_cons_of_mem _ h)
  rcases (show (i = 0 ∧ j = 0) ∨ (i = 0 ∧ j = 1) ∨ (i = 1 ∧ j = 0) ∨ (i = 1 ∧ j = 1) by omega) with ⟨rfl, rfl⟩ | ⟨rfl, rfl⟩ | ⟨rfl, rfl⟩ | ⟨rfl, rfl⟩
  · have h_n := trivial
    refine lv_aload_n hx hb d_M_fails_0 rfl (lv_at hl 0 rfl) ?_
    refine lv_iload_n hx hb d_M_fails_1 rfl (lv_at hl 1 rfl) ?_
    refine lv_if_eq (tgt := 9) hx hb d_M_fails_2 (by decide) (fun c2 => ?_) (fun c2 => ?_)
    · have h_n := trivial
      refine lv_iload_n hx hb d_M_fails_9 rfl (lv_at hl 2 rfl) ?_
      refine lv_if_eq (tgt := 17) hx hb d_M_fails_10 (by decide) (fun c10 => ?_) (fun c10 => ?_)
      · have h_n := trivial
        refine ag_iconst hx hb 0 d_M_fails_17 (by decide) ?_
        refine va_put (D := (dC, dI)) (ci := 2) (v := .int (nI 0)) (ty := .int) (C := RX2) (T := TX2) (N := 12) hx hb ht inA2 tyX2 tyX2_ok nmX2 hown hK hP hD hS 0 rfl rfl 0 (by decide) (ht _ mw_f_M_29) (fun _ h9 => h9) rfl (by decide +kernel) rfl rfl (Nat.le_of_ble_eq_true rfl) d_M_fails_18 (fun H locs hP hD hS => ?_)
        have hP : va_P (dC, dI) agCl [(b, .inr (2, [.int (nI 0), .int (nI G), .int (nI R), .long (lN en), .long (lN nw), .int (nI ms.length), .ref qn, .ref qk, .int (nI mo), .long (lN la), .long (lN go), .long (lN sp)])), (qn, .inl (cI, 1200, .inl f)), (qk, .inl (cI, 1200, .inl g))] H := hP
        have hD : va_D A [(b, .inr (2, [.int (nI 0), .int (nI G), .int (nI R), .long (lN en), .long (lN nw), .int (nI ms.length), .ref qn, .ref qk, .int (nI mo), .long (lN la), .long (lN go), .long (lN sp)])), (qn, .inl (cI, 1200, .inl f)), (qk, .inl (cI, 1200, .inl g))] := hD
        refine lv_aload_n hx hb d_M_fails_21 rfl (lv_at hl 0 rfl) ?_
        refine va_get (D := (dC, dI)) (ci := 2) (v := .int (nI 0)) (C := RX2) (T := TX2) (N := 12) hx hb ht inA2 hown hK hP 0 rfl rfl 0 (by decide) (ht _ mw_f_M_29) (fun _ h9 => h9) rfl d_M_fails_22 ?_
        refine ag_if_le (tgt := 32) hx hb d_M_fails_25 (by decide) (by omega) (fun c25 => ?_) (fun c25 => ?_)
        · have h_n := trivial
          refine ag_iconst hx hb 0 d_M_fails_32 (by decide) ?_
          exact ag_retz hx hb hr (by decide) hlocks () rfl hP hK hD hS d_M_fails_33
        · have h_n := trivial
          exact absurd c25 (by omega)
      · have h_n := trivial
        exact absurd (by decide) c10
    · have h_n := trivial
      exact absurd (by decide) c2
  · have h_n := trivial
    refine lv_aload_n hx hb d_M_fails_0 rfl (lv_at hl 0 rfl) ?_
    refine lv_iload_n hx hb d_M_fails_1 rfl (lv_at hl 1 rfl) ?_
    refine lv_if_eq (tgt := 9) hx hb d_M_fails_2 (by decide) (fun c2 => ?_) (fun c2 => ?_)
    · have h_n := trivial
      refine lv_iload_n hx hb d_M_fails_9 rfl (lv_at hl 2 rfl) ?_
      refine lv_if_eq (tgt := 17) hx hb d_M_fails_10 (by decide) (fun c10 => ?_) (fun c10 => ?_)
      · have h_n := trivial
        exact absurd c10 (by decide)
      · have h_n := trivial
        refine ag_iconst hx hb 2 d_M_fails_13 (by decide) ?_
        refine lv_goto (tgt := 18) hx hb d_M_fails_14 (by decide) ?_
        refine va_put (D := (dC, dI)) (ci := 2) (v := .int (nI 2)) (ty := .int) (C := RX2) (T := TX2) (N := 12) hx hb ht inA2 tyX2 tyX2_ok nmX2 hown hK hP hD hS 0 rfl rfl 0 (by decide) (ht _ mw_f_M_29) (fun _ h9 => h9) rfl (by decide +kernel) rfl rfl (Nat.le_of_ble_eq_true rfl) d_M_fails_18 (fun H locs hP hD hS => ?_)
        have hP : va_P (dC, dI) agCl [(b, .inr (2, [.int (nI 2), .int (nI G), .int (nI R), .long (lN en), .long (lN nw), .int (nI ms.length), .ref qn, .ref qk, .int (nI mo), .long (lN la), .long (lN go), .long (lN sp)])), (qn, .inl (cI, 1200, .inl f)), (qk, .inl (cI, 1200, .inl g))] H := hP
        have hD : va_D A [(b, .inr (2, [.int (nI 2), .int (nI G), .int (nI R), .long (lN en), .long (lN nw), .int (nI ms.length), .ref qn, .ref qk, .int (nI mo), .long (lN la), .long (lN go), .long (lN sp)])), (qn, .inl (cI, 1200, .inl f)), (qk, .inl (cI, 1200, .inl g))] := hD
        refine lv_aload_n hx hb d_M_fails_21 rfl (lv_at hl 0 rfl) ?_
        refine va_get (D := (dC, dI)) (ci := 2) (v := .int (nI 2)) (C := RX2) (T := TX2) (N := 12) hx hb ht inA2 hown hK hP 0 rfl rfl 0 (by decide) (ht _ mw_f_M_29) (fun _ h9 => h9) rfl d_M_fails_22 ?_
        refine ag_if_le (tgt := 32) hx hb d_M_fails_25 (by decide) (by omega) (fun c25 => ?_) (fun c25 => ?_)
        · have h_n := trivial
          exact absurd c25 (by omega)
        · have h_n := trivial
          refine ag_iconst hx hb 1 d_M_fails_28 (by decide) ?_
          refine lv_goto (tgt := 33) hx hb d_M_fails_29 (by decide) ?_
          exact ag_retz hx hb hr (by decide) hlocks () rfl hP hK hD hS d_M_fails_33
    · have h_n := trivial
      exact absurd (by decide) c2
  · have h_n := trivial
    refine lv_aload_n hx hb d_M_fails_0 rfl (lv_at hl 0 rfl) ?_
    refine lv_iload_n hx hb d_M_fails_1 rfl (lv_at hl 1 rfl) ?_
    refine lv_if_eq (tgt := 9) hx hb d_M_fails_2 (by decide) (fun c2 => ?_) (fun c2 => ?_)
    · have h_n := trivial
      exact absurd c2 (by decide)
    · have h_n := trivial
      refine ag_iconst hx hb 1 d_M_fails_5 (by decide) ?_
      refine lv_goto (tgt := 18) hx hb d_M_fails_6 (by decide) ?_
      refine va_put (D := (dC, dI)) (ci := 2) (v := .int (nI 1)) (ty := .int) (C := RX2) (T := TX2) (N := 12) hx hb ht inA2 tyX2 tyX2_ok nmX2 hown hK hP hD hS 0 rfl rfl 0 (by decide) (ht _ mw_f_M_29) (fun _ h9 => h9) rfl (by decide +kernel) rfl rfl (Nat.le_of_ble_eq_true rfl) d_M_fails_18 (fun H locs hP hD hS => ?_)
      have hP : va_P (dC, dI) agCl [(b, .inr (2, [.int (nI 1), .int (nI G), .int (nI R), .long (lN en), .long (lN nw), .int (nI ms.length), .ref qn, .ref qk, .int (nI mo), .long (lN la), .long (lN go), .long (lN sp)])), (qn, .inl (cI, 1200, .inl f)), (qk, .inl (cI, 1200, .inl g))] H := hP
      have hD : va_D A [(b, .inr (2, [.int (nI 1), .int (nI G), .int (nI R), .long (lN en), .long (lN nw), .int (nI ms.length), .ref qn, .ref qk, .int (nI mo), .long (lN la), .long (lN go), .long (lN sp)])), (qn, .inl (cI, 1200, .inl f)), (qk, .inl (cI, 1200, .inl g))] := hD
      refine lv_aload_n hx hb d_M_fails_21 rfl (lv_at hl 0 rfl) ?_
      refine va_get (D := (dC, dI)) (ci := 2) (v := .int (nI 1)) (C := RX2) (T := TX2) (N := 12) hx hb ht inA2 hown hK hP 0 rfl rfl 0 (by decide) (ht _ mw_f_M_29) (fun _ h9 => h9) rfl d_M_fails_22 ?_
      refine ag_if_le (tgt := 32) hx hb d_M_fails_25 (by decide) (by omega) (fun c25 => ?_) (fun c25 => ?_)
      · have h_n := trivial
        exact absurd c25 (by omega)
      · have h_n := trivial
        refine ag_iconst hx hb 1 d_M_fails_28 (by decide) ?_
        refine lv_goto (tgt := 33) hx hb d_M_fails_29 (by decide) ?_
        exact ag_retz hx hb hr (by decide) hlocks () rfl hP hK hD hS d_M_fails_33
  · have h_n := trivial
    refine lv_aload_n hx hb d_M_fails_0 rfl (lv_at hl 0 rfl) ?_
    refine lv_iload_n hx hb d_M_fails_1 rfl (lv_at hl 1 rfl) ?_
    refine lv_if_eq (tgt := 9) hx hb d_M_fails_2 (by decide) (fun c2 => ?_) (fun c2 => ?_)
    · have h_n := trivial
      exact absurd c2 (by decide)
    · have h_n := trivial
      refine ag_iconst hx hb 1 d_M_fails_5 (by decide) ?_
      refine lv_goto (tgt := 18) hx hb d_M_fails_6 (by decide) ?_
      refine va_put (D := (dC, dI)) (ci := 2) (v := .int (nI 1)) (ty := .int) (C := RX2) (T := TX2) (N := 12) hx hb ht inA2 tyX2 tyX2_ok nmX2 hown hK hP hD hS 0 rfl rfl 0 (by decide) (ht _ mw_f_M_29) (fun _ h9 => h9) rfl (by decide +kernel) rfl rfl (Nat.le_of_ble_eq_true rfl) d_M_fails_18 (fun H locs hP hD hS => ?_)
      have hP : va_P (dC, dI) agCl [(b, .inr (2, [.int (nI 1), .int (nI G), .int (nI R), .long (lN en), .long (lN nw), .int (nI ms.length), .ref qn, .ref qk, .int (nI mo), .long (lN la), .long (lN go), .long (lN sp)])), (qn, .inl (cI, 1200, .inl f)), (qk, .inl (cI, 1200, .inl g))] H := hP
      have hD : va_D A [(b, .inr (2, [.int (nI 1), .int (nI G), .int (nI R), .long (lN en), .long (lN nw), .int (nI ms.length), .ref qn, .ref qk, .int (nI mo), .long (lN la), .long (lN go), .long (lN sp)])), (qn, .inl (cI, 1200, .inl f)), (qk, .inl (cI, 1200, .inl g))] := hD
      refine lv_aload_n hx hb d_M_fails_21 rfl (lv_at hl 0 rfl) ?_
      refine va_get (D := (dC, dI)) (ci := 2) (v := .int (nI 1)) (C := RX2) (T := TX2) (N := 12) hx hb ht inA2 hown hK hP 0 rfl rfl 0 (by decide) (ht _ mw_f_M_29) (fun _ h9 => h9) rfl d_M_fails_22 ?_
      refine ag_if_le (tgt := 32) hx hb d_M_fails_25 (by decide) (by omega) (fun c25 => ?_) (fun c25 => ?_)
      · have h_n := trivial
        exact absurd c25 (by omega)
      · have h_n := trivial
        refine ag_iconst hx hb 1 d_M_fails_28 (by decide) ?_
        refine lv_goto (tgt := 33) hx hb d_M_fails_29 (by decide) ?_
        exact ag_retz hx hb hr (by decide) hlocks () rfl hP hK hD hS d_M_fails_33

set_option maxHeartbeats 4000000 in
set_option maxRecDepth 100000 in
/-- cost(x) -/
theorem c_M_cost (l : Launch) (dC : Nat → ClassId) (dI : Nat → Nat → Nat) (sz : Nat) (b qn qk : Nat) (cI : ClassId) (cd G R en nw mo la go sp : Nat) (f g : Nat → Int32) (ms : ag_M) (x : Nat) (hG2 : G ≤ 1000) (hx1 : x ≤ 1000000000) (hbd : ag_bd ms) (h0 : 0 < ms.length) (h00 : (ms[0]).1 = 0) (hrep : ag_rpm ms f g) : Met l y_M_cost (Cond.code y_M_cost b_M_cost 4 (some .long) :: agW) ({ frames := 0, cells := 0, slots := 0, locals := 0 }) (va_Pc [.ref b, .long (lN x)] (ag_at (dC, dI) agCl [(cI, .int)] sz [(b, .inr (2, [.int (nI cd), .int (nI G), .int (nI R), .long (lN en), .long (lN nw), .int (nI ms.length), .ref qn, .ref qk, .int (nI mo), .long (lN la), .long (lN go), .long (lN sp)])), (qn, .inl (cI, 1200, .inl f)), (qk, .inl (cI, 1200, .inl g))])) (va_Ql (fun (r : Int64) (_ : Unit) => r = lN (ag_cost G ms x)) (ag_to (dC, dI) agCl [(cI, .int)] (va_A [(b, .inr (2, [.int (nI cd), .int (nI G), .int (nI R), .long (lN en), .long (lN nw), .int (nI ms.length), .ref qn, .ref qk, .int (nI mo), .long (lN la), .long (lN go), .long (lN sp)])), (qn, .inl (cI, 1200, .inl f)), (qk, .inl (cI, 1200, .inl g))] sz) (fun _ : Unit => [(b, .inr (2, [.int (nI cd), .int (nI G), .int (nI R), .long (lN en), .long (lN nw), .int (nI ms.length), .ref qn, .ref qk, .int (nI mo), .long (lN la), .long (lN go), .long (lN sp)])), (qn, .inl (cI, 1200, .inl f)), (qk, .inl (cI, 1200, .inl g))])) (va_A [(b, .inr (2, [.int (nI cd), .int (nI G), .int (nI R), .long (lN en), .long (lN nw), .int (nI ms.length), .ref qn, .ref qk, .int (nI mo), .long (lN la), .long (lN go), .long (lN sp)])), (qn, .inl (cI, 1200, .inl f)), (qk, .inl (cI, 1200, .inl g))] sz)) 0 0 (va_A [(b, .inr (2, [.int (nI cd), .int (nI G), .int (nI R), .long (lN en), .long (lN nw), .int (nI ms.length), .ref qn, .ref qk, .int (nI mo), .long (lN la), .long (lN go), .long (lN sp)])), (qn, .inl (cI, 1200, .inl f)), (qk, .inl (cI, 1200, .inl g))] sz) := by
  refine ag_ofW (Qf := fun A => va_Ql (fun (r : Int64) (_ : Unit) => r = lN (ag_cost G ms x)) (ag_to (dC, dI) agCl [(cI, .int)] A (fun _ : Unit => [(b, .inr (2, [.int (nI cd), .int (nI G), .int (nI R), .long (lN en), .long (lN nw), .int (nI ms.length), .ref qn, .ref qk, .int (nI mo), .long (lN la), .long (lN go), .long (lN sp)])), (qn, .inl (cI, 1200, .inl f)), (qk, .inl (cI, 1200, .inl g))])) A) (cc := b_M_cost) (maxL := 4) (ret := (some .long)) (lv := [(0, .ref b), (1, .long (lN x))]) (by decide) rfl (Nat.le_of_ble_eq_true rfl) rfl (fun p e s m below meth c A ls hx hb hr hts hown hlocks hml hnm hA hS hP hK hD hl hsz => ?_)
  have hown : s.vm.findClass "AgedMarksModel" = some m.cls := hown
  have ht : ∀ w ∈ agW, w.before [.ref b, .long (lN x)].toArray s = true := fun w h => hts w (List.mem_cons_of_mem _ h)
  have hlen := hbd.1
  have hmul : ∀ j (hj : j < ms.length), (ms[j]).1 * G ≤ 1000000000 ∧ (ms[j]).1 ≤ 1000000 := fun j hj => ⟨Nat.le_trans (Nat.mul_le_mul (hbd.2 _ (List.getElem_mem hj)).1 hG2) (by decide), (hbd.2 _ (List.getElem_mem hj)).1⟩
  refine lv_aload_n hx hb d_M_cost_0 rfl (lv_at hl 0 rfl) ?_
  refine va_get (D := (dC, dI)) (ci := 2) (v := .int (nI ms.length)) (C := RX2) (T := TX2) (N := 12) hx hb ht inA2 hown hK hP 0 rfl rfl 5 (by decide) (ht _ mw_f_M_7) (fun _ h9 => h9) rfl d_M_cost_1 ?_
  refine ag_iconst hx hb 1 d_M_cost_4 (by decide) ?_
  refine lv_isub hx hb d_M_cost_5 ?_
  refine ag_topi (nI (ms.length - 1)) (pk_sub (by omega)) ?_
  refine lv_istore_n (lv' := [(3, .int (nI (ms.length - 1))), (0, .ref b), (1, .long (lN x))]) hx hb d_M_cost_6 rfl hl (by decide) rfl (fun ls hl => ?_)
  have loop : ∀ (k : Nat) (hk : k < ms.length), (∀ j (hj : j < ms.length), k < j → x < (ms[j]).1 * G) → ∀ ls : Array Slot, lv_has ls 4 [(3, .int (nI k)), (0, .ref b), (1, .long (lN x))] → W p l e { frames := 0, cells := 0, slots := 0, locals := 0 } s m [.ref b, .long (lN x)].toArray below meth c s.heap [] 0 0 (MQ below (va_Ql (fun (r : Int64) (_ : Unit) => r = lN (ag_cost G ms x)) (ag_to (dC, dI) agCl [(cI, .int)] A (fun _ : Unit => [(b, .inr (2, [.int (nI cd), .int (nI G), .int (nI R), .long (lN en), .long (lN nw), .int (nI ms.length), .ref qn, .ref qk, .int (nI mo), .long (lN la), .long (lN go), .long (lN sp)])), (qn, .inl (cI, 1200, .inl f)), (qk, .inl (cI, 1200, .inl g))])) A) [.ref b, .long (lN x)].toArray s 0 0 A) (F0 m 7 ls []) := by
    intro k
    induction k with
    | zero =>
      intro hk hgt ls hl
      have hm := hmul (0) hk
      refine lv_aload_n hx hb d_M_cost_7 rfl (lv_at hl 1 rfl) ?_
      refine va_get (D := (dC, dI)) (ci := 2) (v := .ref qn) (C := RX2) (T := TX2) (N := 12) hx hb ht inA2 hown hK hP 0 rfl rfl 6 (by decide) (ht _ mw_f_M_13) (fun _ h9 => h9) rfl d_M_cost_8 ?_
      refine lv_iload_n hx hb d_M_cost_11 rfl (lv_at hl 0 rfl) ?_
      refine ag_iald hx hb hK hP 1 0 rfl rfl (by omega) (by decide) d_M_cost_12 ?_
      refine ag_topi (nI ((ms[0]).1)) ((hrep (0) hk).1) ?_
      refine lv_i2l (v := lN ((ms[0]).1)) hx hb d_M_cost_13 (nI_l (by omega)) ?_
      refine lv_aload_n hx hb d_M_cost_14 rfl (lv_at hl 1 rfl) ?_
      refine va_get (D := (dC, dI)) (ci := 2) (v := .int (nI G)) (C := RX2) (T := TX2) (N := 12) hx hb ht inA2 hown hK hP 0 rfl rfl 1 (by decide) (ht _ mw_f_M_23) (fun _ h9 => h9) rfl d_M_cost_15 ?_
      refine lv_i2l (v := lN G) hx hb d_M_cost_18 (nI_l (by omega)) ?_
      refine lv_lmul hx hb d_M_cost_19 ?_
      refine ag_topl (lN (((ms[0]).1) * G)) (lN_mul _ _) ?_
      refine lv_lload_n hx hb d_M_cost_20 rfl (lv_at hl 2 rfl) ?_
      refine ag_lc_le (tgt := 31) hx hb d_M_cost_21 d_M_cost_22 (by decide) (fun c21 => ?_) (fun c21 => ?_)
      · have h_n := trivial
        have hle1 := (pk_lLE (a := (ms[0]).1 * G) (b := x) (by omega) (by omega)).mp c21
        refine lv_lload_n hx hb d_M_cost_31 rfl (lv_at hl 2 rfl) ?_
        refine lv_aload_n hx hb d_M_cost_32 rfl (lv_at hl 1 rfl) ?_
        refine va_get (D := (dC, dI)) (ci := 2) (v := .ref qn) (C := RX2) (T := TX2) (N := 12) hx hb ht inA2 hown hK hP 0 rfl rfl 6 (by decide) (ht _ mw_f_M_13) (fun _ h9 => h9) rfl d_M_cost_33 ?_
        refine lv_iload_n hx hb d_M_cost_36 rfl (lv_at hl 0 rfl) ?_
        refine ag_iald hx hb hK hP 1 0 rfl rfl (by omega) (by decide) d_M_cost_37 ?_
        refine ag_topi (nI ((ms[0]).1)) ((hrep (0) hk).1) ?_
        refine lv_i2l (v := lN ((ms[0]).1)) hx hb d_M_cost_38 (nI_l (by omega)) ?_
        refine lv_aload_n hx hb d_M_cost_39 rfl (lv_at hl 1 rfl) ?_
        refine va_get (D := (dC, dI)) (ci := 2) (v := .int (nI G)) (C := RX2) (T := TX2) (N := 12) hx hb ht inA2 hown hK hP 0 rfl rfl 1 (by decide) (ht _ mw_f_M_23) (fun _ h9 => h9) rfl d_M_cost_40 ?_
        refine lv_i2l (v := lN G) hx hb d_M_cost_43 (nI_l (by omega)) ?_
        refine lv_lmul hx hb d_M_cost_44 ?_
        refine ag_topl (lN (((ms[0]).1) * G)) (lN_mul _ _) ?_
        refine lv_lsub hx hb d_M_cost_45 ?_
        refine ag_topl (lN (x - (((ms[0]).1) * G))) (lN_sub (by omega)) ?_
        exact ag_retl hx hb hr hlocks () (by rw [ag_cost_eq ⟨0, hk, hle1, hgt, rfl⟩]) hP hK hD hS d_M_cost_46
      · have h_n := trivial
        exact absurd ((pk_lLE (a := (ms[0]).1 * G) (b := x) (by omega) (by omega)).mpr (by rw [h00, Nat.zero_mul]; omega)) c21
    | succ i ih =>
      intro hk hgt ls hl
      have hm := hmul (i + 1) hk
      refine lv_aload_n hx hb d_M_cost_7 rfl (lv_at hl 1 rfl) ?_
      refine va_get (D := (dC, dI)) (ci := 2) (v := .ref qn) (C := RX2) (T := TX2) (N := 12) hx hb ht inA2 hown hK hP 0 rfl rfl 6 (by decide) (ht _ mw_f_M_13) (fun _ h9 => h9) rfl d_M_cost_8 ?_
      refine lv_iload_n hx hb d_M_cost_11 rfl (lv_at hl 0 rfl) ?_
      refine ag_iald hx hb hK hP 1 0 rfl rfl (by omega) (by decide) d_M_cost_12 ?_
      refine ag_topi (nI ((ms[i + 1]).1)) ((hrep (i + 1) hk).1) ?_
      refine lv_i2l (v := lN ((ms[i + 1]).1)) hx hb d_M_cost_13 (nI_l (by omega)) ?_
      refine lv_aload_n hx hb d_M_cost_14 rfl (lv_at hl 1 rfl) ?_
      refine va_get (D := (dC, dI)) (ci := 2) (v := .int (nI G)) (C := RX2) (T := TX2) (N := 12) hx hb ht inA2 hown hK hP 0 rfl rfl 1 (by decide) (ht _ mw_f_M_23) (fun _ h9 => h9) rfl d_M_cost_15 ?_
      refine lv_i2l (v := lN G) hx hb d_M_cost_18 (nI_l (by omega)) ?_
      refine lv_lmul hx hb d_M_cost_19 ?_
      refine ag_topl (lN (((ms[i + 1]).1) * G)) (lN_mul _ _) ?_
      refine lv_lload_n hx hb d_M_cost_20 rfl (lv_at hl 2 rfl) ?_
      refine ag_lc_le (tgt := 31) hx hb d_M_cost_21 d_M_cost_22 (by decide) (fun c21 => ?_) (fun c21 => ?_)
      · have h_n := trivial
        have hle1 := (pk_lLE (a := (ms[i + 1]).1 * G) (b := x) (by omega) (by omega)).mp c21
        refine lv_lload_n hx hb d_M_cost_31 rfl (lv_at hl 2 rfl) ?_
        refine lv_aload_n hx hb d_M_cost_32 rfl (lv_at hl 1 rfl) ?_
        refine va_get (D := (dC, dI)) (ci := 2) (v := .ref qn) (C := RX2) (T := TX2) (N := 12) hx hb ht inA2 hown hK hP 0 rfl rfl 6 (by decide) (ht _ mw_f_M_13) (fun _ h9 => h9) rfl d_M_cost_33 ?_
        refine lv_iload_n hx hb d_M_cost_36 rfl (lv_at hl 0 rfl) ?_
        refine ag_iald hx hb hK hP 1 0 rfl rfl (by omega) (by decide) d_M_cost_37 ?_
        refine ag_topi (nI ((ms[i + 1]).1)) ((hrep (i + 1) hk).1) ?_
        refine lv_i2l (v := lN ((ms[i + 1]).1)) hx hb d_M_cost_38 (nI_l (by omega)) ?_
        refine lv_aload_n hx hb d_M_cost_39 rfl (lv_at hl 1 rfl) ?_
        refine va_get (D := (dC, dI)) (ci := 2) (v := .int (nI G)) (C := RX2) (T := TX2) (N := 12) hx hb ht inA2 hown hK hP 0 rfl rfl 1 (by decide) (ht _ mw_f_M_23) (fun _ h9 => h9) rfl d_M_cost_40 ?_
        refine lv_i2l (v := lN G) hx hb d_M_cost_43 (nI_l (by omega)) ?_
        refine lv_lmul hx hb d_M_cost_44 ?_
        refine ag_topl (lN (((ms[i + 1]).1) * G)) (lN_mul _ _) ?_
        refine lv_lsub hx hb d_M_cost_45 ?_
        refine ag_topl (lN (x - (((ms[i + 1]).1) * G))) (lN_sub (by omega)) ?_
        exact ag_retl hx hb hr hlocks () (by rw [ag_cost_eq ⟨i + 1, hk, hle1, hgt, rfl⟩]) hP hK hD hS d_M_cost_46
      · have h_n := trivial
        have hgt1 : x < (ms[i + 1]).1 * G := by have h9 := mt (pk_lLE (a := (ms[i + 1]).1 * G) (b := x) (by omega) (by omega)).mpr c21; omega
        refine lv_iinc (v := nI i) (lv' := [(3, .int (nI i)), (0, .ref b), (1, .long (lN x))]) hx hb d_M_cost_25 hl (k := 0) rfl (pk_m1 i) (by decide) rfl (fun ls hl => ?_)
        refine lv_goto (tgt := 7) hx hb d_M_cost_28 (by decide) ?_
        refine ih (by omega) (fun j hj h => ?_) ls hl
        rcases Nat.lt_or_ge (i + 1) j with q | q
        · exact hgt j hj q
        · have e9 : j = i + 1 := by omega
          subst e9
          exact hgt1
  exact loop (ms.length - 1) (by omega) (fun j hj h => by omega) ls hl

set_option maxHeartbeats 4000000 in
set_option maxRecDepth 100000 in
/-- to(x) -/
theorem c_M_to (l : Launch) (dC : Nat → ClassId) (dI : Nat → Nat → Nat) (sz : Nat) (b qn qk : Nat) (cI : ClassId) (cd G R en nw mo la go sp : Nat) (f g : Nat → Int32) (ms : ag_M) (x : Nat) (hG2 : G ≤ 1000) (hx1 : x ≤ 1000000000) (hbd : ag_bd ms) (h0 : 0 < ms.length) (h00 : (ms[0]).1 = 0) (hrep : ag_rpm ms f g) : Met l y_M_to (Cond.code y_M_to b_M_to 5 (some .long) :: agW) ({ frames := 1, cells := 0, slots := 0, locals := 24 }) (va_Pc [.ref b, .long (lN x)] (ag_at (dC, dI) agCl [(cI, .int)] sz [(b, .inr (2, [.int (nI cd), .int (nI G), .int (nI R), .long (lN en), .long (lN nw), .int (nI ms.length), .ref qn, .ref qk, .int (nI mo), .long (lN la), .long (lN go), .long (lN sp)])), (qn, .inl (cI, 1200, .inl f)), (qk, .inl (cI, 1200, .inl g))])) (va_Ql (fun (r : Int64) (_ : Unit) => r = lN (ag_cost G ms x)) (ag_to (dC, dI) agCl [(cI, .int)] (va_A [(b, .inr (2, [.int (nI cd), .int (nI G), .int (nI R), .long (lN en), .long (lN nw), .int (nI ms.length), .ref qn, .ref qk, .int (nI mo), .long (lN la), .long (lN go), .long (lN sp)])), (qn, .inl (cI, 1200, .inl f)), (qk, .inl (cI, 1200, .inl g))] sz) (fun _ : Unit => [(b, .inr (2, [.int (nI cd), .int (nI G), .int (nI R), .long (lN en), .long (lN x), .int (nI ms.length), .ref qn, .ref qk, .int (nI mo), .long (lN la), .long (lN go), .long (lN (sp + ag_cost G ms x))])), (qn, .inl (cI, 1200, .inl f)), (qk, .inl (cI, 1200, .inl g))])) (va_A [(b, .inr (2, [.int (nI cd), .int (nI G), .int (nI R), .long (lN en), .long (lN nw), .int (nI ms.length), .ref qn, .ref qk, .int (nI mo), .long (lN la), .long (lN go), .long (lN sp)])), (qn, .inl (cI, 1200, .inl f)), (qk, .inl (cI, 1200, .inl g))] sz)) 0 0 (va_A [(b, .inr (2, [.int (nI cd), .int (nI G), .int (nI R), .long (lN en), .long (lN nw), .int (nI ms.length), .ref qn, .ref qk, .int (nI mo), .long (lN la), .long (lN go), .long (lN sp)])), (qn, .inl (cI, 1200, .inl f)), (qk, .inl (cI, 1200, .inl g))] sz) := by
  refine ag_ofW (Qf := fun A => va_Ql (fun (r : Int64) (_ : Unit) => r = lN (ag_cost G ms x)) (ag_to (dC, dI) agCl [(cI, .int)] A (fun _ : Unit => [(b, .inr (2, [.int (nI cd), .int (nI G), .int (nI R), .long (lN en), .long (lN x), .int (nI ms.length), .ref qn, .ref qk, .int (nI mo), .long (lN la), .long (lN go), .long (lN (sp + ag_cost G ms x))])), (qn, .inl (cI, 1200, .inl f)), (qk, .inl (cI, 1200, .inl g))])) A) (cc := b_M_to) (maxL := 5) (ret := (some .long)) (lv := [(0, .ref b), (1, .long (lN x))]) (by decide) rfl (Nat.le_of_ble_eq_true rfl) rfl (fun p e s m below meth c A ls hx hb hr hts hown hlocks hml hnm hA hS hP hK hD hl hsz => ?_)
  have hown : s.vm.findClass "AgedMarksModel" = some m.cls := hown
  have ht : ∀ w ∈ agW, w.before [.ref b, .long (lN x)].toArray s = true := fun w h => hts w (List.mem_cons_of_mem _ h)
  refine lv_aload_n hx hb d_M_to_0 rfl (lv_at hl 0 rfl) ?_
  refine lv_lload_n hx hb d_M_to_1 rfl (lv_at hl 1 rfl) ?_
  refine va_put (D := (dC, dI)) (ci := 2) (v := .long (lN x)) (ty := .long) (C := RX2) (T := TX2) (N := 12) hx hb ht inA2 tyX2 tyX2_ok nmX2 hown hK hP hD hS 0 rfl rfl 4 (by decide) (ht _ mw_f_M_49) (fun _ h9 => h9) rfl (by decide +kernel) rfl rfl (Nat.le_of_ble_eq_true rfl) d_M_to_2 (fun H locs hP hD hS => ?_)
  have hP : va_P (dC, dI) agCl [(b, .inr (2, [.int (nI cd), .int (nI G), .int (nI R), .long (lN en), .long (lN x), .int (nI ms.length), .ref qn, .ref qk, .int (nI mo), .long (lN la), .long (lN go), .long (lN sp)])), (qn, .inl (cI, 1200, .inl f)), (qk, .inl (cI, 1200, .inl g))] H := hP
  have hD : va_D A [(b, .inr (2, [.int (nI cd), .int (nI G), .int (nI R), .long (lN en), .long (lN x), .int (nI ms.length), .ref qn, .ref qk, .int (nI mo), .long (lN la), .long (lN go), .long (lN sp)])), (qn, .inl (cI, 1200, .inl f)), (qk, .inl (cI, 1200, .inl g))] := hD
  refine lv_aload_n hx hb d_M_to_5 rfl (lv_at hl 0 rfl) ?_
  refine lv_lload_n hx hb d_M_to_6 rfl (lv_at hl 1 rfl) ?_
  have hPc := hP.sub (ws' := [(b, .inr (2, [.int (nI cd), .int (nI G), .int (nI R), .long (lN en), .long (lN x), .int (nI ms.length), .ref qn, .ref qk, .int (nI mo), .long (lN la), .long (lN go), .long (lN sp)])), (qn, .inl (cI, 1200, .inl f)), (qk, .inl (cI, 1200, .inl g))]) [0, 1, 2] rfl
  have hDc := hD.sub (ws' := [(b, .inr (2, [.int (nI cd), .int (nI G), .int (nI R), .long (lN en), .long (lN x), .int (nI ms.length), .ref qn, .ref qk, .int (nI mo), .long (lN la), .long (lN go), .long (lN sp)])), (qn, .inl (cI, 1200, .inl f)), (qk, .inl (cI, 1200, .inl g))]) [0, 1, 2] (by decide) rfl
  refine ag_cll (wc := [(b, .inr (2, [.int (nI cd), .int (nI G), .int (nI R), .long (lN en), .long (lN x), .int (nI ms.length), .ref qn, .ref qk, .int (nI mo), .long (lN la), .long (lN go), .long (lN sp)])), (qn, .inl (cI, 1200, .inl f)), (qk, .inl (cI, 1200, .inl g))]) (wr := []) (Wf := fun _ : Unit => [(b, .inr (2, [.int (nI cd), .int (nI G), .int (nI R), .long (lN en), .long (lN x), .int (nI ms.length), .ref qn, .ref qk, .int (nI mo), .long (lN la), .long (lN go), .long (lN sp)])), (qn, .inl (cI, 1200, .inl f)), (qk, .inl (cI, 1200, .inl g))]) hP hD hS hA [0, 1, 2] [] rfl rfl (by decide) (by decide) (va_runV (C := "AgedMarksModel") (As := [.long (lN x)]) (rest := []) ⟨hx, hb, hml, hown, hts⟩ (c_M_cost l dC dI H.size b qn qk cI cd G R en x mo la go sp f g ms x hG2 hx1 hbd h0 h00 hrep) (ag_cwV 1 hts mw_m_M_65 mw_instanceMethod_M_cost mw_sel_M_cost mw_ini_M mw_code_M_cost rfl rfl (by decide +kernel) ⟨Nat.le_of_ble_eq_true rfl, Nat.le_of_ble_eq_true rfl⟩) ⟨ag_blind, va_recv hK hPc (ci := 2) (q0 := 0) rfl rfl, ag_pre hPc hK hDc⟩ rfl rfl hl.1 rfl (lv_room (Nat.le_of_ble_eq_true rfl)) d_M_to_7 ⟨Nat.le_of_ble_eq_true rfl, Nat.le_of_ble_eq_true rfl⟩) (fun r1 u H locs hw hP hD hS => ?_)
  try dsimp only at hw
  subst hw
  have hP : va_P (dC, dI) agCl [(b, .inr (2, [.int (nI cd), .int (nI G), .int (nI R), .long (lN en), .long (lN x), .int (nI ms.length), .ref qn, .ref qk, .int (nI mo), .long (lN la), .long (lN go), .long (lN sp)])), (qn, .inl (cI, 1200, .inl f)), (qk, .inl (cI, 1200, .inl g))] H := hP
  have hD : va_D A [(b, .inr (2, [.int (nI cd), .int (nI G), .int (nI R), .long (lN en), .long (lN x), .int (nI ms.length), .ref qn, .ref qk, .int (nI mo), .long (lN la), .long (lN go), .long (lN sp)])), (qn, .inl (cI, 1200, .inl f)), (qk, .inl (cI, 1200, .inl g))] := hD
  refine lv_lstore_n (lv' := [(3, .long (lN (ag_cost G ms x))), (0, .ref b), (1, .long (lN x))]) hx hb d_M_to_10 rfl hl (by decide) rfl (fun ls hl => ?_)
  refine lv_aload_n hx hb d_M_to_11 rfl (lv_at hl 1 rfl) ?_
  refine lv_dup hx hb d_M_to_12 rfl ?_
  refine va_get (D := (dC, dI)) (ci := 2) (v := .long (lN sp)) (C := RX2) (T := TX2) (N := 12) hx hb ht inA2 hown hK hP 0 rfl rfl 11 (by decide) (ht _ mw_f_M_69) (fun _ h9 => h9) rfl d_M_to_13 ?_
  refine lv_lload_n hx hb d_M_to_16 rfl (lv_at hl 0 rfl) ?_
  refine lv_ladd hx hb d_M_to_17 ?_
  refine ag_topl (lN (sp + (ag_cost G ms x))) (lN_add _ _) ?_
  refine va_put (D := (dC, dI)) (ci := 2) (v := .long (lN (sp + (ag_cost G ms x)))) (ty := .long) (C := RX2) (T := TX2) (N := 12) hx hb ht inA2 tyX2 tyX2_ok nmX2 hown hK hP hD hS 0 rfl rfl 11 (by decide) (ht _ mw_f_M_69) (fun _ h9 => h9) rfl (by decide +kernel) rfl rfl (Nat.le_of_ble_eq_true rfl) d_M_to_18 (fun H locs hP hD hS => ?_)
  have hP : va_P (dC, dI) agCl [(b, .inr (2, [.int (nI cd), .int (nI G), .int (nI R), .long (lN en), .long (lN x), .int (nI ms.length), .ref qn, .ref qk, .int (nI mo), .long (lN la), .long (lN go), .long (lN (sp + (ag_cost G ms x)))])), (qn, .inl (cI, 1200, .inl f)), (qk, .inl (cI, 1200, .inl g))] H := hP
  have hD : va_D A [(b, .inr (2, [.int (nI cd), .int (nI G), .int (nI R), .long (lN en), .long (lN x), .int (nI ms.length), .ref qn, .ref qk, .int (nI mo), .long (lN la), .long (lN go), .long (lN (sp + (ag_cost G ms x)))])), (qn, .inl (cI, 1200, .inl f)), (qk, .inl (cI, 1200, .inl g))] := hD
  refine lv_lload_n hx hb d_M_to_21 rfl (lv_at hl 0 rfl) ?_
  exact ag_retl hx hb hr hlocks () rfl hP hK hD hS d_M_to_22

set_option maxHeartbeats 4000000 in
set_option maxRecDepth 100000 in
/-- go(x), refused -/
theorem c_M_go_1 (l : Launch) (dC : Nat → ClassId) (dI : Nat → Nat → Nat) (sz : Nat) (b qn qk : Nat) (cI : ClassId) (cd G R en nw mo la go sp : Nat) (f g : Nat → Int32) (ms : ag_M) (x : Int64) (hen : en ≤ 1000000000) (hno : ¬ ∃ n, n ≤ en ∧ x = lN n) : Met l y_M_go (Cond.code y_M_go b_M_go 3 (some .long) :: agW) ({ frames := 2, cells := 0, slots := 0, locals := 50 }) (va_Pc [.ref b, .long x] (ag_at (dC, dI) agCl [(cI, .int)] sz [(b, .inr (2, [.int (nI cd), .int (nI G), .int (nI R), .long (lN en), .long (lN nw), .int (nI ms.length), .ref qn, .ref qk, .int (nI mo), .long (lN la), .long (lN go), .long (lN sp)])), (qn, .inl (cI, 1200, .inl f)), (qk, .inl (cI, 1200, .inl g))])) (va_Ql (fun (_ : Int64) (_ : Unit) => True) (ag_to (dC, dI) agCl [(cI, .int)] (va_A [(b, .inr (2, [.int (nI cd), .int (nI G), .int (nI R), .long (lN en), .long (lN nw), .int (nI ms.length), .ref qn, .ref qk, .int (nI mo), .long (lN la), .long (lN go), .long (lN sp)])), (qn, .inl (cI, 1200, .inl f)), (qk, .inl (cI, 1200, .inl g))] sz) (fun _ : Unit => [(b, .inr (2, [.int (nI 1), .int (nI G), .int (nI R), .long (lN en), .long (lN nw), .int (nI ms.length), .ref qn, .ref qk, .int (nI mo), .long (lN la), .long (lN go), .long (lN sp)])), (qn, .inl (cI, 1200, .inl f)), (qk, .inl (cI, 1200, .inl g))])) (va_A [(b, .inr (2, [.int (nI cd), .int (nI G), .int (nI R), .long (lN en), .long (lN nw), .int (nI ms.length), .ref qn, .ref qk, .int (nI mo), .long (lN la), .long (lN go), .long (lN sp)])), (qn, .inl (cI, 1200, .inl f)), (qk, .inl (cI, 1200, .inl g))] sz)) 0 0 (va_A [(b, .inr (2, [.int (nI cd), .int (nI G), .int (nI R), .long (lN en), .long (lN nw), .int (nI ms.length), .ref qn, .ref qk, .int (nI mo), .long (lN la), .long (lN go), .long (lN sp)])), (qn, .inl (cI, 1200, .inl f)), (qk, .inl (cI, 1200, .inl g))] sz) := by
  refine ag_ofW (Qf := fun A => va_Ql (fun (_ : Int64) (_ : Unit) => True) (ag_to (dC, dI) agCl [(cI, .int)] A (fun _ : Unit => [(b, .inr (2, [.int (nI 1), .int (nI G), .int (nI R), .long (lN en), .long (lN nw), .int (nI ms.length), .ref qn, .ref qk, .int (nI mo), .long (lN la), .long (lN go), .long (lN sp)])), (qn, .inl (cI, 1200, .inl f)), (qk, .inl (cI, 1200, .inl g))])) A) (cc := b_M_go) (maxL := 3) (ret := (some .long)) (lv := [(0, .ref b), (1, .long x)]) (by decide) rfl (Nat.le_of_ble_eq_true rfl) rfl (fun p e s m below meth c A ls hx hb hr hts hown hlocks hml hnm hA hS hP hK hD hl hsz => ?_)
  have hown : s.vm.findClass "AgedMarksModel" = some m.cls := hown
  have ht : ∀ w ∈ agW, w.before [.ref b, .long x].toArray s = true := fun w h => hts w (List.mem_cons_of_mem _ h)
  refine lv_aload_n hx hb d_M_go_0 rfl (lv_at hl 0 rfl) ?_
  refine lv_lload_n hx hb d_M_go_1 rfl (lv_at hl 1 rfl) ?_
  refine ag_lconst hx hb 0 d_M_go_2 (by decide) ?_
  refine ag_lc_lt (tgt := 16) hx hb d_M_go_3 d_M_go_4 (by decide) (fun c3 => ?_) (fun c3 => ?_)
  · have h_n := trivial
    refine ag_iconst hx hb 1 d_M_go_16 (by decide) ?_
    refine lv_goto (tgt := 21) hx hb d_M_go_17 (by decide) ?_
    refine ag_iconst hx hb 0 d_M_go_21 (by decide) ?_
    have hPc := hP.sub (ws' := [(b, .inr (2, [.int (nI cd), .int (nI G), .int (nI R), .long (lN en), .long (lN nw), .int (nI ms.length), .ref qn, .ref qk, .int (nI mo), .long (lN la), .long (lN go), .long (lN sp)])), (qn, .inl (cI, 1200, .inl f)), (qk, .inl (cI, 1200, .inl g))]) [0, 1, 2] rfl
    have hDc := hD.sub (ws' := [(b, .inr (2, [.int (nI cd), .int (nI G), .int (nI R), .long (lN en), .long (lN nw), .int (nI ms.length), .ref qn, .ref qk, .int (nI mo), .long (lN la), .long (lN go), .long (lN sp)])), (qn, .inl (cI, 1200, .inl f)), (qk, .inl (cI, 1200, .inl g))]) [0, 1, 2] (by decide) rfl
    refine ag_cli (wc := [(b, .inr (2, [.int (nI cd), .int (nI G), .int (nI R), .long (lN en), .long (lN nw), .int (nI ms.length), .ref qn, .ref qk, .int (nI mo), .long (lN la), .long (lN go), .long (lN sp)])), (qn, .inl (cI, 1200, .inl f)), (qk, .inl (cI, 1200, .inl g))]) (wr := []) (Wf := fun _ : Unit => [(b, .inr (2, [.int (nI (if 1 = 1 then 1 else if 0 = 1 then 2 else 0)), .int (nI G), .int (nI R), .long (lN en), .long (lN nw), .int (nI ms.length), .ref qn, .ref qk, .int (nI mo), .long (lN la), .long (lN go), .long (lN sp)])), (qn, .inl (cI, 1200, .inl f)), (qk, .inl (cI, 1200, .inl g))]) hP hD hS hA [0, 1, 2] [] rfl rfl (by decide) (by decide) (va_runV (C := "AgedMarksModel") (As := [.int (nI 1), .int (nI 0)]) (rest := []) ⟨hx, hb, hml, hown, hts⟩ (c_M_fails l dC dI s.heap.size b qn qk cI cd G R en nw mo la go sp f g ms 1 0 (by decide) (by decide)) (ag_cwV 2 hts mw_m_M_54 mw_instanceMethod_M_fails mw_sel_M_fails mw_ini_M mw_code_M_fails rfl rfl (by decide +kernel) ⟨Nat.le_of_ble_eq_true rfl, Nat.le_of_ble_eq_true rfl⟩) ⟨ag_blind, va_recv hK hPc (ci := 2) (q0 := 0) rfl rfl, ag_pre hPc hK hDc⟩ rfl rfl hl.1 rfl (lv_room (Nat.le_of_ble_eq_true rfl)) d_M_go_22 ⟨Nat.le_of_ble_eq_true rfl, Nat.le_of_ble_eq_true rfl⟩) (fun r1 u H locs hw hP hD hS => ?_)
    try dsimp only at hw
    subst hw
    have hP : va_P (dC, dI) agCl [(b, .inr (2, [.int (nI 1), .int (nI G), .int (nI R), .long (lN en), .long (lN nw), .int (nI ms.length), .ref qn, .ref qk, .int (nI mo), .long (lN la), .long (lN go), .long (lN sp)])), (qn, .inl (cI, 1200, .inl f)), (qk, .inl (cI, 1200, .inl g))] H := hP
    have hD : va_D A [(b, .inr (2, [.int (nI 1), .int (nI G), .int (nI R), .long (lN en), .long (lN nw), .int (nI ms.length), .ref qn, .ref qk, .int (nI mo), .long (lN la), .long (lN go), .long (lN sp)])), (qn, .inl (cI, 1200, .inl f)), (qk, .inl (cI, 1200, .inl g))] := hD
    refine lv_if_eq (tgt := 32) hx hb d_M_go_25 (by decide) (fun c25 => ?_) (fun c25 => ?_)
    · have h_n := trivial
      exact absurd c25 (by decide)
    · have h_n := trivial
      refine ag_lconst hx hb 0 d_M_go_28 (by decide) ?_
      refine lv_goto (tgt := 37) hx hb d_M_go_29 (by decide) ?_
      exact ag_retl hx hb hr hlocks () trivial hP hK hD hS d_M_go_37
  · have h_n := trivial
    obtain ⟨n, hn63, rfl⟩ := pk_lOf c3
    refine lv_lload_n hx hb d_M_go_7 rfl (lv_at hl 1 rfl) ?_
    refine lv_aload_n hx hb d_M_go_8 rfl (lv_at hl 0 rfl) ?_
    refine va_get (D := (dC, dI)) (ci := 2) (v := .long (lN en)) (C := RX2) (T := TX2) (N := 12) hx hb ht inA2 hown hK hP 0 rfl rfl 3 (by decide) (ht _ mw_f_M_58) (fun _ h9 => h9) rfl d_M_go_9 ?_
    refine ag_lc_le (tgt := 20) hx hb d_M_go_12 d_M_go_13 (by decide) (fun c12 => ?_) (fun c12 => ?_)
    · have h_n := trivial
      exact absurd ⟨n, (pk_lLE (a := n) (b := en) (by omega) (by omega)).mp c12, rfl⟩ hno
    · have h_n := trivial
      refine ag_iconst hx hb 1 d_M_go_16 (by decide) ?_
      refine lv_goto (tgt := 21) hx hb d_M_go_17 (by decide) ?_
      refine ag_iconst hx hb 0 d_M_go_21 (by decide) ?_
      have hPc := hP.sub (ws' := [(b, .inr (2, [.int (nI cd), .int (nI G), .int (nI R), .long (lN en), .long (lN nw), .int (nI ms.length), .ref qn, .ref qk, .int (nI mo), .long (lN la), .long (lN go), .long (lN sp)])), (qn, .inl (cI, 1200, .inl f)), (qk, .inl (cI, 1200, .inl g))]) [0, 1, 2] rfl
      have hDc := hD.sub (ws' := [(b, .inr (2, [.int (nI cd), .int (nI G), .int (nI R), .long (lN en), .long (lN nw), .int (nI ms.length), .ref qn, .ref qk, .int (nI mo), .long (lN la), .long (lN go), .long (lN sp)])), (qn, .inl (cI, 1200, .inl f)), (qk, .inl (cI, 1200, .inl g))]) [0, 1, 2] (by decide) rfl
      refine ag_cli (wc := [(b, .inr (2, [.int (nI cd), .int (nI G), .int (nI R), .long (lN en), .long (lN nw), .int (nI ms.length), .ref qn, .ref qk, .int (nI mo), .long (lN la), .long (lN go), .long (lN sp)])), (qn, .inl (cI, 1200, .inl f)), (qk, .inl (cI, 1200, .inl g))]) (wr := []) (Wf := fun _ : Unit => [(b, .inr (2, [.int (nI (if 1 = 1 then 1 else if 0 = 1 then 2 else 0)), .int (nI G), .int (nI R), .long (lN en), .long (lN nw), .int (nI ms.length), .ref qn, .ref qk, .int (nI mo), .long (lN la), .long (lN go), .long (lN sp)])), (qn, .inl (cI, 1200, .inl f)), (qk, .inl (cI, 1200, .inl g))]) hP hD hS hA [0, 1, 2] [] rfl rfl (by decide) (by decide) (va_runV (C := "AgedMarksModel") (As := [.int (nI 1), .int (nI 0)]) (rest := []) ⟨hx, hb, hml, hown, hts⟩ (c_M_fails l dC dI s.heap.size b qn qk cI cd G R en nw mo la go sp f g ms 1 0 (by decide) (by decide)) (ag_cwV 2 hts mw_m_M_54 mw_instanceMethod_M_fails mw_sel_M_fails mw_ini_M mw_code_M_fails rfl rfl (by decide +kernel) ⟨Nat.le_of_ble_eq_true rfl, Nat.le_of_ble_eq_true rfl⟩) ⟨ag_blind, va_recv hK hPc (ci := 2) (q0 := 0) rfl rfl, ag_pre hPc hK hDc⟩ rfl rfl hl.1 rfl (lv_room (Nat.le_of_ble_eq_true rfl)) d_M_go_22 ⟨Nat.le_of_ble_eq_true rfl, Nat.le_of_ble_eq_true rfl⟩) (fun r2 u H locs hw hP hD hS => ?_)
      try dsimp only at hw
      subst hw
      have hP : va_P (dC, dI) agCl [(b, .inr (2, [.int (nI 1), .int (nI G), .int (nI R), .long (lN en), .long (lN nw), .int (nI ms.length), .ref qn, .ref qk, .int (nI mo), .long (lN la), .long (lN go), .long (lN sp)])), (qn, .inl (cI, 1200, .inl f)), (qk, .inl (cI, 1200, .inl g))] H := hP
      have hD : va_D A [(b, .inr (2, [.int (nI 1), .int (nI G), .int (nI R), .long (lN en), .long (lN nw), .int (nI ms.length), .ref qn, .ref qk, .int (nI mo), .long (lN la), .long (lN go), .long (lN sp)])), (qn, .inl (cI, 1200, .inl f)), (qk, .inl (cI, 1200, .inl g))] := hD
      refine lv_if_eq (tgt := 32) hx hb d_M_go_25 (by decide) (fun c25 => ?_) (fun c25 => ?_)
      · have h_n := trivial
        exact absurd c25 (by decide)
      · have h_n := trivial
        refine ag_lconst hx hb 0 d_M_go_28 (by decide) ?_
        refine lv_goto (tgt := 37) hx hb d_M_go_29 (by decide) ?_
        exact ag_retl hx hb hr hlocks () trivial hP hK hD hS d_M_go_37

set_option maxHeartbeats 4000000 in
set_option maxRecDepth 100000 in
/-- go(n) -/
theorem c_M_go_0 (l : Launch) (dC : Nat → ClassId) (dI : Nat → Nat → Nat) (sz : Nat) (b qn qk : Nat) (cI : ClassId) (cd G R en nw mo la go sp : Nat) (f g : Nat → Int32) (ms : ag_M) (n : Nat) (hen : en ≤ 1000000000) (hn : n ≤ en) (hG2 : G ≤ 1000) (hbd : ag_bd ms) (h0 : 0 < ms.length) (h00 : (ms[0]).1 = 0) (hrep : ag_rpm ms f g) : Met l y_M_go (Cond.code y_M_go b_M_go 3 (some .long) :: agW) ({ frames := 2, cells := 0, slots := 0, locals := 50 }) (va_Pc [.ref b, .long (lN n)] (ag_at (dC, dI) agCl [(cI, .int)] sz [(b, .inr (2, [.int (nI cd), .int (nI G), .int (nI R), .long (lN en), .long (lN nw), .int (nI ms.length), .ref qn, .ref qk, .int (nI mo), .long (lN la), .long (lN go), .long (lN sp)])), (qn, .inl (cI, 1200, .inl f)), (qk, .inl (cI, 1200, .inl g))])) (va_Ql (fun (r : Int64) (_ : Unit) => r = lN (ag_cost G ms n)) (ag_to (dC, dI) agCl [(cI, .int)] (va_A [(b, .inr (2, [.int (nI cd), .int (nI G), .int (nI R), .long (lN en), .long (lN nw), .int (nI ms.length), .ref qn, .ref qk, .int (nI mo), .long (lN la), .long (lN go), .long (lN sp)])), (qn, .inl (cI, 1200, .inl f)), (qk, .inl (cI, 1200, .inl g))] sz) (fun _ : Unit => [(b, .inr (2, [.int (nI 0), .int (nI G), .int (nI R), .long (lN en), .long (lN n), .int (nI ms.length), .ref qn, .ref qk, .int (nI mo), .long (lN la), .long (lN go), .long (lN (sp + ag_cost G ms n))])), (qn, .inl (cI, 1200, .inl f)), (qk, .inl (cI, 1200, .inl g))])) (va_A [(b, .inr (2, [.int (nI cd), .int (nI G), .int (nI R), .long (lN en), .long (lN nw), .int (nI ms.length), .ref qn, .ref qk, .int (nI mo), .long (lN la), .long (lN go), .long (lN sp)])), (qn, .inl (cI, 1200, .inl f)), (qk, .inl (cI, 1200, .inl g))] sz)) 0 0 (va_A [(b, .inr (2, [.int (nI cd), .int (nI G), .int (nI R), .long (lN en), .long (lN nw), .int (nI ms.length), .ref qn, .ref qk, .int (nI mo), .long (lN la), .long (lN go), .long (lN sp)])), (qn, .inl (cI, 1200, .inl f)), (qk, .inl (cI, 1200, .inl g))] sz) := by
  refine ag_ofW (Qf := fun A => va_Ql (fun (r : Int64) (_ : Unit) => r = lN (ag_cost G ms n)) (ag_to (dC, dI) agCl [(cI, .int)] A (fun _ : Unit => [(b, .inr (2, [.int (nI 0), .int (nI G), .int (nI R), .long (lN en), .long (lN n), .int (nI ms.length), .ref qn, .ref qk, .int (nI mo), .long (lN la), .long (lN go), .long (lN (sp + ag_cost G ms n))])), (qn, .inl (cI, 1200, .inl f)), (qk, .inl (cI, 1200, .inl g))])) A) (cc := b_M_go) (maxL := 3) (ret := (some .long)) (lv := [(0, .ref b), (1, .long (lN n))]) (by decide) rfl (Nat.le_of_ble_eq_true rfl) rfl (fun p e s m below meth c A ls hx hb hr hts hown hlocks hml hnm hA hS hP hK hD hl hsz => ?_)
  have hown : s.vm.findClass "AgedMarksModel" = some m.cls := hown
  have ht : ∀ w ∈ agW, w.before [.ref b, .long (lN n)].toArray s = true := fun w h => hts w (List.mem_cons_of_mem _ h)
  refine lv_aload_n hx hb d_M_go_0 rfl (lv_at hl 0 rfl) ?_
  refine lv_lload_n hx hb d_M_go_1 rfl (lv_at hl 1 rfl) ?_
  refine ag_lconst hx hb 0 d_M_go_2 (by decide) ?_
  refine ag_lc_lt (tgt := 16) hx hb d_M_go_3 d_M_go_4 (by decide) (fun c3 => ?_) (fun c3 => ?_)
  · have h_n := trivial
    exact absurd ((pk_lLT (a := n) (b := 0) (by omega) (by omega)).mp c3) (by omega)
  · have h_n := trivial
    refine lv_lload_n hx hb d_M_go_7 rfl (lv_at hl 1 rfl) ?_
    refine lv_aload_n hx hb d_M_go_8 rfl (lv_at hl 0 rfl) ?_
    refine va_get (D := (dC, dI)) (ci := 2) (v := .long (lN en)) (C := RX2) (T := TX2) (N := 12) hx hb ht inA2 hown hK hP 0 rfl rfl 3 (by decide) (ht _ mw_f_M_58) (fun _ h9 => h9) rfl d_M_go_9 ?_
    refine ag_lc_le (tgt := 20) hx hb d_M_go_12 d_M_go_13 (by decide) (fun c12 => ?_) (fun c12 => ?_)
    · have h_n := trivial
      refine ag_iconst hx hb 0 d_M_go_20 (by decide) ?_
      refine ag_iconst hx hb 0 d_M_go_21 (by decide) ?_
      have hPc := hP.sub (ws' := [(b, .inr (2, [.int (nI cd), .int (nI G), .int (nI R), .long (lN en), .long (lN nw), .int (nI ms.length), .ref qn, .ref qk, .int (nI mo), .long (lN la), .long (lN go), .long (lN sp)])), (qn, .inl (cI, 1200, .inl f)), (qk, .inl (cI, 1200, .inl g))]) [0, 1, 2] rfl
      have hDc := hD.sub (ws' := [(b, .inr (2, [.int (nI cd), .int (nI G), .int (nI R), .long (lN en), .long (lN nw), .int (nI ms.length), .ref qn, .ref qk, .int (nI mo), .long (lN la), .long (lN go), .long (lN sp)])), (qn, .inl (cI, 1200, .inl f)), (qk, .inl (cI, 1200, .inl g))]) [0, 1, 2] (by decide) rfl
      refine ag_cli (wc := [(b, .inr (2, [.int (nI cd), .int (nI G), .int (nI R), .long (lN en), .long (lN nw), .int (nI ms.length), .ref qn, .ref qk, .int (nI mo), .long (lN la), .long (lN go), .long (lN sp)])), (qn, .inl (cI, 1200, .inl f)), (qk, .inl (cI, 1200, .inl g))]) (wr := []) (Wf := fun _ : Unit => [(b, .inr (2, [.int (nI (if 0 = 1 then 1 else if 0 = 1 then 2 else 0)), .int (nI G), .int (nI R), .long (lN en), .long (lN nw), .int (nI ms.length), .ref qn, .ref qk, .int (nI mo), .long (lN la), .long (lN go), .long (lN sp)])), (qn, .inl (cI, 1200, .inl f)), (qk, .inl (cI, 1200, .inl g))]) hP hD hS hA [0, 1, 2] [] rfl rfl (by decide) (by decide) (va_runV (C := "AgedMarksModel") (As := [.int (nI 0), .int (nI 0)]) (rest := []) ⟨hx, hb, hml, hown, hts⟩ (c_M_fails l dC dI s.heap.size b qn qk cI cd G R en nw mo la go sp f g ms 0 0 (by decide) (by decide)) (ag_cwV 2 hts mw_m_M_54 mw_instanceMethod_M_fails mw_sel_M_fails mw_ini_M mw_code_M_fails rfl rfl (by decide +kernel) ⟨Nat.le_of_ble_eq_true rfl, Nat.le_of_ble_eq_true rfl⟩) ⟨ag_blind, va_recv hK hPc (ci := 2) (q0 := 0) rfl rfl, ag_pre hPc hK hDc⟩ rfl rfl hl.1 rfl (lv_room (Nat.le_of_ble_eq_true rfl)) d_M_go_22 ⟨Nat.le_of_ble_eq_true rfl, Nat.le_of_ble_eq_true rfl⟩) (fun r1 u H locs hw hP hD hS => ?_)
      try dsimp only at hw
      subst hw
      have hP : va_P (dC, dI) agCl [(b, .inr (2, [.int (nI 0), .int (nI G), .int (nI R), .long (lN en), .long (lN nw), .int (nI ms.length), .ref qn, .ref qk, .int (nI mo), .long (lN la), .long (lN go), .long (lN sp)])), (qn, .inl (cI, 1200, .inl f)), (qk, .inl (cI, 1200, .inl g))] H := hP
      have hD : va_D A [(b, .inr (2, [.int (nI 0), .int (nI G), .int (nI R), .long (lN en), .long (lN nw), .int (nI ms.length), .ref qn, .ref qk, .int (nI mo), .long (lN la), .long (lN go), .long (lN sp)])), (qn, .inl (cI, 1200, .inl f)), (qk, .inl (cI, 1200, .inl g))] := hD
      refine lv_if_eq (tgt := 32) hx hb d_M_go_25 (by decide) (fun c25 => ?_) (fun c25 => ?_)
      · have h_n := trivial
        refine lv_aload_n hx hb d_M_go_32 rfl (lv_at hl 0 rfl) ?_
        refine lv_lload_n hx hb d_M_go_33 rfl (lv_at hl 1 rfl) ?_
        have hPc := hP.sub (ws' := [(b, .inr (2, [.int (nI 0), .int (nI G), .int (nI R), .long (lN en), .long (lN nw), .int (nI ms.length), .ref qn, .ref qk, .int (nI mo), .long (lN la), .long (lN go), .long (lN sp)])), (qn, .inl (cI, 1200, .inl f)), (qk, .inl (cI, 1200, .inl g))]) [0, 1, 2] rfl
        have hDc := hD.sub (ws' := [(b, .inr (2, [.int (nI 0), .int (nI G), .int (nI R), .long (lN en), .long (lN nw), .int (nI ms.length), .ref qn, .ref qk, .int (nI mo), .long (lN la), .long (lN go), .long (lN sp)])), (qn, .inl (cI, 1200, .inl f)), (qk, .inl (cI, 1200, .inl g))]) [0, 1, 2] (by decide) rfl
        refine ag_cll (wc := [(b, .inr (2, [.int (nI 0), .int (nI G), .int (nI R), .long (lN en), .long (lN nw), .int (nI ms.length), .ref qn, .ref qk, .int (nI mo), .long (lN la), .long (lN go), .long (lN sp)])), (qn, .inl (cI, 1200, .inl f)), (qk, .inl (cI, 1200, .inl g))]) (wr := []) (Wf := fun _ : Unit => [(b, .inr (2, [.int (nI 0), .int (nI G), .int (nI R), .long (lN en), .long (lN n), .int (nI ms.length), .ref qn, .ref qk, .int (nI mo), .long (lN la), .long (lN go), .long (lN (sp + ag_cost G ms n))])), (qn, .inl (cI, 1200, .inl f)), (qk, .inl (cI, 1200, .inl g))]) hP hD hS hA [0, 1, 2] [] rfl rfl (by decide) (by decide) (va_runV (C := "AgedMarksModel") (As := [.long (lN n)]) (rest := []) ⟨hx, hb, hml, hown, hts⟩ (c_M_to l dC dI H.size b qn qk cI 0 G R en nw mo la go sp f g ms n hG2 (by omega) hbd h0 h00 hrep) (ag_cwV 1 hts mw_m_M_72 mw_instanceMethod_M_to mw_sel_M_to mw_ini_M mw_code_M_to rfl rfl (by decide +kernel) ⟨Nat.le_of_ble_eq_true rfl, Nat.le_of_ble_eq_true rfl⟩) ⟨ag_blind, va_recv hK hPc (ci := 2) (q0 := 0) rfl rfl, ag_pre hPc hK hDc⟩ rfl rfl hl.1 rfl (lv_room (Nat.le_of_ble_eq_true rfl)) d_M_go_34 ⟨Nat.le_of_ble_eq_true rfl, Nat.le_of_ble_eq_true rfl⟩) (fun r2 u H locs hw hP hD hS => ?_)
        try dsimp only at hw
        subst hw
        have hP : va_P (dC, dI) agCl [(b, .inr (2, [.int (nI 0), .int (nI G), .int (nI R), .long (lN en), .long (lN n), .int (nI ms.length), .ref qn, .ref qk, .int (nI mo), .long (lN la), .long (lN go), .long (lN (sp + ag_cost G ms n))])), (qn, .inl (cI, 1200, .inl f)), (qk, .inl (cI, 1200, .inl g))] H := hP
        have hD : va_D A [(b, .inr (2, [.int (nI 0), .int (nI G), .int (nI R), .long (lN en), .long (lN n), .int (nI ms.length), .ref qn, .ref qk, .int (nI mo), .long (lN la), .long (lN go), .long (lN (sp + ag_cost G ms n))])), (qn, .inl (cI, 1200, .inl f)), (qk, .inl (cI, 1200, .inl g))] := hD
        exact ag_retl hx hb hr hlocks () rfl hP hK hD hS d_M_go_37
      · have h_n := trivial
        exact absurd (by decide) c25
    · have h_n := trivial
      exact absurd ((pk_lLE (a := n) (b := en) (by omega) (by omega)).mpr hn) c12

set_option maxHeartbeats 4000000 in
set_option maxRecDepth 100000 in
/-- back(x), refused -/
theorem c_M_back_1 (l : Launch) (dC : Nat → ClassId) (dI : Nat → Nat → Nat) (sz : Nat) (b qn qk : Nat) (cI : ClassId) (cd G R en nw mo la go sp : Nat) (f g : Nat → Int32) (ms : ag_M) (x : Int64) (hneg : x < 0) : Met l y_M_back (Cond.code y_M_back b_M_back 3 (some .long) :: agW) ({ frames := 2, cells := 0, slots := 0, locals := 50 }) (va_Pc [.ref b, .long x] (ag_at (dC, dI) agCl [(cI, .int)] sz [(b, .inr (2, [.int (nI cd), .int (nI G), .int (nI R), .long (lN en), .long (lN nw), .int (nI ms.length), .ref qn, .ref qk, .int (nI mo), .long (lN la), .long (lN go), .long (lN sp)])), (qn, .inl (cI, 1200, .inl f)), (qk, .inl (cI, 1200, .inl g))])) (va_Ql (fun (_ : Int64) (_ : Unit) => True) (ag_to (dC, dI) agCl [(cI, .int)] (va_A [(b, .inr (2, [.int (nI cd), .int (nI G), .int (nI R), .long (lN en), .long (lN nw), .int (nI ms.length), .ref qn, .ref qk, .int (nI mo), .long (lN la), .long (lN go), .long (lN sp)])), (qn, .inl (cI, 1200, .inl f)), (qk, .inl (cI, 1200, .inl g))] sz) (fun _ : Unit => [(b, .inr (2, [.int (nI 1), .int (nI G), .int (nI R), .long (lN en), .long (lN nw), .int (nI ms.length), .ref qn, .ref qk, .int (nI mo), .long (lN la), .long (lN go), .long (lN sp)])), (qn, .inl (cI, 1200, .inl f)), (qk, .inl (cI, 1200, .inl g))])) (va_A [(b, .inr (2, [.int (nI cd), .int (nI G), .int (nI R), .long (lN en), .long (lN nw), .int (nI ms.length), .ref qn, .ref qk, .int (nI mo), .long (lN la), .long (lN go), .long (lN sp)])), (qn, .inl (cI, 1200, .inl f)), (qk, .inl (cI, 1200, .inl g))] sz)) 0 0 (va_A [(b, .inr (2, [.int (nI cd), .int (nI G), .int (nI R), .long (lN en), .long (lN nw), .int (nI ms.length), .ref qn, .ref qk, .int (nI mo), .long (lN la), .long (lN go), .long (lN sp)])), (qn, .inl (cI, 1200, .inl f)), (qk, .inl (cI, 1200, .inl g))] sz) := by
  refine ag_ofW (Qf := fun A => va_Ql (fun (_ : Int64) (_ : Unit) => True) (ag_to (dC, dI) agCl [(cI, .int)] A (fun _ : Unit => [(b, .inr (2, [.int (nI 1), .int (nI G), .int (nI R), .long (lN en), .long (lN nw), .int (nI ms.length), .ref qn, .ref qk, .int (nI mo), .long (lN la), .long (lN go), .long (lN sp)])), (qn, .inl (cI, 1200, .inl f)), (qk, .inl (cI, 1200, .inl g))])) A) (cc := b_M_back) (maxL := 3) (ret := (some .long)) (lv := [(0, .ref b), (1, .long x)]) (by decide) rfl (Nat.le_of_ble_eq_true rfl) rfl (fun p e s m below meth c A ls hx hb hr hts hown hlocks hml hnm hA hS hP hK hD hl hsz => ?_)
  have hown : s.vm.findClass "AgedMarksModel" = some m.cls := hown
  have ht : ∀ w ∈ agW, w.before [.ref b, .long x].toArray s = true := fun w h => hts w (List.mem_cons_of_mem _ h)
  refine lv_aload_n hx hb d_M_back_0 rfl (lv_at hl 0 rfl) ?_
  refine lv_lload_n hx hb d_M_back_1 rfl (lv_at hl 1 rfl) ?_
  refine ag_lconst hx hb 0 d_M_back_2 (by decide) ?_
  refine ag_lc_ge (tgt := 11) hx hb d_M_back_3 d_M_back_4 (by decide) (fun c3 => ?_) (fun c3 => ?_)
  · have h_n := trivial
    exact absurd hneg (Int64.not_lt.mpr c3)
  · have h_n := trivial
    refine ag_iconst hx hb 1 d_M_back_7 (by decide) ?_
    refine lv_goto (tgt := 12) hx hb d_M_back_8 (by decide) ?_
    refine ag_iconst hx hb 0 d_M_back_12 (by decide) ?_
    have hPc := hP.sub (ws' := [(b, .inr (2, [.int (nI cd), .int (nI G), .int (nI R), .long (lN en), .long (lN nw), .int (nI ms.length), .ref qn, .ref qk, .int (nI mo), .long (lN la), .long (lN go), .long (lN sp)])), (qn, .inl (cI, 1200, .inl f)), (qk, .inl (cI, 1200, .inl g))]) [0, 1, 2] rfl
    have hDc := hD.sub (ws' := [(b, .inr (2, [.int (nI cd), .int (nI G), .int (nI R), .long (lN en), .long (lN nw), .int (nI ms.length), .ref qn, .ref qk, .int (nI mo), .long (lN la), .long (lN go), .long (lN sp)])), (qn, .inl (cI, 1200, .inl f)), (qk, .inl (cI, 1200, .inl g))]) [0, 1, 2] (by decide) rfl
    refine ag_cli (wc := [(b, .inr (2, [.int (nI cd), .int (nI G), .int (nI R), .long (lN en), .long (lN nw), .int (nI ms.length), .ref qn, .ref qk, .int (nI mo), .long (lN la), .long (lN go), .long (lN sp)])), (qn, .inl (cI, 1200, .inl f)), (qk, .inl (cI, 1200, .inl g))]) (wr := []) (Wf := fun _ : Unit => [(b, .inr (2, [.int (nI (if 1 = 1 then 1 else if 0 = 1 then 2 else 0)), .int (nI G), .int (nI R), .long (lN en), .long (lN nw), .int (nI ms.length), .ref qn, .ref qk, .int (nI mo), .long (lN la), .long (lN go), .long (lN sp)])), (qn, .inl (cI, 1200, .inl f)), (qk, .inl (cI, 1200, .inl g))]) hP hD hS hA [0, 1, 2] [] rfl rfl (by decide) (by decide) (va_runV (C := "AgedMarksModel") (As := [.int (nI 1), .int (nI 0)]) (rest := []) ⟨hx, hb, hml, hown, hts⟩ (c_M_fails l dC dI s.heap.size b qn qk cI cd G R en nw mo la go sp f g ms 1 0 (by decide) (by decide)) (ag_cwV 2 hts mw_m_M_54 mw_instanceMethod_M_fails mw_sel_M_fails mw_ini_M mw_code_M_fails rfl rfl (by decide +kernel) ⟨Nat.le_of_ble_eq_true rfl, Nat.le_of_ble_eq_true rfl⟩) ⟨ag_blind, va_recv hK hPc (ci := 2) (q0 := 0) rfl rfl, ag_pre hPc hK hDc⟩ rfl rfl hl.1 rfl (lv_room (Nat.le_of_ble_eq_true rfl)) d_M_back_13 ⟨Nat.le_of_ble_eq_true rfl, Nat.le_of_ble_eq_true rfl⟩) (fun r1 u H locs hw hP hD hS => ?_)
    try dsimp only at hw
    subst hw
    have hP : va_P (dC, dI) agCl [(b, .inr (2, [.int (nI 1), .int (nI G), .int (nI R), .long (lN en), .long (lN nw), .int (nI ms.length), .ref qn, .ref qk, .int (nI mo), .long (lN la), .long (lN go), .long (lN sp)])), (qn, .inl (cI, 1200, .inl f)), (qk, .inl (cI, 1200, .inl g))] H := hP
    have hD : va_D A [(b, .inr (2, [.int (nI 1), .int (nI G), .int (nI R), .long (lN en), .long (lN nw), .int (nI ms.length), .ref qn, .ref qk, .int (nI mo), .long (lN la), .long (lN go), .long (lN sp)])), (qn, .inl (cI, 1200, .inl f)), (qk, .inl (cI, 1200, .inl g))] := hD
    refine lv_if_eq (tgt := 23) hx hb d_M_back_16 (by decide) (fun c16 => ?_) (fun c16 => ?_)
    · have h_n := trivial
      exact absurd c16 (by decide)
    · have h_n := trivial
      refine ag_lconst hx hb 0 d_M_back_19 (by decide) ?_
      refine lv_goto (tgt := 46) hx hb d_M_back_20 (by decide) ?_
      exact ag_retl hx hb hr hlocks () trivial hP hK hD hS d_M_back_46

set_option maxHeartbeats 4000000 in
set_option maxRecDepth 100000 in
/-- back(n) -/
theorem c_M_back_0 (l : Launch) (dC : Nat → ClassId) (dI : Nat → Nat → Nat) (sz : Nat) (b qn qk : Nat) (cI : ClassId) (cd G R en nw mo la go sp : Nat) (f g : Nat → Int32) (ms : ag_M) (n : Nat) (hnw : nw ≤ 1000000000) (hn63 : n < 2 ^ 63) (hG2 : G ≤ 1000) (hbd : ag_bd ms) (h0 : 0 < ms.length) (h00 : (ms[0]).1 = 0) (hrep : ag_rpm ms f g) : Met l y_M_back (Cond.code y_M_back b_M_back 3 (some .long) :: agW) ({ frames := 2, cells := 0, slots := 0, locals := 50 }) (va_Pc [.ref b, .long (lN n)] (ag_at (dC, dI) agCl [(cI, .int)] sz [(b, .inr (2, [.int (nI cd), .int (nI G), .int (nI R), .long (lN en), .long (lN nw), .int (nI ms.length), .ref qn, .ref qk, .int (nI mo), .long (lN la), .long (lN go), .long (lN sp)])), (qn, .inl (cI, 1200, .inl f)), (qk, .inl (cI, 1200, .inl g))])) (va_Ql (fun (r : Int64) (_ : Unit) => r = lN (ag_cost G ms (nw - n))) (ag_to (dC, dI) agCl [(cI, .int)] (va_A [(b, .inr (2, [.int (nI cd), .int (nI G), .int (nI R), .long (lN en), .long (lN nw), .int (nI ms.length), .ref qn, .ref qk, .int (nI mo), .long (lN la), .long (lN go), .long (lN sp)])), (qn, .inl (cI, 1200, .inl f)), (qk, .inl (cI, 1200, .inl g))] sz) (fun _ : Unit => [(b, .inr (2, [.int (nI 0), .int (nI G), .int (nI R), .long (lN en), .long (lN (nw - n)), .int (nI ms.length), .ref qn, .ref qk, .int (nI mo), .long (lN la), .long (lN go), .long (lN (sp + ag_cost G ms (nw - n)))])), (qn, .inl (cI, 1200, .inl f)), (qk, .inl (cI, 1200, .inl g))])) (va_A [(b, .inr (2, [.int (nI cd), .int (nI G), .int (nI R), .long (lN en), .long (lN nw), .int (nI ms.length), .ref qn, .ref qk, .int (nI mo), .long (lN la), .long (lN go), .long (lN sp)])), (qn, .inl (cI, 1200, .inl f)), (qk, .inl (cI, 1200, .inl g))] sz)) 0 0 (va_A [(b, .inr (2, [.int (nI cd), .int (nI G), .int (nI R), .long (lN en), .long (lN nw), .int (nI ms.length), .ref qn, .ref qk, .int (nI mo), .long (lN la), .long (lN go), .long (lN sp)])), (qn, .inl (cI, 1200, .inl f)), (qk, .inl (cI, 1200, .inl g))] sz) := by
  refine ag_ofW (Qf := fun A => va_Ql (fun (r : Int64) (_ : Unit) => r = lN (ag_cost G ms (nw - n))) (ag_to (dC, dI) agCl [(cI, .int)] A (fun _ : Unit => [(b, .inr (2, [.int (nI 0), .int (nI G), .int (nI R), .long (lN en), .long (lN (nw - n)), .int (nI ms.length), .ref qn, .ref qk, .int (nI mo), .long (lN la), .long (lN go), .long (lN (sp + ag_cost G ms (nw - n)))])), (qn, .inl (cI, 1200, .inl f)), (qk, .inl (cI, 1200, .inl g))])) A) (cc := b_M_back) (maxL := 3) (ret := (some .long)) (lv := [(0, .ref b), (1, .long (lN n))]) (by decide) rfl (Nat.le_of_ble_eq_true rfl) rfl (fun p e s m below meth c A ls hx hb hr hts hown hlocks hml hnm hA hS hP hK hD hl hsz => ?_)
  have hown : s.vm.findClass "AgedMarksModel" = some m.cls := hown
  have ht : ∀ w ∈ agW, w.before [.ref b, .long (lN n)].toArray s = true := fun w h => hts w (List.mem_cons_of_mem _ h)
  refine lv_aload_n hx hb d_M_back_0 rfl (lv_at hl 0 rfl) ?_
  refine lv_lload_n hx hb d_M_back_1 rfl (lv_at hl 1 rfl) ?_
  refine ag_lconst hx hb 0 d_M_back_2 (by decide) ?_
  refine ag_lc_ge (tgt := 11) hx hb d_M_back_3 d_M_back_4 (by decide) (fun c3 => ?_) (fun c3 => ?_)
  · have h_n := trivial
    refine ag_iconst hx hb 0 d_M_back_11 (by decide) ?_
    refine ag_iconst hx hb 0 d_M_back_12 (by decide) ?_
    have hPc := hP.sub (ws' := [(b, .inr (2, [.int (nI cd), .int (nI G), .int (nI R), .long (lN en), .long (lN nw), .int (nI ms.length), .ref qn, .ref qk, .int (nI mo), .long (lN la), .long (lN go), .long (lN sp)])), (qn, .inl (cI, 1200, .inl f)), (qk, .inl (cI, 1200, .inl g))]) [0, 1, 2] rfl
    have hDc := hD.sub (ws' := [(b, .inr (2, [.int (nI cd), .int (nI G), .int (nI R), .long (lN en), .long (lN nw), .int (nI ms.length), .ref qn, .ref qk, .int (nI mo), .long (lN la), .long (lN go), .long (lN sp)])), (qn, .inl (cI, 1200, .inl f)), (qk, .inl (cI, 1200, .inl g))]) [0, 1, 2] (by decide) rfl
    refine ag_cli (wc := [(b, .inr (2, [.int (nI cd), .int (nI G), .int (nI R), .long (lN en), .long (lN nw), .int (nI ms.length), .ref qn, .ref qk, .int (nI mo), .long (lN la), .long (lN go), .long (lN sp)])), (qn, .inl (cI, 1200, .inl f)), (qk, .inl (cI, 1200, .inl g))]) (wr := []) (Wf := fun _ : Unit => [(b, .inr (2, [.int (nI (if 0 = 1 then 1 else if 0 = 1 then 2 else 0)), .int (nI G), .int (nI R), .long (lN en), .long (lN nw), .int (nI ms.length), .ref qn, .ref qk, .int (nI mo), .long (lN la), .long (lN go), .long (lN sp)])), (qn, .inl (cI, 1200, .inl f)), (qk, .inl (cI, 1200, .inl g))]) hP hD hS hA [0, 1, 2] [] rfl rfl (by decide) (by decide) (va_runV (C := "AgedMarksModel") (As := [.int (nI 0), .int (nI 0)]) (rest := []) ⟨hx, hb, hml, hown, hts⟩ (c_M_fails l dC dI s.heap.size b qn qk cI cd G R en nw mo la go sp f g ms 0 0 (by decide) (by decide)) (ag_cwV 2 hts mw_m_M_54 mw_instanceMethod_M_fails mw_sel_M_fails mw_ini_M mw_code_M_fails rfl rfl (by decide +kernel) ⟨Nat.le_of_ble_eq_true rfl, Nat.le_of_ble_eq_true rfl⟩) ⟨ag_blind, va_recv hK hPc (ci := 2) (q0 := 0) rfl rfl, ag_pre hPc hK hDc⟩ rfl rfl hl.1 rfl (lv_room (Nat.le_of_ble_eq_true rfl)) d_M_back_13 ⟨Nat.le_of_ble_eq_true rfl, Nat.le_of_ble_eq_true rfl⟩) (fun r1 u H locs hw hP hD hS => ?_)
    try dsimp only at hw
    subst hw
    have hP : va_P (dC, dI) agCl [(b, .inr (2, [.int (nI 0), .int (nI G), .int (nI R), .long (lN en), .long (lN nw), .int (nI ms.length), .ref qn, .ref qk, .int (nI mo), .long (lN la), .long (lN go), .long (lN sp)])), (qn, .inl (cI, 1200, .inl f)), (qk, .inl (cI, 1200, .inl g))] H := hP
    have hD : va_D A [(b, .inr (2, [.int (nI 0), .int (nI G), .int (nI R), .long (lN en), .long (lN nw), .int (nI ms.length), .ref qn, .ref qk, .int (nI mo), .long (lN la), .long (lN go), .long (lN sp)])), (qn, .inl (cI, 1200, .inl f)), (qk, .inl (cI, 1200, .inl g))] := hD
    refine lv_if_eq (tgt := 23) hx hb d_M_back_16 (by decide) (fun c16 => ?_) (fun c16 => ?_)
    · have h_n := trivial
      refine lv_aload_n hx hb d_M_back_23 rfl (lv_at hl 0 rfl) ?_
      refine lv_lload_n hx hb d_M_back_24 rfl (lv_at hl 1 rfl) ?_
      refine lv_aload_n hx hb d_M_back_25 rfl (lv_at hl 0 rfl) ?_
      refine va_get (D := (dC, dI)) (ci := 2) (v := .long (lN nw)) (C := RX2) (T := TX2) (N := 12) hx hb ht inA2 hown hK hP 0 rfl rfl 4 (by decide) (ht _ mw_f_M_49) (fun _ h9 => h9) rfl d_M_back_26 ?_
      refine ag_lc_le (tgt := 37) hx hb d_M_back_29 d_M_back_30 (by decide) (fun c29 => ?_) (fun c29 => ?_)
      · have h_n := trivial
        have hle := (pk_lLE (a := n) (b := nw) (by omega) (by omega)).mp c29
        refine lv_aload_n hx hb d_M_back_37 rfl (lv_at hl 0 rfl) ?_
        refine va_get (D := (dC, dI)) (ci := 2) (v := .long (lN nw)) (C := RX2) (T := TX2) (N := 12) hx hb ht inA2 hown hK hP 0 rfl rfl 4 (by decide) (ht _ mw_f_M_49) (fun _ h9 => h9) rfl d_M_back_38 ?_
        refine lv_lload_n hx hb d_M_back_41 rfl (lv_at hl 1 rfl) ?_
        refine lv_lsub hx hb d_M_back_42 ?_
        refine ag_topl (lN (nw - n)) (lN_sub (by omega)) ?_
        have hPc := hP.sub (ws' := [(b, .inr (2, [.int (nI 0), .int (nI G), .int (nI R), .long (lN en), .long (lN nw), .int (nI ms.length), .ref qn, .ref qk, .int (nI mo), .long (lN la), .long (lN go), .long (lN sp)])), (qn, .inl (cI, 1200, .inl f)), (qk, .inl (cI, 1200, .inl g))]) [0, 1, 2] rfl
        have hDc := hD.sub (ws' := [(b, .inr (2, [.int (nI 0), .int (nI G), .int (nI R), .long (lN en), .long (lN nw), .int (nI ms.length), .ref qn, .ref qk, .int (nI mo), .long (lN la), .long (lN go), .long (lN sp)])), (qn, .inl (cI, 1200, .inl f)), (qk, .inl (cI, 1200, .inl g))]) [0, 1, 2] (by decide) rfl
        refine ag_cll (wc := [(b, .inr (2, [.int (nI 0), .int (nI G), .int (nI R), .long (lN en), .long (lN nw), .int (nI ms.length), .ref qn, .ref qk, .int (nI mo), .long (lN la), .long (lN go), .long (lN sp)])), (qn, .inl (cI, 1200, .inl f)), (qk, .inl (cI, 1200, .inl g))]) (wr := []) (Wf := fun _ : Unit => [(b, .inr (2, [.int (nI 0), .int (nI G), .int (nI R), .long (lN en), .long (lN (nw - n)), .int (nI ms.length), .ref qn, .ref qk, .int (nI mo), .long (lN la), .long (lN go), .long (lN (sp + ag_cost G ms (nw - n)))])), (qn, .inl (cI, 1200, .inl f)), (qk, .inl (cI, 1200, .inl g))]) hP hD hS hA [0, 1, 2] [] rfl rfl (by decide) (by decide) (va_runV (C := "AgedMarksModel") (As := [.long (lN (nw - n))]) (rest := []) ⟨hx, hb, hml, hown, hts⟩ (c_M_to l dC dI H.size b qn qk cI 0 G R en nw mo la go sp f g ms (nw - n) hG2 (by omega) hbd h0 h00 hrep) (ag_cwV 1 hts mw_m_M_72 mw_instanceMethod_M_to mw_sel_M_to mw_ini_M mw_code_M_to rfl rfl (by decide +kernel) ⟨Nat.le_of_ble_eq_true rfl, Nat.le_of_ble_eq_true rfl⟩) ⟨ag_blind, va_recv hK hPc (ci := 2) (q0 := 0) rfl rfl, ag_pre hPc hK hDc⟩ rfl rfl hl.1 rfl (lv_room (Nat.le_of_ble_eq_true rfl)) d_M_back_43 ⟨Nat.le_of_ble_eq_true rfl, Nat.le_of_ble_eq_true rfl⟩) (fun r2 u H locs hw hP hD hS => ?_)
        try dsimp only at hw
        subst hw
        have hP : va_P (dC, dI) agCl [(b, .inr (2, [.int (nI 0), .int (nI G), .int (nI R), .long (lN en), .long (lN (nw - n)), .int (nI ms.length), .ref qn, .ref qk, .int (nI mo), .long (lN la), .long (lN go), .long (lN (sp + ag_cost G ms (nw - n)))])), (qn, .inl (cI, 1200, .inl f)), (qk, .inl (cI, 1200, .inl g))] H := hP
        have hD : va_D A [(b, .inr (2, [.int (nI 0), .int (nI G), .int (nI R), .long (lN en), .long (lN (nw - n)), .int (nI ms.length), .ref qn, .ref qk, .int (nI mo), .long (lN la), .long (lN go), .long (lN (sp + ag_cost G ms (nw - n)))])), (qn, .inl (cI, 1200, .inl f)), (qk, .inl (cI, 1200, .inl g))] := hD
        exact ag_retl hx hb hr hlocks () rfl hP hK hD hS d_M_back_46
      · have h_n := trivial
        have hgt : nw < n := by have h9 := mt (pk_lLE (a := n) (b := nw) (by omega) (by omega)).mpr c29; omega
        refine ag_lconst hx hb 0 d_M_back_33 (by decide) ?_
        refine ag_topl (lN (nw - n)) (by rw [Nat.sub_eq_zero_of_le (by omega)]) ?_
        refine lv_goto (tgt := 43) hx hb d_M_back_34 (by decide) ?_
        have hPc := hP.sub (ws' := [(b, .inr (2, [.int (nI 0), .int (nI G), .int (nI R), .long (lN en), .long (lN nw), .int (nI ms.length), .ref qn, .ref qk, .int (nI mo), .long (lN la), .long (lN go), .long (lN sp)])), (qn, .inl (cI, 1200, .inl f)), (qk, .inl (cI, 1200, .inl g))]) [0, 1, 2] rfl
        have hDc := hD.sub (ws' := [(b, .inr (2, [.int (nI 0), .int (nI G), .int (nI R), .long (lN en), .long (lN nw), .int (nI ms.length), .ref qn, .ref qk, .int (nI mo), .long (lN la), .long (lN go), .long (lN sp)])), (qn, .inl (cI, 1200, .inl f)), (qk, .inl (cI, 1200, .inl g))]) [0, 1, 2] (by decide) rfl
        refine ag_cll (wc := [(b, .inr (2, [.int (nI 0), .int (nI G), .int (nI R), .long (lN en), .long (lN nw), .int (nI ms.length), .ref qn, .ref qk, .int (nI mo), .long (lN la), .long (lN go), .long (lN sp)])), (qn, .inl (cI, 1200, .inl f)), (qk, .inl (cI, 1200, .inl g))]) (wr := []) (Wf := fun _ : Unit => [(b, .inr (2, [.int (nI 0), .int (nI G), .int (nI R), .long (lN en), .long (lN (nw - n)), .int (nI ms.length), .ref qn, .ref qk, .int (nI mo), .long (lN la), .long (lN go), .long (lN (sp + ag_cost G ms (nw - n)))])), (qn, .inl (cI, 1200, .inl f)), (qk, .inl (cI, 1200, .inl g))]) hP hD hS hA [0, 1, 2] [] rfl rfl (by decide) (by decide) (va_runV (C := "AgedMarksModel") (As := [.long (lN (nw - n))]) (rest := []) ⟨hx, hb, hml, hown, hts⟩ (c_M_to l dC dI H.size b qn qk cI 0 G R en nw mo la go sp f g ms (nw - n) hG2 (by omega) hbd h0 h00 hrep) (ag_cwV 1 hts mw_m_M_72 mw_instanceMethod_M_to mw_sel_M_to mw_ini_M mw_code_M_to rfl rfl (by decide +kernel) ⟨Nat.le_of_ble_eq_true rfl, Nat.le_of_ble_eq_true rfl⟩) ⟨ag_blind, va_recv hK hPc (ci := 2) (q0 := 0) rfl rfl, ag_pre hPc hK hDc⟩ rfl rfl hl.1 rfl (lv_room (Nat.le_of_ble_eq_true rfl)) d_M_back_43 ⟨Nat.le_of_ble_eq_true rfl, Nat.le_of_ble_eq_true rfl⟩) (fun r3 u H locs hw hP hD hS => ?_)
        try dsimp only at hw
        subst hw
        have hP : va_P (dC, dI) agCl [(b, .inr (2, [.int (nI 0), .int (nI G), .int (nI R), .long (lN en), .long (lN (nw - n)), .int (nI ms.length), .ref qn, .ref qk, .int (nI mo), .long (lN la), .long (lN go), .long (lN (sp + ag_cost G ms (nw - n)))])), (qn, .inl (cI, 1200, .inl f)), (qk, .inl (cI, 1200, .inl g))] H := hP
        have hD : va_D A [(b, .inr (2, [.int (nI 0), .int (nI G), .int (nI R), .long (lN en), .long (lN (nw - n)), .int (nI ms.length), .ref qn, .ref qk, .int (nI mo), .long (lN la), .long (lN go), .long (lN (sp + ag_cost G ms (nw - n)))])), (qn, .inl (cI, 1200, .inl f)), (qk, .inl (cI, 1200, .inl g))] := hD
        exact ag_retl hx hb hr hlocks () rfl hP hK hD hS d_M_back_46
    · have h_n := trivial
      exact absurd (by decide) c16
  · have h_n := trivial
    exact absurd ((pk_lLE (a := 0) (b := n) (by omega) (by omega)).mpr (by omega)) c3
end
section
set_option maxHeartbeats 4000000 in
set_option maxRecDepth 100000 in
/-- cut() -/
theorem c_M_cut (l : Launch) (dC : Nat → ClassId) (dI : Nat → Nat → Nat) (sz : Nat) (b qn qk : Nat) (cI : ClassId) (cd G R en nw mo la go sp : Nat) (f g : Nat → Int32) (ms : ag_M) (hG2 : G ≤ 1000) (hnw : nw ≤ 1000000000) (hso : ms.Pairwise (fun x y => x.1 < y.1)) (hbd : ag_bd ms) (h0 : 0 < ms.length) (h00 : (ms[0]).1 = 0) (hrep : ag_rpm ms f g) : Met l y_M_cut (Cond.code y_M_cut b_M_cut 2 (some .int) :: agW) ({ frames := 0, cells := 0, slots := 0, locals := 0 }) (va_Pc [.ref b] (ag_at (dC, dI) agCl [(cI, .int)] sz [(b, .inr (2, [.int (nI cd), .int (nI G), .int (nI R), .long (lN en), .long (lN nw), .int (nI ms.length), .ref qn, .ref qk, .int (nI mo), .long (lN la), .long (lN go), .long (lN sp)])), (qn, .inl (cI, 1200, .inl f)), (qk, .inl (cI, 1200, .inl g))])) (va_Qi (fun (r : Int32) (_ : Unit) => r = nI (ms.length - (ag_cutm G nw ms).length)) (ag_to (dC, dI) agCl [(cI, .int)] (va_A [(b, .inr (2, [.int (nI cd), .int (nI G), .int (nI R), .long (lN en), .long (lN nw), .int (nI ms.length), .ref qn, .ref qk, .int (nI mo), .long (lN la), .long (lN go), .long (lN sp)])), (qn, .inl (cI, 1200, .inl f)), (qk, .inl (cI, 1200, .inl g))] sz) (fun _ : Unit => [(b, .inr (2, [.int (nI 0), .int (nI G), .int (nI R), .long (lN nw), .long (lN nw), .int (nI ((ag_cutm G nw ms).length)), .ref qn, .ref qk, .int (nI mo), .long (lN la), .long (lN (go + (ms.length - (ag_cutm G nw ms).length))), .long (lN sp)])), (qn, .inl (cI, 1200, .inl f)), (qk, .inl (cI, 1200, .inl g))])) (va_A [(b, .inr (2, [.int (nI cd), .int (nI G), .int (nI R), .long (lN en), .long (lN nw), .int (nI ms.length), .ref qn, .ref qk, .int (nI mo), .long (lN la), .long (lN go), .long (lN sp)])), (qn, .inl (cI, 1200, .inl f)), (qk, .inl (cI, 1200, .inl g))] sz)) 0 0 (va_A [(b, .inr (2, [.int (nI cd), .int (nI G), .int (nI R), .long (lN en), .long (lN nw), .int (nI ms.length), .ref qn, .ref qk, .int (nI mo), .long (lN la), .long (lN go), .long (lN sp)])), (qn, .inl (cI, 1200, .inl f)), (qk, .inl (cI, 1200, .inl g))] sz) := by
  refine ag_ofW (Qf := fun A => va_Qi (fun (r : Int32) (_ : Unit) => r = nI (ms.length - (ag_cutm G nw ms).length)) (ag_to (dC, dI) agCl [(cI, .int)] A (fun _ : Unit => [(b, .inr (2, [.int (nI 0), .int (nI G), .int (nI R), .long (lN nw), .long (lN nw), .int (nI ((ag_cutm G nw ms).length)), .ref qn, .ref qk, .int (nI mo), .long (lN la), .long (lN (go + (ms.length - (ag_cutm G nw ms).length))), .long (lN sp)])), (qn, .inl (cI, 1200, .inl f)), (qk, .inl (cI, 1200, .inl g))])) A) (cc := b_M_cut) (maxL := 2) (ret := (some .int)) (lv := [(0, .ref b)]) (by decide) rfl (Nat.le_of_ble_eq_true rfl) rfl (fun p e s m below meth c A ls hx hb hr hts hown hlocks hml hnm hA hS hP hK hD hl hsz => ?_)
  have hown : s.vm.findClass "AgedMarksModel" = some m.cls := hown
  have ht : ∀ w ∈ agW, w.before [.ref b].toArray s = true := fun w h => hts w (List.mem_cons_of_mem _ h)
  have hlen := hbd.1
  have hmul : ∀ j (hj : j < ms.length), (ms[j]).1 * G ≤ 1000000000 ∧ (ms[j]).1 ≤ 1000000 := fun j hj => ⟨Nat.le_trans (Nat.mul_le_mul (hbd.2 _ (List.getElem_mem hj)).1 hG2) (by decide), (hbd.2 _ (List.getElem_mem hj)).1⟩
  refine lv_aload_n hx hb d_M_cut_0 rfl (lv_at hl 0 rfl) ?_
  refine ag_iconst hx hb 0 d_M_cut_1 (by decide) ?_
  refine va_put (D := (dC, dI)) (ci := 2) (v := .int (nI 0)) (ty := .int) (C := RX2) (T := TX2) (N := 12) hx hb ht inA2 tyX2 tyX2_ok nmX2 hown hK hP hD hS 0 rfl rfl 0 (by decide) (ht _ mw_f_M_29) (fun _ h9 => h9) rfl (by decide +kernel) rfl rfl (Nat.le_of_ble_eq_true rfl) d_M_cut_2 (fun H locs hP hD hS => ?_)
  have hP : va_P (dC, dI) agCl [(b, .inr (2, [.int (nI 0), .int (nI G), .int (nI R), .long (lN en), .long (lN nw), .int (nI ms.length), .ref qn, .ref qk, .int (nI mo), .long (lN la), .long (lN go), .long (lN sp)])), (qn, .inl (cI, 1200, .inl f)), (qk, .inl (cI, 1200, .inl g))] H := hP
  have hD : va_D A [(b, .inr (2, [.int (nI 0), .int (nI G), .int (nI R), .long (lN en), .long (lN nw), .int (nI ms.length), .ref qn, .ref qk, .int (nI mo), .long (lN la), .long (lN go), .long (lN sp)])), (qn, .inl (cI, 1200, .inl f)), (qk, .inl (cI, 1200, .inl g))] := hD
  refine lv_aload_n hx hb d_M_cut_5 rfl (lv_at hl 0 rfl) ?_
  refine lv_aload_n hx hb d_M_cut_6 rfl (lv_at hl 0 rfl) ?_
  refine va_get (D := (dC, dI)) (ci := 2) (v := .long (lN nw)) (C := RX2) (T := TX2) (N := 12) hx hb ht inA2 hown hK hP 0 rfl rfl 4 (by decide) (ht _ mw_f_M_49) (fun _ h9 => h9) rfl d_M_cut_7 ?_
  refine va_put (D := (dC, dI)) (ci := 2) (v := .long (lN nw)) (ty := .long) (C := RX2) (T := TX2) (N := 12) hx hb ht inA2 tyX2 tyX2_ok nmX2 hown hK hP hD hS 0 rfl rfl 3 (by decide) (ht _ mw_f_M_58) (fun _ h9 => h9) rfl (by decide +kernel) rfl rfl (Nat.le_of_ble_eq_true rfl) d_M_cut_10 (fun H locs hP hD hS => ?_)
  have hP : va_P (dC, dI) agCl [(b, .inr (2, [.int (nI 0), .int (nI G), .int (nI R), .long (lN nw), .long (lN nw), .int (nI ms.length), .ref qn, .ref qk, .int (nI mo), .long (lN la), .long (lN go), .long (lN sp)])), (qn, .inl (cI, 1200, .inl f)), (qk, .inl (cI, 1200, .inl g))] H := hP
  have hD : va_D A [(b, .inr (2, [.int (nI 0), .int (nI G), .int (nI R), .long (lN nw), .long (lN nw), .int (nI ms.length), .ref qn, .ref qk, .int (nI mo), .long (lN la), .long (lN go), .long (lN sp)])), (qn, .inl (cI, 1200, .inl f)), (qk, .inl (cI, 1200, .inl g))] := hD
  refine lv_aload_n hx hb d_M_cut_13 rfl (lv_at hl 0 rfl) ?_
  refine va_get (D := (dC, dI)) (ci := 2) (v := .int (nI ms.length)) (C := RX2) (T := TX2) (N := 12) hx hb ht inA2 hown hK hP 0 rfl rfl 5 (by decide) (ht _ mw_f_M_7) (fun _ h9 => h9) rfl d_M_cut_14 ?_
  refine lv_istore_n (lv' := [(1, .int (nI ms.length)), (0, .ref b)]) hx hb d_M_cut_17 rfl hl (by decide) rfl (fun ls hl => ?_)
  have loop : ∀ (k : Nat) (hk : k < ms.length), (∀ j (hj : j < ms.length), k < j → nw < (ms[j]).1 * G) → ∀ (H : Heap) (locs : List Loc), va_P (dC, dI) agCl [(b, .inr (2, [.int (nI 0), .int (nI G), .int (nI R), .long (lN nw), .long (lN nw), .int (nI (k + 1)), .ref qn, .ref qk, .int (nI mo), .long (lN la), .long (lN go), .long (lN sp)])), (qn, .inl (cI, 1200, .inl f)), (qk, .inl (cI, 1200, .inl g))] H → va_D A [(b, .inr (2, [.int (nI 0), .int (nI G), .int (nI R), .long (lN nw), .long (lN nw), .int (nI (k + 1)), .ref qn, .ref qk, .int (nI mo), .long (lN la), .long (lN go), .long (lN sp)])), (qn, .inl (cI, 1200, .inl f)), (qk, .inl (cI, 1200, .inl g))] → va_S A s.heap H locs → ∀ ls : Array Slot, lv_has ls 2 [(1, .int (nI ms.length)), (0, .ref b)] → W p l e { frames := 0, cells := 0, slots := 0, locals := 0 } s m [.ref b].toArray below meth c H locs 0 0 (MQ below (va_Qi (fun (r : Int32) (_ : Unit) => r = nI (ms.length - (ag_cutm G nw ms).length)) (ag_to (dC, dI) agCl [(cI, .int)] A (fun _ : Unit => [(b, .inr (2, [.int (nI 0), .int (nI G), .int (nI R), .long (lN nw), .long (lN nw), .int (nI ((ag_cutm G nw ms).length)), .ref qn, .ref qk, .int (nI mo), .long (lN la), .long (lN (go + (ms.length - (ag_cutm G nw ms).length))), .long (lN sp)])), (qn, .inl (cI, 1200, .inl f)), (qk, .inl (cI, 1200, .inl g))])) A) [.ref b].toArray s 0 0 A) (F0 m 18 ls []) := by
    intro k
    induction k with
    | zero =>
      intro hk hgt H locs hP hD hS ls hl
      have hm := hmul (0) hk
      refine lv_aload_n hx hb d_M_cut_18 rfl (lv_at hl 1 rfl) ?_
      refine va_get (D := (dC, dI)) (ci := 2) (v := .ref qn) (C := RX2) (T := TX2) (N := 12) hx hb ht inA2 hown hK hP 0 rfl rfl 6 (by decide) (ht _ mw_f_M_13) (fun _ h9 => h9) rfl d_M_cut_19 ?_
      refine lv_aload_n hx hb d_M_cut_22 rfl (lv_at hl 1 rfl) ?_
      refine va_get (D := (dC, dI)) (ci := 2) (v := .int (nI (0 + 1))) (C := RX2) (T := TX2) (N := 12) hx hb ht inA2 hown hK hP 0 rfl rfl 5 (by decide) (ht _ mw_f_M_7) (fun _ h9 => h9) rfl d_M_cut_23 ?_
      refine ag_iconst hx hb 1 d_M_cut_26 (by decide) ?_
      refine lv_isub hx hb d_M_cut_27 ?_
      refine ag_topi (nI 0) (nI_pred _) ?_
      refine ag_iald hx hb hK hP 1 0 rfl rfl (by omega) (by decide) d_M_cut_28 ?_
      refine ag_topi (nI ((ms[0]).1)) ((hrep (0) hk).1) ?_
      refine lv_i2l (v := lN ((ms[0]).1)) hx hb d_M_cut_29 (nI_l (by omega)) ?_
      refine lv_aload_n hx hb d_M_cut_30 rfl (lv_at hl 1 rfl) ?_
      refine va_get (D := (dC, dI)) (ci := 2) (v := .int (nI G)) (C := RX2) (T := TX2) (N := 12) hx hb ht inA2 hown hK hP 0 rfl rfl 1 (by decide) (ht _ mw_f_M_23) (fun _ h9 => h9) rfl d_M_cut_31 ?_
      refine lv_i2l (v := lN G) hx hb d_M_cut_34 (nI_l (by omega)) ?_
      refine lv_lmul hx hb d_M_cut_35 ?_
      refine ag_topl (lN (((ms[0]).1) * G)) (lN_mul _ _) ?_
      refine lv_aload_n hx hb d_M_cut_36 rfl (lv_at hl 1 rfl) ?_
      refine va_get (D := (dC, dI)) (ci := 2) (v := .long (lN nw)) (C := RX2) (T := TX2) (N := 12) hx hb ht inA2 hown hK hP 0 rfl rfl 3 (by decide) (ht _ mw_f_M_58) (fun _ h9 => h9) rfl d_M_cut_37 ?_
      refine ag_lc_le (tgt := 57) hx hb d_M_cut_40 d_M_cut_41 (by decide) (fun c40 => ?_) (fun c40 => ?_)
      · have h_n := trivial
        have hle1 := (pk_lLE (a := (ms[0]).1 * G) (b := nw) (by omega) (by omega)).mp c40
        have hcut := ag_cut_take ms G nw (0) hso hk hle1 hgt
        have hcl : 0 + 1 = (ag_cutm G nw ms).length := by rw [hcut]; simp; omega
        refine lv_aload_n hx hb d_M_cut_57 rfl (lv_at hl 1 rfl) ?_
        refine lv_dup hx hb d_M_cut_58 rfl ?_
        refine va_get (D := (dC, dI)) (ci := 2) (v := .long (lN go)) (C := RX2) (T := TX2) (N := 12) hx hb ht inA2 hown hK hP 0 rfl rfl 10 (by decide) (ht _ mw_f_M_42) (fun _ h9 => h9) rfl d_M_cut_59 ?_
        refine lv_iload_n hx hb d_M_cut_62 rfl (lv_at hl 0 rfl) ?_
        refine lv_aload_n hx hb d_M_cut_63 rfl (lv_at hl 1 rfl) ?_
        refine va_get (D := (dC, dI)) (ci := 2) (v := .int (nI (0 + 1))) (C := RX2) (T := TX2) (N := 12) hx hb ht inA2 hown hK hP 0 rfl rfl 5 (by decide) (ht _ mw_f_M_7) (fun _ h9 => h9) rfl d_M_cut_64 ?_
        refine lv_isub hx hb d_M_cut_67 ?_
        refine ag_topi (nI (ms.length - (0 + 1))) (pk_sub (by omega)) ?_
        refine lv_i2l (v := lN (ms.length - (0 + 1))) hx hb d_M_cut_68 (nI_l (by omega)) ?_
        refine lv_ladd hx hb d_M_cut_69 ?_
        refine ag_topl (lN (go + (ms.length - (0 + 1)))) (lN_add _ _) ?_
        refine va_put (D := (dC, dI)) (ci := 2) (v := .long (lN (go + (ms.length - (0 + 1))))) (ty := .long) (C := RX2) (T := TX2) (N := 12) hx hb ht inA2 tyX2 tyX2_ok nmX2 hown hK hP hD hS 0 rfl rfl 10 (by decide) (ht _ mw_f_M_42) (fun _ h9 => h9) rfl (by decide +kernel) rfl rfl (Nat.le_of_ble_eq_true rfl) d_M_cut_70 (fun H locs hP hD hS => ?_)
        have hP : va_P (dC, dI) agCl [(b, .inr (2, [.int (nI 0), .int (nI G), .int (nI R), .long (lN nw), .long (lN nw), .int (nI (0 + 1)), .ref qn, .ref qk, .int (nI mo), .long (lN la), .long (lN (go + (ms.length - (0 + 1)))), .long (lN sp)])), (qn, .inl (cI, 1200, .inl f)), (qk, .inl (cI, 1200, .inl g))] H := hP
        have hD : va_D A [(b, .inr (2, [.int (nI 0), .int (nI G), .int (nI R), .long (lN nw), .long (lN nw), .int (nI (0 + 1)), .ref qn, .ref qk, .int (nI mo), .long (lN la), .long (lN (go + (ms.length - (0 + 1)))), .long (lN sp)])), (qn, .inl (cI, 1200, .inl f)), (qk, .inl (cI, 1200, .inl g))] := hD
        refine lv_iload_n hx hb d_M_cut_73 rfl (lv_at hl 0 rfl) ?_
        refine lv_aload_n hx hb d_M_cut_74 rfl (lv_at hl 1 rfl) ?_
        refine va_get (D := (dC, dI)) (ci := 2) (v := .int (nI (0 + 1))) (C := RX2) (T := TX2) (N := 12) hx hb ht inA2 hown hK hP 0 rfl rfl 5 (by decide) (ht _ mw_f_M_7) (fun _ h9 => h9) rfl d_M_cut_75 ?_
        refine lv_isub hx hb d_M_cut_78 ?_
        refine ag_topi (nI (ms.length - (0 + 1))) (pk_sub (by omega)) ?_
        rw [hcl] at hP hD
        refine ag_topi (nI (ms.length - (ag_cutm G nw ms).length)) (by rw [hcl]) ?_
        exact ag_reti hx hb hr hlocks () rfl hP hK hD hS d_M_cut_79
      · have h_n := trivial
        exact absurd ((pk_lLE (a := (ms[0]).1 * G) (b := nw) (by omega) (by omega)).mpr (by rw [h00, Nat.zero_mul]; omega)) c40
    | succ i ih =>
      intro hk hgt H locs hP hD hS ls hl
      have hm := hmul (i + 1) hk
      refine lv_aload_n hx hb d_M_cut_18 rfl (lv_at hl 1 rfl) ?_
      refine va_get (D := (dC, dI)) (ci := 2) (v := .ref qn) (C := RX2) (T := TX2) (N := 12) hx hb ht inA2 hown hK hP 0 rfl rfl 6 (by decide) (ht _ mw_f_M_13) (fun _ h9 => h9) rfl d_M_cut_19 ?_
      refine lv_aload_n hx hb d_M_cut_22 rfl (lv_at hl 1 rfl) ?_
      refine va_get (D := (dC, dI)) (ci := 2) (v := .int (nI (i + 1 + 1))) (C := RX2) (T := TX2) (N := 12) hx hb ht inA2 hown hK hP 0 rfl rfl 5 (by decide) (ht _ mw_f_M_7) (fun _ h9 => h9) rfl d_M_cut_23 ?_
      refine ag_iconst hx hb 1 d_M_cut_26 (by decide) ?_
      refine lv_isub hx hb d_M_cut_27 ?_
      refine ag_topi (nI (i + 1)) (nI_pred _) ?_
      refine ag_iald hx hb hK hP 1 0 rfl rfl (by omega) (by decide) d_M_cut_28 ?_
      refine ag_topi (nI ((ms[i + 1]).1)) ((hrep (i + 1) hk).1) ?_
      refine lv_i2l (v := lN ((ms[i + 1]).1)) hx hb d_M_cut_29 (nI_l (by omega)) ?_
      refine lv_aload_n hx hb d_M_cut_30 rfl (lv_at hl 1 rfl) ?_
      refine va_get (D := (dC, dI)) (ci := 2) (v := .int (nI G)) (C := RX2) (T := TX2) (N := 12) hx hb ht inA2 hown hK hP 0 rfl rfl 1 (by decide) (ht _ mw_f_M_23) (fun _ h9 => h9) rfl d_M_cut_31 ?_
      refine lv_i2l (v := lN G) hx hb d_M_cut_34 (nI_l (by omega)) ?_
      refine lv_lmul hx hb d_M_cut_35 ?_
      refine ag_topl (lN (((ms[i + 1]).1) * G)) (lN_mul _ _) ?_
      refine lv_aload_n hx hb d_M_cut_36 rfl (lv_at hl 1 rfl) ?_
      refine va_get (D := (dC, dI)) (ci := 2) (v := .long (lN nw)) (C := RX2) (T := TX2) (N := 12) hx hb ht inA2 hown hK hP 0 rfl rfl 3 (by decide) (ht _ mw_f_M_58) (fun _ h9 => h9) rfl d_M_cut_37 ?_
      refine ag_lc_le (tgt := 57) hx hb d_M_cut_40 d_M_cut_41 (by decide) (fun c40 => ?_) (fun c40 => ?_)
      · have h_n := trivial
        have hle1 := (pk_lLE (a := (ms[i + 1]).1 * G) (b := nw) (by omega) (by omega)).mp c40
        have hcut := ag_cut_take ms G nw (i + 1) hso hk hle1 hgt
        have hcl : i + 1 + 1 = (ag_cutm G nw ms).length := by rw [hcut]; simp; omega
        refine lv_aload_n hx hb d_M_cut_57 rfl (lv_at hl 1 rfl) ?_
        refine lv_dup hx hb d_M_cut_58 rfl ?_
        refine va_get (D := (dC, dI)) (ci := 2) (v := .long (lN go)) (C := RX2) (T := TX2) (N := 12) hx hb ht inA2 hown hK hP 0 rfl rfl 10 (by decide) (ht _ mw_f_M_42) (fun _ h9 => h9) rfl d_M_cut_59 ?_
        refine lv_iload_n hx hb d_M_cut_62 rfl (lv_at hl 0 rfl) ?_
        refine lv_aload_n hx hb d_M_cut_63 rfl (lv_at hl 1 rfl) ?_
        refine va_get (D := (dC, dI)) (ci := 2) (v := .int (nI (i + 1 + 1))) (C := RX2) (T := TX2) (N := 12) hx hb ht inA2 hown hK hP 0 rfl rfl 5 (by decide) (ht _ mw_f_M_7) (fun _ h9 => h9) rfl d_M_cut_64 ?_
        refine lv_isub hx hb d_M_cut_67 ?_
        refine ag_topi (nI (ms.length - (i + 1 + 1))) (pk_sub (by omega)) ?_
        refine lv_i2l (v := lN (ms.length - (i + 1 + 1))) hx hb d_M_cut_68 (nI_l (by omega)) ?_
        refine lv_ladd hx hb d_M_cut_69 ?_
        refine ag_topl (lN (go + (ms.length - (i + 1 + 1)))) (lN_add _ _) ?_
        refine va_put (D := (dC, dI)) (ci := 2) (v := .long (lN (go + (ms.length - (i + 1 + 1))))) (ty := .long) (C := RX2) (T := TX2) (N := 12) hx hb ht inA2 tyX2 tyX2_ok nmX2 hown hK hP hD hS 0 rfl rfl 10 (by decide) (ht _ mw_f_M_42) (fun _ h9 => h9) rfl (by decide +kernel) rfl rfl (Nat.le_of_ble_eq_true rfl) d_M_cut_70 (fun H locs hP hD hS => ?_)
        have hP : va_P (dC, dI) agCl [(b, .inr (2, [.int (nI 0), .int (nI G), .int (nI R), .long (lN nw), .long (lN nw), .int (nI (i + 1 + 1)), .ref qn, .ref qk, .int (nI mo), .long (lN la), .long (lN (go + (ms.length - (i + 1 + 1)))), .long (lN sp)])), (qn, .inl (cI, 1200, .inl f)), (qk, .inl (cI, 1200, .inl g))] H := hP
        have hD : va_D A [(b, .inr (2, [.int (nI 0), .int (nI G), .int (nI R), .long (lN nw), .long (lN nw), .int (nI (i + 1 + 1)), .ref qn, .ref qk, .int (nI mo), .long (lN la), .long (lN (go + (ms.length - (i + 1 + 1)))), .long (lN sp)])), (qn, .inl (cI, 1200, .inl f)), (qk, .inl (cI, 1200, .inl g))] := hD
        refine lv_iload_n hx hb d_M_cut_73 rfl (lv_at hl 0 rfl) ?_
        refine lv_aload_n hx hb d_M_cut_74 rfl (lv_at hl 1 rfl) ?_
        refine va_get (D := (dC, dI)) (ci := 2) (v := .int (nI (i + 1 + 1))) (C := RX2) (T := TX2) (N := 12) hx hb ht inA2 hown hK hP 0 rfl rfl 5 (by decide) (ht _ mw_f_M_7) (fun _ h9 => h9) rfl d_M_cut_75 ?_
        refine lv_isub hx hb d_M_cut_78 ?_
        refine ag_topi (nI (ms.length - (i + 1 + 1))) (pk_sub (by omega)) ?_
        rw [hcl] at hP hD
        refine ag_topi (nI (ms.length - (ag_cutm G nw ms).length)) (by rw [hcl]) ?_
        exact ag_reti hx hb hr hlocks () rfl hP hK hD hS d_M_cut_79
      · have h_n := trivial
        have hgt1 : nw < (ms[i + 1]).1 * G := by have h9 := mt (pk_lLE (a := (ms[i + 1]).1 * G) (b := nw) (by omega) (by omega)).mpr c40; omega
        refine lv_aload_n hx hb d_M_cut_44 rfl (lv_at hl 1 rfl) ?_
        refine lv_dup hx hb d_M_cut_45 rfl ?_
        refine va_get (D := (dC, dI)) (ci := 2) (v := .int (nI (i + 1 + 1))) (C := RX2) (T := TX2) (N := 12) hx hb ht inA2 hown hK hP 0 rfl rfl 5 (by decide) (ht _ mw_f_M_7) (fun _ h9 => h9) rfl d_M_cut_46 ?_
        refine ag_iconst hx hb 1 d_M_cut_49 (by decide) ?_
        refine lv_isub hx hb d_M_cut_50 ?_
        refine ag_topi (nI (i + 1)) (nI_pred _) ?_
        refine va_put (D := (dC, dI)) (ci := 2) (v := .int (nI (i + 1))) (ty := .int) (C := RX2) (T := TX2) (N := 12) hx hb ht inA2 tyX2 tyX2_ok nmX2 hown hK hP hD hS 0 rfl rfl 5 (by decide) (ht _ mw_f_M_7) (fun _ h9 => h9) rfl (by decide +kernel) rfl rfl (Nat.le_of_ble_eq_true rfl) d_M_cut_51 (fun H locs hP hD hS => ?_)
        have hP : va_P (dC, dI) agCl [(b, .inr (2, [.int (nI 0), .int (nI G), .int (nI R), .long (lN nw), .long (lN nw), .int (nI (i + 1)), .ref qn, .ref qk, .int (nI mo), .long (lN la), .long (lN go), .long (lN sp)])), (qn, .inl (cI, 1200, .inl f)), (qk, .inl (cI, 1200, .inl g))] H := hP
        have hD : va_D A [(b, .inr (2, [.int (nI 0), .int (nI G), .int (nI R), .long (lN nw), .long (lN nw), .int (nI (i + 1)), .ref qn, .ref qk, .int (nI mo), .long (lN la), .long (lN go), .long (lN sp)])), (qn, .inl (cI, 1200, .inl f)), (qk, .inl (cI, 1200, .inl g))] := hD
        refine lv_goto (tgt := 18) hx hb d_M_cut_54 (by decide) ?_
        refine ih (by omega) (fun j hj h => ?_) H locs hP hD hS ls hl
        rcases Nat.lt_or_ge (i + 1) j with q | q
        · exact hgt j hj q
        · have e9 : j = i + 1 := by omega
          subst e9
          exact hgt1
  have e3 : ms.length - 1 + 1 = ms.length := by omega
  refine loop (ms.length - 1) (by omega) (fun j hj h => by omega) H locs ?_ ?_ hS ls hl
  · rw [e3]; exact hP
  · rw [e3]; exact hD

set_option maxHeartbeats 4000000 in
set_option maxRecDepth 100000 in
/-- holder(x) -/
theorem c_M_holder (l : Launch) (dC : Nat → ClassId) (dI : Nat → Nat → Nat) (sz : Nat) (b qn qk : Nat) (cI : ClassId) (cd G R en nw mo la go sp : Nat) (f g : Nat → Int32) (ms : ag_M) (x : Int32) (hbd : ag_bd ms) (hrep : ag_rpm ms f g) : Met l y_M_holder (Cond.code y_M_holder b_M_holder 3 (some .int) :: agW) ({ frames := 0, cells := 0, slots := 0, locals := 0 }) (va_Pc [.ref b, .int x] (ag_at (dC, dI) agCl [(cI, .int)] sz [(b, .inr (2, [.int (nI cd), .int (nI G), .int (nI R), .long (lN en), .long (lN nw), .int (nI ms.length), .ref qn, .ref qk, .int (nI mo), .long (lN la), .long (lN go), .long (lN sp)])), (qn, .inl (cI, 1200, .inl f)), (qk, .inl (cI, 1200, .inl g))])) (va_Qi (fun (r : Int32) (_ : Unit) => ag_hold ms x r) (ag_to (dC, dI) agCl [(cI, .int)] (va_A [(b, .inr (2, [.int (nI cd), .int (nI G), .int (nI R), .long (lN en), .long (lN nw), .int (nI ms.length), .ref qn, .ref qk, .int (nI mo), .long (lN la), .long (lN go), .long (lN sp)])), (qn, .inl (cI, 1200, .inl f)), (qk, .inl (cI, 1200, .inl g))] sz) (fun _ : Unit => [(b, .inr (2, [.int (nI 0), .int (nI G), .int (nI R), .long (lN en), .long (lN nw), .int (nI ms.length), .ref qn, .ref qk, .int (nI mo), .long (lN la), .long (lN go), .long (lN sp)])), (qn, .inl (cI, 1200, .inl f)), (qk, .inl (cI, 1200, .inl g))])) (va_A [(b, .inr (2, [.int (nI cd), .int (nI G), .int (nI R), .long (lN en), .long (lN nw), .int (nI ms.length), .ref qn, .ref qk, .int (nI mo), .long (lN la), .long (lN go), .long (lN sp)])), (qn, .inl (cI, 1200, .inl f)), (qk, .inl (cI, 1200, .inl g))] sz)) 0 0 (va_A [(b, .inr (2, [.int (nI cd), .int (nI G), .int (nI R), .long (lN en), .long (lN nw), .int (nI ms.length), .ref qn, .ref qk, .int (nI mo), .long (lN la), .long (lN go), .long (lN sp)])), (qn, .inl (cI, 1200, .inl f)), (qk, .inl (cI, 1200, .inl g))] sz) := by
  refine ag_ofW (Qf := fun A => va_Qi (fun (r : Int32) (_ : Unit) => ag_hold ms x r) (ag_to (dC, dI) agCl [(cI, .int)] A (fun _ : Unit => [(b, .inr (2, [.int (nI 0), .int (nI G), .int (nI R), .long (lN en), .long (lN nw), .int (nI ms.length), .ref qn, .ref qk, .int (nI mo), .long (lN la), .long (lN go), .long (lN sp)])), (qn, .inl (cI, 1200, .inl f)), (qk, .inl (cI, 1200, .inl g))])) A) (cc := b_M_holder) (maxL := 3) (ret := (some .int)) (lv := [(0, .ref b), (1, .int x)]) (by decide) rfl (Nat.le_of_ble_eq_true rfl) rfl (fun p e s m below meth c A ls hx hb hr hts hown hlocks hml hnm hA hS hP hK hD hl hsz => ?_)
  have hown : s.vm.findClass "AgedMarksModel" = some m.cls := hown
  have ht : ∀ w ∈ agW, w.before [.ref b, .int x].toArray s = true := fun w h => hts w (List.mem_cons_of_mem _ h)
  have hlen := hbd.1
  refine lv_aload_n hx hb d_M_holder_0 rfl (lv_at hl 0 rfl) ?_
  refine ag_iconst hx hb 0 d_M_holder_1 (by decide) ?_
  refine va_put (D := (dC, dI)) (ci := 2) (v := .int (nI 0)) (ty := .int) (C := RX2) (T := TX2) (N := 12) hx hb ht inA2 tyX2 tyX2_ok nmX2 hown hK hP hD hS 0 rfl rfl 0 (by decide) (ht _ mw_f_M_29) (fun _ h9 => h9) rfl (by decide +kernel) rfl rfl (Nat.le_of_ble_eq_true rfl) d_M_holder_2 (fun H locs hP hD hS => ?_)
  have hP : va_P (dC, dI) agCl [(b, .inr (2, [.int (nI 0), .int (nI G), .int (nI R), .long (lN en), .long (lN nw), .int (nI ms.length), .ref qn, .ref qk, .int (nI mo), .long (lN la), .long (lN go), .long (lN sp)])), (qn, .inl (cI, 1200, .inl f)), (qk, .inl (cI, 1200, .inl g))] H := hP
  have hD : va_D A [(b, .inr (2, [.int (nI 0), .int (nI G), .int (nI R), .long (lN en), .long (lN nw), .int (nI ms.length), .ref qn, .ref qk, .int (nI mo), .long (lN la), .long (lN go), .long (lN sp)])), (qn, .inl (cI, 1200, .inl f)), (qk, .inl (cI, 1200, .inl g))] := hD
  refine ag_iconst hx hb 0 d_M_holder_5 (by decide) ?_
  refine lv_istore_n (lv' := [(2, .int (nI 0)), (0, .ref b), (1, .int x)]) hx hb d_M_holder_6 rfl hl (by decide) rfl (fun ls hl => ?_)
  have loop : ∀ (n k : Nat), ms.length < k + n → k ≤ ms.length → (∀ j (hj : j < ms.length), j < k → nI (ms[j]).2 ≠ x) → ∀ ls : Array Slot, lv_has ls 3 [(2, .int (nI k)), (0, .ref b), (1, .int x)] → W p l e { frames := 0, cells := 0, slots := 0, locals := 0 } s m [.ref b, .int x].toArray below meth c H locs 0 0 (MQ below (va_Qi (fun (r : Int32) (_ : Unit) => ag_hold ms x r) (ag_to (dC, dI) agCl [(cI, .int)] A (fun _ : Unit => [(b, .inr (2, [.int (nI 0), .int (nI G), .int (nI R), .long (lN en), .long (lN nw), .int (nI ms.length), .ref qn, .ref qk, .int (nI mo), .long (lN la), .long (lN go), .long (lN sp)])), (qn, .inl (cI, 1200, .inl f)), (qk, .inl (cI, 1200, .inl g))])) A) [.ref b, .int x].toArray s 0 0 A) (F0 m 7 ls []) := by
    intro n
    induction n with
    | zero => intro k h1 h2; omega
    | succ n ih =>
      intro k hn hk hno ls hl
      refine lv_iload_n hx hb d_M_holder_7 rfl (lv_at hl 0 rfl) ?_
      refine lv_aload_n hx hb d_M_holder_8 rfl (lv_at hl 1 rfl) ?_
      refine va_get (D := (dC, dI)) (ci := 2) (v := .int (nI ms.length)) (C := RX2) (T := TX2) (N := 12) hx hb ht inA2 hown hK hP 0 rfl rfl 5 (by decide) (ht _ mw_f_M_7) (fun _ h9 => h9) rfl d_M_holder_9 ?_
      refine ag_icmp_ge (tgt := 33) hx hb d_M_holder_12 (by decide) (by omega) (by omega) (fun c12 => ?_) (fun c12 => ?_)
      · have h_n := trivial
        refine lv_iconst (v := -1) hx hb d_M_holder_33 (by decide) ?_
        exact ag_reti hx hb hr hlocks () (Or.inr ⟨fun j hj => hno j hj (by omega), rfl⟩) hP hK hD hS d_M_holder_34
      · have h_n := trivial
        refine lv_aload_n hx hb d_M_holder_15 rfl (lv_at hl 1 rfl) ?_
        refine va_get (D := (dC, dI)) (ci := 2) (v := .ref qk) (C := RX2) (T := TX2) (N := 12) hx hb ht inA2 hown hK hP 0 rfl rfl 7 (by decide) (ht _ mw_f_M_17) (fun _ h9 => h9) rfl d_M_holder_16 ?_
        refine lv_iload_n hx hb d_M_holder_19 rfl (lv_at hl 0 rfl) ?_
        refine ag_iald hx hb hK hP 2 0 rfl rfl (by omega) (by decide) d_M_holder_20 ?_
        refine ag_topi (nI ((ms[k]).2)) ((hrep k c12).2) ?_
        refine lv_iload_n hx hb d_M_holder_21 rfl (lv_at hl 2 rfl) ?_
        refine lv_icmp_ne (tgt := 27) hx hb d_M_holder_22 (by decide) (fun c22 => ?_) (fun c22 => ?_)
        · have h_n := trivial
          refine lv_iinc (v := nI (k + 1)) (lv' := [(2, .int (nI (k + 1))), (0, .ref b), (1, .int x)]) hx hb d_M_holder_27 hl (k := 0) rfl (nI_1 _) (by decide) rfl (fun ls hl => ?_)
          refine lv_goto (tgt := 7) hx hb d_M_holder_30 (by decide) ?_
          refine ih (k + 1) (by omega) (by omega) (fun j hj h => ?_) ls hl
          rcases Nat.lt_or_ge j k with q | q
          · exact hno j hj q
          · have e9 : j = k := by omega
            subst e9
            exact c22
        · have h_n := trivial
          refine lv_iload_n hx hb d_M_holder_25 rfl (lv_at hl 0 rfl) ?_
          exact ag_reti hx hb hr hlocks () (Or.inl ⟨k, c12, c22, hno, rfl⟩) hP hK hD hS d_M_holder_26
  exact loop (ms.length + 1) 0 (by omega) (by omega) (fun j hj h => by omega) ls hl

set_option maxHeartbeats 4000000 in
set_option maxRecDepth 100000 in
/-- count(x) -/
theorem c_M_count (l : Launch) (dC : Nat → ClassId) (dI : Nat → Nat → Nat) (sz : Nat) (b qn qk : Nat) (cI : ClassId) (cd G R en nw mo la go sp : Nat) (f g : Nat → Int32) (ms : ag_M) (x : Int32) (hmo : mo ≤ 300) (hbd : ag_bd ms) : Met l y_M_count (Cond.code y_M_count b_M_count 2 (some .long) :: agW) ({ frames := 0, cells := 0, slots := 0, locals := 0 }) (va_Pc [.ref b, .int x] (ag_at (dC, dI) agCl [(cI, .int)] sz [(b, .inr (2, [.int (nI cd), .int (nI G), .int (nI R), .long (lN en), .long (lN nw), .int (nI ms.length), .ref qn, .ref qk, .int (nI mo), .long (lN la), .long (lN go), .long (lN sp)])), (qn, .inl (cI, 1200, .inl f)), (qk, .inl (cI, 1200, .inl g))])) (va_Ql (fun (r : Int64) (_ : Unit) => r = ag_count x nw en ms.length mo la go sp) (ag_to (dC, dI) agCl [(cI, .int)] (va_A [(b, .inr (2, [.int (nI cd), .int (nI G), .int (nI R), .long (lN en), .long (lN nw), .int (nI ms.length), .ref qn, .ref qk, .int (nI mo), .long (lN la), .long (lN go), .long (lN sp)])), (qn, .inl (cI, 1200, .inl f)), (qk, .inl (cI, 1200, .inl g))] sz) (fun _ : Unit => [(b, .inr (2, [.int (nI 0), .int (nI G), .int (nI R), .long (lN en), .long (lN nw), .int (nI ms.length), .ref qn, .ref qk, .int (nI mo), .long (lN la), .long (lN go), .long (lN sp)])), (qn, .inl (cI, 1200, .inl f)), (qk, .inl (cI, 1200, .inl g))])) (va_A [(b, .inr (2, [.int (nI cd), .int (nI G), .int (nI R), .long (lN en), .long (lN nw), .int (nI ms.length), .ref qn, .ref qk, .int (nI mo), .long (lN la), .long (lN go), .long (lN sp)])), (qn, .inl (cI, 1200, .inl f)), (qk, .inl (cI, 1200, .inl g))] sz)) 0 0 (va_A [(b, .inr (2, [.int (nI cd), .int (nI G), .int (nI R), .long (lN en), .long (lN nw), .int (nI ms.length), .ref qn, .ref qk, .int (nI mo), .long (lN la), .long (lN go), .long (lN sp)])), (qn, .inl (cI, 1200, .inl f)), (qk, .inl (cI, 1200, .inl g))] sz) := by
  refine ag_ofW (Qf := fun A => va_Ql (fun (r : Int64) (_ : Unit) => r = ag_count x nw en ms.length mo la go sp) (ag_to (dC, dI) agCl [(cI, .int)] A (fun _ : Unit => [(b, .inr (2, [.int (nI 0), .int (nI G), .int (nI R), .long (lN en), .long (lN nw), .int (nI ms.length), .ref qn, .ref qk, .int (nI mo), .long (lN la), .long (lN go), .long (lN sp)])), (qn, .inl (cI, 1200, .inl f)), (qk, .inl (cI, 1200, .inl g))])) A) (cc := b_M_count) (maxL := 2) (ret := (some .long)) (lv := [(0, .ref b), (1, .int x)]) (by decide) rfl (Nat.le_of_ble_eq_true rfl) rfl (fun p e s m below meth c A ls hx hb hr hts hown hlocks hml hnm hA hS hP hK hD hl hsz => ?_)
  have hown : s.vm.findClass "AgedMarksModel" = some m.cls := hown
  have ht : ∀ w ∈ agW, w.before [.ref b, .int x].toArray s = true := fun w h => hts w (List.mem_cons_of_mem _ h)
  have hlen := hbd.1
  refine lv_aload_n hx hb d_M_count_0 rfl (lv_at hl 0 rfl) ?_
  refine ag_iconst hx hb 0 d_M_count_1 (by decide) ?_
  refine va_put (D := (dC, dI)) (ci := 2) (v := .int (nI 0)) (ty := .int) (C := RX2) (T := TX2) (N := 12) hx hb ht inA2 tyX2 tyX2_ok nmX2 hown hK hP hD hS 0 rfl rfl 0 (by decide) (ht _ mw_f_M_29) (fun _ h9 => h9) rfl (by decide +kernel) rfl rfl (Nat.le_of_ble_eq_true rfl) d_M_count_2 (fun H locs hP hD hS => ?_)
  have hP : va_P (dC, dI) agCl [(b, .inr (2, [.int (nI 0), .int (nI G), .int (nI R), .long (lN en), .long (lN nw), .int (nI ms.length), .ref qn, .ref qk, .int (nI mo), .long (lN la), .long (lN go), .long (lN sp)])), (qn, .inl (cI, 1200, .inl f)), (qk, .inl (cI, 1200, .inl g))] H := hP
  have hD : va_D A [(b, .inr (2, [.int (nI 0), .int (nI G), .int (nI R), .long (lN en), .long (lN nw), .int (nI ms.length), .ref qn, .ref qk, .int (nI mo), .long (lN la), .long (lN go), .long (lN sp)])), (qn, .inl (cI, 1200, .inl f)), (qk, .inl (cI, 1200, .inl g))] := hD
  refine lv_iload_n hx hb d_M_count_5 rfl (lv_at hl 1 rfl) ?_
  by_cases hlo : x.toInt < 0 ∨ 6 < x.toInt
  · have h_n := trivial
    refine lv_tableOut (tgt := 85) hx hb d_M_count_6 hlo (by decide) ?_
    refine lv_ldc2 (v := -1) hx hb hown (ht _ mw_k_M_75) d_M_count_85 ?_
    exact ag_retl hx hb hr hlocks () (by rw [ag_count, if_neg (by rintro rfl; revert hlo; decide), if_neg (by rintro rfl; revert hlo; decide), if_neg (by rintro rfl; revert hlo; decide), if_neg (by rintro rfl; revert hlo; decide), if_neg (by rintro rfl; revert hlo; decide), if_neg (by rintro rfl; revert hlo; decide), if_neg (by rintro rfl; revert hlo; decide)]) hP hK hD hS d_M_count_88
  · have h_n := trivial
    obtain ⟨k, hk, rfl⟩ := ag_small hlo
    rcases (show k = 0 ∨ k = 1 ∨ k = 2 ∨ k = 3 ∨ k = 4 ∨ k = 5 ∨ k = 6 by omega) with rfl | rfl | rfl | rfl | rfl | rfl | rfl
    · have h_n := trivial
      refine lv_tableIn (off := 42) (tgt := 48) hx hb d_M_count_6 (by decide) (by decide) (by decide) (by decide) ?_
      refine lv_aload_n hx hb d_M_count_48 rfl (lv_at hl 0 rfl) ?_
      refine va_get (D := (dC, dI)) (ci := 2) (v := .long (lN nw)) (C := RX2) (T := TX2) (N := 12) hx hb ht inA2 hown hK hP 0 rfl rfl 4 (by decide) (ht _ mw_f_M_49) (fun _ h9 => h9) rfl d_M_count_49 ?_
      exact ag_retl hx hb hr hlocks () rfl hP hK hD hS d_M_count_52
    · have h_n := trivial
      refine lv_tableIn (off := 47) (tgt := 53) hx hb d_M_count_6 (by decide) (by decide) (by decide) (by decide) ?_
      refine lv_aload_n hx hb d_M_count_53 rfl (lv_at hl 0 rfl) ?_
      refine va_get (D := (dC, dI)) (ci := 2) (v := .long (lN en)) (C := RX2) (T := TX2) (N := 12) hx hb ht inA2 hown hK hP 0 rfl rfl 3 (by decide) (ht _ mw_f_M_58) (fun _ h9 => h9) rfl d_M_count_54 ?_
      exact ag_retl hx hb hr hlocks () rfl hP hK hD hS d_M_count_57
    · have h_n := trivial
      refine lv_tableIn (off := 52) (tgt := 58) hx hb d_M_count_6 (by decide) (by decide) (by decide) (by decide) ?_
      refine lv_aload_n hx hb d_M_count_58 rfl (lv_at hl 0 rfl) ?_
      refine va_get (D := (dC, dI)) (ci := 2) (v := .int (nI ms.length)) (C := RX2) (T := TX2) (N := 12) hx hb ht inA2 hown hK hP 0 rfl rfl 5 (by decide) (ht _ mw_f_M_7) (fun _ h9 => h9) rfl d_M_count_59 ?_
      refine lv_i2l (v := lN ms.length) hx hb d_M_count_62 (nI_l (by omega)) ?_
      exact ag_retl hx hb hr hlocks () rfl hP hK hD hS d_M_count_63
    · have h_n := trivial
      refine lv_tableIn (off := 58) (tgt := 64) hx hb d_M_count_6 (by decide) (by decide) (by decide) (by decide) ?_
      refine lv_aload_n hx hb d_M_count_64 rfl (lv_at hl 0 rfl) ?_
      refine va_get (D := (dC, dI)) (ci := 2) (v := .int (nI mo)) (C := RX2) (T := TX2) (N := 12) hx hb ht inA2 hown hK hP 0 rfl rfl 8 (by decide) (ht _ mw_f_M_20) (fun _ h9 => h9) rfl d_M_count_65 ?_
      refine lv_i2l (v := lN mo) hx hb d_M_count_68 (nI_l (by omega)) ?_
      exact ag_retl hx hb hr hlocks () rfl hP hK hD hS d_M_count_69
    · have h_n := trivial
      refine lv_tableIn (off := 64) (tgt := 70) hx hb d_M_count_6 (by decide) (by decide) (by decide) (by decide) ?_
      refine lv_aload_n hx hb d_M_count_70 rfl (lv_at hl 0 rfl) ?_
      refine va_get (D := (dC, dI)) (ci := 2) (v := .long (lN la)) (C := RX2) (T := TX2) (N := 12) hx hb ht inA2 hown hK hP 0 rfl rfl 9 (by decide) (ht _ mw_f_M_46) (fun _ h9 => h9) rfl d_M_count_71 ?_
      exact ag_retl hx hb hr hlocks () rfl hP hK hD hS d_M_count_74
    · have h_n := trivial
      refine lv_tableIn (off := 69) (tgt := 75) hx hb d_M_count_6 (by decide) (by decide) (by decide) (by decide) ?_
      refine lv_aload_n hx hb d_M_count_75 rfl (lv_at hl 0 rfl) ?_
      refine va_get (D := (dC, dI)) (ci := 2) (v := .long (lN go)) (C := RX2) (T := TX2) (N := 12) hx hb ht inA2 hown hK hP 0 rfl rfl 10 (by decide) (ht _ mw_f_M_42) (fun _ h9 => h9) rfl d_M_count_76 ?_
      exact ag_retl hx hb hr hlocks () rfl hP hK hD hS d_M_count_79
    · have h_n := trivial
      refine lv_tableIn (off := 74) (tgt := 80) hx hb d_M_count_6 (by decide) (by decide) (by decide) (by decide) ?_
      refine lv_aload_n hx hb d_M_count_80 rfl (lv_at hl 0 rfl) ?_
      refine va_get (D := (dC, dI)) (ci := 2) (v := .long (lN sp)) (C := RX2) (T := TX2) (N := 12) hx hb ht inA2 hown hK hP 0 rfl rfl 11 (by decide) (ht _ mw_f_M_69) (fun _ h9 => h9) rfl d_M_count_81 ?_
      exact ag_retl hx hb hr hlocks () rfl hP hK hD hS d_M_count_84
end
section
set_option maxHeartbeats 4000000 in
set_option maxRecDepth 100000 in
/-- worst() -/
theorem c_M_worst (l : Launch) (dC : Nat → ClassId) (dI : Nat → Nat → Nat) (sz : Nat) (b qn qk : Nat) (cI : ClassId) (cd G R en nw mo la go sp : Nat) (f g : Nat → Int32) (ms : ag_M) (hG : 1 ≤ G) (hG2 : G ≤ 1000) (hen : en ≤ 1000000000) (hle : ∀ x ∈ ms, x.1 * G ≤ en) (hso : ms.Pairwise (fun x y => x.1 < y.1)) (hbd : ag_bd ms) (h0 : 0 < ms.length) (h00 : (ms[0]).1 = 0) (hrep : ag_rpm ms f g) : Met l y_M_worst (Cond.code y_M_worst b_M_worst 6 (some .long) :: agW) ({ frames := 1, cells := 0, slots := 0, locals := 24 }) (va_Pc [.ref b] (ag_at (dC, dI) agCl [(cI, .int)] sz [(b, .inr (2, [.int (nI cd), .int (nI G), .int (nI R), .long (lN en), .long (lN nw), .int (nI ms.length), .ref qn, .ref qk, .int (nI mo), .long (lN la), .long (lN go), .long (lN sp)])), (qn, .inl (cI, 1200, .inl f)), (qk, .inl (cI, 1200, .inl g))])) (va_Ql (fun (r : Int64) (_ : Unit) => r = lN (ag_wst G en ms (ms.length - 1))) (ag_to (dC, dI) agCl [(cI, .int)] (va_A [(b, .inr (2, [.int (nI cd), .int (nI G), .int (nI R), .long (lN en), .long (lN nw), .int (nI ms.length), .ref qn, .ref qk, .int (nI mo), .long (lN la), .long (lN go), .long (lN sp)])), (qn, .inl (cI, 1200, .inl f)), (qk, .inl (cI, 1200, .inl g))] sz) (fun _ : Unit => [(b, .inr (2, [.int (nI 0), .int (nI G), .int (nI R), .long (lN en), .long (lN nw), .int (nI ms.length), .ref qn, .ref qk, .int (nI mo), .long (lN la), .long (lN go), .long (lN sp)])), (qn, .inl (cI, 1200, .inl f)), (qk, .inl (cI, 1200, .inl g))])) (va_A [(b, .inr (2, [.int (nI cd), .int (nI G), .int (nI R), .long (lN en), .long (lN nw), .int (nI ms.length), .ref qn, .ref qk, .int (nI mo), .long (lN la), .long (lN go), .long (lN sp)])), (qn, .inl (cI, 1200, .inl f)), (qk, .inl (cI, 1200, .inl g))] sz)) 0 0 (va_A [(b, .inr (2, [.int (nI cd), .int (nI G), .int (nI R), .long (lN en), .long (lN nw), .int (nI ms.length), .ref qn, .ref qk, .int (nI mo), .long (lN la), .long (lN go), .long (lN sp)])), (qn, .inl (cI, 1200, .inl f)), (qk, .inl (cI, 1200, .inl g))] sz) := by
  refine ag_ofW (Qf := fun A => va_Ql (fun (r : Int64) (_ : Unit) => r = lN (ag_wst G en ms (ms.length - 1))) (ag_to (dC, dI) agCl [(cI, .int)] A (fun _ : Unit => [(b, .inr (2, [.int (nI 0), .int (nI G), .int (nI R), .long (lN en), .long (lN nw), .int (nI ms.length), .ref qn, .ref qk, .int (nI mo), .long (lN la), .long (lN go), .long (lN sp)])), (qn, .inl (cI, 1200, .inl f)), (qk, .inl (cI, 1200, .inl g))])) A) (cc := b_M_worst) (maxL := 6) (ret := (some .long)) (lv := [(0, .ref b)]) (by decide) rfl (Nat.le_of_ble_eq_true rfl) rfl (fun p e s m below meth c A ls hx hb hr hts hown hlocks hml hnm hA hS hP hK hD hl hsz => ?_)
  have hown : s.vm.findClass "AgedMarksModel" = some m.cls := hown
  have ht : ∀ w ∈ agW, w.before [.ref b].toArray s = true := fun w h => hts w (List.mem_cons_of_mem _ h)
  have hlen := hbd.1
  have hnum : ∀ j, j < ms.length → ag_num ms j * G ≤ en ∧ ag_num ms j ≤ 1000000 ∧ f j = nI (ag_num ms j) := fun j hj => by rw [ag_num_eq hj]; exact ⟨hle _ (List.getElem_mem hj), (hbd.2 _ (List.getElem_mem hj)).1, (hrep j hj).1⟩
  have hlt : ∀ i j, i < j → j < ms.length → ag_num ms i * G + 1 ≤ ag_num ms j * G := fun i j hij hj => by
    rw [ag_num_eq hj, ag_num_eq (show i < ms.length by omega)]
    have h1 := List.pairwise_iff_getElem.mp hso i j (by omega) hj hij
    have h2 := Nat.mul_le_mul_right G (show (ms[i]).1 + 1 ≤ (ms[j]).1 by omega)
    rw [Nat.add_mul] at h2
    omega
  have hcost : ∀ k, k + 1 < ms.length → ag_cost G ms (ag_num ms (k + 1) * G - 1) = ag_num ms (k + 1) * G - 1 - ag_num ms k * G := fun k hk => by
    have h1 := hlt k (k + 1) (by omega) hk
    refine ag_cost_eq ⟨k, by omega, ?_, fun j hj hkj => ?_, ?_⟩
    · rw [← ag_num_eq]; omega
    · rw [← ag_num_eq hj]
      rcases Nat.lt_or_ge (k + 1) j with q | q
      · have h2 := hlt (k + 1) j q hj; omega
      · rw [show j = k + 1 by omega]; omega
    · rw [← ag_num_eq]
  have hl9 := hnum (ms.length - 1) (by omega)
  refine lv_aload_n hx hb d_M_worst_0 rfl (lv_at hl 0 rfl) ?_
  refine ag_iconst hx hb 0 d_M_worst_1 (by decide) ?_
  refine va_put (D := (dC, dI)) (ci := 2) (v := .int (nI 0)) (ty := .int) (C := RX2) (T := TX2) (N := 12) hx hb ht inA2 tyX2 tyX2_ok nmX2 hown hK hP hD hS 0 rfl rfl 0 (by decide) (ht _ mw_f_M_29) (fun _ h9 => h9) rfl (by decide +kernel) rfl rfl (Nat.le_of_ble_eq_true rfl) d_M_worst_2 (fun H locs hP hD hS => ?_)
  have hP : va_P (dC, dI) agCl [(b, .inr (2, [.int (nI 0), .int (nI G), .int (nI R), .long (lN en), .long (lN nw), .int (nI ms.length), .ref qn, .ref qk, .int (nI mo), .long (lN la), .long (lN go), .long (lN sp)])), (qn, .inl (cI, 1200, .inl f)), (qk, .inl (cI, 1200, .inl g))] H := hP
  have hD : va_D A [(b, .inr (2, [.int (nI 0), .int (nI G), .int (nI R), .long (lN en), .long (lN nw), .int (nI ms.length), .ref qn, .ref qk, .int (nI mo), .long (lN la), .long (lN go), .long (lN sp)])), (qn, .inl (cI, 1200, .inl f)), (qk, .inl (cI, 1200, .inl g))] := hD
  refine lv_aload_n hx hb d_M_worst_5 rfl (lv_at hl 0 rfl) ?_
  refine va_get (D := (dC, dI)) (ci := 2) (v := .long (lN en)) (C := RX2) (T := TX2) (N := 12) hx hb ht inA2 hown hK hP 0 rfl rfl 3 (by decide) (ht _ mw_f_M_58) (fun _ h9 => h9) rfl d_M_worst_6 ?_
  refine lv_aload_n hx hb d_M_worst_9 rfl (lv_at hl 0 rfl) ?_
  refine va_get (D := (dC, dI)) (ci := 2) (v := .ref qn) (C := RX2) (T := TX2) (N := 12) hx hb ht inA2 hown hK hP 0 rfl rfl 6 (by decide) (ht _ mw_f_M_13) (fun _ h9 => h9) rfl d_M_worst_10 ?_
  refine lv_aload_n hx hb d_M_worst_13 rfl (lv_at hl 0 rfl) ?_
  refine va_get (D := (dC, dI)) (ci := 2) (v := .int (nI ms.length)) (C := RX2) (T := TX2) (N := 12) hx hb ht inA2 hown hK hP 0 rfl rfl 5 (by decide) (ht _ mw_f_M_7) (fun _ h9 => h9) rfl d_M_worst_14 ?_
  refine ag_iconst hx hb 1 d_M_worst_17 (by decide) ?_
  refine lv_isub hx hb d_M_worst_18 ?_
  refine ag_topi (nI (ms.length - 1)) (pk_sub (by omega)) ?_
  refine ag_iald hx hb hK hP 1 0 rfl rfl (by omega) (by decide) d_M_worst_19 ?_
  refine ag_topi (nI (ag_num ms (ms.length - 1))) hl9.2.2 ?_
  refine lv_i2l (v := lN (ag_num ms (ms.length - 1))) hx hb d_M_worst_20 (nI_l (by omega)) ?_
  refine lv_aload_n hx hb d_M_worst_21 rfl (lv_at hl 0 rfl) ?_
  refine va_get (D := (dC, dI)) (ci := 2) (v := .int (nI G)) (C := RX2) (T := TX2) (N := 12) hx hb ht inA2 hown hK hP 0 rfl rfl 1 (by decide) (ht _ mw_f_M_23) (fun _ h9 => h9) rfl d_M_worst_22 ?_
  refine lv_i2l (v := lN G) hx hb d_M_worst_25 (nI_l (by omega)) ?_
  refine lv_lmul hx hb d_M_worst_26 ?_
  refine ag_topl (lN ((ag_num ms (ms.length - 1)) * G)) (lN_mul _ _) ?_
  refine lv_lsub hx hb d_M_worst_27 ?_
  refine ag_topl (lN (en - ((ag_num ms (ms.length - 1)) * G))) (lN_sub (by omega)) ?_
  refine lv_lstore_n (lv' := [(1, .long (lN (en - ((ag_num ms (ms.length - 1)) * G)))), (0, .ref b)]) hx hb d_M_worst_28 rfl hl (by decide) rfl (fun ls hl => ?_)
  refine ag_iconst hx hb 1 d_M_worst_29 (by decide) ?_
  refine lv_istore_n (lv' := [(3, .int (nI 1)), (1, .long (lN (en - ((ag_num ms (ms.length - 1)) * G)))), (0, .ref b)]) hx hb d_M_worst_30 rfl hl (by decide) rfl (fun ls hl => ?_)
  have hbnd : ∀ k, k < ms.length → ag_wst G en ms k ≤ en := by
    intro k
    induction k with
    | zero => intro _; exact Nat.sub_le _ _
    | succ i ih =>
      intro hi
      have h1 := ih (by omega)
      have h2 := (hnum (i + 1) hi).1
      exact Nat.max_le.mpr ⟨h1, by omega⟩
  have loop : ∀ (n k : Nat), ms.length < k + 1 + n → k + 1 ≤ ms.length → ∀ (H : Heap) (locs : List Loc), va_P (dC, dI) agCl [(b, .inr (2, [.int (nI 0), .int (nI G), .int (nI R), .long (lN en), .long (lN nw), .int (nI ms.length), .ref qn, .ref qk, .int (nI mo), .long (lN la), .long (lN go), .long (lN sp)])), (qn, .inl (cI, 1200, .inl f)), (qk, .inl (cI, 1200, .inl g))] H → va_D A [(b, .inr (2, [.int (nI 0), .int (nI G), .int (nI R), .long (lN en), .long (lN nw), .int (nI ms.length), .ref qn, .ref qk, .int (nI mo), .long (lN la), .long (lN go), .long (lN sp)])), (qn, .inl (cI, 1200, .inl f)), (qk, .inl (cI, 1200, .inl g))] → va_S A s.heap H locs → ∀ ls : Array Slot, lv_has ls 6 [(3, .int (nI (k + 1))), (1, .long (lN (ag_wst G en ms k))), (0, .ref b)] → W p l e { frames := 1, cells := 0, slots := 0, locals := 24 } s m [.ref b].toArray below meth c H locs 0 0 (MQ below (va_Ql (fun (r : Int64) (_ : Unit) => r = lN (ag_wst G en ms (ms.length - 1))) (ag_to (dC, dI) agCl [(cI, .int)] A (fun _ : Unit => [(b, .inr (2, [.int (nI 0), .int (nI G), .int (nI R), .long (lN en), .long (lN nw), .int (nI ms.length), .ref qn, .ref qk, .int (nI mo), .long (lN la), .long (lN go), .long (lN sp)])), (qn, .inl (cI, 1200, .inl f)), (qk, .inl (cI, 1200, .inl g))])) A) [.ref b].toArray s 0 0 A) (F0 m 31 ls []) := by
    intro n
    induction n with
    | zero => intro k h1 h2; omega
    | succ n ih =>
      intro k hn hk H locs hP hD hS ls hl
      refine lv_iload_n hx hb d_M_worst_31 rfl (lv_at hl 0 rfl) ?_
      refine lv_aload_n hx hb d_M_worst_32 rfl (lv_at hl 2 rfl) ?_
      refine va_get (D := (dC, dI)) (ci := 2) (v := .int (nI ms.length)) (C := RX2) (T := TX2) (N := 12) hx hb ht inA2 hown hK hP 0 rfl rfl 5 (by decide) (ht _ mw_f_M_7) (fun _ h9 => h9) rfl d_M_worst_33 ?_
      refine ag_icmp_ge (tgt := 80) hx hb d_M_worst_36 (by decide) (by omega) (by omega) (fun c36 => ?_) (fun c36 => ?_)
      · have h_n := trivial
        refine lv_lload_n hx hb d_M_worst_80 rfl (lv_at hl 1 rfl) ?_
        exact ag_retl hx hb hr hlocks () (by rw [show k = ms.length - 1 by omega]) hP hK hD hS d_M_worst_81
      · have h_n := trivial
        have hk1 := hnum (k + 1) c36
        have hk0 := hnum k (by omega)
        have hk2 := hlt k (k + 1) (by omega) c36
        have hk3 := hbnd k (by omega)
        refine lv_aload_n hx hb d_M_worst_39 rfl (lv_at hl 2 rfl) ?_
        refine lv_aload_n hx hb d_M_worst_40 rfl (lv_at hl 2 rfl) ?_
        refine va_get (D := (dC, dI)) (ci := 2) (v := .ref qn) (C := RX2) (T := TX2) (N := 12) hx hb ht inA2 hown hK hP 0 rfl rfl 6 (by decide) (ht _ mw_f_M_13) (fun _ h9 => h9) rfl d_M_worst_41 ?_
        refine lv_iload_n hx hb d_M_worst_44 rfl (lv_at hl 0 rfl) ?_
        refine ag_iald hx hb hK hP 1 0 rfl rfl (by omega) (by decide) d_M_worst_45 ?_
        refine ag_topi (nI (ag_num ms (k + 1))) hk1.2.2 ?_
        refine lv_i2l (v := lN (ag_num ms (k + 1))) hx hb d_M_worst_46 (nI_l (by omega)) ?_
        refine lv_aload_n hx hb d_M_worst_47 rfl (lv_at hl 2 rfl) ?_
        refine va_get (D := (dC, dI)) (ci := 2) (v := .int (nI G)) (C := RX2) (T := TX2) (N := 12) hx hb ht inA2 hown hK hP 0 rfl rfl 1 (by decide) (ht _ mw_f_M_23) (fun _ h9 => h9) rfl d_M_worst_48 ?_
        refine lv_i2l (v := lN G) hx hb d_M_worst_51 (nI_l (by omega)) ?_
        refine lv_lmul hx hb d_M_worst_52 ?_
        refine ag_topl (lN ((ag_num ms (k + 1)) * G)) (lN_mul _ _) ?_
        refine ag_lconst hx hb 1 d_M_worst_53 (by decide) ?_
        refine lv_lsub hx hb d_M_worst_54 ?_
        refine ag_topl (lN (((ag_num ms (k + 1)) * G) - 1)) (lN_sub (by omega)) ?_
        have hPc := hP.sub (ws' := [(b, .inr (2, [.int (nI 0), .int (nI G), .int (nI R), .long (lN en), .long (lN nw), .int (nI ms.length), .ref qn, .ref qk, .int (nI mo), .long (lN la), .long (lN go), .long (lN sp)])), (qn, .inl (cI, 1200, .inl f)), (qk, .inl (cI, 1200, .inl g))]) [0, 1, 2] rfl
        have hDc := hD.sub (ws' := [(b, .inr (2, [.int (nI 0), .int (nI G), .int (nI R), .long (lN en), .long (lN nw), .int (nI ms.length), .ref qn, .ref qk, .int (nI mo), .long (lN la), .long (lN go), .long (lN sp)])), (qn, .inl (cI, 1200, .inl f)), (qk, .inl (cI, 1200, .inl g))]) [0, 1, 2] (by decide) rfl
        refine ag_cll (wc := [(b, .inr (2, [.int (nI 0), .int (nI G), .int (nI R), .long (lN en), .long (lN nw), .int (nI ms.length), .ref qn, .ref qk, .int (nI mo), .long (lN la), .long (lN go), .long (lN sp)])), (qn, .inl (cI, 1200, .inl f)), (qk, .inl (cI, 1200, .inl g))]) (wr := []) (Wf := fun _ : Unit => [(b, .inr (2, [.int (nI 0), .int (nI G), .int (nI R), .long (lN en), .long (lN nw), .int (nI ms.length), .ref qn, .ref qk, .int (nI mo), .long (lN la), .long (lN go), .long (lN sp)])), (qn, .inl (cI, 1200, .inl f)), (qk, .inl (cI, 1200, .inl g))]) hP hD hS hA [0, 1, 2] [] rfl rfl (by decide) (by decide) (va_runV (C := "AgedMarksModel") (As := [.long (lN (((ag_num ms (k + 1)) * G) - 1))]) (rest := []) ⟨hx, hb, hml, hown, hts⟩ (c_M_cost l dC dI H.size b qn qk cI 0 G R en nw mo la go sp f g ms (ag_num ms (k + 1) * G - 1) hG2 (by omega) hbd h0 h00 hrep) (ag_cwV 1 hts mw_m_M_65 mw_instanceMethod_M_cost mw_sel_M_cost mw_ini_M mw_code_M_cost rfl rfl (by decide +kernel) ⟨Nat.le_of_ble_eq_true rfl, Nat.le_of_ble_eq_true rfl⟩) ⟨ag_blind, va_recv hK hPc (ci := 2) (q0 := 0) rfl rfl, ag_pre hPc hK hDc⟩ rfl rfl hl.1 rfl (lv_room (Nat.le_of_ble_eq_true rfl)) d_M_worst_55 ⟨Nat.le_of_ble_eq_true rfl, Nat.le_of_ble_eq_true rfl⟩) (fun r1 u H locs hw hP hD hS => ?_)
        try dsimp only at hw
        subst hw
        have hP : va_P (dC, dI) agCl [(b, .inr (2, [.int (nI 0), .int (nI G), .int (nI R), .long (lN en), .long (lN nw), .int (nI ms.length), .ref qn, .ref qk, .int (nI mo), .long (lN la), .long (lN go), .long (lN sp)])), (qn, .inl (cI, 1200, .inl f)), (qk, .inl (cI, 1200, .inl g))] H := hP
        have hD : va_D A [(b, .inr (2, [.int (nI 0), .int (nI G), .int (nI R), .long (lN en), .long (lN nw), .int (nI ms.length), .ref qn, .ref qk, .int (nI mo), .long (lN la), .long (lN go), .long (lN sp)])), (qn, .inl (cI, 1200, .inl f)), (qk, .inl (cI, 1200, .inl g))] := hD
        refine ag_topl (lN (ag_num ms (k + 1) * G - 1 - ag_num ms k * G)) (by rw [hcost k c36]) ?_
        refine lv_lstore (lv' := [(4, .long (lN (ag_num ms (k + 1) * G - 1 - ag_num ms k * G))), (3, .int (nI (k + 1))), (1, .long (lN (ag_wst G en ms k))), (0, .ref b)]) hx hb d_M_worst_58 hl (by decide) rfl (fun ls hl => ?_)
        refine lv_lload hx hb d_M_worst_60 (lv_at hl 0 rfl) ?_
        refine lv_lload_n hx hb d_M_worst_62 rfl (lv_at hl 2 rfl) ?_
        refine ag_lc_le (tgt := 72) hx hb d_M_worst_63 d_M_worst_64 (by decide) (fun c63 => ?_) (fun c63 => ?_)
        · have h_n := trivial
          have hle9 := (pk_lLE (a := ag_num ms (k + 1) * G - 1 - ag_num ms k * G) (b := ag_wst G en ms k) (by omega) (by omega)).mp c63
          refine lv_lload_n hx hb d_M_worst_72 rfl (lv_at hl 2 rfl) ?_
          refine ag_topl (lN (ag_wst G en ms (k + 1))) (congrArg lN (Nat.max_eq_left hle9).symm) ?_
          refine lv_lstore_n (lv' := [(1, .long (lN (ag_wst G en ms (k + 1)))), (4, .long (lN (ag_num ms (k + 1) * G - 1 - ag_num ms k * G))), (3, .int (nI (k + 1))), (0, .ref b)]) hx hb d_M_worst_73 rfl hl (by decide) rfl (fun ls hl => ?_)
          refine lv_iinc (v := nI (k + 1 + 1)) (lv' := [(3, .int (nI (k + 1 + 1))), (1, .long (lN (ag_wst G en ms (k + 1)))), (4, .long (lN (ag_num ms (k + 1) * G - 1 - ag_num ms k * G))), (0, .ref b)]) hx hb d_M_worst_74 hl (k := 2) rfl (nI_1 _) (by decide) rfl (fun ls hl => ?_)
          refine lv_goto (tgt := 31) hx hb d_M_worst_77 (by decide) ?_
          exact ih (k + 1) (by omega) (by omega) H locs hP hD hS ls (lv_sub hl [0, 1, 3] rfl)
        · have h_n := trivial
          have hgt9 : ag_wst G en ms k ≤ ag_num ms (k + 1) * G - 1 - ag_num ms k * G := by have h9 := mt (pk_lLE (a := ag_num ms (k + 1) * G - 1 - ag_num ms k * G) (b := ag_wst G en ms k) (by omega) (by omega)).mpr c63; omega
          refine lv_lload hx hb d_M_worst_67 (lv_at hl 0 rfl) ?_
          refine lv_goto (tgt := 73) hx hb d_M_worst_69 (by decide) ?_
          refine ag_topl (lN (ag_wst G en ms (k + 1))) (congrArg lN (Nat.max_eq_right hgt9).symm) ?_
          refine lv_lstore_n (lv' := [(1, .long (lN (ag_wst G en ms (k + 1)))), (4, .long (lN (ag_num ms (k + 1) * G - 1 - ag_num ms k * G))), (3, .int (nI (k + 1))), (0, .ref b)]) hx hb d_M_worst_73 rfl hl (by decide) rfl (fun ls hl => ?_)
          refine lv_iinc (v := nI (k + 1 + 1)) (lv' := [(3, .int (nI (k + 1 + 1))), (1, .long (lN (ag_wst G en ms (k + 1)))), (4, .long (lN (ag_num ms (k + 1) * G - 1 - ag_num ms k * G))), (0, .ref b)]) hx hb d_M_worst_74 hl (k := 2) rfl (nI_1 _) (by decide) rfl (fun ls hl => ?_)
          refine lv_goto (tgt := 31) hx hb d_M_worst_77 (by decide) ?_
          exact ih (k + 1) (by omega) (by omega) H locs hP hD hS ls (lv_sub hl [0, 1, 3] rfl)
  exact loop ms.length 0 (by omega) (by omega) H locs hP hD hS ls hl

set_option maxHeartbeats 4000000 in
set_option maxRecDepth 100000 in
/-- mark(x, y): no such mark -/
theorem c_M_mark_1 (l : Launch) (dC : Nat → ClassId) (dI : Nat → Nat → Nat) (sz : Nat) (b qn qk : Nat) (cI : ClassId) (cd G R en nw mo la go sp : Nat) (f g : Nat → Int32) (ms : ag_M) (x y : Int32) (hbd : ag_bd ms) (hno : ¬ ∃ k, k < ms.length ∧ x = nI k) : Met l y_M_mark (Cond.code y_M_mark b_M_mark 3 (some .long) :: agW) ({ frames := 2, cells := 0, slots := 0, locals := 50 }) (va_Pc [.ref b, .int x, .int y] (ag_at (dC, dI) agCl [(cI, .int)] sz [(b, .inr (2, [.int (nI cd), .int (nI G), .int (nI R), .long (lN en), .long (lN nw), .int (nI ms.length), .ref qn, .ref qk, .int (nI mo), .long (lN la), .long (lN go), .long (lN sp)])), (qn, .inl (cI, 1200, .inl f)), (qk, .inl (cI, 1200, .inl g))])) (va_Ql (fun (_ : Int64) (_ : Unit) => True) (ag_to (dC, dI) agCl [(cI, .int)] (va_A [(b, .inr (2, [.int (nI cd), .int (nI G), .int (nI R), .long (lN en), .long (lN nw), .int (nI ms.length), .ref qn, .ref qk, .int (nI mo), .long (lN la), .long (lN go), .long (lN sp)])), (qn, .inl (cI, 1200, .inl f)), (qk, .inl (cI, 1200, .inl g))] sz) (fun _ : Unit => [(b, .inr (2, [.int (nI 1), .int (nI G), .int (nI R), .long (lN en), .long (lN nw), .int (nI ms.length), .ref qn, .ref qk, .int (nI mo), .long (lN la), .long (lN go), .long (lN sp)])), (qn, .inl (cI, 1200, .inl f)), (qk, .inl (cI, 1200, .inl g))])) (va_A [(b, .inr (2, [.int (nI cd), .int (nI G), .int (nI R), .long (lN en), .long (lN nw), .int (nI ms.length), .ref qn, .ref qk, .int (nI mo), .long (lN la), .long (lN go), .long (lN sp)])), (qn, .inl (cI, 1200, .inl f)), (qk, .inl (cI, 1200, .inl g))] sz)) 0 0 (va_A [(b, .inr (2, [.int (nI cd), .int (nI G), .int (nI R), .long (lN en), .long (lN nw), .int (nI ms.length), .ref qn, .ref qk, .int (nI mo), .long (lN la), .long (lN go), .long (lN sp)])), (qn, .inl (cI, 1200, .inl f)), (qk, .inl (cI, 1200, .inl g))] sz) := by
  refine ag_ofW (Qf := fun A => va_Ql (fun (_ : Int64) (_ : Unit) => True) (ag_to (dC, dI) agCl [(cI, .int)] A (fun _ : Unit => [(b, .inr (2, [.int (nI 1), .int (nI G), .int (nI R), .long (lN en), .long (lN nw), .int (nI ms.length), .ref qn, .ref qk, .int (nI mo), .long (lN la), .long (lN go), .long (lN sp)])), (qn, .inl (cI, 1200, .inl f)), (qk, .inl (cI, 1200, .inl g))])) A) (cc := b_M_mark) (maxL := 3) (ret := (some .long)) (lv := [(0, .ref b), (1, .int x), (2, .int y)]) (by decide) rfl (Nat.le_of_ble_eq_true rfl) rfl (fun p e s m below meth c A ls hx hb hr hts hown hlocks hml hnm hA hS hP hK hD hl hsz => ?_)
  have hown : s.vm.findClass "AgedMarksModel" = some m.cls := hown
  have ht : ∀ w ∈ agW, w.before [.ref b, .int x, .int y].toArray s = true := fun w h => hts w (List.mem_cons_of_mem _ h)
  have hlen := hbd.1
  refine lv_aload_n hx hb d_M_mark_0 rfl (lv_at hl 0 rfl) ?_
  refine lv_iload_n hx hb d_M_mark_1 rfl (lv_at hl 1 rfl) ?_
  refine lv_if_lt (tgt := 13) hx hb d_M_mark_2 (by decide) (fun c2 => ?_) (fun c2 => ?_)
  · have h_n := trivial
    refine ag_iconst hx hb 1 d_M_mark_13 (by decide) ?_
    refine lv_goto (tgt := 18) hx hb d_M_mark_14 (by decide) ?_
    refine lv_iload_n hx hb d_M_mark_18 rfl (lv_at hl 2 rfl) ?_
    refine lv_if_lt (tgt := 27) hx hb d_M_mark_19 (by decide) (fun c19 => ?_) (fun c19 => ?_)
    · have h_n := trivial
      refine ag_iconst hx hb 1 d_M_mark_27 (by decide) ?_
      refine lv_goto (tgt := 32) hx hb d_M_mark_28 (by decide) ?_
      have hPc := hP.sub (ws' := [(b, .inr (2, [.int (nI cd), .int (nI G), .int (nI R), .long (lN en), .long (lN nw), .int (nI ms.length), .ref qn, .ref qk, .int (nI mo), .long (lN la), .long (lN go), .long (lN sp)])), (qn, .inl (cI, 1200, .inl f)), (qk, .inl (cI, 1200, .inl g))]) [0, 1, 2] rfl
      have hDc := hD.sub (ws' := [(b, .inr (2, [.int (nI cd), .int (nI G), .int (nI R), .long (lN en), .long (lN nw), .int (nI ms.length), .ref qn, .ref qk, .int (nI mo), .long (lN la), .long (lN go), .long (lN sp)])), (qn, .inl (cI, 1200, .inl f)), (qk, .inl (cI, 1200, .inl g))]) [0, 1, 2] (by decide) rfl
      refine ag_cli (wc := [(b, .inr (2, [.int (nI cd), .int (nI G), .int (nI R), .long (lN en), .long (lN nw), .int (nI ms.length), .ref qn, .ref qk, .int (nI mo), .long (lN la), .long (lN go), .long (lN sp)])), (qn, .inl (cI, 1200, .inl f)), (qk, .inl (cI, 1200, .inl g))]) (wr := []) (Wf := fun _ : Unit => [(b, .inr (2, [.int (nI (if 1 = 1 then 1 else if 1 = 1 then 2 else 0)), .int (nI G), .int (nI R), .long (lN en), .long (lN nw), .int (nI ms.length), .ref qn, .ref qk, .int (nI mo), .long (lN la), .long (lN go), .long (lN sp)])), (qn, .inl (cI, 1200, .inl f)), (qk, .inl (cI, 1200, .inl g))]) hP hD hS hA [0, 1, 2] [] rfl rfl (by decide) (by decide) (va_runV (C := "AgedMarksModel") (As := [.int (nI 1), .int (nI 1)]) (rest := []) ⟨hx, hb, hml, hown, hts⟩ (c_M_fails l dC dI s.heap.size b qn qk cI cd G R en nw mo la go sp f g ms 1 1 (by decide) (by decide)) (ag_cwV 2 hts mw_m_M_54 mw_instanceMethod_M_fails mw_sel_M_fails mw_ini_M mw_code_M_fails rfl rfl (by decide +kernel) ⟨Nat.le_of_ble_eq_true rfl, Nat.le_of_ble_eq_true rfl⟩) ⟨ag_blind, va_recv hK hPc (ci := 2) (q0 := 0) rfl rfl, ag_pre hPc hK hDc⟩ rfl rfl hl.1 rfl (lv_room (Nat.le_of_ble_eq_true rfl)) d_M_mark_32 ⟨Nat.le_of_ble_eq_true rfl, Nat.le_of_ble_eq_true rfl⟩) (fun r1 u H locs hw hP hD hS => ?_)
      try dsimp only at hw
      subst hw
      have hP : va_P (dC, dI) agCl [(b, .inr (2, [.int (nI 1), .int (nI G), .int (nI R), .long (lN en), .long (lN nw), .int (nI ms.length), .ref qn, .ref qk, .int (nI mo), .long (lN la), .long (lN go), .long (lN sp)])), (qn, .inl (cI, 1200, .inl f)), (qk, .inl (cI, 1200, .inl g))] H := hP
      have hD : va_D A [(b, .inr (2, [.int (nI 1), .int (nI G), .int (nI R), .long (lN en), .long (lN nw), .int (nI ms.length), .ref qn, .ref qk, .int (nI mo), .long (lN la), .long (lN go), .long (lN sp)])), (qn, .inl (cI, 1200, .inl f)), (qk, .inl (cI, 1200, .inl g))] := hD
      refine lv_if_eq (tgt := 40) hx hb d_M_mark_35 (by decide) (fun c35 => ?_) (fun c35 => ?_)
      · have h_n := trivial
        exact absurd c35 (by decide)
      · have h_n := trivial
        refine ag_lconst hx hb 0 d_M_mark_38 (by decide) ?_
        exact ag_retl hx hb hr hlocks () trivial hP hK hD hS d_M_mark_39
    · have h_n := trivial
      refine lv_iload_n hx hb d_M_mark_22 rfl (lv_at hl 2 rfl) ?_
      refine ag_iconst hx hb 2 d_M_mark_23 (by decide) ?_
      refine lv_icmp_le (tgt := 31) hx hb d_M_mark_24 (by decide) (fun c24 => ?_) (fun c24 => ?_)
      · have h_n := trivial
        refine ag_iconst hx hb 0 d_M_mark_31 (by decide) ?_
        have hPc := hP.sub (ws' := [(b, .inr (2, [.int (nI cd), .int (nI G), .int (nI R), .long (lN en), .long (lN nw), .int (nI ms.length), .ref qn, .ref qk, .int (nI mo), .long (lN la), .long (lN go), .long (lN sp)])), (qn, .inl (cI, 1200, .inl f)), (qk, .inl (cI, 1200, .inl g))]) [0, 1, 2] rfl
        have hDc := hD.sub (ws' := [(b, .inr (2, [.int (nI cd), .int (nI G), .int (nI R), .long (lN en), .long (lN nw), .int (nI ms.length), .ref qn, .ref qk, .int (nI mo), .long (lN la), .long (lN go), .long (lN sp)])), (qn, .inl (cI, 1200, .inl f)), (qk, .inl (cI, 1200, .inl g))]) [0, 1, 2] (by decide) rfl
        refine ag_cli (wc := [(b, .inr (2, [.int (nI cd), .int (nI G), .int (nI R), .long (lN en), .long (lN nw), .int (nI ms.length), .ref qn, .ref qk, .int (nI mo), .long (lN la), .long (lN go), .long (lN sp)])), (qn, .inl (cI, 1200, .inl f)), (qk, .inl (cI, 1200, .inl g))]) (wr := []) (Wf := fun _ : Unit => [(b, .inr (2, [.int (nI (if 1 = 1 then 1 else if 0 = 1 then 2 else 0)), .int (nI G), .int (nI R), .long (lN en), .long (lN nw), .int (nI ms.length), .ref qn, .ref qk, .int (nI mo), .long (lN la), .long (lN go), .long (lN sp)])), (qn, .inl (cI, 1200, .inl f)), (qk, .inl (cI, 1200, .inl g))]) hP hD hS hA [0, 1, 2] [] rfl rfl (by decide) (by decide) (va_runV (C := "AgedMarksModel") (As := [.int (nI 1), .int (nI 0)]) (rest := []) ⟨hx, hb, hml, hown, hts⟩ (c_M_fails l dC dI s.heap.size b qn qk cI cd G R en nw mo la go sp f g ms 1 0 (by decide) (by decide)) (ag_cwV 2 hts mw_m_M_54 mw_instanceMethod_M_fails mw_sel_M_fails mw_ini_M mw_code_M_fails rfl rfl (by decide +kernel) ⟨Nat.le_of_ble_eq_true rfl, Nat.le_of_ble_eq_true rfl⟩) ⟨ag_blind, va_recv hK hPc (ci := 2) (q0 := 0) rfl rfl, ag_pre hPc hK hDc⟩ rfl rfl hl.1 rfl (lv_room (Nat.le_of_ble_eq_true rfl)) d_M_mark_32 ⟨Nat.le_of_ble_eq_true rfl, Nat.le_of_ble_eq_true rfl⟩) (fun r2 u H locs hw hP hD hS => ?_)
        try dsimp only at hw
        subst hw
        have hP : va_P (dC, dI) agCl [(b, .inr (2, [.int (nI 1), .int (nI G), .int (nI R), .long (lN en), .long (lN nw), .int (nI ms.length), .ref qn, .ref qk, .int (nI mo), .long (lN la), .long (lN go), .long (lN sp)])), (qn, .inl (cI, 1200, .inl f)), (qk, .inl (cI, 1200, .inl g))] H := hP
        have hD : va_D A [(b, .inr (2, [.int (nI 1), .int (nI G), .int (nI R), .long (lN en), .long (lN nw), .int (nI ms.length), .ref qn, .ref qk, .int (nI mo), .long (lN la), .long (lN go), .long (lN sp)])), (qn, .inl (cI, 1200, .inl f)), (qk, .inl (cI, 1200, .inl g))] := hD
        refine lv_if_eq (tgt := 40) hx hb d_M_mark_35 (by decide) (fun c35 => ?_) (fun c35 => ?_)
        · have h_n := trivial
          exact absurd c35 (by decide)
        · have h_n := trivial
          refine ag_lconst hx hb 0 d_M_mark_38 (by decide) ?_
          exact ag_retl hx hb hr hlocks () trivial hP hK hD hS d_M_mark_39
      · have h_n := trivial
        refine ag_iconst hx hb 1 d_M_mark_27 (by decide) ?_
        refine lv_goto (tgt := 32) hx hb d_M_mark_28 (by decide) ?_
        have hPc := hP.sub (ws' := [(b, .inr (2, [.int (nI cd), .int (nI G), .int (nI R), .long (lN en), .long (lN nw), .int (nI ms.length), .ref qn, .ref qk, .int (nI mo), .long (lN la), .long (lN go), .long (lN sp)])), (qn, .inl (cI, 1200, .inl f)), (qk, .inl (cI, 1200, .inl g))]) [0, 1, 2] rfl
        have hDc := hD.sub (ws' := [(b, .inr (2, [.int (nI cd), .int (nI G), .int (nI R), .long (lN en), .long (lN nw), .int (nI ms.length), .ref qn, .ref qk, .int (nI mo), .long (lN la), .long (lN go), .long (lN sp)])), (qn, .inl (cI, 1200, .inl f)), (qk, .inl (cI, 1200, .inl g))]) [0, 1, 2] (by decide) rfl
        refine ag_cli (wc := [(b, .inr (2, [.int (nI cd), .int (nI G), .int (nI R), .long (lN en), .long (lN nw), .int (nI ms.length), .ref qn, .ref qk, .int (nI mo), .long (lN la), .long (lN go), .long (lN sp)])), (qn, .inl (cI, 1200, .inl f)), (qk, .inl (cI, 1200, .inl g))]) (wr := []) (Wf := fun _ : Unit => [(b, .inr (2, [.int (nI (if 1 = 1 then 1 else if 1 = 1 then 2 else 0)), .int (nI G), .int (nI R), .long (lN en), .long (lN nw), .int (nI ms.length), .ref qn, .ref qk, .int (nI mo), .long (lN la), .long (lN go), .long (lN sp)])), (qn, .inl (cI, 1200, .inl f)), (qk, .inl (cI, 1200, .inl g))]) hP hD hS hA [0, 1, 2] [] rfl rfl (by decide) (by decide) (va_runV (C := "AgedMarksModel") (As := [.int (nI 1), .int (nI 1)]) (rest := []) ⟨hx, hb, hml, hown, hts⟩ (c_M_fails l dC dI s.heap.size b qn qk cI cd G R en nw mo la go sp f g ms 1 1 (by decide) (by decide)) (ag_cwV 2 hts mw_m_M_54 mw_instanceMethod_M_fails mw_sel_M_fails mw_ini_M mw_code_M_fails rfl rfl (by decide +kernel) ⟨Nat.le_of_ble_eq_true rfl, Nat.le_of_ble_eq_true rfl⟩) ⟨ag_blind, va_recv hK hPc (ci := 2) (q0 := 0) rfl rfl, ag_pre hPc hK hDc⟩ rfl rfl hl.1 rfl (lv_room (Nat.le_of_ble_eq_true rfl)) d_M_mark_32 ⟨Nat.le_of_ble_eq_true rfl, Nat.le_of_ble_eq_true rfl⟩) (fun r3 u H locs hw hP hD hS => ?_)
        try dsimp only at hw
        subst hw
        have hP : va_P (dC, dI) agCl [(b, .inr (2, [.int (nI 1), .int (nI G), .int (nI R), .long (lN en), .long (lN nw), .int (nI ms.length), .ref qn, .ref qk, .int (nI mo), .long (lN la), .long (lN go), .long (lN sp)])), (qn, .inl (cI, 1200, .inl f)), (qk, .inl (cI, 1200, .inl g))] H := hP
        have hD : va_D A [(b, .inr (2, [.int (nI 1), .int (nI G), .int (nI R), .long (lN en), .long (lN nw), .int (nI ms.length), .ref qn, .ref qk, .int (nI mo), .long (lN la), .long (lN go), .long (lN sp)])), (qn, .inl (cI, 1200, .inl f)), (qk, .inl (cI, 1200, .inl g))] := hD
        refine lv_if_eq (tgt := 40) hx hb d_M_mark_35 (by decide) (fun c35 => ?_) (fun c35 => ?_)
        · have h_n := trivial
          exact absurd c35 (by decide)
        · have h_n := trivial
          refine ag_lconst hx hb 0 d_M_mark_38 (by decide) ?_
          exact ag_retl hx hb hr hlocks () trivial hP hK hD hS d_M_mark_39
  · have h_n := trivial
    obtain ⟨k, hk31, rfl⟩ := nI_of c2
    refine lv_iload_n hx hb d_M_mark_5 rfl (lv_at hl 1 rfl) ?_
    refine lv_aload_n hx hb d_M_mark_6 rfl (lv_at hl 0 rfl) ?_
    refine va_get (D := (dC, dI)) (ci := 2) (v := .int (nI ms.length)) (C := RX2) (T := TX2) (N := 12) hx hb ht inA2 hown hK hP 0 rfl rfl 5 (by decide) (ht _ mw_f_M_7) (fun _ h9 => h9) rfl d_M_mark_7 ?_
    refine ag_icmp_lt (tgt := 17) hx hb d_M_mark_10 (by decide) (by omega) (by omega) (fun c10 => ?_) (fun c10 => ?_)
    · have h_n := trivial
      exact absurd ⟨k, c10, rfl⟩ hno
    · have h_n := trivial
      refine ag_iconst hx hb 1 d_M_mark_13 (by decide) ?_
      refine lv_goto (tgt := 18) hx hb d_M_mark_14 (by decide) ?_
      refine lv_iload_n hx hb d_M_mark_18 rfl (lv_at hl 2 rfl) ?_
      refine lv_if_lt (tgt := 27) hx hb d_M_mark_19 (by decide) (fun c19 => ?_) (fun c19 => ?_)
      · have h_n := trivial
        refine ag_iconst hx hb 1 d_M_mark_27 (by decide) ?_
        refine lv_goto (tgt := 32) hx hb d_M_mark_28 (by decide) ?_
        have hPc := hP.sub (ws' := [(b, .inr (2, [.int (nI cd), .int (nI G), .int (nI R), .long (lN en), .long (lN nw), .int (nI ms.length), .ref qn, .ref qk, .int (nI mo), .long (lN la), .long (lN go), .long (lN sp)])), (qn, .inl (cI, 1200, .inl f)), (qk, .inl (cI, 1200, .inl g))]) [0, 1, 2] rfl
        have hDc := hD.sub (ws' := [(b, .inr (2, [.int (nI cd), .int (nI G), .int (nI R), .long (lN en), .long (lN nw), .int (nI ms.length), .ref qn, .ref qk, .int (nI mo), .long (lN la), .long (lN go), .long (lN sp)])), (qn, .inl (cI, 1200, .inl f)), (qk, .inl (cI, 1200, .inl g))]) [0, 1, 2] (by decide) rfl
        refine ag_cli (wc := [(b, .inr (2, [.int (nI cd), .int (nI G), .int (nI R), .long (lN en), .long (lN nw), .int (nI ms.length), .ref qn, .ref qk, .int (nI mo), .long (lN la), .long (lN go), .long (lN sp)])), (qn, .inl (cI, 1200, .inl f)), (qk, .inl (cI, 1200, .inl g))]) (wr := []) (Wf := fun _ : Unit => [(b, .inr (2, [.int (nI (if 1 = 1 then 1 else if 1 = 1 then 2 else 0)), .int (nI G), .int (nI R), .long (lN en), .long (lN nw), .int (nI ms.length), .ref qn, .ref qk, .int (nI mo), .long (lN la), .long (lN go), .long (lN sp)])), (qn, .inl (cI, 1200, .inl f)), (qk, .inl (cI, 1200, .inl g))]) hP hD hS hA [0, 1, 2] [] rfl rfl (by decide) (by decide) (va_runV (C := "AgedMarksModel") (As := [.int (nI 1), .int (nI 1)]) (rest := []) ⟨hx, hb, hml, hown, hts⟩ (c_M_fails l dC dI s.heap.size b qn qk cI cd G R en nw mo la go sp f g ms 1 1 (by decide) (by decide)) (ag_cwV 2 hts mw_m_M_54 mw_instanceMethod_M_fails mw_sel_M_fails mw_ini_M mw_code_M_fails rfl rfl (by decide +kernel) ⟨Nat.le_of_ble_eq_true rfl, Nat.le_of_ble_eq_true rfl⟩) ⟨ag_blind, va_recv hK hPc (ci := 2) (q0 := 0) rfl rfl, ag_pre hPc hK hDc⟩ rfl rfl hl.1 rfl (lv_room (Nat.le_of_ble_eq_true rfl)) d_M_mark_32 ⟨Nat.le_of_ble_eq_true rfl, Nat.le_of_ble_eq_true rfl⟩) (fun r4 u H locs hw hP hD hS => ?_)
        try dsimp only at hw
        subst hw
        have hP : va_P (dC, dI) agCl [(b, .inr (2, [.int (nI 1), .int (nI G), .int (nI R), .long (lN en), .long (lN nw), .int (nI ms.length), .ref qn, .ref qk, .int (nI mo), .long (lN la), .long (lN go), .long (lN sp)])), (qn, .inl (cI, 1200, .inl f)), (qk, .inl (cI, 1200, .inl g))] H := hP
        have hD : va_D A [(b, .inr (2, [.int (nI 1), .int (nI G), .int (nI R), .long (lN en), .long (lN nw), .int (nI ms.length), .ref qn, .ref qk, .int (nI mo), .long (lN la), .long (lN go), .long (lN sp)])), (qn, .inl (cI, 1200, .inl f)), (qk, .inl (cI, 1200, .inl g))] := hD
        refine lv_if_eq (tgt := 40) hx hb d_M_mark_35 (by decide) (fun c35 => ?_) (fun c35 => ?_)
        · have h_n := trivial
          exact absurd c35 (by decide)
        · have h_n := trivial
          refine ag_lconst hx hb 0 d_M_mark_38 (by decide) ?_
          exact ag_retl hx hb hr hlocks () trivial hP hK hD hS d_M_mark_39
      · have h_n := trivial
        refine lv_iload_n hx hb d_M_mark_22 rfl (lv_at hl 2 rfl) ?_
        refine ag_iconst hx hb 2 d_M_mark_23 (by decide) ?_
        refine lv_icmp_le (tgt := 31) hx hb d_M_mark_24 (by decide) (fun c24 => ?_) (fun c24 => ?_)
        · have h_n := trivial
          refine ag_iconst hx hb 0 d_M_mark_31 (by decide) ?_
          have hPc := hP.sub (ws' := [(b, .inr (2, [.int (nI cd), .int (nI G), .int (nI R), .long (lN en), .long (lN nw), .int (nI ms.length), .ref qn, .ref qk, .int (nI mo), .long (lN la), .long (lN go), .long (lN sp)])), (qn, .inl (cI, 1200, .inl f)), (qk, .inl (cI, 1200, .inl g))]) [0, 1, 2] rfl
          have hDc := hD.sub (ws' := [(b, .inr (2, [.int (nI cd), .int (nI G), .int (nI R), .long (lN en), .long (lN nw), .int (nI ms.length), .ref qn, .ref qk, .int (nI mo), .long (lN la), .long (lN go), .long (lN sp)])), (qn, .inl (cI, 1200, .inl f)), (qk, .inl (cI, 1200, .inl g))]) [0, 1, 2] (by decide) rfl
          refine ag_cli (wc := [(b, .inr (2, [.int (nI cd), .int (nI G), .int (nI R), .long (lN en), .long (lN nw), .int (nI ms.length), .ref qn, .ref qk, .int (nI mo), .long (lN la), .long (lN go), .long (lN sp)])), (qn, .inl (cI, 1200, .inl f)), (qk, .inl (cI, 1200, .inl g))]) (wr := []) (Wf := fun _ : Unit => [(b, .inr (2, [.int (nI (if 1 = 1 then 1 else if 0 = 1 then 2 else 0)), .int (nI G), .int (nI R), .long (lN en), .long (lN nw), .int (nI ms.length), .ref qn, .ref qk, .int (nI mo), .long (lN la), .long (lN go), .long (lN sp)])), (qn, .inl (cI, 1200, .inl f)), (qk, .inl (cI, 1200, .inl g))]) hP hD hS hA [0, 1, 2] [] rfl rfl (by decide) (by decide) (va_runV (C := "AgedMarksModel") (As := [.int (nI 1), .int (nI 0)]) (rest := []) ⟨hx, hb, hml, hown, hts⟩ (c_M_fails l dC dI s.heap.size b qn qk cI cd G R en nw mo la go sp f g ms 1 0 (by decide) (by decide)) (ag_cwV 2 hts mw_m_M_54 mw_instanceMethod_M_fails mw_sel_M_fails mw_ini_M mw_code_M_fails rfl rfl (by decide +kernel) ⟨Nat.le_of_ble_eq_true rfl, Nat.le_of_ble_eq_true rfl⟩) ⟨ag_blind, va_recv hK hPc (ci := 2) (q0 := 0) rfl rfl, ag_pre hPc hK hDc⟩ rfl rfl hl.1 rfl (lv_room (Nat.le_of_ble_eq_true rfl)) d_M_mark_32 ⟨Nat.le_of_ble_eq_true rfl, Nat.le_of_ble_eq_true rfl⟩) (fun r5 u H locs hw hP hD hS => ?_)
          try dsimp only at hw
          subst hw
          have hP : va_P (dC, dI) agCl [(b, .inr (2, [.int (nI 1), .int (nI G), .int (nI R), .long (lN en), .long (lN nw), .int (nI ms.length), .ref qn, .ref qk, .int (nI mo), .long (lN la), .long (lN go), .long (lN sp)])), (qn, .inl (cI, 1200, .inl f)), (qk, .inl (cI, 1200, .inl g))] H := hP
          have hD : va_D A [(b, .inr (2, [.int (nI 1), .int (nI G), .int (nI R), .long (lN en), .long (lN nw), .int (nI ms.length), .ref qn, .ref qk, .int (nI mo), .long (lN la), .long (lN go), .long (lN sp)])), (qn, .inl (cI, 1200, .inl f)), (qk, .inl (cI, 1200, .inl g))] := hD
          refine lv_if_eq (tgt := 40) hx hb d_M_mark_35 (by decide) (fun c35 => ?_) (fun c35 => ?_)
          · have h_n := trivial
            exact absurd c35 (by decide)
          · have h_n := trivial
            refine ag_lconst hx hb 0 d_M_mark_38 (by decide) ?_
            exact ag_retl hx hb hr hlocks () trivial hP hK hD hS d_M_mark_39
        · have h_n := trivial
          refine ag_iconst hx hb 1 d_M_mark_27 (by decide) ?_
          refine lv_goto (tgt := 32) hx hb d_M_mark_28 (by decide) ?_
          have hPc := hP.sub (ws' := [(b, .inr (2, [.int (nI cd), .int (nI G), .int (nI R), .long (lN en), .long (lN nw), .int (nI ms.length), .ref qn, .ref qk, .int (nI mo), .long (lN la), .long (lN go), .long (lN sp)])), (qn, .inl (cI, 1200, .inl f)), (qk, .inl (cI, 1200, .inl g))]) [0, 1, 2] rfl
          have hDc := hD.sub (ws' := [(b, .inr (2, [.int (nI cd), .int (nI G), .int (nI R), .long (lN en), .long (lN nw), .int (nI ms.length), .ref qn, .ref qk, .int (nI mo), .long (lN la), .long (lN go), .long (lN sp)])), (qn, .inl (cI, 1200, .inl f)), (qk, .inl (cI, 1200, .inl g))]) [0, 1, 2] (by decide) rfl
          refine ag_cli (wc := [(b, .inr (2, [.int (nI cd), .int (nI G), .int (nI R), .long (lN en), .long (lN nw), .int (nI ms.length), .ref qn, .ref qk, .int (nI mo), .long (lN la), .long (lN go), .long (lN sp)])), (qn, .inl (cI, 1200, .inl f)), (qk, .inl (cI, 1200, .inl g))]) (wr := []) (Wf := fun _ : Unit => [(b, .inr (2, [.int (nI (if 1 = 1 then 1 else if 1 = 1 then 2 else 0)), .int (nI G), .int (nI R), .long (lN en), .long (lN nw), .int (nI ms.length), .ref qn, .ref qk, .int (nI mo), .long (lN la), .long (lN go), .long (lN sp)])), (qn, .inl (cI, 1200, .inl f)), (qk, .inl (cI, 1200, .inl g))]) hP hD hS hA [0, 1, 2] [] rfl rfl (by decide) (by decide) (va_runV (C := "AgedMarksModel") (As := [.int (nI 1), .int (nI 1)]) (rest := []) ⟨hx, hb, hml, hown, hts⟩ (c_M_fails l dC dI s.heap.size b qn qk cI cd G R en nw mo la go sp f g ms 1 1 (by decide) (by decide)) (ag_cwV 2 hts mw_m_M_54 mw_instanceMethod_M_fails mw_sel_M_fails mw_ini_M mw_code_M_fails rfl rfl (by decide +kernel) ⟨Nat.le_of_ble_eq_true rfl, Nat.le_of_ble_eq_true rfl⟩) ⟨ag_blind, va_recv hK hPc (ci := 2) (q0 := 0) rfl rfl, ag_pre hPc hK hDc⟩ rfl rfl hl.1 rfl (lv_room (Nat.le_of_ble_eq_true rfl)) d_M_mark_32 ⟨Nat.le_of_ble_eq_true rfl, Nat.le_of_ble_eq_true rfl⟩) (fun r6 u H locs hw hP hD hS => ?_)
          try dsimp only at hw
          subst hw
          have hP : va_P (dC, dI) agCl [(b, .inr (2, [.int (nI 1), .int (nI G), .int (nI R), .long (lN en), .long (lN nw), .int (nI ms.length), .ref qn, .ref qk, .int (nI mo), .long (lN la), .long (lN go), .long (lN sp)])), (qn, .inl (cI, 1200, .inl f)), (qk, .inl (cI, 1200, .inl g))] H := hP
          have hD : va_D A [(b, .inr (2, [.int (nI 1), .int (nI G), .int (nI R), .long (lN en), .long (lN nw), .int (nI ms.length), .ref qn, .ref qk, .int (nI mo), .long (lN la), .long (lN go), .long (lN sp)])), (qn, .inl (cI, 1200, .inl f)), (qk, .inl (cI, 1200, .inl g))] := hD
          refine lv_if_eq (tgt := 40) hx hb d_M_mark_35 (by decide) (fun c35 => ?_) (fun c35 => ?_)
          · have h_n := trivial
            exact absurd c35 (by decide)
          · have h_n := trivial
            refine ag_lconst hx hb 0 d_M_mark_38 (by decide) ?_
            exact ag_retl hx hb hr hlocks () trivial hP hK hD hS d_M_mark_39

set_option maxHeartbeats 4000000 in
set_option maxRecDepth 100000 in
/-- mark(k, y): y is none of 0 .. 2 -/
theorem c_M_mark_2 (l : Launch) (dC : Nat → ClassId) (dI : Nat → Nat → Nat) (sz : Nat) (b qn qk : Nat) (cI : ClassId) (cd G R en nw mo la go sp : Nat) (f g : Nat → Int32) (ms : ag_M) (k : Nat) (y : Int32) (hbd : ag_bd ms) (hk : k < ms.length) (hno : ¬ ∃ j, j ≤ 2 ∧ y = nI j) : Met l y_M_mark (Cond.code y_M_mark b_M_mark 3 (some .long) :: agW) ({ frames := 2, cells := 0, slots := 0, locals := 50 }) (va_Pc [.ref b, .int (nI k), .int y] (ag_at (dC, dI) agCl [(cI, .int)] sz [(b, .inr (2, [.int (nI cd), .int (nI G), .int (nI R), .long (lN en), .long (lN nw), .int (nI ms.length), .ref qn, .ref qk, .int (nI mo), .long (lN la), .long (lN go), .long (lN sp)])), (qn, .inl (cI, 1200, .inl f)), (qk, .inl (cI, 1200, .inl g))])) (va_Ql (fun (_ : Int64) (_ : Unit) => True) (ag_to (dC, dI) agCl [(cI, .int)] (va_A [(b, .inr (2, [.int (nI cd), .int (nI G), .int (nI R), .long (lN en), .long (lN nw), .int (nI ms.length), .ref qn, .ref qk, .int (nI mo), .long (lN la), .long (lN go), .long (lN sp)])), (qn, .inl (cI, 1200, .inl f)), (qk, .inl (cI, 1200, .inl g))] sz) (fun _ : Unit => [(b, .inr (2, [.int (nI 2), .int (nI G), .int (nI R), .long (lN en), .long (lN nw), .int (nI ms.length), .ref qn, .ref qk, .int (nI mo), .long (lN la), .long (lN go), .long (lN sp)])), (qn, .inl (cI, 1200, .inl f)), (qk, .inl (cI, 1200, .inl g))])) (va_A [(b, .inr (2, [.int (nI cd), .int (nI G), .int (nI R), .long (lN en), .long (lN nw), .int (nI ms.length), .ref qn, .ref qk, .int (nI mo), .long (lN la), .long (lN go), .long (lN sp)])), (qn, .inl (cI, 1200, .inl f)), (qk, .inl (cI, 1200, .inl g))] sz)) 0 0 (va_A [(b, .inr (2, [.int (nI cd), .int (nI G), .int (nI R), .long (lN en), .long (lN nw), .int (nI ms.length), .ref qn, .ref qk, .int (nI mo), .long (lN la), .long (lN go), .long (lN sp)])), (qn, .inl (cI, 1200, .inl f)), (qk, .inl (cI, 1200, .inl g))] sz) := by
  refine ag_ofW (Qf := fun A => va_Ql (fun (_ : Int64) (_ : Unit) => True) (ag_to (dC, dI) agCl [(cI, .int)] A (fun _ : Unit => [(b, .inr (2, [.int (nI 2), .int (nI G), .int (nI R), .long (lN en), .long (lN nw), .int (nI ms.length), .ref qn, .ref qk, .int (nI mo), .long (lN la), .long (lN go), .long (lN sp)])), (qn, .inl (cI, 1200, .inl f)), (qk, .inl (cI, 1200, .inl g))])) A) (cc := b_M_mark) (maxL := 3) (ret := (some .long)) (lv := [(0, .ref b), (1, .int (nI k)), (2, .int y)]) (by decide) rfl (Nat.le_of_ble_eq_true rfl) rfl (fun p e s m below meth c A ls hx hb hr hts hown hlocks hml hnm hA hS hP hK hD hl hsz => ?_)
  have hown : s.vm.findClass "AgedMarksModel" = some m.cls := hown
  have ht : ∀ w ∈ agW, w.before [.ref b, .int (nI k), .int y].toArray s = true := fun w h => hts w (List.mem_cons_of_mem _ h)
  have hlen := hbd.1
  refine lv_aload_n hx hb d_M_mark_0 rfl (lv_at hl 0 rfl) ?_
  refine lv_iload_n hx hb d_M_mark_1 rfl (lv_at hl 1 rfl) ?_
  refine ag_if_lt (tgt := 13) hx hb d_M_mark_2 (by decide) (by omega) ?_
  refine lv_iload_n hx hb d_M_mark_5 rfl (lv_at hl 1 rfl) ?_
  refine lv_aload_n hx hb d_M_mark_6 rfl (lv_at hl 0 rfl) ?_
  refine va_get (D := (dC, dI)) (ci := 2) (v := .int (nI ms.length)) (C := RX2) (T := TX2) (N := 12) hx hb ht inA2 hown hK hP 0 rfl rfl 5 (by decide) (ht _ mw_f_M_7) (fun _ h9 => h9) rfl d_M_mark_7 ?_
  refine ag_icmp_lt (tgt := 17) hx hb d_M_mark_10 (by decide) (by omega) (by omega) (fun c10 => ?_) (fun c10 => ?_)
  · have h_n := trivial
    refine ag_iconst hx hb 0 d_M_mark_17 (by decide) ?_
    refine lv_iload_n hx hb d_M_mark_18 rfl (lv_at hl 2 rfl) ?_
    refine lv_if_lt (tgt := 27) hx hb d_M_mark_19 (by decide) (fun c19 => ?_) (fun c19 => ?_)
    · have h_n := trivial
      refine ag_iconst hx hb 1 d_M_mark_27 (by decide) ?_
      refine lv_goto (tgt := 32) hx hb d_M_mark_28 (by decide) ?_
      have hPc := hP.sub (ws' := [(b, .inr (2, [.int (nI cd), .int (nI G), .int (nI R), .long (lN en), .long (lN nw), .int (nI ms.length), .ref qn, .ref qk, .int (nI mo), .long (lN la), .long (lN go), .long (lN sp)])), (qn, .inl (cI, 1200, .inl f)), (qk, .inl (cI, 1200, .inl g))]) [0, 1, 2] rfl
      have hDc := hD.sub (ws' := [(b, .inr (2, [.int (nI cd), .int (nI G), .int (nI R), .long (lN en), .long (lN nw), .int (nI ms.length), .ref qn, .ref qk, .int (nI mo), .long (lN la), .long (lN go), .long (lN sp)])), (qn, .inl (cI, 1200, .inl f)), (qk, .inl (cI, 1200, .inl g))]) [0, 1, 2] (by decide) rfl
      refine ag_cli (wc := [(b, .inr (2, [.int (nI cd), .int (nI G), .int (nI R), .long (lN en), .long (lN nw), .int (nI ms.length), .ref qn, .ref qk, .int (nI mo), .long (lN la), .long (lN go), .long (lN sp)])), (qn, .inl (cI, 1200, .inl f)), (qk, .inl (cI, 1200, .inl g))]) (wr := []) (Wf := fun _ : Unit => [(b, .inr (2, [.int (nI (if 0 = 1 then 1 else if 1 = 1 then 2 else 0)), .int (nI G), .int (nI R), .long (lN en), .long (lN nw), .int (nI ms.length), .ref qn, .ref qk, .int (nI mo), .long (lN la), .long (lN go), .long (lN sp)])), (qn, .inl (cI, 1200, .inl f)), (qk, .inl (cI, 1200, .inl g))]) hP hD hS hA [0, 1, 2] [] rfl rfl (by decide) (by decide) (va_runV (C := "AgedMarksModel") (As := [.int (nI 0), .int (nI 1)]) (rest := []) ⟨hx, hb, hml, hown, hts⟩ (c_M_fails l dC dI s.heap.size b qn qk cI cd G R en nw mo la go sp f g ms 0 1 (by decide) (by decide)) (ag_cwV 2 hts mw_m_M_54 mw_instanceMethod_M_fails mw_sel_M_fails mw_ini_M mw_code_M_fails rfl rfl (by decide +kernel) ⟨Nat.le_of_ble_eq_true rfl, Nat.le_of_ble_eq_true rfl⟩) ⟨ag_blind, va_recv hK hPc (ci := 2) (q0 := 0) rfl rfl, ag_pre hPc hK hDc⟩ rfl rfl hl.1 rfl (lv_room (Nat.le_of_ble_eq_true rfl)) d_M_mark_32 ⟨Nat.le_of_ble_eq_true rfl, Nat.le_of_ble_eq_true rfl⟩) (fun r1 u H locs hw hP hD hS => ?_)
      try dsimp only at hw
      subst hw
      have hP : va_P (dC, dI) agCl [(b, .inr (2, [.int (nI 2), .int (nI G), .int (nI R), .long (lN en), .long (lN nw), .int (nI ms.length), .ref qn, .ref qk, .int (nI mo), .long (lN la), .long (lN go), .long (lN sp)])), (qn, .inl (cI, 1200, .inl f)), (qk, .inl (cI, 1200, .inl g))] H := hP
      have hD : va_D A [(b, .inr (2, [.int (nI 2), .int (nI G), .int (nI R), .long (lN en), .long (lN nw), .int (nI ms.length), .ref qn, .ref qk, .int (nI mo), .long (lN la), .long (lN go), .long (lN sp)])), (qn, .inl (cI, 1200, .inl f)), (qk, .inl (cI, 1200, .inl g))] := hD
      refine lv_if_eq (tgt := 40) hx hb d_M_mark_35 (by decide) (fun c35 => ?_) (fun c35 => ?_)
      · have h_n := trivial
        exact absurd c35 (by decide)
      · have h_n := trivial
        refine ag_lconst hx hb 0 d_M_mark_38 (by decide) ?_
        exact ag_retl hx hb hr hlocks () trivial hP hK hD hS d_M_mark_39
    · have h_n := trivial
      obtain ⟨j, hj31, rfl⟩ := nI_of c19
      refine lv_iload_n hx hb d_M_mark_22 rfl (lv_at hl 2 rfl) ?_
      refine ag_iconst hx hb 2 d_M_mark_23 (by decide) ?_
      refine ag_icmp_le (tgt := 31) hx hb d_M_mark_24 (by decide) (by omega) (by omega) (fun c24 => ?_) (fun c24 => ?_)
      · have h_n := trivial
        exact absurd ⟨j, c24, rfl⟩ hno
      · have h_n := trivial
        refine ag_iconst hx hb 1 d_M_mark_27 (by decide) ?_
        refine lv_goto (tgt := 32) hx hb d_M_mark_28 (by decide) ?_
        have hPc := hP.sub (ws' := [(b, .inr (2, [.int (nI cd), .int (nI G), .int (nI R), .long (lN en), .long (lN nw), .int (nI ms.length), .ref qn, .ref qk, .int (nI mo), .long (lN la), .long (lN go), .long (lN sp)])), (qn, .inl (cI, 1200, .inl f)), (qk, .inl (cI, 1200, .inl g))]) [0, 1, 2] rfl
        have hDc := hD.sub (ws' := [(b, .inr (2, [.int (nI cd), .int (nI G), .int (nI R), .long (lN en), .long (lN nw), .int (nI ms.length), .ref qn, .ref qk, .int (nI mo), .long (lN la), .long (lN go), .long (lN sp)])), (qn, .inl (cI, 1200, .inl f)), (qk, .inl (cI, 1200, .inl g))]) [0, 1, 2] (by decide) rfl
        refine ag_cli (wc := [(b, .inr (2, [.int (nI cd), .int (nI G), .int (nI R), .long (lN en), .long (lN nw), .int (nI ms.length), .ref qn, .ref qk, .int (nI mo), .long (lN la), .long (lN go), .long (lN sp)])), (qn, .inl (cI, 1200, .inl f)), (qk, .inl (cI, 1200, .inl g))]) (wr := []) (Wf := fun _ : Unit => [(b, .inr (2, [.int (nI (if 0 = 1 then 1 else if 1 = 1 then 2 else 0)), .int (nI G), .int (nI R), .long (lN en), .long (lN nw), .int (nI ms.length), .ref qn, .ref qk, .int (nI mo), .long (lN la), .long (lN go), .long (lN sp)])), (qn, .inl (cI, 1200, .inl f)), (qk, .inl (cI, 1200, .inl g))]) hP hD hS hA [0, 1, 2] [] rfl rfl (by decide) (by decide) (va_runV (C := "AgedMarksModel") (As := [.int (nI 0), .int (nI 1)]) (rest := []) ⟨hx, hb, hml, hown, hts⟩ (c_M_fails l dC dI s.heap.size b qn qk cI cd G R en nw mo la go sp f g ms 0 1 (by decide) (by decide)) (ag_cwV 2 hts mw_m_M_54 mw_instanceMethod_M_fails mw_sel_M_fails mw_ini_M mw_code_M_fails rfl rfl (by decide +kernel) ⟨Nat.le_of_ble_eq_true rfl, Nat.le_of_ble_eq_true rfl⟩) ⟨ag_blind, va_recv hK hPc (ci := 2) (q0 := 0) rfl rfl, ag_pre hPc hK hDc⟩ rfl rfl hl.1 rfl (lv_room (Nat.le_of_ble_eq_true rfl)) d_M_mark_32 ⟨Nat.le_of_ble_eq_true rfl, Nat.le_of_ble_eq_true rfl⟩) (fun r2 u H locs hw hP hD hS => ?_)
        try dsimp only at hw
        subst hw
        have hP : va_P (dC, dI) agCl [(b, .inr (2, [.int (nI 2), .int (nI G), .int (nI R), .long (lN en), .long (lN nw), .int (nI ms.length), .ref qn, .ref qk, .int (nI mo), .long (lN la), .long (lN go), .long (lN sp)])), (qn, .inl (cI, 1200, .inl f)), (qk, .inl (cI, 1200, .inl g))] H := hP
        have hD : va_D A [(b, .inr (2, [.int (nI 2), .int (nI G), .int (nI R), .long (lN en), .long (lN nw), .int (nI ms.length), .ref qn, .ref qk, .int (nI mo), .long (lN la), .long (lN go), .long (lN sp)])), (qn, .inl (cI, 1200, .inl f)), (qk, .inl (cI, 1200, .inl g))] := hD
        refine lv_if_eq (tgt := 40) hx hb d_M_mark_35 (by decide) (fun c35 => ?_) (fun c35 => ?_)
        · have h_n := trivial
          exact absurd c35 (by decide)
        · have h_n := trivial
          refine ag_lconst hx hb 0 d_M_mark_38 (by decide) ?_
          exact ag_retl hx hb hr hlocks () trivial hP hK hD hS d_M_mark_39
  · have h_n := trivial
    exact absurd hk (by omega)

set_option maxHeartbeats 4000000 in
set_option maxRecDepth 100000 in
/-- mark(k, j) -/
theorem c_M_mark_0 (l : Launch) (dC : Nat → ClassId) (dI : Nat → Nat → Nat) (sz : Nat) (b qn qk : Nat) (cI : ClassId) (cd G R en nw mo la go sp : Nat) (f g : Nat → Int32) (ms : ag_M) (k j : Nat) (hG2 : G ≤ 1000) (hbd : ag_bd ms) (hso : ms.Pairwise (fun x y => x.1 < y.1)) (hk : k < ms.length) (hj : j ≤ 2) (hrep : ag_rpm ms f g) : Met l y_M_mark (Cond.code y_M_mark b_M_mark 3 (some .long) :: agW) ({ frames := 2, cells := 0, slots := 0, locals := 50 }) (va_Pc [.ref b, .int (nI k), .int (nI j)] (ag_at (dC, dI) agCl [(cI, .int)] sz [(b, .inr (2, [.int (nI cd), .int (nI G), .int (nI R), .long (lN en), .long (lN nw), .int (nI ms.length), .ref qn, .ref qk, .int (nI mo), .long (lN la), .long (lN go), .long (lN sp)])), (qn, .inl (cI, 1200, .inl f)), (qk, .inl (cI, 1200, .inl g))])) (va_Ql (fun (r : Int64) (_ : Unit) => r = ag_mark G ms k j) (ag_to (dC, dI) agCl [(cI, .int)] (va_A [(b, .inr (2, [.int (nI cd), .int (nI G), .int (nI R), .long (lN en), .long (lN nw), .int (nI ms.length), .ref qn, .ref qk, .int (nI mo), .long (lN la), .long (lN go), .long (lN sp)])), (qn, .inl (cI, 1200, .inl f)), (qk, .inl (cI, 1200, .inl g))] sz) (fun _ : Unit => [(b, .inr (2, [.int (nI 0), .int (nI G), .int (nI R), .long (lN en), .long (lN nw), .int (nI ms.length), .ref qn, .ref qk, .int (nI mo), .long (lN la), .long (lN go), .long (lN sp)])), (qn, .inl (cI, 1200, .inl f)), (qk, .inl (cI, 1200, .inl g))])) (va_A [(b, .inr (2, [.int (nI cd), .int (nI G), .int (nI R), .long (lN en), .long (lN nw), .int (nI ms.length), .ref qn, .ref qk, .int (nI mo), .long (lN la), .long (lN go), .long (lN sp)])), (qn, .inl (cI, 1200, .inl f)), (qk, .inl (cI, 1200, .inl g))] sz)) 0 0 (va_A [(b, .inr (2, [.int (nI cd), .int (nI G), .int (nI R), .long (lN en), .long (lN nw), .int (nI ms.length), .ref qn, .ref qk, .int (nI mo), .long (lN la), .long (lN go), .long (lN sp)])), (qn, .inl (cI, 1200, .inl f)), (qk, .inl (cI, 1200, .inl g))] sz) := by
  refine ag_ofW (Qf := fun A => va_Ql (fun (r : Int64) (_ : Unit) => r = ag_mark G ms k j) (ag_to (dC, dI) agCl [(cI, .int)] A (fun _ : Unit => [(b, .inr (2, [.int (nI 0), .int (nI G), .int (nI R), .long (lN en), .long (lN nw), .int (nI ms.length), .ref qn, .ref qk, .int (nI mo), .long (lN la), .long (lN go), .long (lN sp)])), (qn, .inl (cI, 1200, .inl f)), (qk, .inl (cI, 1200, .inl g))])) A) (cc := b_M_mark) (maxL := 3) (ret := (some .long)) (lv := [(0, .ref b), (1, .int (nI k)), (2, .int (nI j))]) (by decide) rfl (Nat.le_of_ble_eq_true rfl) rfl (fun p e s m below meth c A ls hx hb hr hts hown hlocks hml hnm hA hS hP hK hD hl hsz => ?_)
  have hown : s.vm.findClass "AgedMarksModel" = some m.cls := hown
  have ht : ∀ w ∈ agW, w.before [.ref b, .int (nI k), .int (nI j)].toArray s = true := fun w h => hts w (List.mem_cons_of_mem _ h)
  have hlen := hbd.1
  have hb1 := hbd.2 _ (List.getElem_mem hk)
  have hk9 : ms.length - 1 < ms.length := by omega
  have hb2 := hbd.2 _ (List.getElem_mem hk9)
  have hle9 : (ms[k]).1 ≤ (ms[ms.length - 1]).1 := by
    rcases Nat.lt_or_ge k (ms.length - 1) with q | q
    · exact Nat.le_of_lt (List.pairwise_iff_getElem.mp hso k (ms.length - 1) hk hk9 q)
    · have e9 : k = ms.length - 1 := by omega
      subst e9
      exact Nat.le_refl _
  refine lv_aload_n hx hb d_M_mark_0 rfl (lv_at hl 0 rfl) ?_
  refine lv_iload_n hx hb d_M_mark_1 rfl (lv_at hl 1 rfl) ?_
  refine ag_if_lt (tgt := 13) hx hb d_M_mark_2 (by decide) (by omega) ?_
  refine lv_iload_n hx hb d_M_mark_5 rfl (lv_at hl 1 rfl) ?_
  refine lv_aload_n hx hb d_M_mark_6 rfl (lv_at hl 0 rfl) ?_
  refine va_get (D := (dC, dI)) (ci := 2) (v := .int (nI ms.length)) (C := RX2) (T := TX2) (N := 12) hx hb ht inA2 hown hK hP 0 rfl rfl 5 (by decide) (ht _ mw_f_M_7) (fun _ h9 => h9) rfl d_M_mark_7 ?_
  refine ag_icmp_lt (tgt := 17) hx hb d_M_mark_10 (by decide) (by omega) (by omega) (fun c10 => ?_) (fun c10 => ?_)
  · have h_n := trivial
    refine ag_iconst hx hb 0 d_M_mark_17 (by decide) ?_
    refine lv_iload_n hx hb d_M_mark_18 rfl (lv_at hl 2 rfl) ?_
    refine ag_if_lt (tgt := 27) hx hb d_M_mark_19 (by decide) (by omega) ?_
    refine lv_iload_n hx hb d_M_mark_22 rfl (lv_at hl 2 rfl) ?_
    refine ag_iconst hx hb 2 d_M_mark_23 (by decide) ?_
    refine ag_icmp_le (tgt := 31) hx hb d_M_mark_24 (by decide) (by omega) (by omega) (fun c24 => ?_) (fun c24 => ?_)
    · have h_n := trivial
      refine ag_iconst hx hb 0 d_M_mark_31 (by decide) ?_
      have hPc := hP.sub (ws' := [(b, .inr (2, [.int (nI cd), .int (nI G), .int (nI R), .long (lN en), .long (lN nw), .int (nI ms.length), .ref qn, .ref qk, .int (nI mo), .long (lN la), .long (lN go), .long (lN sp)])), (qn, .inl (cI, 1200, .inl f)), (qk, .inl (cI, 1200, .inl g))]) [0, 1, 2] rfl
      have hDc := hD.sub (ws' := [(b, .inr (2, [.int (nI cd), .int (nI G), .int (nI R), .long (lN en), .long (lN nw), .int (nI ms.length), .ref qn, .ref qk, .int (nI mo), .long (lN la), .long (lN go), .long (lN sp)])), (qn, .inl (cI, 1200, .inl f)), (qk, .inl (cI, 1200, .inl g))]) [0, 1, 2] (by decide) rfl
      refine ag_cli (wc := [(b, .inr (2, [.int (nI cd), .int (nI G), .int (nI R), .long (lN en), .long (lN nw), .int (nI ms.length), .ref qn, .ref qk, .int (nI mo), .long (lN la), .long (lN go), .long (lN sp)])), (qn, .inl (cI, 1200, .inl f)), (qk, .inl (cI, 1200, .inl g))]) (wr := []) (Wf := fun _ : Unit => [(b, .inr (2, [.int (nI (if 0 = 1 then 1 else if 0 = 1 then 2 else 0)), .int (nI G), .int (nI R), .long (lN en), .long (lN nw), .int (nI ms.length), .ref qn, .ref qk, .int (nI mo), .long (lN la), .long (lN go), .long (lN sp)])), (qn, .inl (cI, 1200, .inl f)), (qk, .inl (cI, 1200, .inl g))]) hP hD hS hA [0, 1, 2] [] rfl rfl (by decide) (by decide) (va_runV (C := "AgedMarksModel") (As := [.int (nI 0), .int (nI 0)]) (rest := []) ⟨hx, hb, hml, hown, hts⟩ (c_M_fails l dC dI s.heap.size b qn qk cI cd G R en nw mo la go sp f g ms 0 0 (by decide) (by decide)) (ag_cwV 2 hts mw_m_M_54 mw_instanceMethod_M_fails mw_sel_M_fails mw_ini_M mw_code_M_fails rfl rfl (by decide +kernel) ⟨Nat.le_of_ble_eq_true rfl, Nat.le_of_ble_eq_true rfl⟩) ⟨ag_blind, va_recv hK hPc (ci := 2) (q0 := 0) rfl rfl, ag_pre hPc hK hDc⟩ rfl rfl hl.1 rfl (lv_room (Nat.le_of_ble_eq_true rfl)) d_M_mark_32 ⟨Nat.le_of_ble_eq_true rfl, Nat.le_of_ble_eq_true rfl⟩) (fun r1 u H locs hw hP hD hS => ?_)
      try dsimp only at hw
      subst hw
      have hP : va_P (dC, dI) agCl [(b, .inr (2, [.int (nI 0), .int (nI G), .int (nI R), .long (lN en), .long (lN nw), .int (nI ms.length), .ref qn, .ref qk, .int (nI mo), .long (lN la), .long (lN go), .long (lN sp)])), (qn, .inl (cI, 1200, .inl f)), (qk, .inl (cI, 1200, .inl g))] H := hP
      have hD : va_D A [(b, .inr (2, [.int (nI 0), .int (nI G), .int (nI R), .long (lN en), .long (lN nw), .int (nI ms.length), .ref qn, .ref qk, .int (nI mo), .long (lN la), .long (lN go), .long (lN sp)])), (qn, .inl (cI, 1200, .inl f)), (qk, .inl (cI, 1200, .inl g))] := hD
      refine lv_if_eq (tgt := 40) hx hb d_M_mark_35 (by decide) (fun c35 => ?_) (fun c35 => ?_)
      · have h_n := trivial
        rcases (show j = 0 ∨ j = 1 ∨ j = 2 by omega) with rfl | rfl | rfl
        · have h_n := trivial
          refine lv_iload_n hx hb d_M_mark_40 rfl (lv_at hl 2 rfl) ?_
          refine lv_if_ne (tgt := 60) hx hb d_M_mark_41 (by decide) (fun c41 => ?_) (fun c41 => ?_)
          · have h_n := trivial
            exact absurd (by decide) c41
          · have h_n := trivial
            refine lv_aload_n hx hb d_M_mark_44 rfl (lv_at hl 0 rfl) ?_
            refine va_get (D := (dC, dI)) (ci := 2) (v := .ref qn) (C := RX2) (T := TX2) (N := 12) hx hb ht inA2 hown hK hP 0 rfl rfl 6 (by decide) (ht _ mw_f_M_13) (fun _ h9 => h9) rfl d_M_mark_45 ?_
            refine lv_iload_n hx hb d_M_mark_48 rfl (lv_at hl 1 rfl) ?_
            refine ag_iald hx hb hK hP 1 0 rfl rfl (by omega) (by decide) d_M_mark_49 ?_
            refine ag_topi (nI ((ms[k]).1)) ((hrep k hk).1) ?_
            refine lv_i2l (v := lN ((ms[k]).1)) hx hb d_M_mark_50 (nI_l (by omega)) ?_
            refine lv_aload_n hx hb d_M_mark_51 rfl (lv_at hl 0 rfl) ?_
            refine va_get (D := (dC, dI)) (ci := 2) (v := .int (nI G)) (C := RX2) (T := TX2) (N := 12) hx hb ht inA2 hown hK hP 0 rfl rfl 1 (by decide) (ht _ mw_f_M_23) (fun _ h9 => h9) rfl d_M_mark_52 ?_
            refine lv_i2l (v := lN G) hx hb d_M_mark_55 (nI_l (by omega)) ?_
            refine lv_lmul hx hb d_M_mark_56 ?_
            refine ag_topl (lN (((ms[k]).1) * G)) (lN_mul _ _) ?_
            refine lv_goto (tgt := 94) hx hb d_M_mark_57 (by decide) ?_
            exact ag_retl hx hb hr hlocks () (by rw [ag_mark, ag_num_eq hk]; rfl) hP hK hD hS d_M_mark_94
        · have h_n := trivial
          refine lv_iload_n hx hb d_M_mark_40 rfl (lv_at hl 2 rfl) ?_
          refine lv_if_ne (tgt := 60) hx hb d_M_mark_41 (by decide) (fun c41 => ?_) (fun c41 => ?_)
          · have h_n := trivial
            refine lv_iload_n hx hb d_M_mark_60 rfl (lv_at hl 2 rfl) ?_
            refine ag_iconst hx hb 1 d_M_mark_61 (by decide) ?_
            refine ag_icmp_ne (tgt := 75) hx hb d_M_mark_62 (by decide) (by omega) (by omega) (fun c62 => ?_) (fun c62 => ?_)
            · have h_n := trivial
              exact absurd rfl c62
            · have h_n := trivial
              refine lv_aload_n hx hb d_M_mark_65 rfl (lv_at hl 0 rfl) ?_
              refine va_get (D := (dC, dI)) (ci := 2) (v := .ref qk) (C := RX2) (T := TX2) (N := 12) hx hb ht inA2 hown hK hP 0 rfl rfl 7 (by decide) (ht _ mw_f_M_17) (fun _ h9 => h9) rfl d_M_mark_66 ?_
              refine lv_iload_n hx hb d_M_mark_69 rfl (lv_at hl 1 rfl) ?_
              refine ag_iald hx hb hK hP 2 0 rfl rfl (by omega) (by decide) d_M_mark_70 ?_
              refine ag_topi (nI ((ms[k]).2)) ((hrep k hk).2) ?_
              refine lv_i2l (v := lN ((ms[k]).2)) hx hb d_M_mark_71 (nI_l (by omega)) ?_
              refine lv_goto (tgt := 94) hx hb d_M_mark_72 (by decide) ?_
              exact ag_retl hx hb hr hlocks () (by rw [ag_mark, ag_slo_eq hk]; rfl) hP hK hD hS d_M_mark_94
          · have h_n := trivial
            exact absurd c41 (by decide)
        · have h_n := trivial
          refine lv_iload_n hx hb d_M_mark_40 rfl (lv_at hl 2 rfl) ?_
          refine lv_if_ne (tgt := 60) hx hb d_M_mark_41 (by decide) (fun c41 => ?_) (fun c41 => ?_)
          · have h_n := trivial
            refine lv_iload_n hx hb d_M_mark_60 rfl (lv_at hl 2 rfl) ?_
            refine ag_iconst hx hb 1 d_M_mark_61 (by decide) ?_
            refine ag_icmp_ne (tgt := 75) hx hb d_M_mark_62 (by decide) (by omega) (by omega) (fun c62 => ?_) (fun c62 => ?_)
            · have h_n := trivial
              refine lv_aload_n hx hb d_M_mark_75 rfl (lv_at hl 0 rfl) ?_
              refine va_get (D := (dC, dI)) (ci := 2) (v := .ref qn) (C := RX2) (T := TX2) (N := 12) hx hb ht inA2 hown hK hP 0 rfl rfl 6 (by decide) (ht _ mw_f_M_13) (fun _ h9 => h9) rfl d_M_mark_76 ?_
              refine lv_aload_n hx hb d_M_mark_79 rfl (lv_at hl 0 rfl) ?_
              refine va_get (D := (dC, dI)) (ci := 2) (v := .int (nI ms.length)) (C := RX2) (T := TX2) (N := 12) hx hb ht inA2 hown hK hP 0 rfl rfl 5 (by decide) (ht _ mw_f_M_7) (fun _ h9 => h9) rfl d_M_mark_80 ?_
              refine ag_iconst hx hb 1 d_M_mark_83 (by decide) ?_
              refine lv_isub hx hb d_M_mark_84 ?_
              refine ag_topi (nI (ms.length - 1)) (pk_sub (by omega)) ?_
              refine ag_iald hx hb hK hP 1 0 rfl rfl (by omega) (by decide) d_M_mark_85 ?_
              refine ag_topi (nI ((ms[ms.length - 1]).1)) ((hrep _ hk9).1) ?_
              refine lv_aload_n hx hb d_M_mark_86 rfl (lv_at hl 0 rfl) ?_
              refine va_get (D := (dC, dI)) (ci := 2) (v := .ref qn) (C := RX2) (T := TX2) (N := 12) hx hb ht inA2 hown hK hP 0 rfl rfl 6 (by decide) (ht _ mw_f_M_13) (fun _ h9 => h9) rfl d_M_mark_87 ?_
              refine lv_iload_n hx hb d_M_mark_90 rfl (lv_at hl 1 rfl) ?_
              refine ag_iald hx hb hK hP 1 0 rfl rfl (by omega) (by decide) d_M_mark_91 ?_
              refine ag_topi (nI ((ms[k]).1)) ((hrep k hk).1) ?_
              refine lv_isub hx hb d_M_mark_92 ?_
              refine ag_topi (nI (((ms[ms.length - 1]).1) - ((ms[k]).1))) (pk_sub (by omega)) ?_
              refine lv_i2l (v := lN (((ms[ms.length - 1]).1) - ((ms[k]).1))) hx hb d_M_mark_93 (nI_l (by omega)) ?_
              exact ag_retl hx hb hr hlocks () (by rw [ag_mark, ag_num_eq hk, ag_num_eq hk9]; rfl) hP hK hD hS d_M_mark_94
            · have h_n := trivial
              exact absurd c62 (by decide)
          · have h_n := trivial
            exact absurd c41 (by decide)
      · have h_n := trivial
        exact absurd (by decide) c35
    · have h_n := trivial
      exact absurd hj (by omega)
  · have h_n := trivial
    exact absurd hk (by omega)
end
section
set_option maxHeartbeats 4000000 in
set_option maxRecDepth 100000 in
/-- stays(i, n) -/
theorem c_M_stays (l : Launch) (dC : Nat → ClassId) (dI : Nat → Nat → Nat) (sz : Nat) (b qn qk : Nat) (cI : ClassId) (cd G R en nw mo la go sp : Nat) (f g : Nat → Int32) (ms : ag_M) (i n : Nat) (hR2 : 2 ≤ R) (hR16 : R ≤ 16) (hi : i ≤ n) (hn : n ≤ 1000000) : Met l y_M_stays (Cond.code y_M_stays b_M_stays 4 (some .boolean) :: agW) ({ frames := 0, cells := 0, slots := 0, locals := 0 }) (va_Pc [.ref b, .int (nI i), .int (nI n)] (ag_at (dC, dI) agCl [(cI, .int)] sz [(b, .inr (2, [.int (nI cd), .int (nI G), .int (nI R), .long (lN en), .long (lN nw), .int (nI ms.length), .ref qn, .ref qk, .int (nI mo), .long (lN la), .long (lN go), .long (lN sp)])), (qn, .inl (cI, 1200, .inl f)), (qk, .inl (cI, 1200, .inl g))])) (va_Qi (fun (r : Int32) (_ : Unit) => (ag_keep R n i ∧ r = nI 1) ∨ (¬ ag_keep R n i ∧ r = nI 0)) (ag_to (dC, dI) agCl [(cI, .int)] (va_A [(b, .inr (2, [.int (nI cd), .int (nI G), .int (nI R), .long (lN en), .long (lN nw), .int (nI ms.length), .ref qn, .ref qk, .int (nI mo), .long (lN la), .long (lN go), .long (lN sp)])), (qn, .inl (cI, 1200, .inl f)), (qk, .inl (cI, 1200, .inl g))] sz) (fun _ : Unit => [(b, .inr (2, [.int (nI cd), .int (nI G), .int (nI R), .long (lN en), .long (lN nw), .int (nI ms.length), .ref qn, .ref qk, .int (nI mo), .long (lN la), .long (lN go), .long (lN sp)])), (qn, .inl (cI, 1200, .inl f)), (qk, .inl (cI, 1200, .inl g))])) (va_A [(b, .inr (2, [.int (nI cd), .int (nI G), .int (nI R), .long (lN en), .long (lN nw), .int (nI ms.length), .ref qn, .ref qk, .int (nI mo), .long (lN la), .long (lN go), .long (lN sp)])), (qn, .inl (cI, 1200, .inl f)), (qk, .inl (cI, 1200, .inl g))] sz)) 0 0 (va_A [(b, .inr (2, [.int (nI cd), .int (nI G), .int (nI R), .long (lN en), .long (lN nw), .int (nI ms.length), .ref qn, .ref qk, .int (nI mo), .long (lN la), .long (lN go), .long (lN sp)])), (qn, .inl (cI, 1200, .inl f)), (qk, .inl (cI, 1200, .inl g))] sz) := by
  refine ag_ofW (Qf := fun A => va_Qi (fun (r : Int32) (_ : Unit) => (ag_keep R n i ∧ r = nI 1) ∨ (¬ ag_keep R n i ∧ r = nI 0)) (ag_to (dC, dI) agCl [(cI, .int)] A (fun _ : Unit => [(b, .inr (2, [.int (nI cd), .int (nI G), .int (nI R), .long (lN en), .long (lN nw), .int (nI ms.length), .ref qn, .ref qk, .int (nI mo), .long (lN la), .long (lN go), .long (lN sp)])), (qn, .inl (cI, 1200, .inl f)), (qk, .inl (cI, 1200, .inl g))])) A) (cc := b_M_stays) (maxL := 4) (ret := (some .boolean)) (lv := [(0, .ref b), (1, .int (nI i)), (2, .int (nI n))]) (by decide) rfl (Nat.le_of_ble_eq_true rfl) rfl (fun p e s m below meth c A ls hx hb hr hts hown hlocks hml hnm hA hS hP hK hD hl hsz => ?_)
  have hown : s.vm.findClass "AgedMarksModel" = some m.cls := hown
  have ht : ∀ w ∈ agW, w.before [.ref b, .int (nI i), .int (nI n)].toArray s = true := fun w h => hts w (List.mem_cons_of_mem _ h)
  refine ag_iconst hx hb 1 d_M_stays_0 (by decide) ?_
  refine lv_istore_n (lv' := [(3, .int (nI 1)), (0, .ref b), (1, .int (nI i)), (2, .int (nI n))]) hx hb d_M_stays_1 rfl hl (by decide) rfl (fun ls hl => ?_)
  have loop : ∀ (q t : Nat), n + 1 < 2 ^ t + q → (t = 0 ∨ R * 2 ^ t ≤ n - i) → ∀ ls : Array Slot, lv_has ls 4 [(3, .int (nI (2 ^ t))), (0, .ref b), (1, .int (nI i)), (2, .int (nI n))] → W p l e { frames := 0, cells := 0, slots := 0, locals := 0 } s m [.ref b, .int (nI i), .int (nI n)].toArray below meth c s.heap [] 0 0 (MQ below (va_Qi (fun (r : Int32) (_ : Unit) => (ag_keep R n i ∧ r = nI 1) ∨ (¬ ag_keep R n i ∧ r = nI 0)) (ag_to (dC, dI) agCl [(cI, .int)] A (fun _ : Unit => [(b, .inr (2, [.int (nI cd), .int (nI G), .int (nI R), .long (lN en), .long (lN nw), .int (nI ms.length), .ref qn, .ref qk, .int (nI mo), .long (lN la), .long (lN go), .long (lN sp)])), (qn, .inl (cI, 1200, .inl f)), (qk, .inl (cI, 1200, .inl g))])) A) [.ref b, .int (nI i), .int (nI n)].toArray s 0 0 A) (F0 m 2 ls []) := by
    intro q
    induction q with
    | zero =>
      intro t h1 h2
      rcases h2 with rfl | h2
      · simp at h1
      · have h3 := Nat.mul_le_mul_right (2 ^ t) hR2
        omega
    | succ q ih =>
      intro t h1 h2 ls hl
      have hp := Nat.two_pow_pos t
      have htn : 2 ^ t ≤ 1000000 := by
        rcases h2 with rfl | h2
        · decide
        · have h3 := Nat.mul_le_mul_right (2 ^ t) hR2
          omega
      have hRt : R * 2 ^ t ≤ 16 * 2 ^ t := Nat.mul_le_mul_right _ hR16
      refine lv_aload_n hx hb d_M_stays_2 rfl (lv_at hl 1 rfl) ?_
      refine va_get (D := (dC, dI)) (ci := 2) (v := .int (nI R)) (C := RX2) (T := TX2) (N := 12) hx hb ht inA2 hown hK hP 0 rfl rfl 2 (by decide) (ht _ mw_f_M_26) (fun _ h9 => h9) rfl d_M_stays_3 ?_
      refine lv_i2l (v := lN R) hx hb d_M_stays_6 (nI_l (by omega)) ?_
      refine lv_iload_n hx hb d_M_stays_7 rfl (lv_at hl 0 rfl) ?_
      refine lv_i2l (v := lN (2 ^ t)) hx hb d_M_stays_8 (nI_l (by omega)) ?_
      refine lv_lmul hx hb d_M_stays_9 ?_
      refine ag_topl (lN (R * (2 ^ t))) (lN_mul _ _) ?_
      refine lv_ldc2 (v := lN 2) hx hb hown (ht _ mw_k_M_32) d_M_stays_10 ?_
      refine lv_lmul hx hb d_M_stays_13 ?_
      refine ag_topl (lN ((R * (2 ^ t)) * 2)) (lN_mul _ _) ?_
      refine lv_iload_n hx hb d_M_stays_14 rfl (lv_at hl 3 rfl) ?_
      refine lv_iload_n hx hb d_M_stays_15 rfl (lv_at hl 2 rfl) ?_
      refine lv_isub hx hb d_M_stays_16 ?_
      refine ag_topi (nI (n - i)) (pk_sub (by omega)) ?_
      refine lv_i2l (v := lN (n - i)) hx hb d_M_stays_17 (nI_l (by omega)) ?_
      refine ag_lc_gt (tgt := 29) hx hb d_M_stays_18 d_M_stays_19 (by decide) (fun c18 => ?_) (fun c18 => ?_)
      · have h_n := trivial
        have hgt9 : n - i < R * 2 ^ t * 2 := (pk_lLT (a := n - i) (b := R * 2 ^ t * 2) (by omega) (by omega)).mp c18
        have hiff : ag_keep R n i ↔ i % 2 ^ t = 0 := by
          constructor
          · intro h
            rcases h2 with rfl | h2
            · simp [Nat.mod_one]
            · exact Nat.mod_eq_zero_of_dvd (h t h2)
          · intro h j hj
            refine Nat.dvd_trans (Nat.pow_dvd_pow 2 ?_) (Nat.dvd_of_mod_eq_zero h)
            rcases Nat.lt_or_ge t j with z | z
            · have h3 := Nat.mul_le_mul_left R (Nat.pow_le_pow_right (n := 2) (by decide) (show t + 1 ≤ j by omega))
              rw [Nat.pow_succ, ← Nat.mul_assoc] at h3
              omega
            · exact z
        have hmod : i % 2 ^ t < 2 ^ t := Nat.mod_lt _ hp
        refine lv_iload_n hx hb d_M_stays_29 rfl (lv_at hl 2 rfl) ?_
        refine lv_iload_n hx hb d_M_stays_30 rfl (lv_at hl 0 rfl) ?_
        refine lv_irem hx hb d_M_stays_31 (nI_ne0 (by omega) (by omega)) ?_
        refine ag_topi (nI (i % 2 ^ t)) (pk_rem (by omega) (by omega) (by omega)) ?_
        refine lv_if_ne (tgt := 39) hx hb d_M_stays_32 (by decide) (fun c32 => ?_) (fun c32 => ?_)
        · have h_n := trivial
          refine ag_iconst hx hb 0 d_M_stays_39 (by decide) ?_
          exact ag_retz hx hb hr (by decide) hlocks () (Or.inr ⟨fun h => c32 (by rw [hiff.mp h]; rfl), rfl⟩) hP hK hD hS d_M_stays_40
        · have h_n := trivial
          refine ag_iconst hx hb 1 d_M_stays_35 (by decide) ?_
          refine lv_goto (tgt := 40) hx hb d_M_stays_36 (by decide) ?_
          exact ag_retz hx hb hr (by decide) hlocks () (Or.inl ⟨hiff.mpr ((nI_eq (a := i % 2 ^ t) (b := 0) (by omega) (by omega)).mp c32), rfl⟩) hP hK hD hS d_M_stays_40
      · have h_n := trivial
        have hle9 : R * 2 ^ t * 2 ≤ n - i := by have h9 := mt (pk_lLT (a := n - i) (b := R * 2 ^ t * 2) (by omega) (by omega)).mpr c18; omega
        refine lv_iload_n hx hb d_M_stays_22 rfl (lv_at hl 0 rfl) ?_
        refine ag_iconst hx hb 2 d_M_stays_23 (by decide) ?_
        refine lv_imul hx hb d_M_stays_24 ?_
        refine ag_topi (nI (2 ^ (t + 1))) (by rw [pk_mul, Nat.pow_succ]) ?_
        refine lv_istore_n (lv' := [(3, .int (nI (2 ^ (t + 1)))), (0, .ref b), (1, .int (nI i)), (2, .int (nI n))]) hx hb d_M_stays_25 rfl hl (by decide) rfl (fun ls hl => ?_)
        refine lv_goto (tgt := 2) hx hb d_M_stays_26 (by decide) ?_
        refine ih (t + 1) (by rw [Nat.pow_succ]; omega) (Or.inr (by rw [Nat.pow_succ, ← Nat.mul_assoc]; exact hle9)) ls hl
  exact loop (n + 1) 0 (by simp) (Or.inl rfl) ls hl

set_option maxHeartbeats 4000000 in
set_option maxRecDepth 100000 in
/-- freeSlot() -/
theorem c_M_freeSlot (l : Launch) (dC : Nat → ClassId) (dI : Nat → Nat → Nat) (sz : Nat) (b qn qk : Nat) (cI : ClassId) (cd G R en nw mo la go sp : Nat) (f g : Nat → Int32) (ms : ag_M) (hbd : ag_bd ms) (hrep : ag_rpm ms f g) : Met l y_M_freeSlot (Cond.code y_M_freeSlot b_M_freeSlot 4 (some .int) :: agW) ({ frames := 0, cells := 0, slots := 0, locals := 0 }) (va_Pc [.ref b] (ag_at (dC, dI) agCl [(cI, .int)] sz [(b, .inr (2, [.int (nI cd), .int (nI G), .int (nI R), .long (lN en), .long (lN nw), .int (nI ms.length), .ref qn, .ref qk, .int (nI mo), .long (lN la), .long (lN go), .long (lN sp)])), (qn, .inl (cI, 1200, .inl f)), (qk, .inl (cI, 1200, .inl g))])) (va_Qi (fun (r : Int32) (_ : Unit) => r = nI (ag_slot ms)) (ag_to (dC, dI) agCl [(cI, .int)] (va_A [(b, .inr (2, [.int (nI cd), .int (nI G), .int (nI R), .long (lN en), .long (lN nw), .int (nI ms.length), .ref qn, .ref qk, .int (nI mo), .long (lN la), .long (lN go), .long (lN sp)])), (qn, .inl (cI, 1200, .inl f)), (qk, .inl (cI, 1200, .inl g))] sz) (fun _ : Unit => [(b, .inr (2, [.int (nI cd), .int (nI G), .int (nI R), .long (lN en), .long (lN nw), .int (nI ms.length), .ref qn, .ref qk, .int (nI mo), .long (lN la), .long (lN go), .long (lN sp)])), (qn, .inl (cI, 1200, .inl f)), (qk, .inl (cI, 1200, .inl g))])) (va_A [(b, .inr (2, [.int (nI cd), .int (nI G), .int (nI R), .long (lN en), .long (lN nw), .int (nI ms.length), .ref qn, .ref qk, .int (nI mo), .long (lN la), .long (lN go), .long (lN sp)])), (qn, .inl (cI, 1200, .inl f)), (qk, .inl (cI, 1200, .inl g))] sz)) 0 0 (va_A [(b, .inr (2, [.int (nI cd), .int (nI G), .int (nI R), .long (lN en), .long (lN nw), .int (nI ms.length), .ref qn, .ref qk, .int (nI mo), .long (lN la), .long (lN go), .long (lN sp)])), (qn, .inl (cI, 1200, .inl f)), (qk, .inl (cI, 1200, .inl g))] sz) := by
  refine ag_ofW (Qf := fun A => va_Qi (fun (r : Int32) (_ : Unit) => r = nI (ag_slot ms)) (ag_to (dC, dI) agCl [(cI, .int)] A (fun _ : Unit => [(b, .inr (2, [.int (nI cd), .int (nI G), .int (nI R), .long (lN en), .long (lN nw), .int (nI ms.length), .ref qn, .ref qk, .int (nI mo), .long (lN la), .long (lN go), .long (lN sp)])), (qn, .inl (cI, 1200, .inl f)), (qk, .inl (cI, 1200, .inl g))])) A) (cc := b_M_freeSlot) (maxL := 4) (ret := (some .int)) (lv := [(0, .ref b)]) (by decide) rfl (Nat.le_of_ble_eq_true rfl) rfl (fun p e s m below meth c A ls hx hb hr hts hown hlocks hml hnm hA hS hP hK hD hl hsz => ?_)
  have hown : s.vm.findClass "AgedMarksModel" = some m.cls := hown
  have ht : ∀ w ∈ agW, w.before [.ref b].toArray s = true := fun w h => hts w (List.mem_cons_of_mem _ h)
  have hlen := hbd.1
  have hsl := ag_slot_le ms
  have hlf := ag_slot_lf ms
  refine ag_iconst hx hb 0 d_M_freeSlot_0 (by decide) ?_
  refine lv_istore_n (lv' := [(1, .int (nI 0)), (0, .ref b)]) hx hb d_M_freeSlot_1 rfl hl (by decide) rfl (fun ls hl => ?_)
  refine ag_iconst hx hb 1 d_M_freeSlot_2 (by decide) ?_
  refine lv_istore_n (lv' := [(2, .int (nI 1)), (1, .int (nI 0)), (0, .ref b)]) hx hb d_M_freeSlot_3 rfl hl (by decide) rfl (fun ls hl => ?_)
  have loop : ∀ (n z : Nat), ag_slot ms + 1 < z + n → z ≤ ag_slot ms + 1 → ∀ ls : Array Slot, lv_has ls 4 [(2, .int (nI (if z ≤ ag_slot ms then 1 else 0))), (1, .int (nI z)), (0, .ref b)] → W p l e { frames := 0, cells := 0, slots := 0, locals := 0 } s m [.ref b].toArray below meth c s.heap [] 0 0 (MQ below (va_Qi (fun (r : Int32) (_ : Unit) => r = nI (ag_slot ms)) (ag_to (dC, dI) agCl [(cI, .int)] A (fun _ : Unit => [(b, .inr (2, [.int (nI cd), .int (nI G), .int (nI R), .long (lN en), .long (lN nw), .int (nI ms.length), .ref qn, .ref qk, .int (nI mo), .long (lN la), .long (lN go), .long (lN sp)])), (qn, .inl (cI, 1200, .inl f)), (qk, .inl (cI, 1200, .inl g))])) A) [.ref b].toArray s 0 0 A) (F0 m 4 ls []) := by
    intro n
    induction n with
    | zero => intro z h1 h2; omega
    | succ n ih =>
      intro z hn hz ls hl
      by_cases hzk : z ≤ ag_slot ms
      · have h_n := trivial
        rw [if_pos hzk] at hl
        refine lv_iload_n hx hb d_M_freeSlot_4 rfl (lv_at hl 0 rfl) ?_
        refine lv_if_eq (tgt := 52) hx hb d_M_freeSlot_5 (by decide) (fun c5 => ?_) (fun c5 => ?_)
        · have h_n := trivial
          exact absurd c5 (by decide)
        · have h_n := trivial
          refine ag_iconst hx hb 0 d_M_freeSlot_8 (by decide) ?_
          refine lv_istore_n (lv' := [(2, .int (nI 0)), (1, .int (nI z)), (0, .ref b)]) hx hb d_M_freeSlot_9 rfl hl (by decide) rfl (fun ls hl => ?_)
          refine ag_iconst hx hb 0 d_M_freeSlot_10 (by decide) ?_
          refine lv_istore_n (lv' := [(3, .int (nI 0)), (2, .int (nI 0)), (1, .int (nI z)), (0, .ref b)]) hx hb d_M_freeSlot_11 rfl hl (by decide) rfl (fun ls hl => ?_)
          have inner : ∀ (q k t : Nat), ms.length < k + q → k ≤ ms.length → ((t = 1 ∧ ∃ j, ∃ h : j < ms.length, j < k ∧ (ms[j]).2 = z) ∨ (t = 0 ∧ ∀ j (h : j < ms.length), j < k → (ms[j]).2 ≠ z)) → ∀ ls : Array Slot, lv_has ls 4 [(3, .int (nI k)), (2, .int (nI t)), (1, .int (nI z)), (0, .ref b)] → W p l e { frames := 0, cells := 0, slots := 0, locals := 0 } s m [.ref b].toArray below meth c s.heap [] 0 0 (MQ below (va_Qi (fun (r : Int32) (_ : Unit) => r = nI (ag_slot ms)) (ag_to (dC, dI) agCl [(cI, .int)] A (fun _ : Unit => [(b, .inr (2, [.int (nI cd), .int (nI G), .int (nI R), .long (lN en), .long (lN nw), .int (nI ms.length), .ref qn, .ref qk, .int (nI mo), .long (lN la), .long (lN go), .long (lN sp)])), (qn, .inl (cI, 1200, .inl f)), (qk, .inl (cI, 1200, .inl g))])) A) [.ref b].toArray s 0 0 A) (F0 m 12 ls []) := by
            intro q
            induction q with
            | zero => intro k t h1 h2; omega
            | succ q ih2 =>
              intro k t hq hk ht9 ls hl
              have ht1 : t ≤ 1 := by rcases ht9 with h | h <;> omega
              refine lv_iload_n hx hb d_M_freeSlot_12 rfl (lv_at hl 0 rfl) ?_
              refine lv_aload_n hx hb d_M_freeSlot_13 rfl (lv_at hl 3 rfl) ?_
              refine va_get (D := (dC, dI)) (ci := 2) (v := .int (nI ms.length)) (C := RX2) (T := TX2) (N := 12) hx hb ht inA2 hown hK hP 0 rfl rfl 5 (by decide) (ht _ mw_f_M_7) (fun _ h9 => h9) rfl d_M_freeSlot_14 ?_
              refine ag_icmp_ge (tgt := 46) hx hb d_M_freeSlot_17 (by decide) (by omega) (by omega) (fun c17 => ?_) (fun c17 => ?_)
              · have h_n := trivial
                have hte : t = if z + 1 ≤ ag_slot ms then 1 else 0 := by
                  by_cases h1 : z + 1 ≤ ag_slot ms
                  · rw [if_pos h1]
                    rcases ht9 with ⟨h, -⟩ | ⟨-, h⟩
                    · exact h
                    · obtain ⟨y, hy, e1⟩ := List.mem_map.mp (hlf.2 z (by omega))
                      obtain ⟨j, hj, rfl⟩ := List.getElem_of_mem hy
                      exact absurd e1 (h j hj (by omega))
                  · rw [if_neg h1]
                    rcases ht9 with ⟨-, j, hj, -, h⟩ | ⟨h, -⟩
                    · refine absurd ?_ hlf.1
                      rw [show ag_slot ms = z by omega]
                      exact List.mem_map.mpr ⟨_, List.getElem_mem hj, h⟩
                    · exact h
                refine lv_iinc (v := nI (z + 1)) (lv' := [(1, .int (nI (z + 1))), (3, .int (nI k)), (2, .int (nI t)), (0, .ref b)]) hx hb d_M_freeSlot_46 hl (k := 2) rfl (nI_1 _) (by decide) rfl (fun ls hl => ?_)
                refine lv_goto (tgt := 4) hx hb d_M_freeSlot_49 (by decide) ?_
                rw [hte] at hl
                exact ih (z + 1) (by omega) (by omega) ls (lv_sub hl [2, 0, 3] rfl)
              · have h_n := trivial
                have hbk := hbd.2 _ (List.getElem_mem c17)
                refine lv_iload_n hx hb d_M_freeSlot_20 rfl (lv_at hl 1 rfl) ?_
                refine lv_if_ne (tgt := 34) hx hb d_M_freeSlot_21 (by decide) (fun c21 => ?_) (fun c21 => ?_)
                · have h_n := trivial
                  have h9 : t = 1 := by rcases (show t = 0 ∨ t = 1 by omega) with rfl | h; (exact absurd (by decide) c21); exact h
                  refine ag_iconst hx hb 1 d_M_freeSlot_34 (by decide) ?_
                  refine lv_goto (tgt := 39) hx hb d_M_freeSlot_35 (by decide) ?_
                  refine lv_istore_n (lv' := [(2, .int (nI 1)), (3, .int (nI k)), (1, .int (nI z)), (0, .ref b)]) hx hb d_M_freeSlot_39 rfl hl (by decide) rfl (fun ls hl => ?_)
                  refine lv_iinc (v := nI (k + 1)) (lv' := [(3, .int (nI (k + 1))), (2, .int (nI 1)), (1, .int (nI z)), (0, .ref b)]) hx hb d_M_freeSlot_40 hl (k := 1) rfl (nI_1 _) (by decide) rfl (fun ls hl => ?_)
                  refine lv_goto (tgt := 12) hx hb d_M_freeSlot_43 (by decide) ?_
                  refine ih2 (k + 1) 1 (by omega) (by omega) (Or.inl ⟨rfl, by rcases ht9 with ⟨-, j, hj, h1, h2⟩ | ⟨h1, -⟩; (exact ⟨j, hj, by omega, h2⟩); omega⟩) ls hl
                · have h_n := trivial
                  have h9 : t = 0 := by rcases (show t = 0 ∨ t = 1 by omega) with h | rfl; (exact h); exact absurd c21 (by decide)
                  refine lv_aload_n hx hb d_M_freeSlot_24 rfl (lv_at hl 3 rfl) ?_
                  refine va_get (D := (dC, dI)) (ci := 2) (v := .ref qk) (C := RX2) (T := TX2) (N := 12) hx hb ht inA2 hown hK hP 0 rfl rfl 7 (by decide) (ht _ mw_f_M_17) (fun _ h9 => h9) rfl d_M_freeSlot_25 ?_
                  refine lv_iload_n hx hb d_M_freeSlot_28 rfl (lv_at hl 0 rfl) ?_
                  refine ag_iald hx hb hK hP 2 0 rfl rfl (by omega) (by decide) d_M_freeSlot_29 ?_
                  refine ag_topi (nI ((ms[k]).2)) ((hrep k c17).2) ?_
                  refine lv_iload_n hx hb d_M_freeSlot_30 rfl (lv_at hl 2 rfl) ?_
                  refine ag_icmp_ne (tgt := 38) hx hb d_M_freeSlot_31 (by decide) (by omega) (by omega) (fun c31 => ?_) (fun c31 => ?_)
                  · have h_n := trivial
                    refine ag_iconst hx hb 0 d_M_freeSlot_38 (by decide) ?_
                    refine lv_istore_n (lv' := [(2, .int (nI 0)), (3, .int (nI k)), (1, .int (nI z)), (0, .ref b)]) hx hb d_M_freeSlot_39 rfl hl (by decide) rfl (fun ls hl => ?_)
                    refine lv_iinc (v := nI (k + 1)) (lv' := [(3, .int (nI (k + 1))), (2, .int (nI 0)), (1, .int (nI z)), (0, .ref b)]) hx hb d_M_freeSlot_40 hl (k := 1) rfl (nI_1 _) (by decide) rfl (fun ls hl => ?_)
                    refine lv_goto (tgt := 12) hx hb d_M_freeSlot_43 (by decide) ?_
                    refine ih2 (k + 1) 0 (by omega) (by omega) (Or.inr ⟨rfl, fun j hj h => by rcases ht9 with ⟨h1, -⟩ | ⟨-, h1⟩; (exact absurd h1 (by omega)); rcases Nat.lt_or_ge j k with z9 | z9; (exact h1 j hj z9); (have e9 : j = k := by omega); (subst e9; exact c31)⟩) ls hl
                  · have h_n := trivial
                    refine ag_iconst hx hb 1 d_M_freeSlot_34 (by decide) ?_
                    refine lv_goto (tgt := 39) hx hb d_M_freeSlot_35 (by decide) ?_
                    refine lv_istore_n (lv' := [(2, .int (nI 1)), (3, .int (nI k)), (1, .int (nI z)), (0, .ref b)]) hx hb d_M_freeSlot_39 rfl hl (by decide) rfl (fun ls hl => ?_)
                    refine lv_iinc (v := nI (k + 1)) (lv' := [(3, .int (nI (k + 1))), (2, .int (nI 1)), (1, .int (nI z)), (0, .ref b)]) hx hb d_M_freeSlot_40 hl (k := 1) rfl (nI_1 _) (by decide) rfl (fun ls hl => ?_)
                    refine lv_goto (tgt := 12) hx hb d_M_freeSlot_43 (by decide) ?_
                    refine ih2 (k + 1) 1 (by omega) (by omega) (Or.inl ⟨rfl, k, c17, by omega, c31⟩) ls hl
          exact inner (ms.length + 1) 0 0 (by omega) (by omega) (Or.inr ⟨rfl, fun j hj h => absurd h (by omega)⟩) ls hl
      · have h_n := trivial
        rw [if_neg hzk] at hl
        refine lv_iload_n hx hb d_M_freeSlot_4 rfl (lv_at hl 0 rfl) ?_
        refine lv_if_eq (tgt := 52) hx hb d_M_freeSlot_5 (by decide) (fun c5 => ?_) (fun c5 => ?_)
        · have h_n := trivial
          refine lv_iload_n hx hb d_M_freeSlot_52 rfl (lv_at hl 1 rfl) ?_
          refine ag_iconst hx hb 1 d_M_freeSlot_53 (by decide) ?_
          refine lv_isub hx hb d_M_freeSlot_54 ?_
          refine ag_topi (nI (z - 1)) (pk_sub (by omega)) ?_
          exact ag_reti hx hb hr hlocks () (by rw [show z - 1 = ag_slot ms by omega]) hP hK hD hS d_M_freeSlot_55
        · have h_n := trivial
          exact absurd (by decide) c5
  exact loop (ag_slot ms + 2) 0 (by omega) (by omega) ls (by rw [if_pos (Nat.zero_le _)]; exact hl)
end
section
section AgFlt
/-- the marks before place k that stay -/
noncomputable def ag_F (R n : Nat) (ms : ag_M) (k : Nat) : ag_M := (ms.take k).filter (ag_kb R n)
theorem ag_F_le {R n : Nat} {ms : ag_M} {k : Nat} : (ag_F R n ms k).length ≤ k := Nat.le_trans (List.length_filter_le _ _) (by simp; omega)
theorem ag_F_t {R n : Nat} {ms : ag_M} {k : Nat} (hk : k < ms.length) (h : ag_keep R n (ms[k]).1) : ag_F R n ms (k + 1) = ag_F R n ms k ++ [ms[k]] := by
  unfold ag_F
  rw [List.take_succ_eq_append_getElem hk, List.filter_append, List.filter_cons_of_pos (ag_kb_iff.mpr h), List.filter_nil]
theorem ag_F_f {R n : Nat} {ms : ag_M} {k : Nat} (hk : k < ms.length) (h : ¬ ag_keep R n (ms[k]).1) : ag_F R n ms (k + 1) = ag_F R n ms k := by
  unfold ag_F
  rw [List.take_succ_eq_append_getElem hk, List.filter_append, List.filter_cons_of_neg (mt ag_kb_iff.mp h), List.filter_nil, List.append_nil]
theorem ag_F_end {R n : Nat} {ms : ag_M} (hR : 0 < R) : ag_put R n ms = ag_F R n ms ms.length ++ [(n, ag_slot ms)] := by
  unfold ag_put ag_F
  rw [List.filter_append, List.take_of_length_le (Nat.le_refl _), List.filter_cons_of_pos (a := (n, ag_slot ms)) (show ag_kb R n (n, ag_slot ms) = true from ag_kb_iff.mpr (ag_keep_self hR)), List.filter_nil]
theorem ag_rpm_app {F : ag_M} {f g : Nat → Int32} {x : Nat × Nat} (h : ag_rpm F f g) : ag_rpm (F ++ [x]) (upd f F.length (nI x.1)) (upd g F.length (nI x.2)) := fun j hj => by
  by_cases q : j < F.length
  · rw [pk_un (by omega), pk_un (by omega), List.getElem_append_left q]
    exact h j q
  · have e : j = F.length := by simp at hj; omega
    subst e
    rw [pk_us, pk_us]
    simp
end AgFlt

set_option maxHeartbeats 4000000 in
set_option maxRecDepth 100000 in
/-- lay(L0 + 1) -/
theorem c_M_lay (l : Launch) (dC : Nat → ClassId) (dI : Nat → Nat → Nat) (sz : Nat) (b qn qk : Nat) (cI : ClassId) (cd G R en nw mo la go sp : Nat) (f g : Nat → Int32) (ms : ag_M) (L0 : Nat) (hR2 : 2 ≤ R) (hR16 : R ≤ 16) (hmo : mo ≤ 300) (hL : L0 + 1 ≤ 1000000) (hin : ag_in R L0 ms) (hrep : ag_rpm ms f g) : Met l y_M_lay (Cond.code y_M_lay b_M_lay 5 none :: agW) ({ frames := 1, cells := 0, slots := 0, locals := 40 }) (va_Pc [.ref b, .int (nI (L0 + 1))] (ag_at (dC, dI) agCl [(cI, .int)] sz [(b, .inr (2, [.int (nI cd), .int (nI G), .int (nI R), .long (lN en), .long (lN nw), .int (nI ms.length), .ref qn, .ref qk, .int (nI mo), .long (lN la), .long (lN go), .long (lN sp)])), (qn, .inl (cI, 1200, .inl f)), (qk, .inl (cI, 1200, .inl g))])) (va_Qv (fun u : (Nat → Int32) × (Nat → Int32) => ag_rpm (ag_put R (L0 + 1) ms) u.1 u.2) (ag_to (dC, dI) agCl [(cI, .int)] (va_A [(b, .inr (2, [.int (nI cd), .int (nI G), .int (nI R), .long (lN en), .long (lN nw), .int (nI ms.length), .ref qn, .ref qk, .int (nI mo), .long (lN la), .long (lN go), .long (lN sp)])), (qn, .inl (cI, 1200, .inl f)), (qk, .inl (cI, 1200, .inl g))] sz) (fun u : (Nat → Int32) × (Nat → Int32) => [(b, .inr (2, [.int (nI cd), .int (nI G), .int (nI R), .long (lN en), .long (lN nw), .int (nI ((ag_put R (L0 + 1) ms).length)), .ref qn, .ref qk, .int (nI (max mo (ag_put R (L0 + 1) ms).length)), .long (lN (la + 1)), .long (lN (go + (ms.length + 1 - (ag_put R (L0 + 1) ms).length))), .long (lN sp)])), (qn, .inl (cI, 1200, .inl u.1)), (qk, .inl (cI, 1200, .inl u.2))])) (va_A [(b, .inr (2, [.int (nI cd), .int (nI G), .int (nI R), .long (lN en), .long (lN nw), .int (nI ms.length), .ref qn, .ref qk, .int (nI mo), .long (lN la), .long (lN go), .long (lN sp)])), (qn, .inl (cI, 1200, .inl f)), (qk, .inl (cI, 1200, .inl g))] sz)) 0 0 (va_A [(b, .inr (2, [.int (nI cd), .int (nI G), .int (nI R), .long (lN en), .long (lN nw), .int (nI ms.length), .ref qn, .ref qk, .int (nI mo), .long (lN la), .long (lN go), .long (lN sp)])), (qn, .inl (cI, 1200, .inl f)), (qk, .inl (cI, 1200, .inl g))] sz) := by
  refine ag_ofW (Qf := fun A => va_Qv (fun u : (Nat → Int32) × (Nat → Int32) => ag_rpm (ag_put R (L0 + 1) ms) u.1 u.2) (ag_to (dC, dI) agCl [(cI, .int)] A (fun u : (Nat → Int32) × (Nat → Int32) => [(b, .inr (2, [.int (nI cd), .int (nI G), .int (nI R), .long (lN en), .long (lN nw), .int (nI ((ag_put R (L0 + 1) ms).length)), .ref qn, .ref qk, .int (nI (max mo (ag_put R (L0 + 1) ms).length)), .long (lN (la + 1)), .long (lN (go + (ms.length + 1 - (ag_put R (L0 + 1) ms).length))), .long (lN sp)])), (qn, .inl (cI, 1200, .inl u.1)), (qk, .inl (cI, 1200, .inl u.2))])) A) (cc := b_M_lay) (maxL := 5) (ret := none) (lv := [(0, .ref b), (1, .int (nI (L0 + 1)))]) (by decide) rfl (Nat.le_of_ble_eq_true rfl) rfl (fun p e s m below meth c A ls hx hb hr hts hown hlocks hml hnm hA hS hP hK hD hl hsz => ?_)
  have hown : s.vm.findClass "AgedMarksModel" = some m.cls := hown
  have ht : ∀ w ∈ agW, w.before [.ref b, .int (nI (L0 + 1))].toArray s = true := fun w h => hts w (List.mem_cons_of_mem _ h)
  have hlen := ag_il hR2 hR16 (by omega) hin
  have hbd := ag_in_bd hR2 hR16 (by omega) hin
  have hin2 := ag_in_put hR2 hR16 (by omega) hin
  have hlen2 : (ag_put R (L0 + 1) ms).length ≤ 300 := ag_il hR2 hR16 (by omega) hin2
  have hend := ag_F_end (n := L0 + 1) (ms := ms) (show 0 < R by omega)
  have hFl := ag_F_le (R := R) (n := L0 + 1) (ms := ms) (k := ms.length)
  have hpl : (ag_put R (L0 + 1) ms).length = (ag_F R (L0 + 1) ms ms.length).length + 1 := by rw [hend]; simp
  refine lv_aload_n hx hb d_M_lay_0 rfl (lv_at hl 0 rfl) ?_
  have hPc := hP.sub (ws' := [(b, .inr (2, [.int (nI cd), .int (nI G), .int (nI R), .long (lN en), .long (lN nw), .int (nI ms.length), .ref qn, .ref qk, .int (nI mo), .long (lN la), .long (lN go), .long (lN sp)])), (qn, .inl (cI, 1200, .inl f)), (qk, .inl (cI, 1200, .inl g))]) [0, 1, 2] rfl
  have hDc := hD.sub (ws' := [(b, .inr (2, [.int (nI cd), .int (nI G), .int (nI R), .long (lN en), .long (lN nw), .int (nI ms.length), .ref qn, .ref qk, .int (nI mo), .long (lN la), .long (lN go), .long (lN sp)])), (qn, .inl (cI, 1200, .inl f)), (qk, .inl (cI, 1200, .inl g))]) [0, 1, 2] (by decide) rfl
  refine ag_cli (wc := [(b, .inr (2, [.int (nI cd), .int (nI G), .int (nI R), .long (lN en), .long (lN nw), .int (nI ms.length), .ref qn, .ref qk, .int (nI mo), .long (lN la), .long (lN go), .long (lN sp)])), (qn, .inl (cI, 1200, .inl f)), (qk, .inl (cI, 1200, .inl g))]) (wr := []) (Wf := fun _ : Unit => [(b, .inr (2, [.int (nI cd), .int (nI G), .int (nI R), .long (lN en), .long (lN nw), .int (nI ms.length), .ref qn, .ref qk, .int (nI mo), .long (lN la), .long (lN go), .long (lN sp)])), (qn, .inl (cI, 1200, .inl f)), (qk, .inl (cI, 1200, .inl g))]) hP hD hS hA [0, 1, 2] [] rfl rfl (by decide) (by decide) (va_runV (C := "AgedMarksModel") (As := []) (rest := []) ⟨hx, hb, hml, hown, hts⟩ (c_M_freeSlot l dC dI s.heap.size b qn qk cI cd G R en nw mo la go sp f g ms hbd hrep) (ag_cwV 0 hts mw_m_M_34 mw_instanceMethod_M_freeSlot mw_sel_M_freeSlot mw_ini_M mw_code_M_freeSlot rfl rfl (by decide +kernel) ⟨Nat.le_of_ble_eq_true rfl, Nat.le_of_ble_eq_true rfl⟩) ⟨ag_blind, va_recv hK hPc (ci := 2) (q0 := 0) rfl rfl, ag_pre hPc hK hDc⟩ rfl rfl hl.1 rfl (lv_room (Nat.le_of_ble_eq_true rfl)) d_M_lay_1 ⟨Nat.le_of_ble_eq_true rfl, Nat.le_of_ble_eq_true rfl⟩) (fun r1 u H locs hw hP hD hS => ?_)
  try dsimp only at hw
  subst hw
  have hP : va_P (dC, dI) agCl [(b, .inr (2, [.int (nI cd), .int (nI G), .int (nI R), .long (lN en), .long (lN nw), .int (nI ms.length), .ref qn, .ref qk, .int (nI mo), .long (lN la), .long (lN go), .long (lN sp)])), (qn, .inl (cI, 1200, .inl f)), (qk, .inl (cI, 1200, .inl g))] H := hP
  have hD : va_D A [(b, .inr (2, [.int (nI cd), .int (nI G), .int (nI R), .long (lN en), .long (lN nw), .int (nI ms.length), .ref qn, .ref qk, .int (nI mo), .long (lN la), .long (lN go), .long (lN sp)])), (qn, .inl (cI, 1200, .inl f)), (qk, .inl (cI, 1200, .inl g))] := hD
  refine lv_istore_n (lv' := [(2, .int (nI (ag_slot ms))), (0, .ref b), (1, .int (nI (L0 + 1)))]) hx hb d_M_lay_4 rfl hl (by decide) rfl (fun ls hl => ?_)
  refine ag_iconst hx hb 0 d_M_lay_5 (by decide) ?_
  refine lv_istore_n (lv' := [(3, .int (nI 0)), (2, .int (nI (ag_slot ms))), (0, .ref b), (1, .int (nI (L0 + 1)))]) hx hb d_M_lay_6 rfl hl (by decide) rfl (fun ls hl => ?_)
  refine ag_iconst hx hb 0 d_M_lay_7 (by decide) ?_
  refine lv_istore (lv' := [(4, .int (nI 0)), (3, .int (nI 0)), (2, .int (nI (ag_slot ms))), (0, .ref b), (1, .int (nI (L0 + 1)))]) hx hb d_M_lay_8 hl (by decide) rfl (fun ls hl => ?_)
  have loop : ∀ (q k : Nat), ms.length < k + q → k ≤ ms.length → ∀ (f1 g1 : Nat → Int32), ag_rpm (ag_F R (L0 + 1) ms k) f1 g1 → (∀ j (h : j < ms.length), k ≤ j → f1 j = nI (ms[j]).1 ∧ g1 j = nI (ms[j]).2) → ∀ (H : Heap) (locs : List Loc), va_P (dC, dI) agCl [(b, .inr (2, [.int (nI cd), .int (nI G), .int (nI R), .long (lN en), .long (lN nw), .int (nI ms.length), .ref qn, .ref qk, .int (nI mo), .long (lN la), .long (lN go), .long (lN sp)])), (qn, .inl (cI, 1200, .inl f1)), (qk, .inl (cI, 1200, .inl g1))] H → va_D A [(b, .inr (2, [.int (nI cd), .int (nI G), .int (nI R), .long (lN en), .long (lN nw), .int (nI ms.length), .ref qn, .ref qk, .int (nI mo), .long (lN la), .long (lN go), .long (lN sp)])), (qn, .inl (cI, 1200, .inl f1)), (qk, .inl (cI, 1200, .inl g1))] → va_S A s.heap H locs → ∀ ls : Array Slot, lv_has ls 5 [(4, .int (nI k)), (3, .int (nI ((ag_F R (L0 + 1) ms k).length))), (2, .int (nI (ag_slot ms))), (0, .ref b), (1, .int (nI (L0 + 1)))] → W p l e { frames := 1, cells := 0, slots := 0, locals := 40 } s m [.ref b, .int (nI (L0 + 1))].toArray below meth c H locs 0 0 (MQ below (va_Qv (fun u : (Nat → Int32) × (Nat → Int32) => ag_rpm (ag_put R (L0 + 1) ms) u.1 u.2) (ag_to (dC, dI) agCl [(cI, .int)] A (fun u : (Nat → Int32) × (Nat → Int32) => [(b, .inr (2, [.int (nI cd), .int (nI G), .int (nI R), .long (lN en), .long (lN nw), .int (nI ((ag_put R (L0 + 1) ms).length)), .ref qn, .ref qk, .int (nI (max mo (ag_put R (L0 + 1) ms).length)), .long (lN (la + 1)), .long (lN (go + (ms.length + 1 - (ag_put R (L0 + 1) ms).length))), .long (lN sp)])), (qn, .inl (cI, 1200, .inl u.1)), (qk, .inl (cI, 1200, .inl u.2))])) A) [.ref b, .int (nI (L0 + 1))].toArray s 0 0 A) (F0 m 10 ls []) := by
    intro q
    induction q with
    | zero => intro k h1 h2; omega
    | succ q ih =>
      intro k hq hk f1 g1 hA9 hB9 H locs hP hD hS ls hl
      have hFk := ag_F_le (R := R) (n := L0 + 1) (ms := ms) (k := k)
      refine lv_iload hx hb d_M_lay_10 (lv_at hl 0 rfl) ?_
      refine lv_aload_n hx hb d_M_lay_12 rfl (lv_at hl 3 rfl) ?_
      refine va_get (D := (dC, dI)) (ci := 2) (v := .int (nI ms.length)) (C := RX2) (T := TX2) (N := 12) hx hb ht inA2 hown hK hP 0 rfl rfl 5 (by decide) (ht _ mw_f_M_7) (fun _ h9 => h9) rfl d_M_lay_13 ?_
      refine ag_icmp_ge (tgt := 72) hx hb d_M_lay_16 (by decide) (by omega) (by omega) (fun c16 => ?_) (fun c16 => ?_)
      · have h_n := trivial
        have hke : k = ms.length := by omega
        subst hke
        refine lv_aload_n hx hb d_M_lay_72 rfl (lv_at hl 3 rfl) ?_
        refine lv_dup hx hb d_M_lay_73 rfl ?_
        refine va_get (D := (dC, dI)) (ci := 2) (v := .long (lN go)) (C := RX2) (T := TX2) (N := 12) hx hb ht inA2 hown hK hP 0 rfl rfl 10 (by decide) (ht _ mw_f_M_42) (fun _ h9 => h9) rfl d_M_lay_74 ?_
        refine lv_aload_n hx hb d_M_lay_77 rfl (lv_at hl 3 rfl) ?_
        refine va_get (D := (dC, dI)) (ci := 2) (v := .int (nI ms.length)) (C := RX2) (T := TX2) (N := 12) hx hb ht inA2 hown hK hP 0 rfl rfl 5 (by decide) (ht _ mw_f_M_7) (fun _ h9 => h9) rfl d_M_lay_78 ?_
        refine lv_iload_n hx hb d_M_lay_81 rfl (lv_at hl 1 rfl) ?_
        refine lv_isub hx hb d_M_lay_82 ?_
        refine ag_topi (nI (ms.length - ((ag_F R (L0 + 1) ms ms.length).length))) (pk_sub (by omega)) ?_
        refine lv_i2l (v := lN (ms.length - ((ag_F R (L0 + 1) ms ms.length).length))) hx hb d_M_lay_83 (nI_l (by omega)) ?_
        refine lv_ladd hx hb d_M_lay_84 ?_
        refine ag_topl (lN (go + (ms.length - ((ag_F R (L0 + 1) ms ms.length).length)))) (lN_add _ _) ?_
        refine va_put (D := (dC, dI)) (ci := 2) (v := .long (lN (go + (ms.length - ((ag_F R (L0 + 1) ms ms.length).length))))) (ty := .long) (C := RX2) (T := TX2) (N := 12) hx hb ht inA2 tyX2 tyX2_ok nmX2 hown hK hP hD hS 0 rfl rfl 10 (by decide) (ht _ mw_f_M_42) (fun _ h9 => h9) rfl (by decide +kernel) rfl rfl (Nat.le_of_ble_eq_true rfl) d_M_lay_85 (fun H locs hP hD hS => ?_)
        have hP : va_P (dC, dI) agCl [(b, .inr (2, [.int (nI cd), .int (nI G), .int (nI R), .long (lN en), .long (lN nw), .int (nI ms.length), .ref qn, .ref qk, .int (nI mo), .long (lN la), .long (lN (go + (ms.length - ((ag_F R (L0 + 1) ms ms.length).length)))), .long (lN sp)])), (qn, .inl (cI, 1200, .inl f1)), (qk, .inl (cI, 1200, .inl g1))] H := hP
        have hD : va_D A [(b, .inr (2, [.int (nI cd), .int (nI G), .int (nI R), .long (lN en), .long (lN nw), .int (nI ms.length), .ref qn, .ref qk, .int (nI mo), .long (lN la), .long (lN (go + (ms.length - ((ag_F R (L0 + 1) ms ms.length).length)))), .long (lN sp)])), (qn, .inl (cI, 1200, .inl f1)), (qk, .inl (cI, 1200, .inl g1))] := hD
        refine lv_aload_n hx hb d_M_lay_88 rfl (lv_at hl 3 rfl) ?_
        refine va_get (D := (dC, dI)) (ci := 2) (v := .ref qn) (C := RX2) (T := TX2) (N := 12) hx hb ht inA2 hown hK hP 0 rfl rfl 6 (by decide) (ht _ mw_f_M_13) (fun _ h9 => h9) rfl d_M_lay_89 ?_
        refine lv_iload_n hx hb d_M_lay_92 rfl (lv_at hl 1 rfl) ?_
        refine lv_iload_n hx hb d_M_lay_93 rfl (lv_at hl 4 rfl) ?_
        refine ag_iast hx hb hK hP hD hS 1 0 rfl rfl (by omega) (by decide) d_M_lay_94 (fun H locs hP hD hS => ?_)
        have hP : va_P (dC, dI) agCl [(b, .inr (2, [.int (nI cd), .int (nI G), .int (nI R), .long (lN en), .long (lN nw), .int (nI ms.length), .ref qn, .ref qk, .int (nI mo), .long (lN la), .long (lN (go + (ms.length - ((ag_F R (L0 + 1) ms ms.length).length)))), .long (lN sp)])), (qn, .inl (cI, 1200, .inl (upd f1 ((ag_F R (L0 + 1) ms ms.length).length) (nI (L0 + 1))))), (qk, .inl (cI, 1200, .inl g1))] H := hP
        have hD : va_D A [(b, .inr (2, [.int (nI cd), .int (nI G), .int (nI R), .long (lN en), .long (lN nw), .int (nI ms.length), .ref qn, .ref qk, .int (nI mo), .long (lN la), .long (lN (go + (ms.length - ((ag_F R (L0 + 1) ms ms.length).length)))), .long (lN sp)])), (qn, .inl (cI, 1200, .inl (upd f1 ((ag_F R (L0 + 1) ms ms.length).length) (nI (L0 + 1))))), (qk, .inl (cI, 1200, .inl g1))] := hD
        refine lv_aload_n hx hb d_M_lay_95 rfl (lv_at hl 3 rfl) ?_
        refine va_get (D := (dC, dI)) (ci := 2) (v := .ref qk) (C := RX2) (T := TX2) (N := 12) hx hb ht inA2 hown hK hP 0 rfl rfl 7 (by decide) (ht _ mw_f_M_17) (fun _ h9 => h9) rfl d_M_lay_96 ?_
        refine lv_iload_n hx hb d_M_lay_99 rfl (lv_at hl 1 rfl) ?_
        refine lv_iload_n hx hb d_M_lay_100 rfl (lv_at hl 2 rfl) ?_
        refine ag_iast hx hb hK hP hD hS 2 0 rfl rfl (by omega) (by decide) d_M_lay_101 (fun H locs hP hD hS => ?_)
        have hP : va_P (dC, dI) agCl [(b, .inr (2, [.int (nI cd), .int (nI G), .int (nI R), .long (lN en), .long (lN nw), .int (nI ms.length), .ref qn, .ref qk, .int (nI mo), .long (lN la), .long (lN (go + (ms.length - ((ag_F R (L0 + 1) ms ms.length).length)))), .long (lN sp)])), (qn, .inl (cI, 1200, .inl (upd f1 ((ag_F R (L0 + 1) ms ms.length).length) (nI (L0 + 1))))), (qk, .inl (cI, 1200, .inl (upd g1 ((ag_F R (L0 + 1) ms ms.length).length) (nI (ag_slot ms)))))] H := hP
        have hD : va_D A [(b, .inr (2, [.int (nI cd), .int (nI G), .int (nI R), .long (lN en), .long (lN nw), .int (nI ms.length), .ref qn, .ref qk, .int (nI mo), .long (lN la), .long (lN (go + (ms.length - ((ag_F R (L0 + 1) ms ms.length).length)))), .long (lN sp)])), (qn, .inl (cI, 1200, .inl (upd f1 ((ag_F R (L0 + 1) ms ms.length).length) (nI (L0 + 1))))), (qk, .inl (cI, 1200, .inl (upd g1 ((ag_F R (L0 + 1) ms ms.length).length) (nI (ag_slot ms)))))] := hD
        refine lv_aload_n hx hb d_M_lay_102 rfl (lv_at hl 3 rfl) ?_
        refine lv_iload_n hx hb d_M_lay_103 rfl (lv_at hl 1 rfl) ?_
        refine ag_iconst hx hb 1 d_M_lay_104 (by decide) ?_
        refine lv_iadd hx hb d_M_lay_105 ?_
        refine ag_topi (nI (((ag_F R (L0 + 1) ms ms.length).length) + 1)) (nI_add _ _) ?_
        refine va_put (D := (dC, dI)) (ci := 2) (v := .int (nI (((ag_F R (L0 + 1) ms ms.length).length) + 1))) (ty := .int) (C := RX2) (T := TX2) (N := 12) hx hb ht inA2 tyX2 tyX2_ok nmX2 hown hK hP hD hS 0 rfl rfl 5 (by decide) (ht _ mw_f_M_7) (fun _ h9 => h9) rfl (by decide +kernel) rfl rfl (Nat.le_of_ble_eq_true rfl) d_M_lay_106 (fun H locs hP hD hS => ?_)
        have hP : va_P (dC, dI) agCl [(b, .inr (2, [.int (nI cd), .int (nI G), .int (nI R), .long (lN en), .long (lN nw), .int (nI (((ag_F R (L0 + 1) ms ms.length).length) + 1)), .ref qn, .ref qk, .int (nI mo), .long (lN la), .long (lN (go + (ms.length - ((ag_F R (L0 + 1) ms ms.length).length)))), .long (lN sp)])), (qn, .inl (cI, 1200, .inl (upd f1 ((ag_F R (L0 + 1) ms ms.length).length) (nI (L0 + 1))))), (qk, .inl (cI, 1200, .inl (upd g1 ((ag_F R (L0 + 1) ms ms.length).length) (nI (ag_slot ms)))))] H := hP
        have hD : va_D A [(b, .inr (2, [.int (nI cd), .int (nI G), .int (nI R), .long (lN en), .long (lN nw), .int (nI (((ag_F R (L0 + 1) ms ms.length).length) + 1)), .ref qn, .ref qk, .int (nI mo), .long (lN la), .long (lN (go + (ms.length - ((ag_F R (L0 + 1) ms ms.length).length)))), .long (lN sp)])), (qn, .inl (cI, 1200, .inl (upd f1 ((ag_F R (L0 + 1) ms ms.length).length) (nI (L0 + 1))))), (qk, .inl (cI, 1200, .inl (upd g1 ((ag_F R (L0 + 1) ms ms.length).length) (nI (ag_slot ms)))))] := hD
        refine lv_aload_n hx hb d_M_lay_109 rfl (lv_at hl 3 rfl) ?_
        refine lv_dup hx hb d_M_lay_110 rfl ?_
        refine va_get (D := (dC, dI)) (ci := 2) (v := .long (lN la)) (C := RX2) (T := TX2) (N := 12) hx hb ht inA2 hown hK hP 0 rfl rfl 9 (by decide) (ht _ mw_f_M_46) (fun _ h9 => h9) rfl d_M_lay_111 ?_
        refine ag_lconst hx hb 1 d_M_lay_114 (by decide) ?_
        refine lv_ladd hx hb d_M_lay_115 ?_
        refine ag_topl (lN (la + 1)) (lN_add _ _) ?_
        refine va_put (D := (dC, dI)) (ci := 2) (v := .long (lN (la + 1))) (ty := .long) (C := RX2) (T := TX2) (N := 12) hx hb ht inA2 tyX2 tyX2_ok nmX2 hown hK hP hD hS 0 rfl rfl 9 (by decide) (ht _ mw_f_M_46) (fun _ h9 => h9) rfl (by decide +kernel) rfl rfl (Nat.le_of_ble_eq_true rfl) d_M_lay_116 (fun H locs hP hD hS => ?_)
        have hP : va_P (dC, dI) agCl [(b, .inr (2, [.int (nI cd), .int (nI G), .int (nI R), .long (lN en), .long (lN nw), .int (nI (((ag_F R (L0 + 1) ms ms.length).length) + 1)), .ref qn, .ref qk, .int (nI mo), .long (lN (la + 1)), .long (lN (go + (ms.length - ((ag_F R (L0 + 1) ms ms.length).length)))), .long (lN sp)])), (qn, .inl (cI, 1200, .inl (upd f1 ((ag_F R (L0 + 1) ms ms.length).length) (nI (L0 + 1))))), (qk, .inl (cI, 1200, .inl (upd g1 ((ag_F R (L0 + 1) ms ms.length).length) (nI (ag_slot ms)))))] H := hP
        have hD : va_D A [(b, .inr (2, [.int (nI cd), .int (nI G), .int (nI R), .long (lN en), .long (lN nw), .int (nI (((ag_F R (L0 + 1) ms ms.length).length) + 1)), .ref qn, .ref qk, .int (nI mo), .long (lN (la + 1)), .long (lN (go + (ms.length - ((ag_F R (L0 + 1) ms ms.length).length)))), .long (lN sp)])), (qn, .inl (cI, 1200, .inl (upd f1 ((ag_F R (L0 + 1) ms ms.length).length) (nI (L0 + 1))))), (qk, .inl (cI, 1200, .inl (upd g1 ((ag_F R (L0 + 1) ms ms.length).length) (nI (ag_slot ms)))))] := hD
        refine lv_aload_n hx hb d_M_lay_119 rfl (lv_at hl 3 rfl) ?_
        refine lv_aload_n hx hb d_M_lay_120 rfl (lv_at hl 3 rfl) ?_
        refine va_get (D := (dC, dI)) (ci := 2) (v := .int (nI (((ag_F R (L0 + 1) ms ms.length).length) + 1))) (C := RX2) (T := TX2) (N := 12) hx hb ht inA2 hown hK hP 0 rfl rfl 5 (by decide) (ht _ mw_f_M_7) (fun _ h9 => h9) rfl d_M_lay_121 ?_
        refine lv_aload_n hx hb d_M_lay_124 rfl (lv_at hl 3 rfl) ?_
        refine va_get (D := (dC, dI)) (ci := 2) (v := .int (nI mo)) (C := RX2) (T := TX2) (N := 12) hx hb ht inA2 hown hK hP 0 rfl rfl 8 (by decide) (ht _ mw_f_M_20) (fun _ h9 => h9) rfl d_M_lay_125 ?_
        refine ag_icmp_le (tgt := 138) hx hb d_M_lay_128 (by decide) (by omega) (by omega) (fun c128 => ?_) (fun c128 => ?_)
        · have h_n := trivial
          refine lv_aload_n hx hb d_M_lay_138 rfl (lv_at hl 3 rfl) ?_
          refine va_get (D := (dC, dI)) (ci := 2) (v := .int (nI mo)) (C := RX2) (T := TX2) (N := 12) hx hb ht inA2 hown hK hP 0 rfl rfl 8 (by decide) (ht _ mw_f_M_20) (fun _ h9 => h9) rfl d_M_lay_139 ?_
          refine ag_topi (nI (max mo (ag_put R (L0 + 1) ms).length)) (by rw [Nat.max_eq_left (by omega)]) ?_
          refine va_put (D := (dC, dI)) (ci := 2) (v := .int (nI (max mo (ag_put R (L0 + 1) ms).length))) (ty := .int) (C := RX2) (T := TX2) (N := 12) hx hb ht inA2 tyX2 tyX2_ok nmX2 hown hK hP hD hS 0 rfl rfl 8 (by decide) (ht _ mw_f_M_20) (fun _ h9 => h9) rfl (by decide +kernel) rfl rfl (Nat.le_of_ble_eq_true rfl) d_M_lay_142 (fun H locs hP hD hS => ?_)
          have hP : va_P (dC, dI) agCl [(b, .inr (2, [.int (nI cd), .int (nI G), .int (nI R), .long (lN en), .long (lN nw), .int (nI (((ag_F R (L0 + 1) ms ms.length).length) + 1)), .ref qn, .ref qk, .int (nI (max mo (ag_put R (L0 + 1) ms).length)), .long (lN (la + 1)), .long (lN (go + (ms.length - ((ag_F R (L0 + 1) ms ms.length).length)))), .long (lN sp)])), (qn, .inl (cI, 1200, .inl (upd f1 ((ag_F R (L0 + 1) ms ms.length).length) (nI (L0 + 1))))), (qk, .inl (cI, 1200, .inl (upd g1 ((ag_F R (L0 + 1) ms ms.length).length) (nI (ag_slot ms)))))] H := hP
          have hD : va_D A [(b, .inr (2, [.int (nI cd), .int (nI G), .int (nI R), .long (lN en), .long (lN nw), .int (nI (((ag_F R (L0 + 1) ms ms.length).length) + 1)), .ref qn, .ref qk, .int (nI (max mo (ag_put R (L0 + 1) ms).length)), .long (lN (la + 1)), .long (lN (go + (ms.length - ((ag_F R (L0 + 1) ms ms.length).length)))), .long (lN sp)])), (qn, .inl (cI, 1200, .inl (upd f1 ((ag_F R (L0 + 1) ms ms.length).length) (nI (L0 + 1))))), (qk, .inl (cI, 1200, .inl (upd g1 ((ag_F R (L0 + 1) ms ms.length).length) (nI (ag_slot ms)))))] := hD
          have e1 : (ag_F R (L0 + 1) ms ms.length).length + 1 = (ag_put R (L0 + 1) ms).length := hpl.symm
          have e2 : go + (ms.length - (ag_F R (L0 + 1) ms ms.length).length) = go + (ms.length + 1 - (ag_put R (L0 + 1) ms).length) := by omega
          rw [e1, e2] at hP hD
          exact ag_retv hx hb hr hlocks (upd f1 (ag_F R (L0 + 1) ms ms.length).length (nI (L0 + 1)), upd g1 (ag_F R (L0 + 1) ms ms.length).length (nI (ag_slot ms))) (by rw [hend]; exact ag_rpm_app (x := (L0 + 1, ag_slot ms)) hA9) hP hK hD hS d_M_lay_145
        · have h_n := trivial
          refine lv_aload_n hx hb d_M_lay_131 rfl (lv_at hl 3 rfl) ?_
          refine va_get (D := (dC, dI)) (ci := 2) (v := .int (nI (((ag_F R (L0 + 1) ms ms.length).length) + 1))) (C := RX2) (T := TX2) (N := 12) hx hb ht inA2 hown hK hP 0 rfl rfl 5 (by decide) (ht _ mw_f_M_7) (fun _ h9 => h9) rfl d_M_lay_132 ?_
          refine lv_goto (tgt := 142) hx hb d_M_lay_135 (by decide) ?_
          refine ag_topi (nI (max mo (ag_put R (L0 + 1) ms).length)) (by rw [Nat.max_eq_right (by omega), hpl]) ?_
          refine va_put (D := (dC, dI)) (ci := 2) (v := .int (nI (max mo (ag_put R (L0 + 1) ms).length))) (ty := .int) (C := RX2) (T := TX2) (N := 12) hx hb ht inA2 tyX2 tyX2_ok nmX2 hown hK hP hD hS 0 rfl rfl 8 (by decide) (ht _ mw_f_M_20) (fun _ h9 => h9) rfl (by decide +kernel) rfl rfl (Nat.le_of_ble_eq_true rfl) d_M_lay_142 (fun H locs hP hD hS => ?_)
          have hP : va_P (dC, dI) agCl [(b, .inr (2, [.int (nI cd), .int (nI G), .int (nI R), .long (lN en), .long (lN nw), .int (nI (((ag_F R (L0 + 1) ms ms.length).length) + 1)), .ref qn, .ref qk, .int (nI (max mo (ag_put R (L0 + 1) ms).length)), .long (lN (la + 1)), .long (lN (go + (ms.length - ((ag_F R (L0 + 1) ms ms.length).length)))), .long (lN sp)])), (qn, .inl (cI, 1200, .inl (upd f1 ((ag_F R (L0 + 1) ms ms.length).length) (nI (L0 + 1))))), (qk, .inl (cI, 1200, .inl (upd g1 ((ag_F R (L0 + 1) ms ms.length).length) (nI (ag_slot ms)))))] H := hP
          have hD : va_D A [(b, .inr (2, [.int (nI cd), .int (nI G), .int (nI R), .long (lN en), .long (lN nw), .int (nI (((ag_F R (L0 + 1) ms ms.length).length) + 1)), .ref qn, .ref qk, .int (nI (max mo (ag_put R (L0 + 1) ms).length)), .long (lN (la + 1)), .long (lN (go + (ms.length - ((ag_F R (L0 + 1) ms ms.length).length)))), .long (lN sp)])), (qn, .inl (cI, 1200, .inl (upd f1 ((ag_F R (L0 + 1) ms ms.length).length) (nI (L0 + 1))))), (qk, .inl (cI, 1200, .inl (upd g1 ((ag_F R (L0 + 1) ms ms.length).length) (nI (ag_slot ms)))))] := hD
          have e1 : (ag_F R (L0 + 1) ms ms.length).length + 1 = (ag_put R (L0 + 1) ms).length := hpl.symm
          have e2 : go + (ms.length - (ag_F R (L0 + 1) ms ms.length).length) = go + (ms.length + 1 - (ag_put R (L0 + 1) ms).length) := by omega
          rw [e1, e2] at hP hD
          exact ag_retv hx hb hr hlocks (upd f1 (ag_F R (L0 + 1) ms ms.length).length (nI (L0 + 1)), upd g1 (ag_F R (L0 + 1) ms ms.length).length (nI (ag_slot ms))) (by rw [hend]; exact ag_rpm_app (x := (L0 + 1, ag_slot ms)) hA9) hP hK hD hS d_M_lay_145
      · have h_n := trivial
        have hbk := hbd.2 _ (List.getElem_mem c16)
        have hkL := (hin.1.2.1 _ (List.getElem_mem c16)).1
        refine lv_aload_n hx hb d_M_lay_19 rfl (lv_at hl 3 rfl) ?_
        refine lv_aload_n hx hb d_M_lay_20 rfl (lv_at hl 3 rfl) ?_
        refine va_get (D := (dC, dI)) (ci := 2) (v := .ref qn) (C := RX2) (T := TX2) (N := 12) hx hb ht inA2 hown hK hP 0 rfl rfl 6 (by decide) (ht _ mw_f_M_13) (fun _ h9 => h9) rfl d_M_lay_21 ?_
        refine lv_iload hx hb d_M_lay_24 (lv_at hl 0 rfl) ?_
        refine ag_iald hx hb hK hP 1 0 rfl rfl (by omega) (by decide) d_M_lay_26 ?_
        refine ag_topi (nI ((ms[k]).1)) ((hB9 k c16 (Nat.le_refl _)).1) ?_
        refine lv_iload_n hx hb d_M_lay_27 rfl (lv_at hl 4 rfl) ?_
        have hPc := hP.sub (ws' := [(b, .inr (2, [.int (nI cd), .int (nI G), .int (nI R), .long (lN en), .long (lN nw), .int (nI ms.length), .ref qn, .ref qk, .int (nI mo), .long (lN la), .long (lN go), .long (lN sp)])), (qn, .inl (cI, 1200, .inl f1)), (qk, .inl (cI, 1200, .inl g1))]) [0, 1, 2] rfl
        have hDc := hD.sub (ws' := [(b, .inr (2, [.int (nI cd), .int (nI G), .int (nI R), .long (lN en), .long (lN nw), .int (nI ms.length), .ref qn, .ref qk, .int (nI mo), .long (lN la), .long (lN go), .long (lN sp)])), (qn, .inl (cI, 1200, .inl f1)), (qk, .inl (cI, 1200, .inl g1))]) [0, 1, 2] (by decide) rfl
        refine ag_cli (wc := [(b, .inr (2, [.int (nI cd), .int (nI G), .int (nI R), .long (lN en), .long (lN nw), .int (nI ms.length), .ref qn, .ref qk, .int (nI mo), .long (lN la), .long (lN go), .long (lN sp)])), (qn, .inl (cI, 1200, .inl f1)), (qk, .inl (cI, 1200, .inl g1))]) (wr := []) (Wf := fun _ : Unit => [(b, .inr (2, [.int (nI cd), .int (nI G), .int (nI R), .long (lN en), .long (lN nw), .int (nI ms.length), .ref qn, .ref qk, .int (nI mo), .long (lN la), .long (lN go), .long (lN sp)])), (qn, .inl (cI, 1200, .inl f1)), (qk, .inl (cI, 1200, .inl g1))]) hP hD hS hA [0, 1, 2] [] rfl rfl (by decide) (by decide) (va_runV (C := "AgedMarksModel") (As := [.int (nI ((ms[k]).1)), .int (nI (L0 + 1))]) (rest := []) ⟨hx, hb, hml, hown, hts⟩ (c_M_stays l dC dI H.size b qn qk cI cd G R en nw mo la go sp f1 g1 ms (ms[k]).1 (L0 + 1) hR2 hR16 (by omega) hL) (ag_cwV 2 hts mw_m_M_38 mw_instanceMethod_M_stays mw_sel_M_stays mw_ini_M mw_code_M_stays rfl rfl (by decide +kernel) ⟨Nat.le_of_ble_eq_true rfl, Nat.le_of_ble_eq_true rfl⟩) ⟨ag_blind, va_recv hK hPc (ci := 2) (q0 := 0) rfl rfl, ag_pre hPc hK hDc⟩ rfl rfl hl.1 rfl (lv_room (Nat.le_of_ble_eq_true rfl)) d_M_lay_28 ⟨Nat.le_of_ble_eq_true rfl, Nat.le_of_ble_eq_true rfl⟩) (fun r2 u H locs hw hP hD hS => ?_)
        try dsimp only at hw
        have hP : va_P (dC, dI) agCl [(b, .inr (2, [.int (nI cd), .int (nI G), .int (nI R), .long (lN en), .long (lN nw), .int (nI ms.length), .ref qn, .ref qk, .int (nI mo), .long (lN la), .long (lN go), .long (lN sp)])), (qn, .inl (cI, 1200, .inl f1)), (qk, .inl (cI, 1200, .inl g1))] H := hP
        have hD : va_D A [(b, .inr (2, [.int (nI cd), .int (nI G), .int (nI R), .long (lN en), .long (lN nw), .int (nI ms.length), .ref qn, .ref qk, .int (nI mo), .long (lN la), .long (lN go), .long (lN sp)])), (qn, .inl (cI, 1200, .inl f1)), (qk, .inl (cI, 1200, .inl g1))] := hD
        rcases hw with ⟨hkp, rfl⟩ | ⟨hkp, rfl⟩
        · have h_n := trivial
          refine lv_if_ne (tgt := 37) hx hb d_M_lay_31 (by decide) (fun c31 => ?_) (fun c31 => ?_)
          · have h_n := trivial
            refine lv_aload_n hx hb d_M_lay_37 rfl (lv_at hl 3 rfl) ?_
            refine va_get (D := (dC, dI)) (ci := 2) (v := .ref qn) (C := RX2) (T := TX2) (N := 12) hx hb ht inA2 hown hK hP 0 rfl rfl 6 (by decide) (ht _ mw_f_M_13) (fun _ h9 => h9) rfl d_M_lay_38 ?_
            refine lv_iload_n hx hb d_M_lay_41 rfl (lv_at hl 1 rfl) ?_
            refine lv_aload_n hx hb d_M_lay_42 rfl (lv_at hl 3 rfl) ?_
            refine va_get (D := (dC, dI)) (ci := 2) (v := .ref qn) (C := RX2) (T := TX2) (N := 12) hx hb ht inA2 hown hK hP 0 rfl rfl 6 (by decide) (ht _ mw_f_M_13) (fun _ h9 => h9) rfl d_M_lay_43 ?_
            refine lv_iload hx hb d_M_lay_46 (lv_at hl 0 rfl) ?_
            refine ag_iald hx hb hK hP 1 0 rfl rfl (by omega) (by decide) d_M_lay_48 ?_
            refine ag_topi (nI ((ms[k]).1)) ((hB9 k c16 (Nat.le_refl _)).1) ?_
            refine ag_iast hx hb hK hP hD hS 1 0 rfl rfl (by omega) (by decide) d_M_lay_49 (fun H locs hP hD hS => ?_)
            have hP : va_P (dC, dI) agCl [(b, .inr (2, [.int (nI cd), .int (nI G), .int (nI R), .long (lN en), .long (lN nw), .int (nI ms.length), .ref qn, .ref qk, .int (nI mo), .long (lN la), .long (lN go), .long (lN sp)])), (qn, .inl (cI, 1200, .inl (upd f1 ((ag_F R (L0 + 1) ms k).length) (nI ((ms[k]).1))))), (qk, .inl (cI, 1200, .inl g1))] H := hP
            have hD : va_D A [(b, .inr (2, [.int (nI cd), .int (nI G), .int (nI R), .long (lN en), .long (lN nw), .int (nI ms.length), .ref qn, .ref qk, .int (nI mo), .long (lN la), .long (lN go), .long (lN sp)])), (qn, .inl (cI, 1200, .inl (upd f1 ((ag_F R (L0 + 1) ms k).length) (nI ((ms[k]).1))))), (qk, .inl (cI, 1200, .inl g1))] := hD
            refine lv_aload_n hx hb d_M_lay_50 rfl (lv_at hl 3 rfl) ?_
            refine va_get (D := (dC, dI)) (ci := 2) (v := .ref qk) (C := RX2) (T := TX2) (N := 12) hx hb ht inA2 hown hK hP 0 rfl rfl 7 (by decide) (ht _ mw_f_M_17) (fun _ h9 => h9) rfl d_M_lay_51 ?_
            refine lv_iload_n hx hb d_M_lay_54 rfl (lv_at hl 1 rfl) ?_
            refine lv_aload_n hx hb d_M_lay_55 rfl (lv_at hl 3 rfl) ?_
            refine va_get (D := (dC, dI)) (ci := 2) (v := .ref qk) (C := RX2) (T := TX2) (N := 12) hx hb ht inA2 hown hK hP 0 rfl rfl 7 (by decide) (ht _ mw_f_M_17) (fun _ h9 => h9) rfl d_M_lay_56 ?_
            refine lv_iload hx hb d_M_lay_59 (lv_at hl 0 rfl) ?_
            refine ag_iald hx hb hK hP 2 0 rfl rfl (by omega) (by decide) d_M_lay_61 ?_
            refine ag_topi (nI ((ms[k]).2)) ((hB9 k c16 (Nat.le_refl _)).2) ?_
            refine ag_iast hx hb hK hP hD hS 2 0 rfl rfl (by omega) (by decide) d_M_lay_62 (fun H locs hP hD hS => ?_)
            have hP : va_P (dC, dI) agCl [(b, .inr (2, [.int (nI cd), .int (nI G), .int (nI R), .long (lN en), .long (lN nw), .int (nI ms.length), .ref qn, .ref qk, .int (nI mo), .long (lN la), .long (lN go), .long (lN sp)])), (qn, .inl (cI, 1200, .inl (upd f1 ((ag_F R (L0 + 1) ms k).length) (nI ((ms[k]).1))))), (qk, .inl (cI, 1200, .inl (upd g1 ((ag_F R (L0 + 1) ms k).length) (nI ((ms[k]).2)))))] H := hP
            have hD : va_D A [(b, .inr (2, [.int (nI cd), .int (nI G), .int (nI R), .long (lN en), .long (lN nw), .int (nI ms.length), .ref qn, .ref qk, .int (nI mo), .long (lN la), .long (lN go), .long (lN sp)])), (qn, .inl (cI, 1200, .inl (upd f1 ((ag_F R (L0 + 1) ms k).length) (nI ((ms[k]).1))))), (qk, .inl (cI, 1200, .inl (upd g1 ((ag_F R (L0 + 1) ms k).length) (nI ((ms[k]).2)))))] := hD
            refine lv_iinc (v := nI ((ag_F R (L0 + 1) ms k).length + 1)) (lv' := [(3, .int (nI ((ag_F R (L0 + 1) ms k).length + 1))), (4, .int (nI k)), (2, .int (nI (ag_slot ms))), (0, .ref b), (1, .int (nI (L0 + 1)))]) hx hb d_M_lay_63 hl (k := 1) rfl (nI_1 _) (by decide) rfl (fun ls hl => ?_)
            refine lv_iinc (v := nI (k + 1)) (lv' := [(4, .int (nI (k + 1))), (3, .int (nI ((ag_F R (L0 + 1) ms k).length + 1))), (2, .int (nI (ag_slot ms))), (0, .ref b), (1, .int (nI (L0 + 1)))]) hx hb d_M_lay_66 hl (k := 1) rfl (nI_1 _) (by decide) rfl (fun ls hl => ?_)
            refine lv_goto (tgt := 10) hx hb d_M_lay_69 (by decide) ?_
            have hF1 := ag_F_t c16 hkp
            refine ih (k + 1) (by omega) (by omega) _ _ (by rw [hF1]; exact ag_rpm_app (x := ms[k]) hA9) (fun j hj h => ?_) H locs hP hD hS ls (by rw [hF1, List.length_append]; exact lv_sub hl [0, 1, 2, 3, 4] rfl)
            rw [pk_un (by omega), pk_un (by omega)]
            exact hB9 j hj (by omega)
          · have h_n := trivial
            exact absurd c31 (by decide)
        · have h_n := trivial
          refine lv_if_ne (tgt := 37) hx hb d_M_lay_31 (by decide) (fun c31 => ?_) (fun c31 => ?_)
          · have h_n := trivial
            exact absurd (by decide) c31
          · have h_n := trivial
            refine lv_goto (tgt := 66) hx hb d_M_lay_34 (by decide) ?_
            refine lv_iinc (v := nI (k + 1)) (lv' := [(4, .int (nI (k + 1))), (3, .int (nI ((ag_F R (L0 + 1) ms k).length))), (2, .int (nI (ag_slot ms))), (0, .ref b), (1, .int (nI (L0 + 1)))]) hx hb d_M_lay_66 hl (k := 0) rfl (nI_1 _) (by decide) rfl (fun ls hl => ?_)
            refine lv_goto (tgt := 10) hx hb d_M_lay_69 (by decide) ?_
            have hF1 := ag_F_f c16 hkp
            exact ih (k + 1) (by omega) (by omega) f1 g1 (by rw [hF1]; exact hA9) (fun j hj h => hB9 j hj (by omega)) H locs hP hD hS ls (by rw [hF1]; exact lv_sub hl [0, 1, 2, 3, 4] rfl)
  exact loop (ms.length + 1) 0 (by omega) (by omega) f g (fun j hj => absurd hj (by simp [ag_F])) (fun j hj _ => hrep j hj) H locs hP hD hS ls (by rw [show (ag_F R (L0 + 1) ms 0).length = 0 from by simp [ag_F]]; exact hl)
end
section
set_option maxHeartbeats 4000000 in
set_option maxRecDepth 100000 in
/-- run(x), refused -/
theorem c_M_run_1 (l : Launch) (dC : Nat → ClassId) (dI : Nat → Nat → Nat) (sz : Nat) (b qn qk : Nat) (cI : ClassId) (cd G R en nw mo la go sp : Nat) (f g : Nat → Int32) (ms : ag_M) (x : Int32) (hno : ¬ (0 ≤ x.toInt ∧ x.toInt ≤ 4000)) : Met l y_M_run (Cond.code y_M_run b_M_run 3 (some .int) :: agW) ({ frames := 2, cells := 0, slots := 0, locals := 70 }) (va_Pc [.ref b, .int x] (ag_at (dC, dI) agCl [(cI, .int)] sz [(b, .inr (2, [.int (nI cd), .int (nI G), .int (nI R), .long (lN en), .long (lN nw), .int (nI ms.length), .ref qn, .ref qk, .int (nI mo), .long (lN la), .long (lN go), .long (lN sp)])), (qn, .inl (cI, 1200, .inl f)), (qk, .inl (cI, 1200, .inl g))])) (va_Qi (fun (_ : Int32) (_ : Unit) => True) (ag_to (dC, dI) agCl [(cI, .int)] (va_A [(b, .inr (2, [.int (nI cd), .int (nI G), .int (nI R), .long (lN en), .long (lN nw), .int (nI ms.length), .ref qn, .ref qk, .int (nI mo), .long (lN la), .long (lN go), .long (lN sp)])), (qn, .inl (cI, 1200, .inl f)), (qk, .inl (cI, 1200, .inl g))] sz) (fun _ : Unit => [(b, .inr (2, [.int (nI 1), .int (nI G), .int (nI R), .long (lN en), .long (lN nw), .int (nI ms.length), .ref qn, .ref qk, .int (nI mo), .long (lN la), .long (lN go), .long (lN sp)])), (qn, .inl (cI, 1200, .inl f)), (qk, .inl (cI, 1200, .inl g))])) (va_A [(b, .inr (2, [.int (nI cd), .int (nI G), .int (nI R), .long (lN en), .long (lN nw), .int (nI ms.length), .ref qn, .ref qk, .int (nI mo), .long (lN la), .long (lN go), .long (lN sp)])), (qn, .inl (cI, 1200, .inl f)), (qk, .inl (cI, 1200, .inl g))] sz)) 0 0 (va_A [(b, .inr (2, [.int (nI cd), .int (nI G), .int (nI R), .long (lN en), .long (lN nw), .int (nI ms.length), .ref qn, .ref qk, .int (nI mo), .long (lN la), .long (lN go), .long (lN sp)])), (qn, .inl (cI, 1200, .inl f)), (qk, .inl (cI, 1200, .inl g))] sz) := by
  refine ag_ofW (Qf := fun A => va_Qi (fun (_ : Int32) (_ : Unit) => True) (ag_to (dC, dI) agCl [(cI, .int)] A (fun _ : Unit => [(b, .inr (2, [.int (nI 1), .int (nI G), .int (nI R), .long (lN en), .long (lN nw), .int (nI ms.length), .ref qn, .ref qk, .int (nI mo), .long (lN la), .long (lN go), .long (lN sp)])), (qn, .inl (cI, 1200, .inl f)), (qk, .inl (cI, 1200, .inl g))])) A) (cc := b_M_run) (maxL := 3) (ret := (some .int)) (lv := [(0, .ref b), (1, .int x)]) (by decide) rfl (Nat.le_of_ble_eq_true rfl) rfl (fun p e s m below meth c A ls hx hb hr hts hown hlocks hml hnm hA hS hP hK hD hl hsz => ?_)
  have hown : s.vm.findClass "AgedMarksModel" = some m.cls := hown
  have ht : ∀ w ∈ agW, w.before [.ref b, .int x].toArray s = true := fun w h => hts w (List.mem_cons_of_mem _ h)
  refine lv_aload_n hx hb d_M_run_0 rfl (lv_at hl 0 rfl) ?_
  refine lv_iload_n hx hb d_M_run_1 rfl (lv_at hl 1 rfl) ?_
  refine lv_if_lt (tgt := 12) hx hb d_M_run_2 (by decide) (fun c2 => ?_) (fun c2 => ?_)
  · have h_n := trivial
    refine ag_iconst hx hb 1 d_M_run_12 (by decide) ?_
    refine lv_goto (tgt := 17) hx hb d_M_run_13 (by decide) ?_
    refine lv_iload_n hx hb d_M_run_17 rfl (lv_at hl 1 rfl) ?_
    refine lv_if_lt (tgt := 52) hx hb d_M_run_18 (by decide) (fun c18 => ?_) (fun c18 => ?_)
    · have h_n := trivial
      refine ag_iconst hx hb 0 d_M_run_52 (by decide) ?_
      have hPc := hP.sub (ws' := [(b, .inr (2, [.int (nI cd), .int (nI G), .int (nI R), .long (lN en), .long (lN nw), .int (nI ms.length), .ref qn, .ref qk, .int (nI mo), .long (lN la), .long (lN go), .long (lN sp)])), (qn, .inl (cI, 1200, .inl f)), (qk, .inl (cI, 1200, .inl g))]) [0, 1, 2] rfl
      have hDc := hD.sub (ws' := [(b, .inr (2, [.int (nI cd), .int (nI G), .int (nI R), .long (lN en), .long (lN nw), .int (nI ms.length), .ref qn, .ref qk, .int (nI mo), .long (lN la), .long (lN go), .long (lN sp)])), (qn, .inl (cI, 1200, .inl f)), (qk, .inl (cI, 1200, .inl g))]) [0, 1, 2] (by decide) rfl
      refine ag_cli (wc := [(b, .inr (2, [.int (nI cd), .int (nI G), .int (nI R), .long (lN en), .long (lN nw), .int (nI ms.length), .ref qn, .ref qk, .int (nI mo), .long (lN la), .long (lN go), .long (lN sp)])), (qn, .inl (cI, 1200, .inl f)), (qk, .inl (cI, 1200, .inl g))]) (wr := []) (Wf := fun _ : Unit => [(b, .inr (2, [.int (nI (if 1 = 1 then 1 else if 0 = 1 then 2 else 0)), .int (nI G), .int (nI R), .long (lN en), .long (lN nw), .int (nI ms.length), .ref qn, .ref qk, .int (nI mo), .long (lN la), .long (lN go), .long (lN sp)])), (qn, .inl (cI, 1200, .inl f)), (qk, .inl (cI, 1200, .inl g))]) hP hD hS hA [0, 1, 2] [] rfl rfl (by decide) (by decide) (va_runV (C := "AgedMarksModel") (As := [.int (nI 1), .int (nI 0)]) (rest := []) ⟨hx, hb, hml, hown, hts⟩ (c_M_fails l dC dI s.heap.size b qn qk cI cd G R en nw mo la go sp f g ms 1 0 (by decide) (by decide)) (ag_cwV 2 hts mw_m_M_54 mw_instanceMethod_M_fails mw_sel_M_fails mw_ini_M mw_code_M_fails rfl rfl (by decide +kernel) ⟨Nat.le_of_ble_eq_true rfl, Nat.le_of_ble_eq_true rfl⟩) ⟨ag_blind, va_recv hK hPc (ci := 2) (q0 := 0) rfl rfl, ag_pre hPc hK hDc⟩ rfl rfl hl.1 rfl (lv_room (Nat.le_of_ble_eq_true rfl)) d_M_run_53 ⟨Nat.le_of_ble_eq_true rfl, Nat.le_of_ble_eq_true rfl⟩) (fun r1 u H locs hw hP hD hS => ?_)
      try dsimp only at hw
      subst hw
      have hP : va_P (dC, dI) agCl [(b, .inr (2, [.int (nI 1), .int (nI G), .int (nI R), .long (lN en), .long (lN nw), .int (nI ms.length), .ref qn, .ref qk, .int (nI mo), .long (lN la), .long (lN go), .long (lN sp)])), (qn, .inl (cI, 1200, .inl f)), (qk, .inl (cI, 1200, .inl g))] H := hP
      have hD : va_D A [(b, .inr (2, [.int (nI 1), .int (nI G), .int (nI R), .long (lN en), .long (lN nw), .int (nI ms.length), .ref qn, .ref qk, .int (nI mo), .long (lN la), .long (lN go), .long (lN sp)])), (qn, .inl (cI, 1200, .inl f)), (qk, .inl (cI, 1200, .inl g))] := hD
      refine lv_if_eq (tgt := 61) hx hb d_M_run_56 (by decide) (fun c56 => ?_) (fun c56 => ?_)
      · have h_n := trivial
        exact absurd c56 (by decide)
      · have h_n := trivial
        refine ag_iconst hx hb 0 d_M_run_59 (by decide) ?_
        exact ag_reti hx hb hr hlocks () trivial hP hK hD hS d_M_run_60
    · have h_n := trivial
      exact absurd c2 c18
  · have h_n := trivial
    obtain ⟨n, hn31, rfl⟩ := nI_of c2
    rw [nI_toInt hn31] at hno
    refine lv_iload_n hx hb d_M_run_5 rfl (lv_at hl 1 rfl) ?_
    refine ag_sipush hx hb 4000 d_M_run_6 (by decide) ?_
    refine ag_icmp_le (tgt := 16) hx hb d_M_run_9 (by decide) (by omega) (by omega) (fun c9 => ?_) (fun c9 => ?_)
    · have h_n := trivial
      exact absurd ⟨by omega, by omega⟩ hno
    · have h_n := trivial
      refine ag_iconst hx hb 1 d_M_run_12 (by decide) ?_
      refine lv_goto (tgt := 17) hx hb d_M_run_13 (by decide) ?_
      refine lv_iload_n hx hb d_M_run_17 rfl (lv_at hl 1 rfl) ?_
      refine ag_if_lt (tgt := 52) hx hb d_M_run_18 (by decide) (by omega) ?_
      refine lv_iload_n hx hb d_M_run_21 rfl (lv_at hl 1 rfl) ?_
      refine ag_sipush hx hb 4000 d_M_run_22 (by decide) ?_
      refine ag_icmp_gt (tgt := 52) hx hb d_M_run_25 (by decide) (by omega) (by omega) (fun c25 => ?_) (fun c25 => ?_)
      · have h_n := trivial
        refine ag_iconst hx hb 0 d_M_run_52 (by decide) ?_
        have hPc := hP.sub (ws' := [(b, .inr (2, [.int (nI cd), .int (nI G), .int (nI R), .long (lN en), .long (lN nw), .int (nI ms.length), .ref qn, .ref qk, .int (nI mo), .long (lN la), .long (lN go), .long (lN sp)])), (qn, .inl (cI, 1200, .inl f)), (qk, .inl (cI, 1200, .inl g))]) [0, 1, 2] rfl
        have hDc := hD.sub (ws' := [(b, .inr (2, [.int (nI cd), .int (nI G), .int (nI R), .long (lN en), .long (lN nw), .int (nI ms.length), .ref qn, .ref qk, .int (nI mo), .long (lN la), .long (lN go), .long (lN sp)])), (qn, .inl (cI, 1200, .inl f)), (qk, .inl (cI, 1200, .inl g))]) [0, 1, 2] (by decide) rfl
        refine ag_cli (wc := [(b, .inr (2, [.int (nI cd), .int (nI G), .int (nI R), .long (lN en), .long (lN nw), .int (nI ms.length), .ref qn, .ref qk, .int (nI mo), .long (lN la), .long (lN go), .long (lN sp)])), (qn, .inl (cI, 1200, .inl f)), (qk, .inl (cI, 1200, .inl g))]) (wr := []) (Wf := fun _ : Unit => [(b, .inr (2, [.int (nI (if 1 = 1 then 1 else if 0 = 1 then 2 else 0)), .int (nI G), .int (nI R), .long (lN en), .long (lN nw), .int (nI ms.length), .ref qn, .ref qk, .int (nI mo), .long (lN la), .long (lN go), .long (lN sp)])), (qn, .inl (cI, 1200, .inl f)), (qk, .inl (cI, 1200, .inl g))]) hP hD hS hA [0, 1, 2] [] rfl rfl (by decide) (by decide) (va_runV (C := "AgedMarksModel") (As := [.int (nI 1), .int (nI 0)]) (rest := []) ⟨hx, hb, hml, hown, hts⟩ (c_M_fails l dC dI s.heap.size b qn qk cI cd G R en nw mo la go sp f g ms 1 0 (by decide) (by decide)) (ag_cwV 2 hts mw_m_M_54 mw_instanceMethod_M_fails mw_sel_M_fails mw_ini_M mw_code_M_fails rfl rfl (by decide +kernel) ⟨Nat.le_of_ble_eq_true rfl, Nat.le_of_ble_eq_true rfl⟩) ⟨ag_blind, va_recv hK hPc (ci := 2) (q0 := 0) rfl rfl, ag_pre hPc hK hDc⟩ rfl rfl hl.1 rfl (lv_room (Nat.le_of_ble_eq_true rfl)) d_M_run_53 ⟨Nat.le_of_ble_eq_true rfl, Nat.le_of_ble_eq_true rfl⟩) (fun r2 u H locs hw hP hD hS => ?_)
        try dsimp only at hw
        subst hw
        have hP : va_P (dC, dI) agCl [(b, .inr (2, [.int (nI 1), .int (nI G), .int (nI R), .long (lN en), .long (lN nw), .int (nI ms.length), .ref qn, .ref qk, .int (nI mo), .long (lN la), .long (lN go), .long (lN sp)])), (qn, .inl (cI, 1200, .inl f)), (qk, .inl (cI, 1200, .inl g))] H := hP
        have hD : va_D A [(b, .inr (2, [.int (nI 1), .int (nI G), .int (nI R), .long (lN en), .long (lN nw), .int (nI ms.length), .ref qn, .ref qk, .int (nI mo), .long (lN la), .long (lN go), .long (lN sp)])), (qn, .inl (cI, 1200, .inl f)), (qk, .inl (cI, 1200, .inl g))] := hD
        refine lv_if_eq (tgt := 61) hx hb d_M_run_56 (by decide) (fun c56 => ?_) (fun c56 => ?_)
        · have h_n := trivial
          exact absurd c56 (by decide)
        · have h_n := trivial
          refine ag_iconst hx hb 0 d_M_run_59 (by decide) ?_
          exact ag_reti hx hb hr hlocks () trivial hP hK hD hS d_M_run_60
      · have h_n := trivial
        exact absurd c25 (by omega)

set_option maxHeartbeats 4000000 in
set_option maxRecDepth 100000 in
/-- run(n), too far -/
theorem c_M_run_2 (l : Launch) (dC : Nat → ClassId) (dI : Nat → Nat → Nat) (sz : Nat) (b qn qk : Nat) (cI : ClassId) (cd G R en nw mo la go sp : Nat) (f g : Nat → Int32) (ms : ag_M) (n : Nat) (hn : n ≤ 4000) (hG2 : G ≤ 1000) (hnw : nw ≤ 1000000 * G) (hbig : 1000000 * G < nw + n) : Met l y_M_run (Cond.code y_M_run b_M_run 3 (some .int) :: agW) ({ frames := 2, cells := 0, slots := 0, locals := 70 }) (va_Pc [.ref b, .int (nI n)] (ag_at (dC, dI) agCl [(cI, .int)] sz [(b, .inr (2, [.int (nI cd), .int (nI G), .int (nI R), .long (lN en), .long (lN nw), .int (nI ms.length), .ref qn, .ref qk, .int (nI mo), .long (lN la), .long (lN go), .long (lN sp)])), (qn, .inl (cI, 1200, .inl f)), (qk, .inl (cI, 1200, .inl g))])) (va_Qi (fun (_ : Int32) (_ : Unit) => True) (ag_to (dC, dI) agCl [(cI, .int)] (va_A [(b, .inr (2, [.int (nI cd), .int (nI G), .int (nI R), .long (lN en), .long (lN nw), .int (nI ms.length), .ref qn, .ref qk, .int (nI mo), .long (lN la), .long (lN go), .long (lN sp)])), (qn, .inl (cI, 1200, .inl f)), (qk, .inl (cI, 1200, .inl g))] sz) (fun _ : Unit => [(b, .inr (2, [.int (nI 2), .int (nI G), .int (nI R), .long (lN en), .long (lN nw), .int (nI ms.length), .ref qn, .ref qk, .int (nI mo), .long (lN la), .long (lN go), .long (lN sp)])), (qn, .inl (cI, 1200, .inl f)), (qk, .inl (cI, 1200, .inl g))])) (va_A [(b, .inr (2, [.int (nI cd), .int (nI G), .int (nI R), .long (lN en), .long (lN nw), .int (nI ms.length), .ref qn, .ref qk, .int (nI mo), .long (lN la), .long (lN go), .long (lN sp)])), (qn, .inl (cI, 1200, .inl f)), (qk, .inl (cI, 1200, .inl g))] sz)) 0 0 (va_A [(b, .inr (2, [.int (nI cd), .int (nI G), .int (nI R), .long (lN en), .long (lN nw), .int (nI ms.length), .ref qn, .ref qk, .int (nI mo), .long (lN la), .long (lN go), .long (lN sp)])), (qn, .inl (cI, 1200, .inl f)), (qk, .inl (cI, 1200, .inl g))] sz) := by
  refine ag_ofW (Qf := fun A => va_Qi (fun (_ : Int32) (_ : Unit) => True) (ag_to (dC, dI) agCl [(cI, .int)] A (fun _ : Unit => [(b, .inr (2, [.int (nI 2), .int (nI G), .int (nI R), .long (lN en), .long (lN nw), .int (nI ms.length), .ref qn, .ref qk, .int (nI mo), .long (lN la), .long (lN go), .long (lN sp)])), (qn, .inl (cI, 1200, .inl f)), (qk, .inl (cI, 1200, .inl g))])) A) (cc := b_M_run) (maxL := 3) (ret := (some .int)) (lv := [(0, .ref b), (1, .int (nI n))]) (by decide) rfl (Nat.le_of_ble_eq_true rfl) rfl (fun p e s m below meth c A ls hx hb hr hts hown hlocks hml hnm hA hS hP hK hD hl hsz => ?_)
  have hown : s.vm.findClass "AgedMarksModel" = some m.cls := hown
  have ht : ∀ w ∈ agW, w.before [.ref b, .int (nI n)].toArray s = true := fun w h => hts w (List.mem_cons_of_mem _ h)
  refine lv_aload_n hx hb d_M_run_0 rfl (lv_at hl 0 rfl) ?_
  refine lv_iload_n hx hb d_M_run_1 rfl (lv_at hl 1 rfl) ?_
  refine ag_if_lt (tgt := 12) hx hb d_M_run_2 (by decide) (by omega) ?_
  refine lv_iload_n hx hb d_M_run_5 rfl (lv_at hl 1 rfl) ?_
  refine ag_sipush hx hb 4000 d_M_run_6 (by decide) ?_
  refine ag_icmp_le (tgt := 16) hx hb d_M_run_9 (by decide) (by omega) (by omega) (fun c9 => ?_) (fun c9 => ?_)
  · have h_n := trivial
    refine ag_iconst hx hb 0 d_M_run_16 (by decide) ?_
    refine lv_iload_n hx hb d_M_run_17 rfl (lv_at hl 1 rfl) ?_
    refine ag_if_lt (tgt := 52) hx hb d_M_run_18 (by decide) (by omega) ?_
    refine lv_iload_n hx hb d_M_run_21 rfl (lv_at hl 1 rfl) ?_
    refine ag_sipush hx hb 4000 d_M_run_22 (by decide) ?_
    refine ag_icmp_gt (tgt := 52) hx hb d_M_run_25 (by decide) (by omega) (by omega) (fun c25 => ?_) (fun c25 => ?_)
    · have h_n := trivial
      exact absurd c25 (by omega)
    · have h_n := trivial
      refine lv_aload_n hx hb d_M_run_28 rfl (lv_at hl 0 rfl) ?_
      refine va_get (D := (dC, dI)) (ci := 2) (v := .long (lN nw)) (C := RX2) (T := TX2) (N := 12) hx hb ht inA2 hown hK hP 0 rfl rfl 4 (by decide) (ht _ mw_f_M_49) (fun _ h9 => h9) rfl d_M_run_29 ?_
      refine lv_iload_n hx hb d_M_run_32 rfl (lv_at hl 1 rfl) ?_
      refine lv_i2l (v := lN n) hx hb d_M_run_33 (nI_l (by omega)) ?_
      refine lv_ladd hx hb d_M_run_34 ?_
      refine ag_topl (lN (nw + n)) (lN_add _ _) ?_
      refine lv_ldc2 (v := lN 1000000) hx hb hown (ht _ mw_k_M_52) d_M_run_35 ?_
      refine lv_aload_n hx hb d_M_run_38 rfl (lv_at hl 0 rfl) ?_
      refine va_get (D := (dC, dI)) (ci := 2) (v := .int (nI G)) (C := RX2) (T := TX2) (N := 12) hx hb ht inA2 hown hK hP 0 rfl rfl 1 (by decide) (ht _ mw_f_M_23) (fun _ h9 => h9) rfl d_M_run_39 ?_
      refine lv_i2l (v := lN G) hx hb d_M_run_42 (nI_l (by omega)) ?_
      refine lv_lmul hx hb d_M_run_43 ?_
      refine ag_topl (lN (1000000 * G)) (lN_mul _ _) ?_
      refine ag_lc_le (tgt := 52) hx hb d_M_run_44 d_M_run_45 (by decide) (fun c44 => ?_) (fun c44 => ?_)
      · have h_n := trivial
        exact absurd ((pk_lLE (a := nw + n) (b := 1000000 * G) (by omega) (by omega)).mp c44) (by omega)
      · have h_n := trivial
        refine ag_iconst hx hb 1 d_M_run_48 (by decide) ?_
        refine lv_goto (tgt := 53) hx hb d_M_run_49 (by decide) ?_
        have hPc := hP.sub (ws' := [(b, .inr (2, [.int (nI cd), .int (nI G), .int (nI R), .long (lN en), .long (lN nw), .int (nI ms.length), .ref qn, .ref qk, .int (nI mo), .long (lN la), .long (lN go), .long (lN sp)])), (qn, .inl (cI, 1200, .inl f)), (qk, .inl (cI, 1200, .inl g))]) [0, 1, 2] rfl
        have hDc := hD.sub (ws' := [(b, .inr (2, [.int (nI cd), .int (nI G), .int (nI R), .long (lN en), .long (lN nw), .int (nI ms.length), .ref qn, .ref qk, .int (nI mo), .long (lN la), .long (lN go), .long (lN sp)])), (qn, .inl (cI, 1200, .inl f)), (qk, .inl (cI, 1200, .inl g))]) [0, 1, 2] (by decide) rfl
        refine ag_cli (wc := [(b, .inr (2, [.int (nI cd), .int (nI G), .int (nI R), .long (lN en), .long (lN nw), .int (nI ms.length), .ref qn, .ref qk, .int (nI mo), .long (lN la), .long (lN go), .long (lN sp)])), (qn, .inl (cI, 1200, .inl f)), (qk, .inl (cI, 1200, .inl g))]) (wr := []) (Wf := fun _ : Unit => [(b, .inr (2, [.int (nI (if 0 = 1 then 1 else if 1 = 1 then 2 else 0)), .int (nI G), .int (nI R), .long (lN en), .long (lN nw), .int (nI ms.length), .ref qn, .ref qk, .int (nI mo), .long (lN la), .long (lN go), .long (lN sp)])), (qn, .inl (cI, 1200, .inl f)), (qk, .inl (cI, 1200, .inl g))]) hP hD hS hA [0, 1, 2] [] rfl rfl (by decide) (by decide) (va_runV (C := "AgedMarksModel") (As := [.int (nI 0), .int (nI 1)]) (rest := []) ⟨hx, hb, hml, hown, hts⟩ (c_M_fails l dC dI s.heap.size b qn qk cI cd G R en nw mo la go sp f g ms 0 1 (by decide) (by decide)) (ag_cwV 2 hts mw_m_M_54 mw_instanceMethod_M_fails mw_sel_M_fails mw_ini_M mw_code_M_fails rfl rfl (by decide +kernel) ⟨Nat.le_of_ble_eq_true rfl, Nat.le_of_ble_eq_true rfl⟩) ⟨ag_blind, va_recv hK hPc (ci := 2) (q0 := 0) rfl rfl, ag_pre hPc hK hDc⟩ rfl rfl hl.1 rfl (lv_room (Nat.le_of_ble_eq_true rfl)) d_M_run_53 ⟨Nat.le_of_ble_eq_true rfl, Nat.le_of_ble_eq_true rfl⟩) (fun r1 u H locs hw hP hD hS => ?_)
        try dsimp only at hw
        subst hw
        have hP : va_P (dC, dI) agCl [(b, .inr (2, [.int (nI 2), .int (nI G), .int (nI R), .long (lN en), .long (lN nw), .int (nI ms.length), .ref qn, .ref qk, .int (nI mo), .long (lN la), .long (lN go), .long (lN sp)])), (qn, .inl (cI, 1200, .inl f)), (qk, .inl (cI, 1200, .inl g))] H := hP
        have hD : va_D A [(b, .inr (2, [.int (nI 2), .int (nI G), .int (nI R), .long (lN en), .long (lN nw), .int (nI ms.length), .ref qn, .ref qk, .int (nI mo), .long (lN la), .long (lN go), .long (lN sp)])), (qn, .inl (cI, 1200, .inl f)), (qk, .inl (cI, 1200, .inl g))] := hD
        refine lv_if_eq (tgt := 61) hx hb d_M_run_56 (by decide) (fun c56 => ?_) (fun c56 => ?_)
        · have h_n := trivial
          exact absurd c56 (by decide)
        · have h_n := trivial
          refine ag_iconst hx hb 0 d_M_run_59 (by decide) ?_
          exact ag_reti hx hb hr hlocks () trivial hP hK hD hS d_M_run_60
  · have h_n := trivial
    exact absurd c9 (by omega)

set_option maxHeartbeats 4000000 in
set_option maxRecDepth 100000 in
/-- run(n) -/
theorem c_M_run_0 (l : Launch) (dC : Nat → ClassId) (dI : Nat → Nat → Nat) (sz : Nat) (b qn qk : Nat) (cI : ClassId) (cd G R en nw mo la go sp : Nat) (f g : Nat → Int32) (ms : ag_M) (n : Nat) (hG : 1 ≤ G) (hG2 : G ≤ 1000) (hR2 : 2 ≤ R) (hR16 : R ≤ 16) (hmo : mo ≤ 300) (hn : n ≤ 4000) (hen : en ≤ 1000000 * G) (hle : nw + n ≤ 1000000 * G) (hin : ag_in R (en / G) ms) (hrep : ag_rpm ms f g) : Met l y_M_run (Cond.code y_M_run b_M_run 3 (some .int) :: agW) ({ frames := 2, cells := 0, slots := 0, locals := 70 }) (va_Pc [.ref b, .int (nI n)] (ag_at (dC, dI) agCl [(cI, .int)] sz [(b, .inr (2, [.int (nI cd), .int (nI G), .int (nI R), .long (lN en), .long (lN nw), .int (nI ms.length), .ref qn, .ref qk, .int (nI mo), .long (lN la), .long (lN go), .long (lN sp)])), (qn, .inl (cI, 1200, .inl f)), (qk, .inl (cI, 1200, .inl g))])) (va_Qi (fun (r : Int32) (u : ag_T × (Nat → Int32) × (Nat → Int32)) => r = nI (max en (nw + n) / G - en / G) ∧ u.1 = ag_grow R (en / G) (max en (nw + n) / G - en / G) (ms, mo, la, go) ∧ ag_rpm u.1.1 u.2.1 u.2.2) (ag_to (dC, dI) agCl [(cI, .int)] (va_A [(b, .inr (2, [.int (nI cd), .int (nI G), .int (nI R), .long (lN en), .long (lN nw), .int (nI ms.length), .ref qn, .ref qk, .int (nI mo), .long (lN la), .long (lN go), .long (lN sp)])), (qn, .inl (cI, 1200, .inl f)), (qk, .inl (cI, 1200, .inl g))] sz) (fun u : ag_T × (Nat → Int32) × (Nat → Int32) => [(b, .inr (2, [.int (nI 0), .int (nI G), .int (nI R), .long (lN (max en (nw + n))), .long (lN (nw + n)), .int (nI u.1.1.length), .ref qn, .ref qk, .int (nI u.1.2.1), .long (lN u.1.2.2.1), .long (lN u.1.2.2.2), .long (lN sp)])), (qn, .inl (cI, 1200, .inl u.2.1)), (qk, .inl (cI, 1200, .inl u.2.2))])) (va_A [(b, .inr (2, [.int (nI cd), .int (nI G), .int (nI R), .long (lN en), .long (lN nw), .int (nI ms.length), .ref qn, .ref qk, .int (nI mo), .long (lN la), .long (lN go), .long (lN sp)])), (qn, .inl (cI, 1200, .inl f)), (qk, .inl (cI, 1200, .inl g))] sz)) 0 0 (va_A [(b, .inr (2, [.int (nI cd), .int (nI G), .int (nI R), .long (lN en), .long (lN nw), .int (nI ms.length), .ref qn, .ref qk, .int (nI mo), .long (lN la), .long (lN go), .long (lN sp)])), (qn, .inl (cI, 1200, .inl f)), (qk, .inl (cI, 1200, .inl g))] sz) := by
  refine ag_ofW (Qf := fun A => va_Qi (fun (r : Int32) (u : ag_T × (Nat → Int32) × (Nat → Int32)) => r = nI (max en (nw + n) / G - en / G) ∧ u.1 = ag_grow R (en / G) (max en (nw + n) / G - en / G) (ms, mo, la, go) ∧ ag_rpm u.1.1 u.2.1 u.2.2) (ag_to (dC, dI) agCl [(cI, .int)] A (fun u : ag_T × (Nat → Int32) × (Nat → Int32) => [(b, .inr (2, [.int (nI 0), .int (nI G), .int (nI R), .long (lN (max en (nw + n))), .long (lN (nw + n)), .int (nI u.1.1.length), .ref qn, .ref qk, .int (nI u.1.2.1), .long (lN u.1.2.2.1), .long (lN u.1.2.2.2), .long (lN sp)])), (qn, .inl (cI, 1200, .inl u.2.1)), (qk, .inl (cI, 1200, .inl u.2.2))])) A) (cc := b_M_run) (maxL := 3) (ret := (some .int)) (lv := [(0, .ref b), (1, .int (nI n))]) (by decide) rfl (Nat.le_of_ble_eq_true rfl) rfl (fun p e s m below meth c A ls hx hb hr hts hown hlocks hml hnm hA hS hP hK hD hl hsz => ?_)
  have hown : s.vm.findClass "AgedMarksModel" = some m.cls := hown
  have ht : ∀ w ∈ agW, w.before [.ref b, .int (nI n)].toArray s = true := fun w h => hts w (List.mem_cons_of_mem _ h)
  refine lv_aload_n hx hb d_M_run_0 rfl (lv_at hl 0 rfl) ?_
  refine lv_iload_n hx hb d_M_run_1 rfl (lv_at hl 1 rfl) ?_
  refine ag_if_lt (tgt := 12) hx hb d_M_run_2 (by decide) (by omega) ?_
  refine lv_iload_n hx hb d_M_run_5 rfl (lv_at hl 1 rfl) ?_
  refine ag_sipush hx hb 4000 d_M_run_6 (by decide) ?_
  refine ag_icmp_le (tgt := 16) hx hb d_M_run_9 (by decide) (by omega) (by omega) (fun c9 => ?_) (fun c9 => ?_)
  · have h_n := trivial
    refine ag_iconst hx hb 0 d_M_run_16 (by decide) ?_
    refine lv_iload_n hx hb d_M_run_17 rfl (lv_at hl 1 rfl) ?_
    refine ag_if_lt (tgt := 52) hx hb d_M_run_18 (by decide) (by omega) ?_
    refine lv_iload_n hx hb d_M_run_21 rfl (lv_at hl 1 rfl) ?_
    refine ag_sipush hx hb 4000 d_M_run_22 (by decide) ?_
    refine ag_icmp_gt (tgt := 52) hx hb d_M_run_25 (by decide) (by omega) (by omega) (fun c25 => ?_) (fun c25 => ?_)
    · have h_n := trivial
      exact absurd c25 (by omega)
    · have h_n := trivial
      refine lv_aload_n hx hb d_M_run_28 rfl (lv_at hl 0 rfl) ?_
      refine va_get (D := (dC, dI)) (ci := 2) (v := .long (lN nw)) (C := RX2) (T := TX2) (N := 12) hx hb ht inA2 hown hK hP 0 rfl rfl 4 (by decide) (ht _ mw_f_M_49) (fun _ h9 => h9) rfl d_M_run_29 ?_
      refine lv_iload_n hx hb d_M_run_32 rfl (lv_at hl 1 rfl) ?_
      refine lv_i2l (v := lN n) hx hb d_M_run_33 (nI_l (by omega)) ?_
      refine lv_ladd hx hb d_M_run_34 ?_
      refine ag_topl (lN (nw + n)) (lN_add _ _) ?_
      refine lv_ldc2 (v := lN 1000000) hx hb hown (ht _ mw_k_M_52) d_M_run_35 ?_
      refine lv_aload_n hx hb d_M_run_38 rfl (lv_at hl 0 rfl) ?_
      refine va_get (D := (dC, dI)) (ci := 2) (v := .int (nI G)) (C := RX2) (T := TX2) (N := 12) hx hb ht inA2 hown hK hP 0 rfl rfl 1 (by decide) (ht _ mw_f_M_23) (fun _ h9 => h9) rfl d_M_run_39 ?_
      refine lv_i2l (v := lN G) hx hb d_M_run_42 (nI_l (by omega)) ?_
      refine lv_lmul hx hb d_M_run_43 ?_
      refine ag_topl (lN (1000000 * G)) (lN_mul _ _) ?_
      refine ag_lc_le (tgt := 52) hx hb d_M_run_44 d_M_run_45 (by decide) (fun c44 => ?_) (fun c44 => ?_)
      · have h_n := trivial
        refine ag_iconst hx hb 0 d_M_run_52 (by decide) ?_
        have hPc := hP.sub (ws' := [(b, .inr (2, [.int (nI cd), .int (nI G), .int (nI R), .long (lN en), .long (lN nw), .int (nI ms.length), .ref qn, .ref qk, .int (nI mo), .long (lN la), .long (lN go), .long (lN sp)])), (qn, .inl (cI, 1200, .inl f)), (qk, .inl (cI, 1200, .inl g))]) [0, 1, 2] rfl
        have hDc := hD.sub (ws' := [(b, .inr (2, [.int (nI cd), .int (nI G), .int (nI R), .long (lN en), .long (lN nw), .int (nI ms.length), .ref qn, .ref qk, .int (nI mo), .long (lN la), .long (lN go), .long (lN sp)])), (qn, .inl (cI, 1200, .inl f)), (qk, .inl (cI, 1200, .inl g))]) [0, 1, 2] (by decide) rfl
        refine ag_cli (wc := [(b, .inr (2, [.int (nI cd), .int (nI G), .int (nI R), .long (lN en), .long (lN nw), .int (nI ms.length), .ref qn, .ref qk, .int (nI mo), .long (lN la), .long (lN go), .long (lN sp)])), (qn, .inl (cI, 1200, .inl f)), (qk, .inl (cI, 1200, .inl g))]) (wr := []) (Wf := fun _ : Unit => [(b, .inr (2, [.int (nI (if 0 = 1 then 1 else if 0 = 1 then 2 else 0)), .int (nI G), .int (nI R), .long (lN en), .long (lN nw), .int (nI ms.length), .ref qn, .ref qk, .int (nI mo), .long (lN la), .long (lN go), .long (lN sp)])), (qn, .inl (cI, 1200, .inl f)), (qk, .inl (cI, 1200, .inl g))]) hP hD hS hA [0, 1, 2] [] rfl rfl (by decide) (by decide) (va_runV (C := "AgedMarksModel") (As := [.int (nI 0), .int (nI 0)]) (rest := []) ⟨hx, hb, hml, hown, hts⟩ (c_M_fails l dC dI s.heap.size b qn qk cI cd G R en nw mo la go sp f g ms 0 0 (by decide) (by decide)) (ag_cwV 2 hts mw_m_M_54 mw_instanceMethod_M_fails mw_sel_M_fails mw_ini_M mw_code_M_fails rfl rfl (by decide +kernel) ⟨Nat.le_of_ble_eq_true rfl, Nat.le_of_ble_eq_true rfl⟩) ⟨ag_blind, va_recv hK hPc (ci := 2) (q0 := 0) rfl rfl, ag_pre hPc hK hDc⟩ rfl rfl hl.1 rfl (lv_room (Nat.le_of_ble_eq_true rfl)) d_M_run_53 ⟨Nat.le_of_ble_eq_true rfl, Nat.le_of_ble_eq_true rfl⟩) (fun r1 u H locs hw hP hD hS => ?_)
        try dsimp only at hw
        subst hw
        have hP : va_P (dC, dI) agCl [(b, .inr (2, [.int (nI 0), .int (nI G), .int (nI R), .long (lN en), .long (lN nw), .int (nI ms.length), .ref qn, .ref qk, .int (nI mo), .long (lN la), .long (lN go), .long (lN sp)])), (qn, .inl (cI, 1200, .inl f)), (qk, .inl (cI, 1200, .inl g))] H := hP
        have hD : va_D A [(b, .inr (2, [.int (nI 0), .int (nI G), .int (nI R), .long (lN en), .long (lN nw), .int (nI ms.length), .ref qn, .ref qk, .int (nI mo), .long (lN la), .long (lN go), .long (lN sp)])), (qn, .inl (cI, 1200, .inl f)), (qk, .inl (cI, 1200, .inl g))] := hD
        refine lv_if_eq (tgt := 61) hx hb d_M_run_56 (by decide) (fun c56 => ?_) (fun c56 => ?_)
        · have h_n := trivial
          refine lv_aload_n hx hb d_M_run_61 rfl (lv_at hl 0 rfl) ?_
          refine lv_dup hx hb d_M_run_62 rfl ?_
          refine va_get (D := (dC, dI)) (ci := 2) (v := .long (lN nw)) (C := RX2) (T := TX2) (N := 12) hx hb ht inA2 hown hK hP 0 rfl rfl 4 (by decide) (ht _ mw_f_M_49) (fun _ h9 => h9) rfl d_M_run_63 ?_
          refine lv_iload_n hx hb d_M_run_66 rfl (lv_at hl 1 rfl) ?_
          refine lv_i2l (v := lN n) hx hb d_M_run_67 (nI_l (by omega)) ?_
          refine lv_ladd hx hb d_M_run_68 ?_
          refine ag_topl (lN (nw + n)) (lN_add _ _) ?_
          refine va_put (D := (dC, dI)) (ci := 2) (v := .long (lN (nw + n))) (ty := .long) (C := RX2) (T := TX2) (N := 12) hx hb ht inA2 tyX2 tyX2_ok nmX2 hown hK hP hD hS 0 rfl rfl 4 (by decide) (ht _ mw_f_M_49) (fun _ h9 => h9) rfl (by decide +kernel) rfl rfl (Nat.le_of_ble_eq_true rfl) d_M_run_69 (fun H locs hP hD hS => ?_)
          have hP : va_P (dC, dI) agCl [(b, .inr (2, [.int (nI 0), .int (nI G), .int (nI R), .long (lN en), .long (lN (nw + n)), .int (nI ms.length), .ref qn, .ref qk, .int (nI mo), .long (lN la), .long (lN go), .long (lN sp)])), (qn, .inl (cI, 1200, .inl f)), (qk, .inl (cI, 1200, .inl g))] H := hP
          have hD : va_D A [(b, .inr (2, [.int (nI 0), .int (nI G), .int (nI R), .long (lN en), .long (lN (nw + n)), .int (nI ms.length), .ref qn, .ref qk, .int (nI mo), .long (lN la), .long (lN go), .long (lN sp)])), (qn, .inl (cI, 1200, .inl f)), (qk, .inl (cI, 1200, .inl g))] := hD
          refine ag_iconst hx hb 0 d_M_run_72 (by decide) ?_
          refine lv_istore_n (lv' := [(2, .int (nI 0)), (0, .ref b), (1, .int (nI n))]) hx hb d_M_run_73 rfl hl (by decide) rfl (fun ls hl => ?_)
          have loop : ∀ (q e9 : Nat), en ≤ e9 → (e9 = en ∨ e9 ≤ nw + n) → nw + n < e9 + q → ∀ (ms1 : ag_M) (mo1 la1 go1 : Nat), ag_grow R (en / G) (e9 / G - en / G) (ms, mo, la, go) = (ms1, mo1, la1, go1) → ag_in R (e9 / G) ms1 → mo1 ≤ 300 → ∀ (f1 g1 : Nat → Int32), ag_rpm ms1 f1 g1 → ∀ (H : Heap) (locs : List Loc), va_P (dC, dI) agCl [(b, .inr (2, [.int (nI 0), .int (nI G), .int (nI R), .long (lN e9), .long (lN (nw + n)), .int (nI ms1.length), .ref qn, .ref qk, .int (nI mo1), .long (lN la1), .long (lN go1), .long (lN sp)])), (qn, .inl (cI, 1200, .inl f1)), (qk, .inl (cI, 1200, .inl g1))] H → va_D A [(b, .inr (2, [.int (nI 0), .int (nI G), .int (nI R), .long (lN e9), .long (lN (nw + n)), .int (nI ms1.length), .ref qn, .ref qk, .int (nI mo1), .long (lN la1), .long (lN go1), .long (lN sp)])), (qn, .inl (cI, 1200, .inl f1)), (qk, .inl (cI, 1200, .inl g1))] → va_S A s.heap H locs → ∀ ls : Array Slot, lv_has ls 3 [(2, .int (nI (e9 / G - en / G))), (0, .ref b), (1, .int (nI n))] → W p l e { frames := 2, cells := 0, slots := 0, locals := 70 } s m [.ref b, .int (nI n)].toArray below meth c H locs 0 0 (MQ below (va_Qi (fun (r : Int32) (u : ag_T × (Nat → Int32) × (Nat → Int32)) => r = nI (max en (nw + n) / G - en / G) ∧ u.1 = ag_grow R (en / G) (max en (nw + n) / G - en / G) (ms, mo, la, go) ∧ ag_rpm u.1.1 u.2.1 u.2.2) (ag_to (dC, dI) agCl [(cI, .int)] A (fun u : ag_T × (Nat → Int32) × (Nat → Int32) => [(b, .inr (2, [.int (nI 0), .int (nI G), .int (nI R), .long (lN (max en (nw + n))), .long (lN (nw + n)), .int (nI u.1.1.length), .ref qn, .ref qk, .int (nI u.1.2.1), .long (lN u.1.2.2.1), .long (lN u.1.2.2.2), .long (lN sp)])), (qn, .inl (cI, 1200, .inl u.2.1)), (qk, .inl (cI, 1200, .inl u.2.2))])) A) [.ref b, .int (nI n)].toArray s 0 0 A) (F0 m 74 ls []) := by
            intro q
            induction q with
            | zero =>
              intro e9 hee hor hq ms1 mo1 la1 go1 hU hin1 hmo1 f1 g1 hrep1 H locs hP hD hS ls hl
              have he6 : e9 ≤ 1000000 * G := by rcases hor with h | h <;> omega
              refine lv_aload_n hx hb d_M_run_74 rfl (lv_at hl 1 rfl) ?_
              refine va_get (D := (dC, dI)) (ci := 2) (v := .long (lN e9)) (C := RX2) (T := TX2) (N := 12) hx hb ht inA2 hown hK hP 0 rfl rfl 3 (by decide) (ht _ mw_f_M_58) (fun _ h9 => h9) rfl d_M_run_75 ?_
              refine lv_aload_n hx hb d_M_run_78 rfl (lv_at hl 1 rfl) ?_
              refine va_get (D := (dC, dI)) (ci := 2) (v := .long (lN (nw + n))) (C := RX2) (T := TX2) (N := 12) hx hb ht inA2 hown hK hP 0 rfl rfl 4 (by decide) (ht _ mw_f_M_49) (fun _ h9 => h9) rfl d_M_run_79 ?_
              refine ag_lc_ge (tgt := 135) hx hb d_M_run_82 d_M_run_83 (by decide) (fun c82 => ?_) (fun c82 => ?_)
              · have h_n := trivial
                have hge := (pk_lLE (a := nw + n) (b := e9) (by omega) (by omega)).mp c82
                have hE : e9 = max en (nw + n) := by
                  rcases hor with h | h
                  · rw [h, Nat.max_eq_left (by omega)]
                  · rw [Nat.max_eq_right (by omega)]; omega
                subst hE
                refine lv_iload_n hx hb d_M_run_135 rfl (lv_at hl 0 rfl) ?_
                exact ag_reti hx hb hr hlocks ((ms1, mo1, la1, go1), f1, g1) (⟨rfl, hU.symm, hrep1⟩) hP hK hD hS d_M_run_136
              · have h_n := trivial
                exact absurd ((pk_lLE (a := nw + n) (b := e9) (by omega) (by omega)).mpr (by omega)) c82
            | succ q ih =>
              intro e9 hee hor hq ms1 mo1 la1 go1 hU hin1 hmo1 f1 g1 hrep1 H locs hP hD hS ls hl
              have he6 : e9 ≤ 1000000 * G := by rcases hor with h | h <;> omega
              refine lv_aload_n hx hb d_M_run_74 rfl (lv_at hl 1 rfl) ?_
              refine va_get (D := (dC, dI)) (ci := 2) (v := .long (lN e9)) (C := RX2) (T := TX2) (N := 12) hx hb ht inA2 hown hK hP 0 rfl rfl 3 (by decide) (ht _ mw_f_M_58) (fun _ h9 => h9) rfl d_M_run_75 ?_
              refine lv_aload_n hx hb d_M_run_78 rfl (lv_at hl 1 rfl) ?_
              refine va_get (D := (dC, dI)) (ci := 2) (v := .long (lN (nw + n))) (C := RX2) (T := TX2) (N := 12) hx hb ht inA2 hown hK hP 0 rfl rfl 4 (by decide) (ht _ mw_f_M_49) (fun _ h9 => h9) rfl d_M_run_79 ?_
              refine ag_lc_ge (tgt := 135) hx hb d_M_run_82 d_M_run_83 (by decide) (fun c82 => ?_) (fun c82 => ?_)
              · have h_n := trivial
                have hge := (pk_lLE (a := nw + n) (b := e9) (by omega) (by omega)).mp c82
                have hE : e9 = max en (nw + n) := by
                  rcases hor with h | h
                  · rw [h, Nat.max_eq_left (by omega)]
                  · rw [Nat.max_eq_right (by omega)]; omega
                subst hE
                refine lv_iload_n hx hb d_M_run_135 rfl (lv_at hl 0 rfl) ?_
                exact ag_reti hx hb hr hlocks ((ms1, mo1, la1, go1), f1, g1) (⟨rfl, hU.symm, hrep1⟩) hP hK hD hS d_M_run_136
              · have h_n := trivial
                have hlt9 : e9 < nw + n := by have h9 := mt (pk_lLE (a := nw + n) (b := e9) (by omega) (by omega)).mpr c82; omega
                have hz9 : 0 ≤ en / G := Nat.zero_le _
                have hdv : en / G ≤ e9 / G := Nat.div_le_div_right hee
                have hdv2 : e9 / G ≤ (e9 + 1) / G := Nat.div_le_div_right (by omega)
                have hdx : (e9 + 1) / G ≤ 1000000 := Nat.div_le_of_le_mul (by rw [Nat.mul_comm]; omega)
                have hmodlt : (e9 + 1) % G < G := Nat.mod_lt _ (by omega)
                refine lv_aload_n hx hb d_M_run_86 rfl (lv_at hl 1 rfl) ?_
                refine lv_dup hx hb d_M_run_87 rfl ?_
                refine va_get (D := (dC, dI)) (ci := 2) (v := .long (lN e9)) (C := RX2) (T := TX2) (N := 12) hx hb ht inA2 hown hK hP 0 rfl rfl 3 (by decide) (ht _ mw_f_M_58) (fun _ h9 => h9) rfl d_M_run_88 ?_
                refine ag_lconst hx hb 1 d_M_run_91 (by decide) ?_
                refine lv_ladd hx hb d_M_run_92 ?_
                refine ag_topl (lN (e9 + 1)) (lN_add _ _) ?_
                refine va_put (D := (dC, dI)) (ci := 2) (v := .long (lN (e9 + 1))) (ty := .long) (C := RX2) (T := TX2) (N := 12) hx hb ht inA2 tyX2 tyX2_ok nmX2 hown hK hP hD hS 0 rfl rfl 3 (by decide) (ht _ mw_f_M_58) (fun _ h9 => h9) rfl (by decide +kernel) rfl rfl (Nat.le_of_ble_eq_true rfl) d_M_run_93 (fun H locs hP hD hS => ?_)
                have hP : va_P (dC, dI) agCl [(b, .inr (2, [.int (nI 0), .int (nI G), .int (nI R), .long (lN (e9 + 1)), .long (lN (nw + n)), .int (nI ms1.length), .ref qn, .ref qk, .int (nI mo1), .long (lN la1), .long (lN go1), .long (lN sp)])), (qn, .inl (cI, 1200, .inl f1)), (qk, .inl (cI, 1200, .inl g1))] H := hP
                have hD : va_D A [(b, .inr (2, [.int (nI 0), .int (nI G), .int (nI R), .long (lN (e9 + 1)), .long (lN (nw + n)), .int (nI ms1.length), .ref qn, .ref qk, .int (nI mo1), .long (lN la1), .long (lN go1), .long (lN sp)])), (qn, .inl (cI, 1200, .inl f1)), (qk, .inl (cI, 1200, .inl g1))] := hD
                refine lv_aload_n hx hb d_M_run_96 rfl (lv_at hl 1 rfl) ?_
                refine va_get (D := (dC, dI)) (ci := 2) (v := .long (lN (e9 + 1))) (C := RX2) (T := TX2) (N := 12) hx hb ht inA2 hown hK hP 0 rfl rfl 3 (by decide) (ht _ mw_f_M_58) (fun _ h9 => h9) rfl d_M_run_97 ?_
                refine lv_aload_n hx hb d_M_run_100 rfl (lv_at hl 1 rfl) ?_
                refine va_get (D := (dC, dI)) (ci := 2) (v := .int (nI G)) (C := RX2) (T := TX2) (N := 12) hx hb ht inA2 hown hK hP 0 rfl rfl 1 (by decide) (ht _ mw_f_M_23) (fun _ h9 => h9) rfl d_M_run_101 ?_
                refine lv_i2l (v := lN G) hx hb d_M_run_104 (nI_l (by omega)) ?_
                refine lv_lrem hx hb d_M_run_105 (fun z => absurd ((pk_lEQ (a := G) (b := 0) (by omega) (by omega)).mp z) (by omega)) ?_
                refine ag_topl (lN ((e9 + 1) % G)) (pk_lRem (by omega) (by omega) (by omega)) ?_
                refine ag_lconst hx hb 0 d_M_run_106 (by decide) ?_
                refine ag_lc_eq (tgt := 114) hx hb d_M_run_107 d_M_run_108 (by decide) (fun c107 => ?_) (fun c107 => ?_)
                · have h_n := trivial
                  have hm0 : (e9 + 1) % G = 0 := (pk_lEQ (a := (e9 + 1) % G) (b := 0) (by omega) (by omega)).mp c107
                  have hd1 : (e9 + 1) / G = e9 / G + 1 := Nat.succ_div_of_mod_eq_zero hm0
                  refine lv_aload_n hx hb d_M_run_114 rfl (lv_at hl 1 rfl) ?_
                  refine lv_aload_n hx hb d_M_run_115 rfl (lv_at hl 1 rfl) ?_
                  refine va_get (D := (dC, dI)) (ci := 2) (v := .long (lN (e9 + 1))) (C := RX2) (T := TX2) (N := 12) hx hb ht inA2 hown hK hP 0 rfl rfl 3 (by decide) (ht _ mw_f_M_58) (fun _ h9 => h9) rfl d_M_run_116 ?_
                  refine lv_aload_n hx hb d_M_run_119 rfl (lv_at hl 1 rfl) ?_
                  refine va_get (D := (dC, dI)) (ci := 2) (v := .int (nI G)) (C := RX2) (T := TX2) (N := 12) hx hb ht inA2 hown hK hP 0 rfl rfl 1 (by decide) (ht _ mw_f_M_23) (fun _ h9 => h9) rfl d_M_run_120 ?_
                  refine lv_i2l (v := lN G) hx hb d_M_run_123 (nI_l (by omega)) ?_
                  refine lv_ldiv hx hb d_M_run_124 (fun z => absurd ((pk_lEQ (a := G) (b := 0) (by omega) (by omega)).mp z) (by omega)) ?_
                  refine ag_topl (lN (e9 / G + 1)) (by rw [pk_lDiv (by omega) (by omega) (by omega), hd1]) ?_
                  refine lv_l2i (v := nI (e9 / G + 1)) hx hb d_M_run_125 (lN_i _) ?_
                  have hPc := hP.sub (ws' := [(b, .inr (2, [.int (nI 0), .int (nI G), .int (nI R), .long (lN (e9 + 1)), .long (lN (nw + n)), .int (nI ms1.length), .ref qn, .ref qk, .int (nI mo1), .long (lN la1), .long (lN go1), .long (lN sp)])), (qn, .inl (cI, 1200, .inl f1)), (qk, .inl (cI, 1200, .inl g1))]) [0, 1, 2] rfl
                  have hDc := hD.sub (ws' := [(b, .inr (2, [.int (nI 0), .int (nI G), .int (nI R), .long (lN (e9 + 1)), .long (lN (nw + n)), .int (nI ms1.length), .ref qn, .ref qk, .int (nI mo1), .long (lN la1), .long (lN go1), .long (lN sp)])), (qn, .inl (cI, 1200, .inl f1)), (qk, .inl (cI, 1200, .inl g1))]) [0, 1, 2] (by decide) rfl
                  refine ag_clv (wc := [(b, .inr (2, [.int (nI 0), .int (nI G), .int (nI R), .long (lN (e9 + 1)), .long (lN (nw + n)), .int (nI ms1.length), .ref qn, .ref qk, .int (nI mo1), .long (lN la1), .long (lN go1), .long (lN sp)])), (qn, .inl (cI, 1200, .inl f1)), (qk, .inl (cI, 1200, .inl g1))]) (wr := []) (Wf := fun u : (Nat → Int32) × (Nat → Int32) => [(b, .inr (2, [.int (nI 0), .int (nI G), .int (nI R), .long (lN (e9 + 1)), .long (lN (nw + n)), .int (nI ((ag_put R (e9 / G + 1) ms1).length)), .ref qn, .ref qk, .int (nI (max mo1 (ag_put R (e9 / G + 1) ms1).length)), .long (lN (la1 + 1)), .long (lN (go1 + (ms1.length + 1 - (ag_put R (e9 / G + 1) ms1).length))), .long (lN sp)])), (qn, .inl (cI, 1200, .inl u.1)), (qk, .inl (cI, 1200, .inl u.2))]) hP hD hS hA [0, 1, 2] [] rfl rfl (by decide) (by decide) (va_runV (C := "AgedMarksModel") (As := [.int (nI (e9 / G + 1))]) (rest := []) ⟨hx, hb, hml, hown, hts⟩ (c_M_lay l dC dI H.size b qn qk cI 0 G R (e9 + 1) (nw + n) mo1 la1 go1 sp f1 g1 ms1 (e9 / G) hR2 hR16 hmo1 (by omega) hin1 hrep1) (ag_cwV 1 hts mw_m_M_61 mw_instanceMethod_M_lay mw_sel_M_lay mw_ini_M mw_code_M_lay rfl rfl (by decide +kernel) ⟨Nat.le_of_ble_eq_true rfl, Nat.le_of_ble_eq_true rfl⟩) ⟨ag_blind, va_recv hK hPc (ci := 2) (q0 := 0) rfl rfl, ag_pre hPc hK hDc⟩ rfl rfl hl.1 rfl (lv_room (Nat.le_of_ble_eq_true rfl)) d_M_run_126 ⟨Nat.le_of_ble_eq_true rfl, Nat.le_of_ble_eq_true rfl⟩) (fun u H locs hw hP hD hS => ?_)
                  obtain ⟨f2, g2⟩ := u
                  try dsimp only at hw
                  have hP : va_P (dC, dI) agCl [(b, .inr (2, [.int (nI 0), .int (nI G), .int (nI R), .long (lN (e9 + 1)), .long (lN (nw + n)), .int (nI ((ag_put R (e9 / G + 1) ms1).length)), .ref qn, .ref qk, .int (nI (max mo1 (ag_put R (e9 / G + 1) ms1).length)), .long (lN (la1 + 1)), .long (lN (go1 + (ms1.length + 1 - (ag_put R (e9 / G + 1) ms1).length))), .long (lN sp)])), (qn, .inl (cI, 1200, .inl f2)), (qk, .inl (cI, 1200, .inl g2))] H := hP
                  have hD : va_D A [(b, .inr (2, [.int (nI 0), .int (nI G), .int (nI R), .long (lN (e9 + 1)), .long (lN (nw + n)), .int (nI ((ag_put R (e9 / G + 1) ms1).length)), .ref qn, .ref qk, .int (nI (max mo1 (ag_put R (e9 / G + 1) ms1).length)), .long (lN (la1 + 1)), .long (lN (go1 + (ms1.length + 1 - (ag_put R (e9 / G + 1) ms1).length))), .long (lN sp)])), (qn, .inl (cI, 1200, .inl f2)), (qk, .inl (cI, 1200, .inl g2))] := hD
                  have hin2 := ag_in_put hR2 hR16 (by omega) hin1
                  have hlen2 : (ag_put R (e9 / G + 1) ms1).length ≤ 300 := ag_il hR2 hR16 (by omega) hin2
                  have hcnt : (e9 + 1) / G - en / G = e9 / G - en / G + 1 := by omega
                  refine lv_iinc (v := nI (e9 / G - en / G + 1)) (lv' := [(2, .int (nI (e9 / G - en / G + 1))), (0, .ref b), (1, .int (nI n))]) hx hb d_M_run_129 hl (k := 0) rfl (nI_1 _) (by decide) rfl (fun ls hl => ?_)
                  refine lv_goto (tgt := 74) hx hb d_M_run_132 (by decide) ?_
                  refine ih (e9 + 1) (by omega) (Or.inr (by omega)) (by omega) _ _ _ _ ?_ (by rw [hd1]; exact hin2) (Nat.max_le.mpr ⟨hmo1, hlen2⟩) f2 g2 hw H locs hP hD hS ls (by rw [hcnt]; exact hl)
                  rw [hcnt]
                  show ag_step R (en / G + (e9 / G - en / G) + 1) (ag_grow R (en / G) (e9 / G - en / G) (ms, mo, la, go)) = _
                  rw [hU, show en / G + (e9 / G - en / G) = e9 / G by omega]
                  rfl
                · have h_n := trivial
                  have hm0 : (e9 + 1) % G ≠ 0 := fun z => c107 (by rw [z])
                  have hd1 : (e9 + 1) / G = e9 / G := Nat.succ_div_of_mod_ne_zero hm0
                  refine lv_goto (tgt := 74) hx hb d_M_run_111 (by decide) ?_
                  exact ih (e9 + 1) (by omega) (Or.inr (by omega)) (by omega) ms1 mo1 la1 go1 (by rw [hd1]; exact hU) (by rw [hd1]; exact hin1) hmo1 f1 g1 hrep1 H locs hP hD hS ls (by rw [hd1]; exact hl)
          exact loop (nw + n + 1) en (Nat.le_refl _) (Or.inl rfl) (by omega) ms mo la go (by rw [Nat.sub_self]; rfl) hin hmo f g hrep H locs hP hD hS ls (by rw [Nat.sub_self]; exact hl)
        · have h_n := trivial
          exact absurd (by decide) c56
      · have h_n := trivial
        exact absurd ((pk_lLE (a := nw + n) (b := 1000000 * G) (by omega) (by omega)).mpr hle) c44
  · have h_n := trivial
    exact absurd c9 (by omega)
end
section
section AgCl2
theorem ag_rpm0 : ag_rpm [(0, 0)] (fun _ => 0) (fun _ => 0) := fun j hj => by
  have e : j = 0 := by simpa using hj
  subst e
  exact ⟨rfl, rfl⟩
theorem ag_nIlit {k : Nat} (h : k < 2 ^ 31) {x : Int32} : (nI k ≤ x ↔ (k : Int) ≤ x.toInt) ∧ (x ≤ nI k ↔ x.toInt ≤ (k : Int)) := by
  rw [Int32.le_iff_toInt_le, Int32.le_iff_toInt_le, nI_toInt h]
  exact ⟨Iff.rfl, Iff.rfl⟩
theorem ag_clampA {lo hi : Nat} {x : Int32} (h : ¬ nI lo ≤ x) (hl : lo < 2 ^ 31 := by decide) : lo = ag_clamp lo hi x := by
  have h1 := mt (ag_nIlit hl).1.mpr h
  unfold ag_clamp
  rw [if_pos (by omega)]
theorem ag_clampC {lo hi : Nat} {x : Int32} (hlh : lo ≤ hi) (h : ¬ x ≤ nI hi) (hl : hi < 2 ^ 31 := by decide) : hi = ag_clamp lo hi x := by
  have h1 := mt (ag_nIlit hl).2.mpr h
  unfold ag_clamp
  rw [if_neg (by omega), if_pos (by omega)]
theorem ag_clampB {lo hi : Nat} {x : Int32} (h : nI lo ≤ x) (h2 : x ≤ nI hi) (hl : lo < 2 ^ 31 := by decide) (hh : hi < 2 ^ 31 := by decide) : x = nI (ag_clamp lo hi x) := by
  have h1 := (ag_nIlit hl).1.mp h
  have h3 := (ag_nIlit hh).2.mp h2
  unfold ag_clamp
  rw [if_neg (by omega), if_neg (by omega)]
  have h4 : ¬ x < 0 := fun q => by
    have h5 := Int32.lt_iff_toInt_lt.mp q
    have h0 : (0 : Int32).toInt = 0 := rfl
    omega
  obtain ⟨k, hk, rfl⟩ := nI_of h4
  rw [nI_toInt hk]
  rfl
end AgCl2

set_option maxHeartbeats 4000000 in
set_option maxRecDepth 100000 in
/-- AgedMarksModel(x, y) -/
theorem c_M_init (l : Launch) (dC : Nat → ClassId) (dI : Nat → Nat → Nat) (sz : Nat) (b : Nat) (cI : ClassId) (x y : Int32)  : Met l y_M_init (Cond.code y_M_init b_M_init 3 none :: agW) ({ frames := 1, cells := 2, slots := 2400, locals := 20 }) (va_Pc [.ref b, .int x, .int y] (ag_at (dC, dI) agCl [(cI, .int)] sz [(b, .inr (2, [.int (nI 0), .int (nI 0), .int (nI 0), .long (lN 0), .long (lN 0), .int (nI 0), .null, .null, .int (nI 0), .long (lN 0), .long (lN 0), .long (lN 0)]))])) (va_Qv (fun u : Nat × Nat × (Nat → Int32) × (Nat → Int32) => ag_rpm [(0, 0)] u.2.2.1 u.2.2.2) (ag_to (dC, dI) agCl [(cI, .int)] (va_A [(b, .inr (2, [.int (nI 0), .int (nI 0), .int (nI 0), .long (lN 0), .long (lN 0), .int (nI 0), .null, .null, .int (nI 0), .long (lN 0), .long (lN 0), .long (lN 0)]))] sz) (fun u : Nat × Nat × (Nat → Int32) × (Nat → Int32) => [(b, .inr (2, [.int (nI 0), .int (nI (ag_clamp 1 1000 x)), .int (nI (ag_clamp 2 16 y)), .long (lN 0), .long (lN 0), .int (nI 1), .ref u.1, .ref u.2.1, .int (nI 1), .long (lN 0), .long (lN 0), .long (lN 0)])), (u.1, .inl (cI, 1200, .inl u.2.2.1)), (u.2.1, .inl (cI, 1200, .inl u.2.2.2))])) (va_A [(b, .inr (2, [.int (nI 0), .int (nI 0), .int (nI 0), .long (lN 0), .long (lN 0), .int (nI 0), .null, .null, .int (nI 0), .long (lN 0), .long (lN 0), .long (lN 0)]))] sz)) 2 2400 (va_A [(b, .inr (2, [.int (nI 0), .int (nI 0), .int (nI 0), .long (lN 0), .long (lN 0), .int (nI 0), .null, .null, .int (nI 0), .long (lN 0), .long (lN 0), .long (lN 0)]))] sz) := by
  refine ag_ofW (Qf := fun A => va_Qv (fun u : Nat × Nat × (Nat → Int32) × (Nat → Int32) => ag_rpm [(0, 0)] u.2.2.1 u.2.2.2) (ag_to (dC, dI) agCl [(cI, .int)] A (fun u : Nat × Nat × (Nat → Int32) × (Nat → Int32) => [(b, .inr (2, [.int (nI 0), .int (nI (ag_clamp 1 1000 x)), .int (nI (ag_clamp 2 16 y)), .long (lN 0), .long (lN 0), .int (nI 1), .ref u.1, .ref u.2.1, .int (nI 1), .long (lN 0), .long (lN 0), .long (lN 0)])), (u.1, .inl (cI, 1200, .inl u.2.2.1)), (u.2.1, .inl (cI, 1200, .inl u.2.2.2))])) A) (cc := b_M_init) (maxL := 3) (ret := none) (lv := [(0, .ref b), (1, .int x), (2, .int y)]) (by decide) rfl (Nat.le_of_ble_eq_true rfl) rfl (fun p e s m below meth c A ls hx hb hr hts hown hlocks hml hnm hA hS hP hK hD hl hsz => ?_)
  have hown : s.vm.findClass "AgedMarksModel" = some m.cls := hown
  have ht : ∀ w ∈ agW, w.before [.ref b, .int x, .int y].toArray s = true := fun w h => hts w (List.mem_cons_of_mem _ h)
  refine lv_aload_n hx hb d_M_init_0 rfl (lv_at hl 0 rfl) ?_
  refine W.objInit hx hb hown (ht _ mw_m_M_1) (ht _ mw_instanceMethod_O_init) (ht _ mw_code_O_init) rfl (by rw [hml]; exact hl.1) rfl d_M_init_1 (Nat.le_of_ble_eq_true rfl) (Nat.le_of_ble_eq_true rfl) ?_
  refine W.eq (g2 := F0 m 4 ls []) rfl ?_
  have hnm : meth.name = "<init>" := hnm
  refine lv_aload_n hx hb d_M_init_4 rfl (lv_at hl 0 rfl) ?_
  refine ag_iconst hx hb 1 d_M_init_5 (by decide) ?_
  refine va_put (D := (dC, dI)) (ci := 2) (v := .int (nI 1)) (ty := .int) (C := RX2) (T := TX2) (N := 12) hx hb ht inA2 tyX2 tyX2_ok nmX2 hown hK hP hD hS 0 rfl rfl 5 (by decide) (ht _ mw_f_M_7) (fun _ h9 => h9) rfl (by decide +kernel) rfl rfl (Nat.le_of_ble_eq_true rfl) d_M_init_6 (fun H locs hP hD hS => ?_)
  have hP : va_P (dC, dI) agCl [(b, .inr (2, [.int (nI 0), .int (nI 0), .int (nI 0), .long (lN 0), .long (lN 0), .int (nI 1), .null, .null, .int (nI 0), .long (lN 0), .long (lN 0), .long (lN 0)]))] H := hP
  have hD : va_D A [(b, .inr (2, [.int (nI 0), .int (nI 0), .int (nI 0), .long (lN 0), .long (lN 0), .int (nI 1), .null, .null, .int (nI 0), .long (lN 0), .long (lN 0), .long (lN 0)]))] := hD
  refine lv_aload_n hx hb d_M_init_9 rfl (lv_at hl 0 rfl) ?_
  refine ag_sipush hx hb 1200 d_M_init_10 (by decide) ?_
  refine va_newa (atype := .int) (ty := .int) (N' := 1200) (a0 := (1200, .inl (fun _ => 0))) hx hb (ht _ mw_arr__int_) rfl hK hP hD hS hA (fun _ => rfl) (nI_pos (by decide)) (nI_clamp (by decide)) (by decide) (Nat.le_of_ble_eq_true rfl) (Nat.le_of_ble_eq_true rfl) d_M_init_13 (fun qn c9 H hK9 hP hD hS => ?_)
  obtain rfl : cI = c9 := ag_Ku hK9 0 1 rfl rfl
  clear hK9
  have hP : va_P (dC, dI) agCl [(b, .inr (2, [.int (nI 0), .int (nI 0), .int (nI 0), .long (lN 0), .long (lN 0), .int (nI 1), .null, .null, .int (nI 0), .long (lN 0), .long (lN 0), .long (lN 0)])), (qn, .inl (cI, 1200, .inl (fun _ => 0)))] H := hP
  have hD : va_D A [(b, .inr (2, [.int (nI 0), .int (nI 0), .int (nI 0), .long (lN 0), .long (lN 0), .int (nI 1), .null, .null, .int (nI 0), .long (lN 0), .long (lN 0), .long (lN 0)])), (qn, .inl (cI, 1200, .inl (fun _ => 0)))] := hD
  refine va_putF (D := (dC, dI)) (ci := 2) (v := .ref qn) (ty := .array .int) (C := RX2) (T := TX2) (N := 12) hx hb ht inA2 tyX2 tyX2_ok nmX2 hown hK hP hD hS 0 rfl rfl 6 (by decide) (ht _ mw_f_M_13) (fun _ h9 => h9) rfl hnm rfl (by decide +kernel) rfl rfl (Nat.le_of_ble_eq_true rfl) d_M_init_15 (fun H locs hP hD hS => ?_)
  have hP : va_P (dC, dI) agCl [(b, .inr (2, [.int (nI 0), .int (nI 0), .int (nI 0), .long (lN 0), .long (lN 0), .int (nI 1), .ref qn, .null, .int (nI 0), .long (lN 0), .long (lN 0), .long (lN 0)])), (qn, .inl (cI, 1200, .inl (fun _ => 0)))] H := hP
  have hD : va_D A [(b, .inr (2, [.int (nI 0), .int (nI 0), .int (nI 0), .long (lN 0), .long (lN 0), .int (nI 1), .ref qn, .null, .int (nI 0), .long (lN 0), .long (lN 0), .long (lN 0)])), (qn, .inl (cI, 1200, .inl (fun _ => 0)))] := hD
  refine lv_aload_n hx hb d_M_init_18 rfl (lv_at hl 0 rfl) ?_
  refine ag_sipush hx hb 1200 d_M_init_19 (by decide) ?_
  refine va_newa (atype := .int) (ty := .int) (N' := 1200) (a0 := (1200, .inl (fun _ => 0))) hx hb (ht _ mw_arr__int_) rfl hK hP hD hS hA (fun _ => rfl) (nI_pos (by decide)) (nI_clamp (by decide)) (by decide) (Nat.le_of_ble_eq_true rfl) (Nat.le_of_ble_eq_true rfl) d_M_init_22 (fun qk c9 H hK9 hP hD hS => ?_)
  obtain rfl : cI = c9 := ag_Ku hK9 0 1 rfl rfl
  clear hK9
  have hP : va_P (dC, dI) agCl [(b, .inr (2, [.int (nI 0), .int (nI 0), .int (nI 0), .long (lN 0), .long (lN 0), .int (nI 1), .ref qn, .null, .int (nI 0), .long (lN 0), .long (lN 0), .long (lN 0)])), (qn, .inl (cI, 1200, .inl (fun _ => 0))), (qk, .inl (cI, 1200, .inl (fun _ => 0)))] H := hP
  have hD : va_D A [(b, .inr (2, [.int (nI 0), .int (nI 0), .int (nI 0), .long (lN 0), .long (lN 0), .int (nI 1), .ref qn, .null, .int (nI 0), .long (lN 0), .long (lN 0), .long (lN 0)])), (qn, .inl (cI, 1200, .inl (fun _ => 0))), (qk, .inl (cI, 1200, .inl (fun _ => 0)))] := hD
  refine va_putF (D := (dC, dI)) (ci := 2) (v := .ref qk) (ty := .array .int) (C := RX2) (T := TX2) (N := 12) hx hb ht inA2 tyX2 tyX2_ok nmX2 hown hK hP hD hS 0 rfl rfl 7 (by decide) (ht _ mw_f_M_17) (fun _ h9 => h9) rfl hnm rfl (by decide +kernel) rfl rfl (Nat.le_of_ble_eq_true rfl) d_M_init_24 (fun H locs hP hD hS => ?_)
  have hP : va_P (dC, dI) agCl [(b, .inr (2, [.int (nI 0), .int (nI 0), .int (nI 0), .long (lN 0), .long (lN 0), .int (nI 1), .ref qn, .ref qk, .int (nI 0), .long (lN 0), .long (lN 0), .long (lN 0)])), (qn, .inl (cI, 1200, .inl (fun _ => 0))), (qk, .inl (cI, 1200, .inl (fun _ => 0)))] H := hP
  have hD : va_D A [(b, .inr (2, [.int (nI 0), .int (nI 0), .int (nI 0), .long (lN 0), .long (lN 0), .int (nI 1), .ref qn, .ref qk, .int (nI 0), .long (lN 0), .long (lN 0), .long (lN 0)])), (qn, .inl (cI, 1200, .inl (fun _ => 0))), (qk, .inl (cI, 1200, .inl (fun _ => 0)))] := hD
  refine lv_aload_n hx hb d_M_init_27 rfl (lv_at hl 0 rfl) ?_
  refine ag_iconst hx hb 1 d_M_init_28 (by decide) ?_
  refine va_put (D := (dC, dI)) (ci := 2) (v := .int (nI 1)) (ty := .int) (C := RX2) (T := TX2) (N := 12) hx hb ht inA2 tyX2 tyX2_ok nmX2 hown hK hP hD hS 0 rfl rfl 8 (by decide) (ht _ mw_f_M_20) (fun _ h9 => h9) rfl (by decide +kernel) rfl rfl (Nat.le_of_ble_eq_true rfl) d_M_init_29 (fun H locs hP hD hS => ?_)
  have hP : va_P (dC, dI) agCl [(b, .inr (2, [.int (nI 0), .int (nI 0), .int (nI 0), .long (lN 0), .long (lN 0), .int (nI 1), .ref qn, .ref qk, .int (nI 1), .long (lN 0), .long (lN 0), .long (lN 0)])), (qn, .inl (cI, 1200, .inl (fun _ => 0))), (qk, .inl (cI, 1200, .inl (fun _ => 0)))] H := hP
  have hD : va_D A [(b, .inr (2, [.int (nI 0), .int (nI 0), .int (nI 0), .long (lN 0), .long (lN 0), .int (nI 1), .ref qn, .ref qk, .int (nI 1), .long (lN 0), .long (lN 0), .long (lN 0)])), (qn, .inl (cI, 1200, .inl (fun _ => 0))), (qk, .inl (cI, 1200, .inl (fun _ => 0)))] := hD
  refine lv_aload_n hx hb d_M_init_32 rfl (lv_at hl 0 rfl) ?_
  refine lv_iload_n hx hb d_M_init_33 rfl (lv_at hl 1 rfl) ?_
  refine ag_iconst hx hb 1 d_M_init_34 (by decide) ?_
  refine lv_icmp_ge (tgt := 42) hx hb d_M_init_35 (by decide) (fun c35 => ?_) (fun c35 => ?_)
  · have h_n := trivial
    refine lv_iload_n hx hb d_M_init_42 rfl (lv_at hl 1 rfl) ?_
    refine ag_sipush hx hb 1000 d_M_init_43 (by decide) ?_
    refine lv_icmp_le (tgt := 55) hx hb d_M_init_46 (by decide) (fun c46 => ?_) (fun c46 => ?_)
    · have h_n := trivial
      refine lv_iload_n hx hb d_M_init_55 rfl (lv_at hl 1 rfl) ?_
      refine ag_topi (nI (ag_clamp 1 1000 x)) (ag_clampB c35 c46) ?_
      refine va_putF (D := (dC, dI)) (ci := 2) (v := .int (nI (ag_clamp 1 1000 x))) (ty := .int) (C := RX2) (T := TX2) (N := 12) hx hb ht inA2 tyX2 tyX2_ok nmX2 hown hK hP hD hS 0 rfl rfl 1 (by decide) (ht _ mw_f_M_23) (fun _ h9 => h9) rfl hnm rfl (by decide +kernel) rfl rfl (Nat.le_of_ble_eq_true rfl) d_M_init_56 (fun H locs hP hD hS => ?_)
      have hP : va_P (dC, dI) agCl [(b, .inr (2, [.int (nI 0), .int (nI (ag_clamp 1 1000 x)), .int (nI 0), .long (lN 0), .long (lN 0), .int (nI 1), .ref qn, .ref qk, .int (nI 1), .long (lN 0), .long (lN 0), .long (lN 0)])), (qn, .inl (cI, 1200, .inl (fun _ => 0))), (qk, .inl (cI, 1200, .inl (fun _ => 0)))] H := hP
      have hD : va_D A [(b, .inr (2, [.int (nI 0), .int (nI (ag_clamp 1 1000 x)), .int (nI 0), .long (lN 0), .long (lN 0), .int (nI 1), .ref qn, .ref qk, .int (nI 1), .long (lN 0), .long (lN 0), .long (lN 0)])), (qn, .inl (cI, 1200, .inl (fun _ => 0))), (qk, .inl (cI, 1200, .inl (fun _ => 0)))] := hD
      refine lv_aload_n hx hb d_M_init_59 rfl (lv_at hl 0 rfl) ?_
      refine lv_iload_n hx hb d_M_init_60 rfl (lv_at hl 2 rfl) ?_
      refine ag_iconst hx hb 2 d_M_init_61 (by decide) ?_
      refine lv_icmp_ge (tgt := 69) hx hb d_M_init_62 (by decide) (fun c62 => ?_) (fun c62 => ?_)
      · have h_n := trivial
        refine lv_iload_n hx hb d_M_init_69 rfl (lv_at hl 2 rfl) ?_
        refine ag_bipush hx hb 16 d_M_init_70 (by decide) ?_
        refine lv_icmp_le (tgt := 80) hx hb d_M_init_72 (by decide) (fun c72 => ?_) (fun c72 => ?_)
        · have h_n := trivial
          refine lv_iload_n hx hb d_M_init_80 rfl (lv_at hl 2 rfl) ?_
          refine ag_topi (nI (ag_clamp 2 16 y)) (ag_clampB c62 c72) ?_
          refine va_putF (D := (dC, dI)) (ci := 2) (v := .int (nI (ag_clamp 2 16 y))) (ty := .int) (C := RX2) (T := TX2) (N := 12) hx hb ht inA2 tyX2 tyX2_ok nmX2 hown hK hP hD hS 0 rfl rfl 2 (by decide) (ht _ mw_f_M_26) (fun _ h9 => h9) rfl hnm rfl (by decide +kernel) rfl rfl (Nat.le_of_ble_eq_true rfl) d_M_init_81 (fun H locs hP hD hS => ?_)
          have hP : va_P (dC, dI) agCl [(b, .inr (2, [.int (nI 0), .int (nI (ag_clamp 1 1000 x)), .int (nI (ag_clamp 2 16 y)), .long (lN 0), .long (lN 0), .int (nI 1), .ref qn, .ref qk, .int (nI 1), .long (lN 0), .long (lN 0), .long (lN 0)])), (qn, .inl (cI, 1200, .inl (fun _ => 0))), (qk, .inl (cI, 1200, .inl (fun _ => 0)))] H := hP
          have hD : va_D A [(b, .inr (2, [.int (nI 0), .int (nI (ag_clamp 1 1000 x)), .int (nI (ag_clamp 2 16 y)), .long (lN 0), .long (lN 0), .int (nI 1), .ref qn, .ref qk, .int (nI 1), .long (lN 0), .long (lN 0), .long (lN 0)])), (qn, .inl (cI, 1200, .inl (fun _ => 0))), (qk, .inl (cI, 1200, .inl (fun _ => 0)))] := hD
          refine W.widen (k := 2) (n := 2400) (by decide) (by decide) ?_
          exact ag_retv hx hb hr hlocks (qn, qk, fun _ => 0, fun _ => 0) (fun j hj => ag_rpm0 j hj) hP hK hD hS d_M_init_84
        · have h_n := trivial
          refine ag_bipush hx hb 16 d_M_init_75 (by decide) ?_
          refine lv_goto (tgt := 81) hx hb d_M_init_77 (by decide) ?_
          refine ag_topi (nI (ag_clamp 2 16 y)) (congrArg nI (ag_clampC (by decide) c72)) ?_
          refine va_putF (D := (dC, dI)) (ci := 2) (v := .int (nI (ag_clamp 2 16 y))) (ty := .int) (C := RX2) (T := TX2) (N := 12) hx hb ht inA2 tyX2 tyX2_ok nmX2 hown hK hP hD hS 0 rfl rfl 2 (by decide) (ht _ mw_f_M_26) (fun _ h9 => h9) rfl hnm rfl (by decide +kernel) rfl rfl (Nat.le_of_ble_eq_true rfl) d_M_init_81 (fun H locs hP hD hS => ?_)
          have hP : va_P (dC, dI) agCl [(b, .inr (2, [.int (nI 0), .int (nI (ag_clamp 1 1000 x)), .int (nI (ag_clamp 2 16 y)), .long (lN 0), .long (lN 0), .int (nI 1), .ref qn, .ref qk, .int (nI 1), .long (lN 0), .long (lN 0), .long (lN 0)])), (qn, .inl (cI, 1200, .inl (fun _ => 0))), (qk, .inl (cI, 1200, .inl (fun _ => 0)))] H := hP
          have hD : va_D A [(b, .inr (2, [.int (nI 0), .int (nI (ag_clamp 1 1000 x)), .int (nI (ag_clamp 2 16 y)), .long (lN 0), .long (lN 0), .int (nI 1), .ref qn, .ref qk, .int (nI 1), .long (lN 0), .long (lN 0), .long (lN 0)])), (qn, .inl (cI, 1200, .inl (fun _ => 0))), (qk, .inl (cI, 1200, .inl (fun _ => 0)))] := hD
          refine W.widen (k := 2) (n := 2400) (by decide) (by decide) ?_
          exact ag_retv hx hb hr hlocks (qn, qk, fun _ => 0, fun _ => 0) (fun j hj => ag_rpm0 j hj) hP hK hD hS d_M_init_84
      · have h_n := trivial
        refine ag_iconst hx hb 2 d_M_init_65 (by decide) ?_
        refine lv_goto (tgt := 81) hx hb d_M_init_66 (by decide) ?_
        refine ag_topi (nI (ag_clamp 2 16 y)) (congrArg nI (ag_clampA c62)) ?_
        refine va_putF (D := (dC, dI)) (ci := 2) (v := .int (nI (ag_clamp 2 16 y))) (ty := .int) (C := RX2) (T := TX2) (N := 12) hx hb ht inA2 tyX2 tyX2_ok nmX2 hown hK hP hD hS 0 rfl rfl 2 (by decide) (ht _ mw_f_M_26) (fun _ h9 => h9) rfl hnm rfl (by decide +kernel) rfl rfl (Nat.le_of_ble_eq_true rfl) d_M_init_81 (fun H locs hP hD hS => ?_)
        have hP : va_P (dC, dI) agCl [(b, .inr (2, [.int (nI 0), .int (nI (ag_clamp 1 1000 x)), .int (nI (ag_clamp 2 16 y)), .long (lN 0), .long (lN 0), .int (nI 1), .ref qn, .ref qk, .int (nI 1), .long (lN 0), .long (lN 0), .long (lN 0)])), (qn, .inl (cI, 1200, .inl (fun _ => 0))), (qk, .inl (cI, 1200, .inl (fun _ => 0)))] H := hP
        have hD : va_D A [(b, .inr (2, [.int (nI 0), .int (nI (ag_clamp 1 1000 x)), .int (nI (ag_clamp 2 16 y)), .long (lN 0), .long (lN 0), .int (nI 1), .ref qn, .ref qk, .int (nI 1), .long (lN 0), .long (lN 0), .long (lN 0)])), (qn, .inl (cI, 1200, .inl (fun _ => 0))), (qk, .inl (cI, 1200, .inl (fun _ => 0)))] := hD
        refine W.widen (k := 2) (n := 2400) (by decide) (by decide) ?_
        exact ag_retv hx hb hr hlocks (qn, qk, fun _ => 0, fun _ => 0) (fun j hj => ag_rpm0 j hj) hP hK hD hS d_M_init_84
    · have h_n := trivial
      refine ag_sipush hx hb 1000 d_M_init_49 (by decide) ?_
      refine lv_goto (tgt := 56) hx hb d_M_init_52 (by decide) ?_
      refine ag_topi (nI (ag_clamp 1 1000 x)) (congrArg nI (ag_clampC (by decide) c46)) ?_
      refine va_putF (D := (dC, dI)) (ci := 2) (v := .int (nI (ag_clamp 1 1000 x))) (ty := .int) (C := RX2) (T := TX2) (N := 12) hx hb ht inA2 tyX2 tyX2_ok nmX2 hown hK hP hD hS 0 rfl rfl 1 (by decide) (ht _ mw_f_M_23) (fun _ h9 => h9) rfl hnm rfl (by decide +kernel) rfl rfl (Nat.le_of_ble_eq_true rfl) d_M_init_56 (fun H locs hP hD hS => ?_)
      have hP : va_P (dC, dI) agCl [(b, .inr (2, [.int (nI 0), .int (nI (ag_clamp 1 1000 x)), .int (nI 0), .long (lN 0), .long (lN 0), .int (nI 1), .ref qn, .ref qk, .int (nI 1), .long (lN 0), .long (lN 0), .long (lN 0)])), (qn, .inl (cI, 1200, .inl (fun _ => 0))), (qk, .inl (cI, 1200, .inl (fun _ => 0)))] H := hP
      have hD : va_D A [(b, .inr (2, [.int (nI 0), .int (nI (ag_clamp 1 1000 x)), .int (nI 0), .long (lN 0), .long (lN 0), .int (nI 1), .ref qn, .ref qk, .int (nI 1), .long (lN 0), .long (lN 0), .long (lN 0)])), (qn, .inl (cI, 1200, .inl (fun _ => 0))), (qk, .inl (cI, 1200, .inl (fun _ => 0)))] := hD
      refine lv_aload_n hx hb d_M_init_59 rfl (lv_at hl 0 rfl) ?_
      refine lv_iload_n hx hb d_M_init_60 rfl (lv_at hl 2 rfl) ?_
      refine ag_iconst hx hb 2 d_M_init_61 (by decide) ?_
      refine lv_icmp_ge (tgt := 69) hx hb d_M_init_62 (by decide) (fun c62 => ?_) (fun c62 => ?_)
      · have h_n := trivial
        refine lv_iload_n hx hb d_M_init_69 rfl (lv_at hl 2 rfl) ?_
        refine ag_bipush hx hb 16 d_M_init_70 (by decide) ?_
        refine lv_icmp_le (tgt := 80) hx hb d_M_init_72 (by decide) (fun c72 => ?_) (fun c72 => ?_)
        · have h_n := trivial
          refine lv_iload_n hx hb d_M_init_80 rfl (lv_at hl 2 rfl) ?_
          refine ag_topi (nI (ag_clamp 2 16 y)) (ag_clampB c62 c72) ?_
          refine va_putF (D := (dC, dI)) (ci := 2) (v := .int (nI (ag_clamp 2 16 y))) (ty := .int) (C := RX2) (T := TX2) (N := 12) hx hb ht inA2 tyX2 tyX2_ok nmX2 hown hK hP hD hS 0 rfl rfl 2 (by decide) (ht _ mw_f_M_26) (fun _ h9 => h9) rfl hnm rfl (by decide +kernel) rfl rfl (Nat.le_of_ble_eq_true rfl) d_M_init_81 (fun H locs hP hD hS => ?_)
          have hP : va_P (dC, dI) agCl [(b, .inr (2, [.int (nI 0), .int (nI (ag_clamp 1 1000 x)), .int (nI (ag_clamp 2 16 y)), .long (lN 0), .long (lN 0), .int (nI 1), .ref qn, .ref qk, .int (nI 1), .long (lN 0), .long (lN 0), .long (lN 0)])), (qn, .inl (cI, 1200, .inl (fun _ => 0))), (qk, .inl (cI, 1200, .inl (fun _ => 0)))] H := hP
          have hD : va_D A [(b, .inr (2, [.int (nI 0), .int (nI (ag_clamp 1 1000 x)), .int (nI (ag_clamp 2 16 y)), .long (lN 0), .long (lN 0), .int (nI 1), .ref qn, .ref qk, .int (nI 1), .long (lN 0), .long (lN 0), .long (lN 0)])), (qn, .inl (cI, 1200, .inl (fun _ => 0))), (qk, .inl (cI, 1200, .inl (fun _ => 0)))] := hD
          refine W.widen (k := 2) (n := 2400) (by decide) (by decide) ?_
          exact ag_retv hx hb hr hlocks (qn, qk, fun _ => 0, fun _ => 0) (fun j hj => ag_rpm0 j hj) hP hK hD hS d_M_init_84
        · have h_n := trivial
          refine ag_bipush hx hb 16 d_M_init_75 (by decide) ?_
          refine lv_goto (tgt := 81) hx hb d_M_init_77 (by decide) ?_
          refine ag_topi (nI (ag_clamp 2 16 y)) (congrArg nI (ag_clampC (by decide) c72)) ?_
          refine va_putF (D := (dC, dI)) (ci := 2) (v := .int (nI (ag_clamp 2 16 y))) (ty := .int) (C := RX2) (T := TX2) (N := 12) hx hb ht inA2 tyX2 tyX2_ok nmX2 hown hK hP hD hS 0 rfl rfl 2 (by decide) (ht _ mw_f_M_26) (fun _ h9 => h9) rfl hnm rfl (by decide +kernel) rfl rfl (Nat.le_of_ble_eq_true rfl) d_M_init_81 (fun H locs hP hD hS => ?_)
          have hP : va_P (dC, dI) agCl [(b, .inr (2, [.int (nI 0), .int (nI (ag_clamp 1 1000 x)), .int (nI (ag_clamp 2 16 y)), .long (lN 0), .long (lN 0), .int (nI 1), .ref qn, .ref qk, .int (nI 1), .long (lN 0), .long (lN 0), .long (lN 0)])), (qn, .inl (cI, 1200, .inl (fun _ => 0))), (qk, .inl (cI, 1200, .inl (fun _ => 0)))] H := hP
          have hD : va_D A [(b, .inr (2, [.int (nI 0), .int (nI (ag_clamp 1 1000 x)), .int (nI (ag_clamp 2 16 y)), .long (lN 0), .long (lN 0), .int (nI 1), .ref qn, .ref qk, .int (nI 1), .long (lN 0), .long (lN 0), .long (lN 0)])), (qn, .inl (cI, 1200, .inl (fun _ => 0))), (qk, .inl (cI, 1200, .inl (fun _ => 0)))] := hD
          refine W.widen (k := 2) (n := 2400) (by decide) (by decide) ?_
          exact ag_retv hx hb hr hlocks (qn, qk, fun _ => 0, fun _ => 0) (fun j hj => ag_rpm0 j hj) hP hK hD hS d_M_init_84
      · have h_n := trivial
        refine ag_iconst hx hb 2 d_M_init_65 (by decide) ?_
        refine lv_goto (tgt := 81) hx hb d_M_init_66 (by decide) ?_
        refine ag_topi (nI (ag_clamp 2 16 y)) (congrArg nI (ag_clampA c62)) ?_
        refine va_putF (D := (dC, dI)) (ci := 2) (v := .int (nI (ag_clamp 2 16 y))) (ty := .int) (C := RX2) (T := TX2) (N := 12) hx hb ht inA2 tyX2 tyX2_ok nmX2 hown hK hP hD hS 0 rfl rfl 2 (by decide) (ht _ mw_f_M_26) (fun _ h9 => h9) rfl hnm rfl (by decide +kernel) rfl rfl (Nat.le_of_ble_eq_true rfl) d_M_init_81 (fun H locs hP hD hS => ?_)
        have hP : va_P (dC, dI) agCl [(b, .inr (2, [.int (nI 0), .int (nI (ag_clamp 1 1000 x)), .int (nI (ag_clamp 2 16 y)), .long (lN 0), .long (lN 0), .int (nI 1), .ref qn, .ref qk, .int (nI 1), .long (lN 0), .long (lN 0), .long (lN 0)])), (qn, .inl (cI, 1200, .inl (fun _ => 0))), (qk, .inl (cI, 1200, .inl (fun _ => 0)))] H := hP
        have hD : va_D A [(b, .inr (2, [.int (nI 0), .int (nI (ag_clamp 1 1000 x)), .int (nI (ag_clamp 2 16 y)), .long (lN 0), .long (lN 0), .int (nI 1), .ref qn, .ref qk, .int (nI 1), .long (lN 0), .long (lN 0), .long (lN 0)])), (qn, .inl (cI, 1200, .inl (fun _ => 0))), (qk, .inl (cI, 1200, .inl (fun _ => 0)))] := hD
        refine W.widen (k := 2) (n := 2400) (by decide) (by decide) ?_
        exact ag_retv hx hb hr hlocks (qn, qk, fun _ => 0, fun _ => 0) (fun j hj => ag_rpm0 j hj) hP hK hD hS d_M_init_84
  · have h_n := trivial
    refine ag_iconst hx hb 1 d_M_init_38 (by decide) ?_
    refine lv_goto (tgt := 56) hx hb d_M_init_39 (by decide) ?_
    refine ag_topi (nI (ag_clamp 1 1000 x)) (congrArg nI (ag_clampA c35)) ?_
    refine va_putF (D := (dC, dI)) (ci := 2) (v := .int (nI (ag_clamp 1 1000 x))) (ty := .int) (C := RX2) (T := TX2) (N := 12) hx hb ht inA2 tyX2 tyX2_ok nmX2 hown hK hP hD hS 0 rfl rfl 1 (by decide) (ht _ mw_f_M_23) (fun _ h9 => h9) rfl hnm rfl (by decide +kernel) rfl rfl (Nat.le_of_ble_eq_true rfl) d_M_init_56 (fun H locs hP hD hS => ?_)
    have hP : va_P (dC, dI) agCl [(b, .inr (2, [.int (nI 0), .int (nI (ag_clamp 1 1000 x)), .int (nI 0), .long (lN 0), .long (lN 0), .int (nI 1), .ref qn, .ref qk, .int (nI 1), .long (lN 0), .long (lN 0), .long (lN 0)])), (qn, .inl (cI, 1200, .inl (fun _ => 0))), (qk, .inl (cI, 1200, .inl (fun _ => 0)))] H := hP
    have hD : va_D A [(b, .inr (2, [.int (nI 0), .int (nI (ag_clamp 1 1000 x)), .int (nI 0), .long (lN 0), .long (lN 0), .int (nI 1), .ref qn, .ref qk, .int (nI 1), .long (lN 0), .long (lN 0), .long (lN 0)])), (qn, .inl (cI, 1200, .inl (fun _ => 0))), (qk, .inl (cI, 1200, .inl (fun _ => 0)))] := hD
    refine lv_aload_n hx hb d_M_init_59 rfl (lv_at hl 0 rfl) ?_
    refine lv_iload_n hx hb d_M_init_60 rfl (lv_at hl 2 rfl) ?_
    refine ag_iconst hx hb 2 d_M_init_61 (by decide) ?_
    refine lv_icmp_ge (tgt := 69) hx hb d_M_init_62 (by decide) (fun c62 => ?_) (fun c62 => ?_)
    · have h_n := trivial
      refine lv_iload_n hx hb d_M_init_69 rfl (lv_at hl 2 rfl) ?_
      refine ag_bipush hx hb 16 d_M_init_70 (by decide) ?_
      refine lv_icmp_le (tgt := 80) hx hb d_M_init_72 (by decide) (fun c72 => ?_) (fun c72 => ?_)
      · have h_n := trivial
        refine lv_iload_n hx hb d_M_init_80 rfl (lv_at hl 2 rfl) ?_
        refine ag_topi (nI (ag_clamp 2 16 y)) (ag_clampB c62 c72) ?_
        refine va_putF (D := (dC, dI)) (ci := 2) (v := .int (nI (ag_clamp 2 16 y))) (ty := .int) (C := RX2) (T := TX2) (N := 12) hx hb ht inA2 tyX2 tyX2_ok nmX2 hown hK hP hD hS 0 rfl rfl 2 (by decide) (ht _ mw_f_M_26) (fun _ h9 => h9) rfl hnm rfl (by decide +kernel) rfl rfl (Nat.le_of_ble_eq_true rfl) d_M_init_81 (fun H locs hP hD hS => ?_)
        have hP : va_P (dC, dI) agCl [(b, .inr (2, [.int (nI 0), .int (nI (ag_clamp 1 1000 x)), .int (nI (ag_clamp 2 16 y)), .long (lN 0), .long (lN 0), .int (nI 1), .ref qn, .ref qk, .int (nI 1), .long (lN 0), .long (lN 0), .long (lN 0)])), (qn, .inl (cI, 1200, .inl (fun _ => 0))), (qk, .inl (cI, 1200, .inl (fun _ => 0)))] H := hP
        have hD : va_D A [(b, .inr (2, [.int (nI 0), .int (nI (ag_clamp 1 1000 x)), .int (nI (ag_clamp 2 16 y)), .long (lN 0), .long (lN 0), .int (nI 1), .ref qn, .ref qk, .int (nI 1), .long (lN 0), .long (lN 0), .long (lN 0)])), (qn, .inl (cI, 1200, .inl (fun _ => 0))), (qk, .inl (cI, 1200, .inl (fun _ => 0)))] := hD
        refine W.widen (k := 2) (n := 2400) (by decide) (by decide) ?_
        exact ag_retv hx hb hr hlocks (qn, qk, fun _ => 0, fun _ => 0) (fun j hj => ag_rpm0 j hj) hP hK hD hS d_M_init_84
      · have h_n := trivial
        refine ag_bipush hx hb 16 d_M_init_75 (by decide) ?_
        refine lv_goto (tgt := 81) hx hb d_M_init_77 (by decide) ?_
        refine ag_topi (nI (ag_clamp 2 16 y)) (congrArg nI (ag_clampC (by decide) c72)) ?_
        refine va_putF (D := (dC, dI)) (ci := 2) (v := .int (nI (ag_clamp 2 16 y))) (ty := .int) (C := RX2) (T := TX2) (N := 12) hx hb ht inA2 tyX2 tyX2_ok nmX2 hown hK hP hD hS 0 rfl rfl 2 (by decide) (ht _ mw_f_M_26) (fun _ h9 => h9) rfl hnm rfl (by decide +kernel) rfl rfl (Nat.le_of_ble_eq_true rfl) d_M_init_81 (fun H locs hP hD hS => ?_)
        have hP : va_P (dC, dI) agCl [(b, .inr (2, [.int (nI 0), .int (nI (ag_clamp 1 1000 x)), .int (nI (ag_clamp 2 16 y)), .long (lN 0), .long (lN 0), .int (nI 1), .ref qn, .ref qk, .int (nI 1), .long (lN 0), .long (lN 0), .long (lN 0)])), (qn, .inl (cI, 1200, .inl (fun _ => 0))), (qk, .inl (cI, 1200, .inl (fun _ => 0)))] H := hP
        have hD : va_D A [(b, .inr (2, [.int (nI 0), .int (nI (ag_clamp 1 1000 x)), .int (nI (ag_clamp 2 16 y)), .long (lN 0), .long (lN 0), .int (nI 1), .ref qn, .ref qk, .int (nI 1), .long (lN 0), .long (lN 0), .long (lN 0)])), (qn, .inl (cI, 1200, .inl (fun _ => 0))), (qk, .inl (cI, 1200, .inl (fun _ => 0)))] := hD
        refine W.widen (k := 2) (n := 2400) (by decide) (by decide) ?_
        exact ag_retv hx hb hr hlocks (qn, qk, fun _ => 0, fun _ => 0) (fun j hj => ag_rpm0 j hj) hP hK hD hS d_M_init_84
    · have h_n := trivial
      refine ag_iconst hx hb 2 d_M_init_65 (by decide) ?_
      refine lv_goto (tgt := 81) hx hb d_M_init_66 (by decide) ?_
      refine ag_topi (nI (ag_clamp 2 16 y)) (congrArg nI (ag_clampA c62)) ?_
      refine va_putF (D := (dC, dI)) (ci := 2) (v := .int (nI (ag_clamp 2 16 y))) (ty := .int) (C := RX2) (T := TX2) (N := 12) hx hb ht inA2 tyX2 tyX2_ok nmX2 hown hK hP hD hS 0 rfl rfl 2 (by decide) (ht _ mw_f_M_26) (fun _ h9 => h9) rfl hnm rfl (by decide +kernel) rfl rfl (Nat.le_of_ble_eq_true rfl) d_M_init_81 (fun H locs hP hD hS => ?_)
      have hP : va_P (dC, dI) agCl [(b, .inr (2, [.int (nI 0), .int (nI (ag_clamp 1 1000 x)), .int (nI (ag_clamp 2 16 y)), .long (lN 0), .long (lN 0), .int (nI 1), .ref qn, .ref qk, .int (nI 1), .long (lN 0), .long (lN 0), .long (lN 0)])), (qn, .inl (cI, 1200, .inl (fun _ => 0))), (qk, .inl (cI, 1200, .inl (fun _ => 0)))] H := hP
      have hD : va_D A [(b, .inr (2, [.int (nI 0), .int (nI (ag_clamp 1 1000 x)), .int (nI (ag_clamp 2 16 y)), .long (lN 0), .long (lN 0), .int (nI 1), .ref qn, .ref qk, .int (nI 1), .long (lN 0), .long (lN 0), .long (lN 0)])), (qn, .inl (cI, 1200, .inl (fun _ => 0))), (qk, .inl (cI, 1200, .inl (fun _ => 0)))] := hD
      refine W.widen (k := 2) (n := 2400) (by decide) (by decide) ?_
      exact ag_retv hx hb hr hlocks (qn, qk, fun _ => 0, fun _ => 0) (fun j hj => ag_rpm0 j hj) hP hK hD hS d_M_init_84
end
section
section AgNse
/-- the atoms of a throw of NoSuchElementException (its constructor's link is entry 13) -/
def ag_nA : List Cond := Bundle.throwableAtoms ++ Bundle.throwableSAtoms ++ (Bundle.passSAtoms xNSE "java/lang/RuntimeException" 13 prog_14_method_4_code ++ Bundle.chainSAtoms "java/lang/RuntimeException" ["java/lang/Exception"]) ++
  [.methodLink "AgedMarks" 94 (Bundle.initS xNSE), .instantiable xNSE 6, .castable xNSE xNSE, .selects xNSE Bundle.tFill0 Bundle.tFill0, .selects xNSE Bundle.tFill Bundle.tFill,
   .lays xNSE Bundle.tN "cause" "Ljava/lang/Throwable;", .lays xNSE Bundle.tN "stackTrace" Bundle.steD, .lays xNSE Bundle.tN "suppressedExceptions" Bundle.listD, .lays xNSE Bundle.tN "detailMessage" "Ljava/lang/String;",
   .isRef (.static Bundle.tN "UNASSIGNED_STACK" Bundle.steD), .isRef (.static Bundle.tN "SUPPRESSED_SENTINEL" Bundle.listD),
   .fieldLink Bundle.tN 198 Bundle.tN "backtrace" "Ljava/lang/Object;", .lays Bundle.tN Bundle.tN "backtrace" "Ljava/lang/Object;", .lays xNSE Bundle.tN "backtrace" "Ljava/lang/Object;"]
theorem ag_nA_in : ∀ w ∈ ag_nA.filter vx_no, w ∈ agW ∨ w ∈ agN := by decide +kernel
theorem ag_nA_ot : ∀ w ∈ Cond.classLink "AgedMarks" 90 xNSE :: Cond.initialized xNSE :: ag_nA.filter vx_no, vx_ot w = true := by decide +kernel
variable {p : Program} {l : Launch} {e : Env} {R : Room} {s : State} {m : MethodId} {args : Array Value} {below : List Frame} {meth : Method} {c : Code} {W9 : State} {H : Heap} {locs : List Loc} {cells slots : Nat}
set_option maxHeartbeats 4000000 in
theorem ag_ctorN (X : Stand p l e R s m args below meth c W9 locs cells slots) (hexec : p.tables.exec = Jvm.exec) (htr : e.platform.stackTraces = false) (hown : s.vm.findClass "AgedMarks" = some m.cls)
    (h : ∀ a ∈ ag_nA, a.before args s = true) (hlocs : ∀ x ∈ locs, ∀ cell, s.heap[x.base]? = some cell → cell.vm.isStatics = false)
    {a : Addr} {cX : ClassId} {kX : Class} (hfoundX : s.vm.findClass xNSE = some cX) (hkX : s.vm.classes[cX]? = some kX) (hcell : W9.heap[a]? = some (freshCell cX kX)) (hnew : s.heap.size ≤ a) {msg : Value} (hmsg : msg.isRef = true)
    {g : JFrame} (hg : g.method = m) (hsize : g.locals.size = c.maxLocals) (hlocked : g.locked = none) (hentered : g.entered = []) {rest : List Value} (hstack : g.stack = msg :: .ref a :: .ref a :: rest)
    (hd6 : decode c.code g.pc = .ok (.invokespecial 94, 3)) (hd9 : decode c.code (g.pc + 3) = .ok (.athrow, 1)) (hout : ∀ x ∈ c.exceptionTable.toList, covers x (g.pc + 3) = false)
    (hRframes : 5 < R.frames) (hRlocals : 2 * g.monitorRoom + ((Value.ref a :: rest).map fun v => v.category).sum + 81 ≤ R.locals) (hlocks : meth.locks = false) :
    ∃ U : State, Steps p.tables e below (W9.setTop g) U ∧ U.status = .running ∧ Ended U below (.threw a) ∧ s.WarmedH U.vm ∧ s.sameButNew ({ U with vm := s.vm } : State) locs cells slots ∧
      ∃ ce, U.heap[a]? = some ce ∧ ce.vm = .none ∧ s.vm.findClass xNSE = some ce.cls := by
  have howns : e.platform.frameOwnsMonitors = true := by rw [X.admits.platform]
  have hfin : e.platform.finalization = false := by rw [X.admits.platform]
  have hpl : e.platform.magicAccessors = ({} : Platform).magicAccessors := by rw [X.admits.platform]
  have a' : ∀ x, x ∈ ag_nA → x.holds args s none s [] = true := fun x hx => h x hx
  obtain ⟨T, Z0, L, -, Y⟩ := ThrowableC.of_atoms (args := args) howns hfin hpl (fun x hx => h x (by simp [ag_nA, hx]))
  obtain ⟨Z, M, LZ, LM, hnZ⟩ := Init0T.ofS_atoms (args := args) hpl L Y (fun x hx => h x (by simp [ag_nA, hx]))
  obtain ⟨P1, L1, hP1m, hP1s⟩ := PassC.ofS_atoms (args := args) (s := s) hpl (X := xNSE) (Y := "java/lang/RuntimeException") (index := 13) (bytes := prog_14_method_4_code) (by decide) (by decide) (by decide +kernel) (by decide +kernel) (by decide +kernel) (by decide +kernel) (fun x hx => h x (by simp [ag_nA, hx]))
  obtain ⟨P2, Ps2, hlen2, L2, hL2, hP2m, hlink2, hlinkPs2⟩ := Bundle.chainS (args := args) hpl hnZ ["java/lang/Exception"] "java/lang/RuntimeException" (by decide) (by decide) (fun x hx => h x (by simp [ag_nA, hx]))
  have hs1 : P1.sup = P2.m := Option.some.inj (hP1s.symm.trans hP2m)
  have hfound : s.vm.findClass xNSE = some P1.m.cls := findClass_of_methodNamed hP1m
  cases Option.some.inj (hfoundX.symm.trans hfound)
  obtain ⟨c1, kX', hc1, hk, hord, -, -, hn6⟩ := Cond.instantiable_spec (a' (.instantiable xNSE 6) (by simp [ag_nA]))
  cases Option.some.inj (hc1.symm.trans hfound)
  cases Option.some.inj (hkX.symm.trans hk)
  have hsel0 : selectMethod e.platform s.vm P1.m.cls T.fill0 = .method T.fill0 := by
    obtain ⟨c2, r2, m2, q1, q2, q3, q4, -⟩ := Cond.selects_spec (a' (.selects xNSE Bundle.tFill0 Bundle.tFill0) (by simp [ag_nA]))
    cases Option.some.inj (q1.symm.trans hfound)
    cases Option.some.inj (q2.symm.trans (State.methodFound?_of_named Y.fill0 (by decide)))
    cases Option.some.inj (q3.symm.trans Y.fill0)
    rw [Launch.admits_selectMethod X.admits]; exact q4
  have hselF : selectMethod e.platform s.vm P1.m.cls T.fill = .method T.fill := by
    obtain ⟨c2, r2, m2, q1, q2, q3, q4, -⟩ := Cond.selects_spec (a' (.selects xNSE Bundle.tFill Bundle.tFill) (by simp [ag_nA]))
    cases Option.some.inj (q1.symm.trans hfound)
    cases Option.some.inj (q2.symm.trans (State.methodFound?_of_named Y.fill (by decide)))
    cases Option.some.inj (q3.symm.trans Y.fill)
    rw [Launch.admits_selectMethod X.admits]; exact q4
  obtain ⟨cellS0, hcS0, hiss⟩ := Y.statics
  obtain ⟨u0, hu0⟩ := Cond.staticRefV Y.unassigned L.unassignedStatic L.statics hcS0 hiss (a' (.isRef (.static Bundle.tN "UNASSIGNED_STACK" Bundle.steD)) (by simp [ag_nA]))
  obtain ⟨sen, hsen⟩ := Cond.staticRefV Y.sentinel L.sentinelStatic L.statics hcS0 hiss (a' (.isRef (.static Bundle.tN "SUPPRESSED_SENTINEL" Bundle.listD)) (by simp [ag_nA]))
  obtain ⟨ci198, i198, fB, hk198, hg198, ha198, hsB, -, hnB, htB, hffB⟩ := Cond.ownField (t := .object "java/lang/Object") Y.found L.cls (by decide +kernel) (a' (.fieldLink Bundle.tN 198 Bundle.tN "backtrace" "Ljava/lang/Object;") (by simp [ag_nA])) (a' (.lays Bundle.tN Bundle.tN "backtrace" "Ljava/lang/Object;") (by simp [ag_nA])) e.platform hpl
  obtain ⟨cellS, hcS', heS, -, hkeep⟩ := X.same.2.2.2.2.2 T.aS cellS0 hcS0
  have hcellS : W9.heap[T.aS]? = some cellS := hcS'
  have hout' : ∀ i, (⟨T.aS, i⟩ : Loc) ∉ locs := fun i hmem => by
    have := hlocs _ hmem cellS0 hcS0
    rw [hiss] at this; cases this
  have hknownS : cellS.vm ≠ .unknown := by
    rw [heS]; intro hu
    rw [show cellS0.vm = .unknown from hu] at hiss
    cases hiss
  have hneS : T.aS ≠ a := Nat.ne_of_lt (Nat.lt_of_lt_of_le (Array.getElem?_eq_some_iff.mp hcS0).1 hnew)
  obtain ⟨iM, hffM⟩ := Y.msg
  obtain ⟨tyC, dC, hdC, hdnC⟩ := Cond.laysAt hfound hk Y.cause (a' (.lays xNSE Bundle.tN "cause" "Ljava/lang/Throwable;") (by simp [ag_nA]))
  obtain ⟨tyS, dS, hdS, hdnS⟩ := Cond.laysAt hfound hk Y.stack (a' (.lays xNSE Bundle.tN "stackTrace" Bundle.steD) (by simp [ag_nA]))
  obtain ⟨tyP, dP, hdP, hdnP⟩ := Cond.laysAt hfound hk Y.supp (a' (.lays xNSE Bundle.tN "suppressedExceptions" Bundle.listD) (by simp [ag_nA]))
  obtain ⟨tyM, dM, hdM, hdnM⟩ := Cond.laysAt hfound hk hffM (a' (.lays xNSE Bundle.tN "detailMessage" "Ljava/lang/String;") (by simp [ag_nA]))
  obtain ⟨tyB, dB, hdB, hdnB⟩ := Cond.laysAt hfound hk hffB (a' (.lays xNSE Bundle.tN "backtrace" "Ljava/lang/Object;") (by simp [ag_nA]))
  have bC := Cond.laysApart hdB hdC hdnB hdnC (by rw [hnB, Y.causeName]; decide)
  have bS := Cond.laysApart hdB hdS hdnB hdnS (by rw [hnB, Y.stackName]; decide)
  have bP := Cond.laysApart hdB hdP hdnB hdnP (by rw [hnB, Y.suppName]; decide)
  have hskip : SkipFacts T e.platform s (fun u => u) u0 ((preparedCellV T.toThrowableT (freshCell P1.m.cls kX) a u0 sen).withEntry W9.cur) :=
    ⟨{ ci198 := ci198, i198 := i198, fBack := fB }, ⟨hk198, hg198, ha198, hsB⟩, by
      have := fresh_default (c := P1.m.cls) tyB
      rw [htB] at this
      simpa [preparedCellV, Cell.setSlot, Cell.withEntry, Array.getElem?_setIfInBounds, bC, bS, bP, bC.symm, bS.symm, bP.symm, defaultValue] using this, fun _ _ => rfl⟩
  obtain ⟨tm, methC, cdC, kC, vm₁, hnC, -, -, -, -, -, -, -, hW₁, st1⟩ := Steps.initColdS (tb := p.tables) (e := e) (below := below) (s := s) (U := W9) X.here hexec X.warmed hpl hown (t := Bundle.initS xNSE) rfl rfl (by decide)
    (a' (.methodLink "AgedMarks" 94 (Bundle.initS xNSE)) (by simp [ag_nA])) (h (.instanceMethod (Bundle.initS xNSE)) (by simp [ag_nA, Bundle.passSAtoms])) (bytes := prog_14_method_4_code) (maxL := 2) (h (.code (Bundle.initS xNSE) prog_14_method_4_code 2 none) (by simp [ag_nA, Bundle.passSAtoms]))
    (f := g) hg (a := a) (msg := msg) (rest := .ref a :: rest) hstack hd6
  cases Option.some.inj (hnC.symm.trans hP1m)
  have X₁ := X.noted hW₁
  obtain ⟨vm₂, X₂, st2⟩ := X₁.ctorMessageOffV hexec (g := { g with stack := .ref a :: rest }) hg hsize T L Z LZ M LM (P1 :: P2 :: Ps2)
    (fun P hP => by rcases List.mem_cons.mp hP with rfl | hP; exact L1; rcases List.mem_cons.mp hP with rfl | hP; exact L2; exact hL2 P hP) ⟨hs1, hlink2, hlinkPs2⟩ (u0 := u0) (sen := sen) (self := a) hmsg (cell := freshCell P1.m.cls kX) (cellS := cellS)
    hcell (fun _ => by simp) (by simp) rfl rfl hsel0 hselF hcellS hneS hknownS (by rw [hkeep _ (hout' _)]; exact hu0) (by rw [hkeep _ (hout' _)]; exact hsen)
    (Takes.of_laid hk hord tyC (by rw [Y.causeType]; rfl)) (Takes.of_laid hk hord tyS (by rw [Y.stackType]; exact fits_refV_array _ u0)) (Takes.of_laid hk hord tyP (by rw [Y.suppType]; exact fits_refV_object _ sen))
    (Takes.of_laid hk hord tyM (by rw [Y.msgType]; exact fits_refV_object _ ⟨msg, hmsg⟩)) Y.objLocals hskip htr [] hd6
    (by simp only [List.length_cons, hlen2, List.length_nil]; omega) (by simp only [List.length_cons, hlen2, List.length_nil]; exact hRlocals)
  obtain ⟨hwalk, hrun, hended, hWU, hsame⟩ := X₂.athrowLeaves hexec (g := { g with stack := .ref a :: rest, pc := g.pc + 3 }) hg hlocked hentered hout (a := a) (rest := rest) rfl hd9
  have hlt : a < ((W9.setVm vm₁).setVm vm₂).heap.size := (Array.getElem?_eq_some_iff.mp hcell).1
  have hU := heapAt_setCell_self (s := (W9.setVm vm₁).setVm vm₂) (plainBareV T.toThrowableT (freshCell P1.m.cls kX) a u0 sen msg) hlt
  refine ⟨_, st1 _ (fun acts => ?_), hrun, hended, hWU, hsame.weaken (fun y hy hlt' => ?_) (Nat.le_refl _) (Nat.le_refl _), _, hU, rfl, hfound⟩
  · rw [doInvoke_state]
    exact st2 _ hwalk
  · rcases List.mem_append.mp hy with h1 | h1
    · exact h1
    · exfalso
      have hb : y.base = a := by
        simp only [List.mem_cons, List.not_mem_nil, or_false] at h1
        rcases h1 with rfl | rfl | rfl | rfl | rfl <;> rfl
      rw [hb] at hlt'
      exact Nat.not_lt.mpr hnew hlt'
variable {Q : State → Prop} {pc : Nat} {ls : Array Slot} {rest : List Value} {D : va_G} {cl : List vw_C} {tys : List (ClassId × FieldType)} {ws : va_W} {A : Nat → Prop} {mc ms : Nat}
set_option maxHeartbeats 4000000 in
theorem ag_thrN {cc : ByteArray} {Qc : Array Value → State → Outcome → State → Prop} {text : String} {sa : Nat} {PX : String → Prop} (hx : p.tables.exec = Jvm.exec) (hb : c.code = cc) (hl : l.stackTraces = false) (hown : s.vm.findClass "AgedMarks" = some m.cls) (hstr : vk_R "AgedMarks" 92 text sa s) (ht : ∀ w ∈ agW, w.before args s = true) (hX : ag_x A s s.heap) (hS : va_S A s.heap s.heap []) (hsize : ls.size = c.maxLocals)
    (d0 : decode cc pc = .ok (.new 90, 3)) (d3 : decode cc (pc + 3) = .ok (.dup, 1)) (d4 : decode cc (pc + 4) = .ok (.ldc 92, 2)) (d6 : decode cc (pc + 6) = .ok (.invokespecial 94, 3)) (d9 : decode cc (pc + 9) = .ok (.athrow, 1)) (hout : ∀ x ∈ c.exceptionTable.toList, False)
    (hRframes : 5 < R.frames) (hRlocals : (rest.map fun v => v.category).sum + 82 ≤ R.locals) (hRcells : 1 ≤ R.cells) (hRslots : 6 ≤ R.slots) (hlocks : meth.locks = false) (hpx : PX xNSE) (hP : va_P D cl ws s.heap) (hK : va_K D cl tys s) (hD : va_D A ws) (hmc : 1 ≤ mc) (hms : 6 ≤ ms) :
    W p l e R s m args below meth c s.heap [] 0 0 (vx_MQ below Qc (vx_X (fun _ : Unit => True) (fun E _ t => PX E ∧ ag_to D cl tys A (fun _ : Unit => ws) () t) A) args s mc ms A) (F0 m pc ls rest) := by
  intro T hT X
  have htr : e.platform.stackTraces = false := (show e.platform.stackTraces = l.stackTraces by rw [X.admits.platform]).trans hl
  have Y := vx_rebase X (R' := { frames := R.frames, locals := R.locals, cells := 1, slots := 6 }) (Nat.le_refl _) (Nat.le_refl _) (by omega) (by omega)
  obtain ⟨s', hA⟩ : ∃ z, z = (T.setVm s.vm).setFrames (.invoking m args :: below) := ⟨_, rfl⟩
  rw [← hA] at Y
  have hvm : s'.vm = s.vm := by rw [hA]; rfl
  have hhp : s'.heap = s.heap := by rw [hA]; exact hT
  have hW0 : s.WarmedH s'.vm := by rw [hvm]; exact State.WarmedH.refl s
  have hat' : ∀ w ∈ ag_nA.filter vx_no, w.before args s' = true := fun w hw => vx_ot_at hW0 hvm.symm (ag_nA_ot w (List.mem_cons_of_mem _ (List.mem_cons_of_mem _ hw))) (ag_hatx ag_nA_in ht hX.2.2.1 w hw)
  have hk' : (Cond.classLink "AgedMarks" 90 xNSE).before args s' = true := vx_ot_at hW0 hvm.symm (ag_nA_ot _ List.mem_cons_self) (ht _ mw_c_A_90)
  have hini' : (Cond.initialized xNSE).before args s' = true := vx_ot_at hW0 hvm.symm (ag_nA_ot _ (List.mem_cons_of_mem _ List.mem_cons_self)) (ht _ mw_ini_NoS)
  have hU' : vx_Zq Bundle.tN "UNASSIGNED_STACK" Bundle.steD A s' s'.heap := by rw [hhp]; exact vx_Zq.moved hW0.alike hX.1
  have hN' : vx_Zq Bundle.tN "SUPPRESSED_SENTINEL" Bundle.listD A s' s'.heap := by rw [hhp]; exact vx_Zq.moved hW0.alike hX.2.1
  have h : ∀ w ∈ ag_nA, w.before args s' = true := vx_own hat' (vx_isRefq hU'.1) (vx_isRefq hN'.1) hU'.2.word hN'.2.word
  have hown' : s'.vm.findClass "AgedMarks" = some m.cls := by rw [hvm]; exact hown
  have hins : (Cond.instantiable xNSE 6).before args s' = true := h _ (by simp [ag_nA])
  obtain ⟨vm₁, cX, kX, hfX, hkX, -, -, X₁, st1⟩ := Y.newCold hx (own := "AgedMarks") (C := xNSE) (index := 90) (n := 6) hown' hk' hins hini'
    (g := F0 m pc ls rest) rfl (by rw [hb]; exact d0) (Nat.le_refl _) (Nat.le_refl _)
  generalize hT1 : (T.setVm vm₁).pushCell { cls := cX, slots := kX.instanceTypes.map defaultValue, vm := .none } = T1 at X₁ st1
  have hcat : (Value.ref T.heap.size).category = 1 := rfl
  have hcellA : T1.heap[T.heap.size]? = some (freshCell cX kX) := by rw [← hT1]; exact State.heap_pushCell_size _ _
  have d3' : decode c.code (pc + 3) = .ok (.dup, 1) := by rw [hb]; exact d3
  have d4' : decode c.code (pc + 4) = .ok (.ldc 92, 2) := by rw [hb]; exact d4
  have hstr' : vk_R "AgedMarks" 92 text sa s' := vk_R.warm hW0 hstr
  obtain ⟨U, hsteps, hrun, hend, hW, hsame, ce, hce, hcv, hO⟩ := ag_ctorN X₁ hx htr hown' h (fun x hx => nomatch hx) hfX hkX hcellA (by rw [hhp, hT]; exact Nat.le_refl _) (msg := .ref sa) rfl
    (g := { method := m, pc := pc + 6, locals := ls, stack := .ref sa :: .ref T.heap.size :: .ref T.heap.size :: rest, locked := none }) rfl hsize rfl rfl (rest := rest) rfl
    (by rw [hb]; exact d6) (by rw [hb]; exact d9) (fun x h => (hout x h).elim) hRframes (by simp only [List.map_cons, List.sum_cons, hcat]; show 2 * 0 + _ + 81 ≤ R.locals; omega) hlocks
  obtain ⟨f1, f2⟩ := vx_frame hsame
  rw [hhp] at f1 f2
  have hWs : s.WarmedH U.vm := State.WarmedH.trans hW0 hW
  have hcl : s.vm.findClass xNSE = some ce.cls := by rw [hvm] at hO; exact hO
  have hall : s.sameButNew ({ U with vm := s.vm } : State) [] mc ms := by
    subst hA
    obtain ⟨e1, e2⟩ := hsame
    rw [State.setFrames_setFrames] at e1
    have h2 : (T.setVm s.vm).sameButNew ({ U with vm := s.vm } : State) [] (0 + 1) (0 + 6) := ⟨e1, e2⟩
    have h3 := X.same.trans h2
    rw [List.append_nil] at h3
    exact h3.mono (by omega) (by omega)
  have hkk : ∀ q : Nat, q < s.heap.size → U.heap[q]? = s.heap[q]? := fun q hq => f2 q hq (fun z hz => nomatch hz)
  refine ⟨U, ?_, .threw T.heap.size, hrun, hend, Or.inr ⟨T.heap.size, rfl, xNSE, ce, [], ⟨(), trivial, ⟨hpx, hP.kept (fun k q h => hkk _ (hP k q h).lt), va_K.moved hWs.alike hK, hD⟩, f1, fun q h1 _ => hkk q h1⟩, hce, hcv, hcl, hWs, hall, fun z hz => nomatch hz⟩⟩
  refine st1 _ ?_
  show Steps p.tables e below (T1.setTop { method := m, pc := pc + 3, locals := ls, stack := .ref T.heap.size :: rest, locked := none }) _
  jvm_step X₁.here [X₁.here.top, hx, d3', Value.category]
  exact X₁.ldcString hx (own := "AgedMarks") (text := text) (index := 92) (a := sa) hown' hstr'.1 hstr'.2
    (g := { method := m, pc := pc + 4, locals := ls, stack := .ref T.heap.size :: .ref T.heap.size :: rest, locked := none }) rfl d4' _ hsteps
end AgNse
end
section
set_option maxHeartbeats 4000000 in
set_option maxRecDepth 100000 in
/-- mark(x, y) -/
theorem c_A_mark (l : Launch) (dC : Nat → ClassId) (dI : Nat → Nat → Nat) (sz : Nat) (a qm qs qt qw : Nat) (cI cJ : ClassId) (G R nw en mo la go sp : Nat) (f g : Nat → Int32) (w : Nat → Int64) (ms : ag_M) (x y : Int32) (hlx : l.stackTraces = false) (hG2 : G ≤ 1000) (hbd : ag_bd ms) (hso : ms.Pairwise (fun x y => x.1 < y.1)) (hrep : ag_rep ms f g w) : vx_Met l y_A_mark (Cond.code y_A_mark b_A_mark 3 (some .long) :: agW) ({ frames := 8, cells := 1, slots := 6, locals := 100 }) (va_Pc [.ref a, .int x, .int y] (ag_atx (dC, dI) agCl [(cI, .int), (cJ, .long)] sz [(a, .inr (1, [.int (nI G), .int (nI R), .ref qm, .ref qs, .ref qt, .int (nI ms.length), .long (lN nw), .long (lN en), .int (nI mo), .long (lN la), .long (lN go), .long (lN sp)])), (qm, .inl (cI, 320, .inl f)), (qs, .inl (cI, 320, .inl g)), (qt, .inr (0, [.ref qw])), (qw, .inl (cJ, 5, .inr (.inl w)))])) (va_Ql (fun (r : Int64) (u : Nat × Nat) => u.1 < ms.length ∧ u.2 ≤ 2 ∧ x = nI u.1 ∧ y = nI u.2 ∧ r = ag_mark G ms u.1 u.2) (ag_to (dC, dI) agCl [(cI, .int), (cJ, .long)] (va_A [(a, .inr (1, [.int (nI G), .int (nI R), .ref qm, .ref qs, .ref qt, .int (nI ms.length), .long (lN nw), .long (lN en), .int (nI mo), .long (lN la), .long (lN go), .long (lN sp)])), (qm, .inl (cI, 320, .inl f)), (qs, .inl (cI, 320, .inl g)), (qt, .inr (0, [.ref qw])), (qw, .inl (cJ, 5, .inr (.inl w)))] sz) (fun _ : Nat × Nat => [(a, .inr (1, [.int (nI G), .int (nI R), .ref qm, .ref qs, .ref qt, .int (nI ms.length), .long (lN nw), .long (lN en), .int (nI mo), .long (lN la), .long (lN go), .long (lN sp)])), (qm, .inl (cI, 320, .inl f)), (qs, .inl (cI, 320, .inl g)), (qt, .inr (0, [.ref qw])), (qw, .inl (cJ, 5, .inr (.inl w)))])) (va_A [(a, .inr (1, [.int (nI G), .int (nI R), .ref qm, .ref qs, .ref qt, .int (nI ms.length), .long (lN nw), .long (lN en), .int (nI mo), .long (lN la), .long (lN go), .long (lN sp)])), (qm, .inl (cI, 320, .inl f)), (qs, .inl (cI, 320, .inl g)), (qt, .inr (0, [.ref qw])), (qw, .inl (cJ, 5, .inr (.inl w)))] sz)) (vx_X (fun _ : Unit => True) (fun E _ t => (fun E : String => (E = xNSE ∧ ¬ ∃ k, k < ms.length ∧ x = nI k) ∨ (E = xIAE ∧ (∃ k, k < ms.length ∧ x = nI k) ∧ ¬ ∃ j, j ≤ 2 ∧ y = nI j)) E ∧ ag_to (dC, dI) agCl [(cI, .int), (cJ, .long)] (va_A [(a, .inr (1, [.int (nI G), .int (nI R), .ref qm, .ref qs, .ref qt, .int (nI ms.length), .long (lN nw), .long (lN en), .int (nI mo), .long (lN la), .long (lN go), .long (lN sp)])), (qm, .inl (cI, 320, .inl f)), (qs, .inl (cI, 320, .inl g)), (qt, .inr (0, [.ref qw])), (qw, .inl (cJ, 5, .inr (.inl w)))] sz) (fun _ : Unit => [(a, .inr (1, [.int (nI G), .int (nI R), .ref qm, .ref qs, .ref qt, .int (nI ms.length), .long (lN nw), .long (lN en), .int (nI mo), .long (lN la), .long (lN go), .long (lN sp)])), (qm, .inl (cI, 320, .inl f)), (qs, .inl (cI, 320, .inl g)), (qt, .inr (0, [.ref qw])), (qw, .inl (cJ, 5, .inr (.inl w)))]) () t) (va_A [(a, .inr (1, [.int (nI G), .int (nI R), .ref qm, .ref qs, .ref qt, .int (nI ms.length), .long (lN nw), .long (lN en), .int (nI mo), .long (lN la), .long (lN go), .long (lN sp)])), (qm, .inl (cI, 320, .inl f)), (qs, .inl (cI, 320, .inl g)), (qt, .inr (0, [.ref qw])), (qw, .inl (cJ, 5, .inr (.inl w)))] sz)) 1 6 (va_A [(a, .inr (1, [.int (nI G), .int (nI R), .ref qm, .ref qs, .ref qt, .int (nI ms.length), .long (lN nw), .long (lN en), .int (nI mo), .long (lN la), .long (lN go), .long (lN sp)])), (qm, .inl (cI, 320, .inl f)), (qs, .inl (cI, 320, .inl g)), (qt, .inr (0, [.ref qw])), (qw, .inl (cJ, 5, .inr (.inl w)))] sz) := by
  refine ag_ofX (Qf := fun A => va_Ql (fun (r : Int64) (u : Nat × Nat) => u.1 < ms.length ∧ u.2 ≤ 2 ∧ x = nI u.1 ∧ y = nI u.2 ∧ r = ag_mark G ms u.1 u.2) (ag_to (dC, dI) agCl [(cI, .int), (cJ, .long)] A (fun _ : Nat × Nat => [(a, .inr (1, [.int (nI G), .int (nI R), .ref qm, .ref qs, .ref qt, .int (nI ms.length), .long (lN nw), .long (lN en), .int (nI mo), .long (lN la), .long (lN go), .long (lN sp)])), (qm, .inl (cI, 320, .inl f)), (qs, .inl (cI, 320, .inl g)), (qt, .inr (0, [.ref qw])), (qw, .inl (cJ, 5, .inr (.inl w)))])) A) (Xf := fun A => vx_X (fun _ : Unit => True) (fun E _ t => (fun E : String => (E = xNSE ∧ ¬ ∃ k, k < ms.length ∧ x = nI k) ∨ (E = xIAE ∧ (∃ k, k < ms.length ∧ x = nI k) ∧ ¬ ∃ j, j ≤ 2 ∧ y = nI j)) E ∧ ag_to (dC, dI) agCl [(cI, .int), (cJ, .long)] A (fun _ : Unit => [(a, .inr (1, [.int (nI G), .int (nI R), .ref qm, .ref qs, .ref qt, .int (nI ms.length), .long (lN nw), .long (lN en), .int (nI mo), .long (lN la), .long (lN go), .long (lN sp)])), (qm, .inl (cI, 320, .inl f)), (qs, .inl (cI, 320, .inl g)), (qt, .inr (0, [.ref qw])), (qw, .inl (cJ, 5, .inr (.inl w)))]) () t) A) (cc := b_A_mark) (maxL := 3) (ret := (some .long)) (lv := [(0, .ref a), (1, .int x), (2, .int y)]) (by decide) rfl (Nat.le_of_ble_eq_true rfl) rfl (fun p e s m below meth c A ls hx hb hr hts hown hlocks hml hnm hA hS hP hK hD hl hsz hout hX => ?_)
  have hown : s.vm.findClass "AgedMarks" = some m.cls := hown
  have ht : ∀ w ∈ agW, w.before [.ref a, .int x, .int y].toArray s = true := fun w h => hts w (List.mem_cons_of_mem _ h)
  have hlen := hbd.1
  refine lv_iload_n hx hb d_A_mark_0 rfl (lv_at hl 1 rfl) ?_
  refine lv_if_lt (tgt := 12) hx hb d_A_mark_1 (by decide) (fun c1 => ?_) (fun c1 => ?_)
  · have h_n := trivial
    obtain ⟨sa, hstr⟩ := hX.2.2.2.2.2.2.2.2.1
    exact ag_thrN hx hb hlx hown hstr ht hX hS (hl.1.trans hml.symm) d_A_mark_12 d_A_mark_15 d_A_mark_16 d_A_mark_18 d_A_mark_21 hout (by decide) (by decide) (by decide) (by decide) hlocks (Or.inl ⟨rfl, fun ⟨k, h1, h2⟩ => by rw [h2] at c1; exact absurd c1 (nI_pos (by omega))⟩) hP hK hD (by decide) (by decide)
  · have h_n := trivial
    obtain ⟨k, hk31, rfl⟩ := nI_of c1
    refine lv_iload_n hx hb d_A_mark_4 rfl (lv_at hl 1 rfl) ?_
    refine lv_aload_n hx hb d_A_mark_5 rfl (lv_at hl 0 rfl) ?_
    refine va_get (D := (dC, dI)) (ci := 1) (v := .int (nI ms.length)) (C := RX1) (T := TX1) (N := 12) hx hb ht inA1 hown hK hP 0 rfl rfl 5 (by decide) (ht _ mw_f_A_43) (fun _ h9 => h9) rfl d_A_mark_6 ?_
    refine ag_icmp_lt (tgt := 22) hx hb d_A_mark_9 (by decide) (by omega) (by omega) (fun c9 => ?_) (fun c9 => ?_)
    · have h_n := trivial
      have hb1 := hbd.2 _ (List.getElem_mem c9)
      have hk9 : ms.length - 1 < ms.length := by omega
      have hb2 := hbd.2 _ (List.getElem_mem hk9)
      have hle9 : (ms[k]).1 ≤ (ms[ms.length - 1]).1 := by
        rcases Nat.lt_or_ge k (ms.length - 1) with q | q
        · exact Nat.le_of_lt (List.pairwise_iff_getElem.mp hso k (ms.length - 1) c9 hk9 q)
        · have e9 : k = ms.length - 1 := by omega
          subst e9
          exact Nat.le_refl _
      refine lv_iload_n hx hb d_A_mark_22 rfl (lv_at hl 2 rfl) ?_
      by_cases hlo : y.toInt < 0 ∨ 2 < y.toInt
      · have h_n := trivial
        refine lv_tableOut (tgt := 82) hx hb d_A_mark_23 hlo (by decide) ?_
        obtain ⟨sa, hstr⟩ := hX.2.2.2.2.2.2.2.2.2
        exact ag_thr hx hb hlx hown (by decide) mw_c_A_49 mw_ini_Ill hstr ag_at_IAE ag_ot_IAE ht hX hS (hl.1.trans hml.symm) d_A_mark_82 d_A_mark_85 d_A_mark_86 d_A_mark_88 d_A_mark_91 hout (by decide) (by decide) (by decide) (by decide) hlocks (Or.inr ⟨rfl, ⟨k, c9, rfl⟩, fun ⟨j, h1, h2⟩ => by rw [h2, nI_toInt (by omega)] at hlo; omega⟩) hP hK hD (by decide) (by decide)
      · have h_n := trivial
        obtain ⟨j, hj, rfl⟩ := ag_small hlo
        rcases (show j = 0 ∨ j = 1 ∨ j = 2 by omega) with rfl | rfl | rfl
        · have h_n := trivial
          refine lv_tableIn (off := 25) (tgt := 48) hx hb d_A_mark_23 (by decide) (by decide) (by decide) (by decide) ?_
          refine lv_aload_n hx hb d_A_mark_48 rfl (lv_at hl 0 rfl) ?_
          refine lv_iload_n hx hb d_A_mark_49 rfl (lv_at hl 1 rfl) ?_
          have hPc := hP.sub (ws' := [(a, .inr (1, [.int (nI G), .int (nI R), .ref qm, .ref qs, .ref qt, .int (nI ms.length), .long (lN nw), .long (lN en), .int (nI mo), .long (lN la), .long (lN go), .long (lN sp)])), (qm, .inl (cI, 320, .inl f)), (qs, .inl (cI, 320, .inl g)), (qt, .inr (0, [.ref qw])), (qw, .inl (cJ, 5, .inr (.inl w)))]) [0, 1, 2, 3, 4] rfl
          have hDc := hD.sub (ws' := [(a, .inr (1, [.int (nI G), .int (nI R), .ref qm, .ref qs, .ref qt, .int (nI ms.length), .long (lN nw), .long (lN en), .int (nI mo), .long (lN la), .long (lN go), .long (lN sp)])), (qm, .inl (cI, 320, .inl f)), (qs, .inl (cI, 320, .inl g)), (qt, .inr (0, [.ref qw])), (qw, .inl (cJ, 5, .inr (.inl w)))]) [0, 1, 2, 3, 4] (by decide) rfl
          refine ag_cll (wc := [(a, .inr (1, [.int (nI G), .int (nI R), .ref qm, .ref qs, .ref qt, .int (nI ms.length), .long (lN nw), .long (lN en), .int (nI mo), .long (lN la), .long (lN go), .long (lN sp)])), (qm, .inl (cI, 320, .inl f)), (qs, .inl (cI, 320, .inl g)), (qt, .inr (0, [.ref qw])), (qw, .inl (cJ, 5, .inr (.inl w)))]) (wr := []) (Wf := fun _ : Unit => [(a, .inr (1, [.int (nI G), .int (nI R), .ref qm, .ref qs, .ref qt, .int (nI ms.length), .long (lN nw), .long (lN en), .int (nI mo), .long (lN la), .long (lN go), .long (lN sp)])), (qm, .inl (cI, 320, .inl f)), (qs, .inl (cI, 320, .inl g)), (qt, .inr (0, [.ref qw])), (qw, .inl (cJ, 5, .inr (.inl w)))]) hP hD hS hA [0, 1, 2, 3, 4] [] rfl rfl (by decide) (by decide) (va_runV (C := "AgedMarks") (As := [.int (nI k)]) (rest := []) ⟨hx, hb, hml, hown, hts⟩ (c_A_countAt l dC dI s.heap.size a qm qs qt qw cI cJ G R ms.length nw en mo la go sp f g w k (ms[k]).1 (by omega) (by omega) hG2 (hrep.1 k c9).1) (ag_cwV 1 hts mw_m_A_82 mw_instanceMethod_A_countAt mw_sel_A_countAt mw_ini_A mw_code_A_countAt rfl rfl (by decide +kernel) ⟨Nat.le_of_ble_eq_true rfl, Nat.le_of_ble_eq_true rfl⟩) ⟨ag_blind, va_recv hK hPc (ci := 1) (q0 := 0) rfl rfl, ag_pre hPc hK hDc⟩ rfl rfl hl.1 rfl (lv_room (Nat.le_of_ble_eq_true rfl)) d_A_mark_50 ⟨Nat.le_of_ble_eq_true rfl, Nat.le_of_ble_eq_true rfl⟩) (fun r1 u H locs hw hP hD hS => ?_)
          try dsimp only at hw
          subst hw
          have hP : va_P (dC, dI) agCl [(a, .inr (1, [.int (nI G), .int (nI R), .ref qm, .ref qs, .ref qt, .int (nI ms.length), .long (lN nw), .long (lN en), .int (nI mo), .long (lN la), .long (lN go), .long (lN sp)])), (qm, .inl (cI, 320, .inl f)), (qs, .inl (cI, 320, .inl g)), (qt, .inr (0, [.ref qw])), (qw, .inl (cJ, 5, .inr (.inl w)))] H := hP
          have hD : va_D A [(a, .inr (1, [.int (nI G), .int (nI R), .ref qm, .ref qs, .ref qt, .int (nI ms.length), .long (lN nw), .long (lN en), .int (nI mo), .long (lN la), .long (lN go), .long (lN sp)])), (qm, .inl (cI, 320, .inl f)), (qs, .inl (cI, 320, .inl g)), (qt, .inr (0, [.ref qw])), (qw, .inl (cJ, 5, .inr (.inl w)))] := hD
          refine W.widen (k := 1) (n := 6) (by decide) (by decide) ?_
          refine vx_ret ?_
          exact ag_retl hx hb hr hlocks (k, 0) (⟨c9, Nat.le_of_ble_eq_true rfl, rfl, rfl, by rw [ag_mark, ag_num_eq c9]; rfl⟩) hP hK hD hS d_A_mark_53
        · have h_n := trivial
          refine lv_tableIn (off := 31) (tgt := 54) hx hb d_A_mark_23 (by decide) (by decide) (by decide) (by decide) ?_
          refine lv_aload_n hx hb d_A_mark_54 rfl (lv_at hl 0 rfl) ?_
          refine va_get (D := (dC, dI)) (ci := 1) (v := .ref qs) (C := RX1) (T := TX1) (N := 12) hx hb ht inA1 hown hK hP 0 rfl rfl 3 (by decide) (ht _ mw_f_A_13) (fun _ h9 => h9) rfl d_A_mark_55 ?_
          refine lv_iload_n hx hb d_A_mark_58 rfl (lv_at hl 1 rfl) ?_
          refine ag_iald hx hb hK hP 2 0 rfl rfl (by omega) (by decide) d_A_mark_59 ?_
          refine ag_topi (nI ((ms[k]).2)) ((hrep.1 k c9).2) ?_
          refine lv_i2l (v := lN ((ms[k]).2)) hx hb d_A_mark_60 (nI_l (by omega)) ?_
          refine W.widen (k := 1) (n := 6) (by decide) (by decide) ?_
          refine vx_ret ?_
          exact ag_retl hx hb hr hlocks (k, 1) (⟨c9, Nat.le_of_ble_eq_true rfl, rfl, rfl, by rw [ag_mark, ag_slo_eq c9]; rfl⟩) hP hK hD hS d_A_mark_61
        · have h_n := trivial
          refine lv_tableIn (off := 39) (tgt := 62) hx hb d_A_mark_23 (by decide) (by decide) (by decide) (by decide) ?_
          refine lv_aload_n hx hb d_A_mark_62 rfl (lv_at hl 0 rfl) ?_
          refine va_get (D := (dC, dI)) (ci := 1) (v := .ref qm) (C := RX1) (T := TX1) (N := 12) hx hb ht inA1 hown hK hP 0 rfl rfl 2 (by decide) (ht _ mw_f_A_9) (fun _ h9 => h9) rfl d_A_mark_63 ?_
          refine lv_aload_n hx hb d_A_mark_66 rfl (lv_at hl 0 rfl) ?_
          refine va_get (D := (dC, dI)) (ci := 1) (v := .int (nI ms.length)) (C := RX1) (T := TX1) (N := 12) hx hb ht inA1 hown hK hP 0 rfl rfl 5 (by decide) (ht _ mw_f_A_43) (fun _ h9 => h9) rfl d_A_mark_67 ?_
          refine ag_iconst hx hb 1 d_A_mark_70 (by decide) ?_
          refine lv_isub hx hb d_A_mark_71 ?_
          refine ag_topi (nI (ms.length - 1)) (pk_sub (by omega)) ?_
          refine ag_iald hx hb hK hP 1 0 rfl rfl (by omega) (by decide) d_A_mark_72 ?_
          refine ag_topi (nI ((ms[ms.length - 1]).1)) ((hrep.1 _ hk9).1) ?_
          refine lv_aload_n hx hb d_A_mark_73 rfl (lv_at hl 0 rfl) ?_
          refine va_get (D := (dC, dI)) (ci := 1) (v := .ref qm) (C := RX1) (T := TX1) (N := 12) hx hb ht inA1 hown hK hP 0 rfl rfl 2 (by decide) (ht _ mw_f_A_9) (fun _ h9 => h9) rfl d_A_mark_74 ?_
          refine lv_iload_n hx hb d_A_mark_77 rfl (lv_at hl 1 rfl) ?_
          refine ag_iald hx hb hK hP 1 0 rfl rfl (by omega) (by decide) d_A_mark_78 ?_
          refine ag_topi (nI ((ms[k]).1)) ((hrep.1 k c9).1) ?_
          refine lv_isub hx hb d_A_mark_79 ?_
          refine ag_topi (nI (((ms[ms.length - 1]).1) - ((ms[k]).1))) (pk_sub (by omega)) ?_
          refine lv_i2l (v := lN (((ms[ms.length - 1]).1) - ((ms[k]).1))) hx hb d_A_mark_80 (nI_l (by omega)) ?_
          refine W.widen (k := 1) (n := 6) (by decide) (by decide) ?_
          refine vx_ret ?_
          exact ag_retl hx hb hr hlocks (k, 2) (⟨c9, Nat.le_of_ble_eq_true rfl, rfl, rfl, by rw [ag_mark, ag_num_eq c9, ag_num_eq hk9]; rfl⟩) hP hK hD hS d_A_mark_81
    · have h_n := trivial
      obtain ⟨sa, hstr⟩ := hX.2.2.2.2.2.2.2.2.1
      exact ag_thrN hx hb hlx hown hstr ht hX hS (hl.1.trans hml.symm) d_A_mark_12 d_A_mark_15 d_A_mark_16 d_A_mark_18 d_A_mark_21 hout (by decide) (by decide) (by decide) (by decide) hlocks (Or.inl ⟨rfl, fun ⟨j, h1, h2⟩ => by have := (nI_eq (a := k) (b := j) (by omega) (by omega)).mp h2; omega⟩) hP hK hD (by decide) (by decide)
end
