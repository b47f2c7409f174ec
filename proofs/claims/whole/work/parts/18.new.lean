section AgNew
theorem ag_Ku {D : va_G} {cl : List vw_C} {tys : List (ClassId × FieldType)} {s : State} (h : va_K D cl tys s) {c1 c2 : ClassId} (i j : Nat) (hi : tys[i]? = some (c1, .int)) (hj : tys[j]? = some (c2, .int)) : c1 = c2 := by
  have a : s.vm.findClass ("[" ++ FieldType.int.toString) = some c1 := (h.2 i _ hi).2
  have b : s.vm.findClass ("[" ++ FieldType.int.toString) = some c2 := (h.2 j _ hj).2
  exact Option.some.inj (a.symm.trans b)
theorem ag_KuL {D : va_G} {cl : List vw_C} {tys : List (ClassId × FieldType)} {s : State} (h : va_K D cl tys s) {c1 c2 : ClassId} (i j : Nat) (hi : tys[i]? = some (c1, .long)) (hj : tys[j]? = some (c2, .long)) : c1 = c2 := by
  have a : s.vm.findClass ("[" ++ FieldType.long.toString) = some c1 := (h.2 i _ hi).2
  have b : s.vm.findClass ("[" ++ FieldType.long.toString) = some c2 := (h.2 j _ hj).2
  exact Option.some.inj (a.symm.trans b)
/-- the nearest of lo .. hi -/
def ag_clamp (lo hi : Nat) (x : Int32) : Nat := if x.toInt < lo then lo else if (hi : Int) < x.toInt then hi else x.toInt.toNat
theorem ag_clamp_in {lo hi : Nat} (x : Int32) (h : lo ≤ hi) : lo ≤ ag_clamp lo hi x ∧ ag_clamp lo hi x ≤ hi := by
  unfold ag_clamp
  by_cases h1 : x.toInt < lo
  · rw [if_pos h1]; omega
  · rw [if_neg h1]
    by_cases h2 : (hi : Int) < x.toInt
    · rw [if_pos h2]; omega
    · rw [if_neg h2]; omega
theorem ag_clamp_nI {lo hi k : Nat} (hk : k < 2 ^ 31) : ag_clamp lo hi (nI k) = if k < lo then lo else if hi < k then hi else k := by
  unfold ag_clamp
  rw [nI_toInt hk]
  by_cases h1 : k < lo
  · rw [if_pos (by omega), if_pos h1]
  · rw [if_neg (by omega), if_neg h1]
    by_cases h2 : hi < k
    · rw [if_pos (by omega), if_pos h2]
    · rw [if_neg (by omega), if_neg h2]; omega
theorem ag_clamp_neg {lo hi : Nat} {x : Int32} (h : x < 0) : ag_clamp lo hi x = lo := by
  unfold ag_clamp
  have h1 := Int32.lt_iff_toInt_lt.mp h
  have h0 : (0 : Int32).toInt = 0 := rfl
  rw [if_pos (by omega)]
theorem ag_neg_lt {x : Int32} {k : Nat} (h : x < 0) (hk : k < 2 ^ 31) : x < nI k := by
  have h1 := Int32.lt_iff_toInt_lt.mp h
  have h0 : (0 : Int32).toInt = 0 := rfl
  exact Int32.lt_iff_toInt_lt.mpr (by rw [nI_toInt hk]; omega)
theorem ag_clampJ {lo hi : Nat} (x : Int32) (hlh : lo ≤ hi) (hh : hi < 2 ^ 31) : (if nI lo < (if x < nI hi then x else nI hi) then (if x < nI hi then x else nI hi) else nI lo) = nI (ag_clamp lo hi x) := by
  by_cases hx : x < 0
  · have h1 := ag_neg_lt (k := hi) hx hh
    have h2 : ¬ nI lo < x := fun q => by
      have h3 := Int32.lt_iff_toInt_lt.mp q
      have h4 := Int32.lt_iff_toInt_lt.mp hx
      have h0 : (0 : Int32).toInt = 0 := rfl
      rw [nI_toInt (by omega)] at h3
      omega
    rw [if_pos h1, if_neg h2, ag_clamp_neg hx]
  · obtain ⟨k, hk, rfl⟩ := nI_of hx
    rw [ag_clamp_nI hk]
    by_cases h1 : k < hi
    · rw [if_pos ((nI_ltI hk hh).mpr h1)]
      by_cases h2 : lo < k
      · rw [if_pos ((nI_ltI (by omega) hk).mpr h2), if_neg (by omega), if_neg (by omega)]
      · rw [if_neg (mt (nI_ltI (by omega) hk).mp h2)]
        by_cases h3 : k < lo
        · rw [if_pos h3]
        · rw [if_neg h3, if_neg (by omega), show k = lo by omega]
    · rw [if_neg (mt (nI_ltI hk hh).mp h1)]
      by_cases h2 : lo < hi
      · rw [if_pos ((nI_ltI (by omega) hh).mpr h2), if_neg (by omega)]
        by_cases h3 : hi < k
        · rw [if_pos h3]
        · rw [if_neg h3, show k = hi by omega]
      · rw [if_neg (mt (nI_ltI (by omega) hh).mp h2), show lo = hi by omega]
        by_cases h3 : hi < k
        · rw [if_neg (by omega), if_pos h3]
        · rw [if_neg (by omega), if_neg h3, show k = hi by omega]
theorem ag_bt0 (j : Nat) : ag_bt (fun _ => 0) j = false := by
  unfold ag_bt
  show (0#64).getLsbD _ = false
  simp
theorem ag_rep_new {f g : Nat → Int32} {w : Nat → Int64} (hf : f 0 = nI 0) (hg : g 0 = nI 0) (hw : ∀ j, ag_bt w j = (ag_bt (fun _ => 0) j || decide (j = 0))) : ag_rep [(0, 0)] f g w := by
  refine ⟨fun k hk => ?_, fun k hk => ?_⟩
  · have e : k = 0 := by simpa using hk
    subst e
    exact ⟨hf, hg⟩
  · rw [hw k, ag_bt0]
    simp
theorem ag_in_new (R : Nat) : ag_in R 0 [(0, 0)] := by
  refine ⟨⟨by simp, fun x hx => ?_, by simp, 0, [], rfl⟩, fun x hx => ?_⟩
  · have e : x = (0, 0) := by simpa using hx
    subst e
    exact ⟨Nat.le_refl _, ag_keep_0⟩
  · have e : x = (0, 0) := by simpa using hx
    subst e
    exact Nat.zero_le _
/-- a contract's start with one fact more of the state -/
def ag_atk (D : va_G) (cl : List vw_C) (tys : List (ClassId × FieldType)) (sz : Nat) (ws : va_W) (w : Cond) : State → Prop := fun U => ag_at D cl tys sz ws U ∧ va_Nw w U
theorem ag_blindk {D : va_G} {cl : List vw_C} {tys : List (ClassId × FieldType)} {sz : Nat} {ws : va_W} {av : List Value} {w : Cond} (hw : w.onTables = true) : FrameBlind (va_Pc av (ag_atk D cl tys sz ws w)) := fun a U g mk q => by
  obtain ⟨q0, ⟨q1, qP, qK, qD⟩, qx⟩ := q
  exact ⟨q0, ⟨q1, qP, va_K.moved (u := U) (U := U.calling g mk a) (Vm.Alike.refl U.vm) qK, qD⟩, va_Nw.same (u := U) (U := U.calling g mk a) hw rfl qx⟩
variable {l : Launch} {D : va_G} {cl : List vw_C} {tys : List (ClassId × FieldType)} {mc ms : Nat}
theorem ag_ofK {y : MethodName} {ws0 ws' : List Cond} {rm : Room} {sz : Nat} {wsc : va_W} {av : List Value} {lv : List (Nat × Value)} {w9 : Cond} {Qf : (Nat → Prop) → Array Value → State → Outcome → State → Prop} {cc : ByteArray} {maxL : Nat} {ret : Option FieldType}
    (hy : plainName y.cls = true) (hw : ws0 = Cond.code y cc maxL ret :: ws') (hlen : (lg_sl av).length ≤ maxL) (hlv : lv_args 0 av = lv)
    (body : ∀ (p : Program) (e : Env) (s : State) (m : MethodId) (below : List Frame) (meth : Method) (c : Code) (A : Nat → Prop) (ls : Array Slot), p.tables.exec = Jvm.exec → c.code = cc → meth.sig.returnType = ret → (∀ w ∈ ws0, w.before av.toArray s = true) → s.vm.findClass y.cls = some m.cls → meth.locks = false → c.maxLocals = maxL → meth.name = y.name →
      (∀ q : Nat, s.heap.size ≤ q → A q) → va_S A s.heap s.heap [] → va_P D cl wsc s.heap → va_K D cl tys s → va_D A wsc → lv_has ls maxL lv → s.heap.size = sz → va_Nw w9 s → W p l e rm s m av.toArray below meth c s.heap [] 0 0 (MQ below (Qf A) av.toArray s mc ms A) (F0 m 0 ls [])) :
    Met l y ws0 rm (va_Pc av (ag_atk D cl tys sz wsc w9)) (Qf (va_A wsc sz)) mc ms (va_A wsc sz) := by
  refine Met.ofW (cc := cc) (maxL := maxL) (ret := ret) hy hw ?_
  intro p e s m args below meth c s₁ B hml hv
  obtain ⟨rfl, ⟨hsz, hP, hK, hD0⟩, h9⟩ := hv
  subst hsz
  have hl := lv_entry av (n := maxL) hlen
  rw [hlv] at hl
  rw [lg_entry_eq]
  exact body p e s m below meth c _ _ B.exec B.bytes B.returns (atoms_spec (ws := ws0) B.pre) (findClass_of_methodNamed B.named) B.notSynchronized hml (name_of_methodNamed B.named B.method).1 (fun q h => Or.inr h) va_S.rf hP hK (hD0.self (sz := s.heap.size)) hl rfl h9
end AgNew
section AgRetz
variable {p : Program} {l : Launch} {e : Env} {R : Room} {s : State} {m : MethodId} {args : Array Value} {below : List Frame} {meth : Method} {c : Code} {H : Heap} {locs : List Loc} {cells slots : Nat} {Q : State → Prop} {pc : Nat} {ls : Array Slot} {D : va_G} {cl : List vw_C} {tys : List (ClassId × FieldType)}
theorem ag_retz {cc : ByteArray} {S : Type} {post : Int32 → S → Prop} {Wf : S → va_W} {v : Int32} {A : Nat → Prop} (hx : p.tables.exec = Jvm.exec) (hb : c.code = cc) (hr : meth.sig.returnType = some .boolean) (hv : narrow .boolean (.int v) = .int v) (hlocks : meth.locks = false) (u : S) (hp : post v u) (hP : va_P D cl (Wf u) H) (hK : va_K D cl tys s) (hD : va_D A (Wf u)) (hS : va_S A s.heap H locs) (hdg : decode cc pc = .ok (.ireturn, 1)) :
    W p l e R s m args below meth c H locs cells slots (MQ below (va_Qi post (ag_to D cl tys A Wf) A) args s cells slots A) (F0 m pc ls [.int v]) :=
  W.zret (v := v) hx hb hr hv (fun t ht hW => ⟨⟨v, u, rfl, hp, by rw [ht]; exact hP, va_K.moved hW.alike hK, hD⟩, hS.F ht⟩) hS.2.2 hdg hlocks
end AgRetz
