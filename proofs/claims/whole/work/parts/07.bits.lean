section AgBits2
theorem ag_m1 : ((-1 : Int64)).toBitVec = BitVec.allOnes 64 := by decide
theorem ag_inj {x y : Int64} (h : x.toBitVec = y.toBitVec) : x = y := by
  exact Int64.toBitVec_inj.mp h
theorem ag_two {k : Nat} (hk : k < 64) : (lN (2 ^ k)).toBitVec = BitVec.twoPow 64 k := by
  apply BitVec.eq_of_toNat_eq
  rw [BitVec.toNat_twoPow_of_lt hk]
  show (BitVec.ofNat 64 (2 ^ k)).toNat = 2 ^ k
  rw [BitVec.toNat_ofNat, Nat.mod_eq_of_lt (Nat.pow_lt_pow_right (by decide) hk)]
theorem ag_full {x : Int64} (h : x ^^^ (-1) = 0) {j : Nat} (hj : j < 64) : x.toBitVec.getLsbD j = true := by
  have h1 : x.toBitVec ^^^ BitVec.allOnes 64 = 0#64 := by
    have := congrArg Int64.toBitVec h
    rw [← ag_m1]
    exact this
  have h2 : (x.toBitVec ^^^ BitVec.allOnes 64).getLsbD j = (0#64).getLsbD j := by rw [h1]
  rw [BitVec.getLsbD_xor, BitVec.getLsbD_allOnes, decide_eq_true hj, BitVec.getLsbD_zero] at h2
  revert h2
  cases x.toBitVec.getLsbD j <;> decide
theorem ag_free {x : Int64} (h : ¬ x ^^^ (-1) = 0) : ∃ j, j < 64 ∧ x.toBitVec.getLsbD j = false ∧ (∀ i, i < j → x.toBitVec.getLsbD i = true) ∧ (x ^^^ (-1)) &&& -(x ^^^ (-1)) = lN (2 ^ j) := by
  have h0 : (x ^^^ (-1)).toBitVec ≠ 0#64 := fun q => h (ag_inj q)
  obtain ⟨j, hj, h1, h2, h3⟩ := ag_low _ h0
  have hb : ∀ i, i < 64 → (x ^^^ (-1)).toBitVec.getLsbD i = !x.toBitVec.getLsbD i := fun i hi => by
    have e : (x ^^^ (-1)).toBitVec = x.toBitVec ^^^ BitVec.allOnes 64 := by rw [← ag_m1]; rfl
    rw [e, BitVec.getLsbD_xor, BitVec.getLsbD_allOnes, decide_eq_true hi]
    cases x.toBitVec.getLsbD i <;> rfl
  refine ⟨j, hj, ?_, fun i hi => ?_, ag_inj ?_⟩
  · rw [hb j hj] at h1
    revert h1
    cases x.toBitVec.getLsbD j <;> decide
  · have h4 := h2 i hi
    rw [hb i (by omega)] at h4
    revert h4
    cases x.toBitVec.getLsbD i <;> decide
  rw [ag_two hj]
  exact h3
theorem ag_set {x : Int64} {j i : Nat} (hj : j < 64) (hi : i < 64) : (x ||| lN (2 ^ j)).toBitVec.getLsbD i = (x.toBitVec.getLsbD i || decide (i = j)) := by
  have e : (x ||| lN (2 ^ j)).toBitVec = x.toBitVec ||| BitVec.twoPow 64 j := by rw [← ag_two hj]; rfl
  rw [e, BitVec.getLsbD_or, BitVec.getLsbD_twoPow]
  by_cases q : i = j
  · subst q; simp [hj]
  · have : ¬ j = i := fun z => q z.symm
    simp [q, this]
theorem ag_clr {x : Int64} {j i : Nat} (hj : j < 64) (hi : i < 64) : (x &&& (lN (2 ^ j) ^^^ (-1))).toBitVec.getLsbD i = (x.toBitVec.getLsbD i && decide (i ≠ j)) := by
  have e : (x &&& (lN (2 ^ j) ^^^ (-1))).toBitVec = x.toBitVec &&& (BitVec.twoPow 64 j ^^^ BitVec.allOnes 64) := by rw [← ag_two hj, ← ag_m1]; rfl
  rw [e, BitVec.getLsbD_and, BitVec.getLsbD_xor, BitVec.getLsbD_twoPow, BitVec.getLsbD_allOnes, decide_eq_true hi]
  by_cases q : i = j
  · subst q; simp [hj]
  · have : ¬ j = i := fun z => q z.symm
    simp [q, this]
/-- bit k of a row of words -/
def ag_bt (w : Nat → Int64) (k : Nat) : Bool := (w (k / 64)).toBitVec.getLsbD (k % 64)
theorem ag_bt_set {w : Nat → Int64} {i j k : Nat} (hj : j < 64) : ag_bt (vp_updL w i (w i ||| lN (2 ^ j))) k = (ag_bt w k || decide (k = 64 * i + j)) := by
  unfold ag_bt
  by_cases q : k / 64 = i
  · rw [q, pk_uLs, ag_set hj (by omega)]
    congr 1
    exact decide_eq_decide.mpr (by omega)
  · rw [pk_uLn q]
    have : ¬ k = 64 * i + j := by omega
    simp [this]
theorem ag_bt_clr {w : Nat → Int64} {i j k : Nat} (hj : j < 64) : ag_bt (vp_updL w i (w i &&& (lN (2 ^ j) ^^^ (-1)))) k = (ag_bt w k && decide (k ≠ 64 * i + j)) := by
  unfold ag_bt
  by_cases q : k / 64 = i
  · rw [q, pk_uLs, ag_clr hj (by omega)]
    congr 1
    exact decide_eq_decide.mpr (by omega)
  · rw [pk_uLn q]
    have : k ≠ 64 * i + j := by omega
    simp [this]
theorem ag_p2_of {n k : Nat} (h1 : n.testBit k = true) (h2 : ∀ j, j < k → n.testBit j = false) : ag_p2 n (2 ^ k) := by
  refine ⟨k, rfl, Nat.dvd_of_mod_eq_zero ?_, fun hd => ?_⟩
  · apply Nat.eq_of_testBit_eq
    intro i
    rw [Nat.testBit_mod_two_pow, Nat.zero_testBit]
    by_cases q : i < k
    · simp [h2 i q]
    · simp [q]
  · have h3 := Nat.mod_eq_zero_of_dvd hd
    have h4 := congrArg (fun z => z.testBit k) h3
    simp only [Nat.testBit_mod_two_pow, Nat.zero_testBit, h1] at h4
    simp at h4
theorem ag_inj32 {x y : Int32} (h : x.toBitVec = y.toBitVec) : x = y := by
  exact Int32.toBitVec_inj.mp h
theorem ag_low32 {n : Nat} (h0 : 0 < n) (hn : n < 2 ^ 31) : ∃ P, ag_p2 n P ∧ P ≤ n ∧ nI n &&& -nI n = nI P := by
  have hb : (nI n).toBitVec = BitVec.ofNat 32 n := rfl
  have hne : (nI n).toBitVec ≠ 0#32 := fun q => by
    have := congrArg BitVec.toNat q
    rw [hb, BitVec.toNat_ofNat, Nat.mod_eq_of_lt (by omega)] at this
    simp at this
    omega
  obtain ⟨k, hk, h1, h2, h3⟩ := ag_low _ hne
  have ht : ∀ i, i < 32 → (nI n).toBitVec.getLsbD i = n.testBit i := fun i hi => by
    rw [hb, BitVec.getLsbD_ofNat]
    simp [hi]
  have hp := ag_p2_of (n := n) (k := k) (by rw [← ht k hk]; exact h1) (fun j hj => by rw [← ht j (by omega)]; exact h2 j hj)
  have hle : 2 ^ k ≤ n := by
    obtain ⟨t, -, hd, -⟩ := id hp
    exact Nat.le_of_dvd h0 (by obtain ⟨t, e, hd, -⟩ := hp; rw [e]; exact hd)
  refine ⟨2 ^ k, hp, hle, ag_inj32 ?_⟩
  have e : (nI n &&& -nI n).toBitVec = (nI n).toBitVec &&& -(nI n).toBitVec := rfl
  rw [e, h3]
  apply BitVec.eq_of_toNat_eq
  rw [BitVec.toNat_twoPow_of_lt hk]
  show 2 ^ k = (BitVec.ofNat 32 (2 ^ k)).toNat
  rw [BitVec.toNat_ofNat, Nat.mod_eq_of_lt (Nat.pow_lt_pow_right (by decide) hk)]
end AgBits2
