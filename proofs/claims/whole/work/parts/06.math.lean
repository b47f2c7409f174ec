section AgMath
abbrev ag_M : Type := List (Nat × Nat)
/-- a mark numbered i may stay when n is the newest number: wherever R * 2^j reaches to it, 2^j divides it -/
def ag_keep (R n i : Nat) : Prop := ∀ j : Nat, R * 2 ^ j ≤ n - i → 2 ^ j ∣ i
noncomputable def ag_kb (R n : Nat) (x : Nat × Nat) : Bool := @decide (ag_keep R n x.1) (Classical.propDecidable _)
theorem ag_kb_iff {R n : Nat} {x : Nat × Nat} : ag_kb R n x = true ↔ ag_keep R n x.1 := by simp [ag_kb]
/-- k is the least number that no mark has for its slot -/
def ag_lf (ms : ag_M) (k : Nat) : Prop := (k ∉ ms.map (·.2)) ∧ ∀ j, j < k → j ∈ ms.map (·.2)
noncomputable def ag_slot (ms : ag_M) : Nat := Classical.epsilon (ag_lf ms)
theorem ag_slot_eq {ms : ag_M} {k : Nat} (h : ag_lf ms k) : ag_slot ms = k := by
  have h2 : ag_lf ms (ag_slot ms) := Classical.epsilon_spec (p := ag_lf ms) ⟨k, h⟩
  rcases Nat.lt_trichotomy (ag_slot ms) k with q | q | q
  · exact absurd (h.2 _ q) h2.1
  · exact q
  · exact absurd (h2.2 _ q) h.1
theorem ag_in_len : ∀ (N : Nat) (l : List Nat), (∀ k, k < N → k ∈ l) → N ≤ l.length
  | 0, _, _ => Nat.zero_le _
  | N + 1, l, h => by
    have h1 : N ∈ l := h N (Nat.lt_succ_self N)
    have h2 := ag_in_len N (l.erase N) (fun k hk => (List.mem_erase_of_ne (by omega)).mpr (h k (by omega)))
    rw [List.length_erase_of_mem h1] at h2
    have h3 : 0 < l.length := List.length_pos_of_mem h1
    omega
theorem ag_lf_ex (ms : ag_M) : ∃ k, ag_lf ms k ∧ k ≤ ms.length := by
  have h0 : ∃ k, k ∉ ms.map (·.2) := by
    apply Classical.byContradiction
    intro hn
    have h1 := ag_in_len (ms.length + 1) (ms.map (·.2)) (fun k _ => Classical.byContradiction fun q => hn ⟨k, q⟩)
    rw [List.length_map] at h1
    omega
  obtain ⟨k, hk, hl⟩ := pk_least (fun k => k ∉ ms.map (·.2)) h0
  have hl' : ∀ j, j < k → j ∈ ms.map (·.2) := fun j hj => Classical.not_not.mp (hl j hj)
  refine ⟨k, ⟨hk, hl'⟩, ?_⟩
  have h1 := ag_in_len k (ms.map (·.2)) hl'
  rw [List.length_map] at h1
  exact h1
theorem ag_slot_lf (ms : ag_M) : ag_lf ms (ag_slot ms) := by
  obtain ⟨k, h, -⟩ := ag_lf_ex ms
  rw [ag_slot_eq h]
  exact h
theorem ag_slot_le (ms : ag_M) : ag_slot ms ≤ ms.length := by
  obtain ⟨k, h, h2⟩ := ag_lf_ex ms
  rw [ag_slot_eq h]
  exact h2
theorem ag_pig : ∀ (N : Nat) (l : List Nat), l.Nodup → (∀ x ∈ l, x < N) → l.length ≤ N
  | 0, l, _, h => by
    cases l with
    | nil => simp
    | cons a t => exact absurd (h a (by simp)) (by omega)
  | N + 1, l, hn, h => by
    by_cases hm : N ∈ l
    · have h2 := ag_pig N (l.erase N) (hn.erase N) (fun x hx => by
        have h3 := (hn.mem_erase_iff).mp hx
        have h4 := h x h3.2
        have h5 := h3.1
        omega)
      rw [List.length_erase_of_mem hm] at h2
      omega
    · have h2 := ag_pig N l hn (fun x hx => by
        have h3 := h x hx
        have h4 : x ≠ N := fun q => hm (q ▸ hx)
        omega)
      omega
/-- P is the greatest power of 2 in n -/
def ag_p2 (n P : Nat) : Prop := ∃ t, P = 2 ^ t ∧ 2 ^ t ∣ n ∧ ¬ 2 ^ (t + 1) ∣ n
theorem ag_p2_u {n t j : Nat} (h1 : 2 ^ t ∣ n) (h2 : ¬ 2 ^ (t + 1) ∣ n) (h3 : 2 ^ j ∣ n) (h4 : ¬ 2 ^ (j + 1) ∣ n) : t = j := by
  rcases Nat.lt_trichotomy t j with q | q | q
  · exact absurd (Nat.dvd_trans (Nat.pow_dvd_pow 2 (by omega)) h3) h2
  · exact q
  · exact absurd (Nat.dvd_trans (Nat.pow_dvd_pow 2 (by omega)) h1) h4
theorem ag_thin {R n i P : Nat} (hR : 0 < R) (hi : i < n) (hk : ag_keep R (n - 1) i) (hP : ag_p2 n P) : ag_keep R n i ↔ i + 2 * R * P ≠ n := by
  obtain ⟨t, rfl, h1, h2⟩ := hP
  have e2 : ∀ j, R * 2 ^ (j + 1) = 2 * R * 2 ^ j := fun j => by rw [Nat.pow_succ, Nat.mul_comm (2 ^ j) 2, ← Nat.mul_assoc, Nat.mul_comm R 2]
  have dv : ∀ j, 2 ^ (j + 1) ∣ 2 * R * 2 ^ j := fun j => ⟨R, by rw [← e2 j, Nat.mul_comm]⟩
  constructor
  · intro h e
    apply h2
    have h3 := h (t + 1) (by rw [e2]; omega)
    rw [← e]
    exact Nat.dvd_add h3 (dv t)
  · intro hne j hj
    apply Classical.byContradiction
    intro hnd
    have hlt : ¬ R * 2 ^ j ≤ n - 1 - i := fun q => hnd (hk j q)
    have he : n - i = R * 2 ^ j := by omega
    cases j with
    | zero => exact hnd (by simp)
    | succ j =>
      have hp : 0 < R * 2 ^ j := Nat.mul_pos hR (Nat.two_pow_pos j)
      have e3 : R * 2 ^ (j + 1) = R * 2 ^ j + R * 2 ^ j := by rw [e2, Nat.mul_assoc]; omega
      have hd : 2 ^ j ∣ i := hk j (by omega)
      have hn : n = i + 2 * R * 2 ^ j := by rw [← e2]; omega
      have d1 : 2 ^ j ∣ n := by
        rw [hn]
        exact Nat.dvd_add hd (Nat.dvd_mul_left _ _)
      have d2 : ¬ 2 ^ (j + 1) ∣ n := fun q => hnd (by
        rw [hn, Nat.add_comm i] at q
        exact (Nat.dvd_add_right (dv j)).mp q)
      have ht := ag_p2_u h1 h2 d1 d2
      subst ht
      exact hne hn.symm
theorem ag_keep_le {R n n' i : Nat} (h : ag_keep R n i) (hn : n' ≤ n) : ag_keep R n' i := fun j hj => h j (by omega)
theorem ag_keep_self {R n : Nat} (hR : 0 < R) : ag_keep R n n := fun j hj => by
  have := Nat.mul_pos hR (Nat.two_pow_pos j)
  omega
theorem ag_keep_0 {R n : Nat} : ag_keep R n 0 := fun _ _ => Nat.dvd_zero _
/-- the marks, oldest first, when L is the newest number reached -/
def ag_ok (R L : Nat) (ms : ag_M) : Prop := ms.Pairwise (fun a b => a.1 < b.1) ∧ (∀ x ∈ ms, x.1 ≤ L ∧ ag_keep R L x.1) ∧ (ms.map (·.2)).Nodup ∧ ∃ z t, ms = (0, z) :: t
noncomputable def ag_put (R n : Nat) (ms : ag_M) : ag_M := (ms ++ [(n, ag_slot ms)]).filter (ag_kb R n)
theorem ag_filt_erase : ∀ (ms : ag_M) (v k : Nat), ms.Pairwise (fun a b => a.1 < b.1) → ∀ hk : k < ms.length, ms[k].1 = v → ms.filter (fun x => decide (x.1 ≠ v)) = ms.eraseIdx k
  | [], _, _, _, hk, _ => absurd hk (by simp)
  | a :: t, v, 0, hp, _, e => by
    obtain ⟨h1, -⟩ := List.pairwise_cons.mp hp
    have e' : a.1 = v := e
    rw [List.eraseIdx_cons_zero, List.filter_cons_of_neg (by simp [e'])]
    exact List.filter_eq_self.mpr fun x hx => by
      have := h1 x hx
      simp; omega
  | a :: t, v, k + 1, hp, hk, e => by
    obtain ⟨h1, h2⟩ := List.pairwise_cons.mp hp
    have hk' : k < t.length := by simpa using hk
    have e' : t[k].1 = v := e
    have h3 := h1 t[k] (List.getElem_mem hk')
    rw [List.eraseIdx_cons_succ, List.filter_cons_of_pos (by simp; omega), ag_filt_erase t v k h2 hk' e']
theorem ag_put_filt {R L P : Nat} {ms : ag_M} (hR : 0 < R) (h : ag_ok R L ms) (hP : ag_p2 (L + 1) P) : ag_put R (L + 1) ms = (ms ++ [(L + 1, ag_slot ms)]).filter (fun x => decide (x.1 ≠ L + 1 - 2 * R * P ∨ L + 1 < 2 * R * P)) := by
  unfold ag_put
  have hP0 : 0 < P := by obtain ⟨t, rfl, -⟩ := hP; exact Nat.two_pow_pos t
  have hq : 0 < 2 * R * P := Nat.mul_pos (Nat.mul_pos (by decide) hR) hP0
  refine List.filter_congr fun x hx => ?_
  have h1 : ag_keep R (L + 1) x.1 ↔ (x.1 ≠ L + 1 - 2 * R * P ∨ L + 1 < 2 * R * P) := by
    rcases List.mem_append.mp hx with q | q
    · have h2 := h.2.1 x q
      rw [ag_thin (n := L + 1) (i := x.1) hR (by omega) (show ag_keep R (L + 1 - 1) x.1 from h2.2) hP]
      omega
    · have h3 : x = (L + 1, ag_slot ms) := by simpa using q
      subst h3
      refine ⟨fun _ => ?_, fun _ => ag_keep_self hR⟩
      show L + 1 ≠ L + 1 - 2 * R * P ∨ L + 1 < 2 * R * P
      omega
  rw [Bool.eq_iff_iff, ag_kb_iff, h1]
  simp
theorem ag_app_ok {R L : Nat} {ms : ag_M} (h : ag_ok R L ms) : (ms ++ [(L + 1, ag_slot ms)]).Pairwise (fun a b => a.1 < b.1) ∧ ((ms ++ [(L + 1, ag_slot ms)]).map (·.2)).Nodup := by
  refine ⟨List.pairwise_append.mpr ⟨h.1, by simp, fun a ha b hb => ?_⟩, ?_⟩
  · have h1 : b = (L + 1, ag_slot ms) := by simpa using hb
    have h2 := (h.2.1 a ha).1
    subst h1
    show a.1 < L + 1
    omega
  · rw [List.map_append]
    refine List.pairwise_append.mpr ⟨h.2.2.1, by simp, fun a ha b hb => ?_⟩
    have h1 : b = ag_slot ms := by simpa using hb
    intro q
    subst q
    rw [h1] at ha
    exact (ag_slot_lf ms).1 ha
theorem ag_put_ok {R L : Nat} {ms : ag_M} (hR : 0 < R) (h : ag_ok R L ms) : ag_ok R (L + 1) (ag_put R (L + 1) ms) := by
  obtain ⟨h1, h2⟩ := ag_app_ok h
  refine ⟨h1.filter _, fun x hx => ?_, ?_, ?_⟩
  · obtain ⟨h3, h4⟩ := List.mem_filter.mp hx
    refine ⟨?_, ag_kb_iff.mp h4⟩
    rcases List.mem_append.mp h3 with q | q
    · have := (h.2.1 x q).1
      omega
    · have h5 : x = (L + 1, ag_slot ms) := by simpa using q
      subst h5
      exact Nat.le_refl _
  · exact List.Pairwise.sublist ((List.filter_sublist).map _) h2
  · obtain ⟨z, t, rfl⟩ := h.2.2.2
    refine ⟨z, (t ++ [(L + 1, ag_slot ((0, z) :: t))]).filter (ag_kb R (L + 1)), ?_⟩
    unfold ag_put
    rw [List.cons_append, List.filter_cons_of_pos (ag_kb_iff.mpr ag_keep_0)]
theorem ag_cut_ok {R L L' : Nat} {ms : ag_M} (h : ag_ok R L ms) (hL : L' ≤ L) : ag_ok R L' (ms.filter (fun x => decide (x.1 ≤ L'))) := by
  refine ⟨h.1.filter _, fun x hx => ?_, List.Pairwise.sublist ((List.filter_sublist).map _) h.2.2.1, ?_⟩
  · obtain ⟨h3, h4⟩ := List.mem_filter.mp hx
    exact ⟨by simpa using h4, ag_keep_le (h.2.1 x h3).2 hL⟩
  · obtain ⟨z, t, rfl⟩ := h.2.2.2
    exact ⟨z, t.filter (fun x => decide (x.1 ≤ L')), by rw [List.filter_cons_of_pos (by simp)]⟩
/-- a code for each mark: no two marks have one, and they are below 300 -/
def ag_cd (R L i : Nat) : Nat := if L - i < 2 * R then L - i else 2 * R + (((L - i) / R).log2 - 1) * R + (i / 2 ^ ((L - i) / R).log2) % R
theorem ag_cd_big {R d : Nat} (hR : 2 ≤ R) (h : ¬ d < 2 * R) : 1 ≤ (d / R).log2 ∧ R * 2 ^ (d / R).log2 ≤ d ∧ d < 2 * (R * 2 ^ (d / R).log2) := by
  have h1 : 2 ≤ d / R := (Nat.le_div_iff_mul_le (by omega)).mpr (by omega)
  have h0 : d / R ≠ 0 := by omega
  refine ⟨(Nat.le_log2 h0).mpr (by omega), ?_, ?_⟩
  · have h2 := (Nat.le_div_iff_mul_le (by omega)).mp (Nat.log2_self_le h0)
    rw [Nat.mul_comm]
    exact h2
  · have h2 := (Nat.div_lt_iff_lt_mul (by omega)).mp (Nat.lt_log2_self (n := d / R))
    rw [Nat.pow_succ] at h2
    have e : 2 * (R * 2 ^ (d / R).log2) = 2 ^ (d / R).log2 * 2 * R := by
      rw [Nat.mul_comm R, ← Nat.mul_assoc, Nat.mul_comm 2]
    omega
theorem ag_cd_q {R a b j : Nat} (hR : 0 < R) (hab : a ≤ b) (da : 2 ^ j ∣ a) (db : 2 ^ j ∣ b) (hlt : b - a < R * 2 ^ j) (e : (a / 2 ^ j) % R = (b / 2 ^ j) % R) : a = b := by
  obtain ⟨q1, rfl⟩ := da
  obtain ⟨q2, rfl⟩ := db
  have hp := Nat.two_pow_pos j
  rw [Nat.mul_div_cancel_left _ hp, Nat.mul_div_cancel_left _ hp] at e
  have h1 : q1 ≤ q2 := Nat.le_of_mul_le_mul_left hab hp
  have h2 : q2 - q1 < R := by
    rw [← Nat.mul_sub, Nat.mul_comm R] at hlt
    exact Nat.lt_of_mul_lt_mul_left hlt
  have h3 := Nat.sub_mod_eq_zero_of_mod_eq e.symm
  rw [Nat.mod_eq_of_lt h2] at h3
  have h4 : q1 = q2 := by omega
  rw [h4]
theorem ag_cd_inj {R L a b : Nat} (hR : 2 ≤ R) (ha : a ≤ L) (hb : b ≤ L) (ka : ag_keep R L a) (kb : ag_keep R L b) (e : ag_cd R L a = ag_cd R L b) : a = b := by
  unfold ag_cd at e
  by_cases h1 : L - a < 2 * R <;> by_cases h2 : L - b < 2 * R
  · rw [if_pos h1, if_pos h2] at e
    omega
  · rw [if_pos h1, if_neg h2] at e
    omega
  · rw [if_neg h1, if_pos h2] at e
    omega
  · rw [if_neg h1, if_neg h2] at e
    obtain ⟨a1, a2, a3⟩ := ag_cd_big hR h1
    obtain ⟨b1, b2, b3⟩ := ag_cd_big hR h2
    generalize ((L - a) / R).log2 = j at *
    generalize ((L - b) / R).log2 = i at *
    have m1 : (a / 2 ^ j) % R < R := Nat.mod_lt _ (by omega)
    have m2 : (b / 2 ^ i) % R < R := Nat.mod_lt _ (by omega)
    have hji : j = i := by
      rcases Nat.lt_trichotomy j i with q | q | q
      · have := Nat.mul_le_mul_right R (show j - 1 + 1 ≤ i - 1 by omega)
        rw [Nat.add_mul] at this
        omega
      · exact q
      · have := Nat.mul_le_mul_right R (show i - 1 + 1 ≤ j - 1 by omega)
        rw [Nat.add_mul] at this
        omega
    subst hji
    have da := ka j a2
    have db := kb j b2
    have e2 : (a / 2 ^ j) % R = (b / 2 ^ j) % R := by omega
    rcases Nat.le_total a b with q | q
    · exact ag_cd_q (by omega) q da db (by omega) e2
    · exact (ag_cd_q (by omega) q db da (by omega) e2.symm).symm
theorem ag_cd_lt {R L i : Nat} (hR : 2 ≤ R) (h16 : R ≤ 16) (hL : L ≤ 1000000) : ag_cd R L i < 300 := by
  unfold ag_cd
  by_cases h1 : L - i < 2 * R
  · rw [if_pos h1]
    omega
  · rw [if_neg h1]
    obtain ⟨a1, a2, a3⟩ := ag_cd_big hR h1
    generalize ((L - i) / R).log2 = j at *
    have m1 : (i / 2 ^ j) % R < R := Nat.mod_lt _ (by omega)
    have h18 : j ≤ 18 := by
      rcases Nat.lt_or_ge 18 j with q | q
      · have h2 := Nat.pow_le_pow_right (n := 2) (by decide) (show 19 ≤ j by omega)
        have h3 := Nat.mul_le_mul hR h2
        omega
      · exact q
    rcases Nat.lt_or_ge R 16 with q | q
    · have h3 := Nat.mul_le_mul (show j - 1 ≤ 17 by omega) (show R ≤ 15 by omega)
      omega
    · have hR16 : R = 16 := by omega
      subst hR16
      have h15 : j ≤ 15 := by
        rcases Nat.lt_or_ge 15 j with q | q
        · have h2 := Nat.pow_le_pow_right (n := 2) (by decide) (show 16 ≤ j by omega)
          omega
        · exact q
      omega
theorem ag_len {R L : Nat} {ms : ag_M} (hR : 2 ≤ R) (h16 : R ≤ 16) (hL : L ≤ 1000000) (h : ag_ok R L ms) : ms.length ≤ 300 := by
  have h1 : (ms.map (fun x => ag_cd R L x.1)).Nodup := by
    refine List.pairwise_map.mpr (h.1.imp_of_mem fun {a b} ha hb hab e => ?_)
    have h2 := ag_cd_inj hR (h.2.1 a ha).1 (h.2.1 b hb).1 (h.2.1 a ha).2 (h.2.1 b hb).2 e
    omega
  have h2 := ag_pig 300 _ h1 (fun x hx => by
    obtain ⟨y, -, rfl⟩ := List.mem_map.mp hx
    exact ag_cd_lt hR h16 hL)
  rw [List.length_map] at h2
  exact h2
end AgMath
section AgBits
theorem ag_low {w : Nat} (x : BitVec w) (h : x ≠ 0#w) : ∃ k, k < w ∧ x.getLsbD k = true ∧ (∀ j, j < k → x.getLsbD j = false) ∧ x &&& -x = BitVec.twoPow w k := by
  have h0 : ∃ k, x.getLsbD k = true := by
    apply Classical.byContradiction
    intro hn
    apply h
    apply BitVec.eq_of_getLsbD_eq
    intro i _
    have h1 : ¬ x.getLsbD i = true := fun q => hn ⟨i, q⟩
    simpa using h1
  obtain ⟨k, hk, hl⟩ := pk_least (fun k => x.getLsbD k = true) h0
  have hl' : ∀ j, j < k → x.getLsbD j = false := fun j hj => by simpa using hl j hj
  have hkw : k < w := by
    rcases Nat.lt_or_ge k w with q | q
    · exact q
    · rw [BitVec.getLsbD_of_ge _ _ q] at hk
      cases hk
  refine ⟨k, hkw, hk, hl', ?_⟩
  apply BitVec.eq_of_getLsbD_eq
  intro i hi
  rw [BitVec.getLsbD_and, BitVec.getLsbD_neg, BitVec.getLsbD_twoPow]
  rcases Nat.lt_trichotomy i k with q | q | q
  · have : ¬ k = i := by omega
    simp [hl' i q, this]
  · subst q
    have : ¬ ∃ j, j < i ∧ x.getLsbD j = true := fun ⟨j, a, b⟩ => by rw [hl' j a] at b; cases b
    simp [hk, hkw, this]
  · have h1 : ∃ j, j < i ∧ x.getLsbD j = true := ⟨k, q, hk⟩
    have h2 : ¬ k = i := by omega
    simp [h1, h2, hi]
end AgBits
