section AgSpec
/-- marks, most, laid, gone -/
abbrev ag_T : Type := ag_M × Nat × Nat × Nat
noncomputable def ag_step (R n : Nat) (u : ag_T) : ag_T := (ag_put R n u.1, max u.2.1 (ag_put R n u.1).length, u.2.2.1 + 1, u.2.2.2 + (u.1.length + 1 - (ag_put R n u.1).length))
/-- k marks laid behind number a -/
noncomputable def ag_grow (R a : Nat) : Nat → ag_T → ag_T
  | 0, u => u
  | k + 1, u => ag_step R (a + k + 1) (ag_grow R a k u)
def ag_in (R L : Nat) (ms : ag_M) : Prop := ag_ok R L ms ∧ ∀ x ∈ ms, x.2 ≤ 300
theorem ag_il {R L : Nat} {ms : ag_M} (h2 : 2 ≤ R) (h16 : R ≤ 16) (hL : L ≤ 1000000) (h : ag_in R L ms) : ms.length ≤ 300 := ag_len h2 h16 hL h.1
theorem ag_in_bd {R L : Nat} {ms : ag_M} (h2 : 2 ≤ R) (h16 : R ≤ 16) (hL : L ≤ 1000000) (h : ag_in R L ms) : ag_bd ms := ⟨by have := ag_il h2 h16 hL h; omega, fun x hx => ⟨Nat.le_trans (h.1.2.1 x hx).1 hL, by have := h.2 x hx; omega⟩⟩
theorem ag_in_bd1 {R L : Nat} {ms : ag_M} (h2 : 2 ≤ R) (h16 : R ≤ 16) (hL : L + 1 ≤ 1000000) (h : ag_in R L ms) : ag_bd (ms ++ [(L + 1, ag_slot ms)]) := by
  have h1 := ag_il h2 h16 (by omega) h
  have h3 := ag_slot_le ms
  refine ⟨by simp; omega, fun x hx => ?_⟩
  rcases List.mem_append.mp hx with q | q
  · exact (ag_in_bd h2 h16 (by omega) h).2 x q
  · have h4 : x = (L + 1, ag_slot ms) := by simpa using q
    subst h4
    exact ⟨hL, by show ag_slot ms < 320; omega⟩
theorem ag_in_put {R L : Nat} {ms : ag_M} (h2 : 2 ≤ R) (h16 : R ≤ 16) (hL : L ≤ 1000000) (h : ag_in R L ms) : ag_in R (L + 1) (ag_put R (L + 1) ms) := by
  refine ⟨ag_put_ok (by omega) h.1, fun x hx => ?_⟩
  have h1 := ag_il h2 h16 hL h
  have h3 := ag_slot_le ms
  rcases List.mem_append.mp (List.mem_filter.mp hx).1 with q | q
  · exact h.2 x q
  · have h4 : x = (L + 1, ag_slot ms) := by simpa using q
    subst h4
    show ag_slot ms ≤ 300
    omega
theorem ag_in_pos {R L : Nat} {ms : ag_M} (h : ag_in R L ms) : 0 < ms.length := by
  obtain ⟨z, t, rfl⟩ := h.1.2.2.2
  simp
theorem ag_in_0 {R L : Nat} {ms : ag_M} (h : ag_in R L ms) (h0 : 0 < ms.length) : (ms[0]).1 = 0 := by
  obtain ⟨z, t, rfl⟩ := h.1.2.2.2
  rfl
theorem ag_imax {a b : Nat} (ha : a < 2 ^ 31) (hb : b < 2 ^ 31) : (if nI a < nI b then nI b else nI a) = nI (max a b) := by
  by_cases h : a < b
  · rw [if_pos ((nI_ltI ha hb).mpr h), Nat.max_eq_right (by omega)]
  · rw [if_neg (mt (nI_ltI ha hb).mp h), Nat.max_eq_left (by omega)]
theorem ag_imin {a b : Nat} (ha : a < 2 ^ 31) (hb : b < 2 ^ 31) : (if nI b < nI a then nI b else nI a) = nI (min a b) := by
  by_cases h : b < a
  · rw [if_pos ((nI_ltI hb ha).mpr h), Nat.min_eq_right (by omega)]
  · rw [if_neg (mt (nI_ltI hb ha).mp h), Nat.min_eq_left (by omega)]
theorem ag_lmax {a b : Nat} (ha : a < 2 ^ 63) (hb : b < 2 ^ 63) : (if lN b < lN a then lN a else lN b) = lN (max a b) := by
  by_cases h : b < a
  · rw [if_pos ((pk_lLT hb ha).mpr h), Nat.max_eq_left (by omega)]
  · rw [if_neg (mt (pk_lLT hb ha).mp h), Nat.max_eq_right (by omega)]
/-- v is what going to c costs -/
def ag_isC (G : Nat) (ms : ag_M) (c v : Nat) : Prop := ∃ k, ∃ h : k < ms.length, (ms[k]).1 * G ≤ c ∧ (∀ j (hj : j < ms.length), k < j → c < (ms[j]).1 * G) ∧ v = c - (ms[k]).1 * G
noncomputable def ag_cost (G : Nat) (ms : ag_M) (c : Nat) : Nat := Classical.epsilon (ag_isC G ms c)
theorem ag_isC_u {G : Nat} {ms : ag_M} {c v w : Nat} (h1 : ag_isC G ms c v) (h2 : ag_isC G ms c w) : v = w := by
  obtain ⟨k, hk, a1, a2, a3⟩ := h1
  obtain ⟨i, hi, b1, b2, b3⟩ := h2
  rcases Nat.lt_trichotomy k i with q | q | q
  · exact absurd (a2 i hi q) (by omega)
  · subst q; rw [a3, b3]
  · exact absurd (b2 k hk q) (by omega)
theorem ag_cost_eq {G : Nat} {ms : ag_M} {c v : Nat} (h : ag_isC G ms c v) : ag_cost G ms c = v := ag_isC_u (Classical.epsilon_spec (p := ag_isC G ms c) ⟨v, h⟩) h
/-- the marks behind the end cut off -/
def ag_cutm (G nw : Nat) (ms : ag_M) : ag_M := ms.filter (fun x => decide (x.1 * G ≤ nw))
theorem ag_cut_take : ∀ (ms : ag_M) (G nw k : Nat), ms.Pairwise (fun a b => a.1 < b.1) → ∀ hk : k < ms.length, (ms[k]).1 * G ≤ nw → (∀ j (hj : j < ms.length), k < j → nw < (ms[j]).1 * G) → ag_cutm G nw ms = ms.take (k + 1)
  | [], _, _, _, _, hk, _, _ => absurd hk (by simp)
  | x :: t, G, nw, 0, hp, _, h1, h2 => by
    have h3 : x.1 * G ≤ nw := h1
    unfold ag_cutm
    rw [List.filter_cons_of_pos (by simpa using h3)]
    have h4 : t.filter (fun x => decide (x.1 * G ≤ nw)) = [] := List.filter_eq_nil_iff.mpr fun y hy => by
      obtain ⟨j, hj, rfl⟩ := List.getElem_of_mem hy
      have h5 := h2 (j + 1) (by simpa using hj) (by omega)
      have h6 : nw < (t[j]).1 * G := h5
      simp; omega
    rw [h4]
    rfl
  | x :: t, G, nw, k + 1, hp, hk, h1, h2 => by
    obtain ⟨p1, p2⟩ := List.pairwise_cons.mp hp
    have hk' : k < t.length := by simpa using hk
    have h3 : (t[k]).1 * G ≤ nw := h1
    have h4 := p1 _ (List.getElem_mem hk')
    have h5 : x.1 * G ≤ nw := Nat.le_trans (Nat.mul_le_mul_right G (Nat.le_of_lt h4)) h3
    unfold ag_cutm
    rw [List.filter_cons_of_pos (by simpa using h5), List.take_succ_cons]
    have h6 := ag_cut_take t G nw k p2 hk' h3 (fun j hj hkj => h2 (j + 1) (by simpa using hj) (by omega))
    unfold ag_cutm at h6
    rw [h6]
theorem ag_take_erase {ms : ag_M} {k : Nat} (hk : k < ms.length) : (ms.take (k + 1)).eraseIdx k = ms.take k := by
  rw [List.eraseIdx_eq_take_drop_succ, List.take_take, List.drop_eq_nil_of_le (by simp; omega), List.append_nil, Nat.min_eq_left (by omega)]
theorem ag_rep_take {ms : ag_M} {k : Nat} {f g : Nat → Int32} {w : Nat → Int64} (h : ag_rep (ms.take k) f g w) (hk : ms.length ≤ k) : ag_rep ms f g w := by rw [List.take_of_length_le hk] at h; exact h
def ag_num (ms : ag_M) (k : Nat) : Nat := (ms.getD k (0, 0)).1
theorem ag_num_eq {ms : ag_M} {k : Nat} (h : k < ms.length) : ag_num ms k = (ms[k]).1 := by
  unfold ag_num
  rw [List.getD_eq_getElem?_getD, List.getElem?_eq_getElem h]
  rfl
/-- the greatest cost, over the marks 0 .. k -/
def ag_wst (G en : Nat) (ms : ag_M) : Nat → Nat
  | 0 => en - ag_num ms (ms.length - 1) * G
  | k + 1 => max (ag_wst G en ms k) (ag_num ms (k + 1) * G - 1 - ag_num ms k * G)
/-- which mark has the slot x -/
def ag_hold (ms : ag_M) (x r : Int32) : Prop := (∃ k, ∃ h : k < ms.length, nI (ms[k]).2 = x ∧ (∀ j (hj : j < ms.length), j < k → nI (ms[j]).2 ≠ x) ∧ r = nI k) ∨ ((∀ k (h : k < ms.length), nI (ms[k]).2 ≠ x) ∧ r = -1)
theorem ag_hold_u {ms : ag_M} {x r q : Int32} (h1 : ag_hold ms x r) (h2 : ag_hold ms x q) : r = q := by
  rcases h1 with ⟨k, hk, a1, a2, rfl⟩ | ⟨a1, rfl⟩ <;> rcases h2 with ⟨i, hi, b1, b2, rfl⟩ | ⟨b1, rfl⟩
  · rcases Nat.lt_trichotomy k i with z | z | z
    · exact absurd a1 (b2 k hk z)
    · rw [z]
    · exact absurd b1 (a2 i hi z)
  · exact absurd a1 (b1 k hk)
  · exact absurd b1 (a1 i hi)
  · rfl
end AgSpec
