section AgState
/-- the arrays hold the marks ms, the words their slots -/
def ag_rep (ms : ag_M) (f g : Nat → Int32) (w : Nat → Int64) : Prop := (∀ (k : Nat) (h : k < ms.length), f k = nI (ms[k]).1 ∧ g k = nI (ms[k]).2) ∧ ∀ k, k < 320 → (ag_bt w k = true ↔ k ∈ ms.map (·.2))
/-- the marks' bounds -/
def ag_bd (ms : ag_M) : Prop := ms.length ≤ 301 ∧ ∀ x ∈ ms, x.1 ≤ 1000000 ∧ x.2 < 320
/-- what holds between two calls: gap, rich, the marks, the end -/
def ag_inv (G R en : Nat) (ms : ag_M) : Prop := 1 ≤ G ∧ G ≤ 1000 ∧ 2 ≤ R ∧ R ≤ 16 ∧ en ≤ 1000000 * G ∧ ag_ok R (en / G) ms ∧ ∀ x ∈ ms, x.2 ≤ 300
theorem ag_inv_L {G R en : Nat} {ms : ag_M} (h : ag_inv G R en ms) : en / G ≤ 1000000 := by
  obtain ⟨h1, -, -, -, h5, -⟩ := h
  exact Nat.div_le_of_le_mul (by rw [Nat.mul_comm]; exact h5)
theorem ag_inv_len {G R en : Nat} {ms : ag_M} (h : ag_inv G R en ms) : ms.length ≤ 300 := ag_len h.2.2.1 h.2.2.2.1 (ag_inv_L h) h.2.2.2.2.2.1
theorem ag_inv_bd {G R en : Nat} {ms : ag_M} (h : ag_inv G R en ms) : ag_bd ms := ⟨by have := ag_inv_len h; omega, fun x hx => ⟨Nat.le_trans (h.2.2.2.2.2.1.2.1 x hx).1 (ag_inv_L h), by have := h.2.2.2.2.2.2 x hx; omega⟩⟩
theorem ag_inv_pos {G R en : Nat} {ms : ag_M} (h : ag_inv G R en ms) : 0 < ms.length := by
  obtain ⟨z, t, rfl⟩ := h.2.2.2.2.2.1.2.2.2
  simp
theorem ag_rep_app {ms : ag_M} {f g : Nat → Int32} {w w' : Nat → Int64} {n k : Nat} (h : ag_rep ms f g w) (hw : ∀ j, j < 320 → ag_bt w' j = (ag_bt w j || decide (j = k))) : ag_rep (ms ++ [(n, k)]) (upd f ms.length (nI n)) (upd g ms.length (nI k)) w' := by
  refine ⟨fun j hj => ?_, fun j hj => ?_⟩
  · by_cases q : j < ms.length
    · rw [pk_un (by omega), pk_un (by omega), List.getElem_append_left q]
      exact h.1 j q
    · have e : j = ms.length := by simp at hj; omega
      subst e
      rw [pk_us, pk_us]
      simp
  · rw [hw j hj, List.map_append, List.mem_append, ← h.2 j hj]
    simp
theorem ag_er_map {α β : Type} (f : α → β) : ∀ (l : List α) (k : Nat), (l.eraseIdx k).map f = (l.map f).eraseIdx k
  | [], _ => by simp
  | a :: t, 0 => by simp
  | a :: t, k + 1 => by simp [ag_er_map f t k]
theorem ag_nd_inj {l : List Nat} (h : l.Nodup) {i j : Nat} (hi : i < l.length) (hj : j < l.length) (e : l[i] = l[j]) : i = j := by
  rcases Nat.lt_trichotomy i j with q | q | q
  · exact absurd e (List.pairwise_iff_getElem.mp h i j hi hj q)
  · exact q
  · exact absurd e.symm (List.pairwise_iff_getElem.mp h j i hj hi q)
theorem ag_rep_del {ms : ag_M} {f g : Nat → Int32} {w w' : Nat → Int64} {k : Nat} (h : ag_rep ms f g w) (hk : k < ms.length) (hn : (ms.map (·.2)).Nodup) (hw : ∀ j, j < 320 → ag_bt w' j = (ag_bt w j && decide (j ≠ (ms[k]).2))) :
    ag_rep (ms.eraseIdx k) (va_cpy f f (k + 1) k (ms.length - 1 - k)) (va_cpy g g (k + 1) k (ms.length - 1 - k)) w' := by
  have hl : (ms.eraseIdx k).length = ms.length - 1 := List.length_eraseIdx_of_lt hk
  refine ⟨fun j hj => ?_, fun j hj => ?_⟩
  · rw [hl] at hj
    rw [List.getElem_eraseIdx]
    by_cases q : j < k
    · rw [pk_cpy_out (Or.inl q), pk_cpy_out (Or.inl q)]
      simp only [q, dite_true]
      exact h.1 j (by omega)
    · rw [pk_cpy_in (by omega) (by omega), pk_cpy_in (by omega) (by omega)]
      simp only [q, dite_false]
      have e : k + 1 + (j - k) = j + 1 := by omega
      rw [e]
      exact h.1 (j + 1) (by omega)
  · rw [hw j hj, Bool.and_eq_true, h.2 j hj, decide_eq_true_eq]
    have e1 : (ms.eraseIdx k).map (·.2) = (ms.map (·.2)).eraseIdx k := ag_er_map _ _ _
    have e2 : (ms.map (·.2))[k]'(by simpa using hk) = (ms[k]).2 := by simp
    rw [e1, ← e2]
    constructor
    · rintro ⟨h1, h2⟩
      obtain ⟨i, hi, e3⟩ := List.getElem_of_mem h1
      rw [List.mem_eraseIdx_iff_getElem]
      exact ⟨i, hi, fun q => h2 (by subst q; exact e3.symm), e3⟩
    · intro h1
      rw [List.mem_eraseIdx_iff_getElem] at h1
      obtain ⟨i, hi, hne, e3⟩ := h1
      refine ⟨e3 ▸ List.getElem_mem hi, fun q => hne ?_⟩
      exact ag_nd_inj hn _ _ (e3.trans q)
end AgState
