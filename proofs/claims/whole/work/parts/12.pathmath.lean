/-! ===== paths as numbers ===== -/
def nm (p : Nat) : Nat := if p = 0 then 0 else if p % 25 = 0 then 1 else if p % 5 = 0 then 2 else 3
def lg (p : Nat) : Bool := decide (25 ≤ p) && decide (p < 125) && (decide (p / 5 % 5 ≠ 0) || decide (p % 5 = 0))
def pa (p : Nat) : Nat := if nm p = 2 then p - p % 25 else if nm p = 3 then p - p % 5 else 0
def en (p : Nat) : Nat := if nm p = 1 then p + 25 else if nm p = 2 then p + 5 else p + 1
def hd (p n : Nat) : Nat := if n = 0 then 0 else if n = 1 then p / 25 * 25 else if n = 2 then p / 5 * 5 else p
def bl (q x : Nat) : Bool := lg q && decide (nm x < nm q) && decide (hd q (nm x) = x)
/-- where q comes to lie when a is put at b -/
def wp (q a b : Nat) : Nat := b + (if nm a = nm b then q - a else if nm b = nm a + 1 then (q - a) / 5 else if nm b = nm a + 2 then (q - a) / 5 / 5 else if nm a = nm b + 1 then (q - a) * 5 else (q - a) * 5 * 5)
theorem nm_lt (p : Nat) : nm p < 4 := by
  unfold nm
  split
  · decide
  · split
    · decide
    · split <;> decide
theorem pj_names_n : ∀ p, p < 125 → pj_names (nI p) = nI (nm p) := by decide +kernel
theorem pj_parent_n : ∀ p, p < 125 → pj_parent (nI p) = nI (pa p) := by decide +kernel
theorem pj_end_n : ∀ p, p < 125 → pj_end (nI p) = nI (en p) := by decide +kernel
theorem pj_legal_n : ∀ p, p < 125 → pj_legal (nI p) = lg p := by decide +kernel
theorem mo_legal_n : ∀ p, p < 125 → mo_legal (nI p) = lg p := by decide +kernel
theorem mo_above_n : ∀ p, p < 125 → mo_above (nI p) = nI (pa p) := by decide +kernel
theorem mo_head_n : ∀ p, p < 125 → ∀ n, n < 4 → mo_head (nI p) (nI n) = nI (hd p n) := by decide +kernel
theorem pa_lt : ∀ p, p < 125 → pa p < 125 := by decide +kernel
theorem hd_lt : ∀ p, p < 125 → ∀ n, n < 4 → hd p n < 125 := by decide +kernel
theorem en_le : ∀ p, p < 125 → lg p = true → p < en p ∧ en p ≤ 125 := by decide +kernel
theorem bl_iff : ∀ x, x < 125 → lg x = true → ∀ q, q < 125 → (bl q x = true ↔ lg q = true ∧ x < q ∧ q < en x) := by decide +kernel
theorem mo_below_n {q x : Nat} (hq : q < 125) (hx : x < 125) : mo_below (nI q) (nI x) = bl q x := by
  unfold mo_below bl
  rw [mo_legal_n q hq, pj_names_n q hq, pj_names_n x hx, mo_head_n q hq _ (nm_lt x)]
  have h1 : decide (nI (nm q) ≤ nI (nm x)) = decide (nm q ≤ nm x) := by
    have a := nm_lt q
    have b := nm_lt x
    exact decide_eq_decide.mpr (nI_leI (by omega) (by omega))
  have h2 : decide (nI (hd q (nm x)) = nI x) = decide (hd q (nm x) = x) := by
    have a := hd_lt q hq _ (nm_lt x)
    exact decide_eq_decide.mpr (nI_eq (by omega) (by omega))
  rw [h1, h2]
  congr 1
  congr 1
  by_cases h : nm q ≤ nm x
  · rw [decide_eq_true h, decide_eq_false (by omega)]; rfl
  · rw [decide_eq_false h, decide_eq_true (by omega)]; rfl
theorem pj_legal_out {x : Int32} (h : x < 0 ∨ 125 ≤ x) : pj_legal x = false := by
  unfold pj_legal
  rw [decide_eq_false, Bool.false_and]
  rintro ⟨h1, h2⟩
  rcases h with h | h
  · exact absurd (Int32.lt_of_lt_of_le h (by decide : (0 : Int32) ≤ 25)) (Int32.not_lt.mpr h1)
  · exact absurd h2 (Int32.not_lt.mpr h)
theorem mo_legal_out {x : Int32} (h : x < 0 ∨ 125 ≤ x) : mo_legal x = false := by
  unfold mo_legal
  rcases h with h | h
  · rw [decide_eq_true (show x ≤ 0 from Int32.le_of_lt h)]; rfl
  · rw [decide_eq_true h]; simp
theorem x_range (x : Int32) : (x < 0 ∨ 125 ≤ x) ∨ ∃ p : Nat, p < 125 ∧ x = nI p := by
  rcases pk_ix x (n := 125) (by decide) with h | h | ⟨j, h1, h2⟩
  · exact Or.inl (Or.inl h)
  · exact Or.inl (Or.inr h)
  · exact Or.inr ⟨j, h1, h2⟩
theorem mo_pj_legal (x : Int32) : mo_legal x = pj_legal x := by
  rcases x_range x with h | ⟨p, h1, rfl⟩
  · rw [mo_legal_out h, pj_legal_out h]
  · rw [mo_legal_n p h1, pj_legal_n p h1]
theorem legal_of {x : Int32} (h : pj_legal x = true) : ∃ p : Nat, p < 125 ∧ x = nI p ∧ lg p = true := by
  rcases x_range x with h1 | ⟨p, h1, rfl⟩
  · rw [pj_legal_out h1] at h; cases h
  · exact ⟨p, h1, rfl, by rw [← pj_legal_n p h1]; exact h⟩
theorem lg_nm : ∀ p, p < 125 → lg p = true → 1 ≤ nm p := by decide +kernel
def wp_t : Bool := (List.range 125).all fun a => !lg a || (List.range 25).all fun k => !(decide (a + k < en a) && lg (a + k)) || (List.range 125).all fun b => !(lg b && decide (nm (a + k) + nm b ≤ 3 + nm a)) || (decide (pj_put (nI (a + k)) (nI a) (nI b) = nI (wp (a + k) a b)) && decide (wp (a + k) a b < 125) && lg (wp (a + k) a b))
theorem wp_t_ok : wp_t = true := by decide +kernel
theorem pj_put_n {a b q : Nat} (ha : a < 125) (hb : b < 125) (la : lg a = true) (lb : lg b = true) (h1 : a ≤ q) (h2 : q < en a) (lq : lg q = true) (hn : nm q + nm b ≤ 3 + nm a) : pj_put (nI q) (nI a) (nI b) = nI (wp q a b) ∧ wp q a b < 125 ∧ lg (wp q a b) = true := by
  obtain ⟨k, rfl⟩ : ∃ k, q = a + k := ⟨q - a, by omega⟩
  have he : en a ≤ a + 25 := by unfold en; split <;> (try split) <;> omega
  have h := wp_t_ok
  unfold wp_t at h
  have h := List.all_eq_true.mp h a (List.mem_range.mpr ha)
  rw [la, Bool.not_true, Bool.false_or] at h
  have h := List.all_eq_true.mp h k (List.mem_range.mpr (by omega))
  rw [decide_eq_true h2, lq, Bool.and_true, Bool.not_true, Bool.false_or] at h
  have h := List.all_eq_true.mp h b (List.mem_range.mpr hb)
  rw [lb, decide_eq_true hn, Bool.and_true, Bool.not_true, Bool.false_or] at h
  simp only [Bool.and_eq_true, decide_eq_true_eq] at h
  exact ⟨h.1.1, h.1.2, h.2⟩
section PN
variable {X Y : Int32} {a b : Nat}
theorem pN_leI (hx : X = nI a) (hy : Y = nI b) (ha : a < 2 ^ 31) (hb : b < 2 ^ 31) : X ≤ Y ↔ a ≤ b := by rw [hx, hy]; exact nI_leI ha hb
theorem pN_ltI (hx : X = nI a) (hy : Y = nI b) (ha : a < 2 ^ 31) (hb : b < 2 ^ 31) : X < Y ↔ a < b := by rw [hx, hy]; exact nI_ltI ha hb
theorem pN_eqI (hx : X = nI a) (hy : Y = nI b) (ha : a < 2 ^ 31) (hb : b < 2 ^ 31) : X = Y ↔ a = b := by rw [hx, hy]; exact nI_eq ha hb
theorem pN_le (hx : X = nI a) (hy : Y = nI b) (h : a ≤ b) (ha : a < 2 ^ 31) (hb : b < 2 ^ 31) : X ≤ Y := (pN_leI hx hy ha hb).mpr h
theorem pN_nle (hx : X = nI a) (hy : Y = nI b) (h : b < a) (ha : a < 2 ^ 31) (hb : b < 2 ^ 31) : ¬ X ≤ Y := fun q => absurd ((pN_leI hx hy ha hb).mp q) (by omega)
theorem pN_lt (hx : X = nI a) (hy : Y = nI b) (h : a < b) (ha : a < 2 ^ 31) (hb : b < 2 ^ 31) : X < Y := (pN_ltI hx hy ha hb).mpr h
theorem pN_nlt (hx : X = nI a) (hy : Y = nI b) (h : b ≤ a) (ha : a < 2 ^ 31) (hb : b < 2 ^ 31) : ¬ X < Y := fun q => absurd ((pN_ltI hx hy ha hb).mp q) (by omega)
theorem pN_eq (hx : X = nI a) (hy : Y = nI b) (h : a = b) (ha : a < 2 ^ 31) (hb : b < 2 ^ 31) : X = Y := (pN_eqI hx hy ha hb).mpr h
theorem pN_neq (hx : X = nI a) (hy : Y = nI b) (h : a ≠ b) (ha : a < 2 ^ 31) (hb : b < 2 ^ 31) : ¬ X = Y := fun q => absurd ((pN_eqI hx hy ha hb).mp q) h
end PN
