/-! ===== Path ===== -/
def pj_rem (x y : Int32) : Int32 := x - x / y * y
def pj_inR (x : Int32) : Bool := !decide (x < 0) && decide (x < 125)
theorem c_PA_inRange (l : Launch) (G : x_G) (x : Int32) : Met l y_PA_inRange (x_ws y_PA_inRange b_PA_inRange 1 (some .boolean)) (x_rm 0 0 0) (x_P G [.int x] (fun _ => True)) (k2_QcV (.int (x_b (pj_inR x)))) 0 0 (fun _ => False) := by
  refine x_mZ (by decide +kernel) (Nat.le_of_ble_eq_true rfl) (fun p e s m args below meth c F hK hP ls hl Q hret => ?_)
  have hl : lv_has ls 1 [(0, .int x)] := hl
  refine lv_iload_n F.1 F.2.1 d_PA_inRange_0 rfl (lv_at hl 0 rfl) ?_
  refine lv_if_lt (tgt := 14) F.1 F.2.1 d_PA_inRange_1 (by decide) (fun c1 => ?_) (fun c1 => ?_)
  · refine lv_iconst (v := 0) F.1 F.2.1 d_PA_inRange_14 (by decide) ?_
    exact hret _ _ _ d_PA_inRange_15 (by simp [pj_inR, c1, x_b])
  · refine lv_iload_n F.1 F.2.1 d_PA_inRange_4 rfl (lv_at hl 0 rfl) ?_
    refine lv_bipush (v := 125) F.1 F.2.1 d_PA_inRange_5 (by decide) ?_
    refine lv_icmp_ge (tgt := 14) F.1 F.2.1 d_PA_inRange_7 (by decide) (fun c2 => ?_) (fun c2 => ?_)
    · refine lv_iconst (v := 0) F.1 F.2.1 d_PA_inRange_14 (by decide) ?_
      exact hret _ _ _ d_PA_inRange_15 (by simp only [pj_inR]; rw [decide_eq_false (Int32.not_lt.mpr c2 : ¬ x < 125), Bool.and_false]; rfl)
    · refine lv_iconst (v := 1) F.1 F.2.1 d_PA_inRange_10 (by decide) ?_
      refine lv_goto (tgt := 15) F.1 F.2.1 d_PA_inRange_11 (by decide) ?_
      exact hret _ _ _ d_PA_inRange_15 (by simp only [pj_inR]; rw [decide_eq_false (by simpa using c1), decide_eq_true (by simpa using c2)]; rfl)
def pj_legal (x : Int32) : Bool := decide (25 ≤ x ∧ x < 125) && (decide (pj_rem (x / 5) 5 ≠ 0) || !decide (pj_rem x 5 ≠ 0))
theorem c_PA_isLegal (l : Launch) (G : x_G) (x : Int32) : Met l y_PA_isLegal (x_ws y_PA_isLegal b_PA_isLegal 4 (some .boolean)) (x_rm 0 0 0) (x_P G [.int x] (fun _ => True)) (k2_QcV (.int (x_b (pj_legal x)))) 0 0 (fun _ => False) := by
  refine x_mZ (by decide +kernel) (Nat.le_of_ble_eq_true rfl) (fun p e s m args below meth c F hK hP ls hl Q hret => ?_)
  have hl : lv_has ls 4 [(0, .int x)] := hl
  have k44 : ∀ (v1 v2 v3 : Bool) (ls : Array Slot), lv_has ls 4 [(3, .int (x_b v3)), (2, .int (x_b v2)), (1, .int (x_b v1)), (0, .int x)] → (v1 && (v2 || !v3)) = pj_legal x → W p l e (x_rm 0 0 0) s m args below meth c s.heap [] 0 0 Q (F0 m 44 ls []) := by
    intro v1 v2 v3 ls hl hv
    refine lv_iload_n F.1 F.2.1 d_PA_isLegal_44 rfl (lv_at hl 2 rfl) ?_
    refine x_beq (tgt := 60) F d_PA_isLegal_45 (by decide) (fun c1 => ?_) (fun c1 => ?_)
    · refine lv_iconst (v := 0) F.1 F.2.1 d_PA_isLegal_60 (by decide) ?_
      exact hret _ _ _ d_PA_isLegal_61 (by rw [← hv, c1]; rfl)
    · refine lv_iload_n F.1 F.2.1 d_PA_isLegal_48 rfl (lv_at hl 1 rfl) ?_
      refine x_bne (tgt := 56) F d_PA_isLegal_49 (by decide) (fun c2 => ?_) (fun c2 => ?_)
      · refine lv_iconst (v := 1) F.1 F.2.1 d_PA_isLegal_56 (by decide) ?_
        refine lv_goto (tgt := 61) F.1 F.2.1 d_PA_isLegal_57 (by decide) ?_
        exact hret _ _ _ d_PA_isLegal_61 (by rw [← hv, c1, c2]; rfl)
      · refine lv_iload_n F.1 F.2.1 d_PA_isLegal_52 rfl (lv_at hl 0 rfl) ?_
        refine x_bne (tgt := 60) F d_PA_isLegal_53 (by decide) (fun c3 => ?_) (fun c3 => ?_)
        · refine lv_iconst (v := 0) F.1 F.2.1 d_PA_isLegal_60 (by decide) ?_
          exact hret _ _ _ d_PA_isLegal_61 (by rw [← hv, c1, c2, c3]; rfl)
        · refine lv_iconst (v := 1) F.1 F.2.1 d_PA_isLegal_56 (by decide) ?_
          refine lv_goto (tgt := 61) F.1 F.2.1 d_PA_isLegal_57 (by decide) ?_
          exact hret _ _ _ d_PA_isLegal_61 (by rw [← hv, c1, c2, c3]; rfl)
  have k32 : ∀ (v1 : Bool) (ls : Array Slot), lv_has ls 4 [(2, .int (x_b (decide (pj_rem (x / 5) 5 ≠ 0)))), (1, .int (x_b v1)), (0, .int x)] → v1 = decide (25 ≤ x ∧ x < 125) → W p l e (x_rm 0 0 0) s m args below meth c s.heap [] 0 0 Q (F0 m 32 ls []) := by
    intro v1 ls hl hv
    refine lv_iload_n F.1 F.2.1 d_PA_isLegal_32 rfl (lv_at hl 2 rfl) ?_
    refine lv_iconst (v := 5) F.1 F.2.1 d_PA_isLegal_33 (by decide) ?_
    refine lv_irem F.1 F.2.1 d_PA_isLegal_34 (by decide) ?_
    refine lv_if_eq (tgt := 42) F.1 F.2.1 d_PA_isLegal_35 (by decide) (fun c1 => ?_) (fun c1 => ?_)
    · refine lv_iconst (v := 0) F.1 F.2.1 d_PA_isLegal_42 (by decide) ?_
      refine lv_istore_n (lv' := [(3, .int 0), (2, .int (x_b (decide (pj_rem (x / 5) 5 ≠ 0)))), (1, .int (x_b v1)), (0, .int x)]) F.1 F.2.1 d_PA_isLegal_43 rfl hl (by decide) rfl (fun ls hl => ?_)
      exact k44 v1 _ false ls hl (by rw [hv]; simp only [pj_legal]; rw [decide_eq_false (show ¬ (pj_rem x 5 ≠ 0) from fun h => h c1)])
    · refine lv_iconst (v := 1) F.1 F.2.1 d_PA_isLegal_38 (by decide) ?_
      refine lv_goto (tgt := 43) F.1 F.2.1 d_PA_isLegal_39 (by decide) ?_
      refine lv_istore_n (lv' := [(3, .int 1), (2, .int (x_b (decide (pj_rem (x / 5) 5 ≠ 0)))), (1, .int (x_b v1)), (0, .int x)]) F.1 F.2.1 d_PA_isLegal_43 rfl hl (by decide) rfl (fun ls hl => ?_)
      exact k44 v1 _ true ls hl (by rw [hv]; simp only [pj_legal]; rw [decide_eq_true (show (pj_rem x 5 ≠ 0) from c1)])
  have k18 : ∀ (v1 : Bool) (ls : Array Slot), lv_has ls 4 [(1, .int (x_b v1)), (0, .int x)] → v1 = decide (25 ≤ x ∧ x < 125) → W p l e (x_rm 0 0 0) s m args below meth c s.heap [] 0 0 Q (F0 m 18 ls []) := by
    intro v1 ls hl hv
    refine lv_iload_n F.1 F.2.1 d_PA_isLegal_18 rfl (lv_at hl 1 rfl) ?_
    refine lv_iconst (v := 5) F.1 F.2.1 d_PA_isLegal_19 (by decide) ?_
    refine lv_idiv F.1 F.2.1 d_PA_isLegal_20 (by decide) ?_
    refine lv_iconst (v := 5) F.1 F.2.1 d_PA_isLegal_21 (by decide) ?_
    refine lv_irem F.1 F.2.1 d_PA_isLegal_22 (by decide) ?_
    refine lv_if_eq (tgt := 30) F.1 F.2.1 d_PA_isLegal_23 (by decide) (fun c1 => ?_) (fun c1 => ?_)
    · refine lv_iconst (v := 0) F.1 F.2.1 d_PA_isLegal_30 (by decide) ?_
      refine lv_istore_n (lv' := [(2, .int 0), (1, .int (x_b v1)), (0, .int x)]) F.1 F.2.1 d_PA_isLegal_31 rfl hl (by decide) rfl (fun ls hl => ?_)
      exact k32 v1 ls (by rw [decide_eq_false (show ¬ (pj_rem (x / 5) 5 ≠ 0) from fun h => h c1)]; exact hl) hv
    · refine lv_iconst (v := 1) F.1 F.2.1 d_PA_isLegal_26 (by decide) ?_
      refine lv_goto (tgt := 31) F.1 F.2.1 d_PA_isLegal_27 (by decide) ?_
      refine lv_istore_n (lv' := [(2, .int 1), (1, .int (x_b v1)), (0, .int x)]) F.1 F.2.1 d_PA_isLegal_31 rfl hl (by decide) rfl (fun ls hl => ?_)
      exact k32 v1 ls (by rw [decide_eq_true (show (pj_rem (x / 5) 5 ≠ 0) from c1)]; exact hl) hv
  refine lv_iload_n F.1 F.2.1 d_PA_isLegal_0 rfl (lv_at hl 0 rfl) ?_
  refine lv_bipush (v := 25) F.1 F.2.1 d_PA_isLegal_1 (by decide) ?_
  refine lv_icmp_lt (tgt := 16) F.1 F.2.1 d_PA_isLegal_3 (by decide) (fun c1 => ?_) (fun c1 => ?_)
  · refine lv_iconst (v := 0) F.1 F.2.1 d_PA_isLegal_16 (by decide) ?_
    refine lv_istore_n (lv' := [(1, .int 0), (0, .int x)]) F.1 F.2.1 d_PA_isLegal_17 rfl hl (by decide) rfl (fun ls hl => ?_)
    exact k18 false ls hl (by rw [decide_eq_false]; rintro ⟨h1, h2⟩; exact absurd c1 (Int32.not_lt.mpr h1))
  · refine lv_iload_n F.1 F.2.1 d_PA_isLegal_6 rfl (lv_at hl 0 rfl) ?_
    refine lv_bipush (v := 125) F.1 F.2.1 d_PA_isLegal_7 (by decide) ?_
    refine lv_icmp_ge (tgt := 16) F.1 F.2.1 d_PA_isLegal_9 (by decide) (fun c2 => ?_) (fun c2 => ?_)
    · refine lv_iconst (v := 0) F.1 F.2.1 d_PA_isLegal_16 (by decide) ?_
      refine lv_istore_n (lv' := [(1, .int 0), (0, .int x)]) F.1 F.2.1 d_PA_isLegal_17 rfl hl (by decide) rfl (fun ls hl => ?_)
      exact k18 false ls hl (by rw [decide_eq_false]; rintro ⟨h1, h2⟩; exact absurd h2 (Int32.not_lt.mpr c2))
    · refine lv_iconst (v := 1) F.1 F.2.1 d_PA_isLegal_12 (by decide) ?_
      refine lv_goto (tgt := 17) F.1 F.2.1 d_PA_isLegal_13 (by decide) ?_
      refine lv_istore_n (lv' := [(1, .int 1), (0, .int x)]) F.1 F.2.1 d_PA_isLegal_17 rfl hl (by decide) rfl (fun ls hl => ?_)
      exact k18 true ls hl (by rw [decide_eq_true ⟨Int32.not_lt.mp c1, Int32.not_le.mp c2⟩])
def pj_names (x : Int32) : Int32 := if x = 0 then 0 else if pj_rem x 25 = 0 then 1 else if pj_rem x 5 = 0 then 2 else 3
theorem c_PA_names (l : Launch) (G : x_G) (x : Int32) : Met l y_PA_names (x_ws y_PA_names b_PA_names 1 (some .int)) (x_rm 0 0 0) (x_P G [.int x] (fun _ => True)) (k2_QcV (.int (pj_names x))) 0 0 (fun _ => False) := by
  refine x_mI (by decide +kernel) (Nat.le_of_ble_eq_true rfl) (fun p e s m args below meth c F hK hP ls hl Q hret => ?_)
  have hl : lv_has ls 1 [(0, .int x)] := hl
  refine lv_iload_n F.1 F.2.1 d_PA_names_0 rfl (lv_at hl 0 rfl) ?_
  refine lv_if_ne (tgt := 6) F.1 F.2.1 d_PA_names_1 (by decide) (fun c1 => ?_) (fun c1 => ?_)
  · refine lv_iload_n F.1 F.2.1 d_PA_names_6 rfl (lv_at hl 0 rfl) ?_
    refine lv_bipush (v := 25) F.1 F.2.1 d_PA_names_7 (by decide) ?_
    refine lv_irem F.1 F.2.1 d_PA_names_9 (by decide) ?_
    refine lv_if_ne (tgt := 15) F.1 F.2.1 d_PA_names_10 (by decide) (fun c2 => ?_) (fun c2 => ?_)
    · refine lv_iload_n F.1 F.2.1 d_PA_names_15 rfl (lv_at hl 0 rfl) ?_
      refine lv_iconst (v := 5) F.1 F.2.1 d_PA_names_16 (by decide) ?_
      refine lv_irem F.1 F.2.1 d_PA_names_17 (by decide) ?_
      refine lv_if_ne (tgt := 25) F.1 F.2.1 d_PA_names_18 (by decide) (fun c3 => ?_) (fun c3 => ?_)
      · refine lv_iconst (v := 3) F.1 F.2.1 d_PA_names_25 (by decide) ?_
        exact hret _ _ _ d_PA_names_26 (by unfold pj_names; rw [if_neg c1, if_neg (show ¬ pj_rem x 25 = 0 from c2), if_neg (show ¬ pj_rem x 5 = 0 from c3)])
      · refine lv_iconst (v := 2) F.1 F.2.1 d_PA_names_21 (by decide) ?_
        refine lv_goto (tgt := 26) F.1 F.2.1 d_PA_names_22 (by decide) ?_
        exact hret _ _ _ d_PA_names_26 (by unfold pj_names; rw [if_neg c1, if_neg (show ¬ pj_rem x 25 = 0 from c2), if_pos (show pj_rem x 5 = 0 from c3)])
    · refine lv_iconst (v := 1) F.1 F.2.1 d_PA_names_13 (by decide) ?_
      exact hret _ _ _ d_PA_names_14 (by unfold pj_names; rw [if_neg c1, if_pos (show pj_rem x 25 = 0 from c2)])
  · refine lv_iconst (v := 0) F.1 F.2.1 d_PA_names_4 (by decide) ?_
    exact hret _ _ _ d_PA_names_5 (by unfold pj_names; rw [if_pos (c1)])
def pj_parent (x : Int32) : Int32 := if pj_names x = 2 then x - pj_rem x 25 else if pj_names x = 3 then x - pj_rem x 5 else 0
def pj_end (x : Int32) : Int32 := if pj_names x = 1 then x + 25 else if pj_names x = 2 then x + 5 else x + 1
theorem pj_names_in (x : Int32) : pj_names x = 0 ∨ pj_names x = 1 ∨ pj_names x = 2 ∨ pj_names x = 3 := by
  unfold pj_names
  split
  · exact Or.inl rfl
  · split
    · exact Or.inr (Or.inl rfl)
    · split
      · exact Or.inr (Or.inr (Or.inl rfl))
      · exact Or.inr (Or.inr (Or.inr rfl))
theorem c_PA_parent (l : Launch) (G : x_G) (x : Int32) : Met l y_PA_parent (x_ws y_PA_parent b_PA_parent 1 (some .int)) (x_rm 1 0 0) (x_P G [.int x] (fun _ => True)) (k2_QcV (.int (pj_parent x))) 0 0 (fun _ => False) := by
  refine x_mI (by decide +kernel) (Nat.le_of_ble_eq_true rfl) (fun p e s m args below meth c F hK hP ls hl Q hret => ?_)
  have hl : lv_has ls 1 [(0, .int x)] := hl
  refine lv_iload_n F.1 F.2.1 d_PA_parent_0 rfl (lv_at hl 0 rfl) ?_
  refine x_rd (x_S (n := 1) (As := [.int x]) F (c_PA_names l G x) ok_PA_names k233 ⟨Nat.le_of_ble_eq_true rfl, Nat.le_of_ble_eq_true rfl⟩ rfl rfl hK (trivial) rfl hl.1 rfl (Nat.le_of_ble_eq_true rfl) d_PA_parent_1 ⟨Nat.le_of_ble_eq_true rfl, Nat.le_of_ble_eq_true rfl⟩) ?_
  rcases pj_names_in x with hn | hn | hn | hn
  · refine lv_lookup (off := 41) (tgt := 45) F.1 F.2.1 d_PA_parent_4 (by decide) (by rw [hn]; decide) (by decide) ?_
    refine lv_iconst (v := 0) F.1 F.2.1 d_PA_parent_45 (by decide) ?_
    exact hret _ _ _ d_PA_parent_46 (by unfold pj_parent; rw [hn]; rfl)
  · refine lv_lookup (off := 41) (tgt := 45) F.1 F.2.1 d_PA_parent_4 (by decide) (by rw [hn]; decide) (by decide) ?_
    refine lv_iconst (v := 0) F.1 F.2.1 d_PA_parent_45 (by decide) ?_
    exact hret _ _ _ d_PA_parent_46 (by unfold pj_parent; rw [hn]; rfl)
  · refine lv_lookup (off := 28) (tgt := 32) F.1 F.2.1 d_PA_parent_4 (by decide) (by rw [hn]; decide) (by decide) ?_
    refine lv_iload_n F.1 F.2.1 d_PA_parent_32 rfl (lv_at hl 0 rfl) ?_
    refine lv_iload_n F.1 F.2.1 d_PA_parent_33 rfl (lv_at hl 0 rfl) ?_
    refine lv_bipush (v := 25) F.1 F.2.1 d_PA_parent_34 (by decide) ?_
    refine lv_irem F.1 F.2.1 d_PA_parent_36 (by decide) ?_
    refine lv_isub F.1 F.2.1 d_PA_parent_37 ?_
    exact hret _ _ _ d_PA_parent_38 (by unfold pj_parent; rw [hn]; rfl)
  · refine lv_lookup (off := 35) (tgt := 39) F.1 F.2.1 d_PA_parent_4 (by decide) (by rw [hn]; decide) (by decide) ?_
    refine lv_iload_n F.1 F.2.1 d_PA_parent_39 rfl (lv_at hl 0 rfl) ?_
    refine lv_iload_n F.1 F.2.1 d_PA_parent_40 rfl (lv_at hl 0 rfl) ?_
    refine lv_iconst (v := 5) F.1 F.2.1 d_PA_parent_41 (by decide) ?_
    refine lv_irem F.1 F.2.1 d_PA_parent_42 (by decide) ?_
    refine lv_isub F.1 F.2.1 d_PA_parent_43 ?_
    exact hret _ _ _ d_PA_parent_44 (by unfold pj_parent; rw [hn]; rfl)
theorem c_PA_end (l : Launch) (G : x_G) (x : Int32) : Met l y_PA_end (x_ws y_PA_end b_PA_end 1 (some .int)) (x_rm 1 0 0) (x_P G [.int x] (fun _ => True)) (k2_QcV (.int (pj_end x))) 0 0 (fun _ => False) := by
  refine x_mI (by decide +kernel) (Nat.le_of_ble_eq_true rfl) (fun p e s m args below meth c F hK hP ls hl Q hret => ?_)
  have hl : lv_has ls 1 [(0, .int x)] := hl
  refine lv_iload_n F.1 F.2.1 d_PA_end_0 rfl (lv_at hl 0 rfl) ?_
  refine x_rd (x_S (n := 1) (As := [.int x]) F (c_PA_names l G x) ok_PA_names k233 ⟨Nat.le_of_ble_eq_true rfl, Nat.le_of_ble_eq_true rfl⟩ rfl rfl hK (trivial) rfl hl.1 rfl (Nat.le_of_ble_eq_true rfl) d_PA_end_1 ⟨Nat.le_of_ble_eq_true rfl, Nat.le_of_ble_eq_true rfl⟩) ?_
  rcases pj_names_in x with hn | hn | hn | hn
  · refine lv_lookup (off := 37) (tgt := 41) F.1 F.2.1 d_PA_end_4 (by decide) (by rw [hn]; decide) (by decide) ?_
    refine lv_iload_n F.1 F.2.1 d_PA_end_41 rfl (lv_at hl 0 rfl) ?_
    refine lv_iconst (v := 1) F.1 F.2.1 d_PA_end_42 (by decide) ?_
    refine lv_iadd F.1 F.2.1 d_PA_end_43 ?_
    exact hret _ _ _ d_PA_end_44 (by unfold pj_end; rw [hn]; rfl)
  · refine lv_lookup (off := 28) (tgt := 32) F.1 F.2.1 d_PA_end_4 (by decide) (by rw [hn]; decide) (by decide) ?_
    refine lv_iload_n F.1 F.2.1 d_PA_end_32 rfl (lv_at hl 0 rfl) ?_
    refine lv_bipush (v := 25) F.1 F.2.1 d_PA_end_33 (by decide) ?_
    refine lv_iadd F.1 F.2.1 d_PA_end_35 ?_
    exact hret _ _ _ d_PA_end_36 (by unfold pj_end; rw [hn]; rfl)
  · refine lv_lookup (off := 33) (tgt := 37) F.1 F.2.1 d_PA_end_4 (by decide) (by rw [hn]; decide) (by decide) ?_
    refine lv_iload_n F.1 F.2.1 d_PA_end_37 rfl (lv_at hl 0 rfl) ?_
    refine lv_iconst (v := 5) F.1 F.2.1 d_PA_end_38 (by decide) ?_
    refine lv_iadd F.1 F.2.1 d_PA_end_39 ?_
    exact hret _ _ _ d_PA_end_40 (by unfold pj_end; rw [hn]; rfl)
  · refine lv_lookup (off := 37) (tgt := 41) F.1 F.2.1 d_PA_end_4 (by decide) (by rw [hn]; decide) (by decide) ?_
    refine lv_iload_n F.1 F.2.1 d_PA_end_41 rfl (lv_at hl 0 rfl) ?_
    refine lv_iconst (v := 1) F.1 F.2.1 d_PA_end_42 (by decide) ?_
    refine lv_iadd F.1 F.2.1 d_PA_end_43 ?_
    exact hret _ _ _ d_PA_end_44 (by unfold pj_end; rw [hn]; rfl)
theorem c_PA_namesWhenPut (l : Launch) (G : x_G) (x f t : Int32) : Met l y_PA_namesWhenPut (x_ws y_PA_namesWhenPut b_PA_namesWhenPut 3 (some .int)) (x_rm 1 0 0) (x_P G [.int x, .int f, .int t] (fun _ => True)) (k2_QcV (.int (pj_names x - pj_names f + pj_names t))) 0 0 (fun _ => False) := by
  refine x_mI (by decide +kernel) (Nat.le_of_ble_eq_true rfl) (fun p e s m args below meth c F hK hP ls hl Q hret => ?_)
  have hl : lv_has ls 3 [(0, .int x), (1, .int f), (2, .int t)] := hl
  refine lv_iload_n F.1 F.2.1 d_PA_namesWhenPut_0 rfl (lv_at hl 0 rfl) ?_
  refine x_rd (x_S (n := 1) (As := [.int x]) F (c_PA_names l G x) ok_PA_names k233 ⟨Nat.le_of_ble_eq_true rfl, Nat.le_of_ble_eq_true rfl⟩ rfl rfl hK (trivial) rfl hl.1 rfl (Nat.le_of_ble_eq_true rfl) d_PA_namesWhenPut_1 ⟨Nat.le_of_ble_eq_true rfl, Nat.le_of_ble_eq_true rfl⟩) ?_
  refine lv_iload_n F.1 F.2.1 d_PA_namesWhenPut_4 rfl (lv_at hl 1 rfl) ?_
  refine x_rd (x_S (n := 1) (As := [.int f]) F (c_PA_names l G f) ok_PA_names k233 ⟨Nat.le_of_ble_eq_true rfl, Nat.le_of_ble_eq_true rfl⟩ rfl rfl hK (trivial) rfl hl.1 rfl (Nat.le_of_ble_eq_true rfl) d_PA_namesWhenPut_5 ⟨Nat.le_of_ble_eq_true rfl, Nat.le_of_ble_eq_true rfl⟩) ?_
  refine lv_isub F.1 F.2.1 d_PA_namesWhenPut_8 ?_
  refine lv_iload_n F.1 F.2.1 d_PA_namesWhenPut_9 rfl (lv_at hl 2 rfl) ?_
  refine x_rd (x_S (n := 1) (As := [.int t]) F (c_PA_names l G t) ok_PA_names k233 ⟨Nat.le_of_ble_eq_true rfl, Nat.le_of_ble_eq_true rfl⟩ rfl rfl hK (trivial) rfl hl.1 rfl (Nat.le_of_ble_eq_true rfl) d_PA_namesWhenPut_10 ⟨Nat.le_of_ble_eq_true rfl, Nat.le_of_ble_eq_true rfl⟩) ?_
  refine lv_iadd F.1 F.2.1 d_PA_namesWhenPut_13 ?_
  exact hret _ _ _ d_PA_namesWhenPut_14 rfl
def pj_off (d o : Int32) : Int32 := if d = 1 then o / 5 else if d = 2 then o / 5 / 5 else if d = -1 then o * 5 else if d = -2 then o * 5 * 5 else o
def pj_put (x f t : Int32) : Int32 := t + pj_off (pj_names t - pj_names f) (x - f)
theorem c_PA_whenPut (l : Launch) (G : x_G) (x f t : Int32) (hd : pj_names t - pj_names f = 0 ∨ pj_names t - pj_names f = 1 ∨ pj_names t - pj_names f = 2 ∨ pj_names t - pj_names f = -1 ∨ pj_names t - pj_names f = -2) : Met l y_PA_whenPut (x_ws y_PA_whenPut b_PA_whenPut 6 (some .int)) (x_rm 1 0 0) (x_P G [.int x, .int f, .int t] (fun _ => True)) (k2_QcV (.int (pj_put x f t))) 0 0 (fun _ => False) := by
  refine x_mI (by decide +kernel) (Nat.le_of_ble_eq_true rfl) (fun p e s m args below meth c F hK hP ls hl Q hret => ?_)
  have hl : lv_has ls 6 [(0, .int x), (1, .int f), (2, .int t)] := hl
  refine lv_iload_n F.1 F.2.1 d_PA_whenPut_0 rfl (lv_at hl 0 rfl) ?_
  refine lv_iload_n F.1 F.2.1 d_PA_whenPut_1 rfl (lv_at hl 1 rfl) ?_
  refine lv_isub F.1 F.2.1 d_PA_whenPut_2 ?_
  refine lv_istore_n (lv' := [(3, .int (x - f)), (0, .int x), (1, .int f), (2, .int t)]) F.1 F.2.1 d_PA_whenPut_3 rfl hl (by decide) rfl (fun ls hl => ?_)
  refine lv_iload_n F.1 F.2.1 d_PA_whenPut_4 rfl (lv_at hl 3 rfl) ?_
  refine x_rd (x_S (n := 1) (As := [.int t]) F (c_PA_names l G t) ok_PA_names k233 ⟨Nat.le_of_ble_eq_true rfl, Nat.le_of_ble_eq_true rfl⟩ rfl rfl hK (trivial) rfl hl.1 rfl (Nat.le_of_ble_eq_true rfl) d_PA_whenPut_5 ⟨Nat.le_of_ble_eq_true rfl, Nat.le_of_ble_eq_true rfl⟩) ?_
  refine lv_iload_n F.1 F.2.1 d_PA_whenPut_8 rfl (lv_at hl 2 rfl) ?_
  refine x_rd (x_S (n := 1) (As := [.int f]) F (c_PA_names l G f) ok_PA_names k233 ⟨Nat.le_of_ble_eq_true rfl, Nat.le_of_ble_eq_true rfl⟩ rfl rfl hK (trivial) rfl hl.1 rfl (Nat.le_of_ble_eq_true rfl) d_PA_whenPut_9 ⟨Nat.le_of_ble_eq_true rfl, Nat.le_of_ble_eq_true rfl⟩) ?_
  refine lv_isub F.1 F.2.1 d_PA_whenPut_12 ?_
  unfold pj_put at hret
  generalize hde : pj_names t - pj_names f = de at hd hret ⊢
  rcases hd with rfl | rfl | rfl | rfl | rfl
  · skip
    refine lv_istore (lv' := [(4, .int 0), (3, .int (x - f)), (0, .int x), (1, .int f), (2, .int t)]) F.1 F.2.1 d_PA_whenPut_13 hl (by decide) rfl (fun ls hl => ?_)
    refine lv_iconst (v := 0) F.1 F.2.1 d_PA_whenPut_15 (by decide) ?_
    refine lv_istore (lv' := [(5, .int 0), (4, .int 0), (3, .int (x - f)), (0, .int x), (1, .int f), (2, .int t)]) F.1 F.2.1 d_PA_whenPut_16 hl (by decide) rfl (fun ls hl => ?_)
    refine lv_iload F.1 F.2.1 d_PA_whenPut_18 (lv_at hl 0 rfl) ?_
    refine lv_iload F.1 F.2.1 d_PA_whenPut_20 (lv_at hl 1 rfl) ?_
    refine lv_icmp_ge (tgt := 35) F.1 F.2.1 d_PA_whenPut_22 (by decide) (fun _ => ?_) (fun zq => absurd ((by decide)) zq)
    refine lv_iload F.1 F.2.1 d_PA_whenPut_35 (lv_at hl 1 rfl) ?_
    refine lv_istore (lv' := [(5, .int 0), (4, .int 0), (3, .int (x - f)), (0, .int x), (1, .int f), (2, .int t)]) F.1 F.2.1 d_PA_whenPut_37 hl (by decide) rfl (fun ls hl => ?_)
    refine lv_iload F.1 F.2.1 d_PA_whenPut_39 (lv_at hl 0 rfl) ?_
    refine lv_if_ge (tgt := 54) F.1 F.2.1 d_PA_whenPut_41 (by decide) (fun _ => ?_) (fun zq => absurd ((by decide)) zq)
    refine lv_iload_n F.1 F.2.1 d_PA_whenPut_54 rfl (lv_at hl 5 rfl) ?_
    refine lv_iload_n F.1 F.2.1 d_PA_whenPut_55 rfl (lv_at hl 2 rfl) ?_
    refine lv_iadd F.1 F.2.1 d_PA_whenPut_56 ?_
    exact hret _ _ _ d_PA_whenPut_57 rfl
  · skip
    refine lv_istore (lv' := [(4, .int 1), (3, .int (x - f)), (0, .int x), (1, .int f), (2, .int t)]) F.1 F.2.1 d_PA_whenPut_13 hl (by decide) rfl (fun ls hl => ?_)
    refine lv_iconst (v := 0) F.1 F.2.1 d_PA_whenPut_15 (by decide) ?_
    refine lv_istore (lv' := [(5, .int 0), (4, .int 1), (3, .int (x - f)), (0, .int x), (1, .int f), (2, .int t)]) F.1 F.2.1 d_PA_whenPut_16 hl (by decide) rfl (fun ls hl => ?_)
    refine lv_iload F.1 F.2.1 d_PA_whenPut_18 (lv_at hl 0 rfl) ?_
    refine lv_iload F.1 F.2.1 d_PA_whenPut_20 (lv_at hl 1 rfl) ?_
    refine lv_icmp_ge (tgt := 35) F.1 F.2.1 d_PA_whenPut_22 (by decide) (fun zq => absurd zq ((by decide))) (fun _ => ?_)
    refine lv_iload_n F.1 F.2.1 d_PA_whenPut_25 rfl (lv_at hl 2 rfl) ?_
    refine lv_iconst (v := 5) F.1 F.2.1 d_PA_whenPut_26 (by decide) ?_
    refine lv_idiv F.1 F.2.1 d_PA_whenPut_27 (by decide) ?_
    refine lv_istore_n (lv' := [(3, .int ((x - f) / 5)), (5, .int 0), (4, .int 1), (0, .int x), (1, .int f), (2, .int t)]) F.1 F.2.1 d_PA_whenPut_28 rfl hl (by decide) rfl (fun ls hl => ?_)
    refine lv_iinc (v := (0 + 1)) (lv' := [(5, .int (0 + 1)), (3, .int ((x - f) / 5)), (4, .int 1), (0, .int x), (1, .int f), (2, .int t)]) F.1 F.2.1 d_PA_whenPut_29 hl (k := 1) rfl rfl (by decide) rfl (fun ls hl => ?_)
    refine lv_goto (tgt := 18) F.1 F.2.1 d_PA_whenPut_32 (by decide) ?_
    refine lv_iload F.1 F.2.1 d_PA_whenPut_18 (lv_at hl 0 rfl) ?_
    refine lv_iload F.1 F.2.1 d_PA_whenPut_20 (lv_at hl 2 rfl) ?_
    refine lv_icmp_ge (tgt := 35) F.1 F.2.1 d_PA_whenPut_22 (by decide) (fun _ => ?_) (fun zq => absurd ((by decide)) zq)
    refine lv_iload F.1 F.2.1 d_PA_whenPut_35 (lv_at hl 2 rfl) ?_
    refine lv_istore (lv' := [(5, .int 1), (3, .int ((x - f) / 5)), (4, .int 1), (0, .int x), (1, .int f), (2, .int t)]) F.1 F.2.1 d_PA_whenPut_37 hl (by decide) rfl (fun ls hl => ?_)
    refine lv_iload F.1 F.2.1 d_PA_whenPut_39 (lv_at hl 0 rfl) ?_
    refine lv_if_ge (tgt := 54) F.1 F.2.1 d_PA_whenPut_41 (by decide) (fun _ => ?_) (fun zq => absurd ((by decide)) zq)
    refine lv_iload_n F.1 F.2.1 d_PA_whenPut_54 rfl (lv_at hl 5 rfl) ?_
    refine lv_iload_n F.1 F.2.1 d_PA_whenPut_55 rfl (lv_at hl 1 rfl) ?_
    refine lv_iadd F.1 F.2.1 d_PA_whenPut_56 ?_
    exact hret _ _ _ d_PA_whenPut_57 rfl
  · skip
    refine lv_istore (lv' := [(4, .int 2), (3, .int (x - f)), (0, .int x), (1, .int f), (2, .int t)]) F.1 F.2.1 d_PA_whenPut_13 hl (by decide) rfl (fun ls hl => ?_)
    refine lv_iconst (v := 0) F.1 F.2.1 d_PA_whenPut_15 (by decide) ?_
    refine lv_istore (lv' := [(5, .int 0), (4, .int 2), (3, .int (x - f)), (0, .int x), (1, .int f), (2, .int t)]) F.1 F.2.1 d_PA_whenPut_16 hl (by decide) rfl (fun ls hl => ?_)
    refine lv_iload F.1 F.2.1 d_PA_whenPut_18 (lv_at hl 0 rfl) ?_
    refine lv_iload F.1 F.2.1 d_PA_whenPut_20 (lv_at hl 1 rfl) ?_
    refine lv_icmp_ge (tgt := 35) F.1 F.2.1 d_PA_whenPut_22 (by decide) (fun zq => absurd zq ((by decide))) (fun _ => ?_)
    refine lv_iload_n F.1 F.2.1 d_PA_whenPut_25 rfl (lv_at hl 2 rfl) ?_
    refine lv_iconst (v := 5) F.1 F.2.1 d_PA_whenPut_26 (by decide) ?_
    refine lv_idiv F.1 F.2.1 d_PA_whenPut_27 (by decide) ?_
    refine lv_istore_n (lv' := [(3, .int ((x - f) / 5)), (5, .int 0), (4, .int 2), (0, .int x), (1, .int f), (2, .int t)]) F.1 F.2.1 d_PA_whenPut_28 rfl hl (by decide) rfl (fun ls hl => ?_)
    refine lv_iinc (v := (0 + 1)) (lv' := [(5, .int (0 + 1)), (3, .int ((x - f) / 5)), (4, .int 2), (0, .int x), (1, .int f), (2, .int t)]) F.1 F.2.1 d_PA_whenPut_29 hl (k := 1) rfl rfl (by decide) rfl (fun ls hl => ?_)
    refine lv_goto (tgt := 18) F.1 F.2.1 d_PA_whenPut_32 (by decide) ?_
    refine lv_iload F.1 F.2.1 d_PA_whenPut_18 (lv_at hl 0 rfl) ?_
    refine lv_iload F.1 F.2.1 d_PA_whenPut_20 (lv_at hl 2 rfl) ?_
    refine lv_icmp_ge (tgt := 35) F.1 F.2.1 d_PA_whenPut_22 (by decide) (fun zq => absurd zq ((by decide))) (fun _ => ?_)
    refine lv_iload_n F.1 F.2.1 d_PA_whenPut_25 rfl (lv_at hl 1 rfl) ?_
    refine lv_iconst (v := 5) F.1 F.2.1 d_PA_whenPut_26 (by decide) ?_
    refine lv_idiv F.1 F.2.1 d_PA_whenPut_27 (by decide) ?_
    refine lv_istore_n (lv' := [(3, .int (((x - f) / 5) / 5)), (5, .int (0 + 1)), (4, .int 2), (0, .int x), (1, .int f), (2, .int t)]) F.1 F.2.1 d_PA_whenPut_28 rfl hl (by decide) rfl (fun ls hl => ?_)
    refine lv_iinc (v := ((0 + 1) + 1)) (lv' := [(5, .int ((0 + 1) + 1)), (3, .int (((x - f) / 5) / 5)), (4, .int 2), (0, .int x), (1, .int f), (2, .int t)]) F.1 F.2.1 d_PA_whenPut_29 hl (k := 1) rfl rfl (by decide) rfl (fun ls hl => ?_)
    refine lv_goto (tgt := 18) F.1 F.2.1 d_PA_whenPut_32 (by decide) ?_
    refine lv_iload F.1 F.2.1 d_PA_whenPut_18 (lv_at hl 0 rfl) ?_
    refine lv_iload F.1 F.2.1 d_PA_whenPut_20 (lv_at hl 2 rfl) ?_
    refine lv_icmp_ge (tgt := 35) F.1 F.2.1 d_PA_whenPut_22 (by decide) (fun _ => ?_) (fun zq => absurd ((by decide)) zq)
    refine lv_iload F.1 F.2.1 d_PA_whenPut_35 (lv_at hl 2 rfl) ?_
    refine lv_istore (lv' := [(5, .int 2), (3, .int (((x - f) / 5) / 5)), (4, .int 2), (0, .int x), (1, .int f), (2, .int t)]) F.1 F.2.1 d_PA_whenPut_37 hl (by decide) rfl (fun ls hl => ?_)
    refine lv_iload F.1 F.2.1 d_PA_whenPut_39 (lv_at hl 0 rfl) ?_
    refine lv_if_ge (tgt := 54) F.1 F.2.1 d_PA_whenPut_41 (by decide) (fun _ => ?_) (fun zq => absurd ((by decide)) zq)
    refine lv_iload_n F.1 F.2.1 d_PA_whenPut_54 rfl (lv_at hl 5 rfl) ?_
    refine lv_iload_n F.1 F.2.1 d_PA_whenPut_55 rfl (lv_at hl 1 rfl) ?_
    refine lv_iadd F.1 F.2.1 d_PA_whenPut_56 ?_
    exact hret _ _ _ d_PA_whenPut_57 rfl
  · skip
    refine lv_istore (lv' := [(4, .int (-1)), (3, .int (x - f)), (0, .int x), (1, .int f), (2, .int t)]) F.1 F.2.1 d_PA_whenPut_13 hl (by decide) rfl (fun ls hl => ?_)
    refine lv_iconst (v := 0) F.1 F.2.1 d_PA_whenPut_15 (by decide) ?_
    refine lv_istore (lv' := [(5, .int 0), (4, .int (-1)), (3, .int (x - f)), (0, .int x), (1, .int f), (2, .int t)]) F.1 F.2.1 d_PA_whenPut_16 hl (by decide) rfl (fun ls hl => ?_)
    refine lv_iload F.1 F.2.1 d_PA_whenPut_18 (lv_at hl 0 rfl) ?_
    refine lv_iload F.1 F.2.1 d_PA_whenPut_20 (lv_at hl 1 rfl) ?_
    refine lv_icmp_ge (tgt := 35) F.1 F.2.1 d_PA_whenPut_22 (by decide) (fun _ => ?_) (fun zq => absurd ((by decide)) zq)
    refine lv_iload F.1 F.2.1 d_PA_whenPut_35 (lv_at hl 1 rfl) ?_
    refine lv_istore (lv' := [(5, .int (-1)), (4, .int (-1)), (3, .int (x - f)), (0, .int x), (1, .int f), (2, .int t)]) F.1 F.2.1 d_PA_whenPut_37 hl (by decide) rfl (fun ls hl => ?_)
    refine lv_iload F.1 F.2.1 d_PA_whenPut_39 (lv_at hl 0 rfl) ?_
    refine lv_if_ge (tgt := 54) F.1 F.2.1 d_PA_whenPut_41 (by decide) (fun zq => absurd zq ((by decide))) (fun _ => ?_)
    refine lv_iload_n F.1 F.2.1 d_PA_whenPut_44 rfl (lv_at hl 2 rfl) ?_
    refine lv_iconst (v := 5) F.1 F.2.1 d_PA_whenPut_45 (by decide) ?_
    refine lv_imul F.1 F.2.1 d_PA_whenPut_46 ?_
    refine lv_istore_n (lv' := [(3, .int ((x - f) * 5)), (5, .int (-1)), (4, .int (-1)), (0, .int x), (1, .int f), (2, .int t)]) F.1 F.2.1 d_PA_whenPut_47 rfl hl (by decide) rfl (fun ls hl => ?_)
    refine lv_iinc (v := ((-1) + 1)) (lv' := [(5, .int ((-1) + 1)), (3, .int ((x - f) * 5)), (4, .int (-1)), (0, .int x), (1, .int f), (2, .int t)]) F.1 F.2.1 d_PA_whenPut_48 hl (k := 1) rfl rfl (by decide) rfl (fun ls hl => ?_)
    refine lv_goto (tgt := 39) F.1 F.2.1 d_PA_whenPut_51 (by decide) ?_
    refine lv_iload F.1 F.2.1 d_PA_whenPut_39 (lv_at hl 0 rfl) ?_
    refine lv_if_ge (tgt := 54) F.1 F.2.1 d_PA_whenPut_41 (by decide) (fun _ => ?_) (fun zq => absurd ((by decide)) zq)
    refine lv_iload_n F.1 F.2.1 d_PA_whenPut_54 rfl (lv_at hl 5 rfl) ?_
    refine lv_iload_n F.1 F.2.1 d_PA_whenPut_55 rfl (lv_at hl 1 rfl) ?_
    refine lv_iadd F.1 F.2.1 d_PA_whenPut_56 ?_
    exact hret _ _ _ d_PA_whenPut_57 rfl
  · skip
    refine lv_istore (lv' := [(4, .int (-2)), (3, .int (x - f)), (0, .int x), (1, .int f), (2, .int t)]) F.1 F.2.1 d_PA_whenPut_13 hl (by decide) rfl (fun ls hl => ?_)
    refine lv_iconst (v := 0) F.1 F.2.1 d_PA_whenPut_15 (by decide) ?_
    refine lv_istore (lv' := [(5, .int 0), (4, .int (-2)), (3, .int (x - f)), (0, .int x), (1, .int f), (2, .int t)]) F.1 F.2.1 d_PA_whenPut_16 hl (by decide) rfl (fun ls hl => ?_)
    refine lv_iload F.1 F.2.1 d_PA_whenPut_18 (lv_at hl 0 rfl) ?_
    refine lv_iload F.1 F.2.1 d_PA_whenPut_20 (lv_at hl 1 rfl) ?_
    refine lv_icmp_ge (tgt := 35) F.1 F.2.1 d_PA_whenPut_22 (by decide) (fun _ => ?_) (fun zq => absurd ((by decide)) zq)
    refine lv_iload F.1 F.2.1 d_PA_whenPut_35 (lv_at hl 1 rfl) ?_
    refine lv_istore (lv' := [(5, .int (-2)), (4, .int (-2)), (3, .int (x - f)), (0, .int x), (1, .int f), (2, .int t)]) F.1 F.2.1 d_PA_whenPut_37 hl (by decide) rfl (fun ls hl => ?_)
    refine lv_iload F.1 F.2.1 d_PA_whenPut_39 (lv_at hl 0 rfl) ?_
    refine lv_if_ge (tgt := 54) F.1 F.2.1 d_PA_whenPut_41 (by decide) (fun zq => absurd zq ((by decide))) (fun _ => ?_)
    refine lv_iload_n F.1 F.2.1 d_PA_whenPut_44 rfl (lv_at hl 2 rfl) ?_
    refine lv_iconst (v := 5) F.1 F.2.1 d_PA_whenPut_45 (by decide) ?_
    refine lv_imul F.1 F.2.1 d_PA_whenPut_46 ?_
    refine lv_istore_n (lv' := [(3, .int ((x - f) * 5)), (5, .int (-2)), (4, .int (-2)), (0, .int x), (1, .int f), (2, .int t)]) F.1 F.2.1 d_PA_whenPut_47 rfl hl (by decide) rfl (fun ls hl => ?_)
    refine lv_iinc (v := ((-2) + 1)) (lv' := [(5, .int ((-2) + 1)), (3, .int ((x - f) * 5)), (4, .int (-2)), (0, .int x), (1, .int f), (2, .int t)]) F.1 F.2.1 d_PA_whenPut_48 hl (k := 1) rfl rfl (by decide) rfl (fun ls hl => ?_)
    refine lv_goto (tgt := 39) F.1 F.2.1 d_PA_whenPut_51 (by decide) ?_
    refine lv_iload F.1 F.2.1 d_PA_whenPut_39 (lv_at hl 0 rfl) ?_
    refine lv_if_ge (tgt := 54) F.1 F.2.1 d_PA_whenPut_41 (by decide) (fun zq => absurd zq ((by decide))) (fun _ => ?_)
    refine lv_iload_n F.1 F.2.1 d_PA_whenPut_44 rfl (lv_at hl 1 rfl) ?_
    refine lv_iconst (v := 5) F.1 F.2.1 d_PA_whenPut_45 (by decide) ?_
    refine lv_imul F.1 F.2.1 d_PA_whenPut_46 ?_
    refine lv_istore_n (lv' := [(3, .int (((x - f) * 5) * 5)), (5, .int ((-2) + 1)), (4, .int (-2)), (0, .int x), (1, .int f), (2, .int t)]) F.1 F.2.1 d_PA_whenPut_47 rfl hl (by decide) rfl (fun ls hl => ?_)
    refine lv_iinc (v := (((-2) + 1) + 1)) (lv' := [(5, .int (((-2) + 1) + 1)), (3, .int (((x - f) * 5) * 5)), (4, .int (-2)), (0, .int x), (1, .int f), (2, .int t)]) F.1 F.2.1 d_PA_whenPut_48 hl (k := 1) rfl rfl (by decide) rfl (fun ls hl => ?_)
    refine lv_goto (tgt := 39) F.1 F.2.1 d_PA_whenPut_51 (by decide) ?_
    refine lv_iload F.1 F.2.1 d_PA_whenPut_39 (lv_at hl 0 rfl) ?_
    refine lv_if_ge (tgt := 54) F.1 F.2.1 d_PA_whenPut_41 (by decide) (fun _ => ?_) (fun zq => absurd ((by decide)) zq)
    refine lv_iload_n F.1 F.2.1 d_PA_whenPut_54 rfl (lv_at hl 5 rfl) ?_
    refine lv_iload_n F.1 F.2.1 d_PA_whenPut_55 rfl (lv_at hl 1 rfl) ?_
    refine lv_iadd F.1 F.2.1 d_PA_whenPut_56 ?_
    exact hret _ _ _ d_PA_whenPut_57 rfl

