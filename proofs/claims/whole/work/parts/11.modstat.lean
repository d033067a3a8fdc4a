/-! ===== the model's static functions ===== -/
theorem c_MO_depth (l : Launch) (G : x_G) (x : Int32) : Met l y_MO_depth (x_ws y_MO_depth b_MO_depth 1 (some .int)) (x_rm 0 0 0) (x_P G [.int x] (fun _ => True)) (k2_QcV (.int (pj_names x))) 0 0 (fun _ => False) := by
  refine x_mI (by decide +kernel) (Nat.le_of_ble_eq_true rfl) (fun p e s m args below meth c F hK hP ls hl Q hret => ?_)
  have hl : lv_has ls 1 [(0, .int x)] := hl
  refine lv_iload_n F.1 F.2.1 d_MO_depth_0 rfl (lv_at hl 0 rfl) ?_
  refine lv_if_ne (tgt := 8) F.1 F.2.1 d_MO_depth_1 (by decide) (fun c1 => ?_) (fun c1 => ?_)
  · refine lv_iload_n F.1 F.2.1 d_MO_depth_8 rfl (lv_at hl 0 rfl) ?_
    refine lv_bipush (v := 25) F.1 F.2.1 d_MO_depth_9 (by decide) ?_
    refine lv_irem F.1 F.2.1 d_MO_depth_11 (by decide) ?_
    refine lv_if_ne (tgt := 19) F.1 F.2.1 d_MO_depth_12 (by decide) (fun c12 => ?_) (fun c12 => ?_)
    · refine lv_iload_n F.1 F.2.1 d_MO_depth_19 rfl (lv_at hl 0 rfl) ?_
      refine lv_iconst (v := 5) F.1 F.2.1 d_MO_depth_20 (by decide) ?_
      refine lv_irem F.1 F.2.1 d_MO_depth_21 (by decide) ?_
      refine lv_if_ne (tgt := 29) F.1 F.2.1 d_MO_depth_22 (by decide) (fun c22 => ?_) (fun c22 => ?_)
      · refine lv_iconst (v := 3) F.1 F.2.1 d_MO_depth_29 (by decide) ?_
        exact hret _ _ _ d_MO_depth_30 (by unfold pj_names pj_rem; simp_all)
      · refine lv_iconst (v := 2) F.1 F.2.1 d_MO_depth_25 (by decide) ?_
        refine lv_goto (tgt := 30) F.1 F.2.1 d_MO_depth_26 (by decide) ?_
        exact hret _ _ _ d_MO_depth_30 (by unfold pj_names pj_rem; simp_all)
    · refine lv_iconst (v := 1) F.1 F.2.1 d_MO_depth_15 (by decide) ?_
      refine lv_goto (tgt := 30) F.1 F.2.1 d_MO_depth_16 (by decide) ?_
      exact hret _ _ _ d_MO_depth_30 (by unfold pj_names pj_rem; simp_all)
  · refine lv_iconst (v := 0) F.1 F.2.1 d_MO_depth_4 (by decide) ?_
    refine lv_goto (tgt := 30) F.1 F.2.1 d_MO_depth_5 (by decide) ?_
    exact hret _ _ _ d_MO_depth_30 (by unfold pj_names pj_rem; simp_all)
def mo_legal (x : Int32) : Bool := !decide (x ≤ 0) && !decide (125 ≤ x) && !decide (x / 25 ≤ 0) && (decide (0 < pj_rem (x / 5) 5) || decide (pj_rem x 5 = 0))
theorem c_MO_legal (l : Launch) (G : x_G) (x : Int32) : Met l y_MO_legal (x_ws y_MO_legal b_MO_legal 1 (some .boolean)) (x_rm 0 0 0) (x_P G [.int x] (fun _ => True)) (k2_QcV (.int (x_b (mo_legal x)))) 0 0 (fun _ => False) := by
  refine x_mZ (by decide +kernel) (Nat.le_of_ble_eq_true rfl) (fun p e s m args below meth c F hK hP ls hl Q hret => ?_)
  have hl : lv_has ls 1 [(0, .int x)] := hl
  refine lv_iload_n F.1 F.2.1 d_MO_legal_0 rfl (lv_at hl 0 rfl) ?_
  refine lv_if_le (tgt := 35) F.1 F.2.1 d_MO_legal_1 (by decide) (fun c1 => ?_) (fun c1 => ?_)
  · refine lv_iconst (v := 0) F.1 F.2.1 d_MO_legal_35 (by decide) ?_
    exact hret _ _ _ d_MO_legal_36 (by simp only [pj_rem, mo_legal]; simp [x_b, c1])
  · refine lv_iload_n F.1 F.2.1 d_MO_legal_4 rfl (lv_at hl 0 rfl) ?_
    refine lv_bipush (v := 125) F.1 F.2.1 d_MO_legal_5 (by decide) ?_
    refine lv_icmp_ge (tgt := 35) F.1 F.2.1 d_MO_legal_7 (by decide) (fun c7 => ?_) (fun c7 => ?_)
    · refine lv_iconst (v := 0) F.1 F.2.1 d_MO_legal_35 (by decide) ?_
      exact hret _ _ _ d_MO_legal_36 (by simp only [pj_rem, mo_legal]; simp [x_b, c1, c7])
    · refine lv_iload_n F.1 F.2.1 d_MO_legal_10 rfl (lv_at hl 0 rfl) ?_
      refine lv_bipush (v := 25) F.1 F.2.1 d_MO_legal_11 (by decide) ?_
      refine lv_idiv F.1 F.2.1 d_MO_legal_13 (by decide) ?_
      refine lv_if_le (tgt := 35) F.1 F.2.1 d_MO_legal_14 (by decide) (fun c14 => ?_) (fun c14 => ?_)
      · refine lv_iconst (v := 0) F.1 F.2.1 d_MO_legal_35 (by decide) ?_
        exact hret _ _ _ d_MO_legal_36 (by simp only [pj_rem, mo_legal]; simp [x_b, c1, c7, c14])
      · refine lv_iload_n F.1 F.2.1 d_MO_legal_17 rfl (lv_at hl 0 rfl) ?_
        refine lv_iconst (v := 5) F.1 F.2.1 d_MO_legal_18 (by decide) ?_
        refine lv_idiv F.1 F.2.1 d_MO_legal_19 (by decide) ?_
        refine lv_iconst (v := 5) F.1 F.2.1 d_MO_legal_20 (by decide) ?_
        refine lv_irem F.1 F.2.1 d_MO_legal_21 (by decide) ?_
        refine lv_if_gt (tgt := 31) F.1 F.2.1 d_MO_legal_22 (by decide) (fun c22 => ?_) (fun c22 => ?_)
        · refine lv_iconst (v := 1) F.1 F.2.1 d_MO_legal_31 (by decide) ?_
          refine lv_goto (tgt := 36) F.1 F.2.1 d_MO_legal_32 (by decide) ?_
          exact hret _ _ _ d_MO_legal_36 (by simp only [pj_rem, mo_legal]; simp [x_b, c1, c7, c14, c22])
        · refine lv_iload_n F.1 F.2.1 d_MO_legal_25 rfl (lv_at hl 0 rfl) ?_
          refine lv_iconst (v := 5) F.1 F.2.1 d_MO_legal_26 (by decide) ?_
          refine lv_irem F.1 F.2.1 d_MO_legal_27 (by decide) ?_
          refine lv_if_ne (tgt := 35) F.1 F.2.1 d_MO_legal_28 (by decide) (fun c28 => ?_) (fun c28 => ?_)
          · refine lv_iconst (v := 0) F.1 F.2.1 d_MO_legal_35 (by decide) ?_
            exact hret _ _ _ d_MO_legal_36 (by simp only [pj_rem, mo_legal]; simp [x_b, c1, c7, c14, c22, c28])
          · refine lv_iconst (v := 1) F.1 F.2.1 d_MO_legal_31 (by decide) ?_
            refine lv_goto (tgt := 36) F.1 F.2.1 d_MO_legal_32 (by decide) ?_
            exact hret _ _ _ d_MO_legal_36 (by simp only [pj_rem, mo_legal]; simp [x_b, c1, c7, c14, c22, c28])
def mo_head (x n : Int32) : Int32 := if n = 0 then 0 else if n = 1 then x / 25 * 25 else if n = 2 then x / 5 * 5 else x
theorem c_MO_head (l : Launch) (G : x_G) (x n : Int32) : Met l y_MO_head (x_ws y_MO_head b_MO_head 2 (some .int)) (x_rm 0 0 0) (x_P G [.int x, .int n] (fun _ => True)) (k2_QcV (.int (mo_head x n))) 0 0 (fun _ => False) := by
  refine x_mI (by decide +kernel) (Nat.le_of_ble_eq_true rfl) (fun p e s m args below meth c F hK hP ls hl Q hret => ?_)
  have hl : lv_has ls 2 [(0, .int x), (1, .int n)] := hl
  refine lv_iload_n F.1 F.2.1 d_MO_head_0 rfl (lv_at hl 1 rfl) ?_
  refine lv_if_ne (tgt := 8) F.1 F.2.1 d_MO_head_1 (by decide) (fun c1 => ?_) (fun c1 => ?_)
  · refine lv_iload_n F.1 F.2.1 d_MO_head_8 rfl (lv_at hl 1 rfl) ?_
    refine lv_iconst (v := 1) F.1 F.2.1 d_MO_head_9 (by decide) ?_
    refine lv_icmp_ne (tgt := 23) F.1 F.2.1 d_MO_head_10 (by decide) (fun c10 => ?_) (fun c10 => ?_)
    · refine lv_iload_n F.1 F.2.1 d_MO_head_23 rfl (lv_at hl 1 rfl) ?_
      refine lv_iconst (v := 2) F.1 F.2.1 d_MO_head_24 (by decide) ?_
      refine lv_icmp_ne (tgt := 36) F.1 F.2.1 d_MO_head_25 (by decide) (fun c25 => ?_) (fun c25 => ?_)
      · refine lv_iload_n F.1 F.2.1 d_MO_head_36 rfl (lv_at hl 0 rfl) ?_
        exact hret _ _ _ d_MO_head_37 (by unfold mo_head; simp_all)
      · refine lv_iload_n F.1 F.2.1 d_MO_head_28 rfl (lv_at hl 0 rfl) ?_
        refine lv_iconst (v := 5) F.1 F.2.1 d_MO_head_29 (by decide) ?_
        refine lv_idiv F.1 F.2.1 d_MO_head_30 (by decide) ?_
        refine lv_iconst (v := 5) F.1 F.2.1 d_MO_head_31 (by decide) ?_
        refine lv_imul F.1 F.2.1 d_MO_head_32 ?_
        refine lv_goto (tgt := 37) F.1 F.2.1 d_MO_head_33 (by decide) ?_
        exact hret _ _ _ d_MO_head_37 (by unfold mo_head; simp_all)
    · refine lv_iload_n F.1 F.2.1 d_MO_head_13 rfl (lv_at hl 0 rfl) ?_
      refine lv_bipush (v := 25) F.1 F.2.1 d_MO_head_14 (by decide) ?_
      refine lv_idiv F.1 F.2.1 d_MO_head_16 (by decide) ?_
      refine lv_bipush (v := 25) F.1 F.2.1 d_MO_head_17 (by decide) ?_
      refine lv_imul F.1 F.2.1 d_MO_head_19 ?_
      refine lv_goto (tgt := 37) F.1 F.2.1 d_MO_head_20 (by decide) ?_
      exact hret _ _ _ d_MO_head_37 (by unfold mo_head; simp_all)
  · refine lv_iconst (v := 0) F.1 F.2.1 d_MO_head_4 (by decide) ?_
    refine lv_goto (tgt := 37) F.1 F.2.1 d_MO_head_5 (by decide) ?_
    exact hret _ _ _ d_MO_head_37 (by unfold mo_head; simp_all)
def mo_above (x : Int32) : Int32 := mo_head x (pj_names x - 1)
theorem c_MO_above (l : Launch) (G : x_G) (x : Int32) : Met l y_MO_above (x_ws y_MO_above b_MO_above 1 (some .int)) (x_rm 1 0 0) (x_P G [.int x] (fun _ => True)) (k2_QcV (.int (mo_above x))) 0 0 (fun _ => False) := by
  refine x_mI (by decide +kernel) (Nat.le_of_ble_eq_true rfl) (fun p e s m args below meth c F hK hP ls hl Q hret => ?_)
  have hl : lv_has ls 1 [(0, .int x)] := hl
  refine lv_iload_n F.1 F.2.1 d_MO_above_0 rfl (lv_at hl 0 rfl) ?_
  refine lv_iload_n F.1 F.2.1 d_MO_above_1 rfl (lv_at hl 0 rfl) ?_
  refine x_rd (x_S (n := 1) (As := [.int x]) F (c_MO_depth l G x) ok_MO_depth k531 ⟨Nat.le_of_ble_eq_true rfl, Nat.le_of_ble_eq_true rfl⟩ rfl rfl hK (trivial) rfl hl.1 rfl (Nat.le_of_ble_eq_true rfl) d_MO_above_2 ⟨Nat.le_of_ble_eq_true rfl, Nat.le_of_ble_eq_true rfl⟩) ?_
  refine lv_iconst (v := 1) F.1 F.2.1 d_MO_above_5 (by decide) ?_
  refine lv_isub F.1 F.2.1 d_MO_above_6 ?_
  refine x_rd (x_S (n := 2) (As := [.int x, .int ((pj_names x) - 1)]) F (c_MO_head l G x ((pj_names x) - 1)) ok_MO_head k534 ⟨Nat.le_of_ble_eq_true rfl, Nat.le_of_ble_eq_true rfl⟩ rfl rfl hK (trivial) rfl hl.1 rfl (Nat.le_of_ble_eq_true rfl) d_MO_above_7 ⟨Nat.le_of_ble_eq_true rfl, Nat.le_of_ble_eq_true rfl⟩) ?_
  exact hret _ _ _ d_MO_above_10 (rfl)
def mo_below (q x : Int32) : Bool := mo_legal q && !decide (pj_names q ≤ pj_names x) && decide (mo_head q (pj_names x) = x)
theorem c_MO_below (l : Launch) (G : x_G) (q x : Int32) : Met l y_MO_below (x_ws y_MO_below b_MO_below 2 (some .boolean)) (x_rm 1 0 0) (x_P G [.int q, .int x] (fun _ => True)) (k2_QcV (.int (x_b (mo_below q x)))) 0 0 (fun _ => False) := by
  refine x_mZ (by decide +kernel) (Nat.le_of_ble_eq_true rfl) (fun p e s m args below meth c F hK hP ls hl Q hret => ?_)
  have hl : lv_has ls 2 [(0, .int q), (1, .int x)] := hl
  refine lv_iload_n F.1 F.2.1 d_MO_below_0 rfl (lv_at hl 0 rfl) ?_
  refine x_rd (x_S (n := 1) (As := [.int q]) F (c_MO_legal l G q) ok_MO_legal k516 ⟨Nat.le_of_ble_eq_true rfl, Nat.le_of_ble_eq_true rfl⟩ rfl rfl hK (trivial) rfl hl.1 rfl (Nat.le_of_ble_eq_true rfl) d_MO_below_1 ⟨Nat.le_of_ble_eq_true rfl, Nat.le_of_ble_eq_true rfl⟩) ?_
  refine x_beq (tgt := 34) F d_MO_below_4 (by decide) (fun c4 => ?_) (fun c4 => ?_)
  · refine lv_iconst (v := 0) F.1 F.2.1 d_MO_below_34 (by decide) ?_
    exact hret _ _ _ d_MO_below_35 (by simp [mo_below, x_b, c4])
  · refine lv_iload_n F.1 F.2.1 d_MO_below_7 rfl (lv_at hl 0 rfl) ?_
    refine x_rd (x_S (n := 1) (As := [.int q]) F (c_MO_depth l G q) ok_MO_depth k531 ⟨Nat.le_of_ble_eq_true rfl, Nat.le_of_ble_eq_true rfl⟩ rfl rfl hK (trivial) rfl hl.1 rfl (Nat.le_of_ble_eq_true rfl) d_MO_below_8 ⟨Nat.le_of_ble_eq_true rfl, Nat.le_of_ble_eq_true rfl⟩) ?_
    refine lv_iload_n F.1 F.2.1 d_MO_below_11 rfl (lv_at hl 1 rfl) ?_
    refine x_rd (x_S (n := 1) (As := [.int x]) F (c_MO_depth l G x) ok_MO_depth k531 ⟨Nat.le_of_ble_eq_true rfl, Nat.le_of_ble_eq_true rfl⟩ rfl rfl hK (trivial) rfl hl.1 rfl (Nat.le_of_ble_eq_true rfl) d_MO_below_12 ⟨Nat.le_of_ble_eq_true rfl, Nat.le_of_ble_eq_true rfl⟩) ?_
    refine lv_icmp_le (tgt := 34) F.1 F.2.1 d_MO_below_15 (by decide) (fun c15 => ?_) (fun c15 => ?_)
    · refine lv_iconst (v := 0) F.1 F.2.1 d_MO_below_34 (by decide) ?_
      exact hret _ _ _ d_MO_below_35 (by simp [mo_below, x_b, c4, c15])
    · refine lv_iload_n F.1 F.2.1 d_MO_below_18 rfl (lv_at hl 0 rfl) ?_
      refine lv_iload_n F.1 F.2.1 d_MO_below_19 rfl (lv_at hl 1 rfl) ?_
      refine x_rd (x_S (n := 1) (As := [.int x]) F (c_MO_depth l G x) ok_MO_depth k531 ⟨Nat.le_of_ble_eq_true rfl, Nat.le_of_ble_eq_true rfl⟩ rfl rfl hK (trivial) rfl hl.1 rfl (Nat.le_of_ble_eq_true rfl) d_MO_below_20 ⟨Nat.le_of_ble_eq_true rfl, Nat.le_of_ble_eq_true rfl⟩) ?_
      refine x_rd (x_S (n := 2) (As := [.int q, .int (pj_names x)]) F (c_MO_head l G q (pj_names x)) ok_MO_head k534 ⟨Nat.le_of_ble_eq_true rfl, Nat.le_of_ble_eq_true rfl⟩ rfl rfl hK (trivial) rfl hl.1 rfl (Nat.le_of_ble_eq_true rfl) d_MO_below_23 ⟨Nat.le_of_ble_eq_true rfl, Nat.le_of_ble_eq_true rfl⟩) ?_
      refine lv_iload_n F.1 F.2.1 d_MO_below_26 rfl (lv_at hl 1 rfl) ?_
      refine lv_icmp_ne (tgt := 34) F.1 F.2.1 d_MO_below_27 (by decide) (fun c27 => ?_) (fun c27 => ?_)
      · refine lv_iconst (v := 0) F.1 F.2.1 d_MO_below_34 (by decide) ?_
        exact hret _ _ _ d_MO_below_35 (by simp [mo_below, x_b, c4, c15, c27])
      · refine lv_iconst (v := 1) F.1 F.2.1 d_MO_below_30 (by decide) ?_
        refine lv_goto (tgt := 35) F.1 F.2.1 d_MO_below_31 (by decide) ?_
        exact hret _ _ _ d_MO_below_35 (by simp [mo_below, x_b, c4, c15, c27])
def mo_name (x k : Int32) : Int32 := if k = 0 then x / 25 else if k = 1 then pj_rem (x / 5) 5 else pj_rem x 5
theorem c_MO_name (l : Launch) (G : x_G) (x k : Int32) : Met l y_MO_name (x_ws y_MO_name b_MO_name 2 (some .int)) (x_rm 0 0 0) (x_P G [.int x, .int k] (fun _ => True)) (k2_QcV (.int (mo_name x k))) 0 0 (fun _ => False) := by
  refine x_mI (by decide +kernel) (Nat.le_of_ble_eq_true rfl) (fun p e s m args below meth c F hK hP ls hl Q hret => ?_)
  have hl : lv_has ls 2 [(0, .int x), (1, .int k)] := hl
  refine lv_iload_n F.1 F.2.1 d_MO_name_0 rfl (lv_at hl 1 rfl) ?_
  refine lv_if_ne (tgt := 11) F.1 F.2.1 d_MO_name_1 (by decide) (fun c1 => ?_) (fun c1 => ?_)
  · refine lv_iload_n F.1 F.2.1 d_MO_name_11 rfl (lv_at hl 1 rfl) ?_
    refine lv_iconst (v := 1) F.1 F.2.1 d_MO_name_12 (by decide) ?_
    refine lv_icmp_ne (tgt := 24) F.1 F.2.1 d_MO_name_13 (by decide) (fun c13 => ?_) (fun c13 => ?_)
    · refine lv_iload_n F.1 F.2.1 d_MO_name_24 rfl (lv_at hl 0 rfl) ?_
      refine lv_iconst (v := 5) F.1 F.2.1 d_MO_name_25 (by decide) ?_
      refine lv_irem F.1 F.2.1 d_MO_name_26 (by decide) ?_
      exact hret _ _ _ d_MO_name_27 (by unfold mo_name pj_rem; simp_all)
    · refine lv_iload_n F.1 F.2.1 d_MO_name_16 rfl (lv_at hl 0 rfl) ?_
      refine lv_iconst (v := 5) F.1 F.2.1 d_MO_name_17 (by decide) ?_
      refine lv_idiv F.1 F.2.1 d_MO_name_18 (by decide) ?_
      refine lv_iconst (v := 5) F.1 F.2.1 d_MO_name_19 (by decide) ?_
      refine lv_irem F.1 F.2.1 d_MO_name_20 (by decide) ?_
      refine lv_goto (tgt := 27) F.1 F.2.1 d_MO_name_21 (by decide) ?_
      exact hret _ _ _ d_MO_name_27 (by unfold mo_name pj_rem; simp_all)
  · refine lv_iload_n F.1 F.2.1 d_MO_name_4 rfl (lv_at hl 0 rfl) ?_
    refine lv_bipush (v := 25) F.1 F.2.1 d_MO_name_5 (by decide) ?_
    refine lv_idiv F.1 F.2.1 d_MO_name_7 (by decide) ?_
    refine lv_goto (tgt := 27) F.1 F.2.1 d_MO_name_8 (by decide) ?_
    exact hret _ _ _ d_MO_name_27 (by unfold mo_name pj_rem; simp_all)
abbrev wABS : Int64 := 10000000000
abbrev wDIR : Int64 := 10000000001
abbrev wGON : Int64 := 10000000002
abbrev wNON : Int64 := 10000000003
def mo_file (w : Int64) : Bool := !decide (w = wABS) && !decide (w = wDIR)
theorem c_MO_file (l : Launch) (G : x_G) (w : Int64) : Met l y_MO_file (x_ws y_MO_file b_MO_file 2 (some .boolean)) (x_rm 0 0 0) (x_P G [.long w] (fun _ => True)) (k2_QcV (.int (x_b (mo_file w)))) 0 0 (fun _ => False) := by
  refine x_mZ (by decide +kernel) (Nat.le_of_ble_eq_true rfl) (fun p e s m args below meth c F hK hP ls hl Q hret => ?_)
  have hl : lv_has ls 2 [(0, .long w)] := hl
  refine lv_lload_n F.1 F.2.1 d_MO_file_0 rfl (lv_at hl 0 rfl) ?_
  refine x_cst F k478 d_MO_file_1 ?_
  refine x_leq (tgt := 20) F d_MO_file_4 d_MO_file_5 (by decide) (fun c4 => ?_) (fun c4 => ?_)
  · refine lv_iconst (v := 0) F.1 F.2.1 d_MO_file_20 (by decide) ?_
    exact hret _ _ _ d_MO_file_21 (by simp_all [mo_file, x_b])
  · refine lv_lload_n F.1 F.2.1 d_MO_file_8 rfl (lv_at hl 0 rfl) ?_
    refine x_cst F k477 d_MO_file_9 ?_
    refine x_leq (tgt := 20) F d_MO_file_12 d_MO_file_13 (by decide) (fun c12 => ?_) (fun c12 => ?_)
    · refine lv_iconst (v := 0) F.1 F.2.1 d_MO_file_20 (by decide) ?_
      exact hret _ _ _ d_MO_file_21 (by simp_all [mo_file, x_b])
    · refine lv_iconst (v := 1) F.1 F.2.1 d_MO_file_16 (by decide) ?_
      refine lv_goto (tgt := 21) F.1 F.2.1 d_MO_file_17 (by decide) ?_
      exact hret _ _ _ d_MO_file_21 (by simp_all [mo_file, x_b])
def mo_badTag (s t : Int32) : Bool := decide (s < 0) || decide (1 < s) || decide (t < 0) || !decide (t ≤ 5)
theorem c_MO_badTag (l : Launch) (G : x_G) (s0 t : Int32) : Met l y_MO_badTag (x_ws y_MO_badTag b_MO_badTag 2 (some .boolean)) (x_rm 0 0 0) (x_P G [.int s0, .int t] (fun _ => True)) (k2_QcV (.int (x_b (mo_badTag s0 t)))) 0 0 (fun _ => False) := by
  refine x_mZ (by decide +kernel) (Nat.le_of_ble_eq_true rfl) (fun p e s m args below meth c F hK hP ls hl Q hret => ?_)
  have hl : lv_has ls 2 [(0, .int s0), (1, .int t)] := hl
  refine lv_iload_n F.1 F.2.1 d_MO_badTag_0 rfl (lv_at hl 0 rfl) ?_
  refine lv_if_lt (tgt := 18) F.1 F.2.1 d_MO_badTag_1 (by decide) (fun c1 => ?_) (fun c1 => ?_)
  · refine lv_iconst (v := 1) F.1 F.2.1 d_MO_badTag_18 (by decide) ?_
    refine lv_goto (tgt := 23) F.1 F.2.1 d_MO_badTag_19 (by decide) ?_
    exact hret _ _ _ d_MO_badTag_23 (by simp [mo_badTag, x_b, c1])
  · refine lv_iload_n F.1 F.2.1 d_MO_badTag_4 rfl (lv_at hl 0 rfl) ?_
    refine lv_iconst (v := 1) F.1 F.2.1 d_MO_badTag_5 (by decide) ?_
    refine lv_icmp_gt (tgt := 18) F.1 F.2.1 d_MO_badTag_6 (by decide) (fun c6 => ?_) (fun c6 => ?_)
    · refine lv_iconst (v := 1) F.1 F.2.1 d_MO_badTag_18 (by decide) ?_
      refine lv_goto (tgt := 23) F.1 F.2.1 d_MO_badTag_19 (by decide) ?_
      exact hret _ _ _ d_MO_badTag_23 (by simp [mo_badTag, x_b, c1, c6])
    · refine lv_iload_n F.1 F.2.1 d_MO_badTag_9 rfl (lv_at hl 1 rfl) ?_
      refine lv_if_lt (tgt := 18) F.1 F.2.1 d_MO_badTag_10 (by decide) (fun c10 => ?_) (fun c10 => ?_)
      · refine lv_iconst (v := 1) F.1 F.2.1 d_MO_badTag_18 (by decide) ?_
        refine lv_goto (tgt := 23) F.1 F.2.1 d_MO_badTag_19 (by decide) ?_
        exact hret _ _ _ d_MO_badTag_23 (by simp [mo_badTag, x_b, c1, c6, c10])
      · refine lv_iload_n F.1 F.2.1 d_MO_badTag_13 rfl (lv_at hl 1 rfl) ?_
        refine lv_iconst (v := 5) F.1 F.2.1 d_MO_badTag_14 (by decide) ?_
        refine lv_icmp_le (tgt := 22) F.1 F.2.1 d_MO_badTag_15 (by decide) (fun c15 => ?_) (fun c15 => ?_)
        · refine lv_iconst (v := 0) F.1 F.2.1 d_MO_badTag_22 (by decide) ?_
          exact hret _ _ _ d_MO_badTag_23 (by simp [mo_badTag, x_b, c1, c6, c10, c15])
        · refine lv_iconst (v := 1) F.1 F.2.1 d_MO_badTag_18 (by decide) ?_
          refine lv_goto (tgt := 23) F.1 F.2.1 d_MO_badTag_19 (by decide) ?_
          exact hret _ _ _ d_MO_badTag_23 (by simp [mo_badTag, x_b, c1, c6, c10, c15])

