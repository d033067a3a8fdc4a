/-! ===== the model: entries, common, shared ===== -/
theorem owB_le {par : Nat → Nat} (h : ∀ i, 0 < i → par i < i) (i : Nat) (x : Int32) : owB par i x ≤ i := by
  unfold owB
  split
  · exact Nat.zero_le _
  · rw [List.getD_eq_getElem?_getD]
    cases hq : (cn par i)[x.toNatClampNeg]? with
    | none => exact Nat.zero_le _
    | some j => exact (cn_mem h i i (Nat.le_refl _) j (List.mem_of_getElem? hq)).2
theorem getD_out {L : List Nat} {k : Nat} (h : L.length ≤ k) : L.getD k 0 = 0 := by
  rw [List.getD_eq_getElem?_getD, List.getElem?_eq_none h]; rfl
theorem owB_n {par : Nat → Nat} {i n : Nat} (hl : (cn par i).length < 2 ^ 31) (h : n < 2 ^ 31) : owB par i (nI n) = (cn par i).getD n 0 := by
  unfold owB
  by_cases q : n < (cn par i).length
  · rw [if_neg (by rintro (z | z); exact nI_pos h z; exact z ((nI_ltI h hl).mpr q)), nI_clamp h]
  · rw [if_pos (Or.inr (fun z => q ((nI_ltI h hl).mp z))), getD_out (by omega)]
theorem gp_lt {σ : Sg} (hok : gI σ) {j : Nat} (hj : j < 40) : gp σ j < 40 := by
  rcases Nat.eq_zero_or_pos j with rfl | q
  · rw [hok.2]; decide
  · have := hok.1.2.2.1 j q; omega
def entS (σ : Sg) (x y : Int32) : Int32 := if (isB σ x && !decide (owB (gp σ) x.toNatClampNeg y = 0)) = true then nI (eI σ (owB (gp σ) x.toNatClampNeg y) 125).length else -1
theorem c_MO_entries (l : Launch) (G : x_G) (ad : Nat → Nat) (σ : Sg) (wk : Nat → Int64) (ch : Nat → Bool) (x y : Int32) (hok : gI σ) : Met l y_MO_entries (x_ws y_MO_entries b_MO_entries 3 (some .int)) (x_rm 4 0 0) (x_P G [.ref (ad 0), .int x, .int y] (MO G ad σ wk ch)) (k2_QcV (.int (entS σ x y))) 0 0 (fun _ => False) := by
  refine x_mI (by decide +kernel) (Nat.le_of_ble_eq_true rfl) (fun p e s m args below meth c F hK hP ls hl Q hret => ?_)
  have hl : lv_has ls 3 [(0, .ref (ad 0)), (1, .int x), (2, .int y)] := hl
  have hn40 := hok.1.2.1
  have hpr := hok.1.2.2.1
  have hO := hP.1
  refine lv_aload_n F.1 F.2.1 d_MO_entries_0 rfl (lv_at hl 0 rfl) ?_
  refine lv_iload_n F.1 F.2.1 d_MO_entries_1 rfl (lv_at hl 1 rfl) ?_
  refine x_rd (x_V (n := 1) (As := [.int x]) F (c_MO_is l G ad σ wk ch x) ok_MO_is k512 ⟨Nat.le_of_ble_eq_true rfl, Nat.le_of_ble_eq_true rfl⟩ rfl rfl hK (x_rcv hK hO rfl) (hP) rfl hl.1 rfl (Nat.le_of_ble_eq_true rfl) d_MO_entries_2 ⟨Nat.le_of_ble_eq_true rfl, Nat.le_of_ble_eq_true rfl⟩) ?_
  refine x_beq (tgt := 17) F d_MO_entries_5 (by decide) (fun c5 => ?_) (fun c5 => ?_)
  · refine lv_iconst (v := (-1)) F.1 F.2.1 d_MO_entries_17 (by decide) ?_
    exact hret _ _ _ d_MO_entries_18 (by unfold entS; rw [c5]; rfl)
  · have c5' := c5
    obtain ⟨i, hi, rfl⟩ := isB_of hn40 c5
    have hci : (nI i).toNatClampNeg = i := nI_clamp (by omega)
    have hol := owB_le hpr i y
    refine lv_aload_n F.1 F.2.1 d_MO_entries_8 rfl (lv_at hl 0 rfl) ?_
    refine lv_iload_n F.1 F.2.1 d_MO_entries_9 rfl (lv_at hl 1 rfl) ?_
    refine lv_iload_n F.1 F.2.1 d_MO_entries_10 rfl (lv_at hl 2 rfl) ?_
    refine x_rd (x_V (n := 2) (As := [.int (nI i), .int y]) F (c_MO_owner l G ad σ wk ch i y (by omega) hpr) ok_MO_owner k661 ⟨Nat.le_of_ble_eq_true rfl, Nat.le_of_ble_eq_true rfl⟩ rfl rfl hK (x_rcv hK hO rfl) (hP) rfl hl.1 rfl (Nat.le_of_ble_eq_true rfl) d_MO_entries_11 ⟨Nat.le_of_ble_eq_true rfl, Nat.le_of_ble_eq_true rfl⟩) ?_
    refine lv_if_ne (tgt := 19) F.1 F.2.1 d_MO_entries_14 (by decide) (fun c14 => ?_) (fun c14 => ?_)
    · have c14 := mt (pN_eqI (a := (owB (gp σ) i y)) (b := 0) rfl rfl (by omega) (by omega)).mpr c14
      refine lv_aload_n F.1 F.2.1 d_MO_entries_19 rfl (lv_at hl 0 rfl) ?_
      refine lv_aload_n F.1 F.2.1 d_MO_entries_20 rfl (lv_at hl 0 rfl) ?_
      refine lv_iload_n F.1 F.2.1 d_MO_entries_21 rfl (lv_at hl 1 rfl) ?_
      refine lv_iload_n F.1 F.2.1 d_MO_entries_22 rfl (lv_at hl 2 rfl) ?_
      refine x_rd (x_V (n := 2) (As := [.int (nI i), .int y]) F (c_MO_owner l G ad σ wk ch i y (by omega) hpr) ok_MO_owner k661 ⟨Nat.le_of_ble_eq_true rfl, Nat.le_of_ble_eq_true rfl⟩ rfl rfl hK (x_rcv hK hO rfl) (hP) rfl hl.1 rfl (Nat.le_of_ble_eq_true rfl) d_MO_entries_23 ⟨Nat.le_of_ble_eq_true rfl, Nat.le_of_ble_eq_true rfl⟩) ?_
      refine x_rd (x_V (n := 1) (As := [.int (nI (owB (gp σ) i y))]) F (c_MO_size l G ad σ wk ch (owB (gp σ) i y) (by omega) (gp_lt hok (by omega))) ok_MO_size k625 ⟨Nat.le_of_ble_eq_true rfl, Nat.le_of_ble_eq_true rfl⟩ rfl rfl hK (x_rcv hK hO rfl) (hP) rfl hl.1 rfl (Nat.le_of_ble_eq_true rfl) d_MO_entries_26 ⟨Nat.le_of_ble_eq_true rfl, Nat.le_of_ble_eq_true rfl⟩) ?_
      exact hret _ _ _ d_MO_entries_29 (by unfold entS; rw [c5', hci, decide_eq_false c14]; rfl)
    · have c14 := (pN_eqI (a := (owB (gp σ) i y)) (b := 0) rfl rfl (by omega) (by omega)).mp c14
      refine lv_iconst (v := (-1)) F.1 F.2.1 d_MO_entries_17 (by decide) ?_
      exact hret _ _ _ d_MO_entries_18 (by unfold entS; rw [hci, decide_eq_true c14, c5']; rfl)
theorem eI_pre (σ : Sg) (i : Nat) {k n : Nat} (h : k ≤ n) : ∃ t, eI σ i n = eI σ i k ++ t := by
  obtain ⟨d, rfl⟩ : ∃ d, n = k + d := ⟨n - k, by omega⟩
  clear h
  induction d with
  | zero => exact ⟨[], by rw [List.append_nil]; rfl⟩
  | succ d ih =>
    obtain ⟨t, ht⟩ := ih
    by_cases hg : lg (k + d) = true ∧ mkI σ i (k + d) ≠ wNON
    · exact ⟨t ++ [k + d], by rw [show k + (d + 1) = (k + d) + 1 from rfl, eI_s σ i hg.1 hg.2, ht, List.append_assoc]⟩
    · refine ⟨t, ?_⟩
      rw [show k + (d + 1) = (k + d) + 1 from rfl, eI_n σ i ?_, ht]
      cases hl : lg (k + d) with
      | false => exact Or.inl rfl
      | true =>
        refine Or.inr ?_
        by_cases hm : mkI σ i (k + d) = wNON
        · exact hm
        · exact absurd ⟨hl, hm⟩ hg
def eptS (σ : Sg) (x y z : Int32) : Int32 := if (isB σ x && !decide (owB (gp σ) x.toNatClampNeg y = 0) && !decide (z < 0)) = true then (if z.toNatClampNeg < (eI σ (owB (gp σ) x.toNatClampNeg y) 125).length then nI ((eI σ (owB (gp σ) x.toNatClampNeg y) 125).getD z.toNatClampNeg 0) else -1) else -1
theorem c_MO_entryPath (l : Launch) (G : x_G) (ad : Nat → Nat) (σ : Sg) (wk : Nat → Int64) (ch : Nat → Bool) (x y z : Int32) (hok : gI σ) : Met l y_MO_entryPath (x_ws y_MO_entryPath b_MO_entryPath 7 (some .int)) (x_rm 3 0 0) (x_P G [.ref (ad 0), .int x, .int y, .int z] (MO G ad σ wk ch)) (k2_QcV (.int (eptS σ x y z))) 0 0 (fun _ => False) := by
  refine x_mI (by decide +kernel) (Nat.le_of_ble_eq_true rfl) (fun p e s m args below meth c F hK hP ls hl Q hret => ?_)
  have hl : lv_has ls 7 [(0, .ref (ad 0)), (1, .int x), (2, .int y), (3, .int z)] := hl
  have hn40 := hok.1.2.1
  have hpr := hok.1.2.2.1
  have hO := hP.1
  refine lv_aload_n F.1 F.2.1 d_MO_entryPath_0 rfl (lv_at hl 0 rfl) ?_
  refine lv_iload_n F.1 F.2.1 d_MO_entryPath_1 rfl (lv_at hl 1 rfl) ?_
  refine x_rd (x_V (n := 1) (As := [.int x]) F (c_MO_is l G ad σ wk ch x) ok_MO_is k512 ⟨Nat.le_of_ble_eq_true rfl, Nat.le_of_ble_eq_true rfl⟩ rfl rfl hK (x_rcv hK hO rfl) (hP) rfl hl.1 rfl (Nat.le_of_ble_eq_true rfl) d_MO_entryPath_2 ⟨Nat.le_of_ble_eq_true rfl, Nat.le_of_ble_eq_true rfl⟩) ?_
  refine x_beq (tgt := 21) F d_MO_entryPath_5 (by decide) (fun c5 => ?_) (fun c5 => ?_)
  · refine lv_iconst (v := (-1)) F.1 F.2.1 d_MO_entryPath_21 (by decide) ?_
    exact hret _ _ _ d_MO_entryPath_22 (by unfold eptS; rw [c5]; rfl)
  · have c5' := c5
    obtain ⟨i, hi, rfl⟩ := isB_of hn40 c5
    have hci : (nI i).toNatClampNeg = i := nI_clamp (by omega)
    have hol := owB_le hpr i y
    generalize hoo : owB (gp σ) i y = o at hol
    refine lv_aload_n F.1 F.2.1 d_MO_entryPath_8 rfl (lv_at hl 0 rfl) ?_
    refine lv_iload_n F.1 F.2.1 d_MO_entryPath_9 rfl (lv_at hl 1 rfl) ?_
    refine lv_iload_n F.1 F.2.1 d_MO_entryPath_10 rfl (lv_at hl 2 rfl) ?_
    refine x_rd (x_V (n := 2) (As := [.int (nI i), .int y]) F (c_MO_owner l G ad σ wk ch i y (by omega) hpr) ok_MO_owner k661 ⟨Nat.le_of_ble_eq_true rfl, Nat.le_of_ble_eq_true rfl⟩ rfl rfl hK (x_rcv hK hO rfl) (hP) rfl hl.1 rfl (Nat.le_of_ble_eq_true rfl) d_MO_entryPath_11 ⟨Nat.le_of_ble_eq_true rfl, Nat.le_of_ble_eq_true rfl⟩) ?_
    rw [hoo]
    refine lv_if_eq (tgt := 21) F.1 F.2.1 d_MO_entryPath_14 (by decide) (fun c14 => ?_) (fun c14 => ?_)
    · have c14 := (pN_eqI (a := o) (b := 0) rfl rfl (by omega) (by omega)).mp c14
      refine lv_iconst (v := (-1)) F.1 F.2.1 d_MO_entryPath_21 (by decide) ?_
      exact hret _ _ _ d_MO_entryPath_22 (by unfold eptS; rw [hci, hoo, decide_eq_true c14, c5']; rfl)
    · have c14 := mt (pN_eqI (a := o) (b := 0) rfl rfl (by omega) (by omega)).mpr c14
      refine lv_iload_n F.1 F.2.1 d_MO_entryPath_17 rfl (lv_at hl 3 rfl) ?_
      refine lv_if_ge (tgt := 23) F.1 F.2.1 d_MO_entryPath_18 (by decide) (fun c18 => ?_) (fun c18 => ?_)
      · have hz : ¬ z < 0 := Int32.not_lt.mpr c18
        obtain ⟨j, hj, rfl⟩ := nI_of hz
        have hcj : (nI j).toNatClampNeg = j := nI_clamp hj
        have hpo := gp_lt hok (show o < 40 by omega)
        have hv : eptS σ (nI i) y (nI j) = if j < (eI σ o 125).length then nI ((eI σ o 125).getD j 0) else -1 := by unfold eptS; rw [c5', hci, hoo, hcj, decide_eq_false c14, decide_eq_false hz]; rfl
        have loop : ∀ (n k : Nat), k + n = 125 → (eI σ o k).length ≤ j → ∀ ls : Array Slot, lv_has ls 7 [(6, .int (nI k)), (5, .int (nI (j - (eI σ o k).length))), (4, .int (nI o)), (0, .ref (ad 0)), (1, .int (nI i)), (2, .int y), (3, .int (nI j))] → W p l e (x_rm 3 0 0) s m args below meth c s.heap [] 0 0 Q (F0 m 37 ls []) := by
          intro n
          induction n with
          | zero =>
            intro k hn hle ls hl
            obtain rfl : k = 125 := by omega
            refine lv_iload F.1 F.2.1 d_MO_entryPath_37 (lv_at hl 0 rfl) ?_
            refine lv_bipush (v := 125) F.1 F.2.1 d_MO_entryPath_39 (by decide) ?_
            refine lv_icmp_ge (tgt := 87) F.1 F.2.1 d_MO_entryPath_41 (by decide) (fun _ => ?_) (fun zq => absurd (pN_le (a := 125) (b := 125) rfl rfl (by omega) (by omega) (by omega)) zq)
            refine lv_iconst (v := (-1)) F.1 F.2.1 d_MO_entryPath_87 (by decide) ?_
            exact hret _ _ _ d_MO_entryPath_88 (by rw [hv, if_neg (by omega)])
          | succ n ih =>
            intro k hn hle ls hl
            refine lv_iload F.1 F.2.1 d_MO_entryPath_37 (lv_at hl 0 rfl) ?_
            refine lv_bipush (v := 125) F.1 F.2.1 d_MO_entryPath_39 (by decide) ?_
            refine lv_icmp_ge (tgt := 87) F.1 F.2.1 d_MO_entryPath_41 (by decide) (fun zq => absurd zq (pN_nle (a := 125) (b := k) rfl rfl (by omega) (by omega) (by omega))) (fun _ => ?_)
            refine lv_iload F.1 F.2.1 d_MO_entryPath_44 (lv_at hl 0 rfl) ?_
            refine x_rd (x_S (n := 1) (As := [.int (nI k)]) F (c_MO_legal l G (nI k)) ok_MO_legal k516 ⟨Nat.le_of_ble_eq_true rfl, Nat.le_of_ble_eq_true rfl⟩ rfl rfl hK (trivial) rfl hl.1 rfl (Nat.le_of_ble_eq_true rfl) d_MO_entryPath_46 ⟨Nat.le_of_ble_eq_true rfl, Nat.le_of_ble_eq_true rfl⟩) ?_
            rw [mo_legal_n k (by omega)]
            refine x_beq (tgt := 81) F d_MO_entryPath_49 (by decide) (fun c49 => ?_) (fun c49 => ?_)
            · refine lv_iinc (v := (nI (k + 1))) (lv' := [(6, .int (nI (k + 1))), (5, .int (nI (j - (eI σ o k).length))), (4, .int (nI o)), (0, .ref (ad 0)), (1, .int (nI i)), (2, .int y), (3, .int (nI j))]) F.1 F.2.1 d_MO_entryPath_81 hl (k := 0) rfl (nI_1 k) (by decide) rfl (fun ls hl => ?_)
              refine lv_goto (tgt := 37) F.1 F.2.1 d_MO_entryPath_84 (by decide) ?_
              exact ih (k + 1) (by omega) (by rw [eI_n σ o (Or.inl c49)]; exact hle) ls (by rw [eI_n σ o (Or.inl c49)]; exact hl)
            · refine lv_aload_n F.1 F.2.1 d_MO_entryPath_52 rfl (lv_at hl 3 rfl) ?_
              refine lv_iload F.1 F.2.1 d_MO_entryPath_53 (lv_at hl 2 rfl) ?_
              refine lv_iload F.1 F.2.1 d_MO_entryPath_55 (lv_at hl 0 rfl) ?_
              refine x_rd (x_V (n := 2) (As := [.int (nI o), .int (nI k)]) F (c_MO_mark l G ad σ wk ch o k (by omega) (by omega) hpo) ok_MO_mark k619 ⟨Nat.le_of_ble_eq_true rfl, Nat.le_of_ble_eq_true rfl⟩ rfl rfl hK (x_rcv hK hO rfl) (hP) rfl hl.1 rfl (Nat.le_of_ble_eq_true rfl) d_MO_entryPath_57 ⟨Nat.le_of_ble_eq_true rfl, Nat.le_of_ble_eq_true rfl⟩) ?_
              refine x_cst F k623 d_MO_entryPath_60 ?_
              refine x_lne (tgt := 70) F d_MO_entryPath_63 d_MO_entryPath_64 (by decide) (fun c64 => ?_) (fun c64 => ?_)
              · have hes := eI_s σ o c49 c64
                obtain ⟨t, ht⟩ := eI_pre σ o (show k + 1 ≤ 125 by omega)
                rw [hes] at ht
                refine lv_iload F.1 F.2.1 d_MO_entryPath_70 (lv_at hl 1 rfl) ?_
                refine lv_if_ne (tgt := 78) F.1 F.2.1 d_MO_entryPath_72 (by decide) (fun c72 => ?_) (fun c72 => ?_)
                · have c72 := mt (pN_eqI (a := (j - (eI σ o k).length)) (b := 0) rfl rfl (by omega) (by omega)).mpr c72
                  obtain ⟨d, hd⟩ : ∃ d, j - (eI σ o k).length = d + 1 := ⟨j - (eI σ o k).length - 1, by omega⟩
                  rw [hd] at hl
                  refine lv_iinc (v := nI d) (lv' := [(5, .int (nI d)), (6, .int (nI k)), (4, .int (nI o)), (0, .ref (ad 0)), (1, .int (nI i)), (2, .int y), (3, .int (nI j))]) F.1 F.2.1 d_MO_entryPath_78 hl (k := 1) rfl (pk_m1 d) (by decide) rfl (fun ls hl => ?_)
                  refine lv_iinc (v := (nI (k + 1))) (lv' := [(6, .int (nI (k + 1))), (5, .int (nI d)), (4, .int (nI o)), (0, .ref (ad 0)), (1, .int (nI i)), (2, .int y), (3, .int (nI j))]) F.1 F.2.1 d_MO_entryPath_81 hl (k := 1) rfl (nI_1 k) (by decide) rfl (fun ls hl => ?_)
                  refine lv_goto (tgt := 37) F.1 F.2.1 d_MO_entryPath_84 (by decide) ?_
                  exact ih (k + 1) (by omega) (by rw [hes, List.length_append, List.length_singleton]; omega) ls (by rw [hes, List.length_append, List.length_singleton, show j - ((eI σ o k).length + 1) = d by omega]; exact hl)
                · have c72 := (pN_eqI (a := (j - (eI σ o k).length)) (b := 0) rfl rfl (by omega) (by omega)).mp c72
                  refine lv_iload F.1 F.2.1 d_MO_entryPath_75 (lv_at hl 0 rfl) ?_
                  have hjl : j = (eI σ o k).length := by omega
                  have hfin : (eI σ o 125).getD j 0 = k := by rw [ht, getD_app_l (by rw [List.length_append, List.length_singleton]; omega), hjl, getD_app_r]
                  exact hret _ _ _ d_MO_entryPath_77 (by rw [hv, if_pos (by rw [ht, List.length_append, List.length_append, List.length_singleton]; omega), hfin])
              · refine lv_goto (tgt := 81) F.1 F.2.1 d_MO_entryPath_67 (by decide) ?_
                refine lv_iinc (v := (nI (k + 1))) (lv' := [(6, .int (nI (k + 1))), (5, .int (nI (j - (eI σ o k).length))), (4, .int (nI o)), (0, .ref (ad 0)), (1, .int (nI i)), (2, .int y), (3, .int (nI j))]) F.1 F.2.1 d_MO_entryPath_81 hl (k := 0) rfl (nI_1 k) (by decide) rfl (fun ls hl => ?_)
                refine lv_goto (tgt := 37) F.1 F.2.1 d_MO_entryPath_84 (by decide) ?_
                exact ih (k + 1) (by omega) (by rw [eI_n σ o (Or.inr c64)]; exact hle) ls (by rw [eI_n σ o (Or.inr c64)]; exact hl)
        refine lv_aload_n F.1 F.2.1 d_MO_entryPath_23 rfl (lv_at hl 0 rfl) ?_
        refine lv_iload_n F.1 F.2.1 d_MO_entryPath_24 rfl (lv_at hl 1 rfl) ?_
        refine lv_iload_n F.1 F.2.1 d_MO_entryPath_25 rfl (lv_at hl 2 rfl) ?_
        refine x_rd (x_V (n := 2) (As := [.int (nI i), .int y]) F (c_MO_owner l G ad σ wk ch i y (by omega) hpr) ok_MO_owner k661 ⟨Nat.le_of_ble_eq_true rfl, Nat.le_of_ble_eq_true rfl⟩ rfl rfl hK (x_rcv hK hO rfl) (hP) rfl hl.1 rfl (Nat.le_of_ble_eq_true rfl) d_MO_entryPath_26 ⟨Nat.le_of_ble_eq_true rfl, Nat.le_of_ble_eq_true rfl⟩) ?_
        rw [hoo]
        refine lv_istore (lv' := [(4, .int (nI o)), (0, .ref (ad 0)), (1, .int (nI i)), (2, .int y), (3, .int (nI j))]) F.1 F.2.1 d_MO_entryPath_29 hl (by decide) rfl (fun ls hl => ?_)
        refine lv_iload_n F.1 F.2.1 d_MO_entryPath_31 rfl (lv_at hl 4 rfl) ?_
        refine lv_istore (lv' := [(5, .int (nI j)), (4, .int (nI o)), (0, .ref (ad 0)), (1, .int (nI i)), (2, .int y), (3, .int (nI j))]) F.1 F.2.1 d_MO_entryPath_32 hl (by decide) rfl (fun ls hl => ?_)
        refine lv_iconst (v := 1) F.1 F.2.1 d_MO_entryPath_34 (by decide) ?_
        refine lv_istore (lv' := [(6, .int 1), (5, .int (nI j)), (4, .int (nI o)), (0, .ref (ad 0)), (1, .int (nI i)), (2, .int y), (3, .int (nI j))]) F.1 F.2.1 d_MO_entryPath_35 hl (by decide) rfl (fun ls hl => ?_)
        exact loop 124 1 rfl (by rw [eI_1]; exact Nat.zero_le _) ls (by rw [eI_1]; exact hl)
      · refine lv_iconst (v := (-1)) F.1 F.2.1 d_MO_entryPath_21 (by decide) ?_
        exact hret _ _ _ d_MO_entryPath_22 (by unfold eptS; rw [hci, hoo, decide_eq_true (Int32.not_le.mp c18)]; simp)
theorem eI_mem {σ : Sg} {o k p : Nat} (h : k < (eI σ o 125).length) (hp : (eI σ o 125).getD k 0 = p) : 25 ≤ p ∧ p < 125 ∧ lg p = true ∧ mkI σ o p ≠ wNON := by
  have hm : p ∈ eI σ o 125 := by
    rw [← hp, List.getD_eq_getElem?_getD, List.getElem?_eq_getElem h]
    exact List.getElem_mem h
  unfold eI at hm
  rw [List.mem_filter, Bool.and_eq_true] at hm
  have := lg_25 hm.2.1
  exact ⟨this.1, this.2, hm.2.1, by have := hm.2.2; simpa using this⟩
theorem eptS_of {σ : Sg} {x y z : Int32} (hn : gn σ ≤ 40) (h : eptS σ x y z ≠ -1) : ∃ i p : Nat, i < gn σ ∧ x = nI i ∧ p < 125 ∧ eptS σ x y z = nI p := by
  unfold eptS at h ⊢
  by_cases hc : (isB σ x && !decide (owB (gp σ) x.toNatClampNeg y = 0) && !decide (z < 0)) = true
  · rw [if_pos hc] at h ⊢
    by_cases hl : z.toNatClampNeg < (eI σ (owB (gp σ) x.toNatClampNeg y) 125).length
    · rw [if_pos hl]
      rw [Bool.and_eq_true, Bool.and_eq_true] at hc
      obtain ⟨i, hi, hx⟩ := isB_of hn hc.1.1
      exact ⟨i, _, hi, hx, (eI_mem hl rfl).2.1, rfl⟩
    · rw [if_neg hl] at h; exact absurd rfl h
  · rw [if_neg hc] at h; exact absurd rfl h
def emkS (σ : Sg) (x y z : Int32) : Int64 := if eptS σ x y z = -1 then wNON else mkI σ (owB (gp σ) x.toNatClampNeg y) (eptS σ x y z).toNatClampNeg
theorem c_MO_entryMark (l : Launch) (G : x_G) (ad : Nat → Nat) (σ : Sg) (wk : Nat → Int64) (ch : Nat → Bool) (x y z : Int32) (hok : gI σ) : Met l y_MO_entryMark (x_ws y_MO_entryMark b_MO_entryMark 5 (some .long)) (x_rm 4 0 0) (x_P G [.ref (ad 0), .int x, .int y, .int z] (MO G ad σ wk ch)) (k2_QcV (.long (emkS σ x y z))) 0 0 (fun _ => False) := by
  refine x_mL (by decide +kernel) (Nat.le_of_ble_eq_true rfl) (fun p e s m args below meth c F hK hP ls hl Q hret => ?_)
  have hl : lv_has ls 5 [(0, .ref (ad 0)), (1, .int x), (2, .int y), (3, .int z)] := hl
  have hn40 := hok.1.2.1
  have hpr := hok.1.2.2.1
  have hO := hP.1
  refine lv_aload_n F.1 F.2.1 d_MO_entryMark_0 rfl (lv_at hl 0 rfl) ?_
  refine lv_iload_n F.1 F.2.1 d_MO_entryMark_1 rfl (lv_at hl 1 rfl) ?_
  refine lv_iload_n F.1 F.2.1 d_MO_entryMark_2 rfl (lv_at hl 2 rfl) ?_
  refine lv_iload_n F.1 F.2.1 d_MO_entryMark_3 rfl (lv_at hl 3 rfl) ?_
  refine x_rd (x_V (n := 3) (As := [.int x, .int y, .int z]) F (c_MO_entryPath l G ad σ wk ch x y z hok) ok_MO_entryPath k673 ⟨Nat.le_of_ble_eq_true rfl, Nat.le_of_ble_eq_true rfl⟩ rfl rfl hK (x_rcv hK hO rfl) (hP) rfl hl.1 rfl (Nat.le_of_ble_eq_true rfl) d_MO_entryMark_4 ⟨Nat.le_of_ble_eq_true rfl, Nat.le_of_ble_eq_true rfl⟩) ?_
  refine lv_istore (lv' := [(4, .int (eptS σ x y z)), (0, .ref (ad 0)), (1, .int x), (2, .int y), (3, .int z)]) F.1 F.2.1 d_MO_entryMark_7 hl (by decide) rfl (fun ls hl => ?_)
  refine lv_iload F.1 F.2.1 d_MO_entryMark_9 (lv_at hl 0 rfl) ?_
  refine lv_iconst (v := (-1)) F.1 F.2.1 d_MO_entryMark_11 (by decide) ?_
  refine lv_icmp_ne (tgt := 21) F.1 F.2.1 d_MO_entryMark_12 (by decide) (fun c12 => ?_) (fun c12 => ?_)
  · obtain ⟨i, k, hi, rfl, hk, hek⟩ := eptS_of hn40 c12
    have hol := owB_le hpr i y
    have hv : emkS σ (nI i) y z = mkI σ (owB (gp σ) i y) k := by unfold emkS; rw [if_neg c12, hek, show (nI i).toNatClampNeg = i from nI_clamp (by omega), show (nI k).toNatClampNeg = k from nI_clamp (by omega)]
    rw [hek] at hl
    refine lv_aload_n F.1 F.2.1 d_MO_entryMark_21 rfl (lv_at hl 1 rfl) ?_
    refine lv_aload_n F.1 F.2.1 d_MO_entryMark_22 rfl (lv_at hl 1 rfl) ?_
    refine lv_iload_n F.1 F.2.1 d_MO_entryMark_23 rfl (lv_at hl 2 rfl) ?_
    refine lv_iload_n F.1 F.2.1 d_MO_entryMark_24 rfl (lv_at hl 3 rfl) ?_
    refine x_rd (x_V (n := 2) (As := [.int (nI i), .int y]) F (c_MO_owner l G ad σ wk ch i y (by omega) hpr) ok_MO_owner k661 ⟨Nat.le_of_ble_eq_true rfl, Nat.le_of_ble_eq_true rfl⟩ rfl rfl hK (x_rcv hK hO rfl) (hP) rfl hl.1 rfl (Nat.le_of_ble_eq_true rfl) d_MO_entryMark_25 ⟨Nat.le_of_ble_eq_true rfl, Nat.le_of_ble_eq_true rfl⟩) ?_
    refine lv_iload F.1 F.2.1 d_MO_entryMark_28 (lv_at hl 0 rfl) ?_
    refine x_rd (x_V (n := 2) (As := [.int (nI (owB (gp σ) i y)), .int (nI k)]) F (c_MO_mark l G ad σ wk ch (owB (gp σ) i y) k (by omega) hk (gp_lt hok (by omega))) ok_MO_mark k619 ⟨Nat.le_of_ble_eq_true rfl, Nat.le_of_ble_eq_true rfl⟩ rfl rfl hK (x_rcv hK hO rfl) (hP) rfl hl.1 rfl (Nat.le_of_ble_eq_true rfl) d_MO_entryMark_30 ⟨Nat.le_of_ble_eq_true rfl, Nat.le_of_ble_eq_true rfl⟩) ?_
    exact hret _ _ _ d_MO_entryMark_33 (by rw [hv])
  · refine x_cst F k623 d_MO_entryMark_15 ?_
    refine lv_goto (tgt := 33) F.1 F.2.1 d_MO_entryMark_18 (by decide) ?_
    exact hret _ _ _ d_MO_entryMark_33 (by unfold emkS; rw [if_pos c12])
/-! common -/
def cmI (P : Nat → Bool) : Nat → Nat → Nat
  | 0, n => n
  | f + 1, n => if P n = true then cmI P f (n + 1) else n
def cmP (σ : Sg) (a b n : Nat) : Bool := !decide ((cn (gp σ) a).getD n 0 = 0) && !decide ((cn (gp σ) b).getD n 0 = 0) && smB σ ((cn (gp σ) a).getD n 0) ((cn (gp σ) b).getD n 0)
def comS (σ : Sg) (x y : Int32) : Int32 := if (isB σ x && isB σ y) = true then nI (cmI (cmP σ x.toNatClampNeg y.toNatClampNeg) 40 0) else -1
theorem c_MO_common (l : Launch) (G : x_G) (ad : Nat → Nat) (σ : Sg) (wk : Nat → Int64) (ch : Nat → Bool) (x y : Int32) (hok : gI σ) : Met l y_MO_common (x_ws y_MO_common b_MO_common 4 (some .int)) (x_rm 4 0 0) (x_P G [.ref (ad 0), .int x, .int y] (MO G ad σ wk ch)) (k2_QcV (.int (comS σ x y))) 0 0 (fun _ => False) := by
  refine x_mI (by decide +kernel) (Nat.le_of_ble_eq_true rfl) (fun p e s m args below meth c F hK hP ls hl Q hret => ?_)
  have hl : lv_has ls 4 [(0, .ref (ad 0)), (1, .int x), (2, .int y)] := hl
  have hn40 := hok.1.2.1
  have hpr := hok.1.2.2.1
  have hO := hP.1
  refine lv_aload_n F.1 F.2.1 d_MO_common_0 rfl (lv_at hl 0 rfl) ?_
  refine lv_iload_n F.1 F.2.1 d_MO_common_1 rfl (lv_at hl 1 rfl) ?_
  refine x_rd (x_V (n := 1) (As := [.int x]) F (c_MO_is l G ad σ wk ch x) ok_MO_is k512 ⟨Nat.le_of_ble_eq_true rfl, Nat.le_of_ble_eq_true rfl⟩ rfl rfl hK (x_rcv hK hO rfl) (hP) rfl hl.1 rfl (Nat.le_of_ble_eq_true rfl) d_MO_common_2 ⟨Nat.le_of_ble_eq_true rfl, Nat.le_of_ble_eq_true rfl⟩) ?_
  refine x_beq (tgt := 16) F d_MO_common_5 (by decide) (fun c5 => ?_) (fun c5 => ?_)
  · refine lv_iconst (v := (-1)) F.1 F.2.1 d_MO_common_16 (by decide) ?_
    exact hret _ _ _ d_MO_common_17 (by unfold comS; rw [c5]; rfl)
  · refine lv_aload_n F.1 F.2.1 d_MO_common_8 rfl (lv_at hl 0 rfl) ?_
    refine lv_iload_n F.1 F.2.1 d_MO_common_9 rfl (lv_at hl 2 rfl) ?_
    refine x_rd (x_V (n := 1) (As := [.int y]) F (c_MO_is l G ad σ wk ch y) ok_MO_is k512 ⟨Nat.le_of_ble_eq_true rfl, Nat.le_of_ble_eq_true rfl⟩ rfl rfl hK (x_rcv hK hO rfl) (hP) rfl hl.1 rfl (Nat.le_of_ble_eq_true rfl) d_MO_common_10 ⟨Nat.le_of_ble_eq_true rfl, Nat.le_of_ble_eq_true rfl⟩) ?_
    refine x_bne (tgt := 18) F d_MO_common_13 (by decide) (fun c13 => ?_) (fun c13 => ?_)
    · have hv : comS σ x y = nI (cmI (cmP σ x.toNatClampNeg y.toNatClampNeg) 40 0) := by unfold comS; rw [c5, c13]; rfl
      obtain ⟨a, ha, rfl⟩ := isB_of hn40 c5
      obtain ⟨b, hb, rfl⟩ := isB_of hn40 c13
      rw [show (nI a).toNatClampNeg = a from nI_clamp (by omega), show (nI b).toNatClampNeg = b from nI_clamp (by omega)] at hv
      have hla := cn_len hpr a a (Nat.le_refl _)
      have hlb := cn_len hpr b b (Nat.le_refl _)
      have loop : ∀ (f n : Nat), n + f = 40 → cmI (cmP σ a b) f n = cmI (cmP σ a b) 40 0 → ∀ ls : Array Slot, lv_has ls 4 [(3, .int (nI n)), (0, .ref (ad 0)), (1, .int (nI a)), (2, .int (nI b))] → W p l e (x_rm 4 0 0) s m args below meth c s.heap [] 0 0 Q (F0 m 20 ls []) := by
        intro f
        induction f with
        | zero =>
          intro n hn hq ls hl
          refine lv_aload_n F.1 F.2.1 d_MO_common_20 rfl (lv_at hl 1 rfl) ?_
          refine lv_iload_n F.1 F.2.1 d_MO_common_21 rfl (lv_at hl 2 rfl) ?_
          refine lv_iload_n F.1 F.2.1 d_MO_common_22 rfl (lv_at hl 0 rfl) ?_
          refine x_rd (x_V (n := 2) (As := [.int (nI a), .int (nI n)]) F (c_MO_owner l G ad σ wk ch a (nI n) (by omega) hpr) ok_MO_owner k661 ⟨Nat.le_of_ble_eq_true rfl, Nat.le_of_ble_eq_true rfl⟩ rfl rfl hK (x_rcv hK hO rfl) (hP) rfl hl.1 rfl (Nat.le_of_ble_eq_true rfl) d_MO_common_23 ⟨Nat.le_of_ble_eq_true rfl, Nat.le_of_ble_eq_true rfl⟩) ?_
          rw [owB_n (by omega) (by omega), getD_out (by omega)]
          refine lv_if_eq (tgt := 63) F.1 F.2.1 d_MO_common_26 (by decide) (fun _ => ?_) (fun zq => absurd (pN_eq (a := 0) (b := 0) rfl rfl (by omega) (by omega) (by omega)) zq)
          refine lv_iload_n F.1 F.2.1 d_MO_common_63 rfl (lv_at hl 0 rfl) ?_
          exact hret _ _ _ d_MO_common_64 (by rw [hv, ← hq]; rfl)
        | succ f ih =>
          intro n hn hq ls hl
          have hoa := owB_n (par := gp σ) (i := a) (n := n) (by omega) (by omega)
          have hob := owB_n (par := gp σ) (i := b) (n := n) (by omega) (by omega)
          have hla' := owB_le hpr a (nI n)
          have hlb' := owB_le hpr b (nI n)
          have hP' : cmP σ a b n = (!decide (owB (gp σ) a (nI n) = 0) && !decide (owB (gp σ) b (nI n) = 0) && smB σ (owB (gp σ) a (nI n)) (owB (gp σ) b (nI n))) := by rw [hoa, hob]; rfl
          have hno : cmP σ a b n = false → nI n = comS σ (nI a) (nI b) := fun h => by rw [hv, ← hq]; show _ = nI (if _ then _ else _); rw [if_neg (by rw [h]; decide)]
          refine lv_aload_n F.1 F.2.1 d_MO_common_20 rfl (lv_at hl 1 rfl) ?_
          refine lv_iload_n F.1 F.2.1 d_MO_common_21 rfl (lv_at hl 2 rfl) ?_
          refine lv_iload_n F.1 F.2.1 d_MO_common_22 rfl (lv_at hl 0 rfl) ?_
          refine x_rd (x_V (n := 2) (As := [.int (nI a), .int (nI n)]) F (c_MO_owner l G ad σ wk ch a (nI n) (by omega) hpr) ok_MO_owner k661 ⟨Nat.le_of_ble_eq_true rfl, Nat.le_of_ble_eq_true rfl⟩ rfl rfl hK (x_rcv hK hO rfl) (hP) rfl hl.1 rfl (Nat.le_of_ble_eq_true rfl) d_MO_common_23 ⟨Nat.le_of_ble_eq_true rfl, Nat.le_of_ble_eq_true rfl⟩) ?_
          refine lv_if_eq (tgt := 63) F.1 F.2.1 d_MO_common_26 (by decide) (fun c26 => ?_) (fun c26 => ?_)
          · have c26 := (pN_eqI (a := (owB (gp σ) a (nI n))) (b := 0) rfl rfl (by omega) (by omega)).mp c26
            refine lv_iload_n F.1 F.2.1 d_MO_common_63 rfl (lv_at hl 0 rfl) ?_
            exact hret _ _ _ d_MO_common_64 (hno (by rw [hP', decide_eq_true c26]; rfl))
          · have c26 := mt (pN_eqI (a := (owB (gp σ) a (nI n))) (b := 0) rfl rfl (by omega) (by omega)).mpr c26
            refine lv_aload_n F.1 F.2.1 d_MO_common_29 rfl (lv_at hl 1 rfl) ?_
            refine lv_iload_n F.1 F.2.1 d_MO_common_30 rfl (lv_at hl 3 rfl) ?_
            refine lv_iload_n F.1 F.2.1 d_MO_common_31 rfl (lv_at hl 0 rfl) ?_
            refine x_rd (x_V (n := 2) (As := [.int (nI b), .int (nI n)]) F (c_MO_owner l G ad σ wk ch b (nI n) (by omega) hpr) ok_MO_owner k661 ⟨Nat.le_of_ble_eq_true rfl, Nat.le_of_ble_eq_true rfl⟩ rfl rfl hK (x_rcv hK hO rfl) (hP) rfl hl.1 rfl (Nat.le_of_ble_eq_true rfl) d_MO_common_32 ⟨Nat.le_of_ble_eq_true rfl, Nat.le_of_ble_eq_true rfl⟩) ?_
            refine lv_if_eq (tgt := 63) F.1 F.2.1 d_MO_common_35 (by decide) (fun c35 => ?_) (fun c35 => ?_)
            · have c35 := (pN_eqI (a := (owB (gp σ) b (nI n))) (b := 0) rfl rfl (by omega) (by omega)).mp c35
              refine lv_iload_n F.1 F.2.1 d_MO_common_63 rfl (lv_at hl 0 rfl) ?_
              exact hret _ _ _ d_MO_common_64 (hno (by rw [hP', decide_eq_true c35]; simp))
            · have c35 := mt (pN_eqI (a := (owB (gp σ) b (nI n))) (b := 0) rfl rfl (by omega) (by omega)).mpr c35
              refine lv_aload_n F.1 F.2.1 d_MO_common_38 rfl (lv_at hl 1 rfl) ?_
              refine lv_aload_n F.1 F.2.1 d_MO_common_39 rfl (lv_at hl 1 rfl) ?_
              refine lv_iload_n F.1 F.2.1 d_MO_common_40 rfl (lv_at hl 2 rfl) ?_
              refine lv_iload_n F.1 F.2.1 d_MO_common_41 rfl (lv_at hl 0 rfl) ?_
              refine x_rd (x_V (n := 2) (As := [.int (nI a), .int (nI n)]) F (c_MO_owner l G ad σ wk ch a (nI n) (by omega) hpr) ok_MO_owner k661 ⟨Nat.le_of_ble_eq_true rfl, Nat.le_of_ble_eq_true rfl⟩ rfl rfl hK (x_rcv hK hO rfl) (hP) rfl hl.1 rfl (Nat.le_of_ble_eq_true rfl) d_MO_common_42 ⟨Nat.le_of_ble_eq_true rfl, Nat.le_of_ble_eq_true rfl⟩) ?_
              refine lv_aload_n F.1 F.2.1 d_MO_common_45 rfl (lv_at hl 1 rfl) ?_
              refine lv_iload_n F.1 F.2.1 d_MO_common_46 rfl (lv_at hl 3 rfl) ?_
              refine lv_iload_n F.1 F.2.1 d_MO_common_47 rfl (lv_at hl 0 rfl) ?_
              refine x_rd (x_V (n := 2) (As := [.int (nI b), .int (nI n)]) F (c_MO_owner l G ad σ wk ch b (nI n) (by omega) hpr) ok_MO_owner k661 ⟨Nat.le_of_ble_eq_true rfl, Nat.le_of_ble_eq_true rfl⟩ rfl rfl hK (x_rcv hK hO rfl) (hP) rfl hl.1 rfl (Nat.le_of_ble_eq_true rfl) d_MO_common_48 ⟨Nat.le_of_ble_eq_true rfl, Nat.le_of_ble_eq_true rfl⟩) ?_
              refine x_rd (x_V (n := 2) (As := [.int (nI (owB (gp σ) a (nI n))), .int (nI (owB (gp σ) b (nI n)))]) F (c_MO_same l G ad σ wk ch (owB (gp σ) a (nI n)) (owB (gp σ) b (nI n)) (by omega) (by omega) (gp_lt hok (by omega)) (gp_lt hok (by omega))) ok_MO_same k615 ⟨Nat.le_of_ble_eq_true rfl, Nat.le_of_ble_eq_true rfl⟩ rfl rfl hK (x_rcv hK hO rfl) (hP) rfl hl.1 rfl (Nat.le_of_ble_eq_true rfl) d_MO_common_51 ⟨Nat.le_of_ble_eq_true rfl, Nat.le_of_ble_eq_true rfl⟩) ?_
              refine x_beq (tgt := 63) F d_MO_common_54 (by decide) (fun c54 => ?_) (fun c54 => ?_)
              · refine lv_iload_n F.1 F.2.1 d_MO_common_63 rfl (lv_at hl 0 rfl) ?_
                exact hret _ _ _ d_MO_common_64 (hno (by rw [hP', c54]; simp))
              · refine lv_iinc (v := (nI (n + 1))) (lv' := [(3, .int (nI (n + 1))), (0, .ref (ad 0)), (1, .int (nI a)), (2, .int (nI b))]) F.1 F.2.1 d_MO_common_57 hl (k := 0) rfl (nI_1 n) (by decide) rfl (fun ls hl => ?_)
                refine lv_goto (tgt := 20) F.1 F.2.1 d_MO_common_60 (by decide) ?_
                exact ih (n + 1) (by omega) (by rw [← hq]; show _ = (if _ then _ else _); rw [if_pos (by rw [hP', decide_eq_false c26, decide_eq_false c35, c54]; rfl)]) ls hl
      refine lv_iconst (v := 0) F.1 F.2.1 d_MO_common_18 (by decide) ?_
      refine lv_istore_n (lv' := [(3, .int 0), (0, .ref (ad 0)), (1, .int (nI a)), (2, .int (nI b))]) F.1 F.2.1 d_MO_common_19 rfl hl (by decide) rfl (fun ls hl => ?_)
      exact loop 40 0 rfl rfl ls hl
    · refine lv_iconst (v := (-1)) F.1 F.2.1 d_MO_common_16 (by decide) ?_
      exact hret _ _ _ d_MO_common_17 (by unfold comS; rw [c13, Bool.and_false]; rfl)
/-! shared -/
def shL (σ : Sg) (b : Nat) (L : List Nat) : Nat := (L.filter fun i => thB σ (chO (gp σ) (fun _ => false) b) i (gn σ)).length
def shrS (σ : Sg) (x y : Int32) : Int32 := if (isB σ x && isB σ y) = true then nI (shL σ y.toNatClampNeg (cn (gp σ) x.toNatClampNeg)) else -1
theorem c_MO_shared (l : Launch) (G : x_G) (ad : Nat → Nat) (σ : Sg) (wk : Nat → Int64) (ch : Nat → Bool) (x y : Int32) (hok : gI σ) : Met l y_MO_shared (x_ws y_MO_shared b_MO_shared 5 (some .int)) (x_rm 5 0 0) (x_P G [.ref (ad 0), .int x, .int y] (MO G ad σ wk ch)) (x_Q (ME G ad (shrS σ x y, σ))) 0 0 (mA ad) := by
  refine x_wI (by decide +kernel) (Nat.le_of_ble_eq_true rfl) (fun p e s m args below meth c F hK hP ls hl Q hret => ?_)
  have hl : lv_has ls 5 [(0, .ref (ad 0)), (1, .int x), (2, .int y)] := hl
  have hS : va_S (mA ad) s.heap s.heap [] := va_S.rf
  have hn40 := hok.1.2.1
  have hpr := hok.1.2.2.1
  have hO := hP.1
  refine lv_aload_n F.1 F.2.1 d_MO_shared_0 rfl (lv_at hl 0 rfl) ?_
  refine lv_iload_n F.1 F.2.1 d_MO_shared_1 rfl (lv_at hl 1 rfl) ?_
  refine x_rd (x_V (n := 1) (As := [.int x]) F (c_MO_is l G ad σ wk ch x) ok_MO_is k512 ⟨Nat.le_of_ble_eq_true rfl, Nat.le_of_ble_eq_true rfl⟩ rfl rfl hK (x_rcv hK hO rfl) (hP) rfl hl.1 rfl (Nat.le_of_ble_eq_true rfl) d_MO_shared_2 ⟨Nat.le_of_ble_eq_true rfl, Nat.le_of_ble_eq_true rfl⟩) ?_
  refine x_beq (tgt := 16) F d_MO_shared_5 (by decide) (fun c5 => ?_) (fun c5 => ?_)
  · refine lv_iconst (v := (-1)) F.1 F.2.1 d_MO_shared_16 (by decide) ?_
    exact hret _ _ _ _ _ _ _ d_MO_shared_17 (by unfold shrS; rw [c5]; exact ⟨rfl, ⟨_, _, hP⟩, hS.off⟩) hS.2.2 (Nat.le_refl _) (Nat.le_refl _)
  · refine lv_aload_n F.1 F.2.1 d_MO_shared_8 rfl (lv_at hl 0 rfl) ?_
    refine lv_iload_n F.1 F.2.1 d_MO_shared_9 rfl (lv_at hl 2 rfl) ?_
    refine x_rd (x_V (n := 1) (As := [.int y]) F (c_MO_is l G ad σ wk ch y) ok_MO_is k512 ⟨Nat.le_of_ble_eq_true rfl, Nat.le_of_ble_eq_true rfl⟩ rfl rfl hK (x_rcv hK hO rfl) (hP) rfl hl.1 rfl (Nat.le_of_ble_eq_true rfl) d_MO_shared_10 ⟨Nat.le_of_ble_eq_true rfl, Nat.le_of_ble_eq_true rfl⟩) ?_
    refine x_bne (tgt := 18) F d_MO_shared_13 (by decide) (fun c13 => ?_) (fun c13 => ?_)
    · have hv : shrS σ x y = nI (shL σ y.toNatClampNeg (cn (gp σ) x.toNatClampNeg)) := by unfold shrS; rw [c5, c13]; rfl
      rw [hv] at hret
      obtain ⟨a, ha, rfl⟩ := isB_of hn40 c5
      obtain ⟨b, hb, rfl⟩ := isB_of hn40 c13
      rw [show (nI a).toNatClampNeg = a from nI_clamp (by omega), show (nI b).toNatClampNeg = b from nI_clamp (by omega)] at hret
      have hla := cn_len hpr a a (Nat.le_refl _)
      refine lv_aload_n F.1 F.2.1 d_MO_shared_18 rfl (lv_at hl 0 rfl) ?_
      refine x_wr (x_V (n := 0) (As := []) F (c_MO_chooseNone l G ad σ wk ch) ok_MO_chooseNone k599 ⟨Nat.le_of_ble_eq_true rfl, Nat.le_of_ble_eq_true rfl⟩ rfl rfl hK (x_rcv hK hO rfl) (hP) rfl hl.1 rfl (Nat.le_of_ble_eq_true rfl) d_MO_shared_19 ⟨Nat.le_of_ble_eq_true rfl, Nat.le_of_ble_eq_true rfl⟩) hS (fun _ h => h) (fun _ _ h => h.2.2) (fun v H1 locs hpost hS => ?_)
      obtain ⟨rfl, hP, ho⟩ := hpost
      have hO := hP.1
      refine lv_aload_n F.1 F.2.1 d_MO_shared_22 rfl (lv_at hl 0 rfl) ?_
      refine lv_iload_n F.1 F.2.1 d_MO_shared_23 rfl (lv_at hl 2 rfl) ?_
      refine x_wr (x_V (n := 1) (As := [.int (nI b)]) F (c_MO_choose l G ad σ wk (fun _ => false) b (by omega) hpr) ok_MO_choose k603 ⟨Nat.le_of_ble_eq_true rfl, Nat.le_of_ble_eq_true rfl⟩ rfl rfl hK (x_rcv hK hO rfl) (hP) rfl hl.1 rfl (Nat.le_of_ble_eq_true rfl) d_MO_shared_24 ⟨Nat.le_of_ble_eq_true rfl, Nat.le_of_ble_eq_true rfl⟩) hS (fun _ h => h) (fun _ _ h => h.2.2) (fun v H2 locs hpost hS => ?_)
      obtain ⟨rfl, hP, ho⟩ := hpost
      obtain ⟨hO, hp, ht, hh, hg, hw, hc, hj⟩ := id hP
      have shs : ∀ j, 0 < j → shL σ b (cn (gp σ) j) = shL σ b (cn (gp σ) (gp σ j)) + (if thB σ (chO (gp σ) (fun _ => false) b) j (gn σ) = true then 1 else 0) := by
        intro j h0
        unfold shL
        rw [cn_s hpr h0, List.filter_append, List.length_append]
        congr 1
        by_cases ht : thB σ (chO (gp σ) (fun _ => false) b) j (gn σ) = true
        · rw [if_pos ht]; simp [ht]
        · rw [if_neg ht]; simp [ht]
      have shle : shL σ b (cn (gp σ) a) ≤ 40 := Nat.le_trans (List.length_filter_le _ _) (by omega)
      have loop : ∀ (n j k : Nat), j ≤ n → j < 40 → k + shL σ b (cn (gp σ) j) = shL σ b (cn (gp σ) a) → ∀ ls : Array Slot, lv_has ls 5 [(4, .int (nI j)), (3, .int (nI k)), (0, .ref (ad 0)), (1, .int (nI a)), (2, .int (nI b))] → W p l e (x_rm 5 0 0) s m args below meth c H2 locs 0 0 Q (F0 m 32 ls []) := by
        have fin : ∀ (k : Nat), k = shL σ b (cn (gp σ) a) → ∀ ls : Array Slot, lv_has ls 5 [(4, .int (nI 0)), (3, .int (nI k)), (0, .ref (ad 0)), (1, .int (nI a)), (2, .int (nI b))] → W p l e (x_rm 5 0 0) s m args below meth c H2 locs 0 0 Q (F0 m 65 ls []) := by
          intro k hk ls hl
          refine lv_iload_n F.1 F.2.1 d_MO_shared_65 rfl (lv_at hl 1 rfl) ?_
          exact hret _ _ _ _ _ _ _ d_MO_shared_66 ⟨by rw [hk], ⟨_, _, hP⟩, hS.off⟩ hS.2.2 (Nat.le_refl _) (Nat.le_refl _)
        intro n
        induction n with
        | zero =>
          intro j k hjn hj40 hq ls hl
          obtain rfl : j = 0 := by omega
          refine lv_iload F.1 F.2.1 d_MO_shared_32 (lv_at hl 0 rfl) ?_
          refine lv_if_eq (tgt := 65) F.1 F.2.1 d_MO_shared_34 (by decide) (fun _ => ?_) (fun zq => absurd (pN_eq (a := 0) (b := 0) rfl rfl (by omega) (by omega) (by omega)) zq)
          exact fin k hq ls hl
        | succ n ih =>
          intro j k hjn hj40 hq ls hl
          refine lv_iload F.1 F.2.1 d_MO_shared_32 (lv_at hl 0 rfl) ?_
          refine lv_if_eq (tgt := 65) F.1 F.2.1 d_MO_shared_34 (by decide) (fun c34 => ?_) (fun c34 => ?_)
          · have c34 := (pN_eqI (a := j) (b := 0) rfl rfl (by omega) (by omega)).mp c34
            subst c34
            exact fin k hq ls hl
          · have c34 := mt (pN_eqI (a := j) (b := 0) rfl rfl (by omega) (by omega)).mpr c34
            have h0 : 0 < j := by omega
            have h1 := hpr j h0
            rw [shs j h0] at hq
            refine lv_aload_n F.1 F.2.1 d_MO_shared_37 rfl (lv_at hl 2 rfl) ?_
            refine lv_iload F.1 F.2.1 d_MO_shared_38 (lv_at hl 0 rfl) ?_
            refine lv_aload_n F.1 F.2.1 d_MO_shared_40 rfl (lv_at hl 2 rfl) ?_
            refine x_get F hK hO rfl i_MO 2 (by decide) k481 rfl rfl d_MO_shared_41 ?_
            refine x_rd (x_V (n := 2) (As := [.int (nI j), .int (nI (gn σ))]) F (c_MO_there l G ad σ wk (chO (gp σ) (fun _ => false) b) j (gn σ) (by omega) hn40 hpr (by rw [hok.2]; decide)) ok_MO_there k611 ⟨Nat.le_of_ble_eq_true rfl, Nat.le_of_ble_eq_true rfl⟩ rfl rfl hK (x_rcv hK hO rfl) (hP) rfl hl.1 rfl (Nat.le_of_ble_eq_true rfl) d_MO_shared_44 ⟨Nat.le_of_ble_eq_true rfl, Nat.le_of_ble_eq_true rfl⟩) ?_
            refine x_beq (tgt := 53) F d_MO_shared_47 (by decide) (fun c47 => ?_) (fun c47 => ?_)
            · rw [if_neg (by rw [c47]; decide)] at hq
              refine lv_aload_n F.1 F.2.1 d_MO_shared_53 rfl (lv_at hl 2 rfl) ?_
              refine x_get F hK hO rfl i_MO 0 (by decide) k479 rfl rfl d_MO_shared_54 ?_
              refine lv_iload F.1 F.2.1 d_MO_shared_57 (lv_at hl 0 rfl) ?_
              refine x_ialdN F hK hp (by decide) (by omega) d_MO_shared_59 ?_
              refine lv_istore (lv' := [(4, .int (nI (gp σ j))), (3, .int (nI k)), (0, .ref (ad 0)), (1, .int (nI a)), (2, .int (nI b))]) F.1 F.2.1 d_MO_shared_60 hl (by decide) rfl (fun ls hl => ?_)
              refine lv_goto (tgt := 32) F.1 F.2.1 d_MO_shared_62 (by decide) ?_
              exact ih (gp σ j) k (by omega) (by omega) hq ls hl
            · rw [if_pos c47] at hq
              refine lv_iinc (v := (nI (k + 1))) (lv' := [(3, .int (nI (k + 1))), (4, .int (nI j)), (0, .ref (ad 0)), (1, .int (nI a)), (2, .int (nI b))]) F.1 F.2.1 d_MO_shared_50 hl (k := 1) rfl (nI_1 k) (by decide) rfl (fun ls hl => ?_)
              refine lv_aload_n F.1 F.2.1 d_MO_shared_53 rfl (lv_at hl 2 rfl) ?_
              refine x_get F hK hO rfl i_MO 0 (by decide) k479 rfl rfl d_MO_shared_54 ?_
              refine lv_iload F.1 F.2.1 d_MO_shared_57 (lv_at hl 1 rfl) ?_
              refine x_ialdN F hK hp (by decide) (by omega) d_MO_shared_59 ?_
              refine lv_istore (lv' := [(4, .int (nI (gp σ j))), (3, .int (nI (k + 1))), (0, .ref (ad 0)), (1, .int (nI a)), (2, .int (nI b))]) F.1 F.2.1 d_MO_shared_60 hl (by decide) rfl (fun ls hl => ?_)
              refine lv_goto (tgt := 32) F.1 F.2.1 d_MO_shared_62 (by decide) ?_
              exact ih (gp σ j) (k + 1) (by omega) (by omega) (by omega) ls (lv_sub hl [0, 1, 2, 3, 4] rfl)
      refine lv_iconst (v := 0) F.1 F.2.1 d_MO_shared_27 (by decide) ?_
      refine lv_istore_n (lv' := [(3, .int 0), (0, .ref (ad 0)), (1, .int (nI a)), (2, .int (nI b))]) F.1 F.2.1 d_MO_shared_28 rfl hl (by decide) rfl (fun ls hl => ?_)
      refine lv_iload_n F.1 F.2.1 d_MO_shared_29 rfl (lv_at hl 2 rfl) ?_
      refine lv_istore (lv' := [(4, .int (nI a)), (3, .int 0), (0, .ref (ad 0)), (1, .int (nI a)), (2, .int (nI b))]) F.1 F.2.1 d_MO_shared_30 hl (by decide) rfl (fun ls hl => ?_)
      exact loop a a 0 (Nat.le_refl _) (by omega) (Nat.zero_add _) ls hl
    · refine lv_iconst (v := (-1)) F.1 F.2.1 d_MO_shared_16 (by decide) ?_
      exact hret _ _ _ _ _ _ _ d_MO_shared_17 (by unfold shrS; rw [c13, Bool.and_false]; exact ⟨rfl, ⟨_, _, hP⟩, hS.off⟩) hS.2.2 (Nat.le_refl _) (Nat.le_refl _)

