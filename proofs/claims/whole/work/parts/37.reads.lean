/-! ===== ImageStores: the calls that only read ===== -/
theorem inR_rg (y : Int32) : pj_inR y = rgB y := by
  unfold pj_inR rgB
  by_cases h : y < (125 : Int32)
  · rw [decide_eq_true h, decide_eq_false (show ¬ nI 125 ≤ y from Int32.not_le.mpr h)]; rfl
  · rw [decide_eq_false h, decide_eq_true (show nI 125 ≤ y from Int32.not_lt.mp h)]; rfl
theorem inS_ho {σ : Sg} (hok : gI σ) {s : Nat} (hs : s < 2) (z : Int32) : inS (gh σ s) z = hoB σ s z := by
  have hn40 := hok.1.2.1
  rcases pk_ix z (n := 40) (by decide) with q | q | ⟨j, q1, rfl⟩
  · rw [inS_out _ (Or.inl q)]
    unfold hoB isB
    rw [decide_eq_true q]; rfl
  · rw [inS_out _ (Or.inr q)]
    unfold hoB isB
    rw [decide_eq_true (show nI (gn σ) ≤ z from Int32.le_trans (nI_le hn40 (by decide)) q)]; simp
  · rw [inS_n _ q1]
    unfold hoB
    rw [nI_clamp (show j < 2 ^ 31 by omega)]
    cases hh : gh σ s j with
    | false => rw [Bool.and_false]
    | true => rw [isB_n hn40 (hok.1.2.2.2.2.2.2.1 s hs j q1 hh)]; rfl
section RP
variable (l : Launch) (G : x_G) (ca : Nat → Nat) (σ : Sg) (nl : Nat) (num rp : Nat → Nat) (f : Nat → Int64) (sn : Nat → Int32)
theorem c_IS_named (x y : Int32) : Met l y_IS_named (x_ws y_IS_named b_IS_named 3 (some .int)) (x_rm 1 0 0) (x_P G [.ref (ca 0), .int x, .int y] (CW G ca σ nl num rp f sn)) (k2_QcV (.int (namS σ x y))) 0 0 (fun _ => False) := by
  refine x_mI (by decide +kernel) (Nat.le_of_ble_eq_true rfl) (fun p e s m args below meth c F hK hP ls hl Q hret => ?_)
  have hl : lv_has ls 3 [(0, .ref (ca 0)), (1, .int x), (2, .int y)] := hl
  obtain ⟨hin, hne, hO, hB, hs0, hs1, hdr, hse⟩ := id hP
  obtain ⟨hZ, ⟨ci, ei, hIm, hie⟩, ⟨cy, ey, hLy, hle⟩, hig, htg, hlg⟩ := id hB
  obtain ⟨⟨mo1, hA1⟩, -⟩ := id hIm
  obtain ⟨⟨mo3, hA3⟩, -⟩ := id hLy
  have hT5 := hs0.1
  have hT8 := hs1.1
  have hT11 := hdr.1
  refine lv_iload_n F.1 F.2.1 d_IS_named_0 rfl (lv_at hl 1 rfl) ?_
  refine x_rd (x_S (n := 1) (As := [.int x]) F (c_IS_isStore l G x) ok_IS_isStore k346 ⟨Nat.le_of_ble_eq_true rfl, Nat.le_of_ble_eq_true rfl⟩ rfl rfl hK (trivial) rfl hl.1 rfl (Nat.le_of_ble_eq_true rfl) d_IS_named_1 ⟨Nat.le_of_ble_eq_true rfl, Nat.le_of_ble_eq_true rfl⟩) ?_
  refine x_beq (tgt := 14) F d_IS_named_4 (by decide) (fun c4 => ?_) (fun c4 => ?_)
  · refine lv_iconst (v := (-1)) F.1 F.2.1 d_IS_named_14 (by decide) ?_
    exact hret _ _ _ d_IS_named_15 (by unfold namS; rw [if_pos (by rw [bad_eq, c4]; rfl)])
  · refine lv_iload_n F.1 F.2.1 d_IS_named_7 rfl (lv_at hl 2 rfl) ?_
    refine x_rd (x_S (n := 1) (As := [.int y]) F (c_IS_isTag l G y) ok_IS_isTag k349 ⟨Nat.le_of_ble_eq_true rfl, Nat.le_of_ble_eq_true rfl⟩ rfl rfl hK (trivial) rfl hl.1 rfl (Nat.le_of_ble_eq_true rfl) d_IS_named_8 ⟨Nat.le_of_ble_eq_true rfl, Nat.le_of_ble_eq_true rfl⟩) ?_
    refine x_bne (tgt := 16) F d_IS_named_11 (by decide) (fun c11 => ?_) (fun c11 => ?_)
    · obtain ⟨s0, hs0', rfl⟩ := st_of c4
      obtain ⟨t0, ht0, rfl⟩ := tg_of c11
      have hv : namS σ (nI s0) (nI t0) = nI (gg σ s0 t0) := by unfold namS; rw [if_neg (by rw [badTag_n hs0' ht0]; decide), show (nI s0).toNatClampNeg = s0 from nI_clamp (by omega), show (nI t0).toNatClampNeg = t0 from nI_clamp (by omega)]
      have hST := hP.st hs0'
      have hTs := hST.1
      refine lv_aload_n F.1 F.2.1 d_IS_named_16 rfl (lv_at hl 0 rfl) ?_
      refine lv_iload_n F.1 F.2.1 d_IS_named_17 rfl (lv_at hl 1 rfl) ?_
      refine x_rd (x_V (n := 1) (As := [.int (nI s0)]) F (c_IS_storeOf l G ca σ nl num rp f sn s0 hs0') ok_IS_storeOf k352 ⟨Nat.le_of_ble_eq_true rfl, Nat.le_of_ble_eq_true rfl⟩ rfl rfl hK (x_rcv hK hO rfl) (hP) rfl hl.1 rfl (Nat.le_of_ble_eq_true rfl) d_IS_named_18 ⟨Nat.le_of_ble_eq_true rfl, Nat.le_of_ble_eq_true rfl⟩) ?_
      refine lv_iload_n F.1 F.2.1 d_IS_named_21 rfl (lv_at hl 2 rfl) ?_
      refine x_rd (x_V (n := 1) (As := [.int (nI t0)]) F (c_ST_nameOf l G (ca (5 + 3 * s0)) (ca (5 + 3 * s0 + 1)) (ca (5 + 3 * s0 + 2)) (gh σ s0) (gg σ s0) t0 ht0) ok_ST_nameOf k356 ⟨Nat.le_of_ble_eq_true rfl, Nat.le_of_ble_eq_true rfl⟩ rfl rfl hK (x_rcv hK hTs rfl) (hST) rfl hl.1 rfl (Nat.le_of_ble_eq_true rfl) d_IS_named_22 ⟨Nat.le_of_ble_eq_true rfl, Nat.le_of_ble_eq_true rfl⟩) ?_
      exact hret _ _ _ d_IS_named_25 (by rw [hv])
    · refine lv_iconst (v := (-1)) F.1 F.2.1 d_IS_named_14 (by decide) ?_
      exact hret _ _ _ d_IS_named_15 (by unfold namS; rw [if_pos (by rw [bad_eq, c4, c11]; rfl)])
theorem c_IS_held (x z : Int32) (hok : gI σ) : Met l y_IS_held (x_ws y_IS_held b_IS_held 3 (some .boolean)) (x_rm 1 0 0) (x_P G [.ref (ca 0), .int x, .int z] (CW G ca σ nl num rp f sn)) (k2_QcV (.int (x_b (hldS σ x z)))) 0 0 (fun _ => False) := by
  refine x_mZ (by decide +kernel) (Nat.le_of_ble_eq_true rfl) (fun p e s m args below meth c F hK hP ls hl Q hret => ?_)
  have hl : lv_has ls 3 [(0, .ref (ca 0)), (1, .int x), (2, .int z)] := hl
  obtain ⟨hin, hne, hO, hB, hs0, hs1, hdr, hse⟩ := id hP
  obtain ⟨hZ, ⟨ci, ei, hIm, hie⟩, ⟨cy, ey, hLy, hle⟩, hig, htg, hlg⟩ := id hB
  obtain ⟨⟨mo1, hA1⟩, -⟩ := id hIm
  obtain ⟨⟨mo3, hA3⟩, -⟩ := id hLy
  have hT5 := hs0.1
  have hT8 := hs1.1
  have hT11 := hdr.1
  refine lv_iload_n F.1 F.2.1 d_IS_held_0 rfl (lv_at hl 1 rfl) ?_
  refine x_rd (x_S (n := 1) (As := [.int x]) F (c_IS_isStore l G x) ok_IS_isStore k346 ⟨Nat.le_of_ble_eq_true rfl, Nat.le_of_ble_eq_true rfl⟩ rfl rfl hK (trivial) rfl hl.1 rfl (Nat.le_of_ble_eq_true rfl) d_IS_held_1 ⟨Nat.le_of_ble_eq_true rfl, Nat.le_of_ble_eq_true rfl⟩) ?_
  refine x_beq (tgt := 23) F d_IS_held_4 (by decide) (fun c4 => ?_) (fun c4 => ?_)
  · refine lv_iconst (v := 0) F.1 F.2.1 d_IS_held_23 (by decide) ?_
    exact hret _ _ _ d_IS_held_24 (by unfold hldS; rw [c4]; rfl)
  · obtain ⟨s0, hs0', rfl⟩ := st_of c4
    have hv : hldS σ (nI s0) z = hoB σ s0 z := by unfold hldS; rw [st01_n s0 hs0', show (nI s0).toNatClampNeg = s0 from nI_clamp (by omega)]; rfl
    have hST := hP.st hs0'
    have hTs := hST.1
    refine lv_aload_n F.1 F.2.1 d_IS_held_7 rfl (lv_at hl 0 rfl) ?_
    refine lv_iload_n F.1 F.2.1 d_IS_held_8 rfl (lv_at hl 1 rfl) ?_
    refine x_rd (x_V (n := 1) (As := [.int (nI s0)]) F (c_IS_storeOf l G ca σ nl num rp f sn s0 hs0') ok_IS_storeOf k352 ⟨Nat.le_of_ble_eq_true rfl, Nat.le_of_ble_eq_true rfl⟩ rfl rfl hK (x_rcv hK hO rfl) (hP) rfl hl.1 rfl (Nat.le_of_ble_eq_true rfl) d_IS_held_9 ⟨Nat.le_of_ble_eq_true rfl, Nat.le_of_ble_eq_true rfl⟩) ?_
    refine lv_iload_n F.1 F.2.1 d_IS_held_12 rfl (lv_at hl 2 rfl) ?_
    refine x_rd (x_V (n := 1) (As := [.int z]) F (c_ST_holds l G (ca (5 + 3 * s0)) (ca (5 + 3 * s0 + 1)) (ca (5 + 3 * s0 + 2)) (gh σ s0) (gg σ s0) z) ok_ST_holds k192 ⟨Nat.le_of_ble_eq_true rfl, Nat.le_of_ble_eq_true rfl⟩ rfl rfl hK (x_rcv hK hTs rfl) (hST) rfl hl.1 rfl (Nat.le_of_ble_eq_true rfl) d_IS_held_13 ⟨Nat.le_of_ble_eq_true rfl, Nat.le_of_ble_eq_true rfl⟩) ?_
    refine x_beq (tgt := 23) F d_IS_held_16 (by decide) (fun c16 => ?_) (fun c16 => ?_)
    · refine lv_iconst (v := 0) F.1 F.2.1 d_IS_held_23 (by decide) ?_
      exact hret _ _ _ d_IS_held_24 (by rw [hv, ← inS_ho hok hs0', c16]; rfl)
    · refine lv_iconst (v := 1) F.1 F.2.1 d_IS_held_19 (by decide) ?_
      refine lv_goto (tgt := 24) F.1 F.2.1 d_IS_held_20 (by decide) ?_
      exact hret _ _ _ d_IS_held_24 (by rw [hv, ← inS_ho hok hs0', c16]; rfl)
theorem rg_n {y : Int32} (h : rgB y = true) : ∃ k : Nat, k < 125 ∧ y = nI k := by
  unfold rgB at h
  simp only [Bool.and_eq_true, Bool.not_eq_true', decide_eq_false_iff_not] at h
  rcases pk_ix y (n := 125) (by decide) with q | q | q
  · exact absurd q h.1
  · exact absurd q h.2
  · exact q
theorem c_IS_look (x y : Int32) (hok : gI σ) : Met l y_IS_look (x_ws y_IS_look b_IS_look 3 (some .long)) (x_rm 3 0 0) (x_P G [.ref (ca 0), .int x, .int y] (CW G ca σ nl num rp f sn)) (k2_QcV (.long (lokS σ x y))) 0 0 (fun _ => False) := by
  refine x_mL (by decide +kernel) (Nat.le_of_ble_eq_true rfl) (fun p e s m args below meth c F hK hP ls hl Q hret => ?_)
  have hl : lv_has ls 3 [(0, .ref (ca 0)), (1, .int x), (2, .int y)] := hl
  have hn40 := hok.1.2.1
  obtain ⟨hin, hne, hO, hB, hs0, hs1, hdr, hse⟩ := id hP
  obtain ⟨hZ, ⟨ci, ei, hIm, hie⟩, ⟨cy, ey, hLy, hle⟩, hig, htg, hlg⟩ := id hB
  obtain ⟨⟨mo1, hA1⟩, -⟩ := id hIm
  obtain ⟨⟨mo3, hA3⟩, -⟩ := id hLy
  have hT5 := hs0.1
  have hT8 := hs1.1
  have hT11 := hdr.1
  refine lv_aload_n F.1 F.2.1 d_IS_look_0 rfl (lv_at hl 0 rfl) ?_
  refine lv_iload_n F.1 F.2.1 d_IS_look_1 rfl (lv_at hl 1 rfl) ?_
  refine x_rd (x_V (n := 1) (As := [.int x]) F (c_IS_isMade l G ca σ nl num rp f sn x) ok_IS_isMade k184 ⟨Nat.le_of_ble_eq_true rfl, Nat.le_of_ble_eq_true rfl⟩ rfl rfl hK (x_rcv hK hO rfl) (hP) rfl hl.1 rfl (Nat.le_of_ble_eq_true rfl) d_IS_look_2 ⟨Nat.le_of_ble_eq_true rfl, Nat.le_of_ble_eq_true rfl⟩) ?_
  refine x_beq (tgt := 15) F d_IS_look_5 (by decide) (fun c5 => ?_) (fun c5 => ?_)
  · refine x_cst F k408 d_IS_look_15 ?_
    exact hret _ _ _ d_IS_look_18 (by unfold lokS; rw [c5]; rfl)
  · refine lv_iload_n F.1 F.2.1 d_IS_look_8 rfl (lv_at hl 2 rfl) ?_
    refine x_rd (x_S (n := 1) (As := [.int y]) F (c_PA_inRange l G y) ok_PA_inRange k405 ⟨Nat.le_of_ble_eq_true rfl, Nat.le_of_ble_eq_true rfl⟩ rfl rfl hK (trivial) rfl hl.1 rfl (Nat.le_of_ble_eq_true rfl) d_IS_look_9 ⟨Nat.le_of_ble_eq_true rfl, Nat.le_of_ble_eq_true rfl⟩) ?_
    rw [inR_rg]
    refine x_bne (tgt := 19) F d_IS_look_12 (by decide) (fun c12 => ?_) (fun c12 => ?_)
    · have c5' := c5
      have c12' := c12
      obtain ⟨i, hi, rfl⟩ := isB_of hn40 c5
      obtain ⟨k, hk, rfl⟩ := rg_n c12
      refine lv_aload_n F.1 F.2.1 d_IS_look_19 rfl (lv_at hl 0 rfl) ?_
      refine x_get F hK hO rfl i_IS 0 (by decide) k158 rfl rfl d_IS_look_20 ?_
      refine lv_iload_n F.1 F.2.1 d_IS_look_23 rfl (lv_at hl 1 rfl) ?_
      refine x_rd (x_V (n := 1) (As := [.int (nI i)]) F (c_AL_get l G (ca 1) (ca 2) ci (gn σ) ei i (cI ca i) hi (by omega) (hie i hi)) ok_AL_get k196 ⟨Nat.le_of_ble_eq_true rfl, Nat.le_of_ble_eq_true rfl⟩ rfl rfl hK (x_rcv hK hA1 rfl) (hIm) rfl hl.1 rfl (Nat.le_of_ble_eq_true rfl) d_IS_look_24 ⟨Nat.le_of_ble_eq_true rfl, Nat.le_of_ble_eq_true rfl⟩) ?_
      have hI_i := (hig i hi).1
      have hN_i := (hig i hi).2.1
      have hX_i := htg i hi
      have hU_i := hX_i.1
      refine va_castY F.1 F.2.1 F.2.2.2.1 (F.2.2.2.2 _ k85) (hK.2.1 _ (List.mem_of_getElem? (i := 5) rfl)) (x_rcv hK hI_i rfl) d_IS_look_27 ?_
      refine x_getN F hK hI_i rfl i_IM 1 (by decide) 1 rfl rfl rfl d_IS_look_30 ?_
      refine lv_iload_n F.1 F.2.1 d_IS_look_33 rfl (lv_at hl 2 rfl) ?_
      refine x_rd (x_V (n := 1) (As := [.int (nI k)]) F (c_TR_at l G (cT ca i) (cM ca i) (gt σ i) k hk) ok_TR_at k409 ⟨Nat.le_of_ble_eq_true rfl, Nat.le_of_ble_eq_true rfl⟩ rfl rfl hK (x_rcv hK hU_i rfl) (hX_i) rfl hl.1 rfl (Nat.le_of_ble_eq_true rfl) d_IS_look_34 ⟨Nat.le_of_ble_eq_true rfl, Nat.le_of_ble_eq_true rfl⟩) ?_
      exact hret _ _ _ d_IS_look_37 (by unfold lokS; rw [c5', c12', Bool.and_true, if_pos rfl, show (nI i).toNatClampNeg = i from nI_clamp (by omega), show (nI k).toNatClampNeg = k from nI_clamp (by omega)])
    · refine x_cst F k408 d_IS_look_15 ?_
      exact hret _ _ _ d_IS_look_18 (by unfold lokS; rw [c12, Bool.and_false]; rfl)
theorem c_IS_next (x y : Int32) (hok : gI σ) : Met l y_IS_next (x_ws y_IS_next b_IS_next 3 (some .int)) (x_rm 3 0 0) (x_P G [.ref (ca 0), .int x, .int y] (CW G ca σ nl num rp f sn)) (k2_QcV (.int (nxtS σ x y))) 0 0 (fun _ => False) := by
  refine x_mI (by decide +kernel) (Nat.le_of_ble_eq_true rfl) (fun p e s m args below meth c F hK hP ls hl Q hret => ?_)
  have hl : lv_has ls 3 [(0, .ref (ca 0)), (1, .int x), (2, .int y)] := hl
  have hn40 := hok.1.2.1
  obtain ⟨hin, hne, hO, hB, hs0, hs1, hdr, hse⟩ := id hP
  obtain ⟨hZ, ⟨ci, ei, hIm, hie⟩, ⟨cy, ey, hLy, hle⟩, hig, htg, hlg⟩ := id hB
  obtain ⟨⟨mo1, hA1⟩, -⟩ := id hIm
  obtain ⟨⟨mo3, hA3⟩, -⟩ := id hLy
  have hT5 := hs0.1
  have hT8 := hs1.1
  have hT11 := hdr.1
  refine lv_aload_n F.1 F.2.1 d_IS_next_0 rfl (lv_at hl 0 rfl) ?_
  refine lv_iload_n F.1 F.2.1 d_IS_next_1 rfl (lv_at hl 1 rfl) ?_
  refine x_rd (x_V (n := 1) (As := [.int x]) F (c_IS_isMade l G ca σ nl num rp f sn x) ok_IS_isMade k184 ⟨Nat.le_of_ble_eq_true rfl, Nat.le_of_ble_eq_true rfl⟩ rfl rfl hK (x_rcv hK hO rfl) (hP) rfl hl.1 rfl (Nat.le_of_ble_eq_true rfl) d_IS_next_2 ⟨Nat.le_of_ble_eq_true rfl, Nat.le_of_ble_eq_true rfl⟩) ?_
  refine x_beq (tgt := 15) F d_IS_next_5 (by decide) (fun c5 => ?_) (fun c5 => ?_)
  · refine lv_iconst (v := (-1)) F.1 F.2.1 d_IS_next_15 (by decide) ?_
    exact hret _ _ _ d_IS_next_16 (by unfold nxtS; rw [c5]; rfl)
  · refine lv_iload_n F.1 F.2.1 d_IS_next_8 rfl (lv_at hl 2 rfl) ?_
    refine x_rd (x_S (n := 1) (As := [.int y]) F (c_PA_inRange l G y) ok_PA_inRange k405 ⟨Nat.le_of_ble_eq_true rfl, Nat.le_of_ble_eq_true rfl⟩ rfl rfl hK (trivial) rfl hl.1 rfl (Nat.le_of_ble_eq_true rfl) d_IS_next_9 ⟨Nat.le_of_ble_eq_true rfl, Nat.le_of_ble_eq_true rfl⟩) ?_
    rw [inR_rg]
    refine x_bne (tgt := 17) F d_IS_next_12 (by decide) (fun c12 => ?_) (fun c12 => ?_)
    · have c5' := c5
      have c12' := c12
      obtain ⟨i, hi, rfl⟩ := isB_of hn40 c5
      obtain ⟨k, hk, rfl⟩ := rg_n c12
      refine lv_aload_n F.1 F.2.1 d_IS_next_17 rfl (lv_at hl 0 rfl) ?_
      refine x_get F hK hO rfl i_IS 0 (by decide) k158 rfl rfl d_IS_next_18 ?_
      refine lv_iload_n F.1 F.2.1 d_IS_next_21 rfl (lv_at hl 1 rfl) ?_
      refine x_rd (x_V (n := 1) (As := [.int (nI i)]) F (c_AL_get l G (ca 1) (ca 2) ci (gn σ) ei i (cI ca i) hi (by omega) (hie i hi)) ok_AL_get k196 ⟨Nat.le_of_ble_eq_true rfl, Nat.le_of_ble_eq_true rfl⟩ rfl rfl hK (x_rcv hK hA1 rfl) (hIm) rfl hl.1 rfl (Nat.le_of_ble_eq_true rfl) d_IS_next_22 ⟨Nat.le_of_ble_eq_true rfl, Nat.le_of_ble_eq_true rfl⟩) ?_
      have hI_i := (hig i hi).1
      have hN_i := (hig i hi).2.1
      have hX_i := htg i hi
      have hU_i := hX_i.1
      refine va_castY F.1 F.2.1 F.2.2.2.1 (F.2.2.2.2 _ k85) (hK.2.1 _ (List.mem_of_getElem? (i := 5) rfl)) (x_rcv hK hI_i rfl) d_IS_next_25 ?_
      refine x_getN F hK hI_i rfl i_IM 1 (by decide) 1 rfl rfl rfl d_IS_next_28 ?_
      refine lv_iload_n F.1 F.2.1 d_IS_next_31 rfl (lv_at hl 2 rfl) ?_
      refine x_rd (x_V (n := 1) (As := [.int (nI k)]) F (c_TR_presentAfter l G (cT ca i) (cM ca i) (gt σ i) k hk) ok_TR_presentAfter k414 ⟨Nat.le_of_ble_eq_true rfl, Nat.le_of_ble_eq_true rfl⟩ rfl rfl hK (x_rcv hK hU_i rfl) (hX_i) rfl hl.1 rfl (Nat.le_of_ble_eq_true rfl) d_IS_next_32 ⟨Nat.le_of_ble_eq_true rfl, Nat.le_of_ble_eq_true rfl⟩) ?_
      exact hret _ _ _ d_IS_next_35 (by unfold nxtS; rw [c5', c12', Bool.and_true, if_pos rfl, show (nI i).toNatClampNeg = i from nI_clamp (by omega), show (nI k).toNatClampNeg = k from nI_clamp (by omega)])
    · refine lv_iconst (v := (-1)) F.1 F.2.1 d_IS_next_15 (by decide) ?_
      exact hret _ _ _ d_IS_next_16 (by unfold nxtS; rw [c12, Bool.and_false]; rfl)
theorem c_IS_layers (x : Int32) (hok : gI σ) : Met l y_IS_layers (x_ws y_IS_layers b_IS_layers 2 (some .int)) (x_rm 3 0 0) (x_P G [.ref (ca 0), .int x] (CW G ca σ nl num rp f sn)) (k2_QcV (.int (lysS σ x))) 0 0 (fun _ => False) := by
  refine x_mI (by decide +kernel) (Nat.le_of_ble_eq_true rfl) (fun p e s m args below meth c F hK hP ls hl Q hret => ?_)
  have hl : lv_has ls 2 [(0, .ref (ca 0)), (1, .int x)] := hl
  have hn40 := hok.1.2.1
  obtain ⟨hin, hne, hO, hB, hs0, hs1, hdr, hse⟩ := id hP
  obtain ⟨hZ, ⟨ci, ei, hIm, hie⟩, ⟨cy, ey, hLy, hle⟩, hig, htg, hlg⟩ := id hB
  obtain ⟨⟨mo1, hA1⟩, -⟩ := id hIm
  obtain ⟨⟨mo3, hA3⟩, -⟩ := id hLy
  have hT5 := hs0.1
  have hT8 := hs1.1
  have hT11 := hdr.1
  refine lv_aload_n F.1 F.2.1 d_IS_layers_0 rfl (lv_at hl 0 rfl) ?_
  refine lv_iload_n F.1 F.2.1 d_IS_layers_1 rfl (lv_at hl 1 rfl) ?_
  refine x_rd (x_V (n := 1) (As := [.int x]) F (c_IS_isMade l G ca σ nl num rp f sn x) ok_IS_isMade k184 ⟨Nat.le_of_ble_eq_true rfl, Nat.le_of_ble_eq_true rfl⟩ rfl rfl hK (x_rcv hK hO rfl) (hP) rfl hl.1 rfl (Nat.le_of_ble_eq_true rfl) d_IS_layers_2 ⟨Nat.le_of_ble_eq_true rfl, Nat.le_of_ble_eq_true rfl⟩) ?_
  refine x_beq (tgt := 26) F d_IS_layers_5 (by decide) (fun c5 => ?_) (fun c5 => ?_)
  · refine lv_iconst (v := (-1)) F.1 F.2.1 d_IS_layers_26 (by decide) ?_
    exact hret _ _ _ d_IS_layers_27 (by unfold lysS; rw [c5]; rfl)
  · have c5' := c5
    obtain ⟨i, hi, rfl⟩ := isB_of hn40 c5
    refine lv_aload_n F.1 F.2.1 d_IS_layers_8 rfl (lv_at hl 0 rfl) ?_
    refine x_get F hK hO rfl i_IS 0 (by decide) k158 rfl rfl d_IS_layers_9 ?_
    refine lv_iload_n F.1 F.2.1 d_IS_layers_12 rfl (lv_at hl 1 rfl) ?_
    refine x_rd (x_V (n := 1) (As := [.int (nI i)]) F (c_AL_get l G (ca 1) (ca 2) ci (gn σ) ei i (cI ca i) hi (by omega) (hie i hi)) ok_AL_get k196 ⟨Nat.le_of_ble_eq_true rfl, Nat.le_of_ble_eq_true rfl⟩ rfl rfl hK (x_rcv hK hA1 rfl) (hIm) rfl hl.1 rfl (Nat.le_of_ble_eq_true rfl) d_IS_layers_13 ⟨Nat.le_of_ble_eq_true rfl, Nat.le_of_ble_eq_true rfl⟩) ?_
    have hI_i := (hig i hi).1
    have hN_i := (hig i hi).2.1
    have hX_i := htg i hi
    have hU_i := hX_i.1
    refine va_castY F.1 F.2.1 F.2.2.2.1 (F.2.2.2.2 _ k85) (hK.2.1 _ (List.mem_of_getElem? (i := 5) rfl)) (x_rcv hK hI_i rfl) d_IS_layers_16 ?_
    refine x_getN F hK hI_i rfl i_IM 2 (by decide) 2 rfl rfl rfl d_IS_layers_19 ?_
    refine x_alen F hK hN_i 0 rfl d_IS_layers_22 ?_
    refine lv_goto (tgt := 27) F.1 F.2.1 d_IS_layers_23 (by decide) ?_
    exact hret _ _ _ d_IS_layers_27 (by unfold lysS; rw [if_pos c5', show (nI i).toNatClampNeg = i from nI_clamp (by omega), nuL_len])
theorem c_IS_entries (x y : Int32) (hok : gI σ) (hN : cNum σ nl num rp) : Met l y_IS_entries (x_ws y_IS_entries b_IS_entries 3 (some .int)) (x_rm 4 0 0) (x_P G [.ref (ca 0), .int x, .int y] (CW G ca σ nl num rp f sn)) (k2_QcV (.int (entS σ x y))) 0 0 (fun _ => False) := by
  refine x_mI (by decide +kernel) (Nat.le_of_ble_eq_true rfl) (fun p e s m args below meth c F hK hP ls hl Q hret => ?_)
  have hl : lv_has ls 3 [(0, .ref (ca 0)), (1, .int x), (2, .int y)] := hl
  obtain ⟨hin, hne, hO, hB, hs0, hs1, hdr, hse⟩ := id hP
  obtain ⟨hZ, ⟨ci, ei, hIm, hie⟩, ⟨cy, ey, hLy, hle⟩, hig, htg, hlg⟩ := id hB
  obtain ⟨⟨mo1, hA1⟩, -⟩ := id hIm
  obtain ⟨⟨mo3, hA3⟩, -⟩ := id hLy
  have hT5 := hs0.1
  have hT8 := hs1.1
  have hT11 := hdr.1
  refine lv_aload_n F.1 F.2.1 d_IS_entries_0 rfl (lv_at hl 0 rfl) ?_
  refine lv_iload_n F.1 F.2.1 d_IS_entries_1 rfl (lv_at hl 1 rfl) ?_
  refine lv_iload_n F.1 F.2.1 d_IS_entries_2 rfl (lv_at hl 2 rfl) ?_
  refine x_rd (x_V (n := 2) (As := [.int x, .int y]) F (c_IS_hasLayer l G ca σ nl num rp f sn x y hok) ok_IS_hasLayer k426 ⟨Nat.le_of_ble_eq_true rfl, Nat.le_of_ble_eq_true rfl⟩ rfl rfl hK (x_rcv hK hO rfl) (hP) rfl hl.1 rfl (Nat.le_of_ble_eq_true rfl) d_IS_entries_3 ⟨Nat.le_of_ble_eq_true rfl, Nat.le_of_ble_eq_true rfl⟩) ?_
  refine x_beq (tgt := 21) F d_IS_entries_6 (by decide) (fun c6 => ?_) (fun c6 => ?_)
  · refine lv_iconst (v := (-1)) F.1 F.2.1 d_IS_entries_21 (by decide) ?_
    exact hret _ _ _ d_IS_entries_22 (by unfold entS; unfold hlB at c6; rw [c6]; rfl)
  · have hv : entS σ x y = nI (eI σ (owB (gp σ) x.toNatClampNeg y) 125).length := by unfold entS; exact if_pos c6
    obtain ⟨i, t, hi, rfl, ht, rfl, hov, ho0, hog, hci⟩ := hl_of hok c6
    rw [hci, hov] at hv
    generalize hoo : (cn (gp σ) i).getD t 0 = o at hov ho0 hog hv
    have hLo := LY_of hok hN ho0 hog hlg
    have hLq := hLo.1
    refine lv_aload_n F.1 F.2.1 d_IS_entries_9 rfl (lv_at hl 0 rfl) ?_
    refine lv_iload_n F.1 F.2.1 d_IS_entries_10 rfl (lv_at hl 1 rfl) ?_
    refine lv_iload_n F.1 F.2.1 d_IS_entries_11 rfl (lv_at hl 2 rfl) ?_
    refine x_rd (x_V (n := 2) (As := [.int (nI i), .int (nI t)]) F (c_IS_layerOf l G ca σ nl num rp f sn i t hok hN hi ht) ok_IS_layerOf k430 ⟨Nat.le_of_ble_eq_true rfl, Nat.le_of_ble_eq_true rfl⟩ rfl rfl hK (x_rcv hK hO rfl) (hP) rfl hl.1 rfl (Nat.le_of_ble_eq_true rfl) d_IS_entries_12 ⟨Nat.le_of_ble_eq_true rfl, Nat.le_of_ble_eq_true rfl⟩) ?_
    rw [hoo]
    refine x_rd (x_V (n := 0) (As := []) F (c_LY_size l G (cY ca (num o)) (cP ca (num o)) (cQ ca (num o)) (eI σ o 125) (mkI σ o)) ok_LY_size k434 ⟨Nat.le_of_ble_eq_true rfl, Nat.le_of_ble_eq_true rfl⟩ rfl rfl hK (x_rcv hK hLq rfl) (hLo) rfl hl.1 rfl (Nat.le_of_ble_eq_true rfl) d_IS_entries_15 ⟨Nat.le_of_ble_eq_true rfl, Nat.le_of_ble_eq_true rfl⟩) ?_
    refine lv_goto (tgt := 22) F.1 F.2.1 d_IS_entries_18 (by decide) ?_
    exact hret _ _ _ d_IS_entries_22 (by rw [hv])
theorem he_of {σ : Sg} (hok : gI σ) {x y z : Int32} (h : heB σ x y z = true) : ∃ i t k : Nat, i < gn σ ∧ x = nI i ∧ t < (cn (gp σ) i).length ∧ y = nI t ∧ 0 < (cn (gp σ) i).getD t 0 ∧ (cn (gp σ) i).getD t 0 < gn σ ∧ z = nI k ∧ k < (eI σ ((cn (gp σ) i).getD t 0) 125).length ∧ eptS σ x y z = nI ((eI σ ((cn (gp σ) i).getD t 0) 125).getD k 0) ∧ emkS σ x y z = mkI σ ((cn (gp σ) i).getD t 0) ((eI σ ((cn (gp σ) i).getD t 0) 125).getD k 0) := by
  unfold heB at h
  rw [Bool.and_eq_true, Bool.and_eq_true] at h
  have h2 := h.1.1
  obtain ⟨i, t, hi, rfl, ht, rfl, hov, ho0, hog, hci⟩ := hl_of hok h.1.1
  rw [hci, hov] at h
  have hel := eI_len σ ((cn (gp σ) i).getD t 0) 125
  have hz0 : ¬ z < 0 := by simpa using h.1.2
  have hz1 : ¬ nI (eI σ ((cn (gp σ) i).getD t 0) 125).length ≤ z := by simpa using h.2
  rcases pk_ix z (n := (eI σ ((cn (gp σ) i).getD t 0) 125).length) (by omega) with q | q | ⟨k, q1, rfl⟩
  · exact absurd q hz0
  · exact absurd q hz1
  · have he : eptS σ (nI i) (nI t) (nI k) = nI ((eI σ ((cn (gp σ) i).getD t 0) 125).getD k 0) := by
      unfold eptS
      rw [hci, hov, show (nI k).toNatClampNeg = k from nI_clamp (by omega)]
      unfold hlB at h2
      rw [hci, hov] at h2
      rw [h2, decide_eq_false hz0, if_pos (by rfl), if_pos q1]
    have m1 := eI_mem q1 rfl
    refine ⟨i, t, k, hi, rfl, ht, rfl, ho0, hog, rfl, q1, he, ?_⟩
    unfold emkS
    rw [he, if_neg ?_, hci, hov, nI_clamp (by omega)]
    intro hc
    exact absurd (hc ▸ nI_pos (n := (eI σ ((cn (gp σ) i).getD t 0) 125).getD k 0) (by omega)) (by decide)
theorem he_no {σ : Sg} (hok : gI σ) {x y z : Int32} (h : heB σ x y z = false) : eptS σ x y z = -1 := by
  unfold eptS
  by_cases hc : (isB σ x && !decide (owB (gp σ) x.toNatClampNeg y = 0) && !decide (z < 0)) = true
  · rw [if_pos hc]
    rw [Bool.and_eq_true] at hc
    have hl : hlB σ x y = true := hc.1
    have hz0 : ¬ z < 0 := by simpa using hc.2
    obtain ⟨j, hj, rfl⟩ := nI_of hz0
    have hel := eI_len σ (owB (gp σ) x.toNatClampNeg y) 125
    rw [nI_clamp hj, if_neg]
    intro hlt
    unfold heB at h
    rw [hl, decide_eq_false hz0, decide_eq_false (nI_ge hlt (by omega))] at h
    cases h
  · rw [if_neg hc]
theorem c_IS_entryPath (x y z : Int32) (hok : gI σ) (hN : cNum σ nl num rp) : Met l y_IS_entryPath (x_ws y_IS_entryPath b_IS_entryPath 4 (some .int)) (x_rm 5 0 0) (x_P G [.ref (ca 0), .int x, .int y, .int z] (CW G ca σ nl num rp f sn)) (k2_QcV (.int (eptS σ x y z))) 0 0 (fun _ => False) := by
  refine x_mI (by decide +kernel) (Nat.le_of_ble_eq_true rfl) (fun p e s m args below meth c F hK hP ls hl Q hret => ?_)
  have hl : lv_has ls 4 [(0, .ref (ca 0)), (1, .int x), (2, .int y), (3, .int z)] := hl
  obtain ⟨hin, hne, hO, hB, hs0, hs1, hdr, hse⟩ := id hP
  obtain ⟨hZ, ⟨ci, ei, hIm, hie⟩, ⟨cy, ey, hLy, hle⟩, hig, htg, hlg⟩ := id hB
  obtain ⟨⟨mo1, hA1⟩, -⟩ := id hIm
  obtain ⟨⟨mo3, hA3⟩, -⟩ := id hLy
  have hT5 := hs0.1
  have hT8 := hs1.1
  have hT11 := hdr.1
  refine lv_aload_n F.1 F.2.1 d_IS_entryPath_0 rfl (lv_at hl 0 rfl) ?_
  refine lv_iload_n F.1 F.2.1 d_IS_entryPath_1 rfl (lv_at hl 1 rfl) ?_
  refine lv_iload_n F.1 F.2.1 d_IS_entryPath_2 rfl (lv_at hl 2 rfl) ?_
  refine lv_iload_n F.1 F.2.1 d_IS_entryPath_3 rfl (lv_at hl 3 rfl) ?_
  refine x_rd (x_V (n := 3) (As := [.int x, .int y, .int z]) F (c_IS_hasEntry l G ca σ nl num rp f sn x y z hok hN) ok_IS_hasEntry k442 ⟨Nat.le_of_ble_eq_true rfl, Nat.le_of_ble_eq_true rfl⟩ rfl rfl hK (x_rcv hK hO rfl) (hP) rfl hl.1 rfl (Nat.le_of_ble_eq_true rfl) d_IS_entryPath_4 ⟨Nat.le_of_ble_eq_true rfl, Nat.le_of_ble_eq_true rfl⟩) ?_
  refine x_beq (tgt := 24) F d_IS_entryPath_7 (by decide) (fun c7 => ?_) (fun c7 => ?_)
  · refine lv_iconst (v := (-1)) F.1 F.2.1 d_IS_entryPath_24 (by decide) ?_
    exact hret _ _ _ d_IS_entryPath_25 (by rw [he_no hok c7])
  · obtain ⟨i, t, k, hi, rfl, ht, rfl, ho0, hog, rfl, hk, hv, -⟩ := he_of hok c7
    generalize hoo : (cn (gp σ) i).getD t 0 = o at ho0 hog hk hv
    obtain ⟨hLq, hLp, hLm, -⟩ := LY_of hok hN ho0 hog hlg
    have hel := eI_len σ o 125
    refine lv_aload_n F.1 F.2.1 d_IS_entryPath_10 rfl (lv_at hl 0 rfl) ?_
    refine lv_iload_n F.1 F.2.1 d_IS_entryPath_11 rfl (lv_at hl 1 rfl) ?_
    refine lv_iload_n F.1 F.2.1 d_IS_entryPath_12 rfl (lv_at hl 2 rfl) ?_
    refine x_rd (x_V (n := 2) (As := [.int (nI i), .int (nI t)]) F (c_IS_layerOf l G ca σ nl num rp f sn i t hok hN hi ht) ok_IS_layerOf k430 ⟨Nat.le_of_ble_eq_true rfl, Nat.le_of_ble_eq_true rfl⟩ rfl rfl hK (x_rcv hK hO rfl) (hP) rfl hl.1 rfl (Nat.le_of_ble_eq_true rfl) d_IS_entryPath_13 ⟨Nat.le_of_ble_eq_true rfl, Nat.le_of_ble_eq_true rfl⟩) ?_
    rw [hoo]
    refine x_getN F hK hLq rfl i_LY 0 (by decide) 3 rfl rfl rfl d_IS_entryPath_16 ?_
    refine lv_iload_n F.1 F.2.1 d_IS_entryPath_19 rfl (lv_at hl 3 rfl) ?_
    refine x_ialdN F hK hLp (by omega) (by omega) d_IS_entryPath_20 ?_
    refine lv_goto (tgt := 25) F.1 F.2.1 d_IS_entryPath_21 (by decide) ?_
    exact hret _ _ _ d_IS_entryPath_25 (by rw [hv])
theorem c_IS_entryMark (x y z : Int32) (hok : gI σ) (hN : cNum σ nl num rp) : Met l y_IS_entryMark (x_ws y_IS_entryMark b_IS_entryMark 4 (some .long)) (x_rm 5 0 0) (x_P G [.ref (ca 0), .int x, .int y, .int z] (CW G ca σ nl num rp f sn)) (k2_QcV (.long (emkS σ x y z))) 0 0 (fun _ => False) := by
  refine x_mL (by decide +kernel) (Nat.le_of_ble_eq_true rfl) (fun p e s m args below meth c F hK hP ls hl Q hret => ?_)
  have hl : lv_has ls 4 [(0, .ref (ca 0)), (1, .int x), (2, .int y), (3, .int z)] := hl
  obtain ⟨hin, hne, hO, hB, hs0, hs1, hdr, hse⟩ := id hP
  obtain ⟨hZ, ⟨ci, ei, hIm, hie⟩, ⟨cy, ey, hLy, hle⟩, hig, htg, hlg⟩ := id hB
  obtain ⟨⟨mo1, hA1⟩, -⟩ := id hIm
  obtain ⟨⟨mo3, hA3⟩, -⟩ := id hLy
  have hT5 := hs0.1
  have hT8 := hs1.1
  have hT11 := hdr.1
  refine lv_aload_n F.1 F.2.1 d_IS_entryMark_0 rfl (lv_at hl 0 rfl) ?_
  refine lv_iload_n F.1 F.2.1 d_IS_entryMark_1 rfl (lv_at hl 1 rfl) ?_
  refine lv_iload_n F.1 F.2.1 d_IS_entryMark_2 rfl (lv_at hl 2 rfl) ?_
  refine lv_iload_n F.1 F.2.1 d_IS_entryMark_3 rfl (lv_at hl 3 rfl) ?_
  refine x_rd (x_V (n := 3) (As := [.int x, .int y, .int z]) F (c_IS_hasEntry l G ca σ nl num rp f sn x y z hok hN) ok_IS_hasEntry k442 ⟨Nat.le_of_ble_eq_true rfl, Nat.le_of_ble_eq_true rfl⟩ rfl rfl hK (x_rcv hK hO rfl) (hP) rfl hl.1 rfl (Nat.le_of_ble_eq_true rfl) d_IS_entryMark_4 ⟨Nat.le_of_ble_eq_true rfl, Nat.le_of_ble_eq_true rfl⟩) ?_
  refine x_beq (tgt := 24) F d_IS_entryMark_7 (by decide) (fun c7 => ?_) (fun c7 => ?_)
  · refine x_cst F k408 d_IS_entryMark_24 ?_
    exact hret _ _ _ d_IS_entryMark_27 (by unfold emkS; rw [if_pos (he_no hok c7)])
  · obtain ⟨i, t, k, hi, rfl, ht, rfl, ho0, hog, rfl, hk, -, hv⟩ := he_of hok c7
    generalize hoo : (cn (gp σ) i).getD t 0 = o at ho0 hog hk hv
    obtain ⟨hLq, hLp, hLm, -⟩ := LY_of hok hN ho0 hog hlg
    have hel := eI_len σ o 125
    refine lv_aload_n F.1 F.2.1 d_IS_entryMark_10 rfl (lv_at hl 0 rfl) ?_
    refine lv_iload_n F.1 F.2.1 d_IS_entryMark_11 rfl (lv_at hl 1 rfl) ?_
    refine lv_iload_n F.1 F.2.1 d_IS_entryMark_12 rfl (lv_at hl 2 rfl) ?_
    refine x_rd (x_V (n := 2) (As := [.int (nI i), .int (nI t)]) F (c_IS_layerOf l G ca σ nl num rp f sn i t hok hN hi ht) ok_IS_layerOf k430 ⟨Nat.le_of_ble_eq_true rfl, Nat.le_of_ble_eq_true rfl⟩ rfl rfl hK (x_rcv hK hO rfl) (hP) rfl hl.1 rfl (Nat.le_of_ble_eq_true rfl) d_IS_entryMark_13 ⟨Nat.le_of_ble_eq_true rfl, Nat.le_of_ble_eq_true rfl⟩) ?_
    rw [hoo]
    refine x_getN F hK hLq rfl i_LY 1 (by decide) 4 rfl rfl rfl d_IS_entryMark_16 ?_
    refine lv_iload_n F.1 F.2.1 d_IS_entryMark_19 rfl (lv_at hl 3 rfl) ?_
    refine x_laldN F hK hLm (by omega) (by omega) d_IS_entryMark_20 ?_
    refine lv_goto (tgt := 27) F.1 F.2.1 d_IS_entryMark_21 (by decide) ?_
    exact hret _ _ _ d_IS_entryMark_27 (by rw [hv])
theorem c_IS_common (x y : Int32) (hok : gI σ) (hN : cNum σ nl num rp) : Met l y_IS_common (x_ws y_IS_common b_IS_common 7 (some .int)) (x_rm 3 0 0) (x_P G [.ref (ca 0), .int x, .int y] (CW G ca σ nl num rp f sn)) (k2_QcV (.int (comS σ x y))) 0 0 (fun _ => False) := by
  refine x_mI (by decide +kernel) (Nat.le_of_ble_eq_true rfl) (fun p e s m args below meth c F hK hP ls hl Q hret => ?_)
  have hl : lv_has ls 7 [(0, .ref (ca 0)), (1, .int x), (2, .int y)] := hl
  have hn40 := hok.1.2.1
  have hnl := hN.1
  have hpr := hok.1.2.2.1
  obtain ⟨hin, hne, hO, hB, hs0, hs1, hdr, hse⟩ := id hP
  obtain ⟨hZ, ⟨ci, ei, hIm, hie⟩, ⟨cy, ey, hLy, hle⟩, hig, htg, hlg⟩ := id hB
  obtain ⟨⟨mo1, hA1⟩, -⟩ := id hIm
  obtain ⟨⟨mo3, hA3⟩, -⟩ := id hLy
  have hT5 := hs0.1
  have hT8 := hs1.1
  have hT11 := hdr.1
  refine lv_aload_n F.1 F.2.1 d_IS_common_0 rfl (lv_at hl 0 rfl) ?_
  refine lv_iload_n F.1 F.2.1 d_IS_common_1 rfl (lv_at hl 1 rfl) ?_
  refine x_rd (x_V (n := 1) (As := [.int x]) F (c_IS_isMade l G ca σ nl num rp f sn x) ok_IS_isMade k184 ⟨Nat.le_of_ble_eq_true rfl, Nat.le_of_ble_eq_true rfl⟩ rfl rfl hK (x_rcv hK hO rfl) (hP) rfl hl.1 rfl (Nat.le_of_ble_eq_true rfl) d_IS_common_2 ⟨Nat.le_of_ble_eq_true rfl, Nat.le_of_ble_eq_true rfl⟩) ?_
  refine x_beq (tgt := 16) F d_IS_common_5 (by decide) (fun c5 => ?_) (fun c5 => ?_)
  · refine lv_iconst (v := (-1)) F.1 F.2.1 d_IS_common_16 (by decide) ?_
    exact hret _ _ _ d_IS_common_17 (by unfold comS; rw [c5]; rfl)
  · refine lv_aload_n F.1 F.2.1 d_IS_common_8 rfl (lv_at hl 0 rfl) ?_
    refine lv_iload_n F.1 F.2.1 d_IS_common_9 rfl (lv_at hl 2 rfl) ?_
    refine x_rd (x_V (n := 1) (As := [.int y]) F (c_IS_isMade l G ca σ nl num rp f sn y) ok_IS_isMade k184 ⟨Nat.le_of_ble_eq_true rfl, Nat.le_of_ble_eq_true rfl⟩ rfl rfl hK (x_rcv hK hO rfl) (hP) rfl hl.1 rfl (Nat.le_of_ble_eq_true rfl) d_IS_common_10 ⟨Nat.le_of_ble_eq_true rfl, Nat.le_of_ble_eq_true rfl⟩) ?_
    refine x_bne (tgt := 18) F d_IS_common_13 (by decide) (fun c13 => ?_) (fun c13 => ?_)
    · have hv : comS σ x y = nI (cmI (cmP σ x.toNatClampNeg y.toNatClampNeg) 40 0) := by unfold comS; rw [c5, c13]; rfl
      obtain ⟨a, ha, rfl⟩ := isB_of hn40 c5
      obtain ⟨b, hb, rfl⟩ := isB_of hn40 c13
      rw [show (nI a).toNatClampNeg = a from nI_clamp (by omega), show (nI b).toNatClampNeg = b from nI_clamp (by omega)] at hv
      have hla := cn_len hpr a a (Nat.le_refl _)
      have hlb := cn_len hpr b b (Nat.le_refl _)
      have hna := nuL_len (gp σ) num a
      have hnb := nuL_len (gp σ) num b
      refine lv_aload_n F.1 F.2.1 d_IS_common_18 rfl (lv_at hl 0 rfl) ?_
      refine x_get F hK hO rfl i_IS 0 (by decide) k158 rfl rfl d_IS_common_19 ?_
      refine lv_iload_n F.1 F.2.1 d_IS_common_22 rfl (lv_at hl 1 rfl) ?_
      refine x_rd (x_V (n := 1) (As := [.int (nI a)]) F (c_AL_get l G (ca 1) (ca 2) ci (gn σ) ei a (cI ca a) ha (by omega) (hie a ha)) ok_AL_get k196 ⟨Nat.le_of_ble_eq_true rfl, Nat.le_of_ble_eq_true rfl⟩ rfl rfl hK (x_rcv hK hA1 rfl) (hIm) rfl hl.1 rfl (Nat.le_of_ble_eq_true rfl) d_IS_common_23 ⟨Nat.le_of_ble_eq_true rfl, Nat.le_of_ble_eq_true rfl⟩) ?_
      have hI_a := (hig a ha).1
      have hN_a := (hig a ha).2.1
      have hX_a := htg a ha
      have hU_a := hX_a.1
      refine va_castY F.1 F.2.1 F.2.2.2.1 (F.2.2.2.2 _ k85) (hK.2.1 _ (List.mem_of_getElem? (i := 5) rfl)) (x_rcv hK hI_a rfl) d_IS_common_26 ?_
      refine x_getN F hK hI_a rfl i_IM 2 (by decide) 2 rfl rfl rfl d_IS_common_29 ?_
      refine lv_astore_n (lv' := [(3, .ref (cN ca a)), (0, .ref (ca 0)), (1, .int (nI a)), (2, .int (nI b))]) F.1 F.2.1 d_IS_common_32 rfl hl (by decide) rfl (fun ls hl => ?_)
      refine lv_aload_n F.1 F.2.1 d_IS_common_33 rfl (lv_at hl 1 rfl) ?_
      refine x_get F hK hO rfl i_IS 0 (by decide) k158 rfl rfl d_IS_common_34 ?_
      refine lv_iload_n F.1 F.2.1 d_IS_common_37 rfl (lv_at hl 3 rfl) ?_
      refine x_rd (x_V (n := 1) (As := [.int (nI b)]) F (c_AL_get l G (ca 1) (ca 2) ci (gn σ) ei b (cI ca b) hb (by omega) (hie b hb)) ok_AL_get k196 ⟨Nat.le_of_ble_eq_true rfl, Nat.le_of_ble_eq_true rfl⟩ rfl rfl hK (x_rcv hK hA1 rfl) (hIm) rfl hl.1 rfl (Nat.le_of_ble_eq_true rfl) d_IS_common_38 ⟨Nat.le_of_ble_eq_true rfl, Nat.le_of_ble_eq_true rfl⟩) ?_
      have hI_b := (hig b hb).1
      have hN_b := (hig b hb).2.1
      have hX_b := htg b hb
      have hU_b := hX_b.1
      refine va_castY F.1 F.2.1 F.2.2.2.1 (F.2.2.2.2 _ k85) (hK.2.1 _ (List.mem_of_getElem? (i := 5) rfl)) (x_rcv hK hI_b rfl) d_IS_common_41 ?_
      refine x_getN F hK hI_b rfl i_IM 2 (by decide) 2 rfl rfl rfl d_IS_common_44 ?_
      refine lv_astore (lv' := [(4, .ref (cN ca b)), (3, .ref (cN ca a)), (0, .ref (ca 0)), (1, .int (nI a)), (2, .int (nI b))]) F.1 F.2.1 d_IS_common_47 hl (by decide) rfl (fun ls hl => ?_)
      refine lv_aload_n F.1 F.2.1 d_IS_common_49 rfl (lv_at hl 1 rfl) ?_
      refine x_alen F hK hN_a 0 rfl d_IS_common_50 ?_
      refine lv_aload F.1 F.2.1 d_IS_common_51 (lv_at hl 0 rfl) ?_
      refine x_alen F hK hN_b 0 rfl d_IS_common_53 ?_
      refine x_rd (x_S (n := 2) (As := [.int (nI ((nuL (gp σ) num a).length)), .int (nI ((nuL (gp σ) num b).length))]) F (c_MA_min l G (nuL (gp σ) num a).length (nuL (gp σ) num b).length (by omega) (by omega)) ok_MA_min k454 ⟨Nat.le_of_ble_eq_true rfl, Nat.le_of_ble_eq_true rfl⟩ rfl rfl hK (trivial) rfl hl.1 rfl (Nat.le_of_ble_eq_true rfl) d_IS_common_54 ⟨Nat.le_of_ble_eq_true rfl, Nat.le_of_ble_eq_true rfl⟩) ?_
      refine lv_istore (lv' := [(5, .int (nI (min (nuL (gp σ) num a).length (nuL (gp σ) num b).length))), (4, .ref (cN ca b)), (3, .ref (cN ca a)), (0, .ref (ca 0)), (1, .int (nI a)), (2, .int (nI b))]) F.1 F.2.1 d_IS_common_57 hl (by decide) rfl (fun ls hl => ?_)
      refine lv_iconst (v := 0) F.1 F.2.1 d_IS_common_59 (by decide) ?_
      refine lv_istore (lv' := [(6, .int 0), (5, .int (nI (min (nuL (gp σ) num a).length (nuL (gp σ) num b).length))), (4, .ref (cN ca b)), (3, .ref (cN ca a)), (0, .ref (ca 0)), (1, .int (nI a)), (2, .int (nI b))]) F.1 F.2.1 d_IS_common_60 hl (by decide) rfl (fun ls hl => ?_)
      have loop : ∀ (d n : Nat), n + d = 40 → cmI (cmP σ a b) d n = cmI (cmP σ a b) 40 0 → ∀ ls : Array Slot, lv_has ls 7 [(6, .int (nI n)), (5, .int (nI (min (nuL (gp σ) num a).length (nuL (gp σ) num b).length))), (4, .ref (cN ca b)), (3, .ref (cN ca a)), (0, .ref (ca 0)), (1, .int (nI a)), (2, .int (nI b))] → W p l e (x_rm 3 0 0) s m args below meth c s.heap [] 0 0 Q (F0 m 62 ls []) := by
        intro d
        induction d with
        | zero =>
          intro n hn hq ls hl
          refine lv_iload F.1 F.2.1 d_IS_common_62 (lv_at hl 0 rfl) ?_
          refine lv_iload F.1 F.2.1 d_IS_common_64 (lv_at hl 1 rfl) ?_
          refine lv_icmp_ge (tgt := 87) F.1 F.2.1 d_IS_common_66 (by decide) (fun _ => ?_) (fun zq => absurd (pN_le (a := (min (nuL (gp σ) num a).length (nuL (gp σ) num b).length)) (b := n) rfl rfl (by omega) (by omega) (by omega)) zq)
          refine lv_iload F.1 F.2.1 d_IS_common_87 (lv_at hl 0 rfl) ?_
          exact hret _ _ _ d_IS_common_89 (by rw [hv, ← hq]; rfl)
        | succ d ih =>
          intro n hn hq ls hl
          have hno : cmP σ a b n = false → nI n = comS σ (nI a) (nI b) := fun h => by rw [hv, ← hq]; show _ = nI (if _ then _ else _); rw [if_neg (by rw [h]; decide)]
          refine lv_iload F.1 F.2.1 d_IS_common_62 (lv_at hl 0 rfl) ?_
          refine lv_iload F.1 F.2.1 d_IS_common_64 (lv_at hl 1 rfl) ?_
          refine lv_icmp_ge (tgt := 87) F.1 F.2.1 d_IS_common_66 (by decide) (fun c66 => ?_) (fun c66 => ?_)
          · have c66 := (pN_leI (a := (min (nuL (gp σ) num a).length (nuL (gp σ) num b).length)) (b := n) rfl rfl (by omega) (by omega)).mp c66
            refine lv_iload F.1 F.2.1 d_IS_common_87 (lv_at hl 0 rfl) ?_
            exact hret _ _ _ d_IS_common_89 (hno (cmP_out (by omega)))
          · have c66 := mt (pN_leI (a := (min (nuL (gp σ) num a).length (nuL (gp σ) num b).length)) (b := n) rfl rfl (by omega) (by omega)).mpr c66
            have hca : n < (cn (gp σ) a).length := by omega
            have hcb : n < (cn (gp σ) b).length := by omega
            have hma := cn_at hpr hca
            have hmb := cn_at hpr hcb
            have hxa := hN.2.2.1 _ hma.1 (by omega)
            have hxb := hN.2.2.1 _ hmb.1 (by omega)
            have hcm := cmP_in hok hN ha hb hca hcb
            refine lv_aload_n F.1 F.2.1 d_IS_common_69 rfl (lv_at hl 3 rfl) ?_
            refine lv_iload F.1 F.2.1 d_IS_common_70 (lv_at hl 0 rfl) ?_
            refine x_ialdN F hK hN_a (by omega) (by omega) d_IS_common_72 ?_
            refine lv_aload F.1 F.2.1 d_IS_common_73 (lv_at hl 2 rfl) ?_
            refine lv_iload F.1 F.2.1 d_IS_common_75 (lv_at hl 0 rfl) ?_
            refine x_ialdN F hK hN_b (by omega) (by omega) d_IS_common_77 ?_
            rw [nuL_at hca, nuL_at hcb]
            refine lv_icmp_ne (tgt := 87) F.1 F.2.1 d_IS_common_78 (by decide) (fun c78 => ?_) (fun c78 => ?_)
            · have c78 := mt (pN_eqI (a := (num ((cn (gp σ) a).getD n 0))) (b := (num ((cn (gp σ) b).getD n 0))) rfl rfl (by omega) (by omega)).mpr c78
              refine lv_iload F.1 F.2.1 d_IS_common_87 (lv_at hl 0 rfl) ?_
              exact hret _ _ _ d_IS_common_89 (hno (by rw [hcm, decide_eq_false c78]))
            · have c78 := (pN_eqI (a := (num ((cn (gp σ) a).getD n 0))) (b := (num ((cn (gp σ) b).getD n 0))) rfl rfl (by omega) (by omega)).mp c78
              refine lv_iinc (v := (nI (n + 1))) (lv' := [(6, .int (nI (n + 1))), (5, .int (nI (min (nuL (gp σ) num a).length (nuL (gp σ) num b).length))), (4, .ref (cN ca b)), (3, .ref (cN ca a)), (0, .ref (ca 0)), (1, .int (nI a)), (2, .int (nI b))]) F.1 F.2.1 d_IS_common_81 hl (k := 0) rfl (nI_1 n) (by decide) rfl (fun ls hl => ?_)
              refine lv_goto (tgt := 62) F.1 F.2.1 d_IS_common_84 (by decide) ?_
              exact ih (n + 1) (by omega) (by rw [← hq]; show _ = (if _ then _ else _); rw [if_pos (by rw [hcm, decide_eq_true c78])]) ls hl
      exact loop 40 0 rfl rfl ls hl
    · refine lv_iconst (v := (-1)) F.1 F.2.1 d_IS_common_16 (by decide) ?_
      exact hret _ _ _ d_IS_common_17 (by unfold comS; rw [c13, Bool.and_false]; rfl)
theorem c_IS_shared (x y : Int32) (hok : gI σ) (hN : cNum σ nl num rp) : Met l y_IS_shared (x_ws y_IS_shared b_IS_shared 8 (some .int)) (x_rm 3 0 0) (x_P G [.ref (ca 0), .int x, .int y] (CW G ca σ nl num rp f sn)) (k2_QcV (.int (shrS σ x y))) 0 0 (fun _ => False) := by
  refine x_mI (by decide +kernel) (Nat.le_of_ble_eq_true rfl) (fun p e s m args below meth c F hK hP ls hl Q hret => ?_)
  have hl : lv_has ls 8 [(0, .ref (ca 0)), (1, .int x), (2, .int y)] := hl
  have hn40 := hok.1.2.1
  have hnl := hN.1
  have hpr := hok.1.2.2.1
  obtain ⟨hin, hne, hO, hB, hs0, hs1, hdr, hse⟩ := id hP
  obtain ⟨hZ, ⟨ci, ei, hIm, hie⟩, ⟨cy, ey, hLy, hle⟩, hig, htg, hlg⟩ := id hB
  obtain ⟨⟨mo1, hA1⟩, -⟩ := id hIm
  obtain ⟨⟨mo3, hA3⟩, -⟩ := id hLy
  have hT5 := hs0.1
  have hT8 := hs1.1
  have hT11 := hdr.1
  refine lv_aload_n F.1 F.2.1 d_IS_shared_0 rfl (lv_at hl 0 rfl) ?_
  refine lv_iload_n F.1 F.2.1 d_IS_shared_1 rfl (lv_at hl 1 rfl) ?_
  refine x_rd (x_V (n := 1) (As := [.int x]) F (c_IS_isMade l G ca σ nl num rp f sn x) ok_IS_isMade k184 ⟨Nat.le_of_ble_eq_true rfl, Nat.le_of_ble_eq_true rfl⟩ rfl rfl hK (x_rcv hK hO rfl) (hP) rfl hl.1 rfl (Nat.le_of_ble_eq_true rfl) d_IS_shared_2 ⟨Nat.le_of_ble_eq_true rfl, Nat.le_of_ble_eq_true rfl⟩) ?_
  refine x_beq (tgt := 16) F d_IS_shared_5 (by decide) (fun c5 => ?_) (fun c5 => ?_)
  · refine lv_iconst (v := (-1)) F.1 F.2.1 d_IS_shared_16 (by decide) ?_
    exact hret _ _ _ d_IS_shared_17 (by unfold shrS; rw [c5]; rfl)
  · refine lv_aload_n F.1 F.2.1 d_IS_shared_8 rfl (lv_at hl 0 rfl) ?_
    refine lv_iload_n F.1 F.2.1 d_IS_shared_9 rfl (lv_at hl 2 rfl) ?_
    refine x_rd (x_V (n := 1) (As := [.int y]) F (c_IS_isMade l G ca σ nl num rp f sn y) ok_IS_isMade k184 ⟨Nat.le_of_ble_eq_true rfl, Nat.le_of_ble_eq_true rfl⟩ rfl rfl hK (x_rcv hK hO rfl) (hP) rfl hl.1 rfl (Nat.le_of_ble_eq_true rfl) d_IS_shared_10 ⟨Nat.le_of_ble_eq_true rfl, Nat.le_of_ble_eq_true rfl⟩) ?_
    refine x_bne (tgt := 18) F d_IS_shared_13 (by decide) (fun c13 => ?_) (fun c13 => ?_)
    · have hv : shrS σ x y = nI (shL σ y.toNatClampNeg (cn (gp σ) x.toNatClampNeg)) := by unfold shrS; rw [c5, c13]; rfl
      obtain ⟨a, ha, rfl⟩ := isB_of hn40 c5
      obtain ⟨b, hb, rfl⟩ := isB_of hn40 c13
      rw [show (nI a).toNatClampNeg = a from nI_clamp (by omega), show (nI b).toNatClampNeg = b from nI_clamp (by omega)] at hv
      have hla := cn_len hpr a a (Nat.le_refl _)
      have hlb := cn_len hpr b b (Nat.le_refl _)
      have hna := nuL_len (gp σ) num a
      have hnb := nuL_len (gp σ) num b
      refine lv_iconst (v := 0) F.1 F.2.1 d_IS_shared_18 (by decide) ?_
      refine lv_istore_n (lv' := [(3, .int 0), (0, .ref (ca 0)), (1, .int (nI a)), (2, .int (nI b))]) F.1 F.2.1 d_IS_shared_19 rfl hl (by decide) rfl (fun ls hl => ?_)
      refine lv_aload_n F.1 F.2.1 d_IS_shared_20 rfl (lv_at hl 1 rfl) ?_
      refine x_get F hK hO rfl i_IS 0 (by decide) k158 rfl rfl d_IS_shared_21 ?_
      refine lv_iload_n F.1 F.2.1 d_IS_shared_24 rfl (lv_at hl 2 rfl) ?_
      refine x_rd (x_V (n := 1) (As := [.int (nI a)]) F (c_AL_get l G (ca 1) (ca 2) ci (gn σ) ei a (cI ca a) ha (by omega) (hie a ha)) ok_AL_get k196 ⟨Nat.le_of_ble_eq_true rfl, Nat.le_of_ble_eq_true rfl⟩ rfl rfl hK (x_rcv hK hA1 rfl) (hIm) rfl hl.1 rfl (Nat.le_of_ble_eq_true rfl) d_IS_shared_25 ⟨Nat.le_of_ble_eq_true rfl, Nat.le_of_ble_eq_true rfl⟩) ?_
      have hI_a := (hig a ha).1
      have hN_a := (hig a ha).2.1
      have hX_a := htg a ha
      have hU_a := hX_a.1
      refine va_castY F.1 F.2.1 F.2.2.2.1 (F.2.2.2.2 _ k85) (hK.2.1 _ (List.mem_of_getElem? (i := 5) rfl)) (x_rcv hK hI_a rfl) d_IS_shared_28 ?_
      refine x_getN F hK hI_a rfl i_IM 2 (by decide) 2 rfl rfl rfl d_IS_shared_31 ?_
      refine lv_astore (lv' := [(4, .ref (cN ca a)), (3, .int 0), (0, .ref (ca 0)), (1, .int (nI a)), (2, .int (nI b))]) F.1 F.2.1 d_IS_shared_34 hl (by decide) rfl (fun ls hl => ?_)
      refine lv_aload F.1 F.2.1 d_IS_shared_36 (lv_at hl 0 rfl) ?_
      refine x_alen F hK hN_a 0 rfl d_IS_shared_38 ?_
      refine lv_istore (lv' := [(5, .int (nI ((nuL (gp σ) num a).length))), (4, .ref (cN ca a)), (3, .int 0), (0, .ref (ca 0)), (1, .int (nI a)), (2, .int (nI b))]) F.1 F.2.1 d_IS_shared_39 hl (by decide) rfl (fun ls hl => ?_)
      refine lv_iconst (v := 0) F.1 F.2.1 d_IS_shared_41 (by decide) ?_
      refine lv_istore (lv' := [(6, .int 0), (5, .int (nI ((nuL (gp σ) num a).length))), (4, .ref (cN ca a)), (3, .int 0), (0, .ref (ca 0)), (1, .int (nI a)), (2, .int (nI b))]) F.1 F.2.1 d_IS_shared_42 hl (by decide) rfl (fun ls hl => ?_)
      have sts : ∀ k, k < (cn (gp σ) a).length → shL σ b ((cn (gp σ) a).take (k + 1)) = shL σ b ((cn (gp σ) a).take k) + (if ((List.range (nuL (gp σ) num b).length).any fun q => decide (nI ((nuL (gp σ) num b).getD q 0) = nI (num ((cn (gp σ) a).getD k 0)))) = true then 1 else 0) := by
        intro k hk
        have hm := cn_at hpr hk
        rw [← sh_at hok hN hb hm.1 (show (cn (gp σ) a).getD k 0 < gn σ by omega)]
        unfold shL
        rw [List.take_add_one, List.getElem?_eq_getElem hk, List.filter_append, List.length_append]
        have hg : (cn (gp σ) a).getD k 0 = (cn (gp σ) a)[k] := by rw [List.getD_eq_getElem?_getD, List.getElem?_eq_getElem hk]; rfl
        rw [hg]
        congr 1
        show (List.filter _ [(cn (gp σ) a)[k]]).length = _
        by_cases ht : thB σ (chO (gp σ) (fun _ => false) b) (cn (gp σ) a)[k] (gn σ) = true
        · rw [if_pos ht]; simp [ht]
        · rw [if_neg ht]; simp [ht]
      have stl : ∀ k, shL σ b ((cn (gp σ) a).take k) ≤ 40 := fun k => by
        unfold shL
        have h1 := List.length_filter_le (fun i => thB σ (chO (gp σ) (fun _ => false) b) i (gn σ)) ((cn (gp σ) a).take k)
        have h2 := List.length_take_le k (cn (gp σ) a)
        have h3 := List.length_take_le' k (cn (gp σ) a)
        omega
      have loop : ∀ (d k : Nat), k + d = (cn (gp σ) a).length → ∀ ls : Array Slot, lv_has ls 8 [(6, .int (nI k)), (5, .int (nI (nuL (gp σ) num a).length)), (4, .ref (cN ca a)), (3, .int (nI (shL σ b ((cn (gp σ) a).take k)))), (0, .ref (ca 0)), (1, .int (nI a)), (2, .int (nI b))] → W p l e (x_rm 3 0 0) s m args below meth c s.heap [] 0 0 Q (F0 m 44 ls []) := by
        intro d
        induction d with
        | zero =>
          intro k hk ls hl
          refine lv_iload F.1 F.2.1 d_IS_shared_44 (lv_at hl 0 rfl) ?_
          refine lv_iload F.1 F.2.1 d_IS_shared_46 (lv_at hl 1 rfl) ?_
          refine lv_icmp_ge (tgt := 86) F.1 F.2.1 d_IS_shared_48 (by decide) (fun _ => ?_) (fun zq => absurd (pN_le (a := ((nuL (gp σ) num a).length)) (b := k) rfl rfl (by omega) (by omega) (by omega)) zq)
          refine lv_iload_n F.1 F.2.1 d_IS_shared_86 rfl (lv_at hl 3 rfl) ?_
          exact hret _ _ _ d_IS_shared_87 (by rw [hv, show k = (cn (gp σ) a).length by omega, List.take_length])
        | succ d ih =>
          intro k hk ls hl
          have hkl : k < (cn (gp σ) a).length := by omega
          have hs1 := sts k hkl
          have hs2 := stl k
          refine lv_iload F.1 F.2.1 d_IS_shared_44 (lv_at hl 0 rfl) ?_
          refine lv_iload F.1 F.2.1 d_IS_shared_46 (lv_at hl 1 rfl) ?_
          refine lv_icmp_ge (tgt := 86) F.1 F.2.1 d_IS_shared_48 (by decide) (fun zq => absurd zq (pN_nle (a := ((nuL (gp σ) num a).length)) (b := k) rfl rfl (by omega) (by omega) (by omega))) (fun _ => ?_)
          refine lv_aload F.1 F.2.1 d_IS_shared_51 (lv_at hl 2 rfl) ?_
          refine lv_iload F.1 F.2.1 d_IS_shared_53 (lv_at hl 0 rfl) ?_
          refine x_ialdN F hK hN_a (by omega) (by omega) d_IS_shared_55 ?_
          rw [nuL_at hkl]
          refine lv_istore (lv' := [(7, .int (nI (num ((cn (gp σ) a).getD k 0)))), (6, .int (nI k)), (5, .int (nI (nuL (gp σ) num a).length)), (4, .ref (cN ca a)), (3, .int (nI (shL σ b ((cn (gp σ) a).take k)))), (0, .ref (ca 0)), (1, .int (nI a)), (2, .int (nI b))]) F.1 F.2.1 d_IS_shared_56 hl (by decide) rfl (fun ls hl => ?_)
          refine lv_aload_n F.1 F.2.1 d_IS_shared_58 rfl (lv_at hl 5 rfl) ?_
          refine x_get F hK hO rfl i_IS 0 (by decide) k158 rfl rfl d_IS_shared_59 ?_
          refine lv_iload_n F.1 F.2.1 d_IS_shared_62 rfl (lv_at hl 7 rfl) ?_
          refine x_rd (x_V (n := 1) (As := [.int (nI b)]) F (c_AL_get l G (ca 1) (ca 2) ci (gn σ) ei b (cI ca b) hb (by omega) (hie b hb)) ok_AL_get k196 ⟨Nat.le_of_ble_eq_true rfl, Nat.le_of_ble_eq_true rfl⟩ rfl rfl hK (x_rcv hK hA1 rfl) (hIm) rfl hl.1 rfl (Nat.le_of_ble_eq_true rfl) d_IS_shared_63 ⟨Nat.le_of_ble_eq_true rfl, Nat.le_of_ble_eq_true rfl⟩) ?_
          have hI_b := (hig b hb).1
          have hN_b := (hig b hb).2.1
          have hX_b := htg b hb
          have hU_b := hX_b.1
          refine va_castY F.1 F.2.1 F.2.2.2.1 (F.2.2.2.2 _ k85) (hK.2.1 _ (List.mem_of_getElem? (i := 5) rfl)) (x_rcv hK hI_b rfl) d_IS_shared_66 ?_
          refine lv_iload F.1 F.2.1 d_IS_shared_69 (lv_at hl 0 rfl) ?_
          refine x_rd (x_V (n := 1) (As := [.int (nI (num ((cn (gp σ) a).getD k 0)))]) F (c_IM_hasLayerNumber l G (cI ca b) (cT ca b) (cN ca b) (pI (gp σ) b) (nuL (gp σ) num b) (nI (num ((cn (gp σ) a).getD k 0))) (by omega)) ok_IM_hasLayerNumber k459 ⟨Nat.le_of_ble_eq_true rfl, Nat.le_of_ble_eq_true rfl⟩ rfl rfl hK (x_rcv hK hI_b rfl) (hig b hb) rfl hl.1 rfl (Nat.le_of_ble_eq_true rfl) d_IS_shared_71 ⟨Nat.le_of_ble_eq_true rfl, Nat.le_of_ble_eq_true rfl⟩) ?_
          refine x_beq (tgt := 80) F d_IS_shared_74 (by decide) (fun c74 => ?_) (fun c74 => ?_)
          · rw [c74, if_neg (by decide)] at hs1
            refine lv_iinc (v := (nI (k + 1))) (lv' := [(6, .int (nI (k + 1))), (7, .int (nI (num ((cn (gp σ) a).getD k 0)))), (5, .int (nI (nuL (gp σ) num a).length)), (4, .ref (cN ca a)), (3, .int (nI (shL σ b ((cn (gp σ) a).take k)))), (0, .ref (ca 0)), (1, .int (nI a)), (2, .int (nI b))]) F.1 F.2.1 d_IS_shared_80 hl (k := 1) rfl (nI_1 k) (by decide) rfl (fun ls hl => ?_)
            refine lv_goto (tgt := 44) F.1 F.2.1 d_IS_shared_83 (by decide) ?_
            exact ih (k + 1) (by omega) ls (by rw [hs1]; exact lv_sub hl [0, 2, 3, 4, 5, 6, 7] rfl)
          · rw [c74, if_pos rfl] at hs1
            refine lv_iinc (v := (nI ((shL σ b ((cn (gp σ) a).take k)) + 1))) (lv' := [(3, .int (nI ((shL σ b ((cn (gp σ) a).take k)) + 1))), (7, .int (nI (num ((cn (gp σ) a).getD k 0)))), (6, .int (nI k)), (5, .int (nI (nuL (gp σ) num a).length)), (4, .ref (cN ca a)), (0, .ref (ca 0)), (1, .int (nI a)), (2, .int (nI b))]) F.1 F.2.1 d_IS_shared_77 hl (k := 4) rfl (nI_1 (shL σ b ((cn (gp σ) a).take k))) (by decide) rfl (fun ls hl => ?_)
            refine lv_iinc (v := (nI (k + 1))) (lv' := [(6, .int (nI (k + 1))), (3, .int (nI ((shL σ b ((cn (gp σ) a).take k)) + 1))), (7, .int (nI (num ((cn (gp σ) a).getD k 0)))), (5, .int (nI (nuL (gp σ) num a).length)), (4, .ref (cN ca a)), (0, .ref (ca 0)), (1, .int (nI a)), (2, .int (nI b))]) F.1 F.2.1 d_IS_shared_80 hl (k := 2) rfl (nI_1 k) (by decide) rfl (fun ls hl => ?_)
            refine lv_goto (tgt := 44) F.1 F.2.1 d_IS_shared_83 (by decide) ?_
            exact ih (k + 1) (by omega) ls (by rw [hs1]; exact lv_sub hl [0, 3, 4, 1, 5, 6, 7] rfl)
      exact loop (cn (gp σ) a).length 0 (by omega) ls hl
    · refine lv_iconst (v := (-1)) F.1 F.2.1 d_IS_shared_16 (by decide) ?_
      exact hret _ _ _ d_IS_shared_17 (by unfold shrS; rw [c13, Bool.and_false]; rfl)
      end RP

