/-! ===== ImageStores: counting; tags, sending, collecting ===== -/
theorem wE_le (σ : Sg) (rp : Nat → Nat) (en : Bool) (k : Nat) : wE σ rp en k ≤ 125 := by
  unfold wE
  split
  · exact eI_len σ _ _
  · decide
section WS
variable (l : Launch) (G : x_G) (ca : Nat → Nat) (σ : Sg) (nl : Nat) (num rp : Nat → Nat) (f : Nat → Int64) (sn : Nat → Int32)
theorem c_IS_layersIn (s0 : Nat) (hs0' : s0 < 2) (hok : gI σ) (hN : cNum σ nl num rp) : Met l y_IS_layersIn (x_ws y_IS_layersIn b_IS_layersIn 4 (some .int)) (x_rm 4 0 0) (x_P G [.ref (ca 0), .ref (ca (5 + 3 * s0))] (CW G ca σ nl num rp f sn)) (x_Q (fun r H H1 => r = some (.int (nI (dfL σ (chH σ s0 (gn σ)) false (gn σ)))) ∧ (∃ sn', CW G ca σ nl num rp f sn' H1) ∧ x_off (fun q => q = ca 13) H H1)) 0 0 (fun q => q = ca 13) := by
  refine x_wI (by decide +kernel) (Nat.le_of_ble_eq_true rfl) (fun p e s m args below meth c F hK hP ls hl Q hret => ?_)
  have hl : lv_has ls 4 [(0, .ref (ca 0)), (1, .ref (ca (5 + 3 * s0)))] := hl
  have hS : va_S (fun q => q = ca 13) s.heap s.heap [] := va_S.rf
  have hn40 := hok.1.2.1
  have hnl := hN.1
  have hO := hP.2.2.1
  refine lv_aload_n F.1 F.2.1 d_IS_layersIn_0 rfl (lv_at hl 0 rfl) ?_
  refine lv_aload_n F.1 F.2.1 d_IS_layersIn_1 rfl (lv_at hl 1 rfl) ?_
  refine x_wr (x_V (n := 1) (As := [.ref (ca (5 + 3 * s0))]) F (c_IS_seeLayersOf l G ca σ nl num rp f sn s0 hs0' hok hN) ok_IS_seeLayersOf k380 ⟨Nat.le_of_ble_eq_true rfl, Nat.le_of_ble_eq_true rfl⟩ rfl rfl hK (x_rcv hK hO rfl) (hP) rfl hl.1 rfl (Nat.le_of_ble_eq_true rfl) d_IS_layersIn_2 ⟨Nat.le_of_ble_eq_true rfl, Nat.le_of_ble_eq_true rfl⟩) hS (fun _ h => h) (fun _ _ h => h.2.2) (fun v H1 locs hpost hS => ?_)
  obtain ⟨rfl, hP, ho⟩ := hpost
  obtain ⟨hin, hne, hO, hB, hs0, hs1, hdr, hse⟩ := id hP
  obtain ⟨hZ, ⟨ci, ei, hIm, hie⟩, ⟨cy, ey, hLy, hle⟩, hig, htg, hlg⟩ := id hB
  obtain ⟨⟨mo1, hA1⟩, -⟩ := id hIm
  obtain ⟨⟨mo3, hA3⟩, -⟩ := id hLy
  have hT5 := hs0.1
  have hT8 := hs1.1
  have hT11 := hdr.1
  refine lv_iconst (v := 0) F.1 F.2.1 d_IS_layersIn_5 (by decide) ?_
  refine lv_istore_n (lv' := [(2, .int 0), (0, .ref (ca 0)), (1, .ref (ca (5 + 3 * s0)))]) F.1 F.2.1 d_IS_layersIn_6 rfl hl (by decide) rfl (fun ls hl => ?_)
  refine lv_iconst (v := 0) F.1 F.2.1 d_IS_layersIn_7 (by decide) ?_
  refine lv_istore_n (lv' := [(3, .int 0), (2, .int 0), (0, .ref (ca 0)), (1, .ref (ca (5 + 3 * s0)))]) F.1 F.2.1 d_IS_layersIn_8 rfl hl (by decide) rfl (fun ls hl => ?_)
  have loop : ∀ (d k : Nat), k + d = nl → ∀ ls : Array Slot, lv_has ls 4 [(3, .int (nI k)), (2, .int (nI (sm (wE σ rp false) (snS σ num s0 (gn σ)) k))), (0, .ref (ca 0)), (1, .ref (ca (5 + 3 * s0)))] → W p l e (x_rm 4 0 0) s m args below meth c H1 locs 0 0 Q (F0 m 9 ls []) := by
    intro d
    induction d with
    | zero =>
      intro k hk ls hl
      refine lv_iload_n F.1 F.2.1 d_IS_layersIn_9 rfl (lv_at hl 0 rfl) ?_
      refine lv_aload_n F.1 F.2.1 d_IS_layersIn_10 rfl (lv_at hl 2 rfl) ?_
      refine x_get F hK hO rfl i_IS 1 (by decide) k159 rfl rfl d_IS_layersIn_11 ?_
      refine x_rd (x_V (n := 0) (As := []) F (c_AL_size l G (ca 3) (ca 4) cy nl ey) ok_AL_size k188 ⟨Nat.le_of_ble_eq_true rfl, Nat.le_of_ble_eq_true rfl⟩ rfl rfl hK (x_rcv hK hA3 rfl) (hLy) rfl hl.1 rfl (Nat.le_of_ble_eq_true rfl) d_IS_layersIn_14 ⟨Nat.le_of_ble_eq_true rfl, Nat.le_of_ble_eq_true rfl⟩) ?_
      refine lv_icmp_ge (tgt := 38) F.1 F.2.1 d_IS_layersIn_17 (by decide) (fun _ => ?_) (fun zq => absurd (pN_le (a := nl) (b := k) rfl rfl (by omega) (by omega) (by omega)) zq)
      refine lv_iload_n F.1 F.2.1 d_IS_layersIn_38 rfl (lv_at hl 1 rfl) ?_
      obtain rfl : k = nl := by omega
      exact hret _ _ _ _ _ _ _ d_IS_layersIn_39 ⟨by rw [lay_sm hok hN], ⟨_, hP⟩, hS.off⟩ hS.2.2 (Nat.le_refl _) (Nat.le_refl _)
    | succ d ih =>
      intro k hk ls hl
      have hle := sm_le (P := snS σ num s0 (gn σ)) (wE_le σ rp false) k
      refine lv_iload_n F.1 F.2.1 d_IS_layersIn_9 rfl (lv_at hl 0 rfl) ?_
      refine lv_aload_n F.1 F.2.1 d_IS_layersIn_10 rfl (lv_at hl 2 rfl) ?_
      refine x_get F hK hO rfl i_IS 1 (by decide) k159 rfl rfl d_IS_layersIn_11 ?_
      refine x_rd (x_V (n := 0) (As := []) F (c_AL_size l G (ca 3) (ca 4) cy nl ey) ok_AL_size k188 ⟨Nat.le_of_ble_eq_true rfl, Nat.le_of_ble_eq_true rfl⟩ rfl rfl hK (x_rcv hK hA3 rfl) (hLy) rfl hl.1 rfl (Nat.le_of_ble_eq_true rfl) d_IS_layersIn_14 ⟨Nat.le_of_ble_eq_true rfl, Nat.le_of_ble_eq_true rfl⟩) ?_
      refine lv_icmp_ge (tgt := 38) F.1 F.2.1 d_IS_layersIn_17 (by decide) (fun zq => absurd zq (pN_nle (a := nl) (b := k) rfl rfl (by omega) (by omega) (by omega))) (fun _ => ?_)
      refine lv_aload_n F.1 F.2.1 d_IS_layersIn_20 rfl (lv_at hl 2 rfl) ?_
      refine x_get F hK hO rfl i_IS 5 (by decide) k163 rfl rfl d_IS_layersIn_21 ?_
      refine lv_iload_n F.1 F.2.1 d_IS_layersIn_24 rfl (lv_at hl 0 rfl) ?_
      refine x_zaldN F hK hse (by decide) (by omega) d_IS_layersIn_25 ?_
      refine x_beq (tgt := 32) F d_IS_layersIn_26 (by decide) (fun c26 => ?_) (fun c26 => ?_)
      · refine lv_iinc (v := (nI (k + 1))) (lv' := [(3, .int (nI (k + 1))), (2, .int (nI (sm (wE σ rp false) (snS σ num s0 (gn σ)) k))), (0, .ref (ca 0)), (1, .ref (ca (5 + 3 * s0)))]) F.1 F.2.1 d_IS_layersIn_32 hl (k := 0) rfl (nI_1 k) (by decide) rfl (fun ls hl => ?_)
        refine lv_goto (tgt := 9) F.1 F.2.1 d_IS_layersIn_35 (by decide) ?_
        exact ih (k + 1) (by omega) ls (by rw [show sm (wE σ rp false) (snS σ num s0 (gn σ)) (k + 1) = sm (wE σ rp false) (snS σ num s0 (gn σ)) k from (by show _ + (if _ then _ else _) = _; rw [if_neg (by rw [c26]; decide)]; rfl)]; exact hl)
      · refine lv_iinc (v := (nI ((sm (wE σ rp false) (snS σ num s0 (gn σ)) k) + 1))) (lv' := [(2, .int (nI ((sm (wE σ rp false) (snS σ num s0 (gn σ)) k) + 1))), (3, .int (nI k)), (0, .ref (ca 0)), (1, .ref (ca (5 + 3 * s0)))]) F.1 F.2.1 d_IS_layersIn_29 hl (k := 1) rfl (nI_1 (sm (wE σ rp false) (snS σ num s0 (gn σ)) k)) (by decide) rfl (fun ls hl => ?_)
        refine lv_iinc (v := (nI (k + 1))) (lv' := [(3, .int (nI (k + 1))), (2, .int (nI ((sm (wE σ rp false) (snS σ num s0 (gn σ)) k) + 1))), (0, .ref (ca 0)), (1, .ref (ca (5 + 3 * s0)))]) F.1 F.2.1 d_IS_layersIn_32 hl (k := 1) rfl (nI_1 k) (by decide) rfl (fun ls hl => ?_)
        refine lv_goto (tgt := 9) F.1 F.2.1 d_IS_layersIn_35 (by decide) ?_
        exact ih (k + 1) (by omega) ls (by rw [show sm (wE σ rp false) (snS σ num s0 (gn σ)) (k + 1) = sm (wE σ rp false) (snS σ num s0 (gn σ)) k + 1 from (by show _ + (if _ then _ else _) = _; rw [if_pos c26]; rfl)]; exact lv_sub hl [0, 1, 2, 3] rfl)
  exact loop nl 0 (by omega) ls hl
theorem c_IS_entriesIn (s0 : Nat) (hs0' : s0 < 2) (hok : gI σ) (hN : cNum σ nl num rp) : Met l y_IS_entriesIn (x_ws y_IS_entriesIn b_IS_entriesIn 4 (some .int)) (x_rm 4 0 0) (x_P G [.ref (ca 0), .ref (ca (5 + 3 * s0))] (CW G ca σ nl num rp f sn)) (x_Q (fun r H H1 => r = some (.int (nI (dfL σ (chH σ s0 (gn σ)) true (gn σ)))) ∧ (∃ sn', CW G ca σ nl num rp f sn' H1) ∧ x_off (fun q => q = ca 13) H H1)) 0 0 (fun q => q = ca 13) := by
  refine x_wI (by decide +kernel) (Nat.le_of_ble_eq_true rfl) (fun p e s m args below meth c F hK hP ls hl Q hret => ?_)
  have hl : lv_has ls 4 [(0, .ref (ca 0)), (1, .ref (ca (5 + 3 * s0)))] := hl
  have hS : va_S (fun q => q = ca 13) s.heap s.heap [] := va_S.rf
  have hn40 := hok.1.2.1
  have hnl := hN.1
  have hO := hP.2.2.1
  refine lv_aload_n F.1 F.2.1 d_IS_entriesIn_0 rfl (lv_at hl 0 rfl) ?_
  refine lv_aload_n F.1 F.2.1 d_IS_entriesIn_1 rfl (lv_at hl 1 rfl) ?_
  refine x_wr (x_V (n := 1) (As := [.ref (ca (5 + 3 * s0))]) F (c_IS_seeLayersOf l G ca σ nl num rp f sn s0 hs0' hok hN) ok_IS_seeLayersOf k380 ⟨Nat.le_of_ble_eq_true rfl, Nat.le_of_ble_eq_true rfl⟩ rfl rfl hK (x_rcv hK hO rfl) (hP) rfl hl.1 rfl (Nat.le_of_ble_eq_true rfl) d_IS_entriesIn_2 ⟨Nat.le_of_ble_eq_true rfl, Nat.le_of_ble_eq_true rfl⟩) hS (fun _ h => h) (fun _ _ h => h.2.2) (fun v H2 locs hpost hS => ?_)
  obtain ⟨rfl, hP, ho⟩ := hpost
  obtain ⟨hin, hne, hO, hB, hs0, hs1, hdr, hse⟩ := id hP
  obtain ⟨hZ, ⟨ci, ei, hIm, hie⟩, ⟨cy, ey, hLy, hle⟩, hig, htg, hlg⟩ := id hB
  obtain ⟨⟨mo1, hA1⟩, -⟩ := id hIm
  obtain ⟨⟨mo3, hA3⟩, -⟩ := id hLy
  have hT5 := hs0.1
  have hT8 := hs1.1
  have hT11 := hdr.1
  refine lv_iconst (v := 0) F.1 F.2.1 d_IS_entriesIn_5 (by decide) ?_
  refine lv_istore_n (lv' := [(2, .int 0), (0, .ref (ca 0)), (1, .ref (ca (5 + 3 * s0)))]) F.1 F.2.1 d_IS_entriesIn_6 rfl hl (by decide) rfl (fun ls hl => ?_)
  refine lv_iconst (v := 0) F.1 F.2.1 d_IS_entriesIn_7 (by decide) ?_
  refine lv_istore_n (lv' := [(3, .int 0), (2, .int 0), (0, .ref (ca 0)), (1, .ref (ca (5 + 3 * s0)))]) F.1 F.2.1 d_IS_entriesIn_8 rfl hl (by decide) rfl (fun ls hl => ?_)
  have loop : ∀ (d k : Nat), k + d = nl → ∀ ls : Array Slot, lv_has ls 4 [(3, .int (nI k)), (2, .int (nI (sm (wE σ rp true) (snS σ num s0 (gn σ)) k))), (0, .ref (ca 0)), (1, .ref (ca (5 + 3 * s0)))] → W p l e (x_rm 4 0 0) s m args below meth c H2 locs 0 0 Q (F0 m 9 ls []) := by
    intro d
    induction d with
    | zero =>
      intro k hk ls hl
      refine lv_iload_n F.1 F.2.1 d_IS_entriesIn_9 rfl (lv_at hl 0 rfl) ?_
      refine lv_aload_n F.1 F.2.1 d_IS_entriesIn_10 rfl (lv_at hl 2 rfl) ?_
      refine x_get F hK hO rfl i_IS 1 (by decide) k159 rfl rfl d_IS_entriesIn_11 ?_
      refine x_rd (x_V (n := 0) (As := []) F (c_AL_size l G (ca 3) (ca 4) cy nl ey) ok_AL_size k188 ⟨Nat.le_of_ble_eq_true rfl, Nat.le_of_ble_eq_true rfl⟩ rfl rfl hK (x_rcv hK hA3 rfl) (hLy) rfl hl.1 rfl (Nat.le_of_ble_eq_true rfl) d_IS_entriesIn_14 ⟨Nat.le_of_ble_eq_true rfl, Nat.le_of_ble_eq_true rfl⟩) ?_
      refine lv_icmp_ge (tgt := 52) F.1 F.2.1 d_IS_entriesIn_17 (by decide) (fun _ => ?_) (fun zq => absurd (pN_le (a := nl) (b := k) rfl rfl (by omega) (by omega) (by omega)) zq)
      refine lv_iload_n F.1 F.2.1 d_IS_entriesIn_52 rfl (lv_at hl 1 rfl) ?_
      obtain rfl : k = nl := by omega
      exact hret _ _ _ _ _ _ _ d_IS_entriesIn_53 ⟨by rw [lay_sm hok hN], ⟨_, hP⟩, hS.off⟩ hS.2.2 (Nat.le_refl _) (Nat.le_refl _)
    | succ d ih =>
      intro k hk ls hl
      have hsm := sm_le (P := snS σ num s0 (gn σ)) (wE_le σ rp true) k
      refine lv_iload_n F.1 F.2.1 d_IS_entriesIn_9 rfl (lv_at hl 0 rfl) ?_
      refine lv_aload_n F.1 F.2.1 d_IS_entriesIn_10 rfl (lv_at hl 2 rfl) ?_
      refine x_get F hK hO rfl i_IS 1 (by decide) k159 rfl rfl d_IS_entriesIn_11 ?_
      refine x_rd (x_V (n := 0) (As := []) F (c_AL_size l G (ca 3) (ca 4) cy nl ey) ok_AL_size k188 ⟨Nat.le_of_ble_eq_true rfl, Nat.le_of_ble_eq_true rfl⟩ rfl rfl hK (x_rcv hK hA3 rfl) (hLy) rfl hl.1 rfl (Nat.le_of_ble_eq_true rfl) d_IS_entriesIn_14 ⟨Nat.le_of_ble_eq_true rfl, Nat.le_of_ble_eq_true rfl⟩) ?_
      refine lv_icmp_ge (tgt := 52) F.1 F.2.1 d_IS_entriesIn_17 (by decide) (fun zq => absurd zq (pN_nle (a := nl) (b := k) rfl rfl (by omega) (by omega) (by omega))) (fun _ => ?_)
      refine lv_aload_n F.1 F.2.1 d_IS_entriesIn_20 rfl (lv_at hl 2 rfl) ?_
      refine x_get F hK hO rfl i_IS 5 (by decide) k163 rfl rfl d_IS_entriesIn_21 ?_
      refine lv_iload_n F.1 F.2.1 d_IS_entriesIn_24 rfl (lv_at hl 0 rfl) ?_
      refine x_zaldN F hK hse (by decide) (by omega) d_IS_entriesIn_25 ?_
      refine x_beq (tgt := 46) F d_IS_entriesIn_26 (by decide) (fun c26 => ?_) (fun c26 => ?_)
      · refine lv_iinc (v := (nI (k + 1))) (lv' := [(3, .int (nI (k + 1))), (2, .int (nI (sm (wE σ rp true) (snS σ num s0 (gn σ)) k))), (0, .ref (ca 0)), (1, .ref (ca (5 + 3 * s0)))]) F.1 F.2.1 d_IS_entriesIn_46 hl (k := 0) rfl (nI_1 k) (by decide) rfl (fun ls hl => ?_)
        refine lv_goto (tgt := 9) F.1 F.2.1 d_IS_entriesIn_49 (by decide) ?_
        exact ih (k + 1) (by omega) ls (by rw [show sm (wE σ rp true) (snS σ num s0 (gn σ)) (k + 1) = sm (wE σ rp true) (snS σ num s0 (gn σ)) k from (by show _ + (if _ then _ else _) = _; rw [if_neg (by rw [c26]; decide)]; rfl)]; exact hl)
      · have hr := hN.2.1 k (by omega)
        have hpl : gp σ (rp k) < gn σ := by have := hok.1.2.2.1 _ hr.1; omega
        refine lv_iload_n F.1 F.2.1 d_IS_entriesIn_29 rfl (lv_at hl 1 rfl) ?_
        refine lv_aload_n F.1 F.2.1 d_IS_entriesIn_30 rfl (lv_at hl 2 rfl) ?_
        refine x_get F hK hO rfl i_IS 1 (by decide) k159 rfl rfl d_IS_entriesIn_31 ?_
        refine lv_iload_n F.1 F.2.1 d_IS_entriesIn_34 rfl (lv_at hl 0 rfl) ?_
        refine x_rd (x_V (n := 1) (As := [.int (nI k)]) F (c_AL_get l G (ca 3) (ca 4) cy nl ey k (cY ca k) (by omega) (by omega) (hle k (by omega))) ok_AL_get k196 ⟨Nat.le_of_ble_eq_true rfl, Nat.le_of_ble_eq_true rfl⟩ rfl rfl hK (x_rcv hK hA3 rfl) (hLy) rfl hl.1 rfl (Nat.le_of_ble_eq_true rfl) d_IS_entriesIn_35 ⟨Nat.le_of_ble_eq_true rfl, Nat.le_of_ble_eq_true rfl⟩) ?_
        have hV_k := hlg k (by omega)
        have hL_k := hV_k.1
        refine va_castY F.1 F.2.1 F.2.2.2.1 (F.2.2.2.2 _ k303) (hK.2.1 _ (List.mem_of_getElem? (i := 6) rfl)) (x_rcv hK hL_k rfl) d_IS_entriesIn_38 ?_
        refine x_rd (x_V (n := 0) (As := []) F (c_LY_size l G (cY ca k) (cP ca k) (cQ ca k) (eL (gt σ (gp σ (rp k))) (gt σ (rp k)) 125) (mk (gt σ (gp σ (rp k))) (gt σ (rp k)))) ok_LY_size k434 ⟨Nat.le_of_ble_eq_true rfl, Nat.le_of_ble_eq_true rfl⟩ rfl rfl hK (x_rcv hK hL_k rfl) (hV_k) rfl hl.1 rfl (Nat.le_of_ble_eq_true rfl) d_IS_entriesIn_41 ⟨Nat.le_of_ble_eq_true rfl, Nat.le_of_ble_eq_true rfl⟩) ?_
        rw [eL_eI (hok.1.2.2.2.1 _ hpl) (hok.1.2.2.2.1 _ hr.2.1) (Nat.le_refl _)]
        refine lv_iadd F.1 F.2.1 d_IS_entriesIn_44 ?_
        rw [nI_add]
        refine lv_istore_n (lv' := [(2, .int (nI (sm (wE σ rp true) (snS σ num s0 (gn σ)) k + (eI σ (rp k) 125).length))), (3, .int (nI k)), (0, .ref (ca 0)), (1, .ref (ca (5 + 3 * s0)))]) F.1 F.2.1 d_IS_entriesIn_45 rfl hl (by decide) rfl (fun ls hl => ?_)
        refine lv_iinc (v := (nI (k + 1))) (lv' := [(3, .int (nI (k + 1))), (2, .int (nI (sm (wE σ rp true) (snS σ num s0 (gn σ)) k + (eI σ (rp k) 125).length))), (0, .ref (ca 0)), (1, .ref (ca (5 + 3 * s0)))]) F.1 F.2.1 d_IS_entriesIn_46 hl (k := 1) rfl (nI_1 k) (by decide) rfl (fun ls hl => ?_)
        refine lv_goto (tgt := 9) F.1 F.2.1 d_IS_entriesIn_49 (by decide) ?_
        exact ih (k + 1) (by omega) ls (by rw [show sm (wE σ rp true) (snS σ num s0 (gn σ)) (k + 1) = sm (wE σ rp true) (snS σ num s0 (gn σ)) k + (eI σ (rp k) 125).length from (by show _ + (if _ then _ else _) = _; rw [if_pos c26]; rfl)]; exact lv_sub hl [0, 1, 2, 3] rfl)
  exact loop nl 0 (by omega) ls hl
theorem x_sw6 (x : Int32) : x = 0 ∨ x = 1 ∨ x = 2 ∨ x = 3 ∨ x = 4 ∨ x = 5 ∨ (x.toInt < 0 ∨ 5 < x.toInt) := by
  rcases pk_ix x (n := 6) (by decide) with h | h | ⟨j, h1, rfl⟩
  · exact Or.inr (Or.inr (Or.inr (Or.inr (Or.inr (Or.inr (Or.inl (by simpa using Int32.lt_iff_toInt_lt.mp h)))))))
  · exact Or.inr (Or.inr (Or.inr (Or.inr (Or.inr (Or.inr (Or.inr (by have := Int32.le_iff_toInt_le.mp h; rw [nI_toInt (by decide)] at this; omega)))))))
  · have : j = 0 ∨ j = 1 ∨ j = 2 ∨ j = 3 ∨ j = 4 ∨ j = 5 := by omega
    rcases this with rfl | rfl | rfl | rfl | rfl | rfl
    · exact Or.inl rfl
    · exact Or.inr (Or.inl rfl)
    · exact Or.inr (Or.inr (Or.inl rfl))
    · exact Or.inr (Or.inr (Or.inr (Or.inl rfl)))
    · exact Or.inr (Or.inr (Or.inr (Or.inr (Or.inl rfl))))
    · exact Or.inr (Or.inr (Or.inr (Or.inr (Or.inr (Or.inl rfl)))))
theorem c_IS_count (x : Int32) (hok : gI σ) (hN : cNum σ nl num rp) : Met l y_IS_count (x_ws y_IS_count b_IS_count 2 (some .int)) (x_rm 5 0 0) (x_P G [.ref (ca 0), .int x] (CW G ca σ nl num rp f sn)) (x_Q (CO G ca σ nl (cntS σ x, σ))) 0 0 (cA G ca (gn σ) nl) := by
  refine x_wI (by decide +kernel) (Nat.le_of_ble_eq_true rfl) (fun p e s m args below meth c F hK hP ls hl Q hret => ?_)
  have hl : lv_has ls 2 [(0, .ref (ca 0)), (1, .int x)] := hl
  have hS : va_S (cA G ca (gn σ) nl) s.heap s.heap [] := va_S.rf
  have h13 : ∀ q, q = ca 13 → cA G ca (gn σ) nl q := fun q h => by rw [h]; exact hP.own (usS (by decide)) (by decide)
  obtain ⟨hin, hne, hO, hB, hs0, hs1, hdr, hse⟩ := id hP
  obtain ⟨hZ, ⟨ci, ei, hIm, hie⟩, ⟨cy, ey, hLy, hle⟩, hig, htg, hlg⟩ := id hB
  obtain ⟨⟨mo1, hA1⟩, -⟩ := id hIm
  obtain ⟨⟨mo3, hA3⟩, -⟩ := id hLy
  have hT5 := hs0.1
  have hT8 := hs1.1
  have hT11 := hdr.1
  refine lv_iload_n F.1 F.2.1 d_IS_count_0 rfl (lv_at hl 1 rfl) ?_
  rcases x_sw6 x with rfl | rfl | rfl | rfl | rfl | rfl | hst
  · skip
    refine lv_tableIn (off := 39) (tgt := 40) F.1 F.2.1 d_IS_count_1 (by decide) (by decide) (by decide) (by decide) ?_
    refine lv_aload_n F.1 F.2.1 d_IS_count_40 rfl (lv_at hl 0 rfl) ?_
    refine x_get F hK hO rfl i_IS 0 (by decide) k158 rfl rfl d_IS_count_41 ?_
    refine x_rd (x_V (n := 0) (As := []) F (c_AL_size l G (ca 1) (ca 2) ci (gn σ) ei) ok_AL_size k188 ⟨Nat.le_of_ble_eq_true rfl, Nat.le_of_ble_eq_true rfl⟩ rfl rfl hK (x_rcv hK hA1 rfl) (hIm) rfl hl.1 rfl (Nat.le_of_ble_eq_true rfl) d_IS_count_44 ⟨Nat.le_of_ble_eq_true rfl, Nat.le_of_ble_eq_true rfl⟩) ?_
    exact hret _ _ _ _ _ _ _ d_IS_count_47 (CO_same (q := (cntS σ 0, σ)) hP hN rfl hS.off) hS.2.2 (Nat.le_refl _) (Nat.le_refl _)
  · skip
    refine lv_tableIn (off := 47) (tgt := 48) F.1 F.2.1 d_IS_count_1 (by decide) (by decide) (by decide) (by decide) ?_
    refine lv_aload_n F.1 F.2.1 d_IS_count_48 rfl (lv_at hl 0 rfl) ?_
    refine lv_aload_n F.1 F.2.1 d_IS_count_49 rfl (lv_at hl 0 rfl) ?_
    refine x_get F hK hO rfl i_IS 2 (by decide) k160 rfl rfl d_IS_count_50 ?_
    refine x_wr (x_V (n := 1) (As := [.ref (ca 5)]) F (c_IS_layersIn l G ca σ nl num rp f sn 0 (by decide) hok hN) ok_IS_layersIn k376 ⟨Nat.le_of_ble_eq_true rfl, Nat.le_of_ble_eq_true rfl⟩ rfl rfl hK (x_rcv hK hO rfl) (hP) rfl hl.1 rfl (Nat.le_of_ble_eq_true rfl) d_IS_count_53 ⟨Nat.le_of_ble_eq_true rfl, Nat.le_of_ble_eq_true rfl⟩) hS (h13) (fun _ _ h => h.2.2.mono h13) (fun v H3 locs hpost hS => ?_)
    obtain ⟨rfl, ⟨sn', hP'⟩, ho⟩ := hpost
    exact hret _ _ _ _ _ _ _ d_IS_count_56 (CO_same (q := (cntS σ 1, σ)) hP' hN rfl hS.off) hS.2.2 (Nat.le_refl _) (Nat.le_refl _)
  · skip
    refine lv_tableIn (off := 56) (tgt := 57) F.1 F.2.1 d_IS_count_1 (by decide) (by decide) (by decide) (by decide) ?_
    refine lv_aload_n F.1 F.2.1 d_IS_count_57 rfl (lv_at hl 0 rfl) ?_
    refine lv_aload_n F.1 F.2.1 d_IS_count_58 rfl (lv_at hl 0 rfl) ?_
    refine x_get F hK hO rfl i_IS 3 (by decide) k161 rfl rfl d_IS_count_59 ?_
    refine x_wr (x_V (n := 1) (As := [.ref (ca 8)]) F (c_IS_layersIn l G ca σ nl num rp f sn 1 (by decide) hok hN) ok_IS_layersIn k376 ⟨Nat.le_of_ble_eq_true rfl, Nat.le_of_ble_eq_true rfl⟩ rfl rfl hK (x_rcv hK hO rfl) (hP) rfl hl.1 rfl (Nat.le_of_ble_eq_true rfl) d_IS_count_62 ⟨Nat.le_of_ble_eq_true rfl, Nat.le_of_ble_eq_true rfl⟩) hS (h13) (fun _ _ h => h.2.2.mono h13) (fun v H4 locs hpost hS => ?_)
    obtain ⟨rfl, ⟨sn', hP'⟩, ho⟩ := hpost
    exact hret _ _ _ _ _ _ _ d_IS_count_65 (CO_same (q := (cntS σ 2, σ)) hP' hN rfl hS.off) hS.2.2 (Nat.le_refl _) (Nat.le_refl _)
  · skip
    refine lv_tableIn (off := 65) (tgt := 66) F.1 F.2.1 d_IS_count_1 (by decide) (by decide) (by decide) (by decide) ?_
    refine lv_aload_n F.1 F.2.1 d_IS_count_66 rfl (lv_at hl 0 rfl) ?_
    refine lv_aload_n F.1 F.2.1 d_IS_count_67 rfl (lv_at hl 0 rfl) ?_
    refine x_get F hK hO rfl i_IS 2 (by decide) k160 rfl rfl d_IS_count_68 ?_
    refine x_wr (x_V (n := 1) (As := [.ref (ca 5)]) F (c_IS_entriesIn l G ca σ nl num rp f sn 0 (by decide) hok hN) ok_IS_entriesIn k467 ⟨Nat.le_of_ble_eq_true rfl, Nat.le_of_ble_eq_true rfl⟩ rfl rfl hK (x_rcv hK hO rfl) (hP) rfl hl.1 rfl (Nat.le_of_ble_eq_true rfl) d_IS_count_71 ⟨Nat.le_of_ble_eq_true rfl, Nat.le_of_ble_eq_true rfl⟩) hS (h13) (fun _ _ h => h.2.2.mono h13) (fun v H5 locs hpost hS => ?_)
    obtain ⟨rfl, ⟨sn', hP'⟩, ho⟩ := hpost
    exact hret _ _ _ _ _ _ _ d_IS_count_74 (CO_same (q := (cntS σ 3, σ)) hP' hN rfl hS.off) hS.2.2 (Nat.le_refl _) (Nat.le_refl _)
  · skip
    refine lv_tableIn (off := 74) (tgt := 75) F.1 F.2.1 d_IS_count_1 (by decide) (by decide) (by decide) (by decide) ?_
    refine lv_aload_n F.1 F.2.1 d_IS_count_75 rfl (lv_at hl 0 rfl) ?_
    refine lv_aload_n F.1 F.2.1 d_IS_count_76 rfl (lv_at hl 0 rfl) ?_
    refine x_get F hK hO rfl i_IS 3 (by decide) k161 rfl rfl d_IS_count_77 ?_
    refine x_wr (x_V (n := 1) (As := [.ref (ca 8)]) F (c_IS_entriesIn l G ca σ nl num rp f sn 1 (by decide) hok hN) ok_IS_entriesIn k467 ⟨Nat.le_of_ble_eq_true rfl, Nat.le_of_ble_eq_true rfl⟩ rfl rfl hK (x_rcv hK hO rfl) (hP) rfl hl.1 rfl (Nat.le_of_ble_eq_true rfl) d_IS_count_80 ⟨Nat.le_of_ble_eq_true rfl, Nat.le_of_ble_eq_true rfl⟩) hS (h13) (fun _ _ h => h.2.2.mono h13) (fun v H6 locs hpost hS => ?_)
    obtain ⟨rfl, ⟨sn', hP'⟩, ho⟩ := hpost
    exact hret _ _ _ _ _ _ _ d_IS_count_83 (CO_same (q := (cntS σ 4, σ)) hP' hN rfl hS.off) hS.2.2 (Nat.le_refl _) (Nat.le_refl _)
  · skip
    refine lv_tableIn (off := 83) (tgt := 84) F.1 F.2.1 d_IS_count_1 (by decide) (by decide) (by decide) (by decide) ?_
    refine lv_aload_n F.1 F.2.1 d_IS_count_84 rfl (lv_at hl 0 rfl) ?_
    refine x_get F hK hO rfl i_IS 6 (by decide) k164 rfl rfl d_IS_count_85 ?_
    exact hret _ _ _ _ _ _ _ d_IS_count_88 (CO_same (q := (cntS σ 5, σ)) hP hN rfl hS.off) hS.2.2 (Nat.le_refl _) (Nat.le_refl _)
  · have hv : cntS σ x = -1 := by
      unfold cntS
      rw [if_neg (by rintro rfl; revert hst; decide), if_neg (by rintro rfl; revert hst; decide), if_neg (by rintro rfl; revert hst; decide), if_neg (by rintro rfl; revert hst; decide), if_neg (by rintro rfl; revert hst; decide), if_neg (by rintro rfl; revert hst; decide)]
    refine lv_tableOut (tgt := 89) F.1 F.2.1 d_IS_count_1 hst (by decide) ?_
    refine lv_iconst (v := (-1)) F.1 F.2.1 d_IS_count_89 (by decide) ?_
    exact hret _ _ _ _ _ _ _ d_IS_count_90 (by have z := CO_same (q := (cntS σ x, σ)) hP hN rfl hS.off; rw [hv] at z ⊢; exact z) hS.2.2 (Nat.le_refl _) (Nat.le_refl _)
theorem c_IS_tag (x y z : Int32) (hok : gI σ) (hN : cNum σ nl num rp) : Met l y_IS_tag (x_ws y_IS_tag b_IS_tag 5 (some .int)) (x_rm 1 0 0) (x_P G [.ref (ca 0), .int x, .int y, .int z] (CW G ca σ nl num rp f sn)) (x_Q (CO G ca σ nl (tagS σ x y z))) 0 0 (cA G ca (gn σ) nl) := by
  refine x_wI (by decide +kernel) (Nat.le_of_ble_eq_true rfl) (fun p e s m args below meth c F hK hP ls hl Q hret => ?_)
  have hl : lv_has ls 5 [(0, .ref (ca 0)), (1, .int x), (2, .int y), (3, .int z)] := hl
  have hS : va_S (cA G ca (gn σ) nl) s.heap s.heap [] := va_S.rf
  have hn40 := hok.1.2.1
  obtain ⟨hin, hne, hO, hB, hs0, hs1, hdr, hse⟩ := id hP
  obtain ⟨hZ, ⟨ci, ei, hIm, hie⟩, ⟨cy, ey, hLy, hle⟩, hig, htg, hlg⟩ := id hB
  obtain ⟨⟨mo1, hA1⟩, -⟩ := id hIm
  obtain ⟨⟨mo3, hA3⟩, -⟩ := id hLy
  have hT5 := hs0.1
  have hT8 := hs1.1
  have hT11 := hdr.1
  have k26 : tagS σ x y z = (-1, σ) → ∀ ls : Array Slot, lv_has ls 5 [(0, .ref (ca 0)), (1, .int x), (2, .int y), (3, .int z)] → W p l e (x_rm 1 0 0) s m args below meth c s.heap [] 0 0 Q (F0 m 26 ls []) := by
    intro hb ls hl
    refine lv_iconst (v := (-1)) F.1 F.2.1 d_IS_tag_26 (by decide) ?_
    exact hret _ _ _ _ _ _ _ d_IS_tag_27 (by rw [hb]; exact CO_same (q := (-1, σ)) hP hN rfl hS.off) hS.2.2 (Nat.le_refl _) (Nat.le_refl _)
  refine lv_iload_n F.1 F.2.1 d_IS_tag_0 rfl (lv_at hl 1 rfl) ?_
  refine x_rd (x_S (n := 1) (As := [.int x]) F (c_IS_isStore l G x) ok_IS_isStore k346 ⟨Nat.le_of_ble_eq_true rfl, Nat.le_of_ble_eq_true rfl⟩ rfl rfl hK (trivial) rfl hl.1 rfl (Nat.le_of_ble_eq_true rfl) d_IS_tag_1 ⟨Nat.le_of_ble_eq_true rfl, Nat.le_of_ble_eq_true rfl⟩) ?_
  refine x_beq (tgt := 26) F d_IS_tag_4 (by decide) (fun c4 => ?_) (fun c4 => ?_)
  · exact k26 (by unfold tagS; rw [if_pos (by rw [bad_eq, c4]; rfl)]) ls hl
  · refine lv_iload_n F.1 F.2.1 d_IS_tag_7 rfl (lv_at hl 2 rfl) ?_
    refine x_rd (x_S (n := 1) (As := [.int y]) F (c_IS_isTag l G y) ok_IS_isTag k349 ⟨Nat.le_of_ble_eq_true rfl, Nat.le_of_ble_eq_true rfl⟩ rfl rfl hK (trivial) rfl hl.1 rfl (Nat.le_of_ble_eq_true rfl) d_IS_tag_8 ⟨Nat.le_of_ble_eq_true rfl, Nat.le_of_ble_eq_true rfl⟩) ?_
    refine x_beq (tgt := 26) F d_IS_tag_11 (by decide) (fun c11 => ?_) (fun c11 => ?_)
    · exact k26 (by unfold tagS; rw [if_pos (by rw [bad_eq, c4, c11]; rfl)]) ls hl
    · obtain ⟨s0, hs0', rfl⟩ := st_of c4
      obtain ⟨t0, ht0, rfl⟩ := tg_of c11
      have hv : tagS σ (nI s0) (nI t0) z = if hoB σ s0 z = true then (nI (gg σ s0 t0), tgS σ s0 t0 z.toNatClampNeg) else (-1, σ) := by unfold tagS; rw [if_neg (by rw [badTag_n hs0' ht0]; decide), show (nI s0).toNatClampNeg = s0 from nI_clamp (by omega), show (nI t0).toNatClampNeg = t0 from nI_clamp (by omega)]
      have hST := hP.st hs0'
      have hTs := hST.1
      refine lv_aload_n F.1 F.2.1 d_IS_tag_14 rfl (lv_at hl 0 rfl) ?_
      refine lv_iload_n F.1 F.2.1 d_IS_tag_15 rfl (lv_at hl 1 rfl) ?_
      refine x_rd (x_V (n := 1) (As := [.int (nI s0)]) F (c_IS_storeOf l G ca σ nl num rp f sn s0 hs0') ok_IS_storeOf k352 ⟨Nat.le_of_ble_eq_true rfl, Nat.le_of_ble_eq_true rfl⟩ rfl rfl hK (x_rcv hK hO rfl) (hP) rfl hl.1 rfl (Nat.le_of_ble_eq_true rfl) d_IS_tag_16 ⟨Nat.le_of_ble_eq_true rfl, Nat.le_of_ble_eq_true rfl⟩) ?_
      refine lv_iload_n F.1 F.2.1 d_IS_tag_19 rfl (lv_at hl 3 rfl) ?_
      refine x_rd (x_V (n := 1) (As := [.int z]) F (c_ST_holds l G (ca (5 + 3 * s0)) (ca (5 + 3 * s0 + 1)) (ca (5 + 3 * s0 + 2)) (gh σ s0) (gg σ s0) z) ok_ST_holds k192 ⟨Nat.le_of_ble_eq_true rfl, Nat.le_of_ble_eq_true rfl⟩ rfl rfl hK (x_rcv hK hTs rfl) (hST) rfl hl.1 rfl (Nat.le_of_ble_eq_true rfl) d_IS_tag_20 ⟨Nat.le_of_ble_eq_true rfl, Nat.le_of_ble_eq_true rfl⟩) ?_
      rw [inS_ho hok hs0']
      refine x_bne (tgt := 28) F d_IS_tag_23 (by decide) (fun c23 => ?_) (fun c23 => ?_)
      · obtain ⟨i, hi, rfl, hci, hgi⟩ := hoB_of hn40 c23
        rw [if_pos c23, hci] at hv
        refine lv_aload_n F.1 F.2.1 d_IS_tag_28 rfl (lv_at hl 0 rfl) ?_
        refine lv_iload_n F.1 F.2.1 d_IS_tag_29 rfl (lv_at hl 1 rfl) ?_
        refine x_rd (x_V (n := 1) (As := [.int (nI s0)]) F (c_IS_storeOf l G ca σ nl num rp f sn s0 hs0') ok_IS_storeOf k352 ⟨Nat.le_of_ble_eq_true rfl, Nat.le_of_ble_eq_true rfl⟩ rfl rfl hK (x_rcv hK hO rfl) (hP) rfl hl.1 rfl (Nat.le_of_ble_eq_true rfl) d_IS_tag_30 ⟨Nat.le_of_ble_eq_true rfl, Nat.le_of_ble_eq_true rfl⟩) ?_
        refine lv_iload_n F.1 F.2.1 d_IS_tag_33 rfl (lv_at hl 2 rfl) ?_
        refine x_rd (x_V (n := 1) (As := [.int (nI t0)]) F (c_ST_nameOf l G (ca (5 + 3 * s0)) (ca (5 + 3 * s0 + 1)) (ca (5 + 3 * s0 + 2)) (gh σ s0) (gg σ s0) t0 ht0) ok_ST_nameOf k356 ⟨Nat.le_of_ble_eq_true rfl, Nat.le_of_ble_eq_true rfl⟩ rfl rfl hK (x_rcv hK hTs rfl) (hST) rfl hl.1 rfl (Nat.le_of_ble_eq_true rfl) d_IS_tag_34 ⟨Nat.le_of_ble_eq_true rfl, Nat.le_of_ble_eq_true rfl⟩) ?_
        refine lv_istore (lv' := [(4, .int (nI (gg σ s0 t0))), (0, .ref (ca 0)), (1, .int (nI s0)), (2, .int (nI t0)), (3, .int (nI i))]) F.1 F.2.1 d_IS_tag_37 hl (by decide) rfl (fun ls hl => ?_)
        refine lv_aload_n F.1 F.2.1 d_IS_tag_39 rfl (lv_at hl 1 rfl) ?_
        refine lv_iload_n F.1 F.2.1 d_IS_tag_40 rfl (lv_at hl 2 rfl) ?_
        refine x_rd (x_V (n := 1) (As := [.int (nI s0)]) F (c_IS_storeOf l G ca σ nl num rp f sn s0 hs0') ok_IS_storeOf k352 ⟨Nat.le_of_ble_eq_true rfl, Nat.le_of_ble_eq_true rfl⟩ rfl rfl hK (x_rcv hK hO rfl) (hP) rfl hl.1 rfl (Nat.le_of_ble_eq_true rfl) d_IS_tag_41 ⟨Nat.le_of_ble_eq_true rfl, Nat.le_of_ble_eq_true rfl⟩) ?_
        refine lv_iload_n F.1 F.2.1 d_IS_tag_44 rfl (lv_at hl 3 rfl) ?_
        refine lv_iload_n F.1 F.2.1 d_IS_tag_45 rfl (lv_at hl 4 rfl) ?_
        refine x_wr (x_V (n := 2) (As := [.int (nI t0), .int (nI i)]) F (c_ST_giveName l G (ca (5 + 3 * s0)) (ca (5 + 3 * s0 + 1)) (ca (5 + 3 * s0 + 2)) (gh σ s0) (gg σ s0) t0 i ht0) ok_ST_giveName k360 ⟨Nat.le_of_ble_eq_true rfl, Nat.le_of_ble_eq_true rfl⟩ rfl rfl hK (x_rcv hK hTs rfl) (hST) rfl hl.1 rfl (Nat.le_of_ble_eq_true rfl) d_IS_tag_46 ⟨Nat.le_of_ble_eq_true rfl, Nat.le_of_ble_eq_true rfl⟩) hS (fun q h => by rw [h]; exact hP.own (usS (by omega)) (by omega)) (fun _ _ h => h.2.2.mono (fun q h => by rw [h]; exact hP.own (usS (by omega)) (by omega))) (fun v H7 locs hpost hS => ?_)
        obtain ⟨rfl, hST1, ho⟩ := hpost
        have hw := hP.store hs0' hST1 (ho.mono (fun _ z => Or.inr z)) (h' := gh σ) (g' := tSet (gg σ) s0 t0 i) rfl rfl (tSet_self _ _ _ _) (tSet_ne _ _ _ (by omega))
        refine lv_iload F.1 F.2.1 d_IS_tag_49 (lv_at hl 0 rfl) ?_
        exact hret _ _ _ _ _ _ _ d_IS_tag_51 (by rw [hv]; exact CO_same (q := (nI (gg σ s0 t0), tgS σ s0 t0 i)) hw hN rfl hS.off) hS.2.2 (Nat.le_refl _) (Nat.le_refl _)
      · exact k26 (by rw [hv, if_neg (by rw [c23]; decide)]) ls hl
theorem c_IS_untag (x y : Int32) (hok : gI σ) (hN : cNum σ nl num rp) : Met l y_IS_untag (x_ws y_IS_untag b_IS_untag 4 (some .int)) (x_rm 2 0 0) (x_P G [.ref (ca 0), .int x, .int y] (CW G ca σ nl num rp f sn)) (x_Q (CO G ca σ nl (untS σ x y))) 0 0 (cA G ca (gn σ) nl) := by
  refine x_wI (by decide +kernel) (Nat.le_of_ble_eq_true rfl) (fun p e s m args below meth c F hK hP ls hl Q hret => ?_)
  have hl : lv_has ls 4 [(0, .ref (ca 0)), (1, .int x), (2, .int y)] := hl
  have hS : va_S (cA G ca (gn σ) nl) s.heap s.heap [] := va_S.rf
  obtain ⟨hin, hne, hO, hB, hs0, hs1, hdr, hse⟩ := id hP
  obtain ⟨hZ, ⟨ci, ei, hIm, hie⟩, ⟨cy, ey, hLy, hle⟩, hig, htg, hlg⟩ := id hB
  obtain ⟨⟨mo1, hA1⟩, -⟩ := id hIm
  obtain ⟨⟨mo3, hA3⟩, -⟩ := id hLy
  have hT5 := hs0.1
  have hT8 := hs1.1
  have hT11 := hdr.1
  refine lv_aload_n F.1 F.2.1 d_IS_untag_0 rfl (lv_at hl 0 rfl) ?_
  refine lv_iload_n F.1 F.2.1 d_IS_untag_1 rfl (lv_at hl 1 rfl) ?_
  refine lv_iload_n F.1 F.2.1 d_IS_untag_2 rfl (lv_at hl 2 rfl) ?_
  refine x_rd (x_V (n := 2) (As := [.int x, .int y]) F (c_IS_namesImage l G ca σ nl num rp f sn x y hok) ok_IS_namesImage k368 ⟨Nat.le_of_ble_eq_true rfl, Nat.le_of_ble_eq_true rfl⟩ rfl rfl hK (x_rcv hK hO rfl) (hP) rfl hl.1 rfl (Nat.le_of_ble_eq_true rfl) d_IS_untag_3 ⟨Nat.le_of_ble_eq_true rfl, Nat.le_of_ble_eq_true rfl⟩) ?_
  refine x_bne (tgt := 11) F d_IS_untag_6 (by decide) (fun c6 => ?_) (fun c6 => ?_)
  · unfold nmB at c6
    rw [Bool.and_eq_true] at c6
    have hb : mo_badTag x y = false := by have := c6.1; simpa using this
    have hg40 : ¬ gg σ x.toNatClampNeg y.toNatClampNeg = 40 := by have := c6.2; simpa using this
    have hv : untS σ x y = (nI (gg σ x.toNatClampNeg y.toNatClampNeg), tgS σ x.toNatClampNeg y.toNatClampNeg 40) := by unfold untS; rw [if_neg (by rintro (h | h); rw [hb] at h; cases h; exact hg40 h)]
    obtain ⟨s0, t0, hs0', ht0, rfl, rfl⟩ := badTag_of hb
    rw [show (nI s0).toNatClampNeg = s0 from nI_clamp (by omega), show (nI t0).toNatClampNeg = t0 from nI_clamp (by omega)] at hv
    have hST := hP.st hs0'
    have hTs := hST.1
    refine lv_aload_n F.1 F.2.1 d_IS_untag_11 rfl (lv_at hl 0 rfl) ?_
    refine lv_iload_n F.1 F.2.1 d_IS_untag_12 rfl (lv_at hl 1 rfl) ?_
    refine x_rd (x_V (n := 1) (As := [.int (nI s0)]) F (c_IS_storeOf l G ca σ nl num rp f sn s0 hs0') ok_IS_storeOf k352 ⟨Nat.le_of_ble_eq_true rfl, Nat.le_of_ble_eq_true rfl⟩ rfl rfl hK (x_rcv hK hO rfl) (hP) rfl hl.1 rfl (Nat.le_of_ble_eq_true rfl) d_IS_untag_13 ⟨Nat.le_of_ble_eq_true rfl, Nat.le_of_ble_eq_true rfl⟩) ?_
    refine lv_iload_n F.1 F.2.1 d_IS_untag_16 rfl (lv_at hl 2 rfl) ?_
    refine x_rd (x_V (n := 1) (As := [.int (nI t0)]) F (c_ST_nameOf l G (ca (5 + 3 * s0)) (ca (5 + 3 * s0 + 1)) (ca (5 + 3 * s0 + 2)) (gh σ s0) (gg σ s0) t0 ht0) ok_ST_nameOf k356 ⟨Nat.le_of_ble_eq_true rfl, Nat.le_of_ble_eq_true rfl⟩ rfl rfl hK (x_rcv hK hTs rfl) (hST) rfl hl.1 rfl (Nat.le_of_ble_eq_true rfl) d_IS_untag_17 ⟨Nat.le_of_ble_eq_true rfl, Nat.le_of_ble_eq_true rfl⟩) ?_
    refine lv_istore_n (lv' := [(3, .int (nI (gg σ s0 t0))), (0, .ref (ca 0)), (1, .int (nI s0)), (2, .int (nI t0))]) F.1 F.2.1 d_IS_untag_20 rfl hl (by decide) rfl (fun ls hl => ?_)
    refine lv_aload_n F.1 F.2.1 d_IS_untag_21 rfl (lv_at hl 1 rfl) ?_
    refine lv_iload_n F.1 F.2.1 d_IS_untag_22 rfl (lv_at hl 2 rfl) ?_
    refine x_rd (x_V (n := 1) (As := [.int (nI s0)]) F (c_IS_storeOf l G ca σ nl num rp f sn s0 hs0') ok_IS_storeOf k352 ⟨Nat.le_of_ble_eq_true rfl, Nat.le_of_ble_eq_true rfl⟩ rfl rfl hK (x_rcv hK hO rfl) (hP) rfl hl.1 rfl (Nat.le_of_ble_eq_true rfl) d_IS_untag_23 ⟨Nat.le_of_ble_eq_true rfl, Nat.le_of_ble_eq_true rfl⟩) ?_
    refine lv_iload_n F.1 F.2.1 d_IS_untag_26 rfl (lv_at hl 3 rfl) ?_
    refine lv_bipush (v := 40) F.1 F.2.1 d_IS_untag_27 (by decide) ?_
    refine x_wr (x_V (n := 2) (As := [.int (nI t0), .int (nI 40)]) F (c_ST_giveName l G (ca (5 + 3 * s0)) (ca (5 + 3 * s0 + 1)) (ca (5 + 3 * s0 + 2)) (gh σ s0) (gg σ s0) t0 40 ht0) ok_ST_giveName k360 ⟨Nat.le_of_ble_eq_true rfl, Nat.le_of_ble_eq_true rfl⟩ rfl rfl hK (x_rcv hK hTs rfl) (hST) rfl hl.1 rfl (Nat.le_of_ble_eq_true rfl) d_IS_untag_29 ⟨Nat.le_of_ble_eq_true rfl, Nat.le_of_ble_eq_true rfl⟩) hS (fun q h => by rw [h]; exact hP.own (usS (by omega)) (by omega)) (fun _ _ h => h.2.2.mono (fun q h => by rw [h]; exact hP.own (usS (by omega)) (by omega))) (fun v H8 locs hpost hS => ?_)
    obtain ⟨rfl, hST1, ho⟩ := hpost
    have hw := hP.store hs0' hST1 (ho.mono (fun _ z => Or.inr z)) (h' := gh σ) (g' := tSet (gg σ) s0 t0 40) rfl rfl (tSet_self _ _ _ _) (tSet_ne _ _ _ (by omega))
    refine lv_iload_n F.1 F.2.1 d_IS_untag_32 rfl (lv_at hl 0 rfl) ?_
    exact hret _ _ _ _ _ _ _ d_IS_untag_33 (by rw [hv]; exact CO_same (q := (nI (gg σ s0 t0), tgS σ s0 t0 40)) hw hN rfl hS.off) hS.2.2 (Nat.le_refl _) (Nat.le_refl _)
  · refine lv_iconst (v := (-1)) F.1 F.2.1 d_IS_untag_9 (by decide) ?_
    have hv : untS σ x y = (-1, σ) := by
      unfold untS
      rw [if_pos]
      unfold nmB at c6
      by_cases hb : mo_badTag x y = true
      · exact Or.inl hb
      · by_cases hg : gg σ x.toNatClampNeg y.toNatClampNeg = 40
        · exact Or.inr hg
        · rw [decide_eq_false hg] at c6; simp at c6; exact Or.inl c6
    exact hret _ _ _ _ _ _ _ d_IS_untag_10 (by rw [hv]; exact CO_same (q := (-1, σ)) hP hN rfl hS.off) hS.2.2 (Nat.le_refl _) (Nat.le_refl _)
theorem c_IS_send (x y : Int32) (hok : gI σ) (hN : cNum σ nl num rp) : Met l y_IS_send (x_ws y_IS_send b_IS_send 6 (some .int)) (x_rm 5 0 0) (x_P G [.ref (ca 0), .int x, .int y] (CW G ca σ nl num rp f sn)) (x_Q (CO G ca σ nl (sndS σ x y))) 0 0 (cA G ca (gn σ) nl) := by
  refine x_wI (by decide +kernel) (Nat.le_of_ble_eq_true rfl) (fun p e s m args below meth c F hK hP ls hl Q hret => ?_)
  have hl : lv_has ls 6 [(0, .ref (ca 0)), (1, .int x), (2, .int y)] := hl
  have hS : va_S (cA G ca (gn σ) nl) s.heap s.heap [] := va_S.rf
  have h13 : ∀ q, q = ca 13 → cA G ca (gn σ) nl q := fun q h => by rw [h]; exact hP.own (usS (by decide)) (by decide)
  have hn40 := hok.1.2.1
  obtain ⟨hin, hne, hO, hB, hs0, hs1, hdr, hse⟩ := id hP
  obtain ⟨hZ, ⟨ci, ei, hIm, hie⟩, ⟨cy, ey, hLy, hle⟩, hig, htg, hlg⟩ := id hB
  obtain ⟨⟨mo1, hA1⟩, -⟩ := id hIm
  obtain ⟨⟨mo3, hA3⟩, -⟩ := id hLy
  have hT5 := hs0.1
  have hT8 := hs1.1
  have hT11 := hdr.1
  refine lv_aload_n F.1 F.2.1 d_IS_send_0 rfl (lv_at hl 0 rfl) ?_
  refine lv_iload_n F.1 F.2.1 d_IS_send_1 rfl (lv_at hl 1 rfl) ?_
  refine lv_iload_n F.1 F.2.1 d_IS_send_2 rfl (lv_at hl 2 rfl) ?_
  refine x_rd (x_V (n := 2) (As := [.int x, .int y]) F (c_IS_namesImage l G ca σ nl num rp f sn x y hok) ok_IS_namesImage k368 ⟨Nat.le_of_ble_eq_true rfl, Nat.le_of_ble_eq_true rfl⟩ rfl rfl hK (x_rcv hK hO rfl) (hP) rfl hl.1 rfl (Nat.le_of_ble_eq_true rfl) d_IS_send_3 ⟨Nat.le_of_ble_eq_true rfl, Nat.le_of_ble_eq_true rfl⟩) ?_
  refine x_bne (tgt := 11) F d_IS_send_6 (by decide) (fun c6 => ?_) (fun c6 => ?_)
  · unfold nmB at c6
    rw [Bool.and_eq_true] at c6
    have hb : mo_badTag x y = false := by have := c6.1; simpa using this
    have hg40 : ¬ gg σ x.toNatClampNeg y.toNatClampNeg = 40 := by have := c6.2; simpa using this
    have hv : sndS σ x y = (sndV σ (1 - x.toNatClampNeg) (gg σ x.toNatClampNeg y.toNatClampNeg), sndT σ (1 - x.toNatClampNeg) y.toNatClampNeg (gg σ x.toNatClampNeg y.toNatClampNeg)) := by unfold sndS; rw [if_neg (by rintro (h | h); rw [hb] at h; cases h; exact hg40 h)]
    have hgS := gI_snd hok x y
    rw [hv] at hgS
    obtain ⟨s0, t0, hs0', ht0, rfl, rfl⟩ := badTag_of hb
    rw [show (nI s0).toNatClampNeg = s0 from nI_clamp (by omega), show (nI t0).toNatClampNeg = t0 from nI_clamp (by omega)] at hv hg40 hgS
    have hi : gg σ s0 t0 < gn σ := by
      rcases hok.1.2.2.2.2.2.2.2 s0 hs0' t0 ht0 with q | q
      · exact absurd q hg40
      · exact q.1
    have hST := hP.st hs0'
    have hTs := hST.1
    generalize hii : gg σ s0 t0 = i at hi hv hgS
    generalize hrr : 1 - s0 = s1 at hv hgS
    have hs1' : s1 < 2 := by omega
    have h5 : ∀ q, q = ca (5 + 3 * s1 + 1) → cA G ca (gn σ) nl q := fun q h => by rw [h]; exact hP.own (usS (by omega)) (by omega)
    have h6 : ∀ q, q = ca (5 + 3 * s1 + 2) → cA G ca (gn σ) nl q := fun q h => by rw [h]; exact hP.own (usS (by omega)) (by omega)
    refine lv_aload_n F.1 F.2.1 d_IS_send_11 rfl (lv_at hl 0 rfl) ?_
    refine lv_iload_n F.1 F.2.1 d_IS_send_12 rfl (lv_at hl 1 rfl) ?_
    refine x_rd (x_V (n := 1) (As := [.int (nI s0)]) F (c_IS_storeOf l G ca σ nl num rp f sn s0 hs0') ok_IS_storeOf k352 ⟨Nat.le_of_ble_eq_true rfl, Nat.le_of_ble_eq_true rfl⟩ rfl rfl hK (x_rcv hK hO rfl) (hP) rfl hl.1 rfl (Nat.le_of_ble_eq_true rfl) d_IS_send_13 ⟨Nat.le_of_ble_eq_true rfl, Nat.le_of_ble_eq_true rfl⟩) ?_
    refine lv_iload_n F.1 F.2.1 d_IS_send_16 rfl (lv_at hl 2 rfl) ?_
    refine x_rd (x_V (n := 1) (As := [.int (nI t0)]) F (c_ST_nameOf l G (ca (5 + 3 * s0)) (ca (5 + 3 * s0 + 1)) (ca (5 + 3 * s0 + 2)) (gh σ s0) (gg σ s0) t0 ht0) ok_ST_nameOf k356 ⟨Nat.le_of_ble_eq_true rfl, Nat.le_of_ble_eq_true rfl⟩ rfl rfl hK (x_rcv hK hTs rfl) (hST) rfl hl.1 rfl (Nat.le_of_ble_eq_true rfl) d_IS_send_17 ⟨Nat.le_of_ble_eq_true rfl, Nat.le_of_ble_eq_true rfl⟩) ?_
    rw [hii]
    refine lv_istore_n (lv' := [(3, .int (nI i)), (0, .ref (ca 0)), (1, .int (nI s0)), (2, .int (nI t0))]) F.1 F.2.1 d_IS_send_20 rfl hl (by decide) rfl (fun ls hl => ?_)
    refine lv_aload_n F.1 F.2.1 d_IS_send_21 rfl (lv_at hl 1 rfl) ?_
    refine lv_iconst (v := 1) F.1 F.2.1 d_IS_send_22 (by decide) ?_
    refine lv_iload_n F.1 F.2.1 d_IS_send_23 rfl (lv_at hl 2 rfl) ?_
    refine lv_isub F.1 F.2.1 d_IS_send_24 ?_
    rw [e1s hs0', hrr]
    refine x_rd (x_V (n := 1) (As := [.int (nI s1)]) F (c_IS_storeOf l G ca σ nl num rp f sn s1 hs1') ok_IS_storeOf k352 ⟨Nat.le_of_ble_eq_true rfl, Nat.le_of_ble_eq_true rfl⟩ rfl rfl hK (x_rcv hK hO rfl) (hP) rfl hl.1 rfl (Nat.le_of_ble_eq_true rfl) d_IS_send_25 ⟨Nat.le_of_ble_eq_true rfl, Nat.le_of_ble_eq_true rfl⟩) ?_
    refine lv_astore (lv' := [(4, .ref (ca (5 + 3 * s1))), (3, .int (nI i)), (0, .ref (ca 0)), (1, .int (nI s0)), (2, .int (nI t0))]) F.1 F.2.1 d_IS_send_28 hl (by decide) rfl (fun ls hl => ?_)
    refine lv_aload_n F.1 F.2.1 d_IS_send_30 rfl (lv_at hl 2 rfl) ?_
    refine lv_aload F.1 F.2.1 d_IS_send_31 (lv_at hl 0 rfl) ?_
    refine x_wr (x_V (n := 1) (As := [.ref (ca (5 + 3 * s1))]) F (c_IS_layersIn l G ca σ nl num rp f sn s1 hs1' hok hN) ok_IS_layersIn k376 ⟨Nat.le_of_ble_eq_true rfl, Nat.le_of_ble_eq_true rfl⟩ rfl rfl hK (x_rcv hK hO rfl) (hP) rfl hl.1 rfl (Nat.le_of_ble_eq_true rfl) d_IS_send_33 ⟨Nat.le_of_ble_eq_true rfl, Nat.le_of_ble_eq_true rfl⟩) hS (h13) (fun _ _ h => h.2.2.mono h13) (fun v H9 locs hpost hS => ?_)
    obtain ⟨rfl, ⟨sn1, hP1⟩, ho⟩ := hpost
    have hST := hP1.st hs1'
    have hTs := hST.1
    refine lv_istore (lv' := [(5, .int (nI (dfL σ (chH σ s1 (gn σ)) false (gn σ)))), (4, .ref (ca (5 + 3 * s1))), (3, .int (nI i)), (0, .ref (ca 0)), (1, .int (nI s0)), (2, .int (nI t0))]) F.1 F.2.1 d_IS_send_36 hl (by decide) rfl (fun ls hl => ?_)
    refine lv_aload F.1 F.2.1 d_IS_send_38 (lv_at hl 1 rfl) ?_
    refine lv_iload_n F.1 F.2.1 d_IS_send_40 rfl (lv_at hl 2 rfl) ?_
    refine x_wr (x_V (n := 1) (As := [.int (nI i)]) F (c_ST_hold l G (ca (5 + 3 * s1)) (ca (5 + 3 * s1 + 1)) (ca (5 + 3 * s1 + 2)) (gh σ s1) (gg σ s1) i (by omega)) ok_ST_hold k285 ⟨Nat.le_of_ble_eq_true rfl, Nat.le_of_ble_eq_true rfl⟩ rfl rfl hK (x_rcv hK hTs rfl) (hST) rfl hl.1 rfl (Nat.le_of_ble_eq_true rfl) d_IS_send_41 ⟨Nat.le_of_ble_eq_true rfl, Nat.le_of_ble_eq_true rfl⟩) hS (h5) (fun _ _ h => h.2.2.mono h5) (fun v H10 locs hpost hS => ?_)
    obtain ⟨rfl, hST, ho2⟩ := hpost
    have hTs := hST.1
    refine lv_aload F.1 F.2.1 d_IS_send_44 (lv_at hl 1 rfl) ?_
    refine lv_iload_n F.1 F.2.1 d_IS_send_46 rfl (lv_at hl 5 rfl) ?_
    refine lv_iload_n F.1 F.2.1 d_IS_send_47 rfl (lv_at hl 2 rfl) ?_
    refine x_wr (x_V (n := 2) (As := [.int (nI t0), .int (nI i)]) F (c_ST_giveName l G (ca (5 + 3 * s1)) (ca (5 + 3 * s1 + 1)) (ca (5 + 3 * s1 + 2)) (hOr (gh σ s1) i) (gg σ s1) t0 i ht0) ok_ST_giveName k360 ⟨Nat.le_of_ble_eq_true rfl, Nat.le_of_ble_eq_true rfl⟩ rfl rfl hK (x_rcv hK hTs rfl) (hST) rfl hl.1 rfl (Nat.le_of_ble_eq_true rfl) d_IS_send_48 ⟨Nat.le_of_ble_eq_true rfl, Nat.le_of_ble_eq_true rfl⟩) hS (h6) (fun _ _ h => h.2.2.mono h6) (fun v H11 locs hpost hS => ?_)
    obtain ⟨rfl, hST, ho3⟩ := hpost
    have hw := hP1.store hs1' hST ((ho2.mono (fun _ z => Or.inl z)).tr (ho3.mono (fun _ z => Or.inr z))) (h' := gSet (gh σ) s1 i true) (g' := tSet (gg σ) s1 t0 i) (gSet_self _ _ _) (gSet_ne _ _ _ (by omega)) (tSet_self _ _ _ _) (tSet_ne _ _ _ (by omega))
    have hw : CW G ca (sndT σ s1 t0 i) nl num rp f sn1 _ := hw
    have hO := hw.2.2.1
    refine lv_aload_n F.1 F.2.1 d_IS_send_51 rfl (lv_at hl 3 rfl) ?_
    refine lv_aload F.1 F.2.1 d_IS_send_52 (lv_at hl 1 rfl) ?_
    refine x_wr (x_V (n := 1) (As := [.ref (ca (5 + 3 * s1))]) F (c_IS_layersIn l G ca (sndT σ s1 t0 i) nl num rp f sn1 s1 hs1' hgS hN) ok_IS_layersIn k376 ⟨Nat.le_of_ble_eq_true rfl, Nat.le_of_ble_eq_true rfl⟩ rfl rfl hK (x_rcv hK hO rfl) (hw) rfl hl.1 rfl (Nat.le_of_ble_eq_true rfl) d_IS_send_54 ⟨Nat.le_of_ble_eq_true rfl, Nat.le_of_ble_eq_true rfl⟩) hS (h13) (fun _ _ h => h.2.2.mono h13) (fun v H12 locs hpost hS => ?_)
    obtain ⟨rfl, ⟨sn2, hP2⟩, ho4⟩ := hpost
    refine lv_iload F.1 F.2.1 d_IS_send_57 (lv_at hl 0 rfl) ?_
    refine lv_isub F.1 F.2.1 d_IS_send_59 ?_
    have he : nI (dfL (sndT σ s1 t0 i) (chH (sndT σ s1 t0 i) s1 (gn σ)) false (gn σ)) - nI (dfL σ (chH σ s1 (gn σ)) false (gn σ)) = sndV σ s1 i := by
      unfold sndV sndT
      rw [chH_hold σ hi, dfL_same]
    exact hret _ _ _ _ _ _ _ d_IS_send_60 (by rw [hv]; have z := CO_same (q := (sndV σ s1 i, sndT σ s1 t0 i)) hP2 hN rfl hS.off; rw [← he] at z ⊢; exact z) hS.2.2 (Nat.le_refl _) (Nat.le_refl _)
  · refine lv_iconst (v := (-1)) F.1 F.2.1 d_IS_send_9 (by decide) ?_
    have hv : sndS σ x y = (-1, σ) := by
      unfold sndS
      rw [if_pos]
      unfold nmB at c6
      by_cases hb : mo_badTag x y = true
      · exact Or.inl hb
      · by_cases hg : gg σ x.toNatClampNeg y.toNatClampNeg = 40
        · exact Or.inr hg
        · rw [decide_eq_false hg] at c6; simp at c6; exact Or.inl c6
    exact hret _ _ _ _ _ _ _ d_IS_send_10 (by rw [hv]; exact CO_same (q := (-1, σ)) hP hN rfl hS.off) hS.2.2 (Nat.le_refl _) (Nat.le_refl _)
theorem c_IS_collect (x : Int32) (hok : gI σ) (hN : cNum σ nl num rp) : Met l y_IS_collect (x_ws y_IS_collect b_IS_collect 3 (some .int)) (x_rm 5 0 0) (x_P G [.ref (ca 0), .int x] (CW G ca σ nl num rp f sn)) (x_Q (CO G ca σ nl (colS σ x))) 0 0 (cA G ca (gn σ) nl) := by
  refine x_wI (by decide +kernel) (Nat.le_of_ble_eq_true rfl) (fun p e s m args below meth c F hK hP ls hl Q hret => ?_)
  have hl : lv_has ls 3 [(0, .ref (ca 0)), (1, .int x)] := hl
  have hS : va_S (cA G ca (gn σ) nl) s.heap s.heap [] := va_S.rf
  have h13 : ∀ q, q = ca 13 → cA G ca (gn σ) nl q := fun q h => by rw [h]; exact hP.own (usS (by decide)) (by decide)
  obtain ⟨hin, hne, hO, hB, hs0, hs1, hdr, hse⟩ := id hP
  obtain ⟨hZ, ⟨ci, ei, hIm, hie⟩, ⟨cy, ey, hLy, hle⟩, hig, htg, hlg⟩ := id hB
  obtain ⟨⟨mo1, hA1⟩, -⟩ := id hIm
  obtain ⟨⟨mo3, hA3⟩, -⟩ := id hLy
  have hT5 := hs0.1
  have hT8 := hs1.1
  have hT11 := hdr.1
  refine lv_iload_n F.1 F.2.1 d_IS_collect_0 rfl (lv_at hl 1 rfl) ?_
  refine x_rd (x_S (n := 1) (As := [.int x]) F (c_IS_isStore l G x) ok_IS_isStore k346 ⟨Nat.le_of_ble_eq_true rfl, Nat.le_of_ble_eq_true rfl⟩ rfl rfl hK (trivial) rfl hl.1 rfl (Nat.le_of_ble_eq_true rfl) d_IS_collect_1 ⟨Nat.le_of_ble_eq_true rfl, Nat.le_of_ble_eq_true rfl⟩) ?_
  refine x_bne (tgt := 9) F d_IS_collect_4 (by decide) (fun c4 => ?_) (fun c4 => ?_)
  · have hv : colS σ x = (colV σ x.toNatClampNeg, colT σ x.toNatClampNeg) := by unfold colS; rw [if_pos c4]
    obtain ⟨s0, hs0', rfl⟩ := st_of c4
    rw [show (nI s0).toNatClampNeg = s0 from nI_clamp (by omega)] at hv
    have h5 : ∀ q, q = ca (5 + 3 * s0 + 1) → cA G ca (gn σ) nl q := fun q h => by rw [h]; exact hP.own (usS (by omega)) (by omega)
    refine lv_aload_n F.1 F.2.1 d_IS_collect_9 rfl (lv_at hl 0 rfl) ?_
    refine lv_aload_n F.1 F.2.1 d_IS_collect_10 rfl (lv_at hl 0 rfl) ?_
    refine lv_iload_n F.1 F.2.1 d_IS_collect_11 rfl (lv_at hl 1 rfl) ?_
    refine x_rd (x_V (n := 1) (As := [.int (nI s0)]) F (c_IS_storeOf l G ca σ nl num rp f sn s0 hs0') ok_IS_storeOf k352 ⟨Nat.le_of_ble_eq_true rfl, Nat.le_of_ble_eq_true rfl⟩ rfl rfl hK (x_rcv hK hO rfl) (hP) rfl hl.1 rfl (Nat.le_of_ble_eq_true rfl) d_IS_collect_12 ⟨Nat.le_of_ble_eq_true rfl, Nat.le_of_ble_eq_true rfl⟩) ?_
    refine x_wr (x_V (n := 1) (As := [.ref (ca (5 + 3 * s0))]) F (c_IS_layersIn l G ca σ nl num rp f sn s0 hs0' hok hN) ok_IS_layersIn k376 ⟨Nat.le_of_ble_eq_true rfl, Nat.le_of_ble_eq_true rfl⟩ rfl rfl hK (x_rcv hK hO rfl) (hP) rfl hl.1 rfl (Nat.le_of_ble_eq_true rfl) d_IS_collect_15 ⟨Nat.le_of_ble_eq_true rfl, Nat.le_of_ble_eq_true rfl⟩) hS (h13) (fun _ _ h => h.2.2.mono h13) (fun v H13 locs hpost hS => ?_)
    obtain ⟨rfl, ⟨sn1, hP1⟩, ho⟩ := hpost
    have hST := hP1.st hs0'
    have hTs := hST.1
    have hO := hP1.2.2.1
    refine lv_istore_n (lv' := [(2, .int (nI (dfL σ (chH σ s0 (gn σ)) false (gn σ)))), (0, .ref (ca 0)), (1, .int (nI s0))]) F.1 F.2.1 d_IS_collect_18 rfl hl (by decide) rfl (fun ls hl => ?_)
    refine lv_aload_n F.1 F.2.1 d_IS_collect_19 rfl (lv_at hl 1 rfl) ?_
    refine lv_iload_n F.1 F.2.1 d_IS_collect_20 rfl (lv_at hl 2 rfl) ?_
    refine x_rd (x_V (n := 1) (As := [.int (nI s0)]) F (c_IS_storeOf l G ca σ nl num rp f sn1 s0 hs0') ok_IS_storeOf k352 ⟨Nat.le_of_ble_eq_true rfl, Nat.le_of_ble_eq_true rfl⟩ rfl rfl hK (x_rcv hK hO rfl) (hP1) rfl hl.1 rfl (Nat.le_of_ble_eq_true rfl) d_IS_collect_21 ⟨Nat.le_of_ble_eq_true rfl, Nat.le_of_ble_eq_true rfl⟩) ?_
    refine x_wr (x_V (n := 0) (As := []) F (c_ST_holdOnlyNamed l G (ca (5 + 3 * s0)) (ca (5 + 3 * s0 + 1)) (ca (5 + 3 * s0 + 2)) (gh σ s0) (gg σ s0) (fun t ht => gg_lt hok.1 hs0' ht)) ok_ST_holdOnlyNamed k388 ⟨Nat.le_of_ble_eq_true rfl, Nat.le_of_ble_eq_true rfl⟩ rfl rfl hK (x_rcv hK hTs rfl) (hST) rfl hl.1 rfl (Nat.le_of_ble_eq_true rfl) d_IS_collect_24 ⟨Nat.le_of_ble_eq_true rfl, Nat.le_of_ble_eq_true rfl⟩) hS (h5) (fun _ _ h => h.2.2.mono h5) (fun v H14 locs hpost hS => ?_)
    obtain ⟨rfl, hST, ho2⟩ := hpost
    have hw := hP1.store hs0' hST (ho2.mono (fun _ z => Or.inl z)) (h' := colK σ s0 6) (g' := gg σ) (funext fun j => if_pos rfl) (funext fun j => if_neg (by omega)) rfl rfl
    have hw : CW G ca (colT σ s0) nl num rp f sn1 _ := hw
    have hO := hw.2.2.1
    refine lv_iload_n F.1 F.2.1 d_IS_collect_27 rfl (lv_at hl 0 rfl) ?_
    refine lv_aload_n F.1 F.2.1 d_IS_collect_28 rfl (lv_at hl 1 rfl) ?_
    refine lv_aload_n F.1 F.2.1 d_IS_collect_29 rfl (lv_at hl 1 rfl) ?_
    refine lv_iload_n F.1 F.2.1 d_IS_collect_30 rfl (lv_at hl 2 rfl) ?_
    refine x_rd (x_V (n := 1) (As := [.int (nI s0)]) F (c_IS_storeOf l G ca (colT σ s0) nl num rp f sn1 s0 hs0') ok_IS_storeOf k352 ⟨Nat.le_of_ble_eq_true rfl, Nat.le_of_ble_eq_true rfl⟩ rfl rfl hK (x_rcv hK hO rfl) (hw) rfl hl.1 rfl (Nat.le_of_ble_eq_true rfl) d_IS_collect_31 ⟨Nat.le_of_ble_eq_true rfl, Nat.le_of_ble_eq_true rfl⟩) ?_
    refine x_wr (x_V (n := 1) (As := [.ref (ca (5 + 3 * s0))]) F (c_IS_layersIn l G ca (colT σ s0) nl num rp f sn1 s0 hs0' (gI_col hok) hN) ok_IS_layersIn k376 ⟨Nat.le_of_ble_eq_true rfl, Nat.le_of_ble_eq_true rfl⟩ rfl rfl hK (x_rcv hK hO rfl) (hw) rfl hl.1 rfl (Nat.le_of_ble_eq_true rfl) d_IS_collect_34 ⟨Nat.le_of_ble_eq_true rfl, Nat.le_of_ble_eq_true rfl⟩) hS (h13) (fun _ _ h => h.2.2.mono h13) (fun v H15 locs hpost hS => ?_)
    obtain ⟨rfl, ⟨sn2, hP2⟩, ho4⟩ := hpost
    refine lv_isub F.1 F.2.1 d_IS_collect_37 ?_
    exact hret _ _ _ _ _ _ _ d_IS_collect_38 (by rw [hv]; exact CO_same (q := (colV σ s0, colT σ s0)) hP2 hN rfl hS.off) hS.2.2 (Nat.le_refl _) (Nat.le_refl _)
  · refine lv_iconst (v := (-1)) F.1 F.2.1 d_IS_collect_7 (by decide) ?_
    exact hret _ _ _ _ _ _ _ d_IS_collect_8 (by rw [show colS σ x = (-1, σ) from (by unfold colS; rw [if_neg (by rw [c4]; decide)])]; exact CO_same (q := (-1, σ)) hP hN rfl hS.off) hS.2.2 (Nat.le_refl _) (Nat.le_refl _)
    end WS

