/-! ===== newImageOn ===== -/
theorem x_off.new {A : Nat → Prop} {H0 H H1 : Heap} (h : x_off A H0 H) (hz : H1.size = H.size + 1) (ho : ∀ q : Nat, q < H.size → H1[q]? = H[q]?) : x_off A H0 H1 := ⟨by have := h.1; omega, fun q h1 h2 => (ho q (Nat.lt_of_lt_of_le h1 h.1)).trans (h.2 q h1 h2)⟩
theorem x_off.up {A B : Nat → Prop} {H0 H H1 : Heap} (h : x_off A H0 H) (h' : x_off B H H1) (hB : ∀ q, B q → H0.size ≤ q) : x_off A H0 H1 := ⟨Nat.le_trans h.1 h'.1, fun q h1 h2 => (h'.2 q (Nat.lt_of_lt_of_le h1 h.1) (fun z => absurd (hB q z) (by omega))).trans (h.2 q h1 h2)⟩
theorem ly_new {σ : Sg} (hok : gI σ) {f : Nat → Int64} (hf : tOk f) {o r : Nat} (ho : o < gn σ) (h0 : 0 < r) (hr : r < gn σ) : lyEq (eI σ r 125) (mkI σ r) (eL (gt σ o) f 125) (mk (gt σ o) f) = smB (newS σ f o) r (gn σ) := by
  have hp := hok.1.2.2.1 r h0
  have e1 : mkI (newS σ f o) r = mkI σ r := funext fun p => by
    show mk (va_up (gt σ) (gn σ) f (va_up (gp σ) (gn σ) o r)) (va_up (gt σ) (gn σ) f r) p = _
    rw [va_up_ne (gp σ) _ (show r ≠ gn σ by omega), va_up_ne (gt σ) _ (show gp σ r ≠ gn σ by omega), va_up_ne (gt σ) _ (show r ≠ gn σ by omega)]
    rfl
  have e2 : mkI (newS σ f o) (gn σ) = mk (gt σ o) f := funext fun p => by
    show mk (va_up (gt σ) (gn σ) f (va_up (gp σ) (gn σ) o (gn σ))) (va_up (gt σ) (gn σ) f (gn σ)) p = _
    rw [va_up_self (gp σ), va_up_self (gt σ), va_up_ne (gt σ) _ (show o ≠ gn σ by omega)]
  have e3 : eI (newS σ f o) r 125 = eI σ r 125 := by unfold eI; rw [e1]
  have e4 : eL (gt σ o) f 125 = eI (newS σ f o) (gn σ) 125 := by
    have g1 : gt (newS σ f o) (gp (newS σ f o) (gn σ)) = gt σ o := by
      show va_up (gt σ) (gn σ) f (va_up (gp σ) (gn σ) o (gn σ)) = _
      rw [va_up_self (gp σ), va_up_ne (gt σ) _ (show o ≠ gn σ by omega)]
    have g2 : gt (newS σ f o) (gn σ) = f := va_up_self _ _ _
    have := eL_eI (σ := newS σ f o) (i := gn σ) (by rw [g1]; exact hok.1.2.2.2.1 o ho) (by rw [g2]; exact hf) (n := 125) (Nat.le_refl _)
    rw [g1, g2] at this
    exact this
  rw [e4, ← e2, ← e1, ← e3]
  exact lyEq_smB _ _ _
theorem num_row {par num : Nat → Nat} {o k : Nat} {j : Nat} (hj : j < (nuL par num o ++ [k]).length) : upd (cutI (fun j => nI ((nuL par num o).getD j 0)) (nuL par num o).length) (nuL par num o).length (nI k) j = nI ((nuL par num o ++ [k]).getD j 0) := by
  rw [getD_app]
  rw [List.length_append, List.length_singleton] at hj
  unfold upd cutI
  by_cases e : j = (nuL par num o).length
  · rw [if_pos e, if_neg (by omega), if_pos e]
  · rw [if_neg e, if_pos (by omega), if_pos (by omega)]
theorem c_IS_newImageOn (l : Launch) (G : x_G) (ca : Nat → Nat) (σ : Sg) (nl : Nat) (num rp : Nat → Nat) (f : Nat → Int64) (sn : Nat → Int32) (o sz : Nat) (hok : gI σ) (hN : cNum σ nl num rp) (ho : o < gn σ) (hf : tOk f) : Met l y_IS_newImageOn (x_ws y_IS_newImageOn b_IS_newImageOn 6 (some (.object "ImageStores$Image"))) (x_rm 8 8 480) (x_P G [.ref (ca 0), .int (nI o)] (fun H => H.size = sz ∧ CW G ca σ nl num rp f sn H)) (x_Q (NI G ca σ nl o f sn)) 8 480 (fun q => cA G ca (gn σ) nl q ∨ sz ≤ q) := by
  refine x_wA (Or.inl ⟨_, rfl⟩) (by decide +kernel) (Nat.le_of_ble_eq_true rfl) (fun p e s m args below meth c F hK hP ls hl Q hret => ?_)
  have hl : lv_has ls 6 [(0, .ref (ca 0)), (1, .int (nI o))] := hl
  obtain ⟨hsz, hP⟩ := hP
  have hP0 := hP
  have hS : va_S (fun q => cA G ca (gn σ) nl q ∨ sz ≤ q) s.heap s.heap [] := va_S.rf
  have hn40 := hok.1.2.1
  have hli := cn_len hok.1.2.2.1 o o (Nat.le_refl _)
  have hnu := nuL_len (gp σ) num o
  have hlt := hP0.lt
  have hltz : ∀ c, us (gn σ) nl c → ca c < sz := fun c hc => by rw [← hsz]; exact hlt c hc
  have hTo : cT ca o < sz := hltz _ (usI (r := 1) ho (by decide))
  have hMo : cM ca o < sz := hltz _ (usI (r := 2) ho (by decide))
  have own : ∀ c, us (gn σ) nl c → c ≠ 4 → cA G ca (gn σ) nl (ca c) := fun c hc h4 => hP0.own hc h4
  obtain ⟨hin, hne, hO, hB, hs0, hs1, hdr, hse⟩ := id hP
  obtain ⟨hZ, ⟨ci, ei, hIm, hie⟩, ⟨cy, ey, hLy, hle⟩, hig, htg, hlg⟩ := id hB
  obtain ⟨⟨mo1, hA1⟩, -⟩ := id hIm
  obtain ⟨⟨mo3, hA3⟩, -⟩ := id hLy
  have hT5 := hs0.1
  have hT8 := hs1.1
  have hT11 := hdr.1
  refine lv_aload_n F.1 F.2.1 d_IS_newImageOn_0 rfl (lv_at hl 0 rfl) ?_
  refine x_get F hK hO rfl i_IS 0 (by decide) k158 rfl rfl d_IS_newImageOn_1 ?_
  refine lv_iload_n F.1 F.2.1 d_IS_newImageOn_4 rfl (lv_at hl 1 rfl) ?_
  refine x_rd (x_V (n := 1) (As := [.int (nI o)]) F (c_AL_get l G (ca 1) (ca 2) ci (gn σ) ei o (cI ca o) ho (by omega) (hie o ho)) ok_AL_get k196 ⟨Nat.le_of_ble_eq_true rfl, Nat.le_of_ble_eq_true rfl⟩ rfl rfl hK (x_rcv hK hA1 rfl) (hIm) rfl hl.1 rfl (Nat.le_of_ble_eq_true rfl) d_IS_newImageOn_5 ⟨Nat.le_of_ble_eq_true rfl, Nat.le_of_ble_eq_true rfl⟩) ?_
  have hI_o := (hig o ho).1
  have hN_o := (hig o ho).2.1
  have hX_o := htg o ho
  have hU_o := hX_o.1
  refine va_castY F.1 F.2.1 F.2.2.2.1 (F.2.2.2.2 _ k85) (hK.2.1 _ (List.mem_of_getElem? (i := 5) rfl)) (x_rcv hK hI_o rfl) d_IS_newImageOn_8 ?_
  refine lv_astore_n (lv' := [(2, .ref (cI ca o)), (0, .ref (ca 0)), (1, .int (nI o))]) F.1 F.2.1 d_IS_newImageOn_11 rfl hl (by decide) rfl (fun ls hl => ?_)
  refine x_newO (ci := 4) (fs := [.null]) F hK rfl i_TR t_TR p_TR k69 k70 k7 (by decide +kernel) (show 0 + 1 ≤ 8 by omega) (show 0 + 1 ≤ 480 by omega) hS d_IS_newImageOn_12 (fun q1 H1 hq1 hT1 hz1 ho1 hS => ?_)
  refine lv_dup F.1 F.2.1 d_IS_newImageOn_15 rfl ?_
  have hof1 := (x_off.rf (A := fun _ => False) (H := s.heap)).new hz1 ho1
  refine x_wr (x_I (n := 0) (As := []) F (c_TR_init l G q1 (sz + 1)) ok_TR_init k71 ⟨Nat.le_of_ble_eq_true rfl, Nat.le_of_ble_eq_true rfl⟩ rfl rfl hK (⟨by omega, hT1⟩) rfl hl.1 rfl (Nat.le_of_ble_eq_true rfl) d_IS_newImageOn_16 ⟨Nat.le_of_ble_eq_true rfl, Nat.le_of_ble_eq_true rfl⟩) hS (fun q h => Or.inr (h.elim (fun h => by rw [h]; omega) (fun h => Nat.le_trans (by omega) h))) (fun _ _ h => h.2.2.mono (fun q h => Or.inr (by rw [show q = q1 from h]; omega))) (fun v H2 locs hpost hS => ?_)
  obtain ⟨rfl, ⟨q2, hq2, hX⟩, hoT⟩ := hpost
  have hof2 := hof1.up hoT (fun q h => by rw [show q = q1 from h]; omega)
  have hP := hP0.keep hof2 (fun _ _ z => z) (fun z => z) (fun z => z)
  have hXT := hX.1
  obtain ⟨hin, hne, hO, hB, hs0, hs1, hdr, hse⟩ := id hP
  obtain ⟨hZ, ⟨ci, ei, hIm, hie⟩, ⟨cy, ey, hLy, hle⟩, hig, htg, hlg⟩ := id hB
  obtain ⟨⟨mo1, hA1⟩, -⟩ := id hIm
  obtain ⟨⟨mo3, hA3⟩, -⟩ := id hLy
  have hT5 := hs0.1
  have hT8 := hs1.1
  have hT11 := hdr.1
  refine lv_astore_n (lv' := [(3, .ref q1), (2, .ref (cI ca o)), (0, .ref (ca 0)), (1, .int (nI o))]) F.1 F.2.1 d_IS_newImageOn_19 rfl hl (by decide) rfl (fun ls hl => ?_)
  refine lv_aload_n F.1 F.2.1 d_IS_newImageOn_20 rfl (lv_at hl 0 rfl) ?_
  refine lv_aload_n F.1 F.2.1 d_IS_newImageOn_21 rfl (lv_at hl 2 rfl) ?_
  refine x_get F hK hO rfl i_IS 4 (by decide) k162 rfl rfl d_IS_newImageOn_22 ?_
  refine x_wr (x_V (n := 1) (As := [.ref (ca 11)]) F (c_TR_become l G q1 q2 (ca 11) (ca 12) tBare f (by have := hltz 12 (usS (by decide)); omega)) ok_TR_become k210 ⟨Nat.le_of_ble_eq_true rfl, Nat.le_of_ble_eq_true rfl⟩ rfl rfl hK (x_rcv hK hXT rfl) (⟨hX, hdr⟩) rfl hl.1 rfl (Nat.le_of_ble_eq_true rfl) d_IS_newImageOn_25 ⟨Nat.le_of_ble_eq_true rfl, Nat.le_of_ble_eq_true rfl⟩) hS (fun q h => h.elim (fun h => Or.inr (by rw [h]; omega)) (fun h => by rw [h]; exact Or.inl (own 12 (usS (by decide)) (by decide)))) (fun _ _ h => h.2.2.mono (fun q h => Or.inr (by rw [show q = q2 from h]; omega))) (fun v H3 locs hpost hS => ?_)
  obtain ⟨rfl, hXm, hoB⟩ := hpost
  have hof3 := hof2.up hoB (fun q h => by rw [show q = q2 from h]; omega)
  have hX : TR G q1 q2 f H3 := ⟨x_keep hX.1 hoB (fun z => hX.2.2 z), hXm, hX.2.2⟩
  have hP := hP0.keep hof3 (fun _ _ z => z) (fun z => z) (fun z => z)
  obtain ⟨hin, hne, hO, hB, hs0, hs1, hdr, hse⟩ := id hP
  obtain ⟨hZ, ⟨ci, ei, hIm, hie⟩, ⟨cy, ey, hLy, hle⟩, hig, htg, hlg⟩ := id hB
  obtain ⟨⟨mo1, hA1⟩, -⟩ := id hIm
  obtain ⟨⟨mo3, hA3⟩, -⟩ := id hLy
  have hT5 := hs0.1
  have hT8 := hs1.1
  have hT11 := hdr.1
  have hI_o := (hig o ho).1
  have hN_o := (hig o ho).2.1
  refine lv_aload_n F.1 F.2.1 d_IS_newImageOn_28 rfl (lv_at hl 1 rfl) ?_
  refine x_getN F hK hI_o rfl i_IM 2 (by decide) 2 rfl rfl rfl d_IS_newImageOn_29 ?_
  refine x_alen F hK hN_o 0 rfl d_IS_newImageOn_32 ?_
  refine lv_istore (lv' := [(4, .int (nI ((nuL (gp σ) num o).length))), (3, .ref q1), (2, .ref (cI ca o)), (0, .ref (ca 0)), (1, .int (nI o))]) F.1 F.2.1 d_IS_newImageOn_33 hl (by decide) rfl (fun ls hl => ?_)
  refine lv_aload_n F.1 F.2.1 d_IS_newImageOn_35 rfl (lv_at hl 2 rfl) ?_
  refine x_getN F hK hI_o rfl i_IM 2 (by decide) 2 rfl rfl rfl d_IS_newImageOn_36 ?_
  refine lv_iload F.1 F.2.1 d_IS_newImageOn_39 (lv_at hl 0 rfl) ?_
  refine lv_iconst (v := 1) F.1 F.2.1 d_IS_newImageOn_41 (by decide) ?_
  refine lv_iadd F.1 F.2.1 d_IS_newImageOn_42 ?_
  rw [nI_1]
  generalize hsz3 : H3.size = sz3 at *
  have hq23 : q2 < sz3 := by rw [← hsz3]; exact hXm.lt
  refine x_wr (x_S (n := 2) (As := [.ref (cN ca o), .int (nI ((nuL (gp σ) num o).length + 1))]) F (c_AR_copyOfI l G (cN ca o) (nuL (gp σ) num o).length (fun k => nI ((nuL (gp σ) num o).getD k 0)) sz3 (by omega)) ok_AR_copyOfI k293 ⟨Nat.le_of_ble_eq_true rfl, Nat.le_of_ble_eq_true rfl⟩ rfl rfl hK (⟨hsz3, hN_o⟩) rfl hl.1 rfl (Nat.le_of_ble_eq_true rfl) d_IS_newImageOn_43 ⟨Nat.le_of_ble_eq_true rfl, Nat.le_of_ble_eq_true rfl⟩) hS (fun q h => h.elim (fun h => by rw [h]; exact Or.inl (own _ (usI (r := 3) ho (by decide)) (by omega))) (fun h => Or.inr (by omega))) (fun _ _ h => by obtain ⟨q, -, -, -, z⟩ := h; exact z.mono (fun _ z => z.elim)) (fun v H4 locs hpost hS => ?_)
  obtain ⟨q3, rfl, hq3, hR, hoC⟩ := hpost
  have hof4 := hof3.up hoC (fun q h => h.elim)
  have hX := hX.keep hoC (fun z => z) (fun z => z)
  refine lv_astore (lv' := [(5, .ref q3), (4, .int (nI ((nuL (gp σ) num o).length))), (3, .ref q1), (2, .ref (cI ca o)), (0, .ref (ca 0)), (1, .int (nI o))]) F.1 F.2.1 d_IS_newImageOn_46 hl (by decide) rfl (fun ls hl => ?_)
  refine lv_aload F.1 F.2.1 d_IS_newImageOn_48 (lv_at hl 0 rfl) ?_
  refine lv_iload F.1 F.2.1 d_IS_newImageOn_50 (lv_at hl 1 rfl) ?_
  refine lv_aload_n F.1 F.2.1 d_IS_newImageOn_52 rfl (lv_at hl 4 rfl) ?_
  refine x_newO (ci := 2) (fs := [.null, .null]) F hK rfl i_LY t_LY p_LY k303 k304 k16 (by decide +kernel) (show ((((0 + 1) + 1) + 0) + 1) + 1 ≤ 8 by omega) (show ((((0 + 1) + 125) + 0) + 41) + 2 ≤ 480 by omega) hS d_IS_newImageOn_53 (fun q4 H5 hq4 hL4 hz5 ho5 hS => ?_)
  have hof5 := hof4.new hz5 ho5
  have hq34 : q3 < q4 := by rw [hq4]; exact hR.lt
  have hX : TR G q1 q2 f H5 := ⟨hX.1.kept (ho5 _ hX.1.lt), hX.2.1.kept (ho5 _ hX.2.1.lt), hX.2.2⟩
  have hR := hR.kept (ho5 _ hR.lt)
  have hP := hP0.keep hof5 (fun _ _ z => z) (fun z => z) (fun z => z)
  obtain ⟨hin, hne, hO, hB, hs0, hs1, hdr, hse⟩ := id hP
  obtain ⟨hZ, ⟨ci, ei, hIm, hie⟩, ⟨cy, ey, hLy, hle⟩, hig, htg, hlg⟩ := id hB
  obtain ⟨⟨mo1, hA1⟩, -⟩ := id hIm
  obtain ⟨⟨mo3, hA3⟩, -⟩ := id hLy
  have hT5 := hs0.1
  have hT8 := hs1.1
  have hT11 := hdr.1
  have hI_o := (hig o ho).1
  refine lv_dup F.1 F.2.1 d_IS_newImageOn_56 rfl ?_
  refine lv_aload_n F.1 F.2.1 d_IS_newImageOn_57 rfl (lv_at hl 3 rfl) ?_
  refine x_getN F hK hI_o rfl i_IM 1 (by decide) 1 rfl rfl rfl d_IS_newImageOn_58 ?_
  refine lv_aload_n F.1 F.2.1 d_IS_newImageOn_61 rfl (lv_at hl 2 rfl) ?_
  refine x_wr (x_I (n := 2) (As := [.ref (cT ca o), .ref q1]) F (c_LY_init l G q4 (cT ca o) (cM ca o) q1 q2 (gt σ o) f (q4 + 1) (by omega) (by omega) (by omega) (by omega)) ok_LY_init k305 ⟨Nat.le_of_ble_eq_true rfl, Nat.le_of_ble_eq_true rfl⟩ rfl rfl hK (⟨by omega, hL4, htg o ho, hX⟩) rfl hl.1 rfl (Nat.le_of_ble_eq_true rfl) d_IS_newImageOn_62 ⟨Nat.le_of_ble_eq_true rfl, Nat.le_of_ble_eq_true rfl⟩) hS (fun q h => Or.inr (h.elim (fun h => by rw [h]; omega) (fun h => Nat.le_trans (by omega) h))) (fun _ _ h => h.2.2.mono (fun q h => Or.inr (by rw [show q = q4 from h]; omega))) (fun v H6 locs hpost hS => ?_)
  obtain ⟨rfl, ⟨q5, q6, hq5, hq6, hV⟩, hoL⟩ := hpost
  have hof6 := hof5.up hoL (fun q h => by rw [show q = q4 from h]; omega)
  have hX := hX.keep hoL (show ¬ q1 = q4 by omega) (show ¬ q2 = q4 by omega)
  have hR := x_keep hR hoL (show ¬ q3 = q4 by omega)
  have hP := hP0.keep hof6 (fun _ _ z => z) (fun z => z) (fun z => z)
  have hq6z := hV.2.2.1.lt
  obtain ⟨hin, hne, hO, hB, hs0, hs1, hdr, hse⟩ := id hP
  obtain ⟨hZ, ⟨ci, ei, hIm, hie⟩, ⟨cy, ey, hLy, hle⟩, hig, htg, hlg⟩ := id hB
  obtain ⟨⟨mo1, hA1⟩, -⟩ := id hIm
  obtain ⟨⟨mo3, hA3⟩, -⟩ := id hLy
  have hT5 := hs0.1
  have hT8 := hs1.1
  have hT11 := hdr.1
  have hel := eL_len (gt σ o) f 125
  generalize hsz6 : H6.size = sz6 at *
  have fA : ∀ q, (q = ca 3 ∨ (q = ca 4 ∧ ca 4 ≠ x_t G)) → cA G ca (gn σ) nl q ∨ sz ≤ q := fun q h => by
    rcases h with h | h
    · rw [h]; exact Or.inl (own 3 (usS (by decide)) (by decide))
    · exact Or.inl ⟨4, usS (by decide), h.1, by rw [h.1]; exact h.2⟩
  have fB : ∀ v H1, NL G ca σ nl rp q4 sz6 (eL (gt σ o) f 125) (mk (gt σ o) f) v H6 H1 → x_off (fun q => cA G ca (gn σ) nl q ∨ sz ≤ q) H6 H1 := fun v H1 h => by
    rcases h with ⟨k, -, -, -, z⟩ | ⟨-, -, -, z⟩
    · exact z.mono (fun _ z => z.elim)
    · exact z.mono fA
  refine x_wr (x_V (n := 1) (As := [.ref q4]) F (c_IS_numberOfLayer l G ca σ nl num rp f sn q4 q5 q6 sz6 (eL (gt σ o) f 125) (mk (gt σ o) f) hok hN (by omega) (by have := hltz 3 (usS (by decide)); omega) (by have := hltz 4 (usS (by decide)); omega)) ok_IS_numberOfLayer k330 ⟨Nat.le_of_ble_eq_true rfl, Nat.le_of_ble_eq_true rfl⟩ rfl rfl hK (x_rcv hK hO rfl) (⟨hsz6, hP, hV⟩) rfl hl.1 rfl (Nat.le_of_ble_eq_true rfl) d_IS_newImageOn_65 ⟨Nat.le_of_ble_eq_true rfl, Nat.le_of_ble_eq_true rfl⟩) hS (fun q h => h.elim (fA q) (fun h => Or.inr (by omega))) (fB) (fun v H7 locs hpost hS => ?_)
  rcases hpost with ⟨k, hkl, rfl, hly, hoN⟩ | ⟨rfl, hly, ⟨d', cap', es', hAL, he1, he2, he3⟩, hoN⟩
  · have hof7 := hof6.up hoN (fun q h => h.elim)
    have hX := hX.keep hoN (fun z => z) (fun z => z)
    have hR := x_keep hR hoN (fun z => z)
    refine x_iastN F hK hR (by omega) (by omega) hS (Or.inr (by omega)) d_IS_newImageOn_68 (fun H8 locs hR hz8 ho8 hS => ?_)
    have hof8 : x_off (fun _ => False) s.heap H8 := hof7.up (B := fun q => q = q3) ⟨by rw [hz8]; exact Nat.le_refl _, fun q _ h => ho8 q h⟩ (fun q h => by rw [show q = q3 from h]; omega)
    have hX : TR G q1 q2 f H8 := ⟨hX.1.kept (ho8 _ (show q1 ≠ q3 by omega)), hX.2.1.kept (ho8 _ (show q2 ≠ q3 by omega)), hX.2.2⟩
    have hs78 := hoN.1
    refine x_newO (ci := 1) (fs := [.int 0, .null, .null]) F hK rfl i_IM t_IM p_IM k85 k86 k8 (by decide +kernel) (show (((((((0 + 1) + 1) + 0) + 1) + 1) + 2) + 1) + 1 ≤ 8 by omega) (show (((((((0 + 1) + 125) + 0) + 41) + 2) + 248) + 60) + 3 ≤ 480 by omega) hS d_IS_newImageOn_69 (fun q7 H9 hq7 hI7 hz9 ho9 hS => ?_)
    have hof9 := hof8.new hz9 ho9
    have hX : TR G q1 q2 f H9 := ⟨hX.1.kept (ho9 _ hX.1.lt), hX.2.1.kept (ho9 _ hX.2.1.lt), hX.2.2⟩
    have hR := hR.kept (ho9 _ hR.lt)
    refine lv_dup F.1 F.2.1 d_IS_newImageOn_72 rfl ?_
    refine lv_iload_n F.1 F.2.1 d_IS_newImageOn_73 rfl (lv_at hl 5 rfl) ?_
    refine lv_aload_n F.1 F.2.1 d_IS_newImageOn_74 rfl (lv_at hl 2 rfl) ?_
    refine lv_aload F.1 F.2.1 d_IS_newImageOn_75 (lv_at hl 0 rfl) ?_
    refine x_wr (x_I (n := 3) (As := [.int (nI o), .ref q1, .ref q3]) F (c_IM_init l G q7 q1 q3 (nI o)) ok_IM_init k87 ⟨Nat.le_of_ble_eq_true rfl, Nat.le_of_ble_eq_true rfl⟩ rfl rfl hK (hI7) rfl hl.1 rfl (Nat.le_of_ble_eq_true rfl) d_IS_newImageOn_77 ⟨Nat.le_of_ble_eq_true rfl, Nat.le_of_ble_eq_true rfl⟩) hS (fun q h => Or.inr (by rw [show q = q7 from h]; omega)) (fun _ _ h => h.2.2.mono (fun q h => Or.inr (by rw [show q = q7 from h]; omega))) (fun v H10 locs hpost hS => ?_)
    obtain ⟨rfl, hI7, hoI⟩ := hpost
    have hof := hof9.up hoI (fun q h => by rw [show q = q7 from h]; omega)
    have hX := hX.keep hoI (show ¬ q1 = q7 by omega) (show ¬ q2 = q7 by omega)
    have hR := x_keep hR hoI (show ¬ q3 = q7 by omega)
    have hlen : (nuL (gp σ) num o ++ [k]).length = (nuL (gp σ) num o).length + 1 := by rw [List.length_append, List.length_singleton]
    have hIM : IM G q7 q1 q3 (nI o) (nuL (gp σ) num o ++ [k]) H10 := ⟨hI7, by rw [hlen]; exact x_ai.cg hR (fun j hj => num_row (by rw [hlen]; exact hj)), by omega⟩
    obtain ⟨hinz, hnez, hOz, ⟨hZz, -, ⟨cyz, eyz, hLyz, hlez⟩, -, -, -⟩, -⟩ := id hP0
    have hcx := CX_new (k := k) (nl' := nl) (rp' := rp) (q4 := q4) (q5 := q5) (q6 := q6) (d := ca 4) hok hP0 ho (hof.mono (fun _ z => z.elim)) (by omega) (by omega) (by omega) hq34 (by omega) hq6 (by omega) (Or.inl rfl) hIM hX ⟨cyz, eyz, hLyz.keep hof (fun z => z) (fun z => z), fun j hj => by rw [show cY (cx ca (gn σ) nl q1 q2 q3 q4 q5 q6 (ca 4) q7) j = cY ca j from cx_o (by omega) (by omega) (by omega) (by omega) (by omega) (by omega) (by omega) (by omega)]; exact hlez j hj⟩ (Nat.le_succ _) (Nat.le_refl _) (fun _ _ => rfl) (fun j hj => ⟨(hN.2.1 j hj).1, (hN.2.1 j hj).2.1⟩) (fun z => by omega)
    have hrk := hN.2.1 k hkl
    have hcn := cNum_old hok hN f o hkl (by rw [← ly_new hok hf ho hrk.1 hrk.2.1]; exact hly)
    exact hret _ _ _ _ _ _ _ d_IS_newImageOn_80 ⟨_, _, _, _, by rw [show cI (cx ca (gn σ) nl q1 q2 q3 q4 q5 q6 (ca 4) q7) (gn σ) = q7 from cx_q7], hcx, hcn, cx_from (Nat.le_succ _) (by omega) (by omega) (by omega) hq34 (by omega) hq6 (by omega) (Or.inl rfl), fun c hc => cx_o (by omega) (by omega) (by omega) (by omega) (by omega) (by omega) (by omega) (by omega), hof.mono (fun _ z => z.elim)⟩ hS.2.2 (Nat.le_of_ble_eq_true rfl) (Nat.le_of_ble_eq_true rfl)
  · have h3z : ca 3 < sz := hltz 3 (usS (by decide))
    have h4z : ca 4 < sz := hltz 4 (usS (by decide))
    have hno : ∀ q, sz ≤ q → ¬ (q = ca 3 ∨ (q = ca 4 ∧ ca 4 ≠ x_t G)) := fun q h z => by rcases z with z | z <;> omega
    have hof7 : x_off (fun q => q = ca 3 ∨ (q = ca 4 ∧ ca 4 ≠ x_t G)) s.heap H7 := (hof6.mono (fun _ z => z.elim)).tr hoN
    have hX := hX.keep hoN (hno _ (by omega)) (hno _ (by omega))
    have hR := x_keep hR hoN (hno _ (by omega))
    have hV := hV.keep hoN (hno _ (by omega)) (hno _ (by omega)) (hno _ (by omega))
    have hd7 : d' < H7.size := by
      obtain ⟨-, -, z, -⟩ := id hAL
      rcases z with z | z
      · omega
      · exact z.1.lt
    have h67 := hoN.1
    have hdq : d' = ca 4 ∨ (q6 < d' ∧ d' < H7.size) := by rcases he3 with z | z; exact Or.inl z.1; exact Or.inr ⟨by omega, hd7⟩
    refine x_iastN F hK hR (by omega) (by omega) hS (Or.inr (by omega)) d_IS_newImageOn_68 (fun H11 locs hR hz11 ho11 hS => ?_)
    have ho38 : x_off (fun q => q = q3) H7 H11 := ⟨by rw [hz11]; exact Nat.le_refl _, fun q _ h => ho11 q h⟩
    have hof8 := hof7.up ho38 (fun q h => by rw [show q = q3 from h]; omega)
    have hX := hX.keep ho38 (show ¬ q1 = q3 by omega) (show ¬ q2 = q3 by omega)
    have hV := hV.keep ho38 (show ¬ q4 = q3 by omega) (show ¬ q5 = q3 by omega) (show ¬ q6 = q3 by omega)
    have hAL := hAL.keep ho38 (show ¬ ca 3 = q3 by omega) (show ¬ d' = q3 by omega)
    refine x_newO (ci := 1) (fs := [.int 0, .null, .null]) F hK rfl i_IM t_IM p_IM k85 k86 k8 (by decide +kernel) (show (((((((0 + 1) + 1) + 0) + 1) + 1) + 2) + 1) + 1 ≤ 8 by omega) (show (((((((0 + 1) + 125) + 0) + 41) + 2) + 248) + 60) + 3 ≤ 480 by omega) hS d_IS_newImageOn_69 (fun q7 H12 hq7 hI7 hz12 ho12 hS => ?_)
    have hof9 := hof8.new hz12 ho12
    have ho39 : x_off (fun _ => False) H11 H12 := (x_off.rf (A := fun _ => False)).new hz12 ho12
    have hX := hX.keep ho39 (fun z => z) (fun z => z)
    have hV := hV.keep ho39 (fun z => z) (fun z => z) (fun z => z)
    have hAL := hAL.keep ho39 (fun z => z) (fun z => z)
    have hR := x_keep hR ho39 (fun z => z)
    refine lv_dup F.1 F.2.1 d_IS_newImageOn_72 rfl ?_
    refine lv_iload_n F.1 F.2.1 d_IS_newImageOn_73 rfl (lv_at hl 5 rfl) ?_
    refine lv_aload_n F.1 F.2.1 d_IS_newImageOn_74 rfl (lv_at hl 2 rfl) ?_
    refine lv_aload F.1 F.2.1 d_IS_newImageOn_75 (lv_at hl 0 rfl) ?_
    refine x_wr (x_I (n := 3) (As := [.int (nI o), .ref q1, .ref q3]) F (c_IM_init l G q7 q1 q3 (nI o)) ok_IM_init k87 ⟨Nat.le_of_ble_eq_true rfl, Nat.le_of_ble_eq_true rfl⟩ rfl rfl hK (hI7) rfl hl.1 rfl (Nat.le_of_ble_eq_true rfl) d_IS_newImageOn_77 ⟨Nat.le_of_ble_eq_true rfl, Nat.le_of_ble_eq_true rfl⟩) hS (fun q h => Or.inr (by rw [show q = q7 from h]; omega)) (fun _ _ h => h.2.2.mono (fun q h => Or.inr (by rw [show q = q7 from h]; omega))) (fun v H13 locs hpost hS => ?_)
    obtain ⟨rfl, hI7, hoI⟩ := hpost
    have hof := hof9.up hoI (fun q h => by rw [show q = q7 from h]; omega)
    have hX := hX.keep hoI (show ¬ q1 = q7 by omega) (show ¬ q2 = q7 by omega)
    have hV := hV.keep hoI (show ¬ q4 = q7 by omega) (show ¬ q5 = q7 by omega) (show ¬ q6 = q7 by omega)
    have hAL := hAL.keep hoI (show ¬ ca 3 = q7 by omega) (show ¬ d' = q7 by omega)
    have hR := x_keep hR hoI (show ¬ q3 = q7 by omega)
    have hlen : (nuL (gp σ) num o ++ [nl]).length = (nuL (gp σ) num o).length + 1 := by rw [List.length_append, List.length_singleton]
    have hIM : IM G q7 q1 q3 (nI o) (nuL (gp σ) num o ++ [nl]) H13 := ⟨hI7, by rw [hlen]; exact x_ai.cg hR (fun j hj => num_row (by rw [hlen]; exact hj)), by omega⟩
    have hdd : d' = ca 4 ∨ (q6 < d' ∧ d' < q7) := hdq.imp_right (fun z => ⟨z.1, by omega⟩)
    have hcx := CX_new (k := nl) (nl' := nl + 1) (rp' := va_up rp nl (gn σ)) (q4 := q4) (q5 := q5) (q6 := q6) (d := d') hok hP0 ho hof (by omega) (by omega) (by omega) hq34 (by omega) hq6 (by omega) hdd hIM hX ⟨cap', es', hAL, fun j hj => by
      by_cases e : j = nl
      · rw [e, show cY (cx ca (gn σ) nl q1 q2 q3 q4 q5 q6 d' q7) nl = q4 from cx_q4]; exact he2
      · rw [show cY (cx ca (gn σ) nl q1 q2 q3 q4 q5 q6 d' q7) j = cY ca j from cx_o (by omega) (by omega) (by omega) (by omega) (by omega) (by omega) (by omega) (by omega)]; exact he1 j (by omega)⟩ (Nat.le_refl _) (Nat.le_succ _) (fun j hj => va_up_ne _ _ (by omega)) (fun j hj => ⟨(hN.2.1 j hj).1, (hN.2.1 j hj).2.1⟩) (fun _ => ⟨hV, va_up_self _ _ _⟩)
    have hcn := cNum_new hok hN f o (fun k hkl => by have hrk := hN.2.1 k hkl; rw [← ly_new hok hf ho hrk.1 hrk.2.1]; exact hly k hkl)
    exact hret _ _ _ _ _ _ _ d_IS_newImageOn_80 ⟨_, _, _, _, by rw [show cI (cx ca (gn σ) nl q1 q2 q3 q4 q5 q6 d' q7) (gn σ) = q7 from cx_q7], hcx, hcn, cx_from (Nat.le_refl _) (by omega) (by omega) (by omega) hq34 (by omega) hq6 (by omega) hdd, fun c hc => cx_o (by omega) (by omega) (by omega) (by omega) (by omega) (by omega) (by omega) (by omega), hof⟩ hS.2.2 (Nat.le_of_ble_eq_true rfl) (Nat.le_of_ble_eq_true rfl)

