/-! ===== the model: the steps ===== -/
theorem hd_pa : ∀ p, p < 125 → lg p = true → (nm p = 1 → pa p = 0) ∧ (nm p = 2 → hd p 1 = pa p ∧ pa (pa p) = 0) ∧ (nm p = 3 → hd p 1 = pa (pa p) ∧ hd p 2 = pa p) := by decide +kernel
theorem nm_123 {p : Nat} (hp : p < 125) (hg : lg p = true) : nm p = 1 ∨ nm p = 2 ∨ nm p = 3 := by
  have := lg_nm p hp hg
  have := nm_lt p
  omega
theorem file_dir : mo_file wDIR = false := by decide +kernel
theorem c_MO_underFile (l : Launch) (G : x_G) (ad : Nat → Nat) (σ : Sg) (f : Nat → Int64) (ch : Nat → Bool) (i : Nat) (hi : i < 125) (li : lg i = true) (h0 : f 0 = wDIR) : Met l y_MO_underFile (x_ws y_MO_underFile b_MO_underFile 3 (some .boolean)) (x_rm 1 0 0) (x_P G [.ref (ad 0), .int (nI i)] (MO G ad σ f ch)) (k2_QcV (.int (x_b (mo_file (f (pa i)) || mo_file (f (pa (pa i))))))) 0 0 (fun _ => False) := by
  refine x_mZ (by decide +kernel) (Nat.le_of_ble_eq_true rfl) (fun p e s m args below meth c F hK hP ls hl Q hret => ?_)
  have hl : lv_has ls 3 [(0, .ref (ad 0)), (1, .int (nI i))] := hl
  obtain ⟨hO, hp, ht, hh, hg, hw, hc, hj⟩ := hP
  obtain ⟨q1, q2, q3⟩ := hd_pa i hi li
  have hpi := pa_lt i hi
  have hppi := pa_lt _ hpi
  refine lv_iconst (v := 1) F.1 F.2.1 d_MO_underFile_0 (by decide) ?_
  refine lv_istore_n (lv' := [(2, .int 1), (0, .ref (ad 0)), (1, .int (nI i))]) F.1 F.2.1 d_MO_underFile_1 rfl hl (by decide) rfl (fun ls hl => ?_)
  refine lv_iload_n F.1 F.2.1 d_MO_underFile_2 rfl (lv_at hl 0 rfl) ?_
  refine lv_iload_n F.1 F.2.1 d_MO_underFile_3 rfl (lv_at hl 2 rfl) ?_
  refine x_rd (x_S (n := 1) (As := [.int (nI i)]) F (c_MO_depth l G (nI i)) ok_MO_depth k531 ⟨Nat.le_of_ble_eq_true rfl, Nat.le_of_ble_eq_true rfl⟩ rfl rfl hK (trivial) rfl hl.1 rfl (Nat.le_of_ble_eq_true rfl) d_MO_underFile_4 ⟨Nat.le_of_ble_eq_true rfl, Nat.le_of_ble_eq_true rfl⟩) ?_
  rw [pj_names_n i hi]
  rcases nm_123 hi li with hn | hn | hn
  · rw [hn]
    refine lv_icmp_ge (tgt := 34) F.1 F.2.1 d_MO_underFile_7 (by decide) (fun _ => ?_) (fun zq => absurd (pN_le (a := 1) (b := 1) rfl rfl (by omega) (by omega) (by omega)) zq)
    refine lv_iconst (v := 0) F.1 F.2.1 d_MO_underFile_34 (by decide) ?_
    exact hret _ _ _ d_MO_underFile_35 (by rw [q1 hn, h0, show pa 0 = 0 from rfl, h0, file_dir]; rfl)
  · rw [hn]
    refine lv_icmp_ge (tgt := 34) F.1 F.2.1 d_MO_underFile_7 (by decide) (fun zq => absurd zq (pN_nle (a := 2) (b := 1) rfl rfl (by omega) (by omega) (by omega))) (fun _ => ?_)
    refine lv_aload_n F.1 F.2.1 d_MO_underFile_10 rfl (lv_at hl 1 rfl) ?_
    refine x_get F hK hO rfl i_MO 5 (by decide) k484 rfl rfl d_MO_underFile_11 ?_
    refine lv_iload_n F.1 F.2.1 d_MO_underFile_14 rfl (lv_at hl 2 rfl) ?_
    refine lv_iload_n F.1 F.2.1 d_MO_underFile_15 rfl (lv_at hl 0 rfl) ?_
    refine x_rd (x_S (n := 2) (As := [.int (nI i), .int 1]) F (c_MO_head l G (nI i) 1) ok_MO_head k534 ⟨Nat.le_of_ble_eq_true rfl, Nat.le_of_ble_eq_true rfl⟩ rfl rfl hK (trivial) rfl hl.1 rfl (Nat.le_of_ble_eq_true rfl) d_MO_underFile_16 ⟨Nat.le_of_ble_eq_true rfl, Nat.le_of_ble_eq_true rfl⟩) ?_
    rw [show mo_head (nI i) 1 = nI (pa i) from (mo_head_n i hi 1 (by decide)).trans (by rw [(q2 hn).1])]
    refine x_laldN F hK hw (by decide) (by omega) d_MO_underFile_19 ?_
    refine x_rd (x_S (n := 1) (As := [.long (f (pa i))]) F (c_MO_file l G (f (pa i))) ok_MO_file k537 ⟨Nat.le_of_ble_eq_true rfl, Nat.le_of_ble_eq_true rfl⟩ rfl rfl hK (trivial) rfl hl.1 rfl (Nat.le_of_ble_eq_true rfl) d_MO_underFile_20 ⟨Nat.le_of_ble_eq_true rfl, Nat.le_of_ble_eq_true rfl⟩) ?_
    refine x_beq (tgt := 28) F d_MO_underFile_23 (by decide) (fun c23 => ?_) (fun c23 => ?_)
    · refine lv_iinc (v := (1 + 1)) (lv' := [(2, .int (1 + 1)), (0, .ref (ad 0)), (1, .int (nI i))]) F.1 F.2.1 d_MO_underFile_28 hl (k := 0) rfl rfl (by decide) rfl (fun ls hl => ?_)
      refine lv_goto (tgt := 2) F.1 F.2.1 d_MO_underFile_31 (by decide) ?_
      refine lv_iload_n F.1 F.2.1 d_MO_underFile_2 rfl (lv_at hl 0 rfl) ?_
      refine lv_iload_n F.1 F.2.1 d_MO_underFile_3 rfl (lv_at hl 2 rfl) ?_
      refine x_rd (x_S (n := 1) (As := [.int (nI i)]) F (c_MO_depth l G (nI i)) ok_MO_depth k531 ⟨Nat.le_of_ble_eq_true rfl, Nat.le_of_ble_eq_true rfl⟩ rfl rfl hK (trivial) rfl hl.1 rfl (Nat.le_of_ble_eq_true rfl) d_MO_underFile_4 ⟨Nat.le_of_ble_eq_true rfl, Nat.le_of_ble_eq_true rfl⟩) ?_
      rw [pj_names_n i hi, hn]
      refine lv_icmp_ge (tgt := 34) F.1 F.2.1 d_MO_underFile_7 (by decide) (fun _ => ?_) (fun zq => absurd (pN_le (a := 2) (b := 2) rfl rfl (by omega) (by omega) (by omega)) zq)
      refine lv_iconst (v := 0) F.1 F.2.1 d_MO_underFile_34 (by decide) ?_
      exact hret _ _ _ d_MO_underFile_35 (by rw [c23, (q2 hn).2, h0, file_dir]; rfl)
    · refine lv_iconst (v := 1) F.1 F.2.1 d_MO_underFile_26 (by decide) ?_
      exact hret _ _ _ d_MO_underFile_27 (by rw [c23]; rfl)
  · rw [hn]
    refine lv_icmp_ge (tgt := 34) F.1 F.2.1 d_MO_underFile_7 (by decide) (fun zq => absurd zq (pN_nle (a := 3) (b := 1) rfl rfl (by omega) (by omega) (by omega))) (fun _ => ?_)
    refine lv_aload_n F.1 F.2.1 d_MO_underFile_10 rfl (lv_at hl 1 rfl) ?_
    refine x_get F hK hO rfl i_MO 5 (by decide) k484 rfl rfl d_MO_underFile_11 ?_
    refine lv_iload_n F.1 F.2.1 d_MO_underFile_14 rfl (lv_at hl 2 rfl) ?_
    refine lv_iload_n F.1 F.2.1 d_MO_underFile_15 rfl (lv_at hl 0 rfl) ?_
    refine x_rd (x_S (n := 2) (As := [.int (nI i), .int 1]) F (c_MO_head l G (nI i) 1) ok_MO_head k534 ⟨Nat.le_of_ble_eq_true rfl, Nat.le_of_ble_eq_true rfl⟩ rfl rfl hK (trivial) rfl hl.1 rfl (Nat.le_of_ble_eq_true rfl) d_MO_underFile_16 ⟨Nat.le_of_ble_eq_true rfl, Nat.le_of_ble_eq_true rfl⟩) ?_
    rw [show mo_head (nI i) 1 = nI (pa (pa i)) from (mo_head_n i hi 1 (by decide)).trans (by rw [(q3 hn).1])]
    refine x_laldN F hK hw (by decide) (by omega) d_MO_underFile_19 ?_
    refine x_rd (x_S (n := 1) (As := [.long (f (pa (pa i)))]) F (c_MO_file l G (f (pa (pa i)))) ok_MO_file k537 ⟨Nat.le_of_ble_eq_true rfl, Nat.le_of_ble_eq_true rfl⟩ rfl rfl hK (trivial) rfl hl.1 rfl (Nat.le_of_ble_eq_true rfl) d_MO_underFile_20 ⟨Nat.le_of_ble_eq_true rfl, Nat.le_of_ble_eq_true rfl⟩) ?_
    refine x_beq (tgt := 28) F d_MO_underFile_23 (by decide) (fun c23 => ?_) (fun c23 => ?_)
    · refine lv_iinc (v := (1 + 1)) (lv' := [(2, .int (1 + 1)), (0, .ref (ad 0)), (1, .int (nI i))]) F.1 F.2.1 d_MO_underFile_28 hl (k := 0) rfl rfl (by decide) rfl (fun ls hl => ?_)
      refine lv_goto (tgt := 2) F.1 F.2.1 d_MO_underFile_31 (by decide) ?_
      refine lv_iload_n F.1 F.2.1 d_MO_underFile_2 rfl (lv_at hl 0 rfl) ?_
      refine lv_iload_n F.1 F.2.1 d_MO_underFile_3 rfl (lv_at hl 2 rfl) ?_
      refine x_rd (x_S (n := 1) (As := [.int (nI i)]) F (c_MO_depth l G (nI i)) ok_MO_depth k531 ⟨Nat.le_of_ble_eq_true rfl, Nat.le_of_ble_eq_true rfl⟩ rfl rfl hK (trivial) rfl hl.1 rfl (Nat.le_of_ble_eq_true rfl) d_MO_underFile_4 ⟨Nat.le_of_ble_eq_true rfl, Nat.le_of_ble_eq_true rfl⟩) ?_
      rw [pj_names_n i hi, hn]
      refine lv_icmp_ge (tgt := 34) F.1 F.2.1 d_MO_underFile_7 (by decide) (fun zq => absurd zq (pN_nle (a := 3) (b := 2) rfl rfl (by omega) (by omega) (by omega))) (fun _ => ?_)
      refine lv_aload_n F.1 F.2.1 d_MO_underFile_10 rfl (lv_at hl 1 rfl) ?_
      refine x_get F hK hO rfl i_MO 5 (by decide) k484 rfl rfl d_MO_underFile_11 ?_
      refine lv_iload_n F.1 F.2.1 d_MO_underFile_14 rfl (lv_at hl 2 rfl) ?_
      refine lv_iload_n F.1 F.2.1 d_MO_underFile_15 rfl (lv_at hl 0 rfl) ?_
      refine x_rd (x_S (n := 2) (As := [.int (nI i), .int (1 + 1)]) F (c_MO_head l G (nI i) (1 + 1)) ok_MO_head k534 ⟨Nat.le_of_ble_eq_true rfl, Nat.le_of_ble_eq_true rfl⟩ rfl rfl hK (trivial) rfl hl.1 rfl (Nat.le_of_ble_eq_true rfl) d_MO_underFile_16 ⟨Nat.le_of_ble_eq_true rfl, Nat.le_of_ble_eq_true rfl⟩) ?_
      rw [show mo_head (nI i) (1 + 1) = nI (pa i) from (mo_head_n i hi 2 (by decide)).trans (by rw [(q3 hn).2])]
      refine x_laldN F hK hw (by decide) (by omega) d_MO_underFile_19 ?_
      refine x_rd (x_S (n := 1) (As := [.long (f (pa i))]) F (c_MO_file l G (f (pa i))) ok_MO_file k537 ⟨Nat.le_of_ble_eq_true rfl, Nat.le_of_ble_eq_true rfl⟩ rfl rfl hK (trivial) rfl hl.1 rfl (Nat.le_of_ble_eq_true rfl) d_MO_underFile_20 ⟨Nat.le_of_ble_eq_true rfl, Nat.le_of_ble_eq_true rfl⟩) ?_
      refine x_beq (tgt := 28) F d_MO_underFile_23 (by decide) (fun c24 => ?_) (fun c24 => ?_)
      · refine lv_iinc (v := ((1 + 1) + 1)) (lv' := [(2, .int ((1 + 1) + 1)), (0, .ref (ad 0)), (1, .int (nI i))]) F.1 F.2.1 d_MO_underFile_28 hl (k := 0) rfl rfl (by decide) rfl (fun ls hl => ?_)
        refine lv_goto (tgt := 2) F.1 F.2.1 d_MO_underFile_31 (by decide) ?_
        refine lv_iload_n F.1 F.2.1 d_MO_underFile_2 rfl (lv_at hl 0 rfl) ?_
        refine lv_iload_n F.1 F.2.1 d_MO_underFile_3 rfl (lv_at hl 2 rfl) ?_
        refine x_rd (x_S (n := 1) (As := [.int (nI i)]) F (c_MO_depth l G (nI i)) ok_MO_depth k531 ⟨Nat.le_of_ble_eq_true rfl, Nat.le_of_ble_eq_true rfl⟩ rfl rfl hK (trivial) rfl hl.1 rfl (Nat.le_of_ble_eq_true rfl) d_MO_underFile_4 ⟨Nat.le_of_ble_eq_true rfl, Nat.le_of_ble_eq_true rfl⟩) ?_
        rw [pj_names_n i hi, hn]
        refine lv_icmp_ge (tgt := 34) F.1 F.2.1 d_MO_underFile_7 (by decide) (fun _ => ?_) (fun zq => absurd (pN_le (a := 3) (b := 3) rfl rfl (by omega) (by omega) (by omega)) zq)
        refine lv_iconst (v := 0) F.1 F.2.1 d_MO_underFile_34 (by decide) ?_
        exact hret _ _ _ d_MO_underFile_35 (by rw [c23, c24]; rfl)
      · refine lv_iconst (v := 1) F.1 F.2.1 d_MO_underFile_26 (by decide) ?_
        exact hret _ _ _ d_MO_underFile_27 (by rw [c24]; rfl)
    · refine lv_iconst (v := 1) F.1 F.2.1 d_MO_underFile_26 (by decide) ?_
      exact hret _ _ _ d_MO_underFile_27 (by rw [c23, Bool.or_true]; rfl)
theorem c_MO_raise (l : Launch) (G : x_G) (ad : Nat → Nat) (σ : Sg) (f : Nat → Int64) (ch : Nat → Bool) (i : Nat) (v : Int64) (hi : i < 125) (li : lg i = true) (h0 : f 0 = wDIR) : Met l y_MO_raise (x_ws y_MO_raise b_MO_raise 5 (some .boolean)) (x_rm 1 0 0) (x_P G [.ref (ad 0), .int (nI i), .long v] (MO G ad σ f ch)) (x_Q (MW G ad σ (vp_updL (tAbove f i) i v) ch (some (.int (x_b true))))) 0 0 (mA ad) := by
  refine x_wZ (by decide +kernel) (Nat.le_of_ble_eq_true rfl) (fun p e s m args below meth c F hK hP ls hl Q hret => ?_)
  have hl : lv_has ls 5 [(0, .ref (ad 0)), (1, .int (nI i)), (2, .long v)] := hl
  have hS : va_S (mA ad) s.heap s.heap [] := va_S.rf
  obtain ⟨hO, hp, ht, hh, hg, hw, hc, hj⟩ := hP
  obtain ⟨q1, q2, q3⟩ := hd_pa i hi li
  have hpi := pa_lt i hi
  have hppi := pa_lt _ hpi
  refine lv_iconst (v := 1) F.1 F.2.1 d_MO_raise_0 (by decide) ?_
  refine lv_istore (lv' := [(4, .int 1), (0, .ref (ad 0)), (1, .int (nI i)), (2, .long v)]) F.1 F.2.1 d_MO_raise_1 hl (by decide) rfl (fun ls hl => ?_)
  refine lv_iload F.1 F.2.1 d_MO_raise_3 (lv_at hl 0 rfl) ?_
  refine lv_iload_n F.1 F.2.1 d_MO_raise_5 rfl (lv_at hl 2 rfl) ?_
  refine x_rd (x_S (n := 1) (As := [.int (nI i)]) F (c_MO_depth l G (nI i)) ok_MO_depth k531 ⟨Nat.le_of_ble_eq_true rfl, Nat.le_of_ble_eq_true rfl⟩ rfl rfl hK (trivial) rfl hl.1 rfl (Nat.le_of_ble_eq_true rfl) d_MO_raise_6 ⟨Nat.le_of_ble_eq_true rfl, Nat.le_of_ble_eq_true rfl⟩) ?_
  rw [pj_names_n i hi]
  rcases nm_123 hi li with hn | hn | hn
  · rw [hn]
    refine lv_icmp_ge (tgt := 32) F.1 F.2.1 d_MO_raise_9 (by decide) (fun _ => ?_) (fun zq => absurd (pN_le (a := 1) (b := 1) rfl rfl (by omega) (by omega) (by omega)) zq)
    refine lv_aload_n F.1 F.2.1 d_MO_raise_32 rfl (lv_at hl 1 rfl) ?_
    refine x_get F hK hO rfl i_MO 5 (by decide) k484 rfl rfl d_MO_raise_33 ?_
    refine lv_iload_n F.1 F.2.1 d_MO_raise_36 rfl (lv_at hl 2 rfl) ?_
    refine lv_lload_n F.1 F.2.1 d_MO_raise_37 rfl (lv_at hl 3 rfl) ?_
    refine x_lastN F hK hw (by decide) (by omega) hS ⟨5, by omega, rfl⟩ d_MO_raise_38 (fun H1 locs hw hz1 ho1 hS => ?_)
    have hO := va_at.kept hO (ho1 _ (hj.ne 0 5))
    have hp := va_at.kept hp (ho1 _ (hj.ne 1 5))
    have ht := va_at.kept ht (ho1 _ (hj.ne 2 5))
    have hh := va_at.kept hh (ho1 _ (hj.ne 3 5))
    have hg := va_at.kept hg (ho1 _ (hj.ne 4 5))
    have hc := va_at.kept hc (ho1 _ (hj.ne 6 5))
    refine lv_iconst (v := 1) F.1 F.2.1 d_MO_raise_39 (by decide) ?_
    refine hret _ _ _ true _ _ _ _ d_MO_raise_40 rfl ⟨rfl, ⟨hO, hp, ht, hh, hg, x_al.cg hw (fun j _ => ?_), hc, hj⟩, hS.off⟩ hS.2.2 (Nat.le_refl _) (Nat.le_refl _)
    unfold tAbove vp_updL
    rw [q1 hn, show pa 0 = 0 from rfl]
    by_cases e1 : j = i
    · rw [if_pos e1, if_pos e1]
    · rw [if_neg e1, if_neg e1]
      by_cases e2 : j = 0
      · rw [if_pos e2, e2, h0]
      · rw [if_neg e2, if_neg e2]
  · rw [hn]
    refine lv_icmp_ge (tgt := 32) F.1 F.2.1 d_MO_raise_9 (by decide) (fun zq => absurd zq (pN_nle (a := 2) (b := 1) rfl rfl (by omega) (by omega) (by omega))) (fun _ => ?_)
    refine lv_aload_n F.1 F.2.1 d_MO_raise_12 rfl (lv_at hl 1 rfl) ?_
    refine x_get F hK hO rfl i_MO 5 (by decide) k484 rfl rfl d_MO_raise_13 ?_
    refine lv_iload_n F.1 F.2.1 d_MO_raise_16 rfl (lv_at hl 2 rfl) ?_
    refine lv_iload F.1 F.2.1 d_MO_raise_17 (lv_at hl 0 rfl) ?_
    refine x_rd (x_S (n := 2) (As := [.int (nI i), .int 1]) F (c_MO_head l G (nI i) 1) ok_MO_head k534 ⟨Nat.le_of_ble_eq_true rfl, Nat.le_of_ble_eq_true rfl⟩ rfl rfl hK (trivial) rfl hl.1 rfl (Nat.le_of_ble_eq_true rfl) d_MO_raise_19 ⟨Nat.le_of_ble_eq_true rfl, Nat.le_of_ble_eq_true rfl⟩) ?_
    rw [show mo_head (nI i) 1 = nI (pa i) from (mo_head_n i hi 1 (by decide)).trans (by rw [(q2 hn).1])]
    refine x_cst F k477 d_MO_raise_22 ?_
    refine x_lastN F hK hw (by decide) (by omega) hS ⟨5, by omega, rfl⟩ d_MO_raise_25 (fun H2 locs hw hz2 ho2 hS => ?_)
    have hO := va_at.kept hO (ho2 _ (hj.ne 0 5))
    have hp := va_at.kept hp (ho2 _ (hj.ne 1 5))
    have ht := va_at.kept ht (ho2 _ (hj.ne 2 5))
    have hh := va_at.kept hh (ho2 _ (hj.ne 3 5))
    have hg := va_at.kept hg (ho2 _ (hj.ne 4 5))
    have hc := va_at.kept hc (ho2 _ (hj.ne 6 5))
    refine lv_iinc (v := (1 + 1)) (lv' := [(4, .int (1 + 1)), (0, .ref (ad 0)), (1, .int (nI i)), (2, .long v)]) F.1 F.2.1 d_MO_raise_26 hl (k := 0) rfl rfl (by decide) rfl (fun ls hl => ?_)
    refine lv_goto (tgt := 3) F.1 F.2.1 d_MO_raise_29 (by decide) ?_
    refine lv_iload F.1 F.2.1 d_MO_raise_3 (lv_at hl 0 rfl) ?_
    refine lv_iload_n F.1 F.2.1 d_MO_raise_5 rfl (lv_at hl 2 rfl) ?_
    refine x_rd (x_S (n := 1) (As := [.int (nI i)]) F (c_MO_depth l G (nI i)) ok_MO_depth k531 ⟨Nat.le_of_ble_eq_true rfl, Nat.le_of_ble_eq_true rfl⟩ rfl rfl hK (trivial) rfl hl.1 rfl (Nat.le_of_ble_eq_true rfl) d_MO_raise_6 ⟨Nat.le_of_ble_eq_true rfl, Nat.le_of_ble_eq_true rfl⟩) ?_
    rw [pj_names_n i hi, hn]
    refine lv_icmp_ge (tgt := 32) F.1 F.2.1 d_MO_raise_9 (by decide) (fun _ => ?_) (fun zq => absurd (pN_le (a := 2) (b := 2) rfl rfl (by omega) (by omega) (by omega)) zq)
    refine lv_aload_n F.1 F.2.1 d_MO_raise_32 rfl (lv_at hl 1 rfl) ?_
    refine x_get F hK hO rfl i_MO 5 (by decide) k484 rfl rfl d_MO_raise_33 ?_
    refine lv_iload_n F.1 F.2.1 d_MO_raise_36 rfl (lv_at hl 2 rfl) ?_
    refine lv_lload_n F.1 F.2.1 d_MO_raise_37 rfl (lv_at hl 3 rfl) ?_
    refine x_lastN F hK hw (by decide) (by omega) hS ⟨5, by omega, rfl⟩ d_MO_raise_38 (fun H3 locs hw hz3 ho3 hS => ?_)
    have hO := va_at.kept hO (ho3 _ (hj.ne 0 5))
    have hp := va_at.kept hp (ho3 _ (hj.ne 1 5))
    have ht := va_at.kept ht (ho3 _ (hj.ne 2 5))
    have hh := va_at.kept hh (ho3 _ (hj.ne 3 5))
    have hg := va_at.kept hg (ho3 _ (hj.ne 4 5))
    have hc := va_at.kept hc (ho3 _ (hj.ne 6 5))
    refine lv_iconst (v := 1) F.1 F.2.1 d_MO_raise_39 (by decide) ?_
    refine hret _ _ _ true _ _ _ _ d_MO_raise_40 rfl ⟨rfl, ⟨hO, hp, ht, hh, hg, x_al.cg hw (fun j _ => ?_), hc, hj⟩, hS.off⟩ hS.2.2 (Nat.le_refl _) (Nat.le_refl _)
    unfold tAbove vp_updL
    rw [(q2 hn).2]
    by_cases e1 : j = i
    · rw [if_pos e1, if_pos e1]
    · rw [if_neg e1, if_neg e1]
      by_cases e2 : j = 0
      · rw [if_pos e2]
        by_cases e3 : j = pa i
        · rw [if_pos e3]
        · rw [if_neg e3, e2, h0]
      · rw [if_neg e2]
  · rw [hn]
    refine lv_icmp_ge (tgt := 32) F.1 F.2.1 d_MO_raise_9 (by decide) (fun zq => absurd zq (pN_nle (a := 3) (b := 1) rfl rfl (by omega) (by omega) (by omega))) (fun _ => ?_)
    refine lv_aload_n F.1 F.2.1 d_MO_raise_12 rfl (lv_at hl 1 rfl) ?_
    refine x_get F hK hO rfl i_MO 5 (by decide) k484 rfl rfl d_MO_raise_13 ?_
    refine lv_iload_n F.1 F.2.1 d_MO_raise_16 rfl (lv_at hl 2 rfl) ?_
    refine lv_iload F.1 F.2.1 d_MO_raise_17 (lv_at hl 0 rfl) ?_
    refine x_rd (x_S (n := 2) (As := [.int (nI i), .int 1]) F (c_MO_head l G (nI i) 1) ok_MO_head k534 ⟨Nat.le_of_ble_eq_true rfl, Nat.le_of_ble_eq_true rfl⟩ rfl rfl hK (trivial) rfl hl.1 rfl (Nat.le_of_ble_eq_true rfl) d_MO_raise_19 ⟨Nat.le_of_ble_eq_true rfl, Nat.le_of_ble_eq_true rfl⟩) ?_
    rw [show mo_head (nI i) 1 = nI (pa (pa i)) from (mo_head_n i hi 1 (by decide)).trans (by rw [(q3 hn).1])]
    refine x_cst F k477 d_MO_raise_22 ?_
    refine x_lastN F hK hw (by decide) (by omega) hS ⟨5, by omega, rfl⟩ d_MO_raise_25 (fun H4 locs hw hz4 ho4 hS => ?_)
    have hO := va_at.kept hO (ho4 _ (hj.ne 0 5))
    have hp := va_at.kept hp (ho4 _ (hj.ne 1 5))
    have ht := va_at.kept ht (ho4 _ (hj.ne 2 5))
    have hh := va_at.kept hh (ho4 _ (hj.ne 3 5))
    have hg := va_at.kept hg (ho4 _ (hj.ne 4 5))
    have hc := va_at.kept hc (ho4 _ (hj.ne 6 5))
    refine lv_iinc (v := (1 + 1)) (lv' := [(4, .int (1 + 1)), (0, .ref (ad 0)), (1, .int (nI i)), (2, .long v)]) F.1 F.2.1 d_MO_raise_26 hl (k := 0) rfl rfl (by decide) rfl (fun ls hl => ?_)
    refine lv_goto (tgt := 3) F.1 F.2.1 d_MO_raise_29 (by decide) ?_
    refine lv_iload F.1 F.2.1 d_MO_raise_3 (lv_at hl 0 rfl) ?_
    refine lv_iload_n F.1 F.2.1 d_MO_raise_5 rfl (lv_at hl 2 rfl) ?_
    refine x_rd (x_S (n := 1) (As := [.int (nI i)]) F (c_MO_depth l G (nI i)) ok_MO_depth k531 ⟨Nat.le_of_ble_eq_true rfl, Nat.le_of_ble_eq_true rfl⟩ rfl rfl hK (trivial) rfl hl.1 rfl (Nat.le_of_ble_eq_true rfl) d_MO_raise_6 ⟨Nat.le_of_ble_eq_true rfl, Nat.le_of_ble_eq_true rfl⟩) ?_
    rw [pj_names_n i hi, hn]
    refine lv_icmp_ge (tgt := 32) F.1 F.2.1 d_MO_raise_9 (by decide) (fun zq => absurd zq (pN_nle (a := 3) (b := 2) rfl rfl (by omega) (by omega) (by omega))) (fun _ => ?_)
    refine lv_aload_n F.1 F.2.1 d_MO_raise_12 rfl (lv_at hl 1 rfl) ?_
    refine x_get F hK hO rfl i_MO 5 (by decide) k484 rfl rfl d_MO_raise_13 ?_
    refine lv_iload_n F.1 F.2.1 d_MO_raise_16 rfl (lv_at hl 2 rfl) ?_
    refine lv_iload F.1 F.2.1 d_MO_raise_17 (lv_at hl 0 rfl) ?_
    refine x_rd (x_S (n := 2) (As := [.int (nI i), .int (1 + 1)]) F (c_MO_head l G (nI i) (1 + 1)) ok_MO_head k534 ⟨Nat.le_of_ble_eq_true rfl, Nat.le_of_ble_eq_true rfl⟩ rfl rfl hK (trivial) rfl hl.1 rfl (Nat.le_of_ble_eq_true rfl) d_MO_raise_19 ⟨Nat.le_of_ble_eq_true rfl, Nat.le_of_ble_eq_true rfl⟩) ?_
    rw [show mo_head (nI i) (1 + 1) = nI (pa i) from (mo_head_n i hi 2 (by decide)).trans (by rw [(q3 hn).2])]
    refine x_cst F k477 d_MO_raise_22 ?_
    refine x_lastN F hK hw (by decide) (by omega) hS ⟨5, by omega, rfl⟩ d_MO_raise_25 (fun H5 locs hw hz5 ho5 hS => ?_)
    have hO := va_at.kept hO (ho5 _ (hj.ne 0 5))
    have hp := va_at.kept hp (ho5 _ (hj.ne 1 5))
    have ht := va_at.kept ht (ho5 _ (hj.ne 2 5))
    have hh := va_at.kept hh (ho5 _ (hj.ne 3 5))
    have hg := va_at.kept hg (ho5 _ (hj.ne 4 5))
    have hc := va_at.kept hc (ho5 _ (hj.ne 6 5))
    refine lv_iinc (v := ((1 + 1) + 1)) (lv' := [(4, .int ((1 + 1) + 1)), (0, .ref (ad 0)), (1, .int (nI i)), (2, .long v)]) F.1 F.2.1 d_MO_raise_26 hl (k := 0) rfl rfl (by decide) rfl (fun ls hl => ?_)
    refine lv_goto (tgt := 3) F.1 F.2.1 d_MO_raise_29 (by decide) ?_
    refine lv_iload F.1 F.2.1 d_MO_raise_3 (lv_at hl 0 rfl) ?_
    refine lv_iload_n F.1 F.2.1 d_MO_raise_5 rfl (lv_at hl 2 rfl) ?_
    refine x_rd (x_S (n := 1) (As := [.int (nI i)]) F (c_MO_depth l G (nI i)) ok_MO_depth k531 ⟨Nat.le_of_ble_eq_true rfl, Nat.le_of_ble_eq_true rfl⟩ rfl rfl hK (trivial) rfl hl.1 rfl (Nat.le_of_ble_eq_true rfl) d_MO_raise_6 ⟨Nat.le_of_ble_eq_true rfl, Nat.le_of_ble_eq_true rfl⟩) ?_
    rw [pj_names_n i hi, hn]
    refine lv_icmp_ge (tgt := 32) F.1 F.2.1 d_MO_raise_9 (by decide) (fun _ => ?_) (fun zq => absurd (pN_le (a := 3) (b := 3) rfl rfl (by omega) (by omega) (by omega)) zq)
    refine lv_aload_n F.1 F.2.1 d_MO_raise_32 rfl (lv_at hl 1 rfl) ?_
    refine x_get F hK hO rfl i_MO 5 (by decide) k484 rfl rfl d_MO_raise_33 ?_
    refine lv_iload_n F.1 F.2.1 d_MO_raise_36 rfl (lv_at hl 2 rfl) ?_
    refine lv_lload_n F.1 F.2.1 d_MO_raise_37 rfl (lv_at hl 3 rfl) ?_
    refine x_lastN F hK hw (by decide) (by omega) hS ⟨5, by omega, rfl⟩ d_MO_raise_38 (fun H6 locs hw hz6 ho6 hS => ?_)
    have hO := va_at.kept hO (ho6 _ (hj.ne 0 5))
    have hp := va_at.kept hp (ho6 _ (hj.ne 1 5))
    have ht := va_at.kept ht (ho6 _ (hj.ne 2 5))
    have hh := va_at.kept hh (ho6 _ (hj.ne 3 5))
    have hg := va_at.kept hg (ho6 _ (hj.ne 4 5))
    have hc := va_at.kept hc (ho6 _ (hj.ne 6 5))
    refine lv_iconst (v := 1) F.1 F.2.1 d_MO_raise_39 (by decide) ?_
    refine hret _ _ _ true _ _ _ _ d_MO_raise_40 rfl ⟨rfl, ⟨hO, hp, ht, hh, hg, x_al.cg hw (fun j _ => ?_), hc, hj⟩, hS.off⟩ hS.2.2 (Nat.le_refl _) (Nat.le_refl _)
    unfold tAbove vp_updL
    by_cases e1 : j = i
    · rw [if_pos e1, if_pos e1]
    · rw [if_neg e1, if_neg e1]
      by_cases e2 : j = pa i
      · rw [if_pos e2, if_pos e2]
        split <;> rfl
      · rw [if_neg e2, if_neg e2]
theorem c_MO_wipe (l : Launch) (G : x_G) (ad : Nat → Nat) (σ : Sg) (f : Nat → Int64) (ch : Nat → Bool) (i : Nat) (hi : i < 125) (li : lg i = true) (hf : ∀ q, 0 < q → q < 125 → f q ≠ wABS → lg q = true) : Met l y_MO_wipe (x_ws y_MO_wipe b_MO_wipe 3 (some .boolean)) (x_rm 2 0 0) (x_P G [.ref (ad 0), .int (nI i)] (MO G ad σ f ch)) (x_Q (MW G ad σ (tWipe f i (en i)) ch (some (.int (x_b true))))) 0 0 (mA ad) := by
  refine x_wZ (by decide +kernel) (Nat.le_of_ble_eq_true rfl) (fun p e s m args below meth c F hK hP ls hl Q hret => ?_)
  have hl : lv_has ls 3 [(0, .ref (ad 0)), (1, .int (nI i))] := hl
  have hS : va_S (mA ad) s.heap s.heap [] := va_S.rf
  obtain ⟨he1, he2⟩ := en_le i hi li
  have h25 := lg_25 li
  have loop : ∀ (n k : Nat), k + n = 125 → 1 ≤ k → ∀ (g : Nat → Int64) (H : Heap) (locs : List Loc), (∀ q, q < 125 → g q = if q < k ∧ i ≤ q ∧ q < en i then wABS else f q) → MO G ad σ g ch H → va_S (mA ad) s.heap H locs → ∀ ls : Array Slot, lv_has ls 3 [(2, .int (nI k)), (0, .ref (ad 0)), (1, .int (nI i))] → W p l e (x_rm 2 0 0) s m args below meth c H locs 0 0 Q (F0 m 2 ls []) := by
    intro n
    induction n with
    | zero =>
      intro k hn hk1 g H locs hgq hP hS ls hl
      obtain ⟨hO, hp, ht, hh, hg, hw, hc, hj⟩ := hP
      refine lv_iload_n F.1 F.2.1 d_MO_wipe_2 rfl (lv_at hl 0 rfl) ?_
      refine lv_bipush (v := 125) F.1 F.2.1 d_MO_wipe_3 (by decide) ?_
      refine lv_icmp_ge (tgt := 36) F.1 F.2.1 d_MO_wipe_5 (by decide) (fun _ => ?_) (fun zq => absurd (pN_le (a := 125) (b := k) rfl rfl (by omega) (by omega) (by omega)) zq)
      refine lv_iconst (v := 1) F.1 F.2.1 d_MO_wipe_36 (by decide) ?_
      refine hret _ _ _ true _ _ _ _ d_MO_wipe_37 rfl ⟨rfl, ⟨hO, hp, ht, hh, hg, x_al.cg hw (fun j hj => ?_), hc, hj⟩, hS.off⟩ hS.2.2 (Nat.le_refl _) (Nat.le_refl _)
      rw [hgq j hj]
      unfold tWipe
      by_cases e : i ≤ j ∧ j < en i
      · rw [if_pos e, if_pos ⟨by omega, e⟩]
      · rw [if_neg e, if_neg (fun z => e z.2)]
    | succ n ih =>
      intro k hn hk1 g H locs hgq hP hS ls hl
      obtain ⟨hO, hp, ht, hh, hg, hw, hc, hj⟩ := id hP
      have k21 : i ≤ k → k < en i → ∀ ls : Array Slot, lv_has ls 3 [(2, .int (nI k)), (0, .ref (ad 0)), (1, .int (nI i))] → W p l e (x_rm 2 0 0) s m args below meth c H locs 0 0 Q (F0 m 21 ls []) := by
        intro hk2 hk3 ls hl
        refine lv_aload_n F.1 F.2.1 d_MO_wipe_21 rfl (lv_at hl 1 rfl) ?_
        refine x_get F hK hO rfl i_MO 5 (by decide) k484 rfl rfl d_MO_wipe_22 ?_
        refine lv_iload_n F.1 F.2.1 d_MO_wipe_25 rfl (lv_at hl 0 rfl) ?_
        refine x_cst F k478 d_MO_wipe_26 ?_
        refine x_lastN F hK hw (by decide) (by omega) hS ⟨5, by omega, rfl⟩ d_MO_wipe_29 (fun H7 locs hw hz7 ho7 hS => ?_)
        have hO := va_at.kept hO (ho7 _ (hj.ne 0 5))
        have hp := va_at.kept hp (ho7 _ (hj.ne 1 5))
        have ht := va_at.kept ht (ho7 _ (hj.ne 2 5))
        have hh := va_at.kept hh (ho7 _ (hj.ne 3 5))
        have hg := va_at.kept hg (ho7 _ (hj.ne 4 5))
        have hc := va_at.kept hc (ho7 _ (hj.ne 6 5))
        refine lv_iinc (v := (nI (k + 1))) (lv' := [(2, .int (nI (k + 1))), (0, .ref (ad 0)), (1, .int (nI i))]) F.1 F.2.1 d_MO_wipe_30 hl (k := 0) rfl (nI_1 k) (by decide) rfl (fun ls hl => ?_)
        refine lv_goto (tgt := 2) F.1 F.2.1 d_MO_wipe_33 (by decide) ?_
        refine ih (k + 1) (by omega) (by omega) _ _ _ (fun q hq => ?_) ⟨hO, hp, ht, hh, hg, hw, hc, hj⟩ hS ls hl
        unfold vp_updL
        by_cases e : q = k
        · rw [if_pos e, if_pos (by omega)]
        · rw [if_neg e, hgq q hq]
          by_cases e2 : q < k ∧ i ≤ q ∧ q < en i
          · rw [if_pos e2, if_pos (by omega)]
          · rw [if_neg e2, if_neg (by omega)]
      refine lv_iload_n F.1 F.2.1 d_MO_wipe_2 rfl (lv_at hl 0 rfl) ?_
      refine lv_bipush (v := 125) F.1 F.2.1 d_MO_wipe_3 (by decide) ?_
      refine lv_icmp_ge (tgt := 36) F.1 F.2.1 d_MO_wipe_5 (by decide) (fun zq => absurd zq (pN_nle (a := 125) (b := k) rfl rfl (by omega) (by omega) (by omega))) (fun _ => ?_)
      refine lv_iload_n F.1 F.2.1 d_MO_wipe_8 rfl (lv_at hl 0 rfl) ?_
      refine lv_iload_n F.1 F.2.1 d_MO_wipe_9 rfl (lv_at hl 2 rfl) ?_
      refine lv_icmp_eq (tgt := 21) F.1 F.2.1 d_MO_wipe_10 (by decide) (fun c10 => ?_) (fun c10 => ?_)
      · have c10 := (pN_eqI (a := k) (b := i) rfl rfl (by omega) (by omega)).mp c10
        exact k21 (by omega) (by omega) ls hl
      · have c10 := mt (pN_eqI (a := k) (b := i) rfl rfl (by omega) (by omega)).mpr c10
        refine lv_iload_n F.1 F.2.1 d_MO_wipe_13 rfl (lv_at hl 0 rfl) ?_
        refine lv_iload_n F.1 F.2.1 d_MO_wipe_14 rfl (lv_at hl 2 rfl) ?_
        refine x_rd (x_S (n := 2) (As := [.int (nI k), .int (nI i)]) F (c_MO_below l G (nI k) (nI i)) ok_MO_below k548 ⟨Nat.le_of_ble_eq_true rfl, Nat.le_of_ble_eq_true rfl⟩ rfl rfl hK (trivial) rfl hl.1 rfl (Nat.le_of_ble_eq_true rfl) d_MO_wipe_15 ⟨Nat.le_of_ble_eq_true rfl, Nat.le_of_ble_eq_true rfl⟩) ?_
        rw [mo_below_n (show k < 125 by omega) hi]
        refine x_beq (tgt := 30) F d_MO_wipe_18 (by decide) (fun c18 => ?_) (fun c18 => ?_)
        · refine lv_iinc (v := (nI (k + 1))) (lv' := [(2, .int (nI (k + 1))), (0, .ref (ad 0)), (1, .int (nI i))]) F.1 F.2.1 d_MO_wipe_30 hl (k := 0) rfl (nI_1 k) (by decide) rfl (fun ls hl => ?_)
          refine lv_goto (tgt := 2) F.1 F.2.1 d_MO_wipe_33 (by decide) ?_
          refine ih (k + 1) (by omega) (by omega) g _ _ (fun q hq => ?_) hP hS ls hl
          rw [hgq q hq]
          by_cases e : q = k
          · subst e
            rw [if_neg (by omega)]
            by_cases e2 : i ≤ q ∧ q < en i
            · rw [if_pos ⟨by omega, e2⟩]
              cases hl2 : lg q with
              | true => rw [(bl_iff i hi li q hq).mpr ⟨hl2, by omega, e2.2⟩] at c18; cases c18
              | false =>
                by_cases e3 : f q = wABS
                · exact e3
                · rw [hf q (by omega) hq e3] at hl2; cases hl2
            · rw [if_neg (fun z => e2 z.2)]
          · by_cases e2 : q < k ∧ i ≤ q ∧ q < en i
            · rw [if_pos e2, if_pos (by omega)]
            · rw [if_neg e2, if_neg (by omega)]
        · have hb := (bl_iff i hi li k (by omega)).mp c18
          exact k21 (by omega) hb.2.2 ls hl
  refine lv_iconst (v := 1) F.1 F.2.1 d_MO_wipe_0 (by decide) ?_
  refine lv_istore_n (lv' := [(2, .int 1), (0, .ref (ad 0)), (1, .int (nI i))]) F.1 F.2.1 d_MO_wipe_1 rfl hl (by decide) rfl (fun ls hl => ?_)
  exact loop 124 1 rfl (Nat.le_refl _) f _ _ (fun q hq => by rw [if_neg (by omega)]) hP hS ls hl
/-! carried -/
def nme (q k : Nat) : Nat := if k = 0 then q / 25 else if k = 1 then q / 5 % 5 else q % 5
def car (q : Nat) : Nat → Nat → Nat → Nat → Nat
  | 0, _, _, at_ => at_
  | n + 1, k, d, at_ => if d = 3 then 0 else car q n (k + 1) (d + 1) (at_ + nme q k * (if d = 1 then 5 else 1))
theorem mo_name_n : ∀ q, q < 125 → ∀ k, k < 3 → mo_name (nI q) (nI k) = nI (nme q k) := by decide +kernel
theorem nme_lt : ∀ q, q < 125 → ∀ k, k < 3 → nme q k < 5 := by decide +kernel
def car_t : Bool := (List.range 125).all fun a => !lg a || (List.range 25).all fun k => !(decide (a + k < en a) && lg (a + k)) || (List.range 125).all fun b => !lg b || decide (car (a + k) (nm (a + k) - nm a) (nm a) (nm b) b = if nm (a + k) + nm b ≤ 3 + nm a then wp (a + k) a b else 0)
theorem car_t_ok : car_t = true := by decide +kernel
theorem car_eq {a b q : Nat} (ha : a < 125) (hb : b < 125) (la : lg a = true) (lb : lg b = true) (h1 : a ≤ q) (h2 : q < en a) (lq : lg q = true) : car q (nm q - nm a) (nm a) (nm b) b = if nm q + nm b ≤ 3 + nm a then wp q a b else 0 := by
  obtain ⟨k, rfl⟩ : ∃ k, q = a + k := ⟨q - a, by omega⟩
  have he : en a ≤ a + 25 := by unfold en; split <;> (try split) <;> omega
  have h := car_t_ok
  unfold car_t at h
  have h := List.all_eq_true.mp h a (List.mem_range.mpr ha)
  rw [la, Bool.not_true, Bool.false_or] at h
  have h := List.all_eq_true.mp h k (List.mem_range.mpr (by omega))
  rw [decide_eq_true h2, lq, Bool.and_true, Bool.not_true, Bool.false_or] at h
  have h := List.all_eq_true.mp h b (List.mem_range.mpr hb)
  rw [lb, Bool.not_true, Bool.false_or] at h
  exact of_decide_eq_true h
theorem c_MO_carried (l : Launch) (G : x_G) (q a b : Nat) (hq : q < 125) (ha : a < 125) (hb : b < 125) (la : lg a = true) (lb : lg b = true) (lq : lg q = true) (h1 : a ≤ q) (h2 : q < en a) : Met l y_MO_carried (x_ws y_MO_carried b_MO_carried 6 (some .int)) (x_rm 1 0 0) (x_P G [.int (nI q), .int (nI a), .int (nI b)] (fun _ => True)) (k2_QcV (.int (nI (if nm q + nm b ≤ 3 + nm a then wp q a b else 0)))) 0 0 (fun _ => False) := by
  refine x_mI (by decide +kernel) (Nat.le_of_ble_eq_true rfl) (fun p e s m args below meth c F hK hP ls hl Q hret => ?_)
  have hl : lv_has ls 6 [(0, .int (nI q)), (1, .int (nI a)), (2, .int (nI b))] := hl
  have hu := nm_up a ha la q hq (by rw [decide_eq_true h1, decide_eq_true h2, lq]; rfl)
  have n1 := nm_lt a
  have n2 := nm_lt b
  have n3 := nm_lt q
  have loop : ∀ (n k d z : Nat), k + n = nm q → d ≤ 3 → z + 25 * n < 1000 → car q n k d z = car q (nm q - nm a) (nm a) (nm b) b → ∀ ls : Array Slot, lv_has ls 6 [(5, .int (nI k)), (3, .int (nI d)), (4, .int (nI z)), (0, .int (nI q)), (1, .int (nI a)), (2, .int (nI b))] → W p l e (x_rm 1 0 0) s m args below meth c s.heap [] 0 0 Q (F0 m 14 ls []) := by
    intro n
    induction n with
    | zero =>
      intro k d z hn hd hz hcar ls hl
      refine lv_iload F.1 F.2.1 d_MO_carried_14 (lv_at hl 0 rfl) ?_
      refine lv_iload_n F.1 F.2.1 d_MO_carried_16 rfl (lv_at hl 3 rfl) ?_
      refine x_rd (x_S (n := 1) (As := [.int (nI q)]) F (c_MO_depth l G (nI q)) ok_MO_depth k531 ⟨Nat.le_of_ble_eq_true rfl, Nat.le_of_ble_eq_true rfl⟩ rfl rfl hK (trivial) rfl hl.1 rfl (Nat.le_of_ble_eq_true rfl) d_MO_carried_17 ⟨Nat.le_of_ble_eq_true rfl, Nat.le_of_ble_eq_true rfl⟩) ?_
      rw [pj_names_n q hq]
      refine lv_icmp_ge (tgt := 61) F.1 F.2.1 d_MO_carried_20 (by decide) (fun _ => ?_) (fun zq => absurd (pN_le (a := (nm q)) (b := k) rfl rfl (by omega) (by omega) (by omega)) zq)
      refine lv_iload F.1 F.2.1 d_MO_carried_61 (lv_at hl 2 rfl) ?_
      exact hret _ _ _ d_MO_carried_63 (by rw [← car_eq ha hb la lb h1 h2 lq, ← hcar]; rfl)
    | succ n ih =>
      intro k d z hn hd hz hcar ls hl
      have hk3 : k < 3 := by omega
      have hnk := nme_lt q hq k hk3
      refine lv_iload F.1 F.2.1 d_MO_carried_14 (lv_at hl 0 rfl) ?_
      refine lv_iload_n F.1 F.2.1 d_MO_carried_16 rfl (lv_at hl 3 rfl) ?_
      refine x_rd (x_S (n := 1) (As := [.int (nI q)]) F (c_MO_depth l G (nI q)) ok_MO_depth k531 ⟨Nat.le_of_ble_eq_true rfl, Nat.le_of_ble_eq_true rfl⟩ rfl rfl hK (trivial) rfl hl.1 rfl (Nat.le_of_ble_eq_true rfl) d_MO_carried_17 ⟨Nat.le_of_ble_eq_true rfl, Nat.le_of_ble_eq_true rfl⟩) ?_
      rw [pj_names_n q hq]
      refine lv_icmp_ge (tgt := 61) F.1 F.2.1 d_MO_carried_20 (by decide) (fun zq => absurd zq (pN_nle (a := (nm q)) (b := k) rfl rfl (by omega) (by omega) (by omega))) (fun _ => ?_)
      refine lv_iload_n F.1 F.2.1 d_MO_carried_23 rfl (lv_at hl 1 rfl) ?_
      refine lv_iconst (v := 3) F.1 F.2.1 d_MO_carried_24 (by decide) ?_
      refine lv_icmp_ne (tgt := 30) F.1 F.2.1 d_MO_carried_25 (by decide) (fun c25 => ?_) (fun c25 => ?_)
      · have c25 := mt (pN_eqI (a := d) (b := 3) rfl rfl (by omega) (by omega)).mpr c25
        have hcs : car q (n + 1) k d z = car q n (k + 1) (d + 1) (z + nme q k * (if d = 1 then 5 else 1)) := if_neg c25
        refine lv_iload F.1 F.2.1 d_MO_carried_30 (lv_at hl 2 rfl) ?_
        refine lv_iload_n F.1 F.2.1 d_MO_carried_32 rfl (lv_at hl 3 rfl) ?_
        refine lv_iload F.1 F.2.1 d_MO_carried_33 (lv_at hl 0 rfl) ?_
        refine x_rd (x_S (n := 2) (As := [.int (nI q), .int (nI k)]) F (c_MO_name l G (nI q) (nI k)) ok_MO_name k561 ⟨Nat.le_of_ble_eq_true rfl, Nat.le_of_ble_eq_true rfl⟩ rfl rfl hK (trivial) rfl hl.1 rfl (Nat.le_of_ble_eq_true rfl) d_MO_carried_35 ⟨Nat.le_of_ble_eq_true rfl, Nat.le_of_ble_eq_true rfl⟩) ?_
        rw [mo_name_n q hq k hk3]
        refine lv_iload_n F.1 F.2.1 d_MO_carried_38 rfl (lv_at hl 1 rfl) ?_
        refine lv_iconst (v := 1) F.1 F.2.1 d_MO_carried_39 (by decide) ?_
        refine lv_icmp_ne (tgt := 47) F.1 F.2.1 d_MO_carried_40 (by decide) (fun c40 => ?_) (fun c40 => ?_)
        · have c40 := mt (pN_eqI (a := d) (b := 1) rfl rfl (by omega) (by omega)).mpr c40
          refine lv_iconst (v := 1) F.1 F.2.1 d_MO_carried_47 (by decide) ?_
          refine lv_imul F.1 F.2.1 d_MO_carried_48 ?_
          refine lv_iadd F.1 F.2.1 d_MO_carried_49 ?_
          rw [show nI z + nI (nme q k) * 1 = nI (z + nme q k * 1) from (by rw [show (1 : Int32) = nI 1 from rfl, pk_mul, nI_add])]
          refine lv_istore (lv' := [(4, .int (nI (z + nme q k * 1))), (5, .int (nI k)), (3, .int (nI d)), (0, .int (nI q)), (1, .int (nI a)), (2, .int (nI b))]) F.1 F.2.1 d_MO_carried_50 hl (by decide) rfl (fun ls hl => ?_)
          refine lv_iinc (v := (nI (d + 1))) (lv' := [(3, .int (nI (d + 1))), (4, .int (nI (z + nme q k * 1))), (5, .int (nI k)), (0, .int (nI q)), (1, .int (nI a)), (2, .int (nI b))]) F.1 F.2.1 d_MO_carried_52 hl (k := 2) rfl (nI_1 d) (by decide) rfl (fun ls hl => ?_)
          refine lv_iinc (v := (nI (k + 1))) (lv' := [(5, .int (nI (k + 1))), (3, .int (nI (d + 1))), (4, .int (nI (z + nme q k * 1))), (0, .int (nI q)), (1, .int (nI a)), (2, .int (nI b))]) F.1 F.2.1 d_MO_carried_55 hl (k := 2) rfl (nI_1 k) (by decide) rfl (fun ls hl => ?_)
          refine lv_goto (tgt := 14) F.1 F.2.1 d_MO_carried_58 (by decide) ?_
          exact ih (k + 1) (d + 1) (z + nme q k * 1) (by omega) (by omega) (by omega) (by rw [← hcar, hcs, if_neg c40]) ls (lv_sub hl [0, 1, 2, 3, 4, 5] rfl)
        · have c40 := (pN_eqI (a := d) (b := 1) rfl rfl (by omega) (by omega)).mp c40
          refine lv_iconst (v := 5) F.1 F.2.1 d_MO_carried_43 (by decide) ?_
          refine lv_goto (tgt := 48) F.1 F.2.1 d_MO_carried_44 (by decide) ?_
          refine lv_imul F.1 F.2.1 d_MO_carried_48 ?_
          refine lv_iadd F.1 F.2.1 d_MO_carried_49 ?_
          rw [show nI z + nI (nme q k) * 5 = nI (z + nme q k * 5) from (by rw [show (5 : Int32) = nI 5 from rfl, pk_mul, nI_add])]
          refine lv_istore (lv' := [(4, .int (nI (z + nme q k * 5))), (5, .int (nI k)), (3, .int (nI d)), (0, .int (nI q)), (1, .int (nI a)), (2, .int (nI b))]) F.1 F.2.1 d_MO_carried_50 hl (by decide) rfl (fun ls hl => ?_)
          refine lv_iinc (v := (nI (d + 1))) (lv' := [(3, .int (nI (d + 1))), (4, .int (nI (z + nme q k * 5))), (5, .int (nI k)), (0, .int (nI q)), (1, .int (nI a)), (2, .int (nI b))]) F.1 F.2.1 d_MO_carried_52 hl (k := 2) rfl (nI_1 d) (by decide) rfl (fun ls hl => ?_)
          refine lv_iinc (v := (nI (k + 1))) (lv' := [(5, .int (nI (k + 1))), (3, .int (nI (d + 1))), (4, .int (nI (z + nme q k * 5))), (0, .int (nI q)), (1, .int (nI a)), (2, .int (nI b))]) F.1 F.2.1 d_MO_carried_55 hl (k := 2) rfl (nI_1 k) (by decide) rfl (fun ls hl => ?_)
          refine lv_goto (tgt := 14) F.1 F.2.1 d_MO_carried_58 (by decide) ?_
          exact ih (k + 1) (d + 1) (z + nme q k * 5) (by omega) (by omega) (by omega) (by rw [← hcar, hcs, if_pos c40]) ls (lv_sub hl [0, 1, 2, 3, 4, 5] rfl)
      · have c25 := (pN_eqI (a := d) (b := 3) rfl rfl (by omega) (by omega)).mp c25
        refine lv_iconst (v := 0) F.1 F.2.1 d_MO_carried_28 (by decide) ?_
        exact hret _ _ _ d_MO_carried_29 (by rw [← car_eq ha hb la lb h1 h2 lq, ← hcar, show car q (n + 1) k d z = 0 from if_pos c25]; rfl)
  refine lv_iload_n F.1 F.2.1 d_MO_carried_0 rfl (lv_at hl 2 rfl) ?_
  refine x_rd (x_S (n := 1) (As := [.int (nI b)]) F (c_MO_depth l G (nI b)) ok_MO_depth k531 ⟨Nat.le_of_ble_eq_true rfl, Nat.le_of_ble_eq_true rfl⟩ rfl rfl hK (trivial) rfl hl.1 rfl (Nat.le_of_ble_eq_true rfl) d_MO_carried_1 ⟨Nat.le_of_ble_eq_true rfl, Nat.le_of_ble_eq_true rfl⟩) ?_
  rw [pj_names_n b hb]
  refine lv_istore_n (lv' := [(3, .int (nI (nm b))), (0, .int (nI q)), (1, .int (nI a)), (2, .int (nI b))]) F.1 F.2.1 d_MO_carried_4 rfl hl (by decide) rfl (fun ls hl => ?_)
  refine lv_iload_n F.1 F.2.1 d_MO_carried_5 rfl (lv_at hl 3 rfl) ?_
  refine lv_istore (lv' := [(4, .int (nI b)), (3, .int (nI (nm b))), (0, .int (nI q)), (1, .int (nI a)), (2, .int (nI b))]) F.1 F.2.1 d_MO_carried_6 hl (by decide) rfl (fun ls hl => ?_)
  refine lv_iload_n F.1 F.2.1 d_MO_carried_8 rfl (lv_at hl 3 rfl) ?_
  refine x_rd (x_S (n := 1) (As := [.int (nI a)]) F (c_MO_depth l G (nI a)) ok_MO_depth k531 ⟨Nat.le_of_ble_eq_true rfl, Nat.le_of_ble_eq_true rfl⟩ rfl rfl hK (trivial) rfl hl.1 rfl (Nat.le_of_ble_eq_true rfl) d_MO_carried_9 ⟨Nat.le_of_ble_eq_true rfl, Nat.le_of_ble_eq_true rfl⟩) ?_
  rw [pj_names_n a ha]
  refine lv_istore (lv' := [(5, .int (nI (nm a))), (4, .int (nI b)), (3, .int (nI (nm b))), (0, .int (nI q)), (1, .int (nI a)), (2, .int (nI b))]) F.1 F.2.1 d_MO_carried_12 hl (by decide) rfl (fun ls hl => ?_)
  exact loop (nm q - nm a) (nm a) (nm b) b (by omega) (by omega) (by omega) rfl ls (lv_sub hl [0, 2, 1, 3, 4, 5] rfl)

