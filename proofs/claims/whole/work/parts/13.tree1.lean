/-! ===== Tree: what only reads ===== -/
/-- a tree at a, its marks at b -/
def TR (G : x_G) (a b : Nat) (f : Nat → Int64) (H : Heap) : Prop := va_at G.1 x_cl (a, .inr (4, [.ref b])) H ∧ x_al G b 125 f H ∧ a ≠ b
theorem c_TR_at (l : Launch) (G : x_G) (a b : Nat) (f : Nat → Int64) (i : Nat) (hi : i < 125) : Met l y_TR_at (x_ws y_TR_at b_TR_at 2 (some .long)) (x_rm 0 0 0) (x_P G [.ref a, .int (nI i)] (TR G a b f)) (k2_QcV (.long (f i))) 0 0 (fun _ => False) := by
  refine x_mL (by decide +kernel) (Nat.le_of_ble_eq_true rfl) (fun p e s m args below meth c F hK hP ls hl Q hret => ?_)
  have hl : lv_has ls 2 [(0, .ref a), (1, .int (nI i))] := hl
  obtain ⟨hT, hM, hab⟩ := hP
  refine lv_aload_n F.1 F.2.1 d_TR_at_0 rfl (lv_at hl 0 rfl) ?_
  refine x_get F hK hT rfl i_TR 0 (by decide) k80 rfl rfl d_TR_at_1 ?_
  refine lv_iload_n F.1 F.2.1 d_TR_at_4 rfl (lv_at hl 1 rfl) ?_
  refine x_laldN F hK hM (by decide) (by omega) d_TR_at_5 ?_
  exact hret _ _ _ d_TR_at_6 (rfl)
def tEq (f g : Nat → Int64) : Bool := (List.range 125).all fun i => f i == g i
theorem tEq_iff {f g : Nat → Int64} : tEq f g = true ↔ ∀ i, i < 125 → f i = g i := by
  unfold tEq
  rw [List.all_eq_true]
  exact ⟨fun h i hi => eq_of_beq (h i (List.mem_range.mpr hi)), fun h i hi => beq_iff_eq.mpr (h i (List.mem_range.mp hi))⟩
theorem tEq_f {f g : Nat → Int64} {i : Nat} (hi : i < 125) (h : ¬ f i = g i) : tEq f g = false := by
  cases hh : tEq f g with
  | false => rfl
  | true => exact absurd (tEq_iff.mp hh i hi) h
theorem c_TR_sameAs (l : Launch) (G : x_G) (a b a2 b2 : Nat) (f g : Nat → Int64) : Met l y_TR_sameAs (x_ws y_TR_sameAs b_TR_sameAs 3 (some .boolean)) (x_rm 0 0 0) (x_P G [.ref a, .ref a2] (fun H => TR G a b f H ∧ TR G a2 b2 g H)) (k2_QcV (.int (x_b (tEq f g)))) 0 0 (fun _ => False) := by
  refine x_mZ (by decide +kernel) (Nat.le_of_ble_eq_true rfl) (fun p e s m args below meth c F hK hP ls hl Q hret => ?_)
  have hl : lv_has ls 3 [(0, .ref a), (1, .ref a2)] := hl
  obtain ⟨⟨hT, hM, hab⟩, hT2, hM2, hab2⟩ := hP
  have loop : ∀ (n i : Nat), i + n = 125 → (∀ j, j < i → f j = g j) → ∀ ls : Array Slot, lv_has ls 3 [(2, .int (nI i)), (0, .ref a), (1, .ref a2)] → W p l e (x_rm 0 0 0) s m args below meth c s.heap [] 0 0 Q (F0 m 2 ls []) := by
    intro n
    induction n with
    | zero =>
      intro i hn hj ls hl
      refine lv_iload_n F.1 F.2.1 d_TR_sameAs_2 rfl (lv_at hl 0 rfl) ?_
      refine lv_bipush (v := 125) F.1 F.2.1 d_TR_sameAs_3 (by decide) ?_
      refine lv_icmp_ge (tgt := 32) F.1 F.2.1 d_TR_sameAs_5 (by decide) (fun _ => ?_) (fun zq => absurd (pN_le (a := 125) (b := i) rfl rfl (by omega) (by omega) (by omega)) zq)
      refine lv_iconst (v := 1) F.1 F.2.1 d_TR_sameAs_32 (by decide) ?_
      exact hret _ _ _ d_TR_sameAs_33 (by rw [tEq_iff.mpr (fun k hk => hj k (by omega))]; rfl)
    | succ n ih =>
      intro i hn hj ls hl
      refine lv_iload_n F.1 F.2.1 d_TR_sameAs_2 rfl (lv_at hl 0 rfl) ?_
      refine lv_bipush (v := 125) F.1 F.2.1 d_TR_sameAs_3 (by decide) ?_
      refine lv_icmp_ge (tgt := 32) F.1 F.2.1 d_TR_sameAs_5 (by decide) (fun zq => absurd zq (pN_nle (a := 125) (b := i) rfl rfl (by omega) (by omega) (by omega))) (fun _ => ?_)
      refine lv_aload_n F.1 F.2.1 d_TR_sameAs_8 rfl (lv_at hl 1 rfl) ?_
      refine x_get F hK hT rfl i_TR 0 (by decide) k80 rfl rfl d_TR_sameAs_9 ?_
      refine lv_iload_n F.1 F.2.1 d_TR_sameAs_12 rfl (lv_at hl 0 rfl) ?_
      refine x_laldN F hK hM (by decide) (by omega) d_TR_sameAs_13 ?_
      refine lv_aload_n F.1 F.2.1 d_TR_sameAs_14 rfl (lv_at hl 2 rfl) ?_
      refine x_get F hK hT2 rfl i_TR 0 (by decide) k80 rfl rfl d_TR_sameAs_15 ?_
      refine lv_iload_n F.1 F.2.1 d_TR_sameAs_18 rfl (lv_at hl 0 rfl) ?_
      refine x_laldN F hK hM2 (by decide) (by omega) d_TR_sameAs_19 ?_
      refine x_leq (tgt := 26) F d_TR_sameAs_20 d_TR_sameAs_21 (by decide) (fun c20 => ?_) (fun c20 => ?_)
      · refine lv_iinc (v := (nI (i + 1))) (lv' := [(2, .int (nI (i + 1))), (0, .ref a), (1, .ref a2)]) F.1 F.2.1 d_TR_sameAs_26 hl (k := 0) rfl (nI_1 i) (by decide) rfl (fun ls hl => ?_)
        refine lv_goto (tgt := 2) F.1 F.2.1 d_TR_sameAs_29 (by decide) ?_
        exact ih (i + 1) (by omega) (fun j h => by rcases Nat.lt_succ_iff_lt_or_eq.mp h with h | rfl; exact hj j h; exact c20) ls hl
      · refine lv_iconst (v := 0) F.1 F.2.1 d_TR_sameAs_24 (by decide) ?_
        exact hret _ _ _ d_TR_sameAs_25 (by rw [tEq_f (by omega) c20]; rfl)
  refine lv_iconst (v := 0) F.1 F.2.1 d_TR_sameAs_0 (by decide) ?_
  refine lv_istore_n (lv' := [(2, .int 0), (0, .ref a), (1, .ref a2)]) F.1 F.2.1 d_TR_sameAs_1 rfl hl (by decide) rfl (fun ls hl => ?_)
  exact loop 125 0 rfl (fun j h => absurd h (Nat.not_lt_zero j)) ls hl
/-- the least path above i that is not absent, or 125 -/
def nx (f : Nat → Int64) : Nat → Nat → Nat
  | 0, i => i
  | n + 1, i => if f i = wABS then nx f n (i + 1) else i
theorem c_TR_presentAfter (l : Launch) (G : x_G) (a b : Nat) (f : Nat → Int64) (i : Nat) (hi : i < 125) : Met l y_TR_presentAfter (x_ws y_TR_presentAfter b_TR_presentAfter 3 (some .int)) (x_rm 0 0 0) (x_P G [.ref a, .int (nI i)] (TR G a b f)) (k2_QcV (.int (nI (nx f (124 - i) (i + 1))))) 0 0 (fun _ => False) := by
  refine x_mI (by decide +kernel) (Nat.le_of_ble_eq_true rfl) (fun p e s m args below meth c F hK hP ls hl Q hret => ?_)
  have hl : lv_has ls 3 [(0, .ref a), (1, .int (nI i))] := hl
  obtain ⟨hT, hM, hab⟩ := hP
  have loop : ∀ (n k : Nat), k + n = 125 → nx f n k = nx f (124 - i) (i + 1) → ∀ ls : Array Slot, lv_has ls 3 [(2, .int (nI k)), (0, .ref a), (1, .int (nI i))] → W p l e (x_rm 0 0 0) s m args below meth c s.heap [] 0 0 Q (F0 m 4 ls []) := by
    intro n
    induction n with
    | zero =>
      intro k hn hj ls hl
      refine lv_iload_n F.1 F.2.1 d_TR_presentAfter_4 rfl (lv_at hl 0 rfl) ?_
      refine lv_bipush (v := 125) F.1 F.2.1 d_TR_presentAfter_5 (by decide) ?_
      refine lv_icmp_ge (tgt := 29) F.1 F.2.1 d_TR_presentAfter_7 (by decide) (fun _ => ?_) (fun zq => absurd (pN_le (a := 125) (b := k) rfl rfl (by omega) (by omega) (by omega)) zq)
      refine lv_iload_n F.1 F.2.1 d_TR_presentAfter_29 rfl (lv_at hl 0 rfl) ?_
      exact hret _ _ _ d_TR_presentAfter_30 (by rw [← hj]; rfl)
    | succ n ih =>
      intro k hn hj ls hl
      refine lv_iload_n F.1 F.2.1 d_TR_presentAfter_4 rfl (lv_at hl 0 rfl) ?_
      refine lv_bipush (v := 125) F.1 F.2.1 d_TR_presentAfter_5 (by decide) ?_
      refine lv_icmp_ge (tgt := 29) F.1 F.2.1 d_TR_presentAfter_7 (by decide) (fun zq => absurd zq (pN_nle (a := 125) (b := k) rfl rfl (by omega) (by omega) (by omega))) (fun _ => ?_)
      refine lv_aload_n F.1 F.2.1 d_TR_presentAfter_10 rfl (lv_at hl 1 rfl) ?_
      refine x_get F hK hT rfl i_TR 0 (by decide) k80 rfl rfl d_TR_presentAfter_11 ?_
      refine lv_iload_n F.1 F.2.1 d_TR_presentAfter_14 rfl (lv_at hl 0 rfl) ?_
      refine x_laldN F hK hM (by decide) (by omega) d_TR_presentAfter_15 ?_
      refine x_cst F k75 d_TR_presentAfter_16 ?_
      refine x_lne (tgt := 29) F d_TR_presentAfter_19 d_TR_presentAfter_20 (by decide) (fun c19 => ?_) (fun c19 => ?_)
      · refine lv_iload_n F.1 F.2.1 d_TR_presentAfter_29 rfl (lv_at hl 0 rfl) ?_
        exact hret _ _ _ d_TR_presentAfter_30 (by rw [← hj]; show _ = nI (if _ then _ else _); rw [if_neg c19])
      · refine lv_iinc (v := (nI (k + 1))) (lv' := [(2, .int (nI (k + 1))), (0, .ref a), (1, .int (nI i))]) F.1 F.2.1 d_TR_presentAfter_23 hl (k := 0) rfl (nI_1 k) (by decide) rfl (fun ls hl => ?_)
        refine lv_goto (tgt := 4) F.1 F.2.1 d_TR_presentAfter_26 (by decide) ?_
        exact ih (k + 1) (by omega) (by rw [← hj]; show _ = (if _ then _ else _); rw [if_pos c19]) ls hl
  refine lv_iload_n F.1 F.2.1 d_TR_presentAfter_0 rfl (lv_at hl 1 rfl) ?_
  refine lv_iconst (v := 1) F.1 F.2.1 d_TR_presentAfter_1 (by decide) ?_
  refine lv_iadd F.1 F.2.1 d_TR_presentAfter_2 ?_
  rw [nI_1]
  refine lv_istore_n (lv' := [(2, .int (nI (i + 1))), (0, .ref a), (1, .int (nI i))]) F.1 F.2.1 d_TR_presentAfter_3 rfl hl (by decide) rfl (fun ls hl => ?_)
  exact loop (124 - i) (i + 1) (by omega) rfl ls hl
theorem c_TR_isFile (l : Launch) (G : x_G) (a b : Nat) (f : Nat → Int64) (i : Nat) (hi : i < 125) : Met l y_TR_isFile (x_ws y_TR_isFile b_TR_isFile 2 (some .boolean)) (x_rm 0 0 0) (x_P G [.ref a, .int (nI i)] (TR G a b f)) (k2_QcV (.int (x_b (mo_file (f i))))) 0 0 (fun _ => False) := by
  refine x_mZ (by decide +kernel) (Nat.le_of_ble_eq_true rfl) (fun p e s m args below meth c F hK hP ls hl Q hret => ?_)
  have hl : lv_has ls 2 [(0, .ref a), (1, .int (nI i))] := hl
  obtain ⟨hT, hM, hab⟩ := hP
  refine lv_aload_n F.1 F.2.1 d_TR_isFile_0 rfl (lv_at hl 0 rfl) ?_
  refine x_get F hK hT rfl i_TR 0 (by decide) k80 rfl rfl d_TR_isFile_1 ?_
  refine lv_iload_n F.1 F.2.1 d_TR_isFile_4 rfl (lv_at hl 1 rfl) ?_
  refine x_laldN F hK hM (by decide) (by omega) d_TR_isFile_5 ?_
  refine x_cst F k75 d_TR_isFile_6 ?_
  refine x_leq (tgt := 30) F d_TR_isFile_9 d_TR_isFile_10 (by decide) (fun c9 => ?_) (fun c9 => ?_)
  · refine lv_iconst (v := 0) F.1 F.2.1 d_TR_isFile_30 (by decide) ?_
    exact hret _ _ _ d_TR_isFile_31 (by simp [mo_file, x_b, c9])
  · refine lv_aload_n F.1 F.2.1 d_TR_isFile_13 rfl (lv_at hl 0 rfl) ?_
    refine x_get F hK hT rfl i_TR 0 (by decide) k80 rfl rfl d_TR_isFile_14 ?_
    refine lv_iload_n F.1 F.2.1 d_TR_isFile_17 rfl (lv_at hl 1 rfl) ?_
    refine x_laldN F hK hM (by decide) (by omega) d_TR_isFile_18 ?_
    refine x_cst F k79 d_TR_isFile_19 ?_
    refine x_leq (tgt := 30) F d_TR_isFile_22 d_TR_isFile_23 (by decide) (fun c22 => ?_) (fun c22 => ?_)
    · refine lv_iconst (v := 0) F.1 F.2.1 d_TR_isFile_30 (by decide) ?_
      exact hret _ _ _ d_TR_isFile_31 (by simp [mo_file, x_b, c9, c22])
    · refine lv_iconst (v := 1) F.1 F.2.1 d_TR_isFile_26 (by decide) ?_
      refine lv_goto (tgt := 31) F.1 F.2.1 d_TR_isFile_27 (by decide) ?_
      exact hret _ _ _ d_TR_isFile_31 (by simp [mo_file, x_b, c9, c22])
theorem c_TR_liesBelowFile (l : Launch) (G : x_G) (a b : Nat) (f : Nat → Int64) (i : Nat) (hi : i < 125) : Met l y_TR_liesBelowFile (x_ws y_TR_liesBelowFile b_TR_liesBelowFile 3 (some .boolean)) (x_rm 2 0 0) (x_P G [.ref a, .int (nI i)] (TR G a b f)) (k2_QcV (.int (x_b (mo_file (f (pa i)) || mo_file (f (pa (pa i))))))) 0 0 (fun _ => False) := by
  refine x_mZ (by decide +kernel) (Nat.le_of_ble_eq_true rfl) (fun p e s m args below meth c F hK hP ls hl Q hret => ?_)
  have hl : lv_has ls 3 [(0, .ref a), (1, .int (nI i))] := hl
  have hT := hP.1
  have h1 := pa_lt i hi
  have h2 := pa_lt _ h1
  refine lv_iload_n F.1 F.2.1 d_TR_liesBelowFile_0 rfl (lv_at hl 1 rfl) ?_
  refine x_rd (x_S (n := 1) (As := [.int (nI i)]) F (c_PA_parent l G (nI i)) ok_PA_parent k230 ⟨Nat.le_of_ble_eq_true rfl, Nat.le_of_ble_eq_true rfl⟩ rfl rfl hK (trivial) rfl hl.1 rfl (Nat.le_of_ble_eq_true rfl) d_TR_liesBelowFile_1 ⟨Nat.le_of_ble_eq_true rfl, Nat.le_of_ble_eq_true rfl⟩) ?_
  rw [pj_parent_n i hi]
  refine lv_istore_n (lv' := [(2, .int (nI (pa i))), (0, .ref a), (1, .int (nI i))]) F.1 F.2.1 d_TR_liesBelowFile_4 rfl hl (by decide) rfl (fun ls hl => ?_)
  refine lv_aload_n F.1 F.2.1 d_TR_liesBelowFile_5 rfl (lv_at hl 1 rfl) ?_
  refine lv_iload_n F.1 F.2.1 d_TR_liesBelowFile_6 rfl (lv_at hl 0 rfl) ?_
  refine x_rd (x_V (n := 1) (As := [.int (nI (pa i))]) F (c_TR_isFile l G a b f (pa i) h1) ok_TR_isFile k236 ⟨Nat.le_of_ble_eq_true rfl, Nat.le_of_ble_eq_true rfl⟩ rfl rfl hK (x_rcv hK hT rfl) (hP) rfl hl.1 rfl (Nat.le_of_ble_eq_true rfl) d_TR_liesBelowFile_7 ⟨Nat.le_of_ble_eq_true rfl, Nat.le_of_ble_eq_true rfl⟩) ?_
  refine x_bne (tgt := 24) F d_TR_liesBelowFile_10 (by decide) (fun c10 => ?_) (fun c10 => ?_)
  · refine lv_iconst (v := 1) F.1 F.2.1 d_TR_liesBelowFile_24 (by decide) ?_
    refine lv_goto (tgt := 29) F.1 F.2.1 d_TR_liesBelowFile_25 (by decide) ?_
    exact hret _ _ _ d_TR_liesBelowFile_29 (by rw [c10]; rfl)
  · refine lv_aload_n F.1 F.2.1 d_TR_liesBelowFile_13 rfl (lv_at hl 1 rfl) ?_
    refine lv_iload_n F.1 F.2.1 d_TR_liesBelowFile_14 rfl (lv_at hl 0 rfl) ?_
    refine x_rd (x_S (n := 1) (As := [.int (nI (pa i))]) F (c_PA_parent l G (nI (pa i))) ok_PA_parent k230 ⟨Nat.le_of_ble_eq_true rfl, Nat.le_of_ble_eq_true rfl⟩ rfl rfl hK (trivial) rfl hl.1 rfl (Nat.le_of_ble_eq_true rfl) d_TR_liesBelowFile_15 ⟨Nat.le_of_ble_eq_true rfl, Nat.le_of_ble_eq_true rfl⟩) ?_
    rw [pj_parent_n _ h1]
    refine x_rd (x_V (n := 1) (As := [.int (nI (pa (pa i)))]) F (c_TR_isFile l G a b f (pa (pa i)) h2) ok_TR_isFile k236 ⟨Nat.le_of_ble_eq_true rfl, Nat.le_of_ble_eq_true rfl⟩ rfl rfl hK (x_rcv hK hT rfl) (hP) rfl hl.1 rfl (Nat.le_of_ble_eq_true rfl) d_TR_liesBelowFile_18 ⟨Nat.le_of_ble_eq_true rfl, Nat.le_of_ble_eq_true rfl⟩) ?_
    refine x_beq (tgt := 28) F d_TR_liesBelowFile_21 (by decide) (fun c21 => ?_) (fun c21 => ?_)
    · refine lv_iconst (v := 0) F.1 F.2.1 d_TR_liesBelowFile_28 (by decide) ?_
      exact hret _ _ _ d_TR_liesBelowFile_29 (by rw [c10, c21]; rfl)
    · refine lv_iconst (v := 1) F.1 F.2.1 d_TR_liesBelowFile_24 (by decide) ?_
      refine lv_goto (tgt := 29) F.1 F.2.1 d_TR_liesBelowFile_25 (by decide) ?_
      exact hret _ _ _ d_TR_liesBelowFile_29 (by rw [c10, c21]; rfl)

