/-! ===== Tree: what writes the marks ===== -/
/-- outside of A nothing that was there has changed -/
def x_off (A : Nat → Prop) (H H1 : Heap) : Prop := H.size ≤ H1.size ∧ ∀ q : Nat, q < H.size → ¬ A q → H1[q]? = H[q]?
theorem va_S.off {A : Nat → Prop} {H0 H : Heap} {locs : List Loc} (h : va_S A H0 H locs) : x_off A H0 H := ⟨h.1, h.2.1⟩
theorem x_off.rf {A : Nat → Prop} {H : Heap} : x_off A H H := ⟨Nat.le_refl _, fun _ _ _ => rfl⟩
theorem x_off.mono {A B : Nat → Prop} {H H1 : Heap} (h : x_off A H H1) (hAB : ∀ q, A q → B q) : x_off B H H1 := ⟨h.1, fun q h1 h2 => h.2 q h1 (fun z => h2 (hAB q z))⟩
theorem x_off.tr {A : Nat → Prop} {H H1 H2 : Heap} (h : x_off A H H1) (h' : x_off A H1 H2) : x_off A H H2 := ⟨Nat.le_trans h.1 h'.1, fun q h1 h2 => (h'.2 q (Nat.lt_of_lt_of_le h1 h.1) h2).trans (h.2 q h1 h2)⟩
theorem x_keep {D : va_G} {cl : List vw_C} {A : Nat → Prop} {H H1 : Heap} {a : Nat} {e : va_E} (h : va_at D cl (a, e) H) (ho : x_off A H H1) (hn : ¬ A a) : va_at D cl (a, e) H1 := h.kept (ho.2 a h.lt hn)
/-- the marks at b are f' now, nothing else has changed; the answer is v0 -/
def TW (G : x_G) (b : Nat) (f' : Nat → Int64) (v0 : Option Value) : Option Value → Heap → Heap → Prop := fun v H H1 => v = v0 ∧ x_al G b 125 f' H1 ∧ x_off (fun q => q = b) H H1
def tAbove (f : Nat → Int64) (i : Nat) : Nat → Int64 := vp_updL (vp_updL f (pa i) wDIR) (pa (pa i)) wDIR
theorem c_TR_makeAllAbove (l : Launch) (G : x_G) (a b : Nat) (f : Nat → Int64) (i : Nat) (hi : i < 125) : Met l y_TR_makeAllAbove (x_ws y_TR_makeAllAbove b_TR_makeAllAbove 3 none) (x_rm 2 0 0) (x_P G [.ref a, .int (nI i)] (TR G a b f)) (x_Q (TW G b (tAbove f i) none)) 0 0 (fun q => q = b) := by
  refine x_wV (by decide +kernel) (Nat.le_of_ble_eq_true rfl) (fun p e s m args below meth c F hnm hK hP ls hl Q hret => ?_)
  have hl : lv_has ls 3 [(0, .ref a), (1, .int (nI i))] := hl
  obtain ⟨hT, hM, hab⟩ := hP
  have hS : va_S (fun q => q = b) s.heap s.heap [] := va_S.rf
  have h1 := pa_lt i hi
  have h2 := pa_lt _ h1
  refine lv_iload_n F.1 F.2.1 d_TR_makeAllAbove_0 rfl (lv_at hl 1 rfl) ?_
  refine x_rd (x_S (n := 1) (As := [.int (nI i)]) F (c_PA_parent l G (nI i)) ok_PA_parent k230 ⟨Nat.le_of_ble_eq_true rfl, Nat.le_of_ble_eq_true rfl⟩ rfl rfl hK (trivial) rfl hl.1 rfl (Nat.le_of_ble_eq_true rfl) d_TR_makeAllAbove_1 ⟨Nat.le_of_ble_eq_true rfl, Nat.le_of_ble_eq_true rfl⟩) ?_
  rw [pj_parent_n i hi]
  refine lv_istore_n (lv' := [(2, .int (nI (pa i))), (0, .ref a), (1, .int (nI i))]) F.1 F.2.1 d_TR_makeAllAbove_4 rfl hl (by decide) rfl (fun ls hl => ?_)
  refine lv_aload_n F.1 F.2.1 d_TR_makeAllAbove_5 rfl (lv_at hl 1 rfl) ?_
  refine x_get F hK hT rfl i_TR 0 (by decide) k80 rfl rfl d_TR_makeAllAbove_6 ?_
  refine lv_iload_n F.1 F.2.1 d_TR_makeAllAbove_9 rfl (lv_at hl 0 rfl) ?_
  refine x_cst F k79 d_TR_makeAllAbove_10 ?_
  refine x_lastN F hK hM (by decide) (by omega) hS rfl d_TR_makeAllAbove_13 (fun H1 locs hM hz1 ho1 hS => ?_)
  have hT := va_at.kept hT (ho1 _ hab)
  refine lv_aload_n F.1 F.2.1 d_TR_makeAllAbove_14 rfl (lv_at hl 1 rfl) ?_
  refine x_get F hK hT rfl i_TR 0 (by decide) k80 rfl rfl d_TR_makeAllAbove_15 ?_
  refine lv_iload_n F.1 F.2.1 d_TR_makeAllAbove_18 rfl (lv_at hl 0 rfl) ?_
  refine x_rd (x_S (n := 1) (As := [.int (nI (pa i))]) F (c_PA_parent l G (nI (pa i))) ok_PA_parent k230 ⟨Nat.le_of_ble_eq_true rfl, Nat.le_of_ble_eq_true rfl⟩ rfl rfl hK (trivial) rfl hl.1 rfl (Nat.le_of_ble_eq_true rfl) d_TR_makeAllAbove_19 ⟨Nat.le_of_ble_eq_true rfl, Nat.le_of_ble_eq_true rfl⟩) ?_
  rw [pj_parent_n _ h1]
  refine x_cst F k79 d_TR_makeAllAbove_22 ?_
  refine x_lastN F hK hM (by decide) (by omega) hS rfl d_TR_makeAllAbove_25 (fun H2 locs hM hz2 ho2 hS => ?_)
  have hT := va_at.kept hT (ho2 _ hab)
  exact hret _ _ _ _ _ _ d_TR_makeAllAbove_26 ⟨rfl, hM, hS.off⟩ hS.2.2 (Nat.le_refl _) (Nat.le_refl _)
/-- WRITE: none if refused -/
def tWrite (f : Nat → Int64) (i : Nat) (v : Int64) : Option (Nat → Int64) := if f i = wDIR ∨ (mo_file (f (pa i)) || mo_file (f (pa (pa i)))) = true then none else some (vp_updL (tAbove f i) i v)
/-- the marks behind a step that may be refused -/
def TO (G : x_G) (b : Nat) (f : Nat → Int64) (o : Option (Nat → Int64)) : Option Value → Heap → Heap → Prop := fun v H H1 => v = some (.int (x_b o.isSome)) ∧ x_al G b 125 (o.getD f) H1 ∧ x_off (fun q => q = b) H H1
theorem c_TR_writeFile (l : Launch) (G : x_G) (a b : Nat) (f : Nat → Int64) (i : Nat) (v : Int32) (hi : i < 125) : Met l y_TR_writeFile (x_ws y_TR_writeFile b_TR_writeFile 3 (some .boolean)) (x_rm 3 0 0) (x_P G [.ref a, .int (nI i), .int v] (TR G a b f)) (x_Q (TO G b f (tWrite f i v.toInt64))) 0 0 (fun q => q = b) := by
  refine x_wZ (by decide +kernel) (Nat.le_of_ble_eq_true rfl) (fun p e s m args below meth c F hK hP ls hl Q hret => ?_)
  have hl : lv_has ls 3 [(0, .ref a), (1, .int (nI i)), (2, .int v)] := hl
  obtain ⟨hT, hM, hab⟩ := id hP
  have hS : va_S (fun q => q = b) s.heap s.heap [] := va_S.rf
  refine lv_aload_n F.1 F.2.1 d_TR_writeFile_0 rfl (lv_at hl 0 rfl) ?_
  refine x_get F hK hT rfl i_TR 0 (by decide) k80 rfl rfl d_TR_writeFile_1 ?_
  refine lv_iload_n F.1 F.2.1 d_TR_writeFile_4 rfl (lv_at hl 1 rfl) ?_
  refine x_laldN F hK hM (by decide) (by omega) d_TR_writeFile_5 ?_
  refine x_cst F k79 d_TR_writeFile_6 ?_
  refine x_leq (tgt := 21) F d_TR_writeFile_9 d_TR_writeFile_10 (by decide) (fun c9 => ?_) (fun c9 => ?_)
  · refine lv_iconst (v := 0) F.1 F.2.1 d_TR_writeFile_21 (by decide) ?_
    exact hret _ _ _ false _ _ _ _ d_TR_writeFile_22 rfl (by unfold tWrite; rw [if_pos (Or.inl c9)]; exact ⟨rfl, hM, hS.off⟩) hS.2.2 (Nat.le_refl _) (Nat.le_refl _)
  · refine lv_aload_n F.1 F.2.1 d_TR_writeFile_13 rfl (lv_at hl 0 rfl) ?_
    refine lv_iload_n F.1 F.2.1 d_TR_writeFile_14 rfl (lv_at hl 1 rfl) ?_
    refine x_rd (x_V (n := 1) (As := [.int (nI i)]) F (c_TR_liesBelowFile l G a b f i hi) ok_TR_liesBelowFile k226 ⟨Nat.le_of_ble_eq_true rfl, Nat.le_of_ble_eq_true rfl⟩ rfl rfl hK (x_rcv hK hT rfl) (hP) rfl hl.1 rfl (Nat.le_of_ble_eq_true rfl) d_TR_writeFile_15 ⟨Nat.le_of_ble_eq_true rfl, Nat.le_of_ble_eq_true rfl⟩) ?_
    refine x_beq (tgt := 23) F d_TR_writeFile_18 (by decide) (fun c18 => ?_) (fun c18 => ?_)
    · refine lv_aload_n F.1 F.2.1 d_TR_writeFile_23 rfl (lv_at hl 0 rfl) ?_
      refine lv_iload_n F.1 F.2.1 d_TR_writeFile_24 rfl (lv_at hl 1 rfl) ?_
      refine x_wr (x_V (n := 1) (As := [.int (nI i)]) F (c_TR_makeAllAbove l G a b f i hi) ok_TR_makeAllAbove k240 ⟨Nat.le_of_ble_eq_true rfl, Nat.le_of_ble_eq_true rfl⟩ rfl rfl hK (x_rcv hK hT rfl) (hP) rfl hl.1 rfl (Nat.le_of_ble_eq_true rfl) d_TR_writeFile_25 ⟨Nat.le_of_ble_eq_true rfl, Nat.le_of_ble_eq_true rfl⟩) hS (fun _ h => h) (fun _ _ h => h.2.2) (fun v H3 locs hpost hS => ?_)
      obtain ⟨rfl, hM, ho⟩ := hpost
      have hT := x_keep hT ho hab
      refine lv_aload_n F.1 F.2.1 d_TR_writeFile_28 rfl (lv_at hl 0 rfl) ?_
      refine x_get F hK hT rfl i_TR 0 (by decide) k80 rfl rfl d_TR_writeFile_29 ?_
      refine lv_iload_n F.1 F.2.1 d_TR_writeFile_32 rfl (lv_at hl 1 rfl) ?_
      refine lv_iload_n F.1 F.2.1 d_TR_writeFile_33 rfl (lv_at hl 2 rfl) ?_
      refine lv_i2l (v := v.toInt64) F.1 F.2.1 d_TR_writeFile_34 rfl ?_
      refine x_lastN F hK hM (by decide) (by omega) hS rfl d_TR_writeFile_35 (fun H4 locs hM hz4 ho4 hS => ?_)
      have hT := va_at.kept hT (ho4 _ hab)
      refine lv_iconst (v := 1) F.1 F.2.1 d_TR_writeFile_36 (by decide) ?_
      exact hret _ _ _ true _ _ _ _ d_TR_writeFile_37 rfl (by unfold tWrite; rw [if_neg (by rintro (h | h); exact c9 h; rw [c18] at h; cases h)]; exact ⟨rfl, hM, hS.off⟩) hS.2.2 (Nat.le_refl _) (Nat.le_refl _)
    · refine lv_iconst (v := 0) F.1 F.2.1 d_TR_writeFile_21 (by decide) ?_
      exact hret _ _ _ false _ _ _ _ d_TR_writeFile_22 rfl (by unfold tWrite; rw [if_pos (Or.inr c18)]; exact ⟨rfl, hM, hS.off⟩) hS.2.2 (Nat.le_refl _) (Nat.le_refl _)
def tMake (f : Nat → Int64) (i : Nat) : Option (Nat → Int64) := if mo_file (f i) = true ∨ (mo_file (f (pa i)) || mo_file (f (pa (pa i)))) = true then none else some (vp_updL (tAbove f i) i wDIR)
theorem c_TR_makeDirectory (l : Launch) (G : x_G) (a b : Nat) (f : Nat → Int64) (i : Nat) (hi : i < 125) : Met l y_TR_makeDirectory (x_ws y_TR_makeDirectory b_TR_makeDirectory 2 (some .boolean)) (x_rm 3 0 0) (x_P G [.ref a, .int (nI i)] (TR G a b f)) (x_Q (TO G b f (tMake f i))) 0 0 (fun q => q = b) := by
  refine x_wZ (by decide +kernel) (Nat.le_of_ble_eq_true rfl) (fun p e s m args below meth c F hK hP ls hl Q hret => ?_)
  have hl : lv_has ls 2 [(0, .ref a), (1, .int (nI i))] := hl
  obtain ⟨hT, hM, hab⟩ := id hP
  have hS : va_S (fun q => q = b) s.heap s.heap [] := va_S.rf
  refine lv_aload_n F.1 F.2.1 d_TR_makeDirectory_0 rfl (lv_at hl 0 rfl) ?_
  refine lv_iload_n F.1 F.2.1 d_TR_makeDirectory_1 rfl (lv_at hl 1 rfl) ?_
  refine x_rd (x_V (n := 1) (As := [.int (nI i)]) F (c_TR_isFile l G a b f i hi) ok_TR_isFile k236 ⟨Nat.le_of_ble_eq_true rfl, Nat.le_of_ble_eq_true rfl⟩ rfl rfl hK (x_rcv hK hT rfl) (hP) rfl hl.1 rfl (Nat.le_of_ble_eq_true rfl) d_TR_makeDirectory_2 ⟨Nat.le_of_ble_eq_true rfl, Nat.le_of_ble_eq_true rfl⟩) ?_
  refine x_bne (tgt := 16) F d_TR_makeDirectory_5 (by decide) (fun c9 => ?_) (fun c9 => ?_)
  · refine lv_iconst (v := 0) F.1 F.2.1 d_TR_makeDirectory_16 (by decide) ?_
    exact hret _ _ _ false _ _ _ _ d_TR_makeDirectory_17 rfl (by unfold tMake; rw [if_pos (Or.inl c9)]; exact ⟨rfl, hM, hS.off⟩) hS.2.2 (Nat.le_refl _) (Nat.le_refl _)
  · refine lv_aload_n F.1 F.2.1 d_TR_makeDirectory_8 rfl (lv_at hl 0 rfl) ?_
    refine lv_iload_n F.1 F.2.1 d_TR_makeDirectory_9 rfl (lv_at hl 1 rfl) ?_
    refine x_rd (x_V (n := 1) (As := [.int (nI i)]) F (c_TR_liesBelowFile l G a b f i hi) ok_TR_liesBelowFile k226 ⟨Nat.le_of_ble_eq_true rfl, Nat.le_of_ble_eq_true rfl⟩ rfl rfl hK (x_rcv hK hT rfl) (hP) rfl hl.1 rfl (Nat.le_of_ble_eq_true rfl) d_TR_makeDirectory_10 ⟨Nat.le_of_ble_eq_true rfl, Nat.le_of_ble_eq_true rfl⟩) ?_
    refine x_beq (tgt := 18) F d_TR_makeDirectory_13 (by decide) (fun c18 => ?_) (fun c18 => ?_)
    · refine lv_aload_n F.1 F.2.1 d_TR_makeDirectory_18 rfl (lv_at hl 0 rfl) ?_
      refine lv_iload_n F.1 F.2.1 d_TR_makeDirectory_19 rfl (lv_at hl 1 rfl) ?_
      refine x_wr (x_V (n := 1) (As := [.int (nI i)]) F (c_TR_makeAllAbove l G a b f i hi) ok_TR_makeAllAbove k240 ⟨Nat.le_of_ble_eq_true rfl, Nat.le_of_ble_eq_true rfl⟩ rfl rfl hK (x_rcv hK hT rfl) (hP) rfl hl.1 rfl (Nat.le_of_ble_eq_true rfl) d_TR_makeDirectory_20 ⟨Nat.le_of_ble_eq_true rfl, Nat.le_of_ble_eq_true rfl⟩) hS (fun _ h => h) (fun _ _ h => h.2.2) (fun v H5 locs hpost hS => ?_)
      obtain ⟨rfl, hM, ho⟩ := hpost
      have hT := x_keep hT ho hab
      refine lv_aload_n F.1 F.2.1 d_TR_makeDirectory_23 rfl (lv_at hl 0 rfl) ?_
      refine x_get F hK hT rfl i_TR 0 (by decide) k80 rfl rfl d_TR_makeDirectory_24 ?_
      refine lv_iload_n F.1 F.2.1 d_TR_makeDirectory_27 rfl (lv_at hl 1 rfl) ?_
      refine x_cst F k79 d_TR_makeDirectory_28 ?_
      refine x_lastN F hK hM (by decide) (by omega) hS rfl d_TR_makeDirectory_31 (fun H6 locs hM hz6 ho6 hS => ?_)
      have hT := va_at.kept hT (ho6 _ hab)
      refine lv_iconst (v := 1) F.1 F.2.1 d_TR_makeDirectory_32 (by decide) ?_
      exact hret _ _ _ true _ _ _ _ d_TR_makeDirectory_33 rfl (by unfold tMake; rw [if_neg (by rintro (h | h); rw [c9] at h; cases h; rw [c18] at h; cases h)]; exact ⟨rfl, hM, hS.off⟩) hS.2.2 (Nat.le_refl _) (Nat.le_refl _)
    · refine lv_iconst (v := 0) F.1 F.2.1 d_TR_makeDirectory_16 (by decide) ?_
      exact hret _ _ _ false _ _ _ _ d_TR_makeDirectory_17 rfl (by unfold tMake; rw [if_pos (Or.inr c18)]; exact ⟨rfl, hM, hS.off⟩) hS.2.2 (Nat.le_refl _) (Nat.le_refl _)
/-- all from i on, n of them, become absent -/
def tWipe (f : Nat → Int64) (i n : Nat) : Nat → Int64 := fun q => if i ≤ q ∧ q < n then wABS else f q
def tRemove (f : Nat → Int64) (i : Nat) : Option (Nat → Int64) := if f i = wABS then none else some (tWipe f i (en i))
theorem tWipe_0 (f : Nat → Int64) (i : Nat) : tWipe f i i = f := funext fun q => if_neg (by omega)
theorem tWipe_s (f : Nat → Int64) {i k : Nat} (h : i ≤ k) : vp_updL (tWipe f i k) k wABS = tWipe f i (k + 1) := funext fun q => by
  unfold vp_updL tWipe
  by_cases h1 : q = k
  · rw [if_pos h1, if_pos (by omega)]
  · rw [if_neg h1]
    by_cases h2 : i ≤ q ∧ q < k
    · rw [if_pos h2, if_pos (by omega)]
    · rw [if_neg h2, if_neg (by omega)]
theorem c_TR_removeAll (l : Launch) (G : x_G) (a b : Nat) (f : Nat → Int64) (i : Nat) (hi : i < 125) (hg : lg i = true) : Met l y_TR_removeAll (x_ws y_TR_removeAll b_TR_removeAll 4 (some .boolean)) (x_rm 2 0 0) (x_P G [.ref a, .int (nI i)] (TR G a b f)) (x_Q (TO G b f (tRemove f i))) 0 0 (fun q => q = b) := by
  refine x_wZ (by decide +kernel) (Nat.le_of_ble_eq_true rfl) (fun p e s m args below meth c F hK hP ls hl Q hret => ?_)
  have hl : lv_has ls 4 [(0, .ref a), (1, .int (nI i))] := hl
  obtain ⟨hT, hM, hab⟩ := id hP
  have hS : va_S (fun q => q = b) s.heap s.heap [] := va_S.rf
  obtain ⟨he1, he2⟩ := en_le i hi hg
  have hT0 := hT
  have loop : f i ≠ wABS → ∀ (n k : Nat), k + n = en i → i ≤ k → ∀ (H : Heap) (locs : List Loc), x_al G b 125 (tWipe f i k) H → va_S (fun q => q = b) s.heap H locs → ∀ ls : Array Slot, lv_has ls 4 [(3, .int (nI k)), (2, .int (nI (en i))), (0, .ref a), (1, .int (nI i))] → W p l e (x_rm 2 0 0) s m args below meth c H locs 0 0 Q (F0 m 22 ls []) := by
    intro hne n
    induction n with
    | zero =>
      intro k hn hik H locs hM hS ls hl
      refine lv_iload_n F.1 F.2.1 d_TR_removeAll_22 rfl (lv_at hl 0 rfl) ?_
      refine lv_iload_n F.1 F.2.1 d_TR_removeAll_23 rfl (lv_at hl 1 rfl) ?_
      refine lv_icmp_ge (tgt := 42) F.1 F.2.1 d_TR_removeAll_24 (by decide) (fun _ => ?_) (fun zq => absurd (pN_le (a := (en i)) (b := k) rfl rfl (by omega) (by omega) (by omega)) zq)
      refine lv_iconst (v := 1) F.1 F.2.1 d_TR_removeAll_42 (by decide) ?_
      obtain rfl : k = en i := by omega
      exact hret _ _ _ true _ _ _ _ d_TR_removeAll_43 rfl (by unfold tRemove; rw [if_neg hne]; exact ⟨rfl, hM, hS.off⟩) hS.2.2 (Nat.le_refl _) (Nat.le_refl _)
    | succ n ih =>
      intro k hn hik H locs hM hS ls hl
      have hT := x_keep hT0 hS.off hab
      refine lv_iload_n F.1 F.2.1 d_TR_removeAll_22 rfl (lv_at hl 0 rfl) ?_
      refine lv_iload_n F.1 F.2.1 d_TR_removeAll_23 rfl (lv_at hl 1 rfl) ?_
      refine lv_icmp_ge (tgt := 42) F.1 F.2.1 d_TR_removeAll_24 (by decide) (fun zq => absurd zq (pN_nle (a := (en i)) (b := k) rfl rfl (by omega) (by omega) (by omega))) (fun _ => ?_)
      refine lv_aload_n F.1 F.2.1 d_TR_removeAll_27 rfl (lv_at hl 2 rfl) ?_
      refine x_get F hK hT rfl i_TR 0 (by decide) k80 rfl rfl d_TR_removeAll_28 ?_
      refine lv_iload_n F.1 F.2.1 d_TR_removeAll_31 rfl (lv_at hl 0 rfl) ?_
      refine x_cst F k75 d_TR_removeAll_32 ?_
      refine x_lastN F hK hM (by decide) (by omega) hS rfl d_TR_removeAll_35 (fun H7 locs hM hz7 ho7 hS => ?_)
      have hT := va_at.kept hT (ho7 _ hab)
      refine lv_iinc (v := (nI (k + 1))) (lv' := [(3, .int (nI (k + 1))), (2, .int (nI (en i))), (0, .ref a), (1, .int (nI i))]) F.1 F.2.1 d_TR_removeAll_36 hl (k := 0) rfl (nI_1 k) (by decide) rfl (fun ls hl => ?_)
      refine lv_goto (tgt := 22) F.1 F.2.1 d_TR_removeAll_39 (by decide) ?_
      exact ih (k + 1) (by omega) (by omega) _ _ (by rw [← tWipe_s f hik]; exact hM) hS ls hl
  refine lv_aload_n F.1 F.2.1 d_TR_removeAll_0 rfl (lv_at hl 0 rfl) ?_
  refine x_get F hK hT rfl i_TR 0 (by decide) k80 rfl rfl d_TR_removeAll_1 ?_
  refine lv_iload_n F.1 F.2.1 d_TR_removeAll_4 rfl (lv_at hl 1 rfl) ?_
  refine x_laldN F hK hM (by decide) (by omega) d_TR_removeAll_5 ?_
  refine x_cst F k75 d_TR_removeAll_6 ?_
  refine x_lne (tgt := 15) F d_TR_removeAll_9 d_TR_removeAll_10 (by decide) (fun c9 => ?_) (fun c9 => ?_)
  · refine lv_iload_n F.1 F.2.1 d_TR_removeAll_15 rfl (lv_at hl 1 rfl) ?_
    refine x_rd (x_S (n := 1) (As := [.int (nI i)]) F (c_PA_end l G (nI i)) ok_PA_end k252 ⟨Nat.le_of_ble_eq_true rfl, Nat.le_of_ble_eq_true rfl⟩ rfl rfl hK (trivial) rfl hl.1 rfl (Nat.le_of_ble_eq_true rfl) d_TR_removeAll_16 ⟨Nat.le_of_ble_eq_true rfl, Nat.le_of_ble_eq_true rfl⟩) ?_
    rw [pj_end_n i hi]
    refine lv_istore_n (lv' := [(2, .int (nI (en i))), (0, .ref a), (1, .int (nI i))]) F.1 F.2.1 d_TR_removeAll_19 rfl hl (by decide) rfl (fun ls hl => ?_)
    refine lv_iload_n F.1 F.2.1 d_TR_removeAll_20 rfl (lv_at hl 2 rfl) ?_
    refine lv_istore_n (lv' := [(3, .int (nI i)), (2, .int (nI (en i))), (0, .ref a), (1, .int (nI i))]) F.1 F.2.1 d_TR_removeAll_21 rfl hl (by decide) rfl (fun ls hl => ?_)
    exact loop c9 (en i - i) i (by omega) (Nat.le_refl _) _ _ (by rw [tWipe_0]; exact hM) hS ls hl
  · refine lv_iconst (v := 0) F.1 F.2.1 d_TR_removeAll_13 (by decide) ?_
    exact hret _ _ _ false _ _ _ _ d_TR_removeAll_14 rfl (by unfold tRemove; rw [if_pos c9]; exact ⟨rfl, hM, hS.off⟩) hS.2.2 (Nat.le_refl _) (Nat.le_refl _)

