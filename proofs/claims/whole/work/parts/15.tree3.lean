/-! ===== Tree: copying ===== -/
/-- only legal paths are there; what is above is a directory; the root is one -/
def tOk (f : Nat → Int64) : Prop := f 0 = wDIR ∧ ∀ i, 0 < i → i < 125 → f i ≠ wABS → lg i = true ∧ f (pa i) = wDIR
/-- where q came from when a was put at b -/
def uw (q a b : Nat) : Nat := a + (if nm a = nm b then q - b else if nm b = nm a + 1 then (q - b) * 5 else if nm b = nm a + 2 then (q - b) * 5 * 5 else if nm a = nm b + 1 then (q - b) / 5 else (q - b) / 5 / 5)
def wp_u : Bool := (List.range 125).all fun a => !lg a || (List.range 25).all fun k => !(decide (a + k < en a) && lg (a + k)) || (List.range 125).all fun b => !(lg b && decide (nm (a + k) + nm b ≤ 3 + nm a)) || (decide (b ≤ wp (a + k) a b) && decide (wp (a + k) a b < en b) && decide (uw (wp (a + k) a b) a b = a + k))
theorem wp_u_ok : wp_u = true := by decide +kernel
theorem wp_back {a b q : Nat} (ha : a < 125) (hb : b < 125) (la : lg a = true) (lb : lg b = true) (h1 : a ≤ q) (h2 : q < en a) (lq : lg q = true) (hn : nm q + nm b ≤ 3 + nm a) : b ≤ wp q a b ∧ wp q a b < en b ∧ uw (wp q a b) a b = q := by
  obtain ⟨k, rfl⟩ : ∃ k, q = a + k := ⟨q - a, by omega⟩
  have he : en a ≤ a + 25 := by unfold en; split <;> (try split) <;> omega
  have h := wp_u_ok
  unfold wp_u at h
  have h := List.all_eq_true.mp h a (List.mem_range.mpr ha)
  rw [la, Bool.not_true, Bool.false_or] at h
  have h := List.all_eq_true.mp h k (List.mem_range.mpr (by omega))
  rw [decide_eq_true h2, lq, Bool.and_true, Bool.not_true, Bool.false_or] at h
  have h := List.all_eq_true.mp h b (List.mem_range.mpr hb)
  rw [lb, decide_eq_true hn, Bool.and_true, Bool.not_true, Bool.false_or] at h
  simp only [Bool.and_eq_true, decide_eq_true_eq] at h
  exact ⟨h.1.1, h.1.2, h.2⟩
theorem nm_up : ∀ a, a < 125 → lg a = true → ∀ q, q < 125 → (decide (a ≤ q) && decide (q < en a) && lg q) = true → nm a ≤ nm q := by decide +kernel
theorem rg_apart : ∀ a, a < 125 → lg a = true → ∀ b, b < 125 → (lg b && !(decide (a ≤ b) && decide (b < en a)) && !(decide (b ≤ a) && decide (a < en b))) = true → en a ≤ b ∨ en b ≤ a := by decide +kernel
theorem rg_up : ∀ a, a < 125 → lg a = true → ∀ b, b < 125 → (lg b && decide (b < a) && decide (a < en b)) = true → b = pa a ∨ (b = pa (pa a) ∧ 0 < pa a) := by decide +kernel
theorem tOk.up {f : Nat → Int64} (h : tOk f) {a b : Nat} (ha : a < 125) (hb : b < 125) (la : lg a = true) (lb : lg b = true) (h1 : b < a) (h2 : a < en b) (hf : f a ≠ wABS) : f b = wDIR := by
  have a0 : 0 < a := by omega
  have k1 := (h.2 a a0 ha hf).2
  rcases rg_up a ha la b hb (by rw [lb, decide_eq_true h1, decide_eq_true h2]; rfl) with rfl | ⟨rfl, h3⟩
  · exact k1
  · exact (h.2 (pa a) h3 (pa_lt a ha) (by rw [k1]; decide)).2
def fitB (f : Nat → Int64) (a b : Nat) : Bool := (List.range 125).all fun i => !(decide (a ≤ i ∧ i < en a) && !decide (f i = wABS)) || decide (nm i + nm b ≤ 3 + nm a)
theorem fitB_iff {f : Nat → Int64} {a b : Nat} (he : en a ≤ 125) : fitB f a b = true ↔ ∀ i, a ≤ i → i < en a → f i ≠ wABS → nm i + nm b ≤ 3 + nm a := by
  unfold fitB
  rw [List.all_eq_true]
  constructor
  · intro h i h1 h2 h3
    have k := h i (List.mem_range.mpr (by omega))
    rw [decide_eq_true ⟨h1, h2⟩, decide_eq_false h3, Bool.not_false, Bool.and_true, Bool.not_true, Bool.false_or] at k
    exact of_decide_eq_true k
  · intro h i hi
    by_cases h1 : a ≤ i ∧ i < en a
    · by_cases h2 : f i = wABS
      · rw [decide_eq_true h2, Bool.not_true, Bool.and_false]; rfl
      · rw [decide_eq_true (h i h1.1 h1.2 h2), Bool.or_true]
    · rw [decide_eq_false h1]; rfl
theorem fitB_f {f : Nat → Int64} {a b i : Nat} (he : en a ≤ 125) (h1 : a ≤ i) (h2 : i < en a) (h3 : f i ≠ wABS) (h : ¬ nm i + nm b ≤ 3 + nm a) : fitB f a b = false := by
  cases hh : fitB f a b with
  | false => rfl
  | true => exact absurd ((fitB_iff he).mp hh i h1 h2 h3) h
theorem c_TR_fitsAt (l : Launch) (G : x_G) (a b : Nat) (f : Nat → Int64) (i j : Nat) (hi : i < 125) (hj : j < 125) (li : lg i = true) (hf : tOk f) : Met l y_TR_fitsAt (x_ws y_TR_fitsAt b_TR_fitsAt 5 (some .boolean)) (x_rm 2 0 0) (x_P G [.ref a, .int (nI i), .int (nI j)] (TR G a b f)) (k2_QcV (.int (x_b (fitB f i j)))) 0 0 (fun _ => False) := by
  refine x_mZ (by decide +kernel) (Nat.le_of_ble_eq_true rfl) (fun p e s m args below meth c F hK hP ls hl Q hret => ?_)
  have hl : lv_has ls 5 [(0, .ref a), (1, .int (nI i)), (2, .int (nI j))] := hl
  obtain ⟨hT, hM, hab⟩ := hP
  obtain ⟨he1, he2⟩ := en_le i hi li
  have loop : ∀ (n k : Nat), k + n = en i → i ≤ k → (∀ q, i ≤ q → q < k → f q ≠ wABS → nm q + nm j ≤ 3 + nm i) → ∀ ls : Array Slot, lv_has ls 5 [(4, .int (nI k)), (3, .int (nI (en i))), (0, .ref a), (1, .int (nI i)), (2, .int (nI j))] → W p l e (x_rm 2 0 0) s m args below meth c s.heap [] 0 0 Q (F0 m 8 ls []) := by
    intro n
    induction n with
    | zero =>
      intro k hn hik hq ls hl
      refine lv_iload F.1 F.2.1 d_TR_fitsAt_8 (lv_at hl 0 rfl) ?_
      refine lv_iload_n F.1 F.2.1 d_TR_fitsAt_10 rfl (lv_at hl 1 rfl) ?_
      refine lv_icmp_ge (tgt := 47) F.1 F.2.1 d_TR_fitsAt_11 (by decide) (fun _ => ?_) (fun zq => absurd (pN_le (a := (en i)) (b := k) rfl rfl (by omega) (by omega) (by omega)) zq)
      refine lv_iconst (v := 1) F.1 F.2.1 d_TR_fitsAt_47 (by decide) ?_
      exact hret _ _ _ d_TR_fitsAt_48 (by rw [(fitB_iff he2).mpr (fun q h1 h2 h3 => hq q h1 (by omega) h3)]; rfl)
    | succ n ih =>
      intro k hn hik hq ls hl
      refine lv_iload F.1 F.2.1 d_TR_fitsAt_8 (lv_at hl 0 rfl) ?_
      refine lv_iload_n F.1 F.2.1 d_TR_fitsAt_10 rfl (lv_at hl 1 rfl) ?_
      refine lv_icmp_ge (tgt := 47) F.1 F.2.1 d_TR_fitsAt_11 (by decide) (fun zq => absurd zq (pN_nle (a := (en i)) (b := k) rfl rfl (by omega) (by omega) (by omega))) (fun _ => ?_)
      refine lv_aload_n F.1 F.2.1 d_TR_fitsAt_14 rfl (lv_at hl 2 rfl) ?_
      refine x_get F hK hT rfl i_TR 0 (by decide) k80 rfl rfl d_TR_fitsAt_15 ?_
      refine lv_iload F.1 F.2.1 d_TR_fitsAt_18 (lv_at hl 0 rfl) ?_
      refine x_laldN F hK hM (by decide) (by omega) d_TR_fitsAt_20 ?_
      refine x_cst F k75 d_TR_fitsAt_21 ?_
      refine x_leq (tgt := 41) F d_TR_fitsAt_24 d_TR_fitsAt_25 (by decide) (fun c24 => ?_) (fun c24 => ?_)
      · refine lv_iinc (v := (nI (k + 1))) (lv' := [(4, .int (nI (k + 1))), (3, .int (nI (en i))), (0, .ref a), (1, .int (nI i)), (2, .int (nI j))]) F.1 F.2.1 d_TR_fitsAt_41 hl (k := 0) rfl (nI_1 k) (by decide) rfl (fun ls hl => ?_)
        refine lv_goto (tgt := 8) F.1 F.2.1 d_TR_fitsAt_44 (by decide) ?_
        exact ih (k + 1) (by omega) (by omega) (fun q h1 h2 h3 => by rcases Nat.lt_succ_iff_lt_or_eq.mp h2 with h | rfl; exact hq q h1 h h3; exact absurd c24 h3) ls hl
      · have lk := (hf.2 k (by have := lg_nm i hi li; have : 25 ≤ i := by (have h := li; unfold lg at h; simp at h; omega)
                               omega) (by omega) c24).1
        refine lv_iload F.1 F.2.1 d_TR_fitsAt_28 (lv_at hl 0 rfl) ?_
        refine lv_iload_n F.1 F.2.1 d_TR_fitsAt_30 rfl (lv_at hl 3 rfl) ?_
        refine lv_iload_n F.1 F.2.1 d_TR_fitsAt_31 rfl (lv_at hl 4 rfl) ?_
        refine x_rd (x_S (n := 3) (As := [.int (nI k), .int (nI i), .int (nI j)]) F (c_PA_namesWhenPut l G (nI k) (nI i) (nI j)) ok_PA_namesWhenPut k267 ⟨Nat.le_of_ble_eq_true rfl, Nat.le_of_ble_eq_true rfl⟩ rfl rfl hK (trivial) rfl hl.1 rfl (Nat.le_of_ble_eq_true rfl) d_TR_fitsAt_32 ⟨Nat.le_of_ble_eq_true rfl, Nat.le_of_ble_eq_true rfl⟩) ?_
        have hu := nm_up i hi li k (by omega) (by rw [decide_eq_true hik, decide_eq_true (show k < en i by omega), lk]; rfl)
        have hk4 := nm_lt k
        have hj4 := nm_lt j
        rw [pj_names_n k (by omega), pj_names_n i hi, pj_names_n j hj, pk_sub hu, nI_add]
        refine lv_iconst (v := 3) F.1 F.2.1 d_TR_fitsAt_35 (by decide) ?_
        refine lv_icmp_le (tgt := 41) F.1 F.2.1 d_TR_fitsAt_36 (by decide) (fun c36 => ?_) (fun c36 => ?_)
        · have c36 := (pN_leI (a := (nm k - nm i + nm j)) (b := 3) rfl rfl (by omega) (by omega)).mp c36
          refine lv_iinc (v := (nI (k + 1))) (lv' := [(4, .int (nI (k + 1))), (3, .int (nI (en i))), (0, .ref a), (1, .int (nI i)), (2, .int (nI j))]) F.1 F.2.1 d_TR_fitsAt_41 hl (k := 0) rfl (nI_1 k) (by decide) rfl (fun ls hl => ?_)
          refine lv_goto (tgt := 8) F.1 F.2.1 d_TR_fitsAt_44 (by decide) ?_
          exact ih (k + 1) (by omega) (by omega) (fun q h1 h2 h3 => by rcases Nat.lt_succ_iff_lt_or_eq.mp h2 with h | rfl; exact hq q h1 h h3; omega) ls hl
        · have c36 := mt (pN_leI (a := (nm k - nm i + nm j)) (b := 3) rfl rfl (by omega) (by omega)).mpr c36
          refine lv_iconst (v := 0) F.1 F.2.1 d_TR_fitsAt_39 (by decide) ?_
          exact hret _ _ _ d_TR_fitsAt_40 (by rw [fitB_f he2 hik (by omega) c24 (by omega)]; rfl)
  refine lv_iload_n F.1 F.2.1 d_TR_fitsAt_0 rfl (lv_at hl 1 rfl) ?_
  refine x_rd (x_S (n := 1) (As := [.int (nI i)]) F (c_PA_end l G (nI i)) ok_PA_end k252 ⟨Nat.le_of_ble_eq_true rfl, Nat.le_of_ble_eq_true rfl⟩ rfl rfl hK (trivial) rfl hl.1 rfl (Nat.le_of_ble_eq_true rfl) d_TR_fitsAt_1 ⟨Nat.le_of_ble_eq_true rfl, Nat.le_of_ble_eq_true rfl⟩) ?_
  rw [pj_end_n i hi]
  refine lv_istore_n (lv' := [(3, .int (nI (en i))), (0, .ref a), (1, .int (nI i)), (2, .int (nI j))]) F.1 F.2.1 d_TR_fitsAt_4 rfl hl (by decide) rfl (fun ls hl => ?_)
  refine lv_iload_n F.1 F.2.1 d_TR_fitsAt_5 rfl (lv_at hl 2 rfl) ?_
  refine lv_istore (lv' := [(4, .int (nI i)), (3, .int (nI (en i))), (0, .ref a), (1, .int (nI i)), (2, .int (nI j))]) F.1 F.2.1 d_TR_fitsAt_6 hl (by decide) rfl (fun ls hl => ?_)
  exact loop (en i - i) i (by omega) (Nat.le_refl _) (fun q h1 h2 => by omega) ls hl
/-- COPY's refusals, both paths legal -/
def mayB (f : Nat → Int64) (a b : Nat) : Bool := !decide (f a = wABS) && decide (f b = wABS) && !decide (a ≤ b ∧ b < en a) && decide (f (pa b) = wDIR) && fitB f a b
theorem c_TR_mayCopy (l : Launch) (G : x_G) (a b : Nat) (f : Nat → Int64) (i j : Nat) (hi : i < 125) (hj : j < 125) (li : lg i = true) (lj : lg j = true) (hf : tOk f) : Met l y_TR_mayCopy (x_ws y_TR_mayCopy b_TR_mayCopy 4 (some .boolean)) (x_rm 3 0 0) (x_P G [.ref a, .int (nI i), .int (nI j)] (TR G a b f)) (k2_QcV (.int (x_b (mayB f i j)))) 0 0 (fun _ => False) := by
  refine x_mZ (by decide +kernel) (Nat.le_of_ble_eq_true rfl) (fun p e s m args below meth c F hK hP ls hl Q hret => ?_)
  have hl : lv_has ls 4 [(0, .ref a), (1, .int (nI i)), (2, .int (nI j))] := hl
  obtain ⟨hT, hM, hab⟩ := id hP
  obtain ⟨he1, he2⟩ := en_le i hi li
  have hpj := pa_lt j hj
  have k54 : ∀ (w : Bool) (ls : Array Slot), lv_has ls 4 [(3, .int (x_b w)), (0, .ref a), (1, .int (nI i)), (2, .int (nI j))] → w = decide (i ≤ j ∧ j < en i) → f i ≠ wABS → f j = wABS → W p l e (x_rm 3 0 0) s m args below meth c s.heap [] 0 0 Q (F0 m 54 ls []) := by
    intro w ls hl hw c17 c30
    refine lv_iload_n F.1 F.2.1 d_TR_mayCopy_54 rfl (lv_at hl 0 rfl) ?_
    refine x_bne (tgt := 87) F d_TR_mayCopy_55 (by decide) (fun c55 => ?_) (fun c55 => ?_)
    · refine lv_iconst (v := 0) F.1 F.2.1 d_TR_mayCopy_87 (by decide) ?_
      exact hret _ _ _ d_TR_mayCopy_88 (by unfold mayB; rw [← hw, c55]; simp [x_b])
    · refine lv_aload_n F.1 F.2.1 d_TR_mayCopy_58 rfl (lv_at hl 1 rfl) ?_
      refine x_get F hK hT rfl i_TR 0 (by decide) k80 rfl rfl d_TR_mayCopy_59 ?_
      refine lv_iload_n F.1 F.2.1 d_TR_mayCopy_62 rfl (lv_at hl 3 rfl) ?_
      refine x_rd (x_S (n := 1) (As := [.int (nI j)]) F (c_PA_parent l G (nI j)) ok_PA_parent k230 ⟨Nat.le_of_ble_eq_true rfl, Nat.le_of_ble_eq_true rfl⟩ rfl rfl hK (trivial) rfl hl.1 rfl (Nat.le_of_ble_eq_true rfl) d_TR_mayCopy_63 ⟨Nat.le_of_ble_eq_true rfl, Nat.le_of_ble_eq_true rfl⟩) ?_
      rw [pj_parent_n j hj]
      refine x_laldN F hK hM (by decide) (by omega) d_TR_mayCopy_66 ?_
      refine x_cst F k79 d_TR_mayCopy_67 ?_
      refine x_lne (tgt := 87) F d_TR_mayCopy_70 d_TR_mayCopy_71 (by decide) (fun c70 => ?_) (fun c70 => ?_)
      · refine lv_iconst (v := 0) F.1 F.2.1 d_TR_mayCopy_87 (by decide) ?_
        exact hret _ _ _ d_TR_mayCopy_88 (by unfold mayB; rw [decide_eq_false c70]; simp [x_b])
      · refine lv_aload_n F.1 F.2.1 d_TR_mayCopy_74 rfl (lv_at hl 1 rfl) ?_
        refine lv_iload_n F.1 F.2.1 d_TR_mayCopy_75 rfl (lv_at hl 2 rfl) ?_
        refine lv_iload_n F.1 F.2.1 d_TR_mayCopy_76 rfl (lv_at hl 3 rfl) ?_
        refine x_rd (x_V (n := 2) (As := [.int (nI i), .int (nI j)]) F (c_TR_fitsAt l G a b f i j hi hj li hf) ok_TR_fitsAt k263 ⟨Nat.le_of_ble_eq_true rfl, Nat.le_of_ble_eq_true rfl⟩ rfl rfl hK (x_rcv hK hT rfl) (hP) rfl hl.1 rfl (Nat.le_of_ble_eq_true rfl) d_TR_mayCopy_77 ⟨Nat.le_of_ble_eq_true rfl, Nat.le_of_ble_eq_true rfl⟩) ?_
        refine x_beq (tgt := 87) F d_TR_mayCopy_80 (by decide) (fun c80 => ?_) (fun c80 => ?_)
        · refine lv_iconst (v := 0) F.1 F.2.1 d_TR_mayCopy_87 (by decide) ?_
          exact hret _ _ _ d_TR_mayCopy_88 (by unfold mayB; rw [c80]; simp [x_b])
        · refine lv_iconst (v := 1) F.1 F.2.1 d_TR_mayCopy_83 (by decide) ?_
          refine lv_goto (tgt := 88) F.1 F.2.1 d_TR_mayCopy_84 (by decide) ?_
          exact hret _ _ _ d_TR_mayCopy_88 (by unfold mayB; rw [← hw, c55, c80, decide_eq_true c70, decide_eq_true c30, decide_eq_false c17]; rfl)
  refine lv_iload_n F.1 F.2.1 d_TR_mayCopy_0 rfl (lv_at hl 2 rfl) ?_
  refine x_rd (x_S (n := 1) (As := [.int (nI j)]) F (c_PA_isLegal l G (nI j)) ok_PA_isLegal k219 ⟨Nat.le_of_ble_eq_true rfl, Nat.le_of_ble_eq_true rfl⟩ rfl rfl hK (trivial) rfl hl.1 rfl (Nat.le_of_ble_eq_true rfl) d_TR_mayCopy_1 ⟨Nat.le_of_ble_eq_true rfl, Nat.le_of_ble_eq_true rfl⟩) ?_
  rw [pj_legal_n j hj, lj]
  refine x_beq (tgt := 33) F d_TR_mayCopy_4 (by decide) (fun zq => absurd zq ((by decide))) (fun _ => ?_)
  refine lv_aload_n F.1 F.2.1 d_TR_mayCopy_7 rfl (lv_at hl 0 rfl) ?_
  refine x_get F hK hT rfl i_TR 0 (by decide) k80 rfl rfl d_TR_mayCopy_8 ?_
  refine lv_iload_n F.1 F.2.1 d_TR_mayCopy_11 rfl (lv_at hl 1 rfl) ?_
  refine x_laldN F hK hM (by decide) (by omega) d_TR_mayCopy_12 ?_
  refine x_cst F k75 d_TR_mayCopy_13 ?_
  refine x_leq (tgt := 33) F d_TR_mayCopy_16 d_TR_mayCopy_17 (by decide) (fun c17 => ?_) (fun c17 => ?_)
  · refine lv_iconst (v := 0) F.1 F.2.1 d_TR_mayCopy_33 (by decide) ?_
    exact hret _ _ _ d_TR_mayCopy_34 (by unfold mayB; rw [decide_eq_true c17]; simp [x_b])
  · refine lv_aload_n F.1 F.2.1 d_TR_mayCopy_20 rfl (lv_at hl 0 rfl) ?_
    refine x_get F hK hT rfl i_TR 0 (by decide) k80 rfl rfl d_TR_mayCopy_21 ?_
    refine lv_iload_n F.1 F.2.1 d_TR_mayCopy_24 rfl (lv_at hl 2 rfl) ?_
    refine x_laldN F hK hM (by decide) (by omega) d_TR_mayCopy_25 ?_
    refine x_cst F k75 d_TR_mayCopy_26 ?_
    refine x_leq (tgt := 35) F d_TR_mayCopy_29 d_TR_mayCopy_30 (by decide) (fun c30 => ?_) (fun c30 => ?_)
    · refine lv_iload_n F.1 F.2.1 d_TR_mayCopy_35 rfl (lv_at hl 2 rfl) ?_
      refine lv_iload_n F.1 F.2.1 d_TR_mayCopy_36 rfl (lv_at hl 1 rfl) ?_
      refine lv_icmp_lt (tgt := 52) F.1 F.2.1 d_TR_mayCopy_37 (by decide) (fun c37 => ?_) (fun c37 => ?_)
      · have c37 := (pN_ltI (a := j) (b := i) rfl rfl (by omega) (by omega)).mp c37
        refine lv_iconst (v := 0) F.1 F.2.1 d_TR_mayCopy_52 (by decide) ?_
        refine lv_istore_n (lv' := [(3, .int 0), (0, .ref a), (1, .int (nI i)), (2, .int (nI j))]) F.1 F.2.1 d_TR_mayCopy_53 rfl hl (by decide) rfl (fun ls hl => ?_)
        exact k54 false ls hl (by rw [decide_eq_false (by omega)]) c17 c30
      · have c37 := mt (pN_ltI (a := j) (b := i) rfl rfl (by omega) (by omega)).mpr c37
        refine lv_iload_n F.1 F.2.1 d_TR_mayCopy_40 rfl (lv_at hl 2 rfl) ?_
        refine lv_iload_n F.1 F.2.1 d_TR_mayCopy_41 rfl (lv_at hl 1 rfl) ?_
        refine x_rd (x_S (n := 1) (As := [.int (nI i)]) F (c_PA_end l G (nI i)) ok_PA_end k252 ⟨Nat.le_of_ble_eq_true rfl, Nat.le_of_ble_eq_true rfl⟩ rfl rfl hK (trivial) rfl hl.1 rfl (Nat.le_of_ble_eq_true rfl) d_TR_mayCopy_42 ⟨Nat.le_of_ble_eq_true rfl, Nat.le_of_ble_eq_true rfl⟩) ?_
        rw [pj_end_n i hi]
        refine lv_icmp_ge (tgt := 52) F.1 F.2.1 d_TR_mayCopy_45 (by decide) (fun c45 => ?_) (fun c45 => ?_)
        · have c45 := (pN_leI (a := (en i)) (b := j) rfl rfl (by omega) (by omega)).mp c45
          refine lv_iconst (v := 0) F.1 F.2.1 d_TR_mayCopy_52 (by decide) ?_
          refine lv_istore_n (lv' := [(3, .int 0), (0, .ref a), (1, .int (nI i)), (2, .int (nI j))]) F.1 F.2.1 d_TR_mayCopy_53 rfl hl (by decide) rfl (fun ls hl => ?_)
          exact k54 false ls hl (by rw [decide_eq_false (by omega)]) c17 c30
        · have c45 := mt (pN_leI (a := (en i)) (b := j) rfl rfl (by omega) (by omega)).mpr c45
          refine lv_iconst (v := 1) F.1 F.2.1 d_TR_mayCopy_48 (by decide) ?_
          refine lv_goto (tgt := 53) F.1 F.2.1 d_TR_mayCopy_49 (by decide) ?_
          refine lv_istore_n (lv' := [(3, .int 1), (0, .ref a), (1, .int (nI i)), (2, .int (nI j))]) F.1 F.2.1 d_TR_mayCopy_53 rfl hl (by decide) rfl (fun ls hl => ?_)
          exact k54 true ls hl (by rw [decide_eq_true (by omega)]) c17 c30
    · refine lv_iconst (v := 0) F.1 F.2.1 d_TR_mayCopy_33 (by decide) ?_
      exact hret _ _ _ d_TR_mayCopy_34 (by unfold mayB; rw [decide_eq_false c30]; simp [x_b])

