/-! ===== Tree: copyAll, change ===== -/
def tCp (f : Nat → Int64) (a b k : Nat) : Nat → Int64 := fun q => if a ≤ uw q a b ∧ uw q a b < k ∧ wp (uw q a b) a b = q ∧ b ≤ q ∧ f (uw q a b) ≠ wABS then f (uw q a b) else f q
/-- what a copy of a to b needs -/
def cpOk (f : Nat → Int64) (a b : Nat) : Prop := a < 125 ∧ b < 125 ∧ lg a = true ∧ lg b = true ∧ (en a ≤ b ∨ en b ≤ a) ∧ (∀ q, a ≤ q → q < en a → f q ≠ wABS → lg q = true ∧ nm q + nm b ≤ 3 + nm a)
theorem tCp_0 (f : Nat → Int64) (a b : Nat) : tCp f a b a = f := funext fun q => if_neg (by omega)
theorem tCp_s {f : Nat → Int64} {a b k : Nat} (h : cpOk f a b) (h1 : a ≤ k) (h2 : k < en a) (h3 : f k ≠ wABS) : vp_updL (tCp f a b k) (wp k a b) (f k) = tCp f a b (k + 1) := funext fun q => by
  obtain ⟨ha, hb, la, lb, hd, hq⟩ := h
  obtain ⟨b1, b2, b3⟩ := wp_back ha hb la lb h1 h2 (hq k h1 h2 h3).1 (hq k h1 h2 h3).2
  unfold vp_updL tCp
  by_cases e : q = wp k a b
  · subst e
    rw [if_pos rfl, b3, if_pos ⟨h1, by omega, rfl, b1, h3⟩]
  · rw [if_neg e]
    by_cases e2 : uw q a b = k
    · rw [if_neg (by omega), if_neg (fun z => e (by rw [← z.2.2.1, e2]))]
    · by_cases e3 : a ≤ uw q a b ∧ uw q a b < k ∧ wp (uw q a b) a b = q ∧ b ≤ q ∧ f (uw q a b) ≠ wABS
      · rw [if_pos e3, if_pos ⟨e3.1, by omega, e3.2.2⟩]
      · rw [if_neg e3, if_neg (fun z => e3 ⟨z.1, by omega, z.2.2⟩)]
theorem tCp_n {f : Nat → Int64} {a b k : Nat} (h3 : f k = wABS) : tCp f a b k = tCp f a b (k + 1) := funext fun q => by
  unfold tCp
  by_cases e3 : a ≤ uw q a b ∧ uw q a b < k ∧ wp (uw q a b) a b = q ∧ b ≤ q ∧ f (uw q a b) ≠ wABS
  · rw [if_pos e3, if_pos ⟨e3.1, by omega, e3.2.2⟩]
  · rw [if_neg e3, if_neg (fun z => e3 ⟨z.1, (by
      rcases Nat.lt_or_ge (uw q a b) k with h | h
      · exact h
      · exact absurd (by rw [show uw q a b = k by omega]; exact h3) z.2.2.2.2), z.2.2⟩)]
theorem tCp_src {f : Nat → Int64} {a b k q : Nat} (h : cpOk f a b) (hk : k ≤ en a) (h1 : a ≤ q) (h2 : q < en a) : tCp f a b k q = f q := by
  obtain ⟨ha, hb, la, lb, hd, hq⟩ := h
  unfold tCp
  refine if_neg (fun z => ?_)
  obtain ⟨z1, z2, z3, z4, z5⟩ := z
  obtain ⟨b1, b2, b3⟩ := wp_back ha hb la lb z1 (by omega) (hq _ z1 (by omega) z5).1 (hq _ z1 (by omega) z5).2
  omega
theorem lg_25 {p : Nat} (h : lg p = true) : 25 ≤ p ∧ p < 125 := by
  unfold lg at h
  simp only [Bool.and_eq_true, decide_eq_true_eq] at h
  exact h.1
theorem mayB_ok {f : Nat → Int64} {a b : Nat} (hf : tOk f) (la : lg a = true) (lb : lg b = true) (h : mayB f a b = true) : f a ≠ wABS ∧ f b = wABS ∧ f (pa b) = wDIR ∧ cpOk f a b := by
  unfold mayB at h
  simp only [Bool.and_eq_true, Bool.not_eq_true', decide_eq_true_eq, decide_eq_false_iff_not] at h
  obtain ⟨⟨⟨⟨h1, h2⟩, h3⟩, h4⟩, h5⟩ := h
  have ha := (lg_25 la)
  have hb := (lg_25 lb)
  obtain ⟨e1, e2⟩ := en_le a ha.2 la
  obtain ⟨e3, e4⟩ := en_le b hb.2 lb
  refine ⟨h1, h2, h4, ha.2, hb.2, la, lb, ?_, fun q q1 q2 q3 => ⟨(hf.2 q (by omega) (by omega) q3).1, (fitB_iff e2).mp h5 q q1 q2 q3⟩⟩
  refine rg_apart a ha.2 la b hb.2 ?_
  rw [lb, Bool.true_and]
  have k1 : (decide (a ≤ b) && decide (b < en a)) = false := by
    cases hh : (decide (a ≤ b) && decide (b < en a)) with
    | false => rfl
    | true => simp only [Bool.and_eq_true, decide_eq_true_eq] at hh; exact absurd hh h3
  have k2 : (decide (b ≤ a) && decide (a < en b)) = false := by
    cases hh : (decide (b ≤ a) && decide (a < en b)) with
    | false => rfl
    | true =>
      simp only [Bool.and_eq_true, decide_eq_true_eq] at hh
      rcases Nat.lt_or_ge b a with q | q
      · have := hf.up ha.2 hb.2 la lb q hh.2 h1
        rw [h2] at this
        exact absurd this (by decide)
      · exact absurd ⟨q, by omega⟩ h3
  rw [k1, k2]; rfl
def tCopy (f : Nat → Int64) (a b : Nat) : Option (Nat → Int64) := if mayB f a b = true then some (tCp f a b (en a)) else none
theorem nm_diff (i j : Nat) (h1 : 1 ≤ nm i) (h2 : 1 ≤ nm j) : nI (nm j) - nI (nm i) = 0 ∨ nI (nm j) - nI (nm i) = 1 ∨ nI (nm j) - nI (nm i) = 2 ∨ nI (nm j) - nI (nm i) = -1 ∨ nI (nm j) - nI (nm i) = -2 := by
  have a := nm_lt i
  have b := nm_lt j
  generalize nm i = x at h1 a ⊢
  generalize nm j = y at h2 b ⊢
  have hx : x = 1 ∨ x = 2 ∨ x = 3 := by omega
  have hy : y = 1 ∨ y = 2 ∨ y = 3 := by omega
  rcases hx with rfl | rfl | rfl <;> rcases hy with rfl | rfl | rfl <;> decide +kernel
theorem c_TR_copyAll (l : Launch) (G : x_G) (a b : Nat) (f : Nat → Int64) (i j : Nat) (hi : i < 125) (hj : j < 125) (li : lg i = true) (lj : lg j = true) (hf : tOk f) : Met l y_TR_copyAll (x_ws y_TR_copyAll b_TR_copyAll 5 (some .boolean)) (x_rm 4 0 0) (x_P G [.ref a, .int (nI i), .int (nI j)] (TR G a b f)) (x_Q (TO G b f (tCopy f i j))) 0 0 (fun q => q = b) := by
  refine x_wZ (by decide +kernel) (Nat.le_of_ble_eq_true rfl) (fun p e s m args below meth c F hK hP ls hl Q hret => ?_)
  have hl : lv_has ls 5 [(0, .ref a), (1, .int (nI i)), (2, .int (nI j))] := hl
  obtain ⟨hT, hM, hab⟩ := id hP
  have hS : va_S (fun q => q = b) s.heap s.heap [] := va_S.rf
  obtain ⟨he1, he2⟩ := en_le i hi li
  have h25 := lg_25 li
  have hT0 := hT
  have loop : mayB f i j = true → ∀ (n k : Nat), k + n = en i → i ≤ k → ∀ (H : Heap) (locs : List Loc), x_al G b 125 (tCp f i j k) H → va_S (fun q => q = b) s.heap H locs → ∀ ls : Array Slot, lv_has ls 5 [(4, .int (nI k)), (3, .int (nI (en i))), (0, .ref a), (1, .int (nI i)), (2, .int (nI j))] → W p l e (x_rm 4 0 0) s m args below meth c H locs 0 0 Q (F0 m 19 ls []) := by
    intro hmay n
    obtain ⟨hfi, hfj, hpj, hco⟩ := mayB_ok hf li lj hmay
    induction n with
    | zero =>
      intro k hn hik H locs hM hS ls hl
      refine lv_iload F.1 F.2.1 d_TR_copyAll_19 (lv_at hl 0 rfl) ?_
      refine lv_iload_n F.1 F.2.1 d_TR_copyAll_21 rfl (lv_at hl 1 rfl) ?_
      refine lv_icmp_ge (tgt := 64) F.1 F.2.1 d_TR_copyAll_22 (by decide) (fun _ => ?_) (fun zq => absurd (pN_le (a := (en i)) (b := k) rfl rfl (by omega) (by omega) (by omega)) zq)
      refine lv_iconst (v := 1) F.1 F.2.1 d_TR_copyAll_64 (by decide) ?_
      obtain rfl : k = en i := by omega
      exact hret _ _ _ true _ _ _ _ d_TR_copyAll_65 rfl (by unfold tCopy; rw [if_pos hmay]; exact ⟨rfl, hM, hS.off⟩) hS.2.2 (Nat.le_refl _) (Nat.le_refl _)
    | succ n ih =>
      intro k hn hik H locs hM hS ls hl
      have hT := x_keep hT0 hS.off hab
      refine lv_iload F.1 F.2.1 d_TR_copyAll_19 (lv_at hl 0 rfl) ?_
      refine lv_iload_n F.1 F.2.1 d_TR_copyAll_21 rfl (lv_at hl 1 rfl) ?_
      refine lv_icmp_ge (tgt := 64) F.1 F.2.1 d_TR_copyAll_22 (by decide) (fun zq => absurd zq (pN_nle (a := (en i)) (b := k) rfl rfl (by omega) (by omega) (by omega))) (fun _ => ?_)
      refine lv_aload_n F.1 F.2.1 d_TR_copyAll_25 rfl (lv_at hl 2 rfl) ?_
      refine x_get F hK hT rfl i_TR 0 (by decide) k80 rfl rfl d_TR_copyAll_26 ?_
      refine lv_iload F.1 F.2.1 d_TR_copyAll_29 (lv_at hl 0 rfl) ?_
      refine x_laldN F hK hM (by decide) (by omega) d_TR_copyAll_31 ?_
      have hsrc : tCp f i j k k = f k := tCp_src hco (by omega) hik (by omega)
      rw [hsrc]
      refine x_cst F k75 d_TR_copyAll_32 ?_
      refine x_leq (tgt := 58) F d_TR_copyAll_35 d_TR_copyAll_36 (by decide) (fun c35 => ?_) (fun c35 => ?_)
      · refine lv_iinc (v := (nI (k + 1))) (lv' := [(4, .int (nI (k + 1))), (3, .int (nI (en i))), (0, .ref a), (1, .int (nI i)), (2, .int (nI j))]) F.1 F.2.1 d_TR_copyAll_58 hl (k := 0) rfl (nI_1 k) (by decide) rfl (fun ls hl => ?_)
        refine lv_goto (tgt := 19) F.1 F.2.1 d_TR_copyAll_61 (by decide) ?_
        exact ih (k + 1) (by omega) (by omega) _ _ (by rw [← tCp_n c35]; exact hM) hS ls hl
      · obtain ⟨lk, nk⟩ := hco.2.2.2.2.2 k hik (by omega) c35
        obtain ⟨pe, pl, -⟩ := pj_put_n hi hj li lj hik (by omega) lk nk
        refine lv_aload_n F.1 F.2.1 d_TR_copyAll_39 rfl (lv_at hl 2 rfl) ?_
        refine x_get F hK hT rfl i_TR 0 (by decide) k80 rfl rfl d_TR_copyAll_40 ?_
        refine lv_iload F.1 F.2.1 d_TR_copyAll_43 (lv_at hl 0 rfl) ?_
        refine lv_iload_n F.1 F.2.1 d_TR_copyAll_45 rfl (lv_at hl 3 rfl) ?_
        refine lv_iload_n F.1 F.2.1 d_TR_copyAll_46 rfl (lv_at hl 4 rfl) ?_
        refine x_rd (x_S (n := 3) (As := [.int (nI k), .int (nI i), .int (nI j)]) F (c_PA_whenPut l G (nI k) (nI i) (nI j) (by rw [pj_names_n i hi, pj_names_n j hj]; exact nm_diff i j (lg_nm i hi li) (lg_nm j hj lj))) ok_PA_whenPut k270 ⟨Nat.le_of_ble_eq_true rfl, Nat.le_of_ble_eq_true rfl⟩ rfl rfl hK (trivial) rfl hl.1 rfl (Nat.le_of_ble_eq_true rfl) d_TR_copyAll_47 ⟨Nat.le_of_ble_eq_true rfl, Nat.le_of_ble_eq_true rfl⟩) ?_
        rw [pe]
        refine lv_aload_n F.1 F.2.1 d_TR_copyAll_50 rfl (lv_at hl 2 rfl) ?_
        refine x_get F hK hT rfl i_TR 0 (by decide) k80 rfl rfl d_TR_copyAll_51 ?_
        refine lv_iload F.1 F.2.1 d_TR_copyAll_54 (lv_at hl 0 rfl) ?_
        refine x_laldN F hK hM (by decide) (by omega) d_TR_copyAll_56 ?_
        rw [hsrc]
        refine x_lastN F hK hM (by decide) (by omega) hS rfl d_TR_copyAll_57 (fun H1 locs hM hz1 ho1 hS => ?_)
        have hT := va_at.kept hT (ho1 _ hab)
        refine lv_iinc (v := (nI (k + 1))) (lv' := [(4, .int (nI (k + 1))), (3, .int (nI (en i))), (0, .ref a), (1, .int (nI i)), (2, .int (nI j))]) F.1 F.2.1 d_TR_copyAll_58 hl (k := 0) rfl (nI_1 k) (by decide) rfl (fun ls hl => ?_)
        refine lv_goto (tgt := 19) F.1 F.2.1 d_TR_copyAll_61 (by decide) ?_
        exact ih (k + 1) (by omega) (by omega) _ _ (by rw [← tCp_s hco hik (by omega) c35]; exact hM) hS ls hl
  refine lv_aload_n F.1 F.2.1 d_TR_copyAll_0 rfl (lv_at hl 0 rfl) ?_
  refine lv_iload_n F.1 F.2.1 d_TR_copyAll_1 rfl (lv_at hl 1 rfl) ?_
  refine lv_iload_n F.1 F.2.1 d_TR_copyAll_2 rfl (lv_at hl 2 rfl) ?_
  refine x_rd (x_V (n := 2) (As := [.int (nI i), .int (nI j)]) F (c_TR_mayCopy l G a b f i j hi hj li lj hf) ok_TR_mayCopy k259 ⟨Nat.le_of_ble_eq_true rfl, Nat.le_of_ble_eq_true rfl⟩ rfl rfl hK (x_rcv hK hT rfl) (hP) rfl hl.1 rfl (Nat.le_of_ble_eq_true rfl) d_TR_copyAll_3 ⟨Nat.le_of_ble_eq_true rfl, Nat.le_of_ble_eq_true rfl⟩) ?_
  refine x_bne (tgt := 11) F d_TR_copyAll_6 (by decide) (fun c6 => ?_) (fun c6 => ?_)
  · refine lv_iload_n F.1 F.2.1 d_TR_copyAll_11 rfl (lv_at hl 1 rfl) ?_
    refine x_rd (x_S (n := 1) (As := [.int (nI i)]) F (c_PA_end l G (nI i)) ok_PA_end k252 ⟨Nat.le_of_ble_eq_true rfl, Nat.le_of_ble_eq_true rfl⟩ rfl rfl hK (trivial) rfl hl.1 rfl (Nat.le_of_ble_eq_true rfl) d_TR_copyAll_12 ⟨Nat.le_of_ble_eq_true rfl, Nat.le_of_ble_eq_true rfl⟩) ?_
    rw [pj_end_n i hi]
    refine lv_istore_n (lv' := [(3, .int (nI (en i))), (0, .ref a), (1, .int (nI i)), (2, .int (nI j))]) F.1 F.2.1 d_TR_copyAll_15 rfl hl (by decide) rfl (fun ls hl => ?_)
    refine lv_iload_n F.1 F.2.1 d_TR_copyAll_16 rfl (lv_at hl 2 rfl) ?_
    refine lv_istore (lv' := [(4, .int (nI i)), (3, .int (nI (en i))), (0, .ref a), (1, .int (nI i)), (2, .int (nI j))]) F.1 F.2.1 d_TR_copyAll_17 hl (by decide) rfl (fun ls hl => ?_)
    exact loop c6 (en i - i) i (by omega) (Nat.le_refl _) _ _ (by rw [tCp_0]; exact hM) hS ls hl
  · refine lv_iconst (v := 0) F.1 F.2.1 d_TR_copyAll_9 (by decide) ?_
    exact hret _ _ _ false _ _ _ _ d_TR_copyAll_10 rfl (by unfold tCopy; rw [if_neg (by rw [c6]; decide)]; exact ⟨rfl, hM, hS.off⟩) hS.2.2 (Nat.le_refl _) (Nat.le_refl _)
/-- copyAll to a path that is not legal -/
theorem c_TR_copyAll_bad (l : Launch) (G : x_G) (a b : Nat) (f : Nat → Int64) (i : Nat) (x : Int32) (hx : pj_legal x = false) : Met l y_TR_copyAll (x_ws y_TR_copyAll b_TR_copyAll 5 (some .boolean)) (x_rm 4 0 0) (x_P G [.ref a, .int (nI i), .int x] (TR G a b f)) (x_Q (TO G b f none)) 0 0 (fun q => q = b) := by
  have hmc : Met l y_TR_mayCopy (x_ws y_TR_mayCopy b_TR_mayCopy 4 (some .boolean)) (x_rm 3 0 0) (x_P G [.ref a, .int (nI i), .int x] (TR G a b f)) (k2_QcV (.int (x_b false))) 0 0 (fun _ => False) := by
    refine x_mZ (by decide +kernel) (Nat.le_of_ble_eq_true rfl) (fun p e s m args below meth c F hK hP ls hl Q hret => ?_)
    have hl : lv_has ls 4 [(0, .ref a), (1, .int (nI i)), (2, .int x)] := hl
    refine lv_iload_n F.1 F.2.1 d_TR_mayCopy_0 rfl (lv_at hl 2 rfl) ?_
    refine x_rd (x_S (n := 1) (As := [.int x]) F (c_PA_isLegal l G x) ok_PA_isLegal k219 ⟨Nat.le_of_ble_eq_true rfl, Nat.le_of_ble_eq_true rfl⟩ rfl rfl hK (trivial) rfl hl.1 rfl (Nat.le_of_ble_eq_true rfl) d_TR_mayCopy_1 ⟨Nat.le_of_ble_eq_true rfl, Nat.le_of_ble_eq_true rfl⟩) ?_
    rw [hx]
    refine x_beq (tgt := 33) F d_TR_mayCopy_4 (by decide) (fun _ => ?_) (fun zq => absurd zq ((by decide)))
    refine lv_iconst (v := 0) F.1 F.2.1 d_TR_mayCopy_33 (by decide) ?_
    exact hret _ _ _ d_TR_mayCopy_34 rfl
  refine x_wZ (by decide +kernel) (Nat.le_of_ble_eq_true rfl) (fun p e s m args below meth c F hK hP ls hl Q hret => ?_)
  have hl : lv_has ls 5 [(0, .ref a), (1, .int (nI i)), (2, .int x)] := hl
  obtain ⟨hT, hM, hab⟩ := id hP
  have hS : va_S (fun q => q = b) s.heap s.heap [] := va_S.rf
  refine lv_aload_n F.1 F.2.1 d_TR_copyAll_0 rfl (lv_at hl 0 rfl) ?_
  refine lv_iload_n F.1 F.2.1 d_TR_copyAll_1 rfl (lv_at hl 1 rfl) ?_
  refine lv_iload_n F.1 F.2.1 d_TR_copyAll_2 rfl (lv_at hl 2 rfl) ?_
  refine x_rd (x_V (n := 2) (As := [.int (nI i), .int x]) F (hmc) ok_TR_mayCopy k259 ⟨Nat.le_of_ble_eq_true rfl, Nat.le_of_ble_eq_true rfl⟩ rfl rfl hK (x_rcv hK hT rfl) (hP) rfl hl.1 rfl (Nat.le_of_ble_eq_true rfl) d_TR_copyAll_3 ⟨Nat.le_of_ble_eq_true rfl, Nat.le_of_ble_eq_true rfl⟩) ?_
  refine x_bne (tgt := 11) F d_TR_copyAll_6 (by decide) (fun zq => absurd zq ((by decide))) (fun _ => ?_)
  refine lv_iconst (v := 0) F.1 F.2.1 d_TR_copyAll_9 (by decide) ?_
  exact hret _ _ _ false _ _ _ _ d_TR_copyAll_10 rfl ⟨rfl, hM, hS.off⟩ hS.2.2 (Nat.le_refl _) (Nat.le_refl _)

