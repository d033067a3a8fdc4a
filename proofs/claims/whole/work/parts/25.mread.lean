/-! ===== the model: owner, marks, sizes ===== -/
def owB (par : Nat → Nat) (i : Nat) (x : Int32) : Nat := if x < 0 ∨ ¬ x < nI (cn par i).length then 0 else (cn par i).getD x.toNatClampNeg 0
theorem getD_app_l {L M : List Nat} {k : Nat} (h : k < L.length) : (L ++ M).getD k 0 = L.getD k 0 := by
  rw [List.getD_eq_getElem?_getD, List.getD_eq_getElem?_getD, List.getElem?_append_left h]
theorem getD_app_r {L : List Nat} {x : Nat} : (L ++ [x]).getD L.length 0 = x := by
  rw [List.getD_eq_getElem?_getD, List.getElem?_append_right (Nat.le_refl _), Nat.sub_self]; rfl
theorem c_MO_owner (l : Launch) (G : x_G) (ad : Nat → Nat) (σ : Sg) (wk : Nat → Int64) (ch : Nat → Bool) (i : Nat) (x : Int32) (hi : i < 40) (hpr : ∀ i, 0 < i → gp σ i < i) : Met l y_MO_owner (x_ws y_MO_owner b_MO_owner 6 (some .int)) (x_rm 1 0 0) (x_P G [.ref (ad 0), .int (nI i), .int x] (MO G ad σ wk ch)) (k2_QcV (.int (nI (owB (gp σ) i x)))) 0 0 (fun _ => False) := by
  refine x_mI (by decide +kernel) (Nat.le_of_ble_eq_true rfl) (fun p e s m args below meth c F hK hP ls hl Q hret => ?_)
  have hl : lv_has ls 6 [(0, .ref (ad 0)), (1, .int (nI i)), (2, .int x)] := hl
  obtain ⟨hO, hp, ht, hh, hg, hw, hc, hj⟩ := id hP
  have hli := cn_len hpr _ i (Nat.le_refl _)
  refine lv_aload_n F.1 F.2.1 d_MO_owner_0 rfl (lv_at hl 0 rfl) ?_
  refine lv_iload_n F.1 F.2.1 d_MO_owner_1 rfl (lv_at hl 1 rfl) ?_
  refine x_rd (x_V (n := 1) (As := [.int (nI i)]) F (c_MO_layerCount l G ad σ wk ch i hi hpr) ok_MO_layerCount k653 ⟨Nat.le_of_ble_eq_true rfl, Nat.le_of_ble_eq_true rfl⟩ rfl rfl hK (x_rcv hK hO rfl) (hP) rfl hl.1 rfl (Nat.le_of_ble_eq_true rfl) d_MO_owner_2 ⟨Nat.le_of_ble_eq_true rfl, Nat.le_of_ble_eq_true rfl⟩) ?_
  refine lv_istore_n (lv' := [(3, .int (nI (cn (gp σ) i).length)), (0, .ref (ad 0)), (1, .int (nI i)), (2, .int x)]) F.1 F.2.1 d_MO_owner_5 rfl hl (by decide) rfl (fun ls hl => ?_)
  refine lv_iload_n F.1 F.2.1 d_MO_owner_6 rfl (lv_at hl 3 rfl) ?_
  refine lv_if_lt (tgt := 15) F.1 F.2.1 d_MO_owner_7 (by decide) (fun c7 => ?_) (fun c7 => ?_)
  · refine lv_iconst (v := 0) F.1 F.2.1 d_MO_owner_15 (by decide) ?_
    exact hret _ _ _ d_MO_owner_16 (by unfold owB; rw [if_pos (Or.inl c7)]; rfl)
  · refine lv_iload_n F.1 F.2.1 d_MO_owner_10 rfl (lv_at hl 3 rfl) ?_
    refine lv_iload_n F.1 F.2.1 d_MO_owner_11 rfl (lv_at hl 0 rfl) ?_
    refine lv_icmp_lt (tgt := 17) F.1 F.2.1 d_MO_owner_12 (by decide) (fun c12 => ?_) (fun c12 => ?_)
    · have hlt := c12
      obtain ⟨y, hy1, rfl⟩ : ∃ y : Nat, y < (cn (gp σ) i).length ∧ x = nI y := by
        rcases pk_ix x (n := (cn (gp σ) i).length) (by omega) with q | q | q
        · exact absurd q c7
        · exact absurd hlt (Int32.not_lt.mpr q)
        · exact q
      have hcy : (nI y).toNatClampNeg = y := nI_clamp (by omega)
      have hov : owB (gp σ) i (nI y) = (cn (gp σ) i).getD y 0 := by
        unfold owB
        rw [if_neg (by rintro (h | h); exact c7 h; exact h c12), hcy]
      have loop : ∀ (d k j : Nat), k = y + d → j < 40 → (cn (gp σ) j).length = k + 1 → (∀ q, q ≤ k → (cn (gp σ) j).getD q 0 = (cn (gp σ) i).getD q 0) → ∀ ls : Array Slot, lv_has ls 6 [(5, .int (nI k)), (4, .int (nI j)), (3, .int (nI (cn (gp σ) i).length)), (0, .ref (ad 0)), (1, .int (nI i)), (2, .int (nI y))] → W p l e (x_rm 1 0 0) s m args below meth c s.heap [] 0 0 Q (F0 m 25 ls []) := by
        intro d
        induction d with
        | zero =>
          intro k j hk hj40 hlen hq ls hl
          have hl1 := cn_len hpr _ j (Nat.le_refl _)
          refine lv_iload F.1 F.2.1 d_MO_owner_25 (lv_at hl 0 rfl) ?_
          refine lv_iload_n F.1 F.2.1 d_MO_owner_27 rfl (lv_at hl 5 rfl) ?_
          refine lv_icmp_le (tgt := 46) F.1 F.2.1 d_MO_owner_28 (by decide) (fun _ => ?_) (fun zq => absurd (pN_le (a := k) (b := y) rfl rfl (by omega) (by omega) (by omega)) zq)
          refine lv_iload F.1 F.2.1 d_MO_owner_46 (lv_at hl 1 rfl) ?_
          have h0 : 0 < j := by omega
          have hlen2 := hlen
          rw [cn_s hpr h0, List.length_append, List.length_singleton] at hlen2
          have hfin : (cn (gp σ) j).getD y 0 = j := by rw [cn_s hpr h0, show y = (cn (gp σ) (gp σ j)).length by omega, getD_app_r]
          exact hret _ _ _ d_MO_owner_48 (by rw [hov, ← hq y (by omega), hfin])
        | succ d ih =>
          intro k j hk hj40 hlen hq ls hl
          have hl1 := cn_len hpr _ j (Nat.le_refl _)
          have h0 : 0 < j := by omega
          have h1 := hpr j h0
          refine lv_iload F.1 F.2.1 d_MO_owner_25 (lv_at hl 0 rfl) ?_
          refine lv_iload_n F.1 F.2.1 d_MO_owner_27 rfl (lv_at hl 5 rfl) ?_
          refine lv_icmp_le (tgt := 46) F.1 F.2.1 d_MO_owner_28 (by decide) (fun zq => absurd zq (pN_nle (a := k) (b := y) rfl rfl (by omega) (by omega) (by omega))) (fun _ => ?_)
          refine lv_aload_n F.1 F.2.1 d_MO_owner_31 rfl (lv_at hl 3 rfl) ?_
          refine x_get F hK hO rfl i_MO 0 (by decide) k479 rfl rfl d_MO_owner_32 ?_
          refine lv_iload F.1 F.2.1 d_MO_owner_35 (lv_at hl 1 rfl) ?_
          refine x_ialdN F hK hp (by decide) (by omega) d_MO_owner_37 ?_
          refine lv_istore (lv' := [(4, .int (nI (gp σ j))), (5, .int (nI k)), (3, .int (nI (cn (gp σ) i).length)), (0, .ref (ad 0)), (1, .int (nI i)), (2, .int (nI y))]) F.1 F.2.1 d_MO_owner_38 hl (by decide) rfl (fun ls hl => ?_)
          obtain ⟨k', rfl⟩ : ∃ k', k = k' + 1 := ⟨k - 1, by omega⟩
          refine lv_iinc (v := nI k') (lv' := [(5, .int (nI k')), (4, .int (nI (gp σ j))), (3, .int (nI (cn (gp σ) i).length)), (0, .ref (ad 0)), (1, .int (nI i)), (2, .int (nI y))]) F.1 F.2.1 d_MO_owner_40 hl (k := 1) rfl (pk_m1 k') (by decide) rfl (fun ls hl => ?_)
          refine lv_goto (tgt := 25) F.1 F.2.1 d_MO_owner_43 (by decide) ?_
          rw [cn_s hpr h0, List.length_append, List.length_singleton] at hlen
          refine ih k' (gp σ j) (by omega) (by omega) (by omega) (fun q hq1 => ?_) ls hl
          rw [← hq q (by omega), cn_s hpr h0, getD_app_l (by omega)]
      refine lv_iload_n F.1 F.2.1 d_MO_owner_17 rfl (lv_at hl 2 rfl) ?_
      refine lv_istore (lv' := [(4, .int (nI i)), (3, .int (nI (cn (gp σ) i).length)), (0, .ref (ad 0)), (1, .int (nI i)), (2, .int (nI y))]) F.1 F.2.1 d_MO_owner_18 hl (by decide) rfl (fun ls hl => ?_)
      refine lv_iload_n F.1 F.2.1 d_MO_owner_20 rfl (lv_at hl 1 rfl) ?_
      refine lv_iconst (v := 1) F.1 F.2.1 d_MO_owner_21 (by decide) ?_
      refine lv_isub F.1 F.2.1 d_MO_owner_22 ?_
      rw [show nI (cn (gp σ) i).length - 1 = nI ((cn (gp σ) i).length - 1) from (by rw [show (1 : Int32) = nI 1 from rfl]; exact pk_sub (by omega))]
      refine lv_istore (lv' := [(5, .int (nI ((cn (gp σ) i).length - 1))), (4, .int (nI i)), (3, .int (nI (cn (gp σ) i).length)), (0, .ref (ad 0)), (1, .int (nI i)), (2, .int (nI y))]) F.1 F.2.1 d_MO_owner_23 hl (by decide) rfl (fun ls hl => ?_)
      exact loop ((cn (gp σ) i).length - 1 - y) ((cn (gp σ) i).length - 1) i (by omega) hi (by omega) (fun _ _ => rfl) ls hl
    · refine lv_iconst (v := 0) F.1 F.2.1 d_MO_owner_15 (by decide) ?_
      exact hret _ _ _ d_MO_owner_16 (by unfold owB; rw [if_pos (Or.inr c12)]; rfl)
/-- what the layer of image i says of p -/
def mkI (σ : Sg) (i p : Nat) : Int64 := mk (gt σ (gp σ i)) (gt σ i) p
theorem c_MO_mark (l : Launch) (G : x_G) (ad : Nat → Nat) (σ : Sg) (wk : Nat → Int64) (ch : Nat → Bool) (i x : Nat) (hi : i < 40) (hx : x < 125) (hpi : gp σ i < 40) : Met l y_MO_mark (x_ws y_MO_mark b_MO_mark 7 (some .long)) (x_rm 2 0 0) (x_P G [.ref (ad 0), .int (nI i), .int (nI x)] (MO G ad σ wk ch)) (k2_QcV (.long (mkI σ i x))) 0 0 (fun _ => False) := by
  refine x_mL (by decide +kernel) (Nat.le_of_ble_eq_true rfl) (fun p e s m args below meth c F hK hP ls hl Q hret => ?_)
  have hl : lv_has ls 7 [(0, .ref (ad 0)), (1, .int (nI i)), (2, .int (nI x))] := hl
  obtain ⟨hO, hp, ht, hh, hg, hw, hc, hj⟩ := hP
  have hpx := pa_lt x hx
  refine lv_aload_n F.1 F.2.1 d_MO_mark_0 rfl (lv_at hl 0 rfl) ?_
  refine x_get F hK hO rfl i_MO 1 (by decide) k480 rfl rfl d_MO_mark_1 ?_
  refine lv_bipush (v := 125) F.1 F.2.1 d_MO_mark_4 (by decide) ?_
  refine lv_aload_n F.1 F.2.1 d_MO_mark_6 rfl (lv_at hl 0 rfl) ?_
  refine x_get F hK hO rfl i_MO 0 (by decide) k479 rfl rfl d_MO_mark_7 ?_
  refine lv_iload_n F.1 F.2.1 d_MO_mark_10 rfl (lv_at hl 1 rfl) ?_
  refine x_ialdN F hK hp (by decide) (by omega) d_MO_mark_11 ?_
  refine lv_imul F.1 F.2.1 d_MO_mark_12 ?_
  refine lv_iload_n F.1 F.2.1 d_MO_mark_13 rfl (lv_at hl 2 rfl) ?_
  refine lv_iadd F.1 F.2.1 d_MO_mark_14 ?_
  rw [show mP σ i = nI (gp σ i) from rfl, e125]
  refine x_laldN F hK ht (by decide) (by omega) d_MO_mark_15 ?_
  rw [mT_at hx]
  refine lv_lstore_n (lv' := [(3, .long (gt σ (gp σ i) x)), (0, .ref (ad 0)), (1, .int (nI i)), (2, .int (nI x))]) F.1 F.2.1 d_MO_mark_16 rfl hl (by decide) rfl (fun ls hl => ?_)
  refine lv_aload_n F.1 F.2.1 d_MO_mark_17 rfl (lv_at hl 1 rfl) ?_
  refine x_get F hK hO rfl i_MO 1 (by decide) k480 rfl rfl d_MO_mark_18 ?_
  refine lv_bipush (v := 125) F.1 F.2.1 d_MO_mark_21 (by decide) ?_
  refine lv_iload_n F.1 F.2.1 d_MO_mark_23 rfl (lv_at hl 2 rfl) ?_
  refine lv_imul F.1 F.2.1 d_MO_mark_24 ?_
  refine lv_iload_n F.1 F.2.1 d_MO_mark_25 rfl (lv_at hl 3 rfl) ?_
  refine lv_iadd F.1 F.2.1 d_MO_mark_26 ?_
  rw [e125]
  refine x_laldN F hK ht (by decide) (by omega) d_MO_mark_27 ?_
  rw [mT_at hx]
  refine lv_lstore (lv' := [(5, .long (gt σ i x)), (3, .long (gt σ (gp σ i) x)), (0, .ref (ad 0)), (1, .int (nI i)), (2, .int (nI x))]) F.1 F.2.1 d_MO_mark_28 hl (by decide) rfl (fun ls hl => ?_)
  refine lv_lload F.1 F.2.1 d_MO_mark_30 (lv_at hl 0 rfl) ?_
  refine x_cst F k478 d_MO_mark_32 ?_
  refine x_leq (tgt := 55) F d_MO_mark_35 d_MO_mark_36 (by decide) (fun c35 => ?_) (fun c35 => ?_)
  · refine lv_lload_n F.1 F.2.1 d_MO_mark_55 rfl (lv_at hl 1 rfl) ?_
    refine x_cst F k478 d_MO_mark_56 ?_
    refine x_leq (tgt := 90) F d_MO_mark_59 d_MO_mark_60 (by decide) (fun c59 => ?_) (fun c59 => ?_)
    · refine x_cst F k623 d_MO_mark_90 ?_
      exact hret _ _ _ d_MO_mark_93 (by unfold mkI mk; rw [if_pos (c35.trans c59.symm)])
    · refine lv_aload_n F.1 F.2.1 d_MO_mark_63 rfl (lv_at hl 2 rfl) ?_
      refine x_get F hK hO rfl i_MO 1 (by decide) k480 rfl rfl d_MO_mark_64 ?_
      refine lv_bipush (v := 125) F.1 F.2.1 d_MO_mark_67 (by decide) ?_
      refine lv_iload_n F.1 F.2.1 d_MO_mark_69 rfl (lv_at hl 3 rfl) ?_
      refine lv_imul F.1 F.2.1 d_MO_mark_70 ?_
      refine lv_iload_n F.1 F.2.1 d_MO_mark_71 rfl (lv_at hl 4 rfl) ?_
      refine x_rd (x_S (n := 1) (As := [.int (nI x)]) F (c_MO_above l G (nI x)) ok_MO_above k555 ⟨Nat.le_of_ble_eq_true rfl, Nat.le_of_ble_eq_true rfl⟩ rfl rfl hK (trivial) rfl hl.1 rfl (Nat.le_of_ble_eq_true rfl) d_MO_mark_72 ⟨Nat.le_of_ble_eq_true rfl, Nat.le_of_ble_eq_true rfl⟩) ?_
      rw [mo_above_n x hx]
      refine lv_iadd F.1 F.2.1 d_MO_mark_75 ?_
      rw [e125]
      refine x_laldN F hK ht (by decide) (by omega) d_MO_mark_76 ?_
      rw [mT_at hpx]
      refine x_cst F k477 d_MO_mark_77 ?_
      refine x_lne (tgt := 90) F d_MO_mark_80 d_MO_mark_81 (by decide) (fun c80 => ?_) (fun c80 => ?_)
      · refine x_cst F k623 d_MO_mark_90 ?_
        exact hret _ _ _ d_MO_mark_93 (by unfold mkI mk; rw [if_neg (fun h => c59 (h.symm.trans c35)), if_pos c35, if_neg c80])
      · refine x_cst F k624 d_MO_mark_84 ?_
        refine lv_goto (tgt := 93) F.1 F.2.1 d_MO_mark_87 (by decide) ?_
        exact hret _ _ _ d_MO_mark_93 (by unfold mkI mk; rw [if_neg (fun h => c59 (h.symm.trans c35)), if_pos c35, if_pos c80])
  · refine lv_lload_n F.1 F.2.1 d_MO_mark_39 rfl (lv_at hl 1 rfl) ?_
    refine lv_lload F.1 F.2.1 d_MO_mark_40 (lv_at hl 0 rfl) ?_
    refine x_lne (tgt := 52) F d_MO_mark_42 d_MO_mark_43 (by decide) (fun c42 => ?_) (fun c42 => ?_)
    · refine lv_lload F.1 F.2.1 d_MO_mark_52 (lv_at hl 0 rfl) ?_
      exact hret _ _ _ d_MO_mark_54 (by unfold mkI mk; rw [if_neg (fun h => c42 h.symm), if_neg c35])
    · refine x_cst F k623 d_MO_mark_46 ?_
      refine lv_goto (tgt := 54) F.1 F.2.1 d_MO_mark_49 (by decide) ?_
      exact hret _ _ _ d_MO_mark_54 (by unfold mkI mk; rw [if_pos c42.symm])
/-- the layers of a and b say the same -/
def smB (σ : Sg) (a b : Nat) : Bool := (List.range 125).all fun p => !lg p || decide (mkI σ a p = mkI σ b p)
theorem smB_iff {σ : Sg} {a b : Nat} : smB σ a b = true ↔ ∀ p, p < 125 → lg p = true → mkI σ a p = mkI σ b p := by
  unfold smB
  rw [List.all_eq_true]
  constructor
  · intro h p hp hg
    have := h p (List.mem_range.mpr hp)
    rw [hg] at this
    exact of_decide_eq_true (by simpa using this)
  · intro h p hp
    cases hg : lg p with
    | false => rfl
    | true => rw [decide_eq_true (h p (List.mem_range.mp hp) hg)]; rfl
theorem smB_f {σ : Sg} {a b p : Nat} (hp : p < 125) (hg : lg p = true) (h : ¬ mkI σ a p = mkI σ b p) : smB σ a b = false := by
  cases hh : smB σ a b with
  | false => rfl
  | true => exact absurd (smB_iff.mp hh p hp hg) h
theorem c_MO_same (l : Launch) (G : x_G) (ad : Nat → Nat) (σ : Sg) (wk : Nat → Int64) (ch : Nat → Bool) (a b : Nat) (ha : a < 40) (hb : b < 40) (hpa : gp σ a < 40) (hpb : gp σ b < 40) : Met l y_MO_same (x_ws y_MO_same b_MO_same 4 (some .boolean)) (x_rm 3 0 0) (x_P G [.ref (ad 0), .int (nI a), .int (nI b)] (MO G ad σ wk ch)) (k2_QcV (.int (x_b (smB σ a b)))) 0 0 (fun _ => False) := by
  refine x_mZ (by decide +kernel) (Nat.le_of_ble_eq_true rfl) (fun p e s m args below meth c F hK hP ls hl Q hret => ?_)
  have hl : lv_has ls 4 [(0, .ref (ad 0)), (1, .int (nI a)), (2, .int (nI b))] := hl
  obtain ⟨hO, -⟩ := id hP
  have loop : ∀ (n k : Nat), k + n = 125 → (∀ j, j < k → lg j = true → mkI σ a j = mkI σ b j) → ∀ ls : Array Slot, lv_has ls 4 [(3, .int (nI k)), (0, .ref (ad 0)), (1, .int (nI a)), (2, .int (nI b))] → W p l e (x_rm 3 0 0) s m args below meth c s.heap [] 0 0 Q (F0 m 2 ls []) := by
    intro n
    induction n with
    | zero =>
      intro k hn hk ls hl
      refine lv_iload_n F.1 F.2.1 d_MO_same_2 rfl (lv_at hl 0 rfl) ?_
      refine lv_bipush (v := 125) F.1 F.2.1 d_MO_same_3 (by decide) ?_
      refine lv_icmp_ge (tgt := 39) F.1 F.2.1 d_MO_same_5 (by decide) (fun _ => ?_) (fun zq => absurd (pN_le (a := 125) (b := k) rfl rfl (by omega) (by omega) (by omega)) zq)
      refine lv_iconst (v := 1) F.1 F.2.1 d_MO_same_39 (by decide) ?_
      exact hret _ _ _ d_MO_same_40 (by rw [smB_iff.mpr (fun j h => hk j (by omega))]; rfl)
    | succ n ih =>
      intro k hn hk ls hl
      refine lv_iload_n F.1 F.2.1 d_MO_same_2 rfl (lv_at hl 0 rfl) ?_
      refine lv_bipush (v := 125) F.1 F.2.1 d_MO_same_3 (by decide) ?_
      refine lv_icmp_ge (tgt := 39) F.1 F.2.1 d_MO_same_5 (by decide) (fun zq => absurd zq (pN_nle (a := 125) (b := k) rfl rfl (by omega) (by omega) (by omega))) (fun _ => ?_)
      refine lv_iload_n F.1 F.2.1 d_MO_same_8 rfl (lv_at hl 0 rfl) ?_
      refine x_rd (x_S (n := 1) (As := [.int (nI k)]) F (c_MO_legal l G (nI k)) ok_MO_legal k516 ⟨Nat.le_of_ble_eq_true rfl, Nat.le_of_ble_eq_true rfl⟩ rfl rfl hK (trivial) rfl hl.1 rfl (Nat.le_of_ble_eq_true rfl) d_MO_same_9 ⟨Nat.le_of_ble_eq_true rfl, Nat.le_of_ble_eq_true rfl⟩) ?_
      rw [mo_legal_n k (by omega)]
      refine x_beq (tgt := 33) F d_MO_same_12 (by decide) (fun c12 => ?_) (fun c12 => ?_)
      · refine lv_iinc (v := (nI (k + 1))) (lv' := [(3, .int (nI (k + 1))), (0, .ref (ad 0)), (1, .int (nI a)), (2, .int (nI b))]) F.1 F.2.1 d_MO_same_33 hl (k := 0) rfl (nI_1 k) (by decide) rfl (fun ls hl => ?_)
        refine lv_goto (tgt := 2) F.1 F.2.1 d_MO_same_36 (by decide) ?_
        exact ih (k + 1) (by omega) (fun j h hg => by rcases Nat.lt_succ_iff_lt_or_eq.mp h with h | rfl; exact hk j h hg; rw [c12] at hg; cases hg) ls hl
      · refine lv_aload_n F.1 F.2.1 d_MO_same_15 rfl (lv_at hl 1 rfl) ?_
        refine lv_iload_n F.1 F.2.1 d_MO_same_16 rfl (lv_at hl 2 rfl) ?_
        refine lv_iload_n F.1 F.2.1 d_MO_same_17 rfl (lv_at hl 0 rfl) ?_
        refine x_rd (x_V (n := 2) (As := [.int (nI a), .int (nI k)]) F (c_MO_mark l G ad σ wk ch a k ha (by omega) hpa) ok_MO_mark k619 ⟨Nat.le_of_ble_eq_true rfl, Nat.le_of_ble_eq_true rfl⟩ rfl rfl hK (x_rcv hK hO rfl) (hP) rfl hl.1 rfl (Nat.le_of_ble_eq_true rfl) d_MO_same_18 ⟨Nat.le_of_ble_eq_true rfl, Nat.le_of_ble_eq_true rfl⟩) ?_
        refine lv_aload_n F.1 F.2.1 d_MO_same_21 rfl (lv_at hl 1 rfl) ?_
        refine lv_iload_n F.1 F.2.1 d_MO_same_22 rfl (lv_at hl 3 rfl) ?_
        refine lv_iload_n F.1 F.2.1 d_MO_same_23 rfl (lv_at hl 0 rfl) ?_
        refine x_rd (x_V (n := 2) (As := [.int (nI b), .int (nI k)]) F (c_MO_mark l G ad σ wk ch b k hb (by omega) hpb) ok_MO_mark k619 ⟨Nat.le_of_ble_eq_true rfl, Nat.le_of_ble_eq_true rfl⟩ rfl rfl hK (x_rcv hK hO rfl) (hP) rfl hl.1 rfl (Nat.le_of_ble_eq_true rfl) d_MO_same_24 ⟨Nat.le_of_ble_eq_true rfl, Nat.le_of_ble_eq_true rfl⟩) ?_
        refine x_leq (tgt := 33) F d_MO_same_27 d_MO_same_28 (by decide) (fun c27 => ?_) (fun c27 => ?_)
        · refine lv_iinc (v := (nI (k + 1))) (lv' := [(3, .int (nI (k + 1))), (0, .ref (ad 0)), (1, .int (nI a)), (2, .int (nI b))]) F.1 F.2.1 d_MO_same_33 hl (k := 0) rfl (nI_1 k) (by decide) rfl (fun ls hl => ?_)
          refine lv_goto (tgt := 2) F.1 F.2.1 d_MO_same_36 (by decide) ?_
          exact ih (k + 1) (by omega) (fun j h hg => by rcases Nat.lt_succ_iff_lt_or_eq.mp h with h | rfl; exact hk j h hg; exact c27) ls hl
        · refine lv_iconst (v := 0) F.1 F.2.1 d_MO_same_31 (by decide) ?_
          exact hret _ _ _ d_MO_same_32 (by rw [smB_f (by omega) c12 c27]; rfl)
  refine lv_iconst (v := 1) F.1 F.2.1 d_MO_same_0 (by decide) ?_
  refine lv_istore_n (lv' := [(3, .int 1), (0, .ref (ad 0)), (1, .int (nI a)), (2, .int (nI b))]) F.1 F.2.1 d_MO_same_1 rfl hl (by decide) rfl (fun ls hl => ?_)
  exact loop 124 1 rfl (fun j h hg => by rw [show j = 0 by omega] at hg; cases hg) ls hl
/-- the paths below n with an entry in the layer of image i -/
def eI (σ : Sg) (i n : Nat) : List Nat := (List.range n).filter fun p => lg p && !decide (mkI σ i p = wNON)
theorem eI_s (σ : Sg) (i : Nat) {k : Nat} (hg : lg k = true) (h : mkI σ i k ≠ wNON) : eI σ i (k + 1) = eI σ i k ++ [k] := by
  unfold eI
  rw [List.range_succ, List.filter_append, List.filter_cons_of_pos (by simp [hg, h]), List.filter_nil]
theorem eI_n (σ : Sg) (i : Nat) {k : Nat} (h : lg k = false ∨ mkI σ i k = wNON) : eI σ i (k + 1) = eI σ i k := by
  unfold eI
  rw [List.range_succ, List.filter_append, List.filter_cons_of_neg (by rcases h with h | h <;> simp [h]), List.filter_nil, List.append_nil]
theorem eI_1 (σ : Sg) (i : Nat) : eI σ i 1 = [] := rfl
theorem eI_len (σ : Sg) (i n : Nat) : (eI σ i n).length ≤ n := by
  unfold eI
  exact Nat.le_trans (List.length_filter_le _ _) (by rw [List.length_range]; exact Nat.le_refl _)
theorem c_MO_size (l : Launch) (G : x_G) (ad : Nat → Nat) (σ : Sg) (wk : Nat → Int64) (ch : Nat → Bool) (i : Nat) (hi : i < 40) (hpi : gp σ i < 40) : Met l y_MO_size (x_ws y_MO_size b_MO_size 4 (some .int)) (x_rm 3 0 0) (x_P G [.ref (ad 0), .int (nI i)] (MO G ad σ wk ch)) (k2_QcV (.int (nI (eI σ i 125).length))) 0 0 (fun _ => False) := by
  refine x_mI (by decide +kernel) (Nat.le_of_ble_eq_true rfl) (fun p e s m args below meth c F hK hP ls hl Q hret => ?_)
  have hl : lv_has ls 4 [(0, .ref (ad 0)), (1, .int (nI i))] := hl
  obtain ⟨hO, -⟩ := id hP
  have loop : ∀ (n k : Nat), k + n = 125 → ∀ ls : Array Slot, lv_has ls 4 [(3, .int (nI k)), (2, .int (nI (eI σ i k).length)), (0, .ref (ad 0)), (1, .int (nI i))] → W p l e (x_rm 3 0 0) s m args below meth c s.heap [] 0 0 Q (F0 m 4 ls []) := by
    intro n
    induction n with
    | zero =>
      intro k hn ls hl
      obtain rfl : k = 125 := by omega
      refine lv_iload_n F.1 F.2.1 d_MO_size_4 rfl (lv_at hl 0 rfl) ?_
      refine lv_bipush (v := 125) F.1 F.2.1 d_MO_size_5 (by decide) ?_
      refine lv_icmp_ge (tgt := 39) F.1 F.2.1 d_MO_size_7 (by decide) (fun _ => ?_) (fun zq => absurd (pN_le (a := 125) (b := 125) rfl rfl (by omega) (by omega) (by omega)) zq)
      refine lv_iload_n F.1 F.2.1 d_MO_size_39 rfl (lv_at hl 1 rfl) ?_
      exact hret _ _ _ d_MO_size_40 rfl
    | succ n ih =>
      intro k hn ls hl
      have hle := eI_len σ i k
      refine lv_iload_n F.1 F.2.1 d_MO_size_4 rfl (lv_at hl 0 rfl) ?_
      refine lv_bipush (v := 125) F.1 F.2.1 d_MO_size_5 (by decide) ?_
      refine lv_icmp_ge (tgt := 39) F.1 F.2.1 d_MO_size_7 (by decide) (fun zq => absurd zq (pN_nle (a := 125) (b := k) rfl rfl (by omega) (by omega) (by omega))) (fun _ => ?_)
      refine lv_iload_n F.1 F.2.1 d_MO_size_10 rfl (lv_at hl 0 rfl) ?_
      refine x_rd (x_S (n := 1) (As := [.int (nI k)]) F (c_MO_legal l G (nI k)) ok_MO_legal k516 ⟨Nat.le_of_ble_eq_true rfl, Nat.le_of_ble_eq_true rfl⟩ rfl rfl hK (trivial) rfl hl.1 rfl (Nat.le_of_ble_eq_true rfl) d_MO_size_11 ⟨Nat.le_of_ble_eq_true rfl, Nat.le_of_ble_eq_true rfl⟩) ?_
      rw [mo_legal_n k (by omega)]
      refine x_beq (tgt := 33) F d_MO_size_14 (by decide) (fun c14 => ?_) (fun c14 => ?_)
      · refine lv_iinc (v := (nI (k + 1))) (lv' := [(3, .int (nI (k + 1))), (2, .int (nI (eI σ i k).length)), (0, .ref (ad 0)), (1, .int (nI i))]) F.1 F.2.1 d_MO_size_33 hl (k := 0) rfl (nI_1 k) (by decide) rfl (fun ls hl => ?_)
        refine lv_goto (tgt := 4) F.1 F.2.1 d_MO_size_36 (by decide) ?_
        exact ih (k + 1) (by omega) ls (by rw [eI_n σ i (Or.inl c14)]; exact hl)
      · refine lv_aload_n F.1 F.2.1 d_MO_size_17 rfl (lv_at hl 2 rfl) ?_
        refine lv_iload_n F.1 F.2.1 d_MO_size_18 rfl (lv_at hl 3 rfl) ?_
        refine lv_iload_n F.1 F.2.1 d_MO_size_19 rfl (lv_at hl 0 rfl) ?_
        refine x_rd (x_V (n := 2) (As := [.int (nI i), .int (nI k)]) F (c_MO_mark l G ad σ wk ch i k hi (by omega) hpi) ok_MO_mark k619 ⟨Nat.le_of_ble_eq_true rfl, Nat.le_of_ble_eq_true rfl⟩ rfl rfl hK (x_rcv hK hO rfl) (hP) rfl hl.1 rfl (Nat.le_of_ble_eq_true rfl) d_MO_size_20 ⟨Nat.le_of_ble_eq_true rfl, Nat.le_of_ble_eq_true rfl⟩) ?_
        refine x_cst F k623 d_MO_size_23 ?_
        refine x_leq (tgt := 33) F d_MO_size_26 d_MO_size_27 (by decide) (fun c26 => ?_) (fun c26 => ?_)
        · refine lv_iinc (v := (nI (k + 1))) (lv' := [(3, .int (nI (k + 1))), (2, .int (nI (eI σ i k).length)), (0, .ref (ad 0)), (1, .int (nI i))]) F.1 F.2.1 d_MO_size_33 hl (k := 0) rfl (nI_1 k) (by decide) rfl (fun ls hl => ?_)
          refine lv_goto (tgt := 4) F.1 F.2.1 d_MO_size_36 (by decide) ?_
          exact ih (k + 1) (by omega) ls (by rw [eI_n σ i (Or.inr c26)]; exact hl)
        · refine lv_iinc (v := (nI ((eI σ i k).length + 1))) (lv' := [(2, .int (nI ((eI σ i k).length + 1))), (3, .int (nI k)), (0, .ref (ad 0)), (1, .int (nI i))]) F.1 F.2.1 d_MO_size_30 hl (k := 1) rfl (nI_1 ((eI σ i k).length)) (by decide) rfl (fun ls hl => ?_)
          refine lv_iinc (v := (nI (k + 1))) (lv' := [(3, .int (nI (k + 1))), (2, .int (nI ((eI σ i k).length + 1))), (0, .ref (ad 0)), (1, .int (nI i))]) F.1 F.2.1 d_MO_size_33 hl (k := 1) rfl (nI_1 k) (by decide) rfl (fun ls hl => ?_)
          refine lv_goto (tgt := 4) F.1 F.2.1 d_MO_size_36 (by decide) ?_
          exact ih (k + 1) (by omega) ls (by rw [eI_s σ i c14 c26, List.length_append]; exact hl)
  refine lv_iconst (v := 0) F.1 F.2.1 d_MO_size_0 (by decide) ?_
  refine lv_istore_n (lv' := [(2, .int 0), (0, .ref (ad 0)), (1, .int (nI i))]) F.1 F.2.1 d_MO_size_1 rfl hl (by decide) rfl (fun ls hl => ?_)
  refine lv_iconst (v := 1) F.1 F.2.1 d_MO_size_2 (by decide) ?_
  refine lv_istore_n (lv' := [(3, .int 1), (2, .int 0), (0, .ref (ad 0)), (1, .int (nI i))]) F.1 F.2.1 d_MO_size_3 rfl hl (by decide) rfl (fun ls hl => ?_)
  exact loop 124 1 rfl ls (by rw [eI_1]; exact hl)
def thB (σ : Sg) (ch : Nat → Bool) (i lim : Nat) : Bool := (List.range lim).any fun j => decide (j ≠ 0) && ch j && smB σ j i
theorem thB_t {σ : Sg} {ch : Nat → Bool} {i lim j : Nat} (h0 : j ≠ 0) (h1 : j < lim) (h2 : ch j = true) (h3 : smB σ j i = true) : thB σ ch i lim = true :=
  List.any_eq_true.mpr ⟨j, List.mem_range.mpr h1, by rw [decide_eq_true h0, h2, h3]; rfl⟩
theorem thB_f {σ : Sg} {ch : Nat → Bool} {i lim : Nat} (h : ∀ j, 0 < j → j < lim → ch j = true → smB σ j i = false) : thB σ ch i lim = false := by
  refine List.any_eq_false.mpr (fun j hj => ?_)
  have hj := List.mem_range.mp hj
  by_cases h0 : j = 0
  · simp [h0]
  · cases hc : ch j with
    | false => simp
    | true => rw [h j (by omega) hj hc]; simp
theorem c_MO_there (l : Launch) (G : x_G) (ad : Nat → Nat) (σ : Sg) (wk : Nat → Int64) (ch : Nat → Bool) (i lim : Nat) (hi : i < 40) (hlim : lim ≤ 40) (hpr : ∀ i, 0 < i → gp σ i < i) (hp0 : gp σ 0 < 40) : Met l y_MO_there (x_ws y_MO_there b_MO_there 4 (some .boolean)) (x_rm 4 0 0) (x_P G [.ref (ad 0), .int (nI i), .int (nI lim)] (MO G ad σ wk ch)) (k2_QcV (.int (x_b (thB σ ch i lim)))) 0 0 (fun _ => False) := by
  refine x_mZ (by decide +kernel) (Nat.le_of_ble_eq_true rfl) (fun p e s m args below meth c F hK hP ls hl Q hret => ?_)
  have hl : lv_has ls 4 [(0, .ref (ad 0)), (1, .int (nI i)), (2, .int (nI lim))] := hl
  obtain ⟨hO, hp, ht, hh, hg, hw, hc, hj⟩ := id hP
  have hpl : ∀ j, j < 40 → gp σ j < 40 := fun j hj => by rcases Nat.eq_zero_or_pos j with rfl | q; exact hp0; have := hpr j q; omega
  have loop : ∀ (n k : Nat), k + n = max lim 1 → 1 ≤ k → (∀ j, 0 < j → j < k → ch j = true → smB σ j i = false) → ∀ ls : Array Slot, lv_has ls 4 [(3, .int (nI k)), (0, .ref (ad 0)), (1, .int (nI i)), (2, .int (nI lim))] → W p l e (x_rm 4 0 0) s m args below meth c s.heap [] 0 0 Q (F0 m 2 ls []) := by
    intro n
    induction n with
    | zero =>
      intro k hn hk1 hk ls hl
      refine lv_iload_n F.1 F.2.1 d_MO_there_2 rfl (lv_at hl 0 rfl) ?_
      refine lv_iload_n F.1 F.2.1 d_MO_there_3 rfl (lv_at hl 3 rfl) ?_
      refine lv_icmp_ge (tgt := 33) F.1 F.2.1 d_MO_there_4 (by decide) (fun _ => ?_) (fun zq => absurd (pN_le (a := lim) (b := k) rfl rfl (by omega) (by omega) (by omega)) zq)
      refine lv_iconst (v := 0) F.1 F.2.1 d_MO_there_33 (by decide) ?_
      exact hret _ _ _ d_MO_there_34 (by rw [thB_f (fun j h0 h => hk j h0 (by omega))]; rfl)
    | succ n ih =>
      intro k hn hk1 hk ls hl
      refine lv_iload_n F.1 F.2.1 d_MO_there_2 rfl (lv_at hl 0 rfl) ?_
      refine lv_iload_n F.1 F.2.1 d_MO_there_3 rfl (lv_at hl 3 rfl) ?_
      refine lv_icmp_ge (tgt := 33) F.1 F.2.1 d_MO_there_4 (by decide) (fun zq => absurd zq (pN_nle (a := lim) (b := k) rfl rfl (by omega) (by omega) (by omega))) (fun _ => ?_)
      refine lv_aload_n F.1 F.2.1 d_MO_there_7 rfl (lv_at hl 1 rfl) ?_
      refine x_get F hK hO rfl i_MO 6 (by decide) k485 rfl rfl d_MO_there_8 ?_
      refine lv_iload_n F.1 F.2.1 d_MO_there_11 rfl (lv_at hl 0 rfl) ?_
      refine x_zaldN F hK hc (by decide) (by omega) d_MO_there_12 ?_
      refine x_beq (tgt := 27) F d_MO_there_13 (by decide) (fun c13 => ?_) (fun c13 => ?_)
      · refine lv_iinc (v := (nI (k + 1))) (lv' := [(3, .int (nI (k + 1))), (0, .ref (ad 0)), (1, .int (nI i)), (2, .int (nI lim))]) F.1 F.2.1 d_MO_there_27 hl (k := 0) rfl (nI_1 k) (by decide) rfl (fun ls hl => ?_)
        refine lv_goto (tgt := 2) F.1 F.2.1 d_MO_there_30 (by decide) ?_
        exact ih (k + 1) (by omega) (by omega) (fun j h0 h hcj => by rcases Nat.lt_succ_iff_lt_or_eq.mp h with h | rfl; exact hk j h0 h hcj; rw [c13] at hcj; cases hcj) ls hl
      · refine lv_aload_n F.1 F.2.1 d_MO_there_16 rfl (lv_at hl 1 rfl) ?_
        refine lv_iload_n F.1 F.2.1 d_MO_there_17 rfl (lv_at hl 0 rfl) ?_
        refine lv_iload_n F.1 F.2.1 d_MO_there_18 rfl (lv_at hl 2 rfl) ?_
        refine x_rd (x_V (n := 2) (As := [.int (nI k), .int (nI i)]) F (c_MO_same l G ad σ wk ch k i (by omega) hi (hpl k (by omega)) (hpl i hi)) ok_MO_same k615 ⟨Nat.le_of_ble_eq_true rfl, Nat.le_of_ble_eq_true rfl⟩ rfl rfl hK (x_rcv hK hO rfl) (hP) rfl hl.1 rfl (Nat.le_of_ble_eq_true rfl) d_MO_there_19 ⟨Nat.le_of_ble_eq_true rfl, Nat.le_of_ble_eq_true rfl⟩) ?_
        refine x_beq (tgt := 27) F d_MO_there_22 (by decide) (fun c22 => ?_) (fun c22 => ?_)
        · refine lv_iinc (v := (nI (k + 1))) (lv' := [(3, .int (nI (k + 1))), (0, .ref (ad 0)), (1, .int (nI i)), (2, .int (nI lim))]) F.1 F.2.1 d_MO_there_27 hl (k := 0) rfl (nI_1 k) (by decide) rfl (fun ls hl => ?_)
          refine lv_goto (tgt := 2) F.1 F.2.1 d_MO_there_30 (by decide) ?_
          exact ih (k + 1) (by omega) (by omega) (fun j h0 h hcj => by rcases Nat.lt_succ_iff_lt_or_eq.mp h with h | rfl; exact hk j h0 h hcj; exact c22) ls hl
        · refine lv_iconst (v := 1) F.1 F.2.1 d_MO_there_25 (by decide) ?_
          exact hret _ _ _ d_MO_there_26 (by rw [thB_t (show k ≠ 0 by omega) (by omega) c13 c22]; rfl)
  refine lv_iconst (v := 1) F.1 F.2.1 d_MO_there_0 (by decide) ?_
  refine lv_istore_n (lv' := [(3, .int 1), (0, .ref (ad 0)), (1, .int (nI i)), (2, .int (nI lim))]) F.1 F.2.1 d_MO_there_1 rfl hl (by decide) rfl (fun ls hl => ?_)
  exact loop (max lim 1 - 1) 1 (by omega) (Nat.le_refl _) (fun j h0 h => by omega) ls hl
/-- different layers among the chosen below n, or their entries together -/
def dfL (σ : Sg) (ch : Nat → Bool) (en : Bool) : Nat → Nat
  | 0 => 0
  | i + 1 => dfL σ ch en i + (if (decide (i ≠ 0) && ch i && !thB σ ch i i) = true then (if en = true then (eI σ i 125).length else 1) else 0)
theorem dfL_le (σ : Sg) (ch : Nat → Bool) (en : Bool) : ∀ n, dfL σ ch en n ≤ 125 * n := by
  intro n
  induction n with
  | zero => exact Nat.le_refl _
  | succ n ih =>
    show dfL σ ch en n + _ ≤ _
    have := eI_len σ n 125
    split
    · split <;> omega
    · omega
theorem c_MO_different (l : Launch) (G : x_G) (ad : Nat → Nat) (σ : Sg) (wk : Nat → Int64) (ch : Nat → Bool) (en : Bool) (hok : gOk σ) (hp0 : gp σ 0 < 40) : Met l y_MO_different (x_ws y_MO_different b_MO_different 4 (some .int)) (x_rm 5 0 0) (x_P G [.ref (ad 0), .int (x_b en)] (MO G ad σ wk ch)) (k2_QcV (.int (nI (dfL σ ch en (gn σ))))) 0 0 (fun _ => False) := by
  refine x_mI (by decide +kernel) (Nat.le_of_ble_eq_true rfl) (fun p e s m args below meth c F hK hP ls hl Q hret => ?_)
  have hl : lv_has ls 4 [(0, .ref (ad 0)), (1, .int (x_b en))] := hl
  obtain ⟨hO, hp, ht, hh, hg, hw, hc, hj⟩ := id hP
  have hn40 := hok.2.1
  have hn1 := hok.1
  have hpr := hok.2.2.1
  have hpl : ∀ j, j < 40 → gp σ j < 40 := fun j hj => by rcases Nat.eq_zero_or_pos j with rfl | q; exact hp0; have := hpr j q; omega
  have loop : ∀ (d k : Nat), k + d = gn σ → 1 ≤ k → ∀ ls : Array Slot, lv_has ls 4 [(3, .int (nI k)), (2, .int (nI (dfL σ ch en k))), (0, .ref (ad 0)), (1, .int (x_b en))] → W p l e (x_rm 5 0 0) s m args below meth c s.heap [] 0 0 Q (F0 m 4 ls []) := by
    intro d
    induction d with
    | zero =>
      intro k hk hk1 ls hl
      have hle := dfL_le σ ch en k
      refine lv_iload_n F.1 F.2.1 d_MO_different_4 rfl (lv_at hl 0 rfl) ?_
      refine lv_aload_n F.1 F.2.1 d_MO_different_5 rfl (lv_at hl 2 rfl) ?_
      refine x_get F hK hO rfl i_MO 2 (by decide) k481 rfl rfl d_MO_different_6 ?_
      refine lv_icmp_ge (tgt := 52) F.1 F.2.1 d_MO_different_9 (by decide) (fun _ => ?_) (fun zq => absurd (pN_le (a := (gn σ)) (b := k) rfl rfl (by omega) (by omega) (by omega)) zq)
      refine lv_iload_n F.1 F.2.1 d_MO_different_52 rfl (lv_at hl 1 rfl) ?_
      exact hret _ _ _ d_MO_different_53 (by rw [show k = gn σ by omega])
    | succ d ih =>
      intro k hk hk1 ls hl
      have hle := dfL_le σ ch en k
      have hes : dfL σ ch en (k + 1) = dfL σ ch en k + (if (decide (k ≠ 0) && ch k && !thB σ ch k k) = true then (if en = true then (eI σ k 125).length else 1) else 0) := rfl
      rw [decide_eq_true (show k ≠ 0 by omega), Bool.true_and] at hes
      refine lv_iload_n F.1 F.2.1 d_MO_different_4 rfl (lv_at hl 0 rfl) ?_
      refine lv_aload_n F.1 F.2.1 d_MO_different_5 rfl (lv_at hl 2 rfl) ?_
      refine x_get F hK hO rfl i_MO 2 (by decide) k481 rfl rfl d_MO_different_6 ?_
      refine lv_icmp_ge (tgt := 52) F.1 F.2.1 d_MO_different_9 (by decide) (fun zq => absurd zq (pN_nle (a := (gn σ)) (b := k) rfl rfl (by omega) (by omega) (by omega))) (fun _ => ?_)
      refine lv_aload_n F.1 F.2.1 d_MO_different_12 rfl (lv_at hl 2 rfl) ?_
      refine x_get F hK hO rfl i_MO 6 (by decide) k485 rfl rfl d_MO_different_13 ?_
      refine lv_iload_n F.1 F.2.1 d_MO_different_16 rfl (lv_at hl 0 rfl) ?_
      refine x_zaldN F hK hc (by decide) (by omega) d_MO_different_17 ?_
      refine x_beq (tgt := 46) F d_MO_different_18 (by decide) (fun c18 => ?_) (fun c18 => ?_)
      · refine lv_iinc (v := (nI (k + 1))) (lv' := [(3, .int (nI (k + 1))), (2, .int (nI (dfL σ ch en k))), (0, .ref (ad 0)), (1, .int (x_b en))]) F.1 F.2.1 d_MO_different_46 hl (k := 0) rfl (nI_1 k) (by decide) rfl (fun ls hl => ?_)
        refine lv_goto (tgt := 4) F.1 F.2.1 d_MO_different_49 (by decide) ?_
        exact ih (k + 1) (by omega) (by omega) ls (by rw [hes, c18, Bool.false_and, if_neg (by decide), Nat.add_zero]; exact hl)
      · refine lv_aload_n F.1 F.2.1 d_MO_different_21 rfl (lv_at hl 2 rfl) ?_
        refine lv_iload_n F.1 F.2.1 d_MO_different_22 rfl (lv_at hl 0 rfl) ?_
        refine lv_iload_n F.1 F.2.1 d_MO_different_23 rfl (lv_at hl 0 rfl) ?_
        refine x_rd (x_V (n := 2) (As := [.int (nI k), .int (nI k)]) F (c_MO_there l G ad σ wk ch k k (by omega) (by omega) hpr hp0) ok_MO_there k611 ⟨Nat.le_of_ble_eq_true rfl, Nat.le_of_ble_eq_true rfl⟩ rfl rfl hK (x_rcv hK hO rfl) (hP) rfl hl.1 rfl (Nat.le_of_ble_eq_true rfl) d_MO_different_24 ⟨Nat.le_of_ble_eq_true rfl, Nat.le_of_ble_eq_true rfl⟩) ?_
        refine x_bne (tgt := 46) F d_MO_different_27 (by decide) (fun c27 => ?_) (fun c27 => ?_)
        · refine lv_iinc (v := (nI (k + 1))) (lv' := [(3, .int (nI (k + 1))), (2, .int (nI (dfL σ ch en k))), (0, .ref (ad 0)), (1, .int (x_b en))]) F.1 F.2.1 d_MO_different_46 hl (k := 0) rfl (nI_1 k) (by decide) rfl (fun ls hl => ?_)
          refine lv_goto (tgt := 4) F.1 F.2.1 d_MO_different_49 (by decide) ?_
          exact ih (k + 1) (by omega) (by omega) ls (by rw [hes, c18, c27, Bool.not_true, Bool.and_false, if_neg (by decide), Nat.add_zero]; exact hl)
        · refine lv_iload_n F.1 F.2.1 d_MO_different_30 rfl (lv_at hl 1 rfl) ?_
          refine lv_iload_n F.1 F.2.1 d_MO_different_31 rfl (lv_at hl 3 rfl) ?_
          refine x_beq (tgt := 43) F d_MO_different_32 (by decide) (fun c32 => ?_) (fun c32 => ?_)
          · refine lv_iconst (v := 1) F.1 F.2.1 d_MO_different_43 (by decide) ?_
            refine lv_iadd F.1 F.2.1 d_MO_different_44 ?_
            rw [show nI (dfL σ ch en k) + 1 = nI (dfL σ ch en k + 1) from nI_1 _]
            refine lv_istore_n (lv' := [(2, .int (nI (dfL σ ch en k + 1))), (3, .int (nI k)), (0, .ref (ad 0)), (1, .int (x_b en))]) F.1 F.2.1 d_MO_different_45 rfl hl (by decide) rfl (fun ls hl => ?_)
            refine lv_iinc (v := (nI (k + 1))) (lv' := [(3, .int (nI (k + 1))), (2, .int (nI (dfL σ ch en k + 1))), (0, .ref (ad 0)), (1, .int (x_b en))]) F.1 F.2.1 d_MO_different_46 hl (k := 1) rfl (nI_1 k) (by decide) rfl (fun ls hl => ?_)
            refine lv_goto (tgt := 4) F.1 F.2.1 d_MO_different_49 (by decide) ?_
            exact ih (k + 1) (by omega) (by omega) ls (by rw [hes, c18, c27, if_pos (show (true && !false) = true from rfl), if_neg (by rw [c32]; decide)]; exact hl)
          · refine lv_aload_n F.1 F.2.1 d_MO_different_35 rfl (lv_at hl 2 rfl) ?_
            refine lv_iload_n F.1 F.2.1 d_MO_different_36 rfl (lv_at hl 0 rfl) ?_
            refine x_rd (x_V (n := 1) (As := [.int (nI k)]) F (c_MO_size l G ad σ wk ch k (by omega) (hpl k (by omega))) ok_MO_size k625 ⟨Nat.le_of_ble_eq_true rfl, Nat.le_of_ble_eq_true rfl⟩ rfl rfl hK (x_rcv hK hO rfl) (hP) rfl hl.1 rfl (Nat.le_of_ble_eq_true rfl) d_MO_different_37 ⟨Nat.le_of_ble_eq_true rfl, Nat.le_of_ble_eq_true rfl⟩) ?_
            refine lv_goto (tgt := 44) F.1 F.2.1 d_MO_different_40 (by decide) ?_
            refine lv_iadd F.1 F.2.1 d_MO_different_44 ?_
            rw [nI_add]
            refine lv_istore_n (lv' := [(2, .int (nI (dfL σ ch en k + (eI σ k 125).length))), (3, .int (nI k)), (0, .ref (ad 0)), (1, .int (x_b en))]) F.1 F.2.1 d_MO_different_45 rfl hl (by decide) rfl (fun ls hl => ?_)
            refine lv_iinc (v := (nI (k + 1))) (lv' := [(3, .int (nI (k + 1))), (2, .int (nI (dfL σ ch en k + (eI σ k 125).length))), (0, .ref (ad 0)), (1, .int (x_b en))]) F.1 F.2.1 d_MO_different_46 hl (k := 1) rfl (nI_1 k) (by decide) rfl (fun ls hl => ?_)
            refine lv_goto (tgt := 4) F.1 F.2.1 d_MO_different_49 (by decide) ?_
            exact ih (k + 1) (by omega) (by omega) ls (by rw [hes, c18, c27, if_pos (show (true && !false) = true from rfl), if_pos c32]; exact hl)
  refine lv_iconst (v := 0) F.1 F.2.1 d_MO_different_0 (by decide) ?_
  refine lv_istore_n (lv' := [(2, .int 0), (0, .ref (ad 0)), (1, .int (x_b en))]) F.1 F.2.1 d_MO_different_1 rfl hl (by decide) rfl (fun ls hl => ?_)
  refine lv_iconst (v := 1) F.1 F.2.1 d_MO_different_2 (by decide) ?_
  refine lv_istore_n (lv' := [(3, .int 1), (2, .int 0), (0, .ref (ad 0)), (1, .int (x_b en))]) F.1 F.2.1 d_MO_different_3 rfl hl (by decide) rfl (fun ls hl => ?_)
  exact loop (gn σ - 1) 1 (by omega) (Nat.le_refl _) ls (by show lv_has ls 4 [(3, .int (nI 1)), (2, .int (nI (0 + _))), _, _]; rw [if_neg (by simp)]; exact hl)

