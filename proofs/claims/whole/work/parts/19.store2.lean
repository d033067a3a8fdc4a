/-! ===== Store ===== -/
def ST (G : x_G) (a b c : Nat) (hb : Nat → Bool) (tg : Nat → Nat) (H : Heap) : Prop := va_at G.1 x_cl (a, .inr (3, [.ref b, .ref c])) H ∧ x_az G b 40 (fun i => x_b (hb i)) H ∧ x_ai G c 6 (fun i => nI (tg i)) H ∧ a ≠ b ∧ a ≠ c ∧ b ≠ c
def inS (hb : Nat → Bool) (x : Int32) : Bool := !decide (x < 0) && !decide (40 ≤ x) && hb x.toNatClampNeg
theorem vp_of {x c : Int32} {n : Nat} (hc : c = nI n) (hn : n < 2 ^ 31) (h1 : ¬ x < 0) (h2 : ¬ c ≤ x) : vp_in x n := by
  rcases pk_ix x hn with h | h | ⟨j, h3, rfl⟩
  · exact absurd h h1
  · exact absurd (hc ▸ h) h2
  · exact vp_in_nI h3 hn
theorem x_b0 (j : Nat) {v : Int32} (hv : j ≠ 0 → v = 0) : (if j = (0 : Int32).toNatClampNeg then (1 : Int32) else v) = x_b (decide (j = 0)) := by
  have e : (0 : Int32).toNatClampNeg = 0 := by decide
  rw [e]
  by_cases h : j = 0
  · rw [if_pos h, decide_eq_true h]; rfl
  · rw [if_neg h, decide_eq_false h, hv h]; rfl
theorem c_ST_holds (l : Launch) (G : x_G) (a b c0 : Nat) (hb : Nat → Bool) (tg : Nat → Nat) (x : Int32) : Met l y_ST_holds (x_ws y_ST_holds b_ST_holds 2 (some .boolean)) (x_rm 0 0 0) (x_P G [.ref a, .int x] (ST G a b c0 hb tg)) (k2_QcV (.int (x_b (inS hb x)))) 0 0 (fun _ => False) := by
  refine x_mZ (by decide +kernel) (Nat.le_of_ble_eq_true rfl) (fun p e s m args below meth c F hK hP ls hl Q hret => ?_)
  have hl : lv_has ls 2 [(0, .ref a), (1, .int x)] := hl
  obtain ⟨hT, hH, hN, -⟩ := hP
  refine lv_iload_n F.1 F.2.1 d_ST_holds_0 rfl (lv_at hl 1 rfl) ?_
  refine lv_if_lt (tgt := 23) F.1 F.2.1 d_ST_holds_1 (by decide) (fun c1 => ?_) (fun c1 => ?_)
  · refine lv_iconst (v := 0) F.1 F.2.1 d_ST_holds_23 (by decide) ?_
    exact hret _ _ _ d_ST_holds_24 (by unfold inS; rw [decide_eq_true c1]; rfl)
  · refine lv_iload_n F.1 F.2.1 d_ST_holds_4 rfl (lv_at hl 1 rfl) ?_
    refine lv_bipush (v := 40) F.1 F.2.1 d_ST_holds_5 (by decide) ?_
    refine lv_icmp_ge (tgt := 23) F.1 F.2.1 d_ST_holds_7 (by decide) (fun c2 => ?_) (fun c2 => ?_)
    · refine lv_iconst (v := 0) F.1 F.2.1 d_ST_holds_23 (by decide) ?_
      exact hret _ _ _ d_ST_holds_24 (by unfold inS; rw [decide_eq_true c2]; simp [x_b])
    · refine lv_aload_n F.1 F.2.1 d_ST_holds_10 rfl (lv_at hl 0 rfl) ?_
      refine x_get F hK hT rfl i_ST 0 (by decide) k60 rfl rfl d_ST_holds_11 ?_
      refine lv_iload_n F.1 F.2.1 d_ST_holds_14 rfl (lv_at hl 1 rfl) ?_
      refine x_zald F hK hH (vp_of rfl (by decide) c1 c2) d_ST_holds_15 ?_
      refine x_beq (tgt := 23) F d_ST_holds_16 (by decide) (fun c3 => ?_) (fun c3 => ?_)
      · refine lv_iconst (v := 0) F.1 F.2.1 d_ST_holds_23 (by decide) ?_
        exact hret _ _ _ d_ST_holds_24 (by unfold inS; rw [c3]; simp [x_b])
      · refine lv_iconst (v := 1) F.1 F.2.1 d_ST_holds_19 (by decide) ?_
        refine lv_goto (tgt := 24) F.1 F.2.1 d_ST_holds_20 (by decide) ?_
        exact hret _ _ _ d_ST_holds_24 (by unfold inS; rw [c3, decide_eq_false c1, decide_eq_false c2]; rfl)
theorem inS_n (hb : Nat → Bool) {i : Nat} (hi : i < 40) : inS hb (nI i) = hb i := by
  unfold inS
  rw [decide_eq_false (nI_pos (by omega)), decide_eq_false (show ¬ (40 : Int32) ≤ nI i from pN_nle (a := 40) (b := i) rfl rfl (by omega) (by omega) (by omega)), nI_clamp (by omega)]
  rfl
theorem inS_out (hb : Nat → Bool) {x : Int32} (h : x < 0 ∨ 40 ≤ x) : inS hb x = false := by
  unfold inS
  rcases h with h | h
  · rw [decide_eq_true h]; rfl
  · rw [decide_eq_true h]; simp
theorem c_ST_nameOf (l : Launch) (G : x_G) (a b c0 : Nat) (hb : Nat → Bool) (tg : Nat → Nat) (t : Nat) (ht : t < 6) : Met l y_ST_nameOf (x_ws y_ST_nameOf b_ST_nameOf 2 (some .int)) (x_rm 0 0 0) (x_P G [.ref a, .int (nI t)] (ST G a b c0 hb tg)) (k2_QcV (.int (nI (tg t)))) 0 0 (fun _ => False) := by
  refine x_mI (by decide +kernel) (Nat.le_of_ble_eq_true rfl) (fun p e s m args below meth c F hK hP ls hl Q hret => ?_)
  have hl : lv_has ls 2 [(0, .ref a), (1, .int (nI t))] := hl
  obtain ⟨hT, hH, hN, -⟩ := hP
  refine lv_aload_n F.1 F.2.1 d_ST_nameOf_0 rfl (lv_at hl 0 rfl) ?_
  refine x_get F hK hT rfl i_ST 1 (by decide) k61 rfl rfl d_ST_nameOf_1 ?_
  refine lv_iload_n F.1 F.2.1 d_ST_nameOf_4 rfl (lv_at hl 1 rfl) ?_
  refine x_ialdN F hK hN (by decide) (by omega) d_ST_nameOf_5 ?_
  exact hret _ _ _ d_ST_nameOf_6 rfl
theorem c_ST_giveName (l : Launch) (G : x_G) (a b c0 : Nat) (hb : Nat → Bool) (tg : Nat → Nat) (t v : Nat) (ht : t < 6) : Met l y_ST_giveName (x_ws y_ST_giveName b_ST_giveName 3 none) (x_rm 0 0 0) (x_P G [.ref a, .int (nI t), .int (nI v)] (ST G a b c0 hb tg)) (x_Q (fun r H H1 => r = none ∧ ST G a b c0 hb (va_up tg t v) H1 ∧ x_off (fun q => q = c0) H H1)) 0 0 (fun q => q = c0) := by
  refine x_wV (by decide +kernel) (Nat.le_of_ble_eq_true rfl) (fun p e s m args below meth c F hnm hK hP ls hl Q hret => ?_)
  have hl : lv_has ls 3 [(0, .ref a), (1, .int (nI t)), (2, .int (nI v))] := hl
  obtain ⟨hT, hH, hN, h1, h2, h3⟩ := hP
  have hS : va_S (fun q => q = c0) s.heap s.heap [] := va_S.rf
  refine lv_aload_n F.1 F.2.1 d_ST_giveName_0 rfl (lv_at hl 0 rfl) ?_
  refine x_get F hK hT rfl i_ST 1 (by decide) k61 rfl rfl d_ST_giveName_1 ?_
  refine lv_iload_n F.1 F.2.1 d_ST_giveName_4 rfl (lv_at hl 1 rfl) ?_
  refine lv_iload_n F.1 F.2.1 d_ST_giveName_5 rfl (lv_at hl 2 rfl) ?_
  refine x_iastN F hK hN (by decide) (by omega) hS rfl d_ST_giveName_6 (fun H1 locs hN hz1 ho1 hS => ?_)
  have hT := va_at.kept hT (ho1 _ h2)
  have hH := va_at.kept hH (ho1 _ h3)
  refine hret _ _ _ _ _ _ d_ST_giveName_7 ⟨rfl, ⟨hT, hH, x_ai.cg hN (fun j _ => ?_), h1, h2, h3⟩, hS.off⟩ hS.2.2 (Nat.le_refl _) (Nat.le_refl _)
  unfold upd va_up
  by_cases hj : j = t
  · rw [if_pos hj, if_pos hj]
  · rw [if_neg hj, if_neg hj]
def hOr (hb : Nat → Bool) (i : Nat) : Nat → Bool := fun j => hb j || decide (j = i)
theorem c_ST_hold (l : Launch) (G : x_G) (a b c0 : Nat) (hb : Nat → Bool) (tg : Nat → Nat) (i : Nat) (hi : i ≤ 40) : Met l y_ST_hold (x_ws y_ST_hold b_ST_hold 2 none) (x_rm 0 0 0) (x_P G [.ref a, .int (nI i)] (ST G a b c0 hb tg)) (x_Q (fun r H H1 => r = none ∧ ST G a b c0 (hOr hb i) tg H1 ∧ x_off (fun q => q = b) H H1)) 0 0 (fun q => q = b) := by
  refine x_wV (by decide +kernel) (Nat.le_of_ble_eq_true rfl) (fun p e s m args below meth c F hnm hK hP ls hl Q hret => ?_)
  have hl : lv_has ls 2 [(0, .ref a), (1, .int (nI i))] := hl
  obtain ⟨hT, hH, hN, h1, h2, h3⟩ := hP
  have hS : va_S (fun q => q = b) s.heap s.heap [] := va_S.rf
  refine lv_iload_n F.1 F.2.1 d_ST_hold_0 rfl (lv_at hl 1 rfl) ?_
  refine lv_if_lt (tgt := 17) F.1 F.2.1 d_ST_hold_1 (by decide) (fun zq => absurd zq (pN_nlt (a := i) (b := 0) rfl rfl (by omega) (by omega) (by omega))) (fun _ => ?_)
  refine lv_iload_n F.1 F.2.1 d_ST_hold_4 rfl (lv_at hl 1 rfl) ?_
  refine lv_bipush (v := 40) F.1 F.2.1 d_ST_hold_5 (by decide) ?_
  refine lv_icmp_ge (tgt := 17) F.1 F.2.1 d_ST_hold_7 (by decide) (fun c7 => ?_) (fun c7 => ?_)
  · have c7 := (pN_leI (a := 40) (b := i) rfl rfl (by omega) (by omega)).mp c7
    refine hret _ _ _ _ _ _ d_ST_hold_17 ⟨rfl, ⟨hT, x_az.cg hH (fun j hj => ?_), hN, h1, h2, h3⟩, hS.off⟩ hS.2.2 (Nat.le_refl _) (Nat.le_refl _)
    unfold hOr
    rw [decide_eq_false (by omega), Bool.or_false]
  · have c7 := mt (pN_leI (a := 40) (b := i) rfl rfl (by omega) (by omega)).mpr c7
    refine lv_aload_n F.1 F.2.1 d_ST_hold_10 rfl (lv_at hl 0 rfl) ?_
    refine x_get F hK hT rfl i_ST 0 (by decide) k60 rfl rfl d_ST_hold_11 ?_
    refine lv_iload_n F.1 F.2.1 d_ST_hold_14 rfl (lv_at hl 1 rfl) ?_
    refine lv_iconst (v := 1) F.1 F.2.1 d_ST_hold_15 (by decide) ?_
    refine x_zastN F hK hH (by first | rfl | decide) (by decide) (by omega) hS rfl d_ST_hold_16 (fun H2 locs hH hz2 ho2 hS => ?_)
    have hT := va_at.kept hT (ho2 _ h1)
    have hN := va_at.kept hN (ho2 _ (Ne.symm h3))
    refine hret _ _ _ _ _ _ d_ST_hold_17 ⟨rfl, ⟨hT, x_az.cg hH (fun j hj => ?_), hN, h1, h2, h3⟩, hS.off⟩ hS.2.2 (Nat.le_refl _) (Nat.le_refl _)
    unfold upd hOr
    by_cases hji : j = i
    · rw [if_pos hji, decide_eq_true hji, Bool.or_true]; rfl
    · rw [if_neg hji, decide_eq_false hji, Bool.or_false]
/-- image 0, and what the first k tags name -/
def hNm (tg : Nat → Nat) (k : Nat) : Nat → Bool := fun j => decide (j = 0) || (List.range k).any fun t => decide (tg t = j)
theorem hNm_0 (tg : Nat → Nat) : hNm tg 0 = fun j => decide (j = 0) := funext fun j => by simp [hNm]
theorem hNm_s (tg : Nat → Nat) (k : Nat) : hOr (hNm tg k) (tg k) = hNm tg (k + 1) := funext fun j => by
  unfold hOr hNm
  rw [List.range_succ, List.any_append, Bool.or_assoc]
  congr 1
  congr 1
  simp [eq_comm]
theorem c_ST_holdOnlyNamed (l : Launch) (G : x_G) (a b c0 : Nat) (hb : Nat → Bool) (tg : Nat → Nat) (htg : ∀ t, t < 6 → tg t ≤ 40) : Met l y_ST_holdOnlyNamed (x_ws y_ST_holdOnlyNamed b_ST_holdOnlyNamed 5 none) (x_rm 1 0 0) (x_P G [.ref a] (ST G a b c0 hb tg)) (x_Q (fun r H H1 => r = none ∧ ST G a b c0 (hNm tg 6) tg H1 ∧ x_off (fun q => q = b) H H1)) 0 0 (fun q => q = b) := by
  refine x_wV (by decide +kernel) (Nat.le_of_ble_eq_true rfl) (fun p e s m args below meth c F hnm hK hP ls hl Q hret => ?_)
  have hl : lv_has ls 5 [(0, .ref a)] := hl
  obtain ⟨hT, hH, hN, h1, h2, h3⟩ := hP
  have hS : va_S (fun q => q = b) s.heap s.heap [] := va_S.rf
  have hT0 := hT
  have hN0 := hN
  have loop2 : ∀ (d k : Nat), k + d = 6 → ∀ (H : Heap) (locs : List Loc), x_az G b 40 (fun i => x_b (hNm tg k i)) H → va_S (fun q => q = b) s.heap H locs → ∀ ls : Array Slot, lv_has ls 5 [(3, .int (nI k)), (2, .int (nI 6)), (1, .ref c0), (0, .ref a)] → W p l e (x_rm 1 0 0) s m args below meth c H locs 0 0 Q (F0 m 38 ls []) := by
    intro d
    induction d with
    | zero =>
      intro k hk H locs hH hS ls hl
      obtain rfl : k = 6 := by omega
      refine lv_iload_n F.1 F.2.1 d_ST_holdOnlyNamed_38 rfl (lv_at hl 0 rfl) ?_
      refine lv_iload_n F.1 F.2.1 d_ST_holdOnlyNamed_39 rfl (lv_at hl 1 rfl) ?_
      refine lv_icmp_ge (tgt := 60) F.1 F.2.1 d_ST_holdOnlyNamed_40 (by decide) (fun _ => ?_) (fun zq => absurd (pN_le (a := 6) (b := 6) rfl rfl (by omega) (by omega) (by omega)) zq)
      exact hret _ _ _ _ _ _ d_ST_holdOnlyNamed_60 ⟨rfl, ⟨x_keep hT0 hS.off h1, hH, x_keep hN0 hS.off (Ne.symm h3), h1, h2, h3⟩, hS.off⟩ hS.2.2 (Nat.le_refl _) (Nat.le_refl _)
    | succ d ih =>
      intro k hk H locs hH hS ls hl
      have hT := x_keep hT0 hS.off h1
      have hN := x_keep hN0 hS.off (Ne.symm h3)
      refine lv_iload_n F.1 F.2.1 d_ST_holdOnlyNamed_38 rfl (lv_at hl 0 rfl) ?_
      refine lv_iload_n F.1 F.2.1 d_ST_holdOnlyNamed_39 rfl (lv_at hl 1 rfl) ?_
      refine lv_icmp_ge (tgt := 60) F.1 F.2.1 d_ST_holdOnlyNamed_40 (by decide) (fun zq => absurd zq (pN_nle (a := 6) (b := k) rfl rfl (by omega) (by omega) (by omega))) (fun _ => ?_)
      refine lv_aload_n F.1 F.2.1 d_ST_holdOnlyNamed_43 rfl (lv_at hl 2 rfl) ?_
      refine lv_iload_n F.1 F.2.1 d_ST_holdOnlyNamed_44 rfl (lv_at hl 0 rfl) ?_
      refine x_ialdN F hK hN (by decide) (by omega) d_ST_holdOnlyNamed_45 ?_
      refine lv_istore (lv' := [(4, .int (nI (tg k))), (3, .int (nI k)), (2, .int (nI 6)), (1, .ref c0), (0, .ref a)]) F.1 F.2.1 d_ST_holdOnlyNamed_46 hl (by decide) rfl (fun ls hl => ?_)
      refine lv_aload_n F.1 F.2.1 d_ST_holdOnlyNamed_48 rfl (lv_at hl 4 rfl) ?_
      refine lv_iload F.1 F.2.1 d_ST_holdOnlyNamed_49 (lv_at hl 0 rfl) ?_
      refine x_wr (x_V (n := 1) (As := [.int (nI (tg k))]) F (c_ST_hold l G a b c0 (hNm tg k) tg (tg k) (htg k (by omega))) ok_ST_hold k392 ⟨Nat.le_of_ble_eq_true rfl, Nat.le_of_ble_eq_true rfl⟩ rfl rfl hK (x_rcv hK hT rfl) (⟨hT, hH, hN, h1, h2, h3⟩) rfl hl.1 rfl (Nat.le_of_ble_eq_true rfl) d_ST_holdOnlyNamed_51 ⟨Nat.le_of_ble_eq_true rfl, Nat.le_of_ble_eq_true rfl⟩) hS (fun _ h => h) (fun _ _ h => h.2.2) (fun v H3 locs hpost hS => ?_)
      obtain ⟨rfl, ⟨hT, hH, hN, -⟩, ho⟩ := hpost
      have hl : lv_has ls 5 [(3, .int (nI k)), (2, .int (nI 6)), (1, .ref c0), (0, .ref a)] := lv_sub hl [1, 2, 3, 4] rfl
      refine lv_iinc (v := (nI (k + 1))) (lv' := [(3, .int (nI (k + 1))), (2, .int (nI 6)), (1, .ref c0), (0, .ref a)]) F.1 F.2.1 d_ST_holdOnlyNamed_54 hl (k := 0) rfl (nI_1 k) (by decide) rfl (fun ls hl => ?_)
      refine lv_goto (tgt := 38) F.1 F.2.1 d_ST_holdOnlyNamed_57 (by decide) ?_
      exact ih (k + 1) (by omega) _ _ (by rw [← hNm_s]; exact hH) hS ls hl
  have loop1 : ∀ (d k : Nat), k + d = 40 → ∀ (H : Heap) (locs : List Loc), x_az G b 40 (fillI (fun i => x_b (hb i)) 0 k) H → va_S (fun q => q = b) s.heap H locs → ∀ ls : Array Slot, lv_has ls 5 [(1, .int (nI k)), (0, .ref a)] → W p l e (x_rm 1 0 0) s m args below meth c H locs 0 0 Q (F0 m 2 ls []) := by
    intro d
    induction d with
    | zero =>
      intro k hk H locs hH hS ls hl
      have hT := x_keep hT0 hS.off h1
      have hN := x_keep hN0 hS.off (Ne.symm h3)
      refine lv_iload_n F.1 F.2.1 d_ST_holdOnlyNamed_2 rfl (lv_at hl 0 rfl) ?_
      refine lv_bipush (v := 40) F.1 F.2.1 d_ST_holdOnlyNamed_3 (by decide) ?_
      refine lv_icmp_ge (tgt := 21) F.1 F.2.1 d_ST_holdOnlyNamed_5 (by decide) (fun _ => ?_) (fun zq => absurd (pN_le (a := 40) (b := k) rfl rfl (by omega) (by omega) (by omega)) zq)
      refine lv_aload_n F.1 F.2.1 d_ST_holdOnlyNamed_21 rfl (lv_at hl 1 rfl) ?_
      refine x_get F hK hT rfl i_ST 0 (by decide) k60 rfl rfl d_ST_holdOnlyNamed_22 ?_
      refine lv_iconst (v := 0) F.1 F.2.1 d_ST_holdOnlyNamed_25 (by decide) ?_
      refine lv_iconst (v := 1) F.1 F.2.1 d_ST_holdOnlyNamed_26 (by decide) ?_
      refine x_zast F hK hH (by first | rfl | decide) (by unfold vp_in; decide) hS rfl d_ST_holdOnlyNamed_27 (fun H4 locs hH hz4 ho4 hS => ?_)
      have hT := va_at.kept hT (ho4 _ h1)
      have hN := va_at.kept hN (ho4 _ (Ne.symm h3))
      refine lv_aload_n F.1 F.2.1 d_ST_holdOnlyNamed_28 rfl (lv_at hl 1 rfl) ?_
      refine x_get F hK hT rfl i_ST 1 (by decide) k61 rfl rfl d_ST_holdOnlyNamed_29 ?_
      refine lv_astore_n (lv' := [(1, .ref c0), (0, .ref a)]) F.1 F.2.1 d_ST_holdOnlyNamed_32 rfl hl (by decide) rfl (fun ls hl => ?_)
      refine lv_aload_n F.1 F.2.1 d_ST_holdOnlyNamed_33 rfl (lv_at hl 0 rfl) ?_
      refine x_alen F hK hN 0 rfl d_ST_holdOnlyNamed_34 ?_
      refine lv_istore_n (lv' := [(2, .int (nI 6)), (1, .ref c0), (0, .ref a)]) F.1 F.2.1 d_ST_holdOnlyNamed_35 rfl hl (by decide) rfl (fun ls hl => ?_)
      refine lv_iconst (v := 0) F.1 F.2.1 d_ST_holdOnlyNamed_36 (by decide) ?_
      refine lv_istore_n (lv' := [(3, .int 0), (2, .int (nI 6)), (1, .ref c0), (0, .ref a)]) F.1 F.2.1 d_ST_holdOnlyNamed_37 rfl hl (by decide) rfl (fun ls hl => ?_)
      refine loop2 6 0 rfl _ _ (x_az.cg hH (fun j hj => ?_)) hS ls hl
      rw [hNm_0]
      exact x_b0 j (fun _ => if_pos (by omega))
    | succ d ih =>
      intro k hk H locs hH hS ls hl
      have hT := x_keep hT0 hS.off h1
      have hN := x_keep hN0 hS.off (Ne.symm h3)
      refine lv_iload_n F.1 F.2.1 d_ST_holdOnlyNamed_2 rfl (lv_at hl 0 rfl) ?_
      refine lv_bipush (v := 40) F.1 F.2.1 d_ST_holdOnlyNamed_3 (by decide) ?_
      refine lv_icmp_ge (tgt := 21) F.1 F.2.1 d_ST_holdOnlyNamed_5 (by decide) (fun zq => absurd zq (pN_nle (a := 40) (b := k) rfl rfl (by omega) (by omega) (by omega))) (fun _ => ?_)
      refine lv_aload_n F.1 F.2.1 d_ST_holdOnlyNamed_8 rfl (lv_at hl 1 rfl) ?_
      refine x_get F hK hT rfl i_ST 0 (by decide) k60 rfl rfl d_ST_holdOnlyNamed_9 ?_
      refine lv_iload_n F.1 F.2.1 d_ST_holdOnlyNamed_12 rfl (lv_at hl 0 rfl) ?_
      refine lv_iconst (v := 0) F.1 F.2.1 d_ST_holdOnlyNamed_13 (by decide) ?_
      refine x_zastN F hK hH (by first | rfl | decide) (by decide) (by omega) hS rfl d_ST_holdOnlyNamed_14 (fun H5 locs hH hz5 ho5 hS => ?_)
      have hT := va_at.kept hT (ho5 _ h1)
      have hN := va_at.kept hN (ho5 _ (Ne.symm h3))
      refine lv_iinc (v := (nI (k + 1))) (lv' := [(1, .int (nI (k + 1))), (0, .ref a)]) F.1 F.2.1 d_ST_holdOnlyNamed_15 hl (k := 0) rfl (nI_1 k) (by decide) rfl (fun ls hl => ?_)
      refine lv_goto (tgt := 2) F.1 F.2.1 d_ST_holdOnlyNamed_18 (by decide) ?_
      exact ih (k + 1) (by omega) _ _ (by rw [← fillI_s]; exact hH) hS ls hl
  refine lv_iconst (v := 0) F.1 F.2.1 d_ST_holdOnlyNamed_0 (by decide) ?_
  refine lv_istore_n (lv' := [(1, .int 0), (0, .ref a)]) F.1 F.2.1 d_ST_holdOnlyNamed_1 rfl hl (by decide) rfl (fun ls hl => ?_)
  exact loop1 40 0 rfl _ _ (x_az.cg hH (fun j _ => (if_neg (Nat.not_lt_zero j)).symm)) hS ls hl
theorem c_ST_init (l : Launch) (G : x_G) (a sz : Nat) : Met l y_ST_init (x_ws y_ST_init b_ST_init 1 none) (x_rm 1 2 46) (x_P G [.ref a] (fun H => H.size = sz ∧ va_at G.1 x_cl (a, .inr (3, [.null, .null])) H)) (x_Q (fun r H H1 => r = none ∧ (∃ b c0, sz ≤ b ∧ sz ≤ c0 ∧ ST G a b c0 (fun j => decide (j = 0)) (fun _ => 40) H1) ∧ x_off (fun q => q = a) H H1)) 2 46 (fun q => q = a ∨ sz ≤ q) := by
  refine x_wV (by decide +kernel) (Nat.le_of_ble_eq_true rfl) (fun p e s m args below meth c F hnm hK hP ls hl Q hret => ?_)
  have hl : lv_has ls 1 [(0, .ref a)] := hl
  obtain ⟨hsz, hT⟩ := hP
  have hS : va_S (fun q => q = a ∨ sz ≤ q) s.heap s.heap [] := va_S.rf
  refine lv_aload_n F.1 F.2.1 d_ST_init_0 rfl (lv_at hl 0 rfl) ?_
  refine x_oi F k56 hl.1 d_ST_init_1 (by decide) (by decide) ?_
  refine lv_aload_n F.1 F.2.1 d_ST_init_4 rfl (lv_at hl 0 rfl) ?_
  refine lv_bipush (v := 40) F.1 F.2.1 d_ST_init_5 (by decide) ?_
  refine x_newaZ (N := 40) F hK (by omega) (show 0 + 1 ≤ 2 by omega) (show 0 + 40 ≤ 46 by omega) hS d_ST_init_7 (fun b H6 hb hH hz6 ho6 hS => ?_)
  have n_a_b : a ≠ b := by have z := va_at.lt hT; dsimp only at z; omega
  have hT := va_at.kept hT (ho6 _ (va_at.lt hT))
  refine x_putF F hnm hK hT rfl i_ST t_ST p_ST n_ST 0 (by decide) k60 rfl rfl rfl rfl rfl (Nat.le_of_ble_eq_true rfl) hS (Or.inl rfl) d_ST_init_9 (fun H7 locs hT hz7 ho7 hS => ?_)
  have hT : va_at G.1 x_cl (a, .inr (3, [.ref b, .null])) H7 := hT
  have hH := va_at.kept hH (ho7 _ (Ne.symm n_a_b))
  refine lv_aload_n F.1 F.2.1 d_ST_init_12 rfl (lv_at hl 0 rfl) ?_
  refine x_get F hK hT rfl i_ST 0 (by decide) k60 rfl rfl d_ST_init_13 ?_
  refine lv_iconst (v := 0) F.1 F.2.1 d_ST_init_16 (by decide) ?_
  refine lv_iconst (v := 1) F.1 F.2.1 d_ST_init_17 (by decide) ?_
  refine x_zast F hK hH (by first | rfl | decide) (by unfold vp_in; decide) hS (Or.inr (by omega)) d_ST_init_18 (fun H8 locs hH hz8 ho8 hS => ?_)
  have hT := va_at.kept hT (ho8 _ n_a_b)
  refine lv_aload_n F.1 F.2.1 d_ST_init_19 rfl (lv_at hl 0 rfl) ?_
  refine lv_bipush (v := 6) F.1 F.2.1 d_ST_init_20 (by decide) ?_
  refine x_newaI (N := 6) F hK (by omega) (show (0 + 1) + 1 ≤ 2 by omega) (show (0 + 40) + 6 ≤ 46 by omega) hS d_ST_init_22 (fun c0 H9 hc0 hN hz9 ho9 hS => ?_)
  have n_a_c0 : a ≠ c0 := by have z := va_at.lt hT; dsimp only at z; omega
  have hT := va_at.kept hT (ho9 _ (va_at.lt hT))
  have n_b_c0 : b ≠ c0 := by have z := va_at.lt hH; dsimp only at z; omega
  have hH := va_at.kept hH (ho9 _ (va_at.lt hH))
  have hbs : sz ≤ b := by omega
  have hcs : sz ≤ c0 := by omega
  refine x_putF F hnm hK hT rfl i_ST t_ST p_ST n_ST 1 (by decide) k61 rfl rfl rfl rfl rfl (Nat.le_of_ble_eq_true rfl) hS (Or.inl rfl) d_ST_init_24 (fun H10 locs hT hz10 ho10 hS => ?_)
  have hT : va_at G.1 x_cl (a, .inr (3, [.ref b, .ref c0])) H10 := hT
  have hH := va_at.kept hH (ho10 _ (Ne.symm n_a_b))
  have hN := va_at.kept hN (ho10 _ (Ne.symm n_a_c0))
  refine lv_aload_n F.1 F.2.1 d_ST_init_27 rfl (lv_at hl 0 rfl) ?_
  refine x_get F hK hT rfl i_ST 1 (by decide) k61 rfl rfl d_ST_init_28 ?_
  refine lv_bipush (v := 40) F.1 F.2.1 d_ST_init_31 (by decide) ?_
  refine x_wr (x_S (n := 2) (As := [.ref c0, .int 40]) F (c_AR_fillI l G c0 6 (fun _ => 0) 40 (by decide)) ok_AR_fillI k57 ⟨Nat.le_of_ble_eq_true rfl, Nat.le_of_ble_eq_true rfl⟩ rfl rfl hK (hN) rfl hl.1 rfl (Nat.le_of_ble_eq_true rfl) d_ST_init_33 ⟨Nat.le_of_ble_eq_true rfl, Nat.le_of_ble_eq_true rfl⟩) hS (fun q h => by rw [h]; exact Or.inr hcs) (fun _ _ h => h.2.2.mono (fun q h => by rw [h]; exact Or.inr hcs)) (fun v H11 locs hpost hS => ?_)
  obtain ⟨rfl, hN, ho⟩ := hpost
  have hT := x_keep hT ho n_a_c0
  have hH := x_keep hH ho n_b_c0
  refine hret _ _ _ _ _ _ d_ST_init_36 ⟨rfl, ⟨b, c0, hbs, hcs, hT, x_az.cg hH (fun j _ => ?_), hN, n_a_b, n_a_c0, n_b_c0⟩, hS.1, fun q h1 h2 => hS.2.1 q h1 (fun z => z.elim h2 (fun z => by omega))⟩ hS.2.2 (Nat.le_of_ble_eq_true rfl) (Nat.le_of_ble_eq_true rfl)
  exact x_b0 j (fun _ => rfl)

