/-! ===== the model: new ===== -/
def σ0 : Sg := (1, fun _ => 0, fun i => if i = 0 then tBare else fun _ => 0, fun _ i => decide (i = 0), fun _ _ => 40, 0)
def tB (k : Nat) : Nat → Int64 := fun j => if j < k then tBare j else 0
theorem tB_s (k : Nat) : vp_updL (tB k) k (tBare k) = tB (k + 1) := funext fun j => by
  unfold vp_updL tB
  by_cases h : j = k
  · rw [if_pos h, if_pos (by omega), h]
  · rw [if_neg h]
    by_cases h2 : j < k
    · rw [if_pos h2, if_pos (by omega)]
    · rw [if_neg h2, if_neg (by omega)]
theorem tB_125 : tB 125 = mT σ0 := funext fun j => by
  unfold tB mT
  show _ = (if j / 125 = 0 then tBare else fun _ => 0) (j % 125)
  by_cases h : j < 125
  · rw [if_pos h, if_pos (by omega), show j % 125 = j by omega]
  · rw [if_neg h, if_neg (by omega)]
def adF (a q1 q2 q3 q4 q5 q6 : Nat) : Nat → Nat
  | 0 => a
  | 1 => q1
  | 2 => q2
  | 3 => q3
  | 4 => q4
  | 5 => q5
  | _ => q6
theorem c_MO_init (l : Launch) (G : x_G) (a sz : Nat) : Met l y_MO_init (x_ws y_MO_init b_MO_init 2 none) (x_rm 1 6 5297) (x_P G [.ref a] (fun H => H.size = sz ∧ va_at G.1 x_cl (a, .inr (6, [.null, .null, .int 0, .null, .null, .null, .null, .int 0])) H)) (x_Q (fun r H H1 => r = none ∧ (∃ ad, ad 0 = a ∧ (∀ i, 1 ≤ i → i ≤ 6 → sz ≤ ad i) ∧ MO G ad σ0 (fun _ => 0) (fun _ => false) H1) ∧ x_off (fun q => q = a) H H1)) 6 5297 (fun q => q = a ∨ sz ≤ q) := by
  refine x_wV (by decide +kernel) (Nat.le_of_ble_eq_true rfl) (fun p e s m args below meth c F hnm hK hP ls hl Q hret => ?_)
  have hl : lv_has ls 2 [(0, .ref a)] := hl
  obtain ⟨hsz, hO⟩ := hP
  have hS : va_S (fun q => q = a ∨ sz ≤ q) s.heap s.heap [] := va_S.rf
  have ha : a < sz := by rw [← hsz]; exact hO.lt
  refine lv_aload_n F.1 F.2.1 d_MO_init_0 rfl (lv_at hl 0 rfl) ?_
  refine x_oi F k476 hl.1 d_MO_init_1 (by decide) (by decide) ?_
  refine lv_aload_n F.1 F.2.1 d_MO_init_4 rfl (lv_at hl 0 rfl) ?_
  refine lv_bipush (v := 40) F.1 F.2.1 d_MO_init_5 (by decide) ?_
  refine x_newaI (N := 40) F hK (by omega) (show 0 + 1 ≤ 6 by omega) (show 0 + 40 ≤ 5297 by omega) hS d_MO_init_7 (fun q1 H1 hq1 hp hz1 ho1 hS => ?_)
  have n_a_q1 : a ≠ q1 := by have z := va_at.lt hO; dsimp only at z; omega
  have hO := va_at.kept hO (ho1 _ (va_at.lt hO))
  have s1 : sz ≤ q1 := by omega
  refine x_putF F hnm hK hO rfl i_MO t_MO p_MO n_MO 0 (by decide) k479 rfl rfl rfl rfl rfl (Nat.le_of_ble_eq_true rfl) hS (Or.inl rfl) d_MO_init_9 (fun H2 locs hO hz2 ho2 hS => ?_)
  have hO : va_at G.1 x_cl (a, .inr (6, [.ref q1, .null, .int 0, .null, .null, .null, .null, .int 0])) H2 := hO
  have hp := va_at.kept hp (ho2 _ (Ne.symm n_a_q1))
  refine lv_aload_n F.1 F.2.1 d_MO_init_12 rfl (lv_at hl 0 rfl) ?_
  refine lv_sipush (v := 5000) F.1 F.2.1 d_MO_init_13 (by decide) ?_
  refine x_newaJ (N := 5000) F hK (by omega) (show (0 + 1) + 1 ≤ 6 by omega) (show (0 + 40) + 5000 ≤ 5297 by omega) hS d_MO_init_16 (fun q2 H3 hq2 ht hz3 ho3 hS => ?_)
  have n_a_q2 : a ≠ q2 := by have z := va_at.lt hO; dsimp only at z; omega
  have hO := va_at.kept hO (ho3 _ (va_at.lt hO))
  have n_q1_q2 : q1 ≠ q2 := by have z := va_at.lt hp; dsimp only at z; omega
  have hp := va_at.kept hp (ho3 _ (va_at.lt hp))
  have s2 : sz ≤ q2 := by omega
  refine x_putF F hnm hK hO rfl i_MO t_MO p_MO n_MO 1 (by decide) k480 rfl rfl rfl rfl rfl (Nat.le_of_ble_eq_true rfl) hS (Or.inl rfl) d_MO_init_18 (fun H4 locs hO hz4 ho4 hS => ?_)
  have hO : va_at G.1 x_cl (a, .inr (6, [.ref q1, .ref q2, .int 0, .null, .null, .null, .null, .int 0])) H4 := hO
  have hp := va_at.kept hp (ho4 _ (Ne.symm n_a_q1))
  have ht := va_at.kept ht (ho4 _ (Ne.symm n_a_q2))
  refine lv_aload_n F.1 F.2.1 d_MO_init_21 rfl (lv_at hl 0 rfl) ?_
  refine lv_iconst (v := 1) F.1 F.2.1 d_MO_init_22 (by decide) ?_
  refine x_put F hK hO rfl i_MO t_MO p_MO n_MO 2 (by decide) k481 rfl rfl rfl rfl (Nat.le_of_ble_eq_true rfl) hS (Or.inl rfl) d_MO_init_23 (fun H5 locs hO hz5 ho5 hS => ?_)
  have hO : va_at G.1 x_cl (a, .inr (6, [.ref q1, .ref q2, .int 1, .null, .null, .null, .null, .int 0])) H5 := hO
  have hp := va_at.kept hp (ho5 _ (Ne.symm n_a_q1))
  have ht := va_at.kept ht (ho5 _ (Ne.symm n_a_q2))
  refine lv_aload_n F.1 F.2.1 d_MO_init_26 rfl (lv_at hl 0 rfl) ?_
  refine lv_bipush (v := 80) F.1 F.2.1 d_MO_init_27 (by decide) ?_
  refine x_newaZ (N := 80) F hK (by omega) (show ((0 + 1) + 1) + 1 ≤ 6 by omega) (show ((0 + 40) + 5000) + 80 ≤ 5297 by omega) hS d_MO_init_29 (fun q3 H6 hq3 hh hz6 ho6 hS => ?_)
  have n_a_q3 : a ≠ q3 := by have z := va_at.lt hO; dsimp only at z; omega
  have hO := va_at.kept hO (ho6 _ (va_at.lt hO))
  have n_q1_q3 : q1 ≠ q3 := by have z := va_at.lt hp; dsimp only at z; omega
  have hp := va_at.kept hp (ho6 _ (va_at.lt hp))
  have n_q2_q3 : q2 ≠ q3 := by have z := va_at.lt ht; dsimp only at z; omega
  have ht := va_at.kept ht (ho6 _ (va_at.lt ht))
  have s3 : sz ≤ q3 := by omega
  refine x_putF F hnm hK hO rfl i_MO t_MO p_MO n_MO 3 (by decide) k482 rfl rfl rfl rfl rfl (Nat.le_of_ble_eq_true rfl) hS (Or.inl rfl) d_MO_init_31 (fun H7 locs hO hz7 ho7 hS => ?_)
  have hO : va_at G.1 x_cl (a, .inr (6, [.ref q1, .ref q2, .int 1, .ref q3, .null, .null, .null, .int 0])) H7 := hO
  have hp := va_at.kept hp (ho7 _ (Ne.symm n_a_q1))
  have ht := va_at.kept ht (ho7 _ (Ne.symm n_a_q2))
  have hh := va_at.kept hh (ho7 _ (Ne.symm n_a_q3))
  refine lv_aload_n F.1 F.2.1 d_MO_init_34 rfl (lv_at hl 0 rfl) ?_
  refine lv_bipush (v := 12) F.1 F.2.1 d_MO_init_35 (by decide) ?_
  refine x_newaI (N := 12) F hK (by omega) (show (((0 + 1) + 1) + 1) + 1 ≤ 6 by omega) (show (((0 + 40) + 5000) + 80) + 12 ≤ 5297 by omega) hS d_MO_init_37 (fun q4 H8 hq4 hg hz8 ho8 hS => ?_)
  have n_a_q4 : a ≠ q4 := by have z := va_at.lt hO; dsimp only at z; omega
  have hO := va_at.kept hO (ho8 _ (va_at.lt hO))
  have n_q1_q4 : q1 ≠ q4 := by have z := va_at.lt hp; dsimp only at z; omega
  have hp := va_at.kept hp (ho8 _ (va_at.lt hp))
  have n_q2_q4 : q2 ≠ q4 := by have z := va_at.lt ht; dsimp only at z; omega
  have ht := va_at.kept ht (ho8 _ (va_at.lt ht))
  have n_q3_q4 : q3 ≠ q4 := by have z := va_at.lt hh; dsimp only at z; omega
  have hh := va_at.kept hh (ho8 _ (va_at.lt hh))
  have s4 : sz ≤ q4 := by omega
  refine lv_dup F.1 F.2.1 d_MO_init_39 rfl ?_
  refine lv_iconst (v := 0) F.1 F.2.1 d_MO_init_40 (by decide) ?_
  refine lv_bipush (v := 40) F.1 F.2.1 d_MO_init_41 (by decide) ?_
  refine x_iast F hK hg (by unfold vp_in; decide) hS (Or.inr s4) d_MO_init_43 (fun H9 locs hg hz9 ho9 hS => ?_)
  have hO := va_at.kept hO (ho9 _ n_a_q4)
  have hp := va_at.kept hp (ho9 _ n_q1_q4)
  have ht := va_at.kept ht (ho9 _ n_q2_q4)
  have hh := va_at.kept hh (ho9 _ n_q3_q4)
  refine lv_dup F.1 F.2.1 d_MO_init_44 rfl ?_
  refine lv_iconst (v := 1) F.1 F.2.1 d_MO_init_45 (by decide) ?_
  refine lv_bipush (v := 40) F.1 F.2.1 d_MO_init_46 (by decide) ?_
  refine x_iast F hK hg (by unfold vp_in; decide) hS (Or.inr s4) d_MO_init_48 (fun H10 locs hg hz10 ho10 hS => ?_)
  have hO := va_at.kept hO (ho10 _ n_a_q4)
  have hp := va_at.kept hp (ho10 _ n_q1_q4)
  have ht := va_at.kept ht (ho10 _ n_q2_q4)
  have hh := va_at.kept hh (ho10 _ n_q3_q4)
  refine lv_dup F.1 F.2.1 d_MO_init_49 rfl ?_
  refine lv_iconst (v := 2) F.1 F.2.1 d_MO_init_50 (by decide) ?_
  refine lv_bipush (v := 40) F.1 F.2.1 d_MO_init_51 (by decide) ?_
  refine x_iast F hK hg (by unfold vp_in; decide) hS (Or.inr s4) d_MO_init_53 (fun H11 locs hg hz11 ho11 hS => ?_)
  have hO := va_at.kept hO (ho11 _ n_a_q4)
  have hp := va_at.kept hp (ho11 _ n_q1_q4)
  have ht := va_at.kept ht (ho11 _ n_q2_q4)
  have hh := va_at.kept hh (ho11 _ n_q3_q4)
  refine lv_dup F.1 F.2.1 d_MO_init_54 rfl ?_
  refine lv_iconst (v := 3) F.1 F.2.1 d_MO_init_55 (by decide) ?_
  refine lv_bipush (v := 40) F.1 F.2.1 d_MO_init_56 (by decide) ?_
  refine x_iast F hK hg (by unfold vp_in; decide) hS (Or.inr s4) d_MO_init_58 (fun H12 locs hg hz12 ho12 hS => ?_)
  have hO := va_at.kept hO (ho12 _ n_a_q4)
  have hp := va_at.kept hp (ho12 _ n_q1_q4)
  have ht := va_at.kept ht (ho12 _ n_q2_q4)
  have hh := va_at.kept hh (ho12 _ n_q3_q4)
  refine lv_dup F.1 F.2.1 d_MO_init_59 rfl ?_
  refine lv_iconst (v := 4) F.1 F.2.1 d_MO_init_60 (by decide) ?_
  refine lv_bipush (v := 40) F.1 F.2.1 d_MO_init_61 (by decide) ?_
  refine x_iast F hK hg (by unfold vp_in; decide) hS (Or.inr s4) d_MO_init_63 (fun H13 locs hg hz13 ho13 hS => ?_)
  have hO := va_at.kept hO (ho13 _ n_a_q4)
  have hp := va_at.kept hp (ho13 _ n_q1_q4)
  have ht := va_at.kept ht (ho13 _ n_q2_q4)
  have hh := va_at.kept hh (ho13 _ n_q3_q4)
  refine lv_dup F.1 F.2.1 d_MO_init_64 rfl ?_
  refine lv_iconst (v := 5) F.1 F.2.1 d_MO_init_65 (by decide) ?_
  refine lv_bipush (v := 40) F.1 F.2.1 d_MO_init_66 (by decide) ?_
  refine x_iast F hK hg (by unfold vp_in; decide) hS (Or.inr s4) d_MO_init_68 (fun H14 locs hg hz14 ho14 hS => ?_)
  have hO := va_at.kept hO (ho14 _ n_a_q4)
  have hp := va_at.kept hp (ho14 _ n_q1_q4)
  have ht := va_at.kept ht (ho14 _ n_q2_q4)
  have hh := va_at.kept hh (ho14 _ n_q3_q4)
  refine lv_dup F.1 F.2.1 d_MO_init_69 rfl ?_
  refine lv_bipush (v := 6) F.1 F.2.1 d_MO_init_70 (by decide) ?_
  refine lv_bipush (v := 40) F.1 F.2.1 d_MO_init_72 (by decide) ?_
  refine x_iast F hK hg (by unfold vp_in; decide) hS (Or.inr s4) d_MO_init_74 (fun H15 locs hg hz15 ho15 hS => ?_)
  have hO := va_at.kept hO (ho15 _ n_a_q4)
  have hp := va_at.kept hp (ho15 _ n_q1_q4)
  have ht := va_at.kept ht (ho15 _ n_q2_q4)
  have hh := va_at.kept hh (ho15 _ n_q3_q4)
  refine lv_dup F.1 F.2.1 d_MO_init_75 rfl ?_
  refine lv_bipush (v := 7) F.1 F.2.1 d_MO_init_76 (by decide) ?_
  refine lv_bipush (v := 40) F.1 F.2.1 d_MO_init_78 (by decide) ?_
  refine x_iast F hK hg (by unfold vp_in; decide) hS (Or.inr s4) d_MO_init_80 (fun H16 locs hg hz16 ho16 hS => ?_)
  have hO := va_at.kept hO (ho16 _ n_a_q4)
  have hp := va_at.kept hp (ho16 _ n_q1_q4)
  have ht := va_at.kept ht (ho16 _ n_q2_q4)
  have hh := va_at.kept hh (ho16 _ n_q3_q4)
  refine lv_dup F.1 F.2.1 d_MO_init_81 rfl ?_
  refine lv_bipush (v := 8) F.1 F.2.1 d_MO_init_82 (by decide) ?_
  refine lv_bipush (v := 40) F.1 F.2.1 d_MO_init_84 (by decide) ?_
  refine x_iast F hK hg (by unfold vp_in; decide) hS (Or.inr s4) d_MO_init_86 (fun H17 locs hg hz17 ho17 hS => ?_)
  have hO := va_at.kept hO (ho17 _ n_a_q4)
  have hp := va_at.kept hp (ho17 _ n_q1_q4)
  have ht := va_at.kept ht (ho17 _ n_q2_q4)
  have hh := va_at.kept hh (ho17 _ n_q3_q4)
  refine lv_dup F.1 F.2.1 d_MO_init_87 rfl ?_
  refine lv_bipush (v := 9) F.1 F.2.1 d_MO_init_88 (by decide) ?_
  refine lv_bipush (v := 40) F.1 F.2.1 d_MO_init_90 (by decide) ?_
  refine x_iast F hK hg (by unfold vp_in; decide) hS (Or.inr s4) d_MO_init_92 (fun H18 locs hg hz18 ho18 hS => ?_)
  have hO := va_at.kept hO (ho18 _ n_a_q4)
  have hp := va_at.kept hp (ho18 _ n_q1_q4)
  have ht := va_at.kept ht (ho18 _ n_q2_q4)
  have hh := va_at.kept hh (ho18 _ n_q3_q4)
  refine lv_dup F.1 F.2.1 d_MO_init_93 rfl ?_
  refine lv_bipush (v := 10) F.1 F.2.1 d_MO_init_94 (by decide) ?_
  refine lv_bipush (v := 40) F.1 F.2.1 d_MO_init_96 (by decide) ?_
  refine x_iast F hK hg (by unfold vp_in; decide) hS (Or.inr s4) d_MO_init_98 (fun H19 locs hg hz19 ho19 hS => ?_)
  have hO := va_at.kept hO (ho19 _ n_a_q4)
  have hp := va_at.kept hp (ho19 _ n_q1_q4)
  have ht := va_at.kept ht (ho19 _ n_q2_q4)
  have hh := va_at.kept hh (ho19 _ n_q3_q4)
  refine lv_dup F.1 F.2.1 d_MO_init_99 rfl ?_
  refine lv_bipush (v := 11) F.1 F.2.1 d_MO_init_100 (by decide) ?_
  refine lv_bipush (v := 40) F.1 F.2.1 d_MO_init_102 (by decide) ?_
  refine x_iast F hK hg (by unfold vp_in; decide) hS (Or.inr s4) d_MO_init_104 (fun H20 locs hg hz20 ho20 hS => ?_)
  have hO := va_at.kept hO (ho20 _ n_a_q4)
  have hp := va_at.kept hp (ho20 _ n_q1_q4)
  have ht := va_at.kept ht (ho20 _ n_q2_q4)
  have hh := va_at.kept hh (ho20 _ n_q3_q4)
  have hg : x_ai G q4 12 (fun _ => 40) H20 := x_ai.cg hg (fun j hj => by
    unfold upd
    have h12 : j = 0 ∨ j = 1 ∨ j = 2 ∨ j = 3 ∨ j = 4 ∨ j = 5 ∨ j = 6 ∨ j = 7 ∨ j = 8 ∨ j = 9 ∨ j = 10 ∨ j = 11 := by omega
    rcases h12 with rfl | rfl | rfl | rfl | rfl | rfl | rfl | rfl | rfl | rfl | rfl | rfl <;> rfl)
  refine x_putF F hnm hK hO rfl i_MO t_MO p_MO n_MO 4 (by decide) k483 rfl rfl rfl rfl rfl (Nat.le_of_ble_eq_true rfl) hS (Or.inl rfl) d_MO_init_105 (fun H21 locs hO hz21 ho21 hS => ?_)
  have hO : va_at G.1 x_cl (a, .inr (6, [.ref q1, .ref q2, .int 1, .ref q3, .ref q4, .null, .null, .int 0])) H21 := hO
  have hp := va_at.kept hp (ho21 _ (Ne.symm n_a_q1))
  have ht := va_at.kept ht (ho21 _ (Ne.symm n_a_q2))
  have hh := va_at.kept hh (ho21 _ (Ne.symm n_a_q3))
  have hg := va_at.kept hg (ho21 _ (Ne.symm n_a_q4))
  refine lv_aload_n F.1 F.2.1 d_MO_init_108 rfl (lv_at hl 0 rfl) ?_
  refine lv_bipush (v := 125) F.1 F.2.1 d_MO_init_109 (by decide) ?_
  refine x_newaJ (N := 125) F hK (by omega) (show ((((0 + 1) + 1) + 1) + 1) + 1 ≤ 6 by omega) (show ((((0 + 40) + 5000) + 80) + 12) + 125 ≤ 5297 by omega) hS d_MO_init_111 (fun q5 H22 hq5 hw hz22 ho22 hS => ?_)
  have n_a_q5 : a ≠ q5 := by have z := va_at.lt hO; dsimp only at z; omega
  have hO := va_at.kept hO (ho22 _ (va_at.lt hO))
  have n_q1_q5 : q1 ≠ q5 := by have z := va_at.lt hp; dsimp only at z; omega
  have hp := va_at.kept hp (ho22 _ (va_at.lt hp))
  have n_q2_q5 : q2 ≠ q5 := by have z := va_at.lt ht; dsimp only at z; omega
  have ht := va_at.kept ht (ho22 _ (va_at.lt ht))
  have n_q3_q5 : q3 ≠ q5 := by have z := va_at.lt hh; dsimp only at z; omega
  have hh := va_at.kept hh (ho22 _ (va_at.lt hh))
  have n_q4_q5 : q4 ≠ q5 := by have z := va_at.lt hg; dsimp only at z; omega
  have hg := va_at.kept hg (ho22 _ (va_at.lt hg))
  have s5 : sz ≤ q5 := by omega
  refine x_putF F hnm hK hO rfl i_MO t_MO p_MO n_MO 5 (by decide) k484 rfl rfl rfl rfl rfl (Nat.le_of_ble_eq_true rfl) hS (Or.inl rfl) d_MO_init_113 (fun H23 locs hO hz23 ho23 hS => ?_)
  have hO : va_at G.1 x_cl (a, .inr (6, [.ref q1, .ref q2, .int 1, .ref q3, .ref q4, .ref q5, .null, .int 0])) H23 := hO
  have hp := va_at.kept hp (ho23 _ (Ne.symm n_a_q1))
  have ht := va_at.kept ht (ho23 _ (Ne.symm n_a_q2))
  have hh := va_at.kept hh (ho23 _ (Ne.symm n_a_q3))
  have hg := va_at.kept hg (ho23 _ (Ne.symm n_a_q4))
  have hw := va_at.kept hw (ho23 _ (Ne.symm n_a_q5))
  refine lv_aload_n F.1 F.2.1 d_MO_init_116 rfl (lv_at hl 0 rfl) ?_
  refine lv_bipush (v := 40) F.1 F.2.1 d_MO_init_117 (by decide) ?_
  refine x_newaZ (N := 40) F hK (by omega) (show (((((0 + 1) + 1) + 1) + 1) + 1) + 1 ≤ 6 by omega) (show (((((0 + 40) + 5000) + 80) + 12) + 125) + 40 ≤ 5297 by omega) hS d_MO_init_119 (fun q6 H24 hq6 hc hz24 ho24 hS => ?_)
  have n_a_q6 : a ≠ q6 := by have z := va_at.lt hO; dsimp only at z; omega
  have hO := va_at.kept hO (ho24 _ (va_at.lt hO))
  have n_q1_q6 : q1 ≠ q6 := by have z := va_at.lt hp; dsimp only at z; omega
  have hp := va_at.kept hp (ho24 _ (va_at.lt hp))
  have n_q2_q6 : q2 ≠ q6 := by have z := va_at.lt ht; dsimp only at z; omega
  have ht := va_at.kept ht (ho24 _ (va_at.lt ht))
  have n_q3_q6 : q3 ≠ q6 := by have z := va_at.lt hh; dsimp only at z; omega
  have hh := va_at.kept hh (ho24 _ (va_at.lt hh))
  have n_q4_q6 : q4 ≠ q6 := by have z := va_at.lt hg; dsimp only at z; omega
  have hg := va_at.kept hg (ho24 _ (va_at.lt hg))
  have n_q5_q6 : q5 ≠ q6 := by have z := va_at.lt hw; dsimp only at z; omega
  have hw := va_at.kept hw (ho24 _ (va_at.lt hw))
  have s6 : sz ≤ q6 := by omega
  refine x_putF F hnm hK hO rfl i_MO t_MO p_MO n_MO 6 (by decide) k485 rfl rfl rfl rfl rfl (Nat.le_of_ble_eq_true rfl) hS (Or.inl rfl) d_MO_init_121 (fun H25 locs hO hz25 ho25 hS => ?_)
  have hO : va_at G.1 x_cl (a, .inr (6, [.ref q1, .ref q2, .int 1, .ref q3, .ref q4, .ref q5, .ref q6, .int 0])) H25 := hO
  have hp := va_at.kept hp (ho25 _ (Ne.symm n_a_q1))
  have ht := va_at.kept ht (ho25 _ (Ne.symm n_a_q2))
  have hh := va_at.kept hh (ho25 _ (Ne.symm n_a_q3))
  have hg := va_at.kept hg (ho25 _ (Ne.symm n_a_q4))
  have hw := va_at.kept hw (ho25 _ (Ne.symm n_a_q5))
  have hc := va_at.kept hc (ho25 _ (Ne.symm n_a_q6))
  refine lv_iconst (v := 0) F.1 F.2.1 d_MO_init_124 (by decide) ?_
  refine lv_istore_n (lv' := [(1, .int 0), (0, .ref a)]) F.1 F.2.1 d_MO_init_125 rfl hl (by decide) rfl (fun ls hl => ?_)
  refine W.widen (k := 6) (n := 5297) (by omega) (by omega) ?_
  have loop : ∀ (n k : Nat), k + n = 125 → ∀ (H : Heap) (locs : List Loc), va_at G.1 x_cl (a, .inr (6, [.ref q1, .ref q2, .int 1, .ref q3, .ref q4, .ref q5, .ref q6, .int 0])) H → x_ai G q1 40 (fun _ => 0) H → x_al G q2 5000 (tB k) H → x_az G q3 80 (fun _ => 0) H → x_ai G q4 12 (fun _ => 40) H → x_al G q5 125 (fun _ => 0) H → x_az G q6 40 (fun _ => 0) H → va_S (fun q => q = a ∨ sz ≤ q) s.heap H locs → ∀ ls : Array Slot, lv_has ls 2 [(1, .int (nI k)), (0, .ref a)] → W p l e (x_rm 1 6 5297) s m args below meth c H locs 6 5297 Q (F0 m 126 ls []) := by
    intro n
    induction n with
    | zero =>
      intro k hn H locs hO hp ht hh hg hw hc hS ls hl
      obtain rfl : k = 125 := by omega
      refine lv_iload_n F.1 F.2.1 d_MO_init_126 rfl (lv_at hl 0 rfl) ?_
      refine lv_bipush (v := 125) F.1 F.2.1 d_MO_init_127 (by decide) ?_
      refine lv_icmp_ge (tgt := 157) F.1 F.2.1 d_MO_init_129 (by decide) (fun _ => ?_) (fun zq => absurd (pN_le (a := 125) (b := 125) rfl rfl (by omega) (by omega) (by omega)) zq)
      refine lv_aload_n F.1 F.2.1 d_MO_init_157 rfl (lv_at hl 1 rfl) ?_
      refine x_get F hK hO rfl i_MO 3 (by decide) k482 rfl rfl d_MO_init_158 ?_
      refine lv_iconst (v := 0) F.1 F.2.1 d_MO_init_161 (by decide) ?_
      refine lv_iconst (v := 1) F.1 F.2.1 d_MO_init_162 (by decide) ?_
      refine x_zast F hK hh (by first | rfl | decide) (by unfold vp_in; decide) hS (Or.inr s3) d_MO_init_163 (fun H26 locs hh hz26 ho26 hS => ?_)
      have hO := va_at.kept hO (ho26 _ n_a_q3)
      have hp := va_at.kept hp (ho26 _ n_q1_q3)
      have ht := va_at.kept ht (ho26 _ n_q2_q3)
      have hg := va_at.kept hg (ho26 _ (Ne.symm n_q3_q4))
      have hw := va_at.kept hw (ho26 _ (Ne.symm n_q3_q5))
      have hc := va_at.kept hc (ho26 _ (Ne.symm n_q3_q6))
      refine lv_aload_n F.1 F.2.1 d_MO_init_164 rfl (lv_at hl 1 rfl) ?_
      refine x_get F hK hO rfl i_MO 3 (by decide) k482 rfl rfl d_MO_init_165 ?_
      refine lv_bipush (v := 40) F.1 F.2.1 d_MO_init_168 (by decide) ?_
      refine lv_iconst (v := 1) F.1 F.2.1 d_MO_init_170 (by decide) ?_
      refine x_zast F hK hh (by first | rfl | decide) (by unfold vp_in; decide) hS (Or.inr s3) d_MO_init_171 (fun H27 locs hh hz27 ho27 hS => ?_)
      have hO := va_at.kept hO (ho27 _ n_a_q3)
      have hp := va_at.kept hp (ho27 _ n_q1_q3)
      have ht := va_at.kept ht (ho27 _ n_q2_q3)
      have hg := va_at.kept hg (ho27 _ (Ne.symm n_q3_q4))
      have hw := va_at.kept hw (ho27 _ (Ne.symm n_q3_q5))
      have hc := va_at.kept hc (ho27 _ (Ne.symm n_q3_q6))
      refine hret _ _ _ _ _ _ d_MO_init_172 ⟨rfl, ⟨adF a q1 q2 q3 q4 q5 q6, rfl, fun i h1 h6 => ?_, hO, hp, (by rw [← tB_125]; exact ht), x_az.cg hh (fun j hj => ?_), hg, hw, hc, fun i j hi hj he => ?_⟩, hS.1, fun q h1 h2 => hS.2.1 q h1 (fun z => z.elim h2 (fun z => by omega))⟩ hS.2.2 (Nat.le_refl _) (Nat.le_refl _)
      · have h6 : i = 1 ∨ i = 2 ∨ i = 3 ∨ i = 4 ∨ i = 5 ∨ i = 6 := by omega
        rcases h6 with rfl | rfl | rfl | rfl | rfl | rfl
        · exact s1
        · exact s2
        · exact s3
        · exact s4
        · exact s5
        · exact s6
      · unfold upd
        rw [show (0 : Int32).toNatClampNeg = 0 from by decide, show (40 : Int32).toNatClampNeg = 40 from by decide]
        show _ = x_b (decide (j % 40 = 0))
        by_cases e1 : j = 40
        · rw [if_pos e1, e1]; rfl
        · rw [if_neg e1]
          by_cases e2 : j = 0
          · rw [if_pos e2, e2]; rfl
          · rw [if_neg e2, decide_eq_false (by omega)]; rfl
      · have hi7 : i = 0 ∨ i = 1 ∨ i = 2 ∨ i = 3 ∨ i = 4 ∨ i = 5 ∨ i = 6 := by omega
        have hj7 : j = 0 ∨ j = 1 ∨ j = 2 ∨ j = 3 ∨ j = 4 ∨ j = 5 ∨ j = 6 := by omega
        rcases hi7 with rfl | rfl | rfl | rfl | rfl | rfl | rfl <;> rcases hj7 with rfl | rfl | rfl | rfl | rfl | rfl | rfl <;> simp only [adF] at he <;> first | rfl | omega
    | succ n ih =>
      intro k hn H locs hO hp ht hh hg hw hc hS ls hl
      refine lv_iload_n F.1 F.2.1 d_MO_init_126 rfl (lv_at hl 0 rfl) ?_
      refine lv_bipush (v := 125) F.1 F.2.1 d_MO_init_127 (by decide) ?_
      refine lv_icmp_ge (tgt := 157) F.1 F.2.1 d_MO_init_129 (by decide) (fun zq => absurd zq (pN_nle (a := 125) (b := k) rfl rfl (by omega) (by omega) (by omega))) (fun _ => ?_)
      refine lv_aload_n F.1 F.2.1 d_MO_init_132 rfl (lv_at hl 1 rfl) ?_
      refine x_get F hK hO rfl i_MO 1 (by decide) k480 rfl rfl d_MO_init_133 ?_
      refine lv_iload_n F.1 F.2.1 d_MO_init_136 rfl (lv_at hl 0 rfl) ?_
      refine lv_iload_n F.1 F.2.1 d_MO_init_137 rfl (lv_at hl 0 rfl) ?_
      refine lv_if_ne (tgt := 147) F.1 F.2.1 d_MO_init_138 (by decide) (fun c138 => ?_) (fun c138 => ?_)
      · have c138 := mt (pN_eqI (a := k) (b := 0) rfl rfl (by omega) (by omega)).mpr c138
        refine x_cst F k478 d_MO_init_147 ?_
        refine x_lastN F hK ht (by decide) (by omega) hS (Or.inr s2) d_MO_init_150 (fun H28 locs ht hz28 ho28 hS => ?_)
        have hO := va_at.kept hO (ho28 _ n_a_q2)
        have hp := va_at.kept hp (ho28 _ n_q1_q2)
        have hh := va_at.kept hh (ho28 _ (Ne.symm n_q2_q3))
        have hg := va_at.kept hg (ho28 _ (Ne.symm n_q2_q4))
        have hw := va_at.kept hw (ho28 _ (Ne.symm n_q2_q5))
        have hc := va_at.kept hc (ho28 _ (Ne.symm n_q2_q6))
        refine lv_iinc (v := (nI (k + 1))) (lv' := [(1, .int (nI (k + 1))), (0, .ref a)]) F.1 F.2.1 d_MO_init_151 hl (k := 0) rfl (nI_1 k) (by decide) rfl (fun ls hl => ?_)
        refine lv_goto (tgt := 126) F.1 F.2.1 d_MO_init_154 (by decide) ?_
        exact ih (k + 1) (by omega) _ _ hO hp (by rw [← tB_s, show tBare k = wABS from if_neg c138]; exact ht) hh hg hw hc hS ls hl
      · have c138 := (pN_eqI (a := k) (b := 0) rfl rfl (by omega) (by omega)).mp c138
        refine x_cst F k477 d_MO_init_141 ?_
        refine lv_goto (tgt := 150) F.1 F.2.1 d_MO_init_144 (by decide) ?_
        refine x_lastN F hK ht (by decide) (by omega) hS (Or.inr s2) d_MO_init_150 (fun H29 locs ht hz29 ho29 hS => ?_)
        have hO := va_at.kept hO (ho29 _ n_a_q2)
        have hp := va_at.kept hp (ho29 _ n_q1_q2)
        have hh := va_at.kept hh (ho29 _ (Ne.symm n_q2_q3))
        have hg := va_at.kept hg (ho29 _ (Ne.symm n_q2_q4))
        have hw := va_at.kept hw (ho29 _ (Ne.symm n_q2_q5))
        have hc := va_at.kept hc (ho29 _ (Ne.symm n_q2_q6))
        refine lv_iinc (v := (nI (k + 1))) (lv' := [(1, .int (nI (k + 1))), (0, .ref a)]) F.1 F.2.1 d_MO_init_151 hl (k := 0) rfl (nI_1 k) (by decide) rfl (fun ls hl => ?_)
        refine lv_goto (tgt := 126) F.1 F.2.1 d_MO_init_154 (by decide) ?_
        exact ih (k + 1) (by omega) _ _ hO hp (by rw [← tB_s, show tBare k = wDIR from if_pos c138]; exact ht) hh hg hw hc hS ls hl
  exact loop 125 0 rfl _ _ hO hp (x_al.cg ht (fun j _ => (if_neg (Nat.not_lt_zero j)).symm)) hh hg hw hc hS ls hl

