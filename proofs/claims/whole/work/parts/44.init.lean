/-! ===== ImageStores() ===== -/
def cin (a q1 d q2 t q3 b3 c3 q4 b4 c4 q5 b5 q6 q7 q8 b8 q9 : Nat) : Nat → Nat
  | 0 => a
  | 1 => q1
  | 2 => d
  | 3 => q2
  | 4 => t
  | 5 => q3
  | 6 => b3
  | 7 => c3
  | 8 => q4
  | 9 => b4
  | 10 => c4
  | 11 => q5
  | 12 => b5
  | 13 => q6
  | 14 => q7
  | 15 => q8
  | 16 => b8
  | _ => q9
theorem us10 {c : Nat} (h : us 1 0 c) : c = 0 ∨ c = 1 ∨ c = 2 ∨ c = 3 ∨ c = 4 ∨ c = 5 ∨ c = 6 ∨ c = 7 ∨ c = 8 ∨ c = 9 ∨ c = 10 ∨ c = 11 ∨ c = 12 ∨ c = 13 ∨ c = 14 ∨ c = 15 ∨ c = 16 ∨ c = 17 := by
  unfold us at h
  omega
theorem cin_inj {a q1 d q2 t q3 b3 c3 q4 b4 c4 q5 b5 q6 q7 q8 b8 q9 sz : Nat} (h0 : a < sz) (h0t : t < sz) (h0a : t ≠ a) (h1 : sz ≤ q1) (h2 : q1 < q2) (h3 : q2 < q3) (h4 : q3 < b3) (h5 : q3 < c3) (h6 : b3 ≠ c3) (h7 : b3 < q4) (h8 : c3 < q4) (h9 : q4 < b4) (h10 : q4 < c4) (h11 : b4 ≠ c4) (h12 : b4 < q5) (h13 : c4 < q5) (h14 : q5 < b5) (h15 : b5 < q6) (h16 : q6 < q7) (h17 : q7 < q8) (h18 : q8 < b8) (h19 : b8 < q9) (h20 : q9 < d) : cInj (cin a q1 d q2 t q3 b3 c3 q4 b4 c4 q5 b5 q6 q7 q8 b8 q9) 1 0 := by
  intro c c' hc hc' he
  have hc := us10 hc
  have hc' := us10 hc'
  rcases hc with rfl | rfl | rfl | rfl | rfl | rfl | rfl | rfl | rfl | rfl | rfl | rfl | rfl | rfl | rfl | rfl | rfl | rfl <;> rcases hc' with rfl | rfl | rfl | rfl | rfl | rfl | rfl | rfl | rfl | rfl | rfl | rfl | rfl | rfl | rfl | rfl | rfl | rfl <;> first | rfl | (exfalso; simp only [cin] at he; omega)
theorem cin_ge {a q1 d q2 t q3 b3 c3 q4 b4 c4 q5 b5 q6 q7 q8 b8 q9 sz : Nat} (h0 : a < sz) (h0t : t < sz) (h0a : t ≠ a) (h1 : sz ≤ q1) (h2 : q1 < q2) (h3 : q2 < q3) (h4 : q3 < b3) (h5 : q3 < c3) (h6 : b3 ≠ c3) (h7 : b3 < q4) (h8 : c3 < q4) (h9 : q4 < b4) (h10 : q4 < c4) (h11 : b4 ≠ c4) (h12 : b4 < q5) (h13 : c4 < q5) (h14 : q5 < b5) (h15 : b5 < q6) (h16 : q6 < q7) (h17 : q7 < q8) (h18 : q8 < b8) (h19 : b8 < q9) (h20 : q9 < d) : ∀ c, us 1 0 c → c ≠ 0 → c ≠ 4 → sz ≤ cin a q1 d q2 t q3 b3 c3 q4 b4 c4 q5 b5 q6 q7 q8 b8 q9 c := by
  intro c hc n0 n4
  rcases us10 hc with rfl | rfl | rfl | rfl | rfl | rfl | rfl | rfl | rfl | rfl | rfl | rfl | rfl | rfl | rfl | rfl | rfl | rfl <;> simp only [cin] <;> omega
theorem c_IS_init (l : Launch) (G : x_G) (a sz : Nat) (n1 : x_sa G ≠ a) (n2 : x_t G ≠ a) : Met l y_IS_init (x_ws y_IS_init b_IS_init 1 none) (x_rm 7 16 460) (x_P G [.ref a] (fun H => H.size = sz ∧ x_Hs G H ∧ va_at G.1 x_cl (a, .inr (5, [.null, .null, .null, .null, .null, .null, .int 0])) H)) (x_Q (fun r H H1 => r = none ∧ (∃ ca sn, ca 0 = a ∧ (∀ c, us 1 0 c → c ≠ 0 → c ≠ 4 → sz ≤ ca c) ∧ ca 4 = x_t G ∧ CW G ca σ0 0 (fun _ => 0) (fun _ => 0) tBare sn H1) ∧ x_off (fun q => q = a) H H1)) 16 460 (fun q => q = a ∨ sz ≤ q) := by
  refine x_wV (by decide +kernel) (Nat.le_of_ble_eq_true rfl) (fun p e s m args below meth c F hnm hK hP ls hl Q hret => ?_)
  have hl : lv_has ls 1 [(0, .ref a)] := hl
  obtain ⟨hsz, hZ0, hO⟩ := hP
  have hS : va_S (fun q => q = a ∨ sz ≤ q) s.heap s.heap [] := va_S.rf
  have ha : a < sz := by rw [← hsz]; exact hO.lt
  have hts : x_t G < sz := by
    obtain ⟨-, scr, b1, -⟩ := hZ0
    rw [← hsz]
    exact (Array.getElem?_eq_some_iff.mp b1).1
  have hss : x_sa G < sz := by
    obtain ⟨⟨cell, b1, -⟩, -⟩ := hZ0
    rw [← hsz]
    exact (Array.getElem?_eq_some_iff.mp b1).1
  have hts2 : x_t G ≠ x_sa G := fun z => by
    obtain ⟨⟨cell, b1, b2, b3⟩, scr, d1, d2, d3, d4, d5⟩ := hZ0
    rw [z, b1] at d1
    cases d1
    rw [Array.getElem?_eq_none (by omega)] at b3
    cases b3
  have hZk : ∀ {H : Heap} {locs : List Loc}, va_S (fun q => q = a ∨ sz ≤ q) s.heap H locs → x_Hs G H := fun hS => hZ0.keep hS.off (fun z => z.elim n1 (fun z => by omega)) (fun z => z.elim n2 (fun z => by omega))
  have fin : ∀ {b : Nat} {H : Heap}, sz ≤ b → sz ≤ H.size → ∀ q, (q = b ∨ H.size ≤ q) → q = a ∨ sz ≤ q := fun h1 h2 q h => Or.inr (h.elim (fun h => by rw [h]; exact h1) (fun h => Nat.le_trans h2 h))
  have off : ∀ {b : Nat} {H H1 : Heap}, sz ≤ b → x_off (fun q => q = b) H H1 → x_off (fun q => q = a ∨ sz ≤ q) H H1 := fun h1 h => h.mono (fun q h => Or.inr (by rw [show q = _ from h]; exact h1))
  refine lv_aload_n F.1 F.2.1 d_IS_init_0 rfl (lv_at hl 0 rfl) ?_
  refine x_oi F k22 hl.1 d_IS_init_1 (by decide) (by decide) ?_
  refine lv_aload_n F.1 F.2.1 d_IS_init_4 rfl (lv_at hl 0 rfl) ?_
  refine x_newO (ci := 0) (fs := [.int 0, .null, .int 0]) F hK rfl i_AL t_AL p_AL k25 k26 k4 (by decide +kernel) (show 0 + 1 ≤ 16 by omega) (show 0 + 3 ≤ 460 by omega) hS d_IS_init_5 (fun q1 H1 hq1 hT1 hz1 ho1 hS => ?_)
  have n_a_q1 : a ≠ q1 := by have z := va_at.lt hO; dsimp only at z; omega
  have hO := va_at.kept hO (ho1 _ (va_at.lt hO))
  refine lv_dup F.1 F.2.1 d_IS_init_8 rfl ?_
  have hS1 := hS.1
  have l_a : a < Array.size H1 := va_at.lt hO
  have l_q1 : q1 < Array.size H1 := va_at.lt hT1
  refine x_wr (x_I (n := 0) (As := []) F (c_AL_init l G q1 (show x_sa G ≠ q1 by omega) (show x_t G ≠ q1 by omega)) ok_AL_init k27 ⟨Nat.le_of_ble_eq_true rfl, Nat.le_of_ble_eq_true rfl⟩ rfl rfl hK (⟨hZk hS, hT1⟩) rfl hl.1 rfl (Nat.le_of_ble_eq_true rfl) d_IS_init_9 ⟨Nat.le_of_ble_eq_true rfl, Nat.le_of_ble_eq_true rfl⟩) hS (fun q h => Or.inr (by rw [show q = q1 from h]; omega)) (fun _ _ h => off (by omega) h.2.2) (fun v H2 locs hpost hS => ?_)
  obtain ⟨rfl, ⟨⟨mo1, hT1⟩, hq1t, -, -⟩, ho⟩ := hpost
  have hsz1 := ho.1
  have hO := x_keep hO ho n_a_q1
  refine x_putF F hnm hK hO rfl i_IS t_IS p_IS n_IS 0 (by decide) k158 rfl rfl rfl rfl rfl (Nat.le_of_ble_eq_true rfl) hS (Or.inl rfl) d_IS_init_12 (fun H3 locs hO hz3 ho3 hS => ?_)
  have hO : va_at G.1 x_cl (a, .inr (5, [.ref q1, .null, .null, .null, .null, .null, .int 0])) H3 := hO
  have hT1 := va_at.kept hT1 (ho3 _ (Ne.symm n_a_q1))
  refine lv_aload_n F.1 F.2.1 d_IS_init_15 rfl (lv_at hl 0 rfl) ?_
  refine x_newO (ci := 0) (fs := [.int 0, .null, .int 0]) F hK rfl i_AL t_AL p_AL k25 k26 k4 (by decide +kernel) (show ((0 + 1) + 0) + 1 ≤ 16 by omega) (show ((0 + 3) + 0) + 3 ≤ 460 by omega) hS d_IS_init_16 (fun q2 H4 hq2 hT2 hz4 ho4 hS => ?_)
  have n_a_q2 : a ≠ q2 := by have z := va_at.lt hO; dsimp only at z; omega
  have hO := va_at.kept hO (ho4 _ (va_at.lt hO))
  have n_q1_q2 : q1 ≠ q2 := by have z := va_at.lt hT1; dsimp only at z; omega
  have hT1 := va_at.kept hT1 (ho4 _ (va_at.lt hT1))
  refine lv_dup F.1 F.2.1 d_IS_init_19 rfl ?_
  have hS1 := hS.1
  have l_a : a < Array.size H4 := va_at.lt hO
  have l_q1 : q1 < Array.size H4 := va_at.lt hT1
  have l_q2 : q2 < Array.size H4 := va_at.lt hT2
  refine x_wr (x_I (n := 0) (As := []) F (c_AL_init l G q2 (show x_sa G ≠ q2 by omega) (show x_t G ≠ q2 by omega)) ok_AL_init k27 ⟨Nat.le_of_ble_eq_true rfl, Nat.le_of_ble_eq_true rfl⟩ rfl rfl hK (⟨hZk hS, hT2⟩) rfl hl.1 rfl (Nat.le_of_ble_eq_true rfl) d_IS_init_20 ⟨Nat.le_of_ble_eq_true rfl, Nat.le_of_ble_eq_true rfl⟩) hS (fun q h => Or.inr (by rw [show q = q2 from h]; omega)) (fun _ _ h => off (by omega) h.2.2) (fun v H5 locs hpost hS => ?_)
  obtain ⟨rfl, ⟨⟨mo2, hT2⟩, hq2t, -, -⟩, ho⟩ := hpost
  have hsz2 := ho.1
  have hO := x_keep hO ho n_a_q2
  have hT1 := x_keep hT1 ho n_q1_q2
  refine x_putF F hnm hK hO rfl i_IS t_IS p_IS n_IS 1 (by decide) k159 rfl rfl rfl rfl rfl (Nat.le_of_ble_eq_true rfl) hS (Or.inl rfl) d_IS_init_23 (fun H6 locs hO hz6 ho6 hS => ?_)
  have hO : va_at G.1 x_cl (a, .inr (5, [.ref q1, .ref q2, .null, .null, .null, .null, .int 0])) H6 := hO
  have hT1 := va_at.kept hT1 (ho6 _ (Ne.symm n_a_q1))
  have hT2 := va_at.kept hT2 (ho6 _ (Ne.symm n_a_q2))
  refine lv_aload_n F.1 F.2.1 d_IS_init_26 rfl (lv_at hl 0 rfl) ?_
  refine x_newO (ci := 3) (fs := [.null, .null]) F hK rfl i_ST t_ST p_ST k51 k52 k5 (by decide +kernel) (show ((((0 + 1) + 0) + 1) + 0) + 1 ≤ 16 by omega) (show ((((0 + 3) + 0) + 3) + 0) + 2 ≤ 460 by omega) hS d_IS_init_27 (fun q3 H7 hq3 hT3 hz7 ho7 hS => ?_)
  have n_a_q3 : a ≠ q3 := by have z := va_at.lt hO; dsimp only at z; omega
  have hO := va_at.kept hO (ho7 _ (va_at.lt hO))
  have n_q1_q3 : q1 ≠ q3 := by have z := va_at.lt hT1; dsimp only at z; omega
  have hT1 := va_at.kept hT1 (ho7 _ (va_at.lt hT1))
  have n_q2_q3 : q2 ≠ q3 := by have z := va_at.lt hT2; dsimp only at z; omega
  have hT2 := va_at.kept hT2 (ho7 _ (va_at.lt hT2))
  refine lv_dup F.1 F.2.1 d_IS_init_30 rfl ?_
  have hS1 := hS.1
  have l_a : a < Array.size H7 := va_at.lt hO
  have l_q1 : q1 < Array.size H7 := va_at.lt hT1
  have l_q2 : q2 < Array.size H7 := va_at.lt hT2
  have l_q3 : q3 < Array.size H7 := va_at.lt hT3
  refine x_wr (x_I (n := 0) (As := []) F (c_ST_init l G q3 _) ok_ST_init k53 ⟨Nat.le_of_ble_eq_true rfl, Nat.le_of_ble_eq_true rfl⟩ rfl rfl hK (⟨rfl, hT3⟩) rfl hl.1 rfl (Nat.le_of_ble_eq_true rfl) d_IS_init_31 ⟨Nat.le_of_ble_eq_true rfl, Nat.le_of_ble_eq_true rfl⟩) hS (fin (by omega) (by omega)) (fun _ _ h => off (by omega) h.2.2) (fun v H8 locs hpost hS => ?_)
  obtain ⟨rfl, ⟨b3, c3, hb3, hc3, hT3, hB3, hC3, m31, m32, m33⟩, ho⟩ := hpost
  have hsz3 := ho.1
  have hO := x_keep hO ho n_a_q3
  have hT1 := x_keep hT1 ho n_q1_q3
  have hT2 := x_keep hT2 ho n_q2_q3
  have n_a_b3 : a ≠ b3 := by first | assumption | exact Ne.symm (by assumption) | omega
  have n_q1_b3 : q1 ≠ b3 := by first | assumption | exact Ne.symm (by assumption) | omega
  have n_q2_b3 : q2 ≠ b3 := by first | assumption | exact Ne.symm (by assumption) | omega
  have n_q3_b3 : q3 ≠ b3 := by first | assumption | exact Ne.symm (by assumption) | omega
  have n_a_c3 : a ≠ c3 := by first | assumption | exact Ne.symm (by assumption) | omega
  have n_q1_c3 : q1 ≠ c3 := by first | assumption | exact Ne.symm (by assumption) | omega
  have n_q2_c3 : q2 ≠ c3 := by first | assumption | exact Ne.symm (by assumption) | omega
  have n_q3_c3 : q3 ≠ c3 := by first | assumption | exact Ne.symm (by assumption) | omega
  have n_b3_c3 : b3 ≠ c3 := by first | assumption | exact Ne.symm (by assumption) | omega
  refine x_putF F hnm hK hO rfl i_IS t_IS p_IS n_IS 2 (by decide) k160 rfl rfl rfl rfl rfl (Nat.le_of_ble_eq_true rfl) hS (Or.inl rfl) d_IS_init_34 (fun H9 locs hO hz9 ho9 hS => ?_)
  have hO : va_at G.1 x_cl (a, .inr (5, [.ref q1, .ref q2, .ref q3, .null, .null, .null, .int 0])) H9 := hO
  have hT1 := va_at.kept hT1 (ho9 _ (Ne.symm n_a_q1))
  have hT2 := va_at.kept hT2 (ho9 _ (Ne.symm n_a_q2))
  have hT3 := va_at.kept hT3 (ho9 _ (Ne.symm n_a_q3))
  have hB3 := va_at.kept hB3 (ho9 _ (Ne.symm n_a_b3))
  have hC3 := va_at.kept hC3 (ho9 _ (Ne.symm n_a_c3))
  refine lv_aload_n F.1 F.2.1 d_IS_init_37 rfl (lv_at hl 0 rfl) ?_
  refine x_newO (ci := 3) (fs := [.null, .null]) F hK rfl i_ST t_ST p_ST k51 k52 k5 (by decide +kernel) (show ((((((0 + 1) + 0) + 1) + 0) + 1) + 2) + 1 ≤ 16 by omega) (show ((((((0 + 3) + 0) + 3) + 0) + 2) + 46) + 2 ≤ 460 by omega) hS d_IS_init_38 (fun q4 H10 hq4 hT4 hz10 ho10 hS => ?_)
  have n_a_q4 : a ≠ q4 := by have z := va_at.lt hO; dsimp only at z; omega
  have hO := va_at.kept hO (ho10 _ (va_at.lt hO))
  have n_q1_q4 : q1 ≠ q4 := by have z := va_at.lt hT1; dsimp only at z; omega
  have hT1 := va_at.kept hT1 (ho10 _ (va_at.lt hT1))
  have n_q2_q4 : q2 ≠ q4 := by have z := va_at.lt hT2; dsimp only at z; omega
  have hT2 := va_at.kept hT2 (ho10 _ (va_at.lt hT2))
  have n_q3_q4 : q3 ≠ q4 := by have z := va_at.lt hT3; dsimp only at z; omega
  have hT3 := va_at.kept hT3 (ho10 _ (va_at.lt hT3))
  have n_b3_q4 : b3 ≠ q4 := by have z := va_at.lt hB3; dsimp only at z; omega
  have hB3 := va_at.kept hB3 (ho10 _ (va_at.lt hB3))
  have n_c3_q4 : c3 ≠ q4 := by have z := va_at.lt hC3; dsimp only at z; omega
  have hC3 := va_at.kept hC3 (ho10 _ (va_at.lt hC3))
  refine lv_dup F.1 F.2.1 d_IS_init_41 rfl ?_
  have hS1 := hS.1
  have l_a : a < Array.size H10 := va_at.lt hO
  have l_q1 : q1 < Array.size H10 := va_at.lt hT1
  have l_q2 : q2 < Array.size H10 := va_at.lt hT2
  have l_q3 : q3 < Array.size H10 := va_at.lt hT3
  have l_b3 : b3 < Array.size H10 := va_at.lt hB3
  have l_c3 : c3 < Array.size H10 := va_at.lt hC3
  have l_q4 : q4 < Array.size H10 := va_at.lt hT4
  refine x_wr (x_I (n := 0) (As := []) F (c_ST_init l G q4 _) ok_ST_init k53 ⟨Nat.le_of_ble_eq_true rfl, Nat.le_of_ble_eq_true rfl⟩ rfl rfl hK (⟨rfl, hT4⟩) rfl hl.1 rfl (Nat.le_of_ble_eq_true rfl) d_IS_init_42 ⟨Nat.le_of_ble_eq_true rfl, Nat.le_of_ble_eq_true rfl⟩) hS (fin (by omega) (by omega)) (fun _ _ h => off (by omega) h.2.2) (fun v H11 locs hpost hS => ?_)
  obtain ⟨rfl, ⟨b4, c4, hb4, hc4, hT4, hB4, hC4, m41, m42, m43⟩, ho⟩ := hpost
  have hsz4 := ho.1
  have hO := x_keep hO ho n_a_q4
  have hT1 := x_keep hT1 ho n_q1_q4
  have hT2 := x_keep hT2 ho n_q2_q4
  have hT3 := x_keep hT3 ho n_q3_q4
  have hB3 := x_keep hB3 ho n_b3_q4
  have hC3 := x_keep hC3 ho n_c3_q4
  have n_a_b4 : a ≠ b4 := by first | assumption | exact Ne.symm (by assumption) | omega
  have n_q1_b4 : q1 ≠ b4 := by first | assumption | exact Ne.symm (by assumption) | omega
  have n_q2_b4 : q2 ≠ b4 := by first | assumption | exact Ne.symm (by assumption) | omega
  have n_q3_b4 : q3 ≠ b4 := by first | assumption | exact Ne.symm (by assumption) | omega
  have n_b3_b4 : b3 ≠ b4 := by first | assumption | exact Ne.symm (by assumption) | omega
  have n_c3_b4 : c3 ≠ b4 := by first | assumption | exact Ne.symm (by assumption) | omega
  have n_q4_b4 : q4 ≠ b4 := by first | assumption | exact Ne.symm (by assumption) | omega
  have n_a_c4 : a ≠ c4 := by first | assumption | exact Ne.symm (by assumption) | omega
  have n_q1_c4 : q1 ≠ c4 := by first | assumption | exact Ne.symm (by assumption) | omega
  have n_q2_c4 : q2 ≠ c4 := by first | assumption | exact Ne.symm (by assumption) | omega
  have n_q3_c4 : q3 ≠ c4 := by first | assumption | exact Ne.symm (by assumption) | omega
  have n_b3_c4 : b3 ≠ c4 := by first | assumption | exact Ne.symm (by assumption) | omega
  have n_c3_c4 : c3 ≠ c4 := by first | assumption | exact Ne.symm (by assumption) | omega
  have n_q4_c4 : q4 ≠ c4 := by first | assumption | exact Ne.symm (by assumption) | omega
  have n_b4_c4 : b4 ≠ c4 := by first | assumption | exact Ne.symm (by assumption) | omega
  refine x_putF F hnm hK hO rfl i_IS t_IS p_IS n_IS 3 (by decide) k161 rfl rfl rfl rfl rfl (Nat.le_of_ble_eq_true rfl) hS (Or.inl rfl) d_IS_init_45 (fun H12 locs hO hz12 ho12 hS => ?_)
  have hO : va_at G.1 x_cl (a, .inr (5, [.ref q1, .ref q2, .ref q3, .ref q4, .null, .null, .int 0])) H12 := hO
  have hT1 := va_at.kept hT1 (ho12 _ (Ne.symm n_a_q1))
  have hT2 := va_at.kept hT2 (ho12 _ (Ne.symm n_a_q2))
  have hT3 := va_at.kept hT3 (ho12 _ (Ne.symm n_a_q3))
  have hB3 := va_at.kept hB3 (ho12 _ (Ne.symm n_a_b3))
  have hC3 := va_at.kept hC3 (ho12 _ (Ne.symm n_a_c3))
  have hT4 := va_at.kept hT4 (ho12 _ (Ne.symm n_a_q4))
  have hB4 := va_at.kept hB4 (ho12 _ (Ne.symm n_a_b4))
  have hC4 := va_at.kept hC4 (ho12 _ (Ne.symm n_a_c4))
  refine lv_aload_n F.1 F.2.1 d_IS_init_48 rfl (lv_at hl 0 rfl) ?_
  refine x_newO (ci := 4) (fs := [.null]) F hK rfl i_TR t_TR p_TR k69 k70 k7 (by decide +kernel) (show ((((((((0 + 1) + 0) + 1) + 0) + 1) + 2) + 1) + 2) + 1 ≤ 16 by omega) (show ((((((((0 + 3) + 0) + 3) + 0) + 2) + 46) + 2) + 46) + 1 ≤ 460 by omega) hS d_IS_init_49 (fun q5 H13 hq5 hT5 hz13 ho13 hS => ?_)
  have n_a_q5 : a ≠ q5 := by have z := va_at.lt hO; dsimp only at z; omega
  have hO := va_at.kept hO (ho13 _ (va_at.lt hO))
  have n_q1_q5 : q1 ≠ q5 := by have z := va_at.lt hT1; dsimp only at z; omega
  have hT1 := va_at.kept hT1 (ho13 _ (va_at.lt hT1))
  have n_q2_q5 : q2 ≠ q5 := by have z := va_at.lt hT2; dsimp only at z; omega
  have hT2 := va_at.kept hT2 (ho13 _ (va_at.lt hT2))
  have n_q3_q5 : q3 ≠ q5 := by have z := va_at.lt hT3; dsimp only at z; omega
  have hT3 := va_at.kept hT3 (ho13 _ (va_at.lt hT3))
  have n_b3_q5 : b3 ≠ q5 := by have z := va_at.lt hB3; dsimp only at z; omega
  have hB3 := va_at.kept hB3 (ho13 _ (va_at.lt hB3))
  have n_c3_q5 : c3 ≠ q5 := by have z := va_at.lt hC3; dsimp only at z; omega
  have hC3 := va_at.kept hC3 (ho13 _ (va_at.lt hC3))
  have n_q4_q5 : q4 ≠ q5 := by have z := va_at.lt hT4; dsimp only at z; omega
  have hT4 := va_at.kept hT4 (ho13 _ (va_at.lt hT4))
  have n_b4_q5 : b4 ≠ q5 := by have z := va_at.lt hB4; dsimp only at z; omega
  have hB4 := va_at.kept hB4 (ho13 _ (va_at.lt hB4))
  have n_c4_q5 : c4 ≠ q5 := by have z := va_at.lt hC4; dsimp only at z; omega
  have hC4 := va_at.kept hC4 (ho13 _ (va_at.lt hC4))
  refine lv_dup F.1 F.2.1 d_IS_init_52 rfl ?_
  have hS1 := hS.1
  have l_a : a < Array.size H13 := va_at.lt hO
  have l_q1 : q1 < Array.size H13 := va_at.lt hT1
  have l_q2 : q2 < Array.size H13 := va_at.lt hT2
  have l_q3 : q3 < Array.size H13 := va_at.lt hT3
  have l_b3 : b3 < Array.size H13 := va_at.lt hB3
  have l_c3 : c3 < Array.size H13 := va_at.lt hC3
  have l_q4 : q4 < Array.size H13 := va_at.lt hT4
  have l_b4 : b4 < Array.size H13 := va_at.lt hB4
  have l_c4 : c4 < Array.size H13 := va_at.lt hC4
  have l_q5 : q5 < Array.size H13 := va_at.lt hT5
  refine x_wr (x_I (n := 0) (As := []) F (c_TR_init l G q5 _) ok_TR_init k71 ⟨Nat.le_of_ble_eq_true rfl, Nat.le_of_ble_eq_true rfl⟩ rfl rfl hK (⟨rfl, hT5⟩) rfl hl.1 rfl (Nat.le_of_ble_eq_true rfl) d_IS_init_53 ⟨Nat.le_of_ble_eq_true rfl, Nat.le_of_ble_eq_true rfl⟩) hS (fin (by omega) (by omega)) (fun _ _ h => off (by omega) h.2.2) (fun v H14 locs hpost hS => ?_)
  obtain ⟨rfl, ⟨b5, hb5, hT5, hB5, m51⟩, ho⟩ := hpost
  have hsz5 := ho.1
  have hO := x_keep hO ho n_a_q5
  have hT1 := x_keep hT1 ho n_q1_q5
  have hT2 := x_keep hT2 ho n_q2_q5
  have hT3 := x_keep hT3 ho n_q3_q5
  have hB3 := x_keep hB3 ho n_b3_q5
  have hC3 := x_keep hC3 ho n_c3_q5
  have hT4 := x_keep hT4 ho n_q4_q5
  have hB4 := x_keep hB4 ho n_b4_q5
  have hC4 := x_keep hC4 ho n_c4_q5
  have n_a_b5 : a ≠ b5 := by first | assumption | exact Ne.symm (by assumption) | omega
  have n_q1_b5 : q1 ≠ b5 := by first | assumption | exact Ne.symm (by assumption) | omega
  have n_q2_b5 : q2 ≠ b5 := by first | assumption | exact Ne.symm (by assumption) | omega
  have n_q3_b5 : q3 ≠ b5 := by first | assumption | exact Ne.symm (by assumption) | omega
  have n_b3_b5 : b3 ≠ b5 := by first | assumption | exact Ne.symm (by assumption) | omega
  have n_c3_b5 : c3 ≠ b5 := by first | assumption | exact Ne.symm (by assumption) | omega
  have n_q4_b5 : q4 ≠ b5 := by first | assumption | exact Ne.symm (by assumption) | omega
  have n_b4_b5 : b4 ≠ b5 := by first | assumption | exact Ne.symm (by assumption) | omega
  have n_c4_b5 : c4 ≠ b5 := by first | assumption | exact Ne.symm (by assumption) | omega
  have n_q5_b5 : q5 ≠ b5 := by first | assumption | exact Ne.symm (by assumption) | omega
  refine x_putF F hnm hK hO rfl i_IS t_IS p_IS n_IS 4 (by decide) k162 rfl rfl rfl rfl rfl (Nat.le_of_ble_eq_true rfl) hS (Or.inl rfl) d_IS_init_56 (fun H15 locs hO hz15 ho15 hS => ?_)
  have hO : va_at G.1 x_cl (a, .inr (5, [.ref q1, .ref q2, .ref q3, .ref q4, .ref q5, .null, .int 0])) H15 := hO
  have hT1 := va_at.kept hT1 (ho15 _ (Ne.symm n_a_q1))
  have hT2 := va_at.kept hT2 (ho15 _ (Ne.symm n_a_q2))
  have hT3 := va_at.kept hT3 (ho15 _ (Ne.symm n_a_q3))
  have hB3 := va_at.kept hB3 (ho15 _ (Ne.symm n_a_b3))
  have hC3 := va_at.kept hC3 (ho15 _ (Ne.symm n_a_c3))
  have hT4 := va_at.kept hT4 (ho15 _ (Ne.symm n_a_q4))
  have hB4 := va_at.kept hB4 (ho15 _ (Ne.symm n_a_b4))
  have hC4 := va_at.kept hC4 (ho15 _ (Ne.symm n_a_c4))
  have hT5 := va_at.kept hT5 (ho15 _ (Ne.symm n_a_q5))
  have hB5 := va_at.kept hB5 (ho15 _ (Ne.symm n_a_b5))
  refine lv_aload_n F.1 F.2.1 d_IS_init_59 rfl (lv_at hl 0 rfl) ?_
  refine lv_bipush (v := 40) F.1 F.2.1 d_IS_init_60 (by decide) ?_
  refine x_newaZ (N := 40) F hK (by omega) (show ((((((((((0 + 1) + 0) + 1) + 0) + 1) + 2) + 1) + 2) + 1) + 1) + 1 ≤ 16 by omega) (show ((((((((((0 + 3) + 0) + 3) + 0) + 2) + 46) + 2) + 46) + 1) + 125) + 40 ≤ 460 by omega) hS d_IS_init_62 (fun q6 H16 hq6 hB6 hz16 ho16 hS => ?_)
  have n_a_q6 : a ≠ q6 := by have z := va_at.lt hO; dsimp only at z; omega
  have hO := va_at.kept hO (ho16 _ (va_at.lt hO))
  have n_q1_q6 : q1 ≠ q6 := by have z := va_at.lt hT1; dsimp only at z; omega
  have hT1 := va_at.kept hT1 (ho16 _ (va_at.lt hT1))
  have n_q2_q6 : q2 ≠ q6 := by have z := va_at.lt hT2; dsimp only at z; omega
  have hT2 := va_at.kept hT2 (ho16 _ (va_at.lt hT2))
  have n_q3_q6 : q3 ≠ q6 := by have z := va_at.lt hT3; dsimp only at z; omega
  have hT3 := va_at.kept hT3 (ho16 _ (va_at.lt hT3))
  have n_b3_q6 : b3 ≠ q6 := by have z := va_at.lt hB3; dsimp only at z; omega
  have hB3 := va_at.kept hB3 (ho16 _ (va_at.lt hB3))
  have n_c3_q6 : c3 ≠ q6 := by have z := va_at.lt hC3; dsimp only at z; omega
  have hC3 := va_at.kept hC3 (ho16 _ (va_at.lt hC3))
  have n_q4_q6 : q4 ≠ q6 := by have z := va_at.lt hT4; dsimp only at z; omega
  have hT4 := va_at.kept hT4 (ho16 _ (va_at.lt hT4))
  have n_b4_q6 : b4 ≠ q6 := by have z := va_at.lt hB4; dsimp only at z; omega
  have hB4 := va_at.kept hB4 (ho16 _ (va_at.lt hB4))
  have n_c4_q6 : c4 ≠ q6 := by have z := va_at.lt hC4; dsimp only at z; omega
  have hC4 := va_at.kept hC4 (ho16 _ (va_at.lt hC4))
  have n_q5_q6 : q5 ≠ q6 := by have z := va_at.lt hT5; dsimp only at z; omega
  have hT5 := va_at.kept hT5 (ho16 _ (va_at.lt hT5))
  have n_b5_q6 : b5 ≠ q6 := by have z := va_at.lt hB5; dsimp only at z; omega
  have hB5 := va_at.kept hB5 (ho16 _ (va_at.lt hB5))
  refine x_putF F hnm hK hO rfl i_IS t_IS p_IS n_IS 5 (by decide) k163 rfl rfl rfl rfl rfl (Nat.le_of_ble_eq_true rfl) hS (Or.inl rfl) d_IS_init_64 (fun H17 locs hO hz17 ho17 hS => ?_)
  have hO : va_at G.1 x_cl (a, .inr (5, [.ref q1, .ref q2, .ref q3, .ref q4, .ref q5, .ref q6, .int 0])) H17 := hO
  have hT1 := va_at.kept hT1 (ho17 _ (Ne.symm n_a_q1))
  have hT2 := va_at.kept hT2 (ho17 _ (Ne.symm n_a_q2))
  have hT3 := va_at.kept hT3 (ho17 _ (Ne.symm n_a_q3))
  have hB3 := va_at.kept hB3 (ho17 _ (Ne.symm n_a_b3))
  have hC3 := va_at.kept hC3 (ho17 _ (Ne.symm n_a_c3))
  have hT4 := va_at.kept hT4 (ho17 _ (Ne.symm n_a_q4))
  have hB4 := va_at.kept hB4 (ho17 _ (Ne.symm n_a_b4))
  have hC4 := va_at.kept hC4 (ho17 _ (Ne.symm n_a_c4))
  have hT5 := va_at.kept hT5 (ho17 _ (Ne.symm n_a_q5))
  have hB5 := va_at.kept hB5 (ho17 _ (Ne.symm n_a_b5))
  have hB6 := va_at.kept hB6 (ho17 _ (Ne.symm n_a_q6))
  refine lv_aload_n F.1 F.2.1 d_IS_init_67 rfl (lv_at hl 0 rfl) ?_
  refine lv_iconst (v := 0) F.1 F.2.1 d_IS_init_68 (by decide) ?_
  refine x_put F hK hO rfl i_IS t_IS p_IS n_IS 6 (by decide) k164 rfl rfl rfl rfl (Nat.le_of_ble_eq_true rfl) hS (Or.inl rfl) d_IS_init_69 (fun H18 locs hO hz18 ho18 hS => ?_)
  have hO : va_at G.1 x_cl (a, .inr (5, [.ref q1, .ref q2, .ref q3, .ref q4, .ref q5, .ref q6, .int 0])) H18 := hO
  have hT1 := va_at.kept hT1 (ho18 _ (Ne.symm n_a_q1))
  have hT2 := va_at.kept hT2 (ho18 _ (Ne.symm n_a_q2))
  have hT3 := va_at.kept hT3 (ho18 _ (Ne.symm n_a_q3))
  have hB3 := va_at.kept hB3 (ho18 _ (Ne.symm n_a_b3))
  have hC3 := va_at.kept hC3 (ho18 _ (Ne.symm n_a_c3))
  have hT4 := va_at.kept hT4 (ho18 _ (Ne.symm n_a_q4))
  have hB4 := va_at.kept hB4 (ho18 _ (Ne.symm n_a_b4))
  have hC4 := va_at.kept hC4 (ho18 _ (Ne.symm n_a_c4))
  have hT5 := va_at.kept hT5 (ho18 _ (Ne.symm n_a_q5))
  have hB5 := va_at.kept hB5 (ho18 _ (Ne.symm n_a_b5))
  have hB6 := va_at.kept hB6 (ho18 _ (Ne.symm n_a_q6))
  refine lv_aload_n F.1 F.2.1 d_IS_init_72 rfl (lv_at hl 0 rfl) ?_
  refine x_get F hK hO rfl i_IS 0 (by decide) k158 rfl rfl d_IS_init_73 ?_
  refine x_newO (ci := 1) (fs := [.int 0, .null, .null]) F hK rfl i_IM t_IM p_IM k85 k86 k8 (by decide +kernel) (show (((((((((((0 + 1) + 0) + 1) + 0) + 1) + 2) + 1) + 2) + 1) + 1) + 1) + 1 ≤ 16 by omega) (show (((((((((((0 + 3) + 0) + 3) + 0) + 2) + 46) + 2) + 46) + 1) + 125) + 40) + 3 ≤ 460 by omega) hS d_IS_init_76 (fun q7 H19 hq7 hT7 hz19 ho19 hS => ?_)
  have n_a_q7 : a ≠ q7 := by have z := va_at.lt hO; dsimp only at z; omega
  have hO := va_at.kept hO (ho19 _ (va_at.lt hO))
  have n_q1_q7 : q1 ≠ q7 := by have z := va_at.lt hT1; dsimp only at z; omega
  have hT1 := va_at.kept hT1 (ho19 _ (va_at.lt hT1))
  have n_q2_q7 : q2 ≠ q7 := by have z := va_at.lt hT2; dsimp only at z; omega
  have hT2 := va_at.kept hT2 (ho19 _ (va_at.lt hT2))
  have n_q3_q7 : q3 ≠ q7 := by have z := va_at.lt hT3; dsimp only at z; omega
  have hT3 := va_at.kept hT3 (ho19 _ (va_at.lt hT3))
  have n_b3_q7 : b3 ≠ q7 := by have z := va_at.lt hB3; dsimp only at z; omega
  have hB3 := va_at.kept hB3 (ho19 _ (va_at.lt hB3))
  have n_c3_q7 : c3 ≠ q7 := by have z := va_at.lt hC3; dsimp only at z; omega
  have hC3 := va_at.kept hC3 (ho19 _ (va_at.lt hC3))
  have n_q4_q7 : q4 ≠ q7 := by have z := va_at.lt hT4; dsimp only at z; omega
  have hT4 := va_at.kept hT4 (ho19 _ (va_at.lt hT4))
  have n_b4_q7 : b4 ≠ q7 := by have z := va_at.lt hB4; dsimp only at z; omega
  have hB4 := va_at.kept hB4 (ho19 _ (va_at.lt hB4))
  have n_c4_q7 : c4 ≠ q7 := by have z := va_at.lt hC4; dsimp only at z; omega
  have hC4 := va_at.kept hC4 (ho19 _ (va_at.lt hC4))
  have n_q5_q7 : q5 ≠ q7 := by have z := va_at.lt hT5; dsimp only at z; omega
  have hT5 := va_at.kept hT5 (ho19 _ (va_at.lt hT5))
  have n_b5_q7 : b5 ≠ q7 := by have z := va_at.lt hB5; dsimp only at z; omega
  have hB5 := va_at.kept hB5 (ho19 _ (va_at.lt hB5))
  have n_q6_q7 : q6 ≠ q7 := by have z := va_at.lt hB6; dsimp only at z; omega
  have hB6 := va_at.kept hB6 (ho19 _ (va_at.lt hB6))
  refine lv_dup F.1 F.2.1 d_IS_init_79 rfl ?_
  refine lv_iconst (v := (-1)) F.1 F.2.1 d_IS_init_80 (by decide) ?_
  refine x_newO (ci := 4) (fs := [.null]) F hK rfl i_TR t_TR p_TR k69 k70 k7 (by decide +kernel) (show ((((((((((((0 + 1) + 0) + 1) + 0) + 1) + 2) + 1) + 2) + 1) + 1) + 1) + 1) + 1 ≤ 16 by omega) (show ((((((((((((0 + 3) + 0) + 3) + 0) + 2) + 46) + 2) + 46) + 1) + 125) + 40) + 3) + 1 ≤ 460 by omega) hS d_IS_init_81 (fun q8 H20 hq8 hT8 hz20 ho20 hS => ?_)
  have n_a_q8 : a ≠ q8 := by have z := va_at.lt hO; dsimp only at z; omega
  have hO := va_at.kept hO (ho20 _ (va_at.lt hO))
  have n_q1_q8 : q1 ≠ q8 := by have z := va_at.lt hT1; dsimp only at z; omega
  have hT1 := va_at.kept hT1 (ho20 _ (va_at.lt hT1))
  have n_q2_q8 : q2 ≠ q8 := by have z := va_at.lt hT2; dsimp only at z; omega
  have hT2 := va_at.kept hT2 (ho20 _ (va_at.lt hT2))
  have n_q3_q8 : q3 ≠ q8 := by have z := va_at.lt hT3; dsimp only at z; omega
  have hT3 := va_at.kept hT3 (ho20 _ (va_at.lt hT3))
  have n_b3_q8 : b3 ≠ q8 := by have z := va_at.lt hB3; dsimp only at z; omega
  have hB3 := va_at.kept hB3 (ho20 _ (va_at.lt hB3))
  have n_c3_q8 : c3 ≠ q8 := by have z := va_at.lt hC3; dsimp only at z; omega
  have hC3 := va_at.kept hC3 (ho20 _ (va_at.lt hC3))
  have n_q4_q8 : q4 ≠ q8 := by have z := va_at.lt hT4; dsimp only at z; omega
  have hT4 := va_at.kept hT4 (ho20 _ (va_at.lt hT4))
  have n_b4_q8 : b4 ≠ q8 := by have z := va_at.lt hB4; dsimp only at z; omega
  have hB4 := va_at.kept hB4 (ho20 _ (va_at.lt hB4))
  have n_c4_q8 : c4 ≠ q8 := by have z := va_at.lt hC4; dsimp only at z; omega
  have hC4 := va_at.kept hC4 (ho20 _ (va_at.lt hC4))
  have n_q5_q8 : q5 ≠ q8 := by have z := va_at.lt hT5; dsimp only at z; omega
  have hT5 := va_at.kept hT5 (ho20 _ (va_at.lt hT5))
  have n_b5_q8 : b5 ≠ q8 := by have z := va_at.lt hB5; dsimp only at z; omega
  have hB5 := va_at.kept hB5 (ho20 _ (va_at.lt hB5))
  have n_q6_q8 : q6 ≠ q8 := by have z := va_at.lt hB6; dsimp only at z; omega
  have hB6 := va_at.kept hB6 (ho20 _ (va_at.lt hB6))
  have n_q7_q8 : q7 ≠ q8 := by have z := va_at.lt hT7; dsimp only at z; omega
  have hT7 := va_at.kept hT7 (ho20 _ (va_at.lt hT7))
  refine lv_dup F.1 F.2.1 d_IS_init_84 rfl ?_
  have hS1 := hS.1
  have l_a : a < Array.size H20 := va_at.lt hO
  have l_q1 : q1 < Array.size H20 := va_at.lt hT1
  have l_q2 : q2 < Array.size H20 := va_at.lt hT2
  have l_q3 : q3 < Array.size H20 := va_at.lt hT3
  have l_b3 : b3 < Array.size H20 := va_at.lt hB3
  have l_c3 : c3 < Array.size H20 := va_at.lt hC3
  have l_q4 : q4 < Array.size H20 := va_at.lt hT4
  have l_b4 : b4 < Array.size H20 := va_at.lt hB4
  have l_c4 : c4 < Array.size H20 := va_at.lt hC4
  have l_q5 : q5 < Array.size H20 := va_at.lt hT5
  have l_b5 : b5 < Array.size H20 := va_at.lt hB5
  have l_q6 : q6 < Array.size H20 := va_at.lt hB6
  have l_q7 : q7 < Array.size H20 := va_at.lt hT7
  have l_q8 : q8 < Array.size H20 := va_at.lt hT8
  refine x_wr (x_I (n := 0) (As := []) F (c_TR_init l G q8 _) ok_TR_init k71 ⟨Nat.le_of_ble_eq_true rfl, Nat.le_of_ble_eq_true rfl⟩ rfl rfl hK (⟨rfl, hT8⟩) rfl hl.1 rfl (Nat.le_of_ble_eq_true rfl) d_IS_init_85 ⟨Nat.le_of_ble_eq_true rfl, Nat.le_of_ble_eq_true rfl⟩) hS (fin (by omega) (by omega)) (fun _ _ h => off (by omega) h.2.2) (fun v H21 locs hpost hS => ?_)
  obtain ⟨rfl, ⟨b8, hb8, hT8, hB8, m81⟩, ho⟩ := hpost
  have hsz8 := ho.1
  have hO := x_keep hO ho n_a_q8
  have hT1 := x_keep hT1 ho n_q1_q8
  have hT2 := x_keep hT2 ho n_q2_q8
  have hT3 := x_keep hT3 ho n_q3_q8
  have hB3 := x_keep hB3 ho n_b3_q8
  have hC3 := x_keep hC3 ho n_c3_q8
  have hT4 := x_keep hT4 ho n_q4_q8
  have hB4 := x_keep hB4 ho n_b4_q8
  have hC4 := x_keep hC4 ho n_c4_q8
  have hT5 := x_keep hT5 ho n_q5_q8
  have hB5 := x_keep hB5 ho n_b5_q8
  have hB6 := x_keep hB6 ho n_q6_q8
  have hT7 := x_keep hT7 ho n_q7_q8
  have n_a_b8 : a ≠ b8 := by first | assumption | exact Ne.symm (by assumption) | omega
  have n_q1_b8 : q1 ≠ b8 := by first | assumption | exact Ne.symm (by assumption) | omega
  have n_q2_b8 : q2 ≠ b8 := by first | assumption | exact Ne.symm (by assumption) | omega
  have n_q3_b8 : q3 ≠ b8 := by first | assumption | exact Ne.symm (by assumption) | omega
  have n_b3_b8 : b3 ≠ b8 := by first | assumption | exact Ne.symm (by assumption) | omega
  have n_c3_b8 : c3 ≠ b8 := by first | assumption | exact Ne.symm (by assumption) | omega
  have n_q4_b8 : q4 ≠ b8 := by first | assumption | exact Ne.symm (by assumption) | omega
  have n_b4_b8 : b4 ≠ b8 := by first | assumption | exact Ne.symm (by assumption) | omega
  have n_c4_b8 : c4 ≠ b8 := by first | assumption | exact Ne.symm (by assumption) | omega
  have n_q5_b8 : q5 ≠ b8 := by first | assumption | exact Ne.symm (by assumption) | omega
  have n_b5_b8 : b5 ≠ b8 := by first | assumption | exact Ne.symm (by assumption) | omega
  have n_q6_b8 : q6 ≠ b8 := by first | assumption | exact Ne.symm (by assumption) | omega
  have n_q7_b8 : q7 ≠ b8 := by first | assumption | exact Ne.symm (by assumption) | omega
  have n_q8_b8 : q8 ≠ b8 := by first | assumption | exact Ne.symm (by assumption) | omega
  refine lv_iconst (v := 0) F.1 F.2.1 d_IS_init_88 (by decide) ?_
  refine x_newaI (N := 0) F hK (by omega) (show ((((((((((((((0 + 1) + 0) + 1) + 0) + 1) + 2) + 1) + 2) + 1) + 1) + 1) + 1) + 1) + 1) + 1 ≤ 16 by omega) (show ((((((((((((((0 + 3) + 0) + 3) + 0) + 2) + 46) + 2) + 46) + 1) + 125) + 40) + 3) + 1) + 125) + 0 ≤ 460 by omega) hS d_IS_init_89 (fun q9 H22 hq9 hB9 hz22 ho22 hS => ?_)
  have n_a_q9 : a ≠ q9 := by have z := va_at.lt hO; dsimp only at z; omega
  have hO := va_at.kept hO (ho22 _ (va_at.lt hO))
  have n_q1_q9 : q1 ≠ q9 := by have z := va_at.lt hT1; dsimp only at z; omega
  have hT1 := va_at.kept hT1 (ho22 _ (va_at.lt hT1))
  have n_q2_q9 : q2 ≠ q9 := by have z := va_at.lt hT2; dsimp only at z; omega
  have hT2 := va_at.kept hT2 (ho22 _ (va_at.lt hT2))
  have n_q3_q9 : q3 ≠ q9 := by have z := va_at.lt hT3; dsimp only at z; omega
  have hT3 := va_at.kept hT3 (ho22 _ (va_at.lt hT3))
  have n_b3_q9 : b3 ≠ q9 := by have z := va_at.lt hB3; dsimp only at z; omega
  have hB3 := va_at.kept hB3 (ho22 _ (va_at.lt hB3))
  have n_c3_q9 : c3 ≠ q9 := by have z := va_at.lt hC3; dsimp only at z; omega
  have hC3 := va_at.kept hC3 (ho22 _ (va_at.lt hC3))
  have n_q4_q9 : q4 ≠ q9 := by have z := va_at.lt hT4; dsimp only at z; omega
  have hT4 := va_at.kept hT4 (ho22 _ (va_at.lt hT4))
  have n_b4_q9 : b4 ≠ q9 := by have z := va_at.lt hB4; dsimp only at z; omega
  have hB4 := va_at.kept hB4 (ho22 _ (va_at.lt hB4))
  have n_c4_q9 : c4 ≠ q9 := by have z := va_at.lt hC4; dsimp only at z; omega
  have hC4 := va_at.kept hC4 (ho22 _ (va_at.lt hC4))
  have n_q5_q9 : q5 ≠ q9 := by have z := va_at.lt hT5; dsimp only at z; omega
  have hT5 := va_at.kept hT5 (ho22 _ (va_at.lt hT5))
  have n_b5_q9 : b5 ≠ q9 := by have z := va_at.lt hB5; dsimp only at z; omega
  have hB5 := va_at.kept hB5 (ho22 _ (va_at.lt hB5))
  have n_q6_q9 : q6 ≠ q9 := by have z := va_at.lt hB6; dsimp only at z; omega
  have hB6 := va_at.kept hB6 (ho22 _ (va_at.lt hB6))
  have n_q7_q9 : q7 ≠ q9 := by have z := va_at.lt hT7; dsimp only at z; omega
  have hT7 := va_at.kept hT7 (ho22 _ (va_at.lt hT7))
  have n_q8_q9 : q8 ≠ q9 := by have z := va_at.lt hT8; dsimp only at z; omega
  have hT8 := va_at.kept hT8 (ho22 _ (va_at.lt hT8))
  have n_b8_q9 : b8 ≠ q9 := by have z := va_at.lt hB8; dsimp only at z; omega
  have hB8 := va_at.kept hB8 (ho22 _ (va_at.lt hB8))
  have hS1 := hS.1
  have l_a : a < Array.size H22 := va_at.lt hO
  have l_q1 : q1 < Array.size H22 := va_at.lt hT1
  have l_q2 : q2 < Array.size H22 := va_at.lt hT2
  have l_q3 : q3 < Array.size H22 := va_at.lt hT3
  have l_b3 : b3 < Array.size H22 := va_at.lt hB3
  have l_c3 : c3 < Array.size H22 := va_at.lt hC3
  have l_q4 : q4 < Array.size H22 := va_at.lt hT4
  have l_b4 : b4 < Array.size H22 := va_at.lt hB4
  have l_c4 : c4 < Array.size H22 := va_at.lt hC4
  have l_q5 : q5 < Array.size H22 := va_at.lt hT5
  have l_b5 : b5 < Array.size H22 := va_at.lt hB5
  have l_q6 : q6 < Array.size H22 := va_at.lt hB6
  have l_q7 : q7 < Array.size H22 := va_at.lt hT7
  have l_q8 : q8 < Array.size H22 := va_at.lt hT8
  have l_b8 : b8 < Array.size H22 := va_at.lt hB8
  have l_q9 : q9 < Array.size H22 := va_at.lt hB9
  refine x_wr (x_I (n := 3) (As := [.int (-1), .ref q8, .ref q9]) F (c_IM_init l G q7 q8 q9 (-1)) ok_IM_init k87 ⟨Nat.le_of_ble_eq_true rfl, Nat.le_of_ble_eq_true rfl⟩ rfl rfl hK (hT7) rfl hl.1 rfl (Nat.le_of_ble_eq_true rfl) d_IS_init_91 ⟨Nat.le_of_ble_eq_true rfl, Nat.le_of_ble_eq_true rfl⟩) hS (fun q h => Or.inr (by rw [show q = q7 from h]; omega)) (fun _ _ h => off (by omega) h.2.2) (fun v H23 locs hpost hS => ?_)
  obtain ⟨rfl, hT7, ho⟩ := hpost
  have hsz9 := ho.1
  have hO := x_keep hO ho n_a_q7
  have hT1 := x_keep hT1 ho n_q1_q7
  have hT2 := x_keep hT2 ho n_q2_q7
  have hT3 := x_keep hT3 ho n_q3_q7
  have hB3 := x_keep hB3 ho n_b3_q7
  have hC3 := x_keep hC3 ho n_c3_q7
  have hT4 := x_keep hT4 ho n_q4_q7
  have hB4 := x_keep hB4 ho n_b4_q7
  have hC4 := x_keep hC4 ho n_c4_q7
  have hT5 := x_keep hT5 ho n_q5_q7
  have hB5 := x_keep hB5 ho n_b5_q7
  have hB6 := x_keep hB6 ho n_q6_q7
  have hT8 := x_keep hT8 ho (Ne.symm n_q7_q8)
  have hB8 := x_keep hB8 ho (Ne.symm n_q7_b8)
  have hB9 := x_keep hB9 ho (Ne.symm n_q7_q9)
  have hS1 := hS.1
  have l_a : a < Array.size H23 := va_at.lt hO
  have l_q1 : q1 < Array.size H23 := va_at.lt hT1
  have l_q2 : q2 < Array.size H23 := va_at.lt hT2
  have l_q3 : q3 < Array.size H23 := va_at.lt hT3
  have l_b3 : b3 < Array.size H23 := va_at.lt hB3
  have l_c3 : c3 < Array.size H23 := va_at.lt hC3
  have l_q4 : q4 < Array.size H23 := va_at.lt hT4
  have l_b4 : b4 < Array.size H23 := va_at.lt hB4
  have l_c4 : c4 < Array.size H23 := va_at.lt hC4
  have l_q5 : q5 < Array.size H23 := va_at.lt hT5
  have l_b5 : b5 < Array.size H23 := va_at.lt hB5
  have l_q6 : q6 < Array.size H23 := va_at.lt hB6
  have l_q7 : q7 < Array.size H23 := va_at.lt hT7
  have l_q8 : q8 < Array.size H23 := va_at.lt hT8
  have l_b8 : b8 < Array.size H23 := va_at.lt hB8
  have l_q9 : q9 < Array.size H23 := va_at.lt hB9
  have hx : x_t G < Array.size H23 := by omega
  refine x_wr (x_V (n := 1) (As := [.ref q7]) F (c_AL_add1 l G q1 (x_t G) 0 0 q7 _ (fun _ => none) (by decide) (show x_sa G ≠ q1 by omega) (show x_t G ≠ q1 by omega) hx) ok_AL_add1 k104 ⟨Nat.le_of_ble_eq_true rfl, Nat.le_of_ble_eq_true rfl⟩ rfl rfl hK (x_rcv hK hT1 rfl) (⟨rfl, hZk hS, ⟨_, Or.inl hT7⟩, n_q1_q7, show x_t G ≠ q7 by omega, fun j hj => absurd hj (Nat.not_lt_zero j), ⟨⟨mo1, hT1⟩, hq1t, Or.inl ⟨rfl, rfl⟩, by decide⟩⟩) rfl hl.1 rfl (Nat.le_of_ble_eq_true rfl) d_IS_init_94 ⟨Nat.le_of_ble_eq_true rfl, Nat.le_of_ble_eq_true rfl⟩) hS (fun q h => h.elim (fun h => Or.inr (h.elim (fun h => by rw [h]; omega) (fun h => absurd rfl h.2))) (fun h => Or.inr (Nat.le_trans (by omega) h))) (fun _ _ h => h.2.2.mono (fun q h => Or.inr (h.elim (fun h => by rw [h]; omega) (fun h => absurd rfl h.2)))) (fun v H24 locs hpost hS => ?_)
  obtain ⟨rfl, ⟨d', cap', es', hAL, he1, he2, he3⟩, ho⟩ := hpost
  have hd' : Array.size H23 ≤ d' := he3.elim (fun z => absurd rfl z.2) (fun z => z)
  have hsz10 := ho.1
  have hO := x_keep hO ho (fun z => z.elim n_a_q1 (fun z => z.2 rfl))
  have hT2 := x_keep hT2 ho (fun z => z.elim (Ne.symm n_q1_q2) (fun z => z.2 rfl))
  have hT3 := x_keep hT3 ho (fun z => z.elim (Ne.symm n_q1_q3) (fun z => z.2 rfl))
  have hB3 := x_keep hB3 ho (fun z => z.elim (Ne.symm n_q1_b3) (fun z => z.2 rfl))
  have hC3 := x_keep hC3 ho (fun z => z.elim (Ne.symm n_q1_c3) (fun z => z.2 rfl))
  have hT4 := x_keep hT4 ho (fun z => z.elim (Ne.symm n_q1_q4) (fun z => z.2 rfl))
  have hB4 := x_keep hB4 ho (fun z => z.elim (Ne.symm n_q1_b4) (fun z => z.2 rfl))
  have hC4 := x_keep hC4 ho (fun z => z.elim (Ne.symm n_q1_c4) (fun z => z.2 rfl))
  have hT5 := x_keep hT5 ho (fun z => z.elim (Ne.symm n_q1_q5) (fun z => z.2 rfl))
  have hB5 := x_keep hB5 ho (fun z => z.elim (Ne.symm n_q1_b5) (fun z => z.2 rfl))
  have hB6 := x_keep hB6 ho (fun z => z.elim (Ne.symm n_q1_q6) (fun z => z.2 rfl))
  have hT7 := x_keep hT7 ho (fun z => z.elim (Ne.symm n_q1_q7) (fun z => z.2 rfl))
  have hT8 := x_keep hT8 ho (fun z => z.elim (Ne.symm n_q1_q8) (fun z => z.2 rfl))
  have hB8 := x_keep hB8 ho (fun z => z.elim (Ne.symm n_q1_b8) (fun z => z.2 rfl))
  have hB9 := x_keep hB9 ho (fun z => z.elim (Ne.symm n_q1_q9) (fun z => z.2 rfl))
  refine lv_pop F.1 F.2.1 d_IS_init_97 rfl ?_
  have hd2 : q9 < d' := by omega
  have c1 : sz ≤ q1 := by omega
  have c2 : q1 < q2 := by omega
  have c3' : q2 < q3 := by omega
  have c4' : q3 < b3 := by omega
  have c5 : q3 < c3 := by omega
  have c7 : b3 < q4 := by omega
  have c8 : c3 < q4 := by omega
  have c9 : q4 < b4 := by omega
  have c10 : q4 < c4 := by omega
  have c12 : b4 < q5 := by omega
  have c13 : c4 < q5 := by omega
  have c14 : q5 < b5 := by omega
  have c15 : b5 < q6 := by omega
  have c16 : q6 < q7 := by omega
  have c17 : q7 < q8 := by omega
  have c18 : q8 < b8 := by omega
  have c19 : b8 < q9 := by omega
  have hge := cin_ge ha hts n2 c1 c2 c3' c4' c5 m33 c7 c8 c9 c10 m43 c12 c13 c14 c15 c16 c17 c18 c19 hd2
  have hij := cin_inj ha hts n2 c1 c2 c3' c4' c5 m33 c7 c8 c9 c10 m43 c12 c13 c14 c15 c16 c17 c18 c19 hd2
  have hi0 : ∀ i, i < gn σ0 → i = 0 := fun i hi => by have hi : i < 1 := hi; omega
  have h79 : q7 ≠ q9 := by omega
  refine hret _ _ _ _ _ _ d_IS_init_98 ⟨rfl, ⟨cin a q1 d' q2 (x_t G) q3 b3 c3 q4 b4 c4 q5 b5 q6 q7 q8 b8 q9, _, rfl, hge, rfl, hij, fun c hc => ?_, hO, ⟨hZk hS, ⟨cap', es', hAL, fun i hi => ?_⟩, ⟨0, fun _ => none, ⟨⟨mo2, hT2⟩, hq2t, Or.inl ⟨rfl, rfl⟩, by decide⟩, fun k hk => absurd hk (Nat.not_lt_zero k)⟩, fun i hi => ?_, fun i hi => ?_, fun k hk => absurd hk (Nat.not_lt_zero k)⟩, ⟨hT3, hB3, hC3, m31, m32, m33⟩, ⟨hT4, hB4, hC4, m41, m42, m43⟩, ⟨hT5, hB5, m51⟩, hB6⟩, hS.1, fun q h1 h2 => hS.2.1 q h1 (fun z => z.elim h2 (fun z => by omega))⟩ hS.2.2 (Nat.le_of_ble_eq_true rfl) (Nat.le_of_ble_eq_true rfl)
  · have hc : us 1 0 c := hc
    by_cases z0 : c = 0
    · rw [z0]; exact ⟨Ne.symm n1, fun _ => Ne.symm n2⟩
    · by_cases z4 : c = 4
      · rw [z4]; exact ⟨hts2, fun z => absurd rfl z⟩
      · have := hge c hc z0 z4
        exact ⟨by omega, fun _ => by omega⟩
  · rw [hi0 i hi]; exact he2
  · rw [hi0 i hi]; exact ⟨hT7, hB9, h79⟩
  · rw [hi0 i hi]; exact ⟨hT8, hB8, m81⟩

