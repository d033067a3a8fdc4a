/-! ===== Layer ===== -/
/-- what the layer from f to g says of p -/
def mk (f g : Nat → Int64) (p : Nat) : Int64 := if g p = f p then wNON else if g p = wABS then (if g (pa p) = wDIR then wGON else wNON) else g p
theorem c_LY_changeAt (l : Launch) (G : x_G) (a1 b1 a2 b2 : Nat) (f g : Nat → Int64) (i : Nat) (hi : i < 125) : Met l y_LY_changeAt (x_ws y_LY_changeAt b_LY_changeAt 5 (some .long)) (x_rm 2 0 0) (x_P G [.int (nI i), .ref a1, .ref a2] (fun H => TR G a1 b1 f H ∧ TR G a2 b2 g H)) (k2_QcV (.long (mk f g i))) 0 0 (fun _ => False) := by
  refine x_mL (by decide +kernel) (Nat.le_of_ble_eq_true rfl) (fun p e s m args below meth c F hK hP ls hl Q hret => ?_)
  have hl : lv_has ls 5 [(0, .int (nI i)), (1, .ref a1), (2, .ref a2)] := hl
  obtain ⟨h1, h2⟩ := hP
  have hT1 := h1.1
  have hT2 := h2.1
  have hpi := pa_lt i hi
  refine lv_aload_n F.1 F.2.1 d_LY_changeAt_0 rfl (lv_at hl 2 rfl) ?_
  refine lv_iload_n F.1 F.2.1 d_LY_changeAt_1 rfl (lv_at hl 0 rfl) ?_
  refine x_rd (x_V (n := 1) (As := [.int (nI i)]) F (c_TR_at l G a2 b2 g i hi) ok_TR_at k312 ⟨Nat.le_of_ble_eq_true rfl, Nat.le_of_ble_eq_true rfl⟩ rfl rfl hK (x_rcv hK hT2 rfl) (h2) rfl hl.1 rfl (Nat.le_of_ble_eq_true rfl) d_LY_changeAt_2 ⟨Nat.le_of_ble_eq_true rfl, Nat.le_of_ble_eq_true rfl⟩) ?_
  refine lv_lstore_n (lv' := [(3, .long (g i)), (0, .int (nI i)), (1, .ref a1), (2, .ref a2)]) F.1 F.2.1 d_LY_changeAt_5 rfl hl (by decide) rfl (fun ls hl => ?_)
  refine lv_lload_n F.1 F.2.1 d_LY_changeAt_6 rfl (lv_at hl 0 rfl) ?_
  refine lv_aload_n F.1 F.2.1 d_LY_changeAt_7 rfl (lv_at hl 2 rfl) ?_
  refine lv_iload_n F.1 F.2.1 d_LY_changeAt_8 rfl (lv_at hl 1 rfl) ?_
  refine x_rd (x_V (n := 1) (As := [.int (nI i)]) F (c_TR_at l G a1 b1 f i hi) ok_TR_at k312 ⟨Nat.le_of_ble_eq_true rfl, Nat.le_of_ble_eq_true rfl⟩ rfl rfl hK (x_rcv hK hT1 rfl) (h1) rfl hl.1 rfl (Nat.le_of_ble_eq_true rfl) d_LY_changeAt_9 ⟨Nat.le_of_ble_eq_true rfl, Nat.le_of_ble_eq_true rfl⟩) ?_
  refine x_lne (tgt := 20) F d_LY_changeAt_12 d_LY_changeAt_13 (by decide) (fun c12 => ?_) (fun c12 => ?_)
  · refine lv_lload_n F.1 F.2.1 d_LY_changeAt_20 rfl (lv_at hl 0 rfl) ?_
    refine x_cst F k317 d_LY_changeAt_21 ?_
    refine x_leq (tgt := 30) F d_LY_changeAt_24 d_LY_changeAt_25 (by decide) (fun c24 => ?_) (fun c24 => ?_)
    · refine lv_aload_n F.1 F.2.1 d_LY_changeAt_30 rfl (lv_at hl 3 rfl) ?_
      refine lv_iload_n F.1 F.2.1 d_LY_changeAt_31 rfl (lv_at hl 1 rfl) ?_
      refine x_rd (x_S (n := 1) (As := [.int (nI i)]) F (c_PA_parent l G (nI i)) ok_PA_parent k318 ⟨Nat.le_of_ble_eq_true rfl, Nat.le_of_ble_eq_true rfl⟩ rfl rfl hK (trivial) rfl hl.1 rfl (Nat.le_of_ble_eq_true rfl) d_LY_changeAt_32 ⟨Nat.le_of_ble_eq_true rfl, Nat.le_of_ble_eq_true rfl⟩) ?_
      rw [pj_parent_n i hi]
      refine x_rd (x_V (n := 1) (As := [.int (nI (pa i))]) F (c_TR_at l G a2 b2 g (pa i) hpi) ok_TR_at k312 ⟨Nat.le_of_ble_eq_true rfl, Nat.le_of_ble_eq_true rfl⟩ rfl rfl hK (x_rcv hK hT2 rfl) (h2) rfl hl.1 rfl (Nat.le_of_ble_eq_true rfl) d_LY_changeAt_35 ⟨Nat.le_of_ble_eq_true rfl, Nat.le_of_ble_eq_true rfl⟩) ?_
      refine x_cst F k319 d_LY_changeAt_38 ?_
      refine x_lne (tgt := 51) F d_LY_changeAt_41 d_LY_changeAt_42 (by decide) (fun c41 => ?_) (fun c41 => ?_)
      · refine x_cst F k316 d_LY_changeAt_51 ?_
        exact hret _ _ _ d_LY_changeAt_54 (by unfold mk; rw [if_neg c12, if_pos c24, if_neg c41])
      · refine x_cst F k320 d_LY_changeAt_45 ?_
        refine lv_goto (tgt := 54) F.1 F.2.1 d_LY_changeAt_48 (by decide) ?_
        exact hret _ _ _ d_LY_changeAt_54 (by unfold mk; rw [if_neg c12, if_pos c24, if_pos c41])
    · refine lv_lload_n F.1 F.2.1 d_LY_changeAt_28 rfl (lv_at hl 0 rfl) ?_
      exact hret _ _ _ d_LY_changeAt_29 (by unfold mk; rw [if_neg c12, if_neg c24])
  · refine x_cst F k316 d_LY_changeAt_16 ?_
    exact hret _ _ _ d_LY_changeAt_19 (by unfold mk; rw [if_pos c12])
/-- the paths that a layer has an entry for, of those below n -/
def eL (f g : Nat → Int64) (n : Nat) : List Nat := (List.range n).filter fun p => decide (p ≠ 0) && !decide (mk f g p = wNON)
theorem eL_s (f g : Nat → Int64) {i : Nat} (h0 : i ≠ 0) (h : mk f g i ≠ wNON) : eL f g (i + 1) = eL f g i ++ [i] := by
  unfold eL
  rw [List.range_succ, List.filter_append, List.filter_cons_of_pos (by simp [h0, h]), List.filter_nil]
theorem eL_n (f g : Nat → Int64) {i : Nat} (h : mk f g i = wNON) : eL f g (i + 1) = eL f g i := by
  unfold eL
  rw [List.range_succ, List.filter_append, List.filter_cons_of_neg (by simp [h]), List.filter_nil, List.append_nil]
theorem eL_0 (f g : Nat → Int64) : eL f g 1 = [] := by
  unfold eL
  rfl
theorem eL_pre (f g : Nat → Int64) {i j : Nat} (h : i ≤ j) : ∃ t, eL f g j = eL f g i ++ t := by
  induction j with
  | zero => exact ⟨[], by rw [show i = 0 by omega, List.append_nil]⟩
  | succ j ih =>
    rcases Nat.lt_or_ge i (j + 1) with q | q
    · obtain ⟨t, ht⟩ := ih (by omega)
      unfold eL at ht ⊢
      rw [List.range_succ, List.filter_append, ht, List.append_assoc]
      exact ⟨_, rfl⟩
    · exact ⟨[], by rw [show i = j + 1 by omega, List.append_nil]⟩
theorem eL_len (f g : Nat → Int64) (i : Nat) : (eL f g i).length ≤ i := by
  unfold eL
  exact Nat.le_trans (List.length_filter_le _ _) (by rw [List.length_range]; exact Nat.le_refl _)
theorem eL_len1 (f g : Nat → Int64) {i : Nat} (h : 1 ≤ i) : (eL f g i).length + 1 ≤ i := by
  induction i with
  | zero => omega
  | succ i ih =>
    rcases Nat.eq_zero_or_pos i with rfl | q
    · rw [eL_0]; exact Nat.le_refl _
    · have := ih q
      by_cases hm : mk f g i = wNON
      · rw [eL_n f g hm]; omega
      · rw [eL_s f g (by omega) hm, List.length_append]; simp; omega
/-- a layer at a: its paths at b, its marks at c0 -/
def LY (G : x_G) (a b c0 : Nat) (L : List Nat) (w : Nat → Int64) (H : Heap) : Prop := va_at G.1 x_cl (a, .inr (2, [.ref b, .ref c0])) H ∧ x_ai G b L.length (fun k => nI (L.getD k 0)) H ∧ x_al G c0 L.length (fun k => w (L.getD k 0)) H ∧ a ≠ b ∧ a ≠ c0 ∧ b ≠ c0
def pFi (L : List Nat) : Nat → Int32 := fun k => if k < L.length then nI (L.getD k 0) else 0
def pFl (L : List Nat) (w : Nat → Int64) : Nat → Int64 := fun k => if k < L.length then w (L.getD k 0) else 0
theorem getD_app (L : List Nat) (i k : Nat) : (L ++ [i]).getD k 0 = if k < L.length then L.getD k 0 else if k = L.length then i else 0 := by
  by_cases h : k < L.length
  · rw [if_pos h, List.getD_eq_getElem?_getD, List.getElem?_append_left h, ← List.getD_eq_getElem?_getD]
  · rw [if_neg h, List.getD_eq_getElem?_getD, List.getElem?_append_right (by omega)]
    by_cases h2 : k = L.length
    · rw [if_pos h2, h2, Nat.sub_self]; rfl
    · rw [if_neg h2]
      have : 0 < k - L.length := by omega
      cases hk : k - L.length with
      | zero => omega
      | succ d => rfl
theorem pFi_s (L : List Nat) (i : Nat) : upd (pFi L) L.length (nI i) = pFi (L ++ [i]) := funext fun k => by
  unfold upd pFi
  rw [getD_app, List.length_append]
  by_cases h : k = L.length
  · rw [if_pos h, if_pos (by simp; omega), if_neg (by omega), if_pos h]
  · rw [if_neg h]
    by_cases h2 : k < L.length
    · rw [if_pos h2, if_pos (by simp; omega), if_pos h2]
    · rw [if_neg h2, if_neg (by simp; omega)]
theorem pFl_s (L : List Nat) (w : Nat → Int64) (i : Nat) : vp_updL (pFl L w) L.length (w i) = pFl (L ++ [i]) w := funext fun k => by
  unfold vp_updL pFl
  rw [getD_app, List.length_append]
  by_cases h : k = L.length
  · rw [if_pos h, if_pos (by simp; omega), if_neg (by omega), if_pos h]
  · rw [if_neg h]
    by_cases h2 : k < L.length
    · rw [if_pos h2, if_pos (by simp; omega), if_pos h2]
    · rw [if_neg h2, if_neg (by simp; omega)]
theorem c_LY_init (l : Launch) (G : x_G) (a a1 b1 a2 b2 : Nat) (f g : Nat → Int64) (sz : Nat) (n1 : a1 ≠ a) (n2 : a2 ≠ a) (n3 : b1 ≠ a) (n4 : b2 ≠ a) : Met l y_LY_init (x_ws y_LY_init b_LY_init 8 none) (x_rm 3 2 248) (x_P G [.ref a, .ref a1, .ref a2] (fun H => H.size = sz ∧ va_at G.1 x_cl (a, .inr (2, [.null, .null])) H ∧ TR G a1 b1 f H ∧ TR G a2 b2 g H)) (x_Q (fun r H H1 => r = none ∧ (∃ b c0, sz ≤ b ∧ b < c0 ∧ LY G a b c0 (eL f g 125) (mk f g) H1) ∧ x_off (fun q => q = a) H H1)) 2 248 (fun q => q = a ∨ sz ≤ q) := by
  refine x_wV (by decide +kernel) (Nat.le_of_ble_eq_true rfl) (fun p e s m args below meth c F hnm hK hP ls hl Q hret => ?_)
  have hl : lv_has ls 8 [(0, .ref a), (1, .ref a1), (2, .ref a2)] := hl
  obtain ⟨hsz, hT, h1, h2⟩ := hP
  have hS : va_S (fun q => q = a ∨ sz ≤ q) s.heap s.heap [] := va_S.rf
  have hA1 : a1 < sz := by rw [← hsz]; exact h1.1.lt
  have hA2 : a2 < sz := by rw [← hsz]; exact h2.1.lt
  have hB1 : b1 < sz := by rw [← hsz]; exact h1.2.1.lt
  have hB2 : b2 < sz := by rw [← hsz]; exact h2.2.1.lt
  have hA : a < sz := by rw [← hsz]; exact hT.lt
  have kp : ∀ {H : Heap} {locs : List Loc}, va_S (fun q => q = a ∨ sz ≤ q) s.heap H locs → TR G a1 b1 f H ∧ TR G a2 b2 g H := fun hS => ⟨⟨x_keep h1.1 hS.off (fun z => z.elim n1 (fun z => by omega)), x_keep h1.2.1 hS.off (fun z => z.elim n3 (fun z => by omega)), h1.2.2⟩, x_keep h2.1 hS.off (fun z => z.elim n2 (fun z => by omega)), x_keep h2.2.1 hS.off (fun z => z.elim n4 (fun z => by omega)), h2.2.2⟩
  have loop2 : ∀ (b c0 : Nat), sz ≤ b → b < c0 → b ≠ c0 → ∀ (d i : Nat), 1 ≤ i → i + d = 125 → ∀ (H : Heap) (locs : List Loc), va_at G.1 x_cl (a, .inr (2, [.ref b, .ref c0])) H → x_ai G b (eL f g 125).length (pFi (eL f g i)) H → x_al G c0 (eL f g 125).length (pFl (eL f g i) (mk f g)) H → va_S (fun q => q = a ∨ sz ≤ q) s.heap H locs → ∀ ls : Array Slot, lv_has ls 8 [(5, .int (nI i)), (4, .int (nI (eL f g i).length)), (3, .int (nI (eL f g 125).length)), (0, .ref a), (1, .ref a1), (2, .ref a2)] → W p l e (x_rm 3 2 248) s m args below meth c H locs 2 248 Q (F0 m 59 ls []) := by
    intro b c0 hbs hbl hbc d
    have hcs : sz ≤ c0 := by omega
    have hab : a ≠ b := by omega
    have hac : a ≠ c0 := by omega
    have hE := eL_len f g 125
    have fin : ∀ (i : Nat), i ≤ 125 → (eL f g 125).length ≤ (eL f g i).length → ∀ (H : Heap) (locs : List Loc) (ls : Array Slot), va_at G.1 x_cl (a, .inr (2, [.ref b, .ref c0])) H → x_ai G b (eL f g 125).length (pFi (eL f g i)) H → x_al G c0 (eL f g 125).length (pFl (eL f g i) (mk f g)) H → va_S (fun q => q = a ∨ sz ≤ q) s.heap H locs → W p l e (x_rm 3 2 248) s m args below meth c H locs 2 248 Q (F0 m 117 ls []) := by
      intro i hi hle H locs ls hT hN hM hS
      have e : eL f g i = eL f g 125 := by
        obtain ⟨t, ht⟩ := eL_pre f g hi
        have : t = [] := by
          cases t with
          | nil => rfl
          | cons x t => rw [ht, List.length_append, List.length_cons] at hle; omega
        rw [ht, this, List.append_nil]
      rw [e] at hN hM
      exact hret _ _ _ _ _ _ d_LY_init_117 ⟨rfl, ⟨b, c0, hbs, hbl, hT, x_ai.cg hN (fun j hj => if_pos hj), x_al.cg hM (fun j hj => if_pos hj), hab, hac, hbc⟩, hS.1, fun q h1 h2 => hS.2.1 q h1 (fun z => z.elim h2 (fun z => by omega))⟩ hS.2.2 (Nat.le_refl _) (Nat.le_refl _)
    induction d with
    | zero =>
      intro i hi1 hi H locs hT hN hM hS ls hl
      obtain rfl : i = 125 := by omega
      refine lv_iload F.1 F.2.1 d_LY_init_59 (lv_at hl 0 rfl) ?_
      refine lv_bipush (v := 125) F.1 F.2.1 d_LY_init_61 (by decide) ?_
      refine lv_icmp_ge (tgt := 117) F.1 F.2.1 d_LY_init_63 (by decide) (fun _ => ?_) (fun zq => absurd (pN_le (a := 125) (b := 125) rfl rfl (by omega) (by omega) (by omega)) zq)
      exact fin 125 (Nat.le_refl _) (Nat.le_refl _) _ _ _ hT hN hM hS
    | succ d ih =>
      intro i hi1 hi H locs hT hN hM hS ls hl
      have hi125 : i < 125 := by omega
      have hLi := eL_len f g i
      refine lv_iload F.1 F.2.1 d_LY_init_59 (lv_at hl 0 rfl) ?_
      refine lv_bipush (v := 125) F.1 F.2.1 d_LY_init_61 (by decide) ?_
      refine lv_icmp_ge (tgt := 117) F.1 F.2.1 d_LY_init_63 (by decide) (fun zq => absurd zq (pN_nle (a := 125) (b := i) rfl rfl (by omega) (by omega) (by omega))) (fun _ => ?_)
      refine lv_iload F.1 F.2.1 d_LY_init_66 (lv_at hl 1 rfl) ?_
      refine lv_iload_n F.1 F.2.1 d_LY_init_68 rfl (lv_at hl 2 rfl) ?_
      refine lv_icmp_ge (tgt := 117) F.1 F.2.1 d_LY_init_69 (by decide) (fun c69 => ?_) (fun c69 => ?_)
      · have c69 := (pN_leI (a := ((eL f g 125).length)) (b := ((eL f g i).length)) rfl rfl (by omega) (by omega)).mp c69
        exact fin i (by omega) c69 _ _ _ hT hN hM hS
      · have c69 := mt (pN_leI (a := ((eL f g 125).length)) (b := ((eL f g i).length)) rfl rfl (by omega) (by omega)).mpr c69
        refine lv_iload F.1 F.2.1 d_LY_init_72 (lv_at hl 0 rfl) ?_
        refine lv_aload_n F.1 F.2.1 d_LY_init_74 rfl (lv_at hl 4 rfl) ?_
        refine lv_aload_n F.1 F.2.1 d_LY_init_75 rfl (lv_at hl 5 rfl) ?_
        refine x_rd (x_S (n := 3) (As := [.int (nI i), .ref a1, .ref a2]) F (c_LY_changeAt l G a1 b1 a2 b2 f g i hi125) ok_LY_changeAt k309 ⟨Nat.le_of_ble_eq_true rfl, Nat.le_of_ble_eq_true rfl⟩ rfl rfl hK (kp hS) rfl hl.1 rfl (Nat.le_of_ble_eq_true rfl) d_LY_init_76 ⟨Nat.le_of_ble_eq_true rfl, Nat.le_of_ble_eq_true rfl⟩) ?_
        refine lv_lstore (lv' := [(6, .long (mk f g i)), (5, .int (nI i)), (4, .int (nI (eL f g i).length)), (3, .int (nI (eL f g 125).length)), (0, .ref a), (1, .ref a1), (2, .ref a2)]) F.1 F.2.1 d_LY_init_79 hl (by decide) rfl (fun ls hl => ?_)
        refine lv_lload F.1 F.2.1 d_LY_init_81 (lv_at hl 0 rfl) ?_
        refine x_cst F k316 d_LY_init_83 ?_
        refine x_leq (tgt := 111) F d_LY_init_86 d_LY_init_87 (by decide) (fun c86 => ?_) (fun c86 => ?_)
        · refine lv_iinc (v := (nI (i + 1))) (lv' := [(5, .int (nI (i + 1))), (6, .long (mk f g i)), (4, .int (nI (eL f g i).length)), (3, .int (nI (eL f g 125).length)), (0, .ref a), (1, .ref a1), (2, .ref a2)]) F.1 F.2.1 d_LY_init_111 hl (k := 1) rfl (nI_1 i) (by decide) rfl (fun ls hl => ?_)
          refine lv_goto (tgt := 59) F.1 F.2.1 d_LY_init_114 (by decide) ?_
          exact ih (i + 1) (by omega) (by omega) _ _ hT (by rw [eL_n f g c86]; exact hN) (by rw [eL_n f g c86]; exact hM) hS ls (by rw [eL_n f g c86]; exact lv_sub hl [0, 2, 3, 4, 5, 6] rfl)
        · refine lv_aload_n F.1 F.2.1 d_LY_init_90 rfl (lv_at hl 4 rfl) ?_
          refine x_get F hK hT rfl i_LY 0 (by decide) k321 rfl rfl d_LY_init_91 ?_
          refine lv_iload F.1 F.2.1 d_LY_init_94 (lv_at hl 2 rfl) ?_
          refine lv_iload F.1 F.2.1 d_LY_init_96 (lv_at hl 1 rfl) ?_
          refine x_iastN F hK hN (by omega) (by omega) hS (Or.inr hbs) d_LY_init_98 (fun H1 locs hN hz1 ho1 hS => ?_)
          have hT := va_at.kept hT (ho1 _ hab)
          have hM := va_at.kept hM (ho1 _ (Ne.symm hbc))
          refine lv_aload_n F.1 F.2.1 d_LY_init_99 rfl (lv_at hl 4 rfl) ?_
          refine x_get F hK hT rfl i_LY 1 (by decide) k323 rfl rfl d_LY_init_100 ?_
          refine lv_iload F.1 F.2.1 d_LY_init_103 (lv_at hl 2 rfl) ?_
          refine lv_lload F.1 F.2.1 d_LY_init_105 (lv_at hl 0 rfl) ?_
          refine x_lastN F hK hM (by omega) (by omega) hS (Or.inr hcs) d_LY_init_107 (fun H2 locs hM hz2 ho2 hS => ?_)
          have hT := va_at.kept hT (ho2 _ hac)
          have hN := va_at.kept hN (ho2 _ hbc)
          refine lv_iinc (v := (nI ((eL f g i).length + 1))) (lv' := [(4, .int (nI ((eL f g i).length + 1))), (6, .long (mk f g i)), (5, .int (nI i)), (3, .int (nI (eL f g 125).length)), (0, .ref a), (1, .ref a1), (2, .ref a2)]) F.1 F.2.1 d_LY_init_108 hl (k := 2) rfl (nI_1 ((eL f g i).length)) (by decide) rfl (fun ls hl => ?_)
          refine lv_iinc (v := (nI (i + 1))) (lv' := [(5, .int (nI (i + 1))), (4, .int (nI ((eL f g i).length + 1))), (6, .long (mk f g i)), (3, .int (nI (eL f g 125).length)), (0, .ref a), (1, .ref a1), (2, .ref a2)]) F.1 F.2.1 d_LY_init_111 hl (k := 2) rfl (nI_1 i) (by decide) rfl (fun ls hl => ?_)
          refine lv_goto (tgt := 59) F.1 F.2.1 d_LY_init_114 (by decide) ?_
          exact ih (i + 1) (by omega) (by omega) _ _ hT (by rw [eL_s f g (by omega) c86, ← pFi_s]; exact hN) (by rw [eL_s f g (by omega) c86, ← pFl_s]; exact hM) hS ls (by rw [eL_s f g (by omega) c86, List.length_append]; exact lv_sub hl [0, 1, 3, 4, 5, 6] rfl)
  have loop1 : ∀ (d i : Nat), 1 ≤ i → i + d = 125 → ∀ ls : Array Slot, lv_has ls 8 [(4, .int (nI i)), (3, .int (nI (eL f g i).length)), (0, .ref a), (1, .ref a1), (2, .ref a2)] → W p l e (x_rm 3 2 248) s m args below meth c s.heap [] 0 0 Q (F0 m 9 ls []) := by
    intro d
    induction d with
    | zero =>
      intro i hi1 hi ls hl
      obtain rfl : i = 125 := by omega
      have hE := eL_len1 f g (i := 125) (by decide)
      generalize hgl : (eL f g 125).length = gl at hE hl
      refine lv_iload F.1 F.2.1 d_LY_init_9 (lv_at hl 0 rfl) ?_
      refine lv_bipush (v := 125) F.1 F.2.1 d_LY_init_11 (by decide) ?_
      refine lv_icmp_ge (tgt := 39) F.1 F.2.1 d_LY_init_13 (by decide) (fun _ => ?_) (fun zq => absurd (pN_le (a := 125) (b := 125) rfl rfl (by omega) (by omega) (by omega)) zq)
      refine lv_aload_n F.1 F.2.1 d_LY_init_39 rfl (lv_at hl 2 rfl) ?_
      refine lv_iload_n F.1 F.2.1 d_LY_init_40 rfl (lv_at hl 1 rfl) ?_
      refine x_newaI (N := gl) F hK (by omega) (show 0 + 1 ≤ 2 by omega) (show 0 + gl ≤ 248 by omega) hS d_LY_init_41 (fun b H3 hb hN hz3 ho3 hS => ?_)
      have n_a_b : a ≠ b := by have z := va_at.lt hT; dsimp only at z; omega
      have hT := va_at.kept hT (ho3 _ (va_at.lt hT))
      have hbs : sz ≤ b := by omega
      refine x_putF F hnm hK hT rfl i_LY t_LY p_LY n_LY 0 (by decide) k321 rfl rfl rfl rfl rfl (Nat.le_of_ble_eq_true rfl) hS (Or.inl rfl) d_LY_init_43 (fun H4 locs hT hz4 ho4 hS => ?_)
      have hT : va_at G.1 x_cl (a, .inr (2, [.ref b, .null])) H4 := hT
      have hN := va_at.kept hN (ho4 _ (Ne.symm n_a_b))
      refine lv_aload_n F.1 F.2.1 d_LY_init_46 rfl (lv_at hl 2 rfl) ?_
      refine lv_iload_n F.1 F.2.1 d_LY_init_47 rfl (lv_at hl 1 rfl) ?_
      refine x_newaJ (N := gl) F hK (by omega) (show (0 + 1) + 1 ≤ 2 by omega) (show (0 + gl) + gl ≤ 248 by omega) hS d_LY_init_48 (fun c0 H5 hc0 hM hz5 ho5 hS => ?_)
      have n_a_c0 : a ≠ c0 := by have z := va_at.lt hT; dsimp only at z; omega
      have hT := va_at.kept hT (ho5 _ (va_at.lt hT))
      have n_b_c0 : b ≠ c0 := by have z := va_at.lt hN; dsimp only at z; omega
      have hN := va_at.kept hN (ho5 _ (va_at.lt hN))
      have hcs : sz ≤ c0 := by omega
      refine x_putF F hnm hK hT rfl i_LY t_LY p_LY n_LY 1 (by decide) k323 rfl rfl rfl rfl rfl (Nat.le_of_ble_eq_true rfl) hS (Or.inl rfl) d_LY_init_50 (fun H6 locs hT hz6 ho6 hS => ?_)
      have hT : va_at G.1 x_cl (a, .inr (2, [.ref b, .ref c0])) H6 := hT
      have hN := va_at.kept hN (ho6 _ (Ne.symm n_a_b))
      have hM := va_at.kept hM (ho6 _ (Ne.symm n_a_c0))
      refine lv_iconst (v := 0) F.1 F.2.1 d_LY_init_53 (by decide) ?_
      refine lv_istore (lv' := [(4, .int 0), (3, .int (nI gl)), (0, .ref a), (1, .ref a1), (2, .ref a2)]) F.1 F.2.1 d_LY_init_54 hl (by decide) rfl (fun ls hl => ?_)
      refine lv_iconst (v := 1) F.1 F.2.1 d_LY_init_56 (by decide) ?_
      refine lv_istore (lv' := [(5, .int 1), (4, .int 0), (3, .int (nI gl)), (0, .ref a), (1, .ref a1), (2, .ref a2)]) F.1 F.2.1 d_LY_init_57 hl (by decide) rfl (fun ls hl => ?_)
      refine W.widen (k := 2) (n := 248) (by omega) (by omega) ?_
      refine loop2 b c0 hbs (by omega) n_b_c0 124 1 (by omega) (by omega) _ _ hT ?_ ?_ hS ls ?_
      · rw [hgl, eL_0]; exact x_ai.cg hN (fun j _ => rfl)
      · rw [hgl, eL_0]; exact x_al.cg hM (fun j _ => rfl)
      · rw [hgl, eL_0]; exact lv_sub hl [0, 1, 2, 3, 4, 5] rfl
    | succ d ih =>
      intro i hi1 hi ls hl
      have hi125 : i < 125 := by omega
      refine lv_iload F.1 F.2.1 d_LY_init_9 (lv_at hl 0 rfl) ?_
      refine lv_bipush (v := 125) F.1 F.2.1 d_LY_init_11 (by decide) ?_
      refine lv_icmp_ge (tgt := 39) F.1 F.2.1 d_LY_init_13 (by decide) (fun zq => absurd zq (pN_nle (a := 125) (b := i) rfl rfl (by omega) (by omega) (by omega))) (fun _ => ?_)
      refine lv_iload F.1 F.2.1 d_LY_init_16 (lv_at hl 0 rfl) ?_
      refine lv_aload_n F.1 F.2.1 d_LY_init_18 rfl (lv_at hl 3 rfl) ?_
      refine lv_aload_n F.1 F.2.1 d_LY_init_19 rfl (lv_at hl 4 rfl) ?_
      refine x_rd (x_S (n := 3) (As := [.int (nI i), .ref a1, .ref a2]) F (c_LY_changeAt l G a1 b1 a2 b2 f g i hi125) ok_LY_changeAt k309 ⟨Nat.le_of_ble_eq_true rfl, Nat.le_of_ble_eq_true rfl⟩ rfl rfl hK (⟨h1, h2⟩) rfl hl.1 rfl (Nat.le_of_ble_eq_true rfl) d_LY_init_20 ⟨Nat.le_of_ble_eq_true rfl, Nat.le_of_ble_eq_true rfl⟩) ?_
      refine x_cst F k316 d_LY_init_23 ?_
      refine x_leq (tgt := 33) F d_LY_init_26 d_LY_init_27 (by decide) (fun c26 => ?_) (fun c26 => ?_)
      · refine lv_iinc (v := (nI (i + 1))) (lv' := [(4, .int (nI (i + 1))), (3, .int (nI (eL f g i).length)), (0, .ref a), (1, .ref a1), (2, .ref a2)]) F.1 F.2.1 d_LY_init_33 hl (k := 0) rfl (nI_1 i) (by decide) rfl (fun ls hl => ?_)
        refine lv_goto (tgt := 9) F.1 F.2.1 d_LY_init_36 (by decide) ?_
        exact ih (i + 1) (by omega) (by omega) ls (by rw [eL_n f g c26]; exact hl)
      · refine lv_iinc (v := (nI ((eL f g i).length + 1))) (lv' := [(3, .int (nI ((eL f g i).length + 1))), (4, .int (nI i)), (0, .ref a), (1, .ref a1), (2, .ref a2)]) F.1 F.2.1 d_LY_init_30 hl (k := 1) rfl (nI_1 ((eL f g i).length)) (by decide) rfl (fun ls hl => ?_)
        refine lv_iinc (v := (nI (i + 1))) (lv' := [(4, .int (nI (i + 1))), (3, .int (nI ((eL f g i).length + 1))), (0, .ref a), (1, .ref a1), (2, .ref a2)]) F.1 F.2.1 d_LY_init_33 hl (k := 1) rfl (nI_1 i) (by decide) rfl (fun ls hl => ?_)
        refine lv_goto (tgt := 9) F.1 F.2.1 d_LY_init_36 (by decide) ?_
        exact ih (i + 1) (by omega) (by omega) ls (by rw [eL_s f g (by omega) c26, List.length_append]; exact hl)
  refine lv_aload_n F.1 F.2.1 d_LY_init_0 rfl (lv_at hl 0 rfl) ?_
  refine x_oi F k308 hl.1 d_LY_init_1 (by decide) (by decide) ?_
  refine lv_iconst (v := 0) F.1 F.2.1 d_LY_init_4 (by decide) ?_
  refine lv_istore_n (lv' := [(3, .int 0), (0, .ref a), (1, .ref a1), (2, .ref a2)]) F.1 F.2.1 d_LY_init_5 rfl hl (by decide) rfl (fun ls hl => ?_)
  refine lv_iconst (v := 1) F.1 F.2.1 d_LY_init_6 (by decide) ?_
  refine lv_istore (lv' := [(4, .int 1), (3, .int 0), (0, .ref a), (1, .ref a1), (2, .ref a2)]) F.1 F.2.1 d_LY_init_7 hl (by decide) rfl (fun ls hl => ?_)
  exact loop1 124 1 (by omega) (by omega) ls (by rw [eL_0]; exact hl)
theorem c_LY_size (l : Launch) (G : x_G) (a b c0 : Nat) (L : List Nat) (w : Nat → Int64) : Met l y_LY_size (x_ws y_LY_size b_LY_size 1 (some .int)) (x_rm 0 0 0) (x_P G [.ref a] (LY G a b c0 L w)) (k2_QcV (.int (nI L.length))) 0 0 (fun _ => False) := by
  refine x_mI (by decide +kernel) (Nat.le_of_ble_eq_true rfl) (fun p e s m args below meth c F hK hP ls hl Q hret => ?_)
  have hl : lv_has ls 1 [(0, .ref a)] := hl
  obtain ⟨hT, hN, hM, -⟩ := hP
  refine lv_aload_n F.1 F.2.1 d_LY_size_0 rfl (lv_at hl 0 rfl) ?_
  refine x_get F hK hT rfl i_LY 0 (by decide) k321 rfl rfl d_LY_size_1 ?_
  refine x_alen F hK hN 0 rfl d_LY_size_4 ?_
  exact hret _ _ _ d_LY_size_5 rfl
def lyEq (L : List Nat) (w : Nat → Int64) (L2 : List Nat) (w2 : Nat → Int64) : Bool := decide (L.length = L2.length) && (List.range L.length).all fun k => decide (nI (L.getD k 0) = nI (L2.getD k 0)) && decide (w (L.getD k 0) = w2 (L2.getD k 0))
theorem lyEq_t {L L2 : List Nat} {w w2 : Nat → Int64} (h1 : L.length = L2.length) (h2 : ∀ k, k < L.length → nI (L.getD k 0) = nI (L2.getD k 0) ∧ w (L.getD k 0) = w2 (L2.getD k 0)) : lyEq L w L2 w2 = true := by
  unfold lyEq
  rw [decide_eq_true h1, Bool.true_and, List.all_eq_true]
  intro k hk
  obtain ⟨q1, q2⟩ := h2 k (List.mem_range.mp hk)
  rw [decide_eq_true q1, decide_eq_true q2]; rfl
theorem lyEq_of {L L2 : List Nat} {w w2 : Nat → Int64} (h : lyEq L w L2 w2 = true) : L.length = L2.length ∧ ∀ k, k < L.length → nI (L.getD k 0) = nI (L2.getD k 0) ∧ w (L.getD k 0) = w2 (L2.getD k 0) := by
  unfold lyEq at h
  rw [Bool.and_eq_true, List.all_eq_true] at h
  refine ⟨of_decide_eq_true h.1, fun k hk => ?_⟩
  have := h.2 k (List.mem_range.mpr hk)
  rw [Bool.and_eq_true] at this
  exact ⟨of_decide_eq_true this.1, of_decide_eq_true this.2⟩
theorem lyEq_f {L L2 : List Nat} {w w2 : Nat → Int64} (h : ¬ (L.length = L2.length ∧ ∀ k, k < L.length → nI (L.getD k 0) = nI (L2.getD k 0) ∧ w (L.getD k 0) = w2 (L2.getD k 0))) : lyEq L w L2 w2 = false := by
  cases hh : lyEq L w L2 w2 with
  | false => rfl
  | true => exact absurd (lyEq_of hh) h
theorem c_LY_sameAs (l : Launch) (G : x_G) (a b c0 a2 b2 c2 : Nat) (L L2 : List Nat) (w w2 : Nat → Int64) (hL : L.length < 1000) (hL2 : L2.length < 1000) : Met l y_LY_sameAs (x_ws y_LY_sameAs b_LY_sameAs 3 (some .boolean)) (x_rm 0 0 0) (x_P G [.ref a, .ref a2] (fun H => LY G a b c0 L w H ∧ LY G a2 b2 c2 L2 w2 H)) (k2_QcV (.int (x_b (lyEq L w L2 w2)))) 0 0 (fun _ => False) := by
  refine x_mZ (by decide +kernel) (Nat.le_of_ble_eq_true rfl) (fun p e s m args below meth c F hK hP ls hl Q hret => ?_)
  have hl : lv_has ls 3 [(0, .ref a), (1, .ref a2)] := hl
  obtain ⟨⟨hT, hN, hM, -⟩, hT2, hN2, hM2, -⟩ := hP
  have loop : L.length = L2.length → ∀ (d i : Nat), i + d = L.length → (∀ k, k < i → nI (L.getD k 0) = nI (L2.getD k 0) ∧ w (L.getD k 0) = w2 (L2.getD k 0)) → ∀ ls : Array Slot, lv_has ls 3 [(2, .int (nI i)), (0, .ref a), (1, .ref a2)] → W p l e (x_rm 0 0 0) s m args below meth c s.heap [] 0 0 Q (F0 m 17 ls []) := by
    intro hlen d
    induction d with
    | zero =>
      intro i hi hk ls hl
      refine lv_iload_n F.1 F.2.1 d_LY_sameAs_17 rfl (lv_at hl 0 rfl) ?_
      refine lv_aload_n F.1 F.2.1 d_LY_sameAs_18 rfl (lv_at hl 1 rfl) ?_
      refine x_get F hK hT rfl i_LY 0 (by decide) k321 rfl rfl d_LY_sameAs_19 ?_
      refine x_alen F hK hN 0 rfl d_LY_sameAs_22 ?_
      refine lv_icmp_ge (tgt := 65) F.1 F.2.1 d_LY_sameAs_23 (by decide) (fun _ => ?_) (fun zq => absurd (pN_le (a := L.length) (b := i) rfl rfl (by omega) (by omega) (by omega)) zq)
      refine lv_iconst (v := 1) F.1 F.2.1 d_LY_sameAs_65 (by decide) ?_
      exact hret _ _ _ d_LY_sameAs_66 (by rw [lyEq_t hlen (fun k h => hk k (by omega))]; rfl)
    | succ d ih =>
      intro i hi hk ls hl
      refine lv_iload_n F.1 F.2.1 d_LY_sameAs_17 rfl (lv_at hl 0 rfl) ?_
      refine lv_aload_n F.1 F.2.1 d_LY_sameAs_18 rfl (lv_at hl 1 rfl) ?_
      refine x_get F hK hT rfl i_LY 0 (by decide) k321 rfl rfl d_LY_sameAs_19 ?_
      refine x_alen F hK hN 0 rfl d_LY_sameAs_22 ?_
      refine lv_icmp_ge (tgt := 65) F.1 F.2.1 d_LY_sameAs_23 (by decide) (fun zq => absurd zq (pN_nle (a := L.length) (b := i) rfl rfl (by omega) (by omega) (by omega))) (fun _ => ?_)
      refine lv_aload_n F.1 F.2.1 d_LY_sameAs_26 rfl (lv_at hl 1 rfl) ?_
      refine x_get F hK hT rfl i_LY 0 (by decide) k321 rfl rfl d_LY_sameAs_27 ?_
      refine lv_iload_n F.1 F.2.1 d_LY_sameAs_30 rfl (lv_at hl 0 rfl) ?_
      refine x_ialdN F hK hN (by omega) (by omega) d_LY_sameAs_31 ?_
      refine lv_aload_n F.1 F.2.1 d_LY_sameAs_32 rfl (lv_at hl 2 rfl) ?_
      refine x_get F hK hT2 rfl i_LY 0 (by decide) k321 rfl rfl d_LY_sameAs_33 ?_
      refine lv_iload_n F.1 F.2.1 d_LY_sameAs_36 rfl (lv_at hl 0 rfl) ?_
      refine x_ialdN F hK hN2 (by omega) (by omega) d_LY_sameAs_37 ?_
      refine lv_icmp_ne (tgt := 57) F.1 F.2.1 d_LY_sameAs_38 (by decide) (fun c38 => ?_) (fun c38 => ?_)
      · refine lv_iconst (v := 0) F.1 F.2.1 d_LY_sameAs_57 (by decide) ?_
        exact hret _ _ _ d_LY_sameAs_58 (by rw [lyEq_f (fun h => c38 (h.2 i (by omega)).1)]; rfl)
      · refine lv_aload_n F.1 F.2.1 d_LY_sameAs_41 rfl (lv_at hl 1 rfl) ?_
        refine x_get F hK hT rfl i_LY 1 (by decide) k323 rfl rfl d_LY_sameAs_42 ?_
        refine lv_iload_n F.1 F.2.1 d_LY_sameAs_45 rfl (lv_at hl 0 rfl) ?_
        refine x_laldN F hK hM (by omega) (by omega) d_LY_sameAs_46 ?_
        refine lv_aload_n F.1 F.2.1 d_LY_sameAs_47 rfl (lv_at hl 2 rfl) ?_
        refine x_get F hK hT2 rfl i_LY 1 (by decide) k323 rfl rfl d_LY_sameAs_48 ?_
        refine lv_iload_n F.1 F.2.1 d_LY_sameAs_51 rfl (lv_at hl 0 rfl) ?_
        refine x_laldN F hK hM2 (by omega) (by omega) d_LY_sameAs_52 ?_
        refine x_leq (tgt := 59) F d_LY_sameAs_53 d_LY_sameAs_54 (by decide) (fun c53 => ?_) (fun c53 => ?_)
        · refine lv_iinc (v := (nI (i + 1))) (lv' := [(2, .int (nI (i + 1))), (0, .ref a), (1, .ref a2)]) F.1 F.2.1 d_LY_sameAs_59 hl (k := 0) rfl (nI_1 i) (by decide) rfl (fun ls hl => ?_)
          refine lv_goto (tgt := 17) F.1 F.2.1 d_LY_sameAs_62 (by decide) ?_
          exact ih (i + 1) (by omega) (fun k h => by rcases Nat.lt_succ_iff_lt_or_eq.mp h with h | rfl; exact hk k h; exact ⟨c38, c53⟩) ls hl
        · refine lv_iconst (v := 0) F.1 F.2.1 d_LY_sameAs_57 (by decide) ?_
          exact hret _ _ _ d_LY_sameAs_58 (by rw [lyEq_f (fun h => c53 (h.2 i (by omega)).2)]; rfl)
  refine lv_aload_n F.1 F.2.1 d_LY_sameAs_0 rfl (lv_at hl 0 rfl) ?_
  refine x_get F hK hT rfl i_LY 0 (by decide) k321 rfl rfl d_LY_sameAs_1 ?_
  refine x_alen F hK hN 0 rfl d_LY_sameAs_4 ?_
  refine lv_aload_n F.1 F.2.1 d_LY_sameAs_5 rfl (lv_at hl 1 rfl) ?_
  refine x_get F hK hT2 rfl i_LY 0 (by decide) k321 rfl rfl d_LY_sameAs_6 ?_
  refine x_alen F hK hN2 0 rfl d_LY_sameAs_9 ?_
  refine lv_icmp_eq (tgt := 15) F.1 F.2.1 d_LY_sameAs_10 (by decide) (fun c10 => ?_) (fun c10 => ?_)
  · have c10 := (pN_eqI (a := L.length) (b := L2.length) rfl rfl (by omega) (by omega)).mp c10
    refine lv_iconst (v := 0) F.1 F.2.1 d_LY_sameAs_15 (by decide) ?_
    refine lv_istore_n (lv' := [(2, .int 0), (0, .ref a), (1, .ref a2)]) F.1 F.2.1 d_LY_sameAs_16 rfl hl (by decide) rfl (fun ls hl => ?_)
    exact loop c10 L.length 0 (by omega) (fun k h => absurd h (Nat.not_lt_zero k)) ls hl
  · have c10 := mt (pN_eqI (a := L.length) (b := L2.length) rfl rfl (by omega) (by omega)).mpr c10
    refine lv_iconst (v := 0) F.1 F.2.1 d_LY_sameAs_13 (by decide) ?_
    exact hret _ _ _ d_LY_sameAs_14 (by rw [lyEq_f (fun h => c10 h.1)]; rfl)
/-! ===== Image ===== -/
/-- an image at a: parent pr, tree at t, layer numbers at n (a row of as many as L) -/
def IM (G : x_G) (a t n : Nat) (pr : Int32) (L : List Nat) (H : Heap) : Prop := va_at G.1 x_cl (a, .inr (1, [.int pr, .ref t, .ref n])) H ∧ x_ai G n L.length (fun k => nI (L.getD k 0)) H ∧ a ≠ n
theorem c_IM_init (l : Launch) (G : x_G) (a t n : Nat) (pr : Int32) : Met l y_IM_init (x_ws y_IM_init b_IM_init 4 none) (x_rm 1 0 0) (x_P G [.ref a, .int pr, .ref t, .ref n] (fun H => va_at G.1 x_cl (a, .inr (1, [.int 0, .null, .null])) H)) (x_Q (fun r H H1 => r = none ∧ va_at G.1 x_cl (a, .inr (1, [.int pr, .ref t, .ref n])) H1 ∧ x_off (fun q => q = a) H H1)) 0 0 (fun q => q = a) := by
  refine x_wV (by decide +kernel) (Nat.le_of_ble_eq_true rfl) (fun p e s m args below meth c F hnm hK hP ls hl Q hret => ?_)
  have hl : lv_has ls 4 [(0, .ref a), (1, .int pr), (2, .ref t), (3, .ref n)] := hl
  have hS : va_S (fun q => q = a) s.heap s.heap [] := va_S.rf
  refine lv_aload_n F.1 F.2.1 d_IM_init_0 rfl (lv_at hl 0 rfl) ?_
  refine x_oi F k90 hl.1 d_IM_init_1 (by decide) (by decide) ?_
  refine lv_aload_n F.1 F.2.1 d_IM_init_4 rfl (lv_at hl 0 rfl) ?_
  refine lv_iload_n F.1 F.2.1 d_IM_init_5 rfl (lv_at hl 1 rfl) ?_
  refine x_putF F hnm hK hP rfl i_IM t_IM p_IM n_IM 0 (by decide) k91 rfl rfl rfl rfl rfl (Nat.le_of_ble_eq_true rfl) hS rfl d_IM_init_6 (fun H7 locs hP hz7 ho7 hS => ?_)
  have hP : va_at G.1 x_cl (a, .inr (1, [.int pr, .null, .null])) H7 := hP
  refine lv_aload_n F.1 F.2.1 d_IM_init_9 rfl (lv_at hl 0 rfl) ?_
  refine lv_aload_n F.1 F.2.1 d_IM_init_10 rfl (lv_at hl 2 rfl) ?_
  refine x_putF F hnm hK hP rfl i_IM t_IM p_IM n_IM 1 (by decide) k93 rfl rfl rfl rfl rfl (Nat.le_of_ble_eq_true rfl) hS rfl d_IM_init_11 (fun H8 locs hP hz8 ho8 hS => ?_)
  have hP : va_at G.1 x_cl (a, .inr (1, [.int pr, .ref t, .null])) H8 := hP
  refine lv_aload_n F.1 F.2.1 d_IM_init_14 rfl (lv_at hl 0 rfl) ?_
  refine lv_aload_n F.1 F.2.1 d_IM_init_15 rfl (lv_at hl 3 rfl) ?_
  refine x_putF F hnm hK hP rfl i_IM t_IM p_IM n_IM 2 (by decide) k95 rfl rfl rfl rfl rfl (Nat.le_of_ble_eq_true rfl) hS rfl d_IM_init_16 (fun H9 locs hP hz9 ho9 hS => ?_)
  have hP : va_at G.1 x_cl (a, .inr (1, [.int pr, .ref t, .ref n])) H9 := hP
  exact hret _ _ _ _ _ _ d_IM_init_19 ⟨rfl, hP, hS.off⟩ hS.2.2 (Nat.le_refl _) (Nat.le_refl _)
theorem c_IM_hasLayerNumber (l : Launch) (G : x_G) (a t n : Nat) (pr : Int32) (L : List Nat) (x : Int32) (hL : L.length < 1000) : Met l y_IM_hasLayerNumber (x_ws y_IM_hasLayerNumber b_IM_hasLayerNumber 6 (some .boolean)) (x_rm 0 0 0) (x_P G [.ref a, .int x] (IM G a t n pr L)) (k2_QcV (.int (x_b ((List.range L.length).any fun k => decide (nI (L.getD k 0) = x))))) 0 0 (fun _ => False) := by
  refine x_mZ (by decide +kernel) (Nat.le_of_ble_eq_true rfl) (fun p e s m args below meth c F hK hP ls hl Q hret => ?_)
  have hl : lv_has ls 6 [(0, .ref a), (1, .int x)] := hl
  obtain ⟨hT, hN, -⟩ := hP
  have loop : ∀ (d i : Nat), i + d = L.length → (∀ k, k < i → ¬ nI (L.getD k 0) = x) → ∀ ls : Array Slot, lv_has ls 6 [(4, .int (nI i)), (3, .int (nI L.length)), (2, .ref n), (0, .ref a), (1, .int x)] → W p l e (x_rm 0 0 0) s m args below meth c s.heap [] 0 0 Q (F0 m 11 ls []) := by
    intro d
    induction d with
    | zero =>
      intro i hi hk ls hl
      refine lv_iload F.1 F.2.1 d_IM_hasLayerNumber_11 (lv_at hl 0 rfl) ?_
      refine lv_iload_n F.1 F.2.1 d_IM_hasLayerNumber_13 rfl (lv_at hl 1 rfl) ?_
      refine lv_icmp_ge (tgt := 37) F.1 F.2.1 d_IM_hasLayerNumber_14 (by decide) (fun _ => ?_) (fun zq => absurd (pN_le (a := L.length) (b := i) rfl rfl (by omega) (by omega) (by omega)) zq)
      refine lv_iconst (v := 0) F.1 F.2.1 d_IM_hasLayerNumber_37 (by decide) ?_
      exact hret _ _ _ d_IM_hasLayerNumber_38 (by rw [List.any_eq_false.mpr (fun k h => by simp only [decide_eq_true_eq]; exact hk k (by have := List.mem_range.mp h; omega))]; rfl)
    | succ d ih =>
      intro i hi hk ls hl
      refine lv_iload F.1 F.2.1 d_IM_hasLayerNumber_11 (lv_at hl 0 rfl) ?_
      refine lv_iload_n F.1 F.2.1 d_IM_hasLayerNumber_13 rfl (lv_at hl 1 rfl) ?_
      refine lv_icmp_ge (tgt := 37) F.1 F.2.1 d_IM_hasLayerNumber_14 (by decide) (fun zq => absurd zq (pN_nle (a := L.length) (b := i) rfl rfl (by omega) (by omega) (by omega))) (fun _ => ?_)
      refine lv_aload_n F.1 F.2.1 d_IM_hasLayerNumber_17 rfl (lv_at hl 2 rfl) ?_
      refine lv_iload F.1 F.2.1 d_IM_hasLayerNumber_18 (lv_at hl 0 rfl) ?_
      refine x_ialdN F hK hN (by omega) (by omega) d_IM_hasLayerNumber_20 ?_
      refine lv_istore (lv' := [(5, .int (nI (L.getD i 0))), (4, .int (nI i)), (3, .int (nI L.length)), (2, .ref n), (0, .ref a), (1, .int x)]) F.1 F.2.1 d_IM_hasLayerNumber_21 hl (by decide) rfl (fun ls hl => ?_)
      refine lv_iload F.1 F.2.1 d_IM_hasLayerNumber_23 (lv_at hl 0 rfl) ?_
      refine lv_iload_n F.1 F.2.1 d_IM_hasLayerNumber_25 rfl (lv_at hl 5 rfl) ?_
      refine lv_icmp_ne (tgt := 31) F.1 F.2.1 d_IM_hasLayerNumber_26 (by decide) (fun c26 => ?_) (fun c26 => ?_)
      · refine lv_iinc (v := (nI (i + 1))) (lv' := [(4, .int (nI (i + 1))), (5, .int (nI (L.getD i 0))), (3, .int (nI L.length)), (2, .ref n), (0, .ref a), (1, .int x)]) F.1 F.2.1 d_IM_hasLayerNumber_31 hl (k := 1) rfl (nI_1 i) (by decide) rfl (fun ls hl => ?_)
        refine lv_goto (tgt := 11) F.1 F.2.1 d_IM_hasLayerNumber_34 (by decide) ?_
        exact ih (i + 1) (by omega) (fun k h => by rcases Nat.lt_succ_iff_lt_or_eq.mp h with h | rfl; exact hk k h; exact c26) ls (lv_sub hl [0, 2, 3, 4, 5] rfl)
      · refine lv_iconst (v := 1) F.1 F.2.1 d_IM_hasLayerNumber_29 (by decide) ?_
        exact hret _ _ _ d_IM_hasLayerNumber_30 (by rw [List.any_eq_true.mpr ⟨i, List.mem_range.mpr (by omega), decide_eq_true c26⟩]; rfl)
  refine lv_aload_n F.1 F.2.1 d_IM_hasLayerNumber_0 rfl (lv_at hl 0 rfl) ?_
  refine x_get F hK hT rfl i_IM 2 (by decide) k95 rfl rfl d_IM_hasLayerNumber_1 ?_
  refine lv_astore_n (lv' := [(2, .ref n), (0, .ref a), (1, .int x)]) F.1 F.2.1 d_IM_hasLayerNumber_4 rfl hl (by decide) rfl (fun ls hl => ?_)
  refine lv_aload_n F.1 F.2.1 d_IM_hasLayerNumber_5 rfl (lv_at hl 0 rfl) ?_
  refine x_alen F hK hN 0 rfl d_IM_hasLayerNumber_6 ?_
  refine lv_istore_n (lv' := [(3, .int (nI L.length)), (2, .ref n), (0, .ref a), (1, .int x)]) F.1 F.2.1 d_IM_hasLayerNumber_7 rfl hl (by decide) rfl (fun ls hl => ?_)
  refine lv_iconst (v := 0) F.1 F.2.1 d_IM_hasLayerNumber_8 (by decide) ?_
  refine lv_istore (lv' := [(4, .int 0), (3, .int (nI L.length)), (2, .ref n), (0, .ref a), (1, .int x)]) F.1 F.2.1 d_IM_hasLayerNumber_9 hl (by decide) rfl (fun ls hl => ?_)
  exact loop L.length 0 (by omega) (fun k h => absurd h (Nat.not_lt_zero k)) ls hl

