/-! ===== the model: load, answer, choosing ===== -/
def MW (G : x_G) (ad : Nat → Nat) (σ : Sg) (wk : Nat → Int64) (ch : Nat → Bool) (v0 : Option Value) : Option Value → Heap → Heap → Prop := fun r H H1 => r = v0 ∧ MO G ad σ wk ch H1 ∧ x_off (mA ad) H H1
def fillF (f g : Nat → Int64) (k : Nat) : Nat → Int64 := fun j => if j < k then g j else f j
theorem fillF_s (f g : Nat → Int64) (k : Nat) : vp_updL (fillF f g k) k (g k) = fillF f g (k + 1) := funext fun j => by
  unfold vp_updL fillF
  by_cases h : j = k
  · rw [if_pos h, if_pos (by omega), h]
  · by_cases h2 : j < k
    · rw [if_neg h, if_pos h2, if_pos (by omega)]
    · rw [if_neg h, if_neg h2, if_neg (by omega)]
theorem c_MO_load (l : Launch) (G : x_G) (ad : Nat → Nat) (σ : Sg) (wk : Nat → Int64) (ch : Nat → Bool) (i : Nat) (hi : i < 40) : Met l y_MO_load (x_ws y_MO_load b_MO_load 3 none) (x_rm 0 0 0) (x_P G [.ref (ad 0), .int (nI i)] (MO G ad σ wk ch)) (x_Q (MW G ad σ (gt σ i) ch none)) 0 0 (mA ad) := by
  refine x_wV (by decide +kernel) (Nat.le_of_ble_eq_true rfl) (fun p e s m args below meth c F hnm hK hP ls hl Q hret => ?_)
  have hl : lv_has ls 3 [(0, .ref (ad 0)), (1, .int (nI i))] := hl
  have hS : va_S (mA ad) s.heap s.heap [] := va_S.rf
  have loop : ∀ (n k : Nat), k + n = 125 → ∀ (H : Heap) (locs : List Loc), MO G ad σ (fillF wk (gt σ i) k) ch H → va_S (mA ad) s.heap H locs → ∀ ls : Array Slot, lv_has ls 3 [(2, .int (nI k)), (0, .ref (ad 0)), (1, .int (nI i))] → W p l e (x_rm 0 0 0) s m args below meth c H locs 0 0 Q (F0 m 2 ls []) := by
    intro n
    induction n with
    | zero =>
      intro k hn H locs hP hS ls hl
      obtain ⟨hO, hp, ht, hh, hg, hw, hc, hj⟩ := hP
      refine lv_iload_n F.1 F.2.1 d_MO_load_2 rfl (lv_at hl 0 rfl) ?_
      refine lv_bipush (v := 125) F.1 F.2.1 d_MO_load_3 (by decide) ?_
      refine lv_icmp_ge (tgt := 31) F.1 F.2.1 d_MO_load_5 (by decide) (fun _ => ?_) (fun zq => absurd (pN_le (a := 125) (b := k) rfl rfl (by omega) (by omega) (by omega)) zq)
      exact hret _ _ _ _ _ _ d_MO_load_31 ⟨rfl, ⟨hO, hp, ht, hh, hg, x_al.cg hw (fun j h => if_pos (by omega)), hc, hj⟩, hS.off⟩ hS.2.2 (Nat.le_refl _) (Nat.le_refl _)
    | succ n ih =>
      intro k hn H locs hP hS ls hl
      obtain ⟨hO, hp, ht, hh, hg, hw, hc, hj⟩ := hP
      refine lv_iload_n F.1 F.2.1 d_MO_load_2 rfl (lv_at hl 0 rfl) ?_
      refine lv_bipush (v := 125) F.1 F.2.1 d_MO_load_3 (by decide) ?_
      refine lv_icmp_ge (tgt := 31) F.1 F.2.1 d_MO_load_5 (by decide) (fun zq => absurd zq (pN_nle (a := 125) (b := k) rfl rfl (by omega) (by omega) (by omega))) (fun _ => ?_)
      refine lv_aload_n F.1 F.2.1 d_MO_load_8 rfl (lv_at hl 1 rfl) ?_
      refine x_get F hK hO rfl i_MO 5 (by decide) k484 rfl rfl d_MO_load_9 ?_
      refine lv_iload_n F.1 F.2.1 d_MO_load_12 rfl (lv_at hl 0 rfl) ?_
      refine lv_aload_n F.1 F.2.1 d_MO_load_13 rfl (lv_at hl 1 rfl) ?_
      refine x_get F hK hO rfl i_MO 1 (by decide) k480 rfl rfl d_MO_load_14 ?_
      refine lv_bipush (v := 125) F.1 F.2.1 d_MO_load_17 (by decide) ?_
      refine lv_iload_n F.1 F.2.1 d_MO_load_19 rfl (lv_at hl 2 rfl) ?_
      refine lv_imul F.1 F.2.1 d_MO_load_20 ?_
      refine lv_iload_n F.1 F.2.1 d_MO_load_21 rfl (lv_at hl 0 rfl) ?_
      refine lv_iadd F.1 F.2.1 d_MO_load_22 ?_
      rw [e125]
      refine x_laldN F hK ht (by decide) (by omega) d_MO_load_23 ?_
      rw [mT_at (by omega)]
      refine x_lastN F hK hw (by decide) (by omega) hS ⟨5, by omega, rfl⟩ d_MO_load_24 (fun H1 locs hw hz1 ho1 hS => ?_)
      have hO := va_at.kept hO (ho1 _ (hj.ne 0 5))
      have hp := va_at.kept hp (ho1 _ (hj.ne 1 5))
      have ht := va_at.kept ht (ho1 _ (hj.ne 2 5))
      have hh := va_at.kept hh (ho1 _ (hj.ne 3 5))
      have hg := va_at.kept hg (ho1 _ (hj.ne 4 5))
      have hc := va_at.kept hc (ho1 _ (hj.ne 6 5))
      refine lv_iinc (v := (nI (k + 1))) (lv' := [(2, .int (nI (k + 1))), (0, .ref (ad 0)), (1, .int (nI i))]) F.1 F.2.1 d_MO_load_25 hl (k := 0) rfl (nI_1 k) (by decide) rfl (fun ls hl => ?_)
      refine lv_goto (tgt := 2) F.1 F.2.1 d_MO_load_28 (by decide) ?_
      exact ih (k + 1) (by omega) _ _ ⟨hO, hp, ht, hh, hg, (by rw [← fillF_s]; exact hw), hc, hj⟩ hS ls hl
  refine lv_iconst (v := 0) F.1 F.2.1 d_MO_load_0 (by decide) ?_
  refine lv_istore_n (lv' := [(2, .int 0), (0, .ref (ad 0)), (1, .int (nI i))]) F.1 F.2.1 d_MO_load_1 rfl hl (by decide) rfl (fun ls hl => ?_)
  exact loop 125 0 rfl _ _ (by obtain ⟨hO, hp, ht, hh, hg, hw, hc, hj⟩ := hP; exact ⟨hO, hp, ht, hh, hg, x_al.cg hw (fun j _ => (if_neg (Nat.not_lt_zero j)).symm), hc, hj⟩) hS ls hl
def gSet (h : Nat → Nat → Bool) (s i : Nat) (v : Bool) : Nat → Nat → Bool := fun s' j => if s' = s ∧ j = i then v else h s' j
theorem mH_set (σ : Sg) {s i : Nat} (hi : i < 40) (v : Bool) : upd (mH σ) (40 * s + i) (x_b v) = mH (gn σ, gp σ, gt σ, gSet (gh σ) s i v, gg σ, ga σ) := funext fun k => by
  unfold upd mH gSet
  by_cases h : k = 40 * s + i
  · rw [if_pos h]
    show _ = x_b (if k / 40 = s ∧ k % 40 = i then v else gh σ (k / 40) (k % 40))
    rw [if_pos (by omega)]
  · rw [if_neg h]
    show _ = x_b (if k / 40 = s ∧ k % 40 = i then v else gh σ (k / 40) (k % 40))
    rw [if_neg (by omega)]
/-- an image is answered: counted if store 0 held it, and held from now on -/
def ansS (σ : Sg) (i : Nat) : Sg := (gn σ, gp σ, gt σ, gSet (gh σ) 0 i true, gg σ, if gh σ 0 i = true then ga σ + 1 else ga σ)
theorem c_MO_answer (l : Launch) (G : x_G) (ad : Nat → Nat) (σ : Sg) (wk : Nat → Int64) (ch : Nat → Bool) (i : Nat) (hi : i < 40) : Met l y_MO_answer (x_ws y_MO_answer b_MO_answer 2 (some .int)) (x_rm 0 0 0) (x_P G [.ref (ad 0), .int (nI i)] (MO G ad σ wk ch)) (x_Q (MW G ad (ansS σ i) wk ch (some (.int (nI i))))) 0 0 (mA ad) := by
  refine x_wI (by decide +kernel) (Nat.le_of_ble_eq_true rfl) (fun p e s m args below meth c F hK hP ls hl Q hret => ?_)
  have hl : lv_has ls 2 [(0, .ref (ad 0)), (1, .int (nI i))] := hl
  have hS : va_S (mA ad) s.heap s.heap [] := va_S.rf
  obtain ⟨hO, hp, ht, hh, hg, hw, hc, hj⟩ := hP
  have h0 : mH σ i = x_b (gh σ 0 i) := by have := mH_at (σ := σ) (i := 0) hi; rw [Nat.mul_zero, Nat.zero_add] at this; exact this
  have hset := mH_set σ (s := 0) hi true
  rw [Nat.mul_zero, Nat.zero_add] at hset
  refine lv_aload_n F.1 F.2.1 d_MO_answer_0 rfl (lv_at hl 0 rfl) ?_
  refine x_get F hK hO rfl i_MO 3 (by decide) k482 rfl rfl d_MO_answer_1 ?_
  refine lv_iload_n F.1 F.2.1 d_MO_answer_4 rfl (lv_at hl 1 rfl) ?_
  refine x_zaldN F hK hh (by decide) (by omega) d_MO_answer_5 ?_
  rw [h0]
  refine x_beq (tgt := 19) F d_MO_answer_6 (by decide) (fun c6 => ?_) (fun c6 => ?_)
  · refine lv_aload_n F.1 F.2.1 d_MO_answer_19 rfl (lv_at hl 0 rfl) ?_
    refine x_get F hK hO rfl i_MO 3 (by decide) k482 rfl rfl d_MO_answer_20 ?_
    refine lv_iload_n F.1 F.2.1 d_MO_answer_23 rfl (lv_at hl 1 rfl) ?_
    refine lv_iconst (v := 1) F.1 F.2.1 d_MO_answer_24 (by decide) ?_
    refine x_zastN F hK hh (by first | rfl | decide) (by decide) (by omega) hS ⟨3, by omega, rfl⟩ d_MO_answer_25 (fun H2 locs hh hz2 ho2 hS => ?_)
    have hO := va_at.kept hO (ho2 _ (hj.ne 0 3))
    have hp := va_at.kept hp (ho2 _ (hj.ne 1 3))
    have ht := va_at.kept ht (ho2 _ (hj.ne 2 3))
    have hg := va_at.kept hg (ho2 _ (hj.ne 4 3))
    have hw := va_at.kept hw (ho2 _ (hj.ne 5 3))
    have hc := va_at.kept hc (ho2 _ (hj.ne 6 3))
    refine lv_iload_n F.1 F.2.1 d_MO_answer_26 rfl (lv_at hl 1 rfl) ?_
    refine hret _ _ _ _ _ _ _ d_MO_answer_27 ⟨rfl, ⟨?_, hp, ht, x_az.cg hh (fun j _ => congrFun hset j), hg, hw, hc, hj⟩, hS.off⟩ hS.2.2 (Nat.le_refl _) (Nat.le_refl _)
    show va_at _ _ (_, .inr (6, [_, _, _, _, _, _, _, .int (if gh σ 0 i = true then ga σ + 1 else ga σ)])) _
    rw [if_neg (by rw [c6]; decide)]
    exact hO
  · refine lv_aload_n F.1 F.2.1 d_MO_answer_9 rfl (lv_at hl 0 rfl) ?_
    refine lv_dup F.1 F.2.1 d_MO_answer_10 rfl ?_
    refine x_get F hK hO rfl i_MO 7 (by decide) k486 rfl rfl d_MO_answer_11 ?_
    refine lv_iconst (v := 1) F.1 F.2.1 d_MO_answer_14 (by decide) ?_
    refine lv_iadd F.1 F.2.1 d_MO_answer_15 ?_
    refine x_put F hK hO rfl i_MO t_MO p_MO n_MO 7 (by decide) k486 rfl rfl rfl rfl (Nat.le_of_ble_eq_true rfl) hS ⟨0, by omega, rfl⟩ d_MO_answer_16 (fun H3 locs hO hz3 ho3 hS => ?_)
    have hO : va_at G.1 x_cl ((ad 0), .inr (6, [.ref (ad 1), .ref (ad 2), .int (nI (gn σ)), .ref (ad 3), .ref (ad 4), .ref (ad 5), .ref (ad 6), .int ((ga σ) + 1)])) H3 := hO
    have hp := va_at.kept hp (ho3 _ (hj.ne 1 0))
    have ht := va_at.kept ht (ho3 _ (hj.ne 2 0))
    have hh := va_at.kept hh (ho3 _ (hj.ne 3 0))
    have hg := va_at.kept hg (ho3 _ (hj.ne 4 0))
    have hw := va_at.kept hw (ho3 _ (hj.ne 5 0))
    have hc := va_at.kept hc (ho3 _ (hj.ne 6 0))
    refine lv_aload_n F.1 F.2.1 d_MO_answer_19 rfl (lv_at hl 0 rfl) ?_
    refine x_get F hK hO rfl i_MO 3 (by decide) k482 rfl rfl d_MO_answer_20 ?_
    refine lv_iload_n F.1 F.2.1 d_MO_answer_23 rfl (lv_at hl 1 rfl) ?_
    refine lv_iconst (v := 1) F.1 F.2.1 d_MO_answer_24 (by decide) ?_
    refine x_zastN F hK hh (by first | rfl | decide) (by decide) (by omega) hS ⟨3, by omega, rfl⟩ d_MO_answer_25 (fun H4 locs hh hz4 ho4 hS => ?_)
    have hO := va_at.kept hO (ho4 _ (hj.ne 0 3))
    have hp := va_at.kept hp (ho4 _ (hj.ne 1 3))
    have ht := va_at.kept ht (ho4 _ (hj.ne 2 3))
    have hg := va_at.kept hg (ho4 _ (hj.ne 4 3))
    have hw := va_at.kept hw (ho4 _ (hj.ne 5 3))
    have hc := va_at.kept hc (ho4 _ (hj.ne 6 3))
    refine lv_iload_n F.1 F.2.1 d_MO_answer_26 rfl (lv_at hl 1 rfl) ?_
    refine hret _ _ _ _ _ _ _ d_MO_answer_27 ⟨rfl, ⟨?_, hp, ht, x_az.cg hh (fun j _ => congrFun hset j), hg, hw, hc, hj⟩, hS.off⟩ hS.2.2 (Nat.le_refl _) (Nat.le_refl _)
    show va_at _ _ (_, .inr (6, [_, _, _, _, _, _, _, .int (if gh σ 0 i = true then ga σ + 1 else ga σ)])) _
    rw [if_pos c6]
    exact hO
theorem mC_or (ch : Nat → Bool) (i : Nat) : upd (mC ch) i 1 = mC (hOr ch i) := funext fun k => by
  unfold upd mC hOr
  by_cases h : k = i
  · rw [if_pos h, decide_eq_true h, Bool.or_true]; rfl
  · rw [if_neg h, decide_eq_false h, Bool.or_false]
def clr (ch : Nat → Bool) (k : Nat) : Nat → Bool := fun j => if j < k then false else ch j
theorem mC_clr (ch : Nat → Bool) (k : Nat) : upd (mC (clr ch k)) k 0 = mC (clr ch (k + 1)) := funext fun j => by
  unfold upd mC clr
  by_cases e : j = k
  · rw [if_pos e, if_pos (by omega)]; rfl
  · rw [if_neg e]
    by_cases h : j < k
    · rw [if_pos h, if_pos (by omega)]
    · rw [if_neg h, if_neg (by omega)]
theorem c_MO_chooseNone (l : Launch) (G : x_G) (ad : Nat → Nat) (σ : Sg) (wk : Nat → Int64) (ch : Nat → Bool) : Met l y_MO_chooseNone (x_ws y_MO_chooseNone b_MO_chooseNone 2 none) (x_rm 0 0 0) (x_P G [.ref (ad 0)] (MO G ad σ wk ch)) (x_Q (MW G ad σ wk (fun _ => false) none)) 0 0 (mA ad) := by
  refine x_wV (by decide +kernel) (Nat.le_of_ble_eq_true rfl) (fun p e s m args below meth c F hnm hK hP ls hl Q hret => ?_)
  have hl : lv_has ls 2 [(0, .ref (ad 0))] := hl
  have hS : va_S (mA ad) s.heap s.heap [] := va_S.rf
  have loop : ∀ (n k : Nat), k + n = 40 → ∀ (H : Heap) (locs : List Loc), MO G ad σ wk (clr ch k) H → va_S (mA ad) s.heap H locs → ∀ ls : Array Slot, lv_has ls 2 [(1, .int (nI k)), (0, .ref (ad 0))] → W p l e (x_rm 0 0 0) s m args below meth c H locs 0 0 Q (F0 m 2 ls []) := by
    intro n
    induction n with
    | zero =>
      intro k hn H locs hP hS ls hl
      obtain ⟨hO, hp, ht, hh, hg, hw, hc, hj⟩ := hP
      refine lv_iload_n F.1 F.2.1 d_MO_chooseNone_2 rfl (lv_at hl 0 rfl) ?_
      refine lv_bipush (v := 40) F.1 F.2.1 d_MO_chooseNone_3 (by decide) ?_
      refine lv_icmp_ge (tgt := 21) F.1 F.2.1 d_MO_chooseNone_5 (by decide) (fun _ => ?_) (fun zq => absurd (pN_le (a := 40) (b := k) rfl rfl (by omega) (by omega) (by omega)) zq)
      refine hret _ _ _ _ _ _ d_MO_chooseNone_21 ⟨rfl, ⟨hO, hp, ht, hh, hg, hw, x_az.cg hc (fun j h => ?_), hj⟩, hS.off⟩ hS.2.2 (Nat.le_refl _) (Nat.le_refl _)
      show x_b (if j < k then false else ch j) = _
      rw [if_pos (by omega)]; rfl
    | succ n ih =>
      intro k hn H locs hP hS ls hl
      obtain ⟨hO, hp, ht, hh, hg, hw, hc, hj⟩ := hP
      refine lv_iload_n F.1 F.2.1 d_MO_chooseNone_2 rfl (lv_at hl 0 rfl) ?_
      refine lv_bipush (v := 40) F.1 F.2.1 d_MO_chooseNone_3 (by decide) ?_
      refine lv_icmp_ge (tgt := 21) F.1 F.2.1 d_MO_chooseNone_5 (by decide) (fun zq => absurd zq (pN_nle (a := 40) (b := k) rfl rfl (by omega) (by omega) (by omega))) (fun _ => ?_)
      refine lv_aload_n F.1 F.2.1 d_MO_chooseNone_8 rfl (lv_at hl 1 rfl) ?_
      refine x_get F hK hO rfl i_MO 6 (by decide) k485 rfl rfl d_MO_chooseNone_9 ?_
      refine lv_iload_n F.1 F.2.1 d_MO_chooseNone_12 rfl (lv_at hl 0 rfl) ?_
      refine lv_iconst (v := 0) F.1 F.2.1 d_MO_chooseNone_13 (by decide) ?_
      refine x_zastN F hK hc (by first | rfl | decide) (by decide) (by omega) hS ⟨6, by omega, rfl⟩ d_MO_chooseNone_14 (fun H5 locs hc hz5 ho5 hS => ?_)
      have hO := va_at.kept hO (ho5 _ (hj.ne 0 6))
      have hp := va_at.kept hp (ho5 _ (hj.ne 1 6))
      have ht := va_at.kept ht (ho5 _ (hj.ne 2 6))
      have hh := va_at.kept hh (ho5 _ (hj.ne 3 6))
      have hg := va_at.kept hg (ho5 _ (hj.ne 4 6))
      have hw := va_at.kept hw (ho5 _ (hj.ne 5 6))
      refine lv_iinc (v := (nI (k + 1))) (lv' := [(1, .int (nI (k + 1))), (0, .ref (ad 0))]) F.1 F.2.1 d_MO_chooseNone_15 hl (k := 0) rfl (nI_1 k) (by decide) rfl (fun ls hl => ?_)
      refine lv_goto (tgt := 2) F.1 F.2.1 d_MO_chooseNone_18 (by decide) ?_
      exact ih (k + 1) (by omega) _ _ ⟨hO, hp, ht, hh, hg, hw, (by rw [← mC_clr]; exact hc), hj⟩ hS ls hl
  refine lv_iconst (v := 0) F.1 F.2.1 d_MO_chooseNone_0 (by decide) ?_
  refine lv_istore_n (lv' := [(1, .int 0), (0, .ref (ad 0))]) F.1 F.2.1 d_MO_chooseNone_1 rfl hl (by decide) rfl (fun ls hl => ?_)
  refine loop 40 0 rfl _ _ ?_ hS ls hl
  obtain ⟨hO, hp, ht, hh, hg, hw, hc, hj⟩ := hP
  exact ⟨hO, hp, ht, hh, hg, hw, x_az.cg hc (fun j _ => by show _ = x_b (if j < 0 then false else ch j); rw [if_neg (Nat.not_lt_zero j)]; rfl), hj⟩
/-- with the chain of i chosen too -/
def chO (par : Nat → Nat) (ch : Nat → Bool) (i : Nat) : Nat → Bool := fun x => ch x || decide (x ∈ cn par i)
theorem chO_s {par : Nat → Nat} (h : ∀ i, 0 < i → par i < i) (ch : Nat → Bool) {j : Nat} (hj : 0 < j) : chO par (hOr ch j) (par j) = chO par ch j := funext fun x => by
  unfold chO hOr
  rw [cn_s h hj]
  by_cases h1 : x = j
  · simp [h1]
  · simp [h1]
theorem c_MO_choose (l : Launch) (G : x_G) (ad : Nat → Nat) (σ : Sg) (wk : Nat → Int64) (ch : Nat → Bool) (i : Nat) (hi : i < 40) (hpr : ∀ i, 0 < i → gp σ i < i) : Met l y_MO_choose (x_ws y_MO_choose b_MO_choose 3 none) (x_rm 0 0 0) (x_P G [.ref (ad 0), .int (nI i)] (MO G ad σ wk ch)) (x_Q (MW G ad σ wk (chO (gp σ) ch i) none)) 0 0 (mA ad) := by
  refine x_wV (by decide +kernel) (Nat.le_of_ble_eq_true rfl) (fun p e s m args below meth c F hnm hK hP ls hl Q hret => ?_)
  have hl : lv_has ls 3 [(0, .ref (ad 0)), (1, .int (nI i))] := hl
  have hS : va_S (mA ad) s.heap s.heap [] := va_S.rf
  have loop : ∀ (n j : Nat) (ch' : Nat → Bool), j ≤ n → j < 40 → chO (gp σ) ch' j = chO (gp σ) ch i → ∀ (H : Heap) (locs : List Loc), MO G ad σ wk ch' H → va_S (mA ad) s.heap H locs → ∀ ls : Array Slot, lv_has ls 3 [(2, .int (nI j)), (0, .ref (ad 0)), (1, .int (nI i))] → W p l e (x_rm 0 0 0) s m args below meth c H locs 0 0 Q (F0 m 2 ls []) := by
    have fin : ∀ (ch' : Nat → Bool), chO (gp σ) ch' 0 = chO (gp σ) ch i → ∀ (H : Heap) (locs : List Loc) (ls : Array Slot), MO G ad σ wk ch' H → va_S (mA ad) s.heap H locs → W p l e (x_rm 0 0 0) s m args below meth c H locs 0 0 Q (F0 m 23 ls []) := by
      intro ch' he H locs ls hP hS
      have e2 : ch' = chO (gp σ) ch i := by rw [← he]; funext x; unfold chO; rw [cn_0]; simp
      rw [e2] at hP
      exact hret _ _ _ _ _ _ d_MO_choose_23 ⟨rfl, hP, hS.off⟩ hS.2.2 (Nat.le_refl _) (Nat.le_refl _)
    intro n
    induction n with
    | zero =>
      intro j ch' hjn hj40 he H locs hP hS ls hl
      obtain rfl : j = 0 := by omega
      refine lv_iload_n F.1 F.2.1 d_MO_choose_2 rfl (lv_at hl 0 rfl) ?_
      refine lv_if_eq (tgt := 23) F.1 F.2.1 d_MO_choose_3 (by decide) (fun _ => ?_) (fun zq => absurd (pN_eq (a := 0) (b := 0) rfl rfl (by omega) (by omega) (by omega)) zq)
      exact fin ch' he _ _ _ hP hS
    | succ n ih =>
      intro j ch' hjn hj40 he H locs hP hS ls hl
      refine lv_iload_n F.1 F.2.1 d_MO_choose_2 rfl (lv_at hl 0 rfl) ?_
      refine lv_if_eq (tgt := 23) F.1 F.2.1 d_MO_choose_3 (by decide) (fun c3 => ?_) (fun c3 => ?_)
      · have c3 := (pN_eqI (a := j) (b := 0) rfl rfl (by omega) (by omega)).mp c3
        subst c3
        exact fin ch' he _ _ _ hP hS
      · have c3 := mt (pN_eqI (a := j) (b := 0) rfl rfl (by omega) (by omega)).mpr c3
        have h0 : 0 < j := by omega
        have h1 := hpr j h0
        obtain ⟨hO, hp, ht, hh, hg, hw, hc, hj⟩ := hP
        refine lv_aload_n F.1 F.2.1 d_MO_choose_6 rfl (lv_at hl 1 rfl) ?_
        refine x_get F hK hO rfl i_MO 6 (by decide) k485 rfl rfl d_MO_choose_7 ?_
        refine lv_iload_n F.1 F.2.1 d_MO_choose_10 rfl (lv_at hl 0 rfl) ?_
        refine lv_iconst (v := 1) F.1 F.2.1 d_MO_choose_11 (by decide) ?_
        refine x_zastN F hK hc (by first | rfl | decide) (by decide) (by omega) hS ⟨6, by omega, rfl⟩ d_MO_choose_12 (fun H6 locs hc hz6 ho6 hS => ?_)
        have hO := va_at.kept hO (ho6 _ (hj.ne 0 6))
        have hp := va_at.kept hp (ho6 _ (hj.ne 1 6))
        have ht := va_at.kept ht (ho6 _ (hj.ne 2 6))
        have hh := va_at.kept hh (ho6 _ (hj.ne 3 6))
        have hg := va_at.kept hg (ho6 _ (hj.ne 4 6))
        have hw := va_at.kept hw (ho6 _ (hj.ne 5 6))
        refine lv_aload_n F.1 F.2.1 d_MO_choose_13 rfl (lv_at hl 1 rfl) ?_
        refine x_get F hK hO rfl i_MO 0 (by decide) k479 rfl rfl d_MO_choose_14 ?_
        refine lv_iload_n F.1 F.2.1 d_MO_choose_17 rfl (lv_at hl 0 rfl) ?_
        refine x_ialdN F hK hp (by decide) (by omega) d_MO_choose_18 ?_
        refine lv_istore_n (lv' := [(2, .int (nI (gp σ j))), (0, .ref (ad 0)), (1, .int (nI i))]) F.1 F.2.1 d_MO_choose_19 rfl hl (by decide) rfl (fun ls hl => ?_)
        refine lv_goto (tgt := 2) F.1 F.2.1 d_MO_choose_20 (by decide) ?_
        exact ih (gp σ j) (hOr ch' j) (by omega) (by omega) (by rw [chO_s hpr ch' h0]; exact he) _ _ ⟨hO, hp, ht, hh, hg, hw, (by rw [← mC_or]; exact hc), hj⟩ hS ls hl
  refine lv_iload_n F.1 F.2.1 d_MO_choose_0 rfl (lv_at hl 1 rfl) ?_
  refine lv_istore_n (lv' := [(2, .int (nI i)), (0, .ref (ad 0)), (1, .int (nI i))]) F.1 F.2.1 d_MO_choose_1 rfl hl (by decide) rfl (fun ls hl => ?_)
  exact loop i i ch (Nat.le_refl _) hi rfl _ _ hP hS ls hl
/-- the chains of the images that store s holds -/
def chH (σ : Sg) (s n : Nat) : Nat → Bool := fun x => (List.range n).any fun i => gh σ s i && decide (x ∈ cn (gp σ) i)
theorem chH_t (σ : Sg) (s : Nat) {k : Nat} (h : gh σ s k = true) : chO (gp σ) (chH σ s k) k = chH σ s (k + 1) := funext fun x => by
  unfold chO chH
  rw [List.range_succ, List.any_append]
  simp [h]
theorem chH_f (σ : Sg) (s : Nat) {k : Nat} (h : gh σ s k = false) : chH σ s k = chH σ s (k + 1) := funext fun x => by
  unfold chH
  rw [List.range_succ, List.any_append]
  simp [h]
theorem c_MO_chooseHeld (l : Launch) (G : x_G) (ad : Nat → Nat) (σ : Sg) (wk : Nat → Int64) (ch : Nat → Bool) (s0 : Nat) (hs0 : s0 < 2) (hok : gOk σ) : Met l y_MO_chooseHeld (x_ws y_MO_chooseHeld b_MO_chooseHeld 3 none) (x_rm 1 0 0) (x_P G [.ref (ad 0), .int (nI s0)] (MO G ad σ wk ch)) (x_Q (MW G ad σ wk (chH σ s0 (gn σ)) none)) 0 0 (mA ad) := by
  refine x_wV (by decide +kernel) (Nat.le_of_ble_eq_true rfl) (fun p e s m args below meth c F hnm hK hP ls hl Q hret => ?_)
  have hl : lv_has ls 3 [(0, .ref (ad 0)), (1, .int (nI s0))] := hl
  have hS : va_S (mA ad) s.heap s.heap [] := va_S.rf
  have hn40 := hok.2.1
  have hpr := hok.2.2.1
  have loop : ∀ (n k : Nat), k + n = gn σ → ∀ (H : Heap) (locs : List Loc), MO G ad σ wk (chH σ s0 k) H → va_S (mA ad) s.heap H locs → ∀ ls : Array Slot, lv_has ls 3 [(2, .int (nI k)), (0, .ref (ad 0)), (1, .int (nI s0))] → W p l e (x_rm 1 0 0) s m args below meth c H locs 0 0 Q (F0 m 6 ls []) := by
    intro n
    induction n with
    | zero =>
      intro k hn H locs hP hS ls hl
      obtain ⟨hO, hp, ht, hh, hg, hw, hc, hj⟩ := id hP
      refine lv_iload_n F.1 F.2.1 d_MO_chooseHeld_6 rfl (lv_at hl 0 rfl) ?_
      refine lv_aload_n F.1 F.2.1 d_MO_chooseHeld_7 rfl (lv_at hl 1 rfl) ?_
      refine x_get F hK hO rfl i_MO 2 (by decide) k481 rfl rfl d_MO_chooseHeld_8 ?_
      refine lv_icmp_ge (tgt := 39) F.1 F.2.1 d_MO_chooseHeld_11 (by decide) (fun _ => ?_) (fun zq => absurd (pN_le (a := (gn σ)) (b := k) rfl rfl (by omega) (by omega) (by omega)) zq)
      obtain rfl : k = gn σ := by omega
      exact hret _ _ _ _ _ _ d_MO_chooseHeld_39 ⟨rfl, hP, hS.off⟩ hS.2.2 (Nat.le_refl _) (Nat.le_refl _)
    | succ n ih =>
      intro k hn H locs hP hS ls hl
      obtain ⟨hO, hp, ht, hh, hg, hw, hc, hj⟩ := id hP
      refine lv_iload_n F.1 F.2.1 d_MO_chooseHeld_6 rfl (lv_at hl 0 rfl) ?_
      refine lv_aload_n F.1 F.2.1 d_MO_chooseHeld_7 rfl (lv_at hl 1 rfl) ?_
      refine x_get F hK hO rfl i_MO 2 (by decide) k481 rfl rfl d_MO_chooseHeld_8 ?_
      refine lv_icmp_ge (tgt := 39) F.1 F.2.1 d_MO_chooseHeld_11 (by decide) (fun zq => absurd zq (pN_nle (a := (gn σ)) (b := k) rfl rfl (by omega) (by omega) (by omega))) (fun _ => ?_)
      refine lv_aload_n F.1 F.2.1 d_MO_chooseHeld_14 rfl (lv_at hl 1 rfl) ?_
      refine x_get F hK hO rfl i_MO 3 (by decide) k482 rfl rfl d_MO_chooseHeld_15 ?_
      refine lv_bipush (v := 40) F.1 F.2.1 d_MO_chooseHeld_18 (by decide) ?_
      refine lv_iload_n F.1 F.2.1 d_MO_chooseHeld_20 rfl (lv_at hl 2 rfl) ?_
      refine lv_imul F.1 F.2.1 d_MO_chooseHeld_21 ?_
      refine lv_iload_n F.1 F.2.1 d_MO_chooseHeld_22 rfl (lv_at hl 0 rfl) ?_
      refine lv_iadd F.1 F.2.1 d_MO_chooseHeld_23 ?_
      rw [e40]
      refine x_zaldN F hK hh (by decide) (by omega) d_MO_chooseHeld_24 ?_
      rw [mH_at (by omega)]
      refine x_beq (tgt := 33) F d_MO_chooseHeld_25 (by decide) (fun c25 => ?_) (fun c25 => ?_)
      · refine lv_iinc (v := (nI (k + 1))) (lv' := [(2, .int (nI (k + 1))), (0, .ref (ad 0)), (1, .int (nI s0))]) F.1 F.2.1 d_MO_chooseHeld_33 hl (k := 0) rfl (nI_1 k) (by decide) rfl (fun ls hl => ?_)
        refine lv_goto (tgt := 6) F.1 F.2.1 d_MO_chooseHeld_36 (by decide) ?_
        exact ih (k + 1) (by omega) _ _ (by rw [← chH_f σ s0 c25]; exact hP) hS ls hl
      · refine lv_aload_n F.1 F.2.1 d_MO_chooseHeld_28 rfl (lv_at hl 1 rfl) ?_
        refine lv_iload_n F.1 F.2.1 d_MO_chooseHeld_29 rfl (lv_at hl 0 rfl) ?_
        refine x_wr (x_V (n := 1) (As := [.int (nI k)]) F (c_MO_choose l G ad σ wk (chH σ s0 k) k (by omega) hpr) ok_MO_choose k603 ⟨Nat.le_of_ble_eq_true rfl, Nat.le_of_ble_eq_true rfl⟩ rfl rfl hK (x_rcv hK hO rfl) (hP) rfl hl.1 rfl (Nat.le_of_ble_eq_true rfl) d_MO_chooseHeld_30 ⟨Nat.le_of_ble_eq_true rfl, Nat.le_of_ble_eq_true rfl⟩) hS (fun _ h => h) (fun _ _ h => h.2.2) (fun v H7 locs hpost hS => ?_)
        obtain ⟨rfl, hP, ho⟩ := hpost
        refine lv_iinc (v := (nI (k + 1))) (lv' := [(2, .int (nI (k + 1))), (0, .ref (ad 0)), (1, .int (nI s0))]) F.1 F.2.1 d_MO_chooseHeld_33 hl (k := 0) rfl (nI_1 k) (by decide) rfl (fun ls hl => ?_)
        refine lv_goto (tgt := 6) F.1 F.2.1 d_MO_chooseHeld_36 (by decide) ?_
        exact ih (k + 1) (by omega) _ _ (by rw [← chH_t σ s0 c25]; exact hP) hS ls hl
  have hO := hP.1
  refine lv_aload_n F.1 F.2.1 d_MO_chooseHeld_0 rfl (lv_at hl 0 rfl) ?_
  refine x_wr (x_V (n := 0) (As := []) F (c_MO_chooseNone l G ad σ wk ch) ok_MO_chooseNone k599 ⟨Nat.le_of_ble_eq_true rfl, Nat.le_of_ble_eq_true rfl⟩ rfl rfl hK (x_rcv hK hO rfl) (hP) rfl hl.1 rfl (Nat.le_of_ble_eq_true rfl) d_MO_chooseHeld_1 ⟨Nat.le_of_ble_eq_true rfl, Nat.le_of_ble_eq_true rfl⟩) hS (fun _ h => h) (fun _ _ h => h.2.2) (fun v H8 locs hpost hS => ?_)
  obtain ⟨rfl, hP, ho⟩ := hpost
  refine lv_iconst (v := 0) F.1 F.2.1 d_MO_chooseHeld_4 (by decide) ?_
  refine lv_istore_n (lv' := [(2, .int 0), (0, .ref (ad 0)), (1, .int (nI s0))]) F.1 F.2.1 d_MO_chooseHeld_5 rfl hl (by decide) rfl (fun ls hl => ?_)
  exact loop (gn σ) 0 (by omega) _ _ hP hS ls hl

