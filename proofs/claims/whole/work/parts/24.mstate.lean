/-! ===== the state that the model and the class stand for: made, parent, tree, holds, tags, again ===== -/
abbrev Sg : Type := Nat × (Nat → Nat) × (Nat → Nat → Int64) × (Nat → Nat → Bool) × (Nat → Nat → Nat) × Int32
abbrev gn (σ : Sg) : Nat := σ.1
abbrev gp (σ : Sg) : Nat → Nat := σ.2.1
abbrev gt (σ : Sg) : Nat → Nat → Int64 := σ.2.2.1
abbrev gh (σ : Sg) : Nat → Nat → Bool := σ.2.2.2.1
abbrev gg (σ : Sg) : Nat → Nat → Nat := σ.2.2.2.2.1
abbrev ga (σ : Sg) : Int32 := σ.2.2.2.2.2
/-- what holds of it always -/
def gOk (σ : Sg) : Prop := 1 ≤ gn σ ∧ gn σ ≤ 40 ∧ (∀ i, 0 < i → gp σ i < i) ∧ (∀ i, i < gn σ → tOk (gt σ i)) ∧ gt σ 0 = tBare ∧ (∀ s, s < 2 → gh σ s 0 = true) ∧ (∀ s, s < 2 → ∀ i, i < 40 → gh σ s i = true → i < gn σ) ∧ (∀ s, s < 2 → ∀ t, t < 6 → gg σ s t = 40 ∨ (gg σ s t < gn σ ∧ gh σ s (gg σ s t) = true))
def mP (σ : Sg) : Nat → Int32 := fun i => nI (gp σ i)
def mT (σ : Sg) : Nat → Int64 := fun k => gt σ (k / 125) (k % 125)
def mH (σ : Sg) : Nat → Int32 := fun k => x_b (gh σ (k / 40) (k % 40))
def mG (σ : Sg) : Nat → Int32 := fun k => nI (gg σ (k / 6) (k % 6))
def mC (ch : Nat → Bool) : Nat → Int32 := fun i => x_b (ch i)
def mJ (ad : Nat → Nat) : Prop := ∀ i j, i ≤ 6 → j ≤ 6 → ad i = ad j → i = j
theorem mJ.ne {ad : Nat → Nat} (h : mJ ad) (i j : Nat) (hi : i ≤ 6 := by decide) (hj : j ≤ 6 := by decide) (hij : i ≠ j := by decide) : ad i ≠ ad j := fun z => hij (h i j hi hj z)
def mA (ad : Nat → Nat) : Nat → Prop := fun q => ∃ i, i ≤ 6 ∧ q = ad i
/-- the model's world -/
def MO (G : x_G) (ad : Nat → Nat) (σ : Sg) (wk : Nat → Int64) (ch : Nat → Bool) (H : Heap) : Prop := va_at G.1 x_cl (ad 0, .inr (6, [.ref (ad 1), .ref (ad 2), .int (nI (gn σ)), .ref (ad 3), .ref (ad 4), .ref (ad 5), .ref (ad 6), .int (ga σ)])) H ∧ x_ai G (ad 1) 40 (mP σ) H ∧ x_al G (ad 2) 5000 (mT σ) H ∧ x_az G (ad 3) 80 (mH σ) H ∧ x_ai G (ad 4) 12 (mG σ) H ∧ x_al G (ad 5) 125 wk H ∧ x_az G (ad 6) 40 (mC ch) H ∧ mJ ad
theorem e125 (i p : Nat) : (125 : Int32) * nI i + nI p = nI (125 * i + p) := by rw [show (125 : Int32) = nI 125 from rfl, pk_mul, nI_add]
theorem e40 (i p : Nat) : (40 : Int32) * nI i + nI p = nI (40 * i + p) := by rw [show (40 : Int32) = nI 40 from rfl, pk_mul, nI_add]
theorem e6 (i p : Nat) : (6 : Int32) * nI i + nI p = nI (6 * i + p) := by rw [show (6 : Int32) = nI 6 from rfl, pk_mul, nI_add]
theorem mT_at {σ : Sg} {i p : Nat} (hp : p < 125) : mT σ (125 * i + p) = gt σ i p := by
  unfold mT
  rw [show (125 * i + p) / 125 = i by omega, show (125 * i + p) % 125 = p by omega]
theorem mH_at {σ : Sg} {i p : Nat} (hp : p < 40) : mH σ (40 * i + p) = x_b (gh σ i p) := by
  unfold mH
  rw [show (40 * i + p) / 40 = i by omega, show (40 * i + p) % 40 = p by omega]
theorem mG_at {σ : Sg} {i p : Nat} (hp : p < 6) : mG σ (6 * i + p) = nI (gg σ i p) := by
  unfold mG
  rw [show (6 * i + p) / 6 = i by omega, show (6 * i + p) % 6 = p by omega]
/-! ===== the model: small reads ===== -/
def isB (σ : Sg) (x : Int32) : Bool := !decide (x < 0) && !decide (nI (gn σ) ≤ x)
theorem c_MO_is (l : Launch) (G : x_G) (ad : Nat → Nat) (σ : Sg) (wk : Nat → Int64) (ch : Nat → Bool) (x : Int32) : Met l y_MO_is (x_ws y_MO_is b_MO_is 2 (some .boolean)) (x_rm 0 0 0) (x_P G [.ref (ad 0), .int x] (MO G ad σ wk ch)) (k2_QcV (.int (x_b (isB σ x)))) 0 0 (fun _ => False) := by
  refine x_mZ (by decide +kernel) (Nat.le_of_ble_eq_true rfl) (fun p e s m args below meth c F hK hP ls hl Q hret => ?_)
  have hl : lv_has ls 2 [(0, .ref (ad 0)), (1, .int x)] := hl
  obtain ⟨hO, hp, ht, hh, hg, hw, hc, hj⟩ := hP
  refine lv_iload_n F.1 F.2.1 d_MO_is_0 rfl (lv_at hl 1 rfl) ?_
  refine lv_if_lt (tgt := 16) F.1 F.2.1 d_MO_is_1 (by decide) (fun c1 => ?_) (fun c1 => ?_)
  · refine lv_iconst (v := 0) F.1 F.2.1 d_MO_is_16 (by decide) ?_
    exact hret _ _ _ d_MO_is_17 (by simp [isB, x_b, c1])
  · refine lv_iload_n F.1 F.2.1 d_MO_is_4 rfl (lv_at hl 1 rfl) ?_
    refine lv_aload_n F.1 F.2.1 d_MO_is_5 rfl (lv_at hl 0 rfl) ?_
    refine x_get F hK hO rfl i_MO 2 (by decide) k481 rfl rfl d_MO_is_6 ?_
    refine lv_icmp_ge (tgt := 16) F.1 F.2.1 d_MO_is_9 (by decide) (fun c9 => ?_) (fun c9 => ?_)
    · refine lv_iconst (v := 0) F.1 F.2.1 d_MO_is_16 (by decide) ?_
      exact hret _ _ _ d_MO_is_17 (by simp [isB, x_b, c1, c9])
    · refine lv_iconst (v := 1) F.1 F.2.1 d_MO_is_12 (by decide) ?_
      refine lv_goto (tgt := 17) F.1 F.2.1 d_MO_is_13 (by decide) ?_
      exact hret _ _ _ d_MO_is_17 (by simp [isB, x_b, c1, c9])
theorem isB_n {σ : Sg} {i : Nat} (hn : gn σ ≤ 40) (hi : i < gn σ) : isB σ (nI i) = true := by
  unfold isB
  rw [decide_eq_false (nI_pos (by omega)), decide_eq_false (nI_ge hi (by omega))]; rfl
theorem isB_of {σ : Sg} {x : Int32} (hn : gn σ ≤ 40) (h : isB σ x = true) : ∃ i, i < gn σ ∧ x = nI i := by
  unfold isB at h
  simp only [Bool.and_eq_true, Bool.not_eq_true', decide_eq_false_iff_not] at h
  rcases pk_ix x (n := gn σ) (by omega) with q | q | ⟨j, q1, q2⟩
  · exact absurd q h.1
  · exact absurd q h.2
  · exact ⟨j, q1, q2⟩
def hoB (σ : Sg) (s : Nat) (x : Int32) : Bool := isB σ x && gh σ s x.toNatClampNeg
theorem c_MO_holding (l : Launch) (G : x_G) (ad : Nat → Nat) (σ : Sg) (wk : Nat → Int64) (ch : Nat → Bool) (s0 : Nat) (x : Int32) (hs0 : s0 < 2) (hok : gOk σ) : Met l y_MO_holding (x_ws y_MO_holding b_MO_holding 3 (some .boolean)) (x_rm 1 0 0) (x_P G [.ref (ad 0), .int (nI s0), .int x] (MO G ad σ wk ch)) (k2_QcV (.int (x_b (hoB σ s0 x)))) 0 0 (fun _ => False) := by
  refine x_mZ (by decide +kernel) (Nat.le_of_ble_eq_true rfl) (fun p e s m args below meth c F hK hP ls hl Q hret => ?_)
  have hl : lv_has ls 3 [(0, .ref (ad 0)), (1, .int (nI s0)), (2, .int x)] := hl
  obtain ⟨hO, hp, ht, hh, hg, hw, hc, hj⟩ := id hP
  have hn := hok.2.1
  refine lv_aload_n F.1 F.2.1 d_MO_holding_0 rfl (lv_at hl 0 rfl) ?_
  refine lv_iload_n F.1 F.2.1 d_MO_holding_1 rfl (lv_at hl 2 rfl) ?_
  refine x_rd (x_V (n := 1) (As := [.int x]) F (c_MO_is l G ad σ wk ch x) ok_MO_is k512 ⟨Nat.le_of_ble_eq_true rfl, Nat.le_of_ble_eq_true rfl⟩ rfl rfl hK (x_rcv hK hO rfl) (hP) rfl hl.1 rfl (Nat.le_of_ble_eq_true rfl) d_MO_holding_2 ⟨Nat.le_of_ble_eq_true rfl, Nat.le_of_ble_eq_true rfl⟩) ?_
  refine x_beq (tgt := 26) F d_MO_holding_5 (by decide) (fun c5 => ?_) (fun c5 => ?_)
  · refine lv_iconst (v := 0) F.1 F.2.1 d_MO_holding_26 (by decide) ?_
    exact hret _ _ _ d_MO_holding_27 (by unfold hoB; rw [c5]; rfl)
  · obtain ⟨i, hi, rfl⟩ := isB_of hn c5
    have hci : (nI i).toNatClampNeg = i := nI_clamp (by omega)
    refine lv_aload_n F.1 F.2.1 d_MO_holding_8 rfl (lv_at hl 0 rfl) ?_
    refine x_get F hK hO rfl i_MO 3 (by decide) k482 rfl rfl d_MO_holding_9 ?_
    refine lv_bipush (v := 40) F.1 F.2.1 d_MO_holding_12 (by decide) ?_
    refine lv_iload_n F.1 F.2.1 d_MO_holding_14 rfl (lv_at hl 1 rfl) ?_
    refine lv_imul F.1 F.2.1 d_MO_holding_15 ?_
    refine lv_iload_n F.1 F.2.1 d_MO_holding_16 rfl (lv_at hl 2 rfl) ?_
    refine lv_iadd F.1 F.2.1 d_MO_holding_17 ?_
    rw [e40]
    refine x_zaldN F hK hh (by decide) (by omega) d_MO_holding_18 ?_
    rw [mH_at (by omega)]
    refine x_beq (tgt := 26) F d_MO_holding_19 (by decide) (fun c19 => ?_) (fun c19 => ?_)
    · refine lv_iconst (v := 0) F.1 F.2.1 d_MO_holding_26 (by decide) ?_
      exact hret _ _ _ d_MO_holding_27 (by unfold hoB; rw [hci, c19, Bool.and_false]; rfl)
    · refine lv_iconst (v := 1) F.1 F.2.1 d_MO_holding_22 (by decide) ?_
      refine lv_goto (tgt := 27) F.1 F.2.1 d_MO_holding_23 (by decide) ?_
      exact hret _ _ _ d_MO_holding_27 (by unfold hoB; rw [hci, c19, c5]; rfl)
theorem c_MO_workIs (l : Launch) (G : x_G) (ad : Nat → Nat) (σ : Sg) (wk : Nat → Int64) (ch : Nat → Bool) (i : Nat) (hi : i < 40) : Met l y_MO_workIs (x_ws y_MO_workIs b_MO_workIs 3 (some .boolean)) (x_rm 0 0 0) (x_P G [.ref (ad 0), .int (nI i)] (MO G ad σ wk ch)) (k2_QcV (.int (x_b (tEq wk (gt σ i))))) 0 0 (fun _ => False) := by
  refine x_mZ (by decide +kernel) (Nat.le_of_ble_eq_true rfl) (fun p e s m args below meth c F hK hP ls hl Q hret => ?_)
  have hl : lv_has ls 3 [(0, .ref (ad 0)), (1, .int (nI i))] := hl
  obtain ⟨hO, hp, ht, hh, hg, hw, hc, hj⟩ := hP
  have loop : ∀ (n k : Nat), k + n = 125 → (∀ j, j < k → wk j = gt σ i j) → ∀ ls : Array Slot, lv_has ls 3 [(2, .int (nI k)), (0, .ref (ad 0)), (1, .int (nI i))] → W p l e (x_rm 0 0 0) s m args below meth c s.heap [] 0 0 Q (F0 m 2 ls []) := by
    intro n
    induction n with
    | zero =>
      intro k hn hk ls hl
      refine lv_iload_n F.1 F.2.1 d_MO_workIs_2 rfl (lv_at hl 0 rfl) ?_
      refine lv_bipush (v := 125) F.1 F.2.1 d_MO_workIs_3 (by decide) ?_
      refine lv_icmp_ge (tgt := 37) F.1 F.2.1 d_MO_workIs_5 (by decide) (fun _ => ?_) (fun zq => absurd (pN_le (a := 125) (b := k) rfl rfl (by omega) (by omega) (by omega)) zq)
      refine lv_iconst (v := 1) F.1 F.2.1 d_MO_workIs_37 (by decide) ?_
      exact hret _ _ _ d_MO_workIs_38 (by rw [tEq_iff.mpr (fun j h => hk j (by omega))]; rfl)
    | succ n ih =>
      intro k hn hk ls hl
      refine lv_iload_n F.1 F.2.1 d_MO_workIs_2 rfl (lv_at hl 0 rfl) ?_
      refine lv_bipush (v := 125) F.1 F.2.1 d_MO_workIs_3 (by decide) ?_
      refine lv_icmp_ge (tgt := 37) F.1 F.2.1 d_MO_workIs_5 (by decide) (fun zq => absurd zq (pN_nle (a := 125) (b := k) rfl rfl (by omega) (by omega) (by omega))) (fun _ => ?_)
      refine lv_aload_n F.1 F.2.1 d_MO_workIs_8 rfl (lv_at hl 1 rfl) ?_
      refine x_get F hK hO rfl i_MO 5 (by decide) k484 rfl rfl d_MO_workIs_9 ?_
      refine lv_iload_n F.1 F.2.1 d_MO_workIs_12 rfl (lv_at hl 0 rfl) ?_
      refine x_laldN F hK hw (by decide) (by omega) d_MO_workIs_13 ?_
      refine lv_aload_n F.1 F.2.1 d_MO_workIs_14 rfl (lv_at hl 1 rfl) ?_
      refine x_get F hK hO rfl i_MO 1 (by decide) k480 rfl rfl d_MO_workIs_15 ?_
      refine lv_bipush (v := 125) F.1 F.2.1 d_MO_workIs_18 (by decide) ?_
      refine lv_iload_n F.1 F.2.1 d_MO_workIs_20 rfl (lv_at hl 2 rfl) ?_
      refine lv_imul F.1 F.2.1 d_MO_workIs_21 ?_
      refine lv_iload_n F.1 F.2.1 d_MO_workIs_22 rfl (lv_at hl 0 rfl) ?_
      refine lv_iadd F.1 F.2.1 d_MO_workIs_23 ?_
      rw [e125]
      refine x_laldN F hK ht (by decide) (by omega) d_MO_workIs_24 ?_
      rw [mT_at (by omega)]
      refine x_leq (tgt := 31) F d_MO_workIs_25 d_MO_workIs_26 (by decide) (fun c25 => ?_) (fun c25 => ?_)
      · refine lv_iinc (v := (nI (k + 1))) (lv' := [(2, .int (nI (k + 1))), (0, .ref (ad 0)), (1, .int (nI i))]) F.1 F.2.1 d_MO_workIs_31 hl (k := 0) rfl (nI_1 k) (by decide) rfl (fun ls hl => ?_)
        refine lv_goto (tgt := 2) F.1 F.2.1 d_MO_workIs_34 (by decide) ?_
        exact ih (k + 1) (by omega) (fun j h => by rcases Nat.lt_succ_iff_lt_or_eq.mp h with h | rfl; exact hk j h; exact c25) ls hl
      · refine lv_iconst (v := 0) F.1 F.2.1 d_MO_workIs_29 (by decide) ?_
        exact hret _ _ _ d_MO_workIs_30 (by rw [tEq_f (by omega) c25]; rfl)
  refine lv_iconst (v := 0) F.1 F.2.1 d_MO_workIs_0 (by decide) ?_
  refine lv_istore_n (lv' := [(2, .int 0), (0, .ref (ad 0)), (1, .int (nI i))]) F.1 F.2.1 d_MO_workIs_1 rfl hl (by decide) rfl (fun ls hl => ?_)
  exact loop 125 0 rfl (fun j h => absurd h (Nat.not_lt_zero j)) ls hl
/-! the chain of an image: itself and those above it but 0, the lowest first -/
def cL (par : Nat → Nat) : Nat → Nat → List Nat
  | 0, _ => []
  | k + 1, i => if i = 0 then [] else cL par k (par i) ++ [i]
def cn (par : Nat → Nat) (i : Nat) : List Nat := cL par i i
theorem cL_fuel {par : Nat → Nat} (h : ∀ i, 0 < i → par i < i) : ∀ n i, i ≤ n → ∀ k, i ≤ k → cL par k i = cL par i i := by
  intro n
  induction n with
  | zero =>
    intro i hi k hk
    obtain rfl : i = 0 := by omega
    cases k <;> rfl
  | succ n ih =>
    intro i hi k hk
    cases i with
    | zero => cases k <;> rfl
    | succ i =>
      cases k with
      | zero => omega
      | succ k =>
        show (if i + 1 = 0 then [] else cL par k (par (i + 1)) ++ [i + 1]) = (if i + 1 = 0 then [] else cL par i (par (i + 1)) ++ [i + 1])
        have h1 := h (i + 1) (by omega)
        rw [if_neg (by omega), if_neg (by omega), ih (par (i + 1)) (by omega) k (by omega), ih (par (i + 1)) (by omega) i (by omega)]
theorem cn_0 (par : Nat → Nat) : cn par 0 = [] := rfl
theorem cn_s {par : Nat → Nat} (h : ∀ i, 0 < i → par i < i) {i : Nat} (hi : 0 < i) : cn par i = cn par (par i) ++ [i] := by
  cases i with
  | zero => omega
  | succ i =>
    show (if i + 1 = 0 then [] else cL par i (par (i + 1)) ++ [i + 1]) = _
    have h1 := h (i + 1) hi
    rw [if_neg (by omega), cL_fuel h _ _ (Nat.le_refl _) i (by omega)]
    rfl
theorem cn_len {par : Nat → Nat} (h : ∀ i, 0 < i → par i < i) : ∀ n i, i ≤ n → (cn par i).length ≤ i := by
  intro n
  induction n with
  | zero => intro i hi; rw [show i = 0 by omega]; exact Nat.le_refl _
  | succ n ih =>
    intro i hi
    rcases Nat.eq_zero_or_pos i with rfl | q
    · exact Nat.le_refl _
    · rw [cn_s h q, List.length_append]
      have := ih (par i) (by have := h i q; omega)
      have := h i q
      simp
      omega
theorem cn_mem {par : Nat → Nat} (h : ∀ i, 0 < i → par i < i) : ∀ n i, i ≤ n → ∀ j, j ∈ cn par i → 0 < j ∧ j ≤ i := by
  intro n
  induction n with
  | zero => intro i hi j hj; rw [show i = 0 by omega] at hj; cases hj
  | succ n ih =>
    intro i hi j hj
    rcases Nat.eq_zero_or_pos i with rfl | q
    · cases hj
    · rw [cn_s h q] at hj
      rcases List.mem_append.mp hj with hj | hj
      · have h1 := ih (par i) (by have := h i q; omega) j hj
        have h2 := h i q
        omega
      · rw [List.mem_singleton.mp hj]; omega
theorem c_MO_layerCount (l : Launch) (G : x_G) (ad : Nat → Nat) (σ : Sg) (wk : Nat → Int64) (ch : Nat → Bool) (i : Nat) (hi : i < 40) (hpr : ∀ i, 0 < i → gp σ i < i) : Met l y_MO_layerCount (x_ws y_MO_layerCount b_MO_layerCount 4 (some .int)) (x_rm 0 0 0) (x_P G [.ref (ad 0), .int (nI i)] (MO G ad σ wk ch)) (k2_QcV (.int (nI (cn (gp σ) i).length))) 0 0 (fun _ => False) := by
  refine x_mI (by decide +kernel) (Nat.le_of_ble_eq_true rfl) (fun p e s m args below meth c F hK hP ls hl Q hret => ?_)
  have hl : lv_has ls 4 [(0, .ref (ad 0)), (1, .int (nI i))] := hl
  obtain ⟨hO, hp, ht, hh, hg, hw, hc, hj⟩ := hP
  have loop : ∀ (n j k : Nat), j ≤ n → j < 40 → k ≤ 40 → k + (cn (gp σ) j).length = (cn (gp σ) i).length → ∀ ls : Array Slot, lv_has ls 4 [(3, .int (nI j)), (2, .int (nI k)), (0, .ref (ad 0)), (1, .int (nI i))] → W p l e (x_rm 0 0 0) s m args below meth c s.heap [] 0 0 Q (F0 m 4 ls []) := by
    intro n
    induction n with
    | zero =>
      intro j k hjn hj40 hk hlen ls hl
      obtain rfl : j = 0 := by omega
      refine lv_iload_n F.1 F.2.1 d_MO_layerCount_4 rfl (lv_at hl 0 rfl) ?_
      refine lv_if_eq (tgt := 21) F.1 F.2.1 d_MO_layerCount_5 (by decide) (fun _ => ?_) (fun zq => absurd (pN_eq (a := 0) (b := 0) rfl rfl (by omega) (by omega) (by omega)) zq)
      refine lv_iload_n F.1 F.2.1 d_MO_layerCount_21 rfl (lv_at hl 1 rfl) ?_
      exact hret _ _ _ d_MO_layerCount_22 (by rw [← hlen]; rfl)
    | succ n ih =>
      intro j k hjn hj40 hk hlen ls hl
      have hli := cn_len hpr _ i (Nat.le_refl _)
      refine lv_iload_n F.1 F.2.1 d_MO_layerCount_4 rfl (lv_at hl 0 rfl) ?_
      refine lv_if_eq (tgt := 21) F.1 F.2.1 d_MO_layerCount_5 (by decide) (fun c5 => ?_) (fun c5 => ?_)
      · have c5 := (pN_eqI (a := j) (b := 0) rfl rfl (by omega) (by omega)).mp c5
        subst c5
        refine lv_iload_n F.1 F.2.1 d_MO_layerCount_21 rfl (lv_at hl 1 rfl) ?_
        exact hret _ _ _ d_MO_layerCount_22 (by rw [← hlen]; rfl)
      · have c5 := mt (pN_eqI (a := j) (b := 0) rfl rfl (by omega) (by omega)).mpr c5
        have h1 := hpr j (by omega)
        rw [cn_s hpr (show 0 < j by omega), List.length_append, List.length_singleton] at hlen
        refine lv_iinc (v := (nI (k + 1))) (lv' := [(2, .int (nI (k + 1))), (3, .int (nI j)), (0, .ref (ad 0)), (1, .int (nI i))]) F.1 F.2.1 d_MO_layerCount_8 hl (k := 1) rfl (nI_1 k) (by decide) rfl (fun ls hl => ?_)
        refine lv_aload_n F.1 F.2.1 d_MO_layerCount_11 rfl (lv_at hl 2 rfl) ?_
        refine x_get F hK hO rfl i_MO 0 (by decide) k479 rfl rfl d_MO_layerCount_12 ?_
        refine lv_iload_n F.1 F.2.1 d_MO_layerCount_15 rfl (lv_at hl 1 rfl) ?_
        refine x_ialdN F hK hp (by decide) (by omega) d_MO_layerCount_16 ?_
        refine lv_istore_n (lv' := [(3, .int (nI (gp σ j))), (2, .int (nI (k + 1))), (0, .ref (ad 0)), (1, .int (nI i))]) F.1 F.2.1 d_MO_layerCount_17 rfl hl (by decide) rfl (fun ls hl => ?_)
        refine lv_goto (tgt := 4) F.1 F.2.1 d_MO_layerCount_18 (by decide) ?_
        exact ih (gp σ j) (k + 1) (by omega) (by omega) (by omega) (by omega) ls hl
  refine lv_iconst (v := 0) F.1 F.2.1 d_MO_layerCount_0 (by decide) ?_
  refine lv_istore_n (lv' := [(2, .int 0), (0, .ref (ad 0)), (1, .int (nI i))]) F.1 F.2.1 d_MO_layerCount_1 rfl hl (by decide) rfl (fun ls hl => ?_)
  refine lv_iload_n F.1 F.2.1 d_MO_layerCount_2 rfl (lv_at hl 2 rfl) ?_
  refine lv_istore_n (lv' := [(3, .int (nI i)), (2, .int 0), (0, .ref (ad 0)), (1, .int (nI i))]) F.1 F.2.1 d_MO_layerCount_3 rfl hl (by decide) rfl (fun ls hl => ?_)
  exact loop i i 0 (Nat.le_refl _) hi (by omega) (by omega) ls hl

