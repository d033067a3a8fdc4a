/-! ===== the model: send, collect, count, new ===== -/
theorem e1s {s0 : Nat} (h : s0 < 2) : (1 : Int32) - nI s0 = nI (1 - s0) := pk_sub (a := 1) (by omega)
def sndT (σ : Sg) (s t i : Nat) : Sg := (gn σ, gp σ, gt σ, gSet (gh σ) s i true, tSet (gg σ) s t i, ga σ)
def sndV (σ : Sg) (s i : Nat) : Int32 := nI (dfL σ (chO (gp σ) (chH σ s (gn σ)) i) false (gn σ)) - nI (dfL σ (chH σ s (gn σ)) false (gn σ))
def sndS (σ : Sg) (x y : Int32) : Int32 × Sg := if mo_badTag x y = true ∨ gg σ x.toNatClampNeg y.toNatClampNeg = 40 then (-1, σ) else (sndV σ (1 - x.toNatClampNeg) (gg σ x.toNatClampNeg y.toNatClampNeg), sndT σ (1 - x.toNatClampNeg) y.toNatClampNeg (gg σ x.toNatClampNeg y.toNatClampNeg))
theorem c_MO_send (l : Launch) (G : x_G) (ad : Nat → Nat) (σ : Sg) (wk : Nat → Int64) (ch : Nat → Bool) (x y : Int32) (hok : gI σ) : Met l y_MO_send (x_ws y_MO_send b_MO_send 6 (some .int)) (x_rm 6 0 0) (x_P G [.ref (ad 0), .int x, .int y] (MO G ad σ wk ch)) (x_Q (ME G ad (sndS σ x y))) 0 0 (mA ad) := by
  refine x_wI (by decide +kernel) (Nat.le_of_ble_eq_true rfl) (fun p e s m args below meth c F hK hP ls hl Q hret => ?_)
  have hl : lv_has ls 6 [(0, .ref (ad 0)), (1, .int x), (2, .int y)] := hl
  have hS : va_S (mA ad) s.heap s.heap [] := va_S.rf
  have hn40 := hok.1.2.1
  obtain ⟨hO, hp, ht, hh, hg, hw, hc, hj⟩ := id hP
  refine lv_iload_n F.1 F.2.1 d_MO_send_0 rfl (lv_at hl 1 rfl) ?_
  refine lv_iload_n F.1 F.2.1 d_MO_send_1 rfl (lv_at hl 2 rfl) ?_
  refine x_rd (x_S (n := 2) (As := [.int x, .int y]) F (c_MO_badTag l G x y) ok_MO_badTag k584 ⟨Nat.le_of_ble_eq_true rfl, Nat.le_of_ble_eq_true rfl⟩ rfl rfl hK (trivial) rfl hl.1 rfl (Nat.le_of_ble_eq_true rfl) d_MO_send_2 ⟨Nat.le_of_ble_eq_true rfl, Nat.le_of_ble_eq_true rfl⟩) ?_
  refine x_bne (tgt := 24) F d_MO_send_5 (by decide) (fun c5 => ?_) (fun c5 => ?_)
  · refine lv_iconst (v := (-1)) F.1 F.2.1 d_MO_send_24 (by decide) ?_
    exact hret _ _ _ _ _ _ _ d_MO_send_25 (by unfold sndS; rw [if_pos (Or.inl c5)]; exact ⟨rfl, ⟨_, _, hP⟩, hS.off⟩) hS.2.2 (Nat.le_refl _) (Nat.le_refl _)
  · unfold sndS at hret
    obtain ⟨s0, t0, hs0, ht0, rfl, rfl⟩ := badTag_of c5
    rw [show (nI s0).toNatClampNeg = s0 from nI_clamp (by omega), show (nI t0).toNatClampNeg = t0 from nI_clamp (by omega)] at hret
    have hgl := gg_lt hok.1 hs0 ht0
    have hgn : gg σ s0 t0 ≠ 40 → gg σ s0 t0 < gn σ := fun h => by rcases hok.1.2.2.2.2.2.2.2 s0 hs0 t0 ht0 with q | q; exact absurd q h; exact q.1
    refine lv_aload_n F.1 F.2.1 d_MO_send_8 rfl (lv_at hl 0 rfl) ?_
    refine x_get F hK hO rfl i_MO 4 (by decide) k483 rfl rfl d_MO_send_9 ?_
    refine lv_bipush (v := 6) F.1 F.2.1 d_MO_send_12 (by decide) ?_
    refine lv_iload_n F.1 F.2.1 d_MO_send_14 rfl (lv_at hl 1 rfl) ?_
    refine lv_imul F.1 F.2.1 d_MO_send_15 ?_
    refine lv_iload_n F.1 F.2.1 d_MO_send_16 rfl (lv_at hl 2 rfl) ?_
    refine lv_iadd F.1 F.2.1 d_MO_send_17 ?_
    rw [e6]
    refine x_ialdN F hK hg (by decide) (by omega) d_MO_send_18 ?_
    rw [mG_at ht0]
    refine lv_bipush (v := 40) F.1 F.2.1 d_MO_send_19 (by decide) ?_
    refine lv_icmp_ne (tgt := 26) F.1 F.2.1 d_MO_send_21 (by decide) (fun c21 => ?_) (fun c21 => ?_)
    · have c21 := mt (pN_eqI (a := (gg σ s0 t0)) (b := 40) rfl rfl (by omega) (by omega)).mpr c21
      rw [if_neg (by rintro (h | h); rw [c5] at h; cases h; exact c21 h)] at hret
      generalize hgi : gg σ s0 t0 = i at hgl hgn hret c21
      have hi := hgn c21
      refine lv_aload_n F.1 F.2.1 d_MO_send_26 rfl (lv_at hl 0 rfl) ?_
      refine x_get F hK hO rfl i_MO 4 (by decide) k483 rfl rfl d_MO_send_27 ?_
      refine lv_bipush (v := 6) F.1 F.2.1 d_MO_send_30 (by decide) ?_
      refine lv_iload_n F.1 F.2.1 d_MO_send_32 rfl (lv_at hl 1 rfl) ?_
      refine lv_imul F.1 F.2.1 d_MO_send_33 ?_
      refine lv_iload_n F.1 F.2.1 d_MO_send_34 rfl (lv_at hl 2 rfl) ?_
      refine lv_iadd F.1 F.2.1 d_MO_send_35 ?_
      rw [e6]
      refine x_ialdN F hK hg (by decide) (by omega) d_MO_send_36 ?_
      rw [mG_at ht0, hgi]
      refine lv_istore_n (lv' := [(3, .int (nI i)), (0, .ref (ad 0)), (1, .int (nI s0)), (2, .int (nI t0))]) F.1 F.2.1 d_MO_send_37 rfl hl (by decide) rfl (fun ls hl => ?_)
      refine lv_aload_n F.1 F.2.1 d_MO_send_38 rfl (lv_at hl 1 rfl) ?_
      refine lv_iconst (v := 1) F.1 F.2.1 d_MO_send_39 (by decide) ?_
      refine lv_iload_n F.1 F.2.1 d_MO_send_40 rfl (lv_at hl 2 rfl) ?_
      refine lv_isub F.1 F.2.1 d_MO_send_41 ?_
      rw [e1s hs0]
      refine x_wr (x_V (n := 1) (As := [.int (nI (1 - s0))]) F (c_MO_chooseHeld l G ad σ wk ch (1 - s0) (by omega) hok.1) ok_MO_chooseHeld k595 ⟨Nat.le_of_ble_eq_true rfl, Nat.le_of_ble_eq_true rfl⟩ rfl rfl hK (x_rcv hK hO rfl) (hP) rfl hl.1 rfl (Nat.le_of_ble_eq_true rfl) d_MO_send_42 ⟨Nat.le_of_ble_eq_true rfl, Nat.le_of_ble_eq_true rfl⟩) hS (fun _ h => h) (fun _ _ h => h.2.2) (fun v H1 locs hpost hS => ?_)
      obtain ⟨rfl, hP, ho⟩ := hpost
      have hO := hP.1
      refine lv_aload_n F.1 F.2.1 d_MO_send_45 rfl (lv_at hl 1 rfl) ?_
      refine lv_iconst (v := 0) F.1 F.2.1 d_MO_send_46 (by decide) ?_
      refine x_rd (x_V (n := 1) (As := [.int 0]) F (c_MO_different l G ad σ wk (chH σ (1 - s0) (gn σ)) false hok.1 (by rw [hok.2]; decide)) ok_MO_different k607 ⟨Nat.le_of_ble_eq_true rfl, Nat.le_of_ble_eq_true rfl⟩ rfl rfl hK (x_rcv hK hO rfl) (hP) rfl hl.1 rfl (Nat.le_of_ble_eq_true rfl) d_MO_send_47 ⟨Nat.le_of_ble_eq_true rfl, Nat.le_of_ble_eq_true rfl⟩) ?_
      refine lv_istore (lv' := [(4, .int (nI (dfL σ (chH σ (1 - s0) (gn σ)) false (gn σ)))), (3, .int (nI i)), (0, .ref (ad 0)), (1, .int (nI s0)), (2, .int (nI t0))]) F.1 F.2.1 d_MO_send_50 hl (by decide) rfl (fun ls hl => ?_)
      refine lv_aload_n F.1 F.2.1 d_MO_send_52 rfl (lv_at hl 2 rfl) ?_
      refine lv_iload_n F.1 F.2.1 d_MO_send_53 rfl (lv_at hl 1 rfl) ?_
      refine x_wr (x_V (n := 1) (As := [.int (nI i)]) F (c_MO_choose l G ad σ wk (chH σ (1 - s0) (gn σ)) i (by omega) hok.1.2.2.1) ok_MO_choose k603 ⟨Nat.le_of_ble_eq_true rfl, Nat.le_of_ble_eq_true rfl⟩ rfl rfl hK (x_rcv hK hO rfl) (hP) rfl hl.1 rfl (Nat.le_of_ble_eq_true rfl) d_MO_send_54 ⟨Nat.le_of_ble_eq_true rfl, Nat.le_of_ble_eq_true rfl⟩) hS (fun _ h => h) (fun _ _ h => h.2.2) (fun v H2 locs hpost hS => ?_)
      obtain ⟨rfl, hP, ho⟩ := hpost
      obtain ⟨hO, hp, ht, hh, hg, hw, hc, hj⟩ := id hP
      refine lv_aload_n F.1 F.2.1 d_MO_send_57 rfl (lv_at hl 2 rfl) ?_
      refine lv_iconst (v := 0) F.1 F.2.1 d_MO_send_58 (by decide) ?_
      refine x_rd (x_V (n := 1) (As := [.int 0]) F (c_MO_different l G ad σ wk (chO (gp σ) (chH σ (1 - s0) (gn σ)) i) false hok.1 (by rw [hok.2]; decide)) ok_MO_different k607 ⟨Nat.le_of_ble_eq_true rfl, Nat.le_of_ble_eq_true rfl⟩ rfl rfl hK (x_rcv hK hO rfl) (hP) rfl hl.1 rfl (Nat.le_of_ble_eq_true rfl) d_MO_send_59 ⟨Nat.le_of_ble_eq_true rfl, Nat.le_of_ble_eq_true rfl⟩) ?_
      refine lv_istore (lv' := [(5, .int (nI (dfL σ (chO (gp σ) (chH σ (1 - s0) (gn σ)) i) false (gn σ)))), (4, .int (nI (dfL σ (chH σ (1 - s0) (gn σ)) false (gn σ)))), (3, .int (nI i)), (0, .ref (ad 0)), (1, .int (nI s0)), (2, .int (nI t0))]) F.1 F.2.1 d_MO_send_62 hl (by decide) rfl (fun ls hl => ?_)
      refine lv_aload_n F.1 F.2.1 d_MO_send_64 rfl (lv_at hl 3 rfl) ?_
      refine x_get F hK hO rfl i_MO 3 (by decide) k482 rfl rfl d_MO_send_65 ?_
      refine lv_bipush (v := 40) F.1 F.2.1 d_MO_send_68 (by decide) ?_
      refine lv_iconst (v := 1) F.1 F.2.1 d_MO_send_70 (by decide) ?_
      refine lv_iload_n F.1 F.2.1 d_MO_send_71 rfl (lv_at hl 4 rfl) ?_
      refine lv_isub F.1 F.2.1 d_MO_send_72 ?_
      rw [e1s hs0]
      refine lv_imul F.1 F.2.1 d_MO_send_73 ?_
      refine lv_iload_n F.1 F.2.1 d_MO_send_74 rfl (lv_at hl 2 rfl) ?_
      refine lv_iadd F.1 F.2.1 d_MO_send_75 ?_
      rw [e40]
      refine lv_iconst (v := 1) F.1 F.2.1 d_MO_send_76 (by decide) ?_
      refine x_zastN F hK hh (by first | rfl | decide) (by decide) (by omega) hS ⟨3, by omega, rfl⟩ d_MO_send_77 (fun H3 locs hh hz3 ho3 hS => ?_)
      have hO := va_at.kept hO (ho3 _ (hj.ne 0 3))
      have hp := va_at.kept hp (ho3 _ (hj.ne 1 3))
      have ht := va_at.kept ht (ho3 _ (hj.ne 2 3))
      have hg := va_at.kept hg (ho3 _ (hj.ne 4 3))
      have hw := va_at.kept hw (ho3 _ (hj.ne 5 3))
      have hc := va_at.kept hc (ho3 _ (hj.ne 6 3))
      refine lv_aload_n F.1 F.2.1 d_MO_send_78 rfl (lv_at hl 3 rfl) ?_
      refine x_get F hK hO rfl i_MO 4 (by decide) k483 rfl rfl d_MO_send_79 ?_
      refine lv_bipush (v := 6) F.1 F.2.1 d_MO_send_82 (by decide) ?_
      refine lv_iconst (v := 1) F.1 F.2.1 d_MO_send_84 (by decide) ?_
      refine lv_iload_n F.1 F.2.1 d_MO_send_85 rfl (lv_at hl 4 rfl) ?_
      refine lv_isub F.1 F.2.1 d_MO_send_86 ?_
      rw [e1s hs0]
      refine lv_imul F.1 F.2.1 d_MO_send_87 ?_
      refine lv_iload_n F.1 F.2.1 d_MO_send_88 rfl (lv_at hl 5 rfl) ?_
      refine lv_iadd F.1 F.2.1 d_MO_send_89 ?_
      rw [e6]
      refine lv_iload_n F.1 F.2.1 d_MO_send_90 rfl (lv_at hl 2 rfl) ?_
      refine x_iastN F hK hg (by decide) (by omega) hS ⟨4, by omega, rfl⟩ d_MO_send_91 (fun H4 locs hg hz4 ho4 hS => ?_)
      have hO := va_at.kept hO (ho4 _ (hj.ne 0 4))
      have hp := va_at.kept hp (ho4 _ (hj.ne 1 4))
      have ht := va_at.kept ht (ho4 _ (hj.ne 2 4))
      have hh := va_at.kept hh (ho4 _ (hj.ne 3 4))
      have hw := va_at.kept hw (ho4 _ (hj.ne 5 4))
      have hc := va_at.kept hc (ho4 _ (hj.ne 6 4))
      refine lv_iload F.1 F.2.1 d_MO_send_92 (lv_at hl 0 rfl) ?_
      refine lv_iload F.1 F.2.1 d_MO_send_94 (lv_at hl 1 rfl) ?_
      refine lv_isub F.1 F.2.1 d_MO_send_96 ?_
      exact hret _ _ _ _ _ _ _ d_MO_send_97 ⟨rfl, ⟨wk, _, hO, hp, ht, (by have z := mH_set σ (s := 1 - s0) (i := i) (by omega) true; exact x_az.cg hh (fun j _ => congrFun z j)), (by have z := mG_set σ (s := 1 - s0) ht0 i; exact x_ai.cg hg (fun j _ => congrFun z j)), hw, hc, hj⟩, hS.off⟩ hS.2.2 (Nat.le_refl _) (Nat.le_refl _)
    · have c21 := (pN_eqI (a := (gg σ s0 t0)) (b := 40) rfl rfl (by omega) (by omega)).mp c21
      refine lv_iconst (v := (-1)) F.1 F.2.1 d_MO_send_24 (by decide) ?_
      exact hret _ _ _ _ _ _ _ d_MO_send_25 (by rw [if_pos (Or.inr c21)]; exact ⟨rfl, ⟨_, _, hP⟩, hS.off⟩) hS.2.2 (Nat.le_refl _) (Nat.le_refl _)
/-! collect -/
def colK (σ : Sg) (s k : Nat) : Nat → Nat → Bool := fun s' j => if s' = s then hNm (gg σ s) k j else gh σ s' j
def colT (σ : Sg) (s : Nat) : Sg := (gn σ, gp σ, gt σ, colK σ s 6, gg σ, ga σ)
theorem gI_col {σ : Sg} {s : Nat} (h : gI σ) : gI (colT σ s) := by
  obtain ⟨⟨h1, h2, h3, h4, h5, h6, h7, h8⟩, h9⟩ := h
  refine ⟨⟨h1, h2, h3, h4, h5, fun s' hs' => ?_, fun s' hs' i hi hh => ?_, fun s' hs' t ht => ?_⟩, h9⟩
  · show (if s' = s then hNm (gg σ s) 6 0 else gh σ s' 0) = true
    split
    · rfl
    · exact h6 s' hs'
  · have hh : (if s' = s then hNm (gg σ s) 6 i else gh σ s' i) = true := hh
    by_cases e : s' = s
    · rw [if_pos e] at hh
      unfold hNm at hh
      rw [Bool.or_eq_true] at hh
      rcases hh with hh | hh
      · have := of_decide_eq_true hh
        show i < gn σ
        omega
      · obtain ⟨t, ht, hq⟩ := List.any_eq_true.mp hh
        have hq := of_decide_eq_true hq
        rcases h8 s (e ▸ hs') t (List.mem_range.mp ht) with q | q
        · omega
        · rw [hq] at q; exact q.1
    · rw [if_neg e] at hh
      exact h7 s' hs' i hi hh
  · rcases h8 s' hs' t ht with q | q
    · exact Or.inl q
    · refine Or.inr ⟨q.1, ?_⟩
      show (if s' = s then hNm (gg σ s) 6 (gg σ s' t) else gh σ s' (gg σ s' t)) = true
      split
      · rename_i e
        subst e
        unfold hNm
        rw [Bool.or_eq_true]
        exact Or.inr (List.any_eq_true.mpr ⟨t, List.mem_range.mpr ht, decide_eq_true rfl⟩)
      · exact q.2
def clrS (σ : Sg) (s k : Nat) : Nat → Nat → Bool := fun s' j => if s' = s ∧ 1 ≤ j ∧ j < k then false else gh σ s' j
theorem clrS_s (σ : Sg) (s k : Nat) (hk : 1 ≤ k) : gSet (clrS σ s k) s k false = clrS σ s (k + 1) := funext fun s' => funext fun j => by
  unfold gSet clrS
  by_cases e : s' = s ∧ j = k
  · rw [if_pos e, if_pos (by omega)]
  · rw [if_neg e]
    by_cases e2 : s' = s ∧ 1 ≤ j ∧ j < k
    · rw [if_pos e2, if_pos (by omega)]
    · rw [if_neg e2, if_neg (by omega)]
theorem colK_s (σ : Sg) (s k : Nat) : gSet (colK σ s k) s (gg σ s k) true = colK σ s (k + 1) := funext fun s' => funext fun j => by
  unfold gSet colK
  by_cases e1 : s' = s
  · rw [if_pos e1, if_pos e1, ← hNm_s]
    unfold hOr
    by_cases e2 : j = gg σ s k
    · rw [if_pos ⟨e1, e2⟩, decide_eq_true e2, Bool.or_true]
    · rw [if_neg (fun z => e2 z.2), decide_eq_false e2, Bool.or_false]
  · rw [if_neg (fun z => e1 z.1), if_neg e1, if_neg e1]
def colV (σ : Sg) (s : Nat) : Int32 := nI (dfL σ (chH σ s (gn σ)) false (gn σ)) - nI (dfL (colT σ s) (chH (colT σ s) s (gn σ)) false (gn σ))
def colS (σ : Sg) (x : Int32) : Int32 × Sg := if (decide (x = 0) || decide (x = 1)) = true then (colV σ x.toNatClampNeg, colT σ x.toNatClampNeg) else (-1, σ)
theorem c_MO_collect (l : Launch) (G : x_G) (ad : Nat → Nat) (σ : Sg) (wk : Nat → Int64) (ch : Nat → Bool) (x : Int32) (hok : gI σ) : Met l y_MO_collect (x_ws y_MO_collect b_MO_collect 4 (some .int)) (x_rm 6 0 0) (x_P G [.ref (ad 0), .int x] (MO G ad σ wk ch)) (x_Q (ME G ad (colS σ x))) 0 0 (mA ad) := by
  refine x_wI (by decide +kernel) (Nat.le_of_ble_eq_true rfl) (fun p e s m args below meth c F hK hP ls hl Q hret => ?_)
  have hl : lv_has ls 4 [(0, .ref (ad 0)), (1, .int x)] := hl
  have hS : va_S (mA ad) s.heap s.heap [] := va_S.rf
  have hn40 := hok.1.2.1
  have hO := hP.1
  refine lv_iload_n F.1 F.2.1 d_MO_collect_0 rfl (lv_at hl 1 rfl) ?_
  refine lv_if_lt (tgt := 9) F.1 F.2.1 d_MO_collect_1 (by decide) (fun c1 => ?_) (fun c1 => ?_)
  · refine lv_iconst (v := (-1)) F.1 F.2.1 d_MO_collect_9 (by decide) ?_
    exact hret _ _ _ _ _ _ _ d_MO_collect_10 (by unfold colS; rw [decide_eq_false (by rintro rfl; exact absurd c1 (by decide)), decide_eq_false (by rintro rfl; exact absurd c1 (by decide))]; exact ⟨rfl, ⟨_, _, hP⟩, hS.off⟩) hS.2.2 (Nat.le_refl _) (Nat.le_refl _)
  · refine lv_iload_n F.1 F.2.1 d_MO_collect_4 rfl (lv_at hl 1 rfl) ?_
    refine lv_iconst (v := 1) F.1 F.2.1 d_MO_collect_5 (by decide) ?_
    refine lv_icmp_le (tgt := 11) F.1 F.2.1 d_MO_collect_6 (by decide) (fun c6 => ?_) (fun c6 => ?_)
    · obtain ⟨s0, hs0, rfl⟩ := st01 c1 (Int32.not_lt.mpr c6)
      unfold colS at hret
      rw [if_pos (st01_n s0 hs0), show (nI s0).toNatClampNeg = s0 from nI_clamp (by omega)] at hret
      refine lv_aload_n F.1 F.2.1 d_MO_collect_11 rfl (lv_at hl 0 rfl) ?_
      refine lv_iload_n F.1 F.2.1 d_MO_collect_12 rfl (lv_at hl 1 rfl) ?_
      refine x_wr (x_V (n := 1) (As := [.int (nI s0)]) F (c_MO_chooseHeld l G ad σ wk ch s0 hs0 hok.1) ok_MO_chooseHeld k595 ⟨Nat.le_of_ble_eq_true rfl, Nat.le_of_ble_eq_true rfl⟩ rfl rfl hK (x_rcv hK hO rfl) (hP) rfl hl.1 rfl (Nat.le_of_ble_eq_true rfl) d_MO_collect_13 ⟨Nat.le_of_ble_eq_true rfl, Nat.le_of_ble_eq_true rfl⟩) hS (fun _ h => h) (fun _ _ h => h.2.2) (fun v H5 locs hpost hS => ?_)
      obtain ⟨rfl, hP, ho⟩ := hpost
      have hO := hP.1
      refine lv_aload_n F.1 F.2.1 d_MO_collect_16 rfl (lv_at hl 0 rfl) ?_
      refine lv_iconst (v := 0) F.1 F.2.1 d_MO_collect_17 (by decide) ?_
      refine x_rd (x_V (n := 1) (As := [.int 0]) F (c_MO_different l G ad σ wk (chH σ s0 (gn σ)) false hok.1 (by rw [hok.2]; decide)) ok_MO_different k607 ⟨Nat.le_of_ble_eq_true rfl, Nat.le_of_ble_eq_true rfl⟩ rfl rfl hK (x_rcv hK hO rfl) (hP) rfl hl.1 rfl (Nat.le_of_ble_eq_true rfl) d_MO_collect_18 ⟨Nat.le_of_ble_eq_true rfl, Nat.le_of_ble_eq_true rfl⟩) ?_
      refine lv_istore_n (lv' := [(2, .int (nI (dfL σ (chH σ s0 (gn σ)) false (gn σ)))), (0, .ref (ad 0)), (1, .int (nI s0))]) F.1 F.2.1 d_MO_collect_21 rfl hl (by decide) rfl (fun ls hl => ?_)
      refine lv_iconst (v := 1) F.1 F.2.1 d_MO_collect_22 (by decide) ?_
      refine lv_istore_n (lv' := [(3, .int 1), (2, .int (nI (dfL σ (chH σ s0 (gn σ)) false (gn σ)))), (0, .ref (ad 0)), (1, .int (nI s0))]) F.1 F.2.1 d_MO_collect_23 rfl hl (by decide) rfl (fun ls hl => ?_)
      have loop2 : ∀ (n k : Nat), k + n = 6 → ∀ (H : Heap) (locs : List Loc), MO G ad (gn σ, gp σ, gt σ, colK σ s0 k, gg σ, ga σ) wk (chH σ s0 (gn σ)) H → va_S (mA ad) s.heap H locs → ∀ ls : Array Slot, lv_has ls 4 [(3, .int (nI k)), (2, .int (nI (dfL σ (chH σ s0 (gn σ)) false (gn σ)))), (0, .ref (ad 0)), (1, .int (nI s0))] → W p l e (x_rm 6 0 0) s m args below meth c H locs 0 0 Q (F0 m 50 ls []) := by
        intro n
        induction n with
        | zero =>
          intro k hn H locs hP hS ls hl
          obtain rfl : k = 6 := by omega
          have hO := hP.1
          refine lv_iload_n F.1 F.2.1 d_MO_collect_50 rfl (lv_at hl 0 rfl) ?_
          refine lv_bipush (v := 6) F.1 F.2.1 d_MO_collect_51 (by decide) ?_
          refine lv_icmp_ge (tgt := 100) F.1 F.2.1 d_MO_collect_53 (by decide) (fun _ => ?_) (fun zq => absurd (pN_le (a := 6) (b := 6) rfl rfl (by omega) (by omega) (by omega)) zq)
          refine lv_aload_n F.1 F.2.1 d_MO_collect_100 rfl (lv_at hl 2 rfl) ?_
          refine lv_iload_n F.1 F.2.1 d_MO_collect_101 rfl (lv_at hl 3 rfl) ?_
          refine x_wr (x_V (n := 1) (As := [.int (nI s0)]) F (c_MO_chooseHeld l G ad (colT σ s0) wk (chH σ s0 (gn σ)) s0 hs0 (gI_col hok).1) ok_MO_chooseHeld k595 ⟨Nat.le_of_ble_eq_true rfl, Nat.le_of_ble_eq_true rfl⟩ rfl rfl hK (x_rcv hK hO rfl) (hP) rfl hl.1 rfl (Nat.le_of_ble_eq_true rfl) d_MO_collect_102 ⟨Nat.le_of_ble_eq_true rfl, Nat.le_of_ble_eq_true rfl⟩) hS (fun _ h => h) (fun _ _ h => h.2.2) (fun v H6 locs hpost hS => ?_)
          obtain ⟨rfl, hP, ho⟩ := hpost
          have hO := hP.1
          refine lv_iload_n F.1 F.2.1 d_MO_collect_105 rfl (lv_at hl 1 rfl) ?_
          refine lv_aload_n F.1 F.2.1 d_MO_collect_106 rfl (lv_at hl 2 rfl) ?_
          refine lv_iconst (v := 0) F.1 F.2.1 d_MO_collect_107 (by decide) ?_
          refine x_rd (x_V (n := 1) (As := [.int 0]) F (c_MO_different l G ad (colT σ s0) wk (chH (colT σ s0) s0 (gn σ)) false (gI_col hok).1 (by show gp σ 0 < 40; rw [hok.2]; decide)) ok_MO_different k607 ⟨Nat.le_of_ble_eq_true rfl, Nat.le_of_ble_eq_true rfl⟩ rfl rfl hK (x_rcv hK hO rfl) (hP) rfl hl.1 rfl (Nat.le_of_ble_eq_true rfl) d_MO_collect_108 ⟨Nat.le_of_ble_eq_true rfl, Nat.le_of_ble_eq_true rfl⟩) ?_
          refine lv_isub F.1 F.2.1 d_MO_collect_111 ?_
          exact hret _ _ _ _ _ _ _ d_MO_collect_112 ⟨rfl, ⟨_, _, hP⟩, hS.off⟩ hS.2.2 (Nat.le_refl _) (Nat.le_refl _)
        | succ n ih =>
          intro k hn H locs hP hS ls hl
          have hk6 : k < 6 := by omega
          have hgl := gg_lt hok.1 hs0 hk6
          have nxt : ∀ (H : Heap) (locs : List Loc), MO G ad (gn σ, gp σ, gt σ, colK σ s0 (k + 1), gg σ, ga σ) wk (chH σ s0 (gn σ)) H → va_S (mA ad) s.heap H locs → ∀ ls : Array Slot, lv_has ls 4 [(3, .int (nI k)), (2, .int (nI (dfL σ (chH σ s0 (gn σ)) false (gn σ)))), (0, .ref (ad 0)), (1, .int (nI s0))] → W p l e (x_rm 6 0 0) s m args below meth c H locs 0 0 Q (F0 m 94 ls []) := by
            intro H locs hP hS ls hl
            refine lv_iinc (v := (nI (k + 1))) (lv' := [(3, .int (nI (k + 1))), (2, .int (nI (dfL σ (chH σ s0 (gn σ)) false (gn σ)))), (0, .ref (ad 0)), (1, .int (nI s0))]) F.1 F.2.1 d_MO_collect_94 hl (k := 0) rfl (nI_1 k) (by decide) rfl (fun ls hl => ?_)
            refine lv_goto (tgt := 50) F.1 F.2.1 d_MO_collect_97 (by decide) ?_
            exact ih (k + 1) (by omega) _ _ hP hS ls hl
          obtain ⟨hO, hp, ht, hh, hg, hw, hc, hj⟩ := id hP
          have hg : x_ai G (ad 4) 12 (mG σ) H := hg
          refine lv_iload_n F.1 F.2.1 d_MO_collect_50 rfl (lv_at hl 0 rfl) ?_
          refine lv_bipush (v := 6) F.1 F.2.1 d_MO_collect_51 (by decide) ?_
          refine lv_icmp_ge (tgt := 100) F.1 F.2.1 d_MO_collect_53 (by decide) (fun zq => absurd zq (pN_nle (a := 6) (b := k) rfl rfl (by omega) (by omega) (by omega))) (fun _ => ?_)
          refine lv_aload_n F.1 F.2.1 d_MO_collect_56 rfl (lv_at hl 2 rfl) ?_
          refine x_get F hK hO rfl i_MO 4 (by decide) k483 rfl rfl d_MO_collect_57 ?_
          refine lv_bipush (v := 6) F.1 F.2.1 d_MO_collect_60 (by decide) ?_
          refine lv_iload_n F.1 F.2.1 d_MO_collect_62 rfl (lv_at hl 3 rfl) ?_
          refine lv_imul F.1 F.2.1 d_MO_collect_63 ?_
          refine lv_iload_n F.1 F.2.1 d_MO_collect_64 rfl (lv_at hl 0 rfl) ?_
          refine lv_iadd F.1 F.2.1 d_MO_collect_65 ?_
          rw [e6]
          refine x_ialdN F hK hg (by decide) (by omega) d_MO_collect_66 ?_
          rw [mG_at hk6]
          refine lv_bipush (v := 40) F.1 F.2.1 d_MO_collect_67 (by decide) ?_
          refine lv_icmp_eq (tgt := 94) F.1 F.2.1 d_MO_collect_69 (by decide) (fun c69 => ?_) (fun c69 => ?_)
          · have c69 := (pN_eqI (a := (gg σ s0 k)) (b := 40) rfl rfl (by omega) (by omega)).mp c69
            refine nxt _ _ ⟨hO, hp, ht, x_az.cg hh (fun j hj8 => ?_), hg, hw, hc, hj⟩ hS ls hl
            show x_b (colK σ s0 k (j / 40) (j % 40)) = x_b (colK σ s0 (k + 1) (j / 40) (j % 40))
            unfold colK
            by_cases e1 : j / 40 = s0
            · rw [if_pos e1, if_pos e1, ← hNm_s]
              unfold hOr
              rw [decide_eq_false (show ¬ j % 40 = gg σ s0 k by omega), Bool.or_false]
            · rw [if_neg e1, if_neg e1]
          · have c69 := mt (pN_eqI (a := (gg σ s0 k)) (b := 40) rfl rfl (by omega) (by omega)).mpr c69
            refine lv_aload_n F.1 F.2.1 d_MO_collect_72 rfl (lv_at hl 2 rfl) ?_
            refine x_get F hK hO rfl i_MO 3 (by decide) k482 rfl rfl d_MO_collect_73 ?_
            refine lv_bipush (v := 40) F.1 F.2.1 d_MO_collect_76 (by decide) ?_
            refine lv_iload_n F.1 F.2.1 d_MO_collect_78 rfl (lv_at hl 3 rfl) ?_
            refine lv_imul F.1 F.2.1 d_MO_collect_79 ?_
            refine lv_aload_n F.1 F.2.1 d_MO_collect_80 rfl (lv_at hl 2 rfl) ?_
            refine x_get F hK hO rfl i_MO 4 (by decide) k483 rfl rfl d_MO_collect_81 ?_
            refine lv_bipush (v := 6) F.1 F.2.1 d_MO_collect_84 (by decide) ?_
            refine lv_iload_n F.1 F.2.1 d_MO_collect_86 rfl (lv_at hl 3 rfl) ?_
            refine lv_imul F.1 F.2.1 d_MO_collect_87 ?_
            refine lv_iload_n F.1 F.2.1 d_MO_collect_88 rfl (lv_at hl 0 rfl) ?_
            refine lv_iadd F.1 F.2.1 d_MO_collect_89 ?_
            rw [e6]
            refine x_ialdN F hK hg (by decide) (by omega) d_MO_collect_90 ?_
            rw [mG_at hk6]
            refine lv_iadd F.1 F.2.1 d_MO_collect_91 ?_
            rw [e40]
            refine lv_iconst (v := 1) F.1 F.2.1 d_MO_collect_92 (by decide) ?_
            refine x_zastN F hK hh (by first | rfl | decide) (by decide) (by omega) hS ⟨3, by omega, rfl⟩ d_MO_collect_93 (fun H7 locs hh hz7 ho7 hS => ?_)
            have hO := va_at.kept hO (ho7 _ (hj.ne 0 3))
            have hp := va_at.kept hp (ho7 _ (hj.ne 1 3))
            have ht := va_at.kept ht (ho7 _ (hj.ne 2 3))
            have hg := va_at.kept hg (ho7 _ (hj.ne 4 3))
            have hw := va_at.kept hw (ho7 _ (hj.ne 5 3))
            have hc := va_at.kept hc (ho7 _ (hj.ne 6 3))
            refine nxt _ _ ⟨hO, hp, ht, ?_, hg, hw, hc, hj⟩ hS ls hl
            have z := mH_set (gn σ, gp σ, gt σ, colK σ s0 k, gg σ, ga σ) (s := s0) (i := gg σ s0 k) (by omega) true
            rw [show (1 : Int32) = x_b true from rfl, z] at hh
            rw [← colK_s]
            exact hh
      have loop1 : ∀ (n k : Nat), k + n = 40 → 1 ≤ k → ∀ (H : Heap) (locs : List Loc), MO G ad (gn σ, gp σ, gt σ, clrS σ s0 k, gg σ, ga σ) wk (chH σ s0 (gn σ)) H → va_S (mA ad) s.heap H locs → ∀ ls : Array Slot, lv_has ls 4 [(3, .int (nI k)), (2, .int (nI (dfL σ (chH σ s0 (gn σ)) false (gn σ)))), (0, .ref (ad 0)), (1, .int (nI s0))] → W p l e (x_rm 6 0 0) s m args below meth c H locs 0 0 Q (F0 m 24 ls []) := by
        intro n
        induction n with
        | zero =>
          intro k hn hk1 H locs hP hS ls hl
          obtain rfl : k = 40 := by omega
          obtain ⟨hO, hp, ht, hh, hg, hw, hc, hj⟩ := id hP
          refine lv_iload_n F.1 F.2.1 d_MO_collect_24 rfl (lv_at hl 0 rfl) ?_
          refine lv_bipush (v := 40) F.1 F.2.1 d_MO_collect_25 (by decide) ?_
          refine lv_icmp_ge (tgt := 48) F.1 F.2.1 d_MO_collect_27 (by decide) (fun _ => ?_) (fun zq => absurd (pN_le (a := 40) (b := 40) rfl rfl (by omega) (by omega) (by omega)) zq)
          refine lv_iconst (v := 0) F.1 F.2.1 d_MO_collect_48 (by decide) ?_
          refine lv_istore_n (lv' := [(3, .int 0), (2, .int (nI (dfL σ (chH σ s0 (gn σ)) false (gn σ)))), (0, .ref (ad 0)), (1, .int (nI s0))]) F.1 F.2.1 d_MO_collect_49 rfl hl (by decide) rfl (fun ls hl => ?_)
          refine loop2 6 0 rfl _ _ ⟨hO, hp, ht, x_az.cg hh (fun j hj8 => ?_), hg, hw, hc, hj⟩ hS ls (lv_sub hl [0, 1, 2, 3] rfl)
          show x_b (clrS σ s0 40 (j / 40) (j % 40)) = x_b (colK σ s0 0 (j / 40) (j % 40))
          unfold clrS colK
          rw [hNm_0]
          by_cases e1 : j / 40 = s0
          · rw [if_pos e1]
            by_cases e2 : j % 40 = 0
            · rw [if_neg (by omega), e2, e1, hok.1.2.2.2.2.2.1 s0 hs0]; rfl
            · rw [if_pos (by omega)]; show x_b false = x_b (decide (j % 40 = 0)); rw [decide_eq_false e2]
          · rw [if_neg e1, if_neg (fun z => e1 z.1)]
        | succ n ih =>
          intro k hn hk1 H locs hP hS ls hl
          obtain ⟨hO, hp, ht, hh, hg, hw, hc, hj⟩ := id hP
          refine lv_iload_n F.1 F.2.1 d_MO_collect_24 rfl (lv_at hl 0 rfl) ?_
          refine lv_bipush (v := 40) F.1 F.2.1 d_MO_collect_25 (by decide) ?_
          refine lv_icmp_ge (tgt := 48) F.1 F.2.1 d_MO_collect_27 (by decide) (fun zq => absurd zq (pN_nle (a := 40) (b := k) rfl rfl (by omega) (by omega) (by omega))) (fun _ => ?_)
          refine lv_aload_n F.1 F.2.1 d_MO_collect_30 rfl (lv_at hl 2 rfl) ?_
          refine x_get F hK hO rfl i_MO 3 (by decide) k482 rfl rfl d_MO_collect_31 ?_
          refine lv_bipush (v := 40) F.1 F.2.1 d_MO_collect_34 (by decide) ?_
          refine lv_iload_n F.1 F.2.1 d_MO_collect_36 rfl (lv_at hl 3 rfl) ?_
          refine lv_imul F.1 F.2.1 d_MO_collect_37 ?_
          refine lv_iload_n F.1 F.2.1 d_MO_collect_38 rfl (lv_at hl 0 rfl) ?_
          refine lv_iadd F.1 F.2.1 d_MO_collect_39 ?_
          rw [e40]
          refine lv_iconst (v := 0) F.1 F.2.1 d_MO_collect_40 (by decide) ?_
          refine x_zastN F hK hh (by first | rfl | decide) (by decide) (by omega) hS ⟨3, by omega, rfl⟩ d_MO_collect_41 (fun H8 locs hh hz8 ho8 hS => ?_)
          have hO := va_at.kept hO (ho8 _ (hj.ne 0 3))
          have hp := va_at.kept hp (ho8 _ (hj.ne 1 3))
          have ht := va_at.kept ht (ho8 _ (hj.ne 2 3))
          have hg := va_at.kept hg (ho8 _ (hj.ne 4 3))
          have hw := va_at.kept hw (ho8 _ (hj.ne 5 3))
          have hc := va_at.kept hc (ho8 _ (hj.ne 6 3))
          refine lv_iinc (v := (nI (k + 1))) (lv' := [(3, .int (nI (k + 1))), (2, .int (nI (dfL σ (chH σ s0 (gn σ)) false (gn σ)))), (0, .ref (ad 0)), (1, .int (nI s0))]) F.1 F.2.1 d_MO_collect_42 hl (k := 0) rfl (nI_1 k) (by decide) rfl (fun ls hl => ?_)
          refine lv_goto (tgt := 24) F.1 F.2.1 d_MO_collect_45 (by decide) ?_
          refine ih (k + 1) (by omega) (by omega) _ _ ⟨hO, hp, ht, ?_, hg, hw, hc, hj⟩ hS ls hl
          have z := mH_set (gn σ, gp σ, gt σ, clrS σ s0 k, gg σ, ga σ) (s := s0) (i := k) (by omega) false
          rw [show (0 : Int32) = x_b false from rfl, z] at hh
          rw [← clrS_s σ s0 k hk1]
          exact hh
      refine loop1 39 1 rfl (Nat.le_refl _) _ _ ?_ hS ls hl
      have z : clrS σ s0 1 = gh σ := funext fun s' => funext fun j => if_neg (by omega)
      rw [z]
      exact hP
    · refine lv_iconst (v := (-1)) F.1 F.2.1 d_MO_collect_9 (by decide) ?_
      exact hret _ _ _ _ _ _ _ d_MO_collect_10 (by unfold colS; rw [decide_eq_false (by rintro rfl; exact absurd c6 (by decide)), decide_eq_false (by rintro rfl; exact absurd c6 (by decide))]; exact ⟨rfl, ⟨_, _, hP⟩, hS.off⟩) hS.2.2 (Nat.le_refl _) (Nat.le_refl _)
def cntS (σ : Sg) (x : Int32) : Int32 := if x = 0 then nI (gn σ) else if x = 5 then ga σ else if x = 1 then nI (dfL σ (chH σ 0 (gn σ)) false (gn σ)) else if x = 2 then nI (dfL σ (chH σ 1 (gn σ)) false (gn σ)) else if x = 3 then nI (dfL σ (chH σ 0 (gn σ)) true (gn σ)) else if x = 4 then nI (dfL σ (chH σ 1 (gn σ)) true (gn σ)) else -1
theorem c_MO_count (l : Launch) (G : x_G) (ad : Nat → Nat) (σ : Sg) (wk : Nat → Int64) (ch : Nat → Bool) (x : Int32) (hok : gI σ) : Met l y_MO_count (x_ws y_MO_count b_MO_count 2 (some .int)) (x_rm 6 0 0) (x_P G [.ref (ad 0), .int x] (MO G ad σ wk ch)) (x_Q (ME G ad (cntS σ x, σ))) 0 0 (mA ad) := by
  refine x_wI (by decide +kernel) (Nat.le_of_ble_eq_true rfl) (fun p e s m args below meth c F hK hP ls hl Q hret => ?_)
  have hl : lv_has ls 2 [(0, .ref (ad 0)), (1, .int x)] := hl
  have hS : va_S (mA ad) s.heap s.heap [] := va_S.rf
  have hn40 := hok.1.2.1
  obtain ⟨hO, hp, ht, hh, hg, hw, hc, hj⟩ := id hP
  refine lv_iload_n F.1 F.2.1 d_MO_count_0 rfl (lv_at hl 1 rfl) ?_
  refine lv_if_ne (tgt := 9) F.1 F.2.1 d_MO_count_1 (by decide) (fun c1 => ?_) (fun c1 => ?_)
  · refine lv_iload_n F.1 F.2.1 d_MO_count_9 rfl (lv_at hl 1 rfl) ?_
    refine lv_iconst (v := 5) F.1 F.2.1 d_MO_count_10 (by decide) ?_
    refine lv_icmp_ne (tgt := 19) F.1 F.2.1 d_MO_count_11 (by decide) (fun c11 => ?_) (fun c11 => ?_)
    · refine lv_iload_n F.1 F.2.1 d_MO_count_19 rfl (lv_at hl 1 rfl) ?_
      refine lv_if_lt (tgt := 28) F.1 F.2.1 d_MO_count_20 (by decide) (fun c20 => ?_) (fun c20 => ?_)
      · refine lv_iconst (v := (-1)) F.1 F.2.1 d_MO_count_28 (by decide) ?_
        exact hret _ _ _ _ _ _ _ d_MO_count_29 (by unfold cntS; rw [if_neg c1, if_neg c11, if_neg (by rintro rfl; exact absurd c20 (by decide)), if_neg (by rintro rfl; exact absurd c20 (by decide)), if_neg (by rintro rfl; exact absurd c20 (by decide)), if_neg (by rintro rfl; exact absurd c20 (by decide))]; exact ⟨rfl, ⟨_, _, hP⟩, hS.off⟩) hS.2.2 (Nat.le_refl _) (Nat.le_refl _)
      · refine lv_iload_n F.1 F.2.1 d_MO_count_23 rfl (lv_at hl 1 rfl) ?_
        refine lv_iconst (v := 5) F.1 F.2.1 d_MO_count_24 (by decide) ?_
        refine lv_icmp_le (tgt := 30) F.1 F.2.1 d_MO_count_25 (by decide) (fun c25 => ?_) (fun c25 => ?_)
        · have hx : x = 1 ∨ x = 2 ∨ x = 3 ∨ x = 4 := by
            obtain ⟨k, hk, rfl⟩ := nI_of2 (M := 5) (n := 5) rfl c20 c25
            have : k = 0 ∨ k = 1 ∨ k = 2 ∨ k = 3 ∨ k = 4 ∨ k = 5 := by omega
            rcases this with rfl | rfl | rfl | rfl | rfl | rfl
            · exact absurd rfl c1
            · exact Or.inl rfl
            · exact Or.inr (Or.inl rfl)
            · exact Or.inr (Or.inr (Or.inl rfl))
            · exact Or.inr (Or.inr (Or.inr rfl))
            · exact absurd rfl c11
          rcases hx with rfl | rfl | rfl | rfl
          · skip
            refine lv_aload_n F.1 F.2.1 d_MO_count_30 rfl (lv_at hl 0 rfl) ?_
            refine lv_iload_n F.1 F.2.1 d_MO_count_31 rfl (lv_at hl 1 rfl) ?_
            refine lv_iconst (v := 1) F.1 F.2.1 d_MO_count_32 (by decide) ?_
            refine lv_isub F.1 F.2.1 d_MO_count_33 ?_
            refine lv_iconst (v := 2) F.1 F.2.1 d_MO_count_34 (by decide) ?_
            refine lv_irem F.1 F.2.1 d_MO_count_35 (by decide) ?_
            refine x_wr (x_V (n := 1) (As := [.int ((1 - 1) - (1 - 1) / 2 * 2)]) F (c_MO_chooseHeld l G ad σ wk ch 0 (by decide) hok.1) ok_MO_chooseHeld k595 ⟨Nat.le_of_ble_eq_true rfl, Nat.le_of_ble_eq_true rfl⟩ rfl rfl hK (x_rcv hK hO rfl) (hP) rfl hl.1 rfl (Nat.le_of_ble_eq_true rfl) d_MO_count_36 ⟨Nat.le_of_ble_eq_true rfl, Nat.le_of_ble_eq_true rfl⟩) hS (fun _ h => h) (fun _ _ h => h.2.2) (fun v H9 locs hpost hS => ?_)
            obtain ⟨rfl, hP, ho⟩ := hpost
            have hO := hP.1
            refine lv_aload_n F.1 F.2.1 d_MO_count_39 rfl (lv_at hl 0 rfl) ?_
            refine lv_iload_n F.1 F.2.1 d_MO_count_40 rfl (lv_at hl 1 rfl) ?_
            refine lv_iconst (v := 2) F.1 F.2.1 d_MO_count_41 (by decide) ?_
            refine lv_icmp_le (tgt := 49) F.1 F.2.1 d_MO_count_42 (by decide) (fun _ => ?_) (fun zq => absurd ((by decide)) zq)
            refine lv_iconst (v := 0) F.1 F.2.1 d_MO_count_49 (by decide) ?_
            refine x_rd (x_V (n := 1) (As := [.int 0]) F (c_MO_different l G ad σ wk (chH σ 0 (gn σ)) false hok.1 (by rw [hok.2]; decide)) ok_MO_different k607 ⟨Nat.le_of_ble_eq_true rfl, Nat.le_of_ble_eq_true rfl⟩ rfl rfl hK (x_rcv hK hO rfl) (hP) rfl hl.1 rfl (Nat.le_of_ble_eq_true rfl) d_MO_count_50 ⟨Nat.le_of_ble_eq_true rfl, Nat.le_of_ble_eq_true rfl⟩) ?_
            exact hret _ _ _ _ _ _ _ d_MO_count_53 ⟨rfl, ⟨_, _, hP⟩, hS.off⟩ hS.2.2 (Nat.le_refl _) (Nat.le_refl _)
          · skip
            refine lv_aload_n F.1 F.2.1 d_MO_count_30 rfl (lv_at hl 0 rfl) ?_
            refine lv_iload_n F.1 F.2.1 d_MO_count_31 rfl (lv_at hl 1 rfl) ?_
            refine lv_iconst (v := 1) F.1 F.2.1 d_MO_count_32 (by decide) ?_
            refine lv_isub F.1 F.2.1 d_MO_count_33 ?_
            refine lv_iconst (v := 2) F.1 F.2.1 d_MO_count_34 (by decide) ?_
            refine lv_irem F.1 F.2.1 d_MO_count_35 (by decide) ?_
            refine x_wr (x_V (n := 1) (As := [.int ((2 - 1) - (2 - 1) / 2 * 2)]) F (c_MO_chooseHeld l G ad σ wk ch 1 (by decide) hok.1) ok_MO_chooseHeld k595 ⟨Nat.le_of_ble_eq_true rfl, Nat.le_of_ble_eq_true rfl⟩ rfl rfl hK (x_rcv hK hO rfl) (hP) rfl hl.1 rfl (Nat.le_of_ble_eq_true rfl) d_MO_count_36 ⟨Nat.le_of_ble_eq_true rfl, Nat.le_of_ble_eq_true rfl⟩) hS (fun _ h => h) (fun _ _ h => h.2.2) (fun v H10 locs hpost hS => ?_)
            obtain ⟨rfl, hP, ho⟩ := hpost
            have hO := hP.1
            refine lv_aload_n F.1 F.2.1 d_MO_count_39 rfl (lv_at hl 0 rfl) ?_
            refine lv_iload_n F.1 F.2.1 d_MO_count_40 rfl (lv_at hl 1 rfl) ?_
            refine lv_iconst (v := 2) F.1 F.2.1 d_MO_count_41 (by decide) ?_
            refine lv_icmp_le (tgt := 49) F.1 F.2.1 d_MO_count_42 (by decide) (fun _ => ?_) (fun zq => absurd ((by decide)) zq)
            refine lv_iconst (v := 0) F.1 F.2.1 d_MO_count_49 (by decide) ?_
            refine x_rd (x_V (n := 1) (As := [.int 0]) F (c_MO_different l G ad σ wk (chH σ 1 (gn σ)) false hok.1 (by rw [hok.2]; decide)) ok_MO_different k607 ⟨Nat.le_of_ble_eq_true rfl, Nat.le_of_ble_eq_true rfl⟩ rfl rfl hK (x_rcv hK hO rfl) (hP) rfl hl.1 rfl (Nat.le_of_ble_eq_true rfl) d_MO_count_50 ⟨Nat.le_of_ble_eq_true rfl, Nat.le_of_ble_eq_true rfl⟩) ?_
            exact hret _ _ _ _ _ _ _ d_MO_count_53 ⟨rfl, ⟨_, _, hP⟩, hS.off⟩ hS.2.2 (Nat.le_refl _) (Nat.le_refl _)
          · skip
            refine lv_aload_n F.1 F.2.1 d_MO_count_30 rfl (lv_at hl 0 rfl) ?_
            refine lv_iload_n F.1 F.2.1 d_MO_count_31 rfl (lv_at hl 1 rfl) ?_
            refine lv_iconst (v := 1) F.1 F.2.1 d_MO_count_32 (by decide) ?_
            refine lv_isub F.1 F.2.1 d_MO_count_33 ?_
            refine lv_iconst (v := 2) F.1 F.2.1 d_MO_count_34 (by decide) ?_
            refine lv_irem F.1 F.2.1 d_MO_count_35 (by decide) ?_
            refine x_wr (x_V (n := 1) (As := [.int ((3 - 1) - (3 - 1) / 2 * 2)]) F (c_MO_chooseHeld l G ad σ wk ch 0 (by decide) hok.1) ok_MO_chooseHeld k595 ⟨Nat.le_of_ble_eq_true rfl, Nat.le_of_ble_eq_true rfl⟩ rfl rfl hK (x_rcv hK hO rfl) (hP) rfl hl.1 rfl (Nat.le_of_ble_eq_true rfl) d_MO_count_36 ⟨Nat.le_of_ble_eq_true rfl, Nat.le_of_ble_eq_true rfl⟩) hS (fun _ h => h) (fun _ _ h => h.2.2) (fun v H11 locs hpost hS => ?_)
            obtain ⟨rfl, hP, ho⟩ := hpost
            have hO := hP.1
            refine lv_aload_n F.1 F.2.1 d_MO_count_39 rfl (lv_at hl 0 rfl) ?_
            refine lv_iload_n F.1 F.2.1 d_MO_count_40 rfl (lv_at hl 1 rfl) ?_
            refine lv_iconst (v := 2) F.1 F.2.1 d_MO_count_41 (by decide) ?_
            refine lv_icmp_le (tgt := 49) F.1 F.2.1 d_MO_count_42 (by decide) (fun zq => absurd zq ((by decide))) (fun _ => ?_)
            refine lv_iconst (v := 1) F.1 F.2.1 d_MO_count_45 (by decide) ?_
            refine lv_goto (tgt := 50) F.1 F.2.1 d_MO_count_46 (by decide) ?_
            refine x_rd (x_V (n := 1) (As := [.int 1]) F (c_MO_different l G ad σ wk (chH σ 0 (gn σ)) true hok.1 (by rw [hok.2]; decide)) ok_MO_different k607 ⟨Nat.le_of_ble_eq_true rfl, Nat.le_of_ble_eq_true rfl⟩ rfl rfl hK (x_rcv hK hO rfl) (hP) rfl hl.1 rfl (Nat.le_of_ble_eq_true rfl) d_MO_count_50 ⟨Nat.le_of_ble_eq_true rfl, Nat.le_of_ble_eq_true rfl⟩) ?_
            exact hret _ _ _ _ _ _ _ d_MO_count_53 ⟨rfl, ⟨_, _, hP⟩, hS.off⟩ hS.2.2 (Nat.le_refl _) (Nat.le_refl _)
          · skip
            refine lv_aload_n F.1 F.2.1 d_MO_count_30 rfl (lv_at hl 0 rfl) ?_
            refine lv_iload_n F.1 F.2.1 d_MO_count_31 rfl (lv_at hl 1 rfl) ?_
            refine lv_iconst (v := 1) F.1 F.2.1 d_MO_count_32 (by decide) ?_
            refine lv_isub F.1 F.2.1 d_MO_count_33 ?_
            refine lv_iconst (v := 2) F.1 F.2.1 d_MO_count_34 (by decide) ?_
            refine lv_irem F.1 F.2.1 d_MO_count_35 (by decide) ?_
            refine x_wr (x_V (n := 1) (As := [.int ((4 - 1) - (4 - 1) / 2 * 2)]) F (c_MO_chooseHeld l G ad σ wk ch 1 (by decide) hok.1) ok_MO_chooseHeld k595 ⟨Nat.le_of_ble_eq_true rfl, Nat.le_of_ble_eq_true rfl⟩ rfl rfl hK (x_rcv hK hO rfl) (hP) rfl hl.1 rfl (Nat.le_of_ble_eq_true rfl) d_MO_count_36 ⟨Nat.le_of_ble_eq_true rfl, Nat.le_of_ble_eq_true rfl⟩) hS (fun _ h => h) (fun _ _ h => h.2.2) (fun v H12 locs hpost hS => ?_)
            obtain ⟨rfl, hP, ho⟩ := hpost
            have hO := hP.1
            refine lv_aload_n F.1 F.2.1 d_MO_count_39 rfl (lv_at hl 0 rfl) ?_
            refine lv_iload_n F.1 F.2.1 d_MO_count_40 rfl (lv_at hl 1 rfl) ?_
            refine lv_iconst (v := 2) F.1 F.2.1 d_MO_count_41 (by decide) ?_
            refine lv_icmp_le (tgt := 49) F.1 F.2.1 d_MO_count_42 (by decide) (fun zq => absurd zq ((by decide))) (fun _ => ?_)
            refine lv_iconst (v := 1) F.1 F.2.1 d_MO_count_45 (by decide) ?_
            refine lv_goto (tgt := 50) F.1 F.2.1 d_MO_count_46 (by decide) ?_
            refine x_rd (x_V (n := 1) (As := [.int 1]) F (c_MO_different l G ad σ wk (chH σ 1 (gn σ)) true hok.1 (by rw [hok.2]; decide)) ok_MO_different k607 ⟨Nat.le_of_ble_eq_true rfl, Nat.le_of_ble_eq_true rfl⟩ rfl rfl hK (x_rcv hK hO rfl) (hP) rfl hl.1 rfl (Nat.le_of_ble_eq_true rfl) d_MO_count_50 ⟨Nat.le_of_ble_eq_true rfl, Nat.le_of_ble_eq_true rfl⟩) ?_
            exact hret _ _ _ _ _ _ _ d_MO_count_53 ⟨rfl, ⟨_, _, hP⟩, hS.off⟩ hS.2.2 (Nat.le_refl _) (Nat.le_refl _)
        · refine lv_iconst (v := (-1)) F.1 F.2.1 d_MO_count_28 (by decide) ?_
          exact hret _ _ _ _ _ _ _ d_MO_count_29 (by unfold cntS; rw [if_neg c1, if_neg c11, if_neg (by rintro rfl; exact absurd c25 (by decide)), if_neg (by rintro rfl; exact absurd c25 (by decide)), if_neg (by rintro rfl; exact absurd c25 (by decide)), if_neg (by rintro rfl; exact absurd c25 (by decide))]; exact ⟨rfl, ⟨_, _, hP⟩, hS.off⟩) hS.2.2 (Nat.le_refl _) (Nat.le_refl _)
    · refine lv_aload_n F.1 F.2.1 d_MO_count_14 rfl (lv_at hl 0 rfl) ?_
      refine x_get F hK hO rfl i_MO 7 (by decide) k486 rfl rfl d_MO_count_15 ?_
      exact hret _ _ _ _ _ _ _ d_MO_count_18 (by unfold cntS; rw [if_neg c1, if_pos c11]; exact ⟨rfl, ⟨_, _, hP⟩, hS.off⟩) hS.2.2 (Nat.le_refl _) (Nat.le_refl _)
  · refine lv_aload_n F.1 F.2.1 d_MO_count_4 rfl (lv_at hl 0 rfl) ?_
    refine x_get F hK hO rfl i_MO 2 (by decide) k481 rfl rfl d_MO_count_5 ?_
    exact hret _ _ _ _ _ _ _ d_MO_count_8 (by unfold cntS; rw [if_pos c1]; exact ⟨rfl, ⟨_, _, hP⟩, hS.off⟩) hS.2.2 (Nat.le_refl _) (Nat.le_refl _)

