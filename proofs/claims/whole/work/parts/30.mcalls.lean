/-! ===== the model: the calls ===== -/
def gI (σ : Sg) : Prop := gOk σ ∧ gp σ 0 = 0
/-- what a call that writes leaves -/
def ME (G : x_G) (ad : Nat → Nat) (q : Int32 × Sg) : Option Value → Heap → Heap → Prop := fun r H H1 => r = some (.int q.1) ∧ (∃ wk ch, MO G ad q.2 wk ch H1) ∧ x_off (mA ad) H H1
theorem st_in {st : Int32} (h1 : ¬ st < 0) (h2 : ¬ (4 : Int32) < st) : st = 0 ∨ st = 1 ∨ st = 2 ∨ st = 3 ∨ st = 4 := by
  rcases x_sw5 st with h | h | h | h | h | h | h
  · exact Or.inl h
  · exact Or.inr (Or.inl h)
  · exact Or.inr (Or.inr (Or.inl h))
  · exact Or.inr (Or.inr (Or.inr (Or.inl h)))
  · exact Or.inr (Or.inr (Or.inr (Or.inr h)))
  · exact absurd (Int32.lt_iff_toInt_lt.mpr h) h1
  · exact absurd (Int32.lt_iff_toInt_lt.mpr (show (4 : Int32).toInt < st.toInt from h)) h2
theorem tStep_none {f : Nat → Int64} {st x y : Int32} (h : ¬ (pj_legal x = true ∧ (st = 0 ∨ st = 1 ∨ st = 2 ∨ ((st = 3 ∨ st = 4) ∧ pj_legal y = true)))) : tStep f st x y = none := by
  unfold tStep
  by_cases hx : pj_legal x = true
  · rw [if_pos hx]
    by_cases h0 : st = 0
    · exact absurd ⟨hx, Or.inl h0⟩ h
    rw [if_neg h0]
    by_cases h1 : st = 1
    · exact absurd ⟨hx, Or.inr (Or.inl h1)⟩ h
    rw [if_neg h1]
    by_cases h2 : st = 2
    · exact absurd ⟨hx, Or.inr (Or.inr (Or.inl h2))⟩ h
    rw [if_neg h2]
    by_cases hy : pj_legal y = true
    · by_cases h3 : st = 3
      · exact absurd ⟨hx, Or.inr (Or.inr (Or.inr ⟨Or.inl h3, hy⟩))⟩ h
      rw [if_neg h3]
      by_cases h4 : st = 4
      · exact absurd ⟨hx, Or.inr (Or.inr (Or.inr ⟨Or.inr h4, hy⟩))⟩ h
      rw [if_neg h4]
    · rw [if_neg hy]
      split
      · rfl
      · split <;> rfl
  · rw [if_neg hx]
def bldS (σ : Sg) (x st p y : Int32) : Int32 × Sg := if hoB σ 0 x = true then (match tStep (gt σ x.toNatClampNeg) st p y with | none => (-1, σ) | some g => imgS σ g x.toNatClampNeg) else (-1, σ)
theorem c_MO_build (l : Launch) (G : x_G) (ad : Nat → Nat) (σ : Sg) (wk : Nat → Int64) (ch : Nat → Bool) (x st p0 y : Int32) (hok : gOk σ) : Met l y_MO_build (x_ws y_MO_build b_MO_build 5 (some .int)) (x_rm 4 0 0) (x_P G [.ref (ad 0), .int x, .int st, .int p0, .int y] (MO G ad σ wk ch)) (x_Q (ME G ad (bldS σ x st p0 y))) 0 0 (mA ad) := by
  refine x_wI (by decide +kernel) (Nat.le_of_ble_eq_true rfl) (fun p e s m args below meth c F hK hP ls hl Q hret => ?_)
  have hl : lv_has ls 5 [(0, .ref (ad 0)), (1, .int x), (2, .int st), (3, .int p0), (4, .int y)] := hl
  have hS : va_S (mA ad) s.heap s.heap [] := va_S.rf
  have hO := hP.1
  have hn40 := hok.2.1
  have k38 : bldS σ x st p0 y = (-1, σ) → ∀ ls : Array Slot, lv_has ls 5 [(0, .ref (ad 0)), (1, .int x), (2, .int st), (3, .int p0), (4, .int y)] → W p l e (x_rm 4 0 0) s m args below meth c s.heap [] 0 0 Q (F0 m 38 ls []) := by
    intro hb ls hl
    refine lv_iconst (v := (-1)) F.1 F.2.1 d_MO_build_38 (by decide) ?_
    exact hret _ _ _ _ _ _ _ d_MO_build_39 (by rw [hb]; exact ⟨rfl, ⟨_, _, hP⟩, hS.off⟩) hS.2.2 (Nat.le_refl _) (Nat.le_refl _)
  refine lv_aload_n F.1 F.2.1 d_MO_build_0 rfl (lv_at hl 0 rfl) ?_
  refine lv_iconst (v := 0) F.1 F.2.1 d_MO_build_1 (by decide) ?_
  refine lv_iload_n F.1 F.2.1 d_MO_build_2 rfl (lv_at hl 1 rfl) ?_
  refine x_rd (x_V (n := 2) (As := [.int 0, .int x]) F (c_MO_holding l G ad σ wk ch 0 x (by decide) hok) ok_MO_holding k508 ⟨Nat.le_of_ble_eq_true rfl, Nat.le_of_ble_eq_true rfl⟩ rfl rfl hK (x_rcv hK hO rfl) (hP) rfl hl.1 rfl (Nat.le_of_ble_eq_true rfl) d_MO_build_3 ⟨Nat.le_of_ble_eq_true rfl, Nat.le_of_ble_eq_true rfl⟩) ?_
  refine x_beq (tgt := 38) F d_MO_build_6 (by decide) (fun c6 => ?_) (fun c6 => ?_)
  · exact k38 (by unfold bldS; rw [if_neg (by rw [c6]; decide)]) ls hl
  · have hno : tStep (gt σ x.toNatClampNeg) st p0 y = none → bldS σ x st p0 y = (-1, σ) := fun h => by unfold bldS; rw [if_pos c6, h]
    refine lv_iload_n F.1 F.2.1 d_MO_build_9 rfl (lv_at hl 2 rfl) ?_
    refine lv_if_lt (tgt := 38) F.1 F.2.1 d_MO_build_10 (by decide) (fun c10 => ?_) (fun c10 => ?_)
    · exact k38 (hno (tStep_none (by rintro ⟨-, rfl | rfl | rfl | ⟨rfl | rfl, -⟩⟩ <;> exact absurd c10 (by decide)))) ls hl
    · refine lv_iload_n F.1 F.2.1 d_MO_build_13 rfl (lv_at hl 2 rfl) ?_
      refine lv_iconst (v := 4) F.1 F.2.1 d_MO_build_14 (by decide) ?_
      refine lv_icmp_gt (tgt := 38) F.1 F.2.1 d_MO_build_15 (by decide) (fun c15 => ?_) (fun c15 => ?_)
      · exact k38 (hno (tStep_none (by rintro ⟨-, rfl | rfl | rfl | ⟨rfl | rfl, -⟩⟩ <;> exact absurd c15 (by decide)))) ls hl
      · have hst := st_in c10 c15
        refine lv_iload_n F.1 F.2.1 d_MO_build_18 rfl (lv_at hl 3 rfl) ?_
        refine x_rd (x_S (n := 1) (As := [.int p0]) F (c_MO_legal l G p0) ok_MO_legal k516 ⟨Nat.le_of_ble_eq_true rfl, Nat.le_of_ble_eq_true rfl⟩ rfl rfl hK (trivial) rfl hl.1 rfl (Nat.le_of_ble_eq_true rfl) d_MO_build_19 ⟨Nat.le_of_ble_eq_true rfl, Nat.le_of_ble_eq_true rfl⟩) ?_
        refine x_beq (tgt := 38) F d_MO_build_22 (by decide) (fun c22 => ?_) (fun c22 => ?_)
        · exact k38 (hno (tStep_none (by rintro ⟨h, -⟩; rw [mo_pj_legal, h] at c22; cases c22))) ls hl
        · rw [mo_pj_legal] at c22
          have k40 : (st = 0 ∨ st = 1 ∨ st = 2 ∨ ((st = 3 ∨ st = 4) ∧ pj_legal y = true)) → ∀ ls : Array Slot, lv_has ls 5 [(0, .ref (ad 0)), (1, .int x), (2, .int st), (3, .int p0), (4, .int y)] → W p l e (x_rm 4 0 0) s m args below meth c s.heap [] 0 0 Q (F0 m 40 ls []) := by
            intro hs4 ls hl
            unfold hoB at c6
            rw [Bool.and_eq_true] at c6
            obtain ⟨i, hi, rfl⟩ := isB_of hn40 c6.1
            have hci : (nI i).toNatClampNeg = i := nI_clamp (by omega)
            obtain ⟨z, hz, rfl, lz⟩ := legal_of c22
            have hho : hoB σ 0 (nI i) = true := by unfold hoB; rw [Bool.and_eq_true]; exact c6
            unfold bldS at hret
            rw [if_pos hho, hci] at hret
            refine lv_aload_n F.1 F.2.1 d_MO_build_40 rfl (lv_at hl 0 rfl) ?_
            refine lv_iload_n F.1 F.2.1 d_MO_build_41 rfl (lv_at hl 1 rfl) ?_
            refine x_wr (x_V (n := 1) (As := [.int (nI i)]) F (c_MO_load l G ad σ wk ch i (by omega)) ok_MO_load k519 ⟨Nat.le_of_ble_eq_true rfl, Nat.le_of_ble_eq_true rfl⟩ rfl rfl hK (x_rcv hK hO rfl) (hP) rfl hl.1 rfl (Nat.le_of_ble_eq_true rfl) d_MO_build_42 ⟨Nat.le_of_ble_eq_true rfl, Nat.le_of_ble_eq_true rfl⟩) hS (fun _ h => h) (fun _ _ h => h.2.2) (fun v H1 locs hpost hS => ?_)
            obtain ⟨rfl, hP1, ho⟩ := hpost
            have hO := hP1.1
            refine lv_aload_n F.1 F.2.1 d_MO_build_45 rfl (lv_at hl 0 rfl) ?_
            refine lv_iload_n F.1 F.2.1 d_MO_build_46 rfl (lv_at hl 2 rfl) ?_
            refine lv_iload_n F.1 F.2.1 d_MO_build_47 rfl (lv_at hl 3 rfl) ?_
            refine lv_iload F.1 F.2.1 d_MO_build_48 (lv_at hl 4 rfl) ?_
            refine x_wr (x_V (n := 3) (As := [.int st, .int (nI z), .int y]) F (c_MO_change l G ad σ (gt σ i) ch st y z hz lz hs4 (hok.2.2.2.1 i hi)) ok_MO_change k523 ⟨Nat.le_of_ble_eq_true rfl, Nat.le_of_ble_eq_true rfl⟩ rfl rfl hK (x_rcv hK hO rfl) (hP1) rfl hl.1 rfl (Nat.le_of_ble_eq_true rfl) d_MO_build_50 ⟨Nat.le_of_ble_eq_true rfl, Nat.le_of_ble_eq_true rfl⟩) hS (fun _ h => h) (fun _ _ h => h.2.2) (fun v H2 locs hpost hS => ?_)
            obtain ⟨rfl, hP2, ho⟩ := hpost
            cases hgc : tStep (gt σ i) st (nI z) y with
            | none =>
              rw [hgc] at hP2
              simp only [hgc] at hret
              refine x_beq (tgt := 64) F d_MO_build_53 (by decide) (fun _ => ?_) (fun zq => absurd zq ((by decide)))
              refine lv_iconst (v := (-1)) F.1 F.2.1 d_MO_build_64 (by decide) ?_
              exact hret _ _ _ _ _ _ _ d_MO_build_65 ⟨rfl, ⟨_, _, hP2⟩, hS.off⟩ hS.2.2 (Nat.le_refl _) (Nat.le_refl _)
            | some g =>
              rw [hgc] at hP2
              simp only [hgc] at hret
              have hO := hP2.1
              refine x_beq (tgt := 64) F d_MO_build_53 (by decide) (fun zq => absurd zq (by simp)) (fun _ => ?_)
              refine lv_aload_n F.1 F.2.1 d_MO_build_56 rfl (lv_at hl 0 rfl) ?_
              refine lv_iload_n F.1 F.2.1 d_MO_build_57 rfl (lv_at hl 1 rfl) ?_
              refine x_wr (x_V (n := 1) (As := [.int (nI i)]) F (c_MO_image l G ad σ g ch i hi hok.1 hn40 hok.2.2.1) ok_MO_image k564 ⟨Nat.le_of_ble_eq_true rfl, Nat.le_of_ble_eq_true rfl⟩ rfl rfl hK (x_rcv hK hO rfl) (hP2) rfl hl.1 rfl (Nat.le_of_ble_eq_true rfl) d_MO_build_58 ⟨Nat.le_of_ble_eq_true rfl, Nat.le_of_ble_eq_true rfl⟩) hS (fun _ h => h) (fun _ _ h => h.2.2) (fun v H3 locs hpost hS => ?_)
              obtain ⟨rfl, hP3, ho⟩ := hpost
              refine lv_goto (tgt := 65) F.1 F.2.1 d_MO_build_61 (by decide) ?_
              exact hret _ _ _ _ _ _ _ d_MO_build_65 ⟨rfl, ⟨_, _, hP3⟩, hS.off⟩ hS.2.2 (Nat.le_refl _) (Nat.le_refl _)
          refine lv_iload_n F.1 F.2.1 d_MO_build_25 rfl (lv_at hl 2 rfl) ?_
          refine lv_iconst (v := 2) F.1 F.2.1 d_MO_build_26 (by decide) ?_
          refine lv_icmp_le (tgt := 40) F.1 F.2.1 d_MO_build_27 (by decide) (fun c27 => ?_) (fun c27 => ?_)
          · exact k40 (by rcases hst with h | h | h | h | h; exact Or.inl h; exact Or.inr (Or.inl h); exact Or.inr (Or.inr (Or.inl h)); rw [h] at c27; exact absurd c27 (by decide); rw [h] at c27; exact absurd c27 (by decide)) ls hl
          · refine lv_iload F.1 F.2.1 d_MO_build_30 (lv_at hl 4 rfl) ?_
            refine x_rd (x_S (n := 1) (As := [.int y]) F (c_MO_legal l G y) ok_MO_legal k516 ⟨Nat.le_of_ble_eq_true rfl, Nat.le_of_ble_eq_true rfl⟩ rfl rfl hK (trivial) rfl hl.1 rfl (Nat.le_of_ble_eq_true rfl) d_MO_build_32 ⟨Nat.le_of_ble_eq_true rfl, Nat.le_of_ble_eq_true rfl⟩) ?_
            refine x_bne (tgt := 40) F d_MO_build_35 (by decide) (fun c35 => ?_) (fun c35 => ?_)
            · rw [mo_pj_legal] at c35
              exact k40 (by rcases hst with h | h | h | h | h; exact Or.inl h; exact Or.inr (Or.inl h); exact Or.inr (Or.inr (Or.inl h)); exact Or.inr (Or.inr (Or.inr ⟨Or.inl h, c35⟩)); exact Or.inr (Or.inr (Or.inr ⟨Or.inr h, c35⟩))) ls hl
            · rw [mo_pj_legal] at c35
              exact k38 (hno (tStep_none (by rintro ⟨-, rfl | rfl | rfl | ⟨-, h⟩⟩; exact c27 (by decide); exact c27 (by decide); exact c27 (by decide); rw [c35] at h; cases h))) ls hl
def fltS (σ : Sg) (x : Int32) : Int32 × Sg := if hoB σ 0 x = true then imgS σ (gt σ x.toNatClampNeg) 0 else (-1, σ)
theorem c_MO_flatten (l : Launch) (G : x_G) (ad : Nat → Nat) (σ : Sg) (wk : Nat → Int64) (ch : Nat → Bool) (x : Int32) (hok : gOk σ) : Met l y_MO_flatten (x_ws y_MO_flatten b_MO_flatten 2 (some .int)) (x_rm 2 0 0) (x_P G [.ref (ad 0), .int x] (MO G ad σ wk ch)) (x_Q (ME G ad (fltS σ x))) 0 0 (mA ad) := by
  refine x_wI (by decide +kernel) (Nat.le_of_ble_eq_true rfl) (fun p e s m args below meth c F hK hP ls hl Q hret => ?_)
  have hl : lv_has ls 2 [(0, .ref (ad 0)), (1, .int x)] := hl
  have hS : va_S (mA ad) s.heap s.heap [] := va_S.rf
  have hO := hP.1
  have hn40 := hok.2.1
  refine lv_aload_n F.1 F.2.1 d_MO_flatten_0 rfl (lv_at hl 0 rfl) ?_
  refine lv_iconst (v := 0) F.1 F.2.1 d_MO_flatten_1 (by decide) ?_
  refine lv_iload_n F.1 F.2.1 d_MO_flatten_2 rfl (lv_at hl 1 rfl) ?_
  refine x_rd (x_V (n := 2) (As := [.int 0, .int x]) F (c_MO_holding l G ad σ wk ch 0 x (by decide) hok) ok_MO_holding k508 ⟨Nat.le_of_ble_eq_true rfl, Nat.le_of_ble_eq_true rfl⟩ rfl rfl hK (x_rcv hK hO rfl) (hP) rfl hl.1 rfl (Nat.le_of_ble_eq_true rfl) d_MO_flatten_3 ⟨Nat.le_of_ble_eq_true rfl, Nat.le_of_ble_eq_true rfl⟩) ?_
  refine x_bne (tgt := 11) F d_MO_flatten_6 (by decide) (fun c6 => ?_) (fun c6 => ?_)
  · unfold fltS at hret
    rw [if_pos c6] at hret
    unfold hoB at c6
    rw [Bool.and_eq_true] at c6
    obtain ⟨i, hi, rfl⟩ := isB_of hn40 c6.1
    rw [show (nI i).toNatClampNeg = i from nI_clamp (by omega)] at hret
    refine lv_aload_n F.1 F.2.1 d_MO_flatten_11 rfl (lv_at hl 0 rfl) ?_
    refine lv_iload_n F.1 F.2.1 d_MO_flatten_12 rfl (lv_at hl 1 rfl) ?_
    refine x_wr (x_V (n := 1) (As := [.int (nI i)]) F (c_MO_load l G ad σ wk ch i (by omega)) ok_MO_load k519 ⟨Nat.le_of_ble_eq_true rfl, Nat.le_of_ble_eq_true rfl⟩ rfl rfl hK (x_rcv hK hO rfl) (hP) rfl hl.1 rfl (Nat.le_of_ble_eq_true rfl) d_MO_flatten_13 ⟨Nat.le_of_ble_eq_true rfl, Nat.le_of_ble_eq_true rfl⟩) hS (fun _ h => h) (fun _ _ h => h.2.2) (fun v H4 locs hpost hS => ?_)
    obtain ⟨rfl, hP1, ho⟩ := hpost
    have hO := hP1.1
    refine lv_aload_n F.1 F.2.1 d_MO_flatten_16 rfl (lv_at hl 0 rfl) ?_
    refine lv_iconst (v := 0) F.1 F.2.1 d_MO_flatten_17 (by decide) ?_
    refine x_wr (x_V (n := 1) (As := [.int 0]) F (c_MO_image l G ad σ (gt σ i) ch 0 hok.1 hok.1 hn40 hok.2.2.1) ok_MO_image k564 ⟨Nat.le_of_ble_eq_true rfl, Nat.le_of_ble_eq_true rfl⟩ rfl rfl hK (x_rcv hK hO rfl) (hP1) rfl hl.1 rfl (Nat.le_of_ble_eq_true rfl) d_MO_flatten_18 ⟨Nat.le_of_ble_eq_true rfl, Nat.le_of_ble_eq_true rfl⟩) hS (fun _ h => h) (fun _ _ h => h.2.2) (fun v H5 locs hpost hS => ?_)
    obtain ⟨rfl, hP3, ho⟩ := hpost
    exact hret _ _ _ _ _ _ _ d_MO_flatten_21 ⟨rfl, ⟨_, _, hP3⟩, hS.off⟩ hS.2.2 (Nat.le_refl _) (Nat.le_refl _)
  · refine lv_iconst (v := (-1)) F.1 F.2.1 d_MO_flatten_9 (by decide) ?_
    exact hret _ _ _ _ _ _ _ d_MO_flatten_10 (by unfold fltS; rw [if_neg (by rw [c6]; decide)]; exact ⟨rfl, ⟨_, _, hP⟩, hS.off⟩) hS.2.2 (Nat.le_refl _) (Nat.le_refl _)
/-! tags -/
def tSet (g : Nat → Nat → Nat) (s t v : Nat) : Nat → Nat → Nat := fun s' t' => if s' = s ∧ t' = t then v else g s' t'
def tgS (σ : Sg) (s t v : Nat) : Sg := (gn σ, gp σ, gt σ, gh σ, tSet (gg σ) s t v, ga σ)
theorem mG_set (σ : Sg) {s t : Nat} (ht : t < 6) (v : Nat) : upd (mG σ) (6 * s + t) (nI v) = mG (tgS σ s t v) := funext fun k => by
  unfold upd mG
  show _ = nI (tSet (gg σ) s t v (k / 6) (k % 6))
  unfold tSet
  by_cases h : k = 6 * s + t
  · rw [if_pos h, if_pos (by omega)]
  · rw [if_neg h, if_neg (by omega)]
theorem badTag_n {s t : Nat} (hs : s < 2) (ht : t < 6) : mo_badTag (nI s) (nI t) = false := by
  have : ∀ s, s < 2 → ∀ t, t < 6 → mo_badTag (nI s) (nI t) = false := by decide +kernel
  exact this s hs t ht
theorem badTag_of {x y : Int32} (h : mo_badTag x y = false) : ∃ s t : Nat, s < 2 ∧ t < 6 ∧ x = nI s ∧ y = nI t := by
  unfold mo_badTag at h
  simp only [Bool.or_eq_false_iff, decide_eq_false_iff_not, Bool.not_eq_false', decide_eq_true_eq] at h
  obtain ⟨⟨⟨h1, h2⟩, h3⟩, h4⟩ := h
  obtain ⟨s, hs, rfl⟩ := nI_of2 (M := 1) (n := 1) rfl h1 (Int32.not_lt.mp h2)
  obtain ⟨t, ht, rfl⟩ := nI_of2 (M := 5) (n := 5) rfl h3 h4
  exact ⟨s, t, by omega, by omega, rfl, rfl⟩
def tagS (σ : Sg) (x y z : Int32) : Int32 × Sg := if mo_badTag x y = true then (-1, σ) else if hoB σ x.toNatClampNeg z = true then (nI (gg σ x.toNatClampNeg y.toNatClampNeg), tgS σ x.toNatClampNeg y.toNatClampNeg z.toNatClampNeg) else (-1, σ)
theorem c_MO_tag (l : Launch) (G : x_G) (ad : Nat → Nat) (σ : Sg) (wk : Nat → Int64) (ch : Nat → Bool) (x y z : Int32) (hok : gOk σ) : Met l y_MO_tag (x_ws y_MO_tag b_MO_tag 5 (some .int)) (x_rm 2 0 0) (x_P G [.ref (ad 0), .int x, .int y, .int z] (MO G ad σ wk ch)) (x_Q (ME G ad (tagS σ x y z))) 0 0 (mA ad) := by
  refine x_wI (by decide +kernel) (Nat.le_of_ble_eq_true rfl) (fun p e s m args below meth c F hK hP ls hl Q hret => ?_)
  have hl : lv_has ls 5 [(0, .ref (ad 0)), (1, .int x), (2, .int y), (3, .int z)] := hl
  have hS : va_S (mA ad) s.heap s.heap [] := va_S.rf
  have hn40 := hok.2.1
  obtain ⟨hO, hp, ht, hh, hg, hw, hc, hj⟩ := id hP
  refine lv_iload_n F.1 F.2.1 d_MO_tag_0 rfl (lv_at hl 1 rfl) ?_
  refine lv_iload_n F.1 F.2.1 d_MO_tag_1 rfl (lv_at hl 2 rfl) ?_
  refine x_rd (x_S (n := 2) (As := [.int x, .int y]) F (c_MO_badTag l G x y) ok_MO_badTag k584 ⟨Nat.le_of_ble_eq_true rfl, Nat.le_of_ble_eq_true rfl⟩ rfl rfl hK (trivial) rfl hl.1 rfl (Nat.le_of_ble_eq_true rfl) d_MO_tag_2 ⟨Nat.le_of_ble_eq_true rfl, Nat.le_of_ble_eq_true rfl⟩) ?_
  refine x_bne (tgt := 17) F d_MO_tag_5 (by decide) (fun c5 => ?_) (fun c5 => ?_)
  · refine lv_iconst (v := (-1)) F.1 F.2.1 d_MO_tag_17 (by decide) ?_
    exact hret _ _ _ _ _ _ _ d_MO_tag_18 (by unfold tagS; rw [if_pos c5]; exact ⟨rfl, ⟨_, _, hP⟩, hS.off⟩) hS.2.2 (Nat.le_refl _) (Nat.le_refl _)
  · unfold tagS at hret
    rw [if_neg (by rw [c5]; decide)] at hret
    obtain ⟨s0, t0, hs0, ht0, rfl, rfl⟩ := badTag_of c5
    rw [show (nI s0).toNatClampNeg = s0 from nI_clamp (by omega), show (nI t0).toNatClampNeg = t0 from nI_clamp (by omega)] at hret
    refine lv_aload_n F.1 F.2.1 d_MO_tag_8 rfl (lv_at hl 0 rfl) ?_
    refine lv_iload_n F.1 F.2.1 d_MO_tag_9 rfl (lv_at hl 1 rfl) ?_
    refine lv_iload_n F.1 F.2.1 d_MO_tag_10 rfl (lv_at hl 3 rfl) ?_
    refine x_rd (x_V (n := 2) (As := [.int (nI s0), .int z]) F (c_MO_holding l G ad σ wk ch s0 z hs0 hok) ok_MO_holding k508 ⟨Nat.le_of_ble_eq_true rfl, Nat.le_of_ble_eq_true rfl⟩ rfl rfl hK (x_rcv hK hO rfl) (hP) rfl hl.1 rfl (Nat.le_of_ble_eq_true rfl) d_MO_tag_11 ⟨Nat.le_of_ble_eq_true rfl, Nat.le_of_ble_eq_true rfl⟩) ?_
    refine x_bne (tgt := 19) F d_MO_tag_14 (by decide) (fun c14 => ?_) (fun c14 => ?_)
    · rw [if_pos c14] at hret
      unfold hoB at c14
      rw [Bool.and_eq_true] at c14
      obtain ⟨i, hi, rfl⟩ := isB_of hn40 c14.1
      rw [show (nI i).toNatClampNeg = i from nI_clamp (by omega)] at hret
      refine lv_aload_n F.1 F.2.1 d_MO_tag_19 rfl (lv_at hl 0 rfl) ?_
      refine x_get F hK hO rfl i_MO 4 (by decide) k483 rfl rfl d_MO_tag_20 ?_
      refine lv_bipush (v := 6) F.1 F.2.1 d_MO_tag_23 (by decide) ?_
      refine lv_iload_n F.1 F.2.1 d_MO_tag_25 rfl (lv_at hl 1 rfl) ?_
      refine lv_imul F.1 F.2.1 d_MO_tag_26 ?_
      refine lv_iload_n F.1 F.2.1 d_MO_tag_27 rfl (lv_at hl 2 rfl) ?_
      refine lv_iadd F.1 F.2.1 d_MO_tag_28 ?_
      rw [e6]
      refine x_ialdN F hK hg (by decide) (by omega) d_MO_tag_29 ?_
      rw [mG_at ht0]
      refine lv_istore (lv' := [(4, .int (nI (gg σ s0 t0))), (0, .ref (ad 0)), (1, .int (nI s0)), (2, .int (nI t0)), (3, .int (nI i))]) F.1 F.2.1 d_MO_tag_30 hl (by decide) rfl (fun ls hl => ?_)
      refine lv_aload_n F.1 F.2.1 d_MO_tag_32 rfl (lv_at hl 1 rfl) ?_
      refine x_get F hK hO rfl i_MO 4 (by decide) k483 rfl rfl d_MO_tag_33 ?_
      refine lv_bipush (v := 6) F.1 F.2.1 d_MO_tag_36 (by decide) ?_
      refine lv_iload_n F.1 F.2.1 d_MO_tag_38 rfl (lv_at hl 2 rfl) ?_
      refine lv_imul F.1 F.2.1 d_MO_tag_39 ?_
      refine lv_iload_n F.1 F.2.1 d_MO_tag_40 rfl (lv_at hl 3 rfl) ?_
      refine lv_iadd F.1 F.2.1 d_MO_tag_41 ?_
      rw [e6]
      refine lv_iload_n F.1 F.2.1 d_MO_tag_42 rfl (lv_at hl 4 rfl) ?_
      refine x_iastN F hK hg (by decide) (by omega) hS ⟨4, by omega, rfl⟩ d_MO_tag_43 (fun H6 locs hg hz6 ho6 hS => ?_)
      have hO := va_at.kept hO (ho6 _ (hj.ne 0 4))
      have hp := va_at.kept hp (ho6 _ (hj.ne 1 4))
      have ht := va_at.kept ht (ho6 _ (hj.ne 2 4))
      have hh := va_at.kept hh (ho6 _ (hj.ne 3 4))
      have hw := va_at.kept hw (ho6 _ (hj.ne 5 4))
      have hc := va_at.kept hc (ho6 _ (hj.ne 6 4))
      refine lv_iload F.1 F.2.1 d_MO_tag_44 (lv_at hl 0 rfl) ?_
      exact hret _ _ _ _ _ _ _ d_MO_tag_46 ⟨rfl, ⟨wk, ch, hO, hp, ht, hh, (by rw [← mG_set σ ht0]; exact hg), hw, hc, hj⟩, hS.off⟩ hS.2.2 (Nat.le_refl _) (Nat.le_refl _)
    · refine lv_iconst (v := (-1)) F.1 F.2.1 d_MO_tag_17 (by decide) ?_
      exact hret _ _ _ _ _ _ _ d_MO_tag_18 (by rw [if_neg (by rw [c14]; decide)]; exact ⟨rfl, ⟨_, _, hP⟩, hS.off⟩) hS.2.2 (Nat.le_refl _) (Nat.le_refl _)
def untS (σ : Sg) (x y : Int32) : Int32 × Sg := if mo_badTag x y = true ∨ gg σ x.toNatClampNeg y.toNatClampNeg = 40 then (-1, σ) else (nI (gg σ x.toNatClampNeg y.toNatClampNeg), tgS σ x.toNatClampNeg y.toNatClampNeg 40)
theorem gg_lt {σ : Sg} (hok : gOk σ) {s t : Nat} (hs : s < 2) (ht : t < 6) : gg σ s t ≤ 40 := by
  have := hok.2.1
  rcases hok.2.2.2.2.2.2.2 s hs t ht with h | h
  · omega
  · omega
theorem c_MO_untag (l : Launch) (G : x_G) (ad : Nat → Nat) (σ : Sg) (wk : Nat → Int64) (ch : Nat → Bool) (x y : Int32) (hok : gOk σ) : Met l y_MO_untag (x_ws y_MO_untag b_MO_untag 4 (some .int)) (x_rm 1 0 0) (x_P G [.ref (ad 0), .int x, .int y] (MO G ad σ wk ch)) (x_Q (ME G ad (untS σ x y))) 0 0 (mA ad) := by
  refine x_wI (by decide +kernel) (Nat.le_of_ble_eq_true rfl) (fun p e s m args below meth c F hK hP ls hl Q hret => ?_)
  have hl : lv_has ls 4 [(0, .ref (ad 0)), (1, .int x), (2, .int y)] := hl
  have hS : va_S (mA ad) s.heap s.heap [] := va_S.rf
  have hn40 := hok.2.1
  obtain ⟨hO, hp, ht, hh, hg, hw, hc, hj⟩ := id hP
  refine lv_iload_n F.1 F.2.1 d_MO_untag_0 rfl (lv_at hl 1 rfl) ?_
  refine lv_iload_n F.1 F.2.1 d_MO_untag_1 rfl (lv_at hl 2 rfl) ?_
  refine x_rd (x_S (n := 2) (As := [.int x, .int y]) F (c_MO_badTag l G x y) ok_MO_badTag k584 ⟨Nat.le_of_ble_eq_true rfl, Nat.le_of_ble_eq_true rfl⟩ rfl rfl hK (trivial) rfl hl.1 rfl (Nat.le_of_ble_eq_true rfl) d_MO_untag_2 ⟨Nat.le_of_ble_eq_true rfl, Nat.le_of_ble_eq_true rfl⟩) ?_
  refine x_bne (tgt := 24) F d_MO_untag_5 (by decide) (fun c5 => ?_) (fun c5 => ?_)
  · refine lv_iconst (v := (-1)) F.1 F.2.1 d_MO_untag_24 (by decide) ?_
    exact hret _ _ _ _ _ _ _ d_MO_untag_25 (by unfold untS; rw [if_pos (Or.inl c5)]; exact ⟨rfl, ⟨_, _, hP⟩, hS.off⟩) hS.2.2 (Nat.le_refl _) (Nat.le_refl _)
  · unfold untS at hret
    obtain ⟨s0, t0, hs0, ht0, rfl, rfl⟩ := badTag_of c5
    rw [show (nI s0).toNatClampNeg = s0 from nI_clamp (by omega), show (nI t0).toNatClampNeg = t0 from nI_clamp (by omega)] at hret
    have hgl := gg_lt hok hs0 ht0
    refine lv_aload_n F.1 F.2.1 d_MO_untag_8 rfl (lv_at hl 0 rfl) ?_
    refine x_get F hK hO rfl i_MO 4 (by decide) k483 rfl rfl d_MO_untag_9 ?_
    refine lv_bipush (v := 6) F.1 F.2.1 d_MO_untag_12 (by decide) ?_
    refine lv_iload_n F.1 F.2.1 d_MO_untag_14 rfl (lv_at hl 1 rfl) ?_
    refine lv_imul F.1 F.2.1 d_MO_untag_15 ?_
    refine lv_iload_n F.1 F.2.1 d_MO_untag_16 rfl (lv_at hl 2 rfl) ?_
    refine lv_iadd F.1 F.2.1 d_MO_untag_17 ?_
    rw [e6]
    refine x_ialdN F hK hg (by decide) (by omega) d_MO_untag_18 ?_
    rw [mG_at ht0]
    refine lv_bipush (v := 40) F.1 F.2.1 d_MO_untag_19 (by decide) ?_
    refine lv_icmp_ne (tgt := 26) F.1 F.2.1 d_MO_untag_21 (by decide) (fun c21 => ?_) (fun c21 => ?_)
    · have c21 := mt (pN_eqI (a := (gg σ s0 t0)) (b := 40) rfl rfl (by omega) (by omega)).mpr c21
      rw [if_neg (by rintro (h | h); rw [c5] at h; cases h; exact c21 h)] at hret
      refine lv_aload_n F.1 F.2.1 d_MO_untag_26 rfl (lv_at hl 0 rfl) ?_
      refine x_get F hK hO rfl i_MO 4 (by decide) k483 rfl rfl d_MO_untag_27 ?_
      refine lv_bipush (v := 6) F.1 F.2.1 d_MO_untag_30 (by decide) ?_
      refine lv_iload_n F.1 F.2.1 d_MO_untag_32 rfl (lv_at hl 1 rfl) ?_
      refine lv_imul F.1 F.2.1 d_MO_untag_33 ?_
      refine lv_iload_n F.1 F.2.1 d_MO_untag_34 rfl (lv_at hl 2 rfl) ?_
      refine lv_iadd F.1 F.2.1 d_MO_untag_35 ?_
      rw [e6]
      refine x_ialdN F hK hg (by decide) (by omega) d_MO_untag_36 ?_
      rw [mG_at ht0]
      refine lv_istore_n (lv' := [(3, .int (nI (gg σ s0 t0))), (0, .ref (ad 0)), (1, .int (nI s0)), (2, .int (nI t0))]) F.1 F.2.1 d_MO_untag_37 rfl hl (by decide) rfl (fun ls hl => ?_)
      refine lv_aload_n F.1 F.2.1 d_MO_untag_38 rfl (lv_at hl 1 rfl) ?_
      refine x_get F hK hO rfl i_MO 4 (by decide) k483 rfl rfl d_MO_untag_39 ?_
      refine lv_bipush (v := 6) F.1 F.2.1 d_MO_untag_42 (by decide) ?_
      refine lv_iload_n F.1 F.2.1 d_MO_untag_44 rfl (lv_at hl 2 rfl) ?_
      refine lv_imul F.1 F.2.1 d_MO_untag_45 ?_
      refine lv_iload_n F.1 F.2.1 d_MO_untag_46 rfl (lv_at hl 3 rfl) ?_
      refine lv_iadd F.1 F.2.1 d_MO_untag_47 ?_
      rw [e6]
      refine lv_bipush (v := 40) F.1 F.2.1 d_MO_untag_48 (by decide) ?_
      refine x_iastN F hK hg (by decide) (by omega) hS ⟨4, by omega, rfl⟩ d_MO_untag_50 (fun H7 locs hg hz7 ho7 hS => ?_)
      have hO := va_at.kept hO (ho7 _ (hj.ne 0 4))
      have hp := va_at.kept hp (ho7 _ (hj.ne 1 4))
      have ht := va_at.kept ht (ho7 _ (hj.ne 2 4))
      have hh := va_at.kept hh (ho7 _ (hj.ne 3 4))
      have hw := va_at.kept hw (ho7 _ (hj.ne 5 4))
      have hc := va_at.kept hc (ho7 _ (hj.ne 6 4))
      refine lv_iload_n F.1 F.2.1 d_MO_untag_51 rfl (lv_at hl 0 rfl) ?_
      exact hret _ _ _ _ _ _ _ d_MO_untag_52 ⟨rfl, ⟨wk, ch, hO, hp, ht, hh, (by rw [← mG_set σ ht0]; exact hg), hw, hc, hj⟩, hS.off⟩ hS.2.2 (Nat.le_refl _) (Nat.le_refl _)
    · have c21 := (pN_eqI (a := (gg σ s0 t0)) (b := 40) rfl rfl (by omega) (by omega)).mp c21
      refine lv_iconst (v := (-1)) F.1 F.2.1 d_MO_untag_24 (by decide) ?_
      exact hret _ _ _ _ _ _ _ d_MO_untag_25 (by rw [if_pos (Or.inr c21)]; exact ⟨rfl, ⟨_, _, hP⟩, hS.off⟩) hS.2.2 (Nat.le_refl _) (Nat.le_refl _)
def namS (σ : Sg) (x y : Int32) : Int32 := if mo_badTag x y = true then -1 else nI (gg σ x.toNatClampNeg y.toNatClampNeg)
theorem c_MO_named (l : Launch) (G : x_G) (ad : Nat → Nat) (σ : Sg) (wk : Nat → Int64) (ch : Nat → Bool) (x y : Int32) : Met l y_MO_named (x_ws y_MO_named b_MO_named 3 (some .int)) (x_rm 1 0 0) (x_P G [.ref (ad 0), .int x, .int y] (MO G ad σ wk ch)) (k2_QcV (.int (namS σ x y))) 0 0 (fun _ => False) := by
  refine x_mI (by decide +kernel) (Nat.le_of_ble_eq_true rfl) (fun p e s m args below meth c F hK hP ls hl Q hret => ?_)
  have hl : lv_has ls 3 [(0, .ref (ad 0)), (1, .int x), (2, .int y)] := hl
  obtain ⟨hO, hp, ht, hh, hg, hw, hc, hj⟩ := id hP
  refine lv_iload_n F.1 F.2.1 d_MO_named_0 rfl (lv_at hl 1 rfl) ?_
  refine lv_iload_n F.1 F.2.1 d_MO_named_1 rfl (lv_at hl 2 rfl) ?_
  refine x_rd (x_S (n := 2) (As := [.int x, .int y]) F (c_MO_badTag l G x y) ok_MO_badTag k584 ⟨Nat.le_of_ble_eq_true rfl, Nat.le_of_ble_eq_true rfl⟩ rfl rfl hK (trivial) rfl hl.1 rfl (Nat.le_of_ble_eq_true rfl) d_MO_named_2 ⟨Nat.le_of_ble_eq_true rfl, Nat.le_of_ble_eq_true rfl⟩) ?_
  refine x_beq (tgt := 12) F d_MO_named_5 (by decide) (fun c5 => ?_) (fun c5 => ?_)
  · obtain ⟨s0, t0, hs0, ht0, rfl, rfl⟩ := badTag_of c5
    refine lv_aload_n F.1 F.2.1 d_MO_named_12 rfl (lv_at hl 0 rfl) ?_
    refine x_get F hK hO rfl i_MO 4 (by decide) k483 rfl rfl d_MO_named_13 ?_
    refine lv_bipush (v := 6) F.1 F.2.1 d_MO_named_16 (by decide) ?_
    refine lv_iload_n F.1 F.2.1 d_MO_named_18 rfl (lv_at hl 1 rfl) ?_
    refine lv_imul F.1 F.2.1 d_MO_named_19 ?_
    refine lv_iload_n F.1 F.2.1 d_MO_named_20 rfl (lv_at hl 2 rfl) ?_
    refine lv_iadd F.1 F.2.1 d_MO_named_21 ?_
    rw [e6]
    refine x_ialdN F hK hg (by decide) (by omega) d_MO_named_22 ?_
    rw [mG_at ht0]
    exact hret _ _ _ d_MO_named_23 (by unfold namS; rw [if_neg (by rw [c5]; decide), show (nI s0).toNatClampNeg = s0 from nI_clamp (by omega), show (nI t0).toNatClampNeg = t0 from nI_clamp (by omega)])
  · refine lv_iconst (v := (-1)) F.1 F.2.1 d_MO_named_8 (by decide) ?_
    refine lv_goto (tgt := 23) F.1 F.2.1 d_MO_named_9 (by decide) ?_
    exact hret _ _ _ d_MO_named_23 (by unfold namS; rw [if_pos c5])
def hldS (σ : Sg) (x z : Int32) : Bool := (decide (x = 0) || decide (x = 1)) && hoB σ x.toNatClampNeg z
theorem st01 {x : Int32} (h1 : ¬ x < 0) (h2 : ¬ (1 : Int32) < x) : ∃ s : Nat, s < 2 ∧ x = nI s := by
  obtain ⟨s, hs, rfl⟩ := nI_of2 (M := 1) (n := 1) rfl h1 (Int32.not_lt.mp h2)
  exact ⟨s, by omega, rfl⟩
theorem st01_n : ∀ s : Nat, s < 2 → (decide (nI s = 0) || decide (nI s = 1)) = true := by decide +kernel
theorem c_MO_held (l : Launch) (G : x_G) (ad : Nat → Nat) (σ : Sg) (wk : Nat → Int64) (ch : Nat → Bool) (x z : Int32) (hok : gOk σ) : Met l y_MO_held (x_ws y_MO_held b_MO_held 3 (some .boolean)) (x_rm 2 0 0) (x_P G [.ref (ad 0), .int x, .int z] (MO G ad σ wk ch)) (k2_QcV (.int (x_b (hldS σ x z)))) 0 0 (fun _ => False) := by
  refine x_mZ (by decide +kernel) (Nat.le_of_ble_eq_true rfl) (fun p e s m args below meth c F hK hP ls hl Q hret => ?_)
  have hl : lv_has ls 3 [(0, .ref (ad 0)), (1, .int x), (2, .int z)] := hl
  have hO := hP.1
  refine lv_iload_n F.1 F.2.1 d_MO_held_0 rfl (lv_at hl 1 rfl) ?_
  refine lv_if_lt (tgt := 22) F.1 F.2.1 d_MO_held_1 (by decide) (fun c1 => ?_) (fun c1 => ?_)
  · refine lv_iconst (v := 0) F.1 F.2.1 d_MO_held_22 (by decide) ?_
    exact hret _ _ _ d_MO_held_23 (by unfold hldS; rw [decide_eq_false (by rintro rfl; exact absurd c1 (by decide)), decide_eq_false (by rintro rfl; exact absurd c1 (by decide))]; rfl)
  · refine lv_iload_n F.1 F.2.1 d_MO_held_4 rfl (lv_at hl 1 rfl) ?_
    refine lv_iconst (v := 1) F.1 F.2.1 d_MO_held_5 (by decide) ?_
    refine lv_icmp_gt (tgt := 22) F.1 F.2.1 d_MO_held_6 (by decide) (fun c6 => ?_) (fun c6 => ?_)
    · refine lv_iconst (v := 0) F.1 F.2.1 d_MO_held_22 (by decide) ?_
      exact hret _ _ _ d_MO_held_23 (by unfold hldS; rw [decide_eq_false (by rintro rfl; exact absurd c6 (by decide)), decide_eq_false (by rintro rfl; exact absurd c6 (by decide))]; rfl)
    · obtain ⟨s0, hs0, rfl⟩ := st01 c1 c6
      have hv : hldS σ (nI s0) z = hoB σ s0 z := by unfold hldS; rw [st01_n s0 hs0, show (nI s0).toNatClampNeg = s0 from nI_clamp (by omega)]; rfl
      refine lv_aload_n F.1 F.2.1 d_MO_held_9 rfl (lv_at hl 0 rfl) ?_
      refine lv_iload_n F.1 F.2.1 d_MO_held_10 rfl (lv_at hl 1 rfl) ?_
      refine lv_iload_n F.1 F.2.1 d_MO_held_11 rfl (lv_at hl 2 rfl) ?_
      refine x_rd (x_V (n := 2) (As := [.int (nI s0), .int z]) F (c_MO_holding l G ad σ wk ch s0 z hs0 hok) ok_MO_holding k508 ⟨Nat.le_of_ble_eq_true rfl, Nat.le_of_ble_eq_true rfl⟩ rfl rfl hK (x_rcv hK hO rfl) (hP) rfl hl.1 rfl (Nat.le_of_ble_eq_true rfl) d_MO_held_12 ⟨Nat.le_of_ble_eq_true rfl, Nat.le_of_ble_eq_true rfl⟩) ?_
      refine x_beq (tgt := 22) F d_MO_held_15 (by decide) (fun c15 => ?_) (fun c15 => ?_)
      · refine lv_iconst (v := 0) F.1 F.2.1 d_MO_held_22 (by decide) ?_
        exact hret _ _ _ d_MO_held_23 (by rw [hv, c15]; rfl)
      · refine lv_iconst (v := 1) F.1 F.2.1 d_MO_held_18 (by decide) ?_
        refine lv_goto (tgt := 23) F.1 F.2.1 d_MO_held_19 (by decide) ?_
        exact hret _ _ _ d_MO_held_23 (by rw [hv, c15]; rfl)
def rgB (y : Int32) : Bool := !decide (y < 0) && !decide (nI 125 ≤ y)
theorem rgB_n {k : Nat} (h : k < 125) : rgB (nI k) = true := by
  unfold rgB
  rw [decide_eq_false (nI_pos (by omega)), decide_eq_false (nI_ge h (by decide))]; rfl
theorem rg_of {y : Int32} (h1 : ¬ y < 0) (h2 : y ≤ 124) : ∃ k : Nat, k < 125 ∧ y = nI k := by
  obtain ⟨s, hs, rfl⟩ := nI_of2 (M := 124) (n := 124) rfl h1 h2
  exact ⟨s, by omega, rfl⟩
theorem rg_no {y : Int32} (h2 : ¬ y ≤ 124) : rgB y = false := by
  unfold rgB
  rw [decide_eq_true (show nI 125 ≤ y from ?_)]
  · simp
  · have h3 := Int32.not_le.mp h2
    rw [Int32.lt_iff_toInt_lt] at h3
    rw [Int32.le_iff_toInt_le, nI_toInt (by decide)]
    have : (124 : Int32).toInt = 124 := by decide
    omega
def lokS (σ : Sg) (x y : Int32) : Int64 := if (isB σ x && rgB y) = true then gt σ x.toNatClampNeg y.toNatClampNeg else wNON
theorem c_MO_look (l : Launch) (G : x_G) (ad : Nat → Nat) (σ : Sg) (wk : Nat → Int64) (ch : Nat → Bool) (x y : Int32) (hok : gOk σ) : Met l y_MO_look (x_ws y_MO_look b_MO_look 3 (some .long)) (x_rm 1 0 0) (x_P G [.ref (ad 0), .int x, .int y] (MO G ad σ wk ch)) (k2_QcV (.long (lokS σ x y))) 0 0 (fun _ => False) := by
  refine x_mL (by decide +kernel) (Nat.le_of_ble_eq_true rfl) (fun p e s m args below meth c F hK hP ls hl Q hret => ?_)
  have hl : lv_has ls 3 [(0, .ref (ad 0)), (1, .int x), (2, .int y)] := hl
  have hn40 := hok.2.1
  obtain ⟨hO, hp, ht, hh, hg, hw, hc, hj⟩ := id hP
  refine lv_aload_n F.1 F.2.1 d_MO_look_0 rfl (lv_at hl 0 rfl) ?_
  refine lv_iload_n F.1 F.2.1 d_MO_look_1 rfl (lv_at hl 1 rfl) ?_
  refine x_rd (x_V (n := 1) (As := [.int x]) F (c_MO_is l G ad σ wk ch x) ok_MO_is k512 ⟨Nat.le_of_ble_eq_true rfl, Nat.le_of_ble_eq_true rfl⟩ rfl rfl hK (x_rcv hK hO rfl) (hP) rfl hl.1 rfl (Nat.le_of_ble_eq_true rfl) d_MO_look_2 ⟨Nat.le_of_ble_eq_true rfl, Nat.le_of_ble_eq_true rfl⟩) ?_
  refine x_beq (tgt := 18) F d_MO_look_5 (by decide) (fun c5 => ?_) (fun c5 => ?_)
  · refine x_cst F k623 d_MO_look_18 ?_
    refine lv_goto (tgt := 35) F.1 F.2.1 d_MO_look_21 (by decide) ?_
    exact hret _ _ _ d_MO_look_35 (by unfold lokS; rw [c5]; rfl)
  · refine lv_iload_n F.1 F.2.1 d_MO_look_8 rfl (lv_at hl 2 rfl) ?_
    refine lv_if_lt (tgt := 18) F.1 F.2.1 d_MO_look_9 (by decide) (fun c9 => ?_) (fun c9 => ?_)
    · refine x_cst F k623 d_MO_look_18 ?_
      refine lv_goto (tgt := 35) F.1 F.2.1 d_MO_look_21 (by decide) ?_
      exact hret _ _ _ d_MO_look_35 (by unfold lokS rgB; rw [decide_eq_true c9, c5]; rfl)
    · refine lv_iload_n F.1 F.2.1 d_MO_look_12 rfl (lv_at hl 2 rfl) ?_
      refine lv_bipush (v := 124) F.1 F.2.1 d_MO_look_13 (by decide) ?_
      refine lv_icmp_le (tgt := 24) F.1 F.2.1 d_MO_look_15 (by decide) (fun c15 => ?_) (fun c15 => ?_)
      · have c5' := c5
        obtain ⟨i, hi, rfl⟩ := isB_of hn40 c5
        obtain ⟨k, hk, rfl⟩ := rg_of c9 c15
        refine lv_aload_n F.1 F.2.1 d_MO_look_24 rfl (lv_at hl 0 rfl) ?_
        refine x_get F hK hO rfl i_MO 1 (by decide) k480 rfl rfl d_MO_look_25 ?_
        refine lv_bipush (v := 125) F.1 F.2.1 d_MO_look_28 (by decide) ?_
        refine lv_iload_n F.1 F.2.1 d_MO_look_30 rfl (lv_at hl 1 rfl) ?_
        refine lv_imul F.1 F.2.1 d_MO_look_31 ?_
        refine lv_iload_n F.1 F.2.1 d_MO_look_32 rfl (lv_at hl 2 rfl) ?_
        refine lv_iadd F.1 F.2.1 d_MO_look_33 ?_
        rw [e125]
        refine x_laldN F hK ht (by decide) (by omega) d_MO_look_34 ?_
        rw [mT_at hk]
        exact hret _ _ _ d_MO_look_35 (by unfold lokS; rw [c5', rgB_n hk, Bool.and_true, if_pos rfl, show (nI i).toNatClampNeg = i from nI_clamp (by omega), show (nI k).toNatClampNeg = k from nI_clamp (by omega)])
      · refine x_cst F k623 d_MO_look_18 ?_
        refine lv_goto (tgt := 35) F.1 F.2.1 d_MO_look_21 (by decide) ?_
        exact hret _ _ _ d_MO_look_35 (by unfold lokS; rw [rg_no c15, c5]; rfl)
def nxtS (σ : Sg) (x y : Int32) : Int32 := if (isB σ x && rgB y) = true then nI (nx (gt σ x.toNatClampNeg) (124 - y.toNatClampNeg) (y.toNatClampNeg + 1)) else -1
theorem c_MO_next (l : Launch) (G : x_G) (ad : Nat → Nat) (σ : Sg) (wk : Nat → Int64) (ch : Nat → Bool) (x y : Int32) (hok : gOk σ) : Met l y_MO_next (x_ws y_MO_next b_MO_next 4 (some .int)) (x_rm 1 0 0) (x_P G [.ref (ad 0), .int x, .int y] (MO G ad σ wk ch)) (k2_QcV (.int (nxtS σ x y))) 0 0 (fun _ => False) := by
  refine x_mI (by decide +kernel) (Nat.le_of_ble_eq_true rfl) (fun p e s m args below meth c F hK hP ls hl Q hret => ?_)
  have hl : lv_has ls 4 [(0, .ref (ad 0)), (1, .int x), (2, .int y)] := hl
  have hn40 := hok.2.1
  obtain ⟨hO, hp, ht, hh, hg, hw, hc, hj⟩ := id hP
  refine lv_aload_n F.1 F.2.1 d_MO_next_0 rfl (lv_at hl 0 rfl) ?_
  refine lv_iload_n F.1 F.2.1 d_MO_next_1 rfl (lv_at hl 1 rfl) ?_
  refine x_rd (x_V (n := 1) (As := [.int x]) F (c_MO_is l G ad σ wk ch x) ok_MO_is k512 ⟨Nat.le_of_ble_eq_true rfl, Nat.le_of_ble_eq_true rfl⟩ rfl rfl hK (x_rcv hK hO rfl) (hP) rfl hl.1 rfl (Nat.le_of_ble_eq_true rfl) d_MO_next_2 ⟨Nat.le_of_ble_eq_true rfl, Nat.le_of_ble_eq_true rfl⟩) ?_
  refine x_beq (tgt := 18) F d_MO_next_5 (by decide) (fun c5 => ?_) (fun c5 => ?_)
  · refine lv_iconst (v := (-1)) F.1 F.2.1 d_MO_next_18 (by decide) ?_
    exact hret _ _ _ d_MO_next_19 (by unfold nxtS; rw [c5]; rfl)
  · refine lv_iload_n F.1 F.2.1 d_MO_next_8 rfl (lv_at hl 2 rfl) ?_
    refine lv_if_lt (tgt := 18) F.1 F.2.1 d_MO_next_9 (by decide) (fun c9 => ?_) (fun c9 => ?_)
    · refine lv_iconst (v := (-1)) F.1 F.2.1 d_MO_next_18 (by decide) ?_
      exact hret _ _ _ d_MO_next_19 (by unfold nxtS rgB; rw [decide_eq_true c9, c5]; rfl)
    · refine lv_iload_n F.1 F.2.1 d_MO_next_12 rfl (lv_at hl 2 rfl) ?_
      refine lv_bipush (v := 124) F.1 F.2.1 d_MO_next_13 (by decide) ?_
      refine lv_icmp_le (tgt := 20) F.1 F.2.1 d_MO_next_15 (by decide) (fun c15 => ?_) (fun c15 => ?_)
      · have c5' := c5
        obtain ⟨i, hi, rfl⟩ := isB_of hn40 c5
        obtain ⟨k0, hk0, rfl⟩ := rg_of c9 c15
        have hv : nxtS σ (nI i) (nI k0) = nI (nx (gt σ i) (124 - k0) (k0 + 1)) := by unfold nxtS; rw [c5', rgB_n hk0, Bool.and_true, if_pos rfl, show (nI i).toNatClampNeg = i from nI_clamp (by omega), show (nI k0).toNatClampNeg = k0 from nI_clamp (by omega)]
        have loop : ∀ (n k : Nat), k + n = 125 → nx (gt σ i) n k = nx (gt σ i) (124 - k0) (k0 + 1) → ∀ ls : Array Slot, lv_has ls 4 [(3, .int (nI k)), (0, .ref (ad 0)), (1, .int (nI i)), (2, .int (nI k0))] → W p l e (x_rm 1 0 0) s m args below meth c s.heap [] 0 0 Q (F0 m 24 ls []) := by
          intro n
          induction n with
          | zero =>
            intro k hn hq ls hl
            refine lv_iload_n F.1 F.2.1 d_MO_next_24 rfl (lv_at hl 0 rfl) ?_
            refine lv_bipush (v := 125) F.1 F.2.1 d_MO_next_25 (by decide) ?_
            refine lv_icmp_ge (tgt := 54) F.1 F.2.1 d_MO_next_27 (by decide) (fun _ => ?_) (fun zq => absurd (pN_le (a := 125) (b := k) rfl rfl (by omega) (by omega) (by omega)) zq)
            refine lv_iload_n F.1 F.2.1 d_MO_next_54 rfl (lv_at hl 0 rfl) ?_
            exact hret _ _ _ d_MO_next_55 (by rw [hv, ← hq]; rfl)
          | succ n ih =>
            intro k hn hq ls hl
            refine lv_iload_n F.1 F.2.1 d_MO_next_24 rfl (lv_at hl 0 rfl) ?_
            refine lv_bipush (v := 125) F.1 F.2.1 d_MO_next_25 (by decide) ?_
            refine lv_icmp_ge (tgt := 54) F.1 F.2.1 d_MO_next_27 (by decide) (fun zq => absurd zq (pN_nle (a := 125) (b := k) rfl rfl (by omega) (by omega) (by omega))) (fun _ => ?_)
            refine lv_aload_n F.1 F.2.1 d_MO_next_30 rfl (lv_at hl 1 rfl) ?_
            refine x_get F hK hO rfl i_MO 1 (by decide) k480 rfl rfl d_MO_next_31 ?_
            refine lv_bipush (v := 125) F.1 F.2.1 d_MO_next_34 (by decide) ?_
            refine lv_iload_n F.1 F.2.1 d_MO_next_36 rfl (lv_at hl 2 rfl) ?_
            refine lv_imul F.1 F.2.1 d_MO_next_37 ?_
            refine lv_iload_n F.1 F.2.1 d_MO_next_38 rfl (lv_at hl 0 rfl) ?_
            refine lv_iadd F.1 F.2.1 d_MO_next_39 ?_
            rw [e125]
            refine x_laldN F hK ht (by decide) (by omega) d_MO_next_40 ?_
            rw [mT_at (by omega)]
            refine x_cst F k478 d_MO_next_41 ?_
            refine x_lne (tgt := 54) F d_MO_next_44 d_MO_next_45 (by decide) (fun c45 => ?_) (fun c45 => ?_)
            · refine lv_iload_n F.1 F.2.1 d_MO_next_54 rfl (lv_at hl 0 rfl) ?_
              exact hret _ _ _ d_MO_next_55 (by rw [hv, ← hq]; show _ = nI (if _ then _ else _); rw [if_neg c45])
            · refine lv_iinc (v := (nI (k + 1))) (lv' := [(3, .int (nI (k + 1))), (0, .ref (ad 0)), (1, .int (nI i)), (2, .int (nI k0))]) F.1 F.2.1 d_MO_next_48 hl (k := 0) rfl (nI_1 k) (by decide) rfl (fun ls hl => ?_)
              refine lv_goto (tgt := 24) F.1 F.2.1 d_MO_next_51 (by decide) ?_
              exact ih (k + 1) (by omega) (by rw [← hq]; show _ = (if _ then _ else _); rw [if_pos c45]) ls hl
        refine lv_iload_n F.1 F.2.1 d_MO_next_20 rfl (lv_at hl 2 rfl) ?_
        refine lv_iconst (v := 1) F.1 F.2.1 d_MO_next_21 (by decide) ?_
        refine lv_iadd F.1 F.2.1 d_MO_next_22 ?_
        rw [nI_1]
        refine lv_istore_n (lv' := [(3, .int (nI (k0 + 1))), (0, .ref (ad 0)), (1, .int (nI i)), (2, .int (nI k0))]) F.1 F.2.1 d_MO_next_23 rfl hl (by decide) rfl (fun ls hl => ?_)
        exact loop (124 - k0) (k0 + 1) (by omega) rfl ls hl
      · refine lv_iconst (v := (-1)) F.1 F.2.1 d_MO_next_18 (by decide) ?_
        exact hret _ _ _ d_MO_next_19 (by unfold nxtS; rw [rg_no c15, c5]; rfl)
def lysS (σ : Sg) (x : Int32) : Int32 := if isB σ x = true then nI (cn (gp σ) x.toNatClampNeg).length else -1
theorem c_MO_layers (l : Launch) (G : x_G) (ad : Nat → Nat) (σ : Sg) (wk : Nat → Int64) (ch : Nat → Bool) (x : Int32) (hok : gOk σ) : Met l y_MO_layers (x_ws y_MO_layers b_MO_layers 2 (some .int)) (x_rm 1 0 0) (x_P G [.ref (ad 0), .int x] (MO G ad σ wk ch)) (k2_QcV (.int (lysS σ x))) 0 0 (fun _ => False) := by
  refine x_mI (by decide +kernel) (Nat.le_of_ble_eq_true rfl) (fun p e s m args below meth c F hK hP ls hl Q hret => ?_)
  have hl : lv_has ls 2 [(0, .ref (ad 0)), (1, .int x)] := hl
  have hn40 := hok.2.1
  have hO := hP.1
  refine lv_aload_n F.1 F.2.1 d_MO_layers_0 rfl (lv_at hl 0 rfl) ?_
  refine lv_iload_n F.1 F.2.1 d_MO_layers_1 rfl (lv_at hl 1 rfl) ?_
  refine x_rd (x_V (n := 1) (As := [.int x]) F (c_MO_is l G ad σ wk ch x) ok_MO_is k512 ⟨Nat.le_of_ble_eq_true rfl, Nat.le_of_ble_eq_true rfl⟩ rfl rfl hK (x_rcv hK hO rfl) (hP) rfl hl.1 rfl (Nat.le_of_ble_eq_true rfl) d_MO_layers_2 ⟨Nat.le_of_ble_eq_true rfl, Nat.le_of_ble_eq_true rfl⟩) ?_
  refine x_beq (tgt := 16) F d_MO_layers_5 (by decide) (fun c5 => ?_) (fun c5 => ?_)
  · refine lv_iconst (v := (-1)) F.1 F.2.1 d_MO_layers_16 (by decide) ?_
    exact hret _ _ _ d_MO_layers_17 (by unfold lysS; rw [c5]; rfl)
  · have c5' := c5
    obtain ⟨i, hi, rfl⟩ := isB_of hn40 c5
    refine lv_aload_n F.1 F.2.1 d_MO_layers_8 rfl (lv_at hl 0 rfl) ?_
    refine lv_iload_n F.1 F.2.1 d_MO_layers_9 rfl (lv_at hl 1 rfl) ?_
    refine x_rd (x_V (n := 1) (As := [.int (nI i)]) F (c_MO_layerCount l G ad σ wk ch i (by omega) hok.2.2.1) ok_MO_layerCount k653 ⟨Nat.le_of_ble_eq_true rfl, Nat.le_of_ble_eq_true rfl⟩ rfl rfl hK (x_rcv hK hO rfl) (hP) rfl hl.1 rfl (Nat.le_of_ble_eq_true rfl) d_MO_layers_10 ⟨Nat.le_of_ble_eq_true rfl, Nat.le_of_ble_eq_true rfl⟩) ?_
    refine lv_goto (tgt := 17) F.1 F.2.1 d_MO_layers_13 (by decide) ?_
    exact hret _ _ _ d_MO_layers_17 (by unfold lysS; rw [if_pos c5', show (nI i).toNatClampNeg = i from nI_clamp (by omega)])

