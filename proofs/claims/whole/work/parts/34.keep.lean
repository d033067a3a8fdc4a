/-! ===== what always holds is kept by every call ===== -/
theorem pa_0 : pa 0 = 0 := rfl
theorem lg_pa : ∀ q, q < 125 → lg q = true → pa q < q ∧ (pa q = 0 ∨ lg (pa q) = true) ∧ pa (pa (pa q)) = 0 := by decide +kernel
theorem tAbove_at (f : Nat → Int64) (i q : Nat) : tAbove f i q = if q = pa (pa i) ∨ q = pa i then wDIR else f q := by
  unfold tAbove vp_updL
  by_cases h1 : q = pa (pa i)
  · rw [if_pos h1, if_pos (Or.inl h1)]
  · rw [if_neg h1]
    by_cases h2 : q = pa i
    · rw [if_pos h2, if_pos (Or.inr h2)]
    · rw [if_neg h2, if_neg (fun z => z.elim h1 h2)]
theorem tOk_raise {f : Nat → Int64} (hf : tOk f) {i : Nat} (hi : i < 125) (li : lg i = true) (hfd : f i ≠ wDIR ∨ True) (v : Int64) (hv : f i = wDIR → v = wDIR) : tOk (vp_updL (tAbove f i) i v) := by
  have hp := lg_pa i hi li
  have h25 := lg_25 li
  have hpi := pa_lt i hi
  have at_ : ∀ q, vp_updL (tAbove f i) i v q = if q = i then v else if q = pa (pa i) ∨ q = pa i then wDIR else f q := fun q => by
    unfold vp_updL
    rw [tAbove_at]
  have dir : ∀ q, (q = pa (pa i) ∨ q = pa i) → vp_updL (tAbove f i) i v q = wDIR := fun q h => by
    have hpp : pa (pa i) < i := by
      rcases hp.2.1 with e | e
      · rw [e, pa_0]; omega
      · have := (lg_pa _ hpi e).1; omega
    rw [at_, if_neg (by rcases h with h | h <;> omega), if_pos h]
  have was : ∀ q, f q = wDIR → vp_updL (tAbove f i) i v q = wDIR := fun q h => by
    rw [at_]
    by_cases e : q = i
    · rw [if_pos e]; exact hv (e ▸ h)
    · rw [if_neg e]; split
      · rfl
      · exact h
  refine ⟨was 0 hf.1, fun q q0 q1 hq => ?_⟩
  rw [at_] at hq
  by_cases e : q = i
  · subst e
    exact ⟨li, dir _ (Or.inr rfl)⟩
  · rw [if_neg e] at hq
    by_cases e2 : q = pa (pa i) ∨ q = pa i
    · rcases e2 with e2 | e2
      · have hl : lg (pa i) = true := by
          rcases hp.2.1 with z | z
          · rw [z, pa_0] at e2; omega
          · exact z
        have h2 := lg_pa _ hpi hl
        have hlq : lg q = true := by
          rcases h2.2.1 with z | z
          · omega
          · rw [e2]; exact z
        refine ⟨hlq, was _ ?_⟩
        rw [e2, hp.2.2]; exact hf.1
      · have hl : lg (pa i) = true := by
          rcases hp.2.1 with z | z
          · omega
          · exact z
        exact ⟨e2 ▸ hl, by rw [e2]; exact dir _ (Or.inl rfl)⟩
    · rw [if_neg e2] at hq
      have h2 := hf.2 q q0 q1 hq
      exact ⟨h2.1, was _ h2.2⟩
theorem tOk_wipe {f : Nat → Int64} (hf : tOk f) {i : Nat} (hi : i < 125) (li : lg i = true) : tOk (tWipe f i (en i)) := by
  have h25 := lg_25 li
  refine ⟨by unfold tWipe; rw [if_neg (by omega)]; exact hf.1, fun q q0 q1 hq => ?_⟩
  unfold tWipe at hq ⊢
  by_cases e : i ≤ q ∧ q < en i
  · rw [if_pos e] at hq; exact absurd rfl hq
  · rw [if_neg e] at hq
    have h2 := hf.2 q q0 q1 hq
    refine ⟨h2.1, ?_⟩
    rw [if_neg (fun z => ?_)]
    · exact h2.2
    · have t : ∀ i, i < 125 → lg i = true → ∀ q, q < 125 → (!(lg q && decide (i ≤ pa q) && decide (pa q < en i)) || (decide (i ≤ q) && decide (q < en i))) = true := by decide +kernel
      have := t i hi li q q1
      rw [h2.1, decide_eq_true z.1, decide_eq_true z.2] at this
      simp only [Bool.and_true, Bool.not_true, Bool.false_or, Bool.and_eq_true, decide_eq_true_eq] at this
      exact e this
def wp_p : Bool := (List.range 125).all fun a => !lg a || (List.range 25).all fun k => !(decide (0 < k) && decide (a + k < en a) && lg (a + k)) || (decide (a ≤ pa (a + k)) && lg (pa (a + k)) && decide (nm (pa (a + k)) ≤ nm (a + k)) && (List.range 125).all fun b => !(lg b && decide (nm (a + k) + nm b ≤ 3 + nm a)) || decide (wp (pa (a + k)) a b = pa (wp (a + k) a b)))
theorem wp_p_ok : wp_p = true := by decide +kernel
theorem wp_pa {a b q : Nat} (ha : a < 125) (hb : b < 125) (la : lg a = true) (lb : lg b = true) (h1 : a < q) (h2 : q < en a) (lq : lg q = true) (hn : nm q + nm b ≤ 3 + nm a) : a ≤ pa q ∧ lg (pa q) = true ∧ nm (pa q) ≤ nm q ∧ wp (pa q) a b = pa (wp q a b) := by
  obtain ⟨k, rfl⟩ : ∃ k, q = a + k := ⟨q - a, by omega⟩
  have he : en a ≤ a + 25 := by unfold en; split <;> (try split) <;> omega
  have h := wp_p_ok
  unfold wp_p at h
  have h := List.all_eq_true.mp h a (List.mem_range.mpr ha)
  rw [la, Bool.not_true, Bool.false_or] at h
  have h := List.all_eq_true.mp h k (List.mem_range.mpr (by omega))
  rw [decide_eq_true (show 0 < k by omega), decide_eq_true h2, lq, Bool.and_true, Bool.and_true, Bool.not_true, Bool.false_or] at h
  rw [Bool.and_eq_true, Bool.and_eq_true, Bool.and_eq_true] at h
  have h4 := List.all_eq_true.mp h.2 b (List.mem_range.mpr hb)
  rw [lb, decide_eq_true hn, Bool.and_true, Bool.not_true, Bool.false_or] at h4
  exact ⟨of_decide_eq_true h.1.1.1, h.1.1.2, of_decide_eq_true h.1.2, of_decide_eq_true h4⟩
theorem wp_self (a b : Nat) : wp a a b = b := by
  unfold wp
  rw [Nat.sub_self]
  split
  · rfl
  · split
    · rfl
    · split
      · rfl
      · split <;> rfl
theorem tOk_cp {f : Nat → Int64} (hf : tOk f) {a b : Nat} (la : lg a = true) (lb : lg b = true) (hm : mayB f a b = true) : tOk (tCp f a b (en a)) := by
  obtain ⟨h1, h2, h3, hco⟩ := mayB_ok hf la lb hm
  have hco' := hco
  obtain ⟨ha, hb, -, -, hd, hq⟩ := hco
  have a25 := lg_25 la
  have b25 := lg_25 lb
  have eb := en_le b hb lb
  have keep : ∀ q, f q = wDIR → q < 125 → tCp f a b (en a) q = wDIR := fun q hfq h125 => by
    unfold tCp
    by_cases hu : a ≤ uw q a b ∧ uw q a b < en a ∧ wp (uw q a b) a b = q ∧ b ≤ q ∧ f (uw q a b) ≠ wABS
    · exfalso
      obtain ⟨u1, u2, u3, u4, u5⟩ := hu
      have k := wp_back ha hb la lb u1 u2 (hq _ u1 u2 u5).1 (hq _ u1 u2 u5).2
      have k2 := pj_put_n ha hb la lb u1 u2 (hq _ u1 u2 u5).1 (hq _ u1 u2 u5).2
      rw [u3] at k k2
      rcases Nat.lt_or_ge b q with z | z
      · have := hf.up h125 hb k2.2.2 lb z k.2.1 (by rw [hfq]; decide)
        rw [h2] at this
        exact absurd this (by decide)
      · have : q = b := by omega
        rw [this, h2] at hfq
        exact absurd hfq (by decide)
    · rw [if_neg hu]; exact hfq
  have cop : ∀ u, a ≤ u → u < en a → f u ≠ wABS → tCp f a b (en a) (wp u a b) = f u := fun u u1 u2 u3 => by
    have k := wp_back ha hb la lb u1 u2 (hq _ u1 u2 u3).1 (hq _ u1 u2 u3).2
    unfold tCp
    rw [k.2.2, if_pos ⟨u1, u2, rfl, k.1, u3⟩]
  refine ⟨keep 0 hf.1 (by decide), fun q q0 q1 hqa => ?_⟩
  by_cases hu : a ≤ uw q a b ∧ uw q a b < en a ∧ wp (uw q a b) a b = q ∧ b ≤ q ∧ f (uw q a b) ≠ wABS
  · obtain ⟨u1, u2, u3, u4, u5⟩ := hu
    generalize uw q a b = u at u1 u2 u3 u5
    have hqu := hq _ u1 u2 u5
    have k2 := pj_put_n ha hb la lb u1 u2 hqu.1 hqu.2
    rw [u3] at k2
    refine ⟨k2.2.2, ?_⟩
    rcases Nat.lt_or_ge a u with z | z
    · have hu125 := (lg_25 hqu.1).2
      have w := wp_pa ha hb la lb z u2 hqu.1 hqu.2
      rw [u3] at w
      have hfp := (hf.2 u (by omega) hu125 u5).2
      have hpu := (lg_pa u hu125 hqu.1).1
      have c := cop (pa u) w.1 (by omega) (by rw [hfp]; decide)
      rw [w.2.2.2] at c
      rw [c]; exact hfp
    · have : u = a := by omega
      subst this
      rw [wp_self] at u3
      subst u3
      exact keep _ h3 (pa_lt _ hb)
  · have hgf : tCp f a b (en a) q = f q := by unfold tCp; rw [if_neg hu]
    rw [hgf] at hqa
    have k := hf.2 q q0 q1 hqa
    exact ⟨k.1, keep _ k.2 (pa_lt q q1)⟩
theorem toI_ne (y : Int32) (w : Int64) (h : (2 : Int) ^ 31 ≤ w.toInt) : y.toInt64 ≠ w := by
  intro e
  have h2 := Int32.toInt_lt y
  have h3 : y.toInt64.toInt = y.toInt := Int32.toInt_toInt64 y
  rw [e] at h3
  omega
theorem tOk_step {f : Nat → Int64} (hf : tOk f) {st x y : Int32} {g : Nat → Int64} (h : tStep f st x y = some g) : tOk g := by
  unfold tStep at h
  by_cases hx : pj_legal x = true
  · rw [if_pos hx] at h
    obtain ⟨i, hi, rfl, li⟩ := legal_of hx
    rw [show (nI i).toNatClampNeg = i from nI_clamp (by omega)] at h
    by_cases h0 : st = 0
    · rw [if_pos h0] at h
      unfold tWrite at h
      by_cases hc : f i = wDIR ∨ (mo_file (f (pa i)) || mo_file (f (pa (pa i)))) = true
      · rw [if_pos hc] at h; cases h
      · rw [if_neg hc] at h
        cases h
        exact tOk_raise hf hi li (Or.inr trivial) _ (fun z => absurd (Or.inl z) hc)
    rw [if_neg h0] at h
    by_cases h1 : st = 1
    · rw [if_pos h1] at h
      unfold tMake at h
      split at h
      · cases h
      · cases h
        exact tOk_raise hf hi li (Or.inr trivial) _ (fun _ => rfl)
    rw [if_neg h1] at h
    have rem : ∀ {g g' : Nat → Int64}, tOk g → tRemove g i = some g' → tOk g' := fun hg hr => by
      unfold tRemove at hr
      split at hr
      · cases hr
      · cases hr
        exact tOk_wipe hg hi li
    by_cases h2 : st = 2
    · rw [if_pos h2] at h
      exact rem hf h
    rw [if_neg h2] at h
    have cop : ∀ (j : Nat) (g : Nat → Int64), lg j = true → tCopy f i j = some g → tOk g := fun j g lj hr => by
      unfold tCopy at hr
      by_cases hm : mayB f i j = true
      · rw [if_pos hm] at hr
        cases hr
        exact tOk_cp hf li lj hm
      · rw [if_neg hm] at hr; cases hr
    by_cases hy : pj_legal y = true
    · obtain ⟨j, hj, rfl, lj⟩ := legal_of hy
      rw [if_pos hy, if_pos hy, show (nI j).toNatClampNeg = j from nI_clamp (by omega)] at h
      by_cases h3 : st = 3
      · rw [if_pos h3] at h
        exact cop j _ lj h
      rw [if_neg h3] at h
      by_cases h4 : st = 4
      · rw [if_pos h4] at h
        unfold tMove at h
        cases hc : tCopy f i j with
        | none => rw [hc] at h; cases h
        | some g1 => rw [hc] at h; exact rem (cop j _ lj hc) h
      · rw [if_neg h4] at h; cases h
    · rw [if_neg hy, if_neg hy] at h
      split at h
      · cases h
      · split at h <;> cases h
  · rw [if_neg hx] at h; cases h
/-! the state -/
theorem gI_ans {σ : Sg} (h : gI σ) {i : Nat} (hi : i < gn σ) : gI (ansS σ i) := by
  obtain ⟨⟨h1, h2, h3, h4, h5, h6, h7, h8⟩, h9⟩ := h
  have hs : ∀ s j, gh σ s j = true → gSet (gh σ) 0 i true s j = true := fun s j hh => by unfold gSet; split; rfl; exact hh
  refine ⟨⟨h1, h2, h3, h4, h5, fun s hs' => hs _ _ (h6 s hs'), fun s hs' j hj hh => ?_, fun s hs' t ht => ?_⟩, h9⟩
  · have hh : gSet (gh σ) 0 i true s j = true := hh
    unfold gSet at hh
    split at hh
    · rename_i e; show j < gn σ; omega
    · exact h7 s hs' j hj hh
  · exact (h8 s hs' t ht).imp_right (fun q => ⟨q.1, hs _ _ q.2⟩)
theorem gI_new {σ : Sg} (h : gI σ) {f : Nat → Int64} {o : Nat} (hf : tOk f) (ho : o < gn σ) (hn : gn σ < 40) : gI (newS σ f o) := by
  obtain ⟨⟨h1, h2, h3, h4, h5, h6, h7, h8⟩, h9⟩ := h
  refine ⟨⟨show 1 ≤ gn σ + 1 by omega, show gn σ + 1 ≤ 40 by omega, fun i hi => ?_, fun i hi => ?_, ?_, h6, fun s hs j hj hh => Nat.lt_succ_of_lt (h7 s hs j hj hh), fun s hs t ht => (h8 s hs t ht).imp_right (fun q => ⟨Nat.lt_succ_of_lt q.1, q.2⟩)⟩, ?_⟩
  · show va_up (gp σ) (gn σ) o i < i
    by_cases e : i = gn σ
    · rw [e, va_up_self]; exact ho
    · rw [va_up_ne _ _ e]; exact h3 i hi
  · have hi : i < gn σ + 1 := hi
    show tOk (va_up (gt σ) (gn σ) f i)
    by_cases e : i = gn σ
    · rw [e, va_up_self]; exact hf
    · rw [va_up_ne _ _ e]; exact h4 i (by omega)
  · show va_up (gt σ) (gn σ) f 0 = tBare
    rw [va_up_ne _ _ (by omega)]; exact h5
  · show va_up (gp σ) (gn σ) o 0 = 0
    rw [va_up_ne _ _ (by omega)]; exact h9
theorem gI_img {σ : Sg} (h : gI σ) {f : Nat → Int64} {o : Nat} (hf : tOk f) (ho : o < gn σ) : gI (imgS σ f o).2 := by
  unfold imgS
  split
  · exact gI_ans h ho
  · split
    · rename_i i hfn
      have := fnd_lt _ _ _ hfn
      have := h.1.1
      exact gI_ans h (by omega)
    · split
      · exact h
      · rename_i hn
        exact gI_ans (gI_new h hf ho (by have := h.1.2.1; omega)) (Nat.lt_succ_self _)
theorem hoB_of {σ : Sg} {s : Nat} {x : Int32} (hn : gn σ ≤ 40) (h : hoB σ s x = true) : ∃ i, i < gn σ ∧ x = nI i ∧ x.toNatClampNeg = i ∧ gh σ s i = true := by
  unfold hoB at h
  rw [Bool.and_eq_true] at h
  obtain ⟨i, hi, rfl⟩ := isB_of hn h.1
  have hc : (nI i).toNatClampNeg = i := nI_clamp (by omega)
  rw [hc] at h
  exact ⟨i, hi, rfl, hc, h.2⟩
theorem gI_bld {σ : Sg} (h : gI σ) (x st p y : Int32) : gI (bldS σ x st p y).2 := by
  unfold bldS
  split
  · rename_i hh
    obtain ⟨i, hi, -, hc, -⟩ := hoB_of h.1.2.1 hh
    rw [hc]
    cases hs : tStep (gt σ i) st p y with
    | none => exact h
    | some g => exact gI_img h (tOk_step (h.1.2.2.2.1 i hi) hs) hi
  · exact h
theorem gI_flt {σ : Sg} (h : gI σ) (x : Int32) : gI (fltS σ x).2 := by
  unfold fltS
  split
  · rename_i hh
    obtain ⟨i, hi, -, hc, -⟩ := hoB_of h.1.2.1 hh
    rw [hc]
    exact gI_img h (h.1.2.2.2.1 i hi) h.1.1
  · exact h
theorem gI_tg {σ : Sg} (h : gI σ) {s t v : Nat} (hv : v = 40 ∨ (v < gn σ ∧ gh σ s v = true)) : gI (tgS σ s t v) := by
  obtain ⟨⟨h1, h2, h3, h4, h5, h6, h7, h8⟩, h9⟩ := h
  refine ⟨⟨h1, h2, h3, h4, h5, h6, h7, fun s' hs' t' ht' => ?_⟩, h9⟩
  show tSet (gg σ) s t v s' t' = 40 ∨ (tSet (gg σ) s t v s' t' < gn σ ∧ gh σ s' (tSet (gg σ) s t v s' t') = true)
  unfold tSet
  by_cases e : s' = s ∧ t' = t
  · rw [if_pos e, e.1]; exact hv
  · rw [if_neg e]; exact h8 s' hs' t' ht'
theorem gI_tag {σ : Sg} (h : gI σ) (x y z : Int32) : gI (tagS σ x y z).2 := by
  unfold tagS
  split
  · exact h
  · split
    · rename_i hh
      obtain ⟨i, hi, -, hc, hg⟩ := hoB_of h.1.2.1 hh
      rw [hc]
      exact gI_tg h (Or.inr ⟨hi, hg⟩)
    · exact h
theorem gI_unt {σ : Sg} (h : gI σ) (x y : Int32) : gI (untS σ x y).2 := by
  unfold untS
  split
  · exact h
  · exact gI_tg h (Or.inl rfl)
theorem gI_hold {σ : Sg} (h : gI σ) {s i : Nat} (hi : i < gn σ) : gI (gn σ, gp σ, gt σ, gSet (gh σ) s i true, gg σ, ga σ) := by
  obtain ⟨⟨h1, h2, h3, h4, h5, h6, h7, h8⟩, h9⟩ := h
  have hs : ∀ s' j, gh σ s' j = true → gSet (gh σ) s i true s' j = true := fun s' j hh => by unfold gSet; split; rfl; exact hh
  refine ⟨⟨h1, h2, h3, h4, h5, fun s' hs' => hs _ _ (h6 s' hs'), fun s' hs' j hj hh => ?_, fun s' hs' t ht => ?_⟩, h9⟩
  · have hh : gSet (gh σ) s i true s' j = true := hh
    unfold gSet at hh
    split at hh
    · rename_i e; show j < gn σ; omega
    · exact h7 s' hs' j hj hh
  · exact (h8 s' hs' t ht).imp_right (fun q => ⟨q.1, hs _ _ q.2⟩)
theorem gI_snd {σ : Sg} (h : gI σ) (x y : Int32) : gI (sndS σ x y).2 := by
  unfold sndS
  split
  · exact h
  · rename_i hc
    have hb : mo_badTag x y = false := by
      cases hb : mo_badTag x y with
      | false => rfl
      | true => exact absurd (Or.inl hb) hc
    obtain ⟨s, t, hs, ht, rfl, rfl⟩ := badTag_of hb
    rw [show (nI s).toNatClampNeg = s from nI_clamp (by omega), show (nI t).toNatClampNeg = t from nI_clamp (by omega)] at hc ⊢
    have hi : gg σ s t < gn σ := by
      rcases h.1.2.2.2.2.2.2.2 s hs t ht with q | q
      · exact absurd (Or.inr q) hc
      · exact q.1
    exact gI_tg (gI_hold h (s := 1 - s) hi) (Or.inr ⟨hi, if_pos ⟨rfl, rfl⟩⟩)
theorem gI_colS {σ : Sg} (h : gI σ) (x : Int32) : gI (colS σ x).2 := by
  unfold colS
  split
  · exact gI_col h
  · exact h
theorem gI_0 : gI σ0 := by
  refine ⟨⟨Nat.le_refl _, by decide, fun i hi => hi, fun i hi => ?_, rfl, fun s _ => rfl, fun s _ i _ hh => ?_, fun s _ t _ => Or.inl rfl⟩, rfl⟩
  · have hi : i < 1 := hi
    show tOk (if i = 0 then tBare else fun _ => 0)
    rw [if_pos (by omega)]
    refine ⟨rfl, fun q q0 q1 hq => ?_⟩
    unfold tBare at hq
    rw [if_neg (by omega)] at hq
    exact absurd rfl hq
  · have := of_decide_eq_true hh
    show i < 1
    omega

