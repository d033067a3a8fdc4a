/-! ===== ImageStores: what writes, but makes nothing ===== -/
section KQ
variable {G : x_G} {ca : Nat → Nat} {σ : Sg} {nl : Nat} {num rp : Nat → Nat} {f : Nat → Int64} {sn sn' : Nat → Int32} {H H1 : Heap}
theorem CW.own (h : CW G ca σ nl num rp f sn H) {c : Nat} (hu : us (gn σ) nl c) (h4 : c ≠ 4) : cA G ca (gn σ) nl (ca c) := ⟨c, hu, rfl, (h.2.1 c hu).2 h4⟩
theorem CW.seen (h : CW G ca σ nl num rp f sn H) (hs : x_az G (ca 13) 40 sn' H1) (ho : x_off (fun q => q = ca 13) H H1) : CW G ca σ nl num rp f sn' H1 := by
  obtain ⟨hin, hne, hO, hB, hs0, hs1, hdr, hse⟩ := h
  have no : ∀ c, us (gn σ) nl c → c ≠ 13 → ¬ ca c = ca 13 := fun c hc hn => hin.ne hc (usS (by decide)) hn
  have nS : ∀ c, c < 14 → c ≠ 13 → ¬ ca c = ca 13 := fun c hc hn => no c (usS hc) hn
  exact ⟨hin, hne, x_keep hO ho (nS 0 (by decide) (by decide)), hB.keep ho (fun c hc hr => no c hc (by omega)) (fun z => (hne 13 (usS (by decide))).1 z.symm) (fun z => (hne 13 (usS (by decide))).2 (by decide) z.symm), hs0.keep ho (nS 5 (by decide) (by decide)) (nS 6 (by decide) (by decide)) (nS 7 (by decide) (by decide)), hs1.keep ho (nS 8 (by decide) (by decide)) (nS 9 (by decide) (by decide)) (nS 10 (by decide) (by decide)), hdr.keep ho (nS 11 (by decide) (by decide)) (nS 12 (by decide) (by decide)), hs⟩
theorem CW.obj (h : CW G ca σ nl num rp f sn H) {a : Int32} (hs : va_at G.1 x_cl (ca 0, .inr (5, [.ref (ca 1), .ref (ca 3), .ref (ca 5), .ref (ca 8), .ref (ca 11), .ref (ca 13), .int a])) H1) (ho : x_off (fun q => q = ca 0) H H1) : CW G ca (gn σ, gp σ, gt σ, gh σ, gg σ, a) nl num rp f sn H1 := by
  obtain ⟨hin, hne, hO, hB, hs0, hs1, hdr, hse⟩ := h
  have no : ∀ c, us (gn σ) nl c → c ≠ 0 → ¬ ca c = ca 0 := fun c hc hn => hin.ne hc (usS (by decide)) hn
  have nS : ∀ c, c < 14 → c ≠ 0 → ¬ ca c = ca 0 := fun c hc hn => no c (usS hc) hn
  exact ⟨hin, hne, hs, hB.keep ho (fun c hc hr => no c hc (by omega)) (fun z => (hne 0 (usS (by decide))).1 z.symm) (fun z => (hne 0 (usS (by decide))).2 (by decide) z.symm), hs0.keep ho (nS 5 (by decide) (by decide)) (nS 6 (by decide) (by decide)) (nS 7 (by decide) (by decide)), hs1.keep ho (nS 8 (by decide) (by decide)) (nS 9 (by decide) (by decide)) (nS 10 (by decide) (by decide)), hdr.keep ho (nS 11 (by decide) (by decide)) (nS 12 (by decide) (by decide)), x_keep hse ho (nS 13 (by decide) (by decide))⟩
theorem CW.store (h : CW G ca σ nl num rp f sn H) {s : Nat} (hs : s < 2) {hb : Nat → Bool} {tg : Nat → Nat} (hST : ST G (ca (5 + 3 * s)) (ca (5 + 3 * s + 1)) (ca (5 + 3 * s + 2)) hb tg H1) (ho : x_off (fun q => q = ca (5 + 3 * s + 1) ∨ q = ca (5 + 3 * s + 2)) H H1) {h' : Nat → Nat → Bool} {g' : Nat → Nat → Nat} (e1 : h' s = hb) (e2 : h' (1 - s) = gh σ (1 - s)) (e3 : g' s = tg) (e4 : g' (1 - s) = gg σ (1 - s)) : CW G ca (gn σ, gp σ, gt σ, h', g', ga σ) nl num rp f sn H1 := by
  obtain ⟨hin, hne, hO, hB, hs0, hs1, hdr, hse⟩ := h
  have no : ∀ c, us (gn σ) nl c → c ≠ 5 + 3 * s + 1 → c ≠ 5 + 3 * s + 2 → ¬ (ca c = ca (5 + 3 * s + 1) ∨ ca c = ca (5 + 3 * s + 2)) := fun c hc h1 h2 => by
    rintro (z | z)
    · exact hin.ne hc (usS (by omega)) h1 z
    · exact hin.ne hc (usS (by omega)) h2 z
  have nS : ∀ c, c < 14 → c ≠ 5 + 3 * s + 1 → c ≠ 5 + 3 * s + 2 → ¬ (ca c = ca (5 + 3 * s + 1) ∨ ca c = ca (5 + 3 * s + 2)) := fun c hc h1 h2 => no c (usS hc) h1 h2
  have hsa : ¬ (x_sa G = ca (5 + 3 * s + 1) ∨ x_sa G = ca (5 + 3 * s + 2)) := by
    rintro (z | z)
    · exact (hne _ (usS (by omega))).1 z.symm
    · exact (hne _ (usS (by omega))).1 z.symm
  have hst : ¬ (x_t G = ca (5 + 3 * s + 1) ∨ x_t G = ca (5 + 3 * s + 2)) := by
    rintro (z | z)
    · exact (hne _ (usS (by omega))).2 (by omega) z.symm
    · exact (hne _ (usS (by omega))).2 (by omega) z.symm
  have hB' := hB.keep ho (fun c hc hr => no c hc (by omega) (by omega)) hsa hst
  have hO' := x_keep hO ho (nS 0 (by omega) (by omega) (by omega))
  have hdr' := hdr.keep ho (nS 11 (by omega) (by omega) (by omega)) (nS 12 (by omega) (by omega) (by omega))
  have hse' := x_keep hse ho (nS 13 (by omega) (by omega) (by omega))
  have hs2 : s = 0 ∨ s = 1 := by omega
  rcases hs2 with rfl | rfl
  · refine ⟨hin, hne, hO', hB', ?_, ?_, hdr', hse'⟩
    · show ST G _ _ _ (h' 0) (g' 0) H1
      rw [e1, e3]; exact hST
    · show ST G _ _ _ (h' 1) (g' 1) H1
      rw [show h' 1 = gh σ 1 from e2, show g' 1 = gg σ 1 from e4]
      exact hs1.keep ho (nS 8 (by omega) (by omega) (by omega)) (nS 9 (by omega) (by omega) (by omega)) (nS 10 (by omega) (by omega) (by omega))
  · refine ⟨hin, hne, hO', hB', ?_, ?_, hdr', hse'⟩
    · show ST G _ _ _ (h' 0) (g' 0) H1
      rw [show h' 0 = gh σ 0 from e2, show g' 0 = gg σ 0 from e4]
      exact hs0.keep ho (nS 5 (by omega) (by omega) (by omega)) (nS 6 (by omega) (by omega) (by omega)) (nS 7 (by omega) (by omega) (by omega))
    · show ST G _ _ _ (h' 1) (g' 1) H1
      rw [e1, e3]; exact hST
end KQ
theorem gSet_self (h : Nat → Nat → Bool) (s i : Nat) : gSet h s i true s = hOr (h s) i := funext fun j => by
  unfold gSet hOr
  by_cases e : j = i
  · rw [if_pos ⟨rfl, e⟩, decide_eq_true e, Bool.or_true]
  · rw [if_neg (fun z => e z.2), decide_eq_false e, Bool.or_false]
theorem gSet_ne (h : Nat → Nat → Bool) {s s' : Nat} (i : Nat) (v : Bool) (hn : s' ≠ s) : gSet h s i v s' = h s' := funext fun j => if_neg (fun z => hn z.1)
theorem tSet_self (g : Nat → Nat → Nat) (s t v : Nat) : tSet g s t v s = va_up (g s) t v := funext fun j => by
  unfold tSet va_up
  by_cases e : j = t
  · rw [if_pos ⟨rfl, e⟩, if_pos e]
  · rw [if_neg (fun z => e z.2), if_neg e]
theorem tSet_ne (g : Nat → Nat → Nat) {s s' : Nat} (t v : Nat) (hn : s' ≠ s) : tSet g s t v s' = g s' := funext fun j => if_neg (fun z => hn z.1)
/-- what a call leaves: the answer, the world, nothing else that was there changed -/
def CO (G : x_G) (ca : Nat → Nat) (σ : Sg) (nl : Nat) (q : Int32 × Sg) : Option Value → Heap → Heap → Prop := fun r H H1 => r = some (.int q.1) ∧ (∃ ca' nl' num' rp' f' sn', CW G ca' q.2 nl' num' rp' f' sn' H1 ∧ cNum q.2 nl' num' rp' ∧ (∀ c, us (gn q.2) nl' c → (∃ c', us (gn σ) nl c' ∧ ca' c = ca c') ∨ H.size ≤ ca' c) ∧ ca' 0 = ca 0) ∧ x_off (cA G ca (gn σ) nl) H H1
theorem CO_same {G : x_G} {ca : Nat → Nat} {σ : Sg} {nl : Nat} {num rp : Nat → Nat} {f : Nat → Int64} {sn : Nat → Int32} {q : Int32 × Sg} {H H1 : Heap} (hw : CW G ca q.2 nl num rp f sn H1) (hN : cNum q.2 nl num rp) (hg : gn q.2 = gn σ) (ho : x_off (cA G ca (gn σ) nl) H H1) : CO G ca σ nl q (some (.int q.1)) H H1 := ⟨rfl, ⟨ca, nl, num, rp, f, sn, hw, hN, fun c hc => Or.inl ⟨c, by rw [← hg]; exact hc, rfl⟩, rfl⟩, ho⟩
section WR
variable (l : Launch) (G : x_G) (ca : Nat → Nat) (σ : Sg) (nl : Nat) (num rp : Nat → Nat) (f : Nat → Int64) (sn : Nat → Int32)
theorem c_IS_answerHeld (i : Nat) (hi : i < 40) : Met l y_IS_answerHeld (x_ws y_IS_answerHeld b_IS_answerHeld 2 (some .int)) (x_rm 1 0 0) (x_P G [.ref (ca 0), .int (nI i)] (CW G ca σ nl num rp f sn)) (x_Q (fun r H H1 => r = some (.int (nI i)) ∧ CW G ca (ansS σ i) nl num rp f sn H1 ∧ x_off (fun q => q = ca 0 ∨ q = ca 6) H H1)) 0 0 (fun q => q = ca 0 ∨ q = ca 6) := by
  refine x_wI (by decide +kernel) (Nat.le_of_ble_eq_true rfl) (fun p e s m args below meth c F hK hP ls hl Q hret => ?_)
  have hl : lv_has ls 2 [(0, .ref (ca 0)), (1, .int (nI i))] := hl
  have hS : va_S (fun q => q = ca 0 ∨ q = ca 6) s.heap s.heap [] := va_S.rf
  obtain ⟨hin, hne, hO, hB, hs0, hs1, hdr, hse⟩ := id hP
  obtain ⟨hZ, ⟨ci, ei, hIm, hie⟩, ⟨cy, ey, hLy, hle⟩, hig, htg, hlg⟩ := id hB
  obtain ⟨⟨mo1, hA1⟩, -⟩ := id hIm
  obtain ⟨⟨mo3, hA3⟩, -⟩ := id hLy
  have hT5 := hs0.1
  have hT8 := hs1.1
  have hT11 := hdr.1
  have k21 : ∀ (a' : Int32), a' = (if gh σ 0 i = true then ga σ + 1 else ga σ) → ∀ (H : Heap) (locs : List Loc), CW G ca (gn σ, gp σ, gt σ, gh σ, gg σ, a') nl num rp f sn H → va_S (fun q => q = ca 0 ∨ q = ca 6) s.heap H locs → ∀ ls : Array Slot, lv_has ls 2 [(0, .ref (ca 0)), (1, .int (nI i))] → W p l e (x_rm 1 0 0) s m args below meth c H locs 0 0 Q (F0 m 21 ls []) := by
    intro a' ha' H locs hP1 hS ls hl
    have hP := hP1
    obtain ⟨hin, hne, hO, hB, hs0, hs1, hdr, hse⟩ := id hP
    obtain ⟨hZ, ⟨ci, ei, hIm, hie⟩, ⟨cy, ey, hLy, hle⟩, hig, htg, hlg⟩ := id hB
    obtain ⟨⟨mo1, hA1⟩, -⟩ := id hIm
    obtain ⟨⟨mo3, hA3⟩, -⟩ := id hLy
    have hT5 := hs0.1
    have hT8 := hs1.1
    have hT11 := hdr.1
    refine lv_aload_n F.1 F.2.1 d_IS_answerHeld_21 rfl (lv_at hl 0 rfl) ?_
    refine x_get F hK hO rfl i_IS 2 (by decide) k160 rfl rfl d_IS_answerHeld_22 ?_
    refine lv_iload_n F.1 F.2.1 d_IS_answerHeld_25 rfl (lv_at hl 1 rfl) ?_
    refine x_wr (x_V (n := 1) (As := [.int (nI i)]) F (c_ST_hold l G (ca 5) (ca 6) (ca 7) (gh σ 0) (gg σ 0) i (by omega)) ok_ST_hold k285 ⟨Nat.le_of_ble_eq_true rfl, Nat.le_of_ble_eq_true rfl⟩ rfl rfl hK (x_rcv hK hT5 rfl) (hs0) rfl hl.1 rfl (Nat.le_of_ble_eq_true rfl) d_IS_answerHeld_26 ⟨Nat.le_of_ble_eq_true rfl, Nat.le_of_ble_eq_true rfl⟩) hS (fun _ h => Or.inr h) (fun _ _ h => h.2.2.mono (fun _ z => Or.inr z)) (fun v H1 locs hpost hS => ?_)
    obtain ⟨rfl, hST, ho⟩ := hpost
    refine lv_iload_n F.1 F.2.1 d_IS_answerHeld_29 rfl (lv_at hl 1 rfl) ?_
    refine hret _ _ _ _ _ _ _ d_IS_answerHeld_30 ⟨rfl, ?_, hS.off⟩ hS.2.2 (Nat.le_refl _) (Nat.le_refl _)
    have hw := hP1.store (s := 0) (by decide) hST (ho.mono (fun _ z => Or.inl z)) (h' := gSet (gh σ) 0 i true) (g' := gg σ) (gSet_self _ _ _) (gSet_ne _ _ _ (by decide)) rfl rfl
    rw [ha'] at hw
    exact hw
  refine lv_aload_n F.1 F.2.1 d_IS_answerHeld_0 rfl (lv_at hl 0 rfl) ?_
  refine x_get F hK hO rfl i_IS 2 (by decide) k160 rfl rfl d_IS_answerHeld_1 ?_
  refine lv_iload_n F.1 F.2.1 d_IS_answerHeld_4 rfl (lv_at hl 1 rfl) ?_
  refine x_rd (x_V (n := 1) (As := [.int (nI i)]) F (c_ST_holds l G (ca 5) (ca 6) (ca 7) (gh σ 0) (gg σ 0) (nI i)) ok_ST_holds k192 ⟨Nat.le_of_ble_eq_true rfl, Nat.le_of_ble_eq_true rfl⟩ rfl rfl hK (x_rcv hK hT5 rfl) (hs0) rfl hl.1 rfl (Nat.le_of_ble_eq_true rfl) d_IS_answerHeld_5 ⟨Nat.le_of_ble_eq_true rfl, Nat.le_of_ble_eq_true rfl⟩) ?_
  rw [inS_n _ hi]
  refine x_beq (tgt := 21) F d_IS_answerHeld_8 (by decide) (fun c8 => ?_) (fun c8 => ?_)
  · exact k21 (ga σ) (by rw [if_neg (by rw [c8]; decide)]) _ _ hP hS ls hl
  · refine lv_aload_n F.1 F.2.1 d_IS_answerHeld_11 rfl (lv_at hl 0 rfl) ?_
    refine lv_dup F.1 F.2.1 d_IS_answerHeld_12 rfl ?_
    refine x_get F hK hO rfl i_IS 6 (by decide) k164 rfl rfl d_IS_answerHeld_13 ?_
    refine lv_iconst (v := 1) F.1 F.2.1 d_IS_answerHeld_16 (by decide) ?_
    refine lv_iadd F.1 F.2.1 d_IS_answerHeld_17 ?_
    refine x_put F hK hO rfl i_IS t_IS p_IS n_IS 6 (by decide) k164 rfl rfl rfl rfl (Nat.le_of_ble_eq_true rfl) hS (Or.inl rfl) d_IS_answerHeld_18 (fun H2 locs hO hz2 ho2 hS => ?_)
    have hO : va_at G.1 x_cl ((ca 0), .inr (5, [.ref (ca 1), .ref (ca 3), .ref (ca 5), .ref (ca 8), .ref (ca 11), .ref (ca 13), .int ((ga σ) + 1)])) H2 := hO
    exact k21 (ga σ + 1) (by rw [if_pos c8]) _ _ (hP.obj hO ⟨by rw [hz2]; exact Nat.le_refl _, fun q _ h => ho2 q h⟩) hS ls hl
def sS (σ : Sg) (num : Nat → Nat) (s i j k : Nat) : Bool := snS σ num s i k || decide (k ∈ (nuL (gp σ) num i).take j)
theorem snS_s (σ : Sg) (num : Nat → Nat) (s i k : Nat) : snS σ num s (i + 1) k = (snS σ num s i k || (gh σ s i && decide (k ∈ nuL (gp σ) num i))) := by
  unfold snS nuL
  rw [List.range_succ, List.any_append]
  simp
theorem c_IS_seeLayersOf (s0 : Nat) (hs0' : s0 < 2) (hok : gI σ) (hN : cNum σ nl num rp) : Met l y_IS_seeLayersOf (x_ws y_IS_seeLayersOf b_IS_seeLayersOf 7 none) (x_rm 3 0 0) (x_P G [.ref (ca 0), .ref (ca (5 + 3 * s0))] (CW G ca σ nl num rp f sn)) (x_Q (fun r H H1 => r = none ∧ CW G ca σ nl num rp f (fun k => x_b (snS σ num s0 (gn σ) k)) H1 ∧ x_off (fun q => q = ca 13) H H1)) 0 0 (fun q => q = ca 13) := by
  refine x_wV (by decide +kernel) (Nat.le_of_ble_eq_true rfl) (fun p e s m args below meth c F hnm hK hP ls hl Q hret => ?_)
  have hl : lv_has ls 7 [(0, .ref (ca 0)), (1, .ref (ca (5 + 3 * s0)))] := hl
  have hS : va_S (fun q => q = ca 13) s.heap s.heap [] := va_S.rf
  have hP0 := hP
  have hn40 := hok.1.2.1
  have hnl := hN.1
  have hpr := hok.1.2.2.1
  obtain ⟨hin, hne, hO, hB, hs0, hs1, hdr, hse⟩ := id hP
  obtain ⟨hZ, ⟨ci, ei, hIm, hie⟩, ⟨cy, ey, hLy, hle⟩, hig, htg, hlg⟩ := id hB
  obtain ⟨⟨mo1, hA1⟩, -⟩ := id hIm
  obtain ⟨⟨mo3, hA3⟩, -⟩ := id hLy
  have hT5 := hs0.1
  have hT8 := hs1.1
  have hT11 := hdr.1
  have loop2 : ∀ (d i : Nat), i + d = gn σ → ∀ (H : Heap) (locs : List Loc), x_az G (ca 13) 40 (fun k => x_b (snS σ num s0 i k)) H → va_S (fun q => q = ca 13) s.heap H locs → ∀ ls : Array Slot, lv_has ls 7 [(2, .int (nI i)), (0, .ref (ca 0)), (1, .ref (ca (5 + 3 * s0)))] → W p l e (x_rm 3 0 0) s m args below meth c H locs 0 0 Q (F0 m 26 ls []) := by
    intro d
    induction d with
    | zero =>
      intro i hd H locs hse hS ls hl
      have hP := hP0.seen hse hS.off
      obtain ⟨hin, hne, hO, hB, hs0, hs1, hdr, hse⟩ := id hP
      obtain ⟨hZ, ⟨ci, ei, hIm, hie⟩, ⟨cy, ey, hLy, hle⟩, hig, htg, hlg⟩ := id hB
      obtain ⟨⟨mo1, hA1⟩, -⟩ := id hIm
      obtain ⟨⟨mo3, hA3⟩, -⟩ := id hLy
      have hT5 := hs0.1
      have hT8 := hs1.1
      have hT11 := hdr.1
      refine lv_iload_n F.1 F.2.1 d_IS_seeLayersOf_26 rfl (lv_at hl 0 rfl) ?_
      refine lv_aload_n F.1 F.2.1 d_IS_seeLayersOf_27 rfl (lv_at hl 1 rfl) ?_
      refine x_get F hK hO rfl i_IS 0 (by decide) k158 rfl rfl d_IS_seeLayersOf_28 ?_
      refine x_rd (x_V (n := 0) (As := []) F (c_AL_size l G (ca 1) (ca 2) ci (gn σ) ei) ok_AL_size k188 ⟨Nat.le_of_ble_eq_true rfl, Nat.le_of_ble_eq_true rfl⟩ rfl rfl hK (x_rcv hK hA1 rfl) (hIm) rfl hl.1 rfl (Nat.le_of_ble_eq_true rfl) d_IS_seeLayersOf_31 ⟨Nat.le_of_ble_eq_true rfl, Nat.le_of_ble_eq_true rfl⟩) ?_
      refine lv_icmp_ge (tgt := 100) F.1 F.2.1 d_IS_seeLayersOf_34 (by decide) (fun _ => ?_) (fun zq => absurd (pN_le (a := (gn σ)) (b := i) rfl rfl (by omega) (by omega) (by omega)) zq)
      obtain rfl : i = gn σ := by omega
      exact hret _ _ _ _ _ _ d_IS_seeLayersOf_100 ⟨rfl, hP, hS.off⟩ hS.2.2 (Nat.le_refl _) (Nat.le_refl _)
    | succ d ih =>
      intro i hd H locs hse hS ls hl
      have hP := hP0.seen hse hS.off
      have hi : i < gn σ := by omega
      have nxt : ∀ (H : Heap) (locs : List Loc), x_az G (ca 13) 40 (fun k => x_b (snS σ num s0 (i + 1) k)) H → va_S (fun q => q = ca 13) s.heap H locs → ∀ ls : Array Slot, lv_has ls 7 [(2, .int (nI i)), (0, .ref (ca 0)), (1, .ref (ca (5 + 3 * s0)))] → W p l e (x_rm 3 0 0) s m args below meth c H locs 0 0 Q (F0 m 94 ls []) := by
        intro H locs hse hS ls hl
        refine lv_iinc (v := (nI (i + 1))) (lv' := [(2, .int (nI (i + 1))), (0, .ref (ca 0)), (1, .ref (ca (5 + 3 * s0)))]) F.1 F.2.1 d_IS_seeLayersOf_94 hl (k := 0) rfl (nI_1 i) (by decide) rfl (fun ls hl => ?_)
        refine lv_goto (tgt := 26) F.1 F.2.1 d_IS_seeLayersOf_97 (by decide) ?_
        exact ih (i + 1) (by omega) _ _ hse hS ls hl
      obtain ⟨hin, hne, hO, hB, hs0, hs1, hdr, hse⟩ := id hP
      obtain ⟨hZ, ⟨ci, ei, hIm, hie⟩, ⟨cy, ey, hLy, hle⟩, hig, htg, hlg⟩ := id hB
      obtain ⟨⟨mo1, hA1⟩, -⟩ := id hIm
      obtain ⟨⟨mo3, hA3⟩, -⟩ := id hLy
      have hT5 := hs0.1
      have hT8 := hs1.1
      have hT11 := hdr.1
      have hST := hP.st hs0'
      have hTs := hST.1
      refine lv_iload_n F.1 F.2.1 d_IS_seeLayersOf_26 rfl (lv_at hl 0 rfl) ?_
      refine lv_aload_n F.1 F.2.1 d_IS_seeLayersOf_27 rfl (lv_at hl 1 rfl) ?_
      refine x_get F hK hO rfl i_IS 0 (by decide) k158 rfl rfl d_IS_seeLayersOf_28 ?_
      refine x_rd (x_V (n := 0) (As := []) F (c_AL_size l G (ca 1) (ca 2) ci (gn σ) ei) ok_AL_size k188 ⟨Nat.le_of_ble_eq_true rfl, Nat.le_of_ble_eq_true rfl⟩ rfl rfl hK (x_rcv hK hA1 rfl) (hIm) rfl hl.1 rfl (Nat.le_of_ble_eq_true rfl) d_IS_seeLayersOf_31 ⟨Nat.le_of_ble_eq_true rfl, Nat.le_of_ble_eq_true rfl⟩) ?_
      refine lv_icmp_ge (tgt := 100) F.1 F.2.1 d_IS_seeLayersOf_34 (by decide) (fun zq => absurd zq (pN_nle (a := (gn σ)) (b := i) rfl rfl (by omega) (by omega) (by omega))) (fun _ => ?_)
      refine lv_aload_n F.1 F.2.1 d_IS_seeLayersOf_37 rfl (lv_at hl 2 rfl) ?_
      refine lv_iload_n F.1 F.2.1 d_IS_seeLayersOf_38 rfl (lv_at hl 0 rfl) ?_
      refine x_rd (x_V (n := 1) (As := [.int (nI i)]) F (c_ST_holds l G (ca (5 + 3 * s0)) (ca (5 + 3 * s0 + 1)) (ca (5 + 3 * s0 + 2)) (gh σ s0) (gg σ s0) (nI i)) ok_ST_holds k192 ⟨Nat.le_of_ble_eq_true rfl, Nat.le_of_ble_eq_true rfl⟩ rfl rfl hK (x_rcv hK hTs rfl) (hST) rfl hl.1 rfl (Nat.le_of_ble_eq_true rfl) d_IS_seeLayersOf_39 ⟨Nat.le_of_ble_eq_true rfl, Nat.le_of_ble_eq_true rfl⟩) ?_
      rw [inS_n _ (by omega)]
      refine x_beq (tgt := 94) F d_IS_seeLayersOf_42 (by decide) (fun c42 => ?_) (fun c42 => ?_)
      · refine nxt _ _ (x_az.cg hse (fun k _ => ?_)) hS ls hl
        show x_b (snS σ num s0 i k) = x_b (snS σ num s0 (i + 1) k)
        rw [snS_s, c42]; simp
      · refine lv_aload_n F.1 F.2.1 d_IS_seeLayersOf_45 rfl (lv_at hl 1 rfl) ?_
        refine x_get F hK hO rfl i_IS 0 (by decide) k158 rfl rfl d_IS_seeLayersOf_46 ?_
        refine lv_iload_n F.1 F.2.1 d_IS_seeLayersOf_49 rfl (lv_at hl 0 rfl) ?_
        refine x_rd (x_V (n := 1) (As := [.int (nI i)]) F (c_AL_get l G (ca 1) (ca 2) ci (gn σ) ei i (cI ca i) hi (by omega) (hie i hi)) ok_AL_get k196 ⟨Nat.le_of_ble_eq_true rfl, Nat.le_of_ble_eq_true rfl⟩ rfl rfl hK (x_rcv hK hA1 rfl) (hIm) rfl hl.1 rfl (Nat.le_of_ble_eq_true rfl) d_IS_seeLayersOf_50 ⟨Nat.le_of_ble_eq_true rfl, Nat.le_of_ble_eq_true rfl⟩) ?_
        have hI_i := (hig i hi).1
        have hN_i := (hig i hi).2.1
        have hX_i := htg i hi
        have hU_i := hX_i.1
        refine va_castY F.1 F.2.1 F.2.2.2.1 (F.2.2.2.2 _ k85) (hK.2.1 _ (List.mem_of_getElem? (i := 5) rfl)) (x_rcv hK hI_i rfl) d_IS_seeLayersOf_53 ?_
        have hli := cn_len hpr i i (Nat.le_refl _)
        have hnu := nuL_len (gp σ) num i
        refine x_getN F hK hI_i rfl i_IM 2 (by decide) 2 rfl rfl rfl d_IS_seeLayersOf_56 ?_
        refine lv_astore_n (lv' := [(3, .ref (cN ca i)), (2, .int (nI i)), (0, .ref (ca 0)), (1, .ref (ca (5 + 3 * s0)))]) F.1 F.2.1 d_IS_seeLayersOf_59 rfl hl (by decide) rfl (fun ls hl => ?_)
        refine lv_aload_n F.1 F.2.1 d_IS_seeLayersOf_60 rfl (lv_at hl 0 rfl) ?_
        refine x_alen F hK hN_i 0 rfl d_IS_seeLayersOf_61 ?_
        refine lv_istore (lv' := [(4, .int (nI ((nuL (gp σ) num i).length))), (3, .ref (cN ca i)), (2, .int (nI i)), (0, .ref (ca 0)), (1, .ref (ca (5 + 3 * s0)))]) F.1 F.2.1 d_IS_seeLayersOf_62 hl (by decide) rfl (fun ls hl => ?_)
        refine lv_iconst (v := 0) F.1 F.2.1 d_IS_seeLayersOf_64 (by decide) ?_
        refine lv_istore (lv' := [(5, .int 0), (4, .int (nI ((nuL (gp σ) num i).length))), (3, .ref (cN ca i)), (2, .int (nI i)), (0, .ref (ca 0)), (1, .ref (ca (5 + 3 * s0)))]) F.1 F.2.1 d_IS_seeLayersOf_65 hl (by decide) rfl (fun ls hl => ?_)
        have loop3 : ∀ (d j : Nat), j + d = (nuL (gp σ) num i).length → ∀ (H : Heap) (locs : List Loc), x_az G (ca 13) 40 (fun k => x_b (sS σ num s0 i j k)) H → va_S (fun q => q = ca 13) s.heap H locs → ∀ ls : Array Slot, lv_has ls 7 [(5, .int (nI j)), (4, .int (nI (nuL (gp σ) num i).length)), (3, .ref (cN ca i)), (2, .int (nI i)), (0, .ref (ca 0)), (1, .ref (ca (5 + 3 * s0)))] → W p l e (x_rm 3 0 0) s m args below meth c H locs 0 0 Q (F0 m 67 ls []) := by
          intro d
          induction d with
          | zero =>
            intro j hj H locs hse hS ls hl
            refine lv_iload F.1 F.2.1 d_IS_seeLayersOf_67 (lv_at hl 0 rfl) ?_
            refine lv_iload F.1 F.2.1 d_IS_seeLayersOf_69 (lv_at hl 1 rfl) ?_
            refine lv_icmp_ge (tgt := 94) F.1 F.2.1 d_IS_seeLayersOf_71 (by decide) (fun _ => ?_) (fun zq => absurd (pN_le (a := ((nuL (gp σ) num i).length)) (b := j) rfl rfl (by omega) (by omega) (by omega)) zq)
            refine nxt _ _ (x_az.cg hse (fun k _ => ?_)) hS ls (lv_sub hl [3, 4, 5] rfl)
            show x_b (sS σ num s0 i j k) = x_b (snS σ num s0 (i + 1) k)
            unfold sS
            rw [snS_s, c42, List.take_of_length_le (by omega)]; simp
          | succ d ihj =>
            intro j hj H locs hse hS ls hl
            have hP := hP0.seen hse hS.off
            have hjl : j < (cn (gp σ) i).length := by omega
            have hm := cn_at hpr hjl
            have hx := hN.2.2.1 _ hm.1 (by omega)
            obtain ⟨hin, hne, hO, hB, hs0, hs1, hdr, hse⟩ := id hP
            obtain ⟨hZ, ⟨ci, ei, hIm, hie⟩, ⟨cy, ey, hLy, hle⟩, hig, htg, hlg⟩ := id hB
            obtain ⟨⟨mo1, hA1⟩, -⟩ := id hIm
            obtain ⟨⟨mo3, hA3⟩, -⟩ := id hLy
            have hT5 := hs0.1
            have hT8 := hs1.1
            have hT11 := hdr.1
            have hN_i := (hig i hi).2.1
            refine lv_iload F.1 F.2.1 d_IS_seeLayersOf_67 (lv_at hl 0 rfl) ?_
            refine lv_iload F.1 F.2.1 d_IS_seeLayersOf_69 (lv_at hl 1 rfl) ?_
            refine lv_icmp_ge (tgt := 94) F.1 F.2.1 d_IS_seeLayersOf_71 (by decide) (fun zq => absurd zq (pN_nle (a := ((nuL (gp σ) num i).length)) (b := j) rfl rfl (by omega) (by omega) (by omega))) (fun _ => ?_)
            refine lv_aload_n F.1 F.2.1 d_IS_seeLayersOf_74 rfl (lv_at hl 2 rfl) ?_
            refine lv_iload F.1 F.2.1 d_IS_seeLayersOf_75 (lv_at hl 0 rfl) ?_
            refine x_ialdN F hK hN_i (by omega) (by omega) d_IS_seeLayersOf_77 ?_
            rw [nuL_at hjl]
            refine lv_istore (lv' := [(6, .int (nI (num ((cn (gp σ) i).getD j 0)))), (5, .int (nI j)), (4, .int (nI (nuL (gp σ) num i).length)), (3, .ref (cN ca i)), (2, .int (nI i)), (0, .ref (ca 0)), (1, .ref (ca (5 + 3 * s0)))]) F.1 F.2.1 d_IS_seeLayersOf_78 hl (by decide) rfl (fun ls hl => ?_)
            refine lv_aload_n F.1 F.2.1 d_IS_seeLayersOf_80 rfl (lv_at hl 5 rfl) ?_
            refine x_get F hK hO rfl i_IS 5 (by decide) k163 rfl rfl d_IS_seeLayersOf_81 ?_
            refine lv_iload F.1 F.2.1 d_IS_seeLayersOf_84 (lv_at hl 0 rfl) ?_
            refine lv_iconst (v := 1) F.1 F.2.1 d_IS_seeLayersOf_86 (by decide) ?_
            refine x_zastN F hK hse (by first | rfl | decide) (by decide) (by omega) hS rfl d_IS_seeLayersOf_87 (fun H3 locs hse hz3 ho3 hS => ?_)
            have hO := va_at.kept hO (ho3 _ (hin.ne (usS (by decide)) (usS (by decide)) (by decide)))
            refine lv_iinc (v := (nI (j + 1))) (lv' := [(5, .int (nI (j + 1))), (6, .int (nI (num ((cn (gp σ) i).getD j 0)))), (4, .int (nI (nuL (gp σ) num i).length)), (3, .ref (cN ca i)), (2, .int (nI i)), (0, .ref (ca 0)), (1, .ref (ca (5 + 3 * s0)))]) F.1 F.2.1 d_IS_seeLayersOf_88 hl (k := 1) rfl (nI_1 j) (by decide) rfl (fun ls hl => ?_)
            refine lv_goto (tgt := 67) F.1 F.2.1 d_IS_seeLayersOf_91 (by decide) ?_
            refine ihj (j + 1) (by omega) _ _ (x_az.cg hse (fun k _ => ?_)) hS ls (lv_sub hl [0, 2, 3, 4, 5, 6] rfl)
            unfold upd sS
            have ht : (nuL (gp σ) num i).take (j + 1) = (nuL (gp σ) num i).take j ++ [num ((cn (gp σ) i).getD j 0)] := by
              rw [List.take_add_one, List.getElem?_eq_getElem (by omega : j < (nuL (gp σ) num i).length)]
              congr 1
              have := nuL_at (num := num) hjl
              rw [List.getD_eq_getElem?_getD, List.getElem?_eq_getElem (by omega : j < (nuL (gp σ) num i).length)] at this
              show [(nuL (gp σ) num i)[j]] = _
              rw [← this]; rfl
            rw [ht]
            clear ht
            generalize num ((cn (gp σ) i).getD j 0) = y
            by_cases e : k = y
            · rw [if_pos e]; simp [e, x_b]
            · rw [if_neg e]; simp [e]
        refine loop3 (nuL (gp σ) num i).length 0 (by omega) _ _ (x_az.cg hse (fun k _ => ?_)) hS ls (lv_sub hl [0, 1, 2, 3, 4, 5] rfl)
        show x_b (snS σ num s0 i k) = x_b (sS σ num s0 i 0 k)
        unfold sS
        simp
  have loop1 : ∀ (d i : Nat), i + d = 40 → ∀ (H : Heap) (locs : List Loc), x_az G (ca 13) 40 (fillI sn 0 i) H → va_S (fun q => q = ca 13) s.heap H locs → ∀ ls : Array Slot, lv_has ls 7 [(2, .int (nI i)), (0, .ref (ca 0)), (1, .ref (ca (5 + 3 * s0)))] → W p l e (x_rm 3 0 0) s m args below meth c H locs 0 0 Q (F0 m 2 ls []) := by
    intro d
    induction d with
    | zero =>
      intro i hd H locs hse hS ls hl
      have hP := hP0.seen hse hS.off
      obtain ⟨hin, hne, hO, hB, hs0, hs1, hdr, hse⟩ := id hP
      obtain ⟨hZ, ⟨ci, ei, hIm, hie⟩, ⟨cy, ey, hLy, hle⟩, hig, htg, hlg⟩ := id hB
      obtain ⟨⟨mo1, hA1⟩, -⟩ := id hIm
      obtain ⟨⟨mo3, hA3⟩, -⟩ := id hLy
      have hT5 := hs0.1
      have hT8 := hs1.1
      have hT11 := hdr.1
      refine lv_iload_n F.1 F.2.1 d_IS_seeLayersOf_2 rfl (lv_at hl 0 rfl) ?_
      refine lv_aload_n F.1 F.2.1 d_IS_seeLayersOf_3 rfl (lv_at hl 1 rfl) ?_
      refine x_get F hK hO rfl i_IS 5 (by decide) k163 rfl rfl d_IS_seeLayersOf_4 ?_
      refine x_alen F hK hse 2 rfl d_IS_seeLayersOf_7 ?_
      refine lv_icmp_ge (tgt := 24) F.1 F.2.1 d_IS_seeLayersOf_8 (by decide) (fun _ => ?_) (fun zq => absurd (pN_le (a := 40) (b := i) rfl rfl (by omega) (by omega) (by omega)) zq)
      refine lv_iconst (v := 0) F.1 F.2.1 d_IS_seeLayersOf_24 (by decide) ?_
      refine lv_istore_n (lv' := [(2, .int 0), (0, .ref (ca 0)), (1, .ref (ca (5 + 3 * s0)))]) F.1 F.2.1 d_IS_seeLayersOf_25 rfl hl (by decide) rfl (fun ls hl => ?_)
      exact loop2 (gn σ) 0 (by omega) _ _ (x_az.cg hse (fun k hk => if_pos (by omega))) hS ls (lv_sub hl [0, 1, 2] rfl)
    | succ d ih =>
      intro i hd H locs hse hS ls hl
      have hP := hP0.seen hse hS.off
      obtain ⟨hin, hne, hO, hB, hs0, hs1, hdr, hse⟩ := id hP
      obtain ⟨hZ, ⟨ci, ei, hIm, hie⟩, ⟨cy, ey, hLy, hle⟩, hig, htg, hlg⟩ := id hB
      obtain ⟨⟨mo1, hA1⟩, -⟩ := id hIm
      obtain ⟨⟨mo3, hA3⟩, -⟩ := id hLy
      have hT5 := hs0.1
      have hT8 := hs1.1
      have hT11 := hdr.1
      refine lv_iload_n F.1 F.2.1 d_IS_seeLayersOf_2 rfl (lv_at hl 0 rfl) ?_
      refine lv_aload_n F.1 F.2.1 d_IS_seeLayersOf_3 rfl (lv_at hl 1 rfl) ?_
      refine x_get F hK hO rfl i_IS 5 (by decide) k163 rfl rfl d_IS_seeLayersOf_4 ?_
      refine x_alen F hK hse 2 rfl d_IS_seeLayersOf_7 ?_
      refine lv_icmp_ge (tgt := 24) F.1 F.2.1 d_IS_seeLayersOf_8 (by decide) (fun zq => absurd zq (pN_nle (a := 40) (b := i) rfl rfl (by omega) (by omega) (by omega))) (fun _ => ?_)
      refine lv_aload_n F.1 F.2.1 d_IS_seeLayersOf_11 rfl (lv_at hl 1 rfl) ?_
      refine x_get F hK hO rfl i_IS 5 (by decide) k163 rfl rfl d_IS_seeLayersOf_12 ?_
      refine lv_iload_n F.1 F.2.1 d_IS_seeLayersOf_15 rfl (lv_at hl 0 rfl) ?_
      refine lv_iconst (v := 0) F.1 F.2.1 d_IS_seeLayersOf_16 (by decide) ?_
      refine x_zastN F hK hse (by first | rfl | decide) (by decide) (by omega) hS rfl d_IS_seeLayersOf_17 (fun H4 locs hse hz4 ho4 hS => ?_)
      have hO := va_at.kept hO (ho4 _ (hin.ne (usS (by decide)) (usS (by decide)) (by decide)))
      refine lv_iinc (v := (nI (i + 1))) (lv' := [(2, .int (nI (i + 1))), (0, .ref (ca 0)), (1, .ref (ca (5 + 3 * s0)))]) F.1 F.2.1 d_IS_seeLayersOf_18 hl (k := 0) rfl (nI_1 i) (by decide) rfl (fun ls hl => ?_)
      refine lv_goto (tgt := 2) F.1 F.2.1 d_IS_seeLayersOf_21 (by decide) ?_
      exact ih (i + 1) (by omega) _ _ (by rw [← fillI_s]; exact hse) hS ls hl
  refine lv_iconst (v := 0) F.1 F.2.1 d_IS_seeLayersOf_0 (by decide) ?_
  refine lv_istore_n (lv' := [(2, .int 0), (0, .ref (ca 0)), (1, .ref (ca (5 + 3 * s0)))]) F.1 F.2.1 d_IS_seeLayersOf_1 rfl hl (by decide) rfl (fun ls hl => ?_)
  exact loop1 40 0 rfl _ _ (x_az.cg hse (fun k _ => (if_neg (Nat.not_lt_zero k)).symm)) hS ls hl
  end WR

