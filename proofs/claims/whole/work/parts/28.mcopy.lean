/-! ===== the model: copy, change ===== -/
/-- what a step leaves: the work as o says, or as it was -/
def MS (G : x_G) (ad : Nat → Nat) (σ : Sg) (f : Nat → Int64) (ch : Nat → Bool) (o : Option (Nat → Int64)) : Option Value → Heap → Heap → Prop := fun r H H1 => r = some (.int (x_b o.isSome)) ∧ MO G ad σ (o.getD f) ch H1 ∧ x_off (mA ad) H H1
/-- the copy, as far as the loop over all paths has come -/
def cpK (f : Nat → Int64) (a b k : Nat) : Nat → Int64 := tCp f a b (min (max k a) (en a))
theorem inR {a q : Nat} (ha : a < 125) (la : lg a = true) (hq : q < 125) : (decide (q = a) || bl q a) = true ↔ (a ≤ q ∧ q < en a ∧ lg q = true) := by
  have e := en_le a ha la
  rw [Bool.or_eq_true, decide_eq_true_eq, bl_iff a ha la q hq]
  constructor
  · rintro (rfl | ⟨h1, h2, h3⟩)
    · exact ⟨Nat.le_refl _, e.1, la⟩
    · exact ⟨by omega, h3, h1⟩
  · rintro ⟨h1, h2, h3⟩
    rcases Nat.lt_or_ge a q with h | h
    · exact Or.inr ⟨h3, h, h2⟩
    · exact Or.inl (by omega)
theorem wp_pos {a b q : Nat} (ha : a < 125) (hb : b < 125) (la : lg a = true) (lb : lg b = true) (h1 : a ≤ q) (h2 : q < en a) (lq : lg q = true) (hn : nm q + nm b ≤ 3 + nm a) : wp q a b ≠ 0 ∧ wp q a b < 125 := by
  have h := pj_put_n ha hb la lb h1 h2 lq hn
  have := lg_25 h.2.2
  omega
theorem c_MO_copy (l : Launch) (G : x_G) (ad : Nat → Nat) (σ : Sg) (f : Nat → Int64) (ch : Nat → Bool) (i j : Nat) (hi : i < 125) (hj5 : j < 125) (li : lg i = true) (lj : lg j = true) (hf : tOk f) : Met l y_MO_copy (x_ws y_MO_copy b_MO_copy 4 (some .boolean)) (x_rm 2 0 0) (x_P G [.ref (ad 0), .int (nI i), .int (nI j)] (MO G ad σ f ch)) (x_Q (MS G ad σ f ch (tCopy f i j))) 0 0 (mA ad) := by
  refine x_wZ (by decide +kernel) (Nat.le_of_ble_eq_true rfl) (fun p e s m args below meth c F hK hP ls hl Q hret => ?_)
  have hl : lv_has ls 4 [(0, .ref (ad 0)), (1, .int (nI i)), (2, .int (nI j))] := hl
  have hS : va_S (mA ad) s.heap s.heap [] := va_S.rf
  obtain ⟨he1, he2⟩ := en_le i hi li
  have hpj := pa_lt j hj5
  have h25 := lg_25 li
  obtain ⟨hO, hp, ht, hh, hg, hw, hc, hj⟩ := id hP
  have no : mayB f i j = false → ∀ (pc : Nat) (ls : Array Slot), decode b_MO_copy pc = .ok (.ireturn, 1) → W p l e (x_rm 2 0 0) s m args below meth c s.heap [] 0 0 Q (F0 m pc ls [.int 0]) := fun hm pc ls hd => hret _ _ _ false _ _ _ _ hd rfl (by unfold tCopy; rw [if_neg (by rw [hm]; decide)]; exact ⟨rfl, hP, hS.off⟩) hS.2.2 (Nat.le_refl _) (Nat.le_refl _)
  have loop2 : mayB f i j = true → ∀ (n k : Nat), k + n = 125 → 1 ≤ k → ∀ (H : Heap) (locs : List Loc), MO G ad σ (cpK f i j k) ch H → va_S (mA ad) s.heap H locs → ∀ ls : Array Slot, lv_has ls 4 [(3, .int (nI k)), (0, .ref (ad 0)), (1, .int (nI i)), (2, .int (nI j))] → W p l e (x_rm 2 0 0) s m args below meth c H locs 0 0 Q (F0 m 110 ls []) := by
    intro hmay n
    obtain ⟨hfi, hfj, hpd, hco⟩ := mayB_ok hf li lj hmay
    induction n with
    | zero =>
      intro k hn hk1 H locs hP hS ls hl
      refine lv_iload_n F.1 F.2.1 d_MO_copy_110 rfl (lv_at hl 0 rfl) ?_
      refine lv_bipush (v := 125) F.1 F.2.1 d_MO_copy_111 (by decide) ?_
      refine lv_icmp_ge (tgt := 165) F.1 F.2.1 d_MO_copy_113 (by decide) (fun _ => ?_) (fun zq => absurd (pN_le (a := 125) (b := k) rfl rfl (by omega) (by omega) (by omega)) zq)
      refine lv_iconst (v := 1) F.1 F.2.1 d_MO_copy_165 (by decide) ?_
      refine hret _ _ _ true _ _ _ _ d_MO_copy_166 rfl ?_ hS.2.2 (Nat.le_refl _) (Nat.le_refl _)
      unfold tCopy
      rw [if_pos hmay]
      unfold cpK at hP
      rw [show min (max k i) (en i) = en i by omega] at hP
      exact ⟨rfl, hP, hS.off⟩
    | succ n ih =>
      intro k hn hk1 H locs hP hS ls hl
      obtain ⟨hO, hp, ht, hh, hg, hw, hc, hj⟩ := id hP
      have skip : (i ≤ k → k < en i → f k = wABS) → ∀ ls : Array Slot, lv_has ls 4 [(3, .int (nI k)), (0, .ref (ad 0)), (1, .int (nI i)), (2, .int (nI j))] → W p l e (x_rm 2 0 0) s m args below meth c H locs 0 0 Q (F0 m 159 ls []) := by
        intro hsk ls hl
        refine lv_iinc (v := (nI (k + 1))) (lv' := [(3, .int (nI (k + 1))), (0, .ref (ad 0)), (1, .int (nI i)), (2, .int (nI j))]) F.1 F.2.1 d_MO_copy_159 hl (k := 0) rfl (nI_1 k) (by decide) rfl (fun ls hl => ?_)
        refine lv_goto (tgt := 110) F.1 F.2.1 d_MO_copy_162 (by decide) ?_
        refine ih (k + 1) (by omega) (by omega) _ _ ?_ hS ls hl
        have e : cpK f i j (k + 1) = cpK f i j k := by
          unfold cpK
          by_cases h1 : i ≤ k ∧ k < en i
          · rw [show min (max (k + 1) i) (en i) = k + 1 by omega, show min (max k i) (en i) = k by omega]
            exact (tCp_n (hsk h1.1 h1.2)).symm
          · rw [show min (max (k + 1) i) (en i) = min (max k i) (en i) by omega]
        rw [e]
        exact hP
      have k129 : (decide (k = i) || bl k i) = true → ∀ ls : Array Slot, lv_has ls 4 [(3, .int (nI k)), (0, .ref (ad 0)), (1, .int (nI i)), (2, .int (nI j))] → W p l e (x_rm 2 0 0) s m args below meth c H locs 0 0 Q (F0 m 129 ls []) := by
        intro hin ls hl
        obtain ⟨r1, r2, r3⟩ := (inR hi li (show k < 125 by omega)).mp hin
        have hcp : cpK f i j k = tCp f i j k := by unfold cpK; rw [show min (max k i) (en i) = k by omega]
        have hsrc : cpK f i j k k = f k := by rw [hcp]; exact tCp_src hco (by omega) r1 r2
        refine lv_aload_n F.1 F.2.1 d_MO_copy_129 rfl (lv_at hl 1 rfl) ?_
        refine x_get F hK hO rfl i_MO 5 (by decide) k484 rfl rfl d_MO_copy_130 ?_
        refine lv_iload_n F.1 F.2.1 d_MO_copy_133 rfl (lv_at hl 0 rfl) ?_
        refine x_laldN F hK hw (by decide) (by omega) d_MO_copy_134 ?_
        rw [hsrc]
        refine x_cst F k478 d_MO_copy_135 ?_
        refine x_leq (tgt := 159) F d_MO_copy_138 d_MO_copy_139 (by decide) (fun c138 => ?_) (fun c138 => ?_)
        · exact skip (fun _ _ => c138) ls hl
        · obtain ⟨lk, nk⟩ := hco.2.2.2.2.2 k r1 r2 c138
          have hwp := wp_pos hi hj5 li lj r1 r2 lk nk
          refine lv_aload_n F.1 F.2.1 d_MO_copy_142 rfl (lv_at hl 1 rfl) ?_
          refine x_get F hK hO rfl i_MO 5 (by decide) k484 rfl rfl d_MO_copy_143 ?_
          refine lv_iload_n F.1 F.2.1 d_MO_copy_146 rfl (lv_at hl 0 rfl) ?_
          refine lv_iload_n F.1 F.2.1 d_MO_copy_147 rfl (lv_at hl 2 rfl) ?_
          refine lv_iload_n F.1 F.2.1 d_MO_copy_148 rfl (lv_at hl 3 rfl) ?_
          refine x_rd (x_S (n := 3) (As := [.int (nI k), .int (nI i), .int (nI j)]) F (c_MO_carried l G k i j (by omega) hi hj5 li lj lk r1 r2) ok_MO_carried k558 ⟨Nat.le_of_ble_eq_true rfl, Nat.le_of_ble_eq_true rfl⟩ rfl rfl hK (trivial) rfl hl.1 rfl (Nat.le_of_ble_eq_true rfl) d_MO_copy_149 ⟨Nat.le_of_ble_eq_true rfl, Nat.le_of_ble_eq_true rfl⟩) ?_
          rw [if_pos nk]
          refine lv_aload_n F.1 F.2.1 d_MO_copy_152 rfl (lv_at hl 1 rfl) ?_
          refine x_get F hK hO rfl i_MO 5 (by decide) k484 rfl rfl d_MO_copy_153 ?_
          refine lv_iload_n F.1 F.2.1 d_MO_copy_156 rfl (lv_at hl 0 rfl) ?_
          refine x_laldN F hK hw (by decide) (by omega) d_MO_copy_157 ?_
          rw [hsrc]
          refine x_lastN F hK hw (by decide) hwp.2 hS ⟨5, by omega, rfl⟩ d_MO_copy_158 (fun H1 locs hw hz1 ho1 hS => ?_)
          have hO := va_at.kept hO (ho1 _ (hj.ne 0 5))
          have hp := va_at.kept hp (ho1 _ (hj.ne 1 5))
          have ht := va_at.kept ht (ho1 _ (hj.ne 2 5))
          have hh := va_at.kept hh (ho1 _ (hj.ne 3 5))
          have hg := va_at.kept hg (ho1 _ (hj.ne 4 5))
          have hc := va_at.kept hc (ho1 _ (hj.ne 6 5))
          refine lv_iinc (v := (nI (k + 1))) (lv' := [(3, .int (nI (k + 1))), (0, .ref (ad 0)), (1, .int (nI i)), (2, .int (nI j))]) F.1 F.2.1 d_MO_copy_159 hl (k := 0) rfl (nI_1 k) (by decide) rfl (fun ls hl => ?_)
          refine lv_goto (tgt := 110) F.1 F.2.1 d_MO_copy_162 (by decide) ?_
          refine ih (k + 1) (by omega) (by omega) _ _ ⟨hO, hp, ht, hh, hg, ?_, hc, hj⟩ hS ls hl
          have e : cpK f i j (k + 1) = vp_updL (cpK f i j k) (wp k i j) (f k) := by
            rw [hcp, tCp_s hco r1 r2 c138]
            unfold cpK
            rw [show min (max (k + 1) i) (en i) = k + 1 by omega]
          rw [e]
          exact hw
      refine lv_iload_n F.1 F.2.1 d_MO_copy_110 rfl (lv_at hl 0 rfl) ?_
      refine lv_bipush (v := 125) F.1 F.2.1 d_MO_copy_111 (by decide) ?_
      refine lv_icmp_ge (tgt := 165) F.1 F.2.1 d_MO_copy_113 (by decide) (fun zq => absurd zq (pN_nle (a := 125) (b := k) rfl rfl (by omega) (by omega) (by omega))) (fun _ => ?_)
      refine lv_iload_n F.1 F.2.1 d_MO_copy_116 rfl (lv_at hl 0 rfl) ?_
      refine lv_iload_n F.1 F.2.1 d_MO_copy_117 rfl (lv_at hl 2 rfl) ?_
      refine lv_icmp_eq (tgt := 129) F.1 F.2.1 d_MO_copy_118 (by decide) (fun c118 => ?_) (fun c118 => ?_)
      · have c118 := (pN_eqI (a := k) (b := i) rfl rfl (by omega) (by omega)).mp c118
        exact k129 (by rw [decide_eq_true c118]; rfl) ls hl
      · have c118 := mt (pN_eqI (a := k) (b := i) rfl rfl (by omega) (by omega)).mpr c118
        refine lv_iload_n F.1 F.2.1 d_MO_copy_121 rfl (lv_at hl 0 rfl) ?_
        refine lv_iload_n F.1 F.2.1 d_MO_copy_122 rfl (lv_at hl 2 rfl) ?_
        refine x_rd (x_S (n := 2) (As := [.int (nI k), .int (nI i)]) F (c_MO_below l G (nI k) (nI i)) ok_MO_below k548 ⟨Nat.le_of_ble_eq_true rfl, Nat.le_of_ble_eq_true rfl⟩ rfl rfl hK (trivial) rfl hl.1 rfl (Nat.le_of_ble_eq_true rfl) d_MO_copy_123 ⟨Nat.le_of_ble_eq_true rfl, Nat.le_of_ble_eq_true rfl⟩) ?_
        rw [mo_below_n (show k < 125 by omega) hi]
        refine x_beq (tgt := 159) F d_MO_copy_126 (by decide) (fun c126 => ?_) (fun c126 => ?_)
        · exact skip (fun h1 h2 => by
            by_cases e3 : f k = wABS
            · exact e3
            · have := (bl_iff i hi li k (by omega)).mpr ⟨(hf.2 k (by omega) (by omega) e3).1, by omega, h2⟩
              rw [c126] at this; cases this) ls hl
        · exact k129 (by rw [c126, Bool.or_true]) ls hl
  have loop1 : f i ≠ wABS → f j = wABS → f (pa j) = wDIR → ¬ (i ≤ j ∧ j < en i) → ∀ (n k : Nat), k + n = 125 → 1 ≤ k → (∀ q, i ≤ q → q < en i → q < k → f q ≠ wABS → nm q + nm j ≤ 3 + nm i) → ∀ ls : Array Slot, lv_has ls 4 [(3, .int (nI k)), (0, .ref (ad 0)), (1, .int (nI i)), (2, .int (nI j))] → W p l e (x_rm 2 0 0) s m args below meth c s.heap [] 0 0 Q (F0 m 59 ls []) := by
    intro a1 a2 a3 a4 n
    induction n with
    | zero =>
      intro k hn hk1 hq ls hl
      refine lv_iload_n F.1 F.2.1 d_MO_copy_59 rfl (lv_at hl 0 rfl) ?_
      refine lv_bipush (v := 125) F.1 F.2.1 d_MO_copy_60 (by decide) ?_
      refine lv_icmp_ge (tgt := 108) F.1 F.2.1 d_MO_copy_62 (by decide) (fun _ => ?_) (fun zq => absurd (pN_le (a := 125) (b := k) rfl rfl (by omega) (by omega) (by omega)) zq)
      refine lv_iconst (v := 1) F.1 F.2.1 d_MO_copy_108 (by decide) ?_
      refine lv_istore_n (lv' := [(3, .int 1), (0, .ref (ad 0)), (1, .int (nI i)), (2, .int (nI j))]) F.1 F.2.1 d_MO_copy_109 rfl hl (by decide) rfl (fun ls hl => ?_)
      refine loop2 ?_ 124 1 rfl (Nat.le_refl _) _ _ ?_ hS ls hl
      · unfold mayB
        rw [decide_eq_false a1, decide_eq_true a2, decide_eq_true a3, decide_eq_false a4, (fitB_iff he2).mpr (fun q q1 q2 q3 => hq q q1 q2 (by omega) q3)]
        rfl
      · unfold cpK
        rw [show min (max 1 i) (en i) = i by omega, tCp_0]
        exact hP
    | succ n ih =>
      intro k hn hk1 hq ls hl
      have nx1 : (i ≤ k → k < en i → f k ≠ wABS → nm k + nm j ≤ 3 + nm i) → ∀ ls : Array Slot, lv_has ls 4 [(3, .int (nI k)), (0, .ref (ad 0)), (1, .int (nI i)), (2, .int (nI j))] → W p l e (x_rm 2 0 0) s m args below meth c s.heap [] 0 0 Q (F0 m 102 ls []) := by
        intro hk ls hl
        refine lv_iinc (v := (nI (k + 1))) (lv' := [(3, .int (nI (k + 1))), (0, .ref (ad 0)), (1, .int (nI i)), (2, .int (nI j))]) F.1 F.2.1 d_MO_copy_102 hl (k := 0) rfl (nI_1 k) (by decide) rfl (fun ls hl => ?_)
        refine lv_goto (tgt := 59) F.1 F.2.1 d_MO_copy_105 (by decide) ?_
        exact ih (k + 1) (by omega) (by omega) (fun q q1 q2 q3 q4 => by rcases Nat.lt_succ_iff_lt_or_eq.mp q3 with h | rfl; exact hq q q1 q2 h q4; exact hk q1 q2 q4) ls hl
      have k78 : (decide (k = i) || bl k i) = true → ∀ ls : Array Slot, lv_has ls 4 [(3, .int (nI k)), (0, .ref (ad 0)), (1, .int (nI i)), (2, .int (nI j))] → W p l e (x_rm 2 0 0) s m args below meth c s.heap [] 0 0 Q (F0 m 78 ls []) := by
        intro hin ls hl
        obtain ⟨r1, r2, r3⟩ := (inR hi li (show k < 125 by omega)).mp hin
        refine lv_aload_n F.1 F.2.1 d_MO_copy_78 rfl (lv_at hl 1 rfl) ?_
        refine x_get F hK hO rfl i_MO 5 (by decide) k484 rfl rfl d_MO_copy_79 ?_
        refine lv_iload_n F.1 F.2.1 d_MO_copy_82 rfl (lv_at hl 0 rfl) ?_
        refine x_laldN F hK hw (by decide) (by omega) d_MO_copy_83 ?_
        refine x_cst F k478 d_MO_copy_84 ?_
        refine x_leq (tgt := 102) F d_MO_copy_87 d_MO_copy_88 (by decide) (fun c87 => ?_) (fun c87 => ?_)
        · exact nx1 (fun _ _ h => absurd c87 h) ls hl
        · refine lv_iload_n F.1 F.2.1 d_MO_copy_91 rfl (lv_at hl 0 rfl) ?_
          refine lv_iload_n F.1 F.2.1 d_MO_copy_92 rfl (lv_at hl 2 rfl) ?_
          refine lv_iload_n F.1 F.2.1 d_MO_copy_93 rfl (lv_at hl 3 rfl) ?_
          refine x_rd (x_S (n := 3) (As := [.int (nI k), .int (nI i), .int (nI j)]) F (c_MO_carried l G k i j (by omega) hi hj5 li lj r3 r1 r2) ok_MO_carried k558 ⟨Nat.le_of_ble_eq_true rfl, Nat.le_of_ble_eq_true rfl⟩ rfl rfl hK (trivial) rfl hl.1 rfl (Nat.le_of_ble_eq_true rfl) d_MO_copy_94 ⟨Nat.le_of_ble_eq_true rfl, Nat.le_of_ble_eq_true rfl⟩) ?_
          by_cases hfit : nm k + nm j ≤ 3 + nm i
          · rw [if_pos hfit]
            have hwp := wp_pos hi hj5 li lj r1 r2 r3 hfit
            refine lv_if_ne (tgt := 102) F.1 F.2.1 d_MO_copy_97 (by decide) (fun _ => ?_) (fun zq => absurd zq (pN_neq (a := wp k i j) (b := 0) rfl rfl hwp.1 (by omega) (by omega)))
            exact nx1 (fun _ _ _ => hfit) ls hl
          · rw [if_neg hfit]
            refine lv_if_ne (tgt := 102) F.1 F.2.1 d_MO_copy_97 (by decide) (fun zq => absurd (pN_eq (a := 0) (b := 0) rfl rfl rfl (by omega) (by omega)) zq) (fun _ => ?_)
            refine lv_iconst (v := 0) F.1 F.2.1 d_MO_copy_100 (by decide) ?_
            exact no (by unfold mayB; rw [fitB_f he2 r1 r2 c87 hfit]; simp) _ _ d_MO_copy_101
      refine lv_iload_n F.1 F.2.1 d_MO_copy_59 rfl (lv_at hl 0 rfl) ?_
      refine lv_bipush (v := 125) F.1 F.2.1 d_MO_copy_60 (by decide) ?_
      refine lv_icmp_ge (tgt := 108) F.1 F.2.1 d_MO_copy_62 (by decide) (fun zq => absurd zq (pN_nle (a := 125) (b := k) rfl rfl (by omega) (by omega) (by omega))) (fun _ => ?_)
      refine lv_iload_n F.1 F.2.1 d_MO_copy_65 rfl (lv_at hl 0 rfl) ?_
      refine lv_iload_n F.1 F.2.1 d_MO_copy_66 rfl (lv_at hl 2 rfl) ?_
      refine lv_icmp_eq (tgt := 78) F.1 F.2.1 d_MO_copy_67 (by decide) (fun c67 => ?_) (fun c67 => ?_)
      · have c67 := (pN_eqI (a := k) (b := i) rfl rfl (by omega) (by omega)).mp c67
        exact k78 (by rw [decide_eq_true c67]; rfl) ls hl
      · have c67 := mt (pN_eqI (a := k) (b := i) rfl rfl (by omega) (by omega)).mpr c67
        refine lv_iload_n F.1 F.2.1 d_MO_copy_70 rfl (lv_at hl 0 rfl) ?_
        refine lv_iload_n F.1 F.2.1 d_MO_copy_71 rfl (lv_at hl 2 rfl) ?_
        refine x_rd (x_S (n := 2) (As := [.int (nI k), .int (nI i)]) F (c_MO_below l G (nI k) (nI i)) ok_MO_below k548 ⟨Nat.le_of_ble_eq_true rfl, Nat.le_of_ble_eq_true rfl⟩ rfl rfl hK (trivial) rfl hl.1 rfl (Nat.le_of_ble_eq_true rfl) d_MO_copy_72 ⟨Nat.le_of_ble_eq_true rfl, Nat.le_of_ble_eq_true rfl⟩) ?_
        rw [mo_below_n (show k < 125 by omega) hi]
        refine x_beq (tgt := 102) F d_MO_copy_75 (by decide) (fun c75 => ?_) (fun c75 => ?_)
        · exact nx1 (fun h1 h2 h3 => by
            have := (bl_iff i hi li k (by omega)).mpr ⟨(hf.2 k (by omega) (by omega) h3).1, by omega, h2⟩
            rw [c75] at this; cases this) ls hl
        · exact k78 (by rw [c75, Bool.or_true]) ls hl
  refine lv_aload_n F.1 F.2.1 d_MO_copy_0 rfl (lv_at hl 0 rfl) ?_
  refine x_get F hK hO rfl i_MO 5 (by decide) k484 rfl rfl d_MO_copy_1 ?_
  refine lv_iload_n F.1 F.2.1 d_MO_copy_4 rfl (lv_at hl 1 rfl) ?_
  refine x_laldN F hK hw (by decide) (by omega) d_MO_copy_5 ?_
  refine x_cst F k478 d_MO_copy_6 ?_
  refine x_leq (tgt := 55) F d_MO_copy_9 d_MO_copy_10 (by decide) (fun c9 => ?_) (fun c9 => ?_)
  · refine lv_iconst (v := 0) F.1 F.2.1 d_MO_copy_55 (by decide) ?_
    exact no (by unfold mayB; rw [decide_eq_true c9]; rfl) _ _ d_MO_copy_56
  · refine lv_aload_n F.1 F.2.1 d_MO_copy_13 rfl (lv_at hl 0 rfl) ?_
    refine x_get F hK hO rfl i_MO 5 (by decide) k484 rfl rfl d_MO_copy_14 ?_
    refine lv_iload_n F.1 F.2.1 d_MO_copy_17 rfl (lv_at hl 2 rfl) ?_
    refine x_laldN F hK hw (by decide) (by omega) d_MO_copy_18 ?_
    refine x_cst F k478 d_MO_copy_19 ?_
    refine x_lne (tgt := 55) F d_MO_copy_22 d_MO_copy_23 (by decide) (fun c22 => ?_) (fun c22 => ?_)
    · refine lv_iconst (v := 0) F.1 F.2.1 d_MO_copy_55 (by decide) ?_
      exact no (by unfold mayB; rw [decide_eq_false c22]; simp) _ _ d_MO_copy_56
    · refine lv_aload_n F.1 F.2.1 d_MO_copy_26 rfl (lv_at hl 0 rfl) ?_
      refine x_get F hK hO rfl i_MO 5 (by decide) k484 rfl rfl d_MO_copy_27 ?_
      refine lv_iload_n F.1 F.2.1 d_MO_copy_30 rfl (lv_at hl 2 rfl) ?_
      refine x_rd (x_S (n := 1) (As := [.int (nI j)]) F (c_MO_above l G (nI j)) ok_MO_above k555 ⟨Nat.le_of_ble_eq_true rfl, Nat.le_of_ble_eq_true rfl⟩ rfl rfl hK (trivial) rfl hl.1 rfl (Nat.le_of_ble_eq_true rfl) d_MO_copy_31 ⟨Nat.le_of_ble_eq_true rfl, Nat.le_of_ble_eq_true rfl⟩) ?_
      rw [mo_above_n j hj5]
      refine x_laldN F hK hw (by decide) (by omega) d_MO_copy_34 ?_
      refine x_cst F k477 d_MO_copy_35 ?_
      refine x_lne (tgt := 55) F d_MO_copy_38 d_MO_copy_39 (by decide) (fun c38 => ?_) (fun c38 => ?_)
      · refine lv_iconst (v := 0) F.1 F.2.1 d_MO_copy_55 (by decide) ?_
        exact no (by unfold mayB; rw [decide_eq_false c38]; simp) _ _ d_MO_copy_56
      · refine lv_iload_n F.1 F.2.1 d_MO_copy_42 rfl (lv_at hl 2 rfl) ?_
        refine lv_iload_n F.1 F.2.1 d_MO_copy_43 rfl (lv_at hl 1 rfl) ?_
        refine lv_icmp_eq (tgt := 55) F.1 F.2.1 d_MO_copy_44 (by decide) (fun c44 => ?_) (fun c44 => ?_)
        · have c44 := (pN_eqI (a := j) (b := i) rfl rfl (by omega) (by omega)).mp c44
          refine lv_iconst (v := 0) F.1 F.2.1 d_MO_copy_55 (by decide) ?_
          exact no (by unfold mayB; rw [decide_eq_true (show i ≤ j ∧ j < en i by omega)]; simp) _ _ d_MO_copy_56
        · have c44 := mt (pN_eqI (a := j) (b := i) rfl rfl (by omega) (by omega)).mpr c44
          refine lv_iload_n F.1 F.2.1 d_MO_copy_47 rfl (lv_at hl 2 rfl) ?_
          refine lv_iload_n F.1 F.2.1 d_MO_copy_48 rfl (lv_at hl 1 rfl) ?_
          refine x_rd (x_S (n := 2) (As := [.int (nI j), .int (nI i)]) F (c_MO_below l G (nI j) (nI i)) ok_MO_below k548 ⟨Nat.le_of_ble_eq_true rfl, Nat.le_of_ble_eq_true rfl⟩ rfl rfl hK (trivial) rfl hl.1 rfl (Nat.le_of_ble_eq_true rfl) d_MO_copy_49 ⟨Nat.le_of_ble_eq_true rfl, Nat.le_of_ble_eq_true rfl⟩) ?_
          rw [mo_below_n hj5 hi]
          refine x_beq (tgt := 57) F d_MO_copy_52 (by decide) (fun c52 => ?_) (fun c52 => ?_)
          · refine lv_iconst (v := 1) F.1 F.2.1 d_MO_copy_57 (by decide) ?_
            refine lv_istore_n (lv' := [(3, .int 1), (0, .ref (ad 0)), (1, .int (nI i)), (2, .int (nI j))]) F.1 F.2.1 d_MO_copy_58 rfl hl (by decide) rfl (fun ls hl => ?_)
            exact loop1 c9 c22 c38 (fun z => by have := (bl_iff i hi li j hj5).mpr ⟨lj, by omega, z.2⟩; rw [c52] at this; cases this) 124 1 rfl (Nat.le_refl _) (fun q q1 _ q3 => by omega) ls hl
          · refine lv_iconst (v := 0) F.1 F.2.1 d_MO_copy_55 (by decide) ?_
            have hb := (bl_iff i hi li j hj5).mp c52
            exact no (by unfold mayB; rw [decide_eq_true (show i ≤ j ∧ j < en i by omega)]; simp) _ _ d_MO_copy_56

