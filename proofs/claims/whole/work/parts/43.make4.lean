/-! ===== answerDraftOn, build, flatten ===== -/
theorem CX.lt {G : x_G} {ca : Nat → Nat} {σ : Sg} {m nl : Nat} {num rp : Nat → Nat} {f : Nat → Int64} {sn : Nat → Int32} {H : Heap} (h : CX G ca σ m nl num rp f sn H) : ∀ c, us (gn σ) nl c → ca c < H.size := by
  obtain ⟨hin, hne, hO, hZ, ⟨ci, ei, hIm, hie⟩, ⟨cy, ey, hLy, hle⟩, hig, htg, hlg, hs0, hs1, hdr, hse⟩ := h
  have al : ∀ {a d cap n : Nat} {es : Nat → Option Nat}, AL G a d cap n es H → a < H.size ∧ d < H.size := fun h => by
    obtain ⟨⟨mo, g1⟩, -, g3, -⟩ := h
    refine ⟨g1.lt, ?_⟩
    rcases g3 with ⟨rfl, -⟩ | g3
    · obtain ⟨-, scr, b1, -⟩ := hZ
      exact (Array.getElem?_eq_some_iff.mp b1).1
    · exact g3.1.lt
  intro c hc
  rcases hc with hc | ⟨h14, hr, hi⟩ | ⟨h14, hr, hi⟩
  · have : c = 0 ∨ c = 1 ∨ c = 2 ∨ c = 3 ∨ c = 4 ∨ c = 5 ∨ c = 6 ∨ c = 7 ∨ c = 8 ∨ c = 9 ∨ c = 10 ∨ c = 11 ∨ c = 12 ∨ c = 13 := by omega
    rcases this with rfl | rfl | rfl | rfl | rfl | rfl | rfl | rfl | rfl | rfl | rfl | rfl | rfl | rfl
    · exact hO.lt
    · exact (al hIm).1
    · exact (al hIm).2
    · exact (al hLy).1
    · exact (al hLy).2
    · exact hs0.1.lt
    · exact hs0.2.1.lt
    · exact hs0.2.2.1.lt
    · exact hs1.1.lt
    · exact hs1.2.1.lt
    · exact hs1.2.2.1.lt
    · exact hdr.1.lt
    · exact hdr.2.1.lt
    · exact hse.lt
  · generalize hj : (c - 14) / 7 = j at hi
    have : c = 14 + 7 * j ∨ c = 14 + 7 * j + 1 ∨ c = 14 + 7 * j + 2 ∨ c = 14 + 7 * j + 3 := by omega
    rcases this with rfl | rfl | rfl | rfl
    · exact (hig j hi).1.lt
    · exact (htg j hi).1.lt
    · exact (htg j hi).2.1.lt
    · exact (hig j hi).2.1.lt
  · generalize hj : (c - 14) / 7 = j at hi
    have : c = 14 + 7 * j + 4 ∨ c = 14 + 7 * j + 5 ∨ c = 14 + 7 * j + 6 := by omega
    rcases this with rfl | rfl | rfl
    · exact (hlg j hi).1.lt
    · exact (hlg j hi).2.1.lt
    · exact (hlg j hi).2.2.1.lt
theorem CX_add {G : x_G} {ca : Nat → Nat} {σ : Sg} {m nl : Nat} {num rp : Nat → Nat} {f : Nat → Int64} {sn : Nat → Int32} {H H1 : Heap} {d cap : Nat} {es : Nat → Option Nat} (h : CX G ca σ m nl num rp f sn H) (hm : m + 1 = gn σ) (hAL : AL G (ca 1) d cap (m + 1) es H1) (hes : ∀ i, i < m + 1 → es i = some (cI ca i)) (hd : d = ca 2 ∨ H.size ≤ d) (ho : x_off (fun q => q = ca 1 ∨ q = ca 2) H H1) : CW G (va_up ca 2 d) σ nl num rp f sn H1 := by
  have hlt := h.lt
  obtain ⟨hin, hne, hO, hZ, ⟨ci, ei, hIm, hie⟩, ⟨cy, ey, hLy, hle⟩, hig, htg, hlg, hs0, hs1, hdr, hse⟩ := h
  have hts : x_t G < H.size := by
    obtain ⟨-, scr, b1, -⟩ := hZ
    exact (Array.getElem?_eq_some_iff.mp b1).1
  have hss : x_sa G < H.size := by
    obtain ⟨⟨cell, b1, -⟩, -⟩ := hZ
    exact (Array.getElem?_eq_some_iff.mp b1).1
  have no : ∀ c, us (gn σ) nl c → c ≠ 1 → c ≠ 2 → ¬ (ca c = ca 1 ∨ ca c = ca 2) := fun c hc n3 n4 => by
    rintro (z | z)
    · exact hin.ne hc (usS (by decide)) n3 z
    · exact hin.ne hc (usS (by decide)) n4 z
  have nS : ∀ c, c < 14 → c ≠ 1 → c ≠ 2 → ¬ (ca c = ca 1 ∨ ca c = ca 2) := fun c hc n3 n4 => no c (usS hc) n3 n4
  have hnt : ¬ (x_t G = ca 1 ∨ x_t G = ca 2) := by
    rintro (z | z)
    · exact (hne 1 (usS (by decide))).2 (by decide) z.symm
    · exact (hne 2 (usS (by decide))).2 (by decide) z.symm
  have hnsa : ¬ (x_sa G = ca 1 ∨ x_sa G = ca 2) := by
    rintro (z | z)
    · exact (hne 1 (usS (by decide))).1 z.symm
    · exact (hne 2 (usS (by decide))).1 z.symm
  generalize hcb : va_up ca 2 d = cb
  have ne2 : ∀ c, c ≠ 2 → cb c = ca c := fun c hc => by rw [← hcb]; exact va_up_ne _ _ hc
  have e2 : cb 2 = d := by rw [← hcb]; exact va_up_self _ _ _
  have kd : ∀ c, us (gn σ) nl c → c ≠ 2 → ca c ≠ d := fun c a b e => by
    rcases hd with z | z
    · exact hin.ne a (usS (by decide)) b (e.trans z)
    · have := hlt c a; omega
  refine ⟨fun c c' hc hc' he => ?_, fun c hc => ?_, ?_, ⟨hZ.keep ho hnsa hnt, ⟨cap, es, ?_, ?_⟩, ⟨cy, ey, ?_, ?_⟩, fun i hi => ?_, fun i hi => ?_, fun j hj => ?_⟩, ?_, ?_, ?_, ?_⟩
  · by_cases a : c = 2
    · by_cases b : c' = 2
      · rw [a, b]
      · rw [a, e2, ne2 c' b] at he
        exact absurd he.symm (kd c' hc' b)
    · by_cases b : c' = 2
      · rw [b, e2, ne2 c a] at he
        exact absurd he (kd c hc a)
      · rw [ne2 c a, ne2 c' b] at he
        exact hin c c' hc hc' he
  · by_cases a : c = 2
    · rw [a, e2]
      rcases hd with z | z
      · rw [z]; exact ⟨(hne 2 (usS (by decide))).1, fun _ => (hne 2 (usS (by decide))).2 (by decide)⟩
      · omega
    · rw [ne2 c a]; exact hne c hc
  · rw [ne2 0 (by decide), ne2 1 (by decide), ne2 3 (by decide), ne2 5 (by decide), ne2 8 (by decide), ne2 11 (by decide), ne2 13 (by decide)]
    exact x_keep hO ho (nS 0 (by decide) (by decide) (by decide))
  · rw [ne2 1 (by decide), e2, ← hm]
    exact hAL
  · intro i hi
    rw [show cI cb i = cI ca i from ne2 _ (by omega)]
    exact hes i (by omega)
  · rw [ne2 3 (by decide), ne2 4 (by decide)]
    exact hLy.keep ho (nS 3 (by decide) (by decide) (by decide)) (nS 4 (by decide) (by decide) (by decide))
  · intro j hj
    rw [show cY cb j = cY ca j from ne2 _ (by omega)]
    exact hle j hj
  · rw [show cI cb i = cI ca i from ne2 _ (by omega), show cT cb i = cT ca i from ne2 _ (by omega), show cN cb i = cN ca i from ne2 _ (by omega)]
    exact (hig i hi).keep ho (no _ (usI (r := 0) hi (by decide)) (by omega) (by omega)) (no _ (usI (r := 3) hi (by decide)) (by omega) (by omega))
  · rw [show cT cb i = cT ca i from ne2 _ (by omega), show cM cb i = cM ca i from ne2 _ (by omega)]
    exact (htg i hi).keep ho (no _ (usI (r := 1) hi (by decide)) (by omega) (by omega)) (no _ (usI (r := 2) hi (by decide)) (by omega) (by omega))
  · rw [show cY cb j = cY ca j from ne2 _ (by omega), show cP cb j = cP ca j from ne2 _ (by omega), show cQ cb j = cQ ca j from ne2 _ (by omega)]
    exact (hlg j hj).keep ho (no _ (usL (r := 4) hj (by decide) (by decide)) (by omega) (by omega)) (no _ (usL (r := 5) hj (by decide) (by decide)) (by omega) (by omega)) (no _ (usL (r := 6) hj (by decide) (by decide)) (by omega) (by omega))
  · rw [ne2 5 (by decide), ne2 6 (by decide), ne2 7 (by decide)]
    exact hs0.keep ho (nS 5 (by decide) (by decide) (by decide)) (nS 6 (by decide) (by decide) (by decide)) (nS 7 (by decide) (by decide) (by decide))
  · rw [ne2 8 (by decide), ne2 9 (by decide), ne2 10 (by decide)]
    exact hs1.keep ho (nS 8 (by decide) (by decide) (by decide)) (nS 9 (by decide) (by decide) (by decide)) (nS 10 (by decide) (by decide) (by decide))
  · rw [ne2 11 (by decide), ne2 12 (by decide)]
    exact hdr.keep ho (nS 11 (by decide) (by decide) (by decide)) (nS 12 (by decide) (by decide) (by decide))
  · rw [ne2 13 (by decide)]
    exact x_keep hse ho (nS 13 (by decide) (by decide) (by decide))
theorem CW.draft {G : x_G} {ca : Nat → Nat} {σ : Sg} {nl : Nat} {num rp : Nat → Nat} {f f' : Nat → Int64} {sn : Nat → Int32} {H H1 : Heap} (h : CW G ca σ nl num rp f sn H) (hs : x_al G (ca 12) 125 f' H1) (ho : x_off (fun q => q = ca 12) H H1) : CW G ca σ nl num rp f' sn H1 := by
  obtain ⟨hin, hne, hO, hB, hs0, hs1, hdr, hse⟩ := h
  have no : ∀ c, us (gn σ) nl c → c ≠ 12 → ¬ ca c = ca 12 := fun c hc hn => hin.ne hc (usS (by decide)) hn
  have nS : ∀ c, c < 14 → c ≠ 12 → ¬ ca c = ca 12 := fun c hc hn => no c (usS hc) hn
  exact ⟨hin, hne, x_keep hO ho (nS 0 (by decide) (by decide)), hB.keep ho (fun c hc hr => no c hc (by omega)) (fun z => (hne 12 (usS (by decide))).1 z.symm) (fun z => (hne 12 (usS (by decide))).2 (by decide) z.symm), hs0.keep ho (nS 5 (by decide) (by decide)) (nS 6 (by decide) (by decide)) (nS 7 (by decide) (by decide)), hs1.keep ho (nS 8 (by decide) (by decide)) (nS 9 (by decide) (by decide)) (nS 10 (by decide) (by decide)), ⟨x_keep hdr.1 ho (nS 11 (by decide) (by decide)), hs, hdr.2.2⟩, x_keep hse ho (nS 13 (by decide) (by decide))⟩
theorem CO.tr {G : x_G} {ca : Nat → Nat} {σ : Sg} {nl : Nat} {q : Int32 × Sg} {r : Option Value} {H H1 H2 : Heap} (ho : x_off (cA G ca (gn σ) nl) H H1) (h : CO G ca σ nl q r H1 H2) : CO G ca σ nl q r H H2 := by
  obtain ⟨h1, ⟨ca', nl', num', rp', f', sn', a1, a2, a3, a4⟩, h3⟩ := h
  exact ⟨h1, ⟨ca', nl', num', rp', f', sn', a1, a2, fun c hc => (a3 c hc).imp_right (fun z => Nat.le_trans ho.1 z), a4⟩, ho.tr h3⟩
theorem x_off.cut {A : Nat → Prop} {sz : Nat} {H H1 : Heap} (h : x_off (fun q => A q ∨ sz ≤ q) H H1) (hs : H.size = sz) : x_off A H H1 := ⟨h.1, fun q h1 h2 => h.2 q h1 (fun z => z.elim h2 (fun z => by omega))⟩
section MK
variable (l : Launch) (G : x_G) (ca : Nat → Nat) (σ : Sg) (nl : Nat) (num rp : Nat → Nat) (f : Nat → Int64) (sn : Nat → Int32)
theorem c_IS_answerDraftOn (o sz : Nat) (hok : gI σ) (hN : cNum σ nl num rp) (ho : o < gn σ) (hf : tOk f) : Met l y_IS_answerDraftOn (x_ws y_IS_answerDraftOn b_IS_answerDraftOn 3 (some .int)) (x_rm 9 9 540) (x_P G [.ref (ca 0), .int (nI o)] (fun H => H.size = sz ∧ CW G ca σ nl num rp f sn H)) (x_Q (CO G ca σ nl (imgS σ f o))) 9 540 (fun q => cA G ca (gn σ) nl q ∨ sz ≤ q) := by
  refine x_wI (by decide +kernel) (Nat.le_of_ble_eq_true rfl) (fun p e s m args below meth c F hK hP ls hl Q hret => ?_)
  have hl : lv_has ls 3 [(0, .ref (ca 0)), (1, .int (nI o))] := hl
  obtain ⟨hsz, hP⟩ := hP
  have hS : va_S (fun q => cA G ca (gn σ) nl q ∨ sz ≤ q) s.heap s.heap [] := va_S.rf
  have hn40 := hok.1.2.1
  have hn1 := hok.1.1
  have hpr := hok.1.2.2.1
  have own : ∀ c, us (gn σ) nl c → c ≠ 4 → cA G ca (gn σ) nl (ca c) := fun c hc h4 => hP.own hc h4
  have h06 : ∀ q, q = ca 0 ∨ q = ca 6 → cA G ca (gn σ) nl q ∨ sz ≤ q := fun q h => by
    rcases h with h | h
    · rw [h]; exact Or.inl (own 0 (usS (by decide)) (by decide))
    · rw [h]; exact Or.inl (own 6 (usS (by decide)) (by decide))
  obtain ⟨hin, hne, hO, hB, hs0, hs1, hdr, hse⟩ := id hP
  obtain ⟨hZ, ⟨ci, ei, hIm, hie⟩, ⟨cy, ey, hLy, hle⟩, hig, htg, hlg⟩ := id hB
  obtain ⟨⟨mo1, hA1⟩, -⟩ := id hIm
  obtain ⟨⟨mo3, hA3⟩, -⟩ := id hLy
  have hT5 := hs0.1
  have hT8 := hs1.1
  have hT11 := hdr.1
  have ans : ∀ (i : Nat), i < gn σ → imgS σ f o = (nI i, ansS σ i) → ∀ (pc : Nat), decode b_IS_answerDraftOn pc = .ok (.invokevirtual 169, 3) → decode b_IS_answerDraftOn (pc + 3) = .ok (.ireturn, 1) → ∀ ls : Array Slot, ls.size = 3 → W p l e (x_rm 9 9 540) s m args below meth c s.heap [] 0 0 Q (F0 m pc ls [.int (nI i), .ref (ca 0)]) := by
    intro i hi hv pc hd1 hd2 ls hls
    refine x_wr (x_V (n := 1) (As := [.int (nI i)]) F (c_IS_answerHeld l G ca σ nl num rp f sn i (by omega)) ok_IS_answerHeld k281 ⟨Nat.le_of_ble_eq_true rfl, Nat.le_of_ble_eq_true rfl⟩ rfl rfl hK (x_rcv hK hO rfl) hP rfl hls rfl (Nat.le_of_ble_eq_true rfl) hd1 ⟨Nat.le_of_ble_eq_true rfl, Nat.le_of_ble_eq_true rfl⟩) hS h06 (fun _ _ h => h.2.2.mono h06) (fun v H1 locs hpost hS => ?_)
    obtain ⟨rfl, hw, hoo⟩ := hpost
    exact hret _ _ _ _ _ _ _ hd2 (by rw [hv]; exact CO_same (q := (nI i, ansS σ i)) hw hN rfl (x_off.cut hS.off hsz)) hS.2.2 (Nat.zero_le _) (Nat.zero_le _)
  have mk1 : tEq f (gt σ o) = false → fnd σ f o (gn σ - 1) 1 = none → ∀ ls : Array Slot, lv_has ls 3 [(2, .int (nI (gn σ))), (0, .ref (ca 0)), (1, .int (nI o))] → W p l e (x_rm 9 9 540) s m args below meth c s.heap [] 0 0 Q (F0 m 97 ls []) := by
    intro e1 e2 ls hl
    refine lv_aload_n F.1 F.2.1 d_IS_answerDraftOn_97 rfl (lv_at hl 1 rfl) ?_
    refine x_get F hK hO rfl i_IS 0 (by decide) k158 rfl rfl d_IS_answerDraftOn_98 ?_
    refine x_rd (x_V (n := 0) (As := []) F (c_AL_size l G (ca 1) (ca 2) ci (gn σ) ei) ok_AL_size k188 ⟨Nat.le_of_ble_eq_true rfl, Nat.le_of_ble_eq_true rfl⟩ rfl rfl hK (x_rcv hK hA1 rfl) (hIm) rfl hl.1 rfl (Nat.le_of_ble_eq_true rfl) d_IS_answerDraftOn_101 ⟨Nat.le_of_ble_eq_true rfl, Nat.le_of_ble_eq_true rfl⟩) ?_
    refine lv_bipush (v := 40) F.1 F.2.1 d_IS_answerDraftOn_104 (by decide) ?_
    refine lv_icmp_lt (tgt := 112) F.1 F.2.1 d_IS_answerDraftOn_106 (by decide) (fun c106 => ?_) (fun c106 => ?_)
    · have c106 := (pN_ltI (a := (gn σ)) (b := 40) rfl rfl (by omega) (by omega)).mp c106
      have hv : imgS σ f o = (nI (gn σ), ansS (newS σ f o) (gn σ)) := by
        unfold imgS
        rw [e1, if_neg (by decide), e2]
        show (if gn σ = 40 then _ else _) = _
        rw [if_neg (by omega)]
      have f34 : ∀ q, (q = ca 3 ∨ (q = ca 4 ∧ ca 4 ≠ x_t G)) → cA G ca (gn σ) nl q ∨ sz ≤ q := fun q h => by
        rcases h with h | h
        · rw [h]; exact Or.inl (own 3 (usS (by decide)) (by decide))
        · exact Or.inl ⟨4, usS (by decide), h.1, by rw [h.1]; exact h.2⟩
      refine lv_aload_n F.1 F.2.1 d_IS_answerDraftOn_112 rfl (lv_at hl 1 rfl) ?_
      refine x_get F hK hO rfl i_IS 0 (by decide) k158 rfl rfl d_IS_answerDraftOn_113 ?_
      refine lv_aload_n F.1 F.2.1 d_IS_answerDraftOn_116 rfl (lv_at hl 1 rfl) ?_
      refine lv_iload_n F.1 F.2.1 d_IS_answerDraftOn_117 rfl (lv_at hl 2 rfl) ?_
      refine x_wr (x_V (n := 1) (As := [.int (nI o)]) F (c_IS_newImageOn l G ca σ nl num rp f sn o sz hok hN ho hf) ok_IS_newImageOn k289 ⟨Nat.le_of_ble_eq_true rfl, Nat.le_of_ble_eq_true rfl⟩ rfl rfl hK (x_rcv hK hO rfl) (⟨hsz, hP⟩) rfl hl.1 rfl (Nat.le_of_ble_eq_true rfl) d_IS_answerDraftOn_118 ⟨Nat.le_of_ble_eq_true rfl, Nat.le_of_ble_eq_true rfl⟩) hS (fun _ h => h) (fun _ _ h => by obtain ⟨-, -, -, -, -, -, -, -, -, z⟩ := h; exact z.mono f34) (fun v H1 locs hpost hS => ?_)
      obtain ⟨ca', nl', num', rp', rfl, hX, hN', hfr, hc4, hoN⟩ := hpost
      have hX0 := hX
      have hXl := hX.lt
      obtain ⟨hin', hne', hO', hZ', ⟨ci', ei', hIm', hie'⟩, -, hig', -⟩ := id hX
      have k1 : ca' 1 = ca 1 := hc4 1 (by decide)
      have k2 : ca' 2 = ca 2 := hc4 2 (by decide)
      rw [k1, k2] at hIm'
      have hIn := (hig' (gn σ) (Nat.lt_succ_self _)).1
      generalize hsz1 : H1.size = sz1 at *
      have hss := hoN.1
      have f12 : ∀ q, (q = ca 1 ∨ (q = ca 2 ∧ ca 2 ≠ x_t G)) → cA G ca (gn σ) nl q ∨ sz ≤ q := fun q h => by
        rcases h with h | h
        · rw [h]; exact Or.inl (own 1 (usS (by decide)) (by decide))
        · rw [h.1]; exact Or.inl (own 2 (usS (by decide)) (by decide))
      have hx : x_t G < sz1 := by
        obtain ⟨-, scr, b1, -⟩ := hZ'
        rw [← hsz1]
        exact (Array.getElem?_eq_some_iff.mp b1).1
      obtain ⟨⟨mo1, hA1⟩, -⟩ := id hIm'
      refine x_wr (x_V (n := 1) (As := [.ref (cI ca' (gn σ))]) F (c_AL_add1 l G (ca 1) (ca 2) ci' (gn σ) (cI ca' (gn σ)) sz1 ei' (by omega) (fun z => (hne 1 (usS (by decide))).1 z.symm) (fun z => (hne 1 (usS (by decide))).2 (by decide) z.symm) hx) ok_AL_add1 k104 ⟨Nat.le_of_ble_eq_true rfl, Nat.le_of_ble_eq_true rfl⟩ rfl rfl hK (x_rcv hK hA1 rfl) (⟨hsz1, hZ', ⟨_, Or.inl hIn⟩, by rw [← k1]; exact hin'.ne (usS (by decide)) (usI (r := 0) (Nat.lt_succ_self _) (by decide)) (by omega), by rw [← k2]; exact hin'.ne (usS (by decide)) (usI (r := 0) (Nat.lt_succ_self _) (by decide)) (by omega), fun j hj y hy => by rw [hie' j hj] at hy; cases hy; exact ⟨⟨_, Or.inl (hig' j (Nat.lt_succ_of_lt hj)).1⟩, by rw [← k1]; exact hin'.ne (usI (r := 0) (Nat.lt_succ_of_lt hj) (by decide)) (usS (by decide)) (by omega)⟩, hIm'⟩) rfl hl.1 rfl (Nat.le_of_ble_eq_true rfl) d_IS_answerDraftOn_121 ⟨Nat.le_of_ble_eq_true rfl, Nat.le_of_ble_eq_true rfl⟩) hS (fun q h => h.elim (f12 q) (fun h => Or.inr (Nat.le_trans (by omega) h))) (fun _ _ h => h.2.2.mono f12) (fun v H2 locs hpost hS => ?_)
      obtain ⟨rfl, ⟨d', cap', es', hAL, he1, he2, he3⟩, hoA⟩ := hpost
      have hw := CX_add hX0 rfl (by rw [k1]; exact hAL) (fun i hi => by rcases Nat.lt_succ_iff_lt_or_eq.mp hi with h | rfl; rw [he1 i h]; exact hie' i h; exact he2) (by rw [k2, hsz1]; exact he3.imp_left (fun z => z.1)) (by rw [k1, k2]; exact hoA.mono (fun _ z => z.imp_right (fun z => z.1)))
      have k0 : va_up ca' 2 d' 0 = ca 0 := (va_up_ne _ _ (by decide)).trans (hc4 0 (by decide))
      have hfr2 : ∀ c, us (gn σ + 1) nl' c → (∃ c', us (gn σ) nl c' ∧ va_up ca' 2 d' c = ca c') ∨ sz ≤ va_up ca' 2 d' c := fun c hc => by
        by_cases e : c = 2
        · rw [e, va_up_self]
          rcases he3 with z | z
          · exact Or.inl ⟨2, usS (by decide), z.1⟩
          · exact Or.inr (by omega)
        · rw [va_up_ne _ _ e]; rw [hsz] at hfr; exact hfr c hc
      generalize hcb : va_up ca' 2 d' = cb at hw k0 hfr2
      have hO2 := hw.2.2.1
      have hO2' := hO2
      rw [k0] at hO2'
      obtain ⟨-, ⟨ci2, ei2, hIm2, -⟩, -⟩ := hw.2.2.2.1
      have k12 : cb 1 = ca 1 := by rw [← hcb]; exact (va_up_ne _ _ (by decide)).trans k1
      rw [k12] at hIm2 hO2'
      obtain ⟨⟨mo2, hA1⟩, -⟩ := id hIm2
      refine lv_pop F.1 F.2.1 d_IS_answerDraftOn_124 rfl ?_
      refine lv_aload_n F.1 F.2.1 d_IS_answerDraftOn_125 rfl (lv_at hl 1 rfl) ?_
      refine lv_aload_n F.1 F.2.1 d_IS_answerDraftOn_126 rfl (lv_at hl 1 rfl) ?_
      refine x_get F hK hO2' rfl i_IS 0 (by decide) k158 rfl rfl d_IS_answerDraftOn_127 ?_
      refine x_rd (x_V (n := 0) (As := []) F (c_AL_size l G (ca 1) (cb 2) ci2 (gn σ + 1) ei2) ok_AL_size k188 ⟨Nat.le_of_ble_eq_true rfl, Nat.le_of_ble_eq_true rfl⟩ rfl rfl hK (x_rcv hK hA1 rfl) (hIm2) rfl hl.1 rfl (Nat.le_of_ble_eq_true rfl) d_IS_answerDraftOn_130 ⟨Nat.le_of_ble_eq_true rfl, Nat.le_of_ble_eq_true rfl⟩) ?_
      refine lv_iconst (v := 1) F.1 F.2.1 d_IS_answerDraftOn_133 (by decide) ?_
      refine lv_isub F.1 F.2.1 d_IS_answerDraftOn_134 ?_
      rw [nI_pred]
      have hM := c_IS_answerHeld l G cb (newS σ f o) nl' num' rp' f sn (gn σ) (by omega)
      rw [k0] at hM
      have own2 : ∀ c, us (gn σ + 1) nl' c → c ≠ 4 → cA G ca (gn σ) nl (cb c) ∨ sz ≤ cb c := fun c hc h4 => by
        rcases hfr2 c hc with ⟨c', hu, z⟩ | z
        · exact Or.inl ⟨c', hu, z, (hw.2.1 c hc).2 h4⟩
        · exact Or.inr z
      have f06 : ∀ q, (q = ca 0 ∨ q = cb 6) → cA G ca (gn σ) nl q ∨ sz ≤ q := fun q h => by
        rcases h with h | h
        · rw [h, ← k0]; exact own2 0 (usS (by decide)) (by decide)
        · rw [h]; exact own2 6 (usS (by decide)) (by decide)
      refine x_wr (x_V (n := 1) (As := [.int (nI (gn σ))]) F (hM) ok_IS_answerHeld k281 ⟨Nat.le_of_ble_eq_true rfl, Nat.le_of_ble_eq_true rfl⟩ rfl rfl hK (x_rcv hK hO2' rfl) (hw) rfl hl.1 rfl (Nat.le_of_ble_eq_true rfl) d_IS_answerDraftOn_135 ⟨Nat.le_of_ble_eq_true rfl, Nat.le_of_ble_eq_true rfl⟩) hS (f06) (fun _ _ h => h.2.2.mono f06) (fun v H3 locs hpost hS => ?_)
      obtain ⟨rfl, hw2, hoo⟩ := hpost
      exact hret _ _ _ _ _ _ _ d_IS_answerDraftOn_138 (by rw [hv]; exact ⟨rfl, ⟨cb, nl', num', rp', f, sn, hw2, hN', fun c hc => by rw [hsz]; exact hfr2 c hc, k0⟩, x_off.cut hS.off hsz⟩) hS.2.2 (Nat.le_of_ble_eq_true rfl) (Nat.le_of_ble_eq_true rfl)
    · have c106 := mt (pN_ltI (a := (gn σ)) (b := 40) rfl rfl (by omega) (by omega)).mpr c106
      have hv : imgS σ f o = (-2, σ) := by
        unfold imgS
        rw [e1, if_neg (by decide), e2]
        show (if gn σ = 40 then _ else _) = _
        rw [if_pos (by omega)]
      refine lv_bipush (v := (-2)) F.1 F.2.1 d_IS_answerDraftOn_109 (by decide) ?_
      exact hret _ _ _ _ _ _ _ d_IS_answerDraftOn_111 (by rw [hv]; exact CO_same (q := (-2, σ)) hP hN rfl (x_off.cut hS.off hsz)) hS.2.2 (Nat.zero_le _) (Nat.zero_le _)
  have loop : tEq f (gt σ o) = false → ∀ (n k : Nat), k + n = gn σ → 1 ≤ k → fnd σ f o n k = fnd σ f o (gn σ - 1) 1 → ∀ ls : Array Slot, lv_has ls 3 [(2, .int (nI k)), (0, .ref (ca 0)), (1, .int (nI o))] → W p l e (x_rm 9 9 540) s m args below meth c s.heap [] 0 0 Q (F0 m 32 ls []) := by
    intro e1 n
    induction n with
    | zero =>
      intro k hn hk1 hfn ls hl
      refine lv_iload_n F.1 F.2.1 d_IS_answerDraftOn_32 rfl (lv_at hl 0 rfl) ?_
      refine lv_aload_n F.1 F.2.1 d_IS_answerDraftOn_33 rfl (lv_at hl 1 rfl) ?_
      refine x_get F hK hO rfl i_IS 0 (by decide) k158 rfl rfl d_IS_answerDraftOn_34 ?_
      refine x_rd (x_V (n := 0) (As := []) F (c_AL_size l G (ca 1) (ca 2) ci (gn σ) ei) ok_AL_size k188 ⟨Nat.le_of_ble_eq_true rfl, Nat.le_of_ble_eq_true rfl⟩ rfl rfl hK (x_rcv hK hA1 rfl) (hIm) rfl hl.1 rfl (Nat.le_of_ble_eq_true rfl) d_IS_answerDraftOn_37 ⟨Nat.le_of_ble_eq_true rfl, Nat.le_of_ble_eq_true rfl⟩) ?_
      refine lv_icmp_ge (tgt := 97) F.1 F.2.1 d_IS_answerDraftOn_40 (by decide) (fun _ => ?_) (fun zq => absurd (pN_le (a := (gn σ)) (b := k) rfl rfl (by omega) (by omega) (by omega)) zq)
      exact mk1 e1 (by rw [← hfn]; rfl) ls (by rw [show gn σ = k by omega]; exact hl)
    | succ n ih =>
      intro k hn hk1 hfn ls hl
      have hk : k < gn σ := by omega
      have nxt : ¬ (gp σ k = o ∧ tEq f (gt σ k) = true) → ∀ ls : Array Slot, lv_has ls 3 [(2, .int (nI k)), (0, .ref (ca 0)), (1, .int (nI o))] → W p l e (x_rm 9 9 540) s m args below meth c s.heap [] 0 0 Q (F0 m 91 ls []) := by
        intro hne ls hl
        refine lv_iinc (v := (nI (k + 1))) (lv' := [(2, .int (nI (k + 1))), (0, .ref (ca 0)), (1, .int (nI o))]) F.1 F.2.1 d_IS_answerDraftOn_91 hl (k := 0) rfl (nI_1 k) (by decide) rfl (fun ls hl => ?_)
        refine lv_goto (tgt := 32) F.1 F.2.1 d_IS_answerDraftOn_94 (by decide) ?_
        exact ih (k + 1) (by omega) (by omega) (by rw [← hfn]; exact (if_neg hne).symm) ls hl
      refine lv_iload_n F.1 F.2.1 d_IS_answerDraftOn_32 rfl (lv_at hl 0 rfl) ?_
      refine lv_aload_n F.1 F.2.1 d_IS_answerDraftOn_33 rfl (lv_at hl 1 rfl) ?_
      refine x_get F hK hO rfl i_IS 0 (by decide) k158 rfl rfl d_IS_answerDraftOn_34 ?_
      refine x_rd (x_V (n := 0) (As := []) F (c_AL_size l G (ca 1) (ca 2) ci (gn σ) ei) ok_AL_size k188 ⟨Nat.le_of_ble_eq_true rfl, Nat.le_of_ble_eq_true rfl⟩ rfl rfl hK (x_rcv hK hA1 rfl) (hIm) rfl hl.1 rfl (Nat.le_of_ble_eq_true rfl) d_IS_answerDraftOn_37 ⟨Nat.le_of_ble_eq_true rfl, Nat.le_of_ble_eq_true rfl⟩) ?_
      refine lv_icmp_ge (tgt := 97) F.1 F.2.1 d_IS_answerDraftOn_40 (by decide) (fun zq => absurd zq (pN_nle (a := (gn σ)) (b := k) rfl rfl (by omega) (by omega) (by omega))) (fun _ => ?_)
      refine lv_aload_n F.1 F.2.1 d_IS_answerDraftOn_43 rfl (lv_at hl 1 rfl) ?_
      refine x_get F hK hO rfl i_IS 0 (by decide) k158 rfl rfl d_IS_answerDraftOn_44 ?_
      refine lv_iload_n F.1 F.2.1 d_IS_answerDraftOn_47 rfl (lv_at hl 0 rfl) ?_
      refine x_rd (x_V (n := 1) (As := [.int (nI k)]) F (c_AL_get l G (ca 1) (ca 2) ci (gn σ) ei k (cI ca k) hk (by omega) (hie k hk)) ok_AL_get k196 ⟨Nat.le_of_ble_eq_true rfl, Nat.le_of_ble_eq_true rfl⟩ rfl rfl hK (x_rcv hK hA1 rfl) (hIm) rfl hl.1 rfl (Nat.le_of_ble_eq_true rfl) d_IS_answerDraftOn_48 ⟨Nat.le_of_ble_eq_true rfl, Nat.le_of_ble_eq_true rfl⟩) ?_
      have hI_k := (hig k hk).1
      have hN_k := (hig k hk).2.1
      have hX_k := htg k hk
      have hU_k := hX_k.1
      refine va_castY F.1 F.2.1 F.2.2.2.1 (F.2.2.2.2 _ k85) (hK.2.1 _ (List.mem_of_getElem? (i := 5) rfl)) (x_rcv hK hI_k rfl) d_IS_answerDraftOn_51 ?_
      refine x_getN F hK hI_k rfl i_IM 0 (by decide) 0 rfl rfl rfl d_IS_answerDraftOn_54 ?_
      rw [show pI (gp σ) k = nI (gp σ k) from if_neg (by omega)]
      refine lv_iload_n F.1 F.2.1 d_IS_answerDraftOn_57 rfl (lv_at hl 2 rfl) ?_
      by_cases hpk : gp σ k = o
      · skip
        refine lv_icmp_ne (tgt := 91) F.1 F.2.1 d_IS_answerDraftOn_58 (by decide) (fun zq => absurd ((by rw [hpk])) zq) (fun _ => ?_)
        refine lv_aload_n F.1 F.2.1 d_IS_answerDraftOn_61 rfl (lv_at hl 1 rfl) ?_
        refine x_get F hK hO rfl i_IS 4 (by decide) k162 rfl rfl d_IS_answerDraftOn_62 ?_
        refine lv_aload_n F.1 F.2.1 d_IS_answerDraftOn_65 rfl (lv_at hl 1 rfl) ?_
        refine x_get F hK hO rfl i_IS 0 (by decide) k158 rfl rfl d_IS_answerDraftOn_66 ?_
        refine lv_iload_n F.1 F.2.1 d_IS_answerDraftOn_69 rfl (lv_at hl 0 rfl) ?_
        refine x_rd (x_V (n := 1) (As := [.int (nI k)]) F (c_AL_get l G (ca 1) (ca 2) ci (gn σ) ei k (cI ca k) hk (by omega) (hie k hk)) ok_AL_get k196 ⟨Nat.le_of_ble_eq_true rfl, Nat.le_of_ble_eq_true rfl⟩ rfl rfl hK (x_rcv hK hA1 rfl) (hIm) rfl hl.1 rfl (Nat.le_of_ble_eq_true rfl) d_IS_answerDraftOn_70 ⟨Nat.le_of_ble_eq_true rfl, Nat.le_of_ble_eq_true rfl⟩) ?_
        have hI_k := (hig k hk).1
        have hN_k := (hig k hk).2.1
        have hX_k := htg k hk
        have hU_k := hX_k.1
        refine va_castY F.1 F.2.1 F.2.2.2.1 (F.2.2.2.2 _ k85) (hK.2.1 _ (List.mem_of_getElem? (i := 5) rfl)) (x_rcv hK hI_k rfl) d_IS_answerDraftOn_73 ?_
        refine x_getN F hK hI_k rfl i_IM 1 (by decide) 1 rfl rfl rfl d_IS_answerDraftOn_76 ?_
        refine x_rd (x_V (n := 1) (As := [.ref (cT ca k)]) F (c_TR_sameAs l G (ca 11) (ca 12) (cT ca k) (cM ca k) f (gt σ k)) ok_TR_sameAs k277 ⟨Nat.le_of_ble_eq_true rfl, Nat.le_of_ble_eq_true rfl⟩ rfl rfl hK (x_rcv hK hT11 rfl) (⟨hdr, hX_k⟩) rfl hl.1 rfl (Nat.le_of_ble_eq_true rfl) d_IS_answerDraftOn_79 ⟨Nat.le_of_ble_eq_true rfl, Nat.le_of_ble_eq_true rfl⟩) ?_
        refine x_beq (tgt := 91) F d_IS_answerDraftOn_82 (by decide) (fun c82 => ?_) (fun c82 => ?_)
        · exact nxt (fun z => by rw [c82] at z; cases z.2) ls hl
        · have hfk : fnd σ f o (gn σ - 1) 1 = some k := by rw [← hfn]; exact if_pos ⟨hpk, c82⟩
          refine lv_aload_n F.1 F.2.1 d_IS_answerDraftOn_85 rfl (lv_at hl 1 rfl) ?_
          refine lv_iload_n F.1 F.2.1 d_IS_answerDraftOn_86 rfl (lv_at hl 0 rfl) ?_
          exact ans k hk (by unfold imgS; rw [e1, if_neg (by decide), hfk]) _ d_IS_answerDraftOn_87 d_IS_answerDraftOn_90 ls hl.1
      · have hb := hpr k (by omega)
        refine lv_icmp_ne (tgt := 91) F.1 F.2.1 d_IS_answerDraftOn_58 (by decide) (fun _ => ?_) (fun zq => absurd zq ((fun z => hpk ((nI_eq (by omega) (by omega)).mp z))))
        exact nxt (fun z => hpk z.1) ls hl
  refine lv_aload_n F.1 F.2.1 d_IS_answerDraftOn_0 rfl (lv_at hl 0 rfl) ?_
  refine x_get F hK hO rfl i_IS 4 (by decide) k162 rfl rfl d_IS_answerDraftOn_1 ?_
  refine lv_aload_n F.1 F.2.1 d_IS_answerDraftOn_4 rfl (lv_at hl 0 rfl) ?_
  refine x_get F hK hO rfl i_IS 0 (by decide) k158 rfl rfl d_IS_answerDraftOn_5 ?_
  refine lv_iload_n F.1 F.2.1 d_IS_answerDraftOn_8 rfl (lv_at hl 1 rfl) ?_
  refine x_rd (x_V (n := 1) (As := [.int (nI o)]) F (c_AL_get l G (ca 1) (ca 2) ci (gn σ) ei o (cI ca o) ho (by omega) (hie o ho)) ok_AL_get k196 ⟨Nat.le_of_ble_eq_true rfl, Nat.le_of_ble_eq_true rfl⟩ rfl rfl hK (x_rcv hK hA1 rfl) (hIm) rfl hl.1 rfl (Nat.le_of_ble_eq_true rfl) d_IS_answerDraftOn_9 ⟨Nat.le_of_ble_eq_true rfl, Nat.le_of_ble_eq_true rfl⟩) ?_
  have hI_o := (hig o ho).1
  have hN_o := (hig o ho).2.1
  have hX_o := htg o ho
  have hU_o := hX_o.1
  refine va_castY F.1 F.2.1 F.2.2.2.1 (F.2.2.2.2 _ k85) (hK.2.1 _ (List.mem_of_getElem? (i := 5) rfl)) (x_rcv hK hI_o rfl) d_IS_answerDraftOn_12 ?_
  refine x_getN F hK hI_o rfl i_IM 1 (by decide) 1 rfl rfl rfl d_IS_answerDraftOn_15 ?_
  refine x_rd (x_V (n := 1) (As := [.ref (cT ca o)]) F (c_TR_sameAs l G (ca 11) (ca 12) (cT ca o) (cM ca o) f (gt σ o)) ok_TR_sameAs k277 ⟨Nat.le_of_ble_eq_true rfl, Nat.le_of_ble_eq_true rfl⟩ rfl rfl hK (x_rcv hK hT11 rfl) (⟨hdr, hX_o⟩) rfl hl.1 rfl (Nat.le_of_ble_eq_true rfl) d_IS_answerDraftOn_18 ⟨Nat.le_of_ble_eq_true rfl, Nat.le_of_ble_eq_true rfl⟩) ?_
  refine x_beq (tgt := 30) F d_IS_answerDraftOn_21 (by decide) (fun c21 => ?_) (fun c21 => ?_)
  · refine lv_iconst (v := 0) F.1 F.2.1 d_IS_answerDraftOn_30 (by decide) ?_
    refine lv_istore_n (lv' := [(2, .int 0), (0, .ref (ca 0)), (1, .int (nI o))]) F.1 F.2.1 d_IS_answerDraftOn_31 rfl hl (by decide) rfl (fun ls hl => ?_)
    refine lv_iload_n F.1 F.2.1 d_IS_answerDraftOn_32 rfl (lv_at hl 0 rfl) ?_
    refine lv_aload_n F.1 F.2.1 d_IS_answerDraftOn_33 rfl (lv_at hl 1 rfl) ?_
    refine x_get F hK hO rfl i_IS 0 (by decide) k158 rfl rfl d_IS_answerDraftOn_34 ?_
    refine x_rd (x_V (n := 0) (As := []) F (c_AL_size l G (ca 1) (ca 2) ci (gn σ) ei) ok_AL_size k188 ⟨Nat.le_of_ble_eq_true rfl, Nat.le_of_ble_eq_true rfl⟩ rfl rfl hK (x_rcv hK hA1 rfl) (hIm) rfl hl.1 rfl (Nat.le_of_ble_eq_true rfl) d_IS_answerDraftOn_37 ⟨Nat.le_of_ble_eq_true rfl, Nat.le_of_ble_eq_true rfl⟩) ?_
    refine lv_icmp_ge (tgt := 97) F.1 F.2.1 d_IS_answerDraftOn_40 (by decide) (fun zq => absurd zq (pN_nle (a := (gn σ)) (b := 0) rfl rfl (by omega) (by omega) (by omega))) (fun _ => ?_)
    refine lv_aload_n F.1 F.2.1 d_IS_answerDraftOn_43 rfl (lv_at hl 1 rfl) ?_
    refine x_get F hK hO rfl i_IS 0 (by decide) k158 rfl rfl d_IS_answerDraftOn_44 ?_
    refine lv_iload_n F.1 F.2.1 d_IS_answerDraftOn_47 rfl (lv_at hl 0 rfl) ?_
    refine x_rd (x_V (n := 1) (As := [.int (nI 0)]) F (c_AL_get l G (ca 1) (ca 2) ci (gn σ) ei 0 (cI ca 0) hn1 (by omega) (hie 0 hn1)) ok_AL_get k196 ⟨Nat.le_of_ble_eq_true rfl, Nat.le_of_ble_eq_true rfl⟩ rfl rfl hK (x_rcv hK hA1 rfl) (hIm) rfl hl.1 rfl (Nat.le_of_ble_eq_true rfl) d_IS_answerDraftOn_48 ⟨Nat.le_of_ble_eq_true rfl, Nat.le_of_ble_eq_true rfl⟩) ?_
    have hI_0 := (hig 0 hn1).1
    have hN_0 := (hig 0 hn1).2.1
    have hX_0 := htg 0 hn1
    have hU_0 := hX_0.1
    refine va_castY F.1 F.2.1 F.2.2.2.1 (F.2.2.2.2 _ k85) (hK.2.1 _ (List.mem_of_getElem? (i := 5) rfl)) (x_rcv hK hI_0 rfl) d_IS_answerDraftOn_51 ?_
    refine x_getN F hK hI_0 rfl i_IM 0 (by decide) 0 rfl rfl rfl d_IS_answerDraftOn_54 ?_
    rw [show pI (gp σ) 0 = -1 from rfl]
    refine lv_iload_n F.1 F.2.1 d_IS_answerDraftOn_57 rfl (lv_at hl 2 rfl) ?_
    refine lv_icmp_ne (tgt := 91) F.1 F.2.1 d_IS_answerDraftOn_58 (by decide) (fun _ => ?_) (fun zq => absurd zq ((fun z => absurd (z ▸ nI_pos (n := o) (by omega)) (by decide))))
    refine lv_iinc (v := (nI (0 + 1))) (lv' := [(2, .int (nI (0 + 1))), (0, .ref (ca 0)), (1, .int (nI o))]) F.1 F.2.1 d_IS_answerDraftOn_91 hl (k := 0) rfl (nI_1 0) (by decide) rfl (fun ls hl => ?_)
    refine lv_goto (tgt := 32) F.1 F.2.1 d_IS_answerDraftOn_94 (by decide) ?_
    exact loop c21 (gn σ - 1) 1 (by omega) (Nat.le_refl _) rfl ls hl
  · refine lv_aload_n F.1 F.2.1 d_IS_answerDraftOn_24 rfl (lv_at hl 0 rfl) ?_
    refine lv_iload_n F.1 F.2.1 d_IS_answerDraftOn_25 rfl (lv_at hl 1 rfl) ?_
    exact ans o ho (by unfold imgS; rw [if_pos c21]) _ d_IS_answerDraftOn_26 d_IS_answerDraftOn_29 ls hl.1
theorem c_IS_build (x st p0 y : Int32) (sz : Nat) (hok : gI σ) (hN : cNum σ nl num rp) : Met l y_IS_build (x_ws y_IS_build b_IS_build 5 (some .int)) (x_rm 10 9 540) (x_P G [.ref (ca 0), .int x, .int st, .int p0, .int y] (fun H => H.size = sz ∧ CW G ca σ nl num rp f sn H)) (x_Q (CO G ca σ nl (bldS σ x st p0 y))) 9 540 (fun q => cA G ca (gn σ) nl q ∨ sz ≤ q) := by
  refine x_wI (by decide +kernel) (Nat.le_of_ble_eq_true rfl) (fun p e s m args below meth c F hK hP ls hl Q hret => ?_)
  have hl : lv_has ls 5 [(0, .ref (ca 0)), (1, .int x), (2, .int st), (3, .int p0), (4, .int y)] := hl
  obtain ⟨hsz, hP⟩ := hP
  have hS : va_S (fun q => cA G ca (gn σ) nl q ∨ sz ≤ q) s.heap s.heap [] := va_S.rf
  have hn40 := hok.1.2.1
  have own : ∀ c, us (gn σ) nl c → c ≠ 4 → cA G ca (gn σ) nl (ca c) := fun c hc h4 => hP.own hc h4
  have f12 : ∀ q, q = ca 12 → cA G ca (gn σ) nl q ∨ sz ≤ q := fun q h => by rw [h]; exact Or.inl (own 12 (usS (by decide)) (by decide))
  obtain ⟨hin, hne, hO, hB, hs0, hs1, hdr, hse⟩ := id hP
  obtain ⟨hZ, ⟨ci, ei, hIm, hie⟩, ⟨cy, ey, hLy, hle⟩, hig, htg, hlg⟩ := id hB
  obtain ⟨⟨mo1, hA1⟩, -⟩ := id hIm
  obtain ⟨⟨mo3, hA3⟩, -⟩ := id hLy
  have hT5 := hs0.1
  have hT8 := hs1.1
  have hT11 := hdr.1
  have k19 : hoB σ 0 x = false → ∀ ls : Array Slot, lv_has ls 5 [(0, .ref (ca 0)), (1, .int x), (2, .int st), (3, .int p0), (4, .int y)] → W p l e (x_rm 10 9 540) s m args below meth c s.heap [] 0 0 Q (F0 m 19 ls []) := by
    intro hb ls hl
    refine lv_iconst (v := (-1)) F.1 F.2.1 d_IS_build_19 (by decide) ?_
    exact hret _ _ _ _ _ _ _ d_IS_build_20 (by rw [show bldS σ x st p0 y = (-1, σ) from (by unfold bldS; rw [if_neg (by rw [hb]; decide)])]; exact CO_same (q := (-1, σ)) hP hN rfl (x_off.cut hS.off hsz)) hS.2.2 (Nat.zero_le _) (Nat.zero_le _)
  refine lv_aload_n F.1 F.2.1 d_IS_build_0 rfl (lv_at hl 0 rfl) ?_
  refine lv_iload_n F.1 F.2.1 d_IS_build_1 rfl (lv_at hl 1 rfl) ?_
  refine x_rd (x_V (n := 1) (As := [.int x]) F (c_IS_isMade l G ca σ nl num rp f sn x) ok_IS_isMade k184 ⟨Nat.le_of_ble_eq_true rfl, Nat.le_of_ble_eq_true rfl⟩ rfl rfl hK (x_rcv hK hO rfl) (hP) rfl hl.1 rfl (Nat.le_of_ble_eq_true rfl) d_IS_build_2 ⟨Nat.le_of_ble_eq_true rfl, Nat.le_of_ble_eq_true rfl⟩) ?_
  refine x_beq (tgt := 19) F d_IS_build_5 (by decide) (fun c5 => ?_) (fun c5 => ?_)
  · exact k19 (by unfold hoB; rw [c5]; rfl) ls hl
  · refine lv_aload_n F.1 F.2.1 d_IS_build_8 rfl (lv_at hl 0 rfl) ?_
    refine x_get F hK hO rfl i_IS 2 (by decide) k160 rfl rfl d_IS_build_9 ?_
    refine lv_iload_n F.1 F.2.1 d_IS_build_12 rfl (lv_at hl 1 rfl) ?_
    refine x_rd (x_V (n := 1) (As := [.int x]) F (c_ST_holds l G (ca 5) (ca 6) (ca 7) (gh σ 0) (gg σ 0) x) ok_ST_holds k192 ⟨Nat.le_of_ble_eq_true rfl, Nat.le_of_ble_eq_true rfl⟩ rfl rfl hK (x_rcv hK hT5 rfl) (hs0) rfl hl.1 rfl (Nat.le_of_ble_eq_true rfl) d_IS_build_13 ⟨Nat.le_of_ble_eq_true rfl, Nat.le_of_ble_eq_true rfl⟩) ?_
    rw [inS_ho hok (by decide)]
    refine x_bne (tgt := 21) F d_IS_build_16 (by decide) (fun c16 => ?_) (fun c16 => ?_)
    · have hv0 : tStep (gt σ x.toNatClampNeg) st p0 y = none → bldS σ x st p0 y = (-1, σ) := fun h => by unfold bldS; rw [if_pos c16, h]
      have hv1 : ∀ g, tStep (gt σ x.toNatClampNeg) st p0 y = some g → bldS σ x st p0 y = imgS σ g x.toNatClampNeg := fun g h => by unfold bldS; rw [if_pos c16, h]
      obtain ⟨i, hi, rfl, hci, hgi⟩ := hoB_of hn40 c16
      rw [hci] at hv0 hv1
      refine lv_aload_n F.1 F.2.1 d_IS_build_21 rfl (lv_at hl 0 rfl) ?_
      refine x_get F hK hO rfl i_IS 4 (by decide) k162 rfl rfl d_IS_build_22 ?_
      refine lv_aload_n F.1 F.2.1 d_IS_build_25 rfl (lv_at hl 0 rfl) ?_
      refine x_get F hK hO rfl i_IS 0 (by decide) k158 rfl rfl d_IS_build_26 ?_
      refine lv_iload_n F.1 F.2.1 d_IS_build_29 rfl (lv_at hl 1 rfl) ?_
      refine x_rd (x_V (n := 1) (As := [.int (nI i)]) F (c_AL_get l G (ca 1) (ca 2) ci (gn σ) ei i (cI ca i) hi (by omega) (hie i hi)) ok_AL_get k196 ⟨Nat.le_of_ble_eq_true rfl, Nat.le_of_ble_eq_true rfl⟩ rfl rfl hK (x_rcv hK hA1 rfl) (hIm) rfl hl.1 rfl (Nat.le_of_ble_eq_true rfl) d_IS_build_30 ⟨Nat.le_of_ble_eq_true rfl, Nat.le_of_ble_eq_true rfl⟩) ?_
      have hI_i := (hig i hi).1
      have hN_i := (hig i hi).2.1
      have hX_i := htg i hi
      have hU_i := hX_i.1
      refine va_castY F.1 F.2.1 F.2.2.2.1 (F.2.2.2.2 _ k85) (hK.2.1 _ (List.mem_of_getElem? (i := 5) rfl)) (x_rcv hK hI_i rfl) d_IS_build_33 ?_
      refine x_getN F hK hI_i rfl i_IM 1 (by decide) 1 rfl rfl rfl d_IS_build_36 ?_
      refine x_wr (x_V (n := 1) (As := [.ref (cT ca i)]) F (c_TR_become l G (ca 11) (ca 12) (cT ca i) (cM ca i) f (gt σ i) (hin.ne (usS (by decide)) (usI (r := 2) hi (by decide)) (by omega))) ok_TR_become k210 ⟨Nat.le_of_ble_eq_true rfl, Nat.le_of_ble_eq_true rfl⟩ rfl rfl hK (x_rcv hK hT11 rfl) (⟨hdr, hX_i⟩) rfl hl.1 rfl (Nat.le_of_ble_eq_true rfl) d_IS_build_39 ⟨Nat.le_of_ble_eq_true rfl, Nat.le_of_ble_eq_true rfl⟩) hS (fun q h => h.elim (f12 q) (fun h => by rw [h]; exact Or.inl (own _ (usI (r := 2) hi (by decide)) (by omega)))) (fun _ _ h => h.2.2.mono f12) (fun v H4 locs hpost hS => ?_)
      obtain ⟨rfl, hM, hoB⟩ := hpost
      have hP := hP.draft hM hoB
      obtain ⟨hin, hne, hO, hB, hs0, hs1, hdr, hse⟩ := id hP
      obtain ⟨hZ, ⟨ci, ei, hIm, hie⟩, ⟨cy, ey, hLy, hle⟩, hig, htg, hlg⟩ := id hB
      obtain ⟨⟨mo1, hA1⟩, -⟩ := id hIm
      obtain ⟨⟨mo3, hA3⟩, -⟩ := id hLy
      have hT5 := hs0.1
      have hT8 := hs1.1
      have hT11 := hdr.1
      refine lv_aload_n F.1 F.2.1 d_IS_build_42 rfl (lv_at hl 0 rfl) ?_
      refine x_get F hK hO rfl i_IS 4 (by decide) k162 rfl rfl d_IS_build_43 ?_
      refine lv_iload_n F.1 F.2.1 d_IS_build_46 rfl (lv_at hl 2 rfl) ?_
      refine lv_iload_n F.1 F.2.1 d_IS_build_47 rfl (lv_at hl 3 rfl) ?_
      refine lv_iload F.1 F.2.1 d_IS_build_48 (lv_at hl 4 rfl) ?_
      refine x_wr (x_V (n := 3) (As := [.int st, .int p0, .int y]) F (c_TR_change l G (ca 11) (ca 12) (gt σ i) st p0 y (hok.1.2.2.2.1 i hi)) ok_TR_change k215 ⟨Nat.le_of_ble_eq_true rfl, Nat.le_of_ble_eq_true rfl⟩ rfl rfl hK (x_rcv hK hT11 rfl) (hdr) rfl hl.1 rfl (Nat.le_of_ble_eq_true rfl) d_IS_build_50 ⟨Nat.le_of_ble_eq_true rfl, Nat.le_of_ble_eq_true rfl⟩) hS (f12) (fun _ _ h => h.2.2.mono f12) (fun v H5 locs hpost hS => ?_)
      obtain ⟨rfl, hM, hoC⟩ := hpost
      have hP := hP.draft hM hoC
      have hO := hP.2.2.1
      cases hg : tStep (gt σ i) st p0 y with
      | none =>
        rw [hg] at hP
        have hv := hv0 hg
        refine x_bne (tgt := 58) F d_IS_build_53 (by decide) (fun zq => absurd zq ((by simp))) (fun _ => ?_)
        refine lv_iconst (v := (-1)) F.1 F.2.1 d_IS_build_56 (by decide) ?_
        exact hret _ _ _ _ _ _ _ d_IS_build_57 (by rw [hv]; exact CO_same (q := (-1, σ)) hP hN rfl (x_off.cut hS.off hsz)) hS.2.2 (Nat.zero_le _) (Nat.zero_le _)
      | some g =>
        rw [hg] at hP
        have hv := hv1 g hg
        have hgo := tOk_step (hok.1.2.2.2.1 i hi) hg
        have hP : CW G ca σ nl num rp g sn _ := hP
        refine x_bne (tgt := 58) F d_IS_build_53 (by decide) (fun _ => ?_) (fun zq => absurd zq ((by simp)))
        refine lv_aload_n F.1 F.2.1 d_IS_build_58 rfl (lv_at hl 0 rfl) ?_
        refine lv_iload_n F.1 F.2.1 d_IS_build_59 rfl (lv_at hl 1 rfl) ?_
        have hx2 := hS.off
        generalize hszn : H5.size = szn at *
        refine x_wr (x_V (n := 1) (As := [.int (nI i)]) F (c_IS_answerDraftOn l G ca σ nl num rp g sn i szn hok hN hi hgo) ok_IS_answerDraftOn k273 ⟨Nat.le_of_ble_eq_true rfl, Nat.le_of_ble_eq_true rfl⟩ rfl rfl hK (x_rcv hK hO rfl) (⟨hszn, hP⟩) rfl hl.1 rfl (Nat.le_of_ble_eq_true rfl) d_IS_build_60 ⟨Nat.le_of_ble_eq_true rfl, Nat.le_of_ble_eq_true rfl⟩) hS (fun q h => h.imp_right (fun z => Nat.le_trans (by have := hx2.1; omega) z)) (fun _ _ h => h.2.2.mono (fun _ z => Or.inl z)) (fun v H6 locs hpost hS => ?_)
        obtain ⟨v1, hrest⟩ := id hpost
        subst v1
        exact hret _ _ _ _ _ _ _ d_IS_build_63 (by rw [hv]; exact CO.tr (x_off.cut hx2 hsz) hpost) hS.2.2 (Nat.le_of_ble_eq_true rfl) (Nat.le_of_ble_eq_true rfl)
    · exact k19 c16 ls hl
theorem c_IS_flatten (x : Int32) (sz : Nat) (hok : gI σ) (hN : cNum σ nl num rp) : Met l y_IS_flatten (x_ws y_IS_flatten b_IS_flatten 2 (some .int)) (x_rm 10 9 540) (x_P G [.ref (ca 0), .int x] (fun H => H.size = sz ∧ CW G ca σ nl num rp f sn H)) (x_Q (CO G ca σ nl (fltS σ x))) 9 540 (fun q => cA G ca (gn σ) nl q ∨ sz ≤ q) := by
  refine x_wI (by decide +kernel) (Nat.le_of_ble_eq_true rfl) (fun p e s m args below meth c F hK hP ls hl Q hret => ?_)
  have hl : lv_has ls 2 [(0, .ref (ca 0)), (1, .int x)] := hl
  obtain ⟨hsz, hP⟩ := hP
  have hS : va_S (fun q => cA G ca (gn σ) nl q ∨ sz ≤ q) s.heap s.heap [] := va_S.rf
  have hn40 := hok.1.2.1
  have own : ∀ c, us (gn σ) nl c → c ≠ 4 → cA G ca (gn σ) nl (ca c) := fun c hc h4 => hP.own hc h4
  have f12 : ∀ q, q = ca 12 → cA G ca (gn σ) nl q ∨ sz ≤ q := fun q h => by rw [h]; exact Or.inl (own 12 (usS (by decide)) (by decide))
  obtain ⟨hin, hne, hO, hB, hs0, hs1, hdr, hse⟩ := id hP
  obtain ⟨hZ, ⟨ci, ei, hIm, hie⟩, ⟨cy, ey, hLy, hle⟩, hig, htg, hlg⟩ := id hB
  obtain ⟨⟨mo1, hA1⟩, -⟩ := id hIm
  obtain ⟨⟨mo3, hA3⟩, -⟩ := id hLy
  have hT5 := hs0.1
  have hT8 := hs1.1
  have hT11 := hdr.1
  have k19 : hoB σ 0 x = false → ∀ ls : Array Slot, lv_has ls 2 [(0, .ref (ca 0)), (1, .int x)] → W p l e (x_rm 10 9 540) s m args below meth c s.heap [] 0 0 Q (F0 m 19 ls []) := by
    intro hb ls hl
    refine lv_iconst (v := (-1)) F.1 F.2.1 d_IS_flatten_19 (by decide) ?_
    exact hret _ _ _ _ _ _ _ d_IS_flatten_20 (by rw [show fltS σ x = (-1, σ) from (by unfold fltS; rw [if_neg (by rw [hb]; decide)])]; exact CO_same (q := (-1, σ)) hP hN rfl (x_off.cut hS.off hsz)) hS.2.2 (Nat.zero_le _) (Nat.zero_le _)
  refine lv_aload_n F.1 F.2.1 d_IS_flatten_0 rfl (lv_at hl 0 rfl) ?_
  refine lv_iload_n F.1 F.2.1 d_IS_flatten_1 rfl (lv_at hl 1 rfl) ?_
  refine x_rd (x_V (n := 1) (As := [.int x]) F (c_IS_isMade l G ca σ nl num rp f sn x) ok_IS_isMade k184 ⟨Nat.le_of_ble_eq_true rfl, Nat.le_of_ble_eq_true rfl⟩ rfl rfl hK (x_rcv hK hO rfl) (hP) rfl hl.1 rfl (Nat.le_of_ble_eq_true rfl) d_IS_flatten_2 ⟨Nat.le_of_ble_eq_true rfl, Nat.le_of_ble_eq_true rfl⟩) ?_
  refine x_beq (tgt := 19) F d_IS_flatten_5 (by decide) (fun c5 => ?_) (fun c5 => ?_)
  · exact k19 (by unfold hoB; rw [c5]; rfl) ls hl
  · refine lv_aload_n F.1 F.2.1 d_IS_flatten_8 rfl (lv_at hl 0 rfl) ?_
    refine x_get F hK hO rfl i_IS 2 (by decide) k160 rfl rfl d_IS_flatten_9 ?_
    refine lv_iload_n F.1 F.2.1 d_IS_flatten_12 rfl (lv_at hl 1 rfl) ?_
    refine x_rd (x_V (n := 1) (As := [.int x]) F (c_ST_holds l G (ca 5) (ca 6) (ca 7) (gh σ 0) (gg σ 0) x) ok_ST_holds k192 ⟨Nat.le_of_ble_eq_true rfl, Nat.le_of_ble_eq_true rfl⟩ rfl rfl hK (x_rcv hK hT5 rfl) (hs0) rfl hl.1 rfl (Nat.le_of_ble_eq_true rfl) d_IS_flatten_13 ⟨Nat.le_of_ble_eq_true rfl, Nat.le_of_ble_eq_true rfl⟩) ?_
    rw [inS_ho hok (by decide)]
    refine x_bne (tgt := 21) F d_IS_flatten_16 (by decide) (fun c16 => ?_) (fun c16 => ?_)
    · have hv : fltS σ x = imgS σ (gt σ x.toNatClampNeg) 0 := by unfold fltS; rw [if_pos c16]
      obtain ⟨i, hi, rfl, hci, hgi⟩ := hoB_of hn40 c16
      rw [hci] at hv
      refine lv_aload_n F.1 F.2.1 d_IS_flatten_21 rfl (lv_at hl 0 rfl) ?_
      refine x_get F hK hO rfl i_IS 4 (by decide) k162 rfl rfl d_IS_flatten_22 ?_
      refine lv_aload_n F.1 F.2.1 d_IS_flatten_25 rfl (lv_at hl 0 rfl) ?_
      refine x_get F hK hO rfl i_IS 0 (by decide) k158 rfl rfl d_IS_flatten_26 ?_
      refine lv_iload_n F.1 F.2.1 d_IS_flatten_29 rfl (lv_at hl 1 rfl) ?_
      refine x_rd (x_V (n := 1) (As := [.int (nI i)]) F (c_AL_get l G (ca 1) (ca 2) ci (gn σ) ei i (cI ca i) hi (by omega) (hie i hi)) ok_AL_get k196 ⟨Nat.le_of_ble_eq_true rfl, Nat.le_of_ble_eq_true rfl⟩ rfl rfl hK (x_rcv hK hA1 rfl) (hIm) rfl hl.1 rfl (Nat.le_of_ble_eq_true rfl) d_IS_flatten_30 ⟨Nat.le_of_ble_eq_true rfl, Nat.le_of_ble_eq_true rfl⟩) ?_
      have hI_i := (hig i hi).1
      have hN_i := (hig i hi).2.1
      have hX_i := htg i hi
      have hU_i := hX_i.1
      refine va_castY F.1 F.2.1 F.2.2.2.1 (F.2.2.2.2 _ k85) (hK.2.1 _ (List.mem_of_getElem? (i := 5) rfl)) (x_rcv hK hI_i rfl) d_IS_flatten_33 ?_
      refine x_getN F hK hI_i rfl i_IM 1 (by decide) 1 rfl rfl rfl d_IS_flatten_36 ?_
      refine x_wr (x_V (n := 1) (As := [.ref (cT ca i)]) F (c_TR_become l G (ca 11) (ca 12) (cT ca i) (cM ca i) f (gt σ i) (hin.ne (usS (by decide)) (usI (r := 2) hi (by decide)) (by omega))) ok_TR_become k210 ⟨Nat.le_of_ble_eq_true rfl, Nat.le_of_ble_eq_true rfl⟩ rfl rfl hK (x_rcv hK hT11 rfl) (⟨hdr, hX_i⟩) rfl hl.1 rfl (Nat.le_of_ble_eq_true rfl) d_IS_flatten_39 ⟨Nat.le_of_ble_eq_true rfl, Nat.le_of_ble_eq_true rfl⟩) hS (fun q h => h.elim (f12 q) (fun h => by rw [h]; exact Or.inl (own _ (usI (r := 2) hi (by decide)) (by omega)))) (fun _ _ h => h.2.2.mono f12) (fun v H7 locs hpost hS => ?_)
      obtain ⟨rfl, hM, hoB⟩ := hpost
      have hP := hP.draft hM hoB
      have hO := hP.2.2.1
      refine lv_aload_n F.1 F.2.1 d_IS_flatten_42 rfl (lv_at hl 0 rfl) ?_
      refine lv_iconst (v := 0) F.1 F.2.1 d_IS_flatten_43 (by decide) ?_
      have hx2 := hS.off
      generalize hszn : H7.size = szn at *
      refine x_wr (x_V (n := 1) (As := [.int 0]) F (c_IS_answerDraftOn l G ca σ nl num rp (gt σ i) sn 0 szn hok hN hok.1.1 (hok.1.2.2.2.1 i hi)) ok_IS_answerDraftOn k273 ⟨Nat.le_of_ble_eq_true rfl, Nat.le_of_ble_eq_true rfl⟩ rfl rfl hK (x_rcv hK hO rfl) (⟨hszn, hP⟩) rfl hl.1 rfl (Nat.le_of_ble_eq_true rfl) d_IS_flatten_44 ⟨Nat.le_of_ble_eq_true rfl, Nat.le_of_ble_eq_true rfl⟩) hS (fun q h => h.imp_right (fun z => Nat.le_trans (by have := hx2.1; omega) z)) (fun _ _ h => h.2.2.mono (fun _ z => Or.inl z)) (fun v H8 locs hpost hS => ?_)
      obtain ⟨v1, hrest⟩ := id hpost
      subst v1
      exact hret _ _ _ _ _ _ _ d_IS_flatten_47 (by rw [hv]; exact CO.tr (x_off.cut hx2 hsz) hpost) hS.2.2 (Nat.le_of_ble_eq_true rfl) (Nat.le_of_ble_eq_true rfl)
    · exact k19 c16 ls hl
      end MK

