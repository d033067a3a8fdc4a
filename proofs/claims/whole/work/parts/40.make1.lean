/-! ===== Arrays.copyOf of ints; numberOfLayer ===== -/
def cutI (f : Nat → Int32) (n : Nat) : Nat → Int32 := fun j => if j < n then f j else 0
theorem c_AR_copyOfI (l : Launch) (G : x_G) (d n : Nat) (f : Nat → Int32) (sz : Nat) (hn : n ≤ 40) : Met l y_AR_copyOfI (x_ws y_AR_copyOfI b_AR_copyOfI 3 (some (.array .int))) (x_rm 1 1 41) (x_P G [.ref d, .int (nI (n + 1))] (fun H => H.size = sz ∧ x_ai G d n f H)) (x_Q (fun r H H1 => ∃ q : Nat, r = some (.ref q) ∧ sz ≤ q ∧ x_ai G q (n + 1) (cutI f n) H1 ∧ x_off (fun _ => False) H H1)) 1 41 (fun q => q = d ∨ sz ≤ q) := by
  refine x_wA (Or.inr ⟨_, rfl⟩) (by decide +kernel) (Nat.le_of_ble_eq_true rfl) (fun p e s m args below meth c F hK hP ls hl Q hret => ?_)
  have hl : lv_has ls 3 [(0, .ref d), (1, .int (nI (n + 1)))] := hl
  obtain ⟨hsz, hM⟩ := hP
  have hS : va_S (fun q => q = d ∨ sz ≤ q) s.heap s.heap [] := va_S.rf
  have hd : d < sz := by rw [← hsz]; exact hM.lt
  have hMo := hM
  refine lv_iload_n F.1 F.2.1 d_AR_copyOfI_0 rfl (lv_at hl 1 rfl) ?_
  refine lv_aload_n F.1 F.2.1 d_AR_copyOfI_1 rfl (lv_at hl 0 rfl) ?_
  refine x_alen F hK hM 0 rfl d_AR_copyOfI_2 ?_
  refine lv_icmp_ne (tgt := 14) F.1 F.2.1 d_AR_copyOfI_3 (by decide) (fun _ => ?_) (fun zq => absurd zq (pN_neq (a := (n + 1)) (b := n) rfl rfl (by omega) (by omega) (by omega)))
  refine lv_iload_n F.1 F.2.1 d_AR_copyOfI_14 rfl (lv_at hl 1 rfl) ?_
  refine x_newaI (N := (n + 1)) F hK (by omega) (show 0 + 1 ≤ 1 by omega) (show 0 + (n + 1) ≤ 41 by omega) hS d_AR_copyOfI_15 (fun q H1 hq hNw hz1 ho1 hS => ?_)
  have n_d_q : d ≠ q := by have z := va_at.lt hM; dsimp only at z; omega
  have hM := va_at.kept hM (ho1 _ (va_at.lt hM))
  refine lv_astore_n (lv' := [(2, .ref q), (0, .ref d), (1, .int (nI (n + 1)))]) F.1 F.2.1 d_AR_copyOfI_17 rfl hl (by decide) rfl (fun ls hl => ?_)
  refine lv_aload_n F.1 F.2.1 d_AR_copyOfI_18 rfl (lv_at hl 1 rfl) ?_
  refine lv_iconst (v := 0) F.1 F.2.1 d_AR_copyOfI_19 (by decide) ?_
  refine lv_aload_n F.1 F.2.1 d_AR_copyOfI_20 rfl (lv_at hl 0 rfl) ?_
  refine lv_iconst (v := 0) F.1 F.2.1 d_AR_copyOfI_21 (by decide) ?_
  refine lv_aload_n F.1 F.2.1 d_AR_copyOfI_22 rfl (lv_at hl 1 rfl) ?_
  refine x_alen F hK hM 0 rfl d_AR_copyOfI_23 ?_
  refine lv_iload_n F.1 F.2.1 d_AR_copyOfI_24 rfl (lv_at hl 2 rfl) ?_
  refine x_rd (x_S (n := 2) (As := [.int (nI n), .int (nI (n + 1))]) F (c_MA_min l G n (n + 1) (by omega) (by omega)) ok_MA_min k150 ⟨Nat.le_of_ble_eq_true rfl, Nat.le_of_ble_eq_true rfl⟩ rfl rfl hK (trivial) rfl hl.1 rfl (Nat.le_of_ble_eq_true rfl) d_AR_copyOfI_25 ⟨Nat.le_refl _, show 0 + (n + 1) + 0 ≤ 41 by omega⟩) ?_
  rw [Nat.min_eq_left (Nat.le_succ n)]
  have hqd : d ≠ q := by omega
  have hP0 : va_P G.1 x_cl [(d, .inl (G.2.1, n, .inl f)), (q, .inl (G.2.1, n + 1, .inl (fun _ => 0)))] H1 := x_two hM hNw
  have hD0 : va_D (fun z => z = d ∨ sz ≤ z) [(d, (.inl (G.2.1, n, .inl f) : va_E)), (q, .inl (G.2.1, n + 1, .inl (fun _ => 0)))] := by
    refine ⟨fun i j p r h1 h2 h3 => ?_, fun k z hk => ?_⟩
    · match i, j, h1, h2 with
      | 0, 0, _, _ => rfl
      | 1, 1, _, _ => rfl
      | 0, 1, h1, h2 => cases h1; cases h2; exact absurd h3 hqd
      | 1, 0, h1, h2 => cases h1; cases h2; exact absurd h3.symm hqd
      | i + 2, _, h1, _ => simp at h1
      | _, j + 2, _, h2 => simp at h2
    · match k, hk with
      | 0, hk => cases hk; exact Or.inl rfl
      | 1, hk => cases hk; exact Or.inr (by omega)
      | k + 2, hk => simp at hk
  have e0 : (0 : Int32).toNatClampNeg = 0 := by decide
  have ec : (nI n).toNatClampNeg = n := nI_clamp (by omega)
  refine va_copyi (q0 := 0) (q1 := 1) (t0 := 0) (t1 := 0) (ty := .int) F.1 F.2.1 (F.2.2.1.trans hl.1.symm) F.2.2.2.1 (F.2.2.2.2 _ k153) (F.2.2.2.2 _ k155) (F.2.2.2.2 _ k154) (F.2.2.2.2 _ k11) hK.1 hP0 hD0 hS rfl rfl rfl rfl rfl (by decide) (by decide) (nI_pos (by omega)) (by rw [e0, ec]; omega) (by rw [e0, ec]; omega) (fun _ _ => rfl) (Nat.le_of_ble_eq_true rfl) (Nat.le_of_ble_eq_true rfl) d_AR_copyOfI_28 (fun H2 locs2 hP2 hD2 hS => ?_)
  have hq2 : x_ai G q (n + 1) (cutI f n) H2 := x_ai.cg (hP2 1 _ rfl) (fun j hj => by
    rw [e0, ec]
    unfold va_cpy cutI
    by_cases h : j < n
    · rw [if_pos (by omega), if_pos h]; congr 1; omega
    · rw [if_neg (by omega), if_neg h])
  have hd2 : x_ai G d n f H2 := hP2 0 _ rfl
  refine lv_aload_n F.1 F.2.1 d_AR_copyOfI_31 rfl (lv_at hl 0 rfl) ?_
  refine hret _ _ _ _ _ _ _ d_AR_copyOfI_32 ⟨q, rfl, by omega, hq2, hS.1, fun z h1 h2 => ?_⟩ hS.2.2 (Nat.le_of_ble_eq_true rfl) (by omega)
  by_cases hzd : z = d
  · subst hzd
    exact Eq.trans hd2 hMo.symm
  · exact hS.2.1 z h1 (fun w => w.elim hzd (fun w => by omega))
/-- every cell of the world is there -/
theorem CW.lt {G : x_G} {ca : Nat → Nat} {σ : Sg} {nl : Nat} {num rp : Nat → Nat} {f : Nat → Int64} {sn : Nat → Int32} {H : Heap} (h : CW G ca σ nl num rp f sn H) : ∀ c, us (gn σ) nl c → ca c < H.size := by
  obtain ⟨hin, hne, hO, ⟨hZ, ⟨ci, ei, hIm, hie⟩, ⟨cy, ey, hLy, hle⟩, hig, htg, hlg⟩, hs0, hs1, hdr, hse⟩ := h
  have al : ∀ {a d cap n : Nat} {es : Nat → Option Nat}, AL G a d cap n es H → a < H.size ∧ d < H.size := fun h => by
    obtain ⟨⟨mo, g1⟩, -, g3, -⟩ := h
    refine ⟨g1.lt, ?_⟩
    rcases g3 with ⟨rfl, -⟩ | g3
    · obtain ⟨-, scr, b1, -⟩ := hZ
      exact (Array.getElem?_eq_some_iff.mp b1).1
    · exact g3.1.lt
  intro c hc
  rcases hc with hc | ⟨h14, hr, hi⟩ | ⟨h14, hr, hi⟩
  · have : c = 0 ∨ c = 1 ∨ c = 2 ∨ c = 3 ∨ c = 4 ∨ c = 5 ∨ c = 6 ∨ c = 7 ∨ c = 8 ∨ c = 9 ∨ c = 10 ∨ c = 11 ∨ c = 12 ∨ c = 13 := by omega
    rcases this with rfl | rfl | rfl | rfl | rfl | rfl | rfl | rfl | rfl | rfl | rfl | rfl | rfl | rfl
    · exact hO.lt
    · exact (al hIm).1
    · exact (al hIm).2
    · exact (al hLy).1
    · exact (al hLy).2
    · exact hs0.1.lt
    · exact hs0.2.1.lt
    · exact hs0.2.2.1.lt
    · exact hs1.1.lt
    · exact hs1.2.1.lt
    · exact hs1.2.2.1.lt
    · exact hdr.1.lt
    · exact hdr.2.1.lt
    · exact hse.lt
  · generalize hj : (c - 14) / 7 = j at hi
    have : c = 14 + 7 * j ∨ c = 14 + 7 * j + 1 ∨ c = 14 + 7 * j + 2 ∨ c = 14 + 7 * j + 3 := by omega
    rcases this with rfl | rfl | rfl | rfl
    · exact (hig j hi).1.lt
    · exact (htg j hi).1.lt
    · exact (htg j hi).2.1.lt
    · exact (hig j hi).2.1.lt
  · generalize hj : (c - 14) / 7 = j at hi
    have : c = 14 + 7 * j + 4 ∨ c = 14 + 7 * j + 5 ∨ c = 14 + 7 * j + 6 := by omega
    rcases this with rfl | rfl | rfl
    · exact (hlg j hi).1.lt
    · exact (hlg j hi).2.1.lt
    · exact (hlg j hi).2.2.1.lt
theorem CW.nl40 {σ : Sg} (hok : gI σ) {nl : Nat} {num rp : Nat → Nat} (hN : cNum σ nl num rp) : nl < 40 := by
  have := hok.1.2.1
  have := hN.1
  omega
/-- what numberOfLayer leaves: a number that was there, or the next one and the list with v behind -/
def NL (G : x_G) (ca : Nat → Nat) (σ : Sg) (nl : Nat) (rp : Nat → Nat) (v sz : Nat) (L : List Nat) (w : Nat → Int64) : Option Value → Heap → Heap → Prop := fun r H H1 =>
  (∃ k, k < nl ∧ r = some (.int (nI k)) ∧ lyEq (eI σ (rp k) 125) (mkI σ (rp k)) L w = true ∧ x_off (fun _ => False) H H1) ∨
  (r = some (.int (nI nl)) ∧ (∀ k, k < nl → lyEq (eI σ (rp k) 125) (mkI σ (rp k)) L w = false) ∧ (∃ (d' cap' : Nat) (es' : Nat → Option Nat), AL G (ca 3) d' cap' (nl + 1) es' H1 ∧ (∀ k, k < nl → es' k = some (cY ca k)) ∧ es' nl = some v ∧ ((d' = ca 4 ∧ ca 4 ≠ x_t G) ∨ sz ≤ d')) ∧ x_off (fun q => q = ca 3 ∨ (q = ca 4 ∧ ca 4 ≠ x_t G)) H H1)
theorem c_IS_numberOfLayer (l : Launch) (G : x_G) (ca : Nat → Nat) (σ : Sg) (nl : Nat) (num rp : Nat → Nat) (f : Nat → Int64) (sn : Nat → Int32) (v b c0 sz : Nat) (L : List Nat) (w : Nat → Int64) (hok : gI σ) (hN : cNum σ nl num rp) (hL : L.length < 1000) (hv3 : ca 3 ≠ v) (hv4 : ca 4 ≠ v) : Met l y_IS_numberOfLayer (x_ws y_IS_numberOfLayer b_IS_numberOfLayer 3 (some .int)) (x_rm 7 1 60) (x_P G [.ref (ca 0), .ref v] (fun H => H.size = sz ∧ CW G ca σ nl num rp f sn H ∧ LY G v b c0 L w H)) (x_Q (NL G ca σ nl rp v sz L w)) 1 60 (fun q => (q = ca 3 ∨ (q = ca 4 ∧ ca 4 ≠ x_t G)) ∨ sz ≤ q) := by
  refine x_wI (by decide +kernel) (Nat.le_of_ble_eq_true rfl) (fun p e s m args below meth c F hK hP ls hl Q hret => ?_)
  have hl : lv_has ls 3 [(0, .ref (ca 0)), (1, .ref v)] := hl
  obtain ⟨hsz, hP, hV⟩ := hP
  have hS : va_S (fun q => (q = ca 3 ∨ (q = ca 4 ∧ ca 4 ≠ x_t G)) ∨ sz ≤ q) s.heap s.heap [] := va_S.rf
  have hnl := CW.nl40 hok hN
  have hVl := hV.1
  obtain ⟨hin, hne, hO, hB, hs0, hs1, hdr, hse⟩ := id hP
  obtain ⟨hZ, ⟨ci, ei, hIm, hie⟩, ⟨cy, ey, hLy, hle⟩, hig, htg, hlg⟩ := id hB
  obtain ⟨⟨mo1, hA1⟩, -⟩ := id hIm
  obtain ⟨⟨mo3, hA3⟩, -⟩ := id hLy
  have hT5 := hs0.1
  have hT8 := hs1.1
  have hT11 := hdr.1
  have loop : ∀ (d k : Nat), k + d = nl → (∀ j, j < k → lyEq (eI σ (rp j) 125) (mkI σ (rp j)) L w = false) → ∀ ls : Array Slot, lv_has ls 3 [(2, .int (nI k)), (0, .ref (ca 0)), (1, .ref v)] → W p l e (x_rm 7 1 60) s m args below meth c s.heap [] 0 0 Q (F0 m 2 ls []) := by
    intro d
    induction d with
    | zero =>
      intro k hk hno ls hl
      obtain rfl : k = nl := by omega
      refine lv_iload_n F.1 F.2.1 d_IS_numberOfLayer_2 rfl (lv_at hl 0 rfl) ?_
      refine lv_aload_n F.1 F.2.1 d_IS_numberOfLayer_3 rfl (lv_at hl 1 rfl) ?_
      refine x_get F hK hO rfl i_IS 1 (by decide) k159 rfl rfl d_IS_numberOfLayer_4 ?_
      refine x_rd (x_V (n := 0) (As := []) F (c_AL_size l G (ca 3) (ca 4) cy k ey) ok_AL_size k188 ⟨Nat.le_of_ble_eq_true rfl, Nat.le_of_ble_eq_true rfl⟩ rfl rfl hK (x_rcv hK hA3 rfl) (hLy) rfl hl.1 rfl (Nat.le_of_ble_eq_true rfl) d_IS_numberOfLayer_7 ⟨Nat.le_of_ble_eq_true rfl, Nat.le_of_ble_eq_true rfl⟩) ?_
      refine lv_icmp_ge (tgt := 39) F.1 F.2.1 d_IS_numberOfLayer_10 (by decide) (fun _ => ?_) (fun zq => absurd (pN_le (a := k) (b := k) rfl rfl (by omega) (by omega) (by omega)) zq)
      refine lv_aload_n F.1 F.2.1 d_IS_numberOfLayer_39 rfl (lv_at hl 1 rfl) ?_
      refine x_get F hK hO rfl i_IS 1 (by decide) k159 rfl rfl d_IS_numberOfLayer_40 ?_
      refine lv_aload_n F.1 F.2.1 d_IS_numberOfLayer_43 rfl (lv_at hl 2 rfl) ?_
      have hx : x_t G < sz := by
        obtain ⟨-, scr, b1, -⟩ := hZ
        rw [← hsz]
        exact (Array.getElem?_eq_some_iff.mp b1).1
      refine x_wr (x_V (n := 1) (As := [.ref v]) F (c_AL_add1 l G (ca 3) (ca 4) cy k v sz ey (by omega) (fun z => (hne 3 (usS (by decide))).1 z.symm) (fun z => (hne 3 (usS (by decide))).2 (by decide) z.symm) hx) ok_AL_add1 k104 ⟨Nat.le_of_ble_eq_true rfl, Nat.le_of_ble_eq_true rfl⟩ rfl rfl hK (x_rcv hK hA3 rfl) (⟨hsz, hZ, ⟨_, Or.inr hVl⟩, hv3, hv4, fun j hj y hy => by rw [hle j hj] at hy; cases hy; exact ⟨⟨_, Or.inr (hlg j hj).1⟩, hin.ne (usL (r := 4) hj (by decide) (by decide)) (usS (by decide)) (by omega)⟩, hLy⟩) rfl hl.1 rfl (Nat.le_of_ble_eq_true rfl) d_IS_numberOfLayer_44 ⟨show 0 + 1 ≤ 1 by omega, show 0 + 60 ≤ 60 by omega⟩) hS (fun _ h => h) (fun _ _ h => h.2.2.mono (fun _ z => Or.inl z)) (fun v H2 locs hpost hS => ?_)
      obtain ⟨rfl, ⟨d', cap', es', hAL, he1, he2, he3⟩, ho⟩ := hpost
      have hO := x_keep hO ho (by rintro (z | z); exact hin.ne (usS (by decide)) (usS (by decide)) (by decide) z; exact hin.ne (usS (by decide)) (usS (by decide)) (by decide) z.1)
      obtain ⟨⟨mo3, hA3⟩, -⟩ := id hAL
      refine lv_pop F.1 F.2.1 d_IS_numberOfLayer_47 rfl ?_
      refine lv_aload_n F.1 F.2.1 d_IS_numberOfLayer_48 rfl (lv_at hl 1 rfl) ?_
      refine x_get F hK hO rfl i_IS 1 (by decide) k159 rfl rfl d_IS_numberOfLayer_49 ?_
      refine x_rd (x_V (n := 0) (As := []) F (c_AL_size l G (ca 3) d' cap' (k + 1) es') ok_AL_size k188 ⟨Nat.le_of_ble_eq_true rfl, Nat.le_of_ble_eq_true rfl⟩ rfl rfl hK (x_rcv hK hA3 rfl) (hAL) rfl hl.1 rfl (Nat.le_of_ble_eq_true rfl) d_IS_numberOfLayer_52 ⟨Nat.le_of_ble_eq_true rfl, Nat.le_of_ble_eq_true rfl⟩) ?_
      refine lv_iconst (v := 1) F.1 F.2.1 d_IS_numberOfLayer_55 (by decide) ?_
      refine lv_isub F.1 F.2.1 d_IS_numberOfLayer_56 ?_
      rw [nI_pred]
      refine hret _ _ _ _ _ _ _ d_IS_numberOfLayer_57 (Or.inr ⟨rfl, hno, ⟨d', cap', es', hAL, fun j hj => (he1 j hj).trans (hle j hj), he2, he3⟩, ho⟩) hS.2.2 (Nat.le_of_ble_eq_true rfl) (Nat.le_of_ble_eq_true rfl)
    | succ d ih =>
      intro k hk hno ls hl
      have hkl : k < nl := by omega
      have hr := hN.2.1 k hkl
      have hpl : gp σ (rp k) < gn σ := by have := hok.1.2.2.1 _ hr.1; omega
      have hee := eL_eI (hok.1.2.2.2.1 _ hpl) (hok.1.2.2.2.1 _ hr.2.1) (n := 125) (Nat.le_refl _)
      have hel := eI_len σ (rp k) 125
      refine lv_iload_n F.1 F.2.1 d_IS_numberOfLayer_2 rfl (lv_at hl 0 rfl) ?_
      refine lv_aload_n F.1 F.2.1 d_IS_numberOfLayer_3 rfl (lv_at hl 1 rfl) ?_
      refine x_get F hK hO rfl i_IS 1 (by decide) k159 rfl rfl d_IS_numberOfLayer_4 ?_
      refine x_rd (x_V (n := 0) (As := []) F (c_AL_size l G (ca 3) (ca 4) cy nl ey) ok_AL_size k188 ⟨Nat.le_of_ble_eq_true rfl, Nat.le_of_ble_eq_true rfl⟩ rfl rfl hK (x_rcv hK hA3 rfl) (hLy) rfl hl.1 rfl (Nat.le_of_ble_eq_true rfl) d_IS_numberOfLayer_7 ⟨Nat.le_of_ble_eq_true rfl, Nat.le_of_ble_eq_true rfl⟩) ?_
      refine lv_icmp_ge (tgt := 39) F.1 F.2.1 d_IS_numberOfLayer_10 (by decide) (fun zq => absurd zq (pN_nle (a := nl) (b := k) rfl rfl (by omega) (by omega) (by omega))) (fun _ => ?_)
      refine lv_aload_n F.1 F.2.1 d_IS_numberOfLayer_13 rfl (lv_at hl 1 rfl) ?_
      refine x_get F hK hO rfl i_IS 1 (by decide) k159 rfl rfl d_IS_numberOfLayer_14 ?_
      refine lv_iload_n F.1 F.2.1 d_IS_numberOfLayer_17 rfl (lv_at hl 0 rfl) ?_
      refine x_rd (x_V (n := 1) (As := [.int (nI k)]) F (c_AL_get l G (ca 3) (ca 4) cy nl ey k (cY ca k) hkl (by omega) (hle k hkl)) ok_AL_get k196 ⟨Nat.le_of_ble_eq_true rfl, Nat.le_of_ble_eq_true rfl⟩ rfl rfl hK (x_rcv hK hA3 rfl) (hLy) rfl hl.1 rfl (Nat.le_of_ble_eq_true rfl) d_IS_numberOfLayer_18 ⟨Nat.le_of_ble_eq_true rfl, Nat.le_of_ble_eq_true rfl⟩) ?_
      have hV_k := hlg k hkl
      have hL_k := hV_k.1
      refine va_castY F.1 F.2.1 F.2.2.2.1 (F.2.2.2.2 _ k303) (hK.2.1 _ (List.mem_of_getElem? (i := 6) rfl)) (x_rcv hK hL_k rfl) d_IS_numberOfLayer_21 ?_
      rw [hee] at hV_k
      refine lv_aload_n F.1 F.2.1 d_IS_numberOfLayer_24 rfl (lv_at hl 2 rfl) ?_
      refine x_rd (x_V (n := 1) (As := [.ref v]) F (c_LY_sameAs l G (cY ca k) (cP ca k) (cQ ca k) v b c0 (eI σ (rp k) 125) L (mkI σ (rp k)) w (by omega) hL) ok_LY_sameAs k334 ⟨Nat.le_of_ble_eq_true rfl, Nat.le_of_ble_eq_true rfl⟩ rfl rfl hK (x_rcv hK hL_k rfl) (⟨hV_k, hV⟩) rfl hl.1 rfl (Nat.le_of_ble_eq_true rfl) d_IS_numberOfLayer_25 ⟨Nat.le_of_ble_eq_true rfl, Nat.le_of_ble_eq_true rfl⟩) ?_
      refine x_beq (tgt := 33) F d_IS_numberOfLayer_28 (by decide) (fun c28 => ?_) (fun c28 => ?_)
      · refine lv_iinc (v := (nI (k + 1))) (lv' := [(2, .int (nI (k + 1))), (0, .ref (ca 0)), (1, .ref v)]) F.1 F.2.1 d_IS_numberOfLayer_33 hl (k := 0) rfl (nI_1 k) (by decide) rfl (fun ls hl => ?_)
        refine lv_goto (tgt := 2) F.1 F.2.1 d_IS_numberOfLayer_36 (by decide) ?_
        exact ih (k + 1) (by omega) (fun j hj => by rcases Nat.lt_succ_iff_lt_or_eq.mp hj with h | rfl; exact hno j h; exact c28) ls hl
      · refine lv_iload_n F.1 F.2.1 d_IS_numberOfLayer_31 rfl (lv_at hl 0 rfl) ?_
        exact hret _ _ _ _ _ _ _ d_IS_numberOfLayer_32 (Or.inl ⟨k, hkl, rfl, c28, x_off.rf⟩) hS.2.2 (Nat.zero_le _) (Nat.zero_le _)
  refine lv_iconst (v := 0) F.1 F.2.1 d_IS_numberOfLayer_0 (by decide) ?_
  refine lv_istore_n (lv' := [(2, .int 0), (0, .ref (ca 0)), (1, .ref v)]) F.1 F.2.1 d_IS_numberOfLayer_1 rfl hl (by decide) rfl (fun ls hl => ?_)
  exact loop nl 0 (by omega) (fun j hj => absurd hj (Nat.not_lt_zero j)) ls hl

