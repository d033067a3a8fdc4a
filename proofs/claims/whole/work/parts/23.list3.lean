/-! ===== ArrayList.add ===== -/
theorem c_AL_growI_0 (l : Launch) (G : x_G) (a sz : Nat) (mo : Int32) (n1 : x_sa G ≠ a) (n2 : x_t G ≠ a) : Met l y_AL_growI (x_ws y_AL_growI b_AL_growI 4 (some (.array (.object "java/lang/Object")))) (x_rm 3 1 60) (x_P G [.ref a, .int (nI 1)] (fun H => H.size = sz ∧ x_Hs G H ∧ va_at G.1 x_cl (a, .inr (0, [.int mo, .ref (x_t G), .int (nI 0)])) H)) (x_Q (fun r H H1 => ∃ q, r = some (.ref q) ∧ sz ≤ q ∧ a ≠ q ∧ x_aq G q 10 (fun _ => none) H1 ∧ va_at G.1 x_cl (a, .inr (0, [.int mo, .ref q, .int (nI 0)])) H1 ∧ x_off (fun q => q = a) H H1)) 1 60 (fun q => q = a ∨ sz ≤ q) := by
  refine x_wA (Or.inr ⟨_, rfl⟩) (by decide +kernel) (Nat.le_of_ble_eq_true rfl) (fun p e s m args below meth c F hK hP ls hl Q hret => ?_)
  have hl : lv_has ls 4 [(0, .ref a), (1, .int (nI 1))] := hl
  obtain ⟨hsz, hZ, hT⟩ := hP
  have hS : va_S (fun q => q = a ∨ sz ≤ q) s.heap s.heap [] := va_S.rf
  refine lv_aload_n F.1 F.2.1 d_AL_growI_0 rfl (lv_at hl 0 rfl) ?_
  refine x_get F hK hT rfl i_AL 1 (by decide) k39 rfl rfl d_AL_growI_1 ?_
  refine x_tlen F hK hZ d_AL_growI_4 ?_
  refine lv_istore_n (lv' := [(2, .int (nI 0)), (0, .ref a), (1, .int (nI 1))]) F.1 F.2.1 d_AL_growI_5 rfl hl (by decide) rfl (fun ls hl => ?_)
  refine lv_iload_n F.1 F.2.1 d_AL_growI_6 rfl (lv_at hl 0 rfl) ?_
  refine lv_if_gt (tgt := 20) F.1 F.2.1 d_AL_growI_7 (by decide) (fun zq => absurd zq (pN_nlt (a := 0) (b := 0) rfl rfl (by omega) (by omega) (by omega))) (fun _ => ?_)
  refine lv_aload_n F.1 F.2.1 d_AL_growI_10 rfl (lv_at hl 1 rfl) ?_
  refine x_get F hK hT rfl i_AL 1 (by decide) k39 rfl rfl d_AL_growI_11 ?_
  refine x_gets F hK hZ k37 d_AL_growI_14 ?_
  refine lv_acmp_eq (rx := some (x_t G)) (ry := some (x_t G)) (tgt := 45) F.1 F.2.1 d_AL_growI_17 (by decide) (fun _ => ?_) (fun zq => absurd rfl zq)
  refine lv_aload_n F.1 F.2.1 d_AL_growI_45 rfl (lv_at hl 1 rfl) ?_
  refine lv_bipush (v := 10) F.1 F.2.1 d_AL_growI_46 (by decide) ?_
  refine lv_iload_n F.1 F.2.1 d_AL_growI_48 rfl (lv_at hl 2 rfl) ?_
  refine x_rd (x_S (n := 2) (As := [.int 10, .int (nI 1)]) F (c_MA_max l G 10 1 (by decide) (by decide)) ok_MA_max k156 ⟨Nat.le_of_ble_eq_true rfl, Nat.le_of_ble_eq_true rfl⟩ rfl rfl hK (trivial) rfl hl.1 rfl (Nat.le_of_ble_eq_true rfl) d_AL_growI_49 ⟨Nat.le_of_ble_eq_true rfl, Nat.le_of_ble_eq_true rfl⟩) ?_
  refine x_newaQ (N := 10) F hK k157 (by omega) (show 0 + 1 ≤ 1 by omega) (show 0 + 10 ≤ 60 by omega) hS d_AL_growI_52 (fun q H1 hq hNw hz1 ho1 hS => ?_)
  have hqa : a ≠ q := by have := hT.lt; dsimp only at this; omega
  have hT := va_at.kept hT (ho1 _ hT.lt)
  refine lv_dup_x1 F.1 F.2.1 d_AL_growI_55 rfl rfl ?_
  refine x_put F hK hT rfl i_AL t_AL p_AL n_AL 1 (by decide) k39 rfl rfl rfl rfl (Nat.le_of_ble_eq_true rfl) hS (Or.inl rfl) d_AL_growI_56 (fun H1 locs hT hz1 ho1 hS => ?_)
  have hT : va_at G.1 x_cl (a, .inr (0, [.int mo, .ref q, .int (nI 0)])) H1 := hT
  have hNw := va_at.kept hNw (ho1 _ (Ne.symm hqa))
  exact hret _ _ _ _ _ _ _ d_AL_growI_59 ⟨q, rfl, by omega, hqa, hNw, hT, hS.1, fun z h1 h2 => hS.2.1 z h1 (fun w => w.elim h2 (fun w => by omega))⟩ hS.2.2 (Nat.le_of_ble_eq_true rfl) (Nat.le_of_ble_eq_true rfl)
theorem c_AL_growI_n (l : Launch) (G : x_G) (a d cap sz : Nat) (mo : Int32) (es : Nat → Option Nat) (h10 : 10 ≤ cap) (h40 : cap ≤ 40) (had : a ≠ d) : Met l y_AL_growI (x_ws y_AL_growI b_AL_growI 4 (some (.array (.object "java/lang/Object")))) (x_rm 3 1 60) (x_P G [.ref a, .int (nI (cap + 1))] (fun H => H.size = sz ∧ x_aq G d cap es H ∧ (∀ j, j < cap → ∀ y, es j = some y → isO G y H) ∧ va_at G.1 x_cl (a, .inr (0, [.int mo, .ref d, .int (nI cap)])) H)) (x_Q (fun r H H1 => ∃ q, r = some (.ref q) ∧ sz ≤ q ∧ a ≠ q ∧ x_aq G q (cap + cap / 2) (cut es cap) H1 ∧ va_at G.1 x_cl (a, .inr (0, [.int mo, .ref q, .int (nI cap)])) H1 ∧ x_off (fun q => q = a) H H1)) 1 60 (fun q => (q = a ∨ q = d) ∨ sz ≤ q) := by
  refine x_wA (Or.inr ⟨_, rfl⟩) (by decide +kernel) (Nat.le_of_ble_eq_true rfl) (fun p e s m args below meth c F hK hP ls hl Q hret => ?_)
  have hl : lv_has ls 4 [(0, .ref a), (1, .int (nI (cap + 1)))] := hl
  obtain ⟨hsz, hM, hO, hT⟩ := hP
  have hS : va_S (fun q => (q = a ∨ q = d) ∨ sz ≤ q) s.heap s.heap [] := va_S.rf
  refine lv_aload_n F.1 F.2.1 d_AL_growI_0 rfl (lv_at hl 0 rfl) ?_
  refine x_get F hK hT rfl i_AL 1 (by decide) k39 rfl rfl d_AL_growI_1 ?_
  refine x_alen F hK hM 3 rfl d_AL_growI_4 ?_
  refine lv_istore_n (lv' := [(2, .int (nI cap)), (0, .ref a), (1, .int (nI (cap + 1)))]) F.1 F.2.1 d_AL_growI_5 rfl hl (by decide) rfl (fun ls hl => ?_)
  refine lv_iload_n F.1 F.2.1 d_AL_growI_6 rfl (lv_at hl 0 rfl) ?_
  refine lv_if_gt (tgt := 20) F.1 F.2.1 d_AL_growI_7 (by decide) (fun _ => ?_) (fun zq => absurd (pN_lt (a := 0) (b := cap) rfl rfl (by omega) (by omega) (by omega)) zq)
  refine lv_iload_n F.1 F.2.1 d_AL_growI_20 rfl (lv_at hl 0 rfl) ?_
  refine lv_iload_n F.1 F.2.1 d_AL_growI_21 rfl (lv_at hl 2 rfl) ?_
  refine lv_iload_n F.1 F.2.1 d_AL_growI_22 rfl (lv_at hl 0 rfl) ?_
  refine lv_isub F.1 F.2.1 d_AL_growI_23 ?_
  refine lv_iload_n F.1 F.2.1 d_AL_growI_24 rfl (lv_at hl 0 rfl) ?_
  refine lv_iconst (v := 1) F.1 F.2.1 d_AL_growI_25 (by decide) ?_
  refine lv_ishr F.1 F.2.1 d_AL_growI_26 ?_
  rw [show nI (cap + 1) - nI cap = nI 1 from (by rw [pk_sub (by omega)]; congr 1; omega), show nI cap >>> ((1 : Int32) &&& 31) = nI (cap / 2) from (pk_shrN (n := cap) (by omega) ((1 : Int32) &&& 31) 1 (by decide))]
  refine x_rd (x_S (n := 3) (As := [.int (nI cap), .int (nI 1), .int (nI (cap / 2))]) F (c_SU_newLength l G cap 1 (cap / 2) (by omega) (by decide) (by omega) (by omega)) ok_SU_newLength k120 ⟨Nat.le_of_ble_eq_true rfl, Nat.le_of_ble_eq_true rfl⟩ rfl rfl hK (trivial) rfl hl.1 rfl (Nat.le_of_ble_eq_true rfl) d_AL_growI_27 ⟨Nat.le_of_ble_eq_true rfl, Nat.le_of_ble_eq_true rfl⟩) ?_
  rw [Nat.max_eq_right (show 1 ≤ cap / 2 by omega)]
  refine lv_istore_n (lv' := [(3, .int (nI (cap + cap / 2))), (2, .int (nI cap)), (0, .ref a), (1, .int (nI (cap + 1)))]) F.1 F.2.1 d_AL_growI_30 rfl hl (by decide) rfl (fun ls hl => ?_)
  refine lv_aload_n F.1 F.2.1 d_AL_growI_31 rfl (lv_at hl 2 rfl) ?_
  refine lv_aload_n F.1 F.2.1 d_AL_growI_32 rfl (lv_at hl 2 rfl) ?_
  refine x_get F hK hT rfl i_AL 1 (by decide) k39 rfl rfl d_AL_growI_33 ?_
  refine lv_iload_n F.1 F.2.1 d_AL_growI_36 rfl (lv_at hl 0 rfl) ?_
  refine x_wr (x_S (n := 2) (As := [.ref d, .int (nI (cap + cap / 2))]) F (c_AR_copyOf2 l G d cap (cap + cap / 2) es sz (by omega) (by omega) (by omega)) ok_AR_copyOf2 k130 ⟨Nat.le_of_ble_eq_true rfl, Nat.le_of_ble_eq_true rfl⟩ rfl rfl hK (⟨hsz, hM, hO⟩) rfl hl.1 rfl (Nat.le_of_ble_eq_true rfl) d_AL_growI_37 ⟨show 0 + 1 ≤ 1 by omega, show 0 + (cap + cap / 2) ≤ 60 by omega⟩) hS (fun q h => h.elim (fun h => Or.inl (Or.inr h)) Or.inr) (fun _ _ h => by obtain ⟨q, -, -, -, ho⟩ := h; exact ho.mono (fun _ z => z.elim)) (fun v H2 locs hpost hS => ?_)
  obtain ⟨q, rfl, hq, hNw, ho⟩ := hpost
  have hqa : a ≠ q := by have := hT.lt; dsimp only at this; omega
  have hT := x_keep hT ho (fun z => z)
  refine lv_dup_x1 F.1 F.2.1 d_AL_growI_40 rfl rfl ?_
  refine x_put F hK hT rfl i_AL t_AL p_AL n_AL 1 (by decide) k39 rfl rfl rfl rfl (Nat.le_of_ble_eq_true rfl) hS (Or.inl (Or.inl rfl)) d_AL_growI_41 (fun H3 locs hT hz3 ho3 hS => ?_)
  have hT : va_at G.1 x_cl (a, .inr (0, [.int mo, .ref q, .int (nI cap)])) H3 := hT
  have hNw := va_at.kept hNw (ho3 _ (Ne.symm hqa))
  exact hret _ _ _ _ _ _ _ d_AL_growI_44 ⟨q, rfl, hq, hqa, hNw, hT, Nat.le_trans ho.1 (by rw [hz3]; exact Nat.le_refl _), fun z h1 h2 => (ho3 z h2).trans (ho.2 z h1 (fun z => z))⟩ hS.2.2 (Nat.le_of_ble_eq_true rfl) (show 0 + (cap + cap / 2) ≤ 60 by omega)
theorem c_AL_grow0_0 (l : Launch) (G : x_G) (a sz : Nat) (mo : Int32) (n1 : x_sa G ≠ a) (n2 : x_t G ≠ a) : Met l y_AL_grow0 (x_ws y_AL_grow0 b_AL_grow0 1 (some (.array (.object "java/lang/Object")))) (x_rm 4 1 60) (x_P G [.ref a] (fun H => H.size = sz ∧ x_Hs G H ∧ va_at G.1 x_cl (a, .inr (0, [.int mo, .ref (x_t G), .int (nI 0)])) H)) (x_Q (fun r H H1 => ∃ q, r = some (.ref q) ∧ sz ≤ q ∧ a ≠ q ∧ x_aq G q 10 (fun _ => none) H1 ∧ va_at G.1 x_cl (a, .inr (0, [.int mo, .ref q, .int (nI 0)])) H1 ∧ x_off (fun q => q = a) H H1)) 1 60 (fun q => q = a ∨ sz ≤ q) := by
  refine x_wA (Or.inr ⟨_, rfl⟩) (by decide +kernel) (Nat.le_of_ble_eq_true rfl) (fun p e s m args below meth c F hK hP ls hl Q hret => ?_)
  have hl : lv_has ls 1 [(0, .ref a)] := hl
  obtain ⟨hsz, hZ, hT⟩ := id hP
  have hS : va_S (fun q => q = a ∨ sz ≤ q) s.heap s.heap [] := va_S.rf
  refine lv_aload_n F.1 F.2.1 d_AL_grow0_0 rfl (lv_at hl 0 rfl) ?_
  refine lv_aload_n F.1 F.2.1 d_AL_grow0_1 rfl (lv_at hl 0 rfl) ?_
  refine x_get F hK hT rfl i_AL 2 (by decide) k40 rfl rfl d_AL_grow0_2 ?_
  refine lv_iconst (v := 1) F.1 F.2.1 d_AL_grow0_5 (by decide) ?_
  refine lv_iadd F.1 F.2.1 d_AL_grow0_6 ?_
  refine x_wr (x_V (n := 1) (As := [.int (nI 1)]) F (c_AL_growI_0 l G a sz mo n1 n2) ok_AL_growI k116 ⟨Nat.le_of_ble_eq_true rfl, Nat.le_of_ble_eq_true rfl⟩ rfl rfl hK (x_rcv hK hT rfl) (hP) rfl hl.1 rfl (Nat.le_of_ble_eq_true rfl) d_AL_grow0_7 ⟨show 0 + 1 ≤ 1 by omega, show 0 + 60 ≤ 60 by omega⟩) hS (fun _ h => h) (fun _ _ h => by obtain ⟨q, -, -, -, -, -, ho⟩ := h; exact ho.mono (fun _ z => Or.inl z)) (fun v H4 locs hpost hS => ?_)
  obtain ⟨q, rfl, hpost⟩ := hpost
  exact hret _ _ _ _ _ _ _ d_AL_grow0_10 ⟨q, rfl, hpost⟩ hS.2.2 (Nat.le_of_ble_eq_true rfl) (Nat.le_of_ble_eq_true rfl)
theorem c_AL_grow0_n (l : Launch) (G : x_G) (a d cap sz : Nat) (mo : Int32) (es : Nat → Option Nat) (h10 : 10 ≤ cap) (h40 : cap ≤ 40) (had : a ≠ d) : Met l y_AL_grow0 (x_ws y_AL_grow0 b_AL_grow0 1 (some (.array (.object "java/lang/Object")))) (x_rm 4 1 60) (x_P G [.ref a] (fun H => H.size = sz ∧ x_aq G d cap es H ∧ (∀ j, j < cap → ∀ y, es j = some y → isO G y H) ∧ va_at G.1 x_cl (a, .inr (0, [.int mo, .ref d, .int (nI cap)])) H)) (x_Q (fun r H H1 => ∃ q, r = some (.ref q) ∧ sz ≤ q ∧ a ≠ q ∧ x_aq G q (cap + cap / 2) (cut es cap) H1 ∧ va_at G.1 x_cl (a, .inr (0, [.int mo, .ref q, .int (nI cap)])) H1 ∧ x_off (fun q => q = a) H H1)) 1 60 (fun q => (q = a ∨ q = d) ∨ sz ≤ q) := by
  refine x_wA (Or.inr ⟨_, rfl⟩) (by decide +kernel) (Nat.le_of_ble_eq_true rfl) (fun p e s m args below meth c F hK hP ls hl Q hret => ?_)
  have hl : lv_has ls 1 [(0, .ref a)] := hl
  obtain ⟨hsz, hM, hO, hT⟩ := id hP
  have hS : va_S (fun q => (q = a ∨ q = d) ∨ sz ≤ q) s.heap s.heap [] := va_S.rf
  refine lv_aload_n F.1 F.2.1 d_AL_grow0_0 rfl (lv_at hl 0 rfl) ?_
  refine lv_aload_n F.1 F.2.1 d_AL_grow0_1 rfl (lv_at hl 0 rfl) ?_
  refine x_get F hK hT rfl i_AL 2 (by decide) k40 rfl rfl d_AL_grow0_2 ?_
  refine lv_iconst (v := 1) F.1 F.2.1 d_AL_grow0_5 (by decide) ?_
  refine lv_iadd F.1 F.2.1 d_AL_grow0_6 ?_
  rw [nI_1]
  refine x_wr (x_V (n := 1) (As := [.int (nI (cap + 1))]) F (c_AL_growI_n l G a d cap sz mo es h10 h40 had) ok_AL_growI k116 ⟨Nat.le_of_ble_eq_true rfl, Nat.le_of_ble_eq_true rfl⟩ rfl rfl hK (x_rcv hK hT rfl) (hP) rfl hl.1 rfl (Nat.le_of_ble_eq_true rfl) d_AL_grow0_7 ⟨show 0 + 1 ≤ 1 by omega, show 0 + 60 ≤ 60 by omega⟩) hS (fun _ h => h) (fun _ _ h => by obtain ⟨q, -, -, -, -, -, ho⟩ := h; exact ho.mono (fun _ z => Or.inl (Or.inl z))) (fun v H5 locs hpost hS => ?_)
  obtain ⟨q, rfl, hpost⟩ := hpost
  exact hret _ _ _ _ _ _ _ d_AL_grow0_10 ⟨q, rfl, hpost⟩ hS.2.2 (Nat.le_of_ble_eq_true rfl) (Nat.le_of_ble_eq_true rfl)
/-- what add leaves: the list with v behind -/
def ALadd (G : x_G) (a d n sz v : Nat) (es : Nat → Option Nat) (H H1 : Heap) : Prop := (∃ (d' cap' : Nat) (es' : Nat → Option Nat), AL G a d' cap' (n + 1) es' H1 ∧ (∀ j, j < n → es' j = es j) ∧ es' n = some v ∧ ((d' = d ∧ d ≠ x_t G) ∨ sz ≤ d')) ∧ x_off (fun q => q = a ∨ (q = d ∧ d ≠ x_t G)) H H1
theorem c_AL_add3 (l : Launch) (G : x_G) (a d cap n v sz : Nat) (mo : Int32) (es : Nat → Option Nat) (hn : n ≤ 40) (n1 : x_sa G ≠ a) (n2 : x_t G ≠ a) (hts : x_t G < sz) : Met l y_AL_add3 (x_ws y_AL_add3 b_AL_add3 4 none) (x_rm 5 1 60) (x_P G [.ref a, .ref v, .ref d, .int (nI n)] (fun H => H.size = sz ∧ x_Hs G H ∧ isO G v H ∧ a ≠ v ∧ d ≠ v ∧ (∀ j, j < n → ∀ y, es j = some y → isO G y H) ∧ AL G a d cap n es H ∧ va_at G.1 x_cl (a, .inr (0, [.int mo, .ref d, .int (nI n)])) H)) (x_Q (fun r H H1 => r = none ∧ ALadd G a d n sz v es H H1)) 1 60 (fun q => (q = a ∨ (q = d ∧ d ≠ x_t G)) ∨ sz ≤ q) := by
  refine x_wV (by decide +kernel) (Nat.le_of_ble_eq_true rfl) (fun p e s m args below meth c F hnm hK hP ls hl Q hret => ?_)
  have hl : lv_has ls 4 [(0, .ref a), (1, .ref v), (2, .ref d), (3, .int (nI n))] := hl
  obtain ⟨hsz, hZ, hv, hav, hdv, hO, ⟨-, had, hA, hc⟩, hT⟩ := hP
  have hS : va_S (fun q => (q = a ∨ (q = d ∧ d ≠ x_t G)) ∨ sz ≤ q) s.heap s.heap [] := va_S.rf
  have hvs : v < sz := by rw [← hsz]; exact hv.lt
  have fin : ∀ (q N : Nat) (es' : Nat → Option Nat) (H : Heap) (locs : List Loc) (cells slots : Nat), cells ≤ 1 → slots ≤ 60 → a ≠ q → q ≠ v → n < N → N < 1000 → 10 ≤ N → ((q = d ∧ d ≠ x_t G) ∨ sz ≤ q) → (∀ j, j < n → es' j = es j) → x_aq G q N es' H → va_at G.1 x_cl (a, .inr (0, [.int mo, .ref q, .int (nI n)])) H → isO G v H → va_S (fun q => (q = a ∨ (q = d ∧ d ≠ x_t G)) ∨ sz ≤ q) s.heap H locs → ∀ ls : Array Slot, lv_has ls 4 [(2, .ref q), (0, .ref a), (1, .ref v), (3, .int (nI n))] → W p l e (x_rm 5 1 60) s m args below meth c H locs cells slots Q (F0 m 11 ls []) := by
    intro q N es' H locs cells slots hce hsl haq hqv hnN hN h10 hqd hes hM hT hv hS ls hl
    have hAq : (q = a ∨ (q = d ∧ d ≠ x_t G)) ∨ sz ≤ q := hqd.elim (fun h => Or.inl (Or.inr h)) Or.inr
    refine lv_aload_n F.1 F.2.1 d_AL_add3_11 rfl (lv_at hl 0 rfl) ?_
    refine lv_iload_n F.1 F.2.1 d_AL_add3_12 rfl (lv_at hl 3 rfl) ?_
    refine lv_aload_n F.1 F.2.1 d_AL_add3_13 rfl (lv_at hl 2 rfl) ?_
    refine x_qast F hK hM hv (by omega) hnN hS hAq d_AL_add3_14 (fun H1 locs hM hz1 ho1 hS => ?_)
    have hT := va_at.kept hT (ho1 _ haq)
    refine lv_aload_n F.1 F.2.1 d_AL_add3_15 rfl (lv_at hl 1 rfl) ?_
    refine lv_iload_n F.1 F.2.1 d_AL_add3_16 rfl (lv_at hl 3 rfl) ?_
    refine lv_iconst (v := 1) F.1 F.2.1 d_AL_add3_17 (by decide) ?_
    refine lv_iadd F.1 F.2.1 d_AL_add3_18 ?_
    rw [nI_1]
    refine x_put F hK hT rfl i_AL t_AL p_AL n_AL 2 (by decide) k40 rfl rfl rfl rfl (Nat.le_of_ble_eq_true rfl) hS (Or.inl (Or.inl rfl)) d_AL_add3_19 (fun H6 locs hT hz6 ho6 hS => ?_)
    have hT : va_at G.1 x_cl (a, .inr (0, [.int mo, .ref q, .int (nI (n + 1))])) H6 := hT
    have hM := va_at.kept hM (ho6 _ (Ne.symm haq))
    refine hret _ _ _ _ _ _ d_AL_add3_22 ⟨rfl, ⟨q, N, va_up es' n (some v), ⟨⟨mo, hT⟩, haq, Or.inr ⟨hM, by omega, h10⟩, hN⟩, fun j hj => ?_, va_up_self _ _ _, hqd⟩, hS.1, fun z h1 h2 => hS.2.1 z h1 (fun w => w.elim h2 (fun w => by omega))⟩ hS.2.2 hce hsl
    rw [va_up_ne _ _ (show j ≠ n by omega)]
    exact hes j hj
  rcases hA with ⟨rfl, rfl⟩ | ⟨hM, hnc, h10⟩
  · skip
    refine lv_iload_n F.1 F.2.1 d_AL_add3_0 rfl (lv_at hl 3 rfl) ?_
    refine lv_aload_n F.1 F.2.1 d_AL_add3_1 rfl (lv_at hl 2 rfl) ?_
    refine x_tlen F hK hZ d_AL_add3_2 ?_
    refine lv_icmp_ne (tgt := 11) F.1 F.2.1 d_AL_add3_3 (by decide) (fun zq => absurd (pN_eq (a := 0) (b := 0) rfl rfl (by omega) (by omega) (by omega)) zq) (fun _ => ?_)
    refine lv_aload_n F.1 F.2.1 d_AL_add3_6 rfl (lv_at hl 0 rfl) ?_
    refine x_wr (x_V (n := 0) (As := []) F (c_AL_grow0_0 l G a sz mo n1 n2) ok_AL_grow0 k112 ⟨Nat.le_of_ble_eq_true rfl, Nat.le_of_ble_eq_true rfl⟩ rfl rfl hK (x_rcv hK hT rfl) (⟨hsz, hZ, hT⟩) rfl hl.1 rfl (Nat.le_of_ble_eq_true rfl) d_AL_add3_7 ⟨show 0 + 1 ≤ 1 by omega, show 0 + 60 ≤ 60 by omega⟩) hS (fun q h => h.elim (fun h => Or.inl (Or.inl h)) Or.inr) (fun _ _ h => by obtain ⟨q, -, -, -, -, -, ho⟩ := h; exact ho.mono (fun _ z => Or.inl (Or.inl z))) (fun v H7 locs hpost hS => ?_)
    obtain ⟨q, rfl, hq, haq, hNw, hT, ho⟩ := hpost
    have hv := hv.keep (ho.2 _ hv.lt (Ne.symm hav))
    refine lv_astore_n (lv' := [(2, .ref q), (0, .ref a), (1, .ref v), (3, .int (nI 0))]) F.1 F.2.1 d_AL_add3_10 rfl hl (by decide) rfl (fun ls hl => ?_)
    exact fin q 10 (fun _ => none) _ _ _ _ (by omega) (by omega) haq (by omega) (by decide) (by decide) (Nat.le_refl _) (Or.inr hq) (fun j hj => absurd hj (Nat.not_lt_zero j)) hNw hT hv hS ls hl
  · skip
    have hdt : d ≠ x_t G := by
      intro h
      obtain ⟨-, scr, b1, -, -, -, b5⟩ := hZ
      have hM' : s.heap[d]? = some (vp_cell G.2.2.2.2 (cap, .inr (.inr (.inr (.inr es))))) := hM
      rw [h, b1] at hM'
      have := Option.some.inj hM'
      rw [this, vp_cell_q, arrV_size] at b5
      omega
    refine lv_iload_n F.1 F.2.1 d_AL_add3_0 rfl (lv_at hl 3 rfl) ?_
    refine lv_aload_n F.1 F.2.1 d_AL_add3_1 rfl (lv_at hl 2 rfl) ?_
    refine x_alen F hK hM 3 rfl d_AL_add3_2 ?_
    refine lv_icmp_ne (tgt := 11) F.1 F.2.1 d_AL_add3_3 (by decide) (fun c3 => ?_) (fun c3 => ?_)
    · have c3 := mt (pN_eqI (a := n) (b := cap) rfl rfl (by omega) (by omega)).mpr c3
      exact fin d cap es _ _ _ _ (by omega) (by omega) had hdv (by omega) hc h10 (Or.inl ⟨rfl, hdt⟩) (fun _ _ => rfl) hM hT hv hS ls (lv_sub hl [2, 0, 1, 3] rfl)
    · have c3 := (pN_eqI (a := n) (b := cap) rfl rfl (by omega) (by omega)).mp c3
      obtain rfl : n = cap := by omega
      refine lv_aload_n F.1 F.2.1 d_AL_add3_6 rfl (lv_at hl 0 rfl) ?_
      refine x_wr (x_V (n := 0) (As := []) F (c_AL_grow0_n l G a d n sz mo es h10 hn had) ok_AL_grow0 k112 ⟨Nat.le_of_ble_eq_true rfl, Nat.le_of_ble_eq_true rfl⟩ rfl rfl hK (x_rcv hK hT rfl) (⟨hsz, hM, hO, hT⟩) rfl hl.1 rfl (Nat.le_of_ble_eq_true rfl) d_AL_add3_7 ⟨show 0 + 1 ≤ 1 by omega, show 0 + 60 ≤ 60 by omega⟩) hS (fun q h => h.elim (fun h => h.elim (fun h => Or.inl (Or.inl h)) (fun h => Or.inl (Or.inr ⟨h, hdt⟩))) Or.inr) (fun _ _ h => by obtain ⟨q, -, -, -, -, -, ho⟩ := h; exact ho.mono (fun _ z => Or.inl (Or.inl z))) (fun v H8 locs hpost hS => ?_)
      obtain ⟨q, rfl, hq, haq, hNw, hT, ho⟩ := hpost
      have hv := hv.keep (ho.2 _ hv.lt (Ne.symm hav))
      refine lv_astore_n (lv' := [(2, .ref q), (0, .ref a), (1, .ref v), (3, .int (nI n))]) F.1 F.2.1 d_AL_add3_10 rfl hl (by decide) rfl (fun ls hl => ?_)
      exact fin q (n + n / 2) (cut es n) _ _ _ _ (by omega) (by omega) haq (by omega) (by omega) (by omega) (by omega) (Or.inr hq) (fun j hj => if_pos hj) hNw hT hv hS ls hl
theorem c_AL_add1 (l : Launch) (G : x_G) (a d cap n v sz : Nat) (es : Nat → Option Nat) (hn : n ≤ 40) (n1 : x_sa G ≠ a) (n2 : x_t G ≠ a) (hts : x_t G < sz) : Met l y_AL_add1 (x_ws y_AL_add1 b_AL_add1 2 (some .boolean)) (x_rm 6 1 60) (x_P G [.ref a, .ref v] (fun H => H.size = sz ∧ x_Hs G H ∧ isO G v H ∧ a ≠ v ∧ d ≠ v ∧ (∀ j, j < n → ∀ y, es j = some y → isO G y H ∧ y ≠ a) ∧ AL G a d cap n es H)) (x_Q (fun r H H1 => r = some (.int (x_b true)) ∧ ALadd G a d n sz v es H H1)) 1 60 (fun q => (q = a ∨ (q = d ∧ d ≠ x_t G)) ∨ sz ≤ q) := by
  refine x_wZ (by decide +kernel) (Nat.le_of_ble_eq_true rfl) (fun p e s m args below meth c F hK hP ls hl Q hret => ?_)
  have hl : lv_has ls 2 [(0, .ref a), (1, .ref v)] := hl
  obtain ⟨hsz, hZ, hv, hav, hdv, hO, ⟨⟨mo, hT⟩, had, hA, hc⟩⟩ := hP
  have hS : va_S (fun q => (q = a ∨ (q = d ∧ d ≠ x_t G)) ∨ sz ≤ q) s.heap s.heap [] := va_S.rf
  refine lv_aload_n F.1 F.2.1 d_AL_add1_0 rfl (lv_at hl 0 rfl) ?_
  refine lv_dup F.1 F.2.1 d_AL_add1_1 rfl ?_
  refine x_getM F hK hT d_AL_add1_2 ?_
  refine lv_iconst (v := 1) F.1 F.2.1 d_AL_add1_5 (by decide) ?_
  refine lv_iadd F.1 F.2.1 d_AL_add1_6 ?_
  refine x_putM F hK hT d_AL_add1_7 hS (Or.inl (Or.inl rfl)) (fun H1 locs hT hz1 ho1 hS => ?_)
  refine lv_aload_n F.1 F.2.1 d_AL_add1_10 rfl (lv_at hl 0 rfl) ?_
  refine lv_aload_n F.1 F.2.1 d_AL_add1_11 rfl (lv_at hl 1 rfl) ?_
  refine lv_aload_n F.1 F.2.1 d_AL_add1_12 rfl (lv_at hl 0 rfl) ?_
  refine x_get F hK hT rfl i_AL 1 (by decide) k39 rfl rfl d_AL_add1_13 ?_
  refine lv_aload_n F.1 F.2.1 d_AL_add1_16 rfl (lv_at hl 0 rfl) ?_
  refine x_get F hK hT rfl i_AL 2 (by decide) k40 rfl rfl d_AL_add1_17 ?_
  have hoA : x_off (fun q => q = a) s.heap H1 := ⟨by rw [hz1]; exact Nat.le_refl _, fun q _ h => ho1 q h⟩
  have hA1 : (d = x_t G ∧ n = 0) ∨ (x_aq G d cap es H1 ∧ n ≤ cap ∧ 10 ≤ cap) := hA.elim Or.inl (fun h => Or.inr ⟨x_keep h.1 hoA (Ne.symm had), h.2⟩)
  refine x_wr (x_V (n := 3) (As := [.ref v, .ref d, .int (nI n)]) F (c_AL_add3 l G a d cap n v sz (mo + 1) es hn n1 n2 hts) ok_AL_add3 k108 ⟨Nat.le_of_ble_eq_true rfl, Nat.le_of_ble_eq_true rfl⟩ rfl rfl hK (x_rcv hK hT rfl) (⟨hz1.trans hsz, hZ.keep hoA n1 n2, hv.keep (ho1 _ (Ne.symm hav)), hav, hdv, fun j hj y hy => (hO j hj y hy).1.keep (ho1 _ (hO j hj y hy).2), ⟨⟨_, hT⟩, had, hA1, hc⟩, hT⟩) rfl hl.1 rfl (Nat.le_of_ble_eq_true rfl) d_AL_add1_20 ⟨show 0 + 1 ≤ 1 by omega, show 0 + 60 ≤ 60 by omega⟩) hS (fun _ h => h) (fun _ _ h => h.2.2.mono (fun _ z => Or.inl z)) (fun v H9 locs hpost hS => ?_)
  obtain ⟨rfl, hx, ho⟩ := hpost
  refine lv_iconst (v := 1) F.1 F.2.1 d_AL_add1_23 (by decide) ?_
  exact hret _ _ _ true _ _ _ _ d_AL_add1_24 rfl ⟨rfl, hx, (hoA.mono (fun _ z => Or.inl z)).tr ho⟩ hS.2.2 (Nat.le_of_ble_eq_true rfl) (Nat.le_of_ble_eq_true rfl)

