/-! ===== the world of an ImageStores object ===== -/
/-- the codes of its cells: 0 the object, 1 and 2 the list of images, 3 and 4 of layers, 5 to 7 and 8 to 10 the stores, 11 and 12 the draft, 13 what is seen; from 14 on seven for each number: image, tree, marks, numbers; layer, paths, marks -/
def us (n k c : Nat) : Prop := c < 14 ∨ (14 ≤ c ∧ (c - 14) % 7 < 4 ∧ (c - 14) / 7 < n) ∨ (14 ≤ c ∧ 4 ≤ (c - 14) % 7 ∧ (c - 14) / 7 < k)
abbrev cI (ca : Nat → Nat) (i : Nat) : Nat := ca (14 + 7 * i)
abbrev cT (ca : Nat → Nat) (i : Nat) : Nat := ca (14 + 7 * i + 1)
abbrev cM (ca : Nat → Nat) (i : Nat) : Nat := ca (14 + 7 * i + 2)
abbrev cN (ca : Nat → Nat) (i : Nat) : Nat := ca (14 + 7 * i + 3)
abbrev cY (ca : Nat → Nat) (i : Nat) : Nat := ca (14 + 7 * i + 4)
abbrev cP (ca : Nat → Nat) (i : Nat) : Nat := ca (14 + 7 * i + 5)
abbrev cQ (ca : Nat → Nat) (i : Nat) : Nat := ca (14 + 7 * i + 6)
theorem usS {n k c : Nat} (h : c < 14) : us n k c := Or.inl h
theorem usI {n k i r : Nat} (h : i < n) (hr : r < 4) : us n k (14 + 7 * i + r) := Or.inr (Or.inl ⟨by omega, by omega, by omega⟩)
theorem usL {n k i r : Nat} (h : i < k) (hr : 4 ≤ r) (hr2 : r < 7) : us n k (14 + 7 * i + r) := Or.inr (Or.inr ⟨by omega, by omega, by omega⟩)
def cInj (ca : Nat → Nat) (n k : Nat) : Prop := ∀ c c', us n k c → us n k c' → ca c = ca c' → c = c'
theorem cInj.ne {ca : Nat → Nat} {n k c c' : Nat} (h : cInj ca n k) (h1 : us n k c) (h2 : us n k c') (hne : c ≠ c') : ca c ≠ ca c' := fun z => hne (h c c' h1 h2 z)
/-- the cells that a call may write -/
def cA (G : x_G) (ca : Nat → Nat) (n k : Nat) : Nat → Prop := fun q => ∃ c, us n k c ∧ q = ca c ∧ q ≠ x_t G
/-- an image's parent as the image has it -/
def pI (par : Nat → Nat) (i : Nat) : Int32 := if i = 0 then -1 else nI (par i)
/-- lists, images, layers -/
def CB (G : x_G) (ca : Nat → Nat) (n : Nat) (par : Nat → Nat) (tr : Nat → Nat → Int64) (nl : Nat) (num rp : Nat → Nat) (H : Heap) : Prop := x_Hs G H ∧ (∃ cap es, AL G (ca 1) (ca 2) cap n es H ∧ ∀ i, i < n → es i = some (cI ca i)) ∧ (∃ cap es, AL G (ca 3) (ca 4) cap nl es H ∧ ∀ k, k < nl → es k = some (cY ca k)) ∧ (∀ i, i < n → IM G (cI ca i) (cT ca i) (cN ca i) (pI par i) (nuL par num i) H) ∧ (∀ i, i < n → TR G (cT ca i) (cM ca i) (tr i) H) ∧ (∀ k, k < nl → LY G (cY ca k) (cP ca k) (cQ ca k) (eL (tr (par (rp k))) (tr (rp k)) 125) (mk (tr (par (rp k))) (tr (rp k))) H)
/-- the object's world -/
def CW (G : x_G) (ca : Nat → Nat) (σ : Sg) (nl : Nat) (num rp : Nat → Nat) (f : Nat → Int64) (sn : Nat → Int32) (H : Heap) : Prop := cInj ca (gn σ) nl ∧ (∀ c, us (gn σ) nl c → ca c ≠ x_sa G ∧ (c ≠ 4 → ca c ≠ x_t G)) ∧ va_at G.1 x_cl (ca 0, .inr (5, [.ref (ca 1), .ref (ca 3), .ref (ca 5), .ref (ca 8), .ref (ca 11), .ref (ca 13), .int (ga σ)])) H ∧ CB G ca (gn σ) (gp σ) (gt σ) nl num rp H ∧ ST G (ca 5) (ca 6) (ca 7) (gh σ 0) (gg σ 0) H ∧ ST G (ca 8) (ca 9) (ca 10) (gh σ 1) (gg σ 1) H ∧ TR G (ca 11) (ca 12) f H ∧ x_az G (ca 13) 40 sn H
section KP
variable {G : x_G} {A : Nat → Prop} {H H1 : Heap}
theorem ST.keep {a b c : Nat} {hb : Nat → Bool} {tg : Nat → Nat} (h : ST G a b c hb tg H) (ho : x_off A H H1) (h1 : ¬ A a) (h2 : ¬ A b) (h3 : ¬ A c) : ST G a b c hb tg H1 := ⟨x_keep h.1 ho h1, x_keep h.2.1 ho h2, x_keep h.2.2.1 ho h3, h.2.2.2⟩
theorem TR.keep {a b : Nat} {f : Nat → Int64} (h : TR G a b f H) (ho : x_off A H H1) (h1 : ¬ A a) (h2 : ¬ A b) : TR G a b f H1 := ⟨x_keep h.1 ho h1, x_keep h.2.1 ho h2, h.2.2⟩
theorem AL.keep {a d cap n : Nat} {es : Nat → Option Nat} (h : AL G a d cap n es H) (ho : x_off A H H1) (h1 : ¬ A a) (h2 : ¬ A d) : AL G a d cap n es H1 := by
  obtain ⟨⟨mo, g1⟩, g2, g3, g4⟩ := h
  exact ⟨⟨mo, x_keep g1 ho h1⟩, g2, g3.imp_right (fun q => ⟨x_keep q.1 ho h2, q.2⟩), g4⟩
theorem IM.keep {a t n : Nat} {pr : Int32} {L : List Nat} (h : IM G a t n pr L H) (ho : x_off A H H1) (h1 : ¬ A a) (h2 : ¬ A n) : IM G a t n pr L H1 := ⟨x_keep h.1 ho h1, x_keep h.2.1 ho h2, h.2.2⟩
theorem LY.keep {a b c : Nat} {L : List Nat} {w : Nat → Int64} (h : LY G a b c L w H) (ho : x_off A H H1) (h1 : ¬ A a) (h2 : ¬ A b) (h3 : ¬ A c) : LY G a b c L w H1 := ⟨x_keep h.1 ho h1, x_keep h.2.1 ho h2, x_keep h.2.2.1 ho h3, h.2.2.2⟩
theorem CB.keep {ca : Nat → Nat} {n nl : Nat} {par num rp : Nat → Nat} {tr : Nat → Nat → Int64} (h : CB G ca n par tr nl num rp H) (ho : x_off A H H1) (hA : ∀ c, us n nl c → ((1 ≤ c ∧ c ≤ 4) ∨ 14 ≤ c) → ¬ A (ca c)) (h1 : ¬ A (x_sa G)) (h2 : ¬ A (x_t G)) : CB G ca n par tr nl num rp H1 := by
  obtain ⟨hZ, ⟨ci, ei, hIm, hie⟩, ⟨cy, ey, hLy, hle⟩, hig, htg, hlg⟩ := h
  refine ⟨hZ.keep ho h1 h2, ⟨ci, ei, hIm.keep ho (hA 1 (usS (by decide)) (by decide)) (hA 2 (usS (by decide)) (by decide)), hie⟩, ⟨cy, ey, hLy.keep ho (hA 3 (usS (by decide)) (by decide)) (hA 4 (usS (by decide)) (by decide)), hle⟩, fun i hi => ?_, fun i hi => ?_, fun k hk => ?_⟩
  · exact (hig i hi).keep ho (hA _ (usI (r := 0) hi (by decide)) (by omega)) (hA _ (usI (r := 3) hi (by decide)) (by omega))
  · exact (htg i hi).keep ho (hA _ (usI (r := 1) hi (by decide)) (by omega)) (hA _ (usI (r := 2) hi (by decide)) (by omega))
  · exact (hlg k hk).keep ho (hA _ (usL (r := 4) hk (by decide) (by decide)) (by omega)) (hA _ (usL (r := 5) hk (by decide) (by decide)) (by omega)) (hA _ (usL (r := 6) hk (by decide) (by decide)) (by omega))
theorem CW.keep {ca : Nat → Nat} {σ : Sg} {nl : Nat} {num rp : Nat → Nat} {f : Nat → Int64} {sn : Nat → Int32} (h : CW G ca σ nl num rp f sn H) (ho : x_off A H H1) (hA : ∀ c, us (gn σ) nl c → ¬ A (ca c)) (h1 : ¬ A (x_sa G)) (h2 : ¬ A (x_t G)) : CW G ca σ nl num rp f sn H1 := by
  obtain ⟨hin, hne, hO, hB, hs0, hs1, hdr, hse⟩ := h
  exact ⟨hin, hne, x_keep hO ho (hA 0 (usS (by decide))), hB.keep ho (fun c hc _ => hA c hc) h1 h2, hs0.keep ho (hA 5 (usS (by decide))) (hA 6 (usS (by decide))) (hA 7 (usS (by decide))), hs1.keep ho (hA 8 (usS (by decide))) (hA 9 (usS (by decide))) (hA 10 (usS (by decide))), hdr.keep ho (hA 11 (usS (by decide))) (hA 12 (usS (by decide))), x_keep hse ho (hA 13 (usS (by decide)))⟩
end KP
/-! ===== ImageStores: what only reads ===== -/
theorem c_IS_isStore (l : Launch) (G : x_G) (x : Int32) : Met l y_IS_isStore (x_ws y_IS_isStore b_IS_isStore 1 (some .boolean)) (x_rm 0 0 0) (x_P G [.int x] (fun _ => True)) (k2_QcV (.int (x_b (decide (x = 0) || decide (x = 1))))) 0 0 (fun _ => False) := by
  refine x_mZ (by decide +kernel) (Nat.le_of_ble_eq_true rfl) (fun p e s m args below meth c F hK hP ls hl Q hret => ?_)
  have hl : lv_has ls 1 [(0, .int x)] := hl
  refine lv_iload_n F.1 F.2.1 d_IS_isStore_0 rfl (lv_at hl 0 rfl) ?_
  refine lv_if_eq (tgt := 9) F.1 F.2.1 d_IS_isStore_1 (by decide) (fun c1 => ?_) (fun c1 => ?_)
  · refine lv_iconst (v := 1) F.1 F.2.1 d_IS_isStore_9 (by decide) ?_
    refine lv_goto (tgt := 14) F.1 F.2.1 d_IS_isStore_10 (by decide) ?_
    exact hret _ _ _ d_IS_isStore_14 (by simp [x_b, c1])
  · refine lv_iload_n F.1 F.2.1 d_IS_isStore_4 rfl (lv_at hl 0 rfl) ?_
    refine lv_iconst (v := 1) F.1 F.2.1 d_IS_isStore_5 (by decide) ?_
    refine lv_icmp_ne (tgt := 13) F.1 F.2.1 d_IS_isStore_6 (by decide) (fun c6 => ?_) (fun c6 => ?_)
    · refine lv_iconst (v := 0) F.1 F.2.1 d_IS_isStore_13 (by decide) ?_
      exact hret _ _ _ d_IS_isStore_14 (by simp [x_b, c1, c6])
    · refine lv_iconst (v := 1) F.1 F.2.1 d_IS_isStore_9 (by decide) ?_
      refine lv_goto (tgt := 14) F.1 F.2.1 d_IS_isStore_10 (by decide) ?_
      exact hret _ _ _ d_IS_isStore_14 (by simp [x_b, c1, c6])
def tgB (t : Int32) : Bool := !decide (t < 0) && !decide (6 ≤ t)
theorem c_IS_isTag (l : Launch) (G : x_G) (x : Int32) : Met l y_IS_isTag (x_ws y_IS_isTag b_IS_isTag 1 (some .boolean)) (x_rm 0 0 0) (x_P G [.int x] (fun _ => True)) (k2_QcV (.int (x_b (tgB x)))) 0 0 (fun _ => False) := by
  refine x_mZ (by decide +kernel) (Nat.le_of_ble_eq_true rfl) (fun p e s m args below meth c F hK hP ls hl Q hret => ?_)
  have hl : lv_has ls 1 [(0, .int x)] := hl
  refine lv_iload_n F.1 F.2.1 d_IS_isTag_0 rfl (lv_at hl 0 rfl) ?_
  refine lv_if_lt (tgt := 14) F.1 F.2.1 d_IS_isTag_1 (by decide) (fun c1 => ?_) (fun c1 => ?_)
  · refine lv_iconst (v := 0) F.1 F.2.1 d_IS_isTag_14 (by decide) ?_
    exact hret _ _ _ d_IS_isTag_15 (by simp [tgB, x_b, c1])
  · refine lv_iload_n F.1 F.2.1 d_IS_isTag_4 rfl (lv_at hl 0 rfl) ?_
    refine lv_bipush (v := 6) F.1 F.2.1 d_IS_isTag_5 (by decide) ?_
    refine lv_icmp_ge (tgt := 14) F.1 F.2.1 d_IS_isTag_7 (by decide) (fun c7 => ?_) (fun c7 => ?_)
    · refine lv_iconst (v := 0) F.1 F.2.1 d_IS_isTag_14 (by decide) ?_
      exact hret _ _ _ d_IS_isTag_15 (by simp [tgB, x_b, c1, c7])
    · refine lv_iconst (v := 1) F.1 F.2.1 d_IS_isTag_10 (by decide) ?_
      refine lv_goto (tgt := 15) F.1 F.2.1 d_IS_isTag_11 (by decide) ?_
      exact hret _ _ _ d_IS_isTag_15 (by simp [tgB, x_b, c1, c7])
theorem st_of {x : Int32} (h : (decide (x = 0) || decide (x = 1)) = true) : ∃ s : Nat, s < 2 ∧ x = nI s := by
  rw [Bool.or_eq_true] at h
  rcases h with h | h
  · exact ⟨0, by decide, of_decide_eq_true h⟩
  · exact ⟨1, by decide, of_decide_eq_true h⟩
theorem tg_of {t : Int32} (h : tgB t = true) : ∃ k : Nat, k < 6 ∧ t = nI k := by
  unfold tgB at h
  simp only [Bool.and_eq_true, Bool.not_eq_true', decide_eq_false_iff_not] at h
  rcases pk_ix t (n := 6) (by decide) with q | q | q
  · exact absurd q h.1
  · exact absurd q h.2
  · exact q
theorem tgB_n : ∀ k : Nat, k < 6 → tgB (nI k) = true := by decide +kernel
theorem bad_eq (x y : Int32) : mo_badTag x y = !((decide (x = 0) || decide (x = 1)) && tgB y) := by
  cases h1 : (decide (x = 0) || decide (x = 1)) with
  | true =>
    obtain ⟨s, hs, rfl⟩ := st_of h1
    cases h2 : tgB y with
    | true =>
      obtain ⟨t, ht, rfl⟩ := tg_of h2
      rw [badTag_n hs ht]; rfl
    | false =>
      cases hb : mo_badTag (nI s) y with
      | true => rfl
      | false =>
        obtain ⟨s', t, -, ht, -, rfl⟩ := badTag_of hb
        rw [tgB_n t ht] at h2; cases h2
  | false =>
    cases hb : mo_badTag x y with
    | true => rfl
    | false =>
      obtain ⟨s, t, hs, -, rfl, -⟩ := badTag_of hb
      rw [st01_n s hs] at h1; cases h1
section RD
variable (l : Launch) (G : x_G) (ca : Nat → Nat) (σ : Sg) (nl : Nat) (num rp : Nat → Nat) (f : Nat → Int64) (sn : Nat → Int32)
theorem c_IS_isMade (x : Int32) : Met l y_IS_isMade (x_ws y_IS_isMade b_IS_isMade 2 (some .boolean)) (x_rm 1 0 0) (x_P G [.ref (ca 0), .int x] (CW G ca σ nl num rp f sn)) (k2_QcV (.int (x_b (isB σ x)))) 0 0 (fun _ => False) := by
  refine x_mZ (by decide +kernel) (Nat.le_of_ble_eq_true rfl) (fun p e s m args below meth c F hK hP ls hl Q hret => ?_)
  have hl : lv_has ls 2 [(0, .ref (ca 0)), (1, .int x)] := hl
  obtain ⟨hin, hne, hO, hB, hs0, hs1, hdr, hse⟩ := id hP
  obtain ⟨hZ, ⟨ci, ei, hIm, hie⟩, ⟨cy, ey, hLy, hle⟩, hig, htg, hlg⟩ := id hB
  obtain ⟨⟨mo1, hA1⟩, -⟩ := id hIm
  obtain ⟨⟨mo3, hA3⟩, -⟩ := id hLy
  have hT5 := hs0.1
  have hT8 := hs1.1
  have hT11 := hdr.1
  refine lv_iload_n F.1 F.2.1 d_IS_isMade_0 rfl (lv_at hl 1 rfl) ?_
  refine lv_if_lt (tgt := 19) F.1 F.2.1 d_IS_isMade_1 (by decide) (fun c1 => ?_) (fun c1 => ?_)
  · refine lv_iconst (v := 0) F.1 F.2.1 d_IS_isMade_19 (by decide) ?_
    exact hret _ _ _ d_IS_isMade_20 (by unfold isB; rw [decide_eq_true c1]; rfl)
  · refine lv_iload_n F.1 F.2.1 d_IS_isMade_4 rfl (lv_at hl 1 rfl) ?_
    refine lv_aload_n F.1 F.2.1 d_IS_isMade_5 rfl (lv_at hl 0 rfl) ?_
    refine x_get F hK hO rfl i_IS 0 (by decide) k158 rfl rfl d_IS_isMade_6 ?_
    refine x_rd (x_V (n := 0) (As := []) F (c_AL_size l G (ca 1) (ca 2) ci (gn σ) ei) ok_AL_size k188 ⟨Nat.le_of_ble_eq_true rfl, Nat.le_of_ble_eq_true rfl⟩ rfl rfl hK (x_rcv hK hA1 rfl) (hIm) rfl hl.1 rfl (Nat.le_of_ble_eq_true rfl) d_IS_isMade_9 ⟨Nat.le_of_ble_eq_true rfl, Nat.le_of_ble_eq_true rfl⟩) ?_
    refine lv_icmp_ge (tgt := 19) F.1 F.2.1 d_IS_isMade_12 (by decide) (fun c12 => ?_) (fun c12 => ?_)
    · refine lv_iconst (v := 0) F.1 F.2.1 d_IS_isMade_19 (by decide) ?_
      exact hret _ _ _ d_IS_isMade_20 (by unfold isB; rw [decide_eq_true c12]; simp [x_b])
    · refine lv_iconst (v := 1) F.1 F.2.1 d_IS_isMade_15 (by decide) ?_
      refine lv_goto (tgt := 20) F.1 F.2.1 d_IS_isMade_16 (by decide) ?_
      exact hret _ _ _ d_IS_isMade_20 (by unfold isB; rw [decide_eq_false c1, decide_eq_false c12]; rfl)
theorem c_IS_storeOf (s0 : Nat) (hs0 : s0 < 2) : Met l y_IS_storeOf (x_ws y_IS_storeOf b_IS_storeOf 2 (some (.object "ImageStores$Store"))) (x_rm 0 0 0) (x_P G [.ref (ca 0), .int (nI s0)] (CW G ca σ nl num rp f sn)) (k2_QcV (.ref (ca (5 + 3 * s0)))) 0 0 (fun _ => False) := by
  refine x_mA (Or.inl ⟨_, rfl⟩) (Or.inr ⟨_, rfl⟩) (by decide +kernel) (Nat.le_of_ble_eq_true rfl) (fun p e s m args below meth c F hK hP ls hl Q hret => ?_)
  have hl : lv_has ls 2 [(0, .ref (ca 0)), (1, .int (nI s0))] := hl
  obtain ⟨hin, hne, hO, hB, hs0, hs1, hdr, hse⟩ := id hP
  obtain ⟨hZ, ⟨ci, ei, hIm, hie⟩, ⟨cy, ey, hLy, hle⟩, hig, htg, hlg⟩ := id hB
  obtain ⟨⟨mo1, hA1⟩, -⟩ := id hIm
  obtain ⟨⟨mo3, hA3⟩, -⟩ := id hLy
  have hT5 := hs0.1
  have hT8 := hs1.1
  have hT11 := hdr.1
  refine lv_iload_n F.1 F.2.1 d_IS_storeOf_0 rfl (lv_at hl 1 rfl) ?_
  refine lv_if_ne (tgt := 11) F.1 F.2.1 d_IS_storeOf_1 (by decide) (fun c1 => ?_) (fun c1 => ?_)
  · have c1 := mt (pN_eqI (a := s0) (b := 0) rfl rfl (by omega) (by omega)).mpr c1
    refine lv_aload_n F.1 F.2.1 d_IS_storeOf_11 rfl (lv_at hl 0 rfl) ?_
    refine x_get F hK hO rfl i_IS 3 (by decide) k161 rfl rfl d_IS_storeOf_12 ?_
    exact hret _ _ _ d_IS_storeOf_15 (by rw [show s0 = 1 by omega])
  · have c1 := (pN_eqI (a := s0) (b := 0) rfl rfl (by omega) (by omega)).mp c1
    refine lv_aload_n F.1 F.2.1 d_IS_storeOf_4 rfl (lv_at hl 0 rfl) ?_
    refine x_get F hK hO rfl i_IS 2 (by decide) k160 rfl rfl d_IS_storeOf_5 ?_
    refine lv_goto (tgt := 15) F.1 F.2.1 d_IS_storeOf_8 (by decide) ?_
    exact hret _ _ _ d_IS_storeOf_15 (by rw [c1])
    end RD
/-- the stores by their number -/
theorem CW.st {G : x_G} {ca : Nat → Nat} {σ : Sg} {nl : Nat} {num rp : Nat → Nat} {f : Nat → Int64} {sn : Nat → Int32} {H : Heap} (h : CW G ca σ nl num rp f sn H) {s : Nat} (hs : s < 2) : ST G (ca (5 + 3 * s)) (ca (5 + 3 * s + 1)) (ca (5 + 3 * s + 2)) (gh σ s) (gg σ s) H := by
  obtain ⟨-, -, -, -, h0, h1, -⟩ := h
  have : s = 0 ∨ s = 1 := by omega
  rcases this with rfl | rfl
  · exact h0
  · exact h1
section RE
variable (l : Launch) (G : x_G) (ca : Nat → Nat) (σ : Sg) (nl : Nat) (num rp : Nat → Nat) (f : Nat → Int64) (sn : Nat → Int32)
def nmB (σ : Sg) (x y : Int32) : Bool := !mo_badTag x y && !decide (gg σ x.toNatClampNeg y.toNatClampNeg = 40)
theorem c_IS_namesImage (x y : Int32) (hok : gI σ) : Met l y_IS_namesImage (x_ws y_IS_namesImage b_IS_namesImage 3 (some .boolean)) (x_rm 1 0 0) (x_P G [.ref (ca 0), .int x, .int y] (CW G ca σ nl num rp f sn)) (k2_QcV (.int (x_b (nmB σ x y)))) 0 0 (fun _ => False) := by
  refine x_mZ (by decide +kernel) (Nat.le_of_ble_eq_true rfl) (fun p e s m args below meth c F hK hP ls hl Q hret => ?_)
  have hl : lv_has ls 3 [(0, .ref (ca 0)), (1, .int x), (2, .int y)] := hl
  obtain ⟨hin, hne, hO, hB, hs0, hs1, hdr, hse⟩ := id hP
  obtain ⟨hZ, ⟨ci, ei, hIm, hie⟩, ⟨cy, ey, hLy, hle⟩, hig, htg, hlg⟩ := id hB
  obtain ⟨⟨mo1, hA1⟩, -⟩ := id hIm
  obtain ⟨⟨mo3, hA3⟩, -⟩ := id hLy
  have hT5 := hs0.1
  have hT8 := hs1.1
  have hT11 := hdr.1
  refine lv_iload_n F.1 F.2.1 d_IS_namesImage_0 rfl (lv_at hl 1 rfl) ?_
  refine x_rd (x_S (n := 1) (As := [.int x]) F (c_IS_isStore l G x) ok_IS_isStore k346 ⟨Nat.le_of_ble_eq_true rfl, Nat.le_of_ble_eq_true rfl⟩ rfl rfl hK (trivial) rfl hl.1 rfl (Nat.le_of_ble_eq_true rfl) d_IS_namesImage_1 ⟨Nat.le_of_ble_eq_true rfl, Nat.le_of_ble_eq_true rfl⟩) ?_
  refine x_beq (tgt := 32) F d_IS_namesImage_4 (by decide) (fun c4 => ?_) (fun c4 => ?_)
  · refine lv_iconst (v := 0) F.1 F.2.1 d_IS_namesImage_32 (by decide) ?_
    exact hret _ _ _ d_IS_namesImage_33 (by unfold nmB; rw [bad_eq, c4]; rfl)
  · refine lv_iload_n F.1 F.2.1 d_IS_namesImage_7 rfl (lv_at hl 2 rfl) ?_
    refine x_rd (x_S (n := 1) (As := [.int y]) F (c_IS_isTag l G y) ok_IS_isTag k349 ⟨Nat.le_of_ble_eq_true rfl, Nat.le_of_ble_eq_true rfl⟩ rfl rfl hK (trivial) rfl hl.1 rfl (Nat.le_of_ble_eq_true rfl) d_IS_namesImage_8 ⟨Nat.le_of_ble_eq_true rfl, Nat.le_of_ble_eq_true rfl⟩) ?_
    refine x_beq (tgt := 32) F d_IS_namesImage_11 (by decide) (fun c11 => ?_) (fun c11 => ?_)
    · refine lv_iconst (v := 0) F.1 F.2.1 d_IS_namesImage_32 (by decide) ?_
      exact hret _ _ _ d_IS_namesImage_33 (by unfold nmB; rw [bad_eq, c4, c11]; rfl)
    · obtain ⟨s0, hs0', rfl⟩ := st_of c4
      obtain ⟨t0, ht0, rfl⟩ := tg_of c11
      have hgl := gg_lt hok.1 hs0' ht0
      have hv : nmB σ (nI s0) (nI t0) = !decide (gg σ s0 t0 = 40) := by unfold nmB; rw [badTag_n hs0' ht0, show (nI s0).toNatClampNeg = s0 from nI_clamp (by omega), show (nI t0).toNatClampNeg = t0 from nI_clamp (by omega)]; rfl
      have hST := hP.st hs0'
      have hTs := hST.1
      refine lv_aload_n F.1 F.2.1 d_IS_namesImage_14 rfl (lv_at hl 0 rfl) ?_
      refine lv_iload_n F.1 F.2.1 d_IS_namesImage_15 rfl (lv_at hl 1 rfl) ?_
      refine x_rd (x_V (n := 1) (As := [.int (nI s0)]) F (c_IS_storeOf l G ca σ nl num rp f sn s0 hs0') ok_IS_storeOf k352 ⟨Nat.le_of_ble_eq_true rfl, Nat.le_of_ble_eq_true rfl⟩ rfl rfl hK (x_rcv hK hO rfl) (hP) rfl hl.1 rfl (Nat.le_of_ble_eq_true rfl) d_IS_namesImage_16 ⟨Nat.le_of_ble_eq_true rfl, Nat.le_of_ble_eq_true rfl⟩) ?_
      refine lv_iload_n F.1 F.2.1 d_IS_namesImage_19 rfl (lv_at hl 2 rfl) ?_
      refine x_rd (x_V (n := 1) (As := [.int (nI t0)]) F (c_ST_nameOf l G (ca (5 + 3 * s0)) (ca (5 + 3 * s0 + 1)) (ca (5 + 3 * s0 + 2)) (gh σ s0) (gg σ s0) t0 ht0) ok_ST_nameOf k356 ⟨Nat.le_of_ble_eq_true rfl, Nat.le_of_ble_eq_true rfl⟩ rfl rfl hK (x_rcv hK hTs rfl) (hST) rfl hl.1 rfl (Nat.le_of_ble_eq_true rfl) d_IS_namesImage_20 ⟨Nat.le_of_ble_eq_true rfl, Nat.le_of_ble_eq_true rfl⟩) ?_
      refine lv_bipush (v := 40) F.1 F.2.1 d_IS_namesImage_23 (by decide) ?_
      refine lv_icmp_eq (tgt := 32) F.1 F.2.1 d_IS_namesImage_25 (by decide) (fun c25 => ?_) (fun c25 => ?_)
      · have c25 := (pN_eqI (a := (gg σ s0 t0)) (b := 40) rfl rfl (by omega) (by omega)).mp c25
        refine lv_iconst (v := 0) F.1 F.2.1 d_IS_namesImage_32 (by decide) ?_
        exact hret _ _ _ d_IS_namesImage_33 (by rw [hv, decide_eq_true c25]; rfl)
      · have c25 := mt (pN_eqI (a := (gg σ s0 t0)) (b := 40) rfl rfl (by omega) (by omega)).mpr c25
        refine lv_iconst (v := 1) F.1 F.2.1 d_IS_namesImage_28 (by decide) ?_
        refine lv_goto (tgt := 33) F.1 F.2.1 d_IS_namesImage_29 (by decide) ?_
        exact hret _ _ _ d_IS_namesImage_33 (by rw [hv, decide_eq_false c25]; rfl)
def hlB (σ : Sg) (x y : Int32) : Bool := isB σ x && !decide (owB (gp σ) x.toNatClampNeg y = 0)
theorem owB_0 {par : Nat → Nat} (h : ∀ i, 0 < i → par i < i) {i : Nat} {y : Int32} (hl : (cn par i).length < 2 ^ 31) : owB par i y = 0 ↔ (y < 0 ∨ nI (cn par i).length ≤ y) := by
  constructor
  · intro hz
    rcases pk_ix y hl with q | q | ⟨j, q1, rfl⟩
    · exact Or.inl q
    · exact Or.inr q
    · rw [owB_n hl (by omega)] at hz
      have := cn_at h q1
      omega
  · intro hz
    unfold owB
    rw [if_pos]
    exact hz.imp_right (fun z => Int32.not_lt.mpr z)
theorem c_IS_hasLayer (x y : Int32) (hok : gI σ) : Met l y_IS_hasLayer (x_ws y_IS_hasLayer b_IS_hasLayer 3 (some .boolean)) (x_rm 3 0 0) (x_P G [.ref (ca 0), .int x, .int y] (CW G ca σ nl num rp f sn)) (k2_QcV (.int (x_b (hlB σ x y)))) 0 0 (fun _ => False) := by
  refine x_mZ (by decide +kernel) (Nat.le_of_ble_eq_true rfl) (fun p e s m args below meth c F hK hP ls hl Q hret => ?_)
  have hl : lv_has ls 3 [(0, .ref (ca 0)), (1, .int x), (2, .int y)] := hl
  have hn40 := hok.1.2.1
  have hpr := hok.1.2.2.1
  obtain ⟨hin, hne, hO, hB, hs0, hs1, hdr, hse⟩ := id hP
  obtain ⟨hZ, ⟨ci, ei, hIm, hie⟩, ⟨cy, ey, hLy, hle⟩, hig, htg, hlg⟩ := id hB
  obtain ⟨⟨mo1, hA1⟩, -⟩ := id hIm
  obtain ⟨⟨mo3, hA3⟩, -⟩ := id hLy
  have hT5 := hs0.1
  have hT8 := hs1.1
  have hT11 := hdr.1
  refine lv_aload_n F.1 F.2.1 d_IS_hasLayer_0 rfl (lv_at hl 0 rfl) ?_
  refine lv_iload_n F.1 F.2.1 d_IS_hasLayer_1 rfl (lv_at hl 1 rfl) ?_
  refine x_rd (x_V (n := 1) (As := [.int x]) F (c_IS_isMade l G ca σ nl num rp f sn x) ok_IS_isMade k184 ⟨Nat.le_of_ble_eq_true rfl, Nat.le_of_ble_eq_true rfl⟩ rfl rfl hK (x_rcv hK hO rfl) (hP) rfl hl.1 rfl (Nat.le_of_ble_eq_true rfl) d_IS_hasLayer_2 ⟨Nat.le_of_ble_eq_true rfl, Nat.le_of_ble_eq_true rfl⟩) ?_
  refine x_beq (tgt := 35) F d_IS_hasLayer_5 (by decide) (fun c5 => ?_) (fun c5 => ?_)
  · refine lv_iconst (v := 0) F.1 F.2.1 d_IS_hasLayer_35 (by decide) ?_
    exact hret _ _ _ d_IS_hasLayer_36 (by unfold hlB; rw [c5]; rfl)
  · have c5' := c5
    obtain ⟨i, hi, rfl⟩ := isB_of hn40 c5
    have hci : (nI i).toNatClampNeg = i := nI_clamp (by omega)
    have hli := cn_len hpr i i (Nat.le_refl _)
    have h0 := owB_0 hpr (i := i) (y := y) (by omega)
    refine lv_iload_n F.1 F.2.1 d_IS_hasLayer_8 rfl (lv_at hl 2 rfl) ?_
    refine lv_if_lt (tgt := 35) F.1 F.2.1 d_IS_hasLayer_9 (by decide) (fun c9 => ?_) (fun c9 => ?_)
    · refine lv_iconst (v := 0) F.1 F.2.1 d_IS_hasLayer_35 (by decide) ?_
      exact hret _ _ _ d_IS_hasLayer_36 (by unfold hlB; rw [hci, decide_eq_true (h0.mpr (Or.inl c9))]; simp [x_b])
    · refine lv_iload_n F.1 F.2.1 d_IS_hasLayer_12 rfl (lv_at hl 2 rfl) ?_
      refine lv_aload_n F.1 F.2.1 d_IS_hasLayer_13 rfl (lv_at hl 0 rfl) ?_
      refine x_get F hK hO rfl i_IS 0 (by decide) k158 rfl rfl d_IS_hasLayer_14 ?_
      refine lv_iload_n F.1 F.2.1 d_IS_hasLayer_17 rfl (lv_at hl 1 rfl) ?_
      refine x_rd (x_V (n := 1) (As := [.int (nI i)]) F (c_AL_get l G (ca 1) (ca 2) ci (gn σ) ei i (cI ca i) hi (by omega) (hie i hi)) ok_AL_get k196 ⟨Nat.le_of_ble_eq_true rfl, Nat.le_of_ble_eq_true rfl⟩ rfl rfl hK (x_rcv hK hA1 rfl) (hIm) rfl hl.1 rfl (Nat.le_of_ble_eq_true rfl) d_IS_hasLayer_18 ⟨Nat.le_of_ble_eq_true rfl, Nat.le_of_ble_eq_true rfl⟩) ?_
      have hI_i := (hig i hi).1
      have hN_i := (hig i hi).2.1
      have hX_i := htg i hi
      have hU_i := hX_i.1
      refine va_castY F.1 F.2.1 F.2.2.2.1 (F.2.2.2.2 _ k85) (hK.2.1 _ (List.mem_of_getElem? (i := 5) rfl)) (x_rcv hK hI_i rfl) d_IS_hasLayer_21 ?_
      refine x_getN F hK hI_i rfl i_IM 2 (by decide) 2 rfl rfl rfl d_IS_hasLayer_24 ?_
      refine x_alen F hK hN_i 0 rfl d_IS_hasLayer_27 ?_
      refine lv_icmp_ge (tgt := 35) F.1 F.2.1 d_IS_hasLayer_28 (by decide) (fun c28 => ?_) (fun c28 => ?_)
      · refine lv_iconst (v := 0) F.1 F.2.1 d_IS_hasLayer_35 (by decide) ?_
        exact hret _ _ _ d_IS_hasLayer_36 (by unfold hlB; rw [hci, decide_eq_true (h0.mpr (Or.inr (by rw [← nuL_len (gp σ) num i]; exact c28)))]; simp [x_b])
      · refine lv_iconst (v := 1) F.1 F.2.1 d_IS_hasLayer_31 (by decide) ?_
        refine lv_goto (tgt := 36) F.1 F.2.1 d_IS_hasLayer_32 (by decide) ?_
        exact hret _ _ _ d_IS_hasLayer_36 (by unfold hlB; rw [c5', hci, decide_eq_false (fun z => (h0.mp z).elim c9 (fun q => c28 (by rw [nuL_len]; exact q)))]; rfl)
theorem c_IS_layerOf (i t : Nat) (hok : gI σ) (hN : cNum σ nl num rp) (hi : i < gn σ) (ht : t < (cn (gp σ) i).length) : Met l y_IS_layerOf (x_ws y_IS_layerOf b_IS_layerOf 3 (some (.object "ImageStores$Layer"))) (x_rm 3 0 0) (x_P G [.ref (ca 0), .int (nI i), .int (nI t)] (CW G ca σ nl num rp f sn)) (k2_QcV (.ref (cY ca (num ((cn (gp σ) i).getD t 0))))) 0 0 (fun _ => False) := by
  refine x_mA (Or.inl ⟨_, rfl⟩) (Or.inr ⟨_, rfl⟩) (by decide +kernel) (Nat.le_of_ble_eq_true rfl) (fun p e s m args below meth c F hK hP ls hl Q hret => ?_)
  have hl : lv_has ls 3 [(0, .ref (ca 0)), (1, .int (nI i)), (2, .int (nI t))] := hl
  have hn40 := hok.1.2.1
  have hli := cn_len hok.1.2.2.1 i i (Nat.le_refl _)
  have hm := cn_at hok.1.2.2.1 ht
  have hnu : num ((cn (gp σ) i).getD t 0) < nl := hN.2.2.1 _ hm.1 (by omega)
  have hnl := hN.1
  generalize hkk : num ((cn (gp σ) i).getD t 0) = k at hnu
  have hlen : t < (nuL (gp σ) num i).length := by rw [nuL_len]; exact ht
  have hlen2 := nuL_len (gp σ) num i
  have hval : (nuL (gp σ) num i).getD t 0 = k := by rw [nuL_at ht, hkk]
  obtain ⟨hin, hne, hO, hB, hs0, hs1, hdr, hse⟩ := id hP
  obtain ⟨hZ, ⟨ci, ei, hIm, hie⟩, ⟨cy, ey, hLy, hle⟩, hig, htg, hlg⟩ := id hB
  obtain ⟨⟨mo1, hA1⟩, -⟩ := id hIm
  obtain ⟨⟨mo3, hA3⟩, -⟩ := id hLy
  have hT5 := hs0.1
  have hT8 := hs1.1
  have hT11 := hdr.1
  refine lv_aload_n F.1 F.2.1 d_IS_layerOf_0 rfl (lv_at hl 0 rfl) ?_
  refine x_get F hK hO rfl i_IS 1 (by decide) k159 rfl rfl d_IS_layerOf_1 ?_
  refine lv_aload_n F.1 F.2.1 d_IS_layerOf_4 rfl (lv_at hl 0 rfl) ?_
  refine x_get F hK hO rfl i_IS 0 (by decide) k158 rfl rfl d_IS_layerOf_5 ?_
  refine lv_iload_n F.1 F.2.1 d_IS_layerOf_8 rfl (lv_at hl 1 rfl) ?_
  refine x_rd (x_V (n := 1) (As := [.int (nI i)]) F (c_AL_get l G (ca 1) (ca 2) ci (gn σ) ei i (cI ca i) hi (by omega) (hie i hi)) ok_AL_get k196 ⟨Nat.le_of_ble_eq_true rfl, Nat.le_of_ble_eq_true rfl⟩ rfl rfl hK (x_rcv hK hA1 rfl) (hIm) rfl hl.1 rfl (Nat.le_of_ble_eq_true rfl) d_IS_layerOf_9 ⟨Nat.le_of_ble_eq_true rfl, Nat.le_of_ble_eq_true rfl⟩) ?_
  have hI_i := (hig i hi).1
  have hN_i := (hig i hi).2.1
  have hX_i := htg i hi
  have hU_i := hX_i.1
  refine va_castY F.1 F.2.1 F.2.2.2.1 (F.2.2.2.2 _ k85) (hK.2.1 _ (List.mem_of_getElem? (i := 5) rfl)) (x_rcv hK hI_i rfl) d_IS_layerOf_12 ?_
  refine x_getN F hK hI_i rfl i_IM 2 (by decide) 2 rfl rfl rfl d_IS_layerOf_15 ?_
  refine lv_iload_n F.1 F.2.1 d_IS_layerOf_18 rfl (lv_at hl 2 rfl) ?_
  refine x_ialdN F hK hN_i (by omega) (by omega) d_IS_layerOf_19 ?_
  rw [hval]
  refine x_rd (x_V (n := 1) (As := [.int (nI k)]) F (c_AL_get l G (ca 3) (ca 4) cy nl ey k (cY ca k) hnu (by omega) (hle k hnu)) ok_AL_get k196 ⟨Nat.le_of_ble_eq_true rfl, Nat.le_of_ble_eq_true rfl⟩ rfl rfl hK (x_rcv hK hA3 rfl) (hLy) rfl hl.1 rfl (Nat.le_of_ble_eq_true rfl) d_IS_layerOf_20 ⟨Nat.le_of_ble_eq_true rfl, Nat.le_of_ble_eq_true rfl⟩) ?_
  have hV_k := hlg k hnu
  have hL_k := hV_k.1
  refine va_castY F.1 F.2.1 F.2.2.2.1 (F.2.2.2.2 _ k303) (hK.2.1 _ (List.mem_of_getElem? (i := 6) rfl)) (x_rcv hK hL_k rfl) d_IS_layerOf_23 ?_
  exact hret _ _ _ d_IS_layerOf_26 (by rw [hkk])
/-- the layer of a number says what the layer of the image says -/
theorem LY_of {G : x_G} {ca : Nat → Nat} {σ : Sg} {nl : Nat} {num rp : Nat → Nat} {H : Heap} (hok : gI σ) (hN : cNum σ nl num rp) {o : Nat} (h0 : 0 < o) (ho : o < gn σ) (h : ∀ k, k < nl → LY G (cY ca k) (cP ca k) (cQ ca k) (eL (gt σ (gp σ (rp k))) (gt σ (rp k)) 125) (mk (gt σ (gp σ (rp k))) (gt σ (rp k))) H) : LY G (cY ca (num o)) (cP ca (num o)) (cQ ca (num o)) (eI σ o 125) (mkI σ o) H := by
  have hk := hN.2.2.1 o h0 ho
  have hr := hN.2.1 _ hk
  have hsm := (hN.2.2.2 _ o hr.1 hr.2.1 h0 ho).mp hr.2.2
  have hpl : gp σ (rp (num o)) < gn σ := by have := hok.1.2.2.1 _ hr.1; omega
  have hL := h _ hk
  rw [eL_eI (hok.1.2.2.2.1 _ hpl) (hok.1.2.2.2.1 _ hr.2.1) (Nat.le_refl _), smB_eI hsm (Nat.le_refl _)] at hL
  refine ⟨hL.1, hL.2.1, x_al.cg hL.2.2.1 (fun j hj => ?_), hL.2.2.2⟩
  have m1 := eI_mem hj rfl
  exact smB_iff.mp hsm _ m1.2.1 m1.2.2.1
theorem hl_of {σ : Sg} (hok : gI σ) {x y : Int32} (h : hlB σ x y = true) : ∃ i t : Nat, i < gn σ ∧ x = nI i ∧ t < (cn (gp σ) i).length ∧ y = nI t ∧ owB (gp σ) i y = (cn (gp σ) i).getD t 0 ∧ 0 < (cn (gp σ) i).getD t 0 ∧ (cn (gp σ) i).getD t 0 < gn σ ∧ x.toNatClampNeg = i := by
  have hn40 := hok.1.2.1
  have hpr := hok.1.2.2.1
  unfold hlB at h
  rw [Bool.and_eq_true] at h
  obtain ⟨i, hi, rfl⟩ := isB_of hn40 h.1
  have hci : (nI i).toNatClampNeg = i := nI_clamp (by omega)
  have hli := cn_len hpr i i (Nat.le_refl _)
  rw [hci] at h
  have hz : owB (gp σ) i y ≠ 0 := by simpa using h.2
  rcases pk_ix y (n := (cn (gp σ) i).length) (by omega) with q | q | ⟨t, q1, rfl⟩
  · exact absurd ((owB_0 hpr (by omega)).mpr (Or.inl q)) hz
  · exact absurd ((owB_0 hpr (by omega)).mpr (Or.inr q)) hz
  · have := cn_at hpr q1
    exact ⟨i, t, hi, rfl, q1, rfl, owB_n (by omega) (by omega), this.1, by omega, hci⟩
def heB (σ : Sg) (x y z : Int32) : Bool := hlB σ x y && !decide (z < 0) && !decide (nI (eI σ (owB (gp σ) x.toNatClampNeg y) 125).length ≤ z)
theorem c_IS_hasEntry (x y z : Int32) (hok : gI σ) (hN : cNum σ nl num rp) : Met l y_IS_hasEntry (x_ws y_IS_hasEntry b_IS_hasEntry 4 (some .boolean)) (x_rm 4 0 0) (x_P G [.ref (ca 0), .int x, .int y, .int z] (CW G ca σ nl num rp f sn)) (k2_QcV (.int (x_b (heB σ x y z)))) 0 0 (fun _ => False) := by
  refine x_mZ (by decide +kernel) (Nat.le_of_ble_eq_true rfl) (fun p e s m args below meth c F hK hP ls hl Q hret => ?_)
  have hl : lv_has ls 4 [(0, .ref (ca 0)), (1, .int x), (2, .int y), (3, .int z)] := hl
  obtain ⟨hin, hne, hO, hB, hs0, hs1, hdr, hse⟩ := id hP
  obtain ⟨hZ, ⟨ci, ei, hIm, hie⟩, ⟨cy, ey, hLy, hle⟩, hig, htg, hlg⟩ := id hB
  obtain ⟨⟨mo1, hA1⟩, -⟩ := id hIm
  obtain ⟨⟨mo3, hA3⟩, -⟩ := id hLy
  have hT5 := hs0.1
  have hT8 := hs1.1
  have hT11 := hdr.1
  refine lv_aload_n F.1 F.2.1 d_IS_hasEntry_0 rfl (lv_at hl 0 rfl) ?_
  refine lv_iload_n F.1 F.2.1 d_IS_hasEntry_1 rfl (lv_at hl 1 rfl) ?_
  refine lv_iload_n F.1 F.2.1 d_IS_hasEntry_2 rfl (lv_at hl 2 rfl) ?_
  refine x_rd (x_V (n := 2) (As := [.int x, .int y]) F (c_IS_hasLayer l G ca σ nl num rp f sn x y hok) ok_IS_hasLayer k426 ⟨Nat.le_of_ble_eq_true rfl, Nat.le_of_ble_eq_true rfl⟩ rfl rfl hK (x_rcv hK hO rfl) (hP) rfl hl.1 rfl (Nat.le_of_ble_eq_true rfl) d_IS_hasEntry_3 ⟨Nat.le_of_ble_eq_true rfl, Nat.le_of_ble_eq_true rfl⟩) ?_
  refine x_beq (tgt := 30) F d_IS_hasEntry_6 (by decide) (fun c6 => ?_) (fun c6 => ?_)
  · refine lv_iconst (v := 0) F.1 F.2.1 d_IS_hasEntry_30 (by decide) ?_
    exact hret _ _ _ d_IS_hasEntry_31 (by unfold heB; rw [c6]; rfl)
  · have c6' := c6
    obtain ⟨i, t, hi, rfl, ht, rfl, hov, ho0, hog, hci⟩ := hl_of hok c6
    generalize hoo : (cn (gp σ) i).getD t 0 = o at hov ho0 hog
    have hLo := LY_of hok hN ho0 hog hlg
    have hLq := hLo.1
    refine lv_iload_n F.1 F.2.1 d_IS_hasEntry_9 rfl (lv_at hl 3 rfl) ?_
    refine lv_if_lt (tgt := 30) F.1 F.2.1 d_IS_hasEntry_10 (by decide) (fun c10 => ?_) (fun c10 => ?_)
    · refine lv_iconst (v := 0) F.1 F.2.1 d_IS_hasEntry_30 (by decide) ?_
      exact hret _ _ _ d_IS_hasEntry_31 (by unfold heB; rw [decide_eq_true c10]; simp [x_b])
    · refine lv_iload_n F.1 F.2.1 d_IS_hasEntry_13 rfl (lv_at hl 3 rfl) ?_
      refine lv_aload_n F.1 F.2.1 d_IS_hasEntry_14 rfl (lv_at hl 0 rfl) ?_
      refine lv_iload_n F.1 F.2.1 d_IS_hasEntry_15 rfl (lv_at hl 1 rfl) ?_
      refine lv_iload_n F.1 F.2.1 d_IS_hasEntry_16 rfl (lv_at hl 2 rfl) ?_
      refine x_rd (x_V (n := 2) (As := [.int (nI i), .int (nI t)]) F (c_IS_layerOf l G ca σ nl num rp f sn i t hok hN hi ht) ok_IS_layerOf k430 ⟨Nat.le_of_ble_eq_true rfl, Nat.le_of_ble_eq_true rfl⟩ rfl rfl hK (x_rcv hK hO rfl) (hP) rfl hl.1 rfl (Nat.le_of_ble_eq_true rfl) d_IS_hasEntry_17 ⟨Nat.le_of_ble_eq_true rfl, Nat.le_of_ble_eq_true rfl⟩) ?_
      rw [hoo]
      refine x_rd (x_V (n := 0) (As := []) F (c_LY_size l G (cY ca (num o)) (cP ca (num o)) (cQ ca (num o)) (eI σ o 125) (mkI σ o)) ok_LY_size k434 ⟨Nat.le_of_ble_eq_true rfl, Nat.le_of_ble_eq_true rfl⟩ rfl rfl hK (x_rcv hK hLq rfl) (hLo) rfl hl.1 rfl (Nat.le_of_ble_eq_true rfl) d_IS_hasEntry_20 ⟨Nat.le_of_ble_eq_true rfl, Nat.le_of_ble_eq_true rfl⟩) ?_
      refine lv_icmp_ge (tgt := 30) F.1 F.2.1 d_IS_hasEntry_23 (by decide) (fun c23 => ?_) (fun c23 => ?_)
      · refine lv_iconst (v := 0) F.1 F.2.1 d_IS_hasEntry_30 (by decide) ?_
        exact hret _ _ _ d_IS_hasEntry_31 (by unfold heB; rw [hci, hov, decide_eq_true c23]; simp [x_b])
      · refine lv_iconst (v := 1) F.1 F.2.1 d_IS_hasEntry_26 (by decide) ?_
        refine lv_goto (tgt := 31) F.1 F.2.1 d_IS_hasEntry_27 (by decide) ?_
        exact hret _ _ _ d_IS_hasEntry_31 (by unfold heB; rw [c6', hci, hov, decide_eq_false c10, decide_eq_false c23]; rfl)
        end RE

