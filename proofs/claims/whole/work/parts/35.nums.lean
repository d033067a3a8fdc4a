/-! ===== layers by numbers: two images have the same number if their layers say the same ===== -/
def cNum (σ : Sg) (nl : Nat) (num rp : Nat → Nat) : Prop := nl < gn σ ∧ (∀ k, k < nl → 0 < rp k ∧ rp k < gn σ ∧ num (rp k) = k) ∧ (∀ i, 0 < i → i < gn σ → num i < nl) ∧ (∀ i j, 0 < i → i < gn σ → 0 < j → j < gn σ → (num i = num j ↔ smB σ i j = true))
theorem mk_ill {f g : Nat → Int64} (hf : tOk f) (hg : tOk g) {p : Nat} (h0 : p ≠ 0) (hp : p < 125) (hl : lg p = false) : mk f g p = wNON := by
  have e : ∀ {t : Nat → Int64}, tOk t → t p = wABS := fun {t} ht => by
    by_cases z : t p = wABS
    · exact z
    · rw [(ht.2 p (by omega) hp z).1] at hl; cases hl
  unfold mk
  rw [if_pos ((e hg).trans (e hf).symm)]
theorem eL_eI {σ : Sg} {i : Nat} (h1 : tOk (gt σ (gp σ i))) (h2 : tOk (gt σ i)) {n : Nat} (hn : n ≤ 125) : eL (gt σ (gp σ i)) (gt σ i) n = eI σ i n := by
  unfold eL eI
  refine List.filter_congr (fun p hp => ?_)
  have hp := List.mem_range.mp hp
  show (decide (p ≠ 0) && !decide (mkI σ i p = wNON)) = (lg p && !decide (mkI σ i p = wNON))
  cases hl : lg p with
  | true => rw [decide_eq_true (by have := lg_25 hl; omega)]
  | false =>
    by_cases h0 : p = 0
    · rw [decide_eq_false (by simpa using h0)]
    · rw [show mkI σ i p = wNON from mk_ill h1 h2 h0 (by omega) hl]; simp
theorem smB_eI {σ : Sg} {i j : Nat} (h : smB σ i j = true) {n : Nat} (hn : n ≤ 125) : eI σ i n = eI σ j n := by
  have h := smB_iff.mp h
  unfold eI
  refine List.filter_congr (fun p hp => ?_)
  have hp := List.mem_range.mp hp
  cases hl : lg p with
  | false => rfl
  | true => rw [h p (by omega) hl]
theorem eI_in {σ : Sg} {i p : Nat} (hp : p < 125) (hl : lg p = true) (hm : mkI σ i p ≠ wNON) : ∃ k, k < (eI σ i 125).length ∧ (eI σ i 125).getD k 0 = p := by
  have hmem : p ∈ eI σ i 125 := by
    unfold eI
    rw [List.mem_filter]
    exact ⟨List.mem_range.mpr hp, by simp [hl, hm]⟩
  obtain ⟨k, hk, hq⟩ := List.getElem_of_mem hmem
  exact ⟨k, hk, by rw [List.getD_eq_getElem?_getD, List.getElem?_eq_getElem hk, hq]; rfl⟩
theorem lyEq_smB (σ : Sg) (i j : Nat) : lyEq (eI σ i 125) (mkI σ i) (eI σ j 125) (mkI σ j) = smB σ i j := by
  cases hs : smB σ i j with
  | true =>
    have he := smB_eI hs (n := 125) (Nat.le_refl _)
    refine lyEq_t (by rw [he]) (fun k hk => ?_)
    have m1 := eI_mem hk rfl
    rw [← he]
    exact ⟨rfl, smB_iff.mp hs _ m1.2.1 m1.2.2.1⟩
  | false =>
    refine lyEq_f (fun hh => ?_)
    obtain ⟨h1, h2⟩ := hh
    have e : ∀ k, k < (eI σ i 125).length → (eI σ i 125).getD k 0 = (eI σ j 125).getD k 0 := fun k hk => by
      have m1 := eI_mem hk rfl
      have m2 := eI_mem (k := k) (by rw [← h1]; exact hk) (rfl : (eI σ j 125).getD k 0 = _)
      exact (nI_eq (by omega) (by omega)).mp (h2 k hk).1
    have : smB σ i j = true := smB_iff.mpr (fun p hp hl => by
      by_cases hi : mkI σ i p = wNON
      · by_cases hj : mkI σ j p = wNON
        · rw [hi, hj]
        · obtain ⟨k, hk, hq⟩ := eI_in hp hl hj
          rw [← h1] at hk
          have m1 := eI_mem hk (rfl : (eI σ i 125).getD k 0 = _)
          rw [e k hk, hq] at m1
          exact absurd hi m1.2.2.2
      · obtain ⟨k, hk, hq⟩ := eI_in hp hl hi
        have := (h2 k hk).2
        rw [← e k hk, hq] at this
        exact this)
    rw [hs] at this; cases this
theorem smB_rf (σ : Sg) (i : Nat) : smB σ i i = true := smB_iff.mpr (fun _ _ _ => rfl)
theorem smB_sy {σ : Sg} {i j : Nat} (h : smB σ i j = true) : smB σ j i = true := smB_iff.mpr (fun p hp hl => (smB_iff.mp h p hp hl).symm)
theorem smB_tr {σ : Sg} {i j k : Nat} (h : smB σ i j = true) (h' : smB σ j k = true) : smB σ i k = true := smB_iff.mpr (fun p hp hl => (smB_iff.mp h p hp hl).trans (smB_iff.mp h' p hp hl))
/-! sums over the numbers -/
def sm (w : Nat → Nat) (P : Nat → Bool) : Nat → Nat
  | 0 => 0
  | k + 1 => sm w P k + (if P k = true then w k else 0)
theorem sm_cg {w w' : Nat → Nat} {P P' : Nat → Bool} : ∀ n, (∀ k, k < n → P k = P' k ∧ w k = w' k) → sm w P n = sm w' P' n := by
  intro n
  induction n with
  | zero => intro _; rfl
  | succ n ih =>
    intro h
    show sm w P n + _ = sm w' P' n + _
    rw [ih (fun k hk => h k (by omega)), (h n (by omega)).1, (h n (by omega)).2]
theorem sm_le {w : Nat → Nat} {P : Nat → Bool} {b : Nat} (hw : ∀ k, w k ≤ b) : ∀ n, sm w P n ≤ b * n := by
  intro n
  induction n with
  | zero => exact Nat.le_refl _
  | succ n ih =>
    show sm w P n + _ ≤ b * (n + 1)
    rw [Nat.mul_succ]
    have := hw n
    split <;> omega
theorem sm_add {w : Nat → Nat} {P : Nat → Bool} {k0 : Nat} (h0 : P k0 = false) : ∀ n, k0 < n → sm w (fun k => P k || decide (k0 = k)) n = sm w P n + w k0 := by
  intro n
  induction n with
  | zero => intro h; omega
  | succ n ih =>
    intro h
    show sm w (fun k => P k || decide (k0 = k)) n + (if (P n || decide (k0 = n)) = true then w n else 0) = sm w P n + (if P n = true then w n else 0) + w k0
    by_cases e : k0 = n
    · subst e
      rw [sm_cg (w' := w) (P' := P) k0 (fun k hk => ⟨by rw [decide_eq_false (show ¬ k0 = k by omega), Bool.or_false], rfl⟩), h0]
      simp
    · rw [ih (by omega), decide_eq_false e, Bool.or_false]
      omega
def wE (σ : Sg) (rp : Nat → Nat) (en : Bool) (k : Nat) : Nat := if en = true then (eI σ (rp k) 125).length else 1
def pC (ch : Nat → Bool) (num : Nat → Nat) (m k : Nat) : Bool := (List.range m).any fun x => decide (x ≠ 0) && ch x && decide (num x = k)
theorem dfL_sm {σ : Sg} {nl : Nat} {num rp : Nat → Nat} (hN : cNum σ nl num rp) (ch : Nat → Bool) (en : Bool) : ∀ m, m ≤ gn σ → dfL σ ch en m = sm (wE σ rp en) (pC ch num m) nl := by
  obtain ⟨n1, n2, n3, n4⟩ := hN
  intro m
  induction m with
  | zero =>
    intro _
    rw [show sm (wE σ rp en) (pC ch num 0) nl = sm (wE σ rp en) (fun _ => false) nl from sm_cg nl (fun k _ => ⟨rfl, rfl⟩)]
    have : ∀ n, sm (wE σ rp en) (fun _ => false) n = 0 := fun n => by
      induction n with
      | zero => rfl
      | succ n ih => show sm _ _ n + 0 = 0; rw [ih]
    rw [this]; rfl
  | succ i ih =>
    intro hi
    have ih := ih (by omega)
    have hs : ∀ k, pC ch num (i + 1) k = (pC ch num i k || (decide (i ≠ 0) && ch i && decide (num i = k))) := fun k => by
      unfold pC
      rw [List.range_succ, List.any_append]
      simp
    show dfL σ ch en i + (if (decide (i ≠ 0) && ch i && !thB σ ch i i) = true then (if en = true then (eI σ i 125).length else 1) else 0) = _
    cases hc : (decide (i ≠ 0) && ch i) with
    | false =>
      rw [ih, if_neg (by simp)]
      exact sm_cg nl (fun k _ => ⟨by rw [hs k, hc]; simp, rfl⟩)
    | true =>
      rw [Bool.and_eq_true] at hc
      have h0 : i ≠ 0 := of_decide_eq_true hc.1
      have hlt := n3 i (by omega) (by omega)
      cases ht : thB σ ch i i with
      | true =>
        rw [ih, if_neg (by simp)]
        unfold thB at ht
        obtain ⟨j, hj, hq⟩ := List.any_eq_true.mp ht
        have hj := List.mem_range.mp hj
        rw [Bool.and_eq_true, Bool.and_eq_true] at hq
        have hj0 : j ≠ 0 := of_decide_eq_true hq.1.1
        have hnj := (n4 j i (by omega) (by omega) (by omega) (by omega)).mpr hq.2
        refine sm_cg nl (fun k _ => ⟨?_, rfl⟩)
        rw [hs k]
        by_cases hk : num i = k
        · have : pC ch num i k = true := List.any_eq_true.mpr ⟨j, List.mem_range.mpr hj, by rw [decide_eq_true hj0, hq.1.2, decide_eq_true (hnj.trans hk)]; rfl⟩
          rw [this]; rfl
        · rw [decide_eq_false hk]; simp
      | false =>
        have hp : pC ch num i (num i) = false := by
          unfold pC
          refine List.any_eq_false.mpr (fun j hj => ?_)
          have hj := List.mem_range.mp hj
          intro hq
          rw [Bool.and_eq_true, Bool.and_eq_true] at hq
          have hj0 : j ≠ 0 := of_decide_eq_true hq.1.1
          have hsm := (n4 j i (by omega) (by omega) (by omega) (by omega)).mp (of_decide_eq_true hq.2)
          rw [thB_t hj0 hj hq.1.2 hsm] at ht
          cases ht
        rw [sm_cg (w' := wE σ rp en) (P' := fun k => pC ch num i k || decide (num i = k)) nl (fun k _ => ⟨by rw [hs k, hc.2, hc.1, Bool.true_and, Bool.true_and], rfl⟩), sm_add hp nl hlt, ih, if_pos (show (true && !false) = true from rfl)]
        congr 1
        unfold wE
        have hr := n2 (num i) hlt
        rw [smB_eI ((n4 i (rp (num i)) (by omega) (by omega) hr.1 hr.2.1).mp hr.2.2.symm) (Nat.le_refl _)]
/-- the numbers that are seen below the first n images of store s -/
def snS (σ : Sg) (num : Nat → Nat) (s n k : Nat) : Bool := (List.range n).any fun i => gh σ s i && decide (k ∈ (cn (gp σ) i).map num)
theorem snS_pC {σ : Sg} (hok : gI σ) (num : Nat → Nat) (s k : Nat) : snS σ num s (gn σ) k = pC (chH σ s (gn σ)) num (gn σ) k := by
  have hpr := hok.1.2.2.1
  apply Bool.eq_iff_iff.mpr
  unfold snS pC chH
  rw [List.any_eq_true, List.any_eq_true]
  constructor
  · rintro ⟨i, hi, hq⟩
    rw [Bool.and_eq_true] at hq
    obtain ⟨x, hx, hxk⟩ := List.mem_map.mp (of_decide_eq_true hq.2)
    have hm := cn_mem hpr i i (Nat.le_refl _) x hx
    have hi' := List.mem_range.mp hi
    refine ⟨x, List.mem_range.mpr (by omega), ?_⟩
    rw [Bool.and_eq_true, Bool.and_eq_true]
    exact ⟨⟨decide_eq_true (by omega), List.any_eq_true.mpr ⟨i, hi, by rw [hq.1, decide_eq_true hx]; rfl⟩⟩, decide_eq_true hxk⟩
  · rintro ⟨x, hx, hq⟩
    rw [Bool.and_eq_true, Bool.and_eq_true] at hq
    obtain ⟨i, hi, hq2⟩ := List.any_eq_true.mp hq.1.2
    rw [Bool.and_eq_true] at hq2
    exact ⟨i, hi, by rw [hq2.1, decide_eq_true (List.mem_map.mpr ⟨x, of_decide_eq_true hq2.2, of_decide_eq_true hq.2⟩)]; rfl⟩
theorem lay_sm {σ : Sg} (hok : gI σ) {nl : Nat} {num rp : Nat → Nat} (hN : cNum σ nl num rp) (s : Nat) (en : Bool) : sm (wE σ rp en) (snS σ num s (gn σ)) nl = dfL σ (chH σ s (gn σ)) en (gn σ) := by
  rw [dfL_sm hN _ _ _ (Nat.le_refl _)]
  exact sm_cg nl (fun k _ => ⟨snS_pC hok num s k, rfl⟩)
theorem chH_hold (σ : Sg) {s i : Nat} (hi : i < gn σ) (g : Nat → Nat → Nat) (a : Int32) : chH (gn σ, gp σ, gt σ, gSet (gh σ) s i true, g, a) s (gn σ) = chO (gp σ) (chH σ s (gn σ)) i := funext fun x => by
  apply Bool.eq_iff_iff.mpr
  unfold chO chH
  rw [Bool.or_eq_true, List.any_eq_true, List.any_eq_true]
  show (∃ j, j ∈ List.range (gn σ) ∧ (gSet (gh σ) s i true s j && decide (x ∈ cn (gp σ) j)) = true) ↔ _
  constructor
  · rintro ⟨j, hj, hq⟩
    rw [Bool.and_eq_true] at hq
    by_cases e : j = i
    · exact Or.inr (e ▸ hq.2)
    · refine Or.inl ⟨j, hj, ?_⟩
      have := hq.1
      unfold gSet at this
      rw [if_neg (fun z => e z.2)] at this
      rw [this, hq.2]; rfl
  · rintro (⟨j, hj, hq⟩ | hq)
    · rw [Bool.and_eq_true] at hq
      refine ⟨j, hj, ?_⟩
      unfold gSet
      rw [hq.2, hq.1]
      simp
    · exact ⟨i, List.mem_range.mpr hi, by unfold gSet; rw [if_pos ⟨rfl, rfl⟩, hq]; rfl⟩
theorem dfL_same (σ : Sg) (h : Nat → Nat → Bool) (g : Nat → Nat → Nat) (a : Int32) (ch : Nat → Bool) (en : Bool) : ∀ n, dfL (gn σ, gp σ, gt σ, h, g, a) ch en n = dfL σ ch en n := by
  intro n
  induction n with
  | zero => rfl
  | succ n ih =>
    show dfL (gn σ, gp σ, gt σ, h, g, a) ch en n + _ = dfL σ ch en n + _
    rw [ih]
    rfl
/-! the numbers of an image -/
def nuL (par num : Nat → Nat) (i : Nat) : List Nat := (cn par i).map num
theorem nuL_len (par num : Nat → Nat) (i : Nat) : (nuL par num i).length = (cn par i).length := List.length_map _
theorem nuL_at {par num : Nat → Nat} {i k : Nat} (h : k < (cn par i).length) : (nuL par num i).getD k 0 = num ((cn par i).getD k 0) := by
  unfold nuL
  rw [List.getD_eq_getElem?_getD, List.getD_eq_getElem?_getD, List.getElem?_map, List.getElem?_eq_getElem h]
  rfl
theorem cn_at {par : Nat → Nat} (h : ∀ i, 0 < i → par i < i) {i k : Nat} (hk : k < (cn par i).length) : 0 < (cn par i).getD k 0 ∧ (cn par i).getD k 0 ≤ i := by
  rw [List.getD_eq_getElem?_getD, List.getElem?_eq_getElem hk]
  exact cn_mem h i i (Nat.le_refl _) _ (List.getElem_mem hk)
theorem cmP_in {σ : Sg} (hok : gI σ) {nl : Nat} {num rp : Nat → Nat} (hN : cNum σ nl num rp) {a b n : Nat} (ha : a < gn σ) (hb : b < gn σ) (h1 : n < (cn (gp σ) a).length) (h2 : n < (cn (gp σ) b).length) : cmP σ a b n = decide (num ((cn (gp σ) a).getD n 0) = num ((cn (gp σ) b).getD n 0)) := by
  have p1 := cn_at hok.1.2.2.1 h1
  have p2 := cn_at hok.1.2.2.1 h2
  unfold cmP
  rw [decide_eq_false (by omega), decide_eq_false (by omega)]
  have := hN.2.2.2 _ _ p1.1 (show (cn (gp σ) a).getD n 0 < gn σ by omega) p2.1 (show (cn (gp σ) b).getD n 0 < gn σ by omega)
  apply Bool.eq_iff_iff.mpr
  rw [decide_eq_true_eq, this]
  simp
theorem cmP_out {σ : Sg} {a b n : Nat} (h : (cn (gp σ) a).length ≤ n ∨ (cn (gp σ) b).length ≤ n) : cmP σ a b n = false := by
  unfold cmP
  rcases h with h | h
  · rw [getD_out h]; simp
  · rw [getD_out (L := cn (gp σ) b) h]; simp
theorem sh_at {σ : Sg} (hok : gI σ) {nl : Nat} {num rp : Nat → Nat} (hN : cNum σ nl num rp) {b i : Nat} (hb : b < gn σ) (h0 : 0 < i) (hi : i < gn σ) : thB σ (chO (gp σ) (fun _ => false) b) i (gn σ) = (List.range (nuL (gp σ) num b).length).any fun k => decide (nI ((nuL (gp σ) num b).getD k 0) = nI (num i)) := by
  have hn40 := hok.1.2.1
  have hnl := hN.1
  have hni := hN.2.2.1 i h0 hi
  apply Bool.eq_iff_iff.mpr
  rw [List.any_eq_true]
  constructor
  · intro h
    unfold thB at h
    obtain ⟨j, hj, hq⟩ := List.any_eq_true.mp h
    have hj := List.mem_range.mp hj
    rw [Bool.and_eq_true, Bool.and_eq_true] at hq
    have hj0 : j ≠ 0 := of_decide_eq_true hq.1.1
    have hc := hq.1.2
    unfold chO at hc
    have hc : j ∈ cn (gp σ) b := by simpa using hc
    have hnj := (hN.2.2.2 j i (by omega) hj h0 hi).mpr hq.2
    obtain ⟨k, hk, hkq⟩ := List.getElem_of_mem hc
    have hkd : (cn (gp σ) b).getD k 0 = j := by rw [List.getD_eq_getElem?_getD, List.getElem?_eq_getElem hk, hkq]; rfl
    exact ⟨k, List.mem_range.mpr (by rw [nuL_len]; exact hk), by rw [nuL_at hk, hkd, hnj]; exact decide_eq_true rfl⟩
  · rintro ⟨k, hk, hq⟩
    have hk := List.mem_range.mp hk
    rw [nuL_len] at hk
    rw [nuL_at hk] at hq
    have hm := cn_at hok.1.2.2.1 hk
    have hnk := hN.2.2.1 _ hm.1 (by omega)
    have he := (nI_eq (by omega) (by omega)).mp (of_decide_eq_true hq)
    have hsm := (hN.2.2.2 _ _ hm.1 (by omega) h0 hi).mp he
    refine thB_t (j := (cn (gp σ) b).getD k 0) (by omega) (by omega) ?_ hsm
    unfold chO
    rw [List.getD_eq_getElem?_getD, List.getElem?_eq_getElem hk]
    exact decide_eq_true (List.getElem_mem hk)
/-! the state grows by one image: its number -/
theorem smB_new {σ : Sg} (hok : gI σ) (f : Nat → Int64) (o : Nat) {i j : Nat} (hi : i < gn σ) (hj : j < gn σ) : smB (newS σ f o) i j = smB σ i j := by
  have e : ∀ {i p : Nat}, i < gn σ → mkI (newS σ f o) i p = mkI σ i p := fun {i p} hi => by
    have hp : gp σ i < gn σ := by
      rcases Nat.eq_zero_or_pos i with rfl | q
      · rw [hok.2]; exact hok.1.1
      · have := hok.1.2.2.1 i q; omega
    show mk (va_up (gt σ) (gn σ) f (va_up (gp σ) (gn σ) o i)) (va_up (gt σ) (gn σ) f i) p = _
    rw [va_up_ne (gp σ) _ (show i ≠ gn σ by omega), va_up_ne (gt σ) _ (show gp σ i ≠ gn σ by omega), va_up_ne (gt σ) _ (show i ≠ gn σ by omega)]
    rfl
  apply Bool.eq_iff_iff.mpr
  rw [smB_iff, smB_iff]
  exact ⟨fun h p hp hl => by rw [← e hi, ← e hj]; exact h p hp hl, fun h p hp hl => by rw [e hi, e hj]; exact h p hp hl⟩
theorem cNum_old {σ : Sg} (hok : gI σ) {nl : Nat} {num rp : Nat → Nat} (hN : cNum σ nl num rp) (f : Nat → Int64) (o : Nat) {k : Nat} (hk : k < nl) (hs : smB (newS σ f o) (rp k) (gn σ) = true) : cNum (newS σ f o) nl (va_up num (gn σ) k) rp := by
  obtain ⟨n1, n2, n3, n4⟩ := hN
  have hk1 := n2 k hk
  refine ⟨Nat.lt_succ_of_lt n1, fun k' hk' => ?_, fun i h0 hi => ?_, fun i j hi0 hi hj0 hj => ?_⟩
  · have h := n2 k' hk'
    exact ⟨h.1, Nat.lt_succ_of_lt h.2.1, by rw [va_up_ne _ _ (by omega)]; exact h.2.2⟩
  · have hi : i < gn σ + 1 := hi
    by_cases e : i = gn σ
    · rw [e, va_up_self]; exact hk
    · rw [va_up_ne _ _ e]; exact n3 i h0 (by omega)
  · have hi : i < gn σ + 1 := hi
    have hj : j < gn σ + 1 := hj
    have one : ∀ j, 0 < j → j < gn σ → (k = num j ↔ smB (newS σ f o) (gn σ) j = true) := fun j hj0 hj => by
      have hq := n4 (rp k) j hk1.1 hk1.2.1 hj0 hj
      rw [hk1.2.2, ← smB_new hok f o hk1.2.1 hj] at hq
      rw [hq]
      exact ⟨fun z => smB_tr (smB_sy hs) z, fun z => smB_tr hs z⟩
    by_cases ei : i = gn σ
    · by_cases ej : j = gn σ
      · rw [ei, ej]; exact ⟨fun _ => smB_rf _ _, fun _ => rfl⟩
      · rw [ei, va_up_self, va_up_ne _ _ ej]; exact one j hj0 (by omega)
    · by_cases ej : j = gn σ
      · rw [ej, va_up_self, va_up_ne _ _ ei]
        have := one i hi0 (by omega)
        exact ⟨fun z => smB_sy (this.mp z.symm), fun z => (this.mpr (smB_sy z)).symm⟩
      · rw [va_up_ne _ _ ei, va_up_ne _ _ ej, smB_new hok f o (show i < gn σ by omega) (show j < gn σ by omega)]
        exact n4 i j hi0 (by omega) hj0 (by omega)
theorem cNum_new {σ : Sg} (hok : gI σ) {nl : Nat} {num rp : Nat → Nat} (hN : cNum σ nl num rp) (f : Nat → Int64) (o : Nat) (hs : ∀ k, k < nl → smB (newS σ f o) (rp k) (gn σ) = false) : cNum (newS σ f o) (nl + 1) (va_up num (gn σ) nl) (va_up rp nl (gn σ)) := by
  obtain ⟨n1, n2, n3, n4⟩ := hN
  have h1 := hok.1.1
  refine ⟨Nat.succ_lt_succ n1, fun k' hk' => ?_, fun i h0 hi => ?_, fun i j hi0 hi hj0 hj => ?_⟩
  · by_cases e : k' = nl
    · rw [e, va_up_self]
      exact ⟨by omega, Nat.lt_succ_self _, va_up_self _ _ _⟩
    · have h := n2 k' (by omega)
      rw [va_up_ne rp _ e]
      exact ⟨h.1, Nat.lt_succ_of_lt h.2.1, by rw [va_up_ne _ _ (by omega)]; exact h.2.2⟩
  · have hi : i < gn σ + 1 := hi
    by_cases e : i = gn σ
    · rw [e, va_up_self]; exact Nat.lt_succ_self _
    · rw [va_up_ne _ _ e]; exact Nat.lt_succ_of_lt (n3 i h0 (by omega))
  · have hi : i < gn σ + 1 := hi
    have hj : j < gn σ + 1 := hj
    have one : ∀ j, 0 < j → j < gn σ → (nl = num j ↔ smB (newS σ f o) (gn σ) j = true) := fun j hj0 hj => by
      have hnj := n3 j hj0 hj
      have hr := n2 _ hnj
      refine ⟨fun z => by omega, fun z => ?_⟩
      have h2 := (n4 _ j hr.1 hr.2.1 hj0 hj).mp hr.2.2
      rw [← smB_new hok f o hr.2.1 hj] at h2
      have h3 := smB_tr h2 (smB_sy z)
      rw [hs _ hnj] at h3
      cases h3
    by_cases ei : i = gn σ
    · by_cases ej : j = gn σ
      · rw [ei, ej]; exact ⟨fun _ => smB_rf _ _, fun _ => rfl⟩
      · rw [ei, va_up_self, va_up_ne _ _ ej]; exact one j hj0 (by omega)
    · by_cases ej : j = gn σ
      · rw [ej, va_up_self, va_up_ne _ _ ei]
        have := one i hi0 (by omega)
        exact ⟨fun z => smB_sy (this.mp z.symm), fun z => (this.mpr (smB_sy z)).symm⟩
      · rw [va_up_ne _ _ ei, va_up_ne _ _ ej, smB_new hok f o (show i < gn σ by omega) (show j < gn σ by omega)]
        exact n4 i j hi0 (by omega) hj0 (by omega)
theorem cn_new {σ : Sg} (hok : gI σ) {o : Nat} (ho : o < gn σ) : ∀ n i, i ≤ n → i < gn σ → cn (va_up (gp σ) (gn σ) o) i = cn (gp σ) i := by
  have hpr := hok.1.2.2.1
  have hpr2 : ∀ i, 0 < i → va_up (gp σ) (gn σ) o i < i := fun i hi => by
    by_cases e : i = gn σ
    · rw [e, va_up_self]; exact ho
    · rw [va_up_ne _ _ e]; exact hpr i hi
  intro n
  induction n with
  | zero => intro i hi _; rw [show i = 0 by omega]; rfl
  | succ n ih =>
    intro i hi hg
    rcases Nat.eq_zero_or_pos i with rfl | q
    · rfl
    · have := hpr i q
      rw [cn_s hpr2 q, cn_s hpr q, va_up_ne _ _ (show i ≠ gn σ by omega), ih (gp σ i) (by omega) (by omega)]
theorem cn_new_n {σ : Sg} (hok : gI σ) {o : Nat} (ho : o < gn σ) : cn (va_up (gp σ) (gn σ) o) (gn σ) = cn (gp σ) o ++ [gn σ] := by
  have hpr2 : ∀ i, 0 < i → va_up (gp σ) (gn σ) o i < i := fun i hi => by
    by_cases e : i = gn σ
    · rw [e, va_up_self]; exact ho
    · rw [va_up_ne _ _ e]; exact hok.1.2.2.1 i hi
  rw [cn_s hpr2 (by have := hok.1.1; omega), va_up_self, cn_new hok ho o o (Nat.le_refl _) ho]

