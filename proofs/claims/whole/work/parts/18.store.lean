/-! ===== new cells by a name; arrays that say the same where they are ===== -/
section XW
variable {p : Program} {l : Launch} {e : Env} {R : Room} {s : State} {m : MethodId} {args : Array Value} {below : List Frame} {meth : Method} {c : Code} {H : Heap} {locs : List Loc} {cells slots : Nat} {Q : State → Prop}
variable {cc : ByteArray} {pc nL index : Nat} {ls : Array Slot} {rest : List Value} {own C : String} {G : x_G} {A : Nat → Prop} {H0 : Heap} {T : u_T} {n ci : Nat} {fs : List Value} {N : Nat}
theorem x_newaI (F : x_F p m c cc nL s args own) (hK : x_K G s) (hN : N < 100000) (hcells : cells + 1 ≤ R.cells) (hslots : slots + N ≤ R.slots) (hS : va_S A H0 H locs) (hdg : decode cc pc = .ok (.newarray .int, 2))
    (kk : ∀ (q : Nat) (H1 : Heap), q = H.size → x_ai G q N (fun _ => 0) H1 → H1.size = H.size + 1 → (∀ q : Nat, q < H.size → H1[q]? = H[q]?) → va_S A H0 H1 locs → W p l e R s m args below meth c H1 locs (cells + 1) (slots + N) Q (F0 m (pc + 2) ls (.ref q :: rest))) : W p l e R s m args below meth c H locs cells slots Q (F0 m pc ls (.int (nI N) :: rest)) :=
  x_newa (atype := .int) (a0 := (N, .inl (fun _ => 0))) F hK k68 0 rfl (fun h => h) (fun _ => rfl) (nI_pos (by omega)) (nI_clamp (by omega)) (by show N * 4 ≤ _; omega) hcells hslots hS hdg (fun H1 => kk H.size H1 rfl)
theorem x_newaJ (F : x_F p m c cc nL s args own) (hK : x_K G s) (hN : N < 100000) (hcells : cells + 1 ≤ R.cells) (hslots : slots + N ≤ R.slots) (hS : va_S A H0 H locs) (hdg : decode cc pc = .ok (.newarray .long, 2))
    (kk : ∀ (q : Nat) (H1 : Heap), q = H.size → x_al G q N (fun _ => 0) H1 → H1.size = H.size + 1 → (∀ q : Nat, q < H.size → H1[q]? = H[q]?) → va_S A H0 H1 locs → W p l e R s m args below meth c H1 locs (cells + 1) (slots + N) Q (F0 m (pc + 2) ls (.ref q :: rest))) : W p l e R s m args below meth c H locs cells slots Q (F0 m pc ls (.int (nI N) :: rest)) :=
  x_newa (atype := .long) (a0 := (N, .inr (.inl (fun _ => 0)))) F hK k84 1 rfl (fun h => h) (fun _ => rfl) (nI_pos (by omega)) (nI_clamp (by omega)) (by show N * 8 ≤ _; omega) hcells hslots hS hdg (fun H1 => kk H.size H1 rfl)
theorem x_newaZ (F : x_F p m c cc nL s args own) (hK : x_K G s) (hN : N < 100000) (hcells : cells + 1 ≤ R.cells) (hslots : slots + N ≤ R.slots) (hS : va_S A H0 H locs) (hdg : decode cc pc = .ok (.newarray .boolean, 2))
    (kk : ∀ (q : Nat) (H1 : Heap), q = H.size → x_az G q N (fun _ => 0) H1 → H1.size = H.size + 1 → (∀ q : Nat, q < H.size → H1[q]? = H[q]?) → va_S A H0 H1 locs → W p l e R s m args below meth c H1 locs (cells + 1) (slots + N) Q (F0 m (pc + 2) ls (.ref q :: rest))) : W p l e R s m args below meth c H locs cells slots Q (F0 m pc ls (.int (nI N) :: rest)) :=
  x_newa (atype := .boolean) (a0 := (N, .inl (fun _ => 0))) F hK k67 2 rfl (fun h => h) (fun _ => rfl) (nI_pos (by omega)) (nI_clamp (by omega)) (by show N * 1 ≤ _; omega) hcells hslots hS hdg (fun H1 => kk H.size H1 rfl)
theorem x_newO (F : x_F p m c cc nL s args own) (hK : x_K G s) (hc : x_cl[ci]? = some (C, T, n)) (hin : ∀ w ∈ u_ws C T n, w ∈ x_tb) (ty : Nat → FieldType) (hty : ∀ k, k < n → parseFieldDescriptor (T k).2.2.1 = some (ty k)) (kl : Cond.classLink own index C ∈ x_tb) (ki : Cond.instantiable C n ∈ x_tb) (kn : Cond.initialized C ∈ x_tb) (hfs : ∀ j, j < n → defaultValue (ty j) = vp_V fs j) (hcells : cells + 1 ≤ R.cells) (hslots : slots + n ≤ R.slots) (hS : va_S A H0 H locs) (hdg : decode cc pc = .ok (.new index, 3))
    (kk : ∀ (q : Nat) (H1 : Heap), q = H.size → va_at G.1 x_cl (q, .inr (ci, fs)) H1 → H1.size = H.size + 1 → (∀ q : Nat, q < H.size → H1[q]? = H[q]?) → va_S A H0 H1 locs → W p l e R s m args below meth c H1 locs (cells + 1) (slots + n) Q (F0 m (pc + 3) ls (.ref q :: rest))) : W p l e R s m args below meth c H locs cells slots Q (F0 m pc ls rest) :=
  x_new F hK hc hin ty hty kl ki kn hfs hcells hslots hS hdg (fun H1 => kk H.size H1 rfl)
end XW
theorem arrV_cg {cA : ClassId} {n : Nat} {f g : Nat → Value} (h : ∀ j, j < n → f j = g j) : arrV cA n f = arrV cA n g := by
  unfold arrV
  congr 2
  funext j
  exact h j.val j.isLt
theorem x_ai.cg {G : x_G} {a n : Nat} {f g : Nat → Int32} {H : Heap} (hf : x_ai G a n f H) (h : ∀ j, j < n → f j = g j) : x_ai G a n g H := by
  show H[a]? = some (vp_cell _ _)
  rw [vp_cell_i, ← arrV_cg (f := fun j => .int (f j)) (fun j hj => by rw [h j hj])]
  exact hf
theorem x_az.cg {G : x_G} {a n : Nat} {f g : Nat → Int32} {H : Heap} (hf : x_az G a n f H) (h : ∀ j, j < n → f j = g j) : x_az G a n g H := by
  show H[a]? = some (vp_cell _ _)
  rw [vp_cell_i, ← arrV_cg (f := fun j => .int (f j)) (fun j hj => by rw [h j hj])]
  exact hf
theorem x_al.cg {G : x_G} {a n : Nat} {f g : Nat → Int64} {H : Heap} (hf : x_al G a n f H) (h : ∀ j, j < n → f j = g j) : x_al G a n g H := by
  show H[a]? = some (vp_cell _ _)
  rw [vp_cell_l, ← arrV_cg (f := fun j => .long (f j)) (fun j hj => by rw [h j hj])]
  exact hf
/-! ===== Arrays.fill ===== -/
def fillL (f : Nat → Int64) (v : Int64) (k : Nat) : Nat → Int64 := fun j => if j < k then v else f j
theorem fillL_s (f : Nat → Int64) (v : Int64) (k : Nat) : vp_updL (fillL f v k) k v = fillL f v (k + 1) := funext fun j => by
  unfold vp_updL fillL
  by_cases h : j = k
  · rw [if_pos h, if_pos (by omega)]
  · by_cases h2 : j < k
    · rw [if_neg h, if_pos h2, if_pos (by omega)]
    · rw [if_neg h, if_neg h2, if_neg (by omega)]
def fillI (f : Nat → Int32) (v : Int32) (k : Nat) : Nat → Int32 := fun j => if j < k then v else f j
theorem fillI_s (f : Nat → Int32) (v : Int32) (k : Nat) : upd (fillI f v k) k v = fillI f v (k + 1) := funext fun j => by
  unfold upd fillI
  by_cases h : j = k
  · rw [if_pos h, if_pos (by omega)]
  · by_cases h2 : j < k
    · rw [if_neg h, if_pos h2, if_pos (by omega)]
    · rw [if_neg h, if_neg h2, if_neg (by omega)]
theorem c_AR_fillJ (l : Launch) (G : x_G) (b n : Nat) (f : Nat → Int64) (v : Int64) (hn : n < 100000) : Met l y_AR_fillJ (x_ws y_AR_fillJ b_AR_fillJ 5 none) (x_rm 0 0 0) (x_P G [.ref b, .long v] (x_al G b n f)) (x_Q (fun r H H1 => r = none ∧ x_al G b n (fun _ => v) H1 ∧ x_off (fun q => q = b) H H1)) 0 0 (fun q => q = b) := by
  refine x_wV (by decide +kernel) (Nat.le_of_ble_eq_true rfl) (fun p e s m args below meth c F hnm hK hP ls hl Q hret => ?_)
  have hl : lv_has ls 5 [(0, .ref b), (1, .long v)] := hl
  have hS : va_S (fun q => q = b) s.heap s.heap [] := va_S.rf
  have loop : ∀ (d k : Nat), k + d = n → ∀ (H : Heap) (locs : List Loc), x_al G b n (fillL f v k) H → va_S (fun q => q = b) s.heap H locs → ∀ ls : Array Slot, lv_has ls 5 [(3, .int (nI k)), (4, .int (nI n)), (0, .ref b), (1, .long v)] → W p l e (x_rm 0 0 0) s m args below meth c H locs 0 0 Q (F0 m 6 ls []) := by
    intro d
    induction d with
    | zero =>
      intro k hk H locs hM hS ls hl
      refine lv_iload_n F.1 F.2.1 d_AR_fillJ_6 rfl (lv_at hl 0 rfl) ?_
      refine lv_iload F.1 F.2.1 d_AR_fillJ_7 (lv_at hl 1 rfl) ?_
      refine lv_icmp_ge (tgt := 22) F.1 F.2.1 d_AR_fillJ_9 (by decide) (fun _ => ?_) (fun zq => absurd (pN_le (a := n) (b := k) rfl rfl (by omega) (by omega) (by omega)) zq)
      exact hret _ _ _ _ _ _ d_AR_fillJ_22 ⟨rfl, x_al.cg hM (fun j hj => if_pos (by omega)), hS.off⟩ hS.2.2 (Nat.le_refl _) (Nat.le_refl _)
    | succ d ih =>
      intro k hk H locs hM hS ls hl
      refine lv_iload_n F.1 F.2.1 d_AR_fillJ_6 rfl (lv_at hl 0 rfl) ?_
      refine lv_iload F.1 F.2.1 d_AR_fillJ_7 (lv_at hl 1 rfl) ?_
      refine lv_icmp_ge (tgt := 22) F.1 F.2.1 d_AR_fillJ_9 (by decide) (fun zq => absurd zq (pN_nle (a := n) (b := k) rfl rfl (by omega) (by omega) (by omega))) (fun _ => ?_)
      refine lv_aload_n F.1 F.2.1 d_AR_fillJ_12 rfl (lv_at hl 2 rfl) ?_
      refine lv_iload_n F.1 F.2.1 d_AR_fillJ_13 rfl (lv_at hl 0 rfl) ?_
      refine lv_lload_n F.1 F.2.1 d_AR_fillJ_14 rfl (lv_at hl 3 rfl) ?_
      refine x_lastN F hK hM (by omega) (by omega) hS rfl d_AR_fillJ_15 (fun H1 locs hM hz1 ho1 hS => ?_)
      refine lv_iinc (v := (nI (k + 1))) (lv' := [(3, .int (nI (k + 1))), (4, .int (nI n)), (0, .ref b), (1, .long v)]) F.1 F.2.1 d_AR_fillJ_16 hl (k := 0) rfl (nI_1 k) (by decide) rfl (fun ls hl => ?_)
      refine lv_goto (tgt := 6) F.1 F.2.1 d_AR_fillJ_19 (by decide) ?_
      exact ih (k + 1) (by omega) _ _ (by rw [← fillL_s]; exact hM) hS ls hl
  refine lv_iconst (v := 0) F.1 F.2.1 d_AR_fillJ_0 (by decide) ?_
  refine lv_istore_n (lv' := [(3, .int 0), (0, .ref b), (1, .long v)]) F.1 F.2.1 d_AR_fillJ_1 rfl hl (by decide) rfl (fun ls hl => ?_)
  refine lv_aload_n F.1 F.2.1 d_AR_fillJ_2 rfl (lv_at hl 1 rfl) ?_
  refine x_alen F hK hP 1 rfl d_AR_fillJ_3 ?_
  refine lv_istore (lv' := [(4, .int (nI n)), (3, .int 0), (0, .ref b), (1, .long v)]) F.1 F.2.1 d_AR_fillJ_4 hl (by decide) rfl (fun ls hl => ?_)
  exact loop n 0 (by omega) _ _ (x_al.cg hP (fun j _ => (if_neg (Nat.not_lt_zero j)).symm)) hS ls (lv_sub hl [1, 0, 2, 3] rfl)
theorem c_AR_fillI (l : Launch) (G : x_G) (b n : Nat) (f : Nat → Int32) (v : Int32) (hn : n < 100000) : Met l y_AR_fillI (x_ws y_AR_fillI b_AR_fillI 4 none) (x_rm 0 0 0) (x_P G [.ref b, .int v] (x_ai G b n f)) (x_Q (fun r H H1 => r = none ∧ x_ai G b n (fun _ => v) H1 ∧ x_off (fun q => q = b) H H1)) 0 0 (fun q => q = b) := by
  refine x_wV (by decide +kernel) (Nat.le_of_ble_eq_true rfl) (fun p e s m args below meth c F hnm hK hP ls hl Q hret => ?_)
  have hl : lv_has ls 4 [(0, .ref b), (1, .int v)] := hl
  have hS : va_S (fun q => q = b) s.heap s.heap [] := va_S.rf
  have loop : ∀ (d k : Nat), k + d = n → ∀ (H : Heap) (locs : List Loc), x_ai G b n (fillI f v k) H → va_S (fun q => q = b) s.heap H locs → ∀ ls : Array Slot, lv_has ls 4 [(2, .int (nI k)), (3, .int (nI n)), (0, .ref b), (1, .int v)] → W p l e (x_rm 0 0 0) s m args below meth c H locs 0 0 Q (F0 m 5 ls []) := by
    intro d
    induction d with
    | zero =>
      intro k hk H locs hM hS ls hl
      refine lv_iload_n F.1 F.2.1 d_AR_fillI_5 rfl (lv_at hl 0 rfl) ?_
      refine lv_iload_n F.1 F.2.1 d_AR_fillI_6 rfl (lv_at hl 1 rfl) ?_
      refine lv_icmp_ge (tgt := 20) F.1 F.2.1 d_AR_fillI_7 (by decide) (fun _ => ?_) (fun zq => absurd (pN_le (a := n) (b := k) rfl rfl (by omega) (by omega) (by omega)) zq)
      exact hret _ _ _ _ _ _ d_AR_fillI_20 ⟨rfl, x_ai.cg hM (fun j hj => if_pos (by omega)), hS.off⟩ hS.2.2 (Nat.le_refl _) (Nat.le_refl _)
    | succ d ih =>
      intro k hk H locs hM hS ls hl
      refine lv_iload_n F.1 F.2.1 d_AR_fillI_5 rfl (lv_at hl 0 rfl) ?_
      refine lv_iload_n F.1 F.2.1 d_AR_fillI_6 rfl (lv_at hl 1 rfl) ?_
      refine lv_icmp_ge (tgt := 20) F.1 F.2.1 d_AR_fillI_7 (by decide) (fun zq => absurd zq (pN_nle (a := n) (b := k) rfl rfl (by omega) (by omega) (by omega))) (fun _ => ?_)
      refine lv_aload_n F.1 F.2.1 d_AR_fillI_10 rfl (lv_at hl 2 rfl) ?_
      refine lv_iload_n F.1 F.2.1 d_AR_fillI_11 rfl (lv_at hl 0 rfl) ?_
      refine lv_iload_n F.1 F.2.1 d_AR_fillI_12 rfl (lv_at hl 3 rfl) ?_
      refine x_iastN F hK hM (by omega) (by omega) hS rfl d_AR_fillI_13 (fun H2 locs hM hz2 ho2 hS => ?_)
      refine lv_iinc (v := (nI (k + 1))) (lv' := [(2, .int (nI (k + 1))), (3, .int (nI n)), (0, .ref b), (1, .int v)]) F.1 F.2.1 d_AR_fillI_14 hl (k := 0) rfl (nI_1 k) (by decide) rfl (fun ls hl => ?_)
      refine lv_goto (tgt := 5) F.1 F.2.1 d_AR_fillI_17 (by decide) ?_
      exact ih (k + 1) (by omega) _ _ (by rw [← fillI_s]; exact hM) hS ls hl
  refine lv_iconst (v := 0) F.1 F.2.1 d_AR_fillI_0 (by decide) ?_
  refine lv_istore_n (lv' := [(2, .int 0), (0, .ref b), (1, .int v)]) F.1 F.2.1 d_AR_fillI_1 rfl hl (by decide) rfl (fun ls hl => ?_)
  refine lv_aload_n F.1 F.2.1 d_AR_fillI_2 rfl (lv_at hl 1 rfl) ?_
  refine x_alen F hK hP 0 rfl d_AR_fillI_3 ?_
  refine lv_istore_n (lv' := [(3, .int (nI n)), (2, .int 0), (0, .ref b), (1, .int v)]) F.1 F.2.1 d_AR_fillI_4 rfl hl (by decide) rfl (fun ls hl => ?_)
  exact loop n 0 (by omega) _ _ (x_ai.cg hP (fun j _ => (if_neg (Nat.not_lt_zero j)).symm)) hS ls (lv_sub hl [1, 0, 2, 3] rfl)
/-! ===== Tree(): one row of 125; Tree.become ===== -/
def tBare : Nat → Int64 := fun i => if i = 0 then wDIR else wABS
theorem c_TR_init (l : Launch) (G : x_G) (a sz : Nat) : Met l y_TR_init (x_ws y_TR_init b_TR_init 1 none) (x_rm 1 1 125) (x_P G [.ref a] (fun H => H.size = sz ∧ va_at G.1 x_cl (a, .inr (4, [.null])) H)) (x_Q (fun r H H1 => r = none ∧ (∃ b, sz ≤ b ∧ TR G a b tBare H1) ∧ x_off (fun q => q = a) H H1)) 1 125 (fun q => q = a ∨ sz ≤ q) := by
  refine x_wV (by decide +kernel) (Nat.le_of_ble_eq_true rfl) (fun p e s m args below meth c F hnm hK hP ls hl Q hret => ?_)
  have hl : lv_has ls 1 [(0, .ref a)] := hl
  obtain ⟨hsz, hT⟩ := hP
  have hS : va_S (fun q => q = a ∨ sz ≤ q) s.heap s.heap [] := va_S.rf
  refine lv_aload_n F.1 F.2.1 d_TR_init_0 rfl (lv_at hl 0 rfl) ?_
  refine x_oi F k74 hl.1 d_TR_init_1 (by decide) (by decide) ?_
  refine lv_aload_n F.1 F.2.1 d_TR_init_4 rfl (lv_at hl 0 rfl) ?_
  refine lv_bipush (v := 125) F.1 F.2.1 d_TR_init_5 (by decide) ?_
  refine x_newaJ (N := 125) F hK (by omega) (show 0 + 1 ≤ 1 by omega) (show 0 + 125 ≤ 125 by omega) hS d_TR_init_7 (fun b H3 hb hM hz3 ho3 hS => ?_)
  have n_a_b : a ≠ b := by have z := va_at.lt hT; dsimp only at z; omega
  have hT := va_at.kept hT (ho3 _ (va_at.lt hT))
  refine x_putF F hnm hK hT rfl i_TR t_TR p_TR n_TR 0 (by decide) k80 rfl rfl rfl rfl rfl (Nat.le_of_ble_eq_true rfl) hS (Or.inl rfl) d_TR_init_9 (fun H4 locs hT hz4 ho4 hS => ?_)
  have hT : va_at G.1 x_cl (a, .inr (4, [.ref b])) H4 := hT
  have hM := va_at.kept hM (ho4 _ (Ne.symm n_a_b))
  refine lv_aload_n F.1 F.2.1 d_TR_init_12 rfl (lv_at hl 0 rfl) ?_
  refine x_get F hK hT rfl i_TR 0 (by decide) k80 rfl rfl d_TR_init_13 ?_
  refine x_cst F k75 d_TR_init_16 ?_
  refine x_wr (x_S (n := 2) (As := [.ref b, .long 10000000000]) F (c_AR_fillJ l G b 125 (fun _ => 0) wABS (by decide)) ok_AR_fillJ k76 ⟨Nat.le_of_ble_eq_true rfl, Nat.le_of_ble_eq_true rfl⟩ rfl rfl hK (hM) rfl hl.1 rfl (Nat.le_of_ble_eq_true rfl) d_TR_init_19 ⟨Nat.le_of_ble_eq_true rfl, Nat.le_of_ble_eq_true rfl⟩) hS (fun q h => by rw [h]; exact Or.inr (by omega)) (fun _ _ h => h.2.2.mono (fun q h => by rw [h]; exact Or.inr (by omega))) (fun v H5 locs hpost hS => ?_)
  obtain ⟨rfl, hM, ho⟩ := hpost
  have hT := x_keep hT ho n_a_b
  refine lv_aload_n F.1 F.2.1 d_TR_init_22 rfl (lv_at hl 0 rfl) ?_
  refine x_get F hK hT rfl i_TR 0 (by decide) k80 rfl rfl d_TR_init_23 ?_
  refine lv_iconst (v := 0) F.1 F.2.1 d_TR_init_26 (by decide) ?_
  refine x_cst F k79 d_TR_init_27 ?_
  refine x_last F hK hM (by unfold vp_in; decide) hS (Or.inr (by omega)) d_TR_init_30 (fun H6 locs hM hz6 ho6 hS => ?_)
  have hT := va_at.kept hT (ho6 _ n_a_b)
  refine hret _ _ _ _ _ _ d_TR_init_31 ⟨rfl, ⟨b, by omega, hT, x_al.cg hM (fun j _ => ?_), n_a_b⟩, hS.1, fun q h1 h2 => hS.2.1 q h1 (fun z => z.elim h2 (fun z => by omega))⟩ hS.2.2 (Nat.le_of_ble_eq_true rfl) (Nat.le_of_ble_eq_true rfl)
  unfold vp_updL tBare
  rfl
theorem cpy125 {g f : Nat → Int64} {j : Nat} (hj : j < 125) : va_cpy g f (Int32.toNatClampNeg 0) (Int32.toNatClampNeg 0) (Int32.toNatClampNeg 125) j = g j := by
  rw [show Int32.toNatClampNeg 0 = 0 from by decide, show Int32.toNatClampNeg 125 = 125 from by decide, pk_cpy_in (Nat.zero_le _) (by omega)]
  congr 1
  omega
theorem c_TR_become (l : Launch) (G : x_G) (a b a2 b2 : Nat) (f g : Nat → Int64) (hbb : b ≠ b2) : Met l y_TR_become (x_ws y_TR_become b_TR_become 2 none) (x_rm 1 0 0) (x_P G [.ref a, .ref a2] (fun H => TR G a b f H ∧ TR G a2 b2 g H)) (x_Q (TW G b g none)) 0 0 (fun q => q = b ∨ q = b2) := by
  refine x_wV (by decide +kernel) (Nat.le_of_ble_eq_true rfl) (fun p e s m args below meth c F hnm hK hP ls hl Q hret => ?_)
  have hl : lv_has ls 2 [(0, .ref a), (1, .ref a2)] := hl
  obtain ⟨⟨hT, hM, hab⟩, hT2, hM2, hab2⟩ := hP
  refine lv_aload_n F.1 F.2.1 d_TR_become_0 rfl (lv_at hl 1 rfl) ?_
  refine x_get F hK hT2 rfl i_TR 0 (by decide) k80 rfl rfl d_TR_become_1 ?_
  refine lv_iconst (v := 0) F.1 F.2.1 d_TR_become_4 (by decide) ?_
  refine lv_aload_n F.1 F.2.1 d_TR_become_5 rfl (lv_at hl 0 rfl) ?_
  refine x_get F hK hT rfl i_TR 0 (by decide) k80 rfl rfl d_TR_become_6 ?_
  refine lv_iconst (v := 0) F.1 F.2.1 d_TR_become_9 (by decide) ?_
  refine lv_bipush (v := 125) F.1 F.2.1 d_TR_become_10 (by decide) ?_
  have hP0 : va_P G.1 x_cl [(b2, .inl (G.2.2.1, 125, .inr (.inl g))), (b, .inl (G.2.2.1, 125, .inr (.inl f)))] s.heap := x_two hM2 hM
  have hD0 : va_D (fun q => q = b ∨ q = b2) [(b2, (.inl (G.2.2.1, 125, .inr (.inl g)) : va_E)), (b, .inl (G.2.2.1, 125, .inr (.inl f)))] := by
    refine ⟨fun i j p r h1 h2 h3 => ?_, fun k q hk => ?_⟩
    · match i, j, h1, h2 with
      | 0, 0, _, _ => rfl
      | 1, 1, _, _ => rfl
      | 0, 1, h1, h2 => cases h1; cases h2; exact absurd h3.symm hbb
      | 1, 0, h1, h2 => cases h1; cases h2; exact absurd h3 hbb
      | i + 2, _, h1, _ => simp at h1
      | _, j + 2, _, h2 => simp at h2
    · match k, hk with
      | 0, hk => cases hk; exact Or.inr rfl
      | 1, hk => cases hk; exact Or.inl rfl
      | k + 2, hk => simp at hk
  refine va_copyl (q0 := 0) (q1 := 1) (t0 := 1) (t1 := 1) (ty := .long) F.1 F.2.1 (F.2.2.1.trans hl.1.symm) F.2.2.2.1 (F.2.2.2.2 _ k214) (F.2.2.2.2 _ k155) (F.2.2.2.2 _ k154) (F.2.2.2.2 _ k11) hK.1 hP0 hD0 va_S.rf rfl rfl rfl rfl rfl (by decide) (by decide) (by decide) (by decide) (by decide) (fun _ _ => rfl) (by decide) (by decide) d_TR_become_12 (fun H1 locs1 hP1 hD1 hS => ?_)
  have hM' : x_al G b 125 g H1 := x_al.cg (hP1 1 _ rfl) (fun j hj => cpy125 hj)
  have h2' : x_al G b2 125 g H1 := hP1 0 _ rfl
  refine hret _ _ _ _ _ _ d_TR_become_15 ⟨rfl, hM', hS.1, fun q h1 h2 => ?_⟩ hS.2.2 (Nat.le_refl _) (Nat.le_refl _)
  by_cases hq : q = b2
  · subst hq
    exact Eq.trans h2' hM2.symm
  · exact hS.2.1 q h1 (fun z => z.elim h2 hq)

