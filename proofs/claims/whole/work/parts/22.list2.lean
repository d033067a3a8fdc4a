/-! ===== ArrayList: new, add ===== -/
section XS
variable {p : Program} {l : Launch} {e : Env} {R : Room} {s : State} {m : MethodId} {args : Array Value} {below : List Frame} {meth : Method} {c : Code} {H : Heap} {locs : List Loc} {cells slots : Nat} {Q : State → Prop}
variable {cc : ByteArray} {pc nL : Nat} {ls : Array Slot} {rest : List Value} {G : x_G} {a : Nat} {A : Nat → Prop} {H0 : Heap}
theorem x_same (F : x_F p m c cc nL s args "java/util/ArrayList") : ∀ x, s.fieldFound? "java/util/AbstractList" "modCount" "I" = some x → s.fieldFound? "java/util/ArrayList" "modCount" "I" = some x := fun x h => u_same (F.2.2.2.2 _ k43) x h
/-- modCount under the list's own name -/
theorem x_getM (F : x_F p m c cc nL s args "java/util/ArrayList") (hK : x_K G s) {mo : Int32} {d n : Value} (hat : va_at G.1 x_cl (a, .inr (0, [.int mo, d, n])) H) (hdg : decode cc pc = .ok (.getfield 63, 3))
    (kk : W p l e R s m args below meth c H locs cells slots Q (F0 m (pc + 3) ls (.int mo :: rest))) : W p l e R s m args below meth c H locs cells slots Q (F0 m pc ls (.ref a :: rest)) :=
  va_get (C := "java/util/ArrayList") (T := F_AL) (N := 3) (ci := 0) F.1 F.2.1 F.2.2.2.2 i_AL F.2.2.2.1 hK.1 (x_one hat) 0 rfl rfl 0 (by decide) (F.2.2.2.2 _ k42) (x_same F) rfl hdg kk
theorem x_putM (F : x_F p m c cc nL s args "java/util/ArrayList") (hK : x_K G s) {mo v : Int32} {d n : Value} (hat : va_at G.1 x_cl (a, .inr (0, [.int mo, d, n])) H) (hdg : decode cc pc = .ok (.putfield 63, 3)) (hS : va_S A H0 H locs) (hA : A a)
    (kk : ∀ (H1 : Heap) (locs1 : List Loc), va_at G.1 x_cl (a, .inr (0, [.int v, d, n])) H1 → H1.size = H.size → (∀ q : Nat, q ≠ a → H1[q]? = H[q]?) → va_S A H0 H1 locs1 → W p l e R s m args below meth c H1 locs1 cells slots Q (F0 m (pc + 3) ls rest)) : W p l e R s m args below meth c H locs cells slots Q (F0 m pc ls (.int v :: .ref a :: rest)) := by
  obtain ⟨hexec, hb, hml, hown, hts⟩ := id F
  have hc : x_cl[0]? = some ("java/util/ArrayList", F_AL, 3) := rfl
  have hap := va_apart (own := "java/util/ArrayList") hts i_AL t_AL p_AL n_AL hK.1 hc
  obtain ⟨r, h1, cell, q1, q2, q3, q4⟩ := hat
  have hr' : r = ("java/util/ArrayList", F_AL, 3) := Option.some.inj (h1.symm.trans hc)
  subst hr'
  obtain ⟨hSl, hfc, kC, hkC, hkind⟩ := hK.1.1 0 _ hc
  obtain ⟨cf, kf, fi, f, hi, hsl⟩ := hSl 0 (by decide)
  have hst := (u_facts hfc hkC (u_lays hts i_AL (k := 0) (by decide)) hi).1
  have h6 := u_store (v := .int v) hfc hkC hkind (hts _ k48) hi (p_AL 0 (by decide)) rfl rfl
  refine W.putK hexec hb (f := f) ⟨hown, hts _ k42, ⟨_, _, _, x_same F _ hi⟩, hst⟩ (by rw [q2]; exact h6) q1 q3 (by rw [hsl]; exact k2_hasslot (q4 0 (by decide))) rfl rfl hdg fun H' e1 e2 e3 => ?_
  rw [hsl] at e1 ⊢
  exact kk H' _ ⟨_, hc, t_OB.to (V := updV (vp_V [.int mo, d, n]) 0 (.int v)) ⟨_, e1, q2, q3, t_set q4 hap (by decide) (.int v)⟩ (fun j _ => vp_updV_set (Nat.le_of_ble_eq_true rfl) (.int v) j)⟩ e2 e3 (hS.put e2 e3 hA)
end XS
theorem c_AC_init (l : Launch) (G : x_G) (a : Nat) : Met l y_AC_init (x_ws y_AC_init b_AC_init 1 none) (x_rm 1 0 0) (x_P G [.ref a] (fun _ => True)) (x_Q (fun r H H1 => r = none ∧ H1 = H)) 0 0 (fun _ => False) := by
  refine x_wV (by decide +kernel) (Nat.le_of_ble_eq_true rfl) (fun p e s m args below meth c F hnm hK hP ls hl Q hret => ?_)
  have hl : lv_has ls 1 [(0, .ref a)] := hl
  refine lv_aload_n F.1 F.2.1 d_AC_init_0 rfl (lv_at hl 0 rfl) ?_
  refine x_oi F k36 hl.1 d_AC_init_1 (by decide) (by decide) ?_
  exact hret _ _ _ _ _ _ d_AC_init_4 ⟨rfl, rfl⟩ (fun q h => absurd h List.not_mem_nil) (Nat.le_refl _) (Nat.le_refl _)
theorem c_AB_init (l : Launch) (G : x_G) (a : Nat) (d : Value) (n : Int32) : Met l y_AB_init (x_ws y_AB_init b_AB_init 1 none) (x_rm 2 0 0) (x_P G [.ref a] (fun H => va_at G.1 x_cl (a, .inr (0, [.int 0, d, .int n])) H)) (x_Q (fun r H H1 => r = none ∧ va_at G.1 x_cl (a, .inr (0, [.int 0, d, .int n])) H1 ∧ x_off (fun q => q = a) H H1)) 0 0 (fun q => q = a) := by
  refine x_wV (by decide +kernel) (Nat.le_of_ble_eq_true rfl) (fun p e s m args below meth c F hnm hK hP ls hl Q hret => ?_)
  have hl : lv_has ls 1 [(0, .ref a)] := hl
  have hS : va_S (fun q => q = a) s.heap s.heap [] := va_S.rf
  refine lv_aload_n F.1 F.2.1 d_AB_init_0 rfl (lv_at hl 0 rfl) ?_
  refine x_wr (x_I (n := 0) (As := []) F (c_AC_init l G a) ok_AC_init k33 ⟨Nat.le_of_ble_eq_true rfl, Nat.le_of_ble_eq_true rfl⟩ rfl rfl hK (trivial) rfl hl.1 rfl (Nat.le_of_ble_eq_true rfl) d_AB_init_1 ⟨Nat.le_of_ble_eq_true rfl, Nat.le_of_ble_eq_true rfl⟩) hS (fun _ h => h.elim) (fun _ _ h => ⟨by rw [h.2]; exact Nat.le_refl _, fun _ _ _ => by rw [h.2]⟩) (fun v H1 locs hpost hS => ?_)
  obtain ⟨rfl, rfl⟩ := hpost
  refine lv_aload_n F.1 F.2.1 d_AB_init_4 rfl (lv_at hl 0 rfl) ?_
  refine lv_iconst (v := 0) F.1 F.2.1 d_AB_init_5 (by decide) ?_
  refine x_put F hK hP rfl i_AL t_AL p_AL n_AL 0 (by decide) k41 rfl rfl rfl rfl (Nat.le_of_ble_eq_true rfl) hS rfl d_AB_init_6 (fun H2 locs hP hz2 ho2 hS => ?_)
  have hP : va_at G.1 x_cl (a, .inr (0, [.int 0, d, .int n])) H2 := hP
  exact hret _ _ _ _ _ _ d_AB_init_9 ⟨rfl, hP, hS.off⟩ hS.2.2 (Nat.le_refl _) (Nat.le_refl _)
theorem c_AL_init (l : Launch) (G : x_G) (a : Nat) (n1 : x_sa G ≠ a) (n2 : x_t G ≠ a) : Met l y_AL_init (x_ws y_AL_init b_AL_init 1 none) (x_rm 3 0 0) (x_P G [.ref a] (fun H => x_Hs G H ∧ va_at G.1 x_cl (a, .inr (0, [.int 0, .null, .int 0])) H)) (x_Q (fun r H H1 => r = none ∧ AL G a (x_t G) 0 0 (fun _ => none) H1 ∧ x_off (fun q => q = a) H H1)) 0 0 (fun q => q = a) := by
  refine x_wV (by decide +kernel) (Nat.le_of_ble_eq_true rfl) (fun p e s m args below meth c F hnm hK hP ls hl Q hret => ?_)
  have hl : lv_has ls 1 [(0, .ref a)] := hl
  obtain ⟨hZ, hT⟩ := hP
  have hS : va_S (fun q => q = a) s.heap s.heap [] := va_S.rf
  refine lv_aload_n F.1 F.2.1 d_AL_init_0 rfl (lv_at hl 0 rfl) ?_
  refine x_wr (x_I (n := 0) (As := []) F (c_AB_init l G a .null 0) ok_AB_init k30 ⟨Nat.le_of_ble_eq_true rfl, Nat.le_of_ble_eq_true rfl⟩ rfl rfl hK (hT) rfl hl.1 rfl (Nat.le_of_ble_eq_true rfl) d_AL_init_1 ⟨Nat.le_of_ble_eq_true rfl, Nat.le_of_ble_eq_true rfl⟩) hS (fun _ h => h) (fun _ _ h => h.2.2) (fun v H3 locs hpost hS => ?_)
  obtain ⟨rfl, hT, ho⟩ := hpost
  have hZ := hZ.keep ho n1 n2
  refine lv_aload_n F.1 F.2.1 d_AL_init_4 rfl (lv_at hl 0 rfl) ?_
  refine x_gets F hK hZ k37 d_AL_init_5 ?_
  refine x_put F hK hT rfl i_AL t_AL p_AL n_AL 1 (by decide) k39 rfl rfl rfl rfl (Nat.le_of_ble_eq_true rfl) hS rfl d_AL_init_8 (fun H4 locs hT hz4 ho4 hS => ?_)
  have hT : va_at G.1 x_cl (a, .inr (0, [.int 0, .ref (x_t G), .int 0])) H4 := hT
  exact hret _ _ _ _ _ _ d_AL_init_11 ⟨rfl, ⟨⟨0, hT⟩, Ne.symm n2, Or.inl ⟨rfl, rfl⟩, by decide⟩, hS.off⟩ hS.2.2 (Nat.le_refl _) (Nat.le_refl _)
theorem c_SU_newLength (l : Launch) (G : x_G) (x y z : Nat) (hx : x < 1000) (hy : y < 1000) (hz : z < 1000) (h0 : 0 < x) : Met l y_SU_newLength (x_ws y_SU_newLength b_SU_newLength 4 (some .int)) (x_rm 1 0 0) (x_P G [.int (nI x), .int (nI y), .int (nI z)] (fun _ => True)) (k2_QcV (.int (nI (x + max y z)))) 0 0 (fun _ => False) := by
  refine x_mI (by decide +kernel) (Nat.le_of_ble_eq_true rfl) (fun p e s m args below meth c F hK hP ls hl Q hret => ?_)
  have hl : lv_has ls 4 [(0, .int (nI x)), (1, .int (nI y)), (2, .int (nI z))] := hl
  have hm : max y z < 1000 := by omega
  refine lv_iload_n F.1 F.2.1 d_SU_newLength_0 rfl (lv_at hl 0 rfl) ?_
  refine lv_iload_n F.1 F.2.1 d_SU_newLength_1 rfl (lv_at hl 1 rfl) ?_
  refine lv_iload_n F.1 F.2.1 d_SU_newLength_2 rfl (lv_at hl 2 rfl) ?_
  refine x_rd (x_S (n := 2) (As := [.int (nI y), .int (nI z)]) F (c_MA_max l G y z (by omega) (by omega)) ok_MA_max k123 ⟨Nat.le_of_ble_eq_true rfl, Nat.le_of_ble_eq_true rfl⟩ rfl rfl hK (trivial) rfl hl.1 rfl (Nat.le_of_ble_eq_true rfl) d_SU_newLength_3 ⟨Nat.le_of_ble_eq_true rfl, Nat.le_of_ble_eq_true rfl⟩) ?_
  refine lv_iadd F.1 F.2.1 d_SU_newLength_6 ?_
  rw [nI_add]
  refine lv_istore_n (lv' := [(3, .int (nI (x + max y z))), (0, .int (nI x)), (1, .int (nI y)), (2, .int (nI z))]) F.1 F.2.1 d_SU_newLength_7 rfl hl (by decide) rfl (fun ls hl => ?_)
  refine lv_iconst (v := 0) F.1 F.2.1 d_SU_newLength_8 (by decide) ?_
  refine lv_iload_n F.1 F.2.1 d_SU_newLength_9 rfl (lv_at hl 0 rfl) ?_
  refine lv_icmp_ge (tgt := 21) F.1 F.2.1 d_SU_newLength_10 (by decide) (fun zq => absurd zq (pN_nle (a := (x + max y z)) (b := 0) rfl rfl (by omega) (by omega) (by omega))) (fun _ => ?_)
  refine lv_iload_n F.1 F.2.1 d_SU_newLength_13 rfl (lv_at hl 0 rfl) ?_
  refine x_ldc F k126 d_SU_newLength_14 ?_
  refine lv_icmp_gt (tgt := 21) F.1 F.2.1 d_SU_newLength_16 (by decide) (fun zq => absurd zq (pN_nlt (a := 2147483639) (b := x + max y z) rfl rfl (by omega) (by omega) (by omega))) (fun _ => ?_)
  refine lv_iload_n F.1 F.2.1 d_SU_newLength_19 rfl (lv_at hl 0 rfl) ?_
  exact hret _ _ _ d_SU_newLength_20 rfl
/-- the first n of es, then nothing -/
def cut (es : Nat → Option Nat) (n : Nat) : Nat → Option Nat := fun j => if j < n then es j else none
theorem c_AR_copyOf3 (l : Launch) (G : x_G) (d cap N : Nat) (es : Nat → Option Nat) (sz : Nat) (hc : cap < 1000) (hN : N < 1000) (hcN : cap ≤ N) : Met l y_AR_copyOf3 (x_ws y_AR_copyOf3 b_AR_copyOf3 4 (some (.array (.object "java/lang/Object")))) (x_rm 1 1 N) (x_P G [.ref d, .int (nI N), .ref (x_mi G)] (fun H => H.size = sz ∧ x_aq G d cap es H ∧ ∀ j, j < cap → ∀ y, es j = some y → isO G y H)) (x_Q (fun r H H1 => ∃ q, r = some (.ref q) ∧ sz ≤ q ∧ x_aq G q N (cut es cap) H1 ∧ x_off (fun _ => False) H H1)) 1 N (fun q => q = d ∨ sz ≤ q) := by
  refine x_wA (Or.inr ⟨_, rfl⟩) (by decide +kernel) (Nat.le_of_ble_eq_true rfl) (fun p e s m args below meth c F hK hP ls hl Q hret => ?_)
  have hl : lv_has ls 4 [(0, .ref d), (1, .int (nI N)), (2, .ref (x_mi G))] := hl
  obtain ⟨hsz, hM, hO⟩ := hP
  have hS : va_S (fun q => q = d ∨ sz ≤ q) s.heap s.heap [] := va_S.rf
  have hd : d < sz := by rw [← hsz]; exact hM.lt
  refine lv_aload_n F.1 F.2.1 d_AR_copyOf3_0 rfl (lv_at hl 2 rfl) ?_
  refine va_ldcM F.1 F.2.1 F.2.2.2.1 (F.2.2.2.2 _ k147) hK.2.2.2.2.1 d_AR_copyOf3_1 ?_
  refine lv_acmp_ne (rx := some (x_mi G)) (ry := some (x_mi G)) (tgt := 13) F.1 F.2.1 d_AR_copyOf3_3 (by decide) (fun z => absurd rfl z) (fun _ => ?_)
  refine lv_iload_n F.1 F.2.1 d_AR_copyOf3_6 rfl (lv_at hl 1 rfl) ?_
  refine x_newaQ (N := N) F hK k149 (by omega) (show 0 + 1 ≤ 1 by omega) (show 0 + N ≤ N by omega) hS d_AR_copyOf3_7 (fun q H1 hq hNw hz1 ho1 hS => ?_)
  have hqd : d ≠ q := by omega
  have hMo := hM
  have hM := va_at.kept hM (ho1 _ hM.lt)
  have hO1 : ∀ j, j < cap → ∀ y, es j = some y → isO G y H1 := fun j hj y hy => (hO j hj y hy).keep (ho1 _ (hO j hj y hy).lt)
  refine lv_goto (tgt := 24) F.1 F.2.1 d_AR_copyOf3_10 (by decide) ?_
  refine lv_astore_n (lv' := [(3, .ref q), (0, .ref d), (1, .int (nI N)), (2, .ref (x_mi G))]) F.1 F.2.1 d_AR_copyOf3_24 rfl hl (by decide) rfl (fun ls hl => ?_)
  refine lv_aload_n F.1 F.2.1 d_AR_copyOf3_25 rfl (lv_at hl 1 rfl) ?_
  refine lv_iconst (v := 0) F.1 F.2.1 d_AR_copyOf3_26 (by decide) ?_
  refine lv_aload_n F.1 F.2.1 d_AR_copyOf3_27 rfl (lv_at hl 0 rfl) ?_
  refine lv_iconst (v := 0) F.1 F.2.1 d_AR_copyOf3_28 (by decide) ?_
  refine lv_aload_n F.1 F.2.1 d_AR_copyOf3_29 rfl (lv_at hl 1 rfl) ?_
  refine x_alen F hK hM 3 rfl d_AR_copyOf3_30 ?_
  refine lv_iload_n F.1 F.2.1 d_AR_copyOf3_31 rfl (lv_at hl 2 rfl) ?_
  refine x_rd (x_S (n := 2) (As := [.int (nI cap), .int (nI N)]) F (c_MA_min l G cap N (by omega) (by omega)) ok_MA_min k150 ⟨Nat.le_of_ble_eq_true rfl, Nat.le_of_ble_eq_true rfl⟩ rfl rfl hK (trivial) rfl hl.1 rfl (Nat.le_of_ble_eq_true rfl) d_AR_copyOf3_32 ⟨Nat.le_refl _, show 0 + N + 0 ≤ N by omega⟩) ?_
  rw [Nat.min_eq_left hcN]
  have hP0 : va_P G.1 x_cl [(d, .inl (G.2.2.2.2, cap, .inr (.inr (.inr (.inr es))))), (q, .inl (G.2.2.2.2, N, .inr (.inr (.inr (.inr (fun _ => none))))))] H1 := x_two hM hNw
  have hD0 : va_D (fun z => z = d ∨ sz ≤ z) [(d, (.inl (G.2.2.2.2, cap, .inr (.inr (.inr (.inr es)))) : va_E)), (q, .inl (G.2.2.2.2, N, .inr (.inr (.inr (.inr (fun _ => none))))))] := by
    refine ⟨fun i j p r h1 h2 h3 => ?_, fun k z hk => ?_⟩
    · match i, j, h1, h2 with
      | 0, 0, _, _ => rfl
      | 1, 1, _, _ => rfl
      | 0, 1, h1, h2 => cases h1; cases h2; exact absurd h3 hqd
      | 1, 0, h1, h2 => cases h1; cases h2; exact absurd h3.symm hqd
      | i + 2, _, h1, _ => simp at h1
      | _, j + 2, _, h2 => simp at h2
    · match k, hk with
      | 0, hk => cases hk; exact Or.inl rfl
      | 1, hk => cases hk; exact Or.inr (by omega)
      | k + 2, hk => simp at hk
  have e0 : (0 : Int32).toNatClampNeg = 0 := by decide
  have ec : (nI cap).toNatClampNeg = cap := nI_clamp (by omega)
  refine va_copyM (q0 := 0) (q1 := 1) (t0 := 3) (t1 := 3) (E0 := "java/lang/Object") (E1 := "java/lang/Object") F.1 F.2.1 (F.2.2.1.trans hl.1.symm) F.2.2.2.1 (F.2.2.2.2 _ k153) (F.2.2.2.2 _ k155) (F.2.2.2.2 _ k154) (F.2.2.2.2 _ k11) hK.1 hP0 hD0 hS rfl rfl rfl rfl (by decide) (by decide) (nI_pos (by omega)) (by rw [e0, ec]; omega) (by rw [e0, ec]; omega) (fun i hi y hy => by rw [ec] at hi; rw [e0, Nat.zero_add] at hy; exact (hO1 i hi y hy).any hK) (Nat.le_of_ble_eq_true rfl) (Nat.le_of_ble_eq_true rfl) d_AR_copyOf3_35 (fun H2 locs2 hP2 hD2 hS => ?_)
  have hq2 : x_aq G q N (cut es cap) H2 := x_aq.cg (hP2 1 _ rfl) (fun j hj => by
    rw [e0, ec]
    unfold va_cpy cut
    by_cases h : j < cap
    · rw [if_pos (by omega), if_pos h]; congr 1; omega
    · rw [if_neg (by omega), if_neg h])
  have hd2 : x_aq G d cap es H2 := hP2 0 _ rfl
  refine lv_aload_n F.1 F.2.1 d_AR_copyOf3_38 rfl (lv_at hl 0 rfl) ?_
  refine hret _ _ _ _ _ _ _ d_AR_copyOf3_39 ⟨q, rfl, by omega, hq2, hS.1, fun z h1 h2 => ?_⟩ hS.2.2 (Nat.le_of_ble_eq_true rfl) (by omega)
  by_cases hzd : z = d
  · subst hzd
    exact Eq.trans hd2 hMo.symm
  · exact hS.2.1 z h1 (fun w => w.elim hzd (fun w => by omega))
theorem c_AR_copyOf2 (l : Launch) (G : x_G) (d cap N : Nat) (es : Nat → Option Nat) (sz : Nat) (hc : cap < 1000) (hN : N < 1000) (hcN : cap ≤ N) : Met l y_AR_copyOf2 (x_ws y_AR_copyOf2 b_AR_copyOf2 2 (some (.array (.object "java/lang/Object")))) (x_rm 2 1 N) (x_P G [.ref d, .int (nI N)] (fun H => H.size = sz ∧ x_aq G d cap es H ∧ ∀ j, j < cap → ∀ y, es j = some y → isO G y H)) (x_Q (fun r H H1 => ∃ q, r = some (.ref q) ∧ sz ≤ q ∧ x_aq G q N (cut es cap) H1 ∧ x_off (fun _ => False) H H1)) 1 N (fun q => q = d ∨ sz ≤ q) := by
  refine x_wA (Or.inr ⟨_, rfl⟩) (by decide +kernel) (Nat.le_of_ble_eq_true rfl) (fun p e s m args below meth c F hK hP ls hl Q hret => ?_)
  have hl : lv_has ls 2 [(0, .ref d), (1, .int (nI N))] := hl
  obtain ⟨hsz, hM, hO⟩ := id hP
  have hS : va_S (fun q => q = d ∨ sz ≤ q) s.heap s.heap [] := va_S.rf
  refine lv_aload_n F.1 F.2.1 d_AR_copyOf2_0 rfl (lv_at hl 0 rfl) ?_
  refine lv_iload_n F.1 F.2.1 d_AR_copyOf2_1 rfl (lv_at hl 1 rfl) ?_
  refine lv_aload_n F.1 F.2.1 d_AR_copyOf2_2 rfl (lv_at hl 0 rfl) ?_
  refine va_getC (C := "[Ljava/lang/Object;") F.1 F.2.1 (F.2.2.1.trans hl.1.symm) F.2.2.2.1 (F.2.2.2.2 _ k133) (va_Dc.use hK.2.2.2.1) (F.2.2.2.2 _ k689) (F.2.2.2.2 _ k134) (F.2.2.2.2 _ k143) hK.2.2.2.2.1 ⟨_, hM, rfl, va_nmO (hK.1.2 3 _ rfl).2 rfl⟩ (Nat.le_of_ble_eq_true rfl) (Nat.le_of_ble_eq_true rfl) d_AR_copyOf2_3 ?_
  refine x_wr (x_S (n := 3) (As := [.ref d, .int (nI N), .ref (x_mi G)]) F (c_AR_copyOf3 l G d cap N es sz hc hN hcN) ok_AR_copyOf3 k144 ⟨Nat.le_of_ble_eq_true rfl, Nat.le_of_ble_eq_true rfl⟩ rfl rfl hK (hP) rfl hl.1 rfl (Nat.le_of_ble_eq_true rfl) d_AR_copyOf2_6 ⟨show 0 + 1 ≤ 1 by omega, show 0 + N ≤ N by omega⟩) hS (fun _ h => h) (fun _ _ h => by obtain ⟨q, -, -, -, ho⟩ := h; exact ho.mono (fun _ z => z.elim)) (fun v H5 locs hpost hS => ?_)
  obtain ⟨q, rfl, h1, h2, h3⟩ := hpost
  exact hret _ _ _ _ _ _ _ d_AR_copyOf2_9 ⟨q, rfl, h1, h2, h3⟩ hS.2.2 (Nat.le_of_ble_eq_true rfl) (by omega)

