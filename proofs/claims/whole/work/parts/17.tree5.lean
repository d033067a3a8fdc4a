/-! ===== Tree: change ===== -/
def tMove (f : Nat → Int64) (a b : Nat) : Option (Nat → Int64) := match tCopy f a b with
  | none => none
  | some g => tRemove g a
def tStep (f : Nat → Int64) (st x y : Int32) : Option (Nat → Int64) :=
  if pj_legal x = true then
    if st = 0 then tWrite f x.toNatClampNeg y.toInt64
    else if st = 1 then tMake f x.toNatClampNeg
    else if st = 2 then tRemove f x.toNatClampNeg
    else if st = 3 then (if pj_legal y = true then tCopy f x.toNatClampNeg y.toNatClampNeg else none)
    else if st = 4 then (if pj_legal y = true then tMove f x.toNatClampNeg y.toNatClampNeg else none)
    else none
  else none
theorem x_sw5 (x : Int32) : x = 0 ∨ x = 1 ∨ x = 2 ∨ x = 3 ∨ x = 4 ∨ (x.toInt < 0 ∨ 4 < x.toInt) := by
  rcases pk_ix x (n := 5) (by decide) with h | h | ⟨j, h1, rfl⟩
  · exact Or.inr (Or.inr (Or.inr (Or.inr (Or.inr (Or.inl (by simpa using Int32.lt_iff_toInt_lt.mp h))))))
  · exact Or.inr (Or.inr (Or.inr (Or.inr (Or.inr (Or.inr (by have := Int32.le_iff_toInt_le.mp h; rw [nI_toInt (by decide)] at this; omega))))))
  · have : j = 0 ∨ j = 1 ∨ j = 2 ∨ j = 3 ∨ j = 4 := by omega
    rcases this with rfl | rfl | rfl | rfl | rfl
    · exact Or.inl rfl
    · exact Or.inr (Or.inl rfl)
    · exact Or.inr (Or.inr (Or.inl rfl))
    · exact Or.inr (Or.inr (Or.inr (Or.inl rfl)))
    · exact Or.inr (Or.inr (Or.inr (Or.inr (Or.inl rfl))))
theorem tMove_some {f : Nat → Int64} {a b : Nat} (hf : tOk f) (la : lg a = true) (lb : lg b = true) {g : Nat → Int64} (hg : tCopy f a b = some g) : tRemove g a = some (tWipe g a (en a)) := by
  unfold tCopy at hg
  by_cases hm : mayB f a b = true
  · rw [if_pos hm] at hg
    cases hg
    obtain ⟨h1, -, -, hco⟩ := mayB_ok hf la lb hm
    have h25 := lg_25 la
    obtain ⟨e1, e2⟩ := en_le a h25.2 la
    unfold tRemove
    rw [if_neg (by rw [tCp_src hco (Nat.le_refl _) (Nat.le_refl _) e1]; exact h1)]
  · rw [if_neg hm] at hg
    cases hg
theorem c_TR_change (l : Launch) (G : x_G) (a b : Nat) (f : Nat → Int64) (st x y : Int32) (hf : tOk f) : Met l y_TR_change (x_ws y_TR_change b_TR_change 4 (some .boolean)) (x_rm 5 0 0) (x_P G [.ref a, .int st, .int x, .int y] (TR G a b f)) (x_Q (TO G b f (tStep f st x y))) 0 0 (fun q => q = b) := by
  refine x_wZ (by decide +kernel) (Nat.le_of_ble_eq_true rfl) (fun p e s m args below meth c F hK hP ls hl Q hret => ?_)
  have hl : lv_has ls 4 [(0, .ref a), (1, .int st), (2, .int x), (3, .int y)] := hl
  obtain ⟨hT, hM, hab⟩ := id hP
  have hS : va_S (fun q => q = b) s.heap s.heap [] := va_S.rf
  refine lv_iload_n F.1 F.2.1 d_TR_change_0 rfl (lv_at hl 2 rfl) ?_
  refine x_rd (x_S (n := 1) (As := [.int x]) F (c_PA_isLegal l G x) ok_PA_isLegal k219 ⟨Nat.le_of_ble_eq_true rfl, Nat.le_of_ble_eq_true rfl⟩ rfl rfl hK (trivial) rfl hl.1 rfl (Nat.le_of_ble_eq_true rfl) d_TR_change_1 ⟨Nat.le_of_ble_eq_true rfl, Nat.le_of_ble_eq_true rfl⟩) ?_
  refine x_bne (tgt := 9) F d_TR_change_4 (by decide) (fun c4 => ?_) (fun c4 => ?_)
  · obtain ⟨i, hi, rfl, li⟩ := legal_of c4
    have hci : (nI i).toNatClampNeg = i := nI_clamp (by omega)
    unfold tStep at hret
    rw [if_pos c4, hci] at hret
    refine lv_iload_n F.1 F.2.1 d_TR_change_9 rfl (lv_at hl 1 rfl) ?_
    rcases x_sw5 st with rfl | rfl | rfl | rfl | rfl | hst
    · rw [if_pos rfl] at hret
      refine lv_tableIn (off := 34) (tgt := 44) F.1 F.2.1 d_TR_change_10 (by decide) (by decide) (by decide) (by decide) ?_
      refine lv_aload_n F.1 F.2.1 d_TR_change_44 rfl (lv_at hl 0 rfl) ?_
      refine lv_iload_n F.1 F.2.1 d_TR_change_45 rfl (lv_at hl 2 rfl) ?_
      refine lv_iload_n F.1 F.2.1 d_TR_change_46 rfl (lv_at hl 3 rfl) ?_
      refine x_wr (x_V (n := 2) (As := [.int (nI i), .int y]) F (c_TR_writeFile l G a b f i y hi) ok_TR_writeFile k222 ⟨Nat.le_of_ble_eq_true rfl, Nat.le_of_ble_eq_true rfl⟩ rfl rfl hK (x_rcv hK hT rfl) (hP) rfl hl.1 rfl (Nat.le_of_ble_eq_true rfl) d_TR_change_47 ⟨Nat.le_of_ble_eq_true rfl, Nat.le_of_ble_eq_true rfl⟩) hS (fun _ h => h) (fun _ _ h => h.2.2) (fun v H1 locs hpost hS => ?_)
      obtain ⟨rfl, hM, ho⟩ := hpost
      exact hret _ _ _ _ _ _ _ _ d_TR_change_50 rfl ⟨rfl, hM, hS.off⟩ hS.2.2 (Nat.le_refl _) (Nat.le_refl _)
    · rw [if_neg (by decide), if_pos rfl] at hret
      refine lv_tableIn (off := 41) (tgt := 51) F.1 F.2.1 d_TR_change_10 (by decide) (by decide) (by decide) (by decide) ?_
      refine lv_aload_n F.1 F.2.1 d_TR_change_51 rfl (lv_at hl 0 rfl) ?_
      refine lv_iload_n F.1 F.2.1 d_TR_change_52 rfl (lv_at hl 2 rfl) ?_
      refine x_wr (x_V (n := 1) (As := [.int (nI i)]) F (c_TR_makeDirectory l G a b f i hi) ok_TR_makeDirectory k244 ⟨Nat.le_of_ble_eq_true rfl, Nat.le_of_ble_eq_true rfl⟩ rfl rfl hK (x_rcv hK hT rfl) (hP) rfl hl.1 rfl (Nat.le_of_ble_eq_true rfl) d_TR_change_53 ⟨Nat.le_of_ble_eq_true rfl, Nat.le_of_ble_eq_true rfl⟩) hS (fun _ h => h) (fun _ _ h => h.2.2) (fun v H2 locs hpost hS => ?_)
      obtain ⟨rfl, hM, ho⟩ := hpost
      exact hret _ _ _ _ _ _ _ _ d_TR_change_56 rfl ⟨rfl, hM, hS.off⟩ hS.2.2 (Nat.le_refl _) (Nat.le_refl _)
    · rw [if_neg (by decide), if_neg (by decide), if_pos rfl] at hret
      refine lv_tableIn (off := 47) (tgt := 57) F.1 F.2.1 d_TR_change_10 (by decide) (by decide) (by decide) (by decide) ?_
      refine lv_aload_n F.1 F.2.1 d_TR_change_57 rfl (lv_at hl 0 rfl) ?_
      refine lv_iload_n F.1 F.2.1 d_TR_change_58 rfl (lv_at hl 2 rfl) ?_
      refine x_wr (x_V (n := 1) (As := [.int (nI i)]) F (c_TR_removeAll l G a b f i hi li) ok_TR_removeAll k248 ⟨Nat.le_of_ble_eq_true rfl, Nat.le_of_ble_eq_true rfl⟩ rfl rfl hK (x_rcv hK hT rfl) (hP) rfl hl.1 rfl (Nat.le_of_ble_eq_true rfl) d_TR_change_59 ⟨Nat.le_of_ble_eq_true rfl, Nat.le_of_ble_eq_true rfl⟩) hS (fun _ h => h) (fun _ _ h => h.2.2) (fun v H3 locs hpost hS => ?_)
      obtain ⟨rfl, hM, ho⟩ := hpost
      exact hret _ _ _ _ _ _ _ _ d_TR_change_62 rfl ⟨rfl, hM, hS.off⟩ hS.2.2 (Nat.le_refl _) (Nat.le_refl _)
    · rw [if_neg (by decide), if_neg (by decide), if_neg (by decide), if_pos rfl] at hret
      refine lv_tableIn (off := 53) (tgt := 63) F.1 F.2.1 d_TR_change_10 (by decide) (by decide) (by decide) (by decide) ?_
      cases hy : pj_legal y with
      | true =>
        obtain ⟨j, hj, rfl, lj⟩ := legal_of hy
        rw [if_pos hy, show (nI j).toNatClampNeg = j from nI_clamp (by omega)] at hret
        refine lv_aload_n F.1 F.2.1 d_TR_change_63 rfl (lv_at hl 0 rfl) ?_
        refine lv_iload_n F.1 F.2.1 d_TR_change_64 rfl (lv_at hl 2 rfl) ?_
        refine lv_iload_n F.1 F.2.1 d_TR_change_65 rfl (lv_at hl 3 rfl) ?_
        refine x_wr (x_V (n := 2) (As := [.int (nI i), .int (nI j)]) F (c_TR_copyAll l G a b f i j hi hj li lj hf) ok_TR_copyAll k255 ⟨Nat.le_of_ble_eq_true rfl, Nat.le_of_ble_eq_true rfl⟩ rfl rfl hK (x_rcv hK hT rfl) (hP) rfl hl.1 rfl (Nat.le_of_ble_eq_true rfl) d_TR_change_66 ⟨Nat.le_of_ble_eq_true rfl, Nat.le_of_ble_eq_true rfl⟩) hS (fun _ h => h) (fun _ _ h => h.2.2) (fun v H4 locs hpost hS => ?_)
        obtain ⟨rfl, hM, ho⟩ := hpost
        exact hret _ _ _ _ _ _ _ _ d_TR_change_69 rfl ⟨rfl, hM, hS.off⟩ hS.2.2 (Nat.le_refl _) (Nat.le_refl _)
      | false =>
        rw [if_neg (by rw [hy]; decide)] at hret
        refine lv_aload_n F.1 F.2.1 d_TR_change_63 rfl (lv_at hl 0 rfl) ?_
        refine lv_iload_n F.1 F.2.1 d_TR_change_64 rfl (lv_at hl 2 rfl) ?_
        refine lv_iload_n F.1 F.2.1 d_TR_change_65 rfl (lv_at hl 3 rfl) ?_
        refine x_wr (x_V (n := 2) (As := [.int (nI i), .int y]) F (c_TR_copyAll_bad l G a b f i y hy) ok_TR_copyAll k255 ⟨Nat.le_of_ble_eq_true rfl, Nat.le_of_ble_eq_true rfl⟩ rfl rfl hK (x_rcv hK hT rfl) (hP) rfl hl.1 rfl (Nat.le_of_ble_eq_true rfl) d_TR_change_66 ⟨Nat.le_of_ble_eq_true rfl, Nat.le_of_ble_eq_true rfl⟩) hS (fun _ h => h) (fun _ _ h => h.2.2) (fun v H5 locs hpost hS => ?_)
        obtain ⟨rfl, hM, ho⟩ := hpost
        exact hret _ _ _ _ _ _ _ _ d_TR_change_69 rfl ⟨rfl, hM, hS.off⟩ hS.2.2 (Nat.le_refl _) (Nat.le_refl _)
    · rw [if_neg (by decide), if_neg (by decide), if_neg (by decide), if_neg (by decide), if_pos rfl] at hret
      refine lv_tableIn (off := 60) (tgt := 70) F.1 F.2.1 d_TR_change_10 (by decide) (by decide) (by decide) (by decide) ?_
      cases hy : pj_legal y with
      | true =>
        obtain ⟨j, hj, rfl, lj⟩ := legal_of hy
        rw [if_pos hy, show (nI j).toNatClampNeg = j from nI_clamp (by omega)] at hret
        refine lv_aload_n F.1 F.2.1 d_TR_change_70 rfl (lv_at hl 0 rfl) ?_
        refine lv_iload_n F.1 F.2.1 d_TR_change_71 rfl (lv_at hl 2 rfl) ?_
        refine lv_iload_n F.1 F.2.1 d_TR_change_72 rfl (lv_at hl 3 rfl) ?_
        refine x_wr (x_V (n := 2) (As := [.int (nI i), .int (nI j)]) F (c_TR_copyAll l G a b f i j hi hj li lj hf) ok_TR_copyAll k255 ⟨Nat.le_of_ble_eq_true rfl, Nat.le_of_ble_eq_true rfl⟩ rfl rfl hK (x_rcv hK hT rfl) (hP) rfl hl.1 rfl (Nat.le_of_ble_eq_true rfl) d_TR_change_73 ⟨Nat.le_of_ble_eq_true rfl, Nat.le_of_ble_eq_true rfl⟩) hS (fun _ h => h) (fun _ _ h => h.2.2) (fun v H6 locs hpost hS => ?_)
        obtain ⟨rfl, hM, ho⟩ := hpost
        unfold tMove at hret
        cases hg : tCopy f i j with
        | none =>
          rw [hg] at hM hret
          refine x_beq (tgt := 91) F d_TR_change_76 (by decide) (fun _ => ?_) (fun zq => absurd zq ((by decide)))
          refine lv_iconst (v := 0) F.1 F.2.1 d_TR_change_91 (by decide) ?_
          exact hret _ _ _ false _ _ _ _ d_TR_change_92 rfl ⟨rfl, hM, hS.off⟩ hS.2.2 (Nat.le_refl _) (Nat.le_refl _)
        | some g =>
          rw [hg] at hM hret
          have hT := x_keep hT ho hab
          have hrm := tMove_some hf li lj hg
          refine x_beq (tgt := 91) F d_TR_change_76 (by decide) (fun zq => absurd zq (by simp)) (fun _ => ?_)
          refine lv_aload_n F.1 F.2.1 d_TR_change_79 rfl (lv_at hl 0 rfl) ?_
          refine lv_iload_n F.1 F.2.1 d_TR_change_80 rfl (lv_at hl 2 rfl) ?_
          refine x_wr (x_V (n := 1) (As := [.int (nI i)]) F (c_TR_removeAll l G a b g i hi li) ok_TR_removeAll k248 ⟨Nat.le_of_ble_eq_true rfl, Nat.le_of_ble_eq_true rfl⟩ rfl rfl hK (x_rcv hK hT rfl) (⟨hT, hM, hab⟩) rfl hl.1 rfl (Nat.le_of_ble_eq_true rfl) d_TR_change_81 ⟨Nat.le_of_ble_eq_true rfl, Nat.le_of_ble_eq_true rfl⟩) hS (fun _ h => h) (fun _ _ h => h.2.2) (fun v H7 locs hpost hS => ?_)
          obtain ⟨rfl, hM, ho⟩ := hpost
          rw [hrm] at hM
          simp only [hrm] at hret ⊢
          refine x_beq (tgt := 91) F d_TR_change_84 (by decide) (fun zq => absurd zq (by simp)) (fun _ => ?_)
          refine lv_iconst (v := 1) F.1 F.2.1 d_TR_change_87 (by decide) ?_
          refine lv_goto (tgt := 92) F.1 F.2.1 d_TR_change_88 (by decide) ?_
          exact hret _ _ _ true _ _ _ _ d_TR_change_92 rfl ⟨rfl, hM, hS.off⟩ hS.2.2 (Nat.le_refl _) (Nat.le_refl _)
      | false =>
        rw [if_neg (by rw [hy]; decide)] at hret
        refine lv_aload_n F.1 F.2.1 d_TR_change_70 rfl (lv_at hl 0 rfl) ?_
        refine lv_iload_n F.1 F.2.1 d_TR_change_71 rfl (lv_at hl 2 rfl) ?_
        refine lv_iload_n F.1 F.2.1 d_TR_change_72 rfl (lv_at hl 3 rfl) ?_
        refine x_wr (x_V (n := 2) (As := [.int (nI i), .int y]) F (c_TR_copyAll_bad l G a b f i y hy) ok_TR_copyAll k255 ⟨Nat.le_of_ble_eq_true rfl, Nat.le_of_ble_eq_true rfl⟩ rfl rfl hK (x_rcv hK hT rfl) (hP) rfl hl.1 rfl (Nat.le_of_ble_eq_true rfl) d_TR_change_73 ⟨Nat.le_of_ble_eq_true rfl, Nat.le_of_ble_eq_true rfl⟩) hS (fun _ h => h) (fun _ _ h => h.2.2) (fun v H8 locs hpost hS => ?_)
        obtain ⟨rfl, hM, ho⟩ := hpost
        refine x_beq (tgt := 91) F d_TR_change_76 (by decide) (fun _ => ?_) (fun zq => absurd zq ((by decide)))
        refine lv_iconst (v := 0) F.1 F.2.1 d_TR_change_91 (by decide) ?_
        exact hret _ _ _ false _ _ _ _ d_TR_change_92 rfl ⟨rfl, hM, hS.off⟩ hS.2.2 (Nat.le_refl _) (Nat.le_refl _)
    · rw [if_neg (by rintro rfl; revert hst; decide), if_neg (by rintro rfl; revert hst; decide), if_neg (by rintro rfl; revert hst; decide), if_neg (by rintro rfl; revert hst; decide), if_neg (by rintro rfl; revert hst; decide)] at hret
      refine lv_tableOut (tgt := 93) F.1 F.2.1 d_TR_change_10 hst (by decide) ?_
      refine lv_iconst (v := 0) F.1 F.2.1 d_TR_change_93 (by decide) ?_
      exact hret _ _ _ false _ _ _ _ d_TR_change_94 rfl ⟨rfl, hM, hS.off⟩ hS.2.2 (Nat.le_refl _) (Nat.le_refl _)
  · refine lv_iconst (v := 0) F.1 F.2.1 d_TR_change_7 (by decide) ?_
    exact hret _ _ _ false _ _ _ _ d_TR_change_8 rfl (by unfold tStep; rw [if_neg (by rw [c4]; decide)]; exact ⟨rfl, hM, hS.off⟩) hS.2.2 (Nat.le_refl _) (Nat.le_refl _)

