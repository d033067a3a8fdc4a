/-! ===== the model: change, image, build, flatten ===== -/
theorem c_MO_change (l : Launch) (G : x_G) (ad : Nat → Nat) (σ : Sg) (f : Nat → Int64) (ch : Nat → Bool) (st y : Int32) (i : Nat) (hi : i < 125) (li : lg i = true) (hst : st = 0 ∨ st = 1 ∨ st = 2 ∨ ((st = 3 ∨ st = 4) ∧ pj_legal y = true)) (hf : tOk f) : Met l y_MO_change (x_ws y_MO_change b_MO_change 4 (some .boolean)) (x_rm 3 0 0) (x_P G [.ref (ad 0), .int st, .int (nI i), .int y] (MO G ad σ f ch)) (x_Q (MS G ad σ f ch (tStep f st (nI i) y))) 0 0 (mA ad) := by
  refine x_wZ (by decide +kernel) (Nat.le_of_ble_eq_true rfl) (fun p e s m args below meth c F hK hP ls hl Q hret => ?_)
  have hl : lv_has ls 4 [(0, .ref (ad 0)), (1, .int st), (2, .int (nI i)), (3, .int y)] := hl
  have hS : va_S (mA ad) s.heap s.heap [] := va_S.rf
  obtain ⟨hO, hp, ht, hh, hg, hw, hc, hj⟩ := id hP
  have hci : (nI i).toNatClampNeg = i := nI_clamp (by omega)
  have hf0 := hf.1
  unfold tStep at hret
  rw [if_pos (by rw [pj_legal_n i hi]; exact li), hci] at hret
  have no : ∀ (o : Option (Nat → Int64)), (∀ (pc : Nat) (ls' : Array Slot) (v : Int32) (b : Bool) (H : Heap) (locs : List Loc) (cells slots : Nat), decode b_MO_change pc = .ok (.ireturn, 1) → v = x_b b → MS G ad σ f ch o (some (.int (x_b b))) s.heap H → (∀ q ∈ locs, mA ad q.base) → cells ≤ 0 → slots ≤ 0 → W p l e (x_rm 3 0 0) s m args below meth c H locs cells slots Q (F0 m pc ls' [.int v])) → o = none → ∀ (pc : Nat) (ls : Array Slot), decode b_MO_change pc = .ok (.ireturn, 1) → W p l e (x_rm 3 0 0) s m args below meth c s.heap [] 0 0 Q (F0 m pc ls [.int 0]) := fun o hr e pc ls hd => hr _ _ _ false _ _ _ _ hd rfl (by rw [e]; exact ⟨rfl, hP, hS.off⟩) hS.2.2 (Nat.le_refl _) (Nat.le_refl _)
  refine lv_iload_n F.1 F.2.1 d_MO_change_0 rfl (lv_at hl 1 rfl) ?_
  rcases hst with rfl | rfl | rfl | ⟨rfl | rfl, hy⟩
  · rw [if_pos rfl] at hret
    refine lv_tableIn (off := 31) (tgt := 32) F.1 F.2.1 d_MO_change_1 (by decide) (by decide) (by decide) (by decide) ?_
    refine lv_aload_n F.1 F.2.1 d_MO_change_32 rfl (lv_at hl 0 rfl) ?_
    refine lv_iload_n F.1 F.2.1 d_MO_change_33 rfl (lv_at hl 2 rfl) ?_
    refine x_rd (x_V (n := 1) (As := [.int (nI i)]) F (c_MO_underFile l G ad σ f ch i hi li hf0) ok_MO_underFile k527 ⟨Nat.le_of_ble_eq_true rfl, Nat.le_of_ble_eq_true rfl⟩ rfl rfl hK (x_rcv hK hO rfl) (hP) rfl hl.1 rfl (Nat.le_of_ble_eq_true rfl) d_MO_change_34 ⟨Nat.le_of_ble_eq_true rfl, Nat.le_of_ble_eq_true rfl⟩) ?_
    refine x_bne (tgt := 67) F d_MO_change_37 (by decide) (fun c37 => ?_) (fun c37 => ?_)
    · refine lv_iconst (v := 0) F.1 F.2.1 d_MO_change_67 (by decide) ?_
      exact no _ hret (by unfold tWrite; rw [if_pos (Or.inr c37)]) _ _ d_MO_change_68
    · refine lv_aload_n F.1 F.2.1 d_MO_change_40 rfl (lv_at hl 0 rfl) ?_
      refine x_get F hK hO rfl i_MO 5 (by decide) k484 rfl rfl d_MO_change_41 ?_
      refine lv_iload_n F.1 F.2.1 d_MO_change_44 rfl (lv_at hl 2 rfl) ?_
      refine x_laldN F hK hw (by decide) (by omega) d_MO_change_45 ?_
      refine x_cst F k477 d_MO_change_46 ?_
      refine x_leq (tgt := 67) F d_MO_change_49 d_MO_change_50 (by decide) (fun c49 => ?_) (fun c49 => ?_)
      · refine lv_iconst (v := 0) F.1 F.2.1 d_MO_change_67 (by decide) ?_
        exact no _ hret (by unfold tWrite; rw [if_pos (Or.inl c49)]) _ _ d_MO_change_68
      · refine lv_aload_n F.1 F.2.1 d_MO_change_53 rfl (lv_at hl 0 rfl) ?_
        refine lv_iload_n F.1 F.2.1 d_MO_change_54 rfl (lv_at hl 2 rfl) ?_
        refine lv_iload_n F.1 F.2.1 d_MO_change_55 rfl (lv_at hl 3 rfl) ?_
        refine lv_i2l (v := y.toInt64) F.1 F.2.1 d_MO_change_56 rfl ?_
        refine x_wr (x_V (n := 2) (As := [.int (nI i), .long y.toInt64]) F (c_MO_raise l G ad σ f ch i y.toInt64 hi li hf0) ok_MO_raise k540 ⟨Nat.le_of_ble_eq_true rfl, Nat.le_of_ble_eq_true rfl⟩ rfl rfl hK (x_rcv hK hO rfl) (hP) rfl hl.1 rfl (Nat.le_of_ble_eq_true rfl) d_MO_change_57 ⟨Nat.le_of_ble_eq_true rfl, Nat.le_of_ble_eq_true rfl⟩) hS (fun _ h => h) (fun _ _ h => h.2.2) (fun v H1 locs hpost hS => ?_)
        obtain ⟨rfl, hP2, ho⟩ := hpost
        refine x_beq (tgt := 67) F d_MO_change_60 (by decide) (fun zq => absurd zq (by decide)) (fun _ => ?_)
        refine lv_iconst (v := 1) F.1 F.2.1 d_MO_change_63 (by decide) ?_
        refine lv_goto (tgt := 68) F.1 F.2.1 d_MO_change_64 (by decide) ?_
        exact hret _ _ _ true _ _ _ _ d_MO_change_68 rfl (by unfold tWrite; rw [if_neg (by rintro (h | h); exact c49 h; rw [c37] at h; cases h)]; exact ⟨rfl, hP2, hS.off⟩) hS.2.2 (Nat.le_refl _) (Nat.le_refl _)
  · rw [if_neg (by decide), if_pos rfl] at hret
    refine lv_tableIn (off := 68) (tgt := 69) F.1 F.2.1 d_MO_change_1 (by decide) (by decide) (by decide) (by decide) ?_
    refine lv_aload_n F.1 F.2.1 d_MO_change_69 rfl (lv_at hl 0 rfl) ?_
    refine lv_iload_n F.1 F.2.1 d_MO_change_70 rfl (lv_at hl 2 rfl) ?_
    refine x_rd (x_V (n := 1) (As := [.int (nI i)]) F (c_MO_underFile l G ad σ f ch i hi li hf0) ok_MO_underFile k527 ⟨Nat.le_of_ble_eq_true rfl, Nat.le_of_ble_eq_true rfl⟩ rfl rfl hK (x_rcv hK hO rfl) (hP) rfl hl.1 rfl (Nat.le_of_ble_eq_true rfl) d_MO_change_71 ⟨Nat.le_of_ble_eq_true rfl, Nat.le_of_ble_eq_true rfl⟩) ?_
    refine x_bne (tgt := 104) F d_MO_change_74 (by decide) (fun c37 => ?_) (fun c37 => ?_)
    · refine lv_iconst (v := 0) F.1 F.2.1 d_MO_change_104 (by decide) ?_
      exact no _ hret (by unfold tMake; rw [if_pos (Or.inr c37)]) _ _ d_MO_change_105
    · refine lv_aload_n F.1 F.2.1 d_MO_change_77 rfl (lv_at hl 0 rfl) ?_
      refine x_get F hK hO rfl i_MO 5 (by decide) k484 rfl rfl d_MO_change_78 ?_
      refine lv_iload_n F.1 F.2.1 d_MO_change_81 rfl (lv_at hl 2 rfl) ?_
      refine x_laldN F hK hw (by decide) (by omega) d_MO_change_82 ?_
      refine x_rd (x_S (n := 1) (As := [.long (f i)]) F (c_MO_file l G (f i)) ok_MO_file k537 ⟨Nat.le_of_ble_eq_true rfl, Nat.le_of_ble_eq_true rfl⟩ rfl rfl hK (trivial) rfl hl.1 rfl (Nat.le_of_ble_eq_true rfl) d_MO_change_83 ⟨Nat.le_of_ble_eq_true rfl, Nat.le_of_ble_eq_true rfl⟩) ?_
      refine x_bne (tgt := 104) F d_MO_change_86 (by decide) (fun c49 => ?_) (fun c49 => ?_)
      · refine lv_iconst (v := 0) F.1 F.2.1 d_MO_change_104 (by decide) ?_
        exact no _ hret (by unfold tMake; rw [if_pos (Or.inl c49)]) _ _ d_MO_change_105
      · refine lv_aload_n F.1 F.2.1 d_MO_change_89 rfl (lv_at hl 0 rfl) ?_
        refine lv_iload_n F.1 F.2.1 d_MO_change_90 rfl (lv_at hl 2 rfl) ?_
        refine x_cst F k477 d_MO_change_91 ?_
        refine x_wr (x_V (n := 2) (As := [.int (nI i), .long 10000000001]) F (c_MO_raise l G ad σ f ch i wDIR hi li hf0) ok_MO_raise k540 ⟨Nat.le_of_ble_eq_true rfl, Nat.le_of_ble_eq_true rfl⟩ rfl rfl hK (x_rcv hK hO rfl) (hP) rfl hl.1 rfl (Nat.le_of_ble_eq_true rfl) d_MO_change_94 ⟨Nat.le_of_ble_eq_true rfl, Nat.le_of_ble_eq_true rfl⟩) hS (fun _ h => h) (fun _ _ h => h.2.2) (fun v H2 locs hpost hS => ?_)
        obtain ⟨rfl, hP2, ho⟩ := hpost
        refine x_beq (tgt := 104) F d_MO_change_97 (by decide) (fun zq => absurd zq (by decide)) (fun _ => ?_)
        refine lv_iconst (v := 1) F.1 F.2.1 d_MO_change_100 (by decide) ?_
        refine lv_goto (tgt := 105) F.1 F.2.1 d_MO_change_101 (by decide) ?_
        exact hret _ _ _ true _ _ _ _ d_MO_change_105 rfl (by unfold tMake; rw [if_neg (by rintro (h | h); rw [c49] at h; cases h; rw [c37] at h; cases h)]; exact ⟨rfl, hP2, hS.off⟩) hS.2.2 (Nat.le_refl _) (Nat.le_refl _)
  · rw [if_neg (by decide), if_neg (by decide), if_pos rfl] at hret
    refine lv_tableIn (off := 105) (tgt := 106) F.1 F.2.1 d_MO_change_1 (by decide) (by decide) (by decide) (by decide) ?_
    refine lv_aload_n F.1 F.2.1 d_MO_change_106 rfl (lv_at hl 0 rfl) ?_
    refine x_get F hK hO rfl i_MO 5 (by decide) k484 rfl rfl d_MO_change_107 ?_
    refine lv_iload_n F.1 F.2.1 d_MO_change_110 rfl (lv_at hl 2 rfl) ?_
    refine x_laldN F hK hw (by decide) (by omega) d_MO_change_111 ?_
    refine x_cst F k478 d_MO_change_112 ?_
    refine x_leq (tgt := 131) F d_MO_change_115 d_MO_change_116 (by decide) (fun c115 => ?_) (fun c115 => ?_)
    · refine lv_iconst (v := 0) F.1 F.2.1 d_MO_change_131 (by decide) ?_
      exact no _ hret (by unfold tRemove; rw [if_pos c115]) _ _ d_MO_change_132
    · refine lv_aload_n F.1 F.2.1 d_MO_change_119 rfl (lv_at hl 0 rfl) ?_
      refine lv_iload_n F.1 F.2.1 d_MO_change_120 rfl (lv_at hl 2 rfl) ?_
      refine x_wr (x_V (n := 1) (As := [.int (nI i)]) F (c_MO_wipe l G ad σ f ch i hi li (fun q q1 q2 q3 => (hf.2 q q1 q2 q3).1)) ok_MO_wipe k544 ⟨Nat.le_of_ble_eq_true rfl, Nat.le_of_ble_eq_true rfl⟩ rfl rfl hK (x_rcv hK hO rfl) (hP) rfl hl.1 rfl (Nat.le_of_ble_eq_true rfl) d_MO_change_121 ⟨Nat.le_of_ble_eq_true rfl, Nat.le_of_ble_eq_true rfl⟩) hS (fun _ h => h) (fun _ _ h => h.2.2) (fun v H3 locs hpost hS => ?_)
      obtain ⟨rfl, hP2, ho⟩ := hpost
      refine x_beq (tgt := 131) F d_MO_change_124 (by decide) (fun zq => absurd zq (by decide)) (fun _ => ?_)
      refine lv_iconst (v := 1) F.1 F.2.1 d_MO_change_127 (by decide) ?_
      refine lv_goto (tgt := 132) F.1 F.2.1 d_MO_change_128 (by decide) ?_
      exact hret _ _ _ true _ _ _ _ d_MO_change_132 rfl (by unfold tRemove; rw [if_neg c115]; exact ⟨rfl, hP2, hS.off⟩) hS.2.2 (Nat.le_refl _) (Nat.le_refl _)
  · obtain ⟨j, hj5, rfl, lj⟩ := legal_of hy
    rw [if_neg (by decide), if_neg (by decide), if_neg (by decide), if_pos rfl, if_pos hy, show (nI j).toNatClampNeg = j from nI_clamp (by omega)] at hret
    refine lv_tableIn (off := 132) (tgt := 133) F.1 F.2.1 d_MO_change_1 (by decide) (by decide) (by decide) (by decide) ?_
    refine lv_aload_n F.1 F.2.1 d_MO_change_133 rfl (lv_at hl 0 rfl) ?_
    refine lv_iload_n F.1 F.2.1 d_MO_change_134 rfl (lv_at hl 2 rfl) ?_
    refine lv_iload_n F.1 F.2.1 d_MO_change_135 rfl (lv_at hl 3 rfl) ?_
    refine x_wr (x_V (n := 2) (As := [.int (nI i), .int (nI j)]) F (c_MO_copy l G ad σ f ch i j hi hj5 li lj hf) ok_MO_copy k551 ⟨Nat.le_of_ble_eq_true rfl, Nat.le_of_ble_eq_true rfl⟩ rfl rfl hK (x_rcv hK hO rfl) (hP) rfl hl.1 rfl (Nat.le_of_ble_eq_true rfl) d_MO_change_136 ⟨Nat.le_of_ble_eq_true rfl, Nat.le_of_ble_eq_true rfl⟩) hS (fun _ h => h) (fun _ _ h => h.2.2) (fun v H4 locs hpost hS => ?_)
    obtain ⟨rfl, hP2, ho⟩ := hpost
    exact hret _ _ _ _ _ _ _ _ d_MO_change_139 rfl ⟨rfl, hP2, hS.off⟩ hS.2.2 (Nat.le_refl _) (Nat.le_refl _)
  · obtain ⟨j, hj5, rfl, lj⟩ := legal_of hy
    rw [if_neg (by decide), if_neg (by decide), if_neg (by decide), if_neg (by decide), if_pos rfl, if_pos hy, show (nI j).toNatClampNeg = j from nI_clamp (by omega)] at hret
    refine lv_tableOut (tgt := 140) F.1 F.2.1 d_MO_change_1 (by decide) (by decide) ?_
    refine lv_aload_n F.1 F.2.1 d_MO_change_140 rfl (lv_at hl 0 rfl) ?_
    refine lv_iload_n F.1 F.2.1 d_MO_change_141 rfl (lv_at hl 2 rfl) ?_
    refine lv_iload_n F.1 F.2.1 d_MO_change_142 rfl (lv_at hl 3 rfl) ?_
    refine x_wr (x_V (n := 2) (As := [.int (nI i), .int (nI j)]) F (c_MO_copy l G ad σ f ch i j hi hj5 li lj hf) ok_MO_copy k551 ⟨Nat.le_of_ble_eq_true rfl, Nat.le_of_ble_eq_true rfl⟩ rfl rfl hK (x_rcv hK hO rfl) (hP) rfl hl.1 rfl (Nat.le_of_ble_eq_true rfl) d_MO_change_143 ⟨Nat.le_of_ble_eq_true rfl, Nat.le_of_ble_eq_true rfl⟩) hS (fun _ h => h) (fun _ _ h => h.2.2) (fun v H5 locs hpost hS => ?_)
    obtain ⟨rfl, hP2, ho⟩ := hpost
    unfold tMove at hret
    cases hgc : tCopy f i j with
    | none =>
      rw [hgc] at hP2 hret
      refine x_beq (tgt := 161) F d_MO_change_146 (by decide) (fun _ => ?_) (fun zq => absurd zq ((by decide)))
      refine lv_iconst (v := 0) F.1 F.2.1 d_MO_change_161 (by decide) ?_
      exact hret _ _ _ false _ _ _ _ d_MO_change_162 rfl ⟨rfl, hP2, hS.off⟩ hS.2.2 (Nat.le_refl _) (Nat.le_refl _)
    | some g =>
      rw [hgc] at hP2 hret
      have hrm := tMove_some hf li lj hgc
      have hgl : ∀ q, 0 < q → q < 125 → g q ≠ wABS → lg q = true := by
        intro q q1 q2 q3
        unfold tCopy at hgc
        by_cases hm : mayB f i j = true
        · rw [if_pos hm] at hgc
          cases hgc
          obtain ⟨-, -, -, hco⟩ := mayB_ok hf li lj hm
          unfold tCp at q3
          by_cases hu : i ≤ uw q i j ∧ uw q i j < en i ∧ wp (uw q i j) i j = q ∧ j ≤ q ∧ f (uw q i j) ≠ wABS
          · obtain ⟨u1, u2, u3, u4, u5⟩ := hu
            have := pj_put_n hi hj5 li lj u1 u2 (hco.2.2.2.2.2 _ u1 u2 u5).1 (hco.2.2.2.2.2 _ u1 u2 u5).2
            rw [u3] at this
            exact this.2.2
          · rw [if_neg hu] at q3
            exact (hf.2 q q1 q2 q3).1
        · rw [if_neg hm] at hgc; cases hgc
      have hO := hP2.1
      refine x_beq (tgt := 161) F d_MO_change_146 (by decide) (fun zq => absurd zq (by simp)) (fun _ => ?_)
      refine lv_aload_n F.1 F.2.1 d_MO_change_149 rfl (lv_at hl 0 rfl) ?_
      refine lv_iload_n F.1 F.2.1 d_MO_change_150 rfl (lv_at hl 2 rfl) ?_
      refine x_wr (x_V (n := 1) (As := [.int (nI i)]) F (c_MO_wipe l G ad σ g ch i hi li hgl) ok_MO_wipe k544 ⟨Nat.le_of_ble_eq_true rfl, Nat.le_of_ble_eq_true rfl⟩ rfl rfl hK (x_rcv hK hO rfl) (hP2) rfl hl.1 rfl (Nat.le_of_ble_eq_true rfl) d_MO_change_151 ⟨Nat.le_of_ble_eq_true rfl, Nat.le_of_ble_eq_true rfl⟩) hS (fun _ h => h) (fun _ _ h => h.2.2) (fun v H6 locs hpost hS => ?_)
      obtain ⟨rfl, hP2, ho⟩ := hpost
      simp only [hrm] at hret
      refine x_beq (tgt := 161) F d_MO_change_154 (by decide) (fun zq => absurd zq (by decide)) (fun _ => ?_)
      refine lv_iconst (v := 1) F.1 F.2.1 d_MO_change_157 (by decide) ?_
      refine lv_goto (tgt := 162) F.1 F.2.1 d_MO_change_158 (by decide) ?_
      exact hret _ _ _ true _ _ _ _ d_MO_change_162 rfl ⟨rfl, hP2, hS.off⟩ hS.2.2 (Nat.le_refl _) (Nat.le_refl _)
/-- the first image from k on with this parent and tree -/
def fnd (σ : Sg) (f : Nat → Int64) (o : Nat) : Nat → Nat → Option Nat
  | 0, _ => none
  | m + 1, k => if gp σ k = o ∧ tEq f (gt σ k) = true then some k else fnd σ f o m (k + 1)
def newS (σ : Sg) (f : Nat → Int64) (o : Nat) : Sg := (gn σ + 1, va_up (gp σ) (gn σ) o, va_up (gt σ) (gn σ) f, gh σ, gg σ, ga σ)
/-- the image with parent o and tree f: the answer, the state behind -/
def imgS (σ : Sg) (f : Nat → Int64) (o : Nat) : Int32 × Sg :=
  if tEq f (gt σ o) = true then (nI o, ansS σ o)
  else match fnd σ f o (gn σ - 1) 1 with
    | some i => (nI i, ansS σ i)
    | none => if gn σ = 40 then (-2, σ) else (nI (gn σ), ansS (newS σ f o) (gn σ))
theorem fnd_lt {σ : Sg} {f : Nat → Int64} {o : Nat} : ∀ m k i, fnd σ f o m k = some i → k ≤ i ∧ i < k + m := by
  intro m
  induction m with
  | zero => intro k i h; cases h
  | succ m ih =>
    intro k i h
    unfold fnd at h
    split at h
    · cases h; omega
    · have := ih (k + 1) i h; omega
def tPart (σ : Sg) (f : Nat → Int64) (k : Nat) : Nat → Int64 := fun x => if 125 * gn σ ≤ x ∧ x < 125 * gn σ + k then f (x - 125 * gn σ) else mT σ x
theorem tPart_s (σ : Sg) (f : Nat → Int64) (k : Nat) : vp_updL (tPart σ f k) (125 * gn σ + k) (f k) = tPart σ f (k + 1) := funext fun x => by
  unfold vp_updL tPart
  by_cases h : x = 125 * gn σ + k
  · rw [if_pos h, if_pos (by omega)]; congr 1; omega
  · rw [if_neg h]
    by_cases h2 : 125 * gn σ ≤ x ∧ x < 125 * gn σ + k
    · rw [if_pos h2, if_pos (by omega)]
    · rw [if_neg h2, if_neg (by omega)]
theorem tPart_125 (σ : Sg) (f : Nat → Int64) (o : Nat) : tPart σ f 125 = mT (newS σ f o) := funext fun x => by
  unfold tPart mT
  show _ = va_up (gt σ) (gn σ) f (x / 125) (x % 125)
  by_cases h : 125 * gn σ ≤ x ∧ x < 125 * gn σ + 125
  · rw [if_pos h, show x / 125 = gn σ by omega, va_up_self]; congr 1; omega
  · rw [if_neg h, va_up_ne _ _ (by omega)]
theorem mP_new (σ : Sg) (f : Nat → Int64) (o : Nat) : upd (mP σ) (gn σ) (nI o) = mP (newS σ f o) := funext fun x => by
  unfold upd mP
  show _ = nI (va_up (gp σ) (gn σ) o x)
  by_cases h : x = gn σ
  · rw [if_pos h, h, va_up_self]
  · rw [if_neg h, va_up_ne _ _ h]
theorem c_MO_image (l : Launch) (G : x_G) (ad : Nat → Nat) (σ : Sg) (f : Nat → Int64) (ch : Nat → Bool) (o : Nat) (ho : o < gn σ) (hn1 : 1 ≤ gn σ) (hn40 : gn σ ≤ 40) (hpr : ∀ i, 0 < i → gp σ i < i) : Met l y_MO_image (x_ws y_MO_image b_MO_image 3 (some .int)) (x_rm 1 0 0) (x_P G [.ref (ad 0), .int (nI o)] (MO G ad σ f ch)) (x_Q (MW G ad (imgS σ f o).2 f ch (some (.int (imgS σ f o).1)))) 0 0 (mA ad) := by
  refine x_wI (by decide +kernel) (Nat.le_of_ble_eq_true rfl) (fun p e s m args below meth c F hK hP ls hl Q hret => ?_)
  have hl : lv_has ls 3 [(0, .ref (ad 0)), (1, .int (nI o))] := hl
  have hS : va_S (mA ad) s.heap s.heap [] := va_S.rf
  obtain ⟨hO, hp, ht, hh, hg, hw, hc, hj⟩ := id hP
  have mk1 : tEq f (gt σ o) = false → fnd σ f o (gn σ - 1) 1 = none → ∀ ls : Array Slot, lv_has ls 3 [(2, .int (nI (gn σ))), (0, .ref (ad 0)), (1, .int (nI o))] → W p l e (x_rm 1 0 0) s m args below meth c s.heap [] 0 0 Q (F0 m 54 ls []) := by
    intro e1 e2 ls hl
    unfold imgS at hret
    rw [e1, if_neg (by decide), e2] at hret
    refine lv_aload_n F.1 F.2.1 d_MO_image_54 rfl (lv_at hl 1 rfl) ?_
    refine x_get F hK hO rfl i_MO 2 (by decide) k481 rfl rfl d_MO_image_55 ?_
    refine lv_bipush (v := 40) F.1 F.2.1 d_MO_image_58 (by decide) ?_
    refine lv_icmp_ne (tgt := 66) F.1 F.2.1 d_MO_image_60 (by decide) (fun c60 => ?_) (fun c60 => ?_)
    · have c60 := mt (pN_eqI (a := (gn σ)) (b := 40) rfl rfl (by omega) (by omega)).mpr c60
      rw [show (if gn σ = 40 then ((-2 : Int32), σ) else (nI (gn σ), ansS (newS σ f o) (gn σ))) = (nI (gn σ), ansS (newS σ f o) (gn σ)) from if_neg c60] at hret
      refine lv_aload_n F.1 F.2.1 d_MO_image_66 rfl (lv_at hl 1 rfl) ?_
      refine x_get F hK hO rfl i_MO 0 (by decide) k479 rfl rfl d_MO_image_67 ?_
      refine lv_aload_n F.1 F.2.1 d_MO_image_70 rfl (lv_at hl 1 rfl) ?_
      refine x_get F hK hO rfl i_MO 2 (by decide) k481 rfl rfl d_MO_image_71 ?_
      refine lv_iload_n F.1 F.2.1 d_MO_image_74 rfl (lv_at hl 2 rfl) ?_
      refine x_iastN F hK hp (by decide) (by omega) hS ⟨1, by omega, rfl⟩ d_MO_image_75 (fun H7 locs hp hz7 ho7 hS => ?_)
      have hO := va_at.kept hO (ho7 _ (hj.ne 0 1))
      have ht := va_at.kept ht (ho7 _ (hj.ne 2 1))
      have hh := va_at.kept hh (ho7 _ (hj.ne 3 1))
      have hg := va_at.kept hg (ho7 _ (hj.ne 4 1))
      have hw := va_at.kept hw (ho7 _ (hj.ne 5 1))
      have hc := va_at.kept hc (ho7 _ (hj.ne 6 1))
      refine lv_iconst (v := 0) F.1 F.2.1 d_MO_image_76 (by decide) ?_
      refine lv_istore_n (lv' := [(2, .int 0), (0, .ref (ad 0)), (1, .int (nI o))]) F.1 F.2.1 d_MO_image_77 rfl hl (by decide) rfl (fun ls hl => ?_)
      have loop : ∀ (n k : Nat), k + n = 125 → ∀ (H : Heap) (locs : List Loc), va_at G.1 x_cl (ad 0, .inr (6, [.ref (ad 1), .ref (ad 2), .int (nI (gn σ)), .ref (ad 3), .ref (ad 4), .ref (ad 5), .ref (ad 6), .int (ga σ)])) H → x_ai G (ad 1) 40 (mP (newS σ f o)) H → x_al G (ad 2) 5000 (tPart σ f k) H → x_az G (ad 3) 80 (mH σ) H → x_ai G (ad 4) 12 (mG σ) H → x_al G (ad 5) 125 f H → x_az G (ad 6) 40 (mC ch) H → va_S (mA ad) s.heap H locs → ∀ ls : Array Slot, lv_has ls 3 [(2, .int (nI k)), (0, .ref (ad 0)), (1, .int (nI o))] → W p l e (x_rm 1 0 0) s m args below meth c H locs 0 0 Q (F0 m 78 ls []) := by
        intro n
        induction n with
        | zero =>
          intro k hn H locs hO hp ht hh hg hw hc hS ls hl
          obtain rfl : k = 125 := by omega
          refine lv_iload_n F.1 F.2.1 d_MO_image_78 rfl (lv_at hl 0 rfl) ?_
          refine lv_bipush (v := 125) F.1 F.2.1 d_MO_image_79 (by decide) ?_
          refine lv_icmp_ge (tgt := 110) F.1 F.2.1 d_MO_image_81 (by decide) (fun _ => ?_) (fun zq => absurd (pN_le (a := 125) (b := 125) rfl rfl (by omega) (by omega) (by omega)) zq)
          refine lv_aload_n F.1 F.2.1 d_MO_image_110 rfl (lv_at hl 1 rfl) ?_
          refine lv_dup F.1 F.2.1 d_MO_image_111 rfl ?_
          refine x_get F hK hO rfl i_MO 2 (by decide) k481 rfl rfl d_MO_image_112 ?_
          refine lv_iconst (v := 1) F.1 F.2.1 d_MO_image_115 (by decide) ?_
          refine lv_iadd F.1 F.2.1 d_MO_image_116 ?_
          rw [nI_1]
          refine x_put F hK hO rfl i_MO t_MO p_MO n_MO 2 (by decide) k481 rfl rfl rfl rfl (Nat.le_of_ble_eq_true rfl) hS ⟨0, by omega, rfl⟩ d_MO_image_117 (fun H8 locs hO hz8 ho8 hS => ?_)
          have hO : va_at G.1 x_cl ((ad 0), .inr (6, [.ref (ad 1), .ref (ad 2), .int (nI (gn σ + 1)), .ref (ad 3), .ref (ad 4), .ref (ad 5), .ref (ad 6), .int (ga σ)])) H8 := hO
          have hp := va_at.kept hp (ho8 _ (hj.ne 1 0))
          have ht := va_at.kept ht (ho8 _ (hj.ne 2 0))
          have hh := va_at.kept hh (ho8 _ (hj.ne 3 0))
          have hg := va_at.kept hg (ho8 _ (hj.ne 4 0))
          have hw := va_at.kept hw (ho8 _ (hj.ne 5 0))
          have hc := va_at.kept hc (ho8 _ (hj.ne 6 0))
          refine lv_aload_n F.1 F.2.1 d_MO_image_120 rfl (lv_at hl 1 rfl) ?_
          refine lv_aload_n F.1 F.2.1 d_MO_image_121 rfl (lv_at hl 1 rfl) ?_
          refine x_get F hK hO rfl i_MO 2 (by decide) k481 rfl rfl d_MO_image_122 ?_
          refine lv_iconst (v := 1) F.1 F.2.1 d_MO_image_125 (by decide) ?_
          refine lv_isub F.1 F.2.1 d_MO_image_126 ?_
          rw [show nI (gn σ + 1) - 1 = nI (gn σ) from nI_pred (gn σ)]
          refine x_wr (x_V (n := 1) (As := [.int (nI (gn σ))]) F (c_MO_answer l G ad (newS σ f o) f ch (gn σ) (by omega)) ok_MO_answer k572 ⟨Nat.le_of_ble_eq_true rfl, Nat.le_of_ble_eq_true rfl⟩ rfl rfl hK (x_rcv hK hO rfl) (⟨hO, hp, (by rw [← tPart_125]; exact ht), hh, hg, hw, hc, hj⟩) rfl hl.1 rfl (Nat.le_of_ble_eq_true rfl) d_MO_image_127 ⟨Nat.le_of_ble_eq_true rfl, Nat.le_of_ble_eq_true rfl⟩) hS (fun _ h => h) (fun _ _ h => h.2.2) (fun v H9 locs hpost hS => ?_)
          obtain ⟨rfl, hP2, hof⟩ := hpost
          exact hret _ _ _ _ _ _ _ d_MO_image_130 ⟨rfl, hP2, hS.off⟩ hS.2.2 (Nat.le_refl _) (Nat.le_refl _)
        | succ n ih =>
          intro k hn H locs hO hp ht hh hg hw hc hS ls hl
          refine lv_iload_n F.1 F.2.1 d_MO_image_78 rfl (lv_at hl 0 rfl) ?_
          refine lv_bipush (v := 125) F.1 F.2.1 d_MO_image_79 (by decide) ?_
          refine lv_icmp_ge (tgt := 110) F.1 F.2.1 d_MO_image_81 (by decide) (fun zq => absurd zq (pN_nle (a := 125) (b := k) rfl rfl (by omega) (by omega) (by omega))) (fun _ => ?_)
          refine lv_aload_n F.1 F.2.1 d_MO_image_84 rfl (lv_at hl 1 rfl) ?_
          refine x_get F hK hO rfl i_MO 1 (by decide) k480 rfl rfl d_MO_image_85 ?_
          refine lv_bipush (v := 125) F.1 F.2.1 d_MO_image_88 (by decide) ?_
          refine lv_aload_n F.1 F.2.1 d_MO_image_90 rfl (lv_at hl 1 rfl) ?_
          refine x_get F hK hO rfl i_MO 2 (by decide) k481 rfl rfl d_MO_image_91 ?_
          refine lv_imul F.1 F.2.1 d_MO_image_94 ?_
          refine lv_iload_n F.1 F.2.1 d_MO_image_95 rfl (lv_at hl 0 rfl) ?_
          refine lv_iadd F.1 F.2.1 d_MO_image_96 ?_
          rw [e125]
          refine lv_aload_n F.1 F.2.1 d_MO_image_97 rfl (lv_at hl 1 rfl) ?_
          refine x_get F hK hO rfl i_MO 5 (by decide) k484 rfl rfl d_MO_image_98 ?_
          refine lv_iload_n F.1 F.2.1 d_MO_image_101 rfl (lv_at hl 0 rfl) ?_
          refine x_laldN F hK hw (by decide) (by omega) d_MO_image_102 ?_
          refine x_lastN F hK ht (by decide) (by omega) hS ⟨2, by omega, rfl⟩ d_MO_image_103 (fun H10 locs ht hz10 ho10 hS => ?_)
          have hO := va_at.kept hO (ho10 _ (hj.ne 0 2))
          have hp := va_at.kept hp (ho10 _ (hj.ne 1 2))
          have hh := va_at.kept hh (ho10 _ (hj.ne 3 2))
          have hg := va_at.kept hg (ho10 _ (hj.ne 4 2))
          have hw := va_at.kept hw (ho10 _ (hj.ne 5 2))
          have hc := va_at.kept hc (ho10 _ (hj.ne 6 2))
          refine lv_iinc (v := (nI (k + 1))) (lv' := [(2, .int (nI (k + 1))), (0, .ref (ad 0)), (1, .int (nI o))]) F.1 F.2.1 d_MO_image_104 hl (k := 0) rfl (nI_1 k) (by decide) rfl (fun ls hl => ?_)
          refine lv_goto (tgt := 78) F.1 F.2.1 d_MO_image_107 (by decide) ?_
          exact ih (k + 1) (by omega) _ _ hO hp (by rw [← tPart_s]; exact ht) hh hg hw hc hS ls hl
      exact loop 125 0 rfl _ _ hO (by rw [← mP_new]; exact hp) (x_al.cg ht (fun x _ => (if_neg (by omega)).symm)) hh hg hw hc hS ls (lv_sub hl [0, 1, 2] rfl)
    · have c60 := (pN_eqI (a := (gn σ)) (b := 40) rfl rfl (by omega) (by omega)).mp c60
      rw [show (if gn σ = 40 then ((-2 : Int32), σ) else (nI (gn σ), ansS (newS σ f o) (gn σ))) = (-2, σ) from if_pos c60] at hret
      refine lv_bipush (v := (-2)) F.1 F.2.1 d_MO_image_63 (by decide) ?_
      exact hret _ _ _ _ _ _ _ d_MO_image_65 ⟨rfl, hP, hS.off⟩ hS.2.2 (Nat.le_refl _) (Nat.le_refl _)
  have loop : tEq f (gt σ o) = false → ∀ (n k : Nat), k + n = gn σ → 1 ≤ k → fnd σ f o n k = fnd σ f o (gn σ - 1) 1 → ∀ ls : Array Slot, lv_has ls 3 [(2, .int (nI k)), (0, .ref (ad 0)), (1, .int (nI o))] → W p l e (x_rm 1 0 0) s m args below meth c s.heap [] 0 0 Q (F0 m 16 ls []) := by
    intro e1 n
    induction n with
    | zero =>
      intro k hn hk1 hfn ls hl
      refine lv_iload_n F.1 F.2.1 d_MO_image_16 rfl (lv_at hl 0 rfl) ?_
      refine lv_aload_n F.1 F.2.1 d_MO_image_17 rfl (lv_at hl 1 rfl) ?_
      refine x_get F hK hO rfl i_MO 2 (by decide) k481 rfl rfl d_MO_image_18 ?_
      refine lv_icmp_ge (tgt := 54) F.1 F.2.1 d_MO_image_21 (by decide) (fun _ => ?_) (fun zq => absurd (pN_le (a := (gn σ)) (b := k) rfl rfl (by omega) (by omega) (by omega)) zq)
      exact mk1 e1 (by rw [← hfn]; rfl) ls (by rw [show gn σ = k by omega]; exact hl)
    | succ n ih =>
      intro k hn hk1 hfn ls hl
      have nxt : ¬ (gp σ k = o ∧ tEq f (gt σ k) = true) → ∀ ls : Array Slot, lv_has ls 3 [(2, .int (nI k)), (0, .ref (ad 0)), (1, .int (nI o))] → W p l e (x_rm 1 0 0) s m args below meth c s.heap [] 0 0 Q (F0 m 48 ls []) := by
        intro hne ls hl
        refine lv_iinc (v := (nI (k + 1))) (lv' := [(2, .int (nI (k + 1))), (0, .ref (ad 0)), (1, .int (nI o))]) F.1 F.2.1 d_MO_image_48 hl (k := 0) rfl (nI_1 k) (by decide) rfl (fun ls hl => ?_)
        refine lv_goto (tgt := 16) F.1 F.2.1 d_MO_image_51 (by decide) ?_
        exact ih (k + 1) (by omega) (by omega) (by rw [← hfn]; exact (if_neg hne).symm) ls hl
      refine lv_iload_n F.1 F.2.1 d_MO_image_16 rfl (lv_at hl 0 rfl) ?_
      refine lv_aload_n F.1 F.2.1 d_MO_image_17 rfl (lv_at hl 1 rfl) ?_
      refine x_get F hK hO rfl i_MO 2 (by decide) k481 rfl rfl d_MO_image_18 ?_
      refine lv_icmp_ge (tgt := 54) F.1 F.2.1 d_MO_image_21 (by decide) (fun zq => absurd zq (pN_nle (a := (gn σ)) (b := k) rfl rfl (by omega) (by omega) (by omega))) (fun _ => ?_)
      refine lv_aload_n F.1 F.2.1 d_MO_image_24 rfl (lv_at hl 1 rfl) ?_
      refine x_get F hK hO rfl i_MO 0 (by decide) k479 rfl rfl d_MO_image_25 ?_
      refine lv_iload_n F.1 F.2.1 d_MO_image_28 rfl (lv_at hl 0 rfl) ?_
      refine x_ialdN F hK hp (by decide) (by omega) d_MO_image_29 ?_
      refine lv_iload_n F.1 F.2.1 d_MO_image_30 rfl (lv_at hl 2 rfl) ?_
      by_cases hpk : gp σ k = o
      · skip
        refine lv_icmp_ne (tgt := 48) F.1 F.2.1 d_MO_image_31 (by decide) (fun zq => absurd ((by rw [show mP σ k = nI (gp σ k) from rfl, hpk])) zq) (fun _ => ?_)
        refine lv_aload_n F.1 F.2.1 d_MO_image_34 rfl (lv_at hl 1 rfl) ?_
        refine lv_iload_n F.1 F.2.1 d_MO_image_35 rfl (lv_at hl 0 rfl) ?_
        refine x_rd (x_V (n := 1) (As := [.int (nI k)]) F (c_MO_workIs l G ad σ f ch k (by omega)) ok_MO_workIs k568 ⟨Nat.le_of_ble_eq_true rfl, Nat.le_of_ble_eq_true rfl⟩ rfl rfl hK (x_rcv hK hO rfl) (hP) rfl hl.1 rfl (Nat.le_of_ble_eq_true rfl) d_MO_image_36 ⟨Nat.le_of_ble_eq_true rfl, Nat.le_of_ble_eq_true rfl⟩) ?_
        refine x_beq (tgt := 48) F d_MO_image_39 (by decide) (fun c39 => ?_) (fun c39 => ?_)
        · exact nxt (fun z => by rw [c39] at z; cases z.2) ls hl
        · have hfk : fnd σ f o (gn σ - 1) 1 = some k := by rw [← hfn]; exact if_pos ⟨hpk, c39⟩
          refine lv_aload_n F.1 F.2.1 d_MO_image_42 rfl (lv_at hl 1 rfl) ?_
          refine lv_iload_n F.1 F.2.1 d_MO_image_43 rfl (lv_at hl 0 rfl) ?_
          refine x_wr (x_V (n := 1) (As := [.int (nI k)]) F (c_MO_answer l G ad σ f ch k (by omega)) ok_MO_answer k572 ⟨Nat.le_of_ble_eq_true rfl, Nat.le_of_ble_eq_true rfl⟩ rfl rfl hK (x_rcv hK hO rfl) (hP) rfl hl.1 rfl (Nat.le_of_ble_eq_true rfl) d_MO_image_44 ⟨Nat.le_of_ble_eq_true rfl, Nat.le_of_ble_eq_true rfl⟩) hS (fun _ h => h) (fun _ _ h => h.2.2) (fun v H11 locs hpost hS => ?_)
          obtain ⟨rfl, hP2, hof⟩ := hpost
          exact hret _ _ _ _ _ _ _ d_MO_image_47 (by unfold imgS; rw [e1, if_neg (by decide), hfk]; exact ⟨rfl, hP2, hS.off⟩) hS.2.2 (Nat.le_refl _) (Nat.le_refl _)
      · have hb := hpr k (by omega)
        refine lv_icmp_ne (tgt := 48) F.1 F.2.1 d_MO_image_31 (by decide) (fun _ => ?_) (fun zq => absurd zq ((fun z => hpk ((nI_eq (by omega) (by omega)).mp z))))
        exact nxt (fun z => hpk z.1) ls hl
  refine lv_aload_n F.1 F.2.1 d_MO_image_0 rfl (lv_at hl 0 rfl) ?_
  refine lv_iload_n F.1 F.2.1 d_MO_image_1 rfl (lv_at hl 1 rfl) ?_
  refine x_rd (x_V (n := 1) (As := [.int (nI o)]) F (c_MO_workIs l G ad σ f ch o (by omega)) ok_MO_workIs k568 ⟨Nat.le_of_ble_eq_true rfl, Nat.le_of_ble_eq_true rfl⟩ rfl rfl hK (x_rcv hK hO rfl) (hP) rfl hl.1 rfl (Nat.le_of_ble_eq_true rfl) d_MO_image_2 ⟨Nat.le_of_ble_eq_true rfl, Nat.le_of_ble_eq_true rfl⟩) ?_
  refine x_beq (tgt := 14) F d_MO_image_5 (by decide) (fun c5 => ?_) (fun c5 => ?_)
  · refine lv_iconst (v := 1) F.1 F.2.1 d_MO_image_14 (by decide) ?_
    refine lv_istore_n (lv' := [(2, .int 1), (0, .ref (ad 0)), (1, .int (nI o))]) F.1 F.2.1 d_MO_image_15 rfl hl (by decide) rfl (fun ls hl => ?_)
    exact loop c5 (gn σ - 1) 1 (by omega) (Nat.le_refl _) rfl ls hl
  · refine lv_aload_n F.1 F.2.1 d_MO_image_8 rfl (lv_at hl 0 rfl) ?_
    refine lv_iload_n F.1 F.2.1 d_MO_image_9 rfl (lv_at hl 1 rfl) ?_
    refine x_wr (x_V (n := 1) (As := [.int (nI o)]) F (c_MO_answer l G ad σ f ch o (by omega)) ok_MO_answer k572 ⟨Nat.le_of_ble_eq_true rfl, Nat.le_of_ble_eq_true rfl⟩ rfl rfl hK (x_rcv hK hO rfl) (hP) rfl hl.1 rfl (Nat.le_of_ble_eq_true rfl) d_MO_image_10 ⟨Nat.le_of_ble_eq_true rfl, Nat.le_of_ble_eq_true rfl⟩) hS (fun _ h => h) (fun _ _ h => h.2.2) (fun v H12 locs hpost hS => ?_)
    obtain ⟨rfl, hP2, hof⟩ := hpost
    exact hret _ _ _ _ _ _ _ d_MO_image_13 (by unfold imgS; rw [if_pos c5]; exact ⟨rfl, hP2, hS.off⟩) hS.2.2 (Nat.le_refl _) (Nat.le_refl _)

