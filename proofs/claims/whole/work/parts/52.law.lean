/-! ===== the law: its loop ===== -/
theorem law_end {L i : Nat} (hL : L ≤ 2560) (hi : i ≤ 2565) : nI L - 5 < nI i ↔ L < i + 5 := by
  rw [Int32.lt_iff_toInt_lt, show (5 : Int32) = nI 5 from rfl, pk_sub_toInt (by omega) (by omega), nI_toInt (by omega)]
  omega
set_option maxRecDepth 100000 in
set_option maxHeartbeats 4000000 in
theorem law_loop {p : Program} {l : Launch} {e : Env} {s : State} {m : MethodId} {below : List Frame} {meth : Method} {c : Code} {G : x_G} {b L : Nat} {xs : Nat → Int32} (hL : L ≤ 2560) (C0 : lw_At p s m meth c b L xs) (hK : x_K G s) (ad : Nat → Nat) (had : ∀ k, k ≤ 6 → s.heap.size ≤ ad k) (hsa : x_sa G < s.heap.size) (htt : x_t G < s.heap.size) : ∀ (n i : Nat), i ≤ L + 5 → L < i + 5 * n + 5 → ∀ (σ : Sg) (ca : Nat → Nat) (nl : Nat) (num rp : Nat → Nat) (f : Nat → Int64) (sn : Nat → Int32) (wk : Nat → Int64) (ch : Nat → Bool) (H : Heap) (locs : List Loc) (cl sl : Nat), cl + 9 * n ≤ 4700 → sl + 540 * n ≤ 283000 → gI σ → LC G s.heap.size ad ca σ nl num rp f sn H → MO G ad σ wk ch H → va_S (fun q => s.heap.size ≤ q) s.heap H locs → ∀ ls : Array Slot, lv_has ls 4 [(3, .int (nI i)), (2, .ref (ad 0)), (1, .ref (ca 0)), (0, .ref b)] → W p l e room_1 s m #[Value.ref b] below meth c H locs cl sl (lw_Z below #[Value.ref b] s) (F0 m 18 ls []) := by
  obtain ⟨hx, hb, hr, hml, hown, hts, hX, hbl, hlocks, hgv⟩ := id C0
  have hxt : ∀ w ∈ x_tb, w.before #[Value.ref b] s = true := fun w h => hts w (List.mem_filter.mp h).1
  have F : x_F p m c code 4 s #[Value.ref b] "ImageStoresLaw" := ⟨hx, hb, hml, hown, hxt⟩
  have hbA : ¬ (fun q : Nat => s.heap.size ≤ q) b := Nat.not_le.mpr hbl
  have hfm : ∀ q, mA ad q → s.heap.size ≤ q := fun q h => by obtain ⟨k, hk, rfl⟩ := h; exact had k hk
  have fin : ∀ (H : Heap) (locs : List Loc) (cl sl : Nat), cl ≤ room_1.cells → sl ≤ room_1.slots → va_S (fun q => s.heap.size ≤ q) s.heap H locs → ∀ ls : Array Slot, W p l e room_1 s m #[Value.ref b] below meth c H locs cl sl (lw_Z below #[Value.ref b] s) (F0 m 695 ls []) := by
    intro H locs cl sl h1 h2 hS ls
    refine lv_iconst (v := 1) F.1 F.2.1 d_LW_law_695 (by decide) ?_
    refine va_forget (fun q hq => hS.2.2 q hq) ?_
    refine W.widen (k := room_1.cells) (n := room_1.slots) h1 h2 ?_
    exact lw_ret hx hb hr hlocks d_LW_law_696
  have hrc : 4700 ≤ room_1.cells := Nat.le_of_ble_eq_true rfl
  have hrs : 283000 ≤ room_1.slots := Nat.le_of_ble_eq_true rfl
  intro n
  induction n with
  | zero =>
    intro i hi hin σ ca nl num rp f sn wk ch H locs cl sl hcl hsl hok hLC hM hS ls hl
    refine lv_iload_n F.1 F.2.1 d_LW_law_18 rfl (lv_at hl 0 rfl) ?_
    refine lv_aload_n F.1 F.2.1 d_LW_law_19 rfl (lv_at hl 3 rfl) ?_
    refine va_slen F.1 F.2.1 hX hbl hbA hS d_LW_law_20 ?_
    refine lv_iconst (v := 5) F.1 F.2.1 d_LW_law_21 (by decide) ?_
    refine lv_isub F.1 F.2.1 d_LW_law_22 ?_
    refine lv_icmp_gt (tgt := 695) F.1 F.2.1 d_LW_law_23 (by decide) (fun _ => ?_) (fun zq => absurd ((law_end hL (by omega)).mpr (by omega)) zq)
    exact fin _ _ _ _ (Nat.le_trans (m := 4700) (by omega) hrc) (Nat.le_trans (m := 283000) (by omega) hrs) hS ls
  | succ n ih =>
    intro i hi hin σ ca nl num rp f sn wk ch H locs cl sl hcl hsl hok hLC hM hS ls hl
    refine lv_iload_n F.1 F.2.1 d_LW_law_18 rfl (lv_at hl 0 rfl) ?_
    refine lv_aload_n F.1 F.2.1 d_LW_law_19 rfl (lv_at hl 3 rfl) ?_
    refine va_slen F.1 F.2.1 hX hbl hbA hS d_LW_law_20 ?_
    refine lv_iconst (v := 5) F.1 F.2.1 d_LW_law_21 (by decide) ?_
    refine lv_isub F.1 F.2.1 d_LW_law_22 ?_
    refine lv_icmp_gt (tgt := 695) F.1 F.2.1 d_LW_law_23 (by decide) (fun c23 => ?_) (fun c23 => ?_)
    · exact fin _ _ _ _ (Nat.le_trans (m := 4700) (by omega) hrc) (Nat.le_trans (m := 283000) (by omega) hrs) hS ls
    · have hlt : i + 5 ≤ L := by
        rcases Nat.lt_or_ge L (i + 5) with z | z
        · exact absurd ((law_end hL (by omega)).mpr z) c23
        · exact z
      have nxt : ∀ (σ2 : Sg) (ca2 : Nat → Nat) (nl2 : Nat) (num2 rp2 : Nat → Nat) (f2 : Nat → Int64) (sn2 : Nat → Int32) (wk2 : Nat → Int64) (ch2 : Nat → Bool) (H2 : Heap) (locs2 : List Loc) (cl2 sl2 : Nat), ca2 0 = ca 0 → cl2 ≤ cl + 9 → sl2 ≤ sl + 540 → gI σ2 → LC G s.heap.size ad ca2 σ2 nl2 num2 rp2 f2 sn2 H2 → MO G ad σ2 wk2 ch2 H2 → va_S (fun q => s.heap.size ≤ q) s.heap H2 locs2 → ∀ ls : Array Slot, lv_has ls 4 [(3, .int (nI i)), (2, .ref (ad 0)), (1, .ref (ca 0)), (0, .ref b)] → W p l e room_1 s m #[Value.ref b] below meth c H2 locs2 cl2 sl2 (lw_Z below #[Value.ref b] s) (F0 m 689 ls []) := by
        intro σ2 ca2 nl2 num2 rp2 f2 sn2 wk2 ch2 H2 locs2 cl2 sl2 e0 h1 h2 hok2 hLC2 hM2 hS2 ls hl
        refine W.widen (k := cl + 9) (n := sl + 540) h1 h2 ?_
        refine lv_iinc (v := nI (i + 5)) (lv' := [(3, .int (nI (i + 5))), (2, .ref (ad 0)), (1, .ref (ca 0)), (0, .ref b)]) F.1 F.2.1 d_LW_law_689 hl (k := 0) rfl (nI_add i 5) (by decide) rfl (fun ls hl => ?_)
        refine lv_goto (tgt := 18) F.1 F.2.1 d_LW_law_692 (by decide) ?_
        exact ih (i + 5) (by omega) (by omega) σ2 ca2 nl2 num2 rp2 f2 sn2 wk2 ch2 H2 locs2 (cl + 9) (sl + 540) (by omega) (by omega) hok2 hLC2 hM2 hS2 ls (by rw [e0]; exact hl)
      have v0 : vp_in (nI i) L := vp_in_nI (by omega) (by omega)
      have v1 : vp_in ((nI i) + 1) L := by rw [show (nI i) + 1 = nI (i + 1) from nI_add i 1]; exact vp_in_nI (by omega) (by omega)
      have v2 : vp_in ((nI i) + 2) L := by rw [show (nI i) + 2 = nI (i + 2) from nI_add i 2]; exact vp_in_nI (by omega) (by omega)
      have v3 : vp_in ((nI i) + 3) L := by rw [show (nI i) + 3 = nI (i + 3) from nI_add i 3]; exact vp_in_nI (by omega) (by omega)
      have v4 : vp_in ((nI i) + 4) L := by rw [show (nI i) + 4 = nI (i + 4) from nI_add i 4]; exact vp_in_nI (by omega) (by omega)
      have hf9 : cl + 9 ≤ room_1.cells ∧ sl + 540 ≤ room_1.slots := ⟨Nat.le_trans (m := 4700) (by omega) hrc, Nat.le_trans (m := 283000) (by omega) hrs⟩
      have hf0 : cl + 0 ≤ room_1.cells ∧ sl + 0 ≤ room_1.slots := ⟨Nat.le_trans (m := 4700) (by omega) hrc, Nat.le_trans (m := 283000) (by omega) hrs⟩
      obtain ⟨hN, hW, hdj⟩ := id hLC
      have hfr := hLC.free
      have hO := hW.2.2.1
      have hMO := hM.1
      have hS01 := hS.1
      refine lv_aload_n F.1 F.2.1 d_LW_law_26 rfl (lv_at hl 3 rfl) ?_
      refine lv_iload_n F.1 F.2.1 d_LW_law_27 rfl (lv_at hl 0 rfl) ?_
      refine va_sld F.1 F.2.1 hX hbl hbA hS (by assumption) d_LW_law_28 ?_
      refine lv_bipush (v := 31) F.1 F.2.1 d_LW_law_29 (by decide) ?_
      refine lv_iand F.1 F.2.1 d_LW_law_31 ?_
      obtain ⟨j, hj, hje⟩ := pk_andE (xs (nI i).toNatClampNeg) (m := 31) 5 (by decide)
      rw [hje]
      have hj17 : j = 0 ∨ j = 1 ∨ j = 2 ∨ j = 3 ∨ j = 4 ∨ j = 5 ∨ j = 6 ∨ j = 7 ∨ j = 8 ∨ j = 9 ∨ j = 10 ∨ j = 11 ∨ j = 12 ∨ j = 13 ∨ j = 14 ∨ j = 15 ∨ j = 16 ∨ 17 ≤ j := by omega
      rcases hj17 with rfl | rfl | rfl | rfl | rfl | rfl | rfl | rfl | rfl | rfl | rfl | rfl | rfl | rfl | rfl | rfl | rfl | hj17
      · skip
        refine lv_tableIn (off := 84) (tgt := 116) F.1 F.2.1 d_LW_law_32 (by decide) (by decide) (by decide) (by decide) ?_
        refine lv_aload_n F.1 F.2.1 d_LW_law_116 rfl (lv_at hl 2 rfl) ?_
        refine lv_aload_n F.1 F.2.1 d_LW_law_117 rfl (lv_at hl 3 rfl) ?_
        refine lv_iload_n F.1 F.2.1 d_LW_law_118 rfl (lv_at hl 0 rfl) ?_
        refine lv_iconst (v := 1) F.1 F.2.1 d_LW_law_119 (by decide) ?_
        refine lv_iadd F.1 F.2.1 d_LW_law_120 ?_
        refine va_sld F.1 F.2.1 hX hbl hbA hS (by assumption) d_LW_law_121 ?_
        refine lv_aload_n F.1 F.2.1 d_LW_law_122 rfl (lv_at hl 3 rfl) ?_
        refine lv_iload_n F.1 F.2.1 d_LW_law_123 rfl (lv_at hl 0 rfl) ?_
        refine lv_iconst (v := 2) F.1 F.2.1 d_LW_law_124 (by decide) ?_
        refine lv_iadd F.1 F.2.1 d_LW_law_125 ?_
        refine va_sld F.1 F.2.1 hX hbl hbA hS (by assumption) d_LW_law_126 ?_
        refine lv_aload_n F.1 F.2.1 d_LW_law_127 rfl (lv_at hl 3 rfl) ?_
        refine lv_iload_n F.1 F.2.1 d_LW_law_128 rfl (lv_at hl 0 rfl) ?_
        refine lv_iconst (v := 3) F.1 F.2.1 d_LW_law_129 (by decide) ?_
        refine lv_iadd F.1 F.2.1 d_LW_law_130 ?_
        refine va_sld F.1 F.2.1 hX hbl hbA hS (by assumption) d_LW_law_131 ?_
        refine lv_aload_n F.1 F.2.1 d_LW_law_132 rfl (lv_at hl 3 rfl) ?_
        refine lv_iload_n F.1 F.2.1 d_LW_law_133 rfl (lv_at hl 0 rfl) ?_
        refine lv_iconst (v := 4) F.1 F.2.1 d_LW_law_134 (by decide) ?_
        refine lv_iadd F.1 F.2.1 d_LW_law_135 ?_
        refine va_sld F.1 F.2.1 hX hbl hbA hS (by assumption) d_LW_law_136 ?_
        refine x_wr (x_V (n := 4) (As := [.int (xs ((nI i) + 1).toNatClampNeg), .int (xs ((nI i) + 2).toNatClampNeg), .int (xs ((nI i) + 3).toNatClampNeg), .int (xs ((nI i) + 4).toNatClampNeg)]) F (c_IS_build l G ca σ nl num rp f sn (xs ((nI i) + 1).toNatClampNeg) (xs ((nI i) + 2).toNatClampNeg) (xs ((nI i) + 3).toNatClampNeg) (xs ((nI i) + 4).toNatClampNeg) _ hok hN) ok_IS_build k180 ⟨Nat.le_of_ble_eq_true rfl, Nat.le_of_ble_eq_true rfl⟩ rfl rfl hK (x_rcv hK hO rfl) (⟨rfl, hW⟩) rfl hl.1 rfl (Nat.le_of_ble_eq_true rfl) d_LW_law_137 hf9) hS (fun q h => h.elim (hfr q) (fun z => Nat.le_trans hS.1 z)) (fun _ _ h => h.2.2.mono hfr) (fun v H1 locs hpost hS => ?_)
        obtain ⟨ca', nl', num', rp', f', sn', e0, hLC', hM'⟩ := hLC.call hM hS01 hpost
        have hv1 := hpost.1
        subst hv1
        have hMO := hM'.1
        refine lv_aload_n F.1 F.2.1 d_LW_law_140 rfl (lv_at hl 1 rfl) ?_
        refine lv_aload_n F.1 F.2.1 d_LW_law_141 rfl (lv_at hl 3 rfl) ?_
        refine lv_iload_n F.1 F.2.1 d_LW_law_142 rfl (lv_at hl 0 rfl) ?_
        refine lv_iconst (v := 1) F.1 F.2.1 d_LW_law_143 (by decide) ?_
        refine lv_iadd F.1 F.2.1 d_LW_law_144 ?_
        refine va_sld F.1 F.2.1 hX hbl hbA hS (by assumption) d_LW_law_145 ?_
        refine lv_aload_n F.1 F.2.1 d_LW_law_146 rfl (lv_at hl 3 rfl) ?_
        refine lv_iload_n F.1 F.2.1 d_LW_law_147 rfl (lv_at hl 0 rfl) ?_
        refine lv_iconst (v := 2) F.1 F.2.1 d_LW_law_148 (by decide) ?_
        refine lv_iadd F.1 F.2.1 d_LW_law_149 ?_
        refine va_sld F.1 F.2.1 hX hbl hbA hS (by assumption) d_LW_law_150 ?_
        refine lv_aload_n F.1 F.2.1 d_LW_law_151 rfl (lv_at hl 3 rfl) ?_
        refine lv_iload_n F.1 F.2.1 d_LW_law_152 rfl (lv_at hl 0 rfl) ?_
        refine lv_iconst (v := 3) F.1 F.2.1 d_LW_law_153 (by decide) ?_
        refine lv_iadd F.1 F.2.1 d_LW_law_154 ?_
        refine va_sld F.1 F.2.1 hX hbl hbA hS (by assumption) d_LW_law_155 ?_
        refine lv_aload_n F.1 F.2.1 d_LW_law_156 rfl (lv_at hl 3 rfl) ?_
        refine lv_iload_n F.1 F.2.1 d_LW_law_157 rfl (lv_at hl 0 rfl) ?_
        refine lv_iconst (v := 4) F.1 F.2.1 d_LW_law_158 (by decide) ?_
        refine lv_iadd F.1 F.2.1 d_LW_law_159 ?_
        refine va_sld F.1 F.2.1 hX hbl hbA hS (by assumption) d_LW_law_160 ?_
        refine x_wr (x_V (n := 4) (As := [.int (xs ((nI i) + 1).toNatClampNeg), .int (xs ((nI i) + 2).toNatClampNeg), .int (xs ((nI i) + 3).toNatClampNeg), .int (xs ((nI i) + 4).toNatClampNeg)]) F (c_MO_build l G ad σ wk ch (xs ((nI i) + 1).toNatClampNeg) (xs ((nI i) + 2).toNatClampNeg) (xs ((nI i) + 3).toNatClampNeg) (xs ((nI i) + 4).toNatClampNeg) hok.1) ok_MO_build k504 ⟨Nat.le_of_ble_eq_true rfl, Nat.le_of_ble_eq_true rfl⟩ rfl rfl hK (x_rcv hK hMO rfl) (hM') rfl hl.1 rfl (Nat.le_of_ble_eq_true rfl) d_LW_law_161 hf9) hS (hfm) (fun _ _ h => h.2.2.mono hfm) (fun v H2 locs hpost hS => ?_)
        obtain ⟨rfl, ⟨wk2, ch2, hM2⟩, ho2⟩ := hpost
        have hLC2 := hLC'.model had hsa htt ho2
        refine lv_icmp_eq (tgt := 689) F.1 F.2.1 d_LW_law_164 (by decide) (fun _ => ?_) (fun zq => absurd (rfl) zq)
        exact nxt _ ca' nl' num' rp' f' sn' wk2 ch2 _ _ _ _ e0 (Nat.le_refl _) (Nat.le_refl _) (gI_bld hok _ _ _ _) hLC2 hM2 hS ls hl
      · skip
        refine lv_tableIn (off := 137) (tgt := 169) F.1 F.2.1 d_LW_law_32 (by decide) (by decide) (by decide) (by decide) ?_
        refine lv_aload_n F.1 F.2.1 d_LW_law_169 rfl (lv_at hl 2 rfl) ?_
        refine lv_aload_n F.1 F.2.1 d_LW_law_170 rfl (lv_at hl 3 rfl) ?_
        refine lv_iload_n F.1 F.2.1 d_LW_law_171 rfl (lv_at hl 0 rfl) ?_
        refine lv_iconst (v := 1) F.1 F.2.1 d_LW_law_172 (by decide) ?_
        refine lv_iadd F.1 F.2.1 d_LW_law_173 ?_
        refine va_sld F.1 F.2.1 hX hbl hbA hS (by assumption) d_LW_law_174 ?_
        refine x_wr (x_V (n := 1) (As := [.int (xs ((nI i) + 1).toNatClampNeg)]) F (c_IS_flatten l G ca σ nl num rp f sn (xs ((nI i) + 1).toNatClampNeg) _ hok hN) ok_IS_flatten k338 ⟨Nat.le_of_ble_eq_true rfl, Nat.le_of_ble_eq_true rfl⟩ rfl rfl hK (x_rcv hK hO rfl) (⟨rfl, hW⟩) rfl hl.1 rfl (Nat.le_of_ble_eq_true rfl) d_LW_law_175 hf9) hS (fun q h => h.elim (hfr q) (fun z => Nat.le_trans hS.1 z)) (fun _ _ h => h.2.2.mono hfr) (fun v H3 locs hpost hS => ?_)
        obtain ⟨ca', nl', num', rp', f', sn', e0, hLC', hM'⟩ := hLC.call hM hS01 hpost
        have hv1 := hpost.1
        subst hv1
        have hMO := hM'.1
        refine lv_aload_n F.1 F.2.1 d_LW_law_178 rfl (lv_at hl 1 rfl) ?_
        refine lv_aload_n F.1 F.2.1 d_LW_law_179 rfl (lv_at hl 3 rfl) ?_
        refine lv_iload_n F.1 F.2.1 d_LW_law_180 rfl (lv_at hl 0 rfl) ?_
        refine lv_iconst (v := 1) F.1 F.2.1 d_LW_law_181 (by decide) ?_
        refine lv_iadd F.1 F.2.1 d_LW_law_182 ?_
        refine va_sld F.1 F.2.1 hX hbl hbA hS (by assumption) d_LW_law_183 ?_
        refine x_wr (x_V (n := 1) (As := [.int (xs ((nI i) + 1).toNatClampNeg)]) F (c_MO_flatten l G ad σ wk ch (xs ((nI i) + 1).toNatClampNeg) hok.1) ok_MO_flatten k576 ⟨Nat.le_of_ble_eq_true rfl, Nat.le_of_ble_eq_true rfl⟩ rfl rfl hK (x_rcv hK hMO rfl) (hM') rfl hl.1 rfl (Nat.le_of_ble_eq_true rfl) d_LW_law_184 hf9) hS (hfm) (fun _ _ h => h.2.2.mono hfm) (fun v H4 locs hpost hS => ?_)
        obtain ⟨rfl, ⟨wk2, ch2, hM2⟩, ho2⟩ := hpost
        have hLC2 := hLC'.model had hsa htt ho2
        refine lv_icmp_eq (tgt := 689) F.1 F.2.1 d_LW_law_187 (by decide) (fun _ => ?_) (fun zq => absurd (rfl) zq)
        exact nxt _ ca' nl' num' rp' f' sn' wk2 ch2 _ _ _ _ e0 (Nat.le_refl _) (Nat.le_refl _) (gI_flt hok _) hLC2 hM2 hS ls hl
      · skip
        refine lv_tableIn (off := 160) (tgt := 192) F.1 F.2.1 d_LW_law_32 (by decide) (by decide) (by decide) (by decide) ?_
        refine lv_aload_n F.1 F.2.1 d_LW_law_192 rfl (lv_at hl 2 rfl) ?_
        refine lv_aload_n F.1 F.2.1 d_LW_law_193 rfl (lv_at hl 3 rfl) ?_
        refine lv_iload_n F.1 F.2.1 d_LW_law_194 rfl (lv_at hl 0 rfl) ?_
        refine lv_iconst (v := 1) F.1 F.2.1 d_LW_law_195 (by decide) ?_
        refine lv_iadd F.1 F.2.1 d_LW_law_196 ?_
        refine va_sld F.1 F.2.1 hX hbl hbA hS (by assumption) d_LW_law_197 ?_
        refine lv_aload_n F.1 F.2.1 d_LW_law_198 rfl (lv_at hl 3 rfl) ?_
        refine lv_iload_n F.1 F.2.1 d_LW_law_199 rfl (lv_at hl 0 rfl) ?_
        refine lv_iconst (v := 2) F.1 F.2.1 d_LW_law_200 (by decide) ?_
        refine lv_iadd F.1 F.2.1 d_LW_law_201 ?_
        refine va_sld F.1 F.2.1 hX hbl hbA hS (by assumption) d_LW_law_202 ?_
        refine lv_aload_n F.1 F.2.1 d_LW_law_203 rfl (lv_at hl 3 rfl) ?_
        refine lv_iload_n F.1 F.2.1 d_LW_law_204 rfl (lv_at hl 0 rfl) ?_
        refine lv_iconst (v := 3) F.1 F.2.1 d_LW_law_205 (by decide) ?_
        refine lv_iadd F.1 F.2.1 d_LW_law_206 ?_
        refine va_sld F.1 F.2.1 hX hbl hbA hS (by assumption) d_LW_law_207 ?_
        refine x_wr (x_V (n := 3) (As := [.int (xs ((nI i) + 1).toNatClampNeg), .int (xs ((nI i) + 2).toNatClampNeg), .int (xs ((nI i) + 3).toNatClampNeg)]) F (c_IS_tag l G ca σ nl num rp f sn (xs ((nI i) + 1).toNatClampNeg) (xs ((nI i) + 2).toNatClampNeg) (xs ((nI i) + 3).toNatClampNeg) hok hN) ok_IS_tag k342 ⟨Nat.le_of_ble_eq_true rfl, Nat.le_of_ble_eq_true rfl⟩ rfl rfl hK (x_rcv hK hO rfl) (hW) rfl hl.1 rfl (Nat.le_of_ble_eq_true rfl) d_LW_law_208 hf0) hS (hfr) (fun _ _ h => h.2.2.mono hfr) (fun v H5 locs hpost hS => ?_)
        obtain ⟨ca', nl', num', rp', f', sn', e0, hLC', hM'⟩ := hLC.call hM hS01 hpost
        have hv1 := hpost.1
        subst hv1
        have hMO := hM'.1
        refine lv_aload_n F.1 F.2.1 d_LW_law_211 rfl (lv_at hl 1 rfl) ?_
        refine lv_aload_n F.1 F.2.1 d_LW_law_212 rfl (lv_at hl 3 rfl) ?_
        refine lv_iload_n F.1 F.2.1 d_LW_law_213 rfl (lv_at hl 0 rfl) ?_
        refine lv_iconst (v := 1) F.1 F.2.1 d_LW_law_214 (by decide) ?_
        refine lv_iadd F.1 F.2.1 d_LW_law_215 ?_
        refine va_sld F.1 F.2.1 hX hbl hbA hS (by assumption) d_LW_law_216 ?_
        refine lv_aload_n F.1 F.2.1 d_LW_law_217 rfl (lv_at hl 3 rfl) ?_
        refine lv_iload_n F.1 F.2.1 d_LW_law_218 rfl (lv_at hl 0 rfl) ?_
        refine lv_iconst (v := 2) F.1 F.2.1 d_LW_law_219 (by decide) ?_
        refine lv_iadd F.1 F.2.1 d_LW_law_220 ?_
        refine va_sld F.1 F.2.1 hX hbl hbA hS (by assumption) d_LW_law_221 ?_
        refine lv_aload_n F.1 F.2.1 d_LW_law_222 rfl (lv_at hl 3 rfl) ?_
        refine lv_iload_n F.1 F.2.1 d_LW_law_223 rfl (lv_at hl 0 rfl) ?_
        refine lv_iconst (v := 3) F.1 F.2.1 d_LW_law_224 (by decide) ?_
        refine lv_iadd F.1 F.2.1 d_LW_law_225 ?_
        refine va_sld F.1 F.2.1 hX hbl hbA hS (by assumption) d_LW_law_226 ?_
        refine x_wr (x_V (n := 3) (As := [.int (xs ((nI i) + 1).toNatClampNeg), .int (xs ((nI i) + 2).toNatClampNeg), .int (xs ((nI i) + 3).toNatClampNeg)]) F (c_MO_tag l G ad σ wk ch (xs ((nI i) + 1).toNatClampNeg) (xs ((nI i) + 2).toNatClampNeg) (xs ((nI i) + 3).toNatClampNeg) hok.1) ok_MO_tag k580 ⟨Nat.le_of_ble_eq_true rfl, Nat.le_of_ble_eq_true rfl⟩ rfl rfl hK (x_rcv hK hMO rfl) (hM') rfl hl.1 rfl (Nat.le_of_ble_eq_true rfl) d_LW_law_227 hf0) hS (hfm) (fun _ _ h => h.2.2.mono hfm) (fun v H6 locs hpost hS => ?_)
        obtain ⟨rfl, ⟨wk2, ch2, hM2⟩, ho2⟩ := hpost
        have hLC2 := hLC'.model had hsa htt ho2
        refine lv_icmp_eq (tgt := 689) F.1 F.2.1 d_LW_law_230 (by decide) (fun _ => ?_) (fun zq => absurd (rfl) zq)
        exact nxt _ ca' nl' num' rp' f' sn' wk2 ch2 _ _ _ _ e0 (Nat.le_add_right cl 9) (Nat.le_add_right sl 540) (gI_tag hok _ _ _) hLC2 hM2 hS ls hl
      · skip
        refine lv_tableIn (off := 203) (tgt := 235) F.1 F.2.1 d_LW_law_32 (by decide) (by decide) (by decide) (by decide) ?_
        refine lv_aload_n F.1 F.2.1 d_LW_law_235 rfl (lv_at hl 2 rfl) ?_
        refine lv_aload_n F.1 F.2.1 d_LW_law_236 rfl (lv_at hl 3 rfl) ?_
        refine lv_iload_n F.1 F.2.1 d_LW_law_237 rfl (lv_at hl 0 rfl) ?_
        refine lv_iconst (v := 1) F.1 F.2.1 d_LW_law_238 (by decide) ?_
        refine lv_iadd F.1 F.2.1 d_LW_law_239 ?_
        refine va_sld F.1 F.2.1 hX hbl hbA hS (by assumption) d_LW_law_240 ?_
        refine lv_aload_n F.1 F.2.1 d_LW_law_241 rfl (lv_at hl 3 rfl) ?_
        refine lv_iload_n F.1 F.2.1 d_LW_law_242 rfl (lv_at hl 0 rfl) ?_
        refine lv_iconst (v := 2) F.1 F.2.1 d_LW_law_243 (by decide) ?_
        refine lv_iadd F.1 F.2.1 d_LW_law_244 ?_
        refine va_sld F.1 F.2.1 hX hbl hbA hS (by assumption) d_LW_law_245 ?_
        refine x_wr (x_V (n := 2) (As := [.int (xs ((nI i) + 1).toNatClampNeg), .int (xs ((nI i) + 2).toNatClampNeg)]) F (c_IS_untag l G ca σ nl num rp f sn (xs ((nI i) + 1).toNatClampNeg) (xs ((nI i) + 2).toNatClampNeg) hok hN) ok_IS_untag k364 ⟨Nat.le_of_ble_eq_true rfl, Nat.le_of_ble_eq_true rfl⟩ rfl rfl hK (x_rcv hK hO rfl) (hW) rfl hl.1 rfl (Nat.le_of_ble_eq_true rfl) d_LW_law_246 hf0) hS (hfr) (fun _ _ h => h.2.2.mono hfr) (fun v H7 locs hpost hS => ?_)
        obtain ⟨ca', nl', num', rp', f', sn', e0, hLC', hM'⟩ := hLC.call hM hS01 hpost
        have hv1 := hpost.1
        subst hv1
        have hMO := hM'.1
        refine lv_aload_n F.1 F.2.1 d_LW_law_249 rfl (lv_at hl 1 rfl) ?_
        refine lv_aload_n F.1 F.2.1 d_LW_law_250 rfl (lv_at hl 3 rfl) ?_
        refine lv_iload_n F.1 F.2.1 d_LW_law_251 rfl (lv_at hl 0 rfl) ?_
        refine lv_iconst (v := 1) F.1 F.2.1 d_LW_law_252 (by decide) ?_
        refine lv_iadd F.1 F.2.1 d_LW_law_253 ?_
        refine va_sld F.1 F.2.1 hX hbl hbA hS (by assumption) d_LW_law_254 ?_
        refine lv_aload_n F.1 F.2.1 d_LW_law_255 rfl (lv_at hl 3 rfl) ?_
        refine lv_iload_n F.1 F.2.1 d_LW_law_256 rfl (lv_at hl 0 rfl) ?_
        refine lv_iconst (v := 2) F.1 F.2.1 d_LW_law_257 (by decide) ?_
        refine lv_iadd F.1 F.2.1 d_LW_law_258 ?_
        refine va_sld F.1 F.2.1 hX hbl hbA hS (by assumption) d_LW_law_259 ?_
        refine x_wr (x_V (n := 2) (As := [.int (xs ((nI i) + 1).toNatClampNeg), .int (xs ((nI i) + 2).toNatClampNeg)]) F (c_MO_untag l G ad σ wk ch (xs ((nI i) + 1).toNatClampNeg) (xs ((nI i) + 2).toNatClampNeg) hok.1) ok_MO_untag k587 ⟨Nat.le_of_ble_eq_true rfl, Nat.le_of_ble_eq_true rfl⟩ rfl rfl hK (x_rcv hK hMO rfl) (hM') rfl hl.1 rfl (Nat.le_of_ble_eq_true rfl) d_LW_law_260 hf0) hS (hfm) (fun _ _ h => h.2.2.mono hfm) (fun v H8 locs hpost hS => ?_)
        obtain ⟨rfl, ⟨wk2, ch2, hM2⟩, ho2⟩ := hpost
        have hLC2 := hLC'.model had hsa htt ho2
        refine lv_icmp_eq (tgt := 689) F.1 F.2.1 d_LW_law_263 (by decide) (fun _ => ?_) (fun zq => absurd (rfl) zq)
        exact nxt _ ca' nl' num' rp' f' sn' wk2 ch2 _ _ _ _ e0 (Nat.le_add_right cl 9) (Nat.le_add_right sl 540) (gI_unt hok _ _) hLC2 hM2 hS ls hl
      · skip
        refine lv_tableIn (off := 236) (tgt := 268) F.1 F.2.1 d_LW_law_32 (by decide) (by decide) (by decide) (by decide) ?_
        refine lv_aload_n F.1 F.2.1 d_LW_law_268 rfl (lv_at hl 2 rfl) ?_
        refine lv_aload_n F.1 F.2.1 d_LW_law_269 rfl (lv_at hl 3 rfl) ?_
        refine lv_iload_n F.1 F.2.1 d_LW_law_270 rfl (lv_at hl 0 rfl) ?_
        refine lv_iconst (v := 1) F.1 F.2.1 d_LW_law_271 (by decide) ?_
        refine lv_iadd F.1 F.2.1 d_LW_law_272 ?_
        refine va_sld F.1 F.2.1 hX hbl hbA hS (by assumption) d_LW_law_273 ?_
        refine lv_aload_n F.1 F.2.1 d_LW_law_274 rfl (lv_at hl 3 rfl) ?_
        refine lv_iload_n F.1 F.2.1 d_LW_law_275 rfl (lv_at hl 0 rfl) ?_
        refine lv_iconst (v := 2) F.1 F.2.1 d_LW_law_276 (by decide) ?_
        refine lv_iadd F.1 F.2.1 d_LW_law_277 ?_
        refine va_sld F.1 F.2.1 hX hbl hbA hS (by assumption) d_LW_law_278 ?_
        refine x_wr (x_V (n := 2) (As := [.int (xs ((nI i) + 1).toNatClampNeg), .int (xs ((nI i) + 2).toNatClampNeg)]) F (c_IS_send l G ca σ nl num rp f sn (xs ((nI i) + 1).toNatClampNeg) (xs ((nI i) + 2).toNatClampNeg) hok hN) ok_IS_send k372 ⟨Nat.le_of_ble_eq_true rfl, Nat.le_of_ble_eq_true rfl⟩ rfl rfl hK (x_rcv hK hO rfl) (hW) rfl hl.1 rfl (Nat.le_of_ble_eq_true rfl) d_LW_law_279 hf0) hS (hfr) (fun _ _ h => h.2.2.mono hfr) (fun v H9 locs hpost hS => ?_)
        obtain ⟨ca', nl', num', rp', f', sn', e0, hLC', hM'⟩ := hLC.call hM hS01 hpost
        have hv1 := hpost.1
        subst hv1
        have hMO := hM'.1
        refine lv_aload_n F.1 F.2.1 d_LW_law_282 rfl (lv_at hl 1 rfl) ?_
        refine lv_aload_n F.1 F.2.1 d_LW_law_283 rfl (lv_at hl 3 rfl) ?_
        refine lv_iload_n F.1 F.2.1 d_LW_law_284 rfl (lv_at hl 0 rfl) ?_
        refine lv_iconst (v := 1) F.1 F.2.1 d_LW_law_285 (by decide) ?_
        refine lv_iadd F.1 F.2.1 d_LW_law_286 ?_
        refine va_sld F.1 F.2.1 hX hbl hbA hS (by assumption) d_LW_law_287 ?_
        refine lv_aload_n F.1 F.2.1 d_LW_law_288 rfl (lv_at hl 3 rfl) ?_
        refine lv_iload_n F.1 F.2.1 d_LW_law_289 rfl (lv_at hl 0 rfl) ?_
        refine lv_iconst (v := 2) F.1 F.2.1 d_LW_law_290 (by decide) ?_
        refine lv_iadd F.1 F.2.1 d_LW_law_291 ?_
        refine va_sld F.1 F.2.1 hX hbl hbA hS (by assumption) d_LW_law_292 ?_
        refine x_wr (x_V (n := 2) (As := [.int (xs ((nI i) + 1).toNatClampNeg), .int (xs ((nI i) + 2).toNatClampNeg)]) F (c_MO_send l G ad σ wk ch (xs ((nI i) + 1).toNatClampNeg) (xs ((nI i) + 2).toNatClampNeg) hok) ok_MO_send k591 ⟨Nat.le_of_ble_eq_true rfl, Nat.le_of_ble_eq_true rfl⟩ rfl rfl hK (x_rcv hK hMO rfl) (hM') rfl hl.1 rfl (Nat.le_of_ble_eq_true rfl) d_LW_law_293 hf0) hS (hfm) (fun _ _ h => h.2.2.mono hfm) (fun v H10 locs hpost hS => ?_)
        obtain ⟨rfl, ⟨wk2, ch2, hM2⟩, ho2⟩ := hpost
        have hLC2 := hLC'.model had hsa htt ho2
        refine lv_icmp_eq (tgt := 689) F.1 F.2.1 d_LW_law_296 (by decide) (fun _ => ?_) (fun zq => absurd (rfl) zq)
        exact nxt _ ca' nl' num' rp' f' sn' wk2 ch2 _ _ _ _ e0 (Nat.le_add_right cl 9) (Nat.le_add_right sl 540) (gI_snd hok _ _) hLC2 hM2 hS ls hl
      · skip
        refine lv_tableIn (off := 269) (tgt := 301) F.1 F.2.1 d_LW_law_32 (by decide) (by decide) (by decide) (by decide) ?_
        refine lv_aload_n F.1 F.2.1 d_LW_law_301 rfl (lv_at hl 2 rfl) ?_
        refine lv_aload_n F.1 F.2.1 d_LW_law_302 rfl (lv_at hl 3 rfl) ?_
        refine lv_iload_n F.1 F.2.1 d_LW_law_303 rfl (lv_at hl 0 rfl) ?_
        refine lv_iconst (v := 1) F.1 F.2.1 d_LW_law_304 (by decide) ?_
        refine lv_iadd F.1 F.2.1 d_LW_law_305 ?_
        refine va_sld F.1 F.2.1 hX hbl hbA hS (by assumption) d_LW_law_306 ?_
        refine x_wr (x_V (n := 1) (As := [.int (xs ((nI i) + 1).toNatClampNeg)]) F (c_IS_collect l G ca σ nl num rp f sn (xs ((nI i) + 1).toNatClampNeg) hok hN) ok_IS_collect k384 ⟨Nat.le_of_ble_eq_true rfl, Nat.le_of_ble_eq_true rfl⟩ rfl rfl hK (x_rcv hK hO rfl) (hW) rfl hl.1 rfl (Nat.le_of_ble_eq_true rfl) d_LW_law_307 hf0) hS (hfr) (fun _ _ h => h.2.2.mono hfr) (fun v H11 locs hpost hS => ?_)
        obtain ⟨ca', nl', num', rp', f', sn', e0, hLC', hM'⟩ := hLC.call hM hS01 hpost
        have hv1 := hpost.1
        subst hv1
        have hMO := hM'.1
        refine lv_aload_n F.1 F.2.1 d_LW_law_310 rfl (lv_at hl 1 rfl) ?_
        refine lv_aload_n F.1 F.2.1 d_LW_law_311 rfl (lv_at hl 3 rfl) ?_
        refine lv_iload_n F.1 F.2.1 d_LW_law_312 rfl (lv_at hl 0 rfl) ?_
        refine lv_iconst (v := 1) F.1 F.2.1 d_LW_law_313 (by decide) ?_
        refine lv_iadd F.1 F.2.1 d_LW_law_314 ?_
        refine va_sld F.1 F.2.1 hX hbl hbA hS (by assumption) d_LW_law_315 ?_
        refine x_wr (x_V (n := 1) (As := [.int (xs ((nI i) + 1).toNatClampNeg)]) F (c_MO_collect l G ad σ wk ch (xs ((nI i) + 1).toNatClampNeg) hok) ok_MO_collect k629 ⟨Nat.le_of_ble_eq_true rfl, Nat.le_of_ble_eq_true rfl⟩ rfl rfl hK (x_rcv hK hMO rfl) (hM') rfl hl.1 rfl (Nat.le_of_ble_eq_true rfl) d_LW_law_316 hf0) hS (hfm) (fun _ _ h => h.2.2.mono hfm) (fun v H12 locs hpost hS => ?_)
        obtain ⟨rfl, ⟨wk2, ch2, hM2⟩, ho2⟩ := hpost
        have hLC2 := hLC'.model had hsa htt ho2
        refine lv_icmp_eq (tgt := 689) F.1 F.2.1 d_LW_law_319 (by decide) (fun _ => ?_) (fun zq => absurd (rfl) zq)
        exact nxt _ ca' nl' num' rp' f' sn' wk2 ch2 _ _ _ _ e0 (Nat.le_add_right cl 9) (Nat.le_add_right sl 540) (gI_colS hok _) hLC2 hM2 hS ls hl
      · skip
        refine lv_tableIn (off := 292) (tgt := 324) F.1 F.2.1 d_LW_law_32 (by decide) (by decide) (by decide) (by decide) ?_
        refine lv_aload_n F.1 F.2.1 d_LW_law_324 rfl (lv_at hl 2 rfl) ?_
        refine lv_aload_n F.1 F.2.1 d_LW_law_325 rfl (lv_at hl 3 rfl) ?_
        refine lv_iload_n F.1 F.2.1 d_LW_law_326 rfl (lv_at hl 0 rfl) ?_
        refine lv_iconst (v := 1) F.1 F.2.1 d_LW_law_327 (by decide) ?_
        refine lv_iadd F.1 F.2.1 d_LW_law_328 ?_
        refine va_sld F.1 F.2.1 hX hbl hbA hS (by assumption) d_LW_law_329 ?_
        refine lv_aload_n F.1 F.2.1 d_LW_law_330 rfl (lv_at hl 3 rfl) ?_
        refine lv_iload_n F.1 F.2.1 d_LW_law_331 rfl (lv_at hl 0 rfl) ?_
        refine lv_iconst (v := 2) F.1 F.2.1 d_LW_law_332 (by decide) ?_
        refine lv_iadd F.1 F.2.1 d_LW_law_333 ?_
        refine va_sld F.1 F.2.1 hX hbl hbA hS (by assumption) d_LW_law_334 ?_
        refine x_rd (x_V (n := 2) (As := [.int (xs ((nI i) + 1).toNatClampNeg), .int (xs ((nI i) + 2).toNatClampNeg)]) F (c_IS_named l G ca σ nl num rp f sn (xs ((nI i) + 1).toNatClampNeg) (xs ((nI i) + 2).toNatClampNeg)) ok_IS_named k393 ⟨Nat.le_of_ble_eq_true rfl, Nat.le_of_ble_eq_true rfl⟩ rfl rfl hK (x_rcv hK hO rfl) (hW) rfl hl.1 rfl (Nat.le_of_ble_eq_true rfl) d_LW_law_335 hf0) ?_
        refine lv_aload_n F.1 F.2.1 d_LW_law_338 rfl (lv_at hl 1 rfl) ?_
        refine lv_aload_n F.1 F.2.1 d_LW_law_339 rfl (lv_at hl 3 rfl) ?_
        refine lv_iload_n F.1 F.2.1 d_LW_law_340 rfl (lv_at hl 0 rfl) ?_
        refine lv_iconst (v := 1) F.1 F.2.1 d_LW_law_341 (by decide) ?_
        refine lv_iadd F.1 F.2.1 d_LW_law_342 ?_
        refine va_sld F.1 F.2.1 hX hbl hbA hS (by assumption) d_LW_law_343 ?_
        refine lv_aload_n F.1 F.2.1 d_LW_law_344 rfl (lv_at hl 3 rfl) ?_
        refine lv_iload_n F.1 F.2.1 d_LW_law_345 rfl (lv_at hl 0 rfl) ?_
        refine lv_iconst (v := 2) F.1 F.2.1 d_LW_law_346 (by decide) ?_
        refine lv_iadd F.1 F.2.1 d_LW_law_347 ?_
        refine va_sld F.1 F.2.1 hX hbl hbA hS (by assumption) d_LW_law_348 ?_
        refine x_rd (x_V (n := 2) (As := [.int (xs ((nI i) + 1).toNatClampNeg), .int (xs ((nI i) + 2).toNatClampNeg)]) F (c_MO_named l G ad σ wk ch (xs ((nI i) + 1).toNatClampNeg) (xs ((nI i) + 2).toNatClampNeg)) ok_MO_named k633 ⟨Nat.le_of_ble_eq_true rfl, Nat.le_of_ble_eq_true rfl⟩ rfl rfl hK (x_rcv hK hMO rfl) (hM) rfl hl.1 rfl (Nat.le_of_ble_eq_true rfl) d_LW_law_349 hf0) ?_
        refine lv_icmp_eq (tgt := 689) F.1 F.2.1 d_LW_law_352 (by decide) (fun _ => ?_) (fun zq => absurd (rfl) zq)
        exact nxt σ ca nl num rp f sn wk ch _ _ _ _ rfl (Nat.le_add_right cl 9) (Nat.le_add_right sl 540) hok hLC hM hS ls hl
      · skip
        refine lv_tableIn (off := 325) (tgt := 357) F.1 F.2.1 d_LW_law_32 (by decide) (by decide) (by decide) (by decide) ?_
        refine lv_aload_n F.1 F.2.1 d_LW_law_357 rfl (lv_at hl 2 rfl) ?_
        refine lv_aload_n F.1 F.2.1 d_LW_law_358 rfl (lv_at hl 3 rfl) ?_
        refine lv_iload_n F.1 F.2.1 d_LW_law_359 rfl (lv_at hl 0 rfl) ?_
        refine lv_iconst (v := 1) F.1 F.2.1 d_LW_law_360 (by decide) ?_
        refine lv_iadd F.1 F.2.1 d_LW_law_361 ?_
        refine va_sld F.1 F.2.1 hX hbl hbA hS (by assumption) d_LW_law_362 ?_
        refine lv_aload_n F.1 F.2.1 d_LW_law_363 rfl (lv_at hl 3 rfl) ?_
        refine lv_iload_n F.1 F.2.1 d_LW_law_364 rfl (lv_at hl 0 rfl) ?_
        refine lv_iconst (v := 2) F.1 F.2.1 d_LW_law_365 (by decide) ?_
        refine lv_iadd F.1 F.2.1 d_LW_law_366 ?_
        refine va_sld F.1 F.2.1 hX hbl hbA hS (by assumption) d_LW_law_367 ?_
        refine x_rd (x_V (n := 2) (As := [.int (xs ((nI i) + 1).toNatClampNeg), .int (xs ((nI i) + 2).toNatClampNeg)]) F (c_IS_held l G ca σ nl num rp f sn (xs ((nI i) + 1).toNatClampNeg) (xs ((nI i) + 2).toNatClampNeg) hok) ok_IS_held k397 ⟨Nat.le_of_ble_eq_true rfl, Nat.le_of_ble_eq_true rfl⟩ rfl rfl hK (x_rcv hK hO rfl) (hW) rfl hl.1 rfl (Nat.le_of_ble_eq_true rfl) d_LW_law_368 hf0) ?_
        refine lv_aload_n F.1 F.2.1 d_LW_law_371 rfl (lv_at hl 1 rfl) ?_
        refine lv_aload_n F.1 F.2.1 d_LW_law_372 rfl (lv_at hl 3 rfl) ?_
        refine lv_iload_n F.1 F.2.1 d_LW_law_373 rfl (lv_at hl 0 rfl) ?_
        refine lv_iconst (v := 1) F.1 F.2.1 d_LW_law_374 (by decide) ?_
        refine lv_iadd F.1 F.2.1 d_LW_law_375 ?_
        refine va_sld F.1 F.2.1 hX hbl hbA hS (by assumption) d_LW_law_376 ?_
        refine lv_aload_n F.1 F.2.1 d_LW_law_377 rfl (lv_at hl 3 rfl) ?_
        refine lv_iload_n F.1 F.2.1 d_LW_law_378 rfl (lv_at hl 0 rfl) ?_
        refine lv_iconst (v := 2) F.1 F.2.1 d_LW_law_379 (by decide) ?_
        refine lv_iadd F.1 F.2.1 d_LW_law_380 ?_
        refine va_sld F.1 F.2.1 hX hbl hbA hS (by assumption) d_LW_law_381 ?_
        refine x_rd (x_V (n := 2) (As := [.int (xs ((nI i) + 1).toNatClampNeg), .int (xs ((nI i) + 2).toNatClampNeg)]) F (c_MO_held l G ad σ wk ch (xs ((nI i) + 1).toNatClampNeg) (xs ((nI i) + 2).toNatClampNeg) hok.1) ok_MO_held k637 ⟨Nat.le_of_ble_eq_true rfl, Nat.le_of_ble_eq_true rfl⟩ rfl rfl hK (x_rcv hK hMO rfl) (hM) rfl hl.1 rfl (Nat.le_of_ble_eq_true rfl) d_LW_law_382 hf0) ?_
        refine lv_icmp_eq (tgt := 689) F.1 F.2.1 d_LW_law_385 (by decide) (fun _ => ?_) (fun zq => absurd (rfl) zq)
        exact nxt σ ca nl num rp f sn wk ch _ _ _ _ rfl (Nat.le_add_right cl 9) (Nat.le_add_right sl 540) hok hLC hM hS ls hl
      · skip
        refine lv_tableIn (off := 358) (tgt := 390) F.1 F.2.1 d_LW_law_32 (by decide) (by decide) (by decide) (by decide) ?_
        refine lv_aload_n F.1 F.2.1 d_LW_law_390 rfl (lv_at hl 2 rfl) ?_
        refine lv_aload_n F.1 F.2.1 d_LW_law_391 rfl (lv_at hl 3 rfl) ?_
        refine lv_iload_n F.1 F.2.1 d_LW_law_392 rfl (lv_at hl 0 rfl) ?_
        refine lv_iconst (v := 1) F.1 F.2.1 d_LW_law_393 (by decide) ?_
        refine lv_iadd F.1 F.2.1 d_LW_law_394 ?_
        refine va_sld F.1 F.2.1 hX hbl hbA hS (by assumption) d_LW_law_395 ?_
        refine lv_aload_n F.1 F.2.1 d_LW_law_396 rfl (lv_at hl 3 rfl) ?_
        refine lv_iload_n F.1 F.2.1 d_LW_law_397 rfl (lv_at hl 0 rfl) ?_
        refine lv_iconst (v := 2) F.1 F.2.1 d_LW_law_398 (by decide) ?_
        refine lv_iadd F.1 F.2.1 d_LW_law_399 ?_
        refine va_sld F.1 F.2.1 hX hbl hbA hS (by assumption) d_LW_law_400 ?_
        refine x_rd (x_V (n := 2) (As := [.int (xs ((nI i) + 1).toNatClampNeg), .int (xs ((nI i) + 2).toNatClampNeg)]) F (c_IS_look l G ca σ nl num rp f sn (xs ((nI i) + 1).toNatClampNeg) (xs ((nI i) + 2).toNatClampNeg) hok) ok_IS_look k401 ⟨Nat.le_of_ble_eq_true rfl, Nat.le_of_ble_eq_true rfl⟩ rfl rfl hK (x_rcv hK hO rfl) (hW) rfl hl.1 rfl (Nat.le_of_ble_eq_true rfl) d_LW_law_401 hf0) ?_
        refine lv_aload_n F.1 F.2.1 d_LW_law_404 rfl (lv_at hl 1 rfl) ?_
        refine lv_aload_n F.1 F.2.1 d_LW_law_405 rfl (lv_at hl 3 rfl) ?_
        refine lv_iload_n F.1 F.2.1 d_LW_law_406 rfl (lv_at hl 0 rfl) ?_
        refine lv_iconst (v := 1) F.1 F.2.1 d_LW_law_407 (by decide) ?_
        refine lv_iadd F.1 F.2.1 d_LW_law_408 ?_
        refine va_sld F.1 F.2.1 hX hbl hbA hS (by assumption) d_LW_law_409 ?_
        refine lv_aload_n F.1 F.2.1 d_LW_law_410 rfl (lv_at hl 3 rfl) ?_
        refine lv_iload_n F.1 F.2.1 d_LW_law_411 rfl (lv_at hl 0 rfl) ?_
        refine lv_iconst (v := 2) F.1 F.2.1 d_LW_law_412 (by decide) ?_
        refine lv_iadd F.1 F.2.1 d_LW_law_413 ?_
        refine va_sld F.1 F.2.1 hX hbl hbA hS (by assumption) d_LW_law_414 ?_
        refine x_rd (x_V (n := 2) (As := [.int (xs ((nI i) + 1).toNatClampNeg), .int (xs ((nI i) + 2).toNatClampNeg)]) F (c_MO_look l G ad σ wk ch (xs ((nI i) + 1).toNatClampNeg) (xs ((nI i) + 2).toNatClampNeg) hok.1) ok_MO_look k641 ⟨Nat.le_of_ble_eq_true rfl, Nat.le_of_ble_eq_true rfl⟩ rfl rfl hK (x_rcv hK hMO rfl) (hM) rfl hl.1 rfl (Nat.le_of_ble_eq_true rfl) d_LW_law_415 hf0) ?_
        refine x_leq (tgt := 689) F d_LW_law_418 d_LW_law_419 (by decide) (fun _ => ?_) (fun zq => absurd (rfl) zq)
        exact nxt σ ca nl num rp f sn wk ch _ _ _ _ rfl (Nat.le_add_right cl 9) (Nat.le_add_right sl 540) hok hLC hM hS ls hl
      · skip
        refine lv_tableIn (off := 392) (tgt := 424) F.1 F.2.1 d_LW_law_32 (by decide) (by decide) (by decide) (by decide) ?_
        refine lv_aload_n F.1 F.2.1 d_LW_law_424 rfl (lv_at hl 2 rfl) ?_
        refine lv_aload_n F.1 F.2.1 d_LW_law_425 rfl (lv_at hl 3 rfl) ?_
        refine lv_iload_n F.1 F.2.1 d_LW_law_426 rfl (lv_at hl 0 rfl) ?_
        refine lv_iconst (v := 1) F.1 F.2.1 d_LW_law_427 (by decide) ?_
        refine lv_iadd F.1 F.2.1 d_LW_law_428 ?_
        refine va_sld F.1 F.2.1 hX hbl hbA hS (by assumption) d_LW_law_429 ?_
        refine lv_aload_n F.1 F.2.1 d_LW_law_430 rfl (lv_at hl 3 rfl) ?_
        refine lv_iload_n F.1 F.2.1 d_LW_law_431 rfl (lv_at hl 0 rfl) ?_
        refine lv_iconst (v := 2) F.1 F.2.1 d_LW_law_432 (by decide) ?_
        refine lv_iadd F.1 F.2.1 d_LW_law_433 ?_
        refine va_sld F.1 F.2.1 hX hbl hbA hS (by assumption) d_LW_law_434 ?_
        refine x_rd (x_V (n := 2) (As := [.int (xs ((nI i) + 1).toNatClampNeg), .int (xs ((nI i) + 2).toNatClampNeg)]) F (c_IS_next l G ca σ nl num rp f sn (xs ((nI i) + 1).toNatClampNeg) (xs ((nI i) + 2).toNatClampNeg) hok) ok_IS_next k410 ⟨Nat.le_of_ble_eq_true rfl, Nat.le_of_ble_eq_true rfl⟩ rfl rfl hK (x_rcv hK hO rfl) (hW) rfl hl.1 rfl (Nat.le_of_ble_eq_true rfl) d_LW_law_435 hf0) ?_
        refine lv_aload_n F.1 F.2.1 d_LW_law_438 rfl (lv_at hl 1 rfl) ?_
        refine lv_aload_n F.1 F.2.1 d_LW_law_439 rfl (lv_at hl 3 rfl) ?_
        refine lv_iload_n F.1 F.2.1 d_LW_law_440 rfl (lv_at hl 0 rfl) ?_
        refine lv_iconst (v := 1) F.1 F.2.1 d_LW_law_441 (by decide) ?_
        refine lv_iadd F.1 F.2.1 d_LW_law_442 ?_
        refine va_sld F.1 F.2.1 hX hbl hbA hS (by assumption) d_LW_law_443 ?_
        refine lv_aload_n F.1 F.2.1 d_LW_law_444 rfl (lv_at hl 3 rfl) ?_
        refine lv_iload_n F.1 F.2.1 d_LW_law_445 rfl (lv_at hl 0 rfl) ?_
        refine lv_iconst (v := 2) F.1 F.2.1 d_LW_law_446 (by decide) ?_
        refine lv_iadd F.1 F.2.1 d_LW_law_447 ?_
        refine va_sld F.1 F.2.1 hX hbl hbA hS (by assumption) d_LW_law_448 ?_
        refine x_rd (x_V (n := 2) (As := [.int (xs ((nI i) + 1).toNatClampNeg), .int (xs ((nI i) + 2).toNatClampNeg)]) F (c_MO_next l G ad σ wk ch (xs ((nI i) + 1).toNatClampNeg) (xs ((nI i) + 2).toNatClampNeg) hok.1) ok_MO_next k645 ⟨Nat.le_of_ble_eq_true rfl, Nat.le_of_ble_eq_true rfl⟩ rfl rfl hK (x_rcv hK hMO rfl) (hM) rfl hl.1 rfl (Nat.le_of_ble_eq_true rfl) d_LW_law_449 hf0) ?_
        refine lv_icmp_eq (tgt := 689) F.1 F.2.1 d_LW_law_452 (by decide) (fun _ => ?_) (fun zq => absurd (rfl) zq)
        exact nxt σ ca nl num rp f sn wk ch _ _ _ _ rfl (Nat.le_add_right cl 9) (Nat.le_add_right sl 540) hok hLC hM hS ls hl
      · skip
        refine lv_tableIn (off := 425) (tgt := 457) F.1 F.2.1 d_LW_law_32 (by decide) (by decide) (by decide) (by decide) ?_
        refine lv_aload_n F.1 F.2.1 d_LW_law_457 rfl (lv_at hl 2 rfl) ?_
        refine lv_aload_n F.1 F.2.1 d_LW_law_458 rfl (lv_at hl 3 rfl) ?_
        refine lv_iload_n F.1 F.2.1 d_LW_law_459 rfl (lv_at hl 0 rfl) ?_
        refine lv_iconst (v := 1) F.1 F.2.1 d_LW_law_460 (by decide) ?_
        refine lv_iadd F.1 F.2.1 d_LW_law_461 ?_
        refine va_sld F.1 F.2.1 hX hbl hbA hS (by assumption) d_LW_law_462 ?_
        refine x_rd (x_V (n := 1) (As := [.int (xs ((nI i) + 1).toNatClampNeg)]) F (c_IS_layers l G ca σ nl num rp f sn (xs ((nI i) + 1).toNatClampNeg) hok) ok_IS_layers k418 ⟨Nat.le_of_ble_eq_true rfl, Nat.le_of_ble_eq_true rfl⟩ rfl rfl hK (x_rcv hK hO rfl) (hW) rfl hl.1 rfl (Nat.le_of_ble_eq_true rfl) d_LW_law_463 hf0) ?_
        refine lv_aload_n F.1 F.2.1 d_LW_law_466 rfl (lv_at hl 1 rfl) ?_
        refine lv_aload_n F.1 F.2.1 d_LW_law_467 rfl (lv_at hl 3 rfl) ?_
        refine lv_iload_n F.1 F.2.1 d_LW_law_468 rfl (lv_at hl 0 rfl) ?_
        refine lv_iconst (v := 1) F.1 F.2.1 d_LW_law_469 (by decide) ?_
        refine lv_iadd F.1 F.2.1 d_LW_law_470 ?_
        refine va_sld F.1 F.2.1 hX hbl hbA hS (by assumption) d_LW_law_471 ?_
        refine x_rd (x_V (n := 1) (As := [.int (xs ((nI i) + 1).toNatClampNeg)]) F (c_MO_layers l G ad σ wk ch (xs ((nI i) + 1).toNatClampNeg) hok.1) ok_MO_layers k649 ⟨Nat.le_of_ble_eq_true rfl, Nat.le_of_ble_eq_true rfl⟩ rfl rfl hK (x_rcv hK hMO rfl) (hM) rfl hl.1 rfl (Nat.le_of_ble_eq_true rfl) d_LW_law_472 hf0) ?_
        refine lv_icmp_eq (tgt := 689) F.1 F.2.1 d_LW_law_475 (by decide) (fun _ => ?_) (fun zq => absurd (rfl) zq)
        exact nxt σ ca nl num rp f sn wk ch _ _ _ _ rfl (Nat.le_add_right cl 9) (Nat.le_add_right sl 540) hok hLC hM hS ls hl
      · skip
        refine lv_tableIn (off := 448) (tgt := 480) F.1 F.2.1 d_LW_law_32 (by decide) (by decide) (by decide) (by decide) ?_
        refine lv_aload_n F.1 F.2.1 d_LW_law_480 rfl (lv_at hl 2 rfl) ?_
        refine lv_aload_n F.1 F.2.1 d_LW_law_481 rfl (lv_at hl 3 rfl) ?_
        refine lv_iload_n F.1 F.2.1 d_LW_law_482 rfl (lv_at hl 0 rfl) ?_
        refine lv_iconst (v := 1) F.1 F.2.1 d_LW_law_483 (by decide) ?_
        refine lv_iadd F.1 F.2.1 d_LW_law_484 ?_
        refine va_sld F.1 F.2.1 hX hbl hbA hS (by assumption) d_LW_law_485 ?_
        refine lv_aload_n F.1 F.2.1 d_LW_law_486 rfl (lv_at hl 3 rfl) ?_
        refine lv_iload_n F.1 F.2.1 d_LW_law_487 rfl (lv_at hl 0 rfl) ?_
        refine lv_iconst (v := 2) F.1 F.2.1 d_LW_law_488 (by decide) ?_
        refine lv_iadd F.1 F.2.1 d_LW_law_489 ?_
        refine va_sld F.1 F.2.1 hX hbl hbA hS (by assumption) d_LW_law_490 ?_
        refine x_rd (x_V (n := 2) (As := [.int (xs ((nI i) + 1).toNatClampNeg), .int (xs ((nI i) + 2).toNatClampNeg)]) F (c_IS_entries l G ca σ nl num rp f sn (xs ((nI i) + 1).toNatClampNeg) (xs ((nI i) + 2).toNatClampNeg) hok hN) ok_IS_entries k422 ⟨Nat.le_of_ble_eq_true rfl, Nat.le_of_ble_eq_true rfl⟩ rfl rfl hK (x_rcv hK hO rfl) (hW) rfl hl.1 rfl (Nat.le_of_ble_eq_true rfl) d_LW_law_491 hf0) ?_
        refine lv_aload_n F.1 F.2.1 d_LW_law_494 rfl (lv_at hl 1 rfl) ?_
        refine lv_aload_n F.1 F.2.1 d_LW_law_495 rfl (lv_at hl 3 rfl) ?_
        refine lv_iload_n F.1 F.2.1 d_LW_law_496 rfl (lv_at hl 0 rfl) ?_
        refine lv_iconst (v := 1) F.1 F.2.1 d_LW_law_497 (by decide) ?_
        refine lv_iadd F.1 F.2.1 d_LW_law_498 ?_
        refine va_sld F.1 F.2.1 hX hbl hbA hS (by assumption) d_LW_law_499 ?_
        refine lv_aload_n F.1 F.2.1 d_LW_law_500 rfl (lv_at hl 3 rfl) ?_
        refine lv_iload_n F.1 F.2.1 d_LW_law_501 rfl (lv_at hl 0 rfl) ?_
        refine lv_iconst (v := 2) F.1 F.2.1 d_LW_law_502 (by decide) ?_
        refine lv_iadd F.1 F.2.1 d_LW_law_503 ?_
        refine va_sld F.1 F.2.1 hX hbl hbA hS (by assumption) d_LW_law_504 ?_
        refine x_rd (x_V (n := 2) (As := [.int (xs ((nI i) + 1).toNatClampNeg), .int (xs ((nI i) + 2).toNatClampNeg)]) F (c_MO_entries l G ad σ wk ch (xs ((nI i) + 1).toNatClampNeg) (xs ((nI i) + 2).toNatClampNeg) hok) ok_MO_entries k657 ⟨Nat.le_of_ble_eq_true rfl, Nat.le_of_ble_eq_true rfl⟩ rfl rfl hK (x_rcv hK hMO rfl) (hM) rfl hl.1 rfl (Nat.le_of_ble_eq_true rfl) d_LW_law_505 hf0) ?_
        refine lv_icmp_eq (tgt := 689) F.1 F.2.1 d_LW_law_508 (by decide) (fun _ => ?_) (fun zq => absurd (rfl) zq)
        exact nxt σ ca nl num rp f sn wk ch _ _ _ _ rfl (Nat.le_add_right cl 9) (Nat.le_add_right sl 540) hok hLC hM hS ls hl
      · skip
        refine lv_tableIn (off := 481) (tgt := 513) F.1 F.2.1 d_LW_law_32 (by decide) (by decide) (by decide) (by decide) ?_
        refine lv_aload_n F.1 F.2.1 d_LW_law_513 rfl (lv_at hl 2 rfl) ?_
        refine lv_aload_n F.1 F.2.1 d_LW_law_514 rfl (lv_at hl 3 rfl) ?_
        refine lv_iload_n F.1 F.2.1 d_LW_law_515 rfl (lv_at hl 0 rfl) ?_
        refine lv_iconst (v := 1) F.1 F.2.1 d_LW_law_516 (by decide) ?_
        refine lv_iadd F.1 F.2.1 d_LW_law_517 ?_
        refine va_sld F.1 F.2.1 hX hbl hbA hS (by assumption) d_LW_law_518 ?_
        refine lv_aload_n F.1 F.2.1 d_LW_law_519 rfl (lv_at hl 3 rfl) ?_
        refine lv_iload_n F.1 F.2.1 d_LW_law_520 rfl (lv_at hl 0 rfl) ?_
        refine lv_iconst (v := 2) F.1 F.2.1 d_LW_law_521 (by decide) ?_
        refine lv_iadd F.1 F.2.1 d_LW_law_522 ?_
        refine va_sld F.1 F.2.1 hX hbl hbA hS (by assumption) d_LW_law_523 ?_
        refine lv_aload_n F.1 F.2.1 d_LW_law_524 rfl (lv_at hl 3 rfl) ?_
        refine lv_iload_n F.1 F.2.1 d_LW_law_525 rfl (lv_at hl 0 rfl) ?_
        refine lv_iconst (v := 3) F.1 F.2.1 d_LW_law_526 (by decide) ?_
        refine lv_iadd F.1 F.2.1 d_LW_law_527 ?_
        refine va_sld F.1 F.2.1 hX hbl hbA hS (by assumption) d_LW_law_528 ?_
        refine x_rd (x_V (n := 3) (As := [.int (xs ((nI i) + 1).toNatClampNeg), .int (xs ((nI i) + 2).toNatClampNeg), .int (xs ((nI i) + 3).toNatClampNeg)]) F (c_IS_entryPath l G ca σ nl num rp f sn (xs ((nI i) + 1).toNatClampNeg) (xs ((nI i) + 2).toNatClampNeg) (xs ((nI i) + 3).toNatClampNeg) hok hN) ok_IS_entryPath k438 ⟨Nat.le_of_ble_eq_true rfl, Nat.le_of_ble_eq_true rfl⟩ rfl rfl hK (x_rcv hK hO rfl) (hW) rfl hl.1 rfl (Nat.le_of_ble_eq_true rfl) d_LW_law_529 hf0) ?_
        refine lv_aload_n F.1 F.2.1 d_LW_law_532 rfl (lv_at hl 1 rfl) ?_
        refine lv_aload_n F.1 F.2.1 d_LW_law_533 rfl (lv_at hl 3 rfl) ?_
        refine lv_iload_n F.1 F.2.1 d_LW_law_534 rfl (lv_at hl 0 rfl) ?_
        refine lv_iconst (v := 1) F.1 F.2.1 d_LW_law_535 (by decide) ?_
        refine lv_iadd F.1 F.2.1 d_LW_law_536 ?_
        refine va_sld F.1 F.2.1 hX hbl hbA hS (by assumption) d_LW_law_537 ?_
        refine lv_aload_n F.1 F.2.1 d_LW_law_538 rfl (lv_at hl 3 rfl) ?_
        refine lv_iload_n F.1 F.2.1 d_LW_law_539 rfl (lv_at hl 0 rfl) ?_
        refine lv_iconst (v := 2) F.1 F.2.1 d_LW_law_540 (by decide) ?_
        refine lv_iadd F.1 F.2.1 d_LW_law_541 ?_
        refine va_sld F.1 F.2.1 hX hbl hbA hS (by assumption) d_LW_law_542 ?_
        refine lv_aload_n F.1 F.2.1 d_LW_law_543 rfl (lv_at hl 3 rfl) ?_
        refine lv_iload_n F.1 F.2.1 d_LW_law_544 rfl (lv_at hl 0 rfl) ?_
        refine lv_iconst (v := 3) F.1 F.2.1 d_LW_law_545 (by decide) ?_
        refine lv_iadd F.1 F.2.1 d_LW_law_546 ?_
        refine va_sld F.1 F.2.1 hX hbl hbA hS (by assumption) d_LW_law_547 ?_
        refine x_rd (x_V (n := 3) (As := [.int (xs ((nI i) + 1).toNatClampNeg), .int (xs ((nI i) + 2).toNatClampNeg), .int (xs ((nI i) + 3).toNatClampNeg)]) F (c_MO_entryPath l G ad σ wk ch (xs ((nI i) + 1).toNatClampNeg) (xs ((nI i) + 2).toNatClampNeg) (xs ((nI i) + 3).toNatClampNeg) hok) ok_MO_entryPath k665 ⟨Nat.le_of_ble_eq_true rfl, Nat.le_of_ble_eq_true rfl⟩ rfl rfl hK (x_rcv hK hMO rfl) (hM) rfl hl.1 rfl (Nat.le_of_ble_eq_true rfl) d_LW_law_548 hf0) ?_
        refine lv_icmp_eq (tgt := 689) F.1 F.2.1 d_LW_law_551 (by decide) (fun _ => ?_) (fun zq => absurd (rfl) zq)
        exact nxt σ ca nl num rp f sn wk ch _ _ _ _ rfl (Nat.le_add_right cl 9) (Nat.le_add_right sl 540) hok hLC hM hS ls hl
      · skip
        refine lv_tableIn (off := 524) (tgt := 556) F.1 F.2.1 d_LW_law_32 (by decide) (by decide) (by decide) (by decide) ?_
        refine lv_aload_n F.1 F.2.1 d_LW_law_556 rfl (lv_at hl 2 rfl) ?_
        refine lv_aload_n F.1 F.2.1 d_LW_law_557 rfl (lv_at hl 3 rfl) ?_
        refine lv_iload_n F.1 F.2.1 d_LW_law_558 rfl (lv_at hl 0 rfl) ?_
        refine lv_iconst (v := 1) F.1 F.2.1 d_LW_law_559 (by decide) ?_
        refine lv_iadd F.1 F.2.1 d_LW_law_560 ?_
        refine va_sld F.1 F.2.1 hX hbl hbA hS (by assumption) d_LW_law_561 ?_
        refine lv_aload_n F.1 F.2.1 d_LW_law_562 rfl (lv_at hl 3 rfl) ?_
        refine lv_iload_n F.1 F.2.1 d_LW_law_563 rfl (lv_at hl 0 rfl) ?_
        refine lv_iconst (v := 2) F.1 F.2.1 d_LW_law_564 (by decide) ?_
        refine lv_iadd F.1 F.2.1 d_LW_law_565 ?_
        refine va_sld F.1 F.2.1 hX hbl hbA hS (by assumption) d_LW_law_566 ?_
        refine lv_aload_n F.1 F.2.1 d_LW_law_567 rfl (lv_at hl 3 rfl) ?_
        refine lv_iload_n F.1 F.2.1 d_LW_law_568 rfl (lv_at hl 0 rfl) ?_
        refine lv_iconst (v := 3) F.1 F.2.1 d_LW_law_569 (by decide) ?_
        refine lv_iadd F.1 F.2.1 d_LW_law_570 ?_
        refine va_sld F.1 F.2.1 hX hbl hbA hS (by assumption) d_LW_law_571 ?_
        refine x_rd (x_V (n := 3) (As := [.int (xs ((nI i) + 1).toNatClampNeg), .int (xs ((nI i) + 2).toNatClampNeg), .int (xs ((nI i) + 3).toNatClampNeg)]) F (c_IS_entryMark l G ca σ nl num rp f sn (xs ((nI i) + 1).toNatClampNeg) (xs ((nI i) + 2).toNatClampNeg) (xs ((nI i) + 3).toNatClampNeg) hok hN) ok_IS_entryMark k446 ⟨Nat.le_of_ble_eq_true rfl, Nat.le_of_ble_eq_true rfl⟩ rfl rfl hK (x_rcv hK hO rfl) (hW) rfl hl.1 rfl (Nat.le_of_ble_eq_true rfl) d_LW_law_572 hf0) ?_
        refine lv_aload_n F.1 F.2.1 d_LW_law_575 rfl (lv_at hl 1 rfl) ?_
        refine lv_aload_n F.1 F.2.1 d_LW_law_576 rfl (lv_at hl 3 rfl) ?_
        refine lv_iload_n F.1 F.2.1 d_LW_law_577 rfl (lv_at hl 0 rfl) ?_
        refine lv_iconst (v := 1) F.1 F.2.1 d_LW_law_578 (by decide) ?_
        refine lv_iadd F.1 F.2.1 d_LW_law_579 ?_
        refine va_sld F.1 F.2.1 hX hbl hbA hS (by assumption) d_LW_law_580 ?_
        refine lv_aload_n F.1 F.2.1 d_LW_law_581 rfl (lv_at hl 3 rfl) ?_
        refine lv_iload_n F.1 F.2.1 d_LW_law_582 rfl (lv_at hl 0 rfl) ?_
        refine lv_iconst (v := 2) F.1 F.2.1 d_LW_law_583 (by decide) ?_
        refine lv_iadd F.1 F.2.1 d_LW_law_584 ?_
        refine va_sld F.1 F.2.1 hX hbl hbA hS (by assumption) d_LW_law_585 ?_
        refine lv_aload_n F.1 F.2.1 d_LW_law_586 rfl (lv_at hl 3 rfl) ?_
        refine lv_iload_n F.1 F.2.1 d_LW_law_587 rfl (lv_at hl 0 rfl) ?_
        refine lv_iconst (v := 3) F.1 F.2.1 d_LW_law_588 (by decide) ?_
        refine lv_iadd F.1 F.2.1 d_LW_law_589 ?_
        refine va_sld F.1 F.2.1 hX hbl hbA hS (by assumption) d_LW_law_590 ?_
        refine x_rd (x_V (n := 3) (As := [.int (xs ((nI i) + 1).toNatClampNeg), .int (xs ((nI i) + 2).toNatClampNeg), .int (xs ((nI i) + 3).toNatClampNeg)]) F (c_MO_entryMark l G ad σ wk ch (xs ((nI i) + 1).toNatClampNeg) (xs ((nI i) + 2).toNatClampNeg) (xs ((nI i) + 3).toNatClampNeg) hok) ok_MO_entryMark k669 ⟨Nat.le_of_ble_eq_true rfl, Nat.le_of_ble_eq_true rfl⟩ rfl rfl hK (x_rcv hK hMO rfl) (hM) rfl hl.1 rfl (Nat.le_of_ble_eq_true rfl) d_LW_law_591 hf0) ?_
        refine x_leq (tgt := 689) F d_LW_law_594 d_LW_law_595 (by decide) (fun _ => ?_) (fun zq => absurd (rfl) zq)
        exact nxt σ ca nl num rp f sn wk ch _ _ _ _ rfl (Nat.le_add_right cl 9) (Nat.le_add_right sl 540) hok hLC hM hS ls hl
      · skip
        refine lv_tableIn (off := 568) (tgt := 600) F.1 F.2.1 d_LW_law_32 (by decide) (by decide) (by decide) (by decide) ?_
        refine lv_aload_n F.1 F.2.1 d_LW_law_600 rfl (lv_at hl 2 rfl) ?_
        refine lv_aload_n F.1 F.2.1 d_LW_law_601 rfl (lv_at hl 3 rfl) ?_
        refine lv_iload_n F.1 F.2.1 d_LW_law_602 rfl (lv_at hl 0 rfl) ?_
        refine lv_iconst (v := 1) F.1 F.2.1 d_LW_law_603 (by decide) ?_
        refine lv_iadd F.1 F.2.1 d_LW_law_604 ?_
        refine va_sld F.1 F.2.1 hX hbl hbA hS (by assumption) d_LW_law_605 ?_
        refine lv_aload_n F.1 F.2.1 d_LW_law_606 rfl (lv_at hl 3 rfl) ?_
        refine lv_iload_n F.1 F.2.1 d_LW_law_607 rfl (lv_at hl 0 rfl) ?_
        refine lv_iconst (v := 2) F.1 F.2.1 d_LW_law_608 (by decide) ?_
        refine lv_iadd F.1 F.2.1 d_LW_law_609 ?_
        refine va_sld F.1 F.2.1 hX hbl hbA hS (by assumption) d_LW_law_610 ?_
        refine x_rd (x_V (n := 2) (As := [.int (xs ((nI i) + 1).toNatClampNeg), .int (xs ((nI i) + 2).toNatClampNeg)]) F (c_IS_common l G ca σ nl num rp f sn (xs ((nI i) + 1).toNatClampNeg) (xs ((nI i) + 2).toNatClampNeg) hok hN) ok_IS_common k450 ⟨Nat.le_of_ble_eq_true rfl, Nat.le_of_ble_eq_true rfl⟩ rfl rfl hK (x_rcv hK hO rfl) (hW) rfl hl.1 rfl (Nat.le_of_ble_eq_true rfl) d_LW_law_611 hf0) ?_
        refine lv_aload_n F.1 F.2.1 d_LW_law_614 rfl (lv_at hl 1 rfl) ?_
        refine lv_aload_n F.1 F.2.1 d_LW_law_615 rfl (lv_at hl 3 rfl) ?_
        refine lv_iload_n F.1 F.2.1 d_LW_law_616 rfl (lv_at hl 0 rfl) ?_
        refine lv_iconst (v := 1) F.1 F.2.1 d_LW_law_617 (by decide) ?_
        refine lv_iadd F.1 F.2.1 d_LW_law_618 ?_
        refine va_sld F.1 F.2.1 hX hbl hbA hS (by assumption) d_LW_law_619 ?_
        refine lv_aload_n F.1 F.2.1 d_LW_law_620 rfl (lv_at hl 3 rfl) ?_
        refine lv_iload_n F.1 F.2.1 d_LW_law_621 rfl (lv_at hl 0 rfl) ?_
        refine lv_iconst (v := 2) F.1 F.2.1 d_LW_law_622 (by decide) ?_
        refine lv_iadd F.1 F.2.1 d_LW_law_623 ?_
        refine va_sld F.1 F.2.1 hX hbl hbA hS (by assumption) d_LW_law_624 ?_
        refine x_rd (x_V (n := 2) (As := [.int (xs ((nI i) + 1).toNatClampNeg), .int (xs ((nI i) + 2).toNatClampNeg)]) F (c_MO_common l G ad σ wk ch (xs ((nI i) + 1).toNatClampNeg) (xs ((nI i) + 2).toNatClampNeg) hok) ok_MO_common k674 ⟨Nat.le_of_ble_eq_true rfl, Nat.le_of_ble_eq_true rfl⟩ rfl rfl hK (x_rcv hK hMO rfl) (hM) rfl hl.1 rfl (Nat.le_of_ble_eq_true rfl) d_LW_law_625 hf0) ?_
        refine lv_icmp_eq (tgt := 689) F.1 F.2.1 d_LW_law_628 (by decide) (fun _ => ?_) (fun zq => absurd (rfl) zq)
        exact nxt σ ca nl num rp f sn wk ch _ _ _ _ rfl (Nat.le_add_right cl 9) (Nat.le_add_right sl 540) hok hLC hM hS ls hl
      · skip
        refine lv_tableIn (off := 601) (tgt := 633) F.1 F.2.1 d_LW_law_32 (by decide) (by decide) (by decide) (by decide) ?_
        refine lv_aload_n F.1 F.2.1 d_LW_law_633 rfl (lv_at hl 2 rfl) ?_
        refine lv_aload_n F.1 F.2.1 d_LW_law_634 rfl (lv_at hl 3 rfl) ?_
        refine lv_iload_n F.1 F.2.1 d_LW_law_635 rfl (lv_at hl 0 rfl) ?_
        refine lv_iconst (v := 1) F.1 F.2.1 d_LW_law_636 (by decide) ?_
        refine lv_iadd F.1 F.2.1 d_LW_law_637 ?_
        refine va_sld F.1 F.2.1 hX hbl hbA hS (by assumption) d_LW_law_638 ?_
        refine lv_aload_n F.1 F.2.1 d_LW_law_639 rfl (lv_at hl 3 rfl) ?_
        refine lv_iload_n F.1 F.2.1 d_LW_law_640 rfl (lv_at hl 0 rfl) ?_
        refine lv_iconst (v := 2) F.1 F.2.1 d_LW_law_641 (by decide) ?_
        refine lv_iadd F.1 F.2.1 d_LW_law_642 ?_
        refine va_sld F.1 F.2.1 hX hbl hbA hS (by assumption) d_LW_law_643 ?_
        refine x_rd (x_V (n := 2) (As := [.int (xs ((nI i) + 1).toNatClampNeg), .int (xs ((nI i) + 2).toNatClampNeg)]) F (c_IS_shared l G ca σ nl num rp f sn (xs ((nI i) + 1).toNatClampNeg) (xs ((nI i) + 2).toNatClampNeg) hok hN) ok_IS_shared k455 ⟨Nat.le_of_ble_eq_true rfl, Nat.le_of_ble_eq_true rfl⟩ rfl rfl hK (x_rcv hK hO rfl) (hW) rfl hl.1 rfl (Nat.le_of_ble_eq_true rfl) d_LW_law_644 hf0) ?_
        refine lv_aload_n F.1 F.2.1 d_LW_law_647 rfl (lv_at hl 1 rfl) ?_
        refine lv_aload_n F.1 F.2.1 d_LW_law_648 rfl (lv_at hl 3 rfl) ?_
        refine lv_iload_n F.1 F.2.1 d_LW_law_649 rfl (lv_at hl 0 rfl) ?_
        refine lv_iconst (v := 1) F.1 F.2.1 d_LW_law_650 (by decide) ?_
        refine lv_iadd F.1 F.2.1 d_LW_law_651 ?_
        refine va_sld F.1 F.2.1 hX hbl hbA hS (by assumption) d_LW_law_652 ?_
        refine lv_aload_n F.1 F.2.1 d_LW_law_653 rfl (lv_at hl 3 rfl) ?_
        refine lv_iload_n F.1 F.2.1 d_LW_law_654 rfl (lv_at hl 0 rfl) ?_
        refine lv_iconst (v := 2) F.1 F.2.1 d_LW_law_655 (by decide) ?_
        refine lv_iadd F.1 F.2.1 d_LW_law_656 ?_
        refine va_sld F.1 F.2.1 hX hbl hbA hS (by assumption) d_LW_law_657 ?_
        refine x_wr (x_V (n := 2) (As := [.int (xs ((nI i) + 1).toNatClampNeg), .int (xs ((nI i) + 2).toNatClampNeg)]) F (c_MO_shared l G ad σ wk ch (xs ((nI i) + 1).toNatClampNeg) (xs ((nI i) + 2).toNatClampNeg) hok) ok_MO_shared k678 ⟨Nat.le_of_ble_eq_true rfl, Nat.le_of_ble_eq_true rfl⟩ rfl rfl hK (x_rcv hK hMO rfl) (hM) rfl hl.1 rfl (Nat.le_of_ble_eq_true rfl) d_LW_law_658 hf0) hS (hfm) (fun _ _ h => h.2.2.mono hfm) (fun v H13 locs hpost hS => ?_)
        obtain ⟨rfl, ⟨wk2, ch2, hM2⟩, ho2⟩ := hpost
        have hLC2 := hLC.model had hsa htt ho2
        refine lv_icmp_eq (tgt := 689) F.1 F.2.1 d_LW_law_661 (by decide) (fun _ => ?_) (fun zq => absurd (rfl) zq)
        exact nxt σ ca nl num rp f sn wk2 ch2 _ _ _ _ rfl (Nat.le_add_right cl 9) (Nat.le_add_right sl 540) hok hLC2 hM2 hS ls hl
      · skip
        refine lv_tableIn (off := 634) (tgt := 666) F.1 F.2.1 d_LW_law_32 (by decide) (by decide) (by decide) (by decide) ?_
        refine lv_aload_n F.1 F.2.1 d_LW_law_666 rfl (lv_at hl 2 rfl) ?_
        refine lv_aload_n F.1 F.2.1 d_LW_law_667 rfl (lv_at hl 3 rfl) ?_
        refine lv_iload_n F.1 F.2.1 d_LW_law_668 rfl (lv_at hl 0 rfl) ?_
        refine lv_iconst (v := 1) F.1 F.2.1 d_LW_law_669 (by decide) ?_
        refine lv_iadd F.1 F.2.1 d_LW_law_670 ?_
        refine va_sld F.1 F.2.1 hX hbl hbA hS (by assumption) d_LW_law_671 ?_
        refine x_wr (x_V (n := 1) (As := [.int (xs ((nI i) + 1).toNatClampNeg)]) F (c_IS_count l G ca σ nl num rp f sn (xs ((nI i) + 1).toNatClampNeg) hok hN) ok_IS_count k463 ⟨Nat.le_of_ble_eq_true rfl, Nat.le_of_ble_eq_true rfl⟩ rfl rfl hK (x_rcv hK hO rfl) (hW) rfl hl.1 rfl (Nat.le_of_ble_eq_true rfl) d_LW_law_672 hf0) hS (hfr) (fun _ _ h => h.2.2.mono hfr) (fun v H14 locs hpost hS => ?_)
        obtain ⟨ca', nl', num', rp', f', sn', e0, hLC', hM'⟩ := hLC.call hM hS01 hpost
        have hv1 := hpost.1
        subst hv1
        have hMO := hM'.1
        refine lv_aload_n F.1 F.2.1 d_LW_law_675 rfl (lv_at hl 1 rfl) ?_
        refine lv_aload_n F.1 F.2.1 d_LW_law_676 rfl (lv_at hl 3 rfl) ?_
        refine lv_iload_n F.1 F.2.1 d_LW_law_677 rfl (lv_at hl 0 rfl) ?_
        refine lv_iconst (v := 1) F.1 F.2.1 d_LW_law_678 (by decide) ?_
        refine lv_iadd F.1 F.2.1 d_LW_law_679 ?_
        refine va_sld F.1 F.2.1 hX hbl hbA hS (by assumption) d_LW_law_680 ?_
        refine x_wr (x_V (n := 1) (As := [.int (xs ((nI i) + 1).toNatClampNeg)]) F (c_MO_count l G ad σ wk ch (xs ((nI i) + 1).toNatClampNeg) hok) ok_MO_count k682 ⟨Nat.le_of_ble_eq_true rfl, Nat.le_of_ble_eq_true rfl⟩ rfl rfl hK (x_rcv hK hMO rfl) (hM') rfl hl.1 rfl (Nat.le_of_ble_eq_true rfl) d_LW_law_681 hf0) hS (hfm) (fun _ _ h => h.2.2.mono hfm) (fun v H15 locs hpost hS => ?_)
        obtain ⟨rfl, ⟨wk2, ch2, hM2⟩, ho2⟩ := hpost
        have hLC2 := hLC'.model had hsa htt ho2
        refine lv_icmp_eq (tgt := 689) F.1 F.2.1 d_LW_law_684 (by decide) (fun _ => ?_) (fun zq => absurd (rfl) zq)
        exact nxt _ ca' nl' num' rp' f' sn' wk2 ch2 _ _ _ _ e0 (Nat.le_add_right cl 9) (Nat.le_add_right sl 540) (hok) hLC2 hM2 hS ls hl
      · skip
        refine lv_tableOut (tgt := 689) F.1 F.2.1 d_LW_law_32 (Or.inr (by rw [nI_toInt (by omega)]; omega)) (by decide) ?_
        exact nxt σ ca nl num rp f sn wk ch _ _ _ _ rfl (Nat.le_add_right cl 9) (Nat.le_add_right sl 540) hok hLC hM hS ls hl

