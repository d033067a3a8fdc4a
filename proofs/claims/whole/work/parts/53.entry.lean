/-! ===== the law from its entry ===== -/
theorem cNum_0 : cNum σ0 0 (fun _ => 0) (fun _ => 0) := by
  have g : gn σ0 = 1 := rfl
  refine ⟨by rw [g]; exact Nat.one_pos, fun k hk => absurd hk (Nat.not_lt_zero k), fun i h1 h2 => ?_, fun i j h1 h2 => ?_⟩
  · rw [g] at h2; omega
  · rw [g] at h2; omega
set_option maxRecDepth 100000 in
set_option maxHeartbeats 4000000 in
theorem whole_start {p : Program} {e : Env} {s : State} {m : MethodId} {below : List Frame} {meth : Method} {c : Code} (l : Launch) {b L : Nat} {xs : Nat → Int32} (hL : L ≤ 2560) (C0 : lw_At p s m meth c b L xs) : W p l e room_1 s m #[Value.ref b] below meth c s.heap [] 0 0 (lw_Z below #[Value.ref b] s) (entryFrame m ([Value.ref b] : List Value).toArray 4) := by
  obtain ⟨G, hK, hZ⟩ := x_start C0
  obtain ⟨hx, hb, hr, hml, hown, hts, hX, hbl, hlocks, hgv⟩ := id C0
  have hxt : ∀ w ∈ x_tb, w.before #[Value.ref b] s = true := fun w h => hts w (List.mem_filter.mp h).1
  have F : x_F p m c code 4 s #[Value.ref b] "ImageStoresLaw" := ⟨hx, hb, hml, hown, hxt⟩
  have htt : x_t G < s.heap.size := by
    obtain ⟨-, scr, b1, -⟩ := hZ
    exact (Array.getElem?_eq_some_iff.mp b1).1
  have hsa : x_sa G < s.heap.size := by
    obtain ⟨⟨cell, b1, -⟩, -⟩ := hZ
    exact (Array.getElem?_eq_some_iff.mp b1).1
  have hrc : 4700 ≤ room_1.cells := Nat.le_of_ble_eq_true rfl
  have hrs : 283000 ≤ room_1.slots := Nat.le_of_ble_eq_true rfl
  have hl := lv_entry ([.ref b]) (n := 4) (Nat.le_of_ble_eq_true rfl)
  rw [lg_entry_eq]
  generalize (lg_sl ([.ref b]) ++ List.replicate (4 - (lg_sl ([.ref b])).length) Slot.unset).toArray = ls at hl ⊢
  have hl : lv_has ls 4 [(0, .ref b)] := hl
  have hS : va_S (fun q : Nat => s.heap.size ≤ q) s.heap s.heap [] := va_S.rf
  refine x_newO (ci := 5) (fs := [.null, .null, .null, .null, .null, .null, .int 0]) F hK rfl i_IS t_IS p_IS k17 k18 k1 (by decide +kernel) (show 0 + 1 ≤ room_1.cells by omega) (show 0 + 7 ≤ room_1.slots by omega) hS d_LW_law_0 (fun a H1 ha hA hz1 ho1 hS => ?_)
  refine lv_dup F.1 F.2.1 d_LW_law_3 rfl ?_
  have hZ1 : x_Hs G H1 := hZ.keep hS.off (Nat.not_le.mpr hsa) (Nat.not_le.mpr htt)
  refine x_wr (x_I (n := 0) (As := []) F (c_IS_init l G a H1.size (show x_sa G ≠ a by omega) (show x_t G ≠ a by omega)) ok_IS_init k19 ⟨Nat.le_of_ble_eq_true rfl, Nat.le_of_ble_eq_true rfl⟩ rfl rfl hK (⟨rfl, hZ1, hA⟩) rfl hl.1 rfl (Nat.le_of_ble_eq_true rfl) d_LW_law_4 ⟨Nat.le_of_ble_eq_true rfl, Nat.le_of_ble_eq_true rfl⟩) hS (fun q h => h.elim (fun h => by rw [show q = a from h, ha]; exact Nat.le_refl _) (fun h => Nat.le_trans hS.1 h)) (fun _ _ h => h.2.2.mono (fun q h => by rw [show q = a from h, ha]; exact Nat.le_refl _)) (fun v H2 locs hpost hS => ?_)
  obtain ⟨rfl, ⟨ca, sn, e0, e1, e4, hW⟩, ho2⟩ := hpost
  have hs2 := ho2.1
  refine lv_astore_n (lv' := [(1, .ref a), (0, .ref b)]) F.1 F.2.1 d_LW_law_7 rfl hl (by decide) rfl (fun ls hl => ?_)
  refine x_newO (ci := 6) (fs := [.null, .null, .int 0, .null, .null, .null, .null, .int 0]) F hK rfl i_MO t_MO p_MO k471 k472 k12 (by decide +kernel) (show ((0 + 1) + 16) + 1 ≤ room_1.cells by omega) (show ((0 + 7) + 460) + 8 ≤ room_1.slots by omega) hS d_LW_law_8 (fun a2 H3 ha2 hM hz3 ho3 hS => ?_)
  refine lv_dup F.1 F.2.1 d_LW_law_11 rfl ?_
  have hlt : ∀ c, us (gn σ0) 0 c → ca c < a2 := fun c hc => by rw [ha2]; exact hW.lt c hc
  have hW3 : CW G ca σ0 0 (fun _ => 0) (fun _ => 0) tBare sn H3 := hW.keep (A := fun _ => False) ⟨by omega, fun q hq _ => ho3 q hq⟩ (fun _ _ z => z) (fun z => z) (fun z => z)
  refine x_wr (x_I (n := 0) (As := []) F (c_MO_init l G a2 H3.size) ok_MO_init k473 ⟨Nat.le_of_ble_eq_true rfl, Nat.le_of_ble_eq_true rfl⟩ rfl rfl hK (⟨rfl, hM⟩) rfl hl.1 rfl (Nat.le_of_ble_eq_true rfl) d_LW_law_12 ⟨Nat.le_of_ble_eq_true rfl, Nat.le_of_ble_eq_true rfl⟩) hS (fun q h => h.elim (fun h => by rw [show q = a2 from h]; omega) (fun h => Nat.le_trans hS.1 h)) (fun _ _ h => h.2.2.mono (fun q h => by rw [show q = a2 from h]; show s.heap.size ≤ a2; omega)) (fun v H4 locs hpost hS => ?_)
  obtain ⟨rfl, ⟨ad, f0, f1, hMO⟩, ho4⟩ := hpost
  have hW4 : CW G ca σ0 0 (fun _ => 0) (fun _ => 0) tBare sn H4 := hW3.keep ho4 (fun c hc z => Nat.ne_of_lt (hlt c hc) z) (fun z => by have z : x_sa G = a2 := z; omega) (fun z => by have z : x_t G = a2 := z; omega)
  refine lv_astore_n (lv' := [(2, .ref a2), (1, .ref a), (0, .ref b)]) F.1 F.2.1 d_LW_law_15 rfl hl (by decide) rfl (fun ls hl => ?_)
  refine lv_iconst (v := 0) F.1 F.2.1 d_LW_law_16 (by decide) ?_
  refine lv_istore_n (lv' := [(3, .int 0), (2, .ref a2), (1, .ref a), (0, .ref b)]) F.1 F.2.1 d_LW_law_17 rfl hl (by decide) rfl (fun ls hl => ?_)
  have had : ∀ k, k ≤ 6 → a2 ≤ ad k := fun k hk => by
    rcases Nat.eq_zero_or_pos k with z | z
    · rw [z, f0]; exact Nat.le_refl _
    · have := f1 k z hk; omega
  have hLC : LC G s.heap.size ad ca σ0 0 (fun _ => 0) (fun _ => 0) tBare sn H4 := ⟨cNum_0, hW4, fun c hc => ⟨fun k hk => by have := hlt c hc; have := had k hk; omega, by
    by_cases z0 : c = 0
    · exact Or.inr (by rw [z0, e0]; omega)
    · by_cases z4 : c = 4
      · exact Or.inl (by rw [z4]; exact e4)
      · exact Or.inr (Nat.le_trans (by omega) (e1 c hc z0 z4))⟩⟩
  exact law_loop hL C0 hK ad (fun k hk => Nat.le_trans (by omega) (had k hk)) hsa htt 512 0 (Nat.zero_le _) (by omega) σ0 ca 0 (fun _ => 0) (fun _ => 0) tBare sn _ _ H4 _ _ _ (by omega) (by omega) gI_0 hLC hMO hS ls (by rw [e0, f0]; exact hl)

