/-! ===== ArrayList ===== -/
/-- the empty row of ArrayList, as the heap has it -/
def x_Hs (G : x_G) (H : Heap) : Prop := (∃ cell : Cell, H[x_sa G]? = some cell ∧ cell.vm.isStatics = true ∧ cell.slots[x_so G]? = some (.ref (x_t G))) ∧ ∃ scr : Cell, H[x_t G]? = some scr ∧ scr.cls = G.2.2.2.2 ∧ scr.vm ≠ .unknown ∧ (∀ k, scr.vm ≠ .statics k) ∧ scr.slots.size = 0
theorem x_Hs.keep {G : x_G} {H H1 : Heap} {A : Nat → Prop} (h : x_Hs G H) (ho : x_off A H H1) (h1 : ¬ A (x_sa G)) (h2 : ¬ A (x_t G)) : x_Hs G H1 := by
  obtain ⟨⟨cell, a1, a2⟩, scr, b1, b2⟩ := h
  exact ⟨⟨cell, by rw [ho.2 _ (Array.getElem?_eq_some_iff.mp a1).1 h1]; exact a1, a2⟩, scr, by rw [ho.2 _ (Array.getElem?_eq_some_iff.mp b1).1 h2]; exact b1, b2⟩
/-- an object that may lie in a row of objects: an Image or a Layer -/
def isO (G : x_G) (y : Nat) (H : Heap) : Prop := ∃ fs : List Value, va_at G.1 x_cl (y, .inr (1, fs)) H ∨ va_at G.1 x_cl (y, .inr (2, fs)) H
theorem isO.lt {G : x_G} {y : Nat} {H : Heap} (h : isO G y H) : y < H.size := by
  obtain ⟨fs, h | h⟩ := h
  · exact h.lt
  · exact h.lt
theorem isO.keep {G : x_G} {y : Nat} {H H1 : Heap} (h : isO G y H) (hq : H1[y]? = H[y]?) : isO G y H1 := by
  obtain ⟨fs, h | h⟩ := h
  · exact ⟨fs, Or.inl (h.kept hq)⟩
  · exact ⟨fs, Or.inr (h.kept hq)⟩
theorem isO.any {G : x_G} {y : Nat} {H : Heap} {s : State} (hK : x_K G s) (h : isO G y H) : va_Any "java/lang/Object" s H y := by
  have hg : ∀ C : String, va_Nw (.castable C "java/lang/Object") s → ∀ comp c0 : ClassId, s.vm.findClass "java/lang/Object" = some comp → s.vm.findClass C = some c0 → s.vm.assignable c0 comp = true := by
    intro C hw comp c0 h1 h2
    obtain ⟨c1, t1, f1, f2, f3⟩ := Cond.castable_spec (va_Nw.use (A := #[]) rfl hw)
    cases h2.symm.trans f1
    cases h1.symm.trans f2
    exact f3
  obtain ⟨fs, h | h⟩ := h
  · exact va_rAny hK.1 (x_one h) (q0 := 0) (r := ("ImageStores$Image", F_IM, 3)) rfl rfl (hg _ (hK.2.1 _ (List.mem_of_getElem? (i := 7) rfl)))
  · exact va_rAny hK.1 (x_one h) (q0 := 0) (r := ("ImageStores$Layer", F_LY, 2)) rfl rfl (hg _ (hK.2.1 _ (List.mem_of_getElem? (i := 8) rfl)))
section XQ
variable {p : Program} {l : Launch} {e : Env} {R : Room} {s : State} {m : MethodId} {args : Array Value} {below : List Frame} {meth : Method} {c : Code} {H : Heap} {locs : List Loc} {cells slots : Nat} {Q : State → Prop}
variable {cc : ByteArray} {pc nL index : Nat} {ls : Array Slot} {rest : List Value} {own : String} {G : x_G} {A : Nat → Prop} {H0 : Heap} {a N : Nat}
theorem x_gets (F : x_F p m c cc nL s args own) (hK : x_K G s) (hH : x_Hs G H) (kl : Cond.fieldLink own index "java/util/ArrayList" "DEFAULTCAPACITY_EMPTY_ELEMENTDATA" "[Ljava/lang/Object;" ∈ x_tb) (hdg : decode cc pc = .ok (.getstatic index, 3))
    (kk : W p l e R s m args below meth c H locs cells slots Q (F0 m (pc + 3) ls (.ref (x_t G) :: rest))) : W p l e R s m args below meth c H locs cells slots Q (F0 m pc ls rest) := by
  obtain ⟨cf, kf, fi, f, h1, h2, h3, h4, h5⟩ := hK.2.2.2.2.2
  obtain ⟨⟨cell, a1, a2, a3⟩, -⟩ := hH
  exact W.gets F.1 F.2.1 F.2.2.2.1 (F.2.2.2.2 _ kl) h1 h2 h3 h4 a1 (fun e => by rw [e] at a2; cases a2) (by rw [h5]; exact a3) rfl hdg kk
theorem x_tlen (F : x_F p m c cc nL s args own) (hK : x_K G s) (hH : x_Hs G H) (hdg : decode cc pc = .ok (.arraylength, 1)) (kk : W p l e R s m args below meth c H locs cells slots Q (F0 m (pc + 1) ls (.int (nI 0) :: rest))) : W p l e R s m args below meth c H locs cells slots Q (F0 m pc ls (.ref (x_t G) :: rest)) := by
  obtain ⟨-, scr, b1, b2, b3, b4, b5⟩ := hH
  obtain ⟨-, k, hk, comp, hkind⟩ := (hK.1.2 3 _ rfl).1 0 (fun _ => .null)
  exact W.alen (n := nI 0) F.1 F.2.1 b1 (ty := .object "java/lang/Object") ⟨b4, k, by rw [b2]; exact hk, comp, hkind⟩ (by rw [b5]; rfl) rfl rfl hdg kk
theorem x_newaQ (F : x_F p m c cc nL s args own) (hK : x_K G s) (kl : Cond.classLink own index "java/lang/Object" ∈ x_tb) (hN : N < 100000) (hcells : cells + 1 ≤ R.cells) (hslots : slots + N ≤ R.slots) (hS : va_S A H0 H locs) (hdg : decode cc pc = .ok (.anewarray index, 3))
    (kk : ∀ (q : Nat) (H1 : Heap), q = H.size → x_aq G q N (fun _ => none) H1 → H1.size = H.size + 1 → (∀ q : Nat, q < H.size → H1[q]? = H[q]?) → va_S A H0 H1 locs → W p l e R s m args below meth c H1 locs (cells + 1) (slots + N) Q (F0 m (pc + 3) ls (.ref q :: rest))) : W p l e R s m args below meth c H locs cells slots Q (F0 m pc ls (.int (nI N) :: rest)) := by
  have hc : (nI N).toNatClampNeg = N := nI_clamp (by omega)
  refine W.anew F.1 F.2.1 F.2.2.2.1 (F.2.2.2.2 _ kl) (va_AO.use hK.2.2.1) rfl hdg rfl (nI_pos (by omega)) (by rw [hc]; omega) hcells (by rw [hc]; exact hslots) fun cA kA comp f1 f2 f3 f4 => ?_
  have e1 : cA = G.2.2.2.2 := by
    obtain ⟨-, -, -, -, -, h4⟩ := (hK.1.2 3 _ rfl).2
    exact Option.some.inj (f1.symm.trans h4)
  subst e1
  rw [hc]
  generalize hH1 : H.push ({ cls := G.2.2.2.2, slots := Array.replicate N .null, vm := .none } : Cell) = H1
  have z1 : H1.size = H.size + 1 := by rw [← hH1, Array.size_push]
  have o1 : ∀ q : Nat, q < H.size → H1[q]? = H[q]? := fun q hq => by rw [← hH1, Array.getElem?_push, if_neg (Nat.ne_of_lt hq)]
  refine kk H.size H1 rfl ?_ z1 o1 ⟨by have := hS.1; omega, fun x h1 h2 => (o1 x (Nat.lt_of_lt_of_le h1 hS.1)).trans (hS.2.1 x h1 h2), hS.2.2⟩
  show H1[H.size]? = some (vp_cell _ _)
  rw [vp_cell_q, ← hH1, Array.getElem?_push_size, ← arrV_new]
  rfl
theorem x_qast (F : x_F p m c cc nL s args own) (hK : x_K G s) {n v : Nat} {f : Nat → Option Nat} (hat : x_aq G a n f H) (hv : isO G v H) (hn : n < 2 ^ 31) {i : Nat} (hi : i < n) (hS : va_S A H0 H locs) (hA : A a) (hdg : decode cc pc = .ok (.aastore, 1))
    (kk : ∀ (H1 : Heap) (locs1 : List Loc), x_aq G a n (va_up f i (some v)) H1 → H1.size = H.size → (∀ q : Nat, q ≠ a → H1[q]? = H[q]?) → va_S A H0 H1 locs1 → W p l e R s m args below meth c H1 locs1 cells slots Q (F0 m (pc + 1) ls rest)) : W p l e R s m args below meth c H locs cells slots Q (F0 m pc ls (.ref v :: .int (nI i) :: .ref a :: rest)) := by
  have hc : (nI i).toNatClampNeg = i := nI_clamp (by omega)
  obtain ⟨cellV, g1, g3, ⟨kC, hkC⟩, hasg⟩ := hv.any hK
  obtain ⟨kA, comp, k1, k2, k3, -⟩ := (hK.1.2 3 _ rfl).2
  obtain ⟨kE, hkE, -⟩ := Vm.findClass_spec k3
  refine W.aast F.1 F.2.1 hat (fun q h => by cases h) (fun h => by cases h) k1 k2 rfl hkE ⟨nI_pos (by omega), by show _ < (arrV _ _ _).slots.size; rw [arrV_size, hc]; exact hi⟩ g1 (fun q h => by rw [h] at g3; cases g3) hkC (hasg _ k3) rfl rfl hdg fun H1 e z oq => ?_
  refine kk H1 _ ?_ z oq (hS.put z oq hA)
  show H1[a]? = some (vp_cell _ _)
  rw [e, vp_cell_q, vp_cell_q, arrV_store, hc]
  congr 2
  funext q
  by_cases hq : q = i
  · subst hq
    simp [updV, va_up, va_rf]
  · simp [updV, va_up, hq]
end XQ
theorem x_aq.cg {G : x_G} {a n : Nat} {f g : Nat → Option Nat} {H : Heap} (hf : x_aq G a n f H) (h : ∀ j, j < n → f j = g j) : x_aq G a n g H := by
  show H[a]? = some (vp_cell _ _)
  rw [vp_cell_q, ← arrV_cg (f := fun j => va_rf (f j)) (fun j hj => by rw [h j hj])]
  exact hf
theorem c_MA_max (l : Launch) (G : x_G) (x y : Nat) (hx : x < 2 ^ 31) (hy : y < 2 ^ 31) : Met l y_MA_max (x_ws y_MA_max b_MA_max 2 (some .int)) (x_rm 0 0 0) (x_P G [.int (nI x), .int (nI y)] (fun _ => True)) (k2_QcV (.int (nI (max x y)))) 0 0 (fun _ => False) := by
  refine x_mI (by decide +kernel) (Nat.le_of_ble_eq_true rfl) (fun p e s m args below meth c F hK hP ls hl Q hret => ?_)
  have hl : lv_has ls 2 [(0, .int (nI x)), (1, .int (nI y))] := hl
  refine lv_iload_n F.1 F.2.1 d_MA_max_0 rfl (lv_at hl 0 rfl) ?_
  refine lv_iload_n F.1 F.2.1 d_MA_max_1 rfl (lv_at hl 1 rfl) ?_
  refine lv_icmp_lt (tgt := 9) F.1 F.2.1 d_MA_max_2 (by decide) (fun c2 => ?_) (fun c2 => ?_)
  · have c2 := (pN_ltI (a := x) (b := y) rfl rfl (by omega) (by omega)).mp c2
    refine lv_iload_n F.1 F.2.1 d_MA_max_9 rfl (lv_at hl 1 rfl) ?_
    exact hret _ _ _ d_MA_max_10 (by rw [Nat.max_eq_right (by omega)])
  · have c2 := mt (pN_ltI (a := x) (b := y) rfl rfl (by omega) (by omega)).mpr c2
    refine lv_iload_n F.1 F.2.1 d_MA_max_5 rfl (lv_at hl 0 rfl) ?_
    refine lv_goto (tgt := 10) F.1 F.2.1 d_MA_max_6 (by decide) ?_
    exact hret _ _ _ d_MA_max_10 (by rw [Nat.max_eq_left (by omega)])
theorem c_MA_min (l : Launch) (G : x_G) (x y : Nat) (hx : x < 2 ^ 31) (hy : y < 2 ^ 31) : Met l y_MA_min (x_ws y_MA_min b_MA_min 2 (some .int)) (x_rm 0 0 0) (x_P G [.int (nI x), .int (nI y)] (fun _ => True)) (k2_QcV (.int (nI (min x y)))) 0 0 (fun _ => False) := by
  refine x_mI (by decide +kernel) (Nat.le_of_ble_eq_true rfl) (fun p e s m args below meth c F hK hP ls hl Q hret => ?_)
  have hl : lv_has ls 2 [(0, .int (nI x)), (1, .int (nI y))] := hl
  refine lv_iload_n F.1 F.2.1 d_MA_min_0 rfl (lv_at hl 0 rfl) ?_
  refine lv_iload_n F.1 F.2.1 d_MA_min_1 rfl (lv_at hl 1 rfl) ?_
  refine lv_icmp_gt (tgt := 9) F.1 F.2.1 d_MA_min_2 (by decide) (fun c2 => ?_) (fun c2 => ?_)
  · have c2 := (pN_ltI (a := y) (b := x) rfl rfl (by omega) (by omega)).mp c2
    refine lv_iload_n F.1 F.2.1 d_MA_min_9 rfl (lv_at hl 1 rfl) ?_
    exact hret _ _ _ d_MA_min_10 (by rw [Nat.min_eq_right (by omega)])
  · have c2 := mt (pN_ltI (a := y) (b := x) rfl rfl (by omega) (by omega)).mpr c2
    refine lv_iload_n F.1 F.2.1 d_MA_min_5 rfl (lv_at hl 0 rfl) ?_
    refine lv_goto (tgt := 10) F.1 F.2.1 d_MA_min_6 (by decide) ?_
    exact hret _ _ _ d_MA_min_10 (by rw [Nat.min_eq_left (by omega)])
theorem c_PR_checkIndex (l : Launch) (G : x_G) (i n : Nat) (hi : i < n) (hn : n < 2 ^ 31) : Met l y_PR_checkIndex (x_ws y_PR_checkIndex b_PR_checkIndex 3 (some .int)) (x_rm 0 0 0) (x_P G [.int (nI i), .int (nI n), .null] (fun _ => True)) (k2_QcV (.int (nI i))) 0 0 (fun _ => False) := by
  refine x_mI (by decide +kernel) (Nat.le_of_ble_eq_true rfl) (fun p e s m args below meth c F hK hP ls hl Q hret => ?_)
  have hl : lv_has ls 3 [(0, .int (nI i)), (1, .int (nI n)), (2, .null)] := hl
  refine lv_iload_n F.1 F.2.1 d_PR_checkIndex_0 rfl (lv_at hl 0 rfl) ?_
  refine lv_if_lt (tgt := 9) F.1 F.2.1 d_PR_checkIndex_1 (by decide) (fun zq => absurd zq (pN_nlt (a := i) (b := 0) rfl rfl (by omega) (by omega) (by omega))) (fun _ => ?_)
  refine lv_iload_n F.1 F.2.1 d_PR_checkIndex_4 rfl (lv_at hl 0 rfl) ?_
  refine lv_iload_n F.1 F.2.1 d_PR_checkIndex_5 rfl (lv_at hl 1 rfl) ?_
  refine lv_icmp_lt (tgt := 16) F.1 F.2.1 d_PR_checkIndex_6 (by decide) (fun _ => ?_) (fun zq => absurd (pN_lt (a := i) (b := n) rfl rfl (by omega) (by omega) (by omega)) zq)
  refine lv_iload_n F.1 F.2.1 d_PR_checkIndex_16 rfl (lv_at hl 0 rfl) ?_
  exact hret _ _ _ d_PR_checkIndex_17 rfl
theorem c_OB_checkIndex (l : Launch) (G : x_G) (i n : Nat) (hi : i < n) (hn : n < 2 ^ 31) : Met l y_OB_checkIndex (x_ws y_OB_checkIndex b_OB_checkIndex 2 (some .int)) (x_rm 1 0 0) (x_P G [.int (nI i), .int (nI n)] (fun _ => True)) (k2_QcV (.int (nI i))) 0 0 (fun _ => False) := by
  refine x_mI (by decide +kernel) (Nat.le_of_ble_eq_true rfl) (fun p e s m args below meth c F hK hP ls hl Q hret => ?_)
  have hl : lv_has ls 2 [(0, .int (nI i)), (1, .int (nI n))] := hl
  refine lv_iload_n F.1 F.2.1 d_OB_checkIndex_0 rfl (lv_at hl 0 rfl) ?_
  refine lv_iload_n F.1 F.2.1 d_OB_checkIndex_1 rfl (lv_at hl 1 rfl) ?_
  refine lv_null F.1 F.2.1 d_OB_checkIndex_2 ?_
  refine x_rd (x_S (n := 3) (As := [.int (nI i), .int (nI n), .null]) F (c_PR_checkIndex l G i n hi hn) ok_PR_checkIndex k203 ⟨Nat.le_of_ble_eq_true rfl, Nat.le_of_ble_eq_true rfl⟩ rfl rfl hK (trivial) rfl hl.1 rfl (Nat.le_of_ble_eq_true rfl) d_OB_checkIndex_3 ⟨Nat.le_of_ble_eq_true rfl, Nat.le_of_ble_eq_true rfl⟩) ?_
  exact hret _ _ _ d_OB_checkIndex_6 rfl
/-- a list at a of n elements, its row of cap places at d -/
def AL (G : x_G) (a d cap n : Nat) (es : Nat → Option Nat) (H : Heap) : Prop := (∃ mo : Int32, va_at G.1 x_cl (a, .inr (0, [.int mo, .ref d, .int (nI n)])) H) ∧ a ≠ d ∧ ((d = x_t G ∧ n = 0) ∨ (x_aq G d cap es H ∧ n ≤ cap ∧ 10 ≤ cap)) ∧ cap < 1000
theorem c_AL_size (l : Launch) (G : x_G) (a d cap n : Nat) (es : Nat → Option Nat) : Met l y_AL_size (x_ws y_AL_size b_AL_size 1 (some .int)) (x_rm 0 0 0) (x_P G [.ref a] (AL G a d cap n es)) (k2_QcV (.int (nI n))) 0 0 (fun _ => False) := by
  refine x_mI (by decide +kernel) (Nat.le_of_ble_eq_true rfl) (fun p e s m args below meth c F hK hP ls hl Q hret => ?_)
  have hl : lv_has ls 1 [(0, .ref a)] := hl
  obtain ⟨⟨mo, hT⟩, -⟩ := hP
  refine lv_aload_n F.1 F.2.1 d_AL_size_0 rfl (lv_at hl 0 rfl) ?_
  refine x_get F hK hT rfl i_AL 2 (by decide) k40 rfl rfl d_AL_size_1 ?_
  exact hret _ _ _ d_AL_size_4 rfl
theorem c_AL_elementData (l : Launch) (G : x_G) (a d cap n : Nat) (es : Nat → Option Nat) (i y : Nat) (hi : i < n) (hy : es i = some y) : Met l y_AL_elementData (x_ws y_AL_elementData b_AL_elementData 2 (some (.object "java/lang/Object"))) (x_rm 0 0 0) (x_P G [.ref a, .int (nI i)] (AL G a d cap n es)) (k2_QcV (.ref y)) 0 0 (fun _ => False) := by
  refine x_mA (Or.inl ⟨_, rfl⟩) (Or.inr ⟨_, rfl⟩) (by decide +kernel) (Nat.le_of_ble_eq_true rfl) (fun p e s m args below meth c F hK hP ls hl Q hret => ?_)
  have hl : lv_has ls 2 [(0, .ref a), (1, .int (nI i))] := hl
  obtain ⟨⟨mo, hT⟩, -, h2, h3⟩ := hP
  rcases h2 with h2 | ⟨hM, hn, -⟩
  · exact absurd hi (by omega)
  refine lv_aload_n F.1 F.2.1 d_AL_elementData_0 rfl (lv_at hl 0 rfl) ?_
  refine x_get F hK hT rfl i_AL 1 (by decide) k39 rfl rfl d_AL_elementData_1 ?_
  refine lv_iload_n F.1 F.2.1 d_AL_elementData_4 rfl (lv_at hl 1 rfl) ?_
  refine x_qaldN F hK hM (by omega) (by omega) d_AL_elementData_5 ?_
  exact hret _ _ _ d_AL_elementData_6 (by rw [hy]; rfl)
theorem c_AL_get (l : Launch) (G : x_G) (a d cap n : Nat) (es : Nat → Option Nat) (i y : Nat) (hi : i < n) (hn : n < 1000) (hy : es i = some y) : Met l y_AL_get (x_ws y_AL_get b_AL_get 2 (some (.object "java/lang/Object"))) (x_rm 2 0 0) (x_P G [.ref a, .int (nI i)] (AL G a d cap n es)) (k2_QcV (.ref y)) 0 0 (fun _ => False) := by
  refine x_mA (Or.inl ⟨_, rfl⟩) (Or.inr ⟨_, rfl⟩) (by decide +kernel) (Nat.le_of_ble_eq_true rfl) (fun p e s m args below meth c F hK hP ls hl Q hret => ?_)
  have hl : lv_has ls 2 [(0, .ref a), (1, .int (nI i))] := hl
  obtain ⟨⟨mo, hT⟩, -⟩ := id hP
  refine lv_iload_n F.1 F.2.1 d_AL_get_0 rfl (lv_at hl 1 rfl) ?_
  refine lv_aload_n F.1 F.2.1 d_AL_get_1 rfl (lv_at hl 0 rfl) ?_
  refine x_get F hK hT rfl i_AL 2 (by decide) k40 rfl rfl d_AL_get_2 ?_
  refine x_rd (x_S (n := 2) (As := [.int (nI i), .int (nI n)]) F (c_OB_checkIndex l G i n hi (by omega)) ok_OB_checkIndex k200 ⟨Nat.le_of_ble_eq_true rfl, Nat.le_of_ble_eq_true rfl⟩ rfl rfl hK (trivial) rfl hl.1 rfl (Nat.le_of_ble_eq_true rfl) d_AL_get_5 ⟨Nat.le_of_ble_eq_true rfl, Nat.le_of_ble_eq_true rfl⟩) ?_
  refine lv_pop F.1 F.2.1 d_AL_get_8 rfl ?_
  refine lv_aload_n F.1 F.2.1 d_AL_get_9 rfl (lv_at hl 0 rfl) ?_
  refine lv_iload_n F.1 F.2.1 d_AL_get_10 rfl (lv_at hl 1 rfl) ?_
  refine x_rd (x_V (n := 1) (As := [.int (nI i)]) F (c_AL_elementData l G a d cap n es i y hi hy) ok_AL_elementData k206 ⟨Nat.le_of_ble_eq_true rfl, Nat.le_of_ble_eq_true rfl⟩ rfl rfl hK (x_rcv hK hT rfl) (hP) rfl hl.1 rfl (Nat.le_of_ble_eq_true rfl) d_AL_get_11 ⟨Nat.le_of_ble_eq_true rfl, Nat.le_of_ble_eq_true rfl⟩) ?_
  exact hret _ _ _ d_AL_get_14 rfl

