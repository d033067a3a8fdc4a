/-! ===== the law's start: what the tables say of every kind of cell here; the empty row ===== -/
theorem x_len0 {args : Array Value} {s : State} {T : Term} {dc : Nat} {Ed : Cell} (hev : T.eval args s none [] s = some (.ref dc)) (harrAt : s.arrayAt? dc = some Ed) (hL : (Cond.eq (.length T) (.int 0)).before args s = true) : Ed.slots.size = 0 := by
  by_cases hs31 : Ed.slots.size < 2147483648
  · simp [Cond.before, Cond.holds, Cond.value, Term.eval, hev, harrAt, hs31] at hL
    have := congrArg Int32.toInt hL
    rw [show (Ed.slots.size.toInt32).toInt = Ed.slots.size from Int32.toInt_ofNat_small hs31] at this
    simpa using this
  · simp [Cond.before, Cond.holds, Cond.value, Term.eval, hev, harrAt, hs31] at hL
theorem x_start {p : Program} {s : State} {m : MethodId} {meth : Method} {c : Code} {b L : Nat} {xs : Nat → Int32} (C0 : lw_At p s m meth c b L xs) : ∃ G : x_G, x_K G s ∧ x_Hs G s.heap := by
  obtain ⟨hx, hb, hr, hml, hown, hts, hX, hbl, hlocks, hgv⟩ := C0
  have hxt : ∀ w ∈ x_tb, w.before #[Value.ref b] s = true := fun w h => hts w (List.mem_filter.mp h).1
  have ht : ∀ (i : Nat) (w : Cond), tables_1[i]? = some w → w.before #[Value.ref b] s = true := fun i w h => hts w (List.mem_append_right _ (List.mem_of_getElem? h))
  have hg := flat_of_before _ hgv
  obtain ⟨c0, i0, h0⟩ := u_known (n := 3) hxt i_AL (hxt _ k26)
  obtain ⟨c1, i1, h1⟩ := u_known (n := 3) hxt i_IM (hxt _ k86)
  obtain ⟨c2, i2, h2⟩ := u_known (n := 2) hxt i_LY (hxt _ k304)
  obtain ⟨c3, i3, h3⟩ := u_known (n := 2) hxt i_ST (hxt _ k52)
  obtain ⟨c4, i4, h4⟩ := u_known (n := 1) hxt i_TR (hxt _ k70)
  obtain ⟨c5, i5, h5⟩ := u_known (n := 7) hxt i_IS (hxt _ k18)
  obtain ⟨c6, i6, h6⟩ := u_known (n := 8) hxt i_MO (hxt _ k472)
  obtain ⟨aI, kI, pI', fI, gI', eI'⟩ := Cond.arrayClass_spec (ht 68 (.arrayClass .int) (by decide +kernel))
  obtain ⟨aJ, kJ, pJ', fJ, gJ', eJ'⟩ := Cond.arrayClass_spec (ht 84 (.arrayClass .long) (by decide +kernel))
  obtain ⟨aZ, kZ, pZ', fZ, gZ', eZ'⟩ := Cond.arrayClass_spec (ht 67 (.arrayClass .boolean) (by decide +kernel))
  have hov := ht 148 (.arrayOver (.object "java/lang/Object")) (by decide +kernel)
  obtain ⟨cO, aO, kO, f1, -, f3, f4, f5⟩ := Cond.arrayOver_spec hov
  obtain ⟨mi, hmi⟩ := va_Mi.of (C := "[Ljava/lang/Object;") (hg (.isRef (.mirror "[Ljava/lang/Object;")) (by decide +kernel))
  have hls := ht 38 (.laysStatic "java/util/ArrayList" "DEFAULTCAPACITY_EMPTY_ELEMENTDATA" "[Ljava/lang/Object;") (by decide +kernel)
  obtain ⟨cs, ks, fi, fd, sa, cell, hc1, hc2, hc3, hc4, hc5, hc6, -, -, -⟩ := Cond.laysStatic_spec hls
  have hini := Cond.initialized_spec hc1 (State.fieldFound?_spec hc2).1 (hxt _ k4)
  obtain ⟨dc, cD, Ed, kD, hev, hfD, hEd, hkD, hstD, hclD, -⟩ := Cond.exactly_spec (hg (.exactly (.static "java/util/ArrayList" "DEFAULTCAPACITY_EMPTY_ELEMENTDATA" "[Ljava/lang/Object;") "[Ljava/lang/Object;") (by decide +kernel))
  obtain ⟨-, a', cell', hs', hc', -, hsl⟩ := Term.static_spec hc2 hev
  cases hc4.symm.trans hs'
  cases hc5.symm.trans hc'
  obtain ⟨harr, hknE⟩ := Cond.arrayOf_spec (hg (.arrayOf (.static "java/util/ArrayList" "DEFAULTCAPACITY_EMPTY_ELEMENTDATA" "[Ljava/lang/Object;") (.object "java/lang/Object")) (by decide +kernel)) hev hEd
  obtain ⟨-, kA, hkA, comp, hkind⟩ := harr
  have harrAt : s.arrayAt? dc = some Ed := by simp [State.arrayAt?, hEd, hkA, hkind, hknE, hstD]
  have hsz : Ed.slots.size = 0 := x_len0 (T := .static "java/util/ArrayList" "DEFAULTCAPACITY_EMPTY_ELEMENTDATA" "[Ljava/lang/Object;") hev harrAt (hg (.eq (.length (.static "java/util/ArrayList" "DEFAULTCAPACITY_EMPTY_ELEMENTDATA" "[Ljava/lang/Object;")) (.int 0)) (by decide +kernel))
  have haO : cD = aO := Option.some.inj (hfD.symm.trans f5)
  refine ⟨((fun k => match k with | 0 => c0 | 1 => c1 | 2 => c2 | 3 => c3 | 4 => c4 | 5 => c5 | _ => c6, fun k => match k with | 0 => i0 | 1 => i1 | 2 => i2 | 3 => i3 | 4 => i4 | 5 => i5 | 6 => i6 | _ => fun j => match j with | 0 => sa | 1 => fd.slot | 2 => dc | _ => mi), aI, aJ, aZ, aO), ⟨⟨fun k q hq => ?_, fun k q hq => ?_⟩, ?_, va_AO.of hov, va_Dc.of (ht 690 (.declares ⟨"java/lang/Object", "getClass", "()Ljava/lang/Class;"⟩) (by decide +kernel)), hmi, ⟨cs, ks, fi, fd, hc2, hc3, hini, hc4, rfl⟩⟩, ⟨cell, hc5, hc6, hsl⟩, Ed, hEd, hclD.trans haO, hknE, (fun k h => by rw [h] at hstD; cases hstD), hsz⟩
  · match k, hq with
    | 0, hq => cases hq; exact h0
    | 1, hq => cases hq; exact h1
    | 2, hq => cases hq; exact h2
    | 3, hq => cases hq; exact h3
    | 4, hq => cases hq; exact h4
    | 5, hq => cases hq; exact h5
    | 6, hq => cases hq; exact h6
    | k + 7, hq => simp at hq
  · match k, hq with
    | 0, hq => cases hq; exact ⟨fun n z => ⟨fun k h => (by cases h), kI, gI', pI', eI'⟩, fI⟩
    | 1, hq => cases hq; exact ⟨fun n z => ⟨fun k h => (by cases h), kJ, gJ', pJ', eJ'⟩, fJ⟩
    | 2, hq => cases hq; exact ⟨fun n z => ⟨fun k h => (by cases h), kZ, gZ', pZ', eZ'⟩, fZ⟩
    | 3, hq => cases hq; exact ⟨fun n z => ⟨fun k h => (by cases h), kO, f3, cO, f4⟩, kO, cO, f3, f4, f1, f5⟩
    | k + 4, hq => simp at hq
  · simp only [x_nt, List.forall_mem_cons]
    exact ⟨va_Nw.of rfl (ht 92 _ (by decide +kernel)), va_Nw.of rfl (ht 94 _ (by decide +kernel)), va_Nw.of rfl (ht 96 _ (by decide +kernel)), va_Nw.of rfl (ht 322 _ (by decide +kernel)), va_Nw.of rfl (ht 324 _ (by decide +kernel)), va_Nw.of rfl (ht 686 _ (by decide +kernel)), va_Nw.of rfl (ht 687 _ (by decide +kernel)), va_Nw.of rfl (ht 694 _ (by decide +kernel)), va_Nw.of rfl (ht 696 _ (by decide +kernel)), fun _ h => absurd h List.not_mem_nil⟩
/-! ===== both worlds side by side ===== -/
def LC (G : x_G) (sz : Nat) (ad ca : Nat → Nat) (σ : Sg) (nl : Nat) (num rp : Nat → Nat) (f : Nat → Int64) (sn : Nat → Int32) (H : Heap) : Prop := cNum σ nl num rp ∧ CW G ca σ nl num rp f sn H ∧ (∀ c, us (gn σ) nl c → (∀ k, k ≤ 6 → ca c ≠ ad k) ∧ (ca c = x_t G ∨ sz ≤ ca c))
theorem MO.keep {G : x_G} {ad : Nat → Nat} {σ : Sg} {wk : Nat → Int64} {ch : Nat → Bool} {A : Nat → Prop} {H H1 : Heap} (h : MO G ad σ wk ch H) (ho : x_off A H H1) (hA : ∀ k, k ≤ 6 → ¬ A (ad k)) : MO G ad σ wk ch H1 := by
  obtain ⟨hO, hp, ht, hh, hg, hw, hc, hj⟩ := h
  exact ⟨x_keep hO ho (hA 0 (by decide)), x_keep hp ho (hA 1 (by decide)), x_keep ht ho (hA 2 (by decide)), x_keep hh ho (hA 3 (by decide)), x_keep hg ho (hA 4 (by decide)), x_keep hw ho (hA 5 (by decide)), x_keep hc ho (hA 6 (by decide)), hj⟩
theorem MO.lt {G : x_G} {ad : Nat → Nat} {σ : Sg} {wk : Nat → Int64} {ch : Nat → Bool} {H : Heap} (h : MO G ad σ wk ch H) : ∀ k, k ≤ 6 → ad k < H.size := by
  obtain ⟨hO, hp, ht, hh, hg, hw, hc, hj⟩ := h
  intro k hk
  have : k = 0 ∨ k = 1 ∨ k = 2 ∨ k = 3 ∨ k = 4 ∨ k = 5 ∨ k = 6 := by omega
  rcases this with rfl | rfl | rfl | rfl | rfl | rfl | rfl
  · exact hO.lt
  · exact hp.lt
  · exact ht.lt
  · exact hh.lt
  · exact hg.lt
  · exact hw.lt
  · exact hc.lt
section LCS
variable {G : x_G} {sz : Nat} {ad ca : Nat → Nat} {σ : Sg} {nl : Nat} {num rp : Nat → Nat} {f : Nat → Int64} {sn : Nat → Int32} {wk : Nat → Int64} {ch : Nat → Bool} {H H1 : Heap}
theorem LC.free (h : LC G sz ad ca σ nl num rp f sn H) : ∀ q, cA G ca (gn σ) nl q → sz ≤ q := fun q hq => by
  obtain ⟨c, hc, rfl, hn⟩ := hq
  rcases (h.2.2 c hc).2 with z | z
  · exact absurd z hn
  · exact z
theorem LC.call (h : LC G sz ad ca σ nl num rp f sn H) (hm : MO G ad σ wk ch H) (hs : sz ≤ H.size) {q : Int32 × Sg} {r : Option Value} (hp : CO G ca σ nl q r H H1) : ∃ ca' nl' num' rp' f' sn', ca' 0 = ca 0 ∧ LC G sz ad ca' q.2 nl' num' rp' f' sn' H1 ∧ MO G ad σ wk ch H1 := by
  obtain ⟨-, ⟨ca', nl', num', rp', f', sn', a1, a2, a3, a4⟩, ho⟩ := hp
  have hml := hm.lt
  refine ⟨ca', nl', num', rp', f', sn', a4, ⟨a2, a1, fun c hc => ⟨fun k hk => ?_, ?_⟩⟩, hm.keep ho (fun k hk z => ?_)⟩
  · rcases a3 c hc with ⟨c', hc', e⟩ | e
    · rw [e]; exact (h.2.2 c' hc').1 k hk
    · have := hml k hk; omega
  · rcases a3 c hc with ⟨c', hc', e⟩ | e
    · rw [e]; exact (h.2.2 c' hc').2
    · exact Or.inr (Nat.le_trans hs e)
  · obtain ⟨c, hc, e, -⟩ := z
    exact (h.2.2 c hc).1 k hk e.symm
theorem LC.model (h : LC G sz ad ca σ nl num rp f sn H) (ha : ∀ k, k ≤ 6 → sz ≤ ad k) (hsa : x_sa G < sz) (ht : x_t G < sz) (ho : x_off (mA ad) H H1) : LC G sz ad ca σ nl num rp f sn H1 := by
  refine ⟨h.1, h.2.1.keep ho (fun c hc z => ?_) (fun z => ?_) (fun z => ?_), h.2.2⟩
  · obtain ⟨k, hk, e⟩ := z
    exact (h.2.2 c hc).1 k hk e
  · obtain ⟨k, hk, e⟩ := z
    have := ha k hk; omega
  · obtain ⟨k, hk, e⟩ := z
    have := ha k hk; omega
end LCS

