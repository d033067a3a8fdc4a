/-! ===== a new image ===== -/
/-- the world, with m images in the list -/
def CX (G : x_G) (ca : Nat → Nat) (σ : Sg) (m nl : Nat) (num rp : Nat → Nat) (f : Nat → Int64) (sn : Nat → Int32) (H : Heap) : Prop := cInj ca (gn σ) nl ∧ (∀ c, us (gn σ) nl c → ca c ≠ x_sa G ∧ (c ≠ 4 → ca c ≠ x_t G)) ∧ va_at G.1 x_cl (ca 0, .inr (5, [.ref (ca 1), .ref (ca 3), .ref (ca 5), .ref (ca 8), .ref (ca 11), .ref (ca 13), .int (ga σ)])) H ∧ x_Hs G H ∧ (∃ cap es, AL G (ca 1) (ca 2) cap m es H ∧ ∀ i, i < m → es i = some (cI ca i)) ∧ (∃ cap es, AL G (ca 3) (ca 4) cap nl es H ∧ ∀ k, k < nl → es k = some (cY ca k)) ∧ (∀ i, i < gn σ → IM G (cI ca i) (cT ca i) (cN ca i) (pI (gp σ) i) (nuL (gp σ) num i) H) ∧ (∀ i, i < gn σ → TR G (cT ca i) (cM ca i) (gt σ i) H) ∧ (∀ k, k < nl → LY G (cY ca k) (cP ca k) (cQ ca k) (eL (gt σ (gp σ (rp k))) (gt σ (rp k)) 125) (mk (gt σ (gp σ (rp k))) (gt σ (rp k))) H) ∧ ST G (ca 5) (ca 6) (ca 7) (gh σ 0) (gg σ 0) H ∧ ST G (ca 8) (ca 9) (ca 10) (gh σ 1) (gg σ 1) H ∧ TR G (ca 11) (ca 12) f H ∧ x_az G (ca 13) 40 sn H
def cx (ca : Nat → Nat) (n k q1 q2 q3 q4 q5 q6 d q7 : Nat) : Nat → Nat := fun c => if c = 4 then d else if c = 14 + 7 * k + 4 then q4 else if c = 14 + 7 * k + 5 then q5 else if c = 14 + 7 * k + 6 then q6 else if c = 14 + 7 * n + 1 then q1 else if c = 14 + 7 * n + 2 then q2 else if c = 14 + 7 * n + 3 then q3 else if c = 14 + 7 * n then q7 else ca c
section CXS
variable {ca : Nat → Nat} {n k q1 q2 q3 q4 q5 q6 d q7 c : Nat}
theorem cx_o (h1 : c ≠ 4) (h2 : c ≠ 14 + 7 * k + 4) (h3 : c ≠ 14 + 7 * k + 5) (h4 : c ≠ 14 + 7 * k + 6) (h5 : c ≠ 14 + 7 * n + 1) (h6 : c ≠ 14 + 7 * n + 2) (h7 : c ≠ 14 + 7 * n + 3) (h8 : c ≠ 14 + 7 * n) : cx ca n k q1 q2 q3 q4 q5 q6 d q7 c = ca c := by
  unfold cx
  rw [if_neg h1, if_neg h2, if_neg h3, if_neg h4, if_neg h5, if_neg h6, if_neg h7, if_neg h8]
theorem cx_4 : cx ca n k q1 q2 q3 q4 q5 q6 d q7 4 = d := if_pos rfl
theorem cx_q4 : cx ca n k q1 q2 q3 q4 q5 q6 d q7 (14 + 7 * k + 4) = q4 := by
  unfold cx
  rw [if_neg (by omega), if_pos rfl]
theorem cx_q5 : cx ca n k q1 q2 q3 q4 q5 q6 d q7 (14 + 7 * k + 5) = q5 := by
  unfold cx
  rw [if_neg (by omega), if_neg (by omega), if_pos rfl]
theorem cx_q6 : cx ca n k q1 q2 q3 q4 q5 q6 d q7 (14 + 7 * k + 6) = q6 := by
  unfold cx
  rw [if_neg (by omega), if_neg (by omega), if_neg (by omega), if_pos rfl]
theorem cx_q1 : cx ca n k q1 q2 q3 q4 q5 q6 d q7 (14 + 7 * n + 1) = q1 := by
  unfold cx
  rw [if_neg (by omega), if_neg (by omega), if_neg (by omega), if_neg (by omega), if_pos rfl]
theorem cx_q2 : cx ca n k q1 q2 q3 q4 q5 q6 d q7 (14 + 7 * n + 2) = q2 := by
  unfold cx
  rw [if_neg (by omega), if_neg (by omega), if_neg (by omega), if_neg (by omega), if_neg (by omega), if_pos rfl]
theorem cx_q3 : cx ca n k q1 q2 q3 q4 q5 q6 d q7 (14 + 7 * n + 3) = q3 := by
  unfold cx
  rw [if_neg (by omega), if_neg (by omega), if_neg (by omega), if_neg (by omega), if_neg (by omega), if_neg (by omega), if_pos rfl]
theorem cx_q7 : cx ca n k q1 q2 q3 q4 q5 q6 d q7 (14 + 7 * n) = q7 := by
  unfold cx
  rw [if_neg (by omega), if_neg (by omega), if_neg (by omega), if_neg (by omega), if_neg (by omega), if_neg (by omega), if_neg (by omega), if_pos rfl]
theorem cx_cases (hc : us (n + 1) (k + 1) c) : (us n k c ∧ c ≠ 4 ∧ cx ca n k q1 q2 q3 q4 q5 q6 d q7 c = ca c) ∨ (c = 4 ∧ cx ca n k q1 q2 q3 q4 q5 q6 d q7 c = d) ∨ (c = 14 + 7 * k + 4 ∧ cx ca n k q1 q2 q3 q4 q5 q6 d q7 c = q4) ∨ (c = 14 + 7 * k + 5 ∧ cx ca n k q1 q2 q3 q4 q5 q6 d q7 c = q5) ∨ (c = 14 + 7 * k + 6 ∧ cx ca n k q1 q2 q3 q4 q5 q6 d q7 c = q6) ∨ (c = 14 + 7 * n + 1 ∧ cx ca n k q1 q2 q3 q4 q5 q6 d q7 c = q1) ∨ (c = 14 + 7 * n + 2 ∧ cx ca n k q1 q2 q3 q4 q5 q6 d q7 c = q2) ∨ (c = 14 + 7 * n + 3 ∧ cx ca n k q1 q2 q3 q4 q5 q6 d q7 c = q3) ∨ (c = 14 + 7 * n ∧ cx ca n k q1 q2 q3 q4 q5 q6 d q7 c = q7) := by
  by_cases h1 : c = 4
  · exact Or.inr (Or.inl ⟨h1, by rw [h1, cx_4]⟩)
  by_cases h2 : c = 14 + 7 * k + 4
  · exact Or.inr (Or.inr (Or.inl ⟨h2, by rw [h2, cx_q4]⟩))
  by_cases h3 : c = 14 + 7 * k + 5
  · exact Or.inr (Or.inr (Or.inr (Or.inl ⟨h3, by rw [h3, cx_q5]⟩)))
  by_cases h4 : c = 14 + 7 * k + 6
  · exact Or.inr (Or.inr (Or.inr (Or.inr (Or.inl ⟨h4, by rw [h4, cx_q6]⟩))))
  by_cases h5 : c = 14 + 7 * n + 1
  · exact Or.inr (Or.inr (Or.inr (Or.inr (Or.inr (Or.inl ⟨h5, by rw [h5, cx_q1]⟩)))))
  by_cases h6 : c = 14 + 7 * n + 2
  · exact Or.inr (Or.inr (Or.inr (Or.inr (Or.inr (Or.inr (Or.inl ⟨h6, by rw [h6, cx_q2]⟩))))))
  by_cases h7 : c = 14 + 7 * n + 3
  · exact Or.inr (Or.inr (Or.inr (Or.inr (Or.inr (Or.inr (Or.inr (Or.inl ⟨h7, by rw [h7, cx_q3]⟩)))))))
  by_cases h8 : c = 14 + 7 * n
  · exact Or.inr (Or.inr (Or.inr (Or.inr (Or.inr (Or.inr (Or.inr (Or.inr ⟨h8, by rw [h8, cx_q7]⟩)))))))
  refine Or.inl ⟨?_, h1, cx_o h1 h2 h3 h4 h5 h6 h7 h8⟩
  unfold us at hc ⊢
  omega
theorem cx_inj {sz : Nat} (hin : cInj ca n k) (hlt : ∀ c, us n k c → ca c < sz) (h1 : sz ≤ q1) (h2 : q1 < q2) (h3 : q2 < q3) (h4 : q3 < q4) (h5 : q4 < q5) (h6 : q5 < q6) (h7 : q6 < q7) (hd : d = ca 4 ∨ (q6 < d ∧ d < q7)) : cInj (cx ca n k q1 q2 q3 q4 q5 q6 d q7) (n + 1) (k + 1) := by
  have h4s : ca 4 < sz := hlt 4 (usS (by decide))
  have key : ∀ c c', us n k c → c ≠ 4 → us n k c' → c' ≠ 4 → ca c = ca c' → c = c' := fun c c' a _ b _ e => hin c c' a b e
  have kd : ∀ c, us n k c → c ≠ 4 → ca c ≠ d := fun c a b e => by
    rcases hd with z | z
    · exact hin.ne a (usS (by decide)) b (e.trans z)
    · have := hlt c a; omega
  intro c c' hc hc' he
  rcases cx_cases (ca := ca) (q1 := q1) (q2 := q2) (q3 := q3) (q4 := q4) (q5 := q5) (q6 := q6) (d := d) (q7 := q7) hc with ⟨a1, a2, a3⟩ | ⟨a2, a3⟩ | ⟨a2, a3⟩ | ⟨a2, a3⟩ | ⟨a2, a3⟩ | ⟨a2, a3⟩ | ⟨a2, a3⟩ | ⟨a2, a3⟩ | ⟨a2, a3⟩
  · have la := hlt c a1
    have kc := kd c a1 a2
    rcases cx_cases (ca := ca) (q1 := q1) (q2 := q2) (q3 := q3) (q4 := q4) (q5 := q5) (q6 := q6) (d := d) (q7 := q7) hc' with ⟨b1, b2, b3⟩ | ⟨b2, b3⟩ | ⟨b2, b3⟩ | ⟨b2, b3⟩ | ⟨b2, b3⟩ | ⟨b2, b3⟩ | ⟨b2, b3⟩ | ⟨b2, b3⟩ | ⟨b2, b3⟩
    · rw [a3, b3] at he; exact hin c c' a1 b1 he
    all_goals (exfalso; rw [a3, b3] at he; first | exact kc he | omega)
  all_goals
    rcases cx_cases (ca := ca) (q1 := q1) (q2 := q2) (q3 := q3) (q4 := q4) (q5 := q5) (q6 := q6) (d := d) (q7 := q7) hc' with ⟨b1, b2, b3⟩ | ⟨b2, b3⟩ | ⟨b2, b3⟩ | ⟨b2, b3⟩ | ⟨b2, b3⟩ | ⟨b2, b3⟩ | ⟨b2, b3⟩ | ⟨b2, b3⟩ | ⟨b2, b3⟩
    · exfalso
      have lb := hlt c' b1
      have kb := kd c' b1 b2
      rw [a3, b3] at he
      first | exact kb he.symm | omega
    all_goals (rw [a3, b3] at he; omega)
end CXS
theorem cInj.mono {ca : Nat → Nat} {n k k' : Nat} (h : cInj ca n k) (hk : k' ≤ k) : cInj ca n k' := fun c c' hc hc' e => h c c' (by unfold us at hc ⊢; omega) (by unfold us at hc' ⊢; omega) e
/-- the new image's cells are laid: the world of the state with one more -/
theorem CX_new {G : x_G} {ca : Nat → Nat} {σ : Sg} {nl : Nat} {num rp : Nat → Nat} {f : Nat → Int64} {sn : Nat → Int32} {H H1 : Heap} {o k nl' q1 q2 q3 q4 q5 q6 d q7 : Nat} {rp' : Nat → Nat}
    (hok : gI σ) (hW : CW G ca σ nl num rp f sn H) (ho : o < gn σ) (hoff : x_off (fun q => q = ca 3 ∨ (q = ca 4 ∧ ca 4 ≠ x_t G)) H H1)
    (h1 : H.size ≤ q1) (h2 : q1 < q2) (h3 : q2 < q3) (h4 : q3 < q4) (h5 : q4 < q5) (h6 : q5 < q6) (h7 : q6 < q7) (hd : d = ca 4 ∨ (q6 < d ∧ d < q7))
    (hI : IM G q7 q1 q3 (nI o) (nuL (gp σ) num o ++ [k]) H1) (hT : TR G q1 q2 f H1)
    (hAL : ∃ cap es, AL G (ca 3) d cap nl' es H1 ∧ ∀ j, j < nl' → es j = some (cY (cx ca (gn σ) nl q1 q2 q3 q4 q5 q6 d q7) j))
    (hnl : nl' ≤ nl + 1) (hnl0 : nl ≤ nl') (hrp : ∀ j, j < nl → rp' j = rp j) (hr : ∀ j, j < nl → 0 < rp j ∧ rp j < gn σ) (hY : nl' = nl + 1 → LY G q4 q5 q6 (eL (gt σ o) f 125) (mk (gt σ o) f) H1 ∧ rp' nl = gn σ) :
    CX G (cx ca (gn σ) nl q1 q2 q3 q4 q5 q6 d q7) (newS σ f o) (gn σ) nl' (va_up num (gn σ) k) rp' f sn H1 := by
  have hlt := hW.lt
  have hpr := hok.1.2.2.1
  obtain ⟨hin, hne, hO, ⟨hZ, ⟨ci, ei, hIm, hie⟩, -, hig, htg, hlg⟩, hs0, hs1, hdr, hse⟩ := hW
  generalize hcx : cx ca (gn σ) nl q1 q2 q3 q4 q5 q6 d q7 = cb at hAL ⊢
  have hinj : cInj cb (gn σ + 1) (nl + 1) := by rw [← hcx]; exact cx_inj hin hlt h1 h2 h3 h4 h5 h6 h7 hd
  have no : ∀ c, us (gn σ) nl c → c ≠ 3 → c ≠ 4 → ¬ (ca c = ca 3 ∨ (ca c = ca 4 ∧ ca 4 ≠ x_t G)) := fun c hc n3 n4 => by
    rintro (z | z)
    · exact hin.ne hc (usS (by decide)) n3 z
    · exact hin.ne hc (usS (by decide)) n4 z.1
  have nS : ∀ c, c < 14 → c ≠ 3 → c ≠ 4 → ¬ (ca c = ca 3 ∨ (ca c = ca 4 ∧ ca 4 ≠ x_t G)) := fun c hc n3 n4 => no c (usS hc) n3 n4
  have hnt : ¬ (x_t G = ca 3 ∨ (x_t G = ca 4 ∧ ca 4 ≠ x_t G)) := by
    rintro (z | z)
    · exact (hne 3 (usS (by decide))).2 (by decide) z.symm
    · exact z.2 z.1.symm
  have hnsa : ¬ (x_sa G = ca 3 ∨ (x_sa G = ca 4 ∧ ca 4 ≠ x_t G)) := by
    rintro (z | z)
    · exact (hne 3 (usS (by decide))).1 z.symm
    · exact (hne 4 (usS (by decide))).1 z.1.symm
  have hts : x_t G < H.size := by
    obtain ⟨-, scr, b1, -⟩ := hZ
    exact (Array.getElem?_eq_some_iff.mp b1).1
  have hss : x_sa G < H.size := by
    obtain ⟨⟨cell, b1, -⟩, -⟩ := hZ
    exact (Array.getElem?_eq_some_iff.mp b1).1
  have sm : ∀ c, c < 14 → c ≠ 4 → cb c = ca c := fun c hc n4 => by rw [← hcx]; exact cx_o n4 (by omega) (by omega) (by omega) (by omega) (by omega) (by omega) (by omega)
  have c4 : cb 4 = d := by rw [← hcx]; exact cx_4
  have ci' : ∀ i r, i < gn σ → r < 4 → cb (14 + 7 * i + r) = ca (14 + 7 * i + r) := fun i r hi hr => by rw [← hcx]; exact cx_o (by omega) (by omega) (by omega) (by omega) (by omega) (by omega) (by omega) (by omega)
  have cy' : ∀ i r, i < nl → 4 ≤ r → r < 7 → cb (14 + 7 * i + r) = ca (14 + 7 * i + r) := fun i r hi hr hr2 => by rw [← hcx]; exact cx_o (by omega) (by omega) (by omega) (by omega) (by omega) (by omega) (by omega) (by omega)
  refine ⟨hinj.mono hnl, fun c hc => ?_, ?_, hZ.keep hoff hnsa hnt, ?_, ?_, fun i hi => ?_, fun i hi => ?_, fun j hj => ?_, ?_, ?_, ?_, ?_⟩
  · have hc : us (gn σ + 1) (nl + 1) c := by
      have hc : us (gn σ + 1) nl' c := hc
      unfold us at hc ⊢
      omega
    rcases cx_cases (ca := ca) (q1 := q1) (q2 := q2) (q3 := q3) (q4 := q4) (q5 := q5) (q6 := q6) (d := d) (q7 := q7) hc with ⟨a1, a2, a3⟩ | ⟨a2, a3⟩ | ⟨a2, a3⟩ | ⟨a2, a3⟩ | ⟨a2, a3⟩ | ⟨a2, a3⟩ | ⟨a2, a3⟩ | ⟨a2, a3⟩ | ⟨a2, a3⟩
    · rw [hcx] at a3; rw [a3]; exact hne c a1
    · rw [hcx] at a3; rw [a3]
      refine ⟨?_, fun z => absurd a2 z⟩
      rcases hd with z | z
      · rw [z]; exact (hne 4 (usS (by decide))).1
      · omega
    all_goals (rw [hcx] at a3; rw [a3]; omega)
  · show va_at G.1 x_cl (cb 0, .inr (5, [.ref (cb 1), .ref (cb 3), .ref (cb 5), .ref (cb 8), .ref (cb 11), .ref (cb 13), .int (ga σ)])) H1
    rw [sm 0 (by decide) (by decide), sm 1 (by decide) (by decide), sm 3 (by decide) (by decide), sm 5 (by decide) (by decide), sm 8 (by decide) (by decide), sm 11 (by decide) (by decide), sm 13 (by decide) (by decide)]
    exact x_keep hO hoff (nS 0 (by decide) (by decide) (by decide))
  · rw [sm 1 (by decide) (by decide), sm 2 (by decide) (by decide)]
    exact ⟨ci, ei, hIm.keep hoff (nS 1 (by decide) (by decide) (by decide)) (nS 2 (by decide) (by decide) (by decide)), fun i hi => by rw [show cI cb i = cI ca i from ci' i 0 hi (by decide)]; exact hie i hi⟩
  · rw [sm 3 (by decide) (by decide), c4]
    exact hAL
  · have hi : i < gn σ + 1 := hi
    show IM G (cI cb i) (cT cb i) (cN cb i) (pI (va_up (gp σ) (gn σ) o) i) (nuL (va_up (gp σ) (gn σ) o) (va_up num (gn σ) k) i) H1
    by_cases e : i = gn σ
    · have ecn : nuL (va_up (gp σ) (gn σ) o) (va_up num (gn σ) k) (gn σ) = nuL (gp σ) num o ++ [k] := by
        unfold nuL
        rw [cn_new_n hok ho, List.map_append, List.map_cons, List.map_nil, va_up_self]
        congr 1
        refine List.map_congr_left (fun x hx => va_up_ne _ _ ?_)
        have := cn_mem hpr o o (Nat.le_refl _) x hx
        omega
      have epi : pI (va_up (gp σ) (gn σ) o) (gn σ) = nI o := by
        unfold pI
        rw [if_neg (by have := hok.1.1; omega), va_up_self]
      rw [e, ecn, epi, ← hcx]
      rw [show cI (cx ca (gn σ) nl q1 q2 q3 q4 q5 q6 d q7) (gn σ) = q7 from cx_q7, show cT (cx ca (gn σ) nl q1 q2 q3 q4 q5 q6 d q7) (gn σ) = q1 from cx_q1, show cN (cx ca (gn σ) nl q1 q2 q3 q4 q5 q6 d q7) (gn σ) = q3 from cx_q3]
      exact hI
    · have hi' : i < gn σ := by omega
      have ecn : nuL (va_up (gp σ) (gn σ) o) (va_up num (gn σ) k) i = nuL (gp σ) num i := by
        unfold nuL
        rw [cn_new hok ho i i (Nat.le_refl _) hi']
        refine List.map_congr_left (fun x hx => va_up_ne _ _ ?_)
        have := cn_mem hpr i i (Nat.le_refl _) x hx
        omega
      have epi : pI (va_up (gp σ) (gn σ) o) i = pI (gp σ) i := by unfold pI; rw [va_up_ne _ _ e]
      rw [ecn, epi, show cI cb i = cI ca i from ci' i 0 hi' (by decide), show cT cb i = cT ca i from ci' i 1 hi' (by decide), show cN cb i = cN ca i from ci' i 3 hi' (by decide)]
      exact (hig i hi').keep hoff (no _ (usI (r := 0) hi' (by decide)) (by omega) (by omega)) (no _ (usI (r := 3) hi' (by decide)) (by omega) (by omega))
  · have hi : i < gn σ + 1 := hi
    show TR G (cT cb i) (cM cb i) (va_up (gt σ) (gn σ) f i) H1
    by_cases e : i = gn σ
    · rw [e, va_up_self, ← hcx, show cT (cx ca (gn σ) nl q1 q2 q3 q4 q5 q6 d q7) (gn σ) = q1 from cx_q1, show cM (cx ca (gn σ) nl q1 q2 q3 q4 q5 q6 d q7) (gn σ) = q2 from cx_q2]
      exact hT
    · have hi' : i < gn σ := by omega
      rw [va_up_ne _ _ e, show cT cb i = cT ca i from ci' i 1 hi' (by decide), show cM cb i = cM ca i from ci' i 2 hi' (by decide)]
      exact (htg i hi').keep hoff (no _ (usI (r := 1) hi' (by decide)) (by omega) (by omega)) (no _ (usI (r := 2) hi' (by decide)) (by omega) (by omega))
  · show LY G (cY cb j) (cP cb j) (cQ cb j) (eL (va_up (gt σ) (gn σ) f (va_up (gp σ) (gn σ) o (rp' j))) (va_up (gt σ) (gn σ) f (rp' j)) 125) (mk (va_up (gt σ) (gn σ) f (va_up (gp σ) (gn σ) o (rp' j))) (va_up (gt σ) (gn σ) f (rp' j))) H1
    by_cases e : j < nl
    · have hrj := hr j e
      have hpj := hpr _ hrj.1
      rw [hrp j e, va_up_ne (gp σ) _ (show rp j ≠ gn σ by omega), va_up_ne (gt σ) _ (show gp σ (rp j) ≠ gn σ by omega), va_up_ne (gt σ) _ (show rp j ≠ gn σ by omega), show cY cb j = cY ca j from cy' j 4 e (by decide) (by decide), show cP cb j = cP ca j from cy' j 5 e (by decide) (by decide), show cQ cb j = cQ ca j from cy' j 6 e (by decide) (by decide)]
      exact (hlg j e).keep hoff (no _ (usL (r := 4) e (by decide) (by decide)) (by omega) (by omega)) (no _ (usL (r := 5) e (by decide) (by decide)) (by omega) (by omega)) (no _ (usL (r := 6) e (by decide) (by decide)) (by omega) (by omega))
    · have ej : j = nl := by omega
      obtain ⟨hL, hrn⟩ := hY (by omega)
      rw [ej, hrn, va_up_self (gp σ), va_up_self (gt σ), va_up_ne (gt σ) _ (show o ≠ gn σ by omega), ← hcx, show cY (cx ca (gn σ) nl q1 q2 q3 q4 q5 q6 d q7) nl = q4 from cx_q4, show cP (cx ca (gn σ) nl q1 q2 q3 q4 q5 q6 d q7) nl = q5 from cx_q5, show cQ (cx ca (gn σ) nl q1 q2 q3 q4 q5 q6 d q7) nl = q6 from cx_q6]
      exact hL
  · rw [sm 5 (by decide) (by decide), sm 6 (by decide) (by decide), sm 7 (by decide) (by decide)]
    exact hs0.keep hoff (nS 5 (by decide) (by decide) (by decide)) (nS 6 (by decide) (by decide) (by decide)) (nS 7 (by decide) (by decide) (by decide))
  · rw [sm 8 (by decide) (by decide), sm 9 (by decide) (by decide), sm 10 (by decide) (by decide)]
    exact hs1.keep hoff (nS 8 (by decide) (by decide) (by decide)) (nS 9 (by decide) (by decide) (by decide)) (nS 10 (by decide) (by decide) (by decide))
  · rw [sm 11 (by decide) (by decide), sm 12 (by decide) (by decide)]
    exact hdr.keep hoff (nS 11 (by decide) (by decide) (by decide)) (nS 12 (by decide) (by decide) (by decide))
  · rw [sm 13 (by decide) (by decide)]
    exact x_keep hse hoff (nS 13 (by decide) (by decide) (by decide))
/-- what newImageOn leaves -/
def NI (G : x_G) (ca : Nat → Nat) (σ : Sg) (nl : Nat) (o : Nat) (f : Nat → Int64) (sn : Nat → Int32) : Option Value → Heap → Heap → Prop := fun r H H1 => ∃ ca' nl' num' rp', r = some (.ref (cI ca' (gn σ))) ∧ CX G ca' (newS σ f o) (gn σ) nl' num' rp' f sn H1 ∧ cNum (newS σ f o) nl' num' rp' ∧ (∀ c, us (gn σ + 1) nl' c → (∃ c', us (gn σ) nl c' ∧ ca' c = ca c') ∨ H.size ≤ ca' c) ∧ (∀ c, c < 4 → ca' c = ca c) ∧ x_off (fun q => q = ca 3 ∨ (q = ca 4 ∧ ca 4 ≠ x_t G)) H H1
theorem cx_from {ca : Nat → Nat} {n k q1 q2 q3 q4 q5 q6 d q7 k' sz : Nat} (hk : k' ≤ k + 1) (h1 : sz ≤ q1) (h2 : q1 < q2) (h3 : q2 < q3) (h4 : q3 < q4) (h5 : q4 < q5) (h6 : q5 < q6) (h7 : q6 < q7) (hd : d = ca 4 ∨ (q6 < d ∧ d < q7)) : ∀ c, us (n + 1) k' c → (∃ c', us n k c' ∧ cx ca n k q1 q2 q3 q4 q5 q6 d q7 c = ca c') ∨ sz ≤ cx ca n k q1 q2 q3 q4 q5 q6 d q7 c := by
  intro c hc
  have hc : us (n + 1) (k + 1) c := by unfold us at hc ⊢; omega
  rcases cx_cases (ca := ca) (q1 := q1) (q2 := q2) (q3 := q3) (q4 := q4) (q5 := q5) (q6 := q6) (d := d) (q7 := q7) hc with ⟨a1, a2, a3⟩ | ⟨a2, a3⟩ | ⟨a2, a3⟩ | ⟨a2, a3⟩ | ⟨a2, a3⟩ | ⟨a2, a3⟩ | ⟨a2, a3⟩ | ⟨a2, a3⟩ | ⟨a2, a3⟩
  · exact Or.inl ⟨c, a1, a3⟩
  · rcases hd with z | z
    · exact Or.inl ⟨4, usS (by decide), by rw [a3, z]⟩
    · right; rw [a3]; omega
  all_goals (right; rw [a3]; omega)

