/-! ===== contracts out of walks: the end of the method is a hypothesis on any Q, so that loops can be said ===== -/
def x_b (b : Bool) : Int32 := match b with | true => 1 | false => 0
theorem x_b_nar (b : Bool) : narrow .boolean (.int (x_b b)) = .int (x_b b) := by cases b <;> decide +kernel
section XM
variable {l : Launch} {y : MethodName} {rm : Room} {mc ms : Nat} {A : Addr → Prop} {cc : ByteArray} {maxL : Nat} {G : x_G} {av : List Value} {PRE : Heap → Prop} {POST : Option Value → Heap → Heap → Prop}
theorem x_mI {r : Int32} (hy : plainFor y = true) (hlen : (lg_sl av).length ≤ maxL)
    (body : ∀ (p : Program) (e : Env) (s : State) (m : MethodId) (args : Array Value) (below : List Frame) (meth : Method) (c : Code), x_F p m c cc maxL s args y.cls → x_K G s → PRE s.heap → ∀ ls : Array Slot, lv_has ls maxL (lv_args 0 av) → ∀ Q : State → Prop,
      (∀ (pc : Nat) (ls' : Array Slot) (v : Int32), decode cc pc = .ok (.ireturn, 1) → v = r → W p l e rm s m args below meth c s.heap [] 0 0 Q (F0 m pc ls' [.int v])) → W p l e rm s m args below meth c s.heap [] 0 0 Q (F0 m 0 ls [])) :
    Met l y (x_ws y cc maxL (some .int)) rm (x_P G av PRE) (k2_QcV (.int r)) 0 0 (fun _ => False) :=
  x_met hy hlen fun p e s m below meth c hx hb hr hml hown hts hlocks hnm hK hP ls hl => body p e s m _ below meth c ⟨hx, hb, hml, hown, hts⟩ hK hP ls hl _ fun pc ls' v hd hv =>
    W.iret hx hb hr (fun t ht _ => ⟨by rw [hv], ht⟩) (fun q h => absurd h List.not_mem_nil) hd hlocks
theorem x_mL {r : Int64} (hy : plainFor y = true) (hlen : (lg_sl av).length ≤ maxL)
    (body : ∀ (p : Program) (e : Env) (s : State) (m : MethodId) (args : Array Value) (below : List Frame) (meth : Method) (c : Code), x_F p m c cc maxL s args y.cls → x_K G s → PRE s.heap → ∀ ls : Array Slot, lv_has ls maxL (lv_args 0 av) → ∀ Q : State → Prop,
      (∀ (pc : Nat) (ls' : Array Slot) (v : Int64), decode cc pc = .ok (.lreturn, 1) → v = r → W p l e rm s m args below meth c s.heap [] 0 0 Q (F0 m pc ls' [.long v])) → W p l e rm s m args below meth c s.heap [] 0 0 Q (F0 m 0 ls [])) :
    Met l y (x_ws y cc maxL (some .long)) rm (x_P G av PRE) (k2_QcV (.long r)) 0 0 (fun _ => False) :=
  x_met hy hlen fun p e s m below meth c hx hb hr hml hown hts hlocks hnm hK hP ls hl => body p e s m _ below meth c ⟨hx, hb, hml, hown, hts⟩ hK hP ls hl _ fun pc ls' v hd hv =>
    W.lret hx hb hr (fun t ht _ => ⟨by rw [hv], ht⟩) (fun q h => absurd h List.not_mem_nil) hd hlocks
theorem x_mZ {r : Bool} (hy : plainFor y = true) (hlen : (lg_sl av).length ≤ maxL)
    (body : ∀ (p : Program) (e : Env) (s : State) (m : MethodId) (args : Array Value) (below : List Frame) (meth : Method) (c : Code), x_F p m c cc maxL s args y.cls → x_K G s → PRE s.heap → ∀ ls : Array Slot, lv_has ls maxL (lv_args 0 av) → ∀ Q : State → Prop,
      (∀ (pc : Nat) (ls' : Array Slot) (v : Int32), decode cc pc = .ok (.ireturn, 1) → v = x_b r → W p l e rm s m args below meth c s.heap [] 0 0 Q (F0 m pc ls' [.int v])) → W p l e rm s m args below meth c s.heap [] 0 0 Q (F0 m 0 ls [])) :
    Met l y (x_ws y cc maxL (some .boolean)) rm (x_P G av PRE) (k2_QcV (.int (x_b r))) 0 0 (fun _ => False) :=
  x_met hy hlen fun p e s m below meth c hx hb hr hml hown hts hlocks hnm hK hP ls hl => body p e s m _ below meth c ⟨hx, hb, hml, hown, hts⟩ hK hP ls hl _ fun pc ls' v hd hv =>
    W.zret hx hb hr (by rw [hv]; exact x_b_nar r) (fun t ht _ => ⟨by rw [hv], ht⟩) (fun q h => absurd h List.not_mem_nil) hd hlocks
theorem x_mA {r : Value} {rt : FieldType} (hrt : (∃ n, rt = .object n) ∨ ∃ t, rt = .array t) (hrv : r = .null ∨ ∃ a, r = .ref a) (hy : plainFor y = true) (hlen : (lg_sl av).length ≤ maxL)
    (body : ∀ (p : Program) (e : Env) (s : State) (m : MethodId) (args : Array Value) (below : List Frame) (meth : Method) (c : Code), x_F p m c cc maxL s args y.cls → x_K G s → PRE s.heap → ∀ ls : Array Slot, lv_has ls maxL (lv_args 0 av) → ∀ Q : State → Prop,
      (∀ (pc : Nat) (ls' : Array Slot) (v : Value), decode cc pc = .ok (.areturn, 1) → v = r → W p l e rm s m args below meth c s.heap [] 0 0 Q (F0 m pc ls' [v])) → W p l e rm s m args below meth c s.heap [] 0 0 Q (F0 m 0 ls [])) :
    Met l y (x_ws y cc maxL (some rt)) rm (x_P G av PRE) (k2_QcV r) 0 0 (fun _ => False) :=
  x_met hy hlen fun p e s m below meth c hx hb hr hml hown hts hlocks hnm hK hP ls hl => body p e s m _ below meth c ⟨hx, hb, hml, hown, hts⟩ hK hP ls hl _ fun pc ls' v hd hv =>
    W.aret hx hb hr hrt (by rw [hv]; exact hrv) (fun t ht _ => ⟨by rw [hv], ht⟩) (fun q h => absurd h List.not_mem_nil) hd hlocks
/-! those that write -/
theorem x_wI (hy : plainFor y = true) (hlen : (lg_sl av).length ≤ maxL)
    (body : ∀ (p : Program) (e : Env) (s : State) (m : MethodId) (args : Array Value) (below : List Frame) (meth : Method) (c : Code), x_F p m c cc maxL s args y.cls → x_K G s → PRE s.heap → ∀ ls : Array Slot, lv_has ls maxL (lv_args 0 av) → ∀ Q : State → Prop,
      (∀ (pc : Nat) (ls' : Array Slot) (v : Int32) (H : Heap) (locs : List Loc) (cells slots : Nat), decode cc pc = .ok (.ireturn, 1) → POST (some (.int v)) s.heap H → (∀ q ∈ locs, A q.base) → cells ≤ mc → slots ≤ ms → W p l e rm s m args below meth c H locs cells slots Q (F0 m pc ls' [.int v])) → W p l e rm s m args below meth c s.heap [] 0 0 Q (F0 m 0 ls [])) :
    Met l y (x_ws y cc maxL (some .int)) rm (x_P G av PRE) (x_Q POST) mc ms A :=
  x_met hy hlen fun p e s m below meth c hx hb hr hml hown hts hlocks hnm hK hP ls hl => body p e s m _ below meth c ⟨hx, hb, hml, hown, hts⟩ hK hP ls hl _ fun pc ls' v H locs cells slots hd hp hf h1 h2 =>
    W.widen h1 h2 (W.iret hx hb hr (fun t ht _ => ⟨_, rfl, by rw [ht]; exact hp⟩) hf hd hlocks)
theorem x_wZ (hy : plainFor y = true) (hlen : (lg_sl av).length ≤ maxL)
    (body : ∀ (p : Program) (e : Env) (s : State) (m : MethodId) (args : Array Value) (below : List Frame) (meth : Method) (c : Code), x_F p m c cc maxL s args y.cls → x_K G s → PRE s.heap → ∀ ls : Array Slot, lv_has ls maxL (lv_args 0 av) → ∀ Q : State → Prop,
      (∀ (pc : Nat) (ls' : Array Slot) (v : Int32) (b : Bool) (H : Heap) (locs : List Loc) (cells slots : Nat), decode cc pc = .ok (.ireturn, 1) → v = x_b b → POST (some (.int (x_b b))) s.heap H → (∀ q ∈ locs, A q.base) → cells ≤ mc → slots ≤ ms → W p l e rm s m args below meth c H locs cells slots Q (F0 m pc ls' [.int v])) → W p l e rm s m args below meth c s.heap [] 0 0 Q (F0 m 0 ls [])) :
    Met l y (x_ws y cc maxL (some .boolean)) rm (x_P G av PRE) (x_Q POST) mc ms A :=
  x_met hy hlen fun p e s m below meth c hx hb hr hml hown hts hlocks hnm hK hP ls hl => body p e s m _ below meth c ⟨hx, hb, hml, hown, hts⟩ hK hP ls hl _ fun pc ls' v b H locs cells slots hd hv hp hf h1 h2 =>
    W.widen h1 h2 (W.zret hx hb hr (by rw [hv]; exact x_b_nar b) (fun t ht _ => ⟨_, by rw [hv], by rw [ht]; exact hp⟩) hf hd hlocks)
theorem x_wV (hy : plainFor y = true) (hlen : (lg_sl av).length ≤ maxL)
    (body : ∀ (p : Program) (e : Env) (s : State) (m : MethodId) (args : Array Value) (below : List Frame) (meth : Method) (c : Code), x_F p m c cc maxL s args y.cls → meth.name = y.name → x_K G s → PRE s.heap → ∀ ls : Array Slot, lv_has ls maxL (lv_args 0 av) → ∀ Q : State → Prop,
      (∀ (pc : Nat) (ls' : Array Slot) (H : Heap) (locs : List Loc) (cells slots : Nat), decode cc pc = .ok (.return_, 1) → POST none s.heap H → (∀ q ∈ locs, A q.base) → cells ≤ mc → slots ≤ ms → W p l e rm s m args below meth c H locs cells slots Q (F0 m pc ls' [])) → W p l e rm s m args below meth c s.heap [] 0 0 Q (F0 m 0 ls [])) :
    Met l y (x_ws y cc maxL none) rm (x_P G av PRE) (x_Q POST) mc ms A :=
  x_met hy hlen fun p e s m below meth c hx hb hr hml hown hts hlocks hnm hK hP ls hl => body p e s m _ below meth c ⟨hx, hb, hml, hown, hts⟩ hnm hK hP ls hl _ fun pc ls' H locs cells slots hd hp hf h1 h2 =>
    W.widen h1 h2 (W.vret hx hb hr (fun t ht _ => ⟨_, rfl, by rw [ht]; exact hp⟩) hf hd hlocks)
theorem x_wA {rt : FieldType} (hrt : (∃ n, rt = .object n) ∨ ∃ t, rt = .array t) (hy : plainFor y = true) (hlen : (lg_sl av).length ≤ maxL)
    (body : ∀ (p : Program) (e : Env) (s : State) (m : MethodId) (args : Array Value) (below : List Frame) (meth : Method) (c : Code), x_F p m c cc maxL s args y.cls → x_K G s → PRE s.heap → ∀ ls : Array Slot, lv_has ls maxL (lv_args 0 av) → ∀ Q : State → Prop,
      (∀ (pc : Nat) (ls' : Array Slot) (v : Nat) (H : Heap) (locs : List Loc) (cells slots : Nat), decode cc pc = .ok (.areturn, 1) → POST (some (.ref v)) s.heap H → (∀ q ∈ locs, A q.base) → cells ≤ mc → slots ≤ ms → W p l e rm s m args below meth c H locs cells slots Q (F0 m pc ls' [.ref v])) → W p l e rm s m args below meth c s.heap [] 0 0 Q (F0 m 0 ls [])) :
    Met l y (x_ws y cc maxL (some rt)) rm (x_P G av PRE) (x_Q POST) mc ms A :=
  x_met hy hlen fun p e s m below meth c hx hb hr hml hown hts hlocks hnm hK hP ls hl => body p e s m _ below meth c ⟨hx, hb, hml, hown, hts⟩ hK hP ls hl _ fun pc ls' v H locs cells slots hd hp hf h1 h2 =>
    W.widen h1 h2 (W.aret hx hb hr hrt (Or.inr ⟨_, rfl⟩) (fun t ht _ => ⟨_, rfl, by rw [ht]; exact hp⟩) hf hd hlocks)
end XM
/-! places by numbers -/
section XN
variable {p : Program} {l : Launch} {e : Env} {R : Room} {s : State} {m : MethodId} {args : Array Value} {below : List Frame} {meth : Method} {c : Code} {H : Heap} {locs : List Loc} {cells slots : Nat} {Q : State → Prop}
variable {cc : ByteArray} {pc nL index : Nat} {ls : Array Slot} {rest : List Value} {own : String} {G : x_G} {a : Nat} {A : Nat → Prop} {H0 : Heap}
theorem x_ialdN (F : x_F p m c cc nL s args own) (hK : x_K G s) {n : Nat} {f : Nat → Int32} (hat : x_ai G a n f H) (hn : n < 2 ^ 31) {i : Nat} (hi : i < n) (hdg : decode cc pc = .ok (.iaload, 1)) (kk : W p l e R s m args below meth c H locs cells slots Q (F0 m (pc + 1) ls (.int (f i) :: rest))) : W p l e R s m args below meth c H locs cells slots Q (F0 m pc ls (.int (nI i) :: .ref a :: rest)) :=
  x_iald F hK hat (vp_in_nI hi hn) hdg (by rw [nI_clamp (by omega)]; exact kk)
theorem x_laldN (F : x_F p m c cc nL s args own) (hK : x_K G s) {n : Nat} {f : Nat → Int64} (hat : x_al G a n f H) (hn : n < 2 ^ 31) {i : Nat} (hi : i < n) (hdg : decode cc pc = .ok (.laload, 1)) (kk : W p l e R s m args below meth c H locs cells slots Q (F0 m (pc + 1) ls (.long (f i) :: rest))) : W p l e R s m args below meth c H locs cells slots Q (F0 m pc ls (.int (nI i) :: .ref a :: rest)) :=
  x_lald F hK hat (vp_in_nI hi hn) hdg (by rw [nI_clamp (by omega)]; exact kk)
theorem x_zaldN (F : x_F p m c cc nL s args own) (hK : x_K G s) {n : Nat} {f : Nat → Int32} (hat : x_az G a n f H) (hn : n < 2 ^ 31) {i : Nat} (hi : i < n) (hdg : decode cc pc = .ok (.baload, 1)) (kk : W p l e R s m args below meth c H locs cells slots Q (F0 m (pc + 1) ls (.int (f i) :: rest))) : W p l e R s m args below meth c H locs cells slots Q (F0 m pc ls (.int (nI i) :: .ref a :: rest)) :=
  x_zald F hK hat (vp_in_nI hi hn) hdg (by rw [nI_clamp (by omega)]; exact kk)
theorem x_qaldN (F : x_F p m c cc nL s args own) (hK : x_K G s) {n : Nat} {f : Nat → Option Nat} (hat : x_aq G a n f H) (hn : n < 2 ^ 31) {i : Nat} (hi : i < n) (hdg : decode cc pc = .ok (.aaload, 1)) (kk : W p l e R s m args below meth c H locs cells slots Q (F0 m (pc + 1) ls (va_rf (f i) :: rest))) : W p l e R s m args below meth c H locs cells slots Q (F0 m pc ls (.int (nI i) :: .ref a :: rest)) :=
  x_qald F hK hat (vp_in_nI hi hn) hdg (by rw [nI_clamp (by omega)]; exact kk)
theorem x_iastN (F : x_F p m c cc nL s args own) (hK : x_K G s) {n : Nat} {f : Nat → Int32} (hat : x_ai G a n f H) {x : Int32} (hn : n < 2 ^ 31) {i : Nat} (hi : i < n) (hS : va_S A H0 H locs) (hA : A a) (hdg : decode cc pc = .ok (.iastore, 1))
    (kk : ∀ (H1 : Heap) (locs1 : List Loc), x_ai G a n (upd f i x) H1 → H1.size = H.size → (∀ q : Nat, q ≠ a → H1[q]? = H[q]?) → va_S A H0 H1 locs1 → W p l e R s m args below meth c H1 locs1 cells slots Q (F0 m (pc + 1) ls rest)) : W p l e R s m args below meth c H locs cells slots Q (F0 m pc ls (.int x :: .int (nI i) :: .ref a :: rest)) :=
  x_iast F hK hat (vp_in_nI hi hn) hS hA hdg (by rw [nI_clamp (by omega)]; exact kk)
theorem x_zastN (F : x_F p m c cc nL s args own) (hK : x_K G s) {n : Nat} {f : Nat → Int32} (hat : x_az G a n f H) {x : Int32} (hx : vp_nar .boolean x = x) (hn : n < 2 ^ 31) {i : Nat} (hi : i < n) (hS : va_S A H0 H locs) (hA : A a) (hdg : decode cc pc = .ok (.bastore, 1))
    (kk : ∀ (H1 : Heap) (locs1 : List Loc), x_az G a n (upd f i x) H1 → H1.size = H.size → (∀ q : Nat, q ≠ a → H1[q]? = H[q]?) → va_S A H0 H1 locs1 → W p l e R s m args below meth c H1 locs1 cells slots Q (F0 m (pc + 1) ls rest)) : W p l e R s m args below meth c H locs cells slots Q (F0 m pc ls (.int x :: .int (nI i) :: .ref a :: rest)) :=
  x_zast F hK hat hx (vp_in_nI hi hn) hS hA hdg (by rw [nI_clamp (by omega)]; exact kk)
theorem x_lastN (F : x_F p m c cc nL s args own) (hK : x_K G s) {n : Nat} {f : Nat → Int64} (hat : x_al G a n f H) {x : Int64} (hn : n < 2 ^ 31) {i : Nat} (hi : i < n) (hS : va_S A H0 H locs) (hA : A a) (hdg : decode cc pc = .ok (.lastore, 1))
    (kk : ∀ (H1 : Heap) (locs1 : List Loc), x_al G a n (vp_updL f i x) H1 → H1.size = H.size → (∀ q : Nat, q ≠ a → H1[q]? = H[q]?) → va_S A H0 H1 locs1 → W p l e R s m args below meth c H1 locs1 cells slots Q (F0 m (pc + 1) ls rest)) : W p l e R s m args below meth c H locs cells slots Q (F0 m pc ls (.long x :: .int (nI i) :: .ref a :: rest)) :=
  x_last F hK hat (vp_in_nI hi hn) hS hA hdg (by rw [nI_clamp (by omega)]; exact kk)
end XN
theorem lg_cmp_0 {x y : Int64} : lg_cmp x y = 0 ↔ x = y := by
  unfold lg_cmp
  constructor
  · intro h
    by_cases h1 : x = y
    · exact h1
    · exfalso
      revert h
      simp only [h1]
      split <;> simp_all
  · intro h
    subst h
    simp
theorem x_b_0 {b : Bool} : x_b b = 0 ↔ b = false := by cases b <;> decide +kernel
section XL
variable {p : Program} {l : Launch} {e : Env} {R : Room} {s : State} {m : MethodId} {args : Array Value} {below : List Frame} {meth : Method} {c : Code} {H : Heap} {locs : List Loc} {cells slots : Nat} {Q : State → Prop}
variable {cc : ByteArray} {pc nL index : Nat} {ls : Array Slot} {rest : List Value} {own : String} {G : x_G} {A : Nat → Prop} {H0 : Heap}
theorem x_lne (F : x_F p m c cc nL s args own) {x y : Int64} {off : Int} {tgt : Nat} (hd1 : decode cc pc = .ok (.lcmp, 1)) (hd2 : decode cc (pc + 1) = .ok (.ifCond .ne off, 3)) (ht : ((pc + 1 : Nat) : Int) + off = (tgt : Int)) (kt : ¬ x = y → W p l e R s m args below meth c H locs cells slots Q (F0 m tgt ls rest)) (kf : x = y → W p l e R s m args below meth c H locs cells slots Q (F0 m (pc + 1 + 3) ls rest)) : W p l e R s m args below meth c H locs cells slots Q (F0 m pc ls (.long y :: .long x :: rest)) :=
  W.lcmp F.1 F.2.1 hd1 (lv_if_ne F.1 F.2.1 hd2 ht (fun h => kt (fun q => h (lg_cmp_0.mpr q))) (fun h => kf (lg_cmp_0.mp h)))
theorem x_leq (F : x_F p m c cc nL s args own) {x y : Int64} {off : Int} {tgt : Nat} (hd1 : decode cc pc = .ok (.lcmp, 1)) (hd2 : decode cc (pc + 1) = .ok (.ifCond .eq off, 3)) (ht : ((pc + 1 : Nat) : Int) + off = (tgt : Int)) (kt : x = y → W p l e R s m args below meth c H locs cells slots Q (F0 m tgt ls rest)) (kf : ¬ x = y → W p l e R s m args below meth c H locs cells slots Q (F0 m (pc + 1 + 3) ls rest)) : W p l e R s m args below meth c H locs cells slots Q (F0 m pc ls (.long y :: .long x :: rest)) :=
  W.lcmp F.1 F.2.1 hd1 (lv_if_eq F.1 F.2.1 hd2 ht (fun h => kt (lg_cmp_0.mp h)) (fun h => kf (fun q => h (lg_cmp_0.mpr q))))
theorem x_beq (F : x_F p m c cc nL s args own) {b : Bool} {off : Int} {tgt : Nat} (hdg : decode cc pc = .ok (.ifCond .eq off, 3)) (ht : (pc : Int) + off = (tgt : Int)) (kt : b = false → W p l e R s m args below meth c H locs cells slots Q (F0 m tgt ls rest)) (kf : b = true → W p l e R s m args below meth c H locs cells slots Q (F0 m (pc + 3) ls rest)) : W p l e R s m args below meth c H locs cells slots Q (F0 m pc ls (.int (x_b b) :: rest)) :=
  lv_if_eq F.1 F.2.1 hdg ht (fun h => kt (x_b_0.mp h)) (fun h => kf (by cases b; exact absurd rfl h; rfl))
theorem x_bne (F : x_F p m c cc nL s args own) {b : Bool} {off : Int} {tgt : Nat} (hdg : decode cc pc = .ok (.ifCond .ne off, 3)) (ht : (pc : Int) + off = (tgt : Int)) (kt : b = true → W p l e R s m args below meth c H locs cells slots Q (F0 m tgt ls rest)) (kf : b = false → W p l e R s m args below meth c H locs cells slots Q (F0 m (pc + 3) ls rest)) : W p l e R s m args below meth c H locs cells slots Q (F0 m pc ls (.int (x_b b) :: rest)) :=
  lv_if_ne F.1 F.2.1 hdg ht (fun h => kt (by cases b; exact absurd rfl h; rfl)) (fun h => kf (x_b_0.mp h))
end XL
