/-! ===== what every contract here knows: the classes, the array classes (int, long, boolean, Object), the nest mates' links and the casts ===== -/
abbrev x_G : Type := va_G × (ClassId × ClassId × ClassId × ClassId)
abbrev x_tys (G : x_G) : List (ClassId × FieldType) := [(G.2.1, .int), (G.2.2.1, .long), (G.2.2.2.1, .boolean), (G.2.2.2.2, .object "java/lang/Object")]
abbrev x_nt : List Cond := [.fieldLinkNest "ImageStores" 172 "ImageStores$Image" "parent" "I" "ImageStores", .fieldLinkNest "ImageStores" 64 "ImageStores$Image" "tree" "LImageStores$Tree;" "ImageStores", .fieldLinkNest "ImageStores" 125 "ImageStores$Image" "layerNumbers" "[I" "ImageStores", .fieldLinkNest "ImageStores" 145 "ImageStores$Layer" "paths" "[I" "ImageStores", .fieldLinkNest "ImageStores" 148 "ImageStores$Layer" "marks" "[J" "ImageStores", .castable "ImageStores$Image" "ImageStores$Image", .castable "ImageStores$Layer" "ImageStores$Layer", .castable "ImageStores$Image" "java/lang/Object", .castable "ImageStores$Layer" "java/lang/Object"]
/-- ArrayList's empty row: its static's cell and place, the row itself, and the class object of Object[] (numbers kept where no class is) -/
abbrev x_sa (G : x_G) : Nat := G.1.2 100 0
abbrev x_so (G : x_G) : Nat := G.1.2 100 1
abbrev x_t (G : x_G) : Nat := G.1.2 100 2
abbrev x_mi (G : x_G) : Nat := G.1.2 100 3
def x_St (G : x_G) (U : State) : Prop := ∃ (cf : ClassId) (kf : Class) (fi : Nat) (f : Field), U.fieldFound? "java/util/ArrayList" "DEFAULTCAPACITY_EMPTY_ELEMENTDATA" "[Ljava/lang/Object;" = some (cf, kf, fi, f) ∧ f.isStatic = true ∧ kf.init = .initialized ∧ kf.statics = some (x_sa G) ∧ f.slot = x_so G
theorem x_St.moved {G : x_G} {u U : State} (hvm : u.vm.Alike U.vm) (h : x_St G u) : x_St G U := by
  obtain ⟨cf, kf, fi, f, h1, h2, h3, h4, h5⟩ := h
  obtain ⟨k', hi', he⟩ := State.fieldFound?_setVm hvm h1
  exact ⟨cf, k', fi, f, hi', h2, by rw [he]; exact h3, by rw [he]; exact h4, h5⟩
def x_K (G : x_G) (U : State) : Prop := va_K G.1 x_cl (x_tys G) U ∧ (∀ w ∈ x_nt, va_Nw w U) ∧ va_AO "java/lang/Object" U ∧ va_Dc U ∧ va_Mi "[Ljava/lang/Object;" (x_mi G) U ∧ x_St G U
theorem x_K.warm {G : x_G} {s U : State} (hW : s.WarmedH U.vm) (h : x_K G s) : x_K G U := by
  refine ⟨va_K.moved hW.alike h.1, ?_, va_AO.moved hW.alike h.2.2.1, va_Dc.moved hW.alike h.2.2.2.1, va_Mi.moved hW.alike h.2.2.2.2.1, x_St.moved hW.alike h.2.2.2.2.2⟩
  have h2 := h.2.1
  simp only [x_nt, List.forall_mem_cons] at h2 ⊢
  obtain ⟨a1, a2, a3, a4, a5, a6, a7, a8, a9, -⟩ := h2
  exact ⟨va_Nw.warmF hW a1, va_Nw.warmF hW a2, va_Nw.warmF hW a3, va_Nw.warmF hW a4, va_Nw.warmF hW a5, va_Nw.warmC hW a6, va_Nw.warmC hW a7, va_Nw.warmC hW a8, va_Nw.warmC hW a9, fun _ h => absurd h List.not_mem_nil⟩
theorem x_K.calling {G : x_G} {U : State} {g : JFrame} {mk : MethodId} {a : Array Value} (h : x_K G U) : x_K G (U.calling g mk a) := by
  refine ⟨va_K.moved (u := U) (U := U.calling g mk a) (Vm.Alike.refl U.vm) h.1, fun w hw => ?_, va_AO.moved (u := U) (U := U.calling g mk a) (Vm.Alike.refl U.vm) h.2.2.1, va_Dc.moved (u := U) (U := U.calling g mk a) (Vm.Alike.refl U.vm) h.2.2.2.1, va_Mi.moved (u := U) (U := U.calling g mk a) (Vm.Alike.refl U.vm) h.2.2.2.2.1, x_St.moved (u := U) (U := U.calling g mk a) (Vm.Alike.refl U.vm) h.2.2.2.2.2⟩
  have hon : w.onTables = true := by
    have hall : ∀ w ∈ x_nt, w.onTables = true := by decide +kernel
    exact hall w hw
  exact va_Nw.same hon (u := U) (U := U.calling g mk a) rfl (h.2.1 w hw)
/-- a contract's start -/
def x_P (G : x_G) (av : List Value) (PRE : Heap → Prop) : Array Value → State → Prop := fun v U => v = av.toArray ∧ x_K G U ∧ PRE U.heap
theorem x_blind {G : x_G} {av : List Value} {PRE : Heap → Prop} : FrameBlind (x_P G av PRE) := fun _ _ _ _ h => ⟨h.1, h.2.1.calling, h.2.2⟩
/-- a contract's end: the answer, the heap before and behind -/
def x_Q (POST : Option Value → Heap → Heap → Prop) : Array Value → State → Outcome → State → Prop := fun _ st o t => ∃ v, o = .returned v ∧ POST v st.heap t.heap
abbrev x_rm (d mc ms : Nat) : Room := { frames := d, cells := mc, slots := ms, locals := 28 * d }
abbrev x_ws (y : MethodName) (b : ByteArray) (maxL : Nat) (ret : Option FieldType) : List Cond := Cond.code y b maxL ret :: x_tb
theorem x_met {l : Launch} {y : MethodName} {rm : Room} {Qc : Array Value → State → Outcome → State → Prop} {mc ms : Nat} {free : Addr → Prop} {cc : ByteArray} {maxL : Nat} {ret : Option FieldType} {G : x_G} {av : List Value} {PRE : Heap → Prop}
    (hy : plainFor y = true) (hlen : (lg_sl av).length ≤ maxL)
    (body : ∀ (p : Program) (e : Env) (s : State) (m : MethodId) (below : List Frame) (meth : Method) (c : Code), p.tables.exec = Jvm.exec → c.code = cc → meth.sig.returnType = ret → c.maxLocals = maxL → s.vm.findClass y.cls = some m.cls → (∀ w ∈ x_tb, w.before av.toArray s = true) → meth.locks = false → meth.name = y.name → x_K G s → PRE s.heap → ∀ ls : Array Slot, lv_has ls maxL (lv_args 0 av) →
      W p l e rm s m av.toArray below meth c s.heap [] 0 0 (MQ below Qc av.toArray s mc ms free) (F0 m 0 ls [])) : Met l y (x_ws y cc maxL ret) rm (x_P G av PRE) Qc mc ms free := by
  refine va_MetF (cc := cc) (maxL := maxL) (ret := ret) hy rfl ?_
  intro p e s m args below meth c s₁ B hml hv
  obtain ⟨rfl, hK, hP⟩ := hv
  have hts := atoms_spec (ws := x_ws y cc maxL ret) B.pre
  have hl := lv_entry av (n := maxL) hlen
  rw [lg_entry_eq]
  generalize (lg_sl av ++ List.replicate (maxL - (lg_sl av).length) Slot.unset).toArray = ls at hl ⊢
  exact body p e s m below meth c B.exec B.bytes B.returns hml (findClass_of_methodNamed B.named) (fun w h => hts w (List.mem_cons_of_mem _ h)) B.notSynchronized (name_of_methodNamed B.named B.method).1 hK hP ls hl
theorem x_one {D : va_G} {cl : List vw_C} {q : Nat × va_E} {H : Heap} (h : va_at D cl q H) : va_P D cl [q] H := fun k z hk => by
  cases k with
  | zero => cases hk; exact h
  | succ k => simp at hk
theorem x_two {D : va_G} {cl : List vw_C} {q r : Nat × va_E} {H : Heap} (h : va_at D cl q H) (h' : va_at D cl r H) : va_P D cl [q, r] H := fun k z hk => by
  match k, hk with
  | 0, hk => cases hk; exact h
  | 1, hk => cases hk; exact h'
  | k + 2, hk => simp at hk
theorem x_D1 {A : Nat → Prop} {q : Nat × va_E} (h : A q.1) : va_D A [q] := by
  refine ⟨fun i j p r hi hj _ => ?_, fun k z hk => ?_⟩
  · have h1 := (List.getElem?_eq_some_iff.mp hi).1
    have h2 := (List.getElem?_eq_some_iff.mp hj).1
    simp at h1 h2
    omega
  · cases k with
    | zero => cases hk; exact h
    | succ k => simp at hk
theorem x_rcv {G : x_G} {s : State} {H : Heap} (hK : x_K G s) {b ci : Nat} {fs : List Value} {q : vw_C} (h : va_at G.1 x_cl (b, .inr (ci, fs)) H) (hc : x_cl[ci]? = some q) : ∃ cell : Cell, H[b]? = some cell ∧ cell.vm.isStatics = false ∧ s.vm.findClass q.1 = some cell.cls := va_recv hK.1 (x_one h) (q0 := 0) hc rfl
/-! ===== what a method that is called must have among the words ===== -/
def x_okN (y : MethodName) (n : Nat) : Prop := y.cls ≠ "java/lang/invoke/MethodHandle" ∧ y.cls ≠ "java/lang/invoke/VarHandle" ∧ (parseMethodDescriptor y.desc).map (fun d => d.parameters.length) = some n
def x_okV (y : MethodName) (b : ByteArray) (maxL : Nat) (ret : Option FieldType) (n : Nat) : Prop := Cond.code y b maxL ret ∈ x_tb ∧ Cond.instanceMethod y ∈ x_tb ∧ Cond.selects y.cls y y ∈ x_tb ∧ Cond.initialized y.cls ∈ x_tb ∧ x_okN y n
def x_okS (y : MethodName) (b : ByteArray) (maxL : Nat) (ret : Option FieldType) (n : Nat) : Prop := Cond.code y b maxL ret ∈ x_tb ∧ Cond.static y ∈ x_tb ∧ Cond.initialized y.cls ∈ x_tb ∧ x_okN y n
def x_okI (y : MethodName) (b : ByteArray) (maxL : Nat) (n : Nat) : Prop := Cond.code y b maxL none ∈ x_tb ∧ Cond.instanceMethod y ∈ x_tb ∧ Cond.initialized y.cls ∈ x_tb ∧ y.name = "<init>" ∧ x_okN y n
theorem x_gw {w : Cond} (h : w ∈ x_tb) : (w.onTables && w.keeps) = true ∨ ∃ ty, w = .arrayClass ty := good_of_word (List.mem_filter.mp h).2
theorem x_good {c : Cond} (h : c ∈ x_tb) : GoodIn x_tb (c :: x_tb) := fun w hw => by
  rcases List.mem_cons.mp hw with rfl | h2
  · exact ⟨h, x_gw h⟩
  · exact ⟨h2, x_gw h2⟩
/-- the machine's part of a walk -/
abbrev x_F (p : Program) (m : MethodId) (c : Code) (cc : ByteArray) (nL : Nat) (s : State) (args : Array Value) (own : String) : Prop := CallFix p m c cc nL s args x_tb own
section XC
variable {p : Program} {l : Launch} {e : Env} {R : Room} {s : State} {m : MethodId} {args : Array Value} {below : List Frame} {meth : Method} {c : Code} {H : Heap} {locs : List Loc} {cells slots : Nat} {Q : State → Prop}
variable {cc bytes : ByteArray} {pc nL maxL n index mc ms : Nat} {ls : Array Slot} {rest st0 As : List Value} {own : String} {y : MethodName} {ret : Option FieldType} {rm : Room} {G : x_G} {PRE : Heap → Prop} {Qc : Array Value → State → Outcome → State → Prop} {free : Addr → Prop} {b : Nat}
theorem x_V (F : x_F p m c cc nL s args own) (hM : Met l y (x_ws y bytes maxL ret) rm (x_P G (.ref b :: As) PRE) Qc mc ms free) (ok : x_okV y bytes maxL ret n) (kl : Cond.methodLink own index y ∈ x_tb) (hR : rm.frames + 1 ≤ R.frames ∧ 8 + (maxL + 11) + rm.locals ≤ R.locals) (hrc : rm.cells = mc) (hrs : rm.slots = ms) (hK : x_K G s)
    (hrv : ∃ cell : Cell, H[b]? = some cell ∧ cell.vm.isStatics = false ∧ s.vm.findClass y.cls = some cell.cls) (hpre : PRE H) (hn : As.length = n) (hsize : ls.size = nL) (hstack : st0 = As.reverse ++ .ref b :: rest) (hW : (rest.map fun v => v.category).sum ≤ 8) (hdg : decode cc pc = .ok (.invokevirtual index, 3)) (hf : cells + mc ≤ R.cells ∧ slots + ms ≤ R.slots) :
    va_Run p l e R s m args below meth c H locs cells slots mc ms (F0 m pc ls st0) rest (Qc (Value.ref b :: As).toArray) free := by
  obtain ⟨o1, o2, o3, o4, o5⟩ := ok
  have hts := F.2.2.2.2
  exact va_runV (n := n) F hM ⟨callB_of n hts (x_good o1) rfl hrc hrs (hts _ o4) (hts _ kl) o5 hR, hts _ o2, hts _ o3⟩ ⟨x_blind, hrv, fun U hU hWm => ⟨rfl, hK.warm hWm, by rw [hU]; exact hpre⟩⟩ rfl hn hsize hstack (lv_room hW) hdg hf
theorem x_S (F : x_F p m c cc nL s args own) (hM : Met l y (x_ws y bytes maxL ret) rm (x_P G As PRE) Qc mc ms free) (ok : x_okS y bytes maxL ret n) (kl : Cond.methodLink own index y ∈ x_tb) (hR : rm.frames + 1 ≤ R.frames ∧ 8 + (maxL + 11) + rm.locals ≤ R.locals) (hrc : rm.cells = mc) (hrs : rm.slots = ms) (hK : x_K G s)
    (hpre : PRE H) (hn : As.length = n) (hsize : ls.size = nL) (hstack : st0 = As.reverse ++ rest) (hW : (rest.map fun v => v.category).sum ≤ 8) (hdg : decode cc pc = .ok (.invokestatic index, 3)) (hf : cells + mc ≤ R.cells ∧ slots + ms ≤ R.slots) :
    va_Run p l e R s m args below meth c H locs cells slots mc ms (F0 m pc ls st0) rest (Qc As.toArray) free := by
  obtain ⟨o1, o2, o4, o5⟩ := ok
  have hts := F.2.2.2.2
  exact va_runS (n := n) F hM ⟨callB_of n hts (x_good o1) rfl hrc hrs (hts _ o4) (hts _ kl) o5 hR, hts _ o2⟩ ⟨x_blind, fun U hU hWm => ⟨rfl, hK.warm hWm, by rw [hU]; exact hpre⟩⟩ rfl hn hsize hstack (lv_room hW) hdg hf
theorem x_I (F : x_F p m c cc nL s args own) (hM : Met l y (x_ws y bytes maxL none) rm (x_P G (.ref b :: As) PRE) Qc mc ms free) (ok : x_okI y bytes maxL n) (kl : Cond.methodLink own index y ∈ x_tb) (hR : rm.frames + 1 ≤ R.frames ∧ 8 + (maxL + 11) + rm.locals ≤ R.locals) (hrc : rm.cells = mc) (hrs : rm.slots = ms) (hK : x_K G s)
    (hpre : PRE H) (hn : As.length = n) (hsize : ls.size = nL) (hstack : st0 = As.reverse ++ .ref b :: rest) (hW : (rest.map fun v => v.category).sum ≤ 8) (hdg : decode cc pc = .ok (.invokespecial index, 3)) (hf : cells + mc ≤ R.cells ∧ slots + ms ≤ R.slots) :
    va_Run p l e R s m args below meth c H locs cells slots mc ms (F0 m pc ls st0) rest (Qc (Value.ref b :: As).toArray) free := by
  obtain ⟨o1, o2, o4, o3, o5⟩ := ok
  have hts := F.2.2.2.2
  exact va_runI (n := n) F hM ⟨callB_of n hts (x_good o1) rfl hrc hrs (hts _ o4) (hts _ kl) o5 hR, o3, hts _ o2⟩ ⟨x_blind, fun U hU hWm => ⟨rfl, hK.warm hWm, by rw [hU]; exact hpre⟩⟩ rfl hn hsize hstack (lv_room hW) hdg hf
/-- behind a call that only reads -/
theorem x_rd {r : Value} {a : Array Value} (hr : va_Run p l e R s m args below meth c H locs cells slots 0 0 (F0 m pc ls st0) rest (k2_QcV r a) (fun _ => False)) (kk : W p l e R s m args below meth c H locs cells slots Q (F0 m (pc + 3) ls (r :: rest))) : W p l e R s m args below meth c H locs cells slots Q (F0 m pc ls st0) := W.callV hr.run kk
/-- behind a call that writes: A1 holds what it may write -/
theorem x_wr {POST : Option Value → Heap → Heap → Prop} {a : Array Value} {A : Nat → Prop} {H0 : Heap} (hr : va_Run p l e R s m args below meth c H locs cells slots mc ms (F0 m pc ls st0) rest (x_Q POST a) free) (hS : va_S A H0 H locs) (hf : ∀ q, free q → A q) (hoff : ∀ v H1, POST v H H1 → H.size ≤ H1.size ∧ ∀ q : Nat, q < H.size → ¬ A q → H1[q]? = H[q]?)
    (kk : ∀ (v : Option Value) (H1 : Heap) (locs1 : List Loc), POST v H H1 → va_S A H0 H1 locs1 → W p l e R s m args below meth c H1 locs1 (cells + mc) (slots + ms) Q (F0 m (pc + 3) ls (v.toList ++ rest))) : W p l e R s m args below meth c H locs cells slots Q (F0 m pc ls st0) := by
  intro T hT X
  obtain ⟨v, st₀, t, T', L, h0, X', hL, e1, e2, ⟨v', hv, hp⟩, st⟩ := hr T hT X
  cases hv
  rw [h0] at hp
  obtain ⟨hz, hk⟩ := hoff _ _ hp
  obtain ⟨t2, a1, b1⟩ := kk v t.heap (locs ++ L) hp ⟨Nat.le_trans hS.1 hz, fun q h1 h2 => by rw [hk q (Nat.lt_of_lt_of_le h1 hS.1) h2]; exact hS.2.1 q h1 h2, fun q hq => by
      rcases List.mem_append.mp hq with h | h
      · exact hS.2.2 q h
      · exact hf _ (hL q h)⟩ T' e1 X'
  exact ⟨t2, st t2 a1, b1⟩
end XC
section XH
variable {p : Program} {l : Launch} {e : Env} {R : Room} {s : State} {m : MethodId} {args : Array Value} {below : List Frame} {meth : Method} {c : Code} {H : Heap} {locs : List Loc} {cells slots : Nat} {Q : State → Prop}
variable {cc : ByteArray} {pc nL index : Nat} {ls : Array Slot} {rest : List Value} {own ref C : String} {G : x_G} {T : u_T} {N ci a : Nat} {fs : List Value} {A : Nat → Prop} {H0 : Heap}
theorem x_get (F : x_F p m c cc nL s args own) (hK : x_K G s) (hat : va_at G.1 x_cl (a, .inr (ci, fs)) H) (hc : x_cl[ci]? = some (C, T, N)) (hin : ∀ w ∈ u_ws C T N, w ∈ x_tb) (k : Nat) (hk : k < N) (kl : Cond.fieldLink own index ref (T k).2.1 (T k).2.2.1 ∈ x_tb) (hr : (T k).1 = ref) {v : Value} (hv : fs[k]? = some v) (hdg : decode cc pc = .ok (.getfield index, 3))
    (kk : W p l e R s m args below meth c H locs cells slots Q (F0 m (pc + 3) ls (v :: rest))) : W p l e R s m args below meth c H locs cells slots Q (F0 m pc ls (.ref a :: rest)) :=
  va_get F.1 F.2.1 F.2.2.2.2 hin F.2.2.2.1 hK.1 (x_one hat) 0 rfl hc k hk (F.2.2.2.2 _ kl) (fun x h => by rw [← hr]; exact h) hv hdg kk
theorem x_getN {host : String} (F : x_F p m c cc nL s args own) (hK : x_K G s) (hat : va_at G.1 x_cl (a, .inr (ci, fs)) H) (hc : x_cl[ci]? = some (C, T, N)) (hin : ∀ w ∈ u_ws C T N, w ∈ x_tb) (k : Nat) (hk : k < N) (i : Nat) (kl : x_nt[i]? = some (.fieldLinkNest own index ref (T k).2.1 (T k).2.2.1 host)) (hr : (T k).1 = ref) {v : Value} (hv : fs[k]? = some v) (hdg : decode cc pc = .ok (.getfield index, 3))
    (kk : W p l e R s m args below meth c H locs cells slots Q (F0 m (pc + 3) ls (v :: rest))) : W p l e R s m args below meth c H locs cells slots Q (F0 m pc ls (.ref a :: rest)) :=
  va_getN F.1 F.2.1 F.2.2.2.2 hin F.2.2.2.1 hK.1 (x_one hat) 0 rfl hc k hk (va_Nw.use rfl (hK.2.1 _ (List.mem_of_getElem? kl))) (fun x h => by rw [← hr]; exact h) hv hdg kk
theorem x_put (F : x_F p m c cc nL s args own) (hK : x_K G s) (hat : va_at G.1 x_cl (a, .inr (ci, fs)) H) (hc : x_cl[ci]? = some (C, T, N)) (hin : ∀ w ∈ u_ws C T N, w ∈ x_tb) (ty0 : Nat → FieldType) (hty : ∀ k, k < N → parseFieldDescriptor (T k).2.2.1 = some (ty0 k)) (hnm : ∀ a, a < N → ∀ b, b < N → a ≠ b → (T a).2.1 ≠ (T b).2.1) (k : Nat) (hk : k < N) (kl : Cond.fieldLink own index ref (T k).2.1 (T k).2.2.1 ∈ x_tb) (hr : (T k).1 = ref)
    (hfin : (T k).2.2.2 = false) {v : Value} (hn : narrow (ty0 k) v = v) (hfit : fits (ty0 k) v = true) (hl : k < fs.length) (hS : va_S A H0 H locs) (hA : A a) (hdg : decode cc pc = .ok (.putfield index, 3))
    (kk : ∀ (H1 : Heap) (locs1 : List Loc), va_at G.1 x_cl (a, .inr (ci, fs.set k v)) H1 → H1.size = H.size → (∀ q : Nat, q ≠ a → H1[q]? = H[q]?) → va_S A H0 H1 locs1 → W p l e R s m args below meth c H1 locs1 cells slots Q (F0 m (pc + 3) ls rest)) : W p l e R s m args below meth c H locs cells slots Q (F0 m pc ls (v :: .ref a :: rest)) := by
  obtain ⟨hexec, hb, hml, hown, hts⟩ := F
  have hap := va_apart (own := own) hts hin ty0 hty hnm hK.1 hc
  obtain ⟨r, h1, cell, q1, q2, q3, q4⟩ := hat
  have hr' : r = (C, T, N) := Option.some.inj (h1.symm.trans hc)
  subst hr'
  obtain ⟨hSl, hfc, kC, hkC, hkind⟩ := hK.1.1 ci _ hc
  obtain ⟨cf, kf, fi, f, hi, hsl⟩ := hSl k hk
  have hlay := hts _ (hin _ (u_in_lay hk))
  unfold u_lay at hlay
  rw [if_neg (by rw [hfin]; decide)] at hlay
  have hst := (u_facts hfc hkC (u_lays hts hin hk) hi).1
  have h6 := u_store hfc hkC hkind hlay hi (hty k hk) hn hfit
  refine W.putK hexec hb (f := f) ⟨hown, hts _ kl, ⟨_, _, _, by rw [← hr]; exact hi⟩, hst⟩ (by rw [q2]; exact h6) q1 q3 (by rw [hsl]; exact k2_hasslot (q4 k hk)) rfl rfl hdg fun H' e1 e2 e3 => ?_
  rw [hsl] at e1 ⊢
  exact kk H' _ ⟨_, hc, t_OB.to (V := updV (vp_V fs) k v) ⟨_, e1, q2, q3, t_set q4 hap hk v⟩ (fun j _ => vp_updV_set hl v j)⟩ e2 e3 (hS.put e2 e3 hA)
theorem x_putF (F : x_F p m c cc nL s args own) (hin2 : meth.name = "<init>") (hK : x_K G s) (hat : va_at G.1 x_cl (a, .inr (ci, fs)) H) (hc : x_cl[ci]? = some (C, T, N)) (hin : ∀ w ∈ u_ws C T N, w ∈ x_tb) (ty0 : Nat → FieldType) (hty : ∀ k, k < N → parseFieldDescriptor (T k).2.2.1 = some (ty0 k)) (hnm : ∀ a, a < N → ∀ b, b < N → a ≠ b → (T a).2.1 ≠ (T b).2.1) (k : Nat) (hk : k < N) (kl : Cond.fieldLink own index ref (T k).2.1 (T k).2.2.1 ∈ x_tb) (hr : (T k).1 = ref)
    (hfin : (T k).2.2.2 = true) (hdecl : (T k).1 = own) {v : Value} (hn : narrow (ty0 k) v = v) (hfit : fits (ty0 k) v = true) (hl : k < fs.length) (hS : va_S A H0 H locs) (hA : A a) (hdg : decode cc pc = .ok (.putfield index, 3))
    (kk : ∀ (H1 : Heap) (locs1 : List Loc), va_at G.1 x_cl (a, .inr (ci, fs.set k v)) H1 → H1.size = H.size → (∀ q : Nat, q ≠ a → H1[q]? = H[q]?) → va_S A H0 H1 locs1 → W p l e R s m args below meth c H1 locs1 cells slots Q (F0 m (pc + 3) ls rest)) : W p l e R s m args below meth c H locs cells slots Q (F0 m pc ls (v :: .ref a :: rest)) := by
  obtain ⟨hexec, hb, hml, hown, hts⟩ := F
  have hap := va_apart (own := own) hts hin ty0 hty hnm hK.1 hc
  obtain ⟨r, h1, cell, q1, q2, q3, q4⟩ := hat
  have hr' : r = (C, T, N) := Option.some.inj (h1.symm.trans hc)
  subst hr'
  obtain ⟨hSl, hfc, kC, hkC, hkind⟩ := hK.1.1 ci _ hc
  obtain ⟨cf, kf, fi, f, hi, hsl⟩ := hSl k hk
  have hlay := hts _ (hin _ (u_in_lay hk))
  unfold u_lay at hlay
  rw [if_pos hfin] at hlay
  have hst := (u_facts hfc hkC (u_lays hts hin hk) hi).1
  have hcf : m.cls = cf := by
    obtain ⟨_, _, c', _, _, _, -, -, hf', -, -, -, hown2, -⟩ := Cond.laysFinal_spec hlay
    have e1 : c' = cf := by have := hi.symm.trans hf'; simp at this; exact this.1.symm
    rw [hdecl] at hown2
    rw [← e1]; exact Option.some.inj (hown.symm.trans hown2)
  have h6 := u_fits hfc hkC hkind (Or.inr hlay) hi (hty k hk) hn hfit
  refine W.putFinK hexec hb hown (hts _ kl) (by rw [← hr]; exact hi) hst hcf hin2 (by rw [q2]; exact h6) q1 q3 (by rw [hsl]; exact k2_hasslot (q4 k hk)) rfl rfl hdg fun H' e1 e2 e3 => ?_
  rw [hsl] at e1 ⊢
  exact kk H' _ ⟨_, hc, t_OB.to (V := updV (vp_V fs) k v) ⟨_, e1, q2, q3, t_set q4 hap hk v⟩ (fun j _ => vp_updV_set hl v j)⟩ e2 e3 (hS.put e2 e3 hA)
/-! arrays -/
abbrev x_ai (G : x_G) (a n : Nat) (f : Nat → Int32) (H : Heap) : Prop := va_at G.1 x_cl (a, .inl (G.2.1, n, .inl f)) H
abbrev x_al (G : x_G) (a n : Nat) (f : Nat → Int64) (H : Heap) : Prop := va_at G.1 x_cl (a, .inl (G.2.2.1, n, .inr (.inl f))) H
abbrev x_az (G : x_G) (a n : Nat) (f : Nat → Int32) (H : Heap) : Prop := va_at G.1 x_cl (a, .inl (G.2.2.2.1, n, .inl f)) H
abbrev x_aq (G : x_G) (a n : Nat) (f : Nat → Option Nat) (H : Heap) : Prop := va_at G.1 x_cl (a, .inl (G.2.2.2.2, n, .inr (.inr (.inr (.inr f))))) H
theorem x_iald (F : x_F p m c cc nL s args own) (hK : x_K G s) {n : Nat} {f : Nat → Int32} (hat : x_ai G a n f H) {i : Int32} (hi : vp_in i n) (hdg : decode cc pc = .ok (.iaload, 1)) (kk : W p l e R s m args below meth c H locs cells slots Q (F0 m (pc + 1) ls (.int (f i.toNatClampNeg) :: rest))) : W p l e R s m args below meth c H locs cells slots Q (F0 m pc ls (.int i :: .ref a :: rest)) := va_iald F.1 F.2.1 hK.1 (x_one hat) 0 0 rfl rfl hi hdg kk
theorem x_lald (F : x_F p m c cc nL s args own) (hK : x_K G s) {n : Nat} {f : Nat → Int64} (hat : x_al G a n f H) {i : Int32} (hi : vp_in i n) (hdg : decode cc pc = .ok (.laload, 1)) (kk : W p l e R s m args below meth c H locs cells slots Q (F0 m (pc + 1) ls (.long (f i.toNatClampNeg) :: rest))) : W p l e R s m args below meth c H locs cells slots Q (F0 m pc ls (.int i :: .ref a :: rest)) := va_lald F.1 F.2.1 hK.1 (x_one hat) 0 1 rfl rfl hi hdg kk
theorem x_zald (F : x_F p m c cc nL s args own) (hK : x_K G s) {n : Nat} {f : Nat → Int32} (hat : x_az G a n f H) {i : Int32} (hi : vp_in i n) (hdg : decode cc pc = .ok (.baload, 1)) (kk : W p l e R s m args below meth c H locs cells slots Q (F0 m (pc + 1) ls (.int (f i.toNatClampNeg) :: rest))) : W p l e R s m args below meth c H locs cells slots Q (F0 m pc ls (.int i :: .ref a :: rest)) := va_zald F.1 F.2.1 hK.1 (x_one hat) 0 2 rfl rfl hi hdg kk
theorem x_qald (F : x_F p m c cc nL s args own) (hK : x_K G s) {n : Nat} {f : Nat → Option Nat} (hat : x_aq G a n f H) {i : Int32} (hi : vp_in i n) (hdg : decode cc pc = .ok (.aaload, 1)) (kk : W p l e R s m args below meth c H locs cells slots Q (F0 m (pc + 1) ls (va_rf (f i.toNatClampNeg) :: rest))) : W p l e R s m args below meth c H locs cells slots Q (F0 m pc ls (.int i :: .ref a :: rest)) := va_aldq F.1 F.2.1 hK.1 (x_one hat) 0 3 rfl rfl hi hdg kk
theorem x_alen (F : x_F p m c cc nL s args own) (hK : x_K G s) {cA : ClassId} {z : vp_A} (hat : va_at G.1 x_cl (a, .inl (cA, z)) H) (t0 : Nat) {ty : FieldType} (ht : (x_tys G)[t0]? = some (cA, ty)) (hdg : decode cc pc = .ok (.arraylength, 1)) (kk : W p l e R s m args below meth c H locs cells slots Q (F0 m (pc + 1) ls (.int (nI z.1) :: rest))) : W p l e R s m args below meth c H locs cells slots Q (F0 m pc ls (.ref a :: rest)) := va_alen F.1 F.2.1 hK.1 (x_one hat) 0 t0 rfl ht rfl hdg kk
theorem x_iast (F : x_F p m c cc nL s args own) (hK : x_K G s) {n : Nat} {f : Nat → Int32} (hat : x_ai G a n f H) {i x : Int32} (hi : vp_in i n) (hS : va_S A H0 H locs) (hA : A a) (hdg : decode cc pc = .ok (.iastore, 1))
    (kk : ∀ (H1 : Heap) (locs1 : List Loc), x_ai G a n (upd f i.toNatClampNeg x) H1 → H1.size = H.size → (∀ q : Nat, q ≠ a → H1[q]? = H[q]?) → va_S A H0 H1 locs1 → W p l e R s m args below meth c H1 locs1 cells slots Q (F0 m (pc + 1) ls rest)) : W p l e R s m args below meth c H locs cells slots Q (F0 m pc ls (.int x :: .int i :: .ref a :: rest)) := by
  refine W.iast F.1 F.2.1 hat ((hK.1.2 0 _ rfl).1 n (fun j => .int (f j))) (fun q => by cases q) (by show ¬ (i < 0 ∨ (arrV _ _ _).slots.size ≤ _); rw [arrV_size]; exact hi) rfl rfl hdg fun H1 e z oq => ?_
  refine kk H1 _ ?_ z oq (hS.put z oq hA)
  show H1[a]? = some (vp_cell _ _)
  rw [e, vp_cell_i, vp_cell_i, arrV_store]
  congr 2
  funext q
  by_cases hq : q = i.toNatClampNeg
  · subst hq
    simp [updV, upd]
  · simp [updV, upd, hq]
theorem x_zast (F : x_F p m c cc nL s args own) (hK : x_K G s) {n : Nat} {f : Nat → Int32} (hat : x_az G a n f H) {i x : Int32} (hx : vp_nar .boolean x = x) (hi : vp_in i n) (hS : va_S A H0 H locs) (hA : A a) (hdg : decode cc pc = .ok (.bastore, 1))
    (kk : ∀ (H1 : Heap) (locs1 : List Loc), x_az G a n (upd f i.toNatClampNeg x) H1 → H1.size = H.size → (∀ q : Nat, q ≠ a → H1[q]? = H[q]?) → va_S A H0 H1 locs1 → W p l e R s m args below meth c H1 locs1 cells slots Q (F0 m (pc + 1) ls rest)) : W p l e R s m args below meth c H locs cells slots Q (F0 m pc ls (.int x :: .int i :: .ref a :: rest)) := by
  refine W.zast F.1 F.2.1 hat ((hK.1.2 2 _ rfl).1 n (fun j => .int (f j))) (fun q => by cases q) (by show ¬ (i < 0 ∨ (arrV _ _ _).slots.size ≤ _); rw [arrV_size]; exact hi) rfl rfl hdg fun H1 e z oq => ?_
  refine kk H1 _ ?_ z oq (hS.put z oq hA)
  show H1[a]? = some (vp_cell _ _)
  rw [e, vp_cell_i, vp_cell_i, arrV_store]
  congr 2
  funext q
  by_cases hq : q = i.toNatClampNeg
  · subst hq
    have h2 : narrow .boolean (.int x) = .int x := by
      have h3 := hx
      unfold vp_nar at h3
      cases h4 : narrow .boolean (.int x) with
      | int z => rw [h4] at h3; rw [← h3]
      | _ => simp [narrow] at h4
    simp [updV, upd, h2]
  · simp [updV, upd, hq]
theorem x_last (F : x_F p m c cc nL s args own) (hK : x_K G s) {n : Nat} {f : Nat → Int64} (hat : x_al G a n f H) {i : Int32} {x : Int64} (hi : vp_in i n) (hS : va_S A H0 H locs) (hA : A a) (hdg : decode cc pc = .ok (.lastore, 1))
    (kk : ∀ (H1 : Heap) (locs1 : List Loc), x_al G a n (vp_updL f i.toNatClampNeg x) H1 → H1.size = H.size → (∀ q : Nat, q ≠ a → H1[q]? = H[q]?) → va_S A H0 H1 locs1 → W p l e R s m args below meth c H1 locs1 cells slots Q (F0 m (pc + 1) ls rest)) : W p l e R s m args below meth c H locs cells slots Q (F0 m pc ls (.long x :: .int i :: .ref a :: rest)) := by
  refine W.last F.1 F.2.1 hat ((hK.1.2 1 _ rfl).1 n (fun j => .long (f j))) (fun q => by cases q) (by show ¬ (i < 0 ∨ (arrV _ _ _).slots.size ≤ _); rw [arrV_size]; exact hi) rfl rfl hdg fun H1 e z oq => ?_
  refine kk H1 _ ?_ z oq (hS.put z oq hA)
  show H1[a]? = some (vp_cell _ _)
  rw [e, vp_cell_l, vp_cell_l, arrV_store]
  congr 2
  funext q
  by_cases hq : q = i.toNatClampNeg
  · subst hq
    simp [updV, vp_updL]
  · simp [updV, vp_updL, hq]
theorem x_cst (F : x_F p m c cc nL s args own) {v : Int64} (kl : Cond.constantLong own index v ∈ x_tb) (hdg : decode cc pc = .ok (.ldc2_w index, 3)) (k : W p l e R s m args below meth c H locs cells slots Q (F0 m (pc + 3) ls (.long v :: rest))) : W p l e R s m args below meth c H locs cells slots Q (F0 m pc ls rest) := lv_ldc2 F.1 F.2.1 F.2.2.2.1 (F.2.2.2.2 _ kl) hdg k
theorem x_ldc (F : x_F p m c cc nL s args own) {v : Int32} (kl : Cond.constant own index v ∈ x_tb) (hdg : decode cc pc = .ok (.ldc index, 2)) (k : W p l e R s m args below meth c H locs cells slots Q (F0 m (pc + 2) ls (.int v :: rest))) : W p l e R s m args below meth c H locs cells slots Q (F0 m pc ls rest) := lv_ldc F.1 F.2.1 F.2.2.2.1 (F.2.2.2.2 _ kl) hdg k
/-! new cells: the heap grows by one at its end -/
theorem x_newa (F : x_F p m c cc nL s args own) (hK : x_K G s) {atype : ArrayType} (ka : Cond.arrayClass (newarray.typeOf atype) ∈ x_tb) (t0 : Nat) {cA : ClassId} (ht : (x_tys G)[t0]? = some (cA, newarray.typeOf atype)) (hprim : va_RA s cA (newarray.typeOf atype) → s.vm.findClass ("[" ++ (newarray.typeOf atype).toString) = some cA) {n : Int32} {N' : Nat} {a0 : vp_A} (ha : ∀ cA : ClassId, vp_cell cA a0 = arrV cA N' (fun _ => defaultValue (newarray.typeOf atype))) (hn : ¬ n < 0) (hN : n.toNatClampNeg = N') (hbytes : N' * componentBytes (newarray.typeOf atype) ≤ 536870912) (hcells : cells + 1 ≤ R.cells) (hslots : slots + N' ≤ R.slots) (hS : va_S A H0 H locs) (hdg : decode cc pc = .ok (.newarray atype, 2))
    (kk : ∀ (H1 : Heap), va_at G.1 x_cl (H.size, .inl (cA, a0)) H1 → H1.size = H.size + 1 → (∀ q : Nat, q < H.size → H1[q]? = H[q]?) → va_S A H0 H1 locs → W p l e R s m args below meth c H1 locs (cells + 1) (slots + N') Q (F0 m (pc + 2) ls (.ref H.size :: rest))) : W p l e R s m args below meth c H locs cells slots Q (F0 m pc ls (.int n :: rest)) := by
  refine va_newaK F.1 F.2.1 (F.2.2.2.2 _ ka) rfl hdg rfl hn hN hbytes hcells hslots rfl fun H1 cA' e1 z1 o1 hAr hNm => ?_
  have hc : cA' = cA := Option.some.inj (hNm.symm.trans (hprim (hK.1.2 t0 _ ht).2))
  subst hc
  refine kk H1 ?_ z1 o1 ⟨by have := hS.1; omega, fun x h1 h2 => (o1 x (Nat.lt_of_lt_of_le h1 hS.1)).trans (hS.2.1 x h1 h2), hS.2.2⟩
  show H1[H.size]? = some (vp_cell _ _)
  rw [ha]
  exact e1
theorem x_new (F : x_F p m c cc nL s args own) (hK : x_K G s) (hc : x_cl[ci]? = some (C, T, N)) (hin : ∀ w ∈ u_ws C T N, w ∈ x_tb) (ty : Nat → FieldType) (hty : ∀ k, k < N → parseFieldDescriptor (T k).2.2.1 = some (ty k)) (kl : Cond.classLink own index C ∈ x_tb) (ki : Cond.instantiable C N ∈ x_tb) (kn : Cond.initialized C ∈ x_tb) (hfs : ∀ j, j < N → defaultValue (ty j) = vp_V fs j) (hcells : cells + 1 ≤ R.cells) (hslots : slots + N ≤ R.slots) (hS : va_S A H0 H locs) (hdg : decode cc pc = .ok (.new index, 3))
    (kk : ∀ (H1 : Heap), va_at G.1 x_cl (H.size, .inr (ci, fs)) H1 → H1.size = H.size + 1 → (∀ q : Nat, q < H.size → H1[q]? = H[q]?) → va_S A H0 H1 locs → W p l e R s m args below meth c H1 locs (cells + 1) (slots + N) Q (F0 m (pc + 3) ls (.ref H.size :: rest))) : W p l e R s m args below meth c H locs cells slots Q (F0 m pc ls rest) := by
  obtain ⟨hexec, hb, hml, hown, hts⟩ := F
  have hKn := hK.1.1 ci _ hc
  refine W.newcK hexec hb hown (hts _ kl) (hts _ ki) (hts _ kn) rfl hdg hcells hslots hKn.2.1 rfl fun H1 kC hkC e1 z1 o1 => ?_
  exact kk H1 ⟨_, hc, (u_born ty hts hin hKn hkC e1 hty).to hfs⟩ z1 o1 ⟨by have := hS.1; omega, fun x h1 h2 => (o1 x (Nat.lt_of_lt_of_le h1 hS.1)).trans (hS.2.1 x h1 h2), hS.2.2⟩
theorem x_oi (F : x_F p m c cc nL s args own) (kl : Cond.methodLink own index Lib.objectInit ∈ x_tb) (hsize : ls.size = nL) (hdg : decode cc pc = .ok (.invokespecial index, 3)) (hframes : 1 ≤ R.frames) (hlocals : (rest.map fun v => v.category).sum + 12 ≤ R.locals)
    (kk : W p l e R s m args below meth c H locs cells slots Q (F0 m (pc + 3) ls rest)) : W p l e R s m args below meth c H locs cells slots Q (F0 m pc ls (.ref a :: rest)) :=
  W.objInit F.1 F.2.1 F.2.2.2.1 (F.2.2.2.2 _ kl) (F.2.2.2.2 _ k23) (F.2.2.2.2 _ k24) rfl (by rw [F.2.2.1]; exact hsize) rfl hdg hframes (by show 2 * 0 + _ + _ ≤ _; omega) kk
end XH
