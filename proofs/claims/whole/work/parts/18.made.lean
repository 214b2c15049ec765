/-! CONSTRUCTORS: cells come; rows for them -/
def np_rc (k : Nat × Nat) (mc ms : Nat) : Room := { frames := k.1, cells := mc, slots := ms, locals := k.2 }
def np_Kp (D : va_G) (cI : ClassId) (S : (Nat → Prop) → State → Heap → Prop) (e0 : va_E) (q sz : Nat) : Array Value → State → Prop := fun v U => v = ([Value.ref q] : List Value).toArray ∧ U.heap.size = sz ∧ va_P D np_cls [(q, e0)] U.heap ∧ va_K D np_cls [(cI, .int)] U ∧ S (va_A [(q, e0)] sz) U U.heap
def np_Kq (D : va_G) (e0 : va_E) (q sz i0 : Nat) (B : (Nat → Nat) → va_W) : Array Value → State → Outcome → State → Prop := fun _ st oc t => (oc = .returned none ∧ ∃ a : Nat → Nat, a i0 = q ∧ va_P D np_cls (B a) t.heap ∧ va_D (va_A [(q, e0)] sz) (B a)) ∧ va_F (va_A [(q, e0)] sz) st t
/-- a constructor's contract: of the blank cell e0 it makes the world B -/
def np_K (l : Launch) (D : va_G) (cI : ClassId) (S : (Nat → Prop) → State → Heap → Prop) (k : Nat × Nat) (mc ms : Nat) (y : MethodName) (b : ByteArray) (mL : Nat) (e0 : va_E) (i0 : Nat) (B : (Nat → Nat) → va_W) : Prop :=
  ∀ q sz : Nat, Met l y (.code y b mL none :: np_TS) (np_rc k mc ms) (np_Kp D cI S e0 q sz) (np_Kq D e0 q sz i0 B) mc ms (va_A [(q, e0)] sz)
theorem np_K.of {l : Launch} {D : va_G} {cI : ClassId} {S : (Nat → Prop) → State → Heap → Prop} {k : Nat × Nat} {mc ms : Nat} {y : MethodName} {b : ByteArray} {mL : Nat} {e0 : va_E} {i0 : Nat} {B : (Nat → Nat) → va_W} (hS : ∀ A, np_St A (S A)) (hy : plainName y.cls = true) (hi : y.name = "<init>") (hn : 1 ≤ mL)
    (body : ∀ (q : Nat) (p : Program) (e : Env) (s : State) (m : MethodId) (below : List Frame) (meth : Method) (c : Code) (A : Nat → Prop), np_Cx p s m ([Value.ref q] : List Value).toArray meth c b mL y.cls none np_TS D np_cls cI A (S A) → meth.name = "<init>" → (∀ x, s.heap.size ≤ x → A x) → va_D A [(q, e0)] → A = va_A [(q, e0)] s.heap.size →
      np_V p l e (np_rc k mc ms) s m ([Value.ref q] : List Value).toArray below meth c 0 0 D np_cls A (MQ below (np_Kq D e0 q s.heap.size i0 B) ([Value.ref q] : List Value).toArray s mc ms (va_A [(q, e0)] s.heap.size)) mL [(q, e0)] 0 (some (.ref q) :: List.replicate (mL - 1) none) []) :
    np_K l D cI S k mc ms y b mL e0 i0 B := by
  intro q sz
  refine Met.ofW (cc := b) (maxL := mL) (ret := none) hy rfl ?_
  intro p e s m args below meth c s₁ B' hml hv
  obtain ⟨rfl, rfl, hP, hK, hSs⟩ := hv
  have hts := atoms_spec (ws := .code y b mL none :: np_TS) B'.pre
  have C : np_Cx p s m ([Value.ref q] : List Value).toArray meth c b mL y.cls none np_TS D np_cls cI (va_A [(q, e0)] s.heap.size) (S (va_A [(q, e0)] s.heap.size)) := ⟨⟨B'.exec, B'.bytes, hml, findClass_of_methodNamed B'.named, fun x hx => hts x (List.mem_cons_of_mem _ hx)⟩, hK, hSs, hS _, B'.returns, B'.notSynchronized⟩
  have hin : meth.name = "<init>" := (name_of_methodNamed B'.named B'.method).1.trans hi
  have hD : va_D (va_A [(q, e0)] s.heap.size) [(q, e0)] := by
    refine ⟨fun i j x y hi hj _ => ?_, fun k x hk => va_A.in hk⟩
    have h1 := (List.getElem?_eq_some_iff.mp hi).1
    have h2 := (List.getElem?_eq_some_iff.mp hj).1
    simp at h1 h2
    omega
  have hl := lv_entry [Value.ref q] (n := mL) (by simpa [lg_sl, Value.category] using hn)
  rw [lg_entry_eq]
  exact body q p e s m below meth c _ C hin (fun x h => Or.inr h) hD rfl s.heap [] _ (np_LV.entry hl) hP va_S.rf
section NPK
variable {p : Program} {l : Launch} {e : Env} {R : Room} {s : State} {m : MethodId} {args : Array Value} {below : List Frame} {meth : Method} {c : Code} {ce sl : Nat} {D : va_G} {A : Nat → Prop} {Q : State → Prop} {nL : Nat}
variable {cc : ByteArray} {own : String} {ret : Option FieldType} {cI : ClassId} {S : State → Heap → Prop} {w : va_W} {pc : Nat} {vs : List (Option Value)} {st : List Value}
theorem np_oinit (C : np_Cx p s m args meth c cc nL own ret np_TS D np_cls cI A S) {idx q : Nat} (hm : Cond.methodLink own idx Lib.objectInit ∈ np_TS) (hi : Cond.instanceMethod Lib.objectInit ∈ np_TS) (hc : Cond.code Lib.objectInit ⟨#[0xb1]⟩ 1 none ∈ np_TS) (hdg : decode cc pc = .ok (.invokespecial idx, 3)) (hf : 1 ≤ R.frames) (hl : (st.map fun v => v.category).sum + 12 ≤ R.locals)
    (k : np_V p l e R s m args below meth c ce sl D np_cls A Q nL w (pc + 3) vs st) : np_V p l e R s m args below meth c ce sl D np_cls A Q nL w pc vs (.ref q :: st) := fun H locs ls hL hP hS =>
  W.objInit C.1.1 C.1.2.1 C.1.2.2.2.1 (C.1.2.2.2.2 _ hm) (C.1.2.2.2.2 _ hi) (C.1.2.2.2.2 _ hc) rfl (by rw [C.1.2.2.1]; exact hL.1) rfl hdg hf (by show 2 * 0 + _ + 12 ≤ _; omega) (k H locs ls hL hP hS)
theorem np_newI (C : np_Cx p s m args meth c cc nL own ret np_TS D np_cls cI A S) {n : Nat} (hA : ∀ x, s.heap.size ≤ x → A x) (hD : va_D A w) (harr : Cond.arrayClass .int ∈ np_TS) (hn : n < 1000) (hc : ce + 1 ≤ R.cells) (hs : sl + n ≤ R.slots) (hdg : decode cc pc = .ok (.newarray .int, 2))
    (k : ∀ q : Nat, va_D A (w ++ [(q, .inl (cI, n, .inl (fun _ => nI 0)))]) → np_V p l e R s m args below meth c (ce + 1) (sl + n) D np_cls A Q nL (w ++ [(q, .inl (cI, n, .inl (fun _ => nI 0)))]) (pc + 2) vs (.ref q :: st)) : np_V p l e R s m args below meth c ce sl D np_cls A Q nL w pc vs (.int (nI n) :: st) := fun H locs ls hL hP hS => by
  have e1 : (nI n).toNatClampNeg = n := nI_clamp (by omega)
  refine va_newa (atype := .int) (ty := .int) (N' := n) (a0 := (n, .inl (fun _ => nI 0))) C.1.1 C.1.2.1 (C.1.2.2.2.2 _ harr) rfl C.2.1 hP hD hS hA (fun cA => rfl) (nI_pos (by omega)) e1 (by show n * 4 ≤ _; omega) hc hs hdg (fun q cA H1 hK hP1 hD1 hS1 => ?_)
  have h1 : s.vm.findClass ("[" ++ FieldType.int.toString) = some cA := (hK.2 1 (cA, .int) rfl).2
  have h2 : s.vm.findClass ("[" ++ FieldType.int.toString) = some cI := (hK.2 0 (cI, .int) rfl).2
  have e2 : cA = cI := Option.some.inj (h1.symm.trans h2)
  subst e2
  exact k q hD1 H1 locs ls hL hP1 hS1
theorem np_putR (C : np_Cx p s m args meth c cc nL own ret np_TS D np_cls cI A S) {Cn : String} {T : u_T} {N ci index r : Nat} (q0 k0 : Nat) {fs : List Value} {a : Nat} {w' : va_W} {ty : FieldType} (hin2 : meth.name = "<init>") (hD : va_D A w) (hdg : decode cc pc = .ok (.putfield index, 3)) (he : w[q0]? = some (a, .inr (ci, fs))) (hw : w.set q0 (a, .inr (ci, fs.set k0 (.ref r))) = w') (hc : np_cls[ci]? = some (Cn, T, N)) (hk : k0 < N) (hin : ∀ x ∈ u_ws Cn T N, x ∈ np_TS) (ty0 : Nat → FieldType) (hty : ∀ k, k < N → parseFieldDescriptor (T k).2.2.1 = some (ty0 k)) (hnm : ∀ a, a < N → ∀ b, b < N → a ≠ b → (T a).2.1 ≠ (T b).2.1) (hlink : Cond.fieldLink own index Cn (T k0).2.1 (T k0).2.2.1 ∈ np_TS) (href : (T k0).1 = Cn) (hown : Cn = own) (hfin : (T k0).2.2.2 = true) (hd : parseFieldDescriptor (T k0).2.2.1 = some ty) (hna : narrow ty (.ref r) = .ref r) (hfi : fits ty (.ref r) = true) (hl : k0 < fs.length)
    (k : va_D A w' → np_V p l e R s m args below meth c ce sl D np_cls A Q nL w' (pc + 3) vs st) : np_V p l e R s m args below meth c ce sl D np_cls A Q nL w pc vs (.ref r :: .ref a :: st) := fun H locs ls hL hP hS => va_putF C.1.1 C.1.2.1 C.1.2.2.2.2 hin ty0 hty hnm C.1.2.2.2.1 C.2.1 hP hD hS q0 he hc k0 hk (C.1.2.2.2.2 _ hlink) (fun x h => href ▸ h) hfin hin2 (href.trans hown) hd hna hfi hl hdg (fun H1 locs1 hP1 hD1 hS1 => k (hw ▸ hD1) H1 locs1 ls hL (hw ▸ hP1) hS1)
theorem np_newO (C : np_Cx p s m args meth c cc nL own ret np_TS D np_cls cI A S) {Cn : String} {T : u_T} {N ci index : Nat} {fs : List Value} (hA : ∀ x, s.heap.size ≤ x → A x) (hD : va_D A w) (hin : ∀ x ∈ u_ws Cn T N, x ∈ np_TS) (ty0 : Nat → FieldType) (hty : ∀ k, k < N → parseFieldDescriptor (T k).2.2.1 = some (ty0 k)) (hcl : Cond.classLink own index Cn ∈ np_TS) (hins : Cond.instantiable Cn N ∈ np_TS) (hini : Cond.initialized Cn ∈ np_TS) (hc : np_cls[ci]? = some (Cn, T, N)) (hfs : ∀ j, j < N → defaultValue (ty0 j) = vp_V fs j) (hce : ce + 1 ≤ R.cells) (hsl : sl + N ≤ R.slots) (hdg : decode cc pc = .ok (.new index, 3))
    (k : ∀ q : Nat, va_D A (w ++ [(q, .inr (ci, fs))]) → np_V p l e R s m args below meth c (ce + 1) (sl + N) D np_cls A Q nL (w ++ [(q, .inr (ci, fs))]) (pc + 3) vs (.ref q :: st)) : np_V p l e R s m args below meth c ce sl D np_cls A Q nL w pc vs st := fun H locs ls hL hP hS => va_new C.1.1 C.1.2.1 C.1.2.2.2.2 hin ty0 hty C.1.2.2.2.1 (C.1.2.2.2.2 _ hcl) (C.1.2.2.2.2 _ hins) (C.1.2.2.2.2 _ hini) C.2.1 hP hD hS hA hc hfs hce hsl hdg (fun q H1 hP1 hD1 hS1 => k q hD1 H1 locs ls hL hP1 hS1)
/-- behind a method that makes no cells, in a method that may -/
theorem np_backg {rv : Option Value} {w' : va_W} {a : Array Value} {st0 rest : List Value} (hr : ∀ (H : Heap) (locs : List Loc) (ls : Array Slot), np_LV ls nL vs → va_P D np_cls w H → va_S A s.heap H locs → va_Run p l e R s m args below meth c H locs ce sl 0 0 (F0 m pc ls st0) rest (np_Qc D np_cls A rv w' a) A)
    (k : np_V p l e R s m args below meth c ce sl D np_cls A Q nL w' (pc + 3) vs (rv.toList ++ rest)) : np_V p l e R s m args below meth c ce sl D np_cls A Q nL w pc vs st0 := by
  intro H locs ls hL hP hS T hT X
  obtain ⟨v, st₀, t, T', L, h0, X', hLo, e1, e2, ⟨hv, hPt, hz, hk⟩, go⟩ := hr H locs ls hL hP hS T hT X
  cases hv
  rw [h0] at hz hk
  have hS' : va_S A s.heap T'.heap (locs ++ L) := ⟨Nat.le_trans hS.1 (by rw [e1]; exact hz), fun q h1 h2 => by rw [e1, hk q (Nat.lt_of_lt_of_le h1 hS.1) h2]; exact hS.2.1 q h1 h2, fun q hq => by
    rcases List.mem_append.mp hq with h | h
    · exact hS.2.2 q h
    · exact hLo q h⟩
  obtain ⟨t2, a1, b1⟩ := k T'.heap (locs ++ L) ls hL (by rw [e1]; exact hPt) hS' T' rfl X'
  exact ⟨t2, go t2 a1, b1⟩
theorem np_cSg (C : np_Cx p s m args meth c cc nL own ret np_TS D np_cls cI A S) {index : Nat} {y : MethodName} {b : ByteArray} {mL n : Nat} {k' : Nat × Nat} {rt : Option FieldType} {w' : va_W} {rest av : List Value} {r : Int32} (hM : np_Ct l D np_cls cI A S np_TS k' y b mL rt av w (some (.int r)) w') (hdg : decode cc pc = .ok (.invokestatic index, 3)) (hc : Cond.code y b mL rt ∈ np_TS) (hl : Cond.methodLink own index y ∈ np_TS) (hini : Cond.initialized y.cls ∈ np_TS) (hst : Cond.static y ∈ np_TS) (hd : y.cls ≠ "java/lang/invoke/MethodHandle" ∧ y.cls ≠ "java/lang/invoke/VarHandle" ∧ (parseMethodDescriptor y.desc).map (fun d => d.parameters.length) = some n) (hk : k'.1 + 1 ≤ R.frames ∧ 8 + (mL + 11) + k'.2 ≤ R.locals) (hce : ce ≤ R.cells ∧ sl ≤ R.slots) (hn : av.length = n) (hstk : st = av.reverse ++ rest) (hroom : (rest.map fun v => v.category).sum ≤ 8)
    (kk : np_V p l e R s m args below meth c ce sl D np_cls A Q nL w' (pc + 3) vs (.int r :: rest)) : np_V p l e R s m args below meth c ce sl D np_cls A Q nL w pc vs st := by
  subst hstk
  refine np_backg (a := av.toArray) (rest := rest) (rv := some (.int r)) (fun H locs ls hL hP hS => ?_) kk
  exact va_runS C.1 hM ⟨callB_of n C.1.2.2.2.2 (np_GoodIn np_TS_good hc) rfl rfl rfl (C.1.2.2.2.2 _ hini) (C.1.2.2.2.2 _ hl) hd hk, C.1.2.2.2.2 _ hst⟩ (np_preS C hP hS) rfl hn hL.1 rfl (lv_room hroom) hdg hce
theorem np_cVg (C : np_Cx p s m args meth c cc nL own ret np_TS D np_cls cI A S) {index : Nat} {y : MethodName} {b : ByteArray} {mL n : Nat} {k' : Nat × Nat} {rt : Option FieldType} {w' : va_W} {rest As : List Value} {Cn : String} {T : u_T} {N ci a : Nat} {fs : List Value} (q0 : Nat) (hM : np_Ct l D np_cls cI A S np_TS k' y b mL rt (.ref a :: As) w none w') (hdg : decode cc pc = .ok (.invokevirtual index, 3)) (he : w[q0]? = some (a, .inr (ci, fs))) (hcl : np_cls[ci]? = some (Cn, T, N)) (hc : Cond.code y b mL rt ∈ np_TS) (hl : Cond.methodLink own index y ∈ np_TS) (hini : Cond.initialized y.cls ∈ np_TS) (hins : Cond.instanceMethod y ∈ np_TS) (hsel : Cond.selects Cn y y ∈ np_TS) (hd : y.cls ≠ "java/lang/invoke/MethodHandle" ∧ y.cls ≠ "java/lang/invoke/VarHandle" ∧ (parseMethodDescriptor y.desc).map (fun d => d.parameters.length) = some n) (hk : k'.1 + 1 ≤ R.frames ∧ 8 + (mL + 11) + k'.2 ≤ R.locals) (hce : ce ≤ R.cells ∧ sl ≤ R.slots) (hn : As.length = n) (hstk : st = As.reverse ++ .ref a :: rest) (hroom : (rest.map fun v => v.category).sum ≤ 8)
    (kk : np_V p l e R s m args below meth c ce sl D np_cls A Q nL w' (pc + 3) vs rest) : np_V p l e R s m args below meth c ce sl D np_cls A Q nL w pc vs st := by
  subst hstk
  refine np_backg (a := (Value.ref a :: As).toArray) (rest := rest) (rv := none) (fun H locs ls hL hP hS => ?_) kk
  have hp := np_preS C (av := .ref a :: As) hP hS
  exact va_runV C.1 hM ⟨callB_of n C.1.2.2.2.2 (np_GoodIn np_TS_good hc) rfl rfl rfl (C.1.2.2.2.2 _ hini) (C.1.2.2.2.2 _ hl) hd hk, C.1.2.2.2.2 _ hins, C.1.2.2.2.2 _ hsel⟩ ⟨hp.1, va_recv C.2.1 hP hcl he, hp.2⟩ rfl hn hL.1 rfl (lv_room hroom) hdg hce
/-- the caller's other cells beside what a constructor made -/
theorem np_beside {wr w1 : va_W} {q : Nat} {e0 : va_E} {H H1 : Heap} (hP : va_P D np_cls (wr ++ [(q, e0)]) H) (hD : va_D A (wr ++ [(q, e0)])) (hA : ∀ x, va_A [(q, e0)] H.size x → A x) (hk : ∀ x : Nat, x < H.size → ¬ va_A [(q, e0)] H.size x → H1[x]? = H[x]?) (hP1 : va_P D np_cls w1 H1) (hD1 : va_D (va_A [(q, e0)] H.size) w1) : va_P D np_cls (wr ++ w1) H1 ∧ va_D A (wr ++ w1) := by
  have at1 : ∀ (k : Nat) (x : Nat × va_E), wr[k]? = some x → (wr ++ [(q, e0)])[k]? = some x := fun k x hx => by
    rw [List.getElem?_append_left (List.getElem?_eq_some_iff.mp hx).1]; exact hx
  have last : (wr ++ [(q, e0)])[wr.length]? = some (q, e0) := by
    rw [List.getElem?_append_right (Nat.le_refl _), Nat.sub_self]; rfl
  have apart : ∀ (k : Nat) (x : Nat × va_E), wr[k]? = some x → x.1 < H.size ∧ ¬ va_A [(q, e0)] H.size x.1 := by
    intro k x hx
    have hl := (hP k x (at1 k x hx)).lt
    refine ⟨hl, fun h => ?_⟩
    rcases h with ⟨j, e, h⟩ | h
    · have hj : j < 1 := (List.getElem?_eq_some_iff.mp h).1
      have hj0 : j = 0 := by omega
      subst hj0
      have hq : q = x.1 := congrArg Prod.fst (Option.some.inj h)
      have := hD.1 k wr.length x (q, e0) (at1 k x hx) last hq.symm
      have := (List.getElem?_eq_some_iff.mp hx).1
      omega
    · omega
  refine ⟨va_P.app (fun k x hx => ?_) hP1, va_D.app ⟨fun i j x y hi hj hxy => hD.1 i j x y (at1 i x hi) (at1 j y hj) hxy, fun k x hx => hD.2 k x (at1 k x hx)⟩ (hD1.weaken (fun k x _ h => hA x.1 h)) (fun i j x y hx hy hxy => ?_)⟩
  · obtain ⟨g1, g2⟩ := apart k x hx
    exact (hP k x (at1 k x hx)).kept (hk x.1 g1 g2)
  · exact (apart i x hx).2 (by rw [hxy]; exact hD1.2 j y hy)
theorem np_cI {S0 : (Nat → Prop) → State → Heap → Prop} (C : np_Cx p s m args meth c cc nL own ret np_TS D np_cls cI A (S0 A)) (hless : ∀ (A B : Nat → Prop) (U : State) (H : Heap), S0 A U H → (∀ x, B x → A x) → S0 B U H) {index mc ms i0 q : Nat} {y : MethodName} {b : ByteArray} {mL : Nat} {k' : Nat × Nat} {rest : List Value} {e0 : va_E} {B : (Nat → Nat) → va_W} {wr : va_W} (hA : ∀ x, s.heap.size ≤ x → A x) (hD : va_D A (wr ++ [(q, e0)])) (hM : np_K l D cI S0 k' mc ms y b mL e0 i0 B) (hSt : ∀ A, np_St A (S0 A)) (hdg : decode cc pc = .ok (.invokespecial index, 3)) (hc : Cond.code y b mL none ∈ np_TS)
    (hb : (∀ n : Nat, (parseMethodDescriptor y.desc).map (fun d => d.parameters.length) = some n → n = 0 → CallB R s args own index y b mL none (.code y b mL none :: np_TS) (np_rc k' mc ms) mc ms 0 ∨ ∃ host, va_CN R s args own index y host b mL none (.code y b mL none :: np_TS) (np_rc k' mc ms) mc ms 0)) (hpd : (parseMethodDescriptor y.desc).map (fun d => d.parameters.length) = some 0) (hyi : y.name = "<init>") (hins : Cond.instanceMethod y ∈ np_TS) (hf : ce + mc ≤ R.cells ∧ sl + ms ≤ R.slots) (hroom : (rest.map fun v => v.category).sum ≤ 8)
    (kk : ∀ a : Nat → Nat, a i0 = q → va_D A (wr ++ B a) → np_V p l e R s m args below meth c (ce + mc) (sl + ms) D np_cls A Q nL (wr ++ B a) (pc + 3) vs rest) : np_V p l e R s m args below meth c ce sl D np_cls A Q nL (wr ++ [(q, e0)]) pc vs (.ref q :: rest) := by
  intro H locs ls hL hP hS
  have last : (wr ++ [(q, e0)])[wr.length]? = some (q, e0) := by
    rw [List.getElem?_append_right (Nat.le_refl _), Nat.sub_self]; rfl
  have hsub : ∀ x, va_A [(q, e0)] H.size x → A x := by
    intro x h
    rcases h with ⟨j, e, h⟩ | h
    · have hj : j < 1 := (List.getElem?_eq_some_iff.mp h).1
      have hj0 : j = 0 := by omega
      subst hj0
      have hq : q = x := congrArg Prod.fst (Option.some.inj h)
      rw [← hq]; exact hD.2 _ _ last
    · exact hA x (Nat.le_trans hS.1 h)
  have hPq : va_P D np_cls [(q, e0)] H := by
    intro j x hx
    have hj : j < 1 := (List.getElem?_eq_some_iff.mp hx).1
    have hj0 : j = 0 := by omega
    subst hj0
    cases hx
    exact hP _ _ last
  have hpre : PreS s H (np_Kp D cI S0 e0 q H.size) ([Value.ref q] : List Value) := by
    refine ⟨fun a U g mk z => ?_, fun U hU hW => ?_⟩
    · obtain ⟨z0, z1, z2, z3, z4⟩ := z
      exact ⟨z0, z1, z2, va_K.moved (u := U) (U := U.calling g mk a) (Vm.Alike.refl U.vm) z3, (hSt _).1 U g mk a z4⟩
    · refine ⟨rfl, by rw [hU], by rw [hU]; exact hPq, va_K.moved hW.alike C.2.1, hless A _ _ _ ?_ hsub⟩
      exact C.2.2.2.1.2 s U C.2.2.1 hW (fun x h1 h2 => by rw [hU]; exact hS.2.1 x h1 h2)
  have hrun : va_Run p l e R s m args below meth c H locs ce sl mc ms (F0 m pc ls (.ref q :: rest)) rest (np_Kq D e0 q H.size i0 B ([Value.ref q] : List Value).toArray) (va_A [(q, e0)] H.size) := by
    rcases hb 0 hpd rfl with h | ⟨host, h⟩
    · exact va_runI (As := []) C.1 (hM q H.size) ⟨h, hyi, C.1.2.2.2.2 _ hins⟩ hpre rfl rfl hL.1 rfl (lv_room hroom) hdg hf
    · exact va_runIN (As := []) C.1 (hM q H.size) ⟨h, hyi, C.1.2.2.2.2 _ hins⟩ hpre rfl rfl hL.1 rfl (lv_room hroom) hdg hf
  intro T hT X
  obtain ⟨v, st₀, t, T', L, h0, X', hLo, e1, e2, ⟨⟨hv, a, ha0, hPt, hDt⟩, hz, hk⟩, go⟩ := hrun T hT X
  cases hv
  rw [h0] at hz hk
  obtain ⟨hP2, hD2⟩ := np_beside hP hD hsub hk hPt hDt
  have hS' : va_S A s.heap T'.heap (locs ++ L) := ⟨Nat.le_trans hS.1 (by rw [e1]; exact hz), fun x h1 h2 => by rw [e1, hk x (Nat.lt_of_lt_of_le h1 hS.1) (fun z => h2 (hsub x z))]; exact hS.2.1 x h1 h2, fun x hx => by
    rcases List.mem_append.mp hx with h | h
    · exact hS.2.2 x h
    · exact hsub _ (hLo x h)⟩
  obtain ⟨t2, a1, b1⟩ := kk a ha0 hD2 T'.heap (locs ++ L) ls hL (by rw [e1]; exact hP2) hS' T' rfl X'
  exact ⟨t2, go t2 a1, b1⟩
theorem np_kret {q i0 mc ms : Nat} {e0 : va_E} {B : (Nat → Nat) → va_W} (C : np_Cx p s m args meth c cc nL own none np_TS D np_cls cI (va_A [(q, e0)] s.heap.size) S) (hdg : decode cc pc = .ok (.return_, 1)) (a : Nat → Nat) (ha : a i0 = q) (hw : w = B a) (hD : va_D (va_A [(q, e0)] s.heap.size) w) : np_V p l e R s m args below meth c mc ms D np_cls (va_A [(q, e0)] s.heap.size) (MQ below (np_Kq D e0 q s.heap.size i0 B) args s mc ms (va_A [(q, e0)] s.heap.size)) nL w pc vs [] := by
  subst hw
  intro H locs ls hL hP hS
  have hlk := C.2.2.2.2.2
  exact W.vret C.1.1 C.1.2.1 C.2.2.2.2.1 (fun t ht hW => ⟨⟨rfl, a, ha, by rw [ht]; exact hP, hD⟩, hS.F ht⟩) hS.2.2 hdg hlk
end NPK
