section
/-! MY FRAME: worlds of a fixed shape whose numbers are naturals; one judgement np_V, a row an instruction (written by wip/whole/gen/frame.py) -/
def updN (f : Nat → Nat) (k x : Nat) : Nat → Nat := fun j => if j = k then x else f j
theorem updN_same (f : Nat → Nat) (k x : Nat) : updN f k x k = x := by simp [updN]
theorem updN_ne (f : Nat → Nat) {k j : Nat} (x : Nat) (h : j ≠ k) : updN f k x j = f j := by simp [updN, h]
theorem upd_nI (f : Nat → Nat) (j v : Nat) : upd (fun k => nI (f k)) j (nI v) = fun k => nI (updN f j v k) := by
  funext k
  by_cases h : k = j
  · subst h; simp [upd, updN]
  · simp [upd, updN, h]
/-- locals by place; none: not known -/
def np_LV (ls : Array Slot) (nL : Nat) (vs : List (Option Value)) : Prop := ls.size = nL ∧ lv_wf ls ∧ ∀ (i : Nat) (v : Value), vs[i]? = some (some v) → ls[i]? = some (.val v)
def np_okst (vs : List (Option Value)) (i : Nat) : Bool := match i with
  | 0 => true
  | k + 1 => match vs[k]? with
    | some (some w) => w.category == 1
    | _ => true
def np_prs : Nat → List (Option Value) → List (Nat × Value)
  | _, [] => []
  | k, none :: r => np_prs (k + 1) r
  | k, some v :: r => (k, v) :: np_prs (k + 1) r
theorem np_prs_mem : ∀ (vs : List (Option Value)) (k i : Nat) (v : Value), vs[i]? = some (some v) → (k + i, v) ∈ np_prs k vs
  | [], _, _, _, h => by simp at h
  | none :: r, k, i, v, h => by
    match i, h with
    | 0, h => simp at h
    | j + 1, h =>
      have h2 := np_prs_mem r (k + 1) j v (by simpa using h)
      rw [show k + (j + 1) = k + 1 + j by omega]
      exact h2
  | some x :: r, k, i, v, h => by
    match i, h with
    | 0, h => simp at h; subst h; exact List.mem_cons_self
    | j + 1, h =>
      have h2 := np_prs_mem r (k + 1) j v (by simpa using h)
      rw [show k + (j + 1) = k + 1 + j by omega]
      exact List.mem_cons_of_mem _ h2
theorem np_prs_of : ∀ (vs : List (Option Value)) (k : Nat) (q : Nat × Value), q ∈ np_prs k vs → ∃ i, q.1 = k + i ∧ vs[i]? = some (some q.2)
  | [], _, _, h => by simp [np_prs] at h
  | none :: r, k, q, h => by
    obtain ⟨i, h1, h2⟩ := np_prs_of r (k + 1) q h
    exact ⟨i + 1, by omega, by simpa using h2⟩
  | some x :: r, k, q, h => by
    rcases List.mem_cons.mp h with h | h
    · subst h; exact ⟨0, rfl, rfl⟩
    · obtain ⟨i, h1, h2⟩ := np_prs_of r (k + 1) q h
      exact ⟨i + 1, by omega, by simpa using h2⟩
theorem np_LV.has {ls : Array Slot} {nL : Nat} {vs : List (Option Value)} (h : np_LV ls nL vs) : lv_has ls nL (np_prs 0 vs) := by
  refine ⟨h.1, h.2.1, fun q hq => ?_⟩
  obtain ⟨i, h1, h2⟩ := np_prs_of vs 0 q hq
  rw [h1, Nat.zero_add]
  exact h.2.2 i q.2 h2
theorem np_LV.st1 {ls : Array Slot} {nL : Nat} {vs : List (Option Value)} {i : Nat} {v : Value} (ho : np_okst vs i = true) (h : lv_has ls nL ((i, v) :: (np_prs 0 vs).filter (fun q => !(q.1 == i) && !(q.1 + 1 == i && q.2.category == 2)))) : np_LV ls nL (vs.set i (some v)) := by
  refine ⟨h.1, h.2.1, fun j w hj => ?_⟩
  by_cases hji : j = i
  · subst hji
    have hl2 : j < (vs.set j (some v)).length := (List.getElem?_eq_some_iff.mp hj).1
    rw [List.length_set] at hl2
    rw [List.getElem?_set_self hl2] at hj
    cases hj
    exact h.2.2 (j, v) List.mem_cons_self
  · rw [List.getElem?_set_ne (Ne.symm hji)] at hj
    have h3 := np_prs_mem vs 0 j w hj
    rw [Nat.zero_add] at h3
    refine h.2.2 (j, w) (List.mem_cons_of_mem _ (List.mem_filter.mpr ⟨h3, ?_⟩))
    have hn : j + 1 = i → w.category = 2 → False := by
      intro h1 h2
      subst h1
      simp [np_okst, hj, h2] at ho
    cases h5 : (j + 1 == i && w.category == 2) with
    | false => simp [hji, h5]
    | true =>
      simp at h5
      exact (hn h5.1 h5.2).elim
theorem np_LV.st2 {ls : Array Slot} {nL : Nat} {vs : List (Option Value)} {i : Nat} {v : Value} (ho : np_okst vs i = true) (h : lv_has ls nL ((i, v) :: (np_prs 0 vs).filter (fun q => !(q.1 == i) && (!(q.1 == i + 1) && !(q.1 + 1 == i && q.2.category == 2))))) : np_LV ls nL ((vs.set (i + 1) none).set i (some v)) := by
  refine ⟨h.1, h.2.1, fun j w hj => ?_⟩
  by_cases hji : j = i
  · subst hji
    have hl2 : j < ((vs.set (j + 1) none).set j (some v)).length := (List.getElem?_eq_some_iff.mp hj).1
    rw [List.length_set] at hl2
    rw [List.getElem?_set_self hl2] at hj
    cases hj
    exact h.2.2 (j, v) List.mem_cons_self
  · rw [List.getElem?_set_ne (Ne.symm hji)] at hj
    by_cases hj1 : j = i + 1
    · subst hj1
      have hl2 : i + 1 < (vs.set (i + 1) none).length := (List.getElem?_eq_some_iff.mp hj).1
      rw [List.length_set] at hl2
      rw [List.getElem?_set_self hl2] at hj
      cases hj
    · rw [List.getElem?_set_ne (Ne.symm hj1)] at hj
      have h3 := np_prs_mem vs 0 j w hj
      rw [Nat.zero_add] at h3
      refine h.2.2 (j, w) (List.mem_cons_of_mem _ (List.mem_filter.mpr ⟨h3, ?_⟩))
      have hn : j + 1 = i → w.category = 2 → False := by
        intro h1 h2
        subst h1
        simp [np_okst, hj, h2] at ho
      cases h5 : (j + 1 == i && w.category == 2) with
      | false => simp [hji, hj1, h5]
      | true =>
        simp at h5
        exact (hn h5.1 h5.2).elim
def np_vsA : List Value → List (Option Value)
  | [] => []
  | v :: r => if v.category = 2 then some v :: none :: np_vsA r else some v :: np_vsA r
theorem np_vsA_in : ∀ (av : List Value) (k i : Nat) (v : Value), (np_vsA av)[i]? = some (some v) → (k + i, v) ∈ lv_args k av
  | [], _, _, _, h => by simp [np_vsA] at h
  | x :: r, k, i, v, h => by
    by_cases hc : x.category = 2
    · simp only [np_vsA, hc, if_true] at h
      simp only [lv_args, hc, if_true]
      match i, h with
      | 0, h => simp at h; subst h; exact List.mem_cons_self
      | 1, h => simp at h
      | j + 2, h =>
        have h2 := np_vsA_in r (k + 2) j v (by simpa using h)
        rw [show k + (j + 2) = k + 2 + j by omega]
        exact List.mem_cons_of_mem _ h2
    · simp only [np_vsA, hc, if_false] at h
      simp only [lv_args, hc, if_false]
      match i, h with
      | 0, h => simp at h; subst h; exact List.mem_cons_self
      | j + 1, h =>
        have h2 := np_vsA_in r (k + 1) j v (by simpa using h)
        rw [show k + (j + 1) = k + 1 + j by omega]
        exact List.mem_cons_of_mem _ h2
theorem np_LV.entry {ls : Array Slot} {n : Nat} {av : List Value} (h : lv_has ls n (lv_args 0 av)) : np_LV ls n (np_vsA av ++ List.replicate (n - (np_vsA av).length) none) := by
  refine ⟨h.1, h.2.1, fun i v hi => ?_⟩
  by_cases hl : i < (np_vsA av).length
  · rw [List.getElem?_append_left hl] at hi
    have h2 := np_vsA_in av 0 i v hi
    rw [Nat.zero_add] at h2
    exact h.2.2 (i, v) h2
  · rw [List.getElem?_append_right (by omega)] at hi
    have h2 := List.eq_of_mem_replicate (List.mem_of_getElem? hi)
    cases h2
/-- what a callee may count on besides its world, and how that stays -/
def np_St (A : Nat → Prop) (S : State → Heap → Prop) : Prop := (∀ (U : State) (g : JFrame) (mk : MethodId) (a : Array Value), S U U.heap → S (U.calling g mk a) U.heap) ∧ ∀ s U : State, S s s.heap → s.WarmedH U.vm → (∀ q : Nat, q < s.heap.size → ¬ A q → U.heap[q]? = s.heap[q]?) → S U U.heap
def np_Qc (D : va_G) (cl : List vw_C) (A : Nat → Prop) (rv : Option Value) (w : va_W) : Array Value → State → Outcome → State → Prop := fun _ st oc t => oc = .returned rv ∧ va_P D cl w t.heap ∧ va_F A st t
def np_rm (k : Nat × Nat) : Room := { frames := k.1, cells := 0, slots := 0, locals := k.2 }
def np_Pc (D : va_G) (cl : List vw_C) (cI : ClassId) (S : State → Heap → Prop) (w : va_W) (av : List Value) : Array Value → State → Prop := va_Pc av (fun U => va_P D cl w U.heap ∧ va_K D cl [(cI, .int)] U ∧ S U U.heap)
/-- a method's contract: with arguments av, in the world w, it answers rv and leaves the world w' -/
def np_Ct (l : Launch) (D : va_G) (cl : List vw_C) (cI : ClassId) (A : Nat → Prop) (S : State → Heap → Prop) (TS : List Cond) (k : Nat × Nat) (y : MethodName) (b : ByteArray) (mL : Nat) (ret : Option FieldType) (av : List Value) (w : va_W) (rv : Option Value) (w' : va_W) : Prop :=
  Met l y (.code y b mL ret :: TS) (np_rm k) (np_Pc D cl cI S w av) (np_Qc D cl A rv w') 0 0 A
def np_Cx (p : Program) (s : State) (m : MethodId) (args : Array Value) (meth : Method) (c : Code) (cc : ByteArray) (nL : Nat) (own : String) (ret : Option FieldType) (TS : List Cond) (D : va_G) (cl : List vw_C) (cI : ClassId) (A : Nat → Prop) (S : State → Heap → Prop) : Prop :=
  CallFix p m c cc nL s args TS own ∧ va_K D cl [(cI, .int)] s ∧ S s s.heap ∧ np_St A S ∧ meth.sig.returnType = ret ∧ meth.locks = false
def np_V (p : Program) (l : Launch) (e : Env) (R : Room) (s : State) (m : MethodId) (args : Array Value) (below : List Frame) (meth : Method) (c : Code) (ce sl : Nat) (D : va_G) (cl : List vw_C) (A : Nat → Prop) (Q : State → Prop) (nL : Nat) (w : va_W) (pc : Nat) (vs : List (Option Value)) (st : List Value) : Prop :=
  ∀ (H : Heap) (locs : List Loc) (ls : Array Slot), np_LV ls nL vs → va_P D cl w H → va_S A s.heap H locs → W p l e R s m args below meth c H locs ce sl Q (F0 m pc ls st)
theorem np_Ct.of {l : Launch} {D : va_G} {cl : List vw_C} {cI : ClassId} {A : Nat → Prop} {S : State → Heap → Prop} {TS : List Cond} {k : Nat × Nat} {y : MethodName} {b : ByteArray} {mL : Nat} {ret : Option FieldType} {av : List Value} {w : va_W} {rv : Option Value} {w' : va_W}
    (hS : np_St A S) (hy : plainName y.cls = true) (hn : (lg_sl av).length ≤ mL)
    (body : ∀ (p : Program) (e : Env) (s : State) (m : MethodId) (below : List Frame) (meth : Method) (c : Code), np_Cx p s m av.toArray meth c b mL y.cls ret TS D cl cI A S →
      np_V p l e (np_rm k) s m av.toArray below meth c 0 0 D cl A (MQ below (np_Qc D cl A rv w') av.toArray s 0 0 A) mL w 0 (np_vsA av ++ List.replicate (mL - (np_vsA av).length) none) []) :
    np_Ct l D cl cI A S TS k y b mL ret av w rv w' := by
  refine Met.ofW (cc := b) (maxL := mL) (ret := ret) hy rfl ?_
  intro p e s m args below meth c s₁ B hml hv
  obtain ⟨rfl, hP, hK, hSs⟩ := hv
  have hts := atoms_spec (ws := .code y b mL ret :: TS) B.pre
  have C : np_Cx p s m av.toArray meth c b mL y.cls ret TS D cl cI A S := ⟨⟨B.exec, B.bytes, hml, findClass_of_methodNamed B.named, fun x hx => hts x (List.mem_cons_of_mem _ hx)⟩, hK, hSs, hS, B.returns, B.notSynchronized⟩
  have hl := lv_entry av (n := mL) hn
  rw [lg_entry_eq]
  exact body p e s m below meth c C s.heap [] _ (np_LV.entry hl) hP va_S.rf
section NPR
variable {p : Program} {l : Launch} {e : Env} {R : Room} {s : State} {m : MethodId} {args : Array Value} {below : List Frame} {meth : Method} {c : Code} {ce sl : Nat} {D : va_G} {cl : List vw_C} {A : Nat → Prop} {Q : State → Prop} {nL : Nat}
variable {cc : ByteArray} {own : String} {ret : Option FieldType} {TS : List Cond} {cI : ClassId} {S : State → Heap → Prop} {w : va_W} {pc : Nat} {vs : List (Option Value)} {st : List Value}

theorem np_at {vs2 : List (Option Value)} (h : vs = vs2) (k : np_V p l e R s m args below meth c ce sl D cl A Q nL w pc vs2 st) : np_V p l e R s m args below meth c ce sl D cl A Q nL w pc vs st := h ▸ k
theorem np_atw {w2 : va_W} (h : w = w2) (k : np_V p l e R s m args below meth c ce sl D cl A Q nL w2 pc vs st) : np_V p l e R s m args below meth c ce sl D cl A Q nL w pc vs st := h ▸ k
theorem np_atst {st2 : List Value} (h : st = st2) (k : np_V p l e R s m args below meth c ce sl D cl A Q nL w pc vs st2) : np_V p l e R s m args below meth c ce sl D cl A Q nL w pc vs st := h ▸ k
theorem np_top {x y : Nat} (h : nI x = nI y) (k : np_V p l e R s m args below meth c ce sl D cl A Q nL w pc vs (.int (nI y) :: st)) : np_V p l e R s m args below meth c ce sl D cl A Q nL w pc vs (.int (nI x) :: st) := h ▸ k
theorem np_topx {x : Int32} {y : Nat} (h : x = nI y) (k : np_V p l e R s m args below meth c ce sl D cl A Q nL w pc vs (.int (nI y) :: st)) : np_V p l e R s m args below meth c ce sl D cl A Q nL w pc vs (.int x :: st) := h ▸ k
theorem np_topl {x : Int64} {y : Nat} (h : x = lN y) (k : np_V p l e R s m args below meth c ce sl D cl A Q nL w pc vs (.long (lN y) :: st)) : np_V p l e R s m args below meth c ce sl D cl A Q nL w pc vs (.long x :: st) := h ▸ k
theorem np_forget (i : Nat) (k : np_V p l e R s m args below meth c ce sl D cl A Q nL w pc (vs.set i none) st) : np_V p l e R s m args below meth c ce sl D cl A Q nL w pc vs st := fun H locs ls hL hP hS => k H locs ls ⟨hL.1, hL.2.1, fun j v hj => by
  by_cases h : j = i
  · subst h
    have h2 : j < (vs.set j none).length := (List.getElem?_eq_some_iff.mp hj).1
    rw [List.length_set] at h2
    rw [List.getElem?_set_self h2] at hj
    cases hj
  · rw [List.getElem?_set_ne (Ne.symm h)] at hj
    exact hL.2.2 j v hj⟩ hP hS
theorem np_iconst (C : np_Cx p s m args meth c cc nL own ret TS D cl cI A S) {n : Int} {v : Nat} (hdg : decode cc pc = .ok (.iconst n, 1)) (hv : Int32.ofInt n = nI v) (k : np_V p l e R s m args below meth c ce sl D cl A Q nL w (pc + 1) vs (.int (nI v) :: st)) : np_V p l e R s m args below meth c ce sl D cl A Q nL w pc vs st := fun H locs ls hL hP hS => lv_iconst C.1.1 C.1.2.1 hdg hv (k H locs ls hL hP hS)
theorem np_bipush (C : np_Cx p s m args meth c cc nL own ret TS D cl cI A S) {n : Int} {v : Nat} (hdg : decode cc pc = .ok (.bipush n, 2)) (hv : (Int8.ofInt n).toInt32 = nI v) (k : np_V p l e R s m args below meth c ce sl D cl A Q nL w (pc + 2) vs (.int (nI v) :: st)) : np_V p l e R s m args below meth c ce sl D cl A Q nL w pc vs st := fun H locs ls hL hP hS => lv_bipush C.1.1 C.1.2.1 hdg hv (k H locs ls hL hP hS)
theorem np_sipush (C : np_Cx p s m args meth c cc nL own ret TS D cl cI A S) {n : Int} {v : Nat} (hdg : decode cc pc = .ok (.sipush n, 3)) (hv : (Int16.ofInt n).toInt32 = nI v) (k : np_V p l e R s m args below meth c ce sl D cl A Q nL w (pc + 3) vs (.int (nI v) :: st)) : np_V p l e R s m args below meth c ce sl D cl A Q nL w pc vs st := fun H locs ls hL hP hS => lv_sipush C.1.1 C.1.2.1 hdg hv (k H locs ls hL hP hS)
theorem np_lconst (C : np_Cx p s m args meth c cc nL own ret TS D cl cI A S) {n : Fin 2} {v : Nat} (hdg : decode cc pc = .ok (.lconst n, 1)) (hv : Int64.ofNat (n : Nat) = lN v) (k : np_V p l e R s m args below meth c ce sl D cl A Q nL w (pc + 1) vs (.long (lN v) :: st)) : np_V p l e R s m args below meth c ce sl D cl A Q nL w pc vs st := fun H locs ls hL hP hS => lv_lconst C.1.1 C.1.2.1 hdg hv (k H locs ls hL hP hS)
theorem np_ldc (C : np_Cx p s m args meth c cc nL own ret TS D cl cI A S) {index : Nat} {x : Int32} {v : Nat} (hc : Cond.constant own index x ∈ TS) (hv : x = nI v) (hdg : decode cc pc = .ok (.ldc index, 2)) (k : np_V p l e R s m args below meth c ce sl D cl A Q nL w (pc + 2) vs (.int (nI v) :: st)) : np_V p l e R s m args below meth c ce sl D cl A Q nL w pc vs st := fun H locs ls hL hP hS => lv_ldc C.1.1 C.1.2.1 C.1.2.2.2.1 (C.1.2.2.2.2 _ hc) hdg (hv ▸ k H locs ls hL hP hS)
theorem np_ldc2 (C : np_Cx p s m args meth c cc nL own ret TS D cl cI A S) {index : Nat} {x : Int64} {v : Nat} (hc : Cond.constantLong own index x ∈ TS) (hv : x = lN v) (hdg : decode cc pc = .ok (.ldc2_w index, 3)) (k : np_V p l e R s m args below meth c ce sl D cl A Q nL w (pc + 3) vs (.long (lN v) :: st)) : np_V p l e R s m args below meth c ce sl D cl A Q nL w pc vs st := fun H locs ls hL hP hS => lv_ldc2 C.1.1 C.1.2.1 C.1.2.2.2.1 (C.1.2.2.2.2 _ hc) hdg (hv ▸ k H locs ls hL hP hS)
theorem np_iload_n (C : np_Cx p s m args meth c cc nL own ret TS D cl cI A S) {i : Fin 4} {x : Int32} (hdg : decode cc pc = .ok (.iload_n i, 1)) (hl : vs[(i : Nat)]? = some (some (.int x))) (k : np_V p l e R s m args below meth c ce sl D cl A Q nL w (pc + 1) vs (.int x :: st)) : np_V p l e R s m args below meth c ce sl D cl A Q nL w pc vs st := fun H locs ls hL hP hS => lv_iload_n C.1.1 C.1.2.1 hdg rfl (hL.2.2 _ _ hl) (k H locs ls hL hP hS)
theorem np_iload (C : np_Cx p s m args meth c cc nL own ret TS D cl cI A S) {i : Nat} {x : Int32} (hdg : decode cc pc = .ok (.iload i, 2)) (hl : vs[i]? = some (some (.int x))) (k : np_V p l e R s m args below meth c ce sl D cl A Q nL w (pc + 2) vs (.int x :: st)) : np_V p l e R s m args below meth c ce sl D cl A Q nL w pc vs st := fun H locs ls hL hP hS => lv_iload C.1.1 C.1.2.1 hdg (hL.2.2 _ _ hl) (k H locs ls hL hP hS)
theorem np_lload_n (C : np_Cx p s m args meth c cc nL own ret TS D cl cI A S) {i : Fin 4} {x : Int64} (hdg : decode cc pc = .ok (.lload_n i, 1)) (hl : vs[(i : Nat)]? = some (some (.long x))) (k : np_V p l e R s m args below meth c ce sl D cl A Q nL w (pc + 1) vs (.long x :: st)) : np_V p l e R s m args below meth c ce sl D cl A Q nL w pc vs st := fun H locs ls hL hP hS => lv_lload_n C.1.1 C.1.2.1 hdg rfl (hL.2.2 _ _ hl) (k H locs ls hL hP hS)
theorem np_lload (C : np_Cx p s m args meth c cc nL own ret TS D cl cI A S) {i : Nat} {x : Int64} (hdg : decode cc pc = .ok (.lload i, 2)) (hl : vs[i]? = some (some (.long x))) (k : np_V p l e R s m args below meth c ce sl D cl A Q nL w (pc + 2) vs (.long x :: st)) : np_V p l e R s m args below meth c ce sl D cl A Q nL w pc vs st := fun H locs ls hL hP hS => lv_lload C.1.1 C.1.2.1 hdg (hL.2.2 _ _ hl) (k H locs ls hL hP hS)
theorem np_aload_n (C : np_Cx p s m args meth c cc nL own ret TS D cl cI A S) {i : Fin 4} {x : Nat} (hdg : decode cc pc = .ok (.aload_n i, 1)) (hl : vs[(i : Nat)]? = some (some (.ref x))) (k : np_V p l e R s m args below meth c ce sl D cl A Q nL w (pc + 1) vs (.ref x :: st)) : np_V p l e R s m args below meth c ce sl D cl A Q nL w pc vs st := fun H locs ls hL hP hS => lv_aload_n C.1.1 C.1.2.1 hdg rfl (hL.2.2 _ _ hl) (k H locs ls hL hP hS)
theorem np_aload (C : np_Cx p s m args meth c cc nL own ret TS D cl cI A S) {i : Nat} {x : Nat} (hdg : decode cc pc = .ok (.aload i, 2)) (hl : vs[i]? = some (some (.ref x))) (k : np_V p l e R s m args below meth c ce sl D cl A Q nL w (pc + 2) vs (.ref x :: st)) : np_V p l e R s m args below meth c ce sl D cl A Q nL w pc vs st := fun H locs ls hL hP hS => lv_aload C.1.1 C.1.2.1 hdg (hL.2.2 _ _ hl) (k H locs ls hL hP hS)
theorem np_istore_n (C : np_Cx p s m args meth c cc nL own ret TS D cl cI A S) {i : Fin 4} {x : Int32} (hdg : decode cc pc = .ok (.istore_n i, 1)) (hn : (i : Nat) < nL) (ho : np_okst vs (i : Nat) = true) (k : np_V p l e R s m args below meth c ce sl D cl A Q nL w (pc + 1) (vs.set (i : Nat) (some (.int x))) st) : np_V p l e R s m args below meth c ce sl D cl A Q nL w pc vs (.int x :: st) := fun H locs ls hL hP hS => lv_istore_n C.1.1 C.1.2.1 hdg rfl hL.has hn rfl (fun ls2 h2 => k H locs ls2 (np_LV.st1 ho h2) hP hS)
theorem np_istore (C : np_Cx p s m args meth c cc nL own ret TS D cl cI A S) {i : Nat} {x : Int32} (hdg : decode cc pc = .ok (.istore i, 2)) (hn : i < nL) (ho : np_okst vs i = true) (k : np_V p l e R s m args below meth c ce sl D cl A Q nL w (pc + 2) (vs.set i (some (.int x))) st) : np_V p l e R s m args below meth c ce sl D cl A Q nL w pc vs (.int x :: st) := fun H locs ls hL hP hS => lv_istore C.1.1 C.1.2.1 hdg hL.has hn rfl (fun ls2 h2 => k H locs ls2 (np_LV.st1 ho h2) hP hS)
theorem np_astore_n (C : np_Cx p s m args meth c cc nL own ret TS D cl cI A S) {i : Fin 4} {x : Nat} (hdg : decode cc pc = .ok (.astore_n i, 1)) (hn : (i : Nat) < nL) (ho : np_okst vs (i : Nat) = true) (k : np_V p l e R s m args below meth c ce sl D cl A Q nL w (pc + 1) (vs.set (i : Nat) (some (.ref x))) st) : np_V p l e R s m args below meth c ce sl D cl A Q nL w pc vs (.ref x :: st) := fun H locs ls hL hP hS => lv_astore_n C.1.1 C.1.2.1 hdg rfl hL.has hn rfl (fun ls2 h2 => k H locs ls2 (np_LV.st1 ho h2) hP hS)
theorem np_astore (C : np_Cx p s m args meth c cc nL own ret TS D cl cI A S) {i : Nat} {x : Nat} (hdg : decode cc pc = .ok (.astore i, 2)) (hn : i < nL) (ho : np_okst vs i = true) (k : np_V p l e R s m args below meth c ce sl D cl A Q nL w (pc + 2) (vs.set i (some (.ref x))) st) : np_V p l e R s m args below meth c ce sl D cl A Q nL w pc vs (.ref x :: st) := fun H locs ls hL hP hS => lv_astore C.1.1 C.1.2.1 hdg hL.has hn rfl (fun ls2 h2 => k H locs ls2 (np_LV.st1 ho h2) hP hS)
theorem np_lstore_n (C : np_Cx p s m args meth c cc nL own ret TS D cl cI A S) {i : Fin 4} {x : Int64} (hdg : decode cc pc = .ok (.lstore_n i, 1)) (hn : (i : Nat) + 1 < nL) (ho : np_okst vs (i : Nat) = true) (k : np_V p l e R s m args below meth c ce sl D cl A Q nL w (pc + 1) ((vs.set ((i : Nat) + 1) none).set (i : Nat) (some (.long x))) st) : np_V p l e R s m args below meth c ce sl D cl A Q nL w pc vs (.long x :: st) := fun H locs ls hL hP hS => lv_lstore_n C.1.1 C.1.2.1 hdg rfl hL.has hn rfl (fun ls2 h2 => k H locs ls2 (np_LV.st2 ho h2) hP hS)
theorem np_lstore (C : np_Cx p s m args meth c cc nL own ret TS D cl cI A S) {i : Nat} {x : Int64} (hdg : decode cc pc = .ok (.lstore i, 2)) (hn : i + 1 < nL) (ho : np_okst vs i = true) (k : np_V p l e R s m args below meth c ce sl D cl A Q nL w (pc + 2) ((vs.set (i + 1) none).set i (some (.long x))) st) : np_V p l e R s m args below meth c ce sl D cl A Q nL w pc vs (.long x :: st) := fun H locs ls hL hP hS => lv_lstore C.1.1 C.1.2.1 hdg hL.has hn rfl (fun ls2 h2 => k H locs ls2 (np_LV.st2 ho h2) hP hS)
theorem np_iinc (C : np_Cx p s m args meth c cc nL own ret TS D cl cI A S) {i : Nat} {n : Int} {x v : Nat} (hdg : decode cc pc = .ok (.iinc i n, 3)) (hl : vs[i]? = some (some (.int (nI x)))) (hv : nI x + Int32.ofInt n = nI v) (hn : i < nL) (ho : np_okst vs i = true) (k : np_V p l e R s m args below meth c ce sl D cl A Q nL w (pc + 3) (vs.set i (some (.int (nI v)))) st) : np_V p l e R s m args below meth c ce sl D cl A Q nL w pc vs st := by
  intro H locs ls hL hP hS
  have h3 := np_prs_mem vs 0 i _ hl
  rw [Nat.zero_add] at h3
  obtain ⟨j, hj⟩ := List.getElem?_of_mem h3
  exact lv_iinc C.1.1 C.1.2.1 hdg hL.has hj hv hn rfl (fun ls2 h2 => k H locs ls2 (np_LV.st1 ho h2) hP hS)
theorem np_iadd (C : np_Cx p s m args meth c cc nL own ret TS D cl cI A S) {x y : Nat}  (hdg : decode cc pc = .ok (.iadd, 1)) (k : np_V p l e R s m args below meth c ce sl D cl A Q nL w (pc + 1) vs (.int (nI (x + y)) :: st)) : np_V p l e R s m args below meth c ce sl D cl A Q nL w pc vs (.int (nI y) :: .int (nI x) :: st) := fun H locs ls hL hP hS => lv_iadd C.1.1 C.1.2.1 hdg ((nI_add x y).symm ▸ k H locs ls hL hP hS)
theorem np_imul (C : np_Cx p s m args meth c cc nL own ret TS D cl cI A S) {x y : Nat}  (hdg : decode cc pc = .ok (.imul, 1)) (k : np_V p l e R s m args below meth c ce sl D cl A Q nL w (pc + 1) vs (.int (nI (x * y)) :: st)) : np_V p l e R s m args below meth c ce sl D cl A Q nL w pc vs (.int (nI y) :: .int (nI x) :: st) := fun H locs ls hL hP hS => lv_imul C.1.1 C.1.2.1 hdg ((pk_mul x y).symm ▸ k H locs ls hL hP hS)
theorem np_isub (C : np_Cx p s m args meth c cc nL own ret TS D cl cI A S) {x y : Nat} (h : y ≤ x) (hdg : decode cc pc = .ok (.isub, 1)) (k : np_V p l e R s m args below meth c ce sl D cl A Q nL w (pc + 1) vs (.int (nI (x - y)) :: st)) : np_V p l e R s m args below meth c ce sl D cl A Q nL w pc vs (.int (nI y) :: .int (nI x) :: st) := fun H locs ls hL hP hS => lv_isub C.1.1 C.1.2.1 hdg ((pk_sub h).symm ▸ k H locs ls hL hP hS)
theorem np_idiv (C : np_Cx p s m args meth c cc nL own ret TS D cl cI A S) {x y : Nat} (hx : x < 2 ^ 31) (h0 : 0 < y) (hy : y < 2 ^ 31) (hdg : decode cc pc = .ok (.idiv, 1)) (k : np_V p l e R s m args below meth c ce sl D cl A Q nL w (pc + 1) vs (.int (nI (x / y)) :: st)) : np_V p l e R s m args below meth c ce sl D cl A Q nL w pc vs (.int (nI y) :: .int (nI x) :: st) := fun H locs ls hL hP hS => lv_idiv C.1.1 C.1.2.1 hdg (nI_ne0 h0 hy) ((pk_div hx h0 hy).symm ▸ k H locs ls hL hP hS)
theorem np_irem (C : np_Cx p s m args meth c cc nL own ret TS D cl cI A S) {x y : Nat} (hx : x < 2 ^ 31) (h0 : 0 < y) (hy : y < 2 ^ 31) (hdg : decode cc pc = .ok (.irem, 1)) (k : np_V p l e R s m args below meth c ce sl D cl A Q nL w (pc + 1) vs (.int (nI (x % y)) :: st)) : np_V p l e R s m args below meth c ce sl D cl A Q nL w pc vs (.int (nI y) :: .int (nI x) :: st) := fun H locs ls hL hP hS => lv_irem C.1.1 C.1.2.1 hdg (nI_ne0 h0 hy) ((pk_rem hx h0 hy).symm ▸ k H locs ls hL hP hS)
theorem np_ladd (C : np_Cx p s m args meth c cc nL own ret TS D cl cI A S) {x y : Nat}  (hdg : decode cc pc = .ok (.ladd, 1)) (k : np_V p l e R s m args below meth c ce sl D cl A Q nL w (pc + 1) vs (.long (lN (x + y)) :: st)) : np_V p l e R s m args below meth c ce sl D cl A Q nL w pc vs (.long (lN y) :: .long (lN x) :: st) := fun H locs ls hL hP hS => lv_ladd C.1.1 C.1.2.1 hdg ((lN_add x y).symm ▸ k H locs ls hL hP hS)
theorem np_lmul (C : np_Cx p s m args meth c cc nL own ret TS D cl cI A S) {x y : Nat}  (hdg : decode cc pc = .ok (.lmul, 1)) (k : np_V p l e R s m args below meth c ce sl D cl A Q nL w (pc + 1) vs (.long (lN (x * y)) :: st)) : np_V p l e R s m args below meth c ce sl D cl A Q nL w pc vs (.long (lN y) :: .long (lN x) :: st) := fun H locs ls hL hP hS => lv_lmul C.1.1 C.1.2.1 hdg ((lN_mul x y).symm ▸ k H locs ls hL hP hS)
theorem np_lsub (C : np_Cx p s m args meth c cc nL own ret TS D cl cI A S) {x y : Nat} (h : y ≤ x) (hdg : decode cc pc = .ok (.lsub, 1)) (k : np_V p l e R s m args below meth c ce sl D cl A Q nL w (pc + 1) vs (.long (lN (x - y)) :: st)) : np_V p l e R s m args below meth c ce sl D cl A Q nL w pc vs (.long (lN y) :: .long (lN x) :: st) := fun H locs ls hL hP hS => lv_lsub C.1.1 C.1.2.1 hdg ((lN_sub h).symm ▸ k H locs ls hL hP hS)
theorem np_subW {x y : Nat} (h : y ≤ 4294967296) : nI x - nI y = nI (x + 4294967296 - y) := by
  have e : nI x = nI (x + 4294967296) := by
    apply Int32.toBitVec_inj.mp
    apply BitVec.eq_of_toNat_eq
    simp [nI]
  rw [e, pk_sub (show y ≤ x + 4294967296 by omega)]
theorem np_isubW (C : np_Cx p s m args meth c cc nL own ret TS D cl cI A S) {x y : Nat} (h : y ≤ 4294967296) (hdg : decode cc pc = .ok (.isub, 1)) (k : np_V p l e R s m args below meth c ce sl D cl A Q nL w (pc + 1) vs (.int (nI (x + 4294967296 - y)) :: st)) : np_V p l e R s m args below meth c ce sl D cl A Q nL w pc vs (.int (nI y) :: .int (nI x) :: st) := fun H locs ls hL hP hS => lv_isub C.1.1 C.1.2.1 hdg ((np_subW h).symm ▸ k H locs ls hL hP hS)
theorem np_wrap (x : Nat) : nI (x + 4294967296) = nI x := by
  apply Int32.toBitVec_inj.mp
  apply BitVec.eq_of_toNat_eq
  simp [nI]
theorem np_nIe {x y : Nat} (hx : x < 4294967296) (hy : y < 4294967296) : nI x = nI y ↔ x = y := by
  constructor
  · intro h
    have h2 := congrArg (fun z : Int32 => z.toBitVec.toNat) h
    simp only [nI] at h2
    have e1 : (Int32.ofNat x).toBitVec.toNat = x := pk_tn (n := x) hx
    have e2 : (Int32.ofNat y).toBitVec.toNat = y := pk_tn (n := y) hy
    rw [e1, e2] at h2
    exact h2
  · intro h; rw [h]
theorem np_neg {x : Nat} (hx : x < 4294967296) : nI x < 0 ↔ 2147483648 ≤ x := by
  constructor
  · intro h
    apply Nat.le_of_not_lt
    intro h2
    exact nI_pos (n := x) h2 h
  · intro h
    have e : nI x = nI 0 - nI (4294967296 - x) := by
      rw [np_subW (show 4294967296 - x ≤ 4294967296 by omega)]
      congr 1; omega
    by_cases h9 : 4294967296 - x = 2147483648
    · have e2 : x = 2147483648 := by omega
      subst e2; decide
    · rw [Int32.lt_iff_toInt_lt, e]
      have h3 : (nI (4294967296 - x)).toInt = ((4294967296 - x : Nat) : Int) := nI_toInt (by omega)
      have h4 : nI 0 - nI (4294967296 - x) = - nI (4294967296 - x) := by rw [nI_0]; simp
      rw [h4, sb_negT (by omega)]
      simp
      omega
theorem np_of (x : Int32) : ∃ n, n < 4294967296 ∧ x = nI n := by
  refine ⟨x.toBitVec.toNat, x.toBitVec.isLt, ?_⟩
  apply Int32.toBitVec_inj.mp
  apply BitVec.eq_of_toNat_eq
  simp [nI]
theorem np_i2l (C : np_Cx p s m args meth c cc nL own ret TS D cl cI A S) {x : Nat} (h : x < 2 ^ 31) (hdg : decode cc pc = .ok (.i2l, 1)) (k : np_V p l e R s m args below meth c ce sl D cl A Q nL w (pc + 1) vs (.long (lN x) :: st)) : np_V p l e R s m args below meth c ce sl D cl A Q nL w pc vs (.int (nI x) :: st) := fun H locs ls hL hP hS => lv_i2l C.1.1 C.1.2.1 hdg (nI_l h) (k H locs ls hL hP hS)
theorem np_l2i (C : np_Cx p s m args meth c cc nL own ret TS D cl cI A S) {x : Nat} (hdg : decode cc pc = .ok (.l2i, 1)) (k : np_V p l e R s m args below meth c ce sl D cl A Q nL w (pc + 1) vs (.int (nI x) :: st)) : np_V p l e R s m args below meth c ce sl D cl A Q nL w pc vs (.long (lN x) :: st) := fun H locs ls hL hP hS => lv_l2i C.1.1 C.1.2.1 hdg (lN_i x) (k H locs ls hL hP hS)
theorem np_lrem (C : np_Cx p s m args meth c cc nL own ret TS D cl cI A S) {x y : Nat} (hx : x < 2 ^ 63) (h0 : 0 < y) (hy : y < 2 ^ 63) (hdg : decode cc pc = .ok (.lrem, 1)) (k : np_V p l e R s m args below meth c ce sl D cl A Q nL w (pc + 1) vs (.long (lN (x % y)) :: st)) : np_V p l e R s m args below meth c ce sl D cl A Q nL w pc vs (.long (lN y) :: .long (lN x) :: st) := fun H locs ls hL hP hS => lv_lrem C.1.1 C.1.2.1 hdg (fun h => by have h2 := (pk_lEQ hy (show 0 < 2 ^ 63 by decide)).mp (h.trans (by rfl)); omega) ((pk_lRem hx h0 hy).symm ▸ k H locs ls hL hP hS)
theorem np_iand1 (C : np_Cx p s m args meth c cc nL own ret TS D cl cI A S) {x : Nat} (hx : x < 2 ^ 32) (hdg : decode cc pc = .ok (.iand, 1)) (k : np_V p l e R s m args below meth c ce sl D cl A Q nL w (pc + 1) vs (.int (nI (x % 2)) :: st)) : np_V p l e R s m args below meth c ce sl D cl A Q nL w pc vs (.int (nI 1) :: .int (nI x) :: st) := fun H locs ls hL hP hS => lv_iand C.1.1 C.1.2.1 hdg ((show nI x &&& nI 1 = nI (x % 2) from pk_andN hx 1 (by decide)).symm ▸ k H locs ls hL hP hS)
theorem np_shc : ∀ k, k < 32 → ((nI k &&& 31).toBitVec.smod 32).toNat = k := by decide
theorem np_ishr (C : np_Cx p s m args meth c cc nL own ret TS D cl cI A S) {x y : Nat} (hx : x < 2 ^ 31) (hy : y < 32) (hdg : decode cc pc = .ok (.ishr, 1)) (k : np_V p l e R s m args below meth c ce sl D cl A Q nL w (pc + 1) vs (.int (nI (x / 2 ^ y)) :: st)) : np_V p l e R s m args below meth c ce sl D cl A Q nL w pc vs (.int (nI y) :: .int (nI x) :: st) := fun H locs ls hL hP hS => lv_ishr C.1.1 C.1.2.1 hdg ((pk_shrN hx _ y (np_shc y hy)).symm ▸ k H locs ls hL hP hS)
theorem np_ishl (C : np_Cx p s m args meth c cc nL own ret TS D cl cI A S) {x y : Nat} (hy : y < 32) (hx : x * 2 ^ y < 2 ^ 32) (hdg : decode cc pc = .ok (.ishl, 1)) (k : np_V p l e R s m args below meth c ce sl D cl A Q nL w (pc + 1) vs (.int (nI (x * 2 ^ y)) :: st)) : np_V p l e R s m args below meth c ce sl D cl A Q nL w pc vs (.int (nI y) :: .int (nI x) :: st) := fun H locs ls hL hP hS => lv_ishl C.1.1 C.1.2.1 hdg ((pk_shlN _ y (np_shc y hy) hx).symm ▸ k H locs ls hL hP hS)
theorem np_xor1 {x : Nat} (hx : x < 2 ^ 31) : nI x ^^^ nI 1 = nI (if x % 2 = 0 then x + 1 else x - 1) := by
  have h1 : nI x ^^^ nI 1 = nI (x ^^^ 1) := by
    apply Int32.toBitVec_inj.mp
    apply BitVec.eq_of_toNat_eq
    simp [nI, Nat.xor_mod_two_pow]
  rw [h1]
  congr 1
  have h2 : x ^^^ 1 = if x % 2 = 0 then x + 1 else x - 1 := by
    have a1 : (x ^^^ 1) / 2 = x / 2 := by rw [Nat.xor_div_two]; simp
    have a2 : (x ^^^ 1) % 2 = 1 ↔ ¬ (x % 2 = 1 ↔ 1 % 2 = 1) := Nat.xor_mod_two_eq_one
    have a3 : x % 2 = 0 ∨ x % 2 = 1 := by omega
    have a4 := Nat.div_add_mod (x ^^^ 1) 2
    have a5 := Nat.mod_lt (x ^^^ 1) (show 0 < 2 by decide)
    rcases a3 with a3 | a3
    · have a6 : (x ^^^ 1) % 2 = 1 := a2.mpr (by simp [a3])
      rw [if_pos a3]; omega
    · have a6 : ¬ (x ^^^ 1) % 2 = 1 := fun h => a2.mp h (by simp [a3])
      rw [if_neg (by omega)]; omega
  exact h2
theorem np_ixor1 (C : np_Cx p s m args meth c cc nL own ret TS D cl cI A S) {x : Nat} (hx : x < 2 ^ 31) (hdg : decode cc pc = .ok (.ixor, 1)) (k : np_V p l e R s m args below meth c ce sl D cl A Q nL w (pc + 1) vs (.int (nI (if x % 2 = 0 then x + 1 else x - 1)) :: st)) : np_V p l e R s m args below meth c ce sl D cl A Q nL w pc vs (.int (nI 1) :: .int (nI x) :: st) := fun H locs ls hL hP hS => lv_ixor C.1.1 C.1.2.1 hdg ((np_xor1 hx).symm ▸ k H locs ls hL hP hS)
theorem np_laddR (C : np_Cx p s m args meth c cc nL own ret TS D cl cI A S) {x y : Int64} (hdg : decode cc pc = .ok (.ladd, 1)) (k : np_V p l e R s m args below meth c ce sl D cl A Q nL w (pc + 1) vs (.long (x + y) :: st)) : np_V p l e R s m args below meth c ce sl D cl A Q nL w pc vs (.long y :: .long x :: st) := fun H locs ls hL hP hS => lv_ladd C.1.1 C.1.2.1 hdg (k H locs ls hL hP hS)
theorem np_lsubR (C : np_Cx p s m args meth c cc nL own ret TS D cl cI A S) {x y : Int64} (hdg : decode cc pc = .ok (.lsub, 1)) (k : np_V p l e R s m args below meth c ce sl D cl A Q nL w (pc + 1) vs (.long (x - y) :: st)) : np_V p l e R s m args below meth c ce sl D cl A Q nL w pc vs (.long y :: .long x :: st) := fun H locs ls hL hP hS => lv_lsub C.1.1 C.1.2.1 hdg (k H locs ls hL hP hS)
theorem np_lmulR (C : np_Cx p s m args meth c cc nL own ret TS D cl cI A S) {x y : Int64} (hdg : decode cc pc = .ok (.lmul, 1)) (k : np_V p l e R s m args below meth c ce sl D cl A Q nL w (pc + 1) vs (.long (x * y) :: st)) : np_V p l e R s m args below meth c ce sl D cl A Q nL w pc vs (.long y :: .long x :: st) := fun H locs ls hL hP hS => lv_lmul C.1.1 C.1.2.1 hdg (k H locs ls hL hP hS)
theorem np_lremR (C : np_Cx p s m args meth c cc nL own ret TS D cl cI A S) {x y : Int64} (hne : ¬ y = 0) (hdg : decode cc pc = .ok (.lrem, 1)) (k : np_V p l e R s m args below meth c ce sl D cl A Q nL w (pc + 1) vs (.long (x - x / y * y) :: st)) : np_V p l e R s m args below meth c ce sl D cl A Q nL w pc vs (.long y :: .long x :: st) := fun H locs ls hL hP hS => lv_lrem C.1.1 C.1.2.1 hdg hne (k H locs ls hL hP hS)
theorem np_lcmpR (C : np_Cx p s m args meth c cc nL own ret TS D cl cI A S) {x y : Int64} (hdg : decode cc pc = .ok (.lcmp, 1)) (k : np_V p l e R s m args below meth c ce sl D cl A Q nL w (pc + 1) vs (.int (lg_cmp x y) :: st)) : np_V p l e R s m args below meth c ce sl D cl A Q nL w pc vs (.long y :: .long x :: st) := fun H locs ls hL hP hS => W.lcmp C.1.1 C.1.2.1 hdg (k H locs ls hL hP hS)
theorem np_l2iR (C : np_Cx p s m args meth c cc nL own ret TS D cl cI A S) {x : Int64} (hdg : decode cc pc = .ok (.l2i, 1)) (k : np_V p l e R s m args below meth c ce sl D cl A Q nL w (pc + 1) vs (.int x.toInt32 :: st)) : np_V p l e R s m args below meth c ce sl D cl A Q nL w pc vs (.long x :: st) := fun H locs ls hL hP hS => lv_l2i C.1.1 C.1.2.1 hdg rfl (k H locs ls hL hP hS)
theorem np_dup (C : np_Cx p s m args meth c cc nL own ret TS D cl cI A S) {v : Value} (hv : v.category = 1) (hdg : decode cc pc = .ok (.dup, 1)) (k : np_V p l e R s m args below meth c ce sl D cl A Q nL w (pc + 1) vs (v :: v :: st)) : np_V p l e R s m args below meth c ce sl D cl A Q nL w pc vs (v :: st) := fun H locs ls hL hP hS => lv_dup C.1.1 C.1.2.1 hdg hv (k H locs ls hL hP hS)
theorem np_dup2 (C : np_Cx p s m args meth c cc nL own ret TS D cl cI A S) {v u : Value} (hv : v.category = 1) (hu : u.category = 1) (hdg : decode cc pc = .ok (.dup2, 1)) (k : np_V p l e R s m args below meth c ce sl D cl A Q nL w (pc + 1) vs (v :: u :: v :: u :: st)) : np_V p l e R s m args below meth c ce sl D cl A Q nL w pc vs (v :: u :: st) := fun H locs ls hL hP hS => lv_dup2_11 C.1.1 C.1.2.1 hdg hv hu (k H locs ls hL hP hS)
theorem np_pop (C : np_Cx p s m args meth c cc nL own ret TS D cl cI A S) {v : Value} (hv : v.category = 1) (hdg : decode cc pc = .ok (.pop, 1)) (k : np_V p l e R s m args below meth c ce sl D cl A Q nL w (pc + 1) vs st) : np_V p l e R s m args below meth c ce sl D cl A Q nL w pc vs (v :: st) := fun H locs ls hL hP hS => lv_pop C.1.1 C.1.2.1 hdg hv (k H locs ls hL hP hS)
theorem np_icmp_lt (C : np_Cx p s m args meth c cc nL own ret TS D cl cI A S) {x y : Nat} {off : Int} {tgt : Nat} (hx : x < 2 ^ 31) (hy : y < 2 ^ 31) (hdg : decode cc pc = .ok (.if_icmp .lt off, 3)) (ht : (pc : Int) + off = (tgt : Int)) (kt : x < y → np_V p l e R s m args below meth c ce sl D cl A Q nL w tgt vs st) (kf : y ≤ x → np_V p l e R s m args below meth c ce sl D cl A Q nL w (pc + 3) vs st) : np_V p l e R s m args below meth c ce sl D cl A Q nL w pc vs (.int (nI y) :: .int (nI x) :: st) := fun H locs ls hL hP hS => lv_icmp_lt C.1.1 C.1.2.1 hdg ht (fun h => kt ((nI_ltI hx hy).mp h) H locs ls hL hP hS) (fun h => kf (Nat.le_of_not_lt fun q => h ((nI_ltI hx hy).mpr q)) H locs ls hL hP hS)
theorem np_icmp_ge (C : np_Cx p s m args meth c cc nL own ret TS D cl cI A S) {x y : Nat} {off : Int} {tgt : Nat} (hx : x < 2 ^ 31) (hy : y < 2 ^ 31) (hdg : decode cc pc = .ok (.if_icmp .ge off, 3)) (ht : (pc : Int) + off = (tgt : Int)) (kt : y ≤ x → np_V p l e R s m args below meth c ce sl D cl A Q nL w tgt vs st) (kf : x < y → np_V p l e R s m args below meth c ce sl D cl A Q nL w (pc + 3) vs st) : np_V p l e R s m args below meth c ce sl D cl A Q nL w pc vs (.int (nI y) :: .int (nI x) :: st) := fun H locs ls hL hP hS => lv_icmp_ge C.1.1 C.1.2.1 hdg ht (fun h => kt ((nI_leI hy hx).mp h) H locs ls hL hP hS) (fun h => kf (Nat.lt_of_not_le fun q => h ((nI_leI hy hx).mpr q)) H locs ls hL hP hS)
theorem np_icmp_gt (C : np_Cx p s m args meth c cc nL own ret TS D cl cI A S) {x y : Nat} {off : Int} {tgt : Nat} (hx : x < 2 ^ 31) (hy : y < 2 ^ 31) (hdg : decode cc pc = .ok (.if_icmp .gt off, 3)) (ht : (pc : Int) + off = (tgt : Int)) (kt : y < x → np_V p l e R s m args below meth c ce sl D cl A Q nL w tgt vs st) (kf : x ≤ y → np_V p l e R s m args below meth c ce sl D cl A Q nL w (pc + 3) vs st) : np_V p l e R s m args below meth c ce sl D cl A Q nL w pc vs (.int (nI y) :: .int (nI x) :: st) := fun H locs ls hL hP hS => lv_icmp_gt C.1.1 C.1.2.1 hdg ht (fun h => kt ((nI_ltI hy hx).mp h) H locs ls hL hP hS) (fun h => kf (Nat.le_of_not_lt fun q => h ((nI_ltI hy hx).mpr q)) H locs ls hL hP hS)
theorem np_icmp_le (C : np_Cx p s m args meth c cc nL own ret TS D cl cI A S) {x y : Nat} {off : Int} {tgt : Nat} (hx : x < 2 ^ 31) (hy : y < 2 ^ 31) (hdg : decode cc pc = .ok (.if_icmp .le off, 3)) (ht : (pc : Int) + off = (tgt : Int)) (kt : x ≤ y → np_V p l e R s m args below meth c ce sl D cl A Q nL w tgt vs st) (kf : y < x → np_V p l e R s m args below meth c ce sl D cl A Q nL w (pc + 3) vs st) : np_V p l e R s m args below meth c ce sl D cl A Q nL w pc vs (.int (nI y) :: .int (nI x) :: st) := fun H locs ls hL hP hS => lv_icmp_le C.1.1 C.1.2.1 hdg ht (fun h => kt ((nI_leI hx hy).mp h) H locs ls hL hP hS) (fun h => kf (Nat.lt_of_not_le fun q => h ((nI_leI hx hy).mpr q)) H locs ls hL hP hS)
theorem np_icmp_eq (C : np_Cx p s m args meth c cc nL own ret TS D cl cI A S) {x y : Nat} {off : Int} {tgt : Nat} (hx : x < 4294967296) (hy : y < 4294967296) (hdg : decode cc pc = .ok (.if_icmp .eq off, 3)) (ht : (pc : Int) + off = (tgt : Int)) (kt : x = y → np_V p l e R s m args below meth c ce sl D cl A Q nL w tgt vs st) (kf : x ≠ y → np_V p l e R s m args below meth c ce sl D cl A Q nL w (pc + 3) vs st) : np_V p l e R s m args below meth c ce sl D cl A Q nL w pc vs (.int (nI y) :: .int (nI x) :: st) := fun H locs ls hL hP hS => lv_icmp_eq C.1.1 C.1.2.1 hdg ht (fun h => kt ((np_nIe hx hy).mp h) H locs ls hL hP hS) (fun h => kf (fun q => h ((np_nIe hx hy).mpr q)) H locs ls hL hP hS)
theorem np_icmp_ne (C : np_Cx p s m args meth c cc nL own ret TS D cl cI A S) {x y : Nat} {off : Int} {tgt : Nat} (hx : x < 4294967296) (hy : y < 4294967296) (hdg : decode cc pc = .ok (.if_icmp .ne off, 3)) (ht : (pc : Int) + off = (tgt : Int)) (kt : x ≠ y → np_V p l e R s m args below meth c ce sl D cl A Q nL w tgt vs st) (kf : x = y → np_V p l e R s m args below meth c ce sl D cl A Q nL w (pc + 3) vs st) : np_V p l e R s m args below meth c ce sl D cl A Q nL w pc vs (.int (nI y) :: .int (nI x) :: st) := fun H locs ls hL hP hS => lv_icmp_ne C.1.1 C.1.2.1 hdg ht (fun h => kt (fun q => h ((np_nIe hx hy).mpr q)) H locs ls hL hP hS) (fun h => kf ((np_nIe hx hy).mp h) H locs ls hL hP hS)
theorem np_e0 {x : Nat} (hx : x < 4294967296) : nI x = 0 ↔ x = 0 := by
  rw [← nI_0]; exact np_nIe hx (by decide)
theorem np_ge0 {x : Nat} (hx : x < 4294967296) : 0 ≤ nI x ↔ x < 2147483648 := by
  rw [← Int32.not_lt, np_neg hx]; omega
theorem np_gt0 {x : Nat} (hx : x < 4294967296) : 0 < nI x ↔ 0 < x ∧ x < 2147483648 := by
  rw [Int32.lt_iff_le_and_ne, np_ge0 hx]
  have := np_e0 hx
  constructor
  · rintro ⟨h1, h2⟩
    exact ⟨Nat.pos_of_ne_zero fun q => h2 (this.mpr q).symm, h1⟩
  · rintro ⟨h1, h2⟩
    exact ⟨h2, fun q => by have := this.mp q.symm; omega⟩
theorem np_if_eq (C : np_Cx p s m args meth c cc nL own ret TS D cl cI A S) {x : Nat} {off : Int} {tgt : Nat} (hx : x < 4294967296) (hdg : decode cc pc = .ok (.ifCond .eq off, 3)) (ht : (pc : Int) + off = (tgt : Int)) (kt : x = 0 → np_V p l e R s m args below meth c ce sl D cl A Q nL w tgt vs st) (kf : x ≠ 0 → np_V p l e R s m args below meth c ce sl D cl A Q nL w (pc + 3) vs st) : np_V p l e R s m args below meth c ce sl D cl A Q nL w pc vs (.int (nI x) :: st) := fun H locs ls hL hP hS => lv_if_eq C.1.1 C.1.2.1 hdg ht (fun h => kt ((np_e0 hx).mp h) H locs ls hL hP hS) (fun h => kf (fun q => h ((np_e0 hx).mpr q)) H locs ls hL hP hS)
theorem np_if_ne (C : np_Cx p s m args meth c cc nL own ret TS D cl cI A S) {x : Nat} {off : Int} {tgt : Nat} (hx : x < 4294967296) (hdg : decode cc pc = .ok (.ifCond .ne off, 3)) (ht : (pc : Int) + off = (tgt : Int)) (kt : x ≠ 0 → np_V p l e R s m args below meth c ce sl D cl A Q nL w tgt vs st) (kf : x = 0 → np_V p l e R s m args below meth c ce sl D cl A Q nL w (pc + 3) vs st) : np_V p l e R s m args below meth c ce sl D cl A Q nL w pc vs (.int (nI x) :: st) := fun H locs ls hL hP hS => lv_if_ne C.1.1 C.1.2.1 hdg ht (fun h => kt (fun q => h ((np_e0 hx).mpr q)) H locs ls hL hP hS) (fun h => kf ((np_e0 hx).mp h) H locs ls hL hP hS)
theorem np_if_lt (C : np_Cx p s m args meth c cc nL own ret TS D cl cI A S) {x : Nat} {off : Int} {tgt : Nat} (hx : x < 4294967296) (hdg : decode cc pc = .ok (.ifCond .lt off, 3)) (ht : (pc : Int) + off = (tgt : Int)) (kt : 2147483648 ≤ x → np_V p l e R s m args below meth c ce sl D cl A Q nL w tgt vs st) (kf : x < 2147483648 → np_V p l e R s m args below meth c ce sl D cl A Q nL w (pc + 3) vs st) : np_V p l e R s m args below meth c ce sl D cl A Q nL w pc vs (.int (nI x) :: st) := fun H locs ls hL hP hS => lv_if_lt C.1.1 C.1.2.1 hdg ht (fun h => kt ((np_neg hx).mp h) H locs ls hL hP hS) (fun h => kf (Nat.lt_of_not_le fun q => h ((np_neg hx).mpr q)) H locs ls hL hP hS)
theorem np_if_ge (C : np_Cx p s m args meth c cc nL own ret TS D cl cI A S) {x : Nat} {off : Int} {tgt : Nat} (hx : x < 4294967296) (hdg : decode cc pc = .ok (.ifCond .ge off, 3)) (ht : (pc : Int) + off = (tgt : Int)) (kt : x < 2147483648 → np_V p l e R s m args below meth c ce sl D cl A Q nL w tgt vs st) (kf : 2147483648 ≤ x → np_V p l e R s m args below meth c ce sl D cl A Q nL w (pc + 3) vs st) : np_V p l e R s m args below meth c ce sl D cl A Q nL w pc vs (.int (nI x) :: st) := fun H locs ls hL hP hS => lv_if_ge C.1.1 C.1.2.1 hdg ht (fun h => kt ((np_ge0 hx).mp h) H locs ls hL hP hS) (fun h => kf (Nat.le_of_not_lt fun q => h ((np_ge0 hx).mpr q)) H locs ls hL hP hS)
theorem np_if_gt (C : np_Cx p s m args meth c cc nL own ret TS D cl cI A S) {x : Nat} {off : Int} {tgt : Nat} (hx : x < 2147483648) (hdg : decode cc pc = .ok (.ifCond .gt off, 3)) (ht : (pc : Int) + off = (tgt : Int)) (kt : 0 < x → np_V p l e R s m args below meth c ce sl D cl A Q nL w tgt vs st) (kf : x = 0 → np_V p l e R s m args below meth c ce sl D cl A Q nL w (pc + 3) vs st) : np_V p l e R s m args below meth c ce sl D cl A Q nL w pc vs (.int (nI x) :: st) := fun H locs ls hL hP hS => lv_if_gt C.1.1 C.1.2.1 hdg ht (fun h => kt (((np_gt0 (by omega)).mp h).1) H locs ls hL hP hS) (fun h => kf (Nat.eq_zero_of_not_pos fun q => h ((np_gt0 (by omega)).mpr ⟨q, hx⟩)) H locs ls hL hP hS)
theorem np_if_le (C : np_Cx p s m args meth c cc nL own ret TS D cl cI A S) {x : Nat} {off : Int} {tgt : Nat} (hx : x < 2147483648) (hdg : decode cc pc = .ok (.ifCond .le off, 3)) (ht : (pc : Int) + off = (tgt : Int)) (kt : x = 0 → np_V p l e R s m args below meth c ce sl D cl A Q nL w tgt vs st) (kf : 0 < x → np_V p l e R s m args below meth c ce sl D cl A Q nL w (pc + 3) vs st) : np_V p l e R s m args below meth c ce sl D cl A Q nL w pc vs (.int (nI x) :: st) := fun H locs ls hL hP hS => lv_if_le C.1.1 C.1.2.1 hdg ht (fun h => kt (Nat.eq_zero_of_not_pos fun q => absurd ((np_gt0 (x := x) (by omega)).mpr ⟨q, hx⟩) (Int32.not_lt.mpr h)) H locs ls hL hP hS) (fun h => kf (Nat.pos_of_ne_zero fun q => h (by rw [q]; decide)) H locs ls hL hP hS)
theorem np_goto (C : np_Cx p s m args meth c cc nL own ret TS D cl cI A S) {off : Int} {tgt : Nat} (hdg : decode cc pc = .ok (.goto off, 3)) (ht : (pc : Int) + off = (tgt : Int)) (k : np_V p l e R s m args below meth c ce sl D cl A Q nL w tgt vs st) : np_V p l e R s m args below meth c ce sl D cl A Q nL w pc vs st := fun H locs ls hL hP hS => lv_goto C.1.1 C.1.2.1 hdg ht (k H locs ls hL hP hS)
theorem np_get (C : np_Cx p s m args meth c cc nL own ret TS D cl cI A S) {ref Cn : String} {T : u_T} {N ci index : Nat} (q0 k0 : Nat) {fs : List Value} {a : Nat} {v : Value} (hdg : decode cc pc = .ok (.getfield index, 3)) (he : w[q0]? = some (a, .inr (ci, fs))) (hv : fs[k0]? = some v) (hc : cl[ci]? = some (Cn, T, N)) (hk : k0 < N) (hin : ∀ x ∈ u_ws Cn T N, x ∈ TS) (hlink : Cond.fieldLink own index ref (T k0).2.1 (T k0).2.2.1 ∈ TS) (href : (T k0).1 = ref)
    (k : np_V p l e R s m args below meth c ce sl D cl A Q nL w (pc + 3) vs (v :: st)) : np_V p l e R s m args below meth c ce sl D cl A Q nL w pc vs (.ref a :: st) := fun H locs ls hL hP hS => va_get C.1.1 C.1.2.1 C.1.2.2.2.2 hin C.1.2.2.2.1 C.2.1 hP q0 he hc k0 hk (C.1.2.2.2.2 _ hlink) (fun x h => href ▸ h) hv hdg (k H locs ls hL hP hS)
theorem np_getN (C : np_Cx p s m args meth c cc nL own ret TS D cl cI A S) {ref Cn host : String} {T : u_T} {N ci index : Nat} (q0 k0 : Nat) {fs : List Value} {a : Nat} {v : Value} (hdg : decode cc pc = .ok (.getfield index, 3)) (he : w[q0]? = some (a, .inr (ci, fs))) (hv : fs[k0]? = some v) (hc : cl[ci]? = some (Cn, T, N)) (hk : k0 < N) (hin : ∀ x ∈ u_ws Cn T N, x ∈ TS) (hlink : va_Nw (.fieldLinkNest own index ref (T k0).2.1 (T k0).2.2.1 host) s) (href : (T k0).1 = ref)
    (k : np_V p l e R s m args below meth c ce sl D cl A Q nL w (pc + 3) vs (v :: st)) : np_V p l e R s m args below meth c ce sl D cl A Q nL w pc vs (.ref a :: st) := fun H locs ls hL hP hS => va_getN C.1.1 C.1.2.1 C.1.2.2.2.2 hin C.1.2.2.2.1 C.2.1 hP q0 he hc k0 hk (va_Nw.use rfl hlink) (fun x h => href ▸ h) hv hdg (k H locs ls hL hP hS)
theorem np_put (C : np_Cx p s m args meth c cc nL own ret TS D cl cI A S) {ref Cn : String} {T : u_T} {N ci index : Nat} (q0 k0 : Nat) {fs : List Value} {a : Nat} {w' : va_W} {x : Int32} (hD : va_D A w) (hdg : decode cc pc = .ok (.putfield index, 3)) (he : w[q0]? = some (a, .inr (ci, fs))) (hw : w.set q0 (a, .inr (ci, fs.set k0 (.int x))) = w') (hc : cl[ci]? = some (Cn, T, N)) (hk : k0 < N) (hin : ∀ x ∈ u_ws Cn T N, x ∈ TS) (ty0 : Nat → FieldType) (hty : ∀ k, k < N → parseFieldDescriptor (T k).2.2.1 = some (ty0 k)) (hnm : ∀ a, a < N → ∀ b, b < N → a ≠ b → (T a).2.1 ≠ (T b).2.1) (hlink : Cond.fieldLink own index ref (T k0).2.1 (T k0).2.2.1 ∈ TS) (href : (T k0).1 = ref) (hfin : (T k0).2.2.2 = false) (hd : parseFieldDescriptor (T k0).2.2.1 = some .int) (hl : k0 < fs.length)
    (k : np_V p l e R s m args below meth c ce sl D cl A Q nL w' (pc + 3) vs st) : np_V p l e R s m args below meth c ce sl D cl A Q nL w pc vs (.int x :: .ref a :: st) := fun H locs ls hL hP hS => va_put (ty := .int) C.1.1 C.1.2.1 C.1.2.2.2.2 hin ty0 hty hnm C.1.2.2.2.1 C.2.1 hP hD hS q0 he hc k0 hk (C.1.2.2.2.2 _ hlink) (fun x h => href ▸ h) hfin hd rfl rfl hl hdg (fun H1 locs1 hP1 _ hS1 => k H1 locs1 ls hL (hw ▸ hP1) hS1)
theorem np_iald (C : np_Cx p s m args meth c cc nL own ret TS D cl cI A S) (q0 : Nat) {n j a : Nat} {f : Nat → Nat} (hdg : decode cc pc = .ok (.iaload, 1)) (he : w[q0]? = some (a, .inl (cI, n, .inl (fun i => nI (f i))))) (hj : j < n) (hn : n < 2 ^ 31)
    (k : np_V p l e R s m args below meth c ce sl D cl A Q nL w (pc + 1) vs (.int (nI (f j)) :: st)) : np_V p l e R s m args below meth c ce sl D cl A Q nL w pc vs (.int (nI j) :: .ref a :: st) := fun H locs ls hL hP hS => va_iald C.1.1 C.1.2.1 C.2.1 hP q0 0 he rfl (vp_in_nI hj hn) hdg (by
      have e : (nI j).toNatClampNeg = j := nI_clamp (Nat.lt_trans hj hn)
      simp only [e]
      exact k H locs ls hL hP hS)
theorem np_iast (C : np_Cx p s m args meth c cc nL own ret TS D cl cI A S) (q0 : Nat) {n j a v : Nat} {f : Nat → Nat} {w' : va_W} (hD : va_D A w) (hdg : decode cc pc = .ok (.iastore, 1)) (he : w[q0]? = some (a, .inl (cI, n, .inl (fun i => nI (f i))))) (hw : w.set q0 (a, .inl (cI, n, .inl (fun i => nI (updN f j v i)))) = w') (hj : j < n) (hn : n < 2 ^ 31)
    (k : np_V p l e R s m args below meth c ce sl D cl A Q nL w' (pc + 1) vs st) : np_V p l e R s m args below meth c ce sl D cl A Q nL w pc vs (.int (nI v) :: .int (nI j) :: .ref a :: st) := fun H locs ls hL hP hS => va_iast C.1.1 C.1.2.1 C.2.1 hP hD hS q0 0 he rfl (vp_in_nI hj hn) hdg (fun H1 locs1 hP1 _ hS1 => k H1 locs1 ls hL (by
      have e : (nI j).toNatClampNeg = j := nI_clamp (Nat.lt_trans hj hn)
      rw [e, upd_nI, hw] at hP1
      exact hP1) hS1)
theorem np_alen (C : np_Cx p s m args meth c cc nL own ret TS D cl cI A S) (q0 : Nat) {n a : Nat} {f : Nat → Nat} (hdg : decode cc pc = .ok (.arraylength, 1)) (he : w[q0]? = some (a, .inl (cI, n, .inl (fun i => nI (f i)))))
    (k : np_V p l e R s m args below meth c ce sl D cl A Q nL w (pc + 1) vs (.int (nI n) :: st)) : np_V p l e R s m args below meth c ce sl D cl A Q nL w pc vs (.ref a :: st) := fun H locs ls hL hP hS => va_alen C.1.1 C.1.2.1 C.2.1 hP q0 0 he rfl rfl hdg (k H locs ls hL hP hS)
theorem np_gets (C : np_Cx p s m args meth c cc nL own ret TS D cl cI A S) {Cn n d ref : String} {index : Nat} {v : Value} (hZ : va_Z Cn n d v A s s.heap) (hlink : Cond.fieldLink own index ref n d ∈ TS) (href : Cn = ref) (hdg : decode cc pc = .ok (.getstatic index, 3))
    (k : np_V p l e R s m args below meth c ce sl D cl A Q nL w (pc + 3) vs (v :: st)) : np_V p l e R s m args below meth c ce sl D cl A Q nL w pc vs st := fun H locs ls hL hP hS => va_gets C.1.1 C.1.2.1 hZ hS C.1.2.2.2.1 (C.1.2.2.2.2 _ hlink) (fun x h => href ▸ h) hdg (k H locs ls hL hP hS)
theorem np_getsN (C : np_Cx p s m args meth c cc nL own ret TS D cl cI A S) {Cn n d ref host : String} {index : Nat} {v : Value} (hZ : va_Z Cn n d v A s s.heap) (hlink : va_Nw (.fieldLinkNest own index ref n d host) s) (href : Cn = ref) (hdg : decode cc pc = .ok (.getstatic index, 3))
    (k : np_V p l e R s m args below meth c ce sl D cl A Q nL w (pc + 3) vs (v :: st)) : np_V p l e R s m args below meth c ce sl D cl A Q nL w pc vs st := fun H locs ls hL hP hS => va_getsN C.1.1 C.1.2.1 hZ hS C.1.2.2.2.1 (va_Nw.use rfl hlink) (fun x h => href ▸ h) hdg (k H locs ls hL hP hS)
theorem np_tald (C : np_Cx p s m args meth c cc nL own ret TS D cl cI A S) {t N j : Nat} {f : Nat → Nat} (hT : va_T .int t N (fun i => .int (nI (f i))) A s s.heap) (hj : j < N) (hN : N < 2 ^ 31) (hdg : decode cc pc = .ok (.iaload, 1))
    (k : np_V p l e R s m args below meth c ce sl D cl A Q nL w (pc + 1) vs (.int (nI (f j)) :: st)) : np_V p l e R s m args below meth c ce sl D cl A Q nL w pc vs (.int (nI j) :: .ref t :: st) := fun H locs ls hL hP hS => va_ti C.1.1 C.1.2.1 hT hS (vp_in_nI hj hN) (v := .int (nI (f j))) (by
      have e : (nI j).toNatClampNeg = j := nI_clamp (Nat.lt_trans hj hN)
      simp only [e]) hdg (k H locs ls hL hP hS)
theorem np_tlen (C : np_Cx p s m args meth c cc nL own ret TS D cl cI A S) {t N : Nat} {f : Nat → Value} (hT : va_T .int t N f A s s.heap) (hdg : decode cc pc = .ok (.arraylength, 1))
    (k : np_V p l e R s m args below meth c ce sl D cl A Q nL w (pc + 1) vs (.int (nI N) :: st)) : np_V p l e R s m args below meth c ce sl D cl A Q nL w pc vs (.ref t :: st) := fun H locs ls hL hP hS => va_tlen C.1.1 C.1.2.1 hT hS rfl hdg (k H locs ls hL hP hS)
theorem np_iret (C : np_Cx p s m args meth c cc nL own (some .int) TS D cl cI A S) {x y : Nat} {w' : va_W} (hdg : decode cc pc = .ok (.ireturn, 1)) (hv : x = y) (hw : w = w') : np_V p l e R s m args below meth c 0 0 D cl A (MQ below (np_Qc D cl A (some (.int (nI y))) w') args s 0 0 A) nL w pc vs [.int (nI x)] := by
  subst hv; subst hw
  intro H locs ls hL hP hS
  have hlk := C.2.2.2.2.2
  exact W.iret C.1.1 C.1.2.1 C.2.2.2.2.1 (fun t ht hW => ⟨rfl, by rw [ht]; exact hP, hS.F ht⟩) hS.2.2 hdg hlk
theorem np_zret (C : np_Cx p s m args meth c cc nL own (some .boolean) TS D cl cI A S) {x y : Nat} {w' : va_W} (hdg : decode cc pc = .ok (.ireturn, 1)) (hb : x < 2) (hv : x = y) (hw : w = w') : np_V p l e R s m args below meth c 0 0 D cl A (MQ below (np_Qc D cl A (some (.int (nI y))) w') args s 0 0 A) nL w pc vs [.int (nI x)] := by
  subst hv; subst hw
  intro H locs ls hL hP hS
  have hlk := C.2.2.2.2.2
  have hn : narrow .boolean (.int (nI x)) = .int (nI x) := by
    rcases (show x = 0 ∨ x = 1 by omega) with rfl | rfl <;> rfl
  exact W.zret C.1.1 C.1.2.1 C.2.2.2.2.1 hn (fun t ht hW => ⟨rfl, by rw [ht]; exact hP, hS.F ht⟩) hS.2.2 hdg hlk
theorem np_vret (C : np_Cx p s m args meth c cc nL own none TS D cl cI A S) {w' : va_W} (hdg : decode cc pc = .ok (.return_, 1)) (hw : w = w') : np_V p l e R s m args below meth c 0 0 D cl A (MQ below (np_Qc D cl A none w') args s 0 0 A) nL w pc vs [] := by
  subst hw
  intro H locs ls hL hP hS
  have hlk := C.2.2.2.2.2
  exact W.vret C.1.1 C.1.2.1 C.2.2.2.2.1 (fun t ht hW => ⟨rfl, by rw [ht]; exact hP, hS.F ht⟩) hS.2.2 hdg hlk
/-- all words of TS may be handed on -/
def np_good (TS : List Cond) : Prop := ∀ x ∈ TS, (x.onTables && x.keeps) = true ∨ ∃ ty, x = .arrayClass ty
theorem np_GoodIn {TS : List Cond} (h : np_good TS) {x : Cond} (hx : x ∈ TS) : GoodIn TS (x :: TS) := by
  intro z hz
  rcases List.mem_cons.mp hz with rfl | hz
  · exact ⟨hx, h _ hx⟩
  · exact ⟨hz, h _ hz⟩
/-- behind a call -/
theorem np_back {rv : Option Value} {w' : va_W} {a : Array Value} {st0 rest : List Value} (hr : ∀ (H : Heap) (locs : List Loc) (ls : Array Slot), np_LV ls nL vs → va_P D cl w H → va_S A s.heap H locs → va_Run p l e R s m args below meth c H locs 0 0 0 0 (F0 m pc ls st0) rest (np_Qc D cl A rv w' a) A)
    (k : np_V p l e R s m args below meth c 0 0 D cl A Q nL w' (pc + 3) vs (rv.toList ++ rest)) : np_V p l e R s m args below meth c 0 0 D cl A Q nL w pc vs st0 := by
  intro H locs ls hL hP hS T hT X
  obtain ⟨v, st₀, t, T', L, h0, X', hLo, e1, e2, ⟨hv, hPt, hz, hk⟩, go⟩ := hr H locs ls hL hP hS T hT X
  cases hv
  rw [h0] at hz hk
  have hS' : va_S A s.heap T'.heap (locs ++ L) := ⟨Nat.le_trans hS.1 (by rw [e1]; exact hz), fun q h1 h2 => by rw [e1, hk q (Nat.lt_of_lt_of_le h1 hS.1) h2]; exact hS.2.1 q h1 h2, fun q hq => by
    rcases List.mem_append.mp hq with h | h
    · exact hS.2.2 q h
    · exact hLo q h⟩
  obtain ⟨t2, a1, b1⟩ := k T'.heap (locs ++ L) ls hL (by rw [e1]; exact hPt) hS' T' rfl X'
  exact ⟨t2, go t2 a1, b1⟩
theorem np_preS (C : np_Cx p s m args meth c cc nL own ret TS D cl cI A S) {av : List Value} {H : Heap} {locs : List Loc} (hP : va_P D cl w H) (hS : va_S A s.heap H locs) : PreS s H (np_Pc D cl cI S w av) av := by
  refine ⟨fun a U g mk q => ?_, fun U hU hW => ?_⟩
  · obtain ⟨q0, q1, q2, q3⟩ := q
    exact ⟨q0, q1, va_K.moved (u := U) (U := U.calling g mk a) (Vm.Alike.refl U.vm) q2, C.2.2.2.1.1 U g mk a q3⟩
  · exact ⟨rfl, by rw [hU]; exact hP, va_K.moved hW.alike C.2.1, C.2.2.2.1.2 s U C.2.2.1 hW (fun q h1 h2 => by rw [hU]; exact hS.2.1 q h1 h2)⟩
theorem np_cb (C : np_Cx p s m args meth c cc nL own ret TS D cl cI A S) {index : Nat} {y : MethodName} {b : ByteArray} {mL n : Nat} {k k' : Nat × Nat} {rt : Option FieldType} (hg : np_good TS) (hc : Cond.code y b mL rt ∈ TS) (hl : Cond.methodLink own index y ∈ TS) (hini : Cond.initialized y.cls ∈ TS) (hd : y.cls ≠ "java/lang/invoke/MethodHandle" ∧ y.cls ≠ "java/lang/invoke/VarHandle" ∧ (parseMethodDescriptor y.desc).map (fun d => d.parameters.length) = some n) (hk : k'.1 + 1 ≤ k.1 ∧ 8 + (mL + 11) + k'.2 ≤ k.2) : CallB (np_rm k) s args own index y b mL rt (.code y b mL rt :: TS) (np_rm k') 0 0 n :=
  callB_of n C.1.2.2.2.2 (np_GoodIn hg hc) rfl rfl rfl (C.1.2.2.2.2 _ hini) (C.1.2.2.2.2 _ hl) hd hk
theorem np_cbN (C : np_Cx p s m args meth c cc nL own ret TS D cl cI A S) {index : Nat} {y : MethodName} {host : String} {b : ByteArray} {mL n : Nat} {k k' : Nat × Nat} {rt : Option FieldType} (hg : np_good TS) (hc : Cond.code y b mL rt ∈ TS) (hl : va_Nw (.methodLinkNest own index y host) s) (hini : Cond.initialized y.cls ∈ TS) (hd : y.cls ≠ "java/lang/invoke/MethodHandle" ∧ y.cls ≠ "java/lang/invoke/VarHandle" ∧ (parseMethodDescriptor y.desc).map (fun d => d.parameters.length) = some n) (hk : k'.1 + 1 ≤ k.1 ∧ 8 + (mL + 11) + k'.2 ≤ k.2) : va_CN (np_rm k) s args own index y host b mL rt (.code y b mL rt :: TS) (np_rm k') 0 0 n :=
  va_cnB n C.1.2.2.2.2 (np_GoodIn hg hc) rfl rfl rfl hl (C.1.2.2.2.2 _ hini) hd hk
theorem np_cS (C : np_Cx p s m args meth c cc nL own ret TS D cl cI A S) {index : Nat} {y : MethodName} {b : ByteArray} {mL n : Nat} {k k' : Nat × Nat} {rt : Option FieldType} {rv : Option Value} {w' : va_W} {rest : List Value} {av : List Value} (hM : np_Ct l D cl cI A S TS k' y b mL rt av w rv w') (hg : np_good TS) (hdg : decode cc pc = .ok (.invokestatic index, 3)) (hc : Cond.code y b mL rt ∈ TS) (hl : Cond.methodLink own index y ∈ TS) (hini : Cond.initialized y.cls ∈ TS) (hst : Cond.static y ∈ TS) (hd : y.cls ≠ "java/lang/invoke/MethodHandle" ∧ y.cls ≠ "java/lang/invoke/VarHandle" ∧ (parseMethodDescriptor y.desc).map (fun d => d.parameters.length) = some n) (hk : k'.1 + 1 ≤ k.1 ∧ 8 + (mL + 11) + k'.2 ≤ k.2) (hn : av.length = n) (hstk : st = av.reverse ++ rest) (hroom : (rest.map fun v => v.category).sum ≤ 8)
    (kk : np_V p l e (np_rm k) s m args below meth c 0 0 D cl A Q nL w' (pc + 3) vs (rv.toList ++ rest)) : np_V p l e (np_rm k) s m args below meth c 0 0 D cl A Q nL w pc vs st := by
  subst hstk
  refine np_back (a := av.toArray) (rest := rest) (fun H locs ls hL hP hS => ?_) kk
  exact va_runS C.1 hM ⟨np_cb C hg hc hl hini hd hk, C.1.2.2.2.2 _ hst⟩ (np_preS C hP hS) rfl hn hL.1 rfl (lv_room hroom) hdg ⟨Nat.le_refl _, Nat.le_refl _⟩
theorem np_cSN (C : np_Cx p s m args meth c cc nL own ret TS D cl cI A S) {index : Nat} {y : MethodName} {b : ByteArray} {mL n : Nat} {k k' : Nat × Nat} {rt : Option FieldType} {rv : Option Value} {w' : va_W} {rest : List Value} {host : String} {av : List Value} (hM : np_Ct l D cl cI A S TS k' y b mL rt av w rv w') (hg : np_good TS) (hdg : decode cc pc = .ok (.invokestatic index, 3)) (hc : Cond.code y b mL rt ∈ TS) (hl : va_Nw (.methodLinkNest own index y host) s) (hini : Cond.initialized y.cls ∈ TS) (hst : Cond.static y ∈ TS) (hd : y.cls ≠ "java/lang/invoke/MethodHandle" ∧ y.cls ≠ "java/lang/invoke/VarHandle" ∧ (parseMethodDescriptor y.desc).map (fun d => d.parameters.length) = some n) (hk : k'.1 + 1 ≤ k.1 ∧ 8 + (mL + 11) + k'.2 ≤ k.2) (hn : av.length = n) (hstk : st = av.reverse ++ rest) (hroom : (rest.map fun v => v.category).sum ≤ 8)
    (kk : np_V p l e (np_rm k) s m args below meth c 0 0 D cl A Q nL w' (pc + 3) vs (rv.toList ++ rest)) : np_V p l e (np_rm k) s m args below meth c 0 0 D cl A Q nL w pc vs st := by
  subst hstk
  refine np_back (a := av.toArray) (rest := rest) (fun H locs ls hL hP hS => ?_) kk
  exact va_runSN C.1 hM ⟨np_cbN C hg hc hl hini hd hk, C.1.2.2.2.2 _ hst, trivial⟩ (np_preS C hP hS) rfl hn hL.1 rfl (lv_room hroom) hdg ⟨Nat.le_refl _, Nat.le_refl _⟩
theorem np_cV (C : np_Cx p s m args meth c cc nL own ret TS D cl cI A S) {index : Nat} {y : MethodName} {b : ByteArray} {mL n : Nat} {k k' : Nat × Nat} {rt : Option FieldType} {rv : Option Value} {w' : va_W} {rest : List Value} {Cn : String} {T : u_T} {N ci a : Nat} {fs : List Value} {As : List Value} (q0 : Nat) (hM : np_Ct l D cl cI A S TS k' y b mL rt (.ref a :: As) w rv w') (hg : np_good TS) (hdg : decode cc pc = .ok (.invokevirtual index, 3)) (he : w[q0]? = some (a, .inr (ci, fs))) (hcl : cl[ci]? = some (Cn, T, N)) (hc : Cond.code y b mL rt ∈ TS) (hl : Cond.methodLink own index y ∈ TS) (hini : Cond.initialized y.cls ∈ TS) (hins : Cond.instanceMethod y ∈ TS) (hsel : Cond.selects Cn y y ∈ TS) (hd : y.cls ≠ "java/lang/invoke/MethodHandle" ∧ y.cls ≠ "java/lang/invoke/VarHandle" ∧ (parseMethodDescriptor y.desc).map (fun d => d.parameters.length) = some n) (hk : k'.1 + 1 ≤ k.1 ∧ 8 + (mL + 11) + k'.2 ≤ k.2) (hn : As.length = n) (hstk : st = As.reverse ++ .ref a :: rest) (hroom : (rest.map fun v => v.category).sum ≤ 8)
    (kk : np_V p l e (np_rm k) s m args below meth c 0 0 D cl A Q nL w' (pc + 3) vs (rv.toList ++ rest)) : np_V p l e (np_rm k) s m args below meth c 0 0 D cl A Q nL w pc vs st := by
  subst hstk
  refine np_back (a := (Value.ref a :: As).toArray) (rest := rest) (fun H locs ls hL hP hS => ?_) kk
  have hp := np_preS C (av := .ref a :: As) hP hS
  exact va_runV C.1 hM ⟨np_cb C hg hc hl hini hd hk, C.1.2.2.2.2 _ hins, C.1.2.2.2.2 _ hsel⟩ ⟨hp.1, va_recv C.2.1 hP hcl he, hp.2⟩ rfl hn hL.1 rfl (lv_room hroom) hdg ⟨Nat.le_refl _, Nat.le_refl _⟩
theorem np_cVN (C : np_Cx p s m args meth c cc nL own ret TS D cl cI A S) {index : Nat} {y : MethodName} {b : ByteArray} {mL n : Nat} {k k' : Nat × Nat} {rt : Option FieldType} {rv : Option Value} {w' : va_W} {rest : List Value} {Cn host : String} {T : u_T} {N ci a : Nat} {fs : List Value} {As : List Value} (q0 : Nat) (hM : np_Ct l D cl cI A S TS k' y b mL rt (.ref a :: As) w rv w') (hg : np_good TS) (hdg : decode cc pc = .ok (.invokevirtual index, 3)) (he : w[q0]? = some (a, .inr (ci, fs))) (hcl : cl[ci]? = some (Cn, T, N)) (hc : Cond.code y b mL rt ∈ TS) (hl : va_Nw (.methodLinkNest own index y host) s) (hini : Cond.initialized y.cls ∈ TS) (hins : Cond.instanceMethod y ∈ TS) (hsel : Cond.selects Cn y y ∈ TS) (hd : y.cls ≠ "java/lang/invoke/MethodHandle" ∧ y.cls ≠ "java/lang/invoke/VarHandle" ∧ (parseMethodDescriptor y.desc).map (fun d => d.parameters.length) = some n) (hk : k'.1 + 1 ≤ k.1 ∧ 8 + (mL + 11) + k'.2 ≤ k.2) (hn : As.length = n) (hstk : st = As.reverse ++ .ref a :: rest) (hroom : (rest.map fun v => v.category).sum ≤ 8)
    (kk : np_V p l e (np_rm k) s m args below meth c 0 0 D cl A Q nL w' (pc + 3) vs (rv.toList ++ rest)) : np_V p l e (np_rm k) s m args below meth c 0 0 D cl A Q nL w pc vs st := by
  subst hstk
  refine np_back (a := (Value.ref a :: As).toArray) (rest := rest) (fun H locs ls hL hP hS => ?_) kk
  have hp := np_preS C (av := .ref a :: As) hP hS
  exact va_runVN C.1 hM ⟨np_cbN C hg hc hl hini hd hk, C.1.2.2.2.2 _ hins, C.1.2.2.2.2 _ hsel⟩ ⟨hp.1, va_recv C.2.1 hP hcl he, hp.2⟩ rfl hn hL.1 rfl (lv_room hroom) hdg ⟨Nat.le_refl _, Nat.le_refl _⟩
theorem np_cSi (C : np_Cx p s m args meth c cc nL own ret TS D cl cI A S) {index : Nat} {y : MethodName} {b : ByteArray} {mL n : Nat} {k k' : Nat × Nat} {rt : Option FieldType} {w' : va_W} {rest : List Value} {r : Int32} {av : List Value} (hM : np_Ct l D cl cI A S TS k' y b mL rt av w (some (.int r)) w') (hg : np_good TS) (hdg : decode cc pc = .ok (.invokestatic index, 3)) (hc : Cond.code y b mL rt ∈ TS) (hl : Cond.methodLink own index y ∈ TS) (hini : Cond.initialized y.cls ∈ TS) (hst : Cond.static y ∈ TS) (hd : y.cls ≠ "java/lang/invoke/MethodHandle" ∧ y.cls ≠ "java/lang/invoke/VarHandle" ∧ (parseMethodDescriptor y.desc).map (fun d => d.parameters.length) = some n) (hk : k'.1 + 1 ≤ k.1 ∧ 8 + (mL + 11) + k'.2 ≤ k.2) (hn : av.length = n) (hstk : st = av.reverse ++ rest) (hroom : (rest.map fun v => v.category).sum ≤ 8) (kk : np_V p l e (np_rm k) s m args below meth c 0 0 D cl A Q nL w' (pc + 3) vs (.int r :: rest)) : np_V p l e (np_rm k) s m args below meth c 0 0 D cl A Q nL w pc vs st := np_cS C hM hg hdg hc hl hini hst hd hk hn hstk hroom kk
theorem np_cSv (C : np_Cx p s m args meth c cc nL own ret TS D cl cI A S) {index : Nat} {y : MethodName} {b : ByteArray} {mL n : Nat} {k k' : Nat × Nat} {rt : Option FieldType} {w' : va_W} {rest : List Value} {av : List Value} (hM : np_Ct l D cl cI A S TS k' y b mL rt av w none w') (hg : np_good TS) (hdg : decode cc pc = .ok (.invokestatic index, 3)) (hc : Cond.code y b mL rt ∈ TS) (hl : Cond.methodLink own index y ∈ TS) (hini : Cond.initialized y.cls ∈ TS) (hst : Cond.static y ∈ TS) (hd : y.cls ≠ "java/lang/invoke/MethodHandle" ∧ y.cls ≠ "java/lang/invoke/VarHandle" ∧ (parseMethodDescriptor y.desc).map (fun d => d.parameters.length) = some n) (hk : k'.1 + 1 ≤ k.1 ∧ 8 + (mL + 11) + k'.2 ≤ k.2) (hn : av.length = n) (hstk : st = av.reverse ++ rest) (hroom : (rest.map fun v => v.category).sum ≤ 8) (kk : np_V p l e (np_rm k) s m args below meth c 0 0 D cl A Q nL w' (pc + 3) vs rest) : np_V p l e (np_rm k) s m args below meth c 0 0 D cl A Q nL w pc vs st := np_cS C hM hg hdg hc hl hini hst hd hk hn hstk hroom kk
theorem np_cSNi (C : np_Cx p s m args meth c cc nL own ret TS D cl cI A S) {index : Nat} {y : MethodName} {b : ByteArray} {mL n : Nat} {k k' : Nat × Nat} {rt : Option FieldType} {w' : va_W} {rest : List Value} {r : Int32} {host : String} {av : List Value} (hM : np_Ct l D cl cI A S TS k' y b mL rt av w (some (.int r)) w') (hg : np_good TS) (hdg : decode cc pc = .ok (.invokestatic index, 3)) (hc : Cond.code y b mL rt ∈ TS) (hl : va_Nw (.methodLinkNest own index y host) s) (hini : Cond.initialized y.cls ∈ TS) (hst : Cond.static y ∈ TS) (hd : y.cls ≠ "java/lang/invoke/MethodHandle" ∧ y.cls ≠ "java/lang/invoke/VarHandle" ∧ (parseMethodDescriptor y.desc).map (fun d => d.parameters.length) = some n) (hk : k'.1 + 1 ≤ k.1 ∧ 8 + (mL + 11) + k'.2 ≤ k.2) (hn : av.length = n) (hstk : st = av.reverse ++ rest) (hroom : (rest.map fun v => v.category).sum ≤ 8) (kk : np_V p l e (np_rm k) s m args below meth c 0 0 D cl A Q nL w' (pc + 3) vs (.int r :: rest)) : np_V p l e (np_rm k) s m args below meth c 0 0 D cl A Q nL w pc vs st := np_cSN C hM hg hdg hc hl hini hst hd hk hn hstk hroom kk
theorem np_cSNv (C : np_Cx p s m args meth c cc nL own ret TS D cl cI A S) {index : Nat} {y : MethodName} {b : ByteArray} {mL n : Nat} {k k' : Nat × Nat} {rt : Option FieldType} {w' : va_W} {rest : List Value} {host : String} {av : List Value} (hM : np_Ct l D cl cI A S TS k' y b mL rt av w none w') (hg : np_good TS) (hdg : decode cc pc = .ok (.invokestatic index, 3)) (hc : Cond.code y b mL rt ∈ TS) (hl : va_Nw (.methodLinkNest own index y host) s) (hini : Cond.initialized y.cls ∈ TS) (hst : Cond.static y ∈ TS) (hd : y.cls ≠ "java/lang/invoke/MethodHandle" ∧ y.cls ≠ "java/lang/invoke/VarHandle" ∧ (parseMethodDescriptor y.desc).map (fun d => d.parameters.length) = some n) (hk : k'.1 + 1 ≤ k.1 ∧ 8 + (mL + 11) + k'.2 ≤ k.2) (hn : av.length = n) (hstk : st = av.reverse ++ rest) (hroom : (rest.map fun v => v.category).sum ≤ 8) (kk : np_V p l e (np_rm k) s m args below meth c 0 0 D cl A Q nL w' (pc + 3) vs rest) : np_V p l e (np_rm k) s m args below meth c 0 0 D cl A Q nL w pc vs st := np_cSN C hM hg hdg hc hl hini hst hd hk hn hstk hroom kk
theorem np_cVi (C : np_Cx p s m args meth c cc nL own ret TS D cl cI A S) {index : Nat} {y : MethodName} {b : ByteArray} {mL n : Nat} {k k' : Nat × Nat} {rt : Option FieldType} {w' : va_W} {rest : List Value} {r : Int32} {Cn : String} {T : u_T} {N ci a : Nat} {fs : List Value} {As : List Value} (q0 : Nat) (hM : np_Ct l D cl cI A S TS k' y b mL rt (.ref a :: As) w (some (.int r)) w') (hg : np_good TS) (hdg : decode cc pc = .ok (.invokevirtual index, 3)) (he : w[q0]? = some (a, .inr (ci, fs))) (hcl : cl[ci]? = some (Cn, T, N)) (hc : Cond.code y b mL rt ∈ TS) (hl : Cond.methodLink own index y ∈ TS) (hini : Cond.initialized y.cls ∈ TS) (hins : Cond.instanceMethod y ∈ TS) (hsel : Cond.selects Cn y y ∈ TS) (hd : y.cls ≠ "java/lang/invoke/MethodHandle" ∧ y.cls ≠ "java/lang/invoke/VarHandle" ∧ (parseMethodDescriptor y.desc).map (fun d => d.parameters.length) = some n) (hk : k'.1 + 1 ≤ k.1 ∧ 8 + (mL + 11) + k'.2 ≤ k.2) (hn : As.length = n) (hstk : st = As.reverse ++ .ref a :: rest) (hroom : (rest.map fun v => v.category).sum ≤ 8) (kk : np_V p l e (np_rm k) s m args below meth c 0 0 D cl A Q nL w' (pc + 3) vs (.int r :: rest)) : np_V p l e (np_rm k) s m args below meth c 0 0 D cl A Q nL w pc vs st := np_cV C q0 hM hg hdg he hcl hc hl hini hins hsel hd hk hn hstk hroom kk
theorem np_cVv (C : np_Cx p s m args meth c cc nL own ret TS D cl cI A S) {index : Nat} {y : MethodName} {b : ByteArray} {mL n : Nat} {k k' : Nat × Nat} {rt : Option FieldType} {w' : va_W} {rest : List Value} {Cn : String} {T : u_T} {N ci a : Nat} {fs : List Value} {As : List Value} (q0 : Nat) (hM : np_Ct l D cl cI A S TS k' y b mL rt (.ref a :: As) w none w') (hg : np_good TS) (hdg : decode cc pc = .ok (.invokevirtual index, 3)) (he : w[q0]? = some (a, .inr (ci, fs))) (hcl : cl[ci]? = some (Cn, T, N)) (hc : Cond.code y b mL rt ∈ TS) (hl : Cond.methodLink own index y ∈ TS) (hini : Cond.initialized y.cls ∈ TS) (hins : Cond.instanceMethod y ∈ TS) (hsel : Cond.selects Cn y y ∈ TS) (hd : y.cls ≠ "java/lang/invoke/MethodHandle" ∧ y.cls ≠ "java/lang/invoke/VarHandle" ∧ (parseMethodDescriptor y.desc).map (fun d => d.parameters.length) = some n) (hk : k'.1 + 1 ≤ k.1 ∧ 8 + (mL + 11) + k'.2 ≤ k.2) (hn : As.length = n) (hstk : st = As.reverse ++ .ref a :: rest) (hroom : (rest.map fun v => v.category).sum ≤ 8) (kk : np_V p l e (np_rm k) s m args below meth c 0 0 D cl A Q nL w' (pc + 3) vs rest) : np_V p l e (np_rm k) s m args below meth c 0 0 D cl A Q nL w pc vs st := np_cV C q0 hM hg hdg he hcl hc hl hini hins hsel hd hk hn hstk hroom kk
theorem np_cVNi (C : np_Cx p s m args meth c cc nL own ret TS D cl cI A S) {index : Nat} {y : MethodName} {b : ByteArray} {mL n : Nat} {k k' : Nat × Nat} {rt : Option FieldType} {w' : va_W} {rest : List Value} {r : Int32} {Cn host : String} {T : u_T} {N ci a : Nat} {fs : List Value} {As : List Value} (q0 : Nat) (hM : np_Ct l D cl cI A S TS k' y b mL rt (.ref a :: As) w (some (.int r)) w') (hg : np_good TS) (hdg : decode cc pc = .ok (.invokevirtual index, 3)) (he : w[q0]? = some (a, .inr (ci, fs))) (hcl : cl[ci]? = some (Cn, T, N)) (hc : Cond.code y b mL rt ∈ TS) (hl : va_Nw (.methodLinkNest own index y host) s) (hini : Cond.initialized y.cls ∈ TS) (hins : Cond.instanceMethod y ∈ TS) (hsel : Cond.selects Cn y y ∈ TS) (hd : y.cls ≠ "java/lang/invoke/MethodHandle" ∧ y.cls ≠ "java/lang/invoke/VarHandle" ∧ (parseMethodDescriptor y.desc).map (fun d => d.parameters.length) = some n) (hk : k'.1 + 1 ≤ k.1 ∧ 8 + (mL + 11) + k'.2 ≤ k.2) (hn : As.length = n) (hstk : st = As.reverse ++ .ref a :: rest) (hroom : (rest.map fun v => v.category).sum ≤ 8) (kk : np_V p l e (np_rm k) s m args below meth c 0 0 D cl A Q nL w' (pc + 3) vs (.int r :: rest)) : np_V p l e (np_rm k) s m args below meth c 0 0 D cl A Q nL w pc vs st := np_cVN C q0 hM hg hdg he hcl hc hl hini hins hsel hd hk hn hstk hroom kk
theorem np_cVNv (C : np_Cx p s m args meth c cc nL own ret TS D cl cI A S) {index : Nat} {y : MethodName} {b : ByteArray} {mL n : Nat} {k k' : Nat × Nat} {rt : Option FieldType} {w' : va_W} {rest : List Value} {Cn host : String} {T : u_T} {N ci a : Nat} {fs : List Value} {As : List Value} (q0 : Nat) (hM : np_Ct l D cl cI A S TS k' y b mL rt (.ref a :: As) w none w') (hg : np_good TS) (hdg : decode cc pc = .ok (.invokevirtual index, 3)) (he : w[q0]? = some (a, .inr (ci, fs))) (hcl : cl[ci]? = some (Cn, T, N)) (hc : Cond.code y b mL rt ∈ TS) (hl : va_Nw (.methodLinkNest own index y host) s) (hini : Cond.initialized y.cls ∈ TS) (hins : Cond.instanceMethod y ∈ TS) (hsel : Cond.selects Cn y y ∈ TS) (hd : y.cls ≠ "java/lang/invoke/MethodHandle" ∧ y.cls ≠ "java/lang/invoke/VarHandle" ∧ (parseMethodDescriptor y.desc).map (fun d => d.parameters.length) = some n) (hk : k'.1 + 1 ≤ k.1 ∧ 8 + (mL + 11) + k'.2 ≤ k.2) (hn : As.length = n) (hstk : st = As.reverse ++ .ref a :: rest) (hroom : (rest.map fun v => v.category).sum ≤ 8) (kk : np_V p l e (np_rm k) s m args below meth c 0 0 D cl A Q nL w' (pc + 3) vs rest) : np_V p l e (np_rm k) s m args below meth c 0 0 D cl A Q nL w pc vs st := np_cVN C q0 hM hg hdg he hcl hc hl hini hins hsel hd hk hn hstk hroom kk
theorem np_iastG (C : np_Cx p s m args meth c cc nL own ret TS D cl cI A S) (g : (Nat → Nat → Nat) → va_W) (X : Nat → Nat → Nat) (q0 q : Nat) {n j a v : Nat} (hD : va_D A (g X)) (hdg : decode cc pc = .ok (.iastore, 1)) (he : (g X)[q0]? = some (a, .inl (cI, n, .inl (fun i => nI (X q i))))) (hw : ∀ f : Nat → Nat, (g X).set q0 (a, .inl (cI, n, .inl (fun i => nI (f i)))) = g (va_up X q f)) (hj : j < n) (hn : n < 2 ^ 31)
    (k : np_V p l e R s m args below meth c ce sl D cl A Q nL (g (va_up X q (updN (X q) j v))) (pc + 1) vs st) : np_V p l e R s m args below meth c ce sl D cl A Q nL (g X) pc vs (.int (nI v) :: .int (nI j) :: .ref a :: st) := np_iast C q0 hD hdg he (hw _) hj hn k
theorem np_putG (C : np_Cx p s m args meth c cc nL own ret TS D cl cI A S) (g : (Nat → Nat → Nat) → va_W) (X : Nat → Nat → Nat) (q0 k0 i0 : Nat) {ref Cn : String} {T : u_T} {N ci index a v : Nat} {fs : List Value} (hD : va_D A (g X)) (hdg : decode cc pc = .ok (.putfield index, 3)) (he : (g X)[q0]? = some (a, .inr (ci, fs))) (hw : ∀ z : Nat, (g X).set q0 (a, .inr (ci, fs.set k0 (.int (nI z)))) = g (va_up X 0 (updN (X 0) i0 z))) (hc : cl[ci]? = some (Cn, T, N)) (hk : k0 < N) (hin : ∀ x ∈ u_ws Cn T N, x ∈ TS) (ty0 : Nat → FieldType) (hty : ∀ k, k < N → parseFieldDescriptor (T k).2.2.1 = some (ty0 k)) (hnm : ∀ a, a < N → ∀ b, b < N → a ≠ b → (T a).2.1 ≠ (T b).2.1) (hlink : Cond.fieldLink own index ref (T k0).2.1 (T k0).2.2.1 ∈ TS) (href : (T k0).1 = ref) (hfin : (T k0).2.2.2 = false) (hd : parseFieldDescriptor (T k0).2.2.1 = some .int) (hl : k0 < fs.length)
    (k : np_V p l e R s m args below meth c ce sl D cl A Q nL (g (va_up X 0 (updN (X 0) i0 v))) (pc + 3) vs st) : np_V p l e R s m args below meth c ce sl D cl A Q nL (g X) pc vs (.int (nI v) :: .ref a :: st) := np_put C q0 k0 hD hdg he (hw v) hc hk hin ty0 hty hnm hlink href hfin hd hl k
end NPR
end
section
/-! THE NUMBERS: what class and reference both compute -/
def np_sm (a b : Nat) : Nat := (a + b) % 65537
def np_df (a b : Nat) : Nat := (a + 65537 - b) % 65537
def np_pr (a b : Nat) : Nat := a * b % 65537
def np_cu (t : Nat) : Nat := np_pr (np_pr t t) t
def np_sa (i : Nat) : Nat := if i = 0 then 11 else if i = 1 then 222 else if i = 2 then 3333 else 44444
def np_hr (a b : Nat) : Nat → Nat
  | 0 => a
  | i + 1 => np_cu (np_sm (np_sm (np_hr a b i) b) (np_sa i))
def np_hh (a b : Nat) : Nat := np_sm (np_sm (np_hr a b 4) a) b
theorem np_sm_lt (a b : Nat) : np_sm a b < 65537 := Nat.mod_lt _ (by decide)
theorem np_df_lt (a b : Nat) : np_df a b < 65537 := Nat.mod_lt _ (by decide)
theorem np_pr_lt (a b : Nat) : np_pr a b < 65537 := Nat.mod_lt _ (by decide)
theorem np_cu_lt (a : Nat) : np_cu a < 65537 := np_pr_lt _ _
theorem np_hh_lt (a b : Nat) : np_hh a b < 65537 := np_sm_lt _ _
theorem np_sa_lt (i : Nat) : np_sa i < 65537 := by
  unfold np_sa
  split
  · decide
  · split
    · decide
    · split <;> decide
theorem np_hr_lt {a b : Nat} (ha : a < 65537) : ∀ i, np_hr a b i < 65537
  | 0 => ha
  | _ + 1 => np_cu_lt _
theorem np_mul_lt {a b : Nat} (ha : a < 65537) (hb : b < 65537) : a * b < 4295098369 + 1 := by
  have h := Nat.mul_le_mul (Nat.le_of_lt_succ ha) (Nat.le_of_lt_succ hb)
  omega
theorem np_sm3 (a b c : Nat) : (a + b + c) % 65537 = np_sm (np_sm a b) c := by
  unfold np_sm
  rw [Nat.mod_add_mod]
/-- a number that is its own square is 0 or 1: by trying all -/
def np_try : Nat → Nat → Bool
  | 0, x => (x * x % 65537 != x) || Nat.blt x 2
  | d + 1, x => np_try d x && np_try d (x + 2 ^ d)
theorem np_try_all : np_try 16 0 = true := by decide +kernel
theorem np_try_spec : ∀ (d x y : Nat), np_try d x = true → x ≤ y → y < x + 2 ^ d → y * y % 65537 = y → y < 2
  | 0, x, y, h, h1, h2, hy => by
    have e : y = x := by omega
    subst e
    simp only [np_try, Bool.or_eq_true, bne_iff_ne, ne_eq] at h
    rcases h with h | h
    · exact (h hy).elim
    · exact Nat.blt_eq.mp h
  | d + 1, x, y, h, h1, h2, hy => by
    simp only [np_try, Bool.and_eq_true] at h
    rw [Nat.pow_succ] at h2
    by_cases hc : y < x + 2 ^ d
    · exact np_try_spec d x y h.1 h1 hc hy
    · exact np_try_spec d (x + 2 ^ d) y h.2 (by omega) (by omega) hy
theorem np_sq {x : Nat} (hx : x < 65537) : x = np_pr x x ↔ x = 0 ∨ x = 1 := by
  constructor
  · intro h
    by_cases h6 : x = 65536
    · subst h6
      revert h
      decide
    · have := np_try_spec 16 0 x np_try_all (Nat.zero_le _) (by omega) h.symm
      omega
  · rintro (h | h) <;> subst h <;> decide
/-! the vector: the class's words for it -/
def np_fi (b : Nat) : Nat := [5, 43, 52, 19, 20, 21, 22, 5, 8, 115].getD b 0
def np_se (b : Nat) : Nat := [4294967295, 6, 7, 23, 24, 25, 26, 61, 9, 10].getD b 0
def np_res (f : Nat → Nat) (b : Nat) : Nat := f (35 + b * 9 + 9 - 1)
def np_inA (f : Nat → Nat) (b : Nat) : Nat := f (np_fi b)
def np_inB (f : Nat → Nat) (b : Nat) : Nat := if b = 0 then 0 else f (np_se b)
def np_bef (f : Nat → Nat) (b t : Nat) : Nat := if t = 0 then np_inA f b else f (35 + b * 9 + 2 * t - 1)
def np_bas (f : Nat → Nat) (b t : Nat) : Nat := np_sm (np_sm (np_bef f b t) (np_inB f b)) (np_sa t)
def np_blk (f : Nat → Nat) (b z : Nat) : Nat := if z = 8 then np_sm (np_sm (f (35 + b * 9 + z - 1)) (np_inA f b)) (np_inB f b) else np_pr (if z % 2 = 0 then np_bas f b (z / 2) else f (35 + b * 9 + z - 1)) (np_bas f b (z / 2))
def np_lft (f : Nat → Nat) (v : Nat) : Nat := np_sm (np_res f (2 + v)) (np_pr (f (15 + v)) (np_df (f (11 + v)) (np_res f (2 + v))))
def np_rgt (f : Nat → Nat) (v : Nat) : Nat := np_df (np_sm (np_res f (2 + v)) (f (11 + v))) (f (19 + v))
def np_sbt (f : Nat → Nat) : Nat → Nat
  | 0 => 0
  | k + 1 => np_sm (np_sbt f k) (np_pr (1 * 2 ^ k) (f (27 + k)))
def np_due (f : Nat → Nat) (x : Nat) : Nat :=
  if 35 ≤ x then np_blk f ((x - 35) / 9) ((x - 35) % 9) else
  if 27 ≤ x then np_pr (f x) (f x) else
  if 23 ≤ x then np_rgt f (x - 23) else
  if 19 ≤ x then np_lft f (x - 19) else
  if 15 ≤ x then np_pr (f x) (f x) else
  if x = 9 then np_sbt f 8 else
  if x = 6 then np_sm (f 9) (f 4) else
  if x = 1 then np_res f 6 else
  if x = 2 then np_res f 7 else
  if x = 3 then np_res f 9 else f x
def np_col (v z : Nat) : Nat := if z = 0 then 19 + v else if z = 1 then 23 + v else 35 + (3 + v) * 9 + z - 2
def np_cel (c : Nat) : Nat :=
  if c < 4 then 15 + c else
  if c < 12 then 27 + c - 4 else
  if c = 12 then 9 else
  if c = 13 then 6 else
  if c < 41 then 35 + c - 14 else
  if c < 85 then np_col ((c - 41) / 11) ((c - 41) % 11) else
  if c < 112 then 98 + c - 85 else 1 + c - 112
/-- the first fault from condition c on, n conditions left -/
def np_flt (f : Nat → Nat) : Nat → Nat → Nat
  | _, 0 => 4294967295
  | c, n + 1 => if f (np_cel c) = np_due f (np_cel c) then np_flt f (c + 1) n else c
def np_cpl : (Nat → Nat) → Nat → Nat → (Nat → Nat)
  | f, _, 0 => f
  | f, c, n + 1 => np_cpl (updN f (np_cel c) (np_due f (np_cel c))) (c + 1) n
theorem np_cel_lt {c : Nat} (h : c < 115) : np_cel c < 125 := by
  unfold np_cel np_col
  repeat' split
  all_goals omega
def np_ok (f : Nat → Nat) : Prop := ∀ j, f j < 65537
theorem np_ok_upd {f : Nat → Nat} (h : np_ok f) {k x : Nat} (hx : x < 65537) : np_ok (updN f k x) := by
  intro j
  unfold updN
  split
  · exact hx
  · exact h j
theorem np_blk_lt {f : Nat → Nat} (b z : Nat) : np_blk f b z < 65537 := by
  unfold np_blk
  split
  · exact np_sm_lt _ _
  · exact np_pr_lt _ _
theorem np_sbt_lt (f : Nat → Nat) : ∀ k, np_sbt f k < 65537
  | 0 => by decide
  | _ + 1 => np_sm_lt _ _
theorem np_due_lt {f : Nat → Nat} (h : np_ok f) (x : Nat) : np_due f x < 65537 := by
  unfold np_due
  split
  · exact np_blk_lt _ _
  split
  · exact np_pr_lt _ _
  split
  · exact np_df_lt _ _
  split
  · exact np_sm_lt _ _
  split
  · exact np_pr_lt _ _
  split
  · exact np_sbt_lt _ _
  split
  · exact np_sm_lt _ _
  split
  · exact h _
  split
  · exact h _
  split
  · exact h _
  · exact h _
theorem np_ok_cpl : ∀ (n c : Nat) (f : Nat → Nat), np_ok f → np_ok (np_cpl f c n)
  | 0, _, _, h => h
  | n + 1, c, _, h => np_ok_cpl n (c + 1) _ (np_ok_upd h (np_due_lt h _))
/-! the tree -/
def np_tr (g : Nat → Nat) : Nat → Nat → Nat
  | 0, j => g j
  | v + 1, j => np_hh (np_tr g v (2 * j)) (np_tr g v (2 * j + 1))
def np_lf (key val non : Nat → Nat) (k : Nat) : Nat := np_hh (np_hh (key k) (val k)) (non k)
def np_lv (key val non : Nat → Nat) (n k : Nat) : Nat := if k < n then np_lf key val non k else 0
def np_key (k : Nat) : Nat := np_hh (100 + k) 0
def np_own (key : Nat) : Nat := if np_key 0 = key then 0 else if np_key 1 = key then 1 else if np_key 2 = key then 2 else if np_key 3 = key then 3 else 4294967295
end
section
/-! the tree under one more leaf -/
theorem np_tr_upd (g : Nat → Nat) (n x : Nat) : ∀ (v j : Nat), n / 2 ^ v ≠ j → np_tr (updN g n x) v j = np_tr g v j
  | 0, j, h => by
    simp only [Nat.pow_zero, Nat.div_one] at h
    exact updN_ne g x (Ne.symm h)
  | v + 1, j, h => by
    have e : n / 2 ^ (v + 1) = n / 2 ^ v / 2 := by rw [Nat.pow_succ, Nat.div_div_eq_div_mul]
    rw [e] at h
    simp only [np_tr]
    rw [np_tr_upd g n x v (2 * j) (by omega), np_tr_upd g n x v (2 * j + 1) (by omega)]
theorem np_tr_congr {g g' : Nat → Nat} (hg : ∀ i, i < 16 → g i = g' i) : ∀ (v j : Nat), (j + 1) * 2 ^ v ≤ 16 → np_tr g v j = np_tr g' v j
  | 0, j, h => hg j (by simp at h; omega)
  | v + 1, j, h => by
    rw [Nat.pow_succ] at h
    simp only [np_tr]
    rw [np_tr_congr hg v (2 * j) (by
      have : (2 * j + 1) * 2 ^ v ≤ (j + 1) * (2 ^ v * 2) := by
        rw [show (j + 1) * (2 ^ v * 2) = (2 * j + 2) * 2 ^ v by rw [Nat.mul_comm (2 ^ v) 2, ← Nat.mul_assoc]; congr 1; omega]
        exact Nat.mul_le_mul_right _ (by omega)
      omega), np_tr_congr hg v (2 * j + 1) (by
      have : (2 * j + 1 + 1) * 2 ^ v = (j + 1) * (2 ^ v * 2) := by
        rw [Nat.mul_comm (2 ^ v) 2, ← Nat.mul_assoc]; congr 1; omega
      omega)]
theorem np_tr_lt {g : Nat → Nat} (hg : ∀ i, g i < 65537) : ∀ (v j : Nat), np_tr g v j < 65537
  | 0, j => hg j
  | _ + 1, _ => np_hh_lt _ _
def np_hu (nd : Nat → Nat) (i : Nat) : Nat → Nat := updN nd i (np_hh (nd (2 * i)) (nd (2 * i + 1)))
def np_ups (nd : Nat → Nat) (p : Nat) : Nat → Nat → Nat
  | 0 => nd
  | v + 1 => np_hu (np_ups nd p v) ((16 + p) / 2 ^ (v + 1))
/-- the nodes hold the tree over the leaves g -/
def np_NI (nd g : Nat → Nat) : Prop := (∀ j, j < 16 → nd (16 + j) = np_tr g 0 j) ∧ (∀ j, j < 8 → nd (8 + j) = np_tr g 1 j) ∧ (∀ j, j < 4 → nd (4 + j) = np_tr g 2 j) ∧ (∀ j, j < 2 → nd (2 + j) = np_tr g 3 j) ∧ nd 1 = np_tr g 4 0
theorem np_hu_ne {nd : Nat → Nat} {i j : Nat} (h : j ≠ i) : np_hu nd i j = nd j := updN_ne _ _ h
theorem np_hu_at {nd : Nat → Nat} {i : Nat} : np_hu nd i i = np_hh (nd (2 * i)) (nd (2 * i + 1)) := updN_same _ _ _
theorem np_NI_add {nd g : Nat → Nat} {p x : Nat} (h : np_NI nd g) (hp : p < 16) : np_NI (np_ups (updN nd (16 + p) x) p 4) (updN g p x) := by
  obtain ⟨h0, h1, h2, h3, h4⟩ := h
  -- level 0
  have a0 : ∀ j, j < 16 → updN nd (16 + p) x (16 + j) = np_tr (updN g p x) 0 j := by
    intro j hj
    show _ = updN g p x j
    by_cases e : j = p
    · subst e; rw [updN_same, updN_same]
    · rw [updN_ne _ _ (by omega), updN_ne _ _ e]; exact h0 j hj
  have b0 : ∀ k, k < 16 → updN nd (16 + p) x k = nd k := fun k hk => updN_ne _ _ (by omega)
  generalize updN nd (16 + p) x = n0 at a0 b0 ⊢
  have s1 : (16 + p) / 2 ^ (0 + 1) = 8 + p / 2 := by simp; omega
  have s2 : (16 + p) / 2 ^ (1 + 1) = 4 + p / 4 := by simp; omega
  have s3 : (16 + p) / 2 ^ (2 + 1) = 2 + p / 8 := by simp; omega
  have s4 : (16 + p) / 2 ^ (3 + 1) = 1 := by simp; omega
  simp only [np_ups, s1, s2, s3, s4]
  -- level 1
  have a1 : ∀ j, j < 8 → np_hu n0 (8 + p / 2) (8 + j) = np_tr (updN g p x) 1 j := by
    intro j hj
    by_cases e : j = p / 2
    · subst e
      rw [np_hu_at, show 2 * (8 + p / 2) = 16 + 2 * (p / 2) by omega, show 16 + 2 * (p / 2) + 1 = 16 + (2 * (p / 2) + 1) by omega, a0 _ (by omega), a0 _ (by omega)]
      rfl
    · rw [np_hu_ne (by omega), b0 _ (by omega), h1 j hj, np_tr_upd g p x 1 j (by simp; omega)]
  have c1 : ∀ j, j < 16 → np_hu n0 (8 + p / 2) (16 + j) = np_tr (updN g p x) 0 j := fun j hj => by rw [np_hu_ne (by omega)]; exact a0 j hj
  have b1 : ∀ k, k < 8 → np_hu n0 (8 + p / 2) k = nd k := fun k hk => by rw [np_hu_ne (by omega)]; exact b0 k (by omega)
  generalize np_hu n0 (8 + p / 2) = n1 at a1 b1 c1 ⊢
  have a2 : ∀ j, j < 4 → np_hu n1 (4 + p / 4) (4 + j) = np_tr (updN g p x) 2 j := by
    intro j hj
    by_cases e : j = p / 4
    · subst e
      rw [np_hu_at, show 2 * (4 + p / 4) = 8 + 2 * (p / 4) by omega, show 8 + 2 * (p / 4) + 1 = 8 + (2 * (p / 4) + 1) by omega, a1 _ (by omega), a1 _ (by omega)]
      rfl
    · rw [np_hu_ne (by omega), b1 _ (by omega), h2 j hj, np_tr_upd g p x 2 j (by simp; omega)]
  have d1 : ∀ j, j < 8 → np_hu n1 (4 + p / 4) (8 + j) = np_tr (updN g p x) 1 j := fun j hj => by rw [np_hu_ne (by omega)]; exact a1 j hj
  have c2 : ∀ j, j < 16 → np_hu n1 (4 + p / 4) (16 + j) = np_tr (updN g p x) 0 j := fun j hj => by rw [np_hu_ne (by omega)]; exact c1 j hj
  have b2 : ∀ k, k < 4 → np_hu n1 (4 + p / 4) k = nd k := fun k hk => by rw [np_hu_ne (by omega)]; exact b1 k (by omega)
  generalize np_hu n1 (4 + p / 4) = n2 at a2 b2 c2 d1 ⊢
  have a3 : ∀ j, j < 2 → np_hu n2 (2 + p / 8) (2 + j) = np_tr (updN g p x) 3 j := by
    intro j hj
    by_cases e : j = p / 8
    · subst e
      rw [np_hu_at, show 2 * (2 + p / 8) = 4 + 2 * (p / 8) by omega, show 4 + 2 * (p / 8) + 1 = 4 + (2 * (p / 8) + 1) by omega, a2 _ (by omega), a2 _ (by omega)]
      rfl
    · rw [np_hu_ne (by omega), b2 _ (by omega), h3 j hj, np_tr_upd g p x 3 j (by simp; omega)]
  have e2 : ∀ j, j < 4 → np_hu n2 (2 + p / 8) (4 + j) = np_tr (updN g p x) 2 j := fun j hj => by rw [np_hu_ne (by omega)]; exact a2 j hj
  have d2 : ∀ j, j < 8 → np_hu n2 (2 + p / 8) (8 + j) = np_tr (updN g p x) 1 j := fun j hj => by rw [np_hu_ne (by omega)]; exact d1 j hj
  have c3 : ∀ j, j < 16 → np_hu n2 (2 + p / 8) (16 + j) = np_tr (updN g p x) 0 j := fun j hj => by rw [np_hu_ne (by omega)]; exact c2 j hj
  generalize np_hu n2 (2 + p / 8) = n3 at a3 e2 d2 c3 ⊢
  refine ⟨fun j hj => ?_, fun j hj => ?_, fun j hj => ?_, fun j hj => ?_, ?_⟩
  · rw [np_hu_ne (by omega)]; exact c3 j hj
  · rw [np_hu_ne (by omega)]; exact d2 j hj
  · rw [np_hu_ne (by omega)]; exact e2 j hj
  · rw [np_hu_ne (by omega)]; exact a3 j hj
  · rw [np_hu_at]
    have q0 := a3 0 (by omega)
    have q1 := a3 1 (by omega)
    show np_hh (n3 2) (n3 3) = _
    rw [show n3 2 = _ from q0, show n3 3 = _ from q1]
    rfl
/-! the marks -/
def np_cn (f : Nat → Nat) (x : Nat) : Nat → Nat
  | 0 => 0
  | k + 1 => np_cn f x k + if f k < x then 1 else 0
def np_hs (f : Nat → Nat) (x : Nat) : Nat → Bool
  | 0 => false
  | k + 1 => np_hs f x k || f k == x
theorem np_hs_iff (f : Nat → Nat) (x : Nat) : ∀ k, np_hs f x k = true ↔ ∃ i, i < k ∧ f i = x
  | 0 => by simp [np_hs]
  | k + 1 => by
    simp only [np_hs, Bool.or_eq_true, beq_iff_eq, np_hs_iff f x k]
    constructor
    · rintro (⟨i, h1, h2⟩ | h)
      · exact ⟨i, by omega, h2⟩
      · exact ⟨k, by omega, h⟩
    · rintro ⟨i, h1, h2⟩
      by_cases e : i = k
      · subst e; exact Or.inr h2
      · exact Or.inl ⟨i, by omega, h2⟩
theorem np_cn_le (f : Nat → Nat) (x : Nat) : ∀ k, np_cn f x k ≤ np_cn f (x + 1) k
  | 0 => Nat.le_refl _
  | k + 1 => by
    have := np_cn_le f x k
    simp only [np_cn]
    split <;> split <;> omega
theorem np_hs_cn (f : Nat → Nat) (x : Nat) : ∀ k, np_hs f x k = true ↔ np_cn f x k < np_cn f (x + 1) k
  | 0 => by simp [np_hs, np_cn]
  | k + 1 => by
    have h1 := np_hs_cn f x k
    have h2 := np_cn_le f x k
    simp only [np_hs, np_cn, Bool.or_eq_true, beq_iff_eq, h1]
    constructor
    · rintro (h | h)
      · split <;> split <;> omega
      · rw [if_neg (by omega), if_pos (by omega)]; omega
    · intro h
      by_cases e : f k = x
      · exact Or.inr e
      · left
        split at h <;> split at h <;> omega
theorem np_hs_eq {f g : Nat → Nat} {k : Nat} (h : ∀ x, np_cn f x k = np_cn g x k) (x : Nat) : np_hs f x k = np_hs g x k := by
  have h1 := np_hs_cn f x k
  have h2 := np_hs_cn g x k
  rw [h x, h (x + 1), ← h2] at h1
  cases e1 : np_hs f x k <;> cases e2 : np_hs g x k <;> simp_all
theorem np_cn_congr {f g : Nat → Nat} (x : Nat) : ∀ k, (∀ i, i < k → f i = g i) → np_cn f x k = np_cn g x k
  | 0, _ => rfl
  | k + 1, h => by
    simp only [np_cn]
    rw [np_cn_congr x k (fun i hi => h i (by omega)), h k (by omega)]
def np_ins (m : Nat) : (Nat → Nat) → Nat → (Nat → Nat)
  | f, 0 => updN f 0 m
  | f, g + 1 => if m < f g then np_ins m (updN f (g + 1) (f g)) g else updN f (g + 1) m
theorem np_ins_hi (m : Nat) : ∀ (g : Nat) (f : Nat → Nat) (i : Nat), g < i → np_ins m f g i = f i
  | 0, f, i, h => updN_ne _ _ (by omega)
  | g + 1, f, i, h => by
    simp only [np_ins]
    split
    · rw [np_ins_hi m g _ i (by omega), updN_ne _ _ (by omega)]
    · exact updN_ne _ _ (by omega)
theorem np_ins_cn (m x : Nat) : ∀ (g : Nat) (f : Nat → Nat), np_cn (np_ins m f g) x (g + 1) = np_cn f x g + if m < x then 1 else 0
  | 0, f => by simp [np_ins, np_cn, updN]
  | g + 1, f => by
    rw [np_cn]
    simp only [np_ins]
    split
    · rw [np_ins_cn m x g, np_ins_hi m g _ (g + 1) (by omega), updN_same, np_cn_congr (g := f) x g (fun i hi => updN_ne _ _ (by omega))]
      simp only [np_cn]
      omega
    · rw [updN_same, np_cn_congr (g := f) x (g + 1) (fun i hi => updN_ne _ _ (by omega))]
def np_up (f : Nat → Nat) (k : Nat) : Prop := ∀ i j, i < j → j < k → f i < f j
theorem np_ins_lt (m B : Nat) (hm : m < B) : ∀ (g : Nat) (f : Nat → Nat), (∀ i, i < g → f i < B) → ∀ i, i < g + 1 → np_ins m f g i < B
  | 0, f, _, i, hi => by
    have e : i = 0 := by omega
    subst e
    simp only [np_ins, updN_same]; exact hm
  | g + 1, f, h, i, hi => by
    simp only [np_ins]
    split
    · by_cases e : i = g + 1
      · subst e
        rw [np_ins_hi m g _ _ (by omega), updN_same]
        exact h g (by omega)
      · exact np_ins_lt m B hm g _ (fun j hj => by rw [updN_ne _ _ (by omega)]; exact h j (by omega)) i (by omega)
    · by_cases e : i = g + 1
      · subst e; rw [updN_same]; exact hm
      · rw [updN_ne _ _ e]; exact h i (by omega)
theorem np_ins_up (m : Nat) : ∀ (g : Nat) (f : Nat → Nat), np_up f g → (∀ i, i < g → f i ≠ m) → np_up (np_ins m f g) (g + 1)
  | 0, f, _, _ => fun i j h1 h2 => by omega
  | g + 1, f, hu, hn => by
    simp only [np_ins]
    split
    · rename_i hlt
      have hu' : np_up (updN f (g + 1) (f g)) g := fun i j h1 h2 => by
        rw [updN_ne _ _ (by omega), updN_ne _ _ (by omega)]
        exact hu i j h1 (by omega)
      have hn' : ∀ i, i < g → updN f (g + 1) (f g) i ≠ m := fun i hi => by
        rw [updN_ne _ _ (by omega)]; exact hn i (by omega)
      have ih := np_ins_up m g _ hu' hn'
      have hb := np_ins_lt m (f g) hlt g (updN f (g + 1) (f g)) (fun i hi => by
        rw [updN_ne _ _ (by omega)]; exact hu i g hi (by omega))
      intro i j h1 h2
      by_cases e : j = g + 1
      · subst e
        rw [np_ins_hi m g _ (g + 1) (by omega), updN_same]
        exact hb i (by omega)
      · exact ih i j h1 (by omega)
    · rename_i hge
      intro i j h1 h2
      by_cases e : j = g + 1
      · subst e
        rw [updN_same, updN_ne _ _ (by omega)]
        have h3 : f g ≠ m := hn g (by omega)
        by_cases e2 : i = g
        · subst e2; omega
        · have := hu i g (by omega) (by omega); omega
      · rw [updN_ne _ _ e, updN_ne _ _ (by omega)]
        exact hu i j h1 (by omega)
theorem np_cn_up {f : Nat → Nat} {n : Nat} (hu : np_up f n) {i : Nat} (hi : i < n) : ∀ k, k ≤ n → np_cn f (f i) k = if k ≤ i then k else i
  | 0, _ => by simp [np_cn]
  | k + 1, hk => by
    simp only [np_cn]
    rw [np_cn_up hu hi k (by omega)]
    by_cases h1 : k < i
    · rw [if_pos (by omega), if_pos (hu k i h1 hi), if_pos (by omega)]
    · by_cases h2 : k = i
      · subst h2; rw [if_pos (by omega), if_neg (by omega), if_neg (by omega)]
      · have h3 : f i < f k := hu i k (by omega) (by omega)
        rw [if_neg (by omega), if_neg (by omega), if_neg (by omega)]
/-- the mark of rank k, as the reference finds it: the first of the marks under which there are k -/
def np_mk (f : Nat → Nat) (n k : Nat) : Nat → Nat → Nat
  | _, 0 => 4294967295
  | m, r + 1 => if np_cn f (f m) n = k then f m else np_mk f n k (m + 1) r
theorem np_mk_eq {f g : Nat → Nat} {n : Nat} (hc : ∀ x, np_cn f x n = np_cn g x n) (hu : np_up g n) (k : Nat) : ∀ (r m : Nat), m + r = n → (∀ i, i < m → np_cn f (f i) n ≠ k) → np_mk f n k m r = if k < n then g k else 4294967295
  | 0, m, hm, hno => by
    simp only [np_mk]
    rw [if_neg]
    intro hk
    have h1 : np_hs g (g k) n = true := (np_hs_iff g (g k) n).mpr ⟨k, hk, rfl⟩
    rw [← np_hs_eq hc] at h1
    obtain ⟨i, hi, e⟩ := (np_hs_iff f (g k) n).mp h1
    refine hno i (by omega) ?_
    rw [e, hc, np_cn_up hu hk n (Nat.le_refl _), if_neg (by omega)]
  | r + 1, m, hm, hno => by
    simp only [np_mk]
    have h1 : np_hs f (f m) n = true := (np_hs_iff f (f m) n).mpr ⟨m, by omega, rfl⟩
    rw [np_hs_eq hc] at h1
    obtain ⟨i, hi, e⟩ := (np_hs_iff g (f m) n).mp h1
    have h2 : np_cn f (f m) n = i := by
      rw [hc, ← e, np_cn_up hu hi n (Nat.le_refl _), if_neg (by omega)]
    by_cases h3 : np_cn f (f m) n = k
    · rw [if_pos h3, if_pos (by omega), ← e]
      rw [← h3, h2]
    · rw [if_neg h3]
      refine np_mk_eq hc hu k r (m + 1) (by omega) (fun j hj => ?_)
      by_cases e2 : j = m
      · subst e2; exact h3
      · exact hno j (by omega)
end
section
/-! the vector that load makes: the class completes it in one sweep, the reference level by level -/
theorem updN_comm (f : Nat → Nat) {i j : Nat} (x y : Nat) (h : i ≠ j) : updN (updN f i x) j y = updN (updN f j y) i x := by
  funext k
  unfold updN
  by_cases h1 : k = i
  · subst h1; simp [h]
  · by_cases h2 : k = j
    · subst h2; simp [h1]
    · simp [h1, h2]
theorem np_cpl_add : ∀ (n m c : Nat) (f : Nat → Nat), np_cpl f c (n + m) = np_cpl (np_cpl f c n) (c + n) m
  | 0, m, c, f => by rw [Nat.zero_add]; rfl
  | n + 1, m, c, f => by
    rw [show n + 1 + m = (n + m) + 1 by omega]
    simp only [np_cpl]
    rw [np_cpl_add n m (c + 1) _, show c + 1 + n = c + (n + 1) by omega]
/-- the nine cells of block b, from the z-th on, n of them -/
def np_fil : (Nat → Nat) → Nat → Nat → Nat → (Nat → Nat)
  | f, _, _, 0 => f
  | f, b, z, n + 1 => np_fil (updN f (35 + 9 * b + z) (np_blk f b z)) b (z + 1) n
theorem np_due_blk (f : Nat → Nat) {b z x : Nat} (hx : x = 35 + 9 * b + z) (hz : z < 9) : np_due f x = np_blk f b z := by
  subst hx
  unfold np_due
  rw [if_pos (by omega), show 35 + 9 * b + z - 35 = 9 * b + z by omega, show (9 * b + z) / 9 = b by omega, show (9 * b + z) % 9 = z by omega]
theorem np_fil_cpl {b c0 : Nat} (hc : ∀ z, z < 9 → np_cel (c0 + z) = 35 + 9 * b + z) : ∀ (n z : Nat) (f : Nat → Nat), z + n ≤ 9 → np_fil f b z n = np_cpl f (c0 + z) n
  | 0, _, _, _ => rfl
  | n + 1, z, f, h => by
    simp only [np_fil, np_cpl]
    rw [np_fil_cpl hc n (z + 1) _ (by omega), hc z (by omega), np_due_blk f rfl (by omega)]
    rfl
theorem np_cel_a {b z : Nat} (hb : b < 3) (hz : z < 9) : np_cel (14 + 9 * b + z) = 35 + 9 * b + z := by
  unfold np_cel
  rw [if_neg (by omega), if_neg (by omega), if_neg (by omega), if_neg (by omega), if_pos (by omega)]
  omega
theorem np_cel_b {v z : Nat} (hv : v < 4) (hz : z < 9) : np_cel (43 + 11 * v + z) = 35 + 9 * (3 + v) + z := by
  unfold np_cel
  rw [if_neg (by omega), if_neg (by omega), if_neg (by omega), if_neg (by omega), if_neg (by omega), if_pos (by omega), show (43 + 11 * v + z - 41) / 11 = v by omega, show (43 + 11 * v + z - 41) % 11 = z + 2 by omega]
  unfold np_col
  rw [if_neg (by omega), if_neg (by omega)]
  omega
theorem np_cel_l {v : Nat} (hv : v < 4) : np_cel (41 + 11 * v) = 19 + v := by
  unfold np_cel
  rw [if_neg (by omega), if_neg (by omega), if_neg (by omega), if_neg (by omega), if_neg (by omega), if_pos (by omega), show (41 + 11 * v - 41) / 11 = v by omega, show (41 + 11 * v - 41) % 11 = 0 by omega]
  rfl
theorem np_cel_r {v : Nat} (hv : v < 4) : np_cel (42 + 11 * v) = 23 + v := by
  unfold np_cel
  rw [if_neg (by omega), if_neg (by omega), if_neg (by omega), if_neg (by omega), if_neg (by omega), if_pos (by omega), show (42 + 11 * v - 41) / 11 = v by omega, show (42 + 11 * v - 41) % 11 = 1 by omega]
  rfl
theorem np_cel_c {b z : Nat} (hb : b < 3) (hz : z < 9) : np_cel (85 + 9 * b + z) = 35 + 9 * (7 + b) + z := by
  unfold np_cel
  rw [if_neg (by omega), if_neg (by omega), if_neg (by omega), if_neg (by omega), if_neg (by omega), if_neg (by omega), if_pos (by omega)]
  omega
theorem np_due_l (f : Nat → Nat) {v : Nat} (hv : v < 4) : np_due f (19 + v) = np_lft f v := by
  unfold np_due
  rw [if_neg (by omega), if_neg (by omega), if_neg (by omega), if_pos (by omega), show 19 + v - 19 = v by omega]
theorem np_due_r (f : Nat → Nat) {v : Nat} (hv : v < 4) : np_due f (23 + v) = np_rgt f v := by
  unfold np_due
  rw [if_neg (by omega), if_neg (by omega), if_pos (by omega), show 23 + v - 23 = v by omega]
/-- one level of the reference: left, right, block -/
theorem np_lev (f : Nat → Nat) {v : Nat} (hv : v < 4) : np_cpl f (41 + 11 * v) 11 = np_fil (updN (updN f (19 + v) (np_lft f v)) (23 + v) (np_rgt (updN f (19 + v) (np_lft f v)) v)) (3 + v) 0 9 := by
  rw [np_fil_cpl (c0 := 43 + 11 * v) (fun z hz => np_cel_b hv hz) 9 0 _ (by omega)]
  show np_cpl f (41 + 11 * v) (9 + 1 + 1) = _
  simp only [np_cpl]
  rw [np_cel_l hv, np_due_l f hv, show 41 + 11 * v + 1 = 42 + 11 * v by omega, np_cel_r hv, np_due_r _ hv, show 42 + 11 * v + 1 = 43 + 11 * v + 0 by omega]
theorem np_fi_out {b i : Nat} (h1 : 11 ≤ i) (h2 : i < 19) : np_fi b ≠ i := by
  unfold np_fi
  match b with
  | 0 | 1 | 2 | 3 | 4 | 5 | 6 | 7 | 8 | 9 => simp; omega
  | n + 10 => simp; omega
theorem np_se_out {b i : Nat} (h1 : 11 ≤ i) (h2 : i < 19) : np_se b ≠ i := by
  unfold np_se
  match b with
  | 0 | 1 | 2 | 3 | 4 | 5 | 6 | 7 | 8 | 9 => simp; omega
  | n + 10 => simp; omega
theorem np_blk_out (f : Nat → Nat) {b z i : Nat} (x : Nat) (h1 : 11 ≤ i) (h2 : i < 19) : np_blk (updN f i x) b z = np_blk f b z := by
  have r : ∀ k, 19 ≤ k → updN f i x k = f k := fun k hk => updN_ne _ _ (by omega)
  have ea : np_inA (updN f i x) b = np_inA f b := updN_ne _ _ (np_fi_out h1 h2)
  have eb : np_inB (updN f i x) b = np_inB f b := by
    unfold np_inB
    split
    · rfl
    · exact updN_ne _ _ (np_se_out h1 h2)
  have ef : ∀ t, np_bef (updN f i x) b t = np_bef f b t := by
    intro t
    unfold np_bef
    rw [ea, r _ (by omega)]
  unfold np_blk np_bas
  rw [ea, eb, ef, r _ (by omega)]
theorem np_out_due (f : Nat → Nat) {y i : Nat} (x : Nat) (h1 : 11 ≤ i) (h2 : i < 19) (hy : 35 ≤ y ∨ (19 ≤ y ∧ y < 27 ∧ i ≠ 11 + (y - 19) % 4 ∧ i ≠ 15 + (y - 19) % 4)) : np_due (updN f i x) y = np_due f y := by
  have r : ∀ k, 19 ≤ k → updN f i x k = f k := fun k hk => updN_ne _ _ (by omega)
  unfold np_due
  by_cases c1 : 35 ≤ y
  · rw [if_pos c1, if_pos c1, np_blk_out f x h1 h2]
  · rw [if_neg c1, if_neg c1, if_neg (by omega), if_neg (by omega)]
    have hy2 : 19 ≤ y ∧ y < 27 ∧ i ≠ 11 + (y - 19) % 4 ∧ i ≠ 15 + (y - 19) % 4 := by
      rcases hy with h | h
      · exact (c1 h).elim
      · exact h
    by_cases c2 : 23 ≤ y
    · rw [if_pos c2, if_pos c2]
      unfold np_rgt np_res
      rw [r _ (by omega), updN_ne f x (show 11 + (y - 23) ≠ i by omega), r _ (by omega)]
    · rw [if_neg c2, if_neg c2, if_pos (by omega), if_pos (by omega)]
      unfold np_lft np_res
      rw [r _ (by omega), updN_ne f x (show 11 + (y - 19) ≠ i by omega), updN_ne f x (show 15 + (y - 19) ≠ i by omega)]
/-- a sibling or a turn may be put in before or behind a stretch of conditions that doesn't look at it -/
theorem np_out {i : Nat} (x : Nat) (h1 : 11 ≤ i) (h2 : i < 19) : ∀ (n c : Nat) (f : Nat → Nat), (∀ d, c ≤ d → d < c + n → 35 ≤ np_cel d ∨ (19 ≤ np_cel d ∧ np_cel d < 27 ∧ i ≠ 11 + (np_cel d - 19) % 4 ∧ i ≠ 15 + (np_cel d - 19) % 4)) → np_cpl (updN f i x) c n = updN (np_cpl f c n) i x
  | 0, _, _, _ => rfl
  | n + 1, c, f, h => by
    simp only [np_cpl]
    have h3 := h c (Nat.le_refl _) (by omega)
    rw [np_out_due f x h1 h2 h3, updN_comm f x _ (show i ≠ np_cel c by omega), np_out x h1 h2 n (c + 1) _ (fun d hd1 hd2 => h d (by omega) (by omega))]
theorem np_seg_a {d : Nat} (h1 : 14 ≤ d) (h2 : d < 41) : 35 ≤ np_cel d := by
  unfold np_cel
  rw [if_neg (by omega), if_neg (by omega), if_neg (by omega), if_neg (by omega), if_pos (by omega)]
  omega
theorem np_seg_v {d v : Nat} (hv : v < 4) (h1 : 41 + 11 * v ≤ d) (h2 : d < 41 + 11 * v + 11) : 35 ≤ np_cel d ∨ np_cel d = 19 + v ∨ np_cel d = 23 + v := by
  by_cases a : d = 41 + 11 * v
  · right; left; rw [a]; exact np_cel_l hv
  · by_cases b : d = 42 + 11 * v
    · right; right; rw [b]; exact np_cel_r hv
    · left
      have e : d = 43 + 11 * v + (d - (43 + 11 * v)) := by omega
      rw [e, np_cel_b hv (by omega)]
      omega
/-- level v's sibling and turn put in -/
def np_put (s t : Nat → Nat) (v : Nat) (f : Nat → Nat) : Nat → Nat := updN (updN f (15 + v) (t v)) (11 + v) (s v)
def np_lvl (s t : Nat → Nat) (v : Nat) (f : Nat → Nat) : Nat → Nat := np_cpl (np_put s t v f) (41 + 11 * v) 11
theorem np_put_a (s t : Nat → Nat) {v : Nat} (hv : v < 4) (f : Nat → Nat) : np_cpl (np_put s t v f) 14 27 = np_put s t v (np_cpl f 14 27) := by
  unfold np_put
  rw [np_out _ (by omega) (by omega) 27 14 _ (fun d h1 h2 => Or.inl (np_seg_a h1 h2)), np_out _ (by omega) (by omega) 27 14 _ (fun d h1 h2 => Or.inl (np_seg_a h1 h2))]
theorem np_put_v (s t : Nat → Nat) {u v : Nat} (hu : u < 4) (hv : v < 4) (h : u ≠ v) (f : Nat → Nat) : np_cpl (np_put s t u f) (41 + 11 * v) 11 = np_put s t u (np_cpl f (41 + 11 * v) 11) := by
  unfold np_put
  have q : ∀ i, (i = 11 + u ∨ i = 15 + u) → ∀ d, 41 + 11 * v ≤ d → d < 41 + 11 * v + 11 → 35 ≤ np_cel d ∨ (19 ≤ np_cel d ∧ np_cel d < 27 ∧ i ≠ 11 + (np_cel d - 19) % 4 ∧ i ≠ 15 + (np_cel d - 19) % 4) := by
    intro i hi d h1 h2
    rcases np_seg_v hv h1 h2 with a | a | a
    · exact Or.inl a
    · right; rw [a]; omega
    · right; rw [a]; omega
  rw [np_out _ (by omega) (by omega) 11 _ _ (q _ (Or.inl rfl)), np_out _ (by omega) (by omega) 11 _ _ (q _ (Or.inr rfl))]
/-- both orders make one vector -/
theorem np_load_eq (s t : Nat → Nat) (f : Nat → Nat) : np_cpl (np_put s t 3 (np_put s t 2 (np_put s t 1 (np_put s t 0 f)))) 14 101 = np_cpl (np_lvl s t 3 (np_lvl s t 2 (np_lvl s t 1 (np_lvl s t 0 (np_cpl f 14 27))))) 85 30 := by
  show np_cpl _ 14 (27 + (11 + (11 + (11 + (11 + 30))))) = _
  rw [np_cpl_add 27, np_cpl_add 11, np_cpl_add 11, np_cpl_add 11, np_cpl_add 11]
  rw [np_put_a s t (by omega), np_put_a s t (by omega), np_put_a s t (by omega), np_put_a s t (by omega)]
  generalize np_cpl f 14 27 = g
  have v0 := np_put_v s t (u := 3) (v := 0) (by omega) (by omega) (by omega)
  have v1 := np_put_v s t (u := 2) (v := 0) (by omega) (by omega) (by omega)
  have v2 := np_put_v s t (u := 1) (v := 0) (by omega) (by omega) (by omega)
  have v3 := np_put_v s t (u := 3) (v := 1) (by omega) (by omega) (by omega)
  have v4 := np_put_v s t (u := 2) (v := 1) (by omega) (by omega) (by omega)
  have v5 := np_put_v s t (u := 3) (v := 2) (by omega) (by omega) (by omega)
  simp only [Nat.mul_zero, Nat.add_zero, Nat.mul_one, Nat.reduceMul, Nat.reduceAdd] at v0 v1 v2 v3 v4 v5
  simp only [Nat.reduceAdd]
  rw [v0, v1, v2, v3, v4, v5]
  rfl
/-- the reference's sums and differences -/
theorem np_r3 (a b c : Nat) : (a + b + c) % 65537 = np_sm (np_sm a b) c := np_sm3 a b c
theorem np_lft_eq (n sb t : Nat) (hn : n < 65537) : (n + t * (sb + 65537 - n) % 65537) % 65537 = np_sm n (np_pr t (np_df sb n)) := by
  unfold np_sm np_pr np_df
  rw [Nat.mul_mod_mod]
theorem np_bits_eq (f : Nat → Nat) : np_sbt f 8 = (f 27 * 1 + f 28 * 2 + f 29 * 4 + f 30 * 8 + f 31 * 16 + f 32 * 32 + f 33 * 64 + f 34 * 128) % 65537 := by
  simp only [np_sbt, np_sm, np_pr]
  simp only [Nat.add_mod_mod, Nat.mod_add_mod, Nat.zero_add]
  congr 1
  simp only [Nat.reducePow, Nat.reduceMul, Nat.reduceAdd, Nat.one_mul]
  simp only [Nat.mul_comm]
  omega
end
section
/-! the states: X of the class, Y of the reference. X 0: pool, notes, marks; X 1 keys, X 2 owners, X 3 values, X 4 nonces, X 6 nodes, X 7 roots, X 9 sorted marks, X 11 cells. Y 0: notes, marks, pool; Y 1 keys, Y 2 values, Y 3 nonces, Y 4 marks, Y 5 cells, Y 6 work -/
abbrev np_X : Type := Nat → Nat → Nat
def np_ow (ks : Nat → Nat) (key : Nat) : Nat := if ks 0 = key then 0 else if ks 1 = key then 1 else if ks 2 = key then 2 else if ks 3 = key then 3 else 4294967295
def np_apd (X : np_X) (leaf : Nat) : np_X := va_up (va_up (va_up X 6 (np_ups (updN (X 6) (16 + X 0 1) leaf) (X 0 1) 4)) 0 (updN (X 0) 1 (X 0 1 + 1))) 7 (updN (X 7) (X 0 1 + 1) (np_ups (updN (X 6) (16 + X 0 1) leaf) (X 0 1) 4 1))
def np_mkn (X : np_X) (key v n : Nat) : np_X := va_up (va_up (va_up (np_apd X (np_hh (np_hh key v) n)) 2 (updN (X 2) (X 0 1) (np_ow (X 1) key))) 3 (updN (X 3) (X 0 1) v)) 4 (updN (X 4) (X 0 1) n)
def np_mkY (Y : np_X) (key v n : Nat) : np_X := va_up (va_up (va_up (va_up Y 1 (updN (Y 1) (Y 0 0) key)) 2 (updN (Y 2) (Y 0 0) v)) 3 (updN (Y 3) (Y 0 0) n)) 0 (updN (Y 0) 0 (Y 0 0 + 1))
/-- what every method of the class counts on -/
def np_XI (X : np_X) : Prop := X 0 1 ≤ 16 ∧ X 0 2 ≤ X 0 1 ∧ np_ok (X 1) ∧ (∀ j, X 2 j < 4294967296) ∧ np_ok (X 3) ∧ np_ok (X 4) ∧ np_ok (X 6) ∧ np_ok (X 7) ∧ np_ok (X 9) ∧ np_ok (X 11)
/-- what every method of the reference counts on -/
def np_YI (Y : np_X) : Prop := Y 0 0 ≤ 16 ∧ Y 0 1 ≤ Y 0 0 ∧ np_ok (Y 1) ∧ np_ok (Y 2) ∧ np_ok (Y 3) ∧ np_ok (Y 4) ∧ np_ok (Y 5)
/-- the class and the reference stand alike -/
def np_R (X Y : np_X) : Prop := np_XI X ∧ np_YI Y ∧ (Y 0 0 = X 0 1 ∧ Y 0 1 = X 0 2 ∧ Y 0 2 = X 0 0) ∧ (∀ k, k < 4 → X 1 k = np_key k) ∧ (∀ k, k < X 0 1 → X 2 k = np_own (Y 1 k)) ∧ X 3 = Y 2 ∧ X 4 = Y 3 ∧ np_NI (X 6) (np_lv (Y 1) (Y 2) (Y 3) (X 0 1)) ∧ (∀ k, k ≤ X 0 1 → X 7 k = np_tr (np_lv (Y 1) (Y 2) (Y 3) k) 4 0) ∧ np_up (X 9) (X 0 2) ∧ (∀ x, np_cn (Y 4) x (X 0 2) = np_cn (X 9) x (X 0 2)) ∧ X 11 = Y 5
theorem np_own_lt (key : Nat) : np_own key < 4294967296 := by
  unfold np_own
  repeat' split
  all_goals omega
theorem np_ow_lt (ks : Nat → Nat) (key : Nat) : np_ow ks key < 4294967296 := by
  unfold np_ow
  repeat' split
  all_goals omega
theorem np_ow_own {ks : Nat → Nat} (h : ∀ k, k < 4 → ks k = np_key k) (key : Nat) : np_ow ks key = np_own key := by
  unfold np_ow np_own
  rw [h 0 (by omega), h 1 (by omega), h 2 (by omega), h 3 (by omega)]
theorem np_ok_hu {nd : Nat → Nat} (h : np_ok nd) (i : Nat) : np_ok (np_hu nd i) := np_ok_upd h (np_hh_lt _ _)
theorem np_ok_ups {nd : Nat → Nat} (h : np_ok nd) (p : Nat) : ∀ v, np_ok (np_ups nd p v)
  | 0 => h
  | v + 1 => np_ok_hu (np_ok_ups h p v) _
theorem np_lv_add (key val non : Nat → Nat) (n k v z : Nat) : np_lv (updN key n k) (updN val n v) (updN non n z) (n + 1) = updN (np_lv key val non n) n (np_hh (np_hh k v) z) := by
  funext i
  unfold np_lv np_lf
  by_cases h : i = n
  · subst h
    rw [if_pos (by omega), updN_same, updN_same, updN_same, updN_same]
  · rw [updN_ne _ _ h, updN_ne _ _ h, updN_ne _ _ h, updN_ne _ _ h]
    by_cases h2 : i < n
    · rw [if_pos (by omega), if_pos h2]
    · rw [if_neg (by omega), if_neg h2]
theorem np_lv_old (key val non : Nat → Nat) (n k v z : Nat) {r : Nat} (hr : r ≤ n) : np_lv (updN key n k) (updN val n v) (updN non n z) r = np_lv key val non r := by
  funext i
  unfold np_lv np_lf
  by_cases h2 : i < r
  · rw [if_pos h2, if_pos h2, updN_ne _ _ (show i ≠ n by omega), updN_ne _ _ (show i ≠ n by omega), updN_ne _ _ (show i ≠ n by omega)]
  · rw [if_neg h2, if_neg h2]
theorem np_R_make {X Y : np_X} {key v n : Nat} (h : np_R X Y) (hf : X 0 1 < 16) (hk : key < 65537) (hv : v < 65537) (hn : n < 65537) : np_R (np_mkn X key v n) (np_mkY Y key v n) := by
  obtain ⟨⟨x1, x2, x3, x4, x5, x6, x7, x8, x9, x10⟩, ⟨y1, y2, y3, y4, y5, y6, y7⟩, ⟨e0, e1, e2⟩, hks, how, h3, h4, hNI, hrt, hup, hcn, hce⟩ := h
  have hNI2 := np_NI_add (x := np_hh (np_hh key v) n) hNI hf
  refine ⟨⟨?_, ?_, x3, ?_, ?_, ?_, ?_, ?_, x9, x10⟩, ⟨?_, ?_, ?_, ?_, ?_, y6, y7⟩, ⟨?_, e1, e2⟩, hks, ?_, ?_, ?_, ?_, ?_, hup, hcn, hce⟩
  · show X 0 1 + 1 ≤ 16; omega
  · show X 0 2 ≤ X 0 1 + 1; omega
  · intro j
    show updN (X 2) (X 0 1) (np_ow (X 1) key) j < _
    unfold updN
    split
    · exact np_ow_lt _ _
    · exact x4 j
  · exact np_ok_upd x5 hv
  · exact np_ok_upd x6 hn
  · exact np_ok_ups (np_ok_upd x7 (np_hh_lt _ _)) _ _
  · exact np_ok_upd x8 (np_ok_ups (np_ok_upd x7 (np_hh_lt _ _)) _ _ _)
  · show Y 0 0 + 1 ≤ 16; omega
  · show Y 0 1 ≤ Y 0 0 + 1; omega
  · exact np_ok_upd y3 hk
  · exact np_ok_upd y4 hv
  · exact np_ok_upd y5 hn
  · show Y 0 0 + 1 = X 0 1 + 1; omega
  · intro k hk2
    have hk2 : k < X 0 1 + 1 := hk2
    show updN (X 2) (X 0 1) (np_ow (X 1) key) k = np_own (updN (Y 1) (Y 0 0) key k)
    rw [e0]
    by_cases e : k = X 0 1
    · subst e; rw [updN_same, updN_same, np_ow_own hks]
    · rw [updN_ne _ _ e, updN_ne _ _ e]; exact how k (by omega)
  · show updN (X 3) (X 0 1) v = updN (Y 2) (Y 0 0) v
    rw [h3, e0]
  · show updN (X 4) (X 0 1) n = updN (Y 3) (Y 0 0) n
    rw [h4, e0]
  · show np_NI (np_ups (updN (X 6) (16 + X 0 1) (np_hh (np_hh key v) n)) (X 0 1) 4) (np_lv (updN (Y 1) (Y 0 0) key) (updN (Y 2) (Y 0 0) v) (updN (Y 3) (Y 0 0) n) (X 0 1 + 1))
    rw [e0, np_lv_add]
    exact hNI2
  · intro k hk2
    have hk2 : k ≤ X 0 1 + 1 := hk2
    show updN (X 7) (X 0 1 + 1) (np_ups (updN (X 6) (16 + X 0 1) (np_hh (np_hh key v) n)) (X 0 1) 4 1) k = np_tr (np_lv (updN (Y 1) (Y 0 0) key) (updN (Y 2) (Y 0 0) v) (updN (Y 3) (Y 0 0) n) k) 4 0
    rw [e0]
    by_cases e : k = X 0 1 + 1
    · subst e
      rw [updN_same, np_lv_add]
      exact hNI2.2.2.2.2
    · rw [updN_ne _ _ e, np_lv_old _ _ _ _ _ _ _ (by omega)]
      exact hrt k (by omega)
end
