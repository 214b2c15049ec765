/-! MY FRAME: worlds of a fixed shape whose numbers are naturals; one judgement np_V, a row an instruction (written by wip/whole/gen/frame.py) -/
def updN (f : Nat → Nat) (k x : Nat) : Nat → Nat := fun j => if j = k then x else f j
theorem updN_same (f : Nat → Nat) (k x : Nat) : updN f k x k = x := by simp [updN]
theorem updN_ne (f : Nat → Nat) {k j : Nat} (x : Nat) (h : j ≠ k) : updN f k x j = f j := by simp [updN, h]
theorem upd_nI (f : Nat → Nat) (j v : Nat) : upd (fun k => nI (f k)) j (nI v) = fun k => nI (updN f j v k) := by
  funext k
  by_cases h : k = j
  · subst h; simp [upd, updN]
  · simp [upd, updN, h]
/-- locals by place; none: not known -/
def np_LV (ls : Array Slot) (nL : Nat) (vs : List (Option Value)) : Prop := ls.size = nL ∧ lv_wf ls ∧ ∀ (i : Nat) (v : Value), vs[i]? = some (some v) → ls[i]? = some (.val v)
def np_okst (vs : List (Option Value)) (i : Nat) : Bool := match i with
  | 0 => true
  | k + 1 => match vs[k]? with
    | some (some w) => w.category == 1
    | _ => true
def np_prs : Nat → List (Option Value) → List (Nat × Value)
  | _, [] => []
  | k, none :: r => np_prs (k + 1) r
  | k, some v :: r => (k, v) :: np_prs (k + 1) r
theorem np_prs_mem : ∀ (vs : List (Option Value)) (k i : Nat) (v : Value), vs[i]? = some (some v) → (k + i, v) ∈ np_prs k vs
  | [], _, _, _, h => by simp at h
  | none :: r, k, i, v, h => by
    match i, h with
    | 0, h => simp at h
    | j + 1, h =>
      have h2 := np_prs_mem r (k + 1) j v (by simpa using h)
      rw [show k + (j + 1) = k + 1 + j by omega]
      exact h2
  | some x :: r, k, i, v, h => by
    match i, h with
    | 0, h => simp at h; subst h; exact List.mem_cons_self
    | j + 1, h =>
      have h2 := np_prs_mem r (k + 1) j v (by simpa using h)
      rw [show k + (j + 1) = k + 1 + j by omega]
      exact List.mem_cons_of_mem _ h2
theorem np_prs_of : ∀ (vs : List (Option Value)) (k : Nat) (q : Nat × Value), q ∈ np_prs k vs → ∃ i, q.1 = k + i ∧ vs[i]? = some (some q.2)
  | [], _, _, h => by simp [np_prs] at h
  | none :: r, k, q, h => by
    obtain ⟨i, h1, h2⟩ := np_prs_of r (k + 1) q h
    exact ⟨i + 1, by omega, by simpa using h2⟩
  | some x :: r, k, q, h => by
    rcases List.mem_cons.mp h with h | h
    · subst h; exact ⟨0, rfl, rfl⟩
    · obtain ⟨i, h1, h2⟩ := np_prs_of r (k + 1) q h
      exact ⟨i + 1, by omega, by simpa using h2⟩
theorem np_LV.has {ls : Array Slot} {nL : Nat} {vs : List (Option Value)} (h : np_LV ls nL vs) : lv_has ls nL (np_prs 0 vs) := by
  refine ⟨h.1, h.2.1, fun q hq => ?_⟩
  obtain ⟨i, h1, h2⟩ := np_prs_of vs 0 q hq
  rw [h1, Nat.zero_add]
  exact h.2.2 i q.2 h2
theorem np_LV.st1 {ls : Array Slot} {nL : Nat} {vs : List (Option Value)} {i : Nat} {v : Value} (ho : np_okst vs i = true) (h : lv_has ls nL ((i, v) :: (np_prs 0 vs).filter (fun q => !(q.1 == i) && !(q.1 + 1 == i && q.2.category == 2)))) : np_LV ls nL (vs.set i (some v)) := by
  refine ⟨h.1, h.2.1, fun j w hj => ?_⟩
  by_cases hji : j = i
  · subst hji
    have hl2 : j < (vs.set j (some v)).length := (List.getElem?_eq_some_iff.mp hj).1
    rw [List.length_set] at hl2
    rw [List.getElem?_set_self hl2] at hj
    cases hj
    exact h.2.2 (j, v) List.mem_cons_self
  · rw [List.getElem?_set_ne (Ne.symm hji)] at hj
    have h3 := np_prs_mem vs 0 j w hj
    rw [Nat.zero_add] at h3
    refine h.2.2 (j, w) (List.mem_cons_of_mem _ (List.mem_filter.mpr ⟨h3, ?_⟩))
    have hn : j + 1 = i → w.category = 2 → False := by
      intro h1 h2
      subst h1
      simp [np_okst, hj, h2] at ho
    cases h5 : (j + 1 == i && w.category == 2) with
    | false => simp [hji, h5]
    | true =>
      simp at h5
      exact (hn h5.1 h5.2).elim
theorem np_LV.st2 {ls : Array Slot} {nL : Nat} {vs : List (Option Value)} {i : Nat} {v : Value} (ho : np_okst vs i = true) (h : lv_has ls nL ((i, v) :: (np_prs 0 vs).filter (fun q => !(q.1 == i) && (!(q.1 == i + 1) && !(q.1 + 1 == i && q.2.category == 2))))) : np_LV ls nL ((vs.set (i + 1) none).set i (some v)) := by
  refine ⟨h.1, h.2.1, fun j w hj => ?_⟩
  by_cases hji : j = i
  · subst hji
    have hl2 : j < ((vs.set (j + 1) none).set j (some v)).length := (List.getElem?_eq_some_iff.mp hj).1
    rw [List.length_set] at hl2
    rw [List.getElem?_set_self hl2] at hj
    cases hj
    exact h.2.2 (j, v) List.mem_cons_self
  · rw [List.getElem?_set_ne (Ne.symm hji)] at hj
    by_cases hj1 : j = i + 1
    · subst hj1
      have hl2 : i + 1 < (vs.set (i + 1) none).length := (List.getElem?_eq_some_iff.mp hj).1
      rw [List.length_set] at hl2
      rw [List.getElem?_set_self hl2] at hj
      cases hj
    · rw [List.getElem?_set_ne (Ne.symm hj1)] at hj
      have h3 := np_prs_mem vs 0 j w hj
      rw [Nat.zero_add] at h3
      refine h.2.2 (j, w) (List.mem_cons_of_mem _ (List.mem_filter.mpr ⟨h3, ?_⟩))
      have hn : j + 1 = i → w.category = 2 → False := by
        intro h1 h2
        subst h1
        simp [np_okst, hj, h2] at ho
      cases h5 : (j + 1 == i && w.category == 2) with
      | false => simp [hji, hj1, h5]
      | true =>
        simp at h5
        exact (hn h5.1 h5.2).elim
def np_vsA : List Value → List (Option Value)
  | [] => []
  | v :: r => if v.category = 2 then some v :: none :: np_vsA r else some v :: np_vsA r
theorem np_vsA_in : ∀ (av : List Value) (k i : Nat) (v : Value), (np_vsA av)[i]? = some (some v) → (k + i, v) ∈ lv_args k av
  | [], _, _, _, h => by simp [np_vsA] at h
  | x :: r, k, i, v, h => by
    by_cases hc : x.category = 2
    · simp only [np_vsA, hc, if_true] at h
      simp only [lv_args, hc, if_true]
      match i, h with
      | 0, h => simp at h; subst h; exact List.mem_cons_self
      | 1, h => simp at h
      | j + 2, h =>
        have h2 := np_vsA_in r (k + 2) j v (by simpa using h)
        rw [show k + (j + 2) = k + 2 + j by omega]
        exact List.mem_cons_of_mem _ h2
    · simp only [np_vsA, hc, if_false] at h
      simp only [lv_args, hc, if_false]
      match i, h with
      | 0, h => simp at h; subst h; exact List.mem_cons_self
      | j + 1, h =>
        have h2 := np_vsA_in r (k + 1) j v (by simpa using h)
        rw [show k + (j + 1) = k + 1 + j by omega]
        exact List.mem_cons_of_mem _ h2
theorem np_LV.entry {ls : Array Slot} {n : Nat} {av : List Value} (h : lv_has ls n (lv_args 0 av)) : np_LV ls n (np_vsA av ++ List.replicate (n - (np_vsA av).length) none) := by
  refine ⟨h.1, h.2.1, fun i v hi => ?_⟩
  by_cases hl : i < (np_vsA av).length
  · rw [List.getElem?_append_left hl] at hi
    have h2 := np_vsA_in av 0 i v hi
    rw [Nat.zero_add] at h2
    exact h.2.2 (i, v) h2
  · rw [List.getElem?_append_right (by omega)] at hi
    have h2 := List.eq_of_mem_replicate (List.mem_of_getElem? hi)
    cases h2
/-- what a callee may count on besides its world, and how that stays -/
def np_St (A : Nat → Prop) (S : State → Heap → Prop) : Prop := (∀ (U : State) (g : JFrame) (mk : MethodId) (a : Array Value), S U U.heap → S (U.calling g mk a) U.heap) ∧ ∀ s U : State, S s s.heap → s.WarmedH U.vm → (∀ q : Nat, q < s.heap.size → ¬ A q → U.heap[q]? = s.heap[q]?) → S U U.heap
def np_Qc (D : va_G) (cl : List vw_C) (A : Nat → Prop) (rv : Option Value) (w : va_W) : Array Value → State → Outcome → State → Prop := fun _ st oc t => oc = .returned rv ∧ va_P D cl w t.heap ∧ va_F A st t
def np_rm (k : Nat × Nat) : Room := { frames := k.1, cells := 0, slots := 0, locals := k.2 }
def np_Pc (D : va_G) (cl : List vw_C) (cI : ClassId) (S : State → Heap → Prop) (w : va_W) (av : List Value) : Array Value → State → Prop := va_Pc av (fun U => va_P D cl w U.heap ∧ va_K D cl [(cI, .int)] U ∧ S U U.heap)
/-- a method's contract: with arguments av, in the world w, it answers rv and leaves the world w' -/
def np_Ct (l : Launch) (D : va_G) (cl : List vw_C) (cI : ClassId) (A : Nat → Prop) (S : State → Heap → Prop) (TS : List Cond) (k : Nat × Nat) (y : MethodName) (b : ByteArray) (mL : Nat) (ret : Option FieldType) (av : List Value) (w : va_W) (rv : Option Value) (w' : va_W) : Prop :=
  Met l y (.code y b mL ret :: TS) (np_rm k) (np_Pc D cl cI S w av) (np_Qc D cl A rv w') 0 0 A
def np_Cx (p : Program) (s : State) (m : MethodId) (args : Array Value) (meth : Method) (c : Code) (cc : ByteArray) (nL : Nat) (own : String) (ret : Option FieldType) (TS : List Cond) (D : va_G) (cl : List vw_C) (cI : ClassId) (A : Nat → Prop) (S : State → Heap → Prop) : Prop :=
  CallFix p m c cc nL s args TS own ∧ va_K D cl [(cI, .int)] s ∧ S s s.heap ∧ np_St A S ∧ meth.sig.returnType = ret ∧ meth.locks = false
def np_V (p : Program) (l : Launch) (e : Env) (R : Room) (s : State) (m : MethodId) (args : Array Value) (below : List Frame) (meth : Method) (c : Code) (ce sl : Nat) (D : va_G) (cl : List vw_C) (A : Nat → Prop) (Q : State → Prop) (nL : Nat) (w : va_W) (pc : Nat) (vs : List (Option Value)) (st : List Value) : Prop :=
  ∀ (H : Heap) (locs : List Loc) (ls : Array Slot), np_LV ls nL vs → va_P D cl w H → va_S A s.heap H locs → W p l e R s m args below meth c H locs ce sl Q (F0 m pc ls st)
theorem np_Ct.of {l : Launch} {D : va_G} {cl : List vw_C} {cI : ClassId} {A : Nat → Prop} {S : State → Heap → Prop} {TS : List Cond} {k : Nat × Nat} {y : MethodName} {b : ByteArray} {mL : Nat} {ret : Option FieldType} {av : List Value} {w : va_W} {rv : Option Value} {w' : va_W}
    (hS : np_St A S) (hy : plainName y.cls = true) (hn : (lg_sl av).length ≤ mL)
    (body : ∀ (p : Program) (e : Env) (s : State) (m : MethodId) (below : List Frame) (meth : Method) (c : Code), np_Cx p s m av.toArray meth c b mL y.cls ret TS D cl cI A S →
      np_V p l e (np_rm k) s m av.toArray below meth c 0 0 D cl A (MQ below (np_Qc D cl A rv w') av.toArray s 0 0 A) mL w 0 (np_vsA av ++ List.replicate (mL - (np_vsA av).length) none) []) :
    np_Ct l D cl cI A S TS k y b mL ret av w rv w' := by
  refine Met.ofW (cc := b) (maxL := mL) (ret := ret) hy rfl ?_
  intro p e s m args below meth c s₁ B hml hv
  obtain ⟨rfl, hP, hK, hSs⟩ := hv
  have hts := atoms_spec (ws := .code y b mL ret :: TS) B.pre
  have C : np_Cx p s m av.toArray meth c b mL y.cls ret TS D cl cI A S := ⟨⟨B.exec, B.bytes, hml, findClass_of_methodNamed B.named, fun x hx => hts x (List.mem_cons_of_mem _ hx)⟩, hK, hSs, hS, B.returns, B.notSynchronized⟩
  have hl := lv_entry av (n := mL) hn
  rw [lg_entry_eq]
  exact body p e s m below meth c C s.heap [] _ (np_LV.entry hl) hP va_S.rf
section NPR
variable {p : Program} {l : Launch} {e : Env} {R : Room} {s : State} {m : MethodId} {args : Array Value} {below : List Frame} {meth : Method} {c : Code} {ce sl : Nat} {D : va_G} {cl : List vw_C} {A : Nat → Prop} {Q : State → Prop} {nL : Nat}
variable {cc : ByteArray} {own : String} {ret : Option FieldType} {TS : List Cond} {cI : ClassId} {S : State → Heap → Prop} {w : va_W} {pc : Nat} {vs : List (Option Value)} {st : List Value}

theorem np_at {vs2 : List (Option Value)} (h : vs = vs2) (k : np_V p l e R s m args below meth c ce sl D cl A Q nL w pc vs2 st) : np_V p l e R s m args below meth c ce sl D cl A Q nL w pc vs st := h ▸ k
theorem np_atw {w2 : va_W} (h : w = w2) (k : np_V p l e R s m args below meth c ce sl D cl A Q nL w2 pc vs st) : np_V p l e R s m args below meth c ce sl D cl A Q nL w pc vs st := h ▸ k
theorem np_atst {st2 : List Value} (h : st = st2) (k : np_V p l e R s m args below meth c ce sl D cl A Q nL w pc vs st2) : np_V p l e R s m args below meth c ce sl D cl A Q nL w pc vs st := h ▸ k
theorem np_top {x y : Nat} (h : nI x = nI y) (k : np_V p l e R s m args below meth c ce sl D cl A Q nL w pc vs (.int (nI y) :: st)) : np_V p l e R s m args below meth c ce sl D cl A Q nL w pc vs (.int (nI x) :: st) := h ▸ k
theorem np_topx {x : Int32} {y : Nat} (h : x = nI y) (k : np_V p l e R s m args below meth c ce sl D cl A Q nL w pc vs (.int (nI y) :: st)) : np_V p l e R s m args below meth c ce sl D cl A Q nL w pc vs (.int x :: st) := h ▸ k
theorem np_topl {x : Int64} {y : Nat} (h : x = lN y) (k : np_V p l e R s m args below meth c ce sl D cl A Q nL w pc vs (.long (lN y) :: st)) : np_V p l e R s m args below meth c ce sl D cl A Q nL w pc vs (.long x :: st) := h ▸ k
theorem np_forget (i : Nat) (k : np_V p l e R s m args below meth c ce sl D cl A Q nL w pc (vs.set i none) st) : np_V p l e R s m args below meth c ce sl D cl A Q nL w pc vs st := fun H locs ls hL hP hS => k H locs ls ⟨hL.1, hL.2.1, fun j v hj => by
  by_cases h : j = i
  · subst h
    have h2 : j < (vs.set j none).length := (List.getElem?_eq_some_iff.mp hj).1
    rw [List.length_set] at h2
    rw [List.getElem?_set_self h2] at hj
    cases hj
  · rw [List.getElem?_set_ne (Ne.symm h)] at hj
    exact hL.2.2 j v hj⟩ hP hS
theorem np_iconst (C : np_Cx p s m args meth c cc nL own ret TS D cl cI A S) {n : Int} {v : Nat} (hdg : decode cc pc = .ok (.iconst n, 1)) (hv : Int32.ofInt n = nI v) (k : np_V p l e R s m args below meth c ce sl D cl A Q nL w (pc + 1) vs (.int (nI v) :: st)) : np_V p l e R s m args below meth c ce sl D cl A Q nL w pc vs st := fun H locs ls hL hP hS => lv_iconst C.1.1 C.1.2.1 hdg hv (k H locs ls hL hP hS)
theorem np_bipush (C : np_Cx p s m args meth c cc nL own ret TS D cl cI A S) {n : Int} {v : Nat} (hdg : decode cc pc = .ok (.bipush n, 2)) (hv : (Int8.ofInt n).toInt32 = nI v) (k : np_V p l e R s m args below meth c ce sl D cl A Q nL w (pc + 2) vs (.int (nI v) :: st)) : np_V p l e R s m args below meth c ce sl D cl A Q nL w pc vs st := fun H locs ls hL hP hS => lv_bipush C.1.1 C.1.2.1 hdg hv (k H locs ls hL hP hS)
theorem np_sipush (C : np_Cx p s m args meth c cc nL own ret TS D cl cI A S) {n : Int} {v : Nat} (hdg : decode cc pc = .ok (.sipush n, 3)) (hv : (Int16.ofInt n).toInt32 = nI v) (k : np_V p l e R s m args below meth c ce sl D cl A Q nL w (pc + 3) vs (.int (nI v) :: st)) : np_V p l e R s m args below meth c ce sl D cl A Q nL w pc vs st := fun H locs ls hL hP hS => lv_sipush C.1.1 C.1.2.1 hdg hv (k H locs ls hL hP hS)
theorem np_lconst (C : np_Cx p s m args meth c cc nL own ret TS D cl cI A S) {n : Fin 2} {v : Nat} (hdg : decode cc pc = .ok (.lconst n, 1)) (hv : Int64.ofNat (n : Nat) = lN v) (k : np_V p l e R s m args below meth c ce sl D cl A Q nL w (pc + 1) vs (.long (lN v) :: st)) : np_V p l e R s m args below meth c ce sl D cl A Q nL w pc vs st := fun H locs ls hL hP hS => lv_lconst C.1.1 C.1.2.1 hdg hv (k H locs ls hL hP hS)
theorem np_ldc (C : np_Cx p s m args meth c cc nL own ret TS D cl cI A S) {index : Nat} {x : Int32} {v : Nat} (hc : Cond.constant own index x ∈ TS) (hv : x = nI v) (hdg : decode cc pc = .ok (.ldc index, 2)) (k : np_V p l e R s m args below meth c ce sl D cl A Q nL w (pc + 2) vs (.int (nI v) :: st)) : np_V p l e R s m args below meth c ce sl D cl A Q nL w pc vs st := fun H locs ls hL hP hS => lv_ldc C.1.1 C.1.2.1 C.1.2.2.2.1 (C.1.2.2.2.2 _ hc) hdg (hv ▸ k H locs ls hL hP hS)
theorem np_ldc2 (C : np_Cx p s m args meth c cc nL own ret TS D cl cI A S) {index : Nat} {x : Int64} {v : Nat} (hc : Cond.constantLong own index x ∈ TS) (hv : x = lN v) (hdg : decode cc pc = .ok (.ldc2_w index, 3)) (k : np_V p l e R s m args below meth c ce sl D cl A Q nL w (pc + 3) vs (.long (lN v) :: st)) : np_V p l e R s m args below meth c ce sl D cl A Q nL w pc vs st := fun H locs ls hL hP hS => lv_ldc2 C.1.1 C.1.2.1 C.1.2.2.2.1 (C.1.2.2.2.2 _ hc) hdg (hv ▸ k H locs ls hL hP hS)
theorem np_iload_n (C : np_Cx p s m args meth c cc nL own ret TS D cl cI A S) {i : Fin 4} {x : Int32} (hdg : decode cc pc = .ok (.iload_n i, 1)) (hl : vs[(i : Nat)]? = some (some (.int x))) (k : np_V p l e R s m args below meth c ce sl D cl A Q nL w (pc + 1) vs (.int x :: st)) : np_V p l e R s m args below meth c ce sl D cl A Q nL w pc vs st := fun H locs ls hL hP hS => lv_iload_n C.1.1 C.1.2.1 hdg rfl (hL.2.2 _ _ hl) (k H locs ls hL hP hS)
theorem np_iload (C : np_Cx p s m args meth c cc nL own ret TS D cl cI A S) {i : Nat} {x : Int32} (hdg : decode cc pc = .ok (.iload i, 2)) (hl : vs[i]? = some (some (.int x))) (k : np_V p l e R s m args below meth c ce sl D cl A Q nL w (pc + 2) vs (.int x :: st)) : np_V p l e R s m args below meth c ce sl D cl A Q nL w pc vs st := fun H locs ls hL hP hS => lv_iload C.1.1 C.1.2.1 hdg (hL.2.2 _ _ hl) (k H locs ls hL hP hS)
theorem np_lload_n (C : np_Cx p s m args meth c cc nL own ret TS D cl cI A S) {i : Fin 4} {x : Int64} (hdg : decode cc pc = .ok (.lload_n i, 1)) (hl : vs[(i : Nat)]? = some (some (.long x))) (k : np_V p l e R s m args below meth c ce sl D cl A Q nL w (pc + 1) vs (.long x :: st)) : np_V p l e R s m args below meth c ce sl D cl A Q nL w pc vs st := fun H locs ls hL hP hS => lv_lload_n C.1.1 C.1.2.1 hdg rfl (hL.2.2 _ _ hl) (k H locs ls hL hP hS)
theorem np_lload (C : np_Cx p s m args meth c cc nL own ret TS D cl cI A S) {i : Nat} {x : Int64} (hdg : decode cc pc = .ok (.lload i, 2)) (hl : vs[i]? = some (some (.long x))) (k : np_V p l e R s m args below meth c ce sl D cl A Q nL w (pc + 2) vs (.long x :: st)) : np_V p l e R s m args below meth c ce sl D cl A Q nL w pc vs st := fun H locs ls hL hP hS => lv_lload C.1.1 C.1.2.1 hdg (hL.2.2 _ _ hl) (k H locs ls hL hP hS)
theorem np_aload_n (C : np_Cx p s m args meth c cc nL own ret TS D cl cI A S) {i : Fin 4} {x : Nat} (hdg : decode cc pc = .ok (.aload_n i, 1)) (hl : vs[(i : Nat)]? = some (some (.ref x))) (k : np_V p l e R s m args below meth c ce sl D cl A Q nL w (pc + 1) vs (.ref x :: st)) : np_V p l e R s m args below meth c ce sl D cl A Q nL w pc vs st := fun H locs ls hL hP hS => lv_aload_n C.1.1 C.1.2.1 hdg rfl (hL.2.2 _ _ hl) (k H locs ls hL hP hS)
theorem np_aload (C : np_Cx p s m args meth c cc nL own ret TS D cl cI A S) {i : Nat} {x : Nat} (hdg : decode cc pc = .ok (.aload i, 2)) (hl : vs[i]? = some (some (.ref x))) (k : np_V p l e R s m args below meth c ce sl D cl A Q nL w (pc + 2) vs (.ref x :: st)) : np_V p l e R s m args below meth c ce sl D cl A Q nL w pc vs st := fun H locs ls hL hP hS => lv_aload C.1.1 C.1.2.1 hdg (hL.2.2 _ _ hl) (k H locs ls hL hP hS)
theorem np_istore_n (C : np_Cx p s m args meth c cc nL own ret TS D cl cI A S) {i : Fin 4} {x : Int32} (hdg : decode cc pc = .ok (.istore_n i, 1)) (hn : (i : Nat) < nL) (ho : np_okst vs (i : Nat) = true) (k : np_V p l e R s m args below meth c ce sl D cl A Q nL w (pc + 1) (vs.set (i : Nat) (some (.int x))) st) : np_V p l e R s m args below meth c ce sl D cl A Q nL w pc vs (.int x :: st) := fun H locs ls hL hP hS => lv_istore_n C.1.1 C.1.2.1 hdg rfl hL.has hn rfl (fun ls2 h2 => k H locs ls2 (np_LV.st1 ho h2) hP hS)
theorem np_istore (C : np_Cx p s m args meth c cc nL own ret TS D cl cI A S) {i : Nat} {x : Int32} (hdg : decode cc pc = .ok (.istore i, 2)) (hn : i < nL) (ho : np_okst vs i = true) (k : np_V p l e R s m args below meth c ce sl D cl A Q nL w (pc + 2) (vs.set i (some (.int x))) st) : np_V p l e R s m args below meth c ce sl D cl A Q nL w pc vs (.int x :: st) := fun H locs ls hL hP hS => lv_istore C.1.1 C.1.2.1 hdg hL.has hn rfl (fun ls2 h2 => k H locs ls2 (np_LV.st1 ho h2) hP hS)
theorem np_astore_n (C : np_Cx p s m args meth c cc nL own ret TS D cl cI A S) {i : Fin 4} {x : Nat} (hdg : decode cc pc = .ok (.astore_n i, 1)) (hn : (i : Nat) < nL) (ho : np_okst vs (i : Nat) = true) (k : np_V p l e R s m args below meth c ce sl D cl A Q nL w (pc + 1) (vs.set (i : Nat) (some (.ref x))) st) : np_V p l e R s m args below meth c ce sl D cl A Q nL w pc vs (.ref x :: st) := fun H locs ls hL hP hS => lv_astore_n C.1.1 C.1.2.1 hdg rfl hL.has hn rfl (fun ls2 h2 => k H locs ls2 (np_LV.st1 ho h2) hP hS)
theorem np_astore (C : np_Cx p s m args meth c cc nL own ret TS D cl cI A S) {i : Nat} {x : Nat} (hdg : decode cc pc = .ok (.astore i, 2)) (hn : i < nL) (ho : np_okst vs i = true) (k : np_V p l e R s m args below meth c ce sl D cl A Q nL w (pc + 2) (vs.set i (some (.ref x))) st) : np_V p l e R s m args below meth c ce sl D cl A Q nL w pc vs (.ref x :: st) := fun H locs ls hL hP hS => lv_astore C.1.1 C.1.2.1 hdg hL.has hn rfl (fun ls2 h2 => k H locs ls2 (np_LV.st1 ho h2) hP hS)
theorem np_lstore_n (C : np_Cx p s m args meth c cc nL own ret TS D cl cI A S) {i : Fin 4} {x : Int64} (hdg : decode cc pc = .ok (.lstore_n i, 1)) (hn : (i : Nat) + 1 < nL) (ho : np_okst vs (i : Nat) = true) (k : np_V p l e R s m args below meth c ce sl D cl A Q nL w (pc + 1) ((vs.set ((i : Nat) + 1) none).set (i : Nat) (some (.long x))) st) : np_V p l e R s m args below meth c ce sl D cl A Q nL w pc vs (.long x :: st) := fun H locs ls hL hP hS => lv_lstore_n C.1.1 C.1.2.1 hdg rfl hL.has hn rfl (fun ls2 h2 => k H locs ls2 (np_LV.st2 ho h2) hP hS)
theorem np_lstore (C : np_Cx p s m args meth c cc nL own ret TS D cl cI A S) {i : Nat} {x : Int64} (hdg : decode cc pc = .ok (.lstore i, 2)) (hn : i + 1 < nL) (ho : np_okst vs i = true) (k : np_V p l e R s m args below meth c ce sl D cl A Q nL w (pc + 2) ((vs.set (i + 1) none).set i (some (.long x))) st) : np_V p l e R s m args below meth c ce sl D cl A Q nL w pc vs (.long x :: st) := fun H locs ls hL hP hS => lv_lstore C.1.1 C.1.2.1 hdg hL.has hn rfl (fun ls2 h2 => k H locs ls2 (np_LV.st2 ho h2) hP hS)
theorem np_iinc (C : np_Cx p s m args meth c cc nL own ret TS D cl cI A S) {i : Nat} {n : Int} {x v : Nat} (hdg : decode cc pc = .ok (.iinc i n, 3)) (hl : vs[i]? = some (some (.int (nI x)))) (hv : nI x + Int32.ofInt n = nI v) (hn : i < nL) (ho : np_okst vs i = true) (k : np_V p l e R s m args below meth c ce sl D cl A Q nL w (pc + 3) (vs.set i (some (.int (nI v)))) st) : np_V p l e R s m args below meth c ce sl D cl A Q nL w pc vs st := by
  intro H locs ls hL hP hS
  have h3 := np_prs_mem vs 0 i _ hl
  rw [Nat.zero_add] at h3
  obtain ⟨j, hj⟩ := List.getElem?_of_mem h3
  exact lv_iinc C.1.1 C.1.2.1 hdg hL.has hj hv hn rfl (fun ls2 h2 => k H locs ls2 (np_LV.st1 ho h2) hP hS)
theorem np_iadd (C : np_Cx p s m args meth c cc nL own ret TS D cl cI A S) {x y : Nat}  (hdg : decode cc pc = .ok (.iadd, 1)) (k : np_V p l e R s m args below meth c ce sl D cl A Q nL w (pc + 1) vs (.int (nI (x + y)) :: st)) : np_V p l e R s m args below meth c ce sl D cl A Q nL w pc vs (.int (nI y) :: .int (nI x) :: st) := fun H locs ls hL hP hS => lv_iadd C.1.1 C.1.2.1 hdg ((nI_add x y).symm ▸ k H locs ls hL hP hS)
theorem np_imul (C : np_Cx p s m args meth c cc nL own ret TS D cl cI A S) {x y : Nat}  (hdg : decode cc pc = .ok (.imul, 1)) (k : np_V p l e R s m args below meth c ce sl D cl A Q nL w (pc + 1) vs (.int (nI (x * y)) :: st)) : np_V p l e R s m args below meth c ce sl D cl A Q nL w pc vs (.int (nI y) :: .int (nI x) :: st) := fun H locs ls hL hP hS => lv_imul C.1.1 C.1.2.1 hdg ((pk_mul x y).symm ▸ k H locs ls hL hP hS)
theorem np_isub (C : np_Cx p s m args meth c cc nL own ret TS D cl cI A S) {x y : Nat} (h : y ≤ x) (hdg : decode cc pc = .ok (.isub, 1)) (k : np_V p l e R s m args below meth c ce sl D cl A Q nL w (pc + 1) vs (.int (nI (x - y)) :: st)) : np_V p l e R s m args below meth c ce sl D cl A Q nL w pc vs (.int (nI y) :: .int (nI x) :: st) := fun H locs ls hL hP hS => lv_isub C.1.1 C.1.2.1 hdg ((pk_sub h).symm ▸ k H locs ls hL hP hS)
theorem np_idiv (C : np_Cx p s m args meth c cc nL own ret TS D cl cI A S) {x y : Nat} (hx : x < 2 ^ 31) (h0 : 0 < y) (hy : y < 2 ^ 31) (hdg : decode cc pc = .ok (.idiv, 1)) (k : np_V p l e R s m args below meth c ce sl D cl A Q nL w (pc + 1) vs (.int (nI (x / y)) :: st)) : np_V p l e R s m args below meth c ce sl D cl A Q nL w pc vs (.int (nI y) :: .int (nI x) :: st) := fun H locs ls hL hP hS => lv_idiv C.1.1 C.1.2.1 hdg (nI_ne0 h0 hy) ((pk_div hx h0 hy).symm ▸ k H locs ls hL hP hS)
theorem np_irem (C : np_Cx p s m args meth c cc nL own ret TS D cl cI A S) {x y : Nat} (hx : x < 2 ^ 31) (h0 : 0 < y) (hy : y < 2 ^ 31) (hdg : decode cc pc = .ok (.irem, 1)) (k : np_V p l e R s m args below meth c ce sl D cl A Q nL w (pc + 1) vs (.int (nI (x % y)) :: st)) : np_V p l e R s m args below meth c ce sl D cl A Q nL w pc vs (.int (nI y) :: .int (nI x) :: st) := fun H locs ls hL hP hS => lv_irem C.1.1 C.1.2.1 hdg (nI_ne0 h0 hy) ((pk_rem hx h0 hy).symm ▸ k H locs ls hL hP hS)
theorem np_ladd (C : np_Cx p s m args meth c cc nL own ret TS D cl cI A S) {x y : Nat}  (hdg : decode cc pc = .ok (.ladd, 1)) (k : np_V p l e R s m args below meth c ce sl D cl A Q nL w (pc + 1) vs (.long (lN (x + y)) :: st)) : np_V p l e R s m args below meth c ce sl D cl A Q nL w pc vs (.long (lN y) :: .long (lN x) :: st) := fun H locs ls hL hP hS => lv_ladd C.1.1 C.1.2.1 hdg ((lN_add x y).symm ▸ k H locs ls hL hP hS)
theorem np_lmul (C : np_Cx p s m args meth c cc nL own ret TS D cl cI A S) {x y : Nat}  (hdg : decode cc pc = .ok (.lmul, 1)) (k : np_V p l e R s m args below meth c ce sl D cl A Q nL w (pc + 1) vs (.long (lN (x * y)) :: st)) : np_V p l e R s m args below meth c ce sl D cl A Q nL w pc vs (.long (lN y) :: .long (lN x) :: st) := fun H locs ls hL hP hS => lv_lmul C.1.1 C.1.2.1 hdg ((lN_mul x y).symm ▸ k H locs ls hL hP hS)
theorem np_lsub (C : np_Cx p s m args meth c cc nL own ret TS D cl cI A S) {x y : Nat} (h : y ≤ x) (hdg : decode cc pc = .ok (.lsub, 1)) (k : np_V p l e R s m args below meth c ce sl D cl A Q nL w (pc + 1) vs (.long (lN (x - y)) :: st)) : np_V p l e R s m args below meth c ce sl D cl A Q nL w pc vs (.long (lN y) :: .long (lN x) :: st) := fun H locs ls hL hP hS => lv_lsub C.1.1 C.1.2.1 hdg ((lN_sub h).symm ▸ k H locs ls hL hP hS)
theorem np_subW {x y : Nat} (h : y ≤ 4294967296) : nI x - nI y = nI (x + 4294967296 - y) := by
  have e : nI x = nI (x + 4294967296) := by
    apply Int32.toBitVec_inj.mp
    apply BitVec.eq_of_toNat_eq
    simp [nI]
  rw [e, pk_sub (show y ≤ x + 4294967296 by omega)]
theorem np_isubW (C : np_Cx p s m args meth c cc nL own ret TS D cl cI A S) {x y : Nat} (h : y ≤ 4294967296) (hdg : decode cc pc = .ok (.isub, 1)) (k : np_V p l e R s m args below meth c ce sl D cl A Q nL w (pc + 1) vs (.int (nI (x + 4294967296 - y)) :: st)) : np_V p l e R s m args below meth c ce sl D cl A Q nL w pc vs (.int (nI y) :: .int (nI x) :: st) := fun H locs ls hL hP hS => lv_isub C.1.1 C.1.2.1 hdg ((np_subW h).symm ▸ k H locs ls hL hP hS)
theorem np_wrap (x : Nat) : nI (x + 4294967296) = nI x := by
  apply Int32.toBitVec_inj.mp
  apply BitVec.eq_of_toNat_eq
  simp [nI]
theorem np_nIe {x y : Nat} (hx : x < 4294967296) (hy : y < 4294967296) : nI x = nI y ↔ x = y := by
  constructor
  · intro h
    have h2 := congrArg (fun z : Int32 => z.toBitVec.toNat) h
    simp only [nI] at h2
    have e1 : (Int32.ofNat x).toBitVec.toNat = x := pk_tn (n := x) hx
    have e2 : (Int32.ofNat y).toBitVec.toNat = y := pk_tn (n := y) hy
    rw [e1, e2] at h2
    exact h2
  · intro h; rw [h]
theorem np_neg {x : Nat} (hx : x < 4294967296) : nI x < 0 ↔ 2147483648 ≤ x := by
  constructor
  · intro h
    apply Nat.le_of_not_lt
    intro h2
    exact nI_pos (n := x) h2 h
  · intro h
    have e : nI x = nI 0 - nI (4294967296 - x) := by
      rw [np_subW (show 4294967296 - x ≤ 4294967296 by omega)]
      congr 1; omega
    by_cases h9 : 4294967296 - x = 2147483648
    · have e2 : x = 2147483648 := by omega
      subst e2; decide
    · rw [Int32.lt_iff_toInt_lt, e]
      have h3 : (nI (4294967296 - x)).toInt = ((4294967296 - x : Nat) : Int) := nI_toInt (by omega)
      have h4 : nI 0 - nI (4294967296 - x) = - nI (4294967296 - x) := by rw [nI_0]; simp
      rw [h4, sb_negT (by omega)]
      simp
      omega
theorem np_of (x : Int32) : ∃ n, n < 4294967296 ∧ x = nI n := by
  refine ⟨x.toBitVec.toNat, x.toBitVec.isLt, ?_⟩
  apply Int32.toBitVec_inj.mp
  apply BitVec.eq_of_toNat_eq
  simp [nI]
theorem np_i2l (C : np_Cx p s m args meth c cc nL own ret TS D cl cI A S) {x : Nat} (h : x < 2 ^ 31) (hdg : decode cc pc = .ok (.i2l, 1)) (k : np_V p l e R s m args below meth c ce sl D cl A Q nL w (pc + 1) vs (.long (lN x) :: st)) : np_V p l e R s m args below meth c ce sl D cl A Q nL w pc vs (.int (nI x) :: st) := fun H locs ls hL hP hS => lv_i2l C.1.1 C.1.2.1 hdg (nI_l h) (k H locs ls hL hP hS)
theorem np_l2i (C : np_Cx p s m args meth c cc nL own ret TS D cl cI A S) {x : Nat} (hdg : decode cc pc = .ok (.l2i, 1)) (k : np_V p l e R s m args below meth c ce sl D cl A Q nL w (pc + 1) vs (.int (nI x) :: st)) : np_V p l e R s m args below meth c ce sl D cl A Q nL w pc vs (.long (lN x) :: st) := fun H locs ls hL hP hS => lv_l2i C.1.1 C.1.2.1 hdg (lN_i x) (k H locs ls hL hP hS)
theorem np_lrem (C : np_Cx p s m args meth c cc nL own ret TS D cl cI A S) {x y : Nat} (hx : x < 2 ^ 63) (h0 : 0 < y) (hy : y < 2 ^ 63) (hdg : decode cc pc = .ok (.lrem, 1)) (k : np_V p l e R s m args below meth c ce sl D cl A Q nL w (pc + 1) vs (.long (lN (x % y)) :: st)) : np_V p l e R s m args below meth c ce sl D cl A Q nL w pc vs (.long (lN y) :: .long (lN x) :: st) := fun H locs ls hL hP hS => lv_lrem C.1.1 C.1.2.1 hdg (fun h => by have h2 := (pk_lEQ hy (show 0 < 2 ^ 63 by decide)).mp (h.trans (by rfl)); omega) ((pk_lRem hx h0 hy).symm ▸ k H locs ls hL hP hS)
theorem np_iand1 (C : np_Cx p s m args meth c cc nL own ret TS D cl cI A S) {x : Nat} (hx : x < 2 ^ 32) (hdg : decode cc pc = .ok (.iand, 1)) (k : np_V p l e R s m args below meth c ce sl D cl A Q nL w (pc + 1) vs (.int (nI (x % 2)) :: st)) : np_V p l e R s m args below meth c ce sl D cl A Q nL w pc vs (.int (nI 1) :: .int (nI x) :: st) := fun H locs ls hL hP hS => lv_iand C.1.1 C.1.2.1 hdg ((show nI x &&& nI 1 = nI (x % 2) from pk_andN hx 1 (by decide)).symm ▸ k H locs ls hL hP hS)
theorem np_shc : ∀ k, k < 32 → ((nI k &&& 31).toBitVec.smod 32).toNat = k := by decide
theorem np_ishr (C : np_Cx p s m args meth c cc nL own ret TS D cl cI A S) {x y : Nat} (hx : x < 2 ^ 31) (hy : y < 32) (hdg : decode cc pc = .ok (.ishr, 1)) (k : np_V p l e R s m args below meth c ce sl D cl A Q nL w (pc + 1) vs (.int (nI (x / 2 ^ y)) :: st)) : np_V p l e R s m args below meth c ce sl D cl A Q nL w pc vs (.int (nI y) :: .int (nI x) :: st) := fun H locs ls hL hP hS => lv_ishr C.1.1 C.1.2.1 hdg ((pk_shrN hx _ y (np_shc y hy)).symm ▸ k H locs ls hL hP hS)
theorem np_ishl (C : np_Cx p s m args meth c cc nL own ret TS D cl cI A S) {x y : Nat} (hy : y < 32) (hx : x * 2 ^ y < 2 ^ 32) (hdg : decode cc pc = .ok (.ishl, 1)) (k : np_V p l e R s m args below meth c ce sl D cl A Q nL w (pc + 1) vs (.int (nI (x * 2 ^ y)) :: st)) : np_V p l e R s m args below meth c ce sl D cl A Q nL w pc vs (.int (nI y) :: .int (nI x) :: st) := fun H locs ls hL hP hS => lv_ishl C.1.1 C.1.2.1 hdg ((pk_shlN _ y (np_shc y hy) hx).symm ▸ k H locs ls hL hP hS)
theorem np_xor1 {x : Nat} (hx : x < 2 ^ 31) : nI x ^^^ nI 1 = nI (if x % 2 = 0 then x + 1 else x - 1) := by
  have h1 : nI x ^^^ nI 1 = nI (x ^^^ 1) := by
    apply Int32.toBitVec_inj.mp
    apply BitVec.eq_of_toNat_eq
    simp [nI, Nat.xor_mod_two_pow]
  rw [h1]
  congr 1
  have h2 : x ^^^ 1 = if x % 2 = 0 then x + 1 else x - 1 := by
    have a1 : (x ^^^ 1) / 2 = x / 2 := by rw [Nat.xor_div_two]; simp
    have a2 : (x ^^^ 1) % 2 = 1 ↔ ¬ (x % 2 = 1 ↔ 1 % 2 = 1) := Nat.xor_mod_two_eq_one
    have a3 : x % 2 = 0 ∨ x % 2 = 1 := by omega
    have a4 := Nat.div_add_mod (x ^^^ 1) 2
    have a5 := Nat.mod_lt (x ^^^ 1) (show 0 < 2 by decide)
    rcases a3 with a3 | a3
    · have a6 : (x ^^^ 1) % 2 = 1 := a2.mpr (by simp [a3])
      rw [if_pos a3]; omega
    · have a6 : ¬ (x ^^^ 1) % 2 = 1 := fun h => a2.mp h (by simp [a3])
      rw [if_neg (by omega)]; omega
  exact h2
theorem np_ixor1 (C : np_Cx p s m args meth c cc nL own ret TS D cl cI A S) {x : Nat} (hx : x < 2 ^ 31) (hdg : decode cc pc = .ok (.ixor, 1)) (k : np_V p l e R s m args below meth c ce sl D cl A Q nL w (pc + 1) vs (.int (nI (if x % 2 = 0 then x + 1 else x - 1)) :: st)) : np_V p l e R s m args below meth c ce sl D cl A Q nL w pc vs (.int (nI 1) :: .int (nI x) :: st) := fun H locs ls hL hP hS => lv_ixor C.1.1 C.1.2.1 hdg ((np_xor1 hx).symm ▸ k H locs ls hL hP hS)
theorem np_laddR (C : np_Cx p s m args meth c cc nL own ret TS D cl cI A S) {x y : Int64} (hdg : decode cc pc = .ok (.ladd, 1)) (k : np_V p l e R s m args below meth c ce sl D cl A Q nL w (pc + 1) vs (.long (x + y) :: st)) : np_V p l e R s m args below meth c ce sl D cl A Q nL w pc vs (.long y :: .long x :: st) := fun H locs ls hL hP hS => lv_ladd C.1.1 C.1.2.1 hdg (k H locs ls hL hP hS)
theorem np_lsubR (C : np_Cx p s m args meth c cc nL own ret TS D cl cI A S) {x y : Int64} (hdg : decode cc pc = .ok (.lsub, 1)) (k : np_V p l e R s m args below meth c ce sl D cl A Q nL w (pc + 1) vs (.long (x - y) :: st)) : np_V p l e R s m args below meth c ce sl D cl A Q nL w pc vs (.long y :: .long x :: st) := fun H locs ls hL hP hS => lv_lsub C.1.1 C.1.2.1 hdg (k H locs ls hL hP hS)
theorem np_lmulR (C : np_Cx p s m args meth c cc nL own ret TS D cl cI A S) {x y : Int64} (hdg : decode cc pc = .ok (.lmul, 1)) (k : np_V p l e R s m args below meth c ce sl D cl A Q nL w (pc + 1) vs (.long (x * y) :: st)) : np_V p l e R s m args below meth c ce sl D cl A Q nL w pc vs (.long y :: .long x :: st) := fun H locs ls hL hP hS => lv_lmul C.1.1 C.1.2.1 hdg (k H locs ls hL hP hS)
theorem np_lremR (C : np_Cx p s m args meth c cc nL own ret TS D cl cI A S) {x y : Int64} (hne : ¬ y = 0) (hdg : decode cc pc = .ok (.lrem, 1)) (k : np_V p l e R s m args below meth c ce sl D cl A Q nL w (pc + 1) vs (.long (x - x / y * y) :: st)) : np_V p l e R s m args below meth c ce sl D cl A Q nL w pc vs (.long y :: .long x :: st) := fun H locs ls hL hP hS => lv_lrem C.1.1 C.1.2.1 hdg hne (k H locs ls hL hP hS)
theorem np_lcmpR (C : np_Cx p s m args meth c cc nL own ret TS D cl cI A S) {x y : Int64} (hdg : decode cc pc = .ok (.lcmp, 1)) (k : np_V p l e R s m args below meth c ce sl D cl A Q nL w (pc + 1) vs (.int (lg_cmp x y) :: st)) : np_V p l e R s m args below meth c ce sl D cl A Q nL w pc vs (.long y :: .long x :: st) := fun H locs ls hL hP hS => W.lcmp C.1.1 C.1.2.1 hdg (k H locs ls hL hP hS)
theorem np_l2iR (C : np_Cx p s m args meth c cc nL own ret TS D cl cI A S) {x : Int64} (hdg : decode cc pc = .ok (.l2i, 1)) (k : np_V p l e R s m args below meth c ce sl D cl A Q nL w (pc + 1) vs (.int x.toInt32 :: st)) : np_V p l e R s m args below meth c ce sl D cl A Q nL w pc vs (.long x :: st) := fun H locs ls hL hP hS => lv_l2i C.1.1 C.1.2.1 hdg rfl (k H locs ls hL hP hS)
theorem np_dup (C : np_Cx p s m args meth c cc nL own ret TS D cl cI A S) {v : Value} (hv : v.category = 1) (hdg : decode cc pc = .ok (.dup, 1)) (k : np_V p l e R s m args below meth c ce sl D cl A Q nL w (pc + 1) vs (v :: v :: st)) : np_V p l e R s m args below meth c ce sl D cl A Q nL w pc vs (v :: st) := fun H locs ls hL hP hS => lv_dup C.1.1 C.1.2.1 hdg hv (k H locs ls hL hP hS)
theorem np_dup2 (C : np_Cx p s m args meth c cc nL own ret TS D cl cI A S) {v u : Value} (hv : v.category = 1) (hu : u.category = 1) (hdg : decode cc pc = .ok (.dup2, 1)) (k : np_V p l e R s m args below meth c ce sl D cl A Q nL w (pc + 1) vs (v :: u :: v :: u :: st)) : np_V p l e R s m args below meth c ce sl D cl A Q nL w pc vs (v :: u :: st) := fun H locs ls hL hP hS => lv_dup2_11 C.1.1 C.1.2.1 hdg hv hu (k H locs ls hL hP hS)
theorem np_pop (C : np_Cx p s m args meth c cc nL own ret TS D cl cI A S) {v : Value} (hv : v.category = 1) (hdg : decode cc pc = .ok (.pop, 1)) (k : np_V p l e R s m args below meth c ce sl D cl A Q nL w (pc + 1) vs st) : np_V p l e R s m args below meth c ce sl D cl A Q nL w pc vs (v :: st) := fun H locs ls hL hP hS => lv_pop C.1.1 C.1.2.1 hdg hv (k H locs ls hL hP hS)
theorem np_icmp_lt (C : np_Cx p s m args meth c cc nL own ret TS D cl cI A S) {x y : Nat} {off : Int} {tgt : Nat} (hx : x < 2 ^ 31) (hy : y < 2 ^ 31) (hdg : decode cc pc = .ok (.if_icmp .lt off, 3)) (ht : (pc : Int) + off = (tgt : Int)) (kt : x < y → np_V p l e R s m args below meth c ce sl D cl A Q nL w tgt vs st) (kf : y ≤ x → np_V p l e R s m args below meth c ce sl D cl A Q nL w (pc + 3) vs st) : np_V p l e R s m args below meth c ce sl D cl A Q nL w pc vs (.int (nI y) :: .int (nI x) :: st) := fun H locs ls hL hP hS => lv_icmp_lt C.1.1 C.1.2.1 hdg ht (fun h => kt ((nI_ltI hx hy).mp h) H locs ls hL hP hS) (fun h => kf (Nat.le_of_not_lt fun q => h ((nI_ltI hx hy).mpr q)) H locs ls hL hP hS)
theorem np_icmp_ge (C : np_Cx p s m args meth c cc nL own ret TS D cl cI A S) {x y : Nat} {off : Int} {tgt : Nat} (hx : x < 2 ^ 31) (hy : y < 2 ^ 31) (hdg : decode cc pc = .ok (.if_icmp .ge off, 3)) (ht : (pc : Int) + off = (tgt : Int)) (kt : y ≤ x → np_V p l e R s m args below meth c ce sl D cl A Q nL w tgt vs st) (kf : x < y → np_V p l e R s m args below meth c ce sl D cl A Q nL w (pc + 3) vs st) : np_V p l e R s m args below meth c ce sl D cl A Q nL w pc vs (.int (nI y) :: .int (nI x) :: st) := fun H locs ls hL hP hS => lv_icmp_ge C.1.1 C.1.2.1 hdg ht (fun h => kt ((nI_leI hy hx).mp h) H locs ls hL hP hS) (fun h => kf (Nat.lt_of_not_le fun q => h ((nI_leI hy hx).mpr q)) H locs ls hL hP hS)
theorem np_icmp_gt (C : np_Cx p s m args meth c cc nL own ret TS D cl cI A S) {x y : Nat} {off : Int} {tgt : Nat} (hx : x < 2 ^ 31) (hy : y < 2 ^ 31) (hdg : decode cc pc = .ok (.if_icmp .gt off, 3)) (ht : (pc : Int) + off = (tgt : Int)) (kt : y < x → np_V p l e R s m args below meth c ce sl D cl A Q nL w tgt vs st) (kf : x ≤ y → np_V p l e R s m args below meth c ce sl D cl A Q nL w (pc + 3) vs st) : np_V p l e R s m args below meth c ce sl D cl A Q nL w pc vs (.int (nI y) :: .int (nI x) :: st) := fun H locs ls hL hP hS => lv_icmp_gt C.1.1 C.1.2.1 hdg ht (fun h => kt ((nI_ltI hy hx).mp h) H locs ls hL hP hS) (fun h => kf (Nat.le_of_not_lt fun q => h ((nI_ltI hy hx).mpr q)) H locs ls hL hP hS)
theorem np_icmp_le (C : np_Cx p s m args meth c cc nL own ret TS D cl cI A S) {x y : Nat} {off : Int} {tgt : Nat} (hx : x < 2 ^ 31) (hy : y < 2 ^ 31) (hdg : decode cc pc = .ok (.if_icmp .le off, 3)) (ht : (pc : Int) + off = (tgt : Int)) (kt : x ≤ y → np_V p l e R s m args below meth c ce sl D cl A Q nL w tgt vs st) (kf : y < x → np_V p l e R s m args below meth c ce sl D cl A Q nL w (pc + 3) vs st) : np_V p l e R s m args below meth c ce sl D cl A Q nL w pc vs (.int (nI y) :: .int (nI x) :: st) := fun H locs ls hL hP hS => lv_icmp_le C.1.1 C.1.2.1 hdg ht (fun h => kt ((nI_leI hx hy).mp h) H locs ls hL hP hS) (fun h => kf (Nat.lt_of_not_le fun q => h ((nI_leI hx hy).mpr q)) H locs ls hL hP hS)
theorem np_icmp_eq (C : np_Cx p s m args meth c cc nL own ret TS D cl cI A S) {x y : Nat} {off : Int} {tgt : Nat} (hx : x < 4294967296) (hy : y < 4294967296) (hdg : decode cc pc = .ok (.if_icmp .eq off, 3)) (ht : (pc : Int) + off = (tgt : Int)) (kt : x = y → np_V p l e R s m args below meth c ce sl D cl A Q nL w tgt vs st) (kf : x ≠ y → np_V p l e R s m args below meth c ce sl D cl A Q nL w (pc + 3) vs st) : np_V p l e R s m args below meth c ce sl D cl A Q nL w pc vs (.int (nI y) :: .int (nI x) :: st) := fun H locs ls hL hP hS => lv_icmp_eq C.1.1 C.1.2.1 hdg ht (fun h => kt ((np_nIe hx hy).mp h) H locs ls hL hP hS) (fun h => kf (fun q => h ((np_nIe hx hy).mpr q)) H locs ls hL hP hS)
theorem np_icmp_ne (C : np_Cx p s m args meth c cc nL own ret TS D cl cI A S) {x y : Nat} {off : Int} {tgt : Nat} (hx : x < 4294967296) (hy : y < 4294967296) (hdg : decode cc pc = .ok (.if_icmp .ne off, 3)) (ht : (pc : Int) + off = (tgt : Int)) (kt : x ≠ y → np_V p l e R s m args below meth c ce sl D cl A Q nL w tgt vs st) (kf : x = y → np_V p l e R s m args below meth c ce sl D cl A Q nL w (pc + 3) vs st) : np_V p l e R s m args below meth c ce sl D cl A Q nL w pc vs (.int (nI y) :: .int (nI x) :: st) := fun H locs ls hL hP hS => lv_icmp_ne C.1.1 C.1.2.1 hdg ht (fun h => kt (fun q => h ((np_nIe hx hy).mpr q)) H locs ls hL hP hS) (fun h => kf ((np_nIe hx hy).mp h) H locs ls hL hP hS)
theorem np_e0 {x : Nat} (hx : x < 4294967296) : nI x = 0 ↔ x = 0 := by
  rw [← nI_0]; exact np_nIe hx (by decide)
theorem np_ge0 {x : Nat} (hx : x < 4294967296) : 0 ≤ nI x ↔ x < 2147483648 := by
  rw [← Int32.not_lt, np_neg hx]; omega
theorem np_gt0 {x : Nat} (hx : x < 4294967296) : 0 < nI x ↔ 0 < x ∧ x < 2147483648 := by
  rw [Int32.lt_iff_le_and_ne, np_ge0 hx]
  have := np_e0 hx
  constructor
  · rintro ⟨h1, h2⟩
    exact ⟨Nat.pos_of_ne_zero fun q => h2 (this.mpr q).symm, h1⟩
  · rintro ⟨h1, h2⟩
    exact ⟨h2, fun q => by have := this.mp q.symm; omega⟩
theorem np_if_eq (C : np_Cx p s m args meth c cc nL own ret TS D cl cI A S) {x : Nat} {off : Int} {tgt : Nat} (hx : x < 4294967296) (hdg : decode cc pc = .ok (.ifCond .eq off, 3)) (ht : (pc : Int) + off = (tgt : Int)) (kt : x = 0 → np_V p l e R s m args below meth c ce sl D cl A Q nL w tgt vs st) (kf : x ≠ 0 → np_V p l e R s m args below meth c ce sl D cl A Q nL w (pc + 3) vs st) : np_V p l e R s m args below meth c ce sl D cl A Q nL w pc vs (.int (nI x) :: st) := fun H locs ls hL hP hS => lv_if_eq C.1.1 C.1.2.1 hdg ht (fun h => kt ((np_e0 hx).mp h) H locs ls hL hP hS) (fun h => kf (fun q => h ((np_e0 hx).mpr q)) H locs ls hL hP hS)
theorem np_if_ne (C : np_Cx p s m args meth c cc nL own ret TS D cl cI A S) {x : Nat} {off : Int} {tgt : Nat} (hx : x < 4294967296) (hdg : decode cc pc = .ok (.ifCond .ne off, 3)) (ht : (pc : Int) + off = (tgt : Int)) (kt : x ≠ 0 → np_V p l e R s m args below meth c ce sl D cl A Q nL w tgt vs st) (kf : x = 0 → np_V p l e R s m args below meth c ce sl D cl A Q nL w (pc + 3) vs st) : np_V p l e R s m args below meth c ce sl D cl A Q nL w pc vs (.int (nI x) :: st) := fun H locs ls hL hP hS => lv_if_ne C.1.1 C.1.2.1 hdg ht (fun h => kt (fun q => h ((np_e0 hx).mpr q)) H locs ls hL hP hS) (fun h => kf ((np_e0 hx).mp h) H locs ls hL hP hS)
theorem np_if_lt (C : np_Cx p s m args meth c cc nL own ret TS D cl cI A S) {x : Nat} {off : Int} {tgt : Nat} (hx : x < 4294967296) (hdg : decode cc pc = .ok (.ifCond .lt off, 3)) (ht : (pc : Int) + off = (tgt : Int)) (kt : 2147483648 ≤ x → np_V p l e R s m args below meth c ce sl D cl A Q nL w tgt vs st) (kf : x < 2147483648 → np_V p l e R s m args below meth c ce sl D cl A Q nL w (pc + 3) vs st) : np_V p l e R s m args below meth c ce sl D cl A Q nL w pc vs (.int (nI x) :: st) := fun H locs ls hL hP hS => lv_if_lt C.1.1 C.1.2.1 hdg ht (fun h => kt ((np_neg hx).mp h) H locs ls hL hP hS) (fun h => kf (Nat.lt_of_not_le fun q => h ((np_neg hx).mpr q)) H locs ls hL hP hS)
theorem np_if_ge (C : np_Cx p s m args meth c cc nL own ret TS D cl cI A S) {x : Nat} {off : Int} {tgt : Nat} (hx : x < 4294967296) (hdg : decode cc pc = .ok (.ifCond .ge off, 3)) (ht : (pc : Int) + off = (tgt : Int)) (kt : x < 2147483648 → np_V p l e R s m args below meth c ce sl D cl A Q nL w tgt vs st) (kf : 2147483648 ≤ x → np_V p l e R s m args below meth c ce sl D cl A Q nL w (pc + 3) vs st) : np_V p l e R s m args below meth c ce sl D cl A Q nL w pc vs (.int (nI x) :: st) := fun H locs ls hL hP hS => lv_if_ge C.1.1 C.1.2.1 hdg ht (fun h => kt ((np_ge0 hx).mp h) H locs ls hL hP hS) (fun h => kf (Nat.le_of_not_lt fun q => h ((np_ge0 hx).mpr q)) H locs ls hL hP hS)
theorem np_if_gt (C : np_Cx p s m args meth c cc nL own ret TS D cl cI A S) {x : Nat} {off : Int} {tgt : Nat} (hx : x < 2147483648) (hdg : decode cc pc = .ok (.ifCond .gt off, 3)) (ht : (pc : Int) + off = (tgt : Int)) (kt : 0 < x → np_V p l e R s m args below meth c ce sl D cl A Q nL w tgt vs st) (kf : x = 0 → np_V p l e R s m args below meth c ce sl D cl A Q nL w (pc + 3) vs st) : np_V p l e R s m args below meth c ce sl D cl A Q nL w pc vs (.int (nI x) :: st) := fun H locs ls hL hP hS => lv_if_gt C.1.1 C.1.2.1 hdg ht (fun h => kt (((np_gt0 (by omega)).mp h).1) H locs ls hL hP hS) (fun h => kf (Nat.eq_zero_of_not_pos fun q => h ((np_gt0 (by omega)).mpr ⟨q, hx⟩)) H locs ls hL hP hS)
theorem np_if_le (C : np_Cx p s m args meth c cc nL own ret TS D cl cI A S) {x : Nat} {off : Int} {tgt : Nat} (hx : x < 2147483648) (hdg : decode cc pc = .ok (.ifCond .le off, 3)) (ht : (pc : Int) + off = (tgt : Int)) (kt : x = 0 → np_V p l e R s m args below meth c ce sl D cl A Q nL w tgt vs st) (kf : 0 < x → np_V p l e R s m args below meth c ce sl D cl A Q nL w (pc + 3) vs st) : np_V p l e R s m args below meth c ce sl D cl A Q nL w pc vs (.int (nI x) :: st) := fun H locs ls hL hP hS => lv_if_le C.1.1 C.1.2.1 hdg ht (fun h => kt (Nat.eq_zero_of_not_pos fun q => absurd ((np_gt0 (x := x) (by omega)).mpr ⟨q, hx⟩) (Int32.not_lt.mpr h)) H locs ls hL hP hS) (fun h => kf (Nat.pos_of_ne_zero fun q => h (by rw [q]; decide)) H locs ls hL hP hS)
theorem np_ifz_eq (C : np_Cx p s m args meth c cc nL own ret TS D cl cI A S) {cond : Prop} [Decidable cond] {off : Int} {tgt : Nat} (hdg : decode cc pc = .ok (.ifCond .eq off, 3)) (ht : (pc : Int) + off = (tgt : Int)) (kt : ¬ cond → np_V p l e R s m args below meth c ce sl D cl A Q nL w tgt vs st) (kf : cond → np_V p l e R s m args below meth c ce sl D cl A Q nL w (pc + 3) vs st) : np_V p l e R s m args below meth c ce sl D cl A Q nL w pc vs (.int (nI (if cond then 1 else 0)) :: st) := np_if_eq C (by split <;> decide) hdg ht (fun h => kt (by by_cases hc : cond <;> simp_all)) (fun h => kf (by by_cases hc : cond <;> simp_all))
theorem np_ifz_ne (C : np_Cx p s m args meth c cc nL own ret TS D cl cI A S) {cond : Prop} [Decidable cond] {off : Int} {tgt : Nat} (hdg : decode cc pc = .ok (.ifCond .ne off, 3)) (ht : (pc : Int) + off = (tgt : Int)) (kt : cond → np_V p l e R s m args below meth c ce sl D cl A Q nL w tgt vs st) (kf : ¬ cond → np_V p l e R s m args below meth c ce sl D cl A Q nL w (pc + 3) vs st) : np_V p l e R s m args below meth c ce sl D cl A Q nL w pc vs (.int (nI (if cond then 1 else 0)) :: st) := np_if_ne C (by split <;> decide) hdg ht (fun h => kt (by by_cases hc : cond <;> simp_all)) (fun h => kf (by by_cases hc : cond <;> simp_all))
theorem np_tswI (C : np_Cx p s m args meth c cc nL own ret TS D cl cI A S) {x : Nat} {dflt lo hi off : Int} {offs : Array Int} {len tgt : Nat} (hdg : decode cc pc = .ok (.tableswitch dflt lo hi offs, len)) (h1 : ¬ (nI x).toInt < lo) (h2 : ¬ hi < (nI x).toInt) (ho : offs[((nI x).toInt - lo).toNat]? = some off) (ht : (pc : Int) + off = (tgt : Int)) (k : np_V p l e R s m args below meth c ce sl D cl A Q nL w tgt vs st) : np_V p l e R s m args below meth c ce sl D cl A Q nL w pc vs (.int (nI x) :: st) := fun H locs ls hL hP hS => lv_tableIn C.1.1 C.1.2.1 hdg h1 h2 ho ht (k H locs ls hL hP hS)
theorem np_tswO (C : np_Cx p s m args meth c cc nL own ret TS D cl cI A S) {x : Nat} {dflt lo hi : Int} {offs : Array Int} {len tgt : Nat} (hdg : decode cc pc = .ok (.tableswitch dflt lo hi offs, len)) (h : (nI x).toInt < lo ∨ hi < (nI x).toInt) (ht : (pc : Int) + dflt = (tgt : Int)) (k : np_V p l e R s m args below meth c ce sl D cl A Q nL w tgt vs st) : np_V p l e R s m args below meth c ce sl D cl A Q nL w pc vs (.int (nI x) :: st) := fun H locs ls hL hP hS => lv_tableOut C.1.1 C.1.2.1 hdg h ht (k H locs ls hL hP hS)
theorem np_goto (C : np_Cx p s m args meth c cc nL own ret TS D cl cI A S) {off : Int} {tgt : Nat} (hdg : decode cc pc = .ok (.goto off, 3)) (ht : (pc : Int) + off = (tgt : Int)) (k : np_V p l e R s m args below meth c ce sl D cl A Q nL w tgt vs st) : np_V p l e R s m args below meth c ce sl D cl A Q nL w pc vs st := fun H locs ls hL hP hS => lv_goto C.1.1 C.1.2.1 hdg ht (k H locs ls hL hP hS)
theorem np_get (C : np_Cx p s m args meth c cc nL own ret TS D cl cI A S) {ref Cn : String} {T : u_T} {N ci index : Nat} (q0 k0 : Nat) {fs : List Value} {a : Nat} {v : Value} (hdg : decode cc pc = .ok (.getfield index, 3)) (he : w[q0]? = some (a, .inr (ci, fs))) (hv : fs[k0]? = some v) (hc : cl[ci]? = some (Cn, T, N)) (hk : k0 < N) (hin : ∀ x ∈ u_ws Cn T N, x ∈ TS) (hlink : Cond.fieldLink own index ref (T k0).2.1 (T k0).2.2.1 ∈ TS) (href : (T k0).1 = ref)
    (k : np_V p l e R s m args below meth c ce sl D cl A Q nL w (pc + 3) vs (v :: st)) : np_V p l e R s m args below meth c ce sl D cl A Q nL w pc vs (.ref a :: st) := fun H locs ls hL hP hS => va_get C.1.1 C.1.2.1 C.1.2.2.2.2 hin C.1.2.2.2.1 C.2.1 hP q0 he hc k0 hk (C.1.2.2.2.2 _ hlink) (fun x h => href ▸ h) hv hdg (k H locs ls hL hP hS)
theorem np_getN (C : np_Cx p s m args meth c cc nL own ret TS D cl cI A S) {ref Cn host : String} {T : u_T} {N ci index : Nat} (q0 k0 : Nat) {fs : List Value} {a : Nat} {v : Value} (hdg : decode cc pc = .ok (.getfield index, 3)) (he : w[q0]? = some (a, .inr (ci, fs))) (hv : fs[k0]? = some v) (hc : cl[ci]? = some (Cn, T, N)) (hk : k0 < N) (hin : ∀ x ∈ u_ws Cn T N, x ∈ TS) (hlink : va_Nw (.fieldLinkNest own index ref (T k0).2.1 (T k0).2.2.1 host) s) (href : (T k0).1 = ref)
    (k : np_V p l e R s m args below meth c ce sl D cl A Q nL w (pc + 3) vs (v :: st)) : np_V p l e R s m args below meth c ce sl D cl A Q nL w pc vs (.ref a :: st) := fun H locs ls hL hP hS => va_getN C.1.1 C.1.2.1 C.1.2.2.2.2 hin C.1.2.2.2.1 C.2.1 hP q0 he hc k0 hk (va_Nw.use rfl hlink) (fun x h => href ▸ h) hv hdg (k H locs ls hL hP hS)
theorem np_put (C : np_Cx p s m args meth c cc nL own ret TS D cl cI A S) {ref Cn : String} {T : u_T} {N ci index : Nat} (q0 k0 : Nat) {fs : List Value} {a : Nat} {w' : va_W} {x : Int32} (hD : va_D A w) (hdg : decode cc pc = .ok (.putfield index, 3)) (he : w[q0]? = some (a, .inr (ci, fs))) (hw : w.set q0 (a, .inr (ci, fs.set k0 (.int x))) = w') (hc : cl[ci]? = some (Cn, T, N)) (hk : k0 < N) (hin : ∀ x ∈ u_ws Cn T N, x ∈ TS) (ty0 : Nat → FieldType) (hty : ∀ k, k < N → parseFieldDescriptor (T k).2.2.1 = some (ty0 k)) (hnm : ∀ a, a < N → ∀ b, b < N → a ≠ b → (T a).2.1 ≠ (T b).2.1) (hlink : Cond.fieldLink own index ref (T k0).2.1 (T k0).2.2.1 ∈ TS) (href : (T k0).1 = ref) (hfin : (T k0).2.2.2 = false) (hd : parseFieldDescriptor (T k0).2.2.1 = some .int) (hl : k0 < fs.length)
    (k : np_V p l e R s m args below meth c ce sl D cl A Q nL w' (pc + 3) vs st) : np_V p l e R s m args below meth c ce sl D cl A Q nL w pc vs (.int x :: .ref a :: st) := fun H locs ls hL hP hS => va_put (ty := .int) C.1.1 C.1.2.1 C.1.2.2.2.2 hin ty0 hty hnm C.1.2.2.2.1 C.2.1 hP hD hS q0 he hc k0 hk (C.1.2.2.2.2 _ hlink) (fun x h => href ▸ h) hfin hd rfl rfl hl hdg (fun H1 locs1 hP1 _ hS1 => k H1 locs1 ls hL (hw ▸ hP1) hS1)
theorem np_iald (C : np_Cx p s m args meth c cc nL own ret TS D cl cI A S) (q0 : Nat) {n j a : Nat} {f : Nat → Nat} (hdg : decode cc pc = .ok (.iaload, 1)) (he : w[q0]? = some (a, .inl (cI, n, .inl (fun i => nI (f i))))) (hj : j < n) (hn : n < 2 ^ 31)
    (k : np_V p l e R s m args below meth c ce sl D cl A Q nL w (pc + 1) vs (.int (nI (f j)) :: st)) : np_V p l e R s m args below meth c ce sl D cl A Q nL w pc vs (.int (nI j) :: .ref a :: st) := fun H locs ls hL hP hS => va_iald C.1.1 C.1.2.1 C.2.1 hP q0 0 he rfl (vp_in_nI hj hn) hdg (by
      have e : (nI j).toNatClampNeg = j := nI_clamp (Nat.lt_trans hj hn)
      simp only [e]
      exact k H locs ls hL hP hS)
theorem np_iast (C : np_Cx p s m args meth c cc nL own ret TS D cl cI A S) (q0 : Nat) {n j a v : Nat} {f : Nat → Nat} {w' : va_W} (hD : va_D A w) (hdg : decode cc pc = .ok (.iastore, 1)) (he : w[q0]? = some (a, .inl (cI, n, .inl (fun i => nI (f i))))) (hw : w.set q0 (a, .inl (cI, n, .inl (fun i => nI (updN f j v i)))) = w') (hj : j < n) (hn : n < 2 ^ 31)
    (k : np_V p l e R s m args below meth c ce sl D cl A Q nL w' (pc + 1) vs st) : np_V p l e R s m args below meth c ce sl D cl A Q nL w pc vs (.int (nI v) :: .int (nI j) :: .ref a :: st) := fun H locs ls hL hP hS => va_iast C.1.1 C.1.2.1 C.2.1 hP hD hS q0 0 he rfl (vp_in_nI hj hn) hdg (fun H1 locs1 hP1 _ hS1 => k H1 locs1 ls hL (by
      have e : (nI j).toNatClampNeg = j := nI_clamp (Nat.lt_trans hj hn)
      rw [e, upd_nI, hw] at hP1
      exact hP1) hS1)
theorem np_alen (C : np_Cx p s m args meth c cc nL own ret TS D cl cI A S) (q0 : Nat) {n a : Nat} {f : Nat → Nat} (hdg : decode cc pc = .ok (.arraylength, 1)) (he : w[q0]? = some (a, .inl (cI, n, .inl (fun i => nI (f i)))))
    (k : np_V p l e R s m args below meth c ce sl D cl A Q nL w (pc + 1) vs (.int (nI n) :: st)) : np_V p l e R s m args below meth c ce sl D cl A Q nL w pc vs (.ref a :: st) := fun H locs ls hL hP hS => va_alen C.1.1 C.1.2.1 C.2.1 hP q0 0 he rfl rfl hdg (k H locs ls hL hP hS)
theorem np_gets (C : np_Cx p s m args meth c cc nL own ret TS D cl cI A S) {Cn n d ref : String} {index : Nat} {v : Value} (hZ : va_Z Cn n d v A s s.heap) (hlink : Cond.fieldLink own index ref n d ∈ TS) (href : Cn = ref) (hdg : decode cc pc = .ok (.getstatic index, 3))
    (k : np_V p l e R s m args below meth c ce sl D cl A Q nL w (pc + 3) vs (v :: st)) : np_V p l e R s m args below meth c ce sl D cl A Q nL w pc vs st := fun H locs ls hL hP hS => va_gets C.1.1 C.1.2.1 hZ hS C.1.2.2.2.1 (C.1.2.2.2.2 _ hlink) (fun x h => href ▸ h) hdg (k H locs ls hL hP hS)
theorem np_getsN (C : np_Cx p s m args meth c cc nL own ret TS D cl cI A S) {Cn n d ref host : String} {index : Nat} {v : Value} (hZ : va_Z Cn n d v A s s.heap) (hlink : va_Nw (.fieldLinkNest own index ref n d host) s) (href : Cn = ref) (hdg : decode cc pc = .ok (.getstatic index, 3))
    (k : np_V p l e R s m args below meth c ce sl D cl A Q nL w (pc + 3) vs (v :: st)) : np_V p l e R s m args below meth c ce sl D cl A Q nL w pc vs st := fun H locs ls hL hP hS => va_getsN C.1.1 C.1.2.1 hZ hS C.1.2.2.2.1 (va_Nw.use rfl hlink) (fun x h => href ▸ h) hdg (k H locs ls hL hP hS)
theorem np_tald (C : np_Cx p s m args meth c cc nL own ret TS D cl cI A S) {t N j : Nat} {f : Nat → Nat} (hT : va_T .int t N (fun i => .int (nI (f i))) A s s.heap) (hj : j < N) (hN : N < 2 ^ 31) (hdg : decode cc pc = .ok (.iaload, 1))
    (k : np_V p l e R s m args below meth c ce sl D cl A Q nL w (pc + 1) vs (.int (nI (f j)) :: st)) : np_V p l e R s m args below meth c ce sl D cl A Q nL w pc vs (.int (nI j) :: .ref t :: st) := fun H locs ls hL hP hS => va_ti C.1.1 C.1.2.1 hT hS (vp_in_nI hj hN) (v := .int (nI (f j))) (by
      have e : (nI j).toNatClampNeg = j := nI_clamp (Nat.lt_trans hj hN)
      simp only [e]) hdg (k H locs ls hL hP hS)
theorem np_tlen (C : np_Cx p s m args meth c cc nL own ret TS D cl cI A S) {t N : Nat} {f : Nat → Value} (hT : va_T .int t N f A s s.heap) (hdg : decode cc pc = .ok (.arraylength, 1))
    (k : np_V p l e R s m args below meth c ce sl D cl A Q nL w (pc + 1) vs (.int (nI N) :: st)) : np_V p l e R s m args below meth c ce sl D cl A Q nL w pc vs (.ref t :: st) := fun H locs ls hL hP hS => va_tlen C.1.1 C.1.2.1 hT hS rfl hdg (k H locs ls hL hP hS)
theorem np_iret (C : np_Cx p s m args meth c cc nL own (some .int) TS D cl cI A S) {x y : Nat} {w' : va_W} (hdg : decode cc pc = .ok (.ireturn, 1)) (hv : x = y) (hw : w = w') : np_V p l e R s m args below meth c 0 0 D cl A (MQ below (np_Qc D cl A (some (.int (nI y))) w') args s 0 0 A) nL w pc vs [.int (nI x)] := by
  subst hv; subst hw
  intro H locs ls hL hP hS
  have hlk := C.2.2.2.2.2
  exact W.iret C.1.1 C.1.2.1 C.2.2.2.2.1 (fun t ht hW => ⟨rfl, by rw [ht]; exact hP, hS.F ht⟩) hS.2.2 hdg hlk
theorem np_zret (C : np_Cx p s m args meth c cc nL own (some .boolean) TS D cl cI A S) {x y : Nat} {w' : va_W} (hdg : decode cc pc = .ok (.ireturn, 1)) (hb : x < 2) (hv : x = y) (hw : w = w') : np_V p l e R s m args below meth c 0 0 D cl A (MQ below (np_Qc D cl A (some (.int (nI y))) w') args s 0 0 A) nL w pc vs [.int (nI x)] := by
  subst hv; subst hw
  intro H locs ls hL hP hS
  have hlk := C.2.2.2.2.2
  have hn : narrow .boolean (.int (nI x)) = .int (nI x) := by
    rcases (show x = 0 ∨ x = 1 by omega) with rfl | rfl <;> rfl
  exact W.zret C.1.1 C.1.2.1 C.2.2.2.2.1 hn (fun t ht hW => ⟨rfl, by rw [ht]; exact hP, hS.F ht⟩) hS.2.2 hdg hlk
theorem np_vret (C : np_Cx p s m args meth c cc nL own none TS D cl cI A S) {w' : va_W} (hdg : decode cc pc = .ok (.return_, 1)) (hw : w = w') : np_V p l e R s m args below meth c 0 0 D cl A (MQ below (np_Qc D cl A none w') args s 0 0 A) nL w pc vs [] := by
  subst hw
  intro H locs ls hL hP hS
  have hlk := C.2.2.2.2.2
  exact W.vret C.1.1 C.1.2.1 C.2.2.2.2.1 (fun t ht hW => ⟨rfl, by rw [ht]; exact hP, hS.F ht⟩) hS.2.2 hdg hlk
/-- all words of TS may be handed on -/
def np_good (TS : List Cond) : Prop := ∀ x ∈ TS, (x.onTables && x.keeps) = true ∨ ∃ ty, x = .arrayClass ty
theorem np_GoodIn {TS : List Cond} (h : np_good TS) {x : Cond} (hx : x ∈ TS) : GoodIn TS (x :: TS) := by
  intro z hz
  rcases List.mem_cons.mp hz with rfl | hz
  · exact ⟨hx, h _ hx⟩
  · exact ⟨hz, h _ hz⟩
/-- behind a call -/
theorem np_back {rv : Option Value} {w' : va_W} {a : Array Value} {st0 rest : List Value} (hr : ∀ (H : Heap) (locs : List Loc) (ls : Array Slot), np_LV ls nL vs → va_P D cl w H → va_S A s.heap H locs → va_Run p l e R s m args below meth c H locs 0 0 0 0 (F0 m pc ls st0) rest (np_Qc D cl A rv w' a) A)
    (k : np_V p l e R s m args below meth c 0 0 D cl A Q nL w' (pc + 3) vs (rv.toList ++ rest)) : np_V p l e R s m args below meth c 0 0 D cl A Q nL w pc vs st0 := by
  intro H locs ls hL hP hS T hT X
  obtain ⟨v, st₀, t, T', L, h0, X', hLo, e1, e2, ⟨hv, hPt, hz, hk⟩, go⟩ := hr H locs ls hL hP hS T hT X
  cases hv
  rw [h0] at hz hk
  have hS' : va_S A s.heap T'.heap (locs ++ L) := ⟨Nat.le_trans hS.1 (by rw [e1]; exact hz), fun q h1 h2 => by rw [e1, hk q (Nat.lt_of_lt_of_le h1 hS.1) h2]; exact hS.2.1 q h1 h2, fun q hq => by
    rcases List.mem_append.mp hq with h | h
    · exact hS.2.2 q h
    · exact hLo q h⟩
  obtain ⟨t2, a1, b1⟩ := k T'.heap (locs ++ L) ls hL (by rw [e1]; exact hPt) hS' T' rfl X'
  exact ⟨t2, go t2 a1, b1⟩
theorem np_preS (C : np_Cx p s m args meth c cc nL own ret TS D cl cI A S) {av : List Value} {H : Heap} {locs : List Loc} (hP : va_P D cl w H) (hS : va_S A s.heap H locs) : PreS s H (np_Pc D cl cI S w av) av := by
  refine ⟨fun a U g mk q => ?_, fun U hU hW => ?_⟩
  · obtain ⟨q0, q1, q2, q3⟩ := q
    exact ⟨q0, q1, va_K.moved (u := U) (U := U.calling g mk a) (Vm.Alike.refl U.vm) q2, C.2.2.2.1.1 U g mk a q3⟩
  · exact ⟨rfl, by rw [hU]; exact hP, va_K.moved hW.alike C.2.1, C.2.2.2.1.2 s U C.2.2.1 hW (fun q h1 h2 => by rw [hU]; exact hS.2.1 q h1 h2)⟩
theorem np_cb (C : np_Cx p s m args meth c cc nL own ret TS D cl cI A S) {index : Nat} {y : MethodName} {b : ByteArray} {mL n : Nat} {k k' : Nat × Nat} {rt : Option FieldType} (hg : np_good TS) (hc : Cond.code y b mL rt ∈ TS) (hl : Cond.methodLink own index y ∈ TS) (hini : Cond.initialized y.cls ∈ TS) (hd : y.cls ≠ "java/lang/invoke/MethodHandle" ∧ y.cls ≠ "java/lang/invoke/VarHandle" ∧ (parseMethodDescriptor y.desc).map (fun d => d.parameters.length) = some n) (hk : k'.1 + 1 ≤ k.1 ∧ 8 + (mL + 11) + k'.2 ≤ k.2) : CallB (np_rm k) s args own index y b mL rt (.code y b mL rt :: TS) (np_rm k') 0 0 n :=
  callB_of n C.1.2.2.2.2 (np_GoodIn hg hc) rfl rfl rfl (C.1.2.2.2.2 _ hini) (C.1.2.2.2.2 _ hl) hd hk
theorem np_cbN (C : np_Cx p s m args meth c cc nL own ret TS D cl cI A S) {index : Nat} {y : MethodName} {host : String} {b : ByteArray} {mL n : Nat} {k k' : Nat × Nat} {rt : Option FieldType} (hg : np_good TS) (hc : Cond.code y b mL rt ∈ TS) (hl : va_Nw (.methodLinkNest own index y host) s) (hini : Cond.initialized y.cls ∈ TS) (hd : y.cls ≠ "java/lang/invoke/MethodHandle" ∧ y.cls ≠ "java/lang/invoke/VarHandle" ∧ (parseMethodDescriptor y.desc).map (fun d => d.parameters.length) = some n) (hk : k'.1 + 1 ≤ k.1 ∧ 8 + (mL + 11) + k'.2 ≤ k.2) : va_CN (np_rm k) s args own index y host b mL rt (.code y b mL rt :: TS) (np_rm k') 0 0 n :=
  va_cnB n C.1.2.2.2.2 (np_GoodIn hg hc) rfl rfl rfl hl (C.1.2.2.2.2 _ hini) hd hk
theorem np_cS (C : np_Cx p s m args meth c cc nL own ret TS D cl cI A S) {index : Nat} {y : MethodName} {b : ByteArray} {mL n : Nat} {k k' : Nat × Nat} {rt : Option FieldType} {rv : Option Value} {w' : va_W} {rest : List Value} {av : List Value} (hM : np_Ct l D cl cI A S TS k' y b mL rt av w rv w') (hg : np_good TS) (hdg : decode cc pc = .ok (.invokestatic index, 3)) (hc : Cond.code y b mL rt ∈ TS) (hl : Cond.methodLink own index y ∈ TS) (hini : Cond.initialized y.cls ∈ TS) (hst : Cond.static y ∈ TS) (hd : y.cls ≠ "java/lang/invoke/MethodHandle" ∧ y.cls ≠ "java/lang/invoke/VarHandle" ∧ (parseMethodDescriptor y.desc).map (fun d => d.parameters.length) = some n) (hk : k'.1 + 1 ≤ k.1 ∧ 8 + (mL + 11) + k'.2 ≤ k.2) (hn : av.length = n) (hstk : st = av.reverse ++ rest) (hroom : (rest.map fun v => v.category).sum ≤ 8)
    (kk : np_V p l e (np_rm k) s m args below meth c 0 0 D cl A Q nL w' (pc + 3) vs (rv.toList ++ rest)) : np_V p l e (np_rm k) s m args below meth c 0 0 D cl A Q nL w pc vs st := by
  subst hstk
  refine np_back (a := av.toArray) (rest := rest) (fun H locs ls hL hP hS => ?_) kk
  exact va_runS C.1 hM ⟨np_cb C hg hc hl hini hd hk, C.1.2.2.2.2 _ hst⟩ (np_preS C hP hS) rfl hn hL.1 rfl (lv_room hroom) hdg ⟨Nat.le_refl _, Nat.le_refl _⟩
theorem np_cSN (C : np_Cx p s m args meth c cc nL own ret TS D cl cI A S) {index : Nat} {y : MethodName} {b : ByteArray} {mL n : Nat} {k k' : Nat × Nat} {rt : Option FieldType} {rv : Option Value} {w' : va_W} {rest : List Value} {host : String} {av : List Value} (hM : np_Ct l D cl cI A S TS k' y b mL rt av w rv w') (hg : np_good TS) (hdg : decode cc pc = .ok (.invokestatic index, 3)) (hc : Cond.code y b mL rt ∈ TS) (hl : va_Nw (.methodLinkNest own index y host) s) (hini : Cond.initialized y.cls ∈ TS) (hst : Cond.static y ∈ TS) (hd : y.cls ≠ "java/lang/invoke/MethodHandle" ∧ y.cls ≠ "java/lang/invoke/VarHandle" ∧ (parseMethodDescriptor y.desc).map (fun d => d.parameters.length) = some n) (hk : k'.1 + 1 ≤ k.1 ∧ 8 + (mL + 11) + k'.2 ≤ k.2) (hn : av.length = n) (hstk : st = av.reverse ++ rest) (hroom : (rest.map fun v => v.category).sum ≤ 8)
    (kk : np_V p l e (np_rm k) s m args below meth c 0 0 D cl A Q nL w' (pc + 3) vs (rv.toList ++ rest)) : np_V p l e (np_rm k) s m args below meth c 0 0 D cl A Q nL w pc vs st := by
  subst hstk
  refine np_back (a := av.toArray) (rest := rest) (fun H locs ls hL hP hS => ?_) kk
  exact va_runSN C.1 hM ⟨np_cbN C hg hc hl hini hd hk, C.1.2.2.2.2 _ hst, trivial⟩ (np_preS C hP hS) rfl hn hL.1 rfl (lv_room hroom) hdg ⟨Nat.le_refl _, Nat.le_refl _⟩
theorem np_cV (C : np_Cx p s m args meth c cc nL own ret TS D cl cI A S) {index : Nat} {y : MethodName} {b : ByteArray} {mL n : Nat} {k k' : Nat × Nat} {rt : Option FieldType} {rv : Option Value} {w' : va_W} {rest : List Value} {Cn : String} {T : u_T} {N ci a : Nat} {fs : List Value} {As : List Value} (q0 : Nat) (hM : np_Ct l D cl cI A S TS k' y b mL rt (.ref a :: As) w rv w') (hg : np_good TS) (hdg : decode cc pc = .ok (.invokevirtual index, 3)) (he : w[q0]? = some (a, .inr (ci, fs))) (hcl : cl[ci]? = some (Cn, T, N)) (hc : Cond.code y b mL rt ∈ TS) (hl : Cond.methodLink own index y ∈ TS) (hini : Cond.initialized y.cls ∈ TS) (hins : Cond.instanceMethod y ∈ TS) (hsel : Cond.selects Cn y y ∈ TS) (hd : y.cls ≠ "java/lang/invoke/MethodHandle" ∧ y.cls ≠ "java/lang/invoke/VarHandle" ∧ (parseMethodDescriptor y.desc).map (fun d => d.parameters.length) = some n) (hk : k'.1 + 1 ≤ k.1 ∧ 8 + (mL + 11) + k'.2 ≤ k.2) (hn : As.length = n) (hstk : st = As.reverse ++ .ref a :: rest) (hroom : (rest.map fun v => v.category).sum ≤ 8)
    (kk : np_V p l e (np_rm k) s m args below meth c 0 0 D cl A Q nL w' (pc + 3) vs (rv.toList ++ rest)) : np_V p l e (np_rm k) s m args below meth c 0 0 D cl A Q nL w pc vs st := by
  subst hstk
  refine np_back (a := (Value.ref a :: As).toArray) (rest := rest) (fun H locs ls hL hP hS => ?_) kk
  have hp := np_preS C (av := .ref a :: As) hP hS
  exact va_runV C.1 hM ⟨np_cb C hg hc hl hini hd hk, C.1.2.2.2.2 _ hins, C.1.2.2.2.2 _ hsel⟩ ⟨hp.1, va_recv C.2.1 hP hcl he, hp.2⟩ rfl hn hL.1 rfl (lv_room hroom) hdg ⟨Nat.le_refl _, Nat.le_refl _⟩
theorem np_cVN (C : np_Cx p s m args meth c cc nL own ret TS D cl cI A S) {index : Nat} {y : MethodName} {b : ByteArray} {mL n : Nat} {k k' : Nat × Nat} {rt : Option FieldType} {rv : Option Value} {w' : va_W} {rest : List Value} {Cn host : String} {T : u_T} {N ci a : Nat} {fs : List Value} {As : List Value} (q0 : Nat) (hM : np_Ct l D cl cI A S TS k' y b mL rt (.ref a :: As) w rv w') (hg : np_good TS) (hdg : decode cc pc = .ok (.invokevirtual index, 3)) (he : w[q0]? = some (a, .inr (ci, fs))) (hcl : cl[ci]? = some (Cn, T, N)) (hc : Cond.code y b mL rt ∈ TS) (hl : va_Nw (.methodLinkNest own index y host) s) (hini : Cond.initialized y.cls ∈ TS) (hins : Cond.instanceMethod y ∈ TS) (hsel : Cond.selects Cn y y ∈ TS) (hd : y.cls ≠ "java/lang/invoke/MethodHandle" ∧ y.cls ≠ "java/lang/invoke/VarHandle" ∧ (parseMethodDescriptor y.desc).map (fun d => d.parameters.length) = some n) (hk : k'.1 + 1 ≤ k.1 ∧ 8 + (mL + 11) + k'.2 ≤ k.2) (hn : As.length = n) (hstk : st = As.reverse ++ .ref a :: rest) (hroom : (rest.map fun v => v.category).sum ≤ 8)
    (kk : np_V p l e (np_rm k) s m args below meth c 0 0 D cl A Q nL w' (pc + 3) vs (rv.toList ++ rest)) : np_V p l e (np_rm k) s m args below meth c 0 0 D cl A Q nL w pc vs st := by
  subst hstk
  refine np_back (a := (Value.ref a :: As).toArray) (rest := rest) (fun H locs ls hL hP hS => ?_) kk
  have hp := np_preS C (av := .ref a :: As) hP hS
  exact va_runVN C.1 hM ⟨np_cbN C hg hc hl hini hd hk, C.1.2.2.2.2 _ hins, C.1.2.2.2.2 _ hsel⟩ ⟨hp.1, va_recv C.2.1 hP hcl he, hp.2⟩ rfl hn hL.1 rfl (lv_room hroom) hdg ⟨Nat.le_refl _, Nat.le_refl _⟩
theorem np_cSi (C : np_Cx p s m args meth c cc nL own ret TS D cl cI A S) {index : Nat} {y : MethodName} {b : ByteArray} {mL n : Nat} {k k' : Nat × Nat} {rt : Option FieldType} {w' : va_W} {rest : List Value} {r : Int32} {av : List Value} (hM : np_Ct l D cl cI A S TS k' y b mL rt av w (some (.int r)) w') (hg : np_good TS) (hdg : decode cc pc = .ok (.invokestatic index, 3)) (hc : Cond.code y b mL rt ∈ TS) (hl : Cond.methodLink own index y ∈ TS) (hini : Cond.initialized y.cls ∈ TS) (hst : Cond.static y ∈ TS) (hd : y.cls ≠ "java/lang/invoke/MethodHandle" ∧ y.cls ≠ "java/lang/invoke/VarHandle" ∧ (parseMethodDescriptor y.desc).map (fun d => d.parameters.length) = some n) (hk : k'.1 + 1 ≤ k.1 ∧ 8 + (mL + 11) + k'.2 ≤ k.2) (hn : av.length = n) (hstk : st = av.reverse ++ rest) (hroom : (rest.map fun v => v.category).sum ≤ 8) (kk : np_V p l e (np_rm k) s m args below meth c 0 0 D cl A Q nL w' (pc + 3) vs (.int r :: rest)) : np_V p l e (np_rm k) s m args below meth c 0 0 D cl A Q nL w pc vs st := np_cS C hM hg hdg hc hl hini hst hd hk hn hstk hroom kk
theorem np_cSv (C : np_Cx p s m args meth c cc nL own ret TS D cl cI A S) {index : Nat} {y : MethodName} {b : ByteArray} {mL n : Nat} {k k' : Nat × Nat} {rt : Option FieldType} {w' : va_W} {rest : List Value} {av : List Value} (hM : np_Ct l D cl cI A S TS k' y b mL rt av w none w') (hg : np_good TS) (hdg : decode cc pc = .ok (.invokestatic index, 3)) (hc : Cond.code y b mL rt ∈ TS) (hl : Cond.methodLink own index y ∈ TS) (hini : Cond.initialized y.cls ∈ TS) (hst : Cond.static y ∈ TS) (hd : y.cls ≠ "java/lang/invoke/MethodHandle" ∧ y.cls ≠ "java/lang/invoke/VarHandle" ∧ (parseMethodDescriptor y.desc).map (fun d => d.parameters.length) = some n) (hk : k'.1 + 1 ≤ k.1 ∧ 8 + (mL + 11) + k'.2 ≤ k.2) (hn : av.length = n) (hstk : st = av.reverse ++ rest) (hroom : (rest.map fun v => v.category).sum ≤ 8) (kk : np_V p l e (np_rm k) s m args below meth c 0 0 D cl A Q nL w' (pc + 3) vs rest) : np_V p l e (np_rm k) s m args below meth c 0 0 D cl A Q nL w pc vs st := np_cS C hM hg hdg hc hl hini hst hd hk hn hstk hroom kk
theorem np_cSNi (C : np_Cx p s m args meth c cc nL own ret TS D cl cI A S) {index : Nat} {y : MethodName} {b : ByteArray} {mL n : Nat} {k k' : Nat × Nat} {rt : Option FieldType} {w' : va_W} {rest : List Value} {r : Int32} {host : String} {av : List Value} (hM : np_Ct l D cl cI A S TS k' y b mL rt av w (some (.int r)) w') (hg : np_good TS) (hdg : decode cc pc = .ok (.invokestatic index, 3)) (hc : Cond.code y b mL rt ∈ TS) (hl : va_Nw (.methodLinkNest own index y host) s) (hini : Cond.initialized y.cls ∈ TS) (hst : Cond.static y ∈ TS) (hd : y.cls ≠ "java/lang/invoke/MethodHandle" ∧ y.cls ≠ "java/lang/invoke/VarHandle" ∧ (parseMethodDescriptor y.desc).map (fun d => d.parameters.length) = some n) (hk : k'.1 + 1 ≤ k.1 ∧ 8 + (mL + 11) + k'.2 ≤ k.2) (hn : av.length = n) (hstk : st = av.reverse ++ rest) (hroom : (rest.map fun v => v.category).sum ≤ 8) (kk : np_V p l e (np_rm k) s m args below meth c 0 0 D cl A Q nL w' (pc + 3) vs (.int r :: rest)) : np_V p l e (np_rm k) s m args below meth c 0 0 D cl A Q nL w pc vs st := np_cSN C hM hg hdg hc hl hini hst hd hk hn hstk hroom kk
theorem np_cSNv (C : np_Cx p s m args meth c cc nL own ret TS D cl cI A S) {index : Nat} {y : MethodName} {b : ByteArray} {mL n : Nat} {k k' : Nat × Nat} {rt : Option FieldType} {w' : va_W} {rest : List Value} {host : String} {av : List Value} (hM : np_Ct l D cl cI A S TS k' y b mL rt av w none w') (hg : np_good TS) (hdg : decode cc pc = .ok (.invokestatic index, 3)) (hc : Cond.code y b mL rt ∈ TS) (hl : va_Nw (.methodLinkNest own index y host) s) (hini : Cond.initialized y.cls ∈ TS) (hst : Cond.static y ∈ TS) (hd : y.cls ≠ "java/lang/invoke/MethodHandle" ∧ y.cls ≠ "java/lang/invoke/VarHandle" ∧ (parseMethodDescriptor y.desc).map (fun d => d.parameters.length) = some n) (hk : k'.1 + 1 ≤ k.1 ∧ 8 + (mL + 11) + k'.2 ≤ k.2) (hn : av.length = n) (hstk : st = av.reverse ++ rest) (hroom : (rest.map fun v => v.category).sum ≤ 8) (kk : np_V p l e (np_rm k) s m args below meth c 0 0 D cl A Q nL w' (pc + 3) vs rest) : np_V p l e (np_rm k) s m args below meth c 0 0 D cl A Q nL w pc vs st := np_cSN C hM hg hdg hc hl hini hst hd hk hn hstk hroom kk
theorem np_cVi (C : np_Cx p s m args meth c cc nL own ret TS D cl cI A S) {index : Nat} {y : MethodName} {b : ByteArray} {mL n : Nat} {k k' : Nat × Nat} {rt : Option FieldType} {w' : va_W} {rest : List Value} {r : Int32} {Cn : String} {T : u_T} {N ci a : Nat} {fs : List Value} {As : List Value} (q0 : Nat) (hM : np_Ct l D cl cI A S TS k' y b mL rt (.ref a :: As) w (some (.int r)) w') (hg : np_good TS) (hdg : decode cc pc = .ok (.invokevirtual index, 3)) (he : w[q0]? = some (a, .inr (ci, fs))) (hcl : cl[ci]? = some (Cn, T, N)) (hc : Cond.code y b mL rt ∈ TS) (hl : Cond.methodLink own index y ∈ TS) (hini : Cond.initialized y.cls ∈ TS) (hins : Cond.instanceMethod y ∈ TS) (hsel : Cond.selects Cn y y ∈ TS) (hd : y.cls ≠ "java/lang/invoke/MethodHandle" ∧ y.cls ≠ "java/lang/invoke/VarHandle" ∧ (parseMethodDescriptor y.desc).map (fun d => d.parameters.length) = some n) (hk : k'.1 + 1 ≤ k.1 ∧ 8 + (mL + 11) + k'.2 ≤ k.2) (hn : As.length = n) (hstk : st = As.reverse ++ .ref a :: rest) (hroom : (rest.map fun v => v.category).sum ≤ 8) (kk : np_V p l e (np_rm k) s m args below meth c 0 0 D cl A Q nL w' (pc + 3) vs (.int r :: rest)) : np_V p l e (np_rm k) s m args below meth c 0 0 D cl A Q nL w pc vs st := np_cV C q0 hM hg hdg he hcl hc hl hini hins hsel hd hk hn hstk hroom kk
theorem np_cVv (C : np_Cx p s m args meth c cc nL own ret TS D cl cI A S) {index : Nat} {y : MethodName} {b : ByteArray} {mL n : Nat} {k k' : Nat × Nat} {rt : Option FieldType} {w' : va_W} {rest : List Value} {Cn : String} {T : u_T} {N ci a : Nat} {fs : List Value} {As : List Value} (q0 : Nat) (hM : np_Ct l D cl cI A S TS k' y b mL rt (.ref a :: As) w none w') (hg : np_good TS) (hdg : decode cc pc = .ok (.invokevirtual index, 3)) (he : w[q0]? = some (a, .inr (ci, fs))) (hcl : cl[ci]? = some (Cn, T, N)) (hc : Cond.code y b mL rt ∈ TS) (hl : Cond.methodLink own index y ∈ TS) (hini : Cond.initialized y.cls ∈ TS) (hins : Cond.instanceMethod y ∈ TS) (hsel : Cond.selects Cn y y ∈ TS) (hd : y.cls ≠ "java/lang/invoke/MethodHandle" ∧ y.cls ≠ "java/lang/invoke/VarHandle" ∧ (parseMethodDescriptor y.desc).map (fun d => d.parameters.length) = some n) (hk : k'.1 + 1 ≤ k.1 ∧ 8 + (mL + 11) + k'.2 ≤ k.2) (hn : As.length = n) (hstk : st = As.reverse ++ .ref a :: rest) (hroom : (rest.map fun v => v.category).sum ≤ 8) (kk : np_V p l e (np_rm k) s m args below meth c 0 0 D cl A Q nL w' (pc + 3) vs rest) : np_V p l e (np_rm k) s m args below meth c 0 0 D cl A Q nL w pc vs st := np_cV C q0 hM hg hdg he hcl hc hl hini hins hsel hd hk hn hstk hroom kk
theorem np_cVNi (C : np_Cx p s m args meth c cc nL own ret TS D cl cI A S) {index : Nat} {y : MethodName} {b : ByteArray} {mL n : Nat} {k k' : Nat × Nat} {rt : Option FieldType} {w' : va_W} {rest : List Value} {r : Int32} {Cn host : String} {T : u_T} {N ci a : Nat} {fs : List Value} {As : List Value} (q0 : Nat) (hM : np_Ct l D cl cI A S TS k' y b mL rt (.ref a :: As) w (some (.int r)) w') (hg : np_good TS) (hdg : decode cc pc = .ok (.invokevirtual index, 3)) (he : w[q0]? = some (a, .inr (ci, fs))) (hcl : cl[ci]? = some (Cn, T, N)) (hc : Cond.code y b mL rt ∈ TS) (hl : va_Nw (.methodLinkNest own index y host) s) (hini : Cond.initialized y.cls ∈ TS) (hins : Cond.instanceMethod y ∈ TS) (hsel : Cond.selects Cn y y ∈ TS) (hd : y.cls ≠ "java/lang/invoke/MethodHandle" ∧ y.cls ≠ "java/lang/invoke/VarHandle" ∧ (parseMethodDescriptor y.desc).map (fun d => d.parameters.length) = some n) (hk : k'.1 + 1 ≤ k.1 ∧ 8 + (mL + 11) + k'.2 ≤ k.2) (hn : As.length = n) (hstk : st = As.reverse ++ .ref a :: rest) (hroom : (rest.map fun v => v.category).sum ≤ 8) (kk : np_V p l e (np_rm k) s m args below meth c 0 0 D cl A Q nL w' (pc + 3) vs (.int r :: rest)) : np_V p l e (np_rm k) s m args below meth c 0 0 D cl A Q nL w pc vs st := np_cVN C q0 hM hg hdg he hcl hc hl hini hins hsel hd hk hn hstk hroom kk
theorem np_cVNv (C : np_Cx p s m args meth c cc nL own ret TS D cl cI A S) {index : Nat} {y : MethodName} {b : ByteArray} {mL n : Nat} {k k' : Nat × Nat} {rt : Option FieldType} {w' : va_W} {rest : List Value} {Cn host : String} {T : u_T} {N ci a : Nat} {fs : List Value} {As : List Value} (q0 : Nat) (hM : np_Ct l D cl cI A S TS k' y b mL rt (.ref a :: As) w none w') (hg : np_good TS) (hdg : decode cc pc = .ok (.invokevirtual index, 3)) (he : w[q0]? = some (a, .inr (ci, fs))) (hcl : cl[ci]? = some (Cn, T, N)) (hc : Cond.code y b mL rt ∈ TS) (hl : va_Nw (.methodLinkNest own index y host) s) (hini : Cond.initialized y.cls ∈ TS) (hins : Cond.instanceMethod y ∈ TS) (hsel : Cond.selects Cn y y ∈ TS) (hd : y.cls ≠ "java/lang/invoke/MethodHandle" ∧ y.cls ≠ "java/lang/invoke/VarHandle" ∧ (parseMethodDescriptor y.desc).map (fun d => d.parameters.length) = some n) (hk : k'.1 + 1 ≤ k.1 ∧ 8 + (mL + 11) + k'.2 ≤ k.2) (hn : As.length = n) (hstk : st = As.reverse ++ .ref a :: rest) (hroom : (rest.map fun v => v.category).sum ≤ 8) (kk : np_V p l e (np_rm k) s m args below meth c 0 0 D cl A Q nL w' (pc + 3) vs rest) : np_V p l e (np_rm k) s m args below meth c 0 0 D cl A Q nL w pc vs st := np_cVN C q0 hM hg hdg he hcl hc hl hini hins hsel hd hk hn hstk hroom kk
theorem np_iastG (C : np_Cx p s m args meth c cc nL own ret TS D cl cI A S) (g : (Nat → Nat → Nat) → va_W) (X : Nat → Nat → Nat) (q0 q : Nat) {n j a v : Nat} (hD : va_D A (g X)) (hdg : decode cc pc = .ok (.iastore, 1)) (he : (g X)[q0]? = some (a, .inl (cI, n, .inl (fun i => nI (X q i))))) (hw : ∀ f : Nat → Nat, (g X).set q0 (a, .inl (cI, n, .inl (fun i => nI (f i)))) = g (va_up X q f)) (hj : j < n) (hn : n < 2 ^ 31)
    (k : np_V p l e R s m args below meth c ce sl D cl A Q nL (g (va_up X q (updN (X q) j v))) (pc + 1) vs st) : np_V p l e R s m args below meth c ce sl D cl A Q nL (g X) pc vs (.int (nI v) :: .int (nI j) :: .ref a :: st) := np_iast C q0 hD hdg he (hw _) hj hn k
theorem np_putG (C : np_Cx p s m args meth c cc nL own ret TS D cl cI A S) (g : (Nat → Nat → Nat) → va_W) (X : Nat → Nat → Nat) (q0 k0 i0 : Nat) {ref Cn : String} {T : u_T} {N ci index a v : Nat} {fs : List Value} (hD : va_D A (g X)) (hdg : decode cc pc = .ok (.putfield index, 3)) (he : (g X)[q0]? = some (a, .inr (ci, fs))) (hw : ∀ z : Nat, (g X).set q0 (a, .inr (ci, fs.set k0 (.int (nI z)))) = g (va_up X 0 (updN (X 0) i0 z))) (hc : cl[ci]? = some (Cn, T, N)) (hk : k0 < N) (hin : ∀ x ∈ u_ws Cn T N, x ∈ TS) (ty0 : Nat → FieldType) (hty : ∀ k, k < N → parseFieldDescriptor (T k).2.2.1 = some (ty0 k)) (hnm : ∀ a, a < N → ∀ b, b < N → a ≠ b → (T a).2.1 ≠ (T b).2.1) (hlink : Cond.fieldLink own index ref (T k0).2.1 (T k0).2.2.1 ∈ TS) (href : (T k0).1 = ref) (hfin : (T k0).2.2.2 = false) (hd : parseFieldDescriptor (T k0).2.2.1 = some .int) (hl : k0 < fs.length)
    (k : np_V p l e R s m args below meth c ce sl D cl A Q nL (g (va_up X 0 (updN (X 0) i0 v))) (pc + 3) vs st) : np_V p l e R s m args below meth c ce sl D cl A Q nL (g X) pc vs (.int (nI v) :: .ref a :: st) := np_put C q0 k0 hD hdg he (hw v) hc hk hin ty0 hty hnm hlink href hfin hd hl k
end NPR
