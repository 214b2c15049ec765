/-! THE TWO WORLDS: the class's twelve cells, the reference's seven -/
def np_gw (a : Nat → Nat) (cI : ClassId) (X : np_X) : va_W := [
  (a 0, .inr (0, [.ref (a 1), .ref (a 2), .ref (a 3), .ref (a 4), .ref (a 5), .ref (a 8), .ref (a 10), .int (nI (X 0 0))])),
  (a 1, .inl (cI, 4, .inl (fun i => nI (X 1 i)))),
  (a 2, .inl (cI, 16, .inl (fun i => nI (X 2 i)))),
  (a 3, .inl (cI, 16, .inl (fun i => nI (X 3 i)))),
  (a 4, .inl (cI, 16, .inl (fun i => nI (X 4 i)))),
  (a 5, .inr (1, [.ref (a 6), .ref (a 7), .int (nI (X 0 1))])),
  (a 6, .inl (cI, 32, .inl (fun i => nI (X 6 i)))),
  (a 7, .inl (cI, 17, .inl (fun i => nI (X 7 i)))),
  (a 8, .inr (2, [.ref (a 9), .int (nI (X 0 2))])),
  (a 9, .inl (cI, 16, .inl (fun i => nI (X 9 i)))),
  (a 10, .inr (3, [.ref (a 11)])),
  (a 11, .inl (cI, 125, .inl (fun i => nI (X 11 i))))]
def np_mw (a : Nat → Nat) (cI : ClassId) (Y : np_X) : va_W := [
  (a 0, .inr (4, [.int (nI (Y 0 0)), .ref (a 1), .ref (a 2), .ref (a 3), .int (nI (Y 0 1)), .ref (a 4), .int (nI (Y 0 2)), .ref (a 5), .ref (a 6)])),
  (a 1, .inl (cI, 16, .inl (fun i => nI (Y 1 i)))),
  (a 2, .inl (cI, 16, .inl (fun i => nI (Y 2 i)))),
  (a 3, .inl (cI, 16, .inl (fun i => nI (Y 3 i)))),
  (a 4, .inl (cI, 16, .inl (fun i => nI (Y 4 i)))),
  (a 5, .inl (cI, 125, .inl (fun i => nI (Y 5 i)))),
  (a 6, .inl (cI, 16, .inl (fun i => nI (Y 6 i))))]
/-- the tree alone, while it is made -/
def np_tw (a : Nat → Nat) (cI : ClassId) (X : np_X) : va_W := [
  (a 5, .inr (1, [.ref (a 6), .ref (a 7), .int (nI (X 0 1))])),
  (a 6, .inl (cI, 32, .inl (fun i => nI (X 6 i)))),
  (a 7, .inl (cI, 17, .inl (fun i => nI (X 7 i))))]
def np_inj (a : Nat → Nat) (n : Nat) : Prop := ∀ i j, i < n → j < n → a i = a j → i = j
def np_ad (a : Nat → Nat) (n : Nat) : Nat → Prop := fun q => ∃ k, k < n ∧ q = a k
theorem np_DofL {a : Nat → Nat} {n : Nat} {w : va_W} (e : w.map Prod.fst = (List.range n).map a) (h : np_inj a n) : va_D (np_ad a n) w := by
  have key : ∀ (i : Nat) (p : Nat × va_E), w[i]? = some p → i < n ∧ p.1 = a i := by
    intro i p hp
    have h2 : (w.map Prod.fst)[i]? = some p.1 := by rw [List.getElem?_map, hp]; rfl
    rw [e, List.getElem?_map] at h2
    by_cases hi : i < n
    · rw [List.getElem?_range hi] at h2; exact ⟨hi, (Option.some.inj h2).symm⟩
    · rw [List.getElem?_eq_none (by simp; omega)] at h2; cases h2
  refine ⟨fun i j p q hi hj hpq => ?_, fun k q hk => ?_⟩
  · obtain ⟨h1, e1⟩ := key i p hi
    obtain ⟨h2, e2⟩ := key j q hj
    exact h i j h1 h2 (by rw [← e1, ← e2, hpq])
  · obtain ⟨h1, e1⟩ := key k q hk
    exact ⟨k, h1, e1⟩
theorem np_gD {a : Nat → Nat} {cI : ClassId} (h : np_inj a 12) (X : np_X) : va_D (np_ad a 12) (np_gw a cI X) := np_DofL rfl h
theorem np_mD {a : Nat → Nat} {cI : ClassId} (h : np_inj a 7) (X : np_X) : va_D (np_ad a 7) (np_mw a cI X) := np_DofL rfl h
theorem gs_1 (a : Nat → Nat) (cI : ClassId) (X : np_X) (f : Nat → Nat) : (np_gw a cI X).set 1 (a 1, .inl (cI, 4, .inl (fun i => nI (f i)))) = np_gw a cI (va_up X 1 f) := rfl
theorem gs_2 (a : Nat → Nat) (cI : ClassId) (X : np_X) (f : Nat → Nat) : (np_gw a cI X).set 2 (a 2, .inl (cI, 16, .inl (fun i => nI (f i)))) = np_gw a cI (va_up X 2 f) := rfl
theorem gs_3 (a : Nat → Nat) (cI : ClassId) (X : np_X) (f : Nat → Nat) : (np_gw a cI X).set 3 (a 3, .inl (cI, 16, .inl (fun i => nI (f i)))) = np_gw a cI (va_up X 3 f) := rfl
theorem gs_4 (a : Nat → Nat) (cI : ClassId) (X : np_X) (f : Nat → Nat) : (np_gw a cI X).set 4 (a 4, .inl (cI, 16, .inl (fun i => nI (f i)))) = np_gw a cI (va_up X 4 f) := rfl
theorem gs_6 (a : Nat → Nat) (cI : ClassId) (X : np_X) (f : Nat → Nat) : (np_gw a cI X).set 6 (a 6, .inl (cI, 32, .inl (fun i => nI (f i)))) = np_gw a cI (va_up X 6 f) := rfl
theorem gs_7 (a : Nat → Nat) (cI : ClassId) (X : np_X) (f : Nat → Nat) : (np_gw a cI X).set 7 (a 7, .inl (cI, 17, .inl (fun i => nI (f i)))) = np_gw a cI (va_up X 7 f) := rfl
theorem gs_9 (a : Nat → Nat) (cI : ClassId) (X : np_X) (f : Nat → Nat) : (np_gw a cI X).set 9 (a 9, .inl (cI, 16, .inl (fun i => nI (f i)))) = np_gw a cI (va_up X 9 f) := rfl
theorem gs_11 (a : Nat → Nat) (cI : ClassId) (X : np_X) (f : Nat → Nat) : (np_gw a cI X).set 11 (a 11, .inl (cI, 125, .inl (fun i => nI (f i)))) = np_gw a cI (va_up X 11 f) := rfl
theorem gp_0 (a : Nat → Nat) (cI : ClassId) (X : np_X) (z : Nat) : (np_gw a cI X).set 0 (a 0, .inr (0, [.ref (a 1), .ref (a 2), .ref (a 3), .ref (a 4), .ref (a 5), .ref (a 8), .ref (a 10), .int (nI z)])) = np_gw a cI (va_up X 0 (updN (X 0) 0 z)) := rfl
theorem gp_5 (a : Nat → Nat) (cI : ClassId) (X : np_X) (z : Nat) : (np_gw a cI X).set 5 (a 5, .inr (1, [.ref (a 6), .ref (a 7), .int (nI z)])) = np_gw a cI (va_up X 0 (updN (X 0) 1 z)) := rfl
theorem gp_8 (a : Nat → Nat) (cI : ClassId) (X : np_X) (z : Nat) : (np_gw a cI X).set 8 (a 8, .inr (2, [.ref (a 9), .int (nI z)])) = np_gw a cI (va_up X 0 (updN (X 0) 2 z)) := rfl
theorem us_1 (a : Nat → Nat) (cI : ClassId) (X : np_X) (f : Nat → Nat) : (np_mw a cI X).set 1 (a 1, .inl (cI, 16, .inl (fun i => nI (f i)))) = np_mw a cI (va_up X 1 f) := rfl
theorem us_2 (a : Nat → Nat) (cI : ClassId) (X : np_X) (f : Nat → Nat) : (np_mw a cI X).set 2 (a 2, .inl (cI, 16, .inl (fun i => nI (f i)))) = np_mw a cI (va_up X 2 f) := rfl
theorem us_3 (a : Nat → Nat) (cI : ClassId) (X : np_X) (f : Nat → Nat) : (np_mw a cI X).set 3 (a 3, .inl (cI, 16, .inl (fun i => nI (f i)))) = np_mw a cI (va_up X 3 f) := rfl
theorem us_4 (a : Nat → Nat) (cI : ClassId) (X : np_X) (f : Nat → Nat) : (np_mw a cI X).set 4 (a 4, .inl (cI, 16, .inl (fun i => nI (f i)))) = np_mw a cI (va_up X 4 f) := rfl
theorem us_5 (a : Nat → Nat) (cI : ClassId) (X : np_X) (f : Nat → Nat) : (np_mw a cI X).set 5 (a 5, .inl (cI, 125, .inl (fun i => nI (f i)))) = np_mw a cI (va_up X 5 f) := rfl
theorem us_6 (a : Nat → Nat) (cI : ClassId) (X : np_X) (f : Nat → Nat) : (np_mw a cI X).set 6 (a 6, .inl (cI, 16, .inl (fun i => nI (f i)))) = np_mw a cI (va_up X 6 f) := rfl
theorem up_0 (a : Nat → Nat) (cI : ClassId) (Y : np_X) (z : Nat) : (np_mw a cI Y).set 0 (a 0, .inr (4, [.int (nI z), .ref (a 1), .ref (a 2), .ref (a 3), .int (nI (Y 0 1)), .ref (a 4), .int (nI (Y 0 2)), .ref (a 5), .ref (a 6)])) = np_mw a cI (va_up Y 0 (updN (Y 0) 0 z)) := rfl
theorem up_4 (a : Nat → Nat) (cI : ClassId) (Y : np_X) (z : Nat) : (np_mw a cI Y).set 0 (a 0, .inr (4, [.int (nI (Y 0 0)), .ref (a 1), .ref (a 2), .ref (a 3), .int (nI z), .ref (a 4), .int (nI (Y 0 2)), .ref (a 5), .ref (a 6)])) = np_mw a cI (va_up Y 0 (updN (Y 0) 1 z)) := rfl
theorem up_6 (a : Nat → Nat) (cI : ClassId) (Y : np_X) (z : Nat) : (np_mw a cI Y).set 0 (a 0, .inr (4, [.int (nI (Y 0 0)), .ref (a 1), .ref (a 2), .ref (a 3), .int (nI (Y 0 1)), .ref (a 4), .int (nI z), .ref (a 5), .ref (a 6)])) = np_mw a cI (va_up Y 0 (updN (Y 0) 2 z)) := rfl
theorem ts_6 (a : Nat → Nat) (cI : ClassId) (X : np_X) (f : Nat → Nat) : (np_tw a cI X).set 1 (a 6, .inl (cI, 32, .inl (fun i => nI (f i)))) = np_tw a cI (va_up X 6 f) := rfl
theorem ts_7 (a : Nat → Nat) (cI : ClassId) (X : np_X) (f : Nat → Nat) : (np_tw a cI X).set 2 (a 7, .inl (cI, 17, .inl (fun i => nI (f i)))) = np_tw a cI (va_up X 7 f) := rfl
/-- a table of the class's: a static that holds it, and what it holds -/
def np_Tb (Cn n : String) (t N : Nat) (f : Nat → Nat) (A : Nat → Prop) (U : State) (H : Heap) : Prop := va_Z Cn n "[I" (.ref t) A U H ∧ va_T .int t N (fun i => .int (nI (f i))) A U H
def np_Sc (A : Nat → Prop) (t : Nat → Nat) (U : State) (H : Heap) : Prop := (∀ x ∈ np_NW, va_Nw x U) ∧ np_Tb "NotePool" "SALTS" (t 0) 4 np_sa A U H ∧ np_Tb "NotePool$SpendVector" "FIRST_INPUTS" (t 1) 10 np_fi A U H ∧ np_Tb "NotePool$SpendVector" "SECOND_INPUTS" (t 2) 10 np_se A U H
def np_Sm (_ : State) (_ : Heap) : Prop := True
theorem np_Sm_St (A : Nat → Prop) : np_St A np_Sm := ⟨fun _ _ _ _ _ => trivial, fun _ _ _ _ _ => trivial⟩
theorem np_Tb.go {Cn n : String} {t N : Nat} {f : Nat → Nat} {A : Nat → Prop} {u U : State} {H H1 : Heap} (h : np_Tb Cn n t N f A u H) (hvm : u.vm.Alike U.vm) (hq : ∀ a : Nat, a < H.size → ¬ A a → H1[a]? = H[a]?) : np_Tb Cn n t N f A U H1 := ⟨(h.1.moved hvm).kept hq, (h.2.moved hvm).kept hq⟩
theorem np_Tb.less {Cn n : String} {t N : Nat} {f : Nat → Nat} {A B : Nat → Prop} {U : State} {H : Heap} (h : np_Tb Cn n t N f A U H) (hq : ∀ q, B q → A q) : np_Tb Cn n t N f B U H := ⟨h.1.narrow hq, h.2.narrow hq⟩
theorem np_NW_warm {s U : State} (hW : s.WarmedH U.vm) (h : ∀ x ∈ np_NW, va_Nw x s) : ∀ x ∈ np_NW, va_Nw x U := by
  intro x hx
  have h1 := h x hx
  simp only [np_NW, List.mem_cons, List.not_mem_nil, or_false] at hx
  rcases hx with rfl | rfl | rfl | rfl | rfl | rfl | rfl | rfl | rfl <;> first | exact va_Nw.warmF hW h1 | exact va_Nw.warmM hW h1
theorem np_Sc_St (A : Nat → Prop) (t : Nat → Nat) : np_St A (np_Sc A t) := by
  refine ⟨fun U g mk a h => ?_, fun s U h hW hq => ?_⟩
  · have ha : U.vm.Alike (U.calling g mk a).vm := Vm.Alike.refl U.vm
    exact ⟨fun x hx => va_Nw.same (by
      simp only [np_NW, List.mem_cons, List.not_mem_nil, or_false] at hx
      rcases hx with rfl | rfl | rfl | rfl | rfl | rfl | rfl | rfl | rfl <;> rfl) (show U.vm = (U.calling g mk a).vm from rfl) (h.1 x hx), h.2.1.go ha (fun _ _ _ => rfl), h.2.2.1.go ha (fun _ _ _ => rfl), h.2.2.2.go ha (fun _ _ _ => rfl)⟩
  · exact ⟨np_NW_warm hW h.1, h.2.1.go hW.alike hq, h.2.2.1.go hW.alike hq, h.2.2.2.go hW.alike hq⟩
theorem np_Sc.less {A B : Nat → Prop} {t : Nat → Nat} {U : State} {H : Heap} (h : np_Sc A t U H) (hq : ∀ q, B q → A q) : np_Sc B t U H := ⟨h.1, h.2.1.less hq, h.2.2.1.less hq, h.2.2.2.less hq⟩
abbrev np_C (l : Launch) (D : va_G) (cI : ClassId) (A : Nat → Prop) (t : Nat → Nat) (k : Nat × Nat) (y : MethodName) (b : ByteArray) (mL : Nat) (ret : Option FieldType) (av : List Value) (w : va_W) (rv : Option Value) (w' : va_W) : Prop := np_Ct l D np_cls cI A (np_Sc A t) np_TS k y b mL ret av w rv w'
abbrev np_M (l : Launch) (D : va_G) (cI : ClassId) (A : Nat → Prop) (k : Nat × Nat) (y : MethodName) (b : ByteArray) (mL : Nat) (ret : Option FieldType) (av : List Value) (w : va_W) (rv : Option Value) (w' : va_W) : Prop := np_Ct l D np_cls cI A np_Sm np_TS k y b mL ret av w rv w'
