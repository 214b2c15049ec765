/-! AT THE LAW: the start stands alike; rows for its walk -/
theorem np_id_val : ∀ (i : Nat) (f : Nat → Nat) (j : Nat), (i < j → np_id f i j = f j) ∧ (1 ≤ j → j ≤ i → np_id f i j = np_hh (np_id f i (2 * j)) (np_id f i (2 * j + 1)))
  | 0, f, j => ⟨fun _ => rfl, fun h1 h2 => by omega⟩
  | i + 1, f, j => by
    have ih := np_id_val i (np_hu f (i + 1))
    simp only [np_id]
    refine ⟨fun h => ?_, fun h1 h2 => ?_⟩
    · rw [(ih j).1 (by omega), np_hu_ne (by omega)]
    · by_cases e : j = i + 1
      · subst e
        rw [(ih (i + 1)).1 (by omega), (ih (2 * (i + 1))).1 (by omega), (ih (2 * (i + 1) + 1)).1 (by omega), np_hu_at, np_hu_ne (by omega), np_hu_ne (by omega)]
      · exact (ih j).2 h1 (by omega)
theorem np_nd0_NI : np_NI np_nd0 np_z := by
  have hi : ∀ j, 15 < j → np_nd0 j = 0 := fun j hj => (np_id_val 15 np_z j).1 hj
  have lo : ∀ j, 1 ≤ j → j ≤ 15 → np_nd0 j = np_hh (np_nd0 (2 * j)) (np_nd0 (2 * j + 1)) := fun j h1 h2 => (np_id_val 15 np_z j).2 h1 h2
  have l0 : ∀ j, j < 16 → np_nd0 (16 + j) = np_tr np_z 0 j := fun j hj => hi _ (by omega)
  have l1 : ∀ j, j < 8 → np_nd0 (8 + j) = np_tr np_z 1 j := fun j hj => by
    rw [lo _ (by omega) (by omega), show 2 * (8 + j) = 16 + 2 * j by omega, show 16 + 2 * j + 1 = 16 + (2 * j + 1) by omega, l0 _ (by omega), l0 _ (by omega)]; rfl
  have l2 : ∀ j, j < 4 → np_nd0 (4 + j) = np_tr np_z 2 j := fun j hj => by
    rw [lo _ (by omega) (by omega), show 2 * (4 + j) = 8 + 2 * j by omega, show 8 + 2 * j + 1 = 8 + (2 * j + 1) by omega, l1 _ (by omega), l1 _ (by omega)]; rfl
  have l3 : ∀ j, j < 2 → np_nd0 (2 + j) = np_tr np_z 3 j := fun j hj => by
    rw [lo _ (by omega) (by omega), show 2 * (2 + j) = 4 + 2 * j by omega, show 4 + 2 * j + 1 = 4 + (2 * j + 1) by omega, l2 _ (by omega), l2 _ (by omega)]; rfl
  refine ⟨l0, l1, l2, l3, ?_⟩
  have e0 := l3 0 (by omega)
  have e1 := l3 1 (by omega)
  rw [lo 1 (by omega) (by omega)]
  show np_hh (np_nd0 2) (np_nd0 3) = np_hh (np_tr np_z 3 0) (np_tr np_z 3 1)
  rw [← e0, ← e1]
theorem np_ok_id : ∀ (i : Nat) (f : Nat → Nat), np_ok f → np_ok (np_id f i)
  | 0, _, h => h
  | i + 1, f, h => np_ok_id i _ (np_ok_hu h _)
theorem np_ok_kys : ∀ (n i : Nat) (f : Nat → Nat), np_ok f → np_ok (np_kys f i n)
  | 0, _, _, h => h
  | n + 1, i, f, h => np_ok_kys n (i + 1) _ (np_ok_upd h (np_hh_lt _ _))
theorem np_kys_val {k : Nat} (hk : k < 4) : np_kys np_z 0 4 k = np_key k := by
  have e : np_kys np_z 0 4 = updN (updN (updN (updN np_z 0 (np_key 0)) 1 (np_key 1)) 2 (np_key 2)) 3 (np_key 3) := rfl
  rw [e]
  rcases (show k = 0 ∨ k = 1 ∨ k = 2 ∨ k = 3 by omega) with rfl | rfl | rfl | rfl <;> simp [updN]
theorem np_start : np_R2 np_X0 np_Y0 := by
  have hl : np_lv np_z np_z np_z 0 = np_z := by
    funext k
    simp [np_lv, np_z]
  have hok : np_ok np_cells0 := np_ok_upd np_ok_z (by decide)
  have hnd : np_ok np_nd0 := np_ok_id 15 _ np_ok_z
  refine ⟨⟨⟨?_, ?_, np_ok_kys _ _ _ np_ok_z, fun _ => (by decide : 0 < 4294967296), np_ok_z, np_ok_z, hnd, np_ok_upd np_ok_z (hnd 1), np_ok_z, hok⟩, ⟨?_, ?_, np_ok_z, np_ok_z, np_ok_z, np_ok_z, hok⟩, ⟨rfl, rfl, rfl⟩, fun k hk => np_kys_val hk, fun k hk => absurd hk (Nat.not_lt_zero k), rfl, rfl, ?_, ?_, fun i j _ hj => absurd hj (Nat.not_lt_zero j), fun x => rfl, rfl⟩, np_ok_z⟩
  · exact (by decide : 0 ≤ 16)
  · exact Nat.le_refl 0
  · exact (by decide : 0 ≤ 16)
  · exact Nat.le_refl 0
  · show np_NI np_nd0 (np_lv np_z np_z np_z 0)
    rw [hl]; exact np_nd0_NI
  · intro k hk
    have hk0 : k = 0 := Nat.le_zero.mp hk
    subst hk0
    show updN np_z 0 (np_nd0 1) 0 = np_tr (np_lv np_z np_z np_z 0) 4 0
    rw [hl, updN_same]
    exact np_nd0_NI.2.2.2.2
theorem np_a_com {X Y : np_X} (h : np_R X Y) (q : Nat) : (if q < X 0 1 then X 6 (16 + q) else 4294967294) = (if q < Y 0 0 then np_lf (Y 1) (Y 2) (Y 3) q else 4294967294) := by
  rw [h.2.2.1.1]
  by_cases c : q < X 0 1
  · rw [if_pos c, if_pos c, np_a_leaf h c]
  · rw [if_neg c, if_neg c]
theorem np_a_own {X Y : np_X} (h : np_R X Y) (q : Nat) : (if q < X 0 1 then X 2 q else 4294967294) = (if q < Y 0 0 then np_own (Y 1 q) else 4294967294) := by
  rw [h.2.2.1.1]
  by_cases c : q < X 0 1
  · rw [if_pos c, if_pos c, h.2.2.2.2.1 q c]
  · rw [if_neg c, if_neg c]
theorem np_a_val {X Y : np_X} (h : np_R X Y) (q : Nat) : (if q < X 0 1 then X 3 q else 4294967294) = (if q < Y 0 0 then Y 2 q else 4294967294) := by
  rw [h.2.2.1.1, h.2.2.2.2.2.1]
theorem np_Psplit {D : va_G} {w1 w2 : va_W} {H : Heap} (h : va_P D np_cls (w1 ++ w2) H) : va_P D np_cls w1 H ∧ va_P D np_cls w2 H := by
  refine ⟨fun k x hx => h k x ?_, fun k x hx => h (w1.length + k) x ?_⟩
  · rw [List.getElem?_append_left (List.getElem?_eq_some_iff.mp hx).1]; exact hx
  · rw [List.getElem?_append_right (by omega), Nat.add_sub_cancel_left]; exact hx
section NPL
variable {p : Program} {l : Launch} {e : Env} {R : Room} {s : State} {m : MethodId} {args : Array Value} {below : List Frame} {meth : Method} {c : Code} {ce sl : Nat} {D : va_G} {A : Nat → Prop} {Q : State → Prop} {nL : Nat}
variable {cc : ByteArray} {own : String} {ret : Option FieldType} {cI : ClassId} {S : State → Heap → Prop} {w : va_W} {pc : Nat} {vs : List (Option Value)} {st : List Value}
/-- a call of a method whose world is a part of the caller's -/
theorem np_cF (C : np_Cx p s m args meth c cc nL own ret np_TS D np_cls cI A S) {A1 : Nat → Prop} {S1 : State → Heap → Prop} {w1 w1' w2 w' : va_W} {index : Nat} {y : MethodName} {b : ByteArray} {mL n : Nat} {k' : Nat × Nat} {rt : Option FieldType} {rest As : List Value} {r : Int32} {Cn : String} {T : u_T} {N ci a : Nat} {fs : List Value} (q0 : Nat) (hM : np_Ct l D np_cls cI A1 S1 np_TS k' y b mL rt (.ref a :: As) w1 (some (.int r)) w1') (hS1 : np_St A1 S1) (hless : ∀ (U : State) (H : Heap), S U H → S1 U H) (hA1 : ∀ x, A1 x → A x) (hap : ∀ (k : Nat) (x : Nat × va_E), w2[k]? = some x → ¬ A1 x.1) (hPin : ∀ H : Heap, va_P D np_cls w H → va_P D np_cls w1 H ∧ va_P D np_cls w2 H) (hPout : ∀ H : Heap, va_P D np_cls w1' H → va_P D np_cls w2 H → va_P D np_cls w' H)
    (hdg : decode cc pc = .ok (.invokevirtual index, 3)) (he : w1[q0]? = some (a, .inr (ci, fs))) (hcl : np_cls[ci]? = some (Cn, T, N)) (hc : Cond.code y b mL rt ∈ np_TS) (hl : Cond.methodLink own index y ∈ np_TS) (hini : Cond.initialized y.cls ∈ np_TS) (hins : Cond.instanceMethod y ∈ np_TS) (hsel : Cond.selects Cn y y ∈ np_TS) (hd : y.cls ≠ "java/lang/invoke/MethodHandle" ∧ y.cls ≠ "java/lang/invoke/VarHandle" ∧ (parseMethodDescriptor y.desc).map (fun d => d.parameters.length) = some n) (hk : k'.1 + 1 ≤ R.frames ∧ 8 + (mL + 11) + k'.2 ≤ R.locals) (hce : ce ≤ R.cells ∧ sl ≤ R.slots) (hn : As.length = n) (hstk : st = As.reverse ++ .ref a :: rest) (hroom : (rest.map fun v => v.category).sum ≤ 8)
    (kk : np_V p l e R s m args below meth c ce sl D np_cls A Q nL w' (pc + 3) vs (.int r :: rest)) : np_V p l e R s m args below meth c ce sl D np_cls A Q nL w pc vs st := by
  subst hstk
  intro H locs ls hL hP hS
  obtain ⟨hP1, hP2⟩ := hPin H hP
  have hp : PreS s H (np_Pc D np_cls cI S1 w1 (.ref a :: As)) (.ref a :: As) := by
    refine ⟨fun av U g mk z => ?_, fun U hU hW => ?_⟩
    · obtain ⟨z0, z1, z2, z3⟩ := z
      exact ⟨z0, z1, va_K.moved (u := U) (U := U.calling g mk av) (Vm.Alike.refl U.vm) z2, hS1.1 U g mk av z3⟩
    · exact ⟨rfl, by rw [hU]; exact hP1, va_K.moved hW.alike C.2.1, hless _ _ (C.2.2.2.1.2 s U C.2.2.1 hW (fun x h1 h2 => by rw [hU]; exact hS.2.1 x h1 h2))⟩
  have hrun : va_Run p l e R s m args below meth c H locs ce sl 0 0 (F0 m pc ls (As.reverse ++ .ref a :: rest)) rest (np_Qc D np_cls A1 (some (.int r)) w1' (Value.ref a :: As).toArray) A1 := va_runV C.1 hM ⟨callB_of n C.1.2.2.2.2 (np_GoodIn np_TS_good hc) rfl rfl rfl (C.1.2.2.2.2 _ hini) (C.1.2.2.2.2 _ hl) hd hk, C.1.2.2.2.2 _ hins, C.1.2.2.2.2 _ hsel⟩ ⟨hp.1, va_recv C.2.1 hP1 hcl he, hp.2⟩ rfl hn hL.1 rfl (lv_room hroom) hdg hce
  intro T hT X
  obtain ⟨v, st₀, t, T', L, h0, X', hLo, e1, e2, ⟨hv, hPt, hz, hk2⟩, go⟩ := hrun T hT X
  cases hv
  rw [h0] at hz hk2
  have hP2' : va_P D np_cls w2 T'.heap := hP2.kept (fun k x hx => by rw [e1]; exact hk2 x.1 (hP2 k x hx).lt (hap k x hx))
  have hS' : va_S A s.heap T'.heap (locs ++ L) := ⟨Nat.le_trans hS.1 (by rw [e1]; exact hz), fun x h1 h2 => by rw [e1, hk2 x (Nat.lt_of_lt_of_le h1 hS.1) (fun z => h2 (hA1 x z))]; exact hS.2.1 x h1 h2, fun x hx => by
    rcases List.mem_append.mp hx with h | h
    · exact hS.2.2 x h
    · exact hA1 _ (hLo x h)⟩
  obtain ⟨t2, a1, b1⟩ := kk T'.heap (locs ++ L) ls hL (hPout _ (by rw [e1]; exact hPt) hP2') hS' T' rfl X'
  exact ⟨t2, go t2 a1, b1⟩
/-- the law's own script -/
theorem np_sld (C : np_Cx p s m args meth c cc nL own ret np_TS D np_cls cI A S) {b L i : Nat} {xs : Nat → Int32} {xn : Nat → Nat} (hxn : ∀ j, xs j = nI (xn j)) (hX : va_X b L xs s s.heap) (hbl : b < s.heap.size) (hbA : ¬ A b) (hi : i < L) (hL : L < 2 ^ 31) (hdg : decode cc pc = .ok (.iaload, 1))
    (k : np_V p l e R s m args below meth c ce sl D np_cls A Q nL w (pc + 1) vs (.int (nI (xn i)) :: st)) : np_V p l e R s m args below meth c ce sl D np_cls A Q nL w pc vs (.int (nI i) :: .ref b :: st) := fun H locs ls hLv hP hS => va_sld C.1.1 C.1.2.1 hX hbl hbA hS (vp_in_nI hi hL) hdg (by
      have e1 : (nI i).toNatClampNeg = i := nI_clamp (Nat.lt_trans hi hL)
      rw [e1, hxn]
      exact k H locs ls hLv hP hS)
theorem np_slen (C : np_Cx p s m args meth c cc nL own ret np_TS D np_cls cI A S) {b L : Nat} {xs : Nat → Int32} (hX : va_X b L xs s s.heap) (hbl : b < s.heap.size) (hbA : ¬ A b) (hdg : decode cc pc = .ok (.arraylength, 1))
    (k : np_V p l e R s m args below meth c ce sl D np_cls A Q nL w (pc + 1) vs (.int (nI L) :: st)) : np_V p l e R s m args below meth c ce sl D np_cls A Q nL w pc vs (.ref b :: st) := fun H locs ls hLv hP hS => va_slen C.1.1 C.1.2.1 hX hbl hbA hS hdg (k H locs ls hLv hP hS)
theorem np_same (C : np_Cx p s m args meth c cc nL own ret np_TS D np_cls cI A S) {x y : Nat} {off : Int} {tgt : Nat} (h : x = y) (hdg : decode cc pc = .ok (.if_icmp .eq off, 3)) (ht : (pc : Int) + off = (tgt : Int)) (k : np_V p l e R s m args below meth c ce sl D np_cls A Q nL w tgt vs st) : np_V p l e R s m args below meth c ce sl D np_cls A Q nL w pc vs (.int (nI y) :: .int (nI x) :: st) := fun H locs ls hL hP hS => lv_icmp_eq C.1.1 C.1.2.1 hdg ht (fun _ => k H locs ls hL hP hS) (fun z => absurd (congrArg nI h) z)
theorem np_and31 (C : np_Cx p s m args meth c cc nL own ret np_TS D np_cls cI A S) {x : Nat} (hx : x < 2 ^ 32) (hdg : decode cc pc = .ok (.iand, 1)) (k : np_V p l e R s m args below meth c ce sl D np_cls A Q nL w (pc + 1) vs (.int (nI (x % 32)) :: st)) : np_V p l e R s m args below meth c ce sl D np_cls A Q nL w pc vs (.int (nI 31) :: .int (nI x) :: st) := fun H locs ls hL hP hS => lv_iand C.1.1 C.1.2.1 hdg ((show nI x &&& nI 31 = nI (x % 32) from pk_andN hx 5 (by decide)).symm ▸ k H locs ls hL hP hS)
theorem np_gtS (C : np_Cx p s m args meth c cc nL own ret np_TS D np_cls cI A S) {x y : Nat} {off : Int} {tgt : Nat} (hx : x < 2147483648) (hy : 2147483648 ≤ y) (hy2 : y < 4294967296) (hdg : decode cc pc = .ok (.if_icmp .gt off, 3)) (ht : (pc : Int) + off = (tgt : Int)) (k : np_V p l e R s m args below meth c ce sl D np_cls A Q nL w tgt vs st) : np_V p l e R s m args below meth c ce sl D np_cls A Q nL w pc vs (.int (nI y) :: .int (nI x) :: st) := fun H locs ls hL hP hS => lv_icmp_gt C.1.1 C.1.2.1 hdg ht (fun _ => k H locs ls hL hP hS) (fun z => absurd ((np_ltS hy2 hx).mpr (Or.inl hy)) z)
end NPL
