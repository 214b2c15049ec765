set_option maxRecDepth 20000 in
theorem np_tab_0 {s : State} {b : Nat} {A : Nat → Prop} (hts : ∀ w ∈ lw_tbl, w.before #[Value.ref b] s = true) (hgv : (Jvm.Cond.and given_1 narrow_1).before #[Value.ref b] s = true) (hA : ∀ a : Nat, a < s.heap.size → ¬ A a) : ∃ t, np_Tb "NotePool" "SALTS" t 4 np_sa A s s.heap := by
  have hf := flat_of_before _ hgv
  have hl : (Cond.laysStatic "NotePool" "SALTS" "[I").before #[Value.ref b] s = true := hts _ (List.mem_append_right _ (List.mem_of_getElem? (i := 28) (by decide +kernel)))
  have hi : (Cond.initialized "NotePool").before #[Value.ref b] s = true := hts _ (np_TS_tbl m_1)
  have harr : (Cond.arrayOf (.static "NotePool" "SALTS" "[I") .int).before #[Value.ref b] s = true := hf _ (by decide +kernel)
  have hlen : (Term.length (.static "NotePool" "SALTS" "[I")).eval #[Value.ref b] s none [] s = some (.int (Int32.ofNat 4)) := va_eqt (hf (Cond.eq (.length (.static "NotePool" "SALTS" "[I")) (.int (Int32.ofNat 4))) (by decide +kernel))
  have h0 : (Term.elem (.static "NotePool" "SALTS" "[I") (.int (Int32.ofNat 0))).eval #[Value.ref b] s none [] s = some (.int (nI (np_sa 0))) := va_eqt (hf (Cond.eq (.elem (.static "NotePool" "SALTS" "[I") (.int (Int32.ofNat 0))) (.int (nI (np_sa 0)))) (by decide +kernel))
  have h1 : (Term.elem (.static "NotePool" "SALTS" "[I") (.int (Int32.ofNat 1))).eval #[Value.ref b] s none [] s = some (.int (nI (np_sa 1))) := va_eqt (hf (Cond.eq (.elem (.static "NotePool" "SALTS" "[I") (.int (Int32.ofNat 1))) (.int (nI (np_sa 1)))) (by decide +kernel))
  have h2 : (Term.elem (.static "NotePool" "SALTS" "[I") (.int (Int32.ofNat 2))).eval #[Value.ref b] s none [] s = some (.int (nI (np_sa 2))) := va_eqt (hf (Cond.eq (.elem (.static "NotePool" "SALTS" "[I") (.int (Int32.ofNat 2))) (.int (nI (np_sa 2)))) (by decide +kernel))
  have h3 : (Term.elem (.static "NotePool" "SALTS" "[I") (.int (Int32.ofNat 3))).eval #[Value.ref b] s none [] s = some (.int (nI (np_sa 3))) := va_eqt (hf (Cond.eq (.elem (.static "NotePool" "SALTS" "[I") (.int (Int32.ofNat 3))) (.int (nI (np_sa 3)))) (by decide +kernel))
  have hel : ∀ j : Nat, j < 4 → (Term.elem (.static "NotePool" "SALTS" "[I") (.int (Int32.ofNat j))).eval #[Value.ref b] s none [] s = some ((fun i => Value.int (nI (np_sa i))) j) := by
    intro j hj
    rcases (show j = 0 ∨ j = 1 ∨ j = 2 ∨ j = 3 by omega) with rfl | rfl | rfl | rfl
    · exact h0
    · exact h1
    · exact h2
    · exact h3
  obtain ⟨t, ht, hT⟩ := va_Tof (A := A) (f := fun i => Value.int (nI (np_sa i))) (show 4 < 2 ^ 31 by decide) harr hlen hel hA
  exact ⟨t, va_Zref hl hi ht hA, hT⟩
set_option maxRecDepth 20000 in
theorem np_tab_1 {s : State} {b : Nat} {A : Nat → Prop} (hts : ∀ w ∈ lw_tbl, w.before #[Value.ref b] s = true) (hgv : (Jvm.Cond.and given_1 narrow_1).before #[Value.ref b] s = true) (hA : ∀ a : Nat, a < s.heap.size → ¬ A a) : ∃ t, np_Tb "NotePool$SpendVector" "FIRST_INPUTS" t 10 np_fi A s s.heap := by
  have hf := flat_of_before _ hgv
  have hl : (Cond.laysStatic "NotePool$SpendVector" "FIRST_INPUTS" "[I").before #[Value.ref b] s = true := hts _ (List.mem_append_right _ (List.mem_of_getElem? (i := 180) (by decide +kernel)))
  have hi : (Cond.initialized "NotePool$SpendVector").before #[Value.ref b] s = true := hts _ (np_TS_tbl m_4)
  have harr : (Cond.arrayOf (.static "NotePool$SpendVector" "FIRST_INPUTS" "[I") .int).before #[Value.ref b] s = true := hf _ (by decide +kernel)
  have hlen : (Term.length (.static "NotePool$SpendVector" "FIRST_INPUTS" "[I")).eval #[Value.ref b] s none [] s = some (.int (Int32.ofNat 10)) := va_eqt (hf (Cond.eq (.length (.static "NotePool$SpendVector" "FIRST_INPUTS" "[I")) (.int (Int32.ofNat 10))) (by decide +kernel))
  have h0 : (Term.elem (.static "NotePool$SpendVector" "FIRST_INPUTS" "[I") (.int (Int32.ofNat 0))).eval #[Value.ref b] s none [] s = some (.int (nI (np_fi 0))) := va_eqt (hf (Cond.eq (.elem (.static "NotePool$SpendVector" "FIRST_INPUTS" "[I") (.int (Int32.ofNat 0))) (.int (nI (np_fi 0)))) (by decide +kernel))
  have h1 : (Term.elem (.static "NotePool$SpendVector" "FIRST_INPUTS" "[I") (.int (Int32.ofNat 1))).eval #[Value.ref b] s none [] s = some (.int (nI (np_fi 1))) := va_eqt (hf (Cond.eq (.elem (.static "NotePool$SpendVector" "FIRST_INPUTS" "[I") (.int (Int32.ofNat 1))) (.int (nI (np_fi 1)))) (by decide +kernel))
  have h2 : (Term.elem (.static "NotePool$SpendVector" "FIRST_INPUTS" "[I") (.int (Int32.ofNat 2))).eval #[Value.ref b] s none [] s = some (.int (nI (np_fi 2))) := va_eqt (hf (Cond.eq (.elem (.static "NotePool$SpendVector" "FIRST_INPUTS" "[I") (.int (Int32.ofNat 2))) (.int (nI (np_fi 2)))) (by decide +kernel))
  have h3 : (Term.elem (.static "NotePool$SpendVector" "FIRST_INPUTS" "[I") (.int (Int32.ofNat 3))).eval #[Value.ref b] s none [] s = some (.int (nI (np_fi 3))) := va_eqt (hf (Cond.eq (.elem (.static "NotePool$SpendVector" "FIRST_INPUTS" "[I") (.int (Int32.ofNat 3))) (.int (nI (np_fi 3)))) (by decide +kernel))
  have h4 : (Term.elem (.static "NotePool$SpendVector" "FIRST_INPUTS" "[I") (.int (Int32.ofNat 4))).eval #[Value.ref b] s none [] s = some (.int (nI (np_fi 4))) := va_eqt (hf (Cond.eq (.elem (.static "NotePool$SpendVector" "FIRST_INPUTS" "[I") (.int (Int32.ofNat 4))) (.int (nI (np_fi 4)))) (by decide +kernel))
  have h5 : (Term.elem (.static "NotePool$SpendVector" "FIRST_INPUTS" "[I") (.int (Int32.ofNat 5))).eval #[Value.ref b] s none [] s = some (.int (nI (np_fi 5))) := va_eqt (hf (Cond.eq (.elem (.static "NotePool$SpendVector" "FIRST_INPUTS" "[I") (.int (Int32.ofNat 5))) (.int (nI (np_fi 5)))) (by decide +kernel))
  have h6 : (Term.elem (.static "NotePool$SpendVector" "FIRST_INPUTS" "[I") (.int (Int32.ofNat 6))).eval #[Value.ref b] s none [] s = some (.int (nI (np_fi 6))) := va_eqt (hf (Cond.eq (.elem (.static "NotePool$SpendVector" "FIRST_INPUTS" "[I") (.int (Int32.ofNat 6))) (.int (nI (np_fi 6)))) (by decide +kernel))
  have h7 : (Term.elem (.static "NotePool$SpendVector" "FIRST_INPUTS" "[I") (.int (Int32.ofNat 7))).eval #[Value.ref b] s none [] s = some (.int (nI (np_fi 7))) := va_eqt (hf (Cond.eq (.elem (.static "NotePool$SpendVector" "FIRST_INPUTS" "[I") (.int (Int32.ofNat 7))) (.int (nI (np_fi 7)))) (by decide +kernel))
  have h8 : (Term.elem (.static "NotePool$SpendVector" "FIRST_INPUTS" "[I") (.int (Int32.ofNat 8))).eval #[Value.ref b] s none [] s = some (.int (nI (np_fi 8))) := va_eqt (hf (Cond.eq (.elem (.static "NotePool$SpendVector" "FIRST_INPUTS" "[I") (.int (Int32.ofNat 8))) (.int (nI (np_fi 8)))) (by decide +kernel))
  have h9 : (Term.elem (.static "NotePool$SpendVector" "FIRST_INPUTS" "[I") (.int (Int32.ofNat 9))).eval #[Value.ref b] s none [] s = some (.int (nI (np_fi 9))) := va_eqt (hf (Cond.eq (.elem (.static "NotePool$SpendVector" "FIRST_INPUTS" "[I") (.int (Int32.ofNat 9))) (.int (nI (np_fi 9)))) (by decide +kernel))
  have hel : ∀ j : Nat, j < 10 → (Term.elem (.static "NotePool$SpendVector" "FIRST_INPUTS" "[I") (.int (Int32.ofNat j))).eval #[Value.ref b] s none [] s = some ((fun i => Value.int (nI (np_fi i))) j) := by
    intro j hj
    rcases (show j = 0 ∨ j = 1 ∨ j = 2 ∨ j = 3 ∨ j = 4 ∨ j = 5 ∨ j = 6 ∨ j = 7 ∨ j = 8 ∨ j = 9 by omega) with rfl | rfl | rfl | rfl | rfl | rfl | rfl | rfl | rfl | rfl
    · exact h0
    · exact h1
    · exact h2
    · exact h3
    · exact h4
    · exact h5
    · exact h6
    · exact h7
    · exact h8
    · exact h9
  obtain ⟨t, ht, hT⟩ := va_Tof (A := A) (f := fun i => Value.int (nI (np_fi i))) (show 10 < 2 ^ 31 by decide) harr hlen hel hA
  exact ⟨t, va_Zref hl hi ht hA, hT⟩
set_option maxRecDepth 20000 in
theorem np_tab_2 {s : State} {b : Nat} {A : Nat → Prop} (hts : ∀ w ∈ lw_tbl, w.before #[Value.ref b] s = true) (hgv : (Jvm.Cond.and given_1 narrow_1).before #[Value.ref b] s = true) (hA : ∀ a : Nat, a < s.heap.size → ¬ A a) : ∃ t, np_Tb "NotePool$SpendVector" "SECOND_INPUTS" t 10 np_se A s s.heap := by
  have hf := flat_of_before _ hgv
  have hl : (Cond.laysStatic "NotePool$SpendVector" "SECOND_INPUTS" "[I").before #[Value.ref b] s = true := hts _ (List.mem_append_right _ (List.mem_of_getElem? (i := 182) (by decide +kernel)))
  have hi : (Cond.initialized "NotePool$SpendVector").before #[Value.ref b] s = true := hts _ (np_TS_tbl m_4)
  have harr : (Cond.arrayOf (.static "NotePool$SpendVector" "SECOND_INPUTS" "[I") .int).before #[Value.ref b] s = true := hf _ (by decide +kernel)
  have hlen : (Term.length (.static "NotePool$SpendVector" "SECOND_INPUTS" "[I")).eval #[Value.ref b] s none [] s = some (.int (Int32.ofNat 10)) := va_eqt (hf (Cond.eq (.length (.static "NotePool$SpendVector" "SECOND_INPUTS" "[I")) (.int (Int32.ofNat 10))) (by decide +kernel))
  have h0 : (Term.elem (.static "NotePool$SpendVector" "SECOND_INPUTS" "[I") (.int (Int32.ofNat 0))).eval #[Value.ref b] s none [] s = some (.int (nI (np_se 0))) := va_eqt (hf (Cond.eq (.elem (.static "NotePool$SpendVector" "SECOND_INPUTS" "[I") (.int (Int32.ofNat 0))) (.int (nI (np_se 0)))) (by decide +kernel))
  have h1 : (Term.elem (.static "NotePool$SpendVector" "SECOND_INPUTS" "[I") (.int (Int32.ofNat 1))).eval #[Value.ref b] s none [] s = some (.int (nI (np_se 1))) := va_eqt (hf (Cond.eq (.elem (.static "NotePool$SpendVector" "SECOND_INPUTS" "[I") (.int (Int32.ofNat 1))) (.int (nI (np_se 1)))) (by decide +kernel))
  have h2 : (Term.elem (.static "NotePool$SpendVector" "SECOND_INPUTS" "[I") (.int (Int32.ofNat 2))).eval #[Value.ref b] s none [] s = some (.int (nI (np_se 2))) := va_eqt (hf (Cond.eq (.elem (.static "NotePool$SpendVector" "SECOND_INPUTS" "[I") (.int (Int32.ofNat 2))) (.int (nI (np_se 2)))) (by decide +kernel))
  have h3 : (Term.elem (.static "NotePool$SpendVector" "SECOND_INPUTS" "[I") (.int (Int32.ofNat 3))).eval #[Value.ref b] s none [] s = some (.int (nI (np_se 3))) := va_eqt (hf (Cond.eq (.elem (.static "NotePool$SpendVector" "SECOND_INPUTS" "[I") (.int (Int32.ofNat 3))) (.int (nI (np_se 3)))) (by decide +kernel))
  have h4 : (Term.elem (.static "NotePool$SpendVector" "SECOND_INPUTS" "[I") (.int (Int32.ofNat 4))).eval #[Value.ref b] s none [] s = some (.int (nI (np_se 4))) := va_eqt (hf (Cond.eq (.elem (.static "NotePool$SpendVector" "SECOND_INPUTS" "[I") (.int (Int32.ofNat 4))) (.int (nI (np_se 4)))) (by decide +kernel))
  have h5 : (Term.elem (.static "NotePool$SpendVector" "SECOND_INPUTS" "[I") (.int (Int32.ofNat 5))).eval #[Value.ref b] s none [] s = some (.int (nI (np_se 5))) := va_eqt (hf (Cond.eq (.elem (.static "NotePool$SpendVector" "SECOND_INPUTS" "[I") (.int (Int32.ofNat 5))) (.int (nI (np_se 5)))) (by decide +kernel))
  have h6 : (Term.elem (.static "NotePool$SpendVector" "SECOND_INPUTS" "[I") (.int (Int32.ofNat 6))).eval #[Value.ref b] s none [] s = some (.int (nI (np_se 6))) := va_eqt (hf (Cond.eq (.elem (.static "NotePool$SpendVector" "SECOND_INPUTS" "[I") (.int (Int32.ofNat 6))) (.int (nI (np_se 6)))) (by decide +kernel))
  have h7 : (Term.elem (.static "NotePool$SpendVector" "SECOND_INPUTS" "[I") (.int (Int32.ofNat 7))).eval #[Value.ref b] s none [] s = some (.int (nI (np_se 7))) := va_eqt (hf (Cond.eq (.elem (.static "NotePool$SpendVector" "SECOND_INPUTS" "[I") (.int (Int32.ofNat 7))) (.int (nI (np_se 7)))) (by decide +kernel))
  have h8 : (Term.elem (.static "NotePool$SpendVector" "SECOND_INPUTS" "[I") (.int (Int32.ofNat 8))).eval #[Value.ref b] s none [] s = some (.int (nI (np_se 8))) := va_eqt (hf (Cond.eq (.elem (.static "NotePool$SpendVector" "SECOND_INPUTS" "[I") (.int (Int32.ofNat 8))) (.int (nI (np_se 8)))) (by decide +kernel))
  have h9 : (Term.elem (.static "NotePool$SpendVector" "SECOND_INPUTS" "[I") (.int (Int32.ofNat 9))).eval #[Value.ref b] s none [] s = some (.int (nI (np_se 9))) := va_eqt (hf (Cond.eq (.elem (.static "NotePool$SpendVector" "SECOND_INPUTS" "[I") (.int (Int32.ofNat 9))) (.int (nI (np_se 9)))) (by decide +kernel))
  have hel : ∀ j : Nat, j < 10 → (Term.elem (.static "NotePool$SpendVector" "SECOND_INPUTS" "[I") (.int (Int32.ofNat j))).eval #[Value.ref b] s none [] s = some ((fun i => Value.int (nI (np_se i))) j) := by
    intro j hj
    rcases (show j = 0 ∨ j = 1 ∨ j = 2 ∨ j = 3 ∨ j = 4 ∨ j = 5 ∨ j = 6 ∨ j = 7 ∨ j = 8 ∨ j = 9 by omega) with rfl | rfl | rfl | rfl | rfl | rfl | rfl | rfl | rfl | rfl
    · exact h0
    · exact h1
    · exact h2
    · exact h3
    · exact h4
    · exact h5
    · exact h6
    · exact h7
    · exact h8
    · exact h9
  obtain ⟨t, ht, hT⟩ := va_Tof (A := A) (f := fun i => Value.int (nI (np_se i))) (show 10 < 2 ^ 31 by decide) harr hlen hel hA
  exact ⟨t, va_Zref hl hi ht hA, hT⟩
theorem np_stat {s : State} {b : Nat} {A : Nat → Prop} (hts : ∀ w ∈ lw_tbl, w.before #[Value.ref b] s = true) (hgv : (Jvm.Cond.and given_1 narrow_1).before #[Value.ref b] s = true) (hA : ∀ a : Nat, a < s.heap.size → ¬ A a) : ∃ t, np_Sc A t s s.heap := by
  obtain ⟨t0, h0⟩ := np_tab_0 hts hgv hA
  obtain ⟨t1, h1⟩ := np_tab_1 hts hgv hA
  obtain ⟨t2, h2⟩ := np_tab_2 hts hgv hA
  refine ⟨fun j => if j = 0 then t0 else if j = 1 then t1 else t2, ?_, h0, h1, h2⟩
  intro x hx
  simp only [np_NW, List.mem_cons, List.not_mem_nil, or_false] at hx
  rcases hx with rfl | rfl | rfl | rfl | rfl | rfl | rfl | rfl | rfl
  · exact va_Nw.of rfl (hts _ nt_0)
  · exact va_Nw.of rfl (hts _ nt_1)
  · exact va_Nw.of rfl (hts _ nt_2)
  · exact va_Nw.of rfl (hts _ nt_3)
  · exact va_Nw.of rfl (hts _ nt_4)
  · exact va_Nw.of rfl (hts _ nt_5)
  · exact va_Nw.of rfl (hts _ nt_6)
  · exact va_Nw.of rfl (hts _ nt_7)
  · exact va_Nw.of rfl (hts _ nt_8)
theorem np_know {s : State} {b : Nat} (hts : ∀ w ∈ np_TS, w.before #[Value.ref b] s = true) : ∃ (D : va_G) (cI : ClassId), va_K D np_cls [(cI, .int)] s := by
  obtain ⟨c0, i0, k0⟩ := u_known hts hin_P (hts (.instantiable "NotePool" 8) m_7)
  obtain ⟨c1, i1, k1⟩ := u_known hts hin_T (hts (.instantiable "NotePool$HashTree" 3) m_15)
  obtain ⟨c2, i2, k2⟩ := u_known hts hin_K (hts (.instantiable "NotePool$MarkRow" 2) m_50)
  obtain ⟨c3, i3, k3⟩ := u_known hts hin_S (hts (.instantiable "NotePool$SpendVector" 1) m_64)
  obtain ⟨c4, i4, k4⟩ := u_known hts hin_M (hts (.instantiable "NotePoolModel" 9) m_299)
  obtain ⟨cI, kA, comp, f1, f2, f3⟩ := Cond.arrayClass_spec (hts (.arrayClass .int) m_48)
  refine ⟨(fun j => if j = 0 then c0 else if j = 1 then c1 else if j = 2 then c2 else if j = 3 then c3 else c4, fun j => if j = 0 then i0 else if j = 1 then i1 else if j = 2 then i2 else if j = 3 then i3 else i4), cI, fun j q hq => ?_, fun j q hq => ?_⟩
  · match j, hq with
    | 0, hq => cases hq; exact k0
    | 1, hq => cases hq; exact k1
    | 2, hq => cases hq; exact k2
    | 3, hq => cases hq; exact k3
    | 4, hq => cases hq; exact k4
    | j + 5, hq => simp [np_cls] at hq
  · have hj : j < 1 := (List.getElem?_eq_some_iff.mp hq).1
    have hj0 : j = 0 := by omega
    subst hj0
    cases hq
    exact ⟨fun n z => ⟨fun k h => (by cases h), kA, f2, comp, f3⟩, f1⟩
theorem np_apart {A : Nat → Prop} {a d : Nat → Nat} {cI : ClassId} {X Y : np_X} (h : va_D A (np_gw a cI X ++ np_mw d cI Y)) : np_inj a 12 ∧ np_inj d 7 ∧ (∀ i j, i < 12 → j < 7 → a i ≠ d j) ∧ (∀ x, np_ad a 12 x → A x) ∧ (∀ x, np_ad d 7 x → A x) := by
  have e : (np_gw a cI X ++ np_mw d cI Y).map Prod.fst = (List.range 19).map (fun k => if k < 12 then a k else d (k - 12)) := rfl
  have key : ∀ k, k < 19 → ∃ x, (np_gw a cI X ++ np_mw d cI Y)[k]? = some x ∧ x.1 = (if k < 12 then a k else d (k - 12)) := by
    intro k hk
    have h2 : ((np_gw a cI X ++ np_mw d cI Y).map Prod.fst)[k]? = some (if k < 12 then a k else d (k - 12)) := by
      rw [e, List.getElem?_map, List.getElem?_range hk]; rfl
    rw [List.getElem?_map] at h2
    cases hx : (np_gw a cI X ++ np_mw d cI Y)[k]? with
    | none => rw [hx] at h2; cases h2
    | some x => rw [hx] at h2; exact ⟨x, rfl, Option.some.inj h2⟩
  have inj : ∀ i j, i < 19 → j < 19 → (if i < 12 then a i else d (i - 12)) = (if j < 12 then a j else d (j - 12)) → i = j := by
    intro i j hi hj hij
    obtain ⟨x, hx, ex⟩ := key i hi
    obtain ⟨y, hy, ey⟩ := key j hj
    exact h.1 i j x y hx hy (by rw [ex, ey, hij])
  refine ⟨fun i j hi hj hij => inj i j (by omega) (by omega) (by rw [if_pos hi, if_pos hj, hij]), fun i j hi hj hij => ?_, fun i j hi hj hij => ?_, fun x hx => ?_, fun x hx => ?_⟩
  · have := inj (12 + i) (12 + j) (by omega) (by omega) (by rw [if_neg (by omega), if_neg (by omega), Nat.add_sub_cancel_left, Nat.add_sub_cancel_left, hij])
    omega
  · have := inj i (12 + j) (by omega) (by omega) (by rw [if_pos hi, if_neg (by omega), Nat.add_sub_cancel_left, hij])
    omega
  · obtain ⟨k, hk, rfl⟩ := hx
    obtain ⟨y, hy, ey⟩ := key k (by omega)
    rw [if_pos hk] at ey
    rw [← ey]; exact h.2 k y hy
  · obtain ⟨k, hk, rfl⟩ := hx
    obtain ⟨y, hy, ey⟩ := key (12 + k) (by omega)
    rw [if_neg (by omega), Nat.add_sub_cancel_left] at ey
    rw [← ey]; exact h.2 (12 + k) y hy
set_option maxRecDepth 20000 in
set_option maxHeartbeats 4000000 in
theorem lw_loop {p : Program} {l : Launch} {e : Env} {s : State} {m : MethodId} {below : List Frame} {meth : Method} {c : Code} {b L : Nat} {xs : Nat → Int32} {xn : Nat → Nat} {D : va_G} {cI : ClassId} {t a d : Nat → Nat} {A : Nat → Prop} (C : np_Cx p s m #[Value.ref b] meth c code 4 R_law ret np_TS D np_cls cI A (np_Sc A t)) (hxn : ∀ j, xs j = nI (xn j)) (xl : ∀ j, xn j < 4294967296) (hsX : va_X b L xs s s.heap) (hbl : b < s.heap.size) (hbA : ¬ A b) (hL : L ≤ 3072) (ha : np_inj a 12) (hd : np_inj d 7) (haA : ∀ x, np_ad a 12 x → A x) (hdA : ∀ x, np_ad d 7 x → A x) (hap : ∀ i j, i < 12 → j < 7 → a i ≠ d j) (hfree : ∀ x, A x → s.heap.size ≤ x) : ∀ (n i : Nat) (X Y : np_X), L ≤ i + n → i ≤ 4000 → np_R2 X Y → np_V p l e room_1 s m #[Value.ref b] below meth c 19 470 D np_cls A (lw_Z below #[Value.ref b] s) 4 (np_gw a cI X ++ np_mw d cI Y) 18 [some (.ref b), some (.ref (a 0)), some (.ref (d 0)), some (.int (nI i))] [] := by
  have fin : ∀ (i : Nat) (X Y : np_X), np_V p l e room_1 s m #[Value.ref b] below meth c 19 470 D np_cls A (lw_Z below #[Value.ref b] s) 4 (np_gw a cI X ++ np_mw d cI Y) 580 [some (.ref b), some (.ref (a 0)), some (.ref (d 0)), some (.int (nI i))] [] := by
    intro i X Y
    refine np_iconst (pc := 580) (v := 1) C d_L_law_580 (by decide) ?_
    intro H locs ls hLv hP hS
    exact va_forget (fun q hq => hfree _ (hS.2.2 q hq)) (lw_ret C.1.1 C.1.2.1 C.2.2.2.2.1 C.2.2.2.2.2 d_L_law_581)
  intro n
  induction n with
  | zero =>
    intro i X Y hn hi hR
    refine np_iload_n (pc := 18) C d_L_law_18 rfl ?_
    refine np_aload_n (pc := 19) C d_L_law_19 rfl ?_
    refine np_slen (pc := 20) C hsX hbl hbA d_L_law_20 ?_
    refine np_bipush (pc := 21) (v := 6) C d_L_law_21 (by decide) ?_
    by_cases h6 : 6 ≤ L
    · refine np_isub (pc := 23) C h6 d_L_law_23 ?_
      refine np_icmp_gt (pc := 24) (tgt := 580) C (by omega) (by omega) d_L_law_24 rfl (fun h24 => ?_) (fun h24 => ?_)
      · exact fin i X Y
      · exfalso; omega
    · refine np_isubW (pc := 23) C (by omega) d_L_law_23 ?_
      refine np_gtS (pc := 24) (tgt := 580) C (by omega) (by omega) (by omega) d_L_law_24 rfl ?_
      exact fin i X Y
  | succ n ih =>
    intro i X Y hn hi hR
    refine np_iload_n (pc := 18) C d_L_law_18 rfl ?_
    refine np_aload_n (pc := 19) C d_L_law_19 rfl ?_
    refine np_slen (pc := 20) C hsX hbl hbA d_L_law_20 ?_
    refine np_bipush (pc := 21) (v := 6) C d_L_law_21 (by decide) ?_
    by_cases h6 : 6 ≤ L
    · refine np_isub (pc := 23) C h6 d_L_law_23 ?_
      refine np_icmp_gt (pc := 24) (tgt := 580) C (by omega) (by omega) d_L_law_24 rfl (fun h24 => ?_) (fun h24 => ?_)
      · exact fin i X Y
      · have kk : ∀ X2 Y2 : np_X, np_R2 X2 Y2 → np_V p l e room_1 s m #[Value.ref b] below meth c 19 470 D np_cls A (lw_Z below #[Value.ref b] s) 4 (np_gw a cI X2 ++ np_mw d cI Y2) 574 [some (.ref b), some (.ref (a 0)), some (.ref (d 0)), some (.int (nI i))] [] := by
          intro X2 Y2 hR2
          refine np_iinc (pc := 574) C d_L_law_574 rfl (np_inc6 _) (by decide) rfl ?_
          refine np_goto (pc := 577) (tgt := 18) C d_L_law_577 rfl ?_
          refine np_at (vs2 := [some (.ref b), some (.ref (a 0)), some (.ref (d 0)), some (.int (nI (i + 6)))]) rfl ?_
          exact ih (i + 6) X2 Y2 (by omega) (by omega) hR2
        refine np_aload_n (pc := 27) C d_L_law_27 rfl ?_
        refine np_iload_n (pc := 28) C d_L_law_28 rfl ?_
        refine np_sld (pc := 29) C hxn hsX hbl hbA (by omega) (by omega) d_L_law_29 ?_
        refine np_bipush (pc := 30) (v := 31) C d_L_law_30 (by decide) ?_
        refine np_and31 (pc := 32) C (xl _) d_L_law_32 ?_
        obtain ⟨v, hv⟩ : ∃ v, v = xn i % 32 := ⟨_, rfl⟩
        have hv32 : v < 32 := by omega
        rw [← hv]
        clear hv
        rcases (show v = 0 ∨ v = 1 ∨ v = 2 ∨ v = 3 ∨ v = 4 ∨ v = 5 ∨ v = 6 ∨ v = 7 ∨ v = 8 ∨ v = 9 ∨ v = 10 ∨ v = 11 ∨ v = 12 ∨ v = 13 ∨ v = 14 ∨ v = 15 ∨ v = 16 ∨ v = 17 ∨ v = 18 ∨ v = 19 ∨ v = 20 ∨ v = 21 ∨ v = 22 ∨ v = 23 ∨ v = 24 ∨ v = 25 ∨ v = 26 ∨ v = 27 ∨ v = 28 ∨ v = 29 ∨ v = 30 ∨ v = 31 by omega) with rfl | rfl | rfl | rfl | rfl | rfl | rfl | rfl | rfl | rfl | rfl | rfl | rfl | rfl | rfl | rfl | rfl | rfl | rfl | rfl | rfl | rfl | rfl | rfl | rfl | rfl | rfl | rfl | rfl | rfl | rfl | rfl
        · refine np_tswI (pc := 33) (tgt := 120) C d_L_law_33 (by decide) (by decide) (by rfl) rfl ?_
          exact lw_case_0 C hxn xl hsX hbl hbA hL ha hd haA hdA hap hR (by omega) kk
        · refine np_tswI (pc := 33) (tgt := 153) C d_L_law_33 (by decide) (by decide) (by rfl) rfl ?_
          exact lw_case_1 C hxn xl hsX hbl hbA hL ha hd haA hdA hap hR (by omega) kk
        · refine np_tswI (pc := 33) (tgt := 196) C d_L_law_33 (by decide) (by decide) (by rfl) rfl ?_
          exact lw_case_2 C hxn xl hsX hbl hbA hL ha hd haA hdA hap hR (by omega) kk
        · refine np_tswI (pc := 33) (tgt := 259) C d_L_law_33 (by decide) (by decide) (by rfl) rfl ?_
          exact lw_case_3 C hxn xl hsX hbl hbA hL ha hd haA hdA hap hR (by omega) kk
        · refine np_tswI (pc := 33) (tgt := 292) C d_L_law_33 (by decide) (by decide) (by rfl) rfl ?_
          exact lw_case_4 C hxn xl hsX hbl hbA hL ha hd haA hdA hap hR (by omega) kk
        · refine np_tswI (pc := 33) (tgt := 315) C d_L_law_33 (by decide) (by decide) (by rfl) rfl ?_
          exact lw_case_5 C hxn xl hsX hbl hbA hL ha hd haA hdA hap hR (by omega) kk
        · refine np_tswI (pc := 33) (tgt := 328) C d_L_law_33 (by decide) (by decide) (by rfl) rfl ?_
          exact lw_case_6 C hxn xl hsX hbl hbA hL ha hd haA hdA hap hR (by omega) kk
        · refine np_tswI (pc := 33) (tgt := 341) C d_L_law_33 (by decide) (by decide) (by rfl) rfl ?_
          exact lw_case_7 C hxn xl hsX hbl hbA hL ha hd haA hdA hap hR (by omega) kk
        · refine np_tswI (pc := 33) (tgt := 354) C d_L_law_33 (by decide) (by decide) (by rfl) rfl ?_
          exact lw_case_8 C hxn xl hsX hbl hbA hL ha hd haA hdA hap hR (by omega) kk
        · refine np_tswI (pc := 33) (tgt := 377) C d_L_law_33 (by decide) (by decide) (by rfl) rfl ?_
          exact lw_case_9 C hxn xl hsX hbl hbA hL ha hd haA hdA hap hR (by omega) kk
        · refine np_tswI (pc := 33) (tgt := 400) C d_L_law_33 (by decide) (by decide) (by rfl) rfl ?_
          exact lw_case_10 C hxn xl hsX hbl hbA hL ha hd haA hdA hap hR (by omega) kk
        · refine np_tswI (pc := 33) (tgt := 423) C d_L_law_33 (by decide) (by decide) (by rfl) rfl ?_
          exact lw_case_11 C hxn xl hsX hbl hbA hL ha hd haA hdA hap hR (by omega) kk
        · refine np_tswI (pc := 33) (tgt := 446) C d_L_law_33 (by decide) (by decide) (by rfl) rfl ?_
          exact lw_case_12 C hxn xl hsX hbl hbA hL ha hd haA hdA hap hR (by omega) kk
        · refine np_tswI (pc := 33) (tgt := 469) C d_L_law_33 (by decide) (by decide) (by rfl) rfl ?_
          exact lw_case_13 C hxn xl hsX hbl hbA hL ha hd haA hdA hap hR (by omega) kk
        · refine np_tswI (pc := 33) (tgt := 492) C d_L_law_33 (by decide) (by decide) (by rfl) rfl ?_
          exact lw_case_14 C hxn xl hsX hbl hbA hL ha hd haA hdA hap hR (by omega) kk
        · refine np_tswI (pc := 33) (tgt := 525) C d_L_law_33 (by decide) (by decide) (by rfl) rfl ?_
          exact lw_case_15 C hxn xl hsX hbl hbA hL ha hd haA hdA hap hR (by omega) kk
        · refine np_tswI (pc := 33) (tgt := 538) C d_L_law_33 (by decide) (by decide) (by rfl) rfl ?_
          exact lw_case_16 C hxn xl hsX hbl hbA hL ha hd haA hdA hap hR (by omega) kk
        · refine np_tswI (pc := 33) (tgt := 561) C d_L_law_33 (by decide) (by decide) (by rfl) rfl ?_
          exact lw_case_17 C hxn xl hsX hbl hbA hL ha hd haA hdA hap hR (by omega) kk
        · refine np_tswO (pc := 33) (tgt := 574) C d_L_law_33 (by decide) rfl ?_
          exact kk X Y hR
        · refine np_tswO (pc := 33) (tgt := 574) C d_L_law_33 (by decide) rfl ?_
          exact kk X Y hR
        · refine np_tswO (pc := 33) (tgt := 574) C d_L_law_33 (by decide) rfl ?_
          exact kk X Y hR
        · refine np_tswO (pc := 33) (tgt := 574) C d_L_law_33 (by decide) rfl ?_
          exact kk X Y hR
        · refine np_tswO (pc := 33) (tgt := 574) C d_L_law_33 (by decide) rfl ?_
          exact kk X Y hR
        · refine np_tswO (pc := 33) (tgt := 574) C d_L_law_33 (by decide) rfl ?_
          exact kk X Y hR
        · refine np_tswO (pc := 33) (tgt := 574) C d_L_law_33 (by decide) rfl ?_
          exact kk X Y hR
        · refine np_tswO (pc := 33) (tgt := 574) C d_L_law_33 (by decide) rfl ?_
          exact kk X Y hR
        · refine np_tswO (pc := 33) (tgt := 574) C d_L_law_33 (by decide) rfl ?_
          exact kk X Y hR
        · refine np_tswO (pc := 33) (tgt := 574) C d_L_law_33 (by decide) rfl ?_
          exact kk X Y hR
        · refine np_tswO (pc := 33) (tgt := 574) C d_L_law_33 (by decide) rfl ?_
          exact kk X Y hR
        · refine np_tswO (pc := 33) (tgt := 574) C d_L_law_33 (by decide) rfl ?_
          exact kk X Y hR
        · refine np_tswO (pc := 33) (tgt := 574) C d_L_law_33 (by decide) rfl ?_
          exact kk X Y hR
        · refine np_tswO (pc := 33) (tgt := 574) C d_L_law_33 (by decide) rfl ?_
          exact kk X Y hR
    · refine np_isubW (pc := 23) C (by omega) d_L_law_23 ?_
      refine np_gtS (pc := 24) (tgt := 580) C (by omega) (by omega) (by omega) d_L_law_24 rfl ?_
      exact fin i X Y
set_option maxRecDepth 20000 in
set_option maxHeartbeats 4000000 in
theorem whole_start {p : Program} {e : Env} {s : State} {m : MethodId} {below : List Frame} {meth : Method} {c : Code} (l : Launch) {b L : Nat} {xs : Nat → Int32} (hL : L ≤ 3072) (C0 : lw_At p s m meth c b L xs) : W p l e room_1 s m #[Value.ref b] below meth c s.heap [] 0 0 (lw_Z below #[Value.ref b] s) (entryFrame m ([Value.ref b] : List Value).toArray 4) := by
  obtain ⟨hx, hb, hr, hml, hown, hts, hsX, hbl, hlk, hgv⟩ := C0
  have htS : ∀ w ∈ np_TS, w.before #[Value.ref b] s = true := fun w hw => hts w (np_TS_tbl hw)
  obtain ⟨D, cI, hK⟩ := np_know htS
  obtain ⟨A, hAe⟩ : ∃ A : Nat → Prop, A = fun x => s.heap.size ≤ x := ⟨_, rfl⟩
  have hA : ∀ x, s.heap.size ≤ x → A x := fun x h => by rw [hAe]; exact h
  have hfree : ∀ x, A x → s.heap.size ≤ x := fun x h => by rw [hAe] at h; exact h
  clear hAe
  have hnA : ∀ x : Nat, x < s.heap.size → ¬ A x := fun x h z => by have := hfree x z; omega
  obtain ⟨t, hSt⟩ := np_stat (A := A) hts hgv hnA
  have C : np_Cx p s m #[Value.ref b] meth c code 4 R_law ret np_TS D np_cls cI A (np_S0 t A) := ⟨⟨hx, hb, hml, hown, htS⟩, hK, hSt, np_Sc_St A t, hr, hlk⟩
  obtain ⟨xn, hxn⟩ : ∃ xn : Nat → Nat, ∀ j, xn j < 4294967296 ∧ xs j = nI (xn j) := ⟨fun j => Classical.choose (np_of (xs j)), fun j => Classical.choose_spec (np_of (xs j))⟩
  have start : np_V p l e room_1 s m #[Value.ref b] below meth c 0 0 D np_cls A (lw_Z below #[Value.ref b] s) 4 [] 0 [some (.ref b), none, none, none] [] := by
    have hD0 : va_D A [] := ⟨fun i j x y hi => by simp at hi, fun k x hk => by simp at hk⟩
    refine np_newO (pc := 0) (ci := 0) (fs := [.null, .null, .null, .null, .null, .null, .null, .int (nI 0)]) C hA hD0 hin_P ty_P tyok_P m_6 m_7 m_1 rfl (fun j hj => by rcases (show j = 0 ∨ j = 1 ∨ j = 2 ∨ j = 3 ∨ j = 4 ∨ j = 5 ∨ j = 6 ∨ j = 7 by omega) with rfl | rfl | rfl | rfl | rfl | rfl | rfl | rfl <;> rfl) (by decide) (by decide) d_L_law_0 (fun q1 hq1 => ?_)
    refine np_dup (pc := 3) C rfl d_L_law_3 ?_
    refine np_cI (pc := 4) (S0 := np_S0 t) C (np_S0_less t) hA hq1 (k_P_init l D cI t) (np_S0_St t) d_L_law_4 m_10 (fun _ _ _ => Or.inl (callB_of 0 C.1.2.2.2.2 (np_GoodIn np_TS_good m_10) rfl rfl rfl (C.1.2.2.2.2 _ m_1) (C.1.2.2.2.2 _ m_8) hd_P_init (by decide))) (by decide +kernel) rfl m_9 (by decide) (Nat.le_of_ble_eq_true rfl) (fun a ea ha => ?_)
    subst ea
    refine np_astore_n (pc := 7) C d_L_law_7 (by decide) rfl ?_
    refine np_atw (w2 := np_gw a cI np_X0) rfl ?_
    refine np_newO (pc := 8) (ci := 4) (fs := [.int (nI 0), .null, .null, .null, .int (nI 0), .null, .int (nI 0), .null, .null]) C hA ha hin_M ty_M tyok_M m_298 m_299 m_5 rfl (fun j hj => by rcases (show j = 0 ∨ j = 1 ∨ j = 2 ∨ j = 3 ∨ j = 4 ∨ j = 5 ∨ j = 6 ∨ j = 7 ∨ j = 8 by omega) with rfl | rfl | rfl | rfl | rfl | rfl | rfl | rfl | rfl <;> rfl) (by decide) (by decide) d_L_law_8 (fun q2 hq2 => ?_)
    refine np_dup (pc := 11) C rfl d_L_law_11 ?_
    refine np_cI (pc := 12) (S0 := np_S0 t) C (np_S0_less t) hA hq2 (k_M_init l D cI t) (np_S0_St t) d_L_law_12 m_302 (fun _ _ _ => Or.inl (callB_of 0 C.1.2.2.2.2 (np_GoodIn np_TS_good m_302) rfl rfl rfl (C.1.2.2.2.2 _ m_5) (C.1.2.2.2.2 _ m_300) hd_M_init (by decide))) (by decide +kernel) rfl m_301 (by decide) (Nat.le_of_ble_eq_true rfl) (fun d ed hd => ?_)
    subst ed
    refine np_astore_n (pc := 15) C d_L_law_15 (by decide) rfl ?_
    refine np_iconst (pc := 16) (v := 0) C d_L_law_16 (by decide) ?_
    refine np_istore_n (pc := 17) C d_L_law_17 (by decide) rfl ?_
    refine np_at (vs2 := [some (.ref b), some (.ref (a 0)), some (.ref (d 0)), some (.int (nI 0))]) rfl ?_
    obtain ⟨g1, g2, g3, g4, g5⟩ := np_apart hd
    exact lw_loop C (fun j => (hxn j).2) (fun j => (hxn j).1) hsX hbl (hnA b hbl) hL g1 g2 g4 g5 g3 hfree L 0 np_X0 np_Y0 (by omega) (by omega) np_start
  have hl := lv_entry [Value.ref b] (n := 4) (Nat.le_of_ble_eq_true rfl)
  rw [lg_entry_eq]
  exact start s.heap [] _ (np_LV.entry hl) (fun k x hk => by simp at hk) va_S.rf
