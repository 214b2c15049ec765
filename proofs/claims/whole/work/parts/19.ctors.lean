theorem np_Dsame {A : Nat → Prop} {w1 w2 : va_W} (h : va_D A w1) (e : w1.map Prod.fst = w2.map Prod.fst) : va_D A w2 := by
  have key : ∀ (i : Nat) (x : Nat × va_E), w2[i]? = some x → ∃ y, w1[i]? = some y ∧ y.1 = x.1 := by
    intro i x hx
    have h2 : (w2.map Prod.fst)[i]? = some x.1 := by rw [List.getElem?_map, hx]; rfl
    rw [← e, List.getElem?_map] at h2
    cases hy : w1[i]? with
    | none => rw [hy] at h2; cases h2
    | some y => rw [hy] at h2; exact ⟨y, rfl, Option.some.inj h2⟩
  refine ⟨fun i j x y hi hj hxy => ?_, fun k x hk => ?_⟩
  · obtain ⟨x1, a1, b1⟩ := key i x hi
    obtain ⟨y1, a2, b2⟩ := key j y hj
    exact h.1 i j x1 y1 a1 a2 (by rw [b1, b2, hxy])
  · obtain ⟨x1, a1, b1⟩ := key k x hk
    rw [← b1]; exact h.2 k x1 a1
def np_id : (Nat → Nat) → Nat → (Nat → Nat)
  | f, 0 => f
  | f, i + 1 => np_id (np_hu f (i + 1)) i
def np_z : Nat → Nat := fun _ => 0
def np_nd0 : Nat → Nat := np_id np_z 15
def np_XT : np_X := va_up (va_up (fun _ => np_z) 6 np_nd0) 7 (updN np_z 0 (np_nd0 1))
theorem np_ok_z : np_ok np_z := fun _ => (by decide : 0 < 65537)
abbrev np_S0 (t : Nat → Nat) : (Nat → Prop) → State → Heap → Prop := fun A => np_Sc A t
theorem np_S0_St (t : Nat → Nat) : ∀ A, np_St A (np_S0 t A) := fun A => np_Sc_St A t
theorem np_S0_less (t : Nat → Nat) : ∀ (A B : Nat → Prop) (U : State) (H : Heap), np_S0 t A U H → (∀ x, B x → A x) → np_S0 t B U H := fun _ _ _ _ h hq => np_Sc.less h hq
abbrev np_Sm0 : (Nat → Prop) → State → Heap → Prop := fun _ => np_Sm
def np_kw (a : Nat → Nat) (cI : ClassId) : va_W := [(a 8, .inr (2, [.ref (a 9), .int (nI 0)])), (a 9, .inl (cI, 16, .inl (fun _ => nI 0)))]
def np_cells0 : Nat → Nat := updN np_z 0 1
def np_sw (a : Nat → Nat) (cI : ClassId) : va_W := [(a 10, .inr (3, [.ref (a 11)])), (a 11, .inl (cI, 125, .inl (fun i => nI (np_cells0 i))))]
def np_Y0 : np_X := va_up (fun _ => np_z) 5 np_cells0
set_option maxRecDepth 20000 in
set_option maxHeartbeats 4000000 in
theorem k_K_init (l : Launch) (D : va_G) (cI : ClassId) (t : Nat → Nat) : np_K l D cI (np_S0 t) (1, 40) 1 16 y_K_init b_K_init 1 (.inr (2, [.null, .int (nI 0)])) 8 (fun a => np_kw a cI) := by
  refine np_K.of (np_S0_St t) (by decide) rfl (by decide) ?_
  intro q p e s m below meth c A C hini hA hD eA
  refine np_at (vs2 := [some (.ref q)]) rfl ?_
  refine np_aload_n (pc := 0) C d_K_init_0 rfl ?_
  refine np_oinit (pc := 1) C m_54 m_12 m_13 d_K_init_1 (by decide) (by decide) ?_
  refine np_aload_n (pc := 4) C d_K_init_4 rfl ?_
  refine np_bipush (pc := 5) (v := 16) C d_K_init_5 (by decide) ?_
  refine np_newI (pc := 7) C hA hD m_48 (by decide) (by decide) (by decide) d_K_init_7 (fun q9 hD => ?_)
  refine np_atw (w2 := [(q, .inr (2, [.null, .int (nI 0)])), (q9, .inl (cI, 16, .inl (fun _ => nI 0)))]) rfl ?_
  have hD : va_D A [(q, .inr (2, [.null, .int (nI 0)])), (q9, .inl (cI, 16, .inl (fun _ => nI 0)))] := hD
  refine np_putR (pc := 9) (w' := [(q, .inr (2, [.ref q9, .int (nI 0)])), (q9, .inl (cI, 16, .inl (fun _ => nI 0)))]) C 0 0 hini hD d_K_init_9 rfl rfl rfl (by decide) hin_K ty_K tyok_K nm_K m_55 rfl rfl rfl rfl rfl rfl (Nat.le_of_ble_eq_true rfl) (fun hD => ?_)
  refine np_aload_n (pc := 12) C d_K_init_12 rfl ?_
  refine np_iconst (pc := 13) (v := 0) C d_K_init_13 (by decide) ?_
  refine np_put (pc := 14) (w' := [(q, .inr (2, [.ref q9, .int (nI 0)])), (q9, .inl (cI, 16, .inl (fun _ => nI 0)))]) C 0 1 hD d_K_init_14 rfl rfl rfl (by decide) hin_K ty_K tyok_K nm_K m_56 rfl rfl rfl (Nat.le_of_ble_eq_true rfl) ?_
  subst eA
  exact np_kret (pc := 17) C d_K_init_17 (fun j => if j = 8 then q else q9) rfl rfl hD
set_option maxRecDepth 20000 in
set_option maxHeartbeats 4000000 in
theorem k_S_init (l : Launch) (D : va_G) (cI : ClassId) (t : Nat → Nat) : np_K l D cI (np_S0 t) (1, 40) 1 125 y_S_init b_S_init 1 (.inr (3, [.null])) 10 (fun a => np_sw a cI) := by
  refine np_K.of (np_S0_St t) (by decide) rfl (by decide) ?_
  intro q p e s m below meth c A C hini hA hD eA
  refine np_at (vs2 := [some (.ref q)]) rfl ?_
  refine np_aload_n (pc := 0) C d_S_init_0 rfl ?_
  refine np_oinit (pc := 1) C m_68 m_12 m_13 d_S_init_1 (by decide) (by decide) ?_
  refine np_aload_n (pc := 4) C d_S_init_4 rfl ?_
  refine np_bipush (pc := 5) (v := 125) C d_S_init_5 (by decide) ?_
  refine np_newI (pc := 7) C hA hD m_48 (by decide) (by decide) (by decide) d_S_init_7 (fun q11 hD => ?_)
  refine np_atw (w2 := [(q, .inr (3, [.null])), (q11, .inl (cI, 125, .inl (fun _ => nI 0)))]) rfl ?_
  have hD : va_D A [(q, .inr (3, [.null])), (q11, .inl (cI, 125, .inl (fun _ => nI 0)))] := hD
  refine np_putR (pc := 9) (w' := [(q, .inr (3, [.ref q11])), (q11, .inl (cI, 125, .inl (fun _ => nI 0)))]) C 0 0 hini hD d_S_init_9 rfl rfl rfl (by decide) hin_S ty_S tyok_S nm_S m_69 rfl rfl rfl rfl rfl rfl (Nat.le_of_ble_eq_true rfl) (fun hD => ?_)
  refine np_aload_n (pc := 12) C d_S_init_12 rfl ?_
  refine np_get (pc := 13) C 0 0 d_S_init_13 rfl rfl rfl (by decide) hin_S m_69 rfl ?_
  refine np_iconst (pc := 16) (v := 0) C d_S_init_16 (by decide) ?_
  refine np_iconst (pc := 17) (v := 1) C d_S_init_17 (by decide) ?_
  refine np_iast (pc := 18) (f := np_z) (w' := [(q, .inr (3, [.ref q11])), (q11, .inl (cI, 125, .inl (fun i => nI (np_cells0 i))))]) C 1 hD d_S_init_18 rfl rfl (by decide) (by decide) ?_
  have hD : va_D A [(q, .inr (3, [.ref q11])), (q11, .inl (cI, 125, .inl (fun i => nI (np_cells0 i))))] := np_Dsame hD rfl
  subst eA
  exact np_kret (pc := 19) C d_S_init_19 (fun j => if j = 10 then q else q11) rfl rfl hD
set_option maxRecDepth 20000 in
set_option maxHeartbeats 4000000 in
theorem k_M_init (l : Launch) (D : va_G) (cI : ClassId) (t : Nat → Nat) : np_K l D cI (np_S0 t) (1, 40) 6 205 y_M_init b_M_init 1 (.inr (4, [.int (nI 0), .null, .null, .null, .int (nI 0), .null, .int (nI 0), .null, .null])) 0 (fun a => np_mw a cI np_Y0) := by
  refine np_K.of (np_S0_St t) (by decide) rfl (by decide) ?_
  intro q p e s m below meth c A C hini hA hD eA
  refine np_at (vs2 := [some (.ref q)]) rfl ?_
  refine np_aload_n (pc := 0) C d_M_init_0 rfl ?_
  refine np_oinit (pc := 1) C m_303 m_12 m_13 d_M_init_1 (by decide) (by decide) ?_
  refine np_aload_n (pc := 4) C d_M_init_4 rfl ?_
  refine np_bipush (pc := 5) (v := 16) C d_M_init_5 (by decide) ?_
  refine np_newI (pc := 7) C hA hD m_48 (by decide) (by decide) (by decide) d_M_init_7 (fun q1 hD => ?_)
  refine np_atw (w2 := [(q, .inr (4, [.int (nI 0), .null, .null, .null, .int (nI 0), .null, .int (nI 0), .null, .null])), (q1, .inl (cI, 16, .inl (fun _ => nI 0)))]) rfl ?_
  have hD : va_D A [(q, .inr (4, [.int (nI 0), .null, .null, .null, .int (nI 0), .null, .int (nI 0), .null, .null])), (q1, .inl (cI, 16, .inl (fun _ => nI 0)))] := hD
  refine np_putR (pc := 9) (w' := [(q, .inr (4, [.int (nI 0), .ref q1, .null, .null, .int (nI 0), .null, .int (nI 0), .null, .null])), (q1, .inl (cI, 16, .inl (fun _ => nI 0)))]) C 0 1 hini hD d_M_init_9 rfl rfl rfl (by decide) hin_M ty_M tyok_M nm_M m_305 rfl rfl rfl rfl rfl rfl (Nat.le_of_ble_eq_true rfl) (fun hD => ?_)
  refine np_aload_n (pc := 12) C d_M_init_12 rfl ?_
  refine np_bipush (pc := 13) (v := 16) C d_M_init_13 (by decide) ?_
  refine np_newI (pc := 15) C hA hD m_48 (by decide) (by decide) (by decide) d_M_init_15 (fun q2 hD => ?_)
  refine np_atw (w2 := [(q, .inr (4, [.int (nI 0), .ref q1, .null, .null, .int (nI 0), .null, .int (nI 0), .null, .null])), (q1, .inl (cI, 16, .inl (fun _ => nI 0))), (q2, .inl (cI, 16, .inl (fun _ => nI 0)))]) rfl ?_
  have hD : va_D A [(q, .inr (4, [.int (nI 0), .ref q1, .null, .null, .int (nI 0), .null, .int (nI 0), .null, .null])), (q1, .inl (cI, 16, .inl (fun _ => nI 0))), (q2, .inl (cI, 16, .inl (fun _ => nI 0)))] := hD
  refine np_putR (pc := 17) (w' := [(q, .inr (4, [.int (nI 0), .ref q1, .ref q2, .null, .int (nI 0), .null, .int (nI 0), .null, .null])), (q1, .inl (cI, 16, .inl (fun _ => nI 0))), (q2, .inl (cI, 16, .inl (fun _ => nI 0)))]) C 0 2 hini hD d_M_init_17 rfl rfl rfl (by decide) hin_M ty_M tyok_M nm_M m_306 rfl rfl rfl rfl rfl rfl (Nat.le_of_ble_eq_true rfl) (fun hD => ?_)
  refine np_aload_n (pc := 20) C d_M_init_20 rfl ?_
  refine np_bipush (pc := 21) (v := 16) C d_M_init_21 (by decide) ?_
  refine np_newI (pc := 23) C hA hD m_48 (by decide) (by decide) (by decide) d_M_init_23 (fun q3 hD => ?_)
  refine np_atw (w2 := [(q, .inr (4, [.int (nI 0), .ref q1, .ref q2, .null, .int (nI 0), .null, .int (nI 0), .null, .null])), (q1, .inl (cI, 16, .inl (fun _ => nI 0))), (q2, .inl (cI, 16, .inl (fun _ => nI 0))), (q3, .inl (cI, 16, .inl (fun _ => nI 0)))]) rfl ?_
  have hD : va_D A [(q, .inr (4, [.int (nI 0), .ref q1, .ref q2, .null, .int (nI 0), .null, .int (nI 0), .null, .null])), (q1, .inl (cI, 16, .inl (fun _ => nI 0))), (q2, .inl (cI, 16, .inl (fun _ => nI 0))), (q3, .inl (cI, 16, .inl (fun _ => nI 0)))] := hD
  refine np_putR (pc := 25) (w' := [(q, .inr (4, [.int (nI 0), .ref q1, .ref q2, .ref q3, .int (nI 0), .null, .int (nI 0), .null, .null])), (q1, .inl (cI, 16, .inl (fun _ => nI 0))), (q2, .inl (cI, 16, .inl (fun _ => nI 0))), (q3, .inl (cI, 16, .inl (fun _ => nI 0)))]) C 0 3 hini hD d_M_init_25 rfl rfl rfl (by decide) hin_M ty_M tyok_M nm_M m_307 rfl rfl rfl rfl rfl rfl (Nat.le_of_ble_eq_true rfl) (fun hD => ?_)
  refine np_aload_n (pc := 28) C d_M_init_28 rfl ?_
  refine np_bipush (pc := 29) (v := 16) C d_M_init_29 (by decide) ?_
  refine np_newI (pc := 31) C hA hD m_48 (by decide) (by decide) (by decide) d_M_init_31 (fun q4 hD => ?_)
  refine np_atw (w2 := [(q, .inr (4, [.int (nI 0), .ref q1, .ref q2, .ref q3, .int (nI 0), .null, .int (nI 0), .null, .null])), (q1, .inl (cI, 16, .inl (fun _ => nI 0))), (q2, .inl (cI, 16, .inl (fun _ => nI 0))), (q3, .inl (cI, 16, .inl (fun _ => nI 0))), (q4, .inl (cI, 16, .inl (fun _ => nI 0)))]) rfl ?_
  have hD : va_D A [(q, .inr (4, [.int (nI 0), .ref q1, .ref q2, .ref q3, .int (nI 0), .null, .int (nI 0), .null, .null])), (q1, .inl (cI, 16, .inl (fun _ => nI 0))), (q2, .inl (cI, 16, .inl (fun _ => nI 0))), (q3, .inl (cI, 16, .inl (fun _ => nI 0))), (q4, .inl (cI, 16, .inl (fun _ => nI 0)))] := hD
  refine np_putR (pc := 33) (w' := [(q, .inr (4, [.int (nI 0), .ref q1, .ref q2, .ref q3, .int (nI 0), .ref q4, .int (nI 0), .null, .null])), (q1, .inl (cI, 16, .inl (fun _ => nI 0))), (q2, .inl (cI, 16, .inl (fun _ => nI 0))), (q3, .inl (cI, 16, .inl (fun _ => nI 0))), (q4, .inl (cI, 16, .inl (fun _ => nI 0)))]) C 0 5 hini hD d_M_init_33 rfl rfl rfl (by decide) hin_M ty_M tyok_M nm_M m_309 rfl rfl rfl rfl rfl rfl (Nat.le_of_ble_eq_true rfl) (fun hD => ?_)
  refine np_aload_n (pc := 36) C d_M_init_36 rfl ?_
  refine np_bipush (pc := 37) (v := 125) C d_M_init_37 (by decide) ?_
  refine np_newI (pc := 39) C hA hD m_48 (by decide) (by decide) (by decide) d_M_init_39 (fun q5 hD => ?_)
  refine np_atw (w2 := [(q, .inr (4, [.int (nI 0), .ref q1, .ref q2, .ref q3, .int (nI 0), .ref q4, .int (nI 0), .null, .null])), (q1, .inl (cI, 16, .inl (fun _ => nI 0))), (q2, .inl (cI, 16, .inl (fun _ => nI 0))), (q3, .inl (cI, 16, .inl (fun _ => nI 0))), (q4, .inl (cI, 16, .inl (fun _ => nI 0))), (q5, .inl (cI, 125, .inl (fun _ => nI 0)))]) rfl ?_
  have hD : va_D A [(q, .inr (4, [.int (nI 0), .ref q1, .ref q2, .ref q3, .int (nI 0), .ref q4, .int (nI 0), .null, .null])), (q1, .inl (cI, 16, .inl (fun _ => nI 0))), (q2, .inl (cI, 16, .inl (fun _ => nI 0))), (q3, .inl (cI, 16, .inl (fun _ => nI 0))), (q4, .inl (cI, 16, .inl (fun _ => nI 0))), (q5, .inl (cI, 125, .inl (fun _ => nI 0)))] := hD
  refine np_putR (pc := 41) (w' := [(q, .inr (4, [.int (nI 0), .ref q1, .ref q2, .ref q3, .int (nI 0), .ref q4, .int (nI 0), .ref q5, .null])), (q1, .inl (cI, 16, .inl (fun _ => nI 0))), (q2, .inl (cI, 16, .inl (fun _ => nI 0))), (q3, .inl (cI, 16, .inl (fun _ => nI 0))), (q4, .inl (cI, 16, .inl (fun _ => nI 0))), (q5, .inl (cI, 125, .inl (fun _ => nI 0)))]) C 0 7 hini hD d_M_init_41 rfl rfl rfl (by decide) hin_M ty_M tyok_M nm_M m_311 rfl rfl rfl rfl rfl rfl (Nat.le_of_ble_eq_true rfl) (fun hD => ?_)
  refine np_aload_n (pc := 44) C d_M_init_44 rfl ?_
  refine np_bipush (pc := 45) (v := 16) C d_M_init_45 (by decide) ?_
  refine np_newI (pc := 47) C hA hD m_48 (by decide) (by decide) (by decide) d_M_init_47 (fun q6 hD => ?_)
  refine np_atw (w2 := [(q, .inr (4, [.int (nI 0), .ref q1, .ref q2, .ref q3, .int (nI 0), .ref q4, .int (nI 0), .ref q5, .null])), (q1, .inl (cI, 16, .inl (fun _ => nI 0))), (q2, .inl (cI, 16, .inl (fun _ => nI 0))), (q3, .inl (cI, 16, .inl (fun _ => nI 0))), (q4, .inl (cI, 16, .inl (fun _ => nI 0))), (q5, .inl (cI, 125, .inl (fun _ => nI 0))), (q6, .inl (cI, 16, .inl (fun _ => nI 0)))]) rfl ?_
  have hD : va_D A [(q, .inr (4, [.int (nI 0), .ref q1, .ref q2, .ref q3, .int (nI 0), .ref q4, .int (nI 0), .ref q5, .null])), (q1, .inl (cI, 16, .inl (fun _ => nI 0))), (q2, .inl (cI, 16, .inl (fun _ => nI 0))), (q3, .inl (cI, 16, .inl (fun _ => nI 0))), (q4, .inl (cI, 16, .inl (fun _ => nI 0))), (q5, .inl (cI, 125, .inl (fun _ => nI 0))), (q6, .inl (cI, 16, .inl (fun _ => nI 0)))] := hD
  refine np_putR (pc := 49) (w' := [(q, .inr (4, [.int (nI 0), .ref q1, .ref q2, .ref q3, .int (nI 0), .ref q4, .int (nI 0), .ref q5, .ref q6])), (q1, .inl (cI, 16, .inl (fun _ => nI 0))), (q2, .inl (cI, 16, .inl (fun _ => nI 0))), (q3, .inl (cI, 16, .inl (fun _ => nI 0))), (q4, .inl (cI, 16, .inl (fun _ => nI 0))), (q5, .inl (cI, 125, .inl (fun _ => nI 0))), (q6, .inl (cI, 16, .inl (fun _ => nI 0)))]) C 0 8 hini hD d_M_init_49 rfl rfl rfl (by decide) hin_M ty_M tyok_M nm_M m_312 rfl rfl rfl rfl rfl rfl (Nat.le_of_ble_eq_true rfl) (fun hD => ?_)
  refine np_aload_n (pc := 52) C d_M_init_52 rfl ?_
  refine np_get (pc := 53) C 0 7 d_M_init_53 rfl rfl rfl (by decide) hin_M m_311 rfl ?_
  refine np_iconst (pc := 56) (v := 0) C d_M_init_56 (by decide) ?_
  refine np_iconst (pc := 57) (v := 1) C d_M_init_57 (by decide) ?_
  refine np_iast (pc := 58) (f := np_z) (w' := [(q, .inr (4, [.int (nI 0), .ref q1, .ref q2, .ref q3, .int (nI 0), .ref q4, .int (nI 0), .ref q5, .ref q6])), (q1, .inl (cI, 16, .inl (fun _ => nI 0))), (q2, .inl (cI, 16, .inl (fun _ => nI 0))), (q3, .inl (cI, 16, .inl (fun _ => nI 0))), (q4, .inl (cI, 16, .inl (fun _ => nI 0))), (q5, .inl (cI, 125, .inl (fun i => nI (np_cells0 i)))), (q6, .inl (cI, 16, .inl (fun _ => nI 0)))]) C 5 hD d_M_init_58 rfl rfl (by decide) (by decide) ?_
  have hD : va_D A [(q, .inr (4, [.int (nI 0), .ref q1, .ref q2, .ref q3, .int (nI 0), .ref q4, .int (nI 0), .ref q5, .ref q6])), (q1, .inl (cI, 16, .inl (fun _ => nI 0))), (q2, .inl (cI, 16, .inl (fun _ => nI 0))), (q3, .inl (cI, 16, .inl (fun _ => nI 0))), (q4, .inl (cI, 16, .inl (fun _ => nI 0))), (q5, .inl (cI, 125, .inl (fun i => nI (np_cells0 i)))), (q6, .inl (cI, 16, .inl (fun _ => nI 0)))] := np_Dsame hD rfl
  subst eA
  exact np_kret (pc := 59) C d_M_init_59 (fun j => if j = 0 then q else if j = 1 then q1 else if j = 2 then q2 else if j = 3 then q3 else if j = 4 then q4 else if j = 5 then q5 else q6) rfl rfl hD
set_option maxRecDepth 20000 in
set_option maxHeartbeats 4000000 in
theorem k_T_init (l : Launch) (D : va_G) (cI : ClassId) (t : Nat → Nat) : np_K l D cI (np_S0 t) (3, 90) 2 49 y_T_init b_T_init 2 (.inr (1, [.null, .null, .int (nI 0)])) 5 (fun a => np_tw a cI np_XT) := by
  refine np_K.of (np_S0_St t) (by decide) rfl (by decide) ?_
  intro q p e s m below meth c A C hini hA hD eA
  refine np_at (vs2 := [some (.ref q), none]) rfl ?_
  refine np_aload_n (pc := 0) C d_T_init_0 rfl ?_
  refine np_oinit (pc := 1) C m_19 m_12 m_13 d_T_init_1 (by decide) (by decide) ?_
  refine np_aload_n (pc := 4) C d_T_init_4 rfl ?_
  refine np_bipush (pc := 5) (v := 32) C d_T_init_5 (by decide) ?_
  refine np_newI (pc := 7) C hA hD m_48 (by decide) (by decide) (by decide) d_T_init_7 (fun q6 hD => ?_)
  refine np_atw (w2 := [(q, .inr (1, [.null, .null, .int (nI 0)])), (q6, .inl (cI, 32, .inl (fun _ => nI 0)))]) rfl ?_
  have hD : va_D A [(q, .inr (1, [.null, .null, .int (nI 0)])), (q6, .inl (cI, 32, .inl (fun _ => nI 0)))] := hD
  refine np_putR (pc := 9) (w' := [(q, .inr (1, [.ref q6, .null, .int (nI 0)])), (q6, .inl (cI, 32, .inl (fun _ => nI 0)))]) C 0 0 hini hD d_T_init_9 rfl rfl rfl (by decide) hin_T ty_T tyok_T nm_T m_37 rfl rfl rfl rfl rfl rfl (Nat.le_of_ble_eq_true rfl) (fun hD => ?_)
  refine np_aload_n (pc := 12) C d_T_init_12 rfl ?_
  refine np_bipush (pc := 13) (v := 17) C d_T_init_13 (by decide) ?_
  refine np_newI (pc := 15) C hA hD m_48 (by decide) (by decide) (by decide) d_T_init_15 (fun q7 hD => ?_)
  refine np_atw (w2 := [(q, .inr (1, [.ref q6, .null, .int (nI 0)])), (q6, .inl (cI, 32, .inl (fun _ => nI 0))), (q7, .inl (cI, 17, .inl (fun _ => nI 0)))]) rfl ?_
  have hD : va_D A [(q, .inr (1, [.ref q6, .null, .int (nI 0)])), (q6, .inl (cI, 32, .inl (fun _ => nI 0))), (q7, .inl (cI, 17, .inl (fun _ => nI 0)))] := hD
  refine np_putR (pc := 17) (w' := [(q, .inr (1, [.ref q6, .ref q7, .int (nI 0)])), (q6, .inl (cI, 32, .inl (fun _ => nI 0))), (q7, .inl (cI, 17, .inl (fun _ => nI 0)))]) C 0 1 hini hD d_T_init_17 rfl rfl rfl (by decide) hin_T ty_T tyok_T nm_T m_38 rfl rfl rfl rfl rfl rfl (Nat.le_of_ble_eq_true rfl) (fun hD => ?_)
  refine np_aload_n (pc := 20) C d_T_init_20 rfl ?_
  refine np_iconst (pc := 21) (v := 0) C d_T_init_21 (by decide) ?_
  refine np_put (pc := 22) (w' := [(q, .inr (1, [.ref q6, .ref q7, .int (nI 0)])), (q6, .inl (cI, 32, .inl (fun _ => nI 0))), (q7, .inl (cI, 17, .inl (fun _ => nI 0)))]) C 0 2 hD d_T_init_22 rfl rfl rfl (by decide) hin_T ty_T tyok_T nm_T m_39 rfl rfl rfl (Nat.le_of_ble_eq_true rfl) ?_
  obtain ⟨a, ha⟩ : ∃ a : Nat → Nat, a = fun j => if j = 5 then q else if j = 6 then q6 else q7 := ⟨_, rfl⟩
  have a5 : a 5 = q := by rw [ha]; rfl
  have a6 : a 6 = q6 := by rw [ha]; rfl
  have a7 : a 7 = q7 := by rw [ha]; rfl
  clear ha
  subst a5 a6 a7
  refine np_atw (w2 := np_tw a cI (va_up (fun _ => np_z) 6 np_z)) rfl ?_
  have hDx : ∀ X, va_D A (np_tw a cI X) := fun X => np_Dsame hD rfl
  have loop : ∀ (i : Nat) (f : Nat → Nat), i ≤ 15 → np_ok f → np_id f i = np_nd0 → np_V p l e (np_rc (3, 90) 2 49) s m ([Value.ref (a 5)] : List Value).toArray below meth c 2 49 D np_cls A (MQ below (np_Kq D (.inr (1, [.null, .null, .int (nI 0)])) (a 5) s.heap.size 5 (fun a => np_tw a cI np_XT)) ([Value.ref (a 5)] : List Value).toArray s 2 49 (va_A [(a 5, .inr (1, [.null, .null, .int (nI 0)]))] s.heap.size)) 2 (np_tw a cI (va_up (fun _ => np_z) 6 f)) 28 [some (.ref (a 5)), some (.int (nI i))] [] := by
    intro i
    induction i with
    | zero =>
      intro f hi hf he
      refine np_iload_n (pc := 28) C d_T_init_28 rfl ?_
      refine np_iconst (pc := 29) (v := 1) C d_T_init_29 (by decide) ?_
      refine np_icmp_lt (pc := 30) (tgt := 44) C (by omega) (by omega) d_T_init_30 rfl (fun h30 => ?_) (fun h30 => ?_)
      · refine np_aload_n (pc := 44) C d_T_init_44 rfl ?_
        refine np_get (pc := 45) C 0 1 d_T_init_45 rfl rfl rfl (by decide) hin_T m_38 rfl ?_
        refine np_iconst (pc := 48) (v := 0) C d_T_init_48 (by decide) ?_
        refine np_aload_n (pc := 49) C d_T_init_49 rfl ?_
        refine np_get (pc := 50) C 0 0 d_T_init_50 rfl rfl rfl (by decide) hin_T m_37 rfl ?_
        refine np_iconst (pc := 53) (v := 1) C d_T_init_53 (by decide) ?_
        refine np_iald (pc := 54) C 1 d_T_init_54 rfl (by omega) (by decide) ?_
        refine np_iastG (pc := 55) C (np_tw a cI) _ 2 7 (hDx _) d_T_init_55 rfl (ts_7 a cI _) (by omega) (by decide) ?_
        subst eA
        exact np_kret (pc := 56) C d_T_init_56 a rfl (by rw [np_XT, ← he]; rfl) (hDx _)
      · exfalso; omega
    | succ i ih =>
      intro f hi hf he
      refine np_iload_n (pc := 28) C d_T_init_28 rfl ?_
      refine np_iconst (pc := 29) (v := 1) C d_T_init_29 (by decide) ?_
      refine np_icmp_lt (pc := 30) (tgt := 44) C (by omega) (by omega) d_T_init_30 rfl (fun h30 => ?_) (fun h30 => ?_)
      · exfalso; omega
      · refine np_aload_n (pc := 33) C d_T_init_33 rfl ?_
        refine np_iload_n (pc := 34) C d_T_init_34 rfl ?_
        refine np_cVg (pc := 35) C 0 (c_T_hashUp_t l D t hDx (X := va_up (fun _ => np_z) 6 f) (by omega) hf) d_T_init_35 rfl rfl m_23 m_20 m_2 m_22 ms_T_hashUp hd_T_hashUp (by decide) (by decide) rfl rfl (Nat.le_of_ble_eq_true rfl) ?_
        refine np_iinc (pc := 38) C d_T_init_38 rfl (np_m1 (Nat.succ_pos i)) (by decide) rfl ?_
        refine np_goto (pc := 41) (tgt := 28) C d_T_init_41 rfl ?_
        refine np_at (vs2 := [some (.ref (a 5)), some (.int (nI i))]) rfl ?_
        refine np_atw (w2 := np_tw a cI (va_up (fun _ => np_z) 6 (np_hu f (i + 1)))) rfl ?_
        exact ih _ (by omega) (np_ok_hu hf _) he
  refine np_bipush (pc := 25) (v := 15) C d_T_init_25 (by decide) ?_
  refine np_istore_n (pc := 27) C d_T_init_27 (by decide) rfl ?_
  refine np_at (vs2 := [some (.ref (a 5)), some (.int (nI 15))]) rfl ?_
  exact loop 15 np_z (Nat.le_refl _) np_ok_z rfl
