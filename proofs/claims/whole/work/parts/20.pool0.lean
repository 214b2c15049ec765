def np_kys : (Nat → Nat) → Nat → Nat → (Nat → Nat)
  | f, _, 0 => f
  | f, i, n + 1 => np_kys (updN f i (np_key i)) (i + 1) n
def np_X1 : np_X := va_up np_XT 11 np_cells0
def np_X0 : np_X := va_up np_X1 1 (np_kys np_z 0 4)
set_option maxRecDepth 20000 in
set_option maxHeartbeats 4000000 in
theorem k_P_init (l : Launch) (D : va_G) (cI : ClassId) (t : Nat → Nat) : np_K l D cI (np_S0 t) (5, 130) 11 248 y_P_init b_P_init 2 (.inr (0, [.null, .null, .null, .null, .null, .null, .null, .int (nI 0)])) 0 (fun a => np_gw a cI np_X0) := by
  refine np_K.of (np_S0_St t) (by decide) rfl (by decide) ?_
  intro q p e s m below meth c A C hini hA hD eA
  refine np_at (vs2 := [some (.ref q), none]) rfl ?_
  refine np_aload_n (pc := 0) C d_P_init_0 rfl ?_
  refine np_oinit (pc := 1) C m_11 m_12 m_13 d_P_init_1 (by decide) (by decide) ?_
  refine np_aload_n (pc := 4) C d_P_init_4 rfl ?_
  refine np_iconst (pc := 5) (v := 4) C d_P_init_5 (by decide) ?_
  refine np_newI (pc := 6) C hA hD m_48 (by decide) (by decide) (by decide) d_P_init_6 (fun q1 hD => ?_)
  refine np_atw (w2 := [(q, .inr (0, [.null, .null, .null, .null, .null, .null, .null, .int (nI 0)])), (q1, .inl (cI, 4, .inl (fun _ => nI 0)))]) rfl ?_
  have hD : va_D A [(q, .inr (0, [.null, .null, .null, .null, .null, .null, .null, .int (nI 0)])), (q1, .inl (cI, 4, .inl (fun _ => nI 0)))] := hD
  refine np_putR (pc := 8) (w' := [(q, .inr (0, [.ref q1, .null, .null, .null, .null, .null, .null, .int (nI 0)])), (q1, .inl (cI, 4, .inl (fun _ => nI 0)))]) C 0 0 hini hD d_P_init_8 rfl rfl rfl (by decide) hin_P ty_P tyok_P nm_P m_78 rfl rfl rfl rfl rfl rfl (Nat.le_of_ble_eq_true rfl) (fun hD => ?_)
  refine np_aload_n (pc := 11) C d_P_init_11 rfl ?_
  refine np_bipush (pc := 12) (v := 16) C d_P_init_12 (by decide) ?_
  refine np_newI (pc := 14) C hA hD m_48 (by decide) (by decide) (by decide) d_P_init_14 (fun q2 hD => ?_)
  refine np_atw (w2 := [(q, .inr (0, [.ref q1, .null, .null, .null, .null, .null, .null, .int (nI 0)])), (q1, .inl (cI, 4, .inl (fun _ => nI 0))), (q2, .inl (cI, 16, .inl (fun _ => nI 0)))]) rfl ?_
  have hD : va_D A [(q, .inr (0, [.ref q1, .null, .null, .null, .null, .null, .null, .int (nI 0)])), (q1, .inl (cI, 4, .inl (fun _ => nI 0))), (q2, .inl (cI, 16, .inl (fun _ => nI 0)))] := hD
  refine np_putR (pc := 16) (w' := [(q, .inr (0, [.ref q1, .ref q2, .null, .null, .null, .null, .null, .int (nI 0)])), (q1, .inl (cI, 4, .inl (fun _ => nI 0))), (q2, .inl (cI, 16, .inl (fun _ => nI 0)))]) C 0 1 hini hD d_P_init_16 rfl rfl rfl (by decide) hin_P ty_P tyok_P nm_P m_79 rfl rfl rfl rfl rfl rfl (Nat.le_of_ble_eq_true rfl) (fun hD => ?_)
  refine np_aload_n (pc := 19) C d_P_init_19 rfl ?_
  refine np_bipush (pc := 20) (v := 16) C d_P_init_20 (by decide) ?_
  refine np_newI (pc := 22) C hA hD m_48 (by decide) (by decide) (by decide) d_P_init_22 (fun q3 hD => ?_)
  refine np_atw (w2 := [(q, .inr (0, [.ref q1, .ref q2, .null, .null, .null, .null, .null, .int (nI 0)])), (q1, .inl (cI, 4, .inl (fun _ => nI 0))), (q2, .inl (cI, 16, .inl (fun _ => nI 0))), (q3, .inl (cI, 16, .inl (fun _ => nI 0)))]) rfl ?_
  have hD : va_D A [(q, .inr (0, [.ref q1, .ref q2, .null, .null, .null, .null, .null, .int (nI 0)])), (q1, .inl (cI, 4, .inl (fun _ => nI 0))), (q2, .inl (cI, 16, .inl (fun _ => nI 0))), (q3, .inl (cI, 16, .inl (fun _ => nI 0)))] := hD
  refine np_putR (pc := 24) (w' := [(q, .inr (0, [.ref q1, .ref q2, .ref q3, .null, .null, .null, .null, .int (nI 0)])), (q1, .inl (cI, 4, .inl (fun _ => nI 0))), (q2, .inl (cI, 16, .inl (fun _ => nI 0))), (q3, .inl (cI, 16, .inl (fun _ => nI 0)))]) C 0 2 hini hD d_P_init_24 rfl rfl rfl (by decide) hin_P ty_P tyok_P nm_P m_80 rfl rfl rfl rfl rfl rfl (Nat.le_of_ble_eq_true rfl) (fun hD => ?_)
  refine np_aload_n (pc := 27) C d_P_init_27 rfl ?_
  refine np_bipush (pc := 28) (v := 16) C d_P_init_28 (by decide) ?_
  refine np_newI (pc := 30) C hA hD m_48 (by decide) (by decide) (by decide) d_P_init_30 (fun q4 hD => ?_)
  refine np_atw (w2 := [(q, .inr (0, [.ref q1, .ref q2, .ref q3, .null, .null, .null, .null, .int (nI 0)])), (q1, .inl (cI, 4, .inl (fun _ => nI 0))), (q2, .inl (cI, 16, .inl (fun _ => nI 0))), (q3, .inl (cI, 16, .inl (fun _ => nI 0))), (q4, .inl (cI, 16, .inl (fun _ => nI 0)))]) rfl ?_
  have hD : va_D A [(q, .inr (0, [.ref q1, .ref q2, .ref q3, .null, .null, .null, .null, .int (nI 0)])), (q1, .inl (cI, 4, .inl (fun _ => nI 0))), (q2, .inl (cI, 16, .inl (fun _ => nI 0))), (q3, .inl (cI, 16, .inl (fun _ => nI 0))), (q4, .inl (cI, 16, .inl (fun _ => nI 0)))] := hD
  refine np_putR (pc := 32) (w' := [(q, .inr (0, [.ref q1, .ref q2, .ref q3, .ref q4, .null, .null, .null, .int (nI 0)])), (q1, .inl (cI, 4, .inl (fun _ => nI 0))), (q2, .inl (cI, 16, .inl (fun _ => nI 0))), (q3, .inl (cI, 16, .inl (fun _ => nI 0))), (q4, .inl (cI, 16, .inl (fun _ => nI 0)))]) C 0 3 hini hD d_P_init_32 rfl rfl rfl (by decide) hin_P ty_P tyok_P nm_P m_81 rfl rfl rfl rfl rfl rfl (Nat.le_of_ble_eq_true rfl) (fun hD => ?_)
  refine np_aload_n (pc := 35) C d_P_init_35 rfl ?_
  refine np_newO (pc := 36) (ci := 1) (fs := [.null, .null, .int (nI 0)]) C hA hD hin_T ty_T tyok_T m_14 m_15 m_2 rfl (fun j hj => by rcases (show j = 0 ∨ j = 1 ∨ j = 2 by omega) with rfl | rfl | rfl <;> rfl) (by decide) (by decide) d_P_init_36 (fun qt hD => ?_)
  refine np_dup (pc := 39) C rfl d_P_init_39 ?_
  refine np_cI (pc := 40) (S0 := np_S0 t) C (np_S0_less t) hA hD (k_T_init l D cI t) (np_S0_St t) d_P_init_40 m_18 (fun _ _ _ => Or.inl (callB_of 0 C.1.2.2.2.2 (np_GoodIn np_TS_good m_18) rfl rfl rfl (C.1.2.2.2.2 _ m_2) (C.1.2.2.2.2 _ m_16) hd_T_init (by decide))) (by decide +kernel) rfl m_17 (by decide) (Nat.le_of_ble_eq_true rfl) (fun aT e5 hZ5 => ?_)
  subst e5
  have hD := hZ5
  refine np_putR (pc := 43) (w' := ([(q, .inr (0, [.ref q1, .ref q2, .ref q3, .ref q4, .ref (aT 5), .null, .null, .int (nI 0)])), (q1, .inl (cI, 4, .inl (fun _ => nI 0))), (q2, .inl (cI, 16, .inl (fun _ => nI 0))), (q3, .inl (cI, 16, .inl (fun _ => nI 0))), (q4, .inl (cI, 16, .inl (fun _ => nI 0)))] ++ np_tw aT cI np_XT)) C 0 4 hini hD d_P_init_43 rfl rfl rfl (by decide) hin_P ty_P tyok_P nm_P m_82 rfl rfl rfl rfl rfl rfl (Nat.le_of_ble_eq_true rfl) (fun hD => ?_)
  refine np_aload_n (pc := 46) C d_P_init_46 rfl ?_
  refine np_newO (pc := 47) (ci := 2) (fs := [.null, .int (nI 0)]) C hA hD hin_K ty_K tyok_K m_49 m_50 m_3 rfl (fun j hj => by rcases (show j = 0 ∨ j = 1 by omega) with rfl | rfl <;> rfl) (by decide) (by decide) d_P_init_47 (fun qk hD => ?_)
  refine np_dup (pc := 50) C rfl d_P_init_50 ?_
  refine np_cI (pc := 51) (S0 := np_S0 t) C (np_S0_less t) hA hD (k_K_init l D cI t) (np_S0_St t) d_P_init_51 m_53 (fun _ _ _ => Or.inr ⟨"NotePool", va_cnB 0 C.1.2.2.2.2 (np_GoodIn np_TS_good m_53) rfl rfl rfl (C.2.2.1.1 _ n_2) (C.1.2.2.2.2 _ m_3) hd_K_init (by decide)⟩) (by decide +kernel) rfl m_52 (by decide) (Nat.le_of_ble_eq_true rfl) (fun aK e8 hZ8 => ?_)
  subst e8
  have hD := hZ8
  refine np_putR (pc := 54) (w' := ([(q, .inr (0, [.ref q1, .ref q2, .ref q3, .ref q4, .ref (aT 5), .ref (aK 8), .null, .int (nI 0)])), (q1, .inl (cI, 4, .inl (fun _ => nI 0))), (q2, .inl (cI, 16, .inl (fun _ => nI 0))), (q3, .inl (cI, 16, .inl (fun _ => nI 0))), (q4, .inl (cI, 16, .inl (fun _ => nI 0)))] ++ np_tw aT cI np_XT ++ np_kw aK cI)) C 0 5 hini hD d_P_init_54 rfl rfl rfl (by decide) hin_P ty_P tyok_P nm_P m_83 rfl rfl rfl rfl rfl rfl (Nat.le_of_ble_eq_true rfl) (fun hD => ?_)
  refine np_aload_n (pc := 57) C d_P_init_57 rfl ?_
  refine np_newO (pc := 58) (ci := 3) (fs := [.null]) C hA hD hin_S ty_S tyok_S m_63 m_64 m_4 rfl (fun j hj => by rcases (show j = 0 by omega) with rfl <;> rfl) (by decide) (by decide) d_P_init_58 (fun qs hD => ?_)
  refine np_dup (pc := 61) C rfl d_P_init_61 ?_
  refine np_cI (pc := 62) (S0 := np_S0 t) C (np_S0_less t) hA hD (k_S_init l D cI t) (np_S0_St t) d_P_init_62 m_67 (fun _ _ _ => Or.inl (callB_of 0 C.1.2.2.2.2 (np_GoodIn np_TS_good m_67) rfl rfl rfl (C.1.2.2.2.2 _ m_4) (C.1.2.2.2.2 _ m_65) hd_S_init (by decide))) (by decide +kernel) rfl m_66 (by decide) (Nat.le_of_ble_eq_true rfl) (fun aS e10 hZ10 => ?_)
  subst e10
  have hD := hZ10
  refine np_putR (pc := 65) (w' := ([(q, .inr (0, [.ref q1, .ref q2, .ref q3, .ref q4, .ref (aT 5), .ref (aK 8), .ref (aS 10), .int (nI 0)])), (q1, .inl (cI, 4, .inl (fun _ => nI 0))), (q2, .inl (cI, 16, .inl (fun _ => nI 0))), (q3, .inl (cI, 16, .inl (fun _ => nI 0))), (q4, .inl (cI, 16, .inl (fun _ => nI 0)))] ++ np_tw aT cI np_XT ++ np_kw aK cI ++ np_sw aS cI)) C 0 6 hini hD d_P_init_65 rfl rfl rfl (by decide) hin_P ty_P tyok_P nm_P m_84 rfl rfl rfl rfl rfl rfl (Nat.le_of_ble_eq_true rfl) (fun hD => ?_)
  have hDl := hD
  obtain ⟨a, ha⟩ : ∃ a : Nat → Nat, a = fun j => if j = 0 then q else if j = 1 then q1 else if j = 2 then q2 else if j = 3 then q3 else if j = 4 then q4 else if j < 8 then aT j else if j < 10 then aK j else aS j := ⟨_, rfl⟩
  have a0 : a 0 = q := by rw [ha]; rfl
  have a1 : a 1 = q1 := by rw [ha]; rfl
  have a2 : a 2 = q2 := by rw [ha]; rfl
  have a3 : a 3 = q3 := by rw [ha]; rfl
  have a4 : a 4 = q4 := by rw [ha]; rfl
  have b5 : aT 5 = a 5 := by rw [ha]; rfl
  have b6 : aT 6 = a 6 := by rw [ha]; rfl
  have b7 : aT 7 = a 7 := by rw [ha]; rfl
  have b8 : aK 8 = a 8 := by rw [ha]; rfl
  have b9 : aK 9 = a 9 := by rw [ha]; rfl
  have b10 : aS 10 = a 10 := by rw [ha]; rfl
  have b11 : aS 11 = a 11 := by rw [ha]; rfl
  clear ha
  subst a0 a1 a2 a3 a4
  have ew : ([(a 0, .inr (0, [.ref (a 1), .ref (a 2), .ref (a 3), .ref (a 4), .ref (aT 5), .ref (aK 8), .ref (aS 10), .int (nI 0)])), ((a 1), .inl (cI, 4, .inl (fun _ => nI 0))), ((a 2), .inl (cI, 16, .inl (fun _ => nI 0))), ((a 3), .inl (cI, 16, .inl (fun _ => nI 0))), ((a 4), .inl (cI, 16, .inl (fun _ => nI 0)))] ++ np_tw aT cI np_XT ++ np_kw aK cI ++ np_sw aS cI) = np_gw a cI np_X1 := by
    unfold np_tw np_kw np_sw
    rw [b5, b6, b7, b8, b9, b10, b11]
    rfl
  rw [ew] at hDl
  refine np_atw ew ?_
  clear ew
  have hDx : ∀ X, va_D A (np_gw a cI X) := fun X => np_Dsame hDl rfl
  have loop : ∀ (n i : Nat) (f : Nat → Nat), i + n = 4 → np_kys f i n = np_kys np_z 0 4 → np_V p l e (np_rc (5, 130) 11 248) s m ([Value.ref (a 0)] : List Value).toArray below meth c 11 248 D np_cls A (MQ below (np_Kq D (.inr (0, [.null, .null, .null, .null, .null, .null, .null, .int (nI 0)])) (a 0) s.heap.size 0 (fun a => np_gw a cI np_X0)) ([Value.ref (a 0)] : List Value).toArray s 11 248 (va_A [(a 0, .inr (0, [.null, .null, .null, .null, .null, .null, .null, .int (nI 0)]))] s.heap.size)) 2 (np_gw a cI (va_up np_X1 1 f)) 75 [some (.ref (a 0)), some (.int (nI i))] [] := by
    intro n
    induction n with
    | zero =>
      intro i f hi he
      obtain rfl : i = 4 := by omega
      refine np_iload_n (pc := 75) C d_P_init_75 rfl ?_
      refine np_iconst (pc := 76) (v := 4) C d_P_init_76 (by decide) ?_
      refine np_icmp_ge (pc := 77) (tgt := 100) C (by omega) (by omega) d_P_init_77 rfl (fun h77 => ?_) (fun h77 => ?_)
      · subst eA
        exact np_kret (pc := 100) C d_P_init_100 a rfl (by rw [np_X0, ← he]; rfl) (hDx _)
      · exfalso; omega
    | succ n ih =>
      intro i f hi he
      refine np_iload_n (pc := 75) C d_P_init_75 rfl ?_
      refine np_iconst (pc := 76) (v := 4) C d_P_init_76 (by decide) ?_
      refine np_icmp_ge (pc := 77) (tgt := 100) C (by omega) (by omega) d_P_init_77 rfl (fun h77 => ?_) (fun h77 => ?_)
      · exfalso; omega
      · refine np_aload_n (pc := 80) C d_P_init_80 rfl ?_
        refine np_get (pc := 81) C 0 0 d_P_init_81 rfl rfl rfl (by decide) hin_P m_78 rfl ?_
        refine np_iload_n (pc := 84) C d_P_init_84 rfl ?_
        refine np_iload_n (pc := 85) C d_P_init_85 rfl ?_
        refine np_cSg (pc := 86) C (c_P_secretOf l D t) d_P_init_86 m_76 m_74 m_1 m_75 hd_P_secretOf (by decide) (by decide) rfl rfl (Nat.le_of_ble_eq_true rfl) ?_
        refine np_iconst (pc := 89) (v := 0) C d_P_init_89 (by decide) ?_
        refine np_cSg (pc := 90) C (c_P_hashOf l D t (by omega) (by decide)) d_P_init_90 m_26 m_77 m_1 m_25 hd_P_hashOf (by decide) (by decide) rfl rfl (Nat.le_of_ble_eq_true rfl) ?_
        refine np_iastG (pc := 93) C (np_gw a cI) _ 1 1 (hDx _) d_P_init_93 rfl (gs_1 a cI _) (by omega) (by decide) ?_
        refine np_iinc (pc := 94) C d_P_init_94 rfl (np_inc1 _) (by decide) rfl ?_
        refine np_goto (pc := 97) (tgt := 75) C d_P_init_97 rfl ?_
        refine np_at (vs2 := [some (.ref (a 0)), some (.int (nI (i + 1)))]) rfl ?_
        refine np_atw (w2 := np_gw a cI (va_up np_X1 1 (updN f i (np_key i)))) rfl ?_
        exact ih (i + 1) _ (by omega) he
  refine np_aload_n (pc := 68) C d_P_init_68 rfl ?_
  refine np_iconst (pc := 69) (v := 0) C d_P_init_69 (by decide) ?_
  refine np_putG (pc := 70) C (np_gw a cI) _ 0 7 0 (hDx _) d_P_init_70 rfl (gp_0 a cI _) rfl (by decide) hin_P ty_P tyok_P nm_P m_85 rfl rfl rfl (Nat.le_of_ble_eq_true rfl) ?_
  refine np_atw (w2 := np_gw a cI (va_up np_X1 1 np_z)) rfl ?_
  refine np_iconst (pc := 73) (v := 0) C d_P_init_73 (by decide) ?_
  refine np_istore_n (pc := 74) C d_P_init_74 (by decide) rfl ?_
  refine np_at (vs2 := [some (.ref (a 0)), some (.int (nI 0))]) rfl ?_
  exact loop 4 0 np_z rfl rfl
