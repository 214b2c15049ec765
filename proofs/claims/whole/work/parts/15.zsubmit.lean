set_option maxRecDepth 20000 in
set_option maxHeartbeats 4000000 in
theorem c_M_submit (l : Launch) (D : va_G) {cI : ClassId} {a : Nat → Nat} (ha : np_inj a 7) {Y : np_X} (hY : np_YI Y) (y6 : np_ok (Y 6)) : np_M l D cI (np_ad a 7) (8, 183) y_M_submit b_M_submit 1 (some .int) [.ref (a 0)] (np_mw a cI Y) (some (.int (nI (np_suRY Y)))) (np_mw a cI (np_suXY Y)) := by
  refine np_Ct.of (np_Sm_St _) (by decide) (Nat.le_of_ble_eq_true rfl) ?_
  intro p e s m below meth c C
  refine np_at (vs2 := [some (.ref (a 0))]) rfl ?_
  obtain ⟨y0, ys, y1, y2, y3, y4, y5⟩ := hY
  have tail : ∀ Z : np_X, (∀ j, j ≠ 6 → Z j = Y j) → np_suXY Y = np_suXZ Y Z → np_suRY Y = (if np_hs (np_rrY Y) (Y 5 1) 4 = true then (if np_hs (Y 4) (Y 5 2) (Y 0 1) = true then 4294967290 else (if Y 0 0 = 16 then 4294967289 else Y 0 0)) else 4294967291) → np_V p l e (np_rm (8, 183)) s m ([.ref (a 0)] : List Value).toArray below meth c 0 0 D np_cls (np_ad a 7) (MQ below (np_Qc D np_cls (np_ad a 7) (some (.int (nI (np_suRY Y)))) (np_mw a cI (np_suXY Y))) ([.ref (a 0)] : List Value).toArray s 0 0 (np_ad a 7)) 1 (np_mw a cI Z) 36 [some (.ref (a 0))] [.int (nI (if np_hs (np_rrY Y) (Y 5 1) 4 = true then 1 else 0))] := by
    intro Z hZ hw2 hr2
    rw [hw2, hr2]
    have z0 := hZ 0 (by decide)
    have z4 := hZ 4 (by decide)
    have z5 := hZ 5 (by decide)
    rw [← z0, ← z4, show Y 5 2 = Z 5 2 by rw [z5]]
    have k5 : np_ok (Z 5) := by rw [z5]; exact y5
    have k4 : np_ok (Z 4) := by rw [z4]; exact y4
    have kc : Z 0 0 ≤ 16 := by rw [z0]; exact y0
    have ks : Z 0 1 ≤ Z 0 0 := by rw [z0]; exact ys
    clear hw2 hr2 hZ z0 z4 z5
    refine np_ifz_ne (pc := 36) (tgt := 42) C d_M_submit_36 rfl (fun h36 => ?_) (fun h36 => ?_)
    · refine np_aload_n (pc := 42) C d_M_submit_42 rfl ?_
      refine np_aload_n (pc := 43) C d_M_submit_43 rfl ?_
      refine np_get (pc := 44) C 0 7 d_M_submit_44 rfl rfl rfl (by decide) hin_M m_311 rfl ?_
      refine np_iconst (pc := 47) (v := 2) C d_M_submit_47 (by decide) ?_
      refine np_iald (pc := 48) C 5 d_M_submit_48 rfl (by omega) (by decide) ?_
      refine np_cVi (pc := 49) C 0 (c_M_isUsed l D ha (k5 _) (by omega) k4) np_TS_good d_M_submit_49 rfl rfl m_444 m_441 m_5 m_443 ms_M_isUsed hd_M_isUsed (by decide) rfl rfl (Nat.le_of_ble_eq_true rfl) ?_
      refine np_ifz_eq (pc := 52) (tgt := 58) C d_M_submit_52 rfl (fun h52 => ?_) (fun h52 => ?_)
      · refine np_aload_n (pc := 58) C d_M_submit_58 rfl ?_
        refine np_get (pc := 59) C 0 0 d_M_submit_59 rfl rfl rfl (by decide) hin_M m_304 rfl ?_
        refine np_bipush (pc := 62) (v := 16) C d_M_submit_62 (by decide) ?_
        refine np_icmp_ne (pc := 64) (tgt := 70) C (by omega) (by omega) d_M_submit_64 rfl (fun h64 => ?_) (fun h64 => ?_)
        · refine np_aload_n (pc := 70) C d_M_submit_70 rfl ?_
          refine np_get (pc := 71) C 0 5 d_M_submit_71 rfl rfl rfl (by decide) hin_M m_309 rfl ?_
          refine np_aload_n (pc := 74) C d_M_submit_74 rfl ?_
          refine np_get (pc := 75) C 0 4 d_M_submit_75 rfl rfl rfl (by decide) hin_M m_308 rfl ?_
          refine np_top (y := Z 0 1) rfl ?_
          refine np_aload_n (pc := 78) C d_M_submit_78 rfl ?_
          refine np_get (pc := 79) C 0 7 d_M_submit_79 rfl rfl rfl (by decide) hin_M m_311 rfl ?_
          refine np_iconst (pc := 82) (v := 2) C d_M_submit_82 (by decide) ?_
          refine np_iald (pc := 83) C 5 d_M_submit_83 rfl (by omega) (by decide) ?_
          refine np_iastG (pc := 84) C (np_mw a cI) _ 4 4 (np_mD ha _) d_M_submit_84 rfl (us_4 a cI _) (by exact Nat.lt_of_le_of_lt ks (Nat.lt_of_le_of_ne kc h64)) (by decide) ?_
          refine np_aload_n (pc := 85) C d_M_submit_85 rfl ?_
          refine np_dup (pc := 86) C rfl d_M_submit_86 ?_
          refine np_get (pc := 87) C 0 4 d_M_submit_87 rfl rfl rfl (by decide) hin_M m_308 rfl ?_
          refine np_top (y := Z 0 1) rfl ?_
          refine np_iconst (pc := 90) (v := 1) C d_M_submit_90 (by decide) ?_
          refine np_iadd (pc := 91) C d_M_submit_91 ?_
          refine np_putG (pc := 92) C (np_mw a cI) _ 0 4 1 (np_mD ha _) d_M_submit_92 rfl (up_4 a cI _) rfl (by decide) hin_M ty_M tyok_M nm_M m_308 rfl rfl rfl (Nat.le_of_ble_eq_true rfl) ?_
          refine np_aload_n (pc := 95) C d_M_submit_95 rfl ?_
          refine np_aload_n (pc := 96) C d_M_submit_96 rfl ?_
          refine np_get (pc := 97) C 0 6 d_M_submit_97 rfl rfl rfl (by decide) hin_M m_310 rfl ?_
          refine np_top (y := Z 0 2) rfl ?_
          refine np_aload_n (pc := 100) C d_M_submit_100 rfl ?_
          refine np_get (pc := 101) C 0 7 d_M_submit_101 rfl rfl rfl (by decide) hin_M m_311 rfl ?_
          refine np_iconst (pc := 104) (v := 4) C d_M_submit_104 (by decide) ?_
          refine np_iald (pc := 105) C 5 d_M_submit_105 rfl (by omega) (by decide) ?_
          refine np_top (y := Z 5 4) rfl ?_
          have hq4 := k5 4
          refine np_isubW (pc := 106) C (by exact Nat.le_of_lt (Nat.lt_of_lt_of_le hq4 (by decide))) d_M_submit_106 ?_
          refine np_putG (pc := 107) C (np_mw a cI) _ 0 6 2 (np_mD ha _) d_M_submit_107 rfl (up_6 a cI _) rfl (by decide) hin_M ty_M tyok_M nm_M m_310 rfl rfl rfl (Nat.le_of_ble_eq_true rfl) ?_
          refine np_aload_n (pc := 110) C d_M_submit_110 rfl ?_
          refine np_aload_n (pc := 111) C d_M_submit_111 rfl ?_
          refine np_get (pc := 112) C 0 7 d_M_submit_112 rfl rfl rfl (by decide) hin_M m_311 rfl ?_
          refine np_bipush (pc := 115) (v := 8) C d_M_submit_115 (by decide) ?_
          refine np_iald (pc := 117) C 5 d_M_submit_117 rfl (by omega) (by decide) ?_
          refine np_aload_n (pc := 118) C d_M_submit_118 rfl ?_
          refine np_get (pc := 119) C 0 7 d_M_submit_119 rfl rfl rfl (by decide) hin_M m_311 rfl ?_
          refine np_bipush (pc := 122) (v := 9) C d_M_submit_122 (by decide) ?_
          refine np_iald (pc := 124) C 5 d_M_submit_124 rfl (by omega) (by decide) ?_
          refine np_aload_n (pc := 125) C d_M_submit_125 rfl ?_
          refine np_get (pc := 126) C 0 7 d_M_submit_126 rfl rfl rfl (by decide) hin_M m_311 rfl ?_
          refine np_bipush (pc := 129) (v := 10) C d_M_submit_129 (by decide) ?_
          refine np_iald (pc := 131) C 5 d_M_submit_131 rfl (by omega) (by decide) ?_
          refine np_atw (w2 := np_mw a cI (np_suBY Z)) rfl ?_
          refine np_atst (st2 := [.int (nI (Z 5 10)), .int (nI (Z 5 9)), .int (nI (Z 5 8)), .ref (a 0)]) rfl ?_
          refine np_cVi (pc := 132) C 0 (c_M_make l D ha (Y := np_suBY Z) (show Z 0 0 < 16 from Nat.lt_of_le_of_ne kc h64)) np_TS_good d_M_submit_132 rfl rfl m_367 m_364 m_5 m_366 ms_M_make hd_M_make (by decide) rfl rfl (Nat.le_of_ble_eq_true rfl) ?_
          exact np_iret (pc := 135) C d_M_submit_135 (by rw [if_pos h36, if_neg h52, if_neg h64]; rfl) (by unfold np_suXZ; rw [if_pos h36, if_neg h52, if_neg h64])
        · refine np_bipush (pc := 67) (v := 4294967289) C d_M_submit_67 (by decide) ?_
          exact np_iret (pc := 69) C d_M_submit_69 (by rw [if_pos h36, if_neg h52, if_pos h64]) (by unfold np_suXZ; rw [if_pos h36, if_neg h52, if_pos h64])
      · refine np_bipush (pc := 55) (v := 4294967290) C d_M_submit_55 (by decide) ?_
        exact np_iret (pc := 57) C d_M_submit_57 (by rw [if_pos h36, if_pos h52]) (by unfold np_suXZ; rw [if_pos h36, if_pos h52])
    · refine np_bipush (pc := 39) (v := 4294967291) C d_M_submit_39 (by decide) ?_
      exact np_iret (pc := 41) C d_M_submit_41 (by rw [if_neg h36]) (by unfold np_suXZ; rw [if_neg h36])
  refine np_aload_n (pc := 0) C d_M_submit_0 rfl ?_
  refine np_cVi (pc := 1) C 0 (c_M_fault l D ha y5) np_TS_good d_M_submit_1 rfl rfl m_403 m_400 m_5 m_401 m_402 hd_M_fault (by decide) rfl rfl (Nat.le_of_ble_eq_true rfl) ?_
  refine np_iconst (pc := 4) (v := 4294967295) C d_M_submit_4 (by decide) ?_
  refine np_icmp_eq (pc := 5) (tgt := 11) C (by first | exact np_flt_lt _ 115 0 rfl | omega) (by first | exact np_flt_lt _ 115 0 rfl | omega) d_M_submit_5 rfl (fun h5 => ?_) (fun h5 => ?_)
  · refine np_aload_n (pc := 11) C d_M_submit_11 rfl ?_
    refine np_get (pc := 12) C 0 7 d_M_submit_12 rfl rfl rfl (by decide) hin_M m_311 rfl ?_
    refine np_iconst (pc := 15) (v := 4) C d_M_submit_15 (by decide) ?_
    refine np_iald (pc := 16) C 5 d_M_submit_16 rfl (by omega) (by decide) ?_
    refine np_sipush (pc := 17) (v := 255) C d_M_submit_17 (by decide) ?_
    refine np_icmp_le (pc := 20) (tgt := 26) C (by have := y5 4; omega) (by have := y5 4; omega) d_M_submit_20 rfl (fun h20 => ?_) (fun h20 => ?_)
    · refine np_aload_n (pc := 26) C d_M_submit_26 rfl ?_
      refine np_aload_n (pc := 27) C d_M_submit_27 rfl ?_
      refine np_get (pc := 28) C 0 7 d_M_submit_28 rfl rfl rfl (by decide) hin_M m_311 rfl ?_
      refine np_iconst (pc := 31) (v := 1) C d_M_submit_31 (by decide) ?_
      refine np_iald (pc := 32) C 5 d_M_submit_32 rfl (by omega) (by decide) ?_
      refine np_cVi (pc := 33) C 0 (c_M_isRecent l D ha ⟨y0, ys, y1, y2, y3, y4, y5⟩ y6 (y5 1)) np_TS_good d_M_submit_33 rfl rfl m_436 m_433 m_5 m_435 ms_M_isRecent hd_M_isRecent (by decide) rfl rfl (Nat.le_of_ble_eq_true rfl) ?_
      exact tail _ (fun j hj => np_irX_eq 4 Y _ _ hj) (by rw [np_suXY, if_pos h5, if_pos h20]) (by rw [np_suRY, if_pos h5, if_pos h20])
    · refine np_bipush (pc := 23) (v := 4294967292) C d_M_submit_23 (by decide) ?_
      exact np_iret (pc := 25) C d_M_submit_25 (by unfold np_suRY; rw [if_pos h5, if_neg (Nat.not_le_of_lt h20)]) (by unfold np_suXY; rw [if_pos h5, if_neg (Nat.not_le_of_lt h20)])
  · refine np_bipush (pc := 8) (v := 4294967293) C d_M_submit_8 (by decide) ?_
    exact np_iret (pc := 10) C d_M_submit_10 (by unfold np_suRY; rw [if_neg h5]) (by unfold np_suXY; rw [if_neg h5])
