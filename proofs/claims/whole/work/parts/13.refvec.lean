set_option maxRecDepth 20000 in
set_option maxHeartbeats 4000000 in
theorem c_M_input_0_1 (l : Launch) (D : va_G) {cI : ClassId} {a : Nat → Nat} (ha : np_inj a 7) {Y : np_X} : np_M l D cI (np_ad a 7) (0, 0) y_M_input b_M_input 3 (some .int) [.ref (a 0), .int (nI 0), .int (nI 1)] (np_mw a cI Y) (some (.int (nI (Y 5 5)))) (np_mw a cI Y) := by
  refine np_Ct.of (np_Sm_St _) (by decide) (Nat.le_of_ble_eq_true rfl) ?_
  intro p e s m below meth c C
  refine np_at (vs2 := [some (.ref (a 0)), some (.int (nI 0)), some (.int (nI 1))]) rfl ?_
  refine np_iload_n (pc := 0) C d_M_input_0 rfl ?_
  refine np_iconst (pc := 1) (v := 3) C d_M_input_1 (by decide) ?_
  refine np_icmp_lt (pc := 2) (tgt := 32) C (by omega) (by omega) d_M_input_2 rfl (fun h2 => ?_) (fun h2 => ?_)
  · refine np_iload_n (pc := 32) C d_M_input_32 rfl ?_
    · refine np_tswI (pc := 33) (tgt := 84) C d_M_input_33 (by decide) (by decide) (by rfl) rfl ?_
      refine np_iload_n (pc := 84) C d_M_input_84 rfl ?_
      refine np_if_eq (pc := 85) (tgt := 97) C (by omega) d_M_input_85 rfl (fun h85 => ?_) (fun h85 => ?_)
      · exfalso; omega
      · refine np_aload_n (pc := 88) C d_M_input_88 rfl ?_
        refine np_get (pc := 89) C 0 7 d_M_input_89 rfl rfl rfl (by decide) hin_M m_311 rfl ?_
        refine np_iconst (pc := 92) (v := 5) C d_M_input_92 (by decide) ?_
        refine np_iald (pc := 93) C 5 d_M_input_93 rfl (by omega) (by decide) ?_
        refine np_goto (pc := 94) (tgt := 98) C d_M_input_94 rfl ?_
        exact np_iret (pc := 98) C d_M_input_98 (by first | omega | rfl | (repeat' split) <;> omega) (by rfl)
  · exfalso; omega
set_option maxRecDepth 20000 in
set_option maxHeartbeats 4000000 in
theorem c_M_input_0_0 (l : Launch) (D : va_G) {cI : ClassId} {a : Nat → Nat} (ha : np_inj a 7) {Y : np_X} : np_M l D cI (np_ad a 7) (0, 0) y_M_input b_M_input 3 (some .int) [.ref (a 0), .int (nI 0), .int (nI 0)] (np_mw a cI Y) (some (.int (nI (0)))) (np_mw a cI Y) := by
  refine np_Ct.of (np_Sm_St _) (by decide) (Nat.le_of_ble_eq_true rfl) ?_
  intro p e s m below meth c C
  refine np_at (vs2 := [some (.ref (a 0)), some (.int (nI 0)), some (.int (nI 0))]) rfl ?_
  refine np_iload_n (pc := 0) C d_M_input_0 rfl ?_
  refine np_iconst (pc := 1) (v := 3) C d_M_input_1 (by decide) ?_
  refine np_icmp_lt (pc := 2) (tgt := 32) C (by omega) (by omega) d_M_input_2 rfl (fun h2 => ?_) (fun h2 => ?_)
  · refine np_iload_n (pc := 32) C d_M_input_32 rfl ?_
    · refine np_tswI (pc := 33) (tgt := 84) C d_M_input_33 (by decide) (by decide) (by rfl) rfl ?_
      refine np_iload_n (pc := 84) C d_M_input_84 rfl ?_
      refine np_if_eq (pc := 85) (tgt := 97) C (by omega) d_M_input_85 rfl (fun h85 => ?_) (fun h85 => ?_)
      · refine np_iconst (pc := 97) (v := 0) C d_M_input_97 (by decide) ?_
        exact np_iret (pc := 98) C d_M_input_98 (by first | omega | rfl | (repeat' split) <;> omega) (by rfl)
      · exfalso; omega
  · exfalso; omega
set_option maxRecDepth 20000 in
set_option maxHeartbeats 4000000 in
theorem c_M_input_1_1 (l : Launch) (D : va_G) {cI : ClassId} {a : Nat → Nat} (ha : np_inj a 7) {Y : np_X} : np_M l D cI (np_ad a 7) (0, 0) y_M_input b_M_input 3 (some .int) [.ref (a 0), .int (nI 1), .int (nI 1)] (np_mw a cI Y) (some (.int (nI (Y 5 43)))) (np_mw a cI Y) := by
  refine np_Ct.of (np_Sm_St _) (by decide) (Nat.le_of_ble_eq_true rfl) ?_
  intro p e s m below meth c C
  refine np_at (vs2 := [some (.ref (a 0)), some (.int (nI 1)), some (.int (nI 1))]) rfl ?_
  refine np_iload_n (pc := 0) C d_M_input_0 rfl ?_
  refine np_iconst (pc := 1) (v := 3) C d_M_input_1 (by decide) ?_
  refine np_icmp_lt (pc := 2) (tgt := 32) C (by omega) (by omega) d_M_input_2 rfl (fun h2 => ?_) (fun h2 => ?_)
  · refine np_iload_n (pc := 32) C d_M_input_32 rfl ?_
    · refine np_tswI (pc := 33) (tgt := 99) C d_M_input_33 (by decide) (by decide) (by rfl) rfl ?_
      refine np_iload_n (pc := 99) C d_M_input_99 rfl ?_
      refine np_if_eq (pc := 100) (tgt := 113) C (by omega) d_M_input_100 rfl (fun h100 => ?_) (fun h100 => ?_)
      · exfalso; omega
      · refine np_aload_n (pc := 103) C d_M_input_103 rfl ?_
        refine np_get (pc := 104) C 0 7 d_M_input_104 rfl rfl rfl (by decide) hin_M m_311 rfl ?_
        refine np_bipush (pc := 107) (v := 43) C d_M_input_107 (by decide) ?_
        refine np_iald (pc := 109) C 5 d_M_input_109 rfl (by omega) (by decide) ?_
        refine np_goto (pc := 110) (tgt := 120) C d_M_input_110 rfl ?_
        exact np_iret (pc := 120) C d_M_input_120 (by first | omega | rfl | (repeat' split) <;> omega) (by rfl)
  · exfalso; omega
set_option maxRecDepth 20000 in
set_option maxHeartbeats 4000000 in
theorem c_M_input_1_0 (l : Launch) (D : va_G) {cI : ClassId} {a : Nat → Nat} (ha : np_inj a 7) {Y : np_X} : np_M l D cI (np_ad a 7) (0, 0) y_M_input b_M_input 3 (some .int) [.ref (a 0), .int (nI 1), .int (nI 0)] (np_mw a cI Y) (some (.int (nI (Y 5 6)))) (np_mw a cI Y) := by
  refine np_Ct.of (np_Sm_St _) (by decide) (Nat.le_of_ble_eq_true rfl) ?_
  intro p e s m below meth c C
  refine np_at (vs2 := [some (.ref (a 0)), some (.int (nI 1)), some (.int (nI 0))]) rfl ?_
  refine np_iload_n (pc := 0) C d_M_input_0 rfl ?_
  refine np_iconst (pc := 1) (v := 3) C d_M_input_1 (by decide) ?_
  refine np_icmp_lt (pc := 2) (tgt := 32) C (by omega) (by omega) d_M_input_2 rfl (fun h2 => ?_) (fun h2 => ?_)
  · refine np_iload_n (pc := 32) C d_M_input_32 rfl ?_
    · refine np_tswI (pc := 33) (tgt := 99) C d_M_input_33 (by decide) (by decide) (by rfl) rfl ?_
      refine np_iload_n (pc := 99) C d_M_input_99 rfl ?_
      refine np_if_eq (pc := 100) (tgt := 113) C (by omega) d_M_input_100 rfl (fun h100 => ?_) (fun h100 => ?_)
      · refine np_aload_n (pc := 113) C d_M_input_113 rfl ?_
        refine np_get (pc := 114) C 0 7 d_M_input_114 rfl rfl rfl (by decide) hin_M m_311 rfl ?_
        refine np_bipush (pc := 117) (v := 6) C d_M_input_117 (by decide) ?_
        refine np_iald (pc := 119) C 5 d_M_input_119 rfl (by omega) (by decide) ?_
        exact np_iret (pc := 120) C d_M_input_120 (by first | omega | rfl | (repeat' split) <;> omega) (by rfl)
      · exfalso; omega
  · exfalso; omega
set_option maxRecDepth 20000 in
set_option maxHeartbeats 4000000 in
theorem c_M_input_2_1 (l : Launch) (D : va_G) {cI : ClassId} {a : Nat → Nat} (ha : np_inj a 7) {Y : np_X} : np_M l D cI (np_ad a 7) (0, 0) y_M_input b_M_input 3 (some .int) [.ref (a 0), .int (nI 2), .int (nI 1)] (np_mw a cI Y) (some (.int (nI (Y 5 52)))) (np_mw a cI Y) := by
  refine np_Ct.of (np_Sm_St _) (by decide) (Nat.le_of_ble_eq_true rfl) ?_
  intro p e s m below meth c C
  refine np_at (vs2 := [some (.ref (a 0)), some (.int (nI 2)), some (.int (nI 1))]) rfl ?_
  refine np_iload_n (pc := 0) C d_M_input_0 rfl ?_
  refine np_iconst (pc := 1) (v := 3) C d_M_input_1 (by decide) ?_
  refine np_icmp_lt (pc := 2) (tgt := 32) C (by omega) (by omega) d_M_input_2 rfl (fun h2 => ?_) (fun h2 => ?_)
  · refine np_iload_n (pc := 32) C d_M_input_32 rfl ?_
    · refine np_tswI (pc := 33) (tgt := 121) C d_M_input_33 (by decide) (by decide) (by rfl) rfl ?_
      refine np_iload_n (pc := 121) C d_M_input_121 rfl ?_
      refine np_if_eq (pc := 122) (tgt := 135) C (by omega) d_M_input_122 rfl (fun h122 => ?_) (fun h122 => ?_)
      · exfalso; omega
      · refine np_aload_n (pc := 125) C d_M_input_125 rfl ?_
        refine np_get (pc := 126) C 0 7 d_M_input_126 rfl rfl rfl (by decide) hin_M m_311 rfl ?_
        refine np_bipush (pc := 129) (v := 52) C d_M_input_129 (by decide) ?_
        refine np_iald (pc := 131) C 5 d_M_input_131 rfl (by omega) (by decide) ?_
        refine np_goto (pc := 132) (tgt := 142) C d_M_input_132 rfl ?_
        exact np_iret (pc := 142) C d_M_input_142 (by first | omega | rfl | (repeat' split) <;> omega) (by rfl)
  · exfalso; omega
set_option maxRecDepth 20000 in
set_option maxHeartbeats 4000000 in
theorem c_M_input_2_0 (l : Launch) (D : va_G) {cI : ClassId} {a : Nat → Nat} (ha : np_inj a 7) {Y : np_X} : np_M l D cI (np_ad a 7) (0, 0) y_M_input b_M_input 3 (some .int) [.ref (a 0), .int (nI 2), .int (nI 0)] (np_mw a cI Y) (some (.int (nI (Y 5 7)))) (np_mw a cI Y) := by
  refine np_Ct.of (np_Sm_St _) (by decide) (Nat.le_of_ble_eq_true rfl) ?_
  intro p e s m below meth c C
  refine np_at (vs2 := [some (.ref (a 0)), some (.int (nI 2)), some (.int (nI 0))]) rfl ?_
  refine np_iload_n (pc := 0) C d_M_input_0 rfl ?_
  refine np_iconst (pc := 1) (v := 3) C d_M_input_1 (by decide) ?_
  refine np_icmp_lt (pc := 2) (tgt := 32) C (by omega) (by omega) d_M_input_2 rfl (fun h2 => ?_) (fun h2 => ?_)
  · refine np_iload_n (pc := 32) C d_M_input_32 rfl ?_
    · refine np_tswI (pc := 33) (tgt := 121) C d_M_input_33 (by decide) (by decide) (by rfl) rfl ?_
      refine np_iload_n (pc := 121) C d_M_input_121 rfl ?_
      refine np_if_eq (pc := 122) (tgt := 135) C (by omega) d_M_input_122 rfl (fun h122 => ?_) (fun h122 => ?_)
      · refine np_aload_n (pc := 135) C d_M_input_135 rfl ?_
        refine np_get (pc := 136) C 0 7 d_M_input_136 rfl rfl rfl (by decide) hin_M m_311 rfl ?_
        refine np_bipush (pc := 139) (v := 7) C d_M_input_139 (by decide) ?_
        refine np_iald (pc := 141) C 5 d_M_input_141 rfl (by omega) (by decide) ?_
        exact np_iret (pc := 142) C d_M_input_142 (by first | omega | rfl | (repeat' split) <;> omega) (by rfl)
      · exfalso; omega
  · exfalso; omega
set_option maxRecDepth 20000 in
set_option maxHeartbeats 4000000 in
theorem c_M_input_3_1 (l : Launch) (D : va_G) {cI : ClassId} {a : Nat → Nat} (ha : np_inj a 7) {Y : np_X} : np_M l D cI (np_ad a 7) (0, 0) y_M_input b_M_input 3 (some .int) [.ref (a 0), .int (nI 3), .int (nI 1)] (np_mw a cI Y) (some (.int (nI (Y 5 19)))) (np_mw a cI Y) := by
  refine np_Ct.of (np_Sm_St _) (by decide) (Nat.le_of_ble_eq_true rfl) ?_
  intro p e s m below meth c C
  refine np_at (vs2 := [some (.ref (a 0)), some (.int (nI 3)), some (.int (nI 1))]) rfl ?_
  refine np_iload_n (pc := 0) C d_M_input_0 rfl ?_
  refine np_iconst (pc := 1) (v := 3) C d_M_input_1 (by decide) ?_
  refine np_icmp_lt (pc := 2) (tgt := 32) C (by omega) (by omega) d_M_input_2 rfl (fun h2 => ?_) (fun h2 => ?_)
  · exfalso; omega
  · refine np_iload_n (pc := 5) C d_M_input_5 rfl ?_
    refine np_bipush (pc := 6) (v := 6) C d_M_input_6 (by decide) ?_
    refine np_icmp_gt (pc := 8) (tgt := 32) C (by omega) (by omega) d_M_input_8 rfl (fun h8 => ?_) (fun h8 => ?_)
    · exfalso; omega
    · refine np_aload_n (pc := 11) C d_M_input_11 rfl ?_
      refine np_get (pc := 12) C 0 7 d_M_input_12 rfl rfl rfl (by decide) hin_M m_311 rfl ?_
      refine np_iload_n (pc := 15) C d_M_input_15 rfl ?_
      refine np_if_eq (pc := 16) (tgt := 24) C (by omega) d_M_input_16 rfl (fun h16 => ?_) (fun h16 => ?_)
      · exfalso; omega
      · refine np_bipush (pc := 19) (v := 19) C d_M_input_19 (by decide) ?_
        refine np_goto (pc := 21) (tgt := 26) C d_M_input_21 rfl ?_
        refine np_iload_n (pc := 26) C d_M_input_26 rfl ?_
        refine np_iadd (pc := 27) C d_M_input_27 ?_
        refine np_iconst (pc := 28) (v := 3) C d_M_input_28 (by decide) ?_
        refine np_isub (pc := 29) C (by omega) d_M_input_29 ?_
        refine np_iald (pc := 30) C 5 d_M_input_30 rfl (by omega) (by decide) ?_
        exact np_iret (pc := 31) C d_M_input_31 (by first | omega | rfl | (repeat' split) <;> omega) (by rfl)
set_option maxRecDepth 20000 in
set_option maxHeartbeats 4000000 in
theorem c_M_input_3_0 (l : Launch) (D : va_G) {cI : ClassId} {a : Nat → Nat} (ha : np_inj a 7) {Y : np_X} : np_M l D cI (np_ad a 7) (0, 0) y_M_input b_M_input 3 (some .int) [.ref (a 0), .int (nI 3), .int (nI 0)] (np_mw a cI Y) (some (.int (nI (Y 5 23)))) (np_mw a cI Y) := by
  refine np_Ct.of (np_Sm_St _) (by decide) (Nat.le_of_ble_eq_true rfl) ?_
  intro p e s m below meth c C
  refine np_at (vs2 := [some (.ref (a 0)), some (.int (nI 3)), some (.int (nI 0))]) rfl ?_
  refine np_iload_n (pc := 0) C d_M_input_0 rfl ?_
  refine np_iconst (pc := 1) (v := 3) C d_M_input_1 (by decide) ?_
  refine np_icmp_lt (pc := 2) (tgt := 32) C (by omega) (by omega) d_M_input_2 rfl (fun h2 => ?_) (fun h2 => ?_)
  · exfalso; omega
  · refine np_iload_n (pc := 5) C d_M_input_5 rfl ?_
    refine np_bipush (pc := 6) (v := 6) C d_M_input_6 (by decide) ?_
    refine np_icmp_gt (pc := 8) (tgt := 32) C (by omega) (by omega) d_M_input_8 rfl (fun h8 => ?_) (fun h8 => ?_)
    · exfalso; omega
    · refine np_aload_n (pc := 11) C d_M_input_11 rfl ?_
      refine np_get (pc := 12) C 0 7 d_M_input_12 rfl rfl rfl (by decide) hin_M m_311 rfl ?_
      refine np_iload_n (pc := 15) C d_M_input_15 rfl ?_
      refine np_if_eq (pc := 16) (tgt := 24) C (by omega) d_M_input_16 rfl (fun h16 => ?_) (fun h16 => ?_)
      · refine np_bipush (pc := 24) (v := 23) C d_M_input_24 (by decide) ?_
        refine np_iload_n (pc := 26) C d_M_input_26 rfl ?_
        refine np_iadd (pc := 27) C d_M_input_27 ?_
        refine np_iconst (pc := 28) (v := 3) C d_M_input_28 (by decide) ?_
        refine np_isub (pc := 29) C (by omega) d_M_input_29 ?_
        refine np_iald (pc := 30) C 5 d_M_input_30 rfl (by omega) (by decide) ?_
        exact np_iret (pc := 31) C d_M_input_31 (by first | omega | rfl | (repeat' split) <;> omega) (by rfl)
      · exfalso; omega
set_option maxRecDepth 20000 in
set_option maxHeartbeats 4000000 in
theorem c_M_input_4_1 (l : Launch) (D : va_G) {cI : ClassId} {a : Nat → Nat} (ha : np_inj a 7) {Y : np_X} : np_M l D cI (np_ad a 7) (0, 0) y_M_input b_M_input 3 (some .int) [.ref (a 0), .int (nI 4), .int (nI 1)] (np_mw a cI Y) (some (.int (nI (Y 5 20)))) (np_mw a cI Y) := by
  refine np_Ct.of (np_Sm_St _) (by decide) (Nat.le_of_ble_eq_true rfl) ?_
  intro p e s m below meth c C
  refine np_at (vs2 := [some (.ref (a 0)), some (.int (nI 4)), some (.int (nI 1))]) rfl ?_
  refine np_iload_n (pc := 0) C d_M_input_0 rfl ?_
  refine np_iconst (pc := 1) (v := 3) C d_M_input_1 (by decide) ?_
  refine np_icmp_lt (pc := 2) (tgt := 32) C (by omega) (by omega) d_M_input_2 rfl (fun h2 => ?_) (fun h2 => ?_)
  · exfalso; omega
  · refine np_iload_n (pc := 5) C d_M_input_5 rfl ?_
    refine np_bipush (pc := 6) (v := 6) C d_M_input_6 (by decide) ?_
    refine np_icmp_gt (pc := 8) (tgt := 32) C (by omega) (by omega) d_M_input_8 rfl (fun h8 => ?_) (fun h8 => ?_)
    · exfalso; omega
    · refine np_aload_n (pc := 11) C d_M_input_11 rfl ?_
      refine np_get (pc := 12) C 0 7 d_M_input_12 rfl rfl rfl (by decide) hin_M m_311 rfl ?_
      refine np_iload_n (pc := 15) C d_M_input_15 rfl ?_
      refine np_if_eq (pc := 16) (tgt := 24) C (by omega) d_M_input_16 rfl (fun h16 => ?_) (fun h16 => ?_)
      · exfalso; omega
      · refine np_bipush (pc := 19) (v := 19) C d_M_input_19 (by decide) ?_
        refine np_goto (pc := 21) (tgt := 26) C d_M_input_21 rfl ?_
        refine np_iload_n (pc := 26) C d_M_input_26 rfl ?_
        refine np_iadd (pc := 27) C d_M_input_27 ?_
        refine np_iconst (pc := 28) (v := 3) C d_M_input_28 (by decide) ?_
        refine np_isub (pc := 29) C (by omega) d_M_input_29 ?_
        refine np_iald (pc := 30) C 5 d_M_input_30 rfl (by omega) (by decide) ?_
        exact np_iret (pc := 31) C d_M_input_31 (by first | omega | rfl | (repeat' split) <;> omega) (by rfl)
set_option maxRecDepth 20000 in
set_option maxHeartbeats 4000000 in
theorem c_M_input_4_0 (l : Launch) (D : va_G) {cI : ClassId} {a : Nat → Nat} (ha : np_inj a 7) {Y : np_X} : np_M l D cI (np_ad a 7) (0, 0) y_M_input b_M_input 3 (some .int) [.ref (a 0), .int (nI 4), .int (nI 0)] (np_mw a cI Y) (some (.int (nI (Y 5 24)))) (np_mw a cI Y) := by
  refine np_Ct.of (np_Sm_St _) (by decide) (Nat.le_of_ble_eq_true rfl) ?_
  intro p e s m below meth c C
  refine np_at (vs2 := [some (.ref (a 0)), some (.int (nI 4)), some (.int (nI 0))]) rfl ?_
  refine np_iload_n (pc := 0) C d_M_input_0 rfl ?_
  refine np_iconst (pc := 1) (v := 3) C d_M_input_1 (by decide) ?_
  refine np_icmp_lt (pc := 2) (tgt := 32) C (by omega) (by omega) d_M_input_2 rfl (fun h2 => ?_) (fun h2 => ?_)
  · exfalso; omega
  · refine np_iload_n (pc := 5) C d_M_input_5 rfl ?_
    refine np_bipush (pc := 6) (v := 6) C d_M_input_6 (by decide) ?_
    refine np_icmp_gt (pc := 8) (tgt := 32) C (by omega) (by omega) d_M_input_8 rfl (fun h8 => ?_) (fun h8 => ?_)
    · exfalso; omega
    · refine np_aload_n (pc := 11) C d_M_input_11 rfl ?_
      refine np_get (pc := 12) C 0 7 d_M_input_12 rfl rfl rfl (by decide) hin_M m_311 rfl ?_
      refine np_iload_n (pc := 15) C d_M_input_15 rfl ?_
      refine np_if_eq (pc := 16) (tgt := 24) C (by omega) d_M_input_16 rfl (fun h16 => ?_) (fun h16 => ?_)
      · refine np_bipush (pc := 24) (v := 23) C d_M_input_24 (by decide) ?_
        refine np_iload_n (pc := 26) C d_M_input_26 rfl ?_
        refine np_iadd (pc := 27) C d_M_input_27 ?_
        refine np_iconst (pc := 28) (v := 3) C d_M_input_28 (by decide) ?_
        refine np_isub (pc := 29) C (by omega) d_M_input_29 ?_
        refine np_iald (pc := 30) C 5 d_M_input_30 rfl (by omega) (by decide) ?_
        exact np_iret (pc := 31) C d_M_input_31 (by first | omega | rfl | (repeat' split) <;> omega) (by rfl)
      · exfalso; omega
set_option maxRecDepth 20000 in
set_option maxHeartbeats 4000000 in
theorem c_M_input_5_1 (l : Launch) (D : va_G) {cI : ClassId} {a : Nat → Nat} (ha : np_inj a 7) {Y : np_X} : np_M l D cI (np_ad a 7) (0, 0) y_M_input b_M_input 3 (some .int) [.ref (a 0), .int (nI 5), .int (nI 1)] (np_mw a cI Y) (some (.int (nI (Y 5 21)))) (np_mw a cI Y) := by
  refine np_Ct.of (np_Sm_St _) (by decide) (Nat.le_of_ble_eq_true rfl) ?_
  intro p e s m below meth c C
  refine np_at (vs2 := [some (.ref (a 0)), some (.int (nI 5)), some (.int (nI 1))]) rfl ?_
  refine np_iload_n (pc := 0) C d_M_input_0 rfl ?_
  refine np_iconst (pc := 1) (v := 3) C d_M_input_1 (by decide) ?_
  refine np_icmp_lt (pc := 2) (tgt := 32) C (by omega) (by omega) d_M_input_2 rfl (fun h2 => ?_) (fun h2 => ?_)
  · exfalso; omega
  · refine np_iload_n (pc := 5) C d_M_input_5 rfl ?_
    refine np_bipush (pc := 6) (v := 6) C d_M_input_6 (by decide) ?_
    refine np_icmp_gt (pc := 8) (tgt := 32) C (by omega) (by omega) d_M_input_8 rfl (fun h8 => ?_) (fun h8 => ?_)
    · exfalso; omega
    · refine np_aload_n (pc := 11) C d_M_input_11 rfl ?_
      refine np_get (pc := 12) C 0 7 d_M_input_12 rfl rfl rfl (by decide) hin_M m_311 rfl ?_
      refine np_iload_n (pc := 15) C d_M_input_15 rfl ?_
      refine np_if_eq (pc := 16) (tgt := 24) C (by omega) d_M_input_16 rfl (fun h16 => ?_) (fun h16 => ?_)
      · exfalso; omega
      · refine np_bipush (pc := 19) (v := 19) C d_M_input_19 (by decide) ?_
        refine np_goto (pc := 21) (tgt := 26) C d_M_input_21 rfl ?_
        refine np_iload_n (pc := 26) C d_M_input_26 rfl ?_
        refine np_iadd (pc := 27) C d_M_input_27 ?_
        refine np_iconst (pc := 28) (v := 3) C d_M_input_28 (by decide) ?_
        refine np_isub (pc := 29) C (by omega) d_M_input_29 ?_
        refine np_iald (pc := 30) C 5 d_M_input_30 rfl (by omega) (by decide) ?_
        exact np_iret (pc := 31) C d_M_input_31 (by first | omega | rfl | (repeat' split) <;> omega) (by rfl)
set_option maxRecDepth 20000 in
set_option maxHeartbeats 4000000 in
theorem c_M_input_5_0 (l : Launch) (D : va_G) {cI : ClassId} {a : Nat → Nat} (ha : np_inj a 7) {Y : np_X} : np_M l D cI (np_ad a 7) (0, 0) y_M_input b_M_input 3 (some .int) [.ref (a 0), .int (nI 5), .int (nI 0)] (np_mw a cI Y) (some (.int (nI (Y 5 25)))) (np_mw a cI Y) := by
  refine np_Ct.of (np_Sm_St _) (by decide) (Nat.le_of_ble_eq_true rfl) ?_
  intro p e s m below meth c C
  refine np_at (vs2 := [some (.ref (a 0)), some (.int (nI 5)), some (.int (nI 0))]) rfl ?_
  refine np_iload_n (pc := 0) C d_M_input_0 rfl ?_
  refine np_iconst (pc := 1) (v := 3) C d_M_input_1 (by decide) ?_
  refine np_icmp_lt (pc := 2) (tgt := 32) C (by omega) (by omega) d_M_input_2 rfl (fun h2 => ?_) (fun h2 => ?_)
  · exfalso; omega
  · refine np_iload_n (pc := 5) C d_M_input_5 rfl ?_
    refine np_bipush (pc := 6) (v := 6) C d_M_input_6 (by decide) ?_
    refine np_icmp_gt (pc := 8) (tgt := 32) C (by omega) (by omega) d_M_input_8 rfl (fun h8 => ?_) (fun h8 => ?_)
    · exfalso; omega
    · refine np_aload_n (pc := 11) C d_M_input_11 rfl ?_
      refine np_get (pc := 12) C 0 7 d_M_input_12 rfl rfl rfl (by decide) hin_M m_311 rfl ?_
      refine np_iload_n (pc := 15) C d_M_input_15 rfl ?_
      refine np_if_eq (pc := 16) (tgt := 24) C (by omega) d_M_input_16 rfl (fun h16 => ?_) (fun h16 => ?_)
      · refine np_bipush (pc := 24) (v := 23) C d_M_input_24 (by decide) ?_
        refine np_iload_n (pc := 26) C d_M_input_26 rfl ?_
        refine np_iadd (pc := 27) C d_M_input_27 ?_
        refine np_iconst (pc := 28) (v := 3) C d_M_input_28 (by decide) ?_
        refine np_isub (pc := 29) C (by omega) d_M_input_29 ?_
        refine np_iald (pc := 30) C 5 d_M_input_30 rfl (by omega) (by decide) ?_
        exact np_iret (pc := 31) C d_M_input_31 (by first | omega | rfl | (repeat' split) <;> omega) (by rfl)
      · exfalso; omega
set_option maxRecDepth 20000 in
set_option maxHeartbeats 4000000 in
theorem c_M_input_6_1 (l : Launch) (D : va_G) {cI : ClassId} {a : Nat → Nat} (ha : np_inj a 7) {Y : np_X} : np_M l D cI (np_ad a 7) (0, 0) y_M_input b_M_input 3 (some .int) [.ref (a 0), .int (nI 6), .int (nI 1)] (np_mw a cI Y) (some (.int (nI (Y 5 22)))) (np_mw a cI Y) := by
  refine np_Ct.of (np_Sm_St _) (by decide) (Nat.le_of_ble_eq_true rfl) ?_
  intro p e s m below meth c C
  refine np_at (vs2 := [some (.ref (a 0)), some (.int (nI 6)), some (.int (nI 1))]) rfl ?_
  refine np_iload_n (pc := 0) C d_M_input_0 rfl ?_
  refine np_iconst (pc := 1) (v := 3) C d_M_input_1 (by decide) ?_
  refine np_icmp_lt (pc := 2) (tgt := 32) C (by omega) (by omega) d_M_input_2 rfl (fun h2 => ?_) (fun h2 => ?_)
  · exfalso; omega
  · refine np_iload_n (pc := 5) C d_M_input_5 rfl ?_
    refine np_bipush (pc := 6) (v := 6) C d_M_input_6 (by decide) ?_
    refine np_icmp_gt (pc := 8) (tgt := 32) C (by omega) (by omega) d_M_input_8 rfl (fun h8 => ?_) (fun h8 => ?_)
    · exfalso; omega
    · refine np_aload_n (pc := 11) C d_M_input_11 rfl ?_
      refine np_get (pc := 12) C 0 7 d_M_input_12 rfl rfl rfl (by decide) hin_M m_311 rfl ?_
      refine np_iload_n (pc := 15) C d_M_input_15 rfl ?_
      refine np_if_eq (pc := 16) (tgt := 24) C (by omega) d_M_input_16 rfl (fun h16 => ?_) (fun h16 => ?_)
      · exfalso; omega
      · refine np_bipush (pc := 19) (v := 19) C d_M_input_19 (by decide) ?_
        refine np_goto (pc := 21) (tgt := 26) C d_M_input_21 rfl ?_
        refine np_iload_n (pc := 26) C d_M_input_26 rfl ?_
        refine np_iadd (pc := 27) C d_M_input_27 ?_
        refine np_iconst (pc := 28) (v := 3) C d_M_input_28 (by decide) ?_
        refine np_isub (pc := 29) C (by omega) d_M_input_29 ?_
        refine np_iald (pc := 30) C 5 d_M_input_30 rfl (by omega) (by decide) ?_
        exact np_iret (pc := 31) C d_M_input_31 (by first | omega | rfl | (repeat' split) <;> omega) (by rfl)
set_option maxRecDepth 20000 in
set_option maxHeartbeats 4000000 in
theorem c_M_input_6_0 (l : Launch) (D : va_G) {cI : ClassId} {a : Nat → Nat} (ha : np_inj a 7) {Y : np_X} : np_M l D cI (np_ad a 7) (0, 0) y_M_input b_M_input 3 (some .int) [.ref (a 0), .int (nI 6), .int (nI 0)] (np_mw a cI Y) (some (.int (nI (Y 5 26)))) (np_mw a cI Y) := by
  refine np_Ct.of (np_Sm_St _) (by decide) (Nat.le_of_ble_eq_true rfl) ?_
  intro p e s m below meth c C
  refine np_at (vs2 := [some (.ref (a 0)), some (.int (nI 6)), some (.int (nI 0))]) rfl ?_
  refine np_iload_n (pc := 0) C d_M_input_0 rfl ?_
  refine np_iconst (pc := 1) (v := 3) C d_M_input_1 (by decide) ?_
  refine np_icmp_lt (pc := 2) (tgt := 32) C (by omega) (by omega) d_M_input_2 rfl (fun h2 => ?_) (fun h2 => ?_)
  · exfalso; omega
  · refine np_iload_n (pc := 5) C d_M_input_5 rfl ?_
    refine np_bipush (pc := 6) (v := 6) C d_M_input_6 (by decide) ?_
    refine np_icmp_gt (pc := 8) (tgt := 32) C (by omega) (by omega) d_M_input_8 rfl (fun h8 => ?_) (fun h8 => ?_)
    · exfalso; omega
    · refine np_aload_n (pc := 11) C d_M_input_11 rfl ?_
      refine np_get (pc := 12) C 0 7 d_M_input_12 rfl rfl rfl (by decide) hin_M m_311 rfl ?_
      refine np_iload_n (pc := 15) C d_M_input_15 rfl ?_
      refine np_if_eq (pc := 16) (tgt := 24) C (by omega) d_M_input_16 rfl (fun h16 => ?_) (fun h16 => ?_)
      · refine np_bipush (pc := 24) (v := 23) C d_M_input_24 (by decide) ?_
        refine np_iload_n (pc := 26) C d_M_input_26 rfl ?_
        refine np_iadd (pc := 27) C d_M_input_27 ?_
        refine np_iconst (pc := 28) (v := 3) C d_M_input_28 (by decide) ?_
        refine np_isub (pc := 29) C (by omega) d_M_input_29 ?_
        refine np_iald (pc := 30) C 5 d_M_input_30 rfl (by omega) (by decide) ?_
        exact np_iret (pc := 31) C d_M_input_31 (by first | omega | rfl | (repeat' split) <;> omega) (by rfl)
      · exfalso; omega
set_option maxRecDepth 20000 in
set_option maxHeartbeats 4000000 in
theorem c_M_input_7_1 (l : Launch) (D : va_G) {cI : ClassId} {a : Nat → Nat} (ha : np_inj a 7) {Y : np_X} : np_M l D cI (np_ad a 7) (0, 0) y_M_input b_M_input 3 (some .int) [.ref (a 0), .int (nI 7), .int (nI 1)] (np_mw a cI Y) (some (.int (nI (Y 5 5)))) (np_mw a cI Y) := by
  refine np_Ct.of (np_Sm_St _) (by decide) (Nat.le_of_ble_eq_true rfl) ?_
  intro p e s m below meth c C
  refine np_at (vs2 := [some (.ref (a 0)), some (.int (nI 7)), some (.int (nI 1))]) rfl ?_
  refine np_iload_n (pc := 0) C d_M_input_0 rfl ?_
  refine np_iconst (pc := 1) (v := 3) C d_M_input_1 (by decide) ?_
  refine np_icmp_lt (pc := 2) (tgt := 32) C (by omega) (by omega) d_M_input_2 rfl (fun h2 => ?_) (fun h2 => ?_)
  · exfalso; omega
  · refine np_iload_n (pc := 5) C d_M_input_5 rfl ?_
    refine np_bipush (pc := 6) (v := 6) C d_M_input_6 (by decide) ?_
    refine np_icmp_gt (pc := 8) (tgt := 32) C (by omega) (by omega) d_M_input_8 rfl (fun h8 => ?_) (fun h8 => ?_)
    · refine np_iload_n (pc := 32) C d_M_input_32 rfl ?_
      · refine np_tswI (pc := 33) (tgt := 143) C d_M_input_33 (by decide) (by decide) (by rfl) rfl ?_
        refine np_iload_n (pc := 143) C d_M_input_143 rfl ?_
        refine np_if_eq (pc := 144) (tgt := 156) C (by omega) d_M_input_144 rfl (fun h144 => ?_) (fun h144 => ?_)
        · exfalso; omega
        · refine np_aload_n (pc := 147) C d_M_input_147 rfl ?_
          refine np_get (pc := 148) C 0 7 d_M_input_148 rfl rfl rfl (by decide) hin_M m_311 rfl ?_
          refine np_iconst (pc := 151) (v := 5) C d_M_input_151 (by decide) ?_
          refine np_iald (pc := 152) C 5 d_M_input_152 rfl (by omega) (by decide) ?_
          refine np_goto (pc := 153) (tgt := 163) C d_M_input_153 rfl ?_
          exact np_iret (pc := 163) C d_M_input_163 (by first | omega | rfl | (repeat' split) <;> omega) (by rfl)
    · exfalso; omega
set_option maxRecDepth 20000 in
set_option maxHeartbeats 4000000 in
theorem c_M_input_7_0 (l : Launch) (D : va_G) {cI : ClassId} {a : Nat → Nat} (ha : np_inj a 7) {Y : np_X} : np_M l D cI (np_ad a 7) (0, 0) y_M_input b_M_input 3 (some .int) [.ref (a 0), .int (nI 7), .int (nI 0)] (np_mw a cI Y) (some (.int (nI (Y 5 61)))) (np_mw a cI Y) := by
  refine np_Ct.of (np_Sm_St _) (by decide) (Nat.le_of_ble_eq_true rfl) ?_
  intro p e s m below meth c C
  refine np_at (vs2 := [some (.ref (a 0)), some (.int (nI 7)), some (.int (nI 0))]) rfl ?_
  refine np_iload_n (pc := 0) C d_M_input_0 rfl ?_
  refine np_iconst (pc := 1) (v := 3) C d_M_input_1 (by decide) ?_
  refine np_icmp_lt (pc := 2) (tgt := 32) C (by omega) (by omega) d_M_input_2 rfl (fun h2 => ?_) (fun h2 => ?_)
  · exfalso; omega
  · refine np_iload_n (pc := 5) C d_M_input_5 rfl ?_
    refine np_bipush (pc := 6) (v := 6) C d_M_input_6 (by decide) ?_
    refine np_icmp_gt (pc := 8) (tgt := 32) C (by omega) (by omega) d_M_input_8 rfl (fun h8 => ?_) (fun h8 => ?_)
    · refine np_iload_n (pc := 32) C d_M_input_32 rfl ?_
      · refine np_tswI (pc := 33) (tgt := 143) C d_M_input_33 (by decide) (by decide) (by rfl) rfl ?_
        refine np_iload_n (pc := 143) C d_M_input_143 rfl ?_
        refine np_if_eq (pc := 144) (tgt := 156) C (by omega) d_M_input_144 rfl (fun h144 => ?_) (fun h144 => ?_)
        · refine np_aload_n (pc := 156) C d_M_input_156 rfl ?_
          refine np_get (pc := 157) C 0 7 d_M_input_157 rfl rfl rfl (by decide) hin_M m_311 rfl ?_
          refine np_bipush (pc := 160) (v := 61) C d_M_input_160 (by decide) ?_
          refine np_iald (pc := 162) C 5 d_M_input_162 rfl (by omega) (by decide) ?_
          exact np_iret (pc := 163) C d_M_input_163 (by first | omega | rfl | (repeat' split) <;> omega) (by rfl)
        · exfalso; omega
    · exfalso; omega
set_option maxRecDepth 20000 in
set_option maxHeartbeats 4000000 in
theorem c_M_input_8_1 (l : Launch) (D : va_G) {cI : ClassId} {a : Nat → Nat} (ha : np_inj a 7) {Y : np_X} : np_M l D cI (np_ad a 7) (0, 0) y_M_input b_M_input 3 (some .int) [.ref (a 0), .int (nI 8), .int (nI 1)] (np_mw a cI Y) (some (.int (nI (Y 5 8)))) (np_mw a cI Y) := by
  refine np_Ct.of (np_Sm_St _) (by decide) (Nat.le_of_ble_eq_true rfl) ?_
  intro p e s m below meth c C
  refine np_at (vs2 := [some (.ref (a 0)), some (.int (nI 8)), some (.int (nI 1))]) rfl ?_
  refine np_iload_n (pc := 0) C d_M_input_0 rfl ?_
  refine np_iconst (pc := 1) (v := 3) C d_M_input_1 (by decide) ?_
  refine np_icmp_lt (pc := 2) (tgt := 32) C (by omega) (by omega) d_M_input_2 rfl (fun h2 => ?_) (fun h2 => ?_)
  · exfalso; omega
  · refine np_iload_n (pc := 5) C d_M_input_5 rfl ?_
    refine np_bipush (pc := 6) (v := 6) C d_M_input_6 (by decide) ?_
    refine np_icmp_gt (pc := 8) (tgt := 32) C (by omega) (by omega) d_M_input_8 rfl (fun h8 => ?_) (fun h8 => ?_)
    · refine np_iload_n (pc := 32) C d_M_input_32 rfl ?_
      · refine np_tswI (pc := 33) (tgt := 164) C d_M_input_33 (by decide) (by decide) (by rfl) rfl ?_
        refine np_iload_n (pc := 164) C d_M_input_164 rfl ?_
        refine np_if_eq (pc := 165) (tgt := 178) C (by omega) d_M_input_165 rfl (fun h165 => ?_) (fun h165 => ?_)
        · exfalso; omega
        · refine np_aload_n (pc := 168) C d_M_input_168 rfl ?_
          refine np_get (pc := 169) C 0 7 d_M_input_169 rfl rfl rfl (by decide) hin_M m_311 rfl ?_
          refine np_bipush (pc := 172) (v := 8) C d_M_input_172 (by decide) ?_
          refine np_iald (pc := 174) C 5 d_M_input_174 rfl (by omega) (by decide) ?_
          refine np_goto (pc := 175) (tgt := 185) C d_M_input_175 rfl ?_
          exact np_iret (pc := 185) C d_M_input_185 (by first | omega | rfl | (repeat' split) <;> omega) (by rfl)
    · exfalso; omega
set_option maxRecDepth 20000 in
set_option maxHeartbeats 4000000 in
theorem c_M_input_8_0 (l : Launch) (D : va_G) {cI : ClassId} {a : Nat → Nat} (ha : np_inj a 7) {Y : np_X} : np_M l D cI (np_ad a 7) (0, 0) y_M_input b_M_input 3 (some .int) [.ref (a 0), .int (nI 8), .int (nI 0)] (np_mw a cI Y) (some (.int (nI (Y 5 9)))) (np_mw a cI Y) := by
  refine np_Ct.of (np_Sm_St _) (by decide) (Nat.le_of_ble_eq_true rfl) ?_
  intro p e s m below meth c C
  refine np_at (vs2 := [some (.ref (a 0)), some (.int (nI 8)), some (.int (nI 0))]) rfl ?_
  refine np_iload_n (pc := 0) C d_M_input_0 rfl ?_
  refine np_iconst (pc := 1) (v := 3) C d_M_input_1 (by decide) ?_
  refine np_icmp_lt (pc := 2) (tgt := 32) C (by omega) (by omega) d_M_input_2 rfl (fun h2 => ?_) (fun h2 => ?_)
  · exfalso; omega
  · refine np_iload_n (pc := 5) C d_M_input_5 rfl ?_
    refine np_bipush (pc := 6) (v := 6) C d_M_input_6 (by decide) ?_
    refine np_icmp_gt (pc := 8) (tgt := 32) C (by omega) (by omega) d_M_input_8 rfl (fun h8 => ?_) (fun h8 => ?_)
    · refine np_iload_n (pc := 32) C d_M_input_32 rfl ?_
      · refine np_tswI (pc := 33) (tgt := 164) C d_M_input_33 (by decide) (by decide) (by rfl) rfl ?_
        refine np_iload_n (pc := 164) C d_M_input_164 rfl ?_
        refine np_if_eq (pc := 165) (tgt := 178) C (by omega) d_M_input_165 rfl (fun h165 => ?_) (fun h165 => ?_)
        · refine np_aload_n (pc := 178) C d_M_input_178 rfl ?_
          refine np_get (pc := 179) C 0 7 d_M_input_179 rfl rfl rfl (by decide) hin_M m_311 rfl ?_
          refine np_bipush (pc := 182) (v := 9) C d_M_input_182 (by decide) ?_
          refine np_iald (pc := 184) C 5 d_M_input_184 rfl (by omega) (by decide) ?_
          exact np_iret (pc := 185) C d_M_input_185 (by first | omega | rfl | (repeat' split) <;> omega) (by rfl)
        · exfalso; omega
    · exfalso; omega
set_option maxRecDepth 20000 in
set_option maxHeartbeats 4000000 in
theorem c_M_input_9_1 (l : Launch) (D : va_G) {cI : ClassId} {a : Nat → Nat} (ha : np_inj a 7) {Y : np_X} : np_M l D cI (np_ad a 7) (0, 0) y_M_input b_M_input 3 (some .int) [.ref (a 0), .int (nI 9), .int (nI 1)] (np_mw a cI Y) (some (.int (nI (Y 5 115)))) (np_mw a cI Y) := by
  refine np_Ct.of (np_Sm_St _) (by decide) (Nat.le_of_ble_eq_true rfl) ?_
  intro p e s m below meth c C
  refine np_at (vs2 := [some (.ref (a 0)), some (.int (nI 9)), some (.int (nI 1))]) rfl ?_
  refine np_iload_n (pc := 0) C d_M_input_0 rfl ?_
  refine np_iconst (pc := 1) (v := 3) C d_M_input_1 (by decide) ?_
  refine np_icmp_lt (pc := 2) (tgt := 32) C (by omega) (by omega) d_M_input_2 rfl (fun h2 => ?_) (fun h2 => ?_)
  · exfalso; omega
  · refine np_iload_n (pc := 5) C d_M_input_5 rfl ?_
    refine np_bipush (pc := 6) (v := 6) C d_M_input_6 (by decide) ?_
    refine np_icmp_gt (pc := 8) (tgt := 32) C (by omega) (by omega) d_M_input_8 rfl (fun h8 => ?_) (fun h8 => ?_)
    · refine np_iload_n (pc := 32) C d_M_input_32 rfl ?_
      · refine np_tswO (pc := 33) (tgt := 186) C d_M_input_33 (by decide) rfl ?_
        refine np_iload_n (pc := 186) C d_M_input_186 rfl ?_
        refine np_if_eq (pc := 187) (tgt := 200) C (by omega) d_M_input_187 rfl (fun h187 => ?_) (fun h187 => ?_)
        · exfalso; omega
        · refine np_aload_n (pc := 190) C d_M_input_190 rfl ?_
          refine np_get (pc := 191) C 0 7 d_M_input_191 rfl rfl rfl (by decide) hin_M m_311 rfl ?_
          refine np_bipush (pc := 194) (v := 115) C d_M_input_194 (by decide) ?_
          refine np_iald (pc := 196) C 5 d_M_input_196 rfl (by omega) (by decide) ?_
          refine np_goto (pc := 197) (tgt := 207) C d_M_input_197 rfl ?_
          exact np_iret (pc := 207) C d_M_input_207 (by first | omega | rfl | (repeat' split) <;> omega) (by rfl)
    · exfalso; omega
set_option maxRecDepth 20000 in
set_option maxHeartbeats 4000000 in
theorem c_M_input_9_0 (l : Launch) (D : va_G) {cI : ClassId} {a : Nat → Nat} (ha : np_inj a 7) {Y : np_X} : np_M l D cI (np_ad a 7) (0, 0) y_M_input b_M_input 3 (some .int) [.ref (a 0), .int (nI 9), .int (nI 0)] (np_mw a cI Y) (some (.int (nI (Y 5 10)))) (np_mw a cI Y) := by
  refine np_Ct.of (np_Sm_St _) (by decide) (Nat.le_of_ble_eq_true rfl) ?_
  intro p e s m below meth c C
  refine np_at (vs2 := [some (.ref (a 0)), some (.int (nI 9)), some (.int (nI 0))]) rfl ?_
  refine np_iload_n (pc := 0) C d_M_input_0 rfl ?_
  refine np_iconst (pc := 1) (v := 3) C d_M_input_1 (by decide) ?_
  refine np_icmp_lt (pc := 2) (tgt := 32) C (by omega) (by omega) d_M_input_2 rfl (fun h2 => ?_) (fun h2 => ?_)
  · exfalso; omega
  · refine np_iload_n (pc := 5) C d_M_input_5 rfl ?_
    refine np_bipush (pc := 6) (v := 6) C d_M_input_6 (by decide) ?_
    refine np_icmp_gt (pc := 8) (tgt := 32) C (by omega) (by omega) d_M_input_8 rfl (fun h8 => ?_) (fun h8 => ?_)
    · refine np_iload_n (pc := 32) C d_M_input_32 rfl ?_
      · refine np_tswO (pc := 33) (tgt := 186) C d_M_input_33 (by decide) rfl ?_
        refine np_iload_n (pc := 186) C d_M_input_186 rfl ?_
        refine np_if_eq (pc := 187) (tgt := 200) C (by omega) d_M_input_187 rfl (fun h187 => ?_) (fun h187 => ?_)
        · refine np_aload_n (pc := 200) C d_M_input_200 rfl ?_
          refine np_get (pc := 201) C 0 7 d_M_input_201 rfl rfl rfl (by decide) hin_M m_311 rfl ?_
          refine np_bipush (pc := 204) (v := 10) C d_M_input_204 (by decide) ?_
          refine np_iald (pc := 206) C 5 d_M_input_206 rfl (by omega) (by decide) ?_
          exact np_iret (pc := 207) C d_M_input_207 (by first | omega | rfl | (repeat' split) <;> omega) (by rfl)
        · exfalso; omega
    · exfalso; omega
theorem c_M_input_1 (l : Launch) (D : va_G) {cI : ClassId} {a : Nat → Nat} (ha : np_inj a 7) {Y : np_X} {b : Nat} (hb : b < 10) : np_M l D cI (np_ad a 7) (0, 0) y_M_input b_M_input 3 (some .int) [.ref (a 0), .int (nI b), .int (nI 1)] (np_mw a cI Y) (some (.int (nI (np_inA (Y 5) b)))) (np_mw a cI Y) := by
  rcases (show b = 0 ∨ b = 1 ∨ b = 2 ∨ b = 3 ∨ b = 4 ∨ b = 5 ∨ b = 6 ∨ b = 7 ∨ b = 8 ∨ b = 9 by omega) with rfl | rfl | rfl | rfl | rfl | rfl | rfl | rfl | rfl | rfl
  · exact c_M_input_0_1 l D ha
  · exact c_M_input_1_1 l D ha
  · exact c_M_input_2_1 l D ha
  · exact c_M_input_3_1 l D ha
  · exact c_M_input_4_1 l D ha
  · exact c_M_input_5_1 l D ha
  · exact c_M_input_6_1 l D ha
  · exact c_M_input_7_1 l D ha
  · exact c_M_input_8_1 l D ha
  · exact c_M_input_9_1 l D ha
theorem c_M_input_0 (l : Launch) (D : va_G) {cI : ClassId} {a : Nat → Nat} (ha : np_inj a 7) {Y : np_X} {b : Nat} (hb : b < 10) : np_M l D cI (np_ad a 7) (0, 0) y_M_input b_M_input 3 (some .int) [.ref (a 0), .int (nI b), .int (nI 0)] (np_mw a cI Y) (some (.int (nI (np_inB (Y 5) b)))) (np_mw a cI Y) := by
  rcases (show b = 0 ∨ b = 1 ∨ b = 2 ∨ b = 3 ∨ b = 4 ∨ b = 5 ∨ b = 6 ∨ b = 7 ∨ b = 8 ∨ b = 9 by omega) with rfl | rfl | rfl | rfl | rfl | rfl | rfl | rfl | rfl | rfl
  · exact c_M_input_0_0 l D ha
  · exact c_M_input_1_0 l D ha
  · exact c_M_input_2_0 l D ha
  · exact c_M_input_3_0 l D ha
  · exact c_M_input_4_0 l D ha
  · exact c_M_input_5_0 l D ha
  · exact c_M_input_6_0 l D ha
  · exact c_M_input_7_0 l D ha
  · exact c_M_input_8_0 l D ha
  · exact c_M_input_9_0 l D ha
theorem np_inA_lt {f : Nat → Nat} (h : np_ok f) (b : Nat) : np_inA f b < 65537 := h _
theorem np_inB_lt {f : Nat → Nat} (h : np_ok f) (b : Nat) : np_inB f b < 65537 := by
  unfold np_inB
  split
  · decide
  · exact h _
theorem np_bef_lt {f : Nat → Nat} (h : np_ok f) (b t : Nat) : np_bef f b t < 65537 := by
  unfold np_bef
  split
  · exact h _
  · exact h _
def np_sl (f : Nat → Nat) : Nat → Nat
  | 0 => 0
  | k + 1 => np_sl f k + f (27 + k) * (1 * 2 ^ k)
theorem np_sl_lt {f : Nat → Nat} (h : np_ok f) : ∀ k, k ≤ 8 → np_sl f k ≤ k * 16777216
  | 0, _ => Nat.zero_le _
  | k + 1, hk => by
    simp only [np_sl]
    have i1 := np_sl_lt h k (by omega)
    have i2 := np_p8 (show k < 8 by omega)
    have i3 : f (27 + k) * (1 * 2 ^ k) ≤ 65536 * 256 := Nat.mul_le_mul (Nat.le_of_lt_succ (h _)) (by omega)
    omega
theorem np_sl_sbt (f : Nat → Nat) : ∀ k, np_sl f k % 65537 = np_sbt f k
  | 0 => rfl
  | k + 1 => by
    simp only [np_sl, np_sbt, np_sm, np_pr]
    rw [← np_sl_sbt f k, Nat.mod_add_mod, Nat.add_mod_mod, Nat.mul_comm (1 * 2 ^ k)]
set_option maxRecDepth 20000 in
set_option maxHeartbeats 4000000 in
theorem c_M_due (l : Launch) (D : va_G) {cI : ClassId} {a : Nat → Nat} (ha : np_inj a 7) {Y : np_X} {b z : Nat} (hb : b < 10) (hz : z < 9) (hc : np_ok (Y 5)) : np_M l D cI (np_ad a 7) (2, 46) y_M_due b_M_due 12 (some .int) [.ref (a 0), .int (nI b), .int (nI z)] (np_mw a cI Y) (some (.int (nI (np_blk (Y 5) b z)))) (np_mw a cI Y) := by
  refine np_Ct.of (np_Sm_St _) (by decide) (Nat.le_of_ble_eq_true rfl) ?_
  intro p e s m below meth c C
  refine np_at (vs2 := [some (.ref (a 0)), some (.int (nI b)), some (.int (nI z)), none, none, none, none, none, none, none, none, none]) rfl ?_
  have hA := np_inA_lt hc b
  have hB := np_inB_lt hc b
  have hS := np_sa_lt (z / 2)
  refine np_bipush (pc := 0) (v := 35) C d_M_due_0 (by decide) ?_
  refine np_bipush (pc := 2) (v := 9) C d_M_due_2 (by decide) ?_
  refine np_iload_n (pc := 4) C d_M_due_4 rfl ?_
  refine np_imul (pc := 5) C d_M_due_5 ?_
  refine np_iadd (pc := 6) C d_M_due_6 ?_
  refine np_istore_n (pc := 7) C d_M_due_7 (by decide) rfl ?_
  refine np_aload_n (pc := 8) C d_M_due_8 rfl ?_
  refine np_iload_n (pc := 9) C d_M_due_9 rfl ?_
  refine np_iconst (pc := 10) (v := 1) C d_M_due_10 (by decide) ?_
  refine np_cVi (pc := 11) C 0 (c_M_input_1 l D ha hb) np_TS_good d_M_due_11 rfl rfl m_387 m_384 m_5 m_386 ms_M_input hd_M_input (by decide) rfl rfl (Nat.le_of_ble_eq_true rfl) ?_
  refine np_i2l (pc := 14) C (by omega) d_M_due_14 ?_
  refine np_lstore (pc := 15) C d_M_due_15 (by decide) rfl ?_
  refine np_aload_n (pc := 17) C d_M_due_17 rfl ?_
  refine np_iload_n (pc := 18) C d_M_due_18 rfl ?_
  refine np_iconst (pc := 19) (v := 0) C d_M_due_19 (by decide) ?_
  refine np_cVi (pc := 20) C 0 (c_M_input_0 l D ha hb) np_TS_good d_M_due_20 rfl rfl m_387 m_384 m_5 m_386 ms_M_input hd_M_input (by decide) rfl rfl (Nat.le_of_ble_eq_true rfl) ?_
  refine np_i2l (pc := 23) C (by omega) d_M_due_23 ?_
  refine np_lstore (pc := 24) C d_M_due_24 (by decide) rfl ?_
  refine np_iload_n (pc := 26) C d_M_due_26 rfl ?_
  refine np_bipush (pc := 27) (v := 8) C d_M_due_27 (by decide) ?_
  refine np_icmp_ne (pc := 29) (tgt := 52) C (by omega) (by omega) d_M_due_29 rfl (fun h29 => ?_) (fun h29 => ?_)
  · refine np_iload_n (pc := 52) C d_M_due_52 rfl ?_
    refine np_iconst (pc := 53) (v := 2) C d_M_due_53 (by decide) ?_
    refine np_idiv (pc := 54) C (by omega) (by omega) (by omega) d_M_due_54 ?_
    refine np_istore (pc := 55) C d_M_due_55 (by decide) rfl ?_
    refine np_iload (pc := 57) C d_M_due_57 rfl ?_
    refine np_if_ne (pc := 59) (tgt := 67) C (by omega) d_M_due_59 rfl (fun h59 => ?_) (fun h59 => ?_)
    · have hbe : np_bef (Y 5) b (z / 2) = Y 5 (35 + b * 9 + 2 * (z / 2) - 1) := by rw [np_bef, if_neg h59]
      refine np_aload_n (pc := 67) C d_M_due_67 rfl ?_
      refine np_get (pc := 68) C 0 7 d_M_due_68 rfl rfl rfl (by decide) hin_M m_311 rfl ?_
      refine np_iload_n (pc := 71) C d_M_due_71 rfl ?_
      refine np_iconst (pc := 72) (v := 2) C d_M_due_72 (by decide) ?_
      refine np_iload (pc := 73) C d_M_due_73 rfl ?_
      refine np_imul (pc := 75) C d_M_due_75 ?_
      refine np_iadd (pc := 76) C d_M_due_76 ?_
      refine np_iconst (pc := 77) (v := 1) C d_M_due_77 (by decide) ?_
      refine np_isub (pc := 78) C (by omega) d_M_due_78 ?_
      refine np_iald (pc := 79) C 5 d_M_due_79 rfl (by omega) (by decide) ?_
      refine np_top (y := Y 5 (35 + b * 9 + 2 * (z / 2) - 1)) (by rw [show 35 + 9 * b = 35 + b * 9 by omega]) ?_
      have hq2 := hc (35 + b * 9 + 2 * (z / 2) - 1)
      refine np_i2l (pc := 80) C (by omega) d_M_due_80 ?_
      refine np_lstore (pc := 81) C d_M_due_81 (by decide) rfl ?_
      refine np_lload (pc := 83) C d_M_due_83 rfl ?_
      refine np_lload (pc := 85) C d_M_due_85 rfl ?_
      refine np_ladd (pc := 87) C d_M_due_87 ?_
      refine np_iload (pc := 88) C d_M_due_88 rfl ?_
      refine np_cSi (pc := 90) C (c_M_salt l D (by omega)) np_TS_good d_M_due_90 m_345 m_343 m_5 m_344 hd_M_salt (by decide) rfl rfl (Nat.le_of_ble_eq_true rfl) ?_
      refine np_i2l (pc := 93) C (by omega) d_M_due_93 ?_
      refine np_ladd (pc := 94) C d_M_due_94 ?_
      refine np_cSi (pc := 95) C (c_M_reduced l D (by omega)) np_TS_good d_M_due_95 m_352 m_350 m_5 m_351 hd_M_reduced (by decide) rfl rfl (Nat.le_of_ble_eq_true rfl) ?_
      refine np_top (y := np_bas (Y 5) b (z / 2)) (by rw [np_sm3, ← hbe]; rfl) ?_
      have hq3 : np_bas (Y 5) b (z / 2) < 65537 := np_sm_lt _ _
      refine np_istore (pc := 98) C d_M_due_98 (by decide) rfl ?_
      refine np_iload_n (pc := 100) C d_M_due_100 rfl ?_
      refine np_iconst (pc := 101) (v := 2) C d_M_due_101 (by decide) ?_
      refine np_irem (pc := 102) C (by omega) (by omega) (by omega) d_M_due_102 ?_
      refine np_if_ne (pc := 103) (tgt := 118) C (by omega) d_M_due_103 rfl (fun h103 => ?_) (fun h103 => ?_)
      · refine np_aload_n (pc := 118) C d_M_due_118 rfl ?_
        refine np_get (pc := 119) C 0 7 d_M_due_119 rfl rfl rfl (by decide) hin_M m_311 rfl ?_
        refine np_iload_n (pc := 122) C d_M_due_122 rfl ?_
        refine np_iload_n (pc := 123) C d_M_due_123 rfl ?_
        refine np_iadd (pc := 124) C d_M_due_124 ?_
        refine np_iconst (pc := 125) (v := 1) C d_M_due_125 (by decide) ?_
        refine np_isub (pc := 126) C (by omega) d_M_due_126 ?_
        refine np_iald (pc := 127) C 5 d_M_due_127 rfl (by omega) (by decide) ?_
        refine np_top (y := Y 5 (35 + b * 9 + z - 1)) (by rw [show 35 + 9 * b = 35 + b * 9 by omega]) ?_
        have hq4 := hc (35 + b * 9 + z - 1)
        refine np_i2l (pc := 128) C (by omega) d_M_due_128 ?_
        refine np_iload (pc := 129) C d_M_due_129 rfl ?_
        refine np_i2l (pc := 131) C (by omega) d_M_due_131 ?_
        refine np_cSi (pc := 132) C (c_M_times l D (np_mul62 hq4 (by omega))) np_TS_good d_M_due_132 m_356 m_354 m_5 m_355 hd_M_times (by decide) rfl rfl (Nat.le_of_ble_eq_true rfl) ?_
        exact np_iret (pc := 135) C d_M_due_135 (by simp only [np_blk, h29, h103, if_true, if_false, ne_eq, not_false_eq_true, ↓reduceIte]) (by rfl)
      · refine np_iload (pc := 106) C d_M_due_106 rfl ?_
        refine np_i2l (pc := 108) C (by omega) d_M_due_108 ?_
        refine np_iload (pc := 109) C d_M_due_109 rfl ?_
        refine np_i2l (pc := 111) C (by omega) d_M_due_111 ?_
        refine np_cSi (pc := 112) C (c_M_times l D (np_mul62 hq3 (by omega))) np_TS_good d_M_due_112 m_356 m_354 m_5 m_355 hd_M_times (by decide) rfl rfl (Nat.le_of_ble_eq_true rfl) ?_
        refine np_goto (pc := 115) (tgt := 135) C d_M_due_115 rfl ?_
        exact np_iret (pc := 135) C d_M_due_135 (by simp only [np_blk, h29, h103, if_true, if_false, ne_eq, not_false_eq_true, ↓reduceIte]) (by rfl)
    · have hbe : np_bef (Y 5) b (z / 2) = np_inA (Y 5) b := by rw [np_bef, if_pos h59]
      refine np_lload (pc := 62) C d_M_due_62 rfl ?_
      refine np_goto (pc := 64) (tgt := 81) C d_M_due_64 rfl ?_
      refine np_lstore (pc := 81) C d_M_due_81 (by decide) rfl ?_
      refine np_lload (pc := 83) C d_M_due_83 rfl ?_
      refine np_lload (pc := 85) C d_M_due_85 rfl ?_
      refine np_ladd (pc := 87) C d_M_due_87 ?_
      refine np_iload (pc := 88) C d_M_due_88 rfl ?_
      refine np_cSi (pc := 90) C (c_M_salt l D (by omega)) np_TS_good d_M_due_90 m_345 m_343 m_5 m_344 hd_M_salt (by decide) rfl rfl (Nat.le_of_ble_eq_true rfl) ?_
      refine np_i2l (pc := 93) C (by omega) d_M_due_93 ?_
      refine np_ladd (pc := 94) C d_M_due_94 ?_
      refine np_cSi (pc := 95) C (c_M_reduced l D (by omega)) np_TS_good d_M_due_95 m_352 m_350 m_5 m_351 hd_M_reduced (by decide) rfl rfl (Nat.le_of_ble_eq_true rfl) ?_
      refine np_top (y := np_bas (Y 5) b (z / 2)) (by rw [np_sm3, ← hbe]; rfl) ?_
      have hq3 : np_bas (Y 5) b (z / 2) < 65537 := np_sm_lt _ _
      refine np_istore (pc := 98) C d_M_due_98 (by decide) rfl ?_
      refine np_iload_n (pc := 100) C d_M_due_100 rfl ?_
      refine np_iconst (pc := 101) (v := 2) C d_M_due_101 (by decide) ?_
      refine np_irem (pc := 102) C (by omega) (by omega) (by omega) d_M_due_102 ?_
      refine np_if_ne (pc := 103) (tgt := 118) C (by omega) d_M_due_103 rfl (fun h103 => ?_) (fun h103 => ?_)
      · refine np_aload_n (pc := 118) C d_M_due_118 rfl ?_
        refine np_get (pc := 119) C 0 7 d_M_due_119 rfl rfl rfl (by decide) hin_M m_311 rfl ?_
        refine np_iload_n (pc := 122) C d_M_due_122 rfl ?_
        refine np_iload_n (pc := 123) C d_M_due_123 rfl ?_
        refine np_iadd (pc := 124) C d_M_due_124 ?_
        refine np_iconst (pc := 125) (v := 1) C d_M_due_125 (by decide) ?_
        refine np_isub (pc := 126) C (by omega) d_M_due_126 ?_
        refine np_iald (pc := 127) C 5 d_M_due_127 rfl (by omega) (by decide) ?_
        refine np_top (y := Y 5 (35 + b * 9 + z - 1)) (by rw [show 35 + 9 * b = 35 + b * 9 by omega]) ?_
        have hq4 := hc (35 + b * 9 + z - 1)
        refine np_i2l (pc := 128) C (by omega) d_M_due_128 ?_
        refine np_iload (pc := 129) C d_M_due_129 rfl ?_
        refine np_i2l (pc := 131) C (by omega) d_M_due_131 ?_
        refine np_cSi (pc := 132) C (c_M_times l D (np_mul62 hq4 (by omega))) np_TS_good d_M_due_132 m_356 m_354 m_5 m_355 hd_M_times (by decide) rfl rfl (Nat.le_of_ble_eq_true rfl) ?_
        exact np_iret (pc := 135) C d_M_due_135 (by simp only [np_blk, h29, h103, if_true, if_false, ne_eq, not_false_eq_true, ↓reduceIte]) (by rfl)
      · refine np_iload (pc := 106) C d_M_due_106 rfl ?_
        refine np_i2l (pc := 108) C (by omega) d_M_due_108 ?_
        refine np_iload (pc := 109) C d_M_due_109 rfl ?_
        refine np_i2l (pc := 111) C (by omega) d_M_due_111 ?_
        refine np_cSi (pc := 112) C (c_M_times l D (np_mul62 hq3 (by omega))) np_TS_good d_M_due_112 m_356 m_354 m_5 m_355 hd_M_times (by decide) rfl rfl (Nat.le_of_ble_eq_true rfl) ?_
        refine np_goto (pc := 115) (tgt := 135) C d_M_due_115 rfl ?_
        exact np_iret (pc := 135) C d_M_due_135 (by simp only [np_blk, h29, h103, if_true, if_false, ne_eq, not_false_eq_true, ↓reduceIte]) (by rfl)
  · refine np_aload_n (pc := 32) C d_M_due_32 rfl ?_
    refine np_get (pc := 33) C 0 7 d_M_due_33 rfl rfl rfl (by decide) hin_M m_311 rfl ?_
    refine np_iload_n (pc := 36) C d_M_due_36 rfl ?_
    refine np_bipush (pc := 37) (v := 7) C d_M_due_37 (by decide) ?_
    refine np_iadd (pc := 39) C d_M_due_39 ?_
    refine np_iald (pc := 40) C 5 d_M_due_40 rfl (by omega) (by decide) ?_
    refine np_top (y := Y 5 (35 + b * 9 + z - 1)) (by rw [show 35 + 9 * b + 7 = 35 + b * 9 + z - 1 by omega]) ?_
    have hq1 := hc (35 + b * 9 + z - 1)
    refine np_i2l (pc := 41) C (by omega) d_M_due_41 ?_
    refine np_lload (pc := 42) C d_M_due_42 rfl ?_
    refine np_ladd (pc := 44) C d_M_due_44 ?_
    refine np_lload (pc := 45) C d_M_due_45 rfl ?_
    refine np_ladd (pc := 47) C d_M_due_47 ?_
    refine np_cSi (pc := 48) C (c_M_reduced l D (by omega)) np_TS_good d_M_due_48 m_352 m_350 m_5 m_351 hd_M_reduced (by decide) rfl rfl (Nat.le_of_ble_eq_true rfl) ?_
    exact np_iret (pc := 51) C d_M_due_51 (by rw [np_sm3]; simp only [np_blk, h29, if_true, ↓reduceIte]) (by rfl)
set_option maxRecDepth 20000 in
set_option maxHeartbeats 4000000 in
theorem c_M_turned_1 (l : Launch) (D : va_G) {cI : ClassId} {a : Nat → Nat} (ha : np_inj a 7) {Y : np_X} {v : Nat} (hv : v < 4) (hc : np_ok (Y 5)) : np_M l D cI (np_ad a 7) (2, 46) y_M_turned b_M_turned 8 (some .int) [.ref (a 0), .int (nI v), .int (nI 1)] (np_mw a cI Y) (some (.int (nI (np_lft (Y 5) v)))) (np_mw a cI Y) := by
  refine np_Ct.of (np_Sm_St _) (by decide) (Nat.le_of_ble_eq_true rfl) ?_
  intro p e s m below meth c C
  refine np_at (vs2 := [some (.ref (a 0)), some (.int (nI v)), some (.int (nI 1)), none, none, none, none, none]) rfl ?_
  refine np_aload_n (pc := 0) C d_M_turned_0 rfl ?_
  refine np_get (pc := 1) C 0 7 d_M_turned_1 rfl rfl rfl (by decide) hin_M m_311 rfl ?_
  refine np_bipush (pc := 4) (v := 61) C d_M_turned_4 (by decide) ?_
  refine np_bipush (pc := 6) (v := 9) C d_M_turned_6 (by decide) ?_
  refine np_iload_n (pc := 8) C d_M_turned_8 rfl ?_
  refine np_imul (pc := 9) C d_M_turned_9 ?_
  refine np_iadd (pc := 10) C d_M_turned_10 ?_
  refine np_iald (pc := 11) C 5 d_M_turned_11 rfl (by omega) (by decide) ?_
  refine np_top (y := np_res (Y 5) (2 + v)) (by rw [np_res, show 61 + 9 * v = 35 + (2 + v) * 9 + 9 - 1 by omega]) ?_
  have hn0 : np_res (Y 5) (2 + v) < 65537 := hc _
  refine np_i2l (pc := 12) C (by omega) d_M_turned_12 ?_
  refine np_lstore_n (pc := 13) C d_M_turned_13 (by decide) rfl ?_
  refine np_aload_n (pc := 14) C d_M_turned_14 rfl ?_
  refine np_get (pc := 15) C 0 7 d_M_turned_15 rfl rfl rfl (by decide) hin_M m_311 rfl ?_
  refine np_bipush (pc := 18) (v := 11) C d_M_turned_18 (by decide) ?_
  refine np_iload_n (pc := 20) C d_M_turned_20 rfl ?_
  refine np_iadd (pc := 21) C d_M_turned_21 ?_
  refine np_iald (pc := 22) C 5 d_M_turned_22 rfl (by omega) (by decide) ?_
  have hs0 := hc (11 + v)
  refine np_i2l (pc := 23) C (by omega) d_M_turned_23 ?_
  refine np_lstore (pc := 24) C d_M_turned_24 (by decide) rfl ?_
  refine np_aload_n (pc := 26) C d_M_turned_26 rfl ?_
  refine np_get (pc := 27) C 0 7 d_M_turned_27 rfl rfl rfl (by decide) hin_M m_311 rfl ?_
  refine np_bipush (pc := 30) (v := 15) C d_M_turned_30 (by decide) ?_
  refine np_iload_n (pc := 32) C d_M_turned_32 rfl ?_
  refine np_iadd (pc := 33) C d_M_turned_33 ?_
  refine np_iald (pc := 34) C 5 d_M_turned_34 rfl (by omega) (by decide) ?_
  have ht0 := hc (15 + v)
  refine np_i2l (pc := 35) C (by omega) d_M_turned_35 ?_
  refine np_lload (pc := 36) C d_M_turned_36 rfl ?_
  refine np_lload_n (pc := 38) C d_M_turned_38 rfl ?_
  refine np_lsubR (pc := 39) C d_M_turned_39 ?_
  refine np_ldc2 (pc := 40) (v := 65537) C m_353 (by decide) d_M_turned_40 ?_
  refine np_laddR (pc := 43) C d_M_turned_43 ?_
  refine np_topl (np_lsubadd (by omega) (by omega)) ?_
  refine np_cSi (pc := 44) C (c_M_times l D (np_mul62 ht0 (by omega))) np_TS_good d_M_turned_44 m_356 m_354 m_5 m_355 hd_M_times (by decide) rfl rfl (Nat.le_of_ble_eq_true rfl) ?_
  have hp0 := np_pr_lt (Y 5 (15 + v)) (Y 5 (11 + v) + 65537 - np_res (Y 5) (2 + v))
  refine np_istore (pc := 47) C d_M_turned_47 (by decide) rfl ?_
  refine np_iload_n (pc := 49) C d_M_turned_49 rfl ?_
  refine np_if_eq (pc := 50) (tgt := 64) C (by omega) d_M_turned_50 rfl (fun h50 => ?_) (fun h50 => ?_)
  · exfalso; omega
  · refine np_lload_n (pc := 53) C d_M_turned_53 rfl ?_
    refine np_iload (pc := 54) C d_M_turned_54 rfl ?_
    refine np_i2l (pc := 56) C (by omega) d_M_turned_56 ?_
    refine np_ladd (pc := 57) C d_M_turned_57 ?_
    refine np_cSi (pc := 58) C (c_M_reduced l D (by omega)) np_TS_good d_M_turned_58 m_352 m_350 m_5 m_351 hd_M_reduced (by decide) rfl rfl (Nat.le_of_ble_eq_true rfl) ?_
    refine np_goto (pc := 61) (tgt := 82) C d_M_turned_61 rfl ?_
    exact np_iret (pc := 82) C d_M_turned_82 (by exact np_lft_eq _ _ _ hn0) (by rfl)
set_option maxRecDepth 20000 in
set_option maxHeartbeats 4000000 in
theorem c_M_turned_0 (l : Launch) (D : va_G) {cI : ClassId} {a : Nat → Nat} (ha : np_inj a 7) {Y : np_X} {v : Nat} (hv : v < 4) (hc : np_ok (Y 5)) : np_M l D cI (np_ad a 7) (2, 46) y_M_turned b_M_turned 8 (some .int) [.ref (a 0), .int (nI v), .int (nI 0)] (np_mw a cI Y) (some (.int (nI (np_rgt (Y 5) v)))) (np_mw a cI Y) := by
  refine np_Ct.of (np_Sm_St _) (by decide) (Nat.le_of_ble_eq_true rfl) ?_
  intro p e s m below meth c C
  refine np_at (vs2 := [some (.ref (a 0)), some (.int (nI v)), some (.int (nI 0)), none, none, none, none, none]) rfl ?_
  refine np_aload_n (pc := 0) C d_M_turned_0 rfl ?_
  refine np_get (pc := 1) C 0 7 d_M_turned_1 rfl rfl rfl (by decide) hin_M m_311 rfl ?_
  refine np_bipush (pc := 4) (v := 61) C d_M_turned_4 (by decide) ?_
  refine np_bipush (pc := 6) (v := 9) C d_M_turned_6 (by decide) ?_
  refine np_iload_n (pc := 8) C d_M_turned_8 rfl ?_
  refine np_imul (pc := 9) C d_M_turned_9 ?_
  refine np_iadd (pc := 10) C d_M_turned_10 ?_
  refine np_iald (pc := 11) C 5 d_M_turned_11 rfl (by omega) (by decide) ?_
  refine np_top (y := np_res (Y 5) (2 + v)) (by rw [np_res, show 61 + 9 * v = 35 + (2 + v) * 9 + 9 - 1 by omega]) ?_
  have hn0 : np_res (Y 5) (2 + v) < 65537 := hc _
  refine np_i2l (pc := 12) C (by omega) d_M_turned_12 ?_
  refine np_lstore_n (pc := 13) C d_M_turned_13 (by decide) rfl ?_
  refine np_aload_n (pc := 14) C d_M_turned_14 rfl ?_
  refine np_get (pc := 15) C 0 7 d_M_turned_15 rfl rfl rfl (by decide) hin_M m_311 rfl ?_
  refine np_bipush (pc := 18) (v := 11) C d_M_turned_18 (by decide) ?_
  refine np_iload_n (pc := 20) C d_M_turned_20 rfl ?_
  refine np_iadd (pc := 21) C d_M_turned_21 ?_
  refine np_iald (pc := 22) C 5 d_M_turned_22 rfl (by omega) (by decide) ?_
  have hs0 := hc (11 + v)
  refine np_i2l (pc := 23) C (by omega) d_M_turned_23 ?_
  refine np_lstore (pc := 24) C d_M_turned_24 (by decide) rfl ?_
  refine np_aload_n (pc := 26) C d_M_turned_26 rfl ?_
  refine np_get (pc := 27) C 0 7 d_M_turned_27 rfl rfl rfl (by decide) hin_M m_311 rfl ?_
  refine np_bipush (pc := 30) (v := 15) C d_M_turned_30 (by decide) ?_
  refine np_iload_n (pc := 32) C d_M_turned_32 rfl ?_
  refine np_iadd (pc := 33) C d_M_turned_33 ?_
  refine np_iald (pc := 34) C 5 d_M_turned_34 rfl (by omega) (by decide) ?_
  have ht0 := hc (15 + v)
  refine np_i2l (pc := 35) C (by omega) d_M_turned_35 ?_
  refine np_lload (pc := 36) C d_M_turned_36 rfl ?_
  refine np_lload_n (pc := 38) C d_M_turned_38 rfl ?_
  refine np_lsubR (pc := 39) C d_M_turned_39 ?_
  refine np_ldc2 (pc := 40) (v := 65537) C m_353 (by decide) d_M_turned_40 ?_
  refine np_laddR (pc := 43) C d_M_turned_43 ?_
  refine np_topl (np_lsubadd (by omega) (by omega)) ?_
  refine np_cSi (pc := 44) C (c_M_times l D (np_mul62 ht0 (by omega))) np_TS_good d_M_turned_44 m_356 m_354 m_5 m_355 hd_M_times (by decide) rfl rfl (Nat.le_of_ble_eq_true rfl) ?_
  have hp0 := np_pr_lt (Y 5 (15 + v)) (Y 5 (11 + v) + 65537 - np_res (Y 5) (2 + v))
  refine np_istore (pc := 47) C d_M_turned_47 (by decide) rfl ?_
  refine np_iload_n (pc := 49) C d_M_turned_49 rfl ?_
  refine np_if_eq (pc := 50) (tgt := 64) C (by omega) d_M_turned_50 rfl (fun h50 => ?_) (fun h50 => ?_)
  · refine np_lload_n (pc := 64) C d_M_turned_64 rfl ?_
    refine np_lload (pc := 65) C d_M_turned_65 rfl ?_
    refine np_ladd (pc := 67) C d_M_turned_67 ?_
    refine np_aload_n (pc := 68) C d_M_turned_68 rfl ?_
    refine np_get (pc := 69) C 0 7 d_M_turned_69 rfl rfl rfl (by decide) hin_M m_311 rfl ?_
    refine np_bipush (pc := 72) (v := 19) C d_M_turned_72 (by decide) ?_
    refine np_iload_n (pc := 74) C d_M_turned_74 rfl ?_
    refine np_iadd (pc := 75) C d_M_turned_75 ?_
    refine np_iald (pc := 76) C 5 d_M_turned_76 rfl (by omega) (by decide) ?_
    have hl0 := hc (19 + v)
    refine np_i2l (pc := 77) C (by omega) d_M_turned_77 ?_
    refine np_lsubR (pc := 78) C d_M_turned_78 ?_
    by_cases hlt : np_res (Y 5) (2 + v) + Y 5 (11 + v) < Y 5 (19 + v)
    · refine np_cSi (pc := 79) C (c_M_reduced_n l D hlt hl0) np_TS_good d_M_turned_79 m_352 m_350 m_5 m_351 hd_M_reduced (by decide) rfl rfl (Nat.le_of_ble_eq_true rfl) ?_
      exact np_iret (pc := 82) C d_M_turned_82 (by unfold np_rgt np_df np_sm; rw [Nat.mod_eq_of_lt (show np_res (Y 5) (2 + v) + Y 5 (11 + v) < 65537 by omega)]) (by rfl)
    · refine np_topl (lN_sub (by omega)) ?_
      refine np_cSi (pc := 79) C (c_M_reduced l D (by omega)) np_TS_good d_M_turned_79 m_352 m_350 m_5 m_351 hd_M_reduced (by decide) rfl rfl (Nat.le_of_ble_eq_true rfl) ?_
      exact np_iret (pc := 82) C d_M_turned_82 (by unfold np_rgt np_df np_sm; rw [show (np_res (Y 5) (2 + v) + Y 5 (11 + v)) % 65537 + 65537 - Y 5 (19 + v) = (np_res (Y 5) (2 + v) + Y 5 (11 + v)) % 65537 + (65537 - Y 5 (19 + v)) by omega, Nat.mod_add_mod, show np_res (Y 5) (2 + v) + Y 5 (11 + v) + (65537 - Y 5 (19 + v)) = np_res (Y 5) (2 + v) + Y 5 (11 + v) - Y 5 (19 + v) + 65537 by omega, Nat.add_mod_right]) (by rfl)
  · exfalso; omega
set_option maxRecDepth 20000 in
set_option maxHeartbeats 4000000 in
theorem c_M_bit (l : Launch) (D : va_G) {cI : ClassId} {a : Nat → Nat} (ha : np_inj a 7) {Y : np_X} {x : Nat} (hx : x < 125) (hc : np_ok (Y 5)) : np_M l D cI (np_ad a 7) (0, 0) y_M_bit b_M_bit 2 (some .boolean) [.ref (a 0), .int (nI x)] (np_mw a cI Y) (some (.int (nI (if Y 5 x = 0 ∨ Y 5 x = 1 then 1 else 0)))) (np_mw a cI Y) := by
  refine np_Ct.of (np_Sm_St _) (by decide) (Nat.le_of_ble_eq_true rfl) ?_
  intro p e s m below meth c C
  refine np_at (vs2 := [some (.ref (a 0)), some (.int (nI x))]) rfl ?_
  have hb := hc x
  refine np_aload_n (pc := 0) C d_M_bit_0 rfl ?_
  refine np_get (pc := 1) C 0 7 d_M_bit_1 rfl rfl rfl (by decide) hin_M m_311 rfl ?_
  refine np_iload_n (pc := 4) C d_M_bit_4 rfl ?_
  refine np_iald (pc := 5) C 5 d_M_bit_5 rfl (by omega) (by decide) ?_
  refine np_if_eq (pc := 6) (tgt := 19) C (by omega) d_M_bit_6 rfl (fun h6 => ?_) (fun h6 => ?_)
  · refine np_iconst (pc := 19) (v := 1) C d_M_bit_19 (by decide) ?_
    refine np_goto (pc := 20) (tgt := 24) C d_M_bit_20 rfl ?_
    exact np_zret (pc := 24) C d_M_bit_24 (by omega) (by split <;> omega) (by rfl)
  · refine np_aload_n (pc := 9) C d_M_bit_9 rfl ?_
    refine np_get (pc := 10) C 0 7 d_M_bit_10 rfl rfl rfl (by decide) hin_M m_311 rfl ?_
    refine np_iload_n (pc := 13) C d_M_bit_13 rfl ?_
    refine np_iald (pc := 14) C 5 d_M_bit_14 rfl (by omega) (by decide) ?_
    refine np_iconst (pc := 15) (v := 1) C d_M_bit_15 (by decide) ?_
    refine np_icmp_ne (pc := 16) (tgt := 23) C (by omega) (by omega) d_M_bit_16 rfl (fun h16 => ?_) (fun h16 => ?_)
    · refine np_iconst (pc := 23) (v := 0) C d_M_bit_23 (by decide) ?_
      exact np_zret (pc := 24) C d_M_bit_24 (by omega) (by split <;> omega) (by rfl)
    · refine np_iconst (pc := 19) (v := 1) C d_M_bit_19 (by decide) ?_
      refine np_goto (pc := 20) (tgt := 24) C d_M_bit_20 rfl ?_
      exact np_zret (pc := 24) C d_M_bit_24 (by omega) (by split <;> omega) (by rfl)
set_option maxRecDepth 20000 in
set_option maxHeartbeats 4000000 in
theorem c_M_nine (l : Launch) (D : va_G) {cI : ClassId} {a : Nat → Nat} (ha : np_inj a 7) {Y : np_X} {b z : Nat} (hb : b < 10) (hz : z < 9) (hc : np_ok (Y 5)) : np_M l D cI (np_ad a 7) (3, 77) y_M_nine b_M_nine 3 (some .boolean) [.ref (a 0), .int (nI b), .int (nI z)] (np_mw a cI Y) (some (.int (nI (if Y 5 (35 + 9 * b + z) = np_blk (Y 5) b z then 1 else 0)))) (np_mw a cI Y) := by
  refine np_Ct.of (np_Sm_St _) (by decide) (Nat.le_of_ble_eq_true rfl) ?_
  intro p e s m below meth c C
  refine np_at (vs2 := [some (.ref (a 0)), some (.int (nI b)), some (.int (nI z))]) rfl ?_
  have hb1 := hc (35 + 9 * b + z)
  have hb2 := np_blk_lt (f := Y 5) b z
  refine np_aload_n (pc := 0) C d_M_nine_0 rfl ?_
  refine np_get (pc := 1) C 0 7 d_M_nine_1 rfl rfl rfl (by decide) hin_M m_311 rfl ?_
  refine np_bipush (pc := 4) (v := 35) C d_M_nine_4 (by decide) ?_
  refine np_bipush (pc := 6) (v := 9) C d_M_nine_6 (by decide) ?_
  refine np_iload_n (pc := 8) C d_M_nine_8 rfl ?_
  refine np_imul (pc := 9) C d_M_nine_9 ?_
  refine np_iadd (pc := 10) C d_M_nine_10 ?_
  refine np_iload_n (pc := 11) C d_M_nine_11 rfl ?_
  refine np_iadd (pc := 12) C d_M_nine_12 ?_
  refine np_iald (pc := 13) C 5 d_M_nine_13 rfl (by omega) (by decide) ?_
  refine np_aload_n (pc := 14) C d_M_nine_14 rfl ?_
  refine np_iload_n (pc := 15) C d_M_nine_15 rfl ?_
  refine np_iload_n (pc := 16) C d_M_nine_16 rfl ?_
  refine np_cVi (pc := 17) C 0 (c_M_due l D ha hb hz hc) np_TS_good d_M_nine_17 rfl rfl m_383 m_380 m_5 m_382 ms_M_due hd_M_due (by decide) rfl rfl (Nat.le_of_ble_eq_true rfl) ?_
  refine np_icmp_ne (pc := 20) (tgt := 27) C (by omega) (by omega) d_M_nine_20 rfl (fun h20 => ?_) (fun h20 => ?_)
  · refine np_iconst (pc := 27) (v := 0) C d_M_nine_27 (by decide) ?_
    exact np_zret (pc := 28) C d_M_nine_28 (by omega) (by split <;> omega) (by rfl)
  · refine np_iconst (pc := 23) (v := 1) C d_M_nine_23 (by decide) ?_
    refine np_goto (pc := 24) (tgt := 28) C d_M_nine_24 rfl ?_
    exact np_zret (pc := 28) C d_M_nine_28 (by omega) (by split <;> omega) (by rfl)
set_option maxRecDepth 20000 in
set_option maxHeartbeats 4000000 in
theorem c_M_sums (l : Launch) (D : va_G) {cI : ClassId} {a : Nat → Nat} (ha : np_inj a 7) {Y : np_X} (hc : np_ok (Y 5)) : np_M l D cI (np_ad a 7) (1, 23) y_M_sums b_M_sums 4 (some .boolean) [.ref (a 0)] (np_mw a cI Y) (some (.int (nI (if np_sbt (Y 5) 8 = Y 5 9 then 1 else 0)))) (np_mw a cI Y) := by
  refine np_Ct.of (np_Sm_St _) (by decide) (Nat.le_of_ble_eq_true rfl) ?_
  intro p e s m below meth c C
  refine np_at (vs2 := [some (.ref (a 0)), none, none, none]) rfl ?_
  have loop : ∀ (n k : Nat), k + n = 8 → np_V p l e (np_rm (1, 23)) s m ([.ref (a 0)] : List Value).toArray below meth c 0 0 D np_cls (np_ad a 7) (MQ below (np_Qc D np_cls (np_ad a 7) (some (.int (nI (if np_sbt (Y 5) 8 = Y 5 9 then 1 else 0)))) (np_mw a cI Y)) ([.ref (a 0)] : List Value).toArray s 0 0 (np_ad a 7)) 4 (np_mw a cI Y) 4 [some (.ref (a 0)), some (.long (lN (np_sl (Y 5) k))), none, some (.int (nI k))] [] := by
    intro n
    induction n with
    | zero =>
      intro k hk
      obtain rfl : k = 8 := by omega
      have hb := np_sl_lt hc 8 (by omega)
      have hb2 := hc 9
      have hb3 := np_sbt_lt (Y 5) 8
      refine np_iload_n (pc := 4) C d_M_sums_4 rfl ?_
      refine np_bipush (pc := 5) (v := 8) C d_M_sums_5 (by decide) ?_
      refine np_icmp_ge (pc := 7) (tgt := 34) C (by omega) (by omega) d_M_sums_7 rfl (fun h7 => ?_) (fun h7 => ?_)
      · refine np_lload_n (pc := 34) C d_M_sums_34 rfl ?_
        refine np_cSi (pc := 35) C (c_M_reduced l D (by omega)) np_TS_good d_M_sums_35 m_352 m_350 m_5 m_351 hd_M_reduced (by decide) rfl rfl (Nat.le_of_ble_eq_true rfl) ?_
        refine np_top (y := np_sbt (Y 5) 8) (by rw [np_sl_sbt]) ?_
        refine np_aload_n (pc := 38) C d_M_sums_38 rfl ?_
        refine np_get (pc := 39) C 0 7 d_M_sums_39 rfl rfl rfl (by decide) hin_M m_311 rfl ?_
        refine np_bipush (pc := 42) (v := 9) C d_M_sums_42 (by decide) ?_
        refine np_iald (pc := 44) C 5 d_M_sums_44 rfl (by omega) (by decide) ?_
        refine np_icmp_ne (pc := 45) (tgt := 52) C (by omega) (by omega) d_M_sums_45 rfl (fun h45 => ?_) (fun h45 => ?_)
        · refine np_iconst (pc := 52) (v := 0) C d_M_sums_52 (by decide) ?_
          exact np_zret (pc := 53) C d_M_sums_53 (by omega) (by split <;> omega) (by rfl)
        · refine np_iconst (pc := 48) (v := 1) C d_M_sums_48 (by decide) ?_
          refine np_goto (pc := 49) (tgt := 53) C d_M_sums_49 rfl ?_
          exact np_zret (pc := 53) C d_M_sums_53 (by omega) (by split <;> omega) (by rfl)
      · exfalso; omega
    | succ n ih =>
      intro k hk
      have hp := np_p8 (show k < 8 by omega)
      have hb := hc (27 + k)
      refine np_iload_n (pc := 4) C d_M_sums_4 rfl ?_
      refine np_bipush (pc := 5) (v := 8) C d_M_sums_5 (by decide) ?_
      refine np_icmp_ge (pc := 7) (tgt := 34) C (by omega) (by omega) d_M_sums_7 rfl (fun h7 => ?_) (fun h7 => ?_)
      · exfalso; omega
      · refine np_lload_n (pc := 10) C d_M_sums_10 rfl ?_
        refine np_aload_n (pc := 11) C d_M_sums_11 rfl ?_
        refine np_get (pc := 12) C 0 7 d_M_sums_12 rfl rfl rfl (by decide) hin_M m_311 rfl ?_
        refine np_bipush (pc := 15) (v := 27) C d_M_sums_15 (by decide) ?_
        refine np_iload_n (pc := 17) C d_M_sums_17 rfl ?_
        refine np_iadd (pc := 18) C d_M_sums_18 ?_
        refine np_iald (pc := 19) C 5 d_M_sums_19 rfl (by omega) (by decide) ?_
        refine np_i2l (pc := 20) C (by omega) d_M_sums_20 ?_
        refine np_iconst (pc := 21) (v := 1) C d_M_sums_21 (by decide) ?_
        refine np_iload_n (pc := 22) C d_M_sums_22 rfl ?_
        refine np_ishl (pc := 23) C (by omega) (by omega) d_M_sums_23 ?_
        refine np_i2l (pc := 24) C (by omega) d_M_sums_24 ?_
        refine np_lmul (pc := 25) C d_M_sums_25 ?_
        refine np_ladd (pc := 26) C d_M_sums_26 ?_
        refine np_lstore_n (pc := 27) C d_M_sums_27 (by decide) rfl ?_
        refine np_iinc (pc := 28) C d_M_sums_28 rfl (np_inc1 _) (by decide) rfl ?_
        refine np_goto (pc := 31) (tgt := 4) C d_M_sums_31 rfl ?_
        refine np_at (vs2 := [some (.ref (a 0)), some (.long (lN (np_sl (Y 5) (k + 1)))), none, some (.int (nI (k + 1)))]) rfl ?_
        exact ih (k + 1) (by omega)
  refine np_lconst (pc := 0) (v := 0) C d_M_sums_0 (by decide) ?_
  refine np_lstore_n (pc := 1) C d_M_sums_1 (by decide) rfl ?_
  refine np_iconst (pc := 2) (v := 0) C d_M_sums_2 (by decide) ?_
  refine np_istore_n (pc := 3) C d_M_sums_3 (by decide) rfl ?_
  refine np_at (vs2 := [some (.ref (a 0)), some (.long (lN (np_sl (Y 5) 0))), none, some (.int (nI 0))]) rfl ?_
  exact loop 8 0 rfl
