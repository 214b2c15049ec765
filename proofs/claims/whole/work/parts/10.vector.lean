def np_bts (g : Nat → Nat) (am : Nat) : Nat → Nat → Nat
  | 0 => g
  | n + 1 => updN (np_bts g am n) (27 + n) (am / 2 ^ n % 2)
def np_tkp (f : Nat → Nat) (k am wd nn : Nat) : Nat → Nat := np_bts (updN (updN (updN (updN f 8 k) 9 am) 4 wd) 10 nn) am 8
def np_tpa (nd : Nat → Nat) (pl : Nat) (f : Nat → Nat) : Nat → Nat → Nat
  | 0 => f
  | n + 1 => updN (updN (np_tpa nd pl f n) (15 + n) (pl / 2 ^ n % 2)) (11 + n) (np_na nd n (if pl / 2 ^ n % 2 = 0 then pl / 2 ^ n + 1 else pl / 2 ^ n - 1))
theorem np_fi_lt {b : Nat} (h : b < 10) : np_fi b < 125 := by
  rcases (show b = 0 ∨ b = 1 ∨ b = 2 ∨ b = 3 ∨ b = 4 ∨ b = 5 ∨ b = 6 ∨ b = 7 ∨ b = 8 ∨ b = 9 by omega) with rfl | rfl | rfl | rfl | rfl | rfl | rfl | rfl | rfl | rfl <;> decide
theorem np_se_lt {b : Nat} (h : b < 10) (h0 : b ≠ 0) : np_se b < 125 := by
  rcases (show b = 1 ∨ b = 2 ∨ b = 3 ∨ b = 4 ∨ b = 5 ∨ b = 6 ∨ b = 7 ∨ b = 8 ∨ b = 9 by omega) with rfl | rfl | rfl | rfl | rfl | rfl | rfl | rfl | rfl <;> decide
theorem np_p8 {k : Nat} (h : k < 8) : 2 ^ k < 256 := Nat.pow_lt_pow_right (show 1 < 2 by decide) h
set_option maxRecDepth 20000 in
set_option maxHeartbeats 4000000 in
theorem c_S_cellOnLevel (l : Launch) (D : va_G) {cI : ClassId} {A : Nat → Prop} (t : Nat → Nat) {w : va_W} {v z : Nat} (hv : v < 4) (hz : z < 11) : np_C l D cI A t (0, 0) y_S_cellOnLevel b_S_cellOnLevel 2 (some .int) [.int (nI v), .int (nI z)] w (some (.int (nI (np_col v z)))) w := by
  refine np_Ct.of (np_Sc_St _ _) (by decide) (Nat.le_of_ble_eq_true rfl) ?_
  intro p e s m below meth c C
  refine np_at (vs2 := [some (.int (nI v)), some (.int (nI z))]) rfl ?_
  refine np_iload_n (pc := 0) C d_S_cellOnLevel_0 rfl ?_
  refine np_if_ne (pc := 1) (tgt := 9) C (by omega) d_S_cellOnLevel_1 rfl (fun h1 => ?_) (fun h1 => ?_)
  · refine np_iload_n (pc := 9) C d_S_cellOnLevel_9 rfl ?_
    refine np_iconst (pc := 10) (v := 1) C d_S_cellOnLevel_10 (by decide) ?_
    refine np_icmp_ne (pc := 11) (tgt := 19) C (by omega) (by omega) d_S_cellOnLevel_11 rfl (fun h11 => ?_) (fun h11 => ?_)
    · refine np_bipush (pc := 19) (v := 35) C d_S_cellOnLevel_19 (by decide) ?_
      refine np_iconst (pc := 21) (v := 3) C d_S_cellOnLevel_21 (by decide) ?_
      refine np_iload_n (pc := 22) C d_S_cellOnLevel_22 rfl ?_
      refine np_iadd (pc := 23) C d_S_cellOnLevel_23 ?_
      refine np_bipush (pc := 24) (v := 9) C d_S_cellOnLevel_24 (by decide) ?_
      refine np_imul (pc := 26) C d_S_cellOnLevel_26 ?_
      refine np_iadd (pc := 27) C d_S_cellOnLevel_27 ?_
      refine np_iload_n (pc := 28) C d_S_cellOnLevel_28 rfl ?_
      refine np_iadd (pc := 29) C d_S_cellOnLevel_29 ?_
      refine np_iconst (pc := 30) (v := 2) C d_S_cellOnLevel_30 (by decide) ?_
      refine np_isub (pc := 31) C (by omega) d_S_cellOnLevel_31 ?_
      exact np_iret (pc := 32) C d_S_cellOnLevel_32 (by unfold np_col; (repeat' split) <;> first | omega | rfl) (by rfl)
    · refine np_bipush (pc := 14) (v := 23) C d_S_cellOnLevel_14 (by decide) ?_
      refine np_iload_n (pc := 16) C d_S_cellOnLevel_16 rfl ?_
      refine np_iadd (pc := 17) C d_S_cellOnLevel_17 ?_
      exact np_iret (pc := 18) C d_S_cellOnLevel_18 (by unfold np_col; (repeat' split) <;> first | omega | rfl) (by rfl)
  · refine np_bipush (pc := 4) (v := 19) C d_S_cellOnLevel_4 (by decide) ?_
    refine np_iload_n (pc := 6) C d_S_cellOnLevel_6 rfl ?_
    refine np_iadd (pc := 7) C d_S_cellOnLevel_7 ?_
    exact np_iret (pc := 8) C d_S_cellOnLevel_8 (by unfold np_col; (repeat' split) <;> first | omega | rfl) (by rfl)
set_option maxRecDepth 20000 in
set_option maxHeartbeats 4000000 in
theorem c_S_cellOf (l : Launch) (D : va_G) {cI : ClassId} {A : Nat → Prop} (t : Nat → Nat) {w : va_W} {c0 : Nat} (hc : c0 < 115) : np_C l D cI A t (1, 21) y_S_cellOf b_S_cellOf 1 (some .int) [.int (nI c0)] w (some (.int (nI (np_cel c0)))) w := by
  refine np_Ct.of (np_Sc_St _ _) (by decide) (Nat.le_of_ble_eq_true rfl) ?_
  intro p e s m below meth c C
  refine np_at (vs2 := [some (.int (nI c0))]) rfl ?_
  refine np_iload_n (pc := 0) C d_S_cellOf_0 rfl ?_
  refine np_iconst (pc := 1) (v := 4) C d_S_cellOf_1 (by decide) ?_
  refine np_icmp_ge (pc := 2) (tgt := 10) C (by omega) (by omega) d_S_cellOf_2 rfl (fun h2 => ?_) (fun h2 => ?_)
  · refine np_iload_n (pc := 10) C d_S_cellOf_10 rfl ?_
    refine np_bipush (pc := 11) (v := 12) C d_S_cellOf_11 (by decide) ?_
    refine np_icmp_ge (pc := 13) (tgt := 23) C (by omega) (by omega) d_S_cellOf_13 rfl (fun h13 => ?_) (fun h13 => ?_)
    · refine np_iload_n (pc := 23) C d_S_cellOf_23 rfl ?_
      refine np_bipush (pc := 24) (v := 12) C d_S_cellOf_24 (by decide) ?_
      refine np_icmp_ne (pc := 26) (tgt := 32) C (by omega) (by omega) d_S_cellOf_26 rfl (fun h26 => ?_) (fun h26 => ?_)
      · refine np_iload_n (pc := 32) C d_S_cellOf_32 rfl ?_
        refine np_bipush (pc := 33) (v := 13) C d_S_cellOf_33 (by decide) ?_
        refine np_icmp_ne (pc := 35) (tgt := 41) C (by omega) (by omega) d_S_cellOf_35 rfl (fun h35 => ?_) (fun h35 => ?_)
        · refine np_iload_n (pc := 41) C d_S_cellOf_41 rfl ?_
          refine np_bipush (pc := 42) (v := 41) C d_S_cellOf_42 (by decide) ?_
          refine np_icmp_ge (pc := 44) (tgt := 55) C (by omega) (by omega) d_S_cellOf_44 rfl (fun h44 => ?_) (fun h44 => ?_)
          · refine np_iload_n (pc := 55) C d_S_cellOf_55 rfl ?_
            refine np_bipush (pc := 56) (v := 85) C d_S_cellOf_56 (by decide) ?_
            refine np_icmp_ge (pc := 58) (tgt := 79) C (by omega) (by omega) d_S_cellOf_58 rfl (fun h58 => ?_) (fun h58 => ?_)
            · refine np_iload_n (pc := 79) C d_S_cellOf_79 rfl ?_
              refine np_bipush (pc := 80) (v := 112) C d_S_cellOf_80 (by decide) ?_
              refine np_icmp_ge (pc := 82) (tgt := 93) C (by omega) (by omega) d_S_cellOf_82 rfl (fun h82 => ?_) (fun h82 => ?_)
              · refine np_iconst (pc := 93) (v := 1) C d_S_cellOf_93 (by decide) ?_
                refine np_iload_n (pc := 94) C d_S_cellOf_94 rfl ?_
                refine np_iadd (pc := 95) C d_S_cellOf_95 ?_
                refine np_bipush (pc := 96) (v := 112) C d_S_cellOf_96 (by decide) ?_
                refine np_isub (pc := 98) C (by omega) d_S_cellOf_98 ?_
                exact np_iret (pc := 99) C d_S_cellOf_99 (by unfold np_cel; (repeat' split) <;> first | omega | rfl) (by rfl)
              · refine np_bipush (pc := 85) (v := 98) C d_S_cellOf_85 (by decide) ?_
                refine np_iload_n (pc := 87) C d_S_cellOf_87 rfl ?_
                refine np_iadd (pc := 88) C d_S_cellOf_88 ?_
                refine np_bipush (pc := 89) (v := 85) C d_S_cellOf_89 (by decide) ?_
                refine np_isub (pc := 91) C (by omega) d_S_cellOf_91 ?_
                exact np_iret (pc := 92) C d_S_cellOf_92 (by unfold np_cel; (repeat' split) <;> first | omega | rfl) (by rfl)
            · refine np_iload_n (pc := 61) C d_S_cellOf_61 rfl ?_
              refine np_bipush (pc := 62) (v := 41) C d_S_cellOf_62 (by decide) ?_
              refine np_isub (pc := 64) C (by omega) d_S_cellOf_64 ?_
              refine np_bipush (pc := 65) (v := 11) C d_S_cellOf_65 (by decide) ?_
              refine np_idiv (pc := 67) C (by omega) (by omega) (by omega) d_S_cellOf_67 ?_
              refine np_iload_n (pc := 68) C d_S_cellOf_68 rfl ?_
              refine np_bipush (pc := 69) (v := 41) C d_S_cellOf_69 (by decide) ?_
              refine np_isub (pc := 71) C (by omega) d_S_cellOf_71 ?_
              refine np_bipush (pc := 72) (v := 11) C d_S_cellOf_72 (by decide) ?_
              refine np_irem (pc := 74) C (by omega) (by omega) (by omega) d_S_cellOf_74 ?_
              refine np_cSi (pc := 75) C (c_S_cellOnLevel l D t (by omega) (by omega)) np_TS_good d_S_cellOf_75 m_170 m_168 m_4 m_169 hd_S_cellOnLevel (by decide) rfl rfl (Nat.le_of_ble_eq_true rfl) ?_
              exact np_iret (pc := 78) C d_S_cellOf_78 (by unfold np_cel; (repeat' split) <;> first | omega | rfl) (by rfl)
          · refine np_bipush (pc := 47) (v := 35) C d_S_cellOf_47 (by decide) ?_
            refine np_iload_n (pc := 49) C d_S_cellOf_49 rfl ?_
            refine np_iadd (pc := 50) C d_S_cellOf_50 ?_
            refine np_bipush (pc := 51) (v := 14) C d_S_cellOf_51 (by decide) ?_
            refine np_isub (pc := 53) C (by omega) d_S_cellOf_53 ?_
            exact np_iret (pc := 54) C d_S_cellOf_54 (by unfold np_cel; (repeat' split) <;> first | omega | rfl) (by rfl)
        · refine np_bipush (pc := 38) (v := 6) C d_S_cellOf_38 (by decide) ?_
          exact np_iret (pc := 40) C d_S_cellOf_40 (by unfold np_cel; (repeat' split) <;> first | omega | rfl) (by rfl)
      · refine np_bipush (pc := 29) (v := 9) C d_S_cellOf_29 (by decide) ?_
        exact np_iret (pc := 31) C d_S_cellOf_31 (by unfold np_cel; (repeat' split) <;> first | omega | rfl) (by rfl)
    · refine np_bipush (pc := 16) (v := 27) C d_S_cellOf_16 (by decide) ?_
      refine np_iload_n (pc := 18) C d_S_cellOf_18 rfl ?_
      refine np_iadd (pc := 19) C d_S_cellOf_19 ?_
      refine np_iconst (pc := 20) (v := 4) C d_S_cellOf_20 (by decide) ?_
      refine np_isub (pc := 21) C (by omega) d_S_cellOf_21 ?_
      exact np_iret (pc := 22) C d_S_cellOf_22 (by unfold np_cel; (repeat' split) <;> first | omega | rfl) (by rfl)
  · refine np_bipush (pc := 5) (v := 15) C d_S_cellOf_5 (by decide) ?_
    refine np_iload_n (pc := 7) C d_S_cellOf_7 rfl ?_
    refine np_iadd (pc := 8) C d_S_cellOf_8 ?_
    exact np_iret (pc := 9) C d_S_cellOf_9 (by unfold np_cel; (repeat' split) <;> first | omega | rfl) (by rfl)
set_option maxRecDepth 20000 in
set_option maxHeartbeats 4000000 in
theorem c_S_resultOf (l : Launch) (D : va_G) {cI : ClassId} (t : Nat → Nat) {a : Nat → Nat} (ha : np_inj a 12) {X : np_X} {b : Nat} (hb : b < 10) : np_C l D cI (np_ad a 12) t (0, 0) y_S_resultOf b_S_resultOf 2 (some .int) [.ref (a 10), .int (nI b)] (np_gw a cI X) (some (.int (nI (np_res (X 11) b)))) (np_gw a cI X) := by
  refine np_Ct.of (np_Sc_St _ _) (by decide) (Nat.le_of_ble_eq_true rfl) ?_
  intro p e s m below meth c C
  refine np_at (vs2 := [some (.ref (a 10)), some (.int (nI b))]) rfl ?_
  refine np_aload_n (pc := 0) C d_S_resultOf_0 rfl ?_
  refine np_get (pc := 1) C 10 0 d_S_resultOf_1 rfl rfl rfl (by decide) hin_S m_69 rfl ?_
  refine np_bipush (pc := 4) (v := 35) C d_S_resultOf_4 (by decide) ?_
  refine np_iload_n (pc := 6) C d_S_resultOf_6 rfl ?_
  refine np_bipush (pc := 7) (v := 9) C d_S_resultOf_7 (by decide) ?_
  refine np_imul (pc := 9) C d_S_resultOf_9 ?_
  refine np_iadd (pc := 10) C d_S_resultOf_10 ?_
  refine np_bipush (pc := 11) (v := 9) C d_S_resultOf_11 (by decide) ?_
  refine np_iadd (pc := 13) C d_S_resultOf_13 ?_
  refine np_iconst (pc := 14) (v := 1) C d_S_resultOf_14 (by decide) ?_
  refine np_isub (pc := 15) C (by omega) d_S_resultOf_15 ?_
  refine np_iald (pc := 16) C 11 d_S_resultOf_16 rfl (by omega) (by decide) ?_
  exact np_iret (pc := 17) C d_S_resultOf_17 (by first | omega | rfl | (repeat' split) <;> omega) (by rfl)
set_option maxRecDepth 20000 in
set_option maxHeartbeats 4000000 in
theorem c_S_dueLeft (l : Launch) (D : va_G) {cI : ClassId} (t : Nat → Nat) {a : Nat → Nat} (ha : np_inj a 12) {X : np_X} {v : Nat} (hv : v < 4) (hc : np_ok (X 11)) : np_C l D cI (np_ad a 12) t (1, 21) y_S_dueLeft b_S_dueLeft 4 (some .int) [.ref (a 10), .int (nI v)] (np_gw a cI X) (some (.int (nI (np_lft (X 11) v)))) (np_gw a cI X) := by
  refine np_Ct.of (np_Sc_St _ _) (by decide) (Nat.le_of_ble_eq_true rfl) ?_
  intro p e s m below meth c C
  refine np_at (vs2 := [some (.ref (a 10)), some (.int (nI v)), none, none]) rfl ?_
  refine np_aload_n (pc := 0) C d_S_dueLeft_0 rfl ?_
  refine np_iconst (pc := 1) (v := 2) C d_S_dueLeft_1 (by decide) ?_
  refine np_iload_n (pc := 2) C d_S_dueLeft_2 rfl ?_
  refine np_iadd (pc := 3) C d_S_dueLeft_3 ?_
  refine np_cVi (pc := 4) C 10 (c_S_resultOf l D t ha (by omega)) np_TS_good d_S_dueLeft_4 rfl rfl m_193 m_190 m_4 m_192 ms_S_resultOf hd_S_resultOf (by decide) rfl rfl (Nat.le_of_ble_eq_true rfl) ?_
  refine np_istore_n (pc := 7) C d_S_dueLeft_7 (by decide) rfl ?_
  refine np_aload_n (pc := 8) C d_S_dueLeft_8 rfl ?_
  refine np_get (pc := 9) C 10 0 d_S_dueLeft_9 rfl rfl rfl (by decide) hin_S m_69 rfl ?_
  refine np_bipush (pc := 12) (v := 11) C d_S_dueLeft_12 (by decide) ?_
  refine np_iload_n (pc := 14) C d_S_dueLeft_14 rfl ?_
  refine np_iadd (pc := 15) C d_S_dueLeft_15 ?_
  refine np_iald (pc := 16) C 11 d_S_dueLeft_16 rfl (by omega) (by decide) ?_
  refine np_iload_n (pc := 17) C d_S_dueLeft_17 rfl ?_
  refine np_cSNi (pc := 18) C (c_P_difference l D t (hc _) (hc _)) np_TS_good d_S_dueLeft_18 m_196 (C.2.2.1.1 _ n_8) m_1 m_195 hd_P_difference (by decide) rfl rfl (Nat.le_of_ble_eq_true rfl) ?_
  refine np_istore_n (pc := 21) C d_S_dueLeft_21 (by decide) rfl ?_
  refine np_iload_n (pc := 22) C d_S_dueLeft_22 rfl ?_
  refine np_aload_n (pc := 23) C d_S_dueLeft_23 rfl ?_
  refine np_get (pc := 24) C 10 0 d_S_dueLeft_24 rfl rfl rfl (by decide) hin_S m_69 rfl ?_
  refine np_bipush (pc := 27) (v := 15) C d_S_dueLeft_27 (by decide) ?_
  refine np_iload_n (pc := 29) C d_S_dueLeft_29 rfl ?_
  refine np_iadd (pc := 30) C d_S_dueLeft_30 ?_
  refine np_iald (pc := 31) C 11 d_S_dueLeft_31 rfl (by omega) (by decide) ?_
  refine np_iload_n (pc := 32) C d_S_dueLeft_32 rfl ?_
  refine np_cSNi (pc := 33) C (c_P_product l D t (hc _) (np_df_lt _ _)) np_TS_good d_S_dueLeft_33 m_35 (C.2.2.1.1 _ n_7) m_1 m_34 hd_P_product (by decide) rfl rfl (Nat.le_of_ble_eq_true rfl) ?_
  refine np_cSNi (pc := 36) C (c_P_sum l D t (hc _) (np_pr_lt _ _)) np_TS_good d_S_dueLeft_36 m_31 (C.2.2.1.1 _ n_5) m_1 m_30 hd_P_sum (by decide) rfl rfl (Nat.le_of_ble_eq_true rfl) ?_
  exact np_iret (pc := 39) C d_S_dueLeft_39 (by first | omega | rfl | (repeat' split) <;> omega) (by rfl)
set_option maxRecDepth 20000 in
set_option maxHeartbeats 4000000 in
theorem c_S_dueRight (l : Launch) (D : va_G) {cI : ClassId} (t : Nat → Nat) {a : Nat → Nat} (ha : np_inj a 12) {X : np_X} {v : Nat} (hv : v < 4) (hc : np_ok (X 11)) : np_C l D cI (np_ad a 12) t (1, 21) y_S_dueRight b_S_dueRight 3 (some .int) [.ref (a 10), .int (nI v)] (np_gw a cI X) (some (.int (nI (np_rgt (X 11) v)))) (np_gw a cI X) := by
  refine np_Ct.of (np_Sc_St _ _) (by decide) (Nat.le_of_ble_eq_true rfl) ?_
  intro p e s m below meth c C
  refine np_at (vs2 := [some (.ref (a 10)), some (.int (nI v)), none]) rfl ?_
  refine np_aload_n (pc := 0) C d_S_dueRight_0 rfl ?_
  refine np_iconst (pc := 1) (v := 2) C d_S_dueRight_1 (by decide) ?_
  refine np_iload_n (pc := 2) C d_S_dueRight_2 rfl ?_
  refine np_iadd (pc := 3) C d_S_dueRight_3 ?_
  refine np_cVi (pc := 4) C 10 (c_S_resultOf l D t ha (by omega)) np_TS_good d_S_dueRight_4 rfl rfl m_193 m_190 m_4 m_192 ms_S_resultOf hd_S_resultOf (by decide) rfl rfl (Nat.le_of_ble_eq_true rfl) ?_
  refine np_aload_n (pc := 7) C d_S_dueRight_7 rfl ?_
  refine np_get (pc := 8) C 10 0 d_S_dueRight_8 rfl rfl rfl (by decide) hin_S m_69 rfl ?_
  refine np_bipush (pc := 11) (v := 11) C d_S_dueRight_11 (by decide) ?_
  refine np_iload_n (pc := 13) C d_S_dueRight_13 rfl ?_
  refine np_iadd (pc := 14) C d_S_dueRight_14 ?_
  refine np_iald (pc := 15) C 11 d_S_dueRight_15 rfl (by omega) (by decide) ?_
  refine np_cSNi (pc := 16) C (c_P_sum l D t (hc _) (hc _)) np_TS_good d_S_dueRight_16 m_31 (C.2.2.1.1 _ n_5) m_1 m_30 hd_P_sum (by decide) rfl rfl (Nat.le_of_ble_eq_true rfl) ?_
  refine np_istore_n (pc := 19) C d_S_dueRight_19 (by decide) rfl ?_
  refine np_iload_n (pc := 20) C d_S_dueRight_20 rfl ?_
  refine np_aload_n (pc := 21) C d_S_dueRight_21 rfl ?_
  refine np_get (pc := 22) C 10 0 d_S_dueRight_22 rfl rfl rfl (by decide) hin_S m_69 rfl ?_
  refine np_bipush (pc := 25) (v := 19) C d_S_dueRight_25 (by decide) ?_
  refine np_iload_n (pc := 27) C d_S_dueRight_27 rfl ?_
  refine np_iadd (pc := 28) C d_S_dueRight_28 ?_
  refine np_iald (pc := 29) C 11 d_S_dueRight_29 rfl (by omega) (by decide) ?_
  refine np_cSNi (pc := 30) C (c_P_difference l D t (np_sm_lt _ _) (hc _)) np_TS_good d_S_dueRight_30 m_196 (C.2.2.1.1 _ n_8) m_1 m_195 hd_P_difference (by decide) rfl rfl (Nat.le_of_ble_eq_true rfl) ?_
  exact np_iret (pc := 33) C d_S_dueRight_33 (by first | omega | rfl | (repeat' split) <;> omega) (by rfl)
set_option maxRecDepth 20000 in
set_option maxHeartbeats 4000000 in
theorem c_S_sumOfBits (l : Launch) (D : va_G) {cI : ClassId} (t : Nat → Nat) {a : Nat → Nat} (ha : np_inj a 12) {X : np_X} (hc : np_ok (X 11)) : np_C l D cI (np_ad a 12) t (1, 21) y_S_sumOfBits b_S_sumOfBits 3 (some .int) [.ref (a 10)] (np_gw a cI X) (some (.int (nI (np_sbt (X 11) 8)))) (np_gw a cI X) := by
  refine np_Ct.of (np_Sc_St _ _) (by decide) (Nat.le_of_ble_eq_true rfl) ?_
  intro p e s m below meth c C
  refine np_at (vs2 := [some (.ref (a 10)), none, none]) rfl ?_
  have loop : ∀ (n k : Nat), k + n = 8 → np_V p l e (np_rm (1, 21)) s m ([.ref (a 10)] : List Value).toArray below meth c 0 0 D np_cls (np_ad a 12) (MQ below (np_Qc D np_cls (np_ad a 12) (some (.int (nI (np_sbt (X 11) 8)))) (np_gw a cI X)) ([.ref (a 10)] : List Value).toArray s 0 0 (np_ad a 12)) 3 (np_gw a cI X) 4 [some (.ref (a 10)), some (.int (nI (np_sbt (X 11) k))), some (.int (nI k))] [] := by
    intro n
    induction n with
    | zero =>
      intro k hk
      obtain rfl : k = 8 := by omega
      refine np_iload_n (pc := 4) C d_S_sumOfBits_4 rfl ?_
      refine np_bipush (pc := 5) (v := 8) C d_S_sumOfBits_5 (by decide) ?_
      refine np_icmp_ge (pc := 7) (tgt := 36) C (by omega) (by omega) d_S_sumOfBits_7 rfl (fun h7 => ?_) (fun h7 => ?_)
      · refine np_iload_n (pc := 36) C d_S_sumOfBits_36 rfl ?_
        exact np_iret (pc := 37) C d_S_sumOfBits_37 (by first | omega | rfl | (repeat' split) <;> omega) (by rfl)
      · exfalso; omega
    | succ n ih =>
      intro k hk
      have hp := np_p8 (show k < 8 by omega)
      refine np_iload_n (pc := 4) C d_S_sumOfBits_4 rfl ?_
      refine np_bipush (pc := 5) (v := 8) C d_S_sumOfBits_5 (by decide) ?_
      refine np_icmp_ge (pc := 7) (tgt := 36) C (by omega) (by omega) d_S_sumOfBits_7 rfl (fun h7 => ?_) (fun h7 => ?_)
      · exfalso; omega
      · refine np_iload_n (pc := 10) C d_S_sumOfBits_10 rfl ?_
        refine np_iconst (pc := 11) (v := 1) C d_S_sumOfBits_11 (by decide) ?_
        refine np_iload_n (pc := 12) C d_S_sumOfBits_12 rfl ?_
        refine np_ishl (pc := 13) C (by omega) (by omega) d_S_sumOfBits_13 ?_
        refine np_aload_n (pc := 14) C d_S_sumOfBits_14 rfl ?_
        refine np_get (pc := 15) C 10 0 d_S_sumOfBits_15 rfl rfl rfl (by decide) hin_S m_69 rfl ?_
        refine np_bipush (pc := 18) (v := 27) C d_S_sumOfBits_18 (by decide) ?_
        refine np_iload_n (pc := 20) C d_S_sumOfBits_20 rfl ?_
        refine np_iadd (pc := 21) C d_S_sumOfBits_21 ?_
        refine np_iald (pc := 22) C 11 d_S_sumOfBits_22 rfl (by omega) (by decide) ?_
        refine np_cSNi (pc := 23) C (c_P_product l D t (show 1 * 2 ^ k < 65537 by omega) (hc _)) np_TS_good d_S_sumOfBits_23 m_35 (C.2.2.1.1 _ n_7) m_1 m_34 hd_P_product (by decide) rfl rfl (Nat.le_of_ble_eq_true rfl) ?_
        refine np_cSNi (pc := 26) C (c_P_sum l D t (np_sbt_lt _ _) (np_pr_lt _ _)) np_TS_good d_S_sumOfBits_26 m_31 (C.2.2.1.1 _ n_5) m_1 m_30 hd_P_sum (by decide) rfl rfl (Nat.le_of_ble_eq_true rfl) ?_
        refine np_istore_n (pc := 29) C d_S_sumOfBits_29 (by decide) rfl ?_
        refine np_iinc (pc := 30) C d_S_sumOfBits_30 rfl (np_inc1 _) (by decide) rfl ?_
        refine np_goto (pc := 33) (tgt := 4) C d_S_sumOfBits_33 rfl ?_
        refine np_at (vs2 := [some (.ref (a 10)), some (.int (nI (np_sbt (X 11) (k + 1)))), some (.int (nI (k + 1)))]) rfl ?_
        exact ih (k + 1) (by omega)
  refine np_iconst (pc := 0) (v := 0) C d_S_sumOfBits_0 (by decide) ?_
  refine np_istore_n (pc := 1) C d_S_sumOfBits_1 (by decide) rfl ?_
  refine np_iconst (pc := 2) (v := 0) C d_S_sumOfBits_2 (by decide) ?_
  refine np_istore_n (pc := 3) C d_S_sumOfBits_3 (by decide) rfl ?_
  refine np_at (vs2 := [some (.ref (a 10)), some (.int (nI (np_sbt (X 11) 0))), some (.int (nI 0))]) rfl ?_
  exact loop 8 0 rfl
set_option maxRecDepth 20000 in
set_option maxHeartbeats 4000000 in
theorem c_S_dueInBlock (l : Launch) (D : va_G) {cI : ClassId} (t : Nat → Nat) {a : Nat → Nat} (ha : np_inj a 12) {X : np_X} {b z : Nat} (hb : b < 10) (hz : z < 9) (hc : np_ok (X 11)) : np_C l D cI (np_ad a 12) t (1, 21) y_S_dueInBlock b_S_dueInBlock 9 (some .int) [.ref (a 10), .int (nI b), .int (nI z)] (np_gw a cI X) (some (.int (nI (np_blk (X 11) b z)))) (np_gw a cI X) := by
  refine np_Ct.of (np_Sc_St _ _) (by decide) (Nat.le_of_ble_eq_true rfl) ?_
  intro p e s m below meth c C
  refine np_at (vs2 := [some (.ref (a 10)), some (.int (nI b)), some (.int (nI z)), none, none, none, none, none, none]) rfl ?_
  refine np_bipush (pc := 0) (v := 35) C d_S_dueInBlock_0 (by decide) ?_
  refine np_iload_n (pc := 2) C d_S_dueInBlock_2 rfl ?_
  refine np_bipush (pc := 3) (v := 9) C d_S_dueInBlock_3 (by decide) ?_
  refine np_imul (pc := 5) C d_S_dueInBlock_5 ?_
  refine np_iadd (pc := 6) C d_S_dueInBlock_6 ?_
  refine np_istore_n (pc := 7) C d_S_dueInBlock_7 (by decide) rfl ?_
  refine np_aload_n (pc := 8) C d_S_dueInBlock_8 rfl ?_
  refine np_get (pc := 9) C 10 0 d_S_dueInBlock_9 rfl rfl rfl (by decide) hin_S m_69 rfl ?_
  refine np_gets (pc := 12) C C.2.2.1.2.2.1.1 m_179 rfl d_S_dueInBlock_12 ?_
  refine np_iload_n (pc := 15) C d_S_dueInBlock_15 rfl ?_
  refine np_tald (pc := 16) C C.2.2.1.2.2.1.2 (by omega) (by decide) d_S_dueInBlock_16 ?_
  refine np_iald (pc := 17) C 11 d_S_dueInBlock_17 rfl (by have := np_fi_lt hb; omega) (by decide) ?_
  refine np_istore (pc := 18) C d_S_dueInBlock_18 (by decide) rfl ?_
  refine np_iload_n (pc := 20) C d_S_dueInBlock_20 rfl ?_
  refine np_if_ne (pc := 21) (tgt := 28) C (by omega) d_S_dueInBlock_21 rfl (fun h21 => ?_) (fun h21 => ?_)
  · refine np_aload_n (pc := 28) C d_S_dueInBlock_28 rfl ?_
    refine np_get (pc := 29) C 10 0 d_S_dueInBlock_29 rfl rfl rfl (by decide) hin_S m_69 rfl ?_
    refine np_gets (pc := 32) C C.2.2.1.2.2.2.1 m_181 rfl d_S_dueInBlock_32 ?_
    refine np_iload_n (pc := 35) C d_S_dueInBlock_35 rfl ?_
    refine np_tald (pc := 36) C C.2.2.1.2.2.2.2 (by omega) (by decide) d_S_dueInBlock_36 ?_
    refine np_iald (pc := 37) C 11 d_S_dueInBlock_37 rfl (by have := np_se_lt hb h21; omega) (by decide) ?_
    refine np_istore (pc := 38) C d_S_dueInBlock_38 (by decide) rfl ?_
    refine np_iload_n (pc := 40) C d_S_dueInBlock_40 rfl ?_
    refine np_bipush (pc := 41) (v := 8) C d_S_dueInBlock_41 (by decide) ?_
    refine np_icmp_ne (pc := 43) (tgt := 67) C (by omega) (by omega) d_S_dueInBlock_43 rfl (fun h43 => ?_) (fun h43 => ?_)
    · refine np_iload_n (pc := 67) C d_S_dueInBlock_67 rfl ?_
      refine np_iconst (pc := 68) (v := 2) C d_S_dueInBlock_68 (by decide) ?_
      refine np_idiv (pc := 69) C (by omega) (by omega) (by omega) d_S_dueInBlock_69 ?_
      refine np_istore (pc := 70) C d_S_dueInBlock_70 (by decide) rfl ?_
      refine np_iload (pc := 72) C d_S_dueInBlock_72 rfl ?_
      refine np_if_ne (pc := 74) (tgt := 82) C (by omega) d_S_dueInBlock_74 rfl (fun h74 => ?_) (fun h74 => ?_)
      · refine np_aload_n (pc := 82) C d_S_dueInBlock_82 rfl ?_
        refine np_get (pc := 83) C 10 0 d_S_dueInBlock_83 rfl rfl rfl (by decide) hin_S m_69 rfl ?_
        refine np_iload_n (pc := 86) C d_S_dueInBlock_86 rfl ?_
        refine np_iconst (pc := 87) (v := 2) C d_S_dueInBlock_87 (by decide) ?_
        refine np_iload (pc := 88) C d_S_dueInBlock_88 rfl ?_
        refine np_imul (pc := 90) C d_S_dueInBlock_90 ?_
        refine np_iadd (pc := 91) C d_S_dueInBlock_91 ?_
        refine np_iconst (pc := 92) (v := 1) C d_S_dueInBlock_92 (by decide) ?_
        refine np_isub (pc := 93) C (by omega) d_S_dueInBlock_93 ?_
        refine np_iald (pc := 94) C 11 d_S_dueInBlock_94 rfl (by omega) (by decide) ?_
        refine np_istore (pc := 95) C d_S_dueInBlock_95 (by decide) rfl ?_
        refine np_iload (pc := 97) C d_S_dueInBlock_97 rfl ?_
        refine np_iload (pc := 99) C d_S_dueInBlock_99 rfl ?_
        refine np_cSNi (pc := 101) C (c_P_sum l D t (by first | exact hc _ | decide) (by first | exact hc _ | decide)) np_TS_good d_S_dueInBlock_101 m_31 (C.2.2.1.1 _ n_5) m_1 m_30 hd_P_sum (by decide) rfl rfl (Nat.le_of_ble_eq_true rfl) ?_
        refine np_getsN (pc := 104) C C.2.2.1.2.1.1 (C.2.2.1.1 _ n_6) rfl d_S_dueInBlock_104 ?_
        refine np_iload (pc := 107) C d_S_dueInBlock_107 rfl ?_
        refine np_tald (pc := 109) C C.2.2.1.2.1.2 (by omega) (by decide) d_S_dueInBlock_109 ?_
        refine np_cSNi (pc := 110) C (c_P_sum l D t (np_sm_lt _ _) (np_sa_lt _)) np_TS_good d_S_dueInBlock_110 m_31 (C.2.2.1.1 _ n_5) m_1 m_30 hd_P_sum (by decide) rfl rfl (Nat.le_of_ble_eq_true rfl) ?_
        refine np_istore (pc := 113) C d_S_dueInBlock_113 (by decide) rfl ?_
        refine np_iload_n (pc := 115) C d_S_dueInBlock_115 rfl ?_
        refine np_iconst (pc := 116) (v := 2) C d_S_dueInBlock_116 (by decide) ?_
        refine np_irem (pc := 117) C (by omega) (by omega) (by omega) d_S_dueInBlock_117 ?_
        refine np_if_ne (pc := 118) (tgt := 126) C (by omega) d_S_dueInBlock_118 rfl (fun h118 => ?_) (fun h118 => ?_)
        · refine np_aload_n (pc := 126) C d_S_dueInBlock_126 rfl ?_
          refine np_get (pc := 127) C 10 0 d_S_dueInBlock_127 rfl rfl rfl (by decide) hin_S m_69 rfl ?_
          refine np_iload_n (pc := 130) C d_S_dueInBlock_130 rfl ?_
          refine np_iload_n (pc := 131) C d_S_dueInBlock_131 rfl ?_
          refine np_iadd (pc := 132) C d_S_dueInBlock_132 ?_
          refine np_iconst (pc := 133) (v := 1) C d_S_dueInBlock_133 (by decide) ?_
          refine np_isub (pc := 134) C (by omega) d_S_dueInBlock_134 ?_
          refine np_iald (pc := 135) C 11 d_S_dueInBlock_135 rfl (by omega) (by decide) ?_
          refine np_iload (pc := 136) C d_S_dueInBlock_136 rfl ?_
          refine np_cSNi (pc := 138) C (c_P_product l D t (by first | exact hc _ | exact np_sm_lt _ _) (np_sm_lt _ _)) np_TS_good d_S_dueInBlock_138 m_35 (C.2.2.1.1 _ n_7) m_1 m_34 hd_P_product (by decide) rfl rfl (Nat.le_of_ble_eq_true rfl) ?_
          exact np_iret (pc := 141) C d_S_dueInBlock_141 (by simp only [np_blk, np_bas, np_bef, np_inB, np_inA, h21, h43, h74, h118, if_true, if_false, ne_eq, not_false_eq_true, ↓reduceIte]) (by rfl)
        · refine np_iload (pc := 121) C d_S_dueInBlock_121 rfl ?_
          refine np_goto (pc := 123) (tgt := 136) C d_S_dueInBlock_123 rfl ?_
          refine np_iload (pc := 136) C d_S_dueInBlock_136 rfl ?_
          refine np_cSNi (pc := 138) C (c_P_product l D t (by first | exact hc _ | exact np_sm_lt _ _) (np_sm_lt _ _)) np_TS_good d_S_dueInBlock_138 m_35 (C.2.2.1.1 _ n_7) m_1 m_34 hd_P_product (by decide) rfl rfl (Nat.le_of_ble_eq_true rfl) ?_
          exact np_iret (pc := 141) C d_S_dueInBlock_141 (by simp only [np_blk, np_bas, np_bef, np_inB, np_inA, h21, h43, h74, h118, if_true, if_false, ne_eq, not_false_eq_true, ↓reduceIte]) (by rfl)
      · refine np_iload (pc := 77) C d_S_dueInBlock_77 rfl ?_
        refine np_goto (pc := 79) (tgt := 95) C d_S_dueInBlock_79 rfl ?_
        refine np_istore (pc := 95) C d_S_dueInBlock_95 (by decide) rfl ?_
        refine np_iload (pc := 97) C d_S_dueInBlock_97 rfl ?_
        refine np_iload (pc := 99) C d_S_dueInBlock_99 rfl ?_
        refine np_cSNi (pc := 101) C (c_P_sum l D t (by first | exact hc _ | decide) (by first | exact hc _ | decide)) np_TS_good d_S_dueInBlock_101 m_31 (C.2.2.1.1 _ n_5) m_1 m_30 hd_P_sum (by decide) rfl rfl (Nat.le_of_ble_eq_true rfl) ?_
        refine np_getsN (pc := 104) C C.2.2.1.2.1.1 (C.2.2.1.1 _ n_6) rfl d_S_dueInBlock_104 ?_
        refine np_iload (pc := 107) C d_S_dueInBlock_107 rfl ?_
        refine np_tald (pc := 109) C C.2.2.1.2.1.2 (by omega) (by decide) d_S_dueInBlock_109 ?_
        refine np_cSNi (pc := 110) C (c_P_sum l D t (np_sm_lt _ _) (np_sa_lt _)) np_TS_good d_S_dueInBlock_110 m_31 (C.2.2.1.1 _ n_5) m_1 m_30 hd_P_sum (by decide) rfl rfl (Nat.le_of_ble_eq_true rfl) ?_
        refine np_istore (pc := 113) C d_S_dueInBlock_113 (by decide) rfl ?_
        refine np_iload_n (pc := 115) C d_S_dueInBlock_115 rfl ?_
        refine np_iconst (pc := 116) (v := 2) C d_S_dueInBlock_116 (by decide) ?_
        refine np_irem (pc := 117) C (by omega) (by omega) (by omega) d_S_dueInBlock_117 ?_
        refine np_if_ne (pc := 118) (tgt := 126) C (by omega) d_S_dueInBlock_118 rfl (fun h118 => ?_) (fun h118 => ?_)
        · refine np_aload_n (pc := 126) C d_S_dueInBlock_126 rfl ?_
          refine np_get (pc := 127) C 10 0 d_S_dueInBlock_127 rfl rfl rfl (by decide) hin_S m_69 rfl ?_
          refine np_iload_n (pc := 130) C d_S_dueInBlock_130 rfl ?_
          refine np_iload_n (pc := 131) C d_S_dueInBlock_131 rfl ?_
          refine np_iadd (pc := 132) C d_S_dueInBlock_132 ?_
          refine np_iconst (pc := 133) (v := 1) C d_S_dueInBlock_133 (by decide) ?_
          refine np_isub (pc := 134) C (by omega) d_S_dueInBlock_134 ?_
          refine np_iald (pc := 135) C 11 d_S_dueInBlock_135 rfl (by omega) (by decide) ?_
          refine np_iload (pc := 136) C d_S_dueInBlock_136 rfl ?_
          refine np_cSNi (pc := 138) C (c_P_product l D t (by first | exact hc _ | exact np_sm_lt _ _) (np_sm_lt _ _)) np_TS_good d_S_dueInBlock_138 m_35 (C.2.2.1.1 _ n_7) m_1 m_34 hd_P_product (by decide) rfl rfl (Nat.le_of_ble_eq_true rfl) ?_
          exact np_iret (pc := 141) C d_S_dueInBlock_141 (by simp only [np_blk, np_bas, np_bef, np_inB, np_inA, h21, h43, h74, h118, if_true, if_false, ne_eq, not_false_eq_true, ↓reduceIte]) (by rfl)
        · refine np_iload (pc := 121) C d_S_dueInBlock_121 rfl ?_
          refine np_goto (pc := 123) (tgt := 136) C d_S_dueInBlock_123 rfl ?_
          refine np_iload (pc := 136) C d_S_dueInBlock_136 rfl ?_
          refine np_cSNi (pc := 138) C (c_P_product l D t (by first | exact hc _ | exact np_sm_lt _ _) (np_sm_lt _ _)) np_TS_good d_S_dueInBlock_138 m_35 (C.2.2.1.1 _ n_7) m_1 m_34 hd_P_product (by decide) rfl rfl (Nat.le_of_ble_eq_true rfl) ?_
          exact np_iret (pc := 141) C d_S_dueInBlock_141 (by simp only [np_blk, np_bas, np_bef, np_inB, np_inA, h21, h43, h74, h118, if_true, if_false, ne_eq, not_false_eq_true, ↓reduceIte]) (by rfl)
    · refine np_aload_n (pc := 46) C d_S_dueInBlock_46 rfl ?_
      refine np_get (pc := 47) C 10 0 d_S_dueInBlock_47 rfl rfl rfl (by decide) hin_S m_69 rfl ?_
      refine np_iload_n (pc := 50) C d_S_dueInBlock_50 rfl ?_
      refine np_iload_n (pc := 51) C d_S_dueInBlock_51 rfl ?_
      refine np_iadd (pc := 52) C d_S_dueInBlock_52 ?_
      refine np_iconst (pc := 53) (v := 1) C d_S_dueInBlock_53 (by decide) ?_
      refine np_isub (pc := 54) C (by omega) d_S_dueInBlock_54 ?_
      refine np_iald (pc := 55) C 11 d_S_dueInBlock_55 rfl (by omega) (by decide) ?_
      refine np_iload (pc := 56) C d_S_dueInBlock_56 rfl ?_
      refine np_cSNi (pc := 58) C (c_P_sum l D t (hc _) (hc _)) np_TS_good d_S_dueInBlock_58 m_31 (C.2.2.1.1 _ n_5) m_1 m_30 hd_P_sum (by decide) rfl rfl (Nat.le_of_ble_eq_true rfl) ?_
      refine np_iload (pc := 61) C d_S_dueInBlock_61 rfl ?_
      refine np_cSNi (pc := 63) C (c_P_sum l D t (np_sm_lt _ _) (by first | exact hc _ | decide)) np_TS_good d_S_dueInBlock_63 m_31 (C.2.2.1.1 _ n_5) m_1 m_30 hd_P_sum (by decide) rfl rfl (Nat.le_of_ble_eq_true rfl) ?_
      exact np_iret (pc := 66) C d_S_dueInBlock_66 (by simp only [np_blk, np_bas, np_bef, np_inB, np_inA, h21, h43, if_true, if_false, ne_eq, not_false_eq_true, ↓reduceIte]) (by rfl)
  · refine np_iconst (pc := 24) (v := 0) C d_S_dueInBlock_24 (by decide) ?_
    refine np_goto (pc := 25) (tgt := 38) C d_S_dueInBlock_25 rfl ?_
    refine np_istore (pc := 38) C d_S_dueInBlock_38 (by decide) rfl ?_
    refine np_iload_n (pc := 40) C d_S_dueInBlock_40 rfl ?_
    refine np_bipush (pc := 41) (v := 8) C d_S_dueInBlock_41 (by decide) ?_
    refine np_icmp_ne (pc := 43) (tgt := 67) C (by omega) (by omega) d_S_dueInBlock_43 rfl (fun h43 => ?_) (fun h43 => ?_)
    · refine np_iload_n (pc := 67) C d_S_dueInBlock_67 rfl ?_
      refine np_iconst (pc := 68) (v := 2) C d_S_dueInBlock_68 (by decide) ?_
      refine np_idiv (pc := 69) C (by omega) (by omega) (by omega) d_S_dueInBlock_69 ?_
      refine np_istore (pc := 70) C d_S_dueInBlock_70 (by decide) rfl ?_
      refine np_iload (pc := 72) C d_S_dueInBlock_72 rfl ?_
      refine np_if_ne (pc := 74) (tgt := 82) C (by omega) d_S_dueInBlock_74 rfl (fun h74 => ?_) (fun h74 => ?_)
      · refine np_aload_n (pc := 82) C d_S_dueInBlock_82 rfl ?_
        refine np_get (pc := 83) C 10 0 d_S_dueInBlock_83 rfl rfl rfl (by decide) hin_S m_69 rfl ?_
        refine np_iload_n (pc := 86) C d_S_dueInBlock_86 rfl ?_
        refine np_iconst (pc := 87) (v := 2) C d_S_dueInBlock_87 (by decide) ?_
        refine np_iload (pc := 88) C d_S_dueInBlock_88 rfl ?_
        refine np_imul (pc := 90) C d_S_dueInBlock_90 ?_
        refine np_iadd (pc := 91) C d_S_dueInBlock_91 ?_
        refine np_iconst (pc := 92) (v := 1) C d_S_dueInBlock_92 (by decide) ?_
        refine np_isub (pc := 93) C (by omega) d_S_dueInBlock_93 ?_
        refine np_iald (pc := 94) C 11 d_S_dueInBlock_94 rfl (by omega) (by decide) ?_
        refine np_istore (pc := 95) C d_S_dueInBlock_95 (by decide) rfl ?_
        refine np_iload (pc := 97) C d_S_dueInBlock_97 rfl ?_
        refine np_iload (pc := 99) C d_S_dueInBlock_99 rfl ?_
        refine np_cSNi (pc := 101) C (c_P_sum l D t (by first | exact hc _ | decide) (by first | exact hc _ | decide)) np_TS_good d_S_dueInBlock_101 m_31 (C.2.2.1.1 _ n_5) m_1 m_30 hd_P_sum (by decide) rfl rfl (Nat.le_of_ble_eq_true rfl) ?_
        refine np_getsN (pc := 104) C C.2.2.1.2.1.1 (C.2.2.1.1 _ n_6) rfl d_S_dueInBlock_104 ?_
        refine np_iload (pc := 107) C d_S_dueInBlock_107 rfl ?_
        refine np_tald (pc := 109) C C.2.2.1.2.1.2 (by omega) (by decide) d_S_dueInBlock_109 ?_
        refine np_cSNi (pc := 110) C (c_P_sum l D t (np_sm_lt _ _) (np_sa_lt _)) np_TS_good d_S_dueInBlock_110 m_31 (C.2.2.1.1 _ n_5) m_1 m_30 hd_P_sum (by decide) rfl rfl (Nat.le_of_ble_eq_true rfl) ?_
        refine np_istore (pc := 113) C d_S_dueInBlock_113 (by decide) rfl ?_
        refine np_iload_n (pc := 115) C d_S_dueInBlock_115 rfl ?_
        refine np_iconst (pc := 116) (v := 2) C d_S_dueInBlock_116 (by decide) ?_
        refine np_irem (pc := 117) C (by omega) (by omega) (by omega) d_S_dueInBlock_117 ?_
        refine np_if_ne (pc := 118) (tgt := 126) C (by omega) d_S_dueInBlock_118 rfl (fun h118 => ?_) (fun h118 => ?_)
        · refine np_aload_n (pc := 126) C d_S_dueInBlock_126 rfl ?_
          refine np_get (pc := 127) C 10 0 d_S_dueInBlock_127 rfl rfl rfl (by decide) hin_S m_69 rfl ?_
          refine np_iload_n (pc := 130) C d_S_dueInBlock_130 rfl ?_
          refine np_iload_n (pc := 131) C d_S_dueInBlock_131 rfl ?_
          refine np_iadd (pc := 132) C d_S_dueInBlock_132 ?_
          refine np_iconst (pc := 133) (v := 1) C d_S_dueInBlock_133 (by decide) ?_
          refine np_isub (pc := 134) C (by omega) d_S_dueInBlock_134 ?_
          refine np_iald (pc := 135) C 11 d_S_dueInBlock_135 rfl (by omega) (by decide) ?_
          refine np_iload (pc := 136) C d_S_dueInBlock_136 rfl ?_
          refine np_cSNi (pc := 138) C (c_P_product l D t (by first | exact hc _ | exact np_sm_lt _ _) (np_sm_lt _ _)) np_TS_good d_S_dueInBlock_138 m_35 (C.2.2.1.1 _ n_7) m_1 m_34 hd_P_product (by decide) rfl rfl (Nat.le_of_ble_eq_true rfl) ?_
          exact np_iret (pc := 141) C d_S_dueInBlock_141 (by simp only [np_blk, np_bas, np_bef, np_inB, np_inA, h21, h43, h74, h118, if_true, if_false, ne_eq, not_false_eq_true, ↓reduceIte]) (by rfl)
        · refine np_iload (pc := 121) C d_S_dueInBlock_121 rfl ?_
          refine np_goto (pc := 123) (tgt := 136) C d_S_dueInBlock_123 rfl ?_
          refine np_iload (pc := 136) C d_S_dueInBlock_136 rfl ?_
          refine np_cSNi (pc := 138) C (c_P_product l D t (by first | exact hc _ | exact np_sm_lt _ _) (np_sm_lt _ _)) np_TS_good d_S_dueInBlock_138 m_35 (C.2.2.1.1 _ n_7) m_1 m_34 hd_P_product (by decide) rfl rfl (Nat.le_of_ble_eq_true rfl) ?_
          exact np_iret (pc := 141) C d_S_dueInBlock_141 (by simp only [np_blk, np_bas, np_bef, np_inB, np_inA, h21, h43, h74, h118, if_true, if_false, ne_eq, not_false_eq_true, ↓reduceIte]) (by rfl)
      · refine np_iload (pc := 77) C d_S_dueInBlock_77 rfl ?_
        refine np_goto (pc := 79) (tgt := 95) C d_S_dueInBlock_79 rfl ?_
        refine np_istore (pc := 95) C d_S_dueInBlock_95 (by decide) rfl ?_
        refine np_iload (pc := 97) C d_S_dueInBlock_97 rfl ?_
        refine np_iload (pc := 99) C d_S_dueInBlock_99 rfl ?_
        refine np_cSNi (pc := 101) C (c_P_sum l D t (by first | exact hc _ | decide) (by first | exact hc _ | decide)) np_TS_good d_S_dueInBlock_101 m_31 (C.2.2.1.1 _ n_5) m_1 m_30 hd_P_sum (by decide) rfl rfl (Nat.le_of_ble_eq_true rfl) ?_
        refine np_getsN (pc := 104) C C.2.2.1.2.1.1 (C.2.2.1.1 _ n_6) rfl d_S_dueInBlock_104 ?_
        refine np_iload (pc := 107) C d_S_dueInBlock_107 rfl ?_
        refine np_tald (pc := 109) C C.2.2.1.2.1.2 (by omega) (by decide) d_S_dueInBlock_109 ?_
        refine np_cSNi (pc := 110) C (c_P_sum l D t (np_sm_lt _ _) (np_sa_lt _)) np_TS_good d_S_dueInBlock_110 m_31 (C.2.2.1.1 _ n_5) m_1 m_30 hd_P_sum (by decide) rfl rfl (Nat.le_of_ble_eq_true rfl) ?_
        refine np_istore (pc := 113) C d_S_dueInBlock_113 (by decide) rfl ?_
        refine np_iload_n (pc := 115) C d_S_dueInBlock_115 rfl ?_
        refine np_iconst (pc := 116) (v := 2) C d_S_dueInBlock_116 (by decide) ?_
        refine np_irem (pc := 117) C (by omega) (by omega) (by omega) d_S_dueInBlock_117 ?_
        refine np_if_ne (pc := 118) (tgt := 126) C (by omega) d_S_dueInBlock_118 rfl (fun h118 => ?_) (fun h118 => ?_)
        · refine np_aload_n (pc := 126) C d_S_dueInBlock_126 rfl ?_
          refine np_get (pc := 127) C 10 0 d_S_dueInBlock_127 rfl rfl rfl (by decide) hin_S m_69 rfl ?_
          refine np_iload_n (pc := 130) C d_S_dueInBlock_130 rfl ?_
          refine np_iload_n (pc := 131) C d_S_dueInBlock_131 rfl ?_
          refine np_iadd (pc := 132) C d_S_dueInBlock_132 ?_
          refine np_iconst (pc := 133) (v := 1) C d_S_dueInBlock_133 (by decide) ?_
          refine np_isub (pc := 134) C (by omega) d_S_dueInBlock_134 ?_
          refine np_iald (pc := 135) C 11 d_S_dueInBlock_135 rfl (by omega) (by decide) ?_
          refine np_iload (pc := 136) C d_S_dueInBlock_136 rfl ?_
          refine np_cSNi (pc := 138) C (c_P_product l D t (by first | exact hc _ | exact np_sm_lt _ _) (np_sm_lt _ _)) np_TS_good d_S_dueInBlock_138 m_35 (C.2.2.1.1 _ n_7) m_1 m_34 hd_P_product (by decide) rfl rfl (Nat.le_of_ble_eq_true rfl) ?_
          exact np_iret (pc := 141) C d_S_dueInBlock_141 (by simp only [np_blk, np_bas, np_bef, np_inB, np_inA, h21, h43, h74, h118, if_true, if_false, ne_eq, not_false_eq_true, ↓reduceIte]) (by rfl)
        · refine np_iload (pc := 121) C d_S_dueInBlock_121 rfl ?_
          refine np_goto (pc := 123) (tgt := 136) C d_S_dueInBlock_123 rfl ?_
          refine np_iload (pc := 136) C d_S_dueInBlock_136 rfl ?_
          refine np_cSNi (pc := 138) C (c_P_product l D t (by first | exact hc _ | exact np_sm_lt _ _) (np_sm_lt _ _)) np_TS_good d_S_dueInBlock_138 m_35 (C.2.2.1.1 _ n_7) m_1 m_34 hd_P_product (by decide) rfl rfl (Nat.le_of_ble_eq_true rfl) ?_
          exact np_iret (pc := 141) C d_S_dueInBlock_141 (by simp only [np_blk, np_bas, np_bef, np_inB, np_inA, h21, h43, h74, h118, if_true, if_false, ne_eq, not_false_eq_true, ↓reduceIte]) (by rfl)
    · refine np_aload_n (pc := 46) C d_S_dueInBlock_46 rfl ?_
      refine np_get (pc := 47) C 10 0 d_S_dueInBlock_47 rfl rfl rfl (by decide) hin_S m_69 rfl ?_
      refine np_iload_n (pc := 50) C d_S_dueInBlock_50 rfl ?_
      refine np_iload_n (pc := 51) C d_S_dueInBlock_51 rfl ?_
      refine np_iadd (pc := 52) C d_S_dueInBlock_52 ?_
      refine np_iconst (pc := 53) (v := 1) C d_S_dueInBlock_53 (by decide) ?_
      refine np_isub (pc := 54) C (by omega) d_S_dueInBlock_54 ?_
      refine np_iald (pc := 55) C 11 d_S_dueInBlock_55 rfl (by omega) (by decide) ?_
      refine np_iload (pc := 56) C d_S_dueInBlock_56 rfl ?_
      refine np_cSNi (pc := 58) C (c_P_sum l D t (hc _) (hc _)) np_TS_good d_S_dueInBlock_58 m_31 (C.2.2.1.1 _ n_5) m_1 m_30 hd_P_sum (by decide) rfl rfl (Nat.le_of_ble_eq_true rfl) ?_
      refine np_iload (pc := 61) C d_S_dueInBlock_61 rfl ?_
      refine np_cSNi (pc := 63) C (c_P_sum l D t (np_sm_lt _ _) (by first | exact hc _ | decide)) np_TS_good d_S_dueInBlock_63 m_31 (C.2.2.1.1 _ n_5) m_1 m_30 hd_P_sum (by decide) rfl rfl (Nat.le_of_ble_eq_true rfl) ?_
      exact np_iret (pc := 66) C d_S_dueInBlock_66 (by simp only [np_blk, np_bas, np_bef, np_inB, np_inA, h21, h43, if_true, if_false, ne_eq, not_false_eq_true, ↓reduceIte]) (by rfl)
set_option maxRecDepth 20000 in
set_option maxHeartbeats 4000000 in
theorem c_S_dueIn (l : Launch) (D : va_G) {cI : ClassId} (t : Nat → Nat) {a : Nat → Nat} (ha : np_inj a 12) {X : np_X} {x : Nat} (hx : x < 125) (hc : np_ok (X 11)) : np_C l D cI (np_ad a 12) t (2, 49) y_S_dueIn b_S_dueIn 2 (some .int) [.ref (a 10), .int (nI x)] (np_gw a cI X) (some (.int (nI (np_due (X 11) x)))) (np_gw a cI X) := by
  refine np_Ct.of (np_Sc_St _ _) (by decide) (Nat.le_of_ble_eq_true rfl) ?_
  intro p e s m below meth c C
  refine np_at (vs2 := [some (.ref (a 10)), some (.int (nI x))]) rfl ?_
  refine np_iload_n (pc := 0) C d_S_dueIn_0 rfl ?_
  refine np_bipush (pc := 1) (v := 35) C d_S_dueIn_1 (by decide) ?_
  refine np_icmp_lt (pc := 3) (tgt := 25) C (by omega) (by omega) d_S_dueIn_3 rfl (fun h3 => ?_) (fun h3 => ?_)
  · refine np_iload_n (pc := 25) C d_S_dueIn_25 rfl ?_
    refine np_bipush (pc := 26) (v := 27) C d_S_dueIn_26 (by decide) ?_
    refine np_icmp_lt (pc := 28) (tgt := 47) C (by omega) (by omega) d_S_dueIn_28 rfl (fun h28 => ?_) (fun h28 => ?_)
    · refine np_iload_n (pc := 47) C d_S_dueIn_47 rfl ?_
      refine np_bipush (pc := 48) (v := 23) C d_S_dueIn_48 (by decide) ?_
      refine np_icmp_lt (pc := 50) (tgt := 62) C (by omega) (by omega) d_S_dueIn_50 rfl (fun h50 => ?_) (fun h50 => ?_)
      · refine np_iload_n (pc := 62) C d_S_dueIn_62 rfl ?_
        refine np_bipush (pc := 63) (v := 19) C d_S_dueIn_63 (by decide) ?_
        refine np_icmp_lt (pc := 65) (tgt := 77) C (by omega) (by omega) d_S_dueIn_65 rfl (fun h65 => ?_) (fun h65 => ?_)
        · refine np_iload_n (pc := 77) C d_S_dueIn_77 rfl ?_
          refine np_bipush (pc := 78) (v := 15) C d_S_dueIn_78 (by decide) ?_
          refine np_icmp_lt (pc := 80) (tgt := 99) C (by omega) (by omega) d_S_dueIn_80 rfl (fun h80 => ?_) (fun h80 => ?_)
          · refine np_iload_n (pc := 99) C d_S_dueIn_99 rfl ?_
            rcases (show x = 0 ∨ x = 1 ∨ x = 2 ∨ x = 3 ∨ x = 4 ∨ x = 5 ∨ x = 6 ∨ x = 7 ∨ x = 8 ∨ x = 9 ∨ x = 10 ∨ x = 11 ∨ x = 12 ∨ x = 13 ∨ x = 14 by omega) with rfl | rfl | rfl | rfl | rfl | rfl | rfl | rfl | rfl | rfl | rfl | rfl | rfl | rfl | rfl
            · refine np_tswO (pc := 100) (tgt := 195) C d_S_dueIn_100 (by decide) rfl ?_
              refine np_aload_n (pc := 195) C d_S_dueIn_195 rfl ?_
              refine np_get (pc := 196) C 10 0 d_S_dueIn_196 rfl rfl rfl (by decide) hin_S m_69 rfl ?_
              refine np_iload_n (pc := 199) C d_S_dueIn_199 rfl ?_
              refine np_iald (pc := 200) C 11 d_S_dueIn_200 rfl (by omega) (by decide) ?_
              exact np_iret (pc := 201) C d_S_dueIn_201 (by unfold np_due; (repeat' split) <;> first | omega | rfl) (by rfl)
            · refine np_tswI (pc := 100) (tgt := 174) C d_S_dueIn_100 (by decide) (by decide) (by rfl) rfl ?_
              refine np_aload_n (pc := 174) C d_S_dueIn_174 rfl ?_
              refine np_bipush (pc := 175) (v := 6) C d_S_dueIn_175 (by decide) ?_
              refine np_cVi (pc := 177) C 10 (c_S_resultOf l D t ha (by omega)) np_TS_good d_S_dueIn_177 rfl rfl m_193 m_190 m_4 m_192 ms_S_resultOf hd_S_resultOf (by decide) rfl rfl (Nat.le_of_ble_eq_true rfl) ?_
              exact np_iret (pc := 180) C d_S_dueIn_180 (by unfold np_due; (repeat' split) <;> first | omega | rfl) (by rfl)
            · refine np_tswI (pc := 100) (tgt := 181) C d_S_dueIn_100 (by decide) (by decide) (by rfl) rfl ?_
              refine np_aload_n (pc := 181) C d_S_dueIn_181 rfl ?_
              refine np_bipush (pc := 182) (v := 7) C d_S_dueIn_182 (by decide) ?_
              refine np_cVi (pc := 184) C 10 (c_S_resultOf l D t ha (by omega)) np_TS_good d_S_dueIn_184 rfl rfl m_193 m_190 m_4 m_192 ms_S_resultOf hd_S_resultOf (by decide) rfl rfl (Nat.le_of_ble_eq_true rfl) ?_
              exact np_iret (pc := 187) C d_S_dueIn_187 (by unfold np_due; (repeat' split) <;> first | omega | rfl) (by rfl)
            · refine np_tswI (pc := 100) (tgt := 188) C d_S_dueIn_100 (by decide) (by decide) (by rfl) rfl ?_
              refine np_aload_n (pc := 188) C d_S_dueIn_188 rfl ?_
              refine np_bipush (pc := 189) (v := 9) C d_S_dueIn_189 (by decide) ?_
              refine np_cVi (pc := 191) C 10 (c_S_resultOf l D t ha (by omega)) np_TS_good d_S_dueIn_191 rfl rfl m_193 m_190 m_4 m_192 ms_S_resultOf hd_S_resultOf (by decide) rfl rfl (Nat.le_of_ble_eq_true rfl) ?_
              exact np_iret (pc := 194) C d_S_dueIn_194 (by unfold np_due; (repeat' split) <;> first | omega | rfl) (by rfl)
            · refine np_tswI (pc := 100) (tgt := 195) C d_S_dueIn_100 (by decide) (by decide) (by rfl) rfl ?_
              refine np_aload_n (pc := 195) C d_S_dueIn_195 rfl ?_
              refine np_get (pc := 196) C 10 0 d_S_dueIn_196 rfl rfl rfl (by decide) hin_S m_69 rfl ?_
              refine np_iload_n (pc := 199) C d_S_dueIn_199 rfl ?_
              refine np_iald (pc := 200) C 11 d_S_dueIn_200 rfl (by omega) (by decide) ?_
              exact np_iret (pc := 201) C d_S_dueIn_201 (by unfold np_due; (repeat' split) <;> first | omega | rfl) (by rfl)
            · refine np_tswI (pc := 100) (tgt := 195) C d_S_dueIn_100 (by decide) (by decide) (by rfl) rfl ?_
              refine np_aload_n (pc := 195) C d_S_dueIn_195 rfl ?_
              refine np_get (pc := 196) C 10 0 d_S_dueIn_196 rfl rfl rfl (by decide) hin_S m_69 rfl ?_
              refine np_iload_n (pc := 199) C d_S_dueIn_199 rfl ?_
              refine np_iald (pc := 200) C 11 d_S_dueIn_200 rfl (by omega) (by decide) ?_
              exact np_iret (pc := 201) C d_S_dueIn_201 (by unfold np_due; (repeat' split) <;> first | omega | rfl) (by rfl)
            · refine np_tswI (pc := 100) (tgt := 157) C d_S_dueIn_100 (by decide) (by decide) (by rfl) rfl ?_
              refine np_aload_n (pc := 157) C d_S_dueIn_157 rfl ?_
              refine np_get (pc := 158) C 10 0 d_S_dueIn_158 rfl rfl rfl (by decide) hin_S m_69 rfl ?_
              refine np_bipush (pc := 161) (v := 9) C d_S_dueIn_161 (by decide) ?_
              refine np_iald (pc := 163) C 11 d_S_dueIn_163 rfl (by omega) (by decide) ?_
              refine np_aload_n (pc := 164) C d_S_dueIn_164 rfl ?_
              refine np_get (pc := 165) C 10 0 d_S_dueIn_165 rfl rfl rfl (by decide) hin_S m_69 rfl ?_
              refine np_iconst (pc := 168) (v := 4) C d_S_dueIn_168 (by decide) ?_
              refine np_iald (pc := 169) C 11 d_S_dueIn_169 rfl (by omega) (by decide) ?_
              refine np_cSNi (pc := 170) C (c_P_sum l D t (hc _) (hc _)) np_TS_good d_S_dueIn_170 m_31 (C.2.2.1.1 _ n_5) m_1 m_30 hd_P_sum (by decide) rfl rfl (Nat.le_of_ble_eq_true rfl) ?_
              exact np_iret (pc := 173) C d_S_dueIn_173 (by unfold np_due; (repeat' split) <;> first | omega | rfl) (by rfl)
            · refine np_tswI (pc := 100) (tgt := 195) C d_S_dueIn_100 (by decide) (by decide) (by rfl) rfl ?_
              refine np_aload_n (pc := 195) C d_S_dueIn_195 rfl ?_
              refine np_get (pc := 196) C 10 0 d_S_dueIn_196 rfl rfl rfl (by decide) hin_S m_69 rfl ?_
              refine np_iload_n (pc := 199) C d_S_dueIn_199 rfl ?_
              refine np_iald (pc := 200) C 11 d_S_dueIn_200 rfl (by omega) (by decide) ?_
              exact np_iret (pc := 201) C d_S_dueIn_201 (by unfold np_due; (repeat' split) <;> first | omega | rfl) (by rfl)
            · refine np_tswI (pc := 100) (tgt := 195) C d_S_dueIn_100 (by decide) (by decide) (by rfl) rfl ?_
              refine np_aload_n (pc := 195) C d_S_dueIn_195 rfl ?_
              refine np_get (pc := 196) C 10 0 d_S_dueIn_196 rfl rfl rfl (by decide) hin_S m_69 rfl ?_
              refine np_iload_n (pc := 199) C d_S_dueIn_199 rfl ?_
              refine np_iald (pc := 200) C 11 d_S_dueIn_200 rfl (by omega) (by decide) ?_
              exact np_iret (pc := 201) C d_S_dueIn_201 (by unfold np_due; (repeat' split) <;> first | omega | rfl) (by rfl)
            · refine np_tswI (pc := 100) (tgt := 152) C d_S_dueIn_100 (by decide) (by decide) (by rfl) rfl ?_
              refine np_aload_n (pc := 152) C d_S_dueIn_152 rfl ?_
              refine np_cVi (pc := 153) C 10 (c_S_sumOfBits l D t ha hc) np_TS_good d_S_dueIn_153 rfl rfl m_204 m_201 m_4 m_203 ms_S_sumOfBits hd_S_sumOfBits (by decide) rfl rfl (Nat.le_of_ble_eq_true rfl) ?_
              exact np_iret (pc := 156) C d_S_dueIn_156 (by unfold np_due; (repeat' split) <;> first | omega | rfl) (by rfl)
            · refine np_tswO (pc := 100) (tgt := 195) C d_S_dueIn_100 (by decide) rfl ?_
              refine np_aload_n (pc := 195) C d_S_dueIn_195 rfl ?_
              refine np_get (pc := 196) C 10 0 d_S_dueIn_196 rfl rfl rfl (by decide) hin_S m_69 rfl ?_
              refine np_iload_n (pc := 199) C d_S_dueIn_199 rfl ?_
              refine np_iald (pc := 200) C 11 d_S_dueIn_200 rfl (by omega) (by decide) ?_
              exact np_iret (pc := 201) C d_S_dueIn_201 (by unfold np_due; (repeat' split) <;> first | omega | rfl) (by rfl)
            · refine np_tswO (pc := 100) (tgt := 195) C d_S_dueIn_100 (by decide) rfl ?_
              refine np_aload_n (pc := 195) C d_S_dueIn_195 rfl ?_
              refine np_get (pc := 196) C 10 0 d_S_dueIn_196 rfl rfl rfl (by decide) hin_S m_69 rfl ?_
              refine np_iload_n (pc := 199) C d_S_dueIn_199 rfl ?_
              refine np_iald (pc := 200) C 11 d_S_dueIn_200 rfl (by omega) (by decide) ?_
              exact np_iret (pc := 201) C d_S_dueIn_201 (by unfold np_due; (repeat' split) <;> first | omega | rfl) (by rfl)
            · refine np_tswO (pc := 100) (tgt := 195) C d_S_dueIn_100 (by decide) rfl ?_
              refine np_aload_n (pc := 195) C d_S_dueIn_195 rfl ?_
              refine np_get (pc := 196) C 10 0 d_S_dueIn_196 rfl rfl rfl (by decide) hin_S m_69 rfl ?_
              refine np_iload_n (pc := 199) C d_S_dueIn_199 rfl ?_
              refine np_iald (pc := 200) C 11 d_S_dueIn_200 rfl (by omega) (by decide) ?_
              exact np_iret (pc := 201) C d_S_dueIn_201 (by unfold np_due; (repeat' split) <;> first | omega | rfl) (by rfl)
            · refine np_tswO (pc := 100) (tgt := 195) C d_S_dueIn_100 (by decide) rfl ?_
              refine np_aload_n (pc := 195) C d_S_dueIn_195 rfl ?_
              refine np_get (pc := 196) C 10 0 d_S_dueIn_196 rfl rfl rfl (by decide) hin_S m_69 rfl ?_
              refine np_iload_n (pc := 199) C d_S_dueIn_199 rfl ?_
              refine np_iald (pc := 200) C 11 d_S_dueIn_200 rfl (by omega) (by decide) ?_
              exact np_iret (pc := 201) C d_S_dueIn_201 (by unfold np_due; (repeat' split) <;> first | omega | rfl) (by rfl)
            · refine np_tswO (pc := 100) (tgt := 195) C d_S_dueIn_100 (by decide) rfl ?_
              refine np_aload_n (pc := 195) C d_S_dueIn_195 rfl ?_
              refine np_get (pc := 196) C 10 0 d_S_dueIn_196 rfl rfl rfl (by decide) hin_S m_69 rfl ?_
              refine np_iload_n (pc := 199) C d_S_dueIn_199 rfl ?_
              refine np_iald (pc := 200) C 11 d_S_dueIn_200 rfl (by omega) (by decide) ?_
              exact np_iret (pc := 201) C d_S_dueIn_201 (by unfold np_due; (repeat' split) <;> first | omega | rfl) (by rfl)
          · refine np_aload_n (pc := 83) C d_S_dueIn_83 rfl ?_
            refine np_get (pc := 84) C 10 0 d_S_dueIn_84 rfl rfl rfl (by decide) hin_S m_69 rfl ?_
            refine np_iload_n (pc := 87) C d_S_dueIn_87 rfl ?_
            refine np_iald (pc := 88) C 11 d_S_dueIn_88 rfl (by omega) (by decide) ?_
            refine np_aload_n (pc := 89) C d_S_dueIn_89 rfl ?_
            refine np_get (pc := 90) C 10 0 d_S_dueIn_90 rfl rfl rfl (by decide) hin_S m_69 rfl ?_
            refine np_iload_n (pc := 93) C d_S_dueIn_93 rfl ?_
            refine np_iald (pc := 94) C 11 d_S_dueIn_94 rfl (by omega) (by decide) ?_
            refine np_cSNi (pc := 95) C (c_P_product l D t (hc _) (hc _)) np_TS_good d_S_dueIn_95 m_35 (C.2.2.1.1 _ n_7) m_1 m_34 hd_P_product (by decide) rfl rfl (Nat.le_of_ble_eq_true rfl) ?_
            exact np_iret (pc := 98) C d_S_dueIn_98 (by unfold np_due; (repeat' split) <;> first | omega | rfl) (by rfl)
        · refine np_aload_n (pc := 68) C d_S_dueIn_68 rfl ?_
          refine np_iload_n (pc := 69) C d_S_dueIn_69 rfl ?_
          refine np_bipush (pc := 70) (v := 19) C d_S_dueIn_70 (by decide) ?_
          refine np_isub (pc := 72) C (by omega) d_S_dueIn_72 ?_
          refine np_cVi (pc := 73) C 10 (c_S_dueLeft l D t ha (by omega) hc) np_TS_good d_S_dueIn_73 rfl rfl m_200 m_197 m_4 m_199 ms_S_dueLeft hd_S_dueLeft (by decide) rfl rfl (Nat.le_of_ble_eq_true rfl) ?_
          exact np_iret (pc := 76) C d_S_dueIn_76 (by unfold np_due; (repeat' split) <;> first | omega | rfl) (by rfl)
      · refine np_aload_n (pc := 53) C d_S_dueIn_53 rfl ?_
        refine np_iload_n (pc := 54) C d_S_dueIn_54 rfl ?_
        refine np_bipush (pc := 55) (v := 23) C d_S_dueIn_55 (by decide) ?_
        refine np_isub (pc := 57) C (by omega) d_S_dueIn_57 ?_
        refine np_cVi (pc := 58) C 10 (c_S_dueRight l D t ha (by omega) hc) np_TS_good d_S_dueIn_58 rfl rfl m_189 m_186 m_4 m_188 ms_S_dueRight hd_S_dueRight (by decide) rfl rfl (Nat.le_of_ble_eq_true rfl) ?_
        exact np_iret (pc := 61) C d_S_dueIn_61 (by unfold np_due; (repeat' split) <;> first | omega | rfl) (by rfl)
    · refine np_aload_n (pc := 31) C d_S_dueIn_31 rfl ?_
      refine np_get (pc := 32) C 10 0 d_S_dueIn_32 rfl rfl rfl (by decide) hin_S m_69 rfl ?_
      refine np_iload_n (pc := 35) C d_S_dueIn_35 rfl ?_
      refine np_iald (pc := 36) C 11 d_S_dueIn_36 rfl (by omega) (by decide) ?_
      refine np_aload_n (pc := 37) C d_S_dueIn_37 rfl ?_
      refine np_get (pc := 38) C 10 0 d_S_dueIn_38 rfl rfl rfl (by decide) hin_S m_69 rfl ?_
      refine np_iload_n (pc := 41) C d_S_dueIn_41 rfl ?_
      refine np_iald (pc := 42) C 11 d_S_dueIn_42 rfl (by omega) (by decide) ?_
      refine np_cSNi (pc := 43) C (c_P_product l D t (hc _) (hc _)) np_TS_good d_S_dueIn_43 m_35 (C.2.2.1.1 _ n_7) m_1 m_34 hd_P_product (by decide) rfl rfl (Nat.le_of_ble_eq_true rfl) ?_
      exact np_iret (pc := 46) C d_S_dueIn_46 (by unfold np_due; (repeat' split) <;> first | omega | rfl) (by rfl)
  · refine np_aload_n (pc := 6) C d_S_dueIn_6 rfl ?_
    refine np_iload_n (pc := 7) C d_S_dueIn_7 rfl ?_
    refine np_bipush (pc := 8) (v := 35) C d_S_dueIn_8 (by decide) ?_
    refine np_isub (pc := 10) C (by omega) d_S_dueIn_10 ?_
    refine np_bipush (pc := 11) (v := 9) C d_S_dueIn_11 (by decide) ?_
    refine np_idiv (pc := 13) C (by omega) (by omega) (by omega) d_S_dueIn_13 ?_
    refine np_iload_n (pc := 14) C d_S_dueIn_14 rfl ?_
    refine np_bipush (pc := 15) (v := 35) C d_S_dueIn_15 (by decide) ?_
    refine np_isub (pc := 17) C (by omega) d_S_dueIn_17 ?_
    refine np_bipush (pc := 18) (v := 9) C d_S_dueIn_18 (by decide) ?_
    refine np_irem (pc := 20) C (by omega) (by omega) (by omega) d_S_dueIn_20 ?_
    refine np_cVi (pc := 21) C 10 (c_S_dueInBlock l D t ha (by omega) (by omega) hc) np_TS_good d_S_dueIn_21 rfl rfl m_178 m_175 m_4 m_177 ms_S_dueInBlock hd_S_dueInBlock (by decide) rfl rfl (Nat.le_of_ble_eq_true rfl) ?_
    exact np_iret (pc := 24) C d_S_dueIn_24 (by unfold np_due; (repeat' split) <;> first | omega | rfl) (by rfl)
set_option maxRecDepth 20000 in
set_option maxHeartbeats 4000000 in
theorem c_S_takeNote (l : Launch) (D : va_G) {cI : ClassId} (t : Nat → Nat) {a : Nat → Nat} (ha : np_inj a 12) {X : np_X} {x y z : Nat} : np_C l D cI (np_ad a 12) t (0, 0) y_S_takeNote b_S_takeNote 4 none [.ref (a 10), .int (nI x), .int (nI y), .int (nI z)] (np_gw a cI X) none (np_gw a cI (va_up X 11 (updN (updN (updN (X 11) 5 x) 6 y) 7 z))) := by
  refine np_Ct.of (np_Sc_St _ _) (by decide) (Nat.le_of_ble_eq_true rfl) ?_
  intro p e s m below meth c C
  refine np_at (vs2 := [some (.ref (a 10)), some (.int (nI x)), some (.int (nI y)), some (.int (nI z))]) rfl ?_
  refine np_aload_n (pc := 0) C d_S_takeNote_0 rfl ?_
  refine np_get (pc := 1) C 10 0 d_S_takeNote_1 rfl rfl rfl (by decide) hin_S m_69 rfl ?_
  refine np_iconst (pc := 4) (v := 5) C d_S_takeNote_4 (by decide) ?_
  refine np_iload_n (pc := 5) C d_S_takeNote_5 rfl ?_
  refine np_iastG (pc := 6) C (np_gw a cI) _ 11 11 (np_gD ha _) d_S_takeNote_6 rfl (gs_11 a cI _) (by omega) (by decide) ?_
  refine np_aload_n (pc := 7) C d_S_takeNote_7 rfl ?_
  refine np_get (pc := 8) C 10 0 d_S_takeNote_8 rfl rfl rfl (by decide) hin_S m_69 rfl ?_
  refine np_bipush (pc := 11) (v := 6) C d_S_takeNote_11 (by decide) ?_
  refine np_iload_n (pc := 13) C d_S_takeNote_13 rfl ?_
  refine np_iastG (pc := 14) C (np_gw a cI) _ 11 11 (np_gD ha _) d_S_takeNote_14 rfl (gs_11 a cI _) (by omega) (by decide) ?_
  refine np_aload_n (pc := 15) C d_S_takeNote_15 rfl ?_
  refine np_get (pc := 16) C 10 0 d_S_takeNote_16 rfl rfl rfl (by decide) hin_S m_69 rfl ?_
  refine np_bipush (pc := 19) (v := 7) C d_S_takeNote_19 (by decide) ?_
  refine np_iload_n (pc := 21) C d_S_takeNote_21 rfl ?_
  refine np_iastG (pc := 22) C (np_gw a cI) _ 11 11 (np_gD ha _) d_S_takeNote_22 rfl (gs_11 a cI _) (by omega) (by decide) ?_
  exact np_vret (pc := 23) C d_S_takeNote_23 (by rfl)
set_option maxRecDepth 20000 in
set_option maxHeartbeats 4000000 in
theorem c_S_takePayment (l : Launch) (D : va_G) {cI : ClassId} (t : Nat → Nat) {a : Nat → Nat} (ha : np_inj a 12) {X : np_X} {k am wd nn : Nat} (hm : am < 256) : np_C l D cI (np_ad a 12) t (0, 0) y_S_takePayment b_S_takePayment 6 none [.ref (a 10), .int (nI k), .int (nI am), .int (nI wd), .int (nI nn)] (np_gw a cI X) none (np_gw a cI (va_up X 11 (np_tkp (X 11) k am wd nn))) := by
  refine np_Ct.of (np_Sc_St _ _) (by decide) (Nat.le_of_ble_eq_true rfl) ?_
  intro p e s m below meth c C
  refine np_at (vs2 := [some (.ref (a 10)), some (.int (nI k)), some (.int (nI am)), some (.int (nI wd)), some (.int (nI nn)), none]) rfl ?_
  have loop : ∀ (n i : Nat), i + n = 8 → np_V p l e (np_rm (0, 0)) s m ([.ref (a 10), .int (nI k), .int (nI am), .int (nI wd), .int (nI nn)] : List Value).toArray below meth c 0 0 D np_cls (np_ad a 12) (MQ below (np_Qc D np_cls (np_ad a 12) none (np_gw a cI (va_up X 11 (np_tkp (X 11) k am wd nn)))) ([.ref (a 10), .int (nI k), .int (nI am), .int (nI wd), .int (nI nn)] : List Value).toArray s 0 0 (np_ad a 12)) 6 (np_gw a cI (va_up X 11 (np_bts (updN (updN (updN (updN (X 11) 8 k) 9 am) 4 wd) 10 nn) am i))) 35 [some (.ref (a 10)), some (.int (nI k)), some (.int (nI am)), some (.int (nI wd)), some (.int (nI nn)), some (.int (nI i))] [] := by
    intro n
    induction n with
    | zero =>
      intro i hi
      obtain rfl : i = 8 := by omega
      refine np_iload (pc := 35) C d_S_takePayment_35 rfl ?_
      refine np_bipush (pc := 37) (v := 8) C d_S_takePayment_37 (by decide) ?_
      refine np_icmp_ge (pc := 39) (tgt := 64) C (by omega) (by omega) d_S_takePayment_39 rfl (fun h39 => ?_) (fun h39 => ?_)
      · exact np_vret (pc := 64) C d_S_takePayment_64 (by rfl)
      · exfalso; omega
    | succ n ih =>
      intro i hi
      have hd := Nat.div_le_self am (2 ^ i)
      refine np_iload (pc := 35) C d_S_takePayment_35 rfl ?_
      refine np_bipush (pc := 37) (v := 8) C d_S_takePayment_37 (by decide) ?_
      refine np_icmp_ge (pc := 39) (tgt := 64) C (by omega) (by omega) d_S_takePayment_39 rfl (fun h39 => ?_) (fun h39 => ?_)
      · exfalso; omega
      · refine np_aload_n (pc := 42) C d_S_takePayment_42 rfl ?_
        refine np_get (pc := 43) C 10 0 d_S_takePayment_43 rfl rfl rfl (by decide) hin_S m_69 rfl ?_
        refine np_bipush (pc := 46) (v := 27) C d_S_takePayment_46 (by decide) ?_
        refine np_iload (pc := 48) C d_S_takePayment_48 rfl ?_
        refine np_iadd (pc := 50) C d_S_takePayment_50 ?_
        refine np_iload_n (pc := 51) C d_S_takePayment_51 rfl ?_
        refine np_iload (pc := 52) C d_S_takePayment_52 rfl ?_
        refine np_ishr (pc := 54) C (by omega) (by omega) d_S_takePayment_54 ?_
        refine np_iconst (pc := 55) (v := 1) C d_S_takePayment_55 (by decide) ?_
        refine np_iand1 (pc := 56) C (by omega) d_S_takePayment_56 ?_
        refine np_iastG (pc := 57) C (np_gw a cI) _ 11 11 (np_gD ha _) d_S_takePayment_57 rfl (gs_11 a cI _) (by omega) (by decide) ?_
        refine np_iinc (pc := 58) C d_S_takePayment_58 rfl (np_inc1 _) (by decide) rfl ?_
        refine np_goto (pc := 61) (tgt := 35) C d_S_takePayment_61 rfl ?_
        refine np_at (vs2 := [some (.ref (a 10)), some (.int (nI k)), some (.int (nI am)), some (.int (nI wd)), some (.int (nI nn)), some (.int (nI (i + 1)))]) rfl ?_
        refine np_atw (w2 := (np_gw a cI (va_up X 11 (np_bts (updN (updN (updN (updN (X 11) 8 k) 9 am) 4 wd) 10 nn) am (i + 1))))) rfl ?_
        exact ih (i + 1) (by omega)
  refine np_aload_n (pc := 0) C d_S_takePayment_0 rfl ?_
  refine np_get (pc := 1) C 10 0 d_S_takePayment_1 rfl rfl rfl (by decide) hin_S m_69 rfl ?_
  refine np_bipush (pc := 4) (v := 8) C d_S_takePayment_4 (by decide) ?_
  refine np_iload_n (pc := 6) C d_S_takePayment_6 rfl ?_
  refine np_iastG (pc := 7) C (np_gw a cI) _ 11 11 (np_gD ha _) d_S_takePayment_7 rfl (gs_11 a cI _) (by omega) (by decide) ?_
  refine np_aload_n (pc := 8) C d_S_takePayment_8 rfl ?_
  refine np_get (pc := 9) C 10 0 d_S_takePayment_9 rfl rfl rfl (by decide) hin_S m_69 rfl ?_
  refine np_bipush (pc := 12) (v := 9) C d_S_takePayment_12 (by decide) ?_
  refine np_iload_n (pc := 14) C d_S_takePayment_14 rfl ?_
  refine np_iastG (pc := 15) C (np_gw a cI) _ 11 11 (np_gD ha _) d_S_takePayment_15 rfl (gs_11 a cI _) (by omega) (by decide) ?_
  refine np_aload_n (pc := 16) C d_S_takePayment_16 rfl ?_
  refine np_get (pc := 17) C 10 0 d_S_takePayment_17 rfl rfl rfl (by decide) hin_S m_69 rfl ?_
  refine np_iconst (pc := 20) (v := 4) C d_S_takePayment_20 (by decide) ?_
  refine np_iload_n (pc := 21) C d_S_takePayment_21 rfl ?_
  refine np_iastG (pc := 22) C (np_gw a cI) _ 11 11 (np_gD ha _) d_S_takePayment_22 rfl (gs_11 a cI _) (by omega) (by decide) ?_
  refine np_aload_n (pc := 23) C d_S_takePayment_23 rfl ?_
  refine np_get (pc := 24) C 10 0 d_S_takePayment_24 rfl rfl rfl (by decide) hin_S m_69 rfl ?_
  refine np_bipush (pc := 27) (v := 10) C d_S_takePayment_27 (by decide) ?_
  refine np_iload (pc := 29) C d_S_takePayment_29 rfl ?_
  refine np_iastG (pc := 31) C (np_gw a cI) _ 11 11 (np_gD ha _) d_S_takePayment_31 rfl (gs_11 a cI _) (by omega) (by decide) ?_
  refine np_iconst (pc := 32) (v := 0) C d_S_takePayment_32 (by decide) ?_
  refine np_istore (pc := 33) C d_S_takePayment_33 (by decide) rfl ?_
  refine np_at (vs2 := [some (.ref (a 10)), some (.int (nI k)), some (.int (nI am)), some (.int (nI wd)), some (.int (nI nn)), some (.int (nI 0))]) rfl ?_
  refine np_atw (w2 := (np_gw a cI (va_up X 11 (np_bts (updN (updN (updN (updN (X 11) 8 k) 9 am) 4 wd) 10 nn) am 0)))) rfl ?_
  exact loop 8 0 rfl
set_option maxRecDepth 20000 in
set_option maxHeartbeats 4000000 in
theorem c_S_takePath (l : Launch) (D : va_G) {cI : ClassId} (t : Nat → Nat) {a : Nat → Nat} (ha : np_inj a 12) {X : np_X} {q : Nat} (hq : q < 16) : np_C l D cI (np_ad a 12) t (1, 23) y_S_takePath b_S_takePath 4 none [.ref (a 10), .int (nI q), .ref (a 5)] (np_gw a cI X) none (np_gw a cI (va_up X 11 (np_tpa (X 6) q (X 11) 4))) := by
  refine np_Ct.of (np_Sc_St _ _) (by decide) (Nat.le_of_ble_eq_true rfl) ?_
  intro p e s m below meth c C
  refine np_at (vs2 := [some (.ref (a 10)), some (.int (nI q)), some (.ref (a 5)), none]) rfl ?_
  have loop : ∀ (n i : Nat), i + n = 4 → np_V p l e (np_rm (1, 23)) s m ([.ref (a 10), .int (nI q), .ref (a 5)] : List Value).toArray below meth c 0 0 D np_cls (np_ad a 12) (MQ below (np_Qc D np_cls (np_ad a 12) none (np_gw a cI (va_up X 11 (np_tpa (X 6) q (X 11) 4)))) ([.ref (a 10), .int (nI q), .ref (a 5)] : List Value).toArray s 0 0 (np_ad a 12)) 4 (np_gw a cI (va_up X 11 (np_tpa (X 6) q (X 11) i))) 2 [some (.ref (a 10)), some (.int (nI q)), some (.ref (a 5)), some (.int (nI i))] [] := by
    intro n
    induction n with
    | zero =>
      intro i hi
      obtain rfl : i = 4 := by omega
      refine np_iload_n (pc := 2) C d_S_takePath_2 rfl ?_
      refine np_iconst (pc := 3) (v := 4) C d_S_takePath_3 (by decide) ?_
      refine np_icmp_ge (pc := 4) (tgt := 46) C (by omega) (by omega) d_S_takePath_4 rfl (fun h4 => ?_) (fun h4 => ?_)
      · exact np_vret (pc := 46) C d_S_takePath_46 (by rfl)
      · exfalso; omega
    | succ n ih =>
      intro i hi
      have hd := Nat.div_le_self q (2 ^ i)
      refine np_iload_n (pc := 2) C d_S_takePath_2 rfl ?_
      refine np_iconst (pc := 3) (v := 4) C d_S_takePath_3 (by decide) ?_
      refine np_icmp_ge (pc := 4) (tgt := 46) C (by omega) (by omega) d_S_takePath_4 rfl (fun h4 => ?_) (fun h4 => ?_)
      · exfalso; omega
      · refine np_aload_n (pc := 7) C d_S_takePath_7 rfl ?_
        refine np_get (pc := 8) C 10 0 d_S_takePath_8 rfl rfl rfl (by decide) hin_S m_69 rfl ?_
        refine np_bipush (pc := 11) (v := 15) C d_S_takePath_11 (by decide) ?_
        refine np_iload_n (pc := 13) C d_S_takePath_13 rfl ?_
        refine np_iadd (pc := 14) C d_S_takePath_14 ?_
        refine np_iload_n (pc := 15) C d_S_takePath_15 rfl ?_
        refine np_iload_n (pc := 16) C d_S_takePath_16 rfl ?_
        refine np_ishr (pc := 17) C (by omega) (by omega) d_S_takePath_17 ?_
        refine np_iconst (pc := 18) (v := 1) C d_S_takePath_18 (by decide) ?_
        refine np_iand1 (pc := 19) C (by omega) d_S_takePath_19 ?_
        refine np_iastG (pc := 20) C (np_gw a cI) _ 11 11 (np_gD ha _) d_S_takePath_20 rfl (gs_11 a cI _) (by omega) (by decide) ?_
        refine np_aload_n (pc := 21) C d_S_takePath_21 rfl ?_
        refine np_get (pc := 22) C 10 0 d_S_takePath_22 rfl rfl rfl (by decide) hin_S m_69 rfl ?_
        refine np_bipush (pc := 25) (v := 11) C d_S_takePath_25 (by decide) ?_
        refine np_iload_n (pc := 27) C d_S_takePath_27 rfl ?_
        refine np_iadd (pc := 28) C d_S_takePath_28 ?_
        refine np_aload_n (pc := 29) C d_S_takePath_29 rfl ?_
        refine np_iload_n (pc := 30) C d_S_takePath_30 rfl ?_
        refine np_iload_n (pc := 31) C d_S_takePath_31 rfl ?_
        refine np_iload_n (pc := 32) C d_S_takePath_32 rfl ?_
        refine np_ishr (pc := 33) C (by omega) (by omega) d_S_takePath_33 ?_
        refine np_iconst (pc := 34) (v := 1) C d_S_takePath_34 (by decide) ?_
        refine np_ixor1 (pc := 35) C (by omega) d_S_takePath_35 ?_
        refine np_cVi (pc := 36) C 5 (c_T_nodeAt l D t ha (by omega) (by split <;> omega)) np_TS_good d_S_takePath_36 rfl rfl m_160 m_157 m_2 m_158 m_159 hd_T_nodeAt (by decide) rfl rfl (Nat.le_of_ble_eq_true rfl) ?_
        refine np_iastG (pc := 39) C (np_gw a cI) _ 11 11 (np_gD ha _) d_S_takePath_39 rfl (gs_11 a cI _) (by omega) (by decide) ?_
        refine np_iinc (pc := 40) C d_S_takePath_40 rfl (np_inc1 _) (by decide) rfl ?_
        refine np_goto (pc := 43) (tgt := 2) C d_S_takePath_43 rfl ?_
        refine np_at (vs2 := [some (.ref (a 10)), some (.int (nI q)), some (.ref (a 5)), some (.int (nI (i + 1)))]) rfl ?_
        refine np_atw (w2 := (np_gw a cI (va_up X 11 (np_tpa (X 6) q (X 11) (i + 1))))) rfl ?_
        exact ih (i + 1) (by omega)
  refine np_iconst (pc := 0) (v := 0) C d_S_takePath_0 (by decide) ?_
  refine np_istore_n (pc := 1) C d_S_takePath_1 (by decide) rfl ?_
  refine np_at (vs2 := [some (.ref (a 10)), some (.int (nI q)), some (.ref (a 5)), some (.int (nI 0))]) rfl ?_
  refine np_atw (w2 := (np_gw a cI (va_up X 11 (np_tpa (X 6) q (X 11) 0)))) rfl ?_
  exact loop 4 0 rfl
set_option maxRecDepth 20000 in
set_option maxHeartbeats 4000000 in
theorem c_S_complete (l : Launch) (D : va_G) {cI : ClassId} (t : Nat → Nat) {a : Nat → Nat} (ha : np_inj a 12) {X : np_X} (hc : np_ok (X 11)) : np_C l D cI (np_ad a 12) t (3, 70) y_S_complete b_S_complete 3 none [.ref (a 10)] (np_gw a cI X) none (np_gw a cI (va_up X 11 (np_cpl (X 11) 14 101))) := by
  refine np_Ct.of (np_Sc_St _ _) (by decide) (Nat.le_of_ble_eq_true rfl) ?_
  intro p e s m below meth c C
  refine np_at (vs2 := [some (.ref (a 10)), none, none]) rfl ?_
  have loop : ∀ (n i : Nat) (f : Nat → Nat) (z : Option Value), i + n = 115 → np_okst [some (.ref (a 10)), some (.int (nI i)), z] 2 = true → np_ok f → np_cpl f i n = np_cpl (X 11) 14 101 → np_V p l e (np_rm (3, 70)) s m ([.ref (a 10)] : List Value).toArray below meth c 0 0 D np_cls (np_ad a 12) (MQ below (np_Qc D np_cls (np_ad a 12) none (np_gw a cI (va_up X 11 (np_cpl (X 11) 14 101)))) ([.ref (a 10)] : List Value).toArray s 0 0 (np_ad a 12)) 3 (np_gw a cI (va_up X 11 f)) 3 [some (.ref (a 10)), some (.int (nI i)), z] [] := by
    intro n
    induction n with
    | zero =>
      intro i f z hi hz hf he
      obtain rfl : i = 115 := by omega
      refine np_iload_n (pc := 3) C d_S_complete_3 rfl ?_
      refine np_bipush (pc := 4) (v := 115) C d_S_complete_4 (by decide) ?_
      refine np_icmp_ge (pc := 6) (tgt := 31) C (by omega) (by omega) d_S_complete_6 rfl (fun h6 => ?_) (fun h6 => ?_)
      · exact np_vret (pc := 31) C d_S_complete_31 (by rw [← he]; rfl)
      · exfalso; omega
    | succ n ih =>
      intro i f z hi hz hf he
      have hcl := np_cel_lt (show i < 115 by omega)
      refine np_iload_n (pc := 3) C d_S_complete_3 rfl ?_
      refine np_bipush (pc := 4) (v := 115) C d_S_complete_4 (by decide) ?_
      refine np_icmp_ge (pc := 6) (tgt := 31) C (by omega) (by omega) d_S_complete_6 rfl (fun h6 => ?_) (fun h6 => ?_)
      · exfalso; omega
      · refine np_iload_n (pc := 9) C d_S_complete_9 rfl ?_
        refine np_cSi (pc := 10) C (c_S_cellOf l D t (by omega)) np_TS_good d_S_complete_10 m_167 m_165 m_4 m_166 hd_S_cellOf (by decide) rfl rfl (Nat.le_of_ble_eq_true rfl) ?_
        refine np_istore_n (pc := 13) C d_S_complete_13 (by decide) rfl ?_
        refine np_aload_n (pc := 14) C d_S_complete_14 rfl ?_
        refine np_get (pc := 15) C 10 0 d_S_complete_15 rfl rfl rfl (by decide) hin_S m_69 rfl ?_
        refine np_iload_n (pc := 18) C d_S_complete_18 rfl ?_
        refine np_aload_n (pc := 19) C d_S_complete_19 rfl ?_
        refine np_iload_n (pc := 20) C d_S_complete_20 rfl ?_
        refine np_cVi (pc := 21) C 10 (c_S_dueIn l D t ha hcl hf) np_TS_good d_S_complete_21 rfl rfl m_174 m_171 m_4 m_173 ms_S_dueIn hd_S_dueIn (by decide) rfl rfl (Nat.le_of_ble_eq_true rfl) ?_
        refine np_iastG (pc := 24) C (np_gw a cI) _ 11 11 (np_gD ha _) d_S_complete_24 rfl (gs_11 a cI _) (by omega) (by decide) ?_
        refine np_iinc (pc := 25) C d_S_complete_25 rfl (np_inc1 _) (by decide) rfl ?_
        refine np_goto (pc := 28) (tgt := 3) C d_S_complete_28 rfl ?_
        refine np_at (vs2 := [some (.ref (a 10)), some (.int (nI (i + 1))), some (.int (nI (np_cel i)))]) rfl ?_
        refine np_atw (w2 := (np_gw a cI (va_up X 11 (updN f (np_cel i) (np_due f (np_cel i)))))) rfl ?_
        exact ih (i + 1) _ _ (by omega) rfl (np_ok_upd hf (np_due_lt hf _)) he
  refine np_bipush (pc := 0) (v := 14) C d_S_complete_0 (by decide) ?_
  refine np_istore_n (pc := 2) C d_S_complete_2 (by decide) rfl ?_
  refine np_at (vs2 := [some (.ref (a 10)), some (.int (nI 14)), none]) rfl ?_
  refine np_atw (w2 := (np_gw a cI (va_up X 11 (X 11)))) rfl ?_
  exact loop 101 14 (X 11) none rfl rfl hc rfl
set_option maxRecDepth 20000 in
set_option maxHeartbeats 4000000 in
theorem c_S_firstFault (l : Launch) (D : va_G) {cI : ClassId} (t : Nat → Nat) {a : Nat → Nat} (ha : np_inj a 12) {X : np_X} (hc : np_ok (X 11)) : np_C l D cI (np_ad a 12) t (3, 70) y_S_firstFault b_S_firstFault 3 (some .int) [.ref (a 10)] (np_gw a cI X) (some (.int (nI (np_flt (X 11) 0 115)))) (np_gw a cI X) := by
  refine np_Ct.of (np_Sc_St _ _) (by decide) (Nat.le_of_ble_eq_true rfl) ?_
  intro p e s m below meth c C
  refine np_at (vs2 := [some (.ref (a 10)), none, none]) rfl ?_
  have loop : ∀ (n i : Nat) (z : Option Value), i + n = 115 → np_flt (X 11) i n = np_flt (X 11) 0 115 → np_V p l e (np_rm (3, 70)) s m ([.ref (a 10)] : List Value).toArray below meth c 0 0 D np_cls (np_ad a 12) (MQ below (np_Qc D np_cls (np_ad a 12) (some (.int (nI (np_flt (X 11) 0 115)))) (np_gw a cI X)) ([.ref (a 10)] : List Value).toArray s 0 0 (np_ad a 12)) 3 (np_gw a cI X) 2 [some (.ref (a 10)), some (.int (nI i)), z] [] := by
    intro n
    induction n with
    | zero =>
      intro i z hi he
      obtain rfl : i = 115 := by omega
      refine np_iload_n (pc := 2) C d_S_firstFault_2 rfl ?_
      refine np_bipush (pc := 3) (v := 115) C d_S_firstFault_3 (by decide) ?_
      refine np_icmp_ge (pc := 5) (tgt := 35) C (by omega) (by omega) d_S_firstFault_5 rfl (fun h5 => ?_) (fun h5 => ?_)
      · refine np_iconst (pc := 35) (v := 4294967295) C d_S_firstFault_35 (by decide) ?_
        exact np_iret (pc := 36) C d_S_firstFault_36 (by rw [← he]; rfl) (by rfl)
      · exfalso; omega
    | succ n ih =>
      intro i z hi he
      have hcl := np_cel_lt (show i < 115 by omega)
      have hb1 := hc (np_cel i)
      have hb2 := np_due_lt hc (np_cel i)
      refine np_iload_n (pc := 2) C d_S_firstFault_2 rfl ?_
      refine np_bipush (pc := 3) (v := 115) C d_S_firstFault_3 (by decide) ?_
      refine np_icmp_ge (pc := 5) (tgt := 35) C (by omega) (by omega) d_S_firstFault_5 rfl (fun h5 => ?_) (fun h5 => ?_)
      · exfalso; omega
      · refine np_iload_n (pc := 8) C d_S_firstFault_8 rfl ?_
        refine np_cSi (pc := 9) C (c_S_cellOf l D t (by omega)) np_TS_good d_S_firstFault_9 m_167 m_165 m_4 m_166 hd_S_cellOf (by decide) rfl rfl (Nat.le_of_ble_eq_true rfl) ?_
        refine np_istore_n (pc := 12) C d_S_firstFault_12 (by decide) rfl ?_
        refine np_aload_n (pc := 13) C d_S_firstFault_13 rfl ?_
        refine np_get (pc := 14) C 10 0 d_S_firstFault_14 rfl rfl rfl (by decide) hin_S m_69 rfl ?_
        refine np_iload_n (pc := 17) C d_S_firstFault_17 rfl ?_
        refine np_iald (pc := 18) C 11 d_S_firstFault_18 rfl (by omega) (by decide) ?_
        refine np_aload_n (pc := 19) C d_S_firstFault_19 rfl ?_
        refine np_iload_n (pc := 20) C d_S_firstFault_20 rfl ?_
        refine np_cVi (pc := 21) C 10 (c_S_dueIn l D t ha hcl hc) np_TS_good d_S_firstFault_21 rfl rfl m_174 m_171 m_4 m_173 ms_S_dueIn hd_S_dueIn (by decide) rfl rfl (Nat.le_of_ble_eq_true rfl) ?_
        refine np_icmp_eq (pc := 24) (tgt := 29) C (by omega) (by omega) d_S_firstFault_24 rfl (fun h24 => ?_) (fun h24 => ?_)
        · rw [np_flt, if_pos h24] at he
          refine np_iinc (pc := 29) C d_S_firstFault_29 rfl (np_inc1 _) (by decide) rfl ?_
          refine np_goto (pc := 32) (tgt := 2) C d_S_firstFault_32 rfl ?_
          refine np_at (vs2 := [some (.ref (a 10)), some (.int (nI (i + 1))), some (.int (nI (np_cel i)))]) rfl ?_
          exact ih (i + 1) _ (by omega) he
        · rw [np_flt, if_neg h24] at he
          refine np_iload_n (pc := 27) C d_S_firstFault_27 rfl ?_
          exact np_iret (pc := 28) C d_S_firstFault_28 (by exact he) (by rfl)
  refine np_iconst (pc := 0) (v := 0) C d_S_firstFault_0 (by decide) ?_
  refine np_istore_n (pc := 1) C d_S_firstFault_1 (by decide) rfl ?_
  refine np_at (vs2 := [some (.ref (a 10)), some (.int (nI 0)), none]) rfl ?_
  exact loop 115 0 none rfl rfl
