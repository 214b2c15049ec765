theorem np_inc1 (x : Nat) : nI x + Int32.ofInt 1 = nI (x + 1) := by
  rw [show Int32.ofInt 1 = 1 from by decide]; exact nI_1 x
theorem np_m1 {x : Nat} (h : 0 < x) : nI x + Int32.ofInt (-1) = nI (x - 1) := by
  rw [show Int32.ofInt (-1) = -1 from by decide]; exact sb_m1 h
theorem np_inc6 (x : Nat) : nI x + Int32.ofInt 6 = nI (x + 6) := by
  rw [show Int32.ofInt 6 = nI 6 from by decide]; exact nI_add x 6
set_option maxRecDepth 20000 in
set_option maxHeartbeats 4000000 in
theorem c_P_sum (l : Launch) (D : va_G) {cI : ClassId} {A : Nat → Prop} (t : Nat → Nat) {w : va_W} {x y : Nat} (hx : x < 65537) (hy : y < 65537) : np_C l D cI A t (0, 0) y_P_sum b_P_sum 2 (some .int) [.int (nI x), .int (nI y)] w (some (.int (nI (np_sm x y)))) w := by
  refine np_Ct.of (np_Sc_St _ _) (by decide) (Nat.le_of_ble_eq_true rfl) ?_
  intro p e s m below meth c C
  refine np_at (vs2 := [some (.int (nI x)), some (.int (nI y))]) rfl ?_
  refine np_iload_n (pc := 0) C d_P_sum_0 rfl ?_
  refine np_iload_n (pc := 1) C d_P_sum_1 rfl ?_
  refine np_iadd (pc := 2) C d_P_sum_2 ?_
  refine np_ldc (pc := 3) (v := 65537) C m_32 (by decide) d_P_sum_3 ?_
  refine np_irem (pc := 5) C (by omega) (by omega) (by omega) d_P_sum_5 ?_
  exact np_iret (pc := 6) C d_P_sum_6 (by first | omega | rfl | (repeat' split) <;> omega) (by rfl)
set_option maxRecDepth 20000 in
set_option maxHeartbeats 4000000 in
theorem c_P_difference (l : Launch) (D : va_G) {cI : ClassId} {A : Nat → Prop} (t : Nat → Nat) {w : va_W} {x y : Nat} (hx : x < 65537) (hy : y < 65537) : np_C l D cI A t (0, 0) y_P_difference b_P_difference 2 (some .int) [.int (nI x), .int (nI y)] w (some (.int (nI (np_df x y)))) w := by
  refine np_Ct.of (np_Sc_St _ _) (by decide) (Nat.le_of_ble_eq_true rfl) ?_
  intro p e s m below meth c C
  refine np_at (vs2 := [some (.int (nI x)), some (.int (nI y))]) rfl ?_
  refine np_iload_n (pc := 0) C d_P_difference_0 rfl ?_
  refine np_iload_n (pc := 1) C d_P_difference_1 rfl ?_
  refine np_isubW (pc := 2) C (by omega) d_P_difference_2 ?_
  refine np_ldc (pc := 3) (v := 65537) C m_32 (by decide) d_P_difference_3 ?_
  refine np_iadd (pc := 5) C d_P_difference_5 ?_
  refine np_top (y := x + 65537 - y) (by rw [show x + 4294967296 - y + 65537 = (x + 65537 - y) + 4294967296 by omega]; exact np_wrap _) ?_
  refine np_ldc (pc := 6) (v := 65537) C m_32 (by decide) d_P_difference_6 ?_
  refine np_irem (pc := 8) C (by omega) (by omega) (by omega) d_P_difference_8 ?_
  exact np_iret (pc := 9) C d_P_difference_9 (by first | omega | rfl | (repeat' split) <;> omega) (by rfl)
set_option maxRecDepth 20000 in
set_option maxHeartbeats 4000000 in
theorem c_P_product (l : Launch) (D : va_G) {cI : ClassId} {A : Nat → Prop} (t : Nat → Nat) {w : va_W} {x y : Nat} (hx : x < 65537) (hy : y < 65537) : np_C l D cI A t (0, 0) y_P_product b_P_product 2 (some .int) [.int (nI x), .int (nI y)] w (some (.int (nI (np_pr x y)))) w := by
  refine np_Ct.of (np_Sc_St _ _) (by decide) (Nat.le_of_ble_eq_true rfl) ?_
  intro p e s m below meth c C
  refine np_at (vs2 := [some (.int (nI x)), some (.int (nI y))]) rfl ?_
  refine np_iload_n (pc := 0) C d_P_product_0 rfl ?_
  refine np_i2l (pc := 1) C (by omega) d_P_product_1 ?_
  refine np_iload_n (pc := 2) C d_P_product_2 rfl ?_
  refine np_i2l (pc := 3) C (by omega) d_P_product_3 ?_
  refine np_lmul (pc := 4) C d_P_product_4 ?_
  refine np_ldc2 (pc := 5) (v := 65537) C m_36 (by decide) d_P_product_5 ?_
  refine np_lrem (pc := 8) C (by have := np_mul_lt hx hy; omega) (by omega) (by omega) d_P_product_8 ?_
  refine np_l2i (pc := 9) C d_P_product_9 ?_
  exact np_iret (pc := 10) C d_P_product_10 (by first | omega | rfl | (repeat' split) <;> omega) (by rfl)
set_option maxRecDepth 20000 in
set_option maxHeartbeats 4000000 in
theorem c_P_secretOf (l : Launch) (D : va_G) {cI : ClassId} {A : Nat → Prop} (t : Nat → Nat) {w : va_W} {x : Nat} : np_C l D cI A t (0, 0) y_P_secretOf b_P_secretOf 1 (some .int) [.int (nI x)] w (some (.int (nI (100 + x)))) w := by
  refine np_Ct.of (np_Sc_St _ _) (by decide) (Nat.le_of_ble_eq_true rfl) ?_
  intro p e s m below meth c C
  refine np_at (vs2 := [some (.int (nI x))]) rfl ?_
  refine np_bipush (pc := 0) (v := 100) C d_P_secretOf_0 (by decide) ?_
  refine np_iload_n (pc := 2) C d_P_secretOf_2 rfl ?_
  refine np_iadd (pc := 3) C d_P_secretOf_3 ?_
  exact np_iret (pc := 4) C d_P_secretOf_4 (by first | omega | rfl | (repeat' split) <;> omega) (by rfl)
set_option maxRecDepth 20000 in
set_option maxHeartbeats 4000000 in
theorem c_P_isNumber (l : Launch) (D : va_G) {cI : ClassId} {A : Nat → Prop} (t : Nat → Nat) {w : va_W} {x : Nat} (hx : x < 4294967296) : np_C l D cI A t (0, 0) y_P_isNumber b_P_isNumber 1 (some .boolean) [.int (nI x)] w (some (.int (nI (if x < 65537 then 1 else 0)))) w := by
  refine np_Ct.of (np_Sc_St _ _) (by decide) (Nat.le_of_ble_eq_true rfl) ?_
  intro p e s m below meth c C
  refine np_at (vs2 := [some (.int (nI x))]) rfl ?_
  refine np_iload_n (pc := 0) C d_P_isNumber_0 rfl ?_
  refine np_if_lt (pc := 1) (tgt := 14) C (by omega) d_P_isNumber_1 rfl (fun h1 => ?_) (fun h1 => ?_)
  · refine np_iconst (pc := 14) (v := 0) C d_P_isNumber_14 (by decide) ?_
    exact np_zret (pc := 15) C d_P_isNumber_15 (by omega) (by split <;> omega) (by rfl)
  · refine np_iload_n (pc := 4) C d_P_isNumber_4 rfl ?_
    refine np_ldc (pc := 5) (v := 65537) C m_32 (by decide) d_P_isNumber_5 ?_
    refine np_icmp_ge (pc := 7) (tgt := 14) C (by omega) (by omega) d_P_isNumber_7 rfl (fun h7 => ?_) (fun h7 => ?_)
    · refine np_iconst (pc := 14) (v := 0) C d_P_isNumber_14 (by decide) ?_
      exact np_zret (pc := 15) C d_P_isNumber_15 (by omega) (by split <;> omega) (by rfl)
    · refine np_iconst (pc := 10) (v := 1) C d_P_isNumber_10 (by decide) ?_
      refine np_goto (pc := 11) (tgt := 15) C d_P_isNumber_11 rfl ?_
      exact np_zret (pc := 15) C d_P_isNumber_15 (by omega) (by split <;> omega) (by rfl)
set_option maxRecDepth 20000 in
set_option maxHeartbeats 4000000 in
theorem c_P_isAccount (l : Launch) (D : va_G) {cI : ClassId} {A : Nat → Prop} (t : Nat → Nat) {w : va_W} {x : Nat} (hx : x < 4294967296) : np_C l D cI A t (0, 0) y_P_isAccount b_P_isAccount 1 (some .boolean) [.int (nI x)] w (some (.int (nI (if x < 4 then 1 else 0)))) w := by
  refine np_Ct.of (np_Sc_St _ _) (by decide) (Nat.le_of_ble_eq_true rfl) ?_
  intro p e s m below meth c C
  refine np_at (vs2 := [some (.int (nI x))]) rfl ?_
  refine np_iload_n (pc := 0) C d_P_isAccount_0 rfl ?_
  refine np_if_lt (pc := 1) (tgt := 13) C (by omega) d_P_isAccount_1 rfl (fun h1 => ?_) (fun h1 => ?_)
  · refine np_iconst (pc := 13) (v := 0) C d_P_isAccount_13 (by decide) ?_
    exact np_zret (pc := 14) C d_P_isAccount_14 (by omega) (by split <;> omega) (by rfl)
  · refine np_iload_n (pc := 4) C d_P_isAccount_4 rfl ?_
    refine np_iconst (pc := 5) (v := 4) C d_P_isAccount_5 (by decide) ?_
    refine np_icmp_ge (pc := 6) (tgt := 13) C (by omega) (by omega) d_P_isAccount_6 rfl (fun h6 => ?_) (fun h6 => ?_)
    · refine np_iconst (pc := 13) (v := 0) C d_P_isAccount_13 (by decide) ?_
      exact np_zret (pc := 14) C d_P_isAccount_14 (by omega) (by split <;> omega) (by rfl)
    · refine np_iconst (pc := 9) (v := 1) C d_P_isAccount_9 (by decide) ?_
      refine np_goto (pc := 10) (tgt := 14) C d_P_isAccount_10 rfl ?_
      exact np_zret (pc := 14) C d_P_isAccount_14 (by omega) (by split <;> omega) (by rfl)
set_option maxRecDepth 20000 in
set_option maxHeartbeats 4000000 in
theorem c_P_isValue (l : Launch) (D : va_G) {cI : ClassId} {A : Nat → Prop} (t : Nat → Nat) {w : va_W} {x : Nat} (hx : x < 4294967296) : np_C l D cI A t (0, 0) y_P_isValue b_P_isValue 1 (some .boolean) [.int (nI x)] w (some (.int (nI (if x < 256 then 1 else 0)))) w := by
  refine np_Ct.of (np_Sc_St _ _) (by decide) (Nat.le_of_ble_eq_true rfl) ?_
  intro p e s m below meth c C
  refine np_at (vs2 := [some (.int (nI x))]) rfl ?_
  refine np_iload_n (pc := 0) C d_P_isValue_0 rfl ?_
  refine np_if_lt (pc := 1) (tgt := 15) C (by omega) d_P_isValue_1 rfl (fun h1 => ?_) (fun h1 => ?_)
  · refine np_iconst (pc := 15) (v := 0) C d_P_isValue_15 (by decide) ?_
    exact np_zret (pc := 16) C d_P_isValue_16 (by omega) (by split <;> omega) (by rfl)
  · refine np_iload_n (pc := 4) C d_P_isValue_4 rfl ?_
    refine np_sipush (pc := 5) (v := 255) C d_P_isValue_5 (by decide) ?_
    refine np_icmp_gt (pc := 8) (tgt := 15) C (by omega) (by omega) d_P_isValue_8 rfl (fun h8 => ?_) (fun h8 => ?_)
    · refine np_iconst (pc := 15) (v := 0) C d_P_isValue_15 (by decide) ?_
      exact np_zret (pc := 16) C d_P_isValue_16 (by omega) (by split <;> omega) (by rfl)
    · refine np_iconst (pc := 11) (v := 1) C d_P_isValue_11 (by decide) ?_
      refine np_goto (pc := 12) (tgt := 16) C d_P_isValue_12 rfl ?_
      exact np_zret (pc := 16) C d_P_isValue_16 (by omega) (by split <;> omega) (by rfl)
set_option maxRecDepth 20000 in
set_option maxHeartbeats 4000000 in
theorem c_S_isCell (l : Launch) (D : va_G) {cI : ClassId} {A : Nat → Prop} (t : Nat → Nat) {w : va_W} {x : Nat} (hx : x < 4294967296) : np_C l D cI A t (0, 0) y_S_isCell b_S_isCell 1 (some .boolean) [.int (nI x)] w (some (.int (nI (if x < 125 then 1 else 0)))) w := by
  refine np_Ct.of (np_Sc_St _ _) (by decide) (Nat.le_of_ble_eq_true rfl) ?_
  intro p e s m below meth c C
  refine np_at (vs2 := [some (.int (nI x))]) rfl ?_
  refine np_iload_n (pc := 0) C d_S_isCell_0 rfl ?_
  refine np_if_lt (pc := 1) (tgt := 14) C (by omega) d_S_isCell_1 rfl (fun h1 => ?_) (fun h1 => ?_)
  · refine np_iconst (pc := 14) (v := 0) C d_S_isCell_14 (by decide) ?_
    exact np_zret (pc := 15) C d_S_isCell_15 (by omega) (by split <;> omega) (by rfl)
  · refine np_iload_n (pc := 4) C d_S_isCell_4 rfl ?_
    refine np_bipush (pc := 5) (v := 125) C d_S_isCell_5 (by decide) ?_
    refine np_icmp_ge (pc := 7) (tgt := 14) C (by omega) (by omega) d_S_isCell_7 rfl (fun h7 => ?_) (fun h7 => ?_)
    · refine np_iconst (pc := 14) (v := 0) C d_S_isCell_14 (by decide) ?_
      exact np_zret (pc := 15) C d_S_isCell_15 (by omega) (by split <;> omega) (by rfl)
    · refine np_iconst (pc := 10) (v := 1) C d_S_isCell_10 (by decide) ?_
      refine np_goto (pc := 11) (tgt := 15) C d_S_isCell_11 rfl ?_
      exact np_zret (pc := 15) C d_S_isCell_15 (by omega) (by split <;> omega) (by rfl)
set_option maxRecDepth 20000 in
set_option maxHeartbeats 4000000 in
theorem c_P_hashOf (l : Launch) (D : va_G) {cI : ClassId} {A : Nat → Prop} (t : Nat → Nat) {w : va_W} {x y : Nat} (hx : x < 65537) (hy : y < 65537) : np_C l D cI A t (1, 21) y_P_hashOf b_P_hashOf 5 (some .int) [.int (nI x), .int (nI y)] w (some (.int (nI (np_hh x y)))) w := by
  refine np_Ct.of (np_Sc_St _ _) (by decide) (Nat.le_of_ble_eq_true rfl) ?_
  intro p e s m below meth c C
  refine np_at (vs2 := [some (.int (nI x)), some (.int (nI y)), none, none, none]) rfl ?_
  refine np_iload_n (pc := 0) C d_P_hashOf_0 rfl ?_
  refine np_istore_n (pc := 1) C d_P_hashOf_1 (by decide) rfl ?_
  refine np_iconst (pc := 2) (v := 0) C d_P_hashOf_2 (by decide) ?_
  refine np_istore_n (pc := 3) C d_P_hashOf_3 (by decide) rfl ?_
  refine np_at (vs2 := [some (.int (nI x)), some (.int (nI y)), some (.int (nI (np_hr x y 0))), some (.int (nI 0)), none]) rfl ?_
  have loop : ∀ (n i : Nat) (z : Option Value), i + n = 4 → np_V p l e (np_rm (1, 21)) s m ([.int (nI x), .int (nI y)] : List Value).toArray below meth c 0 0 D np_cls A (MQ below (np_Qc D np_cls A (some (.int (nI (np_hh x y)))) w) ([.int (nI x), .int (nI y)] : List Value).toArray s 0 0 A) 5 w 4 [some (.int (nI x)), some (.int (nI y)), some (.int (nI (np_hr x y i))), some (.int (nI i)), z] [] := by
    intro n
    induction n with
    | zero =>
      intro i z hi
      obtain rfl : i = 4 := by omega
      refine np_iload_n (pc := 4) C d_P_hashOf_4 rfl ?_
      refine np_gets (pc := 5) C C.2.2.1.2.1.1 m_27 rfl d_P_hashOf_5 ?_
      refine np_tlen (pc := 8) C C.2.2.1.2.1.2 d_P_hashOf_8 ?_
      refine np_icmp_ge (pc := 9) (tgt := 46) C (by omega) (by omega) d_P_hashOf_9 rfl (fun h9 => ?_) (fun h9 => ?_)
      · refine np_iload_n (pc := 46) C d_P_hashOf_46 rfl ?_
        refine np_iload_n (pc := 47) C d_P_hashOf_47 rfl ?_
        refine np_cSi (pc := 48) C (c_P_sum l D t (np_hr_lt hx _) hx) np_TS_good d_P_hashOf_48 m_31 m_29 m_1 m_30 hd_P_sum (by decide) rfl rfl (Nat.le_of_ble_eq_true rfl) ?_
        refine np_iload_n (pc := 51) C d_P_hashOf_51 rfl ?_
        refine np_cSi (pc := 52) C (c_P_sum l D t (np_sm_lt _ _) hy) np_TS_good d_P_hashOf_52 m_31 m_29 m_1 m_30 hd_P_sum (by decide) rfl rfl (Nat.le_of_ble_eq_true rfl) ?_
        exact np_iret (pc := 55) C d_P_hashOf_55 (by first | omega | rfl | (repeat' split) <;> omega) (by rfl)
      · exfalso; omega
    | succ n ih =>
      intro i z hi
      refine np_iload_n (pc := 4) C d_P_hashOf_4 rfl ?_
      refine np_gets (pc := 5) C C.2.2.1.2.1.1 m_27 rfl d_P_hashOf_5 ?_
      refine np_tlen (pc := 8) C C.2.2.1.2.1.2 d_P_hashOf_8 ?_
      refine np_icmp_ge (pc := 9) (tgt := 46) C (by omega) (by omega) d_P_hashOf_9 rfl (fun h9 => ?_) (fun h9 => ?_)
      · exfalso; omega
      · refine np_iload_n (pc := 12) C d_P_hashOf_12 rfl ?_
        refine np_iload_n (pc := 13) C d_P_hashOf_13 rfl ?_
        refine np_cSi (pc := 14) C (c_P_sum l D t (np_hr_lt hx _) hy) np_TS_good d_P_hashOf_14 m_31 m_29 m_1 m_30 hd_P_sum (by decide) rfl rfl (Nat.le_of_ble_eq_true rfl) ?_
        refine np_gets (pc := 17) C C.2.2.1.2.1.1 m_27 rfl d_P_hashOf_17 ?_
        refine np_iload_n (pc := 20) C d_P_hashOf_20 rfl ?_
        refine np_tald (pc := 21) C C.2.2.1.2.1.2 (by omega) (by decide) d_P_hashOf_21 ?_
        refine np_cSi (pc := 22) C (c_P_sum l D t (np_sm_lt _ _) (np_sa_lt _)) np_TS_good d_P_hashOf_22 m_31 m_29 m_1 m_30 hd_P_sum (by decide) rfl rfl (Nat.le_of_ble_eq_true rfl) ?_
        refine np_istore (pc := 25) C d_P_hashOf_25 (by decide) rfl ?_
        refine np_iload (pc := 27) C d_P_hashOf_27 rfl ?_
        refine np_iload (pc := 29) C d_P_hashOf_29 rfl ?_
        refine np_cSi (pc := 31) C (c_P_product l D t (np_sm_lt _ _) (np_sm_lt _ _)) np_TS_good d_P_hashOf_31 m_35 m_33 m_1 m_34 hd_P_product (by decide) rfl rfl (Nat.le_of_ble_eq_true rfl) ?_
        refine np_iload (pc := 34) C d_P_hashOf_34 rfl ?_
        refine np_cSi (pc := 36) C (c_P_product l D t (np_pr_lt _ _) (np_sm_lt _ _)) np_TS_good d_P_hashOf_36 m_35 m_33 m_1 m_34 hd_P_product (by decide) rfl rfl (Nat.le_of_ble_eq_true rfl) ?_
        refine np_istore_n (pc := 39) C d_P_hashOf_39 (by decide) rfl ?_
        refine np_iinc (pc := 40) C d_P_hashOf_40 rfl (np_inc1 _) (by decide) rfl ?_
        refine np_goto (pc := 43) (tgt := 4) C d_P_hashOf_43 rfl ?_
        refine np_at (vs2 := [some (.int (nI x)), some (.int (nI y)), some (.int (nI (np_hr x y (i + 1)))), some (.int (nI (i + 1))), _]) rfl ?_
        exact ih (i + 1) _ (by omega)
  exact loop 4 0 none rfl
