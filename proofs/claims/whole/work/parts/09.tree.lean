def np_rr (X : np_X) (k : Nat) : Nat := if k < 4 then (if k ≤ X 0 1 then X 7 (X 0 1 - k) else 4294967295) else 4294967295
def np_na (nd : Nat → Nat) (v n : Nat) : Nat := if v ≤ 4 then (if n < 16 / 2 ^ v then nd (16 / 2 ^ v + n) else 4294967295) else 4294967295
theorem np_rr_lt {X : np_X} (h : np_ok (X 7)) (k : Nat) : np_rr X k < 4294967296 := by
  unfold np_rr
  have := h (X 0 1 - k)
  repeat' split
  all_goals omega
theorem np_hs_up {f : Nat → Nat} {x i k : Nat} (h : f i = x) (hi : i < k) : np_hs f x k = true := (np_hs_iff f x k).mpr ⟨i, hi, h⟩
theorem np_hs_no {f : Nat → Nat} {x k : Nat} (h : np_hs f x k = false) (h2 : f k ≠ x) : np_hs f x (k + 1) = false := by
  simp [np_hs, h, h2]
theorem np_idx {p : Nat} (v : Nat) (hp : p < 16) : (16 + p) / 2 ^ (v + 1) < 16 := by
  apply Nat.div_lt_of_lt_mul
  have : 1 ≤ 2 ^ v := Nat.one_le_two_pow
  rw [Nat.pow_succ]
  omega
set_option maxRecDepth 20000 in
set_option maxHeartbeats 4000000 in
theorem c_T_isFull (l : Launch) (D : va_G) {cI : ClassId} (t : Nat → Nat) {a : Nat → Nat} (ha : np_inj a 12) {X : np_X} (h1 : X 0 1 ≤ 16) : np_C l D cI (np_ad a 12) t (0, 0) y_T_isFull b_T_isFull 1 (some .boolean) [.ref (a 5)] (np_gw a cI X) (some (.int (nI (if 16 ≤ X 0 1 then 1 else 0)))) (np_gw a cI X) := by
  refine np_Ct.of (np_Sc_St _ _) (by decide) (Nat.le_of_ble_eq_true rfl) ?_
  intro p e s m below meth c C
  refine np_at (vs2 := [some (.ref (a 5))]) rfl ?_
  refine np_aload_n (pc := 0) C d_T_isFull_0 rfl ?_
  refine np_get (pc := 1) C 5 2 d_T_isFull_1 rfl rfl rfl (by decide) hin_T m_39 rfl ?_
  refine np_bipush (pc := 4) (v := 16) C d_T_isFull_4 (by decide) ?_
  refine np_icmp_lt (pc := 6) (tgt := 13) C (by omega) (by omega) d_T_isFull_6 rfl (fun h6 => ?_) (fun h6 => ?_)
  · refine np_iconst (pc := 13) (v := 0) C d_T_isFull_13 (by decide) ?_
    exact np_zret (pc := 14) C d_T_isFull_14 (by omega) (by first | omega | rfl | (repeat' split) <;> omega) (by rfl)
  · refine np_iconst (pc := 9) (v := 1) C d_T_isFull_9 (by decide) ?_
    refine np_goto (pc := 10) (tgt := 14) C d_T_isFull_10 rfl ?_
    exact np_zret (pc := 14) C d_T_isFull_14 (by omega) (by first | omega | rfl | (repeat' split) <;> omega) (by rfl)
set_option maxRecDepth 20000 in
set_option maxHeartbeats 4000000 in
theorem c_T_hashUp (l : Launch) (D : va_G) {cI : ClassId} (t : Nat → Nat) {a : Nat → Nat} (ha : np_inj a 12) {X : np_X} {i : Nat} (hi : i < 16) (h6 : np_ok (X 6)) : np_C l D cI (np_ad a 12) t (2, 45) y_T_hashUp b_T_hashUp 2 none [.ref (a 5), .int (nI i)] (np_gw a cI X) none (np_gw a cI (va_up X 6 (np_hu (X 6) i))) := by
  refine np_Ct.of (np_Sc_St _ _) (by decide) (Nat.le_of_ble_eq_true rfl) ?_
  intro p e s m below meth c C
  refine np_at (vs2 := [some (.ref (a 5)), some (.int (nI i))]) rfl ?_
  refine np_aload_n (pc := 0) C d_T_hashUp_0 rfl ?_
  refine np_get (pc := 1) C 5 0 d_T_hashUp_1 rfl rfl rfl (by decide) hin_T m_37 rfl ?_
  refine np_iload_n (pc := 4) C d_T_hashUp_4 rfl ?_
  refine np_aload_n (pc := 5) C d_T_hashUp_5 rfl ?_
  refine np_get (pc := 6) C 5 0 d_T_hashUp_6 rfl rfl rfl (by decide) hin_T m_37 rfl ?_
  refine np_iconst (pc := 9) (v := 2) C d_T_hashUp_9 (by decide) ?_
  refine np_iload_n (pc := 10) C d_T_hashUp_10 rfl ?_
  refine np_imul (pc := 11) C d_T_hashUp_11 ?_
  refine np_iald (pc := 12) C 6 d_T_hashUp_12 rfl (by omega) (by decide) ?_
  refine np_aload_n (pc := 13) C d_T_hashUp_13 rfl ?_
  refine np_get (pc := 14) C 5 0 d_T_hashUp_14 rfl rfl rfl (by decide) hin_T m_37 rfl ?_
  refine np_iconst (pc := 17) (v := 2) C d_T_hashUp_17 (by decide) ?_
  refine np_iload_n (pc := 18) C d_T_hashUp_18 rfl ?_
  refine np_imul (pc := 19) C d_T_hashUp_19 ?_
  refine np_iconst (pc := 20) (v := 1) C d_T_hashUp_20 (by decide) ?_
  refine np_iadd (pc := 21) C d_T_hashUp_21 ?_
  refine np_iald (pc := 22) C 6 d_T_hashUp_22 rfl (by omega) (by decide) ?_
  refine np_cSNi (pc := 23) C (c_P_hashOf l D t (h6 _) (h6 _)) np_TS_good d_T_hashUp_23 m_26 (C.2.2.1.1 _ n_0) m_1 m_25 hd_P_hashOf (by decide) rfl rfl (Nat.le_of_ble_eq_true rfl) ?_
  refine np_iastG (pc := 26) C (np_gw a cI) _ 6 6 (np_gD ha _) d_T_hashUp_26 rfl (gs_6 a cI _) (by omega) (by decide) ?_
  exact np_vret (pc := 27) C d_T_hashUp_27 (by rfl)
set_option maxRecDepth 20000 in
set_option maxHeartbeats 4000000 in
theorem c_T_hashUp_t (l : Launch) (D : va_G) {cI : ClassId} {A : Nat → Prop} (t : Nat → Nat) {a : Nat → Nat} (hD : ∀ X, va_D A (np_tw a cI X)) {X : np_X} {i : Nat} (hi : i < 16) (h6 : np_ok (X 6)) : np_C l D cI A t (2, 45) y_T_hashUp b_T_hashUp 2 none [.ref (a 5), .int (nI i)] (np_tw a cI X) none (np_tw a cI (va_up X 6 (np_hu (X 6) i))) := by
  refine np_Ct.of (np_Sc_St _ _) (by decide) (Nat.le_of_ble_eq_true rfl) ?_
  intro p e s m below meth c C
  refine np_at (vs2 := [some (.ref (a 5)), some (.int (nI i))]) rfl ?_
  refine np_aload_n (pc := 0) C d_T_hashUp_0 rfl ?_
  refine np_get (pc := 1) C 0 0 d_T_hashUp_1 rfl rfl rfl (by decide) hin_T m_37 rfl ?_
  refine np_iload_n (pc := 4) C d_T_hashUp_4 rfl ?_
  refine np_aload_n (pc := 5) C d_T_hashUp_5 rfl ?_
  refine np_get (pc := 6) C 0 0 d_T_hashUp_6 rfl rfl rfl (by decide) hin_T m_37 rfl ?_
  refine np_iconst (pc := 9) (v := 2) C d_T_hashUp_9 (by decide) ?_
  refine np_iload_n (pc := 10) C d_T_hashUp_10 rfl ?_
  refine np_imul (pc := 11) C d_T_hashUp_11 ?_
  refine np_iald (pc := 12) C 1 d_T_hashUp_12 rfl (by omega) (by decide) ?_
  refine np_aload_n (pc := 13) C d_T_hashUp_13 rfl ?_
  refine np_get (pc := 14) C 0 0 d_T_hashUp_14 rfl rfl rfl (by decide) hin_T m_37 rfl ?_
  refine np_iconst (pc := 17) (v := 2) C d_T_hashUp_17 (by decide) ?_
  refine np_iload_n (pc := 18) C d_T_hashUp_18 rfl ?_
  refine np_imul (pc := 19) C d_T_hashUp_19 ?_
  refine np_iconst (pc := 20) (v := 1) C d_T_hashUp_20 (by decide) ?_
  refine np_iadd (pc := 21) C d_T_hashUp_21 ?_
  refine np_iald (pc := 22) C 1 d_T_hashUp_22 rfl (by omega) (by decide) ?_
  refine np_cSNi (pc := 23) C (c_P_hashOf l D t (h6 _) (h6 _)) np_TS_good d_T_hashUp_23 m_26 (C.2.2.1.1 _ n_0) m_1 m_25 hd_P_hashOf (by decide) rfl rfl (Nat.le_of_ble_eq_true rfl) ?_
  refine np_iastG (pc := 26) C (np_tw a cI) _ 1 6 (hD _) d_T_hashUp_26 rfl (ts_6 a cI _) (by omega) (by decide) ?_
  exact np_vret (pc := 27) C d_T_hashUp_27 (by rfl)
set_option maxRecDepth 20000 in
set_option maxHeartbeats 4000000 in
theorem c_T_append (l : Launch) (D : va_G) {cI : ClassId} (t : Nat → Nat) {a : Nat → Nat} (ha : np_inj a 12) {X : np_X} {x : Nat} (hl : x < 65537) (hf : X 0 1 < 16) (h6 : np_ok (X 6)) : np_C l D cI (np_ad a 12) t (3, 66) y_T_append b_T_append 4 (some .int) [.ref (a 5), .int (nI x)] (np_gw a cI X) (some (.int (nI (X 0 1)))) (np_gw a cI (np_apd X x)) := by
  refine np_Ct.of (np_Sc_St _ _) (by decide) (Nat.le_of_ble_eq_true rfl) ?_
  intro p e s m below meth c C
  refine np_at (vs2 := [some (.ref (a 5)), some (.int (nI x)), none, none]) rfl ?_
  have loop : ∀ (n v : Nat), v + n = 4 → np_V p l e (np_rm (3, 66)) s m ([.ref (a 5), .int (nI x)] : List Value).toArray below meth c 0 0 D np_cls (np_ad a 12) (MQ below (np_Qc D np_cls (np_ad a 12) (some (.int (nI (X 0 1)))) (np_gw a cI (np_apd X x))) ([.ref (a 5), .int (nI x)] : List Value).toArray s 0 0 (np_ad a 12)) 4 (np_gw a cI (va_up X 6 (np_ups (updN (X 6) (16 + X 0 1) x) (X 0 1) v))) 27 [some (.ref (a 5)), some (.int (nI x)), some (.int (nI (X 0 1))), some (.int (nI (v + 1)))] [] := by
    intro n
    induction n with
    | zero =>
      intro v hv
      obtain rfl : v = 4 := by omega
      refine np_iload_n (pc := 27) C d_T_append_27 rfl ?_
      refine np_iconst (pc := 28) (v := 4) C d_T_append_28 (by decide) ?_
      refine np_icmp_gt (pc := 29) (tgt := 48) C (by omega) (by omega) d_T_append_29 rfl (fun h29 => ?_) (fun h29 => ?_)
      · refine np_aload_n (pc := 48) C d_T_append_48 rfl ?_
        refine np_dup (pc := 49) C rfl d_T_append_49 ?_
        refine np_get (pc := 50) C 5 2 d_T_append_50 rfl rfl rfl (by decide) hin_T m_39 rfl ?_
        refine np_iconst (pc := 53) (v := 1) C d_T_append_53 (by decide) ?_
        refine np_iadd (pc := 54) C d_T_append_54 ?_
        refine np_putG (pc := 55) C (np_gw a cI) _ 5 2 1 (np_gD ha _) d_T_append_55 rfl (gp_5 a cI _) rfl (by decide) hin_T ty_T tyok_T nm_T m_39 rfl rfl rfl (Nat.le_of_ble_eq_true rfl) ?_
        refine np_aload_n (pc := 58) C d_T_append_58 rfl ?_
        refine np_get (pc := 59) C 5 1 d_T_append_59 rfl rfl rfl (by decide) hin_T m_38 rfl ?_
        refine np_aload_n (pc := 62) C d_T_append_62 rfl ?_
        refine np_get (pc := 63) C 5 2 d_T_append_63 rfl rfl rfl (by decide) hin_T m_39 rfl ?_
        refine np_top (y := X 0 1 + 1) rfl ?_
        refine np_aload_n (pc := 66) C d_T_append_66 rfl ?_
        refine np_get (pc := 67) C 5 0 d_T_append_67 rfl rfl rfl (by decide) hin_T m_37 rfl ?_
        refine np_iconst (pc := 70) (v := 1) C d_T_append_70 (by decide) ?_
        refine np_iald (pc := 71) C 6 d_T_append_71 rfl (by omega) (by decide) ?_
        refine np_iastG (pc := 72) C (np_gw a cI) _ 7 7 (np_gD ha _) d_T_append_72 rfl (gs_7 a cI _) (by omega) (by decide) ?_
        refine np_iload_n (pc := 73) C d_T_append_73 rfl ?_
        exact np_iret (pc := 74) C d_T_append_74 (by first | omega | rfl | (repeat' split) <;> omega) (by rfl)
      · exfalso; omega
    | succ n ih =>
      intro v hv
      refine np_iload_n (pc := 27) C d_T_append_27 rfl ?_
      refine np_iconst (pc := 28) (v := 4) C d_T_append_28 (by decide) ?_
      refine np_icmp_gt (pc := 29) (tgt := 48) C (by omega) (by omega) d_T_append_29 rfl (fun h29 => ?_) (fun h29 => ?_)
      · exfalso; omega
      · refine np_aload_n (pc := 32) C d_T_append_32 rfl ?_
        refine np_bipush (pc := 33) (v := 16) C d_T_append_33 (by decide) ?_
        refine np_iload_n (pc := 35) C d_T_append_35 rfl ?_
        refine np_iadd (pc := 36) C d_T_append_36 ?_
        refine np_iload_n (pc := 37) C d_T_append_37 rfl ?_
        refine np_ishr (pc := 38) C (by omega) (by omega) d_T_append_38 ?_
        refine np_cVv (pc := 39) C 5 (c_T_hashUp l D t ha (np_idx v hf) (np_ok_ups (np_ok_upd h6 hl) _ _)) np_TS_good d_T_append_39 rfl rfl m_23 m_20 m_2 m_22 ms_T_hashUp hd_T_hashUp (by decide) rfl rfl (Nat.le_of_ble_eq_true rfl) ?_
        refine np_iinc (pc := 42) C d_T_append_42 rfl (np_inc1 _) (by decide) rfl ?_
        refine np_goto (pc := 45) (tgt := 27) C d_T_append_45 rfl ?_
        refine np_at (vs2 := [some (.ref (a 5)), some (.int (nI x)), some (.int (nI (X 0 1))), some (.int (nI (v + 1 + 1)))]) rfl ?_
        refine np_atw (w2 := np_gw a cI (va_up X 6 (np_ups (updN (X 6) (16 + X 0 1) x) (X 0 1) (v + 1)))) rfl ?_
        exact ih (v + 1) (by omega)
  refine np_aload_n (pc := 0) C d_T_append_0 rfl ?_
  refine np_cVi (pc := 1) C 5 (c_T_isFull l D t ha (Nat.le_of_lt hf)) np_TS_good d_T_append_1 rfl rfl m_123 m_132 m_2 m_121 m_122 hd_T_isFull (by decide) rfl rfl (Nat.le_of_ble_eq_true rfl) ?_
  refine np_ifz_eq (pc := 4) (tgt := 10) C d_T_append_4 rfl (fun h4 => ?_) (fun h4 => ?_)
  · refine np_aload_n (pc := 10) C d_T_append_10 rfl ?_
    refine np_get (pc := 11) C 5 2 d_T_append_11 rfl rfl rfl (by decide) hin_T m_39 rfl ?_
    refine np_istore_n (pc := 14) C d_T_append_14 (by decide) rfl ?_
    refine np_aload_n (pc := 15) C d_T_append_15 rfl ?_
    refine np_get (pc := 16) C 5 0 d_T_append_16 rfl rfl rfl (by decide) hin_T m_37 rfl ?_
    refine np_bipush (pc := 19) (v := 16) C d_T_append_19 (by decide) ?_
    refine np_iload_n (pc := 21) C d_T_append_21 rfl ?_
    refine np_iadd (pc := 22) C d_T_append_22 ?_
    refine np_iload_n (pc := 23) C d_T_append_23 rfl ?_
    refine np_iastG (pc := 24) C (np_gw a cI) _ 6 6 (np_gD ha _) d_T_append_24 rfl (gs_6 a cI _) (by omega) (by decide) ?_
    refine np_iconst (pc := 25) (v := 1) C d_T_append_25 (by decide) ?_
    refine np_istore_n (pc := 26) C d_T_append_26 (by decide) rfl ?_
    refine np_at (vs2 := [some (.ref (a 5)), some (.int (nI x)), some (.int (nI (X 0 1))), some (.int (nI (0 + 1)))]) rfl ?_
    refine np_atw (w2 := np_gw a cI (va_up X 6 (np_ups (updN (X 6) (16 + X 0 1) x) (X 0 1) 0))) rfl ?_
    exact loop 4 0 rfl
  · exfalso; omega
set_option maxRecDepth 20000 in
set_option maxHeartbeats 4000000 in
theorem c_T_nodeAt (l : Launch) (D : va_G) {cI : ClassId} (t : Nat → Nat) {a : Nat → Nat} (ha : np_inj a 12) {X : np_X} {v n : Nat} (hv : v < 4294967296) (hn : n < 4294967296) : np_C l D cI (np_ad a 12) t (0, 0) y_T_nodeAt b_T_nodeAt 4 (some .int) [.ref (a 5), .int (nI v), .int (nI n)] (np_gw a cI X) (some (.int (nI (np_na (X 6) v n)))) (np_gw a cI X) := by
  refine np_Ct.of (np_Sc_St _ _) (by decide) (Nat.le_of_ble_eq_true rfl) ?_
  intro p e s m below meth c C
  refine np_at (vs2 := [some (.ref (a 5)), some (.int (nI v)), some (.int (nI n)), none]) rfl ?_
  have h16 : 16 / 2 ^ v ≤ 16 := Nat.div_le_self _ _
  refine np_iload_n (pc := 0) C d_T_nodeAt_0 rfl ?_
  refine np_if_lt (pc := 1) (tgt := 9) C (by omega) d_T_nodeAt_1 rfl (fun h1 => ?_) (fun h1 => ?_)
  · refine np_iconst (pc := 9) (v := 4294967295) C d_T_nodeAt_9 (by decide) ?_
    exact np_iret (pc := 10) C d_T_nodeAt_10 (by unfold np_na; (repeat' split) <;> omega) (by rfl)
  · refine np_iload_n (pc := 4) C d_T_nodeAt_4 rfl ?_
    refine np_iconst (pc := 5) (v := 4) C d_T_nodeAt_5 (by decide) ?_
    refine np_icmp_le (pc := 6) (tgt := 11) C (by omega) (by omega) d_T_nodeAt_6 rfl (fun h6 => ?_) (fun h6 => ?_)
    · refine np_bipush (pc := 11) (v := 16) C d_T_nodeAt_11 (by decide) ?_
      refine np_iload_n (pc := 13) C d_T_nodeAt_13 rfl ?_
      refine np_ishr (pc := 14) C (by omega) (by omega) d_T_nodeAt_14 ?_
      refine np_istore_n (pc := 15) C d_T_nodeAt_15 (by decide) rfl ?_
      refine np_iload_n (pc := 16) C d_T_nodeAt_16 rfl ?_
      refine np_if_lt (pc := 17) (tgt := 36) C (by omega) d_T_nodeAt_17 rfl (fun h17 => ?_) (fun h17 => ?_)
      · refine np_iconst (pc := 36) (v := 4294967295) C d_T_nodeAt_36 (by decide) ?_
        exact np_iret (pc := 37) C d_T_nodeAt_37 (by unfold np_na; (repeat' split) <;> omega) (by rfl)
      · refine np_iload_n (pc := 20) C d_T_nodeAt_20 rfl ?_
        refine np_iload_n (pc := 21) C d_T_nodeAt_21 rfl ?_
        refine np_icmp_ge (pc := 22) (tgt := 36) C (by omega) (by omega) d_T_nodeAt_22 rfl (fun h22 => ?_) (fun h22 => ?_)
        · refine np_iconst (pc := 36) (v := 4294967295) C d_T_nodeAt_36 (by decide) ?_
          exact np_iret (pc := 37) C d_T_nodeAt_37 (by unfold np_na; (repeat' split) <;> omega) (by rfl)
        · refine np_aload_n (pc := 25) C d_T_nodeAt_25 rfl ?_
          refine np_get (pc := 26) C 5 0 d_T_nodeAt_26 rfl rfl rfl (by decide) hin_T m_37 rfl ?_
          refine np_iload_n (pc := 29) C d_T_nodeAt_29 rfl ?_
          refine np_iload_n (pc := 30) C d_T_nodeAt_30 rfl ?_
          refine np_iadd (pc := 31) C d_T_nodeAt_31 ?_
          refine np_iald (pc := 32) C 6 d_T_nodeAt_32 rfl (by omega) (by decide) ?_
          refine np_goto (pc := 33) (tgt := 37) C d_T_nodeAt_33 rfl ?_
          exact np_iret (pc := 37) C d_T_nodeAt_37 (by unfold np_na; (repeat' split) <;> omega) (by rfl)
    · refine np_iconst (pc := 9) (v := 4294967295) C d_T_nodeAt_9 (by decide) ?_
      exact np_iret (pc := 10) C d_T_nodeAt_10 (by unfold np_na; (repeat' split) <;> omega) (by rfl)
set_option maxRecDepth 20000 in
set_option maxHeartbeats 4000000 in
theorem c_T_recentRoot (l : Launch) (D : va_G) {cI : ClassId} (t : Nat → Nat) {a : Nat → Nat} (ha : np_inj a 12) {X : np_X} {k : Nat} (hk : k < 4294967296) (h1 : X 0 1 ≤ 16) : np_C l D cI (np_ad a 12) t (0, 0) y_T_recentRoot b_T_recentRoot 2 (some .int) [.ref (a 5), .int (nI k)] (np_gw a cI X) (some (.int (nI (np_rr X k)))) (np_gw a cI X) := by
  refine np_Ct.of (np_Sc_St _ _) (by decide) (Nat.le_of_ble_eq_true rfl) ?_
  intro p e s m below meth c C
  refine np_at (vs2 := [some (.ref (a 5)), some (.int (nI k))]) rfl ?_
  refine np_iload_n (pc := 0) C d_T_recentRoot_0 rfl ?_
  refine np_if_lt (pc := 1) (tgt := 31) C (by omega) d_T_recentRoot_1 rfl (fun h1 => ?_) (fun h1 => ?_)
  · refine np_iconst (pc := 31) (v := 4294967295) C d_T_recentRoot_31 (by decide) ?_
    exact np_iret (pc := 32) C d_T_recentRoot_32 (by unfold np_rr; (repeat' split) <;> omega) (by rfl)
  · refine np_iload_n (pc := 4) C d_T_recentRoot_4 rfl ?_
    refine np_iconst (pc := 5) (v := 4) C d_T_recentRoot_5 (by decide) ?_
    refine np_icmp_ge (pc := 6) (tgt := 31) C (by omega) (by omega) d_T_recentRoot_6 rfl (fun h6 => ?_) (fun h6 => ?_)
    · refine np_iconst (pc := 31) (v := 4294967295) C d_T_recentRoot_31 (by decide) ?_
      exact np_iret (pc := 32) C d_T_recentRoot_32 (by unfold np_rr; (repeat' split) <;> omega) (by rfl)
    · refine np_iload_n (pc := 9) C d_T_recentRoot_9 rfl ?_
      refine np_aload_n (pc := 10) C d_T_recentRoot_10 rfl ?_
      refine np_get (pc := 11) C 5 2 d_T_recentRoot_11 rfl rfl rfl (by decide) hin_T m_39 rfl ?_
      refine np_icmp_gt (pc := 14) (tgt := 31) C (by omega) (by omega) d_T_recentRoot_14 rfl (fun h14 => ?_) (fun h14 => ?_)
      · refine np_iconst (pc := 31) (v := 4294967295) C d_T_recentRoot_31 (by decide) ?_
        exact np_iret (pc := 32) C d_T_recentRoot_32 (by unfold np_rr; (repeat' split) <;> omega) (by rfl)
      · refine np_aload_n (pc := 17) C d_T_recentRoot_17 rfl ?_
        refine np_get (pc := 18) C 5 1 d_T_recentRoot_18 rfl rfl rfl (by decide) hin_T m_38 rfl ?_
        refine np_aload_n (pc := 21) C d_T_recentRoot_21 rfl ?_
        refine np_get (pc := 22) C 5 2 d_T_recentRoot_22 rfl rfl rfl (by decide) hin_T m_39 rfl ?_
        refine np_iload_n (pc := 25) C d_T_recentRoot_25 rfl ?_
        refine np_isub (pc := 26) C (by omega) d_T_recentRoot_26 ?_
        refine np_iald (pc := 27) C 7 d_T_recentRoot_27 rfl (by omega) (by decide) ?_
        refine np_goto (pc := 28) (tgt := 32) C d_T_recentRoot_28 rfl ?_
        exact np_iret (pc := 32) C d_T_recentRoot_32 (by unfold np_rr; (repeat' split) <;> omega) (by rfl)
set_option maxRecDepth 20000 in
set_option maxHeartbeats 4000000 in
theorem c_T_isRecent (l : Launch) (D : va_G) {cI : ClassId} (t : Nat → Nat) {a : Nat → Nat} (ha : np_inj a 12) {X : np_X} {x : Nat} (hx : x < 65537) (h1 : X 0 1 ≤ 16) (h7 : np_ok (X 7)) : np_C l D cI (np_ad a 12) t (1, 21) y_T_isRecent b_T_isRecent 3 (some .boolean) [.ref (a 5), .int (nI x)] (np_gw a cI X) (some (.int (nI (if np_hs (np_rr X) x 4 = true then 1 else 0)))) (np_gw a cI X) := by
  refine np_Ct.of (np_Sc_St _ _) (by decide) (Nat.le_of_ble_eq_true rfl) ?_
  intro p e s m below meth c C
  refine np_at (vs2 := [some (.ref (a 5)), some (.int (nI x)), none]) rfl ?_
  have loop : ∀ (n k : Nat), k + n = 4 → np_hs (np_rr X) x k = false → np_V p l e (np_rm (1, 21)) s m ([.ref (a 5), .int (nI x)] : List Value).toArray below meth c 0 0 D np_cls (np_ad a 12) (MQ below (np_Qc D np_cls (np_ad a 12) (some (.int (nI (if np_hs (np_rr X) x 4 = true then 1 else 0)))) (np_gw a cI X)) ([.ref (a 5), .int (nI x)] : List Value).toArray s 0 0 (np_ad a 12)) 3 (np_gw a cI X) 2 [some (.ref (a 5)), some (.int (nI x)), some (.int (nI k))] [] := by
    intro n
    induction n with
    | zero =>
      intro k hk hno
      obtain rfl : k = 4 := by omega
      refine np_iload_n (pc := 2) C d_T_isRecent_2 rfl ?_
      refine np_iconst (pc := 3) (v := 4) C d_T_isRecent_3 (by decide) ?_
      refine np_icmp_ge (pc := 4) (tgt := 24) C (by omega) (by omega) d_T_isRecent_4 rfl (fun h4 => ?_) (fun h4 => ?_)
      · refine np_iconst (pc := 24) (v := 0) C d_T_isRecent_24 (by decide) ?_
        exact np_zret (pc := 25) C d_T_isRecent_25 (by omega) (by rw [if_neg (by simp [hno])]) (by rfl)
      · exfalso; omega
    | succ n ih =>
      intro k hk hno
      have hb := np_rr_lt h7 k
      refine np_iload_n (pc := 2) C d_T_isRecent_2 rfl ?_
      refine np_iconst (pc := 3) (v := 4) C d_T_isRecent_3 (by decide) ?_
      refine np_icmp_ge (pc := 4) (tgt := 24) C (by omega) (by omega) d_T_isRecent_4 rfl (fun h4 => ?_) (fun h4 => ?_)
      · exfalso; omega
      · refine np_aload_n (pc := 7) C d_T_isRecent_7 rfl ?_
        refine np_iload_n (pc := 8) C d_T_isRecent_8 rfl ?_
        refine np_cVi (pc := 9) C 5 (c_T_recentRoot l D t ha (by omega) h1) np_TS_good d_T_isRecent_9 rfl rfl m_235 m_232 m_2 m_233 m_234 hd_T_recentRoot (by decide) rfl rfl (Nat.le_of_ble_eq_true rfl) ?_
        refine np_iload_n (pc := 12) C d_T_isRecent_12 rfl ?_
        refine np_icmp_ne (pc := 13) (tgt := 18) C (by omega) (by omega) d_T_isRecent_13 rfl (fun h13 => ?_) (fun h13 => ?_)
        · refine np_iinc (pc := 18) C d_T_isRecent_18 rfl (np_inc1 _) (by decide) rfl ?_
          refine np_goto (pc := 21) (tgt := 2) C d_T_isRecent_21 rfl ?_
          refine np_at (vs2 := [some (.ref (a 5)), some (.int (nI x)), some (.int (nI (k + 1)))]) rfl ?_
          exact ih (k + 1) (by omega) (np_hs_no hno h13)
        · refine np_iconst (pc := 16) (v := 1) C d_T_isRecent_16 (by decide) ?_
          exact np_zret (pc := 17) C d_T_isRecent_17 (by omega) (by rw [if_pos (np_hs_up h13 (by omega))]) (by rfl)
  refine np_iconst (pc := 0) (v := 0) C d_T_isRecent_0 (by decide) ?_
  refine np_istore_n (pc := 1) C d_T_isRecent_1 (by decide) rfl ?_
  refine np_at (vs2 := [some (.ref (a 5)), some (.int (nI x)), some (.int (nI 0))]) rfl ?_
  exact loop 4 0 rfl rfl
set_option maxRecDepth 20000 in
set_option maxHeartbeats 4000000 in
theorem c_K_has (l : Launch) (D : va_G) {cI : ClassId} (t : Nat → Nat) {a : Nat → Nat} (ha : np_inj a 12) {X : np_X} {x : Nat} (hx : x < 65537) (h2 : X 0 2 ≤ 16) (h9 : np_ok (X 9)) : np_C l D cI (np_ad a 12) t (0, 0) y_K_has b_K_has 3 (some .boolean) [.ref (a 8), .int (nI x)] (np_gw a cI X) (some (.int (nI (if np_hs (X 9) x (X 0 2) = true then 1 else 0)))) (np_gw a cI X) := by
  refine np_Ct.of (np_Sc_St _ _) (by decide) (Nat.le_of_ble_eq_true rfl) ?_
  intro p e s m below meth c C
  refine np_at (vs2 := [some (.ref (a 8)), some (.int (nI x)), none]) rfl ?_
  have loop : ∀ (n k : Nat), k + n = X 0 2 → np_hs (X 9) x k = false → np_V p l e (np_rm (0, 0)) s m ([.ref (a 8), .int (nI x)] : List Value).toArray below meth c 0 0 D np_cls (np_ad a 12) (MQ below (np_Qc D np_cls (np_ad a 12) (some (.int (nI (if np_hs (X 9) x (X 0 2) = true then 1 else 0)))) (np_gw a cI X)) ([.ref (a 8), .int (nI x)] : List Value).toArray s 0 0 (np_ad a 12)) 3 (np_gw a cI X) 2 [some (.ref (a 8)), some (.int (nI x)), some (.int (nI k))] [] := by
    intro n
    induction n with
    | zero =>
      intro k hk hno
      obtain rfl : k = X 0 2 := by omega
      refine np_iload_n (pc := 2) C d_K_has_2 rfl ?_
      refine np_aload_n (pc := 3) C d_K_has_3 rfl ?_
      refine np_get (pc := 4) C 8 1 d_K_has_4 rfl rfl rfl (by decide) hin_K m_56 rfl ?_
      refine np_icmp_ge (pc := 7) (tgt := 28) C (by omega) (by omega) d_K_has_7 rfl (fun h7 => ?_) (fun h7 => ?_)
      · refine np_iconst (pc := 28) (v := 0) C d_K_has_28 (by decide) ?_
        exact np_zret (pc := 29) C d_K_has_29 (by omega) (by rw [if_neg (by simp [hno])]) (by rfl)
      · exfalso; omega
    | succ n ih =>
      intro k hk hno
      have hb := h9 k
      refine np_iload_n (pc := 2) C d_K_has_2 rfl ?_
      refine np_aload_n (pc := 3) C d_K_has_3 rfl ?_
      refine np_get (pc := 4) C 8 1 d_K_has_4 rfl rfl rfl (by decide) hin_K m_56 rfl ?_
      refine np_icmp_ge (pc := 7) (tgt := 28) C (by omega) (by omega) d_K_has_7 rfl (fun h7 => ?_) (fun h7 => ?_)
      · exfalso; omega
      · refine np_aload_n (pc := 10) C d_K_has_10 rfl ?_
        refine np_get (pc := 11) C 8 0 d_K_has_11 rfl rfl rfl (by decide) hin_K m_55 rfl ?_
        refine np_iload_n (pc := 14) C d_K_has_14 rfl ?_
        refine np_iald (pc := 15) C 9 d_K_has_15 rfl (by omega) (by decide) ?_
        refine np_iload_n (pc := 16) C d_K_has_16 rfl ?_
        refine np_icmp_ne (pc := 17) (tgt := 22) C (by omega) (by omega) d_K_has_17 rfl (fun h17 => ?_) (fun h17 => ?_)
        · refine np_iinc (pc := 22) C d_K_has_22 rfl (np_inc1 _) (by decide) rfl ?_
          refine np_goto (pc := 25) (tgt := 2) C d_K_has_25 rfl ?_
          refine np_at (vs2 := [some (.ref (a 8)), some (.int (nI x)), some (.int (nI (k + 1)))]) rfl ?_
          exact ih (k + 1) (by omega) (np_hs_no hno h17)
        · refine np_iconst (pc := 20) (v := 1) C d_K_has_20 (by decide) ?_
          exact np_zret (pc := 21) C d_K_has_21 (by omega) (by rw [if_pos (np_hs_up h17 (by omega))]) (by rfl)
  refine np_iconst (pc := 0) (v := 0) C d_K_has_0 (by decide) ?_
  refine np_istore_n (pc := 1) C d_K_has_1 (by decide) rfl ?_
  refine np_at (vs2 := [some (.ref (a 8)), some (.int (nI x)), some (.int (nI 0))]) rfl ?_
  exact loop (X 0 2) 0 (by omega) rfl
set_option maxRecDepth 20000 in
set_option maxHeartbeats 4000000 in
theorem c_K_add (l : Launch) (D : va_G) {cI : ClassId} (t : Nat → Nat) {a : Nat → Nat} (ha : np_inj a 12) {X : np_X} {x : Nat} (hx : x < 65537) (h2 : X 0 2 < 16) (h9 : np_ok (X 9)) : np_C l D cI (np_ad a 12) t (0, 0) y_K_add b_K_add 3 none [.ref (a 8), .int (nI x)] (np_gw a cI X) none (np_gw a cI (va_up (va_up X 9 (np_ins x (X 9) (X 0 2))) 0 (updN (X 0) 2 (X 0 2 + 1)))) := by
  refine np_Ct.of (np_Sc_St _ _) (by decide) (Nat.le_of_ble_eq_true rfl) ?_
  intro p e s m below meth c C
  refine np_at (vs2 := [some (.ref (a 8)), some (.int (nI x)), none]) rfl ?_
  have loop : ∀ (k : Nat) (f : Nat → Nat), k ≤ X 0 2 → np_ok f → np_ins x f k = np_ins x (X 9) (X 0 2) → np_V p l e (np_rm (0, 0)) s m ([.ref (a 8), .int (nI x)] : List Value).toArray below meth c 0 0 D np_cls (np_ad a 12) (MQ below (np_Qc D np_cls (np_ad a 12) none (np_gw a cI (va_up (va_up X 9 (np_ins x (X 9) (X 0 2))) 0 (updN (X 0) 2 (X 0 2 + 1))))) ([.ref (a 8), .int (nI x)] : List Value).toArray s 0 0 (np_ad a 12)) 3 (np_gw a cI (va_up X 9 f)) 15 [some (.ref (a 8)), some (.int (nI x)), some (.int (nI k))] [] := by
    intro k
    induction k with
    | zero =>
      intro f hk hf hf2
      refine np_iload_n (pc := 15) C d_K_add_15 rfl ?_
      refine np_if_le (pc := 16) (tgt := 51) C (by omega) d_K_add_16 rfl (fun h16 => ?_) (fun h16 => ?_)
      · refine np_aload_n (pc := 51) C d_K_add_51 rfl ?_
        refine np_get (pc := 52) C 8 0 d_K_add_52 rfl rfl rfl (by decide) hin_K m_55 rfl ?_
        refine np_iload_n (pc := 55) C d_K_add_55 rfl ?_
        refine np_iload_n (pc := 56) C d_K_add_56 rfl ?_
        refine np_iastG (pc := 57) C (np_gw a cI) _ 9 9 (np_gD ha _) d_K_add_57 rfl (gs_9 a cI _) (by omega) (by decide) ?_
        refine np_aload_n (pc := 58) C d_K_add_58 rfl ?_
        refine np_dup (pc := 59) C rfl d_K_add_59 ?_
        refine np_get (pc := 60) C 8 1 d_K_add_60 rfl rfl rfl (by decide) hin_K m_56 rfl ?_
        refine np_top (y := X 0 2) rfl ?_
        refine np_iconst (pc := 63) (v := 1) C d_K_add_63 (by decide) ?_
        refine np_iadd (pc := 64) C d_K_add_64 ?_
        refine np_putG (pc := 65) C (np_gw a cI) _ 8 1 2 (np_gD ha _) d_K_add_65 rfl (gp_8 a cI _) rfl (by decide) hin_K ty_K tyok_K nm_K m_56 rfl rfl rfl (Nat.le_of_ble_eq_true rfl) ?_
        exact np_vret (pc := 68) C d_K_add_68 (by rw [← hf2]; rfl)
      · exfalso; omega
    | succ k ih =>
      intro f hk hf hf2
      have hb := hf k
      refine np_iload_n (pc := 15) C d_K_add_15 rfl ?_
      refine np_if_le (pc := 16) (tgt := 51) C (by omega) d_K_add_16 rfl (fun h16 => ?_) (fun h16 => ?_)
      · exfalso; omega
      · refine np_aload_n (pc := 19) C d_K_add_19 rfl ?_
        refine np_get (pc := 20) C 8 0 d_K_add_20 rfl rfl rfl (by decide) hin_K m_55 rfl ?_
        refine np_iload_n (pc := 23) C d_K_add_23 rfl ?_
        refine np_iconst (pc := 24) (v := 1) C d_K_add_24 (by decide) ?_
        refine np_isub (pc := 25) C (by omega) d_K_add_25 ?_
        refine np_top (y := k) rfl ?_
        refine np_iald (pc := 26) C 9 d_K_add_26 rfl (by omega) (by decide) ?_
        refine np_top (y := f k) rfl ?_
        refine np_iload_n (pc := 27) C d_K_add_27 rfl ?_
        refine np_icmp_le (pc := 28) (tgt := 51) C (by omega) (by omega) d_K_add_28 rfl (fun h28 => ?_) (fun h28 => ?_)
        · rw [np_ins, if_neg (by omega)] at hf2
          refine np_aload_n (pc := 51) C d_K_add_51 rfl ?_
          refine np_get (pc := 52) C 8 0 d_K_add_52 rfl rfl rfl (by decide) hin_K m_55 rfl ?_
          refine np_iload_n (pc := 55) C d_K_add_55 rfl ?_
          refine np_iload_n (pc := 56) C d_K_add_56 rfl ?_
          refine np_iastG (pc := 57) C (np_gw a cI) _ 9 9 (np_gD ha _) d_K_add_57 rfl (gs_9 a cI _) (by omega) (by decide) ?_
          refine np_aload_n (pc := 58) C d_K_add_58 rfl ?_
          refine np_dup (pc := 59) C rfl d_K_add_59 ?_
          refine np_get (pc := 60) C 8 1 d_K_add_60 rfl rfl rfl (by decide) hin_K m_56 rfl ?_
          refine np_top (y := X 0 2) rfl ?_
          refine np_iconst (pc := 63) (v := 1) C d_K_add_63 (by decide) ?_
          refine np_iadd (pc := 64) C d_K_add_64 ?_
          refine np_putG (pc := 65) C (np_gw a cI) _ 8 1 2 (np_gD ha _) d_K_add_65 rfl (gp_8 a cI _) rfl (by decide) hin_K ty_K tyok_K nm_K m_56 rfl rfl rfl (Nat.le_of_ble_eq_true rfl) ?_
          exact np_vret (pc := 68) C d_K_add_68 (by rw [← hf2]; rfl)
        · rw [np_ins, if_pos (by omega)] at hf2
          refine np_aload_n (pc := 31) C d_K_add_31 rfl ?_
          refine np_get (pc := 32) C 8 0 d_K_add_32 rfl rfl rfl (by decide) hin_K m_55 rfl ?_
          refine np_iload_n (pc := 35) C d_K_add_35 rfl ?_
          refine np_aload_n (pc := 36) C d_K_add_36 rfl ?_
          refine np_get (pc := 37) C 8 0 d_K_add_37 rfl rfl rfl (by decide) hin_K m_55 rfl ?_
          refine np_iload_n (pc := 40) C d_K_add_40 rfl ?_
          refine np_iconst (pc := 41) (v := 1) C d_K_add_41 (by decide) ?_
          refine np_isub (pc := 42) C (by omega) d_K_add_42 ?_
          refine np_top (y := k) rfl ?_
          refine np_iald (pc := 43) C 9 d_K_add_43 rfl (by omega) (by decide) ?_
          refine np_top (y := f k) rfl ?_
          refine np_iastG (pc := 44) C (np_gw a cI) _ 9 9 (np_gD ha _) d_K_add_44 rfl (gs_9 a cI _) (by omega) (by decide) ?_
          refine np_iinc (pc := 45) C d_K_add_45 rfl (np_m1 (Nat.succ_pos k)) (by decide) rfl ?_
          refine np_goto (pc := 48) (tgt := 15) C d_K_add_48 rfl ?_
          refine np_at (vs2 := [some (.ref (a 8)), some (.int (nI x)), some (.int (nI k))]) rfl ?_
          refine np_atw (w2 := np_gw a cI (va_up X 9 (updN f (k + 1) (f k)))) rfl ?_
          exact ih _ (by omega) (np_ok_upd hf (hf _)) hf2
  refine np_aload_n (pc := 0) C d_K_add_0 rfl ?_
  refine np_get (pc := 1) C 8 1 d_K_add_1 rfl rfl rfl (by decide) hin_K m_56 rfl ?_
  refine np_bipush (pc := 4) (v := 16) C d_K_add_4 (by decide) ?_
  refine np_icmp_lt (pc := 6) (tgt := 10) C (by omega) (by omega) d_K_add_6 rfl (fun h6 => ?_) (fun h6 => ?_)
  · refine np_aload_n (pc := 10) C d_K_add_10 rfl ?_
    refine np_get (pc := 11) C 8 1 d_K_add_11 rfl rfl rfl (by decide) hin_K m_56 rfl ?_
    refine np_istore_n (pc := 14) C d_K_add_14 (by decide) rfl ?_
    refine np_at (vs2 := [some (.ref (a 8)), some (.int (nI x)), some (.int (nI (X 0 2)))]) rfl ?_
    refine np_atw (w2 := np_gw a cI (va_up X 9 (X 9))) rfl ?_
    exact loop (X 0 2) (X 9) (Nat.le_refl _) h9 rfl
  · exfalso; omega
set_option maxRecDepth 20000 in
set_option maxHeartbeats 4000000 in
theorem c_K_at (l : Launch) (D : va_G) {cI : ClassId} (t : Nat → Nat) {a : Nat → Nat} (ha : np_inj a 12) {X : np_X} {k : Nat} (hk : k < 4294967296) (h2 : X 0 2 ≤ 16) : np_C l D cI (np_ad a 12) t (0, 0) y_K_at b_K_at 2 (some .int) [.ref (a 8), .int (nI k)] (np_gw a cI X) (some (.int (nI (if k < X 0 2 then X 9 k else 4294967295)))) (np_gw a cI X) := by
  refine np_Ct.of (np_Sc_St _ _) (by decide) (Nat.le_of_ble_eq_true rfl) ?_
  intro p e s m below meth c C
  refine np_at (vs2 := [some (.ref (a 8)), some (.int (nI k))]) rfl ?_
  refine np_iload_n (pc := 0) C d_K_at_0 rfl ?_
  refine np_if_lt (pc := 1) (tgt := 21) C (by omega) d_K_at_1 rfl (fun h1 => ?_) (fun h1 => ?_)
  · refine np_iconst (pc := 21) (v := 4294967295) C d_K_at_21 (by decide) ?_
    exact np_iret (pc := 22) C d_K_at_22 (by first | omega | rfl | (repeat' split) <;> omega) (by rfl)
  · refine np_iload_n (pc := 4) C d_K_at_4 rfl ?_
    refine np_aload_n (pc := 5) C d_K_at_5 rfl ?_
    refine np_get (pc := 6) C 8 1 d_K_at_6 rfl rfl rfl (by decide) hin_K m_56 rfl ?_
    refine np_icmp_ge (pc := 9) (tgt := 21) C (by omega) (by omega) d_K_at_9 rfl (fun h9 => ?_) (fun h9 => ?_)
    · refine np_iconst (pc := 21) (v := 4294967295) C d_K_at_21 (by decide) ?_
      exact np_iret (pc := 22) C d_K_at_22 (by first | omega | rfl | (repeat' split) <;> omega) (by rfl)
    · refine np_aload_n (pc := 12) C d_K_at_12 rfl ?_
      refine np_get (pc := 13) C 8 0 d_K_at_13 rfl rfl rfl (by decide) hin_K m_55 rfl ?_
      refine np_iload_n (pc := 16) C d_K_at_16 rfl ?_
      refine np_iald (pc := 17) C 9 d_K_at_17 rfl (by omega) (by decide) ?_
      refine np_goto (pc := 18) (tgt := 22) C d_K_at_18 rfl ?_
      exact np_iret (pc := 22) C d_K_at_22 (by first | omega | rfl | (repeat' split) <;> omega) (by rfl)
