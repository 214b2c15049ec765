theorem np_ow_at {ks : Nat → Nat} {key k : Nat} (h : ∀ j, j < k → ks j ≠ key) (hk : ks k = key) (h4 : k < 4) : np_ow ks key = k := by
  unfold np_ow
  rcases (show k = 0 ∨ k = 1 ∨ k = 2 ∨ k = 3 by omega) with rfl | rfl | rfl | rfl
  · rw [if_pos hk]
  · rw [if_neg (h 0 (by omega)), if_pos hk]
  · rw [if_neg (h 0 (by omega)), if_neg (h 1 (by omega)), if_pos hk]
  · rw [if_neg (h 0 (by omega)), if_neg (h 1 (by omega)), if_neg (h 2 (by omega)), if_pos hk]
theorem np_ow_no {ks : Nat → Nat} {key : Nat} (h : ∀ j, j < 4 → ks j ≠ key) : np_ow ks key = 4294967295 := by
  unfold np_ow
  rw [if_neg (h 0 (by omega)), if_neg (h 1 (by omega)), if_neg (h 2 (by omega)), if_neg (h 3 (by omega))]
theorem np_na_0 {nd : Nat → Nat} {i : Nat} (h : i < 16) : np_na nd 0 i = nd (16 + i) := by
  unfold np_na
  rw [if_pos (by omega), if_pos (by simpa using h)]
theorem np_na_sib {nd : Nat → Nat} {v u : Nat} (hv : v < 4) (hu : u < 16 / 2 ^ v) : np_na nd v (if u % 2 = 0 then u + 1 else u - 1) = nd (16 / 2 ^ v + (if u % 2 = 0 then u + 1 else u - 1)) := by
  unfold np_na
  have h : (if u % 2 = 0 then u + 1 else u - 1) < 16 / 2 ^ v := by
    rcases (show v = 0 ∨ v = 1 ∨ v = 2 ∨ v = 3 by omega) with rfl | rfl | rfl | rfl <;> simp at hu ⊢ <;> split <;> omega
  rw [if_pos (by omega), if_pos h]
theorem np_up_lt {q v : Nat} (hq : q < 16) (hv : v < 4) : q / 2 ^ v < 16 / 2 ^ v := by
  rcases (show v = 0 ∨ v = 1 ∨ v = 2 ∨ v = 3 by omega) with rfl | rfl | rfl | rfl <;> simp <;> omega
theorem np_ok_tpa {nd f : Nat → Nat} {q : Nat} (hn : np_ok nd) (hf : np_ok f) (hq : q < 16) : ∀ n, n ≤ 4 → np_ok (np_tpa nd q f n)
  | 0, _ => hf
  | n + 1, h => by
    simp only [np_tpa]
    refine np_ok_upd (np_ok_upd (np_ok_tpa hn hf hq n (by omega)) (by omega)) ?_
    rw [np_na_sib (by omega) (np_up_lt hq (by omega))]
    exact hn _
theorem np_ok_bts {g : Nat → Nat} (hg : np_ok g) (am : Nat) : ∀ n, np_ok (np_bts g am n)
  | 0 => hg
  | n + 1 => np_ok_upd (np_ok_bts hg am n) (by omega)
theorem np_ok_tkp {f : Nat → Nat} {k am wd nn : Nat} (hf : np_ok f) (h1 : k < 65537) (h2 : am < 65537) (h3 : wd < 65537) (h4 : nn < 65537) : np_ok (np_tkp f k am wd nn) := np_ok_bts (np_ok_upd (np_ok_upd (np_ok_upd (np_ok_upd hf h1) h2) h3) h4) _ _
/-- what the class's public methods answer, and the state behind them -/
def np_mo (X : np_X) (i : Nat) : Nat := np_hh (100 + X 2 i) (X 6 (16 + i))
def np_depR (X : np_X) (x v n : Nat) : Nat := if x < 4 then (if v < 256 ∧ n < 65537 then (if 16 ≤ X 0 1 then 4294967289 else X 0 1) else 4294967293) else 4294967294
def np_depX (X : np_X) (x v n : Nat) : np_X := if x < 4 then (if v < 256 ∧ n < 65537 then (if 16 ≤ X 0 1 then X else np_mkn (va_up X 0 (updN (X 0) 0 (X 0 0 + v))) (X 1 x) v n) else X) else X
def np_ldF (X : np_X) (q y am wd nn : Nat) : Nat → Nat := np_cpl (np_tpa (X 6) q (np_tkp (updN (updN (updN (X 11) 5 (100 + X 2 q)) 6 (X 3 q)) 7 (X 4 q)) (X 1 y) am wd nn) 4) 14 101
def np_ldR (X : np_X) (q y am wd nn : Nat) : Nat := if q < X 0 1 ∧ y < 4 then (if X 2 q < 4 then (if am < 256 ∧ wd < 256 ∧ nn < 65537 then (if np_flt (np_ldF X q y am wd nn) 0 115 = 4294967295 then 1 else 0) else 4294967293) else 4294967295) else 4294967294
def np_ldX (X : np_X) (q y am wd nn : Nat) : np_X := if q < X 0 1 ∧ y < 4 then (if X 2 q < 4 then (if am < 256 ∧ wd < 256 ∧ nn < 65537 then va_up X 11 (np_ldF X q y am wd nn) else X) else X) else X
def np_stR (x n : Nat) : Nat := if x < 125 ∧ x ≠ 0 ∧ n < 65537 then 1 else 0
def np_stX (X : np_X) (x n : Nat) : np_X := if x < 125 ∧ x ≠ 0 ∧ n < 65537 then va_up X 11 (updN (X 11) x n) else X
def np_suA (X : np_X) : np_X := va_up (va_up X 9 (np_ins (X 11 2) (X 9) (X 0 2))) 0 (updN (X 0) 2 (X 0 2 + 1))
def np_suB (X : np_X) : np_X := va_up (np_suA X) 0 (updN (np_suA X 0) 0 (X 0 0 + 4294967296 - X 11 4))
def np_suR (X : np_X) : Nat := if np_flt (X 11) 0 115 = 4294967295 then (if X 11 4 ≤ 255 then (if np_hs (np_rr X) (X 11 1) 4 = true then (if np_hs (X 9) (X 11 2) (X 0 2) = true then 4294967290 else (if 16 ≤ X 0 1 then 4294967289 else X 0 1)) else 4294967291) else 4294967292) else 4294967293
def np_suX (X : np_X) : np_X := if np_flt (X 11) 0 115 = 4294967295 then (if X 11 4 ≤ 255 then (if np_hs (np_rr X) (X 11 1) 4 = true then (if np_hs (X 9) (X 11 2) (X 0 2) = true then X else (if 16 ≤ X 0 1 then X else np_mkn (np_suB X) (X 11 8) (X 11 9) (X 11 10))) else X) else X) else X
def np_bal (X : np_X) (x : Nat) : Nat → Nat
  | 0 => 0
  | n + 1 => np_bal X x n + (if n < X 0 1 ∧ X 2 n = x ∧ ¬ np_hs (X 9) (np_mo X n) (X 0 2) = true then X 3 n else 0)
theorem np_ok_ins {m : Nat} (hm : m < 65537) : ∀ (g : Nat) (f : Nat → Nat), np_ok f → np_ok (np_ins m f g)
  | 0, f, h => np_ok_upd h hm
  | g + 1, f, h => by
    simp only [np_ins]
    split
    · exact np_ok_ins hm g _ (np_ok_upd h (h _))
    · exact np_ok_upd h hm
theorem np_flt_lt (f : Nat → Nat) : ∀ (n c : Nat), c + n = 115 → np_flt f c n < 4294967296
  | 0, _, _ => (by decide : 4294967295 < 4294967296)
  | n + 1, c, h => by
    simp only [np_flt]
    split
    · exact np_flt_lt f n (c + 1) (by omega)
    · omega
set_option maxRecDepth 20000 in
set_option maxHeartbeats 4000000 in
theorem c_P_hasNote (l : Launch) (D : va_G) {cI : ClassId} (t : Nat → Nat) {a : Nat → Nat} (ha : np_inj a 12) {X : np_X} (hX : np_XI X) {i : Nat} (hi : i < 4294967296) : np_C l D cI (np_ad a 12) t (0, 0) y_P_hasNote b_P_hasNote 2 (some .boolean) [.ref (a 0), .int (nI i)] (np_gw a cI X) (some (.int (nI (if i < X 0 1 then 1 else 0)))) (np_gw a cI X) := by
  refine np_Ct.of (np_Sc_St _ _) (by decide) (Nat.le_of_ble_eq_true rfl) ?_
  intro p e s m below meth c C
  refine np_at (vs2 := [some (.ref (a 0)), some (.int (nI i))]) rfl ?_
  obtain ⟨x1, x2, xk, xw, x3, x4, x6, x7, x9, xc⟩ := hX
  refine np_iload_n (pc := 0) C d_P_hasNote_0 rfl ?_
  refine np_if_lt (pc := 1) (tgt := 19) C (by omega) d_P_hasNote_1 rfl (fun h1 => ?_) (fun h1 => ?_)
  · refine np_iconst (pc := 19) (v := 0) C d_P_hasNote_19 (by decide) ?_
    exact np_zret (pc := 20) C d_P_hasNote_20 (by omega) (by first | omega | rfl | (repeat' split) <;> omega) (by rfl)
  · refine np_iload_n (pc := 4) C d_P_hasNote_4 rfl ?_
    refine np_aload_n (pc := 5) C d_P_hasNote_5 rfl ?_
    refine np_get (pc := 6) C 0 4 d_P_hasNote_6 rfl rfl rfl (by decide) hin_P m_82 rfl ?_
    refine np_getN (pc := 9) C 5 2 d_P_hasNote_9 rfl rfl rfl (by decide) hin_T (C.2.2.1.1 _ n_1) rfl ?_
    refine np_icmp_ge (pc := 12) (tgt := 19) C (by omega) (by omega) d_P_hasNote_12 rfl (fun h12 => ?_) (fun h12 => ?_)
    · refine np_iconst (pc := 19) (v := 0) C d_P_hasNote_19 (by decide) ?_
      exact np_zret (pc := 20) C d_P_hasNote_20 (by omega) (by first | omega | rfl | (repeat' split) <;> omega) (by rfl)
    · refine np_iconst (pc := 15) (v := 1) C d_P_hasNote_15 (by decide) ?_
      refine np_goto (pc := 16) (tgt := 20) C d_P_hasNote_16 rfl ?_
      exact np_zret (pc := 20) C d_P_hasNote_20 (by omega) (by first | omega | rfl | (repeat' split) <;> omega) (by rfl)
set_option maxRecDepth 20000 in
set_option maxHeartbeats 4000000 in
theorem c_P_ownerOfKey (l : Launch) (D : va_G) {cI : ClassId} (t : Nat → Nat) {a : Nat → Nat} (ha : np_inj a 12) {X : np_X} (xk : np_ok (X 1)) {x : Nat} (hx : x < 65537) : np_C l D cI (np_ad a 12) t (0, 0) y_P_ownerOfKey b_P_ownerOfKey 3 (some .int) [.ref (a 0), .int (nI x)] (np_gw a cI X) (some (.int (nI (np_ow (X 1) x)))) (np_gw a cI X) := by
  refine np_Ct.of (np_Sc_St _ _) (by decide) (Nat.le_of_ble_eq_true rfl) ?_
  intro p e s m below meth c C
  refine np_at (vs2 := [some (.ref (a 0)), some (.int (nI x)), none]) rfl ?_
  have loop : ∀ (n k : Nat), k + n = 4 → (∀ j, j < k → X 1 j ≠ x) → np_V p l e (np_rm (0, 0)) s m ([.ref (a 0), .int (nI x)] : List Value).toArray below meth c 0 0 D np_cls (np_ad a 12) (MQ below (np_Qc D np_cls (np_ad a 12) (some (.int (nI (np_ow (X 1) x)))) (np_gw a cI X)) ([.ref (a 0), .int (nI x)] : List Value).toArray s 0 0 (np_ad a 12)) 3 (np_gw a cI X) 2 [some (.ref (a 0)), some (.int (nI x)), some (.int (nI k))] [] := by
    intro n
    induction n with
    | zero =>
      intro k hi hno
      obtain rfl : k = 4 := by omega
      refine np_iload_n (pc := 2) C d_P_ownerOfKey_2 rfl ?_
      refine np_iconst (pc := 3) (v := 4) C d_P_ownerOfKey_3 (by decide) ?_
      refine np_icmp_ge (pc := 4) (tgt := 25) C (by omega) (by omega) d_P_ownerOfKey_4 rfl (fun h4 => ?_) (fun h4 => ?_)
      · refine np_iconst (pc := 25) (v := 4294967295) C d_P_ownerOfKey_25 (by decide) ?_
        exact np_iret (pc := 26) C d_P_ownerOfKey_26 (by rw [np_ow_no hno]) (by rfl)
      · exfalso; omega
    | succ n ih =>
      intro k hi hno
      have hb := xk k
      refine np_iload_n (pc := 2) C d_P_ownerOfKey_2 rfl ?_
      refine np_iconst (pc := 3) (v := 4) C d_P_ownerOfKey_3 (by decide) ?_
      refine np_icmp_ge (pc := 4) (tgt := 25) C (by omega) (by omega) d_P_ownerOfKey_4 rfl (fun h4 => ?_) (fun h4 => ?_)
      · exfalso; omega
      · refine np_aload_n (pc := 7) C d_P_ownerOfKey_7 rfl ?_
        refine np_get (pc := 8) C 0 0 d_P_ownerOfKey_8 rfl rfl rfl (by decide) hin_P m_78 rfl ?_
        refine np_iload_n (pc := 11) C d_P_ownerOfKey_11 rfl ?_
        refine np_iald (pc := 12) C 1 d_P_ownerOfKey_12 rfl (by omega) (by decide) ?_
        refine np_iload_n (pc := 13) C d_P_ownerOfKey_13 rfl ?_
        refine np_icmp_ne (pc := 14) (tgt := 19) C (by omega) (by omega) d_P_ownerOfKey_14 rfl (fun h14 => ?_) (fun h14 => ?_)
        · refine np_iinc (pc := 19) C d_P_ownerOfKey_19 rfl (np_inc1 _) (by decide) rfl ?_
          refine np_goto (pc := 22) (tgt := 2) C d_P_ownerOfKey_22 rfl ?_
          refine np_at (vs2 := [some (.ref (a 0)), some (.int (nI x)), some (.int (nI (k + 1)))]) rfl ?_
          exact ih (k + 1) (by omega) (lt_s hno h14)
        · refine np_iload_n (pc := 17) C d_P_ownerOfKey_17 rfl ?_
          exact np_iret (pc := 18) C d_P_ownerOfKey_18 (by rw [np_ow_at hno h14 (by omega)]) (by rfl)
  refine np_iconst (pc := 0) (v := 0) C d_P_ownerOfKey_0 (by decide) ?_
  refine np_istore_n (pc := 1) C d_P_ownerOfKey_1 (by decide) rfl ?_
  refine np_at (vs2 := [some (.ref (a 0)), some (.int (nI x)), some (.int (nI 0))]) rfl ?_
  exact loop 4 0 rfl lt_0
set_option maxRecDepth 20000 in
set_option maxHeartbeats 4000000 in
theorem c_P_makeNote (l : Launch) (D : va_G) {cI : ClassId} (t : Nat → Nat) {a : Nat → Nat} (ha : np_inj a 12) {X : np_X} (hX : X 0 1 ≤ 16 ∧ X 0 2 ≤ X 0 1 + 1 ∧ np_ok (X 1) ∧ (∀ j, X 2 j < 4294967296) ∧ np_ok (X 3) ∧ np_ok (X 4) ∧ np_ok (X 6) ∧ np_ok (X 7) ∧ np_ok (X 9) ∧ np_ok (X 11)) {key v n : Nat} (hk0 : key < 65537) (hv : v < 65537) (hn : n < 65537) (hf : X 0 1 < 16) : np_C l D cI (np_ad a 12) t (4, 89) y_P_makeNote b_P_makeNote 5 (some .int) [.ref (a 0), .int (nI key), .int (nI v), .int (nI n)] (np_gw a cI X) (some (.int (nI (X 0 1)))) (np_gw a cI (np_mkn X key v n)) := by
  refine np_Ct.of (np_Sc_St _ _) (by decide) (Nat.le_of_ble_eq_true rfl) ?_
  intro p e s m below meth c C
  refine np_at (vs2 := [some (.ref (a 0)), some (.int (nI key)), some (.int (nI v)), some (.int (nI n)), none]) rfl ?_
  obtain ⟨x1, x2, xk, xw, x3, x4, x6, x7, x9, xc⟩ := hX
  have hXa : np_XI (np_apd X (np_hh (np_hh key v) n)) := ⟨show X 0 1 + 1 ≤ 16 by omega, show X 0 2 ≤ X 0 1 + 1 by omega, xk, xw, x3, x4, np_ok_ups (np_ok_upd x6 (np_hh_lt _ _)) _ _, np_ok_upd x7 (np_ok_ups (np_ok_upd x6 (np_hh_lt _ _)) _ _ _), x9, xc⟩
  refine np_aload_n (pc := 0) C d_P_makeNote_0 rfl ?_
  refine np_get (pc := 1) C 0 4 d_P_makeNote_1 rfl rfl rfl (by decide) hin_P m_82 rfl ?_
  refine np_iload_n (pc := 4) C d_P_makeNote_4 rfl ?_
  refine np_iload_n (pc := 5) C d_P_makeNote_5 rfl ?_
  refine np_cSi (pc := 6) C (c_P_hashOf l D t hk0 hv) np_TS_good d_P_makeNote_6 m_26 m_77 m_1 m_25 hd_P_hashOf (by decide) rfl rfl (Nat.le_of_ble_eq_true rfl) ?_
  refine np_iload_n (pc := 9) C d_P_makeNote_9 rfl ?_
  refine np_cSi (pc := 10) C (c_P_hashOf l D t (np_hh_lt _ _) hn) np_TS_good d_P_makeNote_10 m_26 m_77 m_1 m_25 hd_P_hashOf (by decide) rfl rfl (Nat.le_of_ble_eq_true rfl) ?_
  refine np_cVi (pc := 13) C 5 (c_T_append l D t ha (np_hh_lt _ _) hf x6) np_TS_good d_P_makeNote_13 rfl rfl m_131 m_128 m_2 m_129 m_130 hd_T_append (by decide) rfl rfl (Nat.le_of_ble_eq_true rfl) ?_
  refine np_istore (pc := 16) C d_P_makeNote_16 (by decide) rfl ?_
  refine np_aload_n (pc := 18) C d_P_makeNote_18 rfl ?_
  refine np_iload (pc := 19) C d_P_makeNote_19 rfl ?_
  refine np_cVi (pc := 21) C 0 (c_P_hasNote l D t ha hXa (show X 0 1 < 4294967296 by omega)) np_TS_good d_P_makeNote_21 rfl rfl m_136 m_133 m_1 m_135 ms_P_hasNote hd_P_hasNote (by decide) rfl rfl (Nat.le_of_ble_eq_true rfl) ?_
  refine np_ifz_eq (pc := 24) (tgt := 55) C d_P_makeNote_24 rfl (fun h24 => ?_) (fun h24 => ?_)
  · exact absurd (Nat.lt_succ_self _) h24
  · refine np_aload_n (pc := 27) C d_P_makeNote_27 rfl ?_
    refine np_get (pc := 28) C 0 1 d_P_makeNote_28 rfl rfl rfl (by decide) hin_P m_79 rfl ?_
    refine np_iload (pc := 31) C d_P_makeNote_31 rfl ?_
    refine np_aload_n (pc := 33) C d_P_makeNote_33 rfl ?_
    refine np_iload_n (pc := 34) C d_P_makeNote_34 rfl ?_
    refine np_cVi (pc := 35) C 0 (c_P_ownerOfKey l D t ha (X := np_apd X (np_hh (np_hh key v) n)) xk hk0) np_TS_good d_P_makeNote_35 rfl rfl m_140 m_137 m_1 m_139 ms_P_ownerOfKey hd_P_ownerOfKey (by decide) rfl rfl (Nat.le_of_ble_eq_true rfl) ?_
    refine np_iastG (pc := 38) C (np_gw a cI) _ 2 2 (np_gD ha _) d_P_makeNote_38 rfl (gs_2 a cI _) (by omega) (by decide) ?_
    refine np_aload_n (pc := 39) C d_P_makeNote_39 rfl ?_
    refine np_get (pc := 40) C 0 2 d_P_makeNote_40 rfl rfl rfl (by decide) hin_P m_80 rfl ?_
    refine np_iload (pc := 43) C d_P_makeNote_43 rfl ?_
    refine np_iload_n (pc := 45) C d_P_makeNote_45 rfl ?_
    refine np_iastG (pc := 46) C (np_gw a cI) _ 3 3 (np_gD ha _) d_P_makeNote_46 rfl (gs_3 a cI _) (by omega) (by decide) ?_
    refine np_aload_n (pc := 47) C d_P_makeNote_47 rfl ?_
    refine np_get (pc := 48) C 0 3 d_P_makeNote_48 rfl rfl rfl (by decide) hin_P m_81 rfl ?_
    refine np_iload (pc := 51) C d_P_makeNote_51 rfl ?_
    refine np_iload_n (pc := 53) C d_P_makeNote_53 rfl ?_
    refine np_iastG (pc := 54) C (np_gw a cI) _ 4 4 (np_gD ha _) d_P_makeNote_54 rfl (gs_4 a cI _) (by omega) (by decide) ?_
    refine np_iload (pc := 55) C d_P_makeNote_55 rfl ?_
    exact np_iret (pc := 57) C d_P_makeNote_57 (by first | omega | rfl | (repeat' split) <;> omega) (by rfl)
set_option maxRecDepth 20000 in
set_option maxHeartbeats 4000000 in
theorem c_P_markOf (l : Launch) (D : va_G) {cI : ClassId} (t : Nat → Nat) {a : Nat → Nat} (ha : np_inj a 12) {X : np_X} (x6 : np_ok (X 6)) {i : Nat} (hi : i < 16) (ho : X 2 i < 4) : np_C l D cI (np_ad a 12) t (2, 45) y_P_markOf b_P_markOf 2 (some .int) [.ref (a 0), .int (nI i)] (np_gw a cI X) (some (.int (nI (np_mo X i)))) (np_gw a cI X) := by
  refine np_Ct.of (np_Sc_St _ _) (by decide) (Nat.le_of_ble_eq_true rfl) ?_
  intro p e s m below meth c C
  refine np_at (vs2 := [some (.ref (a 0)), some (.int (nI i))]) rfl ?_
  refine np_aload_n (pc := 0) C d_P_markOf_0 rfl ?_
  refine np_get (pc := 1) C 0 1 d_P_markOf_1 rfl rfl rfl (by decide) hin_P m_79 rfl ?_
  refine np_iload_n (pc := 4) C d_P_markOf_4 rfl ?_
  refine np_iald (pc := 5) C 2 d_P_markOf_5 rfl (by omega) (by decide) ?_
  refine np_cSi (pc := 6) C (c_P_secretOf l D t) np_TS_good d_P_markOf_6 m_76 m_74 m_1 m_75 hd_P_secretOf (by decide) rfl rfl (Nat.le_of_ble_eq_true rfl) ?_
  refine np_aload_n (pc := 9) C d_P_markOf_9 rfl ?_
  refine np_get (pc := 10) C 0 4 d_P_markOf_10 rfl rfl rfl (by decide) hin_P m_82 rfl ?_
  refine np_iconst (pc := 13) (v := 0) C d_P_markOf_13 (by decide) ?_
  refine np_iload_n (pc := 14) C d_P_markOf_14 rfl ?_
  refine np_cVi (pc := 15) C 5 (c_T_nodeAt l D t ha (by omega) (by omega)) np_TS_good d_P_markOf_15 rfl rfl m_160 m_252 m_2 m_158 m_159 hd_T_nodeAt (by decide) rfl rfl (Nat.le_of_ble_eq_true rfl) ?_
  refine np_top (y := X 6 (16 + i)) (by rw [np_na_0 hi]) ?_
  refine np_cSi (pc := 18) C (c_P_hashOf l D t (by omega) (x6 _)) np_TS_good d_P_markOf_18 m_26 m_77 m_1 m_25 hd_P_hashOf (by decide) rfl rfl (Nat.le_of_ble_eq_true rfl) ?_
  exact np_iret (pc := 21) C d_P_markOf_21 (by first | omega | rfl | (repeat' split) <;> omega) (by rfl)
set_option maxRecDepth 20000 in
set_option maxHeartbeats 4000000 in
theorem c_P_hash (l : Launch) (D : va_G) {cI : ClassId} (t : Nat → Nat) {a : Nat → Nat} (ha : np_inj a 12) {X : np_X} (hX : np_XI X) {x y : Nat} (hx : x < 4294967296) (hy : y < 4294967296) : np_C l D cI (np_ad a 12) t (2, 45) y_P_hash b_P_hash 3 (some .int) [.ref (a 0), .int (nI x), .int (nI y)] (np_gw a cI X) (some (.int (nI (if x < 65537 then (if y < 65537 then np_hh x y else 4294967295) else 4294967295)))) (np_gw a cI X) := by
  refine np_Ct.of (np_Sc_St _ _) (by decide) (Nat.le_of_ble_eq_true rfl) ?_
  intro p e s m below meth c C
  refine np_at (vs2 := [some (.ref (a 0)), some (.int (nI x)), some (.int (nI y))]) rfl ?_
  obtain ⟨x1, x2, xk, xw, x3, x4, x6, x7, x9, xc⟩ := hX
  refine np_iload_n (pc := 0) C d_P_hash_0 rfl ?_
  refine np_cSi (pc := 1) C (c_P_isNumber l D t (by omega)) np_TS_good d_P_hash_1 m_109 m_107 m_1 m_108 hd_P_isNumber (by decide) rfl rfl (Nat.le_of_ble_eq_true rfl) ?_
  refine np_ifz_eq (pc := 4) (tgt := 14) C d_P_hash_4 rfl (fun h4 => ?_) (fun h4 => ?_)
  · refine np_iconst (pc := 14) (v := 4294967295) C d_P_hash_14 (by decide) ?_
    exact np_iret (pc := 15) C d_P_hash_15 (by (repeat' split) <;> first | omega | rfl) (by rfl)
  · refine np_iload_n (pc := 7) C d_P_hash_7 rfl ?_
    refine np_cSi (pc := 8) C (c_P_isNumber l D t (by omega)) np_TS_good d_P_hash_8 m_109 m_107 m_1 m_108 hd_P_isNumber (by decide) rfl rfl (Nat.le_of_ble_eq_true rfl) ?_
    refine np_ifz_ne (pc := 11) (tgt := 16) C d_P_hash_11 rfl (fun h11 => ?_) (fun h11 => ?_)
    · refine np_iload_n (pc := 16) C d_P_hash_16 rfl ?_
      refine np_iload_n (pc := 17) C d_P_hash_17 rfl ?_
      refine np_cSi (pc := 18) C (c_P_hashOf l D t (by omega) (by omega)) np_TS_good d_P_hash_18 m_26 m_77 m_1 m_25 hd_P_hashOf (by decide) rfl rfl (Nat.le_of_ble_eq_true rfl) ?_
      exact np_iret (pc := 21) C d_P_hash_21 (by (repeat' split) <;> first | omega | rfl) (by rfl)
    · refine np_iconst (pc := 14) (v := 4294967295) C d_P_hash_14 (by decide) ?_
      exact np_iret (pc := 15) C d_P_hash_15 (by (repeat' split) <;> first | omega | rfl) (by rfl)
set_option maxRecDepth 20000 in
set_option maxHeartbeats 4000000 in
theorem c_P_deposit (l : Launch) (D : va_G) {cI : ClassId} (t : Nat → Nat) {a : Nat → Nat} (ha : np_inj a 12) {X : np_X} (hX : np_XI X) {x v n : Nat} (hx : x < 4294967296) (hv : v < 4294967296) (hn : n < 4294967296) : np_C l D cI (np_ad a 12) t (5, 113) y_P_deposit b_P_deposit 4 (some .int) [.ref (a 0), .int (nI x), .int (nI v), .int (nI n)] (np_gw a cI X) (some (.int (nI (np_depR X x v n)))) (np_gw a cI (np_depX X x v n)) := by
  refine np_Ct.of (np_Sc_St _ _) (by decide) (Nat.le_of_ble_eq_true rfl) ?_
  intro p e s m below meth c C
  refine np_at (vs2 := [some (.ref (a 0)), some (.int (nI x)), some (.int (nI v)), some (.int (nI n))]) rfl ?_
  obtain ⟨x1, x2, xk, xw, x3, x4, x6, x7, x9, xc⟩ := hX
  refine np_iload_n (pc := 0) C d_P_deposit_0 rfl ?_
  refine np_cSi (pc := 1) C (c_P_isAccount l D t (by omega)) np_TS_good d_P_deposit_1 m_116 m_114 m_1 m_115 hd_P_isAccount (by decide) rfl rfl (Nat.le_of_ble_eq_true rfl) ?_
  refine np_ifz_ne (pc := 4) (tgt := 10) C d_P_deposit_4 rfl (fun h4 => ?_) (fun h4 => ?_)
  · refine np_iload_n (pc := 10) C d_P_deposit_10 rfl ?_
    refine np_cSi (pc := 11) C (c_P_isValue l D t (by omega)) np_TS_good d_P_deposit_11 m_119 m_117 m_1 m_118 hd_P_isValue (by decide) rfl rfl (Nat.le_of_ble_eq_true rfl) ?_
    refine np_ifz_eq (pc := 14) (tgt := 24) C d_P_deposit_14 rfl (fun h14 => ?_) (fun h14 => ?_)
    · refine np_bipush (pc := 24) (v := 4294967293) C d_P_deposit_24 (by decide) ?_
      exact np_iret (pc := 26) C d_P_deposit_26 (by unfold np_depR; (repeat' split) <;> first | omega | rfl) (by unfold np_depX; (repeat' split) <;> first | (exfalso; omega) | rfl)
    · refine np_iload_n (pc := 17) C d_P_deposit_17 rfl ?_
      refine np_cSi (pc := 18) C (c_P_isNumber l D t (by omega)) np_TS_good d_P_deposit_18 m_109 m_107 m_1 m_108 hd_P_isNumber (by decide) rfl rfl (Nat.le_of_ble_eq_true rfl) ?_
      refine np_ifz_ne (pc := 21) (tgt := 27) C d_P_deposit_21 rfl (fun h21 => ?_) (fun h21 => ?_)
      · refine np_aload_n (pc := 27) C d_P_deposit_27 rfl ?_
        refine np_get (pc := 28) C 0 4 d_P_deposit_28 rfl rfl rfl (by decide) hin_P m_82 rfl ?_
        refine np_cVi (pc := 31) C 5 (c_T_isFull l D t ha x1) np_TS_good d_P_deposit_31 rfl rfl m_123 m_120 m_2 m_121 m_122 hd_T_isFull (by decide) rfl rfl (Nat.le_of_ble_eq_true rfl) ?_
        refine np_ifz_eq (pc := 34) (tgt := 40) C d_P_deposit_34 rfl (fun h34 => ?_) (fun h34 => ?_)
        · refine np_aload_n (pc := 40) C d_P_deposit_40 rfl ?_
          refine np_dup (pc := 41) C rfl d_P_deposit_41 ?_
          refine np_get (pc := 42) C 0 7 d_P_deposit_42 rfl rfl rfl (by decide) hin_P m_85 rfl ?_
          refine np_iload_n (pc := 45) C d_P_deposit_45 rfl ?_
          refine np_iadd (pc := 46) C d_P_deposit_46 ?_
          refine np_putG (pc := 47) C (np_gw a cI) _ 0 7 0 (np_gD ha _) d_P_deposit_47 rfl (gp_0 a cI _) rfl (by decide) hin_P ty_P tyok_P nm_P m_85 rfl rfl rfl (Nat.le_of_ble_eq_true rfl) ?_
          refine np_aload_n (pc := 50) C d_P_deposit_50 rfl ?_
          refine np_aload_n (pc := 51) C d_P_deposit_51 rfl ?_
          refine np_get (pc := 52) C 0 0 d_P_deposit_52 rfl rfl rfl (by decide) hin_P m_78 rfl ?_
          refine np_iload_n (pc := 55) C d_P_deposit_55 rfl ?_
          refine np_iald (pc := 56) C 1 d_P_deposit_56 rfl (by omega) (by decide) ?_
          refine np_iload_n (pc := 57) C d_P_deposit_57 rfl ?_
          refine np_iload_n (pc := 58) C d_P_deposit_58 rfl ?_
          refine np_cVi (pc := 59) C 0 (c_P_makeNote l D t ha (X := va_up X 0 (updN (X 0) 0 (X 0 0 + v))) ⟨x1, show X 0 2 ≤ X 0 1 + 1 by omega, xk, xw, x3, x4, x6, x7, x9, xc⟩ (xk _) (by omega) (by omega) (show X 0 1 < 16 by omega)) np_TS_good d_P_deposit_59 rfl rfl m_127 m_124 m_1 m_126 ms_P_makeNote hd_P_makeNote (by decide) rfl rfl (Nat.le_of_ble_eq_true rfl) ?_
          exact np_iret (pc := 62) C d_P_deposit_62 (by unfold np_depR; (repeat' split) <;> first | omega | rfl) (by unfold np_depX; (repeat' split) <;> first | (exfalso; omega) | rfl)
        · refine np_bipush (pc := 37) (v := 4294967289) C d_P_deposit_37 (by decide) ?_
          exact np_iret (pc := 39) C d_P_deposit_39 (by unfold np_depR; (repeat' split) <;> first | omega | rfl) (by unfold np_depX; (repeat' split) <;> first | (exfalso; omega) | rfl)
      · refine np_bipush (pc := 24) (v := 4294967293) C d_P_deposit_24 (by decide) ?_
        exact np_iret (pc := 26) C d_P_deposit_26 (by unfold np_depR; (repeat' split) <;> first | omega | rfl) (by unfold np_depX; (repeat' split) <;> first | (exfalso; omega) | rfl)
  · refine np_bipush (pc := 7) (v := 4294967294) C d_P_deposit_7 (by decide) ?_
    exact np_iret (pc := 9) C d_P_deposit_9 (by unfold np_depR; (repeat' split) <;> first | omega | rfl) (by unfold np_depX; (repeat' split) <;> first | (exfalso; omega) | rfl)
set_option maxRecDepth 20000 in
set_option maxHeartbeats 4000000 in
theorem c_P_load (l : Launch) (D : va_G) {cI : ClassId} (t : Nat → Nat) {a : Nat → Nat} (ha : np_inj a 12) {X : np_X} (hX : np_XI X) {q y am wd nn : Nat} (hq : q < 4294967296) (hy : y < 4294967296) (ham : am < 4294967296) (hwd : wd < 4294967296) (hnn : nn < 4294967296) : np_C l D cI (np_ad a 12) t (4, 92) y_P_load b_P_load 6 (some .int) [.ref (a 0), .int (nI q), .int (nI y), .int (nI am), .int (nI wd), .int (nI nn)] (np_gw a cI X) (some (.int (nI (np_ldR X q y am wd nn)))) (np_gw a cI (np_ldX X q y am wd nn)) := by
  refine np_Ct.of (np_Sc_St _ _) (by decide) (Nat.le_of_ble_eq_true rfl) ?_
  intro p e s m below meth c C
  refine np_at (vs2 := [some (.ref (a 0)), some (.int (nI q)), some (.int (nI y)), some (.int (nI am)), some (.int (nI wd)), some (.int (nI nn))]) rfl ?_
  obtain ⟨x1, x2, xk, xw, x3, x4, x6, x7, x9, xc⟩ := hX
  refine np_aload_n (pc := 0) C d_P_load_0 rfl ?_
  refine np_iload_n (pc := 1) C d_P_load_1 rfl ?_
  refine np_cVi (pc := 2) C 0 (c_P_hasNote l D t ha ⟨x1, x2, xk, xw, x3, x4, x6, x7, x9, xc⟩ (by omega)) np_TS_good d_P_load_2 rfl rfl m_136 m_133 m_1 m_135 ms_P_hasNote hd_P_hasNote (by decide) rfl rfl (Nat.le_of_ble_eq_true rfl) ?_
  refine np_ifz_eq (pc := 5) (tgt := 15) C d_P_load_5 rfl (fun h5 => ?_) (fun h5 => ?_)
  · refine np_bipush (pc := 15) (v := 4294967294) C d_P_load_15 (by decide) ?_
    exact np_iret (pc := 17) C d_P_load_17 (by unfold np_ldR; (repeat' split) <;> first | omega | rfl) (by unfold np_ldX; (repeat' split) <;> first | (exfalso; omega) | rfl)
  · refine np_iload_n (pc := 8) C d_P_load_8 rfl ?_
    refine np_cSi (pc := 9) C (c_P_isAccount l D t (by omega)) np_TS_good d_P_load_9 m_116 m_114 m_1 m_115 hd_P_isAccount (by decide) rfl rfl (Nat.le_of_ble_eq_true rfl) ?_
    refine np_ifz_ne (pc := 12) (tgt := 18) C d_P_load_12 rfl (fun h12 => ?_) (fun h12 => ?_)
    · refine np_aload_n (pc := 18) C d_P_load_18 rfl ?_
      refine np_get (pc := 19) C 0 1 d_P_load_19 rfl rfl rfl (by decide) hin_P m_79 rfl ?_
      refine np_iload_n (pc := 22) C d_P_load_22 rfl ?_
      refine np_iald (pc := 23) C 2 d_P_load_23 rfl (by omega) (by decide) ?_
      refine np_cSi (pc := 24) C (c_P_isAccount l D t (xw _)) np_TS_good d_P_load_24 m_116 m_114 m_1 m_115 hd_P_isAccount (by decide) rfl rfl (Nat.le_of_ble_eq_true rfl) ?_
      refine np_ifz_ne (pc := 27) (tgt := 32) C d_P_load_27 rfl (fun h27 => ?_) (fun h27 => ?_)
      · refine np_iload_n (pc := 32) C d_P_load_32 rfl ?_
        refine np_cSi (pc := 33) C (c_P_isValue l D t (by omega)) np_TS_good d_P_load_33 m_119 m_117 m_1 m_118 hd_P_isValue (by decide) rfl rfl (Nat.le_of_ble_eq_true rfl) ?_
        refine np_ifz_eq (pc := 36) (tgt := 55) C d_P_load_36 rfl (fun h36 => ?_) (fun h36 => ?_)
        · refine np_bipush (pc := 55) (v := 4294967293) C d_P_load_55 (by decide) ?_
          exact np_iret (pc := 57) C d_P_load_57 (by unfold np_ldR; (repeat' split) <;> first | omega | rfl) (by unfold np_ldX; (repeat' split) <;> first | (exfalso; omega) | rfl)
        · refine np_iload (pc := 39) C d_P_load_39 rfl ?_
          refine np_cSi (pc := 41) C (c_P_isValue l D t (by omega)) np_TS_good d_P_load_41 m_119 m_117 m_1 m_118 hd_P_isValue (by decide) rfl rfl (Nat.le_of_ble_eq_true rfl) ?_
          refine np_ifz_eq (pc := 44) (tgt := 55) C d_P_load_44 rfl (fun h44 => ?_) (fun h44 => ?_)
          · refine np_bipush (pc := 55) (v := 4294967293) C d_P_load_55 (by decide) ?_
            exact np_iret (pc := 57) C d_P_load_57 (by unfold np_ldR; (repeat' split) <;> first | omega | rfl) (by unfold np_ldX; (repeat' split) <;> first | (exfalso; omega) | rfl)
          · refine np_iload (pc := 47) C d_P_load_47 rfl ?_
            refine np_cSi (pc := 49) C (c_P_isNumber l D t (by omega)) np_TS_good d_P_load_49 m_109 m_107 m_1 m_108 hd_P_isNumber (by decide) rfl rfl (Nat.le_of_ble_eq_true rfl) ?_
            refine np_ifz_ne (pc := 52) (tgt := 58) C d_P_load_52 rfl (fun h52 => ?_) (fun h52 => ?_)
            · refine np_aload_n (pc := 58) C d_P_load_58 rfl ?_
              refine np_get (pc := 59) C 0 6 d_P_load_59 rfl rfl rfl (by decide) hin_P m_84 rfl ?_
              refine np_aload_n (pc := 62) C d_P_load_62 rfl ?_
              refine np_get (pc := 63) C 0 1 d_P_load_63 rfl rfl rfl (by decide) hin_P m_79 rfl ?_
              refine np_iload_n (pc := 66) C d_P_load_66 rfl ?_
              refine np_iald (pc := 67) C 2 d_P_load_67 rfl (by omega) (by decide) ?_
              refine np_cSi (pc := 68) C (c_P_secretOf l D t) np_TS_good d_P_load_68 m_76 m_74 m_1 m_75 hd_P_secretOf (by decide) rfl rfl (Nat.le_of_ble_eq_true rfl) ?_
              refine np_aload_n (pc := 71) C d_P_load_71 rfl ?_
              refine np_get (pc := 72) C 0 2 d_P_load_72 rfl rfl rfl (by decide) hin_P m_80 rfl ?_
              refine np_iload_n (pc := 75) C d_P_load_75 rfl ?_
              refine np_iald (pc := 76) C 3 d_P_load_76 rfl (by omega) (by decide) ?_
              refine np_aload_n (pc := 77) C d_P_load_77 rfl ?_
              refine np_get (pc := 78) C 0 3 d_P_load_78 rfl rfl rfl (by decide) hin_P m_81 rfl ?_
              refine np_iload_n (pc := 81) C d_P_load_81 rfl ?_
              refine np_iald (pc := 82) C 4 d_P_load_82 rfl (by omega) (by decide) ?_
              have hF0 : np_ok (np_tpa (X 6) q (np_tkp (updN (updN (updN (X 11) 5 (100 + X 2 q)) 6 (X 3 q)) 7 (X 4 q)) (X 1 y) am wd nn) 4) := np_ok_tpa x6 (np_ok_tkp (np_ok_upd (np_ok_upd (np_ok_upd xc (by omega)) (x3 _)) (x4 _)) (xk _) (by omega) (by omega) (by omega)) (by omega) 4 (by omega)
              refine np_cVv (pc := 83) C 10 (c_S_takeNote l D t ha) np_TS_good d_P_load_83 rfl rfl m_148 m_145 m_4 m_146 m_147 hd_S_takeNote (by decide) rfl rfl (Nat.le_of_ble_eq_true rfl) ?_
              refine np_aload_n (pc := 86) C d_P_load_86 rfl ?_
              refine np_get (pc := 87) C 0 6 d_P_load_87 rfl rfl rfl (by decide) hin_P m_84 rfl ?_
              refine np_aload_n (pc := 90) C d_P_load_90 rfl ?_
              refine np_get (pc := 91) C 0 0 d_P_load_91 rfl rfl rfl (by decide) hin_P m_78 rfl ?_
              refine np_iload_n (pc := 94) C d_P_load_94 rfl ?_
              refine np_iald (pc := 95) C 1 d_P_load_95 rfl (by omega) (by decide) ?_
              refine np_iload_n (pc := 96) C d_P_load_96 rfl ?_
              refine np_iload (pc := 97) C d_P_load_97 rfl ?_
              refine np_iload (pc := 99) C d_P_load_99 rfl ?_
              refine np_cVv (pc := 101) C 10 (c_S_takePayment l D t ha (by omega)) np_TS_good d_P_load_101 rfl rfl m_152 m_149 m_4 m_150 m_151 hd_S_takePayment (by decide) rfl rfl (Nat.le_of_ble_eq_true rfl) ?_
              refine np_aload_n (pc := 104) C d_P_load_104 rfl ?_
              refine np_get (pc := 105) C 0 6 d_P_load_105 rfl rfl rfl (by decide) hin_P m_84 rfl ?_
              refine np_iload_n (pc := 108) C d_P_load_108 rfl ?_
              refine np_aload_n (pc := 109) C d_P_load_109 rfl ?_
              refine np_get (pc := 110) C 0 4 d_P_load_110 rfl rfl rfl (by decide) hin_P m_82 rfl ?_
              refine np_cVv (pc := 113) C 10 (c_S_takePath l D t ha (by omega)) np_TS_good d_P_load_113 rfl rfl m_156 m_153 m_4 m_154 m_155 hd_S_takePath (by decide) rfl rfl (Nat.le_of_ble_eq_true rfl) ?_
              refine np_aload_n (pc := 116) C d_P_load_116 rfl ?_
              refine np_get (pc := 117) C 0 6 d_P_load_117 rfl rfl rfl (by decide) hin_P m_84 rfl ?_
              refine np_cVv (pc := 120) C 10 (c_S_complete l D t ha hF0) np_TS_good d_P_load_120 rfl rfl m_164 m_161 m_4 m_162 m_163 hd_S_complete (by decide) rfl rfl (Nat.le_of_ble_eq_true rfl) ?_
              refine np_aload_n (pc := 123) C d_P_load_123 rfl ?_
              refine np_get (pc := 124) C 0 6 d_P_load_124 rfl rfl rfl (by decide) hin_P m_84 rfl ?_
              refine np_cVi (pc := 127) C 10 (c_S_firstFault l D t ha (np_ok_cpl _ _ _ hF0)) np_TS_good d_P_load_127 rfl rfl m_208 m_205 m_4 m_206 m_207 hd_S_firstFault (by decide) rfl rfl (Nat.le_of_ble_eq_true rfl) ?_
              refine np_iconst (pc := 130) (v := 4294967295) C d_P_load_130 (by decide) ?_
              refine np_atst (st2 := [.int (nI 4294967295), .int (nI (np_flt (np_ldF X q y am wd nn) 0 115))]) rfl ?_
              refine np_icmp_ne (pc := 131) (tgt := 138) C (by first | exact np_flt_lt _ 115 0 rfl | omega) (by first | exact np_flt_lt _ 115 0 rfl | omega) d_P_load_131 rfl (fun h131 => ?_) (fun h131 => ?_)
              · refine np_iconst (pc := 138) (v := 0) C d_P_load_138 (by decide) ?_
                exact np_iret (pc := 139) C d_P_load_139 (by unfold np_ldR; (repeat' split) <;> first | omega | rfl) (by unfold np_ldX; (repeat' split) <;> first | (exfalso; omega) | rfl)
              · refine np_iconst (pc := 134) (v := 1) C d_P_load_134 (by decide) ?_
                refine np_goto (pc := 135) (tgt := 139) C d_P_load_135 rfl ?_
                exact np_iret (pc := 139) C d_P_load_139 (by unfold np_ldR; (repeat' split) <;> first | omega | rfl) (by unfold np_ldX; (repeat' split) <;> first | (exfalso; omega) | rfl)
            · refine np_bipush (pc := 55) (v := 4294967293) C d_P_load_55 (by decide) ?_
              exact np_iret (pc := 57) C d_P_load_57 (by unfold np_ldR; (repeat' split) <;> first | omega | rfl) (by unfold np_ldX; (repeat' split) <;> first | (exfalso; omega) | rfl)
      · refine np_iconst (pc := 30) (v := 4294967295) C d_P_load_30 (by decide) ?_
        exact np_iret (pc := 31) C d_P_load_31 (by unfold np_ldR; (repeat' split) <;> first | omega | rfl) (by unfold np_ldX; (repeat' split) <;> first | (exfalso; omega) | rfl)
    · refine np_bipush (pc := 15) (v := 4294967294) C d_P_load_15 (by decide) ?_
      exact np_iret (pc := 17) C d_P_load_17 (by unfold np_ldR; (repeat' split) <;> first | omega | rfl) (by unfold np_ldX; (repeat' split) <;> first | (exfalso; omega) | rfl)
set_option maxRecDepth 20000 in
set_option maxHeartbeats 4000000 in
theorem c_P_set (l : Launch) (D : va_G) {cI : ClassId} (t : Nat → Nat) {a : Nat → Nat} (ha : np_inj a 12) {X : np_X} (hX : np_XI X) {x n : Nat} (hx : x < 4294967296) (hn : n < 4294967296) : np_C l D cI (np_ad a 12) t (1, 20) y_P_set b_P_set 3 (some .boolean) [.ref (a 0), .int (nI x), .int (nI n)] (np_gw a cI X) (some (.int (nI (np_stR x n)))) (np_gw a cI (np_stX X x n)) := by
  refine np_Ct.of (np_Sc_St _ _) (by decide) (Nat.le_of_ble_eq_true rfl) ?_
  intro p e s m below meth c C
  refine np_at (vs2 := [some (.ref (a 0)), some (.int (nI x)), some (.int (nI n))]) rfl ?_
  obtain ⟨x1, x2, xk, xw, x3, x4, x6, x7, x9, xc⟩ := hX
  refine np_iload_n (pc := 0) C d_P_set_0 rfl ?_
  refine np_cSi (pc := 1) C (c_S_isCell l D t (by omega)) np_TS_good d_P_set_1 m_215 m_213 m_4 m_214 hd_S_isCell (by decide) rfl rfl (Nat.le_of_ble_eq_true rfl) ?_
  refine np_ifz_eq (pc := 4) (tgt := 18) C d_P_set_4 rfl (fun h4 => ?_) (fun h4 => ?_)
  · refine np_iconst (pc := 18) (v := 0) C d_P_set_18 (by decide) ?_
    exact np_zret (pc := 19) C d_P_set_19 (by omega) (by unfold np_stR; (repeat' split) <;> first | omega | rfl) (by unfold np_stX; (repeat' split) <;> first | (exfalso; omega) | rfl)
  · refine np_iload_n (pc := 7) C d_P_set_7 rfl ?_
    refine np_if_eq (pc := 8) (tgt := 18) C (by omega) d_P_set_8 rfl (fun h8 => ?_) (fun h8 => ?_)
    · refine np_iconst (pc := 18) (v := 0) C d_P_set_18 (by decide) ?_
      exact np_zret (pc := 19) C d_P_set_19 (by omega) (by unfold np_stR; (repeat' split) <;> first | omega | rfl) (by unfold np_stX; (repeat' split) <;> first | (exfalso; omega) | rfl)
    · refine np_iload_n (pc := 11) C d_P_set_11 rfl ?_
      refine np_cSi (pc := 12) C (c_P_isNumber l D t (by omega)) np_TS_good d_P_set_12 m_109 m_107 m_1 m_108 hd_P_isNumber (by decide) rfl rfl (Nat.le_of_ble_eq_true rfl) ?_
      refine np_ifz_ne (pc := 15) (tgt := 20) C d_P_set_15 rfl (fun h15 => ?_) (fun h15 => ?_)
      · refine np_aload_n (pc := 20) C d_P_set_20 rfl ?_
        refine np_get (pc := 21) C 0 6 d_P_set_21 rfl rfl rfl (by decide) hin_P m_84 rfl ?_
        refine np_getN (pc := 24) C 10 0 d_P_set_24 rfl rfl rfl (by decide) hin_S (C.2.2.1.1 _ n_4) rfl ?_
        refine np_iload_n (pc := 27) C d_P_set_27 rfl ?_
        refine np_iload_n (pc := 28) C d_P_set_28 rfl ?_
        refine np_iastG (pc := 29) C (np_gw a cI) _ 11 11 (np_gD ha _) d_P_set_29 rfl (gs_11 a cI _) (by omega) (by decide) ?_
        refine np_iconst (pc := 30) (v := 1) C d_P_set_30 (by decide) ?_
        exact np_zret (pc := 31) C d_P_set_31 (by omega) (by unfold np_stR; (repeat' split) <;> first | omega | rfl) (by unfold np_stX; (repeat' split) <;> first | (exfalso; omega) | rfl)
      · refine np_iconst (pc := 18) (v := 0) C d_P_set_18 (by decide) ?_
        exact np_zret (pc := 19) C d_P_set_19 (by omega) (by unfold np_stR; (repeat' split) <;> first | omega | rfl) (by unfold np_stX; (repeat' split) <;> first | (exfalso; omega) | rfl)
set_option maxRecDepth 20000 in
set_option maxHeartbeats 4000000 in
theorem c_P_get (l : Launch) (D : va_G) {cI : ClassId} (t : Nat → Nat) {a : Nat → Nat} (ha : np_inj a 12) {X : np_X} (hX : np_XI X) {x : Nat} (hx : x < 4294967296) : np_C l D cI (np_ad a 12) t (1, 20) y_P_get b_P_get 2 (some .int) [.ref (a 0), .int (nI x)] (np_gw a cI X) (some (.int (nI (if x < 125 then X 11 x else 4294967295)))) (np_gw a cI X) := by
  refine np_Ct.of (np_Sc_St _ _) (by decide) (Nat.le_of_ble_eq_true rfl) ?_
  intro p e s m below meth c C
  refine np_at (vs2 := [some (.ref (a 0)), some (.int (nI x))]) rfl ?_
  obtain ⟨x1, x2, xk, xw, x3, x4, x6, x7, x9, xc⟩ := hX
  refine np_iload_n (pc := 0) C d_P_get_0 rfl ?_
  refine np_cSi (pc := 1) C (c_S_isCell l D t (by omega)) np_TS_good d_P_get_1 m_215 m_213 m_4 m_214 hd_S_isCell (by decide) rfl rfl (Nat.le_of_ble_eq_true rfl) ?_
  refine np_ifz_eq (pc := 4) (tgt := 19) C d_P_get_4 rfl (fun h4 => ?_) (fun h4 => ?_)
  · refine np_iconst (pc := 19) (v := 4294967295) C d_P_get_19 (by decide) ?_
    exact np_iret (pc := 20) C d_P_get_20 (by first | omega | rfl | (repeat' split) <;> omega) (by rfl)
  · refine np_aload_n (pc := 7) C d_P_get_7 rfl ?_
    refine np_get (pc := 8) C 0 6 d_P_get_8 rfl rfl rfl (by decide) hin_P m_84 rfl ?_
    refine np_getN (pc := 11) C 10 0 d_P_get_11 rfl rfl rfl (by decide) hin_S (C.2.2.1.1 _ n_4) rfl ?_
    refine np_iload_n (pc := 14) C d_P_get_14 rfl ?_
    refine np_iald (pc := 15) C 11 d_P_get_15 rfl (by omega) (by decide) ?_
    refine np_goto (pc := 16) (tgt := 20) C d_P_get_16 rfl ?_
    exact np_iret (pc := 20) C d_P_get_20 (by first | omega | rfl | (repeat' split) <;> omega) (by rfl)
set_option maxRecDepth 20000 in
set_option maxHeartbeats 4000000 in
theorem c_P_fault (l : Launch) (D : va_G) {cI : ClassId} (t : Nat → Nat) {a : Nat → Nat} (ha : np_inj a 12) {X : np_X} (hX : np_XI X)  : np_C l D cI (np_ad a 12) t (4, 92) y_P_fault b_P_fault 1 (some .int) [.ref (a 0)] (np_gw a cI X) (some (.int (nI (np_flt (X 11) 0 115)))) (np_gw a cI X) := by
  refine np_Ct.of (np_Sc_St _ _) (by decide) (Nat.le_of_ble_eq_true rfl) ?_
  intro p e s m below meth c C
  refine np_at (vs2 := [some (.ref (a 0))]) rfl ?_
  obtain ⟨x1, x2, xk, xw, x3, x4, x6, x7, x9, xc⟩ := hX
  refine np_aload_n (pc := 0) C d_P_fault_0 rfl ?_
  refine np_get (pc := 1) C 0 6 d_P_fault_1 rfl rfl rfl (by decide) hin_P m_84 rfl ?_
  refine np_cVi (pc := 4) C 10 (c_S_firstFault l D t ha xc) np_TS_good d_P_fault_4 rfl rfl m_208 m_205 m_4 m_206 m_207 hd_S_firstFault (by decide) rfl rfl (Nat.le_of_ble_eq_true rfl) ?_
  exact np_iret (pc := 7) C d_P_fault_7 (by first | omega | rfl | (repeat' split) <;> omega) (by rfl)
set_option maxRecDepth 20000 in
set_option maxHeartbeats 4000000 in
theorem c_P_submit (l : Launch) (D : va_G) {cI : ClassId} (t : Nat → Nat) {a : Nat → Nat} (ha : np_inj a 12) {X : np_X} (hX : np_XI X)  : np_C l D cI (np_ad a 12) t (5, 113) y_P_submit b_P_submit 2 (some .int) [.ref (a 0)] (np_gw a cI X) (some (.int (nI (np_suR X)))) (np_gw a cI (np_suX X)) := by
  refine np_Ct.of (np_Sc_St _ _) (by decide) (Nat.le_of_ble_eq_true rfl) ?_
  intro p e s m below meth c C
  refine np_at (vs2 := [some (.ref (a 0)), none]) rfl ?_
  obtain ⟨x1, x2, xk, xw, x3, x4, x6, x7, x9, xc⟩ := hX
  refine np_aload_n (pc := 0) C d_P_submit_0 rfl ?_
  refine np_get (pc := 1) C 0 6 d_P_submit_1 rfl rfl rfl (by decide) hin_P m_84 rfl ?_
  refine np_getN (pc := 4) C 10 0 d_P_submit_4 rfl rfl rfl (by decide) hin_S (C.2.2.1.1 _ n_4) rfl ?_
  refine np_astore_n (pc := 7) C d_P_submit_7 (by decide) rfl ?_
  refine np_aload_n (pc := 8) C d_P_submit_8 rfl ?_
  refine np_get (pc := 9) C 0 6 d_P_submit_9 rfl rfl rfl (by decide) hin_P m_84 rfl ?_
  refine np_cVi (pc := 12) C 10 (c_S_firstFault l D t ha xc) np_TS_good d_P_submit_12 rfl rfl m_208 m_205 m_4 m_206 m_207 hd_S_firstFault (by decide) rfl rfl (Nat.le_of_ble_eq_true rfl) ?_
  refine np_iconst (pc := 15) (v := 4294967295) C d_P_submit_15 (by decide) ?_
  refine np_icmp_eq (pc := 16) (tgt := 22) C (by first | exact np_flt_lt _ 115 0 rfl | omega) (by first | exact np_flt_lt _ 115 0 rfl | omega) d_P_submit_16 rfl (fun h16 => ?_) (fun h16 => ?_)
  · refine np_aload_n (pc := 22) C d_P_submit_22 rfl ?_
    refine np_iconst (pc := 23) (v := 4) C d_P_submit_23 (by decide) ?_
    refine np_iald (pc := 24) C 11 d_P_submit_24 rfl (by omega) (by decide) ?_
    refine np_sipush (pc := 25) (v := 255) C d_P_submit_25 (by decide) ?_
    refine np_icmp_le (pc := 28) (tgt := 34) C (by have := xc 4; omega) (by have := xc 4; omega) d_P_submit_28 rfl (fun h28 => ?_) (fun h28 => ?_)
    · refine np_aload_n (pc := 34) C d_P_submit_34 rfl ?_
      refine np_get (pc := 35) C 0 4 d_P_submit_35 rfl rfl rfl (by decide) hin_P m_82 rfl ?_
      refine np_aload_n (pc := 38) C d_P_submit_38 rfl ?_
      refine np_iconst (pc := 39) (v := 1) C d_P_submit_39 (by decide) ?_
      refine np_iald (pc := 40) C 11 d_P_submit_40 rfl (by omega) (by decide) ?_
      refine np_cVi (pc := 41) C 5 (c_T_isRecent l D t ha (xc _) x1 x7) np_TS_good d_P_submit_41 rfl rfl m_231 m_228 m_2 m_229 m_230 hd_T_isRecent (by decide) rfl rfl (Nat.le_of_ble_eq_true rfl) ?_
      refine np_ifz_ne (pc := 44) (tgt := 50) C d_P_submit_44 rfl (fun h44 => ?_) (fun h44 => ?_)
      · refine np_aload_n (pc := 50) C d_P_submit_50 rfl ?_
        refine np_get (pc := 51) C 0 5 d_P_submit_51 rfl rfl rfl (by decide) hin_P m_83 rfl ?_
        refine np_aload_n (pc := 54) C d_P_submit_54 rfl ?_
        refine np_iconst (pc := 55) (v := 2) C d_P_submit_55 (by decide) ?_
        refine np_iald (pc := 56) C 11 d_P_submit_56 rfl (by omega) (by decide) ?_
        refine np_cVi (pc := 57) C 8 (c_K_has l D t ha (xc _) (by omega) x9) np_TS_good d_P_submit_57 rfl rfl m_239 m_236 m_3 m_237 m_238 hd_K_has (by decide) rfl rfl (Nat.le_of_ble_eq_true rfl) ?_
        refine np_ifz_eq (pc := 60) (tgt := 66) C d_P_submit_60 rfl (fun h60 => ?_) (fun h60 => ?_)
        · refine np_aload_n (pc := 66) C d_P_submit_66 rfl ?_
          refine np_get (pc := 67) C 0 4 d_P_submit_67 rfl rfl rfl (by decide) hin_P m_82 rfl ?_
          refine np_cVi (pc := 70) C 5 (c_T_isFull l D t ha x1) np_TS_good d_P_submit_70 rfl rfl m_123 m_120 m_2 m_121 m_122 hd_T_isFull (by decide) rfl rfl (Nat.le_of_ble_eq_true rfl) ?_
          refine np_ifz_eq (pc := 73) (tgt := 79) C d_P_submit_73 rfl (fun h73 => ?_) (fun h73 => ?_)
          · refine np_aload_n (pc := 79) C d_P_submit_79 rfl ?_
            refine np_get (pc := 80) C 0 5 d_P_submit_80 rfl rfl rfl (by decide) hin_P m_83 rfl ?_
            refine np_aload_n (pc := 83) C d_P_submit_83 rfl ?_
            refine np_iconst (pc := 84) (v := 2) C d_P_submit_84 (by decide) ?_
            refine np_iald (pc := 85) C 11 d_P_submit_85 rfl (by omega) (by decide) ?_
            refine np_cVv (pc := 86) C 8 (c_K_add l D t ha (xc _) (by omega) x9) np_TS_good d_P_submit_86 rfl rfl m_243 m_240 m_3 m_241 m_242 hd_K_add (by decide) rfl rfl (Nat.le_of_ble_eq_true rfl) ?_
            refine np_aload_n (pc := 89) C d_P_submit_89 rfl ?_
            refine np_dup (pc := 90) C rfl d_P_submit_90 ?_
            refine np_get (pc := 91) C 0 7 d_P_submit_91 rfl rfl rfl (by decide) hin_P m_85 rfl ?_
            refine np_aload_n (pc := 94) C d_P_submit_94 rfl ?_
            refine np_iconst (pc := 95) (v := 4) C d_P_submit_95 (by decide) ?_
            refine np_iald (pc := 96) C 11 d_P_submit_96 rfl (by omega) (by decide) ?_
            refine np_isubW (pc := 97) C (by have := xc 4; exact Nat.le_of_lt (Nat.lt_of_lt_of_le this (by decide))) d_P_submit_97 ?_
            refine np_putG (pc := 98) C (np_gw a cI) _ 0 7 0 (np_gD ha _) d_P_submit_98 rfl (gp_0 a cI _) rfl (by decide) hin_P ty_P tyok_P nm_P m_85 rfl rfl rfl (Nat.le_of_ble_eq_true rfl) ?_
            refine np_aload_n (pc := 101) C d_P_submit_101 rfl ?_
            refine np_aload_n (pc := 102) C d_P_submit_102 rfl ?_
            refine np_bipush (pc := 103) (v := 8) C d_P_submit_103 (by decide) ?_
            refine np_iald (pc := 105) C 11 d_P_submit_105 rfl (by omega) (by decide) ?_
            refine np_aload_n (pc := 106) C d_P_submit_106 rfl ?_
            refine np_bipush (pc := 107) (v := 9) C d_P_submit_107 (by decide) ?_
            refine np_iald (pc := 109) C 11 d_P_submit_109 rfl (by omega) (by decide) ?_
            refine np_aload_n (pc := 110) C d_P_submit_110 rfl ?_
            refine np_bipush (pc := 111) (v := 10) C d_P_submit_111 (by decide) ?_
            refine np_iald (pc := 113) C 11 d_P_submit_113 rfl (by omega) (by decide) ?_
            refine np_atw (w2 := np_gw a cI (np_suB X)) rfl ?_
            refine np_atst (st2 := [.int (nI (X 11 10)), .int (nI (X 11 9)), .int (nI (X 11 8)), .ref (a 0)]) rfl ?_
            refine np_cVi (pc := 114) C 0 (c_P_makeNote l D t ha (X := np_suB X) ⟨x1, show X 0 2 + 1 ≤ X 0 1 + 1 by omega, xk, xw, x3, x4, x6, x7, np_ok_ins (xc 2) _ _ x9, xc⟩ (xc _) (xc _) (xc _) (show X 0 1 < 16 by omega)) np_TS_good d_P_submit_114 rfl rfl m_127 m_124 m_1 m_126 ms_P_makeNote hd_P_makeNote (by decide) rfl rfl (Nat.le_of_ble_eq_true rfl) ?_
            exact np_iret (pc := 117) C d_P_submit_117 (by unfold np_suR; (repeat' split) <;> first | omega | rfl) (by unfold np_suX; (repeat' split) <;> first | (exfalso; omega) | rfl)
          · refine np_bipush (pc := 76) (v := 4294967289) C d_P_submit_76 (by decide) ?_
            exact np_iret (pc := 78) C d_P_submit_78 (by unfold np_suR; (repeat' split) <;> first | omega | rfl) (by unfold np_suX; (repeat' split) <;> first | (exfalso; omega) | rfl)
        · refine np_bipush (pc := 63) (v := 4294967290) C d_P_submit_63 (by decide) ?_
          exact np_iret (pc := 65) C d_P_submit_65 (by unfold np_suR; (repeat' split) <;> first | omega | rfl) (by unfold np_suX; (repeat' split) <;> first | (exfalso; omega) | rfl)
      · refine np_bipush (pc := 47) (v := 4294967291) C d_P_submit_47 (by decide) ?_
        exact np_iret (pc := 49) C d_P_submit_49 (by unfold np_suR; (repeat' split) <;> first | omega | rfl) (by unfold np_suX; (repeat' split) <;> first | (exfalso; omega) | rfl)
    · refine np_bipush (pc := 31) (v := 4294967292) C d_P_submit_31 (by decide) ?_
      exact np_iret (pc := 33) C d_P_submit_33 (by unfold np_suR; (repeat' split) <;> first | omega | rfl) (by unfold np_suX; (repeat' split) <;> first | (exfalso; omega) | rfl)
  · refine np_bipush (pc := 19) (v := 4294967293) C d_P_submit_19 (by decide) ?_
    exact np_iret (pc := 21) C d_P_submit_21 (by unfold np_suR; (repeat' split) <;> first | omega | rfl) (by unfold np_suX; (repeat' split) <;> first | (exfalso; omega) | rfl)
set_option maxRecDepth 20000 in
set_option maxHeartbeats 4000000 in
theorem c_P_notes (l : Launch) (D : va_G) {cI : ClassId} (t : Nat → Nat) {a : Nat → Nat} (ha : np_inj a 12) {X : np_X} (hX : np_XI X)  : np_C l D cI (np_ad a 12) t (0, 0) y_P_notes b_P_notes 1 (some .int) [.ref (a 0)] (np_gw a cI X) (some (.int (nI (X 0 1)))) (np_gw a cI X) := by
  refine np_Ct.of (np_Sc_St _ _) (by decide) (Nat.le_of_ble_eq_true rfl) ?_
  intro p e s m below meth c C
  refine np_at (vs2 := [some (.ref (a 0))]) rfl ?_
  obtain ⟨x1, x2, xk, xw, x3, x4, x6, x7, x9, xc⟩ := hX
  refine np_aload_n (pc := 0) C d_P_notes_0 rfl ?_
  refine np_get (pc := 1) C 0 4 d_P_notes_1 rfl rfl rfl (by decide) hin_P m_82 rfl ?_
  refine np_getN (pc := 4) C 5 2 d_P_notes_4 rfl rfl rfl (by decide) hin_T (C.2.2.1.1 _ n_1) rfl ?_
  exact np_iret (pc := 7) C d_P_notes_7 (by first | omega | rfl | (repeat' split) <;> omega) (by rfl)
set_option maxRecDepth 20000 in
set_option maxHeartbeats 4000000 in
theorem c_P_used (l : Launch) (D : va_G) {cI : ClassId} (t : Nat → Nat) {a : Nat → Nat} (ha : np_inj a 12) {X : np_X} (hX : np_XI X)  : np_C l D cI (np_ad a 12) t (0, 0) y_P_used b_P_used 1 (some .int) [.ref (a 0)] (np_gw a cI X) (some (.int (nI (X 0 2)))) (np_gw a cI X) := by
  refine np_Ct.of (np_Sc_St _ _) (by decide) (Nat.le_of_ble_eq_true rfl) ?_
  intro p e s m below meth c C
  refine np_at (vs2 := [some (.ref (a 0))]) rfl ?_
  obtain ⟨x1, x2, xk, xw, x3, x4, x6, x7, x9, xc⟩ := hX
  refine np_aload_n (pc := 0) C d_P_used_0 rfl ?_
  refine np_get (pc := 1) C 0 5 d_P_used_1 rfl rfl rfl (by decide) hin_P m_83 rfl ?_
  refine np_getN (pc := 4) C 8 1 d_P_used_4 rfl rfl rfl (by decide) hin_K (C.2.2.1.1 _ n_3) rfl ?_
  exact np_iret (pc := 7) C d_P_used_7 (by first | omega | rfl | (repeat' split) <;> omega) (by rfl)
set_option maxRecDepth 20000 in
set_option maxHeartbeats 4000000 in
theorem c_P_pool (l : Launch) (D : va_G) {cI : ClassId} (t : Nat → Nat) {a : Nat → Nat} (ha : np_inj a 12) {X : np_X} (hX : np_XI X)  : np_C l D cI (np_ad a 12) t (0, 0) y_P_pool b_P_pool 1 (some .int) [.ref (a 0)] (np_gw a cI X) (some (.int (nI (X 0 0)))) (np_gw a cI X) := by
  refine np_Ct.of (np_Sc_St _ _) (by decide) (Nat.le_of_ble_eq_true rfl) ?_
  intro p e s m below meth c C
  refine np_at (vs2 := [some (.ref (a 0))]) rfl ?_
  obtain ⟨x1, x2, xk, xw, x3, x4, x6, x7, x9, xc⟩ := hX
  refine np_aload_n (pc := 0) C d_P_pool_0 rfl ?_
  refine np_get (pc := 1) C 0 7 d_P_pool_1 rfl rfl rfl (by decide) hin_P m_85 rfl ?_
  exact np_iret (pc := 4) C d_P_pool_4 (by first | omega | rfl | (repeat' split) <;> omega) (by rfl)
set_option maxRecDepth 20000 in
set_option maxHeartbeats 4000000 in
theorem c_P_commitment (l : Launch) (D : va_G) {cI : ClassId} (t : Nat → Nat) {a : Nat → Nat} (ha : np_inj a 12) {X : np_X} (hX : np_XI X) {q : Nat} (hq : q < 4294967296) : np_C l D cI (np_ad a 12) t (1, 23) y_P_commitment b_P_commitment 2 (some .int) [.ref (a 0), .int (nI q)] (np_gw a cI X) (some (.int (nI (if q < X 0 1 then X 6 (16 + q) else 4294967294)))) (np_gw a cI X) := by
  refine np_Ct.of (np_Sc_St _ _) (by decide) (Nat.le_of_ble_eq_true rfl) ?_
  intro p e s m below meth c C
  refine np_at (vs2 := [some (.ref (a 0)), some (.int (nI q))]) rfl ?_
  obtain ⟨x1, x2, xk, xw, x3, x4, x6, x7, x9, xc⟩ := hX
  refine np_aload_n (pc := 0) C d_P_commitment_0 rfl ?_
  refine np_iload_n (pc := 1) C d_P_commitment_1 rfl ?_
  refine np_cVi (pc := 2) C 0 (c_P_hasNote l D t ha ⟨x1, x2, xk, xw, x3, x4, x6, x7, x9, xc⟩ (by omega)) np_TS_good d_P_commitment_2 rfl rfl m_136 m_133 m_1 m_135 ms_P_hasNote hd_P_hasNote (by decide) rfl rfl (Nat.le_of_ble_eq_true rfl) ?_
  refine np_ifz_eq (pc := 5) (tgt := 20) C d_P_commitment_5 rfl (fun h5 => ?_) (fun h5 => ?_)
  · refine np_bipush (pc := 20) (v := 4294967294) C d_P_commitment_20 (by decide) ?_
    exact np_iret (pc := 22) C d_P_commitment_22 (by first | omega | rfl | (repeat' split) <;> omega) (by rfl)
  · refine np_aload_n (pc := 8) C d_P_commitment_8 rfl ?_
    refine np_get (pc := 9) C 0 4 d_P_commitment_9 rfl rfl rfl (by decide) hin_P m_82 rfl ?_
    refine np_iconst (pc := 12) (v := 0) C d_P_commitment_12 (by decide) ?_
    refine np_iload_n (pc := 13) C d_P_commitment_13 rfl ?_
    refine np_cVi (pc := 14) C 5 (c_T_nodeAt l D t ha (by omega) (by omega)) np_TS_good d_P_commitment_14 rfl rfl m_160 m_252 m_2 m_158 m_159 hd_T_nodeAt (by decide) rfl rfl (Nat.le_of_ble_eq_true rfl) ?_
    refine np_top (y := X 6 (16 + q)) (by rw [np_na_0 (by omega)]) ?_
    refine np_goto (pc := 17) (tgt := 22) C d_P_commitment_17 rfl ?_
    exact np_iret (pc := 22) C d_P_commitment_22 (by first | omega | rfl | (repeat' split) <;> omega) (by rfl)
set_option maxRecDepth 20000 in
set_option maxHeartbeats 4000000 in
theorem c_P_owner (l : Launch) (D : va_G) {cI : ClassId} (t : Nat → Nat) {a : Nat → Nat} (ha : np_inj a 12) {X : np_X} (hX : np_XI X) {q : Nat} (hq : q < 4294967296) : np_C l D cI (np_ad a 12) t (1, 21) y_P_owner b_P_owner 2 (some .int) [.ref (a 0), .int (nI q)] (np_gw a cI X) (some (.int (nI (if q < X 0 1 then X 2 q else 4294967294)))) (np_gw a cI X) := by
  refine np_Ct.of (np_Sc_St _ _) (by decide) (Nat.le_of_ble_eq_true rfl) ?_
  intro p e s m below meth c C
  refine np_at (vs2 := [some (.ref (a 0)), some (.int (nI q))]) rfl ?_
  obtain ⟨x1, x2, xk, xw, x3, x4, x6, x7, x9, xc⟩ := hX
  refine np_aload_n (pc := 0) C d_P_owner_0 rfl ?_
  refine np_iload_n (pc := 1) C d_P_owner_1 rfl ?_
  refine np_cVi (pc := 2) C 0 (c_P_hasNote l D t ha ⟨x1, x2, xk, xw, x3, x4, x6, x7, x9, xc⟩ (by omega)) np_TS_good d_P_owner_2 rfl rfl m_136 m_133 m_1 m_135 ms_P_hasNote hd_P_hasNote (by decide) rfl rfl (Nat.le_of_ble_eq_true rfl) ?_
  refine np_ifz_eq (pc := 5) (tgt := 17) C d_P_owner_5 rfl (fun h5 => ?_) (fun h5 => ?_)
  · refine np_bipush (pc := 17) (v := 4294967294) C d_P_owner_17 (by decide) ?_
    exact np_iret (pc := 19) C d_P_owner_19 (by first | omega | rfl | (repeat' split) <;> omega) (by rfl)
  · refine np_aload_n (pc := 8) C d_P_owner_8 rfl ?_
    refine np_get (pc := 9) C 0 1 d_P_owner_9 rfl rfl rfl (by decide) hin_P m_79 rfl ?_
    refine np_iload_n (pc := 12) C d_P_owner_12 rfl ?_
    refine np_iald (pc := 13) C 2 d_P_owner_13 rfl (by omega) (by decide) ?_
    refine np_goto (pc := 14) (tgt := 19) C d_P_owner_14 rfl ?_
    exact np_iret (pc := 19) C d_P_owner_19 (by first | omega | rfl | (repeat' split) <;> omega) (by rfl)
set_option maxRecDepth 20000 in
set_option maxHeartbeats 4000000 in
theorem c_P_value (l : Launch) (D : va_G) {cI : ClassId} (t : Nat → Nat) {a : Nat → Nat} (ha : np_inj a 12) {X : np_X} (hX : np_XI X) {q : Nat} (hq : q < 4294967296) : np_C l D cI (np_ad a 12) t (1, 21) y_P_value b_P_value 2 (some .int) [.ref (a 0), .int (nI q)] (np_gw a cI X) (some (.int (nI (if q < X 0 1 then X 3 q else 4294967294)))) (np_gw a cI X) := by
  refine np_Ct.of (np_Sc_St _ _) (by decide) (Nat.le_of_ble_eq_true rfl) ?_
  intro p e s m below meth c C
  refine np_at (vs2 := [some (.ref (a 0)), some (.int (nI q))]) rfl ?_
  obtain ⟨x1, x2, xk, xw, x3, x4, x6, x7, x9, xc⟩ := hX
  refine np_aload_n (pc := 0) C d_P_value_0 rfl ?_
  refine np_iload_n (pc := 1) C d_P_value_1 rfl ?_
  refine np_cVi (pc := 2) C 0 (c_P_hasNote l D t ha ⟨x1, x2, xk, xw, x3, x4, x6, x7, x9, xc⟩ (by omega)) np_TS_good d_P_value_2 rfl rfl m_136 m_133 m_1 m_135 ms_P_hasNote hd_P_hasNote (by decide) rfl rfl (Nat.le_of_ble_eq_true rfl) ?_
  refine np_ifz_eq (pc := 5) (tgt := 17) C d_P_value_5 rfl (fun h5 => ?_) (fun h5 => ?_)
  · refine np_bipush (pc := 17) (v := 4294967294) C d_P_value_17 (by decide) ?_
    exact np_iret (pc := 19) C d_P_value_19 (by first | omega | rfl | (repeat' split) <;> omega) (by rfl)
  · refine np_aload_n (pc := 8) C d_P_value_8 rfl ?_
    refine np_get (pc := 9) C 0 2 d_P_value_9 rfl rfl rfl (by decide) hin_P m_80 rfl ?_
    refine np_iload_n (pc := 12) C d_P_value_12 rfl ?_
    refine np_iald (pc := 13) C 3 d_P_value_13 rfl (by omega) (by decide) ?_
    refine np_goto (pc := 14) (tgt := 19) C d_P_value_14 rfl ?_
    exact np_iret (pc := 19) C d_P_value_19 (by first | omega | rfl | (repeat' split) <;> omega) (by rfl)
set_option maxRecDepth 20000 in
set_option maxHeartbeats 4000000 in
theorem c_P_unspent (l : Launch) (D : va_G) {cI : ClassId} (t : Nat → Nat) {a : Nat → Nat} (ha : np_inj a 12) {X : np_X} (hX : np_XI X) {q : Nat} (hq : q < 4294967296) : np_C l D cI (np_ad a 12) t (3, 66) y_P_unspent b_P_unspent 2 (some .boolean) [.ref (a 0), .int (nI q)] (np_gw a cI X) (some (.int (nI (if q < X 0 1 ∧ X 2 q < 4 ∧ ¬ np_hs (X 9) (np_mo X q) (X 0 2) = true then 1 else 0)))) (np_gw a cI X) := by
  refine np_Ct.of (np_Sc_St _ _) (by decide) (Nat.le_of_ble_eq_true rfl) ?_
  intro p e s m below meth c C
  refine np_at (vs2 := [some (.ref (a 0)), some (.int (nI q))]) rfl ?_
  obtain ⟨x1, x2, xk, xw, x3, x4, x6, x7, x9, xc⟩ := hX
  refine np_aload_n (pc := 0) C d_P_unspent_0 rfl ?_
  refine np_iload_n (pc := 1) C d_P_unspent_1 rfl ?_
  refine np_cVi (pc := 2) C 0 (c_P_hasNote l D t ha ⟨x1, x2, xk, xw, x3, x4, x6, x7, x9, xc⟩ (by omega)) np_TS_good d_P_unspent_2 rfl rfl m_136 m_133 m_1 m_135 ms_P_hasNote hd_P_hasNote (by decide) rfl rfl (Nat.le_of_ble_eq_true rfl) ?_
  refine np_ifz_eq (pc := 5) (tgt := 39) C d_P_unspent_5 rfl (fun h5 => ?_) (fun h5 => ?_)
  · refine np_iconst (pc := 39) (v := 0) C d_P_unspent_39 (by decide) ?_
    exact np_zret (pc := 40) C d_P_unspent_40 (by omega) (by clear C; split <;> simp_all [np_mo]) (by rfl)
  · refine np_aload_n (pc := 8) C d_P_unspent_8 rfl ?_
    refine np_get (pc := 9) C 0 1 d_P_unspent_9 rfl rfl rfl (by decide) hin_P m_79 rfl ?_
    refine np_iload_n (pc := 12) C d_P_unspent_12 rfl ?_
    refine np_iald (pc := 13) C 2 d_P_unspent_13 rfl (by omega) (by decide) ?_
    refine np_cSi (pc := 14) C (c_P_isAccount l D t (xw _)) np_TS_good d_P_unspent_14 m_116 m_114 m_1 m_115 hd_P_isAccount (by decide) rfl rfl (Nat.le_of_ble_eq_true rfl) ?_
    refine np_ifz_eq (pc := 17) (tgt := 39) C d_P_unspent_17 rfl (fun h17 => ?_) (fun h17 => ?_)
    · refine np_iconst (pc := 39) (v := 0) C d_P_unspent_39 (by decide) ?_
      exact np_zret (pc := 40) C d_P_unspent_40 (by omega) (by clear C; split <;> simp_all [np_mo]) (by rfl)
    · refine np_aload_n (pc := 20) C d_P_unspent_20 rfl ?_
      refine np_get (pc := 21) C 0 5 d_P_unspent_21 rfl rfl rfl (by decide) hin_P m_83 rfl ?_
      refine np_aload_n (pc := 24) C d_P_unspent_24 rfl ?_
      refine np_iload_n (pc := 25) C d_P_unspent_25 rfl ?_
      refine np_cVi (pc := 26) C 0 (c_P_markOf l D t ha x6 (by omega) h17) np_TS_good d_P_unspent_26 rfl rfl m_268 m_265 m_1 m_267 ms_P_markOf hd_P_markOf (by decide) rfl rfl (Nat.le_of_ble_eq_true rfl) ?_
      refine np_cVi (pc := 29) C 8 (c_K_has l D t ha (np_hh_lt _ _) (by omega) x9) np_TS_good d_P_unspent_29 rfl rfl m_239 m_236 m_3 m_237 m_238 hd_K_has (by decide) rfl rfl (Nat.le_of_ble_eq_true rfl) ?_
      refine np_ifz_ne (pc := 32) (tgt := 39) C d_P_unspent_32 rfl (fun h32 => ?_) (fun h32 => ?_)
      · refine np_iconst (pc := 39) (v := 0) C d_P_unspent_39 (by decide) ?_
        exact np_zret (pc := 40) C d_P_unspent_40 (by omega) (by clear C; split <;> simp_all [np_mo]) (by rfl)
      · refine np_iconst (pc := 35) (v := 1) C d_P_unspent_35 (by decide) ?_
        refine np_goto (pc := 36) (tgt := 40) C d_P_unspent_36 rfl ?_
        exact np_zret (pc := 40) C d_P_unspent_40 (by omega) (by clear C; split <;> simp_all [np_mo]) (by rfl)
set_option maxRecDepth 20000 in
set_option maxHeartbeats 4000000 in
theorem c_P_balance (l : Launch) (D : va_G) {cI : ClassId} (t : Nat → Nat) {a : Nat → Nat} (ha : np_inj a 12) {X : np_X} (hX : np_XI X) {x : Nat} (hx : x < 4294967296) : np_C l D cI (np_ad a 12) t (3, 66) y_P_balance b_P_balance 4 (some .int) [.ref (a 0), .int (nI x)] (np_gw a cI X) (some (.int (nI (if x < 4 then np_bal X x 16 else 4294967294)))) (np_gw a cI X) := by
  refine np_Ct.of (np_Sc_St _ _) (by decide) (Nat.le_of_ble_eq_true rfl) ?_
  intro p e s m below meth c C
  refine np_at (vs2 := [some (.ref (a 0)), some (.int (nI x)), none, none]) rfl ?_
  obtain ⟨x1, x2, xk, xw, x3, x4, x6, x7, x9, xc⟩ := hX
  have loop : ∀ (n k : Nat), k + n = 16 → x < 4 → np_V p l e (np_rm (3, 66)) s m ([.ref (a 0), .int (nI x)] : List Value).toArray below meth c 0 0 D np_cls (np_ad a 12) (MQ below (np_Qc D np_cls (np_ad a 12) (some (.int (nI (if x < 4 then np_bal X x 16 else 4294967294)))) (np_gw a cI X)) ([.ref (a 0), .int (nI x)] : List Value).toArray s 0 0 (np_ad a 12)) 4 (np_gw a cI X) 14 [some (.ref (a 0)), some (.int (nI x)), some (.int (nI (np_bal X x k))), some (.int (nI k))] [] := by
    intro n
    induction n with
    | zero =>
      intro k hi h4x
      obtain rfl : k = 16 := by omega
      refine np_iload_n (pc := 14) C d_P_balance_14 rfl ?_
      refine np_bipush (pc := 15) (v := 16) C d_P_balance_15 (by decide) ?_
      refine np_icmp_ge (pc := 17) (tgt := 68) C (by omega) (by omega) d_P_balance_17 rfl (fun h17 => ?_) (fun h17 => ?_)
      · refine np_iload_n (pc := 68) C d_P_balance_68 rfl ?_
        exact np_iret (pc := 69) C d_P_balance_69 (by rw [if_pos h4x]) (by rfl)
      · exfalso; omega
    | succ n ih =>
      intro k hi h4x
      have hb := xw k
      refine np_iload_n (pc := 14) C d_P_balance_14 rfl ?_
      refine np_bipush (pc := 15) (v := 16) C d_P_balance_15 (by decide) ?_
      refine np_icmp_ge (pc := 17) (tgt := 68) C (by omega) (by omega) d_P_balance_17 rfl (fun h17 => ?_) (fun h17 => ?_)
      · exfalso; omega
      · refine np_aload_n (pc := 20) C d_P_balance_20 rfl ?_
        refine np_iload_n (pc := 21) C d_P_balance_21 rfl ?_
        refine np_cVi (pc := 22) C 0 (c_P_hasNote l D t ha ⟨x1, x2, xk, xw, x3, x4, x6, x7, x9, xc⟩ (by omega)) np_TS_good d_P_balance_22 rfl rfl m_136 m_133 m_1 m_135 ms_P_hasNote hd_P_hasNote (by decide) rfl rfl (Nat.le_of_ble_eq_true rfl) ?_
        refine np_ifz_eq (pc := 25) (tgt := 62) C d_P_balance_25 rfl (fun h25 => ?_) (fun h25 => ?_)
        · have e : np_bal X x (k + 1) = np_bal X x k := by rw [np_bal, if_neg (fun z => h25 z.1)]; rfl
          refine np_iinc (pc := 62) C d_P_balance_62 rfl (np_inc1 _) (by decide) rfl ?_
          refine np_goto (pc := 65) (tgt := 14) C d_P_balance_65 rfl ?_
          refine np_at (vs2 := [some (.ref (a 0)), some (.int (nI x)), some (.int (nI (np_bal X x (k + 1)))), some (.int (nI (k + 1)))]) (by rw [e]; rfl) ?_
          exact ih (k + 1) (by omega) h4x
        · refine np_aload_n (pc := 28) C d_P_balance_28 rfl ?_
          refine np_get (pc := 29) C 0 1 d_P_balance_29 rfl rfl rfl (by decide) hin_P m_79 rfl ?_
          refine np_iload_n (pc := 32) C d_P_balance_32 rfl ?_
          refine np_iald (pc := 33) C 2 d_P_balance_33 rfl (by omega) (by decide) ?_
          refine np_iload_n (pc := 34) C d_P_balance_34 rfl ?_
          refine np_icmp_ne (pc := 35) (tgt := 62) C (by omega) (by omega) d_P_balance_35 rfl (fun h35 => ?_) (fun h35 => ?_)
          · have e : np_bal X x (k + 1) = np_bal X x k := by rw [np_bal, if_neg (fun z => h35 z.2.1)]; rfl
            refine np_iinc (pc := 62) C d_P_balance_62 rfl (np_inc1 _) (by decide) rfl ?_
            refine np_goto (pc := 65) (tgt := 14) C d_P_balance_65 rfl ?_
            refine np_at (vs2 := [some (.ref (a 0)), some (.int (nI x)), some (.int (nI (np_bal X x (k + 1)))), some (.int (nI (k + 1)))]) (by rw [e]; rfl) ?_
            exact ih (k + 1) (by omega) h4x
          · refine np_aload_n (pc := 38) C d_P_balance_38 rfl ?_
            refine np_get (pc := 39) C 0 5 d_P_balance_39 rfl rfl rfl (by decide) hin_P m_83 rfl ?_
            refine np_aload_n (pc := 42) C d_P_balance_42 rfl ?_
            refine np_iload_n (pc := 43) C d_P_balance_43 rfl ?_
            refine np_cVi (pc := 44) C 0 (c_P_markOf l D t ha x6 (by omega) (by omega)) np_TS_good d_P_balance_44 rfl rfl m_268 m_265 m_1 m_267 ms_P_markOf hd_P_markOf (by decide) rfl rfl (Nat.le_of_ble_eq_true rfl) ?_
            refine np_cVi (pc := 47) C 8 (c_K_has l D t ha (np_hh_lt _ _) (by omega) x9) np_TS_good d_P_balance_47 rfl rfl m_239 m_236 m_3 m_237 m_238 hd_K_has (by decide) rfl rfl (Nat.le_of_ble_eq_true rfl) ?_
            refine np_ifz_ne (pc := 50) (tgt := 62) C d_P_balance_50 rfl (fun h50 => ?_) (fun h50 => ?_)
            · have e : np_bal X x (k + 1) = np_bal X x k := by rw [np_bal, if_neg (fun z => z.2.2 h50)]; rfl
              refine np_iinc (pc := 62) C d_P_balance_62 rfl (np_inc1 _) (by decide) rfl ?_
              refine np_goto (pc := 65) (tgt := 14) C d_P_balance_65 rfl ?_
              refine np_at (vs2 := [some (.ref (a 0)), some (.int (nI x)), some (.int (nI (np_bal X x (k + 1)))), some (.int (nI (k + 1)))]) (by rw [e]; rfl) ?_
              exact ih (k + 1) (by omega) h4x
            · have e : np_bal X x (k + 1) = np_bal X x k + X 3 k := by rw [np_bal, if_pos ⟨h25, h35, h50⟩]
              refine np_iload_n (pc := 53) C d_P_balance_53 rfl ?_
              refine np_aload_n (pc := 54) C d_P_balance_54 rfl ?_
              refine np_get (pc := 55) C 0 2 d_P_balance_55 rfl rfl rfl (by decide) hin_P m_80 rfl ?_
              refine np_iload_n (pc := 58) C d_P_balance_58 rfl ?_
              refine np_iald (pc := 59) C 3 d_P_balance_59 rfl (by omega) (by decide) ?_
              refine np_iadd (pc := 60) C d_P_balance_60 ?_
              refine np_istore_n (pc := 61) C d_P_balance_61 (by decide) rfl ?_
              refine np_iinc (pc := 62) C d_P_balance_62 rfl (np_inc1 _) (by decide) rfl ?_
              refine np_goto (pc := 65) (tgt := 14) C d_P_balance_65 rfl ?_
              refine np_at (vs2 := [some (.ref (a 0)), some (.int (nI x)), some (.int (nI (np_bal X x (k + 1)))), some (.int (nI (k + 1)))]) (by rw [e]; rfl) ?_
              exact ih (k + 1) (by omega) h4x
  refine np_iload_n (pc := 0) C d_P_balance_0 rfl ?_
  refine np_cSi (pc := 1) C (c_P_isAccount l D t (by omega)) np_TS_good d_P_balance_1 m_116 m_114 m_1 m_115 hd_P_isAccount (by decide) rfl rfl (Nat.le_of_ble_eq_true rfl) ?_
  refine np_ifz_ne (pc := 4) (tgt := 10) C d_P_balance_4 rfl (fun h4a => ?_) (fun h4a => ?_)
  · refine np_iconst (pc := 10) (v := 0) C d_P_balance_10 (by decide) ?_
    refine np_istore_n (pc := 11) C d_P_balance_11 (by decide) rfl ?_
    refine np_iconst (pc := 12) (v := 0) C d_P_balance_12 (by decide) ?_
    refine np_istore_n (pc := 13) C d_P_balance_13 (by decide) rfl ?_
    refine np_at (vs2 := [some (.ref (a 0)), some (.int (nI x)), some (.int (nI (np_bal X x 0))), some (.int (nI 0))]) rfl ?_
    exact loop 16 0 rfl h4a
  · refine np_bipush (pc := 7) (v := 4294967294) C d_P_balance_7 (by decide) ?_
    exact np_iret (pc := 9) C d_P_balance_9 (by rw [if_neg h4a]) (by rfl)
set_option maxRecDepth 20000 in
set_option maxHeartbeats 4000000 in
theorem c_P_root (l : Launch) (D : va_G) {cI : ClassId} (t : Nat → Nat) {a : Nat → Nat} (ha : np_inj a 12) {X : np_X} (hX : np_XI X) {k : Nat} (hk0 : k < 4294967296) : np_C l D cI (np_ad a 12) t (1, 21) y_P_root b_P_root 2 (some .int) [.ref (a 0), .int (nI k)] (np_gw a cI X) (some (.int (nI (np_rr X k)))) (np_gw a cI X) := by
  refine np_Ct.of (np_Sc_St _ _) (by decide) (Nat.le_of_ble_eq_true rfl) ?_
  intro p e s m below meth c C
  refine np_at (vs2 := [some (.ref (a 0)), some (.int (nI k))]) rfl ?_
  obtain ⟨x1, x2, xk, xw, x3, x4, x6, x7, x9, xc⟩ := hX
  refine np_aload_n (pc := 0) C d_P_root_0 rfl ?_
  refine np_get (pc := 1) C 0 4 d_P_root_1 rfl rfl rfl (by decide) hin_P m_82 rfl ?_
  refine np_iload_n (pc := 4) C d_P_root_4 rfl ?_
  refine np_cVi (pc := 5) C 5 (c_T_recentRoot l D t ha hk0 x1) np_TS_good d_P_root_5 rfl rfl m_235 m_277 m_2 m_233 m_234 hd_T_recentRoot (by decide) rfl rfl (Nat.le_of_ble_eq_true rfl) ?_
  exact np_iret (pc := 8) C d_P_root_8 (by first | omega | rfl | (repeat' split) <;> omega) (by rfl)
set_option maxRecDepth 20000 in
set_option maxHeartbeats 4000000 in
theorem c_P_node (l : Launch) (D : va_G) {cI : ClassId} (t : Nat → Nat) {a : Nat → Nat} (ha : np_inj a 12) {X : np_X} (hX : np_XI X) {v n : Nat} (hv : v < 4294967296) (hn : n < 4294967296) : np_C l D cI (np_ad a 12) t (1, 23) y_P_node b_P_node 3 (some .int) [.ref (a 0), .int (nI v), .int (nI n)] (np_gw a cI X) (some (.int (nI (np_na (X 6) v n)))) (np_gw a cI X) := by
  refine np_Ct.of (np_Sc_St _ _) (by decide) (Nat.le_of_ble_eq_true rfl) ?_
  intro p e s m below meth c C
  refine np_at (vs2 := [some (.ref (a 0)), some (.int (nI v)), some (.int (nI n))]) rfl ?_
  obtain ⟨x1, x2, xk, xw, x3, x4, x6, x7, x9, xc⟩ := hX
  refine np_aload_n (pc := 0) C d_P_node_0 rfl ?_
  refine np_get (pc := 1) C 0 4 d_P_node_1 rfl rfl rfl (by decide) hin_P m_82 rfl ?_
  refine np_iload_n (pc := 4) C d_P_node_4 rfl ?_
  refine np_iload_n (pc := 5) C d_P_node_5 rfl ?_
  refine np_cVi (pc := 6) C 5 (c_T_nodeAt l D t ha hv hn) np_TS_good d_P_node_6 rfl rfl m_160 m_252 m_2 m_158 m_159 hd_T_nodeAt (by decide) rfl rfl (Nat.le_of_ble_eq_true rfl) ?_
  exact np_iret (pc := 9) C d_P_node_9 (by first | omega | rfl | (repeat' split) <;> omega) (by rfl)
set_option maxRecDepth 20000 in
set_option maxHeartbeats 4000000 in
theorem c_P_mark (l : Launch) (D : va_G) {cI : ClassId} (t : Nat → Nat) {a : Nat → Nat} (ha : np_inj a 12) {X : np_X} (hX : np_XI X) {k : Nat} (hk0 : k < 4294967296) : np_C l D cI (np_ad a 12) t (1, 21) y_P_mark b_P_mark 2 (some .int) [.ref (a 0), .int (nI k)] (np_gw a cI X) (some (.int (nI (if k < X 0 2 then X 9 k else 4294967295)))) (np_gw a cI X) := by
  refine np_Ct.of (np_Sc_St _ _) (by decide) (Nat.le_of_ble_eq_true rfl) ?_
  intro p e s m below meth c C
  refine np_at (vs2 := [some (.ref (a 0)), some (.int (nI k))]) rfl ?_
  obtain ⟨x1, x2, xk, xw, x3, x4, x6, x7, x9, xc⟩ := hX
  refine np_aload_n (pc := 0) C d_P_mark_0 rfl ?_
  refine np_get (pc := 1) C 0 5 d_P_mark_1 rfl rfl rfl (by decide) hin_P m_83 rfl ?_
  refine np_iload_n (pc := 4) C d_P_mark_4 rfl ?_
  refine np_cVi (pc := 5) C 8 (c_K_at l D t ha hk0 (by omega)) np_TS_good d_P_mark_5 rfl rfl m_293 m_290 m_3 m_291 m_292 hd_K_at (by decide) rfl rfl (Nat.le_of_ble_eq_true rfl) ?_
  exact np_iret (pc := 8) C d_P_mark_8 (by first | omega | rfl | (repeat' split) <;> omega) (by rfl)
