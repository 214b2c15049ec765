section NPM
variable {p : Program} {l : Launch} {e : Env} {R : Room} {s : State} {m : MethodId} {args : Array Value} {below : List Frame} {meth : Method} {c : Code} {ce sl : Nat} {D : va_G} {cl : List vw_C} {A : Nat → Prop} {Q : State → Prop} {nL : Nat}
variable {cc : ByteArray} {own : String} {ret : Option FieldType} {TS : List Cond} {cI : ClassId} {S : State → Heap → Prop} {w : va_W} {pc : Nat} {vs : List (Option Value)} {st : List Value}
theorem np_ltS {x y : Nat} (hx : x < 4294967296) (hy : y < 2147483648) : nI x < nI y ↔ 2147483648 ≤ x ∨ x < y := by
  by_cases h : x < 2147483648
  · rw [nI_ltI h hy]; omega
  · constructor
    · intro _; left; omega
    · intro _
      have h1 : nI x < 0 := (np_neg hx).mpr (by omega)
      have h2 : 0 ≤ nI y := nI_pos' hy
      exact Int32.lt_of_lt_of_le h1 h2
theorem np_icmp_ltS (C : np_Cx p s m args meth c cc nL own ret TS D cl cI A S) {x y : Nat} {off : Int} {tgt : Nat} (hx : x < 4294967296) (hy : y < 2147483648) (hdg : decode cc pc = .ok (.if_icmp .lt off, 3)) (ht : (pc : Int) + off = (tgt : Int)) (kt : 2147483648 ≤ x ∨ x < y → np_V p l e R s m args below meth c ce sl D cl A Q nL w tgt vs st) (kf : x < 2147483648 ∧ y ≤ x → np_V p l e R s m args below meth c ce sl D cl A Q nL w (pc + 3) vs st) : np_V p l e R s m args below meth c ce sl D cl A Q nL w pc vs (.int (nI y) :: .int (nI x) :: st) := fun H locs ls hL hP hS => lv_icmp_lt C.1.1 C.1.2.1 hdg ht (fun h => kt ((np_ltS hx hy).mp h) H locs ls hL hP hS) (fun h => kf (by have h2 : ¬ (2147483648 ≤ x ∨ x < y) := fun q => h ((np_ltS hx hy).mpr q); omega) H locs ls hL hP hS)
/-- long subtraction whose result is no natural number, and its remainder -/
theorem np_lrm {p0 q0 : Nat} (h : p0 < q0) (hq : q0 < 65537) : (lN p0 - lN q0) - (lN p0 - lN q0) / lN 65537 * lN 65537 = lN p0 - lN q0 := by
  have e1 : (lN p0 - lN q0).toInt = (p0 : Int) - q0 := by
    rw [Int64.toInt_sub, lN_toInt (by omega), lN_toInt (by omega)]
    apply Int.bmod_eq_of_le <;> omega
  have e2 : (lN 65537).toInt = 65537 := lN_toInt (by decide)
  have e3 : (lN p0 - lN q0) / lN 65537 = 0 := by
    rw [← Int64.toInt_inj, Int64.toInt_div, e1, e2]
    have : ((p0 : Int) - q0).tdiv 65537 = 0 := by
      have hneg : (p0 : Int) - q0 = -((q0 - p0 : Nat) : Int) := by omega
      rw [hneg, Int.neg_tdiv]
      have : ((q0 - p0 : Nat) : Int).tdiv 65537 = 0 := Int.tdiv_eq_zero_of_lt (by omega) (by omega)
      rw [this]; rfl
    rw [this]; rfl
  rw [e3]
  simp
theorem np_cmpP (n : Nat) (h : n < 2 ^ 31) : lg_cmp (lN n) (lN 0) = nI (if n = 0 then 0 else 1) := by
  unfold lg_cmp
  by_cases h0 : n = 0
  · subst h0; decide
  · rw [if_pos ((lN_lt (by decide) h).mpr (by omega)), if_neg h0]; rfl
theorem np_cmpN {p0 q0 : Nat} (h : p0 < q0) (hq : q0 < 65537) : lg_cmp (lN p0 - lN q0) (lN 0) = nI 4294967295 := by
  have e1 : (lN p0 - lN q0).toInt = (p0 : Int) - q0 := by
    rw [Int64.toInt_sub, lN_toInt (by omega), lN_toInt (by omega)]
    apply Int.bmod_eq_of_le <;> omega
  have e0 : (lN 0).toInt = 0 := by decide
  unfold lg_cmp
  rw [if_neg, if_neg]
  · decide
  · intro h2
    have := congrArg Int64.toInt h2
    rw [e1, e0] at this
    omega
  · intro h2
    have h3 : (lN 0).toInt < (lN p0 - lN q0).toInt := Int64.lt_iff_toInt_lt.mp h2
    rw [e1, e0] at h3
    omega
theorem np_lsa (a b c : Int64) : a - b + c = a + c - b := by
  rw [Int64.sub_eq_add_neg, Int64.sub_eq_add_neg, Int64.add_assoc, Int64.add_assoc, Int64.add_comm (-b) c]
theorem np_lsubadd {x y : Nat} (hx : x < 2 ^ 30) (hy : y ≤ x + 65537) : lN x - lN y + lN 65537 = lN (x + 65537 - y) := by
  have h : lN x - lN y + lN 65537 = lN (x + 65537) - lN y := by
    rw [← lN_add]
    exact np_lsa _ _ _
  rw [h, lN_sub hy]
end NPM
theorem np_mul62 {x y : Nat} (hx : x < 65537) (hy : y < 131074) : x * y < 4611686018427387904 := by
  have h := Nat.mul_le_mul (Nat.le_of_lt_succ hx) (Nat.le_of_lt_succ hy)
  omega
set_option maxRecDepth 20000 in
set_option maxHeartbeats 4000000 in
theorem c_M_outside (l : Launch) (D : va_G) {cI : ClassId} {A : Nat → Prop} {w : va_W} {x y : Nat} (hx : x < 4294967296) (hy : y < 2147483648) : np_M l D cI A (0, 0) y_M_outside b_M_outside 2 (some .boolean) [.int (nI x), .int (nI y)] w (some (.int (nI (if y < x then 1 else 0)))) w := by
  refine np_Ct.of (np_Sm_St _) (by decide) (Nat.le_of_ble_eq_true rfl) ?_
  intro p e s m below meth c C
  refine np_at (vs2 := [some (.int (nI x)), some (.int (nI y))]) rfl ?_
  refine np_iload_n (pc := 0) C d_M_outside_0 rfl ?_
  refine np_if_lt (pc := 1) (tgt := 9) C (by omega) d_M_outside_1 rfl (fun h1 => ?_) (fun h1 => ?_)
  · refine np_iconst (pc := 9) (v := 1) C d_M_outside_9 (by decide) ?_
    refine np_goto (pc := 10) (tgt := 14) C d_M_outside_10 rfl ?_
    exact np_zret (pc := 14) C d_M_outside_14 (by omega) (by split <;> omega) (by rfl)
  · refine np_iload_n (pc := 4) C d_M_outside_4 rfl ?_
    refine np_iload_n (pc := 5) C d_M_outside_5 rfl ?_
    refine np_icmp_le (pc := 6) (tgt := 13) C (by omega) (by omega) d_M_outside_6 rfl (fun h6 => ?_) (fun h6 => ?_)
    · refine np_iconst (pc := 13) (v := 0) C d_M_outside_13 (by decide) ?_
      exact np_zret (pc := 14) C d_M_outside_14 (by omega) (by split <;> omega) (by rfl)
    · refine np_iconst (pc := 9) (v := 1) C d_M_outside_9 (by decide) ?_
      refine np_goto (pc := 10) (tgt := 14) C d_M_outside_10 rfl ?_
      exact np_zret (pc := 14) C d_M_outside_14 (by omega) (by split <;> omega) (by rfl)
set_option maxRecDepth 20000 in
set_option maxHeartbeats 4000000 in
theorem c_M_reduced (l : Launch) (D : va_G) {cI : ClassId} {A : Nat → Prop} {w : va_W} {n : Nat} (hn : n < 4611686018427387904) : np_M l D cI A (0, 0) y_M_reduced b_M_reduced 4 (some .int) [.long (lN n)] w (some (.int (nI (n % 65537)))) w := by
  refine np_Ct.of (np_Sm_St _) (by decide) (Nat.le_of_ble_eq_true rfl) ?_
  intro p e s m below meth c C
  refine np_at (vs2 := [some (.long (lN n)), none, none, none]) rfl ?_
  refine np_lload_n (pc := 0) C d_M_reduced_0 rfl ?_
  refine np_ldc2 (pc := 1) (v := 65537) C m_353 (by decide) d_M_reduced_1 ?_
  refine np_lrem (pc := 4) C (by omega) (by omega) (by omega) d_M_reduced_4 ?_
  refine np_lstore_n (pc := 5) C d_M_reduced_5 (by decide) rfl ?_
  refine np_lload_n (pc := 6) C d_M_reduced_6 rfl ?_
  refine np_lconst (pc := 7) (v := 0) C d_M_reduced_7 (by decide) ?_
  refine np_lcmpR (pc := 8) C d_M_reduced_8 ?_
  refine np_topx (y := if n % 65537 = 0 then 0 else 1) (np_cmpP _ (by omega)) ?_
  refine np_if_ge (pc := 9) (tgt := 20) C (by split <;> omega) d_M_reduced_9 rfl (fun h9 => ?_) (fun h9 => ?_)
  · refine np_lload_n (pc := 20) C d_M_reduced_20 rfl ?_
    refine np_l2i (pc := 21) C d_M_reduced_21 ?_
    exact np_iret (pc := 22) C d_M_reduced_22 (by first | omega | rfl | (repeat' split) <;> omega) (by rfl)
  · exfalso; split at h9 <;> omega
set_option maxRecDepth 20000 in
set_option maxHeartbeats 4000000 in
theorem c_M_reduced_n (l : Launch) (D : va_G) {cI : ClassId} {A : Nat → Prop} {w : va_W} {p0 q0 : Nat} (h : p0 < q0) (hq : q0 < 65537) : np_M l D cI A (0, 0) y_M_reduced b_M_reduced 4 (some .int) [.long (lN p0 - lN q0)] w (some (.int (nI ((p0 + 65537 - q0) % 65537)))) w := by
  refine np_Ct.of (np_Sm_St _) (by decide) (Nat.le_of_ble_eq_true rfl) ?_
  intro p e s m below meth c C
  refine np_at (vs2 := [some (.long (lN p0 - lN q0)), none, none, none]) rfl ?_
  refine np_lload_n (pc := 0) C d_M_reduced_0 rfl ?_
  refine np_ldc2 (pc := 1) (v := 65537) C m_353 (by decide) d_M_reduced_1 ?_
  refine np_lremR (pc := 4) C (by decide) d_M_reduced_4 ?_
  refine np_atst (st2 := [.long (lN p0 - lN q0)]) (by rw [np_lrm h hq]) ?_
  refine np_lstore_n (pc := 5) C d_M_reduced_5 (by decide) rfl ?_
  refine np_lload_n (pc := 6) C d_M_reduced_6 rfl ?_
  refine np_lconst (pc := 7) (v := 0) C d_M_reduced_7 (by decide) ?_
  refine np_lcmpR (pc := 8) C d_M_reduced_8 ?_
  refine np_topx (np_cmpN h hq) ?_
  refine np_if_ge (pc := 9) (tgt := 20) C (by omega) d_M_reduced_9 rfl (fun h9 => ?_) (fun h9 => ?_)
  · exfalso; omega
  · refine np_lload_n (pc := 12) C d_M_reduced_12 rfl ?_
    refine np_ldc2 (pc := 13) (v := 65537) C m_353 (by decide) d_M_reduced_13 ?_
    refine np_laddR (pc := 16) C d_M_reduced_16 ?_
    refine np_topl (np_lsubadd (by omega) (by omega)) ?_
    refine np_goto (pc := 17) (tgt := 21) C d_M_reduced_17 rfl ?_
    refine np_l2i (pc := 21) C d_M_reduced_21 ?_
    exact np_iret (pc := 22) C d_M_reduced_22 (by rw [Nat.mod_eq_of_lt (by omega)]) (by rfl)
set_option maxRecDepth 20000 in
set_option maxHeartbeats 4000000 in
theorem c_M_times (l : Launch) (D : va_G) {cI : ClassId} {A : Nat → Prop} {w : va_W} {x y : Nat} (h : x * y < 4611686018427387904) : np_M l D cI A (1, 23) y_M_times b_M_times 4 (some .int) [.long (lN x), .long (lN y)] w (some (.int (nI (np_pr x y)))) w := by
  refine np_Ct.of (np_Sm_St _) (by decide) (Nat.le_of_ble_eq_true rfl) ?_
  intro p e s m below meth c C
  refine np_at (vs2 := [some (.long (lN x)), none, some (.long (lN y)), none]) rfl ?_
  refine np_lload_n (pc := 0) C d_M_times_0 rfl ?_
  refine np_lload_n (pc := 1) C d_M_times_1 rfl ?_
  refine np_lmul (pc := 2) C d_M_times_2 ?_
  refine np_cSi (pc := 3) C (c_M_reduced l D h) np_TS_good d_M_times_3 m_352 m_350 m_5 m_351 hd_M_reduced (by decide) rfl rfl (Nat.le_of_ble_eq_true rfl) ?_
  exact np_iret (pc := 6) C d_M_times_6 (by first | omega | rfl | (repeat' split) <;> omega) (by rfl)
set_option maxRecDepth 20000 in
set_option maxHeartbeats 4000000 in
theorem c_M_cubed (l : Launch) (D : va_G) {cI : ClassId} {A : Nat → Prop} {w : va_W} {n : Nat} (hn : n < 4611686018427387904) : np_M l D cI A (2, 46) y_M_cubed b_M_cubed 4 (some .int) [.long (lN n)] w (some (.int (nI (np_cu (n % 65537))))) w := by
  refine np_Ct.of (np_Sm_St _) (by decide) (Nat.le_of_ble_eq_true rfl) ?_
  intro p e s m below meth c C
  refine np_at (vs2 := [some (.long (lN n)), none, none, none]) rfl ?_
  refine np_lload_n (pc := 0) C d_M_cubed_0 rfl ?_
  refine np_cSi (pc := 1) C (c_M_reduced l D hn) np_TS_good d_M_cubed_1 m_352 m_350 m_5 m_351 hd_M_reduced (by decide) rfl rfl (Nat.le_of_ble_eq_true rfl) ?_
  refine np_istore_n (pc := 4) C d_M_cubed_4 (by decide) rfl ?_
  refine np_iload_n (pc := 5) C d_M_cubed_5 rfl ?_
  refine np_i2l (pc := 6) C (by omega) d_M_cubed_6 ?_
  refine np_iload_n (pc := 7) C d_M_cubed_7 rfl ?_
  refine np_i2l (pc := 8) C (by omega) d_M_cubed_8 ?_
  refine np_cSi (pc := 9) C (c_M_times l D (np_mul62 (by omega) (by omega))) np_TS_good d_M_cubed_9 m_356 m_354 m_5 m_355 hd_M_times (by decide) rfl rfl (Nat.le_of_ble_eq_true rfl) ?_
  refine np_istore_n (pc := 12) C d_M_cubed_12 (by decide) rfl ?_
  refine np_iload_n (pc := 13) C d_M_cubed_13 rfl ?_
  refine np_i2l (pc := 14) C (by have := np_pr_lt (n % 65537) (n % 65537); omega) d_M_cubed_14 ?_
  refine np_iload_n (pc := 15) C d_M_cubed_15 rfl ?_
  refine np_i2l (pc := 16) C (by omega) d_M_cubed_16 ?_
  refine np_cSi (pc := 17) C (c_M_times l D (np_mul62 (np_pr_lt _ _) (by omega))) np_TS_good d_M_cubed_17 m_356 m_354 m_5 m_355 hd_M_times (by decide) rfl rfl (Nat.le_of_ble_eq_true rfl) ?_
  exact np_iret (pc := 20) C d_M_cubed_20 (by first | omega | rfl | (repeat' split) <;> omega) (by rfl)
set_option maxRecDepth 20000 in
set_option maxHeartbeats 4000000 in
theorem c_M_salt (l : Launch) (D : va_G) {cI : ClassId} {A : Nat → Prop} {w : va_W} {i : Nat} (hi : i < 4) : np_M l D cI A (0, 0) y_M_salt b_M_salt 1 (some .int) [.int (nI i)] w (some (.int (nI (np_sa i)))) w := by
  refine np_Ct.of (np_Sm_St _) (by decide) (Nat.le_of_ble_eq_true rfl) ?_
  intro p e s m below meth c C
  refine np_at (vs2 := [some (.int (nI i))]) rfl ?_
  refine np_iload_n (pc := 0) C d_M_salt_0 rfl ?_
  refine np_if_ne (pc := 1) (tgt := 9) C (by omega) d_M_salt_1 rfl (fun h1 => ?_) (fun h1 => ?_)
  · refine np_iload_n (pc := 9) C d_M_salt_9 rfl ?_
    refine np_iconst (pc := 10) (v := 1) C d_M_salt_10 (by decide) ?_
    refine np_icmp_ne (pc := 11) (tgt := 20) C (by omega) (by omega) d_M_salt_11 rfl (fun h11 => ?_) (fun h11 => ?_)
    · refine np_iload_n (pc := 20) C d_M_salt_20 rfl ?_
      refine np_iconst (pc := 21) (v := 2) C d_M_salt_21 (by decide) ?_
      refine np_icmp_ne (pc := 22) (tgt := 31) C (by omega) (by omega) d_M_salt_22 rfl (fun h22 => ?_) (fun h22 => ?_)
      · refine np_ldc (pc := 31) (v := 44444) C m_346 (by decide) d_M_salt_31 ?_
        exact np_iret (pc := 33) C d_M_salt_33 (by unfold np_sa; (repeat' split) <;> omega) (by rfl)
      · refine np_sipush (pc := 25) (v := 3333) C d_M_salt_25 (by decide) ?_
        refine np_goto (pc := 28) (tgt := 33) C d_M_salt_28 rfl ?_
        exact np_iret (pc := 33) C d_M_salt_33 (by unfold np_sa; (repeat' split) <;> omega) (by rfl)
    · refine np_sipush (pc := 14) (v := 222) C d_M_salt_14 (by decide) ?_
      refine np_goto (pc := 17) (tgt := 33) C d_M_salt_17 rfl ?_
      exact np_iret (pc := 33) C d_M_salt_33 (by unfold np_sa; (repeat' split) <;> omega) (by rfl)
  · refine np_bipush (pc := 4) (v := 11) C d_M_salt_4 (by decide) ?_
    refine np_goto (pc := 6) (tgt := 33) C d_M_salt_6 rfl ?_
    exact np_iret (pc := 33) C d_M_salt_33 (by unfold np_sa; (repeat' split) <;> omega) (by rfl)
set_option maxRecDepth 20000 in
set_option maxHeartbeats 4000000 in
theorem c_M_hashed (l : Launch) (D : va_G) {cI : ClassId} {A : Nat → Prop} {w : va_W} {x y : Nat} (hx : x < 65537) (hy : y < 65537) : np_M l D cI A (3, 69) y_M_hashed b_M_hashed 4 (some .int) [.int (nI x), .int (nI y)] w (some (.int (nI (np_hh x y)))) w := by
  refine np_Ct.of (np_Sm_St _) (by decide) (Nat.le_of_ble_eq_true rfl) ?_
  intro p e s m below meth c C
  refine np_at (vs2 := [some (.int (nI x)), some (.int (nI y)), none, none]) rfl ?_
  have loop : ∀ (n i : Nat), i + n = 4 → np_V p l e (np_rm (3, 69)) s m ([.int (nI x), .int (nI y)] : List Value).toArray below meth c 0 0 D np_cls A (MQ below (np_Qc D np_cls A (some (.int (nI (np_hh x y)))) w) ([.int (nI x), .int (nI y)] : List Value).toArray s 0 0 A) 4 w 4 [some (.int (nI x)), some (.int (nI y)), some (.int (nI (np_hr x y i))), some (.int (nI i))] [] := by
    intro n
    induction n with
    | zero =>
      intro i hi
      obtain rfl : i = 4 := by omega
      have hb := np_hr_lt (b := y) hx 4
      refine np_iload_n (pc := 4) C d_M_hashed_4 rfl ?_
      refine np_iconst (pc := 5) (v := 4) C d_M_hashed_5 (by decide) ?_
      refine np_icmp_ge (pc := 6) (tgt := 30) C (by omega) (by omega) d_M_hashed_6 rfl (fun h6 => ?_) (fun h6 => ?_)
      · refine np_iload_n (pc := 30) C d_M_hashed_30 rfl ?_
        refine np_i2l (pc := 31) C (by omega) d_M_hashed_31 ?_
        refine np_iload_n (pc := 32) C d_M_hashed_32 rfl ?_
        refine np_i2l (pc := 33) C (by omega) d_M_hashed_33 ?_
        refine np_ladd (pc := 34) C d_M_hashed_34 ?_
        refine np_iload_n (pc := 35) C d_M_hashed_35 rfl ?_
        refine np_i2l (pc := 36) C (by omega) d_M_hashed_36 ?_
        refine np_ladd (pc := 37) C d_M_hashed_37 ?_
        refine np_cSi (pc := 38) C (c_M_reduced l D (by omega)) np_TS_good d_M_hashed_38 m_352 m_350 m_5 m_351 hd_M_reduced (by decide) rfl rfl (Nat.le_of_ble_eq_true rfl) ?_
        exact np_iret (pc := 41) C d_M_hashed_41 (by exact np_sm3 _ _ _) (by rfl)
      · exfalso; omega
    | succ n ih =>
      intro i hi
      have hb := np_hr_lt (b := y) hx i
      have hs := np_sa_lt i
      refine np_iload_n (pc := 4) C d_M_hashed_4 rfl ?_
      refine np_iconst (pc := 5) (v := 4) C d_M_hashed_5 (by decide) ?_
      refine np_icmp_ge (pc := 6) (tgt := 30) C (by omega) (by omega) d_M_hashed_6 rfl (fun h6 => ?_) (fun h6 => ?_)
      · exfalso; omega
      · refine np_iload_n (pc := 9) C d_M_hashed_9 rfl ?_
        refine np_i2l (pc := 10) C (by omega) d_M_hashed_10 ?_
        refine np_iload_n (pc := 11) C d_M_hashed_11 rfl ?_
        refine np_i2l (pc := 12) C (by omega) d_M_hashed_12 ?_
        refine np_ladd (pc := 13) C d_M_hashed_13 ?_
        refine np_iload_n (pc := 14) C d_M_hashed_14 rfl ?_
        refine np_cSi (pc := 15) C (c_M_salt l D (by omega)) np_TS_good d_M_hashed_15 m_345 m_343 m_5 m_344 hd_M_salt (by decide) rfl rfl (Nat.le_of_ble_eq_true rfl) ?_
        refine np_i2l (pc := 18) C (by omega) d_M_hashed_18 ?_
        refine np_ladd (pc := 19) C d_M_hashed_19 ?_
        refine np_cSi (pc := 20) C (c_M_cubed l D (by omega)) np_TS_good d_M_hashed_20 m_349 m_347 m_5 m_348 hd_M_cubed (by decide) rfl rfl (Nat.le_of_ble_eq_true rfl) ?_
        refine np_top (y := np_hr x y (i + 1)) (by rw [np_sm3]; rfl) ?_
        refine np_istore_n (pc := 23) C d_M_hashed_23 (by decide) rfl ?_
        refine np_iinc (pc := 24) C d_M_hashed_24 rfl (np_inc1 _) (by decide) rfl ?_
        refine np_goto (pc := 27) (tgt := 4) C d_M_hashed_27 rfl ?_
        refine np_at (vs2 := [some (.int (nI x)), some (.int (nI y)), some (.int (nI (np_hr x y (i + 1)))), some (.int (nI (i + 1)))]) rfl ?_
        exact ih (i + 1) (by omega)
  refine np_iload_n (pc := 0) C d_M_hashed_0 rfl ?_
  refine np_istore_n (pc := 1) C d_M_hashed_1 (by decide) rfl ?_
  refine np_iconst (pc := 2) (v := 0) C d_M_hashed_2 (by decide) ?_
  refine np_istore_n (pc := 3) C d_M_hashed_3 (by decide) rfl ?_
  refine np_at (vs2 := [some (.int (nI x)), some (.int (nI y)), some (.int (nI (np_hr x y 0))), some (.int (nI 0))]) rfl ?_
  exact loop 4 0 rfl
set_option maxRecDepth 20000 in
set_option maxHeartbeats 4000000 in
theorem c_M_accountKey (l : Launch) (D : va_G) {cI : ClassId} {A : Nat → Prop} {w : va_W} {k : Nat} (hk : k < 4) : np_M l D cI A (4, 92) y_M_accountKey b_M_accountKey 1 (some .int) [.int (nI k)] w (some (.int (nI (np_key k)))) w := by
  refine np_Ct.of (np_Sm_St _) (by decide) (Nat.le_of_ble_eq_true rfl) ?_
  intro p e s m below meth c C
  refine np_at (vs2 := [some (.int (nI k))]) rfl ?_
  refine np_bipush (pc := 0) (v := 100) C d_M_accountKey_0 (by decide) ?_
  refine np_iload_n (pc := 2) C d_M_accountKey_2 rfl ?_
  refine np_iadd (pc := 3) C d_M_accountKey_3 ?_
  refine np_iconst (pc := 4) (v := 0) C d_M_accountKey_4 (by decide) ?_
  refine np_cSi (pc := 5) C (c_M_hashed l D (by omega) (by omega)) np_TS_good d_M_accountKey_5 m_342 m_340 m_5 m_341 hd_M_hashed (by decide) rfl rfl (Nat.le_of_ble_eq_true rfl) ?_
  exact np_iret (pc := 8) C d_M_accountKey_8 (by first | omega | rfl | (repeat' split) <;> omega) (by rfl)
set_option maxRecDepth 20000 in
set_option maxHeartbeats 4000000 in
theorem c_M_leaf (l : Launch) (D : va_G) {cI : ClassId} {a : Nat → Nat} (ha : np_inj a 7) {Y : np_X} (h1 : np_ok (Y 1)) (h2 : np_ok (Y 2)) (h3 : np_ok (Y 3)) {q : Nat} (hq : q < 16) : np_M l D cI (np_ad a 7) (4, 92) y_M_leaf b_M_leaf 3 (some .int) [.ref (a 0), .int (nI q)] (np_mw a cI Y) (some (.int (nI (np_lf (Y 1) (Y 2) (Y 3) q)))) (np_mw a cI Y) := by
  refine np_Ct.of (np_Sm_St _) (by decide) (Nat.le_of_ble_eq_true rfl) ?_
  intro p e s m below meth c C
  refine np_at (vs2 := [some (.ref (a 0)), some (.int (nI q)), none]) rfl ?_
  refine np_aload_n (pc := 0) C d_M_leaf_0 rfl ?_
  refine np_get (pc := 1) C 0 1 d_M_leaf_1 rfl rfl rfl (by decide) hin_M m_305 rfl ?_
  refine np_iload_n (pc := 4) C d_M_leaf_4 rfl ?_
  refine np_iald (pc := 5) C 1 d_M_leaf_5 rfl (by omega) (by decide) ?_
  refine np_aload_n (pc := 6) C d_M_leaf_6 rfl ?_
  refine np_get (pc := 7) C 0 2 d_M_leaf_7 rfl rfl rfl (by decide) hin_M m_306 rfl ?_
  refine np_iload_n (pc := 10) C d_M_leaf_10 rfl ?_
  refine np_iald (pc := 11) C 2 d_M_leaf_11 rfl (by omega) (by decide) ?_
  refine np_cSi (pc := 12) C (c_M_hashed l D (h1 _) (h2 _)) np_TS_good d_M_leaf_12 m_342 m_340 m_5 m_341 hd_M_hashed (by decide) rfl rfl (Nat.le_of_ble_eq_true rfl) ?_
  refine np_istore_n (pc := 15) C d_M_leaf_15 (by decide) rfl ?_
  refine np_iload_n (pc := 16) C d_M_leaf_16 rfl ?_
  refine np_aload_n (pc := 17) C d_M_leaf_17 rfl ?_
  refine np_get (pc := 18) C 0 3 d_M_leaf_18 rfl rfl rfl (by decide) hin_M m_307 rfl ?_
  refine np_iload_n (pc := 21) C d_M_leaf_21 rfl ?_
  refine np_iald (pc := 22) C 3 d_M_leaf_22 rfl (by omega) (by decide) ?_
  refine np_cSi (pc := 23) C (c_M_hashed l D (np_hh_lt _ _) (h3 _)) np_TS_good d_M_leaf_23 m_342 m_340 m_5 m_341 hd_M_hashed (by decide) rfl rfl (Nat.le_of_ble_eq_true rfl) ?_
  exact np_iret (pc := 26) C d_M_leaf_26 (by first | omega | rfl | (repeat' split) <;> omega) (by rfl)
set_option maxRecDepth 20000 in
set_option maxHeartbeats 4000000 in
theorem c_M_ownerOf (l : Launch) (D : va_G) {cI : ClassId} {a : Nat → Nat} (ha : np_inj a 7) {Y : np_X} (h1 : np_ok (Y 1)) {q : Nat} (hq : q < 16) : np_M l D cI (np_ad a 7) (5, 112) y_M_ownerOf b_M_ownerOf 3 (some .int) [.ref (a 0), .int (nI q)] (np_mw a cI Y) (some (.int (nI (np_own (Y 1 q))))) (np_mw a cI Y) := by
  refine np_Ct.of (np_Sm_St _) (by decide) (Nat.le_of_ble_eq_true rfl) ?_
  intro p e s m below meth c C
  refine np_at (vs2 := [some (.ref (a 0)), some (.int (nI q)), none]) rfl ?_
  have loop : ∀ (n k : Nat), k + n = 4 → (∀ j, j < k → np_key j ≠ Y 1 q) → np_V p l e (np_rm (5, 112)) s m ([.ref (a 0), .int (nI q)] : List Value).toArray below meth c 0 0 D np_cls (np_ad a 7) (MQ below (np_Qc D np_cls (np_ad a 7) (some (.int (nI (np_own (Y 1 q))))) (np_mw a cI Y)) ([.ref (a 0), .int (nI q)] : List Value).toArray s 0 0 (np_ad a 7)) 3 (np_mw a cI Y) 2 [some (.ref (a 0)), some (.int (nI q)), some (.int (nI k))] [] := by
    intro n
    induction n with
    | zero =>
      intro k hi hno
      obtain rfl : k = 4 := by omega
      refine np_iload_n (pc := 2) C d_M_ownerOf_2 rfl ?_
      refine np_iconst (pc := 3) (v := 4) C d_M_ownerOf_3 (by decide) ?_
      refine np_icmp_ge (pc := 4) (tgt := 28) C (by omega) (by omega) d_M_ownerOf_4 rfl (fun h4 => ?_) (fun h4 => ?_)
      · refine np_iconst (pc := 28) (v := 4294967295) C d_M_ownerOf_28 (by decide) ?_
        exact np_iret (pc := 29) C d_M_ownerOf_29 (by exact (np_ow_no hno).symm) (by rfl)
      · exfalso; omega
    | succ n ih =>
      intro k hi hno
      have hb := h1 q
      have hb2 : np_key k < 65537 := np_hh_lt _ _
      refine np_iload_n (pc := 2) C d_M_ownerOf_2 rfl ?_
      refine np_iconst (pc := 3) (v := 4) C d_M_ownerOf_3 (by decide) ?_
      refine np_icmp_ge (pc := 4) (tgt := 28) C (by omega) (by omega) d_M_ownerOf_4 rfl (fun h4 => ?_) (fun h4 => ?_)
      · exfalso; omega
      · refine np_iload_n (pc := 7) C d_M_ownerOf_7 rfl ?_
        refine np_cSi (pc := 8) C (c_M_accountKey l D (by omega)) np_TS_good d_M_ownerOf_8 m_363 m_361 m_5 m_362 hd_M_accountKey (by decide) rfl rfl (Nat.le_of_ble_eq_true rfl) ?_
        refine np_aload_n (pc := 11) C d_M_ownerOf_11 rfl ?_
        refine np_get (pc := 12) C 0 1 d_M_ownerOf_12 rfl rfl rfl (by decide) hin_M m_305 rfl ?_
        refine np_iload_n (pc := 15) C d_M_ownerOf_15 rfl ?_
        refine np_iald (pc := 16) C 1 d_M_ownerOf_16 rfl (by omega) (by decide) ?_
        refine np_icmp_ne (pc := 17) (tgt := 22) C (by omega) (by omega) d_M_ownerOf_17 rfl (fun h17 => ?_) (fun h17 => ?_)
        · refine np_iinc (pc := 22) C d_M_ownerOf_22 rfl (np_inc1 _) (by decide) rfl ?_
          refine np_goto (pc := 25) (tgt := 2) C d_M_ownerOf_25 rfl ?_
          refine np_at (vs2 := [some (.ref (a 0)), some (.int (nI q)), some (.int (nI (k + 1)))]) rfl ?_
          exact ih (k + 1) (by omega) (lt_s hno h17)
        · refine np_iload_n (pc := 20) C d_M_ownerOf_20 rfl ?_
          exact np_iret (pc := 21) C d_M_ownerOf_21 (by exact (np_ow_at hno h17 (by omega)).symm) (by rfl)
  refine np_iconst (pc := 0) (v := 0) C d_M_ownerOf_0 (by decide) ?_
  refine np_istore_n (pc := 1) C d_M_ownerOf_1 (by decide) rfl ?_
  refine np_at (vs2 := [some (.ref (a 0)), some (.int (nI q)), some (.int (nI 0))]) rfl ?_
  exact loop 4 0 rfl lt_0
set_option maxRecDepth 20000 in
set_option maxHeartbeats 4000000 in
theorem c_M_isUsed (l : Launch) (D : va_G) {cI : ClassId} {a : Nat → Nat} (ha : np_inj a 7) {Y : np_X} {x : Nat} (hx : x < 65537) (hs : Y 0 1 ≤ 16) (h4 : np_ok (Y 4)) : np_M l D cI (np_ad a 7) (0, 0) y_M_isUsed b_M_isUsed 3 (some .boolean) [.ref (a 0), .int (nI x)] (np_mw a cI Y) (some (.int (nI (if np_hs (Y 4) x (Y 0 1) = true then 1 else 0)))) (np_mw a cI Y) := by
  refine np_Ct.of (np_Sm_St _) (by decide) (Nat.le_of_ble_eq_true rfl) ?_
  intro p e s m below meth c C
  refine np_at (vs2 := [some (.ref (a 0)), some (.int (nI x)), none]) rfl ?_
  have loop : ∀ (n k : Nat), k + n = Y 0 1 → np_hs (Y 4) x k = false → np_V p l e (np_rm (0, 0)) s m ([.ref (a 0), .int (nI x)] : List Value).toArray below meth c 0 0 D np_cls (np_ad a 7) (MQ below (np_Qc D np_cls (np_ad a 7) (some (.int (nI (if np_hs (Y 4) x (Y 0 1) = true then 1 else 0)))) (np_mw a cI Y)) ([.ref (a 0), .int (nI x)] : List Value).toArray s 0 0 (np_ad a 7)) 3 (np_mw a cI Y) 2 [some (.ref (a 0)), some (.int (nI x)), some (.int (nI k))] [] := by
    intro n
    induction n with
    | zero =>
      intro k hk hno
      obtain rfl : k = Y 0 1 := by omega
      refine np_iload_n (pc := 2) C d_M_isUsed_2 rfl ?_
      refine np_aload_n (pc := 3) C d_M_isUsed_3 rfl ?_
      refine np_get (pc := 4) C 0 4 d_M_isUsed_4 rfl rfl rfl (by decide) hin_M m_308 rfl ?_
      refine np_icmp_ge (pc := 7) (tgt := 28) C (by omega) (by omega) d_M_isUsed_7 rfl (fun h7 => ?_) (fun h7 => ?_)
      · refine np_iconst (pc := 28) (v := 0) C d_M_isUsed_28 (by decide) ?_
        exact np_zret (pc := 29) C d_M_isUsed_29 (by omega) (by rw [if_neg (by simp [hno])]) (by rfl)
      · exfalso; omega
    | succ n ih =>
      intro k hk hno
      have hb := h4 k
      refine np_iload_n (pc := 2) C d_M_isUsed_2 rfl ?_
      refine np_aload_n (pc := 3) C d_M_isUsed_3 rfl ?_
      refine np_get (pc := 4) C 0 4 d_M_isUsed_4 rfl rfl rfl (by decide) hin_M m_308 rfl ?_
      refine np_icmp_ge (pc := 7) (tgt := 28) C (by omega) (by omega) d_M_isUsed_7 rfl (fun h7 => ?_) (fun h7 => ?_)
      · exfalso; omega
      · refine np_aload_n (pc := 10) C d_M_isUsed_10 rfl ?_
        refine np_get (pc := 11) C 0 5 d_M_isUsed_11 rfl rfl rfl (by decide) hin_M m_309 rfl ?_
        refine np_iload_n (pc := 14) C d_M_isUsed_14 rfl ?_
        refine np_iald (pc := 15) C 4 d_M_isUsed_15 rfl (by omega) (by decide) ?_
        refine np_iload_n (pc := 16) C d_M_isUsed_16 rfl ?_
        refine np_icmp_ne (pc := 17) (tgt := 22) C (by omega) (by omega) d_M_isUsed_17 rfl (fun h17 => ?_) (fun h17 => ?_)
        · refine np_iinc (pc := 22) C d_M_isUsed_22 rfl (np_inc1 _) (by decide) rfl ?_
          refine np_goto (pc := 25) (tgt := 2) C d_M_isUsed_25 rfl ?_
          refine np_at (vs2 := [some (.ref (a 0)), some (.int (nI x)), some (.int (nI (k + 1)))]) rfl ?_
          exact ih (k + 1) (by omega) (np_hs_no hno h17)
        · refine np_iconst (pc := 20) (v := 1) C d_M_isUsed_20 (by decide) ?_
          exact np_zret (pc := 21) C d_M_isUsed_21 (by omega) (by rw [if_pos (np_hs_up h17 (by omega))]) (by rfl)
  refine np_iconst (pc := 0) (v := 0) C d_M_isUsed_0 (by decide) ?_
  refine np_istore_n (pc := 1) C d_M_isUsed_1 (by decide) rfl ?_
  refine np_at (vs2 := [some (.ref (a 0)), some (.int (nI x)), some (.int (nI 0))]) rfl ?_
  exact loop (Y 0 1) 0 (by omega) rfl
/-! the reference's work row -/
def np_w1 (g W : Nat → Nat) : Nat → Nat → Nat
  | 0 => W
  | k + 1 => updN (np_w1 g W k) k (g k)
def np_w2 (W : Nat → Nat) : Nat → Nat → Nat
  | 0 => W
  | k + 1 => updN (np_w2 W k) k (np_hh (np_w2 W k (2 * k)) (np_w2 W k (2 * k + 1)))
def np_w3 (W : Nat → Nat) : Nat → Nat → Nat
  | 0 => W
  | v + 1 => np_w2 (np_w3 W v) (16 / 2 ^ (v + 1))
theorem np_w1_val (g W : Nat → Nat) : ∀ (k j : Nat), j < k → np_w1 g W k j = g j
  | 0, j, h => by omega
  | k + 1, j, h => by
    simp only [np_w1]
    by_cases e : j = k
    · subst e; rw [updN_same]
    · rw [updN_ne _ _ e]; exact np_w1_val g W k j (by omega)
theorem np_w2_val (W : Nat → Nat) : ∀ (k j : Nat), (j < k → np_w2 W k j = np_hh (W (2 * j)) (W (2 * j + 1))) ∧ (k ≤ j → np_w2 W k j = W j)
  | 0, j => ⟨fun h => by omega, fun _ => rfl⟩
  | k + 1, j => by
    have i1 := (np_w2_val W k (2 * k)).2 (by omega)
    have i2 := (np_w2_val W k (2 * k + 1)).2 (by omega)
    simp only [np_w2]
    rw [i1, i2]
    by_cases e : j = k
    · subst e; rw [updN_same]; exact ⟨fun _ => rfl, fun h => by omega⟩
    · rw [updN_ne _ _ e]
      exact ⟨fun h => (np_w2_val W k j).1 (by omega), fun h => (np_w2_val W k j).2 (by omega)⟩
theorem np_w3_val {g W : Nat → Nat} (h : ∀ j, j < 16 → W j = g j) : ∀ (v j : Nat), v ≤ 4 → j < 16 / 2 ^ v → np_w3 W v j = np_tr g v j
  | 0, j, _, hj => h j (by simpa using hj)
  | v + 1, j, hv, hj => by
    simp only [np_w3, np_tr]
    rw [(np_w2_val _ _ _).1 hj]
    have e : 16 / 2 ^ (v + 1) = 16 / 2 ^ v / 2 := by rw [Nat.pow_succ, Nat.div_div_eq_div_mul]
    rw [e] at hj
    rw [np_w3_val h v (2 * j) (by omega) (by omega), np_w3_val h v (2 * j + 1) (by omega) (by omega)]
theorem np_ok_w1 {g W : Nat → Nat} (hg : np_ok g) (hW : np_ok W) : ∀ k, np_ok (np_w1 g W k)
  | 0 => hW
  | k + 1 => np_ok_upd (np_ok_w1 hg hW k) (hg _)
theorem np_ok_w2 {W : Nat → Nat} (hW : np_ok W) : ∀ k, np_ok (np_w2 W k)
  | 0 => hW
  | k + 1 => np_ok_upd (np_ok_w2 hW k) (np_hh_lt _ _)
theorem np_ok_w3 {W : Nat → Nat} (hW : np_ok W) : ∀ v, np_ok (np_w3 W v)
  | 0 => hW
  | v + 1 => np_ok_w2 (np_ok_w3 hW v) _
theorem np_ok_lv {key val non : Nat → Nat} (n : Nat) : np_ok (np_lv key val non n) := by
  intro k
  unfold np_lv
  split
  · exact np_hh_lt _ _
  · decide
def np_wkN (Y : np_X) (n v : Nat) : Nat → Nat := np_w3 (np_w1 (np_lv (Y 1) (Y 2) (Y 3) n) (Y 6) 16) v
theorem np_wk_val (Y : np_X) (n : Nat) {v j : Nat} (hv : v ≤ 4) (hj : j < 16 / 2 ^ v) : np_wkN Y n v j = np_tr (np_lv (Y 1) (Y 2) (Y 3) n) v j := np_w3_val (fun j hj => np_w1_val _ _ 16 j hj) v j hv hj
theorem np_hlf (v : Nat) : 16 / 2 ^ v / 2 = 16 / 2 ^ (v + 1) := by rw [Nat.pow_succ, Nat.div_div_eq_div_mul]
set_option maxRecDepth 20000 in
set_option maxHeartbeats 4000000 in
theorem c_M_nodeOf (l : Launch) (D : va_G) {cI : ClassId} {a : Nat → Nat} (ha : np_inj a 7) {Y : np_X} (h1 : np_ok (Y 1)) (h2 : np_ok (Y 2)) (h3 : np_ok (Y 3)) (h6 : np_ok (Y 6)) {n0 v0 j0 : Nat} (hn0 : n0 ≤ 16) (hv0 : v0 ≤ 4) (hj0 : j0 < 16 / 2 ^ v0) : np_M l D cI (np_ad a 7) (5, 114) y_M_nodeOf b_M_nodeOf 7 (some .int) [.ref (a 0), .int (nI n0), .int (nI v0), .int (nI j0)] (np_mw a cI Y) (some (.int (nI (np_tr (np_lv (Y 1) (Y 2) (Y 3) n0) v0 j0)))) (np_mw a cI (va_up Y 6 (np_wkN Y n0 v0))) := by
  refine np_Ct.of (np_Sm_St _) (by decide) (Nat.le_of_ble_eq_true rfl) ?_
  intro p e s m below meth c C
  refine np_at (vs2 := [some (.ref (a 0)), some (.int (nI n0)), some (.int (nI v0)), some (.int (nI j0)), none, none, none]) rfl ?_
  have lvl : ∀ (r v : Nat) (z : Option Value), v + r = v0 → np_V p l e (np_rm (5, 114)) s m ([.ref (a 0), .int (nI n0), .int (nI v0), .int (nI j0)] : List Value).toArray below meth c 0 0 D np_cls (np_ad a 7) (MQ below (np_Qc D np_cls (np_ad a 7) (some (.int (nI (np_tr (np_lv (Y 1) (Y 2) (Y 3) n0) v0 j0)))) (np_mw a cI (va_up Y 6 (np_wkN Y n0 v0)))) ([.ref (a 0), .int (nI n0), .int (nI v0), .int (nI j0)] : List Value).toArray s 0 0 (np_ad a 7)) 7 (np_mw a cI (va_up Y 6 (np_w3 (np_w1 (np_lv (Y 1) (Y 2) (Y 3) n0) (Y 6) 16) v))) 46 [some (.ref (a 0)), some (.int (nI n0)), some (.int (nI v0)), some (.int (nI j0)), some (.int (nI (16 / 2 ^ v))), some (.int (nI v)), z] [] := by
    intro r
    induction r with
    | zero =>
      intro v z hv
      obtain rfl : v = v0 := by omega
      have h16 := Nat.div_le_self 16 (2 ^ v)
      refine np_iload (pc := 46) C d_M_nodeOf_46 rfl ?_
      refine np_iload_n (pc := 48) C d_M_nodeOf_48 rfl ?_
      refine np_icmp_ge (pc := 49) (tgt := 110) C (by omega) (by omega) d_M_nodeOf_49 rfl (fun h49 => ?_) (fun h49 => ?_)
      · refine np_aload_n (pc := 110) C d_M_nodeOf_110 rfl ?_
        refine np_get (pc := 111) C 0 8 d_M_nodeOf_111 rfl rfl rfl (by decide) hin_M m_312 rfl ?_
        refine np_iload_n (pc := 114) C d_M_nodeOf_114 rfl ?_
        refine np_iald (pc := 115) C 6 d_M_nodeOf_115 rfl (by omega) (by decide) ?_
        exact np_iret (pc := 116) C d_M_nodeOf_116 (by exact np_wk_val Y n0 hv0 hj0) (by rfl)
      · exfalso; omega
    | succ r ih =>
      intro v z hv
      have h16 := Nat.div_le_self 16 (2 ^ v)
      have h17 := np_hlf v
      have hok := np_ok_w3 (np_ok_w1 (np_ok_lv (key := Y 1) (val := Y 2) (non := Y 3) n0) h6 16) v
      have inn : ∀ (q k : Nat), k + q = 16 / 2 ^ (v + 1) → np_V p l e (np_rm (5, 114)) s m ([.ref (a 0), .int (nI n0), .int (nI v0), .int (nI j0)] : List Value).toArray below meth c 0 0 D np_cls (np_ad a 7) (MQ below (np_Qc D np_cls (np_ad a 7) (some (.int (nI (np_tr (np_lv (Y 1) (Y 2) (Y 3) n0) v0 j0)))) (np_mw a cI (va_up Y 6 (np_wkN Y n0 v0)))) ([.ref (a 0), .int (nI n0), .int (nI v0), .int (nI j0)] : List Value).toArray s 0 0 (np_ad a 7)) 7 (np_mw a cI (va_up Y 6 (np_w2 (np_w3 (np_w1 (np_lv (Y 1) (Y 2) (Y 3) n0) (Y 6) 16) v) k))) 61 [some (.ref (a 0)), some (.int (nI n0)), some (.int (nI v0)), some (.int (nI j0)), some (.int (nI (16 / 2 ^ (v + 1)))), some (.int (nI v)), some (.int (nI k))] [] := by
        intro q
        induction q with
        | zero =>
          intro k hk
          refine np_iload (pc := 61) C d_M_nodeOf_61 rfl ?_
          refine np_iload (pc := 63) C d_M_nodeOf_63 rfl ?_
          refine np_icmp_ge (pc := 65) (tgt := 104) C (by omega) (by omega) d_M_nodeOf_65 rfl (fun h65 => ?_) (fun h65 => ?_)
          · refine np_iinc (pc := 104) C d_M_nodeOf_104 rfl (np_inc1 _) (by decide) rfl ?_
            refine np_goto (pc := 107) (tgt := 46) C d_M_nodeOf_107 rfl ?_
            refine np_at (vs2 := [some (.ref (a 0)), some (.int (nI n0)), some (.int (nI v0)), some (.int (nI j0)), some (.int (nI (16 / 2 ^ (v + 1)))), some (.int (nI (v + 1))), some (.int (nI k))]) rfl ?_
            refine np_atw (w2 := (np_mw a cI (va_up Y 6 (np_w3 (np_w1 (np_lv (Y 1) (Y 2) (Y 3) n0) (Y 6) 16) (v + 1))))) (by rw [show k = 16 / 2 ^ (v + 1) by omega]; rfl) ?_
            exact ih (v + 1) _ (by omega)
          · exfalso; omega
        | succ q ih2 =>
          intro k hk
          refine np_iload (pc := 61) C d_M_nodeOf_61 rfl ?_
          refine np_iload (pc := 63) C d_M_nodeOf_63 rfl ?_
          refine np_icmp_ge (pc := 65) (tgt := 104) C (by omega) (by omega) d_M_nodeOf_65 rfl (fun h65 => ?_) (fun h65 => ?_)
          · exfalso; omega
          · refine np_aload_n (pc := 68) C d_M_nodeOf_68 rfl ?_
            refine np_get (pc := 69) C 0 8 d_M_nodeOf_69 rfl rfl rfl (by decide) hin_M m_312 rfl ?_
            refine np_iload (pc := 72) C d_M_nodeOf_72 rfl ?_
            refine np_aload_n (pc := 74) C d_M_nodeOf_74 rfl ?_
            refine np_get (pc := 75) C 0 8 d_M_nodeOf_75 rfl rfl rfl (by decide) hin_M m_312 rfl ?_
            refine np_iconst (pc := 78) (v := 2) C d_M_nodeOf_78 (by decide) ?_
            refine np_iload (pc := 79) C d_M_nodeOf_79 rfl ?_
            refine np_imul (pc := 81) C d_M_nodeOf_81 ?_
            refine np_iald (pc := 82) C 6 d_M_nodeOf_82 rfl (by omega) (by decide) ?_
            refine np_aload_n (pc := 83) C d_M_nodeOf_83 rfl ?_
            refine np_get (pc := 84) C 0 8 d_M_nodeOf_84 rfl rfl rfl (by decide) hin_M m_312 rfl ?_
            refine np_iconst (pc := 87) (v := 2) C d_M_nodeOf_87 (by decide) ?_
            refine np_iload (pc := 88) C d_M_nodeOf_88 rfl ?_
            refine np_imul (pc := 90) C d_M_nodeOf_90 ?_
            refine np_iconst (pc := 91) (v := 1) C d_M_nodeOf_91 (by decide) ?_
            refine np_iadd (pc := 92) C d_M_nodeOf_92 ?_
            refine np_iald (pc := 93) C 6 d_M_nodeOf_93 rfl (by omega) (by decide) ?_
            refine np_cSi (pc := 94) C (c_M_hashed l D (np_ok_w2 hok _ _) (np_ok_w2 hok _ _)) np_TS_good d_M_nodeOf_94 m_342 m_340 m_5 m_341 hd_M_hashed (by decide) rfl rfl (Nat.le_of_ble_eq_true rfl) ?_
            refine np_iastG (pc := 97) C (np_mw a cI) _ 6 6 (np_mD ha _) d_M_nodeOf_97 rfl (us_6 a cI _) (by omega) (by decide) ?_
            refine np_iinc (pc := 98) C d_M_nodeOf_98 rfl (np_inc1 _) (by decide) rfl ?_
            refine np_goto (pc := 101) (tgt := 61) C d_M_nodeOf_101 rfl ?_
            refine np_at (vs2 := [some (.ref (a 0)), some (.int (nI n0)), some (.int (nI v0)), some (.int (nI j0)), some (.int (nI (16 / 2 ^ (v + 1)))), some (.int (nI v)), some (.int (nI (k + 1)))]) rfl ?_
            refine np_atw (w2 := (np_mw a cI (va_up Y 6 (np_w2 (np_w3 (np_w1 (np_lv (Y 1) (Y 2) (Y 3) n0) (Y 6) 16) v) (k + 1))))) rfl ?_
            exact ih2 (k + 1) (by omega)
      refine np_iload (pc := 46) C d_M_nodeOf_46 rfl ?_
      refine np_iload_n (pc := 48) C d_M_nodeOf_48 rfl ?_
      refine np_icmp_ge (pc := 49) (tgt := 110) C (by omega) (by omega) d_M_nodeOf_49 rfl (fun h49 => ?_) (fun h49 => ?_)
      · exfalso; omega
      · refine np_iload (pc := 52) C d_M_nodeOf_52 rfl ?_
        refine np_iconst (pc := 54) (v := 2) C d_M_nodeOf_54 (by decide) ?_
        refine np_idiv (pc := 55) C (by omega) (by omega) (by omega) d_M_nodeOf_55 ?_
        refine np_top (y := 16 / 2 ^ (v + 1)) (by rw [np_hlf]) ?_
        refine np_istore (pc := 56) C d_M_nodeOf_56 (by decide) rfl ?_
        refine np_iconst (pc := 58) (v := 0) C d_M_nodeOf_58 (by decide) ?_
        refine np_istore (pc := 59) C d_M_nodeOf_59 (by decide) rfl ?_
        refine np_at (vs2 := [some (.ref (a 0)), some (.int (nI n0)), some (.int (nI v0)), some (.int (nI j0)), some (.int (nI (16 / 2 ^ (v + 1)))), some (.int (nI v)), some (.int (nI 0))]) rfl ?_
        refine np_atw (w2 := (np_mw a cI (va_up Y 6 (np_w2 (np_w3 (np_w1 (np_lv (Y 1) (Y 2) (Y 3) n0) (Y 6) 16) v) 0)))) rfl ?_
        exact inn (16 / 2 ^ (v + 1)) 0 (by omega)
  have fst : ∀ (r k : Nat), k + r = 16 → np_V p l e (np_rm (5, 114)) s m ([.ref (a 0), .int (nI n0), .int (nI v0), .int (nI j0)] : List Value).toArray below meth c 0 0 D np_cls (np_ad a 7) (MQ below (np_Qc D np_cls (np_ad a 7) (some (.int (nI (np_tr (np_lv (Y 1) (Y 2) (Y 3) n0) v0 j0)))) (np_mw a cI (va_up Y 6 (np_wkN Y n0 v0)))) ([.ref (a 0), .int (nI n0), .int (nI v0), .int (nI j0)] : List Value).toArray s 0 0 (np_ad a 7)) 7 (np_mw a cI (va_up Y 6 (np_w1 (np_lv (Y 1) (Y 2) (Y 3) n0) (Y 6) k))) 3 [some (.ref (a 0)), some (.int (nI n0)), some (.int (nI v0)), some (.int (nI j0)), some (.int (nI k)), none, none] [] := by
    intro r
    induction r with
    | zero =>
      intro k hk
      obtain rfl : k = 16 := by omega
      refine np_iload (pc := 3) C d_M_nodeOf_3 rfl ?_
      refine np_bipush (pc := 5) (v := 16) C d_M_nodeOf_5 (by decide) ?_
      refine np_icmp_ge (pc := 7) (tgt := 39) C (by omega) (by omega) d_M_nodeOf_7 rfl (fun h7 => ?_) (fun h7 => ?_)
      · refine np_bipush (pc := 39) (v := 16) C d_M_nodeOf_39 (by decide) ?_
        refine np_istore (pc := 41) C d_M_nodeOf_41 (by decide) rfl ?_
        refine np_iconst (pc := 43) (v := 0) C d_M_nodeOf_43 (by decide) ?_
        refine np_istore (pc := 44) C d_M_nodeOf_44 (by decide) rfl ?_
        refine np_at (vs2 := [some (.ref (a 0)), some (.int (nI n0)), some (.int (nI v0)), some (.int (nI j0)), some (.int (nI (16 / 2 ^ 0))), some (.int (nI 0)), none]) rfl ?_
        exact lvl v0 0 none (by omega)
      · exfalso; omega
    | succ r ih =>
      intro k hk
      refine np_iload (pc := 3) C d_M_nodeOf_3 rfl ?_
      refine np_bipush (pc := 5) (v := 16) C d_M_nodeOf_5 (by decide) ?_
      refine np_icmp_ge (pc := 7) (tgt := 39) C (by omega) (by omega) d_M_nodeOf_7 rfl (fun h7 => ?_) (fun h7 => ?_)
      · exfalso; omega
      · refine np_aload_n (pc := 10) C d_M_nodeOf_10 rfl ?_
        refine np_get (pc := 11) C 0 8 d_M_nodeOf_11 rfl rfl rfl (by decide) hin_M m_312 rfl ?_
        refine np_iload (pc := 14) C d_M_nodeOf_14 rfl ?_
        refine np_iload (pc := 16) C d_M_nodeOf_16 rfl ?_
        refine np_iload_n (pc := 18) C d_M_nodeOf_18 rfl ?_
        refine np_icmp_ge (pc := 19) (tgt := 31) C (by omega) (by omega) d_M_nodeOf_19 rfl (fun h19 => ?_) (fun h19 => ?_)
        · have e : np_lv (Y 1) (Y 2) (Y 3) n0 k = 0 := by rw [np_lv, if_neg (by omega)]
          refine np_iconst (pc := 31) (v := 0) C d_M_nodeOf_31 (by decide) ?_
          refine np_top (y := np_lv (Y 1) (Y 2) (Y 3) n0 k) (by rw [e]; first | done | rfl) ?_
          refine np_iastG (pc := 32) C (np_mw a cI) _ 6 6 (np_mD ha _) d_M_nodeOf_32 rfl (us_6 a cI _) (by omega) (by decide) ?_
          refine np_iinc (pc := 33) C d_M_nodeOf_33 rfl (np_inc1 _) (by decide) rfl ?_
          refine np_goto (pc := 36) (tgt := 3) C d_M_nodeOf_36 rfl ?_
          refine np_at (vs2 := [some (.ref (a 0)), some (.int (nI n0)), some (.int (nI v0)), some (.int (nI j0)), some (.int (nI (k + 1))), none, none]) rfl ?_
          refine np_atw (w2 := (np_mw a cI (va_up Y 6 (np_w1 (np_lv (Y 1) (Y 2) (Y 3) n0) (Y 6) (k + 1))))) rfl ?_
          exact ih (k + 1) (by omega)
        · have e : np_lv (Y 1) (Y 2) (Y 3) n0 k = np_lf (Y 1) (Y 2) (Y 3) k := by rw [np_lv, if_pos (by omega)]
          refine np_aload_n (pc := 22) C d_M_nodeOf_22 rfl ?_
          refine np_iload (pc := 23) C d_M_nodeOf_23 rfl ?_
          refine np_cVi (pc := 25) C 0 (c_M_leaf l D ha (Y := va_up Y 6 (np_w1 (np_lv (Y 1) (Y 2) (Y 3) n0) (Y 6) k)) h1 h2 h3 (by omega)) np_TS_good d_M_nodeOf_25 rfl rfl m_395 m_392 m_5 m_394 ms_M_leaf hd_M_leaf (by decide) rfl rfl (Nat.le_of_ble_eq_true rfl) ?_
          refine np_goto (pc := 28) (tgt := 32) C d_M_nodeOf_28 rfl ?_
          refine np_top (y := np_lv (Y 1) (Y 2) (Y 3) n0 k) (by rw [e]; first | done | rfl) ?_
          refine np_iastG (pc := 32) C (np_mw a cI) _ 6 6 (np_mD ha _) d_M_nodeOf_32 rfl (us_6 a cI _) (by omega) (by decide) ?_
          refine np_iinc (pc := 33) C d_M_nodeOf_33 rfl (np_inc1 _) (by decide) rfl ?_
          refine np_goto (pc := 36) (tgt := 3) C d_M_nodeOf_36 rfl ?_
          refine np_at (vs2 := [some (.ref (a 0)), some (.int (nI n0)), some (.int (nI v0)), some (.int (nI j0)), some (.int (nI (k + 1))), none, none]) rfl ?_
          refine np_atw (w2 := (np_mw a cI (va_up Y 6 (np_w1 (np_lv (Y 1) (Y 2) (Y 3) n0) (Y 6) (k + 1))))) rfl ?_
          exact ih (k + 1) (by omega)
  refine np_iconst (pc := 0) (v := 0) C d_M_nodeOf_0 (by decide) ?_
  refine np_istore (pc := 1) C d_M_nodeOf_1 (by decide) rfl ?_
  refine np_at (vs2 := [some (.ref (a 0)), some (.int (nI n0)), some (.int (nI v0)), some (.int (nI j0)), some (.int (nI 0)), none, none]) rfl ?_
  refine np_atw (w2 := (np_mw a cI (va_up Y 6 (np_w1 (np_lv (Y 1) (Y 2) (Y 3) n0) (Y 6) 0)))) rfl ?_
  exact fst 16 0 rfl
set_option maxRecDepth 20000 in
set_option maxHeartbeats 4000000 in
theorem c_M_make (l : Launch) (D : va_G) {cI : ClassId} {a : Nat → Nat} (ha : np_inj a 7) {Y : np_X} {x y z : Nat} (hf : Y 0 0 < 16) : np_M l D cI (np_ad a 7) (0, 0) y_M_make b_M_make 4 (some .int) [.ref (a 0), .int (nI x), .int (nI y), .int (nI z)] (np_mw a cI Y) (some (.int (nI (Y 0 0)))) (np_mw a cI (np_mkY Y x y z)) := by
  refine np_Ct.of (np_Sm_St _) (by decide) (Nat.le_of_ble_eq_true rfl) ?_
  intro p e s m below meth c C
  refine np_at (vs2 := [some (.ref (a 0)), some (.int (nI x)), some (.int (nI y)), some (.int (nI z))]) rfl ?_
  refine np_aload_n (pc := 0) C d_M_make_0 rfl ?_
  refine np_get (pc := 1) C 0 1 d_M_make_1 rfl rfl rfl (by decide) hin_M m_305 rfl ?_
  refine np_aload_n (pc := 4) C d_M_make_4 rfl ?_
  refine np_get (pc := 5) C 0 0 d_M_make_5 rfl rfl rfl (by decide) hin_M m_304 rfl ?_
  refine np_top (y := Y 0 0) rfl ?_
  refine np_iload_n (pc := 8) C d_M_make_8 rfl ?_
  refine np_iastG (pc := 9) C (np_mw a cI) _ 1 1 (np_mD ha _) d_M_make_9 rfl (us_1 a cI _) (by omega) (by decide) ?_
  refine np_aload_n (pc := 10) C d_M_make_10 rfl ?_
  refine np_get (pc := 11) C 0 2 d_M_make_11 rfl rfl rfl (by decide) hin_M m_306 rfl ?_
  refine np_aload_n (pc := 14) C d_M_make_14 rfl ?_
  refine np_get (pc := 15) C 0 0 d_M_make_15 rfl rfl rfl (by decide) hin_M m_304 rfl ?_
  refine np_top (y := Y 0 0) rfl ?_
  refine np_iload_n (pc := 18) C d_M_make_18 rfl ?_
  refine np_iastG (pc := 19) C (np_mw a cI) _ 2 2 (np_mD ha _) d_M_make_19 rfl (us_2 a cI _) (by omega) (by decide) ?_
  refine np_aload_n (pc := 20) C d_M_make_20 rfl ?_
  refine np_get (pc := 21) C 0 3 d_M_make_21 rfl rfl rfl (by decide) hin_M m_307 rfl ?_
  refine np_aload_n (pc := 24) C d_M_make_24 rfl ?_
  refine np_get (pc := 25) C 0 0 d_M_make_25 rfl rfl rfl (by decide) hin_M m_304 rfl ?_
  refine np_top (y := Y 0 0) rfl ?_
  refine np_iload_n (pc := 28) C d_M_make_28 rfl ?_
  refine np_iastG (pc := 29) C (np_mw a cI) _ 3 3 (np_mD ha _) d_M_make_29 rfl (us_3 a cI _) (by omega) (by decide) ?_
  refine np_aload_n (pc := 30) C d_M_make_30 rfl ?_
  refine np_dup (pc := 31) C rfl d_M_make_31 ?_
  refine np_get (pc := 32) C 0 0 d_M_make_32 rfl rfl rfl (by decide) hin_M m_304 rfl ?_
  refine np_top (y := Y 0 0) rfl ?_
  refine np_iconst (pc := 35) (v := 1) C d_M_make_35 (by decide) ?_
  refine np_iadd (pc := 36) C d_M_make_36 ?_
  refine np_putG (pc := 37) C (np_mw a cI) _ 0 0 0 (np_mD ha _) d_M_make_37 rfl (up_0 a cI _) rfl (by decide) hin_M ty_M tyok_M nm_M m_304 rfl rfl rfl (Nat.le_of_ble_eq_true rfl) ?_
  refine np_aload_n (pc := 40) C d_M_make_40 rfl ?_
  refine np_get (pc := 41) C 0 0 d_M_make_41 rfl rfl rfl (by decide) hin_M m_304 rfl ?_
  refine np_top (y := Y 0 0 + 1) rfl ?_
  refine np_iconst (pc := 44) (v := 1) C d_M_make_44 (by decide) ?_
  refine np_isub (pc := 45) C (by omega) d_M_make_45 ?_
  exact np_iret (pc := 46) C d_M_make_46 (by first | omega | rfl | (repeat' split) <;> omega) (by rfl)
def np_depRY (Y : np_X) (x v n : Nat) : Nat := if x < 4 then (if v < 256 ∧ n < 65537 then (if Y 0 0 = 16 then 4294967289 else Y 0 0) else 4294967293) else 4294967294
def np_depXY (Y : np_X) (x v n : Nat) : np_X := if x < 4 then (if v < 256 ∧ n < 65537 then (if Y 0 0 = 16 then Y else np_mkY (va_up Y 0 (updN (Y 0) 2 (Y 0 2 + v))) (np_key x) v n) else Y) else Y
set_option maxRecDepth 20000 in
set_option maxHeartbeats 4000000 in
theorem c_M_deposit (l : Launch) (D : va_G) {cI : ClassId} {a : Nat → Nat} (ha : np_inj a 7) {Y : np_X} (hc0 : Y 0 0 ≤ 16) {x v n : Nat} (hx : x < 4294967296) (hv : v < 4294967296) (hn : n < 4294967296) : np_M l D cI (np_ad a 7) (5, 112) y_M_deposit b_M_deposit 5 (some .int) [.ref (a 0), .int (nI x), .int (nI v), .int (nI n)] (np_mw a cI Y) (some (.int (nI (np_depRY Y x v n)))) (np_mw a cI (np_depXY Y x v n)) := by
  refine np_Ct.of (np_Sm_St _) (by decide) (Nat.le_of_ble_eq_true rfl) ?_
  intro p e s m below meth c C
  refine np_at (vs2 := [some (.ref (a 0)), some (.int (nI x)), some (.int (nI v)), some (.int (nI n)), none]) rfl ?_
  refine np_iload_n (pc := 0) C d_M_deposit_0 rfl ?_
  refine np_iconst (pc := 1) (v := 3) C d_M_deposit_1 (by decide) ?_
  refine np_cSi (pc := 2) C (c_M_outside l D (by omega) (by omega)) np_TS_good d_M_deposit_2 m_339 m_337 m_5 m_338 hd_M_outside (by decide) rfl rfl (Nat.le_of_ble_eq_true rfl) ?_
  refine np_ifz_eq (pc := 5) (tgt := 11) C d_M_deposit_5 rfl (fun h5 => ?_) (fun h5 => ?_)
  · refine np_iload_n (pc := 11) C d_M_deposit_11 rfl ?_
    refine np_sipush (pc := 12) (v := 255) C d_M_deposit_12 (by decide) ?_
    refine np_cSi (pc := 15) C (c_M_outside l D (by omega) (by omega)) np_TS_good d_M_deposit_15 m_339 m_337 m_5 m_338 hd_M_outside (by decide) rfl rfl (Nat.le_of_ble_eq_true rfl) ?_
    refine np_ifz_ne (pc := 18) (tgt := 30) C d_M_deposit_18 rfl (fun h18 => ?_) (fun h18 => ?_)
    · refine np_bipush (pc := 30) (v := 4294967293) C d_M_deposit_30 (by decide) ?_
      exact np_iret (pc := 32) C d_M_deposit_32 (by unfold np_depRY; (repeat' split) <;> first | omega | rfl) (by unfold np_depXY; (repeat' split) <;> first | (exfalso; omega) | rfl)
    · refine np_iload_n (pc := 21) C d_M_deposit_21 rfl ?_
      refine np_ldc (pc := 22) (v := 65536) C m_336 (by decide) d_M_deposit_22 ?_
      refine np_cSi (pc := 24) C (c_M_outside l D (by omega) (by omega)) np_TS_good d_M_deposit_24 m_339 m_337 m_5 m_338 hd_M_outside (by decide) rfl rfl (Nat.le_of_ble_eq_true rfl) ?_
      refine np_ifz_eq (pc := 27) (tgt := 33) C d_M_deposit_27 rfl (fun h27 => ?_) (fun h27 => ?_)
      · refine np_aload_n (pc := 33) C d_M_deposit_33 rfl ?_
        refine np_get (pc := 34) C 0 0 d_M_deposit_34 rfl rfl rfl (by decide) hin_M m_304 rfl ?_
        refine np_bipush (pc := 37) (v := 16) C d_M_deposit_37 (by decide) ?_
        refine np_icmp_ne (pc := 39) (tgt := 45) C (by omega) (by omega) d_M_deposit_39 rfl (fun h39 => ?_) (fun h39 => ?_)
        · refine np_aload_n (pc := 45) C d_M_deposit_45 rfl ?_
          refine np_aload_n (pc := 46) C d_M_deposit_46 rfl ?_
          refine np_get (pc := 47) C 0 6 d_M_deposit_47 rfl rfl rfl (by decide) hin_M m_310 rfl ?_
          refine np_iload_n (pc := 50) C d_M_deposit_50 rfl ?_
          refine np_iadd (pc := 51) C d_M_deposit_51 ?_
          refine np_putG (pc := 52) C (np_mw a cI) _ 0 6 2 (np_mD ha _) d_M_deposit_52 rfl (up_6 a cI _) rfl (by decide) hin_M ty_M tyok_M nm_M m_310 rfl rfl rfl (Nat.le_of_ble_eq_true rfl) ?_
          refine np_iload_n (pc := 55) C d_M_deposit_55 rfl ?_
          refine np_cSi (pc := 56) C (c_M_accountKey l D (by omega)) np_TS_good d_M_deposit_56 m_363 m_361 m_5 m_362 hd_M_accountKey (by decide) rfl rfl (Nat.le_of_ble_eq_true rfl) ?_
          refine np_istore (pc := 59) C d_M_deposit_59 (by decide) rfl ?_
          refine np_aload_n (pc := 61) C d_M_deposit_61 rfl ?_
          refine np_iload (pc := 62) C d_M_deposit_62 rfl ?_
          refine np_iload_n (pc := 64) C d_M_deposit_64 rfl ?_
          refine np_iload_n (pc := 65) C d_M_deposit_65 rfl ?_
          refine np_cVi (pc := 66) C 0 (c_M_make l D ha (Y := va_up Y 0 (updN (Y 0) 2 (Y 0 2 + v))) (show Y 0 0 < 16 by omega)) np_TS_good d_M_deposit_66 rfl rfl m_367 m_364 m_5 m_366 ms_M_make hd_M_make (by decide) rfl rfl (Nat.le_of_ble_eq_true rfl) ?_
          exact np_iret (pc := 69) C d_M_deposit_69 (by unfold np_depRY; (repeat' split) <;> first | omega | rfl) (by unfold np_depXY; (repeat' split) <;> first | (exfalso; omega) | rfl)
        · refine np_bipush (pc := 42) (v := 4294967289) C d_M_deposit_42 (by decide) ?_
          exact np_iret (pc := 44) C d_M_deposit_44 (by unfold np_depRY; (repeat' split) <;> first | omega | rfl) (by unfold np_depXY; (repeat' split) <;> first | (exfalso; omega) | rfl)
      · refine np_bipush (pc := 30) (v := 4294967293) C d_M_deposit_30 (by decide) ?_
        exact np_iret (pc := 32) C d_M_deposit_32 (by unfold np_depRY; (repeat' split) <;> first | omega | rfl) (by unfold np_depXY; (repeat' split) <;> first | (exfalso; omega) | rfl)
  · refine np_bipush (pc := 8) (v := 4294967294) C d_M_deposit_8 (by decide) ?_
    exact np_iret (pc := 10) C d_M_deposit_10 (by unfold np_depRY; (repeat' split) <;> first | omega | rfl) (by unfold np_depXY; (repeat' split) <;> first | (exfalso; omega) | rfl)
set_option maxRecDepth 20000 in
set_option maxHeartbeats 4000000 in
theorem c_M_hash (l : Launch) (D : va_G) {cI : ClassId} {a : Nat → Nat} (ha : np_inj a 7) {Y : np_X} {x y : Nat} (hx : x < 4294967296) (hy : y < 4294967296) : np_M l D cI (np_ad a 7) (4, 92) y_M_hash b_M_hash 3 (some .int) [.ref (a 0), .int (nI x), .int (nI y)] (np_mw a cI Y) (some (.int (nI (if x < 65537 then (if y < 65537 then np_hh x y else 4294967295) else 4294967295)))) (np_mw a cI Y) := by
  refine np_Ct.of (np_Sm_St _) (by decide) (Nat.le_of_ble_eq_true rfl) ?_
  intro p e s m below meth c C
  refine np_at (vs2 := [some (.ref (a 0)), some (.int (nI x)), some (.int (nI y))]) rfl ?_
  refine np_iload_n (pc := 0) C d_M_hash_0 rfl ?_
  refine np_ldc (pc := 1) (v := 65536) C m_336 (by decide) d_M_hash_1 ?_
  refine np_cSi (pc := 3) C (c_M_outside l D (by omega) (by omega)) np_TS_good d_M_hash_3 m_339 m_337 m_5 m_338 hd_M_outside (by decide) rfl rfl (Nat.le_of_ble_eq_true rfl) ?_
  refine np_ifz_ne (pc := 6) (tgt := 18) C d_M_hash_6 rfl (fun h6 => ?_) (fun h6 => ?_)
  · refine np_iconst (pc := 18) (v := 4294967295) C d_M_hash_18 (by decide) ?_
    refine np_goto (pc := 19) (tgt := 27) C d_M_hash_19 rfl ?_
    exact np_iret (pc := 27) C d_M_hash_27 (by (repeat' split) <;> first | omega | rfl) (by rfl)
  · refine np_iload_n (pc := 9) C d_M_hash_9 rfl ?_
    refine np_ldc (pc := 10) (v := 65536) C m_336 (by decide) d_M_hash_10 ?_
    refine np_cSi (pc := 12) C (c_M_outside l D (by omega) (by omega)) np_TS_good d_M_hash_12 m_339 m_337 m_5 m_338 hd_M_outside (by decide) rfl rfl (Nat.le_of_ble_eq_true rfl) ?_
    refine np_ifz_eq (pc := 15) (tgt := 22) C d_M_hash_15 rfl (fun h15 => ?_) (fun h15 => ?_)
    · refine np_iload_n (pc := 22) C d_M_hash_22 rfl ?_
      refine np_iload_n (pc := 23) C d_M_hash_23 rfl ?_
      refine np_cSi (pc := 24) C (c_M_hashed l D (by omega) (by omega)) np_TS_good d_M_hash_24 m_342 m_340 m_5 m_341 hd_M_hashed (by decide) rfl rfl (Nat.le_of_ble_eq_true rfl) ?_
      exact np_iret (pc := 27) C d_M_hash_27 (by (repeat' split) <;> first | omega | rfl) (by rfl)
    · refine np_iconst (pc := 18) (v := 4294967295) C d_M_hash_18 (by decide) ?_
      refine np_goto (pc := 19) (tgt := 27) C d_M_hash_19 rfl ?_
      exact np_iret (pc := 27) C d_M_hash_27 (by (repeat' split) <;> first | omega | rfl) (by rfl)
