/-! the states: X of the class, Y of the reference. X 0: pool, notes, marks; X 1 keys, X 2 owners, X 3 values, X 4 nonces, X 6 nodes, X 7 roots, X 9 sorted marks, X 11 cells. Y 0: notes, marks, pool; Y 1 keys, Y 2 values, Y 3 nonces, Y 4 marks, Y 5 cells, Y 6 work -/
abbrev np_X : Type := Nat → Nat → Nat
def np_ow (ks : Nat → Nat) (key : Nat) : Nat := if ks 0 = key then 0 else if ks 1 = key then 1 else if ks 2 = key then 2 else if ks 3 = key then 3 else 4294967295
def np_apd (X : np_X) (leaf : Nat) : np_X := va_up (va_up (va_up X 6 (np_ups (updN (X 6) (16 + X 0 1) leaf) (X 0 1) 4)) 0 (updN (X 0) 1 (X 0 1 + 1))) 7 (updN (X 7) (X 0 1 + 1) (np_ups (updN (X 6) (16 + X 0 1) leaf) (X 0 1) 4 1))
def np_mkn (X : np_X) (key v n : Nat) : np_X := va_up (va_up (va_up (np_apd X (np_hh (np_hh key v) n)) 2 (updN (X 2) (X 0 1) (np_ow (X 1) key))) 3 (updN (X 3) (X 0 1) v)) 4 (updN (X 4) (X 0 1) n)
def np_mkY (Y : np_X) (key v n : Nat) : np_X := va_up (va_up (va_up (va_up Y 1 (updN (Y 1) (Y 0 0) key)) 2 (updN (Y 2) (Y 0 0) v)) 3 (updN (Y 3) (Y 0 0) n)) 0 (updN (Y 0) 0 (Y 0 0 + 1))
/-- what every method of the class counts on -/
def np_XI (X : np_X) : Prop := X 0 1 ≤ 16 ∧ X 0 2 ≤ X 0 1 ∧ np_ok (X 1) ∧ (∀ j, X 2 j < 4294967296) ∧ np_ok (X 3) ∧ np_ok (X 4) ∧ np_ok (X 6) ∧ np_ok (X 7) ∧ np_ok (X 9) ∧ np_ok (X 11)
/-- what every method of the reference counts on -/
def np_YI (Y : np_X) : Prop := Y 0 0 ≤ 16 ∧ Y 0 1 ≤ Y 0 0 ∧ np_ok (Y 1) ∧ np_ok (Y 2) ∧ np_ok (Y 3) ∧ np_ok (Y 4) ∧ np_ok (Y 5)
/-- the class and the reference stand alike -/
def np_R (X Y : np_X) : Prop := np_XI X ∧ np_YI Y ∧ (Y 0 0 = X 0 1 ∧ Y 0 1 = X 0 2 ∧ Y 0 2 = X 0 0) ∧ (∀ k, k < 4 → X 1 k = np_key k) ∧ (∀ k, k < X 0 1 → X 2 k = np_own (Y 1 k)) ∧ X 3 = Y 2 ∧ X 4 = Y 3 ∧ np_NI (X 6) (np_lv (Y 1) (Y 2) (Y 3) (X 0 1)) ∧ (∀ k, k ≤ X 0 1 → X 7 k = np_tr (np_lv (Y 1) (Y 2) (Y 3) k) 4 0) ∧ np_up (X 9) (X 0 2) ∧ (∀ x, np_cn (Y 4) x (X 0 2) = np_cn (X 9) x (X 0 2)) ∧ X 11 = Y 5
theorem np_own_lt (key : Nat) : np_own key < 4294967296 := by
  unfold np_own
  repeat' split
  all_goals omega
theorem np_ow_lt (ks : Nat → Nat) (key : Nat) : np_ow ks key < 4294967296 := by
  unfold np_ow
  repeat' split
  all_goals omega
theorem np_ow_own {ks : Nat → Nat} (h : ∀ k, k < 4 → ks k = np_key k) (key : Nat) : np_ow ks key = np_own key := by
  unfold np_ow np_own
  rw [h 0 (by omega), h 1 (by omega), h 2 (by omega), h 3 (by omega)]
theorem np_ok_hu {nd : Nat → Nat} (h : np_ok nd) (i : Nat) : np_ok (np_hu nd i) := np_ok_upd h (np_hh_lt _ _)
theorem np_ok_ups {nd : Nat → Nat} (h : np_ok nd) (p : Nat) : ∀ v, np_ok (np_ups nd p v)
  | 0 => h
  | v + 1 => np_ok_hu (np_ok_ups h p v) _
theorem np_lv_add (key val non : Nat → Nat) (n k v z : Nat) : np_lv (updN key n k) (updN val n v) (updN non n z) (n + 1) = updN (np_lv key val non n) n (np_hh (np_hh k v) z) := by
  funext i
  unfold np_lv np_lf
  by_cases h : i = n
  · subst h
    rw [if_pos (by omega), updN_same, updN_same, updN_same, updN_same]
  · rw [updN_ne _ _ h, updN_ne _ _ h, updN_ne _ _ h, updN_ne _ _ h]
    by_cases h2 : i < n
    · rw [if_pos (by omega), if_pos h2]
    · rw [if_neg (by omega), if_neg h2]
theorem np_lv_old (key val non : Nat → Nat) (n k v z : Nat) {r : Nat} (hr : r ≤ n) : np_lv (updN key n k) (updN val n v) (updN non n z) r = np_lv key val non r := by
  funext i
  unfold np_lv np_lf
  by_cases h2 : i < r
  · rw [if_pos h2, if_pos h2, updN_ne _ _ (show i ≠ n by omega), updN_ne _ _ (show i ≠ n by omega), updN_ne _ _ (show i ≠ n by omega)]
  · rw [if_neg h2, if_neg h2]
theorem np_R_make {X Y : np_X} {key v n : Nat} (h : np_R X Y) (hf : X 0 1 < 16) (hk : key < 65537) (hv : v < 65537) (hn : n < 65537) : np_R (np_mkn X key v n) (np_mkY Y key v n) := by
  obtain ⟨⟨x1, x2, x3, x4, x5, x6, x7, x8, x9, x10⟩, ⟨y1, y2, y3, y4, y5, y6, y7⟩, ⟨e0, e1, e2⟩, hks, how, h3, h4, hNI, hrt, hup, hcn, hce⟩ := h
  have hNI2 := np_NI_add (x := np_hh (np_hh key v) n) hNI hf
  refine ⟨⟨?_, ?_, x3, ?_, ?_, ?_, ?_, ?_, x9, x10⟩, ⟨?_, ?_, ?_, ?_, ?_, y6, y7⟩, ⟨?_, e1, e2⟩, hks, ?_, ?_, ?_, ?_, ?_, hup, hcn, hce⟩
  · show X 0 1 + 1 ≤ 16; omega
  · show X 0 2 ≤ X 0 1 + 1; omega
  · intro j
    show updN (X 2) (X 0 1) (np_ow (X 1) key) j < _
    unfold updN
    split
    · exact np_ow_lt _ _
    · exact x4 j
  · exact np_ok_upd x5 hv
  · exact np_ok_upd x6 hn
  · exact np_ok_ups (np_ok_upd x7 (np_hh_lt _ _)) _ _
  · exact np_ok_upd x8 (np_ok_ups (np_ok_upd x7 (np_hh_lt _ _)) _ _ _)
  · show Y 0 0 + 1 ≤ 16; omega
  · show Y 0 1 ≤ Y 0 0 + 1; omega
  · exact np_ok_upd y3 hk
  · exact np_ok_upd y4 hv
  · exact np_ok_upd y5 hn
  · show Y 0 0 + 1 = X 0 1 + 1; omega
  · intro k hk2
    have hk2 : k < X 0 1 + 1 := hk2
    show updN (X 2) (X 0 1) (np_ow (X 1) key) k = np_own (updN (Y 1) (Y 0 0) key k)
    rw [e0]
    by_cases e : k = X 0 1
    · subst e; rw [updN_same, updN_same, np_ow_own hks]
    · rw [updN_ne _ _ e, updN_ne _ _ e]; exact how k (by omega)
  · show updN (X 3) (X 0 1) v = updN (Y 2) (Y 0 0) v
    rw [h3, e0]
  · show updN (X 4) (X 0 1) n = updN (Y 3) (Y 0 0) n
    rw [h4, e0]
  · show np_NI (np_ups (updN (X 6) (16 + X 0 1) (np_hh (np_hh key v) n)) (X 0 1) 4) (np_lv (updN (Y 1) (Y 0 0) key) (updN (Y 2) (Y 0 0) v) (updN (Y 3) (Y 0 0) n) (X 0 1 + 1))
    rw [e0, np_lv_add]
    exact hNI2
  · intro k hk2
    have hk2 : k ≤ X 0 1 + 1 := hk2
    show updN (X 7) (X 0 1 + 1) (np_ups (updN (X 6) (16 + X 0 1) (np_hh (np_hh key v) n)) (X 0 1) 4 1) k = np_tr (np_lv (updN (Y 1) (Y 0 0) key) (updN (Y 2) (Y 0 0) v) (updN (Y 3) (Y 0 0) n) k) 4 0
    rw [e0]
    by_cases e : k = X 0 1 + 1
    · subst e
      rw [updN_same, np_lv_add]
      exact hNI2.2.2.2.2
    · rw [updN_ne _ _ e, np_lv_old _ _ _ _ _ _ _ (by omega)]
      exact hrt k (by omega)
