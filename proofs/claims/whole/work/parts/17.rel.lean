/-! THE CLASS AND THE REFERENCE ANSWER ALIKE: every public call keeps np_R2 and has one answer -/
def np_R2 (X Y : np_X) : Prop := np_R X Y ∧ np_ok (Y 6)
theorem np_R_cong {X Y Z : np_X} (h : np_R X Y) (hZ : ∀ j, j ≠ 6 → Z j = Y j) : np_R X Z := by
  unfold np_R np_YI at h ⊢
  rw [hZ 0 (by decide), hZ 1 (by decide), hZ 2 (by decide), hZ 3 (by decide), hZ 4 (by decide), hZ 5 (by decide)]
  exact h
theorem np_NI_at {nd g : Nat → Nat} (h : np_NI nd g) {v n : Nat} (hv : v ≤ 4) (hn : n < 16 / 2 ^ v) : nd (16 / 2 ^ v + n) = np_tr g v n := by
  obtain ⟨h0, h1, h2, h3, h4⟩ := h
  rcases (show v = 0 ∨ v = 1 ∨ v = 2 ∨ v = 3 ∨ v = 4 by omega) with rfl | rfl | rfl | rfl | rfl
  · exact h0 n (by simpa using hn)
  · exact h1 n (by simpa using hn)
  · exact h2 n (by simpa using hn)
  · exact h3 n (by simpa using hn)
  · have e : n = 0 := by simp at hn; omega
    subst e; exact h4
theorem np_a_get {X Y : np_X} (h : np_R X Y) : X 11 = Y 5 := h.2.2.2.2.2.2.2.2.2.2.2
theorem np_a_root {X Y : np_X} (h : np_R X Y) (k : Nat) : np_rr X k = np_rrY Y k := by
  obtain ⟨-, -, ⟨e0, e1, e2⟩, -, -, -, -, -, hrt, -⟩ := h
  unfold np_rr np_rrY
  rw [e0]
  by_cases h4 : k < 4
  · rw [if_pos h4, if_pos h4]
    by_cases hk : k ≤ X 0 1
    · rw [if_pos hk, if_pos hk]; exact hrt _ (by omega)
    · rw [if_neg hk, if_neg hk]
  · rw [if_neg h4, if_neg h4]
theorem np_a_node {X Y : np_X} (h : np_R X Y) (v n : Nat) : np_na (X 6) v n = np_ndR Y v n := by
  obtain ⟨-, -, ⟨e0, e1, e2⟩, -, -, -, -, hNI, -⟩ := h
  unfold np_na np_ndR
  rw [e0]
  by_cases h4 : v ≤ 4
  · rw [if_pos h4, if_pos h4]
    by_cases hk : n < 16 / 2 ^ v
    · rw [if_pos hk, if_pos hk]; exact np_NI_at hNI h4 hk
    · rw [if_neg hk, if_neg hk]
  · rw [if_neg h4, if_neg h4]
theorem np_a_leaf {X Y : np_X} (h : np_R X Y) {q : Nat} (hq : q < X 0 1) : X 6 (16 + q) = np_lf (Y 1) (Y 2) (Y 3) q := by
  obtain ⟨⟨x1, -⟩, -, -, -, -, -, -, hNI, -⟩ := h
  rw [hNI.1 q (by omega)]
  show np_lv (Y 1) (Y 2) (Y 3) (X 0 1) q = _
  rw [np_lv, if_pos hq]
theorem np_a_used {X Y : np_X} (h : np_R X Y) (m : Nat) : np_hs (X 9) m (X 0 2) = np_hs (Y 4) m (Y 0 1) := by
  obtain ⟨-, -, ⟨e0, e1, e2⟩, -, -, -, -, -, -, -, hcn, -⟩ := h
  rw [e1]
  exact (np_hs_eq hcn m).symm
theorem np_a_mo {X Y : np_X} (h : np_R X Y) {q : Nat} (hq : q < X 0 1) : np_mo X q = np_moY Y q := by
  unfold np_mo np_moY
  rw [np_a_leaf h hq, h.2.2.2.2.1 q hq]
theorem np_own_or (k : Nat) : np_own k < 4 ↔ np_own k ≠ 4294967295 := ⟨fun h => by omega, np_own_4⟩
theorem np_a_un {X Y : np_X} (h : np_R X Y) (q : Nat) : (q < X 0 1 ∧ X 2 q < 4 ∧ ¬ np_hs (X 9) (np_mo X q) (X 0 2) = true) ↔ (q < Y 0 0 ∧ np_own (Y 1 q) ≠ 4294967295 ∧ ¬ np_hs (Y 4) (np_moY Y q) (Y 0 1) = true) := by
  have e0 := h.2.2.1.1
  rw [e0]
  constructor
  · rintro ⟨a, b, c⟩
    rw [np_a_mo h a, np_a_used h] at c
    rw [h.2.2.2.2.1 q a] at b
    exact ⟨a, (np_own_or _).mp b, c⟩
  · rintro ⟨a, b, c⟩
    rw [np_a_mo h a, np_a_used h, h.2.2.2.2.1 q a]
    exact ⟨a, (np_own_or _).mpr b, c⟩
theorem np_a_bal1 {X Y : np_X} (h : np_R X Y) {x : Nat} (hx : x < 4) : ∀ n, n ≤ X 0 1 → np_bal X x n = np_balY Y x n
  | 0, _ => rfl
  | n + 1, hn => by
    have ih := np_a_bal1 h hx n (by omega)
    have e : (n < X 0 1 ∧ X 2 n = x ∧ ¬ np_hs (X 9) (np_mo X n) (X 0 2) = true) ↔ (np_own (Y 1 n) = x ∧ (n < Y 0 0 ∧ np_own (Y 1 n) ≠ 4294967295 ∧ ¬ np_hs (Y 4) (np_moY Y n) (Y 0 1) = true)) := by
      have hu := np_a_un h n
      have ho := h.2.2.2.2.1 n (by omega)
      constructor
      · rintro ⟨a, b, c⟩
        exact ⟨ho ▸ b, hu.mp ⟨a, by omega, c⟩⟩
      · rintro ⟨a, b⟩
        obtain ⟨u1, u2, u3⟩ := hu.mpr b
        exact ⟨u1, by rw [ho]; exact a, u3⟩
    rw [np_bal, np_balY, ih]
    have h3 : X 3 = Y 2 := h.2.2.2.2.2.1
    by_cases hc : np_own (Y 1 n) = x ∧ (n < Y 0 0 ∧ np_own (Y 1 n) ≠ 4294967295 ∧ ¬ np_hs (Y 4) (np_moY Y n) (Y 0 1) = true)
    · rw [if_pos hc, if_pos (e.mpr hc), h3]
    · rw [if_neg hc, if_neg (fun z => hc (e.mp z))]
theorem np_a_bal2 (X : np_X) (x : Nat) : ∀ d, np_bal X x (X 0 1 + d) = np_bal X x (X 0 1)
  | 0 => rfl
  | d + 1 => by
    rw [show X 0 1 + (d + 1) = (X 0 1 + d) + 1 by omega, np_bal, if_neg (fun z => by have := z.1; omega), np_a_bal2 X x d]
    rfl
theorem np_a_bal {X Y : np_X} (h : np_R X Y) (x : Nat) : (if x < 4 then np_bal X x 16 else 4294967294) = (if x < 4 then np_balY Y x (Y 0 0) else 4294967294) := by
  by_cases hx : x < 4
  · rw [if_pos hx, if_pos hx, h.2.2.1.1, ← np_a_bal1 h hx (X 0 1) (Nat.le_refl _), ← np_a_bal2 X x (16 - X 0 1)]
    have := h.1.1
    rw [show X 0 1 + (16 - X 0 1) = 16 by omega]
  · rw [if_neg hx, if_neg hx]
theorem np_a_mark {X Y : np_X} (h : np_R X Y) (k : Nat) : (if k < X 0 2 then X 9 k else 4294967295) = np_mk (Y 4) (Y 0 1) k 0 (Y 0 1) := by
  obtain ⟨-, -, ⟨e0, e1, e2⟩, -, -, -, -, -, -, hup, hcn, -⟩ := h
  rw [e1, np_mk_eq hcn hup k (X 0 2) 0 (by omega) (fun i hi => by omega)]
/-- the pool's number alone changes -/
theorem np_R_pool {X Y : np_X} (h : np_R X Y) (z : Nat) : np_R (va_up X 0 (updN (X 0) 0 z)) (va_up Y 0 (updN (Y 0) 2 z)) := by
  obtain ⟨hX, hY, ⟨e0, e1, e2⟩, r⟩ := h
  exact ⟨hX, hY, ⟨e0, e1, rfl⟩, r⟩
theorem np_a_dep {X Y : np_X} (h : np_R2 X Y) (x v n : Nat) : np_depR X x v n = np_depRY Y x v n ∧ np_R2 (np_depX X x v n) (np_depXY Y x v n) := by
  obtain ⟨h, h6⟩ := h
  have e0 := h.2.2.1.1
  have e2 := h.2.2.1.2.2
  have x1 := h.1.1
  unfold np_depR np_depRY np_depX np_depXY
  rw [e0]
  by_cases hx : x < 4
  · rw [if_pos hx, if_pos hx, if_pos hx, if_pos hx]
    by_cases hv : v < 256 ∧ n < 65537
    · rw [if_pos hv, if_pos hv, if_pos hv, if_pos hv]
      by_cases hf : 16 ≤ X 0 1
      · rw [if_pos hf, if_pos (show X 0 1 = 16 by omega), if_pos hf, if_pos (show X 0 1 = 16 by omega)]
        exact ⟨rfl, h, h6⟩
      · rw [if_neg hf, if_neg (show ¬ X 0 1 = 16 by omega), if_neg hf, if_neg (show ¬ X 0 1 = 16 by omega)]
        refine ⟨rfl, ?_, h6⟩
        rw [h.2.2.2.1 x hx, e2]
        exact np_R_make (np_R_pool h (X 0 0 + v)) (show X 0 1 < 16 by omega) (np_hh_lt _ _) (by omega) hv.2
    · rw [if_neg hv, if_neg hv, if_neg hv, if_neg hv]
      exact ⟨rfl, h, h6⟩
  · rw [if_neg hx, if_neg hx, if_neg hx, if_neg hx]
    exact ⟨rfl, h, h6⟩
/-- the vector alone changes, in both alike -/
theorem np_R_vec {X Y : np_X} (h : np_R X Y) {f : Nat → Nat} (hf : np_ok f) : np_R (va_up X 11 f) (va_up Y 5 f) := by
  obtain ⟨⟨x1, x2, x3, x4, x5, x6, x7, x8, x9, x10⟩, ⟨y0, ys, y1, y2, y3, y4, y5⟩, e, r1, r2, r3, r4, r5, r6, r7, r8, r9⟩ := h
  exact ⟨⟨x1, x2, x3, x4, x5, x6, x7, x8, x9, hf⟩, ⟨y0, ys, y1, y2, y3, y4, hf⟩, e, r1, r2, r3, r4, r5, r6, r7, r8, rfl⟩
theorem np_a_set {X Y : np_X} (h : np_R2 X Y) (x n : Nat) : np_R2 (np_stX X x n) (if x < 125 ∧ x ≠ 0 ∧ n < 65537 then va_up Y 5 (updN (Y 5) x n) else Y) := by
  obtain ⟨h, h6⟩ := h
  unfold np_stX
  by_cases hc : x < 125 ∧ x ≠ 0 ∧ n < 65537
  · rw [if_pos hc, if_pos hc, ← np_a_get h]
    exact ⟨np_R_vec h (np_ok_upd h.1.2.2.2.2.2.2.2.2.2 hc.2.2), h6⟩
  · rw [if_neg hc, if_neg hc]
    exact ⟨h, h6⟩
/-! submit -/
theorem np_a_sub_st {X Z : np_X} (h : np_R X Z) (hf : X 0 1 < 16) (hno : np_hs (X 9) (X 11 2) (X 0 2) = false) : np_R (np_mkn (np_suB X) (X 11 8) (X 11 9) (X 11 10)) (np_mkY (np_suBY Z) (Z 5 8) (Z 5 9) (Z 5 10)) := by
  have hce := np_a_get h
  have hc : np_ok (X 11) := h.1.2.2.2.2.2.2.2.2.2
  have hm := np_R_make h hf (hc 8) (hc 9) (hc 10)
  rw [← hce]
  obtain ⟨⟨x1, x2, x3, x4, x5, x6, x7, x8, x9, x10⟩, ⟨y0, ys, y1, y2, y3, y4, y5⟩, ⟨e0, e1, e2⟩, r1, r2, r3, r4, r5, r6, r7, r8, r9⟩ := hm
  obtain ⟨⟨a1, a2, a3, a4, a5, a6, a7, a8, a9, a10⟩, ⟨b0, bs, b1, b2, b3, b4, b5⟩, ⟨d0, d1, d2⟩, q1, q2, q3, q4, q5, q6, q7, q8, q9⟩ := h
  have hnot : ∀ i, i < X 0 2 → X 9 i ≠ X 11 2 := fun i hi e => by
    have := (np_hs_iff (X 9) (X 11 2) (X 0 2)).mpr ⟨i, hi, e⟩
    rw [hno] at this
    cases this
  refine ⟨⟨x1, ?_, x3, x4, x5, x6, x7, x8, ?_, x10⟩, ⟨y0, ?_, y1, y2, y3, ?_, y5⟩, ⟨e0, ?_, ?_⟩, r1, r2, r3, r4, r5, r6, ?_, ?_, r9⟩
  · show X 0 2 + 1 ≤ X 0 1 + 1
    omega
  · exact np_ok_ins (a10 2) _ _ a9
  · show Z 0 1 + 1 ≤ Z 0 0 + 1
    omega
  · show np_ok (updN (Z 4) (Z 0 1) (Z 5 2))
    rw [← hce]
    exact np_ok_upd b4 (a10 2)
  · show Z 0 1 + 1 = X 0 2 + 1
    omega
  · show Z 0 2 + 4294967296 - Z 5 4 = X 0 0 + 4294967296 - X 11 4
    rw [hce, d2]
  · exact np_ins_up (X 11 2) (X 0 2) (X 9) q7 hnot
  · intro x
    show np_cn (updN (Z 4) (Z 0 1) (Z 5 2)) x (X 0 2 + 1) = np_cn (np_ins (X 11 2) (X 9) (X 0 2)) x (X 0 2 + 1)
    rw [np_ins_cn, ← q8 x, np_cn, d1, ← hce, updN_same, np_cn_congr (g := Z 4) x (X 0 2) (fun i hi => updN_ne _ _ (by omega))]
theorem np_a_subZ {X Y Z : np_X} (h : np_R X Y) (h6 : np_ok (Y 6)) (hZ : ∀ j, j ≠ 6 → Z j = Y j) (hZ6 : np_ok (Z 6)) : np_suR X = np_suRY Y ∧ np_R2 (np_suX X) (if np_flt (Y 5) 0 115 = 4294967295 then (if Y 5 4 ≤ 255 then np_suXZ Y Z else Y) else Y) := by
  have hce := np_a_get h
  have e0 := h.2.2.1.1
  have x1 := h.1.1
  have er : np_rr X = np_rrY Y := funext (np_a_root h)
  have hu := np_a_used h (X 11 2)
  have hRZ := np_R_cong h hZ
  unfold np_suR np_suRY np_suX
  rw [← er, ← hce, ← hu, e0]
  by_cases c1 : np_flt (X 11) 0 115 = 4294967295
  · rw [if_pos c1, if_pos c1, if_pos c1, if_pos c1]
    by_cases c2 : X 11 4 ≤ 255
    · rw [if_pos c2, if_pos c2, if_pos c2, if_pos c2]
      unfold np_suXZ
      rw [← er, hZ 4 (by decide), hZ 5 (by decide), ← hce, hZ 0 (by decide), ← hu, e0]
      by_cases c3 : np_hs (np_rr X) (X 11 1) 4 = true
      · rw [if_pos c3, if_pos c3, if_pos c3, if_pos c3]
        by_cases c4 : np_hs (X 9) (X 11 2) (X 0 2) = true
        · rw [if_pos c4, if_pos c4, if_pos c4, if_pos c4]
          exact ⟨rfl, hRZ, hZ6⟩
        · rw [if_neg c4, if_neg c4, if_neg c4, if_neg c4]
          by_cases c5 : 16 ≤ X 0 1
          · rw [if_pos c5, if_pos (show X 0 1 = 16 by omega), if_pos c5, if_pos (show X 0 1 = 16 by omega)]
            exact ⟨rfl, hRZ, hZ6⟩
          · rw [if_neg c5, if_neg (show ¬ X 0 1 = 16 by omega), if_neg c5, if_neg (show ¬ X 0 1 = 16 by omega)]
            have hfin := np_a_sub_st hRZ (by omega) (by simpa using c4)
            rw [hZ 5 (by decide), ← hce] at hfin
            exact ⟨rfl, hfin, hZ6⟩
      · rw [if_neg c3, if_neg c3, if_neg c3, if_neg c3]
        exact ⟨rfl, hRZ, hZ6⟩
    · rw [if_neg c2, if_neg c2, if_neg c2, if_neg c2]
      exact ⟨rfl, h, h6⟩
  · rw [if_neg c1, if_neg c1, if_neg c1, if_neg c1]
    exact ⟨rfl, h, h6⟩
theorem np_a_sub {X Y : np_X} (h : np_R2 X Y) : np_suR X = np_suRY Y ∧ np_R2 (np_suX X) (np_suXY Y) := np_a_subZ h.1 h.2 (fun _ hj => np_irX_eq 4 Y (Y 5 1) 0 hj) (np_irX_ok 4 Y (Y 5 1) 0 h.2)
/-! load -/
theorem np_fil3 (b : Nat → Nat) : np_fil (np_fil (np_fil b 0 0 9) 1 0 9) 2 0 9 = np_cpl b 14 27 := by
  rw [np_fil_cpl (b := 0) (c0 := 14) (fun z hz => by have := np_cel_a (b := 0) (z := z) (by omega) hz; simpa using this) 9 0 b (by omega), np_fil_cpl (b := 1) (c0 := 23) (fun z hz => by have := np_cel_a (b := 1) (z := z) (by omega) hz; simpa using this) 9 0 _ (by omega), np_fil_cpl (b := 2) (c0 := 32) (fun z hz => by have := np_cel_a (b := 2) (z := z) (by omega) hz; simpa using this) 9 0 _ (by omega)]
  show _ = np_cpl b 14 (9 + (9 + 9))
  rw [np_cpl_add 9, np_cpl_add 9]
theorem np_lstp_eq (s t : Nat → Nat) {v : Nat} (hv : v < 4) (f : Nat → Nat) : np_lstp s t v f = np_lvl s t v f := by
  unfold np_lvl
  rw [np_lev _ hv]
  have e : np_pth s t v f = np_lm1 s t v f := by
    unfold np_pth np_lm1
    exact updN_comm _ _ _ (by omega)
  rw [e]
  rfl
theorem np_tail_eq (h : Nat → Nat) : np_tail h = np_cpl h 85 30 := by
  unfold np_tail
  rw [np_fil_cpl (b := 7) (c0 := 85) (fun z hz => by have := np_cel_c (b := 0) (z := z) (by omega) hz; simpa using this) 9 0 h (by omega), np_fil_cpl (b := 8) (c0 := 94) (fun z hz => by have := np_cel_c (b := 1) (z := z) (by omega) hz; simpa using this) 9 0 _ (by omega), np_fil_cpl (b := 9) (c0 := 103) (fun z hz => by have := np_cel_c (b := 2) (z := z) (by omega) hz; simpa using this) 9 0 _ (by omega)]
  have e : np_cpl h 85 30 = np_cpl (np_cpl (np_cpl (np_cpl h 85 9) 94 9) 103 9) 112 3 := by
    show np_cpl h 85 (9 + (9 + (9 + 3))) = _
    rw [np_cpl_add 9, np_cpl_add 9, np_cpl_add 9]
  rw [e]
  simp only [Nat.add_zero]
  generalize np_cpl (np_cpl (np_cpl h 85 9) 94 9) 103 9 = g
  have d1 : ∀ f : Nat → Nat, np_due f 1 = f 97 := fun f => rfl
  have d2 : ∀ f : Nat → Nat, np_due f 2 = f 106 := fun f => rfl
  have d3 : ∀ f : Nat → Nat, np_due f 3 = f 124 := fun f => rfl
  have c1 : np_cel 112 = 1 := by decide
  have c2 : np_cel 113 = 2 := by decide
  have c3 : np_cel 114 = 3 := by decide
  simp only [np_cpl, Nat.reduceAdd, c1, c2, c3, d1, d2, d3]
  rfl
theorem np_ld0_eq (f : Nat → Nat) (s v n k am wd nn : Nat) : updN (updN (updN (updN (updN (updN (updN f 5 s) 6 v) 7 n) 8 k) 9 am) 4 wd) 10 nn = updN (updN (updN (updN (updN (updN (updN f 4 wd) 5 s) 6 v) 7 n) 8 k) 9 am) 10 nn := by
  congr 1
  rw [updN_comm _ _ _ (show (9 : Nat) ≠ 4 by decide), updN_comm _ _ _ (show (8 : Nat) ≠ 4 by decide), updN_comm _ _ _ (show (7 : Nat) ≠ 4 by decide), updN_comm _ _ _ (show (6 : Nat) ≠ 4 by decide), updN_comm _ _ _ (show (5 : Nat) ≠ 4 by decide)]
theorem np_a_ldF {X Y : np_X} (h : np_R X Y) {q y am wd nn : Nat} (hq : q < X 0 1) (hy : y < 4) : np_ldF X q y am wd nn = np_ldFY Y q y am wd nn := by
  have hce := np_a_get h
  have ho := h.2.2.2.2.1 q hq
  have hk := h.2.2.2.1 y hy
  have h3 : X 3 = Y 2 := h.2.2.2.2.2.1
  have h4 : X 4 = Y 3 := h.2.2.2.2.2.2.1
  have hNI := h.2.2.2.2.2.2.2.1
  have x1 := h.1.1
  have hs : ∀ v, v < 4 → np_na (X 6) v (if q / 2 ^ v % 2 = 0 then q / 2 ^ v + 1 else q / 2 ^ v - 1) = np_sv (np_G Y) q v := by
    intro v hv
    have hu := np_up_lt (show q < 16 by omega) hv
    rw [np_na_sib hv hu]
    unfold np_sv np_G
    rw [h.2.2.1.1]
    refine np_NI_at hNI (by omega) ?_
    by_cases he : q / 2 ^ v % 2 = 0
    · rw [if_pos he]; exact np_sib_e (by omega) hv he
    · rw [if_neg he]; exact np_sib_o (by omega) hv he
  rw [np_ldFY_eq, np_tail_eq]
  unfold np_ldF np_tkp np_ld2
  rw [np_fil3]
  have e0 : updN (updN (updN (updN (updN (updN (updN (X 11) 5 (100 + X 2 q)) 6 (X 3 q)) 7 (X 4 q)) 8 (X 1 y)) 9 am) 4 wd) 10 nn = np_ld0 Y q y am wd nn := by
    rw [np_ld0_eq, hce, ho, hk, h3, h4]
    rfl
  rw [e0]
  generalize np_bts (np_ld0 Y q y am wd nn) am 8 = g
  have et : np_tpa (X 6) q g 4 = np_pth (np_sv (np_G Y) q) (np_tv q) 3 (np_pth (np_sv (np_G Y) q) (np_tv q) 2 (np_pth (np_sv (np_G Y) q) (np_tv q) 1 (np_pth (np_sv (np_G Y) q) (np_tv q) 0 g))) := by
    simp only [np_tpa]
    rw [hs 0 (by omega), hs 1 (by omega), hs 2 (by omega), hs 3 (by omega)]
    rfl
  rw [et, np_load_eq]
  simp only [np_lvr]
  rw [np_lstp_eq _ _ (by omega), np_lstp_eq _ _ (by omega), np_lstp_eq _ _ (by omega), np_lstp_eq _ _ (by omega)]
theorem np_a_load {X Y : np_X} (h : np_R2 X Y) (q y am wd nn : Nat) : np_ldR X q y am wd nn = np_ldRY Y q y am wd nn ∧ np_R2 (np_ldX X q y am wd nn) (np_ldXY Y q y am wd nn) := by
  obtain ⟨h, h6⟩ := h
  have e0 := h.2.2.1.1
  have x1 := h.1.1
  unfold np_ldR np_ldRY np_ldX np_ldXY
  rw [e0]
  by_cases c1 : q < X 0 1 ∧ y < 4
  · rw [if_pos c1, if_pos c1, if_pos c1, if_pos c1]
    have ho := h.2.2.2.2.1 q c1.1
    by_cases c2 : np_own (Y 1 q) = 4294967295
    · have c2' : ¬ X 2 q < 4 := by rw [ho, c2]; decide
      rw [if_neg c2', if_pos c2, if_neg c2', if_pos c2]
      exact ⟨rfl, h, h6⟩
    · have c2' : X 2 q < 4 := by rw [ho]; exact np_own_4 c2
      rw [if_pos c2', if_neg c2, if_pos c2', if_neg c2]
      by_cases c3 : am < 256 ∧ wd < 256 ∧ nn < 65537
      · rw [if_pos c3, if_pos c3, if_pos c3, if_pos c3, np_a_ldF h c1.1 c1.2]
        refine ⟨rfl, ?_, np_ok_wv (np_ok_G Y) h6 4⟩
        have hok : np_ok (np_ldFY Y q y am wd nn) := by
          rw [← np_a_ldF h c1.1 c1.2]
          obtain ⟨⟨a1, a2, a3, a4, a5, a6, a7, a8, a9, a10⟩, -⟩ := h
          exact np_ok_cpl _ _ _ (np_ok_tpa a7 (np_ok_tkp (np_ok_upd (np_ok_upd (np_ok_upd a10 (by omega)) (a5 _)) (a6 _)) (a3 _) (by omega) (by omega) (by omega)) (by omega) 4 (by omega))
        exact np_R_vec (np_R_cong h (fun j hj => by simp [va_up, hj])) hok
      · rw [if_neg c3, if_neg c3, if_neg c3, if_neg c3]
        exact ⟨rfl, h, h6⟩
  · rw [if_neg c1, if_neg c1, if_neg c1, if_neg c1]
    exact ⟨rfl, h, h6⟩
theorem np_a_rt {X Y : np_X} (h : np_R2 X Y) (k : Nat) : np_R2 X (np_rtX Y k) := ⟨np_R_cong h.1 (fun j hj => np_rtX_eq Y k hj), np_rtX_ok h.2 k⟩
theorem np_a_nd {X Y : np_X} (h : np_R2 X Y) (v n : Nat) : np_R2 X (np_ndX Y v n) := by
  unfold np_ndX
  repeat' split
  · exact ⟨np_R_cong h.1 (fun j hj => by simp [va_up, hj]), np_wk_ok h.2 _ _⟩
  · exact h
  · exact h
