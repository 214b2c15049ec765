/-! the vector that load makes: the class completes it in one sweep, the reference level by level -/
theorem updN_comm (f : Nat → Nat) {i j : Nat} (x y : Nat) (h : i ≠ j) : updN (updN f i x) j y = updN (updN f j y) i x := by
  funext k
  unfold updN
  by_cases h1 : k = i
  · subst h1; simp [h]
  · by_cases h2 : k = j
    · subst h2; simp [h1]
    · simp [h1, h2]
theorem np_cpl_add : ∀ (n m c : Nat) (f : Nat → Nat), np_cpl f c (n + m) = np_cpl (np_cpl f c n) (c + n) m
  | 0, m, c, f => by rw [Nat.zero_add]; rfl
  | n + 1, m, c, f => by
    rw [show n + 1 + m = (n + m) + 1 by omega]
    simp only [np_cpl]
    rw [np_cpl_add n m (c + 1) _, show c + 1 + n = c + (n + 1) by omega]
/-- the nine cells of block b, from the z-th on, n of them -/
def np_fil : (Nat → Nat) → Nat → Nat → Nat → (Nat → Nat)
  | f, _, _, 0 => f
  | f, b, z, n + 1 => np_fil (updN f (35 + 9 * b + z) (np_blk f b z)) b (z + 1) n
theorem np_due_blk (f : Nat → Nat) {b z x : Nat} (hx : x = 35 + 9 * b + z) (hz : z < 9) : np_due f x = np_blk f b z := by
  subst hx
  unfold np_due
  rw [if_pos (by omega), show 35 + 9 * b + z - 35 = 9 * b + z by omega, show (9 * b + z) / 9 = b by omega, show (9 * b + z) % 9 = z by omega]
theorem np_fil_cpl {b c0 : Nat} (hc : ∀ z, z < 9 → np_cel (c0 + z) = 35 + 9 * b + z) : ∀ (n z : Nat) (f : Nat → Nat), z + n ≤ 9 → np_fil f b z n = np_cpl f (c0 + z) n
  | 0, _, _, _ => rfl
  | n + 1, z, f, h => by
    simp only [np_fil, np_cpl]
    rw [np_fil_cpl hc n (z + 1) _ (by omega), hc z (by omega), np_due_blk f rfl (by omega)]
    rfl
theorem np_cel_a {b z : Nat} (hb : b < 3) (hz : z < 9) : np_cel (14 + 9 * b + z) = 35 + 9 * b + z := by
  unfold np_cel
  rw [if_neg (by omega), if_neg (by omega), if_neg (by omega), if_neg (by omega), if_pos (by omega)]
  omega
theorem np_cel_b {v z : Nat} (hv : v < 4) (hz : z < 9) : np_cel (43 + 11 * v + z) = 35 + 9 * (3 + v) + z := by
  unfold np_cel
  rw [if_neg (by omega), if_neg (by omega), if_neg (by omega), if_neg (by omega), if_neg (by omega), if_pos (by omega), show (43 + 11 * v + z - 41) / 11 = v by omega, show (43 + 11 * v + z - 41) % 11 = z + 2 by omega]
  unfold np_col
  rw [if_neg (by omega), if_neg (by omega)]
  omega
theorem np_cel_l {v : Nat} (hv : v < 4) : np_cel (41 + 11 * v) = 19 + v := by
  unfold np_cel
  rw [if_neg (by omega), if_neg (by omega), if_neg (by omega), if_neg (by omega), if_neg (by omega), if_pos (by omega), show (41 + 11 * v - 41) / 11 = v by omega, show (41 + 11 * v - 41) % 11 = 0 by omega]
  rfl
theorem np_cel_r {v : Nat} (hv : v < 4) : np_cel (42 + 11 * v) = 23 + v := by
  unfold np_cel
  rw [if_neg (by omega), if_neg (by omega), if_neg (by omega), if_neg (by omega), if_neg (by omega), if_pos (by omega), show (42 + 11 * v - 41) / 11 = v by omega, show (42 + 11 * v - 41) % 11 = 1 by omega]
  rfl
theorem np_cel_c {b z : Nat} (hb : b < 3) (hz : z < 9) : np_cel (85 + 9 * b + z) = 35 + 9 * (7 + b) + z := by
  unfold np_cel
  rw [if_neg (by omega), if_neg (by omega), if_neg (by omega), if_neg (by omega), if_neg (by omega), if_neg (by omega), if_pos (by omega)]
  omega
theorem np_due_l (f : Nat → Nat) {v : Nat} (hv : v < 4) : np_due f (19 + v) = np_lft f v := by
  unfold np_due
  rw [if_neg (by omega), if_neg (by omega), if_neg (by omega), if_pos (by omega), show 19 + v - 19 = v by omega]
theorem np_due_r (f : Nat → Nat) {v : Nat} (hv : v < 4) : np_due f (23 + v) = np_rgt f v := by
  unfold np_due
  rw [if_neg (by omega), if_neg (by omega), if_pos (by omega), show 23 + v - 23 = v by omega]
/-- one level of the reference: left, right, block -/
theorem np_lev (f : Nat → Nat) {v : Nat} (hv : v < 4) : np_cpl f (41 + 11 * v) 11 = np_fil (updN (updN f (19 + v) (np_lft f v)) (23 + v) (np_rgt (updN f (19 + v) (np_lft f v)) v)) (3 + v) 0 9 := by
  rw [np_fil_cpl (c0 := 43 + 11 * v) (fun z hz => np_cel_b hv hz) 9 0 _ (by omega)]
  show np_cpl f (41 + 11 * v) (9 + 1 + 1) = _
  simp only [np_cpl]
  rw [np_cel_l hv, np_due_l f hv, show 41 + 11 * v + 1 = 42 + 11 * v by omega, np_cel_r hv, np_due_r _ hv, show 42 + 11 * v + 1 = 43 + 11 * v + 0 by omega]
theorem np_fi_out {b i : Nat} (h1 : 11 ≤ i) (h2 : i < 19) : np_fi b ≠ i := by
  unfold np_fi
  match b with
  | 0 | 1 | 2 | 3 | 4 | 5 | 6 | 7 | 8 | 9 => simp; omega
  | n + 10 => simp; omega
theorem np_se_out {b i : Nat} (h1 : 11 ≤ i) (h2 : i < 19) : np_se b ≠ i := by
  unfold np_se
  match b with
  | 0 | 1 | 2 | 3 | 4 | 5 | 6 | 7 | 8 | 9 => simp; omega
  | n + 10 => simp; omega
theorem np_blk_out (f : Nat → Nat) {b z i : Nat} (x : Nat) (h1 : 11 ≤ i) (h2 : i < 19) : np_blk (updN f i x) b z = np_blk f b z := by
  have r : ∀ k, 19 ≤ k → updN f i x k = f k := fun k hk => updN_ne _ _ (by omega)
  have ea : np_inA (updN f i x) b = np_inA f b := updN_ne _ _ (np_fi_out h1 h2)
  have eb : np_inB (updN f i x) b = np_inB f b := by
    unfold np_inB
    split
    · rfl
    · exact updN_ne _ _ (np_se_out h1 h2)
  have ef : ∀ t, np_bef (updN f i x) b t = np_bef f b t := by
    intro t
    unfold np_bef
    rw [ea, r _ (by omega)]
  unfold np_blk np_bas
  rw [ea, eb, ef, r _ (by omega)]
theorem np_out_due (f : Nat → Nat) {y i : Nat} (x : Nat) (h1 : 11 ≤ i) (h2 : i < 19) (hy : 35 ≤ y ∨ (19 ≤ y ∧ y < 27 ∧ i ≠ 11 + (y - 19) % 4 ∧ i ≠ 15 + (y - 19) % 4)) : np_due (updN f i x) y = np_due f y := by
  have r : ∀ k, 19 ≤ k → updN f i x k = f k := fun k hk => updN_ne _ _ (by omega)
  unfold np_due
  by_cases c1 : 35 ≤ y
  · rw [if_pos c1, if_pos c1, np_blk_out f x h1 h2]
  · have hy2 : 19 ≤ y ∧ y < 27 ∧ i ≠ 11 + (y - 19) % 4 ∧ i ≠ 15 + (y - 19) % 4 := by
      rcases hy with h | h
      · exact (c1 h).elim
      · exact h
    have c27 : ¬ 27 ≤ y := by omega
    rw [if_neg c1, if_neg c1, if_neg c27, if_neg c27]
    by_cases c2 : 23 ≤ y
    · rw [if_pos c2, if_pos c2]
      unfold np_rgt np_res
      rw [r _ (by omega), updN_ne f x (show 11 + (y - 23) ≠ i by omega), r _ (by omega)]
    · have c19 : 19 ≤ y := by omega
      rw [if_neg c2, if_neg c2, if_pos c19, if_pos c19]
      unfold np_lft np_res
      rw [r _ (by omega), updN_ne f x (show 11 + (y - 19) ≠ i by omega), updN_ne f x (show 15 + (y - 19) ≠ i by omega)]
/-- a sibling or a turn may be put in before or behind a stretch of conditions that doesn't look at it -/
theorem np_out {i : Nat} (x : Nat) (h1 : 11 ≤ i) (h2 : i < 19) : ∀ (n c : Nat) (f : Nat → Nat), (∀ d, c ≤ d → d < c + n → 35 ≤ np_cel d ∨ (19 ≤ np_cel d ∧ np_cel d < 27 ∧ i ≠ 11 + (np_cel d - 19) % 4 ∧ i ≠ 15 + (np_cel d - 19) % 4)) → np_cpl (updN f i x) c n = updN (np_cpl f c n) i x
  | 0, _, _, _ => rfl
  | n + 1, c, f, h => by
    simp only [np_cpl]
    have h3 := h c (Nat.le_refl _) (by omega)
    rw [np_out_due f x h1 h2 h3, updN_comm f x _ (show i ≠ np_cel c by omega), np_out x h1 h2 n (c + 1) _ (fun d hd1 hd2 => h d (by omega) (by omega))]
theorem np_seg_a {d : Nat} (h1 : 14 ≤ d) (h2 : d < 41) : 35 ≤ np_cel d := by
  unfold np_cel
  rw [if_neg (by omega), if_neg (by omega), if_neg (by omega), if_neg (by omega), if_pos (by omega)]
  omega
theorem np_seg_v {d v : Nat} (hv : v < 4) (h1 : 41 + 11 * v ≤ d) (h2 : d < 41 + 11 * v + 11) : 35 ≤ np_cel d ∨ np_cel d = 19 + v ∨ np_cel d = 23 + v := by
  by_cases a : d = 41 + 11 * v
  · right; left; rw [a]; exact np_cel_l hv
  · by_cases b : d = 42 + 11 * v
    · right; right; rw [b]; exact np_cel_r hv
    · left
      have e : d = 43 + 11 * v + (d - (43 + 11 * v)) := by omega
      rw [e, np_cel_b hv (by omega)]
      omega
/-- level v's sibling and turn put in -/
def np_pth (s t : Nat → Nat) (v : Nat) (f : Nat → Nat) : Nat → Nat := updN (updN f (15 + v) (t v)) (11 + v) (s v)
def np_lvl (s t : Nat → Nat) (v : Nat) (f : Nat → Nat) : Nat → Nat := np_cpl (np_pth s t v f) (41 + 11 * v) 11
theorem np_pth_a (s t : Nat → Nat) {v : Nat} (hv : v < 4) (f : Nat → Nat) : np_cpl (np_pth s t v f) 14 27 = np_pth s t v (np_cpl f 14 27) := by
  unfold np_pth
  rw [np_out _ (by omega) (by omega) 27 14 _ (fun d h1 h2 => Or.inl (np_seg_a h1 h2)), np_out _ (by omega) (by omega) 27 14 _ (fun d h1 h2 => Or.inl (np_seg_a h1 h2))]
theorem np_pth_v (s t : Nat → Nat) {u v : Nat} (hu : u < 4) (hv : v < 4) (h : u ≠ v) (f : Nat → Nat) : np_cpl (np_pth s t u f) (41 + 11 * v) 11 = np_pth s t u (np_cpl f (41 + 11 * v) 11) := by
  unfold np_pth
  have q : ∀ i, (i = 11 + u ∨ i = 15 + u) → ∀ d, 41 + 11 * v ≤ d → d < 41 + 11 * v + 11 → 35 ≤ np_cel d ∨ (19 ≤ np_cel d ∧ np_cel d < 27 ∧ i ≠ 11 + (np_cel d - 19) % 4 ∧ i ≠ 15 + (np_cel d - 19) % 4) := by
    intro i hi d h1 h2
    rcases np_seg_v hv h1 h2 with a | a | a
    · exact Or.inl a
    · right; rw [a]; omega
    · right; rw [a]; omega
  rw [np_out _ (by omega) (by omega) 11 _ _ (q _ (Or.inl rfl)), np_out _ (by omega) (by omega) 11 _ _ (q _ (Or.inr rfl))]
/-- both orders make one vector -/
theorem np_load_eq (s t : Nat → Nat) (f : Nat → Nat) : np_cpl (np_pth s t 3 (np_pth s t 2 (np_pth s t 1 (np_pth s t 0 f)))) 14 101 = np_cpl (np_lvl s t 3 (np_lvl s t 2 (np_lvl s t 1 (np_lvl s t 0 (np_cpl f 14 27))))) 85 30 := by
  show np_cpl _ 14 (27 + (11 + (11 + (11 + (11 + 30))))) = _
  rw [np_cpl_add 27, np_cpl_add 11, np_cpl_add 11, np_cpl_add 11, np_cpl_add 11]
  rw [np_pth_a s t (by omega), np_pth_a s t (by omega), np_pth_a s t (by omega), np_pth_a s t (by omega)]
  generalize np_cpl f 14 27 = g
  have v0 := np_pth_v s t (u := 3) (v := 0) (by omega) (by omega) (by omega)
  have v1 := np_pth_v s t (u := 2) (v := 0) (by omega) (by omega) (by omega)
  have v2 := np_pth_v s t (u := 1) (v := 0) (by omega) (by omega) (by omega)
  have v3 := np_pth_v s t (u := 3) (v := 1) (by omega) (by omega) (by omega)
  have v4 := np_pth_v s t (u := 2) (v := 1) (by omega) (by omega) (by omega)
  have v5 := np_pth_v s t (u := 3) (v := 2) (by omega) (by omega) (by omega)
  simp only [Nat.mul_zero, Nat.add_zero, Nat.mul_one, Nat.reduceMul, Nat.reduceAdd] at v0 v1 v2 v3 v4 v5
  simp only [Nat.reduceAdd]
  rw [v0, v1, v2, v3, v4, v5]
  rfl
/-- the reference's sums and differences -/
theorem np_r3 (a b c : Nat) : (a + b + c) % 65537 = np_sm (np_sm a b) c := np_sm3 a b c
theorem np_lft_eq (n sb t : Nat) (hn : n < 65537) : (n + t * (sb + 65537 - n) % 65537) % 65537 = np_sm n (np_pr t (np_df sb n)) := by
  unfold np_sm np_pr np_df
  rw [Nat.mul_mod_mod]
theorem np_bits_eq (f : Nat → Nat) : np_sbt f 8 = (f 27 * 1 + f 28 * 2 + f 29 * 4 + f 30 * 8 + f 31 * 16 + f 32 * 32 + f 33 * 64 + f 34 * 128) % 65537 := by
  simp only [np_sbt, np_sm, np_pr]
  simp only [Nat.add_mod_mod, Nat.mod_add_mod, Nat.zero_add]
  congr 1
  simp only [Nat.reducePow, Nat.reduceMul, Nat.reduceAdd, Nat.one_mul]
  simp only [Nat.mul_comm]
  omega
