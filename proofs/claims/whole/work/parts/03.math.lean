/-! THE NUMBERS: what class and reference both compute -/
def np_sm (a b : Nat) : Nat := (a + b) % 65537
def np_df (a b : Nat) : Nat := (a + 65537 - b) % 65537
def np_pr (a b : Nat) : Nat := a * b % 65537
def np_cu (t : Nat) : Nat := np_pr (np_pr t t) t
def np_sa (i : Nat) : Nat := if i = 0 then 11 else if i = 1 then 222 else if i = 2 then 3333 else 44444
def np_hr (a b : Nat) : Nat → Nat
  | 0 => a
  | i + 1 => np_cu (np_sm (np_sm (np_hr a b i) b) (np_sa i))
def np_hh (a b : Nat) : Nat := np_sm (np_sm (np_hr a b 4) a) b
theorem np_sm_lt (a b : Nat) : np_sm a b < 65537 := Nat.mod_lt _ (by decide)
theorem np_df_lt (a b : Nat) : np_df a b < 65537 := Nat.mod_lt _ (by decide)
theorem np_pr_lt (a b : Nat) : np_pr a b < 65537 := Nat.mod_lt _ (by decide)
theorem np_cu_lt (a : Nat) : np_cu a < 65537 := np_pr_lt _ _
theorem np_hh_lt (a b : Nat) : np_hh a b < 65537 := np_sm_lt _ _
theorem np_sa_lt (i : Nat) : np_sa i < 65537 := by
  unfold np_sa
  split
  · decide
  · split
    · decide
    · split <;> decide
theorem np_hr_lt {a b : Nat} (ha : a < 65537) : ∀ i, np_hr a b i < 65537
  | 0 => ha
  | _ + 1 => np_cu_lt _
theorem np_mul_lt {a b : Nat} (ha : a < 65537) (hb : b < 65537) : a * b < 4295098369 + 1 := by
  have h := Nat.mul_le_mul (Nat.le_of_lt_succ ha) (Nat.le_of_lt_succ hb)
  omega
theorem np_sm3 (a b c : Nat) : (a + b + c) % 65537 = np_sm (np_sm a b) c := by
  unfold np_sm
  rw [Nat.mod_add_mod]
/-- a number that is its own square is 0 or 1: by trying all -/
def np_try : Nat → Nat → Bool
  | 0, x => (x * x % 65537 != x) || Nat.blt x 2
  | d + 1, x => np_try d x && np_try d (x + 2 ^ d)
theorem np_try_all : np_try 16 0 = true := by decide +kernel
theorem np_try_spec : ∀ (d x y : Nat), np_try d x = true → x ≤ y → y < x + 2 ^ d → y * y % 65537 = y → y < 2
  | 0, x, y, h, h1, h2, hy => by
    have e : y = x := by omega
    subst e
    simp only [np_try, Bool.or_eq_true, bne_iff_ne, ne_eq] at h
    rcases h with h | h
    · exact (h hy).elim
    · exact Nat.blt_eq.mp h
  | d + 1, x, y, h, h1, h2, hy => by
    simp only [np_try, Bool.and_eq_true] at h
    rw [Nat.pow_succ] at h2
    by_cases hc : y < x + 2 ^ d
    · exact np_try_spec d x y h.1 h1 hc hy
    · exact np_try_spec d (x + 2 ^ d) y h.2 (by omega) (by omega) hy
theorem np_sq {x : Nat} (hx : x < 65537) : x = np_pr x x ↔ x = 0 ∨ x = 1 := by
  constructor
  · intro h
    by_cases h6 : x = 65536
    · subst h6
      revert h
      decide
    · have := np_try_spec 16 0 x np_try_all (Nat.zero_le _) (by omega) h.symm
      omega
  · rintro (h | h) <;> subst h <;> decide
/-! the vector: the class's words for it -/
def np_fi (b : Nat) : Nat := [5, 43, 52, 19, 20, 21, 22, 5, 8, 115].getD b 0
def np_se (b : Nat) : Nat := [4294967295, 6, 7, 23, 24, 25, 26, 61, 9, 10].getD b 0
def np_res (f : Nat → Nat) (b : Nat) : Nat := f (35 + b * 9 + 9 - 1)
def np_inA (f : Nat → Nat) (b : Nat) : Nat := f (np_fi b)
def np_inB (f : Nat → Nat) (b : Nat) : Nat := if b = 0 then 0 else f (np_se b)
def np_bef (f : Nat → Nat) (b t : Nat) : Nat := if t = 0 then np_inA f b else f (35 + b * 9 + 2 * t - 1)
def np_bas (f : Nat → Nat) (b t : Nat) : Nat := np_sm (np_sm (np_bef f b t) (np_inB f b)) (np_sa t)
def np_blk (f : Nat → Nat) (b z : Nat) : Nat := if z = 8 then np_sm (np_sm (f (35 + b * 9 + z - 1)) (np_inA f b)) (np_inB f b) else np_pr (if z % 2 = 0 then np_bas f b (z / 2) else f (35 + b * 9 + z - 1)) (np_bas f b (z / 2))
def np_lft (f : Nat → Nat) (v : Nat) : Nat := np_sm (np_res f (2 + v)) (np_pr (f (15 + v)) (np_df (f (11 + v)) (np_res f (2 + v))))
def np_rgt (f : Nat → Nat) (v : Nat) : Nat := np_df (np_sm (np_res f (2 + v)) (f (11 + v))) (f (19 + v))
def np_sbt (f : Nat → Nat) : Nat → Nat
  | 0 => 0
  | k + 1 => np_sm (np_sbt f k) (np_pr (1 * 2 ^ k) (f (27 + k)))
def np_due (f : Nat → Nat) (x : Nat) : Nat :=
  if 35 ≤ x then np_blk f ((x - 35) / 9) ((x - 35) % 9) else
  if 27 ≤ x then np_pr (f x) (f x) else
  if 23 ≤ x then np_rgt f (x - 23) else
  if 19 ≤ x then np_lft f (x - 19) else
  if 15 ≤ x then np_pr (f x) (f x) else
  if x = 9 then np_sbt f 8 else
  if x = 6 then np_sm (f 9) (f 4) else
  if x = 1 then np_res f 6 else
  if x = 2 then np_res f 7 else
  if x = 3 then np_res f 9 else f x
def np_col (v z : Nat) : Nat := if z = 0 then 19 + v else if z = 1 then 23 + v else 35 + (3 + v) * 9 + z - 2
def np_cel (c : Nat) : Nat :=
  if c < 4 then 15 + c else
  if c < 12 then 27 + c - 4 else
  if c = 12 then 9 else
  if c = 13 then 6 else
  if c < 41 then 35 + c - 14 else
  if c < 85 then np_col ((c - 41) / 11) ((c - 41) % 11) else
  if c < 112 then 98 + c - 85 else 1 + c - 112
/-- the first fault from condition c on, n conditions left -/
def np_flt (f : Nat → Nat) : Nat → Nat → Nat
  | _, 0 => 4294967295
  | c, n + 1 => if f (np_cel c) = np_due f (np_cel c) then np_flt f (c + 1) n else c
def np_cpl : (Nat → Nat) → Nat → Nat → (Nat → Nat)
  | f, _, 0 => f
  | f, c, n + 1 => np_cpl (updN f (np_cel c) (np_due f (np_cel c))) (c + 1) n
theorem np_cel_lt {c : Nat} (h : c < 115) : np_cel c < 125 := by
  unfold np_cel np_col
  repeat' split
  all_goals omega
def np_ok (f : Nat → Nat) : Prop := ∀ j, f j < 65537
theorem np_ok_upd {f : Nat → Nat} (h : np_ok f) {k x : Nat} (hx : x < 65537) : np_ok (updN f k x) := by
  intro j
  unfold updN
  split
  · exact hx
  · exact h j
theorem np_blk_lt {f : Nat → Nat} (b z : Nat) : np_blk f b z < 65537 := by
  unfold np_blk
  split
  · exact np_sm_lt _ _
  · exact np_pr_lt _ _
theorem np_sbt_lt (f : Nat → Nat) : ∀ k, np_sbt f k < 65537
  | 0 => (by decide : 0 < 65537)
  | _ + 1 => np_sm_lt _ _
theorem np_due_lt {f : Nat → Nat} (h : np_ok f) (x : Nat) : np_due f x < 65537 := by
  unfold np_due
  split
  · exact np_blk_lt _ _
  split
  · exact np_pr_lt _ _
  split
  · exact np_df_lt _ _
  split
  · exact np_sm_lt _ _
  split
  · exact np_pr_lt _ _
  split
  · exact np_sbt_lt _ _
  split
  · exact np_sm_lt _ _
  split
  · exact h _
  split
  · exact h _
  split
  · exact h _
  · exact h _
theorem np_ok_cpl : ∀ (n c : Nat) (f : Nat → Nat), np_ok f → np_ok (np_cpl f c n)
  | 0, _, _, h => h
  | n + 1, c, _, h => np_ok_cpl n (c + 1) _ (np_ok_upd h (np_due_lt h _))
/-! the tree -/
def np_tr (g : Nat → Nat) : Nat → Nat → Nat
  | 0, j => g j
  | v + 1, j => np_hh (np_tr g v (2 * j)) (np_tr g v (2 * j + 1))
def np_lf (key val non : Nat → Nat) (k : Nat) : Nat := np_hh (np_hh (key k) (val k)) (non k)
def np_lv (key val non : Nat → Nat) (n k : Nat) : Nat := if k < n then np_lf key val non k else 0
def np_key (k : Nat) : Nat := np_hh (100 + k) 0
def np_own (key : Nat) : Nat := if np_key 0 = key then 0 else if np_key 1 = key then 1 else if np_key 2 = key then 2 else if np_key 3 = key then 3 else 4294967295
