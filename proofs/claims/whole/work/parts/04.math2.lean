/-! the tree under one more leaf -/
theorem np_tr_upd (g : Nat → Nat) (n x : Nat) : ∀ (v j : Nat), n / 2 ^ v ≠ j → np_tr (updN g n x) v j = np_tr g v j
  | 0, j, h => by
    simp only [Nat.pow_zero, Nat.div_one] at h
    exact updN_ne g x (Ne.symm h)
  | v + 1, j, h => by
    have e : n / 2 ^ (v + 1) = n / 2 ^ v / 2 := by rw [Nat.pow_succ, Nat.div_div_eq_div_mul]
    rw [e] at h
    simp only [np_tr]
    rw [np_tr_upd g n x v (2 * j) (by omega), np_tr_upd g n x v (2 * j + 1) (by omega)]
theorem np_tr_congr {g g' : Nat → Nat} (hg : ∀ i, i < 16 → g i = g' i) : ∀ (v j : Nat), (j + 1) * 2 ^ v ≤ 16 → np_tr g v j = np_tr g' v j
  | 0, j, h => hg j (by simp at h; omega)
  | v + 1, j, h => by
    rw [Nat.pow_succ] at h
    simp only [np_tr]
    rw [np_tr_congr hg v (2 * j) (by
      have : (2 * j + 1) * 2 ^ v ≤ (j + 1) * (2 ^ v * 2) := by
        rw [show (j + 1) * (2 ^ v * 2) = (2 * j + 2) * 2 ^ v by rw [Nat.mul_comm (2 ^ v) 2, ← Nat.mul_assoc]; congr 1; omega]
        exact Nat.mul_le_mul_right _ (by omega)
      omega), np_tr_congr hg v (2 * j + 1) (by
      have : (2 * j + 1 + 1) * 2 ^ v = (j + 1) * (2 ^ v * 2) := by
        rw [Nat.mul_comm (2 ^ v) 2, ← Nat.mul_assoc]; congr 1; omega
      omega)]
theorem np_tr_lt {g : Nat → Nat} (hg : ∀ i, g i < 65537) : ∀ (v j : Nat), np_tr g v j < 65537
  | 0, j => hg j
  | _ + 1, _ => np_hh_lt _ _
def np_hu (nd : Nat → Nat) (i : Nat) : Nat → Nat := updN nd i (np_hh (nd (2 * i)) (nd (2 * i + 1)))
def np_ups (nd : Nat → Nat) (p : Nat) : Nat → Nat → Nat
  | 0 => nd
  | v + 1 => np_hu (np_ups nd p v) ((16 + p) / 2 ^ (v + 1))
/-- the nodes hold the tree over the leaves g -/
def np_NI (nd g : Nat → Nat) : Prop := (∀ j, j < 16 → nd (16 + j) = np_tr g 0 j) ∧ (∀ j, j < 8 → nd (8 + j) = np_tr g 1 j) ∧ (∀ j, j < 4 → nd (4 + j) = np_tr g 2 j) ∧ (∀ j, j < 2 → nd (2 + j) = np_tr g 3 j) ∧ nd 1 = np_tr g 4 0
theorem np_hu_ne {nd : Nat → Nat} {i j : Nat} (h : j ≠ i) : np_hu nd i j = nd j := updN_ne _ _ h
theorem np_hu_at {nd : Nat → Nat} {i : Nat} : np_hu nd i i = np_hh (nd (2 * i)) (nd (2 * i + 1)) := updN_same _ _ _
theorem np_NI_add {nd g : Nat → Nat} {p x : Nat} (h : np_NI nd g) (hp : p < 16) : np_NI (np_ups (updN nd (16 + p) x) p 4) (updN g p x) := by
  obtain ⟨h0, h1, h2, h3, h4⟩ := h
  -- level 0
  have a0 : ∀ j, j < 16 → updN nd (16 + p) x (16 + j) = np_tr (updN g p x) 0 j := by
    intro j hj
    show _ = updN g p x j
    by_cases e : j = p
    · subst e; rw [updN_same, updN_same]
    · rw [updN_ne _ _ (by omega), updN_ne _ _ e]; exact h0 j hj
  have b0 : ∀ k, k < 16 → updN nd (16 + p) x k = nd k := fun k hk => updN_ne _ _ (by omega)
  generalize updN nd (16 + p) x = n0 at a0 b0 ⊢
  have s1 : (16 + p) / 2 ^ (0 + 1) = 8 + p / 2 := by simp; omega
  have s2 : (16 + p) / 2 ^ (1 + 1) = 4 + p / 4 := by simp; omega
  have s3 : (16 + p) / 2 ^ (2 + 1) = 2 + p / 8 := by simp; omega
  have s4 : (16 + p) / 2 ^ (3 + 1) = 1 := by simp; omega
  simp only [np_ups, s1, s2, s3, s4]
  -- level 1
  have a1 : ∀ j, j < 8 → np_hu n0 (8 + p / 2) (8 + j) = np_tr (updN g p x) 1 j := by
    intro j hj
    by_cases e : j = p / 2
    · subst e
      rw [np_hu_at, show 2 * (8 + p / 2) = 16 + 2 * (p / 2) by omega, show 16 + 2 * (p / 2) + 1 = 16 + (2 * (p / 2) + 1) by omega, a0 _ (by omega), a0 _ (by omega)]
      rfl
    · rw [np_hu_ne (by omega), b0 _ (by omega), h1 j hj, np_tr_upd g p x 1 j (by simp; omega)]
  have c1 : ∀ j, j < 16 → np_hu n0 (8 + p / 2) (16 + j) = np_tr (updN g p x) 0 j := fun j hj => by rw [np_hu_ne (by omega)]; exact a0 j hj
  have b1 : ∀ k, k < 8 → np_hu n0 (8 + p / 2) k = nd k := fun k hk => by rw [np_hu_ne (by omega)]; exact b0 k (by omega)
  generalize np_hu n0 (8 + p / 2) = n1 at a1 b1 c1 ⊢
  have a2 : ∀ j, j < 4 → np_hu n1 (4 + p / 4) (4 + j) = np_tr (updN g p x) 2 j := by
    intro j hj
    by_cases e : j = p / 4
    · subst e
      rw [np_hu_at, show 2 * (4 + p / 4) = 8 + 2 * (p / 4) by omega, show 8 + 2 * (p / 4) + 1 = 8 + (2 * (p / 4) + 1) by omega, a1 _ (by omega), a1 _ (by omega)]
      rfl
    · rw [np_hu_ne (by omega), b1 _ (by omega), h2 j hj, np_tr_upd g p x 2 j (by simp; omega)]
  have d1 : ∀ j, j < 8 → np_hu n1 (4 + p / 4) (8 + j) = np_tr (updN g p x) 1 j := fun j hj => by rw [np_hu_ne (by omega)]; exact a1 j hj
  have c2 : ∀ j, j < 16 → np_hu n1 (4 + p / 4) (16 + j) = np_tr (updN g p x) 0 j := fun j hj => by rw [np_hu_ne (by omega)]; exact c1 j hj
  have b2 : ∀ k, k < 4 → np_hu n1 (4 + p / 4) k = nd k := fun k hk => by rw [np_hu_ne (by omega)]; exact b1 k (by omega)
  generalize np_hu n1 (4 + p / 4) = n2 at a2 b2 c2 d1 ⊢
  have a3 : ∀ j, j < 2 → np_hu n2 (2 + p / 8) (2 + j) = np_tr (updN g p x) 3 j := by
    intro j hj
    by_cases e : j = p / 8
    · subst e
      rw [np_hu_at, show 2 * (2 + p / 8) = 4 + 2 * (p / 8) by omega, show 4 + 2 * (p / 8) + 1 = 4 + (2 * (p / 8) + 1) by omega, a2 _ (by omega), a2 _ (by omega)]
      rfl
    · rw [np_hu_ne (by omega), b2 _ (by omega), h3 j hj, np_tr_upd g p x 3 j (by simp; omega)]
  have e2 : ∀ j, j < 4 → np_hu n2 (2 + p / 8) (4 + j) = np_tr (updN g p x) 2 j := fun j hj => by rw [np_hu_ne (by omega)]; exact a2 j hj
  have d2 : ∀ j, j < 8 → np_hu n2 (2 + p / 8) (8 + j) = np_tr (updN g p x) 1 j := fun j hj => by rw [np_hu_ne (by omega)]; exact d1 j hj
  have c3 : ∀ j, j < 16 → np_hu n2 (2 + p / 8) (16 + j) = np_tr (updN g p x) 0 j := fun j hj => by rw [np_hu_ne (by omega)]; exact c2 j hj
  generalize np_hu n2 (2 + p / 8) = n3 at a3 e2 d2 c3 ⊢
  refine ⟨fun j hj => ?_, fun j hj => ?_, fun j hj => ?_, fun j hj => ?_, ?_⟩
  · rw [np_hu_ne (by omega)]; exact c3 j hj
  · rw [np_hu_ne (by omega)]; exact d2 j hj
  · rw [np_hu_ne (by omega)]; exact e2 j hj
  · rw [np_hu_ne (by omega)]; exact a3 j hj
  · rw [np_hu_at]
    have q0 := a3 0 (by omega)
    have q1 := a3 1 (by omega)
    show np_hh (n3 2) (n3 3) = _
    rw [show n3 2 = _ from q0, show n3 3 = _ from q1]
    rfl
/-! the marks -/
def np_cn (f : Nat → Nat) (x : Nat) : Nat → Nat
  | 0 => 0
  | k + 1 => np_cn f x k + if f k < x then 1 else 0
def np_hs (f : Nat → Nat) (x : Nat) : Nat → Bool
  | 0 => false
  | k + 1 => np_hs f x k || f k == x
theorem np_hs_iff (f : Nat → Nat) (x : Nat) : ∀ k, np_hs f x k = true ↔ ∃ i, i < k ∧ f i = x
  | 0 => by simp [np_hs]
  | k + 1 => by
    simp only [np_hs, Bool.or_eq_true, beq_iff_eq, np_hs_iff f x k]
    constructor
    · rintro (⟨i, h1, h2⟩ | h)
      · exact ⟨i, by omega, h2⟩
      · exact ⟨k, by omega, h⟩
    · rintro ⟨i, h1, h2⟩
      by_cases e : i = k
      · subst e; exact Or.inr h2
      · exact Or.inl ⟨i, by omega, h2⟩
theorem np_cn_le (f : Nat → Nat) (x : Nat) : ∀ k, np_cn f x k ≤ np_cn f (x + 1) k
  | 0 => Nat.le_refl _
  | k + 1 => by
    have := np_cn_le f x k
    simp only [np_cn]
    split <;> split <;> omega
theorem np_hs_cn (f : Nat → Nat) (x : Nat) : ∀ k, np_hs f x k = true ↔ np_cn f x k < np_cn f (x + 1) k
  | 0 => by simp [np_hs, np_cn]
  | k + 1 => by
    have h1 := np_hs_cn f x k
    have h2 := np_cn_le f x k
    simp only [np_hs, np_cn, Bool.or_eq_true, beq_iff_eq, h1]
    constructor
    · rintro (h | h)
      · split <;> split <;> omega
      · rw [if_neg (by omega), if_pos (by omega)]; omega
    · intro h
      by_cases e : f k = x
      · exact Or.inr e
      · left
        split at h <;> split at h <;> omega
theorem np_hs_eq {f g : Nat → Nat} {k : Nat} (h : ∀ x, np_cn f x k = np_cn g x k) (x : Nat) : np_hs f x k = np_hs g x k := by
  have h1 := np_hs_cn f x k
  have h2 := np_hs_cn g x k
  rw [h x, h (x + 1), ← h2] at h1
  cases e1 : np_hs f x k <;> cases e2 : np_hs g x k <;> simp_all
theorem np_cn_congr {f g : Nat → Nat} (x : Nat) : ∀ k, (∀ i, i < k → f i = g i) → np_cn f x k = np_cn g x k
  | 0, _ => rfl
  | k + 1, h => by
    simp only [np_cn]
    rw [np_cn_congr x k (fun i hi => h i (by omega)), h k (by omega)]
def np_ins (m : Nat) : (Nat → Nat) → Nat → (Nat → Nat)
  | f, 0 => updN f 0 m
  | f, g + 1 => if m < f g then np_ins m (updN f (g + 1) (f g)) g else updN f (g + 1) m
theorem np_ins_hi (m : Nat) : ∀ (g : Nat) (f : Nat → Nat) (i : Nat), g < i → np_ins m f g i = f i
  | 0, f, i, h => updN_ne _ _ (by omega)
  | g + 1, f, i, h => by
    simp only [np_ins]
    split
    · rw [np_ins_hi m g _ i (by omega), updN_ne _ _ (by omega)]
    · exact updN_ne _ _ (by omega)
theorem np_ins_cn (m x : Nat) : ∀ (g : Nat) (f : Nat → Nat), np_cn (np_ins m f g) x (g + 1) = np_cn f x g + if m < x then 1 else 0
  | 0, f => by simp [np_ins, np_cn, updN]
  | g + 1, f => by
    rw [np_cn]
    simp only [np_ins]
    split
    · rw [np_ins_cn m x g, np_ins_hi m g _ (g + 1) (by omega), updN_same, np_cn_congr (g := f) x g (fun i hi => updN_ne _ _ (by omega))]
      simp only [np_cn]
      omega
    · rw [updN_same, np_cn_congr (g := f) x (g + 1) (fun i hi => updN_ne _ _ (by omega))]
def np_up (f : Nat → Nat) (k : Nat) : Prop := ∀ i j, i < j → j < k → f i < f j
theorem np_ins_lt (m B : Nat) (hm : m < B) : ∀ (g : Nat) (f : Nat → Nat), (∀ i, i < g → f i < B) → ∀ i, i < g + 1 → np_ins m f g i < B
  | 0, f, _, i, hi => by
    have e : i = 0 := by omega
    subst e
    simp only [np_ins, updN_same]; exact hm
  | g + 1, f, h, i, hi => by
    simp only [np_ins]
    split
    · by_cases e : i = g + 1
      · subst e
        rw [np_ins_hi m g _ _ (by omega), updN_same]
        exact h g (by omega)
      · exact np_ins_lt m B hm g _ (fun j hj => by rw [updN_ne _ _ (by omega)]; exact h j (by omega)) i (by omega)
    · by_cases e : i = g + 1
      · subst e; rw [updN_same]; exact hm
      · rw [updN_ne _ _ e]; exact h i (by omega)
theorem np_ins_up (m : Nat) : ∀ (g : Nat) (f : Nat → Nat), np_up f g → (∀ i, i < g → f i ≠ m) → np_up (np_ins m f g) (g + 1)
  | 0, f, _, _ => fun i j h1 h2 => by omega
  | g + 1, f, hu, hn => by
    simp only [np_ins]
    split
    · rename_i hlt
      have hu' : np_up (updN f (g + 1) (f g)) g := fun i j h1 h2 => by
        rw [updN_ne _ _ (by omega), updN_ne _ _ (by omega)]
        exact hu i j h1 (by omega)
      have hn' : ∀ i, i < g → updN f (g + 1) (f g) i ≠ m := fun i hi => by
        rw [updN_ne _ _ (by omega)]; exact hn i (by omega)
      have ih := np_ins_up m g _ hu' hn'
      have hb := np_ins_lt m (f g) hlt g (updN f (g + 1) (f g)) (fun i hi => by
        rw [updN_ne _ _ (by omega)]; exact hu i g hi (by omega))
      intro i j h1 h2
      by_cases e : j = g + 1
      · subst e
        rw [np_ins_hi m g _ (g + 1) (by omega), updN_same]
        exact hb i (by omega)
      · exact ih i j h1 (by omega)
    · rename_i hge
      intro i j h1 h2
      by_cases e : j = g + 1
      · subst e
        rw [updN_same, updN_ne _ _ (by omega)]
        have h3 : f g ≠ m := hn g (by omega)
        by_cases e2 : i = g
        · subst e2; omega
        · have := hu i g (by omega) (by omega); omega
      · rw [updN_ne _ _ e, updN_ne _ _ (by omega)]
        exact hu i j h1 (by omega)
theorem np_cn_up {f : Nat → Nat} {n : Nat} (hu : np_up f n) {i : Nat} (hi : i < n) : ∀ k, k ≤ n → np_cn f (f i) k = if k ≤ i then k else i
  | 0, _ => by simp [np_cn]
  | k + 1, hk => by
    simp only [np_cn]
    rw [np_cn_up hu hi k (by omega)]
    by_cases h1 : k < i
    · rw [if_pos (by omega), if_pos (hu k i h1 hi), if_pos (by omega)]
    · by_cases h2 : k = i
      · subst h2; rw [if_pos (by omega), if_neg (by omega), if_neg (by omega)]; omega
      · have h3 : f i < f k := hu i k (by omega) (by omega)
        rw [if_neg (by omega), if_neg (by omega), if_neg (by omega)]; omega
/-- the mark of rank k, as the reference finds it: the first of the marks under which there are k -/
def np_mk (f : Nat → Nat) (n k : Nat) : Nat → Nat → Nat
  | _, 0 => 4294967295
  | m, r + 1 => if np_cn f (f m) n = k then f m else np_mk f n k (m + 1) r
theorem np_mk_eq {f g : Nat → Nat} {n : Nat} (hc : ∀ x, np_cn f x n = np_cn g x n) (hu : np_up g n) (k : Nat) : ∀ (r m : Nat), m + r = n → (∀ i, i < m → np_cn f (f i) n ≠ k) → np_mk f n k m r = if k < n then g k else 4294967295
  | 0, m, hm, hno => by
    simp only [np_mk]
    rw [if_neg]
    intro hk
    have h1 : np_hs g (g k) n = true := (np_hs_iff g (g k) n).mpr ⟨k, hk, rfl⟩
    rw [← np_hs_eq hc] at h1
    obtain ⟨i, hi, e⟩ := (np_hs_iff f (g k) n).mp h1
    refine hno i (by omega) ?_
    rw [e, hc, np_cn_up hu hk n (Nat.le_refl _), if_neg (by omega)]
  | r + 1, m, hm, hno => by
    simp only [np_mk]
    have h1 : np_hs f (f m) n = true := (np_hs_iff f (f m) n).mpr ⟨m, by omega, rfl⟩
    rw [np_hs_eq hc] at h1
    obtain ⟨i, hi, e⟩ := (np_hs_iff g (f m) n).mp h1
    have h2 : np_cn f (f m) n = i := by
      rw [hc, ← e, np_cn_up hu hi n (Nat.le_refl _), if_neg (by omega)]
    by_cases h3 : np_cn f (f m) n = k
    · rw [if_pos h3, if_pos (by omega), ← e]
      rw [← h3, h2]
    · rw [if_neg h3]
      refine np_mk_eq hc hu k r (m + 1) (by omega) (fun j hj => ?_)
      by_cases e2 : j = m
      · subst e2; exact h3
      · exact hno j (by omega)
