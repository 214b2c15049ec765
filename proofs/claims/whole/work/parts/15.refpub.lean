theorem np_own_4 {k : Nat} (h : np_own k ≠ 4294967295) : np_own k < 4 := by
  unfold np_own at h ⊢
  repeat' split
  all_goals first | omega | (exfalso; simp_all)
theorem np_cn_bd (f : Nat → Nat) (x : Nat) : ∀ k, np_cn f x k ≤ k
  | 0 => Nat.le_refl _
  | k + 1 => by
    have := np_cn_bd f x k
    simp only [np_cn]
    split <;> omega
theorem np_w_pos {v : Nat} (hv : v ≤ 4) : 1 ≤ 16 / 2 ^ v := by
  rcases (show v = 0 ∨ v = 1 ∨ v = 2 ∨ v = 3 ∨ v = 4 by omega) with rfl | rfl | rfl | rfl | rfl <;> decide
theorem np_sib_e {q v : Nat} (hq : q < 16) (hv : v < 4) (h : q / 2 ^ v % 2 = 0) : q / 2 ^ v + 1 < 16 / 2 ^ v := by
  rcases (show v = 0 ∨ v = 1 ∨ v = 2 ∨ v = 3 by omega) with rfl | rfl | rfl | rfl <;> simp at h ⊢ <;> omega
theorem np_sib_o {q v : Nat} (hq : q < 16) (hv : v < 4) (h : q / 2 ^ v % 2 ≠ 0) : q / 2 ^ v - 1 < 16 / 2 ^ v := by
  rcases (show v = 0 ∨ v = 1 ∨ v = 2 ∨ v = 3 by omega) with rfl | rfl | rfl | rfl <;> simp at h ⊢ <;> omega
def np_lm1 (s t : Nat → Nat) (v : Nat) (f : Nat → Nat) : Nat → Nat := updN (updN f (11 + v) (s v)) (15 + v) (t v)
def np_lm2 (v : Nat) (f : Nat → Nat) : Nat → Nat := updN f (19 + v) (np_lft f v)
def np_lm3 (v : Nat) (f : Nat → Nat) : Nat → Nat := updN f (23 + v) (np_rgt f v)
def np_lvm (s t g : Nat → Nat) : Nat → Nat → Nat
  | 0 => g
  | v + 1 => np_fil (np_lm3 v (np_lm2 v (np_lm1 s t v (np_lvm s t g v)))) (3 + v) 0 9
def np_wv (G W0 : Nat → Nat) : Nat → Nat → Nat
  | 0 => W0
  | v + 1 => np_w3 (np_w1 G (np_wv G W0 v) 16) v
def np_sv (G : Nat → Nat) (q v : Nat) : Nat := np_tr G v (if q / 2 ^ v % 2 = 0 then q / 2 ^ v + 1 else q / 2 ^ v - 1)
def np_tv (q v : Nat) : Nat := q / 2 ^ v % 2
def np_G (Y : np_X) : Nat → Nat := np_lv (Y 1) (Y 2) (Y 3) (Y 0 0)
def np_ld0 (Y : np_X) (q y am wd nn : Nat) : Nat → Nat := updN (updN (updN (updN (updN (updN (updN (Y 5) 4 wd) 5 (100 + np_own (Y 1 q))) 6 (Y 2 q)) 7 (Y 3 q)) 8 (np_key y)) 9 am) 10 nn
def np_ld2 (Y : np_X) (q y am wd nn : Nat) : Nat → Nat := np_fil (np_fil (np_fil (np_bts (np_ld0 Y q y am wd nn) am 8) 0 0 9) 1 0 9) 2 0 9
def np_ld3 (Y : np_X) (q y am wd nn : Nat) : Nat → Nat := np_lvm (np_sv (np_G Y) q) (np_tv q) (np_ld2 Y q y am wd nn) 4
def np_ld4 (Y : np_X) (q y am wd nn : Nat) : Nat → Nat := np_fil (np_fil (np_fil (np_ld3 Y q y am wd nn) 7 0 9) 8 0 9) 9 0 9
def np_cp (f : Nat → Nat) (i j : Nat) : Nat → Nat := updN f i (f j)
def np_ldFY (Y : np_X) (q y am wd nn : Nat) : Nat → Nat := np_cp (np_cp (np_cp (np_ld4 Y q y am wd nn) 1 97) 2 106) 3 124
def np_ldRY (Y : np_X) (q y am wd nn : Nat) : Nat := if q < Y 0 0 ∧ y < 4 then (if np_own (Y 1 q) = 4294967295 then 4294967295 else (if am < 256 ∧ wd < 256 ∧ nn < 65537 then (if np_flt (np_ldFY Y q y am wd nn) 0 115 = 4294967295 then 1 else 0) else 4294967293)) else 4294967294
def np_ldXY (Y : np_X) (q y am wd nn : Nat) : np_X := if q < Y 0 0 ∧ y < 4 then (if np_own (Y 1 q) = 4294967295 then Y else (if am < 256 ∧ wd < 256 ∧ nn < 65537 then va_up (va_up Y 6 (np_wv (np_G Y) (Y 6) 4)) 5 (np_ldFY Y q y am wd nn) else Y)) else Y
theorem np_ok_fil : ∀ (n b z : Nat) (f : Nat → Nat), np_ok f → np_ok (np_fil f b z n)
  | 0, _, _, _, h => h
  | n + 1, b, z, _, h => np_ok_fil n b (z + 1) _ (np_ok_upd h (np_blk_lt _ _))
theorem np_ok_cp {f : Nat → Nat} (h : np_ok f) (i j : Nat) : np_ok (np_cp f i j) := np_ok_upd h (h _)
theorem np_ok_lm1 {s t f : Nat → Nat} {v : Nat} (hf : np_ok f) (hs : s v < 65537) (ht : t v < 65537) : np_ok (np_lm1 s t v f) := np_ok_upd (np_ok_upd hf hs) ht
theorem np_ok_lm2 {f : Nat → Nat} {v : Nat} (hf : np_ok f) : np_ok (np_lm2 v f) := np_ok_upd hf (np_sm_lt _ _)
theorem np_ok_lm3 {f : Nat → Nat} {v : Nat} (hf : np_ok f) : np_ok (np_lm3 v f) := np_ok_upd hf (np_df_lt _ _)
theorem np_sv_lt {G : Nat → Nat} (hG : np_ok G) (q v : Nat) : np_sv G q v < 65537 := np_tr_lt hG _ _
theorem np_tv_lt (q v : Nat) : np_tv q v < 65537 := by unfold np_tv; omega
theorem np_ok_G (Y : np_X) : np_ok (np_G Y) := np_ok_lv _
theorem np_ok_lvm {G g : Nat → Nat} (hG : np_ok G) (q : Nat) (hg : np_ok g) : ∀ v, np_ok (np_lvm (np_sv G q) (np_tv q) g v)
  | 0 => hg
  | v + 1 => np_ok_fil _ _ _ _ (np_ok_lm3 (np_ok_lm2 (np_ok_lm1 (np_ok_lvm hG q hg v) (np_sv_lt hG q v) (np_tv_lt q v))))
theorem np_ok_wv {G W : Nat → Nat} (hG : np_ok G) (hW : np_ok W) : ∀ v, np_ok (np_wv G W v)
  | 0 => hW
  | v + 1 => np_ok_w3 (np_ok_w1 hG (np_ok_wv hG hW v) 16) v
theorem np_ok_ld2 {Y : np_X} {q y am wd nn : Nat} (h5 : np_ok (Y 5)) (h2 : np_ok (Y 2)) (h3 : np_ok (Y 3)) (ho : np_own (Y 1 q) < 4) (ha : am < 256) (hw : wd < 256) (hn : nn < 65537) : np_ok (np_ld2 Y q y am wd nn) := np_ok_fil _ _ _ _ (np_ok_fil _ _ _ _ (np_ok_fil _ _ _ _ (np_ok_bts (np_ok_upd (np_ok_upd (np_ok_upd (np_ok_upd (np_ok_upd (np_ok_upd (np_ok_upd h5 (by omega)) (by omega)) (h2 _)) (h3 _)) (np_hh_lt _ _)) (by omega)) hn) _ _)))
/-- the roots, and how the work row goes on -/
def np_rrY (Y : np_X) (k : Nat) : Nat := if k < 4 then (if k ≤ Y 0 0 then np_tr (np_lv (Y 1) (Y 2) (Y 3) (Y 0 0 - k)) 4 0 else 4294967295) else 4294967295
def np_rtX (Y : np_X) (k : Nat) : np_X := if k < 4 then (if k ≤ Y 0 0 then va_up Y 6 (np_wkN Y (Y 0 0 - k) 4) else Y) else Y
def np_ndR (Y : np_X) (v n : Nat) : Nat := if v ≤ 4 then (if n < 16 / 2 ^ v then np_tr (np_lv (Y 1) (Y 2) (Y 3) (Y 0 0)) v n else 4294967295) else 4294967295
def np_ndX (Y : np_X) (v n : Nat) : np_X := if v ≤ 4 then (if n < 16 / 2 ^ v then va_up Y 6 (np_wkN Y (Y 0 0) v) else Y) else Y
def np_irX : np_X → Nat → Nat → Nat → np_X
  | Y, _, _, 0 => Y
  | Y, x, k, n + 1 => if np_rrY Y k = x then np_rtX Y k else np_irX (np_rtX Y k) x (k + 1) n
theorem np_wk_ok {Y : np_X} (h : np_ok (Y 6)) (n v : Nat) : np_ok (np_wkN Y n v) := np_ok_w3 (np_ok_w1 (np_ok_lv n) h 16) v
theorem np_rtX_eq (Y : np_X) (k : Nat) {j : Nat} (h : j ≠ 6) : np_rtX Y k j = Y j := by
  unfold np_rtX
  (repeat' split) <;> first | rfl | exact va_up_ne h | simp [va_up, h]
theorem np_rtX_ok {Y : np_X} (h : np_ok (Y 6)) (k : Nat) : np_ok (np_rtX Y k 6) := by
  unfold np_rtX
  repeat' split
  · exact np_wk_ok h _ _
  · exact h
  · exact h
theorem np_irX_eq : ∀ (n : Nat) (Y : np_X) (x k : Nat) {j : Nat}, j ≠ 6 → np_irX Y x k n j = Y j
  | 0, _, _, _, _, _ => rfl
  | n + 1, Y, x, k, j, h => by
    simp only [np_irX]
    split
    · exact np_rtX_eq Y k h
    · rw [np_irX_eq n (np_rtX Y k) x (k + 1) h, np_rtX_eq Y k h]
theorem np_irX_ok : ∀ (n : Nat) (Y : np_X) (x k : Nat), np_ok (Y 6) → np_ok (np_irX Y x k n 6)
  | 0, _, _, _, h => h
  | n + 1, Y, x, k, h => by
    simp only [np_irX]
    split
    · exact np_rtX_ok h k
    · exact np_irX_ok n _ x _ (np_rtX_ok h k)
theorem np_rrY_lt (Y : np_X) (k : Nat) : np_rrY Y k < 4294967296 := by
  unfold np_rrY
  repeat' split
  · exact Nat.lt_trans (np_tr_lt (np_ok_lv _) _ _) (by decide)
  · decide
  · decide
theorem np_rrY_eq {Y Z : np_X} (h : ∀ j, j ≠ 6 → Z j = Y j) (k : Nat) : np_rrY Z k = np_rrY Y k := by
  unfold np_rrY
  rw [h 0 (by decide), h 1 (by decide), h 2 (by decide), h 3 (by decide)]
def np_suAY (Z : np_X) : np_X := va_up (va_up Z 4 (updN (Z 4) (Z 0 1) (Z 5 2))) 0 (updN (Z 0) 1 (Z 0 1 + 1))
def np_suBY (Z : np_X) : np_X := va_up (np_suAY Z) 0 (updN (np_suAY Z 0) 2 (Z 0 2 + 4294967296 - Z 5 4))
def np_suRY (Y : np_X) : Nat := if np_flt (Y 5) 0 115 = 4294967295 then (if Y 5 4 ≤ 255 then (if np_hs (np_rrY Y) (Y 5 1) 4 = true then (if np_hs (Y 4) (Y 5 2) (Y 0 1) = true then 4294967290 else (if Y 0 0 = 16 then 4294967289 else Y 0 0)) else 4294967291) else 4294967292) else 4294967293
def np_suXZ (Y Z : np_X) : np_X := if np_hs (np_rrY Y) (Y 5 1) 4 = true then (if np_hs (Z 4) (Z 5 2) (Z 0 1) = true then Z else (if Z 0 0 = 16 then Z else np_mkY (np_suBY Z) (Z 5 8) (Z 5 9) (Z 5 10))) else Z
def np_suXY (Y : np_X) : np_X := if np_flt (Y 5) 0 115 = 4294967295 then (if Y 5 4 ≤ 255 then np_suXZ Y (np_irX Y (Y 5 1) 0 4) else Y) else Y
def np_moY (Y : np_X) (q : Nat) : Nat := np_hh (100 + np_own (Y 1 q)) (np_lf (Y 1) (Y 2) (Y 3) q)
def np_unY (Y : np_X) (q : Nat) : Prop := q < Y 0 0 ∧ np_own (Y 1 q) ≠ 4294967295 ∧ ¬ np_hs (Y 4) (np_moY Y q) (Y 0 1) = true
theorem np_unY_dec (Y : np_X) (q : Nat) : (if q < Y 0 0 ∧ np_own (Y 1 q) ≠ 4294967295 ∧ ¬ np_hs (Y 4) (np_moY Y q) (Y 0 1) = true then 1 else 0) = (if q < Y 0 0 ∧ np_own (Y 1 q) ≠ 4294967295 ∧ ¬ np_hs (Y 4) (np_moY Y q) (Y 0 1) = true then 1 else (0 : Nat)) := rfl
def np_balY (Y : np_X) (x : Nat) : Nat → Nat
  | 0 => 0
  | n + 1 => np_balY Y x n + (if np_own (Y 1 n) = x ∧ (n < Y 0 0 ∧ np_own (Y 1 n) ≠ 4294967295 ∧ ¬ np_hs (Y 4) (np_moY Y n) (Y 0 1) = true) then Y 2 n else 0)
set_option maxRecDepth 20000 in
set_option maxHeartbeats 4000000 in
theorem c_M_get (l : Launch) (D : va_G) {cI : ClassId} {a : Nat → Nat} (ha : np_inj a 7) {Y : np_X} (hY : np_YI Y) (y6 : np_ok (Y 6)) {x : Nat} (hx : x < 4294967296) : np_M l D cI (np_ad a 7) (1, 21) y_M_get b_M_get 2 (some .int) [.ref (a 0), .int (nI x)] (np_mw a cI Y) (some (.int (nI (if x < 125 then Y 5 x else 4294967295)))) (np_mw a cI Y) := by
  refine np_Ct.of (np_Sm_St _) (by decide) (Nat.le_of_ble_eq_true rfl) ?_
  intro p e s m below meth c C
  refine np_at (vs2 := [some (.ref (a 0)), some (.int (nI x))]) rfl ?_
  obtain ⟨y0, ys, y1, y2, y3, y4, y5⟩ := hY
  refine np_iload_n (pc := 0) C d_M_get_0 rfl ?_
  refine np_bipush (pc := 1) (v := 124) C d_M_get_1 (by decide) ?_
  refine np_cSi (pc := 3) C (c_M_outside l D (by omega) (by omega)) np_TS_good d_M_get_3 m_339 m_337 m_5 m_338 hd_M_outside (by decide) rfl rfl (Nat.le_of_ble_eq_true rfl) ?_
  refine np_ifz_eq (pc := 6) (tgt := 13) C d_M_get_6 rfl (fun h6 => ?_) (fun h6 => ?_)
  · refine np_aload_n (pc := 13) C d_M_get_13 rfl ?_
    refine np_get (pc := 14) C 0 7 d_M_get_14 rfl rfl rfl (by decide) hin_M m_311 rfl ?_
    refine np_iload_n (pc := 17) C d_M_get_17 rfl ?_
    refine np_iald (pc := 18) C 5 d_M_get_18 rfl (by omega) (by decide) ?_
    exact np_iret (pc := 19) C d_M_get_19 (by (repeat' split) <;> first | omega | rfl) (by rfl)
  · refine np_iconst (pc := 9) (v := 4294967295) C d_M_get_9 (by decide) ?_
    refine np_goto (pc := 10) (tgt := 19) C d_M_get_10 rfl ?_
    exact np_iret (pc := 19) C d_M_get_19 (by (repeat' split) <;> first | omega | rfl) (by rfl)
set_option maxRecDepth 20000 in
set_option maxHeartbeats 4000000 in
theorem c_M_set (l : Launch) (D : va_G) {cI : ClassId} {a : Nat → Nat} (ha : np_inj a 7) {Y : np_X} (hY : np_YI Y) (y6 : np_ok (Y 6)) {x n : Nat} (hx : x < 4294967296) (hn : n < 4294967296) : np_M l D cI (np_ad a 7) (1, 21) y_M_set b_M_set 3 (some .boolean) [.ref (a 0), .int (nI x), .int (nI n)] (np_mw a cI Y) (some (.int (nI (np_stR x n)))) (np_mw a cI (if x < 125 ∧ x ≠ 0 ∧ n < 65537 then va_up Y 5 (updN (Y 5) x n) else Y)) := by
  refine np_Ct.of (np_Sm_St _) (by decide) (Nat.le_of_ble_eq_true rfl) ?_
  intro p e s m below meth c C
  refine np_at (vs2 := [some (.ref (a 0)), some (.int (nI x)), some (.int (nI n))]) rfl ?_
  obtain ⟨y0, ys, y1, y2, y3, y4, y5⟩ := hY
  refine np_iload_n (pc := 0) C d_M_set_0 rfl ?_
  refine np_iconst (pc := 1) (v := 1) C d_M_set_1 (by decide) ?_
  refine np_icmp_ltS (pc := 2) (tgt := 20) C (by omega) (by omega) d_M_set_2 rfl (fun h2 => ?_) (fun h2 => ?_)
  · refine np_iconst (pc := 20) (v := 0) C d_M_set_20 (by decide) ?_
    exact np_zret (pc := 21) C d_M_set_21 (by first | omega | (split <;> omega)) (by unfold np_stR; (repeat' split) <;> first | omega | rfl) (by (repeat' split) <;> first | (exfalso; omega) | rfl)
  · refine np_iload_n (pc := 5) C d_M_set_5 rfl ?_
    refine np_bipush (pc := 6) (v := 124) C d_M_set_6 (by decide) ?_
    refine np_icmp_gt (pc := 8) (tgt := 20) C (by omega) (by omega) d_M_set_8 rfl (fun h8 => ?_) (fun h8 => ?_)
    · refine np_iconst (pc := 20) (v := 0) C d_M_set_20 (by decide) ?_
      exact np_zret (pc := 21) C d_M_set_21 (by first | omega | (split <;> omega)) (by unfold np_stR; (repeat' split) <;> first | omega | rfl) (by (repeat' split) <;> first | (exfalso; omega) | rfl)
    · refine np_iload_n (pc := 11) C d_M_set_11 rfl ?_
      refine np_ldc (pc := 12) (v := 65536) C m_336 (by decide) d_M_set_12 ?_
      refine np_cSi (pc := 14) C (c_M_outside l D (by omega) (by omega)) np_TS_good d_M_set_14 m_339 m_337 m_5 m_338 hd_M_outside (by decide) rfl rfl (Nat.le_of_ble_eq_true rfl) ?_
      refine np_ifz_eq (pc := 17) (tgt := 22) C d_M_set_17 rfl (fun h17 => ?_) (fun h17 => ?_)
      · refine np_aload_n (pc := 22) C d_M_set_22 rfl ?_
        refine np_get (pc := 23) C 0 7 d_M_set_23 rfl rfl rfl (by decide) hin_M m_311 rfl ?_
        refine np_iload_n (pc := 26) C d_M_set_26 rfl ?_
        refine np_iload_n (pc := 27) C d_M_set_27 rfl ?_
        refine np_iastG (pc := 28) C (np_mw a cI) _ 5 5 (np_mD ha _) d_M_set_28 rfl (us_5 a cI _) (by omega) (by decide) ?_
        refine np_iconst (pc := 29) (v := 1) C d_M_set_29 (by decide) ?_
        exact np_zret (pc := 30) C d_M_set_30 (by first | omega | (split <;> omega)) (by unfold np_stR; (repeat' split) <;> first | omega | rfl) (by (repeat' split) <;> first | (exfalso; omega) | rfl)
      · refine np_iconst (pc := 20) (v := 0) C d_M_set_20 (by decide) ?_
        exact np_zret (pc := 21) C d_M_set_21 (by first | omega | (split <;> omega)) (by unfold np_stR; (repeat' split) <;> first | omega | rfl) (by (repeat' split) <;> first | (exfalso; omega) | rfl)
set_option maxRecDepth 20000 in
set_option maxHeartbeats 4000000 in
theorem c_M_notes (l : Launch) (D : va_G) {cI : ClassId} {a : Nat → Nat} (ha : np_inj a 7) {Y : np_X} (hY : np_YI Y) (y6 : np_ok (Y 6))  : np_M l D cI (np_ad a 7) (0, 0) y_M_notes b_M_notes 1 (some .int) [.ref (a 0)] (np_mw a cI Y) (some (.int (nI (Y 0 0)))) (np_mw a cI Y) := by
  refine np_Ct.of (np_Sm_St _) (by decide) (Nat.le_of_ble_eq_true rfl) ?_
  intro p e s m below meth c C
  refine np_at (vs2 := [some (.ref (a 0))]) rfl ?_
  obtain ⟨y0, ys, y1, y2, y3, y4, y5⟩ := hY
  refine np_aload_n (pc := 0) C d_M_notes_0 rfl ?_
  refine np_get (pc := 1) C 0 0 d_M_notes_1 rfl rfl rfl (by decide) hin_M m_304 rfl ?_
  exact np_iret (pc := 4) C d_M_notes_4 (by first | omega | rfl | (repeat' split) <;> omega) (by rfl)
set_option maxRecDepth 20000 in
set_option maxHeartbeats 4000000 in
theorem c_M_used (l : Launch) (D : va_G) {cI : ClassId} {a : Nat → Nat} (ha : np_inj a 7) {Y : np_X} (hY : np_YI Y) (y6 : np_ok (Y 6))  : np_M l D cI (np_ad a 7) (0, 0) y_M_used b_M_used 1 (some .int) [.ref (a 0)] (np_mw a cI Y) (some (.int (nI (Y 0 1)))) (np_mw a cI Y) := by
  refine np_Ct.of (np_Sm_St _) (by decide) (Nat.le_of_ble_eq_true rfl) ?_
  intro p e s m below meth c C
  refine np_at (vs2 := [some (.ref (a 0))]) rfl ?_
  obtain ⟨y0, ys, y1, y2, y3, y4, y5⟩ := hY
  refine np_aload_n (pc := 0) C d_M_used_0 rfl ?_
  refine np_get (pc := 1) C 0 4 d_M_used_1 rfl rfl rfl (by decide) hin_M m_308 rfl ?_
  exact np_iret (pc := 4) C d_M_used_4 (by first | omega | rfl | (repeat' split) <;> omega) (by rfl)
set_option maxRecDepth 20000 in
set_option maxHeartbeats 4000000 in
theorem c_M_pool (l : Launch) (D : va_G) {cI : ClassId} {a : Nat → Nat} (ha : np_inj a 7) {Y : np_X} (hY : np_YI Y) (y6 : np_ok (Y 6))  : np_M l D cI (np_ad a 7) (0, 0) y_M_pool b_M_pool 1 (some .int) [.ref (a 0)] (np_mw a cI Y) (some (.int (nI (Y 0 2)))) (np_mw a cI Y) := by
  refine np_Ct.of (np_Sm_St _) (by decide) (Nat.le_of_ble_eq_true rfl) ?_
  intro p e s m below meth c C
  refine np_at (vs2 := [some (.ref (a 0))]) rfl ?_
  obtain ⟨y0, ys, y1, y2, y3, y4, y5⟩ := hY
  refine np_aload_n (pc := 0) C d_M_pool_0 rfl ?_
  refine np_get (pc := 1) C 0 6 d_M_pool_1 rfl rfl rfl (by decide) hin_M m_310 rfl ?_
  exact np_iret (pc := 4) C d_M_pool_4 (by first | omega | rfl | (repeat' split) <;> omega) (by rfl)
set_option maxRecDepth 20000 in
set_option maxHeartbeats 4000000 in
theorem c_M_commitment (l : Launch) (D : va_G) {cI : ClassId} {a : Nat → Nat} (ha : np_inj a 7) {Y : np_X} (hY : np_YI Y) (y6 : np_ok (Y 6)) {q : Nat} (hq : q < 4294967296) : np_M l D cI (np_ad a 7) (5, 114) y_M_commitment b_M_commitment 2 (some .int) [.ref (a 0), .int (nI q)] (np_mw a cI Y) (some (.int (nI (if q < Y 0 0 then np_lf (Y 1) (Y 2) (Y 3) q else 4294967294)))) (np_mw a cI Y) := by
  refine np_Ct.of (np_Sm_St _) (by decide) (Nat.le_of_ble_eq_true rfl) ?_
  intro p e s m below meth c C
  refine np_at (vs2 := [some (.ref (a 0)), some (.int (nI q))]) rfl ?_
  obtain ⟨y0, ys, y1, y2, y3, y4, y5⟩ := hY
  refine np_iload_n (pc := 0) C d_M_commitment_0 rfl ?_
  refine np_if_lt (pc := 1) (tgt := 12) C (by omega) d_M_commitment_1 rfl (fun h1 => ?_) (fun h1 => ?_)
  · refine np_bipush (pc := 12) (v := 4294967294) C d_M_commitment_12 (by decide) ?_
    refine np_goto (pc := 14) (tgt := 22) C d_M_commitment_14 rfl ?_
    exact np_iret (pc := 22) C d_M_commitment_22 (by (repeat' split) <;> first | omega | rfl) (by rfl)
  · refine np_iload_n (pc := 4) C d_M_commitment_4 rfl ?_
    refine np_aload_n (pc := 5) C d_M_commitment_5 rfl ?_
    refine np_get (pc := 6) C 0 0 d_M_commitment_6 rfl rfl rfl (by decide) hin_M m_304 rfl ?_
    refine np_icmp_lt (pc := 9) (tgt := 17) C (by omega) (by omega) d_M_commitment_9 rfl (fun h9 => ?_) (fun h9 => ?_)
    · refine np_aload_n (pc := 17) C d_M_commitment_17 rfl ?_
      refine np_iload_n (pc := 18) C d_M_commitment_18 rfl ?_
      refine np_cVi (pc := 19) C 0 (c_M_leaf l D ha y1 y2 y3 (by omega)) np_TS_good d_M_commitment_19 rfl rfl m_395 m_392 m_5 m_394 ms_M_leaf hd_M_leaf (by decide) rfl rfl (Nat.le_of_ble_eq_true rfl) ?_
      exact np_iret (pc := 22) C d_M_commitment_22 (by (repeat' split) <;> first | omega | rfl) (by rfl)
    · refine np_bipush (pc := 12) (v := 4294967294) C d_M_commitment_12 (by decide) ?_
      refine np_goto (pc := 14) (tgt := 22) C d_M_commitment_14 rfl ?_
      exact np_iret (pc := 22) C d_M_commitment_22 (by (repeat' split) <;> first | omega | rfl) (by rfl)
set_option maxRecDepth 20000 in
set_option maxHeartbeats 4000000 in
theorem c_M_owner (l : Launch) (D : va_G) {cI : ClassId} {a : Nat → Nat} (ha : np_inj a 7) {Y : np_X} (hY : np_YI Y) (y6 : np_ok (Y 6)) {q : Nat} (hq : q < 4294967296) : np_M l D cI (np_ad a 7) (6, 134) y_M_owner b_M_owner 2 (some .int) [.ref (a 0), .int (nI q)] (np_mw a cI Y) (some (.int (nI (if q < Y 0 0 then np_own (Y 1 q) else 4294967294)))) (np_mw a cI Y) := by
  refine np_Ct.of (np_Sm_St _) (by decide) (Nat.le_of_ble_eq_true rfl) ?_
  intro p e s m below meth c C
  refine np_at (vs2 := [some (.ref (a 0)), some (.int (nI q))]) rfl ?_
  obtain ⟨y0, ys, y1, y2, y3, y4, y5⟩ := hY
  refine np_iload_n (pc := 0) C d_M_owner_0 rfl ?_
  refine np_if_lt (pc := 1) (tgt := 12) C (by omega) d_M_owner_1 rfl (fun h1 => ?_) (fun h1 => ?_)
  · refine np_bipush (pc := 12) (v := 4294967294) C d_M_owner_12 (by decide) ?_
    refine np_goto (pc := 14) (tgt := 22) C d_M_owner_14 rfl ?_
    exact np_iret (pc := 22) C d_M_owner_22 (by (repeat' split) <;> first | omega | rfl) (by rfl)
  · refine np_iload_n (pc := 4) C d_M_owner_4 rfl ?_
    refine np_aload_n (pc := 5) C d_M_owner_5 rfl ?_
    refine np_get (pc := 6) C 0 0 d_M_owner_6 rfl rfl rfl (by decide) hin_M m_304 rfl ?_
    refine np_icmp_lt (pc := 9) (tgt := 17) C (by omega) (by omega) d_M_owner_9 rfl (fun h9 => ?_) (fun h9 => ?_)
    · refine np_aload_n (pc := 17) C d_M_owner_17 rfl ?_
      refine np_iload_n (pc := 18) C d_M_owner_18 rfl ?_
      refine np_cVi (pc := 19) C 0 (c_M_ownerOf l D ha y1 (by omega)) np_TS_good d_M_owner_19 rfl rfl m_375 m_372 m_5 m_374 ms_M_ownerOf hd_M_ownerOf (by decide) rfl rfl (Nat.le_of_ble_eq_true rfl) ?_
      exact np_iret (pc := 22) C d_M_owner_22 (by (repeat' split) <;> first | omega | rfl) (by rfl)
    · refine np_bipush (pc := 12) (v := 4294967294) C d_M_owner_12 (by decide) ?_
      refine np_goto (pc := 14) (tgt := 22) C d_M_owner_14 rfl ?_
      exact np_iret (pc := 22) C d_M_owner_22 (by (repeat' split) <;> first | omega | rfl) (by rfl)
set_option maxRecDepth 20000 in
set_option maxHeartbeats 4000000 in
theorem c_M_value (l : Launch) (D : va_G) {cI : ClassId} {a : Nat → Nat} (ha : np_inj a 7) {Y : np_X} (hY : np_YI Y) (y6 : np_ok (Y 6)) {q : Nat} (hq : q < 4294967296) : np_M l D cI (np_ad a 7) (0, 0) y_M_value b_M_value 2 (some .int) [.ref (a 0), .int (nI q)] (np_mw a cI Y) (some (.int (nI (if q < Y 0 0 then Y 2 q else 4294967294)))) (np_mw a cI Y) := by
  refine np_Ct.of (np_Sm_St _) (by decide) (Nat.le_of_ble_eq_true rfl) ?_
  intro p e s m below meth c C
  refine np_at (vs2 := [some (.ref (a 0)), some (.int (nI q))]) rfl ?_
  obtain ⟨y0, ys, y1, y2, y3, y4, y5⟩ := hY
  refine np_iload_n (pc := 0) C d_M_value_0 rfl ?_
  refine np_if_lt (pc := 1) (tgt := 12) C (by omega) d_M_value_1 rfl (fun h1 => ?_) (fun h1 => ?_)
  · refine np_bipush (pc := 12) (v := 4294967294) C d_M_value_12 (by decide) ?_
    refine np_goto (pc := 14) (tgt := 23) C d_M_value_14 rfl ?_
    exact np_iret (pc := 23) C d_M_value_23 (by (repeat' split) <;> first | omega | rfl) (by rfl)
  · refine np_iload_n (pc := 4) C d_M_value_4 rfl ?_
    refine np_aload_n (pc := 5) C d_M_value_5 rfl ?_
    refine np_get (pc := 6) C 0 0 d_M_value_6 rfl rfl rfl (by decide) hin_M m_304 rfl ?_
    refine np_icmp_lt (pc := 9) (tgt := 17) C (by omega) (by omega) d_M_value_9 rfl (fun h9 => ?_) (fun h9 => ?_)
    · refine np_aload_n (pc := 17) C d_M_value_17 rfl ?_
      refine np_get (pc := 18) C 0 2 d_M_value_18 rfl rfl rfl (by decide) hin_M m_306 rfl ?_
      refine np_iload_n (pc := 21) C d_M_value_21 rfl ?_
      refine np_iald (pc := 22) C 2 d_M_value_22 rfl (by omega) (by decide) ?_
      exact np_iret (pc := 23) C d_M_value_23 (by (repeat' split) <;> first | omega | rfl) (by rfl)
    · refine np_bipush (pc := 12) (v := 4294967294) C d_M_value_12 (by decide) ?_
      refine np_goto (pc := 14) (tgt := 23) C d_M_value_14 rfl ?_
      exact np_iret (pc := 23) C d_M_value_23 (by (repeat' split) <;> first | omega | rfl) (by rfl)
set_option maxRecDepth 20000 in
set_option maxHeartbeats 4000000 in
theorem c_M_unspent (l : Launch) (D : va_G) {cI : ClassId} {a : Nat → Nat} (ha : np_inj a 7) {Y : np_X} (hY : np_YI Y) (y6 : np_ok (Y 6)) {q : Nat} (hq : q < 4294967296) : np_M l D cI (np_ad a 7) (6, 134) y_M_unspent b_M_unspent 4 (some .boolean) [.ref (a 0), .int (nI q)] (np_mw a cI Y) (some (.int (nI (if q < Y 0 0 ∧ np_own (Y 1 q) ≠ 4294967295 ∧ ¬ np_hs (Y 4) (np_moY Y q) (Y 0 1) = true then 1 else 0)))) (np_mw a cI Y) := by
  refine np_Ct.of (np_Sm_St _) (by decide) (Nat.le_of_ble_eq_true rfl) ?_
  intro p e s m below meth c C
  refine np_at (vs2 := [some (.ref (a 0)), some (.int (nI q)), none, none]) rfl ?_
  obtain ⟨y0, ys, y1, y2, y3, y4, y5⟩ := hY
  refine np_iload_n (pc := 0) C d_M_unspent_0 rfl ?_
  refine np_if_lt (pc := 1) (tgt := 12) C (by omega) d_M_unspent_1 rfl (fun h1 => ?_) (fun h1 => ?_)
  · refine np_iconst (pc := 12) (v := 0) C d_M_unspent_12 (by decide) ?_
    exact np_zret (pc := 13) C d_M_unspent_13 (by first | omega | (split <;> omega)) (by rw [if_neg (fun z => by omega)]) (by rfl)
  · refine np_iload_n (pc := 4) C d_M_unspent_4 rfl ?_
    refine np_aload_n (pc := 5) C d_M_unspent_5 rfl ?_
    refine np_get (pc := 6) C 0 0 d_M_unspent_6 rfl rfl rfl (by decide) hin_M m_304 rfl ?_
    refine np_icmp_lt (pc := 9) (tgt := 14) C (by omega) (by omega) d_M_unspent_9 rfl (fun h9 => ?_) (fun h9 => ?_)
    · refine np_aload_n (pc := 14) C d_M_unspent_14 rfl ?_
      refine np_iload_n (pc := 15) C d_M_unspent_15 rfl ?_
      refine np_cVi (pc := 16) C 0 (c_M_ownerOf l D ha y1 (by omega)) np_TS_good d_M_unspent_16 rfl rfl m_375 m_372 m_5 m_374 ms_M_ownerOf hd_M_ownerOf (by decide) rfl rfl (Nat.le_of_ble_eq_true rfl) ?_
      refine np_istore_n (pc := 19) C d_M_unspent_19 (by decide) rfl ?_
      refine np_aload_n (pc := 20) C d_M_unspent_20 rfl ?_
      refine np_iload_n (pc := 21) C d_M_unspent_21 rfl ?_
      refine np_cVi (pc := 22) C 0 (c_M_leaf l D ha y1 y2 y3 (by omega)) np_TS_good d_M_unspent_22 rfl rfl m_395 m_392 m_5 m_394 ms_M_leaf hd_M_leaf (by decide) rfl rfl (Nat.le_of_ble_eq_true rfl) ?_
      refine np_istore_n (pc := 25) C d_M_unspent_25 (by decide) rfl ?_
      refine np_iload_n (pc := 26) C d_M_unspent_26 rfl ?_
      refine np_iconst (pc := 27) (v := 4294967295) C d_M_unspent_27 (by decide) ?_
      refine np_icmp_eq (pc := 28) (tgt := 50) C (by first | exact np_own_lt _ | omega) (by first | exact np_own_lt _ | omega) d_M_unspent_28 rfl (fun h28 => ?_) (fun h28 => ?_)
      · refine np_iconst (pc := 50) (v := 0) C d_M_unspent_50 (by decide) ?_
        exact np_zret (pc := 51) C d_M_unspent_51 (by first | omega | (split <;> omega)) (by rw [if_neg (fun z => z.2.1 h28)]) (by rfl)
      · refine np_aload_n (pc := 31) C d_M_unspent_31 rfl ?_
        refine np_bipush (pc := 32) (v := 100) C d_M_unspent_32 (by decide) ?_
        refine np_iload_n (pc := 34) C d_M_unspent_34 rfl ?_
        refine np_iadd (pc := 35) C d_M_unspent_35 ?_
        refine np_iload_n (pc := 36) C d_M_unspent_36 rfl ?_
        refine np_cSi (pc := 37) C (c_M_hashed l D (by have := np_own_4 h28; omega) (np_hh_lt _ _)) np_TS_good d_M_unspent_37 m_342 m_340 m_5 m_341 hd_M_hashed (by decide) rfl rfl (Nat.le_of_ble_eq_true rfl) ?_
        refine np_cVi (pc := 40) C 0 (c_M_isUsed l D ha (x := np_moY Y q) (np_hh_lt _ _) (by omega) y4) np_TS_good d_M_unspent_40 rfl rfl m_444 m_441 m_5 m_443 ms_M_isUsed hd_M_isUsed (by decide) rfl rfl (Nat.le_of_ble_eq_true rfl) ?_
        refine np_ifz_ne (pc := 43) (tgt := 50) C d_M_unspent_43 rfl (fun h43 => ?_) (fun h43 => ?_)
        · refine np_iconst (pc := 50) (v := 0) C d_M_unspent_50 (by decide) ?_
          exact np_zret (pc := 51) C d_M_unspent_51 (by first | omega | (split <;> omega)) (by rw [if_neg (fun z => z.2.2 h43)]) (by rfl)
        · refine np_iconst (pc := 46) (v := 1) C d_M_unspent_46 (by decide) ?_
          refine np_goto (pc := 47) (tgt := 51) C d_M_unspent_47 rfl ?_
          exact np_zret (pc := 51) C d_M_unspent_51 (by first | omega | (split <;> omega)) (by rw [if_pos ⟨by omega, h28, h43⟩]) (by rfl)
    · refine np_iconst (pc := 12) (v := 0) C d_M_unspent_12 (by decide) ?_
      exact np_zret (pc := 13) C d_M_unspent_13 (by first | omega | (split <;> omega)) (by rw [if_neg (fun z => by omega)]) (by rfl)
set_option maxRecDepth 20000 in
set_option maxHeartbeats 4000000 in
theorem c_M_balance (l : Launch) (D : va_G) {cI : ClassId} {a : Nat → Nat} (ha : np_inj a 7) {Y : np_X} (hY : np_YI Y) (y6 : np_ok (Y 6)) {x : Nat} (hx : x < 4294967296) : np_M l D cI (np_ad a 7) (7, 157) y_M_balance b_M_balance 4 (some .int) [.ref (a 0), .int (nI x)] (np_mw a cI Y) (some (.int (nI (if x < 4 then np_balY Y x (Y 0 0) else 4294967294)))) (np_mw a cI Y) := by
  refine np_Ct.of (np_Sm_St _) (by decide) (Nat.le_of_ble_eq_true rfl) ?_
  intro p e s m below meth c C
  refine np_at (vs2 := [some (.ref (a 0)), some (.int (nI x)), none, none]) rfl ?_
  obtain ⟨y0, ys, y1, y2, y3, y4, y5⟩ := hY
  have loop : ∀ (n k : Nat), k + n = Y 0 0 → x < 4 → np_V p l e (np_rm (7, 157)) s m ([.ref (a 0), .int (nI x)] : List Value).toArray below meth c 0 0 D np_cls (np_ad a 7) (MQ below (np_Qc D np_cls (np_ad a 7) (some (.int (nI (if x < 4 then np_balY Y x (Y 0 0) else 4294967294)))) (np_mw a cI Y)) ([.ref (a 0), .int (nI x)] : List Value).toArray s 0 0 (np_ad a 7)) 4 (np_mw a cI Y) 15 [some (.ref (a 0)), some (.int (nI x)), some (.int (nI (np_balY Y x k))), some (.int (nI k))] [] := by
    intro n
    induction n with
    | zero =>
      intro k hi h4x
      obtain rfl : k = Y 0 0 := by omega
      refine np_iload_n (pc := 15) C d_M_balance_15 rfl ?_
      refine np_aload_n (pc := 16) C d_M_balance_16 rfl ?_
      refine np_get (pc := 17) C 0 0 d_M_balance_17 rfl rfl rfl (by decide) hin_M m_304 rfl ?_
      refine np_icmp_ge (pc := 20) (tgt := 55) C (by omega) (by omega) d_M_balance_20 rfl (fun h20 => ?_) (fun h20 => ?_)
      · refine np_iload_n (pc := 55) C d_M_balance_55 rfl ?_
        exact np_iret (pc := 56) C d_M_balance_56 (by rw [if_pos h4x]) (by rfl)
      · exfalso; omega
    | succ n ih =>
      intro k hi h4x
      have hb := np_own_lt (Y 1 k)
      refine np_iload_n (pc := 15) C d_M_balance_15 rfl ?_
      refine np_aload_n (pc := 16) C d_M_balance_16 rfl ?_
      refine np_get (pc := 17) C 0 0 d_M_balance_17 rfl rfl rfl (by decide) hin_M m_304 rfl ?_
      refine np_icmp_ge (pc := 20) (tgt := 55) C (by omega) (by omega) d_M_balance_20 rfl (fun h20 => ?_) (fun h20 => ?_)
      · exfalso; omega
      · refine np_aload_n (pc := 23) C d_M_balance_23 rfl ?_
        refine np_iload_n (pc := 24) C d_M_balance_24 rfl ?_
        refine np_cVi (pc := 25) C 0 (c_M_ownerOf l D ha y1 (by omega)) np_TS_good d_M_balance_25 rfl rfl m_375 m_372 m_5 m_374 ms_M_ownerOf hd_M_ownerOf (by decide) rfl rfl (Nat.le_of_ble_eq_true rfl) ?_
        refine np_iload_n (pc := 28) C d_M_balance_28 rfl ?_
        refine np_icmp_ne (pc := 29) (tgt := 49) C (by omega) (by omega) d_M_balance_29 rfl (fun h29 => ?_) (fun h29 => ?_)
        · have e : np_balY Y x (k + 1) = np_balY Y x k := by rw [np_balY, if_neg (fun z => h29 z.1)]; rfl
          refine np_iinc (pc := 49) C d_M_balance_49 rfl (np_inc1 _) (by decide) rfl ?_
          refine np_goto (pc := 52) (tgt := 15) C d_M_balance_52 rfl ?_
          refine np_at (vs2 := [some (.ref (a 0)), some (.int (nI x)), some (.int (nI (np_balY Y x (k + 1)))), some (.int (nI (k + 1)))]) (by rw [e]; rfl) ?_
          exact ih (k + 1) (by omega) h4x
        · refine np_aload_n (pc := 32) C d_M_balance_32 rfl ?_
          refine np_iload_n (pc := 33) C d_M_balance_33 rfl ?_
          refine np_cVi (pc := 34) C 0 (c_M_unspent l D ha ⟨y0, ys, y1, y2, y3, y4, y5⟩ y6 (by omega)) np_TS_good d_M_balance_34 rfl rfl m_464 m_469 m_5 m_462 m_463 hd_M_unspent (by decide) rfl rfl (Nat.le_of_ble_eq_true rfl) ?_
          refine np_ifz_eq (pc := 37) (tgt := 49) C d_M_balance_37 rfl (fun h37 => ?_) (fun h37 => ?_)
          · have e : np_balY Y x (k + 1) = np_balY Y x k := by rw [np_balY, if_neg (fun z => h37 z.2)]; rfl
            refine np_iinc (pc := 49) C d_M_balance_49 rfl (np_inc1 _) (by decide) rfl ?_
            refine np_goto (pc := 52) (tgt := 15) C d_M_balance_52 rfl ?_
            refine np_at (vs2 := [some (.ref (a 0)), some (.int (nI x)), some (.int (nI (np_balY Y x (k + 1)))), some (.int (nI (k + 1)))]) (by rw [e]; rfl) ?_
            exact ih (k + 1) (by omega) h4x
          · have e : np_balY Y x (k + 1) = np_balY Y x k + Y 2 k := by rw [np_balY, if_pos ⟨h29, h37⟩]
            refine np_iload_n (pc := 40) C d_M_balance_40 rfl ?_
            refine np_aload_n (pc := 41) C d_M_balance_41 rfl ?_
            refine np_get (pc := 42) C 0 2 d_M_balance_42 rfl rfl rfl (by decide) hin_M m_306 rfl ?_
            refine np_iload_n (pc := 45) C d_M_balance_45 rfl ?_
            refine np_iald (pc := 46) C 2 d_M_balance_46 rfl (by omega) (by decide) ?_
            refine np_iadd (pc := 47) C d_M_balance_47 ?_
            refine np_istore_n (pc := 48) C d_M_balance_48 (by decide) rfl ?_
            refine np_iinc (pc := 49) C d_M_balance_49 rfl (np_inc1 _) (by decide) rfl ?_
            refine np_goto (pc := 52) (tgt := 15) C d_M_balance_52 rfl ?_
            refine np_at (vs2 := [some (.ref (a 0)), some (.int (nI x)), some (.int (nI (np_balY Y x (k + 1)))), some (.int (nI (k + 1)))]) (by rw [e]; rfl) ?_
            exact ih (k + 1) (by omega) h4x
  refine np_iload_n (pc := 0) C d_M_balance_0 rfl ?_
  refine np_iconst (pc := 1) (v := 3) C d_M_balance_1 (by decide) ?_
  refine np_cSi (pc := 2) C (c_M_outside l D (by omega) (by omega)) np_TS_good d_M_balance_2 m_339 m_337 m_5 m_338 hd_M_outside (by decide) rfl rfl (Nat.le_of_ble_eq_true rfl) ?_
  refine np_ifz_eq (pc := 5) (tgt := 11) C d_M_balance_5 rfl (fun h5 => ?_) (fun h5 => ?_)
  · refine np_iconst (pc := 11) (v := 0) C d_M_balance_11 (by decide) ?_
    refine np_istore_n (pc := 12) C d_M_balance_12 (by decide) rfl ?_
    refine np_iconst (pc := 13) (v := 0) C d_M_balance_13 (by decide) ?_
    refine np_istore_n (pc := 14) C d_M_balance_14 (by decide) rfl ?_
    refine np_at (vs2 := [some (.ref (a 0)), some (.int (nI x)), some (.int (nI (np_balY Y x 0))), some (.int (nI 0))]) rfl ?_
    exact loop (Y 0 0) 0 (by omega) (by omega)
  · refine np_bipush (pc := 8) (v := 4294967294) C d_M_balance_8 (by decide) ?_
    exact np_iret (pc := 10) C d_M_balance_10 (by rw [if_neg (by omega)]) (by rfl)
set_option maxRecDepth 20000 in
set_option maxHeartbeats 4000000 in
theorem c_M_root (l : Launch) (D : va_G) {cI : ClassId} {a : Nat → Nat} (ha : np_inj a 7) {Y : np_X} (hY : np_YI Y) (y6 : np_ok (Y 6)) {k : Nat} (hk : k < 4294967296) : np_M l D cI (np_ad a 7) (6, 140) y_M_root b_M_root 2 (some .int) [.ref (a 0), .int (nI k)] (np_mw a cI Y) (some (.int (nI (np_rrY Y k)))) (np_mw a cI (np_rtX Y k)) := by
  refine np_Ct.of (np_Sm_St _) (by decide) (Nat.le_of_ble_eq_true rfl) ?_
  intro p e s m below meth c C
  refine np_at (vs2 := [some (.ref (a 0)), some (.int (nI k))]) rfl ?_
  obtain ⟨y0, ys, y1, y2, y3, y4, y5⟩ := hY
  refine np_iload_n (pc := 0) C d_M_root_0 rfl ?_
  refine np_iconst (pc := 1) (v := 3) C d_M_root_1 (by decide) ?_
  refine np_cSi (pc := 2) C (c_M_outside l D (by omega) (by omega)) np_TS_good d_M_root_2 m_339 m_337 m_5 m_338 hd_M_outside (by decide) rfl rfl (Nat.le_of_ble_eq_true rfl) ?_
  refine np_ifz_ne (pc := 5) (tgt := 16) C d_M_root_5 rfl (fun h5 => ?_) (fun h5 => ?_)
  · refine np_iconst (pc := 16) (v := 4294967295) C d_M_root_16 (by decide) ?_
    refine np_goto (pc := 17) (tgt := 32) C d_M_root_17 rfl ?_
    exact np_iret (pc := 32) C d_M_root_32 (by unfold np_rrY; (repeat' split) <;> first | omega | rfl) (by unfold np_rtX; (repeat' split) <;> first | (exfalso; omega) | rfl)
  · refine np_iload_n (pc := 8) C d_M_root_8 rfl ?_
    refine np_aload_n (pc := 9) C d_M_root_9 rfl ?_
    refine np_get (pc := 10) C 0 0 d_M_root_10 rfl rfl rfl (by decide) hin_M m_304 rfl ?_
    refine np_icmp_le (pc := 13) (tgt := 20) C (by omega) (by omega) d_M_root_13 rfl (fun h13 => ?_) (fun h13 => ?_)
    · refine np_aload_n (pc := 20) C d_M_root_20 rfl ?_
      refine np_aload_n (pc := 21) C d_M_root_21 rfl ?_
      refine np_get (pc := 22) C 0 0 d_M_root_22 rfl rfl rfl (by decide) hin_M m_304 rfl ?_
      refine np_iload_n (pc := 25) C d_M_root_25 rfl ?_
      refine np_isub (pc := 26) C (by omega) d_M_root_26 ?_
      refine np_iconst (pc := 27) (v := 4) C d_M_root_27 (by decide) ?_
      refine np_iconst (pc := 28) (v := 0) C d_M_root_28 (by decide) ?_
      refine np_cVi (pc := 29) C 0 (c_M_nodeOf l D ha y1 y2 y3 y6 (by omega) (by omega) (by decide)) np_TS_good d_M_root_29 rfl rfl m_391 m_388 m_5 m_390 ms_M_nodeOf hd_M_nodeOf (by decide) rfl rfl (Nat.le_of_ble_eq_true rfl) ?_
      exact np_iret (pc := 32) C d_M_root_32 (by unfold np_rrY; (repeat' split) <;> first | omega | rfl) (by unfold np_rtX; (repeat' split) <;> first | (exfalso; omega) | rfl)
    · refine np_iconst (pc := 16) (v := 4294967295) C d_M_root_16 (by decide) ?_
      refine np_goto (pc := 17) (tgt := 32) C d_M_root_17 rfl ?_
      exact np_iret (pc := 32) C d_M_root_32 (by unfold np_rrY; (repeat' split) <;> first | omega | rfl) (by unfold np_rtX; (repeat' split) <;> first | (exfalso; omega) | rfl)
set_option maxRecDepth 20000 in
set_option maxHeartbeats 4000000 in
theorem c_M_node (l : Launch) (D : va_G) {cI : ClassId} {a : Nat → Nat} (ha : np_inj a 7) {Y : np_X} (hY : np_YI Y) (y6 : np_ok (Y 6)) {v n : Nat} (hv : v < 4294967296) (hn : n < 4294967296) : np_M l D cI (np_ad a 7) (6, 140) y_M_node b_M_node 3 (some .int) [.ref (a 0), .int (nI v), .int (nI n)] (np_mw a cI Y) (some (.int (nI (np_ndR Y v n)))) (np_mw a cI (np_ndX Y v n)) := by
  refine np_Ct.of (np_Sm_St _) (by decide) (Nat.le_of_ble_eq_true rfl) ?_
  intro p e s m below meth c C
  refine np_at (vs2 := [some (.ref (a 0)), some (.int (nI v)), some (.int (nI n))]) rfl ?_
  obtain ⟨y0, ys, y1, y2, y3, y4, y5⟩ := hY
  refine np_iload_n (pc := 0) C d_M_node_0 rfl ?_
  refine np_iconst (pc := 1) (v := 4) C d_M_node_1 (by decide) ?_
  refine np_cSi (pc := 2) C (c_M_outside l D (by omega) (by omega)) np_TS_good d_M_node_2 m_339 m_337 m_5 m_338 hd_M_outside (by decide) rfl rfl (Nat.le_of_ble_eq_true rfl) ?_
  refine np_ifz_ne (pc := 5) (tgt := 21) C d_M_node_5 rfl (fun h5 => ?_) (fun h5 => ?_)
  · refine np_iconst (pc := 21) (v := 4294967295) C d_M_node_21 (by decide) ?_
    refine np_goto (pc := 22) (tgt := 35) C d_M_node_22 rfl ?_
    exact np_iret (pc := 35) C d_M_node_35 (by unfold np_ndR; (repeat' split) <;> first | omega | rfl) (by unfold np_ndX; (repeat' split) <;> first | (exfalso; omega) | rfl)
  · refine np_iload_n (pc := 8) C d_M_node_8 rfl ?_
    refine np_bipush (pc := 9) (v := 16) C d_M_node_9 (by decide) ?_
    refine np_iload_n (pc := 11) C d_M_node_11 rfl ?_
    refine np_ishr (pc := 12) C (by omega) (by omega) d_M_node_12 ?_
    refine np_iconst (pc := 13) (v := 1) C d_M_node_13 (by decide) ?_
    refine np_isub (pc := 14) C (by have := np_w_pos (show v ≤ 4 by omega); omega) d_M_node_14 ?_
    have hw1 := np_w_pos (show v ≤ 4 by omega)
    have hw2 := Nat.div_le_self 16 (2 ^ v)
    refine np_cSi (pc := 15) C (c_M_outside l D (by omega) (by omega)) np_TS_good d_M_node_15 m_339 m_337 m_5 m_338 hd_M_outside (by decide) rfl rfl (Nat.le_of_ble_eq_true rfl) ?_
    refine np_ifz_eq (pc := 18) (tgt := 25) C d_M_node_18 rfl (fun h18 => ?_) (fun h18 => ?_)
    · refine np_aload_n (pc := 25) C d_M_node_25 rfl ?_
      refine np_aload_n (pc := 26) C d_M_node_26 rfl ?_
      refine np_get (pc := 27) C 0 0 d_M_node_27 rfl rfl rfl (by decide) hin_M m_304 rfl ?_
      refine np_iload_n (pc := 30) C d_M_node_30 rfl ?_
      refine np_iload_n (pc := 31) C d_M_node_31 rfl ?_
      refine np_cVi (pc := 32) C 0 (c_M_nodeOf l D ha y1 y2 y3 y6 (by omega) (by omega) (by omega)) np_TS_good d_M_node_32 rfl rfl m_391 m_388 m_5 m_390 ms_M_nodeOf hd_M_nodeOf (by decide) rfl rfl (Nat.le_of_ble_eq_true rfl) ?_
      exact np_iret (pc := 35) C d_M_node_35 (by unfold np_ndR; (repeat' split) <;> first | omega | rfl) (by unfold np_ndX; (repeat' split) <;> first | (exfalso; omega) | rfl)
    · refine np_iconst (pc := 21) (v := 4294967295) C d_M_node_21 (by decide) ?_
      refine np_goto (pc := 22) (tgt := 35) C d_M_node_22 rfl ?_
      exact np_iret (pc := 35) C d_M_node_35 (by unfold np_ndR; (repeat' split) <;> first | omega | rfl) (by unfold np_ndX; (repeat' split) <;> first | (exfalso; omega) | rfl)
set_option maxRecDepth 20000 in
set_option maxHeartbeats 4000000 in
theorem c_M_isRecent (l : Launch) (D : va_G) {cI : ClassId} {a : Nat → Nat} (ha : np_inj a 7) {Y : np_X} (hY : np_YI Y) (y6 : np_ok (Y 6)) {x : Nat} (hx : x < 65537) : np_M l D cI (np_ad a 7) (7, 161) y_M_isRecent b_M_isRecent 3 (some .boolean) [.ref (a 0), .int (nI x)] (np_mw a cI Y) (some (.int (nI (if np_hs (np_rrY Y) x 4 = true then 1 else 0)))) (np_mw a cI (np_irX Y x 0 4)) := by
  refine np_Ct.of (np_Sm_St _) (by decide) (Nat.le_of_ble_eq_true rfl) ?_
  intro p e s m below meth c C
  refine np_at (vs2 := [some (.ref (a 0)), some (.int (nI x)), none]) rfl ?_
  obtain ⟨y0, ys, y1, y2, y3, y4, y5⟩ := hY
  have loop : ∀ (n k : Nat) (Z : np_X), k + n = 4 → (∀ j, j ≠ 6 → Z j = Y j) → np_ok (Z 6) → np_hs (np_rrY Y) x k = false → np_irX Z x k n = np_irX Y x 0 4 → np_V p l e (np_rm (7, 161)) s m ([.ref (a 0), .int (nI x)] : List Value).toArray below meth c 0 0 D np_cls (np_ad a 7) (MQ below (np_Qc D np_cls (np_ad a 7) (some (.int (nI (if np_hs (np_rrY Y) x 4 = true then 1 else 0)))) (np_mw a cI (np_irX Y x 0 4))) ([.ref (a 0), .int (nI x)] : List Value).toArray s 0 0 (np_ad a 7)) 3 (np_mw a cI Z) 2 [some (.ref (a 0)), some (.int (nI x)), some (.int (nI k))] [] := by
    intro n
    induction n with
    | zero =>
      intro k Z hk hZ z6 hno he
      obtain rfl : k = 4 := by omega
      refine np_iload_n (pc := 2) C d_M_isRecent_2 rfl ?_
      refine np_iconst (pc := 3) (v := 4) C d_M_isRecent_3 (by decide) ?_
      refine np_icmp_ge (pc := 4) (tgt := 24) C (by omega) (by omega) d_M_isRecent_4 rfl (fun h4 => ?_) (fun h4 => ?_)
      · refine np_iconst (pc := 24) (v := 0) C d_M_isRecent_24 (by decide) ?_
        exact np_zret (pc := 25) C d_M_isRecent_25 (by first | omega | (split <;> omega)) (by rw [if_neg (by simp [hno])]) (by rw [← he]; rfl)
      · exfalso; omega
    | succ n ih =>
      intro k Z hk hZ z6 hno he
      have hb := np_rrY_lt Z k
      have er := np_rrY_eq hZ k
      have hZI : np_YI Z := by
        refine ⟨?_, ?_, ?_, ?_, ?_, ?_, ?_⟩
        · rw [hZ 0 (by decide)]; exact y0
        · rw [hZ 0 (by decide)]; exact ys
        · rw [hZ 1 (by decide)]; exact y1
        · rw [hZ 2 (by decide)]; exact y2
        · rw [hZ 3 (by decide)]; exact y3
        · rw [hZ 4 (by decide)]; exact y4
        · rw [hZ 5 (by decide)]; exact y5
      refine np_iload_n (pc := 2) C d_M_isRecent_2 rfl ?_
      refine np_iconst (pc := 3) (v := 4) C d_M_isRecent_3 (by decide) ?_
      refine np_icmp_ge (pc := 4) (tgt := 24) C (by omega) (by omega) d_M_isRecent_4 rfl (fun h4 => ?_) (fun h4 => ?_)
      · exfalso; omega
      · refine np_aload_n (pc := 7) C d_M_isRecent_7 rfl ?_
        refine np_iload_n (pc := 8) C d_M_isRecent_8 rfl ?_
        refine np_cVi (pc := 9) C 0 (c_M_root l D ha hZI z6 (by omega)) np_TS_good d_M_isRecent_9 rfl rfl m_440 m_437 m_5 m_438 m_439 hd_M_root (by decide) rfl rfl (Nat.le_of_ble_eq_true rfl) ?_
        refine np_iload_n (pc := 12) C d_M_isRecent_12 rfl ?_
        refine np_icmp_ne (pc := 13) (tgt := 18) C (by omega) (by omega) d_M_isRecent_13 rfl (fun h13 => ?_) (fun h13 => ?_)
        · rw [np_irX, if_neg h13] at he
          refine np_iinc (pc := 18) C d_M_isRecent_18 rfl (np_inc1 _) (by decide) rfl ?_
          refine np_goto (pc := 21) (tgt := 2) C d_M_isRecent_21 rfl ?_
          refine np_at (vs2 := [some (.ref (a 0)), some (.int (nI x)), some (.int (nI (k + 1)))]) rfl ?_
          exact ih (k + 1) _ (by omega) (fun j hj => by rw [np_rtX_eq Z k hj]; exact hZ j hj) (np_rtX_ok z6 k) (np_hs_no hno (er ▸ h13)) he
        · rw [np_irX, if_pos h13] at he
          refine np_iconst (pc := 16) (v := 1) C d_M_isRecent_16 (by decide) ?_
          exact np_zret (pc := 17) C d_M_isRecent_17 (by first | omega | (split <;> omega)) (by rw [if_pos (np_hs_up (er ▸ h13) (by omega))]) (by rw [← he])
  refine np_iconst (pc := 0) (v := 0) C d_M_isRecent_0 (by decide) ?_
  refine np_istore_n (pc := 1) C d_M_isRecent_1 (by decide) rfl ?_
  refine np_at (vs2 := [some (.ref (a 0)), some (.int (nI x)), some (.int (nI 0))]) rfl ?_
  exact loop 4 0 Y rfl (fun _ _ => rfl) y6 rfl rfl
set_option maxRecDepth 20000 in
set_option maxHeartbeats 4000000 in
theorem c_M_mark (l : Launch) (D : va_G) {cI : ClassId} {a : Nat → Nat} (ha : np_inj a 7) {Y : np_X} (hY : np_YI Y) (y6 : np_ok (Y 6)) {k : Nat} (hk : k < 4294967296) : np_M l D cI (np_ad a 7) (0, 0) y_M_mark b_M_mark 5 (some .int) [.ref (a 0), .int (nI k)] (np_mw a cI Y) (some (.int (nI (np_mk (Y 4) (Y 0 1) k 0 (Y 0 1))))) (np_mw a cI Y) := by
  refine np_Ct.of (np_Sm_St _) (by decide) (Nat.le_of_ble_eq_true rfl) ?_
  intro p e s m below meth c C
  refine np_at (vs2 := [some (.ref (a 0)), some (.int (nI k)), none, none, none]) rfl ?_
  obtain ⟨y0, ys, y1, y2, y3, y4, y5⟩ := hY
  have loop : ∀ (r m0 : Nat) (z1 z2 : Option Value), m0 + r = Y 0 1 → np_mk (Y 4) (Y 0 1) k m0 r = np_mk (Y 4) (Y 0 1) k 0 (Y 0 1) → np_V p l e (np_rm (0, 0)) s m ([.ref (a 0), .int (nI k)] : List Value).toArray below meth c 0 0 D np_cls (np_ad a 7) (MQ below (np_Qc D np_cls (np_ad a 7) (some (.int (nI (np_mk (Y 4) (Y 0 1) k 0 (Y 0 1))))) (np_mw a cI Y)) ([.ref (a 0), .int (nI k)] : List Value).toArray s 0 0 (np_ad a 7)) 5 (np_mw a cI Y) 2 [some (.ref (a 0)), some (.int (nI k)), some (.int (nI m0)), z1, z2] [] := by
    intro r
    induction r with
    | zero =>
      intro m0 z1 z2 hm he
      obtain rfl : m0 = Y 0 1 := by omega
      refine np_iload_n (pc := 2) C d_M_mark_2 rfl ?_
      refine np_aload_n (pc := 3) C d_M_mark_3 rfl ?_
      refine np_get (pc := 4) C 0 4 d_M_mark_4 rfl rfl rfl (by decide) hin_M m_308 rfl ?_
      refine np_icmp_ge (pc := 7) (tgt := 72) C (by omega) (by omega) d_M_mark_7 rfl (fun h7 => ?_) (fun h7 => ?_)
      · refine np_iconst (pc := 72) (v := 4294967295) C d_M_mark_72 (by decide) ?_
        exact np_iret (pc := 73) C d_M_mark_73 (by rw [← he]; rfl) (by rfl)
      · exfalso; omega
    | succ r ih =>
      intro m0 z1 z2 hm he
      have hb := y4 m0
      have hcb := np_cn_bd (Y 4) (Y 4 m0) (Y 0 1)
      have inn : ∀ (u q : Nat), q + u = Y 0 1 → np_V p l e (np_rm (0, 0)) s m ([.ref (a 0), .int (nI k)] : List Value).toArray below meth c 0 0 D np_cls (np_ad a 7) (MQ below (np_Qc D np_cls (np_ad a 7) (some (.int (nI (np_mk (Y 4) (Y 0 1) k 0 (Y 0 1))))) (np_mw a cI Y)) ([.ref (a 0), .int (nI k)] : List Value).toArray s 0 0 (np_ad a 7)) 5 (np_mw a cI Y) 15 [some (.ref (a 0)), some (.int (nI k)), some (.int (nI m0)), some (.int (nI (np_cn (Y 4) (Y 4 m0) q))), some (.int (nI q))] [] := by
        intro u
        induction u with
        | zero =>
          intro q hq
          obtain rfl : q = Y 0 1 := by omega
          refine np_iload (pc := 15) C d_M_mark_15 rfl ?_
          refine np_aload_n (pc := 17) C d_M_mark_17 rfl ?_
          refine np_get (pc := 18) C 0 4 d_M_mark_18 rfl rfl rfl (by decide) hin_M m_308 rfl ?_
          refine np_icmp_ge (pc := 21) (tgt := 54) C (by omega) (by omega) d_M_mark_21 rfl (fun h21 => ?_) (fun h21 => ?_)
          · refine np_iload_n (pc := 54) C d_M_mark_54 rfl ?_
            refine np_iload_n (pc := 55) C d_M_mark_55 rfl ?_
            refine np_icmp_ne (pc := 56) (tgt := 66) C (by omega) (by omega) d_M_mark_56 rfl (fun h56 => ?_) (fun h56 => ?_)
            · rw [np_mk, if_neg h56] at he
              refine np_iinc (pc := 66) C d_M_mark_66 rfl (np_inc1 _) (by decide) rfl ?_
              refine np_goto (pc := 69) (tgt := 2) C d_M_mark_69 rfl ?_
              refine np_at (vs2 := [some (.ref (a 0)), some (.int (nI k)), some (.int (nI (m0 + 1))), some (.int (nI (np_cn (Y 4) (Y 4 m0) (Y 0 1)))), some (.int (nI (Y 0 1)))]) rfl ?_
              exact ih (m0 + 1) _ _ (by omega) he
            · rw [np_mk, if_pos h56] at he
              refine np_aload_n (pc := 59) C d_M_mark_59 rfl ?_
              refine np_get (pc := 60) C 0 5 d_M_mark_60 rfl rfl rfl (by decide) hin_M m_309 rfl ?_
              refine np_iload_n (pc := 63) C d_M_mark_63 rfl ?_
              refine np_iald (pc := 64) C 4 d_M_mark_64 rfl (by omega) (by decide) ?_
              exact np_iret (pc := 65) C d_M_mark_65 (by exact he) (by rfl)
          · exfalso; omega
        | succ u ih2 =>
          intro q hq
          have hb2 := y4 q
          refine np_iload (pc := 15) C d_M_mark_15 rfl ?_
          refine np_aload_n (pc := 17) C d_M_mark_17 rfl ?_
          refine np_get (pc := 18) C 0 4 d_M_mark_18 rfl rfl rfl (by decide) hin_M m_308 rfl ?_
          refine np_icmp_ge (pc := 21) (tgt := 54) C (by omega) (by omega) d_M_mark_21 rfl (fun h21 => ?_) (fun h21 => ?_)
          · exfalso; omega
          · refine np_aload_n (pc := 24) C d_M_mark_24 rfl ?_
            refine np_get (pc := 25) C 0 5 d_M_mark_25 rfl rfl rfl (by decide) hin_M m_309 rfl ?_
            refine np_iload (pc := 28) C d_M_mark_28 rfl ?_
            refine np_iald (pc := 30) C 4 d_M_mark_30 rfl (by omega) (by decide) ?_
            refine np_aload_n (pc := 31) C d_M_mark_31 rfl ?_
            refine np_get (pc := 32) C 0 5 d_M_mark_32 rfl rfl rfl (by decide) hin_M m_309 rfl ?_
            refine np_iload_n (pc := 35) C d_M_mark_35 rfl ?_
            refine np_iald (pc := 36) C 4 d_M_mark_36 rfl (by omega) (by decide) ?_
            refine np_icmp_ge (pc := 37) (tgt := 46) C (by omega) (by omega) d_M_mark_37 rfl (fun h37 => ?_) (fun h37 => ?_)
            · have e : np_cn (Y 4) (Y 4 m0) (q + 1) = np_cn (Y 4) (Y 4 m0) q := by rw [np_cn, if_neg (by omega)]; rfl
              refine np_iload_n (pc := 46) C d_M_mark_46 rfl ?_
              refine np_istore_n (pc := 47) C d_M_mark_47 (by decide) rfl ?_
              refine np_iinc (pc := 48) C d_M_mark_48 rfl (np_inc1 _) (by decide) rfl ?_
              refine np_goto (pc := 51) (tgt := 15) C d_M_mark_51 rfl ?_
              refine np_at (vs2 := [some (.ref (a 0)), some (.int (nI k)), some (.int (nI m0)), some (.int (nI (np_cn (Y 4) (Y 4 m0) (q + 1)))), some (.int (nI (q + 1)))]) (by rw [e]; rfl) ?_
              exact ih2 (q + 1) (by omega)
            · have e : np_cn (Y 4) (Y 4 m0) (q + 1) = np_cn (Y 4) (Y 4 m0) q + 1 := by rw [np_cn, if_pos (by omega)]
              refine np_iload_n (pc := 40) C d_M_mark_40 rfl ?_
              refine np_iconst (pc := 41) (v := 1) C d_M_mark_41 (by decide) ?_
              refine np_iadd (pc := 42) C d_M_mark_42 ?_
              refine np_goto (pc := 43) (tgt := 47) C d_M_mark_43 rfl ?_
              refine np_istore_n (pc := 47) C d_M_mark_47 (by decide) rfl ?_
              refine np_iinc (pc := 48) C d_M_mark_48 rfl (np_inc1 _) (by decide) rfl ?_
              refine np_goto (pc := 51) (tgt := 15) C d_M_mark_51 rfl ?_
              refine np_at (vs2 := [some (.ref (a 0)), some (.int (nI k)), some (.int (nI m0)), some (.int (nI (np_cn (Y 4) (Y 4 m0) (q + 1)))), some (.int (nI (q + 1)))]) (by rw [e]; rfl) ?_
              exact ih2 (q + 1) (by omega)
      refine np_iload_n (pc := 2) C d_M_mark_2 rfl ?_
      refine np_aload_n (pc := 3) C d_M_mark_3 rfl ?_
      refine np_get (pc := 4) C 0 4 d_M_mark_4 rfl rfl rfl (by decide) hin_M m_308 rfl ?_
      refine np_icmp_ge (pc := 7) (tgt := 72) C (by omega) (by omega) d_M_mark_7 rfl (fun h7 => ?_) (fun h7 => ?_)
      · exfalso; omega
      · refine np_iconst (pc := 10) (v := 0) C d_M_mark_10 (by decide) ?_
        refine np_istore_n (pc := 11) C d_M_mark_11 (by decide) rfl ?_
        refine np_iconst (pc := 12) (v := 0) C d_M_mark_12 (by decide) ?_
        refine np_istore (pc := 13) C d_M_mark_13 (by decide) rfl ?_
        refine np_at (vs2 := [some (.ref (a 0)), some (.int (nI k)), some (.int (nI m0)), some (.int (nI (np_cn (Y 4) (Y 4 m0) 0))), some (.int (nI 0))]) rfl ?_
        exact inn (Y 0 1) 0 (by omega)
  refine np_iconst (pc := 0) (v := 0) C d_M_mark_0 (by decide) ?_
  refine np_istore_n (pc := 1) C d_M_mark_1 (by decide) rfl ?_
  refine np_at (vs2 := [some (.ref (a 0)), some (.int (nI k)), some (.int (nI 0)), none, none]) rfl ?_
  exact loop (Y 0 1) 0 none none (by omega) rfl
