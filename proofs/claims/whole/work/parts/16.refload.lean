def np_tail (f : Nat → Nat) : Nat → Nat := np_cp (np_cp (np_cp (np_fil (np_fil (np_fil f 7 0 9) 8 0 9) 9 0 9) 1 97) 2 106) 3 124
def np_cp3 (h : Nat → Nat) : Nat → Nat := np_cp (np_cp (np_cp h 1 97) 2 106) 3 124
theorem np_tail_cp3 (f : Nat → Nat) : np_tail f = np_cp3 (np_fil (np_fil (np_fil f 7 0 9) 8 0 9) 9 0 9) := rfl
theorem np_ok_cp3 {h : Nat → Nat} (hh : ∀ i j, ∀ g : Nat → Nat, (∀ x, g x < 65537) → (∀ x, np_cp g i j x < 65537)) (k : ∀ x, h x < 65537) : ∀ x, np_cp3 h x < 65537 := hh _ _ _ (hh _ _ _ (hh _ _ _ k))
def np_lstp (s t : Nat → Nat) (v : Nat) (f : Nat → Nat) : Nat → Nat := np_fil (np_lm3 v (np_lm2 v (np_lm1 s t v f))) (3 + v) 0 9
def np_lvr (s t : Nat → Nat) : (Nat → Nat) → Nat → Nat → (Nat → Nat)
  | f, _, 0 => f
  | f, v, r + 1 => np_lvr s t (np_lstp s t v f) (v + 1) r
def np_wst (G W : Nat → Nat) (v : Nat) : Nat → Nat := np_w3 (np_w1 G W 16) v
def np_wvr (G : Nat → Nat) : (Nat → Nat) → Nat → Nat → (Nat → Nat)
  | W, _, 0 => W
  | W, v, r + 1 => np_wvr G (np_wst G W v) (v + 1) r
theorem np_lvr_eq (s t g : Nat → Nat) : np_lvm s t g 4 = np_lvr s t g 0 4 := by
  simp only [np_lvm, np_lvr, np_lstp]
theorem np_wvr_eq (G W : Nat → Nat) : np_wv G W 4 = np_wvr G W 0 4 := by
  simp only [np_wv, np_wvr, np_wst]
theorem np_ldFY_eq (Y : np_X) (q y am wd nn : Nat) : np_ldFY Y q y am wd nn = np_tail (np_lvr (np_sv (np_G Y) q) (np_tv q) (np_ld2 Y q y am wd nn) 0 4) := by
  unfold np_ldFY np_ld4 np_ld3 np_tail
  rw [np_lvr_eq]
theorem np_ok_lstp {s t f : Nat → Nat} {v : Nat} (hf : np_ok f) (hs : s v < 65537) (ht : t v < 65537) : np_ok (np_lstp s t v f) := np_ok_fil _ _ _ _ (np_ok_lm3 (np_ok_lm2 (np_ok_lm1 hf hs ht)))
theorem np_ok_tail {f : Nat → Nat} (hf : np_ok f) : np_ok (np_tail f) := np_ok_cp (np_ok_cp (np_ok_cp (np_ok_fil _ _ _ _ (np_ok_fil _ _ _ _ (np_ok_fil _ _ _ _ hf))) _ _) _ _) _ _
theorem np_ldXY_go (Y : np_X) {q y am wd nn : Nat} (cq : q < Y 0 0) (cy : y < 4) (co : np_own (Y 1 q) < 4) (ca : am < 256) (cw : wd < 256) (cn : nn < 65537) : np_ldXY Y q y am wd nn = va_up (va_up Y 6 (np_wvr (np_G Y) (Y 6) 0 4)) 5 (np_tail (np_lvr (np_sv (np_G Y) q) (np_tv q) (np_ld2 Y q y am wd nn) 0 4)) := by
  unfold np_ldXY
  rw [if_pos ⟨cq, cy⟩, if_neg (by omega), if_pos ⟨ca, cw, cn⟩, np_ldFY_eq, np_wvr_eq]
theorem np_ldRY_go (Y : np_X) {q y am wd nn : Nat} (cq : q < Y 0 0) (cy : y < 4) (co : np_own (Y 1 q) < 4) (ca : am < 256) (cw : wd < 256) (cn : nn < 65537) : np_ldRY Y q y am wd nn = if np_flt (np_tail (np_lvr (np_sv (np_G Y) q) (np_tv q) (np_ld2 Y q y am wd nn) 0 4)) 0 115 = 4294967295 then 1 else 0 := by
  unfold np_ldRY
  rw [if_pos ⟨cq, cy⟩, if_neg (by omega), if_pos ⟨ca, cw, cn⟩, np_ldFY_eq]
set_option maxRecDepth 20000 in
set_option maxHeartbeats 4000000 in
theorem c_M_load (l : Launch) (D : va_G) {cI : ClassId} {a : Nat → Nat} (ha : np_inj a 7) {Y : np_X} (hY : np_YI Y) (y6 : np_ok (Y 6)) {q y am wd nn : Nat} (hq : q < 4294967296) (hy : y < 4294967296) (ham : am < 4294967296) (hwd : wd < 4294967296) (hnn : nn < 4294967296) : np_M l D cI (np_ad a 7) (6, 144) y_M_load b_M_load 9 (some .int) [.ref (a 0), .int (nI q), .int (nI y), .int (nI am), .int (nI wd), .int (nI nn)] (np_mw a cI Y) (some (.int (nI (np_ldRY Y q y am wd nn)))) (np_mw a cI (np_ldXY Y q y am wd nn)) := by
  refine np_Ct.of (np_Sm_St _) (by decide) (Nat.le_of_ble_eq_true rfl) ?_
  intro p e s m below meth c C
  refine np_at (vs2 := [some (.ref (a 0)), some (.int (nI q)), some (.int (nI y)), some (.int (nI am)), some (.int (nI wd)), some (.int (nI nn)), none, none, none]) rfl ?_
  obtain ⟨y0, ys, y1, y2, y3, y4, y5⟩ := hY
  have cps : ∀ (W h : Nat → Nat) (z1 z2 : Option Value), np_ok h → np_ldXY Y q y am wd nn = va_up (va_up Y 6 W) 5 (np_cp3 h) → np_ldRY Y q y am wd nn = (if np_flt (np_cp3 h) 0 115 = 4294967295 then 1 else 0) → np_V p l e (np_rm (6, 144)) s m ([.ref (a 0), .int (nI q), .int (nI y), .int (nI am), .int (nI wd), .int (nI nn)] : List Value).toArray below meth c 0 0 D np_cls (np_ad a 7) (MQ below (np_Qc D np_cls (np_ad a 7) (some (.int (nI (np_ldRY Y q y am wd nn)))) (np_mw a cI (np_ldXY Y q y am wd nn))) ([.ref (a 0), .int (nI q), .int (nI y), .int (nI am), .int (nI wd), .int (nI nn)] : List Value).toArray s 0 0 (np_ad a 7)) 9 (np_mw a cI (va_up (va_up Y 6 W) 5 h)) 325 [some (.ref (a 0)), some (.int (nI q)), some (.int (nI y)), some (.int (nI am)), some (.int (nI wd)), some (.int (nI nn)), some (.int (nI (np_own (Y 1 q)))), z1, z2] [] := by
    intro W h z1 z2 kf hX hR
    rw [hX, hR]
    clear hX hR
    refine np_aload_n (pc := 325) C d_M_load_325 rfl ?_
    refine np_get (pc := 326) C 0 7 d_M_load_326 rfl rfl rfl (by decide) hin_M m_311 rfl ?_
    refine np_iconst (pc := 329) (v := 1) C d_M_load_329 (by decide) ?_
    refine np_aload_n (pc := 330) C d_M_load_330 rfl ?_
    refine np_get (pc := 331) C 0 7 d_M_load_331 rfl rfl rfl (by decide) hin_M m_311 rfl ?_
    refine np_bipush (pc := 334) (v := 97) C d_M_load_334 (by decide) ?_
    refine np_iald (pc := 336) C 5 d_M_load_336 rfl (by omega) (by decide) ?_
    refine np_iastG (pc := 337) C (np_mw a cI) _ 5 5 (np_mD ha _) d_M_load_337 rfl (us_5 a cI _) (by omega) (by decide) ?_
    refine np_atw (w2 := (np_mw a cI (va_up (va_up Y 6 W) 5 (np_cp h 1 97)))) rfl ?_
    obtain ⟨h1, e1⟩ : ∃ h1, h1 = np_cp h 1 97 := ⟨_, rfl⟩
    rw [← e1]
    refine np_aload_n (pc := 338) C d_M_load_338 rfl ?_
    refine np_get (pc := 339) C 0 7 d_M_load_339 rfl rfl rfl (by decide) hin_M m_311 rfl ?_
    refine np_iconst (pc := 342) (v := 2) C d_M_load_342 (by decide) ?_
    refine np_aload_n (pc := 343) C d_M_load_343 rfl ?_
    refine np_get (pc := 344) C 0 7 d_M_load_344 rfl rfl rfl (by decide) hin_M m_311 rfl ?_
    refine np_bipush (pc := 347) (v := 106) C d_M_load_347 (by decide) ?_
    refine np_iald (pc := 349) C 5 d_M_load_349 rfl (by omega) (by decide) ?_
    refine np_iastG (pc := 350) C (np_mw a cI) _ 5 5 (np_mD ha _) d_M_load_350 rfl (us_5 a cI _) (by omega) (by decide) ?_
    refine np_atw (w2 := (np_mw a cI (va_up (va_up Y 6 W) 5 (np_cp h1 2 106)))) rfl ?_
    obtain ⟨h2, e2⟩ : ∃ h2, h2 = np_cp h1 2 106 := ⟨_, rfl⟩
    rw [← e2]
    refine np_aload_n (pc := 351) C d_M_load_351 rfl ?_
    refine np_get (pc := 352) C 0 7 d_M_load_352 rfl rfl rfl (by decide) hin_M m_311 rfl ?_
    refine np_iconst (pc := 355) (v := 3) C d_M_load_355 (by decide) ?_
    refine np_aload_n (pc := 356) C d_M_load_356 rfl ?_
    refine np_get (pc := 357) C 0 7 d_M_load_357 rfl rfl rfl (by decide) hin_M m_311 rfl ?_
    refine np_bipush (pc := 360) (v := 124) C d_M_load_360 (by decide) ?_
    refine np_iald (pc := 362) C 5 d_M_load_362 rfl (by omega) (by decide) ?_
    refine np_iastG (pc := 363) C (np_mw a cI) _ 5 5 (np_mD ha _) d_M_load_363 rfl (us_5 a cI _) (by omega) (by decide) ?_
    refine np_atw (w2 := (np_mw a cI (va_up (va_up Y 6 W) 5 (np_cp h2 3 124)))) rfl ?_
    have e3 : np_cp h2 3 124 = np_cp3 h := by rw [e2, e1]; rfl
    rw [e3]
    refine np_aload_n (pc := 364) C d_M_load_364 rfl ?_
    refine np_cVi (pc := 365) C 0 (c_M_fault l D ha (Y := va_up (va_up Y 6 W) 5 (np_cp3 h)) (np_ok_cp (np_ok_cp (np_ok_cp kf _ _) _ _) _ _)) np_TS_good d_M_load_365 rfl rfl m_403 m_400 m_5 m_401 m_402 hd_M_fault (by decide) rfl rfl (Nat.le_of_ble_eq_true rfl) ?_
    refine np_atst (st2 := [.int (nI (np_flt (np_cp3 h) 0 115))]) rfl ?_
    have hb := np_flt_lt (np_cp3 h) 115 0 rfl
    generalize np_flt (np_cp3 h) 0 115 = N at hb ⊢
    refine np_iconst (pc := 368) (v := 4294967295) C d_M_load_368 (by decide) ?_
    refine np_icmp_ne (pc := 369) (tgt := 376) C (by omega) (by omega) d_M_load_369 rfl (fun h369 => ?_) (fun h369 => ?_)
    · refine np_iconst (pc := 376) (v := 0) C d_M_load_376 (by decide) ?_
      exact np_iret (pc := 377) C d_M_load_377 (by rw [if_neg h369]) (by rfl)
    · refine np_iconst (pc := 372) (v := 1) C d_M_load_372 (by decide) ?_
      refine np_goto (pc := 373) (tgt := 377) C d_M_load_373 rfl ?_
      exact np_iret (pc := 377) C d_M_load_377 (by rw [if_pos h369]) (by rfl)
  have fin : ∀ (W f : Nat → Nat) (z1 z2 : Option Value), np_ok f → np_ldXY Y q y am wd nn = va_up (va_up Y 6 W) 5 (np_tail f) → np_ldRY Y q y am wd nn = (if np_flt (np_tail f) 0 115 = 4294967295 then 1 else 0) → np_V p l e (np_rm (6, 144)) s m ([.ref (a 0), .int (nI q), .int (nI y), .int (nI am), .int (nI wd), .int (nI nn)] : List Value).toArray below meth c 0 0 D np_cls (np_ad a 7) (MQ below (np_Qc D np_cls (np_ad a 7) (some (.int (nI (np_ldRY Y q y am wd nn)))) (np_mw a cI (np_ldXY Y q y am wd nn))) ([.ref (a 0), .int (nI q), .int (nI y), .int (nI am), .int (nI wd), .int (nI nn)] : List Value).toArray s 0 0 (np_ad a 7)) 9 (np_mw a cI (va_up (va_up Y 6 W) 5 f)) 307 [some (.ref (a 0)), some (.int (nI q)), some (.int (nI y)), some (.int (nI am)), some (.int (nI wd)), some (.int (nI nn)), some (.int (nI (np_own (Y 1 q)))), z1, z2] [] := by
    intro W f z1 z2 kf hX hR
    rw [np_tail_cp3] at hX hR
    refine np_aload_n (pc := 307) C d_M_load_307 rfl ?_
    refine np_bipush (pc := 308) (v := 7) C d_M_load_308 (by decide) ?_
    refine np_cVv (pc := 310) C 0 (c_M_fill l D ha (Y := va_up (va_up Y 6 W) 5 f) (by omega) kf) np_TS_good d_M_load_310 rfl rfl m_379 m_376 m_5 m_378 ms_M_fill hd_M_fill (by decide) rfl rfl (Nat.le_of_ble_eq_true rfl) ?_
    refine np_atw (w2 := (np_mw a cI (va_up (va_up Y 6 W) 5 (np_fil f 7 0 9)))) rfl ?_
    refine np_aload_n (pc := 313) C d_M_load_313 rfl ?_
    refine np_bipush (pc := 314) (v := 8) C d_M_load_314 (by decide) ?_
    refine np_cVv (pc := 316) C 0 (c_M_fill l D ha (Y := va_up (va_up Y 6 W) 5 (np_fil f 7 0 9)) (by omega) (np_ok_fil _ _ _ _ kf)) np_TS_good d_M_load_316 rfl rfl m_379 m_376 m_5 m_378 ms_M_fill hd_M_fill (by decide) rfl rfl (Nat.le_of_ble_eq_true rfl) ?_
    refine np_atw (w2 := (np_mw a cI (va_up (va_up Y 6 W) 5 (np_fil (np_fil f 7 0 9) 8 0 9)))) rfl ?_
    refine np_aload_n (pc := 319) C d_M_load_319 rfl ?_
    refine np_bipush (pc := 320) (v := 9) C d_M_load_320 (by decide) ?_
    refine np_cVv (pc := 322) C 0 (c_M_fill l D ha (Y := va_up (va_up Y 6 W) 5 (np_fil (np_fil f 7 0 9) 8 0 9)) (by omega) (np_ok_fil _ _ _ _ (np_ok_fil _ _ _ _ kf))) np_TS_good d_M_load_322 rfl rfl m_379 m_376 m_5 m_378 ms_M_fill hd_M_fill (by decide) rfl rfl (Nat.le_of_ble_eq_true rfl) ?_
    refine np_atw (w2 := (np_mw a cI (va_up (va_up Y 6 W) 5 (np_fil (np_fil (np_fil f 7 0 9) 8 0 9) 9 0 9)))) rfl ?_
    exact cps W _ z1 z2 (np_ok_fil _ _ _ _ (np_ok_fil _ _ _ _ (np_ok_fil _ _ _ _ kf))) hX hR
  have stp : ∀ (v : Nat) (W f : Nat → Nat) (z : Option Value), v < 4 → q < 16 → np_ok W → np_ok f → (∀ W2 f2 : Nat → Nat, W2 = np_wst (np_G Y) W v → f2 = np_lstp (np_sv (np_G Y) q) (np_tv q) v f → np_V p l e (np_rm (6, 144)) s m ([.ref (a 0), .int (nI q), .int (nI y), .int (nI am), .int (nI wd), .int (nI nn)] : List Value).toArray below meth c 0 0 D np_cls (np_ad a 7) (MQ below (np_Qc D np_cls (np_ad a 7) (some (.int (nI (np_ldRY Y q y am wd nn)))) (np_mw a cI (np_ldXY Y q y am wd nn))) ([.ref (a 0), .int (nI q), .int (nI y), .int (nI am), .int (nI wd), .int (nI nn)] : List Value).toArray s 0 0 (np_ad a 7)) 9 (np_mw a cI (va_up (va_up Y 6 W2) 5 f2)) 195 [some (.ref (a 0)), some (.int (nI q)), some (.int (nI y)), some (.int (nI am)), some (.int (nI wd)), some (.int (nI nn)), some (.int (nI (np_own (Y 1 q)))), some (.int (nI (v + 1))), some (.int (nI (q / 2 ^ v)))] []) → np_V p l e (np_rm (6, 144)) s m ([.ref (a 0), .int (nI q), .int (nI y), .int (nI am), .int (nI wd), .int (nI nn)] : List Value).toArray below meth c 0 0 D np_cls (np_ad a 7) (MQ below (np_Qc D np_cls (np_ad a 7) (some (.int (nI (np_ldRY Y q y am wd nn)))) (np_mw a cI (np_ldXY Y q y am wd nn))) ([.ref (a 0), .int (nI q), .int (nI y), .int (nI am), .int (nI wd), .int (nI nn)] : List Value).toArray s 0 0 (np_ad a 7)) 9 (np_mw a cI (va_up (va_up Y 6 W) 5 f)) 195 [some (.ref (a 0)), some (.int (nI q)), some (.int (nI y)), some (.int (nI am)), some (.int (nI wd)), some (.int (nI nn)), some (.int (nI (np_own (Y 1 q)))), some (.int (nI v)), z] [] := by
    intro v W f z hv hq16 kw kf kk
    have hdv := Nat.div_le_self q (2 ^ v)
    have m1 := np_ok_lm1 (v := v) kf (np_sv_lt (np_ok_G Y) q v) (np_tv_lt q v)
    refine np_iload (pc := 195) C d_M_load_195 rfl ?_
    refine np_iconst (pc := 197) (v := 4) C d_M_load_197 (by decide) ?_
    refine np_icmp_ge (pc := 198) (tgt := 307) C (by omega) (by omega) d_M_load_198 rfl (fun h198 => ?_) (fun h198 => ?_)
    · exfalso; omega
    · refine np_iload_n (pc := 201) C d_M_load_201 rfl ?_
      refine np_iload (pc := 202) C d_M_load_202 rfl ?_
      refine np_ishr (pc := 204) C (by omega) (by omega) d_M_load_204 ?_
      refine np_istore (pc := 205) C d_M_load_205 (by decide) rfl ?_
      refine np_aload_n (pc := 207) C d_M_load_207 rfl ?_
      refine np_get (pc := 208) C 0 7 d_M_load_208 rfl rfl rfl (by decide) hin_M m_311 rfl ?_
      refine np_bipush (pc := 211) (v := 11) C d_M_load_211 (by decide) ?_
      refine np_iload (pc := 213) C d_M_load_213 rfl ?_
      refine np_iadd (pc := 215) C d_M_load_215 ?_
      refine np_aload_n (pc := 216) C d_M_load_216 rfl ?_
      refine np_aload_n (pc := 217) C d_M_load_217 rfl ?_
      refine np_get (pc := 218) C 0 0 d_M_load_218 rfl rfl rfl (by decide) hin_M m_304 rfl ?_
      refine np_top (y := Y 0 0) rfl ?_
      refine np_iload (pc := 221) C d_M_load_221 rfl ?_
      refine np_iload (pc := 223) C d_M_load_223 rfl ?_
      refine np_iconst (pc := 225) (v := 2) C d_M_load_225 (by decide) ?_
      refine np_irem (pc := 226) C (by omega) (by omega) (by omega) d_M_load_226 ?_
      refine np_if_ne (pc := 227) (tgt := 237) C (by omega) d_M_load_227 rfl (fun h227 => ?_) (fun h227 => ?_)
      · refine np_iload (pc := 237) C d_M_load_237 rfl ?_
        refine np_iconst (pc := 239) (v := 1) C d_M_load_239 (by decide) ?_
        refine np_isub (pc := 240) C (by exact Nat.pos_of_ne_zero (fun z => h227 (by rw [z]))) d_M_load_240 ?_
        refine np_cVi (pc := 241) C 0 (c_M_nodeOf l D ha (Y := va_up (va_up Y 6 W) 5 f) y1 y2 y3 kw y0 (by omega) (np_sib_o hq16 hv h227)) np_TS_good d_M_load_241 rfl rfl m_391 m_388 m_5 m_390 ms_M_nodeOf hd_M_nodeOf (by decide) rfl rfl (Nat.le_of_ble_eq_true rfl) ?_
        refine np_atw (w2 := (np_mw a cI (va_up (va_up Y 6 (np_wst (np_G Y) W v)) 5 f))) rfl ?_
        have es : np_tr (np_lv (Y 1) (Y 2) (Y 3) (Y 0 0)) v (q / 2 ^ v - 1) = np_sv (np_G Y) q v := by unfold np_sv np_G; rw [if_neg h227]
        refine np_top (y := np_sv (np_G Y) q v) (by rw [← es]; rfl) ?_
        obtain ⟨W2, eW⟩ : ∃ W2, W2 = np_wst (np_G Y) W v := ⟨_, rfl⟩
        rw [← eW]
        refine np_iastG (pc := 244) C (np_mw a cI) _ 5 5 (np_mD ha _) d_M_load_244 rfl (us_5 a cI _) (by omega) (by decide) ?_
        refine np_aload_n (pc := 245) C d_M_load_245 rfl ?_
        refine np_get (pc := 246) C 0 7 d_M_load_246 rfl rfl rfl (by decide) hin_M m_311 rfl ?_
        refine np_bipush (pc := 249) (v := 15) C d_M_load_249 (by decide) ?_
        refine np_iload (pc := 251) C d_M_load_251 rfl ?_
        refine np_iadd (pc := 253) C d_M_load_253 ?_
        refine np_iload (pc := 254) C d_M_load_254 rfl ?_
        refine np_iconst (pc := 256) (v := 2) C d_M_load_256 (by decide) ?_
        refine np_irem (pc := 257) C (by omega) (by omega) (by omega) d_M_load_257 ?_
        refine np_iastG (pc := 258) C (np_mw a cI) _ 5 5 (np_mD ha _) d_M_load_258 rfl (us_5 a cI _) (by omega) (by decide) ?_
        refine np_atw (w2 := (np_mw a cI (va_up (va_up Y 6 W2) 5 (np_lm1 (np_sv (np_G Y) q) (np_tv q) v f)))) rfl ?_
        refine np_aload_n (pc := 259) C d_M_load_259 rfl ?_
        refine np_get (pc := 260) C 0 7 d_M_load_260 rfl rfl rfl (by decide) hin_M m_311 rfl ?_
        refine np_bipush (pc := 263) (v := 19) C d_M_load_263 (by decide) ?_
        refine np_iload (pc := 265) C d_M_load_265 rfl ?_
        refine np_iadd (pc := 267) C d_M_load_267 ?_
        refine np_aload_n (pc := 268) C d_M_load_268 rfl ?_
        refine np_iload (pc := 269) C d_M_load_269 rfl ?_
        refine np_iconst (pc := 271) (v := 1) C d_M_load_271 (by decide) ?_
        refine np_cVi (pc := 272) C 0 (c_M_turned_1 l D ha (Y := va_up (va_up Y 6 W2) 5 (np_lm1 (np_sv (np_G Y) q) (np_tv q) v f)) (by omega) m1) np_TS_good d_M_load_272 rfl rfl m_399 m_396 m_5 m_398 ms_M_turned hd_M_turned (by decide) rfl rfl (Nat.le_of_ble_eq_true rfl) ?_
        refine np_iastG (pc := 275) C (np_mw a cI) _ 5 5 (np_mD ha _) d_M_load_275 rfl (us_5 a cI _) (by omega) (by decide) ?_
        refine np_atw (w2 := (np_mw a cI (va_up (va_up Y 6 W2) 5 (np_lm2 v (np_lm1 (np_sv (np_G Y) q) (np_tv q) v f))))) rfl ?_
        refine np_aload_n (pc := 276) C d_M_load_276 rfl ?_
        refine np_get (pc := 277) C 0 7 d_M_load_277 rfl rfl rfl (by decide) hin_M m_311 rfl ?_
        refine np_bipush (pc := 280) (v := 23) C d_M_load_280 (by decide) ?_
        refine np_iload (pc := 282) C d_M_load_282 rfl ?_
        refine np_iadd (pc := 284) C d_M_load_284 ?_
        refine np_aload_n (pc := 285) C d_M_load_285 rfl ?_
        refine np_iload (pc := 286) C d_M_load_286 rfl ?_
        refine np_iconst (pc := 288) (v := 0) C d_M_load_288 (by decide) ?_
        refine np_cVi (pc := 289) C 0 (c_M_turned_0 l D ha (Y := va_up (va_up Y 6 W2) 5 (np_lm2 v (np_lm1 (np_sv (np_G Y) q) (np_tv q) v f))) (by omega) (np_ok_lm2 m1)) np_TS_good d_M_load_289 rfl rfl m_399 m_396 m_5 m_398 ms_M_turned hd_M_turned (by decide) rfl rfl (Nat.le_of_ble_eq_true rfl) ?_
        refine np_iastG (pc := 292) C (np_mw a cI) _ 5 5 (np_mD ha _) d_M_load_292 rfl (us_5 a cI _) (by omega) (by decide) ?_
        refine np_atw (w2 := (np_mw a cI (va_up (va_up Y 6 W2) 5 (np_lm3 v (np_lm2 v (np_lm1 (np_sv (np_G Y) q) (np_tv q) v f)))))) rfl ?_
        refine np_aload_n (pc := 293) C d_M_load_293 rfl ?_
        refine np_iconst (pc := 294) (v := 3) C d_M_load_294 (by decide) ?_
        refine np_iload (pc := 295) C d_M_load_295 rfl ?_
        refine np_iadd (pc := 297) C d_M_load_297 ?_
        refine np_cVv (pc := 298) C 0 (c_M_fill l D ha (Y := va_up (va_up Y 6 W2) 5 (np_lm3 v (np_lm2 v (np_lm1 (np_sv (np_G Y) q) (np_tv q) v f)))) (by omega) (np_ok_lm3 (np_ok_lm2 m1))) np_TS_good d_M_load_298 rfl rfl m_379 m_376 m_5 m_378 ms_M_fill hd_M_fill (by decide) rfl rfl (Nat.le_of_ble_eq_true rfl) ?_
        refine np_iinc (pc := 301) C d_M_load_301 rfl (np_inc1 _) (by decide) rfl ?_
        refine np_goto (pc := 304) (tgt := 195) C d_M_load_304 rfl ?_
        refine np_at (vs2 := [some (.ref (a 0)), some (.int (nI q)), some (.int (nI y)), some (.int (nI am)), some (.int (nI wd)), some (.int (nI nn)), some (.int (nI (np_own (Y 1 q)))), some (.int (nI (v + 1))), some (.int (nI (q / 2 ^ v)))]) rfl ?_
        refine np_atw (w2 := (np_mw a cI (va_up (va_up Y 6 W2) 5 (np_lstp (np_sv (np_G Y) q) (np_tv q) v f)))) rfl ?_
        exact kk W2 _ eW rfl
      · refine np_iload (pc := 230) C d_M_load_230 rfl ?_
        refine np_iconst (pc := 232) (v := 1) C d_M_load_232 (by decide) ?_
        refine np_iadd (pc := 233) C d_M_load_233 ?_
        refine np_goto (pc := 234) (tgt := 241) C d_M_load_234 rfl ?_
        refine np_cVi (pc := 241) C 0 (c_M_nodeOf l D ha (Y := va_up (va_up Y 6 W) 5 f) y1 y2 y3 kw y0 (by omega) (np_sib_e hq16 hv h227)) np_TS_good d_M_load_241 rfl rfl m_391 m_388 m_5 m_390 ms_M_nodeOf hd_M_nodeOf (by decide) rfl rfl (Nat.le_of_ble_eq_true rfl) ?_
        refine np_atw (w2 := (np_mw a cI (va_up (va_up Y 6 (np_wst (np_G Y) W v)) 5 f))) rfl ?_
        have es : np_tr (np_lv (Y 1) (Y 2) (Y 3) (Y 0 0)) v (q / 2 ^ v + 1) = np_sv (np_G Y) q v := by unfold np_sv np_G; rw [if_pos h227]
        refine np_top (y := np_sv (np_G Y) q v) (by rw [← es]; rfl) ?_
        obtain ⟨W2, eW⟩ : ∃ W2, W2 = np_wst (np_G Y) W v := ⟨_, rfl⟩
        rw [← eW]
        refine np_iastG (pc := 244) C (np_mw a cI) _ 5 5 (np_mD ha _) d_M_load_244 rfl (us_5 a cI _) (by omega) (by decide) ?_
        refine np_aload_n (pc := 245) C d_M_load_245 rfl ?_
        refine np_get (pc := 246) C 0 7 d_M_load_246 rfl rfl rfl (by decide) hin_M m_311 rfl ?_
        refine np_bipush (pc := 249) (v := 15) C d_M_load_249 (by decide) ?_
        refine np_iload (pc := 251) C d_M_load_251 rfl ?_
        refine np_iadd (pc := 253) C d_M_load_253 ?_
        refine np_iload (pc := 254) C d_M_load_254 rfl ?_
        refine np_iconst (pc := 256) (v := 2) C d_M_load_256 (by decide) ?_
        refine np_irem (pc := 257) C (by omega) (by omega) (by omega) d_M_load_257 ?_
        refine np_iastG (pc := 258) C (np_mw a cI) _ 5 5 (np_mD ha _) d_M_load_258 rfl (us_5 a cI _) (by omega) (by decide) ?_
        refine np_atw (w2 := (np_mw a cI (va_up (va_up Y 6 W2) 5 (np_lm1 (np_sv (np_G Y) q) (np_tv q) v f)))) rfl ?_
        refine np_aload_n (pc := 259) C d_M_load_259 rfl ?_
        refine np_get (pc := 260) C 0 7 d_M_load_260 rfl rfl rfl (by decide) hin_M m_311 rfl ?_
        refine np_bipush (pc := 263) (v := 19) C d_M_load_263 (by decide) ?_
        refine np_iload (pc := 265) C d_M_load_265 rfl ?_
        refine np_iadd (pc := 267) C d_M_load_267 ?_
        refine np_aload_n (pc := 268) C d_M_load_268 rfl ?_
        refine np_iload (pc := 269) C d_M_load_269 rfl ?_
        refine np_iconst (pc := 271) (v := 1) C d_M_load_271 (by decide) ?_
        refine np_cVi (pc := 272) C 0 (c_M_turned_1 l D ha (Y := va_up (va_up Y 6 W2) 5 (np_lm1 (np_sv (np_G Y) q) (np_tv q) v f)) (by omega) m1) np_TS_good d_M_load_272 rfl rfl m_399 m_396 m_5 m_398 ms_M_turned hd_M_turned (by decide) rfl rfl (Nat.le_of_ble_eq_true rfl) ?_
        refine np_iastG (pc := 275) C (np_mw a cI) _ 5 5 (np_mD ha _) d_M_load_275 rfl (us_5 a cI _) (by omega) (by decide) ?_
        refine np_atw (w2 := (np_mw a cI (va_up (va_up Y 6 W2) 5 (np_lm2 v (np_lm1 (np_sv (np_G Y) q) (np_tv q) v f))))) rfl ?_
        refine np_aload_n (pc := 276) C d_M_load_276 rfl ?_
        refine np_get (pc := 277) C 0 7 d_M_load_277 rfl rfl rfl (by decide) hin_M m_311 rfl ?_
        refine np_bipush (pc := 280) (v := 23) C d_M_load_280 (by decide) ?_
        refine np_iload (pc := 282) C d_M_load_282 rfl ?_
        refine np_iadd (pc := 284) C d_M_load_284 ?_
        refine np_aload_n (pc := 285) C d_M_load_285 rfl ?_
        refine np_iload (pc := 286) C d_M_load_286 rfl ?_
        refine np_iconst (pc := 288) (v := 0) C d_M_load_288 (by decide) ?_
        refine np_cVi (pc := 289) C 0 (c_M_turned_0 l D ha (Y := va_up (va_up Y 6 W2) 5 (np_lm2 v (np_lm1 (np_sv (np_G Y) q) (np_tv q) v f))) (by omega) (np_ok_lm2 m1)) np_TS_good d_M_load_289 rfl rfl m_399 m_396 m_5 m_398 ms_M_turned hd_M_turned (by decide) rfl rfl (Nat.le_of_ble_eq_true rfl) ?_
        refine np_iastG (pc := 292) C (np_mw a cI) _ 5 5 (np_mD ha _) d_M_load_292 rfl (us_5 a cI _) (by omega) (by decide) ?_
        refine np_atw (w2 := (np_mw a cI (va_up (va_up Y 6 W2) 5 (np_lm3 v (np_lm2 v (np_lm1 (np_sv (np_G Y) q) (np_tv q) v f)))))) rfl ?_
        refine np_aload_n (pc := 293) C d_M_load_293 rfl ?_
        refine np_iconst (pc := 294) (v := 3) C d_M_load_294 (by decide) ?_
        refine np_iload (pc := 295) C d_M_load_295 rfl ?_
        refine np_iadd (pc := 297) C d_M_load_297 ?_
        refine np_cVv (pc := 298) C 0 (c_M_fill l D ha (Y := va_up (va_up Y 6 W2) 5 (np_lm3 v (np_lm2 v (np_lm1 (np_sv (np_G Y) q) (np_tv q) v f)))) (by omega) (np_ok_lm3 (np_ok_lm2 m1))) np_TS_good d_M_load_298 rfl rfl m_379 m_376 m_5 m_378 ms_M_fill hd_M_fill (by decide) rfl rfl (Nat.le_of_ble_eq_true rfl) ?_
        refine np_iinc (pc := 301) C d_M_load_301 rfl (np_inc1 _) (by decide) rfl ?_
        refine np_goto (pc := 304) (tgt := 195) C d_M_load_304 rfl ?_
        refine np_at (vs2 := [some (.ref (a 0)), some (.int (nI q)), some (.int (nI y)), some (.int (nI am)), some (.int (nI wd)), some (.int (nI nn)), some (.int (nI (np_own (Y 1 q)))), some (.int (nI (v + 1))), some (.int (nI (q / 2 ^ v)))]) rfl ?_
        refine np_atw (w2 := (np_mw a cI (va_up (va_up Y 6 W2) 5 (np_lstp (np_sv (np_G Y) q) (np_tv q) v f)))) rfl ?_
        exact kk W2 _ eW rfl
  have lvl : ∀ (r v : Nat) (W f : Nat → Nat) (z : Option Value), v + r = 4 → q < 16 → np_ok W → np_ok f → np_ldXY Y q y am wd nn = va_up (va_up Y 6 (np_wvr (np_G Y) W v r)) 5 (np_tail (np_lvr (np_sv (np_G Y) q) (np_tv q) f v r)) → np_ldRY Y q y am wd nn = (if np_flt (np_tail (np_lvr (np_sv (np_G Y) q) (np_tv q) f v r)) 0 115 = 4294967295 then 1 else 0) → np_V p l e (np_rm (6, 144)) s m ([.ref (a 0), .int (nI q), .int (nI y), .int (nI am), .int (nI wd), .int (nI nn)] : List Value).toArray below meth c 0 0 D np_cls (np_ad a 7) (MQ below (np_Qc D np_cls (np_ad a 7) (some (.int (nI (np_ldRY Y q y am wd nn)))) (np_mw a cI (np_ldXY Y q y am wd nn))) ([.ref (a 0), .int (nI q), .int (nI y), .int (nI am), .int (nI wd), .int (nI nn)] : List Value).toArray s 0 0 (np_ad a 7)) 9 (np_mw a cI (va_up (va_up Y 6 W) 5 f)) 195 [some (.ref (a 0)), some (.int (nI q)), some (.int (nI y)), some (.int (nI am)), some (.int (nI wd)), some (.int (nI nn)), some (.int (nI (np_own (Y 1 q)))), some (.int (nI v)), z] [] := by
    intro r
    induction r with
    | zero =>
      intro v W f z hv hq16 kw kf hX hR
      obtain rfl : v = 4 := by omega
      refine np_iload (pc := 195) C d_M_load_195 rfl ?_
      refine np_iconst (pc := 197) (v := 4) C d_M_load_197 (by decide) ?_
      refine np_icmp_ge (pc := 198) (tgt := 307) C (by omega) (by omega) d_M_load_198 rfl (fun h198 => ?_) (fun h198 => ?_)
      · exact fin W f _ _ kf hX hR
      · exfalso; omega
    | succ r ih =>
      intro v W f z hv hq16 kw kf hX hR
      refine stp v W f z (by omega) hq16 kw kf (fun W2 f2 eW ef => ?_)
      subst eW ef
      exact ih (v + 1) _ _ _ (by omega) hq16 (np_ok_w3 (np_ok_w1 (np_ok_G Y) kw 16) v) (np_ok_lstp kf (np_sv_lt (np_ok_G Y) q v) (np_tv_lt q v)) hX hR
  have mid : ∀ (f : Nat → Nat) (z : Option Value), np_ok f → q < 16 → np_ldXY Y q y am wd nn = va_up (va_up Y 6 (np_wvr (np_G Y) (Y 6) 0 4)) 5 (np_tail (np_lvr (np_sv (np_G Y) q) (np_tv q) (np_fil (np_fil (np_fil f 0 0 9) 1 0 9) 2 0 9) 0 4)) → np_ldRY Y q y am wd nn = (if np_flt (np_tail (np_lvr (np_sv (np_G Y) q) (np_tv q) (np_fil (np_fil (np_fil f 0 0 9) 1 0 9) 2 0 9) 0 4)) 0 115 = 4294967295 then 1 else 0) → np_V p l e (np_rm (6, 144)) s m ([.ref (a 0), .int (nI q), .int (nI y), .int (nI am), .int (nI wd), .int (nI nn)] : List Value).toArray below meth c 0 0 D np_cls (np_ad a 7) (MQ below (np_Qc D np_cls (np_ad a 7) (some (.int (nI (np_ldRY Y q y am wd nn)))) (np_mw a cI (np_ldXY Y q y am wd nn))) ([.ref (a 0), .int (nI q), .int (nI y), .int (nI am), .int (nI wd), .int (nI nn)] : List Value).toArray s 0 0 (np_ad a 7)) 9 (np_mw a cI (va_up Y 5 f)) 177 [some (.ref (a 0)), some (.int (nI q)), some (.int (nI y)), some (.int (nI am)), some (.int (nI wd)), some (.int (nI nn)), some (.int (nI (np_own (Y 1 q)))), z, none] [] := by
    intro f z kf hq16 hX hR
    refine np_aload_n (pc := 177) C d_M_load_177 rfl ?_
    refine np_iconst (pc := 178) (v := 0) C d_M_load_178 (by decide) ?_
    refine np_cVv (pc := 179) C 0 (c_M_fill l D ha (Y := va_up Y 5 f) (by omega) kf) np_TS_good d_M_load_179 rfl rfl m_379 m_376 m_5 m_378 ms_M_fill hd_M_fill (by decide) rfl rfl (Nat.le_of_ble_eq_true rfl) ?_
    refine np_atw (w2 := (np_mw a cI (va_up Y 5 (np_fil f 0 0 9)))) rfl ?_
    refine np_aload_n (pc := 182) C d_M_load_182 rfl ?_
    refine np_iconst (pc := 183) (v := 1) C d_M_load_183 (by decide) ?_
    refine np_cVv (pc := 184) C 0 (c_M_fill l D ha (Y := va_up Y 5 (np_fil f 0 0 9)) (by omega) (np_ok_fil _ _ _ _ kf)) np_TS_good d_M_load_184 rfl rfl m_379 m_376 m_5 m_378 ms_M_fill hd_M_fill (by decide) rfl rfl (Nat.le_of_ble_eq_true rfl) ?_
    refine np_atw (w2 := (np_mw a cI (va_up Y 5 (np_fil (np_fil f 0 0 9) 1 0 9)))) rfl ?_
    refine np_aload_n (pc := 187) C d_M_load_187 rfl ?_
    refine np_iconst (pc := 188) (v := 2) C d_M_load_188 (by decide) ?_
    refine np_cVv (pc := 189) C 0 (c_M_fill l D ha (Y := va_up Y 5 (np_fil (np_fil f 0 0 9) 1 0 9)) (by omega) (np_ok_fil _ _ _ _ (np_ok_fil _ _ _ _ kf))) np_TS_good d_M_load_189 rfl rfl m_379 m_376 m_5 m_378 ms_M_fill hd_M_fill (by decide) rfl rfl (Nat.le_of_ble_eq_true rfl) ?_
    refine np_atw (w2 := (np_mw a cI (va_up (va_up Y 6 (Y 6)) 5 (np_fil (np_fil (np_fil f 0 0 9) 1 0 9) 2 0 9)))) rfl ?_
    refine np_iconst (pc := 192) (v := 0) C d_M_load_192 (by decide) ?_
    refine np_istore (pc := 193) C d_M_load_193 (by decide) rfl ?_
    refine np_at (vs2 := [some (.ref (a 0)), some (.int (nI q)), some (.int (nI y)), some (.int (nI am)), some (.int (nI wd)), some (.int (nI nn)), some (.int (nI (np_own (Y 1 q)))), some (.int (nI 0)), none]) rfl ?_
    exact lvl 4 0 (Y 6) _ none rfl hq16 y6 (np_ok_fil _ _ _ _ (np_ok_fil _ _ _ _ (np_ok_fil _ _ _ _ kf))) hX hR
  have bts : ∀ (r i : Nat), i + r = 8 → q < Y 0 0 → y < 4 → np_own (Y 1 q) < 4 → am < 256 → wd < 256 → nn < 65537 → np_V p l e (np_rm (6, 144)) s m ([.ref (a 0), .int (nI q), .int (nI y), .int (nI am), .int (nI wd), .int (nI nn)] : List Value).toArray below meth c 0 0 D np_cls (np_ad a 7) (MQ below (np_Qc D np_cls (np_ad a 7) (some (.int (nI (np_ldRY Y q y am wd nn)))) (np_mw a cI (np_ldXY Y q y am wd nn))) ([.ref (a 0), .int (nI q), .int (nI y), .int (nI am), .int (nI wd), .int (nI nn)] : List Value).toArray s 0 0 (np_ad a 7)) 9 (np_mw a cI (va_up Y 5 (np_bts (np_ld0 Y q y am wd nn) am i))) 148 [some (.ref (a 0)), some (.int (nI q)), some (.int (nI y)), some (.int (nI am)), some (.int (nI wd)), some (.int (nI nn)), some (.int (nI (np_own (Y 1 q)))), some (.int (nI i)), none] [] := by
    intro r
    induction r with
    | zero =>
      intro i hi cq cy co ca cw cn
      obtain rfl : i = 8 := by omega
      have k0 : np_ok (np_bts (np_ld0 Y q y am wd nn) am 8) := np_ok_bts (np_ok_upd (np_ok_upd (np_ok_upd (np_ok_upd (np_ok_upd (np_ok_upd (np_ok_upd y5 (by omega)) (by omega)) (y2 _)) (y3 _)) (np_hh_lt _ _)) (by omega)) cn) _ _
      refine np_iload (pc := 148) C d_M_load_148 rfl ?_
      refine np_bipush (pc := 150) (v := 8) C d_M_load_150 (by decide) ?_
      refine np_icmp_ge (pc := 152) (tgt := 177) C (by omega) (by omega) d_M_load_152 rfl (fun h152 => ?_) (fun h152 => ?_)
      · exact mid _ _ k0 (by omega) (np_ldXY_go Y cq cy co ca cw cn) (np_ldRY_go Y cq cy co ca cw cn)
      · exfalso; omega
    | succ r ih =>
      intro i hi cq cy co ca cw cn
      have hd := Nat.div_le_self am (2 ^ i)
      refine np_iload (pc := 148) C d_M_load_148 rfl ?_
      refine np_bipush (pc := 150) (v := 8) C d_M_load_150 (by decide) ?_
      refine np_icmp_ge (pc := 152) (tgt := 177) C (by omega) (by omega) d_M_load_152 rfl (fun h152 => ?_) (fun h152 => ?_)
      · exfalso; omega
      · refine np_aload_n (pc := 155) C d_M_load_155 rfl ?_
        refine np_get (pc := 156) C 0 7 d_M_load_156 rfl rfl rfl (by decide) hin_M m_311 rfl ?_
        refine np_bipush (pc := 159) (v := 27) C d_M_load_159 (by decide) ?_
        refine np_iload (pc := 161) C d_M_load_161 rfl ?_
        refine np_iadd (pc := 163) C d_M_load_163 ?_
        refine np_iload_n (pc := 164) C d_M_load_164 rfl ?_
        refine np_iload (pc := 165) C d_M_load_165 rfl ?_
        refine np_ishr (pc := 167) C (by omega) (by omega) d_M_load_167 ?_
        refine np_iconst (pc := 168) (v := 1) C d_M_load_168 (by decide) ?_
        refine np_iand1 (pc := 169) C (by omega) d_M_load_169 ?_
        refine np_iastG (pc := 170) C (np_mw a cI) _ 5 5 (np_mD ha _) d_M_load_170 rfl (us_5 a cI _) (by omega) (by decide) ?_
        refine np_iinc (pc := 171) C d_M_load_171 rfl (np_inc1 _) (by decide) rfl ?_
        refine np_goto (pc := 174) (tgt := 148) C d_M_load_174 rfl ?_
        refine np_at (vs2 := [some (.ref (a 0)), some (.int (nI q)), some (.int (nI y)), some (.int (nI am)), some (.int (nI wd)), some (.int (nI nn)), some (.int (nI (np_own (Y 1 q)))), some (.int (nI (i + 1))), none]) rfl ?_
        refine np_atw (w2 := (np_mw a cI (va_up Y 5 (np_bts (np_ld0 Y q y am wd nn) am (i + 1))))) rfl ?_
        exact ih (i + 1) (by omega) cq cy co ca cw cn
  refine np_iload_n (pc := 0) C d_M_load_0 rfl ?_
  refine np_if_lt (pc := 1) (tgt := 20) C (by omega) d_M_load_1 rfl (fun h1 => ?_) (fun h1 => ?_)
  · refine np_bipush (pc := 20) (v := 4294967294) C d_M_load_20 (by decide) ?_
    exact np_iret (pc := 22) C d_M_load_22 (by unfold np_ldRY; (repeat' split) <;> first | omega | rfl) (by unfold np_ldXY; (repeat' split) <;> first | (exfalso; omega) | rfl)
  · refine np_iload_n (pc := 4) C d_M_load_4 rfl ?_
    refine np_aload_n (pc := 5) C d_M_load_5 rfl ?_
    refine np_get (pc := 6) C 0 0 d_M_load_6 rfl rfl rfl (by decide) hin_M m_304 rfl ?_
    refine np_icmp_ge (pc := 9) (tgt := 20) C (by omega) (by omega) d_M_load_9 rfl (fun h9 => ?_) (fun h9 => ?_)
    · refine np_bipush (pc := 20) (v := 4294967294) C d_M_load_20 (by decide) ?_
      exact np_iret (pc := 22) C d_M_load_22 (by unfold np_ldRY; (repeat' split) <;> first | omega | rfl) (by unfold np_ldXY; (repeat' split) <;> first | (exfalso; omega) | rfl)
    · refine np_iload_n (pc := 12) C d_M_load_12 rfl ?_
      refine np_iconst (pc := 13) (v := 3) C d_M_load_13 (by decide) ?_
      refine np_cSi (pc := 14) C (c_M_outside l D (by omega) (by omega)) np_TS_good d_M_load_14 m_339 m_337 m_5 m_338 hd_M_outside (by decide) rfl rfl (Nat.le_of_ble_eq_true rfl) ?_
      refine np_ifz_eq (pc := 17) (tgt := 23) C d_M_load_17 rfl (fun h17 => ?_) (fun h17 => ?_)
      · refine np_aload_n (pc := 23) C d_M_load_23 rfl ?_
        refine np_iload_n (pc := 24) C d_M_load_24 rfl ?_
        refine np_cVi (pc := 25) C 0 (c_M_ownerOf l D ha y1 (by omega)) np_TS_good d_M_load_25 rfl rfl m_375 m_372 m_5 m_374 ms_M_ownerOf hd_M_ownerOf (by decide) rfl rfl (Nat.le_of_ble_eq_true rfl) ?_
        refine np_istore (pc := 28) C d_M_load_28 (by decide) rfl ?_
        refine np_iload (pc := 30) C d_M_load_30 rfl ?_
        refine np_iconst (pc := 32) (v := 4294967295) C d_M_load_32 (by decide) ?_
        refine np_icmp_ne (pc := 33) (tgt := 38) C (by first | exact np_own_lt _ | omega) (by first | exact np_own_lt _ | omega) d_M_load_33 rfl (fun h33 => ?_) (fun h33 => ?_)
        · refine np_iload_n (pc := 38) C d_M_load_38 rfl ?_
          refine np_sipush (pc := 39) (v := 255) C d_M_load_39 (by decide) ?_
          refine np_cSi (pc := 42) C (c_M_outside l D (by omega) (by omega)) np_TS_good d_M_load_42 m_339 m_337 m_5 m_338 hd_M_outside (by decide) rfl rfl (Nat.le_of_ble_eq_true rfl) ?_
          refine np_ifz_ne (pc := 45) (tgt := 69) C d_M_load_45 rfl (fun h45 => ?_) (fun h45 => ?_)
          · refine np_bipush (pc := 69) (v := 4294967293) C d_M_load_69 (by decide) ?_
            exact np_iret (pc := 71) C d_M_load_71 (by unfold np_ldRY; (repeat' split) <;> first | omega | rfl) (by unfold np_ldXY; (repeat' split) <;> first | (exfalso; omega) | rfl)
          · refine np_iload (pc := 48) C d_M_load_48 rfl ?_
            refine np_sipush (pc := 50) (v := 255) C d_M_load_50 (by decide) ?_
            refine np_cSi (pc := 53) C (c_M_outside l D (by omega) (by omega)) np_TS_good d_M_load_53 m_339 m_337 m_5 m_338 hd_M_outside (by decide) rfl rfl (Nat.le_of_ble_eq_true rfl) ?_
            refine np_ifz_ne (pc := 56) (tgt := 69) C d_M_load_56 rfl (fun h56 => ?_) (fun h56 => ?_)
            · refine np_bipush (pc := 69) (v := 4294967293) C d_M_load_69 (by decide) ?_
              exact np_iret (pc := 71) C d_M_load_71 (by unfold np_ldRY; (repeat' split) <;> first | omega | rfl) (by unfold np_ldXY; (repeat' split) <;> first | (exfalso; omega) | rfl)
            · refine np_iload (pc := 59) C d_M_load_59 rfl ?_
              refine np_ldc (pc := 61) (v := 65536) C m_336 (by decide) d_M_load_61 ?_
              refine np_cSi (pc := 63) C (c_M_outside l D (by omega) (by omega)) np_TS_good d_M_load_63 m_339 m_337 m_5 m_338 hd_M_outside (by decide) rfl rfl (Nat.le_of_ble_eq_true rfl) ?_
              refine np_ifz_eq (pc := 66) (tgt := 72) C d_M_load_66 rfl (fun h66 => ?_) (fun h66 => ?_)
              · refine np_aload_n (pc := 72) C d_M_load_72 rfl ?_
                refine np_get (pc := 73) C 0 7 d_M_load_73 rfl rfl rfl (by decide) hin_M m_311 rfl ?_
                refine np_iconst (pc := 76) (v := 4) C d_M_load_76 (by decide) ?_
                refine np_iload (pc := 77) C d_M_load_77 rfl ?_
                refine np_iastG (pc := 79) C (np_mw a cI) _ 5 5 (np_mD ha _) d_M_load_79 rfl (us_5 a cI _) (by omega) (by decide) ?_
                refine np_aload_n (pc := 80) C d_M_load_80 rfl ?_
                refine np_get (pc := 81) C 0 7 d_M_load_81 rfl rfl rfl (by decide) hin_M m_311 rfl ?_
                refine np_iconst (pc := 84) (v := 5) C d_M_load_84 (by decide) ?_
                refine np_bipush (pc := 85) (v := 100) C d_M_load_85 (by decide) ?_
                refine np_iload (pc := 87) C d_M_load_87 rfl ?_
                refine np_iadd (pc := 89) C d_M_load_89 ?_
                refine np_iastG (pc := 90) C (np_mw a cI) _ 5 5 (np_mD ha _) d_M_load_90 rfl (us_5 a cI _) (by omega) (by decide) ?_
                refine np_aload_n (pc := 91) C d_M_load_91 rfl ?_
                refine np_get (pc := 92) C 0 7 d_M_load_92 rfl rfl rfl (by decide) hin_M m_311 rfl ?_
                refine np_bipush (pc := 95) (v := 6) C d_M_load_95 (by decide) ?_
                refine np_aload_n (pc := 97) C d_M_load_97 rfl ?_
                refine np_get (pc := 98) C 0 2 d_M_load_98 rfl rfl rfl (by decide) hin_M m_306 rfl ?_
                refine np_iload_n (pc := 101) C d_M_load_101 rfl ?_
                refine np_iald (pc := 102) C 2 d_M_load_102 rfl (by omega) (by decide) ?_
                refine np_iastG (pc := 103) C (np_mw a cI) _ 5 5 (np_mD ha _) d_M_load_103 rfl (us_5 a cI _) (by omega) (by decide) ?_
                refine np_aload_n (pc := 104) C d_M_load_104 rfl ?_
                refine np_get (pc := 105) C 0 7 d_M_load_105 rfl rfl rfl (by decide) hin_M m_311 rfl ?_
                refine np_bipush (pc := 108) (v := 7) C d_M_load_108 (by decide) ?_
                refine np_aload_n (pc := 110) C d_M_load_110 rfl ?_
                refine np_get (pc := 111) C 0 3 d_M_load_111 rfl rfl rfl (by decide) hin_M m_307 rfl ?_
                refine np_iload_n (pc := 114) C d_M_load_114 rfl ?_
                refine np_iald (pc := 115) C 3 d_M_load_115 rfl (by omega) (by decide) ?_
                refine np_iastG (pc := 116) C (np_mw a cI) _ 5 5 (np_mD ha _) d_M_load_116 rfl (us_5 a cI _) (by omega) (by decide) ?_
                refine np_aload_n (pc := 117) C d_M_load_117 rfl ?_
                refine np_get (pc := 118) C 0 7 d_M_load_118 rfl rfl rfl (by decide) hin_M m_311 rfl ?_
                refine np_bipush (pc := 121) (v := 8) C d_M_load_121 (by decide) ?_
                refine np_iload_n (pc := 123) C d_M_load_123 rfl ?_
                refine np_cSi (pc := 124) C (c_M_accountKey l D (by omega)) np_TS_good d_M_load_124 m_363 m_361 m_5 m_362 hd_M_accountKey (by decide) rfl rfl (Nat.le_of_ble_eq_true rfl) ?_
                refine np_iastG (pc := 127) C (np_mw a cI) _ 5 5 (np_mD ha _) d_M_load_127 rfl (us_5 a cI _) (by omega) (by decide) ?_
                refine np_aload_n (pc := 128) C d_M_load_128 rfl ?_
                refine np_get (pc := 129) C 0 7 d_M_load_129 rfl rfl rfl (by decide) hin_M m_311 rfl ?_
                refine np_bipush (pc := 132) (v := 9) C d_M_load_132 (by decide) ?_
                refine np_iload_n (pc := 134) C d_M_load_134 rfl ?_
                refine np_iastG (pc := 135) C (np_mw a cI) _ 5 5 (np_mD ha _) d_M_load_135 rfl (us_5 a cI _) (by omega) (by decide) ?_
                refine np_aload_n (pc := 136) C d_M_load_136 rfl ?_
                refine np_get (pc := 137) C 0 7 d_M_load_137 rfl rfl rfl (by decide) hin_M m_311 rfl ?_
                refine np_bipush (pc := 140) (v := 10) C d_M_load_140 (by decide) ?_
                refine np_iload (pc := 142) C d_M_load_142 rfl ?_
                refine np_iastG (pc := 144) C (np_mw a cI) _ 5 5 (np_mD ha _) d_M_load_144 rfl (us_5 a cI _) (by omega) (by decide) ?_
                refine np_iconst (pc := 145) (v := 0) C d_M_load_145 (by decide) ?_
                refine np_istore (pc := 146) C d_M_load_146 (by decide) rfl ?_
                refine np_at (vs2 := [some (.ref (a 0)), some (.int (nI q)), some (.int (nI y)), some (.int (nI am)), some (.int (nI wd)), some (.int (nI nn)), some (.int (nI (np_own (Y 1 q)))), some (.int (nI 0)), none]) rfl ?_
                refine np_atw (w2 := (np_mw a cI (va_up Y 5 (np_bts (np_ld0 Y q y am wd nn) am 0)))) rfl ?_
                exact bts 8 0 rfl (by omega) (by omega) (np_own_4 h33) (by omega) (by omega) (by omega)
              · refine np_bipush (pc := 69) (v := 4294967293) C d_M_load_69 (by decide) ?_
                exact np_iret (pc := 71) C d_M_load_71 (by unfold np_ldRY; (repeat' split) <;> first | omega | rfl) (by unfold np_ldXY; (repeat' split) <;> first | (exfalso; omega) | rfl)
        · refine np_iconst (pc := 36) (v := 4294967295) C d_M_load_36 (by decide) ?_
          exact np_iret (pc := 37) C d_M_load_37 (by unfold np_ldRY; (repeat' split) <;> first | omega | rfl) (by unfold np_ldXY; (repeat' split) <;> first | (exfalso; omega) | rfl)
      · refine np_bipush (pc := 20) (v := 4294967294) C d_M_load_20 (by decide) ?_
        exact np_iret (pc := 22) C d_M_load_22 (by unfold np_ldRY; (repeat' split) <;> first | omega | rfl) (by unfold np_ldXY; (repeat' split) <;> first | (exfalso; omega) | rfl)
