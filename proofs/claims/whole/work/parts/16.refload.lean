set_option maxRecDepth 20000 in
set_option maxHeartbeats 4000000 in
theorem c_M_load (l : Launch) (D : va_G) {cI : ClassId} {a : Nat → Nat} (ha : np_inj a 7) {Y : np_X} (hY : np_YI Y) (y6 : np_ok (Y 6)) {q y am wd nn : Nat} (hq : q < 4294967296) (hy : y < 4294967296) (ham : am < 4294967296) (hwd : wd < 4294967296) (hnn : nn < 4294967296) : np_M l D cI (np_ad a 7) (6, 144) y_M_load b_M_load 9 (some .int) [.ref (a 0), .int (nI q), .int (nI y), .int (nI am), .int (nI wd), .int (nI nn)] (np_mw a cI Y) (some (.int (nI (np_ldRY Y q y am wd nn)))) (np_mw a cI (np_ldXY Y q y am wd nn)) := by
  refine np_Ct.of (np_Sm_St _) (by decide) (Nat.le_of_ble_eq_true rfl) ?_
  intro p e s m below meth c C
  refine np_at (vs2 := [some (.ref (a 0)), some (.int (nI q)), some (.int (nI y)), some (.int (nI am)), some (.int (nI wd)), some (.int (nI nn)), none, none, none]) rfl ?_
  obtain ⟨y0, ys, y1, y2, y3, y4, y5⟩ := hY
  have lvl : ∀ (r v : Nat) (z : Option Value), v + r = 4 → q < Y 0 0 → y < 4 → np_own (Y 1 q) < 4 → am < 256 → wd < 256 → nn < 65537 → np_V p l e (np_rm (6, 144)) s m ([.ref (a 0), .int (nI q), .int (nI y), .int (nI am), .int (nI wd), .int (nI nn)] : List Value).toArray below meth c 0 0 D np_cls (np_ad a 7) (MQ below (np_Qc D np_cls (np_ad a 7) (some (.int (nI (np_ldRY Y q y am wd nn)))) (np_mw a cI (np_ldXY Y q y am wd nn))) ([.ref (a 0), .int (nI q), .int (nI y), .int (nI am), .int (nI wd), .int (nI nn)] : List Value).toArray s 0 0 (np_ad a 7)) 9 (np_mw a cI (va_up (va_up Y 6 (np_wv (np_G Y) (Y 6) v)) 5 (np_lvm (np_sv (np_G Y) q) (np_tv q) (np_ld2 Y q y am wd nn) v))) 195 [some (.ref (a 0)), some (.int (nI q)), some (.int (nI y)), some (.int (nI am)), some (.int (nI wd)), some (.int (nI nn)), some (.int (nI (np_own (Y 1 q)))), some (.int (nI v)), z] [] := by
    intro r
    induction r with
    | zero =>
      intro v z hv cq cy co ca cw cn
      obtain rfl : v = 4 := by omega
      have k2 := np_ok_ld2 (y := y) y5 y2 y3 co ca cw cn
      have k3 : np_ok (np_ld3 Y q y am wd nn) := np_ok_lvm (np_ok_G Y) q k2 4
      refine np_iload (pc := 195) C d_M_load_195 rfl ?_
      refine np_iconst (pc := 197) (v := 4) C d_M_load_197 (by decide) ?_
      refine np_icmp_ge (pc := 198) (tgt := 307) C (by omega) (by omega) d_M_load_198 rfl (fun h198 => ?_) (fun h198 => ?_)
      · refine np_aload_n (pc := 307) C d_M_load_307 rfl ?_
        refine np_bipush (pc := 308) (v := 7) C d_M_load_308 (by decide) ?_
        refine np_cVv (pc := 310) C 0 (c_M_fill l D ha (Y := va_up (va_up Y 6 (np_wv (np_G Y) (Y 6) 4)) 5 (np_ld3 Y q y am wd nn)) (by omega) k3) np_TS_good d_M_load_310 rfl rfl m_379 m_376 m_5 m_378 ms_M_fill hd_M_fill (by decide) rfl rfl (Nat.le_of_ble_eq_true rfl) ?_
        refine np_atw (w2 := (np_mw a cI (va_up (va_up Y 6 (np_wv (np_G Y) (Y 6) 4)) 5 (np_fil (np_ld3 Y q y am wd nn) 7 0 9)))) rfl ?_
        refine np_aload_n (pc := 313) C d_M_load_313 rfl ?_
        refine np_bipush (pc := 314) (v := 8) C d_M_load_314 (by decide) ?_
        refine np_cVv (pc := 316) C 0 (c_M_fill l D ha (Y := va_up (va_up Y 6 (np_wv (np_G Y) (Y 6) 4)) 5 (np_fil (np_ld3 Y q y am wd nn) 7 0 9)) (by omega) (np_ok_fil _ _ _ _ k3)) np_TS_good d_M_load_316 rfl rfl m_379 m_376 m_5 m_378 ms_M_fill hd_M_fill (by decide) rfl rfl (Nat.le_of_ble_eq_true rfl) ?_
        refine np_atw (w2 := (np_mw a cI (va_up (va_up Y 6 (np_wv (np_G Y) (Y 6) 4)) 5 (np_fil (np_fil (np_ld3 Y q y am wd nn) 7 0 9) 8 0 9)))) rfl ?_
        refine np_aload_n (pc := 319) C d_M_load_319 rfl ?_
        refine np_bipush (pc := 320) (v := 9) C d_M_load_320 (by decide) ?_
        refine np_cVv (pc := 322) C 0 (c_M_fill l D ha (Y := va_up (va_up Y 6 (np_wv (np_G Y) (Y 6) 4)) 5 (np_fil (np_fil (np_ld3 Y q y am wd nn) 7 0 9) 8 0 9)) (by omega) (np_ok_fil _ _ _ _ (np_ok_fil _ _ _ _ k3))) np_TS_good d_M_load_322 rfl rfl m_379 m_376 m_5 m_378 ms_M_fill hd_M_fill (by decide) rfl rfl (Nat.le_of_ble_eq_true rfl) ?_
        refine np_atw (w2 := (np_mw a cI (va_up (va_up Y 6 (np_wv (np_G Y) (Y 6) 4)) 5 (np_ld4 Y q y am wd nn)))) rfl ?_
        refine np_aload_n (pc := 325) C d_M_load_325 rfl ?_
        refine np_get (pc := 326) C 0 7 d_M_load_326 rfl rfl rfl (by decide) hin_M m_311 rfl ?_
        refine np_iconst (pc := 329) (v := 1) C d_M_load_329 (by decide) ?_
        refine np_aload_n (pc := 330) C d_M_load_330 rfl ?_
        refine np_get (pc := 331) C 0 7 d_M_load_331 rfl rfl rfl (by decide) hin_M m_311 rfl ?_
        refine np_bipush (pc := 334) (v := 97) C d_M_load_334 (by decide) ?_
        refine np_iald (pc := 336) C 5 d_M_load_336 rfl (by omega) (by decide) ?_
        refine np_iastG (pc := 337) C (np_mw a cI) _ 5 5 (np_mD ha _) d_M_load_337 rfl (us_5 a cI _) (by omega) (by decide) ?_
        refine np_aload_n (pc := 338) C d_M_load_338 rfl ?_
        refine np_get (pc := 339) C 0 7 d_M_load_339 rfl rfl rfl (by decide) hin_M m_311 rfl ?_
        refine np_iconst (pc := 342) (v := 2) C d_M_load_342 (by decide) ?_
        refine np_aload_n (pc := 343) C d_M_load_343 rfl ?_
        refine np_get (pc := 344) C 0 7 d_M_load_344 rfl rfl rfl (by decide) hin_M m_311 rfl ?_
        refine np_bipush (pc := 347) (v := 106) C d_M_load_347 (by decide) ?_
        refine np_iald (pc := 349) C 5 d_M_load_349 rfl (by omega) (by decide) ?_
        refine np_iastG (pc := 350) C (np_mw a cI) _ 5 5 (np_mD ha _) d_M_load_350 rfl (us_5 a cI _) (by omega) (by decide) ?_
        refine np_aload_n (pc := 351) C d_M_load_351 rfl ?_
        refine np_get (pc := 352) C 0 7 d_M_load_352 rfl rfl rfl (by decide) hin_M m_311 rfl ?_
        refine np_iconst (pc := 355) (v := 3) C d_M_load_355 (by decide) ?_
        refine np_aload_n (pc := 356) C d_M_load_356 rfl ?_
        refine np_get (pc := 357) C 0 7 d_M_load_357 rfl rfl rfl (by decide) hin_M m_311 rfl ?_
        refine np_bipush (pc := 360) (v := 124) C d_M_load_360 (by decide) ?_
        refine np_iald (pc := 362) C 5 d_M_load_362 rfl (by omega) (by decide) ?_
        refine np_iastG (pc := 363) C (np_mw a cI) _ 5 5 (np_mD ha _) d_M_load_363 rfl (us_5 a cI _) (by omega) (by decide) ?_
        refine np_atw (w2 := (np_mw a cI (va_up (va_up Y 6 (np_wv (np_G Y) (Y 6) 4)) 5 (np_ldFY Y q y am wd nn)))) rfl ?_
        refine np_aload_n (pc := 364) C d_M_load_364 rfl ?_
        refine np_cVi (pc := 365) C 0 (c_M_fault l D ha (Y := va_up (va_up Y 6 (np_wv (np_G Y) (Y 6) 4)) 5 (np_ldFY Y q y am wd nn)) (np_ok_cp (np_ok_cp (np_ok_cp (np_ok_fil _ _ _ _ (np_ok_fil _ _ _ _ (np_ok_fil _ _ _ _ k3))) _ _) _ _) _ _)) np_TS_good d_M_load_365 rfl rfl m_403 m_400 m_5 m_401 m_402 hd_M_fault (by decide) rfl rfl (Nat.le_of_ble_eq_true rfl) ?_
        refine np_atst (st2 := [.int (nI (np_flt (np_ldFY Y q y am wd nn) 0 115))]) rfl ?_
        refine np_iconst (pc := 368) (v := 4294967295) C d_M_load_368 (by decide) ?_
        refine np_icmp_ne (pc := 369) (tgt := 376) C (by first | exact np_flt_lt _ 115 0 rfl | omega) (by first | exact np_flt_lt _ 115 0 rfl | omega) d_M_load_369 rfl (fun h369 => ?_) (fun h369 => ?_)
        · refine np_iconst (pc := 376) (v := 0) C d_M_load_376 (by decide) ?_
          exact np_iret (pc := 377) C d_M_load_377 (by unfold np_ldRY; (repeat' split) <;> first | omega | rfl) (by unfold np_ldXY; (repeat' split) <;> first | (exfalso; omega) | rfl)
        · refine np_iconst (pc := 372) (v := 1) C d_M_load_372 (by decide) ?_
          refine np_goto (pc := 373) (tgt := 377) C d_M_load_373 rfl ?_
          exact np_iret (pc := 377) C d_M_load_377 (by unfold np_ldRY; (repeat' split) <;> first | omega | rfl) (by unfold np_ldXY; (repeat' split) <;> first | (exfalso; omega) | rfl)
      · exfalso; omega
    | succ r ih =>
      intro v z hv cq cy co ca cw cn
      have k2 := np_ok_ld2 (y := y) y5 y2 y3 co ca cw cn
      have kf := np_ok_lvm (np_ok_G Y) q k2 v
      have kw := np_ok_wv (np_ok_G Y) y6 v
      have hdv := Nat.div_le_self q (2 ^ v)
      have m1 := np_ok_lm1 (v := v) kf (np_sv_lt (np_ok_G Y) q v) (np_tv_lt q v)
      refine np_iload (pc := 195) C d_M_load_195 rfl ?_
      refine np_iconst (pc := 197) (v := 4) C d_M_load_197 (by decide) ?_
      refine np_icmp_ge (pc := 198) (tgt := 307) C (by omega) (by omega) d_M_load_198 rfl (fun h198 => ?_) (fun h198 => ?_)
      · exfalso; omega
      · refine np_iload_n (pc := 201) C d_M_load_201 rfl ?_
        refine np_iload (pc := 202) C d_M_load_202 rfl ?_
        refine np_ishr (pc := 204) C (by omega) (by omega) d_M_load_204 ?_
        refine np_istore (pc := 205) C d_M_load_205 (by decide) rfl ?_
        refine np_aload_n (pc := 207) C d_M_load_207 rfl ?_
        refine np_get (pc := 208) C 0 7 d_M_load_208 rfl rfl rfl (by decide) hin_M m_311 rfl ?_
        refine np_bipush (pc := 211) (v := 11) C d_M_load_211 (by decide) ?_
        refine np_iload (pc := 213) C d_M_load_213 rfl ?_
        refine np_iadd (pc := 215) C d_M_load_215 ?_
        refine np_aload_n (pc := 216) C d_M_load_216 rfl ?_
        refine np_aload_n (pc := 217) C d_M_load_217 rfl ?_
        refine np_get (pc := 218) C 0 0 d_M_load_218 rfl rfl rfl (by decide) hin_M m_304 rfl ?_
        refine np_top (y := Y 0 0) rfl ?_
        refine np_iload (pc := 221) C d_M_load_221 rfl ?_
        refine np_iload (pc := 223) C d_M_load_223 rfl ?_
        refine np_iconst (pc := 225) (v := 2) C d_M_load_225 (by decide) ?_
        refine np_irem (pc := 226) C (by omega) (by omega) (by omega) d_M_load_226 ?_
        refine np_if_ne (pc := 227) (tgt := 237) C (by omega) d_M_load_227 rfl (fun h227 => ?_) (fun h227 => ?_)
        · refine np_iload (pc := 237) C d_M_load_237 rfl ?_
          refine np_iconst (pc := 239) (v := 1) C d_M_load_239 (by decide) ?_
          refine np_isub (pc := 240) C (by omega) d_M_load_240 ?_
          refine np_cVi (pc := 241) C 0 (c_M_nodeOf l D ha (Y := va_up (va_up Y 6 (np_wv (np_G Y) (Y 6) v)) 5 (np_lvm (np_sv (np_G Y) q) (np_tv q) (np_ld2 Y q y am wd nn) v)) y1 y2 y3 kw y0 (by omega) (np_sib_o (by omega) (by omega) h227)) np_TS_good d_M_load_241 rfl rfl m_391 m_388 m_5 m_390 ms_M_nodeOf hd_M_nodeOf (by decide) rfl rfl (Nat.le_of_ble_eq_true rfl) ?_
          refine np_atw (w2 := (np_mw a cI (va_up (va_up Y 6 (np_wv (np_G Y) (Y 6) (v + 1))) 5 (np_lvm (np_sv (np_G Y) q) (np_tv q) (np_ld2 Y q y am wd nn) v)))) rfl ?_
          refine np_top (y := np_sv (np_G Y) q v) (by unfold np_sv; rw [if_neg h227]; rfl) ?_
          refine np_iastG (pc := 244) C (np_mw a cI) _ 5 5 (np_mD ha _) d_M_load_244 rfl (us_5 a cI _) (by omega) (by decide) ?_
          refine np_aload_n (pc := 245) C d_M_load_245 rfl ?_
          refine np_get (pc := 246) C 0 7 d_M_load_246 rfl rfl rfl (by decide) hin_M m_311 rfl ?_
          refine np_bipush (pc := 249) (v := 15) C d_M_load_249 (by decide) ?_
          refine np_iload (pc := 251) C d_M_load_251 rfl ?_
          refine np_iadd (pc := 253) C d_M_load_253 ?_
          refine np_iload (pc := 254) C d_M_load_254 rfl ?_
          refine np_iconst (pc := 256) (v := 2) C d_M_load_256 (by decide) ?_
          refine np_irem (pc := 257) C (by omega) (by omega) (by omega) d_M_load_257 ?_
          refine np_iastG (pc := 258) C (np_mw a cI) _ 5 5 (np_mD ha _) d_M_load_258 rfl (us_5 a cI _) (by omega) (by decide) ?_
          refine np_atw (w2 := (np_mw a cI (va_up (va_up Y 6 (np_wv (np_G Y) (Y 6) (v + 1))) 5 (np_lm1 (np_sv (np_G Y) q) (np_tv q) v (np_lvm (np_sv (np_G Y) q) (np_tv q) (np_ld2 Y q y am wd nn) v))))) rfl ?_
          refine np_aload_n (pc := 259) C d_M_load_259 rfl ?_
          refine np_get (pc := 260) C 0 7 d_M_load_260 rfl rfl rfl (by decide) hin_M m_311 rfl ?_
          refine np_bipush (pc := 263) (v := 19) C d_M_load_263 (by decide) ?_
          refine np_iload (pc := 265) C d_M_load_265 rfl ?_
          refine np_iadd (pc := 267) C d_M_load_267 ?_
          refine np_aload_n (pc := 268) C d_M_load_268 rfl ?_
          refine np_iload (pc := 269) C d_M_load_269 rfl ?_
          refine np_iconst (pc := 271) (v := 1) C d_M_load_271 (by decide) ?_
          refine np_cVi (pc := 272) C 0 (c_M_turned_1 l D ha (Y := va_up (va_up Y 6 (np_wv (np_G Y) (Y 6) (v + 1))) 5 (np_lm1 (np_sv (np_G Y) q) (np_tv q) v (np_lvm (np_sv (np_G Y) q) (np_tv q) (np_ld2 Y q y am wd nn) v))) (by omega) m1) np_TS_good d_M_load_272 rfl rfl m_399 m_396 m_5 m_398 ms_M_turned hd_M_turned (by decide) rfl rfl (Nat.le_of_ble_eq_true rfl) ?_
          refine np_iastG (pc := 275) C (np_mw a cI) _ 5 5 (np_mD ha _) d_M_load_275 rfl (us_5 a cI _) (by omega) (by decide) ?_
          refine np_atw (w2 := (np_mw a cI (va_up (va_up Y 6 (np_wv (np_G Y) (Y 6) (v + 1))) 5 (np_lm2 v (np_lm1 (np_sv (np_G Y) q) (np_tv q) v (np_lvm (np_sv (np_G Y) q) (np_tv q) (np_ld2 Y q y am wd nn) v)))))) rfl ?_
          refine np_aload_n (pc := 276) C d_M_load_276 rfl ?_
          refine np_get (pc := 277) C 0 7 d_M_load_277 rfl rfl rfl (by decide) hin_M m_311 rfl ?_
          refine np_bipush (pc := 280) (v := 23) C d_M_load_280 (by decide) ?_
          refine np_iload (pc := 282) C d_M_load_282 rfl ?_
          refine np_iadd (pc := 284) C d_M_load_284 ?_
          refine np_aload_n (pc := 285) C d_M_load_285 rfl ?_
          refine np_iload (pc := 286) C d_M_load_286 rfl ?_
          refine np_iconst (pc := 288) (v := 0) C d_M_load_288 (by decide) ?_
          refine np_cVi (pc := 289) C 0 (c_M_turned_0 l D ha (Y := va_up (va_up Y 6 (np_wv (np_G Y) (Y 6) (v + 1))) 5 (np_lm2 v (np_lm1 (np_sv (np_G Y) q) (np_tv q) v (np_lvm (np_sv (np_G Y) q) (np_tv q) (np_ld2 Y q y am wd nn) v)))) (by omega) (np_ok_lm2 m1)) np_TS_good d_M_load_289 rfl rfl m_399 m_396 m_5 m_398 ms_M_turned hd_M_turned (by decide) rfl rfl (Nat.le_of_ble_eq_true rfl) ?_
          refine np_iastG (pc := 292) C (np_mw a cI) _ 5 5 (np_mD ha _) d_M_load_292 rfl (us_5 a cI _) (by omega) (by decide) ?_
          refine np_atw (w2 := (np_mw a cI (va_up (va_up Y 6 (np_wv (np_G Y) (Y 6) (v + 1))) 5 (np_lm3 v (np_lm2 v (np_lm1 (np_sv (np_G Y) q) (np_tv q) v (np_lvm (np_sv (np_G Y) q) (np_tv q) (np_ld2 Y q y am wd nn) v))))))) rfl ?_
          refine np_aload_n (pc := 293) C d_M_load_293 rfl ?_
          refine np_iconst (pc := 294) (v := 3) C d_M_load_294 (by decide) ?_
          refine np_iload (pc := 295) C d_M_load_295 rfl ?_
          refine np_iadd (pc := 297) C d_M_load_297 ?_
          refine np_cVv (pc := 298) C 0 (c_M_fill l D ha (Y := va_up (va_up Y 6 (np_wv (np_G Y) (Y 6) (v + 1))) 5 (np_lm3 v (np_lm2 v (np_lm1 (np_sv (np_G Y) q) (np_tv q) v (np_lvm (np_sv (np_G Y) q) (np_tv q) (np_ld2 Y q y am wd nn) v))))) (by omega) (np_ok_lm3 (np_ok_lm2 m1))) np_TS_good d_M_load_298 rfl rfl m_379 m_376 m_5 m_378 ms_M_fill hd_M_fill (by decide) rfl rfl (Nat.le_of_ble_eq_true rfl) ?_
          refine np_iinc (pc := 301) C d_M_load_301 rfl (np_inc1 _) (by decide) rfl ?_
          refine np_goto (pc := 304) (tgt := 195) C d_M_load_304 rfl ?_
          refine np_at (vs2 := [some (.ref (a 0)), some (.int (nI q)), some (.int (nI y)), some (.int (nI am)), some (.int (nI wd)), some (.int (nI nn)), some (.int (nI (np_own (Y 1 q)))), some (.int (nI (v + 1))), some (.int (nI (q / 2 ^ v)))]) rfl ?_
          refine np_atw (w2 := (np_mw a cI (va_up (va_up Y 6 (np_wv (np_G Y) (Y 6) (v + 1))) 5 (np_lvm (np_sv (np_G Y) q) (np_tv q) (np_ld2 Y q y am wd nn) (v + 1))))) rfl ?_
          exact ih (v + 1) _ (by omega) cq cy co ca cw cn
        · refine np_iload (pc := 230) C d_M_load_230 rfl ?_
          refine np_iconst (pc := 232) (v := 1) C d_M_load_232 (by decide) ?_
          refine np_iadd (pc := 233) C d_M_load_233 ?_
          refine np_goto (pc := 234) (tgt := 241) C d_M_load_234 rfl ?_
          refine np_cVi (pc := 241) C 0 (c_M_nodeOf l D ha (Y := va_up (va_up Y 6 (np_wv (np_G Y) (Y 6) v)) 5 (np_lvm (np_sv (np_G Y) q) (np_tv q) (np_ld2 Y q y am wd nn) v)) y1 y2 y3 kw y0 (by omega) (np_sib_e (by omega) (by omega) h227)) np_TS_good d_M_load_241 rfl rfl m_391 m_388 m_5 m_390 ms_M_nodeOf hd_M_nodeOf (by decide) rfl rfl (Nat.le_of_ble_eq_true rfl) ?_
          refine np_atw (w2 := (np_mw a cI (va_up (va_up Y 6 (np_wv (np_G Y) (Y 6) (v + 1))) 5 (np_lvm (np_sv (np_G Y) q) (np_tv q) (np_ld2 Y q y am wd nn) v)))) rfl ?_
          refine np_top (y := np_sv (np_G Y) q v) (by unfold np_sv; rw [if_pos h227]; rfl) ?_
          refine np_iastG (pc := 244) C (np_mw a cI) _ 5 5 (np_mD ha _) d_M_load_244 rfl (us_5 a cI _) (by omega) (by decide) ?_
          refine np_aload_n (pc := 245) C d_M_load_245 rfl ?_
          refine np_get (pc := 246) C 0 7 d_M_load_246 rfl rfl rfl (by decide) hin_M m_311 rfl ?_
          refine np_bipush (pc := 249) (v := 15) C d_M_load_249 (by decide) ?_
          refine np_iload (pc := 251) C d_M_load_251 rfl ?_
          refine np_iadd (pc := 253) C d_M_load_253 ?_
          refine np_iload (pc := 254) C d_M_load_254 rfl ?_
          refine np_iconst (pc := 256) (v := 2) C d_M_load_256 (by decide) ?_
          refine np_irem (pc := 257) C (by omega) (by omega) (by omega) d_M_load_257 ?_
          refine np_iastG (pc := 258) C (np_mw a cI) _ 5 5 (np_mD ha _) d_M_load_258 rfl (us_5 a cI _) (by omega) (by decide) ?_
          refine np_atw (w2 := (np_mw a cI (va_up (va_up Y 6 (np_wv (np_G Y) (Y 6) (v + 1))) 5 (np_lm1 (np_sv (np_G Y) q) (np_tv q) v (np_lvm (np_sv (np_G Y) q) (np_tv q) (np_ld2 Y q y am wd nn) v))))) rfl ?_
          refine np_aload_n (pc := 259) C d_M_load_259 rfl ?_
          refine np_get (pc := 260) C 0 7 d_M_load_260 rfl rfl rfl (by decide) hin_M m_311 rfl ?_
          refine np_bipush (pc := 263) (v := 19) C d_M_load_263 (by decide) ?_
          refine np_iload (pc := 265) C d_M_load_265 rfl ?_
          refine np_iadd (pc := 267) C d_M_load_267 ?_
          refine np_aload_n (pc := 268) C d_M_load_268 rfl ?_
          refine np_iload (pc := 269) C d_M_load_269 rfl ?_
          refine np_iconst (pc := 271) (v := 1) C d_M_load_271 (by decide) ?_
          refine np_cVi (pc := 272) C 0 (c_M_turned_1 l D ha (Y := va_up (va_up Y 6 (np_wv (np_G Y) (Y 6) (v + 1))) 5 (np_lm1 (np_sv (np_G Y) q) (np_tv q) v (np_lvm (np_sv (np_G Y) q) (np_tv q) (np_ld2 Y q y am wd nn) v))) (by omega) m1) np_TS_good d_M_load_272 rfl rfl m_399 m_396 m_5 m_398 ms_M_turned hd_M_turned (by decide) rfl rfl (Nat.le_of_ble_eq_true rfl) ?_
          refine np_iastG (pc := 275) C (np_mw a cI) _ 5 5 (np_mD ha _) d_M_load_275 rfl (us_5 a cI _) (by omega) (by decide) ?_
          refine np_atw (w2 := (np_mw a cI (va_up (va_up Y 6 (np_wv (np_G Y) (Y 6) (v + 1))) 5 (np_lm2 v (np_lm1 (np_sv (np_G Y) q) (np_tv q) v (np_lvm (np_sv (np_G Y) q) (np_tv q) (np_ld2 Y q y am wd nn) v)))))) rfl ?_
          refine np_aload_n (pc := 276) C d_M_load_276 rfl ?_
          refine np_get (pc := 277) C 0 7 d_M_load_277 rfl rfl rfl (by decide) hin_M m_311 rfl ?_
          refine np_bipush (pc := 280) (v := 23) C d_M_load_280 (by decide) ?_
          refine np_iload (pc := 282) C d_M_load_282 rfl ?_
          refine np_iadd (pc := 284) C d_M_load_284 ?_
          refine np_aload_n (pc := 285) C d_M_load_285 rfl ?_
          refine np_iload (pc := 286) C d_M_load_286 rfl ?_
          refine np_iconst (pc := 288) (v := 0) C d_M_load_288 (by decide) ?_
          refine np_cVi (pc := 289) C 0 (c_M_turned_0 l D ha (Y := va_up (va_up Y 6 (np_wv (np_G Y) (Y 6) (v + 1))) 5 (np_lm2 v (np_lm1 (np_sv (np_G Y) q) (np_tv q) v (np_lvm (np_sv (np_G Y) q) (np_tv q) (np_ld2 Y q y am wd nn) v)))) (by omega) (np_ok_lm2 m1)) np_TS_good d_M_load_289 rfl rfl m_399 m_396 m_5 m_398 ms_M_turned hd_M_turned (by decide) rfl rfl (Nat.le_of_ble_eq_true rfl) ?_
          refine np_iastG (pc := 292) C (np_mw a cI) _ 5 5 (np_mD ha _) d_M_load_292 rfl (us_5 a cI _) (by omega) (by decide) ?_
          refine np_atw (w2 := (np_mw a cI (va_up (va_up Y 6 (np_wv (np_G Y) (Y 6) (v + 1))) 5 (np_lm3 v (np_lm2 v (np_lm1 (np_sv (np_G Y) q) (np_tv q) v (np_lvm (np_sv (np_G Y) q) (np_tv q) (np_ld2 Y q y am wd nn) v))))))) rfl ?_
          refine np_aload_n (pc := 293) C d_M_load_293 rfl ?_
          refine np_iconst (pc := 294) (v := 3) C d_M_load_294 (by decide) ?_
          refine np_iload (pc := 295) C d_M_load_295 rfl ?_
          refine np_iadd (pc := 297) C d_M_load_297 ?_
          refine np_cVv (pc := 298) C 0 (c_M_fill l D ha (Y := va_up (va_up Y 6 (np_wv (np_G Y) (Y 6) (v + 1))) 5 (np_lm3 v (np_lm2 v (np_lm1 (np_sv (np_G Y) q) (np_tv q) v (np_lvm (np_sv (np_G Y) q) (np_tv q) (np_ld2 Y q y am wd nn) v))))) (by omega) (np_ok_lm3 (np_ok_lm2 m1))) np_TS_good d_M_load_298 rfl rfl m_379 m_376 m_5 m_378 ms_M_fill hd_M_fill (by decide) rfl rfl (Nat.le_of_ble_eq_true rfl) ?_
          refine np_iinc (pc := 301) C d_M_load_301 rfl (np_inc1 _) (by decide) rfl ?_
          refine np_goto (pc := 304) (tgt := 195) C d_M_load_304 rfl ?_
          refine np_at (vs2 := [some (.ref (a 0)), some (.int (nI q)), some (.int (nI y)), some (.int (nI am)), some (.int (nI wd)), some (.int (nI nn)), some (.int (nI (np_own (Y 1 q)))), some (.int (nI (v + 1))), some (.int (nI (q / 2 ^ v)))]) rfl ?_
          refine np_atw (w2 := (np_mw a cI (va_up (va_up Y 6 (np_wv (np_G Y) (Y 6) (v + 1))) 5 (np_lvm (np_sv (np_G Y) q) (np_tv q) (np_ld2 Y q y am wd nn) (v + 1))))) rfl ?_
          exact ih (v + 1) _ (by omega) cq cy co ca cw cn
  have bts : ∀ (r i : Nat), i + r = 8 → q < Y 0 0 → y < 4 → np_own (Y 1 q) < 4 → am < 256 → wd < 256 → nn < 65537 → np_V p l e (np_rm (6, 144)) s m ([.ref (a 0), .int (nI q), .int (nI y), .int (nI am), .int (nI wd), .int (nI nn)] : List Value).toArray below meth c 0 0 D np_cls (np_ad a 7) (MQ below (np_Qc D np_cls (np_ad a 7) (some (.int (nI (np_ldRY Y q y am wd nn)))) (np_mw a cI (np_ldXY Y q y am wd nn))) ([.ref (a 0), .int (nI q), .int (nI y), .int (nI am), .int (nI wd), .int (nI nn)] : List Value).toArray s 0 0 (np_ad a 7)) 9 (np_mw a cI (va_up Y 5 (np_bts (np_ld0 Y q y am wd nn) am i))) 148 [some (.ref (a 0)), some (.int (nI q)), some (.int (nI y)), some (.int (nI am)), some (.int (nI wd)), some (.int (nI nn)), some (.int (nI (np_own (Y 1 q)))), some (.int (nI i)), none] [] := by
    intro r
    induction r with
    | zero =>
      intro i hi cq cy co ca cw cn
      obtain rfl : i = 8 := by omega
      have k0 : np_ok (np_bts (np_ld0 Y q y am wd nn) am 8) := np_ok_bts (np_ok_upd (np_ok_upd (np_ok_upd (np_ok_upd (np_ok_upd (np_ok_upd (np_ok_upd y5 (by omega)) (by omega)) (y2 _)) (y3 _)) (np_hh_lt _ _)) (by omega)) cn) _ _
      refine np_iload (pc := 148) C d_M_load_148 rfl ?_
      refine np_bipush (pc := 150) (v := 8) C d_M_load_150 (by decide) ?_
      refine np_icmp_ge (pc := 152) (tgt := 177) C (by omega) (by omega) d_M_load_152 rfl (fun h152 => ?_) (fun h152 => ?_)
      · refine np_aload_n (pc := 177) C d_M_load_177 rfl ?_
        refine np_iconst (pc := 178) (v := 0) C d_M_load_178 (by decide) ?_
        refine np_cVv (pc := 179) C 0 (c_M_fill l D ha (Y := va_up Y 5 (np_bts (np_ld0 Y q y am wd nn) am 8)) (by omega) k0) np_TS_good d_M_load_179 rfl rfl m_379 m_376 m_5 m_378 ms_M_fill hd_M_fill (by decide) rfl rfl (Nat.le_of_ble_eq_true rfl) ?_
        refine np_atw (w2 := (np_mw a cI (va_up Y 5 (np_fil (np_bts (np_ld0 Y q y am wd nn) am 8) 0 0 9)))) rfl ?_
        refine np_aload_n (pc := 182) C d_M_load_182 rfl ?_
        refine np_iconst (pc := 183) (v := 1) C d_M_load_183 (by decide) ?_
        refine np_cVv (pc := 184) C 0 (c_M_fill l D ha (Y := va_up Y 5 (np_fil (np_bts (np_ld0 Y q y am wd nn) am 8) 0 0 9)) (by omega) (np_ok_fil _ _ _ _ k0)) np_TS_good d_M_load_184 rfl rfl m_379 m_376 m_5 m_378 ms_M_fill hd_M_fill (by decide) rfl rfl (Nat.le_of_ble_eq_true rfl) ?_
        refine np_atw (w2 := (np_mw a cI (va_up Y 5 (np_fil (np_fil (np_bts (np_ld0 Y q y am wd nn) am 8) 0 0 9) 1 0 9)))) rfl ?_
        refine np_aload_n (pc := 187) C d_M_load_187 rfl ?_
        refine np_iconst (pc := 188) (v := 2) C d_M_load_188 (by decide) ?_
        refine np_cVv (pc := 189) C 0 (c_M_fill l D ha (Y := va_up Y 5 (np_fil (np_fil (np_bts (np_ld0 Y q y am wd nn) am 8) 0 0 9) 1 0 9)) (by omega) (np_ok_fil _ _ _ _ (np_ok_fil _ _ _ _ k0))) np_TS_good d_M_load_189 rfl rfl m_379 m_376 m_5 m_378 ms_M_fill hd_M_fill (by decide) rfl rfl (Nat.le_of_ble_eq_true rfl) ?_
        refine np_iconst (pc := 192) (v := 0) C d_M_load_192 (by decide) ?_
        refine np_istore (pc := 193) C d_M_load_193 (by decide) rfl ?_
        refine np_at (vs2 := [some (.ref (a 0)), some (.int (nI q)), some (.int (nI y)), some (.int (nI am)), some (.int (nI wd)), some (.int (nI nn)), some (.int (nI (np_own (Y 1 q)))), some (.int (nI 0)), none]) rfl ?_
        refine np_atw (w2 := (np_mw a cI (va_up (va_up Y 6 (np_wv (np_G Y) (Y 6) 0)) 5 (np_lvm (np_sv (np_G Y) q) (np_tv q) (np_ld2 Y q y am wd nn) 0)))) rfl ?_
        exact lvl 4 0 none rfl cq cy co ca cw cn
      · exfalso; omega
    | succ r ih =>
      intro i hi cq cy co ca cw cn
      have hd := Nat.div_le_self am (2 ^ i)
      refine np_iload (pc := 148) C d_M_load_148 rfl ?_
      refine np_bipush (pc := 150) (v := 8) C d_M_load_150 (by decide) ?_
      refine np_icmp_ge (pc := 152) (tgt := 177) C (by omega) (by omega) d_M_load_152 rfl (fun h152 => ?_) (fun h152 => ?_)
      · exfalso; omega
      · refine np_aload_n (pc := 155) C d_M_load_155 rfl ?_
        refine np_get (pc := 156) C 0 7 d_M_load_156 rfl rfl rfl (by decide) hin_M m_311 rfl ?_
        refine np_bipush (pc := 159) (v := 27) C d_M_load_159 (by decide) ?_
        refine np_iload (pc := 161) C d_M_load_161 rfl ?_
        refine np_iadd (pc := 163) C d_M_load_163 ?_
        refine np_iload_n (pc := 164) C d_M_load_164 rfl ?_
        refine np_iload (pc := 165) C d_M_load_165 rfl ?_
        refine np_ishr (pc := 167) C (by omega) (by omega) d_M_load_167 ?_
        refine np_iconst (pc := 168) (v := 1) C d_M_load_168 (by decide) ?_
        refine np_iand1 (pc := 169) C (by omega) d_M_load_169 ?_
        refine np_iastG (pc := 170) C (np_mw a cI) _ 5 5 (np_mD ha _) d_M_load_170 rfl (us_5 a cI _) (by omega) (by decide) ?_
        refine np_iinc (pc := 171) C d_M_load_171 rfl (np_inc1 _) (by decide) rfl ?_
        refine np_goto (pc := 174) (tgt := 148) C d_M_load_174 rfl ?_
        refine np_at (vs2 := [some (.ref (a 0)), some (.int (nI q)), some (.int (nI y)), some (.int (nI am)), some (.int (nI wd)), some (.int (nI nn)), some (.int (nI (np_own (Y 1 q)))), some (.int (nI (i + 1))), none]) rfl ?_
        refine np_atw (w2 := (np_mw a cI (va_up Y 5 (np_bts (np_ld0 Y q y am wd nn) am (i + 1))))) rfl ?_
        exact ih (i + 1) (by omega) cq cy co ca cw cn
  refine np_iload_n (pc := 0) C d_M_load_0 rfl ?_
  refine np_if_lt (pc := 1) (tgt := 20) C (by omega) d_M_load_1 rfl (fun h1 => ?_) (fun h1 => ?_)
  · refine np_bipush (pc := 20) (v := 4294967294) C d_M_load_20 (by decide) ?_
    exact np_iret (pc := 22) C d_M_load_22 (by unfold np_ldRY; (repeat' split) <;> first | omega | rfl) (by unfold np_ldXY; (repeat' split) <;> first | (exfalso; omega) | rfl)
  · refine np_iload_n (pc := 4) C d_M_load_4 rfl ?_
    refine np_aload_n (pc := 5) C d_M_load_5 rfl ?_
    refine np_get (pc := 6) C 0 0 d_M_load_6 rfl rfl rfl (by decide) hin_M m_304 rfl ?_
    refine np_icmp_ge (pc := 9) (tgt := 20) C (by omega) (by omega) d_M_load_9 rfl (fun h9 => ?_) (fun h9 => ?_)
    · refine np_bipush (pc := 20) (v := 4294967294) C d_M_load_20 (by decide) ?_
      exact np_iret (pc := 22) C d_M_load_22 (by unfold np_ldRY; (repeat' split) <;> first | omega | rfl) (by unfold np_ldXY; (repeat' split) <;> first | (exfalso; omega) | rfl)
    · refine np_iload_n (pc := 12) C d_M_load_12 rfl ?_
      refine np_iconst (pc := 13) (v := 3) C d_M_load_13 (by decide) ?_
      refine np_cSi (pc := 14) C (c_M_outside l D (by omega) (by omega)) np_TS_good d_M_load_14 m_339 m_337 m_5 m_338 hd_M_outside (by decide) rfl rfl (Nat.le_of_ble_eq_true rfl) ?_
      refine np_ifz_eq (pc := 17) (tgt := 23) C d_M_load_17 rfl (fun h17 => ?_) (fun h17 => ?_)
      · refine np_aload_n (pc := 23) C d_M_load_23 rfl ?_
        refine np_iload_n (pc := 24) C d_M_load_24 rfl ?_
        refine np_cVi (pc := 25) C 0 (c_M_ownerOf l D ha y1 (by omega)) np_TS_good d_M_load_25 rfl rfl m_375 m_372 m_5 m_374 ms_M_ownerOf hd_M_ownerOf (by decide) rfl rfl (Nat.le_of_ble_eq_true rfl) ?_
        refine np_istore (pc := 28) C d_M_load_28 (by decide) rfl ?_
        refine np_iload (pc := 30) C d_M_load_30 rfl ?_
        refine np_iconst (pc := 32) (v := 4294967295) C d_M_load_32 (by decide) ?_
        refine np_icmp_ne (pc := 33) (tgt := 38) C (by first | exact np_own_lt _ | omega) (by first | exact np_own_lt _ | omega) d_M_load_33 rfl (fun h33 => ?_) (fun h33 => ?_)
        · refine np_iload_n (pc := 38) C d_M_load_38 rfl ?_
          refine np_sipush (pc := 39) (v := 255) C d_M_load_39 (by decide) ?_
          refine np_cSi (pc := 42) C (c_M_outside l D (by omega) (by omega)) np_TS_good d_M_load_42 m_339 m_337 m_5 m_338 hd_M_outside (by decide) rfl rfl (Nat.le_of_ble_eq_true rfl) ?_
          refine np_ifz_ne (pc := 45) (tgt := 69) C d_M_load_45 rfl (fun h45 => ?_) (fun h45 => ?_)
          · refine np_bipush (pc := 69) (v := 4294967293) C d_M_load_69 (by decide) ?_
            exact np_iret (pc := 71) C d_M_load_71 (by unfold np_ldRY; (repeat' split) <;> first | omega | rfl) (by unfold np_ldXY; (repeat' split) <;> first | (exfalso; omega) | rfl)
          · refine np_iload (pc := 48) C d_M_load_48 rfl ?_
            refine np_sipush (pc := 50) (v := 255) C d_M_load_50 (by decide) ?_
            refine np_cSi (pc := 53) C (c_M_outside l D (by omega) (by omega)) np_TS_good d_M_load_53 m_339 m_337 m_5 m_338 hd_M_outside (by decide) rfl rfl (Nat.le_of_ble_eq_true rfl) ?_
            refine np_ifz_ne (pc := 56) (tgt := 69) C d_M_load_56 rfl (fun h56 => ?_) (fun h56 => ?_)
            · refine np_bipush (pc := 69) (v := 4294967293) C d_M_load_69 (by decide) ?_
              exact np_iret (pc := 71) C d_M_load_71 (by unfold np_ldRY; (repeat' split) <;> first | omega | rfl) (by unfold np_ldXY; (repeat' split) <;> first | (exfalso; omega) | rfl)
            · refine np_iload (pc := 59) C d_M_load_59 rfl ?_
              refine np_ldc (pc := 61) (v := 65536) C m_336 (by decide) d_M_load_61 ?_
              refine np_cSi (pc := 63) C (c_M_outside l D (by omega) (by omega)) np_TS_good d_M_load_63 m_339 m_337 m_5 m_338 hd_M_outside (by decide) rfl rfl (Nat.le_of_ble_eq_true rfl) ?_
              refine np_ifz_eq (pc := 66) (tgt := 72) C d_M_load_66 rfl (fun h66 => ?_) (fun h66 => ?_)
              · refine np_aload_n (pc := 72) C d_M_load_72 rfl ?_
                refine np_get (pc := 73) C 0 7 d_M_load_73 rfl rfl rfl (by decide) hin_M m_311 rfl ?_
                refine np_iconst (pc := 76) (v := 4) C d_M_load_76 (by decide) ?_
                refine np_iload (pc := 77) C d_M_load_77 rfl ?_
                refine np_iastG (pc := 79) C (np_mw a cI) _ 5 5 (np_mD ha _) d_M_load_79 rfl (us_5 a cI _) (by omega) (by decide) ?_
                refine np_aload_n (pc := 80) C d_M_load_80 rfl ?_
                refine np_get (pc := 81) C 0 7 d_M_load_81 rfl rfl rfl (by decide) hin_M m_311 rfl ?_
                refine np_iconst (pc := 84) (v := 5) C d_M_load_84 (by decide) ?_
                refine np_bipush (pc := 85) (v := 100) C d_M_load_85 (by decide) ?_
                refine np_iload (pc := 87) C d_M_load_87 rfl ?_
                refine np_iadd (pc := 89) C d_M_load_89 ?_
                refine np_iastG (pc := 90) C (np_mw a cI) _ 5 5 (np_mD ha _) d_M_load_90 rfl (us_5 a cI _) (by omega) (by decide) ?_
                refine np_aload_n (pc := 91) C d_M_load_91 rfl ?_
                refine np_get (pc := 92) C 0 7 d_M_load_92 rfl rfl rfl (by decide) hin_M m_311 rfl ?_
                refine np_bipush (pc := 95) (v := 6) C d_M_load_95 (by decide) ?_
                refine np_aload_n (pc := 97) C d_M_load_97 rfl ?_
                refine np_get (pc := 98) C 0 2 d_M_load_98 rfl rfl rfl (by decide) hin_M m_306 rfl ?_
                refine np_iload_n (pc := 101) C d_M_load_101 rfl ?_
                refine np_iald (pc := 102) C 2 d_M_load_102 rfl (by omega) (by decide) ?_
                refine np_iastG (pc := 103) C (np_mw a cI) _ 5 5 (np_mD ha _) d_M_load_103 rfl (us_5 a cI _) (by omega) (by decide) ?_
                refine np_aload_n (pc := 104) C d_M_load_104 rfl ?_
                refine np_get (pc := 105) C 0 7 d_M_load_105 rfl rfl rfl (by decide) hin_M m_311 rfl ?_
                refine np_bipush (pc := 108) (v := 7) C d_M_load_108 (by decide) ?_
                refine np_aload_n (pc := 110) C d_M_load_110 rfl ?_
                refine np_get (pc := 111) C 0 3 d_M_load_111 rfl rfl rfl (by decide) hin_M m_307 rfl ?_
                refine np_iload_n (pc := 114) C d_M_load_114 rfl ?_
                refine np_iald (pc := 115) C 3 d_M_load_115 rfl (by omega) (by decide) ?_
                refine np_iastG (pc := 116) C (np_mw a cI) _ 5 5 (np_mD ha _) d_M_load_116 rfl (us_5 a cI _) (by omega) (by decide) ?_
                refine np_aload_n (pc := 117) C d_M_load_117 rfl ?_
                refine np_get (pc := 118) C 0 7 d_M_load_118 rfl rfl rfl (by decide) hin_M m_311 rfl ?_
                refine np_bipush (pc := 121) (v := 8) C d_M_load_121 (by decide) ?_
                refine np_iload_n (pc := 123) C d_M_load_123 rfl ?_
                refine np_cSi (pc := 124) C (c_M_accountKey l D (by omega)) np_TS_good d_M_load_124 m_363 m_361 m_5 m_362 hd_M_accountKey (by decide) rfl rfl (Nat.le_of_ble_eq_true rfl) ?_
                refine np_iastG (pc := 127) C (np_mw a cI) _ 5 5 (np_mD ha _) d_M_load_127 rfl (us_5 a cI _) (by omega) (by decide) ?_
                refine np_aload_n (pc := 128) C d_M_load_128 rfl ?_
                refine np_get (pc := 129) C 0 7 d_M_load_129 rfl rfl rfl (by decide) hin_M m_311 rfl ?_
                refine np_bipush (pc := 132) (v := 9) C d_M_load_132 (by decide) ?_
                refine np_iload_n (pc := 134) C d_M_load_134 rfl ?_
                refine np_iastG (pc := 135) C (np_mw a cI) _ 5 5 (np_mD ha _) d_M_load_135 rfl (us_5 a cI _) (by omega) (by decide) ?_
                refine np_aload_n (pc := 136) C d_M_load_136 rfl ?_
                refine np_get (pc := 137) C 0 7 d_M_load_137 rfl rfl rfl (by decide) hin_M m_311 rfl ?_
                refine np_bipush (pc := 140) (v := 10) C d_M_load_140 (by decide) ?_
                refine np_iload (pc := 142) C d_M_load_142 rfl ?_
                refine np_iastG (pc := 144) C (np_mw a cI) _ 5 5 (np_mD ha _) d_M_load_144 rfl (us_5 a cI _) (by omega) (by decide) ?_
                refine np_iconst (pc := 145) (v := 0) C d_M_load_145 (by decide) ?_
                refine np_istore (pc := 146) C d_M_load_146 (by decide) rfl ?_
                refine np_at (vs2 := [some (.ref (a 0)), some (.int (nI q)), some (.int (nI y)), some (.int (nI am)), some (.int (nI wd)), some (.int (nI nn)), some (.int (nI (np_own (Y 1 q)))), some (.int (nI 0)), none]) rfl ?_
                refine np_atw (w2 := (np_mw a cI (va_up Y 5 (np_bts (np_ld0 Y q y am wd nn) am 0)))) rfl ?_
                exact bts 8 0 rfl (by omega) (by omega) (np_own_4 h33) (by omega) (by omega) (by omega)
              · refine np_bipush (pc := 69) (v := 4294967293) C d_M_load_69 (by decide) ?_
                exact np_iret (pc := 71) C d_M_load_71 (by unfold np_ldRY; (repeat' split) <;> first | omega | rfl) (by unfold np_ldXY; (repeat' split) <;> first | (exfalso; omega) | rfl)
        · refine np_iconst (pc := 36) (v := 4294967295) C d_M_load_36 (by decide) ?_
          exact np_iret (pc := 37) C d_M_load_37 (by unfold np_ldRY; (repeat' split) <;> first | omega | rfl) (by unfold np_ldXY; (repeat' split) <;> first | (exfalso; omega) | rfl)
      · refine np_bipush (pc := 20) (v := 4294967294) C d_M_load_20 (by decide) ?_
        exact np_iret (pc := 22) C d_M_load_22 (by unfold np_ldRY; (repeat' split) <;> first | omega | rfl) (by unfold np_ldXY; (repeat' split) <;> first | (exfalso; omega) | rfl)
set_option maxRecDepth 20000 in
set_option maxHeartbeats 4000000 in
theorem c_M_submit (l : Launch) (D : va_G) {cI : ClassId} {a : Nat → Nat} (ha : np_inj a 7) {Y : np_X} (hY : np_YI Y) (y6 : np_ok (Y 6)) : np_M l D cI (np_ad a 7) (8, 183) y_M_submit b_M_submit 1 (some .int) [.ref (a 0)] (np_mw a cI Y) (some (.int (nI (np_suRY Y)))) (np_mw a cI (np_suXY Y)) := by
  refine np_Ct.of (np_Sm_St _) (by decide) (Nat.le_of_ble_eq_true rfl) ?_
  intro p e s m below meth c C
  refine np_at (vs2 := [some (.ref (a 0))]) rfl ?_
  obtain ⟨y0, ys, y1, y2, y3, y4, y5⟩ := hY
  refine np_aload_n (pc := 0) C d_M_submit_0 rfl ?_
  refine np_cVi (pc := 1) C 0 (c_M_fault l D ha y5) np_TS_good d_M_submit_1 rfl rfl m_403 m_400 m_5 m_401 m_402 hd_M_fault (by decide) rfl rfl (Nat.le_of_ble_eq_true rfl) ?_
  refine np_iconst (pc := 4) (v := 4294967295) C d_M_submit_4 (by decide) ?_
  refine np_icmp_eq (pc := 5) (tgt := 11) C (by first | exact np_flt_lt _ 115 0 rfl | omega) (by first | exact np_flt_lt _ 115 0 rfl | omega) d_M_submit_5 rfl (fun h5 => ?_) (fun h5 => ?_)
  · refine np_aload_n (pc := 11) C d_M_submit_11 rfl ?_
    refine np_get (pc := 12) C 0 7 d_M_submit_12 rfl rfl rfl (by decide) hin_M m_311 rfl ?_
    refine np_iconst (pc := 15) (v := 4) C d_M_submit_15 (by decide) ?_
    refine np_iald (pc := 16) C 5 d_M_submit_16 rfl (by omega) (by decide) ?_
    refine np_sipush (pc := 17) (v := 255) C d_M_submit_17 (by decide) ?_
    refine np_icmp_le (pc := 20) (tgt := 26) C (by have := y5 4; omega) (by have := y5 4; omega) d_M_submit_20 rfl (fun h20 => ?_) (fun h20 => ?_)
    · refine np_aload_n (pc := 26) C d_M_submit_26 rfl ?_
      refine np_aload_n (pc := 27) C d_M_submit_27 rfl ?_
      refine np_get (pc := 28) C 0 7 d_M_submit_28 rfl rfl rfl (by decide) hin_M m_311 rfl ?_
      refine np_iconst (pc := 31) (v := 1) C d_M_submit_31 (by decide) ?_
      refine np_iald (pc := 32) C 5 d_M_submit_32 rfl (by omega) (by decide) ?_
      refine np_cVi (pc := 33) C 0 (c_M_isRecent l D ha ⟨y0, ys, y1, y2, y3, y4, y5⟩ y6 (y5 1)) np_TS_good d_M_submit_33 rfl rfl m_436 m_433 m_5 m_435 ms_M_isRecent hd_M_isRecent (by decide) rfl rfl (Nat.le_of_ble_eq_true rfl) ?_
      have hZ : ∀ j, j ≠ 6 → np_irX Y (Y 5 1) 0 4 j = Y j := fun j hj => np_irX_eq 4 Y _ _ hj
      have hw2 : np_suXY Y = np_suXZ Y (np_irX Y (Y 5 1) 0 4) := by rw [np_suXY, if_pos h5, if_pos h20]
      rw [hw2]
      generalize np_irX Y (Y 5 1) 0 4 = Z at hZ ⊢
      have z0 := hZ 0 (by decide)
      have z4 := hZ 4 (by decide)
      have z5 := hZ 5 (by decide)
      have k5 : np_ok (Z 5) := by rw [z5]; exact y5
      have k4 : np_ok (Z 4) := by rw [z4]; exact y4
      have kc : Z 0 0 ≤ 16 := by rw [z0]; exact y0
      have ks : Z 0 1 ≤ Z 0 0 := by rw [z0]; exact ys
      refine np_ifz_ne (pc := 36) (tgt := 42) C d_M_submit_36 rfl (fun h36 => ?_) (fun h36 => ?_)
      · refine np_aload_n (pc := 42) C d_M_submit_42 rfl ?_
        refine np_aload_n (pc := 43) C d_M_submit_43 rfl ?_
        refine np_get (pc := 44) C 0 7 d_M_submit_44 rfl rfl rfl (by decide) hin_M m_311 rfl ?_
        refine np_iconst (pc := 47) (v := 2) C d_M_submit_47 (by decide) ?_
        refine np_iald (pc := 48) C 5 d_M_submit_48 rfl (by omega) (by decide) ?_
        refine np_cVi (pc := 49) C 0 (c_M_isUsed l D ha (k5 _) (by omega) k4) np_TS_good d_M_submit_49 rfl rfl m_444 m_441 m_5 m_443 ms_M_isUsed hd_M_isUsed (by decide) rfl rfl (Nat.le_of_ble_eq_true rfl) ?_
        refine np_ifz_eq (pc := 52) (tgt := 58) C d_M_submit_52 rfl (fun h52 => ?_) (fun h52 => ?_)
        · refine np_aload_n (pc := 58) C d_M_submit_58 rfl ?_
          refine np_get (pc := 59) C 0 0 d_M_submit_59 rfl rfl rfl (by decide) hin_M m_304 rfl ?_
          refine np_bipush (pc := 62) (v := 16) C d_M_submit_62 (by decide) ?_
          refine np_icmp_ne (pc := 64) (tgt := 70) C (by omega) (by omega) d_M_submit_64 rfl (fun h64 => ?_) (fun h64 => ?_)
          · refine np_aload_n (pc := 70) C d_M_submit_70 rfl ?_
            refine np_get (pc := 71) C 0 5 d_M_submit_71 rfl rfl rfl (by decide) hin_M m_309 rfl ?_
            refine np_aload_n (pc := 74) C d_M_submit_74 rfl ?_
            refine np_get (pc := 75) C 0 4 d_M_submit_75 rfl rfl rfl (by decide) hin_M m_308 rfl ?_
            refine np_top (y := Z 0 1) rfl ?_
            refine np_aload_n (pc := 78) C d_M_submit_78 rfl ?_
            refine np_get (pc := 79) C 0 7 d_M_submit_79 rfl rfl rfl (by decide) hin_M m_311 rfl ?_
            refine np_iconst (pc := 82) (v := 2) C d_M_submit_82 (by decide) ?_
            refine np_iald (pc := 83) C 5 d_M_submit_83 rfl (by omega) (by decide) ?_
            refine np_iastG (pc := 84) C (np_mw a cI) _ 4 4 (np_mD ha _) d_M_submit_84 rfl (us_4 a cI _) (by omega) (by decide) ?_
            refine np_aload_n (pc := 85) C d_M_submit_85 rfl ?_
            refine np_dup (pc := 86) C rfl d_M_submit_86 ?_
            refine np_get (pc := 87) C 0 4 d_M_submit_87 rfl rfl rfl (by decide) hin_M m_308 rfl ?_
            refine np_top (y := Z 0 1) rfl ?_
            refine np_iconst (pc := 90) (v := 1) C d_M_submit_90 (by decide) ?_
            refine np_iadd (pc := 91) C d_M_submit_91 ?_
            refine np_putG (pc := 92) C (np_mw a cI) _ 0 4 1 (np_mD ha _) d_M_submit_92 rfl (up_4 a cI _) rfl (by decide) hin_M ty_M tyok_M nm_M m_308 rfl rfl rfl (Nat.le_of_ble_eq_true rfl) ?_
            refine np_aload_n (pc := 95) C d_M_submit_95 rfl ?_
            refine np_aload_n (pc := 96) C d_M_submit_96 rfl ?_
            refine np_get (pc := 97) C 0 6 d_M_submit_97 rfl rfl rfl (by decide) hin_M m_310 rfl ?_
            refine np_top (y := Z 0 2) rfl ?_
            refine np_aload_n (pc := 100) C d_M_submit_100 rfl ?_
            refine np_get (pc := 101) C 0 7 d_M_submit_101 rfl rfl rfl (by decide) hin_M m_311 rfl ?_
            refine np_iconst (pc := 104) (v := 4) C d_M_submit_104 (by decide) ?_
            refine np_iald (pc := 105) C 5 d_M_submit_105 rfl (by omega) (by decide) ?_
            refine np_top (y := Z 5 4) rfl ?_
            have hq4 := k5 4
            refine np_isubW (pc := 106) C (by omega) d_M_submit_106 ?_
            refine np_putG (pc := 107) C (np_mw a cI) _ 0 6 2 (np_mD ha _) d_M_submit_107 rfl (up_6 a cI _) rfl (by decide) hin_M ty_M tyok_M nm_M m_310 rfl rfl rfl (Nat.le_of_ble_eq_true rfl) ?_
            refine np_aload_n (pc := 110) C d_M_submit_110 rfl ?_
            refine np_aload_n (pc := 111) C d_M_submit_111 rfl ?_
            refine np_get (pc := 112) C 0 7 d_M_submit_112 rfl rfl rfl (by decide) hin_M m_311 rfl ?_
            refine np_bipush (pc := 115) (v := 8) C d_M_submit_115 (by decide) ?_
            refine np_iald (pc := 117) C 5 d_M_submit_117 rfl (by omega) (by decide) ?_
            refine np_aload_n (pc := 118) C d_M_submit_118 rfl ?_
            refine np_get (pc := 119) C 0 7 d_M_submit_119 rfl rfl rfl (by decide) hin_M m_311 rfl ?_
            refine np_bipush (pc := 122) (v := 9) C d_M_submit_122 (by decide) ?_
            refine np_iald (pc := 124) C 5 d_M_submit_124 rfl (by omega) (by decide) ?_
            refine np_aload_n (pc := 125) C d_M_submit_125 rfl ?_
            refine np_get (pc := 126) C 0 7 d_M_submit_126 rfl rfl rfl (by decide) hin_M m_311 rfl ?_
            refine np_bipush (pc := 129) (v := 10) C d_M_submit_129 (by decide) ?_
            refine np_iald (pc := 131) C 5 d_M_submit_131 rfl (by omega) (by decide) ?_
            refine np_atw (w2 := np_mw a cI (np_suBY Z)) rfl ?_
            refine np_atst (st2 := [.int (nI (Z 5 10)), .int (nI (Z 5 9)), .int (nI (Z 5 8)), .ref (a 0)]) rfl ?_
            refine np_cVi (pc := 132) C 0 (c_M_make l D ha (Y := np_suBY Z) (show Z 0 0 < 16 by omega)) np_TS_good d_M_submit_132 rfl rfl m_367 m_364 m_5 m_366 ms_M_make hd_M_make (by decide) rfl rfl (Nat.le_of_ble_eq_true rfl) ?_
            exact np_iret (pc := 135) C d_M_submit_135 (by unfold np_suRY; rw [if_pos h5, if_pos h20, if_pos h36, if_neg (z0 ▸ z4 ▸ z5 ▸ h52), if_neg (by rw [← z0]; exact h64), ← z0]; rfl) (by unfold np_suXZ; rw [if_pos h36, if_neg h52, if_neg h64])
          · refine np_bipush (pc := 67) (v := 4294967289) C d_M_submit_67 (by decide) ?_
            exact np_iret (pc := 69) C d_M_submit_69 (by unfold np_suRY; rw [if_pos h5, if_pos h20, if_pos h36, if_neg (z0 ▸ z4 ▸ z5 ▸ h52), if_pos (by rw [← z0]; exact h64)]) (by unfold np_suXZ; rw [if_pos h36, if_neg h52, if_pos h64])
        · refine np_bipush (pc := 55) (v := 4294967290) C d_M_submit_55 (by decide) ?_
          exact np_iret (pc := 57) C d_M_submit_57 (by unfold np_suRY; rw [if_pos h5, if_pos h20, if_pos h36, if_pos (z0 ▸ z4 ▸ z5 ▸ h52)]) (by unfold np_suXZ; rw [if_pos h36, if_pos h52])
      · refine np_bipush (pc := 39) (v := 4294967291) C d_M_submit_39 (by decide) ?_
        exact np_iret (pc := 41) C d_M_submit_41 (by unfold np_suRY; rw [if_pos h5, if_pos h20, if_neg h36]) (by unfold np_suXZ; rw [if_neg h36])
    · refine np_bipush (pc := 23) (v := 4294967292) C d_M_submit_23 (by decide) ?_
      exact np_iret (pc := 25) C d_M_submit_25 (by unfold np_suRY; rw [if_pos h5, if_neg (by omega)]) (by unfold np_suXY; rw [if_pos h5, if_neg (by omega)])
  · refine np_bipush (pc := 8) (v := 4294967293) C d_M_submit_8 (by decide) ?_
    exact np_iret (pc := 10) C d_M_submit_10 (by unfold np_suRY; rw [if_neg h5]) (by unfold np_suXY; rw [if_neg h5])
