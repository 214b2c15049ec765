theorem np_gw_in {a : Nat → Nat} {cI : ClassId} {X : np_X} {k : Nat} {x : Nat × va_E} (h : (np_gw a cI X)[k]? = some x) : ∃ i, i < 12 ∧ x.1 = a i := by
  have h2 : ((np_gw a cI X).map Prod.fst)[k]? = some x.1 := by rw [List.getElem?_map, h]; rfl
  have e : (np_gw a cI X).map Prod.fst = (List.range 12).map a := rfl
  rw [e, List.getElem?_map] at h2
  by_cases hi : k < 12
  · rw [List.getElem?_range hi] at h2; exact ⟨k, hi, (Option.some.inj h2).symm⟩
  · rw [List.getElem?_eq_none (by simp; omega)] at h2; cases h2
theorem np_mw_in {a : Nat → Nat} {cI : ClassId} {X : np_X} {k : Nat} {x : Nat × va_E} (h : (np_mw a cI X)[k]? = some x) : ∃ i, i < 7 ∧ x.1 = a i := by
  have h2 : ((np_mw a cI X).map Prod.fst)[k]? = some x.1 := by rw [List.getElem?_map, h]; rfl
  have e : (np_mw a cI X).map Prod.fst = (List.range 7).map a := rfl
  rw [e, List.getElem?_map] at h2
  by_cases hi : k < 7
  · rw [List.getElem?_range hi] at h2; exact ⟨k, hi, (Option.some.inj h2).symm⟩
  · rw [List.getElem?_eq_none (by simp; omega)] at h2; cases h2
set_option maxRecDepth 20000 in
set_option maxHeartbeats 4000000 in
theorem lw_case_0 {p : Program} {l : Launch} {e : Env} {s : State} {m : MethodId} {below : List Frame} {meth : Method} {c : Code} {b L : Nat} {xs : Nat → Int32} {xn : Nat → Nat} {D : va_G} {cI : ClassId} {t a d : Nat → Nat} {A : Nat → Prop} (C : np_Cx p s m #[Value.ref b] meth c code 4 R_law ret np_TS D np_cls cI A (np_Sc A t)) (hxn : ∀ j, xs j = nI (xn j)) (xl : ∀ j, xn j < 4294967296) (hsX : va_X b L xs s s.heap) (hbl : b < s.heap.size) (hbA : ¬ A b) (hL : L ≤ 3072) (ha : np_inj a 12) (hd : np_inj d 7) (haA : ∀ x, np_ad a 12 x → A x) (hdA : ∀ x, np_ad d 7 x → A x) (hap : ∀ i j, i < 12 → j < 7 → a i ≠ d j) {X Y : np_X} {i : Nat} (hR : np_R2 X Y) (hi : i + 6 ≤ L) (kk : ∀ X2 Y2 : np_X, np_R2 X2 Y2 → np_V p l e room_1 s m #[Value.ref b] below meth c 19 470 D np_cls A (lw_Z below #[Value.ref b] s) 4 (np_gw a cI X2 ++ np_mw d cI Y2) 574 [some (.ref b), some (.ref (a 0)), some (.ref (d 0)), some (.int (nI i))] []) : np_V p l e room_1 s m #[Value.ref b] below meth c 19 470 D np_cls A (lw_Z below #[Value.ref b] s) 4 (np_gw a cI X ++ np_mw d cI Y) 120 [some (.ref b), some (.ref (a 0)), some (.ref (d 0)), some (.int (nI i))] [] := by
  have hX := hR.1.1
  have hY := hR.1.2.1
  have hY6 := hR.2
  refine np_aload_n (pc := 120) C d_L_law_120 rfl ?_
  refine np_aload_n (pc := 121) C d_L_law_121 rfl ?_
  refine np_iload_n (pc := 122) C d_L_law_122 rfl ?_
  refine np_iconst (pc := 123) (v := 1) C d_L_law_123 (by decide) ?_
  refine np_iadd (pc := 124) C d_L_law_124 ?_
  refine np_sld (pc := 125) C hxn hsX hbl hbA (by omega) (by omega) d_L_law_125 ?_
  refine np_aload_n (pc := 126) C d_L_law_126 rfl ?_
  refine np_iload_n (pc := 127) C d_L_law_127 rfl ?_
  refine np_iconst (pc := 128) (v := 2) C d_L_law_128 (by decide) ?_
  refine np_iadd (pc := 129) C d_L_law_129 ?_
  refine np_sld (pc := 130) C hxn hsX hbl hbA (by omega) (by omega) d_L_law_130 ?_
  refine np_cF (pc := 131) (w1 := np_gw a cI X) (w1' := np_gw a cI X) (w2 := np_mw d cI Y) (w' := np_gw a cI X ++ np_mw d cI Y) C 0 (c_P_hash l D t ha hX (xl _) (xl _)) (np_Sc_St _ t) (fun U H h => np_Sc.less h haA) haA (fun k x hx => by obtain ⟨j, hj, ej⟩ := np_mw_in hx; rintro ⟨i0, hi0, ei⟩; exact hap i0 j hi0 hj (by rw [← ei, ← ej])) (fun H h => np_Psplit h) (fun H h1 h2 => va_P.app h1 h2) d_L_law_131 rfl rfl m_106 m_103 m_1 m_104 m_105 hd_P_hash (by decide) (by decide) rfl rfl (Nat.le_of_ble_eq_true rfl) ?_
  refine np_aload_n (pc := 134) C d_L_law_134 rfl ?_
  refine np_aload_n (pc := 135) C d_L_law_135 rfl ?_
  refine np_iload_n (pc := 136) C d_L_law_136 rfl ?_
  refine np_iconst (pc := 137) (v := 1) C d_L_law_137 (by decide) ?_
  refine np_iadd (pc := 138) C d_L_law_138 ?_
  refine np_sld (pc := 139) C hxn hsX hbl hbA (by omega) (by omega) d_L_law_139 ?_
  refine np_aload_n (pc := 140) C d_L_law_140 rfl ?_
  refine np_iload_n (pc := 141) C d_L_law_141 rfl ?_
  refine np_iconst (pc := 142) (v := 2) C d_L_law_142 (by decide) ?_
  refine np_iadd (pc := 143) C d_L_law_143 ?_
  refine np_sld (pc := 144) C hxn hsX hbl hbA (by omega) (by omega) d_L_law_144 ?_
  refine np_cF (pc := 145) (w1 := np_mw d cI Y) (w1' := np_mw d cI Y) (w2 := np_gw a cI X) (w' := np_gw a cI X ++ np_mw d cI Y) C 0 (c_M_hash l D hd (Y := Y) (xl _) (xl _)) (np_Sm_St _) (fun _ _ _ => trivial) hdA (fun k x hx => by obtain ⟨j, hj, ej⟩ := np_gw_in hx; rintro ⟨i0, hi0, ei⟩; exact hap j i0 hj hi0 (by rw [← ei, ← ej])) (fun H h => (np_Psplit h).symm) (fun H h1 h2 => va_P.app h2 h1) d_L_law_145 rfl rfl m_335 m_332 m_5 m_333 m_334 hd_M_hash (by decide) (by decide) rfl rfl (Nat.le_of_ble_eq_true rfl) ?_
  refine np_same (pc := 148) (tgt := 574) C rfl d_L_law_148 rfl ?_
  exact kk _ _ hR
set_option maxRecDepth 20000 in
set_option maxHeartbeats 4000000 in
theorem lw_case_1 {p : Program} {l : Launch} {e : Env} {s : State} {m : MethodId} {below : List Frame} {meth : Method} {c : Code} {b L : Nat} {xs : Nat → Int32} {xn : Nat → Nat} {D : va_G} {cI : ClassId} {t a d : Nat → Nat} {A : Nat → Prop} (C : np_Cx p s m #[Value.ref b] meth c code 4 R_law ret np_TS D np_cls cI A (np_Sc A t)) (hxn : ∀ j, xs j = nI (xn j)) (xl : ∀ j, xn j < 4294967296) (hsX : va_X b L xs s s.heap) (hbl : b < s.heap.size) (hbA : ¬ A b) (hL : L ≤ 3072) (ha : np_inj a 12) (hd : np_inj d 7) (haA : ∀ x, np_ad a 12 x → A x) (hdA : ∀ x, np_ad d 7 x → A x) (hap : ∀ i j, i < 12 → j < 7 → a i ≠ d j) {X Y : np_X} {i : Nat} (hR : np_R2 X Y) (hi : i + 6 ≤ L) (kk : ∀ X2 Y2 : np_X, np_R2 X2 Y2 → np_V p l e room_1 s m #[Value.ref b] below meth c 19 470 D np_cls A (lw_Z below #[Value.ref b] s) 4 (np_gw a cI X2 ++ np_mw d cI Y2) 574 [some (.ref b), some (.ref (a 0)), some (.ref (d 0)), some (.int (nI i))] []) : np_V p l e room_1 s m #[Value.ref b] below meth c 19 470 D np_cls A (lw_Z below #[Value.ref b] s) 4 (np_gw a cI X ++ np_mw d cI Y) 153 [some (.ref b), some (.ref (a 0)), some (.ref (d 0)), some (.int (nI i))] [] := by
  have hX := hR.1.1
  have hY := hR.1.2.1
  have hY6 := hR.2
  refine np_aload_n (pc := 153) C d_L_law_153 rfl ?_
  refine np_aload_n (pc := 154) C d_L_law_154 rfl ?_
  refine np_iload_n (pc := 155) C d_L_law_155 rfl ?_
  refine np_iconst (pc := 156) (v := 1) C d_L_law_156 (by decide) ?_
  refine np_iadd (pc := 157) C d_L_law_157 ?_
  refine np_sld (pc := 158) C hxn hsX hbl hbA (by omega) (by omega) d_L_law_158 ?_
  refine np_aload_n (pc := 159) C d_L_law_159 rfl ?_
  refine np_iload_n (pc := 160) C d_L_law_160 rfl ?_
  refine np_iconst (pc := 161) (v := 2) C d_L_law_161 (by decide) ?_
  refine np_iadd (pc := 162) C d_L_law_162 ?_
  refine np_sld (pc := 163) C hxn hsX hbl hbA (by omega) (by omega) d_L_law_163 ?_
  refine np_aload_n (pc := 164) C d_L_law_164 rfl ?_
  refine np_iload_n (pc := 165) C d_L_law_165 rfl ?_
  refine np_iconst (pc := 166) (v := 3) C d_L_law_166 (by decide) ?_
  refine np_iadd (pc := 167) C d_L_law_167 ?_
  refine np_sld (pc := 168) C hxn hsX hbl hbA (by omega) (by omega) d_L_law_168 ?_
  refine np_cF (pc := 169) (w1 := np_gw a cI X) (w1' := np_gw a cI (np_depX X (xn (i + 1)) (xn (i + 2)) (xn (i + 3)))) (w2 := np_mw d cI Y) (w' := np_gw a cI (np_depX X (xn (i + 1)) (xn (i + 2)) (xn (i + 3))) ++ np_mw d cI Y) C 0 (c_P_deposit l D t ha hX (xl _) (xl _) (xl _)) (np_Sc_St _ t) (fun U H h => np_Sc.less h haA) haA (fun k x hx => by obtain ⟨j, hj, ej⟩ := np_mw_in hx; rintro ⟨i0, hi0, ei⟩; exact hap i0 j hi0 hj (by rw [← ei, ← ej])) (fun H h => np_Psplit h) (fun H h1 h2 => va_P.app h1 h2) d_L_law_169 rfl rfl m_113 m_110 m_1 m_111 m_112 hd_P_deposit (by decide) (by decide) rfl rfl (Nat.le_of_ble_eq_true rfl) ?_
  refine np_aload_n (pc := 172) C d_L_law_172 rfl ?_
  refine np_aload_n (pc := 173) C d_L_law_173 rfl ?_
  refine np_iload_n (pc := 174) C d_L_law_174 rfl ?_
  refine np_iconst (pc := 175) (v := 1) C d_L_law_175 (by decide) ?_
  refine np_iadd (pc := 176) C d_L_law_176 ?_
  refine np_sld (pc := 177) C hxn hsX hbl hbA (by omega) (by omega) d_L_law_177 ?_
  refine np_aload_n (pc := 178) C d_L_law_178 rfl ?_
  refine np_iload_n (pc := 179) C d_L_law_179 rfl ?_
  refine np_iconst (pc := 180) (v := 2) C d_L_law_180 (by decide) ?_
  refine np_iadd (pc := 181) C d_L_law_181 ?_
  refine np_sld (pc := 182) C hxn hsX hbl hbA (by omega) (by omega) d_L_law_182 ?_
  refine np_aload_n (pc := 183) C d_L_law_183 rfl ?_
  refine np_iload_n (pc := 184) C d_L_law_184 rfl ?_
  refine np_iconst (pc := 185) (v := 3) C d_L_law_185 (by decide) ?_
  refine np_iadd (pc := 186) C d_L_law_186 ?_
  refine np_sld (pc := 187) C hxn hsX hbl hbA (by omega) (by omega) d_L_law_187 ?_
  refine np_cF (pc := 188) (w1 := np_mw d cI Y) (w1' := np_mw d cI (np_depXY Y (xn (i + 1)) (xn (i + 2)) (xn (i + 3)))) (w2 := np_gw a cI (np_depX X (xn (i + 1)) (xn (i + 2)) (xn (i + 3)))) (w' := np_gw a cI (np_depX X (xn (i + 1)) (xn (i + 2)) (xn (i + 3))) ++ np_mw d cI (np_depXY Y (xn (i + 1)) (xn (i + 2)) (xn (i + 3)))) C 0 (c_M_deposit l D hd hY.1 (xl _) (xl _) (xl _)) (np_Sm_St _) (fun _ _ _ => trivial) hdA (fun k x hx => by obtain ⟨j, hj, ej⟩ := np_gw_in hx; rintro ⟨i0, hi0, ei⟩; exact hap j i0 hj hi0 (by rw [← ei, ← ej])) (fun H h => (np_Psplit h).symm) (fun H h1 h2 => va_P.app h2 h1) d_L_law_188 rfl rfl m_360 m_357 m_5 m_358 m_359 hd_M_deposit (by decide) (by decide) rfl rfl (Nat.le_of_ble_eq_true rfl) ?_
  refine np_same (pc := 191) (tgt := 574) C (np_a_dep hR _ _ _).1 d_L_law_191 rfl ?_
  exact kk _ _ (np_a_dep hR _ _ _).2
set_option maxRecDepth 20000 in
set_option maxHeartbeats 4000000 in
theorem lw_case_2 {p : Program} {l : Launch} {e : Env} {s : State} {m : MethodId} {below : List Frame} {meth : Method} {c : Code} {b L : Nat} {xs : Nat → Int32} {xn : Nat → Nat} {D : va_G} {cI : ClassId} {t a d : Nat → Nat} {A : Nat → Prop} (C : np_Cx p s m #[Value.ref b] meth c code 4 R_law ret np_TS D np_cls cI A (np_Sc A t)) (hxn : ∀ j, xs j = nI (xn j)) (xl : ∀ j, xn j < 4294967296) (hsX : va_X b L xs s s.heap) (hbl : b < s.heap.size) (hbA : ¬ A b) (hL : L ≤ 3072) (ha : np_inj a 12) (hd : np_inj d 7) (haA : ∀ x, np_ad a 12 x → A x) (hdA : ∀ x, np_ad d 7 x → A x) (hap : ∀ i j, i < 12 → j < 7 → a i ≠ d j) {X Y : np_X} {i : Nat} (hR : np_R2 X Y) (hi : i + 6 ≤ L) (kk : ∀ X2 Y2 : np_X, np_R2 X2 Y2 → np_V p l e room_1 s m #[Value.ref b] below meth c 19 470 D np_cls A (lw_Z below #[Value.ref b] s) 4 (np_gw a cI X2 ++ np_mw d cI Y2) 574 [some (.ref b), some (.ref (a 0)), some (.ref (d 0)), some (.int (nI i))] []) : np_V p l e room_1 s m #[Value.ref b] below meth c 19 470 D np_cls A (lw_Z below #[Value.ref b] s) 4 (np_gw a cI X ++ np_mw d cI Y) 196 [some (.ref b), some (.ref (a 0)), some (.ref (d 0)), some (.int (nI i))] [] := by
  have hX := hR.1.1
  have hY := hR.1.2.1
  have hY6 := hR.2
  refine np_aload_n (pc := 196) C d_L_law_196 rfl ?_
  refine np_aload_n (pc := 197) C d_L_law_197 rfl ?_
  refine np_iload_n (pc := 198) C d_L_law_198 rfl ?_
  refine np_iconst (pc := 199) (v := 1) C d_L_law_199 (by decide) ?_
  refine np_iadd (pc := 200) C d_L_law_200 ?_
  refine np_sld (pc := 201) C hxn hsX hbl hbA (by omega) (by omega) d_L_law_201 ?_
  refine np_aload_n (pc := 202) C d_L_law_202 rfl ?_
  refine np_iload_n (pc := 203) C d_L_law_203 rfl ?_
  refine np_iconst (pc := 204) (v := 2) C d_L_law_204 (by decide) ?_
  refine np_iadd (pc := 205) C d_L_law_205 ?_
  refine np_sld (pc := 206) C hxn hsX hbl hbA (by omega) (by omega) d_L_law_206 ?_
  refine np_aload_n (pc := 207) C d_L_law_207 rfl ?_
  refine np_iload_n (pc := 208) C d_L_law_208 rfl ?_
  refine np_iconst (pc := 209) (v := 3) C d_L_law_209 (by decide) ?_
  refine np_iadd (pc := 210) C d_L_law_210 ?_
  refine np_sld (pc := 211) C hxn hsX hbl hbA (by omega) (by omega) d_L_law_211 ?_
  refine np_aload_n (pc := 212) C d_L_law_212 rfl ?_
  refine np_iload_n (pc := 213) C d_L_law_213 rfl ?_
  refine np_iconst (pc := 214) (v := 4) C d_L_law_214 (by decide) ?_
  refine np_iadd (pc := 215) C d_L_law_215 ?_
  refine np_sld (pc := 216) C hxn hsX hbl hbA (by omega) (by omega) d_L_law_216 ?_
  refine np_aload_n (pc := 217) C d_L_law_217 rfl ?_
  refine np_iload_n (pc := 218) C d_L_law_218 rfl ?_
  refine np_iconst (pc := 219) (v := 5) C d_L_law_219 (by decide) ?_
  refine np_iadd (pc := 220) C d_L_law_220 ?_
  refine np_sld (pc := 221) C hxn hsX hbl hbA (by omega) (by omega) d_L_law_221 ?_
  refine np_cF (pc := 222) (w1 := np_gw a cI X) (w1' := np_gw a cI (np_ldX X (xn (i + 1)) (xn (i + 2)) (xn (i + 3)) (xn (i + 4)) (xn (i + 5)))) (w2 := np_mw d cI Y) (w' := np_gw a cI (np_ldX X (xn (i + 1)) (xn (i + 2)) (xn (i + 3)) (xn (i + 4)) (xn (i + 5))) ++ np_mw d cI Y) C 0 (c_P_load l D t ha hX (xl _) (xl _) (xl _) (xl _) (xl _)) (np_Sc_St _ t) (fun U H h => np_Sc.less h haA) haA (fun k x hx => by obtain ⟨j, hj, ej⟩ := np_mw_in hx; rintro ⟨i0, hi0, ei⟩; exact hap i0 j hi0 hj (by rw [← ei, ← ej])) (fun H h => np_Psplit h) (fun H h1 h2 => va_P.app h1 h2) d_L_law_222 rfl rfl m_144 m_141 m_1 m_142 m_143 hd_P_load (by decide) (by decide) rfl rfl (Nat.le_of_ble_eq_true rfl) ?_
  refine np_aload_n (pc := 225) C d_L_law_225 rfl ?_
  refine np_aload_n (pc := 226) C d_L_law_226 rfl ?_
  refine np_iload_n (pc := 227) C d_L_law_227 rfl ?_
  refine np_iconst (pc := 228) (v := 1) C d_L_law_228 (by decide) ?_
  refine np_iadd (pc := 229) C d_L_law_229 ?_
  refine np_sld (pc := 230) C hxn hsX hbl hbA (by omega) (by omega) d_L_law_230 ?_
  refine np_aload_n (pc := 231) C d_L_law_231 rfl ?_
  refine np_iload_n (pc := 232) C d_L_law_232 rfl ?_
  refine np_iconst (pc := 233) (v := 2) C d_L_law_233 (by decide) ?_
  refine np_iadd (pc := 234) C d_L_law_234 ?_
  refine np_sld (pc := 235) C hxn hsX hbl hbA (by omega) (by omega) d_L_law_235 ?_
  refine np_aload_n (pc := 236) C d_L_law_236 rfl ?_
  refine np_iload_n (pc := 237) C d_L_law_237 rfl ?_
  refine np_iconst (pc := 238) (v := 3) C d_L_law_238 (by decide) ?_
  refine np_iadd (pc := 239) C d_L_law_239 ?_
  refine np_sld (pc := 240) C hxn hsX hbl hbA (by omega) (by omega) d_L_law_240 ?_
  refine np_aload_n (pc := 241) C d_L_law_241 rfl ?_
  refine np_iload_n (pc := 242) C d_L_law_242 rfl ?_
  refine np_iconst (pc := 243) (v := 4) C d_L_law_243 (by decide) ?_
  refine np_iadd (pc := 244) C d_L_law_244 ?_
  refine np_sld (pc := 245) C hxn hsX hbl hbA (by omega) (by omega) d_L_law_245 ?_
  refine np_aload_n (pc := 246) C d_L_law_246 rfl ?_
  refine np_iload_n (pc := 247) C d_L_law_247 rfl ?_
  refine np_iconst (pc := 248) (v := 5) C d_L_law_248 (by decide) ?_
  refine np_iadd (pc := 249) C d_L_law_249 ?_
  refine np_sld (pc := 250) C hxn hsX hbl hbA (by omega) (by omega) d_L_law_250 ?_
  refine np_cF (pc := 251) (w1 := np_mw d cI Y) (w1' := np_mw d cI (np_ldXY Y (xn (i + 1)) (xn (i + 2)) (xn (i + 3)) (xn (i + 4)) (xn (i + 5)))) (w2 := np_gw a cI (np_ldX X (xn (i + 1)) (xn (i + 2)) (xn (i + 3)) (xn (i + 4)) (xn (i + 5)))) (w' := np_gw a cI (np_ldX X (xn (i + 1)) (xn (i + 2)) (xn (i + 3)) (xn (i + 4)) (xn (i + 5))) ++ np_mw d cI (np_ldXY Y (xn (i + 1)) (xn (i + 2)) (xn (i + 3)) (xn (i + 4)) (xn (i + 5)))) C 0 (c_M_load l D hd hY hY6 (xl _) (xl _) (xl _) (xl _) (xl _)) (np_Sm_St _) (fun _ _ _ => trivial) hdA (fun k x hx => by obtain ⟨j, hj, ej⟩ := np_gw_in hx; rintro ⟨i0, hi0, ei⟩; exact hap j i0 hj hi0 (by rw [← ei, ← ej])) (fun H h => (np_Psplit h).symm) (fun H h1 h2 => va_P.app h2 h1) d_L_law_251 rfl rfl m_371 m_368 m_5 m_369 m_370 hd_M_load (by decide) (by decide) rfl rfl (Nat.le_of_ble_eq_true rfl) ?_
  refine np_same (pc := 254) (tgt := 574) C (np_a_load hR _ _ _ _ _).1 d_L_law_254 rfl ?_
  exact kk _ _ (np_a_load hR _ _ _ _ _).2
set_option maxRecDepth 20000 in
set_option maxHeartbeats 4000000 in
theorem lw_case_3 {p : Program} {l : Launch} {e : Env} {s : State} {m : MethodId} {below : List Frame} {meth : Method} {c : Code} {b L : Nat} {xs : Nat → Int32} {xn : Nat → Nat} {D : va_G} {cI : ClassId} {t a d : Nat → Nat} {A : Nat → Prop} (C : np_Cx p s m #[Value.ref b] meth c code 4 R_law ret np_TS D np_cls cI A (np_Sc A t)) (hxn : ∀ j, xs j = nI (xn j)) (xl : ∀ j, xn j < 4294967296) (hsX : va_X b L xs s s.heap) (hbl : b < s.heap.size) (hbA : ¬ A b) (hL : L ≤ 3072) (ha : np_inj a 12) (hd : np_inj d 7) (haA : ∀ x, np_ad a 12 x → A x) (hdA : ∀ x, np_ad d 7 x → A x) (hap : ∀ i j, i < 12 → j < 7 → a i ≠ d j) {X Y : np_X} {i : Nat} (hR : np_R2 X Y) (hi : i + 6 ≤ L) (kk : ∀ X2 Y2 : np_X, np_R2 X2 Y2 → np_V p l e room_1 s m #[Value.ref b] below meth c 19 470 D np_cls A (lw_Z below #[Value.ref b] s) 4 (np_gw a cI X2 ++ np_mw d cI Y2) 574 [some (.ref b), some (.ref (a 0)), some (.ref (d 0)), some (.int (nI i))] []) : np_V p l e room_1 s m #[Value.ref b] below meth c 19 470 D np_cls A (lw_Z below #[Value.ref b] s) 4 (np_gw a cI X ++ np_mw d cI Y) 259 [some (.ref b), some (.ref (a 0)), some (.ref (d 0)), some (.int (nI i))] [] := by
  have hX := hR.1.1
  have hY := hR.1.2.1
  have hY6 := hR.2
  refine np_aload_n (pc := 259) C d_L_law_259 rfl ?_
  refine np_aload_n (pc := 260) C d_L_law_260 rfl ?_
  refine np_iload_n (pc := 261) C d_L_law_261 rfl ?_
  refine np_iconst (pc := 262) (v := 1) C d_L_law_262 (by decide) ?_
  refine np_iadd (pc := 263) C d_L_law_263 ?_
  refine np_sld (pc := 264) C hxn hsX hbl hbA (by omega) (by omega) d_L_law_264 ?_
  refine np_aload_n (pc := 265) C d_L_law_265 rfl ?_
  refine np_iload_n (pc := 266) C d_L_law_266 rfl ?_
  refine np_iconst (pc := 267) (v := 2) C d_L_law_267 (by decide) ?_
  refine np_iadd (pc := 268) C d_L_law_268 ?_
  refine np_sld (pc := 269) C hxn hsX hbl hbA (by omega) (by omega) d_L_law_269 ?_
  refine np_cF (pc := 270) (w1 := np_gw a cI X) (w1' := np_gw a cI (np_stX X (xn (i + 1)) (xn (i + 2)))) (w2 := np_mw d cI Y) (w' := np_gw a cI (np_stX X (xn (i + 1)) (xn (i + 2))) ++ np_mw d cI Y) C 0 (c_P_set l D t ha hX (xl _) (xl _)) (np_Sc_St _ t) (fun U H h => np_Sc.less h haA) haA (fun k x hx => by obtain ⟨j, hj, ej⟩ := np_mw_in hx; rintro ⟨i0, hi0, ei⟩; exact hap i0 j hi0 hj (by rw [← ei, ← ej])) (fun H h => np_Psplit h) (fun H h1 h2 => va_P.app h1 h2) d_L_law_270 rfl rfl m_212 m_209 m_1 m_210 m_211 hd_P_set (by decide) (by decide) rfl rfl (Nat.le_of_ble_eq_true rfl) ?_
  refine np_aload_n (pc := 273) C d_L_law_273 rfl ?_
  refine np_aload_n (pc := 274) C d_L_law_274 rfl ?_
  refine np_iload_n (pc := 275) C d_L_law_275 rfl ?_
  refine np_iconst (pc := 276) (v := 1) C d_L_law_276 (by decide) ?_
  refine np_iadd (pc := 277) C d_L_law_277 ?_
  refine np_sld (pc := 278) C hxn hsX hbl hbA (by omega) (by omega) d_L_law_278 ?_
  refine np_aload_n (pc := 279) C d_L_law_279 rfl ?_
  refine np_iload_n (pc := 280) C d_L_law_280 rfl ?_
  refine np_iconst (pc := 281) (v := 2) C d_L_law_281 (by decide) ?_
  refine np_iadd (pc := 282) C d_L_law_282 ?_
  refine np_sld (pc := 283) C hxn hsX hbl hbA (by omega) (by omega) d_L_law_283 ?_
  refine np_cF (pc := 284) (w1 := np_mw d cI Y) (w1' := np_mw d cI (if (xn (i + 1)) < 125 ∧ (xn (i + 1)) ≠ 0 ∧ (xn (i + 2)) < 65537 then va_up Y 5 (updN (Y 5) (xn (i + 1)) (xn (i + 2))) else Y)) (w2 := np_gw a cI (np_stX X (xn (i + 1)) (xn (i + 2)))) (w' := np_gw a cI (np_stX X (xn (i + 1)) (xn (i + 2))) ++ np_mw d cI (if (xn (i + 1)) < 125 ∧ (xn (i + 1)) ≠ 0 ∧ (xn (i + 2)) < 65537 then va_up Y 5 (updN (Y 5) (xn (i + 1)) (xn (i + 2))) else Y)) C 0 (c_M_set l D hd hY hY6 (xl _) (xl _)) (np_Sm_St _) (fun _ _ _ => trivial) hdA (fun k x hx => by obtain ⟨j, hj, ej⟩ := np_gw_in hx; rintro ⟨i0, hi0, ei⟩; exact hap j i0 hj hi0 (by rw [← ei, ← ej])) (fun H h => (np_Psplit h).symm) (fun H h1 h2 => va_P.app h2 h1) d_L_law_284 rfl rfl m_423 m_420 m_5 m_421 m_422 hd_M_set (by decide) (by decide) rfl rfl (Nat.le_of_ble_eq_true rfl) ?_
  refine np_same (pc := 287) (tgt := 574) C rfl d_L_law_287 rfl ?_
  exact kk _ _ (np_a_set hR _ _)
set_option maxRecDepth 20000 in
set_option maxHeartbeats 4000000 in
theorem lw_case_4 {p : Program} {l : Launch} {e : Env} {s : State} {m : MethodId} {below : List Frame} {meth : Method} {c : Code} {b L : Nat} {xs : Nat → Int32} {xn : Nat → Nat} {D : va_G} {cI : ClassId} {t a d : Nat → Nat} {A : Nat → Prop} (C : np_Cx p s m #[Value.ref b] meth c code 4 R_law ret np_TS D np_cls cI A (np_Sc A t)) (hxn : ∀ j, xs j = nI (xn j)) (xl : ∀ j, xn j < 4294967296) (hsX : va_X b L xs s s.heap) (hbl : b < s.heap.size) (hbA : ¬ A b) (hL : L ≤ 3072) (ha : np_inj a 12) (hd : np_inj d 7) (haA : ∀ x, np_ad a 12 x → A x) (hdA : ∀ x, np_ad d 7 x → A x) (hap : ∀ i j, i < 12 → j < 7 → a i ≠ d j) {X Y : np_X} {i : Nat} (hR : np_R2 X Y) (hi : i + 6 ≤ L) (kk : ∀ X2 Y2 : np_X, np_R2 X2 Y2 → np_V p l e room_1 s m #[Value.ref b] below meth c 19 470 D np_cls A (lw_Z below #[Value.ref b] s) 4 (np_gw a cI X2 ++ np_mw d cI Y2) 574 [some (.ref b), some (.ref (a 0)), some (.ref (d 0)), some (.int (nI i))] []) : np_V p l e room_1 s m #[Value.ref b] below meth c 19 470 D np_cls A (lw_Z below #[Value.ref b] s) 4 (np_gw a cI X ++ np_mw d cI Y) 292 [some (.ref b), some (.ref (a 0)), some (.ref (d 0)), some (.int (nI i))] [] := by
  have hX := hR.1.1
  have hY := hR.1.2.1
  have hY6 := hR.2
  refine np_aload_n (pc := 292) C d_L_law_292 rfl ?_
  refine np_aload_n (pc := 293) C d_L_law_293 rfl ?_
  refine np_iload_n (pc := 294) C d_L_law_294 rfl ?_
  refine np_iconst (pc := 295) (v := 1) C d_L_law_295 (by decide) ?_
  refine np_iadd (pc := 296) C d_L_law_296 ?_
  refine np_sld (pc := 297) C hxn hsX hbl hbA (by omega) (by omega) d_L_law_297 ?_
  refine np_cF (pc := 298) (w1 := np_gw a cI X) (w1' := np_gw a cI X) (w2 := np_mw d cI Y) (w' := np_gw a cI X ++ np_mw d cI Y) C 0 (c_P_get l D t ha hX (xl _)) (np_Sc_St _ t) (fun U H h => np_Sc.less h haA) haA (fun k x hx => by obtain ⟨j, hj, ej⟩ := np_mw_in hx; rintro ⟨i0, hi0, ei⟩; exact hap i0 j hi0 hj (by rw [← ei, ← ej])) (fun H h => np_Psplit h) (fun H h1 h2 => va_P.app h1 h2) d_L_law_298 rfl rfl m_219 m_216 m_1 m_217 m_218 hd_P_get (by decide) (by decide) rfl rfl (Nat.le_of_ble_eq_true rfl) ?_
  refine np_aload_n (pc := 301) C d_L_law_301 rfl ?_
  refine np_aload_n (pc := 302) C d_L_law_302 rfl ?_
  refine np_iload_n (pc := 303) C d_L_law_303 rfl ?_
  refine np_iconst (pc := 304) (v := 1) C d_L_law_304 (by decide) ?_
  refine np_iadd (pc := 305) C d_L_law_305 ?_
  refine np_sld (pc := 306) C hxn hsX hbl hbA (by omega) (by omega) d_L_law_306 ?_
  refine np_cF (pc := 307) (w1 := np_mw d cI Y) (w1' := np_mw d cI Y) (w2 := np_gw a cI X) (w' := np_gw a cI X ++ np_mw d cI Y) C 0 (c_M_get l D hd hY hY6 (xl _)) (np_Sm_St _) (fun _ _ _ => trivial) hdA (fun k x hx => by obtain ⟨j, hj, ej⟩ := np_gw_in hx; rintro ⟨i0, hi0, ei⟩; exact hap j i0 hj hi0 (by rw [← ei, ← ej])) (fun H h => (np_Psplit h).symm) (fun H h1 h2 => va_P.app h2 h1) d_L_law_307 rfl rfl m_427 m_424 m_5 m_425 m_426 hd_M_get (by decide) (by decide) rfl rfl (Nat.le_of_ble_eq_true rfl) ?_
  refine np_same (pc := 310) (tgt := 574) C (by rw [np_a_get hR.1]) d_L_law_310 rfl ?_
  exact kk _ _ hR
set_option maxRecDepth 20000 in
set_option maxHeartbeats 4000000 in
theorem lw_case_5 {p : Program} {l : Launch} {e : Env} {s : State} {m : MethodId} {below : List Frame} {meth : Method} {c : Code} {b L : Nat} {xs : Nat → Int32} {xn : Nat → Nat} {D : va_G} {cI : ClassId} {t a d : Nat → Nat} {A : Nat → Prop} (C : np_Cx p s m #[Value.ref b] meth c code 4 R_law ret np_TS D np_cls cI A (np_Sc A t)) (hxn : ∀ j, xs j = nI (xn j)) (xl : ∀ j, xn j < 4294967296) (hsX : va_X b L xs s s.heap) (hbl : b < s.heap.size) (hbA : ¬ A b) (hL : L ≤ 3072) (ha : np_inj a 12) (hd : np_inj d 7) (haA : ∀ x, np_ad a 12 x → A x) (hdA : ∀ x, np_ad d 7 x → A x) (hap : ∀ i j, i < 12 → j < 7 → a i ≠ d j) {X Y : np_X} {i : Nat} (hR : np_R2 X Y) (hi : i + 6 ≤ L) (kk : ∀ X2 Y2 : np_X, np_R2 X2 Y2 → np_V p l e room_1 s m #[Value.ref b] below meth c 19 470 D np_cls A (lw_Z below #[Value.ref b] s) 4 (np_gw a cI X2 ++ np_mw d cI Y2) 574 [some (.ref b), some (.ref (a 0)), some (.ref (d 0)), some (.int (nI i))] []) : np_V p l e room_1 s m #[Value.ref b] below meth c 19 470 D np_cls A (lw_Z below #[Value.ref b] s) 4 (np_gw a cI X ++ np_mw d cI Y) 315 [some (.ref b), some (.ref (a 0)), some (.ref (d 0)), some (.int (nI i))] [] := by
  have hX := hR.1.1
  have hY := hR.1.2.1
  have hY6 := hR.2
  refine np_aload_n (pc := 315) C d_L_law_315 rfl ?_
  refine np_cF (pc := 316) (w1 := np_gw a cI X) (w1' := np_gw a cI X) (w2 := np_mw d cI Y) (w' := np_gw a cI X ++ np_mw d cI Y) C 0 (c_P_fault l D t ha hX) (np_Sc_St _ t) (fun U H h => np_Sc.less h haA) haA (fun k x hx => by obtain ⟨j, hj, ej⟩ := np_mw_in hx; rintro ⟨i0, hi0, ei⟩; exact hap i0 j hi0 hj (by rw [← ei, ← ej])) (fun H h => np_Psplit h) (fun H h1 h2 => va_P.app h1 h2) d_L_law_316 rfl rfl m_223 m_220 m_1 m_221 m_222 hd_P_fault (by decide) (by decide) rfl rfl (Nat.le_of_ble_eq_true rfl) ?_
  refine np_aload_n (pc := 319) C d_L_law_319 rfl ?_
  refine np_cF (pc := 320) (w1 := np_mw d cI Y) (w1' := np_mw d cI Y) (w2 := np_gw a cI X) (w' := np_gw a cI X ++ np_mw d cI Y) C 0 (c_M_fault l D hd hY.2.2.2.2.2.2) (np_Sm_St _) (fun _ _ _ => trivial) hdA (fun k x hx => by obtain ⟨j, hj, ej⟩ := np_gw_in hx; rintro ⟨i0, hi0, ei⟩; exact hap j i0 hj hi0 (by rw [← ei, ← ej])) (fun H h => (np_Psplit h).symm) (fun H h1 h2 => va_P.app h2 h1) d_L_law_320 rfl rfl m_403 m_428 m_5 m_401 m_402 hd_M_fault (by decide) (by decide) rfl rfl (Nat.le_of_ble_eq_true rfl) ?_
  refine np_same (pc := 323) (tgt := 574) C (by rw [np_a_get hR.1]) d_L_law_323 rfl ?_
  exact kk _ _ hR
set_option maxRecDepth 20000 in
set_option maxHeartbeats 4000000 in
theorem lw_case_6 {p : Program} {l : Launch} {e : Env} {s : State} {m : MethodId} {below : List Frame} {meth : Method} {c : Code} {b L : Nat} {xs : Nat → Int32} {xn : Nat → Nat} {D : va_G} {cI : ClassId} {t a d : Nat → Nat} {A : Nat → Prop} (C : np_Cx p s m #[Value.ref b] meth c code 4 R_law ret np_TS D np_cls cI A (np_Sc A t)) (hxn : ∀ j, xs j = nI (xn j)) (xl : ∀ j, xn j < 4294967296) (hsX : va_X b L xs s s.heap) (hbl : b < s.heap.size) (hbA : ¬ A b) (hL : L ≤ 3072) (ha : np_inj a 12) (hd : np_inj d 7) (haA : ∀ x, np_ad a 12 x → A x) (hdA : ∀ x, np_ad d 7 x → A x) (hap : ∀ i j, i < 12 → j < 7 → a i ≠ d j) {X Y : np_X} {i : Nat} (hR : np_R2 X Y) (hi : i + 6 ≤ L) (kk : ∀ X2 Y2 : np_X, np_R2 X2 Y2 → np_V p l e room_1 s m #[Value.ref b] below meth c 19 470 D np_cls A (lw_Z below #[Value.ref b] s) 4 (np_gw a cI X2 ++ np_mw d cI Y2) 574 [some (.ref b), some (.ref (a 0)), some (.ref (d 0)), some (.int (nI i))] []) : np_V p l e room_1 s m #[Value.ref b] below meth c 19 470 D np_cls A (lw_Z below #[Value.ref b] s) 4 (np_gw a cI X ++ np_mw d cI Y) 328 [some (.ref b), some (.ref (a 0)), some (.ref (d 0)), some (.int (nI i))] [] := by
  have hX := hR.1.1
  have hY := hR.1.2.1
  have hY6 := hR.2
  refine np_aload_n (pc := 328) C d_L_law_328 rfl ?_
  refine np_cF (pc := 329) (w1 := np_gw a cI X) (w1' := np_gw a cI (np_suX X)) (w2 := np_mw d cI Y) (w' := np_gw a cI (np_suX X) ++ np_mw d cI Y) C 0 (c_P_submit l D t ha hX) (np_Sc_St _ t) (fun U H h => np_Sc.less h haA) haA (fun k x hx => by obtain ⟨j, hj, ej⟩ := np_mw_in hx; rintro ⟨i0, hi0, ei⟩; exact hap i0 j hi0 hj (by rw [← ei, ← ej])) (fun H h => np_Psplit h) (fun H h1 h2 => va_P.app h1 h2) d_L_law_329 rfl rfl m_227 m_224 m_1 m_225 m_226 hd_P_submit (by decide) (by decide) rfl rfl (Nat.le_of_ble_eq_true rfl) ?_
  refine np_aload_n (pc := 332) C d_L_law_332 rfl ?_
  refine np_cF (pc := 333) (w1 := np_mw d cI Y) (w1' := np_mw d cI (np_suXY Y)) (w2 := np_gw a cI (np_suX X)) (w' := np_gw a cI (np_suX X) ++ np_mw d cI (np_suXY Y)) C 0 (c_M_submit l D hd hY hY6) (np_Sm_St _) (fun _ _ _ => trivial) hdA (fun k x hx => by obtain ⟨j, hj, ej⟩ := np_gw_in hx; rintro ⟨i0, hi0, ei⟩; exact hap j i0 hj hi0 (by rw [← ei, ← ej])) (fun H h => (np_Psplit h).symm) (fun H h1 h2 => va_P.app h2 h1) d_L_law_333 rfl rfl m_432 m_429 m_5 m_430 m_431 hd_M_submit (by decide) (by decide) rfl rfl (Nat.le_of_ble_eq_true rfl) ?_
  refine np_same (pc := 336) (tgt := 574) C (np_a_sub hR).1 d_L_law_336 rfl ?_
  exact kk _ _ (np_a_sub hR).2
set_option maxRecDepth 20000 in
set_option maxHeartbeats 4000000 in
theorem lw_case_7 {p : Program} {l : Launch} {e : Env} {s : State} {m : MethodId} {below : List Frame} {meth : Method} {c : Code} {b L : Nat} {xs : Nat → Int32} {xn : Nat → Nat} {D : va_G} {cI : ClassId} {t a d : Nat → Nat} {A : Nat → Prop} (C : np_Cx p s m #[Value.ref b] meth c code 4 R_law ret np_TS D np_cls cI A (np_Sc A t)) (hxn : ∀ j, xs j = nI (xn j)) (xl : ∀ j, xn j < 4294967296) (hsX : va_X b L xs s s.heap) (hbl : b < s.heap.size) (hbA : ¬ A b) (hL : L ≤ 3072) (ha : np_inj a 12) (hd : np_inj d 7) (haA : ∀ x, np_ad a 12 x → A x) (hdA : ∀ x, np_ad d 7 x → A x) (hap : ∀ i j, i < 12 → j < 7 → a i ≠ d j) {X Y : np_X} {i : Nat} (hR : np_R2 X Y) (hi : i + 6 ≤ L) (kk : ∀ X2 Y2 : np_X, np_R2 X2 Y2 → np_V p l e room_1 s m #[Value.ref b] below meth c 19 470 D np_cls A (lw_Z below #[Value.ref b] s) 4 (np_gw a cI X2 ++ np_mw d cI Y2) 574 [some (.ref b), some (.ref (a 0)), some (.ref (d 0)), some (.int (nI i))] []) : np_V p l e room_1 s m #[Value.ref b] below meth c 19 470 D np_cls A (lw_Z below #[Value.ref b] s) 4 (np_gw a cI X ++ np_mw d cI Y) 341 [some (.ref b), some (.ref (a 0)), some (.ref (d 0)), some (.int (nI i))] [] := by
  have hX := hR.1.1
  have hY := hR.1.2.1
  have hY6 := hR.2
  refine np_aload_n (pc := 341) C d_L_law_341 rfl ?_
  refine np_cF (pc := 342) (w1 := np_gw a cI X) (w1' := np_gw a cI X) (w2 := np_mw d cI Y) (w' := np_gw a cI X ++ np_mw d cI Y) C 0 (c_P_notes l D t ha hX) (np_Sc_St _ t) (fun U H h => np_Sc.less h haA) haA (fun k x hx => by obtain ⟨j, hj, ej⟩ := np_mw_in hx; rintro ⟨i0, hi0, ei⟩; exact hap i0 j hi0 hj (by rw [← ei, ← ej])) (fun H h => np_Psplit h) (fun H h1 h2 => va_P.app h1 h2) d_L_law_342 rfl rfl m_247 m_244 m_1 m_245 m_246 hd_P_notes (by decide) (by decide) rfl rfl (Nat.le_of_ble_eq_true rfl) ?_
  refine np_aload_n (pc := 345) C d_L_law_345 rfl ?_
  refine np_cF (pc := 346) (w1 := np_mw d cI Y) (w1' := np_mw d cI Y) (w2 := np_gw a cI X) (w' := np_gw a cI X ++ np_mw d cI Y) C 0 (c_M_notes l D hd hY hY6) (np_Sm_St _) (fun _ _ _ => trivial) hdA (fun k x hx => by obtain ⟨j, hj, ej⟩ := np_gw_in hx; rintro ⟨i0, hi0, ei⟩; exact hap j i0 hj hi0 (by rw [← ei, ← ej])) (fun H h => (np_Psplit h).symm) (fun H h1 h2 => va_P.app h2 h1) d_L_law_346 rfl rfl m_448 m_445 m_5 m_446 m_447 hd_M_notes (by decide) (by decide) rfl rfl (Nat.le_of_ble_eq_true rfl) ?_
  refine np_same (pc := 349) (tgt := 574) C hR.1.2.2.1.1.symm d_L_law_349 rfl ?_
  exact kk _ _ hR
set_option maxRecDepth 20000 in
set_option maxHeartbeats 4000000 in
theorem lw_case_8 {p : Program} {l : Launch} {e : Env} {s : State} {m : MethodId} {below : List Frame} {meth : Method} {c : Code} {b L : Nat} {xs : Nat → Int32} {xn : Nat → Nat} {D : va_G} {cI : ClassId} {t a d : Nat → Nat} {A : Nat → Prop} (C : np_Cx p s m #[Value.ref b] meth c code 4 R_law ret np_TS D np_cls cI A (np_Sc A t)) (hxn : ∀ j, xs j = nI (xn j)) (xl : ∀ j, xn j < 4294967296) (hsX : va_X b L xs s s.heap) (hbl : b < s.heap.size) (hbA : ¬ A b) (hL : L ≤ 3072) (ha : np_inj a 12) (hd : np_inj d 7) (haA : ∀ x, np_ad a 12 x → A x) (hdA : ∀ x, np_ad d 7 x → A x) (hap : ∀ i j, i < 12 → j < 7 → a i ≠ d j) {X Y : np_X} {i : Nat} (hR : np_R2 X Y) (hi : i + 6 ≤ L) (kk : ∀ X2 Y2 : np_X, np_R2 X2 Y2 → np_V p l e room_1 s m #[Value.ref b] below meth c 19 470 D np_cls A (lw_Z below #[Value.ref b] s) 4 (np_gw a cI X2 ++ np_mw d cI Y2) 574 [some (.ref b), some (.ref (a 0)), some (.ref (d 0)), some (.int (nI i))] []) : np_V p l e room_1 s m #[Value.ref b] below meth c 19 470 D np_cls A (lw_Z below #[Value.ref b] s) 4 (np_gw a cI X ++ np_mw d cI Y) 354 [some (.ref b), some (.ref (a 0)), some (.ref (d 0)), some (.int (nI i))] [] := by
  have hX := hR.1.1
  have hY := hR.1.2.1
  have hY6 := hR.2
  refine np_aload_n (pc := 354) C d_L_law_354 rfl ?_
  refine np_aload_n (pc := 355) C d_L_law_355 rfl ?_
  refine np_iload_n (pc := 356) C d_L_law_356 rfl ?_
  refine np_iconst (pc := 357) (v := 1) C d_L_law_357 (by decide) ?_
  refine np_iadd (pc := 358) C d_L_law_358 ?_
  refine np_sld (pc := 359) C hxn hsX hbl hbA (by omega) (by omega) d_L_law_359 ?_
  refine np_cF (pc := 360) (w1 := np_gw a cI X) (w1' := np_gw a cI X) (w2 := np_mw d cI Y) (w' := np_gw a cI X ++ np_mw d cI Y) C 0 (c_P_commitment l D t ha hX (xl _)) (np_Sc_St _ t) (fun U H h => np_Sc.less h haA) haA (fun k x hx => by obtain ⟨j, hj, ej⟩ := np_mw_in hx; rintro ⟨i0, hi0, ei⟩; exact hap i0 j hi0 hj (by rw [← ei, ← ej])) (fun H h => np_Psplit h) (fun H h1 h2 => va_P.app h1 h2) d_L_law_360 rfl rfl m_251 m_248 m_1 m_249 m_250 hd_P_commitment (by decide) (by decide) rfl rfl (Nat.le_of_ble_eq_true rfl) ?_
  refine np_aload_n (pc := 363) C d_L_law_363 rfl ?_
  refine np_aload_n (pc := 364) C d_L_law_364 rfl ?_
  refine np_iload_n (pc := 365) C d_L_law_365 rfl ?_
  refine np_iconst (pc := 366) (v := 1) C d_L_law_366 (by decide) ?_
  refine np_iadd (pc := 367) C d_L_law_367 ?_
  refine np_sld (pc := 368) C hxn hsX hbl hbA (by omega) (by omega) d_L_law_368 ?_
  refine np_cF (pc := 369) (w1 := np_mw d cI Y) (w1' := np_mw d cI Y) (w2 := np_gw a cI X) (w' := np_gw a cI X ++ np_mw d cI Y) C 0 (c_M_commitment l D hd hY hY6 (xl _)) (np_Sm_St _) (fun _ _ _ => trivial) hdA (fun k x hx => by obtain ⟨j, hj, ej⟩ := np_gw_in hx; rintro ⟨i0, hi0, ei⟩; exact hap j i0 hj hi0 (by rw [← ei, ← ej])) (fun H h => (np_Psplit h).symm) (fun H h1 h2 => va_P.app h2 h1) d_L_law_369 rfl rfl m_452 m_449 m_5 m_450 m_451 hd_M_commitment (by decide) (by decide) rfl rfl (Nat.le_of_ble_eq_true rfl) ?_
  refine np_same (pc := 372) (tgt := 574) C (np_a_com hR.1 _) d_L_law_372 rfl ?_
  exact kk _ _ hR
set_option maxRecDepth 20000 in
set_option maxHeartbeats 4000000 in
theorem lw_case_9 {p : Program} {l : Launch} {e : Env} {s : State} {m : MethodId} {below : List Frame} {meth : Method} {c : Code} {b L : Nat} {xs : Nat → Int32} {xn : Nat → Nat} {D : va_G} {cI : ClassId} {t a d : Nat → Nat} {A : Nat → Prop} (C : np_Cx p s m #[Value.ref b] meth c code 4 R_law ret np_TS D np_cls cI A (np_Sc A t)) (hxn : ∀ j, xs j = nI (xn j)) (xl : ∀ j, xn j < 4294967296) (hsX : va_X b L xs s s.heap) (hbl : b < s.heap.size) (hbA : ¬ A b) (hL : L ≤ 3072) (ha : np_inj a 12) (hd : np_inj d 7) (haA : ∀ x, np_ad a 12 x → A x) (hdA : ∀ x, np_ad d 7 x → A x) (hap : ∀ i j, i < 12 → j < 7 → a i ≠ d j) {X Y : np_X} {i : Nat} (hR : np_R2 X Y) (hi : i + 6 ≤ L) (kk : ∀ X2 Y2 : np_X, np_R2 X2 Y2 → np_V p l e room_1 s m #[Value.ref b] below meth c 19 470 D np_cls A (lw_Z below #[Value.ref b] s) 4 (np_gw a cI X2 ++ np_mw d cI Y2) 574 [some (.ref b), some (.ref (a 0)), some (.ref (d 0)), some (.int (nI i))] []) : np_V p l e room_1 s m #[Value.ref b] below meth c 19 470 D np_cls A (lw_Z below #[Value.ref b] s) 4 (np_gw a cI X ++ np_mw d cI Y) 377 [some (.ref b), some (.ref (a 0)), some (.ref (d 0)), some (.int (nI i))] [] := by
  have hX := hR.1.1
  have hY := hR.1.2.1
  have hY6 := hR.2
  refine np_aload_n (pc := 377) C d_L_law_377 rfl ?_
  refine np_aload_n (pc := 378) C d_L_law_378 rfl ?_
  refine np_iload_n (pc := 379) C d_L_law_379 rfl ?_
  refine np_iconst (pc := 380) (v := 1) C d_L_law_380 (by decide) ?_
  refine np_iadd (pc := 381) C d_L_law_381 ?_
  refine np_sld (pc := 382) C hxn hsX hbl hbA (by omega) (by omega) d_L_law_382 ?_
  refine np_cF (pc := 383) (w1 := np_gw a cI X) (w1' := np_gw a cI X) (w2 := np_mw d cI Y) (w' := np_gw a cI X ++ np_mw d cI Y) C 0 (c_P_owner l D t ha hX (xl _)) (np_Sc_St _ t) (fun U H h => np_Sc.less h haA) haA (fun k x hx => by obtain ⟨j, hj, ej⟩ := np_mw_in hx; rintro ⟨i0, hi0, ei⟩; exact hap i0 j hi0 hj (by rw [← ei, ← ej])) (fun H h => np_Psplit h) (fun H h1 h2 => va_P.app h1 h2) d_L_law_383 rfl rfl m_256 m_253 m_1 m_254 m_255 hd_P_owner (by decide) (by decide) rfl rfl (Nat.le_of_ble_eq_true rfl) ?_
  refine np_aload_n (pc := 386) C d_L_law_386 rfl ?_
  refine np_aload_n (pc := 387) C d_L_law_387 rfl ?_
  refine np_iload_n (pc := 388) C d_L_law_388 rfl ?_
  refine np_iconst (pc := 389) (v := 1) C d_L_law_389 (by decide) ?_
  refine np_iadd (pc := 390) C d_L_law_390 ?_
  refine np_sld (pc := 391) C hxn hsX hbl hbA (by omega) (by omega) d_L_law_391 ?_
  refine np_cF (pc := 392) (w1 := np_mw d cI Y) (w1' := np_mw d cI Y) (w2 := np_gw a cI X) (w' := np_gw a cI X ++ np_mw d cI Y) C 0 (c_M_owner l D hd hY hY6 (xl _)) (np_Sm_St _) (fun _ _ _ => trivial) hdA (fun k x hx => by obtain ⟨j, hj, ej⟩ := np_gw_in hx; rintro ⟨i0, hi0, ei⟩; exact hap j i0 hj hi0 (by rw [← ei, ← ej])) (fun H h => (np_Psplit h).symm) (fun H h1 h2 => va_P.app h2 h1) d_L_law_392 rfl rfl m_456 m_453 m_5 m_454 m_455 hd_M_owner (by decide) (by decide) rfl rfl (Nat.le_of_ble_eq_true rfl) ?_
  refine np_same (pc := 395) (tgt := 574) C (np_a_own hR.1 _) d_L_law_395 rfl ?_
  exact kk _ _ hR
set_option maxRecDepth 20000 in
set_option maxHeartbeats 4000000 in
theorem lw_case_10 {p : Program} {l : Launch} {e : Env} {s : State} {m : MethodId} {below : List Frame} {meth : Method} {c : Code} {b L : Nat} {xs : Nat → Int32} {xn : Nat → Nat} {D : va_G} {cI : ClassId} {t a d : Nat → Nat} {A : Nat → Prop} (C : np_Cx p s m #[Value.ref b] meth c code 4 R_law ret np_TS D np_cls cI A (np_Sc A t)) (hxn : ∀ j, xs j = nI (xn j)) (xl : ∀ j, xn j < 4294967296) (hsX : va_X b L xs s s.heap) (hbl : b < s.heap.size) (hbA : ¬ A b) (hL : L ≤ 3072) (ha : np_inj a 12) (hd : np_inj d 7) (haA : ∀ x, np_ad a 12 x → A x) (hdA : ∀ x, np_ad d 7 x → A x) (hap : ∀ i j, i < 12 → j < 7 → a i ≠ d j) {X Y : np_X} {i : Nat} (hR : np_R2 X Y) (hi : i + 6 ≤ L) (kk : ∀ X2 Y2 : np_X, np_R2 X2 Y2 → np_V p l e room_1 s m #[Value.ref b] below meth c 19 470 D np_cls A (lw_Z below #[Value.ref b] s) 4 (np_gw a cI X2 ++ np_mw d cI Y2) 574 [some (.ref b), some (.ref (a 0)), some (.ref (d 0)), some (.int (nI i))] []) : np_V p l e room_1 s m #[Value.ref b] below meth c 19 470 D np_cls A (lw_Z below #[Value.ref b] s) 4 (np_gw a cI X ++ np_mw d cI Y) 400 [some (.ref b), some (.ref (a 0)), some (.ref (d 0)), some (.int (nI i))] [] := by
  have hX := hR.1.1
  have hY := hR.1.2.1
  have hY6 := hR.2
  refine np_aload_n (pc := 400) C d_L_law_400 rfl ?_
  refine np_aload_n (pc := 401) C d_L_law_401 rfl ?_
  refine np_iload_n (pc := 402) C d_L_law_402 rfl ?_
  refine np_iconst (pc := 403) (v := 1) C d_L_law_403 (by decide) ?_
  refine np_iadd (pc := 404) C d_L_law_404 ?_
  refine np_sld (pc := 405) C hxn hsX hbl hbA (by omega) (by omega) d_L_law_405 ?_
  refine np_cF (pc := 406) (w1 := np_gw a cI X) (w1' := np_gw a cI X) (w2 := np_mw d cI Y) (w' := np_gw a cI X ++ np_mw d cI Y) C 0 (c_P_value l D t ha hX (xl _)) (np_Sc_St _ t) (fun U H h => np_Sc.less h haA) haA (fun k x hx => by obtain ⟨j, hj, ej⟩ := np_mw_in hx; rintro ⟨i0, hi0, ei⟩; exact hap i0 j hi0 hj (by rw [← ei, ← ej])) (fun H h => np_Psplit h) (fun H h1 h2 => va_P.app h1 h2) d_L_law_406 rfl rfl m_260 m_257 m_1 m_258 m_259 hd_P_value (by decide) (by decide) rfl rfl (Nat.le_of_ble_eq_true rfl) ?_
  refine np_aload_n (pc := 409) C d_L_law_409 rfl ?_
  refine np_aload_n (pc := 410) C d_L_law_410 rfl ?_
  refine np_iload_n (pc := 411) C d_L_law_411 rfl ?_
  refine np_iconst (pc := 412) (v := 1) C d_L_law_412 (by decide) ?_
  refine np_iadd (pc := 413) C d_L_law_413 ?_
  refine np_sld (pc := 414) C hxn hsX hbl hbA (by omega) (by omega) d_L_law_414 ?_
  refine np_cF (pc := 415) (w1 := np_mw d cI Y) (w1' := np_mw d cI Y) (w2 := np_gw a cI X) (w' := np_gw a cI X ++ np_mw d cI Y) C 0 (c_M_value l D hd hY hY6 (xl _)) (np_Sm_St _) (fun _ _ _ => trivial) hdA (fun k x hx => by obtain ⟨j, hj, ej⟩ := np_gw_in hx; rintro ⟨i0, hi0, ei⟩; exact hap j i0 hj hi0 (by rw [← ei, ← ej])) (fun H h => (np_Psplit h).symm) (fun H h1 h2 => va_P.app h2 h1) d_L_law_415 rfl rfl m_460 m_457 m_5 m_458 m_459 hd_M_value (by decide) (by decide) rfl rfl (Nat.le_of_ble_eq_true rfl) ?_
  refine np_same (pc := 418) (tgt := 574) C (np_a_val hR.1 _) d_L_law_418 rfl ?_
  exact kk _ _ hR
set_option maxRecDepth 20000 in
set_option maxHeartbeats 4000000 in
theorem lw_case_11 {p : Program} {l : Launch} {e : Env} {s : State} {m : MethodId} {below : List Frame} {meth : Method} {c : Code} {b L : Nat} {xs : Nat → Int32} {xn : Nat → Nat} {D : va_G} {cI : ClassId} {t a d : Nat → Nat} {A : Nat → Prop} (C : np_Cx p s m #[Value.ref b] meth c code 4 R_law ret np_TS D np_cls cI A (np_Sc A t)) (hxn : ∀ j, xs j = nI (xn j)) (xl : ∀ j, xn j < 4294967296) (hsX : va_X b L xs s s.heap) (hbl : b < s.heap.size) (hbA : ¬ A b) (hL : L ≤ 3072) (ha : np_inj a 12) (hd : np_inj d 7) (haA : ∀ x, np_ad a 12 x → A x) (hdA : ∀ x, np_ad d 7 x → A x) (hap : ∀ i j, i < 12 → j < 7 → a i ≠ d j) {X Y : np_X} {i : Nat} (hR : np_R2 X Y) (hi : i + 6 ≤ L) (kk : ∀ X2 Y2 : np_X, np_R2 X2 Y2 → np_V p l e room_1 s m #[Value.ref b] below meth c 19 470 D np_cls A (lw_Z below #[Value.ref b] s) 4 (np_gw a cI X2 ++ np_mw d cI Y2) 574 [some (.ref b), some (.ref (a 0)), some (.ref (d 0)), some (.int (nI i))] []) : np_V p l e room_1 s m #[Value.ref b] below meth c 19 470 D np_cls A (lw_Z below #[Value.ref b] s) 4 (np_gw a cI X ++ np_mw d cI Y) 423 [some (.ref b), some (.ref (a 0)), some (.ref (d 0)), some (.int (nI i))] [] := by
  have hX := hR.1.1
  have hY := hR.1.2.1
  have hY6 := hR.2
  refine np_aload_n (pc := 423) C d_L_law_423 rfl ?_
  refine np_aload_n (pc := 424) C d_L_law_424 rfl ?_
  refine np_iload_n (pc := 425) C d_L_law_425 rfl ?_
  refine np_iconst (pc := 426) (v := 1) C d_L_law_426 (by decide) ?_
  refine np_iadd (pc := 427) C d_L_law_427 ?_
  refine np_sld (pc := 428) C hxn hsX hbl hbA (by omega) (by omega) d_L_law_428 ?_
  refine np_cF (pc := 429) (w1 := np_gw a cI X) (w1' := np_gw a cI X) (w2 := np_mw d cI Y) (w' := np_gw a cI X ++ np_mw d cI Y) C 0 (c_P_unspent l D t ha hX (xl _)) (np_Sc_St _ t) (fun U H h => np_Sc.less h haA) haA (fun k x hx => by obtain ⟨j, hj, ej⟩ := np_mw_in hx; rintro ⟨i0, hi0, ei⟩; exact hap i0 j hi0 hj (by rw [← ei, ← ej])) (fun H h => np_Psplit h) (fun H h1 h2 => va_P.app h1 h2) d_L_law_429 rfl rfl m_264 m_261 m_1 m_262 m_263 hd_P_unspent (by decide) (by decide) rfl rfl (Nat.le_of_ble_eq_true rfl) ?_
  refine np_aload_n (pc := 432) C d_L_law_432 rfl ?_
  refine np_aload_n (pc := 433) C d_L_law_433 rfl ?_
  refine np_iload_n (pc := 434) C d_L_law_434 rfl ?_
  refine np_iconst (pc := 435) (v := 1) C d_L_law_435 (by decide) ?_
  refine np_iadd (pc := 436) C d_L_law_436 ?_
  refine np_sld (pc := 437) C hxn hsX hbl hbA (by omega) (by omega) d_L_law_437 ?_
  refine np_cF (pc := 438) (w1 := np_mw d cI Y) (w1' := np_mw d cI Y) (w2 := np_gw a cI X) (w' := np_gw a cI X ++ np_mw d cI Y) C 0 (c_M_unspent l D hd hY hY6 (xl _)) (np_Sm_St _) (fun _ _ _ => trivial) hdA (fun k x hx => by obtain ⟨j, hj, ej⟩ := np_gw_in hx; rintro ⟨i0, hi0, ei⟩; exact hap j i0 hj hi0 (by rw [← ei, ← ej])) (fun H h => (np_Psplit h).symm) (fun H h1 h2 => va_P.app h2 h1) d_L_law_438 rfl rfl m_464 m_461 m_5 m_462 m_463 hd_M_unspent (by decide) (by decide) rfl rfl (Nat.le_of_ble_eq_true rfl) ?_
  refine np_same (pc := 441) (tgt := 574) C (np_iteq (np_a_un hR.1 _)) d_L_law_441 rfl ?_
  exact kk _ _ hR
set_option maxRecDepth 20000 in
set_option maxHeartbeats 4000000 in
theorem lw_case_12 {p : Program} {l : Launch} {e : Env} {s : State} {m : MethodId} {below : List Frame} {meth : Method} {c : Code} {b L : Nat} {xs : Nat → Int32} {xn : Nat → Nat} {D : va_G} {cI : ClassId} {t a d : Nat → Nat} {A : Nat → Prop} (C : np_Cx p s m #[Value.ref b] meth c code 4 R_law ret np_TS D np_cls cI A (np_Sc A t)) (hxn : ∀ j, xs j = nI (xn j)) (xl : ∀ j, xn j < 4294967296) (hsX : va_X b L xs s s.heap) (hbl : b < s.heap.size) (hbA : ¬ A b) (hL : L ≤ 3072) (ha : np_inj a 12) (hd : np_inj d 7) (haA : ∀ x, np_ad a 12 x → A x) (hdA : ∀ x, np_ad d 7 x → A x) (hap : ∀ i j, i < 12 → j < 7 → a i ≠ d j) {X Y : np_X} {i : Nat} (hR : np_R2 X Y) (hi : i + 6 ≤ L) (kk : ∀ X2 Y2 : np_X, np_R2 X2 Y2 → np_V p l e room_1 s m #[Value.ref b] below meth c 19 470 D np_cls A (lw_Z below #[Value.ref b] s) 4 (np_gw a cI X2 ++ np_mw d cI Y2) 574 [some (.ref b), some (.ref (a 0)), some (.ref (d 0)), some (.int (nI i))] []) : np_V p l e room_1 s m #[Value.ref b] below meth c 19 470 D np_cls A (lw_Z below #[Value.ref b] s) 4 (np_gw a cI X ++ np_mw d cI Y) 446 [some (.ref b), some (.ref (a 0)), some (.ref (d 0)), some (.int (nI i))] [] := by
  have hX := hR.1.1
  have hY := hR.1.2.1
  have hY6 := hR.2
  refine np_aload_n (pc := 446) C d_L_law_446 rfl ?_
  refine np_aload_n (pc := 447) C d_L_law_447 rfl ?_
  refine np_iload_n (pc := 448) C d_L_law_448 rfl ?_
  refine np_iconst (pc := 449) (v := 1) C d_L_law_449 (by decide) ?_
  refine np_iadd (pc := 450) C d_L_law_450 ?_
  refine np_sld (pc := 451) C hxn hsX hbl hbA (by omega) (by omega) d_L_law_451 ?_
  refine np_cF (pc := 452) (w1 := np_gw a cI X) (w1' := np_gw a cI X) (w2 := np_mw d cI Y) (w' := np_gw a cI X ++ np_mw d cI Y) C 0 (c_P_balance l D t ha hX (xl _)) (np_Sc_St _ t) (fun U H h => np_Sc.less h haA) haA (fun k x hx => by obtain ⟨j, hj, ej⟩ := np_mw_in hx; rintro ⟨i0, hi0, ei⟩; exact hap i0 j hi0 hj (by rw [← ei, ← ej])) (fun H h => np_Psplit h) (fun H h1 h2 => va_P.app h1 h2) d_L_law_452 rfl rfl m_272 m_269 m_1 m_270 m_271 hd_P_balance (by decide) (by decide) rfl rfl (Nat.le_of_ble_eq_true rfl) ?_
  refine np_aload_n (pc := 455) C d_L_law_455 rfl ?_
  refine np_aload_n (pc := 456) C d_L_law_456 rfl ?_
  refine np_iload_n (pc := 457) C d_L_law_457 rfl ?_
  refine np_iconst (pc := 458) (v := 1) C d_L_law_458 (by decide) ?_
  refine np_iadd (pc := 459) C d_L_law_459 ?_
  refine np_sld (pc := 460) C hxn hsX hbl hbA (by omega) (by omega) d_L_law_460 ?_
  refine np_cF (pc := 461) (w1 := np_mw d cI Y) (w1' := np_mw d cI Y) (w2 := np_gw a cI X) (w' := np_gw a cI X ++ np_mw d cI Y) C 0 (c_M_balance l D hd hY hY6 (xl _)) (np_Sm_St _) (fun _ _ _ => trivial) hdA (fun k x hx => by obtain ⟨j, hj, ej⟩ := np_gw_in hx; rintro ⟨i0, hi0, ei⟩; exact hap j i0 hj hi0 (by rw [← ei, ← ej])) (fun H h => (np_Psplit h).symm) (fun H h1 h2 => va_P.app h2 h1) d_L_law_461 rfl rfl m_468 m_465 m_5 m_466 m_467 hd_M_balance (by decide) (by decide) rfl rfl (Nat.le_of_ble_eq_true rfl) ?_
  refine np_same (pc := 464) (tgt := 574) C (np_a_bal hR.1 _) d_L_law_464 rfl ?_
  exact kk _ _ hR
set_option maxRecDepth 20000 in
set_option maxHeartbeats 4000000 in
theorem lw_case_13 {p : Program} {l : Launch} {e : Env} {s : State} {m : MethodId} {below : List Frame} {meth : Method} {c : Code} {b L : Nat} {xs : Nat → Int32} {xn : Nat → Nat} {D : va_G} {cI : ClassId} {t a d : Nat → Nat} {A : Nat → Prop} (C : np_Cx p s m #[Value.ref b] meth c code 4 R_law ret np_TS D np_cls cI A (np_Sc A t)) (hxn : ∀ j, xs j = nI (xn j)) (xl : ∀ j, xn j < 4294967296) (hsX : va_X b L xs s s.heap) (hbl : b < s.heap.size) (hbA : ¬ A b) (hL : L ≤ 3072) (ha : np_inj a 12) (hd : np_inj d 7) (haA : ∀ x, np_ad a 12 x → A x) (hdA : ∀ x, np_ad d 7 x → A x) (hap : ∀ i j, i < 12 → j < 7 → a i ≠ d j) {X Y : np_X} {i : Nat} (hR : np_R2 X Y) (hi : i + 6 ≤ L) (kk : ∀ X2 Y2 : np_X, np_R2 X2 Y2 → np_V p l e room_1 s m #[Value.ref b] below meth c 19 470 D np_cls A (lw_Z below #[Value.ref b] s) 4 (np_gw a cI X2 ++ np_mw d cI Y2) 574 [some (.ref b), some (.ref (a 0)), some (.ref (d 0)), some (.int (nI i))] []) : np_V p l e room_1 s m #[Value.ref b] below meth c 19 470 D np_cls A (lw_Z below #[Value.ref b] s) 4 (np_gw a cI X ++ np_mw d cI Y) 469 [some (.ref b), some (.ref (a 0)), some (.ref (d 0)), some (.int (nI i))] [] := by
  have hX := hR.1.1
  have hY := hR.1.2.1
  have hY6 := hR.2
  refine np_aload_n (pc := 469) C d_L_law_469 rfl ?_
  refine np_aload_n (pc := 470) C d_L_law_470 rfl ?_
  refine np_iload_n (pc := 471) C d_L_law_471 rfl ?_
  refine np_iconst (pc := 472) (v := 1) C d_L_law_472 (by decide) ?_
  refine np_iadd (pc := 473) C d_L_law_473 ?_
  refine np_sld (pc := 474) C hxn hsX hbl hbA (by omega) (by omega) d_L_law_474 ?_
  refine np_cF (pc := 475) (w1 := np_gw a cI X) (w1' := np_gw a cI X) (w2 := np_mw d cI Y) (w' := np_gw a cI X ++ np_mw d cI Y) C 0 (c_P_root l D t ha hX (xl _)) (np_Sc_St _ t) (fun U H h => np_Sc.less h haA) haA (fun k x hx => by obtain ⟨j, hj, ej⟩ := np_mw_in hx; rintro ⟨i0, hi0, ei⟩; exact hap i0 j hi0 hj (by rw [← ei, ← ej])) (fun H h => np_Psplit h) (fun H h1 h2 => va_P.app h1 h2) d_L_law_475 rfl rfl m_276 m_273 m_1 m_274 m_275 hd_P_root (by decide) (by decide) rfl rfl (Nat.le_of_ble_eq_true rfl) ?_
  refine np_aload_n (pc := 478) C d_L_law_478 rfl ?_
  refine np_aload_n (pc := 479) C d_L_law_479 rfl ?_
  refine np_iload_n (pc := 480) C d_L_law_480 rfl ?_
  refine np_iconst (pc := 481) (v := 1) C d_L_law_481 (by decide) ?_
  refine np_iadd (pc := 482) C d_L_law_482 ?_
  refine np_sld (pc := 483) C hxn hsX hbl hbA (by omega) (by omega) d_L_law_483 ?_
  refine np_cF (pc := 484) (w1 := np_mw d cI Y) (w1' := np_mw d cI (np_rtX Y (xn (i + 1)))) (w2 := np_gw a cI X) (w' := np_gw a cI X ++ np_mw d cI (np_rtX Y (xn (i + 1)))) C 0 (c_M_root l D hd hY hY6 (xl _)) (np_Sm_St _) (fun _ _ _ => trivial) hdA (fun k x hx => by obtain ⟨j, hj, ej⟩ := np_gw_in hx; rintro ⟨i0, hi0, ei⟩; exact hap j i0 hj hi0 (by rw [← ei, ← ej])) (fun H h => (np_Psplit h).symm) (fun H h1 h2 => va_P.app h2 h1) d_L_law_484 rfl rfl m_440 m_470 m_5 m_438 m_439 hd_M_root (by decide) (by decide) rfl rfl (Nat.le_of_ble_eq_true rfl) ?_
  refine np_same (pc := 487) (tgt := 574) C (np_a_root hR.1 _) d_L_law_487 rfl ?_
  exact kk _ _ (np_a_rt hR _)
set_option maxRecDepth 20000 in
set_option maxHeartbeats 4000000 in
theorem lw_case_14 {p : Program} {l : Launch} {e : Env} {s : State} {m : MethodId} {below : List Frame} {meth : Method} {c : Code} {b L : Nat} {xs : Nat → Int32} {xn : Nat → Nat} {D : va_G} {cI : ClassId} {t a d : Nat → Nat} {A : Nat → Prop} (C : np_Cx p s m #[Value.ref b] meth c code 4 R_law ret np_TS D np_cls cI A (np_Sc A t)) (hxn : ∀ j, xs j = nI (xn j)) (xl : ∀ j, xn j < 4294967296) (hsX : va_X b L xs s s.heap) (hbl : b < s.heap.size) (hbA : ¬ A b) (hL : L ≤ 3072) (ha : np_inj a 12) (hd : np_inj d 7) (haA : ∀ x, np_ad a 12 x → A x) (hdA : ∀ x, np_ad d 7 x → A x) (hap : ∀ i j, i < 12 → j < 7 → a i ≠ d j) {X Y : np_X} {i : Nat} (hR : np_R2 X Y) (hi : i + 6 ≤ L) (kk : ∀ X2 Y2 : np_X, np_R2 X2 Y2 → np_V p l e room_1 s m #[Value.ref b] below meth c 19 470 D np_cls A (lw_Z below #[Value.ref b] s) 4 (np_gw a cI X2 ++ np_mw d cI Y2) 574 [some (.ref b), some (.ref (a 0)), some (.ref (d 0)), some (.int (nI i))] []) : np_V p l e room_1 s m #[Value.ref b] below meth c 19 470 D np_cls A (lw_Z below #[Value.ref b] s) 4 (np_gw a cI X ++ np_mw d cI Y) 492 [some (.ref b), some (.ref (a 0)), some (.ref (d 0)), some (.int (nI i))] [] := by
  have hX := hR.1.1
  have hY := hR.1.2.1
  have hY6 := hR.2
  refine np_aload_n (pc := 492) C d_L_law_492 rfl ?_
  refine np_aload_n (pc := 493) C d_L_law_493 rfl ?_
  refine np_iload_n (pc := 494) C d_L_law_494 rfl ?_
  refine np_iconst (pc := 495) (v := 1) C d_L_law_495 (by decide) ?_
  refine np_iadd (pc := 496) C d_L_law_496 ?_
  refine np_sld (pc := 497) C hxn hsX hbl hbA (by omega) (by omega) d_L_law_497 ?_
  refine np_aload_n (pc := 498) C d_L_law_498 rfl ?_
  refine np_iload_n (pc := 499) C d_L_law_499 rfl ?_
  refine np_iconst (pc := 500) (v := 2) C d_L_law_500 (by decide) ?_
  refine np_iadd (pc := 501) C d_L_law_501 ?_
  refine np_sld (pc := 502) C hxn hsX hbl hbA (by omega) (by omega) d_L_law_502 ?_
  refine np_cF (pc := 503) (w1 := np_gw a cI X) (w1' := np_gw a cI X) (w2 := np_mw d cI Y) (w' := np_gw a cI X ++ np_mw d cI Y) C 0 (c_P_node l D t ha hX (xl _) (xl _)) (np_Sc_St _ t) (fun U H h => np_Sc.less h haA) haA (fun k x hx => by obtain ⟨j, hj, ej⟩ := np_mw_in hx; rintro ⟨i0, hi0, ei⟩; exact hap i0 j hi0 hj (by rw [← ei, ← ej])) (fun H h => np_Psplit h) (fun H h1 h2 => va_P.app h1 h2) d_L_law_503 rfl rfl m_281 m_278 m_1 m_279 m_280 hd_P_node (by decide) (by decide) rfl rfl (Nat.le_of_ble_eq_true rfl) ?_
  refine np_aload_n (pc := 506) C d_L_law_506 rfl ?_
  refine np_aload_n (pc := 507) C d_L_law_507 rfl ?_
  refine np_iload_n (pc := 508) C d_L_law_508 rfl ?_
  refine np_iconst (pc := 509) (v := 1) C d_L_law_509 (by decide) ?_
  refine np_iadd (pc := 510) C d_L_law_510 ?_
  refine np_sld (pc := 511) C hxn hsX hbl hbA (by omega) (by omega) d_L_law_511 ?_
  refine np_aload_n (pc := 512) C d_L_law_512 rfl ?_
  refine np_iload_n (pc := 513) C d_L_law_513 rfl ?_
  refine np_iconst (pc := 514) (v := 2) C d_L_law_514 (by decide) ?_
  refine np_iadd (pc := 515) C d_L_law_515 ?_
  refine np_sld (pc := 516) C hxn hsX hbl hbA (by omega) (by omega) d_L_law_516 ?_
  refine np_cF (pc := 517) (w1 := np_mw d cI Y) (w1' := np_mw d cI (np_ndX Y (xn (i + 1)) (xn (i + 2)))) (w2 := np_gw a cI X) (w' := np_gw a cI X ++ np_mw d cI (np_ndX Y (xn (i + 1)) (xn (i + 2)))) C 0 (c_M_node l D hd hY hY6 (xl _) (xl _)) (np_Sm_St _) (fun _ _ _ => trivial) hdA (fun k x hx => by obtain ⟨j, hj, ej⟩ := np_gw_in hx; rintro ⟨i0, hi0, ei⟩; exact hap j i0 hj hi0 (by rw [← ei, ← ej])) (fun H h => (np_Psplit h).symm) (fun H h1 h2 => va_P.app h2 h1) d_L_law_517 rfl rfl m_474 m_471 m_5 m_472 m_473 hd_M_node (by decide) (by decide) rfl rfl (Nat.le_of_ble_eq_true rfl) ?_
  refine np_same (pc := 520) (tgt := 574) C (np_a_node hR.1 _ _) d_L_law_520 rfl ?_
  exact kk _ _ (np_a_nd hR _ _)
set_option maxRecDepth 20000 in
set_option maxHeartbeats 4000000 in
theorem lw_case_15 {p : Program} {l : Launch} {e : Env} {s : State} {m : MethodId} {below : List Frame} {meth : Method} {c : Code} {b L : Nat} {xs : Nat → Int32} {xn : Nat → Nat} {D : va_G} {cI : ClassId} {t a d : Nat → Nat} {A : Nat → Prop} (C : np_Cx p s m #[Value.ref b] meth c code 4 R_law ret np_TS D np_cls cI A (np_Sc A t)) (hxn : ∀ j, xs j = nI (xn j)) (xl : ∀ j, xn j < 4294967296) (hsX : va_X b L xs s s.heap) (hbl : b < s.heap.size) (hbA : ¬ A b) (hL : L ≤ 3072) (ha : np_inj a 12) (hd : np_inj d 7) (haA : ∀ x, np_ad a 12 x → A x) (hdA : ∀ x, np_ad d 7 x → A x) (hap : ∀ i j, i < 12 → j < 7 → a i ≠ d j) {X Y : np_X} {i : Nat} (hR : np_R2 X Y) (hi : i + 6 ≤ L) (kk : ∀ X2 Y2 : np_X, np_R2 X2 Y2 → np_V p l e room_1 s m #[Value.ref b] below meth c 19 470 D np_cls A (lw_Z below #[Value.ref b] s) 4 (np_gw a cI X2 ++ np_mw d cI Y2) 574 [some (.ref b), some (.ref (a 0)), some (.ref (d 0)), some (.int (nI i))] []) : np_V p l e room_1 s m #[Value.ref b] below meth c 19 470 D np_cls A (lw_Z below #[Value.ref b] s) 4 (np_gw a cI X ++ np_mw d cI Y) 525 [some (.ref b), some (.ref (a 0)), some (.ref (d 0)), some (.int (nI i))] [] := by
  have hX := hR.1.1
  have hY := hR.1.2.1
  have hY6 := hR.2
  refine np_aload_n (pc := 525) C d_L_law_525 rfl ?_
  refine np_cF (pc := 526) (w1 := np_gw a cI X) (w1' := np_gw a cI X) (w2 := np_mw d cI Y) (w' := np_gw a cI X ++ np_mw d cI Y) C 0 (c_P_used l D t ha hX) (np_Sc_St _ t) (fun U H h => np_Sc.less h haA) haA (fun k x hx => by obtain ⟨j, hj, ej⟩ := np_mw_in hx; rintro ⟨i0, hi0, ei⟩; exact hap i0 j hi0 hj (by rw [← ei, ← ej])) (fun H h => np_Psplit h) (fun H h1 h2 => va_P.app h1 h2) d_L_law_526 rfl rfl m_285 m_282 m_1 m_283 m_284 hd_P_used (by decide) (by decide) rfl rfl (Nat.le_of_ble_eq_true rfl) ?_
  refine np_aload_n (pc := 529) C d_L_law_529 rfl ?_
  refine np_cF (pc := 530) (w1 := np_mw d cI Y) (w1' := np_mw d cI Y) (w2 := np_gw a cI X) (w' := np_gw a cI X ++ np_mw d cI Y) C 0 (c_M_used l D hd hY hY6) (np_Sm_St _) (fun _ _ _ => trivial) hdA (fun k x hx => by obtain ⟨j, hj, ej⟩ := np_gw_in hx; rintro ⟨i0, hi0, ei⟩; exact hap j i0 hj hi0 (by rw [← ei, ← ej])) (fun H h => (np_Psplit h).symm) (fun H h1 h2 => va_P.app h2 h1) d_L_law_530 rfl rfl m_478 m_475 m_5 m_476 m_477 hd_M_used (by decide) (by decide) rfl rfl (Nat.le_of_ble_eq_true rfl) ?_
  refine np_same (pc := 533) (tgt := 574) C hR.1.2.2.1.2.1.symm d_L_law_533 rfl ?_
  exact kk _ _ hR
set_option maxRecDepth 20000 in
set_option maxHeartbeats 4000000 in
theorem lw_case_16 {p : Program} {l : Launch} {e : Env} {s : State} {m : MethodId} {below : List Frame} {meth : Method} {c : Code} {b L : Nat} {xs : Nat → Int32} {xn : Nat → Nat} {D : va_G} {cI : ClassId} {t a d : Nat → Nat} {A : Nat → Prop} (C : np_Cx p s m #[Value.ref b] meth c code 4 R_law ret np_TS D np_cls cI A (np_Sc A t)) (hxn : ∀ j, xs j = nI (xn j)) (xl : ∀ j, xn j < 4294967296) (hsX : va_X b L xs s s.heap) (hbl : b < s.heap.size) (hbA : ¬ A b) (hL : L ≤ 3072) (ha : np_inj a 12) (hd : np_inj d 7) (haA : ∀ x, np_ad a 12 x → A x) (hdA : ∀ x, np_ad d 7 x → A x) (hap : ∀ i j, i < 12 → j < 7 → a i ≠ d j) {X Y : np_X} {i : Nat} (hR : np_R2 X Y) (hi : i + 6 ≤ L) (kk : ∀ X2 Y2 : np_X, np_R2 X2 Y2 → np_V p l e room_1 s m #[Value.ref b] below meth c 19 470 D np_cls A (lw_Z below #[Value.ref b] s) 4 (np_gw a cI X2 ++ np_mw d cI Y2) 574 [some (.ref b), some (.ref (a 0)), some (.ref (d 0)), some (.int (nI i))] []) : np_V p l e room_1 s m #[Value.ref b] below meth c 19 470 D np_cls A (lw_Z below #[Value.ref b] s) 4 (np_gw a cI X ++ np_mw d cI Y) 538 [some (.ref b), some (.ref (a 0)), some (.ref (d 0)), some (.int (nI i))] [] := by
  have hX := hR.1.1
  have hY := hR.1.2.1
  have hY6 := hR.2
  refine np_aload_n (pc := 538) C d_L_law_538 rfl ?_
  refine np_aload_n (pc := 539) C d_L_law_539 rfl ?_
  refine np_iload_n (pc := 540) C d_L_law_540 rfl ?_
  refine np_iconst (pc := 541) (v := 1) C d_L_law_541 (by decide) ?_
  refine np_iadd (pc := 542) C d_L_law_542 ?_
  refine np_sld (pc := 543) C hxn hsX hbl hbA (by omega) (by omega) d_L_law_543 ?_
  refine np_cF (pc := 544) (w1 := np_gw a cI X) (w1' := np_gw a cI X) (w2 := np_mw d cI Y) (w' := np_gw a cI X ++ np_mw d cI Y) C 0 (c_P_mark l D t ha hX (xl _)) (np_Sc_St _ t) (fun U H h => np_Sc.less h haA) haA (fun k x hx => by obtain ⟨j, hj, ej⟩ := np_mw_in hx; rintro ⟨i0, hi0, ei⟩; exact hap i0 j hi0 hj (by rw [← ei, ← ej])) (fun H h => np_Psplit h) (fun H h1 h2 => va_P.app h1 h2) d_L_law_544 rfl rfl m_289 m_286 m_1 m_287 m_288 hd_P_mark (by decide) (by decide) rfl rfl (Nat.le_of_ble_eq_true rfl) ?_
  refine np_aload_n (pc := 547) C d_L_law_547 rfl ?_
  refine np_aload_n (pc := 548) C d_L_law_548 rfl ?_
  refine np_iload_n (pc := 549) C d_L_law_549 rfl ?_
  refine np_iconst (pc := 550) (v := 1) C d_L_law_550 (by decide) ?_
  refine np_iadd (pc := 551) C d_L_law_551 ?_
  refine np_sld (pc := 552) C hxn hsX hbl hbA (by omega) (by omega) d_L_law_552 ?_
  refine np_cF (pc := 553) (w1 := np_mw d cI Y) (w1' := np_mw d cI Y) (w2 := np_gw a cI X) (w' := np_gw a cI X ++ np_mw d cI Y) C 0 (c_M_mark l D hd hY hY6 (xl _)) (np_Sm_St _) (fun _ _ _ => trivial) hdA (fun k x hx => by obtain ⟨j, hj, ej⟩ := np_gw_in hx; rintro ⟨i0, hi0, ei⟩; exact hap j i0 hj hi0 (by rw [← ei, ← ej])) (fun H h => (np_Psplit h).symm) (fun H h1 h2 => va_P.app h2 h1) d_L_law_553 rfl rfl m_482 m_479 m_5 m_480 m_481 hd_M_mark (by decide) (by decide) rfl rfl (Nat.le_of_ble_eq_true rfl) ?_
  refine np_same (pc := 556) (tgt := 574) C (np_a_mark hR.1 _) d_L_law_556 rfl ?_
  exact kk _ _ hR
set_option maxRecDepth 20000 in
set_option maxHeartbeats 4000000 in
theorem lw_case_17 {p : Program} {l : Launch} {e : Env} {s : State} {m : MethodId} {below : List Frame} {meth : Method} {c : Code} {b L : Nat} {xs : Nat → Int32} {xn : Nat → Nat} {D : va_G} {cI : ClassId} {t a d : Nat → Nat} {A : Nat → Prop} (C : np_Cx p s m #[Value.ref b] meth c code 4 R_law ret np_TS D np_cls cI A (np_Sc A t)) (hxn : ∀ j, xs j = nI (xn j)) (xl : ∀ j, xn j < 4294967296) (hsX : va_X b L xs s s.heap) (hbl : b < s.heap.size) (hbA : ¬ A b) (hL : L ≤ 3072) (ha : np_inj a 12) (hd : np_inj d 7) (haA : ∀ x, np_ad a 12 x → A x) (hdA : ∀ x, np_ad d 7 x → A x) (hap : ∀ i j, i < 12 → j < 7 → a i ≠ d j) {X Y : np_X} {i : Nat} (hR : np_R2 X Y) (hi : i + 6 ≤ L) (kk : ∀ X2 Y2 : np_X, np_R2 X2 Y2 → np_V p l e room_1 s m #[Value.ref b] below meth c 19 470 D np_cls A (lw_Z below #[Value.ref b] s) 4 (np_gw a cI X2 ++ np_mw d cI Y2) 574 [some (.ref b), some (.ref (a 0)), some (.ref (d 0)), some (.int (nI i))] []) : np_V p l e room_1 s m #[Value.ref b] below meth c 19 470 D np_cls A (lw_Z below #[Value.ref b] s) 4 (np_gw a cI X ++ np_mw d cI Y) 561 [some (.ref b), some (.ref (a 0)), some (.ref (d 0)), some (.int (nI i))] [] := by
  have hX := hR.1.1
  have hY := hR.1.2.1
  have hY6 := hR.2
  refine np_aload_n (pc := 561) C d_L_law_561 rfl ?_
  refine np_cF (pc := 562) (w1 := np_gw a cI X) (w1' := np_gw a cI X) (w2 := np_mw d cI Y) (w' := np_gw a cI X ++ np_mw d cI Y) C 0 (c_P_pool l D t ha hX) (np_Sc_St _ t) (fun U H h => np_Sc.less h haA) haA (fun k x hx => by obtain ⟨j, hj, ej⟩ := np_mw_in hx; rintro ⟨i0, hi0, ei⟩; exact hap i0 j hi0 hj (by rw [← ei, ← ej])) (fun H h => np_Psplit h) (fun H h1 h2 => va_P.app h1 h2) d_L_law_562 rfl rfl m_297 m_294 m_1 m_295 m_296 hd_P_pool (by decide) (by decide) rfl rfl (Nat.le_of_ble_eq_true rfl) ?_
  refine np_aload_n (pc := 565) C d_L_law_565 rfl ?_
  refine np_cF (pc := 566) (w1 := np_mw d cI Y) (w1' := np_mw d cI Y) (w2 := np_gw a cI X) (w' := np_gw a cI X ++ np_mw d cI Y) C 0 (c_M_pool l D hd hY hY6) (np_Sm_St _) (fun _ _ _ => trivial) hdA (fun k x hx => by obtain ⟨j, hj, ej⟩ := np_gw_in hx; rintro ⟨i0, hi0, ei⟩; exact hap j i0 hj hi0 (by rw [← ei, ← ej])) (fun H h => (np_Psplit h).symm) (fun H h1 h2 => va_P.app h2 h1) d_L_law_566 rfl rfl m_486 m_483 m_5 m_484 m_485 hd_M_pool (by decide) (by decide) rfl rfl (Nat.le_of_ble_eq_true rfl) ?_
  refine np_same (pc := 569) (tgt := 574) C hR.1.2.2.1.2.2.symm d_L_law_569 rfl ?_
  exact kk _ _ hR
