theorem np_iteq {A B : Prop} [Decidable A] [Decidable B] (h : A ↔ B) : (if A then 1 else 0) = (if B then 1 else (0 : Nat)) := by
  by_cases hA : A
  · rw [if_pos hA, if_pos (h.mp hA)]
  · rw [if_neg hA, if_neg (fun q => hA (h.mpr q))]
def np_ho (f : Nat → Nat) (c0 : Nat) : Nat := if f (np_cel c0) = np_due f (np_cel c0) then 1 else 0
theorem np_ho_sq {f : Nat → Nat} (h : np_ok f) {c0 x : Nat} (hx : np_cel c0 = x) (h1 : (15 ≤ x ∧ x < 19) ∨ (27 ≤ x ∧ x < 35)) : (if f x = 0 ∨ f x = 1 then 1 else 0) = np_ho f c0 := by
  unfold np_ho
  rw [hx]
  have e : np_due f x = np_pr (f x) (f x) := by
    unfold np_due
    rcases h1 with h1 | h1
    · rw [if_neg (by omega), if_neg (by omega), if_neg (by omega), if_neg (by omega), if_pos (by omega)]
    · rw [if_neg (by omega), if_pos (by omega)]
  rw [e]
  exact np_iteq (np_sq (h x)).symm
theorem np_ho_b1 {f : Nat → Nat} (h : np_ok f) {c0 : Nat} (h4 : c0 < 4) : (if f (15 + c0) = 0 ∨ f (15 + c0) = 1 then 1 else 0) = np_ho f c0 := np_ho_sq h (by unfold np_cel; rw [if_pos h4]) (by omega)
theorem np_ho_b2 {f : Nat → Nat} (h : np_ok f) {c0 : Nat} (h4 : 4 ≤ c0) (h12 : c0 < 12) : (if f (23 + c0) = 0 ∨ f (23 + c0) = 1 then 1 else 0) = np_ho f c0 := np_ho_sq h (by unfold np_cel; rw [if_neg (by omega), if_pos h12]; omega) (by omega)
theorem np_ho_12 (f : Nat → Nat) {c0 : Nat} (h : c0 = 12) : (if np_sbt f 8 = f 9 then 1 else 0) = np_ho f c0 := by
  subst h
  exact np_iteq eq_comm
theorem np_ho_13 (f : Nat → Nat) {c0 : Nat} (h : c0 = 13) : (if (f 9 + f 4) % 65537 = f 6 then 1 else 0) = np_ho f c0 := by
  subst h
  exact np_iteq eq_comm
theorem np_ho_n (f : Nat → Nat) {c0 b z : Nat} (h : np_cel c0 = 35 + 9 * b + z) (hz : z < 9) : (if f (35 + 9 * b + z) = np_blk f b z then 1 else 0) = np_ho f c0 := by
  unfold np_ho
  rw [h, np_due_blk f rfl hz]
theorem np_ho_l (f : Nat → Nat) {c0 v : Nat} (h : c0 = 41 + 11 * v) (hv : v < 4) : (if f (19 + v) = np_lft f v then 1 else 0) = np_ho f c0 := by
  subst h
  unfold np_ho
  rw [np_cel_l hv, np_due_l f hv]
theorem np_ho_r (f : Nat → Nat) {c0 v : Nat} (h : c0 = 42 + 11 * v) (hv : v < 4) : (if f (23 + v) = np_rgt f v then 1 else 0) = np_ho f c0 := by
  subst h
  unfold np_ho
  rw [np_cel_r hv, np_due_r f hv]
theorem np_ho_112 (f : Nat → Nat) {c0 : Nat} (h : c0 = 112) : (if f 1 = f 97 then 1 else 0) = np_ho f c0 := by subst h; rfl
theorem np_ho_113 (f : Nat → Nat) {c0 : Nat} (h : c0 = 113) : (if f 2 = f 106 then 1 else 0) = np_ho f c0 := by subst h; rfl
theorem np_ho_114 (f : Nat → Nat) {c0 : Nat} (h : c0 = 114) : (if f 3 = f 124 then 1 else 0) = np_ho f c0 := by subst h; rfl
theorem np_cel_1 {c0 : Nat} (h1 : 14 ≤ c0) (h2 : c0 < 41) : np_cel c0 = 35 + 9 * ((c0 - 14) / 9) + (c0 - 14) % 9 := by
  unfold np_cel
  rw [if_neg (by omega), if_neg (by omega), if_neg (by omega), if_neg (by omega), if_pos (by omega)]
  omega
theorem np_cel_2 {c0 : Nat} (h1 : 41 ≤ c0) (h2 : c0 < 85) (h3 : 1 < (c0 - 41) % 11) : np_cel c0 = 35 + 9 * (3 + (c0 - 41) / 11) + ((c0 - 41) % 11 - 2) := by
  have e : c0 = 43 + 11 * ((c0 - 41) / 11) + ((c0 - 41) % 11 - 2) := by omega
  have h4 := np_cel_b (v := (c0 - 41) / 11) (z := (c0 - 41) % 11 - 2) (by omega) (by omega)
  rw [← e] at h4
  exact h4
theorem np_cel_3 {c0 : Nat} (h1 : 85 ≤ c0) (h2 : c0 < 112) : np_cel c0 = 35 + 9 * (7 + (c0 - 85) / 9) + (c0 - 85) % 9 := by
  unfold np_cel
  rw [if_neg (by omega), if_neg (by omega), if_neg (by omega), if_neg (by omega), if_neg (by omega), if_neg (by omega), if_pos (by omega)]
  omega
set_option maxRecDepth 20000 in
set_option maxHeartbeats 4000000 in
theorem c_M_holds (l : Launch) (D : va_G) {cI : ClassId} {a : Nat → Nat} (ha : np_inj a 7) {Y : np_X} {c0 : Nat} (hc0 : c0 < 115) (hc : np_ok (Y 5)) : np_M l D cI (np_ad a 7) (4, 99) y_M_holds b_M_holds 5 (some .boolean) [.ref (a 0), .int (nI c0)] (np_mw a cI Y) (some (.int (nI (np_ho (Y 5) c0)))) (np_mw a cI Y) := by
  refine np_Ct.of (np_Sm_St _) (by decide) (Nat.le_of_ble_eq_true rfl) ?_
  intro p e s m below meth c C
  refine np_at (vs2 := [some (.ref (a 0)), some (.int (nI c0)), none, none, none]) rfl ?_
  have hq1 := hc 1
  have hq2 := hc 2
  have hq3 := hc 3
  have hq4 := hc 4
  have hq6 := hc 6
  have hq9 := hc 9
  have hq97 := hc 97
  have hq106 := hc 106
  have hq124 := hc 124
  refine np_iload_n (pc := 0) C d_M_holds_0 rfl ?_
  refine np_bipush (pc := 1) (v := 12) C d_M_holds_1 (by decide) ?_
  refine np_icmp_ge (pc := 3) (tgt := 27) C (by omega) (by omega) d_M_holds_3 rfl (fun h3 => ?_) (fun h3 => ?_)
  · refine np_iload_n (pc := 27) C d_M_holds_27 rfl ?_
    refine np_bipush (pc := 28) (v := 14) C d_M_holds_28 (by decide) ?_
    refine np_icmp_ge (pc := 30) (tgt := 81) C (by omega) (by omega) d_M_holds_30 rfl (fun h30 => ?_) (fun h30 => ?_)
    · refine np_iload_n (pc := 81) C d_M_holds_81 rfl ?_
      refine np_bipush (pc := 82) (v := 41) C d_M_holds_82 (by decide) ?_
      refine np_icmp_ge (pc := 84) (tgt := 106) C (by omega) (by omega) d_M_holds_84 rfl (fun h84 => ?_) (fun h84 => ?_)
      · refine np_iload_n (pc := 106) C d_M_holds_106 rfl ?_
        refine np_bipush (pc := 107) (v := 85) C d_M_holds_107 (by decide) ?_
        refine np_icmp_ge (pc := 109) (tgt := 189) C (by omega) (by omega) d_M_holds_109 rfl (fun h109 => ?_) (fun h109 => ?_)
        · refine np_iload_n (pc := 189) C d_M_holds_189 rfl ?_
          refine np_bipush (pc := 190) (v := 112) C d_M_holds_190 (by decide) ?_
          refine np_icmp_ge (pc := 192) (tgt := 217) C (by omega) (by omega) d_M_holds_192 rfl (fun h192 => ?_) (fun h192 => ?_)
          · refine np_iload_n (pc := 217) C d_M_holds_217 rfl ?_
            refine np_bipush (pc := 218) (v := 112) C d_M_holds_218 (by decide) ?_
            refine np_icmp_ne (pc := 220) (tgt := 247) C (by omega) (by omega) d_M_holds_220 rfl (fun h220 => ?_) (fun h220 => ?_)
            · refine np_iload_n (pc := 247) C d_M_holds_247 rfl ?_
              refine np_bipush (pc := 248) (v := 113) C d_M_holds_248 (by decide) ?_
              refine np_icmp_ne (pc := 250) (tgt := 277) C (by omega) (by omega) d_M_holds_250 rfl (fun h250 => ?_) (fun h250 => ?_)
              · refine np_aload_n (pc := 277) C d_M_holds_277 rfl ?_
                refine np_get (pc := 278) C 0 7 d_M_holds_278 rfl rfl rfl (by decide) hin_M m_311 rfl ?_
                refine np_iconst (pc := 281) (v := 3) C d_M_holds_281 (by decide) ?_
                refine np_iald (pc := 282) C 5 d_M_holds_282 rfl (by omega) (by decide) ?_
                refine np_aload_n (pc := 283) C d_M_holds_283 rfl ?_
                refine np_get (pc := 284) C 0 7 d_M_holds_284 rfl rfl rfl (by decide) hin_M m_311 rfl ?_
                refine np_bipush (pc := 287) (v := 124) C d_M_holds_287 (by decide) ?_
                refine np_iald (pc := 289) C 5 d_M_holds_289 rfl (by omega) (by decide) ?_
                refine np_icmp_ne (pc := 290) (tgt := 297) C (by omega) (by omega) d_M_holds_290 rfl (fun h290 => ?_) (fun h290 => ?_)
                · refine np_iconst (pc := 297) (v := 0) C d_M_holds_297 (by decide) ?_
                  exact np_zret (pc := 298) C d_M_holds_298 (by first | omega | (split <;> omega)) (by rw [← np_ho_114 (Y 5) (show c0 = 114 by omega), if_neg h290]) (by rfl)
                · refine np_iconst (pc := 293) (v := 1) C d_M_holds_293 (by decide) ?_
                  refine np_goto (pc := 294) (tgt := 298) C d_M_holds_294 rfl ?_
                  exact np_zret (pc := 298) C d_M_holds_298 (by first | omega | (split <;> omega)) (by rw [← np_ho_114 (Y 5) (show c0 = 114 by omega), if_pos h290]) (by rfl)
              · refine np_aload_n (pc := 253) C d_M_holds_253 rfl ?_
                refine np_get (pc := 254) C 0 7 d_M_holds_254 rfl rfl rfl (by decide) hin_M m_311 rfl ?_
                refine np_iconst (pc := 257) (v := 2) C d_M_holds_257 (by decide) ?_
                refine np_iald (pc := 258) C 5 d_M_holds_258 rfl (by omega) (by decide) ?_
                refine np_aload_n (pc := 259) C d_M_holds_259 rfl ?_
                refine np_get (pc := 260) C 0 7 d_M_holds_260 rfl rfl rfl (by decide) hin_M m_311 rfl ?_
                refine np_bipush (pc := 263) (v := 106) C d_M_holds_263 (by decide) ?_
                refine np_iald (pc := 265) C 5 d_M_holds_265 rfl (by omega) (by decide) ?_
                refine np_icmp_ne (pc := 266) (tgt := 273) C (by omega) (by omega) d_M_holds_266 rfl (fun h266 => ?_) (fun h266 => ?_)
                · refine np_iconst (pc := 273) (v := 0) C d_M_holds_273 (by decide) ?_
                  refine np_goto (pc := 274) (tgt := 298) C d_M_holds_274 rfl ?_
                  exact np_zret (pc := 298) C d_M_holds_298 (by first | omega | (split <;> omega)) (by rw [← np_ho_113 (Y 5) (show c0 = 113 by omega), if_neg h266]) (by rfl)
                · refine np_iconst (pc := 269) (v := 1) C d_M_holds_269 (by decide) ?_
                  refine np_goto (pc := 270) (tgt := 298) C d_M_holds_270 rfl ?_
                  exact np_zret (pc := 298) C d_M_holds_298 (by first | omega | (split <;> omega)) (by rw [← np_ho_113 (Y 5) (show c0 = 113 by omega), if_pos h266]) (by rfl)
            · refine np_aload_n (pc := 223) C d_M_holds_223 rfl ?_
              refine np_get (pc := 224) C 0 7 d_M_holds_224 rfl rfl rfl (by decide) hin_M m_311 rfl ?_
              refine np_iconst (pc := 227) (v := 1) C d_M_holds_227 (by decide) ?_
              refine np_iald (pc := 228) C 5 d_M_holds_228 rfl (by omega) (by decide) ?_
              refine np_aload_n (pc := 229) C d_M_holds_229 rfl ?_
              refine np_get (pc := 230) C 0 7 d_M_holds_230 rfl rfl rfl (by decide) hin_M m_311 rfl ?_
              refine np_bipush (pc := 233) (v := 97) C d_M_holds_233 (by decide) ?_
              refine np_iald (pc := 235) C 5 d_M_holds_235 rfl (by omega) (by decide) ?_
              refine np_icmp_ne (pc := 236) (tgt := 243) C (by omega) (by omega) d_M_holds_236 rfl (fun h236 => ?_) (fun h236 => ?_)
              · refine np_iconst (pc := 243) (v := 0) C d_M_holds_243 (by decide) ?_
                refine np_goto (pc := 244) (tgt := 298) C d_M_holds_244 rfl ?_
                exact np_zret (pc := 298) C d_M_holds_298 (by first | omega | (split <;> omega)) (by rw [← np_ho_112 (Y 5) (show c0 = 112 by omega), if_neg h236]) (by rfl)
              · refine np_iconst (pc := 239) (v := 1) C d_M_holds_239 (by decide) ?_
                refine np_goto (pc := 240) (tgt := 298) C d_M_holds_240 rfl ?_
                exact np_zret (pc := 298) C d_M_holds_298 (by first | omega | (split <;> omega)) (by rw [← np_ho_112 (Y 5) (show c0 = 112 by omega), if_pos h236]) (by rfl)
          · refine np_aload_n (pc := 195) C d_M_holds_195 rfl ?_
            refine np_bipush (pc := 196) (v := 7) C d_M_holds_196 (by decide) ?_
            refine np_iload_n (pc := 198) C d_M_holds_198 rfl ?_
            refine np_bipush (pc := 199) (v := 85) C d_M_holds_199 (by decide) ?_
            refine np_isub (pc := 201) C (by omega) d_M_holds_201 ?_
            refine np_bipush (pc := 202) (v := 9) C d_M_holds_202 (by decide) ?_
            refine np_idiv (pc := 204) C (by omega) (by omega) (by omega) d_M_holds_204 ?_
            refine np_iadd (pc := 205) C d_M_holds_205 ?_
            refine np_iload_n (pc := 206) C d_M_holds_206 rfl ?_
            refine np_bipush (pc := 207) (v := 85) C d_M_holds_207 (by decide) ?_
            refine np_isub (pc := 209) C (by omega) d_M_holds_209 ?_
            refine np_bipush (pc := 210) (v := 9) C d_M_holds_210 (by decide) ?_
            refine np_irem (pc := 212) C (by omega) (by omega) (by omega) d_M_holds_212 ?_
            refine np_cVi (pc := 213) C 0 (c_M_nine l D ha (by omega) (by omega) hc) np_TS_good d_M_holds_213 rfl rfl m_419 m_416 m_5 m_418 ms_M_nine hd_M_nine (by decide) rfl rfl (Nat.le_of_ble_eq_true rfl) ?_
            exact np_zret (pc := 216) C d_M_holds_216 (by first | omega | (split <;> omega)) (by exact np_ho_n (Y 5) (np_cel_3 h109 h192) (by omega)) (by rfl)
        · refine np_iload_n (pc := 112) C d_M_holds_112 rfl ?_
          refine np_bipush (pc := 113) (v := 41) C d_M_holds_113 (by decide) ?_
          refine np_isub (pc := 115) C (by omega) d_M_holds_115 ?_
          refine np_bipush (pc := 116) (v := 11) C d_M_holds_116 (by decide) ?_
          refine np_idiv (pc := 118) C (by omega) (by omega) (by omega) d_M_holds_118 ?_
          refine np_istore_n (pc := 119) C d_M_holds_119 (by decide) rfl ?_
          refine np_iload_n (pc := 120) C d_M_holds_120 rfl ?_
          refine np_bipush (pc := 121) (v := 41) C d_M_holds_121 (by decide) ?_
          refine np_isub (pc := 123) C (by omega) d_M_holds_123 ?_
          refine np_bipush (pc := 124) (v := 11) C d_M_holds_124 (by decide) ?_
          refine np_irem (pc := 126) C (by omega) (by omega) (by omega) d_M_holds_126 ?_
          refine np_istore_n (pc := 127) C d_M_holds_127 (by decide) rfl ?_
          refine np_iload_n (pc := 128) C d_M_holds_128 rfl ?_
          refine np_iconst (pc := 129) (v := 1) C d_M_holds_129 (by decide) ?_
          refine np_icmp_le (pc := 130) (tgt := 144) C (by omega) (by omega) d_M_holds_130 rfl (fun h130 => ?_) (fun h130 => ?_)
          · refine np_aload_n (pc := 144) C d_M_holds_144 rfl ?_
            refine np_iload_n (pc := 145) C d_M_holds_145 rfl ?_
            refine np_iload_n (pc := 146) C d_M_holds_146 rfl ?_
            refine np_if_ne (pc := 147) (tgt := 154) C (by omega) d_M_holds_147 rfl (fun h147 => ?_) (fun h147 => ?_)
            · refine np_iconst (pc := 154) (v := 0) C d_M_holds_154 (by decide) ?_
              refine np_cVi (pc := 155) C 0 (c_M_turned_0 l D ha (by omega) hc) np_TS_good d_M_holds_155 rfl rfl m_399 m_396 m_5 m_398 ms_M_turned hd_M_turned (by decide) rfl rfl (Nat.le_of_ble_eq_true rfl) ?_
              refine np_istore (pc := 158) C d_M_holds_158 (by decide) rfl ?_
              refine np_aload_n (pc := 160) C d_M_holds_160 rfl ?_
              refine np_get (pc := 161) C 0 7 d_M_holds_161 rfl rfl rfl (by decide) hin_M m_311 rfl ?_
              refine np_iload_n (pc := 164) C d_M_holds_164 rfl ?_
              refine np_if_ne (pc := 165) (tgt := 173) C (by omega) d_M_holds_165 rfl (fun h165 => ?_) (fun h165 => ?_)
              · refine np_bipush (pc := 173) (v := 23) C d_M_holds_173 (by decide) ?_
                refine np_iload_n (pc := 175) C d_M_holds_175 rfl ?_
                refine np_iadd (pc := 176) C d_M_holds_176 ?_
                refine np_iald (pc := 177) C 5 d_M_holds_177 rfl (by omega) (by decide) ?_
                refine np_iload (pc := 178) C d_M_holds_178 rfl ?_
                refine np_icmp_ne (pc := 180) (tgt := 187) C (by first | omega | exact Nat.lt_trans (hc _) (by decide) | exact Nat.lt_trans (np_sm_lt _ _) (by decide) | exact Nat.lt_trans (np_df_lt _ _) (by decide)) (by first | omega | exact Nat.lt_trans (hc _) (by decide) | exact Nat.lt_trans (np_sm_lt _ _) (by decide) | exact Nat.lt_trans (np_df_lt _ _) (by decide)) d_M_holds_180 rfl (fun h180 => ?_) (fun h180 => ?_)
                · refine np_iconst (pc := 187) (v := 0) C d_M_holds_187 (by decide) ?_
                  exact np_zret (pc := 188) C d_M_holds_188 (by first | omega | (split <;> omega)) (by rw [← np_ho_r (Y 5) (show c0 = 42 + 11 * ((c0 - 41) / 11) by omega) (by omega), if_neg h180]) (by rfl)
                · refine np_iconst (pc := 183) (v := 1) C d_M_holds_183 (by decide) ?_
                  refine np_goto (pc := 184) (tgt := 188) C d_M_holds_184 rfl ?_
                  exact np_zret (pc := 188) C d_M_holds_188 (by first | omega | (split <;> omega)) (by rw [← np_ho_r (Y 5) (show c0 = 42 + 11 * ((c0 - 41) / 11) by omega) (by omega), if_pos h180]) (by rfl)
              · exfalso; omega
            · refine np_iconst (pc := 150) (v := 1) C d_M_holds_150 (by decide) ?_
              refine np_goto (pc := 151) (tgt := 155) C d_M_holds_151 rfl ?_
              refine np_cVi (pc := 155) C 0 (c_M_turned_1 l D ha (by omega) hc) np_TS_good d_M_holds_155 rfl rfl m_399 m_396 m_5 m_398 ms_M_turned hd_M_turned (by decide) rfl rfl (Nat.le_of_ble_eq_true rfl) ?_
              refine np_istore (pc := 158) C d_M_holds_158 (by decide) rfl ?_
              refine np_aload_n (pc := 160) C d_M_holds_160 rfl ?_
              refine np_get (pc := 161) C 0 7 d_M_holds_161 rfl rfl rfl (by decide) hin_M m_311 rfl ?_
              refine np_iload_n (pc := 164) C d_M_holds_164 rfl ?_
              refine np_if_ne (pc := 165) (tgt := 173) C (by omega) d_M_holds_165 rfl (fun h165 => ?_) (fun h165 => ?_)
              · exfalso; omega
              · refine np_bipush (pc := 168) (v := 19) C d_M_holds_168 (by decide) ?_
                refine np_goto (pc := 170) (tgt := 175) C d_M_holds_170 rfl ?_
                refine np_iload_n (pc := 175) C d_M_holds_175 rfl ?_
                refine np_iadd (pc := 176) C d_M_holds_176 ?_
                refine np_iald (pc := 177) C 5 d_M_holds_177 rfl (by omega) (by decide) ?_
                refine np_iload (pc := 178) C d_M_holds_178 rfl ?_
                refine np_icmp_ne (pc := 180) (tgt := 187) C (by first | omega | exact Nat.lt_trans (hc _) (by decide) | exact Nat.lt_trans (np_sm_lt _ _) (by decide) | exact Nat.lt_trans (np_df_lt _ _) (by decide)) (by first | omega | exact Nat.lt_trans (hc _) (by decide) | exact Nat.lt_trans (np_sm_lt _ _) (by decide) | exact Nat.lt_trans (np_df_lt _ _) (by decide)) d_M_holds_180 rfl (fun h180 => ?_) (fun h180 => ?_)
                · refine np_iconst (pc := 187) (v := 0) C d_M_holds_187 (by decide) ?_
                  exact np_zret (pc := 188) C d_M_holds_188 (by first | omega | (split <;> omega)) (by rw [← np_ho_l (Y 5) (show c0 = 41 + 11 * ((c0 - 41) / 11) by omega) (by omega), if_neg h180]) (by rfl)
                · refine np_iconst (pc := 183) (v := 1) C d_M_holds_183 (by decide) ?_
                  refine np_goto (pc := 184) (tgt := 188) C d_M_holds_184 rfl ?_
                  exact np_zret (pc := 188) C d_M_holds_188 (by first | omega | (split <;> omega)) (by rw [← np_ho_l (Y 5) (show c0 = 41 + 11 * ((c0 - 41) / 11) by omega) (by omega), if_pos h180]) (by rfl)
          · refine np_aload_n (pc := 133) C d_M_holds_133 rfl ?_
            refine np_iconst (pc := 134) (v := 3) C d_M_holds_134 (by decide) ?_
            refine np_iload_n (pc := 135) C d_M_holds_135 rfl ?_
            refine np_iadd (pc := 136) C d_M_holds_136 ?_
            refine np_iload_n (pc := 137) C d_M_holds_137 rfl ?_
            refine np_iconst (pc := 138) (v := 2) C d_M_holds_138 (by decide) ?_
            refine np_isub (pc := 139) C (by omega) d_M_holds_139 ?_
            refine np_cVi (pc := 140) C 0 (c_M_nine l D ha (by omega) (by omega) hc) np_TS_good d_M_holds_140 rfl rfl m_419 m_416 m_5 m_418 ms_M_nine hd_M_nine (by decide) rfl rfl (Nat.le_of_ble_eq_true rfl) ?_
            exact np_zret (pc := 143) C d_M_holds_143 (by first | omega | (split <;> omega)) (by exact np_ho_n (Y 5) (np_cel_2 h84 h109 h130) (by omega)) (by rfl)
      · refine np_aload_n (pc := 87) C d_M_holds_87 rfl ?_
        refine np_iload_n (pc := 88) C d_M_holds_88 rfl ?_
        refine np_bipush (pc := 89) (v := 14) C d_M_holds_89 (by decide) ?_
        refine np_isub (pc := 91) C (by omega) d_M_holds_91 ?_
        refine np_bipush (pc := 92) (v := 9) C d_M_holds_92 (by decide) ?_
        refine np_idiv (pc := 94) C (by omega) (by omega) (by omega) d_M_holds_94 ?_
        refine np_iload_n (pc := 95) C d_M_holds_95 rfl ?_
        refine np_bipush (pc := 96) (v := 14) C d_M_holds_96 (by decide) ?_
        refine np_isub (pc := 98) C (by omega) d_M_holds_98 ?_
        refine np_bipush (pc := 99) (v := 9) C d_M_holds_99 (by decide) ?_
        refine np_irem (pc := 101) C (by omega) (by omega) (by omega) d_M_holds_101 ?_
        refine np_cVi (pc := 102) C 0 (c_M_nine l D ha (by omega) (by omega) hc) np_TS_good d_M_holds_102 rfl rfl m_419 m_416 m_5 m_418 ms_M_nine hd_M_nine (by decide) rfl rfl (Nat.le_of_ble_eq_true rfl) ?_
        exact np_zret (pc := 105) C d_M_holds_105 (by first | omega | (split <;> omega)) (by exact np_ho_n (Y 5) (np_cel_1 h30 h84) (by omega)) (by rfl)
    · refine np_iload_n (pc := 33) C d_M_holds_33 rfl ?_
      refine np_bipush (pc := 34) (v := 12) C d_M_holds_34 (by decide) ?_
      refine np_icmp_ne (pc := 36) (tgt := 46) C (by omega) (by omega) d_M_holds_36 rfl (fun h36 => ?_) (fun h36 => ?_)
      · refine np_aload_n (pc := 46) C d_M_holds_46 rfl ?_
        refine np_get (pc := 47) C 0 7 d_M_holds_47 rfl rfl rfl (by decide) hin_M m_311 rfl ?_
        refine np_bipush (pc := 50) (v := 9) C d_M_holds_50 (by decide) ?_
        refine np_iald (pc := 52) C 5 d_M_holds_52 rfl (by omega) (by decide) ?_
        refine np_i2l (pc := 53) C (by omega) d_M_holds_53 ?_
        refine np_aload_n (pc := 54) C d_M_holds_54 rfl ?_
        refine np_get (pc := 55) C 0 7 d_M_holds_55 rfl rfl rfl (by decide) hin_M m_311 rfl ?_
        refine np_iconst (pc := 58) (v := 4) C d_M_holds_58 (by decide) ?_
        refine np_iald (pc := 59) C 5 d_M_holds_59 rfl (by omega) (by decide) ?_
        refine np_i2l (pc := 60) C (by omega) d_M_holds_60 ?_
        refine np_ladd (pc := 61) C d_M_holds_61 ?_
        refine np_cSi (pc := 62) C (c_M_reduced l D (by omega)) np_TS_good d_M_holds_62 m_352 m_350 m_5 m_351 hd_M_reduced (by decide) rfl rfl (Nat.le_of_ble_eq_true rfl) ?_
        refine np_aload_n (pc := 65) C d_M_holds_65 rfl ?_
        refine np_get (pc := 66) C 0 7 d_M_holds_66 rfl rfl rfl (by decide) hin_M m_311 rfl ?_
        refine np_bipush (pc := 69) (v := 6) C d_M_holds_69 (by decide) ?_
        refine np_iald (pc := 71) C 5 d_M_holds_71 rfl (by omega) (by decide) ?_
        refine np_icmp_ne (pc := 72) (tgt := 79) C (by omega) (by omega) d_M_holds_72 rfl (fun h72 => ?_) (fun h72 => ?_)
        · refine np_iconst (pc := 79) (v := 0) C d_M_holds_79 (by decide) ?_
          exact np_zret (pc := 80) C d_M_holds_80 (by first | omega | (split <;> omega)) (by rw [← np_ho_13 (Y 5) (show c0 = 13 by omega), if_neg h72]) (by rfl)
        · refine np_iconst (pc := 75) (v := 1) C d_M_holds_75 (by decide) ?_
          refine np_goto (pc := 76) (tgt := 80) C d_M_holds_76 rfl ?_
          exact np_zret (pc := 80) C d_M_holds_80 (by first | omega | (split <;> omega)) (by rw [← np_ho_13 (Y 5) (show c0 = 13 by omega), if_pos h72]) (by rfl)
      · refine np_aload_n (pc := 39) C d_M_holds_39 rfl ?_
        refine np_cVi (pc := 40) C 0 (c_M_sums l D ha hc) np_TS_good d_M_holds_40 rfl rfl m_415 m_412 m_5 m_414 ms_M_sums hd_M_sums (by decide) rfl rfl (Nat.le_of_ble_eq_true rfl) ?_
        refine np_goto (pc := 43) (tgt := 80) C d_M_holds_43 rfl ?_
        exact np_zret (pc := 80) C d_M_holds_80 (by first | omega | (split <;> omega)) (by exact np_ho_12 (Y 5) h36) (by rfl)
  · refine np_aload_n (pc := 6) C d_M_holds_6 rfl ?_
    refine np_iload_n (pc := 7) C d_M_holds_7 rfl ?_
    refine np_iconst (pc := 8) (v := 4) C d_M_holds_8 (by decide) ?_
    refine np_icmp_ge (pc := 9) (tgt := 19) C (by omega) (by omega) d_M_holds_9 rfl (fun h9 => ?_) (fun h9 => ?_)
    · refine np_bipush (pc := 19) (v := 23) C d_M_holds_19 (by decide) ?_
      refine np_iload_n (pc := 21) C d_M_holds_21 rfl ?_
      refine np_iadd (pc := 22) C d_M_holds_22 ?_
      refine np_cVi (pc := 23) C 0 (c_M_bit l D ha (by omega) hc) np_TS_good d_M_holds_23 rfl rfl m_411 m_408 m_5 m_410 ms_M_bit hd_M_bit (by decide) rfl rfl (Nat.le_of_ble_eq_true rfl) ?_
      exact np_zret (pc := 26) C d_M_holds_26 (by first | omega | (split <;> omega)) (by exact np_ho_b2 hc h9 h3) (by rfl)
    · refine np_bipush (pc := 12) (v := 15) C d_M_holds_12 (by decide) ?_
      refine np_iload_n (pc := 14) C d_M_holds_14 rfl ?_
      refine np_iadd (pc := 15) C d_M_holds_15 ?_
      refine np_goto (pc := 16) (tgt := 23) C d_M_holds_16 rfl ?_
      refine np_cVi (pc := 23) C 0 (c_M_bit l D ha (by omega) hc) np_TS_good d_M_holds_23 rfl rfl m_411 m_408 m_5 m_410 ms_M_bit hd_M_bit (by decide) rfl rfl (Nat.le_of_ble_eq_true rfl) ?_
      exact np_zret (pc := 26) C d_M_holds_26 (by first | omega | (split <;> omega)) (by exact np_ho_b1 hc h9) (by rfl)
set_option maxRecDepth 20000 in
set_option maxHeartbeats 4000000 in
theorem c_M_fill (l : Launch) (D : va_G) {cI : ClassId} {a : Nat → Nat} (ha : np_inj a 7) {Y : np_X} {b : Nat} (hb : b < 10) (hc : np_ok (Y 5)) : np_M l D cI (np_ad a 7) (3, 77) y_M_fill b_M_fill 3 none [.ref (a 0), .int (nI b)] (np_mw a cI Y) none (np_mw a cI (va_up Y 5 (np_fil (Y 5) b 0 9))) := by
  refine np_Ct.of (np_Sm_St _) (by decide) (Nat.le_of_ble_eq_true rfl) ?_
  intro p e s m below meth c C
  refine np_at (vs2 := [some (.ref (a 0)), some (.int (nI b)), none]) rfl ?_
  have loop : ∀ (n z : Nat) (f : Nat → Nat), z + n = 9 → np_ok f → np_fil f b z n = np_fil (Y 5) b 0 9 → np_V p l e (np_rm (3, 77)) s m ([.ref (a 0), .int (nI b)] : List Value).toArray below meth c 0 0 D np_cls (np_ad a 7) (MQ below (np_Qc D np_cls (np_ad a 7) none (np_mw a cI (va_up Y 5 (np_fil (Y 5) b 0 9)))) ([.ref (a 0), .int (nI b)] : List Value).toArray s 0 0 (np_ad a 7)) 3 (np_mw a cI (va_up Y 5 f)) 2 [some (.ref (a 0)), some (.int (nI b)), some (.int (nI z))] [] := by
    intro n
    induction n with
    | zero =>
      intro z f hz hf he
      obtain rfl : z = 9 := by omega
      refine np_iload_n (pc := 2) C d_M_fill_2 rfl ?_
      refine np_bipush (pc := 3) (v := 9) C d_M_fill_3 (by decide) ?_
      refine np_icmp_ge (pc := 5) (tgt := 34) C (by omega) (by omega) d_M_fill_5 rfl (fun h5 => ?_) (fun h5 => ?_)
      · exact np_vret (pc := 34) C d_M_fill_34 (by rw [← he]; rfl)
      · exfalso; omega
    | succ n ih =>
      intro z f hz hf he
      refine np_iload_n (pc := 2) C d_M_fill_2 rfl ?_
      refine np_bipush (pc := 3) (v := 9) C d_M_fill_3 (by decide) ?_
      refine np_icmp_ge (pc := 5) (tgt := 34) C (by omega) (by omega) d_M_fill_5 rfl (fun h5 => ?_) (fun h5 => ?_)
      · exfalso; omega
      · refine np_aload_n (pc := 8) C d_M_fill_8 rfl ?_
        refine np_get (pc := 9) C 0 7 d_M_fill_9 rfl rfl rfl (by decide) hin_M m_311 rfl ?_
        refine np_bipush (pc := 12) (v := 35) C d_M_fill_12 (by decide) ?_
        refine np_bipush (pc := 14) (v := 9) C d_M_fill_14 (by decide) ?_
        refine np_iload_n (pc := 16) C d_M_fill_16 rfl ?_
        refine np_imul (pc := 17) C d_M_fill_17 ?_
        refine np_iadd (pc := 18) C d_M_fill_18 ?_
        refine np_iload_n (pc := 19) C d_M_fill_19 rfl ?_
        refine np_iadd (pc := 20) C d_M_fill_20 ?_
        refine np_aload_n (pc := 21) C d_M_fill_21 rfl ?_
        refine np_iload_n (pc := 22) C d_M_fill_22 rfl ?_
        refine np_iload_n (pc := 23) C d_M_fill_23 rfl ?_
        refine np_cVi (pc := 24) C 0 (c_M_due l D ha (Y := va_up Y 5 f) hb (by omega) hf) np_TS_good d_M_fill_24 rfl rfl m_383 m_380 m_5 m_382 ms_M_due hd_M_due (by decide) rfl rfl (Nat.le_of_ble_eq_true rfl) ?_
        refine np_iastG (pc := 27) C (np_mw a cI) _ 5 5 (np_mD ha _) d_M_fill_27 rfl (us_5 a cI _) (by omega) (by decide) ?_
        refine np_iinc (pc := 28) C d_M_fill_28 rfl (np_inc1 _) (by decide) rfl ?_
        refine np_goto (pc := 31) (tgt := 2) C d_M_fill_31 rfl ?_
        refine np_at (vs2 := [some (.ref (a 0)), some (.int (nI b)), some (.int (nI (z + 1)))]) rfl ?_
        refine np_atw (w2 := (np_mw a cI (va_up Y 5 (updN f (35 + 9 * b + z) (np_blk f b z))))) rfl ?_
        exact ih (z + 1) _ (by omega) (np_ok_upd hf (np_blk_lt _ _)) he
  refine np_iconst (pc := 0) (v := 0) C d_M_fill_0 (by decide) ?_
  refine np_istore_n (pc := 1) C d_M_fill_1 (by decide) rfl ?_
  refine np_at (vs2 := [some (.ref (a 0)), some (.int (nI b)), some (.int (nI 0))]) rfl ?_
  refine np_atw (w2 := (np_mw a cI (va_up Y 5 (Y 5)))) rfl ?_
  exact loop 9 0 (Y 5) rfl hc rfl
set_option maxRecDepth 20000 in
set_option maxHeartbeats 4000000 in
theorem c_M_fault (l : Launch) (D : va_G) {cI : ClassId} {a : Nat → Nat} (ha : np_inj a 7) {Y : np_X} (hc : np_ok (Y 5)) : np_M l D cI (np_ad a 7) (5, 123) y_M_fault b_M_fault 2 (some .int) [.ref (a 0)] (np_mw a cI Y) (some (.int (nI (np_flt (Y 5) 0 115)))) (np_mw a cI Y) := by
  refine np_Ct.of (np_Sm_St _) (by decide) (Nat.le_of_ble_eq_true rfl) ?_
  intro p e s m below meth c C
  refine np_at (vs2 := [some (.ref (a 0)), none]) rfl ?_
  have loop : ∀ (n i : Nat), i + n = 115 → np_flt (Y 5) i n = np_flt (Y 5) 0 115 → np_V p l e (np_rm (5, 123)) s m ([.ref (a 0)] : List Value).toArray below meth c 0 0 D np_cls (np_ad a 7) (MQ below (np_Qc D np_cls (np_ad a 7) (some (.int (nI (np_flt (Y 5) 0 115)))) (np_mw a cI Y)) ([.ref (a 0)] : List Value).toArray s 0 0 (np_ad a 7)) 2 (np_mw a cI Y) 2 [some (.ref (a 0)), some (.int (nI i))] [] := by
    intro n
    induction n with
    | zero =>
      intro i hi he
      obtain rfl : i = 115 := by omega
      refine np_iload_n (pc := 2) C d_M_fault_2 rfl ?_
      refine np_bipush (pc := 3) (v := 115) C d_M_fault_3 (by decide) ?_
      refine np_icmp_ge (pc := 5) (tgt := 24) C (by omega) (by omega) d_M_fault_5 rfl (fun h5 => ?_) (fun h5 => ?_)
      · refine np_iconst (pc := 24) (v := 4294967295) C d_M_fault_24 (by decide) ?_
        exact np_iret (pc := 25) C d_M_fault_25 (by rw [← he]; rfl) (by rfl)
      · exfalso; omega
    | succ n ih =>
      intro i hi he
      refine np_iload_n (pc := 2) C d_M_fault_2 rfl ?_
      refine np_bipush (pc := 3) (v := 115) C d_M_fault_3 (by decide) ?_
      refine np_icmp_ge (pc := 5) (tgt := 24) C (by omega) (by omega) d_M_fault_5 rfl (fun h5 => ?_) (fun h5 => ?_)
      · exfalso; omega
      · refine np_aload_n (pc := 8) C d_M_fault_8 rfl ?_
        refine np_iload_n (pc := 9) C d_M_fault_9 rfl ?_
        refine np_cVi (pc := 10) C 0 (c_M_holds l D ha (by omega) hc) np_TS_good d_M_fault_10 rfl rfl m_407 m_404 m_5 m_406 ms_M_holds hd_M_holds (by decide) rfl rfl (Nat.le_of_ble_eq_true rfl) ?_
        refine np_atst (st2 := [.int (nI (if Y 5 (np_cel i) = np_due (Y 5) (np_cel i) then 1 else 0))]) rfl ?_
        refine np_ifz_ne (pc := 13) (tgt := 18) C d_M_fault_13 rfl (fun h13 => ?_) (fun h13 => ?_)
        · rw [np_flt, if_pos h13] at he
          refine np_iinc (pc := 18) C d_M_fault_18 rfl (np_inc1 _) (by decide) rfl ?_
          refine np_goto (pc := 21) (tgt := 2) C d_M_fault_21 rfl ?_
          refine np_at (vs2 := [some (.ref (a 0)), some (.int (nI (i + 1)))]) rfl ?_
          exact ih (i + 1) (by omega) he
        · rw [np_flt, if_neg h13] at he
          refine np_iload_n (pc := 16) C d_M_fault_16 rfl ?_
          exact np_iret (pc := 17) C d_M_fault_17 (by exact he) (by rfl)
  refine np_iconst (pc := 0) (v := 0) C d_M_fault_0 (by decide) ?_
  refine np_istore_n (pc := 1) C d_M_fault_1 (by decide) rfl ?_
  refine np_at (vs2 := [some (.ref (a 0)), some (.int (nI 0))]) rfl ?_
  exact loop 115 0 rfl rfl
