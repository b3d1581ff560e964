/-! THE LAW: its loop -/
section XLW
/-- the law, with the room of the claim -/
abbrev YL : xY := (yL_law, cL_law, 4, some .boolean, 10, 366)
set_option maxHeartbeats 4000000 in
set_option maxRecDepth 100000 in
theorem P_L_write {G : xG} {x m i mo na len seen E : Nat} {p : Nat → Nat} {R : xR} {L : xL} {I : xI} (hm : m = x + 122) (hX : XS G (TW 134) R x) (hM : XM G (TW 134) R m) (hJ : JD x m E mo na len seen p R L I) (hE : E < 10000) (hle : i + 4 ≤ G.2.2.2.2.2.1) (hls : G.2.2.2.2.2.1 ≤ 2048) {o : xO} (ho : o.1 = TW 134) (hn : ∀ R2 L2 I2, JI G (TW 134) x m (E + 1) R2 L2 I2 → xV G YL (TW 0) o 884 [some (.ref G.2.2.2.2.1), some (.ref x), some (.ref m), some (.int (nI i))] [] (TW 134) R2 L2 I2) : xV G YL (TW 0) o 156 [some (.ref G.2.2.2.2.1), some (.ref x), some (.ref m), some (.int (nI i))] [] (TW 134) R L I := by
  have hx0 := hX.1
  have hm0 := hM.1
  obtain ⟨oT, oP⟩ := o
  subst ho
  refine xV_aload_n e_L_law_156 rfl ?_
  refine xV_aload_n e_L_law_157 rfl ?_
  refine xV_iload_n e_L_law_158 rfl ?_
  refine xV_iconst (v := (nI 1)) e_L_law_159 (by decide) ?_
  refine xV_iaddN e_L_law_160 ?_
  refine xV_ialdN e_L_law_161 (by exact xRow.scr) (by omega) (by omega) ?_
  refine xV_aload_n e_L_law_162 rfl ?_
  refine xV_iload_n e_L_law_163 rfl ?_
  refine xV_iconst (v := (nI 2)) e_L_law_164 (by decide) ?_
  refine xV_iaddN e_L_law_165 ?_
  refine xV_ialdN e_L_law_166 (by exact xRow.scr) (by omega) (by omega) ?_
  refine xV_i2l e_L_law_167 ?_
  refine xV_bipush (v := (nI 32)) e_L_law_168 (by decide) ?_
  refine xV_lshl e_L_law_170 ?_
  refine xV_aload_n e_L_law_171 rfl ?_
  refine xV_iload_n e_L_law_172 rfl ?_
  refine xV_iconst (v := (nI 3)) e_L_law_173 (by decide) ?_
  refine xV_iaddN e_L_law_174 ?_
  refine xV_ialdN e_L_law_175 (by exact xRow.scr) (by omega) (by omega) ?_
  refine xV_i2l e_L_law_176 ?_
  refine xV_ldc2 e_L_law_177 k_L_13 ?_
  refine xV_land e_L_law_180 ?_
  refine xV_lor e_L_law_181 ?_
  refine xV_cV2iP e_L_law_182 c_L_15 (by assumption) (J1_write hX hJ.2.1.1 hJ.2.1.2.2.1) (Nat.le_of_ble_eq_true rfl) ⟨(Nat.le_of_ble_eq_true rfl), (Nat.le_of_ble_eq_true rfl)⟩ (TW_le (Nat.zero_le _) (Nat.le_refl _)) (xle_r _) (fun r1 R1 L1 I1 g1 => ?_)
  obtain ⟨rfl, rfl, g1⟩ := g1
  refine xV_aload_n e_L_law_185 rfl ?_
  refine xV_aload_n e_L_law_186 rfl ?_
  refine xV_iload_n e_L_law_187 rfl ?_
  refine xV_iconst (v := (nI 1)) e_L_law_188 (by decide) ?_
  refine xV_iaddN e_L_law_189 ?_
  refine xV_ialdN e_L_law_190 (by exact xRow.scr) (by omega) (by omega) ?_
  refine xV_aload_n e_L_law_191 rfl ?_
  refine xV_iload_n e_L_law_192 rfl ?_
  refine xV_iconst (v := (nI 2)) e_L_law_193 (by decide) ?_
  refine xV_iaddN e_L_law_194 ?_
  refine xV_ialdN e_L_law_195 (by exact xRow.scr) (by omega) (by omega) ?_
  refine xV_i2l e_L_law_196 ?_
  refine xV_bipush (v := (nI 32)) e_L_law_197 (by decide) ?_
  refine xV_lshl e_L_law_199 ?_
  refine xV_aload_n e_L_law_200 rfl ?_
  refine xV_iload_n e_L_law_201 rfl ?_
  refine xV_iconst (v := (nI 3)) e_L_law_202 (by decide) ?_
  refine xV_iaddN e_L_law_203 ?_
  refine xV_ialdN e_L_law_204 (by exact xRow.scr) (by omega) (by omega) ?_
  refine xV_i2l e_L_law_205 ?_
  refine xV_ldc2 e_L_law_206 k_L_13 ?_
  refine xV_land e_L_law_209 ?_
  refine xV_lor e_L_law_210 ?_
  refine xV_cV2iP e_L_law_211 c_L_19 (by assumption) (J2_write hm hX hM hJ g1) (Nat.le_of_ble_eq_true rfl) ⟨(Nat.le_of_ble_eq_true rfl), (Nat.le_of_ble_eq_true rfl)⟩ (TW_le (Nat.zero_le _) (Nat.le_refl _)) (xle_r _) (fun r2 R2 L2 I2 g2 => ?_)
  refine xV_icmp_eq e_L_law_214 (fun h214 => ?_) (fun h214 => ?_)
  · exact hn _ _ _ g2.2
  · exact absurd g2.1.symm h214
set_option maxHeartbeats 4000000 in
set_option maxRecDepth 100000 in
theorem P_L_wipe {G : xG} {x m i mo na len seen E : Nat} {p : Nat → Nat} {R : xR} {L : xL} {I : xI} (hm : m = x + 122) (hX : XS G (TW 134) R x) (hM : XM G (TW 134) R m) (hJ : JD x m E mo na len seen p R L I) (hE : E < 10000) (hle : i + 4 ≤ G.2.2.2.2.2.1) (hls : G.2.2.2.2.2.1 ≤ 2048) {o : xO} (ho : o.1 = TW 134) (hn : ∀ R2 L2 I2, JI G (TW 134) x m (E + 1) R2 L2 I2 → xV G YL (TW 0) o 884 [some (.ref G.2.2.2.2.1), some (.ref x), some (.ref m), some (.int (nI i))] [] (TW 134) R2 L2 I2) : xV G YL (TW 0) o 219 [some (.ref G.2.2.2.2.1), some (.ref x), some (.ref m), some (.int (nI i))] [] (TW 134) R L I := by
  have hx0 := hX.1
  have hm0 := hM.1
  obtain ⟨oT, oP⟩ := o
  subst ho
  refine xV_aload_n e_L_law_219 rfl ?_
  refine xV_cV0i e_L_law_220 c_L_20 (by assumption) (C_X2_wipe hX) (Nat.le_of_ble_eq_true rfl) ⟨(Nat.le_of_ble_eq_true rfl), (Nat.le_of_ble_eq_true rfl)⟩ (TW_le (Nat.zero_le _) (Nat.le_refl _)) (xle_r _) ?_
  refine xV_aload_n e_L_law_223 rfl ?_
  refine xV_cV0iP e_L_law_224 c_L_24 (by assumption) (J2_wipe hm hX hM hJ) (Nat.le_of_ble_eq_true rfl) ⟨(Nat.le_of_ble_eq_true rfl), (Nat.le_of_ble_eq_true rfl)⟩ (TW_le (Nat.zero_le _) (Nat.le_refl _)) (xle_r _) (fun r2 R2 L2 I2 g2 => ?_)
  refine xV_icmp_eq e_L_law_227 (fun h227 => ?_) (fun h227 => ?_)
  · exact hn _ _ _ g2.2
  · exact absurd g2.1.symm h227
set_option maxHeartbeats 4000000 in
set_option maxRecDepth 100000 in
theorem P_L_fault {G : xG} {x m i mo na len seen E : Nat} {p : Nat → Nat} {R : xR} {L : xL} {I : xI} (hm : m = x + 122) (hX : XS G (TW 134) R x) (hM : XM G (TW 134) R m) (hJ : JD x m E mo na len seen p R L I) (hE : E < 10000) (hle : i + 4 ≤ G.2.2.2.2.2.1) (hls : G.2.2.2.2.2.1 ≤ 2048) {o : xO} (ho : o.1 = TW 134) (hn : ∀ R2 L2 I2, JI G (TW 134) x m (E + 1) R2 L2 I2 → xV G YL (TW 0) o 884 [some (.ref G.2.2.2.2.1), some (.ref x), some (.ref m), some (.int (nI i))] [] (TW 134) R2 L2 I2) : xV G YL (TW 0) o 232 [some (.ref G.2.2.2.2.1), some (.ref x), some (.ref m), some (.int (nI i))] [] (TW 134) R L I := by
  have hx0 := hX.1
  have hm0 := hM.1
  obtain ⟨oT, oP⟩ := o
  subst ho
  refine xV_aload_n e_L_law_232 rfl ?_
  refine xV_cV0iP e_L_law_233 c_L_25 (by assumption) (C_X2_fault hX hJ.2.1.1 hJ.2.1.2.2.1) (Nat.le_of_ble_eq_true rfl) ⟨(Nat.le_of_ble_eq_true rfl), (Nat.le_of_ble_eq_true rfl)⟩ (TW_le (Nat.zero_le _) (Nat.le_refl _)) (xle_r _) (fun r1 R1 L1 I1 g1 => ?_)
  obtain ⟨rfl, rfl, rfl, hS⟩ := g1
  refine xV_aload_n e_L_law_236 rfl ?_
  refine xV_cV0iP e_L_law_237 c_L_28 (by assumption) (J2_fault hm hX hM hJ hS) (Nat.le_of_ble_eq_true rfl) ⟨(Nat.le_of_ble_eq_true rfl), (Nat.le_of_ble_eq_true rfl)⟩ (TW_le (Nat.zero_le _) (Nat.le_refl _)) (xle_r _) (fun r2 R2 L2 I2 g2 => ?_)
  refine xV_icmp_eq e_L_law_240 (fun h240 => ?_) (fun h240 => ?_)
  · exact hn _ _ _ g2.2
  · exact absurd g2.1.symm h240
set_option maxHeartbeats 4000000 in
set_option maxRecDepth 100000 in
theorem P_L_mine {G : xG} {x m i mo na len seen E : Nat} {p : Nat → Nat} {R : xR} {L : xL} {I : xI} (hm : m = x + 122) (hX : XS G (TW 134) R x) (hM : XM G (TW 134) R m) (hJ : JD x m E mo na len seen p R L I) (hE : E < 10000) (hle : i + 4 ≤ G.2.2.2.2.2.1) (hls : G.2.2.2.2.2.1 ≤ 2048) {o : xO} (ho : o.1 = TW 134) (hn : ∀ R2 L2 I2, JI G (TW 134) x m (E + 1) R2 L2 I2 → xV G YL (TW 0) o 884 [some (.ref G.2.2.2.2.1), some (.ref x), some (.ref m), some (.int (nI i))] [] (TW 134) R2 L2 I2) : xV G YL (TW 0) o 245 [some (.ref G.2.2.2.2.1), some (.ref x), some (.ref m), some (.int (nI i))] [] (TW 134) R L I := by
  have hx0 := hX.1
  have hm0 := hM.1
  obtain ⟨oT, oP⟩ := o
  subst ho
  refine xV_aload_n e_L_law_245 rfl ?_
  refine xV_cV0iP e_L_law_246 c_L_29 (by assumption) (C_X2_mine hX hJ.2.1.1 hJ.2.1.2.2.1) (Nat.le_of_ble_eq_true rfl) ⟨(Nat.le_of_ble_eq_true rfl), (Nat.le_of_ble_eq_true rfl)⟩ (TW_le (Nat.zero_le _) (Nat.le_refl _)) (xle_r _) (fun r1 R1 L1 I1 g1 => ?_)
  obtain ⟨rfl, rfl, g1⟩ := g1
  refine xV_aload_n e_L_law_249 rfl ?_
  refine xV_cV0iP e_L_law_250 c_L_32 (by assumption) (J2_mine hm hX hM hJ g1) (Nat.le_of_ble_eq_true rfl) ⟨(Nat.le_of_ble_eq_true rfl), (Nat.le_of_ble_eq_true rfl)⟩ (TW_le (Nat.zero_le _) (Nat.le_refl _)) (xle_r _) (fun r2 R2 L2 I2 g2 => ?_)
  refine xV_icmp_eq e_L_law_253 (fun h253 => ?_) (fun h253 => ?_)
  · exact hn _ _ _ g2.2
  · exact absurd g2.1.symm h253
set_option maxHeartbeats 4000000 in
set_option maxRecDepth 100000 in
theorem P_L_about {G : xG} {x m i mo na len seen E : Nat} {p : Nat → Nat} {R : xR} {L : xL} {I : xI} (hm : m = x + 122) (hX : XS G (TW 134) R x) (hM : XM G (TW 134) R m) (hJ : JD x m E mo na len seen p R L I) (hE : E < 10000) (hle : i + 4 ≤ G.2.2.2.2.2.1) (hls : G.2.2.2.2.2.1 ≤ 2048) {o : xO} (ho : o.1 = TW 134) (hn : ∀ R2 L2 I2, JI G (TW 134) x m (E + 1) R2 L2 I2 → xV G YL (TW 0) o 884 [some (.ref G.2.2.2.2.1), some (.ref x), some (.ref m), some (.int (nI i))] [] (TW 134) R2 L2 I2) : xV G YL (TW 0) o 258 [some (.ref G.2.2.2.2.1), some (.ref x), some (.ref m), some (.int (nI i))] [] (TW 134) R L I := by
  have hx0 := hX.1
  have hm0 := hM.1
  obtain ⟨oT, oP⟩ := o
  subst ho
  refine xV_aload_n e_L_law_258 rfl ?_
  refine xV_aload_n e_L_law_259 rfl ?_
  refine xV_iload_n e_L_law_260 rfl ?_
  refine xV_iconst (v := (nI 1)) e_L_law_261 (by decide) ?_
  refine xV_iaddN e_L_law_262 ?_
  refine xV_ialdN e_L_law_263 (by exact xRow.scr) (by omega) (by omega) ?_
  refine xV_cV1i e_L_law_264 c_L_33 (by assumption) (C_X2_about hX) (Nat.le_of_ble_eq_true rfl) ⟨(Nat.le_of_ble_eq_true rfl), (Nat.le_of_ble_eq_true rfl)⟩ (TW_le (Nat.zero_le _) (Nat.le_refl _)) (xle_r _) ?_
  refine xV_aload_n e_L_law_267 rfl ?_
  refine xV_aload_n e_L_law_268 rfl ?_
  refine xV_iload_n e_L_law_269 rfl ?_
  refine xV_iconst (v := (nI 1)) e_L_law_270 (by decide) ?_
  refine xV_iaddN e_L_law_271 ?_
  refine xV_ialdN e_L_law_272 (by exact xRow.scr) (by omega) (by omega) ?_
  refine xV_cV1iP e_L_law_273 c_L_37 (by assumption) (J2_about hm hX hM hJ) (Nat.le_of_ble_eq_true rfl) ⟨(Nat.le_of_ble_eq_true rfl), (Nat.le_of_ble_eq_true rfl)⟩ (TW_le (Nat.zero_le _) (Nat.le_refl _)) (xle_r _) (fun r2 R2 L2 I2 g2 => ?_)
  refine xV_icmp_eq e_L_law_276 (fun h276 => ?_) (fun h276 => ?_)
  · exact hn _ _ _ g2.2
  · exact absurd g2.1.symm h276
set_option maxHeartbeats 4000000 in
set_option maxRecDepth 100000 in
theorem P_L_cell {G : xG} {x m i mo na len seen E : Nat} {p : Nat → Nat} {R : xR} {L : xL} {I : xI} (hm : m = x + 122) (hX : XS G (TW 134) R x) (hM : XM G (TW 134) R m) (hJ : JD x m E mo na len seen p R L I) (hE : E < 10000) (hle : i + 4 ≤ G.2.2.2.2.2.1) (hls : G.2.2.2.2.2.1 ≤ 2048) {o : xO} (ho : o.1 = TW 134) (hn : ∀ R2 L2 I2, JI G (TW 134) x m (E + 1) R2 L2 I2 → xV G YL (TW 0) o 884 [some (.ref G.2.2.2.2.1), some (.ref x), some (.ref m), some (.int (nI i))] [] (TW 134) R2 L2 I2) : xV G YL (TW 0) o 281 [some (.ref G.2.2.2.2.1), some (.ref x), some (.ref m), some (.int (nI i))] [] (TW 134) R L I := by
  have hx0 := hX.1
  have hm0 := hM.1
  obtain ⟨oT, oP⟩ := o
  subst ho
  refine xV_aload_n e_L_law_281 rfl ?_
  refine xV_aload_n e_L_law_282 rfl ?_
  refine xV_iload_n e_L_law_283 rfl ?_
  refine xV_iconst (v := (nI 1)) e_L_law_284 (by decide) ?_
  refine xV_iaddN e_L_law_285 ?_
  refine xV_ialdN e_L_law_286 (by exact xRow.scr) (by omega) (by omega) ?_
  refine xV_aload_n e_L_law_287 rfl ?_
  refine xV_iload_n e_L_law_288 rfl ?_
  refine xV_iconst (v := (nI 2)) e_L_law_289 (by decide) ?_
  refine xV_iaddN e_L_law_290 ?_
  refine xV_ialdN e_L_law_291 (by exact xRow.scr) (by omega) (by omega) ?_
  refine xV_cV2i e_L_law_292 c_L_38 (by assumption) (C_X2_cell hX hJ.1.2.2.1.1) (Nat.le_of_ble_eq_true rfl) ⟨(Nat.le_of_ble_eq_true rfl), (Nat.le_of_ble_eq_true rfl)⟩ (TW_le (Nat.zero_le _) (Nat.le_refl _)) (xle_r _) ?_
  refine xV_aload_n e_L_law_295 rfl ?_
  refine xV_aload_n e_L_law_296 rfl ?_
  refine xV_iload_n e_L_law_297 rfl ?_
  refine xV_iconst (v := (nI 1)) e_L_law_298 (by decide) ?_
  refine xV_iaddN e_L_law_299 ?_
  refine xV_ialdN e_L_law_300 (by exact xRow.scr) (by omega) (by omega) ?_
  refine xV_aload_n e_L_law_301 rfl ?_
  refine xV_iload_n e_L_law_302 rfl ?_
  refine xV_iconst (v := (nI 2)) e_L_law_303 (by decide) ?_
  refine xV_iaddN e_L_law_304 ?_
  refine xV_ialdN e_L_law_305 (by exact xRow.scr) (by omega) (by omega) ?_
  refine xV_cV2iP e_L_law_306 c_L_42 (by assumption) (J2_cell hm hX hM hJ) (Nat.le_of_ble_eq_true rfl) ⟨(Nat.le_of_ble_eq_true rfl), (Nat.le_of_ble_eq_true rfl)⟩ (TW_le (Nat.zero_le _) (Nat.le_refl _)) (xle_r _) (fun r2 R2 L2 I2 g2 => ?_)
  refine xV_icmp_eq e_L_law_309 (fun h309 => ?_) (fun h309 => ?_)
  · exact hn _ _ _ g2.2
  · exact absurd g2.1.symm h309
set_option maxHeartbeats 4000000 in
set_option maxRecDepth 100000 in
theorem P_L_monk {G : xG} {x m i mo na len seen E : Nat} {p : Nat → Nat} {R : xR} {L : xL} {I : xI} (hm : m = x + 122) (hX : XS G (TW 134) R x) (hM : XM G (TW 134) R m) (hJ : JD x m E mo na len seen p R L I) (hE : E < 10000) (hle : i + 4 ≤ G.2.2.2.2.2.1) (hls : G.2.2.2.2.2.1 ≤ 2048) {o : xO} (ho : o.1 = TW 134) (hn : ∀ R2 L2 I2, JI G (TW 134) x m (E + 1) R2 L2 I2 → xV G YL (TW 0) o 884 [some (.ref G.2.2.2.2.1), some (.ref x), some (.ref m), some (.int (nI i))] [] (TW 134) R2 L2 I2) : xV G YL (TW 0) o 314 [some (.ref G.2.2.2.2.1), some (.ref x), some (.ref m), some (.int (nI i))] [] (TW 134) R L I := by
  have hx0 := hX.1
  have hm0 := hM.1
  obtain ⟨oT, oP⟩ := o
  subst ho
  refine xV_aload_n e_L_law_314 rfl ?_
  refine xV_aload_n e_L_law_315 rfl ?_
  refine xV_iload_n e_L_law_316 rfl ?_
  refine xV_iconst (v := (nI 1)) e_L_law_317 (by decide) ?_
  refine xV_iaddN e_L_law_318 ?_
  refine xV_ialdN e_L_law_319 (by exact xRow.scr) (by omega) (by omega) ?_
  refine xV_aload_n e_L_law_320 rfl ?_
  refine xV_iload_n e_L_law_321 rfl ?_
  refine xV_iconst (v := (nI 2)) e_L_law_322 (by decide) ?_
  refine xV_iaddN e_L_law_323 ?_
  refine xV_ialdN e_L_law_324 (by exact xRow.scr) (by omega) (by omega) ?_
  refine xV_cV2i e_L_law_325 c_L_43 (by assumption) (C_X2_monk hX hJ.1.2.2.1.1) (Nat.le_of_ble_eq_true rfl) ⟨(Nat.le_of_ble_eq_true rfl), (Nat.le_of_ble_eq_true rfl)⟩ (TW_le (Nat.zero_le _) (Nat.le_refl _)) (xle_r _) ?_
  refine xV_aload_n e_L_law_328 rfl ?_
  refine xV_aload_n e_L_law_329 rfl ?_
  refine xV_iload_n e_L_law_330 rfl ?_
  refine xV_iconst (v := (nI 1)) e_L_law_331 (by decide) ?_
  refine xV_iaddN e_L_law_332 ?_
  refine xV_ialdN e_L_law_333 (by exact xRow.scr) (by omega) (by omega) ?_
  refine xV_aload_n e_L_law_334 rfl ?_
  refine xV_iload_n e_L_law_335 rfl ?_
  refine xV_iconst (v := (nI 2)) e_L_law_336 (by decide) ?_
  refine xV_iaddN e_L_law_337 ?_
  refine xV_ialdN e_L_law_338 (by exact xRow.scr) (by omega) (by omega) ?_
  refine xV_cV2iP e_L_law_339 c_L_46 (by assumption) (J2_monk hm hX hM hJ) (Nat.le_of_ble_eq_true rfl) ⟨(Nat.le_of_ble_eq_true rfl), (Nat.le_of_ble_eq_true rfl)⟩ (TW_le (Nat.zero_le _) (Nat.le_refl _)) (xle_r _) (fun r2 R2 L2 I2 g2 => ?_)
  refine xV_icmp_eq e_L_law_342 (fun h342 => ?_) (fun h342 => ?_)
  · exact hn _ _ _ g2.2
  · exact absurd g2.1.symm h342
set_option maxHeartbeats 4000000 in
set_option maxRecDepth 100000 in
theorem P_L_pray {G : xG} {x m i mo na len seen E : Nat} {p : Nat → Nat} {R : xR} {L : xL} {I : xI} (hm : m = x + 122) (hX : XS G (TW 134) R x) (hM : XM G (TW 134) R m) (hJ : JD x m E mo na len seen p R L I) (hE : E < 10000) (hle : i + 4 ≤ G.2.2.2.2.2.1) (hls : G.2.2.2.2.2.1 ≤ 2048) {o : xO} (ho : o.1 = TW 134) (hn : ∀ R2 L2 I2, JI G (TW 134) x m (E + 1) R2 L2 I2 → xV G YL (TW 0) o 884 [some (.ref G.2.2.2.2.1), some (.ref x), some (.ref m), some (.int (nI i))] [] (TW 134) R2 L2 I2) : xV G YL (TW 0) o 347 [some (.ref G.2.2.2.2.1), some (.ref x), some (.ref m), some (.int (nI i))] [] (TW 134) R L I := by
  have hx0 := hX.1
  have hm0 := hM.1
  obtain ⟨oT, oP⟩ := o
  subst ho
  refine xV_aload_n e_L_law_347 rfl ?_
  refine xV_aload_n e_L_law_348 rfl ?_
  refine xV_iload_n e_L_law_349 rfl ?_
  refine xV_iconst (v := (nI 1)) e_L_law_350 (by decide) ?_
  refine xV_iaddN e_L_law_351 ?_
  refine xV_ialdN e_L_law_352 (by exact xRow.scr) (by omega) (by omega) ?_
  refine xV_cV1iP e_L_law_353 c_L_47 (by assumption) (C_X2_pray hX hJ.1.2.2.1.1 hJ.2.2.1.1 hJ.2.2.1.2.2.1 hJ.2.2.1.2.2.2.1) (Nat.le_of_ble_eq_true rfl) ⟨(Nat.le_of_ble_eq_true rfl), (Nat.le_of_ble_eq_true rfl)⟩ (TW_le (Nat.zero_le _) (Nat.le_refl _)) (xle_r _) (fun r1 R1 L1 I1 g1 => ?_)
  obtain ⟨rfl, g1⟩ := g1
  refine xV_aload_n e_L_law_356 rfl ?_
  refine xV_aload_n e_L_law_357 rfl ?_
  refine xV_iload_n e_L_law_358 rfl ?_
  refine xV_iconst (v := (nI 1)) e_L_law_359 (by decide) ?_
  refine xV_iaddN e_L_law_360 ?_
  refine xV_ialdN e_L_law_361 (by exact xRow.scr) (by omega) (by omega) ?_
  refine xV_cV1iP e_L_law_362 c_L_50 (by assumption) (J2_pray hm hX hM hJ g1) (Nat.le_of_ble_eq_true rfl) ⟨(Nat.le_of_ble_eq_true rfl), (Nat.le_of_ble_eq_true rfl)⟩ (TW_le (Nat.zero_le _) (Nat.le_refl _)) (xle_r _) (fun r2 R2 L2 I2 g2 => ?_)
  refine xV_icmp_eq e_L_law_365 (fun h365 => ?_) (fun h365 => ?_)
  · exact hn _ _ _ g2.2
  · exact absurd g2.1.symm h365
set_option maxHeartbeats 4000000 in
set_option maxRecDepth 100000 in
theorem P_L_oath {G : xG} {x m i mo na len seen E : Nat} {p : Nat → Nat} {R : xR} {L : xL} {I : xI} (hm : m = x + 122) (hX : XS G (TW 134) R x) (hM : XM G (TW 134) R m) (hJ : JD x m E mo na len seen p R L I) (hE : E < 10000) (hle : i + 4 ≤ G.2.2.2.2.2.1) (hls : G.2.2.2.2.2.1 ≤ 2048) {o : xO} (ho : o.1 = TW 134) (hn : ∀ R2 L2 I2, JI G (TW 134) x m (E + 1) R2 L2 I2 → xV G YL (TW 0) o 884 [some (.ref G.2.2.2.2.1), some (.ref x), some (.ref m), some (.int (nI i))] [] (TW 134) R2 L2 I2) : xV G YL (TW 0) o 370 [some (.ref G.2.2.2.2.1), some (.ref x), some (.ref m), some (.int (nI i))] [] (TW 134) R L I := by
  have hx0 := hX.1
  have hm0 := hM.1
  obtain ⟨oT, oP⟩ := o
  subst ho
  refine xV_aload_n e_L_law_370 rfl ?_
  refine xV_aload_n e_L_law_371 rfl ?_
  refine xV_iload_n e_L_law_372 rfl ?_
  refine xV_iconst (v := (nI 1)) e_L_law_373 (by decide) ?_
  refine xV_iaddN e_L_law_374 ?_
  refine xV_ialdN e_L_law_375 (by exact xRow.scr) (by omega) (by omega) ?_
  refine xV_cV1iP e_L_law_376 c_L_51 (by assumption) (C_X2_oath hX hJ.1.2.2.1.1 hJ.2.2.1.1 hJ.2.2.1.2.2.1 hJ.2.2.1.2.2.2.1) (Nat.le_of_ble_eq_true rfl) ⟨(Nat.le_of_ble_eq_true rfl), (Nat.le_of_ble_eq_true rfl)⟩ (TW_le (Nat.zero_le _) (Nat.le_refl _)) (xle_r _) (fun r1 R1 L1 I1 g1 => ?_)
  obtain ⟨rfl, g1⟩ := g1
  refine xV_aload_n e_L_law_379 rfl ?_
  refine xV_aload_n e_L_law_380 rfl ?_
  refine xV_iload_n e_L_law_381 rfl ?_
  refine xV_iconst (v := (nI 1)) e_L_law_382 (by decide) ?_
  refine xV_iaddN e_L_law_383 ?_
  refine xV_ialdN e_L_law_384 (by exact xRow.scr) (by omega) (by omega) ?_
  refine xV_cV1iP e_L_law_385 c_L_54 (by assumption) (J2_oath hm hX hM hJ g1) (Nat.le_of_ble_eq_true rfl) ⟨(Nat.le_of_ble_eq_true rfl), (Nat.le_of_ble_eq_true rfl)⟩ (TW_le (Nat.zero_le _) (Nat.le_refl _)) (xle_r _) (fun r2 R2 L2 I2 g2 => ?_)
  refine xV_icmp_eq e_L_law_388 (fun h388 => ?_) (fun h388 => ?_)
  · exact hn _ _ _ g2.2
  · exact absurd g2.1.symm h388
set_option maxHeartbeats 4000000 in
set_option maxRecDepth 100000 in
theorem P_L_doubt {G : xG} {x m i mo na len seen E : Nat} {p : Nat → Nat} {R : xR} {L : xL} {I : xI} (hm : m = x + 122) (hX : XS G (TW 134) R x) (hM : XM G (TW 134) R m) (hJ : JD x m E mo na len seen p R L I) (hE : E < 10000) (hle : i + 4 ≤ G.2.2.2.2.2.1) (hls : G.2.2.2.2.2.1 ≤ 2048) {o : xO} (ho : o.1 = TW 134) (hn : ∀ R2 L2 I2, JI G (TW 134) x m (E + 1) R2 L2 I2 → xV G YL (TW 0) o 884 [some (.ref G.2.2.2.2.1), some (.ref x), some (.ref m), some (.int (nI i))] [] (TW 134) R2 L2 I2) : xV G YL (TW 0) o 393 [some (.ref G.2.2.2.2.1), some (.ref x), some (.ref m), some (.int (nI i))] [] (TW 134) R L I := by
  have hx0 := hX.1
  have hm0 := hM.1
  obtain ⟨oT, oP⟩ := o
  subst ho
  refine xV_aload_n e_L_law_393 rfl ?_
  refine xV_aload_n e_L_law_394 rfl ?_
  refine xV_iload_n e_L_law_395 rfl ?_
  refine xV_iconst (v := (nI 1)) e_L_law_396 (by decide) ?_
  refine xV_iaddN e_L_law_397 ?_
  refine xV_ialdN e_L_law_398 (by exact xRow.scr) (by omega) (by omega) ?_
  refine xV_cV1iP e_L_law_399 c_L_55 (by assumption) (C_X2_doubt hX hJ.1.2.2.1.1 hJ.2.2.1.1 hJ.2.2.1.2.2.1 hJ.2.2.1.2.2.2.1) (Nat.le_of_ble_eq_true rfl) ⟨(Nat.le_of_ble_eq_true rfl), (Nat.le_of_ble_eq_true rfl)⟩ (TW_le (Nat.zero_le _) (Nat.le_refl _)) (xle_r _) (fun r1 R1 L1 I1 g1 => ?_)
  obtain ⟨rfl, g1⟩ := g1
  refine xV_aload_n e_L_law_402 rfl ?_
  refine xV_aload_n e_L_law_403 rfl ?_
  refine xV_iload_n e_L_law_404 rfl ?_
  refine xV_iconst (v := (nI 1)) e_L_law_405 (by decide) ?_
  refine xV_iaddN e_L_law_406 ?_
  refine xV_ialdN e_L_law_407 (by exact xRow.scr) (by omega) (by omega) ?_
  refine xV_cV1iP e_L_law_408 c_L_58 (by assumption) (J2_doubt hm hX hM hJ g1) (Nat.le_of_ble_eq_true rfl) ⟨(Nat.le_of_ble_eq_true rfl), (Nat.le_of_ble_eq_true rfl)⟩ (TW_le (Nat.zero_le _) (Nat.le_refl _)) (xle_r _) (fun r2 R2 L2 I2 g2 => ?_)
  refine xV_icmp_eq e_L_law_411 (fun h411 => ?_) (fun h411 => ?_)
  · exact hn _ _ _ g2.2
  · exact absurd g2.1.symm h411
set_option maxHeartbeats 4000000 in
set_option maxRecDepth 100000 in
theorem P_L_walk {G : xG} {x m i mo na len seen E : Nat} {p : Nat → Nat} {R : xR} {L : xL} {I : xI} (hm : m = x + 122) (hX : XS G (TW 134) R x) (hM : XM G (TW 134) R m) (hJ : JD x m E mo na len seen p R L I) (hE : E < 10000) (hle : i + 4 ≤ G.2.2.2.2.2.1) (hls : G.2.2.2.2.2.1 ≤ 2048) {o : xO} (ho : o.1 = TW 134) (hn : ∀ R2 L2 I2, JI G (TW 134) x m (E + 1) R2 L2 I2 → xV G YL (TW 0) o 884 [some (.ref G.2.2.2.2.1), some (.ref x), some (.ref m), some (.int (nI i))] [] (TW 134) R2 L2 I2) : xV G YL (TW 0) o 416 [some (.ref G.2.2.2.2.1), some (.ref x), some (.ref m), some (.int (nI i))] [] (TW 134) R L I := by
  have hx0 := hX.1
  have hm0 := hM.1
  obtain ⟨oT, oP⟩ := o
  subst ho
  refine xV_aload_n e_L_law_416 rfl ?_
  refine xV_aload_n e_L_law_417 rfl ?_
  refine xV_iload_n e_L_law_418 rfl ?_
  refine xV_iconst (v := (nI 1)) e_L_law_419 (by decide) ?_
  refine xV_iaddN e_L_law_420 ?_
  refine xV_ialdN e_L_law_421 (by exact xRow.scr) (by omega) (by omega) ?_
  refine xV_aload_n e_L_law_422 rfl ?_
  refine xV_iload_n e_L_law_423 rfl ?_
  refine xV_iconst (v := (nI 2)) e_L_law_424 (by decide) ?_
  refine xV_iaddN e_L_law_425 ?_
  refine xV_ialdN e_L_law_426 (by exact xRow.scr) (by omega) (by omega) ?_
  refine xV_cV2iP e_L_law_427 c_L_59 (by assumption) (C_X2_walk hX hJ.1.2.2.1.1 hJ.2.2.1.1 hJ.2.2.1.2.2.1 hJ.2.2.1.2.2.2.1) (Nat.le_of_ble_eq_true rfl) ⟨(Nat.le_of_ble_eq_true rfl), (Nat.le_of_ble_eq_true rfl)⟩ (TW_le (Nat.zero_le _) (Nat.le_refl _)) (xle_r _) (fun r1 R1 L1 I1 g1 => ?_)
  obtain ⟨rfl, g1⟩ := g1
  refine xV_aload_n e_L_law_430 rfl ?_
  refine xV_aload_n e_L_law_431 rfl ?_
  refine xV_iload_n e_L_law_432 rfl ?_
  refine xV_iconst (v := (nI 1)) e_L_law_433 (by decide) ?_
  refine xV_iaddN e_L_law_434 ?_
  refine xV_ialdN e_L_law_435 (by exact xRow.scr) (by omega) (by omega) ?_
  refine xV_aload_n e_L_law_436 rfl ?_
  refine xV_iload_n e_L_law_437 rfl ?_
  refine xV_iconst (v := (nI 2)) e_L_law_438 (by decide) ?_
  refine xV_iaddN e_L_law_439 ?_
  refine xV_ialdN e_L_law_440 (by exact xRow.scr) (by omega) (by omega) ?_
  refine xV_cV2iP e_L_law_441 c_L_62 (by assumption) (J2_walk hm hX hM hJ g1) (Nat.le_of_ble_eq_true rfl) ⟨(Nat.le_of_ble_eq_true rfl), (Nat.le_of_ble_eq_true rfl)⟩ (TW_le (Nat.zero_le _) (Nat.le_refl _)) (xle_r _) (fun r2 R2 L2 I2 g2 => ?_)
  refine xV_icmp_eq e_L_law_444 (fun h444 => ?_) (fun h444 => ?_)
  · exact hn _ _ _ g2.2
  · exact absurd g2.1.symm h444
set_option maxHeartbeats 4000000 in
set_option maxRecDepth 100000 in
theorem P_L_day {G : xG} {x m i mo na len seen E : Nat} {p : Nat → Nat} {R : xR} {L : xL} {I : xI} (hm : m = x + 122) (hX : XS G (TW 134) R x) (hM : XM G (TW 134) R m) (hJ : JD x m E mo na len seen p R L I) (hE : E < 10000) (hle : i + 4 ≤ G.2.2.2.2.2.1) (hls : G.2.2.2.2.2.1 ≤ 2048) {o : xO} (ho : o.1 = TW 134) (hn : ∀ R2 L2 I2, JI G (TW 134) x m (E + 1) R2 L2 I2 → xV G YL (TW 0) o 884 [some (.ref G.2.2.2.2.1), some (.ref x), some (.ref m), some (.int (nI i))] [] (TW 134) R2 L2 I2) : xV G YL (TW 0) o 449 [some (.ref G.2.2.2.2.1), some (.ref x), some (.ref m), some (.int (nI i))] [] (TW 134) R L I := by
  have hx0 := hX.1
  have hm0 := hM.1
  obtain ⟨oT, oP⟩ := o
  subst ho
  refine xV_aload_n e_L_law_449 rfl ?_
  refine xV_cV0iP e_L_law_450 c_L_63 (by assumption) (C_X2_day hX hJ.1.2.2.1.1 hJ.2.2.1.1 hJ.2.2.1.2.2.1 hJ.2.2.1.2.2.2.1) (Nat.le_of_ble_eq_true rfl) ⟨(Nat.le_of_ble_eq_true rfl), (Nat.le_of_ble_eq_true rfl)⟩ (TW_le (Nat.zero_le _) (Nat.le_refl _)) (xle_r _) (fun r1 R1 L1 I1 g1 => ?_)
  obtain ⟨rfl, g1⟩ := g1
  refine xV_aload_n e_L_law_453 rfl ?_
  refine xV_cV0iP e_L_law_454 c_L_66 (by assumption) (J2_day hm hX hM hJ hE g1) (Nat.le_of_ble_eq_true rfl) ⟨(Nat.le_of_ble_eq_true rfl), (Nat.le_of_ble_eq_true rfl)⟩ (TW_le (Nat.zero_le _) (Nat.le_refl _)) (xle_r _) (fun r2 R2 L2 I2 g2 => ?_)
  refine xV_icmp_eq e_L_law_457 (fun h457 => ?_) (fun h457 => ?_)
  · exact hn _ _ _ g2.2
  · exact absurd g2.1.symm h457
set_option maxHeartbeats 4000000 in
set_option maxRecDepth 100000 in
theorem P_L_undo {G : xG} {x m i mo na len seen E : Nat} {p : Nat → Nat} {R : xR} {L : xL} {I : xI} (hm : m = x + 122) (hX : XS G (TW 134) R x) (hM : XM G (TW 134) R m) (hJ : JD x m E mo na len seen p R L I) (hE : E < 10000) (hle : i + 4 ≤ G.2.2.2.2.2.1) (hls : G.2.2.2.2.2.1 ≤ 2048) {o : xO} (ho : o.1 = TW 134) (hn : ∀ R2 L2 I2, JI G (TW 134) x m (E + 1) R2 L2 I2 → xV G YL (TW 0) o 884 [some (.ref G.2.2.2.2.1), some (.ref x), some (.ref m), some (.int (nI i))] [] (TW 134) R2 L2 I2) : xV G YL (TW 0) o 462 [some (.ref G.2.2.2.2.1), some (.ref x), some (.ref m), some (.int (nI i))] [] (TW 134) R L I := by
  have hx0 := hX.1
  have hm0 := hM.1
  obtain ⟨oT, oP⟩ := o
  subst ho
  refine xV_aload_n e_L_law_462 rfl ?_
  refine xV_cV0iP e_L_law_463 c_L_67 (by assumption) (J1_undo hX hJ.2.2.1.1 hJ.2.2.1.2.2.1 hJ.2.2.1.2.2.2.1) (Nat.le_of_ble_eq_true rfl) ⟨(Nat.le_of_ble_eq_true rfl), (Nat.le_of_ble_eq_true rfl)⟩ (TW_le (Nat.zero_le _) (Nat.le_refl _)) (xle_r _) (fun r1 R1 L1 I1 g1 => ?_)
  obtain ⟨rfl, rfl, g1⟩ := g1
  refine xV_aload_n e_L_law_466 rfl ?_
  refine xV_cV0iP e_L_law_467 c_L_70 (by assumption) (J2_undo hm hX hM hJ g1) (Nat.le_of_ble_eq_true rfl) ⟨(Nat.le_of_ble_eq_true rfl), (Nat.le_of_ble_eq_true rfl)⟩ (TW_le (Nat.zero_le _) (Nat.le_refl _)) (xle_r _) (fun r2 R2 L2 I2 g2 => ?_)
  refine xV_icmp_eq e_L_law_470 (fun h470 => ?_) (fun h470 => ?_)
  · exact hn _ _ _ g2.2
  · exact absurd g2.1.symm h470
set_option maxHeartbeats 4000000 in
set_option maxRecDepth 100000 in
theorem P_L_falls {G : xG} {x m i mo na len seen E : Nat} {p : Nat → Nat} {R : xR} {L : xL} {I : xI} (hm : m = x + 122) (hX : XS G (TW 134) R x) (hM : XM G (TW 134) R m) (hJ : JD x m E mo na len seen p R L I) (hE : E < 10000) (hle : i + 4 ≤ G.2.2.2.2.2.1) (hls : G.2.2.2.2.2.1 ≤ 2048) {o : xO} (ho : o.1 = TW 134) (hn : ∀ R2 L2 I2, JI G (TW 134) x m (E + 1) R2 L2 I2 → xV G YL (TW 0) o 884 [some (.ref G.2.2.2.2.1), some (.ref x), some (.ref m), some (.int (nI i))] [] (TW 134) R2 L2 I2) : xV G YL (TW 0) o 475 [some (.ref G.2.2.2.2.1), some (.ref x), some (.ref m), some (.int (nI i))] [] (TW 134) R L I := by
  have hx0 := hX.1
  have hm0 := hM.1
  obtain ⟨oT, oP⟩ := o
  subst ho
  refine xV_aload_n e_L_law_475 rfl ?_
  refine xV_aload_n e_L_law_476 rfl ?_
  refine xV_iload_n e_L_law_477 rfl ?_
  refine xV_iconst (v := (nI 1)) e_L_law_478 (by decide) ?_
  refine xV_iaddN e_L_law_479 ?_
  refine xV_ialdN e_L_law_480 (by exact xRow.scr) (by omega) (by omega) ?_
  refine xV_cV1iP e_L_law_481 c_L_71 (by assumption) (C_X2_falls hX hJ.1.2.2.1.1) (Nat.le_of_ble_eq_true rfl) ⟨(Nat.le_of_ble_eq_true rfl), (Nat.le_of_ble_eq_true rfl)⟩ (TW_le (Nat.zero_le _) (Nat.le_refl _)) (xle_r _) (fun r1 R1 L1 I1 g1 => ?_)
  obtain ⟨rfl, rfl, rfl, hS⟩ := g1
  refine xV_aload_n e_L_law_484 rfl ?_
  refine xV_aload_n e_L_law_485 rfl ?_
  refine xV_iload_n e_L_law_486 rfl ?_
  refine xV_iconst (v := (nI 1)) e_L_law_487 (by decide) ?_
  refine xV_iaddN e_L_law_488 ?_
  refine xV_ialdN e_L_law_489 (by exact xRow.scr) (by omega) (by omega) ?_
  refine xV_cV1iP e_L_law_490 c_L_74 (by assumption) (J2_falls hm hX hM hJ hE hS) (Nat.le_of_ble_eq_true rfl) ⟨(Nat.le_of_ble_eq_true rfl), (Nat.le_of_ble_eq_true rfl)⟩ (TW_le (Nat.zero_le _) (Nat.le_refl _)) (xle_r _) (fun r2 R2 L2 I2 g2 => ?_)
  refine xV_icmp_eq e_L_law_493 (fun h493 => ?_) (fun h493 => ?_)
  · exact hn _ _ _ g2.2
  · exact absurd g2.1.symm h493
set_option maxHeartbeats 4000000 in
set_option maxRecDepth 100000 in
theorem P_L_psalm {G : xG} {x m i mo na len seen E : Nat} {p : Nat → Nat} {R : xR} {L : xL} {I : xI} (hm : m = x + 122) (hX : XS G (TW 134) R x) (hM : XM G (TW 134) R m) (hJ : JD x m E mo na len seen p R L I) (hE : E < 10000) (hle : i + 4 ≤ G.2.2.2.2.2.1) (hls : G.2.2.2.2.2.1 ≤ 2048) {o : xO} (ho : o.1 = TW 134) (hn : ∀ R2 L2 I2, JI G (TW 134) x m (E + 1) R2 L2 I2 → xV G YL (TW 0) o 884 [some (.ref G.2.2.2.2.1), some (.ref x), some (.ref m), some (.int (nI i))] [] (TW 134) R2 L2 I2) : xV G YL (TW 0) o 498 [some (.ref G.2.2.2.2.1), some (.ref x), some (.ref m), some (.int (nI i))] [] (TW 134) R L I := by
  have hx0 := hX.1
  have hm0 := hM.1
  obtain ⟨oT, oP⟩ := o
  subst ho
  refine xV_aload_n e_L_law_498 rfl ?_
  refine xV_aload_n e_L_law_499 rfl ?_
  refine xV_iload_n e_L_law_500 rfl ?_
  refine xV_iconst (v := (nI 1)) e_L_law_501 (by decide) ?_
  refine xV_iaddN e_L_law_502 ?_
  refine xV_ialdN e_L_law_503 (by exact xRow.scr) (by omega) (by omega) ?_
  refine xV_aload_n e_L_law_504 rfl ?_
  refine xV_iload_n e_L_law_505 rfl ?_
  refine xV_iconst (v := (nI 2)) e_L_law_506 (by decide) ?_
  refine xV_iaddN e_L_law_507 ?_
  refine xV_ialdN e_L_law_508 (by exact xRow.scr) (by omega) (by omega) ?_
  refine xV_cV2iP e_L_law_509 c_L_75 (by assumption) (J1_psalm hX hJ.1.2.2.1.1) (Nat.le_of_ble_eq_true rfl) ⟨(Nat.le_of_ble_eq_true rfl), (Nat.le_of_ble_eq_true rfl)⟩ (TW_le (Nat.zero_le _) (Nat.le_refl _)) (xle_r _) (fun r1 R1 L1 I1 g1 => ?_)
  obtain ⟨rfl, rfl, rfl, hS⟩ := g1
  refine xV_aload_n e_L_law_512 rfl ?_
  refine xV_aload_n e_L_law_513 rfl ?_
  refine xV_iload_n e_L_law_514 rfl ?_
  refine xV_iconst (v := (nI 1)) e_L_law_515 (by decide) ?_
  refine xV_iaddN e_L_law_516 ?_
  refine xV_ialdN e_L_law_517 (by exact xRow.scr) (by omega) (by omega) ?_
  refine xV_aload_n e_L_law_518 rfl ?_
  refine xV_iload_n e_L_law_519 rfl ?_
  refine xV_iconst (v := (nI 2)) e_L_law_520 (by decide) ?_
  refine xV_iaddN e_L_law_521 ?_
  refine xV_ialdN e_L_law_522 (by exact xRow.scr) (by omega) (by omega) ?_
  refine xV_cV2iP e_L_law_523 c_L_78 (by assumption) (J2_psalm hm hX hM hJ hE hS) (Nat.le_of_ble_eq_true rfl) ⟨(Nat.le_of_ble_eq_true rfl), (Nat.le_of_ble_eq_true rfl)⟩ (TW_le (Nat.zero_le _) (Nat.le_refl _)) (xle_r _) (fun r2 R2 L2 I2 g2 => ?_)
  refine xV_icmp_eq e_L_law_526 (fun h526 => ?_) (fun h526 => ?_)
  · exact hn _ _ _ g2.2
  · exact absurd g2.1.symm h526
set_option maxHeartbeats 4000000 in
set_option maxRecDepth 100000 in
theorem P_L_best {G : xG} {x m i mo na len seen E : Nat} {p : Nat → Nat} {R : xR} {L : xL} {I : xI} (hm : m = x + 122) (hX : XS G (TW 134) R x) (hM : XM G (TW 134) R m) (hJ : JD x m E mo na len seen p R L I) (hE : E < 10000) (hle : i + 4 ≤ G.2.2.2.2.2.1) (hls : G.2.2.2.2.2.1 ≤ 2048) {o : xO} (ho : o.1 = TW 134) (hn : ∀ R2 L2 I2, JI G (TW 134) x m (E + 1) R2 L2 I2 → xV G YL (TW 0) o 884 [some (.ref G.2.2.2.2.1), some (.ref x), some (.ref m), some (.int (nI i))] [] (TW 134) R2 L2 I2) : xV G YL (TW 0) o 531 [some (.ref G.2.2.2.2.1), some (.ref x), some (.ref m), some (.int (nI i))] [] (TW 134) R L I := by
  have hx0 := hX.1
  have hm0 := hM.1
  obtain ⟨oT, oP⟩ := o
  subst ho
  refine xV_aload_n e_L_law_531 rfl ?_
  refine xV_aload_n e_L_law_532 rfl ?_
  refine xV_iload_n e_L_law_533 rfl ?_
  refine xV_iconst (v := (nI 1)) e_L_law_534 (by decide) ?_
  refine xV_iaddN e_L_law_535 ?_
  refine xV_ialdN e_L_law_536 (by exact xRow.scr) (by omega) (by omega) ?_
  refine xV_cV1iP e_L_law_537 c_L_79 (by assumption) (J1_best hX hJ.1.2.2.1.1) (Nat.le_of_ble_eq_true rfl) ⟨(Nat.le_of_ble_eq_true rfl), (Nat.le_of_ble_eq_true rfl)⟩ (TW_le (Nat.zero_le _) (Nat.le_refl _)) (xle_r _) (fun r1 R1 L1 I1 g1 => ?_)
  obtain ⟨rfl, rfl, rfl, hS⟩ := g1
  refine xV_aload_n e_L_law_540 rfl ?_
  refine xV_aload_n e_L_law_541 rfl ?_
  refine xV_iload_n e_L_law_542 rfl ?_
  refine xV_iconst (v := (nI 1)) e_L_law_543 (by decide) ?_
  refine xV_iaddN e_L_law_544 ?_
  refine xV_ialdN e_L_law_545 (by exact xRow.scr) (by omega) (by omega) ?_
  refine xV_cV1iP e_L_law_546 c_L_82 (by assumption) (J2_best hm hX hM hJ hE hS) (Nat.le_of_ble_eq_true rfl) ⟨(Nat.le_of_ble_eq_true rfl), (Nat.le_of_ble_eq_true rfl)⟩ (TW_le (Nat.zero_le _) (Nat.le_refl _)) (xle_r _) (fun r2 R2 L2 I2 g2 => ?_)
  refine xV_icmp_eq e_L_law_549 (fun h549 => ?_) (fun h549 => ?_)
  · exact hn _ _ _ g2.2
  · exact absurd g2.1.symm h549
set_option maxHeartbeats 4000000 in
set_option maxRecDepth 100000 in
theorem P_L_bestAt {G : xG} {x m i mo na len seen E : Nat} {p : Nat → Nat} {R : xR} {L : xL} {I : xI} (hm : m = x + 122) (hX : XS G (TW 134) R x) (hM : XM G (TW 134) R m) (hJ : JD x m E mo na len seen p R L I) (hE : E < 10000) (hle : i + 4 ≤ G.2.2.2.2.2.1) (hls : G.2.2.2.2.2.1 ≤ 2048) {o : xO} (ho : o.1 = TW 134) (hn : ∀ R2 L2 I2, JI G (TW 134) x m (E + 1) R2 L2 I2 → xV G YL (TW 0) o 884 [some (.ref G.2.2.2.2.1), some (.ref x), some (.ref m), some (.int (nI i))] [] (TW 134) R2 L2 I2) : xV G YL (TW 0) o 554 [some (.ref G.2.2.2.2.1), some (.ref x), some (.ref m), some (.int (nI i))] [] (TW 134) R L I := by
  have hx0 := hX.1
  have hm0 := hM.1
  obtain ⟨oT, oP⟩ := o
  subst ho
  refine xV_aload_n e_L_law_554 rfl ?_
  refine xV_aload_n e_L_law_555 rfl ?_
  refine xV_iload_n e_L_law_556 rfl ?_
  refine xV_iconst (v := (nI 1)) e_L_law_557 (by decide) ?_
  refine xV_iaddN e_L_law_558 ?_
  refine xV_ialdN e_L_law_559 (by exact xRow.scr) (by omega) (by omega) ?_
  refine xV_aload_n e_L_law_560 rfl ?_
  refine xV_iload_n e_L_law_561 rfl ?_
  refine xV_iconst (v := (nI 2)) e_L_law_562 (by decide) ?_
  refine xV_iaddN e_L_law_563 ?_
  refine xV_ialdN e_L_law_564 (by exact xRow.scr) (by omega) (by omega) ?_
  refine xV_cV2iP e_L_law_565 c_L_83 (by assumption) (J1_bestAt hX hJ.1.2.2.1.1) (Nat.le_of_ble_eq_true rfl) ⟨(Nat.le_of_ble_eq_true rfl), (Nat.le_of_ble_eq_true rfl)⟩ (TW_le (Nat.zero_le _) (Nat.le_refl _)) (xle_r _) (fun r1 R1 L1 I1 g1 => ?_)
  obtain ⟨rfl, rfl, rfl, hS⟩ := g1
  refine xV_aload_n e_L_law_568 rfl ?_
  refine xV_aload_n e_L_law_569 rfl ?_
  refine xV_iload_n e_L_law_570 rfl ?_
  refine xV_iconst (v := (nI 1)) e_L_law_571 (by decide) ?_
  refine xV_iaddN e_L_law_572 ?_
  refine xV_ialdN e_L_law_573 (by exact xRow.scr) (by omega) (by omega) ?_
  refine xV_aload_n e_L_law_574 rfl ?_
  refine xV_iload_n e_L_law_575 rfl ?_
  refine xV_iconst (v := (nI 2)) e_L_law_576 (by decide) ?_
  refine xV_iaddN e_L_law_577 ?_
  refine xV_ialdN e_L_law_578 (by exact xRow.scr) (by omega) (by omega) ?_
  refine xV_cV2iP e_L_law_579 c_L_86 (by assumption) (J2_bestAt hm hX hM hJ hE hS) (Nat.le_of_ble_eq_true rfl) ⟨(Nat.le_of_ble_eq_true rfl), (Nat.le_of_ble_eq_true rfl)⟩ (TW_le (Nat.zero_le _) (Nat.le_refl _)) (xle_r _) (fun r2 R2 L2 I2 g2 => ?_)
  refine xV_icmp_eq e_L_law_582 (fun h582 => ?_) (fun h582 => ?_)
  · exact hn _ _ _ g2.2
  · exact absurd g2.1.symm h582
set_option maxHeartbeats 4000000 in
set_option maxRecDepth 100000 in
theorem P_L_oaths {G : xG} {x m i mo na len seen E : Nat} {p : Nat → Nat} {R : xR} {L : xL} {I : xI} (hm : m = x + 122) (hX : XS G (TW 134) R x) (hM : XM G (TW 134) R m) (hJ : JD x m E mo na len seen p R L I) (hE : E < 10000) (hle : i + 4 ≤ G.2.2.2.2.2.1) (hls : G.2.2.2.2.2.1 ≤ 2048) {o : xO} (ho : o.1 = TW 134) (hn : ∀ R2 L2 I2, JI G (TW 134) x m (E + 1) R2 L2 I2 → xV G YL (TW 0) o 884 [some (.ref G.2.2.2.2.1), some (.ref x), some (.ref m), some (.int (nI i))] [] (TW 134) R2 L2 I2) : xV G YL (TW 0) o 587 [some (.ref G.2.2.2.2.1), some (.ref x), some (.ref m), some (.int (nI i))] [] (TW 134) R L I := by
  have hx0 := hX.1
  have hm0 := hM.1
  obtain ⟨oT, oP⟩ := o
  subst ho
  refine xV_aload_n e_L_law_587 rfl ?_
  refine xV_cV0iP e_L_law_588 c_L_87 (by assumption) (C_X2_oaths hX hJ.1.2.2.1.1) (Nat.le_of_ble_eq_true rfl) ⟨(Nat.le_of_ble_eq_true rfl), (Nat.le_of_ble_eq_true rfl)⟩ (TW_le (Nat.zero_le _) (Nat.le_refl _)) (xle_r _) (fun r1 R1 L1 I1 g1 => ?_)
  obtain ⟨rfl, rfl, rfl, hS⟩ := g1
  refine xV_aload_n e_L_law_591 rfl ?_
  refine xV_cV0iP e_L_law_592 c_L_90 (by assumption) (J2_oaths hm hX hM hJ hE hS) (Nat.le_of_ble_eq_true rfl) ⟨(Nat.le_of_ble_eq_true rfl), (Nat.le_of_ble_eq_true rfl)⟩ (TW_le (Nat.zero_le _) (Nat.le_refl _)) (xle_r _) (fun r2 R2 L2 I2 g2 => ?_)
  refine xV_icmp_eq e_L_law_595 (fun h595 => ?_) (fun h595 => ?_)
  · exact hn _ _ _ g2.2
  · exact absurd g2.1.symm h595
set_option maxHeartbeats 4000000 in
set_option maxRecDepth 100000 in
theorem P_L_down {G : xG} {x m i mo na len seen E : Nat} {p : Nat → Nat} {R : xR} {L : xL} {I : xI} (hm : m = x + 122) (hX : XS G (TW 134) R x) (hM : XM G (TW 134) R m) (hJ : JD x m E mo na len seen p R L I) (hE : E < 10000) (hle : i + 4 ≤ G.2.2.2.2.2.1) (hls : G.2.2.2.2.2.1 ≤ 2048) {o : xO} (ho : o.1 = TW 134) (hn : ∀ R2 L2 I2, JI G (TW 134) x m (E + 1) R2 L2 I2 → xV G YL (TW 0) o 884 [some (.ref G.2.2.2.2.1), some (.ref x), some (.ref m), some (.int (nI i))] [] (TW 134) R2 L2 I2) : xV G YL (TW 0) o 600 [some (.ref G.2.2.2.2.1), some (.ref x), some (.ref m), some (.int (nI i))] [] (TW 134) R L I := by
  have hx0 := hX.1
  have hm0 := hM.1
  obtain ⟨oT, oP⟩ := o
  subst ho
  refine xV_aload_n e_L_law_600 rfl ?_
  refine xV_aload_n e_L_law_601 rfl ?_
  refine xV_iload_n e_L_law_602 rfl ?_
  refine xV_iconst (v := (nI 1)) e_L_law_603 (by decide) ?_
  refine xV_iaddN e_L_law_604 ?_
  refine xV_ialdN e_L_law_605 (by exact xRow.scr) (by omega) (by omega) ?_
  refine xV_cV1iP e_L_law_606 c_L_91 (by assumption) (C_X2_downOk hX hJ.1.2.2.1.1) (Nat.le_of_ble_eq_true rfl) ⟨(Nat.le_of_ble_eq_true rfl), (Nat.le_of_ble_eq_true rfl)⟩ (TW_le (Nat.zero_le _) (Nat.le_refl _)) (xle_r _) (fun r1 R1 L1 I1 g1 => ?_)
  obtain ⟨rfl, rfl, rfl, hS⟩ := g1
  refine xV_aload_n e_L_law_609 rfl ?_
  refine xV_aload_n e_L_law_610 rfl ?_
  refine xV_iload_n e_L_law_611 rfl ?_
  refine xV_iconst (v := (nI 1)) e_L_law_612 (by decide) ?_
  refine xV_iaddN e_L_law_613 ?_
  refine xV_ialdN e_L_law_614 (by exact xRow.scr) (by omega) (by omega) ?_
  refine xV_cV1iP e_L_law_615 c_L_94 (by assumption) (J2_down hm hX hM hJ hE hS) (Nat.le_of_ble_eq_true rfl) ⟨(Nat.le_of_ble_eq_true rfl), (Nat.le_of_ble_eq_true rfl)⟩ (TW_le (Nat.zero_le _) (Nat.le_refl _)) (xle_r _) (fun r2 R2 L2 I2 g2 => ?_)
  refine xV_icmp_eq e_L_law_618 (fun h618 => ?_) (fun h618 => ?_)
  · exact hn _ _ _ g2.2
  · exact absurd g2.1.symm h618
set_option maxHeartbeats 4000000 in
set_option maxRecDepth 100000 in
theorem P_L_see {G : xG} {x m i mo na len seen E : Nat} {p : Nat → Nat} {R : xR} {L : xL} {I : xI} (hm : m = x + 122) (hX : XS G (TW 134) R x) (hM : XM G (TW 134) R m) (hJ : JD x m E mo na len seen p R L I) (hE : E < 10000) (hle : i + 4 ≤ G.2.2.2.2.2.1) (hls : G.2.2.2.2.2.1 ≤ 2048) {o : xO} (ho : o.1 = TW 134) (hn : ∀ R2 L2 I2, JI G (TW 134) x m (E + 1) R2 L2 I2 → xV G YL (TW 0) o 884 [some (.ref G.2.2.2.2.1), some (.ref x), some (.ref m), some (.int (nI i))] [] (TW 134) R2 L2 I2) : xV G YL (TW 0) o 623 [some (.ref G.2.2.2.2.1), some (.ref x), some (.ref m), some (.int (nI i))] [] (TW 134) R L I := by
  have hx0 := hX.1
  have hm0 := hM.1
  obtain ⟨oT, oP⟩ := o
  subst ho
  refine xV_aload_n e_L_law_623 rfl ?_
  refine xV_aload_n e_L_law_624 rfl ?_
  refine xV_iload_n e_L_law_625 rfl ?_
  refine xV_iconst (v := (nI 1)) e_L_law_626 (by decide) ?_
  refine xV_iaddN e_L_law_627 ?_
  refine xV_ialdN e_L_law_628 (by exact xRow.scr) (by omega) (by omega) ?_
  refine xV_aload_n e_L_law_629 rfl ?_
  refine xV_iload_n e_L_law_630 rfl ?_
  refine xV_iconst (v := (nI 2)) e_L_law_631 (by decide) ?_
  refine xV_iaddN e_L_law_632 ?_
  refine xV_ialdN e_L_law_633 (by exact xRow.scr) (by omega) (by omega) ?_
  refine xV_cV2i e_L_law_634 c_L_95 (by assumption) (C_X2_see hX hJ.2.2.2.2.1.1 hJ.2.2.2.2.1.2.2.1) (Nat.le_of_ble_eq_true rfl) ⟨(Nat.le_of_ble_eq_true rfl), (Nat.le_of_ble_eq_true rfl)⟩ (TW_le (Nat.zero_le _) (Nat.le_refl _)) (xle_r _) ?_
  refine xV_aload_n e_L_law_637 rfl ?_
  refine xV_aload_n e_L_law_638 rfl ?_
  refine xV_iload_n e_L_law_639 rfl ?_
  refine xV_iconst (v := (nI 1)) e_L_law_640 (by decide) ?_
  refine xV_iaddN e_L_law_641 ?_
  refine xV_ialdN e_L_law_642 (by exact xRow.scr) (by omega) (by omega) ?_
  refine xV_aload_n e_L_law_643 rfl ?_
  refine xV_iload_n e_L_law_644 rfl ?_
  refine xV_iconst (v := (nI 2)) e_L_law_645 (by decide) ?_
  refine xV_iaddN e_L_law_646 ?_
  refine xV_ialdN e_L_law_647 (by exact xRow.scr) (by omega) (by omega) ?_
  refine xV_cV2iP e_L_law_648 c_L_98 (by assumption) (J2_see hm hX hM hJ) (Nat.le_of_ble_eq_true rfl) ⟨(Nat.le_of_ble_eq_true rfl), (Nat.le_of_ble_eq_true rfl)⟩ (TW_le (Nat.zero_le _) (Nat.le_refl _)) (xle_r _) (fun r2 R2 L2 I2 g2 => ?_)
  refine xV_icmp_eq e_L_law_651 (fun h651 => ?_) (fun h651 => ?_)
  · exact hn _ _ _ g2.2
  · exact absurd g2.1.symm h651
set_option maxHeartbeats 4000000 in
set_option maxRecDepth 100000 in
theorem P_L_unsee {G : xG} {x m i mo na len seen E : Nat} {p : Nat → Nat} {R : xR} {L : xL} {I : xI} (hm : m = x + 122) (hX : XS G (TW 134) R x) (hM : XM G (TW 134) R m) (hJ : JD x m E mo na len seen p R L I) (hE : E < 10000) (hle : i + 4 ≤ G.2.2.2.2.2.1) (hls : G.2.2.2.2.2.1 ≤ 2048) {o : xO} (ho : o.1 = TW 134) (hn : ∀ R2 L2 I2, JI G (TW 134) x m (E + 1) R2 L2 I2 → xV G YL (TW 0) o 884 [some (.ref G.2.2.2.2.1), some (.ref x), some (.ref m), some (.int (nI i))] [] (TW 134) R2 L2 I2) : xV G YL (TW 0) o 656 [some (.ref G.2.2.2.2.1), some (.ref x), some (.ref m), some (.int (nI i))] [] (TW 134) R L I := by
  have hx0 := hX.1
  have hm0 := hM.1
  obtain ⟨oT, oP⟩ := o
  subst ho
  refine xV_aload_n e_L_law_656 rfl ?_
  refine xV_cV0i e_L_law_657 c_L_99 (by assumption) (C_X2_unsee hX) (Nat.le_of_ble_eq_true rfl) ⟨(Nat.le_of_ble_eq_true rfl), (Nat.le_of_ble_eq_true rfl)⟩ (TW_le (Nat.zero_le _) (Nat.le_refl _)) (xle_r _) ?_
  refine xV_aload_n e_L_law_660 rfl ?_
  refine xV_cV0iP e_L_law_661 c_L_102 (by assumption) (J2_unsee hm hX hM hJ) (Nat.le_of_ble_eq_true rfl) ⟨(Nat.le_of_ble_eq_true rfl), (Nat.le_of_ble_eq_true rfl)⟩ (TW_le (Nat.zero_le _) (Nat.le_refl _)) (xle_r _) (fun r2 R2 L2 I2 g2 => ?_)
  refine xV_icmp_eq e_L_law_664 (fun h664 => ?_) (fun h664 => ?_)
  · exact hn _ _ _ g2.2
  · exact absurd g2.1.symm h664
set_option maxHeartbeats 4000000 in
set_option maxRecDepth 100000 in
theorem P_L_silent {G : xG} {x m i mo na len seen E : Nat} {p : Nat → Nat} {R : xR} {L : xL} {I : xI} (hm : m = x + 122) (hX : XS G (TW 134) R x) (hM : XM G (TW 134) R m) (hJ : JD x m E mo na len seen p R L I) (hE : E < 10000) (hle : i + 4 ≤ G.2.2.2.2.2.1) (hls : G.2.2.2.2.2.1 ≤ 2048) {o : xO} (ho : o.1 = TW 134) (hn : ∀ R2 L2 I2, JI G (TW 134) x m (E + 1) R2 L2 I2 → xV G YL (TW 0) o 884 [some (.ref G.2.2.2.2.1), some (.ref x), some (.ref m), some (.int (nI i))] [] (TW 134) R2 L2 I2) : xV G YL (TW 0) o 669 [some (.ref G.2.2.2.2.1), some (.ref x), some (.ref m), some (.int (nI i))] [] (TW 134) R L I := by
  have hx0 := hX.1
  have hm0 := hM.1
  obtain ⟨oT, oP⟩ := o
  subst ho
  refine xV_aload_n e_L_law_669 rfl ?_
  refine xV_aload_n e_L_law_670 rfl ?_
  refine xV_iload_n e_L_law_671 rfl ?_
  refine xV_iconst (v := (nI 1)) e_L_law_672 (by decide) ?_
  refine xV_iaddN e_L_law_673 ?_
  refine xV_ialdN e_L_law_674 (by exact xRow.scr) (by omega) (by omega) ?_
  refine xV_cV1iP e_L_law_675 c_L_103 (by assumption) (C_X2_silent hX hJ.1.2.2.1.1 hJ.2.2.2.2.1.1 hJ.2.2.2.2.1.2.2.1) (Nat.le_of_ble_eq_true rfl) ⟨(Nat.le_of_ble_eq_true rfl), (Nat.le_of_ble_eq_true rfl)⟩ (TW_le (Nat.zero_le _) (Nat.le_refl _)) (xle_r _) (fun r1 R1 L1 I1 g1 => ?_)
  obtain ⟨rfl, rfl, rfl, hS⟩ := g1
  refine xV_aload_n e_L_law_678 rfl ?_
  refine xV_aload_n e_L_law_679 rfl ?_
  refine xV_iload_n e_L_law_680 rfl ?_
  refine xV_iconst (v := (nI 1)) e_L_law_681 (by decide) ?_
  refine xV_iaddN e_L_law_682 ?_
  refine xV_ialdN e_L_law_683 (by exact xRow.scr) (by omega) (by omega) ?_
  refine xV_cV1iP e_L_law_684 c_L_106 (by assumption) (J2_silent hm hX hM hJ hS) (Nat.le_of_ble_eq_true rfl) ⟨(Nat.le_of_ble_eq_true rfl), (Nat.le_of_ble_eq_true rfl)⟩ (TW_le (Nat.zero_le _) (Nat.le_refl _)) (xle_r _) (fun r2 R2 L2 I2 g2 => ?_)
  refine xV_icmp_eq e_L_law_687 (fun h687 => ?_) (fun h687 => ?_)
  · exact hn _ _ _ g2.2
  · exact absurd g2.1.symm h687
set_option maxHeartbeats 4000000 in
set_option maxRecDepth 100000 in
theorem P_L_chance {G : xG} {x m i mo na len seen E : Nat} {p : Nat → Nat} {R : xR} {L : xL} {I : xI} (hm : m = x + 122) (hX : XS G (TW 134) R x) (hM : XM G (TW 134) R m) (hJ : JD x m E mo na len seen p R L I) (hE : E < 10000) (hle : i + 4 ≤ G.2.2.2.2.2.1) (hls : G.2.2.2.2.2.1 ≤ 2048) {o : xO} (ho : o.1 = TW 134) (hn : ∀ R2 L2 I2, JI G (TW 134) x m (E + 1) R2 L2 I2 → xV G YL (TW 0) o 884 [some (.ref G.2.2.2.2.1), some (.ref x), some (.ref m), some (.int (nI i))] [] (TW 134) R2 L2 I2) : xV G YL (TW 0) o 692 [some (.ref G.2.2.2.2.1), some (.ref x), some (.ref m), some (.int (nI i))] [] (TW 134) R L I := by
  have hx0 := hX.1
  have hm0 := hM.1
  obtain ⟨oT, oP⟩ := o
  subst ho
  refine xV_aload_n e_L_law_692 rfl ?_
  refine xV_aload_n e_L_law_693 rfl ?_
  refine xV_iload_n e_L_law_694 rfl ?_
  refine xV_iconst (v := (nI 1)) e_L_law_695 (by decide) ?_
  refine xV_iaddN e_L_law_696 ?_
  refine xV_ialdN e_L_law_697 (by exact xRow.scr) (by omega) (by omega) ?_
  refine xV_aload_n e_L_law_698 rfl ?_
  refine xV_iload_n e_L_law_699 rfl ?_
  refine xV_iconst (v := (nI 2)) e_L_law_700 (by decide) ?_
  refine xV_iaddN e_L_law_701 ?_
  refine xV_ialdN e_L_law_702 (by exact xRow.scr) (by omega) (by omega) ?_
  refine xV_aload_n e_L_law_703 rfl ?_
  refine xV_iload_n e_L_law_704 rfl ?_
  refine xV_iconst (v := (nI 3)) e_L_law_705 (by decide) ?_
  refine xV_iaddN e_L_law_706 ?_
  refine xV_ialdN e_L_law_707 (by exact xRow.scr) (by omega) (by omega) ?_
  refine xV_if_eq e_L_law_708 (fun h708 => ?_) (fun h708 => ?_)
  · refine xV_iconst (v := (nI 0)) e_L_law_715 (by decide) ?_
    refine xV_cV3iP e_L_law_716 c_L_107 (by assumption) (C_X2_chance hX hJ.1.2.2.1.1) (Nat.le_of_ble_eq_true rfl) ⟨(Nat.le_of_ble_eq_true rfl), (Nat.le_of_ble_eq_true rfl)⟩ (TW_le (Nat.zero_le _) (Nat.le_refl _)) (xle_r _) (fun r1 R1 L1 I1 g1 => ?_)
    obtain ⟨rfl, rfl, rfl, hS⟩ := g1
    refine xV_aload_n e_L_law_719 rfl ?_
    refine xV_aload_n e_L_law_720 rfl ?_
    refine xV_iload_n e_L_law_721 rfl ?_
    refine xV_iconst (v := (nI 1)) e_L_law_722 (by decide) ?_
    refine xV_iaddN e_L_law_723 ?_
    refine xV_ialdN e_L_law_724 (by exact xRow.scr) (by omega) (by omega) ?_
    refine xV_aload_n e_L_law_725 rfl ?_
    refine xV_iload_n e_L_law_726 rfl ?_
    refine xV_iconst (v := (nI 2)) e_L_law_727 (by decide) ?_
    refine xV_iaddN e_L_law_728 ?_
    refine xV_ialdN e_L_law_729 (by exact xRow.scr) (by omega) (by omega) ?_
    refine xV_aload_n e_L_law_730 rfl ?_
    refine xV_iload_n e_L_law_731 rfl ?_
    refine xV_iconst (v := (nI 3)) e_L_law_732 (by decide) ?_
    refine xV_iaddN e_L_law_733 ?_
    refine xV_ialdN e_L_law_734 (by exact xRow.scr) (by omega) (by omega) ?_
    refine xV_if_eq e_L_law_735 (fun h735 => ?_) (fun h735 => ?_)
    · refine xV_iconst (v := (nI 0)) e_L_law_742 (by decide) ?_
      refine xV_cV3iP e_L_law_743 c_L_111 (by assumption) (J2_chance hm hX hM hJ hE hS) (Nat.le_of_ble_eq_true rfl) ⟨(Nat.le_of_ble_eq_true rfl), (Nat.le_of_ble_eq_true rfl)⟩ (TW_le (Nat.zero_le _) (Nat.le_refl _)) (xle_r _) (fun r2 R2 L2 I2 g2 => ?_)
      refine xV_icmp_eq e_L_law_746 (fun h746 => ?_) (fun h746 => ?_)
      · exact hn _ _ _ g2.2
      · exact absurd g2.1.symm h746
    · exact absurd h708 h735
  · refine xV_iconst (v := (nI 1)) e_L_law_711 (by decide) ?_
    refine xV_goto e_L_law_712 ?_
    refine xV_cV3iP e_L_law_716 c_L_107 (by assumption) (C_X2_chance hX hJ.1.2.2.1.1) (Nat.le_of_ble_eq_true rfl) ⟨(Nat.le_of_ble_eq_true rfl), (Nat.le_of_ble_eq_true rfl)⟩ (TW_le (Nat.zero_le _) (Nat.le_refl _)) (xle_r _) (fun r1 R1 L1 I1 g1 => ?_)
    obtain ⟨rfl, rfl, rfl, hS⟩ := g1
    refine xV_aload_n e_L_law_719 rfl ?_
    refine xV_aload_n e_L_law_720 rfl ?_
    refine xV_iload_n e_L_law_721 rfl ?_
    refine xV_iconst (v := (nI 1)) e_L_law_722 (by decide) ?_
    refine xV_iaddN e_L_law_723 ?_
    refine xV_ialdN e_L_law_724 (by exact xRow.scr) (by omega) (by omega) ?_
    refine xV_aload_n e_L_law_725 rfl ?_
    refine xV_iload_n e_L_law_726 rfl ?_
    refine xV_iconst (v := (nI 2)) e_L_law_727 (by decide) ?_
    refine xV_iaddN e_L_law_728 ?_
    refine xV_ialdN e_L_law_729 (by exact xRow.scr) (by omega) (by omega) ?_
    refine xV_aload_n e_L_law_730 rfl ?_
    refine xV_iload_n e_L_law_731 rfl ?_
    refine xV_iconst (v := (nI 3)) e_L_law_732 (by decide) ?_
    refine xV_iaddN e_L_law_733 ?_
    refine xV_ialdN e_L_law_734 (by exact xRow.scr) (by omega) (by omega) ?_
    refine xV_if_eq e_L_law_735 (fun h735 => ?_) (fun h735 => ?_)
    · exact absurd h735 h708
    · refine xV_iconst (v := (nI 1)) e_L_law_738 (by decide) ?_
      refine xV_goto e_L_law_739 ?_
      refine xV_cV3iP e_L_law_743 c_L_111 (by assumption) (J2_chance hm hX hM hJ hE hS) (Nat.le_of_ble_eq_true rfl) ⟨(Nat.le_of_ble_eq_true rfl), (Nat.le_of_ble_eq_true rfl)⟩ (TW_le (Nat.zero_le _) (Nat.le_refl _)) (xle_r _) (fun r2 R2 L2 I2 g2 => ?_)
      refine xV_icmp_eq e_L_law_746 (fun h746 => ?_) (fun h746 => ?_)
      · exact hn _ _ _ g2.2
      · exact absurd g2.1.symm h746
set_option maxHeartbeats 4000000 in
set_option maxRecDepth 100000 in
theorem P_L_seed {G : xG} {x m i mo na len seen E : Nat} {p : Nat → Nat} {R : xR} {L : xL} {I : xI} (hm : m = x + 122) (hX : XS G (TW 134) R x) (hM : XM G (TW 134) R m) (hJ : JD x m E mo na len seen p R L I) (hE : E < 10000) (hle : i + 4 ≤ G.2.2.2.2.2.1) (hls : G.2.2.2.2.2.1 ≤ 2048) {o : xO} (ho : o.1 = TW 134) (hn : ∀ R2 L2 I2, JI G (TW 134) x m (E + 1) R2 L2 I2 → xV G YL (TW 0) o 884 [some (.ref G.2.2.2.2.1), some (.ref x), some (.ref m), some (.int (nI i))] [] (TW 134) R2 L2 I2) : xV G YL (TW 0) o 751 [some (.ref G.2.2.2.2.1), some (.ref x), some (.ref m), some (.int (nI i))] [] (TW 134) R L I := by
  have hx0 := hX.1
  have hm0 := hM.1
  obtain ⟨oT, oP⟩ := o
  subst ho
  refine xV_aload_n e_L_law_751 rfl ?_
  refine xV_aload_n e_L_law_752 rfl ?_
  refine xV_iload_n e_L_law_753 rfl ?_
  refine xV_iconst (v := (nI 1)) e_L_law_754 (by decide) ?_
  refine xV_iaddN e_L_law_755 ?_
  refine xV_ialdN e_L_law_756 (by exact xRow.scr) (by omega) (by omega) ?_
  refine xV_i2l e_L_law_757 ?_
  refine xV_bipush (v := (nI 32)) e_L_law_758 (by decide) ?_
  refine xV_lshl e_L_law_760 ?_
  refine xV_aload_n e_L_law_761 rfl ?_
  refine xV_iload_n e_L_law_762 rfl ?_
  refine xV_iconst (v := (nI 2)) e_L_law_763 (by decide) ?_
  refine xV_iaddN e_L_law_764 ?_
  refine xV_ialdN e_L_law_765 (by exact xRow.scr) (by omega) (by omega) ?_
  refine xV_i2l e_L_law_766 ?_
  refine xV_ldc2 e_L_law_767 k_L_13 ?_
  refine xV_land e_L_law_770 ?_
  refine xV_lor e_L_law_771 ?_
  refine xV_cV1l e_L_law_772 c_L_112 (by assumption) (C_X2_seed hX) (Nat.le_of_ble_eq_true rfl) ⟨(Nat.le_of_ble_eq_true rfl), (Nat.le_of_ble_eq_true rfl)⟩ (TW_le (Nat.zero_le _) (Nat.le_refl _)) (xle_r _) ?_
  refine xV_aload_n e_L_law_775 rfl ?_
  refine xV_aload_n e_L_law_776 rfl ?_
  refine xV_iload_n e_L_law_777 rfl ?_
  refine xV_iconst (v := (nI 1)) e_L_law_778 (by decide) ?_
  refine xV_iaddN e_L_law_779 ?_
  refine xV_ialdN e_L_law_780 (by exact xRow.scr) (by omega) (by omega) ?_
  refine xV_i2l e_L_law_781 ?_
  refine xV_bipush (v := (nI 32)) e_L_law_782 (by decide) ?_
  refine xV_lshl e_L_law_784 ?_
  refine xV_aload_n e_L_law_785 rfl ?_
  refine xV_iload_n e_L_law_786 rfl ?_
  refine xV_iconst (v := (nI 2)) e_L_law_787 (by decide) ?_
  refine xV_iaddN e_L_law_788 ?_
  refine xV_ialdN e_L_law_789 (by exact xRow.scr) (by omega) (by omega) ?_
  refine xV_i2l e_L_law_790 ?_
  refine xV_ldc2 e_L_law_791 k_L_13 ?_
  refine xV_land e_L_law_794 ?_
  refine xV_lor e_L_law_795 ?_
  refine xV_cV1lP e_L_law_796 c_L_116 (by assumption) (J2_seed hm hX hM hJ) (Nat.le_of_ble_eq_true rfl) ⟨(Nat.le_of_ble_eq_true rfl), (Nat.le_of_ble_eq_true rfl)⟩ (TW_le (Nat.zero_le _) (Nat.le_refl _)) (xle_r _) (fun r2 R2 L2 I2 g2 => ?_)
  refine xV_lcmp e_L_law_799 ?_
  refine xV_if_eq e_L_law_800 (fun h800 => ?_) (fun h800 => ?_)
  · exact hn _ _ _ g2.2
  · exact absurd ((lg_cmp_eq _ _).mpr g2.1.symm) h800
set_option maxHeartbeats 4000000 in
set_option maxRecDepth 100000 in
theorem P_L_month {G : xG} {x m i mo na len seen E : Nat} {p : Nat → Nat} {R : xR} {L : xL} {I : xI} (hm : m = x + 122) (hX : XS G (TW 134) R x) (hM : XM G (TW 134) R m) (hJ : JD x m E mo na len seen p R L I) (hE : E < 10000) (hle : i + 4 ≤ G.2.2.2.2.2.1) (hls : G.2.2.2.2.2.1 ≤ 2048) {o : xO} (ho : o.1 = TW 134) (hn : ∀ R2 L2 I2, JI G (TW 134) x m (E + 1) R2 L2 I2 → xV G YL (TW 0) o 884 [some (.ref G.2.2.2.2.1), some (.ref x), some (.ref m), some (.int (nI i))] [] (TW 134) R2 L2 I2) : xV G YL (TW 0) o 805 [some (.ref G.2.2.2.2.1), some (.ref x), some (.ref m), some (.int (nI i))] [] (TW 134) R L I := by
  have hx0 := hX.1
  have hm0 := hM.1
  obtain ⟨oT, oP⟩ := o
  subst ho
  refine xV_aload_n e_L_law_805 rfl ?_
  refine xV_aload_n e_L_law_806 rfl ?_
  refine xV_iload_n e_L_law_807 rfl ?_
  refine xV_iconst (v := (nI 1)) e_L_law_808 (by decide) ?_
  refine xV_iaddN e_L_law_809 ?_
  refine xV_ialdN e_L_law_810 (by exact xRow.scr) (by omega) (by omega) ?_
  refine xV_aload_n e_L_law_811 rfl ?_
  refine xV_iload_n e_L_law_812 rfl ?_
  refine xV_iconst (v := (nI 2)) e_L_law_813 (by decide) ?_
  refine xV_iaddN e_L_law_814 ?_
  refine xV_ialdN e_L_law_815 (by exact xRow.scr) (by omega) (by omega) ?_
  refine xV_cV2iP e_L_law_816 c_L_117 (by assumption) (J1_month hX hJ.1.2.2.1.1) (Nat.le_of_ble_eq_true rfl) ⟨(Nat.le_of_ble_eq_true rfl), (Nat.le_of_ble_eq_true rfl)⟩ (TW_le (Nat.zero_le _) (Nat.le_refl _)) (xle_r _) (fun r1 R1 L1 I1 g1 => ?_)
  obtain ⟨rfl, rfl, hL, hS⟩ := g1
  refine xV_aload_n e_L_law_819 rfl ?_
  refine xV_aload_n e_L_law_820 rfl ?_
  refine xV_iload_n e_L_law_821 rfl ?_
  refine xV_iconst (v := (nI 1)) e_L_law_822 (by decide) ?_
  refine xV_iaddN e_L_law_823 ?_
  refine xV_ialdN e_L_law_824 (by exact xRow.scr) (by omega) (by omega) ?_
  refine xV_aload_n e_L_law_825 rfl ?_
  refine xV_iload_n e_L_law_826 rfl ?_
  refine xV_iconst (v := (nI 2)) e_L_law_827 (by decide) ?_
  refine xV_iaddN e_L_law_828 ?_
  refine xV_ialdN e_L_law_829 (by exact xRow.scr) (by omega) (by omega) ?_
  refine xV_cV2iP e_L_law_830 c_L_120 (by assumption) (J2_month hm hX hM hJ hE hS hL) (Nat.le_of_ble_eq_true rfl) ⟨(Nat.le_of_ble_eq_true rfl), (Nat.le_of_ble_eq_true rfl)⟩ (TW_le (Nat.zero_le _) (Nat.le_refl _)) (xle_r _) (fun r2 R2 L2 I2 g2 => ?_)
  refine xV_icmp_eq e_L_law_833 (fun h833 => ?_) (fun h833 => ?_)
  · exact hn _ _ _ g2.2
  · exact absurd g2.1.symm h833
set_option maxHeartbeats 4000000 in
set_option maxRecDepth 100000 in
theorem P_L_keep {G : xG} {x m i mo na len seen E : Nat} {p : Nat → Nat} {R : xR} {L : xL} {I : xI} (hm : m = x + 122) (hX : XS G (TW 134) R x) (hM : XM G (TW 134) R m) (hJ : JD x m E mo na len seen p R L I) (hE : E < 10000) (hle : i + 4 ≤ G.2.2.2.2.2.1) (hls : G.2.2.2.2.2.1 ≤ 2048) {o : xO} (ho : o.1 = TW 134) (hn : ∀ R2 L2 I2, JI G (TW 134) x m (E + 1) R2 L2 I2 → xV G YL (TW 0) o 884 [some (.ref G.2.2.2.2.1), some (.ref x), some (.ref m), some (.int (nI i))] [] (TW 134) R2 L2 I2) : xV G YL (TW 0) o 838 [some (.ref G.2.2.2.2.1), some (.ref x), some (.ref m), some (.int (nI i))] [] (TW 134) R L I := by
  have hx0 := hX.1
  have hm0 := hM.1
  obtain ⟨oT, oP⟩ := o
  subst ho
  refine xV_aload_n e_L_law_838 rfl ?_
  refine xV_aload_n e_L_law_839 rfl ?_
  refine xV_iload_n e_L_law_840 rfl ?_
  refine xV_iconst (v := (nI 1)) e_L_law_841 (by decide) ?_
  refine xV_iaddN e_L_law_842 ?_
  refine xV_ialdN e_L_law_843 (by exact xRow.scr) (by omega) (by omega) ?_
  refine xV_cV1iP e_L_law_844 c_L_121 (by assumption) (J1_keep hX) (Nat.le_of_ble_eq_true rfl) ⟨(Nat.le_of_ble_eq_true rfl), (Nat.le_of_ble_eq_true rfl)⟩ (TW_le (Nat.zero_le _) (Nat.le_refl _)) (xle_r _) (fun r1 R1 L1 I1 g1 => ?_)
  obtain ⟨rfl, rfl, g1⟩ := g1
  refine xV_aload_n e_L_law_847 rfl ?_
  refine xV_aload_n e_L_law_848 rfl ?_
  refine xV_iload_n e_L_law_849 rfl ?_
  refine xV_iconst (v := (nI 1)) e_L_law_850 (by decide) ?_
  refine xV_iaddN e_L_law_851 ?_
  refine xV_ialdN e_L_law_852 (by exact xRow.scr) (by omega) (by omega) ?_
  refine xV_cV1iP e_L_law_853 c_L_124 (by assumption) (J2_keep hm hX hM hJ g1) (Nat.le_of_ble_eq_true rfl) ⟨(Nat.le_of_ble_eq_true rfl), (Nat.le_of_ble_eq_true rfl)⟩ (TW_le (Nat.zero_le _) (Nat.le_refl _)) (xle_r _) (fun r2 R2 L2 I2 g2 => ?_)
  refine xV_icmp_eq e_L_law_856 (fun h856 => ?_) (fun h856 => ?_)
  · exact hn _ _ _ g2.2
  · exact absurd g2.1.symm h856
set_option maxHeartbeats 4000000 in
set_option maxRecDepth 100000 in
theorem P_L_again {G : xG} {x m i mo na len seen E : Nat} {p : Nat → Nat} {R : xR} {L : xL} {I : xI} (hm : m = x + 122) (hX : XS G (TW 134) R x) (hM : XM G (TW 134) R m) (hJ : JD x m E mo na len seen p R L I) (hE : E < 10000) (hle : i + 4 ≤ G.2.2.2.2.2.1) (hls : G.2.2.2.2.2.1 ≤ 2048) {o : xO} (ho : o.1 = TW 134) (hn : ∀ R2 L2 I2, JI G (TW 134) x m (E + 1) R2 L2 I2 → xV G YL (TW 0) o 884 [some (.ref G.2.2.2.2.1), some (.ref x), some (.ref m), some (.int (nI i))] [] (TW 134) R2 L2 I2) : xV G YL (TW 0) o 861 [some (.ref G.2.2.2.2.1), some (.ref x), some (.ref m), some (.int (nI i))] [] (TW 134) R L I := by
  have hx0 := hX.1
  have hm0 := hM.1
  obtain ⟨oT, oP⟩ := o
  subst ho
  refine xV_aload_n e_L_law_861 rfl ?_
  refine xV_aload_n e_L_law_862 rfl ?_
  refine xV_iload_n e_L_law_863 rfl ?_
  refine xV_iconst (v := (nI 1)) e_L_law_864 (by decide) ?_
  refine xV_iaddN e_L_law_865 ?_
  refine xV_ialdN e_L_law_866 (by exact xRow.scr) (by omega) (by omega) ?_
  refine xV_cV1iP e_L_law_867 c_L_125 (by assumption) (J1_again hX) (Nat.le_of_ble_eq_true rfl) ⟨(Nat.le_of_ble_eq_true rfl), (Nat.le_of_ble_eq_true rfl)⟩ (TW_le (Nat.zero_le _) (Nat.le_refl _)) (xle_r _) (fun r1 R1 L1 I1 g1 => ?_)
  obtain ⟨rfl, rfl, g1⟩ := g1
  refine xV_aload_n e_L_law_870 rfl ?_
  refine xV_aload_n e_L_law_871 rfl ?_
  refine xV_iload_n e_L_law_872 rfl ?_
  refine xV_iconst (v := (nI 1)) e_L_law_873 (by decide) ?_
  refine xV_iaddN e_L_law_874 ?_
  refine xV_ialdN e_L_law_875 (by exact xRow.scr) (by omega) (by omega) ?_
  refine xV_cV1iP e_L_law_876 c_L_128 (by assumption) (J2_again hm hX hM hJ g1) (Nat.le_of_ble_eq_true rfl) ⟨(Nat.le_of_ble_eq_true rfl), (Nat.le_of_ble_eq_true rfl)⟩ (TW_le (Nat.zero_le _) (Nat.le_refl _)) (xle_r _) (fun r2 R2 L2 I2 g2 => ?_)
  refine xV_icmp_eq e_L_law_879 (fun h879 => ?_) (fun h879 => ?_)
  · exact hn _ _ _ g2.2
  · exact absurd g2.1.symm h879
theorem P_L_go {G : xG} {x m i E k : Nat} {R : xR} {L : xL} {I : xI} {o : xO} (hi : i + 4 < 2 ^ 31) (hn : xV G YL (TW 0) o 18 [some (.ref G.2.2.2.2.1), some (.ref x), some (.ref m), some (.int (nI (i + 4)))] [] (TW 134) R L I) : xV G YL (TW 0) o 884 [some (.ref G.2.2.2.2.1), some (.ref x), some (.ref m), some (.int (nI i))] [] (TW 134) R L I := by
  refine xV_iinc (v := nI (i + 4)) e_L_law_884 rfl (by rw [show Int32.ofInt 4 = nI 4 from by decide, nI_add]) rfl ?_
  refine xV_goto e_L_law_887 ?_
  exact hn
set_option maxHeartbeats 4000000 in
set_option maxRecDepth 100000 in
theorem P_L_18s {G : xG} {x m i mo na len seen E : Nat} {p : Nat → Nat} {R : xR} {L : xL} {I : xI} (hm : m = x + 122) (hX : XS G (TW 134) R x) (hM : XM G (TW 134) R m) (hJ : JD x m E mo na len seen p R L I) (hE : E < 10000) (hls : G.2.2.2.2.2.1 ≤ 2048) (hi : i ≤ 2048)
    (ih0 : i + 4 ≤ G.2.2.2.2.2.1 → ∀ R2 L2 I2, JI G (TW 134) x m (E + 1) R2 L2 I2 → xV G YL (TW 0) (TW 134, fun v _ _ _ => v = some (.int (nI 1))) 18 [some (.ref G.2.2.2.2.1), some (.ref x), some (.ref m), some (.int (nI (i + 4)))] [] (TW 134) R2 L2 I2) : xV G YL (TW 0) (TW 134, fun v _ _ _ => v = some (.int (nI 1))) 18 [some (.ref G.2.2.2.2.1), some (.ref x), some (.ref m), some (.int (nI i))] [] (TW 134) R L I := by
  refine xV_iload_n e_L_law_18 rfl ?_
  refine xV_aload_n e_L_law_19 rfl ?_
  refine xV_alenN e_L_law_20 (by exact xRow.scr) ?_
  refine xV_iconst (v := (nI 4)) e_L_law_21 (by decide) ?_
  refine xV_isub e_L_law_22 ?_
  refine xV_icmp_gt e_L_law_23 (fun h23 => ?_) (fun h23 => ?_)
  · refine xV_iconst (v := (nI 1)) e_L_law_890 (by decide) ?_
    exact xV_zreturn e_L_law_891 rfl rfl rfl rfl
  · have hle : i + 4 ≤ G.2.2.2.2.2.1 := by
      refine Nat.le_of_not_lt (fun z => h23 ?_)
      rw [Int32.lt_iff_toInt_lt, pk_sub_toInt (by omega) (by decide), nI_toInt (by omega)]
      omega
    have ih := ih0 hle
    refine xV_aload_n e_L_law_26 rfl ?_
    refine xV_iload_n e_L_law_27 rfl ?_
    refine xV_ialdN e_L_law_28 (by exact xRow.scr) (by omega) (by omega) ?_
    refine xV_bipush (v := (nI 31)) e_L_law_29 (by decide) ?_
    refine xV_iand e_L_law_31 ?_
    by_cases s32_0 : (G.2.2.2.2.2.2 i &&& nI 31) = nI 0
    · refine xV_tswIn (off := 124) (tgt := 156) e_L_law_32 (by rw [s32_0]; decide) (by rw [s32_0]; decide) (by rw [s32_0]; rfl) (by decide) ?_
      exact P_L_write hm hX hM hJ hE hle hls (by rfl) (fun R2 L2 I2 z => P_L_go (E := 0) (k := 0) (by omega) (ih _ _ _ z))
    by_cases s32_1 : (G.2.2.2.2.2.2 i &&& nI 31) = nI 1
    · refine xV_tswIn (off := 187) (tgt := 219) e_L_law_32 (by rw [s32_1]; decide) (by rw [s32_1]; decide) (by rw [s32_1]; rfl) (by decide) ?_
      exact P_L_wipe hm hX hM hJ hE hle hls (by rfl) (fun R2 L2 I2 z => P_L_go (E := 0) (k := 0) (by omega) (ih _ _ _ z))
    by_cases s32_2 : (G.2.2.2.2.2.2 i &&& nI 31) = nI 2
    · refine xV_tswIn (off := 200) (tgt := 232) e_L_law_32 (by rw [s32_2]; decide) (by rw [s32_2]; decide) (by rw [s32_2]; rfl) (by decide) ?_
      exact P_L_fault hm hX hM hJ hE hle hls (by rfl) (fun R2 L2 I2 z => P_L_go (E := 0) (k := 0) (by omega) (ih _ _ _ z))
    by_cases s32_3 : (G.2.2.2.2.2.2 i &&& nI 31) = nI 3
    · refine xV_tswIn (off := 213) (tgt := 245) e_L_law_32 (by rw [s32_3]; decide) (by rw [s32_3]; decide) (by rw [s32_3]; rfl) (by decide) ?_
      exact P_L_mine hm hX hM hJ hE hle hls (by rfl) (fun R2 L2 I2 z => P_L_go (E := 0) (k := 0) (by omega) (ih _ _ _ z))
    by_cases s32_4 : (G.2.2.2.2.2.2 i &&& nI 31) = nI 4
    · refine xV_tswIn (off := 226) (tgt := 258) e_L_law_32 (by rw [s32_4]; decide) (by rw [s32_4]; decide) (by rw [s32_4]; rfl) (by decide) ?_
      exact P_L_about hm hX hM hJ hE hle hls (by rfl) (fun R2 L2 I2 z => P_L_go (E := 0) (k := 0) (by omega) (ih _ _ _ z))
    by_cases s32_5 : (G.2.2.2.2.2.2 i &&& nI 31) = nI 5
    · refine xV_tswIn (off := 249) (tgt := 281) e_L_law_32 (by rw [s32_5]; decide) (by rw [s32_5]; decide) (by rw [s32_5]; rfl) (by decide) ?_
      exact P_L_cell hm hX hM hJ hE hle hls (by rfl) (fun R2 L2 I2 z => P_L_go (E := 0) (k := 0) (by omega) (ih _ _ _ z))
    by_cases s32_6 : (G.2.2.2.2.2.2 i &&& nI 31) = nI 6
    · refine xV_tswIn (off := 282) (tgt := 314) e_L_law_32 (by rw [s32_6]; decide) (by rw [s32_6]; decide) (by rw [s32_6]; rfl) (by decide) ?_
      exact P_L_monk hm hX hM hJ hE hle hls (by rfl) (fun R2 L2 I2 z => P_L_go (E := 0) (k := 0) (by omega) (ih _ _ _ z))
    by_cases s32_7 : (G.2.2.2.2.2.2 i &&& nI 31) = nI 7
    · refine xV_tswIn (off := 315) (tgt := 347) e_L_law_32 (by rw [s32_7]; decide) (by rw [s32_7]; decide) (by rw [s32_7]; rfl) (by decide) ?_
      exact P_L_pray hm hX hM hJ hE hle hls (by rfl) (fun R2 L2 I2 z => P_L_go (E := 0) (k := 0) (by omega) (ih _ _ _ z))
    by_cases s32_8 : (G.2.2.2.2.2.2 i &&& nI 31) = nI 8
    · refine xV_tswIn (off := 338) (tgt := 370) e_L_law_32 (by rw [s32_8]; decide) (by rw [s32_8]; decide) (by rw [s32_8]; rfl) (by decide) ?_
      exact P_L_oath hm hX hM hJ hE hle hls (by rfl) (fun R2 L2 I2 z => P_L_go (E := 0) (k := 0) (by omega) (ih _ _ _ z))
    by_cases s32_9 : (G.2.2.2.2.2.2 i &&& nI 31) = nI 9
    · refine xV_tswIn (off := 361) (tgt := 393) e_L_law_32 (by rw [s32_9]; decide) (by rw [s32_9]; decide) (by rw [s32_9]; rfl) (by decide) ?_
      exact P_L_doubt hm hX hM hJ hE hle hls (by rfl) (fun R2 L2 I2 z => P_L_go (E := 0) (k := 0) (by omega) (ih _ _ _ z))
    by_cases s32_10 : (G.2.2.2.2.2.2 i &&& nI 31) = nI 10
    · refine xV_tswIn (off := 384) (tgt := 416) e_L_law_32 (by rw [s32_10]; decide) (by rw [s32_10]; decide) (by rw [s32_10]; rfl) (by decide) ?_
      exact P_L_walk hm hX hM hJ hE hle hls (by rfl) (fun R2 L2 I2 z => P_L_go (E := 0) (k := 0) (by omega) (ih _ _ _ z))
    by_cases s32_11 : (G.2.2.2.2.2.2 i &&& nI 31) = nI 11
    · refine xV_tswIn (off := 417) (tgt := 449) e_L_law_32 (by rw [s32_11]; decide) (by rw [s32_11]; decide) (by rw [s32_11]; rfl) (by decide) ?_
      exact P_L_day hm hX hM hJ hE hle hls (by rfl) (fun R2 L2 I2 z => P_L_go (E := 0) (k := 0) (by omega) (ih _ _ _ z))
    by_cases s32_12 : (G.2.2.2.2.2.2 i &&& nI 31) = nI 12
    · refine xV_tswIn (off := 430) (tgt := 462) e_L_law_32 (by rw [s32_12]; decide) (by rw [s32_12]; decide) (by rw [s32_12]; rfl) (by decide) ?_
      exact P_L_undo hm hX hM hJ hE hle hls (by rfl) (fun R2 L2 I2 z => P_L_go (E := 0) (k := 0) (by omega) (ih _ _ _ z))
    by_cases s32_13 : (G.2.2.2.2.2.2 i &&& nI 31) = nI 13
    · refine xV_tswIn (off := 443) (tgt := 475) e_L_law_32 (by rw [s32_13]; decide) (by rw [s32_13]; decide) (by rw [s32_13]; rfl) (by decide) ?_
      exact P_L_falls hm hX hM hJ hE hle hls (by rfl) (fun R2 L2 I2 z => P_L_go (E := 0) (k := 0) (by omega) (ih _ _ _ z))
    by_cases s32_14 : (G.2.2.2.2.2.2 i &&& nI 31) = nI 14
    · refine xV_tswIn (off := 466) (tgt := 498) e_L_law_32 (by rw [s32_14]; decide) (by rw [s32_14]; decide) (by rw [s32_14]; rfl) (by decide) ?_
      exact P_L_psalm hm hX hM hJ hE hle hls (by rfl) (fun R2 L2 I2 z => P_L_go (E := 0) (k := 0) (by omega) (ih _ _ _ z))
    by_cases s32_15 : (G.2.2.2.2.2.2 i &&& nI 31) = nI 15
    · refine xV_tswIn (off := 499) (tgt := 531) e_L_law_32 (by rw [s32_15]; decide) (by rw [s32_15]; decide) (by rw [s32_15]; rfl) (by decide) ?_
      exact P_L_best hm hX hM hJ hE hle hls (by rfl) (fun R2 L2 I2 z => P_L_go (E := 0) (k := 0) (by omega) (ih _ _ _ z))
    by_cases s32_16 : (G.2.2.2.2.2.2 i &&& nI 31) = nI 16
    · refine xV_tswIn (off := 522) (tgt := 554) e_L_law_32 (by rw [s32_16]; decide) (by rw [s32_16]; decide) (by rw [s32_16]; rfl) (by decide) ?_
      exact P_L_bestAt hm hX hM hJ hE hle hls (by rfl) (fun R2 L2 I2 z => P_L_go (E := 0) (k := 0) (by omega) (ih _ _ _ z))
    by_cases s32_17 : (G.2.2.2.2.2.2 i &&& nI 31) = nI 17
    · refine xV_tswIn (off := 555) (tgt := 587) e_L_law_32 (by rw [s32_17]; decide) (by rw [s32_17]; decide) (by rw [s32_17]; rfl) (by decide) ?_
      exact P_L_oaths hm hX hM hJ hE hle hls (by rfl) (fun R2 L2 I2 z => P_L_go (E := 0) (k := 0) (by omega) (ih _ _ _ z))
    by_cases s32_18 : (G.2.2.2.2.2.2 i &&& nI 31) = nI 18
    · refine xV_tswIn (off := 568) (tgt := 600) e_L_law_32 (by rw [s32_18]; decide) (by rw [s32_18]; decide) (by rw [s32_18]; rfl) (by decide) ?_
      exact P_L_down hm hX hM hJ hE hle hls (by rfl) (fun R2 L2 I2 z => P_L_go (E := 0) (k := 0) (by omega) (ih _ _ _ z))
    by_cases s32_19 : (G.2.2.2.2.2.2 i &&& nI 31) = nI 19
    · refine xV_tswIn (off := 591) (tgt := 623) e_L_law_32 (by rw [s32_19]; decide) (by rw [s32_19]; decide) (by rw [s32_19]; rfl) (by decide) ?_
      exact P_L_see hm hX hM hJ hE hle hls (by rfl) (fun R2 L2 I2 z => P_L_go (E := 0) (k := 0) (by omega) (ih _ _ _ z))
    by_cases s32_20 : (G.2.2.2.2.2.2 i &&& nI 31) = nI 20
    · refine xV_tswIn (off := 624) (tgt := 656) e_L_law_32 (by rw [s32_20]; decide) (by rw [s32_20]; decide) (by rw [s32_20]; rfl) (by decide) ?_
      exact P_L_unsee hm hX hM hJ hE hle hls (by rfl) (fun R2 L2 I2 z => P_L_go (E := 0) (k := 0) (by omega) (ih _ _ _ z))
    by_cases s32_21 : (G.2.2.2.2.2.2 i &&& nI 31) = nI 21
    · refine xV_tswIn (off := 637) (tgt := 669) e_L_law_32 (by rw [s32_21]; decide) (by rw [s32_21]; decide) (by rw [s32_21]; rfl) (by decide) ?_
      exact P_L_silent hm hX hM hJ hE hle hls (by rfl) (fun R2 L2 I2 z => P_L_go (E := 0) (k := 0) (by omega) (ih _ _ _ z))
    by_cases s32_22 : (G.2.2.2.2.2.2 i &&& nI 31) = nI 22
    · refine xV_tswIn (off := 660) (tgt := 692) e_L_law_32 (by rw [s32_22]; decide) (by rw [s32_22]; decide) (by rw [s32_22]; rfl) (by decide) ?_
      exact P_L_chance hm hX hM hJ hE hle hls (by rfl) (fun R2 L2 I2 z => P_L_go (E := 0) (k := 0) (by omega) (ih _ _ _ z))
    by_cases s32_23 : (G.2.2.2.2.2.2 i &&& nI 31) = nI 23
    · refine xV_tswIn (off := 719) (tgt := 751) e_L_law_32 (by rw [s32_23]; decide) (by rw [s32_23]; decide) (by rw [s32_23]; rfl) (by decide) ?_
      exact P_L_seed hm hX hM hJ hE hle hls (by rfl) (fun R2 L2 I2 z => P_L_go (E := 0) (k := 0) (by omega) (ih _ _ _ z))
    by_cases s32_24 : (G.2.2.2.2.2.2 i &&& nI 31) = nI 24
    · refine xV_tswIn (off := 773) (tgt := 805) e_L_law_32 (by rw [s32_24]; decide) (by rw [s32_24]; decide) (by rw [s32_24]; rfl) (by decide) ?_
      exact P_L_month hm hX hM hJ hE hle hls (by rfl) (fun R2 L2 I2 z => P_L_go (E := 0) (k := 0) (by omega) (ih _ _ _ z))
    by_cases s32_25 : (G.2.2.2.2.2.2 i &&& nI 31) = nI 25
    · refine xV_tswIn (off := 806) (tgt := 838) e_L_law_32 (by rw [s32_25]; decide) (by rw [s32_25]; decide) (by rw [s32_25]; rfl) (by decide) ?_
      exact P_L_keep hm hX hM hJ hE hle hls (by rfl) (fun R2 L2 I2 z => P_L_go (E := 0) (k := 0) (by omega) (ih _ _ _ z))
    by_cases s32_26 : (G.2.2.2.2.2.2 i &&& nI 31) = nI 26
    · refine xV_tswIn (off := 829) (tgt := 861) e_L_law_32 (by rw [s32_26]; decide) (by rw [s32_26]; decide) (by rw [s32_26]; rfl) (by decide) ?_
      exact P_L_again hm hX hM hJ hE hle hls (by rfl) (fun R2 L2 I2 z => P_L_go (E := 0) (k := 0) (by omega) (ih _ _ _ z))
    refine xV_tswOut (tgt := 884) e_L_law_32 (tsw_out (n := 26) (by decide) (fun k hk => by
      have e : k = 0 ∨ k = 1 ∨ k = 2 ∨ k = 3 ∨ k = 4 ∨ k = 5 ∨ k = 6 ∨ k = 7 ∨ k = 8 ∨ k = 9 ∨ k = 10 ∨ k = 11 ∨ k = 12 ∨ k = 13 ∨ k = 14 ∨ k = 15 ∨ k = 16 ∨ k = 17 ∨ k = 18 ∨ k = 19 ∨ k = 20 ∨ k = 21 ∨ k = 22 ∨ k = 23 ∨ k = 24 ∨ k = 25 ∨ k = 26 := by omega
      rcases e with rfl | rfl | rfl | rfl | rfl | rfl | rfl | rfl | rfl | rfl | rfl | rfl | rfl | rfl | rfl | rfl | rfl | rfl | rfl | rfl | rfl | rfl | rfl | rfl | rfl | rfl | rfl <;> assumption)) (by decide) ?_
    exact P_L_go (E := 0) (k := 0) (by omega) (ih _ _ _ (hJ.ji hm hX hM))
theorem P_L_18 {G : xG} {x m : Nat} (hls : G.2.2.2.2.2.1 ≤ 2048) : ∀ n i E (R : xR) (L : xL) (I : xI), G.2.2.2.2.2.1 + 4 ≤ i + n → E ≤ i → i ≤ G.2.2.2.2.2.1 → JI G (TW 134) x m E R L I → xV G YL (TW 0) (TW 134, fun v _ _ _ => v = some (.int (nI 1))) 18 [some (.ref G.2.2.2.2.1), some (.ref x), some (.ref m), some (.int (nI i))] [] (TW 134) R L I := by
  intro n
  induction n with
  | zero =>
    intro i E R L I h1 h2 h3 hJ
    omega
  | succ n ih =>
    intro i E R L I h1 h2 h3 hJ
    obtain ⟨hm, hX, hM, mo, na, len, seen, p, hJ⟩ := hJ
    exact P_L_18s hm hX hM hJ (by omega) hls (by omega) (fun hle R2 L2 I2 z => ih (i + 4) (E + 1) R2 L2 I2 (by omega) (by omega) hle z)
end XLW
