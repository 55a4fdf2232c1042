/-! THE LAW: its loop over the script -/
def mL (nm : String) : jj_M := (⟨RL, nm, "([I)Z"⟩, cL_law, 4, some .boolean)
theorem jl_scr {G : jj_G} {M : jj_M} {d pc : Nat} {lo : List (Option Value)} {st : List Value} {h : List jj_C} {kc ks : Nat} {r : Option Value} {h' : List jj_C} {i : Nat} (hl : (jj_scr G).length ≤ 320) (hi : i < (jj_scr G).length) (hd : decode (jj_b M) pc = .ok (.iaload, 1)) (K : jj_Go G M d (pc + 1) lo (.int ((jj_scr G).getD i 0) :: st) h kc ks r h') : jj_Go G M d pc lo (.int (nI i) :: .ref 1000001 :: st) h kc ks r h' :=
  jj_scrld hd (jb_in hi (by omega)) (by rw [nI_clamp (by omega)]) K
set_option maxRecDepth 100000 in
set_option maxHeartbeats 1000000 in
theorem lc_write {G : jj_G} {nm : String} {s : jj_S} {i : Nat} (hl : (jj_scr G).length ≤ 320) (hi : i + 5 ≤ (jj_scr G).length) (h : Inv s) (KK : ∀ s2, Inv s2 → ∃ h', jj_Go G (mL nm) 60 18 [some (.ref 1000001), some (.ref 0), some (.ref 28), some (.int (nI (i + 5)))] [] (jj_m s2) 0 0 (some (.int 1)) (h')) : ∃ h', jj_Go G (mL nm) 60 156 [some (.ref 1000001), some (.ref 0), some (.ref 28), some (.int (nI i))] [] (jj_m s) 0 0 (some (.int 1)) (h') := by
  obtain ⟨v, s1, s2, ⟨x, rfl⟩, E6, E7, hI⟩ := st_write (G := G) h ((((jj_scr G).getD (i + 1) 0).toInt64 <<< ((32 : Int32).toInt64 &&& 63)) ||| (((jj_scr G).getD (i + 2) 0).toInt64 &&& 4294967295)) ((jj_scr G).getD (i + 3) 0)
  obtain ⟨h', K⟩ := KK s2 hI
  refine ⟨h', ?_⟩
  refine jj_aload_n dL_law_156 rfl ?_
  refine jj_aload_n dL_law_157 rfl ?_
  refine jj_iload_n dL_law_158 rfl ?_
  refine jj_iconst (v := nI 1) dL_law_159 (by decide) ?_
  refine jj_iadd (v := nI (i + 1)) dL_law_160 (nI_add i 1) ?_
  refine jl_scr hl (by omega) dL_law_161 ?_
  refine jj_i2l dL_law_162 rfl ?_
  refine jj_bipush (v := 32) dL_law_163 (by decide) ?_
  refine jj_lshl dL_law_165 rfl ?_
  refine jj_aload_n dL_law_166 rfl ?_
  refine jj_iload_n dL_law_167 rfl ?_
  refine jj_iconst (v := nI 2) dL_law_168 (by decide) ?_
  refine jj_iadd (v := nI (i + 2)) dL_law_169 (nI_add i 2) ?_
  refine jl_scr hl (by omega) dL_law_170 ?_
  refine jj_i2l dL_law_171 rfl ?_
  refine jj_ldc2 dL_law_172 kcL_13 ?_
  refine jj_land dL_law_175 rfl ?_
  refine jj_lor dL_law_176 rfl ?_
  refine jj_aload_n dL_law_177 rfl ?_
  refine jj_iload_n dL_law_178 rfl ?_
  refine jj_iconst (v := nI 3) dL_law_179 (by decide) ?_
  refine jj_iadd (v := nI (i + 3)) dL_law_180 (nI_add i 3) ?_
  refine jl_scr hl (by omega) dL_law_181 ?_
  refine jj_callV (M2 := m6_write) dL_law_182 mlL_15 tm6_write (E6) rfl rfl rfl rfl rfl (by decide) (Nat.le_of_ble_eq_true rfl) ?_
  refine jj_aload_n dL_law_185 rfl ?_
  refine jj_aload_n dL_law_186 rfl ?_
  refine jj_iload_n dL_law_187 rfl ?_
  refine jj_iconst (v := nI 1) dL_law_188 (by decide) ?_
  refine jj_iadd (v := nI (i + 1)) dL_law_189 (nI_add i 1) ?_
  refine jl_scr hl (by omega) dL_law_190 ?_
  refine jj_i2l dL_law_191 rfl ?_
  refine jj_bipush (v := 32) dL_law_192 (by decide) ?_
  refine jj_lshl dL_law_194 rfl ?_
  refine jj_aload_n dL_law_195 rfl ?_
  refine jj_iload_n dL_law_196 rfl ?_
  refine jj_iconst (v := nI 2) dL_law_197 (by decide) ?_
  refine jj_iadd (v := nI (i + 2)) dL_law_198 (nI_add i 2) ?_
  refine jl_scr hl (by omega) dL_law_199 ?_
  refine jj_i2l dL_law_200 rfl ?_
  refine jj_ldc2 dL_law_201 kcL_13 ?_
  refine jj_land dL_law_204 rfl ?_
  refine jj_lor dL_law_205 rfl ?_
  refine jj_aload_n dL_law_206 rfl ?_
  refine jj_iload_n dL_law_207 rfl ?_
  refine jj_iconst (v := nI 3) dL_law_208 (by decide) ?_
  refine jj_iadd (v := nI (i + 3)) dL_law_209 (nI_add i 3) ?_
  refine jl_scr hl (by omega) dL_law_210 ?_
  refine jj_callV (M2 := m7_write) dL_law_211 mlL_19 tm7_write (E7) rfl rfl rfl rfl rfl (by decide) (Nat.le_of_ble_eq_true rfl) ?_
  refine jj_icmp_eq (tgt := 931) dL_law_214 (by decide) (fun _ => ?_) (fun zz => absurd rfl zz)
  refine jj_iinc dL_law_931 rfl (nI_add i 5) (Nat.le_of_ble_eq_true rfl) rfl ?_
  refine jj_goto (tgt := 18) dL_law_934 (by decide) ?_
  exact K
set_option maxRecDepth 100000 in
set_option maxHeartbeats 1000000 in
theorem lc_erase {G : jj_G} {nm : String} {s : jj_S} {i : Nat} (hl : (jj_scr G).length ≤ 320) (hi : i + 5 ≤ (jj_scr G).length) (h : Inv s) (KK : ∀ s2, Inv s2 → ∃ h', jj_Go G (mL nm) 60 18 [some (.ref 1000001), some (.ref 0), some (.ref 28), some (.int (nI (i + 5)))] [] (jj_m s2) 0 0 (some (.int 1)) (h')) : ∃ h', jj_Go G (mL nm) 60 219 [some (.ref 1000001), some (.ref 0), some (.ref 28), some (.int (nI i))] [] (jj_m s) 0 0 (some (.int 1)) (h') := by
  obtain ⟨v, s1, s2, ⟨x, rfl⟩, E6, E7, hI⟩ := st_erase (G := G) h 
  obtain ⟨h', K⟩ := KK s2 hI
  refine ⟨h', ?_⟩
  refine jj_aload_n dL_law_219 rfl ?_
  refine jj_callV (M2 := m6_erase) dL_law_220 mlL_20 tm6_erase (E6) rfl rfl rfl rfl rfl (by decide) (Nat.le_of_ble_eq_true rfl) ?_
  refine jj_aload_n dL_law_223 rfl ?_
  refine jj_callV (M2 := m7_erase) dL_law_224 mlL_24 tm7_erase (E7) rfl rfl rfl rfl rfl (by decide) (Nat.le_of_ble_eq_true rfl) ?_
  refine jj_icmp_eq (tgt := 931) dL_law_227 (by decide) (fun _ => ?_) (fun zz => absurd rfl zz)
  refine jj_iinc dL_law_931 rfl (nI_add i 5) (Nat.le_of_ble_eq_true rfl) rfl ?_
  refine jj_goto (tgt := 18) dL_law_934 (by decide) ?_
  exact K
set_option maxRecDepth 100000 in
set_option maxHeartbeats 1000000 in
theorem lc_fault {G : jj_G} {nm : String} {s : jj_S} {i : Nat} (hl : (jj_scr G).length ≤ 320) (hi : i + 5 ≤ (jj_scr G).length) (h : Inv s) (KK : ∀ s2, Inv s2 → ∃ h', jj_Go G (mL nm) 60 18 [some (.ref 1000001), some (.ref 0), some (.ref 28), some (.int (nI (i + 5)))] [] (jj_m s2) 0 0 (some (.int 1)) (h')) : ∃ h', jj_Go G (mL nm) 60 232 [some (.ref 1000001), some (.ref 0), some (.ref 28), some (.int (nI i))] [] (jj_m s) 0 0 (some (.int 1)) (h') := by
  obtain ⟨v, s1, s2, ⟨x, rfl⟩, E6, E7, hI⟩ := st_fault (G := G) h 
  obtain ⟨h', K⟩ := KK s2 hI
  refine ⟨h', ?_⟩
  refine jj_aload_n dL_law_232 rfl ?_
  refine jj_callV (M2 := m6_fault) dL_law_233 mlL_25 tm6_fault (E6) rfl rfl rfl rfl rfl (by decide) (Nat.le_of_ble_eq_true rfl) ?_
  refine jj_aload_n dL_law_236 rfl ?_
  refine jj_callV (M2 := m7_fault) dL_law_237 mlL_28 tm7_fault (E7) rfl rfl rfl rfl rfl (by decide) (Nat.le_of_ble_eq_true rfl) ?_
  refine jj_icmp_eq (tgt := 931) dL_law_240 (by decide) (fun _ => ?_) (fun zz => absurd rfl zz)
  refine jj_iinc dL_law_931 rfl (nI_add i 5) (Nat.le_of_ble_eq_true rfl) rfl ?_
  refine jj_goto (tgt := 18) dL_law_934 (by decide) ?_
  exact K
set_option maxRecDepth 100000 in
set_option maxHeartbeats 1000000 in
theorem lc_town {G : jj_G} {nm : String} {s : jj_S} {i : Nat} (hl : (jj_scr G).length ≤ 320) (hi : i + 5 ≤ (jj_scr G).length) (h : Inv s) (KK : ∀ s2, Inv s2 → ∃ h', jj_Go G (mL nm) 60 18 [some (.ref 1000001), some (.ref 0), some (.ref 28), some (.int (nI (i + 5)))] [] (jj_m s2) 0 0 (some (.int 1)) (h')) : ∃ h', jj_Go G (mL nm) 60 245 [some (.ref 1000001), some (.ref 0), some (.ref 28), some (.int (nI i))] [] (jj_m s) 0 0 (some (.int 1)) (h') := by
  obtain ⟨v, s1, s2, ⟨x, rfl⟩, E6, E7, hI⟩ := st_town (G := G) h 
  obtain ⟨h', K⟩ := KK s2 hI
  refine ⟨h', ?_⟩
  refine jj_aload_n dL_law_245 rfl ?_
  refine jj_callV (M2 := m6_town) dL_law_246 mlL_29 tm6_town (E6) rfl rfl rfl rfl rfl (by decide) (Nat.le_of_ble_eq_true rfl) ?_
  refine jj_aload_n dL_law_249 rfl ?_
  refine jj_callV (M2 := m7_town) dL_law_250 mlL_32 tm7_town (E7) rfl rfl rfl rfl rfl (by decide) (Nat.le_of_ble_eq_true rfl) ?_
  refine jj_icmp_eq (tgt := 931) dL_law_253 (by decide) (fun _ => ?_) (fun zz => absurd rfl zz)
  refine jj_iinc dL_law_931 rfl (nI_add i 5) (Nat.le_of_ble_eq_true rfl) rfl ?_
  refine jj_goto (tgt := 18) dL_law_934 (by decide) ?_
  exact K
set_option maxRecDepth 100000 in
set_option maxHeartbeats 1000000 in
theorem lc_beside {G : jj_G} {nm : String} {s : jj_S} {i : Nat} (hl : (jj_scr G).length ≤ 320) (hi : i + 5 ≤ (jj_scr G).length) (h : Inv s) (KK : ∀ s2, Inv s2 → ∃ h', jj_Go G (mL nm) 60 18 [some (.ref 1000001), some (.ref 0), some (.ref 28), some (.int (nI (i + 5)))] [] (jj_m s2) 0 0 (some (.int 1)) (h')) : ∃ h', jj_Go G (mL nm) 60 258 [some (.ref 1000001), some (.ref 0), some (.ref 28), some (.int (nI i))] [] (jj_m s) 0 0 (some (.int 1)) (h') := by
  obtain ⟨v, s1, s2, ⟨x, rfl⟩, E6, E7, hI⟩ := st_beside (G := G) h ((jj_scr G).getD (i + 1) 0) ((jj_scr G).getD (i + 2) 0)
  obtain ⟨h', K⟩ := KK s2 hI
  refine ⟨h', ?_⟩
  refine jj_aload_n dL_law_258 rfl ?_
  refine jj_aload_n dL_law_259 rfl ?_
  refine jj_iload_n dL_law_260 rfl ?_
  refine jj_iconst (v := nI 1) dL_law_261 (by decide) ?_
  refine jj_iadd (v := nI (i + 1)) dL_law_262 (nI_add i 1) ?_
  refine jl_scr hl (by omega) dL_law_263 ?_
  refine jj_aload_n dL_law_264 rfl ?_
  refine jj_iload_n dL_law_265 rfl ?_
  refine jj_iconst (v := nI 2) dL_law_266 (by decide) ?_
  refine jj_iadd (v := nI (i + 2)) dL_law_267 (nI_add i 2) ?_
  refine jl_scr hl (by omega) dL_law_268 ?_
  refine jj_callV (M2 := m6_beside) dL_law_269 mlL_33 tm6_beside (E6) rfl rfl rfl rfl rfl (by decide) (Nat.le_of_ble_eq_true rfl) ?_
  refine jj_aload_n dL_law_272 rfl ?_
  refine jj_aload_n dL_law_273 rfl ?_
  refine jj_iload_n dL_law_274 rfl ?_
  refine jj_iconst (v := nI 1) dL_law_275 (by decide) ?_
  refine jj_iadd (v := nI (i + 1)) dL_law_276 (nI_add i 1) ?_
  refine jl_scr hl (by omega) dL_law_277 ?_
  refine jj_aload_n dL_law_278 rfl ?_
  refine jj_iload_n dL_law_279 rfl ?_
  refine jj_iconst (v := nI 2) dL_law_280 (by decide) ?_
  refine jj_iadd (v := nI (i + 2)) dL_law_281 (nI_add i 2) ?_
  refine jl_scr hl (by omega) dL_law_282 ?_
  refine jj_callV (M2 := m7_beside) dL_law_283 mlL_37 tm7_beside (E7) rfl rfl rfl rfl rfl (by decide) (Nat.le_of_ble_eq_true rfl) ?_
  refine jj_icmp_eq (tgt := 931) dL_law_286 (by decide) (fun _ => ?_) (fun zz => absurd rfl zz)
  refine jj_iinc dL_law_931 rfl (nI_add i 5) (Nat.le_of_ble_eq_true rfl) rfl ?_
  refine jj_goto (tgt := 18) dL_law_934 (by decide) ?_
  exact K
set_option maxRecDepth 100000 in
set_option maxHeartbeats 1000000 in
theorem lc_side {G : jj_G} {nm : String} {s : jj_S} {i : Nat} (hl : (jj_scr G).length ≤ 320) (hi : i + 5 ≤ (jj_scr G).length) (h : Inv s) (KK : ∀ s2, Inv s2 → ∃ h', jj_Go G (mL nm) 60 18 [some (.ref 1000001), some (.ref 0), some (.ref 28), some (.int (nI (i + 5)))] [] (jj_m s2) 0 0 (some (.int 1)) (h')) : ∃ h', jj_Go G (mL nm) 60 291 [some (.ref 1000001), some (.ref 0), some (.ref 28), some (.int (nI i))] [] (jj_m s) 0 0 (some (.int 1)) (h') := by
  obtain ⟨v, s1, s2, ⟨x, rfl⟩, E6, E7, hI⟩ := st_side (G := G) h ((jj_scr G).getD (i + 1) 0) ((jj_scr G).getD (i + 2) 0)
  obtain ⟨h', K⟩ := KK s2 hI
  refine ⟨h', ?_⟩
  refine jj_aload_n dL_law_291 rfl ?_
  refine jj_aload_n dL_law_292 rfl ?_
  refine jj_iload_n dL_law_293 rfl ?_
  refine jj_iconst (v := nI 1) dL_law_294 (by decide) ?_
  refine jj_iadd (v := nI (i + 1)) dL_law_295 (nI_add i 1) ?_
  refine jl_scr hl (by omega) dL_law_296 ?_
  refine jj_aload_n dL_law_297 rfl ?_
  refine jj_iload_n dL_law_298 rfl ?_
  refine jj_iconst (v := nI 2) dL_law_299 (by decide) ?_
  refine jj_iadd (v := nI (i + 2)) dL_law_300 (nI_add i 2) ?_
  refine jl_scr hl (by omega) dL_law_301 ?_
  refine jj_callV (M2 := m6_side) dL_law_302 mlL_38 tm6_side (E6) rfl rfl rfl rfl rfl (by decide) (Nat.le_of_ble_eq_true rfl) ?_
  refine jj_aload_n dL_law_305 rfl ?_
  refine jj_aload_n dL_law_306 rfl ?_
  refine jj_iload_n dL_law_307 rfl ?_
  refine jj_iconst (v := nI 1) dL_law_308 (by decide) ?_
  refine jj_iadd (v := nI (i + 1)) dL_law_309 (nI_add i 1) ?_
  refine jl_scr hl (by omega) dL_law_310 ?_
  refine jj_aload_n dL_law_311 rfl ?_
  refine jj_iload_n dL_law_312 rfl ?_
  refine jj_iconst (v := nI 2) dL_law_313 (by decide) ?_
  refine jj_iadd (v := nI (i + 2)) dL_law_314 (nI_add i 2) ?_
  refine jl_scr hl (by omega) dL_law_315 ?_
  refine jj_callV (M2 := m7_side) dL_law_316 mlL_41 tm7_side (E7) rfl rfl rfl rfl rfl (by decide) (Nat.le_of_ble_eq_true rfl) ?_
  refine jj_icmp_eq (tgt := 931) dL_law_319 (by decide) (fun _ => ?_) (fun zz => absurd rfl zz)
  refine jj_iinc dL_law_931 rfl (nI_add i 5) (Nat.le_of_ble_eq_true rfl) rfl ?_
  refine jj_goto (tgt := 18) dL_law_934 (by decide) ?_
  exact K
set_option maxRecDepth 100000 in
set_option maxHeartbeats 1000000 in
theorem lc_far {G : jj_G} {nm : String} {s : jj_S} {i : Nat} (hl : (jj_scr G).length ≤ 320) (hi : i + 5 ≤ (jj_scr G).length) (h : Inv s) (KK : ∀ s2, Inv s2 → ∃ h', jj_Go G (mL nm) 60 18 [some (.ref 1000001), some (.ref 0), some (.ref 28), some (.int (nI (i + 5)))] [] (jj_m s2) 0 0 (some (.int 1)) (h')) : ∃ h', jj_Go G (mL nm) 60 324 [some (.ref 1000001), some (.ref 0), some (.ref 28), some (.int (nI i))] [] (jj_m s) 0 0 (some (.int 1)) (h') := by
  obtain ⟨v, s1, s2, ⟨x, rfl⟩, E6, E7, hI⟩ := st_far (G := G) h ((jj_scr G).getD (i + 1) 0) ((jj_scr G).getD (i + 2) 0)
  obtain ⟨h', K⟩ := KK s2 hI
  refine ⟨h', ?_⟩
  refine jj_aload_n dL_law_324 rfl ?_
  refine jj_aload_n dL_law_325 rfl ?_
  refine jj_iload_n dL_law_326 rfl ?_
  refine jj_iconst (v := nI 1) dL_law_327 (by decide) ?_
  refine jj_iadd (v := nI (i + 1)) dL_law_328 (nI_add i 1) ?_
  refine jl_scr hl (by omega) dL_law_329 ?_
  refine jj_aload_n dL_law_330 rfl ?_
  refine jj_iload_n dL_law_331 rfl ?_
  refine jj_iconst (v := nI 2) dL_law_332 (by decide) ?_
  refine jj_iadd (v := nI (i + 2)) dL_law_333 (nI_add i 2) ?_
  refine jl_scr hl (by omega) dL_law_334 ?_
  refine jj_callV (M2 := m6_far) dL_law_335 mlL_42 tm6_far (E6) rfl rfl rfl rfl rfl (by decide) (Nat.le_of_ble_eq_true rfl) ?_
  refine jj_aload_n dL_law_338 rfl ?_
  refine jj_aload_n dL_law_339 rfl ?_
  refine jj_iload_n dL_law_340 rfl ?_
  refine jj_iconst (v := nI 1) dL_law_341 (by decide) ?_
  refine jj_iadd (v := nI (i + 1)) dL_law_342 (nI_add i 1) ?_
  refine jl_scr hl (by omega) dL_law_343 ?_
  refine jj_aload_n dL_law_344 rfl ?_
  refine jj_iload_n dL_law_345 rfl ?_
  refine jj_iconst (v := nI 2) dL_law_346 (by decide) ?_
  refine jj_iadd (v := nI (i + 2)) dL_law_347 (nI_add i 2) ?_
  refine jl_scr hl (by omega) dL_law_348 ?_
  refine jj_callV (M2 := m7_far) dL_law_349 mlL_45 tm7_far (E7) rfl rfl rfl rfl rfl (by decide) (Nat.le_of_ble_eq_true rfl) ?_
  refine jj_icmp_eq (tgt := 931) dL_law_352 (by decide) (fun _ => ?_) (fun zz => absurd rfl zz)
  refine jj_iinc dL_law_931 rfl (nI_add i 5) (Nat.le_of_ble_eq_true rfl) rfl ?_
  refine jj_goto (tgt := 18) dL_law_934 (by decide) ?_
  exact K
set_option maxRecDepth 100000 in
set_option maxHeartbeats 1000000 in
theorem lc_other {G : jj_G} {nm : String} {s : jj_S} {i : Nat} (hl : (jj_scr G).length ≤ 320) (hi : i + 5 ≤ (jj_scr G).length) (h : Inv s) (KK : ∀ s2, Inv s2 → ∃ h', jj_Go G (mL nm) 60 18 [some (.ref 1000001), some (.ref 0), some (.ref 28), some (.int (nI (i + 5)))] [] (jj_m s2) 0 0 (some (.int 1)) (h')) : ∃ h', jj_Go G (mL nm) 60 357 [some (.ref 1000001), some (.ref 0), some (.ref 28), some (.int (nI i))] [] (jj_m s) 0 0 (some (.int 1)) (h') := by
  obtain ⟨v, s1, s2, ⟨x, rfl⟩, E6, E7, hI⟩ := st_other (G := G) h ((jj_scr G).getD (i + 1) 0)
  obtain ⟨h', K⟩ := KK s2 hI
  refine ⟨h', ?_⟩
  refine jj_aload_n dL_law_357 rfl ?_
  refine jj_aload_n dL_law_358 rfl ?_
  refine jj_iload_n dL_law_359 rfl ?_
  refine jj_iconst (v := nI 1) dL_law_360 (by decide) ?_
  refine jj_iadd (v := nI (i + 1)) dL_law_361 (nI_add i 1) ?_
  refine jl_scr hl (by omega) dL_law_362 ?_
  refine jj_callV (M2 := m6_other) dL_law_363 mlL_46 tm6_other (E6) rfl rfl rfl rfl rfl (by decide) (Nat.le_of_ble_eq_true rfl) ?_
  refine jj_aload_n dL_law_366 rfl ?_
  refine jj_aload_n dL_law_367 rfl ?_
  refine jj_iload_n dL_law_368 rfl ?_
  refine jj_iconst (v := nI 1) dL_law_369 (by decide) ?_
  refine jj_iadd (v := nI (i + 1)) dL_law_370 (nI_add i 1) ?_
  refine jl_scr hl (by omega) dL_law_371 ?_
  refine jj_callV (M2 := m7_other) dL_law_372 mlL_50 tm7_other (E7) rfl rfl rfl rfl rfl (by decide) (Nat.le_of_ble_eq_true rfl) ?_
  refine jj_icmp_eq (tgt := 931) dL_law_375 (by decide) (fun _ => ?_) (fun zz => absurd rfl zz)
  refine jj_iinc dL_law_931 rfl (nI_add i 5) (Nat.le_of_ble_eq_true rfl) rfl ?_
  refine jj_goto (tgt := 18) dL_law_934 (by decide) ?_
  exact K
set_option maxRecDepth 100000 in
set_option maxHeartbeats 1000000 in
theorem lc_goes {G : jj_G} {nm : String} {s : jj_S} {i : Nat} (hl : (jj_scr G).length ≤ 320) (hi : i + 5 ≤ (jj_scr G).length) (h : Inv s) (KK : ∀ s2, Inv s2 → ∃ h', jj_Go G (mL nm) 60 18 [some (.ref 1000001), some (.ref 0), some (.ref 28), some (.int (nI (i + 5)))] [] (jj_m s2) 0 0 (some (.int 1)) (h')) : ∃ h', jj_Go G (mL nm) 60 380 [some (.ref 1000001), some (.ref 0), some (.ref 28), some (.int (nI i))] [] (jj_m s) 0 0 (some (.int 1)) (h') := by
  obtain ⟨v, s1, s2, ⟨x, rfl⟩, E6, E7, hI⟩ := st_goes (G := G) h ((jj_scr G).getD (i + 1) 0) ((jj_scr G).getD (i + 2) 0) ((jj_scr G).getD (i + 3) 0)
  obtain ⟨h', K⟩ := KK s2 hI
  refine ⟨h', ?_⟩
  refine jj_aload_n dL_law_380 rfl ?_
  refine jj_aload_n dL_law_381 rfl ?_
  refine jj_iload_n dL_law_382 rfl ?_
  refine jj_iconst (v := nI 1) dL_law_383 (by decide) ?_
  refine jj_iadd (v := nI (i + 1)) dL_law_384 (nI_add i 1) ?_
  refine jl_scr hl (by omega) dL_law_385 ?_
  refine jj_aload_n dL_law_386 rfl ?_
  refine jj_iload_n dL_law_387 rfl ?_
  refine jj_iconst (v := nI 2) dL_law_388 (by decide) ?_
  refine jj_iadd (v := nI (i + 2)) dL_law_389 (nI_add i 2) ?_
  refine jl_scr hl (by omega) dL_law_390 ?_
  refine jj_aload_n dL_law_391 rfl ?_
  refine jj_iload_n dL_law_392 rfl ?_
  refine jj_iconst (v := nI 3) dL_law_393 (by decide) ?_
  refine jj_iadd (v := nI (i + 3)) dL_law_394 (nI_add i 3) ?_
  refine jl_scr hl (by omega) dL_law_395 ?_
  refine jj_callV (M2 := m6_goes) dL_law_396 mlL_51 tm6_goes (E6) rfl rfl rfl rfl rfl (by decide) (Nat.le_of_ble_eq_true rfl) ?_
  refine jj_aload_n dL_law_399 rfl ?_
  refine jj_aload_n dL_law_400 rfl ?_
  refine jj_iload_n dL_law_401 rfl ?_
  refine jj_iconst (v := nI 1) dL_law_402 (by decide) ?_
  refine jj_iadd (v := nI (i + 1)) dL_law_403 (nI_add i 1) ?_
  refine jl_scr hl (by omega) dL_law_404 ?_
  refine jj_aload_n dL_law_405 rfl ?_
  refine jj_iload_n dL_law_406 rfl ?_
  refine jj_iconst (v := nI 2) dL_law_407 (by decide) ?_
  refine jj_iadd (v := nI (i + 2)) dL_law_408 (nI_add i 2) ?_
  refine jl_scr hl (by omega) dL_law_409 ?_
  refine jj_aload_n dL_law_410 rfl ?_
  refine jj_iload_n dL_law_411 rfl ?_
  refine jj_iconst (v := nI 3) dL_law_412 (by decide) ?_
  refine jj_iadd (v := nI (i + 3)) dL_law_413 (nI_add i 3) ?_
  refine jl_scr hl (by omega) dL_law_414 ?_
  refine jj_callV (M2 := m7_goes) dL_law_415 mlL_55 tm7_goes (E7) rfl rfl rfl rfl rfl (by decide) (Nat.le_of_ble_eq_true rfl) ?_
  refine jj_icmp_eq (tgt := 931) dL_law_418 (by decide) (fun _ => ?_) (fun zz => absurd rfl zz)
  refine jj_iinc dL_law_931 rfl (nI_add i 5) (Nat.le_of_ble_eq_true rfl) rfl ?_
  refine jj_goto (tgt := 18) dL_law_934 (by decide) ?_
  exact K
set_option maxRecDepth 100000 in
set_option maxHeartbeats 1000000 in
theorem lc_field {G : jj_G} {nm : String} {s : jj_S} {i : Nat} (hl : (jj_scr G).length ≤ 320) (hi : i + 5 ≤ (jj_scr G).length) (h : Inv s) (KK : ∀ s2, Inv s2 → ∃ h', jj_Go G (mL nm) 60 18 [some (.ref 1000001), some (.ref 0), some (.ref 28), some (.int (nI (i + 5)))] [] (jj_m s2) 0 0 (some (.int 1)) (h')) : ∃ h', jj_Go G (mL nm) 60 423 [some (.ref 1000001), some (.ref 0), some (.ref 28), some (.int (nI i))] [] (jj_m s) 0 0 (some (.int 1)) (h') := by
  obtain ⟨v, s1, s2, ⟨x, rfl⟩, E6, E7, hI⟩ := st_field (G := G) h ((jj_scr G).getD (i + 1) 0) ((jj_scr G).getD (i + 2) 0)
  obtain ⟨h', K⟩ := KK s2 hI
  refine ⟨h', ?_⟩
  refine jj_aload_n dL_law_423 rfl ?_
  refine jj_aload_n dL_law_424 rfl ?_
  refine jj_iload_n dL_law_425 rfl ?_
  refine jj_iconst (v := nI 1) dL_law_426 (by decide) ?_
  refine jj_iadd (v := nI (i + 1)) dL_law_427 (nI_add i 1) ?_
  refine jl_scr hl (by omega) dL_law_428 ?_
  refine jj_aload_n dL_law_429 rfl ?_
  refine jj_iload_n dL_law_430 rfl ?_
  refine jj_iconst (v := nI 2) dL_law_431 (by decide) ?_
  refine jj_iadd (v := nI (i + 2)) dL_law_432 (nI_add i 2) ?_
  refine jl_scr hl (by omega) dL_law_433 ?_
  refine jj_callV (M2 := m6_field) dL_law_434 mlL_56 tm6_field (E6) rfl rfl rfl rfl rfl (by decide) (Nat.le_of_ble_eq_true rfl) ?_
  refine jj_aload_n dL_law_437 rfl ?_
  refine jj_aload_n dL_law_438 rfl ?_
  refine jj_iload_n dL_law_439 rfl ?_
  refine jj_iconst (v := nI 1) dL_law_440 (by decide) ?_
  refine jj_iadd (v := nI (i + 1)) dL_law_441 (nI_add i 1) ?_
  refine jl_scr hl (by omega) dL_law_442 ?_
  refine jj_aload_n dL_law_443 rfl ?_
  refine jj_iload_n dL_law_444 rfl ?_
  refine jj_iconst (v := nI 2) dL_law_445 (by decide) ?_
  refine jj_iadd (v := nI (i + 2)) dL_law_446 (nI_add i 2) ?_
  refine jl_scr hl (by omega) dL_law_447 ?_
  refine jj_callV (M2 := m7_field) dL_law_448 mlL_59 tm7_field (E7) rfl rfl rfl rfl rfl (by decide) (Nat.le_of_ble_eq_true rfl) ?_
  refine jj_icmp_eq (tgt := 931) dL_law_451 (by decide) (fun _ => ?_) (fun zz => absurd rfl zz)
  refine jj_iinc dL_law_931 rfl (nI_add i 5) (Nat.le_of_ble_eq_true rfl) rfl ?_
  refine jj_goto (tgt := 18) dL_law_934 (by decide) ?_
  exact K
set_option maxRecDepth 100000 in
set_option maxHeartbeats 1000000 in
theorem lc_as {G : jj_G} {nm : String} {s : jj_S} {i : Nat} (hl : (jj_scr G).length ≤ 320) (hi : i + 5 ≤ (jj_scr G).length) (h : Inv s) (KK : ∀ s2, Inv s2 → ∃ h', jj_Go G (mL nm) 60 18 [some (.ref 1000001), some (.ref 0), some (.ref 28), some (.int (nI (i + 5)))] [] (jj_m s2) 0 0 (some (.int 1)) (h')) : ∃ h', jj_Go G (mL nm) 60 456 [some (.ref 1000001), some (.ref 0), some (.ref 28), some (.int (nI i))] [] (jj_m s) 0 0 (some (.int 1)) (h') := by
  obtain ⟨v, s1, s2, ⟨x, rfl⟩, E6, E7, hI⟩ := st_as (G := G) h ((jj_scr G).getD (i + 1) 0) ((jj_scr G).getD (i + 2) 0)
  obtain ⟨h', K⟩ := KK s2 hI
  refine ⟨h', ?_⟩
  refine jj_aload_n dL_law_456 rfl ?_
  refine jj_aload_n dL_law_457 rfl ?_
  refine jj_iload_n dL_law_458 rfl ?_
  refine jj_iconst (v := nI 1) dL_law_459 (by decide) ?_
  refine jj_iadd (v := nI (i + 1)) dL_law_460 (nI_add i 1) ?_
  refine jl_scr hl (by omega) dL_law_461 ?_
  refine jj_aload_n dL_law_462 rfl ?_
  refine jj_iload_n dL_law_463 rfl ?_
  refine jj_iconst (v := nI 2) dL_law_464 (by decide) ?_
  refine jj_iadd (v := nI (i + 2)) dL_law_465 (nI_add i 2) ?_
  refine jl_scr hl (by omega) dL_law_466 ?_
  refine jj_callV (M2 := m6_as) dL_law_467 mlL_60 tm6_as (E6) rfl rfl rfl rfl rfl (by decide) (Nat.le_of_ble_eq_true rfl) ?_
  refine jj_aload_n dL_law_470 rfl ?_
  refine jj_aload_n dL_law_471 rfl ?_
  refine jj_iload_n dL_law_472 rfl ?_
  refine jj_iconst (v := nI 1) dL_law_473 (by decide) ?_
  refine jj_iadd (v := nI (i + 1)) dL_law_474 (nI_add i 1) ?_
  refine jl_scr hl (by omega) dL_law_475 ?_
  refine jj_aload_n dL_law_476 rfl ?_
  refine jj_iload_n dL_law_477 rfl ?_
  refine jj_iconst (v := nI 2) dL_law_478 (by decide) ?_
  refine jj_iadd (v := nI (i + 2)) dL_law_479 (nI_add i 2) ?_
  refine jl_scr hl (by omega) dL_law_480 ?_
  refine jj_callV (M2 := m7_as) dL_law_481 mlL_63 tm7_as (E7) rfl rfl rfl rfl rfl (by decide) (Nat.le_of_ble_eq_true rfl) ?_
  refine jj_icmp_eq (tgt := 931) dL_law_484 (by decide) (fun _ => ?_) (fun zz => absurd rfl zz)
  refine jj_iinc dL_law_931 rfl (nI_add i 5) (Nat.le_of_ble_eq_true rfl) rfl ?_
  refine jj_goto (tgt := 18) dL_law_934 (by decide) ?_
  exact K
set_option maxRecDepth 100000 in
set_option maxHeartbeats 1000000 in
theorem lc_rotate {G : jj_G} {nm : String} {s : jj_S} {i : Nat} (hl : (jj_scr G).length ≤ 320) (hi : i + 5 ≤ (jj_scr G).length) (h : Inv s) (KK : ∀ s2, Inv s2 → ∃ h', jj_Go G (mL nm) 60 18 [some (.ref 1000001), some (.ref 0), some (.ref 28), some (.int (nI (i + 5)))] [] (jj_m s2) 0 0 (some (.int 1)) (h')) : ∃ h', jj_Go G (mL nm) 60 489 [some (.ref 1000001), some (.ref 0), some (.ref 28), some (.int (nI i))] [] (jj_m s) 0 0 (some (.int 1)) (h') := by
  obtain ⟨v, s1, s2, ⟨x, rfl⟩, E6, E7, hI⟩ := st_rotate (G := G) h ((jj_scr G).getD (i + 1) 0) ((jj_scr G).getD (i + 2) 0)
  obtain ⟨h', K⟩ := KK s2 hI
  refine ⟨h', ?_⟩
  refine jj_aload_n dL_law_489 rfl ?_
  refine jj_aload_n dL_law_490 rfl ?_
  refine jj_iload_n dL_law_491 rfl ?_
  refine jj_iconst (v := nI 1) dL_law_492 (by decide) ?_
  refine jj_iadd (v := nI (i + 1)) dL_law_493 (nI_add i 1) ?_
  refine jl_scr hl (by omega) dL_law_494 ?_
  refine jj_aload_n dL_law_495 rfl ?_
  refine jj_iload_n dL_law_496 rfl ?_
  refine jj_iconst (v := nI 2) dL_law_497 (by decide) ?_
  refine jj_iadd (v := nI (i + 2)) dL_law_498 (nI_add i 2) ?_
  refine jl_scr hl (by omega) dL_law_499 ?_
  refine jj_callV (M2 := m6_rotate) dL_law_500 mlL_64 tm6_rotate (E6) rfl rfl rfl rfl rfl (by decide) (Nat.le_of_ble_eq_true rfl) ?_
  refine jj_aload_n dL_law_503 rfl ?_
  refine jj_aload_n dL_law_504 rfl ?_
  refine jj_iload_n dL_law_505 rfl ?_
  refine jj_iconst (v := nI 1) dL_law_506 (by decide) ?_
  refine jj_iadd (v := nI (i + 1)) dL_law_507 (nI_add i 1) ?_
  refine jl_scr hl (by omega) dL_law_508 ?_
  refine jj_aload_n dL_law_509 rfl ?_
  refine jj_iload_n dL_law_510 rfl ?_
  refine jj_iconst (v := nI 2) dL_law_511 (by decide) ?_
  refine jj_iadd (v := nI (i + 2)) dL_law_512 (nI_add i 2) ?_
  refine jl_scr hl (by omega) dL_law_513 ?_
  refine jj_callV (M2 := m7_rotate) dL_law_514 mlL_67 tm7_rotate (E7) rfl rfl rfl rfl rfl (by decide) (Nat.le_of_ble_eq_true rfl) ?_
  refine jj_icmp_eq (tgt := 931) dL_law_517 (by decide) (fun _ => ?_) (fun zz => absurd rfl zz)
  refine jj_iinc dL_law_931 rfl (nI_add i 5) (Nat.le_of_ble_eq_true rfl) rfl ?_
  refine jj_goto (tgt := 18) dL_law_934 (by decide) ?_
  exact K
set_option maxRecDepth 100000 in
set_option maxHeartbeats 1000000 in
theorem lc_step {G : jj_G} {nm : String} {s : jj_S} {i : Nat} (hl : (jj_scr G).length ≤ 320) (hi : i + 5 ≤ (jj_scr G).length) (h : Inv s) (KK : ∀ s2, Inv s2 → ∃ h', jj_Go G (mL nm) 60 18 [some (.ref 1000001), some (.ref 0), some (.ref 28), some (.int (nI (i + 5)))] [] (jj_m s2) 0 0 (some (.int 1)) (h')) : ∃ h', jj_Go G (mL nm) 60 522 [some (.ref 1000001), some (.ref 0), some (.ref 28), some (.int (nI i))] [] (jj_m s) 0 0 (some (.int 1)) (h') := by
  obtain ⟨v, s1, s2, ⟨x, rfl⟩, E6, E7, hI⟩ := st_step (G := G) h ((jj_scr G).getD (i + 1) 0)
  obtain ⟨h', K⟩ := KK s2 hI
  refine ⟨h', ?_⟩
  refine jj_aload_n dL_law_522 rfl ?_
  refine jj_aload_n dL_law_523 rfl ?_
  refine jj_iload_n dL_law_524 rfl ?_
  refine jj_iconst (v := nI 1) dL_law_525 (by decide) ?_
  refine jj_iadd (v := nI (i + 1)) dL_law_526 (nI_add i 1) ?_
  refine jl_scr hl (by omega) dL_law_527 ?_
  refine jj_callV (M2 := m6_step) dL_law_528 mlL_68 tm6_step (E6) rfl rfl rfl rfl rfl (by decide) (Nat.le_of_ble_eq_true rfl) ?_
  refine jj_aload_n dL_law_531 rfl ?_
  refine jj_aload_n dL_law_532 rfl ?_
  refine jj_iload_n dL_law_533 rfl ?_
  refine jj_iconst (v := nI 1) dL_law_534 (by decide) ?_
  refine jj_iadd (v := nI (i + 1)) dL_law_535 (nI_add i 1) ?_
  refine jl_scr hl (by omega) dL_law_536 ?_
  refine jj_callV (M2 := m7_step) dL_law_537 mlL_71 tm7_step (E7) rfl rfl rfl rfl rfl (by decide) (Nat.le_of_ble_eq_true rfl) ?_
  refine jj_icmp_eq (tgt := 931) dL_law_540 (by decide) (fun _ => ?_) (fun zz => absurd rfl zz)
  refine jj_iinc dL_law_931 rfl (nI_add i 5) (Nat.le_of_ble_eq_true rfl) rfl ?_
  refine jj_goto (tgt := 18) dL_law_934 (by decide) ?_
  exact K
set_option maxRecDepth 100000 in
set_option maxHeartbeats 1000000 in
theorem lc_walker {G : jj_G} {nm : String} {s : jj_S} {i : Nat} (hl : (jj_scr G).length ≤ 320) (hi : i + 5 ≤ (jj_scr G).length) (h : Inv s) (KK : ∀ s2, Inv s2 → ∃ h', jj_Go G (mL nm) 60 18 [some (.ref 1000001), some (.ref 0), some (.ref 28), some (.int (nI (i + 5)))] [] (jj_m s2) 0 0 (some (.int 1)) (h')) : ∃ h', jj_Go G (mL nm) 60 545 [some (.ref 1000001), some (.ref 0), some (.ref 28), some (.int (nI i))] [] (jj_m s) 0 0 (some (.int 1)) (h') := by
  obtain ⟨v, s1, s2, ⟨x, rfl⟩, E6, E7, hI⟩ := st_walker (G := G) h ((jj_scr G).getD (i + 1) 0)
  obtain ⟨h', K⟩ := KK s2 hI
  refine ⟨h', ?_⟩
  refine jj_aload_n dL_law_545 rfl ?_
  refine jj_aload_n dL_law_546 rfl ?_
  refine jj_iload_n dL_law_547 rfl ?_
  refine jj_iconst (v := nI 1) dL_law_548 (by decide) ?_
  refine jj_iadd (v := nI (i + 1)) dL_law_549 (nI_add i 1) ?_
  refine jl_scr hl (by omega) dL_law_550 ?_
  refine jj_callV (M2 := m6_walker) dL_law_551 mlL_72 tm6_walker (E6) rfl rfl rfl rfl rfl (by decide) (Nat.le_of_ble_eq_true rfl) ?_
  refine jj_aload_n dL_law_554 rfl ?_
  refine jj_aload_n dL_law_555 rfl ?_
  refine jj_iload_n dL_law_556 rfl ?_
  refine jj_iconst (v := nI 1) dL_law_557 (by decide) ?_
  refine jj_iadd (v := nI (i + 1)) dL_law_558 (nI_add i 1) ?_
  refine jl_scr hl (by omega) dL_law_559 ?_
  refine jj_callV (M2 := m7_walker) dL_law_560 mlL_75 tm7_walker (E7) rfl rfl rfl rfl rfl (by decide) (Nat.le_of_ble_eq_true rfl) ?_
  refine jj_icmp_eq (tgt := 931) dL_law_563 (by decide) (fun _ => ?_) (fun zz => absurd rfl zz)
  refine jj_iinc dL_law_931 rfl (nI_add i 5) (Nat.le_of_ble_eq_true rfl) rfl ?_
  refine jj_goto (tgt := 18) dL_law_934 (by decide) ?_
  exact K
set_option maxRecDepth 100000 in
set_option maxHeartbeats 1000000 in
theorem lc_keep {G : jj_G} {nm : String} {s : jj_S} {i : Nat} (hl : (jj_scr G).length ≤ 320) (hi : i + 5 ≤ (jj_scr G).length) (h : Inv s) (KK : ∀ s2, Inv s2 → ∃ h', jj_Go G (mL nm) 60 18 [some (.ref 1000001), some (.ref 0), some (.ref 28), some (.int (nI (i + 5)))] [] (jj_m s2) 0 0 (some (.int 1)) (h')) : ∃ h', jj_Go G (mL nm) 60 568 [some (.ref 1000001), some (.ref 0), some (.ref 28), some (.int (nI i))] [] (jj_m s) 0 0 (some (.int 1)) (h') := by
  obtain ⟨v, s1, s2, ⟨x, rfl⟩, E6, E7, hI⟩ := st_keep (G := G) h ((jj_scr G).getD (i + 1) 0)
  obtain ⟨h', K⟩ := KK s2 hI
  refine ⟨h', ?_⟩
  refine jj_aload_n dL_law_568 rfl ?_
  refine jj_aload_n dL_law_569 rfl ?_
  refine jj_iload_n dL_law_570 rfl ?_
  refine jj_iconst (v := nI 1) dL_law_571 (by decide) ?_
  refine jj_iadd (v := nI (i + 1)) dL_law_572 (nI_add i 1) ?_
  refine jl_scr hl (by omega) dL_law_573 ?_
  refine jj_callV (M2 := m6_keep) dL_law_574 mlL_76 tm6_keep (E6) rfl rfl rfl rfl rfl (by decide) (Nat.le_of_ble_eq_true rfl) ?_
  refine jj_aload_n dL_law_577 rfl ?_
  refine jj_aload_n dL_law_578 rfl ?_
  refine jj_iload_n dL_law_579 rfl ?_
  refine jj_iconst (v := nI 1) dL_law_580 (by decide) ?_
  refine jj_iadd (v := nI (i + 1)) dL_law_581 (nI_add i 1) ?_
  refine jl_scr hl (by omega) dL_law_582 ?_
  refine jj_callV (M2 := m7_keep) dL_law_583 mlL_79 tm7_keep (E7) rfl rfl rfl rfl rfl (by decide) (Nat.le_of_ble_eq_true rfl) ?_
  refine jj_icmp_eq (tgt := 931) dL_law_586 (by decide) (fun _ => ?_) (fun zz => absurd rfl zz)
  refine jj_iinc dL_law_931 rfl (nI_add i 5) (Nat.le_of_ble_eq_true rfl) rfl ?_
  refine jj_goto (tgt := 18) dL_law_934 (by decide) ?_
  exact K
set_option maxRecDepth 100000 in
set_option maxHeartbeats 1000000 in
theorem lc_back {G : jj_G} {nm : String} {s : jj_S} {i : Nat} (hl : (jj_scr G).length ≤ 320) (hi : i + 5 ≤ (jj_scr G).length) (h : Inv s) (KK : ∀ s2, Inv s2 → ∃ h', jj_Go G (mL nm) 60 18 [some (.ref 1000001), some (.ref 0), some (.ref 28), some (.int (nI (i + 5)))] [] (jj_m s2) 0 0 (some (.int 1)) (h')) : ∃ h', jj_Go G (mL nm) 60 591 [some (.ref 1000001), some (.ref 0), some (.ref 28), some (.int (nI i))] [] (jj_m s) 0 0 (some (.int 1)) (h') := by
  obtain ⟨v, s1, s2, ⟨x, rfl⟩, E6, E7, hI⟩ := st_back (G := G) h ((jj_scr G).getD (i + 1) 0)
  obtain ⟨h', K⟩ := KK s2 hI
  refine ⟨h', ?_⟩
  refine jj_aload_n dL_law_591 rfl ?_
  refine jj_aload_n dL_law_592 rfl ?_
  refine jj_iload_n dL_law_593 rfl ?_
  refine jj_iconst (v := nI 1) dL_law_594 (by decide) ?_
  refine jj_iadd (v := nI (i + 1)) dL_law_595 (nI_add i 1) ?_
  refine jl_scr hl (by omega) dL_law_596 ?_
  refine jj_callV (M2 := m6_back) dL_law_597 mlL_80 tm6_back (E6) rfl rfl rfl rfl rfl (by decide) (Nat.le_of_ble_eq_true rfl) ?_
  refine jj_aload_n dL_law_600 rfl ?_
  refine jj_aload_n dL_law_601 rfl ?_
  refine jj_iload_n dL_law_602 rfl ?_
  refine jj_iconst (v := nI 1) dL_law_603 (by decide) ?_
  refine jj_iadd (v := nI (i + 1)) dL_law_604 (nI_add i 1) ?_
  refine jl_scr hl (by omega) dL_law_605 ?_
  refine jj_callV (M2 := m7_back) dL_law_606 mlL_83 tm7_back (E7) rfl rfl rfl rfl rfl (by decide) (Nat.le_of_ble_eq_true rfl) ?_
  refine jj_icmp_eq (tgt := 931) dL_law_609 (by decide) (fun _ => ?_) (fun zz => absurd rfl zz)
  refine jj_iinc dL_law_931 rfl (nI_add i 5) (Nat.le_of_ble_eq_true rfl) rfl ?_
  refine jj_goto (tgt := 18) dL_law_934 (by decide) ?_
  exact K
set_option maxRecDepth 100000 in
set_option maxHeartbeats 1000000 in
theorem lc_home {G : jj_G} {nm : String} {s : jj_S} {i : Nat} (hl : (jj_scr G).length ≤ 320) (hi : i + 5 ≤ (jj_scr G).length) (h : Inv s) (KK : ∀ s2, Inv s2 → ∃ h', jj_Go G (mL nm) 60 18 [some (.ref 1000001), some (.ref 0), some (.ref 28), some (.int (nI (i + 5)))] [] (jj_m s2) 0 0 (some (.int 1)) (h')) : ∃ h', jj_Go G (mL nm) 60 614 [some (.ref 1000001), some (.ref 0), some (.ref 28), some (.int (nI i))] [] (jj_m s) 0 0 (some (.int 1)) (h') := by
  obtain ⟨v, s1, s2, ⟨x, rfl⟩, E6, E7, hI⟩ := st_home (G := G) h ((jj_scr G).getD (i + 1) 0)
  obtain ⟨h', K⟩ := KK s2 hI
  refine ⟨h', ?_⟩
  refine jj_aload_n dL_law_614 rfl ?_
  refine jj_aload_n dL_law_615 rfl ?_
  refine jj_iload_n dL_law_616 rfl ?_
  refine jj_iconst (v := nI 1) dL_law_617 (by decide) ?_
  refine jj_iadd (v := nI (i + 1)) dL_law_618 (nI_add i 1) ?_
  refine jl_scr hl (by omega) dL_law_619 ?_
  refine jj_callV (M2 := m6_home) dL_law_620 mlL_84 tm6_home (E6) rfl rfl rfl rfl rfl (by decide) (Nat.le_of_ble_eq_true rfl) ?_
  refine jj_aload_n dL_law_623 rfl ?_
  refine jj_aload_n dL_law_624 rfl ?_
  refine jj_iload_n dL_law_625 rfl ?_
  refine jj_iconst (v := nI 1) dL_law_626 (by decide) ?_
  refine jj_iadd (v := nI (i + 1)) dL_law_627 (nI_add i 1) ?_
  refine jl_scr hl (by omega) dL_law_628 ?_
  refine jj_callV (M2 := m7_home) dL_law_629 mlL_87 tm7_home (E7) rfl rfl rfl rfl rfl (by decide) (Nat.le_of_ble_eq_true rfl) ?_
  refine jj_icmp_eq (tgt := 931) dL_law_632 (by decide) (fun _ => ?_) (fun zz => absurd rfl zz)
  refine jj_iinc dL_law_931 rfl (nI_add i 5) (Nat.le_of_ble_eq_true rfl) rfl ?_
  refine jj_goto (tgt := 18) dL_law_934 (by decide) ?_
  exact K
set_option maxRecDepth 100000 in
set_option maxHeartbeats 1000000 in
theorem lc_alike {G : jj_G} {nm : String} {s : jj_S} {i : Nat} (hl : (jj_scr G).length ≤ 320) (hi : i + 5 ≤ (jj_scr G).length) (h : Inv s) (KK : ∀ s2, Inv s2 → ∃ h', jj_Go G (mL nm) 60 18 [some (.ref 1000001), some (.ref 0), some (.ref 28), some (.int (nI (i + 5)))] [] (jj_m s2) 0 0 (some (.int 1)) (h')) : ∃ h', jj_Go G (mL nm) 60 637 [some (.ref 1000001), some (.ref 0), some (.ref 28), some (.int (nI i))] [] (jj_m s) 0 0 (some (.int 1)) (h') := by
  obtain ⟨v, s1, s2, ⟨x, rfl⟩, E6, E7, hI⟩ := st_alike (G := G) h 
  obtain ⟨h', K⟩ := KK s2 hI
  refine ⟨h', ?_⟩
  refine jj_aload_n dL_law_637 rfl ?_
  refine jj_callV (M2 := m6_alike) dL_law_638 mlL_88 tm6_alike (E6) rfl rfl rfl rfl rfl (by decide) (Nat.le_of_ble_eq_true rfl) ?_
  refine jj_aload_n dL_law_641 rfl ?_
  refine jj_callV (M2 := m7_alike) dL_law_642 mlL_91 tm7_alike (E7) rfl rfl rfl rfl rfl (by decide) (Nat.le_of_ble_eq_true rfl) ?_
  refine jj_icmp_eq (tgt := 931) dL_law_645 (by decide) (fun _ => ?_) (fun zz => absurd rfl zz)
  refine jj_iinc dL_law_931 rfl (nI_add i 5) (Nat.le_of_ble_eq_true rfl) rfl ?_
  refine jj_goto (tgt := 18) dL_law_934 (by decide) ?_
  exact K
set_option maxRecDepth 100000 in
set_option maxHeartbeats 1000000 in
theorem lc_like {G : jj_G} {nm : String} {s : jj_S} {i : Nat} (hl : (jj_scr G).length ≤ 320) (hi : i + 5 ≤ (jj_scr G).length) (h : Inv s) (KK : ∀ s2, Inv s2 → ∃ h', jj_Go G (mL nm) 60 18 [some (.ref 1000001), some (.ref 0), some (.ref 28), some (.int (nI (i + 5)))] [] (jj_m s2) 0 0 (some (.int 1)) (h')) : ∃ h', jj_Go G (mL nm) 60 650 [some (.ref 1000001), some (.ref 0), some (.ref 28), some (.int (nI i))] [] (jj_m s) 0 0 (some (.int 1)) (h') := by
  obtain ⟨v, s1, s2, ⟨x, rfl⟩, E6, E7, hI⟩ := st_like (G := G) h ((jj_scr G).getD (i + 1) 0)
  obtain ⟨h', K⟩ := KK s2 hI
  refine ⟨h', ?_⟩
  refine jj_aload_n dL_law_650 rfl ?_
  refine jj_aload_n dL_law_651 rfl ?_
  refine jj_iload_n dL_law_652 rfl ?_
  refine jj_iconst (v := nI 1) dL_law_653 (by decide) ?_
  refine jj_iadd (v := nI (i + 1)) dL_law_654 (nI_add i 1) ?_
  refine jl_scr hl (by omega) dL_law_655 ?_
  refine jj_callV (M2 := m6_like) dL_law_656 mlL_92 tm6_like (E6) rfl rfl rfl rfl rfl (by decide) (Nat.le_of_ble_eq_true rfl) ?_
  refine jj_aload_n dL_law_659 rfl ?_
  refine jj_aload_n dL_law_660 rfl ?_
  refine jj_iload_n dL_law_661 rfl ?_
  refine jj_iconst (v := nI 1) dL_law_662 (by decide) ?_
  refine jj_iadd (v := nI (i + 1)) dL_law_663 (nI_add i 1) ?_
  refine jl_scr hl (by omega) dL_law_664 ?_
  refine jj_callV (M2 := m7_like) dL_law_665 mlL_95 tm7_like (E7) rfl rfl rfl rfl rfl (by decide) (Nat.le_of_ble_eq_true rfl) ?_
  refine jj_icmp_eq (tgt := 931) dL_law_668 (by decide) (fun _ => ?_) (fun zz => absurd rfl zz)
  refine jj_iinc dL_law_931 rfl (nI_add i 5) (Nat.le_of_ble_eq_true rfl) rfl ?_
  refine jj_goto (tgt := 18) dL_law_934 (by decide) ?_
  exact K
set_option maxRecDepth 100000 in
set_option maxHeartbeats 1000000 in
theorem lc_fixed {G : jj_G} {nm : String} {s : jj_S} {i : Nat} (hl : (jj_scr G).length ≤ 320) (hi : i + 5 ≤ (jj_scr G).length) (h : Inv s) (KK : ∀ s2, Inv s2 → ∃ h', jj_Go G (mL nm) 60 18 [some (.ref 1000001), some (.ref 0), some (.ref 28), some (.int (nI (i + 5)))] [] (jj_m s2) 0 0 (some (.int 1)) (h')) : ∃ h', jj_Go G (mL nm) 60 673 [some (.ref 1000001), some (.ref 0), some (.ref 28), some (.int (nI i))] [] (jj_m s) 0 0 (some (.int 1)) (h') := by
  obtain ⟨v, s1, s2, ⟨x, rfl⟩, E6, E7, hI⟩ := st_fixed (G := G) h ((jj_scr G).getD (i + 1) 0) ((jj_scr G).getD (i + 2) 0) ((jj_scr G).getD (i + 3) 0)
  obtain ⟨h', K⟩ := KK s2 hI
  refine ⟨h', ?_⟩
  refine jj_aload_n dL_law_673 rfl ?_
  refine jj_aload_n dL_law_674 rfl ?_
  refine jj_iload_n dL_law_675 rfl ?_
  refine jj_iconst (v := nI 1) dL_law_676 (by decide) ?_
  refine jj_iadd (v := nI (i + 1)) dL_law_677 (nI_add i 1) ?_
  refine jl_scr hl (by omega) dL_law_678 ?_
  refine jj_aload_n dL_law_679 rfl ?_
  refine jj_iload_n dL_law_680 rfl ?_
  refine jj_iconst (v := nI 2) dL_law_681 (by decide) ?_
  refine jj_iadd (v := nI (i + 2)) dL_law_682 (nI_add i 2) ?_
  refine jl_scr hl (by omega) dL_law_683 ?_
  refine jj_aload_n dL_law_684 rfl ?_
  refine jj_iload_n dL_law_685 rfl ?_
  refine jj_iconst (v := nI 3) dL_law_686 (by decide) ?_
  refine jj_iadd (v := nI (i + 3)) dL_law_687 (nI_add i 3) ?_
  refine jl_scr hl (by omega) dL_law_688 ?_
  refine jj_callV (M2 := m6_fixed) dL_law_689 mlL_96 tm6_fixed (E6) rfl rfl rfl rfl rfl (by decide) (Nat.le_of_ble_eq_true rfl) ?_
  refine jj_aload_n dL_law_692 rfl ?_
  refine jj_aload_n dL_law_693 rfl ?_
  refine jj_iload_n dL_law_694 rfl ?_
  refine jj_iconst (v := nI 1) dL_law_695 (by decide) ?_
  refine jj_iadd (v := nI (i + 1)) dL_law_696 (nI_add i 1) ?_
  refine jl_scr hl (by omega) dL_law_697 ?_
  refine jj_aload_n dL_law_698 rfl ?_
  refine jj_iload_n dL_law_699 rfl ?_
  refine jj_iconst (v := nI 2) dL_law_700 (by decide) ?_
  refine jj_iadd (v := nI (i + 2)) dL_law_701 (nI_add i 2) ?_
  refine jl_scr hl (by omega) dL_law_702 ?_
  refine jj_aload_n dL_law_703 rfl ?_
  refine jj_iload_n dL_law_704 rfl ?_
  refine jj_iconst (v := nI 3) dL_law_705 (by decide) ?_
  refine jj_iadd (v := nI (i + 3)) dL_law_706 (nI_add i 3) ?_
  refine jl_scr hl (by omega) dL_law_707 ?_
  refine jj_callV (M2 := m7_fixed) dL_law_708 mlL_100 tm7_fixed (E7) rfl rfl rfl rfl rfl (by decide) (Nat.le_of_ble_eq_true rfl) ?_
  refine jj_lcmp (v := 0) dL_law_711 (j2_c0 rfl) ?_
  refine jj_if_eq (tgt := 931) dL_law_712 (by decide) (fun _ => ?_) (fun zz => absurd rfl zz)
  refine jj_iinc dL_law_931 rfl (nI_add i 5) (Nat.le_of_ble_eq_true rfl) rfl ?_
  refine jj_goto (tgt := 18) dL_law_934 (by decide) ?_
  exact K
set_option maxRecDepth 100000 in
set_option maxHeartbeats 1000000 in
theorem lc_unlike {G : jj_G} {nm : String} {s : jj_S} {i : Nat} (hl : (jj_scr G).length ≤ 320) (hi : i + 5 ≤ (jj_scr G).length) (h : Inv s) (KK : ∀ s2, Inv s2 → ∃ h', jj_Go G (mL nm) 60 18 [some (.ref 1000001), some (.ref 0), some (.ref 28), some (.int (nI (i + 5)))] [] (jj_m s2) 0 0 (some (.int 1)) (h')) : ∃ h', jj_Go G (mL nm) 60 717 [some (.ref 1000001), some (.ref 0), some (.ref 28), some (.int (nI i))] [] (jj_m s) 0 0 (some (.int 1)) (h') := by
  obtain ⟨v, s1, s2, ⟨x, rfl⟩, E6, E7, hI⟩ := st_unlike (G := G) h ((jj_scr G).getD (i + 1) 0)
  obtain ⟨h', K⟩ := KK s2 hI
  refine ⟨h', ?_⟩
  refine jj_aload_n dL_law_717 rfl ?_
  refine jj_aload_n dL_law_718 rfl ?_
  refine jj_iload_n dL_law_719 rfl ?_
  refine jj_iconst (v := nI 1) dL_law_720 (by decide) ?_
  refine jj_iadd (v := nI (i + 1)) dL_law_721 (nI_add i 1) ?_
  refine jl_scr hl (by omega) dL_law_722 ?_
  refine jj_callV (M2 := m6_unlike) dL_law_723 mlL_101 tm6_unlike (E6) rfl rfl rfl rfl rfl (by decide) (Nat.le_of_ble_eq_true rfl) ?_
  refine jj_aload_n dL_law_726 rfl ?_
  refine jj_aload_n dL_law_727 rfl ?_
  refine jj_iload_n dL_law_728 rfl ?_
  refine jj_iconst (v := nI 1) dL_law_729 (by decide) ?_
  refine jj_iadd (v := nI (i + 1)) dL_law_730 (nI_add i 1) ?_
  refine jl_scr hl (by omega) dL_law_731 ?_
  refine jj_callV (M2 := m7_unlike) dL_law_732 mlL_105 tm7_unlike (E7) rfl rfl rfl rfl rfl (by decide) (Nat.le_of_ble_eq_true rfl) ?_
  refine jj_lcmp (v := 0) dL_law_735 (j2_c0 rfl) ?_
  refine jj_if_eq (tgt := 931) dL_law_736 (by decide) (fun _ => ?_) (fun zz => absurd rfl zz)
  refine jj_iinc dL_law_931 rfl (nI_add i 5) (Nat.le_of_ble_eq_true rfl) rfl ?_
  refine jj_goto (tgt := 18) dL_law_934 (by decide) ?_
  exact K
set_option maxRecDepth 100000 in
set_option maxHeartbeats 1000000 in
theorem lc_wardens {G : jj_G} {nm : String} {s : jj_S} {i : Nat} (hl : (jj_scr G).length ≤ 320) (hi : i + 5 ≤ (jj_scr G).length) (h : Inv s) (KK : ∀ s2, Inv s2 → ∃ h', jj_Go G (mL nm) 60 18 [some (.ref 1000001), some (.ref 0), some (.ref 28), some (.int (nI (i + 5)))] [] (jj_m s2) 0 0 (some (.int 1)) (h')) : ∃ h', jj_Go G (mL nm) 60 741 [some (.ref 1000001), some (.ref 0), some (.ref 28), some (.int (nI i))] [] (jj_m s) 0 0 (some (.int 1)) (h') := by
  obtain ⟨v, s1, s2, ⟨x, rfl⟩, E6, E7, hI⟩ := st_wardens (G := G) h ((jj_scr G).getD (i + 1) 0)
  obtain ⟨h', K⟩ := KK s2 hI
  refine ⟨h', ?_⟩
  refine jj_aload_n dL_law_741 rfl ?_
  refine jj_aload_n dL_law_742 rfl ?_
  refine jj_iload_n dL_law_743 rfl ?_
  refine jj_iconst (v := nI 1) dL_law_744 (by decide) ?_
  refine jj_iadd (v := nI (i + 1)) dL_law_745 (nI_add i 1) ?_
  refine jl_scr hl (by omega) dL_law_746 ?_
  refine jj_callV (M2 := m6_wardens) dL_law_747 mlL_106 tm6_wardens (E6) rfl rfl rfl rfl rfl (by decide) (Nat.le_of_ble_eq_true rfl) ?_
  refine jj_aload_n dL_law_750 rfl ?_
  refine jj_aload_n dL_law_751 rfl ?_
  refine jj_iload_n dL_law_752 rfl ?_
  refine jj_iconst (v := nI 1) dL_law_753 (by decide) ?_
  refine jj_iadd (v := nI (i + 1)) dL_law_754 (nI_add i 1) ?_
  refine jl_scr hl (by omega) dL_law_755 ?_
  refine jj_callV (M2 := m7_wardens) dL_law_756 mlL_109 tm7_wardens (E7) rfl rfl rfl rfl rfl (by decide) (Nat.le_of_ble_eq_true rfl) ?_
  refine jj_icmp_eq (tgt := 931) dL_law_759 (by decide) (fun _ => ?_) (fun zz => absurd rfl zz)
  refine jj_iinc dL_law_931 rfl (nI_add i 5) (Nat.le_of_ble_eq_true rfl) rfl ?_
  refine jj_goto (tgt := 18) dL_law_934 (by decide) ?_
  exact K
set_option maxRecDepth 100000 in
set_option maxHeartbeats 1000000 in
theorem lc_inside {G : jj_G} {nm : String} {s : jj_S} {i : Nat} (hl : (jj_scr G).length ≤ 320) (hi : i + 5 ≤ (jj_scr G).length) (h : Inv s) (KK : ∀ s2, Inv s2 → ∃ h', jj_Go G (mL nm) 60 18 [some (.ref 1000001), some (.ref 0), some (.ref 28), some (.int (nI (i + 5)))] [] (jj_m s2) 0 0 (some (.int 1)) (h')) : ∃ h', jj_Go G (mL nm) 60 764 [some (.ref 1000001), some (.ref 0), some (.ref 28), some (.int (nI i))] [] (jj_m s) 0 0 (some (.int 1)) (h') := by
  obtain ⟨v, s1, s2, ⟨x, rfl⟩, E6, E7, hI⟩ := st_inside (G := G) h ((jj_scr G).getD (i + 1) 0)
  obtain ⟨h', K⟩ := KK s2 hI
  refine ⟨h', ?_⟩
  refine jj_aload_n dL_law_764 rfl ?_
  refine jj_aload_n dL_law_765 rfl ?_
  refine jj_iload_n dL_law_766 rfl ?_
  refine jj_iconst (v := nI 1) dL_law_767 (by decide) ?_
  refine jj_iadd (v := nI (i + 1)) dL_law_768 (nI_add i 1) ?_
  refine jl_scr hl (by omega) dL_law_769 ?_
  refine jj_callV (M2 := m6_inside) dL_law_770 mlL_110 tm6_inside (E6) rfl rfl rfl rfl rfl (by decide) (Nat.le_of_ble_eq_true rfl) ?_
  refine jj_aload_n dL_law_773 rfl ?_
  refine jj_aload_n dL_law_774 rfl ?_
  refine jj_iload_n dL_law_775 rfl ?_
  refine jj_iconst (v := nI 1) dL_law_776 (by decide) ?_
  refine jj_iadd (v := nI (i + 1)) dL_law_777 (nI_add i 1) ?_
  refine jl_scr hl (by omega) dL_law_778 ?_
  refine jj_callV (M2 := m7_inside) dL_law_779 mlL_113 tm7_inside (E7) rfl rfl rfl rfl rfl (by decide) (Nat.le_of_ble_eq_true rfl) ?_
  refine jj_icmp_eq (tgt := 931) dL_law_782 (by decide) (fun _ => ?_) (fun zz => absurd rfl zz)
  refine jj_iinc dL_law_931 rfl (nI_add i 5) (Nat.le_of_ble_eq_true rfl) rfl ?_
  refine jj_goto (tgt := 18) dL_law_934 (by decide) ?_
  exact K
set_option maxRecDepth 100000 in
set_option maxHeartbeats 1000000 in
theorem lc_rounds {G : jj_G} {nm : String} {s : jj_S} {i : Nat} (hl : (jj_scr G).length ≤ 320) (hi : i + 5 ≤ (jj_scr G).length) (h : Inv s) (KK : ∀ s2, Inv s2 → ∃ h', jj_Go G (mL nm) 60 18 [some (.ref 1000001), some (.ref 0), some (.ref 28), some (.int (nI (i + 5)))] [] (jj_m s2) 0 0 (some (.int 1)) (h')) : ∃ h', jj_Go G (mL nm) 60 787 [some (.ref 1000001), some (.ref 0), some (.ref 28), some (.int (nI i))] [] (jj_m s) 0 0 (some (.int 1)) (h') := by
  obtain ⟨v, s1, s2, ⟨x, rfl⟩, E6, E7, hI⟩ := st_rounds (G := G) h ((jj_scr G).getD (i + 1) 0)
  obtain ⟨h', K⟩ := KK s2 hI
  refine ⟨h', ?_⟩
  refine jj_aload_n dL_law_787 rfl ?_
  refine jj_aload_n dL_law_788 rfl ?_
  refine jj_iload_n dL_law_789 rfl ?_
  refine jj_iconst (v := nI 1) dL_law_790 (by decide) ?_
  refine jj_iadd (v := nI (i + 1)) dL_law_791 (nI_add i 1) ?_
  refine jl_scr hl (by omega) dL_law_792 ?_
  refine jj_callV (M2 := m6_rounds) dL_law_793 mlL_114 tm6_rounds (E6) rfl rfl rfl rfl rfl (by decide) (Nat.le_of_ble_eq_true rfl) ?_
  refine jj_aload_n dL_law_796 rfl ?_
  refine jj_aload_n dL_law_797 rfl ?_
  refine jj_iload_n dL_law_798 rfl ?_
  refine jj_iconst (v := nI 1) dL_law_799 (by decide) ?_
  refine jj_iadd (v := nI (i + 1)) dL_law_800 (nI_add i 1) ?_
  refine jl_scr hl (by omega) dL_law_801 ?_
  refine jj_callV (M2 := m7_rounds) dL_law_802 mlL_117 tm7_rounds (E7) rfl rfl rfl rfl rfl (by decide) (Nat.le_of_ble_eq_true rfl) ?_
  refine jj_icmp_eq (tgt := 931) dL_law_805 (by decide) (fun _ => ?_) (fun zz => absurd rfl zz)
  refine jj_iinc dL_law_931 rfl (nI_add i 5) (Nat.le_of_ble_eq_true rfl) rfl ?_
  refine jj_goto (tgt := 18) dL_law_934 (by decide) ?_
  exact K
set_option maxRecDepth 100000 in
set_option maxHeartbeats 1000000 in
theorem lc_walks {G : jj_G} {nm : String} {s : jj_S} {i : Nat} (hl : (jj_scr G).length ≤ 320) (hi : i + 5 ≤ (jj_scr G).length) (h : Inv s) (KK : ∀ s2, Inv s2 → ∃ h', jj_Go G (mL nm) 60 18 [some (.ref 1000001), some (.ref 0), some (.ref 28), some (.int (nI (i + 5)))] [] (jj_m s2) 0 0 (some (.int 1)) (h')) : ∃ h', jj_Go G (mL nm) 60 810 [some (.ref 1000001), some (.ref 0), some (.ref 28), some (.int (nI i))] [] (jj_m s) 0 0 (some (.int 1)) (h') := by
  obtain ⟨v, s1, s2, ⟨x, rfl⟩, E6, E7, hI⟩ := st_walks (G := G) h ((jj_scr G).getD (i + 1) 0) ((jj_scr G).getD (i + 2) 0) ((jj_scr G).getD (i + 3) 0)
  obtain ⟨h', K⟩ := KK s2 hI
  refine ⟨h', ?_⟩
  refine jj_aload_n dL_law_810 rfl ?_
  refine jj_aload_n dL_law_811 rfl ?_
  refine jj_iload_n dL_law_812 rfl ?_
  refine jj_iconst (v := nI 1) dL_law_813 (by decide) ?_
  refine jj_iadd (v := nI (i + 1)) dL_law_814 (nI_add i 1) ?_
  refine jl_scr hl (by omega) dL_law_815 ?_
  refine jj_aload_n dL_law_816 rfl ?_
  refine jj_iload_n dL_law_817 rfl ?_
  refine jj_iconst (v := nI 2) dL_law_818 (by decide) ?_
  refine jj_iadd (v := nI (i + 2)) dL_law_819 (nI_add i 2) ?_
  refine jl_scr hl (by omega) dL_law_820 ?_
  refine jj_aload_n dL_law_821 rfl ?_
  refine jj_iload_n dL_law_822 rfl ?_
  refine jj_iconst (v := nI 3) dL_law_823 (by decide) ?_
  refine jj_iadd (v := nI (i + 3)) dL_law_824 (nI_add i 3) ?_
  refine jl_scr hl (by omega) dL_law_825 ?_
  refine jj_callV (M2 := m6_walks) dL_law_826 mlL_118 tm6_walks (E6) rfl rfl rfl rfl rfl (by decide) (Nat.le_of_ble_eq_true rfl) ?_
  refine jj_aload_n dL_law_829 rfl ?_
  refine jj_aload_n dL_law_830 rfl ?_
  refine jj_iload_n dL_law_831 rfl ?_
  refine jj_iconst (v := nI 1) dL_law_832 (by decide) ?_
  refine jj_iadd (v := nI (i + 1)) dL_law_833 (nI_add i 1) ?_
  refine jl_scr hl (by omega) dL_law_834 ?_
  refine jj_aload_n dL_law_835 rfl ?_
  refine jj_iload_n dL_law_836 rfl ?_
  refine jj_iconst (v := nI 2) dL_law_837 (by decide) ?_
  refine jj_iadd (v := nI (i + 2)) dL_law_838 (nI_add i 2) ?_
  refine jl_scr hl (by omega) dL_law_839 ?_
  refine jj_aload_n dL_law_840 rfl ?_
  refine jj_iload_n dL_law_841 rfl ?_
  refine jj_iconst (v := nI 3) dL_law_842 (by decide) ?_
  refine jj_iadd (v := nI (i + 3)) dL_law_843 (nI_add i 3) ?_
  refine jl_scr hl (by omega) dL_law_844 ?_
  refine jj_callV (M2 := m7_walks) dL_law_845 mlL_121 tm7_walks (E7) rfl rfl rfl rfl rfl (by decide) (Nat.le_of_ble_eq_true rfl) ?_
  refine jj_lcmp (v := 0) dL_law_848 (j2_c0 rfl) ?_
  refine jj_if_eq (tgt := 931) dL_law_849 (by decide) (fun _ => ?_) (fun zz => absurd rfl zz)
  refine jj_iinc dL_law_931 rfl (nI_add i 5) (Nat.le_of_ble_eq_true rfl) rfl ?_
  refine jj_goto (tgt := 18) dL_law_934 (by decide) ?_
  exact K
set_option maxRecDepth 100000 in
set_option maxHeartbeats 1000000 in
theorem lc_odds {G : jj_G} {nm : String} {s : jj_S} {i : Nat} (hl : (jj_scr G).length ≤ 320) (hi : i + 5 ≤ (jj_scr G).length) (h : Inv s) (KK : ∀ s2, Inv s2 → ∃ h', jj_Go G (mL nm) 60 18 [some (.ref 1000001), some (.ref 0), some (.ref 28), some (.int (nI (i + 5)))] [] (jj_m s2) 0 0 (some (.int 1)) (h')) : ∃ h', jj_Go G (mL nm) 60 854 [some (.ref 1000001), some (.ref 0), some (.ref 28), some (.int (nI i))] [] (jj_m s) 0 0 (some (.int 1)) (h') := by
  obtain ⟨v, s1, s2, ⟨x, rfl⟩, E6, E7, hI⟩ := st_odds (G := G) h ((jj_scr G).getD (i + 1) 0) ((jj_scr G).getD (i + 2) 0) ((jj_scr G).getD (i + 3) 0) ((jj_scr G).getD (i + 4) 0)
  obtain ⟨h', K⟩ := KK s2 hI
  refine ⟨h', ?_⟩
  refine jj_aload_n dL_law_854 rfl ?_
  refine jj_aload_n dL_law_855 rfl ?_
  refine jj_iload_n dL_law_856 rfl ?_
  refine jj_iconst (v := nI 1) dL_law_857 (by decide) ?_
  refine jj_iadd (v := nI (i + 1)) dL_law_858 (nI_add i 1) ?_
  refine jl_scr hl (by omega) dL_law_859 ?_
  refine jj_aload_n dL_law_860 rfl ?_
  refine jj_iload_n dL_law_861 rfl ?_
  refine jj_iconst (v := nI 2) dL_law_862 (by decide) ?_
  refine jj_iadd (v := nI (i + 2)) dL_law_863 (nI_add i 2) ?_
  refine jl_scr hl (by omega) dL_law_864 ?_
  refine jj_aload_n dL_law_865 rfl ?_
  refine jj_iload_n dL_law_866 rfl ?_
  refine jj_iconst (v := nI 3) dL_law_867 (by decide) ?_
  refine jj_iadd (v := nI (i + 3)) dL_law_868 (nI_add i 3) ?_
  refine jl_scr hl (by omega) dL_law_869 ?_
  refine jj_aload_n dL_law_870 rfl ?_
  refine jj_iload_n dL_law_871 rfl ?_
  refine jj_iconst (v := nI 4) dL_law_872 (by decide) ?_
  refine jj_iadd (v := nI (i + 4)) dL_law_873 (nI_add i 4) ?_
  refine jl_scr hl (by omega) dL_law_874 ?_
  refine jj_callV (M2 := m6_odds) dL_law_875 mlL_122 tm6_odds (E6) rfl rfl rfl rfl rfl (by decide) (Nat.le_of_ble_eq_true rfl) ?_
  refine jj_aload_n dL_law_878 rfl ?_
  refine jj_aload_n dL_law_879 rfl ?_
  refine jj_iload_n dL_law_880 rfl ?_
  refine jj_iconst (v := nI 1) dL_law_881 (by decide) ?_
  refine jj_iadd (v := nI (i + 1)) dL_law_882 (nI_add i 1) ?_
  refine jl_scr hl (by omega) dL_law_883 ?_
  refine jj_aload_n dL_law_884 rfl ?_
  refine jj_iload_n dL_law_885 rfl ?_
  refine jj_iconst (v := nI 2) dL_law_886 (by decide) ?_
  refine jj_iadd (v := nI (i + 2)) dL_law_887 (nI_add i 2) ?_
  refine jl_scr hl (by omega) dL_law_888 ?_
  refine jj_aload_n dL_law_889 rfl ?_
  refine jj_iload_n dL_law_890 rfl ?_
  refine jj_iconst (v := nI 3) dL_law_891 (by decide) ?_
  refine jj_iadd (v := nI (i + 3)) dL_law_892 (nI_add i 3) ?_
  refine jl_scr hl (by omega) dL_law_893 ?_
  refine jj_aload_n dL_law_894 rfl ?_
  refine jj_iload_n dL_law_895 rfl ?_
  refine jj_iconst (v := nI 4) dL_law_896 (by decide) ?_
  refine jj_iadd (v := nI (i + 4)) dL_law_897 (nI_add i 4) ?_
  refine jl_scr hl (by omega) dL_law_898 ?_
  refine jj_callV (M2 := m7_odds) dL_law_899 mlL_126 tm7_odds (E7) rfl rfl rfl rfl rfl (by decide) (Nat.le_of_ble_eq_true rfl) ?_
  refine jj_lcmp (v := 0) dL_law_902 (j2_c0 rfl) ?_
  refine jj_if_eq (tgt := 931) dL_law_903 (by decide) (fun _ => ?_) (fun zz => absurd rfl zz)
  refine jj_iinc dL_law_931 rfl (nI_add i 5) (Nat.le_of_ble_eq_true rfl) rfl ?_
  refine jj_goto (tgt := 18) dL_law_934 (by decide) ?_
  exact K
set_option maxRecDepth 100000 in
set_option maxHeartbeats 1000000 in
theorem lc_count {G : jj_G} {nm : String} {s : jj_S} {i : Nat} (hl : (jj_scr G).length ≤ 320) (hi : i + 5 ≤ (jj_scr G).length) (h : Inv s) (KK : ∀ s2, Inv s2 → ∃ h', jj_Go G (mL nm) 60 18 [some (.ref 1000001), some (.ref 0), some (.ref 28), some (.int (nI (i + 5)))] [] (jj_m s2) 0 0 (some (.int 1)) (h')) : ∃ h', jj_Go G (mL nm) 60 908 [some (.ref 1000001), some (.ref 0), some (.ref 28), some (.int (nI i))] [] (jj_m s) 0 0 (some (.int 1)) (h') := by
  obtain ⟨v, s1, s2, ⟨x, rfl⟩, E6, E7, hI⟩ := st_count (G := G) h ((jj_scr G).getD (i + 1) 0)
  obtain ⟨h', K⟩ := KK s2 hI
  refine ⟨h', ?_⟩
  refine jj_aload_n dL_law_908 rfl ?_
  refine jj_aload_n dL_law_909 rfl ?_
  refine jj_iload_n dL_law_910 rfl ?_
  refine jj_iconst (v := nI 1) dL_law_911 (by decide) ?_
  refine jj_iadd (v := nI (i + 1)) dL_law_912 (nI_add i 1) ?_
  refine jl_scr hl (by omega) dL_law_913 ?_
  refine jj_callV (M2 := m6_count) dL_law_914 mlL_127 tm6_count (E6) rfl rfl rfl rfl rfl (by decide) (Nat.le_of_ble_eq_true rfl) ?_
  refine jj_aload_n dL_law_917 rfl ?_
  refine jj_aload_n dL_law_918 rfl ?_
  refine jj_iload_n dL_law_919 rfl ?_
  refine jj_iconst (v := nI 1) dL_law_920 (by decide) ?_
  refine jj_iadd (v := nI (i + 1)) dL_law_921 (nI_add i 1) ?_
  refine jl_scr hl (by omega) dL_law_922 ?_
  refine jj_callV (M2 := m7_count) dL_law_923 mlL_130 tm7_count (E7) rfl rfl rfl rfl rfl (by decide) (Nat.le_of_ble_eq_true rfl) ?_
  refine jj_icmp_eq (tgt := 931) dL_law_926 (by decide) (fun _ => ?_) (fun zz => absurd rfl zz)
  refine jj_iinc dL_law_931 rfl (nI_add i 5) (Nat.le_of_ble_eq_true rfl) rfl ?_
  refine jj_goto (tgt := 18) dL_law_934 (by decide) ?_
  exact K
set_option maxRecDepth 100000 in
set_option maxHeartbeats 1000000 in
theorem law_head {G : jj_G} {nm : String} {s : jj_S} {i k : Nat} {h' : List jj_C} (hl : (jj_scr G).length ≤ 320) (hi : i + 5 ≤ (jj_scr G).length) (ek : (jj_scr G).getD i 0 &&& 31 = nI k) (K : jj_Go G (mL nm) 60 32 [some (.ref 1000001), some (.ref 0), some (.ref 28), some (.int (nI i))] [.int (nI k)] (jj_m s) 0 0 (some (.int 1)) (h')) : jj_Go G (mL nm) 60 18 [some (.ref 1000001), some (.ref 0), some (.ref 28), some (.int (nI i))] [] (jj_m s) 0 0 (some (.int 1)) (h') := by
  refine jj_iload_n dL_law_18 rfl ?_
  refine jj_aload_n dL_law_19 rfl ?_
  refine jj_scrlen (v := nI (jj_scr G).length) dL_law_20 rfl ?_
  refine jj_iconst (v := nI 5) dL_law_21 (by decide) ?_
  refine jj_isub dL_law_22 (pk_sub (a := (jj_scr G).length) (b := 5) (by omega)) ?_
  refine jj_icmp_gt (tgt := 937) dL_law_23 (by decide) (fun zz => absurd zz (nI_nlt (a := (jj_scr G).length - 5) (b := i) (by omega) (by omega))) (fun _ => ?_)
  refine jj_aload_n dL_law_26 rfl ?_
  refine jj_iload_n dL_law_27 rfl ?_
  refine jl_scr hl (by omega) dL_law_28 ?_
  refine jj_bipush (v := 31) dL_law_29 (by decide) ?_
  refine jj_iand dL_law_31 ek ?_
  exact K
set_option maxRecDepth 100000 in
set_option maxHeartbeats 1000000 in
theorem law_end {G : jj_G} {nm : String} {s : jj_S} {i : Nat} (hl : (jj_scr G).length ≤ 320) (hi2 : i ≤ (jj_scr G).length) (hi : ¬ i + 5 ≤ (jj_scr G).length) : jj_Go G (mL nm) 60 18 [some (.ref 1000001), some (.ref 0), some (.ref 28), some (.int (nI i))] [] (jj_m s) 0 0 (some (.int 1)) (jj_m s) := by
  have hgt : nI (jj_scr G).length - nI 5 < nI i := by
    rcases Nat.lt_or_ge (jj_scr G).length 5 with q | q
    · exact Int32.lt_of_lt_of_le (pk_sneg (a := (jj_scr G).length) (b := 5) (by decide) q) (nI_pos' (by omega))
    · rw [pk_sub (a := (jj_scr G).length) (b := 5) q]
      exact nI_lt (by omega) (by omega)
  refine jj_iload_n dL_law_18 rfl ?_
  refine jj_aload_n dL_law_19 rfl ?_
  refine jj_scrlen (v := nI (jj_scr G).length) dL_law_20 rfl ?_
  refine jj_iconst (v := nI 5) dL_law_21 (by decide) ?_
  refine jj_isub dL_law_22 rfl ?_
  refine jj_icmp_gt (tgt := 937) dL_law_23 (by decide) (fun _ => ?_) (fun zz => absurd hgt zz)
  refine jj_iconst (v := 1) dL_law_937 (by decide) ?_
  exact jj_leaf dL_law_938 rfl rfl
set_option maxRecDepth 100000 in
set_option maxHeartbeats 2000000 in
theorem law_step {G : jj_G} {nm : String} {s : jj_S} {i : Nat} (hl : (jj_scr G).length ≤ 320) (hi : i + 5 ≤ (jj_scr G).length) (h : Inv s) (KK : ∀ s2, Inv s2 → ∃ h', jj_Go G (mL nm) 60 18 [some (.ref 1000001), some (.ref 0), some (.ref 28), some (.int (nI (i + 5)))] [] (jj_m s2) 0 0 (some (.int 1)) (h')) : ∃ h', jj_Go G (mL nm) 60 18 [some (.ref 1000001), some (.ref 0), some (.ref 28), some (.int (nI i))] [] (jj_m s) 0 0 (some (.int 1)) (h') := by
  obtain ⟨k, hk, ek⟩ := pk_andE ((jj_scr G).getD i 0) (m := 31) 5 rfl
  have hk : k < 32 := hk
  by_cases h27 : 27 ≤ k
  · obtain ⟨h', K⟩ := KK s h
    refine ⟨h', law_head hl hi ek ?_⟩
    refine jj_swOut (tgt := 931) dL_law_32 (.inr (by rw [nI_toInt (by omega)]; omega)) (by decide) ?_
    refine jj_iinc dL_law_931 rfl (nI_add i 5) (Nat.le_of_ble_eq_true rfl) rfl ?_
    refine jj_goto (tgt := 18) dL_law_934 (by decide) ?_
    exact K
  · rcases (show k = 0 ∨ k = 1 ∨ k = 2 ∨ k = 3 ∨ k = 4 ∨ k = 5 ∨ k = 6 ∨ k = 7 ∨ k = 8 ∨ k = 9 ∨ k = 10 ∨ k = 11 ∨ k = 12 ∨ k = 13 ∨ k = 14 ∨ k = 15 ∨ k = 16 ∨ k = 17 ∨ k = 18 ∨ k = 19 ∨ k = 20 ∨ k = 21 ∨ k = 22 ∨ k = 23 ∨ k = 24 ∨ k = 25 ∨ k = 26 by omega) with q | q | q | q | q | q | q | q | q | q | q | q | q | q | q | q | q | q | q | q | q | q | q | q | q | q | q
    · subst q
      obtain ⟨h', K⟩ := lc_write (nm := nm) hl hi h KK
      refine ⟨h', law_head hl hi ek ?_⟩
      refine jj_swIn (tgt := 156) (off := 124) dL_law_32 (by decide) (by decide) (by decide) (by decide) ?_
      exact K
    · subst q
      obtain ⟨h', K⟩ := lc_erase (nm := nm) hl hi h KK
      refine ⟨h', law_head hl hi ek ?_⟩
      refine jj_swIn (tgt := 219) (off := 187) dL_law_32 (by decide) (by decide) (by decide) (by decide) ?_
      exact K
    · subst q
      obtain ⟨h', K⟩ := lc_fault (nm := nm) hl hi h KK
      refine ⟨h', law_head hl hi ek ?_⟩
      refine jj_swIn (tgt := 232) (off := 200) dL_law_32 (by decide) (by decide) (by decide) (by decide) ?_
      exact K
    · subst q
      obtain ⟨h', K⟩ := lc_town (nm := nm) hl hi h KK
      refine ⟨h', law_head hl hi ek ?_⟩
      refine jj_swIn (tgt := 245) (off := 213) dL_law_32 (by decide) (by decide) (by decide) (by decide) ?_
      exact K
    · subst q
      obtain ⟨h', K⟩ := lc_beside (nm := nm) hl hi h KK
      refine ⟨h', law_head hl hi ek ?_⟩
      refine jj_swIn (tgt := 258) (off := 226) dL_law_32 (by decide) (by decide) (by decide) (by decide) ?_
      exact K
    · subst q
      obtain ⟨h', K⟩ := lc_side (nm := nm) hl hi h KK
      refine ⟨h', law_head hl hi ek ?_⟩
      refine jj_swIn (tgt := 291) (off := 259) dL_law_32 (by decide) (by decide) (by decide) (by decide) ?_
      exact K
    · subst q
      obtain ⟨h', K⟩ := lc_far (nm := nm) hl hi h KK
      refine ⟨h', law_head hl hi ek ?_⟩
      refine jj_swIn (tgt := 324) (off := 292) dL_law_32 (by decide) (by decide) (by decide) (by decide) ?_
      exact K
    · subst q
      obtain ⟨h', K⟩ := lc_other (nm := nm) hl hi h KK
      refine ⟨h', law_head hl hi ek ?_⟩
      refine jj_swIn (tgt := 357) (off := 325) dL_law_32 (by decide) (by decide) (by decide) (by decide) ?_
      exact K
    · subst q
      obtain ⟨h', K⟩ := lc_goes (nm := nm) hl hi h KK
      refine ⟨h', law_head hl hi ek ?_⟩
      refine jj_swIn (tgt := 380) (off := 348) dL_law_32 (by decide) (by decide) (by decide) (by decide) ?_
      exact K
    · subst q
      obtain ⟨h', K⟩ := lc_field (nm := nm) hl hi h KK
      refine ⟨h', law_head hl hi ek ?_⟩
      refine jj_swIn (tgt := 423) (off := 391) dL_law_32 (by decide) (by decide) (by decide) (by decide) ?_
      exact K
    · subst q
      obtain ⟨h', K⟩ := lc_as (nm := nm) hl hi h KK
      refine ⟨h', law_head hl hi ek ?_⟩
      refine jj_swIn (tgt := 456) (off := 424) dL_law_32 (by decide) (by decide) (by decide) (by decide) ?_
      exact K
    · subst q
      obtain ⟨h', K⟩ := lc_rotate (nm := nm) hl hi h KK
      refine ⟨h', law_head hl hi ek ?_⟩
      refine jj_swIn (tgt := 489) (off := 457) dL_law_32 (by decide) (by decide) (by decide) (by decide) ?_
      exact K
    · subst q
      obtain ⟨h', K⟩ := lc_step (nm := nm) hl hi h KK
      refine ⟨h', law_head hl hi ek ?_⟩
      refine jj_swIn (tgt := 522) (off := 490) dL_law_32 (by decide) (by decide) (by decide) (by decide) ?_
      exact K
    · subst q
      obtain ⟨h', K⟩ := lc_walker (nm := nm) hl hi h KK
      refine ⟨h', law_head hl hi ek ?_⟩
      refine jj_swIn (tgt := 545) (off := 513) dL_law_32 (by decide) (by decide) (by decide) (by decide) ?_
      exact K
    · subst q
      obtain ⟨h', K⟩ := lc_keep (nm := nm) hl hi h KK
      refine ⟨h', law_head hl hi ek ?_⟩
      refine jj_swIn (tgt := 568) (off := 536) dL_law_32 (by decide) (by decide) (by decide) (by decide) ?_
      exact K
    · subst q
      obtain ⟨h', K⟩ := lc_back (nm := nm) hl hi h KK
      refine ⟨h', law_head hl hi ek ?_⟩
      refine jj_swIn (tgt := 591) (off := 559) dL_law_32 (by decide) (by decide) (by decide) (by decide) ?_
      exact K
    · subst q
      obtain ⟨h', K⟩ := lc_home (nm := nm) hl hi h KK
      refine ⟨h', law_head hl hi ek ?_⟩
      refine jj_swIn (tgt := 614) (off := 582) dL_law_32 (by decide) (by decide) (by decide) (by decide) ?_
      exact K
    · subst q
      obtain ⟨h', K⟩ := lc_alike (nm := nm) hl hi h KK
      refine ⟨h', law_head hl hi ek ?_⟩
      refine jj_swIn (tgt := 637) (off := 605) dL_law_32 (by decide) (by decide) (by decide) (by decide) ?_
      exact K
    · subst q
      obtain ⟨h', K⟩ := lc_like (nm := nm) hl hi h KK
      refine ⟨h', law_head hl hi ek ?_⟩
      refine jj_swIn (tgt := 650) (off := 618) dL_law_32 (by decide) (by decide) (by decide) (by decide) ?_
      exact K
    · subst q
      obtain ⟨h', K⟩ := lc_fixed (nm := nm) hl hi h KK
      refine ⟨h', law_head hl hi ek ?_⟩
      refine jj_swIn (tgt := 673) (off := 641) dL_law_32 (by decide) (by decide) (by decide) (by decide) ?_
      exact K
    · subst q
      obtain ⟨h', K⟩ := lc_unlike (nm := nm) hl hi h KK
      refine ⟨h', law_head hl hi ek ?_⟩
      refine jj_swIn (tgt := 717) (off := 685) dL_law_32 (by decide) (by decide) (by decide) (by decide) ?_
      exact K
    · subst q
      obtain ⟨h', K⟩ := lc_wardens (nm := nm) hl hi h KK
      refine ⟨h', law_head hl hi ek ?_⟩
      refine jj_swIn (tgt := 741) (off := 709) dL_law_32 (by decide) (by decide) (by decide) (by decide) ?_
      exact K
    · subst q
      obtain ⟨h', K⟩ := lc_inside (nm := nm) hl hi h KK
      refine ⟨h', law_head hl hi ek ?_⟩
      refine jj_swIn (tgt := 764) (off := 732) dL_law_32 (by decide) (by decide) (by decide) (by decide) ?_
      exact K
    · subst q
      obtain ⟨h', K⟩ := lc_rounds (nm := nm) hl hi h KK
      refine ⟨h', law_head hl hi ek ?_⟩
      refine jj_swIn (tgt := 787) (off := 755) dL_law_32 (by decide) (by decide) (by decide) (by decide) ?_
      exact K
    · subst q
      obtain ⟨h', K⟩ := lc_walks (nm := nm) hl hi h KK
      refine ⟨h', law_head hl hi ek ?_⟩
      refine jj_swIn (tgt := 810) (off := 778) dL_law_32 (by decide) (by decide) (by decide) (by decide) ?_
      exact K
    · subst q
      obtain ⟨h', K⟩ := lc_odds (nm := nm) hl hi h KK
      refine ⟨h', law_head hl hi ek ?_⟩
      refine jj_swIn (tgt := 854) (off := 822) dL_law_32 (by decide) (by decide) (by decide) (by decide) ?_
      exact K
    · subst q
      obtain ⟨h', K⟩ := lc_count (nm := nm) hl hi h KK
      refine ⟨h', law_head hl hi ek ?_⟩
      refine jj_swIn (tgt := 908) (off := 876) dL_law_32 (by decide) (by decide) (by decide) (by decide) ?_
      exact K
theorem law_loop {G : jj_G} {nm : String} (hl : (jj_scr G).length ≤ 320) : ∀ n i s, (jj_scr G).length - i ≤ n → i ≤ (jj_scr G).length → Inv s → ∃ h', jj_Go G (mL nm) 60 18 [some (.ref 1000001), some (.ref 0), some (.ref 28), some (.int (nI i))] [] (jj_m s) 0 0 (some (.int 1)) (h') := by
  intro n
  induction n with
  | zero =>
    intro i s h1 h2 h
    exact ⟨_, law_end hl h2 (by omega)⟩
  | succ n ih =>
    intro i s h1 h2 h
    by_cases hi : i + 5 ≤ (jj_scr G).length
    · exact law_step hl hi h (fun s2 hI => ih (i + 5) s2 (by omega) hi hI)
    · exact ⟨_, law_end hl h2 hi⟩
theorem Inv_0 {go ah op ba : Nat → Int32} (hg : ∀ t, t < 60 → ∀ f, f < 12 → go (t * 12 + f) = nI (j7_g t f) ∧ j7_g t f < 12) (ho : ∀ f, f < 12 → op f = nI (j7_o wl_0 f) ∧ j7_o wl_0 f < 4096) (hb : ∀ f, f < 12 → ∀ t, t < 5 → ba (5 * f + t) = nI (jb_s f t)) : Inv (mo_ballS (j6_I go ah op) ba) := by
  refine ⟨⟨0, Nat.zero_le _, rfl, rfl, rfl⟩, fun f _ => ⟨0, by decide, rfl, rfl⟩, fun f _ => ⟨0, by decide, rfl, rfl⟩, ⟨0, 0, 0, by decide, by decide, by decide, rfl, rfl, rfl, rfl, rfl, rfl⟩, ⟨0, 0, by decide, by decide, rfl, rfl, rfl, rfl, rfl⟩, .inl ⟨rfl, rfl⟩, .inl ⟨rfl, rfl⟩, ⟨hb, hg⟩, ⟨wl_0, fun f _ t _ => rfl, ho, wl_0_sym, .inl rfl, .inl rfl⟩⟩
set_option maxRecDepth 100000 in
set_option maxHeartbeats 2000000 in
theorem law_start {G : jj_G} {nm : String} (hl : (jj_scr G).length ≤ 320) : ∃ h', jj_Go G (mL nm) 60 0 [some (.ref 1000001), none, none, none] [] [] 43 1688 (some (.int 1)) h' := by
  have hI : Inv (mo_ballS (j6_I (lgG 60) (lgA 60) (jF (fun f => nI (jb_al f)) jz0 12)) (lbB jz0 12)) := Inv_0 (fun t ht f hf => by
    refine ⟨?_, j7_g_lt ht hf⟩
    rw [Nat.mul_comm t 12, jg_e ht]
    exact lgG_at 60 t ht f hf) (fun f hf => by
    refine ⟨?_, j7_o_lt wl_0 hf⟩
    rw [jF_in hf, wl_0_o f hf]) (fun f hf t ht => lbB_at jz0 12 f hf t ht)
  obtain ⟨h', K⟩ := law_loop (nm := nm) hl (jj_scr G).length 0 _ (by omega) (Nat.zero_le _) hI
  refine ⟨h', ?_⟩
  refine jj_new (N := 8) dL_law_0 nwL_7 rfl (Nat.le_of_ble_eq_true rfl) ?_
  refine jj_dup dL_law_3 rfl ?_
  refine jj_eq (hh := [.inl (5, [.null, .null, .null, .null, .null, .null, .null, .null])]) rfl rfl rfl rfl ?_
  refine jj_callIa (kc2 := 27) (ks2 := 1169) (kc := 15) (ks := 511) (M2 := m6_init) dL_law_4 mlL_9 tm6_init (ev6_init) rfl rfl (by decide) (Nat.le_of_ble_eq_true rfl) ?_
  refine jj_astore_n dL_law_7 rfl (Nat.le_of_ble_eq_true rfl) rfl ?_
  refine jj_eq (hh := hp28 (lgG 60) (lgA 60) (jF (fun f => nI (jb_al f)) jz0 12)) rfl rfl rfl hp28_e ?_
  refine jj_new (N := 27) dL_law_8 nwL_10 rfl (Nat.le_of_ble_eq_true rfl) ?_
  refine jj_dup dL_law_11 rfl ?_
  refine jj_eq (st' := [.ref 28, .ref 28]) (hh := hp28 (lgG 60) (lgA 60) (jF (fun f => nI (jb_al f)) jz0 12) ++ [.inl (6, [.null, .null, .null, .null, .int 0, .int 0, .int 0, .int 0, .int 0, .int 0, .null, .int 0, .int 0, .long 0, .int 0, .int 0, .int 0, .int 0, .null, .null, .null, .null, .null, .null, .null, .null, .null])]) rfl rfl rfl rfl ?_
  refine jj_callIa (kc2 := 14) (ks2 := 484) (kc := 0) (ks := 0) (M2 := m7_init) dL_law_12 mlL_12 tm7_init (ev7_init) rfl rfl (by decide) (Nat.le_of_ble_eq_true rfl) ?_
  refine jj_astore_n dL_law_15 rfl (Nat.le_of_ble_eq_true rfl) rfl ?_
  refine jj_iconst (v := nI 0) dL_law_16 (by decide) ?_
  refine jj_istore_n dL_law_17 rfl (Nat.le_of_ble_eq_true rfl) rfl ?_
  exact K
