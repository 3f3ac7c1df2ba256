/-! THE LAW: its cases -/
set_option maxHeartbeats 4000000 in
set_option maxRecDepth 100000 in
/-- append -/
theorem law_0 {z : ZG} {nm : String} {Q : ZQ} {i kc nc : Nat} {h : AH} (hi : i + 2 < zN z) (hN : zN z ≤ 3) (hkn : kc ≤ 600000 ∧ nc ≤ 7302250) (kk : ∀ (h : AH) (sz : Nat), V z (YL nm) room_1 Q 826 [some (.retAddr (zX z)), some (.ref 0), some (.ref 114), some (.int (I (i : Int)))] [] h sz kc nc) (hE : ENN h) (hM : MN h h) : V z (YL nm) room_1 Q 176 [some (.retAddr (zX z)), some (.ref 0), some (.ref 114), some (.int (I (i : Int)))] [] h 122 kc nc := by
  obtain ⟨c1, hc1, e1⟩ := I_of (zF z (i + 1))
  obtain ⟨c2, hc2, e2⟩ := I_of (zF z (i + 2))
  refine V_aload_n dL_law_176 rfl ?_
  refine V_aload_nS dL_law_177 rfl ?_
  refine V_iload_n dL_law_178 rfl ?_
  refine J_iconst dL_law_179 ?_
  refine J_iadd dL_law_180 ?_
  refine V_top (b := ((i + 1 : Nat) : Int)) (by omega) ?_
  refine V_sld (k := i + 1) (by omega) (by omega) dL_law_181 ?_
  rw [e1]
  refine V_callVR (Y' := YX7_append) dL_law_182 lL_13 gX7_append (q7_append (d := 0) hE hc1) hE.1 rfl rfl rfl (Nat.le_of_ble_eq_true rfl) (Nat.le_of_ble_eq_true rfl) (Nat.le_of_ble_eq_true rfl) ⟨by show kc + 0 ≤ 600000; omega, by show nc + 0 ≤ 7302250; omega⟩ (fun v h1 sz1 hq => ?_)
  obtain ⟨rfl, hf, rfl⟩ := hq
  have hM : MN h1 h1 := MS.re (h2 := h1) hM (fun x hx => hf x (by omega))
  refine V_aload_n dL_law_185 rfl ?_
  refine V_aload_nS dL_law_186 rfl ?_
  refine V_iload_n dL_law_187 rfl ?_
  refine J_iconst dL_law_188 ?_
  refine J_iadd dL_law_189 ?_
  refine V_top (b := ((i + 1 : Nat) : Int)) (by omega) ?_
  refine V_sld (k := i + 1) (by omega) (by omega) dL_law_190 ?_
  rw [e1]
  refine V_callVR (Y' := YX8_append) dL_law_191 lL_17 gX8_append (q8_append (d := 0) hM hc1) hM.1 rfl rfl rfl (Nat.le_of_ble_eq_true rfl) (Nat.le_of_ble_eq_true rfl) (Nat.le_of_ble_eq_true rfl) ⟨by show kc + 0 ≤ 600000; omega, by show nc + 0 ≤ 7302250; omega⟩ (fun v h2 sz2 hq => ?_)
  subst hq
  exact V_icmp_eq (tgt := 826) dL_law_194 (by decide) (fun _ => kk _ _) (fun c => absurd rfl c)
set_option maxHeartbeats 4000000 in
set_option maxRecDepth 100000 in
/-- clearText -/
theorem law_1 {z : ZG} {nm : String} {Q : ZQ} {i kc nc : Nat} {h : AH} (hi : i + 2 < zN z) (hN : zN z ≤ 3) (hkn : kc ≤ 600000 ∧ nc ≤ 7302250) (kk : ∀ (h : AH) (sz : Nat), V z (YL nm) room_1 Q 826 [some (.retAddr (zX z)), some (.ref 0), some (.ref 114), some (.int (I (i : Int)))] [] h sz kc nc) (hE : ENN h) (hM : MN h h) : V z (YL nm) room_1 Q 199 [some (.retAddr (zX z)), some (.ref 0), some (.ref 114), some (.int (I (i : Int)))] [] h 122 kc nc := by
  obtain ⟨c1, hc1, e1⟩ := I_of (zF z (i + 1))
  obtain ⟨c2, hc2, e2⟩ := I_of (zF z (i + 2))
  refine V_aload_n dL_law_199 rfl ?_
  refine V_callVR (Y' := YX7_clearText) dL_law_200 lL_18 gX7_clearText (q7_clearText (d := 0) hE ) hE.1 rfl rfl rfl (Nat.le_of_ble_eq_true rfl) (Nat.le_of_ble_eq_true rfl) (Nat.le_of_ble_eq_true rfl) ⟨by show kc + 0 ≤ 600000; omega, by show nc + 0 ≤ 7302250; omega⟩ (fun v h1 sz1 hq => ?_)
  obtain ⟨rfl, hf, rfl⟩ := hq
  have hM : MN h1 h1 := MS.re (h2 := h1) hM (fun x hx => hf x (by omega))
  refine V_aload_n dL_law_203 rfl ?_
  refine V_callVR (Y' := YX8_clearText) dL_law_204 lL_22 gX8_clearText (q8_clearText (d := 0) hM ) hM.1 rfl rfl rfl (Nat.le_of_ble_eq_true rfl) (Nat.le_of_ble_eq_true rfl) (Nat.le_of_ble_eq_true rfl) ⟨by show kc + 0 ≤ 600000; omega, by show nc + 0 ≤ 7302250; omega⟩ (fun v h2 sz2 hq => ?_)
  subst hq
  exact V_icmp_eq (tgt := 826) dL_law_207 (by decide) (fun _ => kk _ _) (fun c => absurd rfl c)
set_option maxHeartbeats 4000000 in
set_option maxRecDepth 100000 in
/-- firstError -/
theorem law_2 {z : ZG} {nm : String} {Q : ZQ} {i kc nc : Nat} {h : AH} (hi : i + 2 < zN z) (hN : zN z ≤ 3) (hkn : kc ≤ 600000 ∧ nc ≤ 7302250) (kk : ∀ (h : AH) (sz : Nat), V z (YL nm) room_1 Q 826 [some (.retAddr (zX z)), some (.ref 0), some (.ref 114), some (.int (I (i : Int)))] [] h sz kc nc) (hE : ENN h) (hM : MN h h) : V z (YL nm) room_1 Q 212 [some (.retAddr (zX z)), some (.ref 0), some (.ref 114), some (.int (I (i : Int)))] [] h 122 kc nc := by
  obtain ⟨c1, hc1, e1⟩ := I_of (zF z (i + 1))
  obtain ⟨c2, hc2, e2⟩ := I_of (zF z (i + 2))
  refine V_aload_n dL_law_212 rfl ?_
  refine V_callVR (Y' := YX7_firstError) dL_law_213 lL_23 gX7_firstError (q7_firstError (d := 0) hE ) hE.1 rfl rfl rfl (Nat.le_of_ble_eq_true rfl) (Nat.le_of_ble_eq_true rfl) (Nat.le_of_ble_eq_true rfl) ⟨by show kc + 0 ≤ 600000; omega, by show nc + 0 ≤ 7302250; omega⟩ (fun v h1 sz1 hq => ?_)
  obtain ⟨rfl, hf, rfl⟩ := hq
  have hM : MN h1 h1 := MS.re (h2 := h1) hM (fun x hx => hf x (by omega))
  refine V_aload_n dL_law_216 rfl ?_
  refine V_callVR (Y' := YX8_firstError) dL_law_217 lL_26 gX8_firstError (q8_firstError (d := 0) hM ) hM.1 rfl rfl rfl (Nat.le_of_ble_eq_true rfl) (Nat.le_of_ble_eq_true rfl) (Nat.le_of_ble_eq_true rfl) ⟨by show kc + 0 ≤ 600000; omega, by show nc + 0 ≤ 7302250; omega⟩ (fun v h2 sz2 hq => ?_)
  subst hq
  exact V_icmp_eq (tgt := 826) dL_law_220 (by decide) (fun _ => kk _ _) (fun c => absurd rfl c)
set_option maxHeartbeats 4000000 in
set_option maxRecDepth 100000 in
/-- configure -/
theorem law_3 {z : ZG} {nm : String} {Q : ZQ} {i kc nc : Nat} {h : AH} (hi : i + 2 < zN z) (hN : zN z ≤ 3) (hkn : kc ≤ 600000 ∧ nc ≤ 7302250) (kk : ∀ (h : AH) (sz : Nat), V z (YL nm) room_1 Q 826 [some (.retAddr (zX z)), some (.ref 0), some (.ref 114), some (.int (I (i : Int)))] [] h sz kc nc) (hE : ENN h) (hM : MN h h) : V z (YL nm) room_1 Q 225 [some (.retAddr (zX z)), some (.ref 0), some (.ref 114), some (.int (I (i : Int)))] [] h 122 kc nc := by
  obtain ⟨c1, hc1, e1⟩ := I_of (zF z (i + 1))
  obtain ⟨c2, hc2, e2⟩ := I_of (zF z (i + 2))
  refine V_aload_n dL_law_225 rfl ?_
  refine V_callVR (Y' := YX7_configure) dL_law_226 lL_27 gX7_configure (q7_configure (d := 0) hE ) hE.1 rfl rfl rfl (Nat.le_of_ble_eq_true rfl) (Nat.le_of_ble_eq_true rfl) (Nat.le_of_ble_eq_true rfl) ⟨by show kc + 0 ≤ 600000; omega, by show nc + 0 ≤ 7302250; omega⟩ (fun v h1 sz1 hq => ?_)
  obtain ⟨rfl, hf, rfl⟩ := hq
  have hM : MN h1 h1 := MS.re (h2 := h1) hM (fun x hx => hf x (by omega))
  refine V_aload_n dL_law_229 rfl ?_
  refine V_callVR (Y' := YX8_configure) dL_law_230 lL_30 gX8_configure (q8_configure (d := 0) hM ) hM.1 rfl rfl rfl (Nat.le_of_ble_eq_true rfl) (Nat.le_of_ble_eq_true rfl) (Nat.le_of_ble_eq_true rfl) ⟨by show kc + 0 ≤ 600000; omega, by show nc + 0 ≤ 7302250; omega⟩ (fun v h2 sz2 hq => ?_)
  subst hq
  exact V_icmp_eq (tgt := 826) dL_law_233 (by decide) (fun _ => kk _ _) (fun c => absurd rfl c)
set_option maxHeartbeats 4000000 in
set_option maxRecDepth 100000 in
/-- moveTo -/
theorem law_4 {z : ZG} {nm : String} {Q : ZQ} {i kc nc : Nat} {h : AH} (hi : i + 2 < zN z) (hN : zN z ≤ 3) (hkn : kc ≤ 600000 ∧ nc ≤ 7302250) (kk : ∀ (h : AH) (sz : Nat), V z (YL nm) room_1 Q 826 [some (.retAddr (zX z)), some (.ref 0), some (.ref 114), some (.int (I (i : Int)))] [] h sz kc nc) (hE : ENN h) (hM : MN h h) : V z (YL nm) room_1 Q 238 [some (.retAddr (zX z)), some (.ref 0), some (.ref 114), some (.int (I (i : Int)))] [] h 122 kc nc := by
  obtain ⟨c1, hc1, e1⟩ := I_of (zF z (i + 1))
  obtain ⟨c2, hc2, e2⟩ := I_of (zF z (i + 2))
  refine V_aload_n dL_law_238 rfl ?_
  refine V_aload_nS dL_law_239 rfl ?_
  refine V_iload_n dL_law_240 rfl ?_
  refine J_iconst dL_law_241 ?_
  refine J_iadd dL_law_242 ?_
  refine V_top (b := ((i + 1 : Nat) : Int)) (by omega) ?_
  refine V_sld (k := i + 1) (by omega) (by omega) dL_law_243 ?_
  rw [e1]
  refine V_aload_nS dL_law_244 rfl ?_
  refine V_iload_n dL_law_245 rfl ?_
  refine J_iconst dL_law_246 ?_
  refine J_iadd dL_law_247 ?_
  refine V_top (b := ((i + 2 : Nat) : Int)) (by omega) ?_
  refine V_sld (k := i + 2) (by omega) (by omega) dL_law_248 ?_
  rw [e2]
  refine V_callVR (Y' := YX7_moveTo) dL_law_249 lL_31 gX7_moveTo (q7_moveTo (d := 0) hE hc1 hc2) hE.1 rfl rfl rfl (Nat.le_of_ble_eq_true rfl) (Nat.le_of_ble_eq_true rfl) (Nat.le_of_ble_eq_true rfl) ⟨by show kc + 0 ≤ 600000; omega, by show nc + 0 ≤ 7302250; omega⟩ (fun v h1 sz1 hq => ?_)
  obtain ⟨rfl, hf, rfl⟩ := hq
  have hM : MN h1 h1 := MS.re (h2 := h1) hM (fun x hx => hf x (by omega))
  refine V_aload_n dL_law_252 rfl ?_
  refine V_aload_nS dL_law_253 rfl ?_
  refine V_iload_n dL_law_254 rfl ?_
  refine J_iconst dL_law_255 ?_
  refine J_iadd dL_law_256 ?_
  refine V_top (b := ((i + 1 : Nat) : Int)) (by omega) ?_
  refine V_sld (k := i + 1) (by omega) (by omega) dL_law_257 ?_
  rw [e1]
  refine V_aload_nS dL_law_258 rfl ?_
  refine V_iload_n dL_law_259 rfl ?_
  refine J_iconst dL_law_260 ?_
  refine J_iadd dL_law_261 ?_
  refine V_top (b := ((i + 2 : Nat) : Int)) (by omega) ?_
  refine V_sld (k := i + 2) (by omega) (by omega) dL_law_262 ?_
  rw [e2]
  refine V_callVR (Y' := YX8_moveTo) dL_law_263 lL_35 gX8_moveTo (q8_moveTo (d := 0) hM hc1 hc2) hM.1 rfl rfl rfl (Nat.le_of_ble_eq_true rfl) (Nat.le_of_ble_eq_true rfl) (Nat.le_of_ble_eq_true rfl) ⟨by show kc + 0 ≤ 600000; omega, by show nc + 0 ≤ 7302250; omega⟩ (fun v h2 sz2 hq => ?_)
  subst hq
  exact V_icmp_eq (tgt := 826) dL_law_266 (by decide) (fun _ => kk _ _) (fun c => absurd rfl c)
set_option maxHeartbeats 4000000 in
set_option maxRecDepth 100000 in
/-- setMode -/
theorem law_5 {z : ZG} {nm : String} {Q : ZQ} {i kc nc : Nat} {h : AH} (hi : i + 2 < zN z) (hN : zN z ≤ 3) (hkn : kc ≤ 600000 ∧ nc ≤ 7302250) (kk : ∀ (h : AH) (sz : Nat), V z (YL nm) room_1 Q 826 [some (.retAddr (zX z)), some (.ref 0), some (.ref 114), some (.int (I (i : Int)))] [] h sz kc nc) (hE : ENN h) (hM : MN h h) : V z (YL nm) room_1 Q 271 [some (.retAddr (zX z)), some (.ref 0), some (.ref 114), some (.int (I (i : Int)))] [] h 122 kc nc := by
  obtain ⟨c1, hc1, e1⟩ := I_of (zF z (i + 1))
  obtain ⟨c2, hc2, e2⟩ := I_of (zF z (i + 2))
  refine V_aload_n dL_law_271 rfl ?_
  refine V_aload_nS dL_law_272 rfl ?_
  refine V_iload_n dL_law_273 rfl ?_
  refine J_iconst dL_law_274 ?_
  refine J_iadd dL_law_275 ?_
  refine V_top (b := ((i + 1 : Nat) : Int)) (by omega) ?_
  refine V_sld (k := i + 1) (by omega) (by omega) dL_law_276 ?_
  rw [e1]
  refine V_callVR (Y' := YX7_setMode) dL_law_277 lL_36 gX7_setMode (q7_setMode (d := 0) hE hc1) hE.1 rfl rfl rfl (Nat.le_of_ble_eq_true rfl) (Nat.le_of_ble_eq_true rfl) (Nat.le_of_ble_eq_true rfl) ⟨by show kc + 0 ≤ 600000; omega, by show nc + 0 ≤ 7302250; omega⟩ (fun v h1 sz1 hq => ?_)
  obtain ⟨rfl, hf, rfl⟩ := hq
  have hM : MN h1 h1 := MS.re (h2 := h1) hM (fun x hx => hf x (by omega))
  refine V_aload_n dL_law_280 rfl ?_
  refine V_aload_nS dL_law_281 rfl ?_
  refine V_iload_n dL_law_282 rfl ?_
  refine J_iconst dL_law_283 ?_
  refine J_iadd dL_law_284 ?_
  refine V_top (b := ((i + 1 : Nat) : Int)) (by omega) ?_
  refine V_sld (k := i + 1) (by omega) (by omega) dL_law_285 ?_
  rw [e1]
  refine V_callVR (Y' := YX8_setMode) dL_law_286 lL_39 gX8_setMode (q8_setMode (d := 0) hM hc1) hM.1 rfl rfl rfl (Nat.le_of_ble_eq_true rfl) (Nat.le_of_ble_eq_true rfl) (Nat.le_of_ble_eq_true rfl) ⟨by show kc + 0 ≤ 600000; omega, by show nc + 0 ≤ 7302250; omega⟩ (fun v h2 sz2 hq => ?_)
  subst hq
  exact V_icmp_eq (tgt := 826) dL_law_289 (by decide) (fun _ => kk _ _) (fun c => absurd rfl c)
set_option maxHeartbeats 4000000 in
set_option maxRecDepth 100000 in
/-- setIndexGrating -/
theorem law_6 {z : ZG} {nm : String} {Q : ZQ} {i kc nc : Nat} {h : AH} (hi : i + 2 < zN z) (hN : zN z ≤ 3) (hkn : kc ≤ 600000 ∧ nc ≤ 7302250) (kk : ∀ (h : AH) (sz : Nat), V z (YL nm) room_1 Q 826 [some (.retAddr (zX z)), some (.ref 0), some (.ref 114), some (.int (I (i : Int)))] [] h sz kc nc) (hE : ENN h) (hM : MN h h) : V z (YL nm) room_1 Q 294 [some (.retAddr (zX z)), some (.ref 0), some (.ref 114), some (.int (I (i : Int)))] [] h 122 kc nc := by
  obtain ⟨c1, hc1, e1⟩ := I_of (zF z (i + 1))
  obtain ⟨c2, hc2, e2⟩ := I_of (zF z (i + 2))
  refine V_aload_n dL_law_294 rfl ?_
  refine V_aload_nS dL_law_295 rfl ?_
  refine V_iload_n dL_law_296 rfl ?_
  refine J_iconst dL_law_297 ?_
  refine J_iadd dL_law_298 ?_
  refine V_top (b := ((i + 1 : Nat) : Int)) (by omega) ?_
  refine V_sld (k := i + 1) (by omega) (by omega) dL_law_299 ?_
  rw [e1]
  refine V_aload_nS dL_law_300 rfl ?_
  refine V_iload_n dL_law_301 rfl ?_
  refine J_iconst dL_law_302 ?_
  refine J_iadd dL_law_303 ?_
  refine V_top (b := ((i + 2 : Nat) : Int)) (by omega) ?_
  refine V_sld (k := i + 2) (by omega) (by omega) dL_law_304 ?_
  rw [e2]
  refine V_callVR (Y' := YX7_setIndexGrating) dL_law_305 lL_40 gX7_setIndexGrating (q7_setIndexGrating (d := 0) hE hc1 hc2) hE.1 rfl rfl rfl (Nat.le_of_ble_eq_true rfl) (Nat.le_of_ble_eq_true rfl) (Nat.le_of_ble_eq_true rfl) ⟨by show kc + 0 ≤ 600000; omega, by show nc + 0 ≤ 7302250; omega⟩ (fun v h1 sz1 hq => ?_)
  obtain ⟨rfl, hf, rfl⟩ := hq
  have hM : MN h1 h1 := MS.re (h2 := h1) hM (fun x hx => hf x (by omega))
  refine V_aload_n dL_law_308 rfl ?_
  refine V_aload_nS dL_law_309 rfl ?_
  refine V_iload_n dL_law_310 rfl ?_
  refine J_iconst dL_law_311 ?_
  refine J_iadd dL_law_312 ?_
  refine V_top (b := ((i + 1 : Nat) : Int)) (by omega) ?_
  refine V_sld (k := i + 1) (by omega) (by omega) dL_law_313 ?_
  rw [e1]
  refine V_aload_nS dL_law_314 rfl ?_
  refine V_iload_n dL_law_315 rfl ?_
  refine J_iconst dL_law_316 ?_
  refine J_iadd dL_law_317 ?_
  refine V_top (b := ((i + 2 : Nat) : Int)) (by omega) ?_
  refine V_sld (k := i + 2) (by omega) (by omega) dL_law_318 ?_
  rw [e2]
  refine V_callVR (Y' := YX8_setIndexGrating) dL_law_319 lL_43 gX8_setIndexGrating (q8_setIndexGrating (d := 0) hM hc1 hc2) hM.1 rfl rfl rfl (Nat.le_of_ble_eq_true rfl) (Nat.le_of_ble_eq_true rfl) (Nat.le_of_ble_eq_true rfl) ⟨by show kc + 0 ≤ 600000; omega, by show nc + 0 ≤ 7302250; omega⟩ (fun v h2 sz2 hq => ?_)
  subst hq
  exact V_icmp_eq (tgt := 826) dL_law_322 (by decide) (fun _ => kk _ _) (fun c => absurd rfl c)
set_option maxHeartbeats 4000000 in
set_option maxRecDepth 100000 in
/-- addDirt -/
theorem law_7 {z : ZG} {nm : String} {Q : ZQ} {i kc nc : Nat} {h : AH} (hi : i + 2 < zN z) (hN : zN z ≤ 3) (hkn : kc ≤ 600000 ∧ nc ≤ 7302250) (kk : ∀ (h : AH) (sz : Nat), V z (YL nm) room_1 Q 826 [some (.retAddr (zX z)), some (.ref 0), some (.ref 114), some (.int (I (i : Int)))] [] h sz kc nc) (hE : ENN h) (hM : MN h h) : V z (YL nm) room_1 Q 327 [some (.retAddr (zX z)), some (.ref 0), some (.ref 114), some (.int (I (i : Int)))] [] h 122 kc nc := by
  obtain ⟨c1, hc1, e1⟩ := I_of (zF z (i + 1))
  obtain ⟨c2, hc2, e2⟩ := I_of (zF z (i + 2))
  refine V_aload_n dL_law_327 rfl ?_
  refine V_aload_nS dL_law_328 rfl ?_
  refine V_iload_n dL_law_329 rfl ?_
  refine J_iconst dL_law_330 ?_
  refine J_iadd dL_law_331 ?_
  refine V_top (b := ((i + 1 : Nat) : Int)) (by omega) ?_
  refine V_sld (k := i + 1) (by omega) (by omega) dL_law_332 ?_
  rw [e1]
  refine V_aload_nS dL_law_333 rfl ?_
  refine V_iload_n dL_law_334 rfl ?_
  refine J_iconst dL_law_335 ?_
  refine J_iadd dL_law_336 ?_
  refine V_top (b := ((i + 2 : Nat) : Int)) (by omega) ?_
  refine V_sld (k := i + 2) (by omega) (by omega) dL_law_337 ?_
  rw [e2]
  refine V_callVR (Y' := YX7_addDirt) dL_law_338 lL_44 gX7_addDirt (q7_addDirt (d := 0) hE hc1 hc2) hE.1 rfl rfl rfl (Nat.le_of_ble_eq_true rfl) (Nat.le_of_ble_eq_true rfl) (Nat.le_of_ble_eq_true rfl) ⟨by show kc + 0 ≤ 600000; omega, by show nc + 0 ≤ 7302250; omega⟩ (fun v h1 sz1 hq => ?_)
  obtain ⟨rfl, hf, rfl⟩ := hq
  have hM : MN h1 h1 := MS.re (h2 := h1) hM (fun x hx => hf x (by omega))
  refine V_aload_n dL_law_341 rfl ?_
  refine V_aload_nS dL_law_342 rfl ?_
  refine V_iload_n dL_law_343 rfl ?_
  refine J_iconst dL_law_344 ?_
  refine J_iadd dL_law_345 ?_
  refine V_top (b := ((i + 1 : Nat) : Int)) (by omega) ?_
  refine V_sld (k := i + 1) (by omega) (by omega) dL_law_346 ?_
  rw [e1]
  refine V_aload_nS dL_law_347 rfl ?_
  refine V_iload_n dL_law_348 rfl ?_
  refine J_iconst dL_law_349 ?_
  refine J_iadd dL_law_350 ?_
  refine V_top (b := ((i + 2 : Nat) : Int)) (by omega) ?_
  refine V_sld (k := i + 2) (by omega) (by omega) dL_law_351 ?_
  rw [e2]
  refine V_callVR (Y' := YX8_addDirt) dL_law_352 lL_47 gX8_addDirt (q8_addDirt (d := 0) hM hc1 hc2) hM.1 rfl rfl rfl (Nat.le_of_ble_eq_true rfl) (Nat.le_of_ble_eq_true rfl) (Nat.le_of_ble_eq_true rfl) ⟨by show kc + 0 ≤ 600000; omega, by show nc + 0 ≤ 7302250; omega⟩ (fun v h2 sz2 hq => ?_)
  subst hq
  exact V_icmp_eq (tgt := 826) dL_law_355 (by decide) (fun _ => kk _ _) (fun c => absurd rfl c)
set_option maxHeartbeats 4000000 in
set_option maxRecDepth 100000 in
/-- removeDirt -/
theorem law_8 {z : ZG} {nm : String} {Q : ZQ} {i kc nc : Nat} {h : AH} (hi : i + 2 < zN z) (hN : zN z ≤ 3) (hkn : kc ≤ 600000 ∧ nc ≤ 7302250) (kk : ∀ (h : AH) (sz : Nat), V z (YL nm) room_1 Q 826 [some (.retAddr (zX z)), some (.ref 0), some (.ref 114), some (.int (I (i : Int)))] [] h sz kc nc) (hE : ENN h) (hM : MN h h) : V z (YL nm) room_1 Q 360 [some (.retAddr (zX z)), some (.ref 0), some (.ref 114), some (.int (I (i : Int)))] [] h 122 kc nc := by
  obtain ⟨c1, hc1, e1⟩ := I_of (zF z (i + 1))
  obtain ⟨c2, hc2, e2⟩ := I_of (zF z (i + 2))
  refine V_aload_n dL_law_360 rfl ?_
  refine V_aload_nS dL_law_361 rfl ?_
  refine V_iload_n dL_law_362 rfl ?_
  refine J_iconst dL_law_363 ?_
  refine J_iadd dL_law_364 ?_
  refine V_top (b := ((i + 1 : Nat) : Int)) (by omega) ?_
  refine V_sld (k := i + 1) (by omega) (by omega) dL_law_365 ?_
  rw [e1]
  refine V_callVR (Y' := YX7_removeDirt) dL_law_366 lL_48 gX7_removeDirt (q7_removeDirt (d := 0) hE hc1) hE.1 rfl rfl rfl (Nat.le_of_ble_eq_true rfl) (Nat.le_of_ble_eq_true rfl) (Nat.le_of_ble_eq_true rfl) ⟨by show kc + 0 ≤ 600000; omega, by show nc + 0 ≤ 7302250; omega⟩ (fun v h1 sz1 hq => ?_)
  obtain ⟨rfl, hf, rfl⟩ := hq
  have hM : MN h1 h1 := MS.re (h2 := h1) hM (fun x hx => hf x (by omega))
  refine V_aload_n dL_law_369 rfl ?_
  refine V_aload_nS dL_law_370 rfl ?_
  refine V_iload_n dL_law_371 rfl ?_
  refine J_iconst dL_law_372 ?_
  refine J_iadd dL_law_373 ?_
  refine V_top (b := ((i + 1 : Nat) : Int)) (by omega) ?_
  refine V_sld (k := i + 1) (by omega) (by omega) dL_law_374 ?_
  rw [e1]
  refine V_callVR (Y' := YX8_removeDirt) dL_law_375 lL_51 gX8_removeDirt (q8_removeDirt (d := 0) hM hc1) hM.1 rfl rfl rfl (Nat.le_of_ble_eq_true rfl) (Nat.le_of_ble_eq_true rfl) (Nat.le_of_ble_eq_true rfl) ⟨by show kc + 0 ≤ 600000; omega, by show nc + 0 ≤ 7302250; omega⟩ (fun v h2 sz2 hq => ?_)
  subst hq
  exact V_icmp_eq (tgt := 826) dL_law_378 (by decide) (fun _ => kk _ _) (fun c => absurd rfl c)
set_option maxHeartbeats 4000000 in
set_option maxRecDepth 100000 in
/-- zeroSlip -/
theorem law_9 {z : ZG} {nm : String} {Q : ZQ} {i kc nc : Nat} {h : AH} (hi : i + 2 < zN z) (hN : zN z ≤ 3) (hkn : kc ≤ 600000 ∧ nc ≤ 7302250) (kk : ∀ (h : AH) (sz : Nat), V z (YL nm) room_1 Q 826 [some (.retAddr (zX z)), some (.ref 0), some (.ref 114), some (.int (I (i : Int)))] [] h sz kc nc) (hE : ENN h) (hM : MN h h) : V z (YL nm) room_1 Q 383 [some (.retAddr (zX z)), some (.ref 0), some (.ref 114), some (.int (I (i : Int)))] [] h 122 kc nc := by
  obtain ⟨c1, hc1, e1⟩ := I_of (zF z (i + 1))
  obtain ⟨c2, hc2, e2⟩ := I_of (zF z (i + 2))
  refine V_aload_n dL_law_383 rfl ?_
  refine V_callVR (Y' := YX7_zeroSlip) dL_law_384 lL_52 gX7_zeroSlip (q7_zeroSlip (d := 0) hE ) hE.1 rfl rfl rfl (Nat.le_of_ble_eq_true rfl) (Nat.le_of_ble_eq_true rfl) (Nat.le_of_ble_eq_true rfl) ⟨by show kc + 0 ≤ 600000; omega, by show nc + 0 ≤ 7302250; omega⟩ (fun v h1 sz1 hq => ?_)
  obtain ⟨rfl, hf, rfl⟩ := hq
  have hM : MN h1 h1 := MS.re (h2 := h1) hM (fun x hx => hf x (by omega))
  refine V_aload_n dL_law_387 rfl ?_
  refine V_callVR (Y' := YX8_zeroSlip) dL_law_388 lL_55 gX8_zeroSlip (q8_zeroSlip (d := 0) hM ) hM.1 rfl rfl rfl (Nat.le_of_ble_eq_true rfl) (Nat.le_of_ble_eq_true rfl) (Nat.le_of_ble_eq_true rfl) ⟨by show kc + 0 ≤ 600000; omega, by show nc + 0 ≤ 7302250; omega⟩ (fun v h2 sz2 hq => ?_)
  subst hq
  exact V_icmp_eq (tgt := 826) dL_law_391 (by decide) (fun _ => kk _ _) (fun c => absurd rfl c)
set_option maxHeartbeats 4000000 in
set_option maxRecDepth 100000 in
/-- recover -/
theorem law_10 {z : ZG} {nm : String} {Q : ZQ} {i kc nc : Nat} {h : AH} (hi : i + 2 < zN z) (hN : zN z ≤ 3) (hkn : kc ≤ 600000 ∧ nc ≤ 7302250) (kk : ∀ (h : AH) (sz : Nat), V z (YL nm) room_1 Q 826 [some (.retAddr (zX z)), some (.ref 0), some (.ref 114), some (.int (I (i : Int)))] [] h sz kc nc) (hE : ENN h) (hM : MN h h) : V z (YL nm) room_1 Q 396 [some (.retAddr (zX z)), some (.ref 0), some (.ref 114), some (.int (I (i : Int)))] [] h 122 kc nc := by
  obtain ⟨c1, hc1, e1⟩ := I_of (zF z (i + 1))
  obtain ⟨c2, hc2, e2⟩ := I_of (zF z (i + 2))
  refine V_aload_n dL_law_396 rfl ?_
  refine V_aload_nS dL_law_397 rfl ?_
  refine V_iload_n dL_law_398 rfl ?_
  refine J_iconst dL_law_399 ?_
  refine J_iadd dL_law_400 ?_
  refine V_top (b := ((i + 1 : Nat) : Int)) (by omega) ?_
  refine V_sld (k := i + 1) (by omega) (by omega) dL_law_401 ?_
  rw [e1]
  refine V_callVR (Y' := YX7_recover) dL_law_402 lL_56 gX7_recover (q7_recover (d := 0) hE hc1) hE.1 rfl rfl rfl (Nat.le_of_ble_eq_true rfl) (Nat.le_of_ble_eq_true rfl) (Nat.le_of_ble_eq_true rfl) ⟨by show kc + 0 ≤ 600000; omega, by show nc + 0 ≤ 7302250; omega⟩ (fun v h1 sz1 hq => ?_)
  obtain ⟨rfl, hf, rfl⟩ := hq
  have hM : MN h1 h1 := MS.re (h2 := h1) hM (fun x hx => hf x (by omega))
  refine V_aload_n dL_law_405 rfl ?_
  refine V_aload_nS dL_law_406 rfl ?_
  refine V_iload_n dL_law_407 rfl ?_
  refine J_iconst dL_law_408 ?_
  refine J_iadd dL_law_409 ?_
  refine V_top (b := ((i + 1 : Nat) : Int)) (by omega) ?_
  refine V_sld (k := i + 1) (by omega) (by omega) dL_law_410 ?_
  rw [e1]
  refine V_callVR (Y' := YX8_recover) dL_law_411 lL_59 gX8_recover (q8_recover (d := 0) hM hc1) hM.1 rfl rfl rfl (Nat.le_of_ble_eq_true rfl) (Nat.le_of_ble_eq_true rfl) (Nat.le_of_ble_eq_true rfl) ⟨by show kc + 0 ≤ 600000; omega, by show nc + 0 ≤ 7302250; omega⟩ (fun v h2 sz2 hq => ?_)
  subst hq
  exact V_icmp_eq (tgt := 826) dL_law_414 (by decide) (fun _ => kk _ _) (fun c => absurd rfl c)
set_option maxHeartbeats 4000000 in
set_option maxRecDepth 100000 in
/-- undo -/
theorem law_11 {z : ZG} {nm : String} {Q : ZQ} {i kc nc : Nat} {h : AH} (hi : i + 2 < zN z) (hN : zN z ≤ 3) (hkn : kc ≤ 600000 ∧ nc ≤ 7302250) (kk : ∀ (h : AH) (sz : Nat), V z (YL nm) room_1 Q 826 [some (.retAddr (zX z)), some (.ref 0), some (.ref 114), some (.int (I (i : Int)))] [] h sz kc nc) (hE : ENN h) (hM : MN h h) : V z (YL nm) room_1 Q 419 [some (.retAddr (zX z)), some (.ref 0), some (.ref 114), some (.int (I (i : Int)))] [] h 122 kc nc := by
  obtain ⟨c1, hc1, e1⟩ := I_of (zF z (i + 1))
  obtain ⟨c2, hc2, e2⟩ := I_of (zF z (i + 2))
  refine V_aload_n dL_law_419 rfl ?_
  refine V_callVR (Y' := YX7_undo) dL_law_420 lL_60 gX7_undo (q7_undo (d := 0) hE ) hE.1 rfl rfl rfl (Nat.le_of_ble_eq_true rfl) (Nat.le_of_ble_eq_true rfl) (Nat.le_of_ble_eq_true rfl) ⟨by show kc + 0 ≤ 600000; omega, by show nc + 0 ≤ 7302250; omega⟩ (fun v h1 sz1 hq => ?_)
  obtain ⟨rfl, hf, rfl⟩ := hq
  have hM : MN h1 h1 := MS.re (h2 := h1) hM (fun x hx => hf x (by omega))
  refine V_aload_n dL_law_423 rfl ?_
  refine V_callVR (Y' := YX8_undo) dL_law_424 lL_63 gX8_undo (q8_undo (d := 0) hM ) hM.1 rfl rfl rfl (Nat.le_of_ble_eq_true rfl) (Nat.le_of_ble_eq_true rfl) (Nat.le_of_ble_eq_true rfl) ⟨by show kc + 0 ≤ 600000; omega, by show nc + 0 ≤ 7302250; omega⟩ (fun v h2 sz2 hq => ?_)
  subst hq
  exact V_icmp_eq (tgt := 826) dL_law_427 (by decide) (fun _ => kk _ _) (fun c => absurd rfl c)
set_option maxHeartbeats 4000000 in
set_option maxRecDepth 100000 in
/-- position -/
theorem law_12 {z : ZG} {nm : String} {Q : ZQ} {i kc nc : Nat} {h : AH} (hi : i + 2 < zN z) (hN : zN z ≤ 3) (hkn : kc ≤ 600000 ∧ nc ≤ 7302250) (kk : ∀ (h : AH) (sz : Nat), V z (YL nm) room_1 Q 826 [some (.retAddr (zX z)), some (.ref 0), some (.ref 114), some (.int (I (i : Int)))] [] h sz kc nc) (hE : ENN h) (hM : MN h h) : V z (YL nm) room_1 Q 432 [some (.retAddr (zX z)), some (.ref 0), some (.ref 114), some (.int (I (i : Int)))] [] h 122 kc nc := by
  obtain ⟨c1, hc1, e1⟩ := I_of (zF z (i + 1))
  obtain ⟨c2, hc2, e2⟩ := I_of (zF z (i + 2))
  refine V_aload_n dL_law_432 rfl ?_
  refine V_callVR (Y' := YX7_position) dL_law_433 lL_64 gX7_position (q7_position (d := 0) hE ) hE.1 rfl rfl rfl (Nat.le_of_ble_eq_true rfl) (Nat.le_of_ble_eq_true rfl) (Nat.le_of_ble_eq_true rfl) ⟨by show kc + 0 ≤ 600000; omega, by show nc + 0 ≤ 7302250; omega⟩ (fun v h1 sz1 hq => ?_)
  obtain ⟨rfl, hf, rfl⟩ := hq
  have hM : MN h1 h1 := MS.re (h2 := h1) hM (fun x hx => hf x (by omega))
  refine V_aload_n dL_law_436 rfl ?_
  refine V_callVR (Y' := YX8_position) dL_law_437 lL_67 gX8_position (q8_position (d := 0) hM ) hM.1 rfl rfl rfl (Nat.le_of_ble_eq_true rfl) (Nat.le_of_ble_eq_true rfl) (Nat.le_of_ble_eq_true rfl) ⟨by show kc + 0 ≤ 600000; omega, by show nc + 0 ≤ 7302250; omega⟩ (fun v h2 sz2 hq => ?_)
  subst hq
  exact V_icmp_eq (tgt := 826) dL_law_440 (by decide) (fun _ => kk _ _) (fun c => absurd rfl c)
set_option maxHeartbeats 4000000 in
set_option maxRecDepth 100000 in
/-- counter -/
theorem law_13 {z : ZG} {nm : String} {Q : ZQ} {i kc nc : Nat} {h : AH} (hi : i + 2 < zN z) (hN : zN z ≤ 3) (hkn : kc ≤ 600000 ∧ nc ≤ 7302250) (kk : ∀ (h : AH) (sz : Nat), V z (YL nm) room_1 Q 826 [some (.retAddr (zX z)), some (.ref 0), some (.ref 114), some (.int (I (i : Int)))] [] h sz kc nc) (hE : ENN h) (hM : MN h h) : V z (YL nm) room_1 Q 445 [some (.retAddr (zX z)), some (.ref 0), some (.ref 114), some (.int (I (i : Int)))] [] h 122 kc nc := by
  obtain ⟨c1, hc1, e1⟩ := I_of (zF z (i + 1))
  obtain ⟨c2, hc2, e2⟩ := I_of (zF z (i + 2))
  refine V_aload_n dL_law_445 rfl ?_
  refine V_callVR (Y' := YX7_counter) dL_law_446 lL_68 gX7_counter (q7_counter (d := 0) hE ) hE.1 rfl rfl rfl (Nat.le_of_ble_eq_true rfl) (Nat.le_of_ble_eq_true rfl) (Nat.le_of_ble_eq_true rfl) ⟨by show kc + 0 ≤ 600000; omega, by show nc + 0 ≤ 7302250; omega⟩ (fun v h1 sz1 hq => ?_)
  obtain ⟨rfl, hf, rfl⟩ := hq
  have hM : MN h1 h1 := MS.re (h2 := h1) hM (fun x hx => hf x (by omega))
  refine V_aload_n dL_law_449 rfl ?_
  refine V_callVR (Y' := YX8_counter) dL_law_450 lL_72 gX8_counter (q8_counter (d := 0) hM ) hM.1 rfl rfl rfl (Nat.le_of_ble_eq_true rfl) (Nat.le_of_ble_eq_true rfl) (Nat.le_of_ble_eq_true rfl) ⟨by show kc + 0 ≤ 600000; omega, by show nc + 0 ≤ 7302250; omega⟩ (fun v h2 sz2 hq => ?_)
  subst hq
  exact V_lcmp_eq (tgt := 826) dL_law_453 dL_law_454 (by decide) (fun _ => kk _ _) (fun c => absurd rfl c)
set_option maxHeartbeats 4000000 in
set_option maxRecDepth 100000 in
/-- slip -/
theorem law_14 {z : ZG} {nm : String} {Q : ZQ} {i kc nc : Nat} {h : AH} (hi : i + 2 < zN z) (hN : zN z ≤ 3) (hkn : kc ≤ 600000 ∧ nc ≤ 7302250) (kk : ∀ (h : AH) (sz : Nat), V z (YL nm) room_1 Q 826 [some (.retAddr (zX z)), some (.ref 0), some (.ref 114), some (.int (I (i : Int)))] [] h sz kc nc) (hE : ENN h) (hM : MN h h) : V z (YL nm) room_1 Q 459 [some (.retAddr (zX z)), some (.ref 0), some (.ref 114), some (.int (I (i : Int)))] [] h 122 kc nc := by
  obtain ⟨c1, hc1, e1⟩ := I_of (zF z (i + 1))
  obtain ⟨c2, hc2, e2⟩ := I_of (zF z (i + 2))
  refine V_aload_n dL_law_459 rfl ?_
  refine V_callVR (Y' := YX7_slip) dL_law_460 lL_73 gX7_slip (q7_slip (d := 0) hE ) hE.1 rfl rfl rfl (Nat.le_of_ble_eq_true rfl) (Nat.le_of_ble_eq_true rfl) (Nat.le_of_ble_eq_true rfl) ⟨by show kc + 0 ≤ 600000; omega, by show nc + 0 ≤ 7302250; omega⟩ (fun v h1 sz1 hq => ?_)
  obtain ⟨rfl, hf, rfl⟩ := hq
  have hM : MN h1 h1 := MS.re (h2 := h1) hM (fun x hx => hf x (by omega))
  refine V_aload_n dL_law_463 rfl ?_
  refine V_callVR (Y' := YX8_slip) dL_law_464 lL_76 gX8_slip (q8_slip (d := 0) hM ) hM.1 rfl rfl rfl (Nat.le_of_ble_eq_true rfl) (Nat.le_of_ble_eq_true rfl) (Nat.le_of_ble_eq_true rfl) ⟨by show kc + 0 ≤ 600000; omega, by show nc + 0 ≤ 7302250; omega⟩ (fun v h2 sz2 hq => ?_)
  subst hq
  exact V_lcmp_eq (tgt := 826) dL_law_467 dL_law_468 (by decide) (fun _ => kk _ _) (fun c => absurd rfl c)
set_option maxHeartbeats 4000000 in
set_option maxRecDepth 100000 in
/-- misses -/
theorem law_15 {z : ZG} {nm : String} {Q : ZQ} {i kc nc : Nat} {h : AH} (hi : i + 2 < zN z) (hN : zN z ≤ 3) (hkn : kc ≤ 600000 ∧ nc ≤ 7302250) (kk : ∀ (h : AH) (sz : Nat), V z (YL nm) room_1 Q 826 [some (.retAddr (zX z)), some (.ref 0), some (.ref 114), some (.int (I (i : Int)))] [] h sz kc nc) (hE : ENN h) (hM : MN h h) : V z (YL nm) room_1 Q 473 [some (.retAddr (zX z)), some (.ref 0), some (.ref 114), some (.int (I (i : Int)))] [] h 122 kc nc := by
  obtain ⟨c1, hc1, e1⟩ := I_of (zF z (i + 1))
  obtain ⟨c2, hc2, e2⟩ := I_of (zF z (i + 2))
  refine V_aload_n dL_law_473 rfl ?_
  refine V_callVR (Y' := YX7_misses) dL_law_474 lL_77 gX7_misses (q7_misses (d := 0) hE ) hE.1 rfl rfl rfl (Nat.le_of_ble_eq_true rfl) (Nat.le_of_ble_eq_true rfl) (Nat.le_of_ble_eq_true rfl) ⟨by show kc + 0 ≤ 600000; omega, by show nc + 0 ≤ 7302250; omega⟩ (fun v h1 sz1 hq => ?_)
  obtain ⟨rfl, hf, rfl⟩ := hq
  have hM : MN h1 h1 := MS.re (h2 := h1) hM (fun x hx => hf x (by omega))
  refine V_aload_n dL_law_477 rfl ?_
  refine V_callVR (Y' := YX8_misses) dL_law_478 lL_80 gX8_misses (q8_misses (d := 0) hM ) hM.1 rfl rfl rfl (Nat.le_of_ble_eq_true rfl) (Nat.le_of_ble_eq_true rfl) (Nat.le_of_ble_eq_true rfl) ⟨by show kc + 0 ≤ 600000; omega, by show nc + 0 ≤ 7302250; omega⟩ (fun v h2 sz2 hq => ?_)
  subst hq
  exact V_icmp_eq (tgt := 826) dL_law_481 (by decide) (fun _ => kk _ _) (fun c => absurd rfl c)
set_option maxHeartbeats 4000000 in
set_option maxRecDepth 100000 in
/-- samples -/
theorem law_16 {z : ZG} {nm : String} {Q : ZQ} {i kc nc : Nat} {h : AH} (hi : i + 2 < zN z) (hN : zN z ≤ 3) (hkn : kc ≤ 600000 ∧ nc ≤ 7302250) (kk : ∀ (h : AH) (sz : Nat), V z (YL nm) room_1 Q 826 [some (.retAddr (zX z)), some (.ref 0), some (.ref 114), some (.int (I (i : Int)))] [] h sz kc nc) (hE : ENN h) (hM : MN h h) : V z (YL nm) room_1 Q 486 [some (.retAddr (zX z)), some (.ref 0), some (.ref 114), some (.int (I (i : Int)))] [] h 122 kc nc := by
  obtain ⟨c1, hc1, e1⟩ := I_of (zF z (i + 1))
  obtain ⟨c2, hc2, e2⟩ := I_of (zF z (i + 2))
  refine V_aload_n dL_law_486 rfl ?_
  refine V_callVR (Y' := YX7_samples) dL_law_487 lL_81 gX7_samples (q7_samples (d := 0) hE ) hE.1 rfl rfl rfl (Nat.le_of_ble_eq_true rfl) (Nat.le_of_ble_eq_true rfl) (Nat.le_of_ble_eq_true rfl) ⟨by show kc + 0 ≤ 600000; omega, by show nc + 0 ≤ 7302250; omega⟩ (fun v h1 sz1 hq => ?_)
  obtain ⟨rfl, hf, rfl⟩ := hq
  have hM : MN h1 h1 := MS.re (h2 := h1) hM (fun x hx => hf x (by omega))
  refine V_aload_n dL_law_490 rfl ?_
  refine V_callVR (Y' := YX8_samples) dL_law_491 lL_84 gX8_samples (q8_samples (d := 0) hM ) hM.1 rfl rfl rfl (Nat.le_of_ble_eq_true rfl) (Nat.le_of_ble_eq_true rfl) (Nat.le_of_ble_eq_true rfl) ⟨by show kc + 0 ≤ 600000; omega, by show nc + 0 ≤ 7302250; omega⟩ (fun v h2 sz2 hq => ?_)
  subst hq
  exact V_icmp_eq (tgt := 826) dL_law_494 (by decide) (fun _ => kk _ _) (fun c => absurd rfl c)
set_option maxHeartbeats 4000000 in
set_option maxRecDepth 100000 in
/-- missRateBits -/
theorem law_17 {z : ZG} {nm : String} {Q : ZQ} {i kc nc : Nat} {h : AH} (hi : i + 2 < zN z) (hN : zN z ≤ 3) (hkn : kc ≤ 600000 ∧ nc ≤ 7302250) (kk : ∀ (h : AH) (sz : Nat), V z (YL nm) room_1 Q 826 [some (.retAddr (zX z)), some (.ref 0), some (.ref 114), some (.int (I (i : Int)))] [] h sz kc nc) (hE : ENN h) (hM : MN h h) : V z (YL nm) room_1 Q 499 [some (.retAddr (zX z)), some (.ref 0), some (.ref 114), some (.int (I (i : Int)))] [] h 122 kc nc := by
  obtain ⟨c1, hc1, e1⟩ := I_of (zF z (i + 1))
  obtain ⟨c2, hc2, e2⟩ := I_of (zF z (i + 2))
  refine V_aload_n dL_law_499 rfl ?_
  refine V_callVR (Y' := YX7_missRateBits) dL_law_500 lL_85 gX7_missRateBits (q7_missRateBits (d := 0) hE ) hE.1 rfl rfl rfl (Nat.le_of_ble_eq_true rfl) (Nat.le_of_ble_eq_true rfl) (Nat.le_of_ble_eq_true rfl) ⟨by show kc + 0 ≤ 600000; omega, by show nc + 0 ≤ 7302250; omega⟩ (fun v h1 sz1 hq => ?_)
  obtain ⟨rfl, hf, rfl⟩ := hq
  have hM : MN h1 h1 := MS.re (h2 := h1) hM (fun x hx => hf x (by omega))
  refine V_aload_n dL_law_503 rfl ?_
  refine V_callVR (Y' := YX8_missRateBits) dL_law_504 lL_88 gX8_missRateBits (q8_missRateBits (d := 0) hM ) hM.1 rfl rfl rfl (Nat.le_of_ble_eq_true rfl) (Nat.le_of_ble_eq_true rfl) (Nat.le_of_ble_eq_true rfl) ⟨by show kc + 0 ≤ 600000; omega, by show nc + 0 ≤ 7302250; omega⟩ (fun v h2 sz2 hq => ?_)
  subst hq
  exact V_icmp_eq (tgt := 826) dL_law_507 (by decide) (fun _ => kk _ _) (fun c => absurd rfl c)
set_option maxHeartbeats 4000000 in
set_option maxRecDepth 100000 in
/-- markPosition -/
theorem law_18 {z : ZG} {nm : String} {Q : ZQ} {i kc nc : Nat} {h : AH} (hi : i + 2 < zN z) (hN : zN z ≤ 3) (hkn : kc ≤ 600000 ∧ nc ≤ 7302250) (kk : ∀ (h : AH) (sz : Nat), V z (YL nm) room_1 Q 826 [some (.retAddr (zX z)), some (.ref 0), some (.ref 114), some (.int (I (i : Int)))] [] h sz kc nc) (hE : ENN h) (hM : MN h h) : V z (YL nm) room_1 Q 512 [some (.retAddr (zX z)), some (.ref 0), some (.ref 114), some (.int (I (i : Int)))] [] h 122 kc nc := by
  obtain ⟨c1, hc1, e1⟩ := I_of (zF z (i + 1))
  obtain ⟨c2, hc2, e2⟩ := I_of (zF z (i + 2))
  refine V_aload_n dL_law_512 rfl ?_
  refine V_aload_nS dL_law_513 rfl ?_
  refine V_iload_n dL_law_514 rfl ?_
  refine J_iconst dL_law_515 ?_
  refine J_iadd dL_law_516 ?_
  refine V_top (b := ((i + 1 : Nat) : Int)) (by omega) ?_
  refine V_sld (k := i + 1) (by omega) (by omega) dL_law_517 ?_
  rw [e1]
  refine V_callVR (Y' := YX7_markPosition) dL_law_518 lL_89 gX7_markPosition (q7_markPosition (d := 0) hE hc1) hE.1 rfl rfl rfl (Nat.le_of_ble_eq_true rfl) (Nat.le_of_ble_eq_true rfl) (Nat.le_of_ble_eq_true rfl) ⟨by show kc + 0 ≤ 600000; omega, by show nc + 0 ≤ 7302250; omega⟩ (fun v h1 sz1 hq => ?_)
  obtain ⟨rfl, hf, rfl⟩ := hq
  have hM : MN h1 h1 := MS.re (h2 := h1) hM (fun x hx => hf x (by omega))
  refine V_aload_n dL_law_521 rfl ?_
  refine V_aload_nS dL_law_522 rfl ?_
  refine V_iload_n dL_law_523 rfl ?_
  refine J_iconst dL_law_524 ?_
  refine J_iadd dL_law_525 ?_
  refine V_top (b := ((i + 1 : Nat) : Int)) (by omega) ?_
  refine V_sld (k := i + 1) (by omega) (by omega) dL_law_526 ?_
  rw [e1]
  refine V_callVR (Y' := YX8_markPosition) dL_law_527 lL_92 gX8_markPosition (q8_markPosition (d := 0) hM hc1) hM.1 rfl rfl rfl (Nat.le_of_ble_eq_true rfl) (Nat.le_of_ble_eq_true rfl) (Nat.le_of_ble_eq_true rfl) ⟨by show kc + 0 ≤ 600000; omega, by show nc + 0 ≤ 7302250; omega⟩ (fun v h2 sz2 hq => ?_)
  subst hq
  exact V_icmp_eq (tgt := 826) dL_law_530 (by decide) (fun _ => kk _ _) (fun c => absurd rfl c)
set_option maxHeartbeats 4000000 in
set_option maxRecDepth 100000 in
/-- expectedCount -/
theorem law_19 {z : ZG} {nm : String} {Q : ZQ} {i kc nc : Nat} {h : AH} (hi : i + 2 < zN z) (hN : zN z ≤ 3) (hkn : kc ≤ 600000 ∧ nc ≤ 7302250) (kk : ∀ (h : AH) (sz : Nat), V z (YL nm) room_1 Q 826 [some (.retAddr (zX z)), some (.ref 0), some (.ref 114), some (.int (I (i : Int)))] [] h sz kc nc) (hE : ENN h) (hM : MN h h) : V z (YL nm) room_1 Q 535 [some (.retAddr (zX z)), some (.ref 0), some (.ref 114), some (.int (I (i : Int)))] [] h 122 kc nc := by
  obtain ⟨c1, hc1, e1⟩ := I_of (zF z (i + 1))
  obtain ⟨c2, hc2, e2⟩ := I_of (zF z (i + 2))
  refine V_aload_n dL_law_535 rfl ?_
  refine V_aload_nS dL_law_536 rfl ?_
  refine V_iload_n dL_law_537 rfl ?_
  refine J_iconst dL_law_538 ?_
  refine J_iadd dL_law_539 ?_
  refine V_top (b := ((i + 1 : Nat) : Int)) (by omega) ?_
  refine V_sld (k := i + 1) (by omega) (by omega) dL_law_540 ?_
  rw [e1]
  refine V_callVR (Y' := YX7_expectedCount) dL_law_541 lL_93 gX7_expectedCount (q7_expectedCount (d := 0) hE hc1) hE.1 rfl rfl rfl (Nat.le_of_ble_eq_true rfl) (Nat.le_of_ble_eq_true rfl) (Nat.le_of_ble_eq_true rfl) ⟨by show kc + 0 ≤ 600000; omega, by show nc + 0 ≤ 7302250; omega⟩ (fun v h1 sz1 hq => ?_)
  obtain ⟨rfl, hf, rfl⟩ := hq
  have hM : MN h1 h1 := MS.re (h2 := h1) hM (fun x hx => hf x (by omega))
  refine V_aload_n dL_law_544 rfl ?_
  refine V_aload_nS dL_law_545 rfl ?_
  refine V_iload_n dL_law_546 rfl ?_
  refine J_iconst dL_law_547 ?_
  refine J_iadd dL_law_548 ?_
  refine V_top (b := ((i + 1 : Nat) : Int)) (by omega) ?_
  refine V_sld (k := i + 1) (by omega) (by omega) dL_law_549 ?_
  rw [e1]
  refine V_callVR (Y' := YX8_expectedCount) dL_law_550 lL_96 gX8_expectedCount (q8_expectedCount (d := 0) hM hc1) hM.1 rfl rfl rfl (Nat.le_of_ble_eq_true rfl) (Nat.le_of_ble_eq_true rfl) (Nat.le_of_ble_eq_true rfl) ⟨by show kc + 0 ≤ 600000; omega, by show nc + 0 ≤ 7302250; omega⟩ (fun v h2 sz2 hq => ?_)
  subst hq
  exact V_icmp_eq (tgt := 826) dL_law_553 (by decide) (fun _ => kk _ _) (fun c => absurd rfl c)
set_option maxHeartbeats 4000000 in
set_option maxRecDepth 100000 in
/-- eventKind -/
theorem law_20 {z : ZG} {nm : String} {Q : ZQ} {i kc nc : Nat} {h : AH} (hi : i + 2 < zN z) (hN : zN z ≤ 3) (hkn : kc ≤ 600000 ∧ nc ≤ 7302250) (kk : ∀ (h : AH) (sz : Nat), V z (YL nm) room_1 Q 826 [some (.retAddr (zX z)), some (.ref 0), some (.ref 114), some (.int (I (i : Int)))] [] h sz kc nc) (hE : ENN h) (hM : MN h h) : V z (YL nm) room_1 Q 558 [some (.retAddr (zX z)), some (.ref 0), some (.ref 114), some (.int (I (i : Int)))] [] h 122 kc nc := by
  obtain ⟨c1, hc1, e1⟩ := I_of (zF z (i + 1))
  obtain ⟨c2, hc2, e2⟩ := I_of (zF z (i + 2))
  refine V_aload_n dL_law_558 rfl ?_
  refine V_aload_nS dL_law_559 rfl ?_
  refine V_iload_n dL_law_560 rfl ?_
  refine J_iconst dL_law_561 ?_
  refine J_iadd dL_law_562 ?_
  refine V_top (b := ((i + 1 : Nat) : Int)) (by omega) ?_
  refine V_sld (k := i + 1) (by omega) (by omega) dL_law_563 ?_
  rw [e1]
  refine V_callVR (Y' := YX7_eventKind) dL_law_564 lL_97 gX7_eventKind (q7_eventKind (d := 0) hE hc1) hE.1 rfl rfl rfl (Nat.le_of_ble_eq_true rfl) (Nat.le_of_ble_eq_true rfl) (Nat.le_of_ble_eq_true rfl) ⟨by show kc + 0 ≤ 600000; omega, by show nc + 0 ≤ 7302250; omega⟩ (fun v h1 sz1 hq => ?_)
  obtain ⟨rfl, hf, rfl⟩ := hq
  have hM : MN h1 h1 := MS.re (h2 := h1) hM (fun x hx => hf x (by omega))
  refine V_aload_n dL_law_567 rfl ?_
  refine V_aload_nS dL_law_568 rfl ?_
  refine V_iload_n dL_law_569 rfl ?_
  refine J_iconst dL_law_570 ?_
  refine J_iadd dL_law_571 ?_
  refine V_top (b := ((i + 1 : Nat) : Int)) (by omega) ?_
  refine V_sld (k := i + 1) (by omega) (by omega) dL_law_572 ?_
  rw [e1]
  refine V_callVR (Y' := YX8_eventKind) dL_law_573 lL_100 gX8_eventKind (q8_eventKind (d := 0) hM hc1) hM.1 rfl rfl rfl (Nat.le_of_ble_eq_true rfl) (Nat.le_of_ble_eq_true rfl) (Nat.le_of_ble_eq_true rfl) ⟨by show kc + 0 ≤ 600000; omega, by show nc + 0 ≤ 7302250; omega⟩ (fun v h2 sz2 hq => ?_)
  subst hq
  exact V_icmp_eq (tgt := 826) dL_law_576 (by decide) (fun _ => kk _ _) (fun c => absurd rfl c)
set_option maxHeartbeats 4000000 in
set_option maxRecDepth 100000 in
/-- eventPosition -/
theorem law_21 {z : ZG} {nm : String} {Q : ZQ} {i kc nc : Nat} {h : AH} (hi : i + 2 < zN z) (hN : zN z ≤ 3) (hkn : kc ≤ 600000 ∧ nc ≤ 7302250) (kk : ∀ (h : AH) (sz : Nat), V z (YL nm) room_1 Q 826 [some (.retAddr (zX z)), some (.ref 0), some (.ref 114), some (.int (I (i : Int)))] [] h sz kc nc) (hE : ENN h) (hM : MN h h) : V z (YL nm) room_1 Q 581 [some (.retAddr (zX z)), some (.ref 0), some (.ref 114), some (.int (I (i : Int)))] [] h 122 kc nc := by
  obtain ⟨c1, hc1, e1⟩ := I_of (zF z (i + 1))
  obtain ⟨c2, hc2, e2⟩ := I_of (zF z (i + 2))
  refine V_aload_n dL_law_581 rfl ?_
  refine V_aload_nS dL_law_582 rfl ?_
  refine V_iload_n dL_law_583 rfl ?_
  refine J_iconst dL_law_584 ?_
  refine J_iadd dL_law_585 ?_
  refine V_top (b := ((i + 1 : Nat) : Int)) (by omega) ?_
  refine V_sld (k := i + 1) (by omega) (by omega) dL_law_586 ?_
  rw [e1]
  refine V_callVR (Y' := YX7_eventPosition) dL_law_587 lL_101 gX7_eventPosition (q7_eventPosition (d := 0) hE hc1) hE.1 rfl rfl rfl (Nat.le_of_ble_eq_true rfl) (Nat.le_of_ble_eq_true rfl) (Nat.le_of_ble_eq_true rfl) ⟨by show kc + 0 ≤ 600000; omega, by show nc + 0 ≤ 7302250; omega⟩ (fun v h1 sz1 hq => ?_)
  obtain ⟨rfl, hf, rfl⟩ := hq
  have hM : MN h1 h1 := MS.re (h2 := h1) hM (fun x hx => hf x (by omega))
  refine V_aload_n dL_law_590 rfl ?_
  refine V_aload_nS dL_law_591 rfl ?_
  refine V_iload_n dL_law_592 rfl ?_
  refine J_iconst dL_law_593 ?_
  refine J_iadd dL_law_594 ?_
  refine V_top (b := ((i + 1 : Nat) : Int)) (by omega) ?_
  refine V_sld (k := i + 1) (by omega) (by omega) dL_law_595 ?_
  rw [e1]
  refine V_callVR (Y' := YX8_eventPosition) dL_law_596 lL_104 gX8_eventPosition (q8_eventPosition (d := 0) hM hc1) hM.1 rfl rfl rfl (Nat.le_of_ble_eq_true rfl) (Nat.le_of_ble_eq_true rfl) (Nat.le_of_ble_eq_true rfl) ⟨by show kc + 0 ≤ 600000; omega, by show nc + 0 ≤ 7302250; omega⟩ (fun v h2 sz2 hq => ?_)
  subst hq
  exact V_icmp_eq (tgt := 826) dL_law_599 (by decide) (fun _ => kk _ _) (fun c => absurd rfl c)
set_option maxHeartbeats 4000000 in
set_option maxRecDepth 100000 in
/-- eventCounter -/
theorem law_22 {z : ZG} {nm : String} {Q : ZQ} {i kc nc : Nat} {h : AH} (hi : i + 2 < zN z) (hN : zN z ≤ 3) (hkn : kc ≤ 600000 ∧ nc ≤ 7302250) (kk : ∀ (h : AH) (sz : Nat), V z (YL nm) room_1 Q 826 [some (.retAddr (zX z)), some (.ref 0), some (.ref 114), some (.int (I (i : Int)))] [] h sz kc nc) (hE : ENN h) (hM : MN h h) : V z (YL nm) room_1 Q 604 [some (.retAddr (zX z)), some (.ref 0), some (.ref 114), some (.int (I (i : Int)))] [] h 122 kc nc := by
  obtain ⟨c1, hc1, e1⟩ := I_of (zF z (i + 1))
  obtain ⟨c2, hc2, e2⟩ := I_of (zF z (i + 2))
  refine V_aload_n dL_law_604 rfl ?_
  refine V_aload_nS dL_law_605 rfl ?_
  refine V_iload_n dL_law_606 rfl ?_
  refine J_iconst dL_law_607 ?_
  refine J_iadd dL_law_608 ?_
  refine V_top (b := ((i + 1 : Nat) : Int)) (by omega) ?_
  refine V_sld (k := i + 1) (by omega) (by omega) dL_law_609 ?_
  rw [e1]
  refine V_callVR (Y' := YX7_eventCounter) dL_law_610 lL_105 gX7_eventCounter (q7_eventCounter (d := 0) hE hc1) hE.1 rfl rfl rfl (Nat.le_of_ble_eq_true rfl) (Nat.le_of_ble_eq_true rfl) (Nat.le_of_ble_eq_true rfl) ⟨by show kc + 0 ≤ 600000; omega, by show nc + 0 ≤ 7302250; omega⟩ (fun v h1 sz1 hq => ?_)
  obtain ⟨rfl, hf, rfl⟩ := hq
  have hM : MN h1 h1 := MS.re (h2 := h1) hM (fun x hx => hf x (by omega))
  refine V_aload_n dL_law_613 rfl ?_
  refine V_aload_nS dL_law_614 rfl ?_
  refine V_iload_n dL_law_615 rfl ?_
  refine J_iconst dL_law_616 ?_
  refine J_iadd dL_law_617 ?_
  refine V_top (b := ((i + 1 : Nat) : Int)) (by omega) ?_
  refine V_sld (k := i + 1) (by omega) (by omega) dL_law_618 ?_
  rw [e1]
  refine V_callVR (Y' := YX8_eventCounter) dL_law_619 lL_109 gX8_eventCounter (q8_eventCounter (d := 0) hM hc1) hM.1 rfl rfl rfl (Nat.le_of_ble_eq_true rfl) (Nat.le_of_ble_eq_true rfl) (Nat.le_of_ble_eq_true rfl) ⟨by show kc + 0 ≤ 600000; omega, by show nc + 0 ≤ 7302250; omega⟩ (fun v h2 sz2 hq => ?_)
  subst hq
  exact V_lcmp_eq (tgt := 826) dL_law_622 dL_law_623 (by decide) (fun _ => kk _ _) (fun c => absurd rfl c)
set_option maxHeartbeats 4000000 in
set_option maxRecDepth 100000 in
/-- predictSlip -/
theorem law_23 {z : ZG} {nm : String} {Q : ZQ} {i kc nc : Nat} {h : AH} (hi : i + 2 < zN z) (hN : zN z ≤ 3) (hkn : kc ≤ 600000 ∧ nc ≤ 7302250) (kk : ∀ (h : AH) (sz : Nat), V z (YL nm) room_1 Q 826 [some (.retAddr (zX z)), some (.ref 0), some (.ref 114), some (.int (I (i : Int)))] [] h sz kc nc) (hE : ENN h) (hM : MN h h) : V z (YL nm) room_1 Q 628 [some (.retAddr (zX z)), some (.ref 0), some (.ref 114), some (.int (I (i : Int)))] [] h 122 kc nc := by
  obtain ⟨c1, hc1, e1⟩ := I_of (zF z (i + 1))
  obtain ⟨c2, hc2, e2⟩ := I_of (zF z (i + 2))
  refine V_aload_n dL_law_628 rfl ?_
  refine V_aload_nS dL_law_629 rfl ?_
  refine V_iload_n dL_law_630 rfl ?_
  refine J_iconst dL_law_631 ?_
  refine J_iadd dL_law_632 ?_
  refine V_top (b := ((i + 1 : Nat) : Int)) (by omega) ?_
  refine V_sld (k := i + 1) (by omega) (by omega) dL_law_633 ?_
  rw [e1]
  refine V_aload_nS dL_law_634 rfl ?_
  refine V_iload_n dL_law_635 rfl ?_
  refine J_iconst dL_law_636 ?_
  refine J_iadd dL_law_637 ?_
  refine V_top (b := ((i + 2 : Nat) : Int)) (by omega) ?_
  refine V_sld (k := i + 2) (by omega) (by omega) dL_law_638 ?_
  rw [e2]
  refine V_callVR (Y' := YX7_predictSlip) dL_law_639 lL_110 gX7_predictSlip (q7_predictSlip (d := 0) hE hc1 hc2) hE.1 rfl rfl rfl (Nat.le_of_ble_eq_true rfl) (Nat.le_of_ble_eq_true rfl) (Nat.le_of_ble_eq_true rfl) ⟨by show kc + 0 ≤ 600000; omega, by show nc + 0 ≤ 7302250; omega⟩ (fun v h1 sz1 hq => ?_)
  obtain ⟨rfl, hf, rfl⟩ := hq
  have hM : MN h1 h1 := MS.re (h2 := h1) hM (fun x hx => hf x (by omega))
  refine V_aload_n dL_law_642 rfl ?_
  refine V_aload_nS dL_law_643 rfl ?_
  refine V_iload_n dL_law_644 rfl ?_
  refine J_iconst dL_law_645 ?_
  refine J_iadd dL_law_646 ?_
  refine V_top (b := ((i + 1 : Nat) : Int)) (by omega) ?_
  refine V_sld (k := i + 1) (by omega) (by omega) dL_law_647 ?_
  rw [e1]
  refine V_aload_nS dL_law_648 rfl ?_
  refine V_iload_n dL_law_649 rfl ?_
  refine J_iconst dL_law_650 ?_
  refine J_iadd dL_law_651 ?_
  refine V_top (b := ((i + 2 : Nat) : Int)) (by omega) ?_
  refine V_sld (k := i + 2) (by omega) (by omega) dL_law_652 ?_
  rw [e2]
  refine V_callVR (Y' := YX8_predictSlip) dL_law_653 lL_114 gX8_predictSlip (q8_predictSlip (d := 0) hM hc1 hc2) hM.1 rfl rfl rfl (Nat.le_of_ble_eq_true rfl) (Nat.le_of_ble_eq_true rfl) (Nat.le_of_ble_eq_true rfl) ⟨by show kc + 0 ≤ 600000; omega, by show nc + 0 ≤ 7302250; omega⟩ (fun v h2 sz2 hq => ?_)
  subst hq
  exact V_lcmp_eq (tgt := 826) dL_law_656 dL_law_657 (by decide) (fun _ => kk _ _) (fun c => absurd rfl c)
set_option maxHeartbeats 4000000 in
set_option maxRecDepth 100000 in
/-- fastestSafeSpeed -/
theorem law_24 {z : ZG} {nm : String} {Q : ZQ} {i kc nc : Nat} {h : AH} (hi : i + 2 < zN z) (hN : zN z ≤ 3) (hkn : kc ≤ 600000 ∧ nc ≤ 7302250) (kk : ∀ (h : AH) (sz : Nat), V z (YL nm) room_1 Q 826 [some (.retAddr (zX z)), some (.ref 0), some (.ref 114), some (.int (I (i : Int)))] [] h sz kc nc) (hE : ENN h) (hM : MN h h) : V z (YL nm) room_1 Q 662 [some (.retAddr (zX z)), some (.ref 0), some (.ref 114), some (.int (I (i : Int)))] [] h 122 kc nc := by
  obtain ⟨c1, hc1, e1⟩ := I_of (zF z (i + 1))
  obtain ⟨c2, hc2, e2⟩ := I_of (zF z (i + 2))
  refine V_aload_n dL_law_662 rfl ?_
  refine V_aload_nS dL_law_663 rfl ?_
  refine V_iload_n dL_law_664 rfl ?_
  refine J_iconst dL_law_665 ?_
  refine J_iadd dL_law_666 ?_
  refine V_top (b := ((i + 1 : Nat) : Int)) (by omega) ?_
  refine V_sld (k := i + 1) (by omega) (by omega) dL_law_667 ?_
  rw [e1]
  refine V_callVR (Y' := YX7_fastestSafeSpeed) dL_law_668 lL_115 gX7_fastestSafeSpeed (q7_fastestSafeSpeed (d := 0) hE hc1) hE.1 rfl rfl rfl (Nat.le_of_ble_eq_true rfl) (Nat.le_of_ble_eq_true rfl) (Nat.le_of_ble_eq_true rfl) ⟨by show kc + 0 ≤ 600000; omega, by show nc + 0 ≤ 7302250; omega⟩ (fun v h1 sz1 hq => ?_)
  obtain ⟨rfl, hf, r1, rfl, hr1⟩ := hq
  have hM : MN h1 h1 := MS.re (h2 := h1) hM (fun x hx => hf x (by omega))
  refine V_aload_n dL_law_671 rfl ?_
  refine V_aload_nS dL_law_672 rfl ?_
  refine V_iload_n dL_law_673 rfl ?_
  refine J_iconst dL_law_674 ?_
  refine J_iadd dL_law_675 ?_
  refine V_top (b := ((i + 1 : Nat) : Int)) (by omega) ?_
  refine V_sld (k := i + 1) (by omega) (by omega) dL_law_676 ?_
  rw [e1]
  refine V_callVR (Y' := YX8_fastestSafeSpeed) dL_law_677 lL_118 gX8_fastestSafeSpeed (q8_fastestSafeSpeed (d := 0) hM hc1) hM.1 rfl rfl rfl (Nat.le_of_ble_eq_true rfl) (Nat.le_of_ble_eq_true rfl) (Nat.le_of_ble_eq_true rfl) ⟨by show kc + 0 ≤ 600000; omega, by show nc + 0 ≤ 7302250; omega⟩ (fun v h2 sz2 hq => ?_)
  obtain ⟨r2, rfl, hr2⟩ := hq
  exact V_icmp_eq (tgt := 826) dL_law_680 (by decide) (fun _ => kk _ _) (fun c => absurd (congrArg I (fs_eq hr1 hr2)) c)
set_option maxHeartbeats 4000000 in
set_option maxRecDepth 100000 in
/-- brightness -/
theorem law_25 {z : ZG} {nm : String} {Q : ZQ} {i kc nc : Nat} {h : AH} (hi : i + 2 < zN z) (hN : zN z ≤ 3) (hkn : kc ≤ 600000 ∧ nc ≤ 7302250) (kk : ∀ (h : AH) (sz : Nat), V z (YL nm) room_1 Q 826 [some (.retAddr (zX z)), some (.ref 0), some (.ref 114), some (.int (I (i : Int)))] [] h sz kc nc) (hE : ENN h) (hM : MN h h) : V z (YL nm) room_1 Q 685 [some (.retAddr (zX z)), some (.ref 0), some (.ref 114), some (.int (I (i : Int)))] [] h 122 kc nc := by
  obtain ⟨c1, hc1, e1⟩ := I_of (zF z (i + 1))
  obtain ⟨c2, hc2, e2⟩ := I_of (zF z (i + 2))
  refine V_aload_n dL_law_685 rfl ?_
  refine V_aload_nS dL_law_686 rfl ?_
  refine V_iload_n dL_law_687 rfl ?_
  refine J_iconst dL_law_688 ?_
  refine J_iadd dL_law_689 ?_
  refine V_top (b := ((i + 1 : Nat) : Int)) (by omega) ?_
  refine V_sld (k := i + 1) (by omega) (by omega) dL_law_690 ?_
  rw [e1]
  refine V_aload_nS dL_law_691 rfl ?_
  refine V_iload_n dL_law_692 rfl ?_
  refine J_iconst dL_law_693 ?_
  refine J_iadd dL_law_694 ?_
  refine V_top (b := ((i + 2 : Nat) : Int)) (by omega) ?_
  refine V_sld (k := i + 2) (by omega) (by omega) dL_law_695 ?_
  rw [e2]
  refine V_callVR (Y' := YX7_brightness) dL_law_696 lL_119 gX7_brightness (q7_brightness (d := 0) hE hc1 hc2) hE.1 rfl rfl rfl (Nat.le_of_ble_eq_true rfl) (Nat.le_of_ble_eq_true rfl) (Nat.le_of_ble_eq_true rfl) ⟨by show kc + 0 ≤ 600000; omega, by show nc + 0 ≤ 7302250; omega⟩ (fun v h1 sz1 hq => ?_)
  obtain ⟨rfl, hf, rfl⟩ := hq
  have hM : MN h1 h1 := MS.re (h2 := h1) hM (fun x hx => hf x (by omega))
  refine V_aload_n dL_law_699 rfl ?_
  refine V_aload_nS dL_law_700 rfl ?_
  refine V_iload_n dL_law_701 rfl ?_
  refine J_iconst dL_law_702 ?_
  refine J_iadd dL_law_703 ?_
  refine V_top (b := ((i + 1 : Nat) : Int)) (by omega) ?_
  refine V_sld (k := i + 1) (by omega) (by omega) dL_law_704 ?_
  rw [e1]
  refine V_aload_nS dL_law_705 rfl ?_
  refine V_iload_n dL_law_706 rfl ?_
  refine J_iconst dL_law_707 ?_
  refine J_iadd dL_law_708 ?_
  refine V_top (b := ((i + 2 : Nat) : Int)) (by omega) ?_
  refine V_sld (k := i + 2) (by omega) (by omega) dL_law_709 ?_
  rw [e2]
  refine V_callVR (Y' := YX8_brightness) dL_law_710 lL_122 gX8_brightness (q8_brightness (d := 0) hM hc1 hc2) hM.1 rfl rfl rfl (Nat.le_of_ble_eq_true rfl) (Nat.le_of_ble_eq_true rfl) (Nat.le_of_ble_eq_true rfl) ⟨by show kc + 0 ≤ 600000; omega, by show nc + 0 ≤ 7302250; omega⟩ (fun v h2 sz2 hq => ?_)
  subst hq
  exact V_icmp_eq (tgt := 826) dL_law_713 (by decide) (fun _ => kk _ _) (fun c => absurd rfl c)
set_option maxHeartbeats 4000000 in
set_option maxRecDepth 100000 in
/-- brightestStart -/
theorem law_26 {z : ZG} {nm : String} {Q : ZQ} {i kc nc : Nat} {h : AH} (hi : i + 2 < zN z) (hN : zN z ≤ 3) (hkn : kc ≤ 600000 ∧ nc ≤ 7302250) (kk : ∀ (h : AH) (sz : Nat), V z (YL nm) room_1 Q 826 [some (.retAddr (zX z)), some (.ref 0), some (.ref 114), some (.int (I (i : Int)))] [] h sz kc nc) (hE : ENN h) (hM : MN h h) : V z (YL nm) room_1 Q 718 [some (.retAddr (zX z)), some (.ref 0), some (.ref 114), some (.int (I (i : Int)))] [] h 122 kc nc := by
  obtain ⟨c1, hc1, e1⟩ := I_of (zF z (i + 1))
  obtain ⟨c2, hc2, e2⟩ := I_of (zF z (i + 2))
  refine V_aload_n dL_law_718 rfl ?_
  refine V_aload_nS dL_law_719 rfl ?_
  refine V_iload_n dL_law_720 rfl ?_
  refine J_iconst dL_law_721 ?_
  refine J_iadd dL_law_722 ?_
  refine V_top (b := ((i + 1 : Nat) : Int)) (by omega) ?_
  refine V_sld (k := i + 1) (by omega) (by omega) dL_law_723 ?_
  rw [e1]
  refine V_callVR (Y' := YX7_brightestStart) dL_law_724 lL_123 gX7_brightestStart (q7_brightestStart (d := 0) hE hc1) hE.1 rfl rfl rfl (Nat.le_of_ble_eq_true rfl) (Nat.le_of_ble_eq_true rfl) (Nat.le_of_ble_eq_true rfl) ⟨by show kc + 0 ≤ 600000; omega, by show nc + 0 ≤ 7302250; omega⟩ (fun v h1 sz1 hq => ?_)
  obtain ⟨rfl, hf, rfl⟩ := hq
  have hM : MN h1 h1 := MS.re (h2 := h1) hM (fun x hx => hf x (by omega))
  refine V_aload_n dL_law_727 rfl ?_
  refine V_aload_nS dL_law_728 rfl ?_
  refine V_iload_n dL_law_729 rfl ?_
  refine J_iconst dL_law_730 ?_
  refine J_iadd dL_law_731 ?_
  refine V_top (b := ((i + 1 : Nat) : Int)) (by omega) ?_
  refine V_sld (k := i + 1) (by omega) (by omega) dL_law_732 ?_
  rw [e1]
  refine V_callVR (Y' := YX8_brightestStart) dL_law_733 lL_126 gX8_brightestStart (q8_brightestStart (d := 0) hM hc1) hM.1 rfl rfl rfl (Nat.le_of_ble_eq_true rfl) (Nat.le_of_ble_eq_true rfl) (Nat.le_of_ble_eq_true rfl) ⟨by show kc + 0 ≤ 600000; omega, by show nc + 0 ≤ 7302250; omega⟩ (fun v h2 sz2 hq => ?_)
  subst hq
  exact V_icmp_eq (tgt := 826) dL_law_736 (by decide) (fun _ => kk _ _) (fun c => absurd rfl c)
set_option maxHeartbeats 4000000 in
set_option maxRecDepth 100000 in
/-- overlayPeriod -/
theorem law_27 {z : ZG} {nm : String} {Q : ZQ} {i kc nc : Nat} {h : AH} (hi : i + 2 < zN z) (hN : zN z ≤ 3) (hkn : kc ≤ 600000 ∧ nc ≤ 7302250) (kk : ∀ (h : AH) (sz : Nat), V z (YL nm) room_1 Q 826 [some (.retAddr (zX z)), some (.ref 0), some (.ref 114), some (.int (I (i : Int)))] [] h sz kc nc) (hE : ENN h) (hM : MN h h) : V z (YL nm) room_1 Q 741 [some (.retAddr (zX z)), some (.ref 0), some (.ref 114), some (.int (I (i : Int)))] [] h 122 kc nc := by
  obtain ⟨c1, hc1, e1⟩ := I_of (zF z (i + 1))
  obtain ⟨c2, hc2, e2⟩ := I_of (zF z (i + 2))
  refine V_aload_n dL_law_741 rfl ?_
  refine V_callVR (Y' := YX7_overlayPeriod) dL_law_742 lL_127 gX7_overlayPeriod (q7_overlayPeriod (d := 0) hE ) hE.1 rfl rfl rfl (Nat.le_of_ble_eq_true rfl) (Nat.le_of_ble_eq_true rfl) (Nat.le_of_ble_eq_true rfl) ⟨by show kc + 0 ≤ 600000; omega, by show nc + 0 ≤ 7302250; omega⟩ (fun v h1 sz1 hq => ?_)
  obtain ⟨rfl, hf, rfl⟩ := hq
  have hM : MN h1 h1 := MS.re (h2 := h1) hM (fun x hx => hf x (by omega))
  refine V_aload_n dL_law_745 rfl ?_
  refine V_callVR (Y' := YX8_overlayPeriod) dL_law_746 lL_130 gX8_overlayPeriod (q8_overlayPeriod (d := 0) hM ) hM.1 rfl rfl rfl (Nat.le_of_ble_eq_true rfl) (Nat.le_of_ble_eq_true rfl) (Nat.le_of_ble_eq_true rfl) ⟨by show kc + 0 ≤ 600000; omega, by show nc + 0 ≤ 7302250; omega⟩ (fun v h2 sz2 hq => ?_)
  subst hq
  exact V_icmp_eq (tgt := 826) dL_law_749 (by decide) (fun _ => kk _ _) (fun c => absurd rfl c)
set_option maxHeartbeats 4000000 in
set_option maxRecDepth 100000 in
/-- fringePeriodNumerator -/
theorem law_28 {z : ZG} {nm : String} {Q : ZQ} {i kc nc : Nat} {h : AH} (hi : i + 2 < zN z) (hN : zN z ≤ 3) (hkn : kc ≤ 600000 ∧ nc ≤ 7302250) (kk : ∀ (h : AH) (sz : Nat), V z (YL nm) room_1 Q 826 [some (.retAddr (zX z)), some (.ref 0), some (.ref 114), some (.int (I (i : Int)))] [] h sz kc nc) (hE : ENN h) (hM : MN h h) : V z (YL nm) room_1 Q 754 [some (.retAddr (zX z)), some (.ref 0), some (.ref 114), some (.int (I (i : Int)))] [] h 122 kc nc := by
  obtain ⟨c1, hc1, e1⟩ := I_of (zF z (i + 1))
  obtain ⟨c2, hc2, e2⟩ := I_of (zF z (i + 2))
  refine V_aload_n dL_law_754 rfl ?_
  refine V_callVR (Y' := YX7_fringePeriodNumerator) dL_law_755 lL_131 gX7_fringePeriodNumerator (q7_fringePeriodNumerator (d := 0) hE ) hE.1 rfl rfl rfl (Nat.le_of_ble_eq_true rfl) (Nat.le_of_ble_eq_true rfl) (Nat.le_of_ble_eq_true rfl) ⟨by show kc + 0 ≤ 600000; omega, by show nc + 0 ≤ 7302250; omega⟩ (fun v h1 sz1 hq => ?_)
  obtain ⟨rfl, hf, rfl⟩ := hq
  have hM : MN h1 h1 := MS.re (h2 := h1) hM (fun x hx => hf x (by omega))
  refine V_aload_n dL_law_758 rfl ?_
  refine V_callVR (Y' := YX8_fringePeriodNumerator) dL_law_759 lL_134 gX8_fringePeriodNumerator (q8_fringePeriodNumerator (d := 0) hM ) hM.1 rfl rfl rfl (Nat.le_of_ble_eq_true rfl) (Nat.le_of_ble_eq_true rfl) (Nat.le_of_ble_eq_true rfl) ⟨by show kc + 0 ≤ 600000; omega, by show nc + 0 ≤ 7302250; omega⟩ (fun v h2 sz2 hq => ?_)
  subst hq
  exact V_icmp_eq (tgt := 826) dL_law_762 (by decide) (fun _ => kk _ _) (fun c => absurd rfl c)
set_option maxHeartbeats 4000000 in
set_option maxRecDepth 100000 in
/-- fringePeriodDenominator -/
theorem law_29 {z : ZG} {nm : String} {Q : ZQ} {i kc nc : Nat} {h : AH} (hi : i + 2 < zN z) (hN : zN z ≤ 3) (hkn : kc ≤ 600000 ∧ nc ≤ 7302250) (kk : ∀ (h : AH) (sz : Nat), V z (YL nm) room_1 Q 826 [some (.retAddr (zX z)), some (.ref 0), some (.ref 114), some (.int (I (i : Int)))] [] h sz kc nc) (hE : ENN h) (hM : MN h h) : V z (YL nm) room_1 Q 767 [some (.retAddr (zX z)), some (.ref 0), some (.ref 114), some (.int (I (i : Int)))] [] h 122 kc nc := by
  obtain ⟨c1, hc1, e1⟩ := I_of (zF z (i + 1))
  obtain ⟨c2, hc2, e2⟩ := I_of (zF z (i + 2))
  refine V_aload_n dL_law_767 rfl ?_
  refine V_callVR (Y' := YX7_fringePeriodDenominator) dL_law_768 lL_135 gX7_fringePeriodDenominator (q7_fringePeriodDenominator (d := 0) hE ) hE.1 rfl rfl rfl (Nat.le_of_ble_eq_true rfl) (Nat.le_of_ble_eq_true rfl) (Nat.le_of_ble_eq_true rfl) ⟨by show kc + 0 ≤ 600000; omega, by show nc + 0 ≤ 7302250; omega⟩ (fun v h1 sz1 hq => ?_)
  obtain ⟨rfl, hf, rfl⟩ := hq
  have hM : MN h1 h1 := MS.re (h2 := h1) hM (fun x hx => hf x (by omega))
  refine V_aload_n dL_law_771 rfl ?_
  refine V_callVR (Y' := YX8_fringePeriodDenominator) dL_law_772 lL_138 gX8_fringePeriodDenominator (q8_fringePeriodDenominator (d := 0) hM ) hM.1 rfl rfl rfl (Nat.le_of_ble_eq_true rfl) (Nat.le_of_ble_eq_true rfl) (Nat.le_of_ble_eq_true rfl) ⟨by show kc + 0 ≤ 600000; omega, by show nc + 0 ≤ 7302250; omega⟩ (fun v h2 sz2 hq => ?_)
  subst hq
  exact V_icmp_eq (tgt := 826) dL_law_775 (by decide) (fun _ => kk _ _) (fun c => absurd rfl c)
set_option maxHeartbeats 4000000 in
set_option maxRecDepth 100000 in
/-- magnificationBits -/
theorem law_30 {z : ZG} {nm : String} {Q : ZQ} {i kc nc : Nat} {h : AH} (hi : i + 2 < zN z) (hN : zN z ≤ 3) (hkn : kc ≤ 600000 ∧ nc ≤ 7302250) (kk : ∀ (h : AH) (sz : Nat), V z (YL nm) room_1 Q 826 [some (.retAddr (zX z)), some (.ref 0), some (.ref 114), some (.int (I (i : Int)))] [] h sz kc nc) (hE : ENN h) (hM : MN h h) : V z (YL nm) room_1 Q 780 [some (.retAddr (zX z)), some (.ref 0), some (.ref 114), some (.int (I (i : Int)))] [] h 122 kc nc := by
  obtain ⟨c1, hc1, e1⟩ := I_of (zF z (i + 1))
  obtain ⟨c2, hc2, e2⟩ := I_of (zF z (i + 2))
  refine V_aload_n dL_law_780 rfl ?_
  refine V_callVR (Y' := YX7_magnificationBits) dL_law_781 lL_139 gX7_magnificationBits (q7_magnificationBits (d := 0) hE ) hE.1 rfl rfl rfl (Nat.le_of_ble_eq_true rfl) (Nat.le_of_ble_eq_true rfl) (Nat.le_of_ble_eq_true rfl) ⟨by show kc + 0 ≤ 600000; omega, by show nc + 0 ≤ 7302250; omega⟩ (fun v h1 sz1 hq => ?_)
  obtain ⟨rfl, hf, rfl⟩ := hq
  have hM : MN h1 h1 := MS.re (h2 := h1) hM (fun x hx => hf x (by omega))
  refine V_aload_n dL_law_784 rfl ?_
  refine V_callVR (Y' := YX8_magnificationBits) dL_law_785 lL_142 gX8_magnificationBits (q8_magnificationBits (d := 0) hM ) hM.1 rfl rfl rfl (Nat.le_of_ble_eq_true rfl) (Nat.le_of_ble_eq_true rfl) (Nat.le_of_ble_eq_true rfl) ⟨by show kc + 0 ≤ 600000; omega, by show nc + 0 ≤ 7302250; omega⟩ (fun v h2 sz2 hq => ?_)
  subst hq
  exact V_icmp_eq (tgt := 826) dL_law_788 (by decide) (fun _ => kk _ _) (fun c => absurd rfl c)
set_option maxHeartbeats 4000000 in
set_option maxRecDepth 100000 in
/-- crossedSpacingBits -/
theorem law_31 {z : ZG} {nm : String} {Q : ZQ} {i kc nc : Nat} {h : AH} (hi : i + 2 < zN z) (hN : zN z ≤ 3) (hkn : kc ≤ 600000 ∧ nc ≤ 7302250) (kk : ∀ (h : AH) (sz : Nat), V z (YL nm) room_1 Q 826 [some (.retAddr (zX z)), some (.ref 0), some (.ref 114), some (.int (I (i : Int)))] [] h sz kc nc) (hE : ENN h) (hM : MN h h) : V z (YL nm) room_1 Q 793 [some (.retAddr (zX z)), some (.ref 0), some (.ref 114), some (.int (I (i : Int)))] [] h 122 kc nc := by
  obtain ⟨c1, hc1, e1⟩ := I_of (zF z (i + 1))
  obtain ⟨c2, hc2, e2⟩ := I_of (zF z (i + 2))
  refine V_aload_n dL_law_793 rfl ?_
  refine V_aload_nS dL_law_794 rfl ?_
  refine V_iload_n dL_law_795 rfl ?_
  refine J_iconst dL_law_796 ?_
  refine J_iadd dL_law_797 ?_
  refine V_top (b := ((i + 1 : Nat) : Int)) (by omega) ?_
  refine V_sld (k := i + 1) (by omega) (by omega) dL_law_798 ?_
  rw [e1]
  refine V_aload_nS dL_law_799 rfl ?_
  refine V_iload_n dL_law_800 rfl ?_
  refine J_iconst dL_law_801 ?_
  refine J_iadd dL_law_802 ?_
  refine V_top (b := ((i + 2 : Nat) : Int)) (by omega) ?_
  refine V_sld (k := i + 2) (by omega) (by omega) dL_law_803 ?_
  rw [e2]
  refine V_callVR (Y' := YX7_crossedSpacingBits) dL_law_804 lL_143 gX7_crossedSpacingBits (q7_crossedSpacingBits (d := 0) hE hc1 hc2) hE.1 rfl rfl rfl (Nat.le_of_ble_eq_true rfl) (Nat.le_of_ble_eq_true rfl) (Nat.le_of_ble_eq_true rfl) ⟨by show kc + 0 ≤ 600000; omega, by show nc + 0 ≤ 7302250; omega⟩ (fun v h1 sz1 hq => ?_)
  obtain ⟨rfl, hf, rfl⟩ := hq
  have hM : MN h1 h1 := MS.re (h2 := h1) hM (fun x hx => hf x (by omega))
  refine V_aload_n dL_law_807 rfl ?_
  refine V_aload_nS dL_law_808 rfl ?_
  refine V_iload_n dL_law_809 rfl ?_
  refine J_iconst dL_law_810 ?_
  refine J_iadd dL_law_811 ?_
  refine V_top (b := ((i + 1 : Nat) : Int)) (by omega) ?_
  refine V_sld (k := i + 1) (by omega) (by omega) dL_law_812 ?_
  rw [e1]
  refine V_aload_nS dL_law_813 rfl ?_
  refine V_iload_n dL_law_814 rfl ?_
  refine J_iconst dL_law_815 ?_
  refine J_iadd dL_law_816 ?_
  refine V_top (b := ((i + 2 : Nat) : Int)) (by omega) ?_
  refine V_sld (k := i + 2) (by omega) (by omega) dL_law_817 ?_
  rw [e2]
  refine V_callVR (Y' := YX8_crossedSpacingBits) dL_law_818 lL_146 gX8_crossedSpacingBits (q8_crossedSpacingBits (d := 0) hM hc1 hc2) hM.1 rfl rfl rfl (Nat.le_of_ble_eq_true rfl) (Nat.le_of_ble_eq_true rfl) (Nat.le_of_ble_eq_true rfl) ⟨by show kc + 0 ≤ 600000; omega, by show nc + 0 ≤ 7302250; omega⟩ (fun v h2 sz2 hq => ?_)
  subst hq
  exact V_icmp_eq (tgt := 826) dL_law_821 (by decide) (fun _ => kk _ _) (fun c => absurd rfl c)
set_option maxHeartbeats 4000000 in
set_option maxRecDepth 100000 in
theorem law_once {z : ZG} {nm : String} {kc nc : Nat} {h : AH} (hN : zN z ≤ 3) (hkn : kc ≤ 600000 ∧ nc ≤ 7302250) (hE : ENN h) (hM : MN h h) (i : Nat) (hi0 : i = 0) : V z (YL nm) room_1 (fun w _ _ => w = some (.int (I 1))) 18 [some (.retAddr (zX z)), some (.ref 0), some (.ref 114), some (.int (I (i : Int)))] [] h 122 kc nc := by
  have hR : ∀ (h : AH) (sz : Nat), V z (YL nm) room_1 (fun w _ _ => w = some (.int (I 1))) 832 [some (.retAddr (zX z)), some (.ref 0), some (.ref 114), some (.int (I (i : Int)))] [] h sz kc nc := fun h sz => by
    refine J_iconst dL_law_832 ?_
    exact V_iret dL_law_833 rfl rfl ⟨by show kc ≤ 600000; omega, by show nc ≤ 7302250; omega⟩ rfl
  have hR3 : ∀ (h : AH) (sz : Nat), V z (YL nm) room_1 (fun w _ _ => w = some (.int (I 1))) 832 [some (.retAddr (zX z)), some (.ref 0), some (.ref 114), some (.int (I ((i : Int) + 3)))] [] h sz kc nc := fun h sz => by
    refine J_iconst dL_law_832 ?_
    exact V_iret dL_law_833 rfl rfl ⟨by show kc ≤ 600000; omega, by show nc ≤ 7302250; omega⟩ rfl
  refine V_iload_n dL_law_18 rfl ?_
  refine V_aload_nS dL_law_19 rfl ?_
  refine V_slen dL_law_20 ?_
  refine J_iconst dL_law_21 ?_
  refine J_isub dL_law_22 ?_
  refine J_icmp_gt (tgt := 832) dL_law_23 (by decide) (by omega) (by omega) (fun c => hR _ _) (fun c => ?_)
  have hi : i + 2 < zN z := by omega
  have kk : ∀ (h : AH) (sz : Nat), V z (YL nm) room_1 (fun w _ _ => w = some (.int (I 1))) 826 [some (.retAddr (zX z)), some (.ref 0), some (.ref 114), some (.int (I (i : Int)))] [] h sz kc nc := fun h sz => by
    refine J_iinc dL_law_826 rfl ?_
    refine V_goto (tgt := 18) dL_law_829 (by decide) ?_
    refine V_iload_n dL_law_18 rfl ?_
    refine V_aload_nS dL_law_19 rfl ?_
    refine V_slen dL_law_20 ?_
    refine J_iconst dL_law_21 ?_
    refine J_isub dL_law_22 ?_
    exact J_icmp_gt (tgt := 832) dL_law_23 (by decide) (by omega) (by omega) (fun c => hR3 _ _) (fun c => absurd (by omega) c)
  refine V_aload_nS dL_law_26 rfl ?_
  refine V_iload_n dL_law_27 rfl ?_
  refine V_sld (k := i) (by omega) (by omega) dL_law_28 ?_
  refine J_bipush dL_law_29 (by decide) ?_
  refine V_iand dL_law_31 ?_
  obtain ⟨n, hn, en⟩ := and31 (zF z i)
  rw [en]
  have hLI : (I (n : Int)).toInt = n := I_toInt (by omega)
  match n, hn, hLI with
  | 0, _, hLI => exact V_tableIn (tgt := 176) (off := 144) dL_law_32 (by rw [hLI]; decide) (by rw [hLI]; decide) (by rw [hLI]; rfl) (by decide) (law_0 hi hN hkn kk hE hM)
  | 1, _, hLI => exact V_tableIn (tgt := 199) (off := 167) dL_law_32 (by rw [hLI]; decide) (by rw [hLI]; decide) (by rw [hLI]; rfl) (by decide) (law_1 hi hN hkn kk hE hM)
  | 2, _, hLI => exact V_tableIn (tgt := 212) (off := 180) dL_law_32 (by rw [hLI]; decide) (by rw [hLI]; decide) (by rw [hLI]; rfl) (by decide) (law_2 hi hN hkn kk hE hM)
  | 3, _, hLI => exact V_tableIn (tgt := 225) (off := 193) dL_law_32 (by rw [hLI]; decide) (by rw [hLI]; decide) (by rw [hLI]; rfl) (by decide) (law_3 hi hN hkn kk hE hM)
  | 4, _, hLI => exact V_tableIn (tgt := 238) (off := 206) dL_law_32 (by rw [hLI]; decide) (by rw [hLI]; decide) (by rw [hLI]; rfl) (by decide) (law_4 hi hN hkn kk hE hM)
  | 5, _, hLI => exact V_tableIn (tgt := 271) (off := 239) dL_law_32 (by rw [hLI]; decide) (by rw [hLI]; decide) (by rw [hLI]; rfl) (by decide) (law_5 hi hN hkn kk hE hM)
  | 6, _, hLI => exact V_tableIn (tgt := 294) (off := 262) dL_law_32 (by rw [hLI]; decide) (by rw [hLI]; decide) (by rw [hLI]; rfl) (by decide) (law_6 hi hN hkn kk hE hM)
  | 7, _, hLI => exact V_tableIn (tgt := 327) (off := 295) dL_law_32 (by rw [hLI]; decide) (by rw [hLI]; decide) (by rw [hLI]; rfl) (by decide) (law_7 hi hN hkn kk hE hM)
  | 8, _, hLI => exact V_tableIn (tgt := 360) (off := 328) dL_law_32 (by rw [hLI]; decide) (by rw [hLI]; decide) (by rw [hLI]; rfl) (by decide) (law_8 hi hN hkn kk hE hM)
  | 9, _, hLI => exact V_tableIn (tgt := 383) (off := 351) dL_law_32 (by rw [hLI]; decide) (by rw [hLI]; decide) (by rw [hLI]; rfl) (by decide) (law_9 hi hN hkn kk hE hM)
  | 10, _, hLI => exact V_tableIn (tgt := 396) (off := 364) dL_law_32 (by rw [hLI]; decide) (by rw [hLI]; decide) (by rw [hLI]; rfl) (by decide) (law_10 hi hN hkn kk hE hM)
  | 11, _, hLI => exact V_tableIn (tgt := 419) (off := 387) dL_law_32 (by rw [hLI]; decide) (by rw [hLI]; decide) (by rw [hLI]; rfl) (by decide) (law_11 hi hN hkn kk hE hM)
  | 12, _, hLI => exact V_tableIn (tgt := 432) (off := 400) dL_law_32 (by rw [hLI]; decide) (by rw [hLI]; decide) (by rw [hLI]; rfl) (by decide) (law_12 hi hN hkn kk hE hM)
  | 13, _, hLI => exact V_tableIn (tgt := 445) (off := 413) dL_law_32 (by rw [hLI]; decide) (by rw [hLI]; decide) (by rw [hLI]; rfl) (by decide) (law_13 hi hN hkn kk hE hM)
  | 14, _, hLI => exact V_tableIn (tgt := 459) (off := 427) dL_law_32 (by rw [hLI]; decide) (by rw [hLI]; decide) (by rw [hLI]; rfl) (by decide) (law_14 hi hN hkn kk hE hM)
  | 15, _, hLI => exact V_tableIn (tgt := 473) (off := 441) dL_law_32 (by rw [hLI]; decide) (by rw [hLI]; decide) (by rw [hLI]; rfl) (by decide) (law_15 hi hN hkn kk hE hM)
  | 16, _, hLI => exact V_tableIn (tgt := 486) (off := 454) dL_law_32 (by rw [hLI]; decide) (by rw [hLI]; decide) (by rw [hLI]; rfl) (by decide) (law_16 hi hN hkn kk hE hM)
  | 17, _, hLI => exact V_tableIn (tgt := 499) (off := 467) dL_law_32 (by rw [hLI]; decide) (by rw [hLI]; decide) (by rw [hLI]; rfl) (by decide) (law_17 hi hN hkn kk hE hM)
  | 18, _, hLI => exact V_tableIn (tgt := 512) (off := 480) dL_law_32 (by rw [hLI]; decide) (by rw [hLI]; decide) (by rw [hLI]; rfl) (by decide) (law_18 hi hN hkn kk hE hM)
  | 19, _, hLI => exact V_tableIn (tgt := 535) (off := 503) dL_law_32 (by rw [hLI]; decide) (by rw [hLI]; decide) (by rw [hLI]; rfl) (by decide) (law_19 hi hN hkn kk hE hM)
  | 20, _, hLI => exact V_tableIn (tgt := 558) (off := 526) dL_law_32 (by rw [hLI]; decide) (by rw [hLI]; decide) (by rw [hLI]; rfl) (by decide) (law_20 hi hN hkn kk hE hM)
  | 21, _, hLI => exact V_tableIn (tgt := 581) (off := 549) dL_law_32 (by rw [hLI]; decide) (by rw [hLI]; decide) (by rw [hLI]; rfl) (by decide) (law_21 hi hN hkn kk hE hM)
  | 22, _, hLI => exact V_tableIn (tgt := 604) (off := 572) dL_law_32 (by rw [hLI]; decide) (by rw [hLI]; decide) (by rw [hLI]; rfl) (by decide) (law_22 hi hN hkn kk hE hM)
  | 23, _, hLI => exact V_tableIn (tgt := 628) (off := 596) dL_law_32 (by rw [hLI]; decide) (by rw [hLI]; decide) (by rw [hLI]; rfl) (by decide) (law_23 hi hN hkn kk hE hM)
  | 24, _, hLI => exact V_tableIn (tgt := 662) (off := 630) dL_law_32 (by rw [hLI]; decide) (by rw [hLI]; decide) (by rw [hLI]; rfl) (by decide) (law_24 hi hN hkn kk hE hM)
  | 25, _, hLI => exact V_tableIn (tgt := 685) (off := 653) dL_law_32 (by rw [hLI]; decide) (by rw [hLI]; decide) (by rw [hLI]; rfl) (by decide) (law_25 hi hN hkn kk hE hM)
  | 26, _, hLI => exact V_tableIn (tgt := 718) (off := 686) dL_law_32 (by rw [hLI]; decide) (by rw [hLI]; decide) (by rw [hLI]; rfl) (by decide) (law_26 hi hN hkn kk hE hM)
  | 27, _, hLI => exact V_tableIn (tgt := 741) (off := 709) dL_law_32 (by rw [hLI]; decide) (by rw [hLI]; decide) (by rw [hLI]; rfl) (by decide) (law_27 hi hN hkn kk hE hM)
  | 28, _, hLI => exact V_tableIn (tgt := 754) (off := 722) dL_law_32 (by rw [hLI]; decide) (by rw [hLI]; decide) (by rw [hLI]; rfl) (by decide) (law_28 hi hN hkn kk hE hM)
  | 29, _, hLI => exact V_tableIn (tgt := 767) (off := 735) dL_law_32 (by rw [hLI]; decide) (by rw [hLI]; decide) (by rw [hLI]; rfl) (by decide) (law_29 hi hN hkn kk hE hM)
  | 30, _, hLI => exact V_tableIn (tgt := 780) (off := 748) dL_law_32 (by rw [hLI]; decide) (by rw [hLI]; decide) (by rw [hLI]; rfl) (by decide) (law_30 hi hN hkn kk hE hM)
  | 31, _, hLI => exact V_tableIn (tgt := 793) (off := 761) dL_law_32 (by rw [hLI]; decide) (by rw [hLI]; decide) (by rw [hLI]; rfl) (by decide) (law_31 hi hN hkn kk hE hM)
  | n + 32, hn, _ => exact absurd hn (by omega)
