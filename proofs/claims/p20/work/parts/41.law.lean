/-! THE LAW: its cases -/
set_option maxHeartbeats 4000000 in
set_option maxRecDepth 100000 in
/-- append -/
theorem law_0 {z : ZG} {nm : String} {Q : ZQ} {i kc nc : Nat} {h : AH} (hi : i + 2 < zN z) (hN : zN z ≤ 1536) (hkn : kc ≤ 600000 ∧ nc ≤ 7302250) (kk : ∀ h : AH, LI h → V z (YL nm) room_1 Q 822 [some (.retAddr (zX z)), some (.ref 0), some (.ref 114), some (.int (I (i : Int)))] [] h 122 kc nc) (hL : LI h) : V z (YL nm) room_1 Q 176 [some (.retAddr (zX z)), some (.ref 0), some (.ref 114), some (.int (I (i : Int)))] [] h 122 kc nc := by
  obtain ⟨l, T, mk, MA, sc, hG, hP, hR⟩ := hL
  obtain ⟨c1, hc1, e1⟩ := I_of (zF z (i + 1))
  obtain ⟨c2, hc2, e2⟩ := I_of (zF z (i + 2))
  obtain ⟨fsO, hO⟩ := hP.o
  obtain ⟨s, hn, NN, hE, hh, hrN⟩ := hP
  obtain ⟨g1, g2, g3, g4, g5⟩ := id hG
  obtain ⟨n8, s8, sp8, nu8, rs8, rm8, km8, RA8, RD8, NW8, SD8, KP8, hm8, hra8, hr8, hk8, hkr8⟩ := id hR
  refine V_aload_n dL_law_176 rfl ?_
  refine V_aload_nS dL_law_177 rfl ?_
  refine V_iload_n dL_law_178 rfl ?_
  refine J_iconst dL_law_179 ?_
  refine J_iadd dL_law_180 ?_
  refine V_top (b := ((i + 1 : Nat) : Int)) (by omega) ?_
  refine V_sld (k := i + 1) (by omega) (by omega) dL_law_181 ?_
  rw [e1]
  refine V_callVR (Y' := YX7_append) dL_law_182 lL_13 gX7_append (m7_append (d := 0) hE ⟨g1, g2, g3, g4, g5, hh, hrN⟩ hc1) hE.1 rfl rfl rfl (Nat.le_of_ble_eq_true rfl) (Nat.le_of_ble_eq_true rfl) (Nat.le_of_ble_eq_true rfl) ⟨by show kc + 0 ≤ 600000; omega, by show nc + 0 ≤ 7302250; omega⟩ (fun v h1 sz1 hq => ?_)
  obtain ⟨res1, l1, T1, rfl, rfl, hf, hE, hap1⟩ := hq
  have hm8 := hm8.re (h2 := h1) (fun x hx => hf x (by omega))
  refine V_pop dL_law_185 rfl ?_
  refine V_aload_n dL_law_186 rfl ?_
  refine V_aload_nS dL_law_187 rfl ?_
  refine V_iload_n dL_law_188 rfl ?_
  refine J_iconst dL_law_189 ?_
  refine J_iadd dL_law_190 ?_
  refine V_top (b := ((i + 1 : Nat) : Int)) (by omega) ?_
  refine V_sld (k := i + 1) (by omega) (by omega) dL_law_191 ?_
  rw [e1]
  refine V_callVR (Y' := YX8_append) dL_law_192 lL_17 gX8_append (m8_append (d := 0) hc1 hm8 g1) hm8.1 rfl rfl rfl (Nat.le_of_ble_eq_true rfl) (Nat.le_of_ble_eq_true rfl) (Nat.le_of_ble_eq_true rfl) ⟨by show kc + 0 ≤ 600000; omega, by show nc + 0 ≤ 7302250; omega⟩ (fun v h2 sz2 hq => ?_)
  obtain ⟨res2, l2, T2, rfl, rfl, hm9, hap2⟩ := hq
  obtain ⟨er, el, eT⟩ := apR_un hap1 hap2
  have hG := apR_gr hap1 hG
  rw [← el, ← eT] at hm9
  refine V_pop dL_law_195 rfl ?_
  refine V_goto (tgt := 822) dL_law_196 (by decide) ?_
  exact kk _ ⟨l1, T1, mk, MA, sc, hG, ⟨_, _, _, hE.kept (fun q hq => hm9.2.2.2 q hq), hh, hrN⟩, _, _, _, _, _, _, _, _, _, _, _, _, hm9.re (fun _ _ => rfl), hra8, hr8, hk8, hkr8⟩
set_option maxHeartbeats 4000000 in
set_option maxRecDepth 100000 in
/-- clearText -/
theorem law_1 {z : ZG} {nm : String} {Q : ZQ} {i kc nc : Nat} {h : AH} (hi : i + 2 < zN z) (hN : zN z ≤ 1536) (hkn : kc ≤ 600000 ∧ nc ≤ 7302250) (kk : ∀ h : AH, LI h → V z (YL nm) room_1 Q 822 [some (.retAddr (zX z)), some (.ref 0), some (.ref 114), some (.int (I (i : Int)))] [] h 122 kc nc) (hL : LI h) : V z (YL nm) room_1 Q 199 [some (.retAddr (zX z)), some (.ref 0), some (.ref 114), some (.int (I (i : Int)))] [] h 122 kc nc := by
  obtain ⟨l, T, mk, MA, sc, hG, hP, hR⟩ := hL
  obtain ⟨c1, hc1, e1⟩ := I_of (zF z (i + 1))
  obtain ⟨c2, hc2, e2⟩ := I_of (zF z (i + 2))
  obtain ⟨fsO, hO⟩ := hP.o
  obtain ⟨s, hn, NN, hE, hh, hrN⟩ := hP
  obtain ⟨g1, g2, g3, g4, g5⟩ := id hG
  obtain ⟨n8, s8, sp8, nu8, rs8, rm8, km8, RA8, RD8, NW8, SD8, KP8, hm8, hra8, hr8, hk8, hkr8⟩ := id hR
  refine V_aload_n dL_law_199 rfl ?_
  refine V_callVR (Y' := YX7_clearText) dL_law_200 lL_18 gX7_clearText (m7_clearText (d := 0) hE ⟨g1, g2, g3, g4, g5, hh, hrN⟩) hE.1 rfl rfl rfl (Nat.le_of_ble_eq_true rfl) (Nat.le_of_ble_eq_true rfl) (Nat.le_of_ble_eq_true rfl) ⟨by show kc + 0 ≤ 600000; omega, by show nc + 0 ≤ 7302250; omega⟩ (fun v h1 sz1 hq => ?_)
  obtain ⟨rfl, rfl, hf, hE⟩ := hq
  have hm8 := hm8.re (h2 := h1) (fun x hx => hf x (by omega))
  refine V_pop dL_law_203 rfl ?_
  refine V_aload_n dL_law_204 rfl ?_
  refine V_callVR (Y' := YX8_clearText) dL_law_205 lL_22 gX8_clearText (m8_clearText (d := 0) hm8) hm8.1 rfl rfl rfl (Nat.le_of_ble_eq_true rfl) (Nat.le_of_ble_eq_true rfl) (Nat.le_of_ble_eq_true rfl) ⟨by show kc + 0 ≤ 600000; omega, by show nc + 0 ≤ 7302250; omega⟩ (fun v h2 sz2 hq => ?_)
  obtain ⟨rfl, rfl, hm9⟩ := hq
  refine V_pop dL_law_208 rfl ?_
  refine V_goto (tgt := 822) dL_law_209 (by decide) ?_
  exact kk _ ⟨0, T, mk, MA, sc, ⟨⟨Int.le_refl _, by decide⟩, g2, g3, g4, g5⟩, ⟨_, _, _, hE.kept (fun q hq => hm9.2.2.2 q hq), hh, hrN⟩, _, _, _, _, _, _, _, _, _, _, _, _, hm9.re (fun _ _ => rfl), hra8, hr8, hk8, hkr8⟩
set_option maxHeartbeats 4000000 in
set_option maxRecDepth 100000 in
/-- firstError -/
theorem law_2 {z : ZG} {nm : String} {Q : ZQ} {i kc nc : Nat} {h : AH} (hi : i + 2 < zN z) (hN : zN z ≤ 1536) (hkn : kc ≤ 600000 ∧ nc ≤ 7302250) (kk : ∀ h : AH, LI h → V z (YL nm) room_1 Q 822 [some (.retAddr (zX z)), some (.ref 0), some (.ref 114), some (.int (I (i : Int)))] [] h 122 kc nc) (hL : LI h) : V z (YL nm) room_1 Q 212 [some (.retAddr (zX z)), some (.ref 0), some (.ref 114), some (.int (I (i : Int)))] [] h 122 kc nc := by
  obtain ⟨l, T, mk, MA, sc, hG, hP, hR⟩ := hL
  obtain ⟨c1, hc1, e1⟩ := I_of (zF z (i + 1))
  obtain ⟨c2, hc2, e2⟩ := I_of (zF z (i + 2))
  obtain ⟨fsO, hO⟩ := hP.o
  obtain ⟨s, hn, NN, hE, hh, hrN⟩ := hP
  obtain ⟨g1, g2, g3, g4, g5⟩ := id hG
  obtain ⟨n8, s8, sp8, nu8, rs8, rm8, km8, RA8, RD8, NW8, SD8, KP8, hm8, hra8, hr8, hk8, hkr8⟩ := id hR
  refine V_aload_n dL_law_212 rfl ?_
  refine V_callVR (Y' := YX7_firstError) dL_law_213 lL_23 gX7_firstError (m7_firstError (d := 0) hE g1 g2 hra8) hE.1 rfl rfl rfl (Nat.le_of_ble_eq_true rfl) (Nat.le_of_ble_eq_true rfl) (Nat.le_of_ble_eq_true rfl) ⟨by show kc + 0 ≤ 600000; omega, by show nc + 0 ≤ 7302250; omega⟩ (fun v h1 sz1 hq => ?_)
  obtain ⟨rfl, hf, rfl, hE⟩ := hq
  have hm8 := hm8.re (h2 := h1) (fun x hx => hf x (by omega))
  refine V_pop dL_law_216 rfl ?_
  refine V_aload_n dL_law_217 rfl ?_
  refine V_callVR (Y' := YX8_firstError) dL_law_218 lL_26 gX8_firstError (m8_firstError (d := 0) g2 g1 hra8 hm8) hm8.1 rfl rfl rfl (Nat.le_of_ble_eq_true rfl) (Nat.le_of_ble_eq_true rfl) (Nat.le_of_ble_eq_true rfl) ⟨by show kc + 0 ≤ 600000; omega, by show nc + 0 ≤ 7302250; omega⟩ (fun v h2 sz2 hq => ?_)
  obtain ⟨rfl, rfl, hq⟩ := hq
  have hR9 : RP h2 h1 l T mk MA sc := by
    rcases hq with ⟨_, hk, nu2, hm9⟩ | ⟨_, sp2, nu2, rs2, rm2, RA2, RD2, hra2, hm9⟩
    · exact ⟨_, _, _, _, _, _, _, _, _, _, _, _, hm9, hk.2.2.1, hr8, hk8, hkr8⟩
    · exact ⟨_, _, _, _, _, _, _, _, _, _, _, _, hm9, hra2, hr8, hk8, hkr8⟩
  refine V_pop dL_law_221 rfl ?_
  refine V_goto (tgt := 822) dL_law_222 (by decide) ?_
  exact kk _ ⟨l, T, mk, MA, sc, hG, ⟨_, _, _, hE.kept (fun q hq => hR9.lo q hq), hh, hrN⟩, hR9.re fr.rf⟩
set_option maxHeartbeats 4000000 in
set_option maxRecDepth 100000 in
/-- configure -/
theorem law_3 {z : ZG} {nm : String} {Q : ZQ} {i kc nc : Nat} {h : AH} (hi : i + 2 < zN z) (hN : zN z ≤ 1536) (hkn : kc ≤ 600000 ∧ nc ≤ 7302250) (kk : ∀ h : AH, LI h → V z (YL nm) room_1 Q 822 [some (.retAddr (zX z)), some (.ref 0), some (.ref 114), some (.int (I (i : Int)))] [] h 122 kc nc) (hL : LI h) : V z (YL nm) room_1 Q 225 [some (.retAddr (zX z)), some (.ref 0), some (.ref 114), some (.int (I (i : Int)))] [] h 122 kc nc := by
  obtain ⟨l, T, mk, MA, sc, hG, hP, hR⟩ := hL
  obtain ⟨c1, hc1, e1⟩ := I_of (zF z (i + 1))
  obtain ⟨c2, hc2, e2⟩ := I_of (zF z (i + 2))
  obtain ⟨fsO, hO⟩ := hP.o
  obtain ⟨s, hn, NN, hE, hh, hrN⟩ := hP
  obtain ⟨g1, g2, g3, g4, g5⟩ := id hG
  obtain ⟨n8, s8, sp8, nu8, rs8, rm8, km8, RA8, RD8, NW8, SD8, KP8, hm8, hra8, hr8, hk8, hkr8⟩ := id hR
  refine V_aload_n dL_law_225 rfl ?_
  refine V_callVR (Y' := YX7_configure) dL_law_226 lL_27 gX7_configure (m7_configure (d := 0) hE g1 g2 (rok17 hrN) (rok8 hrN) hra8) hE.1 rfl rfl rfl (Nat.le_of_ble_eq_true rfl) (Nat.le_of_ble_eq_true rfl) (Nat.le_of_ble_eq_true rfl) ⟨by show kc + 0 ≤ 600000; omega, by show nc + 0 ≤ 7302250; omega⟩ (fun v h1 sz1 hq => ?_)
  obtain ⟨rfl, hf, hcf⟩ := hq
  have hw : v = some (.int (I (if (rdF T l 201 (0, 0, 0, RA8, rd0)).1 = -4 ∧ ¬ (rdF T l 201 (0, 0, 0, RA8, rd0)).2.2.1 = 0 then (rdF T l 201 (0, 0, 0, RA8, rd0)).2.2.2.1 else -2))) := by
    rcases hcf with ⟨a, b, _⟩ | ⟨a, _, b, _⟩
    · rw [b, if_neg a]
    · rw [b, if_pos a]
  subst hw
  have hm8 := hm8.re (h2 := h1) (fun x hx => hf x (by omega))
  refine V_pop dL_law_229 rfl ?_
  refine V_aload_n dL_law_230 rfl ?_
  refine V_callVR (Y' := YX8_configure) dL_law_231 lL_30 gX8_configure (m8_configure (d := 0) g2 g1 hra8 hm8) hm8.1 rfl rfl rfl (Nat.le_of_ble_eq_true rfl) (Nat.le_of_ble_eq_true rfl) (Nat.le_of_ble_eq_true rfl) ⟨by show kc + 0 ≤ 600000; omega, by show nc + 0 ≤ 7302250; omega⟩ (fun v h2 sz2 hq => ?_)
  obtain ⟨rfl, hq⟩ := hq
  have hBoth : v = some (.int (I (if (rdF T l 201 (0, 0, 0, RA8, rd0)).1 = -4 ∧ ¬ (rdF T l 201 (0, 0, 0, RA8, rd0)).2.2.1 = 0 then (rdF T l 201 (0, 0, 0, RA8, rd0)).2.2.2.1 else -2))) ∧ LI h2 := by
    rcases hq with ⟨a, rfl, sp2, nu2, rs2, rm2, RA2, RD2, hra2, hm9⟩ | ⟨a, hk, rfl, nu2, hm9⟩
    · rcases hcf with ⟨_, _, hE⟩ | ⟨b, _⟩
      · exact ⟨by rw [if_neg a], l, T, mk, MA, sc, hG, ⟨_, _, _, hE.kept (fun q hq => hm9.2.2.2 q hq), hh, hrN⟩, _, _, _, _, _, _, _, _, _, _, _, _, hm9.re (fun _ _ => rfl), hra2, hr8, hk8, hkr8⟩
      · exact absurd b a
    · rcases hcf with ⟨b, _⟩ | ⟨_, _, _, hE⟩
      · exact absurd a b
      · exact ⟨by rw [if_pos a], l, T, _, _, _, ⟨g1, g2, hk.2.1, hk.2.2.1, hk.1.resolve_left a.2⟩, ⟨_, _, _, hE.kept (fun q hq => hm9.2.2.2 q hq), ⟨Int.le_refl _, by decide⟩, rok_stN hk.2.2.2⟩, _, _, _, _, _, _, _, _, _, _, _, _, hm9.re (fun _ _ => rfl), hk.2.2.1, hk.2.2.2, ⟨Int.le_refl _, by decide⟩, fun i hi => by omega⟩
  obtain ⟨rfl, hLI⟩ := hBoth
  refine V_pop dL_law_234 rfl ?_
  refine V_goto (tgt := 822) dL_law_235 (by decide) ?_
  exact kk _ hLI
set_option maxHeartbeats 4000000 in
set_option maxRecDepth 100000 in
/-- moveTo -/
theorem law_4 {z : ZG} {nm : String} {Q : ZQ} {i kc nc : Nat} {h : AH} (hi : i + 2 < zN z) (hN : zN z ≤ 1536) (hkn : kc ≤ 600000 ∧ nc ≤ 7302250) (kk : ∀ h : AH, LI h → V z (YL nm) room_1 Q 822 [some (.retAddr (zX z)), some (.ref 0), some (.ref 114), some (.int (I (i : Int)))] [] h 122 kc nc) (hL : LI h) : V z (YL nm) room_1 Q 238 [some (.retAddr (zX z)), some (.ref 0), some (.ref 114), some (.int (I (i : Int)))] [] h 122 kc nc := by
  obtain ⟨l, T, mk, MA, sc, hG, hP, hR⟩ := hL
  obtain ⟨c1, hc1, e1⟩ := I_of (zF z (i + 1))
  obtain ⟨c2, hc2, e2⟩ := I_of (zF z (i + 2))
  obtain ⟨fsO, hO⟩ := hP.o
  refine V_aload_n dL_law_238 rfl ?_
  refine V_aload_nS dL_law_239 rfl ?_
  refine V_iload_n dL_law_240 rfl ?_
  refine J_iconst dL_law_241 ?_
  refine J_iadd dL_law_242 ?_
  refine V_top (b := ((i + 1 : Nat) : Int)) (by omega) ?_
  refine V_sld (k := i + 1) (by omega) (by omega) dL_law_243 ?_
  rw [e1]
  refine V_aload_nS dL_law_244 rfl ?_
  refine V_iload_n dL_law_245 rfl ?_
  refine J_iconst dL_law_246 ?_
  refine J_iadd dL_law_247 ?_
  refine V_top (b := ((i + 2 : Nat) : Int)) (by omega) ?_
  refine V_sld (k := i + 2) (by omega) (by omega) dL_law_248 ?_
  rw [e2]
  refine V_callVR (Y' := YX7_moveTo) dL_law_249 lL_31 gX7_moveTo (k7_moveTo (d := 0) hG hP hc1 hc2) hO rfl rfl rfl (Nat.le_of_ble_eq_true rfl) (Nat.le_of_ble_eq_true rfl) (Nat.le_of_ble_eq_true rfl) ⟨by show kc + 0 ≤ 600000; omega, by show nc + 0 ≤ 7302250; omega⟩ (fun v h1 sz1 hq => ?_)
  obtain ⟨⟨v1, rfl, hv1⟩, rfl, hf, hP⟩ := hq
  have hR := hR.re hf
  obtain ⟨fs8, hO8⟩ := hR.o
  refine V_pop dL_law_252 hv1 ?_
  refine V_aload_n dL_law_253 rfl ?_
  refine V_aload_nS dL_law_254 rfl ?_
  refine V_iload_n dL_law_255 rfl ?_
  refine J_iconst dL_law_256 ?_
  refine J_iadd dL_law_257 ?_
  refine V_top (b := ((i + 1 : Nat) : Int)) (by omega) ?_
  refine V_sld (k := i + 1) (by omega) (by omega) dL_law_258 ?_
  rw [e1]
  refine V_aload_nS dL_law_259 rfl ?_
  refine V_iload_n dL_law_260 rfl ?_
  refine J_iconst dL_law_261 ?_
  refine J_iadd dL_law_262 ?_
  refine V_top (b := ((i + 2 : Nat) : Int)) (by omega) ?_
  refine V_sld (k := i + 2) (by omega) (by omega) dL_law_263 ?_
  rw [e2]
  refine V_callVR (Y' := YX8_moveTo) dL_law_264 lL_35 gX8_moveTo (k8_moveTo (d := 0) hG hR hc1 hc2) hO8 rfl rfl rfl (Nat.le_of_ble_eq_true rfl) (Nat.le_of_ble_eq_true rfl) (Nat.le_of_ble_eq_true rfl) ⟨by show kc + 0 ≤ 600000; omega, by show nc + 0 ≤ 7302250; omega⟩ (fun v h2 sz2 hq => ?_)
  obtain ⟨⟨v2, rfl, hv2⟩, rfl, hR2⟩ := hq
  refine V_pop dL_law_267 hv2 ?_
  refine V_goto (tgt := 822) dL_law_268 (by decide) ?_
  exact kk _ ⟨l, T, mk, MA, sc, hG, hP.kept (fun q hq => hR2.lo q hq), hR2.re fr.rf⟩
set_option maxHeartbeats 4000000 in
set_option maxRecDepth 100000 in
/-- setMode -/
theorem law_5 {z : ZG} {nm : String} {Q : ZQ} {i kc nc : Nat} {h : AH} (hi : i + 2 < zN z) (hN : zN z ≤ 1536) (hkn : kc ≤ 600000 ∧ nc ≤ 7302250) (kk : ∀ h : AH, LI h → V z (YL nm) room_1 Q 822 [some (.retAddr (zX z)), some (.ref 0), some (.ref 114), some (.int (I (i : Int)))] [] h 122 kc nc) (hL : LI h) : V z (YL nm) room_1 Q 271 [some (.retAddr (zX z)), some (.ref 0), some (.ref 114), some (.int (I (i : Int)))] [] h 122 kc nc := by
  obtain ⟨l, T, mk, MA, sc, hG, hP, hR⟩ := hL
  obtain ⟨c1, hc1, e1⟩ := I_of (zF z (i + 1))
  obtain ⟨c2, hc2, e2⟩ := I_of (zF z (i + 2))
  obtain ⟨fsO, hO⟩ := hP.o
  refine V_aload_n dL_law_271 rfl ?_
  refine V_aload_nS dL_law_272 rfl ?_
  refine V_iload_n dL_law_273 rfl ?_
  refine J_iconst dL_law_274 ?_
  refine J_iadd dL_law_275 ?_
  refine V_top (b := ((i + 1 : Nat) : Int)) (by omega) ?_
  refine V_sld (k := i + 1) (by omega) (by omega) dL_law_276 ?_
  rw [e1]
  refine V_callVR (Y' := YX7_setMode) dL_law_277 lL_36 gX7_setMode (k7_setMode (d := 0) hG hP hc1) hO rfl rfl rfl (Nat.le_of_ble_eq_true rfl) (Nat.le_of_ble_eq_true rfl) (Nat.le_of_ble_eq_true rfl) ⟨by show kc + 0 ≤ 600000; omega, by show nc + 0 ≤ 7302250; omega⟩ (fun v h1 sz1 hq => ?_)
  obtain ⟨⟨v1, rfl, hv1⟩, rfl, hf, hP⟩ := hq
  have hR := hR.re hf
  obtain ⟨fs8, hO8⟩ := hR.o
  refine V_pop dL_law_280 hv1 ?_
  refine V_aload_n dL_law_281 rfl ?_
  refine V_aload_nS dL_law_282 rfl ?_
  refine V_iload_n dL_law_283 rfl ?_
  refine J_iconst dL_law_284 ?_
  refine J_iadd dL_law_285 ?_
  refine V_top (b := ((i + 1 : Nat) : Int)) (by omega) ?_
  refine V_sld (k := i + 1) (by omega) (by omega) dL_law_286 ?_
  rw [e1]
  refine V_callVR (Y' := YX8_setMode) dL_law_287 lL_39 gX8_setMode (k8_setMode (d := 0) hG hR hc1) hO8 rfl rfl rfl (Nat.le_of_ble_eq_true rfl) (Nat.le_of_ble_eq_true rfl) (Nat.le_of_ble_eq_true rfl) ⟨by show kc + 0 ≤ 600000; omega, by show nc + 0 ≤ 7302250; omega⟩ (fun v h2 sz2 hq => ?_)
  obtain ⟨⟨v2, rfl, hv2⟩, rfl, hR2⟩ := hq
  refine V_pop dL_law_290 hv2 ?_
  refine V_goto (tgt := 822) dL_law_291 (by decide) ?_
  exact kk _ ⟨l, T, mk, MA, sc, hG, hP.kept (fun q hq => hR2.lo q hq), hR2.re fr.rf⟩
set_option maxHeartbeats 4000000 in
set_option maxRecDepth 100000 in
/-- setIndexGrating -/
theorem law_6 {z : ZG} {nm : String} {Q : ZQ} {i kc nc : Nat} {h : AH} (hi : i + 2 < zN z) (hN : zN z ≤ 1536) (hkn : kc ≤ 600000 ∧ nc ≤ 7302250) (kk : ∀ h : AH, LI h → V z (YL nm) room_1 Q 822 [some (.retAddr (zX z)), some (.ref 0), some (.ref 114), some (.int (I (i : Int)))] [] h 122 kc nc) (hL : LI h) : V z (YL nm) room_1 Q 294 [some (.retAddr (zX z)), some (.ref 0), some (.ref 114), some (.int (I (i : Int)))] [] h 122 kc nc := by
  obtain ⟨l, T, mk, MA, sc, hG, hP, hR⟩ := hL
  obtain ⟨c1, hc1, e1⟩ := I_of (zF z (i + 1))
  obtain ⟨c2, hc2, e2⟩ := I_of (zF z (i + 2))
  obtain ⟨fsO, hO⟩ := hP.o
  refine V_aload_n dL_law_294 rfl ?_
  refine V_aload_nS dL_law_295 rfl ?_
  refine V_iload_n dL_law_296 rfl ?_
  refine J_iconst dL_law_297 ?_
  refine J_iadd dL_law_298 ?_
  refine V_top (b := ((i + 1 : Nat) : Int)) (by omega) ?_
  refine V_sld (k := i + 1) (by omega) (by omega) dL_law_299 ?_
  rw [e1]
  refine V_aload_nS dL_law_300 rfl ?_
  refine V_iload_n dL_law_301 rfl ?_
  refine J_iconst dL_law_302 ?_
  refine J_iadd dL_law_303 ?_
  refine V_top (b := ((i + 2 : Nat) : Int)) (by omega) ?_
  refine V_sld (k := i + 2) (by omega) (by omega) dL_law_304 ?_
  rw [e2]
  refine V_callVR (Y' := YX7_setIndexGrating) dL_law_305 lL_40 gX7_setIndexGrating (k7_setIndexGrating (d := 0) hG hP hc1 hc2) hO rfl rfl rfl (Nat.le_of_ble_eq_true rfl) (Nat.le_of_ble_eq_true rfl) (Nat.le_of_ble_eq_true rfl) ⟨by show kc + 0 ≤ 600000; omega, by show nc + 0 ≤ 7302250; omega⟩ (fun v h1 sz1 hq => ?_)
  obtain ⟨⟨v1, rfl, hv1⟩, rfl, hf, hP⟩ := hq
  have hR := hR.re hf
  obtain ⟨fs8, hO8⟩ := hR.o
  refine V_pop dL_law_308 hv1 ?_
  refine V_aload_n dL_law_309 rfl ?_
  refine V_aload_nS dL_law_310 rfl ?_
  refine V_iload_n dL_law_311 rfl ?_
  refine J_iconst dL_law_312 ?_
  refine J_iadd dL_law_313 ?_
  refine V_top (b := ((i + 1 : Nat) : Int)) (by omega) ?_
  refine V_sld (k := i + 1) (by omega) (by omega) dL_law_314 ?_
  rw [e1]
  refine V_aload_nS dL_law_315 rfl ?_
  refine V_iload_n dL_law_316 rfl ?_
  refine J_iconst dL_law_317 ?_
  refine J_iadd dL_law_318 ?_
  refine V_top (b := ((i + 2 : Nat) : Int)) (by omega) ?_
  refine V_sld (k := i + 2) (by omega) (by omega) dL_law_319 ?_
  rw [e2]
  refine V_callVR (Y' := YX8_setIndexGrating) dL_law_320 lL_43 gX8_setIndexGrating (k8_setIndexGrating (d := 0) hG hR hc1 hc2) hO8 rfl rfl rfl (Nat.le_of_ble_eq_true rfl) (Nat.le_of_ble_eq_true rfl) (Nat.le_of_ble_eq_true rfl) ⟨by show kc + 0 ≤ 600000; omega, by show nc + 0 ≤ 7302250; omega⟩ (fun v h2 sz2 hq => ?_)
  obtain ⟨⟨v2, rfl, hv2⟩, rfl, hR2⟩ := hq
  refine V_pop dL_law_323 hv2 ?_
  refine V_goto (tgt := 822) dL_law_324 (by decide) ?_
  exact kk _ ⟨l, T, mk, MA, sc, hG, hP.kept (fun q hq => hR2.lo q hq), hR2.re fr.rf⟩
set_option maxHeartbeats 4000000 in
set_option maxRecDepth 100000 in
/-- addDirt -/
theorem law_7 {z : ZG} {nm : String} {Q : ZQ} {i kc nc : Nat} {h : AH} (hi : i + 2 < zN z) (hN : zN z ≤ 1536) (hkn : kc ≤ 600000 ∧ nc ≤ 7302250) (kk : ∀ h : AH, LI h → V z (YL nm) room_1 Q 822 [some (.retAddr (zX z)), some (.ref 0), some (.ref 114), some (.int (I (i : Int)))] [] h 122 kc nc) (hL : LI h) : V z (YL nm) room_1 Q 327 [some (.retAddr (zX z)), some (.ref 0), some (.ref 114), some (.int (I (i : Int)))] [] h 122 kc nc := by
  obtain ⟨l, T, mk, MA, sc, hG, hP, hR⟩ := hL
  obtain ⟨c1, hc1, e1⟩ := I_of (zF z (i + 1))
  obtain ⟨c2, hc2, e2⟩ := I_of (zF z (i + 2))
  obtain ⟨fsO, hO⟩ := hP.o
  refine V_aload_n dL_law_327 rfl ?_
  refine V_aload_nS dL_law_328 rfl ?_
  refine V_iload_n dL_law_329 rfl ?_
  refine J_iconst dL_law_330 ?_
  refine J_iadd dL_law_331 ?_
  refine V_top (b := ((i + 1 : Nat) : Int)) (by omega) ?_
  refine V_sld (k := i + 1) (by omega) (by omega) dL_law_332 ?_
  rw [e1]
  refine V_aload_nS dL_law_333 rfl ?_
  refine V_iload_n dL_law_334 rfl ?_
  refine J_iconst dL_law_335 ?_
  refine J_iadd dL_law_336 ?_
  refine V_top (b := ((i + 2 : Nat) : Int)) (by omega) ?_
  refine V_sld (k := i + 2) (by omega) (by omega) dL_law_337 ?_
  rw [e2]
  refine V_callVR (Y' := YX7_addDirt) dL_law_338 lL_44 gX7_addDirt (k7_addDirt (d := 0) hG hP hc1 hc2) hO rfl rfl rfl (Nat.le_of_ble_eq_true rfl) (Nat.le_of_ble_eq_true rfl) (Nat.le_of_ble_eq_true rfl) ⟨by show kc + 0 ≤ 600000; omega, by show nc + 0 ≤ 7302250; omega⟩ (fun v h1 sz1 hq => ?_)
  obtain ⟨⟨v1, rfl, hv1⟩, rfl, hf, hP⟩ := hq
  have hR := hR.re hf
  obtain ⟨fs8, hO8⟩ := hR.o
  refine V_pop dL_law_341 hv1 ?_
  refine V_aload_n dL_law_342 rfl ?_
  refine V_aload_nS dL_law_343 rfl ?_
  refine V_iload_n dL_law_344 rfl ?_
  refine J_iconst dL_law_345 ?_
  refine J_iadd dL_law_346 ?_
  refine V_top (b := ((i + 1 : Nat) : Int)) (by omega) ?_
  refine V_sld (k := i + 1) (by omega) (by omega) dL_law_347 ?_
  rw [e1]
  refine V_aload_nS dL_law_348 rfl ?_
  refine V_iload_n dL_law_349 rfl ?_
  refine J_iconst dL_law_350 ?_
  refine J_iadd dL_law_351 ?_
  refine V_top (b := ((i + 2 : Nat) : Int)) (by omega) ?_
  refine V_sld (k := i + 2) (by omega) (by omega) dL_law_352 ?_
  rw [e2]
  refine V_callVR (Y' := YX8_addDirt) dL_law_353 lL_47 gX8_addDirt (k8_addDirt (d := 0) hG hR hc1 hc2) hO8 rfl rfl rfl (Nat.le_of_ble_eq_true rfl) (Nat.le_of_ble_eq_true rfl) (Nat.le_of_ble_eq_true rfl) ⟨by show kc + 0 ≤ 600000; omega, by show nc + 0 ≤ 7302250; omega⟩ (fun v h2 sz2 hq => ?_)
  obtain ⟨⟨v2, rfl, hv2⟩, rfl, hR2⟩ := hq
  refine V_pop dL_law_356 hv2 ?_
  refine V_goto (tgt := 822) dL_law_357 (by decide) ?_
  exact kk _ ⟨l, T, mk, MA, sc, hG, hP.kept (fun q hq => hR2.lo q hq), hR2.re fr.rf⟩
set_option maxHeartbeats 4000000 in
set_option maxRecDepth 100000 in
/-- removeDirt -/
theorem law_8 {z : ZG} {nm : String} {Q : ZQ} {i kc nc : Nat} {h : AH} (hi : i + 2 < zN z) (hN : zN z ≤ 1536) (hkn : kc ≤ 600000 ∧ nc ≤ 7302250) (kk : ∀ h : AH, LI h → V z (YL nm) room_1 Q 822 [some (.retAddr (zX z)), some (.ref 0), some (.ref 114), some (.int (I (i : Int)))] [] h 122 kc nc) (hL : LI h) : V z (YL nm) room_1 Q 360 [some (.retAddr (zX z)), some (.ref 0), some (.ref 114), some (.int (I (i : Int)))] [] h 122 kc nc := by
  obtain ⟨l, T, mk, MA, sc, hG, hP, hR⟩ := hL
  obtain ⟨c1, hc1, e1⟩ := I_of (zF z (i + 1))
  obtain ⟨c2, hc2, e2⟩ := I_of (zF z (i + 2))
  obtain ⟨fsO, hO⟩ := hP.o
  refine V_aload_n dL_law_360 rfl ?_
  refine V_aload_nS dL_law_361 rfl ?_
  refine V_iload_n dL_law_362 rfl ?_
  refine J_iconst dL_law_363 ?_
  refine J_iadd dL_law_364 ?_
  refine V_top (b := ((i + 1 : Nat) : Int)) (by omega) ?_
  refine V_sld (k := i + 1) (by omega) (by omega) dL_law_365 ?_
  rw [e1]
  refine V_callVR (Y' := YX7_removeDirt) dL_law_366 lL_48 gX7_removeDirt (k7_removeDirt (d := 0) hG hP hc1) hO rfl rfl rfl (Nat.le_of_ble_eq_true rfl) (Nat.le_of_ble_eq_true rfl) (Nat.le_of_ble_eq_true rfl) ⟨by show kc + 0 ≤ 600000; omega, by show nc + 0 ≤ 7302250; omega⟩ (fun v h1 sz1 hq => ?_)
  obtain ⟨⟨v1, rfl, hv1⟩, rfl, hf, hP⟩ := hq
  have hR := hR.re hf
  obtain ⟨fs8, hO8⟩ := hR.o
  refine V_pop dL_law_369 hv1 ?_
  refine V_aload_n dL_law_370 rfl ?_
  refine V_aload_nS dL_law_371 rfl ?_
  refine V_iload_n dL_law_372 rfl ?_
  refine J_iconst dL_law_373 ?_
  refine J_iadd dL_law_374 ?_
  refine V_top (b := ((i + 1 : Nat) : Int)) (by omega) ?_
  refine V_sld (k := i + 1) (by omega) (by omega) dL_law_375 ?_
  rw [e1]
  refine V_callVR (Y' := YX8_removeDirt) dL_law_376 lL_51 gX8_removeDirt (k8_removeDirt (d := 0) hG hR hc1) hO8 rfl rfl rfl (Nat.le_of_ble_eq_true rfl) (Nat.le_of_ble_eq_true rfl) (Nat.le_of_ble_eq_true rfl) ⟨by show kc + 0 ≤ 600000; omega, by show nc + 0 ≤ 7302250; omega⟩ (fun v h2 sz2 hq => ?_)
  obtain ⟨⟨v2, rfl, hv2⟩, rfl, hR2⟩ := hq
  refine V_pop dL_law_379 hv2 ?_
  refine V_goto (tgt := 822) dL_law_380 (by decide) ?_
  exact kk _ ⟨l, T, mk, MA, sc, hG, hP.kept (fun q hq => hR2.lo q hq), hR2.re fr.rf⟩
set_option maxHeartbeats 4000000 in
set_option maxRecDepth 100000 in
/-- zeroSlip -/
theorem law_9 {z : ZG} {nm : String} {Q : ZQ} {i kc nc : Nat} {h : AH} (hi : i + 2 < zN z) (hN : zN z ≤ 1536) (hkn : kc ≤ 600000 ∧ nc ≤ 7302250) (kk : ∀ h : AH, LI h → V z (YL nm) room_1 Q 822 [some (.retAddr (zX z)), some (.ref 0), some (.ref 114), some (.int (I (i : Int)))] [] h 122 kc nc) (hL : LI h) : V z (YL nm) room_1 Q 383 [some (.retAddr (zX z)), some (.ref 0), some (.ref 114), some (.int (I (i : Int)))] [] h 122 kc nc := by
  obtain ⟨l, T, mk, MA, sc, hG, hP, hR⟩ := hL
  obtain ⟨c1, hc1, e1⟩ := I_of (zF z (i + 1))
  obtain ⟨c2, hc2, e2⟩ := I_of (zF z (i + 2))
  obtain ⟨fsO, hO⟩ := hP.o
  refine V_aload_n dL_law_383 rfl ?_
  refine V_callVR (Y' := YX7_zeroSlip) dL_law_384 lL_52 gX7_zeroSlip (k7_zeroSlip (d := 0) hG hP ) hO rfl rfl rfl (Nat.le_of_ble_eq_true rfl) (Nat.le_of_ble_eq_true rfl) (Nat.le_of_ble_eq_true rfl) ⟨by show kc + 0 ≤ 600000; omega, by show nc + 0 ≤ 7302250; omega⟩ (fun v h1 sz1 hq => ?_)
  obtain ⟨⟨v1, rfl, hv1⟩, rfl, hf, hP⟩ := hq
  have hR := hR.re hf
  obtain ⟨fs8, hO8⟩ := hR.o
  refine V_pop dL_law_387 hv1 ?_
  refine V_aload_n dL_law_388 rfl ?_
  refine V_callVR (Y' := YX8_zeroSlip) dL_law_389 lL_55 gX8_zeroSlip (k8_zeroSlip (d := 0) hG hR ) hO8 rfl rfl rfl (Nat.le_of_ble_eq_true rfl) (Nat.le_of_ble_eq_true rfl) (Nat.le_of_ble_eq_true rfl) ⟨by show kc + 0 ≤ 600000; omega, by show nc + 0 ≤ 7302250; omega⟩ (fun v h2 sz2 hq => ?_)
  obtain ⟨⟨v2, rfl, hv2⟩, rfl, hR2⟩ := hq
  refine V_pop dL_law_392 hv2 ?_
  refine V_goto (tgt := 822) dL_law_393 (by decide) ?_
  exact kk _ ⟨l, T, mk, MA, sc, hG, hP.kept (fun q hq => hR2.lo q hq), hR2.re fr.rf⟩
set_option maxHeartbeats 4000000 in
set_option maxRecDepth 100000 in
/-- recover -/
theorem law_10 {z : ZG} {nm : String} {Q : ZQ} {i kc nc : Nat} {h : AH} (hi : i + 2 < zN z) (hN : zN z ≤ 1536) (hkn : kc ≤ 600000 ∧ nc ≤ 7302250) (kk : ∀ h : AH, LI h → V z (YL nm) room_1 Q 822 [some (.retAddr (zX z)), some (.ref 0), some (.ref 114), some (.int (I (i : Int)))] [] h 122 kc nc) (hL : LI h) : V z (YL nm) room_1 Q 396 [some (.retAddr (zX z)), some (.ref 0), some (.ref 114), some (.int (I (i : Int)))] [] h 122 kc nc := by
  obtain ⟨l, T, mk, MA, sc, hG, hP, hR⟩ := hL
  obtain ⟨c1, hc1, e1⟩ := I_of (zF z (i + 1))
  obtain ⟨c2, hc2, e2⟩ := I_of (zF z (i + 2))
  obtain ⟨fsO, hO⟩ := hP.o
  refine V_aload_n dL_law_396 rfl ?_
  refine V_aload_nS dL_law_397 rfl ?_
  refine V_iload_n dL_law_398 rfl ?_
  refine J_iconst dL_law_399 ?_
  refine J_iadd dL_law_400 ?_
  refine V_top (b := ((i + 1 : Nat) : Int)) (by omega) ?_
  refine V_sld (k := i + 1) (by omega) (by omega) dL_law_401 ?_
  rw [e1]
  refine V_callVR (Y' := YX7_recover) dL_law_402 lL_56 gX7_recover (k7_recover (d := 0) hG hP hc1) hO rfl rfl rfl (Nat.le_of_ble_eq_true rfl) (Nat.le_of_ble_eq_true rfl) (Nat.le_of_ble_eq_true rfl) ⟨by show kc + 0 ≤ 600000; omega, by show nc + 0 ≤ 7302250; omega⟩ (fun v h1 sz1 hq => ?_)
  obtain ⟨⟨v1, rfl, hv1⟩, rfl, hf, hP⟩ := hq
  have hR := hR.re hf
  obtain ⟨fs8, hO8⟩ := hR.o
  refine V_pop dL_law_405 hv1 ?_
  refine V_aload_n dL_law_406 rfl ?_
  refine V_aload_nS dL_law_407 rfl ?_
  refine V_iload_n dL_law_408 rfl ?_
  refine J_iconst dL_law_409 ?_
  refine J_iadd dL_law_410 ?_
  refine V_top (b := ((i + 1 : Nat) : Int)) (by omega) ?_
  refine V_sld (k := i + 1) (by omega) (by omega) dL_law_411 ?_
  rw [e1]
  refine V_callVR (Y' := YX8_recover) dL_law_412 lL_59 gX8_recover (k8_recover (d := 0) hG hR hc1) hO8 rfl rfl rfl (Nat.le_of_ble_eq_true rfl) (Nat.le_of_ble_eq_true rfl) (Nat.le_of_ble_eq_true rfl) ⟨by show kc + 0 ≤ 600000; omega, by show nc + 0 ≤ 7302250; omega⟩ (fun v h2 sz2 hq => ?_)
  obtain ⟨⟨v2, rfl, hv2⟩, rfl, hR2⟩ := hq
  refine V_pop dL_law_415 hv2 ?_
  refine V_goto (tgt := 822) dL_law_416 (by decide) ?_
  exact kk _ ⟨l, T, mk, MA, sc, hG, hP.kept (fun q hq => hR2.lo q hq), hR2.re fr.rf⟩
set_option maxHeartbeats 4000000 in
set_option maxRecDepth 100000 in
/-- undo -/
theorem law_11 {z : ZG} {nm : String} {Q : ZQ} {i kc nc : Nat} {h : AH} (hi : i + 2 < zN z) (hN : zN z ≤ 1536) (hkn : kc ≤ 600000 ∧ nc ≤ 7302250) (kk : ∀ h : AH, LI h → V z (YL nm) room_1 Q 822 [some (.retAddr (zX z)), some (.ref 0), some (.ref 114), some (.int (I (i : Int)))] [] h 122 kc nc) (hL : LI h) : V z (YL nm) room_1 Q 419 [some (.retAddr (zX z)), some (.ref 0), some (.ref 114), some (.int (I (i : Int)))] [] h 122 kc nc := by
  obtain ⟨l, T, mk, MA, sc, hG, hP, hR⟩ := hL
  obtain ⟨c1, hc1, e1⟩ := I_of (zF z (i + 1))
  obtain ⟨c2, hc2, e2⟩ := I_of (zF z (i + 2))
  obtain ⟨fsO, hO⟩ := hP.o
  refine V_aload_n dL_law_419 rfl ?_
  refine V_callVR (Y' := YX7_undo) dL_law_420 lL_60 gX7_undo (k7_undo (d := 0) hG hP ) hO rfl rfl rfl (Nat.le_of_ble_eq_true rfl) (Nat.le_of_ble_eq_true rfl) (Nat.le_of_ble_eq_true rfl) ⟨by show kc + 0 ≤ 600000; omega, by show nc + 0 ≤ 7302250; omega⟩ (fun v h1 sz1 hq => ?_)
  obtain ⟨⟨v1, rfl, hv1⟩, rfl, hf, hP⟩ := hq
  have hR := hR.re hf
  obtain ⟨fs8, hO8⟩ := hR.o
  refine V_pop dL_law_423 hv1 ?_
  refine V_aload_n dL_law_424 rfl ?_
  refine V_callVR (Y' := YX8_undo) dL_law_425 lL_63 gX8_undo (k8_undo (d := 0) hG hR ) hO8 rfl rfl rfl (Nat.le_of_ble_eq_true rfl) (Nat.le_of_ble_eq_true rfl) (Nat.le_of_ble_eq_true rfl) ⟨by show kc + 0 ≤ 600000; omega, by show nc + 0 ≤ 7302250; omega⟩ (fun v h2 sz2 hq => ?_)
  obtain ⟨⟨v2, rfl, hv2⟩, rfl, hR2⟩ := hq
  refine V_pop dL_law_428 hv2 ?_
  refine V_goto (tgt := 822) dL_law_429 (by decide) ?_
  exact kk _ ⟨l, T, mk, MA, sc, hG, hP.kept (fun q hq => hR2.lo q hq), hR2.re fr.rf⟩
set_option maxHeartbeats 4000000 in
set_option maxRecDepth 100000 in
/-- position -/
theorem law_12 {z : ZG} {nm : String} {Q : ZQ} {i kc nc : Nat} {h : AH} (hi : i + 2 < zN z) (hN : zN z ≤ 1536) (hkn : kc ≤ 600000 ∧ nc ≤ 7302250) (kk : ∀ h : AH, LI h → V z (YL nm) room_1 Q 822 [some (.retAddr (zX z)), some (.ref 0), some (.ref 114), some (.int (I (i : Int)))] [] h 122 kc nc) (hL : LI h) : V z (YL nm) room_1 Q 432 [some (.retAddr (zX z)), some (.ref 0), some (.ref 114), some (.int (I (i : Int)))] [] h 122 kc nc := by
  obtain ⟨l, T, mk, MA, sc, hG, hP, hR⟩ := hL
  obtain ⟨c1, hc1, e1⟩ := I_of (zF z (i + 1))
  obtain ⟨c2, hc2, e2⟩ := I_of (zF z (i + 2))
  obtain ⟨fsO, hO⟩ := hP.o
  refine V_aload_n dL_law_432 rfl ?_
  refine V_callVR (Y' := YX7_position) dL_law_433 lL_64 gX7_position (k7_position (d := 0) hG hP ) hO rfl rfl rfl (Nat.le_of_ble_eq_true rfl) (Nat.le_of_ble_eq_true rfl) (Nat.le_of_ble_eq_true rfl) ⟨by show kc + 0 ≤ 600000; omega, by show nc + 0 ≤ 7302250; omega⟩ (fun v h1 sz1 hq => ?_)
  obtain ⟨⟨v1, rfl, hv1⟩, rfl, hf, hP⟩ := hq
  have hR := hR.re hf
  obtain ⟨fs8, hO8⟩ := hR.o
  refine V_pop dL_law_436 hv1 ?_
  refine V_aload_n dL_law_437 rfl ?_
  refine V_callVR (Y' := YX8_position) dL_law_438 lL_67 gX8_position (k8_position (d := 0) hG hR ) hO8 rfl rfl rfl (Nat.le_of_ble_eq_true rfl) (Nat.le_of_ble_eq_true rfl) (Nat.le_of_ble_eq_true rfl) ⟨by show kc + 0 ≤ 600000; omega, by show nc + 0 ≤ 7302250; omega⟩ (fun v h2 sz2 hq => ?_)
  obtain ⟨⟨v2, rfl, hv2⟩, rfl, hR2⟩ := hq
  refine V_pop dL_law_441 hv2 ?_
  refine V_goto (tgt := 822) dL_law_442 (by decide) ?_
  exact kk _ ⟨l, T, mk, MA, sc, hG, hP.kept (fun q hq => hR2.lo q hq), hR2.re fr.rf⟩
set_option maxHeartbeats 4000000 in
set_option maxRecDepth 100000 in
/-- counter -/
theorem law_13 {z : ZG} {nm : String} {Q : ZQ} {i kc nc : Nat} {h : AH} (hi : i + 2 < zN z) (hN : zN z ≤ 1536) (hkn : kc ≤ 600000 ∧ nc ≤ 7302250) (kk : ∀ h : AH, LI h → V z (YL nm) room_1 Q 822 [some (.retAddr (zX z)), some (.ref 0), some (.ref 114), some (.int (I (i : Int)))] [] h 122 kc nc) (hL : LI h) : V z (YL nm) room_1 Q 445 [some (.retAddr (zX z)), some (.ref 0), some (.ref 114), some (.int (I (i : Int)))] [] h 122 kc nc := by
  obtain ⟨l, T, mk, MA, sc, hG, hP, hR⟩ := hL
  obtain ⟨c1, hc1, e1⟩ := I_of (zF z (i + 1))
  obtain ⟨c2, hc2, e2⟩ := I_of (zF z (i + 2))
  obtain ⟨fsO, hO⟩ := hP.o
  refine V_aload_n dL_law_445 rfl ?_
  refine V_callVR (Y' := YX7_counter) dL_law_446 lL_68 gX7_counter (k7_counter (d := 0) hG hP ) hO rfl rfl rfl (Nat.le_of_ble_eq_true rfl) (Nat.le_of_ble_eq_true rfl) (Nat.le_of_ble_eq_true rfl) ⟨by show kc + 0 ≤ 600000; omega, by show nc + 0 ≤ 7302250; omega⟩ (fun v h1 sz1 hq => ?_)
  obtain ⟨⟨v1, rfl, hv1⟩, rfl, hf, hP⟩ := hq
  have hR := hR.re hf
  obtain ⟨fs8, hO8⟩ := hR.o
  refine V_pop2 dL_law_449 hv1 ?_
  refine V_aload_n dL_law_450 rfl ?_
  refine V_callVR (Y' := YX8_counter) dL_law_451 lL_72 gX8_counter (k8_counter (d := 0) hG hR ) hO8 rfl rfl rfl (Nat.le_of_ble_eq_true rfl) (Nat.le_of_ble_eq_true rfl) (Nat.le_of_ble_eq_true rfl) ⟨by show kc + 0 ≤ 600000; omega, by show nc + 0 ≤ 7302250; omega⟩ (fun v h2 sz2 hq => ?_)
  obtain ⟨⟨v2, rfl, hv2⟩, rfl, hR2⟩ := hq
  refine V_pop2 dL_law_454 hv2 ?_
  refine V_goto (tgt := 822) dL_law_455 (by decide) ?_
  exact kk _ ⟨l, T, mk, MA, sc, hG, hP.kept (fun q hq => hR2.lo q hq), hR2.re fr.rf⟩
set_option maxHeartbeats 4000000 in
set_option maxRecDepth 100000 in
/-- slip -/
theorem law_14 {z : ZG} {nm : String} {Q : ZQ} {i kc nc : Nat} {h : AH} (hi : i + 2 < zN z) (hN : zN z ≤ 1536) (hkn : kc ≤ 600000 ∧ nc ≤ 7302250) (kk : ∀ h : AH, LI h → V z (YL nm) room_1 Q 822 [some (.retAddr (zX z)), some (.ref 0), some (.ref 114), some (.int (I (i : Int)))] [] h 122 kc nc) (hL : LI h) : V z (YL nm) room_1 Q 458 [some (.retAddr (zX z)), some (.ref 0), some (.ref 114), some (.int (I (i : Int)))] [] h 122 kc nc := by
  obtain ⟨l, T, mk, MA, sc, hG, hP, hR⟩ := hL
  obtain ⟨c1, hc1, e1⟩ := I_of (zF z (i + 1))
  obtain ⟨c2, hc2, e2⟩ := I_of (zF z (i + 2))
  obtain ⟨fsO, hO⟩ := hP.o
  refine V_aload_n dL_law_458 rfl ?_
  refine V_callVR (Y' := YX7_slip) dL_law_459 lL_73 gX7_slip (k7_slip (d := 0) hG hP ) hO rfl rfl rfl (Nat.le_of_ble_eq_true rfl) (Nat.le_of_ble_eq_true rfl) (Nat.le_of_ble_eq_true rfl) ⟨by show kc + 0 ≤ 600000; omega, by show nc + 0 ≤ 7302250; omega⟩ (fun v h1 sz1 hq => ?_)
  obtain ⟨⟨v1, rfl, hv1⟩, rfl, hf, hP⟩ := hq
  have hR := hR.re hf
  obtain ⟨fs8, hO8⟩ := hR.o
  refine V_pop2 dL_law_462 hv1 ?_
  refine V_aload_n dL_law_463 rfl ?_
  refine V_callVR (Y' := YX8_slip) dL_law_464 lL_76 gX8_slip (k8_slip (d := 0) hG hR ) hO8 rfl rfl rfl (Nat.le_of_ble_eq_true rfl) (Nat.le_of_ble_eq_true rfl) (Nat.le_of_ble_eq_true rfl) ⟨by show kc + 0 ≤ 600000; omega, by show nc + 0 ≤ 7302250; omega⟩ (fun v h2 sz2 hq => ?_)
  obtain ⟨⟨v2, rfl, hv2⟩, rfl, hR2⟩ := hq
  refine V_pop2 dL_law_467 hv2 ?_
  refine V_goto (tgt := 822) dL_law_468 (by decide) ?_
  exact kk _ ⟨l, T, mk, MA, sc, hG, hP.kept (fun q hq => hR2.lo q hq), hR2.re fr.rf⟩
set_option maxHeartbeats 4000000 in
set_option maxRecDepth 100000 in
/-- misses -/
theorem law_15 {z : ZG} {nm : String} {Q : ZQ} {i kc nc : Nat} {h : AH} (hi : i + 2 < zN z) (hN : zN z ≤ 1536) (hkn : kc ≤ 600000 ∧ nc ≤ 7302250) (kk : ∀ h : AH, LI h → V z (YL nm) room_1 Q 822 [some (.retAddr (zX z)), some (.ref 0), some (.ref 114), some (.int (I (i : Int)))] [] h 122 kc nc) (hL : LI h) : V z (YL nm) room_1 Q 471 [some (.retAddr (zX z)), some (.ref 0), some (.ref 114), some (.int (I (i : Int)))] [] h 122 kc nc := by
  obtain ⟨l, T, mk, MA, sc, hG, hP, hR⟩ := hL
  obtain ⟨c1, hc1, e1⟩ := I_of (zF z (i + 1))
  obtain ⟨c2, hc2, e2⟩ := I_of (zF z (i + 2))
  obtain ⟨fsO, hO⟩ := hP.o
  refine V_aload_n dL_law_471 rfl ?_
  refine V_callVR (Y' := YX7_misses) dL_law_472 lL_77 gX7_misses (k7_misses (d := 0) hG hP ) hO rfl rfl rfl (Nat.le_of_ble_eq_true rfl) (Nat.le_of_ble_eq_true rfl) (Nat.le_of_ble_eq_true rfl) ⟨by show kc + 0 ≤ 600000; omega, by show nc + 0 ≤ 7302250; omega⟩ (fun v h1 sz1 hq => ?_)
  obtain ⟨⟨v1, rfl, hv1⟩, rfl, hf, hP⟩ := hq
  have hR := hR.re hf
  obtain ⟨fs8, hO8⟩ := hR.o
  refine V_pop dL_law_475 hv1 ?_
  refine V_aload_n dL_law_476 rfl ?_
  refine V_callVR (Y' := YX8_misses) dL_law_477 lL_80 gX8_misses (k8_misses (d := 0) hG hR ) hO8 rfl rfl rfl (Nat.le_of_ble_eq_true rfl) (Nat.le_of_ble_eq_true rfl) (Nat.le_of_ble_eq_true rfl) ⟨by show kc + 0 ≤ 600000; omega, by show nc + 0 ≤ 7302250; omega⟩ (fun v h2 sz2 hq => ?_)
  obtain ⟨⟨v2, rfl, hv2⟩, rfl, hR2⟩ := hq
  refine V_pop dL_law_480 hv2 ?_
  refine V_goto (tgt := 822) dL_law_481 (by decide) ?_
  exact kk _ ⟨l, T, mk, MA, sc, hG, hP.kept (fun q hq => hR2.lo q hq), hR2.re fr.rf⟩
set_option maxHeartbeats 4000000 in
set_option maxRecDepth 100000 in
/-- samples -/
theorem law_16 {z : ZG} {nm : String} {Q : ZQ} {i kc nc : Nat} {h : AH} (hi : i + 2 < zN z) (hN : zN z ≤ 1536) (hkn : kc ≤ 600000 ∧ nc ≤ 7302250) (kk : ∀ h : AH, LI h → V z (YL nm) room_1 Q 822 [some (.retAddr (zX z)), some (.ref 0), some (.ref 114), some (.int (I (i : Int)))] [] h 122 kc nc) (hL : LI h) : V z (YL nm) room_1 Q 484 [some (.retAddr (zX z)), some (.ref 0), some (.ref 114), some (.int (I (i : Int)))] [] h 122 kc nc := by
  obtain ⟨l, T, mk, MA, sc, hG, hP, hR⟩ := hL
  obtain ⟨c1, hc1, e1⟩ := I_of (zF z (i + 1))
  obtain ⟨c2, hc2, e2⟩ := I_of (zF z (i + 2))
  obtain ⟨fsO, hO⟩ := hP.o
  refine V_aload_n dL_law_484 rfl ?_
  refine V_callVR (Y' := YX7_samples) dL_law_485 lL_81 gX7_samples (k7_samples (d := 0) hG hP ) hO rfl rfl rfl (Nat.le_of_ble_eq_true rfl) (Nat.le_of_ble_eq_true rfl) (Nat.le_of_ble_eq_true rfl) ⟨by show kc + 0 ≤ 600000; omega, by show nc + 0 ≤ 7302250; omega⟩ (fun v h1 sz1 hq => ?_)
  obtain ⟨⟨v1, rfl, hv1⟩, rfl, hf, hP⟩ := hq
  have hR := hR.re hf
  obtain ⟨fs8, hO8⟩ := hR.o
  refine V_pop dL_law_488 hv1 ?_
  refine V_aload_n dL_law_489 rfl ?_
  refine V_callVR (Y' := YX8_samples) dL_law_490 lL_84 gX8_samples (k8_samples (d := 0) hG hR ) hO8 rfl rfl rfl (Nat.le_of_ble_eq_true rfl) (Nat.le_of_ble_eq_true rfl) (Nat.le_of_ble_eq_true rfl) ⟨by show kc + 0 ≤ 600000; omega, by show nc + 0 ≤ 7302250; omega⟩ (fun v h2 sz2 hq => ?_)
  obtain ⟨⟨v2, rfl, hv2⟩, rfl, hR2⟩ := hq
  refine V_pop dL_law_493 hv2 ?_
  refine V_goto (tgt := 822) dL_law_494 (by decide) ?_
  exact kk _ ⟨l, T, mk, MA, sc, hG, hP.kept (fun q hq => hR2.lo q hq), hR2.re fr.rf⟩
set_option maxHeartbeats 4000000 in
set_option maxRecDepth 100000 in
/-- missRateBits -/
theorem law_17 {z : ZG} {nm : String} {Q : ZQ} {i kc nc : Nat} {h : AH} (hi : i + 2 < zN z) (hN : zN z ≤ 1536) (hkn : kc ≤ 600000 ∧ nc ≤ 7302250) (kk : ∀ h : AH, LI h → V z (YL nm) room_1 Q 822 [some (.retAddr (zX z)), some (.ref 0), some (.ref 114), some (.int (I (i : Int)))] [] h 122 kc nc) (hL : LI h) : V z (YL nm) room_1 Q 497 [some (.retAddr (zX z)), some (.ref 0), some (.ref 114), some (.int (I (i : Int)))] [] h 122 kc nc := by
  obtain ⟨l, T, mk, MA, sc, hG, hP, hR⟩ := hL
  obtain ⟨c1, hc1, e1⟩ := I_of (zF z (i + 1))
  obtain ⟨c2, hc2, e2⟩ := I_of (zF z (i + 2))
  obtain ⟨fsO, hO⟩ := hP.o
  refine V_aload_n dL_law_497 rfl ?_
  refine V_callVR (Y' := YX7_missRateBits) dL_law_498 lL_85 gX7_missRateBits (k7_missRateBits (d := 0) hG hP ) hO rfl rfl rfl (Nat.le_of_ble_eq_true rfl) (Nat.le_of_ble_eq_true rfl) (Nat.le_of_ble_eq_true rfl) ⟨by show kc + 0 ≤ 600000; omega, by show nc + 0 ≤ 7302250; omega⟩ (fun v h1 sz1 hq => ?_)
  obtain ⟨⟨v1, rfl, hv1⟩, rfl, hf, hP⟩ := hq
  have hR := hR.re hf
  obtain ⟨fs8, hO8⟩ := hR.o
  refine V_pop dL_law_501 hv1 ?_
  refine V_aload_n dL_law_502 rfl ?_
  refine V_callVR (Y' := YX8_missRateBits) dL_law_503 lL_88 gX8_missRateBits (k8_missRateBits (d := 0) hG hR ) hO8 rfl rfl rfl (Nat.le_of_ble_eq_true rfl) (Nat.le_of_ble_eq_true rfl) (Nat.le_of_ble_eq_true rfl) ⟨by show kc + 0 ≤ 600000; omega, by show nc + 0 ≤ 7302250; omega⟩ (fun v h2 sz2 hq => ?_)
  obtain ⟨⟨v2, rfl, hv2⟩, rfl, hR2⟩ := hq
  refine V_pop dL_law_506 hv2 ?_
  refine V_goto (tgt := 822) dL_law_507 (by decide) ?_
  exact kk _ ⟨l, T, mk, MA, sc, hG, hP.kept (fun q hq => hR2.lo q hq), hR2.re fr.rf⟩
set_option maxHeartbeats 4000000 in
set_option maxRecDepth 100000 in
/-- markPosition -/
theorem law_18 {z : ZG} {nm : String} {Q : ZQ} {i kc nc : Nat} {h : AH} (hi : i + 2 < zN z) (hN : zN z ≤ 1536) (hkn : kc ≤ 600000 ∧ nc ≤ 7302250) (kk : ∀ h : AH, LI h → V z (YL nm) room_1 Q 822 [some (.retAddr (zX z)), some (.ref 0), some (.ref 114), some (.int (I (i : Int)))] [] h 122 kc nc) (hL : LI h) : V z (YL nm) room_1 Q 510 [some (.retAddr (zX z)), some (.ref 0), some (.ref 114), some (.int (I (i : Int)))] [] h 122 kc nc := by
  obtain ⟨l, T, mk, MA, sc, hG, hP, hR⟩ := hL
  obtain ⟨c1, hc1, e1⟩ := I_of (zF z (i + 1))
  obtain ⟨c2, hc2, e2⟩ := I_of (zF z (i + 2))
  obtain ⟨fsO, hO⟩ := hP.o
  obtain ⟨s, hn, NN, hE, hh, hrN⟩ := hP
  obtain ⟨g1, g2, g3, g4, g5⟩ := id hG
  obtain ⟨n8, s8, sp8, nu8, rs8, rm8, km8, RA8, RD8, NW8, SD8, KP8, hm8, hra8, hr8, hk8, hkr8⟩ := id hR
  refine V_aload_n dL_law_510 rfl ?_
  refine V_aload_nS dL_law_511 rfl ?_
  refine V_iload_n dL_law_512 rfl ?_
  refine J_iconst dL_law_513 ?_
  refine J_iadd dL_law_514 ?_
  refine V_top (b := ((i + 1 : Nat) : Int)) (by omega) ?_
  refine V_sld (k := i + 1) (by omega) (by omega) dL_law_515 ?_
  rw [e1]
  refine V_callVR (Y' := YX7_markPosition) dL_law_516 lL_89 gX7_markPosition (m7_markPosition (d := 0) hE ⟨g1, g2, g3, g4, g5, hh, hrN⟩ hc1) hE.1 rfl rfl rfl (Nat.le_of_ble_eq_true rfl) (Nat.le_of_ble_eq_true rfl) (Nat.le_of_ble_eq_true rfl) ⟨by show kc + 0 ≤ 600000; omega, by show nc + 0 ≤ 7302250; omega⟩ (fun v h1 sz1 hq => ?_)
  obtain ⟨v1, rfl, hv1, rfl, rfl⟩ := hq
  have hf : fr h1 h1 0 114 := fr.rf
  have hm8 := hm8.re (h2 := h1) (fun x hx => hf x (by omega))
  refine V_aload_n dL_law_519 rfl ?_
  refine V_aload_nS dL_law_520 rfl ?_
  refine V_iload_n dL_law_521 rfl ?_
  refine J_iconst dL_law_522 ?_
  refine J_iadd dL_law_523 ?_
  refine V_top (b := ((i + 1 : Nat) : Int)) (by omega) ?_
  refine V_sld (k := i + 1) (by omega) (by omega) dL_law_524 ?_
  rw [e1]
  refine V_callVR (Y' := YX8_markPosition) dL_law_525 lL_92 gX8_markPosition (m8_markPosition (d := 0) hc1 hm8 g3) hm8.1 rfl rfl rfl (Nat.le_of_ble_eq_true rfl) (Nat.le_of_ble_eq_true rfl) (Nat.le_of_ble_eq_true rfl) ⟨by show kc + 0 ≤ 600000; omega, by show nc + 0 ≤ 7302250; omega⟩ (fun v h2 sz2 hq => ?_)
  obtain ⟨v2, rfl, hv2, rfl, rfl⟩ := hq
  refine V_icmp_eq (tgt := 822) dL_law_528 (by decide) (fun _ => ?_) (fun c => absurd (congrArg I (by rcases hv1 with ⟨a, b⟩ | ⟨a, b⟩ <;> rcases hv2 with ⟨c, e⟩ | ⟨c, e⟩ <;> first | exact absurd e b | exact absurd b e | (rw [a, c]))) c)
  exact kk _ ⟨l, T, mk, MA, sc, hG, ⟨_, _, _, hE, hh, hrN⟩, _, _, _, _, _, _, _, _, _, _, _, _, hm8, hra8, hr8, hk8, hkr8⟩
set_option maxHeartbeats 4000000 in
set_option maxRecDepth 100000 in
/-- expectedCount -/
theorem law_19 {z : ZG} {nm : String} {Q : ZQ} {i kc nc : Nat} {h : AH} (hi : i + 2 < zN z) (hN : zN z ≤ 1536) (hkn : kc ≤ 600000 ∧ nc ≤ 7302250) (kk : ∀ h : AH, LI h → V z (YL nm) room_1 Q 822 [some (.retAddr (zX z)), some (.ref 0), some (.ref 114), some (.int (I (i : Int)))] [] h 122 kc nc) (hL : LI h) : V z (YL nm) room_1 Q 533 [some (.retAddr (zX z)), some (.ref 0), some (.ref 114), some (.int (I (i : Int)))] [] h 122 kc nc := by
  obtain ⟨l, T, mk, MA, sc, hG, hP, hR⟩ := hL
  obtain ⟨c1, hc1, e1⟩ := I_of (zF z (i + 1))
  obtain ⟨c2, hc2, e2⟩ := I_of (zF z (i + 2))
  obtain ⟨fsO, hO⟩ := hP.o
  refine V_aload_n dL_law_533 rfl ?_
  refine V_aload_nS dL_law_534 rfl ?_
  refine V_iload_n dL_law_535 rfl ?_
  refine J_iconst dL_law_536 ?_
  refine J_iadd dL_law_537 ?_
  refine V_top (b := ((i + 1 : Nat) : Int)) (by omega) ?_
  refine V_sld (k := i + 1) (by omega) (by omega) dL_law_538 ?_
  rw [e1]
  refine V_callVR (Y' := YX7_expectedCount) dL_law_539 lL_93 gX7_expectedCount (k7_expectedCount (d := 0) hG hP hc1) hO rfl rfl rfl (Nat.le_of_ble_eq_true rfl) (Nat.le_of_ble_eq_true rfl) (Nat.le_of_ble_eq_true rfl) ⟨by show kc + 0 ≤ 600000; omega, by show nc + 0 ≤ 7302250; omega⟩ (fun v h1 sz1 hq => ?_)
  obtain ⟨⟨v1, rfl, hv1⟩, rfl, hf, hP⟩ := hq
  have hR := hR.re hf
  obtain ⟨fs8, hO8⟩ := hR.o
  refine V_pop dL_law_542 hv1 ?_
  refine V_aload_n dL_law_543 rfl ?_
  refine V_aload_nS dL_law_544 rfl ?_
  refine V_iload_n dL_law_545 rfl ?_
  refine J_iconst dL_law_546 ?_
  refine J_iadd dL_law_547 ?_
  refine V_top (b := ((i + 1 : Nat) : Int)) (by omega) ?_
  refine V_sld (k := i + 1) (by omega) (by omega) dL_law_548 ?_
  rw [e1]
  refine V_callVR (Y' := YX8_expectedCount) dL_law_549 lL_96 gX8_expectedCount (k8_expectedCount (d := 0) hG hR hc1) hO8 rfl rfl rfl (Nat.le_of_ble_eq_true rfl) (Nat.le_of_ble_eq_true rfl) (Nat.le_of_ble_eq_true rfl) ⟨by show kc + 0 ≤ 600000; omega, by show nc + 0 ≤ 7302250; omega⟩ (fun v h2 sz2 hq => ?_)
  obtain ⟨⟨v2, rfl, hv2⟩, rfl, hR2⟩ := hq
  refine V_pop dL_law_552 hv2 ?_
  refine V_goto (tgt := 822) dL_law_553 (by decide) ?_
  exact kk _ ⟨l, T, mk, MA, sc, hG, hP.kept (fun q hq => hR2.lo q hq), hR2.re fr.rf⟩
set_option maxHeartbeats 4000000 in
set_option maxRecDepth 100000 in
/-- eventKind -/
theorem law_20 {z : ZG} {nm : String} {Q : ZQ} {i kc nc : Nat} {h : AH} (hi : i + 2 < zN z) (hN : zN z ≤ 1536) (hkn : kc ≤ 600000 ∧ nc ≤ 7302250) (kk : ∀ h : AH, LI h → V z (YL nm) room_1 Q 822 [some (.retAddr (zX z)), some (.ref 0), some (.ref 114), some (.int (I (i : Int)))] [] h 122 kc nc) (hL : LI h) : V z (YL nm) room_1 Q 556 [some (.retAddr (zX z)), some (.ref 0), some (.ref 114), some (.int (I (i : Int)))] [] h 122 kc nc := by
  obtain ⟨l, T, mk, MA, sc, hG, hP, hR⟩ := hL
  obtain ⟨c1, hc1, e1⟩ := I_of (zF z (i + 1))
  obtain ⟨c2, hc2, e2⟩ := I_of (zF z (i + 2))
  obtain ⟨fsO, hO⟩ := hP.o
  refine V_aload_n dL_law_556 rfl ?_
  refine V_aload_nS dL_law_557 rfl ?_
  refine V_iload_n dL_law_558 rfl ?_
  refine J_iconst dL_law_559 ?_
  refine J_iadd dL_law_560 ?_
  refine V_top (b := ((i + 1 : Nat) : Int)) (by omega) ?_
  refine V_sld (k := i + 1) (by omega) (by omega) dL_law_561 ?_
  rw [e1]
  refine V_callVR (Y' := YX7_eventKind) dL_law_562 lL_97 gX7_eventKind (k7_eventKind (d := 0) hG hP hc1) hO rfl rfl rfl (Nat.le_of_ble_eq_true rfl) (Nat.le_of_ble_eq_true rfl) (Nat.le_of_ble_eq_true rfl) ⟨by show kc + 0 ≤ 600000; omega, by show nc + 0 ≤ 7302250; omega⟩ (fun v h1 sz1 hq => ?_)
  obtain ⟨⟨v1, rfl, hv1⟩, rfl, hf, hP⟩ := hq
  have hR := hR.re hf
  obtain ⟨fs8, hO8⟩ := hR.o
  refine V_pop dL_law_565 hv1 ?_
  refine V_aload_n dL_law_566 rfl ?_
  refine V_aload_nS dL_law_567 rfl ?_
  refine V_iload_n dL_law_568 rfl ?_
  refine J_iconst dL_law_569 ?_
  refine J_iadd dL_law_570 ?_
  refine V_top (b := ((i + 1 : Nat) : Int)) (by omega) ?_
  refine V_sld (k := i + 1) (by omega) (by omega) dL_law_571 ?_
  rw [e1]
  refine V_callVR (Y' := YX8_eventKind) dL_law_572 lL_100 gX8_eventKind (k8_eventKind (d := 0) hG hR hc1) hO8 rfl rfl rfl (Nat.le_of_ble_eq_true rfl) (Nat.le_of_ble_eq_true rfl) (Nat.le_of_ble_eq_true rfl) ⟨by show kc + 0 ≤ 600000; omega, by show nc + 0 ≤ 7302250; omega⟩ (fun v h2 sz2 hq => ?_)
  obtain ⟨⟨v2, rfl, hv2⟩, rfl, hR2⟩ := hq
  refine V_pop dL_law_575 hv2 ?_
  refine V_goto (tgt := 822) dL_law_576 (by decide) ?_
  exact kk _ ⟨l, T, mk, MA, sc, hG, hP.kept (fun q hq => hR2.lo q hq), hR2.re fr.rf⟩
set_option maxHeartbeats 4000000 in
set_option maxRecDepth 100000 in
/-- eventPosition -/
theorem law_21 {z : ZG} {nm : String} {Q : ZQ} {i kc nc : Nat} {h : AH} (hi : i + 2 < zN z) (hN : zN z ≤ 1536) (hkn : kc ≤ 600000 ∧ nc ≤ 7302250) (kk : ∀ h : AH, LI h → V z (YL nm) room_1 Q 822 [some (.retAddr (zX z)), some (.ref 0), some (.ref 114), some (.int (I (i : Int)))] [] h 122 kc nc) (hL : LI h) : V z (YL nm) room_1 Q 579 [some (.retAddr (zX z)), some (.ref 0), some (.ref 114), some (.int (I (i : Int)))] [] h 122 kc nc := by
  obtain ⟨l, T, mk, MA, sc, hG, hP, hR⟩ := hL
  obtain ⟨c1, hc1, e1⟩ := I_of (zF z (i + 1))
  obtain ⟨c2, hc2, e2⟩ := I_of (zF z (i + 2))
  obtain ⟨fsO, hO⟩ := hP.o
  refine V_aload_n dL_law_579 rfl ?_
  refine V_aload_nS dL_law_580 rfl ?_
  refine V_iload_n dL_law_581 rfl ?_
  refine J_iconst dL_law_582 ?_
  refine J_iadd dL_law_583 ?_
  refine V_top (b := ((i + 1 : Nat) : Int)) (by omega) ?_
  refine V_sld (k := i + 1) (by omega) (by omega) dL_law_584 ?_
  rw [e1]
  refine V_callVR (Y' := YX7_eventPosition) dL_law_585 lL_101 gX7_eventPosition (k7_eventPosition (d := 0) hG hP hc1) hO rfl rfl rfl (Nat.le_of_ble_eq_true rfl) (Nat.le_of_ble_eq_true rfl) (Nat.le_of_ble_eq_true rfl) ⟨by show kc + 0 ≤ 600000; omega, by show nc + 0 ≤ 7302250; omega⟩ (fun v h1 sz1 hq => ?_)
  obtain ⟨⟨v1, rfl, hv1⟩, rfl, hf, hP⟩ := hq
  have hR := hR.re hf
  obtain ⟨fs8, hO8⟩ := hR.o
  refine V_pop dL_law_588 hv1 ?_
  refine V_aload_n dL_law_589 rfl ?_
  refine V_aload_nS dL_law_590 rfl ?_
  refine V_iload_n dL_law_591 rfl ?_
  refine J_iconst dL_law_592 ?_
  refine J_iadd dL_law_593 ?_
  refine V_top (b := ((i + 1 : Nat) : Int)) (by omega) ?_
  refine V_sld (k := i + 1) (by omega) (by omega) dL_law_594 ?_
  rw [e1]
  refine V_callVR (Y' := YX8_eventPosition) dL_law_595 lL_104 gX8_eventPosition (k8_eventPosition (d := 0) hG hR hc1) hO8 rfl rfl rfl (Nat.le_of_ble_eq_true rfl) (Nat.le_of_ble_eq_true rfl) (Nat.le_of_ble_eq_true rfl) ⟨by show kc + 0 ≤ 600000; omega, by show nc + 0 ≤ 7302250; omega⟩ (fun v h2 sz2 hq => ?_)
  obtain ⟨⟨v2, rfl, hv2⟩, rfl, hR2⟩ := hq
  refine V_pop dL_law_598 hv2 ?_
  refine V_goto (tgt := 822) dL_law_599 (by decide) ?_
  exact kk _ ⟨l, T, mk, MA, sc, hG, hP.kept (fun q hq => hR2.lo q hq), hR2.re fr.rf⟩
set_option maxHeartbeats 4000000 in
set_option maxRecDepth 100000 in
/-- eventCounter -/
theorem law_22 {z : ZG} {nm : String} {Q : ZQ} {i kc nc : Nat} {h : AH} (hi : i + 2 < zN z) (hN : zN z ≤ 1536) (hkn : kc ≤ 600000 ∧ nc ≤ 7302250) (kk : ∀ h : AH, LI h → V z (YL nm) room_1 Q 822 [some (.retAddr (zX z)), some (.ref 0), some (.ref 114), some (.int (I (i : Int)))] [] h 122 kc nc) (hL : LI h) : V z (YL nm) room_1 Q 602 [some (.retAddr (zX z)), some (.ref 0), some (.ref 114), some (.int (I (i : Int)))] [] h 122 kc nc := by
  obtain ⟨l, T, mk, MA, sc, hG, hP, hR⟩ := hL
  obtain ⟨c1, hc1, e1⟩ := I_of (zF z (i + 1))
  obtain ⟨c2, hc2, e2⟩ := I_of (zF z (i + 2))
  obtain ⟨fsO, hO⟩ := hP.o
  refine V_aload_n dL_law_602 rfl ?_
  refine V_aload_nS dL_law_603 rfl ?_
  refine V_iload_n dL_law_604 rfl ?_
  refine J_iconst dL_law_605 ?_
  refine J_iadd dL_law_606 ?_
  refine V_top (b := ((i + 1 : Nat) : Int)) (by omega) ?_
  refine V_sld (k := i + 1) (by omega) (by omega) dL_law_607 ?_
  rw [e1]
  refine V_callVR (Y' := YX7_eventCounter) dL_law_608 lL_105 gX7_eventCounter (k7_eventCounter (d := 0) hG hP hc1) hO rfl rfl rfl (Nat.le_of_ble_eq_true rfl) (Nat.le_of_ble_eq_true rfl) (Nat.le_of_ble_eq_true rfl) ⟨by show kc + 0 ≤ 600000; omega, by show nc + 0 ≤ 7302250; omega⟩ (fun v h1 sz1 hq => ?_)
  obtain ⟨⟨v1, rfl, hv1⟩, rfl, hf, hP⟩ := hq
  have hR := hR.re hf
  obtain ⟨fs8, hO8⟩ := hR.o
  refine V_pop2 dL_law_611 hv1 ?_
  refine V_aload_n dL_law_612 rfl ?_
  refine V_aload_nS dL_law_613 rfl ?_
  refine V_iload_n dL_law_614 rfl ?_
  refine J_iconst dL_law_615 ?_
  refine J_iadd dL_law_616 ?_
  refine V_top (b := ((i + 1 : Nat) : Int)) (by omega) ?_
  refine V_sld (k := i + 1) (by omega) (by omega) dL_law_617 ?_
  rw [e1]
  refine V_callVR (Y' := YX8_eventCounter) dL_law_618 lL_109 gX8_eventCounter (k8_eventCounter (d := 0) hG hR hc1) hO8 rfl rfl rfl (Nat.le_of_ble_eq_true rfl) (Nat.le_of_ble_eq_true rfl) (Nat.le_of_ble_eq_true rfl) ⟨by show kc + 0 ≤ 600000; omega, by show nc + 0 ≤ 7302250; omega⟩ (fun v h2 sz2 hq => ?_)
  obtain ⟨⟨v2, rfl, hv2⟩, rfl, hR2⟩ := hq
  refine V_pop2 dL_law_621 hv2 ?_
  refine V_goto (tgt := 822) dL_law_622 (by decide) ?_
  exact kk _ ⟨l, T, mk, MA, sc, hG, hP.kept (fun q hq => hR2.lo q hq), hR2.re fr.rf⟩
set_option maxHeartbeats 4000000 in
set_option maxRecDepth 100000 in
/-- predictSlip -/
theorem law_23 {z : ZG} {nm : String} {Q : ZQ} {i kc nc : Nat} {h : AH} (hi : i + 2 < zN z) (hN : zN z ≤ 1536) (hkn : kc ≤ 600000 ∧ nc ≤ 7302250) (kk : ∀ h : AH, LI h → V z (YL nm) room_1 Q 822 [some (.retAddr (zX z)), some (.ref 0), some (.ref 114), some (.int (I (i : Int)))] [] h 122 kc nc) (hL : LI h) : V z (YL nm) room_1 Q 625 [some (.retAddr (zX z)), some (.ref 0), some (.ref 114), some (.int (I (i : Int)))] [] h 122 kc nc := by
  obtain ⟨l, T, mk, MA, sc, hG, hP, hR⟩ := hL
  obtain ⟨c1, hc1, e1⟩ := I_of (zF z (i + 1))
  obtain ⟨c2, hc2, e2⟩ := I_of (zF z (i + 2))
  obtain ⟨fsO, hO⟩ := hP.o
  refine V_aload_n dL_law_625 rfl ?_
  refine V_aload_nS dL_law_626 rfl ?_
  refine V_iload_n dL_law_627 rfl ?_
  refine J_iconst dL_law_628 ?_
  refine J_iadd dL_law_629 ?_
  refine V_top (b := ((i + 1 : Nat) : Int)) (by omega) ?_
  refine V_sld (k := i + 1) (by omega) (by omega) dL_law_630 ?_
  rw [e1]
  refine V_aload_nS dL_law_631 rfl ?_
  refine V_iload_n dL_law_632 rfl ?_
  refine J_iconst dL_law_633 ?_
  refine J_iadd dL_law_634 ?_
  refine V_top (b := ((i + 2 : Nat) : Int)) (by omega) ?_
  refine V_sld (k := i + 2) (by omega) (by omega) dL_law_635 ?_
  rw [e2]
  refine V_callVR (Y' := YX7_predictSlip) dL_law_636 lL_110 gX7_predictSlip (k7_predictSlip (d := 0) hG hP hc1 hc2) hO rfl rfl rfl (Nat.le_of_ble_eq_true rfl) (Nat.le_of_ble_eq_true rfl) (Nat.le_of_ble_eq_true rfl) ⟨by show kc + 0 ≤ 600000; omega, by show nc + 0 ≤ 7302250; omega⟩ (fun v h1 sz1 hq => ?_)
  obtain ⟨⟨v1, rfl, hv1⟩, rfl, hf, hP⟩ := hq
  have hR := hR.re hf
  obtain ⟨fs8, hO8⟩ := hR.o
  refine V_pop2 dL_law_639 hv1 ?_
  refine V_aload_n dL_law_640 rfl ?_
  refine V_aload_nS dL_law_641 rfl ?_
  refine V_iload_n dL_law_642 rfl ?_
  refine J_iconst dL_law_643 ?_
  refine J_iadd dL_law_644 ?_
  refine V_top (b := ((i + 1 : Nat) : Int)) (by omega) ?_
  refine V_sld (k := i + 1) (by omega) (by omega) dL_law_645 ?_
  rw [e1]
  refine V_aload_nS dL_law_646 rfl ?_
  refine V_iload_n dL_law_647 rfl ?_
  refine J_iconst dL_law_648 ?_
  refine J_iadd dL_law_649 ?_
  refine V_top (b := ((i + 2 : Nat) : Int)) (by omega) ?_
  refine V_sld (k := i + 2) (by omega) (by omega) dL_law_650 ?_
  rw [e2]
  refine V_callVR (Y' := YX8_predictSlip) dL_law_651 lL_114 gX8_predictSlip (k8_predictSlip (d := 0) hG hR hc1 hc2) hO8 rfl rfl rfl (Nat.le_of_ble_eq_true rfl) (Nat.le_of_ble_eq_true rfl) (Nat.le_of_ble_eq_true rfl) ⟨by show kc + 0 ≤ 600000; omega, by show nc + 0 ≤ 7302250; omega⟩ (fun v h2 sz2 hq => ?_)
  obtain ⟨⟨v2, rfl, hv2⟩, rfl, hR2⟩ := hq
  refine V_pop2 dL_law_654 hv2 ?_
  refine V_goto (tgt := 822) dL_law_655 (by decide) ?_
  exact kk _ ⟨l, T, mk, MA, sc, hG, hP.kept (fun q hq => hR2.lo q hq), hR2.re fr.rf⟩
set_option maxHeartbeats 4000000 in
set_option maxRecDepth 100000 in
/-- fastestSafeSpeed -/
theorem law_24 {z : ZG} {nm : String} {Q : ZQ} {i kc nc : Nat} {h : AH} (hi : i + 2 < zN z) (hN : zN z ≤ 1536) (hkn : kc ≤ 600000 ∧ nc ≤ 7302250) (kk : ∀ h : AH, LI h → V z (YL nm) room_1 Q 822 [some (.retAddr (zX z)), some (.ref 0), some (.ref 114), some (.int (I (i : Int)))] [] h 122 kc nc) (hL : LI h) : V z (YL nm) room_1 Q 658 [some (.retAddr (zX z)), some (.ref 0), some (.ref 114), some (.int (I (i : Int)))] [] h 122 kc nc := by
  obtain ⟨l, T, mk, MA, sc, hG, hP, hR⟩ := hL
  obtain ⟨c1, hc1, e1⟩ := I_of (zF z (i + 1))
  obtain ⟨c2, hc2, e2⟩ := I_of (zF z (i + 2))
  obtain ⟨fsO, hO⟩ := hP.o
  refine V_aload_n dL_law_658 rfl ?_
  refine V_aload_nS dL_law_659 rfl ?_
  refine V_iload_n dL_law_660 rfl ?_
  refine J_iconst dL_law_661 ?_
  refine J_iadd dL_law_662 ?_
  refine V_top (b := ((i + 1 : Nat) : Int)) (by omega) ?_
  refine V_sld (k := i + 1) (by omega) (by omega) dL_law_663 ?_
  rw [e1]
  refine V_callVR (Y' := YX7_fastestSafeSpeed) dL_law_664 lL_115 gX7_fastestSafeSpeed (k7_fastestSafeSpeed (d := 0) hG hP hc1) hO rfl rfl rfl (Nat.le_of_ble_eq_true rfl) (Nat.le_of_ble_eq_true rfl) (Nat.le_of_ble_eq_true rfl) ⟨by show kc + 0 ≤ 600000; omega, by show nc + 0 ≤ 7302250; omega⟩ (fun v h1 sz1 hq => ?_)
  obtain ⟨⟨v1, rfl, hv1⟩, rfl, hf, hP⟩ := hq
  have hR := hR.re hf
  obtain ⟨fs8, hO8⟩ := hR.o
  refine V_pop dL_law_667 hv1 ?_
  refine V_aload_n dL_law_668 rfl ?_
  refine V_aload_nS dL_law_669 rfl ?_
  refine V_iload_n dL_law_670 rfl ?_
  refine J_iconst dL_law_671 ?_
  refine J_iadd dL_law_672 ?_
  refine V_top (b := ((i + 1 : Nat) : Int)) (by omega) ?_
  refine V_sld (k := i + 1) (by omega) (by omega) dL_law_673 ?_
  rw [e1]
  refine V_callVR (Y' := YX8_fastestSafeSpeed) dL_law_674 lL_118 gX8_fastestSafeSpeed (k8_fastestSafeSpeed (d := 0) hG hR hc1) hO8 rfl rfl rfl (Nat.le_of_ble_eq_true rfl) (Nat.le_of_ble_eq_true rfl) (Nat.le_of_ble_eq_true rfl) ⟨by show kc + 0 ≤ 600000; omega, by show nc + 0 ≤ 7302250; omega⟩ (fun v h2 sz2 hq => ?_)
  obtain ⟨⟨v2, rfl, hv2⟩, rfl, hR2⟩ := hq
  refine V_pop dL_law_677 hv2 ?_
  refine V_goto (tgt := 822) dL_law_678 (by decide) ?_
  exact kk _ ⟨l, T, mk, MA, sc, hG, hP.kept (fun q hq => hR2.lo q hq), hR2.re fr.rf⟩
set_option maxHeartbeats 4000000 in
set_option maxRecDepth 100000 in
/-- brightness -/
theorem law_25 {z : ZG} {nm : String} {Q : ZQ} {i kc nc : Nat} {h : AH} (hi : i + 2 < zN z) (hN : zN z ≤ 1536) (hkn : kc ≤ 600000 ∧ nc ≤ 7302250) (kk : ∀ h : AH, LI h → V z (YL nm) room_1 Q 822 [some (.retAddr (zX z)), some (.ref 0), some (.ref 114), some (.int (I (i : Int)))] [] h 122 kc nc) (hL : LI h) : V z (YL nm) room_1 Q 681 [some (.retAddr (zX z)), some (.ref 0), some (.ref 114), some (.int (I (i : Int)))] [] h 122 kc nc := by
  obtain ⟨l, T, mk, MA, sc, hG, hP, hR⟩ := hL
  obtain ⟨c1, hc1, e1⟩ := I_of (zF z (i + 1))
  obtain ⟨c2, hc2, e2⟩ := I_of (zF z (i + 2))
  obtain ⟨fsO, hO⟩ := hP.o
  refine V_aload_n dL_law_681 rfl ?_
  refine V_aload_nS dL_law_682 rfl ?_
  refine V_iload_n dL_law_683 rfl ?_
  refine J_iconst dL_law_684 ?_
  refine J_iadd dL_law_685 ?_
  refine V_top (b := ((i + 1 : Nat) : Int)) (by omega) ?_
  refine V_sld (k := i + 1) (by omega) (by omega) dL_law_686 ?_
  rw [e1]
  refine V_aload_nS dL_law_687 rfl ?_
  refine V_iload_n dL_law_688 rfl ?_
  refine J_iconst dL_law_689 ?_
  refine J_iadd dL_law_690 ?_
  refine V_top (b := ((i + 2 : Nat) : Int)) (by omega) ?_
  refine V_sld (k := i + 2) (by omega) (by omega) dL_law_691 ?_
  rw [e2]
  refine V_callVR (Y' := YX7_brightness) dL_law_692 lL_119 gX7_brightness (k7_brightness (d := 0) hG hP hc1 hc2) hO rfl rfl rfl (Nat.le_of_ble_eq_true rfl) (Nat.le_of_ble_eq_true rfl) (Nat.le_of_ble_eq_true rfl) ⟨by show kc + 0 ≤ 600000; omega, by show nc + 0 ≤ 7302250; omega⟩ (fun v h1 sz1 hq => ?_)
  obtain ⟨⟨v1, rfl, hv1⟩, rfl, hf, hP⟩ := hq
  have hR := hR.re hf
  obtain ⟨fs8, hO8⟩ := hR.o
  refine V_pop dL_law_695 hv1 ?_
  refine V_aload_n dL_law_696 rfl ?_
  refine V_aload_nS dL_law_697 rfl ?_
  refine V_iload_n dL_law_698 rfl ?_
  refine J_iconst dL_law_699 ?_
  refine J_iadd dL_law_700 ?_
  refine V_top (b := ((i + 1 : Nat) : Int)) (by omega) ?_
  refine V_sld (k := i + 1) (by omega) (by omega) dL_law_701 ?_
  rw [e1]
  refine V_aload_nS dL_law_702 rfl ?_
  refine V_iload_n dL_law_703 rfl ?_
  refine J_iconst dL_law_704 ?_
  refine J_iadd dL_law_705 ?_
  refine V_top (b := ((i + 2 : Nat) : Int)) (by omega) ?_
  refine V_sld (k := i + 2) (by omega) (by omega) dL_law_706 ?_
  rw [e2]
  refine V_callVR (Y' := YX8_brightness) dL_law_707 lL_122 gX8_brightness (k8_brightness (d := 0) hG hR hc1 hc2) hO8 rfl rfl rfl (Nat.le_of_ble_eq_true rfl) (Nat.le_of_ble_eq_true rfl) (Nat.le_of_ble_eq_true rfl) ⟨by show kc + 0 ≤ 600000; omega, by show nc + 0 ≤ 7302250; omega⟩ (fun v h2 sz2 hq => ?_)
  obtain ⟨⟨v2, rfl, hv2⟩, rfl, hR2⟩ := hq
  refine V_pop dL_law_710 hv2 ?_
  refine V_goto (tgt := 822) dL_law_711 (by decide) ?_
  exact kk _ ⟨l, T, mk, MA, sc, hG, hP.kept (fun q hq => hR2.lo q hq), hR2.re fr.rf⟩
set_option maxHeartbeats 4000000 in
set_option maxRecDepth 100000 in
/-- brightestStart -/
theorem law_26 {z : ZG} {nm : String} {Q : ZQ} {i kc nc : Nat} {h : AH} (hi : i + 2 < zN z) (hN : zN z ≤ 1536) (hkn : kc ≤ 600000 ∧ nc ≤ 7302250) (kk : ∀ h : AH, LI h → V z (YL nm) room_1 Q 822 [some (.retAddr (zX z)), some (.ref 0), some (.ref 114), some (.int (I (i : Int)))] [] h 122 kc nc) (hL : LI h) : V z (YL nm) room_1 Q 714 [some (.retAddr (zX z)), some (.ref 0), some (.ref 114), some (.int (I (i : Int)))] [] h 122 kc nc := by
  obtain ⟨l, T, mk, MA, sc, hG, hP, hR⟩ := hL
  obtain ⟨c1, hc1, e1⟩ := I_of (zF z (i + 1))
  obtain ⟨c2, hc2, e2⟩ := I_of (zF z (i + 2))
  obtain ⟨fsO, hO⟩ := hP.o
  refine V_aload_n dL_law_714 rfl ?_
  refine V_aload_nS dL_law_715 rfl ?_
  refine V_iload_n dL_law_716 rfl ?_
  refine J_iconst dL_law_717 ?_
  refine J_iadd dL_law_718 ?_
  refine V_top (b := ((i + 1 : Nat) : Int)) (by omega) ?_
  refine V_sld (k := i + 1) (by omega) (by omega) dL_law_719 ?_
  rw [e1]
  refine V_callVR (Y' := YX7_brightestStart) dL_law_720 lL_123 gX7_brightestStart (k7_brightestStart (d := 0) hG hP hc1) hO rfl rfl rfl (Nat.le_of_ble_eq_true rfl) (Nat.le_of_ble_eq_true rfl) (Nat.le_of_ble_eq_true rfl) ⟨by show kc + 0 ≤ 600000; omega, by show nc + 0 ≤ 7302250; omega⟩ (fun v h1 sz1 hq => ?_)
  obtain ⟨⟨v1, rfl, hv1⟩, rfl, hf, hP⟩ := hq
  have hR := hR.re hf
  obtain ⟨fs8, hO8⟩ := hR.o
  refine V_pop dL_law_723 hv1 ?_
  refine V_aload_n dL_law_724 rfl ?_
  refine V_aload_nS dL_law_725 rfl ?_
  refine V_iload_n dL_law_726 rfl ?_
  refine J_iconst dL_law_727 ?_
  refine J_iadd dL_law_728 ?_
  refine V_top (b := ((i + 1 : Nat) : Int)) (by omega) ?_
  refine V_sld (k := i + 1) (by omega) (by omega) dL_law_729 ?_
  rw [e1]
  refine V_callVR (Y' := YX8_brightestStart) dL_law_730 lL_126 gX8_brightestStart (k8_brightestStart (d := 0) hG hR hc1) hO8 rfl rfl rfl (Nat.le_of_ble_eq_true rfl) (Nat.le_of_ble_eq_true rfl) (Nat.le_of_ble_eq_true rfl) ⟨by show kc + 0 ≤ 600000; omega, by show nc + 0 ≤ 7302250; omega⟩ (fun v h2 sz2 hq => ?_)
  obtain ⟨⟨v2, rfl, hv2⟩, rfl, hR2⟩ := hq
  refine V_pop dL_law_733 hv2 ?_
  refine V_goto (tgt := 822) dL_law_734 (by decide) ?_
  exact kk _ ⟨l, T, mk, MA, sc, hG, hP.kept (fun q hq => hR2.lo q hq), hR2.re fr.rf⟩
set_option maxHeartbeats 4000000 in
set_option maxRecDepth 100000 in
/-- overlayPeriod -/
theorem law_27 {z : ZG} {nm : String} {Q : ZQ} {i kc nc : Nat} {h : AH} (hi : i + 2 < zN z) (hN : zN z ≤ 1536) (hkn : kc ≤ 600000 ∧ nc ≤ 7302250) (kk : ∀ h : AH, LI h → V z (YL nm) room_1 Q 822 [some (.retAddr (zX z)), some (.ref 0), some (.ref 114), some (.int (I (i : Int)))] [] h 122 kc nc) (hL : LI h) : V z (YL nm) room_1 Q 737 [some (.retAddr (zX z)), some (.ref 0), some (.ref 114), some (.int (I (i : Int)))] [] h 122 kc nc := by
  obtain ⟨l, T, mk, MA, sc, hG, hP, hR⟩ := hL
  obtain ⟨c1, hc1, e1⟩ := I_of (zF z (i + 1))
  obtain ⟨c2, hc2, e2⟩ := I_of (zF z (i + 2))
  obtain ⟨fsO, hO⟩ := hP.o
  refine V_aload_n dL_law_737 rfl ?_
  refine V_callVR (Y' := YX7_overlayPeriod) dL_law_738 lL_127 gX7_overlayPeriod (k7_overlayPeriod (d := 0) hG hP ) hO rfl rfl rfl (Nat.le_of_ble_eq_true rfl) (Nat.le_of_ble_eq_true rfl) (Nat.le_of_ble_eq_true rfl) ⟨by show kc + 0 ≤ 600000; omega, by show nc + 0 ≤ 7302250; omega⟩ (fun v h1 sz1 hq => ?_)
  obtain ⟨⟨v1, rfl, hv1⟩, rfl, hf, hP⟩ := hq
  have hR := hR.re hf
  obtain ⟨fs8, hO8⟩ := hR.o
  refine V_pop dL_law_741 hv1 ?_
  refine V_aload_n dL_law_742 rfl ?_
  refine V_callVR (Y' := YX8_overlayPeriod) dL_law_743 lL_130 gX8_overlayPeriod (k8_overlayPeriod (d := 0) hG hR ) hO8 rfl rfl rfl (Nat.le_of_ble_eq_true rfl) (Nat.le_of_ble_eq_true rfl) (Nat.le_of_ble_eq_true rfl) ⟨by show kc + 0 ≤ 600000; omega, by show nc + 0 ≤ 7302250; omega⟩ (fun v h2 sz2 hq => ?_)
  obtain ⟨⟨v2, rfl, hv2⟩, rfl, hR2⟩ := hq
  refine V_pop dL_law_746 hv2 ?_
  refine V_goto (tgt := 822) dL_law_747 (by decide) ?_
  exact kk _ ⟨l, T, mk, MA, sc, hG, hP.kept (fun q hq => hR2.lo q hq), hR2.re fr.rf⟩
set_option maxHeartbeats 4000000 in
set_option maxRecDepth 100000 in
/-- fringePeriodNumerator -/
theorem law_28 {z : ZG} {nm : String} {Q : ZQ} {i kc nc : Nat} {h : AH} (hi : i + 2 < zN z) (hN : zN z ≤ 1536) (hkn : kc ≤ 600000 ∧ nc ≤ 7302250) (kk : ∀ h : AH, LI h → V z (YL nm) room_1 Q 822 [some (.retAddr (zX z)), some (.ref 0), some (.ref 114), some (.int (I (i : Int)))] [] h 122 kc nc) (hL : LI h) : V z (YL nm) room_1 Q 750 [some (.retAddr (zX z)), some (.ref 0), some (.ref 114), some (.int (I (i : Int)))] [] h 122 kc nc := by
  obtain ⟨l, T, mk, MA, sc, hG, hP, hR⟩ := hL
  obtain ⟨c1, hc1, e1⟩ := I_of (zF z (i + 1))
  obtain ⟨c2, hc2, e2⟩ := I_of (zF z (i + 2))
  obtain ⟨fsO, hO⟩ := hP.o
  refine V_aload_n dL_law_750 rfl ?_
  refine V_callVR (Y' := YX7_fringePeriodNumerator) dL_law_751 lL_131 gX7_fringePeriodNumerator (k7_fringePeriodNumerator (d := 0) hG hP ) hO rfl rfl rfl (Nat.le_of_ble_eq_true rfl) (Nat.le_of_ble_eq_true rfl) (Nat.le_of_ble_eq_true rfl) ⟨by show kc + 0 ≤ 600000; omega, by show nc + 0 ≤ 7302250; omega⟩ (fun v h1 sz1 hq => ?_)
  obtain ⟨⟨v1, rfl, hv1⟩, rfl, hf, hP⟩ := hq
  have hR := hR.re hf
  obtain ⟨fs8, hO8⟩ := hR.o
  refine V_pop dL_law_754 hv1 ?_
  refine V_aload_n dL_law_755 rfl ?_
  refine V_callVR (Y' := YX8_fringePeriodNumerator) dL_law_756 lL_134 gX8_fringePeriodNumerator (k8_fringePeriodNumerator (d := 0) hG hR ) hO8 rfl rfl rfl (Nat.le_of_ble_eq_true rfl) (Nat.le_of_ble_eq_true rfl) (Nat.le_of_ble_eq_true rfl) ⟨by show kc + 0 ≤ 600000; omega, by show nc + 0 ≤ 7302250; omega⟩ (fun v h2 sz2 hq => ?_)
  obtain ⟨⟨v2, rfl, hv2⟩, rfl, hR2⟩ := hq
  refine V_pop dL_law_759 hv2 ?_
  refine V_goto (tgt := 822) dL_law_760 (by decide) ?_
  exact kk _ ⟨l, T, mk, MA, sc, hG, hP.kept (fun q hq => hR2.lo q hq), hR2.re fr.rf⟩
set_option maxHeartbeats 4000000 in
set_option maxRecDepth 100000 in
/-- fringePeriodDenominator -/
theorem law_29 {z : ZG} {nm : String} {Q : ZQ} {i kc nc : Nat} {h : AH} (hi : i + 2 < zN z) (hN : zN z ≤ 1536) (hkn : kc ≤ 600000 ∧ nc ≤ 7302250) (kk : ∀ h : AH, LI h → V z (YL nm) room_1 Q 822 [some (.retAddr (zX z)), some (.ref 0), some (.ref 114), some (.int (I (i : Int)))] [] h 122 kc nc) (hL : LI h) : V z (YL nm) room_1 Q 763 [some (.retAddr (zX z)), some (.ref 0), some (.ref 114), some (.int (I (i : Int)))] [] h 122 kc nc := by
  obtain ⟨l, T, mk, MA, sc, hG, hP, hR⟩ := hL
  obtain ⟨c1, hc1, e1⟩ := I_of (zF z (i + 1))
  obtain ⟨c2, hc2, e2⟩ := I_of (zF z (i + 2))
  obtain ⟨fsO, hO⟩ := hP.o
  refine V_aload_n dL_law_763 rfl ?_
  refine V_callVR (Y' := YX7_fringePeriodDenominator) dL_law_764 lL_135 gX7_fringePeriodDenominator (k7_fringePeriodDenominator (d := 0) hG hP ) hO rfl rfl rfl (Nat.le_of_ble_eq_true rfl) (Nat.le_of_ble_eq_true rfl) (Nat.le_of_ble_eq_true rfl) ⟨by show kc + 0 ≤ 600000; omega, by show nc + 0 ≤ 7302250; omega⟩ (fun v h1 sz1 hq => ?_)
  obtain ⟨⟨v1, rfl, hv1⟩, rfl, hf, hP⟩ := hq
  have hR := hR.re hf
  obtain ⟨fs8, hO8⟩ := hR.o
  refine V_pop dL_law_767 hv1 ?_
  refine V_aload_n dL_law_768 rfl ?_
  refine V_callVR (Y' := YX8_fringePeriodDenominator) dL_law_769 lL_138 gX8_fringePeriodDenominator (k8_fringePeriodDenominator (d := 0) hG hR ) hO8 rfl rfl rfl (Nat.le_of_ble_eq_true rfl) (Nat.le_of_ble_eq_true rfl) (Nat.le_of_ble_eq_true rfl) ⟨by show kc + 0 ≤ 600000; omega, by show nc + 0 ≤ 7302250; omega⟩ (fun v h2 sz2 hq => ?_)
  obtain ⟨⟨v2, rfl, hv2⟩, rfl, hR2⟩ := hq
  refine V_pop dL_law_772 hv2 ?_
  refine V_goto (tgt := 822) dL_law_773 (by decide) ?_
  exact kk _ ⟨l, T, mk, MA, sc, hG, hP.kept (fun q hq => hR2.lo q hq), hR2.re fr.rf⟩
set_option maxHeartbeats 4000000 in
set_option maxRecDepth 100000 in
/-- magnificationBits -/
theorem law_30 {z : ZG} {nm : String} {Q : ZQ} {i kc nc : Nat} {h : AH} (hi : i + 2 < zN z) (hN : zN z ≤ 1536) (hkn : kc ≤ 600000 ∧ nc ≤ 7302250) (kk : ∀ h : AH, LI h → V z (YL nm) room_1 Q 822 [some (.retAddr (zX z)), some (.ref 0), some (.ref 114), some (.int (I (i : Int)))] [] h 122 kc nc) (hL : LI h) : V z (YL nm) room_1 Q 776 [some (.retAddr (zX z)), some (.ref 0), some (.ref 114), some (.int (I (i : Int)))] [] h 122 kc nc := by
  obtain ⟨l, T, mk, MA, sc, hG, hP, hR⟩ := hL
  obtain ⟨c1, hc1, e1⟩ := I_of (zF z (i + 1))
  obtain ⟨c2, hc2, e2⟩ := I_of (zF z (i + 2))
  obtain ⟨fsO, hO⟩ := hP.o
  refine V_aload_n dL_law_776 rfl ?_
  refine V_callVR (Y' := YX7_magnificationBits) dL_law_777 lL_139 gX7_magnificationBits (k7_magnificationBits (d := 0) hG hP ) hO rfl rfl rfl (Nat.le_of_ble_eq_true rfl) (Nat.le_of_ble_eq_true rfl) (Nat.le_of_ble_eq_true rfl) ⟨by show kc + 0 ≤ 600000; omega, by show nc + 0 ≤ 7302250; omega⟩ (fun v h1 sz1 hq => ?_)
  obtain ⟨⟨v1, rfl, hv1⟩, rfl, hf, hP⟩ := hq
  have hR := hR.re hf
  obtain ⟨fs8, hO8⟩ := hR.o
  refine V_pop dL_law_780 hv1 ?_
  refine V_aload_n dL_law_781 rfl ?_
  refine V_callVR (Y' := YX8_magnificationBits) dL_law_782 lL_142 gX8_magnificationBits (k8_magnificationBits (d := 0) hG hR ) hO8 rfl rfl rfl (Nat.le_of_ble_eq_true rfl) (Nat.le_of_ble_eq_true rfl) (Nat.le_of_ble_eq_true rfl) ⟨by show kc + 0 ≤ 600000; omega, by show nc + 0 ≤ 7302250; omega⟩ (fun v h2 sz2 hq => ?_)
  obtain ⟨⟨v2, rfl, hv2⟩, rfl, hR2⟩ := hq
  refine V_pop dL_law_785 hv2 ?_
  refine V_goto (tgt := 822) dL_law_786 (by decide) ?_
  exact kk _ ⟨l, T, mk, MA, sc, hG, hP.kept (fun q hq => hR2.lo q hq), hR2.re fr.rf⟩
set_option maxHeartbeats 4000000 in
set_option maxRecDepth 100000 in
/-- crossedSpacingBits -/
theorem law_31 {z : ZG} {nm : String} {Q : ZQ} {i kc nc : Nat} {h : AH} (hi : i + 2 < zN z) (hN : zN z ≤ 1536) (hkn : kc ≤ 600000 ∧ nc ≤ 7302250) (kk : ∀ h : AH, LI h → V z (YL nm) room_1 Q 822 [some (.retAddr (zX z)), some (.ref 0), some (.ref 114), some (.int (I (i : Int)))] [] h 122 kc nc) (hL : LI h) : V z (YL nm) room_1 Q 789 [some (.retAddr (zX z)), some (.ref 0), some (.ref 114), some (.int (I (i : Int)))] [] h 122 kc nc := by
  obtain ⟨l, T, mk, MA, sc, hG, hP, hR⟩ := hL
  obtain ⟨c1, hc1, e1⟩ := I_of (zF z (i + 1))
  obtain ⟨c2, hc2, e2⟩ := I_of (zF z (i + 2))
  obtain ⟨fsO, hO⟩ := hP.o
  refine V_aload_n dL_law_789 rfl ?_
  refine V_aload_nS dL_law_790 rfl ?_
  refine V_iload_n dL_law_791 rfl ?_
  refine J_iconst dL_law_792 ?_
  refine J_iadd dL_law_793 ?_
  refine V_top (b := ((i + 1 : Nat) : Int)) (by omega) ?_
  refine V_sld (k := i + 1) (by omega) (by omega) dL_law_794 ?_
  rw [e1]
  refine V_aload_nS dL_law_795 rfl ?_
  refine V_iload_n dL_law_796 rfl ?_
  refine J_iconst dL_law_797 ?_
  refine J_iadd dL_law_798 ?_
  refine V_top (b := ((i + 2 : Nat) : Int)) (by omega) ?_
  refine V_sld (k := i + 2) (by omega) (by omega) dL_law_799 ?_
  rw [e2]
  refine V_callVR (Y' := YX7_crossedSpacingBits) dL_law_800 lL_143 gX7_crossedSpacingBits (k7_crossedSpacingBits (d := 0) hG hP hc1 hc2) hO rfl rfl rfl (Nat.le_of_ble_eq_true rfl) (Nat.le_of_ble_eq_true rfl) (Nat.le_of_ble_eq_true rfl) ⟨by show kc + 0 ≤ 600000; omega, by show nc + 0 ≤ 7302250; omega⟩ (fun v h1 sz1 hq => ?_)
  obtain ⟨⟨v1, rfl, hv1⟩, rfl, hf, hP⟩ := hq
  have hR := hR.re hf
  obtain ⟨fs8, hO8⟩ := hR.o
  refine V_pop dL_law_803 hv1 ?_
  refine V_aload_n dL_law_804 rfl ?_
  refine V_aload_nS dL_law_805 rfl ?_
  refine V_iload_n dL_law_806 rfl ?_
  refine J_iconst dL_law_807 ?_
  refine J_iadd dL_law_808 ?_
  refine V_top (b := ((i + 1 : Nat) : Int)) (by omega) ?_
  refine V_sld (k := i + 1) (by omega) (by omega) dL_law_809 ?_
  rw [e1]
  refine V_aload_nS dL_law_810 rfl ?_
  refine V_iload_n dL_law_811 rfl ?_
  refine J_iconst dL_law_812 ?_
  refine J_iadd dL_law_813 ?_
  refine V_top (b := ((i + 2 : Nat) : Int)) (by omega) ?_
  refine V_sld (k := i + 2) (by omega) (by omega) dL_law_814 ?_
  rw [e2]
  refine V_callVR (Y' := YX8_crossedSpacingBits) dL_law_815 lL_146 gX8_crossedSpacingBits (k8_crossedSpacingBits (d := 0) hG hR hc1 hc2) hO8 rfl rfl rfl (Nat.le_of_ble_eq_true rfl) (Nat.le_of_ble_eq_true rfl) (Nat.le_of_ble_eq_true rfl) ⟨by show kc + 0 ≤ 600000; omega, by show nc + 0 ≤ 7302250; omega⟩ (fun v h2 sz2 hq => ?_)
  obtain ⟨⟨v2, rfl, hv2⟩, rfl, hR2⟩ := hq
  refine V_pop dL_law_818 hv2 ?_
  refine V_goto (tgt := 822) dL_law_819 (by decide) ?_
  exact kk _ ⟨l, T, mk, MA, sc, hG, hP.kept (fun q hq => hR2.lo q hq), hR2.re fr.rf⟩
set_option maxHeartbeats 4000000 in
set_option maxRecDepth 100000 in
theorem law_loop {z : ZG} {nm : String} {kc nc : Nat} (hN : zN z ≤ 1536) (hkn : kc ≤ 600000 ∧ nc ≤ 7302250) : ∀ (fu i : Nat) (h : AH), i ≤ zN z + 3 → zN z + 3 - i < fu → LI h → V z (YL nm) room_1 (fun w _ _ => w = some (.int (I 1))) 18 [some (.retAddr (zX z)), some (.ref 0), some (.ref 114), some (.int (I (i : Int)))] [] h 122 kc nc := by
  intro fu
  induction fu with
  | zero => intro i h h1 h2; omega
  | succ fu ih =>
    intro i h h1 h2 hL
    refine V_iload_n dL_law_18 rfl ?_
    refine V_aload_nS dL_law_19 rfl ?_
    refine V_slen dL_law_20 ?_
    refine J_iconst dL_law_21 ?_
    refine J_isub dL_law_22 ?_
    refine J_icmp_gt (tgt := 828) dL_law_23 (by decide) (by omega) (by omega) (fun c => ?_) (fun c => ?_)
    · refine J_iconst dL_law_828 ?_
      exact V_iret dL_law_829 rfl rfl ⟨by show kc ≤ 600000; omega, by show nc ≤ 7302250; omega⟩ rfl
    · have hi : i + 2 < zN z := by omega
      have kk : ∀ h : AH, LI h → V z (YL nm) room_1 (fun w _ _ => w = some (.int (I 1))) 822 [some (.retAddr (zX z)), some (.ref 0), some (.ref 114), some (.int (I (i : Int)))] [] h 122 kc nc := fun h hL => by
        refine J_iinc dL_law_822 rfl ?_
        refine V_goto (tgt := 18) dL_law_825 (by decide) ?_
        have := ih (i + 3) h (by omega) (by omega) hL
        rw [show ((i + 3 : Nat) : Int) = (i : Int) + 3 by omega] at this
        exact this
      refine V_aload_nS dL_law_26 rfl ?_
      refine V_iload_n dL_law_27 rfl ?_
      refine V_sld (k := i) (by omega) (by omega) dL_law_28 ?_
      refine J_bipush dL_law_29 (by decide) ?_
      refine V_iand dL_law_31 ?_
      obtain ⟨n, hn, en⟩ := and31 (zF z i)
      rw [en]
      have hLI : (I (n : Int)).toInt = n := I_toInt (by omega)
      match n, hn, hLI with
      | 0, _, hLI => exact V_tableIn (tgt := 176) (off := 144) dL_law_32 (by rw [hLI]; decide) (by rw [hLI]; decide) (by rw [hLI]; rfl) (by decide) (law_0 hi hN hkn kk hL)
      | 1, _, hLI => exact V_tableIn (tgt := 199) (off := 167) dL_law_32 (by rw [hLI]; decide) (by rw [hLI]; decide) (by rw [hLI]; rfl) (by decide) (law_1 hi hN hkn kk hL)
      | 2, _, hLI => exact V_tableIn (tgt := 212) (off := 180) dL_law_32 (by rw [hLI]; decide) (by rw [hLI]; decide) (by rw [hLI]; rfl) (by decide) (law_2 hi hN hkn kk hL)
      | 3, _, hLI => exact V_tableIn (tgt := 225) (off := 193) dL_law_32 (by rw [hLI]; decide) (by rw [hLI]; decide) (by rw [hLI]; rfl) (by decide) (law_3 hi hN hkn kk hL)
      | 4, _, hLI => exact V_tableIn (tgt := 238) (off := 206) dL_law_32 (by rw [hLI]; decide) (by rw [hLI]; decide) (by rw [hLI]; rfl) (by decide) (law_4 hi hN hkn kk hL)
      | 5, _, hLI => exact V_tableIn (tgt := 271) (off := 239) dL_law_32 (by rw [hLI]; decide) (by rw [hLI]; decide) (by rw [hLI]; rfl) (by decide) (law_5 hi hN hkn kk hL)
      | 6, _, hLI => exact V_tableIn (tgt := 294) (off := 262) dL_law_32 (by rw [hLI]; decide) (by rw [hLI]; decide) (by rw [hLI]; rfl) (by decide) (law_6 hi hN hkn kk hL)
      | 7, _, hLI => exact V_tableIn (tgt := 327) (off := 295) dL_law_32 (by rw [hLI]; decide) (by rw [hLI]; decide) (by rw [hLI]; rfl) (by decide) (law_7 hi hN hkn kk hL)
      | 8, _, hLI => exact V_tableIn (tgt := 360) (off := 328) dL_law_32 (by rw [hLI]; decide) (by rw [hLI]; decide) (by rw [hLI]; rfl) (by decide) (law_8 hi hN hkn kk hL)
      | 9, _, hLI => exact V_tableIn (tgt := 383) (off := 351) dL_law_32 (by rw [hLI]; decide) (by rw [hLI]; decide) (by rw [hLI]; rfl) (by decide) (law_9 hi hN hkn kk hL)
      | 10, _, hLI => exact V_tableIn (tgt := 396) (off := 364) dL_law_32 (by rw [hLI]; decide) (by rw [hLI]; decide) (by rw [hLI]; rfl) (by decide) (law_10 hi hN hkn kk hL)
      | 11, _, hLI => exact V_tableIn (tgt := 419) (off := 387) dL_law_32 (by rw [hLI]; decide) (by rw [hLI]; decide) (by rw [hLI]; rfl) (by decide) (law_11 hi hN hkn kk hL)
      | 12, _, hLI => exact V_tableIn (tgt := 432) (off := 400) dL_law_32 (by rw [hLI]; decide) (by rw [hLI]; decide) (by rw [hLI]; rfl) (by decide) (law_12 hi hN hkn kk hL)
      | 13, _, hLI => exact V_tableIn (tgt := 445) (off := 413) dL_law_32 (by rw [hLI]; decide) (by rw [hLI]; decide) (by rw [hLI]; rfl) (by decide) (law_13 hi hN hkn kk hL)
      | 14, _, hLI => exact V_tableIn (tgt := 458) (off := 426) dL_law_32 (by rw [hLI]; decide) (by rw [hLI]; decide) (by rw [hLI]; rfl) (by decide) (law_14 hi hN hkn kk hL)
      | 15, _, hLI => exact V_tableIn (tgt := 471) (off := 439) dL_law_32 (by rw [hLI]; decide) (by rw [hLI]; decide) (by rw [hLI]; rfl) (by decide) (law_15 hi hN hkn kk hL)
      | 16, _, hLI => exact V_tableIn (tgt := 484) (off := 452) dL_law_32 (by rw [hLI]; decide) (by rw [hLI]; decide) (by rw [hLI]; rfl) (by decide) (law_16 hi hN hkn kk hL)
      | 17, _, hLI => exact V_tableIn (tgt := 497) (off := 465) dL_law_32 (by rw [hLI]; decide) (by rw [hLI]; decide) (by rw [hLI]; rfl) (by decide) (law_17 hi hN hkn kk hL)
      | 18, _, hLI => exact V_tableIn (tgt := 510) (off := 478) dL_law_32 (by rw [hLI]; decide) (by rw [hLI]; decide) (by rw [hLI]; rfl) (by decide) (law_18 hi hN hkn kk hL)
      | 19, _, hLI => exact V_tableIn (tgt := 533) (off := 501) dL_law_32 (by rw [hLI]; decide) (by rw [hLI]; decide) (by rw [hLI]; rfl) (by decide) (law_19 hi hN hkn kk hL)
      | 20, _, hLI => exact V_tableIn (tgt := 556) (off := 524) dL_law_32 (by rw [hLI]; decide) (by rw [hLI]; decide) (by rw [hLI]; rfl) (by decide) (law_20 hi hN hkn kk hL)
      | 21, _, hLI => exact V_tableIn (tgt := 579) (off := 547) dL_law_32 (by rw [hLI]; decide) (by rw [hLI]; decide) (by rw [hLI]; rfl) (by decide) (law_21 hi hN hkn kk hL)
      | 22, _, hLI => exact V_tableIn (tgt := 602) (off := 570) dL_law_32 (by rw [hLI]; decide) (by rw [hLI]; decide) (by rw [hLI]; rfl) (by decide) (law_22 hi hN hkn kk hL)
      | 23, _, hLI => exact V_tableIn (tgt := 625) (off := 593) dL_law_32 (by rw [hLI]; decide) (by rw [hLI]; decide) (by rw [hLI]; rfl) (by decide) (law_23 hi hN hkn kk hL)
      | 24, _, hLI => exact V_tableIn (tgt := 658) (off := 626) dL_law_32 (by rw [hLI]; decide) (by rw [hLI]; decide) (by rw [hLI]; rfl) (by decide) (law_24 hi hN hkn kk hL)
      | 25, _, hLI => exact V_tableIn (tgt := 681) (off := 649) dL_law_32 (by rw [hLI]; decide) (by rw [hLI]; decide) (by rw [hLI]; rfl) (by decide) (law_25 hi hN hkn kk hL)
      | 26, _, hLI => exact V_tableIn (tgt := 714) (off := 682) dL_law_32 (by rw [hLI]; decide) (by rw [hLI]; decide) (by rw [hLI]; rfl) (by decide) (law_26 hi hN hkn kk hL)
      | 27, _, hLI => exact V_tableIn (tgt := 737) (off := 705) dL_law_32 (by rw [hLI]; decide) (by rw [hLI]; decide) (by rw [hLI]; rfl) (by decide) (law_27 hi hN hkn kk hL)
      | 28, _, hLI => exact V_tableIn (tgt := 750) (off := 718) dL_law_32 (by rw [hLI]; decide) (by rw [hLI]; decide) (by rw [hLI]; rfl) (by decide) (law_28 hi hN hkn kk hL)
      | 29, _, hLI => exact V_tableIn (tgt := 763) (off := 731) dL_law_32 (by rw [hLI]; decide) (by rw [hLI]; decide) (by rw [hLI]; rfl) (by decide) (law_29 hi hN hkn kk hL)
      | 30, _, hLI => exact V_tableIn (tgt := 776) (off := 744) dL_law_32 (by rw [hLI]; decide) (by rw [hLI]; decide) (by rw [hLI]; rfl) (by decide) (law_30 hi hN hkn kk hL)
      | 31, _, hLI => exact V_tableIn (tgt := 789) (off := 757) dL_law_32 (by rw [hLI]; decide) (by rw [hLI]; decide) (by rw [hLI]; rfl) (by decide) (law_31 hi hN hkn kk hL)
      | n + 32, hn, _ => exact absurd hn (by omega)
