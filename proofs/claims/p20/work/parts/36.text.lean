/-! THE FIRST SETUP'S TEXT: a String constant; what lies ahead of the law's first cell is told by .retAddr -/
abbrev YJ0_length : ZM := (yJ0_length_8abf5, cJ0_length_8abf5, 1, (some .int))
theorem gJ0_length : ZYv YJ0_length 0 := ⟨⟨gw_t 10 (by decide +kernel) rfl, gw_t 194 rfl rfl, ⟨by decide +kernel, by decide +kernel, by decide +kernel⟩, by decide⟩, gw_t 192 (by decide +kernel) rfl, gw_t 193 (by decide +kernel) rfl⟩
abbrev YJ0_charAt : ZM := (yJ0_charAt_5068e, cJ0_charAt_5068e, 2, (some .char))
theorem gJ0_charAt : ZYv YJ0_charAt 1 := ⟨⟨gw_t 10 (by decide +kernel) rfl, gw_t 204 rfl rfl, ⟨by decide +kernel, by decide +kernel, by decide +kernel⟩, by decide⟩, gw_t 202 (by decide +kernel) rfl, gw_t 203 (by decide +kernel) rfl⟩
abbrev YJ0_coder : ZM := (yJ0_coder_7d493, cJ0_coder_7d493, 1, (some .byte))
theorem gJ0_coder : ZYv YJ0_coder 0 := ⟨⟨gw_t 10 (by decide +kernel) rfl, gw_t 198 rfl rfl, ⟨by decide +kernel, by decide +kernel, by decide +kernel⟩, by decide⟩, gw_t 196 (by decide +kernel) rfl, gw_t 197 (by decide +kernel) rfl⟩
abbrev YJ0_isLatin1 : ZM := (yJ0_isLatin1_aae02, cJ0_isLatin1_aae02, 1, (some .boolean))
theorem gJ0_isLatin1 : ZYv YJ0_isLatin1 0 := ⟨⟨gw_t 10 (by decide +kernel) rfl, gw_t 208 rfl rfl, ⟨by decide +kernel, by decide +kernel, by decide +kernel⟩, by decide⟩, gw_t 206 (by decide +kernel) rfl, gw_t 207 (by decide +kernel) rfl⟩
abbrev YJ0_checkIndex : ZM := (yJ0_checkIndex_df160, cJ0_checkIndex_df160, 2, none)
theorem gJ0_checkIndex : ZYs YJ0_checkIndex 2 := ⟨⟨gw_t 10 (by decide +kernel) rfl, gw_t 214 rfl rfl, ⟨by decide +kernel, by decide +kernel, by decide +kernel⟩, by decide⟩, gw_t 213 (by decide +kernel) rfl⟩
abbrev YJ1_charAt : ZM := (yJ1_charAt_3b067, cJ1_charAt_3b067, 2, (some .char))
theorem gJ1_charAt : ZYs YJ1_charAt 2 := ⟨⟨gw_t 11 (by decide +kernel) rfl, gw_t 211 rfl rfl, ⟨by decide +kernel, by decide +kernel, by decide +kernel⟩, by decide⟩, gw_t 210 (by decide +kernel) rfl⟩
abbrev YJ3_checkIndex : ZM := (yJ3_checkIndex_8e157, cJ3_checkIndex_8e157, 3, (some .int))
theorem gJ3_checkIndex : ZYs YJ3_checkIndex 3 := ⟨⟨gw_t 12 (by decide +kernel) rfl, gw_t 219 rfl rfl, ⟨by decide +kernel, by decide +kernel, by decide +kernel⟩, by decide⟩, gw_t 218 (by decide +kernel) rfl⟩
theorem lS_51 : Cond.methodLink RX7 51 yJ0_length_8abf5 ∈ gw := gw_t 191 (by decide +kernel) rfl
theorem lS_57 : Cond.methodLink RX7 57 yJ0_charAt_5068e ∈ gw := gw_t 201 (by decide +kernel) rfl
theorem lS_335 : Cond.methodLink RJ0 335 yJ0_coder_7d493 ∈ gw := gw_t 195 (by decide +kernel) rfl
theorem lS_492 : Cond.methodLink RJ0 492 yJ0_isLatin1_aae02 ∈ gw := gw_t 205 (by decide +kernel) rfl
theorem lS_495 : Cond.methodLink RJ0 495 yJ1_charAt_3b067 ∈ gw := gw_t 209 (by decide +kernel) rfl
theorem lS_9 : Cond.methodLink RJ1 9 yJ0_checkIndex_df160 ∈ gw := gw_t 212 (by decide +kernel) rfl
theorem lS_1059 : Cond.methodLink RJ0 1059 yJ3_checkIndex_8e157 ∈ gw := gw_t 217 (by decide +kernel) rfl
theorem fS_9 : Cond.fieldLink RJ0 9 "java/lang/String" "value" "[B" ∈ gw := gw_t 969 (by decide +kernel) rfl
theorem fS_15 : Cond.fieldLink RJ0 15 "java/lang/String" "code\x72" "B" ∈ gw := gw_t 970 (by decide +kernel) rfl
theorem fS_38 : Cond.fieldLink RJ0 38 "java/lang/String" "COMPACT_STRINGS" "Z" ∈ gw := gw_t 199 (by decide +kernel) rfl
theorem fS_1053 : Cond.fieldLink RJ0 1053 "jdk/internal/util/Preconditions" "SIOOBE_FORMATTER" "Ljava/util/function/BiFunction;" ∈ gw := gw_t 215 (by decide +kernel) rfl
section Srules
variable {z : ZG} {Y : ZM} {R : Room} {Q : ZQ} {pc : Nat} {L : AL} {st : List Value} {h : AH} {sz kc nc : Nat}
theorem zST {s : State} {m : MethodId} {args : Array Value} {meth : Method} {c : Code} {p : Program} {H : Heap} {locs : List Loc} {ls : Array Slot} (C : ZC z Y p s m args meth c) (hr : zr z s L h sz H locs ls) (d0 : Drawn) : ST z (s.setDrawn d0) H := ST.same (u := s) rfl (C.2.2.2.2.2.2.2.2.2.2.2.kept hr.2.2.2.2)
theorem V_aload_nS {k : Fin 4} {x : Nat} (hd : decode Y.2.1 pc = .ok (.aload_n k, 1)) (hl : L[(k : Nat)]? = some (some (.retAddr x))) (kk : V z Y R Q (pc + 1) L (.retAddr x :: st) h sz kc nc) : V z Y R Q pc L st h sz kc nc := fun p e s m args below meth c d0 H locs ls C hd0 hL hr => lv_aload_n C.1 C.2.1 hd rfl (zl_at hr.2.2.1 hl) (kk p e s m args below meth c d0 H locs ls C hd0 hL hr)
theorem V_ldcS (hY : Y.1.cls = RX7) (hd : decode Y.2.1 pc = .ok (.ldc 49, 2)) (kk : V z Y R Q (pc + 2) L (.retAddr (zS z) :: st) h sz kc nc) : V z Y R Q pc L st h sz kc nc := by
  intro p e s m args below meth c d0 H locs ls C hd0 hL hr
  have hown : (s.setDrawn d0).vm.findClass Y.1.cls = some m.cls := C.2.2.2.1
  rw [hY] at hown
  exact va_ldcS C.1 C.2.1 hown (zST C hr d0).1.1 hd (kk p e s m args below meth c d0 H locs ls C hd0 hL hr)
theorem V_getSv (hY : Y.1.cls = RJ0) (hd : decode Y.2.1 pc = .ok (.getfield 9, 3)) (kk : V z Y R Q (pc + 3) L (.retAddr (zB z) :: st) h sz kc nc) : V z Y R Q pc L (.retAddr (zS z) :: st) h sz kc nc := by
  intro p e s m args below meth c d0 H locs ls C hd0 hL hr
  have hown : (s.setDrawn d0).vm.findClass Y.1.cls = some m.cls := C.2.2.2.1
  rw [hY] at hown
  have w1 := dr_words C.2.2.2.2.1 d0 _ fS_9
  obtain ⟨cf, k, fi, f, cell, h1, h2, h3, h4, h5, h6⟩ := (zST C hr d0).1.2.2.2.1
  exact W.getf C.1 C.2.1 hown w1 h1 h2 h3 h4 (v := .ref (zB z)) h5 rfl rfl hd (kk p e s m args below meth c d0 H locs ls C hd0 hL hr)
theorem V_getSc (hY : Y.1.cls = RJ0) (hd : decode Y.2.1 pc = .ok (.getfield 15, 3)) (kk : V z Y R Q (pc + 3) L (.int 0 :: st) h sz kc nc) : V z Y R Q pc L (.retAddr (zS z) :: st) h sz kc nc := by
  intro p e s m args below meth c d0 H locs ls C hd0 hL hr
  have hown : (s.setDrawn d0).vm.findClass Y.1.cls = some m.cls := C.2.2.2.1
  rw [hY] at hown
  have w1 := dr_words C.2.2.2.2.1 d0 _ fS_15
  obtain ⟨cf, k, fi, f, cell, h1, h2, h3, h4, h5, h6⟩ := (zST C hr d0).1.2.2.1
  exact W.getf C.1 C.2.1 hown w1 h1 h2 h3 h4 (v := .int 0) h5 rfl rfl hd (kk p e s m args below meth c d0 H locs ls C hd0 hL hr)
theorem V_getsC (hY : Y.1.cls = RJ0) (hd : decode Y.2.1 pc = .ok (.getstatic 38, 3)) (kk : V z Y R Q (pc + 3) L (.int 1 :: st) h sz kc nc) : V z Y R Q pc L st h sz kc nc := by
  intro p e s m args below meth c d0 H locs ls C hd0 hL hr
  have hown : (s.setDrawn d0).vm.findClass Y.1.cls = some m.cls := C.2.2.2.1
  rw [hY] at hown
  have w1 := dr_words C.2.2.2.2.1 d0 _ fS_38
  obtain ⟨cf, kf, fi, f, a, cell, h1, h2, h3, h4, h5, h6, h7, h8⟩ := (zST C hr d0).2.1.1
  exact W.gets C.1 C.2.1 hown w1 h1 h2 h3 h4 h5 (fun e => by rw [e] at h6; cases h6) h7 rfl hd (kk p e s m args below meth c d0 H locs ls C hd0 hL hr)
theorem V_getsF (hY : Y.1.cls = RJ0) (hd : decode Y.2.1 pc = .ok (.getstatic 1053, 3)) (kk : ∀ w : Value, (w = .null ∨ ∃ a, w = .retAddr a) → V z Y R Q (pc + 3) L (w :: st) h sz kc nc) : V z Y R Q pc L st h sz kc nc := by
  intro p e s m args below meth c d0 H locs ls C hd0 hL hr
  have hown : (s.setDrawn d0).vm.findClass Y.1.cls = some m.cls := C.2.2.2.1
  rw [hY] at hown
  have w1 := dr_words C.2.2.2.2.1 d0 _ fS_1053
  rcases (zST C hr d0).2.1.2 with q | ⟨t, q⟩
  · obtain ⟨cf, kf, fi, f, a, cell, h1, h2, h3, h4, h5, h6, h7, h8⟩ := q
    exact W.gets C.1 C.2.1 hown w1 h1 h2 h3 h4 h5 (fun e => by rw [e] at h6; cases h6) h7 rfl hd (kk .null (Or.inl rfl) p e s m args below meth c d0 H locs ls C hd0 hL hr)
  · obtain ⟨cf, kf, fi, f, a, cell, h1, h2, h3, h4, h5, h6, h7, h8⟩ := q
    exact W.gets C.1 C.2.1 hown w1 h1 h2 h3 h4 h5 (fun e => by rw [e] at h6; cases h6) h7 rfl hd (kk (.retAddr t) (Or.inr ⟨t, rfl⟩) p e s m args below meth c d0 H locs ls C hd0 hL hr)
theorem V_alenB (hd : decode Y.2.1 pc = .ok (.arraylength, 1)) (kk : V z Y R Q (pc + 1) L (.int (I 34) :: st) h sz kc nc) : V z Y R Q pc L (.retAddr (zB z) :: st) h sz kc nc := by
  intro p e s m args below meth c d0 H locs ls C hd0 hL hr
  obtain ⟨cell, h1, h2, h3, h4, h5, h6, h7⟩ := (zST C hr d0).1.2.2.2.2
  exact W.alen (n := Int32.ofNat 34) C.1 C.2.1 h1 h2 h5 rfl rfl hd (kk p e s m args below meth c d0 H locs ls C hd0 hL hr)
theorem V_baldB {k : Nat} (hk : k < 34) (hd : decode Y.2.1 pc = .ok (.baload, 1)) (kk : V z Y R Q (pc + 1) L (.int (zby k) :: st) h sz kc nc) : V z Y R Q pc L (.int (I (k : Int)) :: .retAddr (zB z) :: st) h sz kc nc := by
  intro p e s m args below meth c d0 H locs ls C hd0 hL hr
  obtain ⟨cell, h1, h2, h3, h4, h5, h6, h7⟩ := (zST C hr d0).1.2.2.2.2
  have hin : vp_in (I (k : Int)) 34 := I_in (by omega) (by omega)
  have hcl : (I (k : Int)).toNatClampNeg = k := by rw [I_clamp (by omega), Int.toNat_natCast]
  have hin' : ¬ (I (k : Int) < 0 ∨ cell.slots.size ≤ (I (k : Int)).toNatClampNeg) := by
    intro q
    rcases q with q | q
    · exact hin (Or.inl q)
    · rw [hcl] at q; omega
  exact W.bald (v := .int (zby k)) C.1 C.2.1 h1 h2 h3 hin' (by rw [hcl]; exact h6 _ hk) rfl rfl hd (kk p e s m args below meth c d0 H locs ls C hd0 hL hr)
theorem V_ishr {x y : Int32} (hd : decode Y.2.1 pc = .ok (.ishr, 1)) (kk : V z Y R Q (pc + 1) L (.int (x >>> (y &&& 31)) :: st) h sz kc nc) : V z Y R Q pc L (.int y :: .int x :: st) h sz kc nc := fun p e s m args below meth c d0 H locs ls C hd0 hL hr => lv_ishr C.1 C.2.1 hd (kk p e s m args below meth c d0 H locs ls C hd0 hL hr)
theorem V_i2c {x : Int32} (hd : decode Y.2.1 pc = .ok (.i2c, 1)) (kk : V z Y R Q (pc + 1) L (.int (x.toUInt32 % 65536).toInt32 :: st) h sz kc nc) : V z Y R Q pc L (.int x :: st) h sz kc nc := fun p e s m args below meth c d0 H locs ls C hd0 hL hr => lv_i2c C.1 C.2.1 hd rfl (kk p e s m args below meth c d0 H locs ls C hd0 hL hr)
/-- the script -/
theorem V_sld {k : Nat} (hk : k < zN z) (hn : zN z < 2147483648) (hd : decode Y.2.1 pc = .ok (.iaload, 1)) (kk : V z Y R Q (pc + 1) L (.int (zF z k) :: st) h sz kc nc) : V z Y R Q pc L (.int (I (k : Int)) :: .retAddr (zX z) :: st) h sz kc nc := by
  intro p e s m args below meth c d0 H locs ls C hd0 hL hr
  obtain ⟨scr, h1, h2, h3, h4, h5⟩ := (zST C hr d0).2.2.1
  have hin : vp_in (I (k : Int)) (zN z) := I_in (by omega) hn
  have hcl : (I (k : Int)).toNatClampNeg = k := by rw [I_clamp (by omega), Int.toNat_natCast]
  exact W.iald (v := .int (zF z k)) C.1 C.2.1 h1 h2 h3 (by rw [h4]; exact hin) (by rw [hcl]; exact h5 _ hk) rfl rfl hd (kk p e s m args below meth c d0 H locs ls C hd0 hL hr)
theorem V_slen (hd : decode Y.2.1 pc = .ok (.arraylength, 1)) (kk : V z Y R Q (pc + 1) L (.int (I (zN z : Int)) :: st) h sz kc nc) : V z Y R Q pc L (.retAddr (zX z) :: st) h sz kc nc := by
  intro p e s m args below meth c d0 H locs ls C hd0 hL hr
  obtain ⟨scr, h1, h2, h3, h4, h5⟩ := (zST C hr d0).2.2.1
  have k2 := kk p e s m args below meth c d0 H locs ls C hd0 hL hr
  rw [← I_nat] at k2
  exact W.alen (n := Int32.ofNat (zN z)) C.1 C.2.1 h1 h2 (by rw [h4] <;> rfl) rfl rfl hd k2
/-- a call of the String's own methods -/
theorem V_callVS {Y' : ZM} {stk As : List Value} {index n d mc ms mc' ms' : Nat} {Q' : ZQ} (hY : Y'.1.cls = "java/lang/String") (hd : decode Y.2.1 pc = .ok (.invokevirtual index, 3)) (hl : Cond.methodLink Y.1.cls index Y'.1 ∈ gw) (hg : ZYv Y' n) (hM : M z Y' d mc' ms' (.retAddr (zS z) :: As) h sz Q') (hst : stk = As.reverse ++ .retAddr (zS z) :: st) (hn : As.length = n) (hsum : (st.map fun v => v.category).sum ≤ 8) (hk : kc + mc' ≤ mc ∧ nc + ms' ≤ ms)
    (kk : ∀ (v : Option Value) (h' : AH) (sz' : Nat), Q' v h' sz' → V z Y (zroom (d + 1) mc ms) Q (pc + 3) L (v.toList ++ st) h' sz' (kc + mc') (nc + ms')) : V z Y (zroom (d + 1) mc ms) Q pc L stk h sz kc nc := by
  subst hst
  intro p e s m args below meth c d0 H locs ls C hd0 hL hr
  have hts := dr_words C.2.2.2.2.1 d0
  obtain ⟨cell, g1, g2, g3, -⟩ := (zST C hr d0).1.2.1
  have hrecv : ∃ cellB : Cell, H[zS z]? = some cellB ∧ cellB.vm.isStatics = false ∧ (s.setDrawn d0).vm.findClass Y'.1.cls = some cellB.cls := ⟨cell, g1, g2, by rw [hY]; exact g3⟩
  have w1 := hts _ hg.1.1
  have w2 := hts _ hl
  have w4 := hts _ hg.2.1
  have w5 := hts _ hg.2.2
  have cb : CallB (zroom (d + 1) mc ms) (s.setDrawn d0) args Y.1.cls index Y'.1 Y'.2.1 Y'.2.2.1 Y'.2.2.2 (zws Y') (zroom d mc' ms') mc' ms' n := callB_of n hts (zw_good hg.1) rfl rfl rfl w1 w2 hg.1.2.2.1 ⟨Nat.le_refl _, by show 8 + (Y'.2.2.1 + 11) + 31 * d ≤ 31 * (d + 1); have := hg.1.2.2.2; omega⟩
  have hown : (s.setDrawn d0).vm.findClass Y.1.cls = some m.cls := C.2.2.2.1
  have hrun := va_runV_D (cs := lw_cs) (p := p) (l := z.1) (e := e) (R := zroom (d + 1) mc ms) (s := s.setDrawn d0) (H := H) (below := below) (meth := meth) (locs := locs) (cells := kc) (slots := nc) (C := Y'.1.cls) (b := zS z) (As := As.map (shv z.2.1)) (rest := st.map (shv z.2.1)) (g := F0 m pc ls ((As.reverse ++ .retAddr (zS z) :: st).map (shv z.2.1))) ⟨C.1, C.2.1, C.2.2.1, hown, hts⟩ hM ⟨cb, w4, w5⟩ ⟨zp_blind z (.retAddr (zS z) :: As) h sz, hrecv, zp_pre (as := .retAddr (zS z) :: As) hr.1 hr.2.1 C.2.2.2.2.2.2.2.2 hr.2.2.2.2⟩ rfl (by rw [List.length_map]; exact hn) (by rw [← hL]; exact hr.2.2.1.1) (by show List.map (shv z.2.1) _ = _; rw [List.map_append, List.map_reverse]; rfl) (by show 2 * 0 + _ ≤ 8; rw [zw_sum]; omega) hd hk
  refine zw_call (z := z) (R := zroom (d + 1) mc ms) hd0 hrun hr.2.2.2.1 hr.2.2.2.2 fun v h' sz' d1 H1 locs1 b1 b2 b3 b4 b5 b6 => ?_
  have := kk v h' sz' b2 p e s m args below meth c d1 H1 locs1 ls C b1 hL ⟨b3, b4, hr.2.2.1, b5, b6⟩
  rw [List.map_append] at this
  cases v <;> exact this
end Srules
set_option maxHeartbeats 4000000 in
set_option maxRecDepth 100000 in
theorem mS_coder {z : ZG} {d sz : Nat} {h : AH} : M z YJ0_coder d 0 0 [.retAddr (zS z)] h sz (fun w h' sz' => w = some (.int 0) ∧ h' = h ∧ sz' = sz) := by
  refine M.ofF (by decide +kernel) (Nat.le_of_ble_eq_true rfl) ?_
  refine V_getsC rfl dJ0_coder_7d493_0 ?_
  refine V_if_eq (tgt := 13) dJ0_coder_7d493_3 (by decide) (fun q => absurd q (by decide)) (fun _ => ?_)
  refine V_aload_nS dJ0_coder_7d493_6 rfl ?_
  refine V_getSc rfl dJ0_coder_7d493_7 ?_
  refine V_goto (tgt := 14) dJ0_coder_7d493_10 (by decide) ?_
  exact V_iret dJ0_coder_7d493_14 rfl rfl ⟨Nat.zero_le _, Nat.zero_le _⟩ ⟨rfl, rfl, rfl⟩
set_option maxHeartbeats 4000000 in
set_option maxRecDepth 100000 in
theorem mS_latin {z : ZG} {d sz : Nat} {h : AH} : M z YJ0_isLatin1 d 0 0 [.retAddr (zS z)] h sz (fun w h' sz' => w = some (.int (I 1)) ∧ h' = h ∧ sz' = sz) := by
  refine M.ofF (by decide +kernel) (Nat.le_of_ble_eq_true rfl) ?_
  refine V_getsC rfl dJ0_isLatin1_aae02_0 ?_
  refine V_if_eq (tgt := 17) dJ0_isLatin1_aae02_3 (by decide) (fun q => absurd q (by decide)) (fun _ => ?_)
  refine V_aload_nS dJ0_isLatin1_aae02_6 rfl ?_
  refine V_getSc rfl dJ0_isLatin1_aae02_7 ?_
  refine V_if_ne (tgt := 17) dJ0_isLatin1_aae02_10 (by decide) (fun q => absurd rfl q) (fun _ => ?_)
  refine J_iconst dJ0_isLatin1_aae02_13 ?_
  refine V_goto (tgt := 18) dJ0_isLatin1_aae02_14 (by decide) ?_
  exact V_iret dJ0_isLatin1_aae02_18 rfl rfl ⟨Nat.zero_le _, Nat.zero_le _⟩ ⟨rfl, rfl, rfl⟩
set_option maxHeartbeats 4000000 in
set_option maxRecDepth 100000 in
theorem mS_length {z : ZG} {d sz : Nat} {h : AH} : M z YJ0_length (d + 1) 0 0 [.retAddr (zS z)] h sz (fun w h' sz' => w = some (.int (I 34)) ∧ h' = h ∧ sz' = sz) := by
  refine M.ofF (by decide +kernel) (Nat.le_of_ble_eq_true rfl) ?_
  refine V_aload_nS dJ0_length_8abf5_0 rfl ?_
  refine V_getSv rfl dJ0_length_8abf5_1 ?_
  refine V_alenB dJ0_length_8abf5_4 ?_
  refine V_aload_nS dJ0_length_8abf5_5 rfl ?_
  refine V_callVS (Y' := YJ0_coder) (As := []) rfl dJ0_length_8abf5_6 lS_335 gJ0_coder mS_coder rfl rfl (Nat.le_of_ble_eq_true rfl) ⟨Nat.zero_le _, Nat.zero_le _⟩ (fun v h1 sz1 hq => ?_)
  obtain ⟨rfl, rfl, rfl⟩ := hq
  refine V_ishr dJ0_length_8abf5_9 ?_
  exact V_iret dJ0_length_8abf5_10 rfl rfl ⟨Nat.zero_le _, Nat.zero_le _⟩ ⟨by rw [show (I 34 >>> ((0 : Int32) &&& 31)) = I 34 by decide +kernel], rfl, rfl⟩
set_option maxHeartbeats 4000000 in
set_option maxRecDepth 100000 in
theorem mS_pre {z : ZG} {d sz : Nat} {h : AH} {i n : Int} {w0 : Value} (hi : 0 ≤ i ∧ i < n) (hn : n ≤ 1000) (hw : w0 = .null ∨ ∃ a, w0 = .retAddr a) : M z YJ3_checkIndex d 0 0 [.int (I i), .int (I n), w0] h sz (fun w h' sz' => w = some (.int (I i)) ∧ h' = h ∧ sz' = sz) := by
  rcases hw with rfl | ⟨a, rfl⟩
  all_goals refine M.ofF (by decide +kernel) (Nat.le_of_ble_eq_true rfl) ?_
  all_goals refine V_iload_n dJ3_checkIndex_8e157_0 rfl ?_
  all_goals refine J_if_lt (tgt := 9) dJ3_checkIndex_8e157_1 (by decide) (by omega) (fun c => by exfalso; omega) (fun _ => ?_)
  all_goals refine V_iload_n dJ3_checkIndex_8e157_4 rfl ?_
  all_goals refine V_iload_n dJ3_checkIndex_8e157_5 rfl ?_
  all_goals refine J_icmp_lt (tgt := 16) dJ3_checkIndex_8e157_6 (by decide) (by omega) (by omega) (fun _ => ?_) (fun c => by exfalso; omega)
  all_goals refine V_iload_n dJ3_checkIndex_8e157_16 rfl ?_
  all_goals exact V_iret dJ3_checkIndex_8e157_17 rfl rfl ⟨Nat.zero_le _, Nat.zero_le _⟩ ⟨rfl, rfl, rfl⟩
set_option maxHeartbeats 4000000 in
set_option maxRecDepth 100000 in
theorem mS_check {z : ZG} {d sz : Nat} {h : AH} {i n : Int} (hi : 0 ≤ i ∧ i < n) (hn : n ≤ 1000) : M z YJ0_checkIndex (d + 1) 0 0 [.int (I i), .int (I n)] h sz (fun w h' sz' => w = none ∧ h' = h ∧ sz' = sz) := by
  refine M.ofF (by decide +kernel) (Nat.le_of_ble_eq_true rfl) ?_
  refine V_iload_n dJ0_checkIndex_df160_0 rfl ?_
  refine V_iload_n dJ0_checkIndex_df160_1 rfl ?_
  refine V_getsF rfl dJ0_checkIndex_df160_2 (fun w0 hw => ?_)
  refine V_callS (Y' := YJ3_checkIndex) (As := [.int (I i), .int (I n), w0]) dJ0_checkIndex_df160_5 lS_1059 gJ3_checkIndex (mS_pre hi hn hw) rfl rfl (Nat.le_of_ble_eq_true rfl) ⟨Nat.zero_le _, Nat.zero_le _⟩ (fun v h1 sz1 hq => ?_)
  obtain ⟨rfl, rfl, rfl⟩ := hq
  refine V_pop dJ0_checkIndex_df160_8 rfl ?_
  exact V_ret dJ0_checkIndex_df160_9 rfl ⟨Nat.zero_le _, Nat.zero_le _⟩ ⟨rfl, rfl, rfl⟩
/-- the character at a place -/
def zch (j : Nat) : Int := (zby j).toInt
theorem zch_ok : ∀ k : Nat, k < 34 → ((zby k &&& I 255).toUInt32 % 65536).toInt32 = I (zch k) ∧ narrow .char (.int (I (zch k))) = .int (I (zch k)) ∧ 0 ≤ zch k ∧ zch k ≤ 126 := by decide +kernel
set_option maxHeartbeats 4000000 in
set_option maxRecDepth 100000 in
theorem mS_l1 {z : ZG} {d sz : Nat} {h : AH} {k : Nat} (hk : k < 34) : M z YJ1_charAt (d + 2) 0 0 [.retAddr (zB z), .int (I (k : Int))] h sz (fun w h' sz' => w = some (.int (I (zch k))) ∧ h' = h ∧ sz' = sz) := by
  refine M.ofF (by decide +kernel) (Nat.le_of_ble_eq_true rfl) ?_
  refine V_iload_n dJ1_charAt_3b067_0 rfl ?_
  refine V_aload_nS dJ1_charAt_3b067_1 rfl ?_
  refine V_alenB dJ1_charAt_3b067_2 ?_
  refine V_callS (Y' := YJ0_checkIndex) (As := [.int (I (k : Int)), .int (I 34)]) dJ1_charAt_3b067_3 lS_9 gJ0_checkIndex (mS_check (by omega) (by decide)) rfl rfl (Nat.le_of_ble_eq_true rfl) ⟨Nat.zero_le _, Nat.zero_le _⟩ (fun v h1 sz1 hq => ?_)
  obtain ⟨rfl, rfl, rfl⟩ := hq
  refine V_aload_nS dJ1_charAt_3b067_6 rfl ?_
  refine V_iload_n dJ1_charAt_3b067_7 rfl ?_
  refine V_baldB hk dJ1_charAt_3b067_8 ?_
  refine J_sipush dJ1_charAt_3b067_9 (by decide) ?_
  refine V_iand dJ1_charAt_3b067_12 ?_
  refine V_i2c dJ1_charAt_3b067_13 ?_
  rw [(zch_ok k hk).1]
  exact V_iret dJ1_charAt_3b067_14 rfl (zch_ok k hk).2.1 ⟨Nat.zero_le _, Nat.zero_le _⟩ ⟨rfl, rfl, rfl⟩
set_option maxHeartbeats 4000000 in
set_option maxRecDepth 100000 in
theorem mS_charAt {z : ZG} {d sz : Nat} {h : AH} {k : Nat} (hk : k < 34) : M z YJ0_charAt (d + 3) 0 0 [.retAddr (zS z), .int (I (k : Int))] h sz (fun w h' sz' => w = some (.int (I (zch k))) ∧ h' = h ∧ sz' = sz) := by
  refine M.ofF (by decide +kernel) (Nat.le_of_ble_eq_true rfl) ?_
  refine V_aload_nS dJ0_charAt_5068e_0 rfl ?_
  refine V_callVS (Y' := YJ0_isLatin1) (As := []) rfl dJ0_charAt_5068e_1 lS_492 gJ0_isLatin1 mS_latin rfl rfl (Nat.le_of_ble_eq_true rfl) ⟨Nat.zero_le _, Nat.zero_le _⟩ (fun v h1 sz1 hq => ?_)
  obtain ⟨rfl, rfl, rfl⟩ := hq
  refine J_if_eq (tgt := 16) dJ0_charAt_5068e_4 (by decide) (by omega) (fun c => absurd c (by decide)) (fun _ => ?_)
  refine V_aload_nS dJ0_charAt_5068e_7 rfl ?_
  refine V_getSv rfl dJ0_charAt_5068e_8 ?_
  refine V_iload_n dJ0_charAt_5068e_11 rfl ?_
  refine V_callS (Y' := YJ1_charAt) (As := [.retAddr (zB z), .int (I (k : Int))]) dJ0_charAt_5068e_12 lS_495 gJ1_charAt (mS_l1 hk) rfl rfl (Nat.le_of_ble_eq_true rfl) ⟨Nat.zero_le _, Nat.zero_le _⟩ (fun v h1 sz1 hq => ?_)
  obtain ⟨rfl, rfl, rfl⟩ := hq
  exact V_iret dJ0_charAt_5068e_15 rfl (zch_ok k hk).2.1 ⟨Nat.zero_le _, Nat.zero_le _⟩ ⟨rfl, rfl, rfl⟩
