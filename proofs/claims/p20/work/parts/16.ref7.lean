/-! THE REFERENCE: recover, what is told of a state, fringes; Float.floatToIntBits -/
set_option maxHeartbeats 4000000 in
set_option maxRecDepth 100000 in
theorem mJ_isNaN {z : ZG} {d sz : Nat} {h : AH} {b : UInt32} : M z YJxf58ca_isNaN_12338 d 0 0 [.float b] h sz (fun w h' sz' => ∃ t : Int, w = some (.int (I t)) ∧ ((t = 1 ∧ ¬ Op.cmpValue (FP.fcmp b b) .l = 0) ∨ (t = 0 ∧ Op.cmpValue (FP.fcmp b b) .l = 0)) ∧ h' = h ∧ sz' = sz) := by
  refine M.ofF (by decide +kernel) (Nat.le_of_ble_eq_true rfl) ?_
  refine V_fload_n dJxf58ca_isNaN_12338_0 rfl ?_
  refine V_fload_n dJxf58ca_isNaN_12338_1 rfl ?_
  refine V_fcmp dJxf58ca_isNaN_12338_2 ?_
  refine V_if_eq (tgt := 10) dJxf58ca_isNaN_12338_3 (by decide) (fun c3 => ?_) (fun c3 => ?_)
  · refine J_iconst dJxf58ca_isNaN_12338_10 ?_
    exact V_iret dJxf58ca_isNaN_12338_11 rfl rfl ⟨Nat.zero_le _, Nat.zero_le _⟩ ⟨_, rfl, by first | exact Or.inl ⟨rfl, c3⟩ | exact Or.inr ⟨rfl, c3⟩, rfl, rfl⟩
  · refine J_iconst dJxf58ca_isNaN_12338_6 ?_
    refine V_goto (tgt := 11) dJxf58ca_isNaN_12338_7 (by decide) ?_
    exact V_iret dJxf58ca_isNaN_12338_11 rfl rfl ⟨Nat.zero_le _, Nat.zero_le _⟩ ⟨_, rfl, by first | exact Or.inl ⟨rfl, c3⟩ | exact Or.inr ⟨rfl, c3⟩, rfl, rfl⟩
theorem V_f2ib {z : ZG} {Y : ZM} {Q : ZQ} {pc d mc ms : Nat} {L : AL} {st : List Value} {h : AH} {sz kc nc : Nat} {b : UInt32} (hY : Y.1.cls = "java/lang/Float") (hd : decode Y.2.1 pc = .ok (.invokestatic 74, 3)) (hst : (st.map fun v => v.category).sum ≤ 8) (kk : V z Y (zroom (d + 1) mc ms) Q (pc + 3) L (.int b.toInt32 :: st) h sz kc nc) : V z Y (zroom (d + 1) mc ms) Q pc L (.float b :: st) h sz kc nc := by
  intro p e s m args below meth c d0 H locs ls C hd0 hL hr
  have hts := dr_words C.2.2.2.2.1 d0
  have hown : (s.setDrawn d0).vm.findClass Y.1.cls = some m.cls := C.2.2.2.1
  have w1 := hts _ gw_nal
  have w2 := hts _ gw_nat
  have w3 := hts _ gw_nas
  have w4 := hts _ gw_nai
  rw [hY] at hown
  exact vn_f2i C.1 C.2.1 (by rw [C.2.2.1, ← hL]; exact hr.2.2.1.1.symm) hown w1 w2 w3 w4 (by show 1 ≤ d + 1; omega) (by show _ + 15 ≤ 31 * (d + 1); rw [zw_sum]; omega) hd (kk p e s m args below meth c d0 H locs ls C hd0 hL hr)
set_option maxHeartbeats 4000000 in
set_option maxRecDepth 100000 in
theorem mJ_ftb {z : ZG} {d sz : Nat} {h : AH} {b : UInt32} : M z YJxf58ca_floatToIntBits_5c35a (d + 1) 0 0 [.float b] h sz (fun w h' sz' => ∃ v : Int32, w = some (.int v) ∧ (Op.cmpValue (FP.fcmp b b) .l = 0 → v = b.toInt32) ∧ h' = h ∧ sz' = sz) := by
  refine M.ofF (by decide +kernel) (Nat.le_of_ble_eq_true rfl) ?_
  refine V_fload_n dJxf58ca_floatToIntBits_5c35a_0 rfl ?_
  refine V_callS (Y' := YJxf58ca_isNaN_12338) dJxf58ca_floatToIntBits_5c35a_1 lJxf58ca_59 gJxf58ca_isNaN_12338 mJ_isNaN rfl rfl (Nat.le_of_ble_eq_true rfl) ⟨Nat.zero_le _, Nat.zero_le _⟩ (fun v h1 sz1 hq => ?_)
  obtain ⟨t, rfl, ht, rfl, rfl⟩ := hq
  have htr : t = 1 ∨ t = 0 := ht.imp (fun q => q.1) (fun q => q.1)
  refine J_if_ne (tgt := 12) dJxf58ca_floatToIntBits_5c35a_4 (by decide) (by omega) (fun c4 => ?_) (fun c4 => ?_)
  · refine V_ldc dJxf58ca_floatToIntBits_5c35a_12 cJxf58ca_77 ?_
    exact V_iret dJxf58ca_floatToIntBits_5c35a_14 rfl rfl ⟨Nat.zero_le _, Nat.zero_le _⟩ ⟨_, rfl, fun q => absurd q (ht.elim (fun w => w.2) (fun w => absurd w.1 (by omega))), rfl, rfl⟩
  · refine V_fload_n dJxf58ca_floatToIntBits_5c35a_7 rfl ?_
    refine V_f2ib rfl dJxf58ca_floatToIntBits_5c35a_8 (Nat.le_of_ble_eq_true rfl) ?_
    exact V_iret dJxf58ca_floatToIntBits_5c35a_11 rfl rfl ⟨Nat.zero_le _, Nat.zero_le _⟩ ⟨_, rfl, fun _ => rfl, rfl, rfl⟩
theorem mEv_rg2 {N : Nat → Int} (k left : Nat) (h : k ≤ 8) : (-4 ≤ mEv N k left ∧ mEv N k left ≤ 39) ∧ (mEv N k left = -4 ∨ 18 ≤ mEv N k left) := by
  rcases mEv_rg (N := N) k left h with q | ⟨q, h1, h2⟩ <;> omega
set_option maxHeartbeats 4000000 in
set_option maxRecDepth 100000 in
theorem l8_recover_63 {z : ZG} {d sz r n s : Nat} {g h : AH} {l sp nu rs rm sc km : Int} {T RA RD MA NW SD KP : Nat → Int} {m : Nat} {tol a b : Int} (hm : MS g r n s l sp nu rs rm sc m km T RA RD MA NW SD KP h) (hs : 8 ≤ sc ∧ sc ≤ 80) (hmk : m ≤ 6) (hma : ∀ j : Nat, j < 6 → 0 ≤ MA j ∧ MA j ≤ 9999) (hr : rok NW) (hk : 0 ≤ km ∧ km ≤ 6) : ∀ (f i : Nat) (pair pairs : Int) (o7 : Option Value), i ≤ 5 → (i + 1 ≤ m ∨ i = 0) → 6 - i < f → (0 ≤ pairs ∧ pairs ≤ i) → ((pairs = 0 ∧ pair = -4) ∨ (1 ≤ pairs ∧ 0 ≤ pair ∧ pair < i)) → V z YX8_recover (zroom (d + 2) 0 0) (fun w h' sz' => sz' = sz ∧ ∃ res : Int, w = some (.int (I res)) ∧ (MS g r n s l sp nu rs rm sc m km T RA RD MA NW SD KP h' ∨ ∃ c : Int, ∃ (km2 : Int) (KP2 : Nat → Int), kq km KP NW km2 KP2 ∧ MS g r n s l sp nu rs rm sc m km2 T RA RD MA (va_up NW 1 c) SD KP2 h')) 63 [some (.ref r), some (.int (I tol)), some (.int (I a)), some (.int (I b)), some (.int (I pair)), some (.int (I pairs)), some (.int (I (i : Int))), o7] [] h sz 0 0 := by
  intro f
  induction f with
  | zero => intro i pair pairs o7 h1 h2 h3; omega
  | succ f ih =>
    intro i pair pairs o7 h1 h2 h3 h4 h5
    refine V_iload dX8_recover_63 rfl ?_
    refine J_iconst dX8_recover_65 ?_
    refine J_iadd dX8_recover_66 ?_
    refine V_aload_n dX8_recover_67 rfl ?_
    refine V_get dX8_recover_68 fX8_47 hm.1 rfl ?_
    refine J_icmp_ge (tgt := 140) dX8_recover_71 (by decide) (by omega) (by omega) (fun c71 => ?_) (fun c71 => ?_)
    · refine V_iload dX8_recover_140 rfl ?_
      refine J_iconst dX8_recover_142 ?_
      refine J_icmp_eq (tgt := 159) dX8_recover_143 (by decide) (by omega) (by omega) (fun c143 => ?_) (fun c143 => ?_)
      · refine V_aload_n dX8_recover_159 rfl ?_
        refine V_callV (Y' := YX8_keeps) dX8_recover_160 lX8_122 gX8_keeps (m8_keeps hm (by omega)) hm.1 rfl rfl rfl (Nat.le_of_ble_eq_true rfl) ⟨Nat.zero_le _, Nat.zero_le _⟩ (fun v h1 sz1 hq => ?_)
        obtain ⟨rfl, rfl, km2, KP2, hk2, hm⟩ := hq
        refine V_iload_n dX8_recover_163 rfl ?_
        refine V_iload_n dX8_recover_164 rfl ?_
        refine V_icmp_le (tgt := 175) dX8_recover_165 (by decide) (fun c165 => ?_) (fun c165 => ?_)
        · refine V_iload dX8_recover_175 rfl ?_
          refine V_istore dX8_recover_177 (Nat.le_of_ble_eq_true rfl) ?_
          refine V_aload_n dX8_recover_179 rfl ?_
          refine V_get dX8_recover_180 fX8_22 hm.1 rfl ?_
          refine J_iconst dX8_recover_183 ?_
          refine V_dup2 dX8_recover_184 rfl rfl ?_
          refine R_aldk_NW 1 dX8_recover_185 hm rfl (by decide) ?_
          refine V_aload_n dX8_recover_186 rfl ?_
          refine V_aload_n dX8_recover_187 rfl ?_
          refine V_get dX8_recover_188 fX8_19 hm.1 rfl ?_
          refine V_iload dX8_recover_191 rfl ?_
          refine R_ald_MA dX8_recover_193 hm (by omega) ?_
          refine V_aload_n dX8_recover_194 rfl ?_
          refine V_get dX8_recover_195 fX8_22 hm.1 rfl ?_
          refine J_iconst dX8_recover_198 ?_
          refine R_aldk_NW 5 dX8_recover_199 hm rfl (by decide) ?_
          refine V_callV (Y' := YX8_expects) dX8_recover_200 lX8_114 gX8_expects (m8_expects hm hs (md_rg hr.2.2.1 (hma _ (by omega)))) hm.1 rfl rfl rfl (Nat.le_of_ble_eq_true rfl) ⟨Nat.zero_le _, Nat.zero_le _⟩ (fun v h1 sz1 hq => ?_)
          obtain ⟨rfl, rfl, rfl⟩ := hq
          refine V_iload_n dX8_recover_203 rfl ?_
          refine J_isub dX8_recover_204 ?_
          refine J_iadd dX8_recover_205 ?_
          refine R_astk_NW 1 dX8_recover_206 hm rfl (by decide) (fun h hm => ?_)
          refine V_iload dX8_recover_207 rfl ?_
          exact V_iret dX8_recover_209 rfl rfl ⟨Nat.zero_le _, Nat.zero_le _⟩ ⟨rfl, _, rfl, Or.inr ⟨_, _, _, hk2, hm⟩⟩
        · refine V_iload dX8_recover_168 rfl ?_
          refine J_iconst dX8_recover_170 ?_
          refine J_iadd dX8_recover_171 ?_
          refine V_goto (tgt := 177) dX8_recover_172 (by decide) ?_
          refine V_istore dX8_recover_177 (Nat.le_of_ble_eq_true rfl) ?_
          refine V_aload_n dX8_recover_179 rfl ?_
          refine V_get dX8_recover_180 fX8_22 hm.1 rfl ?_
          refine J_iconst dX8_recover_183 ?_
          refine V_dup2 dX8_recover_184 rfl rfl ?_
          refine R_aldk_NW 1 dX8_recover_185 hm rfl (by decide) ?_
          refine V_aload_n dX8_recover_186 rfl ?_
          refine V_aload_n dX8_recover_187 rfl ?_
          refine V_get dX8_recover_188 fX8_19 hm.1 rfl ?_
          refine V_iload dX8_recover_191 rfl ?_
          refine R_ald_MA dX8_recover_193 hm (by omega) ?_
          refine V_aload_n dX8_recover_194 rfl ?_
          refine V_get dX8_recover_195 fX8_22 hm.1 rfl ?_
          refine J_iconst dX8_recover_198 ?_
          refine R_aldk_NW 5 dX8_recover_199 hm rfl (by decide) ?_
          refine V_callV (Y' := YX8_expects) dX8_recover_200 lX8_114 gX8_expects (m8_expects hm hs (md_rg hr.2.2.1 (hma _ (by omega)))) hm.1 rfl rfl rfl (Nat.le_of_ble_eq_true rfl) ⟨Nat.zero_le _, Nat.zero_le _⟩ (fun v h1 sz1 hq => ?_)
          obtain ⟨rfl, rfl, rfl⟩ := hq
          refine V_iload_n dX8_recover_203 rfl ?_
          refine J_isub dX8_recover_204 ?_
          refine J_iadd dX8_recover_205 ?_
          refine R_astk_NW 1 dX8_recover_206 hm rfl (by decide) (fun h hm => ?_)
          refine V_iload dX8_recover_207 rfl ?_
          exact V_iret dX8_recover_209 rfl rfl ⟨Nat.zero_le _, Nat.zero_le _⟩ ⟨rfl, _, rfl, Or.inr ⟨_, _, _, hk2, hm⟩⟩
      · refine V_iload dX8_recover_146 rfl ?_
        refine J_if_ne (tgt := 156) dX8_recover_148 (by decide) (by omega) (fun c148 => ?_) (fun c148 => ?_)
        · refine J_bipush dX8_recover_156 (by decide) ?_
          exact V_iret dX8_recover_158 rfl rfl ⟨Nat.zero_le _, Nat.zero_le _⟩ ⟨rfl, _, rfl, Or.inl hm⟩
        · refine J_bipush dX8_recover_151 (by decide) ?_
          refine V_goto (tgt := 158) dX8_recover_153 (by decide) ?_
          exact V_iret dX8_recover_158 rfl rfl ⟨Nat.zero_le _, Nat.zero_le _⟩ ⟨rfl, _, rfl, Or.inl hm⟩
    · refine V_aload_n dX8_recover_74 rfl ?_
      refine V_aload_n dX8_recover_75 rfl ?_
      refine V_get dX8_recover_76 fX8_19 hm.1 rfl ?_
      refine V_iload dX8_recover_79 rfl ?_
      refine J_iconst dX8_recover_81 ?_
      refine J_iadd dX8_recover_82 ?_
      refine R_aldk_MA (i + 1) dX8_recover_83 hm (by omega) (by omega) ?_
      refine V_aload_n dX8_recover_84 rfl ?_
      refine V_get dX8_recover_85 fX8_22 hm.1 rfl ?_
      refine J_iconst dX8_recover_88 ?_
      refine R_aldk_NW 5 dX8_recover_89 hm rfl (by decide) ?_
      refine V_callV (Y' := YX8_expects) dX8_recover_90 lX8_114 gX8_expects (m8_expects hm hs (md_rg hr.2.2.1 (hma _ (by omega)))) hm.1 rfl rfl rfl (Nat.le_of_ble_eq_true rfl) ⟨Nat.zero_le _, Nat.zero_le _⟩ (fun v h1 sz1 hq => ?_)
      obtain ⟨rfl, rfl, rfl⟩ := hq
      refine V_aload_n dX8_recover_93 rfl ?_
      refine V_aload_n dX8_recover_94 rfl ?_
      refine V_get dX8_recover_95 fX8_19 hm.1 rfl ?_
      refine V_iload dX8_recover_98 rfl ?_
      refine R_aldk_MA i dX8_recover_100 hm (by omega) (by omega) ?_
      refine V_aload_n dX8_recover_101 rfl ?_
      refine V_get dX8_recover_102 fX8_22 hm.1 rfl ?_
      refine J_iconst dX8_recover_105 ?_
      refine R_aldk_NW 5 dX8_recover_106 hm rfl (by decide) ?_
      refine V_callV (Y' := YX8_expects) dX8_recover_107 lX8_114 gX8_expects (m8_expects hm hs (md_rg hr.2.2.1 (hma _ (by omega)))) hm.1 rfl rfl rfl (Nat.le_of_ble_eq_true rfl) ⟨Nat.zero_le _, Nat.zero_le _⟩ (fun v h1 sz1 hq => ?_)
      obtain ⟨rfl, rfl, rfl⟩ := hq
      refine J_isub dX8_recover_110 ?_
      refine V_istore dX8_recover_111 (Nat.le_of_ble_eq_true rfl) ?_
      refine V_iload_n dX8_recover_113 rfl ?_
      refine V_iload_n dX8_recover_114 rfl ?_
      refine V_callS (Y' := YX8_apart) dX8_recover_115 lX8_149 gX8_apart m8_apart rfl rfl (Nat.le_of_ble_eq_true rfl) ⟨Nat.zero_le _, Nat.zero_le _⟩ (fun v h1 sz1 hq => ?_)
      obtain ⟨q115, rfl, hq115, rfl, rfl⟩ := hq
      refine V_iload dX8_recover_118 rfl ?_
      refine V_callS (Y' := YX8_apart) dX8_recover_120 lX8_149 gX8_apart m8_apart rfl rfl (Nat.le_of_ble_eq_true rfl) ⟨Nat.zero_le _, Nat.zero_le _⟩ (fun v h1 sz1 hq => ?_)
      obtain ⟨q120, rfl, hq120, rfl, rfl⟩ := hq
      refine V_iload_n dX8_recover_123 rfl ?_
      refine V_icmp_gt (tgt := 134) dX8_recover_124 (by decide) (fun c124 => ?_) (fun c124 => ?_)
      · refine J_iinc dX8_recover_134 rfl ?_
        refine V_goto (tgt := 63) dX8_recover_137 (by decide) ?_
        first | exact ih (i + 1) i (pairs + 1) _ (by omega) (by omega) (by omega) (by omega) (by omega) | exact ih (i + 1) pair pairs _ (by omega) (by omega) (by omega) (by omega) (by omega)
      · refine V_iload dX8_recover_127 rfl ?_
        refine V_istore dX8_recover_129 (Nat.le_of_ble_eq_true rfl) ?_
        refine J_iinc dX8_recover_131 rfl ?_
        refine J_iinc dX8_recover_134 rfl ?_
        refine V_goto (tgt := 63) dX8_recover_137 (by decide) ?_
        first | exact ih (i + 1) i (pairs + 1) _ (by omega) (by omega) (by omega) (by omega) (by omega) | exact ih (i + 1) pair pairs _ (by omega) (by omega) (by omega) (by omega) (by omega)
set_option maxHeartbeats 4000000 in
set_option maxRecDepth 100000 in
theorem m8_recover {z : ZG} {d sz r n s : Nat} {g h : AH} {l sp nu rs rm sc km : Int} {T RA RD MA NW SD KP : Nat → Int} {m : Nat} {tol : Int} (ht : -2147483648 ≤ tol ∧ tol < 2147483648) (hm : MS g r n s l sp nu rs rm sc m km T RA RD MA NW SD KP h) (hs : 8 ≤ sc ∧ sc ≤ 80) (hmk : m ≤ 6) (hma : ∀ j : Nat, j < 6 → 0 ≤ MA j ∧ MA j ≤ 9999) (hr : rok NW) (hk : 0 ≤ km ∧ km ≤ 6) : M z YX8_recover (d + 2) 0 0 [.ref r, .int (I tol)] h sz (fun w h' sz' => sz' = sz ∧ ∃ res : Int, w = some (.int (I res)) ∧ ((MS g r n s l sp nu rs rm sc m km T RA RD MA NW SD KP h' ∧ ((¬ (0 ≤ tol ∧ tol ≤ 9) ∧ res = -1) ∨ ((0 ≤ tol ∧ tol ≤ 9) ∧ mEv NW (NW 17).toNat 1 = -4 ∧ res = -2))) ∨ (((0 ≤ tol ∧ tol ≤ 9) ∧ ¬ mEv NW (NW 17).toNat 1 = -4) ∧ (MS g r n s l sp nu rs rm sc m km T RA RD MA NW SD KP h' ∨ ∃ c : Int, ∃ (km2 : Int) (KP2 : Nat → Int), kq km KP NW km2 KP2 ∧ MS g r n s l sp nu rs rm sc m km2 T RA RD MA (va_up NW 1 c) SD KP2 h')))) := by
  refine M.of (by decide +kernel) (Nat.le_of_ble_eq_true rfl) ?_
  have h17 := hr.2.2.2.2.2.2.1
  have hE1r := mEv_rg2 (N := NW) (NW 17).toNat 1 (by omega)
  have hE0r := mEv_rg2 (N := NW) (NW 17).toNat 0 (by omega)
  refine V_iload_n dX8_recover_0 rfl ?_
  refine J_i2l dX8_recover_1 (by omega) ?_
  refine J_lconst0 dX8_recover_2 ?_
  refine J_ldc2 9 dX8_recover_3 cX8_143 rfl ?_
  refine V_callS (Y' := YX8_in) dX8_recover_6 lX8_57 gX8_in (m8_in (by omega) (by omega) (by omega)) rfl rfl (Nat.le_of_ble_eq_true rfl) ⟨Nat.zero_le _, Nat.zero_le _⟩ (fun v h1 sz1 hq => ?_)
  obtain ⟨t6, rfl, ht6, rfl, rfl⟩ := hq
  refine J_if_ne (tgt := 14) dX8_recover_9 (by decide) (by omega) (fun c9 => ?_) (fun c9 => ?_)
  · refine V_aload_n dX8_recover_14 rfl ?_
    refine J_iconst dX8_recover_15 ?_
    refine V_callV (Y' := YX8_markEvent) dX8_recover_16 lX8_145 gX8_markEvent (m8_markEvent (wh := 1) (by omega) hm hr) hm.1 rfl rfl rfl (Nat.le_of_ble_eq_true rfl) ⟨Nat.zero_le _, Nat.zero_le _⟩ (fun v h1 sz1 hq => ?_)
    obtain ⟨rfl, rfl, rfl⟩ := hq
    refine J_bipush dX8_recover_19 (by decide) ?_
    refine J_icmp_ne (tgt := 27) dX8_recover_21 (by decide) (by omega) (by omega) (fun c21 => ?_) (fun c21 => ?_)
    · have hE2 : ¬ mEv NW (NW 17).toNat 0 = -4 := fun w => c21 (mEv_10 (NW 17).toNat (by omega) w)
      refine V_aload_n dX8_recover_27 rfl ?_
      refine V_get dX8_recover_28 fX8_22 hm.1 rfl ?_
      refine V_aload_n dX8_recover_31 rfl ?_
      refine J_iconst dX8_recover_32 ?_
      refine V_callV (Y' := YX8_markEvent) dX8_recover_33 lX8_145 gX8_markEvent (m8_markEvent (wh := 0) (by omega) hm hr) hm.1 rfl rfl rfl (Nat.le_of_ble_eq_true rfl) ⟨Nat.zero_le _, Nat.zero_le _⟩ (fun v h1 sz1 hq => ?_)
      obtain ⟨rfl, rfl, rfl⟩ := hq
      refine J_iconst dX8_recover_36 ?_
      refine J_iadd dX8_recover_37 ?_
      refine R_ald_NW dX8_recover_38 hm (by omega) ?_
      refine V_istore_n dX8_recover_39 (Nat.le_of_ble_eq_true rfl) ?_
      refine V_aload_n dX8_recover_40 rfl ?_
      refine V_get dX8_recover_41 fX8_22 hm.1 rfl ?_
      refine V_aload_n dX8_recover_44 rfl ?_
      refine J_iconst dX8_recover_45 ?_
      refine V_callV (Y' := YX8_markEvent) dX8_recover_46 lX8_145 gX8_markEvent (m8_markEvent (wh := 1) (by omega) hm hr) hm.1 rfl rfl rfl (Nat.le_of_ble_eq_true rfl) ⟨Nat.zero_le _, Nat.zero_le _⟩ (fun v h1 sz1 hq => ?_)
      obtain ⟨rfl, rfl, rfl⟩ := hq
      refine J_iconst dX8_recover_49 ?_
      refine J_iadd dX8_recover_50 ?_
      refine R_ald_NW dX8_recover_51 hm (by omega) ?_
      refine V_istore_n dX8_recover_52 (Nat.le_of_ble_eq_true rfl) ?_
      refine J_bipush dX8_recover_53 (by decide) ?_
      refine V_istore dX8_recover_55 (Nat.le_of_ble_eq_true rfl) ?_
      refine J_iconst dX8_recover_57 ?_
      refine V_istore dX8_recover_58 (Nat.le_of_ble_eq_true rfl) ?_
      refine J_iconst dX8_recover_60 ?_
      refine V_istore dX8_recover_61 (Nat.le_of_ble_eq_true rfl) ?_
      refine V_mono ?_ (l8_recover_63 hm hs hmk hma hr hk 7 0 (-4) 0 _ (by omega) (by omega) (by omega) (by omega) (by omega))
      rintro w h2 sz2 ⟨rfl, res, rfl, q⟩
      exact ⟨rfl, res, rfl, Or.inr ⟨⟨by omega, c21⟩, q⟩⟩
    · refine J_bipush dX8_recover_24 (by decide) ?_
      exact V_iret dX8_recover_26 rfl rfl ⟨Nat.zero_le _, Nat.zero_le _⟩ ⟨rfl, _, rfl, Or.inl ⟨hm, Or.inr ⟨by omega, c21, rfl⟩⟩⟩
  · refine J_iconst dX8_recover_12 ?_
    exact V_iret dX8_recover_13 rfl rfl ⟨Nat.zero_le _, Nat.zero_le _⟩ ⟨rfl, _, rfl, Or.inl ⟨hm, Or.inl ⟨by omega, rfl⟩⟩⟩
set_option maxHeartbeats 4000000 in
set_option maxRecDepth 100000 in
theorem m8_position {z : ZG} {d sz r n s : Nat} {g h : AH} {l sp nu rs rm sc mk km : Int} {T RA RD MA NW SD KP : Nat → Int} (hm : MS g r n s l sp nu rs rm sc mk km T RA RD MA NW SD KP h) : M z YX8_position d 0 0 [.ref r] h sz (fun w h' sz' => w = some (.int (I (NW 0))) ∧ h' = h ∧ sz' = sz) := by
  refine M.of (by decide +kernel) (Nat.le_of_ble_eq_true rfl) ?_
  refine V_aload_n dX8_position_0 rfl ?_
  refine V_get dX8_position_1 fX8_22 hm.1 rfl ?_
  refine J_iconst dX8_position_4 ?_
  refine R_aldk_NW 0 dX8_position_5 hm rfl (by decide) ?_
  exact V_iret dX8_position_6 rfl rfl ⟨Nat.zero_le _, Nat.zero_le _⟩ ⟨rfl, rfl, rfl⟩
set_option maxHeartbeats 4000000 in
set_option maxRecDepth 100000 in
theorem m8_misses {z : ZG} {d sz r n s : Nat} {g h : AH} {l sp nu rs rm sc mk km : Int} {T RA RD MA NW SD KP : Nat → Int} (hm : MS g r n s l sp nu rs rm sc mk km T RA RD MA NW SD KP h) : M z YX8_misses d 0 0 [.ref r] h sz (fun w h' sz' => w = some (.int (I (NW 3))) ∧ h' = h ∧ sz' = sz) := by
  refine M.of (by decide +kernel) (Nat.le_of_ble_eq_true rfl) ?_
  refine V_aload_n dX8_misses_0 rfl ?_
  refine V_get dX8_misses_1 fX8_22 hm.1 rfl ?_
  refine J_iconst dX8_misses_4 ?_
  refine R_aldk_NW 3 dX8_misses_5 hm rfl (by decide) ?_
  exact V_iret dX8_misses_6 rfl rfl ⟨Nat.zero_le _, Nat.zero_le _⟩ ⟨rfl, rfl, rfl⟩
set_option maxHeartbeats 4000000 in
set_option maxRecDepth 100000 in
theorem m8_samples {z : ZG} {d sz r n s : Nat} {g h : AH} {l sp nu rs rm sc mk km : Int} {T RA RD MA NW SD KP : Nat → Int} (hm : MS g r n s l sp nu rs rm sc mk km T RA RD MA NW SD KP h) : M z YX8_samples d 0 0 [.ref r] h sz (fun w h' sz' => w = some (.int (I (NW 4))) ∧ h' = h ∧ sz' = sz) := by
  refine M.of (by decide +kernel) (Nat.le_of_ble_eq_true rfl) ?_
  refine V_aload_n dX8_samples_0 rfl ?_
  refine V_get dX8_samples_1 fX8_22 hm.1 rfl ?_
  refine J_iconst dX8_samples_4 ?_
  refine R_aldk_NW 4 dX8_samples_5 hm rfl (by decide) ?_
  exact V_iret dX8_samples_6 rfl rfl ⟨Nat.zero_le _, Nat.zero_le _⟩ ⟨rfl, rfl, rfl⟩
set_option maxHeartbeats 4000000 in
set_option maxRecDepth 100000 in
theorem m8_counter {z : ZG} {d sz r n s : Nat} {g h : AH} {l sp nu rs rm sc mk km : Int} {T RA RD MA NW SD KP : Nat → Int} (hm : MS g r n s l sp nu rs rm sc mk km T RA RD MA NW SD KP h) : M z YX8_counter d 0 0 [.ref r] h sz (fun w h' sz' => w = some (.long (I (NW 1)).toInt64) ∧ h' = h ∧ sz' = sz) := by
  refine M.of (by decide +kernel) (Nat.le_of_ble_eq_true rfl) ?_
  refine V_aload_n dX8_counter_0 rfl ?_
  refine V_get dX8_counter_1 fX8_22 hm.1 rfl ?_
  refine J_iconst dX8_counter_4 ?_
  refine R_aldk_NW 1 dX8_counter_5 hm rfl (by decide) ?_
  refine V_i2l dX8_counter_6 ?_
  exact V_lret dX8_counter_7 rfl ⟨Nat.zero_le _, Nat.zero_le _⟩ ⟨rfl, rfl, rfl⟩
set_option maxHeartbeats 4000000 in
set_option maxRecDepth 100000 in
theorem m8_slip {z : ZG} {d sz r n s : Nat} {g h : AH} {l sp nu rs rm sc mk km : Int} {T RA RD MA NW SD KP : Nat → Int} (hm : MS g r n s l sp nu rs rm sc mk km T RA RD MA NW SD KP h) (hs : 8 ≤ sc ∧ sc ≤ 80) (hr : rok NW) : M z YX8_slip (d + 2) 0 0 [.ref r] h sz (fun w h' sz' => w = some (.long (I (NW 1 - NW 5 * NW 0 / sc)).toInt64) ∧ h' = h ∧ sz' = sz) := by
  refine M.of (by decide +kernel) (Nat.le_of_ble_eq_true rfl) ?_
  refine V_aload_n dX8_slip_0 rfl ?_
  refine V_aload_n dX8_slip_1 rfl ?_
  refine V_get dX8_slip_2 fX8_22 hm.1 rfl ?_
  refine V_callV (Y' := YX8_slipOf) dX8_slip_5 lX8_133 gX8_slipOf (m8_slipOf_N hm hs hr) hm.1 rfl rfl rfl (Nat.le_of_ble_eq_true rfl) ⟨Nat.zero_le _, Nat.zero_le _⟩ (fun v h1 sz1 hq => ?_)
  obtain ⟨rfl, rfl, rfl⟩ := hq
  exact V_lret dX8_slip_8 rfl ⟨Nat.zero_le _, Nat.zero_le _⟩ ⟨rfl, rfl, rfl⟩
set_option maxHeartbeats 4000000 in
set_option maxRecDepth 100000 in
theorem m8_missRateBits {z : ZG} {d sz r n s : Nat} {g h : AH} {l sp nu rs rm sc mk km : Int} {T RA RD MA NW SD KP : Nat → Int} (hm : MS g r n s l sp nu rs rm sc mk km T RA RD MA NW SD KP h) : M z YX8_missRateBits (d + 2) 0 0 [.ref r] h sz (fun w h' sz' => (∃ v : Int32, w = some (.int v) ∧ (I (NW 4) = 0 → v = I (-4))) ∧ h' = h ∧ sz' = sz) := by
  refine M.of (by decide +kernel) (Nat.le_of_ble_eq_true rfl) ?_
  refine V_aload_n dX8_missRateBits_0 rfl ?_
  refine V_get dX8_missRateBits_1 fX8_22 hm.1 rfl ?_
  refine J_iconst dX8_missRateBits_4 ?_
  refine R_aldk_NW 4 dX8_missRateBits_5 hm rfl (by decide) ?_
  refine V_if_ne (tgt := 14) dX8_missRateBits_6 (by decide) (fun c6 => ?_) (fun c6 => ?_)
  · refine V_aload_n dX8_missRateBits_14 rfl ?_
    refine V_get dX8_missRateBits_15 fX8_22 hm.1 rfl ?_
    refine J_iconst dX8_missRateBits_18 ?_
    refine R_aldk_NW 3 dX8_missRateBits_19 hm rfl (by decide) ?_
    refine V_i2f dX8_missRateBits_20 ?_
    refine V_aload_n dX8_missRateBits_21 rfl ?_
    refine V_get dX8_missRateBits_22 fX8_22 hm.1 rfl ?_
    refine J_iconst dX8_missRateBits_25 ?_
    refine R_aldk_NW 4 dX8_missRateBits_26 hm rfl (by decide) ?_
    refine V_i2f dX8_missRateBits_27 ?_
    refine V_fdiv dX8_missRateBits_28 (fun f28 hf28 => ?_)
    refine V_callS (Y' := YJxf58ca_floatToIntBits_5c35a) dX8_missRateBits_29 lX8_152 gJxf58ca_floatToIntBits_5c35a mJ_ftb rfl rfl (Nat.le_of_ble_eq_true rfl) ⟨Nat.zero_le _, Nat.zero_le _⟩ (fun v h1 sz1 hq => ?_)
    obtain ⟨fv, rfl, hfv, rfl, rfl⟩ := hq
    exact V_iret dX8_missRateBits_32 rfl rfl ⟨Nat.zero_le _, Nat.zero_le _⟩ ⟨⟨_, rfl, fun q => by first | rfl | exact absurd q c6⟩, rfl, rfl⟩
  · refine J_bipush dX8_missRateBits_9 (by decide) ?_
    refine V_goto (tgt := 32) dX8_missRateBits_11 (by decide) ?_
    exact V_iret dX8_missRateBits_32 rfl rfl ⟨Nat.zero_le _, Nat.zero_le _⟩ ⟨⟨_, rfl, fun q => by first | rfl | exact absurd q c6⟩, rfl, rfl⟩
set_option maxHeartbeats 4000000 in
set_option maxRecDepth 100000 in
theorem m8_markPosition {z : ZG} {d sz r n s : Nat} {g h : AH} {l sp nu rs rm sc mk km : Int} {T RA RD MA NW SD KP : Nat → Int} {x : Int} (hx : -2147483648 ≤ x ∧ x < 2147483648) (hm : MS g r n s l sp nu rs rm sc mk km T RA RD MA NW SD KP h) (hk : 0 ≤ mk ∧ mk ≤ 6) : M z YX8_markPosition (d + 1) 0 0 [.ref r, .int (I x)] h sz (fun w h' sz' => ∃ v : Int, w = some (.int (I v)) ∧ ((v = MA x.toNat ∧ 0 ≤ x ∧ x ≤ mk - 1) ∨ (v = -1 ∧ ¬ (0 ≤ x ∧ x ≤ mk - 1))) ∧ h' = h ∧ sz' = sz) := by
  refine M.of (by decide +kernel) (Nat.le_of_ble_eq_true rfl) ?_
  refine V_iload_n dX8_markPosition_0 rfl ?_
  refine J_i2l dX8_markPosition_1 (by omega) ?_
  refine J_lconst0 dX8_markPosition_2 ?_
  refine V_aload_n dX8_markPosition_3 rfl ?_
  refine V_get dX8_markPosition_4 fX8_47 hm.1 rfl ?_
  refine J_iconst dX8_markPosition_7 ?_
  refine J_isub dX8_markPosition_8 ?_
  refine J_i2l dX8_markPosition_9 (by omega) ?_
  refine V_callS (Y' := YX8_in) dX8_markPosition_10 lX8_57 gX8_in (m8_in (by omega) (by omega) (by omega)) rfl rfl (Nat.le_of_ble_eq_true rfl) ⟨Nat.zero_le _, Nat.zero_le _⟩ (fun v h1 sz1 hq => ?_)
  obtain ⟨t10, rfl, ht10, rfl, rfl⟩ := hq
  refine J_if_eq (tgt := 25) dX8_markPosition_13 (by decide) (by omega) (fun c13 => ?_) (fun c13 => ?_)
  · refine J_iconst dX8_markPosition_25 ?_
    exact V_iret dX8_markPosition_26 rfl rfl ⟨Nat.zero_le _, Nat.zero_le _⟩ ⟨_, rfl, by first | exact Or.inl ⟨rfl, by omega⟩ | exact Or.inr ⟨rfl, by omega⟩, rfl, rfl⟩
  · refine V_aload_n dX8_markPosition_16 rfl ?_
    refine V_get dX8_markPosition_17 fX8_19 hm.1 rfl ?_
    refine V_iload_n dX8_markPosition_20 rfl ?_
    refine R_ald_MA dX8_markPosition_21 hm (by omega) ?_
    refine V_goto (tgt := 26) dX8_markPosition_22 (by decide) ?_
    exact V_iret dX8_markPosition_26 rfl rfl ⟨Nat.zero_le _, Nat.zero_le _⟩ ⟨_, rfl, by first | exact Or.inl ⟨rfl, by omega⟩ | exact Or.inr ⟨rfl, by omega⟩, rfl, rfl⟩
set_option maxHeartbeats 4000000 in
set_option maxRecDepth 100000 in
theorem m8_expectedCount {z : ZG} {d sz r n s : Nat} {g h : AH} {l sp nu rs rm sc mk km : Int} {T RA RD MA NW SD KP : Nat → Int} {x : Int} (hx : -2147483648 ≤ x ∧ x < 2147483648) (hm : MS g r n s l sp nu rs rm sc mk km T RA RD MA NW SD KP h) (hs : 8 ≤ sc ∧ sc ≤ 80) (hr : rok NW) : M z YX8_expectedCount (d + 1) 0 0 [.ref r, .int (I x)] h sz (fun w h' sz' => ∃ v : Int, w = some (.int (I v)) ∧ ((v = NW 5 * x / sc ∧ 0 ≤ x ∧ x ≤ 9999) ∨ (v = -1 ∧ ¬ (0 ≤ x ∧ x ≤ 9999))) ∧ h' = h ∧ sz' = sz) := by
  refine M.of (by decide +kernel) (Nat.le_of_ble_eq_true rfl) ?_
  refine V_iload_n dX8_expectedCount_0 rfl ?_
  refine J_i2l dX8_expectedCount_1 (by omega) ?_
  refine J_lconst0 dX8_expectedCount_2 ?_
  refine J_ldc2 9999 dX8_expectedCount_3 cX8_110 rfl ?_
  refine V_callS (Y' := YX8_in) dX8_expectedCount_6 lX8_57 gX8_in (m8_in (by omega) (by omega) (by omega)) rfl rfl (Nat.le_of_ble_eq_true rfl) ⟨Nat.zero_le _, Nat.zero_le _⟩ (fun v h1 sz1 hq => ?_)
  obtain ⟨t6, rfl, ht6, rfl, rfl⟩ := hq
  refine J_if_eq (tgt := 26) dX8_expectedCount_9 (by decide) (by omega) (fun c9 => ?_) (fun c9 => ?_)
  · refine J_iconst dX8_expectedCount_26 ?_
    exact V_iret dX8_expectedCount_27 rfl rfl ⟨Nat.zero_le _, Nat.zero_le _⟩ ⟨_, rfl, by first | exact Or.inl ⟨rfl, by omega⟩ | exact Or.inr ⟨rfl, by omega⟩, rfl, rfl⟩
  · refine V_aload_n dX8_expectedCount_12 rfl ?_
    refine V_iload_n dX8_expectedCount_13 rfl ?_
    refine V_aload_n dX8_expectedCount_14 rfl ?_
    refine V_get dX8_expectedCount_15 fX8_22 hm.1 rfl ?_
    refine J_iconst dX8_expectedCount_18 ?_
    refine R_aldk_NW 5 dX8_expectedCount_19 hm rfl (by decide) ?_
    refine V_callV (Y' := YX8_expects) dX8_expectedCount_20 lX8_114 gX8_expects (m8_expects hm hs (md_rg hr.2.2.1 (by omega))) hm.1 rfl rfl rfl (Nat.le_of_ble_eq_true rfl) ⟨Nat.zero_le _, Nat.zero_le _⟩ (fun v h1 sz1 hq => ?_)
    obtain ⟨rfl, rfl, rfl⟩ := hq
    refine V_goto (tgt := 27) dX8_expectedCount_23 (by decide) ?_
    exact V_iret dX8_expectedCount_27 rfl rfl ⟨Nat.zero_le _, Nat.zero_le _⟩ ⟨_, rfl, by first | exact Or.inl ⟨rfl, by omega⟩ | exact Or.inr ⟨rfl, by omega⟩, rfl, rfl⟩
set_option maxHeartbeats 4000000 in
set_option maxRecDepth 100000 in
theorem m8_isEvent {z : ZG} {d sz r n s : Nat} {g h : AH} {l sp nu rs rm sc mk km : Int} {T RA RD MA NW SD KP : Nat → Int} {x : Int} (hx : -2147483648 ≤ x ∧ x < 2147483648) (hm : MS g r n s l sp nu rs rm sc mk km T RA RD MA NW SD KP h) (h17 : 0 ≤ NW 17 ∧ NW 17 ≤ 8) : M z YX8_isEvent (d + 1) 0 0 [.ref r, .int (I x)] h sz (fun w h' sz' => ∃ t : Int, w = some (.int (I t)) ∧ ((t = 1 ∧ 0 ≤ x ∧ x ≤ NW 17 - 1) ∨ (t = 0 ∧ ¬ (0 ≤ x ∧ x ≤ NW 17 - 1))) ∧ h' = h ∧ sz' = sz) := by
  refine M.of (by decide +kernel) (Nat.le_of_ble_eq_true rfl) ?_
  refine V_iload_n dX8_isEvent_0 rfl ?_
  refine J_i2l dX8_isEvent_1 (by omega) ?_
  refine J_lconst0 dX8_isEvent_2 ?_
  refine V_aload_n dX8_isEvent_3 rfl ?_
  refine V_get dX8_isEvent_4 fX8_22 hm.1 rfl ?_
  refine J_bipush dX8_isEvent_7 (by decide) ?_
  refine R_aldk_NW 17 dX8_isEvent_9 hm rfl (by decide) ?_
  refine J_iconst dX8_isEvent_10 ?_
  refine J_isub dX8_isEvent_11 ?_
  refine J_i2l dX8_isEvent_12 (by omega) ?_
  refine V_callS (Y' := YX8_in) dX8_isEvent_13 lX8_57 gX8_in (m8_in (by omega) (by omega) (by omega)) rfl rfl (Nat.le_of_ble_eq_true rfl) ⟨Nat.zero_le _, Nat.zero_le _⟩ (fun v h1 sz1 hq => ?_)
  obtain ⟨t13, rfl, ht13, rfl, rfl⟩ := hq
  have htr : t13 = 1 ∨ t13 = 0 := by omega
  exact V_iret dX8_isEvent_16 rfl (by rcases htr with rfl | rfl <;> rfl) ⟨Nat.zero_le _, Nat.zero_le _⟩ ⟨_, rfl, by omega, rfl, rfl⟩
set_option maxHeartbeats 4000000 in
set_option maxRecDepth 100000 in
theorem m8_ofEvent {z : ZG} {d sz r n s : Nat} {g h : AH} {l sp nu rs rm sc mk km : Int} {T RA RD MA NW SD KP : Nat → Int} {x y : Int} (hm : MS g r n s l sp nu rs rm sc mk km T RA RD MA NW SD KP h) (h17 : 0 ≤ NW 17 ∧ NW 17 ≤ 8) (hx : 0 ≤ x ∧ x ≤ NW 17 - 1) (hy : 0 ≤ y ∧ y ≤ 2) : M z YX8_ofEvent d 0 0 [.ref r, .int (I x), .int (I y)] h sz (fun w h' sz' => w = some (.int (I (NW (18 + 3 * (NW 17 - 1 - x) + y).toNat))) ∧ h' = h ∧ sz' = sz) := by
  refine M.of (by decide +kernel) (Nat.le_of_ble_eq_true rfl) ?_
  refine V_aload_n dX8_ofEvent_0 rfl ?_
  refine V_get dX8_ofEvent_1 fX8_22 hm.1 rfl ?_
  refine J_bipush dX8_ofEvent_4 (by decide) ?_
  refine J_iconst dX8_ofEvent_6 ?_
  refine V_aload_n dX8_ofEvent_7 rfl ?_
  refine V_get dX8_ofEvent_8 fX8_22 hm.1 rfl ?_
  refine J_bipush dX8_ofEvent_11 (by decide) ?_
  refine R_aldk_NW 17 dX8_ofEvent_13 hm rfl (by decide) ?_
  refine J_iconst dX8_ofEvent_14 ?_
  refine J_isub dX8_ofEvent_15 ?_
  refine V_iload_n dX8_ofEvent_16 rfl ?_
  refine J_isub dX8_ofEvent_17 ?_
  refine J_imul dX8_ofEvent_18 ?_
  refine J_iadd dX8_ofEvent_19 ?_
  refine V_iload_n dX8_ofEvent_20 rfl ?_
  refine J_iadd dX8_ofEvent_21 ?_
  refine R_ald_NW dX8_ofEvent_22 hm (by omega) ?_
  exact V_iret dX8_ofEvent_23 rfl rfl ⟨Nat.zero_le _, Nat.zero_le _⟩ ⟨rfl, rfl, rfl⟩
set_option maxHeartbeats 4000000 in
set_option maxRecDepth 100000 in
theorem m8_eventKind {z : ZG} {d sz r n s : Nat} {g h : AH} {l sp nu rs rm sc mk km : Int} {T RA RD MA NW SD KP : Nat → Int} {x : Int} (hx : -2147483648 ≤ x ∧ x < 2147483648) (hm : MS g r n s l sp nu rs rm sc mk km T RA RD MA NW SD KP h) (h17 : 0 ≤ NW 17 ∧ NW 17 ≤ 8) : M z YX8_eventKind (d + 2) 0 0 [.ref r, .int (I x)] h sz (fun w h' sz' => ∃ v : Int, w = some (.int (I v)) ∧ ((v = NW (18 + 3 * (NW 17 - 1 - x) + 0).toNat ∧ 0 ≤ x ∧ x ≤ NW 17 - 1) ∨ (v = -1 ∧ ¬ (0 ≤ x ∧ x ≤ NW 17 - 1))) ∧ h' = h ∧ sz' = sz) := by
  refine M.of (by decide +kernel) (Nat.le_of_ble_eq_true rfl) ?_
  refine V_aload_n dX8_eventKind_0 rfl ?_
  refine V_iload_n dX8_eventKind_1 rfl ?_
  refine V_callV (Y' := YX8_isEvent) dX8_eventKind_2 lX8_158 gX8_isEvent (m8_isEvent (by omega) hm h17) hm.1 rfl rfl rfl (Nat.le_of_ble_eq_true rfl) ⟨Nat.zero_le _, Nat.zero_le _⟩ (fun v h1 sz1 hq => ?_)
  obtain ⟨t, rfl, ht, rfl, rfl⟩ := hq
  refine J_if_eq (tgt := 17) dX8_eventKind_5 (by decide) (by omega) (fun c5 => ?_) (fun c5 => ?_)
  · refine J_iconst dX8_eventKind_17 ?_
    exact V_iret dX8_eventKind_18 rfl rfl ⟨Nat.zero_le _, Nat.zero_le _⟩ ⟨_, rfl, by first | exact Or.inl ⟨rfl, by omega⟩ | exact Or.inr ⟨rfl, by omega⟩, rfl, rfl⟩
  · refine V_aload_n dX8_eventKind_8 rfl ?_
    refine V_iload_n dX8_eventKind_9 rfl ?_
    refine J_iconst dX8_eventKind_10 ?_
    refine V_callV (Y' := YX8_ofEvent) dX8_eventKind_11 lX8_161 gX8_ofEvent (m8_ofEvent hm h17 (by omega) (by omega)) hm.1 rfl rfl rfl (Nat.le_of_ble_eq_true rfl) ⟨Nat.zero_le _, Nat.zero_le _⟩ (fun v h1 sz1 hq => ?_)
    obtain ⟨rfl, rfl, rfl⟩ := hq
    refine V_goto (tgt := 18) dX8_eventKind_14 (by decide) ?_
    exact V_iret dX8_eventKind_18 rfl rfl ⟨Nat.zero_le _, Nat.zero_le _⟩ ⟨_, rfl, by first | exact Or.inl ⟨rfl, by omega⟩ | exact Or.inr ⟨rfl, by omega⟩, rfl, rfl⟩
set_option maxHeartbeats 4000000 in
set_option maxRecDepth 100000 in
theorem m8_eventPosition {z : ZG} {d sz r n s : Nat} {g h : AH} {l sp nu rs rm sc mk km : Int} {T RA RD MA NW SD KP : Nat → Int} {x : Int} (hx : -2147483648 ≤ x ∧ x < 2147483648) (hm : MS g r n s l sp nu rs rm sc mk km T RA RD MA NW SD KP h) (h17 : 0 ≤ NW 17 ∧ NW 17 ≤ 8) : M z YX8_eventPosition (d + 2) 0 0 [.ref r, .int (I x)] h sz (fun w h' sz' => ∃ v : Int, w = some (.int (I v)) ∧ ((v = NW (18 + 3 * (NW 17 - 1 - x) + 1).toNat ∧ 0 ≤ x ∧ x ≤ NW 17 - 1) ∨ (v = -1 ∧ ¬ (0 ≤ x ∧ x ≤ NW 17 - 1))) ∧ h' = h ∧ sz' = sz) := by
  refine M.of (by decide +kernel) (Nat.le_of_ble_eq_true rfl) ?_
  refine V_aload_n dX8_eventPosition_0 rfl ?_
  refine V_iload_n dX8_eventPosition_1 rfl ?_
  refine V_callV (Y' := YX8_isEvent) dX8_eventPosition_2 lX8_158 gX8_isEvent (m8_isEvent (by omega) hm h17) hm.1 rfl rfl rfl (Nat.le_of_ble_eq_true rfl) ⟨Nat.zero_le _, Nat.zero_le _⟩ (fun v h1 sz1 hq => ?_)
  obtain ⟨t, rfl, ht, rfl, rfl⟩ := hq
  refine J_if_eq (tgt := 17) dX8_eventPosition_5 (by decide) (by omega) (fun c5 => ?_) (fun c5 => ?_)
  · refine J_iconst dX8_eventPosition_17 ?_
    exact V_iret dX8_eventPosition_18 rfl rfl ⟨Nat.zero_le _, Nat.zero_le _⟩ ⟨_, rfl, by first | exact Or.inl ⟨rfl, by omega⟩ | exact Or.inr ⟨rfl, by omega⟩, rfl, rfl⟩
  · refine V_aload_n dX8_eventPosition_8 rfl ?_
    refine V_iload_n dX8_eventPosition_9 rfl ?_
    refine J_iconst dX8_eventPosition_10 ?_
    refine V_callV (Y' := YX8_ofEvent) dX8_eventPosition_11 lX8_161 gX8_ofEvent (m8_ofEvent hm h17 (by omega) (by omega)) hm.1 rfl rfl rfl (Nat.le_of_ble_eq_true rfl) ⟨Nat.zero_le _, Nat.zero_le _⟩ (fun v h1 sz1 hq => ?_)
    obtain ⟨rfl, rfl, rfl⟩ := hq
    refine V_goto (tgt := 18) dX8_eventPosition_14 (by decide) ?_
    exact V_iret dX8_eventPosition_18 rfl rfl ⟨Nat.zero_le _, Nat.zero_le _⟩ ⟨_, rfl, by first | exact Or.inl ⟨rfl, by omega⟩ | exact Or.inr ⟨rfl, by omega⟩, rfl, rfl⟩
set_option maxHeartbeats 4000000 in
set_option maxRecDepth 100000 in
theorem m8_eventCounter {z : ZG} {d sz r n s : Nat} {g h : AH} {l sp nu rs rm sc mk km : Int} {T RA RD MA NW SD KP : Nat → Int} {x : Int} (hx : -2147483648 ≤ x ∧ x < 2147483648) (hm : MS g r n s l sp nu rs rm sc mk km T RA RD MA NW SD KP h) (h17 : 0 ≤ NW 17 ∧ NW 17 ≤ 8) : M z YX8_eventCounter (d + 2) 0 0 [.ref r, .int (I x)] h sz (fun w h' sz' => ∃ v : Int64, w = some (.long v) ∧ ((v = (I (NW (18 + 3 * (NW 17 - 1 - x) + 2).toNat)).toInt64 ∧ 0 ≤ x ∧ x ≤ NW 17 - 1) ∨ (v = J (-9223372036854775808) ∧ ¬ (0 ≤ x ∧ x ≤ NW 17 - 1))) ∧ h' = h ∧ sz' = sz) := by
  refine M.of (by decide +kernel) (Nat.le_of_ble_eq_true rfl) ?_
  refine V_aload_n dX8_eventCounter_0 rfl ?_
  refine V_iload_n dX8_eventCounter_1 rfl ?_
  refine V_callV (Y' := YX8_isEvent) dX8_eventCounter_2 lX8_158 gX8_isEvent (m8_isEvent (by omega) hm h17) hm.1 rfl rfl rfl (Nat.le_of_ble_eq_true rfl) ⟨Nat.zero_le _, Nat.zero_le _⟩ (fun v h1 sz1 hq => ?_)
  obtain ⟨t, rfl, ht, rfl, rfl⟩ := hq
  refine J_if_eq (tgt := 18) dX8_eventCounter_5 (by decide) (by omega) (fun c5 => ?_) (fun c5 => ?_)
  · refine J_ldc2 (-9223372036854775808) dX8_eventCounter_18 cX8_131 rfl ?_
    exact V_lret dX8_eventCounter_21 rfl ⟨Nat.zero_le _, Nat.zero_le _⟩ ⟨_, rfl, by first | exact Or.inl ⟨rfl, by omega⟩ | exact Or.inr ⟨rfl, by omega⟩, rfl, rfl⟩
  · refine V_aload_n dX8_eventCounter_8 rfl ?_
    refine V_iload_n dX8_eventCounter_9 rfl ?_
    refine J_iconst dX8_eventCounter_10 ?_
    refine V_callV (Y' := YX8_ofEvent) dX8_eventCounter_11 lX8_161 gX8_ofEvent (m8_ofEvent hm h17 (by omega) (by omega)) hm.1 rfl rfl rfl (Nat.le_of_ble_eq_true rfl) ⟨Nat.zero_le _, Nat.zero_le _⟩ (fun v h1 sz1 hq => ?_)
    obtain ⟨rfl, rfl, rfl⟩ := hq
    refine V_i2l dX8_eventCounter_14 ?_
    refine V_goto (tgt := 21) dX8_eventCounter_15 (by decide) ?_
    exact V_lret dX8_eventCounter_21 rfl ⟨Nat.zero_le _, Nat.zero_le _⟩ ⟨_, rfl, by first | exact Or.inl ⟨rfl, by omega⟩ | exact Or.inr ⟨rfl, by omega⟩, rfl, rfl⟩
