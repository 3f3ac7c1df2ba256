/-! THE CLASS: the changes -/
section Lc
variable {z : ZG} {Y : ZM} {R : Room} {Q : ZQ} {pc : Nat} {L : AL} {st : List Value} {h : AH} {sz kc nc : Nat}
theorem V_lcmp_lt {x y : Int64} {off : Int} {tgt : Nat} (hd : decode Y.2.1 pc = .ok (.lcmp, 1)) (hd2 : decode Y.2.1 (pc + 1) = .ok (.ifCond .lt off, 3)) (ht : ((pc + 1 : Nat) : Int) + off = (tgt : Int)) (kt : True → V z Y R Q tgt L st h sz kc nc) (kf : True → V z Y R Q (pc + 1 + 3) L st h sz kc nc) : V z Y R Q pc L (.long y :: .long x :: st) h sz kc nc := V_lcmp hd (V_if_lt hd2 ht (fun _ => kt trivial) (fun _ => kf trivial))
theorem V_lcmp_gt {x y : Int64} {off : Int} {tgt : Nat} (hd : decode Y.2.1 pc = .ok (.lcmp, 1)) (hd2 : decode Y.2.1 (pc + 1) = .ok (.ifCond .gt off, 3)) (ht : ((pc + 1 : Nat) : Int) + off = (tgt : Int)) (kt : True → V z Y R Q tgt L st h sz kc nc) (kf : True → V z Y R Q (pc + 1 + 3) L st h sz kc nc) : V z Y R Q pc L (.long y :: .long x :: st) h sz kc nc := V_lcmp hd (V_if_gt hd2 ht (fun _ => kt trivial) (fun _ => kf trivial))
theorem V_lcmp_le {x y : Int64} {off : Int} {tgt : Nat} (hd : decode Y.2.1 pc = .ok (.lcmp, 1)) (hd2 : decode Y.2.1 (pc + 1) = .ok (.ifCond .le off, 3)) (ht : ((pc + 1 : Nat) : Int) + off = (tgt : Int)) (kt : True → V z Y R Q tgt L st h sz kc nc) (kf : True → V z Y R Q (pc + 1 + 3) L st h sz kc nc) : V z Y R Q pc L (.long y :: .long x :: st) h sz kc nc := V_lcmp hd (V_if_le hd2 ht (fun _ => kt trivial) (fun _ => kf trivial))
theorem V_lcmp_eq {x y : Int64} {off : Int} {tgt : Nat} (hd : decode Y.2.1 pc = .ok (.lcmp, 1)) (hd2 : decode Y.2.1 (pc + 1) = .ok (.ifCond .eq off, 3)) (ht : ((pc + 1 : Nat) : Int) + off = (tgt : Int)) (kt : x = y → V z Y R Q tgt L st h sz kc nc) (kf : ¬ x = y → V z Y R Q (pc + 1 + 3) L st h sz kc nc) : V z Y R Q pc L (.long y :: .long x :: st) h sz kc nc := by
  refine V_lcmp hd (V_if_eq hd2 ht (fun q => kt ?_) (fun q => kf (fun e => q ?_)))
  · unfold lg_cmp at q
    split at q
    · exact absurd q (by decide)
    · split at q
      · assumption
      · exact absurd q (by decide)
  · subst e; simp [lg_cmp]
end Lc
/-- the encoder in order, whatever its state -/
def EP (h : AH) (tn : Int) (TX : Nat → Int) (mn : Int) (MK : Nat → Int) (pt : Int) : Prop := ∃ (s : Nat) (hn : Int) (N : Nat → Int), EN h s tn TX mn MK pt hn N ∧ (0 ≤ hn ∧ hn ≤ 6) ∧ rok N
section Enc2
variable {h h2 : AH} {s : Nat} {tn mn pt hn v : Int} {TX MK N K P C : Nat → Int}
theorem EN.put0 (x : EN h s tn TX mn MK pt hn N) (hx : OB h s 6 ((stF6 s N).set 3 (.int (I v))) h2) : EN h2 s tn TX mn MK pt hn (va_up N 0 v) := x.setN (hx.fr.wide (by omega) (by omega)) (x.n.put (N2 := va_up N 0 v) hx (fun j hj => if_neg (by omega)))
theorem EN.put4 (x : EN h s tn TX mn MK pt hn N) (hx : OB h s 6 ((stF6 s N).set 4 (.int (I v))) h2) : EN h2 s tn TX mn MK pt hn (va_up N 4 v) := x.setN (hx.fr.wide (by omega) (by omega)) (x.n.put (N2 := va_up N 4 v) hx (fun j hj => if_neg (by omega)))
theorem EN.put5 (x : EN h s tn TX mn MK pt hn N) (hx : OB h s 6 ((stF6 s N).set 5 (.int (I v))) h2) : EN h2 s tn TX mn MK pt hn (va_up N 5 v) := x.setN (hx.fr.wide (by omega) (by omega)) (x.n.put (N2 := va_up N 5 v) hx (fun j hj => if_neg (by omega)))
theorem EN.put6 (x : EN h s tn TX mn MK pt hn N) (hx : OB h s 6 ((stF6 s N).set 6 (.int (I v))) h2) : EN h2 s tn TX mn MK pt hn (va_up N 6 v) := x.setN (hx.fr.wide (by omega) (by omega)) (x.n.put (N2 := va_up N 6 v) hx (fun j hj => if_neg (by omega)))
theorem EN.put7 (x : EN h s tn TX mn MK pt hn N) (hx : OB h s 6 ((stF6 s N).set 7 (.int (I v))) h2) : EN h2 s tn TX mn MK pt hn (va_up N 7 v) := x.setN (hx.fr.wide (by omega) (by omega)) (x.n.put (N2 := va_up N 7 v) hx (fun j hj => if_neg (by omega)))
theorem EN.putC (x : EN h s tn TX mn MK pt hn N) (hx : OB h (s + 1) 0 ([.int (I (N 2)), .long (J (N 1)), .int (I (N 3))].set 1 (.long (J v))) h2) : EN h2 s tn TX mn MK pt hn (va_up N 1 v) := x.setN (hx.fr.wide (by omega) (by omega)) (x.n.dec (N2 := va_up N 1 v) hx (fun j hj => if_neg (by omega)))
theorem EN.logClear (x : EN h s tn TX mn MK pt hn N) (h8 : N 8 ≤ 4) (f : fr h h2 (s + 2) (s + 2 + 7)) (g : LG h2 (s + 2) 0 K P C) : EN h2 s tn TX mn MK pt hn (va_up N 17 0) := by
  obtain ⟨g1, g2, g3, g4⟩ := g
  exact x.setN (f.wide (by omega) (by omega)) (x.n.log (N2 := va_up N 17 0) h8 (f.wide (by omega) (by omega)) ⟨g1, g2.to (fun j hj => by omega), g3.to (fun j hj => by omega), g4.to (fun j hj => by omega)⟩ (fun j hj => if_neg (by omega)))
theorem EN.dirtSet {N2 : Nat → Int} (x : EN h s tn TX mn MK pt hn N) (f : fr h h2 (s + 9) (s + 9 + 5)) (g : DT h2 (s + 9) (N2 8) (dS N2) (dL N2)) (e : ∀ j : Nat, (j < 8 ∨ 17 ≤ j) → N2 j = N j) : EN h2 s tn TX mn MK pt hn N2 := x.setN (f.wide (by omega) (by omega)) (x.n.dirt (f.wide (by omega) (by omega)) g e)
theorem rmR_at {e j : Nat} (hj : j ≠ 8) : rmR N e j = if 9 + 2 * e ≤ j ∧ j < 15 then N (j + 2) else N j := by
  unfold rmR va_up
  rw [if_neg hj]
  rfl
theorem DT_rmR {a e : Nat} (he : (e : Int) < N 8) (h8 : N 8 ≤ 4) (g : DT h a (N 8 - 1) (rrm (dS N) e) (rrm (dL N) e)) : DT h a (rmR N e 8) (dS (rmR N e)) (dL (rmR N e)) := by
  obtain ⟨g1, g2, g3⟩ := g
  refine ⟨g1, g2.to (fun j hj => ?_), g3.to (fun j hj => ?_)⟩
  · show (if j < e then N (9 + 2 * j) else N (9 + 2 * (j + 1))) = rmR N e (9 + 2 * j)
    rw [rmR_at (by omega), show 9 + 2 * (j + 1) = 9 + 2 * j + 2 by omega]
    by_cases q : j < e
    · rw [if_pos q, if_neg (by omega)]
    · rw [if_neg q, if_pos (by omega)]
  · show (if j < e then N (10 + 2 * j) else N (10 + 2 * (j + 1))) = rmR N e (10 + 2 * j)
    rw [rmR_at (by omega), show 10 + 2 * (j + 1) = 10 + 2 * j + 2 by omega]
    by_cases q : j < e
    · rw [if_pos q, if_neg (by omega)]
    · rw [if_neg q, if_pos (by omega)]
theorem rok_rmR {e : Nat} (h : rok N) (he : (e : Int) < N 8) : rok (rmR N e) := by
  obtain ⟨h0, h2, h5, h6, h7, h8, h17, hd, he2⟩ := h
  have e1 : ∀ j : Nat, (j < 8 ∨ 17 ≤ j) → rmR N e j = N j := fun j hj => by rw [rmR_at (by omega), if_neg (by omega)]
  refine ⟨by rw [e1 0 (by omega)]; exact h0, by rw [e1 2 (by omega)]; exact h2, by rw [e1 5 (by omega)]; exact h5, by rw [e1 6 (by omega)]; exact h6, by rw [e1 7 (by omega)]; exact h7, ?_, by rw [e1 17 (by omega)]; exact h17, fun k hk => ?_, fun k hk => by rw [e1 _ (by omega)]; exact he2 k hk⟩
  · show 0 ≤ N 8 - 1 ∧ N 8 - 1 ≤ 4
    omega
  · rw [rmR_at (by omega), rmR_at (by omega)]
    have a := hd k hk
    have b := hd (k + 1)
    constructor
    · split
      · have b := b (by omega); rw [show 9 + 2 * (k + 1) = 9 + 2 * k + 2 by omega] at b; exact b.1
      · exact a.1
    · split
      · have b := b (by omega); rw [show 10 + 2 * (k + 1) = 10 + 2 * k + 2 by omega] at b; exact b.2
      · exact a.2
end Enc2
set_option maxHeartbeats 4000000 in
set_option maxRecDepth 100000 in
theorem m7_setIndexGrating {z : ZG} {d sz s : Nat} {h : AH} {tn mn pt hn : Int} {TX MK N : Nat → Int} (hE : EN h s tn TX mn MK pt hn N) (hR : ER tn TX mn MK pt hn N) {p q : Int} (hvp : -2147483648 ≤ p ∧ p < 2147483648) (hvq : -2147483648 ≤ q ∧ q < 2147483648) : M z YX7_setIndexGrating (d + 6) 0 0 [.ref 0, .int (I p), .int (I q)] h sz (fun w h' sz' => sz' = sz ∧ fr h h' 0 114 ∧ EP h' tn TX mn MK pt ∧ ∃ res : Int, w = some (.int (I res)) ∧ ((¬ ((8 ≤ p ∧ p ≤ 80) ∧ 0 ≤ q ∧ q ≤ 79) ∧ res = -1) ∨ (((8 ≤ p ∧ p ≤ 80) ∧ 0 ≤ q ∧ q ≤ 79) ∧ res = N 6))) := by
  refine M.of (by decide +kernel) (Nat.le_of_ble_eq_true rfl) ?_
  obtain ⟨rt, rx, rm, rmk, rp, rh, rn⟩ := hR
  have hF : fr h h 0 114 := fr.rf
  refine V_iload_n dX7_setIndexGrating_0 rfl ?_
  refine V_iload_n dX7_setIndexGrating_1 rfl ?_
  refine V_callS (Y' := YX7_isIndexGrating) dX7_setIndexGrating_2 lX7_169 gX7_isIndexGrating (m7_isIndexGrating hvp hvq) rfl rfl (Nat.le_of_ble_eq_true rfl) ⟨Nat.zero_le _, Nat.zero_le _⟩ (fun v h1 sz1 hq => ?_)
  obtain ⟨t2, rfl, ht2, rfl, rfl⟩ := hq
  refine J_if_ne (tgt := 10) dX7_setIndexGrating_5 (by decide) (by omega) (fun c5 => ?_) (fun c5 => ?_)
  · refine V_aload_n dX7_setIndexGrating_10 rfl ?_
    refine V_get dX7_setIndexGrating_11 fX7_31 hE.1 rfl ?_
    refine V_aload_n dX7_setIndexGrating_14 rfl ?_
    refine V_get dX7_setIndexGrating_15 fX7_45 hE.1 rfl ?_
    refine V_callV (Y' := YX2_remember) dX7_setIndexGrating_18 lX7_125 gX2_remember (m2_remember rh hE.sb rn hE.n hE.hi) hE.hi.c rfl rfl rfl (Nat.le_of_ble_eq_true rfl) ⟨Nat.zero_le _, Nat.zero_le _⟩ (fun v h1 sz1 hq => ?_)
    obtain ⟨rfl, rfl, hf, hn2, rh, hi⟩ := hq
    have hF := hF.then hf.up
    have hE := hE.rem hf hi
    refine V_aload_n dX7_setIndexGrating_21 rfl ?_
    refine V_get dX7_setIndexGrating_22 fX7_45 hE.1 rfl ?_
    refine V_getN dX7_setIndexGrating_25 fX7_172 hE.n.1 rfl ?_
    refine V_istore_n dX7_setIndexGrating_28 (Nat.le_of_ble_eq_true rfl) ?_
    refine V_aload_n dX7_setIndexGrating_29 rfl ?_
    refine V_get dX7_setIndexGrating_30 fX7_45 hE.1 rfl ?_
    refine V_iload_n dX7_setIndexGrating_33 rfl ?_
    refine RO_putN dX7_setIndexGrating_34 fX7_172 tX6_6 (OB.mk hE.n.1) (Nat.le_of_ble_eq_true rfl) rfl rfl (fun h2 hx => ?_)
    have hF := hF.then (hx.fr.up (by have := hE.sb.2.2; omega))
    have hE := hE.put6 hx
    refine V_aload_n dX7_setIndexGrating_37 rfl ?_
    refine V_get dX7_setIndexGrating_38 fX7_45 hE.1 rfl ?_
    refine V_iload_n dX7_setIndexGrating_41 rfl ?_
    refine RO_putN dX7_setIndexGrating_42 fX7_175 tX6_7 (OB.mk hE.n.1) (Nat.le_of_ble_eq_true rfl) rfl rfl (fun h2 hx => ?_)
    have hF := hF.then (hx.fr.up (by have := hE.sb.2.2; omega))
    have hE := hE.put7 hx
    refine V_iload_n dX7_setIndexGrating_45 rfl ?_
    exact V_iret dX7_setIndexGrating_46 rfl rfl ⟨Nat.zero_le _, Nat.zero_le _⟩ ⟨rfl, hF, ⟨_, _, _, hE, rh, rok_put (rok_put rn (Or.inr (Or.inl ⟨rfl, by omega⟩))) (Or.inr (Or.inr (Or.inl ⟨rfl, by omega⟩)))⟩, _, rfl, Or.inr ⟨by omega, rfl⟩⟩
  · refine J_iconst dX7_setIndexGrating_8 ?_
    exact V_iret dX7_setIndexGrating_9 rfl rfl ⟨Nat.zero_le _, Nat.zero_le _⟩ ⟨rfl, hF, ⟨_, _, _, hE, rh, rn⟩, _, rfl, Or.inl ⟨by omega, rfl⟩⟩
set_option maxHeartbeats 4000000 in
set_option maxRecDepth 100000 in
theorem m7_setMode {z : ZG} {d sz s : Nat} {h : AH} {tn mn pt hn : Int} {TX MK N : Nat → Int} (hE : EN h s tn TX mn MK pt hn N) (hR : ER tn TX mn MK pt hn N) {m : Int} (hvm : -2147483648 ≤ m ∧ m < 2147483648) : M z YX7_setMode (d + 6) 0 0 [.ref 0, .int (I m)] h sz (fun w h' sz' => sz' = sz ∧ fr h h' 0 114 ∧ EP h' tn TX mn MK pt ∧ ∃ res : Int, w = some (.int (I res)) ∧ ((¬ (m = 1 ∨ m = 2 ∨ m = 4) ∧ res = -1) ∨ ((m = 1 ∨ m = 2 ∨ m = 4) ∧ res = N 5))) := by
  refine M.of (by decide +kernel) (Nat.le_of_ble_eq_true rfl) ?_
  obtain ⟨rt, rx, rm, rmk, rp, rh, rn⟩ := hR
  have hF : fr h h 0 114 := fr.rf
  have h0 := rn.1
  refine V_iload_n dX7_setMode_0 rfl ?_
  refine V_callS (Y' := YX7_isMode) dX7_setMode_1 lX7_148 gX7_isMode (m7_isMode hvm) rfl rfl (Nat.le_of_ble_eq_true rfl) ⟨Nat.zero_le _, Nat.zero_le _⟩ (fun v h1 sz1 hq => ?_)
  obtain ⟨t1, rfl, ht1, rfl, rfl⟩ := hq
  refine J_if_ne (tgt := 9) dX7_setMode_4 (by decide) (by omega) (fun c4 => ?_) (fun c4 => ?_)
  · refine V_aload_n dX7_setMode_9 rfl ?_
    refine V_get dX7_setMode_10 fX7_31 hE.1 rfl ?_
    refine V_aload_n dX7_setMode_13 rfl ?_
    refine V_get dX7_setMode_14 fX7_45 hE.1 rfl ?_
    refine V_callV (Y' := YX2_remember) dX7_setMode_17 lX7_125 gX2_remember (m2_remember rh hE.sb rn hE.n hE.hi) hE.hi.c rfl rfl rfl (Nat.le_of_ble_eq_true rfl) ⟨Nat.zero_le _, Nat.zero_le _⟩ (fun v h1 sz1 hq => ?_)
    obtain ⟨rfl, rfl, hf, hn2, rh, hi⟩ := hq
    have hF := hF.then hf.up
    have hE := hE.rem hf hi
    refine V_aload_n dX7_setMode_20 rfl ?_
    refine V_get dX7_setMode_21 fX7_45 hE.1 rfl ?_
    refine V_getN dX7_setMode_24 fX7_152 hE.n.1 rfl ?_
    refine V_istore_n dX7_setMode_27 (Nat.le_of_ble_eq_true rfl) ?_
    refine V_aload_n dX7_setMode_28 rfl ?_
    refine V_get dX7_setMode_29 fX7_45 hE.1 rfl ?_
    refine V_iload_n dX7_setMode_32 rfl ?_
    refine RO_putN dX7_setMode_33 fX7_152 tX6_5 (OB.mk hE.n.1) (Nat.le_of_ble_eq_true rfl) rfl rfl (fun h2 hx => ?_)
    have hF := hF.then (hx.fr.up (by have := hE.sb.2.2; omega))
    have hE := hE.put5 hx
    have rn : rok (va_up N 5 m) := rok_put rn (Or.inl ⟨rfl, by omega⟩)
    have h0 : 0 ≤ va_up N 5 m 0 ∧ va_up N 5 m 0 ≤ 9999 := h0
    have hcr := cnt_rg (N := va_up N 5 m) rn.2.2.1 h0 rp
    refine V_aload_n dX7_setMode_36 rfl ?_
    refine V_get dX7_setMode_37 fX7_45 hE.1 rfl ?_
    refine V_getN dX7_setMode_40 fX7_129 hE.n.1 rfl ?_
    refine V_aload_n dX7_setMode_43 rfl ?_
    refine V_aload_n dX7_setMode_44 rfl ?_
    refine V_get dX7_setMode_45 fX7_45 hE.1 rfl ?_
    refine V_getN dX7_setMode_48 fX7_135 hE.n.1 rfl ?_
    refine V_callV (Y' := YX7_countAt) dX7_setMode_51 lX7_155 gX7_countAt (m7_countAt hE ⟨rt, rx, rm, rmk, rp, rh, rn⟩ h0) hE.1 rfl rfl rfl (Nat.le_of_ble_eq_true rfl) ⟨Nat.zero_le _, Nat.zero_le _⟩ (fun v h1 sz1 hq => ?_)
    obtain ⟨rfl, rfl, rfl⟩ := hq
    refine J_i2l dX7_setMode_54 (by omega) ?_
    refine RO_putN dX7_setMode_55 fX7_158 tX0_1 (OB.mk hE.n.2.1) (Nat.le_of_ble_eq_true rfl) rfl rfl (fun h2 hx => ?_)
    have hF := hF.then (hx.fr.up (by have := hE.sb.2.2; omega))
    have hE := hE.putC hx
    have rn := rok_up (x := va_up N 5 m 5 * va_up N 5 m 0 / pt) rn (Or.inl rfl)
    refine V_aload_n dX7_setMode_58 rfl ?_
    refine V_get dX7_setMode_59 fX7_45 hE.1 rfl ?_
    refine V_getN dX7_setMode_62 fX7_162 hE.n.1 rfl ?_
    refine V_callV (Y' := YX3_clear) dX7_setMode_65 lX7_166 gX3_clear (m3_clear (rok17 rn) hE.n.2.2.1) hE.n.2.2.1.1 rfl rfl rfl (Nat.le_of_ble_eq_true rfl) ⟨Nat.zero_le _, Nat.zero_le _⟩ (fun v h1 sz1 hq => ?_)
    obtain ⟨rfl, rfl, hf, hg⟩ := hq
    have hF := hF.then (hf.up (by have := hE.sb.2.2; omega))
    have hE := hE.logClear (rok8 rn).2 hf hg
    refine V_iload_n dX7_setMode_68 rfl ?_
    exact V_iret dX7_setMode_69 rfl rfl ⟨Nat.zero_le _, Nat.zero_le _⟩ ⟨rfl, hF, ⟨_, _, _, hE, rh, rok_put rn (Or.inr (Or.inr (Or.inr ⟨rfl, by omega⟩)))⟩, _, rfl, Or.inr ⟨by omega, rfl⟩⟩
  · refine J_iconst dX7_setMode_7 ?_
    exact V_iret dX7_setMode_8 rfl rfl ⟨Nat.zero_le _, Nat.zero_le _⟩ ⟨rfl, hF, ⟨_, _, _, hE, rh, rn⟩, _, rfl, Or.inl ⟨by omega, rfl⟩⟩
set_option maxHeartbeats 4000000 in
set_option maxRecDepth 100000 in
theorem m7_zeroSlip {z : ZG} {d sz s : Nat} {h : AH} {tn mn pt hn : Int} {TX MK N : Nat → Int} (hE : EN h s tn TX mn MK pt hn N) (hR : ER tn TX mn MK pt hn N) : M z YX7_zeroSlip (d + 6) 0 0 [.ref 0] h sz (fun w h' sz' => sz' = sz ∧ fr h h' 0 114 ∧ EP h' tn TX mn MK pt ∧ ∃ res : Int, w = some (.int (I res)) ∧ ((res = 0 ∧ J (N 5 * N 0 / pt) = J (N 1)) ∨ (res = 1 ∧ ¬ J (N 5 * N 0 / pt) = J (N 1)))) := by
  refine M.of (by decide +kernel) (Nat.le_of_ble_eq_true rfl) ?_
  obtain ⟨rt, rx, rm, rmk, rp, rh, rn⟩ := hR
  have hF : fr h h 0 114 := fr.rf
  have h0 := rn.1
  have hcr := cnt_rg (N := N) rn.2.2.1 h0 rp
  refine V_aload_n dX7_zeroSlip_0 rfl ?_
  refine V_get dX7_zeroSlip_1 fX7_31 hE.1 rfl ?_
  refine V_aload_n dX7_zeroSlip_4 rfl ?_
  refine V_get dX7_zeroSlip_5 fX7_45 hE.1 rfl ?_
  refine V_callV (Y' := YX2_remember) dX7_zeroSlip_8 lX7_125 gX2_remember (m2_remember rh hE.sb rn hE.n hE.hi) hE.hi.c rfl rfl rfl (Nat.le_of_ble_eq_true rfl) ⟨Nat.zero_le _, Nat.zero_le _⟩ (fun v h1 sz1 hq => ?_)
  obtain ⟨rfl, rfl, hf, hn2, rh, hi⟩ := hq
  have hF := hF.then hf.up
  have hE := hE.rem hf hi
  refine V_aload_n dX7_zeroSlip_11 rfl ?_
  refine V_get dX7_zeroSlip_12 fX7_45 hE.1 rfl ?_
  refine V_getN dX7_zeroSlip_15 fX7_129 hE.n.1 rfl ?_
  refine V_getN dX7_zeroSlip_18 fX7_158 hE.n.2.1 rfl ?_
  refine V_lstore_n dX7_zeroSlip_21 (Nat.le_of_ble_eq_true rfl) ?_
  refine V_aload_n dX7_zeroSlip_22 rfl ?_
  refine V_get dX7_zeroSlip_23 fX7_45 hE.1 rfl ?_
  refine V_getN dX7_zeroSlip_26 fX7_129 hE.n.1 rfl ?_
  refine V_aload_n dX7_zeroSlip_29 rfl ?_
  refine V_aload_n dX7_zeroSlip_30 rfl ?_
  refine V_get dX7_zeroSlip_31 fX7_45 hE.1 rfl ?_
  refine V_getN dX7_zeroSlip_34 fX7_135 hE.n.1 rfl ?_
  refine V_callV (Y' := YX7_countAt) dX7_zeroSlip_37 lX7_155 gX7_countAt (m7_countAt hE ⟨rt, rx, rm, rmk, rp, rh, rn⟩ h0) hE.1 rfl rfl rfl (Nat.le_of_ble_eq_true rfl) ⟨Nat.zero_le _, Nat.zero_le _⟩ (fun v h1 sz1 hq => ?_)
  obtain ⟨rfl, rfl, rfl⟩ := hq
  refine J_i2l dX7_zeroSlip_40 (by omega) ?_
  refine RO_putN dX7_zeroSlip_41 fX7_158 tX0_1 (OB.mk hE.n.2.1) (Nat.le_of_ble_eq_true rfl) rfl rfl (fun h2 hx => ?_)
  have hF := hF.then (hx.fr.up (by have := hE.sb.2.2; omega))
  have hE := hE.putC hx
  refine V_aload_n dX7_zeroSlip_44 rfl ?_
  refine V_get dX7_zeroSlip_45 fX7_45 hE.1 rfl ?_
  refine V_getN dX7_zeroSlip_48 fX7_129 hE.n.1 rfl ?_
  refine V_getN dX7_zeroSlip_51 fX7_158 hE.n.2.1 rfl ?_
  refine V_lload_n dX7_zeroSlip_54 rfl ?_
  refine V_lcmp_eq (tgt := 63) dX7_zeroSlip_55 dX7_zeroSlip_56 (by decide) (fun c55 => ?_) (fun c55 => ?_)
  · refine J_iconst dX7_zeroSlip_63 ?_
    exact V_iret dX7_zeroSlip_64 rfl rfl ⟨Nat.zero_le _, Nat.zero_le _⟩ ⟨rfl, hF, ⟨_, _, _, hE, rh, rok_up rn (Or.inl rfl)⟩, _, rfl, by first | exact Or.inl ⟨rfl, c55⟩ | exact Or.inr ⟨rfl, c55⟩⟩
  · refine J_iconst dX7_zeroSlip_59 ?_
    refine V_goto (tgt := 64) dX7_zeroSlip_60 (by decide) ?_
    exact V_iret dX7_zeroSlip_64 rfl rfl ⟨Nat.zero_le _, Nat.zero_le _⟩ ⟨rfl, hF, ⟨_, _, _, hE, rh, rok_up rn (Or.inl rfl)⟩, _, rfl, by first | exact Or.inl ⟨rfl, c55⟩ | exact Or.inr ⟨rfl, c55⟩⟩
set_option maxHeartbeats 4000000 in
set_option maxRecDepth 100000 in
theorem m7_addDirt {z : ZG} {d sz s : Nat} {h : AH} {tn mn pt hn : Int} {TX MK N : Nat → Int} (hE : EN h s tn TX mn MK pt hn N) (hR : ER tn TX mn MK pt hn N) {x y : Int} (hvx : -2147483648 ≤ x ∧ x < 2147483648) (hvy : -2147483648 ≤ y ∧ y < 2147483648) : M z YX7_addDirt (d + 6) 0 0 [.ref 0, .int (I x), .int (I y)] h sz (fun w h' sz' => sz' = sz ∧ fr h h' 0 114 ∧ EP h' tn TX mn MK pt ∧ ∃ res : Int, w = some (.int (I res)) ∧ ((¬ ((0 ≤ x ∧ x ≤ 9999) ∧ 1 ≤ y ∧ y ≤ 99) ∧ res = -1) ∨ (((0 ≤ x ∧ x ≤ 9999) ∧ 1 ≤ y ∧ y ≤ 99) ∧ N 8 = 4 ∧ res = -3) ∨ (((0 ≤ x ∧ x ≤ 9999) ∧ 1 ≤ y ∧ y ≤ 99) ∧ ¬ N 8 = 4 ∧ res = N 8 + 1))) := by
  refine M.of (by decide +kernel) (Nat.le_of_ble_eq_true rfl) ?_
  obtain ⟨rt, rx, rm, rmk, rp, rh, rn⟩ := hR
  have hF : fr h h 0 114 := fr.rf
  have h8 := rok8 rn
  refine V_iload_n dX7_addDirt_0 rfl ?_
  refine V_iload_n dX7_addDirt_1 rfl ?_
  refine V_callS (Y' := YX7_isDirt) dX7_addDirt_2 lX7_178 gX7_isDirt (m7_isDirt hvx hvy) rfl rfl (Nat.le_of_ble_eq_true rfl) ⟨Nat.zero_le _, Nat.zero_le _⟩ (fun v h1 sz1 hq => ?_)
  obtain ⟨t2, rfl, ht2, rfl, rfl⟩ := hq
  refine J_if_ne (tgt := 10) dX7_addDirt_5 (by decide) (by omega) (fun c5 => ?_) (fun c5 => ?_)
  · refine V_aload_n dX7_addDirt_10 rfl ?_
    refine V_get dX7_addDirt_11 fX7_45 hE.1 rfl ?_
    refine V_getN dX7_addDirt_14 fX7_181 hE.n.1 rfl ?_
    refine V_callV (Y' := YX1_isFull) dX7_addDirt_17 lX7_185 gX1_isFull (m1_isFull h8 hE.n.2.2.2) hE.n.2.2.2.1 rfl rfl rfl (Nat.le_of_ble_eq_true rfl) ⟨Nat.zero_le _, Nat.zero_le _⟩ (fun v h1 sz1 hq => ?_)
    obtain ⟨t17, rfl, ht17, rfl, rfl⟩ := hq
    refine J_if_eq (tgt := 26) dX7_addDirt_20 (by decide) (by omega) (fun c20 => ?_) (fun c20 => ?_)
    · refine V_aload_n dX7_addDirt_26 rfl ?_
      refine V_get dX7_addDirt_27 fX7_31 hE.1 rfl ?_
      refine V_aload_n dX7_addDirt_30 rfl ?_
      refine V_get dX7_addDirt_31 fX7_45 hE.1 rfl ?_
      refine V_callV (Y' := YX2_remember) dX7_addDirt_34 lX7_125 gX2_remember (m2_remember rh hE.sb rn hE.n hE.hi) hE.hi.c rfl rfl rfl (Nat.le_of_ble_eq_true rfl) ⟨Nat.zero_le _, Nat.zero_le _⟩ (fun v h1 sz1 hq => ?_)
      obtain ⟨rfl, rfl, hf, hn2, rh, hi⟩ := hq
      have hF := hF.then hf.up
      have hE := hE.rem hf hi
      refine V_aload_n dX7_addDirt_37 rfl ?_
      refine V_get dX7_addDirt_38 fX7_45 hE.1 rfl ?_
      refine V_getN dX7_addDirt_41 fX7_181 hE.n.1 rfl ?_
      refine V_iload_n dX7_addDirt_44 rfl ?_
      refine V_iload_n dX7_addDirt_45 rfl ?_
      refine V_callV (Y' := YX1_add) dX7_addDirt_46 lX7_188 gX1_add (m1_add hvx hvy h8 (by omega) hE.n.2.2.2) hE.n.2.2.2.1 rfl rfl rfl (Nat.le_of_ble_eq_true rfl) ⟨Nat.zero_le _, Nat.zero_le _⟩ (fun v h1 sz1 hq => ?_)
      obtain ⟨rfl, rfl, hf, hg⟩ := hq
      have hF := hF.then (hf.up (by have := hE.sb.2.2; omega))
      have hE := hE.dirtSet (N2 := adR N (N 8).toNat x y) hf (DT_adR (by omega) hg) (fun j hj => by unfold adR va_up; rw [if_neg (by omega), if_neg (by omega), if_neg (by omega)])
      have h8e : adR N (N 8).toNat x y 8 = N 8 + 1 := by show (((N 8).toNat : Nat) : Int) + 1 = _; omega
      refine V_aload_n dX7_addDirt_49 rfl ?_
      refine V_get dX7_addDirt_50 fX7_45 hE.1 rfl ?_
      refine V_getN dX7_addDirt_53 fX7_181 hE.n.1 rfl ?_
      refine V_getN dX7_addDirt_56 fX7_191 hE.n.2.2.2.1 rfl ?_
      refine V_callV (Y' := YX4_size) dX7_addDirt_59 lX7_82 gX4_size (m4_size (by decide) (by show 0 ≤ adR N (N 8).toNat x y 8 ∧ adR N (N 8).toNat x y 8 ≤ 4; omega) hE.n.2.2.2.2.1) hE.n.2.2.2.2.1.c rfl rfl rfl (Nat.le_of_ble_eq_true rfl) ⟨Nat.zero_le _, Nat.zero_le _⟩ (fun v h1 sz1 hq => ?_)
      obtain ⟨rfl, rfl, rfl⟩ := hq
      exact V_iret dX7_addDirt_62 rfl rfl ⟨Nat.zero_le _, Nat.zero_le _⟩ ⟨rfl, hF, ⟨_, _, _, hE, rh, rok_adR rn (by omega) (by omega) (by omega)⟩, _, rfl, Or.inr (Or.inr ⟨by omega, by omega, h8e⟩)⟩
    · refine J_bipush dX7_addDirt_23 (by decide) ?_
      exact V_iret dX7_addDirt_25 rfl rfl ⟨Nat.zero_le _, Nat.zero_le _⟩ ⟨rfl, hF, ⟨_, _, _, hE, rh, rn⟩, _, rfl, Or.inr (Or.inl ⟨by omega, by omega, rfl⟩)⟩
  · refine J_iconst dX7_addDirt_8 ?_
    exact V_iret dX7_addDirt_9 rfl rfl ⟨Nat.zero_le _, Nat.zero_le _⟩ ⟨rfl, hF, ⟨_, _, _, hE, rh, rn⟩, _, rfl, Or.inl ⟨by omega, rfl⟩⟩
set_option maxHeartbeats 4000000 in
set_option maxRecDepth 100000 in
theorem m7_removeDirt {z : ZG} {d sz s : Nat} {h : AH} {tn mn pt hn : Int} {TX MK N : Nat → Int} (hE : EN h s tn TX mn MK pt hn N) (hR : ER tn TX mn MK pt hn N) {x : Int} (hvx : -2147483648 ≤ x ∧ x < 2147483648) : M z YX7_removeDirt (d + 6) 0 0 [.ref 0, .int (I x)] h sz (fun w h' sz' => sz' = sz ∧ fr h h' 0 114 ∧ EP h' tn TX mn MK pt ∧ ∃ res : Int, w = some (.int (I res)) ∧ ((¬ (0 ≤ x ∧ x < N 8) ∧ res = -1) ∨ ((0 ≤ x ∧ x < N 8) ∧ res = N (10 + 2 * x.toNat)))) := by
  refine M.of (by decide +kernel) (Nat.le_of_ble_eq_true rfl) ?_
  obtain ⟨rt, rx, rm, rmk, rp, rh, rn⟩ := hR
  have hF : fr h h 0 114 := fr.rf
  have h8 := rok8 rn
  refine V_aload_n dX7_removeDirt_0 rfl ?_
  refine V_get dX7_removeDirt_1 fX7_45 hE.1 rfl ?_
  refine V_getN dX7_removeDirt_4 fX7_181 hE.n.1 rfl ?_
  refine V_getN dX7_removeDirt_7 fX7_191 hE.n.2.2.2.1 rfl ?_
  refine V_iload_n dX7_removeDirt_10 rfl ?_
  refine V_callV (Y' := YX4_has) dX7_removeDirt_11 lX7_194 gX4_has (m4_has (by decide) h8 hE.n.2.2.2.2.1 hvx) hE.n.2.2.2.2.1.c rfl rfl rfl (Nat.le_of_ble_eq_true rfl) ⟨Nat.zero_le _, Nat.zero_le _⟩ (fun v h1 sz1 hq => ?_)
  obtain ⟨t11, rfl, ht11, rfl, rfl⟩ := hq
  refine J_if_ne (tgt := 19) dX7_removeDirt_14 (by decide) (by omega) (fun c14 => ?_) (fun c14 => ?_)
  · refine V_aload_n dX7_removeDirt_19 rfl ?_
    refine V_get dX7_removeDirt_20 fX7_31 hE.1 rfl ?_
    refine V_aload_n dX7_removeDirt_23 rfl ?_
    refine V_get dX7_removeDirt_24 fX7_45 hE.1 rfl ?_
    refine V_callV (Y' := YX2_remember) dX7_removeDirt_27 lX7_125 gX2_remember (m2_remember rh hE.sb rn hE.n hE.hi) hE.hi.c rfl rfl rfl (Nat.le_of_ble_eq_true rfl) ⟨Nat.zero_le _, Nat.zero_le _⟩ (fun v h1 sz1 hq => ?_)
    obtain ⟨rfl, rfl, hf, hn2, rh, hi⟩ := hq
    have hF := hF.then hf.up
    have hE := hE.rem hf hi
    refine V_aload_n dX7_removeDirt_30 rfl ?_
    refine V_get dX7_removeDirt_31 fX7_45 hE.1 rfl ?_
    refine V_getN dX7_removeDirt_34 fX7_181 hE.n.1 rfl ?_
    refine V_getN dX7_removeDirt_37 fX7_197 hE.n.2.2.2.1 rfl ?_
    refine V_iload_n dX7_removeDirt_40 rfl ?_
    refine V_callV (Y' := YX4_intAt) dX7_removeDirt_41 lX7_96 gX4_intAt (m4_intAt (by decide) h8 hE.n.2.2.2.2.2 hvx) hE.n.2.2.2.2.2.c rfl rfl rfl (Nat.le_of_ble_eq_true rfl) ⟨Nat.zero_le _, Nat.zero_le _⟩ (fun v h1 sz1 hq => ?_)
    obtain ⟨rfl, rfl, rfl⟩ := hq
    rw [show rat (N 8) (dL N) x = N (10 + 2 * x.toNat) by unfold rat; rw [if_pos (by omega)]; rfl]
    refine V_istore_n dX7_removeDirt_44 (Nat.le_of_ble_eq_true rfl) ?_
    refine V_aload_n dX7_removeDirt_45 rfl ?_
    refine V_get dX7_removeDirt_46 fX7_45 hE.1 rfl ?_
    refine V_getN dX7_removeDirt_49 fX7_181 hE.n.1 rfl ?_
    refine V_iload_n dX7_removeDirt_52 rfl ?_
    refine V_callV (Y' := YX1_removeAt) dX7_removeDirt_53 lX7_200 gX1_removeAt (m1_removeAt hvx (by omega) h8 hE.n.2.2.2) hE.n.2.2.2.1 rfl rfl rfl (Nat.le_of_ble_eq_true rfl) ⟨Nat.zero_le _, Nat.zero_le _⟩ (fun v h1 sz1 hq => ?_)
    obtain ⟨rfl, rfl, hf, hg⟩ := hq
    have hF := hF.then (hf.up (by have := hE.sb.2.2; omega))
    have hE := hE.dirtSet (N2 := rmR N x.toNat) hf (DT_rmR (by omega) h8.2 hg) (fun j hj => by rw [rmR_at (by omega), if_neg (by omega)])
    refine V_iload_n dX7_removeDirt_56 rfl ?_
    exact V_iret dX7_removeDirt_57 rfl rfl ⟨Nat.zero_le _, Nat.zero_le _⟩ ⟨rfl, hF, ⟨_, _, _, hE, rh, rok_rmR rn (by omega)⟩, _, rfl, Or.inr ⟨by omega, rfl⟩⟩
  · refine J_iconst dX7_removeDirt_17 ?_
    exact V_iret dX7_removeDirt_18 rfl rfl ⟨Nat.zero_le _, Nat.zero_le _⟩ ⟨rfl, hF, ⟨_, _, _, hE, rh, rn⟩, _, rfl, Or.inl ⟨by omega, rfl⟩⟩
set_option maxHeartbeats 4000000 in
set_option maxRecDepth 100000 in
theorem m7_undo {z : ZG} {d sz s : Nat} {h : AH} {tn mn pt hn : Int} {TX MK N : Nat → Int} (hE : EN h s tn TX mn MK pt hn N) (hR : ER tn TX mn MK pt hn N) : M z YX7_undo (d + 1) 0 0 [.ref 0] h sz (fun w h' sz' => sz' = sz ∧ fr h h' 0 114 ∧ EP h' tn TX mn MK pt ∧ ∃ res : Int, w = some (.int (I res)) ∧ ((hn = 0 ∧ res = -2) ∨ (¬ hn = 0 ∧ res = hn - 1))) := by
  refine M.of (by decide +kernel) (Nat.le_of_ble_eq_true rfl) ?_
  obtain ⟨rt, rx, rm, rmk, rp, rh, rn⟩ := hR
  refine V_aload_n dX7_undo_0 rfl ?_
  refine V_get dX7_undo_1 fX7_31 hE.1 rfl ?_
  refine V_getN dX7_undo_4 fX7_223 hE.hi.c rfl ?_
  refine J_if_ne (tgt := 13) dX7_undo_7 (by decide) (by omega) (fun c7 => ?_) (fun c7 => ?_)
  · refine V_aload_n dX7_undo_13 rfl ?_
    refine V_aload_n dX7_undo_14 rfl ?_
    refine V_get dX7_undo_15 fX7_31 hE.1 rfl ?_
    refine V_aload_n dX7_undo_18 rfl ?_
    refine V_get dX7_undo_19 fX7_45 hE.1 rfl ?_
    refine V_callV (Y' := YX2_takeBack) dX7_undo_22 lX7_225 gX2_takeBack (m2_takeBack (by omega) hE.sb rn hE.n hE.hi) hE.hi.c rfl rfl rfl (Nat.le_of_ble_eq_true rfl) ⟨Nat.zero_le _, Nat.zero_le _⟩ (fun v h1 sz1 hq => ?_)
    obtain ⟨rfl, hf, s2, N2, rfl, b2, rn2, hN2, hH2⟩ := hq
    obtain ⟨h1a, h3, h4, h5, h6, ⟨q, c, m, hq, h7⟩, h8, h9⟩ := hE
    have hO : h1 0 = some (.inl (7, [.ref 1, .ref 3, .ref 11, .ref 13, .ref 99, .ref s, .int (I pt)])) := (hf 0 (by omega) (by omega)).trans h1a
    refine RO_put dX7_undo_25 fX7_45 tX7_5 (OB.mk hO) (Nat.le_of_ble_eq_true rfl) rfl rfl (fun h2 hx => ?_)
    obtain ⟨s1, s2a, s3⟩ := id b2
    have hE : EN h2 s2 tn TX mn MK pt (hn - 1) N2 := ⟨hx.1, h3.kept ((hx.2 _ (by omega)).trans (hf _ (by omega) (by omega))) ((hx.2 _ (by omega)).trans (hf _ (by omega) (by omega))), h4.kept (fun q q1 q2 => (hx.2 _ (by omega)).trans (hf _ (by omega) (by omega))), h5.kept ((hx.2 _ (by omega)).trans (hf _ (by omega) (by omega))) ((hx.2 _ (by omega)).trans (hf _ (by omega) (by omega))), hH2.kept (fun q hq => hx.2 q (by omega)), ⟨q, c, m, hq, (hx.2 _ (by omega)).trans ((hf _ (by omega) (by omega)).trans h7)⟩, hN2.kept (fun q q1 q2 => hx.2 q (by omega)), b2⟩
    refine V_aload_n dX7_undo_28 rfl ?_
    refine V_get dX7_undo_29 fX7_31 hE.1 rfl ?_
    refine V_getN dX7_undo_32 fX7_223 hE.hi.c rfl ?_
    exact V_iret dX7_undo_35 rfl rfl ⟨Nat.zero_le _, Nat.zero_le _⟩ ⟨rfl, fun q hq => (hx.2 q (by omega)).trans (hf q (by omega) (by omega)), ⟨_, _, _, hE, by omega, rn2⟩, _, rfl, Or.inr ⟨c7, rfl⟩⟩
  · refine J_bipush dX7_undo_10 (by decide) ?_
    exact V_iret dX7_undo_12 rfl rfl ⟨Nat.zero_le _, Nat.zero_le _⟩ ⟨rfl, fr.rf, ⟨_, _, _, hE, rh, rn⟩, _, rfl, Or.inl ⟨c7, rfl⟩⟩
set_option maxHeartbeats 4000000 in
set_option maxRecDepth 100000 in
theorem l7_mp_7 {z : ZG} {d sz s : Nat} {h : AH} {tn mn pt hn : Int} {TX MK N : Nat → Int} (hE : EN h s tn TX mn MK pt hn N) (hR : ER tn TX mn MK pt hn N) {tol : Int} {df : Int64} (ht : 0 ≤ tol ∧ tol ≤ 9) : ∀ (fu i : Nat) (fo : Int) (o6 : Option Value), i ≤ 6 → 6 - i < fu → (i + 1 ≤ mn ∨ i = 0) → (fo = -4 ∨ (0 ≤ fo ∧ fo < i)) → V z YX7_matchingPair (zroom (d + 3) 0 0) (fun w h' sz' => h' = h ∧ sz' = sz ∧ ∃ res : Int, w = some (.int (I res)) ∧ (res = -4 ∨ res = -5 ∨ (0 ≤ res ∧ res + 1 < mn))) 7 [some (.ref 0), some (.long df), none, some (.int (I tol)), some (.int (I fo)), some (.int (I (i : Int))), o6] [] h sz 0 0 := by
  obtain ⟨rt, rx, rm, rmk, rp, rh, rn⟩ := hR
  intro fu
  induction fu with
  | zero => intro i fo o6 h1 h2; omega
  | succ fu ih =>
    intro i fo o6 h1 h2 h3 h4
    refine V_iload dX7_matchingPair_7 rfl ?_
    refine J_iconst dX7_matchingPair_9 ?_
    refine J_iadd dX7_matchingPair_10 ?_
    refine V_aload_n dX7_matchingPair_11 rfl ?_
    refine V_get dX7_matchingPair_12 fX7_25 hE.1 rfl ?_
    refine V_callV (Y' := YX4_size) dX7_matchingPair_15 lX7_82 gX4_size (m4_size (by decide) rm hE.m) hE.m.c rfl rfl rfl (Nat.le_of_ble_eq_true rfl) ⟨Nat.zero_le _, Nat.zero_le _⟩ (fun v h1 sz1 hq => ?_)
    obtain ⟨rfl, rfl, rfl⟩ := hq
    refine J_icmp_ge (tgt := 92) dX7_matchingPair_18 (by decide) (by omega) (by omega) (fun c18 => ?_) (fun c18 => ?_)
    · refine V_iload dX7_matchingPair_92 rfl ?_
      exact V_iret dX7_matchingPair_94 rfl rfl ⟨Nat.zero_le _, Nat.zero_le _⟩ ⟨rfl, rfl, _, rfl, by omega⟩
    · have hca := cnt_rg (N := N) rn.2.2.1 (rmk (i + 1) (by omega)) rp
      have hcb := cnt_rg (N := N) rn.2.2.1 (rmk i (by omega)) rp
      refine V_aload_n dX7_matchingPair_21 rfl ?_
      refine V_aload_n dX7_matchingPair_22 rfl ?_
      refine V_get dX7_matchingPair_23 fX7_25 hE.1 rfl ?_
      refine V_iload dX7_matchingPair_26 rfl ?_
      refine J_iconst dX7_matchingPair_28 ?_
      refine J_iadd dX7_matchingPair_29 ?_
      refine V_callV (Y' := YX4_intAt) dX7_matchingPair_30 lX7_96 gX4_intAt (m4_intAt (by decide) rm hE.m (by omega)) hE.m.c rfl rfl rfl (Nat.le_of_ble_eq_true rfl) ⟨Nat.zero_le _, Nat.zero_le _⟩ (fun v h1 sz1 hq => ?_)
      obtain ⟨rfl, rfl, rfl⟩ := hq
      rw [show rat mn MK ((i : Int) + 1) = MK (i + 1) by unfold rat; rw [if_pos (by omega)]; rfl]
      refine V_callV (Y' := YX7_countAt) dX7_matchingPair_33 lX7_155 gX7_countAt (m7_countAt hE ⟨rt, rx, rm, rmk, rp, rh, rn⟩ (rmk (i + 1) (by omega))) hE.1 rfl rfl rfl (Nat.le_of_ble_eq_true rfl) ⟨Nat.zero_le _, Nat.zero_le _⟩ (fun v h1 sz1 hq => ?_)
      obtain ⟨rfl, rfl, rfl⟩ := hq
      refine V_aload_n dX7_matchingPair_36 rfl ?_
      refine V_aload_n dX7_matchingPair_37 rfl ?_
      refine V_get dX7_matchingPair_38 fX7_25 hE.1 rfl ?_
      refine V_iload dX7_matchingPair_41 rfl ?_
      refine V_callV (Y' := YX4_intAt) dX7_matchingPair_43 lX7_96 gX4_intAt (m4_intAt (by decide) rm hE.m (by omega)) hE.m.c rfl rfl rfl (Nat.le_of_ble_eq_true rfl) ⟨Nat.zero_le _, Nat.zero_le _⟩ (fun v h1 sz1 hq => ?_)
      obtain ⟨rfl, rfl, rfl⟩ := hq
      rw [show rat mn MK (i : Int) = MK i by unfold rat; rw [if_pos (by omega), Int.toNat_natCast]]
      refine V_callV (Y' := YX7_countAt) dX7_matchingPair_46 lX7_155 gX7_countAt (m7_countAt hE ⟨rt, rx, rm, rmk, rp, rh, rn⟩ (rmk i (by omega))) hE.1 rfl rfl rfl (Nat.le_of_ble_eq_true rfl) ⟨Nat.zero_le _, Nat.zero_le _⟩ (fun v h1 sz1 hq => ?_)
      obtain ⟨rfl, rfl, rfl⟩ := hq
      refine J_isub dX7_matchingPair_49 ?_
      refine V_istore dX7_matchingPair_50 (Nat.le_of_ble_eq_true rfl) ?_
      refine V_lload_n dX7_matchingPair_52 rfl ?_
      refine V_iload dX7_matchingPair_53 rfl ?_
      refine V_iload_n dX7_matchingPair_55 rfl ?_
      refine J_isub dX7_matchingPair_56 ?_
      refine J_i2l dX7_matchingPair_57 (by omega) ?_
      refine V_lcmp_lt (tgt := 86) dX7_matchingPair_58 dX7_matchingPair_59 (by decide) (fun c58 => ?_) (fun c58 => ?_)
      · refine J_iinc dX7_matchingPair_86 rfl ?_
        refine V_goto (tgt := 7) dX7_matchingPair_89 (by decide) ?_
        rw [show ((i : Int) + 1) = ((i + 1 : Nat) : Int) by omega]
        exact ih (i + 1) _ _ (by omega) (by omega) (by omega) (by omega)
      · refine V_lload_n dX7_matchingPair_62 rfl ?_
        refine V_iload dX7_matchingPair_63 rfl ?_
        refine V_iload_n dX7_matchingPair_65 rfl ?_
        refine J_iadd dX7_matchingPair_66 ?_
        refine J_i2l dX7_matchingPair_67 (by omega) ?_
        refine V_lcmp_gt (tgt := 86) dX7_matchingPair_68 dX7_matchingPair_69 (by decide) (fun c68 => ?_) (fun c68 => ?_)
        · refine J_iinc dX7_matchingPair_86 rfl ?_
          refine V_goto (tgt := 7) dX7_matchingPair_89 (by decide) ?_
          rw [show ((i : Int) + 1) = ((i + 1 : Nat) : Int) by omega]
          exact ih (i + 1) _ _ (by omega) (by omega) (by omega) (by omega)
        · refine V_iload dX7_matchingPair_72 rfl ?_
          refine J_bipush dX7_matchingPair_74 (by decide) ?_
          refine J_icmp_eq (tgt := 82) dX7_matchingPair_76 (by decide) (by omega) (by omega) (fun c76 => ?_) (fun c76 => ?_)
          · refine V_iload dX7_matchingPair_82 rfl ?_
            refine V_istore dX7_matchingPair_84 (Nat.le_of_ble_eq_true rfl) ?_
            refine J_iinc dX7_matchingPair_86 rfl ?_
            refine V_goto (tgt := 7) dX7_matchingPair_89 (by decide) ?_
            rw [show ((i : Int) + 1) = ((i + 1 : Nat) : Int) by omega]
            exact ih (i + 1) _ _ (by omega) (by omega) (by omega) (by omega)
          · refine J_bipush dX7_matchingPair_79 (by decide) ?_
            exact V_iret dX7_matchingPair_81 rfl rfl ⟨Nat.zero_le _, Nat.zero_le _⟩ ⟨rfl, rfl, _, rfl, by omega⟩
set_option maxHeartbeats 4000000 in
set_option maxRecDepth 100000 in
theorem m7_matchingPair {z : ZG} {d sz s : Nat} {h : AH} {tn mn pt hn : Int} {TX MK N : Nat → Int} (hE : EN h s tn TX mn MK pt hn N) (hR : ER tn TX mn MK pt hn N) {tol : Int} {df : Int64} (ht : 0 ≤ tol ∧ tol ≤ 9) : M z YX7_matchingPair (d + 3) 0 0 [.ref 0, .long df, .int (I tol)] h sz (fun w h' sz' => h' = h ∧ sz' = sz ∧ ∃ res : Int, w = some (.int (I res)) ∧ (res = -4 ∨ res = -5 ∨ (0 ≤ res ∧ res + 1 < mn))) := by
  refine M.of (by decide +kernel) (Nat.le_of_ble_eq_true rfl) ?_
  obtain ⟨rt, rx, rm, rmk, rp, rh, rn⟩ := hR
  refine J_bipush dX7_matchingPair_0 (by decide) ?_
  refine V_istore dX7_matchingPair_2 (Nat.le_of_ble_eq_true rfl) ?_
  refine J_iconst dX7_matchingPair_4 ?_
  refine V_istore dX7_matchingPair_5 (Nat.le_of_ble_eq_true rfl) ?_
  exact l7_mp_7 hE ⟨rt, rx, rm, rmk, rp, rh, rn⟩ ht 7 0 _ _ (by omega) (by omega) (by omega) (by omega)
theorem mkf_rg {n : Int} {K : Nat → Int} {i0 res : Int} (h : mkf n K i0 res) : (res = -4 ∨ (i0 ≤ res ∧ 0 ≤ res)) ∧ (0 ≤ res → res < n) ∧ -4 ≤ res := by
  rcases h with ⟨rfl, _⟩ | ⟨k, rfl, a, b, _⟩ <;> omega
set_option maxHeartbeats 4000000 in
set_option maxRecDepth 100000 in
theorem l7_rec_126 {z : ZG} {d sz s : Nat} {h : AH} {tn mn pt hn : Int} {TX MK N : Nat → Int} (hE : EN h s tn TX mn MK pt hn N) (hR : ER tn TX mn MK pt hn N) {tol mkx c2 c1 w1 w2 pr : Int} {o9 : Option Value} (ht : 0 ≤ tol ∧ tol ≤ 9) (hmk : 0 ≤ mkx ∧ mkx < mn) (h17 : ¬ N 17 = 0) : V z YX7_recover (zroom (d + 6) 0 0) (fun w h' sz' => sz' = sz ∧ fr h h' 0 114 ∧ EP h' tn TX mn MK pt ∧ ∃ res : Int, w = some (.int (I res)) ∧ (¬ (0 ≤ tol ∧ tol ≤ 9) → res = -1) ∧ ((0 ≤ tol ∧ tol ≤ 9) → N 17 = 0 → res = -2)) 126 [some (.ref 0), some (.int (I tol)), some (.int (I w1)), some (.int (I w2)), some (.long (J c2)), none, some (.long (J c1)), none, some (.int (I pr)), o9] [.int (I mkx)] h sz 0 0 := by
  obtain ⟨rt, rx, rm, rmk, rp, rh, rn⟩ := hR
  have hF : fr h h 0 114 := fr.rf
  refine V_istore dX7_recover_126 (Nat.le_of_ble_eq_true rfl) ?_
  refine V_aload_n dX7_recover_128 rfl ?_
  refine V_get dX7_recover_129 fX7_31 hE.1 rfl ?_
  refine V_aload_n dX7_recover_132 rfl ?_
  refine V_get dX7_recover_133 fX7_45 hE.1 rfl ?_
  refine V_callV (Y' := YX2_remember) dX7_recover_136 lX7_125 gX2_remember (m2_remember rh hE.sb rn hE.n hE.hi) hE.hi.c rfl rfl rfl (Nat.le_of_ble_eq_true rfl) ⟨Nat.zero_le _, Nat.zero_le _⟩ (fun v h1 sz1 hq => ?_)
  obtain ⟨rfl, rfl, hf, hn2, rh, hi⟩ := hq
  have hF := hF.then hf.up
  have hE := hE.rem hf hi
  refine V_aload_n dX7_recover_139 rfl ?_
  refine V_get dX7_recover_140 fX7_45 hE.1 rfl ?_
  refine V_getN dX7_recover_143 fX7_129 hE.n.1 rfl ?_
  refine V_dup dX7_recover_146 rfl ?_
  refine V_getN dX7_recover_147 fX7_158 hE.n.2.1 rfl ?_
  refine V_aload_n dX7_recover_150 rfl ?_
  refine V_aload_n dX7_recover_151 rfl ?_
  refine V_get dX7_recover_152 fX7_25 hE.1 rfl ?_
  refine V_iload dX7_recover_155 rfl ?_
  refine V_callV (Y' := YX4_intAt) dX7_recover_157 lX7_96 gX4_intAt (m4_intAt (by decide) rm hE.m (by omega)) hE.m.c rfl rfl rfl (Nat.le_of_ble_eq_true rfl) ⟨Nat.zero_le _, Nat.zero_le _⟩ (fun v h1 sz1 hq => ?_)
  obtain ⟨rfl, rfl, rfl⟩ := hq
  rw [show rat mn MK mkx = MK mkx.toNat by unfold rat; rw [if_pos (by omega)]]
  have hmx := rmk mkx.toNat (by omega)
  have hcr := cnt_rg (N := N) rn.2.2.1 hmx rp
  refine V_callV (Y' := YX7_countAt) dX7_recover_160 lX7_155 gX7_countAt (m7_countAt hE ⟨rt, rx, rm, rmk, rp, rh, rn⟩ hmx) hE.1 rfl rfl rfl (Nat.le_of_ble_eq_true rfl) ⟨Nat.zero_le _, Nat.zero_le _⟩ (fun v h1 sz1 hq => ?_)
  obtain ⟨rfl, rfl, rfl⟩ := hq
  refine J_i2l dX7_recover_163 (by omega) ?_
  refine V_lload dX7_recover_164 rfl ?_
  refine J_lsub dX7_recover_166 ?_
  refine J_ladd dX7_recover_167 ?_
  refine RO_putN dX7_recover_168 fX7_158 tX0_1 (OB.mk hE.n.2.1) (Nat.le_of_ble_eq_true rfl) rfl rfl (fun h2 hx => ?_)
  have hF := hF.then (hx.fr.up (by have := hE.sb.2.2; omega))
  have hE := hE.putC hx
  refine V_iload dX7_recover_171 rfl ?_
  exact V_iret dX7_recover_173 rfl rfl ⟨Nat.zero_le _, Nat.zero_le _⟩ ⟨rfl, hF, ⟨_, _, _, hE, rh, rok_up rn (Or.inl rfl)⟩, _, rfl, fun q => by omega, fun _ q => by omega⟩
set_option maxHeartbeats 4000000 in
set_option maxRecDepth 100000 in
theorem m7_recover {z : ZG} {d sz s : Nat} {h : AH} {tn mn pt hn : Int} {TX MK N : Nat → Int} (hE : EN h s tn TX mn MK pt hn N) (hR : ER tn TX mn MK pt hn N) {tol : Int} (hvtol : -2147483648 ≤ tol ∧ tol < 2147483648) : M z YX7_recover (d + 6) 0 0 [.ref 0, .int (I tol)] h sz (fun w h' sz' => sz' = sz ∧ fr h h' 0 114 ∧ EP h' tn TX mn MK pt ∧ ∃ res : Int, w = some (.int (I res)) ∧ (¬ (0 ≤ tol ∧ tol ≤ 9) → res = -1) ∧ ((0 ≤ tol ∧ tol ≤ 9) → N 17 = 0 → res = -2)) := by
  refine M.of (by decide +kernel) (Nat.le_of_ble_eq_true rfl) ?_
  obtain ⟨rt, rx, rm, rmk, rp, rh, rn⟩ := hR
  have hF : fr h h 0 114 := fr.rf
  have h17 := rok17 rn
  have hkk : ∀ i : Nat, (i : Int) < N 17 → 0 ≤ lK N i ∧ lK N i ≤ 1 := fun i hi => by unfold lK; exact rn.2.2.2.2.2.2.2.2 _ (by omega)
  refine V_iload_n dX7_recover_0 rfl ?_
  refine J_iconst dX7_recover_1 ?_
  refine J_bipush dX7_recover_2 (by decide) ?_
  refine V_callS (Y' := YX7_within) dX7_recover_4 lX7_74 gX7_within (m7_within (by omega) (by omega) (by omega)) rfl rfl (Nat.le_of_ble_eq_true rfl) ⟨Nat.zero_le _, Nat.zero_le _⟩ (fun v h1 sz1 hq => ?_)
  obtain ⟨t4, rfl, ht4, rfl, rfl⟩ := hq
  refine J_if_ne (tgt := 12) dX7_recover_7 (by decide) (by omega) (fun c7 => ?_) (fun c7 => ?_)
  · refine V_aload_n dX7_recover_12 rfl ?_
    refine V_get dX7_recover_13 fX7_45 hE.1 rfl ?_
    refine V_getN dX7_recover_16 fX7_162 hE.n.1 rfl ?_
    refine J_iconst dX7_recover_19 ?_
    refine V_callV (Y' := YX3_markEventFrom) dX7_recover_20 lX7_203 gX3_markEventFrom (m3_markEventFrom (k := 0) h17 hE.n.2.2.1 hkk (by omega)) hE.n.2.2.1.1 rfl rfl rfl (Nat.le_of_ble_eq_true rfl) ⟨Nat.zero_le _, Nat.zero_le _⟩ (fun v h1 sz1 hq => ?_)
    obtain ⟨w1, rfl, hm1, rfl, rfl⟩ := hq
    have hw1 := mkf_rg hm1
    refine V_istore_n dX7_recover_23 (Nat.le_of_ble_eq_true rfl) ?_
    refine V_iload_n dX7_recover_24 rfl ?_
    refine J_if_ge (tgt := 33) dX7_recover_25 (by decide) (by omega) (fun c25 => ?_) (fun c25 => ?_)
    · refine V_aload_n dX7_recover_33 rfl ?_
      refine V_get dX7_recover_34 fX7_45 hE.1 rfl ?_
      refine V_getN dX7_recover_37 fX7_162 hE.n.1 rfl ?_
      refine V_iload_n dX7_recover_40 rfl ?_
      refine J_iconst dX7_recover_41 ?_
      refine J_iadd dX7_recover_42 ?_
      refine V_top (b := (((w1 + 1).toNat : Nat) : Int)) (by omega) ?_
      refine V_callV (Y' := YX3_markEventFrom) dX7_recover_43 lX7_203 gX3_markEventFrom (m3_markEventFrom (k := (w1 + 1).toNat) h17 hE.n.2.2.1 hkk (by omega)) hE.n.2.2.1.1 rfl rfl rfl (Nat.le_of_ble_eq_true rfl) ⟨Nat.zero_le _, Nat.zero_le _⟩ (fun v h1 sz1 hq => ?_)
      obtain ⟨w2, rfl, hm2, rfl, rfl⟩ := hq
      have hw2 := mkf_rg hm2
      refine V_istore_n dX7_recover_46 (Nat.le_of_ble_eq_true rfl) ?_
      refine V_iload_n dX7_recover_47 rfl ?_
      refine J_if_ge (tgt := 54) dX7_recover_48 (by decide) (by omega) (fun c48 => ?_) (fun c48 => ?_)
      · refine V_aload_n dX7_recover_54 rfl ?_
        refine V_get dX7_recover_55 fX7_45 hE.1 rfl ?_
        refine V_getN dX7_recover_58 fX7_162 hE.n.1 rfl ?_
        refine V_getN dX7_recover_61 fX7_206 hE.n.2.2.1.1 rfl ?_
        refine V_iload_n dX7_recover_64 rfl ?_
        refine V_callV (Y' := YX4_longAt) dX7_recover_65 lX7_209 gX4_longAt (m4_longAt (by decide) h17 hE.n.2.2.1.2.2.2 (by omega)) hE.n.2.2.1.2.2.2.c rfl rfl rfl (Nat.le_of_ble_eq_true rfl) ⟨Nat.zero_le _, Nat.zero_le _⟩ (fun v h1 sz1 hq => ?_)
        obtain ⟨rfl, rfl, rfl⟩ := hq
        refine V_lstore dX7_recover_68 (Nat.le_of_ble_eq_true rfl) ?_
        refine V_aload_n dX7_recover_70 rfl ?_
        refine V_get dX7_recover_71 fX7_45 hE.1 rfl ?_
        refine V_getN dX7_recover_74 fX7_162 hE.n.1 rfl ?_
        refine V_getN dX7_recover_77 fX7_206 hE.n.2.2.1.1 rfl ?_
        refine V_iload_n dX7_recover_80 rfl ?_
        refine V_callV (Y' := YX4_longAt) dX7_recover_81 lX7_209 gX4_longAt (m4_longAt (by decide) h17 hE.n.2.2.1.2.2.2 (by omega)) hE.n.2.2.1.2.2.2.c rfl rfl rfl (Nat.le_of_ble_eq_true rfl) ⟨Nat.zero_le _, Nat.zero_le _⟩ (fun v h1 sz1 hq => ?_)
        obtain ⟨rfl, rfl, rfl⟩ := hq
        refine V_lstore dX7_recover_84 (Nat.le_of_ble_eq_true rfl) ?_
        refine V_aload_n dX7_recover_86 rfl ?_
        refine V_lload dX7_recover_87 rfl ?_
        refine V_lload dX7_recover_89 rfl ?_
        refine J_lsub dX7_recover_91 ?_
        refine V_mabsl rfl dX7_recover_92 (Nat.le_of_ble_eq_true rfl) ⟨Nat.zero_le _, Nat.zero_le _⟩ ?_
        refine V_iload_n dX7_recover_95 rfl ?_
        refine V_callV (Y' := YX7_matchingPair) dX7_recover_96 lX7_219 gX7_matchingPair (m7_matchingPair hE ⟨rt, rx, rm, rmk, rp, rh, rn⟩ (by omega)) hE.1 rfl rfl rfl (Nat.le_of_ble_eq_true rfl) ⟨Nat.zero_le _, Nat.zero_le _⟩ (fun v h1 sz1 hq => ?_)
        obtain ⟨rfl, rfl, pr, rfl, hpr⟩ := hq
        refine V_istore dX7_recover_99 (Nat.le_of_ble_eq_true rfl) ?_
        refine V_iload dX7_recover_101 rfl ?_
        refine J_if_ge (tgt := 109) dX7_recover_103 (by decide) (by omega) (fun c103 => ?_) (fun c103 => ?_)
        · refine V_lload dX7_recover_109 rfl ?_
          refine V_lload dX7_recover_111 rfl ?_
          refine V_lcmp_le (tgt := 124) dX7_recover_113 dX7_recover_114 (by decide) (fun c113 => ?_) (fun c113 => ?_)
          · refine V_iload dX7_recover_124 rfl ?_
            exact l7_rec_126 hE ⟨rt, rx, rm, rmk, rp, rh, rn⟩ (by omega) (by omega) (by omega)
          · refine V_iload dX7_recover_117 rfl ?_
            refine J_iconst dX7_recover_119 ?_
            refine J_iadd dX7_recover_120 ?_
            refine V_goto (tgt := 126) dX7_recover_121 (by decide) ?_
            exact l7_rec_126 hE ⟨rt, rx, rm, rmk, rp, rh, rn⟩ (by omega) (by omega) (by omega)
        · refine V_iload dX7_recover_106 rfl ?_
          exact V_iret dX7_recover_108 rfl rfl ⟨Nat.zero_le _, Nat.zero_le _⟩ ⟨rfl, hF, ⟨_, _, _, hE, rh, rn⟩, _, rfl, fun q => by omega, fun _ q => by omega⟩
      · refine J_bipush dX7_recover_51 (by decide) ?_
        exact V_iret dX7_recover_53 rfl rfl ⟨Nat.zero_le _, Nat.zero_le _⟩ ⟨rfl, hF, ⟨_, _, _, hE, rh, rn⟩, _, rfl, fun q => by omega, fun _ _ => rfl⟩
    · refine J_bipush dX7_recover_28 (by decide) ?_
      refine V_goto (tgt := 46) dX7_recover_30 (by decide) ?_
      refine V_istore_n dX7_recover_46 (Nat.le_of_ble_eq_true rfl) ?_
      refine V_iload_n dX7_recover_47 rfl ?_
      refine J_if_ge (tgt := 54) dX7_recover_48 (by decide) (by omega) (fun c48 => ?_) (fun c48 => ?_)
      · refine V_aload_n dX7_recover_54 rfl ?_
        refine V_get dX7_recover_55 fX7_45 hE.1 rfl ?_
        refine V_getN dX7_recover_58 fX7_162 hE.n.1 rfl ?_
        refine V_getN dX7_recover_61 fX7_206 hE.n.2.2.1.1 rfl ?_
        refine V_iload_n dX7_recover_64 rfl ?_
        refine V_callV (Y' := YX4_longAt) dX7_recover_65 lX7_209 gX4_longAt (m4_longAt (by decide) h17 hE.n.2.2.1.2.2.2 (by omega)) hE.n.2.2.1.2.2.2.c rfl rfl rfl (Nat.le_of_ble_eq_true rfl) ⟨Nat.zero_le _, Nat.zero_le _⟩ (fun v h1 sz1 hq => ?_)
        obtain ⟨rfl, rfl, rfl⟩ := hq
        refine V_lstore dX7_recover_68 (Nat.le_of_ble_eq_true rfl) ?_
        refine V_aload_n dX7_recover_70 rfl ?_
        refine V_get dX7_recover_71 fX7_45 hE.1 rfl ?_
        refine V_getN dX7_recover_74 fX7_162 hE.n.1 rfl ?_
        refine V_getN dX7_recover_77 fX7_206 hE.n.2.2.1.1 rfl ?_
        refine V_iload_n dX7_recover_80 rfl ?_
        refine V_callV (Y' := YX4_longAt) dX7_recover_81 lX7_209 gX4_longAt (m4_longAt (by decide) h17 hE.n.2.2.1.2.2.2 (by omega)) hE.n.2.2.1.2.2.2.c rfl rfl rfl (Nat.le_of_ble_eq_true rfl) ⟨Nat.zero_le _, Nat.zero_le _⟩ (fun v h1 sz1 hq => ?_)
        obtain ⟨rfl, rfl, rfl⟩ := hq
        refine V_lstore dX7_recover_84 (Nat.le_of_ble_eq_true rfl) ?_
        refine V_aload_n dX7_recover_86 rfl ?_
        refine V_lload dX7_recover_87 rfl ?_
        refine V_lload dX7_recover_89 rfl ?_
        refine J_lsub dX7_recover_91 ?_
        refine V_mabsl rfl dX7_recover_92 (Nat.le_of_ble_eq_true rfl) ⟨Nat.zero_le _, Nat.zero_le _⟩ ?_
        refine V_iload_n dX7_recover_95 rfl ?_
        refine V_callV (Y' := YX7_matchingPair) dX7_recover_96 lX7_219 gX7_matchingPair (m7_matchingPair hE ⟨rt, rx, rm, rmk, rp, rh, rn⟩ (by omega)) hE.1 rfl rfl rfl (Nat.le_of_ble_eq_true rfl) ⟨Nat.zero_le _, Nat.zero_le _⟩ (fun v h1 sz1 hq => ?_)
        obtain ⟨rfl, rfl, pr, rfl, hpr⟩ := hq
        refine V_istore dX7_recover_99 (Nat.le_of_ble_eq_true rfl) ?_
        refine V_iload dX7_recover_101 rfl ?_
        refine J_if_ge (tgt := 109) dX7_recover_103 (by decide) (by omega) (fun c103 => ?_) (fun c103 => ?_)
        · refine V_lload dX7_recover_109 rfl ?_
          refine V_lload dX7_recover_111 rfl ?_
          refine V_lcmp_le (tgt := 124) dX7_recover_113 dX7_recover_114 (by decide) (fun c113 => ?_) (fun c113 => ?_)
          · refine V_iload dX7_recover_124 rfl ?_
            exact l7_rec_126 hE ⟨rt, rx, rm, rmk, rp, rh, rn⟩ (by omega) (by omega) (by omega)
          · refine V_iload dX7_recover_117 rfl ?_
            refine J_iconst dX7_recover_119 ?_
            refine J_iadd dX7_recover_120 ?_
            refine V_goto (tgt := 126) dX7_recover_121 (by decide) ?_
            exact l7_rec_126 hE ⟨rt, rx, rm, rmk, rp, rh, rn⟩ (by omega) (by omega) (by omega)
        · refine V_iload dX7_recover_106 rfl ?_
          exact V_iret dX7_recover_108 rfl rfl ⟨Nat.zero_le _, Nat.zero_le _⟩ ⟨rfl, hF, ⟨_, _, _, hE, rh, rn⟩, _, rfl, fun q => by omega, fun _ q => by omega⟩
      · refine J_bipush dX7_recover_51 (by decide) ?_
        exact V_iret dX7_recover_53 rfl rfl ⟨Nat.zero_le _, Nat.zero_le _⟩ ⟨rfl, hF, ⟨_, _, _, hE, rh, rn⟩, _, rfl, fun q => by omega, fun _ _ => rfl⟩
  · refine J_iconst dX7_recover_10 ?_
    exact V_iret dX7_recover_11 rfl rfl ⟨Nat.zero_le _, Nat.zero_le _⟩ ⟨rfl, hF, ⟨_, _, _, hE, rh, rn⟩, _, rfl, fun _ => rfl, fun q => by omega⟩
