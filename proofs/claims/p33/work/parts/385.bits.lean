/-! FLOATS: the rest -/
theorem FB.tail {f : UInt32} {c : Nat} (x : FB f c (-23)) : FP.Core.val32 (FP.fsub f FP.fconst1) ≠ .nan ∧ FP.Core.val32 (FP.fmul (FP.fsub f FP.fconst1) 0x4b000000) ≠ .nan ∧ FP.f2i (FP.fmul (FP.fsub f FP.fconst1) 0x4b000000) = I ((c - 8388608 : Nat) : Int) := by
  obtain ⟨h1, h2, h3, -, -⟩ := x
  generalize ht : c - 8388608 = t
  have e1 : FP.Core.val32 (FP.fsub f FP.fconst1) = FP.Core.round FP.Core.b32 (.fin false t (-23)) := by
    show FP.Core.val32 (FP.Core.fsub f FP.fconst1) = _
    rw [FP.Core.val32_fsub, h1, fb_c1]
    have hv : FP.Core.sumUnits false c (-23) true 8388608 (-23) (-23) = (t : Int) := by
      show ((c * 2 ^ ((-23 : Int) - -23).toNat : Nat) : Int) + -((8388608 * 2 ^ ((-23 : Int) - -23).toNat : Nat) : Int) = _
      rw [show ((-23 : Int) - -23).toNat = 0 from rfl]
      omega
    show FP.Core.round FP.Core.b32 (.fin (FP.Core.sumSign false true (FP.Core.sumUnits false c (-23) true 8388608 (-23) (-23))) (FP.Core.sumUnits false c (-23) true 8388608 (-23) (-23)).natAbs (-23)) = _
    rw [hv]
    have hs : FP.Core.sumSign false true (t : Int) = false := by
      unfold FP.Core.sumSign
      split
      · rfl
      · exact decide_eq_false (by omega)
    rw [hs, Int.natAbs_natCast]
  obtain ⟨c', q', e2, e3⟩ := FP.Core.round_exact FP.Core.good_b32 false (c := t) (q := -23) (by show t < 2 ^ 24; omega) (by rw [FP.Core.qmin_b32]; decide) (by rw [fb_qmax]; decide)
  rw [e2] at e1
  have hft := FP.Core.val32_fits (FP.fsub f FP.fconst1)
  rw [e1] at hft
  have hq1 : -149 ≤ q' := by have := hft.2.1; rw [FP.Core.qmin_b32] at this; exact this
  rw [FP.Core.qmin_b32] at e3
  have e4 : c' * 2 ^ (q' + 149).toNat = t * 2 ^ 126 := by
    have : c' * 2 ^ (q' - -149).toNat = t * 2 ^ ((-23 : Int) - -149).toNat := e3
    rw [show (q' - -149) = q' + 149 by omega, show ((-23 : Int) - -149).toNat = 126 from rfl] at this
    exact this
  have hW : FP.Core.Whole (t : Int) (FP.Core.exactProduct (.fin false c' q') (.fin false 8388608 0)) := by
    show ((c' * 8388608 * 2 ^ (q' + 0).toNat : Nat) : Int) = (t : Int) * ((2 ^ (-(q' + 0)).toNat : Nat) : Int)
    rw [Int.add_zero, ← Int.natCast_mul]
    refine congrArg (fun n : Nat => (n : Int)) ?_
    refine Nat.eq_of_mul_eq_mul_right (Nat.two_pow_pos 126) ?_
    calc c' * 8388608 * 2 ^ q'.toNat * 2 ^ 126 = c' * 2 ^ (149 + q'.toNat) := by
          rw [show (8388608 : Nat) = 2 ^ 23 from rfl, Nat.mul_assoc, Nat.mul_assoc, ← Nat.pow_add, ← Nat.pow_add]
          exact congrArg (fun k : Nat => c' * 2 ^ k) (by omega)
      _ = c' * 2 ^ (q' + 149).toNat * 2 ^ (-q').toNat := by
          rw [Nat.mul_assoc, ← Nat.pow_add]
          exact congrArg (fun k : Nat => c' * 2 ^ k) (by omega)
      _ = t * 2 ^ (-q').toNat * 2 ^ 126 := by
          rw [e4, Nat.mul_assoc, Nat.mul_assoc, Nat.mul_comm (2 ^ 126)]
  have hF : FP.Core.Whole (t : Int) (FP.Core.val32 (FP.Core.fmul (FP.fsub f FP.fconst1) 0x4b000000)) := by
    rw [FP.Core.val32_fmul, e1, fb_cb]
    exact FP.Core.whole_round FP.Core.good_b32 FP.Core.wide_b32 (by rw [Int.natAbs_natCast, show FP.Core.b32.p = 24 from rfl]; omega) hW
  refine ⟨by rw [e1]; exact (fun h => by cases h), fun h => ?_, ?_⟩
  · have h : FP.Core.val32 (FP.Core.fmul (FP.fsub f FP.fconst1) 0x4b000000) = .nan := h
    rw [h] at hF
    exact hF
  · exact FP.Core.f2i_int (a := I (t : Int)) (by rw [I_toInt (by omega)]; exact hF)
theorem fb_shl : ∀ n : Nat, n < 255 → (I (n : Int)) <<< (I 23 &&& 31) = I ((n * 8388608 : Nat) : Int) := by decide +kernel
theorem fb_bits (f : UInt32) : f.toInt32 = I (f.toNat : Int) := by
  apply Int32.toBitVec_inj.mp
  rw [← I_nat]
  show f.toBitVec = BitVec.ofNat 32 f.toBitVec.toNat
  rw [BitVec.ofNat_toNat, BitVec.setWidth_eq]
theorem FB.word {f : UInt32} {c : Nat} {q : Int} (x : FB f c q) : (I (q + 150)) <<< (I 23 &&& 31) + I ((c - 8388608 : Nat) : Int) = f.toInt32 := by
  have hn := x.n
  obtain ⟨h1, h2, h3, h4, h5⟩ := x
  obtain ⟨k, hk⟩ : ∃ k : Nat, q + 150 = (k : Int) := ⟨(q + 150).toNat, by omega⟩
  rw [hk, fb_shl k (by omega), I_add, fb_bits, hn, hk]
  refine congrArg I ?_
  omega
theorem fq_fb {n x : Int} {a b : UInt32} (ha : FP.Core.FInt n a) (hb : FP.Core.FInt x b) (hn : 1 ≤ n ∧ n ≤ 131072) (hx : 1 ≤ x ∧ x ≤ 128) : ∃ c q, FB (FP.fdiv a b) c q := by
  unfold FP.Core.FInt at ha hb
  cases va : FP.Core.val32 a with
  | nan => rw [va] at ha; exact ha.elim
  | inf s => rw [va] at ha; exact ha.elim
  | fin s ca qa =>
  cases vb : FP.Core.val32 b with
  | nan => rw [vb] at hb; exact hb.elim
  | inf s => rw [vb] at hb; exact hb.elim
  | fin t cb qb =>
    rw [va] at ha
    rw [vb] at hb
    have hs : s = false := by rw [FP.Core.whole_sign ha (by omega)]; exact decide_eq_false (by omega)
    have ht : t = false := by rw [FP.Core.whole_sign hb (by omega)]; exact decide_eq_false (by omega)
    subst hs
    subst ht
    have zb := FP.Core.whole_zero hb
    have na := FP.Core.whole_natAbs ha
    have nb := FP.Core.whole_natAbs hb
    obtain ⟨n, rfl⟩ : ∃ k : Nat, n = (k : Int) := ⟨n.toNat, by omega⟩
    obtain ⟨x, rfl⟩ : ∃ k : Nat, x = (k : Int) := ⟨x.toNat, by omega⟩
    rw [Int.natAbs_natCast] at na nb
    have hv : FP.Core.decode FP.Core.b32 (FP.Core.fdiv a b).toNat = FP.Core.roundRatio FP.Core.b32 false n x 0 := by
      show FP.Core.val32 (FP.Core.fdiv a b) = _
      rw [FP.Core.val32_fdiv, va, vb]
      refine (if_neg (by omega)).trans ?_
      refine FP.Core.roundRatio_congr (by omega) (by omega) ?_
      rw [show (0 - (qa - qb)).toNat = (qb - qa).toNat by omega, Int.sub_zero]
      refine Nat.eq_of_mul_eq_mul_right (Nat.two_pow_pos ((-qa).toNat + qb.toNat)) ?_
      calc ca * x * 2 ^ (qa - qb).toNat * 2 ^ ((-qa).toNat + qb.toNat) = ca * x * 2 ^ (qa.toNat + ((-qb).toNat + (qb - qa).toNat)) := by
            rw [Nat.mul_assoc, ← Nat.pow_add]
            exact congrArg (fun k : Nat => ca * x * 2 ^ k) (by omega)
        _ = (ca * 2 ^ qa.toNat) * (x * 2 ^ (-qb).toNat) * 2 ^ (qb - qa).toNat := by
            rw [Nat.pow_add, Nat.pow_add]
            ac_rfl
        _ = (n * 2 ^ (-qa).toNat) * (cb * 2 ^ qb.toNat) * 2 ^ (qb - qa).toNat := by rw [na, nb]
        _ = n * cb * 2 ^ (qb - qa).toNat * 2 ^ ((-qa).toNat + qb.toNat) := by
            rw [Nat.pow_add]
            ac_rfl
    have h120 : FP.Core.unitsOf FP.Core.b32 (120 * 8388608) = 2 ^ 142 := by decide +kernel
    have h144 : FP.Core.unitsOf FP.Core.b32 (144 * 8388608) = 2 ^ 166 := by decide +kernel
    have hlo : 120 * 8388608 ≤ FP.Core.mag FP.Core.b32 (FP.Core.fdiv a b).toNat := FP.Core.mag_ge (e0 := -149) FP.Core.good_b32 hv (by omega) (by rw [FP.Core.qmin_b32]; decide) (by decide) (by rw [FP.Core.infBits_b32]; decide) (by
      rw [h120, FP.Core.qmin_b32, show ((-149 : Int) - -149).toNat = 0 from rfl]
      show 2 ^ 142 * 2 ^ 0 * x ≤ n * 2 ^ 149
      have hx2 : x ≤ 128 := by omega
      have hn1 : 1 ≤ n := by omega
      calc 2 ^ 142 * 2 ^ 0 * x ≤ 2 ^ 142 * 2 ^ 0 * 128 := Nat.mul_le_mul_left _ hx2
        _ = 1 * 2 ^ 149 := by decide
        _ ≤ n * 2 ^ 149 := Nat.mul_le_mul_right _ hn1)
    have hhi : FP.Core.mag FP.Core.b32 (FP.Core.fdiv a b).toNat ≤ 144 * 8388608 := FP.Core.mag_le (e0 := -149) FP.Core.good_b32 hv (by omega) (by rw [FP.Core.qmin_b32]; decide) (by decide) (by
      rw [h144, FP.Core.qmin_b32, show ((-149 : Int) - -149).toNat = 0 from rfl]
      show n * 2 ^ 149 ≤ 2 ^ 166 * 2 ^ 0 * x
      have hx2 : 1 ≤ x := by omega
      have hn1 : n ≤ 131072 := by omega
      calc n * 2 ^ 149 ≤ 131072 * 2 ^ 149 := Nat.mul_le_mul_right _ hn1
        _ = 2 ^ 166 * 2 ^ 0 * 1 := by decide
        _ ≤ 2 ^ 166 * 2 ^ 0 * x := Nat.mul_le_mul_left _ hx2)
    have hsg : FP.Core.sgn (FP.Core.val32 (FP.Core.fdiv a b)) = false := by
      show FP.Core.sgn (FP.Core.decode FP.Core.b32 (FP.Core.fdiv a b).toNat) = _
      rw [hv]
      exact FP.Core.sgn_roundRatio _ _ _ _ _
    have hnn : FP.Core.val32 (FP.Core.fdiv a b) ≠ .nan := by
      show FP.Core.decode FP.Core.b32 (FP.Core.fdiv a b).toNat ≠ _
      rw [hv]
      exact FP.Core.roundRatio_ne_nan _ _ _ _ _
    rw [FP.Core.sgn_bits32 hnn] at hsg
    have hlt := of_decide_eq_false hsg
    rw [FP.Core.mag_toNat32] at hlo hhi
    exact FB.of (by show 8388608 ≤ (FP.Core.fdiv a b).toNat; omega) (by show (FP.Core.fdiv a b).toNat < 2139095040; omega)
theorem fi_int {a : Int} (h : -16777216 ≤ a ∧ a ≤ 16777216) : FP.Core.FInt a (FP.i2f (I a)) := by
  have h1 := FP.Core.i2f_int (a := I a) (by rw [I_toInt (by omega)]; omega)
  rw [I_toInt (by omega)] at h1
  exact h1
theorem fi_nn {a : Int} {f : UInt32} (h : FP.Core.FInt a f) : FP.Core.val32 f ≠ .nan := fun hh => by
  unfold FP.Core.FInt at h
  rw [hh] at h
  exact h
theorem fcs {f : UInt32} (h : FP.Core.val32 f ≠ .nan) : Op.cmpValue (FP.fcmp f f) .l = 0 := by
  rw [show FP.fcmp f f = some .eq from FP.Core.fcmp_self h]
  rfl
set_option maxHeartbeats 4000000 in
set_option maxRecDepth 100000 in
theorem n7_bo_67 {z : ZG} {d sz : Nat} {h : AH} {b f : UInt32} {c : Nat} {q0 : Int} {o3 : Option Value} (hb : FB b c q0) (hf : FB f c (-23)) : V z YX7_bitsOf (zroom d 0 0) (fun w h' sz' => w = some (.int b.toInt32) ∧ h' = h ∧ sz' = sz) 67 [some (.float b), some (.float f), some (.int (I (q0 + 150))), o3] [] h sz 0 0 := by
  obtain ⟨t1, t2, t3⟩ := hf.tail
  refine V_iload_n dX7_bitsOf_67 rfl ?_
  refine J_bipush dX7_bitsOf_68 (by decide) ?_
  refine V_ishl dX7_bitsOf_70 ?_
  refine V_fload_n dX7_bitsOf_71 rfl ?_
  refine V_fconst1 dX7_bitsOf_72 ?_
  refine V_fsub dX7_bitsOf_73 (fun f73 hf73 => ?_)
  obtain rfl := al_eq hf73 t1
  refine V_ldcwf dX7_bitsOf_74 cX7_301 ?_
  refine V_fmul dX7_bitsOf_77 (fun f77 hf77 => ?_)
  obtain rfl := al_eq hf77 t2
  refine V_f2i dX7_bitsOf_78 ?_
  rw [t3]
  refine V_iadd dX7_bitsOf_79 ?_
  rw [hb.word]
  exact V_iret dX7_bitsOf_80 rfl rfl ⟨Nat.zero_le _, Nat.zero_le _⟩ ⟨rfl, rfl, rfl⟩
set_option maxHeartbeats 4000000 in
set_option maxRecDepth 100000 in
theorem n7_bo_42 {z : ZG} {d sz : Nat} {h : AH} {b : UInt32} {c : Nat} {q0 : Int} (hb : FB b c q0) : ∀ (fu k : Nat) (f : UInt32) (q ex : Int), FB f c q → ex + q = 127 + q0 → q ≤ -23 → k ≤ 127 → (k : Int) - 149 ≤ q → 127 - k < fu → V z YX7_bitsOf (zroom d 0 0) (fun w h' sz' => w = some (.int b.toInt32) ∧ h' = h ∧ sz' = sz) 42 [some (.float b), some (.float f), some (.int (I ex)), some (.int (I (k : Int)))] [] h sz 0 0 := by
  intro fu
  induction fu with
  | zero => intro k f q ex hf hx hq h1 hk h2; omega
  | succ fu ih =>
    intro k f q ex hf hx hq h1 hk h2
    refine V_iload_n dX7_bitsOf_42 rfl ?_
    refine J_bipush dX7_bitsOf_43 (by decide) ?_
    refine J_icmp_ge (tgt := 67) dX7_bitsOf_45 (by decide) (by omega) (by omega) (fun c45 => ?_) (fun c45 => ?_)
    · omega
    · refine V_fload_n dX7_bitsOf_48 rfl ?_
      refine V_fconst1 dX7_bitsOf_49 ?_
      refine V_fcmp dX7_bitsOf_50 ?_
      obtain ⟨o, ho, ho1, ho2⟩ := hf.cmp fb_c1
      rw [ho]
      refine V_if_ge (tgt := 67) dX7_bitsOf_51 (by decide) (fun c51 => ?_) (fun c51 => ?_)
      · have hq2 : q = -23 := by
          by_cases hlt : q < -23
          · rw [ho1 hlt] at c51
            exact absurd c51 (by decide)
          · omega
        subst hq2
        obtain rfl : ex = q0 + 150 := by omega
        exact n7_bo_67 hb hf
      · have hlt : q < -23 := by
          by_cases hlt : q < -23
          · exact hlt
          · refine absurd ?_ c51
            have hne := ho2 (by omega)
            cases o with
            | lt => exact absurd rfl hne
            | eq => decide
            | gt => decide
        refine V_fload_n dX7_bitsOf_54 rfl ?_
        refine V_fconst2 dX7_bitsOf_55 ?_
        have hf2 := hf.dbl (by omega)
        refine V_fmul dX7_bitsOf_56 (fun f56 hf56 => ?_)
        obtain rfl := al_eq hf56 hf2.nn
        refine V_fstore_n dX7_bitsOf_57 (Nat.le_of_ble_eq_true rfl) ?_
        refine J_iinc dX7_bitsOf_58 rfl ?_
        refine J_iinc dX7_bitsOf_61 rfl ?_
        refine V_goto (tgt := 42) dX7_bitsOf_64 (by decide) ?_
        rw [show ((k : Int) + 1) = ((k + 1 : Nat) : Int) by omega]
        exact ih (k + 1) _ (q + 1) _ hf2 (by omega) (by omega) (by omega) (by omega) (by omega)
set_option maxHeartbeats 4000000 in
set_option maxRecDepth 100000 in
theorem n7_bo_15 {z : ZG} {d sz : Nat} {h : AH} {b : UInt32} {c : Nat} {q0 : Int} (hb : FB b c q0) : ∀ (fu k : Nat) (f : UInt32) (q ex : Int), FB f c q → ex + q = 127 + q0 → q + (k : Int) = q0 → k ≤ 127 → 127 - k < fu → V z YX7_bitsOf (zroom d 0 0) (fun w h' sz' => w = some (.int b.toInt32) ∧ h' = h ∧ sz' = sz) 15 [some (.float b), some (.float f), some (.int (I ex)), some (.int (I (k : Int)))] [] h sz 0 0 := by
  have hb4 := hb.2.2.2
  intro fu
  induction fu with
  | zero => intro k f q ex hf hx hq h1 h2; omega
  | succ fu ih =>
    intro k f q ex hf hx hq h1 h2
    have hf4 := hf.2.2.2
    refine V_iload_n dX7_bitsOf_15 rfl ?_
    refine J_bipush dX7_bitsOf_16 (by decide) ?_
    refine J_icmp_ge (tgt := 40) dX7_bitsOf_18 (by decide) (by omega) (by omega) (fun c18 => ?_) (fun c18 => ?_)
    · refine J_iconst dX7_bitsOf_40 ?_
      refine V_istore_n dX7_bitsOf_41 (Nat.le_of_ble_eq_true rfl) ?_
      exact n7_bo_42 hb 128 0 _ q _ hf hx (by omega) (by omega) (by omega) (by omega)
    · refine V_fload_n dX7_bitsOf_21 rfl ?_
      refine V_fconst2 dX7_bitsOf_22 ?_
      refine V_fcmp dX7_bitsOf_23 ?_
      obtain ⟨o, ho, ho1, ho2⟩ := hf.cmp fb_c2
      rw [ho]
      refine V_if_lt (tgt := 40) dX7_bitsOf_24 (by decide) (fun c24 => ?_) (fun c24 => ?_)
      · have hlt : q < -22 := by
          by_cases hlt : q < -22
          · exact hlt
          · exfalso
            have hne := ho2 (by omega)
            cases o with
            | lt => exact absurd rfl hne
            | eq => exact absurd c24 (by decide)
            | gt => exact absurd c24 (by decide)
        refine J_iconst dX7_bitsOf_40 ?_
        refine V_istore_n dX7_bitsOf_41 (Nat.le_of_ble_eq_true rfl) ?_
        exact n7_bo_42 hb 128 0 _ q _ hf hx (by omega) (by omega) (by omega) (by omega)
      · have hge : -22 ≤ q := by
          by_cases hlt : q < -22
          · rw [ho1 hlt] at c24
            exact absurd (by decide) c24
          · omega
        refine V_fload_n dX7_bitsOf_27 rfl ?_
        refine V_fconst2 dX7_bitsOf_28 ?_
        have hf2 := hf.half (by omega)
        refine V_fdiv dX7_bitsOf_29 (fun f29 hf29 => ?_)
        obtain rfl := al_eq hf29 hf2.nn
        refine V_fstore_n dX7_bitsOf_30 (Nat.le_of_ble_eq_true rfl) ?_
        refine J_iinc dX7_bitsOf_31 rfl ?_
        refine J_iinc dX7_bitsOf_34 rfl ?_
        refine V_goto (tgt := 15) dX7_bitsOf_37 (by decide) ?_
        rw [show ((k : Int) + 1) = ((k + 1 : Nat) : Int) by omega]
        exact ih (k + 1) _ (q - 1) _ hf2 (by omega) (by omega) (by omega) (by omega)
set_option maxHeartbeats 4000000 in
set_option maxRecDepth 100000 in
theorem n7_bitsOf {z : ZG} {d sz : Nat} {h : AH} {b : UInt32} {c : Nat} {q : Int} (hb : FB b c q) : M z YX7_bitsOf d 0 0 [.float b] h sz (fun w h' sz' => w = some (.int b.toInt32) ∧ h' = h ∧ sz' = sz) := by
  refine M.of (by decide +kernel) (Nat.le_of_ble_eq_true rfl) ?_
  refine V_fload_n dX7_bitsOf_0 rfl ?_
  refine V_fconst0 dX7_bitsOf_1 ?_
  refine V_fcmp dX7_bitsOf_2 ?_
  rw [hb.pos]
  refine V_if_gt (tgt := 8) dX7_bitsOf_3 (by decide) (fun c3 => ?_) (fun c3 => ?_)
  · refine V_fload_n dX7_bitsOf_8 rfl ?_
    refine V_fstore_n dX7_bitsOf_9 (Nat.le_of_ble_eq_true rfl) ?_
    refine J_bipush dX7_bitsOf_10 (by decide) ?_
    refine V_istore_n dX7_bitsOf_12 (Nat.le_of_ble_eq_true rfl) ?_
    refine J_iconst dX7_bitsOf_13 ?_
    refine V_istore_n dX7_bitsOf_14 (Nat.le_of_ble_eq_true rfl) ?_
    exact n7_bo_15 hb 128 0 _ q _ hb (by omega) (by omega) (by omega) (by omega)
  · exact absurd (by decide) c3
/-- the crossed gratings' spacing, as a float -/
def csV (pt x y : Int) : UInt32 := FP.fdiv (FP.fmul (FP.i2f (I pt)) (FP.i2f (I y))) (FP.i2f (I x))
theorem cs_int {pt y : Int} (hp : 8 ≤ pt ∧ pt ≤ 80) (hy : 1 ≤ y ∧ y ≤ 999) : (1 ≤ pt * y ∧ pt * y ≤ 79920) ∧ FP.Core.FInt (pt * y) (FP.fmul (FP.i2f (I pt)) (FP.i2f (I y))) := by
  have h1 : 1 * 1 ≤ pt * y := Int.mul_le_mul (by omega) hy.1 (by decide) (by omega)
  have h2 : pt * y ≤ 80 * 999 := Int.mul_le_mul hp.2 hy.2 (by omega) (by decide)
  exact ⟨⟨by omega, by omega⟩, FP.Core.fmul_int (fi_int (by omega)) (fi_int (by omega)) (by omega)⟩
theorem cs_fb {pt x y : Int} (hp : 8 ≤ pt ∧ pt ≤ 80) (hx : 1 ≤ x ∧ x ≤ 99) (hy : 1 ≤ y ∧ y ≤ 999) : ∃ c q, FB (csV pt x y) c q := by
  obtain ⟨h1, h2⟩ := cs_int hp hy
  exact fq_fb h2 (fi_int (by omega)) (by omega) (by omega)
theorem cs_of {pt x y : Int} {f1 f2 : UInt32} (hp : 8 ≤ pt ∧ pt ≤ 80) (hx : 1 ≤ x ∧ x ≤ 99) (hy : 1 ≤ y ∧ y ≤ 999) (h1 : alike32 f1 (FP.fmul (FP.i2f (I pt)) (FP.i2f (I y))) = true) (h2 : alike32 f2 (FP.fdiv f1 (FP.i2f (I x))) = true) : f2 = csV pt x y := by
  obtain rfl := al_eq h1 (fi_nn (cs_int hp hy).2)
  obtain ⟨c, q, hb⟩ := cs_fb hp hx hy
  exact al_eq h2 hb.nn
/-- what crossedSpacingBits says -/
def csR (pt x y : Int) : Int32 := if (1 ≤ x ∧ x ≤ 99) ∧ 1 ≤ y ∧ y ≤ 999 then (csV pt x y).toInt32 else I (-1)
set_option maxHeartbeats 4000000 in
set_option maxRecDepth 100000 in
theorem n7_crossedSpacingBits {z : ZG} {d sz s : Nat} {h : AH} {tn mn pt hn : Int} {TX MK N : Nat → Int} (hE : EN h s tn TX mn MK pt hn N) (hR : ER tn TX mn MK pt hn N) {x y : Int} (hvx : -2147483648 ≤ x ∧ x < 2147483648) (hvy : -2147483648 ≤ y ∧ y < 2147483648) : M z YX7_crossedSpacingBits (d + 1) 0 0 [.ref 0, .int (I x), .int (I y)] h sz (fun w h' sz' => w = some (.int (csR pt x y)) ∧ h' = h ∧ sz' = sz) := by
  refine M.of (by decide +kernel) (Nat.le_of_ble_eq_true rfl) ?_
  obtain ⟨rt, rx, rm, rmk, rp, rh, rn⟩ := hR
  refine V_iload_n dX7_crossedSpacingBits_0 rfl ?_
  refine J_iconst dX7_crossedSpacingBits_1 ?_
  refine J_bipush dX7_crossedSpacingBits_2 (by decide) ?_
  refine V_callS (Y' := YX7_within) dX7_crossedSpacingBits_4 lX7_74 gX7_within (m7_within (by omega) (by omega) (by omega)) rfl rfl (Nat.le_of_ble_eq_true rfl) ⟨Nat.zero_le _, Nat.zero_le _⟩ (fun v h1 sz1 hq => ?_)
  obtain ⟨t4, rfl, ht4, rfl, rfl⟩ := hq
  refine J_if_eq (tgt := 21) dX7_crossedSpacingBits_7 (by decide) (by omega) (fun c7 => ?_) (fun c7 => ?_)
  · refine J_iconst dX7_crossedSpacingBits_21 ?_
    exact V_iret dX7_crossedSpacingBits_22 rfl rfl ⟨Nat.zero_le _, Nat.zero_le _⟩ ⟨by unfold csR; rw [if_neg (by omega)], rfl, rfl⟩
  · refine V_iload_n dX7_crossedSpacingBits_10 rfl ?_
    refine J_iconst dX7_crossedSpacingBits_11 ?_
    refine J_sipush dX7_crossedSpacingBits_12 (by decide) ?_
    refine V_callS (Y' := YX7_within) dX7_crossedSpacingBits_15 lX7_74 gX7_within (m7_within (by omega) (by omega) (by omega)) rfl rfl (Nat.le_of_ble_eq_true rfl) ⟨Nat.zero_le _, Nat.zero_le _⟩ (fun v h1 sz1 hq => ?_)
    obtain ⟨t15, rfl, ht15, rfl, rfl⟩ := hq
    refine J_if_ne (tgt := 23) dX7_crossedSpacingBits_18 (by decide) (by omega) (fun c18 => ?_) (fun c18 => ?_)
    · have hx : 1 ≤ x ∧ x ≤ 99 := by omega
      have hy : 1 ≤ y ∧ y ≤ 999 := by omega
      obtain ⟨c, q, hb⟩ := cs_fb rp hx hy
      refine V_aload_n dX7_crossedSpacingBits_23 rfl ?_
      refine V_get dX7_crossedSpacingBits_24 fX7_108 hE.1 rfl ?_
      refine V_i2f dX7_crossedSpacingBits_27 ?_
      refine V_iload_n dX7_crossedSpacingBits_28 rfl ?_
      refine V_i2f dX7_crossedSpacingBits_29 ?_
      refine V_fmul dX7_crossedSpacingBits_30 (fun f30 hf30 => ?_)
      refine V_iload_n dX7_crossedSpacingBits_31 rfl ?_
      refine V_i2f dX7_crossedSpacingBits_32 ?_
      refine V_fdiv dX7_crossedSpacingBits_33 (fun f33 hf33 => ?_)
      obtain rfl := cs_of rp hx hy hf30 hf33
      refine V_callS (Y' := YX7_bitsOf) dX7_crossedSpacingBits_34 lX7_260 gX7_bitsOf (n7_bitsOf hb) rfl rfl (Nat.le_of_ble_eq_true rfl) ⟨Nat.zero_le _, Nat.zero_le _⟩ (fun v h1 sz1 hq => ?_)
      obtain ⟨rfl, rfl, rfl⟩ := hq
      exact V_iret dX7_crossedSpacingBits_37 rfl rfl ⟨Nat.zero_le _, Nat.zero_le _⟩ ⟨by unfold csR; rw [if_pos ⟨hx, hy⟩], rfl, rfl⟩
    · refine J_iconst dX7_crossedSpacingBits_21 ?_
      exact V_iret dX7_crossedSpacingBits_22 rfl rfl ⟨Nat.zero_le _, Nat.zero_le _⟩ ⟨by unfold csR; rw [if_neg (by omega)], rfl, rfl⟩
theorem n8_crossedSpacingBits {z : ZG} {d sz r n s : Nat} {g h : AH} {l sp nu rs rm sc mk km : Int} {T RA RD MA NW SD KP : Nat → Int} {x y : Int} (hsc : 8 ≤ sc ∧ sc ≤ 80) (hx : -2147483648 ≤ x ∧ x < 2147483648) (hy : -2147483648 ≤ y ∧ y < 2147483648) (hm : MS g r n s l sp nu rs rm sc mk km T RA RD MA NW SD KP h) : M z YX8_crossedSpacingBits (d + 2) 0 0 [.ref r, .int (I x), .int (I y)] h sz (fun w h' sz' => w = some (.int (csR sc x y)) ∧ h' = h ∧ sz' = sz) := by
  refine M.mono ?_ (m8_crossedSpacingBits hx hy hm)
  intro w h' sz' q
  obtain ⟨⟨v, rfl, hv⟩, rfl, rfl⟩ := q
  refine ⟨?_, rfl, rfl⟩
  rcases hv with ⟨a, rfl⟩ | ⟨a, f1, f2, b1, b2, b3⟩
  · unfold csR; rw [if_neg a]
  · have e := cs_of hsc a.1 a.2 b1 b2
    subst e
    obtain ⟨c, q, hb⟩ := cs_fb hsc a.1 a.2
    rw [b3 (fcs hb.nn)]
    unfold csR; rw [if_pos a]
