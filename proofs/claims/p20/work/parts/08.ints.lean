/-! INTS AS WHOLE NUMBERS: I i, J i; the rules of V over them -/
def I (i : Int) : Int32 := Int32.ofInt i
def J (i : Int) : Int64 := Int64.ofInt i
theorem I_add (a b : Int) : I a + I b = I (a + b) := (Int32.ofInt_add a b).symm
theorem I_sub (a b : Int) : I a - I b = I (a - b) := (Int32.ofInt_sub a b).symm
theorem I_mul (a b : Int) : I a * I b = I (a * b) := (Int32.ofInt_mul a b).symm
theorem J_add' (a b : Int) : J a + J b = J (a + b) := (Int64.ofInt_add a b).symm
theorem J_sub' (a b : Int) : J a - J b = J (a - b) := (Int64.ofInt_sub a b).symm
theorem I_toInt {a : Int} (h : -2147483648 ≤ a ∧ a < 2147483648) : (I a).toInt = a := Int32.toInt_ofInt_of_le (by omega) (by omega)
theorem J_toInt {a : Int} (h : -9223372036854775808 ≤ a ∧ a < 9223372036854775808) : (J a).toInt = a := Int64.toInt_ofInt_of_le (by omega) (by omega)
theorem I_lt {a b : Int} (ha : -2147483648 ≤ a ∧ a < 2147483648) (hb : -2147483648 ≤ b ∧ b < 2147483648) : I a < I b ↔ a < b := by rw [Int32.lt_iff_toInt_lt, I_toInt ha, I_toInt hb]
theorem I_le {a b : Int} (ha : -2147483648 ≤ a ∧ a < 2147483648) (hb : -2147483648 ≤ b ∧ b < 2147483648) : I a ≤ I b ↔ a ≤ b := by rw [Int32.le_iff_toInt_le, I_toInt ha, I_toInt hb]
theorem I_eq {a b : Int} (ha : -2147483648 ≤ a ∧ a < 2147483648) (hb : -2147483648 ≤ b ∧ b < 2147483648) : I a = I b ↔ a = b := by rw [← Int32.toInt_inj, I_toInt ha, I_toInt hb]
theorem J_lt' {a b : Int} (ha : -9223372036854775808 ≤ a ∧ a < 9223372036854775808) (hb : -9223372036854775808 ≤ b ∧ b < 9223372036854775808) : J a < J b ↔ a < b := by rw [Int64.lt_iff_toInt_lt, J_toInt ha, J_toInt hb]
theorem J_eq' {a b : Int} (ha : -9223372036854775808 ≤ a ∧ a < 9223372036854775808) (hb : -9223372036854775808 ≤ b ∧ b < 9223372036854775808) : J a = J b ↔ a = b := by rw [← Int64.toInt_inj, J_toInt ha, J_toInt hb]
theorem I_long {a : Int} (h : -2147483648 ≤ a ∧ a < 2147483648) : (I a).toInt64 = J a := by
  rw [← Int64.toInt_inj, Int32.toInt_toInt64, I_toInt h, J_toInt (by omega)]
theorem I_of (x : Int32) : ∃ a : Int, (-2147483648 ≤ a ∧ a < 2147483648) ∧ x = I a := ⟨x.toInt, ⟨x.le_toInt, x.toInt_lt⟩, (Int32.ofInt_toInt x).symm⟩
theorem J_of (x : Int64) : ∃ a : Int, (-9223372036854775808 ≤ a ∧ a < 9223372036854775808) ∧ x = J a := ⟨x.toInt, ⟨x.le_toInt, x.toInt_lt⟩, (Int64.ofInt_toInt x).symm⟩
theorem I_nat (n : Nat) : Int32.ofNat n = I n := (Int32.ofInt_eq_ofNat).symm
theorem I_clamp {a : Int} (h : -2147483648 ≤ a ∧ a < 2147483648) : (I a).toNatClampNeg = a.toNat := Int32.toNatClampNeg_ofInt_of_le (by omega) (by omega)
theorem I_in {a : Int} {n : Nat} (h : 0 ≤ a ∧ a < n) (hn : n < 2147483648) : vp_in (I a) n := by
  have h1 : ¬ I a < 0 := fun q => by have := (I_lt (a := a) (b := 0) (by omega) (by omega)).mp q; omega
  have h2 : (I a).toNatClampNeg = a.toNat := I_clamp (by omega)
  intro q
  rcases q with q | q
  · exact h1 q
  · rw [h2] at q; omega
theorem I_div {a b : Int} (ha : 0 ≤ a ∧ a < 2147483648) (hb : 0 < b ∧ b < 2147483648) : I a / I b = I (a / b) := by
  have h := pk_div (a := a.toNat) (d := b.toNat) (by omega) (by omega) (by omega)
  have e1 : nI a.toNat = I a := by rw [nI, I_nat]; congr 1; omega
  have e2 : nI b.toNat = I b := by rw [nI, I_nat]; congr 1; omega
  rw [e1, e2] at h
  rw [h, nI, I_nat]
  congr 1
  rw [Int.natCast_ediv]
  rw [Int.toNat_of_nonneg ha.1, Int.toNat_of_nonneg (by omega)]
theorem I_rem {a b : Int} (ha : 0 ≤ a ∧ a < 2147483648) (hb : 0 < b ∧ b < 2147483648) : I a - I a / I b * I b = I (a % b) := by
  rw [I_div ha hb, I_mul, I_sub]
  congr 1
  have := Int.emod_def a b
  rw [this, Int.mul_comm]
theorem I_8 {n : Int} (h : -128 ≤ n ∧ n ≤ 127) : (Int8.ofInt n).toInt32 = I n := Int8.toInt32_ofInt h.1 h.2
theorem I_16 {n : Int} (h : -32768 ≤ n ∧ n ≤ 32767) : (Int16.ofInt n).toInt32 = I n := Int16.toInt32_ofInt h.1 h.2
theorem I_bool (c : Prop) [Decidable c] : narrow .boolean (.int (I (if c then 1 else 0))) = .int (I (if c then 1 else 0)) := by split <;> rfl
section Jrules
variable {z : ZG} {Y : ZM} {R : Room} {Q : ZQ} {pc : Nat} {L : AL} {st : List Value} {h : AH} {sz kc nc : Nat}
theorem J_iadd {a b : Int} (hd : decode Y.2.1 pc = .ok (.iadd, 1)) (kk : V z Y R Q (pc + 1) L (.int (I (a + b)) :: st) h sz kc nc) : V z Y R Q pc L (.int (I b) :: .int (I a) :: st) h sz kc nc := V_iadd hd (by rw [I_add]; exact kk)
theorem J_isub {a b : Int} (hd : decode Y.2.1 pc = .ok (.isub, 1)) (kk : V z Y R Q (pc + 1) L (.int (I (a - b)) :: st) h sz kc nc) : V z Y R Q pc L (.int (I b) :: .int (I a) :: st) h sz kc nc := V_isub hd (by rw [I_sub]; exact kk)
theorem J_imul {a b : Int} (hd : decode Y.2.1 pc = .ok (.imul, 1)) (kk : V z Y R Q (pc + 1) L (.int (I (a * b)) :: st) h sz kc nc) : V z Y R Q pc L (.int (I b) :: .int (I a) :: st) h sz kc nc := V_imul hd (by rw [I_mul]; exact kk)
theorem J_idiv {a b : Int} (hd : decode Y.2.1 pc = .ok (.idiv, 1)) (ha : 0 ≤ a ∧ a < 2147483648) (hb : 0 < b ∧ b < 2147483648) (kk : V z Y R Q (pc + 1) L (.int (I (a / b)) :: st) h sz kc nc) : V z Y R Q pc L (.int (I b) :: .int (I a) :: st) h sz kc nc := V_idiv hd (fun q => by have := (I_eq (a := b) (b := 0) (by omega) (by omega)).mp q; omega) (by rw [I_div ha hb]; exact kk)
theorem J_irem {a b : Int} (hd : decode Y.2.1 pc = .ok (.irem, 1)) (ha : 0 ≤ a ∧ a < 2147483648) (hb : 0 < b ∧ b < 2147483648) (kk : V z Y R Q (pc + 1) L (.int (I (a % b)) :: st) h sz kc nc) : V z Y R Q pc L (.int (I b) :: .int (I a) :: st) h sz kc nc := V_irem hd (fun q => by have := (I_eq (a := b) (b := 0) (by omega) (by omega)).mp q; omega) (by rw [I_rem ha hb]; exact kk)
theorem J_ladd {a b : Int} (hd : decode Y.2.1 pc = .ok (.ladd, 1)) (kk : V z Y R Q (pc + 1) L (.long (J (a + b)) :: st) h sz kc nc) : V z Y R Q pc L (.long (J b) :: .long (J a) :: st) h sz kc nc := V_ladd hd (by rw [J_add']; exact kk)
theorem J_lsub {a b : Int} (hd : decode Y.2.1 pc = .ok (.lsub, 1)) (kk : V z Y R Q (pc + 1) L (.long (J (a - b)) :: st) h sz kc nc) : V z Y R Q pc L (.long (J b) :: .long (J a) :: st) h sz kc nc := V_lsub hd (by rw [J_sub']; exact kk)
theorem J_i2l {a : Int} (hd : decode Y.2.1 pc = .ok (.i2l, 1)) (ha : -2147483648 ≤ a ∧ a < 2147483648) (kk : V z Y R Q (pc + 1) L (.long (J a) :: st) h sz kc nc) : V z Y R Q pc L (.int (I a) :: st) h sz kc nc := V_i2l hd (by rw [I_long ha]; exact kk)
theorem J_iconst {n : Int} (hd : decode Y.2.1 pc = .ok (.iconst n, 1)) (kk : V z Y R Q (pc + 1) L (.int (I n) :: st) h sz kc nc) : V z Y R Q pc L st h sz kc nc := V_iconst hd kk
theorem J_bipush {n : Int} (hd : decode Y.2.1 pc = .ok (.bipush n, 2)) (hn : -128 ≤ n ∧ n ≤ 127) (kk : V z Y R Q (pc + 2) L (.int (I n) :: st) h sz kc nc) : V z Y R Q pc L st h sz kc nc := V_bipush hd (by rw [I_8 hn]; exact kk)
theorem J_sipush {n : Int} (hd : decode Y.2.1 pc = .ok (.sipush n, 3)) (hn : -32768 ≤ n ∧ n ≤ 32767) (kk : V z Y R Q (pc + 3) L (.int (I n) :: st) h sz kc nc) : V z Y R Q pc L st h sz kc nc := V_sipush hd (by rw [I_16 hn]; exact kk)
theorem J_lconst0 (hd : decode Y.2.1 pc = .ok (.lconst 0, 1)) (kk : V z Y R Q (pc + 1) L (.long (J 0) :: st) h sz kc nc) : V z Y R Q pc L st h sz kc nc := V_lconst hd kk
theorem J_lconst1 (hd : decode Y.2.1 pc = .ok (.lconst 1, 1)) (kk : V z Y R Q (pc + 1) L (.long (J 1) :: st) h sz kc nc) : V z Y R Q pc L st h sz kc nc := V_lconst hd kk
theorem J_ldc2 {i : Nat} {v : Int64} (a : Int) (hd : decode Y.2.1 pc = .ok (.ldc2_w i, 3)) (hw : Cond.constantLong Y.1.cls i v ∈ gw) (hv : v = J a) (kk : V z Y R Q (pc + 3) L (.long (J a) :: st) h sz kc nc) : V z Y R Q pc L st h sz kc nc := V_ldc2 hd hw (by rw [hv]; exact kk)
theorem J_ldc {i : Nat} {v : Int32} (a : Int) (hd : decode Y.2.1 pc = .ok (.ldc i, 2)) (hw : Cond.constant Y.1.cls i v ∈ gw) (hv : v = I a) (kk : V z Y R Q (pc + 2) L (.int (I a) :: st) h sz kc nc) : V z Y R Q pc L st h sz kc nc := V_ldc hd hw (by rw [hv]; exact kk)
theorem J_iinc {i : Nat} {n a : Int} (hd : decode Y.2.1 pc = .ok (.iinc i n, 3)) (hl : L[i]? = some (some (.int (I a)))) (kk : V z Y R Q (pc + 3) (zp1 L i (.int (I (a + n)))) st h sz kc nc) : V z Y R Q pc L st h sz kc nc := V_iinc hd hl (by rw [show I a + Int32.ofInt n = I (a + n) from I_add a n]; exact kk)
theorem J_icmp_eq {a b : Int} {off : Int} {tgt : Nat} (hd : decode Y.2.1 pc = .ok (.if_icmp .eq off, 3)) (ht : (pc : Int) + off = (tgt : Int)) (ha : -2147483648 ≤ a ∧ a < 2147483648) (hb : -2147483648 ≤ b ∧ b < 2147483648) (kt : a = b → V z Y R Q tgt L st h sz kc nc) (kf : ¬ a = b → V z Y R Q (pc + 3) L st h sz kc nc) : V z Y R Q pc L (.int (I b) :: .int (I a) :: st) h sz kc nc := V_icmp_eq hd ht (fun q => kt ((I_eq ha hb).mp q)) (fun q => kf (fun w => q ((I_eq ha hb).mpr w)))
theorem J_if_eq {a : Int} {off : Int} {tgt : Nat} (hd : decode Y.2.1 pc = .ok (.ifCond .eq off, 3)) (ht : (pc : Int) + off = (tgt : Int)) (ha : -2147483648 ≤ a ∧ a < 2147483648) (kt : a = 0 → V z Y R Q tgt L st h sz kc nc) (kf : ¬ a = 0 → V z Y R Q (pc + 3) L st h sz kc nc) : V z Y R Q pc L (.int (I a) :: st) h sz kc nc := V_if_eq hd ht (fun q => kt ((I_eq ha (by omega)).mp q)) (fun q => kf (fun w => q ((I_eq ha (by omega)).mpr w)))
theorem J_lcmp_eq {a b : Int} {off : Int} {tgt : Nat} (hd : decode Y.2.1 pc = .ok (.lcmp, 1)) (hd2 : decode Y.2.1 (pc + 1) = .ok (.ifCond .eq off, 3)) (ht : ((pc + 1 : Nat) : Int) + off = (tgt : Int)) (ha : -9223372036854775808 ≤ a ∧ a < 9223372036854775808) (hb : -9223372036854775808 ≤ b ∧ b < 9223372036854775808) (kt : a = b → V z Y R Q tgt L st h sz kc nc) (kf : ¬ a = b → V z Y R Q (pc + 1 + 3) L st h sz kc nc) : V z Y R Q pc L (.long (J b) :: .long (J a) :: st) h sz kc nc := by
  refine V_lcmp hd ?_
  have e : lg_cmp (J a) (J b) = I (if b < a then 1 else if a = b then 0 else -1) := by
    have h1 := J_lt' hb ha
    have h2 := J_eq' ha hb
    have h3 := J_lt' ha hb
    unfold lg_cmp
    by_cases q1 : b < a
    · simp [h1.mpr q1, q1]; rfl
    · by_cases q2 : a = b
      · subst q2; simp; rfl
      · have q3 : ¬ J b < J a := fun w => q1 (h1.mp w)
        have q4 : ¬ J a = J b := fun w => q2 (h2.mp w)
        simp [q1, q2, q3, q4]; rfl
  rw [e]
  refine J_if_eq hd2 ht (by split <;> (try split) <;> omega) (fun q => kt ?_) (fun q => kf ?_)
  · revert q; split <;> (try split) <;> omega
  · revert q; split <;> (try split) <;> omega
theorem J_icmp_ne {a b : Int} {off : Int} {tgt : Nat} (hd : decode Y.2.1 pc = .ok (.if_icmp .ne off, 3)) (ht : (pc : Int) + off = (tgt : Int)) (ha : -2147483648 ≤ a ∧ a < 2147483648) (hb : -2147483648 ≤ b ∧ b < 2147483648) (kt : ¬ a = b → V z Y R Q tgt L st h sz kc nc) (kf : a = b → V z Y R Q (pc + 3) L st h sz kc nc) : V z Y R Q pc L (.int (I b) :: .int (I a) :: st) h sz kc nc := V_icmp_ne hd ht (fun q => kt (fun w => q ((I_eq ha hb).mpr w))) (fun q => kf ((I_eq ha hb).mp q))
theorem J_if_ne {a : Int} {off : Int} {tgt : Nat} (hd : decode Y.2.1 pc = .ok (.ifCond .ne off, 3)) (ht : (pc : Int) + off = (tgt : Int)) (ha : -2147483648 ≤ a ∧ a < 2147483648) (kt : ¬ a = 0 → V z Y R Q tgt L st h sz kc nc) (kf : a = 0 → V z Y R Q (pc + 3) L st h sz kc nc) : V z Y R Q pc L (.int (I a) :: st) h sz kc nc := V_if_ne hd ht (fun q => kt (fun w => q ((I_eq ha (by omega)).mpr w))) (fun q => kf ((I_eq ha (by omega)).mp q))
theorem J_lcmp_ne {a b : Int} {off : Int} {tgt : Nat} (hd : decode Y.2.1 pc = .ok (.lcmp, 1)) (hd2 : decode Y.2.1 (pc + 1) = .ok (.ifCond .ne off, 3)) (ht : ((pc + 1 : Nat) : Int) + off = (tgt : Int)) (ha : -9223372036854775808 ≤ a ∧ a < 9223372036854775808) (hb : -9223372036854775808 ≤ b ∧ b < 9223372036854775808) (kt : ¬ a = b → V z Y R Q tgt L st h sz kc nc) (kf : a = b → V z Y R Q (pc + 1 + 3) L st h sz kc nc) : V z Y R Q pc L (.long (J b) :: .long (J a) :: st) h sz kc nc := by
  refine V_lcmp hd ?_
  have e : lg_cmp (J a) (J b) = I (if b < a then 1 else if a = b then 0 else -1) := by
    have h1 := J_lt' hb ha
    have h2 := J_eq' ha hb
    have h3 := J_lt' ha hb
    unfold lg_cmp
    by_cases q1 : b < a
    · simp [h1.mpr q1, q1]; rfl
    · by_cases q2 : a = b
      · subst q2; simp; rfl
      · have q3 : ¬ J b < J a := fun w => q1 (h1.mp w)
        have q4 : ¬ J a = J b := fun w => q2 (h2.mp w)
        simp [q1, q2, q3, q4]; rfl
  rw [e]
  refine J_if_ne hd2 ht (by split <;> (try split) <;> omega) (fun q => kt ?_) (fun q => kf ?_)
  · revert q; split <;> (try split) <;> omega
  · revert q; split <;> (try split) <;> omega
theorem J_icmp_lt {a b : Int} {off : Int} {tgt : Nat} (hd : decode Y.2.1 pc = .ok (.if_icmp .lt off, 3)) (ht : (pc : Int) + off = (tgt : Int)) (ha : -2147483648 ≤ a ∧ a < 2147483648) (hb : -2147483648 ≤ b ∧ b < 2147483648) (kt : a < b → V z Y R Q tgt L st h sz kc nc) (kf : ¬ a < b → V z Y R Q (pc + 3) L st h sz kc nc) : V z Y R Q pc L (.int (I b) :: .int (I a) :: st) h sz kc nc := V_icmp_lt hd ht (fun q => kt ((I_lt ha hb).mp q)) (fun q => kf (fun w => q ((I_lt ha hb).mpr w)))
theorem J_if_lt {a : Int} {off : Int} {tgt : Nat} (hd : decode Y.2.1 pc = .ok (.ifCond .lt off, 3)) (ht : (pc : Int) + off = (tgt : Int)) (ha : -2147483648 ≤ a ∧ a < 2147483648) (kt : a < 0 → V z Y R Q tgt L st h sz kc nc) (kf : ¬ a < 0 → V z Y R Q (pc + 3) L st h sz kc nc) : V z Y R Q pc L (.int (I a) :: st) h sz kc nc := V_if_lt hd ht (fun q => kt ((I_lt ha (by omega)).mp q)) (fun q => kf (fun w => q ((I_lt ha (by omega)).mpr w)))
theorem J_lcmp_lt {a b : Int} {off : Int} {tgt : Nat} (hd : decode Y.2.1 pc = .ok (.lcmp, 1)) (hd2 : decode Y.2.1 (pc + 1) = .ok (.ifCond .lt off, 3)) (ht : ((pc + 1 : Nat) : Int) + off = (tgt : Int)) (ha : -9223372036854775808 ≤ a ∧ a < 9223372036854775808) (hb : -9223372036854775808 ≤ b ∧ b < 9223372036854775808) (kt : a < b → V z Y R Q tgt L st h sz kc nc) (kf : ¬ a < b → V z Y R Q (pc + 1 + 3) L st h sz kc nc) : V z Y R Q pc L (.long (J b) :: .long (J a) :: st) h sz kc nc := by
  refine V_lcmp hd ?_
  have e : lg_cmp (J a) (J b) = I (if b < a then 1 else if a = b then 0 else -1) := by
    have h1 := J_lt' hb ha
    have h2 := J_eq' ha hb
    have h3 := J_lt' ha hb
    unfold lg_cmp
    by_cases q1 : b < a
    · simp [h1.mpr q1, q1]; rfl
    · by_cases q2 : a = b
      · subst q2; simp; rfl
      · have q3 : ¬ J b < J a := fun w => q1 (h1.mp w)
        have q4 : ¬ J a = J b := fun w => q2 (h2.mp w)
        simp [q1, q2, q3, q4]; rfl
  rw [e]
  refine J_if_lt hd2 ht (by split <;> (try split) <;> omega) (fun q => kt ?_) (fun q => kf ?_)
  · revert q; split <;> (try split) <;> omega
  · revert q; split <;> (try split) <;> omega
theorem J_icmp_ge {a b : Int} {off : Int} {tgt : Nat} (hd : decode Y.2.1 pc = .ok (.if_icmp .ge off, 3)) (ht : (pc : Int) + off = (tgt : Int)) (ha : -2147483648 ≤ a ∧ a < 2147483648) (hb : -2147483648 ≤ b ∧ b < 2147483648) (kt : b ≤ a → V z Y R Q tgt L st h sz kc nc) (kf : ¬ b ≤ a → V z Y R Q (pc + 3) L st h sz kc nc) : V z Y R Q pc L (.int (I b) :: .int (I a) :: st) h sz kc nc := V_icmp_ge hd ht (fun q => kt ((I_le hb ha).mp q)) (fun q => kf (fun w => q ((I_le hb ha).mpr w)))
theorem J_if_ge {a : Int} {off : Int} {tgt : Nat} (hd : decode Y.2.1 pc = .ok (.ifCond .ge off, 3)) (ht : (pc : Int) + off = (tgt : Int)) (ha : -2147483648 ≤ a ∧ a < 2147483648) (kt : 0 ≤ a → V z Y R Q tgt L st h sz kc nc) (kf : ¬ 0 ≤ a → V z Y R Q (pc + 3) L st h sz kc nc) : V z Y R Q pc L (.int (I a) :: st) h sz kc nc := V_if_ge hd ht (fun q => kt ((I_le (by omega) ha).mp q)) (fun q => kf (fun w => q ((I_le (by omega) ha).mpr w)))
theorem J_lcmp_ge {a b : Int} {off : Int} {tgt : Nat} (hd : decode Y.2.1 pc = .ok (.lcmp, 1)) (hd2 : decode Y.2.1 (pc + 1) = .ok (.ifCond .ge off, 3)) (ht : ((pc + 1 : Nat) : Int) + off = (tgt : Int)) (ha : -9223372036854775808 ≤ a ∧ a < 9223372036854775808) (hb : -9223372036854775808 ≤ b ∧ b < 9223372036854775808) (kt : ¬ a < b → V z Y R Q tgt L st h sz kc nc) (kf : a < b → V z Y R Q (pc + 1 + 3) L st h sz kc nc) : V z Y R Q pc L (.long (J b) :: .long (J a) :: st) h sz kc nc := by
  refine V_lcmp hd ?_
  have e : lg_cmp (J a) (J b) = I (if b < a then 1 else if a = b then 0 else -1) := by
    have h1 := J_lt' hb ha
    have h2 := J_eq' ha hb
    have h3 := J_lt' ha hb
    unfold lg_cmp
    by_cases q1 : b < a
    · simp [h1.mpr q1, q1]; rfl
    · by_cases q2 : a = b
      · subst q2; simp; rfl
      · have q3 : ¬ J b < J a := fun w => q1 (h1.mp w)
        have q4 : ¬ J a = J b := fun w => q2 (h2.mp w)
        simp [q1, q2, q3, q4]; rfl
  rw [e]
  refine J_if_ge hd2 ht (by split <;> (try split) <;> omega) (fun q => kt ?_) (fun q => kf ?_)
  · revert q; split <;> (try split) <;> omega
  · revert q; split <;> (try split) <;> omega
theorem J_icmp_gt {a b : Int} {off : Int} {tgt : Nat} (hd : decode Y.2.1 pc = .ok (.if_icmp .gt off, 3)) (ht : (pc : Int) + off = (tgt : Int)) (ha : -2147483648 ≤ a ∧ a < 2147483648) (hb : -2147483648 ≤ b ∧ b < 2147483648) (kt : b < a → V z Y R Q tgt L st h sz kc nc) (kf : ¬ b < a → V z Y R Q (pc + 3) L st h sz kc nc) : V z Y R Q pc L (.int (I b) :: .int (I a) :: st) h sz kc nc := V_icmp_gt hd ht (fun q => kt ((I_lt hb ha).mp q)) (fun q => kf (fun w => q ((I_lt hb ha).mpr w)))
theorem J_if_gt {a : Int} {off : Int} {tgt : Nat} (hd : decode Y.2.1 pc = .ok (.ifCond .gt off, 3)) (ht : (pc : Int) + off = (tgt : Int)) (ha : -2147483648 ≤ a ∧ a < 2147483648) (kt : 0 < a → V z Y R Q tgt L st h sz kc nc) (kf : ¬ 0 < a → V z Y R Q (pc + 3) L st h sz kc nc) : V z Y R Q pc L (.int (I a) :: st) h sz kc nc := V_if_gt hd ht (fun q => kt ((I_lt (by omega) ha).mp q)) (fun q => kf (fun w => q ((I_lt (by omega) ha).mpr w)))
theorem J_lcmp_gt {a b : Int} {off : Int} {tgt : Nat} (hd : decode Y.2.1 pc = .ok (.lcmp, 1)) (hd2 : decode Y.2.1 (pc + 1) = .ok (.ifCond .gt off, 3)) (ht : ((pc + 1 : Nat) : Int) + off = (tgt : Int)) (ha : -9223372036854775808 ≤ a ∧ a < 9223372036854775808) (hb : -9223372036854775808 ≤ b ∧ b < 9223372036854775808) (kt : b < a → V z Y R Q tgt L st h sz kc nc) (kf : ¬ b < a → V z Y R Q (pc + 1 + 3) L st h sz kc nc) : V z Y R Q pc L (.long (J b) :: .long (J a) :: st) h sz kc nc := by
  refine V_lcmp hd ?_
  have e : lg_cmp (J a) (J b) = I (if b < a then 1 else if a = b then 0 else -1) := by
    have h1 := J_lt' hb ha
    have h2 := J_eq' ha hb
    have h3 := J_lt' ha hb
    unfold lg_cmp
    by_cases q1 : b < a
    · simp [h1.mpr q1, q1]; rfl
    · by_cases q2 : a = b
      · subst q2; simp; rfl
      · have q3 : ¬ J b < J a := fun w => q1 (h1.mp w)
        have q4 : ¬ J a = J b := fun w => q2 (h2.mp w)
        simp [q1, q2, q3, q4]; rfl
  rw [e]
  refine J_if_gt hd2 ht (by split <;> (try split) <;> omega) (fun q => kt ?_) (fun q => kf ?_)
  · revert q; split <;> (try split) <;> omega
  · revert q; split <;> (try split) <;> omega
theorem J_icmp_le {a b : Int} {off : Int} {tgt : Nat} (hd : decode Y.2.1 pc = .ok (.if_icmp .le off, 3)) (ht : (pc : Int) + off = (tgt : Int)) (ha : -2147483648 ≤ a ∧ a < 2147483648) (hb : -2147483648 ≤ b ∧ b < 2147483648) (kt : a ≤ b → V z Y R Q tgt L st h sz kc nc) (kf : ¬ a ≤ b → V z Y R Q (pc + 3) L st h sz kc nc) : V z Y R Q pc L (.int (I b) :: .int (I a) :: st) h sz kc nc := V_icmp_le hd ht (fun q => kt ((I_le ha hb).mp q)) (fun q => kf (fun w => q ((I_le ha hb).mpr w)))
theorem J_if_le {a : Int} {off : Int} {tgt : Nat} (hd : decode Y.2.1 pc = .ok (.ifCond .le off, 3)) (ht : (pc : Int) + off = (tgt : Int)) (ha : -2147483648 ≤ a ∧ a < 2147483648) (kt : a ≤ 0 → V z Y R Q tgt L st h sz kc nc) (kf : ¬ a ≤ 0 → V z Y R Q (pc + 3) L st h sz kc nc) : V z Y R Q pc L (.int (I a) :: st) h sz kc nc := V_if_le hd ht (fun q => kt ((I_le ha (by omega)).mp q)) (fun q => kf (fun w => q ((I_le ha (by omega)).mpr w)))
theorem J_lcmp_le {a b : Int} {off : Int} {tgt : Nat} (hd : decode Y.2.1 pc = .ok (.lcmp, 1)) (hd2 : decode Y.2.1 (pc + 1) = .ok (.ifCond .le off, 3)) (ht : ((pc + 1 : Nat) : Int) + off = (tgt : Int)) (ha : -9223372036854775808 ≤ a ∧ a < 9223372036854775808) (hb : -9223372036854775808 ≤ b ∧ b < 9223372036854775808) (kt : ¬ b < a → V z Y R Q tgt L st h sz kc nc) (kf : b < a → V z Y R Q (pc + 1 + 3) L st h sz kc nc) : V z Y R Q pc L (.long (J b) :: .long (J a) :: st) h sz kc nc := by
  refine V_lcmp hd ?_
  have e : lg_cmp (J a) (J b) = I (if b < a then 1 else if a = b then 0 else -1) := by
    have h1 := J_lt' hb ha
    have h2 := J_eq' ha hb
    have h3 := J_lt' ha hb
    unfold lg_cmp
    by_cases q1 : b < a
    · simp [h1.mpr q1, q1]; rfl
    · by_cases q2 : a = b
      · subst q2; simp; rfl
      · have q3 : ¬ J b < J a := fun w => q1 (h1.mp w)
        have q4 : ¬ J a = J b := fun w => q2 (h2.mp w)
        simp [q1, q2, q3, q4]; rfl
  rw [e]
  refine J_if_le hd2 ht (by split <;> (try split) <;> omega) (fun q => kt ?_) (fun q => kf ?_)
  · revert q; split <;> (try split) <;> omega
  · revert q; split <;> (try split) <;> omega
/-- a row of n ints at a, told by f as far as it goes -/
def ar (h : AH) (a n : Nat) (f : Nat → Int) : Prop := ∃ u : Nat → Int32, h a = some (.inr (n, .inl u)) ∧ ∀ j, j < n → u j = I (f j)
theorem ar.to {h : AH} {a n : Nat} {f f2 : Nat → Int} (ha : ar h a n f) (e : ∀ j, j < n → f j = f2 j) : ar h a n f2 := by
  obtain ⟨u, h1, h2⟩ := ha
  exact ⟨u, h1, fun j hj => by rw [h2 j hj, e j hj]⟩
theorem ar.kept {h h2 : AH} {a n : Nat} {f : Nat → Int} (ha : ar h a n f) (e : h2 a = h a) : ar h2 a n f := by
  obtain ⟨u, h1, h3⟩ := ha
  exact ⟨u, e.trans h1, h3⟩
theorem J_iald {a n : Nat} {f : Nat → Int} {i : Int} (hd : decode Y.2.1 pc = .ok (.iaload, 1)) (he : ar h a n f) (hi : 0 ≤ i ∧ i < n) (hn : n < 2147483648) (kk : V z Y R Q (pc + 1) L (.int (I (f i.toNat)) :: st) h sz kc nc) : V z Y R Q pc L (.int (I i) :: .ref a :: st) h sz kc nc := by
  obtain ⟨u, h1, h2⟩ := he
  exact V_iald hd h1 (I_in hi hn) (by rw [I_clamp (by omega), h2 i.toNat (by omega)]; exact kk)
theorem J_iast {a n : Nat} {f : Nat → Int} {i x : Int} (hd : decode Y.2.1 pc = .ok (.iastore, 1)) (he : ar h a n f) (hi : 0 ≤ i ∧ i < n) (hn : n < 2147483648) (kk : ∀ h' : AH, ar h' a n (va_up f i.toNat x) → (∀ q, q ≠ a → h' q = h q) → V z Y R Q (pc + 1) L st h' sz kc nc) : V z Y R Q pc L (.int (I x) :: .int (I i) :: .ref a :: st) h sz kc nc := by
  obtain ⟨u, h1, h2⟩ := he
  refine V_iast hd h1 (I_in hi hn) (kk _ ⟨_, hset_s, fun j hj => ?_⟩ (fun q hq => hset_n hq))
  rw [I_clamp (by omega)]
  simp only [upd, va_up]
  split
  · rfl
  · exact h2 j hj
end Jrules
/-- the reference: its object at r, its rows; below r the heap is g -/
def MS (g : AH) (r n s : Nat) (l sp nu rs rm sc mk km : Int) (T RA RD MA NW SD KP : Nat → Int) (h : AH) : Prop :=
  h r = some (.inl (8, [.ref (r + 1), .int (I l), .int (I sp), .int (I nu), .int (I rs), .int (I rm), .ref (r + 2), .ref (r + 3), .int (I sc), .int (I mk), .ref (r + 4), .ref n, .ref s, .ref (r + 7), .int (I km)])) ∧
  (ar h (r + 1) 200 T ∧ ar h (r + 2) 6 RA ∧ ar h (r + 3) 42 RD ∧ ar h (r + 4) 6 MA ∧ ar h (n) 42 NW ∧ ar h (s) 42 SD ∧ ar h (r + 7) 252 KP) ∧
  ((n = r + 5 ∧ s = r + 6) ∨ (n = r + 6 ∧ s = r + 5)) ∧ ∀ x : Nat, x < r → h x = g x
section Rrules
variable {z : ZG} {Y : ZM} {R : Room} {Q : ZQ} {pc : Nat} {L : AL} {st : List Value} {h g : AH} {sz kc nc r n s : Nat} {l sp nu rs rm sc mk km : Int} {T RA RD MA NW SD KP : Nat → Int}
theorem MS.aT (hm : MS g r n s l sp nu rs rm sc mk km T RA RD MA NW SD KP h) : ar h (r + 1) 200 T := hm.2.1.1
theorem MS.eT {f2 : Nat → Int} (hm : MS g r n s l sp nu rs rm sc mk km T RA RD MA NW SD KP h) (e : ∀ j, j < 200 → T j = f2 j) : MS g r n s l sp nu rs rm sc mk km f2 RA RD MA NW SD KP h := by
  obtain ⟨h0, ⟨p0, p1, p2, p3, p4, p5, p6⟩, h8, h9⟩ := hm
  exact ⟨h0, ⟨p0.to e, p1, p2, p3, p4, p5, p6⟩, h8, h9⟩
theorem MS.aRA (hm : MS g r n s l sp nu rs rm sc mk km T RA RD MA NW SD KP h) : ar h (r + 2) 6 RA := hm.2.1.2.1
theorem MS.eRA {f2 : Nat → Int} (hm : MS g r n s l sp nu rs rm sc mk km T RA RD MA NW SD KP h) (e : ∀ j, j < 6 → RA j = f2 j) : MS g r n s l sp nu rs rm sc mk km T f2 RD MA NW SD KP h := by
  obtain ⟨h0, ⟨p0, p1, p2, p3, p4, p5, p6⟩, h8, h9⟩ := hm
  exact ⟨h0, ⟨p0, p1.to e, p2, p3, p4, p5, p6⟩, h8, h9⟩
theorem MS.aRD (hm : MS g r n s l sp nu rs rm sc mk km T RA RD MA NW SD KP h) : ar h (r + 3) 42 RD := hm.2.1.2.2.1
theorem MS.eRD {f2 : Nat → Int} (hm : MS g r n s l sp nu rs rm sc mk km T RA RD MA NW SD KP h) (e : ∀ j, j < 42 → RD j = f2 j) : MS g r n s l sp nu rs rm sc mk km T RA f2 MA NW SD KP h := by
  obtain ⟨h0, ⟨p0, p1, p2, p3, p4, p5, p6⟩, h8, h9⟩ := hm
  exact ⟨h0, ⟨p0, p1, p2.to e, p3, p4, p5, p6⟩, h8, h9⟩
theorem MS.aMA (hm : MS g r n s l sp nu rs rm sc mk km T RA RD MA NW SD KP h) : ar h (r + 4) 6 MA := hm.2.1.2.2.2.1
theorem MS.eMA {f2 : Nat → Int} (hm : MS g r n s l sp nu rs rm sc mk km T RA RD MA NW SD KP h) (e : ∀ j, j < 6 → MA j = f2 j) : MS g r n s l sp nu rs rm sc mk km T RA RD f2 NW SD KP h := by
  obtain ⟨h0, ⟨p0, p1, p2, p3, p4, p5, p6⟩, h8, h9⟩ := hm
  exact ⟨h0, ⟨p0, p1, p2, p3.to e, p4, p5, p6⟩, h8, h9⟩
theorem MS.aNW (hm : MS g r n s l sp nu rs rm sc mk km T RA RD MA NW SD KP h) : ar h (n) 42 NW := hm.2.1.2.2.2.2.1
theorem MS.eNW {f2 : Nat → Int} (hm : MS g r n s l sp nu rs rm sc mk km T RA RD MA NW SD KP h) (e : ∀ j, j < 42 → NW j = f2 j) : MS g r n s l sp nu rs rm sc mk km T RA RD MA f2 SD KP h := by
  obtain ⟨h0, ⟨p0, p1, p2, p3, p4, p5, p6⟩, h8, h9⟩ := hm
  exact ⟨h0, ⟨p0, p1, p2, p3, p4.to e, p5, p6⟩, h8, h9⟩
theorem MS.aSD (hm : MS g r n s l sp nu rs rm sc mk km T RA RD MA NW SD KP h) : ar h (s) 42 SD := hm.2.1.2.2.2.2.2.1
theorem MS.eSD {f2 : Nat → Int} (hm : MS g r n s l sp nu rs rm sc mk km T RA RD MA NW SD KP h) (e : ∀ j, j < 42 → SD j = f2 j) : MS g r n s l sp nu rs rm sc mk km T RA RD MA NW f2 KP h := by
  obtain ⟨h0, ⟨p0, p1, p2, p3, p4, p5, p6⟩, h8, h9⟩ := hm
  exact ⟨h0, ⟨p0, p1, p2, p3, p4, p5.to e, p6⟩, h8, h9⟩
theorem MS.aKP (hm : MS g r n s l sp nu rs rm sc mk km T RA RD MA NW SD KP h) : ar h (r + 7) 252 KP := hm.2.1.2.2.2.2.2.2
theorem MS.eKP {f2 : Nat → Int} (hm : MS g r n s l sp nu rs rm sc mk km T RA RD MA NW SD KP h) (e : ∀ j, j < 252 → KP j = f2 j) : MS g r n s l sp nu rs rm sc mk km T RA RD MA NW SD f2 h := by
  obtain ⟨h0, ⟨p0, p1, p2, p3, p4, p5, p6⟩, h8, h9⟩ := hm
  exact ⟨h0, ⟨p0, p1, p2, p3, p4, p5, p6.to e⟩, h8, h9⟩
theorem R_put_1 {i : Nat} {x : Int} (hd : decode Y.2.1 pc = .ok (.putfield i, 3)) (hw : ZF Y.1.cls i 8 1) (hm : MS g r n s l sp nu rs rm sc mk km T RA RD MA NW SD KP h) (kk : ∀ h' : AH, MS g r n s x sp nu rs rm sc mk km T RA RD MA NW SD KP h' → V z Y R Q (pc + 3) L st h' sz kc nc) : V z Y R Q pc L (.int (I x) :: .ref r :: st) h sz kc nc := by
  refine V_put hd hw tX8_1 hm.1 (Nat.le_of_ble_eq_true rfl) rfl rfl (kk _ ?_)
  obtain ⟨h0, ⟨h1, h2, h3, h4, h5, h6, h7⟩, h8, h9⟩ := hm
  have hn : n ≠ r ∧ s ≠ r := by omega
  exact ⟨hset_s, ⟨h1.kept (hset_n (by omega)), h2.kept (hset_n (by omega)), h3.kept (hset_n (by omega)), h4.kept (hset_n (by omega)), h5.kept (hset_n hn.1), h6.kept (hset_n hn.2), h7.kept (hset_n (by omega))⟩, h8, fun x hx => (hset_n (by omega)).trans (h9 x hx)⟩
theorem R_put_2 {i : Nat} {x : Int} (hd : decode Y.2.1 pc = .ok (.putfield i, 3)) (hw : ZF Y.1.cls i 8 2) (hm : MS g r n s l sp nu rs rm sc mk km T RA RD MA NW SD KP h) (kk : ∀ h' : AH, MS g r n s l x nu rs rm sc mk km T RA RD MA NW SD KP h' → V z Y R Q (pc + 3) L st h' sz kc nc) : V z Y R Q pc L (.int (I x) :: .ref r :: st) h sz kc nc := by
  refine V_put hd hw tX8_2 hm.1 (Nat.le_of_ble_eq_true rfl) rfl rfl (kk _ ?_)
  obtain ⟨h0, ⟨h1, h2, h3, h4, h5, h6, h7⟩, h8, h9⟩ := hm
  have hn : n ≠ r ∧ s ≠ r := by omega
  exact ⟨hset_s, ⟨h1.kept (hset_n (by omega)), h2.kept (hset_n (by omega)), h3.kept (hset_n (by omega)), h4.kept (hset_n (by omega)), h5.kept (hset_n hn.1), h6.kept (hset_n hn.2), h7.kept (hset_n (by omega))⟩, h8, fun x hx => (hset_n (by omega)).trans (h9 x hx)⟩
theorem R_put_3 {i : Nat} {x : Int} (hd : decode Y.2.1 pc = .ok (.putfield i, 3)) (hw : ZF Y.1.cls i 8 3) (hm : MS g r n s l sp nu rs rm sc mk km T RA RD MA NW SD KP h) (kk : ∀ h' : AH, MS g r n s l sp x rs rm sc mk km T RA RD MA NW SD KP h' → V z Y R Q (pc + 3) L st h' sz kc nc) : V z Y R Q pc L (.int (I x) :: .ref r :: st) h sz kc nc := by
  refine V_put hd hw tX8_3 hm.1 (Nat.le_of_ble_eq_true rfl) rfl rfl (kk _ ?_)
  obtain ⟨h0, ⟨h1, h2, h3, h4, h5, h6, h7⟩, h8, h9⟩ := hm
  have hn : n ≠ r ∧ s ≠ r := by omega
  exact ⟨hset_s, ⟨h1.kept (hset_n (by omega)), h2.kept (hset_n (by omega)), h3.kept (hset_n (by omega)), h4.kept (hset_n (by omega)), h5.kept (hset_n hn.1), h6.kept (hset_n hn.2), h7.kept (hset_n (by omega))⟩, h8, fun x hx => (hset_n (by omega)).trans (h9 x hx)⟩
theorem R_put_4 {i : Nat} {x : Int} (hd : decode Y.2.1 pc = .ok (.putfield i, 3)) (hw : ZF Y.1.cls i 8 4) (hm : MS g r n s l sp nu rs rm sc mk km T RA RD MA NW SD KP h) (kk : ∀ h' : AH, MS g r n s l sp nu x rm sc mk km T RA RD MA NW SD KP h' → V z Y R Q (pc + 3) L st h' sz kc nc) : V z Y R Q pc L (.int (I x) :: .ref r :: st) h sz kc nc := by
  refine V_put hd hw tX8_4 hm.1 (Nat.le_of_ble_eq_true rfl) rfl rfl (kk _ ?_)
  obtain ⟨h0, ⟨h1, h2, h3, h4, h5, h6, h7⟩, h8, h9⟩ := hm
  have hn : n ≠ r ∧ s ≠ r := by omega
  exact ⟨hset_s, ⟨h1.kept (hset_n (by omega)), h2.kept (hset_n (by omega)), h3.kept (hset_n (by omega)), h4.kept (hset_n (by omega)), h5.kept (hset_n hn.1), h6.kept (hset_n hn.2), h7.kept (hset_n (by omega))⟩, h8, fun x hx => (hset_n (by omega)).trans (h9 x hx)⟩
theorem R_put_5 {i : Nat} {x : Int} (hd : decode Y.2.1 pc = .ok (.putfield i, 3)) (hw : ZF Y.1.cls i 8 5) (hm : MS g r n s l sp nu rs rm sc mk km T RA RD MA NW SD KP h) (kk : ∀ h' : AH, MS g r n s l sp nu rs x sc mk km T RA RD MA NW SD KP h' → V z Y R Q (pc + 3) L st h' sz kc nc) : V z Y R Q pc L (.int (I x) :: .ref r :: st) h sz kc nc := by
  refine V_put hd hw tX8_5 hm.1 (Nat.le_of_ble_eq_true rfl) rfl rfl (kk _ ?_)
  obtain ⟨h0, ⟨h1, h2, h3, h4, h5, h6, h7⟩, h8, h9⟩ := hm
  have hn : n ≠ r ∧ s ≠ r := by omega
  exact ⟨hset_s, ⟨h1.kept (hset_n (by omega)), h2.kept (hset_n (by omega)), h3.kept (hset_n (by omega)), h4.kept (hset_n (by omega)), h5.kept (hset_n hn.1), h6.kept (hset_n hn.2), h7.kept (hset_n (by omega))⟩, h8, fun x hx => (hset_n (by omega)).trans (h9 x hx)⟩
theorem R_put_8 {i : Nat} {x : Int} (hd : decode Y.2.1 pc = .ok (.putfield i, 3)) (hw : ZF Y.1.cls i 8 8) (hm : MS g r n s l sp nu rs rm sc mk km T RA RD MA NW SD KP h) (kk : ∀ h' : AH, MS g r n s l sp nu rs rm x mk km T RA RD MA NW SD KP h' → V z Y R Q (pc + 3) L st h' sz kc nc) : V z Y R Q pc L (.int (I x) :: .ref r :: st) h sz kc nc := by
  refine V_put hd hw tX8_8 hm.1 (Nat.le_of_ble_eq_true rfl) rfl rfl (kk _ ?_)
  obtain ⟨h0, ⟨h1, h2, h3, h4, h5, h6, h7⟩, h8, h9⟩ := hm
  have hn : n ≠ r ∧ s ≠ r := by omega
  exact ⟨hset_s, ⟨h1.kept (hset_n (by omega)), h2.kept (hset_n (by omega)), h3.kept (hset_n (by omega)), h4.kept (hset_n (by omega)), h5.kept (hset_n hn.1), h6.kept (hset_n hn.2), h7.kept (hset_n (by omega))⟩, h8, fun x hx => (hset_n (by omega)).trans (h9 x hx)⟩
theorem R_put_9 {i : Nat} {x : Int} (hd : decode Y.2.1 pc = .ok (.putfield i, 3)) (hw : ZF Y.1.cls i 8 9) (hm : MS g r n s l sp nu rs rm sc mk km T RA RD MA NW SD KP h) (kk : ∀ h' : AH, MS g r n s l sp nu rs rm sc x km T RA RD MA NW SD KP h' → V z Y R Q (pc + 3) L st h' sz kc nc) : V z Y R Q pc L (.int (I x) :: .ref r :: st) h sz kc nc := by
  refine V_put hd hw tX8_9 hm.1 (Nat.le_of_ble_eq_true rfl) rfl rfl (kk _ ?_)
  obtain ⟨h0, ⟨h1, h2, h3, h4, h5, h6, h7⟩, h8, h9⟩ := hm
  have hn : n ≠ r ∧ s ≠ r := by omega
  exact ⟨hset_s, ⟨h1.kept (hset_n (by omega)), h2.kept (hset_n (by omega)), h3.kept (hset_n (by omega)), h4.kept (hset_n (by omega)), h5.kept (hset_n hn.1), h6.kept (hset_n hn.2), h7.kept (hset_n (by omega))⟩, h8, fun x hx => (hset_n (by omega)).trans (h9 x hx)⟩
theorem R_put_14 {i : Nat} {x : Int} (hd : decode Y.2.1 pc = .ok (.putfield i, 3)) (hw : ZF Y.1.cls i 8 14) (hm : MS g r n s l sp nu rs rm sc mk km T RA RD MA NW SD KP h) (kk : ∀ h' : AH, MS g r n s l sp nu rs rm sc mk x T RA RD MA NW SD KP h' → V z Y R Q (pc + 3) L st h' sz kc nc) : V z Y R Q pc L (.int (I x) :: .ref r :: st) h sz kc nc := by
  refine V_put hd hw tX8_14 hm.1 (Nat.le_of_ble_eq_true rfl) rfl rfl (kk _ ?_)
  obtain ⟨h0, ⟨h1, h2, h3, h4, h5, h6, h7⟩, h8, h9⟩ := hm
  have hn : n ≠ r ∧ s ≠ r := by omega
  exact ⟨hset_s, ⟨h1.kept (hset_n (by omega)), h2.kept (hset_n (by omega)), h3.kept (hset_n (by omega)), h4.kept (hset_n (by omega)), h5.kept (hset_n hn.1), h6.kept (hset_n hn.2), h7.kept (hset_n (by omega))⟩, h8, fun x hx => (hset_n (by omega)).trans (h9 x hx)⟩
theorem R_ast_T {i x : Int} (hd : decode Y.2.1 pc = .ok (.iastore, 1)) (hm : MS g r n s l sp nu rs rm sc mk km T RA RD MA NW SD KP h) (hi : 0 ≤ i ∧ i < 200) (kk : ∀ h' : AH, MS g r n s l sp nu rs rm sc mk km (va_up T i.toNat x) RA RD MA NW SD KP h' → V z Y R Q (pc + 1) L st h' sz kc nc) : V z Y R Q pc L (.int (I x) :: .int (I i) :: .ref (r + 1) :: st) h sz kc nc := by
  refine J_iast hd hm.aT hi (Nat.le_of_ble_eq_true rfl) (fun h2 ha ho => kk h2 ?_)
  obtain ⟨h0, ⟨h1, h22, h3, h4, h5, h6, h7⟩, h8, h9⟩ := hm
  have hn : n ≠ r ∧ s ≠ r ∧ n ≠ s ∧ n ≠ r + 1 ∧ n ≠ r + 2 ∧ n ≠ r + 3 ∧ n ≠ r + 4 ∧ n ≠ r + 7 ∧ s ≠ r + 1 ∧ s ≠ r + 2 ∧ s ≠ r + 3 ∧ s ≠ r + 4 ∧ s ≠ r + 7 := by omega
  exact ⟨(ho _ (by omega)).trans h0, ⟨ha, h22.kept (ho _ (by omega)), h3.kept (ho _ (by omega)), h4.kept (ho _ (by omega)), h5.kept (ho _ (by omega)), h6.kept (ho _ (by omega)), h7.kept (ho _ (by omega))⟩, h8, fun x hx => (ho _ (by omega)).trans (h9 x hx)⟩
theorem R_ald_T {i : Int} (hd : decode Y.2.1 pc = .ok (.iaload, 1)) (hm : MS g r n s l sp nu rs rm sc mk km T RA RD MA NW SD KP h) (hi : 0 ≤ i ∧ i < 200) (kk : V z Y R Q (pc + 1) L (.int (I (T i.toNat)) :: st) h sz kc nc) : V z Y R Q pc L (.int (I i) :: .ref (r + 1) :: st) h sz kc nc := J_iald hd hm.aT hi (Nat.le_of_ble_eq_true rfl) kk
theorem R_ast_RA {i x : Int} (hd : decode Y.2.1 pc = .ok (.iastore, 1)) (hm : MS g r n s l sp nu rs rm sc mk km T RA RD MA NW SD KP h) (hi : 0 ≤ i ∧ i < 6) (kk : ∀ h' : AH, MS g r n s l sp nu rs rm sc mk km T (va_up RA i.toNat x) RD MA NW SD KP h' → V z Y R Q (pc + 1) L st h' sz kc nc) : V z Y R Q pc L (.int (I x) :: .int (I i) :: .ref (r + 2) :: st) h sz kc nc := by
  refine J_iast hd hm.aRA hi (Nat.le_of_ble_eq_true rfl) (fun h2 ha ho => kk h2 ?_)
  obtain ⟨h0, ⟨h1, h22, h3, h4, h5, h6, h7⟩, h8, h9⟩ := hm
  have hn : n ≠ r ∧ s ≠ r ∧ n ≠ s ∧ n ≠ r + 1 ∧ n ≠ r + 2 ∧ n ≠ r + 3 ∧ n ≠ r + 4 ∧ n ≠ r + 7 ∧ s ≠ r + 1 ∧ s ≠ r + 2 ∧ s ≠ r + 3 ∧ s ≠ r + 4 ∧ s ≠ r + 7 := by omega
  exact ⟨(ho _ (by omega)).trans h0, ⟨h1.kept (ho _ (by omega)), ha, h3.kept (ho _ (by omega)), h4.kept (ho _ (by omega)), h5.kept (ho _ (by omega)), h6.kept (ho _ (by omega)), h7.kept (ho _ (by omega))⟩, h8, fun x hx => (ho _ (by omega)).trans (h9 x hx)⟩
theorem R_ald_RA {i : Int} (hd : decode Y.2.1 pc = .ok (.iaload, 1)) (hm : MS g r n s l sp nu rs rm sc mk km T RA RD MA NW SD KP h) (hi : 0 ≤ i ∧ i < 6) (kk : V z Y R Q (pc + 1) L (.int (I (RA i.toNat)) :: st) h sz kc nc) : V z Y R Q pc L (.int (I i) :: .ref (r + 2) :: st) h sz kc nc := J_iald hd hm.aRA hi (Nat.le_of_ble_eq_true rfl) kk
theorem R_ast_RD {i x : Int} (hd : decode Y.2.1 pc = .ok (.iastore, 1)) (hm : MS g r n s l sp nu rs rm sc mk km T RA RD MA NW SD KP h) (hi : 0 ≤ i ∧ i < 42) (kk : ∀ h' : AH, MS g r n s l sp nu rs rm sc mk km T RA (va_up RD i.toNat x) MA NW SD KP h' → V z Y R Q (pc + 1) L st h' sz kc nc) : V z Y R Q pc L (.int (I x) :: .int (I i) :: .ref (r + 3) :: st) h sz kc nc := by
  refine J_iast hd hm.aRD hi (Nat.le_of_ble_eq_true rfl) (fun h2 ha ho => kk h2 ?_)
  obtain ⟨h0, ⟨h1, h22, h3, h4, h5, h6, h7⟩, h8, h9⟩ := hm
  have hn : n ≠ r ∧ s ≠ r ∧ n ≠ s ∧ n ≠ r + 1 ∧ n ≠ r + 2 ∧ n ≠ r + 3 ∧ n ≠ r + 4 ∧ n ≠ r + 7 ∧ s ≠ r + 1 ∧ s ≠ r + 2 ∧ s ≠ r + 3 ∧ s ≠ r + 4 ∧ s ≠ r + 7 := by omega
  exact ⟨(ho _ (by omega)).trans h0, ⟨h1.kept (ho _ (by omega)), h22.kept (ho _ (by omega)), ha, h4.kept (ho _ (by omega)), h5.kept (ho _ (by omega)), h6.kept (ho _ (by omega)), h7.kept (ho _ (by omega))⟩, h8, fun x hx => (ho _ (by omega)).trans (h9 x hx)⟩
theorem R_ald_RD {i : Int} (hd : decode Y.2.1 pc = .ok (.iaload, 1)) (hm : MS g r n s l sp nu rs rm sc mk km T RA RD MA NW SD KP h) (hi : 0 ≤ i ∧ i < 42) (kk : V z Y R Q (pc + 1) L (.int (I (RD i.toNat)) :: st) h sz kc nc) : V z Y R Q pc L (.int (I i) :: .ref (r + 3) :: st) h sz kc nc := J_iald hd hm.aRD hi (Nat.le_of_ble_eq_true rfl) kk
theorem R_ast_MA {i x : Int} (hd : decode Y.2.1 pc = .ok (.iastore, 1)) (hm : MS g r n s l sp nu rs rm sc mk km T RA RD MA NW SD KP h) (hi : 0 ≤ i ∧ i < 6) (kk : ∀ h' : AH, MS g r n s l sp nu rs rm sc mk km T RA RD (va_up MA i.toNat x) NW SD KP h' → V z Y R Q (pc + 1) L st h' sz kc nc) : V z Y R Q pc L (.int (I x) :: .int (I i) :: .ref (r + 4) :: st) h sz kc nc := by
  refine J_iast hd hm.aMA hi (Nat.le_of_ble_eq_true rfl) (fun h2 ha ho => kk h2 ?_)
  obtain ⟨h0, ⟨h1, h22, h3, h4, h5, h6, h7⟩, h8, h9⟩ := hm
  have hn : n ≠ r ∧ s ≠ r ∧ n ≠ s ∧ n ≠ r + 1 ∧ n ≠ r + 2 ∧ n ≠ r + 3 ∧ n ≠ r + 4 ∧ n ≠ r + 7 ∧ s ≠ r + 1 ∧ s ≠ r + 2 ∧ s ≠ r + 3 ∧ s ≠ r + 4 ∧ s ≠ r + 7 := by omega
  exact ⟨(ho _ (by omega)).trans h0, ⟨h1.kept (ho _ (by omega)), h22.kept (ho _ (by omega)), h3.kept (ho _ (by omega)), ha, h5.kept (ho _ (by omega)), h6.kept (ho _ (by omega)), h7.kept (ho _ (by omega))⟩, h8, fun x hx => (ho _ (by omega)).trans (h9 x hx)⟩
theorem R_ald_MA {i : Int} (hd : decode Y.2.1 pc = .ok (.iaload, 1)) (hm : MS g r n s l sp nu rs rm sc mk km T RA RD MA NW SD KP h) (hi : 0 ≤ i ∧ i < 6) (kk : V z Y R Q (pc + 1) L (.int (I (MA i.toNat)) :: st) h sz kc nc) : V z Y R Q pc L (.int (I i) :: .ref (r + 4) :: st) h sz kc nc := J_iald hd hm.aMA hi (Nat.le_of_ble_eq_true rfl) kk
theorem R_ast_NW {i x : Int} (hd : decode Y.2.1 pc = .ok (.iastore, 1)) (hm : MS g r n s l sp nu rs rm sc mk km T RA RD MA NW SD KP h) (hi : 0 ≤ i ∧ i < 42) (kk : ∀ h' : AH, MS g r n s l sp nu rs rm sc mk km T RA RD MA (va_up NW i.toNat x) SD KP h' → V z Y R Q (pc + 1) L st h' sz kc nc) : V z Y R Q pc L (.int (I x) :: .int (I i) :: .ref (n) :: st) h sz kc nc := by
  refine J_iast hd hm.aNW hi (Nat.le_of_ble_eq_true rfl) (fun h2 ha ho => kk h2 ?_)
  obtain ⟨h0, ⟨h1, h22, h3, h4, h5, h6, h7⟩, h8, h9⟩ := hm
  have hn : n ≠ r ∧ s ≠ r ∧ n ≠ s ∧ n ≠ r + 1 ∧ n ≠ r + 2 ∧ n ≠ r + 3 ∧ n ≠ r + 4 ∧ n ≠ r + 7 ∧ s ≠ r + 1 ∧ s ≠ r + 2 ∧ s ≠ r + 3 ∧ s ≠ r + 4 ∧ s ≠ r + 7 := by omega
  exact ⟨(ho _ (by omega)).trans h0, ⟨h1.kept (ho _ (by omega)), h22.kept (ho _ (by omega)), h3.kept (ho _ (by omega)), h4.kept (ho _ (by omega)), ha, h6.kept (ho _ (by omega)), h7.kept (ho _ (by omega))⟩, h8, fun x hx => (ho _ (by omega)).trans (h9 x hx)⟩
theorem R_ald_NW {i : Int} (hd : decode Y.2.1 pc = .ok (.iaload, 1)) (hm : MS g r n s l sp nu rs rm sc mk km T RA RD MA NW SD KP h) (hi : 0 ≤ i ∧ i < 42) (kk : V z Y R Q (pc + 1) L (.int (I (NW i.toNat)) :: st) h sz kc nc) : V z Y R Q pc L (.int (I i) :: .ref (n) :: st) h sz kc nc := J_iald hd hm.aNW hi (Nat.le_of_ble_eq_true rfl) kk
theorem R_ast_SD {i x : Int} (hd : decode Y.2.1 pc = .ok (.iastore, 1)) (hm : MS g r n s l sp nu rs rm sc mk km T RA RD MA NW SD KP h) (hi : 0 ≤ i ∧ i < 42) (kk : ∀ h' : AH, MS g r n s l sp nu rs rm sc mk km T RA RD MA NW (va_up SD i.toNat x) KP h' → V z Y R Q (pc + 1) L st h' sz kc nc) : V z Y R Q pc L (.int (I x) :: .int (I i) :: .ref (s) :: st) h sz kc nc := by
  refine J_iast hd hm.aSD hi (Nat.le_of_ble_eq_true rfl) (fun h2 ha ho => kk h2 ?_)
  obtain ⟨h0, ⟨h1, h22, h3, h4, h5, h6, h7⟩, h8, h9⟩ := hm
  have hn : n ≠ r ∧ s ≠ r ∧ n ≠ s ∧ n ≠ r + 1 ∧ n ≠ r + 2 ∧ n ≠ r + 3 ∧ n ≠ r + 4 ∧ n ≠ r + 7 ∧ s ≠ r + 1 ∧ s ≠ r + 2 ∧ s ≠ r + 3 ∧ s ≠ r + 4 ∧ s ≠ r + 7 := by omega
  exact ⟨(ho _ (by omega)).trans h0, ⟨h1.kept (ho _ (by omega)), h22.kept (ho _ (by omega)), h3.kept (ho _ (by omega)), h4.kept (ho _ (by omega)), h5.kept (ho _ (by omega)), ha, h7.kept (ho _ (by omega))⟩, h8, fun x hx => (ho _ (by omega)).trans (h9 x hx)⟩
theorem R_ald_SD {i : Int} (hd : decode Y.2.1 pc = .ok (.iaload, 1)) (hm : MS g r n s l sp nu rs rm sc mk km T RA RD MA NW SD KP h) (hi : 0 ≤ i ∧ i < 42) (kk : V z Y R Q (pc + 1) L (.int (I (SD i.toNat)) :: st) h sz kc nc) : V z Y R Q pc L (.int (I i) :: .ref (s) :: st) h sz kc nc := J_iald hd hm.aSD hi (Nat.le_of_ble_eq_true rfl) kk
theorem R_ast_KP {i x : Int} (hd : decode Y.2.1 pc = .ok (.iastore, 1)) (hm : MS g r n s l sp nu rs rm sc mk km T RA RD MA NW SD KP h) (hi : 0 ≤ i ∧ i < 252) (kk : ∀ h' : AH, MS g r n s l sp nu rs rm sc mk km T RA RD MA NW SD (va_up KP i.toNat x) h' → V z Y R Q (pc + 1) L st h' sz kc nc) : V z Y R Q pc L (.int (I x) :: .int (I i) :: .ref (r + 7) :: st) h sz kc nc := by
  refine J_iast hd hm.aKP hi (Nat.le_of_ble_eq_true rfl) (fun h2 ha ho => kk h2 ?_)
  obtain ⟨h0, ⟨h1, h22, h3, h4, h5, h6, h7⟩, h8, h9⟩ := hm
  have hn : n ≠ r ∧ s ≠ r ∧ n ≠ s ∧ n ≠ r + 1 ∧ n ≠ r + 2 ∧ n ≠ r + 3 ∧ n ≠ r + 4 ∧ n ≠ r + 7 ∧ s ≠ r + 1 ∧ s ≠ r + 2 ∧ s ≠ r + 3 ∧ s ≠ r + 4 ∧ s ≠ r + 7 := by omega
  exact ⟨(ho _ (by omega)).trans h0, ⟨h1.kept (ho _ (by omega)), h22.kept (ho _ (by omega)), h3.kept (ho _ (by omega)), h4.kept (ho _ (by omega)), h5.kept (ho _ (by omega)), h6.kept (ho _ (by omega)), ha⟩, h8, fun x hx => (ho _ (by omega)).trans (h9 x hx)⟩
theorem R_ald_KP {i : Int} (hd : decode Y.2.1 pc = .ok (.iaload, 1)) (hm : MS g r n s l sp nu rs rm sc mk km T RA RD MA NW SD KP h) (hi : 0 ≤ i ∧ i < 252) (kk : V z Y R Q (pc + 1) L (.int (I (KP i.toNat)) :: st) h sz kc nc) : V z Y R Q pc L (.int (I i) :: .ref (r + 7) :: st) h sz kc nc := J_iald hd hm.aKP hi (Nat.le_of_ble_eq_true rfl) kk
theorem R_aldk_T {i : Int} (k : Nat) (hd : decode Y.2.1 pc = .ok (.iaload, 1)) (hm : MS g r n s l sp nu rs rm sc mk km T RA RD MA NW SD KP h) (hk : i = (k : Int)) (hi : k < 200) (kk : V z Y R Q (pc + 1) L (.int (I (T k)) :: st) h sz kc nc) : V z Y R Q pc L (.int (I i) :: .ref (r + 1) :: st) h sz kc nc := by
  subst hk
  exact R_ald_T hd hm (by omega) (by rw [Int.toNat_natCast]; exact kk)
theorem R_astk_T {i x : Int} (k : Nat) (hd : decode Y.2.1 pc = .ok (.iastore, 1)) (hm : MS g r n s l sp nu rs rm sc mk km T RA RD MA NW SD KP h) (hk : i = (k : Int)) (hi : k < 200) (kk : ∀ h' : AH, MS g r n s l sp nu rs rm sc mk km (va_up T k x) RA RD MA NW SD KP h' → V z Y R Q (pc + 1) L st h' sz kc nc) : V z Y R Q pc L (.int (I x) :: .int (I i) :: .ref (r + 1) :: st) h sz kc nc := by
  subst hk
  exact R_ast_T hd hm (by omega) (fun h2 hm2 => kk h2 (by rw [Int.toNat_natCast] at hm2; exact hm2))
theorem R_aldk_RA {i : Int} (k : Nat) (hd : decode Y.2.1 pc = .ok (.iaload, 1)) (hm : MS g r n s l sp nu rs rm sc mk km T RA RD MA NW SD KP h) (hk : i = (k : Int)) (hi : k < 6) (kk : V z Y R Q (pc + 1) L (.int (I (RA k)) :: st) h sz kc nc) : V z Y R Q pc L (.int (I i) :: .ref (r + 2) :: st) h sz kc nc := by
  subst hk
  exact R_ald_RA hd hm (by omega) (by rw [Int.toNat_natCast]; exact kk)
theorem R_astk_RA {i x : Int} (k : Nat) (hd : decode Y.2.1 pc = .ok (.iastore, 1)) (hm : MS g r n s l sp nu rs rm sc mk km T RA RD MA NW SD KP h) (hk : i = (k : Int)) (hi : k < 6) (kk : ∀ h' : AH, MS g r n s l sp nu rs rm sc mk km T (va_up RA k x) RD MA NW SD KP h' → V z Y R Q (pc + 1) L st h' sz kc nc) : V z Y R Q pc L (.int (I x) :: .int (I i) :: .ref (r + 2) :: st) h sz kc nc := by
  subst hk
  exact R_ast_RA hd hm (by omega) (fun h2 hm2 => kk h2 (by rw [Int.toNat_natCast] at hm2; exact hm2))
theorem R_aldk_RD {i : Int} (k : Nat) (hd : decode Y.2.1 pc = .ok (.iaload, 1)) (hm : MS g r n s l sp nu rs rm sc mk km T RA RD MA NW SD KP h) (hk : i = (k : Int)) (hi : k < 42) (kk : V z Y R Q (pc + 1) L (.int (I (RD k)) :: st) h sz kc nc) : V z Y R Q pc L (.int (I i) :: .ref (r + 3) :: st) h sz kc nc := by
  subst hk
  exact R_ald_RD hd hm (by omega) (by rw [Int.toNat_natCast]; exact kk)
theorem R_astk_RD {i x : Int} (k : Nat) (hd : decode Y.2.1 pc = .ok (.iastore, 1)) (hm : MS g r n s l sp nu rs rm sc mk km T RA RD MA NW SD KP h) (hk : i = (k : Int)) (hi : k < 42) (kk : ∀ h' : AH, MS g r n s l sp nu rs rm sc mk km T RA (va_up RD k x) MA NW SD KP h' → V z Y R Q (pc + 1) L st h' sz kc nc) : V z Y R Q pc L (.int (I x) :: .int (I i) :: .ref (r + 3) :: st) h sz kc nc := by
  subst hk
  exact R_ast_RD hd hm (by omega) (fun h2 hm2 => kk h2 (by rw [Int.toNat_natCast] at hm2; exact hm2))
theorem R_aldk_MA {i : Int} (k : Nat) (hd : decode Y.2.1 pc = .ok (.iaload, 1)) (hm : MS g r n s l sp nu rs rm sc mk km T RA RD MA NW SD KP h) (hk : i = (k : Int)) (hi : k < 6) (kk : V z Y R Q (pc + 1) L (.int (I (MA k)) :: st) h sz kc nc) : V z Y R Q pc L (.int (I i) :: .ref (r + 4) :: st) h sz kc nc := by
  subst hk
  exact R_ald_MA hd hm (by omega) (by rw [Int.toNat_natCast]; exact kk)
theorem R_astk_MA {i x : Int} (k : Nat) (hd : decode Y.2.1 pc = .ok (.iastore, 1)) (hm : MS g r n s l sp nu rs rm sc mk km T RA RD MA NW SD KP h) (hk : i = (k : Int)) (hi : k < 6) (kk : ∀ h' : AH, MS g r n s l sp nu rs rm sc mk km T RA RD (va_up MA k x) NW SD KP h' → V z Y R Q (pc + 1) L st h' sz kc nc) : V z Y R Q pc L (.int (I x) :: .int (I i) :: .ref (r + 4) :: st) h sz kc nc := by
  subst hk
  exact R_ast_MA hd hm (by omega) (fun h2 hm2 => kk h2 (by rw [Int.toNat_natCast] at hm2; exact hm2))
theorem R_aldk_NW {i : Int} (k : Nat) (hd : decode Y.2.1 pc = .ok (.iaload, 1)) (hm : MS g r n s l sp nu rs rm sc mk km T RA RD MA NW SD KP h) (hk : i = (k : Int)) (hi : k < 42) (kk : V z Y R Q (pc + 1) L (.int (I (NW k)) :: st) h sz kc nc) : V z Y R Q pc L (.int (I i) :: .ref (n) :: st) h sz kc nc := by
  subst hk
  exact R_ald_NW hd hm (by omega) (by rw [Int.toNat_natCast]; exact kk)
theorem R_astk_NW {i x : Int} (k : Nat) (hd : decode Y.2.1 pc = .ok (.iastore, 1)) (hm : MS g r n s l sp nu rs rm sc mk km T RA RD MA NW SD KP h) (hk : i = (k : Int)) (hi : k < 42) (kk : ∀ h' : AH, MS g r n s l sp nu rs rm sc mk km T RA RD MA (va_up NW k x) SD KP h' → V z Y R Q (pc + 1) L st h' sz kc nc) : V z Y R Q pc L (.int (I x) :: .int (I i) :: .ref (n) :: st) h sz kc nc := by
  subst hk
  exact R_ast_NW hd hm (by omega) (fun h2 hm2 => kk h2 (by rw [Int.toNat_natCast] at hm2; exact hm2))
theorem R_aldk_SD {i : Int} (k : Nat) (hd : decode Y.2.1 pc = .ok (.iaload, 1)) (hm : MS g r n s l sp nu rs rm sc mk km T RA RD MA NW SD KP h) (hk : i = (k : Int)) (hi : k < 42) (kk : V z Y R Q (pc + 1) L (.int (I (SD k)) :: st) h sz kc nc) : V z Y R Q pc L (.int (I i) :: .ref (s) :: st) h sz kc nc := by
  subst hk
  exact R_ald_SD hd hm (by omega) (by rw [Int.toNat_natCast]; exact kk)
theorem R_astk_SD {i x : Int} (k : Nat) (hd : decode Y.2.1 pc = .ok (.iastore, 1)) (hm : MS g r n s l sp nu rs rm sc mk km T RA RD MA NW SD KP h) (hk : i = (k : Int)) (hi : k < 42) (kk : ∀ h' : AH, MS g r n s l sp nu rs rm sc mk km T RA RD MA NW (va_up SD k x) KP h' → V z Y R Q (pc + 1) L st h' sz kc nc) : V z Y R Q pc L (.int (I x) :: .int (I i) :: .ref (s) :: st) h sz kc nc := by
  subst hk
  exact R_ast_SD hd hm (by omega) (fun h2 hm2 => kk h2 (by rw [Int.toNat_natCast] at hm2; exact hm2))
theorem R_aldk_KP {i : Int} (k : Nat) (hd : decode Y.2.1 pc = .ok (.iaload, 1)) (hm : MS g r n s l sp nu rs rm sc mk km T RA RD MA NW SD KP h) (hk : i = (k : Int)) (hi : k < 252) (kk : V z Y R Q (pc + 1) L (.int (I (KP k)) :: st) h sz kc nc) : V z Y R Q pc L (.int (I i) :: .ref (r + 7) :: st) h sz kc nc := by
  subst hk
  exact R_ald_KP hd hm (by omega) (by rw [Int.toNat_natCast]; exact kk)
theorem R_astk_KP {i x : Int} (k : Nat) (hd : decode Y.2.1 pc = .ok (.iastore, 1)) (hm : MS g r n s l sp nu rs rm sc mk km T RA RD MA NW SD KP h) (hk : i = (k : Int)) (hi : k < 252) (kk : ∀ h' : AH, MS g r n s l sp nu rs rm sc mk km T RA RD MA NW SD (va_up KP k x) h' → V z Y R Q (pc + 1) L st h' sz kc nc) : V z Y R Q pc L (.int (I x) :: .int (I i) :: .ref (r + 7) :: st) h sz kc nc := by
  subst hk
  exact R_ast_KP hd hm (by omega) (fun h2 hm2 => kk h2 (by rw [Int.toNat_natCast] at hm2; exact hm2))
end Rrules
