/-! FLOATS: a positive normal number and its bits -/
/-- f is c * 2^q, positive and normal -/
def FB (f : UInt32) (c : Nat) (q : Int) : Prop := FP.Core.val32 f = .fin false c q ∧ 8388608 ≤ c ∧ c < 16777216 ∧ -149 ≤ q ∧ q ≤ 104
theorem fb_qmax : FP.Core.b32.qmax = 104 := by decide
theorem fb_fits {c : Nat} {q : Int} {s : Bool} (h1 : 8388608 ≤ c) (h2 : c < 16777216) (h3 : -149 ≤ q) (h4 : q ≤ 104) : FP.Core.fits FP.Core.b32 (.fin s c q) := ⟨by show c < 2 ^ 24; omega, by rw [FP.Core.qmin_b32]; exact h3, by rw [fb_qmax]; exact h4, Or.inr (by rw [FP.Core.tails_b32]; omega)⟩
theorem al_eq {r v : UInt32} (h : alike32 r v = true) (hv : FP.Core.val32 v ≠ .nan) : r = v := by
  unfold alike32 at h
  rw [Bool.or_eq_true] at h
  rcases h with h | h
  · exact of_decide_eq_true h
  · rw [Bool.and_eq_true] at h
    have h2 := isNaN32_iff.mp h.2
    have h3 := (FP.Core.ne_nan32 v).mp hv
    rw [show (0x7fffffff : Nat) = 2 ^ 31 - 1 from rfl, Nat.and_two_pow_sub_one_eq_mod] at h2
    omega
theorem FB.nn {f : UInt32} {c : Nat} {q : Int} (x : FB f c q) : FP.Core.val32 f ≠ .nan := by
  rw [x.1]; exact fun h => by cases h
theorem fb_c2 : FP.Core.val32 FP.fconst2 = .fin false 8388608 (-22) := by decide +kernel
theorem fb_c1 : FP.Core.val32 FP.fconst1 = .fin false 8388608 (-23) := by decide +kernel
theorem fb_c0 : FP.Core.val32 FP.fconst0 = .fin false 0 (-149) := by decide +kernel
theorem fb_cb : FP.Core.val32 0x4b000000 = .fin false 8388608 0 := by decide +kernel
theorem FB.half {f : UInt32} {c : Nat} {q : Int} (x : FB f c q) (hq : -148 ≤ q) : FB (FP.fdiv f FP.fconst2) c (q - 1) := by
  obtain ⟨h1, h2, h3, h4, h5⟩ := x
  refine ⟨?_, h2, h3, by omega, by omega⟩
  show FP.Core.val32 (FP.Core.fdiv f FP.fconst2) = _
  rw [FP.Core.val32_fdiv, h1, fb_c2]
  exact FP.Core.roundRatio_exact (s := false) (A := c) (B := 8388608) (e := q - -22) FP.Core.good_b32 (by decide) (fb_fits h2 h3 (by omega) (by omega)) (by
    rw [show (q - -22 - (q - 1)).toNat = 23 by omega, show (q - 1 - (q - -22)).toNat = 0 by omega]
    omega)
theorem FB.dbl {f : UInt32} {c : Nat} {q : Int} (x : FB f c q) (hq : q ≤ 103) : FB (FP.fmul f FP.fconst2) c (q + 1) := by
  obtain ⟨h1, h2, h3, h4, h5⟩ := x
  refine ⟨?_, h2, h3, by omega, by omega⟩
  show FP.Core.val32 (FP.Core.fmul f FP.fconst2) = _
  rw [FP.Core.val32_fmul, h1, fb_c2]
  exact FP.Core.roundRatio_exact (s := false) (A := c * 8388608) (B := 1) (e := q + -22) FP.Core.good_b32 (by decide) (fb_fits h2 h3 (by omega) (by omega)) (by
    rw [show (q + -22 - (q + 1)).toNat = 0 by omega, show (q + 1 - (q + -22)).toNat = 23 by omega]
    omega)
theorem FB.cmp {f g : UInt32} {c : Nat} {q r : Int} (x : FB f c q) (hg : FP.Core.val32 g = .fin false 8388608 r) : ∃ o, FP.fcmp f g = some o ∧ (q < r → o = .lt) ∧ (r ≤ q → o ≠ .lt) := by
  obtain ⟨h1, h2, h3, h4, h5⟩ := x
  refine ⟨compareOfLessAndEq ((c * 2 ^ (q - min q r).toNat : Nat) : Int) ((8388608 * 2 ^ (r - min q r).toNat : Nat) : Int), ?_, fun hq => ?_, fun hq => ?_⟩
  · show FP.Core.order (FP.Core.val32 f) (FP.Core.val32 g) = _
    rw [h1, hg]
    rfl
  · rw [Int.min_eq_left (by omega), Int.sub_self]
    obtain ⟨k, hk⟩ : ∃ k : Nat, (r - q).toNat = k + 1 := ⟨(r - q).toNat - 1, by omega⟩
    rw [hk, Nat.pow_succ]
    have := Nat.two_pow_pos k
    generalize 2 ^ k = w at this ⊢
    have e0 : c * 2 ^ (0 : Int).toNat = c := Nat.mul_one c
    rw [e0]
    unfold compareOfLessAndEq
    rw [if_pos (by omega)]
  · rw [Int.min_eq_right hq, Int.sub_self]
    have := Nat.two_pow_pos (q - r).toNat
    have hle : c * 1 ≤ c * 2 ^ (q - r).toNat := Nat.mul_le_mul_left c this
    generalize c * 2 ^ (q - r).toNat = w at hle ⊢
    have e0 : 8388608 * 2 ^ (0 : Int).toNat = 8388608 := rfl
    rw [e0]
    unfold compareOfLessAndEq
    rw [if_neg (by omega)]
    split <;> intro hh <;> cases hh
theorem FB.pos {f : UInt32} {c : Nat} {q : Int} (x : FB f c q) : FP.fcmp f FP.fconst0 = some .gt := by
  obtain ⟨h1, h2, h3, h4, h5⟩ := x
  show FP.Core.order (FP.Core.val32 f) (FP.Core.val32 FP.fconst0) = _
  rw [h1, fb_c0]
  show some (compareOfLessAndEq ((c * 2 ^ (q - min q (-149)).toNat : Nat) : Int) ((0 * 2 ^ (-149 - min q (-149)).toNat : Nat) : Int)) = _
  have hp := Nat.mul_pos (show 0 < c by omega) (Nat.two_pow_pos (q - min q (-149)).toNat)
  rw [Nat.zero_mul]
  generalize c * 2 ^ (q - min q (-149)).toNat = w at hp ⊢
  unfold compareOfLessAndEq
  rw [if_neg (by omega), if_neg (by omega)]
theorem FB.n {f : UInt32} {c : Nat} {q : Int} (x : FB f c q) : f.toNat = (q + 150).toNat * 8388608 + (c - 8388608) := by
  have hn := x.nn
  obtain ⟨h1, h2, h3, h4, h5⟩ := x
  have e1 := FP.Core.of32_val32 hn
  have e2 := FP.Core.toNat_of32 (d := .fin false c q) (fb_fits h2 h3 h4 h5)
  rw [h1] at e1
  rw [e1] at e2
  rw [e2]
  refine (if_neg (by rw [FP.Core.tails_b32]; omega)).trans ?_
  unfold FP.Core.assemble
  rw [FP.Core.tails_b32, FP.Core.qmin_b32]
  show (0 * FP.Core.b32.exps + ((q - -149).toNat + 1)) * 2 ^ 23 + (c - 2 ^ 23) = _
  rw [Nat.zero_mul]
  omega
theorem FB.of {f : UInt32} (h1 : 8388608 ≤ f.toNat) (h2 : f.toNat < 2139095040) : ∃ c q, FB f c q := by
  refine ⟨8388608 + f.toNat % 8388608, -149 + (((f.toNat / 8388608 : Nat) : Int) - 1), ?_, by omega, by omega, by omega, by omega⟩
  show FP.Core.decode FP.Core.b32 f.toNat = _
  have e1 : FP.Core.fieldE FP.Core.b32 f.toNat = f.toNat / 8388608 := by
    show f.toNat / 2 ^ 23 % 2 ^ 8 = _
    omega
  have e2 : FP.Core.fieldT FP.Core.b32 f.toNat = f.toNat % 8388608 := by
    show f.toNat % 2 ^ 23 = _
    omega
  have e3 : FP.Core.fieldS FP.Core.b32 f.toNat = false := by
    show (f.toNat / 2 ^ 23 / 2 ^ 8 % 2 == 1) = false
    rw [show f.toNat / 2 ^ 23 / 2 ^ 8 % 2 = 0 by omega]
    rfl
  unfold FP.Core.decode
  rw [e1, e2, e3, FP.Core.exps_b32, FP.Core.qmin_b32, FP.Core.tails_b32]
  rw [if_neg (by omega), if_neg (by omega)]
