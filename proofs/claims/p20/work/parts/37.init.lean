/-! THE CLASS: a new encoder -/
section Orules2
variable {z : ZG} {Y : ZM} {R : Room} {Q : ZQ} {pc : Nat} {L : AL} {st : List Value} {h : AH} {sz kc nc : Nat}
theorem RO_putF {g : AH} {a i ci k : Nat} {fs : List Value} {ty : FieldType} {v : Value} (hd : decode Y.2.1 pc = .ok (.putfield i, 3)) (hw : ZF Y.1.cls i ci k) (ht : ZT ci k ty true) (hi0 : Y.1.name = "<init>") (hdc : ∀ C T N, vwCl[ci]? = some (C, T, N) → (T k).1 = Y.1.cls) (hx : OB g a ci fs h) (hl : k < fs.length) (hn : narrow ty v = v) (hf : fits ty v = true) (kk : ∀ h' : AH, OB g a ci (fs.set k v) h' → V z Y R Q (pc + 3) L st h' sz kc nc) : V z Y R Q pc L (v :: .ref a :: st) h sz kc nc :=
  V_putF hd hw ht hi0 hdc hx.1 hl hn hf (kk _ ⟨hset_s, fun q hq => (hset_n hq).trans (hx.2 q hq)⟩)
end Orules2
/-! the first setup's text, read -/
def rz0 : Nat → Int := fun _ => 0
def rf1 : Nat → Int := va_up (va_up rd0 6 22) 7 3
theorem zch_rg : ∀ j : Nat, j < 200 → 0 ≤ zch j ∧ zch j ≤ 126 := by decide +kernel
theorem fst_s0 : stF zch 34 0 0 0 rz0 rd0 = some (4, 20, 0, rz0, rd0) := by
  unfold stF
  rw [cIf_p (show lh zch 34 0 = 112 by decide +kernel), cIf_p (show nmO zch 34 (0 + 1) 8 80 59 ∧ nmN zch 34 (0 + 1) % 4 = 0 by unfold nmO; decide +kernel)]
  rw [show nmS zch 34 (0 + 1) = 4 by decide +kernel, show nmN zch 34 (0 + 1) = 20 by decide +kernel]
  all_goals rfl
theorem fst_s1 : stF zch 34 4 20 0 rz0 rd0 = some (10, 20, 0, rz0, rf1) := by
  unfold stF
  rw [cIf_n (show ¬ lh zch 34 4 = 112 by decide +kernel), cIf_p (show lh zch 34 4 = 105 by decide +kernel), cIf_p (show nmO zch 34 (4 + 1) 8 80 44 ∧ nmO zch 34 (nmS zch 34 (4 + 1)) 0 79 59 by unfold nmO; decide +kernel)]
  rw [show nmS zch 34 (nmS zch 34 (4 + 1)) = 10 by decide +kernel, show nmN zch 34 (nmS zch 34 (4 + 1)) = 3 by decide +kernel, show nmN zch 34 (4 + 1) = 22 by decide +kernel]
  all_goals rfl
theorem fst_s2 : stF zch 34 10 20 0 rz0 rf1 = some (15, 20, 1, (va_up rz0 0 400), rf1) := by
  unfold stF
  rw [cIf_n (show ¬ lh zch 34 10 = 112 by decide +kernel), cIf_n (show ¬ lh zch 34 10 = 105 by decide +kernel), cIf_n (show ¬ lh zch 34 10 = 109 by decide +kernel), cIf_p (show lh zch 34 10 = 114 by decide +kernel), cIf_p (show nmO zch 34 (10 + 1) 0 9999 59 ∧ ¬ (0 : Int) = 6 ∧ ¬ (0 < (0 : Int) ∧ nmN zch 34 (10 + 1) ≤ rz0 ((0 : Int) - 1).toNat) by unfold nmO; decide +kernel)]
  rw [show nmS zch 34 (10 + 1) = 15 by decide +kernel, show nmN zch 34 (10 + 1) = 400 by decide +kernel]
  all_goals rfl
theorem fst_s3 : stF zch 34 15 20 1 (va_up rz0 0 400) rf1 = some (21, 20, 2, (va_up (va_up rz0 0 400) 1 1000), rf1) := by
  unfold stF
  rw [cIf_n (show ¬ lh zch 34 15 = 112 by decide +kernel), cIf_n (show ¬ lh zch 34 15 = 105 by decide +kernel), cIf_n (show ¬ lh zch 34 15 = 109 by decide +kernel), cIf_p (show lh zch 34 15 = 114 by decide +kernel), cIf_p (show nmO zch 34 (15 + 1) 0 9999 59 ∧ ¬ (1 : Int) = 6 ∧ ¬ (0 < (1 : Int) ∧ nmN zch 34 (15 + 1) ≤ (va_up rz0 0 400) ((1 : Int) - 1).toNat) by unfold nmO; decide +kernel)]
  rw [show nmS zch 34 (15 + 1) = 21 by decide +kernel, show nmN zch 34 (15 + 1) = 1000 by decide +kernel]
  all_goals rfl
theorem fst_s4 : stF zch 34 21 20 2 (va_up (va_up rz0 0 400) 1 1000) rf1 = some (27, 20, 3, (va_up (va_up (va_up rz0 0 400) 1 1000) 2 1740), rf1) := by
  unfold stF
  rw [cIf_n (show ¬ lh zch 34 21 = 112 by decide +kernel), cIf_n (show ¬ lh zch 34 21 = 105 by decide +kernel), cIf_n (show ¬ lh zch 34 21 = 109 by decide +kernel), cIf_p (show lh zch 34 21 = 114 by decide +kernel), cIf_p (show nmO zch 34 (21 + 1) 0 9999 59 ∧ ¬ (2 : Int) = 6 ∧ ¬ (0 < (2 : Int) ∧ nmN zch 34 (21 + 1) ≤ (va_up (va_up rz0 0 400) 1 1000) ((2 : Int) - 1).toNat) by unfold nmO; decide +kernel)]
  rw [show nmS zch 34 (21 + 1) = 27 by decide +kernel, show nmN zch 34 (21 + 1) = 1740 by decide +kernel]
  all_goals rfl
theorem fst_s5 : stF zch 34 27 20 3 (va_up (va_up (va_up rz0 0 400) 1 1000) 2 1740) rf1 = some (34, 20, 3, (va_up (va_up (va_up rz0 0 400) 1 1000) 2 1740), (adR rf1 0 660 9)) := by
  unfold stF
  rw [cIf_n (show ¬ lh zch 34 27 = 112 by decide +kernel), cIf_n (show ¬ lh zch 34 27 = 105 by decide +kernel), cIf_n (show ¬ lh zch 34 27 = 109 by decide +kernel), cIf_n (show ¬ lh zch 34 27 = 114 by decide +kernel), cIf_p (show lh zch 34 27 = 100 by decide +kernel), cIf_p (show nmO zch 34 (27 + 1) 0 9999 44 ∧ ¬ rf1 8 = 4 ∧ nmO zch 34 (nmS zch 34 (27 + 1)) 1 99 59 by unfold nmO; decide +kernel)]
  rw [show nmS zch 34 (nmS zch 34 (27 + 1)) = 34 by decide +kernel, show nmN zch 34 (nmS zch 34 (27 + 1)) = 9 by decide +kernel, show nmN zch 34 (27 + 1) = 660 by decide +kernel]
  all_goals rfl
theorem rdF_go {T : Nat → Int} {l : Int} {f : Nat} {u v : RO} (h : u.1 < l) (hs : stF T l u.1 u.2.1 u.2.2.1 u.2.2.2.1 u.2.2.2.2 = some v) : rdF T l (f + 1) u = rdF T l f v := by rw [rdF_s, if_pos h, hs]
theorem fst_all : rdF zch 34 201 (0, 0, 0, rz0, rd0) = (-4, (34, 20, 3, va_up (va_up (va_up rz0 0 400) 1 1000) 2 1740, adR rf1 0 660 9)) :=
  (rdF_go (T := zch) (l := 34) (f := 200) (u := (0, 0, 0, rz0, rd0)) (show ((0 : Int) < 34) by decide) fst_s0).trans
  ((rdF_go (T := zch) (l := 34) (f := 199) (u := (4, 20, 0, rz0, rd0)) (show ((4 : Int) < 34) by decide) fst_s1).trans
  ((rdF_go (T := zch) (l := 34) (f := 198) (u := (10, 20, 0, rz0, rf1)) (show ((10 : Int) < 34) by decide) fst_s2).trans
  ((rdF_go (T := zch) (l := 34) (f := 197) (u := (15, 20, 1, (va_up rz0 0 400), rf1)) (show ((15 : Int) < 34) by decide) fst_s3).trans
  ((rdF_go (T := zch) (l := 34) (f := 196) (u := (21, 20, 2, (va_up (va_up rz0 0 400) 1 1000), rf1)) (show ((21 : Int) < 34) by decide) fst_s4).trans
  ((rdF_go (T := zch) (l := 34) (f := 195) (u := (27, 20, 3, (va_up (va_up (va_up rz0 0 400) 1 1000) 2 1740), rf1)) (show ((27 : Int) < 34) by decide) fst_s5).trans
  (rdF_end (u := (34, 20, 3, va_up (va_up (va_up rz0 0 400) 1 1000) 2 1740, adR rf1 0 660 9)) (show ¬ ((34 : Int) < 34) by decide)))))))
theorem fst_ra : (va_up (va_up (va_up rz0 0 400) 1 1000) 2 1740 : Nat → Int) = ra0 := by
  funext j
  unfold va_up ra0 rz0
  by_cases a : j = 2
  · subst a; rfl
  · rw [if_neg a]
    by_cases b : j = 1
    · subst b; rfl
    · rw [if_neg b]
      by_cases c : j = 0
      · subst c; rfl
      · rw [if_neg c, if_neg c, if_neg b, if_neg a]
theorem fst_nw : stN (adR rf1 0 660 9) = nw0 := by
  funext j
  rw [stN_eq]
  by_cases a : 5 ≤ j ∧ j < 17
  · rw [if_pos a]
    obtain ⟨k, rfl, hk⟩ : ∃ k : Nat, j = 5 + k ∧ k < 12 := ⟨j - 5, by omega, by omega⟩
    match k, hk with
    | 0, _ => rfl
    | 1, _ => rfl
    | 2, _ => rfl
    | 3, _ => rfl
    | 4, _ => rfl
    | 5, _ => rfl
    | 6, _ => rfl
    | 7, _ => rfl
    | 8, _ => rfl
    | 9, _ => rfl
    | 10, _ => rfl
    | 11, _ => rfl
  · rw [if_neg a]
    unfold nw0
    rw [if_neg (by omega), if_neg (by omega), if_neg (by omega), if_neg (by omega), if_neg (by omega), if_neg (by omega)]
set_option maxHeartbeats 4000000 in
set_option maxRecDepth 100000 in
theorem l7_in_77 {z : ZG} {d mc ms kc nc s : Nat} {g0 : AH} {Q : ZQ} {mn pt hn : Int} {MK N : Nat → Int} (kk : ∀ h : AH, fr g0 h 0 114 → EN h s 34 zch mn MK pt hn N → V z YX7_init (zroom (d + 8) mc ms) Q 106 [some (.ref 0), some (.int (I 34))] [] h 114 kc nc) : ∀ (fu i : Nat) (h : AH), i ≤ 34 → 34 - i < fu → fr g0 h 0 114 → EN h s (i : Int) zch mn MK pt hn N → kc ≤ mc ∧ nc ≤ ms → V z YX7_init (zroom (d + 8) mc ms) Q 77 [some (.ref 0), some (.int (I (i : Int)))] [] h 114 kc nc := by
  intro fu
  induction fu with
  | zero => intro i h h1 h2; omega
  | succ fu ih =>
    intro i h h1 h2 hF hE hk
    refine V_iload_n dX7_init_77 rfl ?_
    refine V_ldcS rfl dX7_init_78 ?_
    refine V_callVS (Y' := YJ0_length) (As := []) rfl dX7_init_80 lS_51 gJ0_length mS_length rfl rfl (Nat.le_of_ble_eq_true rfl) ⟨by omega, by omega⟩ (fun v h1 sz1 hq => ?_)
    obtain ⟨rfl, rfl, rfl⟩ := hq
    refine J_icmp_ge (tgt := 106) dX7_init_83 (by decide) (by omega) (by omega) (fun c => ?_) (fun c => ?_)
    · have e : i = 34 := by omega
      subst e
      exact kk _ hF hE
    · have hi : i < 34 := by omega
      have hz := zch_ok i hi
      refine V_aload_n dX7_init_86 rfl ?_
      refine V_get dX7_init_87 fX7_14 hE.1 rfl ?_
      refine V_ldcS rfl dX7_init_90 ?_
      refine V_iload_n dX7_init_92 rfl ?_
      refine V_callVS (Y' := YJ0_charAt) (As := [.int (I (i : Int))]) rfl dX7_init_93 lS_57 gJ0_charAt (mS_charAt hi) rfl rfl (Nat.le_of_ble_eq_true rfl) ⟨by omega, by omega⟩ (fun v h1 sz1 hq => ?_)
      obtain ⟨rfl, rfl, rfl⟩ := hq
      refine J_i2l dX7_init_96 (by omega) ?_
      refine V_callV (Y' := YX4_add) dX7_init_97 lX7_61 gX4_add (m4_add (by decide) (by omega) hE.t) hE.t.c rfl rfl rfl (Nat.le_of_ble_eq_true rfl) ⟨by omega, by omega⟩ (fun v h3 sz3 hq => ?_)
      obtain ⟨rfl, rfl, hf, hq⟩ := hq
      refine J_iinc dX7_init_100 rfl ?_
      refine V_goto (tgt := 77) dX7_init_103 (by decide) ?_
      rw [show ((i : Int) + 1) = ((i + 1 : Nat) : Int) by omega]
      refine ih (i + 1) h3 (by omega) (by omega) (hF.then (hf.up (by omega))) (hE.setT hf ?_) hk
      rcases hq with ⟨_, hq⟩ | ⟨q, _⟩
      · refine RW.to (by rw [show ((i + 1 : Nat) : Int) = (i : Int) + 1 by omega]; exact hq) (fun j hj => ?_)
        unfold va_up
        rw [Int.toNat_natCast]
        split
        · rename_i e; rw [e]
        · rfl
      · exact absurd (show (i : Int) < ((200 : Nat) : Int) by omega) q
set_option maxHeartbeats 4000000 in
set_option maxRecDepth 100000 in
theorem m7_init {z : ZG} {d : Nat} {h : AH} (hO : h 0 = some (.inl (7, [.null, .null, .null, .null, .null, .null, .int 0]))) : M z YX7_init (d + 8) 113 655 [.ref 0] h 1 (fun w h' sz' => w = none ∧ sz' = 114 ∧ (∀ q : Nat, 114 ≤ q → h' q = h q) ∧ EN h' 100 0 zch 3 ra0 20 0 nw0) := by
  refine M.of (by decide +kernel) (Nat.le_of_ble_eq_true rfl) ?_
  have hB : ∀ q : Nat, 1 ≤ q → h q = h q := fun _ _ => rfl
  refine V_aload_n dX7_init_0 rfl ?_
  refine V_obj dX7_init_1 oX7_1 (Nat.le_of_ble_eq_true rfl) ?_
  refine V_aload_n dX7_init_4 rfl ?_
  refine V_new dX7_init_5 nX7_7 rfl ⟨Nat.le_of_ble_eq_true rfl, Nat.le_of_ble_eq_true rfl⟩ ?_
  refine V_dup dX7_init_8 rfl ?_
  refine J_sipush dX7_init_9 (by decide) ?_
  refine V_callI (Y' := YX4_init) dX7_init_12 lX7_11 gX4_init (m4_init (a := 1) (cap := 200) (by decide) hset_s) rfl rfl (Nat.le_of_ble_eq_true rfl) ⟨Nat.le_of_ble_eq_true rfl, Nat.le_of_ble_eq_true rfl⟩ (fun v a0 z0 hq => ?_)
  obtain ⟨rfl, rfl, hf0, hX⟩ := hq
  have e : ∀ q : Nat, q < 1 → a0 q = h q := fun q hq => (hf0 q (by omega)).trans (hset_n (by omega))
  have hO := (e 0 (by omega)).trans hO
  have hB : ∀ q : Nat, 3 ≤ q → a0 q = h q := fun q hq => ((hf0 q (by omega)).trans (hset_n (by omega))).trans (hB q (by omega))
  refine RO_putF dX7_init_15 fX7_14 tX7_0 rfl (fun C T N q => by cases q; rfl) (OB.mk hO) (Nat.le_of_ble_eq_true rfl) rfl rfl (fun b0 hx => ?_)
  have hO := hx.1
  have e : ∀ q : Nat, 0 < q → b0 q = a0 q := fun q hq => hx.2 q (by omega)
  have hB : ∀ q : Nat, 3 ≤ q → b0 q = h q := fun q hq => (e q (by omega)).trans (hB q hq)
  have hX := hX.kept (e 1 (by omega)) (e 2 (by omega))
  refine V_aload_n dX7_init_18 rfl ?_
  refine V_new dX7_init_19 nX7_18 rfl ⟨Nat.le_of_ble_eq_true rfl, Nat.le_of_ble_eq_true rfl⟩ ?_
  refine V_dup dX7_init_22 rfl ?_
  refine V_callIN (Y' := YX5_init) dX7_init_23 lX7_20 gX5_init (m5_init (a := 3) hset_s) rfl rfl (Nat.le_of_ble_eq_true rfl) ⟨Nat.le_of_ble_eq_true rfl, Nat.le_of_ble_eq_true rfl⟩ (fun v a1 z1 hq => ?_)
  obtain ⟨rfl, rfl, hf1, hU⟩ := hq
  have e : ∀ q : Nat, q < 3 → a1 q = b0 q := fun q hq => (hf1 q (by omega)).trans (hset_n (by omega))
  have hO := (e 0 (by omega)).trans hO
  have hB : ∀ q : Nat, 11 ≤ q → a1 q = h q := fun q hq => ((hf1 q (by omega)).trans (hset_n (by omega))).trans (hB q (by omega))
  have hX := hX.kept (e 1 (by omega)) (e 2 (by omega))
  refine RO_putF dX7_init_26 fX7_21 tX7_1 rfl (fun C T N q => by cases q; rfl) (OB.mk hO) (Nat.le_of_ble_eq_true rfl) rfl rfl (fun b1 hx => ?_)
  have hO := hx.1
  have e : ∀ q : Nat, 0 < q → b1 q = a1 q := fun q hq => hx.2 q (by omega)
  have hB : ∀ q : Nat, 11 ≤ q → b1 q = h q := fun q hq => (e q (by omega)).trans (hB q hq)
  have hX := hX.kept (e 1 (by omega)) (e 2 (by omega))
  have hU := hU.kept (fun q q1 q2 => e q (by omega))
  refine V_aload_n dX7_init_29 rfl ?_
  refine V_new dX7_init_30 nX7_7 rfl ⟨Nat.le_of_ble_eq_true rfl, Nat.le_of_ble_eq_true rfl⟩ ?_
  refine V_dup dX7_init_33 rfl ?_
  refine J_bipush dX7_init_34 (by decide) ?_
  refine V_callI (Y' := YX4_init) dX7_init_36 lX7_11 gX4_init (m4_init (a := 11) (cap := 6) (by decide) hset_s) rfl rfl (Nat.le_of_ble_eq_true rfl) ⟨Nat.le_of_ble_eq_true rfl, Nat.le_of_ble_eq_true rfl⟩ (fun v a2 z2 hq => ?_)
  obtain ⟨rfl, rfl, hf2, hM⟩ := hq
  have e : ∀ q : Nat, q < 11 → a2 q = b1 q := fun q hq => (hf2 q (by omega)).trans (hset_n (by omega))
  have hO := (e 0 (by omega)).trans hO
  have hB : ∀ q : Nat, 13 ≤ q → a2 q = h q := fun q hq => ((hf2 q (by omega)).trans (hset_n (by omega))).trans (hB q (by omega))
  have hX := hX.kept (e 1 (by omega)) (e 2 (by omega))
  have hU := hU.kept (fun q q1 q2 => e q (by omega))
  refine RO_putF dX7_init_39 fX7_25 tX7_2 rfl (fun C T N q => by cases q; rfl) (OB.mk hO) (Nat.le_of_ble_eq_true rfl) rfl rfl (fun b2 hx => ?_)
  have hO := hx.1
  have e : ∀ q : Nat, 0 < q → b2 q = a2 q := fun q hq => hx.2 q (by omega)
  have hB : ∀ q : Nat, 13 ≤ q → b2 q = h q := fun q hq => (e q (by omega)).trans (hB q hq)
  have hX := hX.kept (e 1 (by omega)) (e 2 (by omega))
  have hU := hU.kept (fun q q1 q2 => e q (by omega))
  have hM := hM.kept (e 11 (by omega)) (e 12 (by omega))
  refine V_aload_n dX7_init_42 rfl ?_
  refine V_new dX7_init_43 nX7_28 rfl ⟨Nat.le_of_ble_eq_true rfl, Nat.le_of_ble_eq_true rfl⟩ ?_
  refine V_dup dX7_init_46 rfl ?_
  refine V_callI (Y' := YX2_init) dX7_init_47 lX7_30 gX2_init (m2_init hset_s) rfl rfl (Nat.le_of_ble_eq_true rfl) ⟨Nat.le_of_ble_eq_true rfl, Nat.le_of_ble_eq_true rfl⟩ (fun v a3 z3 hq => ?_)
  obtain ⟨rfl, rfl, hf3, hH⟩ := hq
  have hH := hH 100 rfl
  have e : ∀ q : Nat, q < 13 → a3 q = b2 q := fun q hq => (hf3 q (by omega)).trans (hset_n (by omega))
  have hO := (e 0 (by omega)).trans hO
  have hB : ∀ q : Nat, 99 ≤ q → a3 q = h q := fun q hq => ((hf3 q (by omega)).trans (hset_n (by omega))).trans (hB q (by omega))
  have hX := hX.kept (e 1 (by omega)) (e 2 (by omega))
  have hU := hU.kept (fun q q1 q2 => e q (by omega))
  have hM := hM.kept (e 11 (by omega)) (e 12 (by omega))
  refine RO_putF dX7_init_50 fX7_31 tX7_3 rfl (fun C T N q => by cases q; rfl) (OB.mk hO) (Nat.le_of_ble_eq_true rfl) rfl rfl (fun b3 hx => ?_)
  have hO := hx.1
  have e : ∀ q : Nat, 0 < q → b3 q = a3 q := fun q hq => hx.2 q (by omega)
  have hB : ∀ q : Nat, 99 ≤ q → b3 q = h q := fun q hq => (e q (by omega)).trans (hB q hq)
  have hX := hX.kept (e 1 (by omega)) (e 2 (by omega))
  have hU := hU.kept (fun q q1 q2 => e q (by omega))
  have hM := hM.kept (e 11 (by omega)) (e 12 (by omega))
  have hH := hH.kept (fun q hq => e q (by omega))
  refine V_aload_n dX7_init_53 rfl ?_
  refine V_new dX7_init_54 nX7_35 rfl ⟨Nat.le_of_ble_eq_true rfl, Nat.le_of_ble_eq_true rfl⟩ ?_
  refine V_dup dX7_init_57 rfl ?_
  refine V_callIN (Y' := YX0_init) dX7_init_58 lX7_37 gX0_init m0_init rfl rfl (Nat.le_of_ble_eq_true rfl) ⟨Nat.le_of_ble_eq_true rfl, Nat.le_of_ble_eq_true rfl⟩ (fun v a4 z4 hq => ?_)
  obtain ⟨rfl, rfl, rfl⟩ := hq
  have hT := hset_s (h := b3) (a := 99) (c := (.inl (0, [.int 0, .long 0, .int 0]) : AC))
  generalize hG : hset b3 99 (.inl (0, [.int 0, .long 0, .int 0])) = a4 at hT
  have e0 : ∀ q : Nat, q ≠ 99 → a4 q = b3 q := fun q hq => by rw [← hG]; exact hset_n hq
  have e : ∀ q : Nat, q < 99 → a4 q = b3 q := fun q hq => e0 q (by omega)
  have hO := (e 0 (by omega)).trans hO
  have hB : ∀ q : Nat, 100 ≤ q → a4 q = h q := fun q hq => (e0 q (by omega)).trans (hB q (by omega))
  have hX := hX.kept (e 1 (by omega)) (e 2 (by omega))
  have hU := hU.kept (fun q q1 q2 => e q (by omega))
  have hM := hM.kept (e 11 (by omega)) (e 12 (by omega))
  have hH := hH.kept (fun q hq => e q (by omega))
  refine RO_putF dX7_init_61 fX7_38 tX7_4 rfl (fun C T N q => by cases q; rfl) (OB.mk hO) (Nat.le_of_ble_eq_true rfl) rfl rfl (fun b4 hx => ?_)
  have hO := hx.1
  have e : ∀ q : Nat, 0 < q → b4 q = a4 q := fun q hq => hx.2 q (by omega)
  have hB : ∀ q : Nat, 100 ≤ q → b4 q = h q := fun q hq => (e q (by omega)).trans (hB q hq)
  have hX := hX.kept (e 1 (by omega)) (e 2 (by omega))
  have hU := hU.kept (fun q q1 q2 => e q (by omega))
  have hM := hM.kept (e 11 (by omega)) (e 12 (by omega))
  have hH := hH.kept (fun q hq => e q (by omega))
  have hT := (e 99 (by omega)).trans hT
  refine V_aload_n dX7_init_64 rfl ?_
  refine V_new dX7_init_65 nX7_42 rfl ⟨Nat.le_of_ble_eq_true rfl, Nat.le_of_ble_eq_true rfl⟩ ?_
  refine V_dup dX7_init_68 rfl ?_
  refine V_callIN (Y' := YX6_init) dX7_init_69 lX7_44 gX6_init (m6_init (s := 100) hset_s) rfl rfl (Nat.le_of_ble_eq_true rfl) ⟨Nat.le_of_ble_eq_true rfl, Nat.le_of_ble_eq_true rfl⟩ (fun v a5 z5 hq => ?_)
  obtain ⟨rfl, rfl, hf5, hC⟩ := hq
  have e : ∀ q : Nat, q < 100 → a5 q = b4 q := fun q hq => (hf5 q (by omega)).trans (hset_n (by omega))
  have hO := (e 0 (by omega)).trans hO
  have hB : ∀ q : Nat, 114 ≤ q → a5 q = h q := fun q hq => ((hf5 q (by omega)).trans (hset_n (by omega))).trans (hB q (by omega))
  have hX := hX.kept (e 1 (by omega)) (e 2 (by omega))
  have hU := hU.kept (fun q q1 q2 => e q (by omega))
  have hM := hM.kept (e 11 (by omega)) (e 12 (by omega))
  have hH := hH.kept (fun q hq => e q (by omega))
  have hT := (e 99 (by omega)).trans hT
  refine RO_put dX7_init_72 fX7_45 tX7_5 (OB.mk hO) (Nat.le_of_ble_eq_true rfl) rfl rfl (fun b5 hx => ?_)
  have hO := hx.1
  have e : ∀ q : Nat, 0 < q → b5 q = a5 q := fun q hq => hx.2 q (by omega)
  have hB : ∀ q : Nat, 114 ≤ q → b5 q = h q := fun q hq => (e q (by omega)).trans (hB q hq)
  have hX := hX.kept (e 1 (by omega)) (e 2 (by omega))
  have hU := hU.kept (fun q q1 q2 => e q (by omega))
  have hM := hM.kept (e 11 (by omega)) (e 12 (by omega))
  have hH := hH.kept (fun q hq => e q (by omega))
  have hT := (e 99 (by omega)).trans hT
  have hC := hC.kept (fun q q1 q2 => e q (by omega))
  have hE : EN b5 100 0 zch 0 (fun _ => 0) 0 0 (fun _ => 0) := ⟨hO, hX.to (fun j hj => by omega), ⟨0, 0, fun _ => 0, fun _ => 0, ⟨Int.le_refl _, by decide⟩, ⟨Int.le_refl _, by decide⟩, fun j hj => ⟨Int.le_refl _, show (0 : Int) ≤ 9999 by decide⟩, hU⟩, hM, hH, ⟨0, 0, 0, ⟨Int.le_refl _, by decide⟩, hT⟩, hC, ⟨by decide, by decide, by decide⟩⟩
  refine J_iconst dX7_init_75 ?_
  refine V_istore_n dX7_init_76 (Nat.le_of_ble_eq_true rfl) ?_
  refine l7_in_77 (g0 := b5) (fun h5 hF hE => ?_) 35 0 b5 (by omega) (by omega) fr.rf hE ⟨Nat.le_of_ble_eq_true rfl, Nat.le_of_ble_eq_true rfl⟩
  refine V_aload_n dX7_init_106 rfl ?_
  refine V_callV (Y' := YX7_readSetup) dX7_init_107 lX7_65 gX7_readSetup (m7_readSetup (RA := rz0) hE (by decide) zch_rg (fun j hj => ⟨Int.le_refl _, show (0 : Int) ≤ 9999 by decide⟩)) hE.1 rfl rfl rfl (Nat.le_of_ble_eq_true rfl) ⟨Nat.le_of_ble_eq_true rfl, Nat.le_of_ble_eq_true rfl⟩ (fun v h6 sz6 hq => ?_)
  rw [fst_all] at hq
  obtain ⟨rfl, hf, rfl, hq⟩ := hq
  rcases hq with ⟨_, hk, hD⟩ | ⟨q, _⟩
  rotate_left
  · exact absurd rfl q
  have hE := hE.setD hf ⟨_, _, _, _, hk.2.1, rok8 hk.2.2.2, hk.2.2.1, hD⟩
  have hF := hF.then (hf.up (by omega))
  refine V_pop dX7_init_110 rfl ?_
  refine V_aload_n dX7_init_111 rfl ?_
  refine V_callV (Y' := YX7_startFromDraft) dX7_init_112 lX7_68 gX7_startFromDraft (m7_startFromDraft hE ⟨Int.le_refl _, by decide⟩ ⟨Int.le_refl _, by decide⟩ hk.2.1 (rok8 hk.2.2.2) hD) hE.1 rfl rfl rfl (Nat.le_of_ble_eq_true rfl) ⟨Nat.le_of_ble_eq_true rfl, Nat.le_of_ble_eq_true rfl⟩ (fun v h7 sz7 hq => ?_)
  obtain ⟨rfl, rfl, hf2, hE⟩ := hq
  have hF := hF.then hf2
  rw [fst_nw, fst_ra] at hE
  refine V_aload_n dX7_init_115 rfl ?_
  refine V_get dX7_init_116 fX7_14 hE.1 rfl ?_
  refine V_callV (Y' := YX4_clear) dX7_init_119 lX7_71 gX4_clear (m4_clear (by decide) (by decide) hE.t) hE.t.c rfl rfl rfl (Nat.le_of_ble_eq_true rfl) ⟨Nat.le_of_ble_eq_true rfl, Nat.le_of_ble_eq_true rfl⟩ (fun v h8 sz8 hq => ?_)
  obtain ⟨rfl, rfl, hf3, hr⟩ := hq
  exact V_ret dX7_init_122 rfl ⟨Nat.le_of_ble_eq_true rfl, Nat.le_of_ble_eq_true rfl⟩ ⟨rfl, rfl, fun q hq => ((hF.then (hf3.up (by omega))) q (by omega)).trans (hB q hq), hE.setT hf3 hr⟩
