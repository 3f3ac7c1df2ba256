/-! THE CLASS: rows (MoireEncoder$Row = X4). A row lies in two cells: the object at a, its array at a + 1 -/
theorem J_toI (x : Int) : (J x).toInt32 = I x := by
  rw [← Int32.toInt_inj]
  unfold J I
  rw [Int64.toInt_toInt32, Int64.toInt_ofInt, Int32.toInt_ofInt]
  exact Int.bmod_bmod_of_dvd (by decide)
section Crules
variable {z : ZG} {Y : ZM} {R : Room} {Q : ZQ} {pc : Nat} {L : AL} {st : List Value} {h : AH} {sz kc nc : Nat}
theorem J_l2i {x : Int} (hd : decode Y.2.1 pc = .ok (.l2i, 1)) (kk : V z Y R Q (pc + 1) L (.int (I x) :: st) h sz kc nc) : V z Y R Q pc L (.long (J x) :: st) h sz kc nc := V_l2i hd (by rw [J_toI]; exact kk)
theorem J_laldk {a n : Nat} {u : Nat → Int64} {i : Int} (k : Nat) (hd : decode Y.2.1 pc = .ok (.laload, 1)) (he : h a = some (.inr (n, .inr (.inl u)))) (hk : i = (k : Int)) (hi : k < n) (hn : n < 2147483648) (kk : V z Y R Q (pc + 1) L (.long (u k) :: st) h sz kc nc) : V z Y R Q pc L (.int (I i) :: .ref a :: st) h sz kc nc := by
  subst hk
  exact V_lald hd he (I_in (by omega) hn) (by rw [I_clamp (by omega), Int.toNat_natCast]; exact kk)
theorem J_alen {a : Nat} {x : vp_A} (hd : decode Y.2.1 pc = .ok (.arraylength, 1)) (he : h a = some (.inr x)) (kk : V z Y R Q (pc + 1) L (.int (I (x.1 : Int)) :: st) h sz kc nc) : V z Y R Q pc L (.ref a :: st) h sz kc nc := V_alen hd he (by rw [I_nat]; exact kk)
/-- the row, with every place of its array; outside its two cells the heap is g -/
def RWx (g : AH) (a cap : Nat) (n : Int) (u : Nat → Int64) (h : AH) : Prop := h a = some (.inl (4, [.ref (a + 1), .int (I n)])) ∧ h (a + 1) = some (.inr (cap, .inr (.inl u))) ∧ ∀ x, x < a ∨ a + 2 ≤ x → h x = g x
/-- the row, told as far as it is filled -/
def RW (h : AH) (a cap : Nat) (n : Int) (f : Nat → Int) : Prop := ∃ u : Nat → Int64, (h a = some (.inl (4, [.ref (a + 1), .int (I n)])) ∧ h (a + 1) = some (.inr (cap, .inr (.inl u)))) ∧ ∀ j : Nat, (j : Int) < n → u j = J (f j)
theorem RW.to {h : AH} {a cap : Nat} {n : Int} {f f2 : Nat → Int} (r : RW h a cap n f) (e : ∀ j : Nat, (j : Int) < n → f j = f2 j) : RW h a cap n f2 := by
  obtain ⟨u, h1, h2⟩ := r
  exact ⟨u, h1, fun j hj => by rw [h2 j hj, e j hj]⟩
theorem RW.kept {h h2 : AH} {a cap : Nat} {n : Int} {f : Nat → Int} (r : RW h a cap n f) (e1 : h2 a = h a) (e2 : h2 (a + 1) = h (a + 1)) : RW h2 a cap n f := by
  obtain ⟨u, h1, h3⟩ := r
  exact ⟨u, ⟨e1.trans h1.1, e2.trans h1.2⟩, h3⟩
/-- outside [lo, hi) nothing has changed -/
def fr (h h2 : AH) (lo hi : Nat) : Prop := ∀ x, x < lo ∨ hi ≤ x → h2 x = h x
theorem fr.rf {h : AH} {lo hi : Nat} : fr h h lo hi := fun _ _ => rfl
theorem fr.wide {h h2 : AH} {lo hi lo2 hi2 : Nat} (f : fr h h2 lo hi) (h1 : lo2 ≤ lo) (h3 : hi ≤ hi2) : fr h h2 lo2 hi2 := fun x hx => f x (by omega)
theorem fr.then {h h2 h3 : AH} {lo hi : Nat} (f : fr h h2 lo hi) (f2 : fr h2 h3 lo hi) : fr h h3 lo hi := fun x hx => (f2 x hx).trans (f x hx)
theorem R4_put {g : AH} {a cap i : Nat} {n x : Int} {u : Nat → Int64} (hd : decode Y.2.1 pc = .ok (.putfield i, 3)) (hw : ZF Y.1.cls i 4 1) (hx : RWx g a cap n u h) (kk : ∀ h' : AH, RWx g a cap x u h' → V z Y R Q (pc + 3) L st h' sz kc nc) : V z Y R Q pc L (.int (I x) :: .ref a :: st) h sz kc nc := by
  refine V_put hd hw tX4_1 hx.1 (Nat.le_of_ble_eq_true rfl) rfl rfl (kk _ ⟨hset_s, (hset_n (by omega)).trans hx.2.1, fun q hq => (hset_n (by omega)).trans (hx.2.2 q hq)⟩)
theorem R4_last {g : AH} {a cap : Nat} {n : Int} {u : Nat → Int64} {i : Int} {x : Int64} (k : Nat) (hd : decode Y.2.1 pc = .ok (.lastore, 1)) (hx : RWx g a cap n u h) (hk : i = (k : Int)) (hi : k < cap) (hn : cap < 2147483648) (kk : ∀ h' : AH, RWx g a cap n (vp_updL u k x) h' → V z Y R Q (pc + 1) L st h' sz kc nc) : V z Y R Q pc L (.long x :: .int (I i) :: .ref (a + 1) :: st) h sz kc nc := by
  subst hk
  refine V_last hd hx.2.1 (I_in (by omega) hn) (kk _ ?_)
  rw [I_clamp (by omega), Int.toNat_natCast]
  exact ⟨(hset_n (by omega)).trans hx.1, hset_s, fun q hq => (hset_n (by omega)).trans (hx.2.2 q hq)⟩
end Crules
set_option maxHeartbeats 4000000 in
set_option maxRecDepth 100000 in
theorem m4_size {z : ZG} {d sz a cap : Nat} {h : AH} {n : Int} {f : Nat → Int} (hc : cap < 10000) (hn : 0 ≤ n ∧ n ≤ cap) (hr : RW h a cap n f) : M z YX4_size d 0 0 [.ref a] h sz (fun w h' sz' => w = some (.int (I n)) ∧ h' = h ∧ sz' = sz) := by
  obtain ⟨u, hu1, hu⟩ := hr
  have hx : RWx h a cap n u h := ⟨hu1.1, hu1.2, fun _ _ => rfl⟩
  have hcap : cap < 2147483648 := by omega
  refine M.of (by decide +kernel) (Nat.le_of_ble_eq_true rfl) ?_
  refine V_aload_n dX4_size_0 rfl ?_
  refine V_get dX4_size_1 fX4_19 hx.1 rfl ?_
  exact V_iret dX4_size_4 rfl rfl ⟨Nat.zero_le _, Nat.zero_le _⟩ ⟨rfl, rfl, rfl⟩
set_option maxHeartbeats 4000000 in
set_option maxRecDepth 100000 in
theorem m4_isFull {z : ZG} {d sz a cap : Nat} {h : AH} {n : Int} {f : Nat → Int} (hc : cap < 10000) (hn : 0 ≤ n ∧ n ≤ cap) (hr : RW h a cap n f) : M z YX4_isFull d 0 0 [.ref a] h sz (fun w h' sz' => ∃ t : Int, w = some (.int (I t)) ∧ ((t = 1 ∧ ((cap : Int) ≤ n)) ∨ (t = 0 ∧ ¬ ((cap : Int) ≤ n))) ∧ h' = h ∧ sz' = sz) := by
  obtain ⟨u, hu1, hu⟩ := hr
  have hx : RWx h a cap n u h := ⟨hu1.1, hu1.2, fun _ _ => rfl⟩
  have hcap : cap < 2147483648 := by omega
  refine M.of (by decide +kernel) (Nat.le_of_ble_eq_true rfl) ?_
  refine V_aload_n dX4_isFull_0 rfl ?_
  refine V_get dX4_isFull_1 fX4_19 hx.1 rfl ?_
  refine V_aload_n dX4_isFull_4 rfl ?_
  refine V_get dX4_isFull_5 fX4_13 hx.1 rfl ?_
  refine J_alen dX4_isFull_8 hx.2.1 ?_
  refine J_icmp_lt (tgt := 16) dX4_isFull_9 (by decide) (by omega) (by omega) (fun c9 => ?_) (fun c9 => ?_)
  · refine J_iconst dX4_isFull_16 ?_
    exact V_iret dX4_isFull_17 rfl rfl ⟨Nat.zero_le _, Nat.zero_le _⟩ ⟨_, rfl, by omega, rfl, rfl⟩
  · refine J_iconst dX4_isFull_12 ?_
    refine V_goto (tgt := 17) dX4_isFull_13 (by decide) ?_
    exact V_iret dX4_isFull_17 rfl rfl ⟨Nat.zero_le _, Nat.zero_le _⟩ ⟨_, rfl, by omega, rfl, rfl⟩
set_option maxHeartbeats 4000000 in
set_option maxRecDepth 100000 in
theorem m4_has {z : ZG} {d sz a cap : Nat} {h : AH} {n : Int} {f : Nat → Int} (hc : cap < 10000) (hn : 0 ≤ n ∧ n ≤ cap) (hr : RW h a cap n f) {i : Int} (hi : -2147483648 ≤ i ∧ i < 2147483648) : M z YX4_has d 0 0 [.ref a, .int (I i)] h sz (fun w h' sz' => ∃ t : Int, w = some (.int (I t)) ∧ ((t = 1 ∧ (0 ≤ i ∧ i < n)) ∨ (t = 0 ∧ ¬ (0 ≤ i ∧ i < n))) ∧ h' = h ∧ sz' = sz) := by
  obtain ⟨u, hu1, hu⟩ := hr
  have hx : RWx h a cap n u h := ⟨hu1.1, hu1.2, fun _ _ => rfl⟩
  have hcap : cap < 2147483648 := by omega
  refine M.of (by decide +kernel) (Nat.le_of_ble_eq_true rfl) ?_
  refine V_iload_n dX4_has_0 rfl ?_
  refine J_if_lt (tgt := 25) dX4_has_1 (by decide) (by omega) (fun c1 => ?_) (fun c1 => ?_)
  · refine J_iconst dX4_has_25 ?_
    exact V_iret dX4_has_26 rfl rfl ⟨Nat.zero_le _, Nat.zero_le _⟩ ⟨_, rfl, by omega, rfl, rfl⟩
  · refine V_iload_n dX4_has_4 rfl ?_
    refine V_aload_n dX4_has_5 rfl ?_
    refine V_get dX4_has_6 fX4_19 hx.1 rfl ?_
    refine J_icmp_ge (tgt := 25) dX4_has_9 (by decide) (by omega) (by omega) (fun c9 => ?_) (fun c9 => ?_)
    · refine J_iconst dX4_has_25 ?_
      exact V_iret dX4_has_26 rfl rfl ⟨Nat.zero_le _, Nat.zero_le _⟩ ⟨_, rfl, by omega, rfl, rfl⟩
    · refine V_iload_n dX4_has_12 rfl ?_
      refine V_aload_n dX4_has_13 rfl ?_
      refine V_get dX4_has_14 fX4_13 hx.1 rfl ?_
      refine J_alen dX4_has_17 hx.2.1 ?_
      refine J_icmp_ge (tgt := 25) dX4_has_18 (by decide) (by omega) (by omega) (fun c18 => ?_) (fun c18 => ?_)
      · refine J_iconst dX4_has_25 ?_
        exact V_iret dX4_has_26 rfl rfl ⟨Nat.zero_le _, Nat.zero_le _⟩ ⟨_, rfl, by omega, rfl, rfl⟩
      · refine J_iconst dX4_has_21 ?_
        refine V_goto (tgt := 26) dX4_has_22 (by decide) ?_
        exact V_iret dX4_has_26 rfl rfl ⟨Nat.zero_le _, Nat.zero_le _⟩ ⟨_, rfl, by omega, rfl, rfl⟩
/-- what a row tells at an index -/
def rat (n : Int) (f : Nat → Int) (i : Int) : Int := if 0 ≤ i ∧ i < n then f i.toNat else 0
set_option maxHeartbeats 4000000 in
set_option maxRecDepth 100000 in
theorem m4_longAt {z : ZG} {d sz a cap : Nat} {h : AH} {n : Int} {f : Nat → Int} (hc : cap < 10000) (hn : 0 ≤ n ∧ n ≤ cap) (hr : RW h a cap n f) {i : Int} (hi : -2147483648 ≤ i ∧ i < 2147483648) : M z YX4_longAt (d + 1) 0 0 [.ref a, .int (I i)] h sz (fun w h' sz' => w = some (.long (J (rat n f i))) ∧ h' = h ∧ sz' = sz) := by
  obtain ⟨u, hu1, hu⟩ := hr
  have hx : RWx h a cap n u h := ⟨hu1.1, hu1.2, fun _ _ => rfl⟩
  have hcap : cap < 2147483648 := by omega
  refine M.of (by decide +kernel) (Nat.le_of_ble_eq_true rfl) ?_
  refine V_aload_n dX4_longAt_0 rfl ?_
  refine V_iload_n dX4_longAt_1 rfl ?_
  refine V_callV (Y' := YX4_has) dX4_longAt_2 lX4_23 gX4_has (m4_has hc hn ⟨u, ⟨hx.1, hx.2.1⟩, hu⟩ hi) hx.1 rfl rfl rfl (Nat.le_of_ble_eq_true rfl) ⟨Nat.zero_le _, Nat.zero_le _⟩ (fun v h1 sz1 hq => ?_)
  obtain ⟨t, rfl, ht, rfl, rfl⟩ := hq
  refine J_if_eq (tgt := 17) dX4_longAt_5 (by decide) (by omega) (fun c5 => ?_) (fun c5 => ?_)
  · refine J_lconst0 dX4_longAt_17 ?_
    exact V_lret dX4_longAt_18 rfl ⟨Nat.zero_le _, Nat.zero_le _⟩ ⟨by unfold rat; first | rw [if_pos (by omega)] | rw [if_neg (by omega)], rfl, rfl⟩
  · refine V_aload_n dX4_longAt_8 rfl ?_
    refine V_get dX4_longAt_9 fX4_13 hx.1 rfl ?_
    refine V_iload_n dX4_longAt_12 rfl ?_
    refine J_laldk i.toNat dX4_longAt_13 hx.2.1 (by omega) (by omega) hcap ?_
    rw [hu i.toNat (by omega)]
    refine V_goto (tgt := 18) dX4_longAt_14 (by decide) ?_
    exact V_lret dX4_longAt_18 rfl ⟨Nat.zero_le _, Nat.zero_le _⟩ ⟨by unfold rat; first | rw [if_pos (by omega)] | rw [if_neg (by omega)], rfl, rfl⟩
set_option maxHeartbeats 4000000 in
set_option maxRecDepth 100000 in
theorem m4_intAt {z : ZG} {d sz a cap : Nat} {h : AH} {n : Int} {f : Nat → Int} (hc : cap < 10000) (hn : 0 ≤ n ∧ n ≤ cap) (hr : RW h a cap n f) {i : Int} (hi : -2147483648 ≤ i ∧ i < 2147483648) : M z YX4_intAt (d + 2) 0 0 [.ref a, .int (I i)] h sz (fun w h' sz' => w = some (.int (I (rat n f i))) ∧ h' = h ∧ sz' = sz) := by
  obtain ⟨u, hu1, hu⟩ := hr
  have hx : RWx h a cap n u h := ⟨hu1.1, hu1.2, fun _ _ => rfl⟩
  have hcap : cap < 2147483648 := by omega
  refine M.of (by decide +kernel) (Nat.le_of_ble_eq_true rfl) ?_
  refine V_aload_n dX4_intAt_0 rfl ?_
  refine V_iload_n dX4_intAt_1 rfl ?_
  refine V_callV (Y' := YX4_longAt) dX4_intAt_2 lX4_27 gX4_longAt (m4_longAt hc hn ⟨u, ⟨hx.1, hx.2.1⟩, hu⟩ hi) hx.1 rfl rfl rfl (Nat.le_of_ble_eq_true rfl) ⟨Nat.zero_le _, Nat.zero_le _⟩ (fun v h1 sz1 hq => ?_)
  obtain ⟨rfl, rfl, rfl⟩ := hq
  refine J_l2i dX4_intAt_5 ?_
  exact V_iret dX4_intAt_6 rfl rfl ⟨Nat.zero_le _, Nat.zero_le _⟩ ⟨rfl, rfl, rfl⟩
set_option maxHeartbeats 4000000 in
set_option maxRecDepth 100000 in
theorem m4_clear {z : ZG} {d sz a cap : Nat} {h : AH} {n : Int} {f : Nat → Int} (hc : cap < 10000) (hn : 0 ≤ n ∧ n ≤ cap) (hr : RW h a cap n f) : M z YX4_clear d 0 0 [.ref a] h sz (fun w h' sz' => w = none ∧ sz' = sz ∧ fr h h' a (a + 2) ∧ RW h' a cap (0) (f)) := by
  obtain ⟨u, hu1, hu⟩ := hr
  have hx : RWx h a cap n u h := ⟨hu1.1, hu1.2, fun _ _ => rfl⟩
  have hcap : cap < 2147483648 := by omega
  refine M.of (by decide +kernel) (Nat.le_of_ble_eq_true rfl) ?_
  refine V_aload_n dX4_clear_0 rfl ?_
  refine J_iconst dX4_clear_1 ?_
  refine R4_put dX4_clear_2 fX4_19 hx (fun h hx => ?_)
  exact V_ret dX4_clear_5 rfl ⟨Nat.zero_le _, Nat.zero_le _⟩ ⟨rfl, rfl, hx.2.2, u, ⟨hx.1, hx.2.1⟩, fun j hj => by omega⟩
set_option maxHeartbeats 4000000 in
set_option maxRecDepth 100000 in
theorem m4_add {z : ZG} {d sz a cap : Nat} {h : AH} {n : Int} {f : Nat → Int} (hc : cap < 10000) (hn : 0 ≤ n ∧ n ≤ cap) (hr : RW h a cap n f) {v : Int} : M z YX4_add d 0 0 [.ref a, .long (J v)] h sz (fun w h' sz' => w = none ∧ sz' = sz ∧ fr h h' a (a + 2) ∧ ((n < cap ∧ RW h' a cap (n + 1) (va_up f n.toNat v)) ∨ (¬ n < cap ∧ RW h' a cap (n) (f)))) := by
  obtain ⟨u, hu1, hu⟩ := hr
  have hx : RWx h a cap n u h := ⟨hu1.1, hu1.2, fun _ _ => rfl⟩
  have hcap : cap < 2147483648 := by omega
  refine M.of (by decide +kernel) (Nat.le_of_ble_eq_true rfl) ?_
  refine V_aload_n dX4_add_0 rfl ?_
  refine V_get dX4_add_1 fX4_19 hx.1 rfl ?_
  refine J_if_lt (tgt := 39) dX4_add_4 (by decide) (by omega) (fun c4 => ?_) (fun c4 => ?_)
  · exact V_ret dX4_add_39 rfl ⟨Nat.zero_le _, Nat.zero_le _⟩ ⟨rfl, rfl, hx.2.2, by first | exact Or.inr ⟨by omega, u, ⟨hx.1, hx.2.1⟩, hu⟩ | exact Or.inl ⟨by omega, _, ⟨hx.1, hx.2.1⟩, fun j hj => by unfold vp_updL va_up; split <;> first | rfl | exact hu j (by omega)⟩⟩
  · refine V_aload_n dX4_add_7 rfl ?_
    refine V_get dX4_add_8 fX4_19 hx.1 rfl ?_
    refine V_aload_n dX4_add_11 rfl ?_
    refine V_get dX4_add_12 fX4_13 hx.1 rfl ?_
    refine J_alen dX4_add_15 hx.2.1 ?_
    refine J_icmp_ge (tgt := 39) dX4_add_16 (by decide) (by omega) (by omega) (fun c16 => ?_) (fun c16 => ?_)
    · exact V_ret dX4_add_39 rfl ⟨Nat.zero_le _, Nat.zero_le _⟩ ⟨rfl, rfl, hx.2.2, by first | exact Or.inr ⟨by omega, u, ⟨hx.1, hx.2.1⟩, hu⟩ | exact Or.inl ⟨by omega, _, ⟨hx.1, hx.2.1⟩, fun j hj => by unfold vp_updL va_up; split <;> first | rfl | exact hu j (by omega)⟩⟩
    · refine V_aload_n dX4_add_19 rfl ?_
      refine V_get dX4_add_20 fX4_13 hx.1 rfl ?_
      refine V_aload_n dX4_add_23 rfl ?_
      refine V_get dX4_add_24 fX4_19 hx.1 rfl ?_
      refine V_lload_n dX4_add_27 rfl ?_
      refine R4_last n.toNat dX4_add_28 hx (by omega) (by omega) hcap (fun h hx => ?_)
      refine V_aload_n dX4_add_29 rfl ?_
      refine V_dup dX4_add_30 rfl ?_
      refine V_get dX4_add_31 fX4_19 hx.1 rfl ?_
      refine J_iconst dX4_add_34 ?_
      refine J_iadd dX4_add_35 ?_
      refine R4_put dX4_add_36 fX4_19 hx (fun h hx => ?_)
      exact V_ret dX4_add_39 rfl ⟨Nat.zero_le _, Nat.zero_le _⟩ ⟨rfl, rfl, hx.2.2, by first | exact Or.inr ⟨by omega, u, ⟨hx.1, hx.2.1⟩, hu⟩ | exact Or.inl ⟨by omega, _, ⟨hx.1, hx.2.1⟩, fun j hj => by unfold vp_updL va_up; split <;> first | rfl | exact hu j (by omega)⟩⟩
def rpf (f : Nat → Int) (v : Int) (j : Nat) : Int := if j = 0 then v else f (j - 1)
set_option maxHeartbeats 4000000 in
set_option maxRecDepth 100000 in
theorem l4_addFirst_30 {z : ZG} {d sz a cap : Nat} {g : AH} {n : Int} {v : Int64} {u0 : Nat → Int64} (hc0 : 0 < cap) (hcap : cap < 2147483648) : ∀ (i : Nat) (u : Nat → Int64) (h : AH), i < cap → (∀ j : Nat, j < cap → u j = if i < j then u0 (j - 1) else u0 j) → RWx g a cap n u h → V z YX4_addFirst (zroom d 0 0) (fun w h' sz' => w = none ∧ sz' = sz ∧ fr g h' a (a + 2) ∧ ∃ u2 : Nat → Int64, (h' a = some (.inl (4, [.ref (a + 1), .int (I n)])) ∧ h' (a + 1) = some (.inr (cap, .inr (.inl u2)))) ∧ u2 0 = v ∧ ∀ j : Nat, 0 < j → j < cap → u2 j = u0 (j - 1)) 30 [some (.ref a), some (.long v), none, some (.int (I (i : Int)))] [] h sz 0 0 := by
  intro i
  induction i with
  | zero =>
    intro u h h1 hz hx
    refine V_iload_n dX4_addFirst_30 rfl ?_
    refine J_if_le (tgt := 54) dX4_addFirst_31 (by decide) (by omega) (fun c31 => ?_) (fun c31 => ?_)
    · refine V_aload_n dX4_addFirst_54 rfl ?_
      refine V_get dX4_addFirst_55 fX4_13 hx.1 rfl ?_
      refine J_alen dX4_addFirst_58 hx.2.1 ?_
      refine J_if_le (tgt := 69) dX4_addFirst_59 (by decide) (by omega) (fun c59 => ?_) (fun c59 => ?_)
      · exact V_ret dX4_addFirst_69 rfl ⟨Nat.zero_le _, Nat.zero_le _⟩ ⟨rfl, rfl, hx.2.2, _, ⟨hx.1, hx.2.1⟩, by first | rfl | (exfalso; omega), fun j hj hj2 => by first | (exfalso; omega) | (unfold vp_updL; rw [if_neg (by omega), hz j hj2, if_pos hj])⟩
      · refine V_aload_n dX4_addFirst_62 rfl ?_
        refine V_get dX4_addFirst_63 fX4_13 hx.1 rfl ?_
        refine J_iconst dX4_addFirst_66 ?_
        refine V_lload_n dX4_addFirst_67 rfl ?_
        refine R4_last 0 dX4_addFirst_68 hx rfl (by omega) hcap (fun h hx => ?_)
        exact V_ret dX4_addFirst_69 rfl ⟨Nat.zero_le _, Nat.zero_le _⟩ ⟨rfl, rfl, hx.2.2, _, ⟨hx.1, hx.2.1⟩, by first | rfl | (exfalso; omega), fun j hj hj2 => by first | (exfalso; omega) | (unfold vp_updL; rw [if_neg (by omega), hz j hj2, if_pos hj])⟩
    · exfalso
      omega
  | succ i ih =>
    intro u h h1 hz hx
    rw [show ((i + 1 : Nat) : Int) = (i : Int) + 1 by omega]
    refine V_iload_n dX4_addFirst_30 rfl ?_
    refine J_if_le (tgt := 54) dX4_addFirst_31 (by decide) (by omega) (fun c31 => ?_) (fun c31 => ?_)
    · exfalso
      omega
    · refine V_aload_n dX4_addFirst_34 rfl ?_
      refine V_get dX4_addFirst_35 fX4_13 hx.1 rfl ?_
      refine V_iload_n dX4_addFirst_38 rfl ?_
      refine V_aload_n dX4_addFirst_39 rfl ?_
      refine V_get dX4_addFirst_40 fX4_13 hx.1 rfl ?_
      refine V_iload_n dX4_addFirst_43 rfl ?_
      refine J_iconst dX4_addFirst_44 ?_
      refine J_isub dX4_addFirst_45 ?_
      refine J_laldk i dX4_addFirst_46 hx.2.1 (by omega) (by omega) hcap ?_
      refine R4_last (i + 1) dX4_addFirst_47 hx (by omega) (by omega) hcap (fun h hx => ?_)
      refine J_iinc dX4_addFirst_48 rfl ?_
      refine V_goto (tgt := 30) dX4_addFirst_51 (by decide) ?_
      rw [show (i : Int) + 1 + -1 = (i : Int) by omega]
      refine ih _ h (by omega) (fun j hj => ?_) hx
      unfold vp_updL
      by_cases q : j = i + 1
      · subst q; rw [if_pos rfl, if_pos (by omega), hz i (by omega), if_neg (by omega)]; rfl
      · rw [if_neg q, hz j hj]; split <;> split <;> first | rfl | omega
set_option maxHeartbeats 4000000 in
set_option maxRecDepth 100000 in
theorem m4_addFirst {z : ZG} {d sz a cap : Nat} {h : AH} {n : Int} {f : Nat → Int} (hc : cap < 10000) (hn : 0 ≤ n ∧ n ≤ cap) (hr : RW h a cap n f) {v : Int} (hc0 : 0 < cap) : M z YX4_addFirst d 0 0 [.ref a, .long (J v)] h sz (fun w h' sz' => w = none ∧ sz' = sz ∧ fr h h' a (a + 2) ∧ ((n < cap ∧ RW h' a cap (n + 1) (rpf f v)) ∨ (¬ n < cap ∧ RW h' a cap (n) (rpf f v)))) := by
  obtain ⟨u, hu1, hu⟩ := hr
  have hx : RWx h a cap n u h := ⟨hu1.1, hu1.2, fun _ _ => rfl⟩
  have hcap : cap < 2147483648 := by omega
  refine M.of (by decide +kernel) (Nat.le_of_ble_eq_true rfl) ?_
  refine V_aload_n dX4_addFirst_0 rfl ?_
  refine V_get dX4_addFirst_1 fX4_19 hx.1 rfl ?_
  refine V_aload_n dX4_addFirst_4 rfl ?_
  refine V_get dX4_addFirst_5 fX4_13 hx.1 rfl ?_
  refine J_alen dX4_addFirst_8 hx.2.1 ?_
  refine J_icmp_ge (tgt := 22) dX4_addFirst_9 (by decide) (by omega) (by omega) (fun c9 => ?_) (fun c9 => ?_)
  · refine V_aload_n dX4_addFirst_22 rfl ?_
    refine V_get dX4_addFirst_23 fX4_13 hx.1 rfl ?_
    refine J_alen dX4_addFirst_26 hx.2.1 ?_
    refine J_iconst dX4_addFirst_27 ?_
    refine J_isub dX4_addFirst_28 ?_
    refine V_istore_n dX4_addFirst_29 (Nat.le_of_ble_eq_true rfl) ?_
    first | (have hnc : n < cap := by omega) | (have hnc : ¬ n < cap := by omega)
    rw [show ((cap : Int) - 1) = ((cap - 1 : Nat) : Int) by omega]
    refine V_mono ?_ (l4_addFirst_30 (u0 := u) (by omega) hcap (cap - 1) u _ (by omega) (fun j hj => by rw [if_neg (by omega)]) hx)
    rintro w h2 sz2 ⟨rfl, rfl, hf, u2, hu2, e0, e1⟩
    refine ⟨rfl, rfl, hf, ?_⟩
    first | refine Or.inl ⟨hnc, u2, hu2, fun j hj => ?_⟩ | refine Or.inr ⟨hnc, u2, hu2, fun j hj => ?_⟩
    all_goals (unfold rpf; by_cases q : j = 0)
    all_goals first | (subst q; rw [if_pos rfl]; exact e0) | (rw [if_neg q, e1 j (by omega) (by omega)]; exact hu (j - 1) (by omega))
  · refine V_aload_n dX4_addFirst_12 rfl ?_
    refine V_dup dX4_addFirst_13 rfl ?_
    refine V_get dX4_addFirst_14 fX4_19 hx.1 rfl ?_
    refine J_iconst dX4_addFirst_17 ?_
    refine J_iadd dX4_addFirst_18 ?_
    refine R4_put dX4_addFirst_19 fX4_19 hx (fun h hx => ?_)
    refine V_aload_n dX4_addFirst_22 rfl ?_
    refine V_get dX4_addFirst_23 fX4_13 hx.1 rfl ?_
    refine J_alen dX4_addFirst_26 hx.2.1 ?_
    refine J_iconst dX4_addFirst_27 ?_
    refine J_isub dX4_addFirst_28 ?_
    refine V_istore_n dX4_addFirst_29 (Nat.le_of_ble_eq_true rfl) ?_
    first | (have hnc : n < cap := by omega) | (have hnc : ¬ n < cap := by omega)
    rw [show ((cap : Int) - 1) = ((cap - 1 : Nat) : Int) by omega]
    refine V_mono ?_ (l4_addFirst_30 (u0 := u) (by omega) hcap (cap - 1) u _ (by omega) (fun j hj => by rw [if_neg (by omega)]) hx)
    rintro w h2 sz2 ⟨rfl, rfl, hf, u2, hu2, e0, e1⟩
    refine ⟨rfl, rfl, hf, ?_⟩
    first | refine Or.inl ⟨hnc, u2, hu2, fun j hj => ?_⟩ | refine Or.inr ⟨hnc, u2, hu2, fun j hj => ?_⟩
    all_goals (unfold rpf; by_cases q : j = 0)
    all_goals first | (subst q; rw [if_pos rfl]; exact e0) | (rw [if_neg q, e1 j (by omega) (by omega)]; exact hu (j - 1) (by omega))
def rrm (f : Nat → Int) (k j : Nat) : Int := if j < k then f j else f (j + 1)
set_option maxHeartbeats 4000000 in
set_option maxRecDepth 100000 in
theorem l4_removeAt_10 {z : ZG} {d sz a cap k : Nat} {g : AH} {n ix : Int} {u0 : Nat → Int64} (hcap : cap < 10000) (hn : 0 < n ∧ n ≤ cap) : ∀ (f i : Nat) (u : Nat → Int64) (h : AH), i < cap → cap - i < f → (∀ j : Nat, j < cap → u j = if k ≤ j ∧ j < i then u0 (j + 1) else u0 j) → k ≤ i → RWx g a cap n u h → V z YX4_removeAt (zroom (d + 1) 0 0) (fun w h' sz' => w = none ∧ sz' = sz ∧ fr g h' a (a + 2) ∧ ∃ u2 : Nat → Int64, (h' a = some (.inl (4, [.ref (a + 1), .int (I (n - 1))])) ∧ h' (a + 1) = some (.inr (cap, .inr (.inl u2)))) ∧ ∀ j : Nat, j + 1 < cap → u2 j = if j < k then u0 j else u0 (j + 1)) 10 [some (.ref a), some (.int (I ix)), some (.int (I (i : Int)))] [] h sz 0 0 := by
  intro f
  induction f with
  | zero => intro i u h h1 h2; omega
  | succ f ih =>
    intro i u h h1 h2 hz hk hx
    have hcap2 := hcap
    have hcap : cap < 2147483648 := by omega
    refine V_iload_n dX4_removeAt_10 rfl ?_
    refine J_iconst dX4_removeAt_11 ?_
    refine J_iadd dX4_removeAt_12 ?_
    refine V_aload_n dX4_removeAt_13 rfl ?_
    refine V_get dX4_removeAt_14 fX4_13 hx.1 rfl ?_
    refine J_alen dX4_removeAt_17 hx.2.1 ?_
    refine J_icmp_ge (tgt := 41) dX4_removeAt_18 (by decide) (by omega) (by omega) (fun c18 => ?_) (fun c18 => ?_)
    · refine V_aload_n dX4_removeAt_41 rfl ?_
      refine V_dup dX4_removeAt_42 rfl ?_
      refine V_get dX4_removeAt_43 fX4_19 hx.1 rfl ?_
      refine J_iconst dX4_removeAt_46 ?_
      refine J_isub dX4_removeAt_47 ?_
      refine R4_put dX4_removeAt_48 fX4_19 hx (fun h hx => ?_)
      exact V_ret dX4_removeAt_51 rfl ⟨Nat.zero_le _, Nat.zero_le _⟩ ⟨rfl, rfl, hx.2.2, _, ⟨hx.1, hx.2.1⟩, fun j hj => by rw [hz j (by omega)]; split <;> split <;> first | rfl | omega⟩
    · refine V_aload_n dX4_removeAt_21 rfl ?_
      refine V_get dX4_removeAt_22 fX4_13 hx.1 rfl ?_
      refine V_iload_n dX4_removeAt_25 rfl ?_
      refine V_aload_n dX4_removeAt_26 rfl ?_
      refine V_get dX4_removeAt_27 fX4_13 hx.1 rfl ?_
      refine V_iload_n dX4_removeAt_30 rfl ?_
      refine J_iconst dX4_removeAt_31 ?_
      refine J_iadd dX4_removeAt_32 ?_
      refine J_laldk (i + 1) dX4_removeAt_33 hx.2.1 (by omega) (by omega) hcap ?_
      refine R4_last i dX4_removeAt_34 hx (by omega) (by omega) hcap (fun h hx => ?_)
      refine J_iinc dX4_removeAt_35 rfl ?_
      refine V_goto (tgt := 10) dX4_removeAt_38 (by decide) ?_
      refine ih (i + 1) _ h (by omega) (by omega) (fun j hj => ?_) (by omega) hx
      unfold vp_updL
      by_cases q : j = i
      · subst q; rw [if_pos rfl, if_pos (by omega), hz (j + 1) (by omega), if_neg (by omega)]
      · rw [if_neg q, hz j hj]; split <;> split <;> first | rfl | omega
set_option maxHeartbeats 4000000 in
set_option maxRecDepth 100000 in
theorem m4_removeAt {z : ZG} {d sz a cap : Nat} {h : AH} {n : Int} {f : Nat → Int} (hc : cap < 10000) (hn : 0 ≤ n ∧ n ≤ cap) (hr : RW h a cap n f) {i : Int} (hi : -2147483648 ≤ i ∧ i < 2147483648) : M z YX4_removeAt (d + 1) 0 0 [.ref a, .int (I i)] h sz (fun w h' sz' => w = none ∧ sz' = sz ∧ fr h h' a (a + 2) ∧ (((0 ≤ i ∧ i < n) ∧ RW h' a cap (n - 1) (rrm f i.toNat)) ∨ (¬ (0 ≤ i ∧ i < n) ∧ RW h' a cap (n) (f)))) := by
  obtain ⟨u, hu1, hu⟩ := hr
  have hx : RWx h a cap n u h := ⟨hu1.1, hu1.2, fun _ _ => rfl⟩
  have hcap : cap < 2147483648 := by omega
  refine M.of (by decide +kernel) (Nat.le_of_ble_eq_true rfl) ?_
  refine V_aload_n dX4_removeAt_0 rfl ?_
  refine V_iload_n dX4_removeAt_1 rfl ?_
  refine V_callV (Y' := YX4_has) dX4_removeAt_2 lX4_23 gX4_has (m4_has hc hn ⟨u, ⟨hx.1, hx.2.1⟩, hu⟩ hi) hx.1 rfl rfl rfl (Nat.le_of_ble_eq_true rfl) ⟨Nat.zero_le _, Nat.zero_le _⟩ (fun v h1 sz1 hq => ?_)
  obtain ⟨t, rfl, ht, rfl, rfl⟩ := hq
  refine J_if_eq (tgt := 51) dX4_removeAt_5 (by decide) (by omega) (fun c5 => ?_) (fun c5 => ?_)
  · exact V_ret dX4_removeAt_51 rfl ⟨Nat.zero_le _, Nat.zero_le _⟩ ⟨rfl, rfl, fr.rf, Or.inr ⟨by omega, u, ⟨hx.1, hx.2.1⟩, hu⟩⟩
  · refine V_iload_n dX4_removeAt_8 rfl ?_
    refine V_istore_n dX4_removeAt_9 (Nat.le_of_ble_eq_true rfl) ?_
    obtain ⟨k, rfl⟩ : ∃ k : Nat, i = k := ⟨i.toNat, by omega⟩
    refine V_mono ?_ (l4_removeAt_10 (u0 := u) (k := k) hc (by omega) (cap + 1) k u _ (by omega) (by omega) (fun j hj => by rw [if_neg (by omega)]) (by omega) hx)
    rintro w h2 sz2 ⟨rfl, rfl, hf, u2, hu2, e1⟩
    refine ⟨rfl, rfl, hf, Or.inl ⟨by omega, u2, hu2, fun j hj => ?_⟩⟩
    unfold rrm
    rw [e1 j (by omega), Int.toNat_natCast]
    split
    · exact hu j (by omega)
    · exact hu (j + 1) (by omega)
set_option maxHeartbeats 4000000 in
set_option maxRecDepth 100000 in
theorem l4_copyFrom_7 {z : ZG} {d sz a b cap : Nat} {h0 : AH} {n2 : Int} {f2 : Nat → Int} (hc : cap < 10000) (hd : a + 2 ≤ b ∨ b + 2 ≤ a) (hn : 0 ≤ n2 ∧ n2 ≤ cap) (hr2 : RW h0 b cap n2 f2) : ∀ (k i : Nat) (h : AH), (i : Int) ≤ n2 → n2 - i < k → fr h0 h a (a + 2) → RW h a cap i f2 → V z YX4_copyFrom (zroom (d + 2) 0 0) (fun w h' sz' => w = none ∧ sz' = sz ∧ fr h0 h' a (a + 2) ∧ RW h' a cap n2 f2) 7 [some (.ref a), some (.ref b), some (.int (I (i : Int)))] [] h sz 0 0 := by
  intro k
  induction k with
  | zero => intro i h h1 h2; omega
  | succ k ih =>
    intro i h h1 h2 hf hr
    have hr3 : RW h b cap n2 f2 := hr2.kept (hf b (by omega)) (hf (b + 1) (by omega))
    obtain ⟨u2, hu2, _⟩ := id hr3
    obtain ⟨u1, hu1, _⟩ := id hr
    refine V_iload_n dX4_copyFrom_7 rfl ?_
    refine V_aload_n dX4_copyFrom_8 rfl ?_
    refine V_get dX4_copyFrom_9 fX4_19 hu2.1 rfl ?_
    refine J_icmp_ge (tgt := 30) dX4_copyFrom_12 (by decide) (by omega) (by omega) (fun c12 => ?_) (fun c12 => ?_)
    · exact V_ret dX4_copyFrom_30 rfl ⟨Nat.zero_le _, Nat.zero_le _⟩ ⟨rfl, rfl, hf, by rw [show n2 = (i : Int) by omega]; exact hr⟩
    · refine V_aload_n dX4_copyFrom_15 rfl ?_
      refine V_aload_n dX4_copyFrom_16 rfl ?_
      refine V_iload_n dX4_copyFrom_17 rfl ?_
      refine V_callV (Y' := YX4_longAt) dX4_copyFrom_18 lX4_27 gX4_longAt (m4_longAt hc hn hr3 (by omega)) hu2.1 rfl rfl rfl (Nat.le_of_ble_eq_true rfl) ⟨Nat.zero_le _, Nat.zero_le _⟩ (fun v h1 sz1 hq => ?_)
      obtain ⟨rfl, rfl, rfl⟩ := hq
      refine V_callV (Y' := YX4_add) dX4_copyFrom_21 lX4_31 gX4_add (m4_add (d := d + 1) hc (by omega) hr) hu1.1 rfl rfl rfl (Nat.le_of_ble_eq_true rfl) ⟨Nat.zero_le _, Nat.zero_le _⟩ (fun v h2 sz2 hq => ?_)
      obtain ⟨rfl, rfl, hf2, hq⟩ := hq
      refine J_iinc dX4_copyFrom_24 rfl ?_
      refine V_goto (tgt := 7) dX4_copyFrom_27 (by decide) ?_
      refine ih (i + 1) _ (by omega) (by omega) (hf.then hf2) ?_
      rcases hq with ⟨_, hq⟩ | ⟨q, _⟩
      · refine hq.to (fun j hj => ?_)
        unfold va_up rat
        rw [Int.toNat_natCast]
        split
        · rename_i e; subst e; rw [if_pos (by omega)]
        · rfl
      · exfalso; omega
set_option maxHeartbeats 4000000 in
set_option maxRecDepth 100000 in
theorem m4_copyFrom {z : ZG} {d sz a b cap : Nat} {h : AH} {n n2 : Int} {f f2 : Nat → Int} (hc : cap < 10000) (hd : a + 2 ≤ b ∨ b + 2 ≤ a) (hn2 : 0 ≤ n2 ∧ n2 ≤ cap) (hr : RW h a cap n f) (hr2 : RW h b cap n2 f2) : M z YX4_copyFrom (d + 2) 0 0 [.ref a, .ref b] h sz (fun w h' sz' => w = none ∧ sz' = sz ∧ fr h h' a (a + 2) ∧ RW h' a cap n2 f2) := by
  refine M.of (by decide +kernel) (Nat.le_of_ble_eq_true rfl) ?_
  obtain ⟨u, hu1, hu⟩ := hr
  have hx : RWx h a cap n u h := ⟨hu1.1, hu1.2, fun _ _ => rfl⟩
  refine V_aload_n dX4_copyFrom_0 rfl ?_
  refine J_iconst dX4_copyFrom_1 ?_
  refine R4_put dX4_copyFrom_2 fX4_19 hx (fun h1 hx => ?_)
  refine J_iconst dX4_copyFrom_5 ?_
  refine V_istore_n dX4_copyFrom_6 (Nat.le_of_ble_eq_true rfl) ?_
  exact l4_copyFrom_7 (h0 := h) hc hd hn2 hr2 (cap + 1) 0 h1 (by omega) (by omega) hx.2.2 ⟨u, ⟨hx.1, hx.2.1⟩, fun j hj => by omega⟩
