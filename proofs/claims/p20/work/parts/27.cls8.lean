/-! THE CLASS: History (X2) at 13, its row of states at 14 -/
section Hrules
variable {z : ZG} {Y : ZM} {R : Room} {Q : ZQ} {pc : Nat} {L : AL} {st : List Value} {h : AH} {sz kc nc : Nat}
theorem J_aaldk {a n x : Nat} {f : Nat → Option Nat} {i : Int} (k : Nat) (hd : decode Y.2.1 pc = .ok (.aaload, 1)) (he : h a = some (.inr (n, .inr (.inr (.inr (.inr f)))))) (hk : i = (k : Int)) (hi : k < n) (hn : n < 2147483648) (hv : f k = some x) (kk : V z Y R Q (pc + 1) L (.ref x :: st) h sz kc nc) : V z Y R Q pc L (.int (I i) :: .ref a :: st) h sz kc nc := by
  subst hk
  exact V_aald hd he (I_in (by omega) hn) (by rw [I_clamp (by omega), Int.toNat_natCast, hv]; exact kk)
/-- the history's two cells; elsewhere the heap is g -/
def HW (g : AH) (f : Nat → Option Nat) (hn : Int) (h : AH) : Prop := h 13 = some (.inl (2, [.ref 14, .int (I hn)])) ∧ h 14 = some (.inr (6, .inr (.inr (.inr (.inr f))))) ∧ ∀ x : Nat, x ≠ 13 → x ≠ 14 → h x = g x
theorem R2_put {g : AH} {f : Nat → Option Nat} {hn x : Int} {i : Nat} (hd : decode Y.2.1 pc = .ok (.putfield i, 3)) (hw : ZF Y.1.cls i 2 1) (hx : HW g f hn h) (kk : ∀ h' : AH, HW g f x h' → V z Y R Q (pc + 3) L st h' sz kc nc) : V z Y R Q pc L (.int (I x) :: .ref 13 :: st) h sz kc nc :=
  V_put hd hw tX2_1 hx.1 (Nat.le_of_ble_eq_true rfl) rfl rfl (kk _ ⟨hset_s, (hset_n (by omega)).trans hx.2.1, fun q q1 q2 => (hset_n q1).trans (hx.2.2 q q1 q2)⟩)
theorem R2_ast {g : AH} {f : Nat → Option Nat} {hn i : Int} {v : Nat} {vs : List Value} (k : Nat) (hd : decode Y.2.1 pc = .ok (.aastore, 1)) (hx : HW g f hn h) (hv : h v = some (.inl (6, vs))) (hk : i = (k : Int)) (hi : k < 6) (kk : ∀ h' : AH, HW g (va_up f k (some v)) hn h' → V z Y R Q (pc + 1) L st h' sz kc nc) : V z Y R Q pc L (.ref v :: .int (I i) :: .ref 14 :: st) h sz kc nc := by
  subst hk
  refine V_aast hd hx.2.1 hv (I_in (by omega) (by omega)) ?_
  rw [I_clamp (by omega), Int.toNat_natCast]
  exact kk _ ⟨(hset_n (by omega)).trans hx.1, hset_s, fun q q1 q2 => (hset_n q2).trans (hx.2.2 q q1 q2)⟩
end Hrules
set_option maxHeartbeats 4000000 in
set_option maxRecDepth 100000 in
theorem l2_drop_17 {z : ZG} {d sz : Nat} {g : AH} {hn : Int} {σ : Nat → Nat} {f0 : Nat → Option Nat} (hf0 : ∀ i, i < 6 → f0 i = some (σ i)) (hst : ∀ i, i < 6 → (σ i ≠ 13 ∧ σ i ≠ 14) ∧ ∃ vs, g (σ i) = some (.inl (6, vs))) : ∀ (fu i : Nat) (f : Nat → Option Nat) (h : AH), i ≤ 5 → 5 - i < fu → (∀ j : Nat, j < 6 → f j = if j < i then f0 (j + 1) else f0 j) → HW g f hn h → V z YX2_dropOldest (zroom d 0 0) (fun w h' sz' => w = none ∧ sz' = sz ∧ ∃ f2 : Nat → Option Nat, HW g f2 5 h' ∧ ∀ j : Nat, j < 6 → f2 j = if j < 5 then f0 (j + 1) else f0 0) 17 [some (.ref 13), some (.ref (σ 0)), some (.int (I (i : Int)))] [] h sz 0 0 := by
  intro fu
  induction fu with
  | zero => intro i f h h1 h2; omega
  | succ fu ih =>
    intro i f h h1 h2 hz hx
    refine V_iload_n dX2_dropOldest_17 rfl ?_
    refine J_iconst dX2_dropOldest_18 ?_
    refine J_iadd dX2_dropOldest_19 ?_
    refine V_aload_n dX2_dropOldest_20 rfl ?_
    refine V_get dX2_dropOldest_21 fX2_11 hx.1 rfl ?_
    refine J_alen dX2_dropOldest_24 hx.2.1 ?_
    refine J_icmp_ge (tgt := 48) dX2_dropOldest_25 (by decide) (by omega) (by omega) (fun c25 => ?_) (fun c25 => ?_)
    · obtain ⟨⟨sa, sb⟩, vs, hvs⟩ := hst 0 (by omega)
      refine V_aload_n dX2_dropOldest_48 rfl ?_
      refine V_get dX2_dropOldest_49 fX2_11 hx.1 rfl ?_
      refine V_aload_n dX2_dropOldest_52 rfl ?_
      refine V_get dX2_dropOldest_53 fX2_11 hx.1 rfl ?_
      refine J_alen dX2_dropOldest_56 hx.2.1 ?_
      refine J_iconst dX2_dropOldest_57 ?_
      refine J_isub dX2_dropOldest_58 ?_
      refine V_aload_n dX2_dropOldest_59 rfl ?_
      refine R2_ast 5 dX2_dropOldest_60 hx ((hx.2.2 _ sa sb).trans hvs) (by omega) (by omega) (fun h hx => ?_)
      refine V_aload_n dX2_dropOldest_61 rfl ?_
      refine V_aload_n dX2_dropOldest_62 rfl ?_
      refine V_get dX2_dropOldest_63 fX2_11 hx.1 rfl ?_
      refine J_alen dX2_dropOldest_66 hx.2.1 ?_
      refine J_iconst dX2_dropOldest_67 ?_
      refine J_isub dX2_dropOldest_68 ?_
      refine R2_put dX2_dropOldest_69 fX2_18 hx (fun h hx => ?_)
      exact V_ret dX2_dropOldest_72 rfl ⟨Nat.zero_le _, Nat.zero_le _⟩ ⟨rfl, rfl, _, hx, fun j hj => by unfold va_up; by_cases q : j = 5; (rw [if_pos q, if_neg (by omega)]; exact (hf0 0 (by omega)).symm); (rw [if_neg q, hz j hj]; split <;> split <;> first | rfl | omega)⟩
    · obtain ⟨⟨sa, sb⟩, vs, hvs⟩ := hst (i + 1) (by omega)
      refine V_aload_n dX2_dropOldest_28 rfl ?_
      refine V_get dX2_dropOldest_29 fX2_11 hx.1 rfl ?_
      refine V_iload_n dX2_dropOldest_32 rfl ?_
      refine V_aload_n dX2_dropOldest_33 rfl ?_
      refine V_get dX2_dropOldest_34 fX2_11 hx.1 rfl ?_
      refine V_iload_n dX2_dropOldest_37 rfl ?_
      refine J_iconst dX2_dropOldest_38 ?_
      refine J_iadd dX2_dropOldest_39 ?_
      refine J_aaldk (i + 1) dX2_dropOldest_40 hx.2.1 (by omega) (by omega) (by omega) (by rw [hz (i + 1) (by omega), if_neg (by omega)]; exact hf0 (i + 1) (by omega)) ?_
      refine R2_ast i dX2_dropOldest_41 hx ((hx.2.2 _ sa sb).trans hvs) (by omega) (by omega) (fun h hx => ?_)
      refine J_iinc dX2_dropOldest_42 rfl ?_
      refine V_goto (tgt := 17) dX2_dropOldest_45 (by decide) ?_
      refine ih (i + 1) _ h (by omega) (by omega) (fun j hj => ?_) hx
      unfold va_up
      by_cases q : j = i
      · subst q; rw [if_pos rfl, if_pos (by omega)]; exact (hf0 (j + 1) (by omega)).symm
      · rw [if_neg q, hz j hj]; split <;> split <;> first | rfl | omega
set_option maxHeartbeats 4000000 in
set_option maxRecDepth 100000 in
theorem m2_dropOldest {z : ZG} {d sz : Nat} {g h : AH} {hn : Int} {σ : Nat → Nat} {f0 : Nat → Option Nat} (hf0 : ∀ i, i < 6 → f0 i = some (σ i)) (hst : ∀ i, i < 6 → (σ i ≠ 13 ∧ σ i ≠ 14) ∧ ∃ vs, g (σ i) = some (.inl (6, vs))) (hx : HW g f0 hn h) : M z YX2_dropOldest d 0 0 [.ref 13] h sz (fun w h' sz' => w = none ∧ sz' = sz ∧ ∃ f2 : Nat → Option Nat, HW g f2 5 h' ∧ ∀ j : Nat, j < 6 → f2 j = if j < 5 then f0 (j + 1) else f0 0) := by
  refine M.of (by decide +kernel) (Nat.le_of_ble_eq_true rfl) ?_
  refine V_aload_n dX2_dropOldest_0 rfl ?_
  refine V_get dX2_dropOldest_1 fX2_11 hx.1 rfl ?_
  refine J_alen dX2_dropOldest_4 hx.2.1 ?_
  refine J_if_le (tgt := 72) dX2_dropOldest_5 (by decide) (by omega) (fun c5 => ?_) (fun c5 => ?_)
  · exact V_ret dX2_dropOldest_72 rfl ⟨Nat.zero_le _, Nat.zero_le _⟩ ⟨rfl, rfl, by exfalso; omega⟩
  · refine V_aload_n dX2_dropOldest_8 rfl ?_
    refine V_get dX2_dropOldest_9 fX2_11 hx.1 rfl ?_
    refine J_iconst dX2_dropOldest_12 ?_
    refine J_aaldk 0 dX2_dropOldest_13 hx.2.1 rfl (by omega) (by omega) (hf0 0 (by omega)) ?_
    refine V_astore_n dX2_dropOldest_14 (Nat.le_of_ble_eq_true rfl) ?_
    refine J_iconst dX2_dropOldest_15 ?_
    refine V_istore_n dX2_dropOldest_16 (Nat.le_of_ble_eq_true rfl) ?_
    exact l2_drop_17 (σ := σ) hf0 hst 6 0 f0 h (by omega) (by omega) (fun j hj => by rw [if_neg (by omega)]) hx
/-- a block of a state -/
def SB (a : Nat) : Prop := 15 ≤ a ∧ (a + 14 ≤ 99 ∨ 100 ≤ a) ∧ a + 14 ≤ 114
/-- the history with its states, beside the state at s -/
def HX (h : AH) (s : Nat) (hn : Int) (σ : Nat → Nat) (K : Nat → Nat → Int) (f : Nat → Option Nat) : Prop := (h 13 = some (.inl (2, [.ref 14, .int (I hn)])) ∧ h 14 = some (.inr (6, .inr (.inr (.inr (.inr f)))))) ∧ (∀ i, i < 6 → f i = some (σ i)) ∧ (∀ i, i < 6 → SB (σ i) ∧ (σ i + 14 ≤ s ∨ s + 14 ≤ σ i)) ∧ (∀ i j, i < 6 → j < 6 → i ≠ j → σ i + 14 ≤ σ j ∨ σ j + 14 ≤ σ i) ∧ (∀ i, i < 6 → CS h (σ i) (K i) ∧ (0 ≤ K i 17 ∧ K i 17 ≤ 8) ∧ (0 ≤ K i 8 ∧ K i 8 ≤ 4)) ∧ ∀ i : Nat, (i : Int) < hn → rok (K i)
def HI (h : AH) (s : Nat) (hn : Int) : Prop := ∃ (σ : Nat → Nat) (K : Nat → Nat → Int) (f : Nat → Option Nat), HX h s hn σ K f
theorem HX.kept {h h2 : AH} {s : Nat} {hn : Int} {σ : Nat → Nat} {K : Nat → Nat → Int} {f : Nat → Option Nat} (x : HX h s hn σ K f) (e : ∀ q, (q = 13 ∨ q = 14 ∨ (15 ≤ q ∧ q ≠ 99 ∧ q < 114 ∧ (q < s ∨ s + 14 ≤ q))) → h2 q = h q) : HX h2 s hn σ K f := by
  obtain ⟨h1, h3, h4, h5, h6, h7⟩ := x
  refine ⟨⟨(e 13 (by omega)).trans h1.1, (e 14 (by omega)).trans h1.2⟩, h3, h4, h5, fun i hi => ⟨(h6 i hi).1.kept (fun q q1 q2 => e q ?_), (h6 i hi).2⟩, h7⟩
  obtain ⟨⟨a1, a2, a3⟩, a4⟩ := h4 i hi
  omega
theorem HI.kept {h h2 : AH} {s : Nat} {hn : Int} (x : HI h s hn) (e : ∀ q, (q = 13 ∨ q = 14 ∨ (15 ≤ q ∧ q ≠ 99 ∧ q < 114 ∧ (q < s ∨ s + 14 ≤ q))) → h2 q = h q) : HI h2 s hn := by
  obtain ⟨σ, K, f, x⟩ := x
  exact ⟨σ, K, f, x.kept e⟩
theorem HI.c {h : AH} {s : Nat} {hn : Int} (x : HI h s hn) : h 13 = some (.inl (2, [.ref 14, .int (I hn)])) := by obtain ⟨σ, K, f, x⟩ := x; exact x.1.1
theorem rok17 {N : Nat → Int} (h : rok N) : 0 ≤ N 17 ∧ N 17 ≤ 8 := h.2.2.2.2.2.2.1
theorem rok8 {N : Nat → Int} (h : rok N) : 0 ≤ N 8 ∧ N 8 ≤ 4 := h.2.2.2.2.2.1
/-- what remembering leaves -/
def hfr (s : Nat) (h h2 : AH) : Prop := ∀ q : Nat, (q < 13 ∨ q = 99 ∨ 114 ≤ q ∨ (s ≤ q ∧ q < s + 14)) → h2 q = h q
set_option maxHeartbeats 4000000 in
set_option maxRecDepth 100000 in
theorem m2_forgetAll {z : ZG} {d sz s : Nat} {h : AH} {hn : Int} (hH : HI h s hn) : M z YX2_forgetAll d 0 0 [.ref 13] h sz (fun w h' sz' => w = none ∧ sz' = sz ∧ (∀ x : Nat, x ≠ 13 → x ≠ 14 → h' x = h x) ∧ HI h' s 0) := by
  refine M.of (by decide +kernel) (Nat.le_of_ble_eq_true rfl) ?_
  obtain ⟨σ, K, f, hX⟩ := hH
  have hx : HW h f hn h := ⟨hX.1.1, hX.1.2, fun _ _ _ => rfl⟩
  refine V_aload_n dX2_forgetAll_0 rfl ?_
  refine J_iconst dX2_forgetAll_1 ?_
  refine R2_put dX2_forgetAll_2 fX2_18 hx (fun h hx => ?_)
  refine V_ret dX2_forgetAll_5 rfl ⟨Nat.zero_le _, Nat.zero_le _⟩ ⟨rfl, rfl, hx.2.2, ?_⟩
  obtain ⟨h1, h3, h4, h5, h6, h7⟩ := hX
  refine ⟨σ, K, f, ⟨hx.1, hx.2.1⟩, h3, h4, h5, fun i hi => ⟨(h6 i hi).1.kept (fun q q1 q2 => hx.2.2 q ?_ ?_), (h6 i hi).2⟩, fun i hi => by omega⟩
  · obtain ⟨⟨a1, a2, a3⟩, a4⟩ := h4 i hi; omega
  · obtain ⟨⟨a1, a2, a3⟩, a4⟩ := h4 i hi; omega
set_option maxHeartbeats 4000000 in
set_option maxRecDepth 100000 in
theorem l2_rem_16 {z : ZG} {d sz s : Nat} {h : AH} {hn : Int} {σ : Nat → Nat} {K : Nat → Nat → Int} {f : Nat → Option Nat} {N : Nat → Int} (hn0 : 0 ≤ hn ∧ hn ≤ 5) (hs : SB s) (hr : rok N) (hN : CS h s N) (hX : HX h s hn σ K f) : V z YX2_remember (zroom (d + 5) 0 0) (fun w h' sz' => w = none ∧ sz' = sz ∧ hfr s h h' ∧ ∃ hn2 : Int, (0 ≤ hn2 ∧ hn2 ≤ 6) ∧ HI h' s hn2) 16 [some (.ref 13), some (.ref s)] [] h sz 0 0 := by
  obtain ⟨h1, h3, h4, h5, h6, h7⟩ := hX
  obtain ⟨hK, kr⟩ := h6 hn.toNat (by omega)
  obtain ⟨s1, s2, s3⟩ := hs
  obtain ⟨⟨b1, b2, b3⟩, b4⟩ := h4 hn.toNat (by omega)
  have hx : HW h f hn h := ⟨h1.1, h1.2, fun _ _ _ => rfl⟩
  refine V_aload_n dX2_remember_16 rfl ?_
  refine V_get dX2_remember_17 fX2_18 hx.1 rfl ?_
  refine J_if_lt (tgt := 70) dX2_remember_20 (by decide) (by omega) (fun c20 => ?_) (fun c20 => ?_)
  · exfalso; omega
  · refine V_aload_n dX2_remember_23 rfl ?_
    refine V_get dX2_remember_24 fX2_18 hx.1 rfl ?_
    refine V_aload_n dX2_remember_27 rfl ?_
    refine V_get dX2_remember_28 fX2_11 hx.1 rfl ?_
    refine J_alen dX2_remember_31 hx.2.1 ?_
    refine J_icmp_ge (tgt := 70) dX2_remember_32 (by decide) (by omega) (by omega) (fun c32 => ?_) (fun c32 => ?_)
    · exfalso; omega
    · refine V_aload_n dX2_remember_35 rfl ?_
      refine V_get dX2_remember_36 fX2_11 hx.1 rfl ?_
      refine V_aload_n dX2_remember_39 rfl ?_
      refine V_get dX2_remember_40 fX2_18 hx.1 rfl ?_
      refine J_aaldk hn.toNat dX2_remember_43 hx.2.1 (by omega) (by omega) (by omega) (h3 hn.toNat (by omega)) ?_
      refine V_ifnull dX2_remember_44 ?_
      refine V_aload_n dX2_remember_47 rfl ?_
      refine V_get dX2_remember_48 fX2_11 hx.1 rfl ?_
      refine V_aload_n dX2_remember_51 rfl ?_
      refine V_get dX2_remember_52 fX2_18 hx.1 rfl ?_
      refine J_aaldk hn.toNat dX2_remember_55 hx.2.1 (by omega) (by omega) (by omega) (h3 hn.toNat (by omega)) ?_
      refine V_aload_n dX2_remember_56 rfl ?_
      refine V_callV (Y' := YX6_copyFrom) dX2_remember_57 lX2_25 gX6_copyFrom (m6_copyFrom (s := σ hn.toNat) (b := s) (by have := (h4 hn.toNat (by omega)).2; omega) kr.1 kr.2 (rok17 hr) (rok8 hr) hK hN) hK.1 rfl rfl rfl (Nat.le_of_ble_eq_true rfl) ⟨Nat.zero_le _, Nat.zero_le _⟩ (fun v h1 sz1 hq => ?_)
      obtain ⟨rfl, rfl, hf, hc⟩ := hq
      have hx : HW h1 f hn h1 := ⟨(hf 13 (by omega)).trans hx.1, (hf 14 (by omega)).trans hx.2.1, fun _ _ _ => rfl⟩
      refine V_aload_n dX2_remember_60 rfl ?_
      refine V_dup dX2_remember_61 rfl ?_
      refine V_get dX2_remember_62 fX2_18 hx.1 rfl ?_
      refine J_iconst dX2_remember_65 ?_
      refine J_iadd dX2_remember_66 ?_
      refine R2_put dX2_remember_67 fX2_18 hx (fun h hx => ?_)
      refine V_ret dX2_remember_70 rfl ⟨Nat.zero_le _, Nat.zero_le _⟩ ⟨rfl, rfl, fun q hq => ?_, hn + 1, by omega, ?_⟩
      · rw [hx.2.2 q (by omega) (by omega), hf q (by omega)]
      · refine ⟨σ, va_up K hn.toNat N, f, ⟨hx.1, hx.2.1⟩, h3, h4, h5, fun i hi => ?_, fun i hi => ?_⟩
        · have a := h4 i hi
          obtain ⟨⟨a1, a2, a3⟩, a4⟩ := a
          by_cases e : i = hn.toNat
          · subst e; rw [show va_up K hn.toNat N hn.toNat = N from if_pos rfl]; exact ⟨hc.kept (fun q q1 q2 => hx.2.2 q (by omega) (by omega)), rok17 hr, rok8 hr⟩
          · rw [show va_up K hn.toNat N i = K i from if_neg e]; have b := h5 i hn.toNat hi (by omega) e; exact ⟨(h6 i hi).1.kept (fun q q1 q2 => (hx.2.2 q (by omega) (by omega)).trans (hf q (by omega))), (h6 i hi).2⟩
        · by_cases e : i = hn.toNat
          · subst e; rw [show va_up K hn.toNat N hn.toNat = N from if_pos rfl]; exact hr
          · rw [show va_up K hn.toNat N i = K i from if_neg e]; exact h7 i (by omega)
set_option maxHeartbeats 4000000 in
set_option maxRecDepth 100000 in
theorem m2_remember {z : ZG} {d sz s : Nat} {h : AH} {hn : Int} {N : Nat → Int} (hn0 : 0 ≤ hn ∧ hn ≤ 6) (hs : SB s) (hr : rok N) (hN : CS h s N) (hH : HI h s hn) : M z YX2_remember (d + 5) 0 0 [.ref 13, .ref s] h sz (fun w h' sz' => w = none ∧ sz' = sz ∧ hfr s h h' ∧ ∃ hn2 : Int, (0 ≤ hn2 ∧ hn2 ≤ 6) ∧ HI h' s hn2) := by
  refine M.of (by decide +kernel) (Nat.le_of_ble_eq_true rfl) ?_
  obtain ⟨σ, K, f, hX⟩ := hH
  obtain ⟨h1, h3, h4, h5, h6, h7⟩ := id hX
  have hsb := hs.1
  have hx : HW h f hn h := ⟨h1.1, h1.2, fun _ _ _ => rfl⟩
  refine V_aload_n dX2_remember_0 rfl ?_
  refine V_get dX2_remember_1 fX2_18 hx.1 rfl ?_
  refine V_aload_n dX2_remember_4 rfl ?_
  refine V_get dX2_remember_5 fX2_11 hx.1 rfl ?_
  refine J_alen dX2_remember_8 hx.2.1 ?_
  refine J_icmp_lt (tgt := 16) dX2_remember_9 (by decide) (by omega) (by omega) (fun c9 => ?_) (fun c9 => ?_)
  · exact l2_rem_16 (by omega) hs hr hN hX
  · refine V_aload_n dX2_remember_12 rfl ?_
    refine V_callV (Y' := YX2_dropOldest) dX2_remember_13 lX2_22 gX2_dropOldest (m2_dropOldest (σ := σ) h3 (fun i hi => by obtain ⟨⟨a1, a2, a3⟩, a4⟩ := h4 i hi; exact ⟨⟨by omega, by omega⟩, _, (h6 i hi).1.1⟩) hx) hx.1 rfl rfl rfl (Nat.le_of_ble_eq_true rfl) ⟨Nat.zero_le _, Nat.zero_le _⟩ (fun v h1 sz1 hq => ?_)
    obtain ⟨rfl, rfl, f2, hx, hf2⟩ := hq
    have hNk : CS h1 s N := hN.kept (fun q q1 q2 => hx.2.2 q (by omega) (by omega))
    have hX2 : HX h1 s 5 (fun i => if i < 5 then σ (i + 1) else σ 0) (fun i => if i < 5 then K (i + 1) else K 0) f2 := by
      refine ⟨⟨hx.1, hx.2.1⟩, fun i hi => ?_, fun i hi => ?_, fun i j hi hj hij => ?_, fun i hi => ?_, fun i hi => ?_⟩
      · by_cases q : i < 5
        · rw [hf2 i hi, if_pos q]; show f (i + 1) = some (if i < 5 then σ (i + 1) else σ 0); rw [if_pos q]; exact h3 (i + 1) (by omega)
        · rw [hf2 i hi, if_neg q]; show f 0 = some (if i < 5 then σ (i + 1) else σ 0); rw [if_neg q]; exact h3 0 (by omega)
      · dsimp only; split
        · exact h4 (i + 1) (by omega)
        · exact h4 0 (by omega)
      · dsimp only; split <;> split
        · exact h5 (i + 1) (j + 1) (by omega) (by omega) (by omega)
        · exact h5 (i + 1) 0 (by omega) (by omega) (by omega)
        · exact h5 0 (j + 1) (by omega) (by omega) (by omega)
        · omega
      · have hk : ∀ j, j < 6 → CS h1 (σ j) (K j) := fun j hj => by
          obtain ⟨⟨a1, a2, a3⟩, a4⟩ := h4 j hj
          exact (h6 j hj).1.kept (fun q q1 q2 => hx.2.2 q (by omega) (by omega))
        dsimp only; split
        · exact ⟨hk (i + 1) (by omega), (h6 (i + 1) (by omega)).2⟩
        · exact ⟨hk 0 (by omega), (h6 0 (by omega)).2⟩
      · dsimp only; rw [if_pos (by omega)]; exact h7 (i + 1) (by omega)
    refine V_mono ?_ (l2_rem_16 (by omega) hs hr hNk hX2)
    rintro w h2 sz2 ⟨rfl, rfl, hf3, q⟩
    exact ⟨rfl, rfl, fun x hx2 => (hf3 x hx2).trans (hx.2.2 x (by have := hs.1; omega) (by have := hs.1; omega)), q⟩
set_option maxHeartbeats 4000000 in
set_option maxRecDepth 100000 in
theorem m2_takeBack {z : ZG} {d sz s : Nat} {h : AH} {hn : Int} {N : Nat → Int} (hn0 : 1 ≤ hn ∧ hn ≤ 6) (hs : SB s) (hr : rok N) (hN : CS h s N) (hH : HI h s hn) : M z YX2_takeBack d 0 0 [.ref 13, .ref s] h sz (fun w h' sz' => sz' = sz ∧ (∀ x : Nat, x ≠ 13 → x ≠ 14 → h' x = h x) ∧ ∃ (s2 : Nat) (N2 : Nat → Int), w = some (.ref s2) ∧ SB s2 ∧ rok N2 ∧ CS h' s2 N2 ∧ HI h' s2 (hn - 1)) := by
  refine M.of (by decide +kernel) (Nat.le_of_ble_eq_true rfl) ?_
  obtain ⟨σ, K, f, hX⟩ := hH
  obtain ⟨h1, h3, h4, h5, h6, h7⟩ := id hX
  have hB := h4 (hn - 1).toNat (by omega)
  have hx : HW h f hn h := ⟨h1.1, h1.2, fun _ _ _ => rfl⟩
  refine V_aload_n dX2_takeBack_0 rfl ?_
  refine V_get dX2_takeBack_1 fX2_18 hx.1 rfl ?_
  refine J_iconst dX2_takeBack_4 ?_
  refine J_isub dX2_takeBack_5 ?_
  refine V_istore_n dX2_takeBack_6 (Nat.le_of_ble_eq_true rfl) ?_
  refine V_iload_n dX2_takeBack_7 rfl ?_
  refine J_if_lt (tgt := 29) dX2_takeBack_8 (by decide) (by omega) (fun c8 => ?_) (fun c8 => ?_)
  · exfalso
    omega
  · refine V_iload_n dX2_takeBack_11 rfl ?_
    refine V_aload_n dX2_takeBack_12 rfl ?_
    refine V_get dX2_takeBack_13 fX2_11 hx.1 rfl ?_
    refine J_alen dX2_takeBack_16 hx.2.1 ?_
    refine J_icmp_ge (tgt := 29) dX2_takeBack_17 (by decide) (by omega) (by omega) (fun c17 => ?_) (fun c17 => ?_)
    · exfalso
      omega
    · refine V_aload_n dX2_takeBack_20 rfl ?_
      refine V_get dX2_takeBack_21 fX2_11 hx.1 rfl ?_
      refine V_iload_n dX2_takeBack_24 rfl ?_
      refine J_aaldk (hn - 1).toNat dX2_takeBack_25 hx.2.1 (by omega) (by omega) (by omega) (h3 _ (by omega)) ?_
      refine V_ifnonnull (tgt := 31) dX2_takeBack_26 (by decide) ?_
      refine V_aload_n dX2_takeBack_31 rfl ?_
      refine V_get dX2_takeBack_32 fX2_11 hx.1 rfl ?_
      refine V_iload_n dX2_takeBack_35 rfl ?_
      refine J_aaldk (hn - 1).toNat dX2_takeBack_36 hx.2.1 (by omega) (by omega) (by omega) (h3 _ (by omega)) ?_
      refine V_astore_n dX2_takeBack_37 (Nat.le_of_ble_eq_true rfl) ?_
      refine V_aload_n dX2_takeBack_38 rfl ?_
      refine V_get dX2_takeBack_39 fX2_11 hx.1 rfl ?_
      refine V_iload_n dX2_takeBack_42 rfl ?_
      refine V_aload_n dX2_takeBack_43 rfl ?_
      refine R2_ast (hn - 1).toNat dX2_takeBack_44 hx hN.1 (by omega) (by omega) (fun h hx => ?_)
      refine V_aload_n dX2_takeBack_45 rfl ?_
      refine V_iload_n dX2_takeBack_46 rfl ?_
      refine R2_put dX2_takeBack_47 fX2_18 hx (fun h hx => ?_)
      refine V_aload_n dX2_takeBack_50 rfl ?_
      refine V_aret dX2_takeBack_51 rfl (Or.inl ⟨_, rfl⟩) ⟨Nat.zero_le _, Nat.zero_le _⟩ ⟨rfl, hx.2.2, σ (hn - 1).toNat, K (hn - 1).toNat, rfl, hB.1, h7 _ (by omega), ?_, ?_⟩
      · obtain ⟨⟨a1, a2, a3⟩, a4⟩ := hB; exact (h6 _ (by omega)).1.kept (fun q q1 q2 => hx.2.2 q (by omega) (by omega))
      · refine ⟨va_up σ (hn - 1).toNat s, va_up K (hn - 1).toNat N, _, ⟨hx.1, hx.2.1⟩, fun i hi => ?_, fun i hi => ?_, fun i j hi hj hij => ?_, fun i hi => ?_, fun i hi => ?_⟩
        · unfold va_up; split <;> first | rfl | exact h3 i hi
        · unfold va_up; split
          · exact ⟨hs, by have := hB.2; omega⟩
          · rename_i e; exact ⟨(h4 i hi).1, h5 i _ hi (by omega) e⟩
        · unfold va_up; have a := (h4 i hi).2; have b := (h4 j hj).2; have c := h5 i j hi hj hij; split <;> split <;> omega
        · by_cases e : i = (hn - 1).toNat
          · subst e; rw [show va_up σ (hn - 1).toNat s (hn - 1).toNat = s from if_pos rfl, show va_up K (hn - 1).toNat N (hn - 1).toNat = N from if_pos rfl]; exact ⟨hN.kept (fun q q1 q2 => hx.2.2 q (by have := hs.1; omega) (by have := hs.1; omega)), rok17 hr, rok8 hr⟩
          · rw [show va_up σ (hn - 1).toNat s i = σ i from if_neg e, show va_up K (hn - 1).toNat N i = K i from if_neg e]; obtain ⟨⟨a1, a2, a3⟩, a4⟩ := h4 i hi; exact ⟨(h6 i hi).1.kept (fun q q1 q2 => hx.2.2 q (by omega) (by omega)), (h6 i hi).2⟩
        · rw [show va_up K (hn - 1).toNat N i = K i from if_neg (by omega)]; exact h7 i (by omega)
theorem qX2_9 : Cond.classLink RX2 9 "MoireEncoder$State" ∈ gw := gw_t 97 (by decide +kernel) rfl
set_option maxHeartbeats 4000000 in
set_option maxRecDepth 100000 in
theorem l2_init_15 {z : ZG} {d : Nat} {g : AH} : ∀ (fu i : Nat) (f : Nat → Option Nat) (h : AH) (kc nc : Nat), i ≤ 6 → 6 - i < fu → kc = 1 + 14 * i → nc = 6 + 58 * i → (∀ j : Nat, j < i → f j = some (15 + 14 * j)) → h 13 = some (.inl (2, [.ref 14, .int (I 0)])) → h 14 = some (.inr (6, .inr (.inr (.inr (.inr f))))) → (∀ j : Nat, j < i → CS h (15 + 14 * j) (fun _ => 0)) → (∀ x : Nat, x < 13 ∨ 15 + 14 * i ≤ x → h x = g x) → V z YX2_init (zroom (d + 4) 85 354) (fun w h' sz' => w = none ∧ sz' = 99 ∧ (∀ x : Nat, x < 13 ∨ 99 ≤ x → h' x = g x) ∧ ∀ s : Nat, s = 100 → HI h' s 0) 15 [some (.ref 13), some (.int (I (i : Int)))] [] h (15 + 14 * i) kc nc := by
  intro fu
  induction fu with
  | zero => intro i f h kc nc h1 h2; omega
  | succ fu ih =>
    intro i f h kc nc h1 h2 hk1 hk2 hz hT hA hC hF
    refine V_iload_n dX2_init_15 rfl ?_
    refine V_aload_n dX2_init_16 rfl ?_
    refine V_get dX2_init_17 fX2_11 hT rfl ?_
    refine J_alen dX2_init_20 hA ?_
    refine J_icmp_ge (tgt := 43) dX2_init_21 (by decide) (by omega) (by show -2147483648 ≤ ((6 : Nat) : Int) ∧ _; omega) (fun c => ?_) (fun c => ?_)
    · have c : (6 : Int) ≤ i := c
      refine V_ret dX2_init_43 rfl ⟨by show kc ≤ 85; omega, by show nc ≤ 354; omega⟩ ⟨rfl, by omega, fun x hx => hF x (by omega), fun s es => ?_⟩
      subst es
      refine ⟨fun j => 15 + 14 * j, fun _ _ => 0, f, ⟨hT, hA⟩, fun j hj => hz j (by omega), fun j hj => by (refine ⟨⟨?_, ?_, ?_⟩, ?_⟩ <;> dsimp only <;> omega), fun j k hj hk hjk => by (dsimp only; omega), fun j hj => ⟨hC j (by omega), ⟨Int.le_refl _, show (0 : Int) ≤ 8 by decide⟩, Int.le_refl _, show (0 : Int) ≤ 4 by decide⟩, fun j hj => by omega⟩
    · have c : ¬ (6 : Int) ≤ i := c
      refine V_aload_n dX2_init_24 rfl ?_
      refine V_get dX2_init_25 fX2_11 hT rfl ?_
      refine V_iload_n dX2_init_28 rfl ?_
      refine V_new dX2_init_29 nX2_9 rfl ⟨by show kc + 1 ≤ 85; omega, by show nc + 8 ≤ 354; omega⟩ ?_
      refine V_dup dX2_init_32 rfl ?_
      refine V_callIN (Y' := YX6_init) dX2_init_33 lX2_17 gX6_init (m6_init (s := 15 + 14 * i) hset_s) rfl rfl (Nat.le_of_ble_eq_true rfl) ⟨by show kc + 1 + 13 ≤ 85; omega, by show nc + 8 + 50 ≤ 354; omega⟩ (fun v h3 sz3 hq => ?_)
      obtain ⟨rfl, rfl, hf, hN⟩ := hq
      have hT3 : h3 13 = some (.inl (2, [.ref 14, .int (I 0)])) := (hf 13 (by omega)).trans ((hset_n (by omega)).trans hT)
      have hA3 : h3 14 = some (.inr (6, .inr (.inr (.inr (.inr f))))) := (hf 14 (by omega)).trans ((hset_n (by omega)).trans hA)
      refine V_aast dX2_init_36 hA3 hN.1 (I_in (by omega) (by omega)) ?_
      rw [I_clamp (by omega), Int.toNat_natCast]
      refine J_iinc dX2_init_37 rfl ?_
      refine V_goto (tgt := 15) dX2_init_40 (by decide) ?_
      rw [show ((i : Int) + 1) = ((i + 1 : Nat) : Int) by omega]
      refine ih (i + 1) (va_up f i (some (15 + 14 * i))) _ _ _ (by omega) (by omega) (by omega) (by omega) (fun j hj => ?_) ((hset_n (by omega)).trans hT3) hset_s (fun j hj => ?_) (fun x hx => ?_)
      · unfold va_up
        by_cases q : j = i
        · rw [if_pos q, q]
        · rw [if_neg q]; exact hz j (by omega)
      · by_cases q : j = i
        · subst q; exact hN.kept (fun q q1 q2 => hset_n (by omega))
        · exact (hC j (by omega)).kept (fun q q1 q2 => (hset_n (by omega)).trans ((hf q (by omega)).trans (hset_n (by omega))))
      · exact (hset_n (by omega)).trans ((hf x (by omega)).trans ((hset_n (by omega)).trans (hF x (by omega))))
set_option maxHeartbeats 4000000 in
set_option maxRecDepth 100000 in
theorem m2_init {z : ZG} {d : Nat} {h : AH} (hT : h 13 = some (.inl (2, [.null, .int 0]))) : M z YX2_init (d + 4) 85 354 [.ref 13] h 14 (fun w h' sz' => w = none ∧ sz' = 99 ∧ (∀ x : Nat, x < 13 ∨ 99 ≤ x → h' x = h x) ∧ ∀ s : Nat, s = 100 → HI h' s 0) := by
  refine M.of (by decide +kernel) (Nat.le_of_ble_eq_true rfl) ?_
  refine V_aload_n dX2_init_0 rfl ?_
  refine V_obj dX2_init_1 oX2_3 (Nat.le_of_ble_eq_true rfl) ?_
  refine V_aload_n dX2_init_4 rfl ?_
  refine J_bipush dX2_init_5 (by decide) ?_
  refine V_newq (N := 6) dX2_init_7 qX2_9 (fun q => by have := (I_lt (a := 6) (b := 0) (by omega) (by omega)).mp q; omega) (by rw [I_clamp (by omega)]; rfl) (by decide) ⟨Nat.le_of_ble_eq_true rfl, Nat.le_of_ble_eq_true rfl⟩ ?_
  refine V_putF dX2_init_10 fX2_11 tX2_0 rfl (fun C T N q => by cases q; rfl) ((hset_n (by omega)).trans hT) (Nat.le_of_ble_eq_true rfl) rfl rfl ?_
  refine J_iconst dX2_init_13 ?_
  refine V_istore_n dX2_init_14 (Nat.le_of_ble_eq_true rfl) ?_
  exact l2_init_15 (g := h) 7 0 (fun _ => none) _ _ _ (by omega) (by omega) rfl rfl (fun j hj => by omega) hset_s ((hset_n (by omega)).trans hset_s) (fun j hj => by omega) (fun x hx => (hset_n (by omega)).trans (hset_n (by omega)))
