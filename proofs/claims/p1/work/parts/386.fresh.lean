/-! A NEW OBJECT: what both sides answer from the first state -/
theorem cnC_r1 (m b : Int) : 0 ≤ cnC m b ∧ cnC m b ≤ 1 := by
  unfold cnC
  split <;> omega
theorem dcC_rg (m q c nx : Int) : c - 1 ≤ dcC m q c nx ∧ dcC m q c nx ≤ c + 1 := by
  have h1 := cnC_r1 m nx
  have h2 := cnC_r1 m q
  unfold dcC
  split
  · omega
  · split <;> omega
theorem smp_1 {pt a x : Int} {m : Nat} {MK N : Nat → Int} (hp : 0 < pt) (hr : rok N) : N 1 - 1 ≤ smp pt m MK N a x 1 ∧ smp pt m MK N a x 1 ≤ N 1 + 1 := by
  by_cases hd : drt N (N 8).toNat x
  · rw [smp_lod (by omega) (by omega) hd]
    show N 1 - 1 ≤ N 1 ∧ N 1 ≤ N 1 + 1
    omega
  · rw [smp_loc hp hr (by omega) (by omega) hd]
    exact dcC_rg _ _ _ _
theorem mv_all {pt t v : Int} {m : Nat} {MK : Nat → Int} (hp : 0 < pt) (ht : 0 ≤ t ∧ t ≤ 9999) (hv : 1 ≤ v) : ∀ (f : Nat) (N : Nat → Int), rok N → (N 1 - f ≤ mvF pt m MK t v f N 1 ∧ mvF pt m MK t v f N 1 ≤ N 1 + f) ∧ (N 3 ≤ mvF pt m MK t v f N 3 ∧ mvF pt m MK t v f N 3 ≤ N 3 + f) ∧ mvF pt m MK t v f N 5 = N 5 ∧ ((N 0 - t).natAbs ≤ f → mvF pt m MK t v f N 0 = t) := by
  intro f
  induction f with
  | zero =>
    intro N h
    show (N 1 - 0 ≤ N 1 ∧ N 1 ≤ N 1 + 0) ∧ (N 3 ≤ N 3 ∧ N 3 ≤ N 3 + 0) ∧ N 5 = N 5 ∧ ((N 0 - t).natAbs ≤ 0 → N 0 = t)
    omega
  | succ f ih =>
    intro N h
    rw [mvF_s]
    split
    · rename_i hn
      refine ⟨⟨by omega, by omega⟩, ⟨by omega, by omega⟩, rfl, fun _ => hn⟩
    · rename_i hn
      have hx := nxt_rg h.1 ht hv hn
      have h0 : smp pt m MK N (N 0) (nxt (N 0) t v) 0 = nxt (N 0) t v := rfl
      obtain ⟨a1, a3, a5, a0⟩ := ih _ (rok_smp (mk := m) (MA := MK) (a := N 0) hp hx.1 h)
      have b1 := smp_1 (m := m) (MK := MK) (a := N 0) (x := nxt (N 0) t v) hp h
      have b3 := smp_3 (m := m) (MK := MK) (a := N 0) (x := nxt (N 0) t v) hp h
      have b5 := smp_same (m := m) (MK := MK) (a := N 0) (x := nxt (N 0) t v) (j := 5) hp h (by omega)
      rw [h0] at a0
      refine ⟨⟨by omega, by omega⟩, ⟨by omega, by omega⟩, a5.trans b5, fun q => a0 (by omega)⟩
theorem mv_new {t v : Int} {m : Nat} {MK : Nat → Int} (ht : 0 ≤ t ∧ t ≤ 9999) (hv : 1 ≤ v) : (-10000 ≤ mvF 20 m MK t v 10000 nw0 1 ∧ mvF 20 m MK t v 10000 nw0 1 ≤ 10000) ∧ (0 ≤ mvF 20 m MK t v 10000 nw0 3 ∧ mvF 20 m MK t v 10000 nw0 3 ≤ 10000) ∧ mvF 20 m MK t v 10000 nw0 5 = 4 ∧ mvF 20 m MK t v 10000 nw0 0 = t := by
  obtain ⟨a1, a3, a5, a0⟩ := mv_all (pt := 20) (m := m) (MK := MK) (by decide) ht hv 10000 nw0 rok_nw0
  have n0 : nw0 0 = 0 := rfl
  have n1 : nw0 1 = 0 := rfl
  have n3 : nw0 3 = 0 := rfl
  have n5 : nw0 5 = 4 := rfl
  rw [n0] at a0
  rw [n1] at a1
  rw [n3] at a3
  rw [n5] at a5
  exact ⟨⟨by omega, by omega⟩, ⟨by omega, by omega⟩, a5, a0 (by omega)⟩
/-- the slip that a move would leave, of a new object -/
theorem ps_new {t v : Int} {m : Nat} {MK : Nat → Int} (ht : 0 ≤ t ∧ t ≤ 9999) (hv : 1 ≤ v) : (I (mvF 20 m MK t v 10000 nw0 1 - mvF 20 m MK t v 10000 nw0 5 * mvF 20 m MK t v 10000 nw0 0 / 20)).toInt64 = J (mvF 20 m MK t v 10000 nw0 1 - nw0 5 * t / 20) := by
  obtain ⟨a1, a3, a5, a0⟩ := mv_new (m := m) (MK := MK) ht hv
  rw [a5, a0, show nw0 5 = 4 from rfl]
  exact I_long (by omega)
theorem sf_new {t v : Int} {m : Nat} {MK : Nat → Int} (ht : 0 ≤ t ∧ t ≤ 9999) (hv : 1 ≤ v) : sfR 20 m MK nw0 t v ↔ sfC 20 m MK nw0 t v := by
  obtain ⟨a1, a3, a5, a0⟩ := mv_new (m := m) (MK := MK) ht hv
  unfold sfR sfC
  rw [ps_new ht hv, show (I (nw0 1 - nw0 5 * nw0 0 / 20)).toInt64 = J (nw0 1 - nw0 5 * nw0 0 / 20) by decide +kernel, I_eq (by omega) (by decide)]
theorem fs_new {t r1 r2 : Int} {m : Nat} {MK : Nat → Int} (ht : 0 ≤ t ∧ t ≤ 9999) (a : fsC 20 m MK nw0 t r1) (b : fsR 20 m MK nw0 t r2) : r1 = r2 := by
  rcases a with ⟨a1, a2, a3⟩ | ⟨a1, a2⟩ <;> rcases b with ⟨b1, b2, b3⟩ | ⟨b1, b2⟩
  · by_cases h : r1 = r2
    · exact h
    · by_cases h2 : r1 < r2
      · exact absurd ((sf_new ht (by omega)).mp b2) (a3 r2 h2 b1.2)
      · exact absurd ((sf_new ht (by omega)).mpr a2) (b3 r1 (by omega) a1.2)
  · exact absurd ((sf_new ht (by omega)).mpr a2) (b2 r1 a1.1 a1.2)
  · exact absurd ((sf_new ht (by omega)).mp b2) (a2 r2 b1.1 b1.2)
  · rw [a1, b1]
/-- what magnificationBits says -/
def mgV (pt q : Int) : UInt32 := FP.fdiv (FP.i2f (I q)) (FP.i2f (I ((pt - q).natAbs : Int)))
theorem mg_fb {pt q : Int} (hp : 8 ≤ pt ∧ pt ≤ 80) (hq : 8 ≤ q ∧ q ≤ 80) (hd : ¬ (pt - q).natAbs = 0) : ∃ c e, FB (mgV pt q) c e := fq_fb (fi_int (by omega)) (fi_int (by omega)) (by omega) (by omega)
def mgR (pt q : Int) : Int32 := if (pt - q).natAbs = 0 then I (-4) else (mgV pt q).toInt32
set_option maxHeartbeats 4000000 in
set_option maxRecDepth 100000 in
theorem n7_magnificationBits {z : ZG} {d sz s : Nat} {h : AH} {tn mn pt hn : Int} {TX MK N : Nat → Int} (hE : EN h s tn TX mn MK pt hn N) (hR : ER tn TX mn MK pt hn N) : M z YX7_magnificationBits (d + 2) 0 0 [.ref 0] h sz (fun w h' sz' => w = some (.int (mgR pt (N 6))) ∧ h' = h ∧ sz' = sz) := by
  refine M.of (by decide +kernel) (Nat.le_of_ble_eq_true rfl) ?_
  obtain ⟨rt, rx, rm, rmk, rp, rh, rn⟩ := hR
  have h6 := rn.2.2.2.1
  refine V_aload_n dX7_magnificationBits_0 rfl ?_
  refine V_callV (Y' := YX7_pitchDifference) dX7_magnificationBits_1 lX7_295 gX7_pitchDifference (m7_pitchDifference hE ⟨rt, rx, rm, rmk, rp, rh, rn⟩) hE.1 rfl rfl rfl (Nat.le_of_ble_eq_true rfl) ⟨Nat.zero_le _, Nat.zero_le _⟩ (fun v h1 sz1 hq => ?_)
  obtain ⟨rfl, rfl, rfl⟩ := hq
  refine V_istore_n dX7_magnificationBits_4 (Nat.le_of_ble_eq_true rfl) ?_
  refine V_iload_n dX7_magnificationBits_5 rfl ?_
  refine J_if_ne (tgt := 12) dX7_magnificationBits_6 (by decide) (by omega) (fun c6 => ?_) (fun c6 => ?_)
  · obtain ⟨c, q, hb⟩ := mg_fb rp h6 (by omega)
    refine V_aload_n dX7_magnificationBits_12 rfl ?_
    refine V_get dX7_magnificationBits_13 fX7_45 hE.1 rfl ?_
    refine V_getN dX7_magnificationBits_16 fX7_172 hE.n.1 rfl ?_
    refine V_i2f dX7_magnificationBits_19 ?_
    refine V_iload_n dX7_magnificationBits_20 rfl ?_
    refine V_i2f dX7_magnificationBits_21 ?_
    refine V_fdiv dX7_magnificationBits_22 (fun f22 hf22 => ?_)
    obtain rfl : f22 = mgV pt (N 6) := al_eq hf22 hb.nn
    refine V_callS (Y' := YX7_bitsOf) dX7_magnificationBits_23 lX7_260 gX7_bitsOf (n7_bitsOf hb) rfl rfl (Nat.le_of_ble_eq_true rfl) ⟨Nat.zero_le _, Nat.zero_le _⟩ (fun v h1 sz1 hq => ?_)
    obtain ⟨rfl, rfl, rfl⟩ := hq
    exact V_iret dX7_magnificationBits_26 rfl rfl ⟨Nat.zero_le _, Nat.zero_le _⟩ ⟨by unfold mgR; rw [if_neg (by omega)], rfl, rfl⟩
  · refine J_bipush dX7_magnificationBits_9 (by decide) ?_
    exact V_iret dX7_magnificationBits_11 rfl rfl ⟨Nat.zero_le _, Nat.zero_le _⟩ ⟨by unfold mgR; rw [if_pos (by omega)], rfl, rfl⟩
theorem n8_magnificationBits {z : ZG} {d sz r n s : Nat} {g h : AH} {l sp nu rs rm sc mk km : Int} {T RA RD MA NW SD KP : Nat → Int} (hm : MS g r n s l sp nu rs rm sc mk km T RA RD MA NW SD KP h) (hs : 8 ≤ sc ∧ sc ≤ 80) (hr : rok NW) : M z YX8_magnificationBits (d + 2) 0 0 [.ref r] h sz (fun w h' sz' => w = some (.int (mgR sc (NW 6))) ∧ h' = h ∧ sz' = sz) := by
  refine M.mono ?_ (m8_magnificationBits hm hs hr)
  intro w h' sz' q
  obtain ⟨⟨v, rfl, hv⟩, rfl, rfl⟩ := q
  refine ⟨?_, rfl, rfl⟩
  rcases hv with ⟨a, rfl⟩ | ⟨a, f1, b1, b2⟩
  · unfold mgR; rw [if_pos a]
  · obtain ⟨c, q, hb⟩ := mg_fb hs hr.2.2.2.1 a
    obtain rfl : f1 = mgV sc (NW 6) := al_eq b1 hb.nn
    rw [b2 (fcs hb.nn)]
    unfold mgR; rw [if_neg a]
theorem t0_rg : ∀ j : Nat, j < 200 → 0 ≤ (fun _ : Nat => (0 : Int)) j ∧ (fun _ : Nat => (0 : Int)) j ≤ 126 := fun _ _ => ⟨Int.le_refl _, show (0 : Int) ≤ 126 by decide⟩
theorem er0 : ER 0 (fun _ => 0) 3 ra0 20 0 nw0 := ⟨by decide, t0_rg, by decide, ra0_rg, by decide, by decide, rok_nw0⟩
/-- the reference as it is made -/
def MN (h g : AH) : Prop := MS g 114 119 120 0 0 0 20 3 20 3 0 (fun _ => 0) ra0 nw0 ra0 nw0 (fun _ => 0) (fun _ => 0) h
/-- the X7 side as it is made -/
def ENN (h : AH) : Prop := EN h 100 0 (fun _ => 0) 3 ra0 20 0 nw0
set_option maxHeartbeats 4000000 in
set_option maxRecDepth 100000 in
theorem q7_append {z : ZG} {d sz : Nat} {h : AH} (hE : ENN h) {c : Int} (hc : -2147483648 ≤ c ∧ c < 2147483648) : M z YX7_append (d + 1) 0 0 [.ref 0, .int (I c)] h sz (fun w h' sz' => sz' = sz ∧ fr h h' 0 114 ∧ w = some (.int (I (if 32 ≤ c ∧ c ≤ 126 then 1 else -1)))) := by
  refine M.mono ?_ (m7_append hE er0 hc)
  intro w h' sz' q
  obtain ⟨res, l2, T2, rfl, a, b, _, c⟩ := q
  refine ⟨a, b, ?_⟩
  rcases c with ⟨c, rfl, _⟩ | ⟨_, c, _⟩ | ⟨c, _, rfl, _⟩
  · rw [if_neg c]
  · exact absurd c (by decide)
  · rw [if_pos c]; rfl
set_option maxHeartbeats 4000000 in
set_option maxRecDepth 100000 in
theorem q8_append {z : ZG} {d sz : Nat} {g h : AH} (hm : MN h g) {c : Int} (hc : -2147483648 ≤ c ∧ c < 2147483648) : M z YX8_append (d + 1) 0 0 [.ref 114, .int (I c)] h sz (fun w h' sz' => w = some (.int (I (if 32 ≤ c ∧ c ≤ 126 then 1 else -1)))) := by
  refine M.mono ?_ (m8_append hc hm (by decide))
  intro w h' sz' q
  obtain ⟨res, l2, T2, rfl, _, _, c⟩ := q
  rcases c with ⟨c, rfl, _⟩ | ⟨_, c, _⟩ | ⟨c, _, rfl, _⟩
  · rw [if_neg c]
  · exact absurd c (by decide)
  · rw [if_pos c]; rfl
set_option maxHeartbeats 4000000 in
set_option maxRecDepth 100000 in
theorem q7_clearText {z : ZG} {d sz : Nat} {h : AH} (hE : ENN h) : M z YX7_clearText (d + 1) 0 0 [.ref 0] h sz (fun w h' sz' => sz' = sz ∧ fr h h' 0 114 ∧ w = some (.int (I 0))) := by
  refine M.mono ?_ (m7_clearText hE er0)
  intro w h' sz' q
  obtain ⟨rfl, a, b, _⟩ := q
  exact ⟨a, b, rfl⟩
set_option maxHeartbeats 4000000 in
set_option maxRecDepth 100000 in
theorem q8_clearText {z : ZG} {d sz : Nat} {g h : AH} (hm : MN h g) : M z YX8_clearText d 0 0 [.ref 114] h sz (fun w h' sz' => w = some (.int (I 0))) := by
  refine M.mono ?_ (m8_clearText hm)
  intro w h' sz' q
  obtain ⟨rfl, _⟩ := q
  rfl
set_option maxHeartbeats 4000000 in
set_option maxRecDepth 100000 in
theorem q7_firstError {z : ZG} {d sz : Nat} {h : AH} (hE : ENN h) : M z YX7_firstError (d + 8) 0 0 [.ref 0] h sz (fun w h' sz' => sz' = sz ∧ fr h h' 0 114 ∧ w = some (.int (I (rdF (fun _ => 0) 0 201 (0, 0, 0, ra0, rd0)).1))) := by
  refine M.mono ?_ (m7_firstError hE (by decide) t0_rg ra0_rg)
  intro w h' sz' q
  obtain ⟨a, b, rfl, _⟩ := q
  exact ⟨a, b, rfl⟩
set_option maxHeartbeats 4000000 in
set_option maxRecDepth 100000 in
theorem q8_firstError {z : ZG} {d sz : Nat} {g h : AH} (hm : MN h g) : M z YX8_firstError (d + 5) 0 0 [.ref 114] h sz (fun w h' sz' => w = some (.int (I (rdF (fun _ => 0) 0 201 (0, 0, 0, ra0, rd0)).1))) := by
  refine M.mono ?_ (m8_firstError t0_rg (by decide) ra0_rg hm)
  intro w h' sz' q
  obtain ⟨_, rfl, _⟩ := q
  rfl
set_option maxHeartbeats 4000000 in
set_option maxRecDepth 100000 in
theorem q7_configure {z : ZG} {d sz : Nat} {h : AH} (hE : ENN h) : M z YX7_configure (d + 8) 0 0 [.ref 0] h sz (fun w h' sz' => sz' = sz ∧ fr h h' 0 114 ∧ w = some (.int (I (if (rdF (fun _ => 0) 0 201 (0, 0, 0, ra0, rd0)).1 = -4 ∧ ¬ (rdF (fun _ => 0) 0 201 (0, 0, 0, ra0, rd0)).2.2.1 = 0 then (rdF (fun _ => 0) 0 201 (0, 0, 0, ra0, rd0)).2.2.2.1 else -2)))) := by
  refine M.mono ?_ (m7_configure hE (by decide) t0_rg (by decide) (by decide) ra0_rg)
  intro w h' sz' q
  obtain ⟨a, b, c⟩ := q
  refine ⟨a, b, ?_⟩
  rcases c with ⟨c, rfl, _⟩ | ⟨c, _, rfl, _⟩
  · rw [if_neg c]
  · rw [if_pos c]
set_option maxHeartbeats 4000000 in
set_option maxRecDepth 100000 in
theorem q8_configure {z : ZG} {d sz : Nat} {g h : AH} (hm : MN h g) : M z YX8_configure (d + 5) 0 0 [.ref 114] h sz (fun w h' sz' => w = some (.int (I (if (rdF (fun _ => 0) 0 201 (0, 0, 0, ra0, rd0)).1 = -4 ∧ ¬ (rdF (fun _ => 0) 0 201 (0, 0, 0, ra0, rd0)).2.2.1 = 0 then (rdF (fun _ => 0) 0 201 (0, 0, 0, ra0, rd0)).2.2.2.1 else -2)))) := by
  refine M.mono ?_ (m8_configure t0_rg (by decide) ra0_rg hm)
  intro w h' sz' q
  obtain ⟨_, c⟩ := q
  rcases c with ⟨c, rfl, _⟩ | ⟨c, _, rfl, _⟩
  · rw [if_neg c]
  · rw [if_pos c]
set_option maxHeartbeats 4000000 in
set_option maxRecDepth 100000 in
theorem q7_moveTo {z : ZG} {d sz : Nat} {h : AH} (hE : ENN h) {t : Int} (ht : -2147483648 ≤ t ∧ t < 2147483648) {v : Int} (hv : -2147483648 ≤ v ∧ v < 2147483648) : M z YX7_moveTo (d + 6) 0 0 [.ref 0, .int (I t), .int (I v)] h sz (fun w h' sz' => sz' = sz ∧ fr h h' 0 114 ∧ w = some (.int (I (if ((0 ≤ t ∧ t ≤ 9999) ∧ 1 ≤ v ∧ v ≤ 99) then mvF 20 3 ra0 t v 10000 nw0 3 - nw0 3 else -1)))) := by
  refine M.mono ?_ (m7_moveTo (m := 3) hE er0 ht hv)
  intro w h' sz' q
  obtain ⟨a, b, _, c⟩ := q
  refine ⟨a, b, ?_⟩
  rcases c with ⟨c, rfl⟩ | ⟨c, rfl⟩
  · rw [if_neg c]
  · rw [if_pos c]
set_option maxHeartbeats 4000000 in
set_option maxRecDepth 100000 in
theorem q8_moveTo {z : ZG} {d sz : Nat} {g h : AH} (hm : MN h g) {t : Int} (ht : -2147483648 ≤ t ∧ t < 2147483648) {v : Int} (hv : -2147483648 ≤ v ∧ v < 2147483648) : M z YX8_moveTo (d + 4) 0 0 [.ref 114, .int (I t), .int (I v)] h sz (fun w h' sz' => w = some (.int (I (if ((0 ≤ t ∧ t ≤ 9999) ∧ 1 ≤ v ∧ v ≤ 99) then mvF 20 3 ra0 t v 10000 nw0 3 - nw0 3 else -1)))) := by
  refine M.mono ?_ (m8_moveTo (m := 3) ht hv hm (by decide) (by decide) ra0_rg rok_nw0 (by decide))
  intro w h' sz' q
  obtain ⟨_, c⟩ := q
  rcases c with ⟨c, rfl, _⟩ | ⟨c, rfl, _⟩
  · rw [if_neg c]
  · rw [if_pos c]
set_option maxHeartbeats 4000000 in
set_option maxRecDepth 100000 in
theorem q7_setMode {z : ZG} {d sz : Nat} {h : AH} (hE : ENN h) {m : Int} (hm1 : -2147483648 ≤ m ∧ m < 2147483648) : M z YX7_setMode (d + 6) 0 0 [.ref 0, .int (I m)] h sz (fun w h' sz' => sz' = sz ∧ fr h h' 0 114 ∧ w = some (.int (I (if m = 1 ∨ m = 2 ∨ m = 4 then 4 else -1)))) := by
  refine M.mono ?_ (m7_setMode hE er0 hm1)
  intro w h' sz' q
  obtain ⟨a, b, _, res, rfl, c⟩ := q
  refine ⟨a, b, ?_⟩
  rcases c with ⟨c, rfl⟩ | ⟨c, rfl⟩
  · rw [if_neg c]
  · rw [if_pos c]; rfl
set_option maxHeartbeats 4000000 in
set_option maxRecDepth 100000 in
theorem q8_setMode {z : ZG} {d sz : Nat} {g h : AH} (hm : MN h g) {m : Int} (hm1 : -2147483648 ≤ m ∧ m < 2147483648) : M z YX8_setMode (d + 1) 0 0 [.ref 114, .int (I m)] h sz (fun w h' sz' => w = some (.int (I (if m = 1 ∨ m = 2 ∨ m = 4 then 4 else -1)))) := by
  refine M.mono ?_ (m8_setMode hm1 hm (by decide) rok_nw0 (by decide))
  intro w h' sz' q
  obtain ⟨_, c⟩ := q
  rcases c with ⟨c, rfl, _⟩ | ⟨c, rfl, _⟩
  · rw [if_neg c]
  · rw [if_pos c]; rfl
set_option maxHeartbeats 4000000 in
set_option maxRecDepth 100000 in
theorem q7_setIndexGrating {z : ZG} {d sz : Nat} {h : AH} (hE : ENN h) {p : Int} (hp : -2147483648 ≤ p ∧ p < 2147483648) {q0 : Int} (hq0 : -2147483648 ≤ q0 ∧ q0 < 2147483648) : M z YX7_setIndexGrating (d + 6) 0 0 [.ref 0, .int (I p), .int (I q0)] h sz (fun w h' sz' => sz' = sz ∧ fr h h' 0 114 ∧ w = some (.int (I (if (8 ≤ p ∧ p ≤ 80) ∧ 0 ≤ q0 ∧ q0 ≤ 79 then 22 else -1)))) := by
  refine M.mono ?_ (m7_setIndexGrating hE er0 hp hq0)
  intro w h' sz' q
  obtain ⟨a, b, _, res, rfl, c⟩ := q
  refine ⟨a, b, ?_⟩
  rcases c with ⟨c, rfl⟩ | ⟨c, rfl⟩
  · rw [if_neg c]
  · rw [if_pos c]; rfl
set_option maxHeartbeats 4000000 in
set_option maxRecDepth 100000 in
theorem q8_setIndexGrating {z : ZG} {d sz : Nat} {g h : AH} (hm : MN h g) {p : Int} (hp : -2147483648 ≤ p ∧ p < 2147483648) {q0 : Int} (hq0 : -2147483648 ≤ q0 ∧ q0 < 2147483648) : M z YX8_setIndexGrating (d + 1) 0 0 [.ref 114, .int (I p), .int (I q0)] h sz (fun w h' sz' => w = some (.int (I (if (8 ≤ p ∧ p ≤ 80) ∧ 0 ≤ q0 ∧ q0 ≤ 79 then 22 else -1)))) := by
  refine M.mono ?_ (m8_setIndexGrating hp hq0 hm (by decide))
  intro w h' sz' q
  obtain ⟨_, c⟩ := q
  rcases c with ⟨c, rfl, _⟩ | ⟨c, rfl, _⟩
  · rw [if_neg c]
  · rw [if_pos c]; rfl
set_option maxHeartbeats 4000000 in
set_option maxRecDepth 100000 in
theorem q7_addDirt {z : ZG} {d sz : Nat} {h : AH} (hE : ENN h) {x : Int} (hx : -2147483648 ≤ x ∧ x < 2147483648) {y : Int} (hy : -2147483648 ≤ y ∧ y < 2147483648) : M z YX7_addDirt (d + 6) 0 0 [.ref 0, .int (I x), .int (I y)] h sz (fun w h' sz' => sz' = sz ∧ fr h h' 0 114 ∧ w = some (.int (I (if (0 ≤ x ∧ x ≤ 9999) ∧ 1 ≤ y ∧ y ≤ 99 then 2 else -1)))) := by
  refine M.mono ?_ (m7_addDirt hE er0 hx hy)
  intro w h' sz' q
  obtain ⟨a, b, _, res, rfl, c⟩ := q
  refine ⟨a, b, ?_⟩
  rcases c with ⟨c, rfl⟩ | ⟨_, c, _⟩ | ⟨c, _, rfl⟩
  · rw [if_neg c]
  · exact absurd c (by decide)
  · rw [if_pos c]; rfl
set_option maxHeartbeats 4000000 in
set_option maxRecDepth 100000 in
theorem q8_addDirt {z : ZG} {d sz : Nat} {g h : AH} (hm : MN h g) {x : Int} (hx : -2147483648 ≤ x ∧ x < 2147483648) {y : Int} (hy : -2147483648 ≤ y ∧ y < 2147483648) : M z YX8_addDirt (d + 1) 0 0 [.ref 114, .int (I x), .int (I y)] h sz (fun w h' sz' => w = some (.int (I (if (0 ≤ x ∧ x ≤ 9999) ∧ 1 ≤ y ∧ y ≤ 99 then 2 else -1)))) := by
  refine M.mono ?_ (m8_addDirt hx hy hm (by decide) (by decide))
  intro w h' sz' q
  obtain ⟨_, c⟩ := q
  rcases c with ⟨c, rfl, _⟩ | ⟨_, c, _⟩ | ⟨c, e, he, _, rfl, _⟩
  · rw [if_neg c]
  · exact absurd c (by decide)
  · have he : (1 : Int) = e := he
    rw [if_pos c, ← he]; rfl
set_option maxHeartbeats 4000000 in
set_option maxRecDepth 100000 in
theorem q7_removeDirt {z : ZG} {d sz : Nat} {h : AH} (hE : ENN h) {x : Int} (hx : -2147483648 ≤ x ∧ x < 2147483648) : M z YX7_removeDirt (d + 6) 0 0 [.ref 0, .int (I x)] h sz (fun w h' sz' => sz' = sz ∧ fr h h' 0 114 ∧ w = some (.int (I (if x = 0 then 9 else -1)))) := by
  refine M.mono ?_ (m7_removeDirt hE er0 hx)
  intro w h' sz' q
  obtain ⟨a, b, _, res, rfl, c⟩ := q
  refine ⟨a, b, ?_⟩
  have h8 : nw0 8 = 1 := rfl
  rw [h8] at c
  rcases c with ⟨c, rfl⟩ | ⟨c, rfl⟩
  · rw [if_neg (by omega)]
  · obtain rfl : x = 0 := by omega
    rfl
set_option maxHeartbeats 4000000 in
set_option maxRecDepth 100000 in
theorem q8_removeDirt {z : ZG} {d sz : Nat} {g h : AH} (hm : MN h g) {x : Int} (hx : -2147483648 ≤ x ∧ x < 2147483648) : M z YX8_removeDirt (d + 1) 0 0 [.ref 114, .int (I x)] h sz (fun w h' sz' => w = some (.int (I (if x = 0 then 9 else -1)))) := by
  refine M.mono ?_ (m8_removeDirt hx hm (by decide) (by decide))
  intro w h' sz' q
  obtain ⟨_, c⟩ := q
  have h8 : nw0 8 = 1 := rfl
  rw [h8] at c
  rcases c with ⟨c, rfl, _⟩ | ⟨e, he, c, rfl, _⟩
  · rw [if_neg (by omega)]
  · obtain rfl : e = 0 := by omega
    rw [if_pos (by omega)]; rfl
set_option maxHeartbeats 4000000 in
set_option maxRecDepth 100000 in
theorem q7_zeroSlip {z : ZG} {d sz : Nat} {h : AH} (hE : ENN h) : M z YX7_zeroSlip (d + 6) 0 0 [.ref 0] h sz (fun w h' sz' => sz' = sz ∧ fr h h' 0 114 ∧ w = some (.int (I 0))) := by
  refine M.mono ?_ (m7_zeroSlip hE er0)
  intro w h' sz' q
  obtain ⟨a, b, _, res, rfl, c⟩ := q
  refine ⟨a, b, ?_⟩
  rcases c with ⟨rfl, _⟩ | ⟨_, c⟩
  · rfl
  · exact absurd (by decide) c
set_option maxHeartbeats 4000000 in
set_option maxRecDepth 100000 in
theorem q8_zeroSlip {z : ZG} {d sz : Nat} {g h : AH} (hm : MN h g) : M z YX8_zeroSlip (d + 1) 0 0 [.ref 114] h sz (fun w h' sz' => w = some (.int (I 0))) := by
  refine M.mono ?_ (m8_zeroSlip hm (by decide) rok_nw0 (by decide))
  intro w h' sz' q
  obtain ⟨_, res, rfl, c, _⟩ := q
  rcases c with ⟨rfl, _⟩ | ⟨_, c⟩
  · rfl
  · exact absurd (by decide) c
set_option maxHeartbeats 4000000 in
set_option maxRecDepth 100000 in
theorem q7_recover {z : ZG} {d sz : Nat} {h : AH} (hE : ENN h) {x : Int} (hx : -2147483648 ≤ x ∧ x < 2147483648) : M z YX7_recover (d + 6) 0 0 [.ref 0, .int (I x)] h sz (fun w h' sz' => sz' = sz ∧ fr h h' 0 114 ∧ w = some (.int (I (if 0 ≤ x ∧ x ≤ 9 then -2 else -1)))) := by
  refine M.mono ?_ (m7_recover hE er0 hx)
  intro w h' sz' q
  obtain ⟨a, b, _, res, rfl, c1, c2⟩ := q
  refine ⟨a, b, ?_⟩
  by_cases c : 0 ≤ x ∧ x ≤ 9
  · rw [if_pos c, c2 c rfl]
  · rw [if_neg c, c1 c]
set_option maxHeartbeats 4000000 in
set_option maxRecDepth 100000 in
theorem q8_recover {z : ZG} {d sz : Nat} {g h : AH} (hm : MN h g) {x : Int} (hx : -2147483648 ≤ x ∧ x < 2147483648) : M z YX8_recover (d + 2) 0 0 [.ref 114, .int (I x)] h sz (fun w h' sz' => w = some (.int (I (if 0 ≤ x ∧ x ≤ 9 then -2 else -1)))) := by
  refine M.mono ?_ (m8_recover (m := 3) hx hm (by decide) (by decide) ra0_rg rok_nw0 (by decide))
  intro w h' sz' q
  obtain ⟨_, res, rfl, c⟩ := q
  rcases c with ⟨_, ⟨c, rfl⟩ | ⟨c, _, rfl⟩⟩ | ⟨⟨_, c⟩, _⟩
  · rw [if_neg c]
  · rw [if_pos c]
  · exact absurd rfl c
set_option maxHeartbeats 4000000 in
set_option maxRecDepth 100000 in
theorem q7_undo {z : ZG} {d sz : Nat} {h : AH} (hE : ENN h) : M z YX7_undo (d + 1) 0 0 [.ref 0] h sz (fun w h' sz' => sz' = sz ∧ fr h h' 0 114 ∧ w = some (.int (I (-2)))) := by
  refine M.mono ?_ (m7_undo hE er0)
  intro w h' sz' q
  obtain ⟨a, b, _, res, rfl, c⟩ := q
  refine ⟨a, b, ?_⟩
  rcases c with ⟨_, rfl⟩ | ⟨c, _⟩
  · rfl
  · exact absurd rfl c
set_option maxHeartbeats 4000000 in
set_option maxRecDepth 100000 in
theorem q8_undo {z : ZG} {d sz : Nat} {g h : AH} (hm : MN h g) : M z YX8_undo d 0 0 [.ref 114] h sz (fun w h' sz' => w = some (.int (I (-2)))) := by
  refine M.mono ?_ (m8_undo hm (by decide))
  intro w h' sz' q
  obtain ⟨_, c⟩ := q
  rcases c with ⟨_, rfl, _⟩ | ⟨k, hk, _⟩
  · rfl
  · omega
set_option maxHeartbeats 4000000 in
set_option maxRecDepth 100000 in
theorem q7_position {z : ZG} {d sz : Nat} {h : AH} (hE : ENN h) : M z YX7_position d 0 0 [.ref 0] h sz (fun w h' sz' => sz' = sz ∧ fr h h' 0 114 ∧ w = some (.int (I 0))) := by
  refine M.mono ?_ (m7_position hE er0)
  intro w h' sz' q
  obtain ⟨rfl, rfl, rfl⟩ := q
  exact ⟨rfl, fr.rf, rfl⟩
set_option maxHeartbeats 4000000 in
set_option maxRecDepth 100000 in
theorem q8_position {z : ZG} {d sz : Nat} {g h : AH} (hm : MN h g) : M z YX8_position d 0 0 [.ref 114] h sz (fun w h' sz' => w = some (.int (I 0))) := by
  refine M.mono ?_ (m8_position hm)
  intro w h' sz' q
  obtain ⟨rfl, rfl, rfl⟩ := q
  rfl
set_option maxHeartbeats 4000000 in
set_option maxRecDepth 100000 in
theorem q7_counter {z : ZG} {d sz : Nat} {h : AH} (hE : ENN h) : M z YX7_counter d 0 0 [.ref 0] h sz (fun w h' sz' => sz' = sz ∧ fr h h' 0 114 ∧ w = some (.long (J 0))) := by
  refine M.mono ?_ (m7_counter hE er0)
  intro w h' sz' q
  obtain ⟨rfl, rfl, rfl⟩ := q
  exact ⟨rfl, fr.rf, rfl⟩
set_option maxHeartbeats 4000000 in
set_option maxRecDepth 100000 in
theorem q8_counter {z : ZG} {d sz : Nat} {g h : AH} (hm : MN h g) : M z YX8_counter d 0 0 [.ref 114] h sz (fun w h' sz' => w = some (.long (J 0))) := by
  refine M.mono ?_ (m8_counter hm)
  intro w h' sz' q
  obtain ⟨rfl, rfl, rfl⟩ := q
  exact congrArg (fun x => some (Value.long x)) (show (I 0).toInt64 = J 0 by decide +kernel)
set_option maxHeartbeats 4000000 in
set_option maxRecDepth 100000 in
theorem q7_slip {z : ZG} {d sz : Nat} {h : AH} (hE : ENN h) : M z YX7_slip (d + 2) 0 0 [.ref 0] h sz (fun w h' sz' => sz' = sz ∧ fr h h' 0 114 ∧ w = some (.long (J 0))) := by
  refine M.mono ?_ (m7_slip hE er0)
  intro w h' sz' q
  obtain ⟨rfl, rfl, rfl⟩ := q
  exact ⟨rfl, fr.rf, rfl⟩
set_option maxHeartbeats 4000000 in
set_option maxRecDepth 100000 in
theorem q8_slip {z : ZG} {d sz : Nat} {g h : AH} (hm : MN h g) : M z YX8_slip (d + 2) 0 0 [.ref 114] h sz (fun w h' sz' => w = some (.long (J 0))) := by
  refine M.mono ?_ (m8_slip hm (by decide) rok_nw0)
  intro w h' sz' q
  obtain ⟨rfl, rfl, rfl⟩ := q
  exact congrArg (fun x => some (Value.long x)) (show (I (nw0 1 - nw0 5 * nw0 0 / 20)).toInt64 = J 0 by decide +kernel)
set_option maxHeartbeats 4000000 in
set_option maxRecDepth 100000 in
theorem q7_misses {z : ZG} {d sz : Nat} {h : AH} (hE : ENN h) : M z YX7_misses d 0 0 [.ref 0] h sz (fun w h' sz' => sz' = sz ∧ fr h h' 0 114 ∧ w = some (.int (I 0))) := by
  refine M.mono ?_ (m7_misses hE er0)
  intro w h' sz' q
  obtain ⟨rfl, rfl, rfl⟩ := q
  exact ⟨rfl, fr.rf, rfl⟩
set_option maxHeartbeats 4000000 in
set_option maxRecDepth 100000 in
theorem q8_misses {z : ZG} {d sz : Nat} {g h : AH} (hm : MN h g) : M z YX8_misses d 0 0 [.ref 114] h sz (fun w h' sz' => w = some (.int (I 0))) := by
  refine M.mono ?_ (m8_misses hm)
  intro w h' sz' q
  obtain ⟨rfl, rfl, rfl⟩ := q
  rfl
set_option maxHeartbeats 4000000 in
set_option maxRecDepth 100000 in
theorem q7_samples {z : ZG} {d sz : Nat} {h : AH} (hE : ENN h) : M z YX7_samples d 0 0 [.ref 0] h sz (fun w h' sz' => sz' = sz ∧ fr h h' 0 114 ∧ w = some (.int (I 0))) := by
  refine M.mono ?_ (m7_samples hE er0)
  intro w h' sz' q
  obtain ⟨rfl, rfl, rfl⟩ := q
  exact ⟨rfl, fr.rf, rfl⟩
set_option maxHeartbeats 4000000 in
set_option maxRecDepth 100000 in
theorem q8_samples {z : ZG} {d sz : Nat} {g h : AH} (hm : MN h g) : M z YX8_samples d 0 0 [.ref 114] h sz (fun w h' sz' => w = some (.int (I 0))) := by
  refine M.mono ?_ (m8_samples hm)
  intro w h' sz' q
  obtain ⟨rfl, rfl, rfl⟩ := q
  rfl
set_option maxHeartbeats 4000000 in
set_option maxRecDepth 100000 in
theorem q7_missRateBits {z : ZG} {d sz : Nat} {h : AH} (hE : ENN h) : M z YX7_missRateBits (d + 1) 0 0 [.ref 0] h sz (fun w h' sz' => sz' = sz ∧ fr h h' 0 114 ∧ w = some (.int (I (-4)))) := by
  refine M.mono ?_ (m7_missRateBits hE er0)
  intro w h' sz' q
  obtain ⟨⟨v, rfl, hv⟩, rfl, rfl⟩ := q
  rw [hv rfl]
  exact ⟨rfl, fr.rf, rfl⟩
set_option maxHeartbeats 4000000 in
set_option maxRecDepth 100000 in
theorem q8_missRateBits {z : ZG} {d sz : Nat} {g h : AH} (hm : MN h g) : M z YX8_missRateBits (d + 2) 0 0 [.ref 114] h sz (fun w h' sz' => w = some (.int (I (-4)))) := by
  refine M.mono ?_ (m8_missRateBits hm)
  intro w h' sz' q
  obtain ⟨⟨v, rfl, hv⟩, rfl, rfl⟩ := q
  rw [hv rfl]
set_option maxHeartbeats 4000000 in
set_option maxRecDepth 100000 in
theorem q7_markPosition {z : ZG} {d sz : Nat} {h : AH} (hE : ENN h) {x : Int} (hx : -2147483648 ≤ x ∧ x < 2147483648) : M z YX7_markPosition (d + 3) 0 0 [.ref 0, .int (I x)] h sz (fun w h' sz' => sz' = sz ∧ fr h h' 0 114 ∧ w = some (.int (I (if 0 ≤ x ∧ x ≤ 3 - 1 then ra0 x.toNat else -1)))) := by
  refine M.mono ?_ (m7_markPosition hE er0 hx)
  intro w h' sz' q
  obtain ⟨v, rfl, c, rfl, rfl⟩ := q
  refine ⟨rfl, fr.rf, ?_⟩
  rcases c with ⟨rfl, c⟩ | ⟨rfl, c⟩
  · rw [if_pos c]
  · rw [if_neg c]
set_option maxHeartbeats 4000000 in
set_option maxRecDepth 100000 in
theorem q8_markPosition {z : ZG} {d sz : Nat} {g h : AH} (hm : MN h g) {x : Int} (hx : -2147483648 ≤ x ∧ x < 2147483648) : M z YX8_markPosition (d + 1) 0 0 [.ref 114, .int (I x)] h sz (fun w h' sz' => w = some (.int (I (if 0 ≤ x ∧ x ≤ 3 - 1 then ra0 x.toNat else -1)))) := by
  refine M.mono ?_ (m8_markPosition hx hm (by decide))
  intro w h' sz' q
  obtain ⟨v, rfl, c, rfl, rfl⟩ := q
  rcases c with ⟨rfl, c⟩ | ⟨rfl, c⟩
  · rw [if_pos c]
  · rw [if_neg c]
set_option maxHeartbeats 4000000 in
set_option maxRecDepth 100000 in
theorem q7_expectedCount {z : ZG} {d sz : Nat} {h : AH} (hE : ENN h) {x : Int} (hx : -2147483648 ≤ x ∧ x < 2147483648) : M z YX7_expectedCount (d + 2) 0 0 [.ref 0, .int (I x)] h sz (fun w h' sz' => sz' = sz ∧ fr h h' 0 114 ∧ w = some (.int (I (if 0 ≤ x ∧ x ≤ 9999 then nw0 5 * x / 20 else -1)))) := by
  refine M.mono ?_ (m7_expectedCount hE er0 hx)
  intro w h' sz' q
  obtain ⟨v, rfl, c, rfl, rfl⟩ := q
  refine ⟨rfl, fr.rf, ?_⟩
  rcases c with ⟨rfl, c⟩ | ⟨rfl, c⟩
  · rw [if_pos c]
  · rw [if_neg c]
set_option maxHeartbeats 4000000 in
set_option maxRecDepth 100000 in
theorem q8_expectedCount {z : ZG} {d sz : Nat} {g h : AH} (hm : MN h g) {x : Int} (hx : -2147483648 ≤ x ∧ x < 2147483648) : M z YX8_expectedCount (d + 1) 0 0 [.ref 114, .int (I x)] h sz (fun w h' sz' => w = some (.int (I (if 0 ≤ x ∧ x ≤ 9999 then nw0 5 * x / 20 else -1)))) := by
  refine M.mono ?_ (m8_expectedCount hx hm (by decide) rok_nw0)
  intro w h' sz' q
  obtain ⟨v, rfl, c, rfl, rfl⟩ := q
  rcases c with ⟨rfl, c⟩ | ⟨rfl, c⟩
  · rw [if_pos c]
  · rw [if_neg c]
set_option maxHeartbeats 4000000 in
set_option maxRecDepth 100000 in
theorem q7_eventKind {z : ZG} {d sz : Nat} {h : AH} (hE : ENN h) {x : Int} (hx : -2147483648 ≤ x ∧ x < 2147483648) : M z YX7_eventKind (d + 3) 0 0 [.ref 0, .int (I x)] h sz (fun w h' sz' => sz' = sz ∧ fr h h' 0 114 ∧ w = some (.int (I (-1)))) := by
  refine M.mono ?_ (m7_eventKind hE er0 hx)
  intro w h' sz' q
  obtain ⟨v, rfl, c, rfl, rfl⟩ := q
  refine ⟨rfl, fr.rf, ?_⟩
  have h17 : nw0 17 = 0 := rfl
  rw [h17] at c
  rcases c with ⟨rfl, c⟩ | ⟨rfl, c⟩
  · omega
  · rfl
set_option maxHeartbeats 4000000 in
set_option maxRecDepth 100000 in
theorem q8_eventKind {z : ZG} {d sz : Nat} {g h : AH} (hm : MN h g) {x : Int} (hx : -2147483648 ≤ x ∧ x < 2147483648) : M z YX8_eventKind (d + 2) 0 0 [.ref 114, .int (I x)] h sz (fun w h' sz' => w = some (.int (I (-1)))) := by
  refine M.mono ?_ (m8_eventKind hx hm (by decide))
  intro w h' sz' q
  obtain ⟨v, rfl, c, rfl, rfl⟩ := q
  have h17 : nw0 17 = 0 := rfl
  rcases c with ⟨rfl, c⟩ | ⟨rfl, c⟩
  · rw [h17] at c; omega
  · rfl
set_option maxHeartbeats 4000000 in
set_option maxRecDepth 100000 in
theorem q7_eventPosition {z : ZG} {d sz : Nat} {h : AH} (hE : ENN h) {x : Int} (hx : -2147483648 ≤ x ∧ x < 2147483648) : M z YX7_eventPosition (d + 3) 0 0 [.ref 0, .int (I x)] h sz (fun w h' sz' => sz' = sz ∧ fr h h' 0 114 ∧ w = some (.int (I (-1)))) := by
  refine M.mono ?_ (m7_eventPosition hE er0 hx)
  intro w h' sz' q
  obtain ⟨v, rfl, c, rfl, rfl⟩ := q
  refine ⟨rfl, fr.rf, ?_⟩
  have h17 : nw0 17 = 0 := rfl
  rw [h17] at c
  rcases c with ⟨rfl, c⟩ | ⟨rfl, c⟩
  · omega
  · rfl
set_option maxHeartbeats 4000000 in
set_option maxRecDepth 100000 in
theorem q8_eventPosition {z : ZG} {d sz : Nat} {g h : AH} (hm : MN h g) {x : Int} (hx : -2147483648 ≤ x ∧ x < 2147483648) : M z YX8_eventPosition (d + 2) 0 0 [.ref 114, .int (I x)] h sz (fun w h' sz' => w = some (.int (I (-1)))) := by
  refine M.mono ?_ (m8_eventPosition hx hm (by decide))
  intro w h' sz' q
  obtain ⟨v, rfl, c, rfl, rfl⟩ := q
  have h17 : nw0 17 = 0 := rfl
  rcases c with ⟨rfl, c⟩ | ⟨rfl, c⟩
  · rw [h17] at c; omega
  · rfl
set_option maxHeartbeats 4000000 in
set_option maxRecDepth 100000 in
theorem q7_eventCounter {z : ZG} {d sz : Nat} {h : AH} (hE : ENN h) {x : Int} (hx : -2147483648 ≤ x ∧ x < 2147483648) : M z YX7_eventCounter (d + 3) 0 0 [.ref 0, .int (I x)] h sz (fun w h' sz' => sz' = sz ∧ fr h h' 0 114 ∧ w = some (.long (J (-9223372036854775808)))) := by
  refine M.mono ?_ (m7_eventCounter hE er0 hx)
  intro w h' sz' q
  obtain ⟨v, rfl, c, rfl, rfl⟩ := q
  refine ⟨rfl, fr.rf, ?_⟩
  have h17 : nw0 17 = 0 := rfl
  rw [h17] at c
  rcases c with ⟨rfl, c⟩ | ⟨rfl, c⟩
  · omega
  · rfl
set_option maxHeartbeats 4000000 in
set_option maxRecDepth 100000 in
theorem q8_eventCounter {z : ZG} {d sz : Nat} {g h : AH} (hm : MN h g) {x : Int} (hx : -2147483648 ≤ x ∧ x < 2147483648) : M z YX8_eventCounter (d + 2) 0 0 [.ref 114, .int (I x)] h sz (fun w h' sz' => w = some (.long (J (-9223372036854775808)))) := by
  refine M.mono ?_ (m8_eventCounter hx hm (by decide))
  intro w h' sz' q
  obtain ⟨v, rfl, c, rfl, rfl⟩ := q
  have h17 : nw0 17 = 0 := rfl
  rcases c with ⟨rfl, c⟩ | ⟨rfl, c⟩
  · rw [h17] at c; omega
  · rfl
set_option maxHeartbeats 4000000 in
set_option maxRecDepth 100000 in
theorem q7_predictSlip {z : ZG} {d sz : Nat} {h : AH} (hE : ENN h) {t : Int} (ht : -2147483648 ≤ t ∧ t < 2147483648) {v : Int} (hv : -2147483648 ≤ v ∧ v < 2147483648) : M z YX7_predictSlip (d + 5) 0 0 [.ref 0, .int (I t), .int (I v)] h sz (fun w h' sz' => sz' = sz ∧ fr h h' 0 114 ∧ w = some (.long (J (if ((0 ≤ t ∧ t ≤ 9999) ∧ 1 ≤ v ∧ v ≤ 99) then mvF 20 3 ra0 t v 10000 nw0 1 - nw0 5 * t / 20 else -9223372036854775808)))) := by
  refine M.mono ?_ (m7_predictSlip (m := 3) hE er0 ht hv)
  intro w h' sz' q
  obtain ⟨a, b, _, c⟩ := q
  refine ⟨a, b, ?_⟩
  rcases c with ⟨c, rfl⟩ | ⟨c, rfl⟩
  · rw [if_neg c]
  · rw [if_pos c]
set_option maxHeartbeats 4000000 in
set_option maxRecDepth 100000 in
theorem q8_predictSlip {z : ZG} {d sz : Nat} {g h : AH} (hm : MN h g) {t : Int} (ht : -2147483648 ≤ t ∧ t < 2147483648) {v : Int} (hv : -2147483648 ≤ v ∧ v < 2147483648) : M z YX8_predictSlip (d + 4) 0 0 [.ref 114, .int (I t), .int (I v)] h sz (fun w h' sz' => w = some (.long (J (if ((0 ≤ t ∧ t ≤ 9999) ∧ 1 ≤ v ∧ v ≤ 99) then mvF 20 3 ra0 t v 10000 nw0 1 - nw0 5 * t / 20 else -9223372036854775808)))) := by
  refine M.mono ?_ (m8_predictSlip (m := 3) ht hv hm (by decide) (by decide) ra0_rg rok_nw0)
  intro w h' sz' q
  obtain ⟨_, c⟩ := q
  rcases c with ⟨c, rfl, _⟩ | ⟨c, rfl, _⟩
  · rw [if_neg c]
  · rw [if_pos c, ps_new c.1 c.2.1]
set_option maxHeartbeats 4000000 in
set_option maxRecDepth 100000 in
theorem q7_brightness {z : ZG} {d sz : Nat} {h : AH} (hE : ENN h) {x : Int} (hx : -2147483648 ≤ x ∧ x < 2147483648) {y : Int} (hy : -2147483648 ≤ y ∧ y < 2147483648) : M z YX7_brightness (d + 3) 0 0 [.ref 0, .int (I x), .int (I y)] h sz (fun w h' sz' => sz' = sz ∧ fr h h' 0 114 ∧ w = some (.int (I (if (0 ≤ x ∧ x ≤ 999) ∧ 1 ≤ y ∧ y ≤ 200 then brs 20 nw0 x y.toNat else -1)))) := by
  refine M.mono ?_ (m7_brightness hE er0 hx hy)
  intro w h' sz' q
  obtain ⟨v, rfl, c, rfl, rfl⟩ := q
  refine ⟨rfl, fr.rf, ?_⟩
  rcases c with ⟨rfl, c⟩ | ⟨rfl, c⟩
  · rw [if_pos c]
  · rw [if_neg c]
set_option maxHeartbeats 4000000 in
set_option maxRecDepth 100000 in
theorem q8_brightness {z : ZG} {d sz : Nat} {g h : AH} (hm : MN h g) {x : Int} (hx : -2147483648 ≤ x ∧ x < 2147483648) {y : Int} (hy : -2147483648 ≤ y ∧ y < 2147483648) : M z YX8_brightness (d + 1) 0 0 [.ref 114, .int (I x), .int (I y)] h sz (fun w h' sz' => w = some (.int (I (if (0 ≤ x ∧ x ≤ 999) ∧ 1 ≤ y ∧ y ≤ 200 then brs 20 nw0 x y.toNat else -1)))) := by
  refine M.mono ?_ (m8_brightness hx hy hm (by decide) rok_nw0)
  intro w h' sz' q
  obtain ⟨v, rfl, c, rfl, rfl⟩ := q
  rcases c with ⟨rfl, c⟩ | ⟨rfl, c⟩
  · rw [if_pos c]
  · rw [if_neg c]
set_option maxHeartbeats 4000000 in
set_option maxRecDepth 100000 in
theorem q7_brightestStart {z : ZG} {d sz : Nat} {h : AH} (hE : ENN h) {x : Int} (hx : -2147483648 ≤ x ∧ x < 2147483648) : M z YX7_brightestStart (d + 3) 0 0 [.ref 0, .int (I x)] h sz (fun w h' sz' => sz' = sz ∧ fr h h' 0 114 ∧ w = some (.int (I (if 1 ≤ x ∧ x ≤ 200 then (bb 20 nw0 x.toNat 200).1 else -1)))) := by
  refine M.mono ?_ (m7_brightestStart hE er0 hx)
  intro w h' sz' q
  obtain ⟨v, rfl, c, rfl, rfl⟩ := q
  refine ⟨rfl, fr.rf, ?_⟩
  rcases c with ⟨rfl, c⟩ | ⟨rfl, c⟩
  · rw [if_pos c]
  · rw [if_neg c]
set_option maxHeartbeats 4000000 in
set_option maxRecDepth 100000 in
theorem q8_brightestStart {z : ZG} {d sz : Nat} {g h : AH} (hm : MN h g) {x : Int} (hx : -2147483648 ≤ x ∧ x < 2147483648) : M z YX8_brightestStart (d + 1) 0 0 [.ref 114, .int (I x)] h sz (fun w h' sz' => w = some (.int (I (if 1 ≤ x ∧ x ≤ 200 then (bb 20 nw0 x.toNat 200).1 else -1)))) := by
  refine M.mono ?_ (m8_brightestStart hx hm (by decide) rok_nw0)
  intro w h' sz' q
  obtain ⟨v, rfl, c, rfl, rfl⟩ := q
  rcases c with ⟨rfl, c⟩ | ⟨rfl, c⟩
  · rw [if_pos c]
  · rw [if_neg c]
set_option maxHeartbeats 4000000 in
set_option maxRecDepth 100000 in
theorem q7_overlayPeriod {z : ZG} {d sz : Nat} {h : AH} (hE : ENN h) : M z YX7_overlayPeriod (d + 1) 0 0 [.ref 0] h sz (fun w h' sz' => sz' = sz ∧ fr h h' 0 114 ∧ w = some (.int (I 220))) := by
  refine M.mono ?_ (m7_overlayPeriod hE er0)
  intro w h' sz' q
  obtain ⟨rfl, rfl, rfl⟩ := q
  exact ⟨rfl, fr.rf, congrArg (fun x => some (Value.int (I x))) (by decide)⟩
set_option maxHeartbeats 4000000 in
set_option maxRecDepth 100000 in
theorem q8_overlayPeriod {z : ZG} {d sz : Nat} {g h : AH} (hm : MN h g) : M z YX8_overlayPeriod (d + 1) 0 0 [.ref 114] h sz (fun w h' sz' => w = some (.int (I 220))) := by
  refine M.mono ?_ (m8_overlayPeriod hm (by decide) rok_nw0)
  intro w h' sz' q
  obtain ⟨rfl, rfl, rfl⟩ := q
  exact congrArg (fun x => some (Value.int (I x))) (by decide)
set_option maxHeartbeats 4000000 in
set_option maxRecDepth 100000 in
theorem q7_fringePeriodNumerator {z : ZG} {d sz : Nat} {h : AH} (hE : ENN h) : M z YX7_fringePeriodNumerator (d + 3) 0 0 [.ref 0] h sz (fun w h' sz' => sz' = sz ∧ fr h h' 0 114 ∧ w = some (.int (I 220))) := by
  refine M.mono ?_ (m7_fringePeriodNumerator hE er0)
  intro w h' sz' q
  obtain ⟨v, rfl, c, rfl, rfl⟩ := q
  refine ⟨rfl, fr.rf, ?_⟩
  rcases c with ⟨c, _⟩ | ⟨_, rfl⟩
  · exact absurd c (by decide)
  · exact congrArg (fun x => some (Value.int (I x))) (by decide)
set_option maxHeartbeats 4000000 in
set_option maxRecDepth 100000 in
theorem q8_fringePeriodNumerator {z : ZG} {d sz : Nat} {g h : AH} (hm : MN h g) : M z YX8_fringePeriodNumerator (d + 2) 0 0 [.ref 114] h sz (fun w h' sz' => w = some (.int (I 220))) := by
  refine M.mono ?_ (m8_fringePeriodNumerator hm (by decide) rok_nw0)
  intro w h' sz' q
  obtain ⟨v, rfl, c, rfl, rfl⟩ := q
  rcases c with ⟨c, _⟩ | ⟨_, rfl⟩
  · exact absurd c (by decide)
  · exact congrArg (fun x => some (Value.int (I x))) (by decide)
set_option maxHeartbeats 4000000 in
set_option maxRecDepth 100000 in
theorem q7_fringePeriodDenominator {z : ZG} {d sz : Nat} {h : AH} (hE : ENN h) : M z YX7_fringePeriodDenominator (d + 3) 0 0 [.ref 0] h sz (fun w h' sz' => sz' = sz ∧ fr h h' 0 114 ∧ w = some (.int (I 1))) := by
  refine M.mono ?_ (m7_fringePeriodDenominator hE er0)
  intro w h' sz' q
  obtain ⟨v, rfl, c, rfl, rfl⟩ := q
  refine ⟨rfl, fr.rf, ?_⟩
  rcases c with ⟨c, _⟩ | ⟨_, rfl⟩
  · exact absurd c (by decide)
  · exact congrArg (fun x => some (Value.int (I x))) (by decide)
set_option maxHeartbeats 4000000 in
set_option maxRecDepth 100000 in
theorem q8_fringePeriodDenominator {z : ZG} {d sz : Nat} {g h : AH} (hm : MN h g) : M z YX8_fringePeriodDenominator (d + 2) 0 0 [.ref 114] h sz (fun w h' sz' => w = some (.int (I 1))) := by
  refine M.mono ?_ (m8_fringePeriodDenominator hm (by decide) rok_nw0)
  intro w h' sz' q
  obtain ⟨v, rfl, c, rfl, rfl⟩ := q
  rcases c with ⟨c, _⟩ | ⟨_, rfl⟩
  · exact absurd c (by decide)
  · exact congrArg (fun x => some (Value.int (I x))) (by decide)
set_option maxHeartbeats 4000000 in
set_option maxRecDepth 100000 in
theorem q7_magnificationBits {z : ZG} {d sz : Nat} {h : AH} (hE : ENN h) : M z YX7_magnificationBits (d + 2) 0 0 [.ref 0] h sz (fun w h' sz' => sz' = sz ∧ fr h h' 0 114 ∧ w = some (.int (mgR 20 22))) := by
  refine M.mono ?_ (n7_magnificationBits hE er0)
  intro w h' sz' q
  obtain ⟨rfl, rfl, rfl⟩ := q
  exact ⟨rfl, fr.rf, rfl⟩
set_option maxHeartbeats 4000000 in
set_option maxRecDepth 100000 in
theorem q8_magnificationBits {z : ZG} {d sz : Nat} {g h : AH} (hm : MN h g) : M z YX8_magnificationBits (d + 2) 0 0 [.ref 114] h sz (fun w h' sz' => w = some (.int (mgR 20 22))) := by
  refine M.mono ?_ (n8_magnificationBits hm (by decide) rok_nw0)
  intro w h' sz' q
  obtain ⟨rfl, rfl, rfl⟩ := q
  rfl
set_option maxHeartbeats 4000000 in
set_option maxRecDepth 100000 in
theorem q7_crossedSpacingBits {z : ZG} {d sz : Nat} {h : AH} (hE : ENN h) {x : Int} (hx : -2147483648 ≤ x ∧ x < 2147483648) {y : Int} (hy : -2147483648 ≤ y ∧ y < 2147483648) : M z YX7_crossedSpacingBits (d + 1) 0 0 [.ref 0, .int (I x), .int (I y)] h sz (fun w h' sz' => sz' = sz ∧ fr h h' 0 114 ∧ w = some (.int (csR 20 x y))) := by
  refine M.mono ?_ (n7_crossedSpacingBits hE er0 hx hy)
  intro w h' sz' q
  obtain ⟨rfl, rfl, rfl⟩ := q
  exact ⟨rfl, fr.rf, rfl⟩
set_option maxHeartbeats 4000000 in
set_option maxRecDepth 100000 in
theorem q8_crossedSpacingBits {z : ZG} {d sz : Nat} {g h : AH} (hm : MN h g) {x : Int} (hx : -2147483648 ≤ x ∧ x < 2147483648) {y : Int} (hy : -2147483648 ≤ y ∧ y < 2147483648) : M z YX8_crossedSpacingBits (d + 2) 0 0 [.ref 114, .int (I x), .int (I y)] h sz (fun w h' sz' => w = some (.int (csR 20 x y))) := by
  refine M.mono ?_ (n8_crossedSpacingBits (by decide) hx hy hm)
  intro w h' sz' q
  obtain ⟨rfl, rfl, rfl⟩ := q
  rfl
set_option maxHeartbeats 4000000 in
set_option maxRecDepth 100000 in
theorem q7_fastestSafeSpeed {z : ZG} {d sz : Nat} {h : AH} (hE : ENN h) {t : Int} (ht : -2147483648 ≤ t ∧ t < 2147483648) : M z YX7_fastestSafeSpeed (d + 6) 0 0 [.ref 0, .int (I t)] h sz (fun w h' sz' => sz' = sz ∧ fr h h' 0 114 ∧ ∃ res : Int, w = some (.int (I res)) ∧ ((¬ (0 ≤ t ∧ t ≤ 9999) ∧ res = -1) ∨ ((0 ≤ t ∧ t ≤ 9999) ∧ fsC 20 3 ra0 nw0 t res))) := by
  refine M.mono ?_ (m7_fastestSafeSpeed (m := 3) hE er0 ht)
  intro w h' sz' q
  obtain ⟨a, b, _, c⟩ := q
  exact ⟨a, b, c⟩
theorem q8_fastestSafeSpeed {z : ZG} {d sz : Nat} {g h : AH} (hm : MN h g) {t : Int} (ht : -2147483648 ≤ t ∧ t < 2147483648) : M z YX8_fastestSafeSpeed (d + 4) 0 0 [.ref 114, .int (I t)] h sz (fun w h' sz' => ∃ res : Int, w = some (.int (I res)) ∧ ((¬ (0 ≤ t ∧ t ≤ 9999) ∧ res = -1) ∨ ((0 ≤ t ∧ t ≤ 9999) ∧ fsR 20 3 ra0 nw0 t res))) := by
  refine M.mono ?_ (m8_fastestSafeSpeed (m := 3) ht hm (by decide) (by decide) ra0_rg rok_nw0)
  intro w h' sz' q
  obtain ⟨_, c⟩ := q
  rcases c with ⟨c, rfl, _⟩ | ⟨c, res, SD2, rfl, e, _⟩
  · exact ⟨_, rfl, Or.inl ⟨c, rfl⟩⟩
  · exact ⟨_, rfl, Or.inr ⟨c, e⟩⟩
theorem fs_eq {t r1 r2 : Int} (a : (¬ (0 ≤ t ∧ t ≤ 9999) ∧ r1 = -1) ∨ ((0 ≤ t ∧ t ≤ 9999) ∧ fsC 20 3 ra0 nw0 t r1)) (b : (¬ (0 ≤ t ∧ t ≤ 9999) ∧ r2 = -1) ∨ ((0 ≤ t ∧ t ≤ 9999) ∧ fsR 20 3 ra0 nw0 t r2)) : r1 = r2 := by
  rcases a with ⟨a, rfl⟩ | ⟨a, a2⟩ <;> rcases b with ⟨b, rfl⟩ | ⟨b, b2⟩
  · rfl
  · exact absurd b a
  · exact absurd a b
  · exact fs_new a a2 b2
