/-! THE CLASS: the encoder (X7) at 0: text 1, draft 3, marks 11, history 13, trial 99, the state now at s -/
def DX (h : AH) : Prop := ∃ (rs rm : Int) (RA RD : Nat → Int), (0 ≤ rm ∧ rm ≤ 6) ∧ (0 ≤ RD 8 ∧ RD 8 ≤ 4) ∧ (∀ j : Nat, j < 6 → 0 ≤ RA j ∧ RA j ≤ 9999) ∧ DRa h 3 rs rm RA RD
theorem DX.kept {h h2 : AH} (x : DX h) (e : ∀ q, 3 ≤ q → q < 11 → h2 q = h q) : DX h2 := by
  obtain ⟨rs, rm, RA, RD, a, b, c, x⟩ := x
  exact ⟨rs, rm, RA, RD, a, b, c, x.kept (fun q q1 q2 => e q q1 (by omega))⟩
def TRD (h : AH) : Prop := ∃ q c m : Int, (0 ≤ q ∧ q ≤ 3) ∧ h 99 = some (.inl (0, [.int (I q), .long (J c), .int (I m)]))
def EN (h : AH) (s : Nat) (tn : Int) (TX : Nat → Int) (mn : Int) (MK : Nat → Int) (pt hn : Int) (N : Nat → Int) : Prop :=
  h 0 = some (.inl (7, [.ref 1, .ref 3, .ref 11, .ref 13, .ref 99, .ref s, .int (I pt)])) ∧ RW h 1 200 tn TX ∧ DX h ∧ RW h 11 6 mn MK ∧ HI h s hn ∧ TRD h ∧ CS h s N ∧ SB s
def ER (tn : Int) (TX : Nat → Int) (mn : Int) (MK : Nat → Int) (pt hn : Int) (N : Nat → Int) : Prop :=
  (0 ≤ tn ∧ tn ≤ 200) ∧ (∀ j : Nat, j < 200 → 0 ≤ TX j ∧ TX j ≤ 126) ∧ (0 ≤ mn ∧ mn ≤ 6) ∧ (∀ j : Nat, j < 6 → 0 ≤ MK j ∧ MK j ≤ 9999) ∧ (8 ≤ pt ∧ pt ≤ 80) ∧ (0 ≤ hn ∧ hn ≤ 6) ∧ rok N
section Enc
variable {h h2 : AH} {s : Nat} {tn mn pt hn tn2 hn2 : Int} {TX MK N TX2 N2 : Nat → Int}
theorem EN.t (x : EN h s tn TX mn MK pt hn N) : RW h 1 200 tn TX := x.2.1
theorem EN.d (x : EN h s tn TX mn MK pt hn N) : DX h := x.2.2.1
theorem EN.m (x : EN h s tn TX mn MK pt hn N) : RW h 11 6 mn MK := x.2.2.2.1
theorem EN.hi (x : EN h s tn TX mn MK pt hn N) : HI h s hn := x.2.2.2.2.1
theorem EN.tr (x : EN h s tn TX mn MK pt hn N) : TRD h := x.2.2.2.2.2.1
theorem EN.n (x : EN h s tn TX mn MK pt hn N) : CS h s N := x.2.2.2.2.2.2.1
theorem EN.sb (x : EN h s tn TX mn MK pt hn N) : SB s := x.2.2.2.2.2.2.2
theorem EN.kept (x : EN h s tn TX mn MK pt hn N) (e : ∀ q : Nat, q < 114 → h2 q = h q) : EN h2 s tn TX mn MK pt hn N := by
  obtain ⟨h1, h3, h4, h5, h6, ⟨q, c, m, hq, h7⟩, h8, h9⟩ := x
  obtain ⟨s1, s2, s3⟩ := id h9
  exact ⟨(e 0 (by omega)).trans h1, h3.kept (e _ (by omega)) (e _ (by omega)), h4.kept (fun q q1 q2 => e q (by omega)), h5.kept (e _ (by omega)) (e _ (by omega)), h6.kept (fun q hq => e q (by omega)), ⟨q, c, m, hq, (e 99 (by omega)).trans h7⟩, h8.kept (fun q q1 q2 => e q (by omega)), h9⟩
theorem EN.setT (x : EN h s tn TX mn MK pt hn N) (f : fr h h2 1 3) (r : RW h2 1 200 tn2 TX2) : EN h2 s tn2 TX2 mn MK pt hn N := by
  obtain ⟨h1, h3, h4, h5, h6, ⟨q, c, m, hq, h7⟩, h8, h9⟩ := x
  obtain ⟨s1, s2, s3⟩ := id h9
  exact ⟨(f 0 (by omega)).trans h1, r, h4.kept (fun q q1 q2 => f q (by omega)), h5.kept (f _ (by omega)) (f _ (by omega)), h6.kept (fun q hq => f q (by omega)), ⟨q, c, m, hq, (f 99 (by omega)).trans h7⟩, h8.kept (fun q q1 q2 => f q (by omega)), h9⟩
theorem EN.setD (x : EN h s tn TX mn MK pt hn N) (f : fr h h2 3 11) (r : DX h2) : EN h2 s tn TX mn MK pt hn N := by
  obtain ⟨h1, h3, h4, h5, h6, ⟨q, c, m, hq, h7⟩, h8, h9⟩ := x
  obtain ⟨s1, s2, s3⟩ := id h9
  exact ⟨(f 0 (by omega)).trans h1, h3.kept (f _ (by omega)) (f _ (by omega)), r, h5.kept (f _ (by omega)) (f _ (by omega)), h6.kept (fun q hq => f q (by omega)), ⟨q, c, m, hq, (f 99 (by omega)).trans h7⟩, h8.kept (fun q q1 q2 => f q (by omega)), h9⟩
theorem EN.setN (x : EN h s tn TX mn MK pt hn N) (f : fr h h2 s (s + 14)) (r : CS h2 s N2) : EN h2 s tn TX mn MK pt hn N2 := by
  obtain ⟨h1, h3, h4, h5, h6, ⟨q, c, m, hq, h7⟩, h8, h9⟩ := x
  obtain ⟨s1, s2, s3⟩ := id h9
  exact ⟨(f 0 (by omega)).trans h1, h3.kept (f _ (by omega)) (f _ (by omega)), h4.kept (fun q q1 q2 => f q (by omega)), h5.kept (f _ (by omega)) (f _ (by omega)), h6.kept (fun q hq => f q (by omega)), ⟨q, c, m, hq, (f 99 (by omega)).trans h7⟩, r, h9⟩
theorem EN.setR (x : EN h s tn TX mn MK pt hn N) (f : fr h h2 99 100) (r : TRD h2) : EN h2 s tn TX mn MK pt hn N := by
  obtain ⟨h1, h3, h4, h5, h6, h7, h8, h9⟩ := x
  obtain ⟨s1, s2, s3⟩ := id h9
  exact ⟨(f 0 (by omega)).trans h1, h3.kept (f _ (by omega)) (f _ (by omega)), h4.kept (fun q q1 q2 => f q (by omega)), h5.kept (f _ (by omega)) (f _ (by omega)), h6.kept (fun q hq => f q (by omega)), r, h8.kept (fun q q1 q2 => f q (by omega)), h9⟩
theorem EN.rem (x : EN h s tn TX mn MK pt hn N) (f : hfr s h h2) (r : HI h2 s hn2) : EN h2 s tn TX mn MK pt hn2 N := by
  obtain ⟨h1, h3, h4, h5, h6, ⟨q, c, m, hq, h7⟩, h8, h9⟩ := x
  obtain ⟨s1, s2, s3⟩ := id h9
  exact ⟨(f 0 (by omega)).trans h1, h3.kept (f _ (by omega)) (f _ (by omega)), h4.kept (fun q q1 q2 => f q (by omega)), h5.kept (f _ (by omega)) (f _ (by omega)), r, ⟨q, c, m, hq, (f 99 (by omega)).trans h7⟩, h8.kept (fun q q1 q2 => f q (by omega)), h9⟩
theorem fr.up {lo hi : Nat} (f : fr h h2 lo hi) (e : hi ≤ 114) : fr h h2 0 114 := fun q hq => f q (by omega)
theorem hfr.up (f : hfr s h h2) : fr h h2 0 114 := fun q hq => f q (by omega)
/-- the parts of a state that change -/
theorem CS.put (x : CS h s N) (hx : OB h s 6 (stF6 s N2) h2) (e : ∀ j : Nat, (j = 1 ∨ j = 2 ∨ j = 3 ∨ 8 ≤ j) → N2 j = N j) : CS h2 s N2 := by
  obtain ⟨c1, c2, c3, c4⟩ := x
  refine ⟨hx.1, ?_, ?_, ?_⟩
  · rw [e 1 (by omega), e 2 (by omega), e 3 (by omega)]; exact (hx.2 _ (by omega)).trans c2
  · obtain ⟨g1, g2, g3, g4⟩ := c3.kept (h2 := h2) (fun q q1 q2 => hx.2 q (by omega))
    rw [e 17 (by omega)]
    exact ⟨g1, g2.to (fun j _ => by unfold lK; rw [e 17 (by omega), e _ (by omega)]), g3.to (fun j _ => by unfold lP; rw [e 17 (by omega), e _ (by omega)]), g4.to (fun j _ => by unfold lC; rw [e 17 (by omega), e _ (by omega)])⟩
  · obtain ⟨g1, g2, g3⟩ := c4.kept (h2 := h2) (fun q q1 q2 => hx.2 q (by omega))
    rw [e 8 (by omega)]
    exact ⟨g1, g2.to (fun j _ => by unfold dS; rw [e _ (by omega)]), g3.to (fun j _ => by unfold dL; rw [e _ (by omega)])⟩
theorem CS.dec (x : CS h s N) (hx : OB h (s + 1) 0 [.int (I (N2 2)), .long (J (N2 1)), .int (I (N2 3))] h2) (e : ∀ j : Nat, (j = 0 ∨ 4 ≤ j) → N2 j = N j) : CS h2 s N2 := by
  obtain ⟨c1, c2, c3, c4⟩ := x
  refine ⟨?_, hx.1, ?_, ?_⟩
  · rw [show stF6 s N2 = stF6 s N by unfold stF6; rw [e 0 (by omega), e 4 (by omega), e 5 (by omega), e 6 (by omega), e 7 (by omega)]]; exact (hx.2 _ (by omega)).trans c1
  · obtain ⟨g1, g2, g3, g4⟩ := c3.kept (h2 := h2) (fun q q1 q2 => hx.2 q (by omega))
    rw [e 17 (by omega)]
    exact ⟨g1, g2.to (fun j _ => by unfold lK; rw [e 17 (by omega), e _ (by omega)]), g3.to (fun j _ => by unfold lP; rw [e 17 (by omega), e _ (by omega)]), g4.to (fun j _ => by unfold lC; rw [e 17 (by omega), e _ (by omega)])⟩
  · obtain ⟨g1, g2, g3⟩ := c4.kept (h2 := h2) (fun q q1 q2 => hx.2 q (by omega))
    rw [e 8 (by omega)]
    exact ⟨g1, g2.to (fun j _ => by unfold dS; rw [e _ (by omega)]), g3.to (fun j _ => by unfold dL; rw [e _ (by omega)])⟩
theorem CS.log (h8 : N 8 ≤ 4) (x : CS h s N) (f : fr h h2 (s + 2) (s + 9)) (g : LG h2 (s + 2) (N2 17) (lK N2) (lP N2) (lC N2)) (e : ∀ j : Nat, j < 17 → N2 j = N j) : CS h2 s N2 := by
  obtain ⟨c1, c2, c3, c4⟩ := x
  refine ⟨?_, ?_, g, ?_⟩
  · rw [show stF6 s N2 = stF6 s N by unfold stF6; rw [e 0 (by omega), e 4 (by omega), e 5 (by omega), e 6 (by omega), e 7 (by omega)]]; exact (f _ (by omega)).trans c1
  · rw [e 1 (by omega), e 2 (by omega), e 3 (by omega)]; exact (f _ (by omega)).trans c2
  · obtain ⟨g1, g2, g3⟩ := c4.kept (h2 := h2) (fun q q1 q2 => f q (by omega))
    rw [e 8 (by omega)]
    exact ⟨g1, g2.to (fun j hj => by unfold dS; rw [e _ (by omega)]), g3.to (fun j hj => by unfold dL; rw [e _ (by omega)])⟩
theorem CS.dirt (x : CS h s N) (f : fr h h2 (s + 9) (s + 14)) (g : DT h2 (s + 9) (N2 8) (dS N2) (dL N2)) (e : ∀ j : Nat, (j < 8 ∨ 17 ≤ j) → N2 j = N j) : CS h2 s N2 := by
  obtain ⟨c1, c2, c3, c4⟩ := x
  refine ⟨?_, ?_, ?_, g⟩
  · rw [show stF6 s N2 = stF6 s N by unfold stF6; rw [e 0 (by omega), e 4 (by omega), e 5 (by omega), e 6 (by omega), e 7 (by omega)]]; exact (f _ (by omega)).trans c1
  · rw [e 1 (by omega), e 2 (by omega), e 3 (by omega)]; exact (f _ (by omega)).trans c2
  · obtain ⟨g1, g2, g3, g4⟩ := c3.kept (h2 := h2) (fun q q1 q2 => f q (by omega))
    rw [e 17 (by omega)]
    exact ⟨g1, g2.to (fun j _ => by unfold lK; rw [e 17 (by omega), e _ (by omega)]), g3.to (fun j _ => by unfold lP; rw [e 17 (by omega), e _ (by omega)]), g4.to (fun j _ => by unfold lC; rw [e 17 (by omega), e _ (by omega)])⟩
end Enc
set_option maxHeartbeats 4000000 in
set_option maxRecDepth 100000 in
theorem m7_position {z : ZG} {d sz s : Nat} {h : AH} {tn mn pt hn : Int} {TX MK N : Nat → Int} (hE : EN h s tn TX mn MK pt hn N) (hR : ER tn TX mn MK pt hn N) : M z YX7_position d 0 0 [.ref 0] h sz (fun w h' sz' => w = some (.int (I (N 0))) ∧ h' = h ∧ sz' = sz) := by
  refine M.of (by decide +kernel) (Nat.le_of_ble_eq_true rfl) ?_
  obtain ⟨rt, rx, rm, rmk, rp, rh, rn⟩ := hR
  refine V_aload_n dX7_position_0 rfl ?_
  refine V_get dX7_position_1 fX7_45 hE.1 rfl ?_
  refine V_getN dX7_position_4 fX7_135 hE.n.1 rfl ?_
  exact V_iret dX7_position_7 rfl rfl ⟨Nat.zero_le _, Nat.zero_le _⟩ ⟨rfl, rfl, rfl⟩
set_option maxHeartbeats 4000000 in
set_option maxRecDepth 100000 in
theorem m7_misses {z : ZG} {d sz s : Nat} {h : AH} {tn mn pt hn : Int} {TX MK N : Nat → Int} (hE : EN h s tn TX mn MK pt hn N) (hR : ER tn TX mn MK pt hn N) : M z YX7_misses d 0 0 [.ref 0] h sz (fun w h' sz' => w = some (.int (I (N 3))) ∧ h' = h ∧ sz' = sz) := by
  refine M.of (by decide +kernel) (Nat.le_of_ble_eq_true rfl) ?_
  obtain ⟨rt, rx, rm, rmk, rp, rh, rn⟩ := hR
  refine V_aload_n dX7_misses_0 rfl ?_
  refine V_get dX7_misses_1 fX7_45 hE.1 rfl ?_
  refine V_getN dX7_misses_4 fX7_129 hE.n.1 rfl ?_
  refine V_getN dX7_misses_7 fX7_132 hE.n.2.1 rfl ?_
  exact V_iret dX7_misses_10 rfl rfl ⟨Nat.zero_le _, Nat.zero_le _⟩ ⟨rfl, rfl, rfl⟩
set_option maxHeartbeats 4000000 in
set_option maxRecDepth 100000 in
theorem m7_samples {z : ZG} {d sz s : Nat} {h : AH} {tn mn pt hn : Int} {TX MK N : Nat → Int} (hE : EN h s tn TX mn MK pt hn N) (hR : ER tn TX mn MK pt hn N) : M z YX7_samples d 0 0 [.ref 0] h sz (fun w h' sz' => w = some (.int (I (N 4))) ∧ h' = h ∧ sz' = sz) := by
  refine M.of (by decide +kernel) (Nat.le_of_ble_eq_true rfl) ?_
  obtain ⟨rt, rx, rm, rmk, rp, rh, rn⟩ := hR
  refine V_aload_n dX7_samples_0 rfl ?_
  refine V_get dX7_samples_1 fX7_45 hE.1 rfl ?_
  refine V_getN dX7_samples_4 fX7_235 hE.n.1 rfl ?_
  exact V_iret dX7_samples_7 rfl rfl ⟨Nat.zero_le _, Nat.zero_le _⟩ ⟨rfl, rfl, rfl⟩
set_option maxHeartbeats 4000000 in
set_option maxRecDepth 100000 in
theorem m7_counter {z : ZG} {d sz s : Nat} {h : AH} {tn mn pt hn : Int} {TX MK N : Nat → Int} (hE : EN h s tn TX mn MK pt hn N) (hR : ER tn TX mn MK pt hn N) : M z YX7_counter d 0 0 [.ref 0] h sz (fun w h' sz' => w = some (.long (J (N 1))) ∧ h' = h ∧ sz' = sz) := by
  refine M.of (by decide +kernel) (Nat.le_of_ble_eq_true rfl) ?_
  obtain ⟨rt, rx, rm, rmk, rp, rh, rn⟩ := hR
  refine V_aload_n dX7_counter_0 rfl ?_
  refine V_get dX7_counter_1 fX7_45 hE.1 rfl ?_
  refine V_getN dX7_counter_4 fX7_129 hE.n.1 rfl ?_
  refine V_getN dX7_counter_7 fX7_158 hE.n.2.1 rfl ?_
  exact V_lret dX7_counter_10 rfl ⟨Nat.zero_le _, Nat.zero_le _⟩ ⟨rfl, rfl, rfl⟩
theorem cnt_rg {N : Nat → Int} {x pt : Int} (h : N 5 = 1 ∨ N 5 = 2 ∨ N 5 = 4) (hx : 0 ≤ x ∧ x ≤ 9999) (hp : 8 ≤ pt ∧ pt ≤ 80) : 0 ≤ N 5 * x / pt ∧ N 5 * x / pt ≤ 39996 := by
  have a := md_rg h hx
  refine ⟨Int.ediv_nonneg a.1 (by omega), ?_⟩
  have b : N 5 * x / pt ≤ N 5 * x := Int.ediv_le_self _ a.1
  have c : N 5 * x ≤ 39996 := by rcases h with q | q | q <;> rw [q] <;> omega
  omega
set_option maxHeartbeats 4000000 in
set_option maxRecDepth 100000 in
theorem m7_countAt {z : ZG} {d sz s : Nat} {h : AH} {tn mn pt hn : Int} {TX MK N : Nat → Int} (hE : EN h s tn TX mn MK pt hn N) (hR : ER tn TX mn MK pt hn N) {x : Int} (hx : 0 ≤ x ∧ x ≤ 9999) : M z YX7_countAt (d + 1) 0 0 [.ref 0, .int (I x)] h sz (fun w h' sz' => w = some (.int (I (N 5 * x / pt))) ∧ h' = h ∧ sz' = sz) := by
  refine M.of (by decide +kernel) (Nat.le_of_ble_eq_true rfl) ?_
  obtain ⟨rt, rx, rm, rmk, rp, rh, rn⟩ := hR
  have hmd := md_rg (N := N) rn.2.2.1 hx
  refine V_aload_n dX7_countAt_0 rfl ?_
  refine V_get dX7_countAt_1 fX7_45 hE.1 rfl ?_
  refine V_getN dX7_countAt_4 fX7_152 hE.n.1 rfl ?_
  refine V_iload_n dX7_countAt_7 rfl ?_
  refine J_imul dX7_countAt_8 ?_
  refine V_aload_n dX7_countAt_9 rfl ?_
  refine V_get dX7_countAt_10 fX7_108 hE.1 rfl ?_
  refine V_callS (Y' := YX7_quotient) dX7_countAt_13 lX7_231 gX7_quotient (m7_quotient (by omega) (by omega)) rfl rfl (Nat.le_of_ble_eq_true rfl) ⟨Nat.zero_le _, Nat.zero_le _⟩ (fun v h1 sz1 hq => ?_)
  obtain ⟨rfl, rfl, rfl⟩ := hq
  exact V_iret dX7_countAt_16 rfl rfl ⟨Nat.zero_le _, Nat.zero_le _⟩ ⟨rfl, rfl, rfl⟩
set_option maxHeartbeats 4000000 in
set_option maxRecDepth 100000 in
theorem m7_quadrantAt {z : ZG} {d sz s : Nat} {h : AH} {tn mn pt hn : Int} {TX MK N : Nat → Int} (hE : EN h s tn TX mn MK pt hn N) (hR : ER tn TX mn MK pt hn N) {x : Int} (hx : 0 ≤ x ∧ x ≤ 9999) : M z YX7_quadrantAt (d + 1) 0 0 [.ref 0, .int (I x)] h sz (fun w h' sz' => w = some (.int (I (quad pt x))) ∧ h' = h ∧ sz' = sz) := by
  refine M.of (by decide +kernel) (Nat.le_of_ble_eq_true rfl) ?_
  obtain ⟨rt, rx, rm, rmk, rp, rh, rn⟩ := hR
  have hr1 := Int.emod_nonneg x (show pt ≠ 0 by omega)
  have hr2 := Int.emod_lt_of_pos x (show 0 < pt by omega)
  refine J_iconst dX7_quadrantAt_0 ?_
  refine V_iload_n dX7_quadrantAt_1 rfl ?_
  refine V_aload_n dX7_quadrantAt_2 rfl ?_
  refine V_get dX7_quadrantAt_3 fX7_108 hE.1 rfl ?_
  refine V_callS (Y' := YX7_remainder) dX7_quadrantAt_6 lX7_277 gX7_remainder (m7_remainder (by omega) (by omega)) rfl rfl (Nat.le_of_ble_eq_true rfl) ⟨Nat.zero_le _, Nat.zero_le _⟩ (fun v h1 sz1 hq => ?_)
  obtain ⟨rfl, rfl, rfl⟩ := hq
  refine J_imul dX7_quadrantAt_9 ?_
  refine V_aload_n dX7_quadrantAt_10 rfl ?_
  refine V_get dX7_quadrantAt_11 fX7_108 hE.1 rfl ?_
  refine V_callS (Y' := YX7_quotient) dX7_quadrantAt_14 lX7_231 gX7_quotient (m7_quotient (by omega) (by omega)) rfl rfl (Nat.le_of_ble_eq_true rfl) ⟨Nat.zero_le _, Nat.zero_le _⟩ (fun v h1 sz1 hq => ?_)
  obtain ⟨rfl, rfl, rfl⟩ := hq
  exact V_iret dX7_quadrantAt_17 rfl rfl ⟨Nat.zero_le _, Nat.zero_le _⟩ ⟨rfl, rfl, rfl⟩
set_option maxHeartbeats 4000000 in
set_option maxRecDepth 100000 in
theorem m7_slip {z : ZG} {d sz s : Nat} {h : AH} {tn mn pt hn : Int} {TX MK N : Nat → Int} (hE : EN h s tn TX mn MK pt hn N) (hR : ER tn TX mn MK pt hn N) : M z YX7_slip (d + 2) 0 0 [.ref 0] h sz (fun w h' sz' => w = some (.long (J (N 1 - N 5 * N 0 / pt))) ∧ h' = h ∧ sz' = sz) := by
  refine M.of (by decide +kernel) (Nat.le_of_ble_eq_true rfl) ?_
  obtain ⟨rt, rx, rm, rmk, rp, rh, rn⟩ := hR
  have h0 := rn.1
  have hc0 := cnt_rg (N := N) rn.2.2.1 h0 rp
  refine V_aload_n dX7_slip_0 rfl ?_
  refine V_get dX7_slip_1 fX7_45 hE.1 rfl ?_
  refine V_getN dX7_slip_4 fX7_129 hE.n.1 rfl ?_
  refine V_getN dX7_slip_7 fX7_158 hE.n.2.1 rfl ?_
  refine V_aload_n dX7_slip_10 rfl ?_
  refine V_aload_n dX7_slip_11 rfl ?_
  refine V_get dX7_slip_12 fX7_45 hE.1 rfl ?_
  refine V_getN dX7_slip_15 fX7_135 hE.n.1 rfl ?_
  refine V_callV (Y' := YX7_countAt) dX7_slip_18 lX7_155 gX7_countAt (m7_countAt hE ⟨rt, rx, rm, rmk, rp, rh, rn⟩ (by omega)) hE.1 rfl rfl rfl (Nat.le_of_ble_eq_true rfl) ⟨Nat.zero_le _, Nat.zero_le _⟩ (fun v h1 sz1 hq => ?_)
  obtain ⟨rfl, rfl, rfl⟩ := hq
  refine J_i2l dX7_slip_21 (by omega) ?_
  refine J_lsub dX7_slip_22 ?_
  exact V_lret dX7_slip_23 rfl ⟨Nat.zero_le _, Nat.zero_le _⟩ ⟨rfl, rfl, rfl⟩
set_option maxHeartbeats 4000000 in
set_option maxRecDepth 100000 in
theorem m7_expectedCount {z : ZG} {d sz s : Nat} {h : AH} {tn mn pt hn : Int} {TX MK N : Nat → Int} (hE : EN h s tn TX mn MK pt hn N) (hR : ER tn TX mn MK pt hn N) {x : Int} (hvx : -2147483648 ≤ x ∧ x < 2147483648) : M z YX7_expectedCount (d + 2) 0 0 [.ref 0, .int (I x)] h sz (fun w h' sz' => ∃ v : Int, w = some (.int (I v)) ∧ ((v = N 5 * x / pt ∧ 0 ≤ x ∧ x ≤ 9999) ∨ (v = -1 ∧ ¬ (0 ≤ x ∧ x ≤ 9999))) ∧ h' = h ∧ sz' = sz) := by
  refine M.of (by decide +kernel) (Nat.le_of_ble_eq_true rfl) ?_
  obtain ⟨rt, rx, rm, rmk, rp, rh, rn⟩ := hR
  refine V_iload_n dX7_expectedCount_0 rfl ?_
  refine V_callS (Y' := YX7_isPosition) dX7_expectedCount_1 lX7_264 gX7_isPosition (m7_isPosition (by omega)) rfl rfl (Nat.le_of_ble_eq_true rfl) ⟨Nat.zero_le _, Nat.zero_le _⟩ (fun v h1 sz1 hq => ?_)
  obtain ⟨t1, rfl, ht1, rfl, rfl⟩ := hq
  refine J_if_eq (tgt := 15) dX7_expectedCount_4 (by decide) (by omega) (fun c4 => ?_) (fun c4 => ?_)
  · refine J_iconst dX7_expectedCount_15 ?_
    exact V_iret dX7_expectedCount_16 rfl rfl ⟨Nat.zero_le _, Nat.zero_le _⟩ ⟨_, rfl, by omega, rfl, rfl⟩
  · refine V_aload_n dX7_expectedCount_7 rfl ?_
    refine V_iload_n dX7_expectedCount_8 rfl ?_
    refine V_callV (Y' := YX7_countAt) dX7_expectedCount_9 lX7_155 gX7_countAt (m7_countAt hE ⟨rt, rx, rm, rmk, rp, rh, rn⟩ (by omega)) hE.1 rfl rfl rfl (Nat.le_of_ble_eq_true rfl) ⟨Nat.zero_le _, Nat.zero_le _⟩ (fun v h1 sz1 hq => ?_)
    obtain ⟨rfl, rfl, rfl⟩ := hq
    refine V_goto (tgt := 16) dX7_expectedCount_12 (by decide) ?_
    exact V_iret dX7_expectedCount_16 rfl rfl ⟨Nat.zero_le _, Nat.zero_le _⟩ ⟨_, rfl, by omega, rfl, rfl⟩
set_option maxHeartbeats 4000000 in
set_option maxRecDepth 100000 in
theorem m7_markPosition {z : ZG} {d sz s : Nat} {h : AH} {tn mn pt hn : Int} {TX MK N : Nat → Int} (hE : EN h s tn TX mn MK pt hn N) (hR : ER tn TX mn MK pt hn N) {x : Int} (hvx : -2147483648 ≤ x ∧ x < 2147483648) : M z YX7_markPosition (d + 3) 0 0 [.ref 0, .int (I x)] h sz (fun w h' sz' => ∃ v : Int, w = some (.int (I v)) ∧ ((v = MK x.toNat ∧ 0 ≤ x ∧ x ≤ mn - 1) ∨ (v = -1 ∧ ¬ (0 ≤ x ∧ x ≤ mn - 1))) ∧ h' = h ∧ sz' = sz) := by
  refine M.of (by decide +kernel) (Nat.le_of_ble_eq_true rfl) ?_
  obtain ⟨rt, rx, rm, rmk, rp, rh, rn⟩ := hR
  refine V_aload_n dX7_markPosition_0 rfl ?_
  refine V_get dX7_markPosition_1 fX7_25 hE.1 rfl ?_
  refine V_iload_n dX7_markPosition_4 rfl ?_
  refine V_callV (Y' := YX4_has) dX7_markPosition_5 lX7_194 gX4_has (m4_has (by decide) rm hE.m hvx) hE.m.c rfl rfl rfl (Nat.le_of_ble_eq_true rfl) ⟨Nat.zero_le _, Nat.zero_le _⟩ (fun v h1 sz1 hq => ?_)
  obtain ⟨t5, rfl, ht5, rfl, rfl⟩ := hq
  refine J_if_eq (tgt := 22) dX7_markPosition_8 (by decide) (by omega) (fun c8 => ?_) (fun c8 => ?_)
  · refine J_iconst dX7_markPosition_22 ?_
    exact V_iret dX7_markPosition_23 rfl rfl ⟨Nat.zero_le _, Nat.zero_le _⟩ ⟨_, rfl, by omega, rfl, rfl⟩
  · refine V_aload_n dX7_markPosition_11 rfl ?_
    refine V_get dX7_markPosition_12 fX7_25 hE.1 rfl ?_
    refine V_iload_n dX7_markPosition_15 rfl ?_
    refine V_callV (Y' := YX4_intAt) dX7_markPosition_16 lX7_96 gX4_intAt (m4_intAt (by decide) rm hE.m hvx) hE.m.c rfl rfl rfl (Nat.le_of_ble_eq_true rfl) ⟨Nat.zero_le _, Nat.zero_le _⟩ (fun v h1 sz1 hq => ?_)
    obtain ⟨rfl, rfl, rfl⟩ := hq
    rw [show rat mn MK x = MK x.toNat by unfold rat; rw [if_pos (by omega)]]
    refine V_goto (tgt := 23) dX7_markPosition_19 (by decide) ?_
    exact V_iret dX7_markPosition_23 rfl rfl ⟨Nat.zero_le _, Nat.zero_le _⟩ ⟨_, rfl, by omega, rfl, rfl⟩
set_option maxHeartbeats 4000000 in
set_option maxRecDepth 100000 in
theorem m7_eventKind {z : ZG} {d sz s : Nat} {h : AH} {tn mn pt hn : Int} {TX MK N : Nat → Int} (hE : EN h s tn TX mn MK pt hn N) (hR : ER tn TX mn MK pt hn N) {x : Int} (hvx : -2147483648 ≤ x ∧ x < 2147483648) : M z YX7_eventKind (d + 3) 0 0 [.ref 0, .int (I x)] h sz (fun w h' sz' => ∃ v : Int, w = some (.int (I v)) ∧ ((v = lK N x.toNat ∧ 0 ≤ x ∧ x ≤ N 17 - 1) ∨ (v = -1 ∧ ¬ (0 ≤ x ∧ x ≤ N 17 - 1))) ∧ h' = h ∧ sz' = sz) := by
  refine M.of (by decide +kernel) (Nat.le_of_ble_eq_true rfl) ?_
  obtain ⟨rt, rx, rm, rmk, rp, rh, rn⟩ := hR
  have h17 := rok17 rn
  refine V_aload_n dX7_eventKind_0 rfl ?_
  refine V_get dX7_eventKind_1 fX7_45 hE.1 rfl ?_
  refine V_getN dX7_eventKind_4 fX7_162 hE.n.1 rfl ?_
  refine V_getN dX7_eventKind_7 fX7_267 hE.n.2.2.1.1 rfl ?_
  refine V_iload_n dX7_eventKind_10 rfl ?_
  refine V_callV (Y' := YX4_has) dX7_eventKind_11 lX7_194 gX4_has (m4_has (by decide) h17 hE.n.2.2.1.2.1 hvx) hE.n.2.2.1.2.1.c rfl rfl rfl (Nat.le_of_ble_eq_true rfl) ⟨Nat.zero_le _, Nat.zero_le _⟩ (fun v h1 sz1 hq => ?_)
  obtain ⟨t11, rfl, ht11, rfl, rfl⟩ := hq
  refine J_if_eq (tgt := 34) dX7_eventKind_14 (by decide) (by omega) (fun c14 => ?_) (fun c14 => ?_)
  · refine J_iconst dX7_eventKind_34 ?_
    exact V_iret dX7_eventKind_35 rfl rfl ⟨Nat.zero_le _, Nat.zero_le _⟩ ⟨_, rfl, by omega, rfl, rfl⟩
  · refine V_aload_n dX7_eventKind_17 rfl ?_
    refine V_get dX7_eventKind_18 fX7_45 hE.1 rfl ?_
    refine V_getN dX7_eventKind_21 fX7_162 hE.n.1 rfl ?_
    refine V_getN dX7_eventKind_24 fX7_267 hE.n.2.2.1.1 rfl ?_
    refine V_iload_n dX7_eventKind_27 rfl ?_
    refine V_callV (Y' := YX4_intAt) dX7_eventKind_28 lX7_96 gX4_intAt (m4_intAt (by decide) h17 hE.n.2.2.1.2.1 hvx) hE.n.2.2.1.2.1.c rfl rfl rfl (Nat.le_of_ble_eq_true rfl) ⟨Nat.zero_le _, Nat.zero_le _⟩ (fun v h1 sz1 hq => ?_)
    obtain ⟨rfl, rfl, rfl⟩ := hq
    rw [show rat (N 17) (lK N) x = lK N x.toNat by unfold rat; rw [if_pos (by omega)]]
    refine V_goto (tgt := 35) dX7_eventKind_31 (by decide) ?_
    exact V_iret dX7_eventKind_35 rfl rfl ⟨Nat.zero_le _, Nat.zero_le _⟩ ⟨_, rfl, by omega, rfl, rfl⟩
set_option maxHeartbeats 4000000 in
set_option maxRecDepth 100000 in
theorem m7_eventPosition {z : ZG} {d sz s : Nat} {h : AH} {tn mn pt hn : Int} {TX MK N : Nat → Int} (hE : EN h s tn TX mn MK pt hn N) (hR : ER tn TX mn MK pt hn N) {x : Int} (hvx : -2147483648 ≤ x ∧ x < 2147483648) : M z YX7_eventPosition (d + 3) 0 0 [.ref 0, .int (I x)] h sz (fun w h' sz' => ∃ v : Int, w = some (.int (I v)) ∧ ((v = lP N x.toNat ∧ 0 ≤ x ∧ x ≤ N 17 - 1) ∨ (v = -1 ∧ ¬ (0 ≤ x ∧ x ≤ N 17 - 1))) ∧ h' = h ∧ sz' = sz) := by
  refine M.of (by decide +kernel) (Nat.le_of_ble_eq_true rfl) ?_
  obtain ⟨rt, rx, rm, rmk, rp, rh, rn⟩ := hR
  have h17 := rok17 rn
  refine V_aload_n dX7_eventPosition_0 rfl ?_
  refine V_get dX7_eventPosition_1 fX7_45 hE.1 rfl ?_
  refine V_getN dX7_eventPosition_4 fX7_162 hE.n.1 rfl ?_
  refine V_getN dX7_eventPosition_7 fX7_270 hE.n.2.2.1.1 rfl ?_
  refine V_iload_n dX7_eventPosition_10 rfl ?_
  refine V_callV (Y' := YX4_has) dX7_eventPosition_11 lX7_194 gX4_has (m4_has (by decide) h17 hE.n.2.2.1.2.2.1 hvx) hE.n.2.2.1.2.2.1.c rfl rfl rfl (Nat.le_of_ble_eq_true rfl) ⟨Nat.zero_le _, Nat.zero_le _⟩ (fun v h1 sz1 hq => ?_)
  obtain ⟨t11, rfl, ht11, rfl, rfl⟩ := hq
  refine J_if_eq (tgt := 34) dX7_eventPosition_14 (by decide) (by omega) (fun c14 => ?_) (fun c14 => ?_)
  · refine J_iconst dX7_eventPosition_34 ?_
    exact V_iret dX7_eventPosition_35 rfl rfl ⟨Nat.zero_le _, Nat.zero_le _⟩ ⟨_, rfl, by omega, rfl, rfl⟩
  · refine V_aload_n dX7_eventPosition_17 rfl ?_
    refine V_get dX7_eventPosition_18 fX7_45 hE.1 rfl ?_
    refine V_getN dX7_eventPosition_21 fX7_162 hE.n.1 rfl ?_
    refine V_getN dX7_eventPosition_24 fX7_270 hE.n.2.2.1.1 rfl ?_
    refine V_iload_n dX7_eventPosition_27 rfl ?_
    refine V_callV (Y' := YX4_intAt) dX7_eventPosition_28 lX7_96 gX4_intAt (m4_intAt (by decide) h17 hE.n.2.2.1.2.2.1 hvx) hE.n.2.2.1.2.2.1.c rfl rfl rfl (Nat.le_of_ble_eq_true rfl) ⟨Nat.zero_le _, Nat.zero_le _⟩ (fun v h1 sz1 hq => ?_)
    obtain ⟨rfl, rfl, rfl⟩ := hq
    rw [show rat (N 17) (lP N) x = lP N x.toNat by unfold rat; rw [if_pos (by omega)]]
    refine V_goto (tgt := 35) dX7_eventPosition_31 (by decide) ?_
    exact V_iret dX7_eventPosition_35 rfl rfl ⟨Nat.zero_le _, Nat.zero_le _⟩ ⟨_, rfl, by omega, rfl, rfl⟩
set_option maxHeartbeats 4000000 in
set_option maxRecDepth 100000 in
theorem m7_eventCounter {z : ZG} {d sz s : Nat} {h : AH} {tn mn pt hn : Int} {TX MK N : Nat → Int} (hE : EN h s tn TX mn MK pt hn N) (hR : ER tn TX mn MK pt hn N) {x : Int} (hvx : -2147483648 ≤ x ∧ x < 2147483648) : M z YX7_eventCounter (d + 3) 0 0 [.ref 0, .int (I x)] h sz (fun w h' sz' => ∃ v : Int, w = some (.long (J v)) ∧ ((v = lC N x.toNat ∧ 0 ≤ x ∧ x ≤ N 17 - 1) ∨ (v = -9223372036854775808 ∧ ¬ (0 ≤ x ∧ x ≤ N 17 - 1))) ∧ h' = h ∧ sz' = sz) := by
  refine M.of (by decide +kernel) (Nat.le_of_ble_eq_true rfl) ?_
  obtain ⟨rt, rx, rm, rmk, rp, rh, rn⟩ := hR
  have h17 := rok17 rn
  refine V_aload_n dX7_eventCounter_0 rfl ?_
  refine V_get dX7_eventCounter_1 fX7_45 hE.1 rfl ?_
  refine V_getN dX7_eventCounter_4 fX7_162 hE.n.1 rfl ?_
  refine V_getN dX7_eventCounter_7 fX7_206 hE.n.2.2.1.1 rfl ?_
  refine V_iload_n dX7_eventCounter_10 rfl ?_
  refine V_callV (Y' := YX4_has) dX7_eventCounter_11 lX7_194 gX4_has (m4_has (by decide) h17 hE.n.2.2.1.2.2.2 hvx) hE.n.2.2.1.2.2.2.c rfl rfl rfl (Nat.le_of_ble_eq_true rfl) ⟨Nat.zero_le _, Nat.zero_le _⟩ (fun v h1 sz1 hq => ?_)
  obtain ⟨t11, rfl, ht11, rfl, rfl⟩ := hq
  refine J_if_eq (tgt := 34) dX7_eventCounter_14 (by decide) (by omega) (fun c14 => ?_) (fun c14 => ?_)
  · refine J_ldc2 (-9223372036854775808) dX7_eventCounter_34 cX7_275 rfl ?_
    exact V_lret dX7_eventCounter_37 rfl ⟨Nat.zero_le _, Nat.zero_le _⟩ ⟨_, rfl, by omega, rfl, rfl⟩
  · refine V_aload_n dX7_eventCounter_17 rfl ?_
    refine V_get dX7_eventCounter_18 fX7_45 hE.1 rfl ?_
    refine V_getN dX7_eventCounter_21 fX7_162 hE.n.1 rfl ?_
    refine V_getN dX7_eventCounter_24 fX7_206 hE.n.2.2.1.1 rfl ?_
    refine V_iload_n dX7_eventCounter_27 rfl ?_
    refine V_callV (Y' := YX4_longAt) dX7_eventCounter_28 lX7_209 gX4_longAt (m4_longAt (by decide) h17 hE.n.2.2.1.2.2.2 hvx) hE.n.2.2.1.2.2.2.c rfl rfl rfl (Nat.le_of_ble_eq_true rfl) ⟨Nat.zero_le _, Nat.zero_le _⟩ (fun v h1 sz1 hq => ?_)
    obtain ⟨rfl, rfl, rfl⟩ := hq
    rw [show rat (N 17) (lC N) x = lC N x.toNat by unfold rat; rw [if_pos (by omega)]]
    refine V_goto (tgt := 37) dX7_eventCounter_31 (by decide) ?_
    exact V_lret dX7_eventCounter_37 rfl ⟨Nat.zero_le _, Nat.zero_le _⟩ ⟨_, rfl, by omega, rfl, rfl⟩
set_option maxHeartbeats 4000000 in
set_option maxRecDepth 100000 in
theorem m7_clearText {z : ZG} {d sz s : Nat} {h : AH} {tn mn pt hn : Int} {TX MK N : Nat → Int} (hE : EN h s tn TX mn MK pt hn N) (hR : ER tn TX mn MK pt hn N) : M z YX7_clearText (d + 1) 0 0 [.ref 0] h sz (fun w h' sz' => w = some (.int (I tn)) ∧ sz' = sz ∧ fr h h' 0 114 ∧ EN h' s 0 TX mn MK pt hn N) := by
  refine M.of (by decide +kernel) (Nat.le_of_ble_eq_true rfl) ?_
  obtain ⟨rt, rx, rm, rmk, rp, rh, rn⟩ := hR
  refine V_aload_n dX7_clearText_0 rfl ?_
  refine V_get dX7_clearText_1 fX7_14 hE.1 rfl ?_
  refine V_callV (Y' := YX4_size) dX7_clearText_4 lX7_82 gX4_size (m4_size (by decide) rt hE.t) hE.t.c rfl rfl rfl (Nat.le_of_ble_eq_true rfl) ⟨Nat.zero_le _, Nat.zero_le _⟩ (fun v h1 sz1 hq => ?_)
  obtain ⟨rfl, rfl, rfl⟩ := hq
  refine V_istore_n dX7_clearText_7 (Nat.le_of_ble_eq_true rfl) ?_
  refine V_aload_n dX7_clearText_8 rfl ?_
  refine V_get dX7_clearText_9 fX7_14 hE.1 rfl ?_
  refine V_callV (Y' := YX4_clear) dX7_clearText_12 lX7_71 gX4_clear (m4_clear (by decide) rt hE.t) hE.t.c rfl rfl rfl (Nat.le_of_ble_eq_true rfl) ⟨Nat.zero_le _, Nat.zero_le _⟩ (fun v h1 sz1 hq => ?_)
  obtain ⟨rfl, rfl, hf, hr⟩ := hq
  refine V_iload_n dX7_clearText_15 rfl ?_
  exact V_iret dX7_clearText_16 rfl rfl ⟨Nat.zero_le _, Nat.zero_le _⟩ ⟨rfl, rfl, hf.up (by omega), hE.setT hf hr⟩
set_option maxHeartbeats 4000000 in
set_option maxRecDepth 100000 in
theorem m7_append {z : ZG} {d sz s : Nat} {h : AH} {tn mn pt hn : Int} {TX MK N : Nat → Int} (hE : EN h s tn TX mn MK pt hn N) (hR : ER tn TX mn MK pt hn N) {c : Int} (hvc : -2147483648 ≤ c ∧ c < 2147483648) : M z YX7_append (d + 1) 0 0 [.ref 0, .int (I c)] h sz (fun w h' sz' => ∃ (res tn2 : Int) (TX2 : Nat → Int), w = some (.int (I res)) ∧ sz' = sz ∧ fr h h' 0 114 ∧ EN h' s tn2 TX2 mn MK pt hn N ∧ ((¬ (32 ≤ c ∧ c ≤ 126) ∧ res = -1 ∧ tn2 = tn ∧ TX2 = TX) ∨ ((32 ≤ c ∧ c ≤ 126) ∧ tn = 200 ∧ res = -3 ∧ tn2 = tn ∧ TX2 = TX) ∨ ((32 ≤ c ∧ c ≤ 126) ∧ tn ≠ 200 ∧ res = tn + 1 ∧ tn2 = tn + 1 ∧ TX2 = va_up TX tn.toNat c))) := by
  refine M.of (by decide +kernel) (Nat.le_of_ble_eq_true rfl) ?_
  obtain ⟨rt, rx, rm, rmk, rp, rh, rn⟩ := hR
  refine V_iload_n dX7_append_0 rfl ?_
  refine J_bipush dX7_append_1 (by decide) ?_
  refine J_bipush dX7_append_3 (by decide) ?_
  refine V_callS (Y' := YX7_within) dX7_append_5 lX7_74 gX7_within (m7_within (by omega) (by omega) (by omega)) rfl rfl (Nat.le_of_ble_eq_true rfl) ⟨Nat.zero_le _, Nat.zero_le _⟩ (fun v h1 sz1 hq => ?_)
  obtain ⟨t5, rfl, ht5, rfl, rfl⟩ := hq
  refine J_if_ne (tgt := 13) dX7_append_8 (by decide) (by omega) (fun c8 => ?_) (fun c8 => ?_)
  · refine V_aload_n dX7_append_13 rfl ?_
    refine V_get dX7_append_14 fX7_14 hE.1 rfl ?_
    refine V_callV (Y' := YX4_isFull) dX7_append_17 lX7_78 gX4_isFull (m4_isFull (by decide) rt hE.t) hE.t.c rfl rfl rfl (Nat.le_of_ble_eq_true rfl) ⟨Nat.zero_le _, Nat.zero_le _⟩ (fun v h1 sz1 hq => ?_)
    obtain ⟨t17, rfl, ht17, rfl, rfl⟩ := hq
    have ht17 : (t17 = 1 ∧ 200 ≤ tn) ∨ (t17 = 0 ∧ ¬ 200 ≤ tn) := ht17
    refine J_if_eq (tgt := 26) dX7_append_20 (by decide) (by omega) (fun c20 => ?_) (fun c20 => ?_)
    · refine V_aload_n dX7_append_26 rfl ?_
      refine V_get dX7_append_27 fX7_14 hE.1 rfl ?_
      refine V_iload_n dX7_append_30 rfl ?_
      refine J_i2l dX7_append_31 (by omega) ?_
      refine V_callV (Y' := YX4_add) dX7_append_32 lX7_61 gX4_add (m4_add (by decide) rt hE.t) hE.t.c rfl rfl rfl (Nat.le_of_ble_eq_true rfl) ⟨Nat.zero_le _, Nat.zero_le _⟩ (fun v h1 sz1 hq => ?_)
      obtain ⟨rfl, rfl, hf, hq⟩ := hq
      have hr : RW h1 1 200 (tn + 1) (va_up TX tn.toNat c) := hq.elim (fun q => q.2) (fun q => absurd (by show tn < 200; omega) q.1)
      have hE := hE.setT hf hr
      have hF := hf.up (by omega)
      refine V_aload_n dX7_append_35 rfl ?_
      refine V_get dX7_append_36 fX7_14 hE.1 rfl ?_
      refine V_callV (Y' := YX4_size) dX7_append_39 lX7_82 gX4_size (m4_size (by decide) (by omega) hE.t) hE.t.c rfl rfl rfl (Nat.le_of_ble_eq_true rfl) ⟨Nat.zero_le _, Nat.zero_le _⟩ (fun v h1 sz1 hq => ?_)
      obtain ⟨rfl, rfl, rfl⟩ := hq
      exact V_iret dX7_append_42 rfl rfl ⟨Nat.zero_le _, Nat.zero_le _⟩ ⟨_, _, _, rfl, rfl, hF, hE, Or.inr (Or.inr ⟨by omega, by omega, rfl, rfl, rfl⟩)⟩
    · refine J_bipush dX7_append_23 (by decide) ?_
      exact V_iret dX7_append_25 rfl rfl ⟨Nat.zero_le _, Nat.zero_le _⟩ ⟨-3, tn, TX, rfl, rfl, fr.rf, hE, Or.inr (Or.inl ⟨by omega, by omega, rfl, rfl, rfl⟩)⟩
  · refine J_iconst dX7_append_11 ?_
    exact V_iret dX7_append_12 rfl rfl ⟨Nat.zero_le _, Nat.zero_le _⟩ ⟨-1, tn, TX, rfl, rfl, fr.rf, hE, Or.inl ⟨by omega, rfl, rfl, rfl⟩⟩
