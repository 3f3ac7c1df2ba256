/-! BOTH SIDES, a call each: what the law's loop needs of them -/
/-- the text, the marks and the scale's pitch, as both sides have them -/
def GR (l : Int) (T : Nat → Int) (mk : Int) (MA : Nat → Int) (sc : Int) : Prop := (0 ≤ l ∧ l ≤ 200) ∧ (∀ j : Nat, j < 200 → 0 ≤ T j ∧ T j ≤ 126) ∧ (0 ≤ mk ∧ mk ≤ 6) ∧ (∀ j : Nat, j < 6 → 0 ≤ MA j ∧ MA j ≤ 9999) ∧ (8 ≤ sc ∧ sc ≤ 80)
/-- the reference in order -/
def RP (h g : AH) (l : Int) (T : Nat → Int) (mk : Int) (MA : Nat → Int) (sc : Int) : Prop := ∃ (n s : Nat) (sp nu rs rm km : Int) (RA RD NW SD KP : Nat → Int), MS g 114 n s l sp nu rs rm sc mk km T RA RD MA NW SD KP h ∧ (∀ j : Nat, j < 6 → 0 ≤ RA j ∧ RA j ≤ 9999) ∧ rok NW ∧ (0 ≤ km ∧ km ≤ 6) ∧ ∀ i : Nat, (i : Int) < km → rok (fun j => KP (42 * i + j))
theorem rok_to {N N2 : Nat → Int} (h : rok N) (e : ∀ j : Nat, j < 42 → N2 j = N j) : rok N2 := by
  obtain ⟨h0, h2, h5, h6, h7, h8, h17, hd, he⟩ := h
  refine ⟨by rw [e 0 (by omega)]; exact h0, by rw [e 2 (by omega)]; exact h2, by rw [e 5 (by omega)]; exact h5, by rw [e 6 (by omega)]; exact h6, by rw [e 7 (by omega)]; exact h7, by rw [e 8 (by omega)]; exact h8, by rw [e 17 (by omega)]; exact h17, fun k hk => ?_, fun k hk => ?_⟩
  · rw [e _ (by omega), e _ (by omega)]; exact hd k hk
  · rw [e _ (by omega)]; exact he k hk
theorem kq_ok {km km2 : Int} {KP NW KP2 : Nat → Int} (q : kq km KP NW km2 KP2) (hk : 0 ≤ km ∧ km ≤ 6) (hn : rok NW) (hr : ∀ i : Nat, (i : Int) < km → rok (fun j => KP (42 * i + j))) : (0 ≤ km2 ∧ km2 ≤ 6) ∧ ∀ i : Nat, (i : Int) < km2 → rok (fun j => KP2 (42 * i + j)) := by
  rcases q with ⟨rfl, rfl, rfl⟩ | ⟨h1, rfl, rfl⟩
  · refine ⟨by omega, fun i hi => ?_⟩
    by_cases e : i = 5
    · subst e
      refine rok_to hn (fun j hj => ?_)
      unfold kP
      rw [if_pos (by omega), show 42 * 5 + j - 42 * 5 = j by omega]
    · refine rok_to (hr (i + 1) (by omega)) (fun j hj => ?_)
      unfold kP kS
      rw [if_neg (by omega), if_pos (by omega)]
      congr 1
      omega
  · refine ⟨by omega, fun i hi => ?_⟩
    by_cases e : i = km.toNat
    · subst e
      refine rok_to hn (fun j hj => ?_)
      unfold kP
      rw [if_pos (by omega)]
      congr 1
      omega
    · refine rok_to (hr i (by omega)) (fun j hj => ?_)
      unfold kP
      rw [if_neg (by omega)]
theorem MS.re {g h h2 : AH} {r n s : Nat} {l sp nu rs rm sc mk km : Int} {T RA RD MA NW SD KP : Nat → Int} (hm : MS g r n s l sp nu rs rm sc mk km T RA RD MA NW SD KP h) (e : ∀ x : Nat, r ≤ x → h2 x = h x) : MS h2 r n s l sp nu rs rm sc mk km T RA RD MA NW SD KP h2 := by
  obtain ⟨h0, ⟨p0, p1, p2, p3, p4, p5, p6⟩, h8, h9⟩ := hm
  exact ⟨(e r (by omega)).trans h0, ⟨p0.kept (e _ (by omega)), p1.kept (e _ (by omega)), p2.kept (e _ (by omega)), p3.kept (e _ (by omega)), p4.kept (e _ (by omega)), p5.kept (e _ (by omega)), p6.kept (e _ (by omega))⟩, h8, fun _ _ => rfl⟩
theorem RP.re {g h h2 : AH} {l mk sc : Int} {T MA : Nat → Int} (x : RP h g l T mk MA sc) (f : fr h h2 0 114) : RP h2 h2 l T mk MA sc := by
  obtain ⟨n, s, sp, nu, rs, rm, km, RA, RD, NW, SD, KP, hm, q⟩ := x
  exact ⟨n, s, sp, nu, rs, rm, km, RA, RD, NW, SD, KP, hm.re (fun x hx => f x (by omega)), q⟩
theorem RP.lo {g h : AH} {l mk sc : Int} {T MA : Nat → Int} (x : RP h g l T mk MA sc) : ∀ q : Nat, q < 114 → h q = g q := by
  obtain ⟨n, s, sp, nu, rs, rm, km, RA, RD, NW, SD, KP, hm, q⟩ := x
  exact hm.2.2.2
theorem EP.kept {h h2 : AH} {l mk sc : Int} {T MA : Nat → Int} (x : EP h l T mk MA sc) (e : ∀ q : Nat, q < 114 → h2 q = h q) : EP h2 l T mk MA sc := by
  obtain ⟨s, hn, N, hE, q⟩ := x
  exact ⟨s, hn, N, hE.kept e, q⟩
def UC (c : Nat) (h : AH) (l : Int) (T : Nat → Int) (mk : Int) (MA : Nat → Int) (sc : Int) (sz : Nat) : ZQ := fun w h' sz' => (∃ v : Value, w = some v ∧ v.category = c) ∧ sz' = sz ∧ fr h h' 0 114 ∧ EP h' l T mk MA sc
def UR (c : Nat) (h : AH) (l : Int) (T : Nat → Int) (mk : Int) (MA : Nat → Int) (sc : Int) (sz : Nat) : ZQ := fun w h' sz' => (∃ v : Value, w = some v ∧ v.category = c) ∧ sz' = sz ∧ RP h' h l T mk MA sc
theorem k7_moveTo {z : ZG} {d sz : Nat} {h : AH} {l mk sc : Int} {T MA : Nat → Int} (hG : GR l T mk MA sc) (hP : EP h l T mk MA sc) {t : Int} (rt : -2147483648 ≤ t ∧ t < 2147483648) {v : Int} (rv : -2147483648 ≤ v ∧ v < 2147483648) : M z YX7_moveTo (d + 6) 0 0 [.ref 0, .int (I t), .int (I v)] h sz (UC 1 h l T mk MA sc sz) := by
  obtain ⟨m, rfl⟩ : ∃ m : Nat, mk = m := ⟨mk.toNat, by have := hG.2.2.1; omega⟩
  obtain ⟨s, hn, N, hE, hh, hr⟩ := hP
  obtain ⟨g1, g2, g3, g4, g5⟩ := hG
  refine M.mono ?_ (m7_moveTo hE ⟨g1, g2, g3, g4, g5, hh, hr⟩ rt rv)
  rintro w h' sz' ⟨rfl, hf, hp, ⟨_, rfl⟩ | ⟨_, rfl⟩⟩ <;> exact ⟨⟨_, rfl, rfl⟩, rfl, hf, hp⟩
theorem k8_moveTo {z : ZG} {d sz : Nat} {h : AH} {l mk sc : Int} {T MA : Nat → Int} (hG : GR l T mk MA sc) (hP : RP h h l T mk MA sc) {t : Int} (rt : -2147483648 ≤ t ∧ t < 2147483648) {v : Int} (rv : -2147483648 ≤ v ∧ v < 2147483648) : M z YX8_moveTo (d + 4) 0 0 [.ref 114, .int (I t), .int (I v)] h sz (UR 1 h l T mk MA sc sz) := by
  obtain ⟨m, rfl⟩ : ∃ m : Nat, mk = m := ⟨mk.toNat, by have := hG.2.2.1; omega⟩
  obtain ⟨n, s, sp, nu, rs, rm, km, RA, RD, NW, SD, KP, hm, hra, hr, hk, hkr⟩ := hP
  obtain ⟨g1, g2, g3, g4, g5⟩ := hG
  refine M.mono ?_ (m8_moveTo rt rv hm g5 (by omega) g4 hr hk)
  rintro w h' sz' ⟨rfl, ⟨_, rfl, hm⟩ | ⟨hc, rfl, km2, KP2, hq, hm2⟩⟩
  · exact ⟨⟨_, rfl, rfl⟩, rfl, _, _, _, _, _, _, _, _, _, _, _, _, hm, hra, hr, hk, hkr⟩
  · exact ⟨⟨_, rfl, rfl⟩, rfl, _, _, _, _, _, _, _, _, _, _, _, _, hm2, hra, rok_mvF (by omega) hc.1 hc.2.1 _ _ hr, (kq_ok hq hk hr hkr).1, (kq_ok hq hk hr hkr).2⟩
theorem k7_setMode {z : ZG} {d sz : Nat} {h : AH} {l mk sc : Int} {T MA : Nat → Int} (hG : GR l T mk MA sc) (hP : EP h l T mk MA sc) {m : Int} (rm : -2147483648 ≤ m ∧ m < 2147483648) : M z YX7_setMode (d + 6) 0 0 [.ref 0, .int (I m)] h sz (UC 1 h l T mk MA sc sz) := by
  obtain ⟨s, hn, N, hE, hh, hr⟩ := hP
  obtain ⟨g1, g2, g3, g4, g5⟩ := hG
  refine M.mono ?_ (m7_setMode hE ⟨g1, g2, g3, g4, g5, hh, hr⟩ rm)
  rintro w h' sz' ⟨rfl, hf, hp, res, rfl, _⟩
  exact ⟨⟨_, rfl, rfl⟩, rfl, hf, hp⟩
theorem k8_setMode {z : ZG} {d sz : Nat} {h : AH} {l mk sc : Int} {T MA : Nat → Int} (hG : GR l T mk MA sc) (hP : RP h h l T mk MA sc) {m : Int} (rm0 : -2147483648 ≤ m ∧ m < 2147483648) : M z YX8_setMode (d + 1) 0 0 [.ref 114, .int (I m)] h sz (UR 1 h l T mk MA sc sz) := by
  obtain ⟨n, s, sp, nu, rs, rm, km, RA, RD, NW, SD, KP, hm, hra, hr, hk, hkr⟩ := hP
  obtain ⟨g1, g2, g3, g4, g5⟩ := hG
  refine M.mono ?_ (m8_setMode rm0 hm g5 hr hk)
  rintro w h' sz' ⟨rfl, ⟨_, rfl, hm⟩ | ⟨hc, rfl, km2, KP2, hq, hm2⟩⟩
  · exact ⟨⟨_, rfl, rfl⟩, rfl, _, _, _, _, _, _, _, _, _, _, _, _, hm, hra, hr, hk, hkr⟩
  · exact ⟨⟨_, rfl, rfl⟩, rfl, _, _, _, _, _, _, _, _, _, _, _, _, hm2, hra, rok_put (rok_up (rok_put hr (Or.inl ⟨rfl, hc⟩)) (Or.inl rfl)) (Or.inr (Or.inr (Or.inr ⟨rfl, by omega⟩))), (kq_ok hq hk hr hkr).1, (kq_ok hq hk hr hkr).2⟩
theorem k7_setIndexGrating {z : ZG} {d sz : Nat} {h : AH} {l mk sc : Int} {T MA : Nat → Int} (hG : GR l T mk MA sc) (hP : EP h l T mk MA sc) {p : Int} (rp : -2147483648 ≤ p ∧ p < 2147483648) {q : Int} (rq : -2147483648 ≤ q ∧ q < 2147483648) : M z YX7_setIndexGrating (d + 6) 0 0 [.ref 0, .int (I p), .int (I q)] h sz (UC 1 h l T mk MA sc sz) := by
  obtain ⟨s, hn, N, hE, hh, hr⟩ := hP
  obtain ⟨g1, g2, g3, g4, g5⟩ := hG
  refine M.mono ?_ (m7_setIndexGrating hE ⟨g1, g2, g3, g4, g5, hh, hr⟩ rp rq)
  rintro w h' sz' ⟨rfl, hf, hp, res, rfl, _⟩
  exact ⟨⟨_, rfl, rfl⟩, rfl, hf, hp⟩
theorem k8_setIndexGrating {z : ZG} {d sz : Nat} {h : AH} {l mk sc : Int} {T MA : Nat → Int} (hG : GR l T mk MA sc) (hP : RP h h l T mk MA sc) {p : Int} (rp : -2147483648 ≤ p ∧ p < 2147483648) {q : Int} (rq : -2147483648 ≤ q ∧ q < 2147483648) : M z YX8_setIndexGrating (d + 1) 0 0 [.ref 114, .int (I p), .int (I q)] h sz (UR 1 h l T mk MA sc sz) := by
  obtain ⟨n, s, sp, nu, rs, rm, km, RA, RD, NW, SD, KP, hm, hra, hr, hk, hkr⟩ := hP
  obtain ⟨g1, g2, g3, g4, g5⟩ := hG
  refine M.mono ?_ (m8_setIndexGrating rp rq hm hk)
  rintro w h' sz' ⟨rfl, ⟨_, rfl, hm⟩ | ⟨hc, rfl, km2, KP2, hq, hm2⟩⟩
  · exact ⟨⟨_, rfl, rfl⟩, rfl, _, _, _, _, _, _, _, _, _, _, _, _, hm, hra, hr, hk, hkr⟩
  · exact ⟨⟨_, rfl, rfl⟩, rfl, _, _, _, _, _, _, _, _, _, _, _, _, hm2, hra, rok_put (rok_put hr (Or.inr (Or.inl ⟨rfl, hc.1⟩))) (Or.inr (Or.inr (Or.inl ⟨rfl, hc.2⟩))), (kq_ok hq hk hr hkr).1, (kq_ok hq hk hr hkr).2⟩
theorem k7_addDirt {z : ZG} {d sz : Nat} {h : AH} {l mk sc : Int} {T MA : Nat → Int} (hG : GR l T mk MA sc) (hP : EP h l T mk MA sc) {x : Int} (rx : -2147483648 ≤ x ∧ x < 2147483648) {y : Int} (ry : -2147483648 ≤ y ∧ y < 2147483648) : M z YX7_addDirt (d + 6) 0 0 [.ref 0, .int (I x), .int (I y)] h sz (UC 1 h l T mk MA sc sz) := by
  obtain ⟨s, hn, N, hE, hh, hr⟩ := hP
  obtain ⟨g1, g2, g3, g4, g5⟩ := hG
  refine M.mono ?_ (m7_addDirt hE ⟨g1, g2, g3, g4, g5, hh, hr⟩ rx ry)
  rintro w h' sz' ⟨rfl, hf, hp, res, rfl, _⟩
  exact ⟨⟨_, rfl, rfl⟩, rfl, hf, hp⟩
theorem k8_addDirt {z : ZG} {d sz : Nat} {h : AH} {l mk sc : Int} {T MA : Nat → Int} (hG : GR l T mk MA sc) (hP : RP h h l T mk MA sc) {x : Int} (rx : -2147483648 ≤ x ∧ x < 2147483648) {y : Int} (ry : -2147483648 ≤ y ∧ y < 2147483648) : M z YX8_addDirt (d + 1) 0 0 [.ref 114, .int (I x), .int (I y)] h sz (UR 1 h l T mk MA sc sz) := by
  obtain ⟨n, s, sp, nu, rs, rm, km, RA, RD, NW, SD, KP, hm, hra, hr, hk, hkr⟩ := hP
  obtain ⟨g1, g2, g3, g4, g5⟩ := hG
  refine M.mono ?_ (m8_addDirt rx ry hm hk (rok8 hr))
  rintro w h' sz' ⟨rfl, ⟨_, rfl, hm⟩ | ⟨_, _, rfl, hm⟩ | ⟨hc, e, _, he, rfl, km2, KP2, hq, hm2⟩⟩
  · exact ⟨⟨_, rfl, rfl⟩, rfl, _, _, _, _, _, _, _, _, _, _, _, _, hm, hra, hr, hk, hkr⟩
  · exact ⟨⟨_, rfl, rfl⟩, rfl, _, _, _, _, _, _, _, _, _, _, _, _, hm, hra, hr, hk, hkr⟩
  · exact ⟨⟨_, rfl, rfl⟩, rfl, _, _, _, _, _, _, _, _, _, _, _, _, hm2, hra, rok_adR hr he hc.1 hc.2, (kq_ok hq hk hr hkr).1, (kq_ok hq hk hr hkr).2⟩
theorem k7_removeDirt {z : ZG} {d sz : Nat} {h : AH} {l mk sc : Int} {T MA : Nat → Int} (hG : GR l T mk MA sc) (hP : EP h l T mk MA sc) {x : Int} (rx : -2147483648 ≤ x ∧ x < 2147483648) : M z YX7_removeDirt (d + 6) 0 0 [.ref 0, .int (I x)] h sz (UC 1 h l T mk MA sc sz) := by
  obtain ⟨s, hn, N, hE, hh, hr⟩ := hP
  obtain ⟨g1, g2, g3, g4, g5⟩ := hG
  refine M.mono ?_ (m7_removeDirt hE ⟨g1, g2, g3, g4, g5, hh, hr⟩ rx)
  rintro w h' sz' ⟨rfl, hf, hp, res, rfl, _⟩
  exact ⟨⟨_, rfl, rfl⟩, rfl, hf, hp⟩
theorem k8_removeDirt {z : ZG} {d sz : Nat} {h : AH} {l mk sc : Int} {T MA : Nat → Int} (hG : GR l T mk MA sc) (hP : RP h h l T mk MA sc) {x : Int} (rx : -2147483648 ≤ x ∧ x < 2147483648) : M z YX8_removeDirt (d + 1) 0 0 [.ref 114, .int (I x)] h sz (UR 1 h l T mk MA sc sz) := by
  obtain ⟨n, s, sp, nu, rs, rm, km, RA, RD, NW, SD, KP, hm, hra, hr, hk, hkr⟩ := hP
  obtain ⟨g1, g2, g3, g4, g5⟩ := hG
  refine M.mono ?_ (m8_removeDirt rx hm hk (rok8 hr))
  rintro w h' sz' ⟨rfl, ⟨_, rfl, hm⟩ | ⟨e, he, hc, rfl, km2, KP2, hq, hm2⟩⟩
  · exact ⟨⟨_, rfl, rfl⟩, rfl, _, _, _, _, _, _, _, _, _, _, _, _, hm, hra, hr, hk, hkr⟩
  · exact ⟨⟨_, rfl, rfl⟩, rfl, _, _, _, _, _, _, _, _, _, _, _, _, hm2, hra, rok_rmR hr (by omega), (kq_ok hq hk hr hkr).1, (kq_ok hq hk hr hkr).2⟩
theorem k7_zeroSlip {z : ZG} {d sz : Nat} {h : AH} {l mk sc : Int} {T MA : Nat → Int} (hG : GR l T mk MA sc) (hP : EP h l T mk MA sc)  : M z YX7_zeroSlip (d + 6) 0 0 [.ref 0] h sz (UC 1 h l T mk MA sc sz) := by
  obtain ⟨s, hn, N, hE, hh, hr⟩ := hP
  obtain ⟨g1, g2, g3, g4, g5⟩ := hG
  refine M.mono ?_ (m7_zeroSlip hE ⟨g1, g2, g3, g4, g5, hh, hr⟩)
  rintro w h' sz' ⟨rfl, hf, hp, res, rfl, _⟩
  exact ⟨⟨_, rfl, rfl⟩, rfl, hf, hp⟩
theorem k8_zeroSlip {z : ZG} {d sz : Nat} {h : AH} {l mk sc : Int} {T MA : Nat → Int} (hG : GR l T mk MA sc) (hP : RP h h l T mk MA sc)  : M z YX8_zeroSlip (d + 1) 0 0 [.ref 114] h sz (UR 1 h l T mk MA sc sz) := by
  obtain ⟨n, s, sp, nu, rs, rm, km, RA, RD, NW, SD, KP, hm, hra, hr, hk, hkr⟩ := hP
  obtain ⟨g1, g2, g3, g4, g5⟩ := hG
  refine M.mono ?_ (m8_zeroSlip hm g5 hr hk)
  rintro w h' sz' ⟨rfl, res, rfl, _, km2, KP2, hq, hm2⟩
  exact ⟨⟨_, rfl, rfl⟩, rfl, _, _, _, _, _, _, _, _, _, _, _, _, hm2, hra, rok_up hr (Or.inl rfl), (kq_ok hq hk hr hkr).1, (kq_ok hq hk hr hkr).2⟩
theorem k7_recover {z : ZG} {d sz : Nat} {h : AH} {l mk sc : Int} {T MA : Nat → Int} (hG : GR l T mk MA sc) (hP : EP h l T mk MA sc) {x : Int} (rx : -2147483648 ≤ x ∧ x < 2147483648) : M z YX7_recover (d + 6) 0 0 [.ref 0, .int (I x)] h sz (UC 1 h l T mk MA sc sz) := by
  obtain ⟨s, hn, N, hE, hh, hr⟩ := hP
  obtain ⟨g1, g2, g3, g4, g5⟩ := hG
  refine M.mono ?_ (m7_recover hE ⟨g1, g2, g3, g4, g5, hh, hr⟩ rx)
  rintro w h' sz' ⟨rfl, hf, hp, res, rfl, _, _⟩
  exact ⟨⟨_, rfl, rfl⟩, rfl, hf, hp⟩
theorem k8_recover {z : ZG} {d sz : Nat} {h : AH} {l mk sc : Int} {T MA : Nat → Int} (hG : GR l T mk MA sc) (hP : RP h h l T mk MA sc) {x : Int} (rx : -2147483648 ≤ x ∧ x < 2147483648) : M z YX8_recover (d + 2) 0 0 [.ref 114, .int (I x)] h sz (UR 1 h l T mk MA sc sz) := by
  obtain ⟨m, rfl⟩ : ∃ m : Nat, mk = m := ⟨mk.toNat, by have := hG.2.2.1; omega⟩
  obtain ⟨n, s, sp, nu, rs, rm, km, RA, RD, NW, SD, KP, hm, hra, hr, hk, hkr⟩ := hP
  obtain ⟨g1, g2, g3, g4, g5⟩ := hG
  refine M.mono ?_ (m8_recover rx hm g5 (by omega) g4 hr hk)
  rintro w h' sz' ⟨rfl, res, rfl, ⟨hm, _⟩ | ⟨_, hm | ⟨c, km2, KP2, hq, hm2⟩⟩⟩
  · exact ⟨⟨_, rfl, rfl⟩, rfl, _, _, _, _, _, _, _, _, _, _, _, _, hm, hra, hr, hk, hkr⟩
  · exact ⟨⟨_, rfl, rfl⟩, rfl, _, _, _, _, _, _, _, _, _, _, _, _, hm, hra, hr, hk, hkr⟩
  · exact ⟨⟨_, rfl, rfl⟩, rfl, _, _, _, _, _, _, _, _, _, _, _, _, hm2, hra, rok_up hr (Or.inl rfl), (kq_ok hq hk hr hkr).1, (kq_ok hq hk hr hkr).2⟩
theorem k7_undo {z : ZG} {d sz : Nat} {h : AH} {l mk sc : Int} {T MA : Nat → Int} (hG : GR l T mk MA sc) (hP : EP h l T mk MA sc)  : M z YX7_undo (d + 1) 0 0 [.ref 0] h sz (UC 1 h l T mk MA sc sz) := by
  obtain ⟨s, hn, N, hE, hh, hr⟩ := hP
  obtain ⟨g1, g2, g3, g4, g5⟩ := hG
  refine M.mono ?_ (m7_undo hE ⟨g1, g2, g3, g4, g5, hh, hr⟩)
  rintro w h' sz' ⟨rfl, hf, hp, res, rfl, _⟩
  exact ⟨⟨_, rfl, rfl⟩, rfl, hf, hp⟩
theorem k8_undo {z : ZG} {d sz : Nat} {h : AH} {l mk sc : Int} {T MA : Nat → Int} (hG : GR l T mk MA sc) (hP : RP h h l T mk MA sc)  : M z YX8_undo d 0 0 [.ref 114] h sz (UR 1 h l T mk MA sc sz) := by
  obtain ⟨n, s, sp, nu, rs, rm, km, RA, RD, NW, SD, KP, hm, hra, hr, hk, hkr⟩ := hP
  obtain ⟨g1, g2, g3, g4, g5⟩ := hG
  refine M.mono ?_ (m8_undo hm hk)
  rintro w h' sz' ⟨rfl, ⟨_, rfl, hm⟩ | ⟨k, e, rfl, hm2⟩⟩
  · exact ⟨⟨_, rfl, rfl⟩, rfl, _, _, _, _, _, _, _, _, _, _, _, _, hm, hra, hr, hk, hkr⟩
  · exact ⟨⟨_, rfl, rfl⟩, rfl, _, _, _, _, _, _, _, _, _, _, _, _, hm2, hra, hkr k (by omega), by omega, fun i hi => hkr i (by omega)⟩
theorem k7_position {z : ZG} {d sz : Nat} {h : AH} {l mk sc : Int} {T MA : Nat → Int} (hG : GR l T mk MA sc) (hP : EP h l T mk MA sc)  : M z YX7_position d 0 0 [.ref 0] h sz (UC 1 h l T mk MA sc sz) := by
  obtain ⟨s, hn, N, hE, hh, hr⟩ := hP
  obtain ⟨g1, g2, g3, g4, g5⟩ := hG
  refine M.mono ?_ (m7_position hE ⟨g1, g2, g3, g4, g5, hh, hr⟩)
  rintro w h' sz' ⟨rfl, rfl, rfl⟩
  exact ⟨⟨_, rfl, rfl⟩, rfl, fr.rf, ⟨_, _, _, hE, hh, hr⟩⟩
theorem k8_position {z : ZG} {d sz : Nat} {h : AH} {l mk sc : Int} {T MA : Nat → Int} (hG : GR l T mk MA sc) (hP : RP h h l T mk MA sc)  : M z YX8_position d 0 0 [.ref 114] h sz (UR 1 h l T mk MA sc sz) := by
  obtain ⟨n, s, sp, nu, rs, rm, km, RA, RD, NW, SD, KP, hm, hra, hr, hk, hkr⟩ := hP
  obtain ⟨g1, g2, g3, g4, g5⟩ := hG
  refine M.mono ?_ (m8_position hm)
  rintro w h' sz' ⟨rfl, rfl, rfl⟩
  exact ⟨⟨_, rfl, rfl⟩, rfl, _, _, _, _, _, _, _, _, _, _, _, _, hm, hra, hr, hk, hkr⟩
theorem k7_counter {z : ZG} {d sz : Nat} {h : AH} {l mk sc : Int} {T MA : Nat → Int} (hG : GR l T mk MA sc) (hP : EP h l T mk MA sc)  : M z YX7_counter d 0 0 [.ref 0] h sz (UC 2 h l T mk MA sc sz) := by
  obtain ⟨s, hn, N, hE, hh, hr⟩ := hP
  obtain ⟨g1, g2, g3, g4, g5⟩ := hG
  refine M.mono ?_ (m7_counter hE ⟨g1, g2, g3, g4, g5, hh, hr⟩)
  rintro w h' sz' ⟨rfl, rfl, rfl⟩
  exact ⟨⟨_, rfl, rfl⟩, rfl, fr.rf, ⟨_, _, _, hE, hh, hr⟩⟩
theorem k8_counter {z : ZG} {d sz : Nat} {h : AH} {l mk sc : Int} {T MA : Nat → Int} (hG : GR l T mk MA sc) (hP : RP h h l T mk MA sc)  : M z YX8_counter d 0 0 [.ref 114] h sz (UR 2 h l T mk MA sc sz) := by
  obtain ⟨n, s, sp, nu, rs, rm, km, RA, RD, NW, SD, KP, hm, hra, hr, hk, hkr⟩ := hP
  obtain ⟨g1, g2, g3, g4, g5⟩ := hG
  refine M.mono ?_ (m8_counter hm)
  rintro w h' sz' ⟨rfl, rfl, rfl⟩
  exact ⟨⟨_, rfl, rfl⟩, rfl, _, _, _, _, _, _, _, _, _, _, _, _, hm, hra, hr, hk, hkr⟩
theorem k7_slip {z : ZG} {d sz : Nat} {h : AH} {l mk sc : Int} {T MA : Nat → Int} (hG : GR l T mk MA sc) (hP : EP h l T mk MA sc)  : M z YX7_slip (d + 2) 0 0 [.ref 0] h sz (UC 2 h l T mk MA sc sz) := by
  obtain ⟨s, hn, N, hE, hh, hr⟩ := hP
  obtain ⟨g1, g2, g3, g4, g5⟩ := hG
  refine M.mono ?_ (m7_slip hE ⟨g1, g2, g3, g4, g5, hh, hr⟩)
  rintro w h' sz' ⟨rfl, rfl, rfl⟩
  exact ⟨⟨_, rfl, rfl⟩, rfl, fr.rf, ⟨_, _, _, hE, hh, hr⟩⟩
theorem k8_slip {z : ZG} {d sz : Nat} {h : AH} {l mk sc : Int} {T MA : Nat → Int} (hG : GR l T mk MA sc) (hP : RP h h l T mk MA sc)  : M z YX8_slip (d + 2) 0 0 [.ref 114] h sz (UR 2 h l T mk MA sc sz) := by
  obtain ⟨n, s, sp, nu, rs, rm, km, RA, RD, NW, SD, KP, hm, hra, hr, hk, hkr⟩ := hP
  obtain ⟨g1, g2, g3, g4, g5⟩ := hG
  refine M.mono ?_ (m8_slip hm g5 hr)
  rintro w h' sz' ⟨rfl, rfl, rfl⟩
  exact ⟨⟨_, rfl, rfl⟩, rfl, _, _, _, _, _, _, _, _, _, _, _, _, hm, hra, hr, hk, hkr⟩
theorem k7_misses {z : ZG} {d sz : Nat} {h : AH} {l mk sc : Int} {T MA : Nat → Int} (hG : GR l T mk MA sc) (hP : EP h l T mk MA sc)  : M z YX7_misses d 0 0 [.ref 0] h sz (UC 1 h l T mk MA sc sz) := by
  obtain ⟨s, hn, N, hE, hh, hr⟩ := hP
  obtain ⟨g1, g2, g3, g4, g5⟩ := hG
  refine M.mono ?_ (m7_misses hE ⟨g1, g2, g3, g4, g5, hh, hr⟩)
  rintro w h' sz' ⟨rfl, rfl, rfl⟩
  exact ⟨⟨_, rfl, rfl⟩, rfl, fr.rf, ⟨_, _, _, hE, hh, hr⟩⟩
theorem k8_misses {z : ZG} {d sz : Nat} {h : AH} {l mk sc : Int} {T MA : Nat → Int} (hG : GR l T mk MA sc) (hP : RP h h l T mk MA sc)  : M z YX8_misses d 0 0 [.ref 114] h sz (UR 1 h l T mk MA sc sz) := by
  obtain ⟨n, s, sp, nu, rs, rm, km, RA, RD, NW, SD, KP, hm, hra, hr, hk, hkr⟩ := hP
  obtain ⟨g1, g2, g3, g4, g5⟩ := hG
  refine M.mono ?_ (m8_misses hm)
  rintro w h' sz' ⟨rfl, rfl, rfl⟩
  exact ⟨⟨_, rfl, rfl⟩, rfl, _, _, _, _, _, _, _, _, _, _, _, _, hm, hra, hr, hk, hkr⟩
theorem k7_samples {z : ZG} {d sz : Nat} {h : AH} {l mk sc : Int} {T MA : Nat → Int} (hG : GR l T mk MA sc) (hP : EP h l T mk MA sc)  : M z YX7_samples d 0 0 [.ref 0] h sz (UC 1 h l T mk MA sc sz) := by
  obtain ⟨s, hn, N, hE, hh, hr⟩ := hP
  obtain ⟨g1, g2, g3, g4, g5⟩ := hG
  refine M.mono ?_ (m7_samples hE ⟨g1, g2, g3, g4, g5, hh, hr⟩)
  rintro w h' sz' ⟨rfl, rfl, rfl⟩
  exact ⟨⟨_, rfl, rfl⟩, rfl, fr.rf, ⟨_, _, _, hE, hh, hr⟩⟩
theorem k8_samples {z : ZG} {d sz : Nat} {h : AH} {l mk sc : Int} {T MA : Nat → Int} (hG : GR l T mk MA sc) (hP : RP h h l T mk MA sc)  : M z YX8_samples d 0 0 [.ref 114] h sz (UR 1 h l T mk MA sc sz) := by
  obtain ⟨n, s, sp, nu, rs, rm, km, RA, RD, NW, SD, KP, hm, hra, hr, hk, hkr⟩ := hP
  obtain ⟨g1, g2, g3, g4, g5⟩ := hG
  refine M.mono ?_ (m8_samples hm)
  rintro w h' sz' ⟨rfl, rfl, rfl⟩
  exact ⟨⟨_, rfl, rfl⟩, rfl, _, _, _, _, _, _, _, _, _, _, _, _, hm, hra, hr, hk, hkr⟩
theorem k7_missRateBits {z : ZG} {d sz : Nat} {h : AH} {l mk sc : Int} {T MA : Nat → Int} (hG : GR l T mk MA sc) (hP : EP h l T mk MA sc)  : M z YX7_missRateBits (d + 1) 0 0 [.ref 0] h sz (UC 1 h l T mk MA sc sz) := by
  obtain ⟨s, hn, N, hE, hh, hr⟩ := hP
  obtain ⟨g1, g2, g3, g4, g5⟩ := hG
  refine M.mono ?_ (m7_missRateBits hE ⟨g1, g2, g3, g4, g5, hh, hr⟩)
  rintro w h' sz' ⟨⟨v, rfl, _⟩, rfl, rfl⟩
  exact ⟨⟨_, rfl, rfl⟩, rfl, fr.rf, ⟨_, _, _, hE, hh, hr⟩⟩
theorem k8_missRateBits {z : ZG} {d sz : Nat} {h : AH} {l mk sc : Int} {T MA : Nat → Int} (hG : GR l T mk MA sc) (hP : RP h h l T mk MA sc)  : M z YX8_missRateBits (d + 2) 0 0 [.ref 114] h sz (UR 1 h l T mk MA sc sz) := by
  obtain ⟨n, s, sp, nu, rs, rm, km, RA, RD, NW, SD, KP, hm, hra, hr, hk, hkr⟩ := hP
  obtain ⟨g1, g2, g3, g4, g5⟩ := hG
  refine M.mono ?_ (m8_missRateBits hm)
  rintro w h' sz' ⟨⟨v, rfl, _⟩, rfl, rfl⟩
  exact ⟨⟨_, rfl, rfl⟩, rfl, _, _, _, _, _, _, _, _, _, _, _, _, hm, hra, hr, hk, hkr⟩
theorem k7_markPosition {z : ZG} {d sz : Nat} {h : AH} {l mk sc : Int} {T MA : Nat → Int} (hG : GR l T mk MA sc) (hP : EP h l T mk MA sc) {x : Int} (rx : -2147483648 ≤ x ∧ x < 2147483648) : M z YX7_markPosition (d + 3) 0 0 [.ref 0, .int (I x)] h sz (UC 1 h l T mk MA sc sz) := by
  obtain ⟨s, hn, N, hE, hh, hr⟩ := hP
  obtain ⟨g1, g2, g3, g4, g5⟩ := hG
  refine M.mono ?_ (m7_markPosition hE ⟨g1, g2, g3, g4, g5, hh, hr⟩ rx)
  rintro w h' sz' ⟨v, rfl, _, rfl, rfl⟩
  exact ⟨⟨_, rfl, rfl⟩, rfl, fr.rf, ⟨_, _, _, hE, hh, hr⟩⟩
theorem k8_markPosition {z : ZG} {d sz : Nat} {h : AH} {l mk sc : Int} {T MA : Nat → Int} (hG : GR l T mk MA sc) (hP : RP h h l T mk MA sc) {x : Int} (rx : -2147483648 ≤ x ∧ x < 2147483648) : M z YX8_markPosition (d + 1) 0 0 [.ref 114, .int (I x)] h sz (UR 1 h l T mk MA sc sz) := by
  obtain ⟨n, s, sp, nu, rs, rm, km, RA, RD, NW, SD, KP, hm, hra, hr, hk, hkr⟩ := hP
  obtain ⟨g1, g2, g3, g4, g5⟩ := hG
  refine M.mono ?_ (m8_markPosition rx hm g3)
  rintro w h' sz' ⟨v, rfl, _, rfl, rfl⟩
  exact ⟨⟨_, rfl, rfl⟩, rfl, _, _, _, _, _, _, _, _, _, _, _, _, hm, hra, hr, hk, hkr⟩
theorem k7_expectedCount {z : ZG} {d sz : Nat} {h : AH} {l mk sc : Int} {T MA : Nat → Int} (hG : GR l T mk MA sc) (hP : EP h l T mk MA sc) {x : Int} (rx : -2147483648 ≤ x ∧ x < 2147483648) : M z YX7_expectedCount (d + 2) 0 0 [.ref 0, .int (I x)] h sz (UC 1 h l T mk MA sc sz) := by
  obtain ⟨s, hn, N, hE, hh, hr⟩ := hP
  obtain ⟨g1, g2, g3, g4, g5⟩ := hG
  refine M.mono ?_ (m7_expectedCount hE ⟨g1, g2, g3, g4, g5, hh, hr⟩ rx)
  rintro w h' sz' ⟨v, rfl, _, rfl, rfl⟩
  exact ⟨⟨_, rfl, rfl⟩, rfl, fr.rf, ⟨_, _, _, hE, hh, hr⟩⟩
theorem k8_expectedCount {z : ZG} {d sz : Nat} {h : AH} {l mk sc : Int} {T MA : Nat → Int} (hG : GR l T mk MA sc) (hP : RP h h l T mk MA sc) {x : Int} (rx : -2147483648 ≤ x ∧ x < 2147483648) : M z YX8_expectedCount (d + 1) 0 0 [.ref 114, .int (I x)] h sz (UR 1 h l T mk MA sc sz) := by
  obtain ⟨n, s, sp, nu, rs, rm, km, RA, RD, NW, SD, KP, hm, hra, hr, hk, hkr⟩ := hP
  obtain ⟨g1, g2, g3, g4, g5⟩ := hG
  refine M.mono ?_ (m8_expectedCount rx hm g5 hr)
  rintro w h' sz' ⟨v, rfl, _, rfl, rfl⟩
  exact ⟨⟨_, rfl, rfl⟩, rfl, _, _, _, _, _, _, _, _, _, _, _, _, hm, hra, hr, hk, hkr⟩
theorem k7_eventKind {z : ZG} {d sz : Nat} {h : AH} {l mk sc : Int} {T MA : Nat → Int} (hG : GR l T mk MA sc) (hP : EP h l T mk MA sc) {x : Int} (rx : -2147483648 ≤ x ∧ x < 2147483648) : M z YX7_eventKind (d + 3) 0 0 [.ref 0, .int (I x)] h sz (UC 1 h l T mk MA sc sz) := by
  obtain ⟨s, hn, N, hE, hh, hr⟩ := hP
  obtain ⟨g1, g2, g3, g4, g5⟩ := hG
  refine M.mono ?_ (m7_eventKind hE ⟨g1, g2, g3, g4, g5, hh, hr⟩ rx)
  rintro w h' sz' ⟨v, rfl, _, rfl, rfl⟩
  exact ⟨⟨_, rfl, rfl⟩, rfl, fr.rf, ⟨_, _, _, hE, hh, hr⟩⟩
theorem k8_eventKind {z : ZG} {d sz : Nat} {h : AH} {l mk sc : Int} {T MA : Nat → Int} (hG : GR l T mk MA sc) (hP : RP h h l T mk MA sc) {x : Int} (rx : -2147483648 ≤ x ∧ x < 2147483648) : M z YX8_eventKind (d + 2) 0 0 [.ref 114, .int (I x)] h sz (UR 1 h l T mk MA sc sz) := by
  obtain ⟨n, s, sp, nu, rs, rm, km, RA, RD, NW, SD, KP, hm, hra, hr, hk, hkr⟩ := hP
  obtain ⟨g1, g2, g3, g4, g5⟩ := hG
  refine M.mono ?_ (m8_eventKind rx hm (rok17 hr))
  rintro w h' sz' ⟨v, rfl, _, rfl, rfl⟩
  exact ⟨⟨_, rfl, rfl⟩, rfl, _, _, _, _, _, _, _, _, _, _, _, _, hm, hra, hr, hk, hkr⟩
theorem k7_eventPosition {z : ZG} {d sz : Nat} {h : AH} {l mk sc : Int} {T MA : Nat → Int} (hG : GR l T mk MA sc) (hP : EP h l T mk MA sc) {x : Int} (rx : -2147483648 ≤ x ∧ x < 2147483648) : M z YX7_eventPosition (d + 3) 0 0 [.ref 0, .int (I x)] h sz (UC 1 h l T mk MA sc sz) := by
  obtain ⟨s, hn, N, hE, hh, hr⟩ := hP
  obtain ⟨g1, g2, g3, g4, g5⟩ := hG
  refine M.mono ?_ (m7_eventPosition hE ⟨g1, g2, g3, g4, g5, hh, hr⟩ rx)
  rintro w h' sz' ⟨v, rfl, _, rfl, rfl⟩
  exact ⟨⟨_, rfl, rfl⟩, rfl, fr.rf, ⟨_, _, _, hE, hh, hr⟩⟩
theorem k8_eventPosition {z : ZG} {d sz : Nat} {h : AH} {l mk sc : Int} {T MA : Nat → Int} (hG : GR l T mk MA sc) (hP : RP h h l T mk MA sc) {x : Int} (rx : -2147483648 ≤ x ∧ x < 2147483648) : M z YX8_eventPosition (d + 2) 0 0 [.ref 114, .int (I x)] h sz (UR 1 h l T mk MA sc sz) := by
  obtain ⟨n, s, sp, nu, rs, rm, km, RA, RD, NW, SD, KP, hm, hra, hr, hk, hkr⟩ := hP
  obtain ⟨g1, g2, g3, g4, g5⟩ := hG
  refine M.mono ?_ (m8_eventPosition rx hm (rok17 hr))
  rintro w h' sz' ⟨v, rfl, _, rfl, rfl⟩
  exact ⟨⟨_, rfl, rfl⟩, rfl, _, _, _, _, _, _, _, _, _, _, _, _, hm, hra, hr, hk, hkr⟩
theorem k7_eventCounter {z : ZG} {d sz : Nat} {h : AH} {l mk sc : Int} {T MA : Nat → Int} (hG : GR l T mk MA sc) (hP : EP h l T mk MA sc) {x : Int} (rx : -2147483648 ≤ x ∧ x < 2147483648) : M z YX7_eventCounter (d + 3) 0 0 [.ref 0, .int (I x)] h sz (UC 2 h l T mk MA sc sz) := by
  obtain ⟨s, hn, N, hE, hh, hr⟩ := hP
  obtain ⟨g1, g2, g3, g4, g5⟩ := hG
  refine M.mono ?_ (m7_eventCounter hE ⟨g1, g2, g3, g4, g5, hh, hr⟩ rx)
  rintro w h' sz' ⟨v, rfl, _, rfl, rfl⟩
  exact ⟨⟨_, rfl, rfl⟩, rfl, fr.rf, ⟨_, _, _, hE, hh, hr⟩⟩
theorem k8_eventCounter {z : ZG} {d sz : Nat} {h : AH} {l mk sc : Int} {T MA : Nat → Int} (hG : GR l T mk MA sc) (hP : RP h h l T mk MA sc) {x : Int} (rx : -2147483648 ≤ x ∧ x < 2147483648) : M z YX8_eventCounter (d + 2) 0 0 [.ref 114, .int (I x)] h sz (UR 2 h l T mk MA sc sz) := by
  obtain ⟨n, s, sp, nu, rs, rm, km, RA, RD, NW, SD, KP, hm, hra, hr, hk, hkr⟩ := hP
  obtain ⟨g1, g2, g3, g4, g5⟩ := hG
  refine M.mono ?_ (m8_eventCounter rx hm (rok17 hr))
  rintro w h' sz' ⟨v, rfl, _, rfl, rfl⟩
  exact ⟨⟨_, rfl, rfl⟩, rfl, _, _, _, _, _, _, _, _, _, _, _, _, hm, hra, hr, hk, hkr⟩
theorem k7_predictSlip {z : ZG} {d sz : Nat} {h : AH} {l mk sc : Int} {T MA : Nat → Int} (hG : GR l T mk MA sc) (hP : EP h l T mk MA sc) {t : Int} (rt : -2147483648 ≤ t ∧ t < 2147483648) {v : Int} (rv : -2147483648 ≤ v ∧ v < 2147483648) : M z YX7_predictSlip (d + 5) 0 0 [.ref 0, .int (I t), .int (I v)] h sz (UC 2 h l T mk MA sc sz) := by
  obtain ⟨m, rfl⟩ : ∃ m : Nat, mk = m := ⟨mk.toNat, by have := hG.2.2.1; omega⟩
  obtain ⟨s, hn, N, hE, hh, hr⟩ := hP
  obtain ⟨g1, g2, g3, g4, g5⟩ := hG
  refine M.mono ?_ (m7_predictSlip hE ⟨g1, g2, g3, g4, g5, hh, hr⟩ rt rv)
  rintro w h' sz' ⟨rfl, hf, hE2, ⟨_, rfl⟩ | ⟨_, rfl⟩⟩ <;> exact ⟨⟨_, rfl, rfl⟩, rfl, hf, _, _, _, hE2, hh, hr⟩
theorem k8_predictSlip {z : ZG} {d sz : Nat} {h : AH} {l mk sc : Int} {T MA : Nat → Int} (hG : GR l T mk MA sc) (hP : RP h h l T mk MA sc) {t : Int} (rt : -2147483648 ≤ t ∧ t < 2147483648) {v : Int} (rv : -2147483648 ≤ v ∧ v < 2147483648) : M z YX8_predictSlip (d + 4) 0 0 [.ref 114, .int (I t), .int (I v)] h sz (UR 2 h l T mk MA sc sz) := by
  obtain ⟨m, rfl⟩ : ∃ m : Nat, mk = m := ⟨mk.toNat, by have := hG.2.2.1; omega⟩
  obtain ⟨n, s, sp, nu, rs, rm, km, RA, RD, NW, SD, KP, hm, hra, hr, hk, hkr⟩ := hP
  obtain ⟨g1, g2, g3, g4, g5⟩ := hG
  refine M.mono ?_ (m8_predictSlip rt rv hm g5 (by omega) g4 hr)
  rintro w h' sz' ⟨rfl, ⟨_, rfl, hm⟩ | ⟨_, rfl, hm⟩⟩
  · exact ⟨⟨_, rfl, rfl⟩, rfl, _, _, _, _, _, _, _, _, _, _, _, _, hm, hra, hr, hk, hkr⟩
  · exact ⟨⟨_, rfl, rfl⟩, rfl, _, _, _, _, _, _, _, _, _, _, _, _, hm, hra, hr, hk, hkr⟩
theorem k7_fastestSafeSpeed {z : ZG} {d sz : Nat} {h : AH} {l mk sc : Int} {T MA : Nat → Int} (hG : GR l T mk MA sc) (hP : EP h l T mk MA sc) {t : Int} (rt : -2147483648 ≤ t ∧ t < 2147483648) : M z YX7_fastestSafeSpeed (d + 6) 0 0 [.ref 0, .int (I t)] h sz (UC 1 h l T mk MA sc sz) := by
  obtain ⟨m, rfl⟩ : ∃ m : Nat, mk = m := ⟨mk.toNat, by have := hG.2.2.1; omega⟩
  obtain ⟨s, hn, N, hE, hh, hr⟩ := hP
  obtain ⟨g1, g2, g3, g4, g5⟩ := hG
  refine M.mono ?_ (m7_fastestSafeSpeed hE ⟨g1, g2, g3, g4, g5, hh, hr⟩ rt)
  rintro w h' sz' ⟨rfl, hf, hE2, res, rfl, _⟩
  exact ⟨⟨_, rfl, rfl⟩, rfl, hf, _, _, _, hE2, hh, hr⟩
theorem k8_fastestSafeSpeed {z : ZG} {d sz : Nat} {h : AH} {l mk sc : Int} {T MA : Nat → Int} (hG : GR l T mk MA sc) (hP : RP h h l T mk MA sc) {t : Int} (rt : -2147483648 ≤ t ∧ t < 2147483648) : M z YX8_fastestSafeSpeed (d + 4) 0 0 [.ref 114, .int (I t)] h sz (UR 1 h l T mk MA sc sz) := by
  obtain ⟨m, rfl⟩ : ∃ m : Nat, mk = m := ⟨mk.toNat, by have := hG.2.2.1; omega⟩
  obtain ⟨n, s, sp, nu, rs, rm, km, RA, RD, NW, SD, KP, hm, hra, hr, hk, hkr⟩ := hP
  obtain ⟨g1, g2, g3, g4, g5⟩ := hG
  refine M.mono ?_ (m8_fastestSafeSpeed rt hm g5 (by omega) g4 hr)
  rintro w h' sz' ⟨rfl, ⟨_, rfl, hm⟩ | ⟨_, res, SD2, rfl, _, hm⟩⟩
  · exact ⟨⟨_, rfl, rfl⟩, rfl, _, _, _, _, _, _, _, _, _, _, _, _, hm, hra, hr, hk, hkr⟩
  · exact ⟨⟨_, rfl, rfl⟩, rfl, _, _, _, _, _, _, _, _, _, _, _, _, hm, hra, hr, hk, hkr⟩
theorem k7_brightness {z : ZG} {d sz : Nat} {h : AH} {l mk sc : Int} {T MA : Nat → Int} (hG : GR l T mk MA sc) (hP : EP h l T mk MA sc) {x : Int} (rx : -2147483648 ≤ x ∧ x < 2147483648) {y : Int} (ry : -2147483648 ≤ y ∧ y < 2147483648) : M z YX7_brightness (d + 3) 0 0 [.ref 0, .int (I x), .int (I y)] h sz (UC 1 h l T mk MA sc sz) := by
  obtain ⟨s, hn, N, hE, hh, hr⟩ := hP
  obtain ⟨g1, g2, g3, g4, g5⟩ := hG
  refine M.mono ?_ (m7_brightness hE ⟨g1, g2, g3, g4, g5, hh, hr⟩ rx ry)
  rintro w h' sz' ⟨v, rfl, _, rfl, rfl⟩
  exact ⟨⟨_, rfl, rfl⟩, rfl, fr.rf, ⟨_, _, _, hE, hh, hr⟩⟩
theorem k8_brightness {z : ZG} {d sz : Nat} {h : AH} {l mk sc : Int} {T MA : Nat → Int} (hG : GR l T mk MA sc) (hP : RP h h l T mk MA sc) {x : Int} (rx : -2147483648 ≤ x ∧ x < 2147483648) {y : Int} (ry : -2147483648 ≤ y ∧ y < 2147483648) : M z YX8_brightness (d + 1) 0 0 [.ref 114, .int (I x), .int (I y)] h sz (UR 1 h l T mk MA sc sz) := by
  obtain ⟨n, s, sp, nu, rs, rm, km, RA, RD, NW, SD, KP, hm, hra, hr, hk, hkr⟩ := hP
  obtain ⟨g1, g2, g3, g4, g5⟩ := hG
  refine M.mono ?_ (m8_brightness rx ry hm g5 hr)
  rintro w h' sz' ⟨v, rfl, _, rfl, rfl⟩
  exact ⟨⟨_, rfl, rfl⟩, rfl, _, _, _, _, _, _, _, _, _, _, _, _, hm, hra, hr, hk, hkr⟩
theorem k7_brightestStart {z : ZG} {d sz : Nat} {h : AH} {l mk sc : Int} {T MA : Nat → Int} (hG : GR l T mk MA sc) (hP : EP h l T mk MA sc) {x : Int} (rx : -2147483648 ≤ x ∧ x < 2147483648) : M z YX7_brightestStart (d + 3) 0 0 [.ref 0, .int (I x)] h sz (UC 1 h l T mk MA sc sz) := by
  obtain ⟨s, hn, N, hE, hh, hr⟩ := hP
  obtain ⟨g1, g2, g3, g4, g5⟩ := hG
  refine M.mono ?_ (m7_brightestStart hE ⟨g1, g2, g3, g4, g5, hh, hr⟩ rx)
  rintro w h' sz' ⟨v, rfl, _, rfl, rfl⟩
  exact ⟨⟨_, rfl, rfl⟩, rfl, fr.rf, ⟨_, _, _, hE, hh, hr⟩⟩
theorem k8_brightestStart {z : ZG} {d sz : Nat} {h : AH} {l mk sc : Int} {T MA : Nat → Int} (hG : GR l T mk MA sc) (hP : RP h h l T mk MA sc) {x : Int} (rx : -2147483648 ≤ x ∧ x < 2147483648) : M z YX8_brightestStart (d + 1) 0 0 [.ref 114, .int (I x)] h sz (UR 1 h l T mk MA sc sz) := by
  obtain ⟨n, s, sp, nu, rs, rm, km, RA, RD, NW, SD, KP, hm, hra, hr, hk, hkr⟩ := hP
  obtain ⟨g1, g2, g3, g4, g5⟩ := hG
  refine M.mono ?_ (m8_brightestStart rx hm g5 hr)
  rintro w h' sz' ⟨v, rfl, _, rfl, rfl⟩
  exact ⟨⟨_, rfl, rfl⟩, rfl, _, _, _, _, _, _, _, _, _, _, _, _, hm, hra, hr, hk, hkr⟩
theorem k7_overlayPeriod {z : ZG} {d sz : Nat} {h : AH} {l mk sc : Int} {T MA : Nat → Int} (hG : GR l T mk MA sc) (hP : EP h l T mk MA sc)  : M z YX7_overlayPeriod (d + 1) 0 0 [.ref 0] h sz (UC 1 h l T mk MA sc sz) := by
  obtain ⟨s, hn, N, hE, hh, hr⟩ := hP
  obtain ⟨g1, g2, g3, g4, g5⟩ := hG
  refine M.mono ?_ (m7_overlayPeriod hE ⟨g1, g2, g3, g4, g5, hh, hr⟩)
  rintro w h' sz' ⟨rfl, rfl, rfl⟩
  exact ⟨⟨_, rfl, rfl⟩, rfl, fr.rf, ⟨_, _, _, hE, hh, hr⟩⟩
theorem k8_overlayPeriod {z : ZG} {d sz : Nat} {h : AH} {l mk sc : Int} {T MA : Nat → Int} (hG : GR l T mk MA sc) (hP : RP h h l T mk MA sc)  : M z YX8_overlayPeriod (d + 1) 0 0 [.ref 114] h sz (UR 1 h l T mk MA sc sz) := by
  obtain ⟨n, s, sp, nu, rs, rm, km, RA, RD, NW, SD, KP, hm, hra, hr, hk, hkr⟩ := hP
  obtain ⟨g1, g2, g3, g4, g5⟩ := hG
  refine M.mono ?_ (m8_overlayPeriod hm g5 hr)
  rintro w h' sz' ⟨rfl, rfl, rfl⟩
  exact ⟨⟨_, rfl, rfl⟩, rfl, _, _, _, _, _, _, _, _, _, _, _, _, hm, hra, hr, hk, hkr⟩
theorem k7_fringePeriodNumerator {z : ZG} {d sz : Nat} {h : AH} {l mk sc : Int} {T MA : Nat → Int} (hG : GR l T mk MA sc) (hP : EP h l T mk MA sc)  : M z YX7_fringePeriodNumerator (d + 3) 0 0 [.ref 0] h sz (UC 1 h l T mk MA sc sz) := by
  obtain ⟨s, hn, N, hE, hh, hr⟩ := hP
  obtain ⟨g1, g2, g3, g4, g5⟩ := hG
  refine M.mono ?_ (m7_fringePeriodNumerator hE ⟨g1, g2, g3, g4, g5, hh, hr⟩)
  rintro w h' sz' ⟨v, rfl, _, rfl, rfl⟩
  exact ⟨⟨_, rfl, rfl⟩, rfl, fr.rf, ⟨_, _, _, hE, hh, hr⟩⟩
theorem k8_fringePeriodNumerator {z : ZG} {d sz : Nat} {h : AH} {l mk sc : Int} {T MA : Nat → Int} (hG : GR l T mk MA sc) (hP : RP h h l T mk MA sc)  : M z YX8_fringePeriodNumerator (d + 2) 0 0 [.ref 114] h sz (UR 1 h l T mk MA sc sz) := by
  obtain ⟨n, s, sp, nu, rs, rm, km, RA, RD, NW, SD, KP, hm, hra, hr, hk, hkr⟩ := hP
  obtain ⟨g1, g2, g3, g4, g5⟩ := hG
  refine M.mono ?_ (m8_fringePeriodNumerator hm g5 hr)
  rintro w h' sz' ⟨v, rfl, _, rfl, rfl⟩
  exact ⟨⟨_, rfl, rfl⟩, rfl, _, _, _, _, _, _, _, _, _, _, _, _, hm, hra, hr, hk, hkr⟩
theorem k7_fringePeriodDenominator {z : ZG} {d sz : Nat} {h : AH} {l mk sc : Int} {T MA : Nat → Int} (hG : GR l T mk MA sc) (hP : EP h l T mk MA sc)  : M z YX7_fringePeriodDenominator (d + 3) 0 0 [.ref 0] h sz (UC 1 h l T mk MA sc sz) := by
  obtain ⟨s, hn, N, hE, hh, hr⟩ := hP
  obtain ⟨g1, g2, g3, g4, g5⟩ := hG
  refine M.mono ?_ (m7_fringePeriodDenominator hE ⟨g1, g2, g3, g4, g5, hh, hr⟩)
  rintro w h' sz' ⟨v, rfl, _, rfl, rfl⟩
  exact ⟨⟨_, rfl, rfl⟩, rfl, fr.rf, ⟨_, _, _, hE, hh, hr⟩⟩
theorem k8_fringePeriodDenominator {z : ZG} {d sz : Nat} {h : AH} {l mk sc : Int} {T MA : Nat → Int} (hG : GR l T mk MA sc) (hP : RP h h l T mk MA sc)  : M z YX8_fringePeriodDenominator (d + 2) 0 0 [.ref 114] h sz (UR 1 h l T mk MA sc sz) := by
  obtain ⟨n, s, sp, nu, rs, rm, km, RA, RD, NW, SD, KP, hm, hra, hr, hk, hkr⟩ := hP
  obtain ⟨g1, g2, g3, g4, g5⟩ := hG
  refine M.mono ?_ (m8_fringePeriodDenominator hm g5 hr)
  rintro w h' sz' ⟨v, rfl, _, rfl, rfl⟩
  exact ⟨⟨_, rfl, rfl⟩, rfl, _, _, _, _, _, _, _, _, _, _, _, _, hm, hra, hr, hk, hkr⟩
theorem k7_magnificationBits {z : ZG} {d sz : Nat} {h : AH} {l mk sc : Int} {T MA : Nat → Int} (hG : GR l T mk MA sc) (hP : EP h l T mk MA sc)  : M z YX7_magnificationBits (d + 2) 0 0 [.ref 0] h sz (UC 1 h l T mk MA sc sz) := by
  obtain ⟨s, hn, N, hE, hh, hr⟩ := hP
  obtain ⟨g1, g2, g3, g4, g5⟩ := hG
  refine M.mono ?_ (m7_magnificationBits hE ⟨g1, g2, g3, g4, g5, hh, hr⟩)
  rintro w h' sz' ⟨⟨v, rfl, _⟩, rfl, rfl⟩
  exact ⟨⟨_, rfl, rfl⟩, rfl, fr.rf, ⟨_, _, _, hE, hh, hr⟩⟩
theorem k8_magnificationBits {z : ZG} {d sz : Nat} {h : AH} {l mk sc : Int} {T MA : Nat → Int} (hG : GR l T mk MA sc) (hP : RP h h l T mk MA sc)  : M z YX8_magnificationBits (d + 2) 0 0 [.ref 114] h sz (UR 1 h l T mk MA sc sz) := by
  obtain ⟨n, s, sp, nu, rs, rm, km, RA, RD, NW, SD, KP, hm, hra, hr, hk, hkr⟩ := hP
  obtain ⟨g1, g2, g3, g4, g5⟩ := hG
  refine M.mono ?_ (m8_magnificationBits hm g5 hr)
  rintro w h' sz' ⟨⟨v, rfl, _⟩, rfl, rfl⟩
  exact ⟨⟨_, rfl, rfl⟩, rfl, _, _, _, _, _, _, _, _, _, _, _, _, hm, hra, hr, hk, hkr⟩
theorem k7_crossedSpacingBits {z : ZG} {d sz : Nat} {h : AH} {l mk sc : Int} {T MA : Nat → Int} (hG : GR l T mk MA sc) (hP : EP h l T mk MA sc) {x : Int} (rx : -2147483648 ≤ x ∧ x < 2147483648) {y : Int} (ry : -2147483648 ≤ y ∧ y < 2147483648) : M z YX7_crossedSpacingBits (d + 1) 0 0 [.ref 0, .int (I x), .int (I y)] h sz (UC 1 h l T mk MA sc sz) := by
  obtain ⟨s, hn, N, hE, hh, hr⟩ := hP
  obtain ⟨g1, g2, g3, g4, g5⟩ := hG
  refine M.mono ?_ (m7_crossedSpacingBits hE ⟨g1, g2, g3, g4, g5, hh, hr⟩ rx ry)
  rintro w h' sz' ⟨⟨v, rfl, _⟩, rfl, rfl⟩
  exact ⟨⟨_, rfl, rfl⟩, rfl, fr.rf, ⟨_, _, _, hE, hh, hr⟩⟩
theorem k8_crossedSpacingBits {z : ZG} {d sz : Nat} {h : AH} {l mk sc : Int} {T MA : Nat → Int} (hG : GR l T mk MA sc) (hP : RP h h l T mk MA sc) {x : Int} (rx : -2147483648 ≤ x ∧ x < 2147483648) {y : Int} (ry : -2147483648 ≤ y ∧ y < 2147483648) : M z YX8_crossedSpacingBits (d + 2) 0 0 [.ref 114, .int (I x), .int (I y)] h sz (UR 1 h l T mk MA sc sz) := by
  obtain ⟨n, s, sp, nu, rs, rm, km, RA, RD, NW, SD, KP, hm, hra, hr, hk, hkr⟩ := hP
  obtain ⟨g1, g2, g3, g4, g5⟩ := hG
  refine M.mono ?_ (m8_crossedSpacingBits rx ry hm)
  rintro w h' sz' ⟨⟨v, rfl, _⟩, rfl, rfl⟩
  exact ⟨⟨_, rfl, rfl⟩, rfl, _, _, _, _, _, _, _, _, _, _, _, _, hm, hra, hr, hk, hkr⟩
