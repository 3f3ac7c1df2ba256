/-! THE LAW: calls out of its own room; the words of its loop -/
section Lrules
variable {z : ZG} {Y : ZM} {R : Room} {Q : ZQ} {pc : Nat} {L : AL} {st : List Value} {h : AH} {sz kc nc : Nat}
theorem V_callVR {Y' : ZM} {stk As : List Value} {a index ci n d mc' ms' : Nat} {fs : List Value} {Q' : ZQ} (hd : decode Y.2.1 pc = .ok (.invokevirtual index, 3)) (hl : Cond.methodLink Y.1.cls index Y'.1 ∈ gw) (hg : ZYv Y' n) (hM : M z Y' d mc' ms' (.ref a :: As) h sz Q') (he : h a = some (.inl (ci, fs))) (hci : (vwCl[ci]?).map (fun q => q.1) = some Y'.1.cls) (hst : stk = As.reverse ++ .ref a :: st) (hn : As.length = n) (hsum : (st.map fun v => v.category).sum ≤ 8) (hRf : d + 1 ≤ R.frames) (hRl : 31 * (d + 1) ≤ R.locals) (hk : kc + mc' ≤ R.cells ∧ nc + ms' ≤ R.slots)
    (kk : ∀ (v : Option Value) (h' : AH) (sz' : Nat), Q' v h' sz' → V z Y R Q (pc + 3) L (v.toList ++ st) h' sz' (kc + mc') (nc + ms')) : V z Y R Q pc L stk h sz kc nc := by
  subst hst
  intro p e s m args below meth c d0 H locs ls C hd0 hL hr
  have hts := dr_words C.2.2.2.2.1 d0
  have hK : va_K z.2.2.1 vwCl (zty z) (s.setDrawn d0) := C.2.2.2.2.2.2.2.2.1
  obtain ⟨q, hq, hqe⟩ : ∃ q, vwCl[ci]? = some q ∧ q.1 = Y'.1.cls := by
    cases hc : vwCl[ci]? with
    | none => rw [hc] at hci; cases hci
    | some q => rw [hc] at hci; exact ⟨q, rfl, Option.some.inj hci⟩
  obtain ⟨q', g0, cell, g1, g2, g3, -⟩ := hr.1 a _ he
  have hrecv : ∃ cellB : Cell, H[z.2.1 + a]? = some cellB ∧ cellB.vm.isStatics = false ∧ (s.setDrawn d0).vm.findClass Y'.1.cls = some cellB.cls := ⟨cell, g1, by rw [g3]; rfl, by rw [g2, ← hqe]; exact (hK.1 ci q hq).2.1⟩
  have w1 := hts _ hg.1.1
  have w2 := hts _ hl
  have w4 := hts _ hg.2.1
  have w5 := hts _ hg.2.2
  have cb : CallB R (s.setDrawn d0) args Y.1.cls index Y'.1 Y'.2.1 Y'.2.2.1 Y'.2.2.2 (zws Y') (zroom d mc' ms') mc' ms' n := callB_of n hts (zw_good hg.1) rfl rfl rfl w1 w2 hg.1.2.2.1 ⟨hRf, by show 8 + (Y'.2.2.1 + 11) + 31 * d ≤ R.locals; have := hg.1.2.2.2; omega⟩
  have hown : (s.setDrawn d0).vm.findClass Y.1.cls = some m.cls := C.2.2.2.1
  have hrun := va_runV_D (cs := lw_cs) (p := p) (l := z.1) (e := e) (R := R) (s := s.setDrawn d0) (H := H) (below := below) (meth := meth) (locs := locs) (cells := kc) (slots := nc) (C := Y'.1.cls) (b := z.2.1 + a) (As := As.map (shv z.2.1)) (rest := st.map (shv z.2.1)) (g := F0 m pc ls ((As.reverse ++ .ref a :: st).map (shv z.2.1))) ⟨C.1, C.2.1, C.2.2.1, hown, hts⟩ hM ⟨cb, w4, w5⟩ ⟨zp_blind z (.ref a :: As) h sz, hrecv, zp_pre (as := .ref a :: As) hr.1 hr.2.1 C.2.2.2.2.2.2.2.2 hr.2.2.2.2⟩ rfl (by rw [List.length_map]; exact hn) (by rw [← hL]; exact hr.2.2.1.1) (by show List.map (shv z.2.1) _ = _; rw [List.map_append, List.map_reverse]; rfl) (by show 2 * 0 + _ ≤ 8; rw [zw_sum]; omega) hd hk
  refine zw_call (z := z) (R := R) hd0 hrun hr.2.2.2.1 hr.2.2.2.2 fun v h' sz' d1 H1 locs1 b1 b2 b3 b4 b5 b6 => ?_
  have := kk v h' sz' b2 p e s m args below meth c d1 H1 locs1 ls C b1 hL ⟨b3, b4, hr.2.2.1, b5, b6⟩
  rw [List.map_append] at this
  cases v <;> exact this
theorem V_callIR {Y' : ZM} {stk As : List Value} {a index n d mc' ms' : Nat} {Q' : ZQ} (hd : decode Y.2.1 pc = .ok (.invokespecial index, 3)) (hl : Cond.methodLink Y.1.cls index Y'.1 ∈ gw) (hg : ZYi Y' n) (hM : M z Y' d mc' ms' (.ref a :: As) h sz Q') (hst : stk = As.reverse ++ .ref a :: st) (hn : As.length = n) (hsum : (st.map fun v => v.category).sum ≤ 8) (hRf : d + 1 ≤ R.frames) (hRl : 31 * (d + 1) ≤ R.locals) (hk : kc + mc' ≤ R.cells ∧ nc + ms' ≤ R.slots)
    (kk : ∀ (v : Option Value) (h' : AH) (sz' : Nat), Q' v h' sz' → V z Y R Q (pc + 3) L (v.toList ++ st) h' sz' (kc + mc') (nc + ms')) : V z Y R Q pc L stk h sz kc nc := by
  subst hst
  intro p e s m args below meth c d0 H locs ls C hd0 hL hr
  have hts := dr_words C.2.2.2.2.1 d0
  have hown : (s.setDrawn d0).vm.findClass Y.1.cls = some m.cls := C.2.2.2.1
  obtain ⟨y, bb, ml, rt⟩ := Y'
  obtain ⟨hg1, hg2, hg3, hg4⟩ := hg
  have hrt : rt = none := hg4
  subst hrt
  have w1 := hts _ hg1.1
  have w2 := hts _ hl
  have w4 := hts _ hg2
  have cb : CallB R (s.setDrawn d0) args Y.1.cls index y bb ml none (zws (y, bb, ml, none)) (zroom d mc' ms') mc' ms' n := callB_of n hts (zw_good hg1) rfl rfl rfl w1 w2 hg1.2.2.1 ⟨hRf, by show 8 + (ml + 11) + 31 * d ≤ R.locals; have : ml ≤ 12 := hg1.2.2.2; omega⟩
  have hrun := va_runI_D (cs := lw_cs) (p := p) (l := z.1) (e := e) (R := R) (s := s.setDrawn d0) (H := H) (below := below) (meth := meth) (locs := locs) (cells := kc) (slots := nc) (b := z.2.1 + a) (As := As.map (shv z.2.1)) (rest := st.map (shv z.2.1)) (g := F0 m pc ls ((As.reverse ++ .ref a :: st).map (shv z.2.1))) ⟨C.1, C.2.1, C.2.2.1, hown, hts⟩ hM ⟨cb, hg3, w4⟩ ⟨zp_blind z (.ref a :: As) h sz, zp_pre (as := .ref a :: As) hr.1 hr.2.1 C.2.2.2.2.2.2.2.2 hr.2.2.2.2⟩ rfl (by rw [List.length_map]; exact hn) (by rw [← hL]; exact hr.2.2.1.1) (by show List.map (shv z.2.1) _ = _; rw [List.map_append, List.map_reverse]; rfl) (by show 2 * 0 + _ ≤ 8; rw [zw_sum]; omega) hd hk
  refine zw_call (z := z) (R := R) hd0 hrun hr.2.2.2.1 hr.2.2.2.2 fun v h' sz' d1 H1 locs1 b1 b2 b3 b4 b5 b6 => ?_
  have := kk v h' sz' b2 p e s m args below meth c d1 H1 locs1 ls C b1 hL ⟨b3, b4, hr.2.2.1, b5, b6⟩
  rw [List.map_append] at this
  cases v <;> exact this
theorem V_pop2 {v : Value} (hd : decode Y.2.1 pc = .ok (.pop2, 1)) (hv : v.category = 2) (kk : V z Y R Q (pc + 1) L st h sz kc nc) : V z Y R Q pc L (v :: st) h sz kc nc := fun p e s m args below meth c d0 H locs ls C hd0 hL hr => lv_pop2_2 C.1 C.2.1 hd (by rw [shv_cat]; exact hv) (kk p e s m args below meth c d0 H locs ls C hd0 hL hr)
end Lrules
theorem and31 (x : Int32) : ∃ n : Nat, n < 32 ∧ x &&& I 31 = I (n : Int) := by
  refine ⟨(x.toBitVec &&& (I 31).toBitVec).toNat, ?_, ?_⟩
  · rw [BitVec.toNat_and, show (I 31).toBitVec.toNat = 31 by decide +kernel]
    exact Nat.lt_succ_of_le Nat.and_le_right
  · apply Int32.toBitVec_inj.mp
    rw [Int32.toBitVec_and, ← I_nat]
    show _ = BitVec.ofNat 32 _
    rw [BitVec.ofNat_toNat, BitVec.setWidth_eq]
abbrev YL (nm : String) : ZM := (⟨RL, nm, "([I)Z"⟩, cL_law, 4, some .boolean)
theorem EP.o {h : AH} {l mk sc : Int} {T MA : Nat → Int} (x : EP h l T mk MA sc) : ∃ fs, h 0 = some (.inl (7, fs)) := by
  obtain ⟨s, hn, N, hE, q⟩ := x
  exact ⟨_, hE.1⟩
theorem RP.o {g h : AH} {l mk sc : Int} {T MA : Nat → Int} (x : RP h g l T mk MA sc) : ∃ fs, h 114 = some (.inl (8, fs)) := by
  obtain ⟨n, s, sp, nu, rs, rm, km, RA, RD, NW, SD, KP, hm, q⟩ := x
  exact ⟨_, hm.1⟩
/-- both sides in order -/
def LI (h : AH) : Prop := ∃ (l : Int) (T : Nat → Int) (mk : Int) (MA : Nat → Int) (sc : Int), GR l T mk MA sc ∧ EP h l T mk MA sc ∧ RP h h l T mk MA sc
/-- what appending says of the text -/
def apR (c l : Int) (T : Nat → Int) (res l2 : Int) (T2 : Nat → Int) : Prop := (¬ (32 ≤ c ∧ c ≤ 126) ∧ res = -1 ∧ l2 = l ∧ T2 = T) ∨ ((32 ≤ c ∧ c ≤ 126) ∧ l = 200 ∧ res = -3 ∧ l2 = l ∧ T2 = T) ∨ ((32 ≤ c ∧ c ≤ 126) ∧ l ≠ 200 ∧ res = l + 1 ∧ l2 = l + 1 ∧ T2 = va_up T l.toNat c)
theorem apR_un {c l r1 l1 r2 l2 : Int} {T T1 T2 : Nat → Int} (a : apR c l T r1 l1 T1) (b : apR c l T r2 l2 T2) : r1 = r2 ∧ l1 = l2 ∧ T1 = T2 := by
  rcases a with ⟨a0, rfl, rfl, rfl⟩ | ⟨a0, a1, rfl, rfl, rfl⟩ | ⟨a0, a1, rfl, rfl, rfl⟩ <;> rcases b with ⟨b0, rfl, rfl, rfl⟩ | ⟨b0, b1, rfl, rfl, rfl⟩ | ⟨b0, b1, rfl, rfl, rfl⟩ <;> first | exact ⟨rfl, rfl, rfl⟩ | exact absurd b0 a0 | exact absurd a0 b0 | exact absurd a1 b1 | exact absurd b1 a1
theorem apR_gr {c l r1 l1 mk sc : Int} {T T1 MA : Nat → Int} (a : apR c l T r1 l1 T1) (g : GR l T mk MA sc) : GR l1 T1 mk MA sc := by
  obtain ⟨g1, g2, g3⟩ := g
  rcases a with ⟨a0, rfl, rfl, rfl⟩ | ⟨a0, a1, rfl, rfl, rfl⟩ | ⟨a0, a1, rfl, rfl, rfl⟩
  · exact ⟨g1, g2, g3⟩
  · exact ⟨g1, g2, g3⟩
  · refine ⟨by omega, fun j hj => ?_, g3⟩
    unfold va_up
    split
    · omega
    · exact g2 j hj
