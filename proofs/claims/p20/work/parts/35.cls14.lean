/-! THE CLASS: what a move would do -/
theorem mkL_lo {MA : Nat → Int} {mk : Nat} {a b : Int} {S : Nat → Int} {j : Nat} (hj : j < 17) : ∀ k, mkL MA mk a b S k j = S j := by
  intro k
  induction k with
  | zero => rfl
  | succ k ih =>
    unfold mkL
    by_cases q : pas a b (mkA MA mk a b k)
    · rw [if_pos q, lgE_lo hj]; exact ih
    · rw [if_neg q]; exact ih
theorem dcd_lo {pt x : Int} {N : Nat → Int} {j : Nat} (hp : 0 < pt) (hr : rok N) (hj : j < 17) : dcd pt N x j = rdN pt N x j := by
  by_cases hd : (quad pt x - N 2 + 4) % 4 = 2
  · by_cases hw : N 17 = 0 ∨ lK N 0 = 0
    · rw [← rdN_lg (rok17 hr) hd hw, lgE_lo hj]
    · rw [rdN_nl (rok17 hr) hd hw]
  · rw [rdN_no hp hr.2.1 hd]
theorem smp_lod {pt a x : Int} {m : Nat} {MK N : Nat → Int} {j : Nat} (hj : j < 17) (h0 : j ≠ 0) (hd : drt N (N 8).toNat x) : smp pt m MK N a x j = va_up N 4 (N 4 + 1) j := by
  rw [smp_d hd]
  show (if j = 0 then x else _) = _
  rw [if_neg h0, mkL_lo hj]
theorem smp_loc {pt a x : Int} {m : Nat} {MK N : Nat → Int} {j : Nat} (hp : 0 < pt) (hr : rok N) (hj : j < 17) (h0 : j ≠ 0) (hd : ¬ drt N (N 8).toNat x) : smp pt m MK N a x j = rdN pt (va_up N 4 (N 4 + 1)) x j := by
  rw [smp_c hd]
  show (if j = 0 then x else _) = _
  rw [if_neg h0, mkL_lo hj, dcd_lo hp (rok_up hr (Or.inr (Or.inr rfl))) hj]
/-- what a sample leaves as it was -/
theorem smp_same {pt a x : Int} {m : Nat} {MK N : Nat → Int} {j : Nat} (hp : 0 < pt) (hr : rok N) (hj : 5 ≤ j ∧ j < 17) : smp pt m MK N a x j = N j := by
  by_cases hd : drt N (N 8).toNat x
  · rw [smp_lod (by omega) (by omega) hd]; exact if_neg (by omega)
  · rw [smp_loc hp hr (by omega) (by omega) hd]
    unfold rdN va_up
    rw [if_neg (by omega), if_neg (by omega), if_neg (by omega), if_neg (by omega)]
theorem smp_3 {pt a x : Int} {m : Nat} {MK N : Nat → Int} (hp : 0 < pt) (hr : rok N) : N 3 ≤ smp pt m MK N a x 3 ∧ smp pt m MK N a x 3 ≤ N 3 + 1 := by
  by_cases hd : drt N (N 8).toNat x
  · rw [smp_lod (by omega) (by omega) hd]
    show N 3 ≤ N 3 ∧ N 3 ≤ N 3 + 1
    omega
  · rw [smp_loc hp hr (by omega) (by omega) hd]
    show N 3 ≤ (if (quad pt x - N 2 + 4) % 4 = 2 then N 3 + 1 else N 3) ∧ (if (quad pt x - N 2 + 4) % 4 = 2 then N 3 + 1 else N 3) ≤ N 3 + 1
    by_cases q : (quad pt x - N 2 + 4) % 4 = 2
    · rw [if_pos q]; omega
    · rw [if_neg q]; omega
theorem mvF_3 {pt t v : Int} {m : Nat} {MK : Nat → Int} (hp : 0 < pt) (ht : 0 ≤ t ∧ t ≤ 9999) (hv : 1 ≤ v) : ∀ (f : Nat) (N : Nat → Int), rok N → N 3 ≤ mvF pt m MK t v f N 3 := by
  intro f
  induction f with
  | zero => intro N h; exact Int.le_refl _
  | succ f ih =>
    intro N h
    rw [mvF_s]
    split
    · exact Int.le_refl _
    · rename_i hn
      have a := ih _ (rok_smp (mk := m) (MA := MK) (a := N 0) hp (nxt_rg h.1 ht hv hn).1 h)
      have b := (smp_3 (m := m) (MK := MK) (a := N 0) (x := nxt (N 0) t v) hp h).1
      omega
theorem drt_same {N S : Nat → Int} {x : Int} (h : ∀ j : Nat, 5 ≤ j → j < 17 → S j = N j) (h8 : 0 ≤ N 8 ∧ N 8 ≤ 4) : drt S (S 8).toNat x ↔ drt N (N 8).toNat x := by
  rw [h 8 (by omega) (by omega)]
  constructor
  · rintro ⟨k, a, b⟩
    rw [h _ (by omega) (by omega), h _ (by omega) (by omega)] at b
    exact ⟨k, a, b⟩
  · rintro ⟨k, a, b⟩
    refine ⟨k, a, ?_⟩
    rw [h _ (by omega) (by omega), h _ (by omega) (by omega)]
    exact b
set_option maxHeartbeats 4000000 in
set_option maxRecDepth 100000 in
theorem l7_ps_42 {z : ZG} {d sz s m : Nat} {g0 : AH} {tn pt hn t v : Int} {TX MK N NF : Nat → Int} (rt : 0 ≤ tn ∧ tn ≤ 200) (rx : ∀ j : Nat, j < 200 → 0 ≤ TX j ∧ TX j ≤ 126) (rm : 0 ≤ (m : Int) ∧ (m : Int) ≤ 6) (rmk : ∀ j : Nat, j < 6 → 0 ≤ MK j ∧ MK j ≤ 9999) (rp : 8 ≤ pt ∧ pt ≤ 80) (rh : 0 ≤ hn ∧ hn ≤ 6) (rn : rok N) (ht : 0 ≤ t ∧ t ≤ 9999) (hv : 1 ≤ v ∧ v ≤ 99) : ∀ (fu n fm : Nat) (S : Nat → Int) (h : AH), 1 ≤ n → (n : Int) ≤ (((t - N 0).natAbs : Int) + v - 1) / v + 1 → (((t - N 0).natAbs : Int) + v - 1) / v + 1 - n < fu → S 0 = spo (N 0) t (((n : Int) - 1) * v) → (S 0 - t).natAbs ≤ fm → fr g0 h 0 114 → mvF pt m MK t v fm S = NF → (∀ j : Nat, 5 ≤ j → j < 17 → S j = N j) → rok S → EN h s tn TX (m : Int) MK pt hn N → h 99 = some (.inl (0, [.int (I (S 2)), .long (J (S 1)), .int (I (S 3))])) →  V z YX7_predictSlip (zroom (d + 5) 0 0) (fun w h' sz' => sz' = sz ∧ fr g0 h' 0 114 ∧ EN h' s tn TX (m : Int) MK pt hn N ∧ w = some (.long (J (NF 1 - N 5 * t / pt)))) 42 [some (.ref 0), some (.int (I t)), some (.int (I v)), some (.int (I ((((t - N 0).natAbs : Int) + v - 1) / v))), some (.int (I (n : Int)))] [] h sz 0 0 := by
  intro fu
  induction fu with
  | zero => intro n fm S h h1 h1b h2; omega
  | succ fu ih =>
    intro n fm S h h1 h1b h2 h0 hfm hF hNF hsm hrS hE h99
    have hcr : 0 ≤ (((t - N 0).natAbs : Int) + v - 1) / v ∧ (((t - N 0).natAbs : Int) + v - 1) / v ≤ 10098 := ⟨Int.ediv_nonneg (by omega) (by omega), by have := Int.ediv_le_self (a := ((t - N 0).natAbs : Int) + v - 1) v (by omega); have := rn.1; omega⟩
    have hend : ¬ (n : Int) ≤ (((t - N 0).natAbs : Int) + v - 1) / v → S 0 = t := fun q => by rw [h0]; exact spo_end (Int.not_lt.mp (fun w => q ((cnt_le (D := ((t - N 0).natAbs : Int)) hv.1).mpr w)))
    have hct := cnt_rg (N := N) rn.2.2.1 ht rp
    have hcn := cnt_rg (N := N) rn.2.2.1 rn.1 rp
    refine V_iload dX7_predictSlip_42 rfl ?_
    refine V_iload_n dX7_predictSlip_44 rfl ?_
    refine J_icmp_gt (tgt := 78) dX7_predictSlip_45 (by decide) (by omega) (by omega) (fun c45 => ?_) (fun c45 => ?_)
    · refine V_aload_n dX7_predictSlip_78 rfl ?_
      refine V_get dX7_predictSlip_79 fX7_38 hE.1 rfl ?_
      refine V_getN dX7_predictSlip_82 fX7_158 h99 rfl ?_
      refine V_aload_n dX7_predictSlip_85 rfl ?_
      refine V_iload_n dX7_predictSlip_86 rfl ?_
      refine V_callV (Y' := YX7_countAt) dX7_predictSlip_87 lX7_155 gX7_countAt (m7_countAt hE ⟨rt, rx, rm, rmk, rp, rh, rn⟩ ht) hE.1 rfl rfl rfl (Nat.le_of_ble_eq_true rfl) ⟨Nat.zero_le _, Nat.zero_le _⟩ (fun v h1 sz1 hq => ?_)
      obtain ⟨rfl, rfl, rfl⟩ := hq
      refine J_i2l dX7_predictSlip_90 (by omega) ?_
      refine J_lsub dX7_predictSlip_91 ?_
      exact V_lret dX7_predictSlip_92 rfl ⟨Nat.zero_le _, Nat.zero_le _⟩ ⟨rfl, hF, hE, by rw [← hNF, mvF_end (hend (by omega))]⟩
    · have hg2 : (n : Int) * v = ((n : Int) - 1) * v + v := by rw [Int.sub_mul, Int.one_mul]; omega
      have hlt := (cnt_le (D := ((t - N 0).natAbs : Int)) (n := (n : Int)) hv.1).mp (by omega)
      have hg0 : 0 ≤ ((n : Int) - 1) * v := Int.mul_nonneg (by omega) (by omega)
      have hsn := spo_nx hv.1 hg0 hlt
      have hsr := spo_rg (g := (n : Int) * v) rn.1 ht (by omega)
      refine V_aload_n dX7_predictSlip_48 rfl ?_
      refine V_aload_n dX7_predictSlip_49 rfl ?_
      refine V_get dX7_predictSlip_50 fX7_38 hE.1 rfl ?_
      refine V_aload_n dX7_predictSlip_53 rfl ?_
      refine V_get dX7_predictSlip_54 fX7_45 hE.1 rfl ?_
      refine V_getN dX7_predictSlip_57 fX7_135 hE.n.1 rfl ?_
      refine V_iload_n dX7_predictSlip_60 rfl ?_
      refine V_iload dX7_predictSlip_61 rfl ?_
      refine V_iload_n dX7_predictSlip_63 rfl ?_
      refine J_imul dX7_predictSlip_64 ?_
      refine V_callS (Y' := YX7_samplePosition) dX7_predictSlip_65 lX7_142 gX7_samplePosition (m7_samplePosition rn.1 ht (by have := rn.1; omega)) rfl rfl (Nat.le_of_ble_eq_true rfl) ⟨Nat.zero_le _, Nat.zero_le _⟩ (fun v h1 sz1 hq => ?_)
      obtain ⟨rfl, rfl, rfl⟩ := hq
      refine V_callV (Y' := YX7_readSample) dX7_predictSlip_68 lX7_238 gX7_readSample (m7_readSample hE ⟨rt, rx, rm, rmk, rp, rh, rn⟩ hsr hrS.2.1 h99) hE.1 rfl rfl rfl (Nat.le_of_ble_eq_true rfl) ⟨Nat.zero_le _, Nat.zero_le _⟩ (fun v h1 sz1 hq => ?_)
      obtain ⟨rfl, tq, rfl, htq⟩ := hq
      have hp0 : 0 < pt := by omega
      have hS2 : smp pt m MK S (S 0) (spo (N 0) t ((n : Int) * v)) 0 = spo (N 0) t ((n : Int) * v) := rfl
      have hR2 : h1 99 = some (.inl (0, [.int (I (smp pt m MK S (S 0) (spo (N 0) t ((n : Int) * v)) 2)), .long (J (smp pt m MK S (S 0) (spo (N 0) t ((n : Int) * v)) 1)), .int (I (smp pt m MK S (S 0) (spo (N 0) t ((n : Int) * v)) 3))])) ∧ fr g0 h1 0 114 ∧ EN h1 s tn TX (m : Int) MK pt hn N ∧ (tq = 1 ∨ tq = 0) ∧ (tq = 1 → smp pt m MK S (S 0) (spo (N 0) t ((n : Int) * v)) 3 = S 3 + 1) ∧ (tq = 0 → smp pt m MK S (S 0) (spo (N 0) t ((n : Int) * v)) 3 = S 3) := by
        rcases htq with ⟨hdr, rfl, rfl⟩ | ⟨hdr, hob, htq⟩
        · have hdr := (drt_same hsm (rok8 rn)).mpr hdr
          rw [smp_lod (by omega) (by omega) hdr, smp_lod (by omega) (by omega) hdr, smp_lod (by omega) (by omega) hdr]
          exact ⟨h99, hF, hE, Or.inr rfl, fun q => absurd q (by decide), fun _ => rfl⟩
        · have hdr : ¬ drt S (S 8).toNat (spo (N 0) t ((n : Int) * v)) := fun w => hdr ((drt_same hsm (rok8 rn)).mp w)
          rw [smp_loc hp0 hrS (by omega) (by omega) hdr, smp_loc hp0 hrS (by omega) (by omega) hdr, smp_loc hp0 hrS (by omega) (by omega) hdr]
          have e5 : S 5 = N 5 := hsm 5 (by omega) (by omega)
          refine ⟨?_, hF.then (hob.fr.up (by omega)), hE.setR hob.fr ⟨_, _, _, quad_rg hp0, hob.1⟩, by omega, fun q => ?_, fun q => ?_⟩
          · rw [← e5] at hob; exact hob.1
          · show (if (quad pt (spo (N 0) t ((n : Int) * v)) - S 2 + 4) % 4 = 2 then S 3 + 1 else S 3) = _; rw [if_pos (by omega)]
          · show (if (quad pt (spo (N 0) t ((n : Int) * v)) - S 2 + 4) % 4 = 2 then S 3 + 1 else S 3) = _; rw [if_neg (by omega)]
      obtain ⟨h99b, hF, hE, hta, htb, htc⟩ := hR2
      refine V_pop dX7_predictSlip_71 rfl ?_
      refine J_iinc dX7_predictSlip_72 rfl ?_
      refine V_goto (tgt := 42) dX7_predictSlip_75 (by decide) ?_
      rw [show ((n : Int) + 1) = ((n + 1 : Nat) : Int) by omega]
      cases fm with
      | zero => exact absurd (show spo (N 0) t (((n : Int) - 1) * v) = t by rw [← h0]; omega) hsn.2
      | succ fm =>
        have hNF2 := hNF
        rw [mvF_s, if_neg (by rw [h0]; exact hsn.2), h0, hsn.1, ← hg2, ← h0] at hNF2
        refine ih (n + 1) fm _ _ (by omega) (by omega) (by omega) ?_ ?_ hF hNF2 ?_ (rok_smp hp0 hsr hrS) hE h99b
        · show spo (N 0) t ((n : Int) * v) = _; congr 1; rw [show ((n + 1 : Nat) : Int) - 1 = (n : Int) by omega]
        · show (spo (N 0) t ((n : Int) * v) - t).natAbs ≤ fm; have := (nxt_rg (t := t) (v := v) (a := S 0) hrS.1 ht hv.1 (by rw [h0]; exact hsn.2)).2; rw [h0, hsn.1, ← hg2] at this; rw [h0] at hfm; omega
        · intro j j1 j2; rw [smp_same hp0 hrS ⟨j1, j2⟩]; exact hsm j j1 j2
set_option maxHeartbeats 4000000 in
set_option maxRecDepth 100000 in
theorem m7_predictSlip {z : ZG} {d sz s : Nat} {h : AH} {m : Nat} {tn pt hn : Int} {TX MK N : Nat → Int} (hE : EN h s tn TX (m : Int) MK pt hn N) (hR : ER tn TX (m : Int) MK pt hn N) {t v : Int} (hvt : -2147483648 ≤ t ∧ t < 2147483648) (hvv : -2147483648 ≤ v ∧ v < 2147483648) : M z YX7_predictSlip (d + 5) 0 0 [.ref 0, .int (I t), .int (I v)] h sz (fun w h' sz' => sz' = sz ∧ fr h h' 0 114 ∧ EN h' s tn TX (m : Int) MK pt hn N ∧ ((¬ ((0 ≤ t ∧ t ≤ 9999) ∧ 1 ≤ v ∧ v ≤ 99) ∧ w = some (.long (J (-9223372036854775808)))) ∨ (((0 ≤ t ∧ t ≤ 9999) ∧ 1 ≤ v ∧ v ≤ 99) ∧ w = some (.long (J (mvF pt m MK t v 10000 N 1 - N 5 * t / pt)))))) := by
  refine M.of (by decide +kernel) (Nat.le_of_ble_eq_true rfl) ?_
  obtain ⟨rt, rx, rm, rmk, rp, rh, rn⟩ := hR
  obtain ⟨q0, c0, m0, hq0, h99⟩ := hE.tr
  refine V_iload_n dX7_predictSlip_0 rfl ?_
  refine V_iload_n dX7_predictSlip_1 rfl ?_
  refine V_callS (Y' := YX7_isMove) dX7_predictSlip_2 lX7_121 gX7_isMove (m7_isMove hvt hvv) rfl rfl (Nat.le_of_ble_eq_true rfl) ⟨Nat.zero_le _, Nat.zero_le _⟩ (fun v h1 sz1 hq => ?_)
  obtain ⟨t2, rfl, ht2, rfl, rfl⟩ := hq
  refine J_if_ne (tgt := 12) dX7_predictSlip_5 (by decide) (by omega) (fun c5 => ?_) (fun c5 => ?_)
  · refine V_aload_n dX7_predictSlip_12 rfl ?_
    refine V_get dX7_predictSlip_13 fX7_38 hE.1 rfl ?_
    refine V_aload_n dX7_predictSlip_16 rfl ?_
    refine V_get dX7_predictSlip_17 fX7_45 hE.1 rfl ?_
    refine V_getN dX7_predictSlip_20 fX7_129 hE.n.1 rfl ?_
    refine V_callV (Y' := YX0_copyFrom) dX7_predictSlip_23 lX7_280 gX0_copyFrom (m0_copyFrom (by have := hE.sb.2.1; have := hE.sb.1; omega) h99 hE.n.2.1) h99 rfl rfl rfl (Nat.le_of_ble_eq_true rfl) ⟨Nat.zero_le _, Nat.zero_le _⟩ (fun v h1 sz1 hq => ?_)
    obtain ⟨rfl, rfl, hob⟩ := hq
    have hE := hE.setR hob.fr ⟨_, _, _, rn.2.1, hob.1⟩
    have hF := hob.fr.up (show 100 ≤ 114 by omega)
    refine V_aload_n dX7_predictSlip_26 rfl ?_
    refine V_get dX7_predictSlip_27 fX7_45 hE.1 rfl ?_
    refine V_getN dX7_predictSlip_30 fX7_135 hE.n.1 rfl ?_
    refine V_iload_n dX7_predictSlip_33 rfl ?_
    refine V_iload_n dX7_predictSlip_34 rfl ?_
    refine V_callS (Y' := YX7_sampleCount) dX7_predictSlip_35 lX7_138 gX7_sampleCount (m7_sampleCount rn.1 (by omega) (by omega)) rfl rfl (Nat.le_of_ble_eq_true rfl) ⟨Nat.zero_le _, Nat.zero_le _⟩ (fun v h1 sz1 hq => ?_)
    obtain ⟨rfl, rfl, rfl⟩ := hq
    refine V_istore_n dX7_predictSlip_38 (Nat.le_of_ble_eq_true rfl) ?_
    refine J_iconst dX7_predictSlip_39 ?_
    refine V_istore dX7_predictSlip_40 (Nat.le_of_ble_eq_true rfl) ?_
    refine V_mono ?_ (l7_ps_42 rt rx rm rmk rp rh rn (by omega) (by omega) 20000 1 10000 N _ (by omega) (by have : 0 ≤ (((t - N 0).natAbs : Int) + v - 1) / v := Int.ediv_nonneg (by omega) (by omega); omega) ?_ ?_ (by have := rn.1; omega) hF rfl (fun _ _ _ => rfl) rn hE hob.1)
    · rintro w h9 sz9 ⟨rfl, q1, q2, q3⟩; exact ⟨rfl, q1, q2, Or.inr ⟨by omega, q3⟩⟩
    · have := Int.ediv_le_self (a := ((t - N 0).natAbs : Int) + v - 1) v (by omega); have := rn.1; omega
    · rw [show (((1 : Nat) : Int) - 1) * v = 0 by simp, spo_0]
  · refine J_ldc2 (-9223372036854775808) dX7_predictSlip_8 cX7_275 rfl ?_
    exact V_lret dX7_predictSlip_11 rfl ⟨Nat.zero_le _, Nat.zero_le _⟩ ⟨rfl, fr.rf, hE, Or.inl ⟨by omega, rfl⟩⟩
/-- a move that misses nothing and leaves the slip -/
def sfC (pt : Int) (m : Nat) (MK N : Nat → Int) (t v : Int) : Prop := mvF pt m MK t v 10000 N 3 = N 3 ∧ J (mvF pt m MK t v 10000 N 1 - N 5 * t / pt) = J (N 1 - N 5 * N 0 / pt)
set_option maxHeartbeats 4000000 in
set_option maxRecDepth 100000 in
theorem l7_is_30 {z : ZG} {d sz s m : Nat} {g0 : AH} {tn pt hn t v : Int} {TX MK N NF : Nat → Int} (rt : 0 ≤ tn ∧ tn ≤ 200) (rx : ∀ j : Nat, j < 200 → 0 ≤ TX j ∧ TX j ≤ 126) (rm : 0 ≤ (m : Int) ∧ (m : Int) ≤ 6) (rmk : ∀ j : Nat, j < 6 → 0 ≤ MK j ∧ MK j ≤ 9999) (rp : 8 ≤ pt ∧ pt ≤ 80) (rh : 0 ≤ hn ∧ hn ≤ 6) (rn : rok N) (ht : 0 ≤ t ∧ t ≤ 9999) (hv : 1 ≤ v ∧ v ≤ 99) : ∀ (fu n fm : Nat) (S : Nat → Int) (h : AH), 1 ≤ n → (n : Int) ≤ (((t - N 0).natAbs : Int) + v - 1) / v + 1 → (((t - N 0).natAbs : Int) + v - 1) / v + 1 - n < fu → S 0 = spo (N 0) t (((n : Int) - 1) * v) → (S 0 - t).natAbs ≤ fm → fr g0 h 0 114 → mvF pt m MK t v fm S = NF → (∀ j : Nat, 5 ≤ j → j < 17 → S j = N j) → rok S → EN h s tn TX (m : Int) MK pt hn N → h 99 = some (.inl (0, [.int (I (S 2)), .long (J (S 1)), .int (I (S 3))])) →  S 3 = N 3 → V z YX7_isSafe (zroom (d + 5) 0 0) (fun w h' sz' => sz' = sz ∧ fr g0 h' 0 114 ∧ EN h' s tn TX (m : Int) MK pt hn N ∧ ∃ q : Int, w = some (.int (I q)) ∧ ((q = 1 ∧ NF 3 = N 3 ∧ J (NF 1 - N 5 * t / pt) = J (N 1 - N 5 * N 0 / pt)) ∨ (q = 0 ∧ ¬ (NF 3 = N 3 ∧ J (NF 1 - N 5 * t / pt) = J (N 1 - N 5 * N 0 / pt))))) 30 [some (.ref 0), some (.int (I t)), some (.int (I v)), some (.int (I ((((t - N 0).natAbs : Int) + v - 1) / v))), some (.int (I (n : Int)))] [] h sz 0 0 := by
  intro fu
  induction fu with
  | zero => intro n fm S h h1 h1b h2; omega
  | succ fu ih =>
    intro n fm S h h1 h1b h2 h0 hfm hF hNF hsm hrS hE h99 h3
    have hcr : 0 ≤ (((t - N 0).natAbs : Int) + v - 1) / v ∧ (((t - N 0).natAbs : Int) + v - 1) / v ≤ 10098 := ⟨Int.ediv_nonneg (by omega) (by omega), by have := Int.ediv_le_self (a := ((t - N 0).natAbs : Int) + v - 1) v (by omega); have := rn.1; omega⟩
    have hend : ¬ (n : Int) ≤ (((t - N 0).natAbs : Int) + v - 1) / v → S 0 = t := fun q => by rw [h0]; exact spo_end (Int.not_lt.mp (fun w => q ((cnt_le (D := ((t - N 0).natAbs : Int)) hv.1).mpr w)))
    have hct := cnt_rg (N := N) rn.2.2.1 ht rp
    have hcn := cnt_rg (N := N) rn.2.2.1 rn.1 rp
    refine V_iload dX7_isSafe_30 rfl ?_
    refine V_iload_n dX7_isSafe_32 rfl ?_
    refine J_icmp_gt (tgt := 70) dX7_isSafe_33 (by decide) (by omega) (by omega) (fun c33 => ?_) (fun c33 => ?_)
    · refine V_aload_n dX7_isSafe_70 rfl ?_
      refine V_get dX7_isSafe_71 fX7_38 hE.1 rfl ?_
      refine V_getN dX7_isSafe_74 fX7_158 h99 rfl ?_
      refine V_aload_n dX7_isSafe_77 rfl ?_
      refine V_iload_n dX7_isSafe_78 rfl ?_
      refine V_callV (Y' := YX7_countAt) dX7_isSafe_79 lX7_155 gX7_countAt (m7_countAt hE ⟨rt, rx, rm, rmk, rp, rh, rn⟩ ht) hE.1 rfl rfl rfl (Nat.le_of_ble_eq_true rfl) ⟨Nat.zero_le _, Nat.zero_le _⟩ (fun v h1 sz1 hq => ?_)
      obtain ⟨rfl, rfl, rfl⟩ := hq
      refine J_i2l dX7_isSafe_82 (by omega) ?_
      refine J_lsub dX7_isSafe_83 ?_
      refine V_aload_n dX7_isSafe_84 rfl ?_
      refine V_get dX7_isSafe_85 fX7_45 hE.1 rfl ?_
      refine V_getN dX7_isSafe_88 fX7_129 hE.n.1 rfl ?_
      refine V_getN dX7_isSafe_91 fX7_158 hE.n.2.1 rfl ?_
      refine V_aload_n dX7_isSafe_94 rfl ?_
      refine V_aload_n dX7_isSafe_95 rfl ?_
      refine V_get dX7_isSafe_96 fX7_45 hE.1 rfl ?_
      refine V_getN dX7_isSafe_99 fX7_135 hE.n.1 rfl ?_
      refine V_callV (Y' := YX7_countAt) dX7_isSafe_102 lX7_155 gX7_countAt (m7_countAt hE ⟨rt, rx, rm, rmk, rp, rh, rn⟩ rn.1) hE.1 rfl rfl rfl (Nat.le_of_ble_eq_true rfl) ⟨Nat.zero_le _, Nat.zero_le _⟩ (fun v h1 sz1 hq => ?_)
      obtain ⟨rfl, rfl, rfl⟩ := hq
      refine J_i2l dX7_isSafe_105 (by omega) ?_
      refine J_lsub dX7_isSafe_106 ?_
      refine V_lcmp_ne (tgt := 115) dX7_isSafe_107 dX7_isSafe_108 (by decide) (fun c107 => ?_) (fun c107 => ?_)
      · refine J_iconst dX7_isSafe_115 ?_
        exact V_iret dX7_isSafe_116 rfl rfl ⟨Nat.zero_le _, Nat.zero_le _⟩ ⟨rfl, hF, hE, 0, rfl, Or.inr ⟨rfl, fun w => c107 (by rw [(show S = NF by rw [← hNF, mvF_end (hend (by omega))])]; exact w.2)⟩⟩
      · refine J_iconst dX7_isSafe_111 ?_
        refine V_goto (tgt := 116) dX7_isSafe_112 (by decide) ?_
        exact V_iret dX7_isSafe_116 rfl rfl ⟨Nat.zero_le _, Nat.zero_le _⟩ ⟨rfl, hF, hE, 1, rfl, Or.inl ⟨rfl, by rw [← (show S = NF by rw [← hNF, mvF_end (hend (by omega))])]; exact h3, by rw [← (show S = NF by rw [← hNF, mvF_end (hend (by omega))])]; exact c107⟩⟩
    · have hg2 : (n : Int) * v = ((n : Int) - 1) * v + v := by rw [Int.sub_mul, Int.one_mul]; omega
      have hlt := (cnt_le (D := ((t - N 0).natAbs : Int)) (n := (n : Int)) hv.1).mp (by omega)
      have hg0 : 0 ≤ ((n : Int) - 1) * v := Int.mul_nonneg (by omega) (by omega)
      have hsn := spo_nx hv.1 hg0 hlt
      have hsr := spo_rg (g := (n : Int) * v) rn.1 ht (by omega)
      refine V_aload_n dX7_isSafe_36 rfl ?_
      refine V_aload_n dX7_isSafe_37 rfl ?_
      refine V_get dX7_isSafe_38 fX7_38 hE.1 rfl ?_
      refine V_aload_n dX7_isSafe_41 rfl ?_
      refine V_get dX7_isSafe_42 fX7_45 hE.1 rfl ?_
      refine V_getN dX7_isSafe_45 fX7_135 hE.n.1 rfl ?_
      refine V_iload_n dX7_isSafe_48 rfl ?_
      refine V_iload dX7_isSafe_49 rfl ?_
      refine V_iload_n dX7_isSafe_51 rfl ?_
      refine J_imul dX7_isSafe_52 ?_
      refine V_callS (Y' := YX7_samplePosition) dX7_isSafe_53 lX7_142 gX7_samplePosition (m7_samplePosition rn.1 ht (by have := rn.1; omega)) rfl rfl (Nat.le_of_ble_eq_true rfl) ⟨Nat.zero_le _, Nat.zero_le _⟩ (fun v h1 sz1 hq => ?_)
      obtain ⟨rfl, rfl, rfl⟩ := hq
      refine V_callV (Y' := YX7_readSample) dX7_isSafe_56 lX7_238 gX7_readSample (m7_readSample hE ⟨rt, rx, rm, rmk, rp, rh, rn⟩ hsr hrS.2.1 h99) hE.1 rfl rfl rfl (Nat.le_of_ble_eq_true rfl) ⟨Nat.zero_le _, Nat.zero_le _⟩ (fun v h1 sz1 hq => ?_)
      obtain ⟨rfl, tq, rfl, htq⟩ := hq
      have hp0 : 0 < pt := by omega
      have hS2 : smp pt m MK S (S 0) (spo (N 0) t ((n : Int) * v)) 0 = spo (N 0) t ((n : Int) * v) := rfl
      have hR2 : h1 99 = some (.inl (0, [.int (I (smp pt m MK S (S 0) (spo (N 0) t ((n : Int) * v)) 2)), .long (J (smp pt m MK S (S 0) (spo (N 0) t ((n : Int) * v)) 1)), .int (I (smp pt m MK S (S 0) (spo (N 0) t ((n : Int) * v)) 3))])) ∧ fr g0 h1 0 114 ∧ EN h1 s tn TX (m : Int) MK pt hn N ∧ (tq = 1 ∨ tq = 0) ∧ (tq = 1 → smp pt m MK S (S 0) (spo (N 0) t ((n : Int) * v)) 3 = S 3 + 1) ∧ (tq = 0 → smp pt m MK S (S 0) (spo (N 0) t ((n : Int) * v)) 3 = S 3) := by
        rcases htq with ⟨hdr, rfl, rfl⟩ | ⟨hdr, hob, htq⟩
        · have hdr := (drt_same hsm (rok8 rn)).mpr hdr
          rw [smp_lod (by omega) (by omega) hdr, smp_lod (by omega) (by omega) hdr, smp_lod (by omega) (by omega) hdr]
          exact ⟨h99, hF, hE, Or.inr rfl, fun q => absurd q (by decide), fun _ => rfl⟩
        · have hdr : ¬ drt S (S 8).toNat (spo (N 0) t ((n : Int) * v)) := fun w => hdr ((drt_same hsm (rok8 rn)).mp w)
          rw [smp_loc hp0 hrS (by omega) (by omega) hdr, smp_loc hp0 hrS (by omega) (by omega) hdr, smp_loc hp0 hrS (by omega) (by omega) hdr]
          have e5 : S 5 = N 5 := hsm 5 (by omega) (by omega)
          refine ⟨?_, hF.then (hob.fr.up (by omega)), hE.setR hob.fr ⟨_, _, _, quad_rg hp0, hob.1⟩, by omega, fun q => ?_, fun q => ?_⟩
          · rw [← e5] at hob; exact hob.1
          · show (if (quad pt (spo (N 0) t ((n : Int) * v)) - S 2 + 4) % 4 = 2 then S 3 + 1 else S 3) = _; rw [if_pos (by omega)]
          · show (if (quad pt (spo (N 0) t ((n : Int) * v)) - S 2 + 4) % 4 = 2 then S 3 + 1 else S 3) = _; rw [if_neg (by omega)]
      obtain ⟨h99b, hF, hE, hta, htb, htc⟩ := hR2
      refine J_if_eq (tgt := 64) dX7_isSafe_59 (by decide) (by omega) (fun c59 => ?_) (fun c59 => ?_)
      · refine J_iinc dX7_isSafe_64 rfl ?_
        refine V_goto (tgt := 30) dX7_isSafe_67 (by decide) ?_
        rw [show ((n : Int) + 1) = ((n + 1 : Nat) : Int) by omega]
        cases fm with
        | zero => exact absurd (show spo (N 0) t (((n : Int) - 1) * v) = t by rw [← h0]; omega) hsn.2
        | succ fm =>
          have hNF2 := hNF
          rw [mvF_s, if_neg (by rw [h0]; exact hsn.2), h0, hsn.1, ← hg2, ← h0] at hNF2
          refine ih (n + 1) fm _ _ (by omega) (by omega) (by omega) ?_ ?_ hF hNF2 ?_ (rok_smp hp0 hsr hrS) hE h99b (by have := htc (by omega); omega)
          · show spo (N 0) t ((n : Int) * v) = _; congr 1; rw [show ((n + 1 : Nat) : Int) - 1 = (n : Int) by omega]
          · show (spo (N 0) t ((n : Int) * v) - t).natAbs ≤ fm; have := (nxt_rg (t := t) (v := v) (a := S 0) hrS.1 ht hv.1 (by rw [h0]; exact hsn.2)).2; rw [h0, hsn.1, ← hg2] at this; rw [h0] at hfm; omega
          · intro j j1 j2; rw [smp_same hp0 hrS ⟨j1, j2⟩]; exact hsm j j1 j2
      · have mvstep : S 3 + 1 ≤ NF 3 := by
          cases fm with
          | zero => exact absurd (show spo (N 0) t (((n : Int) - 1) * v) = t by rw [← h0]; omega) hsn.2
          | succ fm =>
            have hNF2 := hNF
            rw [mvF_s, if_neg (by rw [h0]; exact hsn.2), h0, hsn.1, ← hg2, ← h0] at hNF2
            have a := mvF_3 (m := m) (MK := MK) hp0 ht hv.1 fm _ (rok_smp (mk := m) (MA := MK) (a := S 0) hp0 hsr hrS)
            rw [hNF2] at a
            have b := htb (by omega)
            omega
        refine J_iconst dX7_isSafe_62 ?_
        exact V_iret dX7_isSafe_63 rfl rfl ⟨Nat.zero_le _, Nat.zero_le _⟩ ⟨rfl, hF, hE, 0, rfl, Or.inr ⟨rfl, fun w => by have a := w.1; have b := htb (by omega); have c := mvstep; omega⟩⟩
set_option maxHeartbeats 4000000 in
set_option maxRecDepth 100000 in
theorem m7_isSafe {z : ZG} {d sz s : Nat} {h : AH} {m : Nat} {tn pt hn : Int} {TX MK N : Nat → Int} (hE : EN h s tn TX (m : Int) MK pt hn N) (hR : ER tn TX (m : Int) MK pt hn N) {t v : Int} (ht : 0 ≤ t ∧ t ≤ 9999) (hv : 1 ≤ v ∧ v ≤ 99) : M z YX7_isSafe (d + 5) 0 0 [.ref 0, .int (I t), .int (I v)] h sz (fun w h' sz' => sz' = sz ∧ fr h h' 0 114 ∧ EN h' s tn TX (m : Int) MK pt hn N ∧ ∃ q : Int, w = some (.int (I q)) ∧ ((q = 1 ∧ sfC pt m MK N t v) ∨ (q = 0 ∧ ¬ sfC pt m MK N t v))) := by
  refine M.of (by decide +kernel) (Nat.le_of_ble_eq_true rfl) ?_
  obtain ⟨rt, rx, rm, rmk, rp, rh, rn⟩ := hR
  obtain ⟨q0, c0, m0, hq0, h99⟩ := hE.tr
  refine V_aload_n dX7_isSafe_0 rfl ?_
  refine V_get dX7_isSafe_1 fX7_38 hE.1 rfl ?_
  refine V_aload_n dX7_isSafe_4 rfl ?_
  refine V_get dX7_isSafe_5 fX7_45 hE.1 rfl ?_
  refine V_getN dX7_isSafe_8 fX7_129 hE.n.1 rfl ?_
  refine V_callV (Y' := YX0_copyFrom) dX7_isSafe_11 lX7_280 gX0_copyFrom (m0_copyFrom (by have := hE.sb.2.1; have := hE.sb.1; omega) h99 hE.n.2.1) h99 rfl rfl rfl (Nat.le_of_ble_eq_true rfl) ⟨Nat.zero_le _, Nat.zero_le _⟩ (fun v h1 sz1 hq => ?_)
  obtain ⟨rfl, rfl, hob⟩ := hq
  have hE := hE.setR hob.fr ⟨_, _, _, rn.2.1, hob.1⟩
  have hF := hob.fr.up (show 100 ≤ 114 by omega)
  refine V_aload_n dX7_isSafe_14 rfl ?_
  refine V_get dX7_isSafe_15 fX7_45 hE.1 rfl ?_
  refine V_getN dX7_isSafe_18 fX7_135 hE.n.1 rfl ?_
  refine V_iload_n dX7_isSafe_21 rfl ?_
  refine V_iload_n dX7_isSafe_22 rfl ?_
  refine V_callS (Y' := YX7_sampleCount) dX7_isSafe_23 lX7_138 gX7_sampleCount (m7_sampleCount rn.1 (by omega) (by omega)) rfl rfl (Nat.le_of_ble_eq_true rfl) ⟨Nat.zero_le _, Nat.zero_le _⟩ (fun v h1 sz1 hq => ?_)
  obtain ⟨rfl, rfl, rfl⟩ := hq
  refine V_istore_n dX7_isSafe_26 (Nat.le_of_ble_eq_true rfl) ?_
  refine J_iconst dX7_isSafe_27 ?_
  refine V_istore dX7_isSafe_28 (Nat.le_of_ble_eq_true rfl) ?_
  refine V_mono ?_ (l7_is_30 rt rx rm rmk rp rh rn (by omega) (by omega) 20000 1 10000 N _ (by omega) (by have : 0 ≤ (((t - N 0).natAbs : Int) + v - 1) / v := Int.ediv_nonneg (by omega) (by omega); omega) ?_ ?_ (by have := rn.1; omega) hF rfl (fun _ _ _ => rfl) rn hE hob.1 rfl)
  · rintro w h9 sz9 q; exact q
  · have := Int.ediv_le_self (a := ((t - N 0).natAbs : Int) + v - 1) v (by omega); have := rn.1; omega
  · rw [show (((1 : Nat) : Int) - 1) * v = 0 by simp, spo_0]
def fsC (pt : Int) (m : Nat) (MK N : Nat → Int) (t res : Int) : Prop := ((1 ≤ res ∧ res ≤ 99) ∧ sfC pt m MK N t res ∧ ∀ v : Int, res < v → v ≤ 99 → ¬ sfC pt m MK N t v) ∨ (res = -4 ∧ ∀ v : Int, 1 ≤ v → v ≤ 99 → ¬ sfC pt m MK N t v)
set_option maxHeartbeats 4000000 in
set_option maxRecDepth 100000 in
theorem l7_fs_12 {z : ZG} {d sz s m : Nat} {g0 : AH} {tn pt hn t : Int} {TX MK N : Nat → Int} (rt : 0 ≤ tn ∧ tn ≤ 200) (rx : ∀ j : Nat, j < 200 → 0 ≤ TX j ∧ TX j ≤ 126) (rm : 0 ≤ (m : Int) ∧ (m : Int) ≤ 6) (rmk : ∀ j : Nat, j < 6 → 0 ≤ MK j ∧ MK j ≤ 9999) (rp : 8 ≤ pt ∧ pt ≤ 80) (rh : 0 ≤ hn ∧ hn ≤ 6) (rn : rok N) (ht : 0 ≤ t ∧ t ≤ 9999) : ∀ (fu : Nat) (v : Int) (h : AH), 0 ≤ v → v ≤ 99 → v < fu → (∀ q : Int, v < q → q ≤ 99 → ¬ sfC pt m MK N t q) → fr g0 h 0 114 → EN h s tn TX (m : Int) MK pt hn N → V z YX7_fastestSafeSpeed (zroom (d + 6) 0 0) (fun w h' sz' => sz' = sz ∧ fr g0 h' 0 114 ∧ EN h' s tn TX (m : Int) MK pt hn N ∧ ∃ res : Int, w = some (.int (I res)) ∧ fsC pt m MK N t res) 12 [some (.ref 0), some (.int (I t)), some (.int (I v))] [] h sz 0 0 := by
  intro fu
  induction fu with
  | zero => intro v h h1 h2 h3; omega
  | succ fu ih =>
    intro v h h1 h2 h3 hz hF hE
    refine V_iload_n dX7_fastestSafeSpeed_12 rfl ?_
    refine J_iconst dX7_fastestSafeSpeed_13 ?_
    refine J_icmp_lt (tgt := 34) dX7_fastestSafeSpeed_14 (by decide) (by omega) (by omega) (fun c14 => ?_) (fun c14 => ?_)
    · refine J_bipush dX7_fastestSafeSpeed_34 (by decide) ?_
      exact V_iret dX7_fastestSafeSpeed_36 rfl rfl ⟨Nat.zero_le _, Nat.zero_le _⟩ ⟨rfl, hF, hE, _, rfl, Or.inr ⟨rfl, fun q q1 q2 => hz q (by omega) q2⟩⟩
    · refine V_aload_n dX7_fastestSafeSpeed_17 rfl ?_
      refine V_iload_n dX7_fastestSafeSpeed_18 rfl ?_
      refine V_iload_n dX7_fastestSafeSpeed_19 rfl ?_
      refine V_callV (Y' := YX7_isSafe) dX7_fastestSafeSpeed_20 lX7_283 gX7_isSafe (m7_isSafe hE ⟨rt, rx, rm, rmk, rp, rh, rn⟩ ht (by omega)) hE.1 rfl rfl rfl (Nat.le_of_ble_eq_true rfl) ⟨Nat.zero_le _, Nat.zero_le _⟩ (fun v h1 sz1 hq => ?_)
      obtain ⟨rfl, hf2, hE, tq, rfl, htq⟩ := hq
      have hF := hF.then hf2
      have hta : tq = 1 ∨ tq = 0 := htq.elim (fun q => Or.inl q.1) (fun q => Or.inr q.1)
      have htb : ¬ tq = 0 → sfC pt m MK N t v := fun e => htq.elim (fun q => q.2) (fun q => absurd q.1 e)
      have htc : tq = 0 → ¬ sfC pt m MK N t v := fun e => htq.elim (fun q => absurd (q.1.symm.trans e) (by decide)) (fun q => q.2)
      clear htq
      refine J_if_eq (tgt := 28) dX7_fastestSafeSpeed_23 (by decide) (by omega) (fun c23 => ?_) (fun c23 => ?_)
      · refine J_iinc dX7_fastestSafeSpeed_28 rfl ?_
        refine V_goto (tgt := 12) dX7_fastestSafeSpeed_31 (by decide) ?_
        refine ih (v + -1) _ (by omega) (by omega) (by omega) (fun q q1 q2 => ?_) hF hE
        by_cases e : q = v
        · rw [e]; exact htc c23
        · exact hz q (by omega) q2
      · refine V_iload_n dX7_fastestSafeSpeed_26 rfl ?_
        exact V_iret dX7_fastestSafeSpeed_27 rfl rfl ⟨Nat.zero_le _, Nat.zero_le _⟩ ⟨rfl, hF, hE, _, rfl, Or.inl ⟨by omega, htb c23, hz⟩⟩
set_option maxHeartbeats 4000000 in
set_option maxRecDepth 100000 in
theorem m7_fastestSafeSpeed {z : ZG} {d sz s : Nat} {h : AH} {m : Nat} {tn pt hn : Int} {TX MK N : Nat → Int} (hE : EN h s tn TX (m : Int) MK pt hn N) (hR : ER tn TX (m : Int) MK pt hn N) {t : Int} (hvt : -2147483648 ≤ t ∧ t < 2147483648) : M z YX7_fastestSafeSpeed (d + 6) 0 0 [.ref 0, .int (I t)] h sz (fun w h' sz' => sz' = sz ∧ fr h h' 0 114 ∧ EN h' s tn TX (m : Int) MK pt hn N ∧ ∃ res : Int, w = some (.int (I res)) ∧ ((¬ (0 ≤ t ∧ t ≤ 9999) ∧ res = -1) ∨ ((0 ≤ t ∧ t ≤ 9999) ∧ fsC pt m MK N t res))) := by
  refine M.of (by decide +kernel) (Nat.le_of_ble_eq_true rfl) ?_
  obtain ⟨rt, rx, rm, rmk, rp, rh, rn⟩ := hR
  refine V_iload_n dX7_fastestSafeSpeed_0 rfl ?_
  refine V_callS (Y' := YX7_isPosition) dX7_fastestSafeSpeed_1 lX7_264 gX7_isPosition (m7_isPosition hvt) rfl rfl (Nat.le_of_ble_eq_true rfl) ⟨Nat.zero_le _, Nat.zero_le _⟩ (fun v h1 sz1 hq => ?_)
  obtain ⟨t1, rfl, ht1, rfl, rfl⟩ := hq
  refine J_if_ne (tgt := 9) dX7_fastestSafeSpeed_4 (by decide) (by omega) (fun c4 => ?_) (fun c4 => ?_)
  · refine J_bipush dX7_fastestSafeSpeed_9 (by decide) ?_
    refine V_istore_n dX7_fastestSafeSpeed_11 (Nat.le_of_ble_eq_true rfl) ?_
    refine V_mono ?_ (l7_fs_12 rt rx rm rmk rp rh rn (by omega) 100 99 _ (by omega) (by omega) (by omega) (fun q q1 q2 => by omega) fr.rf hE)
    rintro w h9 sz9 ⟨rfl, q1, q2, res, q3, q4⟩; exact ⟨rfl, q1, q2, res, q3, Or.inr ⟨by omega, q4⟩⟩
  · refine J_iconst dX7_fastestSafeSpeed_7 ?_
    exact V_iret dX7_fastestSafeSpeed_8 rfl rfl ⟨Nat.zero_le _, Nat.zero_le _⟩ ⟨rfl, fr.rf, hE, _, rfl, Or.inl ⟨by omega, rfl⟩⟩
