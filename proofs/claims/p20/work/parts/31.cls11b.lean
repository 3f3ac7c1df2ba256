set_option maxHeartbeats 4000000 in
set_option maxRecDepth 100000 in
theorem m7_readSample {z : ZG} {d sz s : Nat} {h : AH} {tn mn pt hn : Int} {TX MK N : Nat → Int} (hE : EN h s tn TX mn MK pt hn N) (hR : ER tn TX mn MK pt hn N) {D : Nat} {q c ms x : Int} (hx : 0 ≤ x ∧ x ≤ 9999) (hq0 : 0 ≤ q ∧ q ≤ 3) (hD : h D = some (.inl (0, [.int (I q), .long (J c), .int (I ms)]))) : M z YX7_readSample (d + 4) 0 0 [.ref 0, .ref D, .int (I x)] h sz (fun w h' sz' => sz' = sz ∧ ∃ t : Int, w = some (.int (I t)) ∧ ((drt N (N 8).toNat x ∧ t = 0 ∧ h' = h) ∨ (¬ drt N (N 8).toNat x ∧ OB h D 0 [.int (I (quad pt x)), .long (J (dcC (N 5) q c (quad pt x))), .int (I (if (quad pt x - q + 4) % 4 = 2 then ms + 1 else ms))] h' ∧ ((t = 1 ∧ (quad pt x - q + 4) % 4 = 2) ∨ (t = 0 ∧ ¬ (quad pt x - q + 4) % 4 = 2))))) := by
  refine M.of (by decide +kernel) (Nat.le_of_ble_eq_true rfl) ?_
  obtain ⟨rt, rx, rm, rmk, rp, rh, rn⟩ := hR
  have h8 := rok8 rn
  refine V_aload_n dX7_readSample_0 rfl ?_
  refine V_get dX7_readSample_1 fX7_45 hE.1 rfl ?_
  refine V_getN dX7_readSample_4 fX7_181 hE.n.1 rfl ?_
  refine V_iload_n dX7_readSample_7 rfl ?_
  refine V_callV (Y' := YX1_covers) dX7_readSample_8 lX7_251 gX1_covers (m1_covers h8 hE.n.2.2.2 (by omega) (fun k hk => rn.2.2.2.2.2.2.2.1 k (by omega))) hE.n.2.2.2.1 rfl rfl rfl (Nat.le_of_ble_eq_true rfl) ⟨Nat.zero_le _, Nat.zero_le _⟩ (fun v h1 sz1 hq => ?_)
  obtain ⟨t8, rfl, ht8, rfl, rfl⟩ := hq
  rw [cov_drt] at ht8
  have hta : t8 = 1 ∨ t8 = 0 := ht8.elim (fun q => Or.inl q.1) (fun q => Or.inr q.1)
  have htb : ¬ t8 = 0 → drt N (N 8).toNat x := fun e => ht8.elim (fun q => q.2) (fun q => absurd q.1 e)
  have htc : t8 = 0 → ¬ drt N (N 8).toNat x := fun e => ht8.elim (fun q => absurd (q.1.symm.trans e) (by decide)) (fun q => q.2)
  clear ht8
  refine J_if_ne (tgt := 37) dX7_readSample_11 (by decide) (by omega) (fun c11 => ?_) (fun c11 => ?_)
  · refine J_iconst dX7_readSample_37 ?_
    exact V_iret dX7_readSample_38 rfl rfl ⟨Nat.zero_le _, Nat.zero_le _⟩ ⟨rfl, _, rfl, Or.inl ⟨htb c11, rfl, rfl⟩⟩
  · refine V_aload_n dX7_readSample_14 rfl ?_
    refine V_aload_n dX7_readSample_15 rfl ?_
    refine V_iload_n dX7_readSample_16 rfl ?_
    refine V_callV (Y' := YX7_quadrantAt) dX7_readSample_17 lX7_254 gX7_quadrantAt (m7_quadrantAt hE ⟨rt, rx, rm, rmk, rp, rh, rn⟩ hx) hE.1 rfl rfl rfl (Nat.le_of_ble_eq_true rfl) ⟨Nat.zero_le _, Nat.zero_le _⟩ (fun v h1 sz1 hq => ?_)
    obtain ⟨rfl, rfl, rfl⟩ := hq
    refine V_aload_n dX7_readSample_20 rfl ?_
    refine V_get dX7_readSample_21 fX7_45 hE.1 rfl ?_
    refine V_getN dX7_readSample_24 fX7_152 hE.n.1 rfl ?_
    refine V_callV (Y' := YX0_read) dX7_readSample_27 lX7_257 gX0_read (m0_read hq0 (quad_rg (by omega)) (by have := rn.2.2.1; omega) hD) hD rfl rfl rfl (Nat.le_of_ble_eq_true rfl) ⟨Nat.zero_le _, Nat.zero_le _⟩ (fun v h1 sz1 hq => ?_)
    obtain ⟨⟨t27, rfl, ht27⟩, rfl, hob⟩ := hq
    refine J_if_eq (tgt := 37) dX7_readSample_30 (by decide) (by omega) (fun c30 => ?_) (fun c30 => ?_)
    · refine J_iconst dX7_readSample_37 ?_
      exact V_iret dX7_readSample_38 rfl rfl ⟨Nat.zero_le _, Nat.zero_le _⟩ ⟨rfl, _, rfl, Or.inr ⟨htc c11, hob, by omega⟩⟩
    · refine J_iconst dX7_readSample_33 ?_
      refine V_goto (tgt := 38) dX7_readSample_34 (by decide) ?_
      exact V_iret dX7_readSample_38 rfl rfl ⟨Nat.zero_le _, Nat.zero_le _⟩ ⟨rfl, _, rfl, Or.inr ⟨htc c11, hob, by omega⟩⟩
set_option maxHeartbeats 4000000 in
set_option maxRecDepth 100000 in
theorem l7_lp1 {z : ZG} {d sz s m : Nat} {g0 : AH} {tn pt hn a b : Int} {TX MK N0 : Nat → Int} (rt : 0 ≤ tn ∧ tn ≤ 200) (rm : 0 ≤ (m : Int) ∧ (m : Int) ≤ 6) (rmk : ∀ j : Nat, j < 6 → 0 ≤ MK j ∧ MK j ≤ 9999) (hab : a < b) (ha : 0 ≤ a ∧ a ≤ 9999) (hb : 0 ≤ b ∧ b ≤ 9999) : ∀ (fu i : Nat) (h : AH) (o6 o7 : Option Value), i ≤ m → m - i < fu → fr g0 h 0 114 → EN h s tn TX (m : Int) MK pt hn (mkL MK m a b N0 i) → rok (mkL MK m a b N0 i) → V z YX7_logPassedMarks (zroom (d + 3) 0 0) (fun w h' sz' => w = none ∧ sz' = sz ∧ fr g0 h' 0 114 ∧ EN h' s tn TX (m : Int) MK pt hn (mkL MK m a b N0 m)) 23 [some (.ref 0), some (.int (I a)), some (.int (I b)), some (.int (I 1)), some (.int (I (m : Int))), some (.int (I (i : Int))), o6, o7] [] h sz 0 0 := by
  intro fu
  induction fu with
  | zero => intro i h o6 o7 h1 h2; omega
  | succ fu ih =>
    intro i h o6 o7 h1 h2 hF hE rn
    refine V_iload dX7_logPassedMarks_23 rfl ?_
    refine V_iload dX7_logPassedMarks_25 rfl ?_
    refine J_icmp_ge (tgt := 131) dX7_logPassedMarks_27 (by decide) (by omega) (by omega) (fun c27 => ?_) (fun c27 => ?_)
    · exact V_ret dX7_logPassedMarks_131 rfl ⟨Nat.zero_le _, Nat.zero_le _⟩ ⟨rfl, rfl, hF, (show i = m by omega) ▸ hE⟩
    · refine V_aload_n dX7_logPassedMarks_30 rfl ?_
      refine V_get dX7_logPassedMarks_31 fX7_25 hE.1 rfl ?_
      refine V_iload_n dX7_logPassedMarks_34 rfl ?_
      refine J_if_eq (tgt := 43) dX7_logPassedMarks_35 (by decide) (by omega) (fun c => absurd c (by decide)) (fun c35 => ?_)
      refine V_iload dX7_logPassedMarks_38 rfl ?_
      refine V_goto (tgt := 50) dX7_logPassedMarks_40 (by decide) ?_
      refine V_callV (Y' := YX4_intAt) dX7_logPassedMarks_50 lX7_96 gX4_intAt (m4_intAt (by decide) rm hE.m (by omega)) hE.m.c rfl rfl rfl (Nat.le_of_ble_eq_true rfl) ⟨Nat.zero_le _, Nat.zero_le _⟩ (fun v h1 sz1 hq => ?_)
      obtain ⟨rfl, rfl, rfl⟩ := hq
      rw [show rat (m : Int) MK (i : Int) = mkA MK m a b i by unfold rat mkA; rw [if_pos (by omega)]; first | rw [if_pos (by omega), Int.toNat_natCast] | (rw [if_neg (by omega)]; congr 1; omega)]
      have hxr : 0 ≤ mkA MK m a b i ∧ mkA MK m a b i ≤ 9999 := by unfold mkA; split <;> exact rmk _ (by omega)
      refine V_istore dX7_logPassedMarks_53 (Nat.le_of_ble_eq_true rfl) ?_
      refine V_iload_n dX7_logPassedMarks_55 rfl ?_
      refine J_if_eq (tgt := 79) dX7_logPassedMarks_56 (by decide) (by omega) (fun c => absurd c (by decide)) (fun c56 => ?_)
      refine V_iload dX7_logPassedMarks_59 rfl ?_
      refine V_iload_n dX7_logPassedMarks_61 rfl ?_
      refine J_icmp_le (tgt := 75) dX7_logPassedMarks_62 (by decide) (by omega) (by omega) (fun c62 => ?_) (fun c62 => ?_)
      · refine J_iconst dX7_logPassedMarks_75 ?_
        refine V_goto (tgt := 96) dX7_logPassedMarks_76 (by decide) ?_
        refine V_istore dX7_logPassedMarks_96 (Nat.le_of_ble_eq_true rfl) ?_
        refine V_iload dX7_logPassedMarks_98 rfl ?_
        refine J_if_eq (tgt := 125) dX7_logPassedMarks_100 (by decide) (by omega) (fun c100 => ?_) (fun c100 => ?_)
        · refine J_iinc dX7_logPassedMarks_125 rfl ?_
          refine V_goto (tgt := 23) dX7_logPassedMarks_128 (by decide) ?_
          rw [show ((i : Int) + 1) = ((i + 1 : Nat) : Int) by omega]
          refine ih (i + 1) _ _ _ (by omega) (by omega) hF ?_ ?_
          · rw [mkL_s]; first | (rw [if_pos (by unfold pas; omega)]; exact hE) | (rw [if_neg (by unfold pas; omega)]; exact hE)
          · rw [mkL_s]; first | (rw [if_pos (by unfold pas; omega)]; exact rn) | (rw [if_neg (by unfold pas; omega)]; exact rn)
        · refine V_aload_n dX7_logPassedMarks_103 rfl ?_
          refine V_get dX7_logPassedMarks_104 fX7_45 hE.1 rfl ?_
          refine V_getN dX7_logPassedMarks_107 fX7_162 hE.n.1 rfl ?_
          refine J_iconst dX7_logPassedMarks_110 ?_
          refine V_iload_n dX7_logPassedMarks_111 rfl ?_
          refine V_aload_n dX7_logPassedMarks_112 rfl ?_
          refine V_get dX7_logPassedMarks_113 fX7_45 hE.1 rfl ?_
          refine V_getN dX7_logPassedMarks_116 fX7_129 hE.n.1 rfl ?_
          refine V_getN dX7_logPassedMarks_119 fX7_158 hE.n.2.1 rfl ?_
          refine V_callV (Y' := YX3_add) dX7_logPassedMarks_122 lX7_245 gX3_add (m3_add (by omega) (by omega) (rok17 rn) hE.n.2.2.1) hE.n.2.2.1.1 rfl rfl rfl (Nat.le_of_ble_eq_true rfl) ⟨Nat.zero_le _, Nat.zero_le _⟩ (fun v h1 sz1 hq => ?_)
          obtain ⟨rfl, rfl, hf, hg⟩ := hq
          have hF := hF.then (hf.up (by have := hE.sb.2.2; omega))
          have hE := hE.logAdd (rok17 rn) (rok8 rn).2 hf hg
          have rn := rok_lgE (kind := 0) (x := b) (by omega) rn
          refine J_iinc dX7_logPassedMarks_125 rfl ?_
          refine V_goto (tgt := 23) dX7_logPassedMarks_128 (by decide) ?_
          rw [show ((i : Int) + 1) = ((i + 1 : Nat) : Int) by omega]
          refine ih (i + 1) _ _ _ (by omega) (by omega) hF ?_ ?_
          · rw [mkL_s]; first | (rw [if_pos (by unfold pas; omega)]; exact hE) | (rw [if_neg (by unfold pas; omega)]; exact hE)
          · rw [mkL_s]; first | (rw [if_pos (by unfold pas; omega)]; exact rn) | (rw [if_neg (by unfold pas; omega)]; exact rn)
      · refine V_iload dX7_logPassedMarks_65 rfl ?_
        refine V_iload_n dX7_logPassedMarks_67 rfl ?_
        refine J_icmp_gt (tgt := 75) dX7_logPassedMarks_68 (by decide) (by omega) (by omega) (fun c68 => ?_) (fun c68 => ?_)
        · refine J_iconst dX7_logPassedMarks_75 ?_
          refine V_goto (tgt := 96) dX7_logPassedMarks_76 (by decide) ?_
          refine V_istore dX7_logPassedMarks_96 (Nat.le_of_ble_eq_true rfl) ?_
          refine V_iload dX7_logPassedMarks_98 rfl ?_
          refine J_if_eq (tgt := 125) dX7_logPassedMarks_100 (by decide) (by omega) (fun c100 => ?_) (fun c100 => ?_)
          · refine J_iinc dX7_logPassedMarks_125 rfl ?_
            refine V_goto (tgt := 23) dX7_logPassedMarks_128 (by decide) ?_
            rw [show ((i : Int) + 1) = ((i + 1 : Nat) : Int) by omega]
            refine ih (i + 1) _ _ _ (by omega) (by omega) hF ?_ ?_
            · rw [mkL_s]; first | (rw [if_pos (by unfold pas; omega)]; exact hE) | (rw [if_neg (by unfold pas; omega)]; exact hE)
            · rw [mkL_s]; first | (rw [if_pos (by unfold pas; omega)]; exact rn) | (rw [if_neg (by unfold pas; omega)]; exact rn)
          · refine V_aload_n dX7_logPassedMarks_103 rfl ?_
            refine V_get dX7_logPassedMarks_104 fX7_45 hE.1 rfl ?_
            refine V_getN dX7_logPassedMarks_107 fX7_162 hE.n.1 rfl ?_
            refine J_iconst dX7_logPassedMarks_110 ?_
            refine V_iload_n dX7_logPassedMarks_111 rfl ?_
            refine V_aload_n dX7_logPassedMarks_112 rfl ?_
            refine V_get dX7_logPassedMarks_113 fX7_45 hE.1 rfl ?_
            refine V_getN dX7_logPassedMarks_116 fX7_129 hE.n.1 rfl ?_
            refine V_getN dX7_logPassedMarks_119 fX7_158 hE.n.2.1 rfl ?_
            refine V_callV (Y' := YX3_add) dX7_logPassedMarks_122 lX7_245 gX3_add (m3_add (by omega) (by omega) (rok17 rn) hE.n.2.2.1) hE.n.2.2.1.1 rfl rfl rfl (Nat.le_of_ble_eq_true rfl) ⟨Nat.zero_le _, Nat.zero_le _⟩ (fun v h1 sz1 hq => ?_)
            obtain ⟨rfl, rfl, hf, hg⟩ := hq
            have hF := hF.then (hf.up (by have := hE.sb.2.2; omega))
            have hE := hE.logAdd (rok17 rn) (rok8 rn).2 hf hg
            have rn := rok_lgE (kind := 0) (x := b) (by omega) rn
            refine J_iinc dX7_logPassedMarks_125 rfl ?_
            refine V_goto (tgt := 23) dX7_logPassedMarks_128 (by decide) ?_
            rw [show ((i : Int) + 1) = ((i + 1 : Nat) : Int) by omega]
            refine ih (i + 1) _ _ _ (by omega) (by omega) hF ?_ ?_
            · rw [mkL_s]; first | (rw [if_pos (by unfold pas; omega)]; exact hE) | (rw [if_neg (by unfold pas; omega)]; exact hE)
            · rw [mkL_s]; first | (rw [if_pos (by unfold pas; omega)]; exact rn) | (rw [if_neg (by unfold pas; omega)]; exact rn)
        · refine J_iconst dX7_logPassedMarks_71 ?_
          refine V_goto (tgt := 96) dX7_logPassedMarks_72 (by decide) ?_
          refine V_istore dX7_logPassedMarks_96 (Nat.le_of_ble_eq_true rfl) ?_
          refine V_iload dX7_logPassedMarks_98 rfl ?_
          refine J_if_eq (tgt := 125) dX7_logPassedMarks_100 (by decide) (by omega) (fun c100 => ?_) (fun c100 => ?_)
          · refine J_iinc dX7_logPassedMarks_125 rfl ?_
            refine V_goto (tgt := 23) dX7_logPassedMarks_128 (by decide) ?_
            rw [show ((i : Int) + 1) = ((i + 1 : Nat) : Int) by omega]
            refine ih (i + 1) _ _ _ (by omega) (by omega) hF ?_ ?_
            · rw [mkL_s]; first | (rw [if_pos (by unfold pas; omega)]; exact hE) | (rw [if_neg (by unfold pas; omega)]; exact hE)
            · rw [mkL_s]; first | (rw [if_pos (by unfold pas; omega)]; exact rn) | (rw [if_neg (by unfold pas; omega)]; exact rn)
          · refine V_aload_n dX7_logPassedMarks_103 rfl ?_
            refine V_get dX7_logPassedMarks_104 fX7_45 hE.1 rfl ?_
            refine V_getN dX7_logPassedMarks_107 fX7_162 hE.n.1 rfl ?_
            refine J_iconst dX7_logPassedMarks_110 ?_
            refine V_iload_n dX7_logPassedMarks_111 rfl ?_
            refine V_aload_n dX7_logPassedMarks_112 rfl ?_
            refine V_get dX7_logPassedMarks_113 fX7_45 hE.1 rfl ?_
            refine V_getN dX7_logPassedMarks_116 fX7_129 hE.n.1 rfl ?_
            refine V_getN dX7_logPassedMarks_119 fX7_158 hE.n.2.1 rfl ?_
            refine V_callV (Y' := YX3_add) dX7_logPassedMarks_122 lX7_245 gX3_add (m3_add (by omega) (by omega) (rok17 rn) hE.n.2.2.1) hE.n.2.2.1.1 rfl rfl rfl (Nat.le_of_ble_eq_true rfl) ⟨Nat.zero_le _, Nat.zero_le _⟩ (fun v h1 sz1 hq => ?_)
            obtain ⟨rfl, rfl, hf, hg⟩ := hq
            have hF := hF.then (hf.up (by have := hE.sb.2.2; omega))
            have hE := hE.logAdd (rok17 rn) (rok8 rn).2 hf hg
            have rn := rok_lgE (kind := 0) (x := b) (by omega) rn
            refine J_iinc dX7_logPassedMarks_125 rfl ?_
            refine V_goto (tgt := 23) dX7_logPassedMarks_128 (by decide) ?_
            rw [show ((i : Int) + 1) = ((i + 1 : Nat) : Int) by omega]
            refine ih (i + 1) _ _ _ (by omega) (by omega) hF ?_ ?_
            · rw [mkL_s]; first | (rw [if_pos (by unfold pas; omega)]; exact hE) | (rw [if_neg (by unfold pas; omega)]; exact hE)
            · rw [mkL_s]; first | (rw [if_pos (by unfold pas; omega)]; exact rn) | (rw [if_neg (by unfold pas; omega)]; exact rn)
set_option maxHeartbeats 4000000 in
set_option maxRecDepth 100000 in
theorem l7_lp0 {z : ZG} {d sz s m : Nat} {g0 : AH} {tn pt hn a b : Int} {TX MK N0 : Nat → Int} (rt : 0 ≤ tn ∧ tn ≤ 200) (rm : 0 ≤ (m : Int) ∧ (m : Int) ≤ 6) (rmk : ∀ j : Nat, j < 6 → 0 ≤ MK j ∧ MK j ≤ 9999) (hab : ¬ a < b) (ha : 0 ≤ a ∧ a ≤ 9999) (hb : 0 ≤ b ∧ b ≤ 9999) : ∀ (fu i : Nat) (h : AH) (o6 o7 : Option Value), i ≤ m → m - i < fu → fr g0 h 0 114 → EN h s tn TX (m : Int) MK pt hn (mkL MK m a b N0 i) → rok (mkL MK m a b N0 i) → V z YX7_logPassedMarks (zroom (d + 3) 0 0) (fun w h' sz' => w = none ∧ sz' = sz ∧ fr g0 h' 0 114 ∧ EN h' s tn TX (m : Int) MK pt hn (mkL MK m a b N0 m)) 23 [some (.ref 0), some (.int (I a)), some (.int (I b)), some (.int (I 0)), some (.int (I (m : Int))), some (.int (I (i : Int))), o6, o7] [] h sz 0 0 := by
  intro fu
  induction fu with
  | zero => intro i h o6 o7 h1 h2; omega
  | succ fu ih =>
    intro i h o6 o7 h1 h2 hF hE rn
    refine V_iload dX7_logPassedMarks_23 rfl ?_
    refine V_iload dX7_logPassedMarks_25 rfl ?_
    refine J_icmp_ge (tgt := 131) dX7_logPassedMarks_27 (by decide) (by omega) (by omega) (fun c27 => ?_) (fun c27 => ?_)
    · exact V_ret dX7_logPassedMarks_131 rfl ⟨Nat.zero_le _, Nat.zero_le _⟩ ⟨rfl, rfl, hF, (show i = m by omega) ▸ hE⟩
    · refine V_aload_n dX7_logPassedMarks_30 rfl ?_
      refine V_get dX7_logPassedMarks_31 fX7_25 hE.1 rfl ?_
      refine V_iload_n dX7_logPassedMarks_34 rfl ?_
      refine J_if_eq (tgt := 43) dX7_logPassedMarks_35 (by decide) (by omega) (fun c35 => ?_) (fun c => absurd rfl c)
      refine V_iload dX7_logPassedMarks_43 rfl ?_
      refine J_iconst dX7_logPassedMarks_45 ?_
      refine J_isub dX7_logPassedMarks_46 ?_
      refine V_iload dX7_logPassedMarks_47 rfl ?_
      refine J_isub dX7_logPassedMarks_49 ?_
      refine V_callV (Y' := YX4_intAt) dX7_logPassedMarks_50 lX7_96 gX4_intAt (m4_intAt (by decide) rm hE.m (by omega)) hE.m.c rfl rfl rfl (Nat.le_of_ble_eq_true rfl) ⟨Nat.zero_le _, Nat.zero_le _⟩ (fun v h1 sz1 hq => ?_)
      obtain ⟨rfl, rfl, rfl⟩ := hq
      rw [show rat (m : Int) MK ((m : Int) - 1 - (i : Int)) = mkA MK m a b i by unfold rat mkA; rw [if_pos (by omega)]; first | rw [if_pos (by omega), Int.toNat_natCast] | (rw [if_neg (by omega)]; congr 1; omega)]
      have hxr : 0 ≤ mkA MK m a b i ∧ mkA MK m a b i ≤ 9999 := by unfold mkA; split <;> exact rmk _ (by omega)
      refine V_istore dX7_logPassedMarks_53 (Nat.le_of_ble_eq_true rfl) ?_
      refine V_iload_n dX7_logPassedMarks_55 rfl ?_
      refine J_if_eq (tgt := 79) dX7_logPassedMarks_56 (by decide) (by omega) (fun c56 => ?_) (fun c => absurd rfl c)
      refine V_iload dX7_logPassedMarks_79 rfl ?_
      refine V_iload_n dX7_logPassedMarks_81 rfl ?_
      refine J_icmp_ge (tgt := 95) dX7_logPassedMarks_82 (by decide) (by omega) (by omega) (fun c82 => ?_) (fun c82 => ?_)
      · refine J_iconst dX7_logPassedMarks_95 ?_
        refine V_istore dX7_logPassedMarks_96 (Nat.le_of_ble_eq_true rfl) ?_
        refine V_iload dX7_logPassedMarks_98 rfl ?_
        refine J_if_eq (tgt := 125) dX7_logPassedMarks_100 (by decide) (by omega) (fun c100 => ?_) (fun c100 => ?_)
        · refine J_iinc dX7_logPassedMarks_125 rfl ?_
          refine V_goto (tgt := 23) dX7_logPassedMarks_128 (by decide) ?_
          rw [show ((i : Int) + 1) = ((i + 1 : Nat) : Int) by omega]
          refine ih (i + 1) _ _ _ (by omega) (by omega) hF ?_ ?_
          · rw [mkL_s]; first | (rw [if_pos (by unfold pas; omega)]; exact hE) | (rw [if_neg (by unfold pas; omega)]; exact hE)
          · rw [mkL_s]; first | (rw [if_pos (by unfold pas; omega)]; exact rn) | (rw [if_neg (by unfold pas; omega)]; exact rn)
        · refine V_aload_n dX7_logPassedMarks_103 rfl ?_
          refine V_get dX7_logPassedMarks_104 fX7_45 hE.1 rfl ?_
          refine V_getN dX7_logPassedMarks_107 fX7_162 hE.n.1 rfl ?_
          refine J_iconst dX7_logPassedMarks_110 ?_
          refine V_iload_n dX7_logPassedMarks_111 rfl ?_
          refine V_aload_n dX7_logPassedMarks_112 rfl ?_
          refine V_get dX7_logPassedMarks_113 fX7_45 hE.1 rfl ?_
          refine V_getN dX7_logPassedMarks_116 fX7_129 hE.n.1 rfl ?_
          refine V_getN dX7_logPassedMarks_119 fX7_158 hE.n.2.1 rfl ?_
          refine V_callV (Y' := YX3_add) dX7_logPassedMarks_122 lX7_245 gX3_add (m3_add (by omega) (by omega) (rok17 rn) hE.n.2.2.1) hE.n.2.2.1.1 rfl rfl rfl (Nat.le_of_ble_eq_true rfl) ⟨Nat.zero_le _, Nat.zero_le _⟩ (fun v h1 sz1 hq => ?_)
          obtain ⟨rfl, rfl, hf, hg⟩ := hq
          have hF := hF.then (hf.up (by have := hE.sb.2.2; omega))
          have hE := hE.logAdd (rok17 rn) (rok8 rn).2 hf hg
          have rn := rok_lgE (kind := 0) (x := b) (by omega) rn
          refine J_iinc dX7_logPassedMarks_125 rfl ?_
          refine V_goto (tgt := 23) dX7_logPassedMarks_128 (by decide) ?_
          rw [show ((i : Int) + 1) = ((i + 1 : Nat) : Int) by omega]
          refine ih (i + 1) _ _ _ (by omega) (by omega) hF ?_ ?_
          · rw [mkL_s]; first | (rw [if_pos (by unfold pas; omega)]; exact hE) | (rw [if_neg (by unfold pas; omega)]; exact hE)
          · rw [mkL_s]; first | (rw [if_pos (by unfold pas; omega)]; exact rn) | (rw [if_neg (by unfold pas; omega)]; exact rn)
      · refine V_iload dX7_logPassedMarks_85 rfl ?_
        refine V_iload_n dX7_logPassedMarks_87 rfl ?_
        refine J_icmp_lt (tgt := 95) dX7_logPassedMarks_88 (by decide) (by omega) (by omega) (fun c88 => ?_) (fun c88 => ?_)
        · refine J_iconst dX7_logPassedMarks_95 ?_
          refine V_istore dX7_logPassedMarks_96 (Nat.le_of_ble_eq_true rfl) ?_
          refine V_iload dX7_logPassedMarks_98 rfl ?_
          refine J_if_eq (tgt := 125) dX7_logPassedMarks_100 (by decide) (by omega) (fun c100 => ?_) (fun c100 => ?_)
          · refine J_iinc dX7_logPassedMarks_125 rfl ?_
            refine V_goto (tgt := 23) dX7_logPassedMarks_128 (by decide) ?_
            rw [show ((i : Int) + 1) = ((i + 1 : Nat) : Int) by omega]
            refine ih (i + 1) _ _ _ (by omega) (by omega) hF ?_ ?_
            · rw [mkL_s]; first | (rw [if_pos (by unfold pas; omega)]; exact hE) | (rw [if_neg (by unfold pas; omega)]; exact hE)
            · rw [mkL_s]; first | (rw [if_pos (by unfold pas; omega)]; exact rn) | (rw [if_neg (by unfold pas; omega)]; exact rn)
          · refine V_aload_n dX7_logPassedMarks_103 rfl ?_
            refine V_get dX7_logPassedMarks_104 fX7_45 hE.1 rfl ?_
            refine V_getN dX7_logPassedMarks_107 fX7_162 hE.n.1 rfl ?_
            refine J_iconst dX7_logPassedMarks_110 ?_
            refine V_iload_n dX7_logPassedMarks_111 rfl ?_
            refine V_aload_n dX7_logPassedMarks_112 rfl ?_
            refine V_get dX7_logPassedMarks_113 fX7_45 hE.1 rfl ?_
            refine V_getN dX7_logPassedMarks_116 fX7_129 hE.n.1 rfl ?_
            refine V_getN dX7_logPassedMarks_119 fX7_158 hE.n.2.1 rfl ?_
            refine V_callV (Y' := YX3_add) dX7_logPassedMarks_122 lX7_245 gX3_add (m3_add (by omega) (by omega) (rok17 rn) hE.n.2.2.1) hE.n.2.2.1.1 rfl rfl rfl (Nat.le_of_ble_eq_true rfl) ⟨Nat.zero_le _, Nat.zero_le _⟩ (fun v h1 sz1 hq => ?_)
            obtain ⟨rfl, rfl, hf, hg⟩ := hq
            have hF := hF.then (hf.up (by have := hE.sb.2.2; omega))
            have hE := hE.logAdd (rok17 rn) (rok8 rn).2 hf hg
            have rn := rok_lgE (kind := 0) (x := b) (by omega) rn
            refine J_iinc dX7_logPassedMarks_125 rfl ?_
            refine V_goto (tgt := 23) dX7_logPassedMarks_128 (by decide) ?_
            rw [show ((i : Int) + 1) = ((i + 1 : Nat) : Int) by omega]
            refine ih (i + 1) _ _ _ (by omega) (by omega) hF ?_ ?_
            · rw [mkL_s]; first | (rw [if_pos (by unfold pas; omega)]; exact hE) | (rw [if_neg (by unfold pas; omega)]; exact hE)
            · rw [mkL_s]; first | (rw [if_pos (by unfold pas; omega)]; exact rn) | (rw [if_neg (by unfold pas; omega)]; exact rn)
        · refine J_iconst dX7_logPassedMarks_91 ?_
          refine V_goto (tgt := 96) dX7_logPassedMarks_92 (by decide) ?_
          refine V_istore dX7_logPassedMarks_96 (Nat.le_of_ble_eq_true rfl) ?_
          refine V_iload dX7_logPassedMarks_98 rfl ?_
          refine J_if_eq (tgt := 125) dX7_logPassedMarks_100 (by decide) (by omega) (fun c100 => ?_) (fun c100 => ?_)
          · refine J_iinc dX7_logPassedMarks_125 rfl ?_
            refine V_goto (tgt := 23) dX7_logPassedMarks_128 (by decide) ?_
            rw [show ((i : Int) + 1) = ((i + 1 : Nat) : Int) by omega]
            refine ih (i + 1) _ _ _ (by omega) (by omega) hF ?_ ?_
            · rw [mkL_s]; first | (rw [if_pos (by unfold pas; omega)]; exact hE) | (rw [if_neg (by unfold pas; omega)]; exact hE)
            · rw [mkL_s]; first | (rw [if_pos (by unfold pas; omega)]; exact rn) | (rw [if_neg (by unfold pas; omega)]; exact rn)
          · refine V_aload_n dX7_logPassedMarks_103 rfl ?_
            refine V_get dX7_logPassedMarks_104 fX7_45 hE.1 rfl ?_
            refine V_getN dX7_logPassedMarks_107 fX7_162 hE.n.1 rfl ?_
            refine J_iconst dX7_logPassedMarks_110 ?_
            refine V_iload_n dX7_logPassedMarks_111 rfl ?_
            refine V_aload_n dX7_logPassedMarks_112 rfl ?_
            refine V_get dX7_logPassedMarks_113 fX7_45 hE.1 rfl ?_
            refine V_getN dX7_logPassedMarks_116 fX7_129 hE.n.1 rfl ?_
            refine V_getN dX7_logPassedMarks_119 fX7_158 hE.n.2.1 rfl ?_
            refine V_callV (Y' := YX3_add) dX7_logPassedMarks_122 lX7_245 gX3_add (m3_add (by omega) (by omega) (rok17 rn) hE.n.2.2.1) hE.n.2.2.1.1 rfl rfl rfl (Nat.le_of_ble_eq_true rfl) ⟨Nat.zero_le _, Nat.zero_le _⟩ (fun v h1 sz1 hq => ?_)
            obtain ⟨rfl, rfl, hf, hg⟩ := hq
            have hF := hF.then (hf.up (by have := hE.sb.2.2; omega))
            have hE := hE.logAdd (rok17 rn) (rok8 rn).2 hf hg
            have rn := rok_lgE (kind := 0) (x := b) (by omega) rn
            refine J_iinc dX7_logPassedMarks_125 rfl ?_
            refine V_goto (tgt := 23) dX7_logPassedMarks_128 (by decide) ?_
            rw [show ((i : Int) + 1) = ((i + 1 : Nat) : Int) by omega]
            refine ih (i + 1) _ _ _ (by omega) (by omega) hF ?_ ?_
            · rw [mkL_s]; first | (rw [if_pos (by unfold pas; omega)]; exact hE) | (rw [if_neg (by unfold pas; omega)]; exact hE)
            · rw [mkL_s]; first | (rw [if_pos (by unfold pas; omega)]; exact rn) | (rw [if_neg (by unfold pas; omega)]; exact rn)
set_option maxHeartbeats 4000000 in
set_option maxRecDepth 100000 in
theorem m7_logPassedMarks {z : ZG} {d sz s : Nat} {h : AH} {m : Nat} {tn pt hn : Int} {TX MK N : Nat → Int} (hE : EN h s tn TX (m : Int) MK pt hn N) (hR : ER tn TX (m : Int) MK pt hn N) {a b : Int} (ha : 0 ≤ a ∧ a ≤ 9999) (hb : 0 ≤ b ∧ b ≤ 9999) : M z YX7_logPassedMarks (d + 3) 0 0 [.ref 0, .int (I a), .int (I b)] h sz (fun w h' sz' => w = none ∧ sz' = sz ∧ fr h h' 0 114 ∧ EN h' s tn TX (m : Int) MK pt hn (mkL MK m a b N m)) := by
  refine M.of (by decide +kernel) (Nat.le_of_ble_eq_true rfl) ?_
  obtain ⟨rt, rx, rm, rmk, rp, rh, rn⟩ := hR
  refine V_iload_n dX7_logPassedMarks_0 rfl ?_
  refine V_iload_n dX7_logPassedMarks_1 rfl ?_
  refine J_icmp_ge (tgt := 9) dX7_logPassedMarks_2 (by decide) (by omega) (by omega) (fun c2 => ?_) (fun c2 => ?_)
  · refine J_iconst dX7_logPassedMarks_9 ?_
    refine V_istore_n dX7_logPassedMarks_10 (Nat.le_of_ble_eq_true rfl) ?_
    refine V_aload_n dX7_logPassedMarks_11 rfl ?_
    refine V_get dX7_logPassedMarks_12 fX7_25 hE.1 rfl ?_
    refine V_callV (Y' := YX4_size) dX7_logPassedMarks_15 lX7_82 gX4_size (m4_size (by decide) rm hE.m) hE.m.c rfl rfl rfl (Nat.le_of_ble_eq_true rfl) ⟨Nat.zero_le _, Nat.zero_le _⟩ (fun v h1 sz1 hq => ?_)
    obtain ⟨rfl, rfl, rfl⟩ := hq
    refine V_istore dX7_logPassedMarks_18 (Nat.le_of_ble_eq_true rfl) ?_
    refine J_iconst dX7_logPassedMarks_20 ?_
    refine V_istore dX7_logPassedMarks_21 (Nat.le_of_ble_eq_true rfl) ?_
    first | exact l7_lp1 rt rm rmk (by omega) ha hb 7 0 _ _ _ (by omega) (by omega) fr.rf hE rn | exact l7_lp0 rt rm rmk (by omega) ha hb 7 0 _ _ _ (by omega) (by omega) fr.rf hE rn
  · refine J_iconst dX7_logPassedMarks_5 ?_
    refine V_goto (tgt := 10) dX7_logPassedMarks_6 (by decide) ?_
    refine V_istore_n dX7_logPassedMarks_10 (Nat.le_of_ble_eq_true rfl) ?_
    refine V_aload_n dX7_logPassedMarks_11 rfl ?_
    refine V_get dX7_logPassedMarks_12 fX7_25 hE.1 rfl ?_
    refine V_callV (Y' := YX4_size) dX7_logPassedMarks_15 lX7_82 gX4_size (m4_size (by decide) rm hE.m) hE.m.c rfl rfl rfl (Nat.le_of_ble_eq_true rfl) ⟨Nat.zero_le _, Nat.zero_le _⟩ (fun v h1 sz1 hq => ?_)
    obtain ⟨rfl, rfl, rfl⟩ := hq
    refine V_istore dX7_logPassedMarks_18 (Nat.le_of_ble_eq_true rfl) ?_
    refine J_iconst dX7_logPassedMarks_20 ?_
    refine V_istore dX7_logPassedMarks_21 (Nat.le_of_ble_eq_true rfl) ?_
    first | exact l7_lp1 rt rm rmk (by omega) ha hb 7 0 _ _ _ (by omega) (by omega) fr.rf hE rn | exact l7_lp0 rt rm rmk (by omega) ha hb 7 0 _ _ _ (by omega) (by omega) fr.rf hE rn
set_option maxHeartbeats 4000000 in
set_option maxRecDepth 100000 in
theorem l7_ts_63 {z : ZG} {d sz s : Nat} {h : AH} {m : Nat} {tn pt hn : Int} {TX MK N : Nat → Int} (hE : EN h s tn TX (m : Int) MK pt hn N) (hR : ER tn TX (m : Int) MK pt hn N) {g0 : AH} {NF : Nat → Int} {x : Int} (hx : 0 ≤ x ∧ x ≤ 9999) (hF : fr g0 h 0 114) (hNF : NF = va_up (mkL MK m (N 0) x N m) 0 x) : V z YX7_takeSample (zroom (d + 5) 0 0) (fun w h' sz' => w = none ∧ sz' = sz ∧ fr g0 h' 0 114 ∧ EN h' s tn TX (m : Int) MK pt hn NF) 63 [some (.ref 0), some (.int (I x))] [] h sz 0 0 := by
  obtain ⟨rt, rx, rm, rmk, rp, rh, rn⟩ := hR
  refine V_aload_n dX7_takeSample_63 rfl ?_
  refine V_aload_n dX7_takeSample_64 rfl ?_
  refine V_get dX7_takeSample_65 fX7_45 hE.1 rfl ?_
  refine V_getN dX7_takeSample_68 fX7_135 hE.n.1 rfl ?_
  refine V_iload_n dX7_takeSample_71 rfl ?_
  refine V_callV (Y' := YX7_logPassedMarks) dX7_takeSample_72 lX7_248 gX7_logPassedMarks (m7_logPassedMarks hE ⟨rt, rx, rm, rmk, rp, rh, rn⟩ rn.1 hx) hE.1 rfl rfl rfl (Nat.le_of_ble_eq_true rfl) ⟨Nat.zero_le _, Nat.zero_le _⟩ (fun v h1 sz1 hq => ?_)
  obtain ⟨rfl, rfl, hf, hE⟩ := hq
  have hF := hF.then hf
  refine V_aload_n dX7_takeSample_75 rfl ?_
  refine V_get dX7_takeSample_76 fX7_45 hE.1 rfl ?_
  refine V_iload_n dX7_takeSample_79 rfl ?_
  refine RO_putN dX7_takeSample_80 fX7_135 tX6_3 (OB.mk hE.n.1) (Nat.le_of_ble_eq_true rfl) rfl rfl (fun h2 hx => ?_)
  have hF := hF.then (hx.fr.up (by have := hE.sb.2.2; omega))
  have hE := hE.put0 hx
  exact V_ret dX7_takeSample_83 rfl ⟨Nat.zero_le _, Nat.zero_le _⟩ ⟨rfl, rfl, hF, by rw [hNF]; exact hE⟩
set_option maxHeartbeats 4000000 in
set_option maxRecDepth 100000 in
theorem m7_takeSample {z : ZG} {d sz s : Nat} {h : AH} {m : Nat} {tn pt hn : Int} {TX MK N : Nat → Int} (hE : EN h s tn TX (m : Int) MK pt hn N) (hR : ER tn TX (m : Int) MK pt hn N) {x : Int} (hxx : 0 ≤ x ∧ x ≤ 9999) : M z YX7_takeSample (d + 5) 0 0 [.ref 0, .int (I x)] h sz (fun w h' sz' => w = none ∧ sz' = sz ∧ fr h h' 0 114 ∧ EN h' s tn TX (m : Int) MK pt hn (smp pt m MK N (N 0) x)) := by
  refine M.of (by decide +kernel) (Nat.le_of_ble_eq_true rfl) ?_
  obtain ⟨rt, rx, rm, rmk, rp, rh, rn⟩ := hR
  have hF : fr h h 0 114 := fr.rf
  refine V_aload_n dX7_takeSample_0 rfl ?_
  refine V_get dX7_takeSample_1 fX7_45 hE.1 rfl ?_
  refine V_dup dX7_takeSample_4 rfl ?_
  refine V_getN dX7_takeSample_5 fX7_235 hE.n.1 rfl ?_
  refine J_iconst dX7_takeSample_8 ?_
  refine J_iadd dX7_takeSample_9 ?_
  refine RO_putN dX7_takeSample_10 fX7_235 tX6_4 (OB.mk hE.n.1) (Nat.le_of_ble_eq_true rfl) rfl rfl (fun h2 hx => ?_)
  have hF := hF.then (hx.fr.up (by have := hE.sb.2.2; omega))
  have hE := hE.put4 hx
  have rn := rok_up (x := N 4 + 1) rn (Or.inr (Or.inr rfl))
  refine V_aload_n dX7_takeSample_13 rfl ?_
  refine V_aload_n dX7_takeSample_14 rfl ?_
  refine V_get dX7_takeSample_15 fX7_45 hE.1 rfl ?_
  refine V_getN dX7_takeSample_18 fX7_129 hE.n.1 rfl ?_
  refine V_iload_n dX7_takeSample_21 rfl ?_
  refine V_callV (Y' := YX7_readSample) dX7_takeSample_22 lX7_238 gX7_readSample (m7_readSample hE ⟨rt, rx, rm, rmk, rp, rh, rn⟩ hxx rn.2.1 hE.n.2.1) hE.1 rfl rfl rfl (Nat.le_of_ble_eq_true rfl) ⟨Nat.zero_le _, Nat.zero_le _⟩ (fun v h1 sz1 hq => ?_)
  obtain ⟨rfl, t22, rfl, ht22⟩ := hq
  rcases ht22 with ⟨hdr, rfl, rfl⟩ | ⟨hdr, hob, ht22⟩
  · refine J_if_eq (tgt := 63) dX7_takeSample_25 (by decide) (by omega) (fun c25 => ?_) (fun c25 => absurd rfl c25)
    exact l7_ts_63 hE ⟨rt, rx, rm, rmk, rp, rh, rn⟩ hxx hF (smp_d ((drt_up (by omega)).mp hdr))
  · have hF := hF.then (hob.fr.up (by have := hE.sb.2.2; omega))
    have hE2 := hE.putDec hob
    have rn2 := rok_rdN (x := x) (show 0 < pt by omega) rn
    have hdr2 : ¬ drt N (N 8).toNat x := fun w => hdr ((drt_up (by omega)).mpr w)
    have h17 : 0 ≤ (va_up N 4 (N 4 + 1)) 17 ∧ (va_up N 4 (N 4 + 1)) 17 ≤ 8 := rok17 rn
    refine J_if_eq (tgt := 63) dX7_takeSample_25 (by decide) (by omega) (fun c25 => ?_) (fun c25 => ?_)
    · have e := rdN_no (x := x) (show 0 < pt by omega) rn.2.1 (show ¬ (quad pt x - (va_up N 4 (N 4 + 1)) 2 + 4) % 4 = 2 by omega)
      refine l7_ts_63 (N := rdN pt (va_up N 4 (N 4 + 1)) x) hE2 ⟨rt, rx, rm, rmk, rp, rh, rn2⟩ hxx hF ?_
      rw [smp_c hdr2, e, dcd_0]; rfl
    · have hmi : (quad pt x - (va_up N 4 (N 4 + 1)) 2 + 4) % 4 = 2 := by omega
      have hkk : ∀ i : Nat, (i : Int) < rdN pt (va_up N 4 (N 4 + 1)) x 17 → 0 ≤ lK (rdN pt (va_up N 4 (N 4 + 1)) x) i ∧ lK (rdN pt (va_up N 4 (N 4 + 1)) x) i ≤ 1 := fun i hi => by unfold lK; exact rn2.2.2.2.2.2.2.2.2 _ (by have := rok17 rn2; omega)
      have hE2 : EN _ s tn TX (m : Int) MK pt hn (rdN pt (va_up N 4 (N 4 + 1)) x) := hE2
      refine V_aload_n dX7_takeSample_28 rfl ?_
      refine V_get dX7_takeSample_29 fX7_45 hE2.1 rfl ?_
      refine V_getN dX7_takeSample_32 fX7_162 hE2.n.1 rfl ?_
      refine V_callV (Y' := YX3_wantsMiss) dX7_takeSample_35 lX7_242 gX3_wantsMiss (m3_wantsMiss (rok17 rn2) hE2.n.2.2.1 hkk) hE2.n.2.2.1.1 rfl rfl rfl (Nat.le_of_ble_eq_true rfl) ⟨Nat.zero_le _, Nat.zero_le _⟩ (fun v h1 sz1 hq => ?_)
      obtain ⟨t35, rfl, ht35, rfl, rfl⟩ := hq
      rw [rdN_hi (by omega), lK_rdN] at ht35
      refine J_if_eq (tgt := 63) dX7_takeSample_38 (by decide) (by omega) (fun c38 => ?_) (fun c38 => ?_)
      · exact l7_ts_63 hE2 ⟨rt, rx, rm, rmk, rp, rh, rn2⟩ hxx hF (by rw [smp_c hdr2, rdN_nl h17 hmi (by exact fun w => absurd (show t35 = 1 ∧ _ from ht35.resolve_right (fun q => q.2 w)).1 (by omega)), dcd_0]; rfl)
      · refine V_aload_n dX7_takeSample_41 rfl ?_
        refine V_get dX7_takeSample_42 fX7_45 hE2.1 rfl ?_
        refine V_getN dX7_takeSample_45 fX7_162 hE2.n.1 rfl ?_
        refine J_iconst dX7_takeSample_48 ?_
        refine V_iload_n dX7_takeSample_49 rfl ?_
        refine V_aload_n dX7_takeSample_50 rfl ?_
        refine V_get dX7_takeSample_51 fX7_45 hE2.1 rfl ?_
        refine V_getN dX7_takeSample_54 fX7_129 hE2.n.1 rfl ?_
        refine V_getN dX7_takeSample_57 fX7_158 hE2.n.2.1 rfl ?_
        refine V_callV (Y' := YX3_add) dX7_takeSample_60 lX7_245 gX3_add (m3_add (by omega) (by omega) (rok17 rn2) hE2.n.2.2.1) hE2.n.2.2.1.1 rfl rfl rfl (Nat.le_of_ble_eq_true rfl) ⟨Nat.zero_le _, Nat.zero_le _⟩ (fun v h1 sz1 hq => ?_)
        obtain ⟨rfl, rfl, hf, hg⟩ := hq
        have hF := hF.then (hf.up (by have := hE2.sb.2.2; omega))
        have hE3 := hE2.logAdd (rok17 rn2) (rok8 rn2).2 hf hg
        exact l7_ts_63 hE3 ⟨rt, rx, rm, rmk, rp, rh, rok_lgE (by omega) rn2⟩ hxx hF (by rw [smp_c hdr2, rdN_lg h17 hmi (by exact (ht35.resolve_right (fun q => by omega)).2), dcd_0]; rfl)
theorem spo_nx {f t g v : Int} (hv : 1 ≤ v) (hg : 0 ≤ g) (h : g < ((t - f).natAbs : Int)) : nxt (spo f t g) t v = spo f t (g + v) ∧ ¬ spo f t g = t := by
  unfold nxt spo
  rw [if_neg (show ¬ ((t - f).natAbs : Int) ≤ g by omega)]
  by_cases a : f < t
  · rw [if_pos a]
    refine ⟨?_, by omega⟩
    rw [if_pos (show f + g < t by omega)]
    by_cases b : ((t - f).natAbs : Int) ≤ g + v
    · rw [if_pos b]
      by_cases c : t - (f + g) < v
      · rw [if_pos c]
      · rw [if_neg c]; omega
    · rw [if_neg b, if_pos a, if_neg (by omega)]; omega
  · rw [if_neg a]
    refine ⟨?_, by omega⟩
    rw [if_neg (show ¬ f - g < t by omega)]
    by_cases b : ((t - f).natAbs : Int) ≤ g + v
    · rw [if_pos b]
      by_cases c : f - g - t < v
      · rw [if_pos c]
      · rw [if_neg c]; omega
    · rw [if_neg b, if_neg a, if_neg (by omega)]; omega
theorem spo_end {f t g : Int} (h : ((t - f).natAbs : Int) ≤ g) : spo f t g = t := if_pos h
theorem spo_rg {f t g : Int} (hf : 0 ≤ f ∧ f ≤ 9999) (ht : 0 ≤ t ∧ t ≤ 9999) (hg : 0 ≤ g) : 0 ≤ spo f t g ∧ spo f t g ≤ 9999 := by
  unfold spo
  split
  · exact ht
  · split <;> omega
theorem spo_0 {f t : Int} : spo f t 0 = f := by
  unfold spo
  split
  · omega
  · split <;> omega
theorem smp_0 {sc a b : Int} {m : Nat} {MA N : Nat → Int} : smp sc m MA N a b 0 = b := rfl
theorem cnt_le {D v n : Int} (hv : 1 ≤ v) : n ≤ (D + v - 1) / v ↔ (n - 1) * v < D := by
  rw [Int.le_ediv_iff_mul_le (by omega), Int.sub_mul, Int.one_mul]
  omega
theorem mvF_end {sc t v : Int} {m : Nat} {MA N : Nat → Int} (h : N 0 = t) : ∀ f, mvF sc m MA t v f N = N := by
  intro f
  cases f with
  | zero => rfl
  | succ f => rw [mvF_s, if_pos h]
-- MOVETO LOOP BELOW
set_option maxHeartbeats 4000000 in
set_option maxRecDepth 100000 in
theorem l7_mv_53 {z : ZG} {d sz s m : Nat} {g0 : AH} {tn pt hn t v f m0 : Int} {TX MK NF : Nat → Int} (rt : 0 ≤ tn ∧ tn ≤ 200) (rx : ∀ j : Nat, j < 200 → 0 ≤ TX j ∧ TX j ≤ 126) (rm : 0 ≤ (m : Int) ∧ (m : Int) ≤ 6) (rmk : ∀ j : Nat, j < 6 → 0 ≤ MK j ∧ MK j ≤ 9999) (rp : 8 ≤ pt ∧ pt ≤ 80) (rh : 0 ≤ hn ∧ hn ≤ 6) (hf : 0 ≤ f ∧ f ≤ 9999) (ht : 0 ≤ t ∧ t ≤ 9999) (hv : 1 ≤ v ∧ v ≤ 99) : ∀ (fu n fm : Nat) (N : Nat → Int) (h : AH), 1 ≤ n → (n : Int) ≤ (((t - f).natAbs : Int) + v - 1) / v + 1 → (((t - f).natAbs : Int) + v - 1) / v + 1 - n < fu → N 0 = spo f t (((n : Int) - 1) * v) → (N 0 - t).natAbs ≤ fm → fr g0 h 0 114 → mvF pt m MK t v fm N = NF → EN h s tn TX (m : Int) MK pt hn N → rok N → V z YX7_moveTo (zroom (d + 6) 0 0) (fun w h' sz' => sz' = sz ∧ fr g0 h' 0 114 ∧ EP h' tn TX (m : Int) MK pt ∧ w = some (.int (I (NF 3 - m0)))) 53 [some (.ref 0), some (.int (I t)), some (.int (I v)), some (.int (I m0)), some (.int (I f)), some (.int (I ((((t - f).natAbs : Int) + v - 1) / v))), some (.int (I (n : Int)))] [] h sz 0 0 := by
  intro fu
  induction fu with
  | zero => intro n fm N h h1 h1b h2; omega
  | succ fu ih =>
    intro n fm N h h1 h1b h2 h0 hfm hF hNF hE rn
    have hcr : 0 ≤ (((t - f).natAbs : Int) + v - 1) / v ∧ (((t - f).natAbs : Int) + v - 1) / v ≤ 10098 := ⟨Int.ediv_nonneg (by omega) (by omega), by have := Int.ediv_le_self (a := ((t - f).natAbs : Int) + v - 1) v (by omega); omega⟩
    have hend : ¬ (n : Int) ≤ (((t - f).natAbs : Int) + v - 1) / v → N 0 = t := fun q => by rw [h0]; exact spo_end (Int.not_lt.mp (fun w => q ((cnt_le (D := ((t - f).natAbs : Int)) hv.1).mpr w)))
    refine V_iload dX7_moveTo_53 rfl ?_
    refine V_iload dX7_moveTo_55 rfl ?_
    refine J_icmp_gt (tgt := 80) dX7_moveTo_57 (by decide) (by omega) (by omega) (fun c57 => ?_) (fun c57 => ?_)
    · refine V_aload_n dX7_moveTo_80 rfl ?_
      refine V_get dX7_moveTo_81 fX7_45 hE.1 rfl ?_
      refine V_getN dX7_moveTo_84 fX7_129 hE.n.1 rfl ?_
      refine V_getN dX7_moveTo_87 fX7_132 hE.n.2.1 rfl ?_
      refine V_iload_n dX7_moveTo_90 rfl ?_
      refine J_isub dX7_moveTo_91 ?_
      exact V_iret dX7_moveTo_92 rfl rfl ⟨Nat.zero_le _, Nat.zero_le _⟩ ⟨rfl, hF, ⟨_, _, _, hE, rh, rn⟩, by rw [← hNF, mvF_end (hend (by omega))]⟩
    · have hg2 : (n : Int) * v = ((n : Int) - 1) * v + v := by rw [Int.sub_mul, Int.one_mul]; omega
      have hlt := (cnt_le (D := ((t - f).natAbs : Int)) (n := (n : Int)) hv.1).mp (by omega)
      have hg0 : 0 ≤ ((n : Int) - 1) * v := Int.mul_nonneg (by omega) (by omega)
      have hsn := spo_nx hv.1 hg0 hlt
      have hsr := spo_rg (g := (n : Int) * v) hf ht (by omega)
      refine V_aload_n dX7_moveTo_60 rfl ?_
      refine V_iload dX7_moveTo_61 rfl ?_
      refine V_iload_n dX7_moveTo_63 rfl ?_
      refine V_iload dX7_moveTo_64 rfl ?_
      refine V_iload_n dX7_moveTo_66 rfl ?_
      refine J_imul dX7_moveTo_67 ?_
      refine V_callS (Y' := YX7_samplePosition) dX7_moveTo_68 lX7_142 gX7_samplePosition (m7_samplePosition hf ht (by omega)) rfl rfl (Nat.le_of_ble_eq_true rfl) ⟨Nat.zero_le _, Nat.zero_le _⟩ (fun v h1 sz1 hq => ?_)
      obtain ⟨rfl, rfl, rfl⟩ := hq
      refine V_callV (Y' := YX7_takeSample) dX7_moveTo_71 lX7_145 gX7_takeSample (m7_takeSample hE ⟨rt, rx, rm, rmk, rp, rh, rn⟩ hsr) hE.1 rfl rfl rfl (Nat.le_of_ble_eq_true rfl) ⟨Nat.zero_le _, Nat.zero_le _⟩ (fun v h1 sz1 hq => ?_)
      obtain ⟨rfl, rfl, hf2, hE⟩ := hq
      have hF := hF.then hf2
      refine J_iinc dX7_moveTo_74 rfl ?_
      refine V_goto (tgt := 53) dX7_moveTo_77 (by decide) ?_
      rw [show ((n : Int) + 1) = ((n + 1 : Nat) : Int) by omega]
      cases fm with
      | zero => exact absurd (show spo f t (((n : Int) - 1) * v) = t by rw [← h0]; omega) hsn.2
      | succ fm =>
        have hNF2 := hNF
        rw [mvF_s, if_neg (by rw [h0]; exact hsn.2), h0, hsn.1, ← hg2, ← h0] at hNF2
        refine ih (n + 1) fm _ _ (by omega) (by omega) (by omega) ?_ ?_ hF hNF2 hE (rok_smp (by omega) hsr rn)
        · show spo f t ((n : Int) * v) = _; congr 1; rw [show ((n + 1 : Nat) : Int) - 1 = (n : Int) by omega]
        · show (spo f t ((n : Int) * v) - t).natAbs ≤ fm; have hnx := (nxt_rg (t := t) (v := v) (a := N 0) rn.1 ht hv.1 (by rw [h0]; exact hsn.2)).2; rw [h0, hsn.1, ← hg2] at hnx; rw [h0] at hfm; omega
set_option maxHeartbeats 4000000 in
set_option maxRecDepth 100000 in
theorem m7_moveTo {z : ZG} {d sz s : Nat} {h : AH} {m : Nat} {tn pt hn : Int} {TX MK N : Nat → Int} (hE : EN h s tn TX (m : Int) MK pt hn N) (hR : ER tn TX (m : Int) MK pt hn N) {t v : Int} (hvt : -2147483648 ≤ t ∧ t < 2147483648) (hvv : -2147483648 ≤ v ∧ v < 2147483648) : M z YX7_moveTo (d + 6) 0 0 [.ref 0, .int (I t), .int (I v)] h sz (fun w h' sz' => sz' = sz ∧ fr h h' 0 114 ∧ EP h' tn TX (m : Int) MK pt ∧ ((¬ ((0 ≤ t ∧ t ≤ 9999) ∧ 1 ≤ v ∧ v ≤ 99) ∧ w = some (.int (I (-1)))) ∨ (((0 ≤ t ∧ t ≤ 9999) ∧ 1 ≤ v ∧ v ≤ 99) ∧ w = some (.int (I (mvF pt m MK t v 10000 N 3 - N 3)))))) := by
  refine M.of (by decide +kernel) (Nat.le_of_ble_eq_true rfl) ?_
  obtain ⟨rt, rx, rm, rmk, rp, rh, rn⟩ := hR
  have hF : fr h h 0 114 := fr.rf
  refine V_iload_n dX7_moveTo_0 rfl ?_
  refine V_iload_n dX7_moveTo_1 rfl ?_
  refine V_callS (Y' := YX7_isMove) dX7_moveTo_2 lX7_121 gX7_isMove (m7_isMove hvt hvv) rfl rfl (Nat.le_of_ble_eq_true rfl) ⟨Nat.zero_le _, Nat.zero_le _⟩ (fun v h1 sz1 hq => ?_)
  obtain ⟨t2, rfl, ht2, rfl, rfl⟩ := hq
  refine J_if_ne (tgt := 10) dX7_moveTo_5 (by decide) (by omega) (fun c5 => ?_) (fun c5 => ?_)
  · refine V_aload_n dX7_moveTo_10 rfl ?_
    refine V_get dX7_moveTo_11 fX7_31 hE.1 rfl ?_
    refine V_aload_n dX7_moveTo_14 rfl ?_
    refine V_get dX7_moveTo_15 fX7_45 hE.1 rfl ?_
    refine V_callV (Y' := YX2_remember) dX7_moveTo_18 lX7_125 gX2_remember (m2_remember rh hE.sb rn hE.n hE.hi) hE.hi.c rfl rfl rfl (Nat.le_of_ble_eq_true rfl) ⟨Nat.zero_le _, Nat.zero_le _⟩ (fun v h1 sz1 hq => ?_)
    obtain ⟨rfl, rfl, hf, hn2, rh, hi⟩ := hq
    have hF := hF.then hf.up
    have hE := hE.rem hf hi
    refine V_aload_n dX7_moveTo_21 rfl ?_
    refine V_get dX7_moveTo_22 fX7_45 hE.1 rfl ?_
    refine V_getN dX7_moveTo_25 fX7_129 hE.n.1 rfl ?_
    refine V_getN dX7_moveTo_28 fX7_132 hE.n.2.1 rfl ?_
    refine V_istore_n dX7_moveTo_31 (Nat.le_of_ble_eq_true rfl) ?_
    refine V_aload_n dX7_moveTo_32 rfl ?_
    refine V_get dX7_moveTo_33 fX7_45 hE.1 rfl ?_
    refine V_getN dX7_moveTo_36 fX7_135 hE.n.1 rfl ?_
    refine V_istore dX7_moveTo_39 (Nat.le_of_ble_eq_true rfl) ?_
    refine V_iload dX7_moveTo_41 rfl ?_
    refine V_iload_n dX7_moveTo_43 rfl ?_
    refine V_iload_n dX7_moveTo_44 rfl ?_
    refine V_callS (Y' := YX7_sampleCount) dX7_moveTo_45 lX7_138 gX7_sampleCount (m7_sampleCount rn.1 (by omega) (by omega)) rfl rfl (Nat.le_of_ble_eq_true rfl) ⟨Nat.zero_le _, Nat.zero_le _⟩ (fun v h1 sz1 hq => ?_)
    obtain ⟨rfl, rfl, rfl⟩ := hq
    refine V_istore dX7_moveTo_48 (Nat.le_of_ble_eq_true rfl) ?_
    refine J_iconst dX7_moveTo_50 ?_
    refine V_istore dX7_moveTo_51 (Nat.le_of_ble_eq_true rfl) ?_
    refine V_mono ?_ (l7_mv_53 rt rx rm rmk rp rh rn.1 (by omega) (by omega) 20000 1 10000 N _ (by omega) (by have : 0 ≤ (((t - N 0).natAbs : Int) + v - 1) / v := Int.ediv_nonneg (by omega) (by omega); omega) ?_ ?_ (by have := rn.1; omega) hF rfl hE rn)
    · rintro w h9 sz9 ⟨rfl, q1, q2, q3⟩; exact ⟨rfl, q1, q2, Or.inr ⟨by omega, q3⟩⟩
    · have := Int.ediv_le_self (a := ((t - N 0).natAbs : Int) + v - 1) v (by omega); have := rn.1; omega
    · rw [show (((1 : Nat) : Int) - 1) * v = 0 by simp, spo_0]
  · refine J_iconst dX7_moveTo_8 ?_
    exact V_iret dX7_moveTo_9 rfl rfl ⟨Nat.zero_le _, Nat.zero_le _⟩ ⟨rfl, hF, ⟨_, _, _, hE, rh, rn⟩, Or.inl ⟨by omega, rfl⟩⟩
