/-! THE REFERENCE: samples and moves -/
theorem V_top {z : ZG} {Y : ZM} {R : Room} {Q : ZQ} {pc : Nat} {L : AL} {st : List Value} {h : AH} {sz kc nc : Nat} {a b : Int} (e : a = b) (k : V z Y R Q pc L (.int (I b) :: st) h sz kc nc) : V z Y R Q pc L (.int (I a) :: st) h sz kc nc := by rw [e]; exact k
theorem mkL_s {MA : Nat → Int} {mk : Nat} {a b : Int} {S : Nat → Int} {k : Nat} : mkL MA mk a b S (k + 1) = @ite _ (pas a b (mkA MA mk a b k)) (Classical.propDecidable _) (lgE (mkL MA mk a b S k) 0 b) (mkL MA mk a b S k) := rfl
theorem mvF_s {sc : Int} {mk : Nat} {MA : Nat → Int} {t v : Int} {f : Nat} {S : Nat → Int} : mvF sc mk MA t v (f + 1) S = if S 0 = t then S else mvF sc mk MA t v f (smp sc mk MA S (S 0) (nxt (S 0) t v)) := rfl
theorem drt_up {S : Nat → Int} {k m : Nat} {v x : Int} (h : k < 9) : drt (va_up S k v) m x ↔ drt S m x := by
  unfold drt va_up
  constructor
  · rintro ⟨q, h1, h2⟩; rw [if_neg (by omega), if_neg (by omega)] at h2; exact ⟨q, h1, h2⟩
  · rintro ⟨q, h1, h2⟩; refine ⟨q, h1, ?_⟩; rw [if_neg (by omega), if_neg (by omega)]; exact h2
set_option maxHeartbeats 4000000 in
set_option maxRecDepth 100000 in
theorem l8_sampleAt_25 {z : ZG} {d sz r n s : Nat} {g : AH} {l sp nu rs rm sc km : Int} {T RA RD MA NW KP : Nat → Int} {m : Nat} {a b : Int} {S2 : Nat → Int} (ha : 0 ≤ a ∧ a ≤ 9999) (hb : 0 ≤ b ∧ b ≤ 9999) (hmk : m ≤ 6) (hma : ∀ j : Nat, j < 6 → 0 ≤ MA j ∧ MA j ≤ 9999) (hr2 : rok S2) : ∀ (f k : Nat) (h : AH) (o4 : Option Value), k ≤ m → m - k < f → MS g r n s l sp nu rs rm sc m km T RA RD MA NW (mkL MA m a b S2 k) KP h → V z YX8_sampleAt (zroom (d + 1) 0 0) (fun w h' sz' => w = none ∧ sz' = sz ∧ MS g r n s l sp nu rs rm sc m km T RA RD MA NW (va_up (mkL MA m a b S2 m) 0 b) KP h') 25 [some (.ref r), some (.int (I a)), some (.int (I b)), some (.int (I (k : Int))), o4] [] h sz 0 0 := by
  intro f
  induction f with
  | zero => intro k h o4 h1 h2; omega
  | succ f ih =>
    intro k h o4 h1 h2 hm
    refine V_iload_n dX8_sampleAt_25 rfl ?_
    refine V_aload_n dX8_sampleAt_26 rfl ?_
    refine V_get dX8_sampleAt_27 fX8_47 hm.1 rfl ?_
    refine J_icmp_ge (tgt := 106) dX8_sampleAt_30 (by decide) (by omega) (by omega) (fun c30 => ?_) (fun c30 => ?_)
    · refine V_aload_n dX8_sampleAt_106 rfl ?_
      refine V_get dX8_sampleAt_107 fX8_25 hm.1 rfl ?_
      refine J_iconst dX8_sampleAt_110 ?_
      refine V_iload_n dX8_sampleAt_111 rfl ?_
      refine R_astk_SD 0 dX8_sampleAt_112 hm rfl (by decide) (fun h hm => ?_)
      exact V_ret dX8_sampleAt_113 rfl ⟨Nat.zero_le _, Nat.zero_le _⟩ ⟨rfl, rfl, hm.eSD (fun j hj => by rw [show k = m by omega])⟩
    · have q1 := hma k (by omega)
      have q2 := hma (m - 1 - k) (by omega)
      refine V_iload_n dX8_sampleAt_33 rfl ?_
      refine V_iload_n dX8_sampleAt_34 rfl ?_
      refine J_icmp_ge (tgt := 47) dX8_sampleAt_35 (by decide) (by omega) (by omega) (fun c35 => ?_) (fun c35 => ?_)
      · refine V_aload_n dX8_sampleAt_47 rfl ?_
        refine V_get dX8_sampleAt_48 fX8_19 hm.1 rfl ?_
        refine V_aload_n dX8_sampleAt_51 rfl ?_
        refine V_get dX8_sampleAt_52 fX8_47 hm.1 rfl ?_
        refine J_iconst dX8_sampleAt_55 ?_
        refine J_isub dX8_sampleAt_56 ?_
        refine V_iload_n dX8_sampleAt_57 rfl ?_
        refine J_isub dX8_sampleAt_58 ?_
        refine R_aldk_MA (m - 1 - k) dX8_sampleAt_59 hm (by omega) (by omega) ?_
        refine V_istore dX8_sampleAt_60 (Nat.le_of_ble_eq_true rfl) ?_
        refine V_iload_n dX8_sampleAt_62 rfl ?_
        refine V_iload_n dX8_sampleAt_63 rfl ?_
        refine J_icmp_ge (tgt := 82) dX8_sampleAt_64 (by decide) (by omega) (by omega) (fun c64 => ?_) (fun c64 => ?_)
        · refine V_iload_n dX8_sampleAt_82 rfl ?_
          refine V_iload dX8_sampleAt_83 rfl ?_
          refine J_icmp_gt (tgt := 100) dX8_sampleAt_85 (by decide) (by omega) (by omega) (fun c85 => ?_) (fun c85 => ?_)
          · refine J_iinc dX8_sampleAt_100 rfl ?_
            refine V_goto (tgt := 25) dX8_sampleAt_103 (by decide) ?_
            refine ih (k + 1) _ _ (by omega) (by omega) (hm.eSD (fun j hj => ?_))
            rw [mkL_s]
            have hpA : mkA MA m a b k = if a < b then MA k else MA (m - 1 - k) := rfl
            by_cases hp : pas a b (mkA MA m a b k)
            · rw [if_pos hp]; first | done | (exfalso; revert hp; rw [hpA]; unfold pas; split <;> omega)
            · rw [if_neg hp]; first | done | (exfalso; apply hp; rw [hpA]; unfold pas; split <;> omega)
          · refine V_iload dX8_sampleAt_88 rfl ?_
            refine V_iload_n dX8_sampleAt_90 rfl ?_
            refine J_icmp_ge (tgt := 100) dX8_sampleAt_91 (by decide) (by omega) (by omega) (fun c91 => ?_) (fun c91 => ?_)
            · refine J_iinc dX8_sampleAt_100 rfl ?_
              refine V_goto (tgt := 25) dX8_sampleAt_103 (by decide) ?_
              refine ih (k + 1) _ _ (by omega) (by omega) (hm.eSD (fun j hj => ?_))
              rw [mkL_s]
              have hpA : mkA MA m a b k = if a < b then MA k else MA (m - 1 - k) := rfl
              by_cases hp : pas a b (mkA MA m a b k)
              · rw [if_pos hp]; first | done | (exfalso; revert hp; rw [hpA]; unfold pas; split <;> omega)
              · rw [if_neg hp]; first | done | (exfalso; apply hp; rw [hpA]; unfold pas; split <;> omega)
            · refine V_aload_n dX8_sampleAt_94 rfl ?_
              refine J_iconst dX8_sampleAt_95 ?_
              refine V_iload_n dX8_sampleAt_96 rfl ?_
              refine V_callV (Y' := YX8_logs) dX8_sampleAt_97 lX8_92 gX8_logs (m8_logs hm (rok_mkL hr2 k).2.2.2.2.2.2.1) hm.1 rfl rfl rfl (Nat.le_of_ble_eq_true rfl) ⟨Nat.zero_le _, Nat.zero_le _⟩ (fun v h1 sz1 hq => ?_)
              obtain ⟨rfl, rfl, hm⟩ := hq
              refine J_iinc dX8_sampleAt_100 rfl ?_
              refine V_goto (tgt := 25) dX8_sampleAt_103 (by decide) ?_
              refine ih (k + 1) _ _ (by omega) (by omega) (hm.eSD (fun j hj => ?_))
              rw [mkL_s]
              have hpA : mkA MA m a b k = if a < b then MA k else MA (m - 1 - k) := rfl
              by_cases hp : pas a b (mkA MA m a b k)
              · rw [if_pos hp]; first | done | (exfalso; revert hp; rw [hpA]; unfold pas; split <;> omega)
              · rw [if_neg hp]; first | done | (exfalso; apply hp; rw [hpA]; unfold pas; split <;> omega)
        · refine V_iload_n dX8_sampleAt_67 rfl ?_
          refine V_iload dX8_sampleAt_68 rfl ?_
          refine J_icmp_ge (tgt := 100) dX8_sampleAt_70 (by decide) (by omega) (by omega) (fun c70 => ?_) (fun c70 => ?_)
          · refine J_iinc dX8_sampleAt_100 rfl ?_
            refine V_goto (tgt := 25) dX8_sampleAt_103 (by decide) ?_
            refine ih (k + 1) _ _ (by omega) (by omega) (hm.eSD (fun j hj => ?_))
            rw [mkL_s]
            have hpA : mkA MA m a b k = if a < b then MA k else MA (m - 1 - k) := rfl
            by_cases hp : pas a b (mkA MA m a b k)
            · rw [if_pos hp]; first | done | (exfalso; revert hp; rw [hpA]; unfold pas; split <;> omega)
            · rw [if_neg hp]; first | done | (exfalso; apply hp; rw [hpA]; unfold pas; split <;> omega)
          · refine V_iload dX8_sampleAt_73 rfl ?_
            refine V_iload_n dX8_sampleAt_75 rfl ?_
            refine J_icmp_gt (tgt := 100) dX8_sampleAt_76 (by decide) (by omega) (by omega) (fun c76 => ?_) (fun c76 => ?_)
            · refine J_iinc dX8_sampleAt_100 rfl ?_
              refine V_goto (tgt := 25) dX8_sampleAt_103 (by decide) ?_
              refine ih (k + 1) _ _ (by omega) (by omega) (hm.eSD (fun j hj => ?_))
              rw [mkL_s]
              have hpA : mkA MA m a b k = if a < b then MA k else MA (m - 1 - k) := rfl
              by_cases hp : pas a b (mkA MA m a b k)
              · rw [if_pos hp]; first | done | (exfalso; revert hp; rw [hpA]; unfold pas; split <;> omega)
              · rw [if_neg hp]; first | done | (exfalso; apply hp; rw [hpA]; unfold pas; split <;> omega)
            · refine V_goto (tgt := 94) dX8_sampleAt_79 (by decide) ?_
              refine V_aload_n dX8_sampleAt_94 rfl ?_
              refine J_iconst dX8_sampleAt_95 ?_
              refine V_iload_n dX8_sampleAt_96 rfl ?_
              refine V_callV (Y' := YX8_logs) dX8_sampleAt_97 lX8_92 gX8_logs (m8_logs hm (rok_mkL hr2 k).2.2.2.2.2.2.1) hm.1 rfl rfl rfl (Nat.le_of_ble_eq_true rfl) ⟨Nat.zero_le _, Nat.zero_le _⟩ (fun v h1 sz1 hq => ?_)
              obtain ⟨rfl, rfl, hm⟩ := hq
              refine J_iinc dX8_sampleAt_100 rfl ?_
              refine V_goto (tgt := 25) dX8_sampleAt_103 (by decide) ?_
              refine ih (k + 1) _ _ (by omega) (by omega) (hm.eSD (fun j hj => ?_))
              rw [mkL_s]
              have hpA : mkA MA m a b k = if a < b then MA k else MA (m - 1 - k) := rfl
              by_cases hp : pas a b (mkA MA m a b k)
              · rw [if_pos hp]; first | done | (exfalso; revert hp; rw [hpA]; unfold pas; split <;> omega)
              · rw [if_neg hp]; first | done | (exfalso; apply hp; rw [hpA]; unfold pas; split <;> omega)
      · refine V_aload_n dX8_sampleAt_38 rfl ?_
        refine V_get dX8_sampleAt_39 fX8_19 hm.1 rfl ?_
        refine V_iload_n dX8_sampleAt_42 rfl ?_
        refine R_aldk_MA k dX8_sampleAt_43 hm (by omega) (by omega) ?_
        refine V_goto (tgt := 60) dX8_sampleAt_44 (by decide) ?_
        refine V_istore dX8_sampleAt_60 (Nat.le_of_ble_eq_true rfl) ?_
        refine V_iload_n dX8_sampleAt_62 rfl ?_
        refine V_iload_n dX8_sampleAt_63 rfl ?_
        refine J_icmp_ge (tgt := 82) dX8_sampleAt_64 (by decide) (by omega) (by omega) (fun c64 => ?_) (fun c64 => ?_)
        · refine V_iload_n dX8_sampleAt_82 rfl ?_
          refine V_iload dX8_sampleAt_83 rfl ?_
          refine J_icmp_gt (tgt := 100) dX8_sampleAt_85 (by decide) (by omega) (by omega) (fun c85 => ?_) (fun c85 => ?_)
          · refine J_iinc dX8_sampleAt_100 rfl ?_
            refine V_goto (tgt := 25) dX8_sampleAt_103 (by decide) ?_
            refine ih (k + 1) _ _ (by omega) (by omega) (hm.eSD (fun j hj => ?_))
            rw [mkL_s]
            have hpA : mkA MA m a b k = if a < b then MA k else MA (m - 1 - k) := rfl
            by_cases hp : pas a b (mkA MA m a b k)
            · rw [if_pos hp]; first | done | (exfalso; revert hp; rw [hpA]; unfold pas; split <;> omega)
            · rw [if_neg hp]; first | done | (exfalso; apply hp; rw [hpA]; unfold pas; split <;> omega)
          · refine V_iload dX8_sampleAt_88 rfl ?_
            refine V_iload_n dX8_sampleAt_90 rfl ?_
            refine J_icmp_ge (tgt := 100) dX8_sampleAt_91 (by decide) (by omega) (by omega) (fun c91 => ?_) (fun c91 => ?_)
            · refine J_iinc dX8_sampleAt_100 rfl ?_
              refine V_goto (tgt := 25) dX8_sampleAt_103 (by decide) ?_
              refine ih (k + 1) _ _ (by omega) (by omega) (hm.eSD (fun j hj => ?_))
              rw [mkL_s]
              have hpA : mkA MA m a b k = if a < b then MA k else MA (m - 1 - k) := rfl
              by_cases hp : pas a b (mkA MA m a b k)
              · rw [if_pos hp]; first | done | (exfalso; revert hp; rw [hpA]; unfold pas; split <;> omega)
              · rw [if_neg hp]; first | done | (exfalso; apply hp; rw [hpA]; unfold pas; split <;> omega)
            · refine V_aload_n dX8_sampleAt_94 rfl ?_
              refine J_iconst dX8_sampleAt_95 ?_
              refine V_iload_n dX8_sampleAt_96 rfl ?_
              refine V_callV (Y' := YX8_logs) dX8_sampleAt_97 lX8_92 gX8_logs (m8_logs hm (rok_mkL hr2 k).2.2.2.2.2.2.1) hm.1 rfl rfl rfl (Nat.le_of_ble_eq_true rfl) ⟨Nat.zero_le _, Nat.zero_le _⟩ (fun v h1 sz1 hq => ?_)
              obtain ⟨rfl, rfl, hm⟩ := hq
              refine J_iinc dX8_sampleAt_100 rfl ?_
              refine V_goto (tgt := 25) dX8_sampleAt_103 (by decide) ?_
              refine ih (k + 1) _ _ (by omega) (by omega) (hm.eSD (fun j hj => ?_))
              rw [mkL_s]
              have hpA : mkA MA m a b k = if a < b then MA k else MA (m - 1 - k) := rfl
              by_cases hp : pas a b (mkA MA m a b k)
              · rw [if_pos hp]; first | done | (exfalso; revert hp; rw [hpA]; unfold pas; split <;> omega)
              · rw [if_neg hp]; first | done | (exfalso; apply hp; rw [hpA]; unfold pas; split <;> omega)
        · refine V_iload_n dX8_sampleAt_67 rfl ?_
          refine V_iload dX8_sampleAt_68 rfl ?_
          refine J_icmp_ge (tgt := 100) dX8_sampleAt_70 (by decide) (by omega) (by omega) (fun c70 => ?_) (fun c70 => ?_)
          · refine J_iinc dX8_sampleAt_100 rfl ?_
            refine V_goto (tgt := 25) dX8_sampleAt_103 (by decide) ?_
            refine ih (k + 1) _ _ (by omega) (by omega) (hm.eSD (fun j hj => ?_))
            rw [mkL_s]
            have hpA : mkA MA m a b k = if a < b then MA k else MA (m - 1 - k) := rfl
            by_cases hp : pas a b (mkA MA m a b k)
            · rw [if_pos hp]; first | done | (exfalso; revert hp; rw [hpA]; unfold pas; split <;> omega)
            · rw [if_neg hp]; first | done | (exfalso; apply hp; rw [hpA]; unfold pas; split <;> omega)
          · refine V_iload dX8_sampleAt_73 rfl ?_
            refine V_iload_n dX8_sampleAt_75 rfl ?_
            refine J_icmp_gt (tgt := 100) dX8_sampleAt_76 (by decide) (by omega) (by omega) (fun c76 => ?_) (fun c76 => ?_)
            · refine J_iinc dX8_sampleAt_100 rfl ?_
              refine V_goto (tgt := 25) dX8_sampleAt_103 (by decide) ?_
              refine ih (k + 1) _ _ (by omega) (by omega) (hm.eSD (fun j hj => ?_))
              rw [mkL_s]
              have hpA : mkA MA m a b k = if a < b then MA k else MA (m - 1 - k) := rfl
              by_cases hp : pas a b (mkA MA m a b k)
              · rw [if_pos hp]; first | done | (exfalso; revert hp; rw [hpA]; unfold pas; split <;> omega)
              · rw [if_neg hp]; first | done | (exfalso; apply hp; rw [hpA]; unfold pas; split <;> omega)
            · refine V_goto (tgt := 94) dX8_sampleAt_79 (by decide) ?_
              refine V_aload_n dX8_sampleAt_94 rfl ?_
              refine J_iconst dX8_sampleAt_95 ?_
              refine V_iload_n dX8_sampleAt_96 rfl ?_
              refine V_callV (Y' := YX8_logs) dX8_sampleAt_97 lX8_92 gX8_logs (m8_logs hm (rok_mkL hr2 k).2.2.2.2.2.2.1) hm.1 rfl rfl rfl (Nat.le_of_ble_eq_true rfl) ⟨Nat.zero_le _, Nat.zero_le _⟩ (fun v h1 sz1 hq => ?_)
              obtain ⟨rfl, rfl, hm⟩ := hq
              refine J_iinc dX8_sampleAt_100 rfl ?_
              refine V_goto (tgt := 25) dX8_sampleAt_103 (by decide) ?_
              refine ih (k + 1) _ _ (by omega) (by omega) (hm.eSD (fun j hj => ?_))
              rw [mkL_s]
              have hpA : mkA MA m a b k = if a < b then MA k else MA (m - 1 - k) := rfl
              by_cases hp : pas a b (mkA MA m a b k)
              · rw [if_pos hp]; first | done | (exfalso; revert hp; rw [hpA]; unfold pas; split <;> omega)
              · rw [if_neg hp]; first | done | (exfalso; apply hp; rw [hpA]; unfold pas; split <;> omega)
set_option maxHeartbeats 4000000 in
set_option maxRecDepth 100000 in
theorem l8_sampleAt_A {z : ZG} {d sz r n s : Nat} {g h : AH} {l sp nu rs rm sc km : Int} {T RA RD MA NW SD KP : Nat → Int} {m : Nat} {a b : Int} (ha : 0 ≤ a ∧ a ≤ 9999) (hb : 0 ≤ b ∧ b ≤ 9999) (hmk : m ≤ 6) (hma : ∀ j : Nat, j < 6 → 0 ≤ MA j ∧ MA j ≤ 9999) (hs : 8 ≤ sc ∧ sc ≤ 80) (hr1 : rok (va_up SD 4 (SD 4 + 1))) (hD : drt SD (SD 8).toNat b) (hm : MS g r n s l sp nu rs rm sc m km T RA RD MA NW (va_up SD 4 (SD 4 + 1)) KP h) {o4 : Option Value} : V z YX8_sampleAt (zroom (d + 1) 0 0) (fun w h' sz' => w = none ∧ sz' = sz ∧ MS g r n s l sp nu rs rm sc m km T RA RD MA NW (smp sc m MA SD a b) KP h') 25 [some (.ref r), some (.int (I a)), some (.int (I b)), some (.int (I ((0 : Nat) : Int))), o4] [] h sz 0 0 := by
  refine V_mono ?_ (l8_sampleAt_25 (S2 := (va_up SD 4 (SD 4 + 1))) ha hb hmk hma hr1 7 0 _ _ (by omega) (by omega) hm)
  rintro w h2 sz2 ⟨rfl, rfl, hm⟩
  exact ⟨rfl, rfl, hm.eSD (fun j hj => by unfold smp; rw [if_pos hD])⟩
set_option maxHeartbeats 4000000 in
set_option maxRecDepth 100000 in
theorem l8_sampleAt_B {z : ZG} {d sz r n s : Nat} {g h : AH} {l sp nu rs rm sc km : Int} {T RA RD MA NW SD KP : Nat → Int} {m : Nat} {a b : Int} (ha : 0 ≤ a ∧ a ≤ 9999) (hb : 0 ≤ b ∧ b ≤ 9999) (hmk : m ≤ 6) (hma : ∀ j : Nat, j < 6 → 0 ≤ MA j ∧ MA j ≤ 9999) (hs : 8 ≤ sc ∧ sc ≤ 80) (hr1 : rok (va_up SD 4 (SD 4 + 1))) (hD : ¬ drt SD (SD 8).toNat b) (hm : MS g r n s l sp nu rs rm sc m km T RA RD MA NW (dcd sc (va_up SD 4 (SD 4 + 1)) b) KP h) {o4 : Option Value} : V z YX8_sampleAt (zroom (d + 1) 0 0) (fun w h' sz' => w = none ∧ sz' = sz ∧ MS g r n s l sp nu rs rm sc m km T RA RD MA NW (smp sc m MA SD a b) KP h') 25 [some (.ref r), some (.int (I a)), some (.int (I b)), some (.int (I ((0 : Nat) : Int))), o4] [] h sz 0 0 := by
  refine V_mono ?_ (l8_sampleAt_25 (S2 := (dcd sc (va_up SD 4 (SD 4 + 1)) b)) ha hb hmk hma (rok_dcd (by omega) hr1) 7 0 _ _ (by omega) (by omega) hm)
  rintro w h2 sz2 ⟨rfl, rfl, hm⟩
  exact ⟨rfl, rfl, hm.eSD (fun j hj => by unfold smp; rw [if_neg hD])⟩
set_option maxHeartbeats 4000000 in
set_option maxRecDepth 100000 in
theorem m8_sampleAt {z : ZG} {d sz r n s : Nat} {g h : AH} {l sp nu rs rm sc km : Int} {T RA RD MA NW SD KP : Nat → Int} {m : Nat} {a b : Int} (ha : 0 ≤ a ∧ a ≤ 9999) (hb : 0 ≤ b ∧ b ≤ 9999) (hmk : m ≤ 6) (hma : ∀ j : Nat, j < 6 → 0 ≤ MA j ∧ MA j ≤ 9999) (hs : 8 ≤ sc ∧ sc ≤ 80) (hm : MS g r n s l sp nu rs rm sc m km T RA RD MA NW SD KP h) (hr : rok SD) : M z YX8_sampleAt (d + 2) 0 0 [.ref r, .int (I a), .int (I b)] h sz (fun w h' sz' => w = none ∧ sz' = sz ∧ MS g r n s l sp nu rs rm sc m km T RA RD MA NW (smp sc m MA SD a b) KP h') := by
  refine M.of (by decide +kernel) (Nat.le_of_ble_eq_true rfl) ?_
  have hr1 : rok (va_up SD 4 (SD 4 + 1)) := rok_up hr (by omega)
  refine V_aload_n dX8_sampleAt_0 rfl ?_
  refine V_get dX8_sampleAt_1 fX8_25 hm.1 rfl ?_
  refine J_iconst dX8_sampleAt_4 ?_
  refine V_dup2 dX8_sampleAt_5 rfl rfl ?_
  refine R_aldk_SD 4 dX8_sampleAt_6 hm rfl (by decide) ?_
  refine J_iconst dX8_sampleAt_7 ?_
  refine J_iadd dX8_sampleAt_8 ?_
  refine R_astk_SD 4 dX8_sampleAt_9 hm rfl (by decide) (fun h hm => ?_)
  refine V_aload_n dX8_sampleAt_10 rfl ?_
  refine V_iload_n dX8_sampleAt_11 rfl ?_
  refine V_callV (Y' := YX8_isDirty) dX8_sampleAt_12 lX8_100 gX8_isDirty (m8_isDirty (by omega) hm hr1.2.2.2.2.2.1 hr1.2.2.2.2.2.2.2.1) hm.1 rfl rfl rfl (Nat.le_of_ble_eq_true rfl) ⟨Nat.zero_le _, Nat.zero_le _⟩ (fun v h1 sz1 hq => ?_)
  obtain ⟨t12, rfl, ht12, rfl, rfl⟩ := hq
  have ht15 : (t12 = 1 ∧ drt SD (SD 8).toNat b) ∨ (t12 = 0 ∧ ¬ drt SD (SD 8).toNat b) := ht12.imp (fun q => ⟨q.1, (drt_up (by omega)).mp q.2⟩) (fun q => ⟨q.1, fun w => q.2 ((drt_up (by omega)).mpr w)⟩)
  have htr : t12 = 1 ∨ t12 = 0 := ht15.imp (fun q => q.1) (fun q => q.1)
  refine J_if_ne (tgt := 23) dX8_sampleAt_15 (by decide) (by omega) (fun c15 => ?_) (fun c15 => ?_)
  · refine J_iconst dX8_sampleAt_23 ?_
    refine V_istore_n dX8_sampleAt_24 (Nat.le_of_ble_eq_true rfl) ?_
    first | exact l8_sampleAt_A ha hb hmk hma hs hr1 (ht15.elim (fun q => q.2) (fun q => absurd q.1 (by omega))) hm | exact l8_sampleAt_B ha hb hmk hma hs hr1 (ht15.elim (fun q => absurd q.1 (by omega)) (fun q => q.2)) hm
  · refine V_aload_n dX8_sampleAt_18 rfl ?_
    refine V_iload_n dX8_sampleAt_19 rfl ?_
    refine V_callV (Y' := YX8_decodes) dX8_sampleAt_20 lX8_103 gX8_decodes (m8_decodes (by omega) hs hm hr1) hm.1 rfl rfl rfl (Nat.le_of_ble_eq_true rfl) ⟨Nat.zero_le _, Nat.zero_le _⟩ (fun v h1 sz1 hq => ?_)
    obtain ⟨rfl, rfl, hm⟩ := hq
    refine J_iconst dX8_sampleAt_23 ?_
    refine V_istore_n dX8_sampleAt_24 (Nat.le_of_ble_eq_true rfl) ?_
    first | exact l8_sampleAt_A ha hb hmk hma hs hr1 (ht15.elim (fun q => q.2) (fun q => absurd q.1 (by omega))) hm | exact l8_sampleAt_B ha hb hmk hma hs hr1 (ht15.elim (fun q => absurd q.1 (by omega)) (fun q => q.2)) hm
set_option maxHeartbeats 4000000 in
set_option maxRecDepth 100000 in
theorem l8_moves {z : ZG} {d sz r n s : Nat} {g : AH} {l sp nu rs rm sc km : Int} {T RA RD MA NW KP : Nat → Int} {m : Nat} {t v : Int} (ht : 0 ≤ t ∧ t ≤ 9999) (hv : 1 ≤ v ∧ v ≤ 99) (hmk : m ≤ 6) (hma : ∀ j : Nat, j < 6 → 0 ≤ MA j ∧ MA j ≤ 9999) (hs : 8 ≤ sc ∧ sc ≤ 80) : ∀ (f : Nat) (SD : Nat → Int) (h : AH) (o3 o4 o5 : Option Value), (SD 0 - t).natAbs ≤ f → rok SD → MS g r n s l sp nu rs rm sc m km T RA RD MA NW SD KP h → V z YX8_moves (zroom (d + 3) 0 0) (fun w h' sz' => w = none ∧ sz' = sz ∧ MS g r n s l sp nu rs rm sc m km T RA RD MA NW (mvF sc m MA t v f SD) KP h') 0 [some (.ref r), some (.int (I t)), some (.int (I v)), o3, o4, o5] [] h sz 0 0 := by
  intro f
  induction f with
  | zero =>
    intro SD h o3 o4 o5 hf hr hm
    have hr0 := hr.1
    refine V_aload_n dX8_moves_0 rfl ?_
    refine V_get dX8_moves_1 fX8_25 hm.1 rfl ?_
    refine J_iconst dX8_moves_4 ?_
    refine R_aldk_SD 0 dX8_moves_5 hm rfl (by decide) ?_
    refine V_iload_n dX8_moves_6 rfl ?_
    refine J_icmp_eq (tgt := 71) dX8_moves_7 (by decide) (by omega) (by omega) (fun c7 => ?_) (fun c7 => ?_)
    · exact V_ret dX8_moves_71 rfl ⟨Nat.zero_le _, Nat.zero_le _⟩ ⟨rfl, rfl, hm⟩
    · exfalso
      omega
  | succ f ih =>
    intro SD h o3 o4 o5 hf hr hm
    have hr0 := hr.1
    refine V_aload_n dX8_moves_0 rfl ?_
    refine V_get dX8_moves_1 fX8_25 hm.1 rfl ?_
    refine J_iconst dX8_moves_4 ?_
    refine R_aldk_SD 0 dX8_moves_5 hm rfl (by decide) ?_
    refine V_iload_n dX8_moves_6 rfl ?_
    refine J_icmp_eq (tgt := 71) dX8_moves_7 (by decide) (by omega) (by omega) (fun c7 => ?_) (fun c7 => ?_)
    · exact V_ret dX8_moves_71 rfl ⟨Nat.zero_le _, Nat.zero_le _⟩ ⟨rfl, rfl, hm.eSD (fun j hj => by rw [mvF_s, if_pos c7])⟩
    · have hn1 := nxt_rg hr0 ht hv.1 c7
      refine V_aload_n dX8_moves_10 rfl ?_
      refine V_get dX8_moves_11 fX8_25 hm.1 rfl ?_
      refine J_iconst dX8_moves_14 ?_
      refine R_aldk_SD 0 dX8_moves_15 hm rfl (by decide) ?_
      refine V_istore_n dX8_moves_16 (Nat.le_of_ble_eq_true rfl) ?_
      refine V_iload_n dX8_moves_17 rfl ?_
      refine V_iload_n dX8_moves_18 rfl ?_
      refine J_icmp_le (tgt := 28) dX8_moves_19 (by decide) (by omega) (by omega) (fun c19 => ?_) (fun c19 => ?_)
      · refine V_iload_n dX8_moves_28 rfl ?_
        refine V_iload_n dX8_moves_29 rfl ?_
        refine J_isub dX8_moves_30 ?_
        refine V_istore dX8_moves_31 (Nat.le_of_ble_eq_true rfl) ?_
        refine V_iload dX8_moves_33 rfl ?_
        refine V_iload_n dX8_moves_35 rfl ?_
        refine J_icmp_ge (tgt := 44) dX8_moves_36 (by decide) (by omega) (by omega) (fun c36 => ?_) (fun c36 => ?_)
        · refine V_iload_n dX8_moves_44 rfl ?_
          refine V_istore dX8_moves_45 (Nat.le_of_ble_eq_true rfl) ?_
          refine V_aload_n dX8_moves_47 rfl ?_
          refine V_iload_n dX8_moves_48 rfl ?_
          refine V_iload_n dX8_moves_49 rfl ?_
          refine V_iload_n dX8_moves_50 rfl ?_
          refine J_icmp_le (tgt := 61) dX8_moves_51 (by decide) (by omega) (by omega) (fun c51 => ?_) (fun c51 => ?_)
          · refine V_iload_n dX8_moves_61 rfl ?_
            refine V_iload dX8_moves_62 rfl ?_
            refine J_isub dX8_moves_64 ?_
            refine V_top (b := nxt (SD 0) t v) (by unfold nxt; split <;> split <;> omega) ?_
            refine V_callV (Y' := YX8_sampleAt) dX8_moves_65 lX8_107 gX8_sampleAt (m8_sampleAt (by omega) hn1.1 hmk hma hs hm hr) hm.1 rfl rfl rfl (Nat.le_of_ble_eq_true rfl) ⟨Nat.zero_le _, Nat.zero_le _⟩ (fun v h1 sz1 hq => ?_)
            obtain ⟨rfl, rfl, hm⟩ := hq
            refine V_goto (tgt := 0) dX8_moves_68 (by decide) ?_
            refine V_mono ?_ (ih (smp sc m MA SD (SD 0) (nxt (SD 0) t v)) _ _ _ _ (by show (nxt (SD 0) t v - t).natAbs ≤ f; omega) (rok_smp (by omega) hn1.1 hr) hm)
            rintro w h2 sz2 ⟨rfl, rfl, hm⟩
            exact ⟨rfl, rfl, hm.eSD (fun j hj => by rw [mvF_s, if_neg c7])⟩
          · refine V_iload_n dX8_moves_54 rfl ?_
            refine V_iload dX8_moves_55 rfl ?_
            refine J_iadd dX8_moves_57 ?_
            refine V_goto (tgt := 65) dX8_moves_58 (by decide) ?_
            refine V_top (b := nxt (SD 0) t v) (by unfold nxt; split <;> split <;> omega) ?_
            refine V_callV (Y' := YX8_sampleAt) dX8_moves_65 lX8_107 gX8_sampleAt (m8_sampleAt (by omega) hn1.1 hmk hma hs hm hr) hm.1 rfl rfl rfl (Nat.le_of_ble_eq_true rfl) ⟨Nat.zero_le _, Nat.zero_le _⟩ (fun v h1 sz1 hq => ?_)
            obtain ⟨rfl, rfl, hm⟩ := hq
            refine V_goto (tgt := 0) dX8_moves_68 (by decide) ?_
            refine V_mono ?_ (ih (smp sc m MA SD (SD 0) (nxt (SD 0) t v)) _ _ _ _ (by show (nxt (SD 0) t v - t).natAbs ≤ f; omega) (rok_smp (by omega) hn1.1 hr) hm)
            rintro w h2 sz2 ⟨rfl, rfl, hm⟩
            exact ⟨rfl, rfl, hm.eSD (fun j hj => by rw [mvF_s, if_neg c7])⟩
        · refine V_iload dX8_moves_39 rfl ?_
          refine V_goto (tgt := 45) dX8_moves_41 (by decide) ?_
          refine V_istore dX8_moves_45 (Nat.le_of_ble_eq_true rfl) ?_
          refine V_aload_n dX8_moves_47 rfl ?_
          refine V_iload_n dX8_moves_48 rfl ?_
          refine V_iload_n dX8_moves_49 rfl ?_
          refine V_iload_n dX8_moves_50 rfl ?_
          refine J_icmp_le (tgt := 61) dX8_moves_51 (by decide) (by omega) (by omega) (fun c51 => ?_) (fun c51 => ?_)
          · refine V_iload_n dX8_moves_61 rfl ?_
            refine V_iload dX8_moves_62 rfl ?_
            refine J_isub dX8_moves_64 ?_
            refine V_top (b := nxt (SD 0) t v) (by unfold nxt; split <;> split <;> omega) ?_
            refine V_callV (Y' := YX8_sampleAt) dX8_moves_65 lX8_107 gX8_sampleAt (m8_sampleAt (by omega) hn1.1 hmk hma hs hm hr) hm.1 rfl rfl rfl (Nat.le_of_ble_eq_true rfl) ⟨Nat.zero_le _, Nat.zero_le _⟩ (fun v h1 sz1 hq => ?_)
            obtain ⟨rfl, rfl, hm⟩ := hq
            refine V_goto (tgt := 0) dX8_moves_68 (by decide) ?_
            refine V_mono ?_ (ih (smp sc m MA SD (SD 0) (nxt (SD 0) t v)) _ _ _ _ (by show (nxt (SD 0) t v - t).natAbs ≤ f; omega) (rok_smp (by omega) hn1.1 hr) hm)
            rintro w h2 sz2 ⟨rfl, rfl, hm⟩
            exact ⟨rfl, rfl, hm.eSD (fun j hj => by rw [mvF_s, if_neg c7])⟩
          · refine V_iload_n dX8_moves_54 rfl ?_
            refine V_iload dX8_moves_55 rfl ?_
            refine J_iadd dX8_moves_57 ?_
            refine V_goto (tgt := 65) dX8_moves_58 (by decide) ?_
            refine V_top (b := nxt (SD 0) t v) (by unfold nxt; split <;> split <;> omega) ?_
            refine V_callV (Y' := YX8_sampleAt) dX8_moves_65 lX8_107 gX8_sampleAt (m8_sampleAt (by omega) hn1.1 hmk hma hs hm hr) hm.1 rfl rfl rfl (Nat.le_of_ble_eq_true rfl) ⟨Nat.zero_le _, Nat.zero_le _⟩ (fun v h1 sz1 hq => ?_)
            obtain ⟨rfl, rfl, hm⟩ := hq
            refine V_goto (tgt := 0) dX8_moves_68 (by decide) ?_
            refine V_mono ?_ (ih (smp sc m MA SD (SD 0) (nxt (SD 0) t v)) _ _ _ _ (by show (nxt (SD 0) t v - t).natAbs ≤ f; omega) (rok_smp (by omega) hn1.1 hr) hm)
            rintro w h2 sz2 ⟨rfl, rfl, hm⟩
            exact ⟨rfl, rfl, hm.eSD (fun j hj => by rw [mvF_s, if_neg c7])⟩
      · refine V_iload_n dX8_moves_22 rfl ?_
        refine V_iload_n dX8_moves_23 rfl ?_
        refine J_isub dX8_moves_24 ?_
        refine V_goto (tgt := 31) dX8_moves_25 (by decide) ?_
        refine V_istore dX8_moves_31 (Nat.le_of_ble_eq_true rfl) ?_
        refine V_iload dX8_moves_33 rfl ?_
        refine V_iload_n dX8_moves_35 rfl ?_
        refine J_icmp_ge (tgt := 44) dX8_moves_36 (by decide) (by omega) (by omega) (fun c36 => ?_) (fun c36 => ?_)
        · refine V_iload_n dX8_moves_44 rfl ?_
          refine V_istore dX8_moves_45 (Nat.le_of_ble_eq_true rfl) ?_
          refine V_aload_n dX8_moves_47 rfl ?_
          refine V_iload_n dX8_moves_48 rfl ?_
          refine V_iload_n dX8_moves_49 rfl ?_
          refine V_iload_n dX8_moves_50 rfl ?_
          refine J_icmp_le (tgt := 61) dX8_moves_51 (by decide) (by omega) (by omega) (fun c51 => ?_) (fun c51 => ?_)
          · refine V_iload_n dX8_moves_61 rfl ?_
            refine V_iload dX8_moves_62 rfl ?_
            refine J_isub dX8_moves_64 ?_
            refine V_top (b := nxt (SD 0) t v) (by unfold nxt; split <;> split <;> omega) ?_
            refine V_callV (Y' := YX8_sampleAt) dX8_moves_65 lX8_107 gX8_sampleAt (m8_sampleAt (by omega) hn1.1 hmk hma hs hm hr) hm.1 rfl rfl rfl (Nat.le_of_ble_eq_true rfl) ⟨Nat.zero_le _, Nat.zero_le _⟩ (fun v h1 sz1 hq => ?_)
            obtain ⟨rfl, rfl, hm⟩ := hq
            refine V_goto (tgt := 0) dX8_moves_68 (by decide) ?_
            refine V_mono ?_ (ih (smp sc m MA SD (SD 0) (nxt (SD 0) t v)) _ _ _ _ (by show (nxt (SD 0) t v - t).natAbs ≤ f; omega) (rok_smp (by omega) hn1.1 hr) hm)
            rintro w h2 sz2 ⟨rfl, rfl, hm⟩
            exact ⟨rfl, rfl, hm.eSD (fun j hj => by rw [mvF_s, if_neg c7])⟩
          · refine V_iload_n dX8_moves_54 rfl ?_
            refine V_iload dX8_moves_55 rfl ?_
            refine J_iadd dX8_moves_57 ?_
            refine V_goto (tgt := 65) dX8_moves_58 (by decide) ?_
            refine V_top (b := nxt (SD 0) t v) (by unfold nxt; split <;> split <;> omega) ?_
            refine V_callV (Y' := YX8_sampleAt) dX8_moves_65 lX8_107 gX8_sampleAt (m8_sampleAt (by omega) hn1.1 hmk hma hs hm hr) hm.1 rfl rfl rfl (Nat.le_of_ble_eq_true rfl) ⟨Nat.zero_le _, Nat.zero_le _⟩ (fun v h1 sz1 hq => ?_)
            obtain ⟨rfl, rfl, hm⟩ := hq
            refine V_goto (tgt := 0) dX8_moves_68 (by decide) ?_
            refine V_mono ?_ (ih (smp sc m MA SD (SD 0) (nxt (SD 0) t v)) _ _ _ _ (by show (nxt (SD 0) t v - t).natAbs ≤ f; omega) (rok_smp (by omega) hn1.1 hr) hm)
            rintro w h2 sz2 ⟨rfl, rfl, hm⟩
            exact ⟨rfl, rfl, hm.eSD (fun j hj => by rw [mvF_s, if_neg c7])⟩
        · refine V_iload dX8_moves_39 rfl ?_
          refine V_goto (tgt := 45) dX8_moves_41 (by decide) ?_
          refine V_istore dX8_moves_45 (Nat.le_of_ble_eq_true rfl) ?_
          refine V_aload_n dX8_moves_47 rfl ?_
          refine V_iload_n dX8_moves_48 rfl ?_
          refine V_iload_n dX8_moves_49 rfl ?_
          refine V_iload_n dX8_moves_50 rfl ?_
          refine J_icmp_le (tgt := 61) dX8_moves_51 (by decide) (by omega) (by omega) (fun c51 => ?_) (fun c51 => ?_)
          · refine V_iload_n dX8_moves_61 rfl ?_
            refine V_iload dX8_moves_62 rfl ?_
            refine J_isub dX8_moves_64 ?_
            refine V_top (b := nxt (SD 0) t v) (by unfold nxt; split <;> split <;> omega) ?_
            refine V_callV (Y' := YX8_sampleAt) dX8_moves_65 lX8_107 gX8_sampleAt (m8_sampleAt (by omega) hn1.1 hmk hma hs hm hr) hm.1 rfl rfl rfl (Nat.le_of_ble_eq_true rfl) ⟨Nat.zero_le _, Nat.zero_le _⟩ (fun v h1 sz1 hq => ?_)
            obtain ⟨rfl, rfl, hm⟩ := hq
            refine V_goto (tgt := 0) dX8_moves_68 (by decide) ?_
            refine V_mono ?_ (ih (smp sc m MA SD (SD 0) (nxt (SD 0) t v)) _ _ _ _ (by show (nxt (SD 0) t v - t).natAbs ≤ f; omega) (rok_smp (by omega) hn1.1 hr) hm)
            rintro w h2 sz2 ⟨rfl, rfl, hm⟩
            exact ⟨rfl, rfl, hm.eSD (fun j hj => by rw [mvF_s, if_neg c7])⟩
          · refine V_iload_n dX8_moves_54 rfl ?_
            refine V_iload dX8_moves_55 rfl ?_
            refine J_iadd dX8_moves_57 ?_
            refine V_goto (tgt := 65) dX8_moves_58 (by decide) ?_
            refine V_top (b := nxt (SD 0) t v) (by unfold nxt; split <;> split <;> omega) ?_
            refine V_callV (Y' := YX8_sampleAt) dX8_moves_65 lX8_107 gX8_sampleAt (m8_sampleAt (by omega) hn1.1 hmk hma hs hm hr) hm.1 rfl rfl rfl (Nat.le_of_ble_eq_true rfl) ⟨Nat.zero_le _, Nat.zero_le _⟩ (fun v h1 sz1 hq => ?_)
            obtain ⟨rfl, rfl, hm⟩ := hq
            refine V_goto (tgt := 0) dX8_moves_68 (by decide) ?_
            refine V_mono ?_ (ih (smp sc m MA SD (SD 0) (nxt (SD 0) t v)) _ _ _ _ (by show (nxt (SD 0) t v - t).natAbs ≤ f; omega) (rok_smp (by omega) hn1.1 hr) hm)
            rintro w h2 sz2 ⟨rfl, rfl, hm⟩
            exact ⟨rfl, rfl, hm.eSD (fun j hj => by rw [mvF_s, if_neg c7])⟩
set_option maxHeartbeats 4000000 in
set_option maxRecDepth 100000 in
theorem m8_moves {z : ZG} {d sz r n s : Nat} {g h : AH} {l sp nu rs rm sc km : Int} {T RA RD MA NW SD KP : Nat → Int} {m : Nat} {t v : Int} (ht : 0 ≤ t ∧ t ≤ 9999) (hv : 1 ≤ v ∧ v ≤ 99) (hmk : m ≤ 6) (hma : ∀ j : Nat, j < 6 → 0 ≤ MA j ∧ MA j ≤ 9999) (hs : 8 ≤ sc ∧ sc ≤ 80) (hm : MS g r n s l sp nu rs rm sc m km T RA RD MA NW SD KP h) (hr : rok SD) : M z YX8_moves (d + 3) 0 0 [.ref r, .int (I t), .int (I v)] h sz (fun w h' sz' => w = none ∧ sz' = sz ∧ MS g r n s l sp nu rs rm sc m km T RA RD MA NW (mvF sc m MA t v 10000 SD) KP h') := by
  refine M.of (by decide +kernel) (Nat.le_of_ble_eq_true rfl) ?_
  exact l8_moves ht hv hmk hma hs 10000 SD h _ _ _ (by have := hr.1; omega) hr hm
