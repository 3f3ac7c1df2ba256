/-! THE CLASS: Decoder, Dirt, Log -/
/-- an object's cell; elsewhere the heap is g -/
def OB (g : AH) (a ci : Nat) (fs : List Value) (h : AH) : Prop := h a = some (.inl (ci, fs)) ∧ ∀ x, x ≠ a → h x = g x
theorem OB.mk {h : AH} {a ci : Nat} {fs : List Value} (e : h a = some (.inl (ci, fs))) : OB h a ci fs h := ⟨e, fun _ _ => rfl⟩
theorem OB.fr {g h : AH} {a ci : Nat} {fs : List Value} (x : OB g a ci fs h) : fr g h a (a + 1) := fun q hq => x.2 q (by omega)
section Orules
variable {z : ZG} {Y : ZM} {R : Room} {Q : ZQ} {pc : Nat} {L : AL} {st : List Value} {h : AH} {sz kc nc : Nat}
theorem RO_put {g : AH} {a i ci k : Nat} {fs : List Value} {ty : FieldType} {v : Value} (hd : decode Y.2.1 pc = .ok (.putfield i, 3)) (hw : ZF Y.1.cls i ci k) (ht : ZT ci k ty false) (hx : OB g a ci fs h) (hl : k < fs.length) (hn : narrow ty v = v) (hf : fits ty v = true) (kk : ∀ h' : AH, OB g a ci (fs.set k v) h' → V z Y R Q (pc + 3) L st h' sz kc nc) : V z Y R Q pc L (v :: .ref a :: st) h sz kc nc :=
  V_put hd hw ht hx.1 hl hn hf (kk _ ⟨hset_s, fun q hq => (hset_n hq).trans (hx.2 q hq)⟩)
theorem RO_putN {g : AH} {a i ci k : Nat} {fs : List Value} {ty : FieldType} {v : Value} (hd : decode Y.2.1 pc = .ok (.putfield i, 3)) (hw : ZFN Y.1.cls i ci k) (ht : ZT ci k ty false) (hx : OB g a ci fs h) (hl : k < fs.length) (hn : narrow ty v = v) (hf : fits ty v = true) (kk : ∀ h' : AH, OB g a ci (fs.set k v) h' → V z Y R Q (pc + 3) L st h' sz kc nc) : V z Y R Q pc L (v :: .ref a :: st) h sz kc nc :=
  V_putN hd hw ht hx.1 hl hn hf (kk _ ⟨hset_s, fun q hq => (hset_n hq).trans (hx.2 q hq)⟩)
end Orules
theorem RW.c {h : AH} {a cap : Nat} {n : Int} {f : Nat → Int} (r : RW h a cap n f) : h a = some (.inl (4, [.ref (a + 1), .int (I n)])) := by obtain ⟨u, h1, _⟩ := r; exact h1.1
set_option maxHeartbeats 4000000 in
set_option maxRecDepth 100000 in
theorem m0_init {z : ZG} {d sz a : Nat} {h : AH} : M z YX0_init (d + 1) 0 0 [.ref a] h sz (fun w h' sz' => w = none ∧ sz' = sz ∧ h' = h) := by
  refine M.of (by decide +kernel) (Nat.le_of_ble_eq_true rfl) ?_
  refine V_aload_n dX0_init_0 rfl ?_
  refine V_obj dX0_init_1 oX0_1 (Nat.le_of_ble_eq_true rfl) ?_
  exact V_ret dX0_init_4 rfl ⟨Nat.zero_le _, Nat.zero_le _⟩ ⟨rfl, rfl, rfl⟩
def cnC (m b : Int) : Int := if m = 4 ∨ b = 0 ∨ (m = 2 ∧ b = 2) then 1 else 0
theorem cnC_rg {m b : Int} : 0 ≤ cnC m b ∧ cnC m b ≤ 1 := by unfold cnC; split <;> omega
set_option maxHeartbeats 4000000 in
set_option maxRecDepth 100000 in
theorem m0_counts {z : ZG} {d sz : Nat} {h : AH} {b m : Int} (hb : -2147483648 ≤ b ∧ b < 2147483648) (hm : -2147483648 ≤ m ∧ m < 2147483648) : M z YX0_counts d 0 0 [.int (I b), .int (I m)] h sz (fun w h' sz' => w = some (.int (I (cnC m b))) ∧ h' = h ∧ sz' = sz) := by
  refine M.of (by decide +kernel) (Nat.le_of_ble_eq_true rfl) ?_
  refine V_iload_n dX0_counts_0 rfl ?_
  refine J_iconst dX0_counts_1 ?_
  refine J_icmp_eq (tgt := 19) dX0_counts_2 (by decide) (by omega) (by omega) (fun c2 => ?_) (fun c2 => ?_)
  · refine J_iconst dX0_counts_19 ?_
    refine V_goto (tgt := 24) dX0_counts_20 (by decide) ?_
    exact V_iret dX0_counts_24 rfl rfl ⟨Nat.zero_le _, Nat.zero_le _⟩ ⟨by unfold cnC; first | rw [if_pos (by omega)] | rw [if_neg (by omega)], rfl, rfl⟩
  · refine V_iload_n dX0_counts_5 rfl ?_
    refine J_if_eq (tgt := 19) dX0_counts_6 (by decide) (by omega) (fun c6 => ?_) (fun c6 => ?_)
    · refine J_iconst dX0_counts_19 ?_
      refine V_goto (tgt := 24) dX0_counts_20 (by decide) ?_
      exact V_iret dX0_counts_24 rfl rfl ⟨Nat.zero_le _, Nat.zero_le _⟩ ⟨by unfold cnC; first | rw [if_pos (by omega)] | rw [if_neg (by omega)], rfl, rfl⟩
    · refine V_iload_n dX0_counts_9 rfl ?_
      refine J_iconst dX0_counts_10 ?_
      refine J_icmp_ne (tgt := 23) dX0_counts_11 (by decide) (by omega) (by omega) (fun c11 => ?_) (fun c11 => ?_)
      · refine J_iconst dX0_counts_23 ?_
        exact V_iret dX0_counts_24 rfl rfl ⟨Nat.zero_le _, Nat.zero_le _⟩ ⟨by unfold cnC; first | rw [if_pos (by omega)] | rw [if_neg (by omega)], rfl, rfl⟩
      · refine V_iload_n dX0_counts_14 rfl ?_
        refine J_iconst dX0_counts_15 ?_
        refine J_icmp_ne (tgt := 23) dX0_counts_16 (by decide) (by omega) (by omega) (fun c16 => ?_) (fun c16 => ?_)
        · refine J_iconst dX0_counts_23 ?_
          exact V_iret dX0_counts_24 rfl rfl ⟨Nat.zero_le _, Nat.zero_le _⟩ ⟨by unfold cnC; first | rw [if_pos (by omega)] | rw [if_neg (by omega)], rfl, rfl⟩
        · refine J_iconst dX0_counts_19 ?_
          refine V_goto (tgt := 24) dX0_counts_20 (by decide) ?_
          exact V_iret dX0_counts_24 rfl rfl ⟨Nat.zero_le _, Nat.zero_le _⟩ ⟨by unfold cnC; first | rw [if_pos (by omega)] | rw [if_neg (by omega)], rfl, rfl⟩
/-- what a decoder reads: the counter's and the misses' new value; 2: missed -/
def dcC (m q c nx : Int) : Int := if (nx - q + 4) % 4 = 1 then c + cnC m nx else if (nx - q + 4) % 4 = 3 then c - cnC m q else c
set_option maxHeartbeats 4000000 in
set_option maxRecDepth 100000 in
theorem m0_read {z : ZG} {d sz a : Nat} {h : AH} {q c ms nx m : Int} (hq0 : 0 ≤ q ∧ q ≤ 3) (hn : 0 ≤ nx ∧ nx ≤ 3) (hm : -2147483648 ≤ m ∧ m < 2147483648) (hT : h a = some (.inl (0, [.int (I q), .long (J c), .int (I ms)]))) : M z YX0_read (d + 1) 0 0 [.ref a, .int (I nx), .int (I m)] h sz (fun w h' sz' => (∃ t : Int, w = some (.int (I t)) ∧ ((t = 1 ∧ (nx - q + 4) % 4 = 2) ∨ (t = 0 ∧ ¬ (nx - q + 4) % 4 = 2))) ∧ sz' = sz ∧ OB h a 0 [.int (I nx), .long (J (dcC m q c nx)), .int (I (if (nx - q + 4) % 4 = 2 then ms + 1 else ms))] h') := by
  refine M.of (by decide +kernel) (Nat.le_of_ble_eq_true rfl) ?_
  have hx := OB.mk hT
  refine V_aload_n dX0_read_0 rfl ?_
  refine V_get dX0_read_1 fX0_7 hx.1 rfl ?_
  refine V_istore_n dX0_read_4 (Nat.le_of_ble_eq_true rfl) ?_
  refine V_iload_n dX0_read_5 rfl ?_
  refine V_iload_n dX0_read_6 rfl ?_
  refine J_isub dX0_read_7 ?_
  refine J_iconst dX0_read_8 ?_
  refine J_iadd dX0_read_9 ?_
  refine J_iconst dX0_read_10 ?_
  refine J_irem dX0_read_11 (by omega) (by omega) ?_
  refine V_istore dX0_read_12 (Nat.le_of_ble_eq_true rfl) ?_
  refine V_aload_n dX0_read_14 rfl ?_
  refine V_iload_n dX0_read_15 rfl ?_
  refine RO_put dX0_read_16 fX0_7 tX0_0 hx (Nat.le_of_ble_eq_true rfl) rfl rfl (fun h hx => ?_)
  refine V_iload dX0_read_19 rfl ?_
  refine J_iconst dX0_read_21 ?_
  refine J_icmp_ne (tgt := 43) dX0_read_22 (by decide) (by omega) (by omega) (fun c22 => ?_) (fun c22 => ?_)
  · refine V_iload dX0_read_43 rfl ?_
    refine J_iconst dX0_read_45 ?_
    refine J_icmp_ne (tgt := 67) dX0_read_46 (by decide) (by omega) (by omega) (fun c46 => ?_) (fun c46 => ?_)
    · refine V_iload dX0_read_67 rfl ?_
      refine J_iconst dX0_read_69 ?_
      refine J_icmp_ne (tgt := 83) dX0_read_70 (by decide) (by omega) (by omega) (fun c70 => ?_) (fun c70 => ?_)
      · refine V_iload dX0_read_83 rfl ?_
        refine J_iconst dX0_read_85 ?_
        refine J_icmp_ne (tgt := 93) dX0_read_86 (by decide) (by omega) (by omega) (fun c86 => ?_) (fun c86 => ?_)
        · refine J_iconst dX0_read_93 ?_
          exact V_iret dX0_read_94 rfl rfl ⟨Nat.zero_le _, Nat.zero_le _⟩ ⟨⟨_, rfl, by omega⟩, rfl, by unfold dcC; first | (rw [if_neg (show ¬ (nx - q + 4) % 4 = 1 by omega), if_neg (show ¬ (nx - q + 4) % 4 = 3 by omega)]; first | (rw [if_pos (show (nx - q + 4) % 4 = 2 by omega)]; exact hx) | (rw [if_neg (show ¬ (nx - q + 4) % 4 = 2 by omega)]; exact hx)) | (rw [if_pos (show (nx - q + 4) % 4 = 1 by omega), if_neg (show ¬ (nx - q + 4) % 4 = 2 by omega)]; first | (rw [show cnC m nx = 1 by omega]; exact hx) | (rw [show cnC m nx = 0 by omega, Int.add_zero]; exact hx)) | (rw [if_neg (show ¬ (nx - q + 4) % 4 = 1 by omega), if_pos (show (nx - q + 4) % 4 = 3 by omega), if_neg (show ¬ (nx - q + 4) % 4 = 2 by omega)]; first | (rw [show cnC m q = 1 by omega]; exact hx) | (rw [show cnC m q = 0 by omega, Int.sub_zero]; exact hx)) | (exfalso; omega)⟩
        · refine J_iconst dX0_read_89 ?_
          refine V_goto (tgt := 94) dX0_read_90 (by decide) ?_
          exact V_iret dX0_read_94 rfl rfl ⟨Nat.zero_le _, Nat.zero_le _⟩ ⟨⟨_, rfl, by omega⟩, rfl, by unfold dcC; first | (rw [if_neg (show ¬ (nx - q + 4) % 4 = 1 by omega), if_neg (show ¬ (nx - q + 4) % 4 = 3 by omega)]; first | (rw [if_pos (show (nx - q + 4) % 4 = 2 by omega)]; exact hx) | (rw [if_neg (show ¬ (nx - q + 4) % 4 = 2 by omega)]; exact hx)) | (rw [if_pos (show (nx - q + 4) % 4 = 1 by omega), if_neg (show ¬ (nx - q + 4) % 4 = 2 by omega)]; first | (rw [show cnC m nx = 1 by omega]; exact hx) | (rw [show cnC m nx = 0 by omega, Int.add_zero]; exact hx)) | (rw [if_neg (show ¬ (nx - q + 4) % 4 = 1 by omega), if_pos (show (nx - q + 4) % 4 = 3 by omega), if_neg (show ¬ (nx - q + 4) % 4 = 2 by omega)]; first | (rw [show cnC m q = 1 by omega]; exact hx) | (rw [show cnC m q = 0 by omega, Int.sub_zero]; exact hx)) | (exfalso; omega)⟩
      · refine V_aload_n dX0_read_73 rfl ?_
        refine V_dup dX0_read_74 rfl ?_
        refine V_get dX0_read_75 fX0_21 hx.1 rfl ?_
        refine J_iconst dX0_read_78 ?_
        refine J_iadd dX0_read_79 ?_
        refine RO_put dX0_read_80 fX0_21 tX0_2 hx (Nat.le_of_ble_eq_true rfl) rfl rfl (fun h hx => ?_)
        refine V_iload dX0_read_83 rfl ?_
        refine J_iconst dX0_read_85 ?_
        refine J_icmp_ne (tgt := 93) dX0_read_86 (by decide) (by omega) (by omega) (fun c86 => ?_) (fun c86 => ?_)
        · refine J_iconst dX0_read_93 ?_
          exact V_iret dX0_read_94 rfl rfl ⟨Nat.zero_le _, Nat.zero_le _⟩ ⟨⟨_, rfl, by omega⟩, rfl, by unfold dcC; first | (rw [if_neg (show ¬ (nx - q + 4) % 4 = 1 by omega), if_neg (show ¬ (nx - q + 4) % 4 = 3 by omega)]; first | (rw [if_pos (show (nx - q + 4) % 4 = 2 by omega)]; exact hx) | (rw [if_neg (show ¬ (nx - q + 4) % 4 = 2 by omega)]; exact hx)) | (rw [if_pos (show (nx - q + 4) % 4 = 1 by omega), if_neg (show ¬ (nx - q + 4) % 4 = 2 by omega)]; first | (rw [show cnC m nx = 1 by omega]; exact hx) | (rw [show cnC m nx = 0 by omega, Int.add_zero]; exact hx)) | (rw [if_neg (show ¬ (nx - q + 4) % 4 = 1 by omega), if_pos (show (nx - q + 4) % 4 = 3 by omega), if_neg (show ¬ (nx - q + 4) % 4 = 2 by omega)]; first | (rw [show cnC m q = 1 by omega]; exact hx) | (rw [show cnC m q = 0 by omega, Int.sub_zero]; exact hx)) | (exfalso; omega)⟩
        · refine J_iconst dX0_read_89 ?_
          refine V_goto (tgt := 94) dX0_read_90 (by decide) ?_
          exact V_iret dX0_read_94 rfl rfl ⟨Nat.zero_le _, Nat.zero_le _⟩ ⟨⟨_, rfl, by omega⟩, rfl, by unfold dcC; first | (rw [if_neg (show ¬ (nx - q + 4) % 4 = 1 by omega), if_neg (show ¬ (nx - q + 4) % 4 = 3 by omega)]; first | (rw [if_pos (show (nx - q + 4) % 4 = 2 by omega)]; exact hx) | (rw [if_neg (show ¬ (nx - q + 4) % 4 = 2 by omega)]; exact hx)) | (rw [if_pos (show (nx - q + 4) % 4 = 1 by omega), if_neg (show ¬ (nx - q + 4) % 4 = 2 by omega)]; first | (rw [show cnC m nx = 1 by omega]; exact hx) | (rw [show cnC m nx = 0 by omega, Int.add_zero]; exact hx)) | (rw [if_neg (show ¬ (nx - q + 4) % 4 = 1 by omega), if_pos (show (nx - q + 4) % 4 = 3 by omega), if_neg (show ¬ (nx - q + 4) % 4 = 2 by omega)]; first | (rw [show cnC m q = 1 by omega]; exact hx) | (rw [show cnC m q = 0 by omega, Int.sub_zero]; exact hx)) | (exfalso; omega)⟩
    · refine V_iload_n dX0_read_49 rfl ?_
      refine V_iload_n dX0_read_50 rfl ?_
      refine V_callS (Y' := YX0_counts) dX0_read_51 lX0_13 gX0_counts (m0_counts (by omega) (by omega)) rfl rfl (Nat.le_of_ble_eq_true rfl) ⟨Nat.zero_le _, Nat.zero_le _⟩ (fun v h1 sz1 hq => ?_)
      obtain ⟨rfl, rfl, rfl⟩ := hq
      have hcn51 := cnC_rg (m := m) (b := q)
      refine J_if_eq (tgt := 67) dX0_read_54 (by decide) (by omega) (fun c54 => ?_) (fun c54 => ?_)
      · refine V_iload dX0_read_67 rfl ?_
        refine J_iconst dX0_read_69 ?_
        refine J_icmp_ne (tgt := 83) dX0_read_70 (by decide) (by omega) (by omega) (fun c70 => ?_) (fun c70 => ?_)
        · refine V_iload dX0_read_83 rfl ?_
          refine J_iconst dX0_read_85 ?_
          refine J_icmp_ne (tgt := 93) dX0_read_86 (by decide) (by omega) (by omega) (fun c86 => ?_) (fun c86 => ?_)
          · refine J_iconst dX0_read_93 ?_
            exact V_iret dX0_read_94 rfl rfl ⟨Nat.zero_le _, Nat.zero_le _⟩ ⟨⟨_, rfl, by omega⟩, rfl, by unfold dcC; first | (rw [if_neg (show ¬ (nx - q + 4) % 4 = 1 by omega), if_neg (show ¬ (nx - q + 4) % 4 = 3 by omega)]; first | (rw [if_pos (show (nx - q + 4) % 4 = 2 by omega)]; exact hx) | (rw [if_neg (show ¬ (nx - q + 4) % 4 = 2 by omega)]; exact hx)) | (rw [if_pos (show (nx - q + 4) % 4 = 1 by omega), if_neg (show ¬ (nx - q + 4) % 4 = 2 by omega)]; first | (rw [show cnC m nx = 1 by omega]; exact hx) | (rw [show cnC m nx = 0 by omega, Int.add_zero]; exact hx)) | (rw [if_neg (show ¬ (nx - q + 4) % 4 = 1 by omega), if_pos (show (nx - q + 4) % 4 = 3 by omega), if_neg (show ¬ (nx - q + 4) % 4 = 2 by omega)]; first | (rw [show cnC m q = 1 by omega]; exact hx) | (rw [show cnC m q = 0 by omega, Int.sub_zero]; exact hx)) | (exfalso; omega)⟩
          · refine J_iconst dX0_read_89 ?_
            refine V_goto (tgt := 94) dX0_read_90 (by decide) ?_
            exact V_iret dX0_read_94 rfl rfl ⟨Nat.zero_le _, Nat.zero_le _⟩ ⟨⟨_, rfl, by omega⟩, rfl, by unfold dcC; first | (rw [if_neg (show ¬ (nx - q + 4) % 4 = 1 by omega), if_neg (show ¬ (nx - q + 4) % 4 = 3 by omega)]; first | (rw [if_pos (show (nx - q + 4) % 4 = 2 by omega)]; exact hx) | (rw [if_neg (show ¬ (nx - q + 4) % 4 = 2 by omega)]; exact hx)) | (rw [if_pos (show (nx - q + 4) % 4 = 1 by omega), if_neg (show ¬ (nx - q + 4) % 4 = 2 by omega)]; first | (rw [show cnC m nx = 1 by omega]; exact hx) | (rw [show cnC m nx = 0 by omega, Int.add_zero]; exact hx)) | (rw [if_neg (show ¬ (nx - q + 4) % 4 = 1 by omega), if_pos (show (nx - q + 4) % 4 = 3 by omega), if_neg (show ¬ (nx - q + 4) % 4 = 2 by omega)]; first | (rw [show cnC m q = 1 by omega]; exact hx) | (rw [show cnC m q = 0 by omega, Int.sub_zero]; exact hx)) | (exfalso; omega)⟩
        · refine V_aload_n dX0_read_73 rfl ?_
          refine V_dup dX0_read_74 rfl ?_
          refine V_get dX0_read_75 fX0_21 hx.1 rfl ?_
          refine J_iconst dX0_read_78 ?_
          refine J_iadd dX0_read_79 ?_
          refine RO_put dX0_read_80 fX0_21 tX0_2 hx (Nat.le_of_ble_eq_true rfl) rfl rfl (fun h hx => ?_)
          refine V_iload dX0_read_83 rfl ?_
          refine J_iconst dX0_read_85 ?_
          refine J_icmp_ne (tgt := 93) dX0_read_86 (by decide) (by omega) (by omega) (fun c86 => ?_) (fun c86 => ?_)
          · refine J_iconst dX0_read_93 ?_
            exact V_iret dX0_read_94 rfl rfl ⟨Nat.zero_le _, Nat.zero_le _⟩ ⟨⟨_, rfl, by omega⟩, rfl, by unfold dcC; first | (rw [if_neg (show ¬ (nx - q + 4) % 4 = 1 by omega), if_neg (show ¬ (nx - q + 4) % 4 = 3 by omega)]; first | (rw [if_pos (show (nx - q + 4) % 4 = 2 by omega)]; exact hx) | (rw [if_neg (show ¬ (nx - q + 4) % 4 = 2 by omega)]; exact hx)) | (rw [if_pos (show (nx - q + 4) % 4 = 1 by omega), if_neg (show ¬ (nx - q + 4) % 4 = 2 by omega)]; first | (rw [show cnC m nx = 1 by omega]; exact hx) | (rw [show cnC m nx = 0 by omega, Int.add_zero]; exact hx)) | (rw [if_neg (show ¬ (nx - q + 4) % 4 = 1 by omega), if_pos (show (nx - q + 4) % 4 = 3 by omega), if_neg (show ¬ (nx - q + 4) % 4 = 2 by omega)]; first | (rw [show cnC m q = 1 by omega]; exact hx) | (rw [show cnC m q = 0 by omega, Int.sub_zero]; exact hx)) | (exfalso; omega)⟩
          · refine J_iconst dX0_read_89 ?_
            refine V_goto (tgt := 94) dX0_read_90 (by decide) ?_
            exact V_iret dX0_read_94 rfl rfl ⟨Nat.zero_le _, Nat.zero_le _⟩ ⟨⟨_, rfl, by omega⟩, rfl, by unfold dcC; first | (rw [if_neg (show ¬ (nx - q + 4) % 4 = 1 by omega), if_neg (show ¬ (nx - q + 4) % 4 = 3 by omega)]; first | (rw [if_pos (show (nx - q + 4) % 4 = 2 by omega)]; exact hx) | (rw [if_neg (show ¬ (nx - q + 4) % 4 = 2 by omega)]; exact hx)) | (rw [if_pos (show (nx - q + 4) % 4 = 1 by omega), if_neg (show ¬ (nx - q + 4) % 4 = 2 by omega)]; first | (rw [show cnC m nx = 1 by omega]; exact hx) | (rw [show cnC m nx = 0 by omega, Int.add_zero]; exact hx)) | (rw [if_neg (show ¬ (nx - q + 4) % 4 = 1 by omega), if_pos (show (nx - q + 4) % 4 = 3 by omega), if_neg (show ¬ (nx - q + 4) % 4 = 2 by omega)]; first | (rw [show cnC m q = 1 by omega]; exact hx) | (rw [show cnC m q = 0 by omega, Int.sub_zero]; exact hx)) | (exfalso; omega)⟩
      · refine V_aload_n dX0_read_57 rfl ?_
        refine V_dup dX0_read_58 rfl ?_
        refine V_get dX0_read_59 fX0_17 hx.1 rfl ?_
        refine J_lconst1 dX0_read_62 ?_
        refine J_lsub dX0_read_63 ?_
        refine RO_put dX0_read_64 fX0_17 tX0_1 hx (Nat.le_of_ble_eq_true rfl) rfl rfl (fun h hx => ?_)
        refine V_iload dX0_read_67 rfl ?_
        refine J_iconst dX0_read_69 ?_
        refine J_icmp_ne (tgt := 83) dX0_read_70 (by decide) (by omega) (by omega) (fun c70 => ?_) (fun c70 => ?_)
        · refine V_iload dX0_read_83 rfl ?_
          refine J_iconst dX0_read_85 ?_
          refine J_icmp_ne (tgt := 93) dX0_read_86 (by decide) (by omega) (by omega) (fun c86 => ?_) (fun c86 => ?_)
          · refine J_iconst dX0_read_93 ?_
            exact V_iret dX0_read_94 rfl rfl ⟨Nat.zero_le _, Nat.zero_le _⟩ ⟨⟨_, rfl, by omega⟩, rfl, by unfold dcC; first | (rw [if_neg (show ¬ (nx - q + 4) % 4 = 1 by omega), if_neg (show ¬ (nx - q + 4) % 4 = 3 by omega)]; first | (rw [if_pos (show (nx - q + 4) % 4 = 2 by omega)]; exact hx) | (rw [if_neg (show ¬ (nx - q + 4) % 4 = 2 by omega)]; exact hx)) | (rw [if_pos (show (nx - q + 4) % 4 = 1 by omega), if_neg (show ¬ (nx - q + 4) % 4 = 2 by omega)]; first | (rw [show cnC m nx = 1 by omega]; exact hx) | (rw [show cnC m nx = 0 by omega, Int.add_zero]; exact hx)) | (rw [if_neg (show ¬ (nx - q + 4) % 4 = 1 by omega), if_pos (show (nx - q + 4) % 4 = 3 by omega), if_neg (show ¬ (nx - q + 4) % 4 = 2 by omega)]; first | (rw [show cnC m q = 1 by omega]; exact hx) | (rw [show cnC m q = 0 by omega, Int.sub_zero]; exact hx)) | (exfalso; omega)⟩
          · refine J_iconst dX0_read_89 ?_
            refine V_goto (tgt := 94) dX0_read_90 (by decide) ?_
            exact V_iret dX0_read_94 rfl rfl ⟨Nat.zero_le _, Nat.zero_le _⟩ ⟨⟨_, rfl, by omega⟩, rfl, by unfold dcC; first | (rw [if_neg (show ¬ (nx - q + 4) % 4 = 1 by omega), if_neg (show ¬ (nx - q + 4) % 4 = 3 by omega)]; first | (rw [if_pos (show (nx - q + 4) % 4 = 2 by omega)]; exact hx) | (rw [if_neg (show ¬ (nx - q + 4) % 4 = 2 by omega)]; exact hx)) | (rw [if_pos (show (nx - q + 4) % 4 = 1 by omega), if_neg (show ¬ (nx - q + 4) % 4 = 2 by omega)]; first | (rw [show cnC m nx = 1 by omega]; exact hx) | (rw [show cnC m nx = 0 by omega, Int.add_zero]; exact hx)) | (rw [if_neg (show ¬ (nx - q + 4) % 4 = 1 by omega), if_pos (show (nx - q + 4) % 4 = 3 by omega), if_neg (show ¬ (nx - q + 4) % 4 = 2 by omega)]; first | (rw [show cnC m q = 1 by omega]; exact hx) | (rw [show cnC m q = 0 by omega, Int.sub_zero]; exact hx)) | (exfalso; omega)⟩
        · refine V_aload_n dX0_read_73 rfl ?_
          refine V_dup dX0_read_74 rfl ?_
          refine V_get dX0_read_75 fX0_21 hx.1 rfl ?_
          refine J_iconst dX0_read_78 ?_
          refine J_iadd dX0_read_79 ?_
          refine RO_put dX0_read_80 fX0_21 tX0_2 hx (Nat.le_of_ble_eq_true rfl) rfl rfl (fun h hx => ?_)
          refine V_iload dX0_read_83 rfl ?_
          refine J_iconst dX0_read_85 ?_
          refine J_icmp_ne (tgt := 93) dX0_read_86 (by decide) (by omega) (by omega) (fun c86 => ?_) (fun c86 => ?_)
          · refine J_iconst dX0_read_93 ?_
            exact V_iret dX0_read_94 rfl rfl ⟨Nat.zero_le _, Nat.zero_le _⟩ ⟨⟨_, rfl, by omega⟩, rfl, by unfold dcC; first | (rw [if_neg (show ¬ (nx - q + 4) % 4 = 1 by omega), if_neg (show ¬ (nx - q + 4) % 4 = 3 by omega)]; first | (rw [if_pos (show (nx - q + 4) % 4 = 2 by omega)]; exact hx) | (rw [if_neg (show ¬ (nx - q + 4) % 4 = 2 by omega)]; exact hx)) | (rw [if_pos (show (nx - q + 4) % 4 = 1 by omega), if_neg (show ¬ (nx - q + 4) % 4 = 2 by omega)]; first | (rw [show cnC m nx = 1 by omega]; exact hx) | (rw [show cnC m nx = 0 by omega, Int.add_zero]; exact hx)) | (rw [if_neg (show ¬ (nx - q + 4) % 4 = 1 by omega), if_pos (show (nx - q + 4) % 4 = 3 by omega), if_neg (show ¬ (nx - q + 4) % 4 = 2 by omega)]; first | (rw [show cnC m q = 1 by omega]; exact hx) | (rw [show cnC m q = 0 by omega, Int.sub_zero]; exact hx)) | (exfalso; omega)⟩
          · refine J_iconst dX0_read_89 ?_
            refine V_goto (tgt := 94) dX0_read_90 (by decide) ?_
            exact V_iret dX0_read_94 rfl rfl ⟨Nat.zero_le _, Nat.zero_le _⟩ ⟨⟨_, rfl, by omega⟩, rfl, by unfold dcC; first | (rw [if_neg (show ¬ (nx - q + 4) % 4 = 1 by omega), if_neg (show ¬ (nx - q + 4) % 4 = 3 by omega)]; first | (rw [if_pos (show (nx - q + 4) % 4 = 2 by omega)]; exact hx) | (rw [if_neg (show ¬ (nx - q + 4) % 4 = 2 by omega)]; exact hx)) | (rw [if_pos (show (nx - q + 4) % 4 = 1 by omega), if_neg (show ¬ (nx - q + 4) % 4 = 2 by omega)]; first | (rw [show cnC m nx = 1 by omega]; exact hx) | (rw [show cnC m nx = 0 by omega, Int.add_zero]; exact hx)) | (rw [if_neg (show ¬ (nx - q + 4) % 4 = 1 by omega), if_pos (show (nx - q + 4) % 4 = 3 by omega), if_neg (show ¬ (nx - q + 4) % 4 = 2 by omega)]; first | (rw [show cnC m q = 1 by omega]; exact hx) | (rw [show cnC m q = 0 by omega, Int.sub_zero]; exact hx)) | (exfalso; omega)⟩
  · refine V_iload_n dX0_read_25 rfl ?_
    refine V_iload_n dX0_read_26 rfl ?_
    refine V_callS (Y' := YX0_counts) dX0_read_27 lX0_13 gX0_counts (m0_counts (by omega) (by omega)) rfl rfl (Nat.le_of_ble_eq_true rfl) ⟨Nat.zero_le _, Nat.zero_le _⟩ (fun v h1 sz1 hq => ?_)
    obtain ⟨rfl, rfl, rfl⟩ := hq
    have hcn27 := cnC_rg (m := m) (b := nx)
    refine J_if_eq (tgt := 43) dX0_read_30 (by decide) (by omega) (fun c30 => ?_) (fun c30 => ?_)
    · refine V_iload dX0_read_43 rfl ?_
      refine J_iconst dX0_read_45 ?_
      refine J_icmp_ne (tgt := 67) dX0_read_46 (by decide) (by omega) (by omega) (fun c46 => ?_) (fun c46 => ?_)
      · refine V_iload dX0_read_67 rfl ?_
        refine J_iconst dX0_read_69 ?_
        refine J_icmp_ne (tgt := 83) dX0_read_70 (by decide) (by omega) (by omega) (fun c70 => ?_) (fun c70 => ?_)
        · refine V_iload dX0_read_83 rfl ?_
          refine J_iconst dX0_read_85 ?_
          refine J_icmp_ne (tgt := 93) dX0_read_86 (by decide) (by omega) (by omega) (fun c86 => ?_) (fun c86 => ?_)
          · refine J_iconst dX0_read_93 ?_
            exact V_iret dX0_read_94 rfl rfl ⟨Nat.zero_le _, Nat.zero_le _⟩ ⟨⟨_, rfl, by omega⟩, rfl, by unfold dcC; first | (rw [if_neg (show ¬ (nx - q + 4) % 4 = 1 by omega), if_neg (show ¬ (nx - q + 4) % 4 = 3 by omega)]; first | (rw [if_pos (show (nx - q + 4) % 4 = 2 by omega)]; exact hx) | (rw [if_neg (show ¬ (nx - q + 4) % 4 = 2 by omega)]; exact hx)) | (rw [if_pos (show (nx - q + 4) % 4 = 1 by omega), if_neg (show ¬ (nx - q + 4) % 4 = 2 by omega)]; first | (rw [show cnC m nx = 1 by omega]; exact hx) | (rw [show cnC m nx = 0 by omega, Int.add_zero]; exact hx)) | (rw [if_neg (show ¬ (nx - q + 4) % 4 = 1 by omega), if_pos (show (nx - q + 4) % 4 = 3 by omega), if_neg (show ¬ (nx - q + 4) % 4 = 2 by omega)]; first | (rw [show cnC m q = 1 by omega]; exact hx) | (rw [show cnC m q = 0 by omega, Int.sub_zero]; exact hx)) | (exfalso; omega)⟩
          · refine J_iconst dX0_read_89 ?_
            refine V_goto (tgt := 94) dX0_read_90 (by decide) ?_
            exact V_iret dX0_read_94 rfl rfl ⟨Nat.zero_le _, Nat.zero_le _⟩ ⟨⟨_, rfl, by omega⟩, rfl, by unfold dcC; first | (rw [if_neg (show ¬ (nx - q + 4) % 4 = 1 by omega), if_neg (show ¬ (nx - q + 4) % 4 = 3 by omega)]; first | (rw [if_pos (show (nx - q + 4) % 4 = 2 by omega)]; exact hx) | (rw [if_neg (show ¬ (nx - q + 4) % 4 = 2 by omega)]; exact hx)) | (rw [if_pos (show (nx - q + 4) % 4 = 1 by omega), if_neg (show ¬ (nx - q + 4) % 4 = 2 by omega)]; first | (rw [show cnC m nx = 1 by omega]; exact hx) | (rw [show cnC m nx = 0 by omega, Int.add_zero]; exact hx)) | (rw [if_neg (show ¬ (nx - q + 4) % 4 = 1 by omega), if_pos (show (nx - q + 4) % 4 = 3 by omega), if_neg (show ¬ (nx - q + 4) % 4 = 2 by omega)]; first | (rw [show cnC m q = 1 by omega]; exact hx) | (rw [show cnC m q = 0 by omega, Int.sub_zero]; exact hx)) | (exfalso; omega)⟩
        · refine V_aload_n dX0_read_73 rfl ?_
          refine V_dup dX0_read_74 rfl ?_
          refine V_get dX0_read_75 fX0_21 hx.1 rfl ?_
          refine J_iconst dX0_read_78 ?_
          refine J_iadd dX0_read_79 ?_
          refine RO_put dX0_read_80 fX0_21 tX0_2 hx (Nat.le_of_ble_eq_true rfl) rfl rfl (fun h hx => ?_)
          refine V_iload dX0_read_83 rfl ?_
          refine J_iconst dX0_read_85 ?_
          refine J_icmp_ne (tgt := 93) dX0_read_86 (by decide) (by omega) (by omega) (fun c86 => ?_) (fun c86 => ?_)
          · refine J_iconst dX0_read_93 ?_
            exact V_iret dX0_read_94 rfl rfl ⟨Nat.zero_le _, Nat.zero_le _⟩ ⟨⟨_, rfl, by omega⟩, rfl, by unfold dcC; first | (rw [if_neg (show ¬ (nx - q + 4) % 4 = 1 by omega), if_neg (show ¬ (nx - q + 4) % 4 = 3 by omega)]; first | (rw [if_pos (show (nx - q + 4) % 4 = 2 by omega)]; exact hx) | (rw [if_neg (show ¬ (nx - q + 4) % 4 = 2 by omega)]; exact hx)) | (rw [if_pos (show (nx - q + 4) % 4 = 1 by omega), if_neg (show ¬ (nx - q + 4) % 4 = 2 by omega)]; first | (rw [show cnC m nx = 1 by omega]; exact hx) | (rw [show cnC m nx = 0 by omega, Int.add_zero]; exact hx)) | (rw [if_neg (show ¬ (nx - q + 4) % 4 = 1 by omega), if_pos (show (nx - q + 4) % 4 = 3 by omega), if_neg (show ¬ (nx - q + 4) % 4 = 2 by omega)]; first | (rw [show cnC m q = 1 by omega]; exact hx) | (rw [show cnC m q = 0 by omega, Int.sub_zero]; exact hx)) | (exfalso; omega)⟩
          · refine J_iconst dX0_read_89 ?_
            refine V_goto (tgt := 94) dX0_read_90 (by decide) ?_
            exact V_iret dX0_read_94 rfl rfl ⟨Nat.zero_le _, Nat.zero_le _⟩ ⟨⟨_, rfl, by omega⟩, rfl, by unfold dcC; first | (rw [if_neg (show ¬ (nx - q + 4) % 4 = 1 by omega), if_neg (show ¬ (nx - q + 4) % 4 = 3 by omega)]; first | (rw [if_pos (show (nx - q + 4) % 4 = 2 by omega)]; exact hx) | (rw [if_neg (show ¬ (nx - q + 4) % 4 = 2 by omega)]; exact hx)) | (rw [if_pos (show (nx - q + 4) % 4 = 1 by omega), if_neg (show ¬ (nx - q + 4) % 4 = 2 by omega)]; first | (rw [show cnC m nx = 1 by omega]; exact hx) | (rw [show cnC m nx = 0 by omega, Int.add_zero]; exact hx)) | (rw [if_neg (show ¬ (nx - q + 4) % 4 = 1 by omega), if_pos (show (nx - q + 4) % 4 = 3 by omega), if_neg (show ¬ (nx - q + 4) % 4 = 2 by omega)]; first | (rw [show cnC m q = 1 by omega]; exact hx) | (rw [show cnC m q = 0 by omega, Int.sub_zero]; exact hx)) | (exfalso; omega)⟩
      · refine V_iload_n dX0_read_49 rfl ?_
        refine V_iload_n dX0_read_50 rfl ?_
        refine V_callS (Y' := YX0_counts) dX0_read_51 lX0_13 gX0_counts (m0_counts (by omega) (by omega)) rfl rfl (Nat.le_of_ble_eq_true rfl) ⟨Nat.zero_le _, Nat.zero_le _⟩ (fun v h1 sz1 hq => ?_)
        obtain ⟨rfl, rfl, rfl⟩ := hq
        have hcn51 := cnC_rg (m := m) (b := q)
        refine J_if_eq (tgt := 67) dX0_read_54 (by decide) (by omega) (fun c54 => ?_) (fun c54 => ?_)
        · refine V_iload dX0_read_67 rfl ?_
          refine J_iconst dX0_read_69 ?_
          refine J_icmp_ne (tgt := 83) dX0_read_70 (by decide) (by omega) (by omega) (fun c70 => ?_) (fun c70 => ?_)
          · refine V_iload dX0_read_83 rfl ?_
            refine J_iconst dX0_read_85 ?_
            refine J_icmp_ne (tgt := 93) dX0_read_86 (by decide) (by omega) (by omega) (fun c86 => ?_) (fun c86 => ?_)
            · refine J_iconst dX0_read_93 ?_
              exact V_iret dX0_read_94 rfl rfl ⟨Nat.zero_le _, Nat.zero_le _⟩ ⟨⟨_, rfl, by omega⟩, rfl, by unfold dcC; first | (rw [if_neg (show ¬ (nx - q + 4) % 4 = 1 by omega), if_neg (show ¬ (nx - q + 4) % 4 = 3 by omega)]; first | (rw [if_pos (show (nx - q + 4) % 4 = 2 by omega)]; exact hx) | (rw [if_neg (show ¬ (nx - q + 4) % 4 = 2 by omega)]; exact hx)) | (rw [if_pos (show (nx - q + 4) % 4 = 1 by omega), if_neg (show ¬ (nx - q + 4) % 4 = 2 by omega)]; first | (rw [show cnC m nx = 1 by omega]; exact hx) | (rw [show cnC m nx = 0 by omega, Int.add_zero]; exact hx)) | (rw [if_neg (show ¬ (nx - q + 4) % 4 = 1 by omega), if_pos (show (nx - q + 4) % 4 = 3 by omega), if_neg (show ¬ (nx - q + 4) % 4 = 2 by omega)]; first | (rw [show cnC m q = 1 by omega]; exact hx) | (rw [show cnC m q = 0 by omega, Int.sub_zero]; exact hx)) | (exfalso; omega)⟩
            · refine J_iconst dX0_read_89 ?_
              refine V_goto (tgt := 94) dX0_read_90 (by decide) ?_
              exact V_iret dX0_read_94 rfl rfl ⟨Nat.zero_le _, Nat.zero_le _⟩ ⟨⟨_, rfl, by omega⟩, rfl, by unfold dcC; first | (rw [if_neg (show ¬ (nx - q + 4) % 4 = 1 by omega), if_neg (show ¬ (nx - q + 4) % 4 = 3 by omega)]; first | (rw [if_pos (show (nx - q + 4) % 4 = 2 by omega)]; exact hx) | (rw [if_neg (show ¬ (nx - q + 4) % 4 = 2 by omega)]; exact hx)) | (rw [if_pos (show (nx - q + 4) % 4 = 1 by omega), if_neg (show ¬ (nx - q + 4) % 4 = 2 by omega)]; first | (rw [show cnC m nx = 1 by omega]; exact hx) | (rw [show cnC m nx = 0 by omega, Int.add_zero]; exact hx)) | (rw [if_neg (show ¬ (nx - q + 4) % 4 = 1 by omega), if_pos (show (nx - q + 4) % 4 = 3 by omega), if_neg (show ¬ (nx - q + 4) % 4 = 2 by omega)]; first | (rw [show cnC m q = 1 by omega]; exact hx) | (rw [show cnC m q = 0 by omega, Int.sub_zero]; exact hx)) | (exfalso; omega)⟩
          · refine V_aload_n dX0_read_73 rfl ?_
            refine V_dup dX0_read_74 rfl ?_
            refine V_get dX0_read_75 fX0_21 hx.1 rfl ?_
            refine J_iconst dX0_read_78 ?_
            refine J_iadd dX0_read_79 ?_
            refine RO_put dX0_read_80 fX0_21 tX0_2 hx (Nat.le_of_ble_eq_true rfl) rfl rfl (fun h hx => ?_)
            refine V_iload dX0_read_83 rfl ?_
            refine J_iconst dX0_read_85 ?_
            refine J_icmp_ne (tgt := 93) dX0_read_86 (by decide) (by omega) (by omega) (fun c86 => ?_) (fun c86 => ?_)
            · refine J_iconst dX0_read_93 ?_
              exact V_iret dX0_read_94 rfl rfl ⟨Nat.zero_le _, Nat.zero_le _⟩ ⟨⟨_, rfl, by omega⟩, rfl, by unfold dcC; first | (rw [if_neg (show ¬ (nx - q + 4) % 4 = 1 by omega), if_neg (show ¬ (nx - q + 4) % 4 = 3 by omega)]; first | (rw [if_pos (show (nx - q + 4) % 4 = 2 by omega)]; exact hx) | (rw [if_neg (show ¬ (nx - q + 4) % 4 = 2 by omega)]; exact hx)) | (rw [if_pos (show (nx - q + 4) % 4 = 1 by omega), if_neg (show ¬ (nx - q + 4) % 4 = 2 by omega)]; first | (rw [show cnC m nx = 1 by omega]; exact hx) | (rw [show cnC m nx = 0 by omega, Int.add_zero]; exact hx)) | (rw [if_neg (show ¬ (nx - q + 4) % 4 = 1 by omega), if_pos (show (nx - q + 4) % 4 = 3 by omega), if_neg (show ¬ (nx - q + 4) % 4 = 2 by omega)]; first | (rw [show cnC m q = 1 by omega]; exact hx) | (rw [show cnC m q = 0 by omega, Int.sub_zero]; exact hx)) | (exfalso; omega)⟩
            · refine J_iconst dX0_read_89 ?_
              refine V_goto (tgt := 94) dX0_read_90 (by decide) ?_
              exact V_iret dX0_read_94 rfl rfl ⟨Nat.zero_le _, Nat.zero_le _⟩ ⟨⟨_, rfl, by omega⟩, rfl, by unfold dcC; first | (rw [if_neg (show ¬ (nx - q + 4) % 4 = 1 by omega), if_neg (show ¬ (nx - q + 4) % 4 = 3 by omega)]; first | (rw [if_pos (show (nx - q + 4) % 4 = 2 by omega)]; exact hx) | (rw [if_neg (show ¬ (nx - q + 4) % 4 = 2 by omega)]; exact hx)) | (rw [if_pos (show (nx - q + 4) % 4 = 1 by omega), if_neg (show ¬ (nx - q + 4) % 4 = 2 by omega)]; first | (rw [show cnC m nx = 1 by omega]; exact hx) | (rw [show cnC m nx = 0 by omega, Int.add_zero]; exact hx)) | (rw [if_neg (show ¬ (nx - q + 4) % 4 = 1 by omega), if_pos (show (nx - q + 4) % 4 = 3 by omega), if_neg (show ¬ (nx - q + 4) % 4 = 2 by omega)]; first | (rw [show cnC m q = 1 by omega]; exact hx) | (rw [show cnC m q = 0 by omega, Int.sub_zero]; exact hx)) | (exfalso; omega)⟩
        · refine V_aload_n dX0_read_57 rfl ?_
          refine V_dup dX0_read_58 rfl ?_
          refine V_get dX0_read_59 fX0_17 hx.1 rfl ?_
          refine J_lconst1 dX0_read_62 ?_
          refine J_lsub dX0_read_63 ?_
          refine RO_put dX0_read_64 fX0_17 tX0_1 hx (Nat.le_of_ble_eq_true rfl) rfl rfl (fun h hx => ?_)
          refine V_iload dX0_read_67 rfl ?_
          refine J_iconst dX0_read_69 ?_
          refine J_icmp_ne (tgt := 83) dX0_read_70 (by decide) (by omega) (by omega) (fun c70 => ?_) (fun c70 => ?_)
          · refine V_iload dX0_read_83 rfl ?_
            refine J_iconst dX0_read_85 ?_
            refine J_icmp_ne (tgt := 93) dX0_read_86 (by decide) (by omega) (by omega) (fun c86 => ?_) (fun c86 => ?_)
            · refine J_iconst dX0_read_93 ?_
              exact V_iret dX0_read_94 rfl rfl ⟨Nat.zero_le _, Nat.zero_le _⟩ ⟨⟨_, rfl, by omega⟩, rfl, by unfold dcC; first | (rw [if_neg (show ¬ (nx - q + 4) % 4 = 1 by omega), if_neg (show ¬ (nx - q + 4) % 4 = 3 by omega)]; first | (rw [if_pos (show (nx - q + 4) % 4 = 2 by omega)]; exact hx) | (rw [if_neg (show ¬ (nx - q + 4) % 4 = 2 by omega)]; exact hx)) | (rw [if_pos (show (nx - q + 4) % 4 = 1 by omega), if_neg (show ¬ (nx - q + 4) % 4 = 2 by omega)]; first | (rw [show cnC m nx = 1 by omega]; exact hx) | (rw [show cnC m nx = 0 by omega, Int.add_zero]; exact hx)) | (rw [if_neg (show ¬ (nx - q + 4) % 4 = 1 by omega), if_pos (show (nx - q + 4) % 4 = 3 by omega), if_neg (show ¬ (nx - q + 4) % 4 = 2 by omega)]; first | (rw [show cnC m q = 1 by omega]; exact hx) | (rw [show cnC m q = 0 by omega, Int.sub_zero]; exact hx)) | (exfalso; omega)⟩
            · refine J_iconst dX0_read_89 ?_
              refine V_goto (tgt := 94) dX0_read_90 (by decide) ?_
              exact V_iret dX0_read_94 rfl rfl ⟨Nat.zero_le _, Nat.zero_le _⟩ ⟨⟨_, rfl, by omega⟩, rfl, by unfold dcC; first | (rw [if_neg (show ¬ (nx - q + 4) % 4 = 1 by omega), if_neg (show ¬ (nx - q + 4) % 4 = 3 by omega)]; first | (rw [if_pos (show (nx - q + 4) % 4 = 2 by omega)]; exact hx) | (rw [if_neg (show ¬ (nx - q + 4) % 4 = 2 by omega)]; exact hx)) | (rw [if_pos (show (nx - q + 4) % 4 = 1 by omega), if_neg (show ¬ (nx - q + 4) % 4 = 2 by omega)]; first | (rw [show cnC m nx = 1 by omega]; exact hx) | (rw [show cnC m nx = 0 by omega, Int.add_zero]; exact hx)) | (rw [if_neg (show ¬ (nx - q + 4) % 4 = 1 by omega), if_pos (show (nx - q + 4) % 4 = 3 by omega), if_neg (show ¬ (nx - q + 4) % 4 = 2 by omega)]; first | (rw [show cnC m q = 1 by omega]; exact hx) | (rw [show cnC m q = 0 by omega, Int.sub_zero]; exact hx)) | (exfalso; omega)⟩
          · refine V_aload_n dX0_read_73 rfl ?_
            refine V_dup dX0_read_74 rfl ?_
            refine V_get dX0_read_75 fX0_21 hx.1 rfl ?_
            refine J_iconst dX0_read_78 ?_
            refine J_iadd dX0_read_79 ?_
            refine RO_put dX0_read_80 fX0_21 tX0_2 hx (Nat.le_of_ble_eq_true rfl) rfl rfl (fun h hx => ?_)
            refine V_iload dX0_read_83 rfl ?_
            refine J_iconst dX0_read_85 ?_
            refine J_icmp_ne (tgt := 93) dX0_read_86 (by decide) (by omega) (by omega) (fun c86 => ?_) (fun c86 => ?_)
            · refine J_iconst dX0_read_93 ?_
              exact V_iret dX0_read_94 rfl rfl ⟨Nat.zero_le _, Nat.zero_le _⟩ ⟨⟨_, rfl, by omega⟩, rfl, by unfold dcC; first | (rw [if_neg (show ¬ (nx - q + 4) % 4 = 1 by omega), if_neg (show ¬ (nx - q + 4) % 4 = 3 by omega)]; first | (rw [if_pos (show (nx - q + 4) % 4 = 2 by omega)]; exact hx) | (rw [if_neg (show ¬ (nx - q + 4) % 4 = 2 by omega)]; exact hx)) | (rw [if_pos (show (nx - q + 4) % 4 = 1 by omega), if_neg (show ¬ (nx - q + 4) % 4 = 2 by omega)]; first | (rw [show cnC m nx = 1 by omega]; exact hx) | (rw [show cnC m nx = 0 by omega, Int.add_zero]; exact hx)) | (rw [if_neg (show ¬ (nx - q + 4) % 4 = 1 by omega), if_pos (show (nx - q + 4) % 4 = 3 by omega), if_neg (show ¬ (nx - q + 4) % 4 = 2 by omega)]; first | (rw [show cnC m q = 1 by omega]; exact hx) | (rw [show cnC m q = 0 by omega, Int.sub_zero]; exact hx)) | (exfalso; omega)⟩
            · refine J_iconst dX0_read_89 ?_
              refine V_goto (tgt := 94) dX0_read_90 (by decide) ?_
              exact V_iret dX0_read_94 rfl rfl ⟨Nat.zero_le _, Nat.zero_le _⟩ ⟨⟨_, rfl, by omega⟩, rfl, by unfold dcC; first | (rw [if_neg (show ¬ (nx - q + 4) % 4 = 1 by omega), if_neg (show ¬ (nx - q + 4) % 4 = 3 by omega)]; first | (rw [if_pos (show (nx - q + 4) % 4 = 2 by omega)]; exact hx) | (rw [if_neg (show ¬ (nx - q + 4) % 4 = 2 by omega)]; exact hx)) | (rw [if_pos (show (nx - q + 4) % 4 = 1 by omega), if_neg (show ¬ (nx - q + 4) % 4 = 2 by omega)]; first | (rw [show cnC m nx = 1 by omega]; exact hx) | (rw [show cnC m nx = 0 by omega, Int.add_zero]; exact hx)) | (rw [if_neg (show ¬ (nx - q + 4) % 4 = 1 by omega), if_pos (show (nx - q + 4) % 4 = 3 by omega), if_neg (show ¬ (nx - q + 4) % 4 = 2 by omega)]; first | (rw [show cnC m q = 1 by omega]; exact hx) | (rw [show cnC m q = 0 by omega, Int.sub_zero]; exact hx)) | (exfalso; omega)⟩
    · refine V_aload_n dX0_read_33 rfl ?_
      refine V_dup dX0_read_34 rfl ?_
      refine V_get dX0_read_35 fX0_17 hx.1 rfl ?_
      refine J_lconst1 dX0_read_38 ?_
      refine J_ladd dX0_read_39 ?_
      refine RO_put dX0_read_40 fX0_17 tX0_1 hx (Nat.le_of_ble_eq_true rfl) rfl rfl (fun h hx => ?_)
      refine V_iload dX0_read_43 rfl ?_
      refine J_iconst dX0_read_45 ?_
      refine J_icmp_ne (tgt := 67) dX0_read_46 (by decide) (by omega) (by omega) (fun c46 => ?_) (fun c46 => ?_)
      · refine V_iload dX0_read_67 rfl ?_
        refine J_iconst dX0_read_69 ?_
        refine J_icmp_ne (tgt := 83) dX0_read_70 (by decide) (by omega) (by omega) (fun c70 => ?_) (fun c70 => ?_)
        · refine V_iload dX0_read_83 rfl ?_
          refine J_iconst dX0_read_85 ?_
          refine J_icmp_ne (tgt := 93) dX0_read_86 (by decide) (by omega) (by omega) (fun c86 => ?_) (fun c86 => ?_)
          · refine J_iconst dX0_read_93 ?_
            exact V_iret dX0_read_94 rfl rfl ⟨Nat.zero_le _, Nat.zero_le _⟩ ⟨⟨_, rfl, by omega⟩, rfl, by unfold dcC; first | (rw [if_neg (show ¬ (nx - q + 4) % 4 = 1 by omega), if_neg (show ¬ (nx - q + 4) % 4 = 3 by omega)]; first | (rw [if_pos (show (nx - q + 4) % 4 = 2 by omega)]; exact hx) | (rw [if_neg (show ¬ (nx - q + 4) % 4 = 2 by omega)]; exact hx)) | (rw [if_pos (show (nx - q + 4) % 4 = 1 by omega), if_neg (show ¬ (nx - q + 4) % 4 = 2 by omega)]; first | (rw [show cnC m nx = 1 by omega]; exact hx) | (rw [show cnC m nx = 0 by omega, Int.add_zero]; exact hx)) | (rw [if_neg (show ¬ (nx - q + 4) % 4 = 1 by omega), if_pos (show (nx - q + 4) % 4 = 3 by omega), if_neg (show ¬ (nx - q + 4) % 4 = 2 by omega)]; first | (rw [show cnC m q = 1 by omega]; exact hx) | (rw [show cnC m q = 0 by omega, Int.sub_zero]; exact hx)) | (exfalso; omega)⟩
          · refine J_iconst dX0_read_89 ?_
            refine V_goto (tgt := 94) dX0_read_90 (by decide) ?_
            exact V_iret dX0_read_94 rfl rfl ⟨Nat.zero_le _, Nat.zero_le _⟩ ⟨⟨_, rfl, by omega⟩, rfl, by unfold dcC; first | (rw [if_neg (show ¬ (nx - q + 4) % 4 = 1 by omega), if_neg (show ¬ (nx - q + 4) % 4 = 3 by omega)]; first | (rw [if_pos (show (nx - q + 4) % 4 = 2 by omega)]; exact hx) | (rw [if_neg (show ¬ (nx - q + 4) % 4 = 2 by omega)]; exact hx)) | (rw [if_pos (show (nx - q + 4) % 4 = 1 by omega), if_neg (show ¬ (nx - q + 4) % 4 = 2 by omega)]; first | (rw [show cnC m nx = 1 by omega]; exact hx) | (rw [show cnC m nx = 0 by omega, Int.add_zero]; exact hx)) | (rw [if_neg (show ¬ (nx - q + 4) % 4 = 1 by omega), if_pos (show (nx - q + 4) % 4 = 3 by omega), if_neg (show ¬ (nx - q + 4) % 4 = 2 by omega)]; first | (rw [show cnC m q = 1 by omega]; exact hx) | (rw [show cnC m q = 0 by omega, Int.sub_zero]; exact hx)) | (exfalso; omega)⟩
        · refine V_aload_n dX0_read_73 rfl ?_
          refine V_dup dX0_read_74 rfl ?_
          refine V_get dX0_read_75 fX0_21 hx.1 rfl ?_
          refine J_iconst dX0_read_78 ?_
          refine J_iadd dX0_read_79 ?_
          refine RO_put dX0_read_80 fX0_21 tX0_2 hx (Nat.le_of_ble_eq_true rfl) rfl rfl (fun h hx => ?_)
          refine V_iload dX0_read_83 rfl ?_
          refine J_iconst dX0_read_85 ?_
          refine J_icmp_ne (tgt := 93) dX0_read_86 (by decide) (by omega) (by omega) (fun c86 => ?_) (fun c86 => ?_)
          · refine J_iconst dX0_read_93 ?_
            exact V_iret dX0_read_94 rfl rfl ⟨Nat.zero_le _, Nat.zero_le _⟩ ⟨⟨_, rfl, by omega⟩, rfl, by unfold dcC; first | (rw [if_neg (show ¬ (nx - q + 4) % 4 = 1 by omega), if_neg (show ¬ (nx - q + 4) % 4 = 3 by omega)]; first | (rw [if_pos (show (nx - q + 4) % 4 = 2 by omega)]; exact hx) | (rw [if_neg (show ¬ (nx - q + 4) % 4 = 2 by omega)]; exact hx)) | (rw [if_pos (show (nx - q + 4) % 4 = 1 by omega), if_neg (show ¬ (nx - q + 4) % 4 = 2 by omega)]; first | (rw [show cnC m nx = 1 by omega]; exact hx) | (rw [show cnC m nx = 0 by omega, Int.add_zero]; exact hx)) | (rw [if_neg (show ¬ (nx - q + 4) % 4 = 1 by omega), if_pos (show (nx - q + 4) % 4 = 3 by omega), if_neg (show ¬ (nx - q + 4) % 4 = 2 by omega)]; first | (rw [show cnC m q = 1 by omega]; exact hx) | (rw [show cnC m q = 0 by omega, Int.sub_zero]; exact hx)) | (exfalso; omega)⟩
          · refine J_iconst dX0_read_89 ?_
            refine V_goto (tgt := 94) dX0_read_90 (by decide) ?_
            exact V_iret dX0_read_94 rfl rfl ⟨Nat.zero_le _, Nat.zero_le _⟩ ⟨⟨_, rfl, by omega⟩, rfl, by unfold dcC; first | (rw [if_neg (show ¬ (nx - q + 4) % 4 = 1 by omega), if_neg (show ¬ (nx - q + 4) % 4 = 3 by omega)]; first | (rw [if_pos (show (nx - q + 4) % 4 = 2 by omega)]; exact hx) | (rw [if_neg (show ¬ (nx - q + 4) % 4 = 2 by omega)]; exact hx)) | (rw [if_pos (show (nx - q + 4) % 4 = 1 by omega), if_neg (show ¬ (nx - q + 4) % 4 = 2 by omega)]; first | (rw [show cnC m nx = 1 by omega]; exact hx) | (rw [show cnC m nx = 0 by omega, Int.add_zero]; exact hx)) | (rw [if_neg (show ¬ (nx - q + 4) % 4 = 1 by omega), if_pos (show (nx - q + 4) % 4 = 3 by omega), if_neg (show ¬ (nx - q + 4) % 4 = 2 by omega)]; first | (rw [show cnC m q = 1 by omega]; exact hx) | (rw [show cnC m q = 0 by omega, Int.sub_zero]; exact hx)) | (exfalso; omega)⟩
      · refine V_iload_n dX0_read_49 rfl ?_
        refine V_iload_n dX0_read_50 rfl ?_
        refine V_callS (Y' := YX0_counts) dX0_read_51 lX0_13 gX0_counts (m0_counts (by omega) (by omega)) rfl rfl (Nat.le_of_ble_eq_true rfl) ⟨Nat.zero_le _, Nat.zero_le _⟩ (fun v h1 sz1 hq => ?_)
        obtain ⟨rfl, rfl, rfl⟩ := hq
        have hcn51 := cnC_rg (m := m) (b := q)
        refine J_if_eq (tgt := 67) dX0_read_54 (by decide) (by omega) (fun c54 => ?_) (fun c54 => ?_)
        · refine V_iload dX0_read_67 rfl ?_
          refine J_iconst dX0_read_69 ?_
          refine J_icmp_ne (tgt := 83) dX0_read_70 (by decide) (by omega) (by omega) (fun c70 => ?_) (fun c70 => ?_)
          · refine V_iload dX0_read_83 rfl ?_
            refine J_iconst dX0_read_85 ?_
            refine J_icmp_ne (tgt := 93) dX0_read_86 (by decide) (by omega) (by omega) (fun c86 => ?_) (fun c86 => ?_)
            · refine J_iconst dX0_read_93 ?_
              exact V_iret dX0_read_94 rfl rfl ⟨Nat.zero_le _, Nat.zero_le _⟩ ⟨⟨_, rfl, by omega⟩, rfl, by unfold dcC; first | (rw [if_neg (show ¬ (nx - q + 4) % 4 = 1 by omega), if_neg (show ¬ (nx - q + 4) % 4 = 3 by omega)]; first | (rw [if_pos (show (nx - q + 4) % 4 = 2 by omega)]; exact hx) | (rw [if_neg (show ¬ (nx - q + 4) % 4 = 2 by omega)]; exact hx)) | (rw [if_pos (show (nx - q + 4) % 4 = 1 by omega), if_neg (show ¬ (nx - q + 4) % 4 = 2 by omega)]; first | (rw [show cnC m nx = 1 by omega]; exact hx) | (rw [show cnC m nx = 0 by omega, Int.add_zero]; exact hx)) | (rw [if_neg (show ¬ (nx - q + 4) % 4 = 1 by omega), if_pos (show (nx - q + 4) % 4 = 3 by omega), if_neg (show ¬ (nx - q + 4) % 4 = 2 by omega)]; first | (rw [show cnC m q = 1 by omega]; exact hx) | (rw [show cnC m q = 0 by omega, Int.sub_zero]; exact hx)) | (exfalso; omega)⟩
            · refine J_iconst dX0_read_89 ?_
              refine V_goto (tgt := 94) dX0_read_90 (by decide) ?_
              exact V_iret dX0_read_94 rfl rfl ⟨Nat.zero_le _, Nat.zero_le _⟩ ⟨⟨_, rfl, by omega⟩, rfl, by unfold dcC; first | (rw [if_neg (show ¬ (nx - q + 4) % 4 = 1 by omega), if_neg (show ¬ (nx - q + 4) % 4 = 3 by omega)]; first | (rw [if_pos (show (nx - q + 4) % 4 = 2 by omega)]; exact hx) | (rw [if_neg (show ¬ (nx - q + 4) % 4 = 2 by omega)]; exact hx)) | (rw [if_pos (show (nx - q + 4) % 4 = 1 by omega), if_neg (show ¬ (nx - q + 4) % 4 = 2 by omega)]; first | (rw [show cnC m nx = 1 by omega]; exact hx) | (rw [show cnC m nx = 0 by omega, Int.add_zero]; exact hx)) | (rw [if_neg (show ¬ (nx - q + 4) % 4 = 1 by omega), if_pos (show (nx - q + 4) % 4 = 3 by omega), if_neg (show ¬ (nx - q + 4) % 4 = 2 by omega)]; first | (rw [show cnC m q = 1 by omega]; exact hx) | (rw [show cnC m q = 0 by omega, Int.sub_zero]; exact hx)) | (exfalso; omega)⟩
          · refine V_aload_n dX0_read_73 rfl ?_
            refine V_dup dX0_read_74 rfl ?_
            refine V_get dX0_read_75 fX0_21 hx.1 rfl ?_
            refine J_iconst dX0_read_78 ?_
            refine J_iadd dX0_read_79 ?_
            refine RO_put dX0_read_80 fX0_21 tX0_2 hx (Nat.le_of_ble_eq_true rfl) rfl rfl (fun h hx => ?_)
            refine V_iload dX0_read_83 rfl ?_
            refine J_iconst dX0_read_85 ?_
            refine J_icmp_ne (tgt := 93) dX0_read_86 (by decide) (by omega) (by omega) (fun c86 => ?_) (fun c86 => ?_)
            · refine J_iconst dX0_read_93 ?_
              exact V_iret dX0_read_94 rfl rfl ⟨Nat.zero_le _, Nat.zero_le _⟩ ⟨⟨_, rfl, by omega⟩, rfl, by unfold dcC; first | (rw [if_neg (show ¬ (nx - q + 4) % 4 = 1 by omega), if_neg (show ¬ (nx - q + 4) % 4 = 3 by omega)]; first | (rw [if_pos (show (nx - q + 4) % 4 = 2 by omega)]; exact hx) | (rw [if_neg (show ¬ (nx - q + 4) % 4 = 2 by omega)]; exact hx)) | (rw [if_pos (show (nx - q + 4) % 4 = 1 by omega), if_neg (show ¬ (nx - q + 4) % 4 = 2 by omega)]; first | (rw [show cnC m nx = 1 by omega]; exact hx) | (rw [show cnC m nx = 0 by omega, Int.add_zero]; exact hx)) | (rw [if_neg (show ¬ (nx - q + 4) % 4 = 1 by omega), if_pos (show (nx - q + 4) % 4 = 3 by omega), if_neg (show ¬ (nx - q + 4) % 4 = 2 by omega)]; first | (rw [show cnC m q = 1 by omega]; exact hx) | (rw [show cnC m q = 0 by omega, Int.sub_zero]; exact hx)) | (exfalso; omega)⟩
            · refine J_iconst dX0_read_89 ?_
              refine V_goto (tgt := 94) dX0_read_90 (by decide) ?_
              exact V_iret dX0_read_94 rfl rfl ⟨Nat.zero_le _, Nat.zero_le _⟩ ⟨⟨_, rfl, by omega⟩, rfl, by unfold dcC; first | (rw [if_neg (show ¬ (nx - q + 4) % 4 = 1 by omega), if_neg (show ¬ (nx - q + 4) % 4 = 3 by omega)]; first | (rw [if_pos (show (nx - q + 4) % 4 = 2 by omega)]; exact hx) | (rw [if_neg (show ¬ (nx - q + 4) % 4 = 2 by omega)]; exact hx)) | (rw [if_pos (show (nx - q + 4) % 4 = 1 by omega), if_neg (show ¬ (nx - q + 4) % 4 = 2 by omega)]; first | (rw [show cnC m nx = 1 by omega]; exact hx) | (rw [show cnC m nx = 0 by omega, Int.add_zero]; exact hx)) | (rw [if_neg (show ¬ (nx - q + 4) % 4 = 1 by omega), if_pos (show (nx - q + 4) % 4 = 3 by omega), if_neg (show ¬ (nx - q + 4) % 4 = 2 by omega)]; first | (rw [show cnC m q = 1 by omega]; exact hx) | (rw [show cnC m q = 0 by omega, Int.sub_zero]; exact hx)) | (exfalso; omega)⟩
        · refine V_aload_n dX0_read_57 rfl ?_
          refine V_dup dX0_read_58 rfl ?_
          refine V_get dX0_read_59 fX0_17 hx.1 rfl ?_
          refine J_lconst1 dX0_read_62 ?_
          refine J_lsub dX0_read_63 ?_
          refine RO_put dX0_read_64 fX0_17 tX0_1 hx (Nat.le_of_ble_eq_true rfl) rfl rfl (fun h hx => ?_)
          refine V_iload dX0_read_67 rfl ?_
          refine J_iconst dX0_read_69 ?_
          refine J_icmp_ne (tgt := 83) dX0_read_70 (by decide) (by omega) (by omega) (fun c70 => ?_) (fun c70 => ?_)
          · refine V_iload dX0_read_83 rfl ?_
            refine J_iconst dX0_read_85 ?_
            refine J_icmp_ne (tgt := 93) dX0_read_86 (by decide) (by omega) (by omega) (fun c86 => ?_) (fun c86 => ?_)
            · refine J_iconst dX0_read_93 ?_
              exact V_iret dX0_read_94 rfl rfl ⟨Nat.zero_le _, Nat.zero_le _⟩ ⟨⟨_, rfl, by omega⟩, rfl, by unfold dcC; first | (rw [if_neg (show ¬ (nx - q + 4) % 4 = 1 by omega), if_neg (show ¬ (nx - q + 4) % 4 = 3 by omega)]; first | (rw [if_pos (show (nx - q + 4) % 4 = 2 by omega)]; exact hx) | (rw [if_neg (show ¬ (nx - q + 4) % 4 = 2 by omega)]; exact hx)) | (rw [if_pos (show (nx - q + 4) % 4 = 1 by omega), if_neg (show ¬ (nx - q + 4) % 4 = 2 by omega)]; first | (rw [show cnC m nx = 1 by omega]; exact hx) | (rw [show cnC m nx = 0 by omega, Int.add_zero]; exact hx)) | (rw [if_neg (show ¬ (nx - q + 4) % 4 = 1 by omega), if_pos (show (nx - q + 4) % 4 = 3 by omega), if_neg (show ¬ (nx - q + 4) % 4 = 2 by omega)]; first | (rw [show cnC m q = 1 by omega]; exact hx) | (rw [show cnC m q = 0 by omega, Int.sub_zero]; exact hx)) | (exfalso; omega)⟩
            · refine J_iconst dX0_read_89 ?_
              refine V_goto (tgt := 94) dX0_read_90 (by decide) ?_
              exact V_iret dX0_read_94 rfl rfl ⟨Nat.zero_le _, Nat.zero_le _⟩ ⟨⟨_, rfl, by omega⟩, rfl, by unfold dcC; first | (rw [if_neg (show ¬ (nx - q + 4) % 4 = 1 by omega), if_neg (show ¬ (nx - q + 4) % 4 = 3 by omega)]; first | (rw [if_pos (show (nx - q + 4) % 4 = 2 by omega)]; exact hx) | (rw [if_neg (show ¬ (nx - q + 4) % 4 = 2 by omega)]; exact hx)) | (rw [if_pos (show (nx - q + 4) % 4 = 1 by omega), if_neg (show ¬ (nx - q + 4) % 4 = 2 by omega)]; first | (rw [show cnC m nx = 1 by omega]; exact hx) | (rw [show cnC m nx = 0 by omega, Int.add_zero]; exact hx)) | (rw [if_neg (show ¬ (nx - q + 4) % 4 = 1 by omega), if_pos (show (nx - q + 4) % 4 = 3 by omega), if_neg (show ¬ (nx - q + 4) % 4 = 2 by omega)]; first | (rw [show cnC m q = 1 by omega]; exact hx) | (rw [show cnC m q = 0 by omega, Int.sub_zero]; exact hx)) | (exfalso; omega)⟩
          · refine V_aload_n dX0_read_73 rfl ?_
            refine V_dup dX0_read_74 rfl ?_
            refine V_get dX0_read_75 fX0_21 hx.1 rfl ?_
            refine J_iconst dX0_read_78 ?_
            refine J_iadd dX0_read_79 ?_
            refine RO_put dX0_read_80 fX0_21 tX0_2 hx (Nat.le_of_ble_eq_true rfl) rfl rfl (fun h hx => ?_)
            refine V_iload dX0_read_83 rfl ?_
            refine J_iconst dX0_read_85 ?_
            refine J_icmp_ne (tgt := 93) dX0_read_86 (by decide) (by omega) (by omega) (fun c86 => ?_) (fun c86 => ?_)
            · refine J_iconst dX0_read_93 ?_
              exact V_iret dX0_read_94 rfl rfl ⟨Nat.zero_le _, Nat.zero_le _⟩ ⟨⟨_, rfl, by omega⟩, rfl, by unfold dcC; first | (rw [if_neg (show ¬ (nx - q + 4) % 4 = 1 by omega), if_neg (show ¬ (nx - q + 4) % 4 = 3 by omega)]; first | (rw [if_pos (show (nx - q + 4) % 4 = 2 by omega)]; exact hx) | (rw [if_neg (show ¬ (nx - q + 4) % 4 = 2 by omega)]; exact hx)) | (rw [if_pos (show (nx - q + 4) % 4 = 1 by omega), if_neg (show ¬ (nx - q + 4) % 4 = 2 by omega)]; first | (rw [show cnC m nx = 1 by omega]; exact hx) | (rw [show cnC m nx = 0 by omega, Int.add_zero]; exact hx)) | (rw [if_neg (show ¬ (nx - q + 4) % 4 = 1 by omega), if_pos (show (nx - q + 4) % 4 = 3 by omega), if_neg (show ¬ (nx - q + 4) % 4 = 2 by omega)]; first | (rw [show cnC m q = 1 by omega]; exact hx) | (rw [show cnC m q = 0 by omega, Int.sub_zero]; exact hx)) | (exfalso; omega)⟩
            · refine J_iconst dX0_read_89 ?_
              refine V_goto (tgt := 94) dX0_read_90 (by decide) ?_
              exact V_iret dX0_read_94 rfl rfl ⟨Nat.zero_le _, Nat.zero_le _⟩ ⟨⟨_, rfl, by omega⟩, rfl, by unfold dcC; first | (rw [if_neg (show ¬ (nx - q + 4) % 4 = 1 by omega), if_neg (show ¬ (nx - q + 4) % 4 = 3 by omega)]; first | (rw [if_pos (show (nx - q + 4) % 4 = 2 by omega)]; exact hx) | (rw [if_neg (show ¬ (nx - q + 4) % 4 = 2 by omega)]; exact hx)) | (rw [if_pos (show (nx - q + 4) % 4 = 1 by omega), if_neg (show ¬ (nx - q + 4) % 4 = 2 by omega)]; first | (rw [show cnC m nx = 1 by omega]; exact hx) | (rw [show cnC m nx = 0 by omega, Int.add_zero]; exact hx)) | (rw [if_neg (show ¬ (nx - q + 4) % 4 = 1 by omega), if_pos (show (nx - q + 4) % 4 = 3 by omega), if_neg (show ¬ (nx - q + 4) % 4 = 2 by omega)]; first | (rw [show cnC m q = 1 by omega]; exact hx) | (rw [show cnC m q = 0 by omega, Int.sub_zero]; exact hx)) | (exfalso; omega)⟩
set_option maxHeartbeats 4000000 in
set_option maxRecDepth 100000 in
theorem m0_reset {z : ZG} {d sz a : Nat} {h : AH} {q c ms : Int} (hT : h a = some (.inl (0, [.int (I q), .long (J c), .int (I ms)]))) : M z YX0_reset d 0 0 [.ref a] h sz (fun w h' sz' => w = none ∧ sz' = sz ∧ OB h a 0 [.int (I 0), .long (J 0), .int (I 0)] h') := by
  refine M.of (by decide +kernel) (Nat.le_of_ble_eq_true rfl) ?_
  have hx := OB.mk hT
  refine V_aload_n dX0_reset_0 rfl ?_
  refine J_iconst dX0_reset_1 ?_
  refine RO_put dX0_reset_2 fX0_7 tX0_0 hx (Nat.le_of_ble_eq_true rfl) rfl rfl (fun h hx => ?_)
  refine V_aload_n dX0_reset_5 rfl ?_
  refine J_lconst0 dX0_reset_6 ?_
  refine RO_put dX0_reset_7 fX0_17 tX0_1 hx (Nat.le_of_ble_eq_true rfl) rfl rfl (fun h hx => ?_)
  refine V_aload_n dX0_reset_10 rfl ?_
  refine J_iconst dX0_reset_11 ?_
  refine RO_put dX0_reset_12 fX0_21 tX0_2 hx (Nat.le_of_ble_eq_true rfl) rfl rfl (fun h hx => ?_)
  exact V_ret dX0_reset_15 rfl ⟨Nat.zero_le _, Nat.zero_le _⟩ ⟨rfl, rfl, hx⟩
set_option maxHeartbeats 4000000 in
set_option maxRecDepth 100000 in
theorem m0_copyFrom {z : ZG} {d sz a b : Nat} {h : AH} {q c ms q2 c2 ms2 : Int} (hab : b ≠ a) (hT : h a = some (.inl (0, [.int (I q), .long (J c), .int (I ms)]))) (hT2 : h b = some (.inl (0, [.int (I q2), .long (J c2), .int (I ms2)]))) : M z YX0_copyFrom d 0 0 [.ref a, .ref b] h sz (fun w h' sz' => w = none ∧ sz' = sz ∧ OB h a 0 [.int (I q2), .long (J c2), .int (I ms2)] h') := by
  refine M.of (by decide +kernel) (Nat.le_of_ble_eq_true rfl) ?_
  have hx := OB.mk hT
  refine V_aload_n dX0_copyFrom_0 rfl ?_
  refine V_aload_n dX0_copyFrom_1 rfl ?_
  refine V_get dX0_copyFrom_2 fX0_7 ((hx.2 b hab).trans hT2) rfl ?_
  refine RO_put dX0_copyFrom_5 fX0_7 tX0_0 hx (Nat.le_of_ble_eq_true rfl) rfl rfl (fun h hx => ?_)
  refine V_aload_n dX0_copyFrom_8 rfl ?_
  refine V_aload_n dX0_copyFrom_9 rfl ?_
  refine V_get dX0_copyFrom_10 fX0_17 ((hx.2 b hab).trans hT2) rfl ?_
  refine RO_put dX0_copyFrom_13 fX0_17 tX0_1 hx (Nat.le_of_ble_eq_true rfl) rfl rfl (fun h hx => ?_)
  refine V_aload_n dX0_copyFrom_16 rfl ?_
  refine V_aload_n dX0_copyFrom_17 rfl ?_
  refine V_get dX0_copyFrom_18 fX0_21 ((hx.2 b hab).trans hT2) rfl ?_
  refine RO_put dX0_copyFrom_21 fX0_21 tX0_2 hx (Nat.le_of_ble_eq_true rfl) rfl rfl (fun h hx => ?_)
  exact V_ret dX0_copyFrom_24 rfl ⟨Nat.zero_le _, Nat.zero_le _⟩ ⟨rfl, rfl, hx⟩
/-- dirt: five cells from a on -/
def DT (h : AH) (a : Nat) (n : Int) (S L : Nat → Int) : Prop := h a = some (.inl (1, [.ref (a + 1), .ref (a + 3)])) ∧ RW h (a + 1) 4 n S ∧ RW h (a + 3) 4 n L
theorem DT.kept {h h2 : AH} {a : Nat} {n : Int} {S L : Nat → Int} (x : DT h a n S L) (e : ∀ q, a ≤ q → q < a + 5 → h2 q = h q) : DT h2 a n S L := ⟨(e a (by omega) (by omega)).trans x.1, x.2.1.kept (e _ (by omega) (by omega)) (e _ (by omega) (by omega)), x.2.2.kept (e _ (by omega) (by omega)) (e _ (by omega) (by omega))⟩
/-- a log: seven cells from a on -/
def LG (h : AH) (a : Nat) (n : Int) (K P C : Nat → Int) : Prop := h a = some (.inl (3, [.ref (a + 1), .ref (a + 3), .ref (a + 5)])) ∧ RW h (a + 1) 8 n K ∧ RW h (a + 3) 8 n P ∧ RW h (a + 5) 8 n C
theorem LG.kept {h h2 : AH} {a : Nat} {n : Int} {K P C : Nat → Int} (x : LG h a n K P C) (e : ∀ q, a ≤ q → q < a + 7 → h2 q = h q) : LG h2 a n K P C := ⟨(e a (by omega) (by omega)).trans x.1, x.2.1.kept (e _ (by omega) (by omega)) (e _ (by omega) (by omega)), x.2.2.1.kept (e _ (by omega) (by omega)) (e _ (by omega) (by omega)), x.2.2.2.kept (e _ (by omega) (by omega)) (e _ (by omega) (by omega))⟩
set_option maxHeartbeats 4000000 in
set_option maxRecDepth 100000 in
theorem m1_isFull {z : ZG} {d sz a : Nat} {h : AH} {n : Int} {S L : Nat → Int} (hn : 0 ≤ n ∧ n ≤ 4) (hD : DT h a n S L) : M z YX1_isFull (d + 1) 0 0 [.ref a] h sz (fun w h' sz' => ∃ t : Int, w = some (.int (I t)) ∧ ((t = 1 ∧ (4 ≤ n)) ∨ (t = 0 ∧ ¬ (4 ≤ n))) ∧ h' = h ∧ sz' = sz) := by
  refine M.of (by decide +kernel) (Nat.le_of_ble_eq_true rfl) ?_
  obtain ⟨hT, hS, hL⟩ := hD
  refine V_aload_n dX1_isFull_0 rfl ?_
  refine V_get dX1_isFull_1 fX1_14 hT rfl ?_
  refine V_callV (Y' := YX4_isFull) dX1_isFull_4 lX1_23 gX4_isFull (m4_isFull (by decide) hn hS) hS.c rfl rfl rfl (Nat.le_of_ble_eq_true rfl) ⟨Nat.zero_le _, Nat.zero_le _⟩ (fun v h1 sz1 hq => ?_)
  obtain ⟨t, rfl, ht, rfl, rfl⟩ := hq
  have htr : t = 1 ∨ t = 0 := by omega
  exact V_iret dX1_isFull_7 rfl (by rcases htr with rfl | rfl <;> rfl) ⟨Nat.zero_le _, Nat.zero_le _⟩ ⟨_, rfl, by omega, rfl, rfl⟩
set_option maxHeartbeats 4000000 in
set_option maxRecDepth 100000 in
theorem m1_add {z : ZG} {d sz a : Nat} {h : AH} {n x y : Int} {S L : Nat → Int} (hx : -2147483648 ≤ x ∧ x < 2147483648) (hy : -2147483648 ≤ y ∧ y < 2147483648) (hn : 0 ≤ n ∧ n ≤ 4) (hn3 : n ≤ 3) (hD : DT h a n S L) : M z YX1_add (d + 1) 0 0 [.ref a, .int (I x), .int (I y)] h sz (fun w h' sz' => w = none ∧ sz' = sz ∧ fr h h' a (a + 5) ∧ DT h' a (n + 1) (va_up S n.toNat x) (va_up L n.toNat y)) := by
  refine M.of (by decide +kernel) (Nat.le_of_ble_eq_true rfl) ?_
  obtain ⟨hT, hS, hL⟩ := hD
  have hF : fr h h a (a + 5) := fr.rf
  refine V_aload_n dX1_add_0 rfl ?_
  refine V_get dX1_add_1 fX1_14 hT rfl ?_
  refine V_iload_n dX1_add_4 rfl ?_
  refine J_i2l dX1_add_5 (by omega) ?_
  refine V_callV (Y' := YX4_add) dX1_add_6 lX1_27 gX4_add (m4_add (by decide) hn hS) hS.c rfl rfl rfl (Nat.le_of_ble_eq_true rfl) ⟨Nat.zero_le _, Nat.zero_le _⟩ (fun v h1 sz1 hq => ?_)
  obtain ⟨rfl, rfl, hf, hq⟩ := hq
  have hS : RW h1 (a + 1) 4 (n + 1) (va_up S n.toNat x) := hq.elim (fun q => q.2) (fun q => absurd (by show n < 4; omega) q.1)
  have hF := hF.then (hf.wide (by omega) (by omega))
  have hT := (hf a (by omega)).trans hT
  have hL := hL.kept (hf _ (by omega)) (hf _ (by omega))
  refine V_aload_n dX1_add_9 rfl ?_
  refine V_get dX1_add_10 fX1_20 hT rfl ?_
  refine V_iload_n dX1_add_13 rfl ?_
  refine J_i2l dX1_add_14 (by omega) ?_
  refine V_callV (Y' := YX4_add) dX1_add_15 lX1_27 gX4_add (m4_add (by decide) hn hL) hL.c rfl rfl rfl (Nat.le_of_ble_eq_true rfl) ⟨Nat.zero_le _, Nat.zero_le _⟩ (fun v h1 sz1 hq => ?_)
  obtain ⟨rfl, rfl, hf, hq⟩ := hq
  have hL : RW h1 (a + 3) 4 (n + 1) (va_up L n.toNat y) := hq.elim (fun q => q.2) (fun q => absurd (by show n < 4; omega) q.1)
  have hF := hF.then (hf.wide (by omega) (by omega))
  have hT := (hf a (by omega)).trans hT
  have hS := hS.kept (hf _ (by omega)) (hf _ (by omega))
  exact V_ret dX1_add_18 rfl ⟨Nat.zero_le _, Nat.zero_le _⟩ ⟨rfl, rfl, hF, hT, hS, hL⟩
set_option maxHeartbeats 4000000 in
set_option maxRecDepth 100000 in
theorem m1_removeAt {z : ZG} {d sz a : Nat} {h : AH} {n i : Int} {S L : Nat → Int} (hi : -2147483648 ≤ i ∧ i < 2147483648) (hi2 : 0 ≤ i ∧ i < n) (hn : 0 ≤ n ∧ n ≤ 4) (hD : DT h a n S L) : M z YX1_removeAt (d + 2) 0 0 [.ref a, .int (I i)] h sz (fun w h' sz' => w = none ∧ sz' = sz ∧ fr h h' a (a + 5) ∧ DT h' a (n - 1) (rrm S i.toNat) (rrm L i.toNat)) := by
  refine M.of (by decide +kernel) (Nat.le_of_ble_eq_true rfl) ?_
  obtain ⟨hT, hS, hL⟩ := hD
  have hF : fr h h a (a + 5) := fr.rf
  refine V_aload_n dX1_removeAt_0 rfl ?_
  refine V_get dX1_removeAt_1 fX1_14 hT rfl ?_
  refine V_iload_n dX1_removeAt_4 rfl ?_
  refine V_callV (Y' := YX4_removeAt) dX1_removeAt_5 lX1_31 gX4_removeAt (m4_removeAt (by decide) hn hS hi) hS.c rfl rfl rfl (Nat.le_of_ble_eq_true rfl) ⟨Nat.zero_le _, Nat.zero_le _⟩ (fun v h1 sz1 hq => ?_)
  obtain ⟨rfl, rfl, hf, hq⟩ := hq
  have hS : RW h1 (a + 1) 4 (n - 1) (rrm S i.toNat) := hq.elim (fun q => q.2) (fun q => absurd hi2 q.1)
  have hF := hF.then (hf.wide (by omega) (by omega))
  have hT := (hf a (by omega)).trans hT
  have hL := hL.kept (hf _ (by omega)) (hf _ (by omega))
  refine V_aload_n dX1_removeAt_8 rfl ?_
  refine V_get dX1_removeAt_9 fX1_20 hT rfl ?_
  refine V_iload_n dX1_removeAt_12 rfl ?_
  refine V_callV (Y' := YX4_removeAt) dX1_removeAt_13 lX1_31 gX4_removeAt (m4_removeAt (by decide) hn hL hi) hL.c rfl rfl rfl (Nat.le_of_ble_eq_true rfl) ⟨Nat.zero_le _, Nat.zero_le _⟩ (fun v h1 sz1 hq => ?_)
  obtain ⟨rfl, rfl, hf, hq⟩ := hq
  have hL : RW h1 (a + 3) 4 (n - 1) (rrm L i.toNat) := hq.elim (fun q => q.2) (fun q => absurd hi2 q.1)
  have hF := hF.then (hf.wide (by omega) (by omega))
  have hT := (hf a (by omega)).trans hT
  have hS := hS.kept (hf _ (by omega)) (hf _ (by omega))
  exact V_ret dX1_removeAt_16 rfl ⟨Nat.zero_le _, Nat.zero_le _⟩ ⟨rfl, rfl, hF, hT, hS, hL⟩
set_option maxHeartbeats 4000000 in
set_option maxRecDepth 100000 in
theorem m1_clear {z : ZG} {d sz a : Nat} {h : AH} {n : Int} {S L : Nat → Int} (hn : 0 ≤ n ∧ n ≤ 4) (hD : DT h a n S L) : M z YX1_clear (d + 1) 0 0 [.ref a] h sz (fun w h' sz' => w = none ∧ sz' = sz ∧ fr h h' a (a + 5) ∧ DT h' a 0 S L) := by
  refine M.of (by decide +kernel) (Nat.le_of_ble_eq_true rfl) ?_
  obtain ⟨hT, hS, hL⟩ := hD
  have hF : fr h h a (a + 5) := fr.rf
  refine V_aload_n dX1_clear_0 rfl ?_
  refine V_get dX1_clear_1 fX1_14 hT rfl ?_
  refine V_callV (Y' := YX4_clear) dX1_clear_4 lX1_42 gX4_clear (m4_clear (by decide) hn hS) hS.c rfl rfl rfl (Nat.le_of_ble_eq_true rfl) ⟨Nat.zero_le _, Nat.zero_le _⟩ (fun v h1 sz1 hq => ?_)
  obtain ⟨rfl, rfl, hf, hS⟩ := hq
  have hF := hF.then (hf.wide (by omega) (by omega))
  have hT := (hf a (by omega)).trans hT
  have hL := hL.kept (hf _ (by omega)) (hf _ (by omega))
  refine V_aload_n dX1_clear_7 rfl ?_
  refine V_get dX1_clear_8 fX1_20 hT rfl ?_
  refine V_callV (Y' := YX4_clear) dX1_clear_11 lX1_42 gX4_clear (m4_clear (by decide) hn hL) hL.c rfl rfl rfl (Nat.le_of_ble_eq_true rfl) ⟨Nat.zero_le _, Nat.zero_le _⟩ (fun v h1 sz1 hq => ?_)
  obtain ⟨rfl, rfl, hf, hL⟩ := hq
  have hF := hF.then (hf.wide (by omega) (by omega))
  have hT := (hf a (by omega)).trans hT
  have hS := hS.kept (hf _ (by omega)) (hf _ (by omega))
  exact V_ret dX1_clear_14 rfl ⟨Nat.zero_le _, Nat.zero_le _⟩ ⟨rfl, rfl, hF, hT, hS, hL⟩
set_option maxHeartbeats 4000000 in
set_option maxRecDepth 100000 in
theorem m1_copyFrom {z : ZG} {d sz a b : Nat} {h : AH} {n n2 : Int} {S L S2 L2 : Nat → Int} (hab : a + 5 ≤ b ∨ b + 5 ≤ a) (hn : 0 ≤ n ∧ n ≤ 4) (hn2 : 0 ≤ n2 ∧ n2 ≤ 4) (hD : DT h a n S L) (hD2 : DT h b n2 S2 L2) : M z YX1_copyFrom (d + 3) 0 0 [.ref a, .ref b] h sz (fun w h' sz' => w = none ∧ sz' = sz ∧ fr h h' a (a + 5) ∧ DT h' a n2 S2 L2) := by
  refine M.of (by decide +kernel) (Nat.le_of_ble_eq_true rfl) ?_
  obtain ⟨hT, hS, hL⟩ := hD
  obtain ⟨hT2, hS2, hL2⟩ := hD2
  have hF : fr h h a (a + 5) := fr.rf
  refine V_aload_n dX1_copyFrom_0 rfl ?_
  refine V_get dX1_copyFrom_1 fX1_14 hT rfl ?_
  refine V_aload_n dX1_copyFrom_4 rfl ?_
  refine V_get dX1_copyFrom_5 fX1_14 hT2 rfl ?_
  refine V_callV (Y' := YX4_copyFrom) dX1_copyFrom_8 lX1_45 gX4_copyFrom (m4_copyFrom (by decide) (by omega) hn2 hS hS2) hS.c rfl rfl rfl (Nat.le_of_ble_eq_true rfl) ⟨Nat.zero_le _, Nat.zero_le _⟩ (fun v h1 sz1 hq => ?_)
  obtain ⟨rfl, rfl, hf, hS⟩ := hq
  have hF := hF.then (hf.wide (by omega) (by omega))
  have hT := (hf a (by omega)).trans hT
  have hL := hL.kept (hf _ (by omega)) (hf _ (by omega))
  have hT2 := (hf b (by omega)).trans hT2
  have hS2 := hS2.kept (hf _ (by omega)) (hf _ (by omega))
  have hL2 := hL2.kept (hf _ (by omega)) (hf _ (by omega))
  refine V_aload_n dX1_copyFrom_11 rfl ?_
  refine V_get dX1_copyFrom_12 fX1_20 hT rfl ?_
  refine V_aload_n dX1_copyFrom_15 rfl ?_
  refine V_get dX1_copyFrom_16 fX1_20 hT2 rfl ?_
  refine V_callV (Y' := YX4_copyFrom) dX1_copyFrom_19 lX1_45 gX4_copyFrom (m4_copyFrom (by decide) (by omega) hn2 hL hL2) hL.c rfl rfl rfl (Nat.le_of_ble_eq_true rfl) ⟨Nat.zero_le _, Nat.zero_le _⟩ (fun v h1 sz1 hq => ?_)
  obtain ⟨rfl, rfl, hf, hL⟩ := hq
  have hF := hF.then (hf.wide (by omega) (by omega))
  have hT := (hf a (by omega)).trans hT
  have hS := hS.kept (hf _ (by omega)) (hf _ (by omega))
  have hT2 := (hf b (by omega)).trans hT2
  have hS2 := hS2.kept (hf _ (by omega)) (hf _ (by omega))
  have hL2 := hL2.kept (hf _ (by omega)) (hf _ (by omega))
  exact V_ret dX1_copyFrom_22 rfl ⟨Nat.zero_le _, Nat.zero_le _⟩ ⟨rfl, rfl, hF, hT, hS, hL⟩
set_option maxHeartbeats 4000000 in
set_option maxRecDepth 100000 in
theorem l1_covers_2 {z : ZG} {d sz a : Nat} {h : AH} {n : Int} {S L : Nat → Int} (hn : 0 ≤ n ∧ n ≤ 4) (hD : DT h a n S L) {x : Int} (hx : -2147483648 ≤ x ∧ x < 2147483648) (hrg : ∀ k : Nat, (k : Int) < n → (0 ≤ S k ∧ S k ≤ 9999) ∧ (0 ≤ L k ∧ L k ≤ 99)) : ∀ (f k : Nat) (o3 : Option Value), (k : Int) ≤ n → n - k < f → (∀ q : Nat, q < k → ¬ (S q ≤ x ∧ x ≤ S q + L q - 1)) → V z YX1_covers (zroom (d + 3) 0 0) (fun w h' sz' => ∃ t : Int, w = some (.int (I t)) ∧ ((t = 1 ∧ ∃ k : Nat, (k : Int) < n ∧ S k ≤ x ∧ x ≤ S k + L k - 1) ∨ (t = 0 ∧ ¬ ∃ k : Nat, (k : Int) < n ∧ S k ≤ x ∧ x ≤ S k + L k - 1)) ∧ h' = h ∧ sz' = sz) 2 [some (.ref a), some (.int (I x)), some (.int (I (k : Int))), o3] [] h sz 0 0 := by
  obtain ⟨hT, hS, hL⟩ := hD
  intro f
  induction f with
  | zero => intro k o3 h1 h2; omega
  | succ f ih =>
    intro k o3 h1 h2 hz
    refine V_iload_n dX1_covers_2 rfl ?_
    refine V_aload_n dX1_covers_3 rfl ?_
    refine V_get dX1_covers_4 fX1_14 hT rfl ?_
    refine V_callV (Y' := YX4_size) dX1_covers_7 lX1_34 gX4_size (m4_size (by decide) hn hS) hS.c rfl rfl rfl (Nat.le_of_ble_eq_true rfl) ⟨Nat.zero_le _, Nat.zero_le _⟩ (fun v h1 sz1 hq => ?_)
    obtain ⟨rfl, rfl, rfl⟩ := hq
    refine J_icmp_ge (tgt := 49) dX1_covers_10 (by decide) (by omega) (by omega) (fun c10 => ?_) (fun c10 => ?_)
    · refine J_iconst dX1_covers_49 ?_
      exact V_iret dX1_covers_50 rfl rfl ⟨Nat.zero_le _, Nat.zero_le _⟩ ⟨_, rfl, Or.inr ⟨rfl, fun ⟨q, q1, q2⟩ => hz q (by omega) q2⟩, rfl, rfl⟩
    · have hk := hrg k (by omega)
      refine V_aload_n dX1_covers_13 rfl ?_
      refine V_get dX1_covers_14 fX1_14 hT rfl ?_
      refine V_iload_n dX1_covers_17 rfl ?_
      refine V_callV (Y' := YX4_intAt) dX1_covers_18 lX1_38 gX4_intAt (m4_intAt (by decide) hn hS (by omega)) hS.c rfl rfl rfl (Nat.le_of_ble_eq_true rfl) ⟨Nat.zero_le _, Nat.zero_le _⟩ (fun v h1 sz1 hq => ?_)
      obtain ⟨rfl, rfl, rfl⟩ := hq
      rw [show rat n S (k : Int) = S k by unfold rat; rw [if_pos (by omega), Int.toNat_natCast]]
      refine V_istore_n dX1_covers_21 (Nat.le_of_ble_eq_true rfl) ?_
      refine V_iload_n dX1_covers_22 rfl ?_
      refine V_iload_n dX1_covers_23 rfl ?_
      refine J_icmp_lt (tgt := 43) dX1_covers_24 (by decide) (by omega) (by omega) (fun c24 => ?_) (fun c24 => ?_)
      · refine J_iinc dX1_covers_43 rfl ?_
        refine V_goto (tgt := 2) dX1_covers_46 (by decide) ?_
        refine ih (k + 1) _ (by omega) (by omega) (fun q hq => ?_)
        by_cases e : q = k
        · subst e; omega
        · exact hz q (by omega)
      · refine V_iload_n dX1_covers_27 rfl ?_
        refine V_iload_n dX1_covers_28 rfl ?_
        refine V_aload_n dX1_covers_29 rfl ?_
        refine V_get dX1_covers_30 fX1_20 hT rfl ?_
        refine V_iload_n dX1_covers_33 rfl ?_
        refine V_callV (Y' := YX4_intAt) dX1_covers_34 lX1_38 gX4_intAt (m4_intAt (by decide) hn hL (by omega)) hL.c rfl rfl rfl (Nat.le_of_ble_eq_true rfl) ⟨Nat.zero_le _, Nat.zero_le _⟩ (fun v h1 sz1 hq => ?_)
        obtain ⟨rfl, rfl, rfl⟩ := hq
        rw [show rat n L (k : Int) = L k by unfold rat; rw [if_pos (by omega), Int.toNat_natCast]]
        refine J_iadd dX1_covers_37 ?_
        refine J_icmp_ge (tgt := 43) dX1_covers_38 (by decide) (by omega) (by omega) (fun c38 => ?_) (fun c38 => ?_)
        · refine J_iinc dX1_covers_43 rfl ?_
          refine V_goto (tgt := 2) dX1_covers_46 (by decide) ?_
          refine ih (k + 1) _ (by omega) (by omega) (fun q hq => ?_)
          by_cases e : q = k
          · subst e; omega
          · exact hz q (by omega)
        · refine J_iconst dX1_covers_41 ?_
          exact V_iret dX1_covers_42 rfl rfl ⟨Nat.zero_le _, Nat.zero_le _⟩ ⟨_, rfl, Or.inl ⟨rfl, k, by omega, by omega, by omega⟩, rfl, rfl⟩
set_option maxHeartbeats 4000000 in
set_option maxRecDepth 100000 in
theorem m1_covers {z : ZG} {d sz a : Nat} {h : AH} {n : Int} {S L : Nat → Int} (hn : 0 ≤ n ∧ n ≤ 4) (hD : DT h a n S L) {x : Int} (hx : -2147483648 ≤ x ∧ x < 2147483648) (hrg : ∀ k : Nat, (k : Int) < n → (0 ≤ S k ∧ S k ≤ 9999) ∧ (0 ≤ L k ∧ L k ≤ 99)) : M z YX1_covers (d + 3) 0 0 [.ref a, .int (I x)] h sz (fun w h' sz' => ∃ t : Int, w = some (.int (I t)) ∧ ((t = 1 ∧ ∃ k : Nat, (k : Int) < n ∧ S k ≤ x ∧ x ≤ S k + L k - 1) ∨ (t = 0 ∧ ¬ ∃ k : Nat, (k : Int) < n ∧ S k ≤ x ∧ x ≤ S k + L k - 1)) ∧ h' = h ∧ sz' = sz) := by
  refine M.of (by decide +kernel) (Nat.le_of_ble_eq_true rfl) ?_
  refine J_iconst dX1_covers_0 ?_
  refine V_istore_n dX1_covers_1 (Nat.le_of_ble_eq_true rfl) ?_
  exact l1_covers_2 hn hD hx hrg 5 0 _ (by omega) (by omega) (fun q hq => by omega)
