/-! THE REFERENCE: a new one -/
def ra0 (j : Nat) : Int := if j = 0 then 400 else if j = 1 then 1000 else if j = 2 then 1740 else 0
def nw0 (j : Nat) : Int := if j = 5 then 4 else if j = 6 then 22 else if j = 7 then 3 else if j = 8 then 1 else if j = 9 then 660 else if j = 10 then 9 else 0
theorem rok_nw0 : rok nw0 := by
  refine ⟨by decide, by decide, by decide, by decide, by decide, by decide, by decide, ?_, ?_⟩
  · intro k hk
    match k, hk with
    | 0, _ => decide
    | 1, _ => decide
    | 2, _ => decide
    | 3, _ => decide
  · intro k hk
    match k, hk with
    | 0, _ => decide
    | 1, _ => decide
    | 2, _ => decide
    | 3, _ => decide
    | 4, _ => decide
    | 5, _ => decide
    | 6, _ => decide
    | 7, _ => decide
theorem ra0_rg : ∀ j : Nat, j < 6 → 0 ≤ ra0 j ∧ ra0 j ≤ 9999 := by
  intro j hj
  match j, hj with
  | 0, _ => decide
  | 1, _ => decide
  | 2, _ => decide
  | 3, _ => decide
  | 4, _ => decide
  | 5, _ => decide
set_option maxHeartbeats 4000000 in
set_option maxRecDepth 100000 in
theorem m8_init {z : ZG} {d r : Nat} {g h : AH} (hg : ∀ x, x < r → h x = g x) (hc : h r = some (.inl (8, [.null, .int 0, .int 0, .int 0, .int 0, .int 0, .null, .null, .int 0, .int 0, .null, .null, .null, .null, .int 0]))) : M z YX8_init (d + 1) 7 590 [.ref r] h (r + 1) (fun w h' sz' => w = none ∧ sz' = r + 8 ∧ MS g r (r + 5) (r + 6) 0 0 0 20 3 20 3 0 (fun _ => 0) ra0 nw0 ra0 nw0 (fun _ => 0) (fun _ => 0) h') := by
  refine M.of (by decide +kernel) (Nat.le_of_ble_eq_true rfl) ?_
  refine V_aload_n dX8_init_0 rfl ?_
  refine V_obj dX8_init_1 oX8_1 (Nat.le_of_ble_eq_true rfl) ?_
  refine V_aload_n dX8_init_4 rfl ?_
  refine J_sipush dX8_init_5 (by decide) ?_
  refine V_newi (N := 200) dX8_init_8 (by decide) (by decide) (by decide) ⟨Nat.le_of_ble_eq_true rfl, Nat.le_of_ble_eq_true rfl⟩ ?_
  have hc0 := (hset_n (h := h) (c := (.inr (200, .inl (fun _ => 0)) : AC)) (show r ≠ r + 1 by omega)).trans hc
  refine V_putF dX8_init_10 fX8_7 tX8_0 rfl (fun C T N q => by cases q; rfl) hc0 (Nat.le_of_ble_eq_true rfl) rfl rfl ?_
  have hcp0 := hset_s (h := hset h (r + 1) (.inr (200, .inl (fun _ => 0)))) (a := r) (c := (.inl (8, ([.null, .int 0, .int 0, .int 0, .int 0, .int 0, .null, .null, .int 0, .int 0, .null, .null, .null, .null, .int 0]).set 0 (.ref (r + 1))) : AC))
  refine V_aload_n dX8_init_13 rfl ?_
  refine J_bipush dX8_init_14 (by decide) ?_
  refine V_newi (N := 6) dX8_init_16 (by decide) (by decide) (by decide) ⟨Nat.le_of_ble_eq_true rfl, Nat.le_of_ble_eq_true rfl⟩ ?_
  have hc1 := (hset_n (h := (hset (hset h (r + 1) (.inr (200, .inl (fun _ => 0)))) r (.inl (8, ([.null, .int 0, .int 0, .int 0, .int 0, .int 0, .null, .null, .int 0, .int 0, .null, .null, .null, .null, .int 0]).set 0 (.ref (r + 1)))))) (c := (.inr (6, .inl (fun _ => 0)) : AC)) (show r ≠ r + 2 by omega)).trans hcp0
  refine V_putF dX8_init_18 fX8_13 tX8_6 rfl (fun C T N q => by cases q; rfl) hc1 (Nat.le_of_ble_eq_true rfl) rfl rfl ?_
  have hcp1 := hset_s (h := hset (hset (hset h (r + 1) (.inr (200, .inl (fun _ => 0)))) r (.inl (8, ([.null, .int 0, .int 0, .int 0, .int 0, .int 0, .null, .null, .int 0, .int 0, .null, .null, .null, .null, .int 0]).set 0 (.ref (r + 1))))) (r + 2) (.inr (6, .inl (fun _ => 0)))) (a := r) (c := (.inl (8, (([.null, .int 0, .int 0, .int 0, .int 0, .int 0, .null, .null, .int 0, .int 0, .null, .null, .null, .null, .int 0]).set 0 (.ref (r + 1))).set 6 (.ref (r + 2))) : AC))
  refine V_aload_n dX8_init_21 rfl ?_
  refine J_bipush dX8_init_22 (by decide) ?_
  refine V_newi (N := 42) dX8_init_24 (by decide) (by decide) (by decide) ⟨Nat.le_of_ble_eq_true rfl, Nat.le_of_ble_eq_true rfl⟩ ?_
  have hc2 := (hset_n (h := (hset (hset (hset (hset h (r + 1) (.inr (200, .inl (fun _ => 0)))) r (.inl (8, ([.null, .int 0, .int 0, .int 0, .int 0, .int 0, .null, .null, .int 0, .int 0, .null, .null, .null, .null, .int 0]).set 0 (.ref (r + 1))))) (r + 2) (.inr (6, .inl (fun _ => 0)))) r (.inl (8, (([.null, .int 0, .int 0, .int 0, .int 0, .int 0, .null, .null, .int 0, .int 0, .null, .null, .null, .null, .int 0]).set 0 (.ref (r + 1))).set 6 (.ref (r + 2)))))) (c := (.inr (42, .inl (fun _ => 0)) : AC)) (show r ≠ r + 3 by omega)).trans hcp1
  refine V_putF dX8_init_26 fX8_16 tX8_7 rfl (fun C T N q => by cases q; rfl) hc2 (Nat.le_of_ble_eq_true rfl) rfl rfl ?_
  have hcp2 := hset_s (h := hset (hset (hset (hset (hset h (r + 1) (.inr (200, .inl (fun _ => 0)))) r (.inl (8, ([.null, .int 0, .int 0, .int 0, .int 0, .int 0, .null, .null, .int 0, .int 0, .null, .null, .null, .null, .int 0]).set 0 (.ref (r + 1))))) (r + 2) (.inr (6, .inl (fun _ => 0)))) r (.inl (8, (([.null, .int 0, .int 0, .int 0, .int 0, .int 0, .null, .null, .int 0, .int 0, .null, .null, .null, .null, .int 0]).set 0 (.ref (r + 1))).set 6 (.ref (r + 2))))) (r + 3) (.inr (42, .inl (fun _ => 0)))) (a := r) (c := (.inl (8, ((([.null, .int 0, .int 0, .int 0, .int 0, .int 0, .null, .null, .int 0, .int 0, .null, .null, .null, .null, .int 0]).set 0 (.ref (r + 1))).set 6 (.ref (r + 2))).set 7 (.ref (r + 3))) : AC))
  refine V_aload_n dX8_init_29 rfl ?_
  refine J_bipush dX8_init_30 (by decide) ?_
  refine V_newi (N := 6) dX8_init_32 (by decide) (by decide) (by decide) ⟨Nat.le_of_ble_eq_true rfl, Nat.le_of_ble_eq_true rfl⟩ ?_
  have hc3 := (hset_n (h := (hset (hset (hset (hset (hset (hset h (r + 1) (.inr (200, .inl (fun _ => 0)))) r (.inl (8, ([.null, .int 0, .int 0, .int 0, .int 0, .int 0, .null, .null, .int 0, .int 0, .null, .null, .null, .null, .int 0]).set 0 (.ref (r + 1))))) (r + 2) (.inr (6, .inl (fun _ => 0)))) r (.inl (8, (([.null, .int 0, .int 0, .int 0, .int 0, .int 0, .null, .null, .int 0, .int 0, .null, .null, .null, .null, .int 0]).set 0 (.ref (r + 1))).set 6 (.ref (r + 2))))) (r + 3) (.inr (42, .inl (fun _ => 0)))) r (.inl (8, ((([.null, .int 0, .int 0, .int 0, .int 0, .int 0, .null, .null, .int 0, .int 0, .null, .null, .null, .null, .int 0]).set 0 (.ref (r + 1))).set 6 (.ref (r + 2))).set 7 (.ref (r + 3)))))) (c := (.inr (6, .inl (fun _ => 0)) : AC)) (show r ≠ r + 4 by omega)).trans hcp2
  refine V_putF dX8_init_34 fX8_19 tX8_10 rfl (fun C T N q => by cases q; rfl) hc3 (Nat.le_of_ble_eq_true rfl) rfl rfl ?_
  have hcp3 := hset_s (h := hset (hset (hset (hset (hset (hset (hset h (r + 1) (.inr (200, .inl (fun _ => 0)))) r (.inl (8, ([.null, .int 0, .int 0, .int 0, .int 0, .int 0, .null, .null, .int 0, .int 0, .null, .null, .null, .null, .int 0]).set 0 (.ref (r + 1))))) (r + 2) (.inr (6, .inl (fun _ => 0)))) r (.inl (8, (([.null, .int 0, .int 0, .int 0, .int 0, .int 0, .null, .null, .int 0, .int 0, .null, .null, .null, .null, .int 0]).set 0 (.ref (r + 1))).set 6 (.ref (r + 2))))) (r + 3) (.inr (42, .inl (fun _ => 0)))) r (.inl (8, ((([.null, .int 0, .int 0, .int 0, .int 0, .int 0, .null, .null, .int 0, .int 0, .null, .null, .null, .null, .int 0]).set 0 (.ref (r + 1))).set 6 (.ref (r + 2))).set 7 (.ref (r + 3))))) (r + 4) (.inr (6, .inl (fun _ => 0)))) (a := r) (c := (.inl (8, (((([.null, .int 0, .int 0, .int 0, .int 0, .int 0, .null, .null, .int 0, .int 0, .null, .null, .null, .null, .int 0]).set 0 (.ref (r + 1))).set 6 (.ref (r + 2))).set 7 (.ref (r + 3))).set 10 (.ref (r + 4))) : AC))
  refine V_aload_n dX8_init_37 rfl ?_
  refine J_bipush dX8_init_38 (by decide) ?_
  refine V_newi (N := 42) dX8_init_40 (by decide) (by decide) (by decide) ⟨Nat.le_of_ble_eq_true rfl, Nat.le_of_ble_eq_true rfl⟩ ?_
  have hc4 := (hset_n (h := (hset (hset (hset (hset (hset (hset (hset (hset h (r + 1) (.inr (200, .inl (fun _ => 0)))) r (.inl (8, ([.null, .int 0, .int 0, .int 0, .int 0, .int 0, .null, .null, .int 0, .int 0, .null, .null, .null, .null, .int 0]).set 0 (.ref (r + 1))))) (r + 2) (.inr (6, .inl (fun _ => 0)))) r (.inl (8, (([.null, .int 0, .int 0, .int 0, .int 0, .int 0, .null, .null, .int 0, .int 0, .null, .null, .null, .null, .int 0]).set 0 (.ref (r + 1))).set 6 (.ref (r + 2))))) (r + 3) (.inr (42, .inl (fun _ => 0)))) r (.inl (8, ((([.null, .int 0, .int 0, .int 0, .int 0, .int 0, .null, .null, .int 0, .int 0, .null, .null, .null, .null, .int 0]).set 0 (.ref (r + 1))).set 6 (.ref (r + 2))).set 7 (.ref (r + 3))))) (r + 4) (.inr (6, .inl (fun _ => 0)))) r (.inl (8, (((([.null, .int 0, .int 0, .int 0, .int 0, .int 0, .null, .null, .int 0, .int 0, .null, .null, .null, .null, .int 0]).set 0 (.ref (r + 1))).set 6 (.ref (r + 2))).set 7 (.ref (r + 3))).set 10 (.ref (r + 4)))))) (c := (.inr (42, .inl (fun _ => 0)) : AC)) (show r ≠ r + 5 by omega)).trans hcp3
  refine V_put dX8_init_42 fX8_22 tX8_11 hc4 (Nat.le_of_ble_eq_true rfl) rfl rfl ?_
  have hcp4 := hset_s (h := hset (hset (hset (hset (hset (hset (hset (hset (hset h (r + 1) (.inr (200, .inl (fun _ => 0)))) r (.inl (8, ([.null, .int 0, .int 0, .int 0, .int 0, .int 0, .null, .null, .int 0, .int 0, .null, .null, .null, .null, .int 0]).set 0 (.ref (r + 1))))) (r + 2) (.inr (6, .inl (fun _ => 0)))) r (.inl (8, (([.null, .int 0, .int 0, .int 0, .int 0, .int 0, .null, .null, .int 0, .int 0, .null, .null, .null, .null, .int 0]).set 0 (.ref (r + 1))).set 6 (.ref (r + 2))))) (r + 3) (.inr (42, .inl (fun _ => 0)))) r (.inl (8, ((([.null, .int 0, .int 0, .int 0, .int 0, .int 0, .null, .null, .int 0, .int 0, .null, .null, .null, .null, .int 0]).set 0 (.ref (r + 1))).set 6 (.ref (r + 2))).set 7 (.ref (r + 3))))) (r + 4) (.inr (6, .inl (fun _ => 0)))) r (.inl (8, (((([.null, .int 0, .int 0, .int 0, .int 0, .int 0, .null, .null, .int 0, .int 0, .null, .null, .null, .null, .int 0]).set 0 (.ref (r + 1))).set 6 (.ref (r + 2))).set 7 (.ref (r + 3))).set 10 (.ref (r + 4))))) (r + 5) (.inr (42, .inl (fun _ => 0)))) (a := r) (c := (.inl (8, ((((([.null, .int 0, .int 0, .int 0, .int 0, .int 0, .null, .null, .int 0, .int 0, .null, .null, .null, .null, .int 0]).set 0 (.ref (r + 1))).set 6 (.ref (r + 2))).set 7 (.ref (r + 3))).set 10 (.ref (r + 4))).set 11 (.ref (r + 5))) : AC))
  refine V_aload_n dX8_init_45 rfl ?_
  refine J_bipush dX8_init_46 (by decide) ?_
  refine V_newi (N := 42) dX8_init_48 (by decide) (by decide) (by decide) ⟨Nat.le_of_ble_eq_true rfl, Nat.le_of_ble_eq_true rfl⟩ ?_
  have hc5 := (hset_n (h := (hset (hset (hset (hset (hset (hset (hset (hset (hset (hset h (r + 1) (.inr (200, .inl (fun _ => 0)))) r (.inl (8, ([.null, .int 0, .int 0, .int 0, .int 0, .int 0, .null, .null, .int 0, .int 0, .null, .null, .null, .null, .int 0]).set 0 (.ref (r + 1))))) (r + 2) (.inr (6, .inl (fun _ => 0)))) r (.inl (8, (([.null, .int 0, .int 0, .int 0, .int 0, .int 0, .null, .null, .int 0, .int 0, .null, .null, .null, .null, .int 0]).set 0 (.ref (r + 1))).set 6 (.ref (r + 2))))) (r + 3) (.inr (42, .inl (fun _ => 0)))) r (.inl (8, ((([.null, .int 0, .int 0, .int 0, .int 0, .int 0, .null, .null, .int 0, .int 0, .null, .null, .null, .null, .int 0]).set 0 (.ref (r + 1))).set 6 (.ref (r + 2))).set 7 (.ref (r + 3))))) (r + 4) (.inr (6, .inl (fun _ => 0)))) r (.inl (8, (((([.null, .int 0, .int 0, .int 0, .int 0, .int 0, .null, .null, .int 0, .int 0, .null, .null, .null, .null, .int 0]).set 0 (.ref (r + 1))).set 6 (.ref (r + 2))).set 7 (.ref (r + 3))).set 10 (.ref (r + 4))))) (r + 5) (.inr (42, .inl (fun _ => 0)))) r (.inl (8, ((((([.null, .int 0, .int 0, .int 0, .int 0, .int 0, .null, .null, .int 0, .int 0, .null, .null, .null, .null, .int 0]).set 0 (.ref (r + 1))).set 6 (.ref (r + 2))).set 7 (.ref (r + 3))).set 10 (.ref (r + 4))).set 11 (.ref (r + 5)))))) (c := (.inr (42, .inl (fun _ => 0)) : AC)) (show r ≠ r + 6 by omega)).trans hcp4
  refine V_put dX8_init_50 fX8_25 tX8_12 hc5 (Nat.le_of_ble_eq_true rfl) rfl rfl ?_
  have hcp5 := hset_s (h := hset (hset (hset (hset (hset (hset (hset (hset (hset (hset (hset h (r + 1) (.inr (200, .inl (fun _ => 0)))) r (.inl (8, ([.null, .int 0, .int 0, .int 0, .int 0, .int 0, .null, .null, .int 0, .int 0, .null, .null, .null, .null, .int 0]).set 0 (.ref (r + 1))))) (r + 2) (.inr (6, .inl (fun _ => 0)))) r (.inl (8, (([.null, .int 0, .int 0, .int 0, .int 0, .int 0, .null, .null, .int 0, .int 0, .null, .null, .null, .null, .int 0]).set 0 (.ref (r + 1))).set 6 (.ref (r + 2))))) (r + 3) (.inr (42, .inl (fun _ => 0)))) r (.inl (8, ((([.null, .int 0, .int 0, .int 0, .int 0, .int 0, .null, .null, .int 0, .int 0, .null, .null, .null, .null, .int 0]).set 0 (.ref (r + 1))).set 6 (.ref (r + 2))).set 7 (.ref (r + 3))))) (r + 4) (.inr (6, .inl (fun _ => 0)))) r (.inl (8, (((([.null, .int 0, .int 0, .int 0, .int 0, .int 0, .null, .null, .int 0, .int 0, .null, .null, .null, .null, .int 0]).set 0 (.ref (r + 1))).set 6 (.ref (r + 2))).set 7 (.ref (r + 3))).set 10 (.ref (r + 4))))) (r + 5) (.inr (42, .inl (fun _ => 0)))) r (.inl (8, ((((([.null, .int 0, .int 0, .int 0, .int 0, .int 0, .null, .null, .int 0, .int 0, .null, .null, .null, .null, .int 0]).set 0 (.ref (r + 1))).set 6 (.ref (r + 2))).set 7 (.ref (r + 3))).set 10 (.ref (r + 4))).set 11 (.ref (r + 5))))) (r + 6) (.inr (42, .inl (fun _ => 0)))) (a := r) (c := (.inl (8, (((((([.null, .int 0, .int 0, .int 0, .int 0, .int 0, .null, .null, .int 0, .int 0, .null, .null, .null, .null, .int 0]).set 0 (.ref (r + 1))).set 6 (.ref (r + 2))).set 7 (.ref (r + 3))).set 10 (.ref (r + 4))).set 11 (.ref (r + 5))).set 12 (.ref (r + 6))) : AC))
  refine V_aload_n dX8_init_53 rfl ?_
  refine J_sipush dX8_init_54 (by decide) ?_
  refine V_newi (N := 252) dX8_init_57 (by decide) (by decide) (by decide) ⟨Nat.le_of_ble_eq_true rfl, Nat.le_of_ble_eq_true rfl⟩ ?_
  have hc6 := (hset_n (h := (hset (hset (hset (hset (hset (hset (hset (hset (hset (hset (hset (hset h (r + 1) (.inr (200, .inl (fun _ => 0)))) r (.inl (8, ([.null, .int 0, .int 0, .int 0, .int 0, .int 0, .null, .null, .int 0, .int 0, .null, .null, .null, .null, .int 0]).set 0 (.ref (r + 1))))) (r + 2) (.inr (6, .inl (fun _ => 0)))) r (.inl (8, (([.null, .int 0, .int 0, .int 0, .int 0, .int 0, .null, .null, .int 0, .int 0, .null, .null, .null, .null, .int 0]).set 0 (.ref (r + 1))).set 6 (.ref (r + 2))))) (r + 3) (.inr (42, .inl (fun _ => 0)))) r (.inl (8, ((([.null, .int 0, .int 0, .int 0, .int 0, .int 0, .null, .null, .int 0, .int 0, .null, .null, .null, .null, .int 0]).set 0 (.ref (r + 1))).set 6 (.ref (r + 2))).set 7 (.ref (r + 3))))) (r + 4) (.inr (6, .inl (fun _ => 0)))) r (.inl (8, (((([.null, .int 0, .int 0, .int 0, .int 0, .int 0, .null, .null, .int 0, .int 0, .null, .null, .null, .null, .int 0]).set 0 (.ref (r + 1))).set 6 (.ref (r + 2))).set 7 (.ref (r + 3))).set 10 (.ref (r + 4))))) (r + 5) (.inr (42, .inl (fun _ => 0)))) r (.inl (8, ((((([.null, .int 0, .int 0, .int 0, .int 0, .int 0, .null, .null, .int 0, .int 0, .null, .null, .null, .null, .int 0]).set 0 (.ref (r + 1))).set 6 (.ref (r + 2))).set 7 (.ref (r + 3))).set 10 (.ref (r + 4))).set 11 (.ref (r + 5))))) (r + 6) (.inr (42, .inl (fun _ => 0)))) r (.inl (8, (((((([.null, .int 0, .int 0, .int 0, .int 0, .int 0, .null, .null, .int 0, .int 0, .null, .null, .null, .null, .int 0]).set 0 (.ref (r + 1))).set 6 (.ref (r + 2))).set 7 (.ref (r + 3))).set 10 (.ref (r + 4))).set 11 (.ref (r + 5))).set 12 (.ref (r + 6)))))) (c := (.inr (252, .inl (fun _ => 0)) : AC)) (show r ≠ r + 7 by omega)).trans hcp5
  refine V_putF dX8_init_59 fX8_28 tX8_13 rfl (fun C T N q => by cases q; rfl) hc6 (Nat.le_of_ble_eq_true rfl) rfl rfl ?_
  have hcp6 := hset_s (h := hset (hset (hset (hset (hset (hset (hset (hset (hset (hset (hset (hset (hset h (r + 1) (.inr (200, .inl (fun _ => 0)))) r (.inl (8, ([.null, .int 0, .int 0, .int 0, .int 0, .int 0, .null, .null, .int 0, .int 0, .null, .null, .null, .null, .int 0]).set 0 (.ref (r + 1))))) (r + 2) (.inr (6, .inl (fun _ => 0)))) r (.inl (8, (([.null, .int 0, .int 0, .int 0, .int 0, .int 0, .null, .null, .int 0, .int 0, .null, .null, .null, .null, .int 0]).set 0 (.ref (r + 1))).set 6 (.ref (r + 2))))) (r + 3) (.inr (42, .inl (fun _ => 0)))) r (.inl (8, ((([.null, .int 0, .int 0, .int 0, .int 0, .int 0, .null, .null, .int 0, .int 0, .null, .null, .null, .null, .int 0]).set 0 (.ref (r + 1))).set 6 (.ref (r + 2))).set 7 (.ref (r + 3))))) (r + 4) (.inr (6, .inl (fun _ => 0)))) r (.inl (8, (((([.null, .int 0, .int 0, .int 0, .int 0, .int 0, .null, .null, .int 0, .int 0, .null, .null, .null, .null, .int 0]).set 0 (.ref (r + 1))).set 6 (.ref (r + 2))).set 7 (.ref (r + 3))).set 10 (.ref (r + 4))))) (r + 5) (.inr (42, .inl (fun _ => 0)))) r (.inl (8, ((((([.null, .int 0, .int 0, .int 0, .int 0, .int 0, .null, .null, .int 0, .int 0, .null, .null, .null, .null, .int 0]).set 0 (.ref (r + 1))).set 6 (.ref (r + 2))).set 7 (.ref (r + 3))).set 10 (.ref (r + 4))).set 11 (.ref (r + 5))))) (r + 6) (.inr (42, .inl (fun _ => 0)))) r (.inl (8, (((((([.null, .int 0, .int 0, .int 0, .int 0, .int 0, .null, .null, .int 0, .int 0, .null, .null, .null, .null, .int 0]).set 0 (.ref (r + 1))).set 6 (.ref (r + 2))).set 7 (.ref (r + 3))).set 10 (.ref (r + 4))).set 11 (.ref (r + 5))).set 12 (.ref (r + 6))))) (r + 7) (.inr (252, .inl (fun _ => 0)))) (a := r) (c := (.inl (8, ((((((([.null, .int 0, .int 0, .int 0, .int 0, .int 0, .null, .null, .int 0, .int 0, .null, .null, .null, .null, .int 0]).set 0 (.ref (r + 1))).set 6 (.ref (r + 2))).set 7 (.ref (r + 3))).set 10 (.ref (r + 4))).set 11 (.ref (r + 5))).set 12 (.ref (r + 6))).set 13 (.ref (r + 7))) : AC))
  generalize hHe : (hset (hset (hset (hset (hset (hset (hset (hset (hset (hset (hset (hset (hset (hset h (r + 1) (.inr (200, .inl (fun _ => 0)))) r (.inl (8, ([.null, .int 0, .int 0, .int 0, .int 0, .int 0, .null, .null, .int 0, .int 0, .null, .null, .null, .null, .int 0]).set 0 (.ref (r + 1))))) (r + 2) (.inr (6, .inl (fun _ => 0)))) r (.inl (8, (([.null, .int 0, .int 0, .int 0, .int 0, .int 0, .null, .null, .int 0, .int 0, .null, .null, .null, .null, .int 0]).set 0 (.ref (r + 1))).set 6 (.ref (r + 2))))) (r + 3) (.inr (42, .inl (fun _ => 0)))) r (.inl (8, ((([.null, .int 0, .int 0, .int 0, .int 0, .int 0, .null, .null, .int 0, .int 0, .null, .null, .null, .null, .int 0]).set 0 (.ref (r + 1))).set 6 (.ref (r + 2))).set 7 (.ref (r + 3))))) (r + 4) (.inr (6, .inl (fun _ => 0)))) r (.inl (8, (((([.null, .int 0, .int 0, .int 0, .int 0, .int 0, .null, .null, .int 0, .int 0, .null, .null, .null, .null, .int 0]).set 0 (.ref (r + 1))).set 6 (.ref (r + 2))).set 7 (.ref (r + 3))).set 10 (.ref (r + 4))))) (r + 5) (.inr (42, .inl (fun _ => 0)))) r (.inl (8, ((((([.null, .int 0, .int 0, .int 0, .int 0, .int 0, .null, .null, .int 0, .int 0, .null, .null, .null, .null, .int 0]).set 0 (.ref (r + 1))).set 6 (.ref (r + 2))).set 7 (.ref (r + 3))).set 10 (.ref (r + 4))).set 11 (.ref (r + 5))))) (r + 6) (.inr (42, .inl (fun _ => 0)))) r (.inl (8, (((((([.null, .int 0, .int 0, .int 0, .int 0, .int 0, .null, .null, .int 0, .int 0, .null, .null, .null, .null, .int 0]).set 0 (.ref (r + 1))).set 6 (.ref (r + 2))).set 7 (.ref (r + 3))).set 10 (.ref (r + 4))).set 11 (.ref (r + 5))).set 12 (.ref (r + 6))))) (r + 7) (.inr (252, .inl (fun _ => 0)))) r (.inl (8, ((((((([.null, .int 0, .int 0, .int 0, .int 0, .int 0, .null, .null, .int 0, .int 0, .null, .null, .null, .null, .int 0]).set 0 (.ref (r + 1))).set 6 (.ref (r + 2))).set 7 (.ref (r + 3))).set 10 (.ref (r + 4))).set 11 (.ref (r + 5))).set 12 (.ref (r + 6))).set 13 (.ref (r + 7))))) = hh at *
  have hm : MS g r (r + 5) (r + 6) 0 0 0 0 0 0 0 0 (fun _ => 0) (fun _ => 0) (fun _ => 0) (fun _ => 0) (fun _ => 0) (fun _ => 0) (fun _ => 0) hh := by
    subst hHe
    refine ⟨hset_s, ⟨?_, ?_, ?_, ?_, ?_, ?_, ?_⟩, Or.inl ⟨rfl, rfl⟩, fun x hx => ?_⟩
    · exact ⟨fun _ => 0, by simp [hset], fun _ _ => rfl⟩
    · exact ⟨fun _ => 0, by simp [hset], fun _ _ => rfl⟩
    · exact ⟨fun _ => 0, by simp [hset], fun _ _ => rfl⟩
    · exact ⟨fun _ => 0, by simp [hset], fun _ _ => rfl⟩
    · exact ⟨fun _ => 0, by simp [hset], fun _ _ => rfl⟩
    · exact ⟨fun _ => 0, by simp [hset], fun _ _ => rfl⟩
    · exact ⟨fun _ => 0, by simp [hset], fun _ _ => rfl⟩
    · have e : ∀ q, r ≤ q → x ≠ q := fun q hq => by omega
      simp only [hset, if_neg (e r (by omega)), if_neg (e (r + 1) (by omega)), if_neg (e (r + 2) (by omega)), if_neg (e (r + 3) (by omega)), if_neg (e (r + 4) (by omega)), if_neg (e (r + 5) (by omega)), if_neg (e (r + 6) (by omega)), if_neg (e (r + 7) (by omega))]
      exact hg x hx
  refine V_aload_n dX8_init_62 rfl ?_
  refine V_callV (Y' := YX8_beginRead) dX8_init_63 lX8_31 gX8_beginRead (m8_beginRead hm) hm.1 rfl rfl rfl (Nat.le_of_ble_eq_true rfl) ⟨Nat.le_of_ble_eq_true rfl, Nat.le_of_ble_eq_true rfl⟩ (fun v h1 sz1 hq => ?_)
  obtain ⟨rfl, rfl, hm⟩ := hq
  refine V_aload_n dX8_init_66 rfl ?_
  refine J_bipush dX8_init_67 (by decide) ?_
  refine R_put_4 dX8_init_69 fX8_34 hm (fun h hm => ?_)
  refine V_aload_n dX8_init_72 rfl ?_
  refine J_iconst dX8_init_73 ?_
  refine R_put_5 dX8_init_74 fX8_38 hm (fun h hm => ?_)
  refine V_aload_n dX8_init_77 rfl ?_
  refine V_get dX8_init_78 fX8_13 hm.1 rfl ?_
  refine J_iconst dX8_init_81 ?_
  refine J_sipush dX8_init_82 (by decide) ?_
  refine R_astk_RA 0 dX8_init_85 hm rfl (by decide) (fun h hm => ?_)
  refine V_aload_n dX8_init_86 rfl ?_
  refine V_get dX8_init_87 fX8_13 hm.1 rfl ?_
  refine J_iconst dX8_init_90 ?_
  refine J_sipush dX8_init_91 (by decide) ?_
  refine R_astk_RA 1 dX8_init_94 hm rfl (by decide) (fun h hm => ?_)
  refine V_aload_n dX8_init_95 rfl ?_
  refine V_get dX8_init_96 fX8_13 hm.1 rfl ?_
  refine J_iconst dX8_init_99 ?_
  refine J_sipush dX8_init_100 (by decide) ?_
  refine R_astk_RA 2 dX8_init_103 hm rfl (by decide) (fun h hm => ?_)
  refine V_aload_n dX8_init_104 rfl ?_
  refine V_get dX8_init_105 fX8_16 hm.1 rfl ?_
  refine J_bipush dX8_init_108 (by decide) ?_
  refine J_iconst dX8_init_110 ?_
  refine R_astk_RD 7 dX8_init_111 hm rfl (by decide) (fun h hm => ?_)
  refine V_aload_n dX8_init_112 rfl ?_
  refine V_get dX8_init_113 fX8_16 hm.1 rfl ?_
  refine J_bipush dX8_init_116 (by decide) ?_
  refine J_iconst dX8_init_118 ?_
  refine R_astk_RD 8 dX8_init_119 hm rfl (by decide) (fun h hm => ?_)
  refine V_aload_n dX8_init_120 rfl ?_
  refine V_get dX8_init_121 fX8_16 hm.1 rfl ?_
  refine J_bipush dX8_init_124 (by decide) ?_
  refine J_sipush dX8_init_126 (by decide) ?_
  refine R_astk_RD 9 dX8_init_129 hm rfl (by decide) (fun h hm => ?_)
  refine V_aload_n dX8_init_130 rfl ?_
  refine V_get dX8_init_131 fX8_16 hm.1 rfl ?_
  refine J_bipush dX8_init_134 (by decide) ?_
  refine J_bipush dX8_init_136 (by decide) ?_
  refine R_astk_RD 10 dX8_init_138 hm rfl (by decide) (fun h hm => ?_)
  refine V_aload_n dX8_init_139 rfl ?_
  refine V_callV (Y' := YX8_takeRead) dX8_init_140 lX8_41 gX8_takeRead (m8_takeRead hm) hm.1 rfl rfl rfl (Nat.le_of_ble_eq_true rfl) ⟨Nat.le_of_ble_eq_true rfl, Nat.le_of_ble_eq_true rfl⟩ (fun v h1 sz1 hq => ?_)
  obtain ⟨rfl, rfl, hm⟩ := hq
  refine V_ret dX8_init_143 rfl ⟨Nat.le_of_ble_eq_true rfl, Nat.le_of_ble_eq_true rfl⟩ ⟨rfl, rfl, ?_⟩
  have e1 : ∀ j, j < 6 → va_up (va_up (va_up (fun _ => (0 : Int)) 0 400) 1 1000) 2 1740 j = ra0 j := by
    intro j hj
    match j, hj with
    | 0, _ => rfl
    | 1, _ => rfl
    | 2, _ => rfl
    | 3, _ => rfl
    | 4, _ => rfl
    | 5, _ => rfl
  have e2 : ∀ j, j < 42 → va_up (va_up (va_up (va_up rd0 7 3) 8 1) 9 660) 10 9 j = nw0 j := by
    intro j hj
    simp only [va_up, rd0, nw0]
    (repeat' split) <;> first | rfl | omega
  exact (((hm.eRA e1).eMA e1).eRD e2).eNW e2
