/-! THE CLASS: Math, a new row; Decoder, Dirt, Log (X0, X1, X3) -/
theorem gm_mxl : Cond.methodLink RX4 7 Lib.Math.max.name ∈ gw := gw_t 30 (by decide +kernel) rfl
theorem gm_mxs : Cond.static Lib.Math.max.name ∈ gw := gw_t 31 (by decide +kernel) rfl
theorem gm_ini : Cond.initialized "java/lang/Math" ∈ gw := gw_t 3 (by decide +kernel) rfl
theorem gm_mxc : Cond.code Lib.Math.max.name Lib.Math.max.code 2 (some .int) ∈ gw := gw_t 32 (by decide +kernel) rfl
theorem gm_abl : Cond.methodLink RX7 229 Lib.Math.abs.name ∈ gw := gw_t 439 (by decide +kernel) rfl
theorem gm_abs : Cond.static Lib.Math.abs.name ∈ gw := gw_t 440 (by decide +kernel) rfl
theorem gm_abc : Cond.code Lib.Math.abs.name Lib.Math.abs.code 1 (some .int) ∈ gw := gw_t 441 (by decide +kernel) rfl
theorem gm_all : Cond.methodLink RX7 213 Lib.MathLoose.abs_long.x ∈ gw := gw_t 542 (by decide +kernel) rfl
theorem gm_als : Cond.static Lib.MathLoose.abs_long.x ∈ gw := gw_t 543 (by decide +kernel) rfl
theorem gm_alc : Cond.code Lib.MathLoose.abs_long.x Lib.MathLoose.abs_long.code 2 (some .long) ∈ gw := gw_t 544 (by decide +kernel) rfl
theorem V_mmax {z : ZG} {Y : ZM} {Q : ZQ} {pc d mc ms : Nat} {L : AL} {st : List Value} {h : AH} {sz kc nc : Nat} {x y : Int32} (hY : Y.1.cls = RX4) (hd : decode Y.2.1 pc = .ok (.invokestatic 7, 3)) (hst : (st.map fun v => v.category).sum ≤ 8) (hk : kc ≤ mc ∧ nc ≤ ms) (kk : V z Y (zroom (d + 1) mc ms) Q (pc + 3) L (.int (if x < y then y else x) :: st) h sz kc nc) : V z Y (zroom (d + 1) mc ms) Q pc L (.int y :: .int x :: st) h sz kc nc := by
  intro p e s m args below meth c d0 H locs ls C hd0 hL hr
  have hts := dr_words C.2.2.2.2.1 d0
  have hown : (s.setDrawn d0).vm.findClass Y.1.cls = some m.cls := C.2.2.2.1
  have w1 := hts _ gm_mxl
  have w2 := hts _ gm_mxs
  have w3 := hts _ gm_ini
  have w4 := hts _ gm_mxc
  rw [hY] at hown
  exact va_mmax C.1 C.2.1 (by rw [C.2.2.1, ← hL]; exact hr.2.2.1.1.symm) hown w1 w2 w3 w4 (by show 1 ≤ d + 1; omega) (by show _ + 13 ≤ 31 * (d + 1); rw [zw_sum]; omega) hk.1 hk.2 hd (kk p e s m args below meth c d0 H locs ls C hd0 hL hr)
theorem V_mabs {z : ZG} {Y : ZM} {Q : ZQ} {pc d mc ms : Nat} {L : AL} {st : List Value} {h : AH} {sz kc nc : Nat} {x : Int32} (hY : Y.1.cls = RX7) (hd : decode Y.2.1 pc = .ok (.invokestatic 229, 3)) (hst : (st.map fun v => v.category).sum ≤ 8) (hk : kc ≤ mc ∧ nc ≤ ms) (kk : V z Y (zroom (d + 1) mc ms) Q (pc + 3) L (.int (if 0 ≤ x then x else -x) :: st) h sz kc nc) : V z Y (zroom (d + 1) mc ms) Q pc L (.int x :: st) h sz kc nc := by
  intro p e s m args below meth c d0 H locs ls C hd0 hL hr
  have hts := dr_words C.2.2.2.2.1 d0
  have hown : (s.setDrawn d0).vm.findClass Y.1.cls = some m.cls := C.2.2.2.1
  have w1 := hts _ gm_abl
  have w2 := hts _ gm_abs
  have w3 := hts _ gm_ini
  have w4 := hts _ gm_abc
  rw [hY] at hown
  exact va_mabs C.1 C.2.1 (by rw [C.2.2.1, ← hL]; exact hr.2.2.1.1.symm) hown w1 w2 w3 w4 (by show 1 ≤ d + 1; omega) (by show _ + 12 ≤ 31 * (d + 1); rw [zw_sum]; omega) hk.1 hk.2 hd (kk p e s m args below meth c d0 H locs ls C hd0 hL hr)
theorem V_mabsl {z : ZG} {Y : ZM} {Q : ZQ} {pc d mc ms : Nat} {L : AL} {st : List Value} {h : AH} {sz kc nc : Nat} {x : Int64} (hY : Y.1.cls = RX7) (hd : decode Y.2.1 pc = .ok (.invokestatic 213, 3)) (hst : (st.map fun v => v.category).sum ≤ 8) (hk : kc ≤ mc ∧ nc ≤ ms) (kk : V z Y (zroom (d + 1) mc ms) Q (pc + 3) L (.long (if 0 < x then x else -x) :: st) h sz kc nc) : V z Y (zroom (d + 1) mc ms) Q pc L (.long x :: st) h sz kc nc := by
  intro p e s m args below meth c d0 H locs ls C hd0 hL hr
  have hts := dr_words C.2.2.2.2.1 d0
  have hown : (s.setDrawn d0).vm.findClass Y.1.cls = some m.cls := C.2.2.2.1
  have w1 := hts _ gm_all
  have w2 := hts _ gm_als
  have w3 := hts _ gm_ini
  have w4 := hts _ gm_alc
  rw [hY] at hown
  exact va_mabs_long C.1 C.2.1 (by rw [C.2.2.1, ← hL]; exact hr.2.2.1.1.symm) hown w1 w2 w3 w4 (by show 1 ≤ d + 1; omega) (by show _ + 13 ≤ 31 * (d + 1); rw [zw_sum]; omega) hk.1 hk.2 hd (kk p e s m args below meth c d0 H locs ls C hd0 hL hr)
set_option maxHeartbeats 4000000 in
set_option maxRecDepth 100000 in
theorem m4_init {z : ZG} {d a cap : Nat} {h : AH} (hc : 1 ≤ cap ∧ cap ≤ 200) (hb : h a = some (.inl (4, [.null, .int 0]))) : M z YX4_init (d + 1) 1 cap [.ref a, .int (I (cap : Int))] h (a + 1) (fun w h' sz' => w = none ∧ sz' = a + 2 ∧ fr h h' a (a + 2) ∧ RW h' a cap 0 (fun _ => 0)) := by
  refine M.of (by decide +kernel) (Nat.le_of_ble_eq_true rfl) ?_
  refine V_aload_n dX4_init_0 rfl ?_
  refine V_obj dX4_init_1 oX4_1 (Nat.le_of_ble_eq_true rfl) ?_
  refine V_aload_n dX4_init_4 rfl ?_
  refine V_iload_n dX4_init_5 rfl ?_
  refine J_iconst dX4_init_6 ?_
  refine V_mmax rfl dX4_init_7 (Nat.le_of_ble_eq_true rfl) ⟨Nat.zero_le _, Nat.zero_le _⟩ ?_
  have e1 : (if I (cap : Int) < I 1 then I 1 else I (cap : Int)) = I (cap : Int) := by
    rw [if_neg]
    rw [I_lt (by omega) (by omega)]
    omega
  rw [e1]
  refine V_newl (N := cap) dX4_init_10 (fun q => by have := (I_lt (a := (cap : Int)) (b := 0) (by omega) (by omega)).mp q; omega) (by rw [I_clamp (by omega), Int.toNat_natCast]) (by show cap * 8 ≤ 536870912; omega) ⟨by show 0 + 1 ≤ 1; omega, by show 0 + cap ≤ cap; omega⟩ ?_
  refine V_putF dX4_init_12 fX4_13 tX4_0 rfl (fun C T N q => by cases q; rfl) ((hset_n (by omega)).trans hb) (Nat.le_of_ble_eq_true rfl) rfl rfl ?_
  refine V_ret dX4_init_15 rfl ⟨by show 0 + 1 ≤ 1; omega, by show 0 + cap ≤ cap; omega⟩ ⟨rfl, rfl, fun x hx => (hset_n (by omega)).trans (hset_n (by omega)), fun _ => 0, ⟨hset_s, (hset_n (by omega)).trans hset_s⟩, fun j hj => by omega⟩
