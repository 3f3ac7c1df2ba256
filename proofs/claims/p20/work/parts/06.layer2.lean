section Zrules2
variable {z : ZG} {Y : ZM} {R : Room} {Q : ZQ} {pc : Nat} {L : AL} {st : List Value} {h : AH} {sz kc nc : Nat}
theorem V_put {a index ci k : Nat} {ty : FieldType} {fs : List Value} {v : Value} (hd : decode Y.2.1 pc = .ok (.putfield index, 3)) (hw : ZF Y.1.cls index ci k) (ht : ZT ci k ty false) (he : h a = some (.inl (ci, fs))) (hl : k < fs.length) (hn : narrow ty v = v) (hf : fits ty v = true) (kk : V z Y R Q (pc + 3) L st (hset h a (.inl (ci, fs.set k v))) sz kc nc) : V z Y R Q pc L (v :: .ref a :: st) h sz kc nc := by
  intro p e s m args below meth c d0 H locs ls C hd0 hL hr
  obtain ⟨C', T, N, h1, h2, h3, h4⟩ := hw
  obtain ⟨C'', T', N', ty0, g1, g2, g3, g4, g5⟩ := ht
  obtain ⟨rfl, rfl, rfl⟩ : C' = C'' ∧ T = T' ∧ N = N' := by
    have e0 := Option.some.inj (h1.symm.trans g1)
    exact ⟨congrArg (fun q => q.1) e0, congrArg (fun q => q.2.1) e0, congrArg (fun q => q.2.2) e0⟩
  have hts := dr_words C.2.2.2.2.1 d0
  have hK : va_K z.2.2.1 vwCl (zty z) (s.setDrawn d0) := C.2.2.2.2.2.2.2.2.1
  have hap := va_apart (own := Y.1.cls) hts h3 ty0 g2 g3 hK h1
  obtain ⟨r, b1, cell, q1, q2, q3, q4⟩ := hr.1 a _ he
  have hr' : r = (C', T, N) := Option.some.inj (b1.symm.trans h1)
  subst hr'
  obtain ⟨hS, hfc, kC, hkC, hkind⟩ := hK.1 ci _ h1
  obtain ⟨cf, kf, fi, f, hi, hsl⟩ := hS k h2
  have hlay := hts _ (h3 _ (u_in_lay h2))
  unfold u_lay at hlay
  rw [if_neg (by rw [g5]; decide)] at hlay
  have hst := (u_facts hfc hkC (u_lays hts h3 h2) hi).1
  have h6 := u_store hfc hkC hkind hlay hi g4 (shv_nar (b := z.2.1) hn) (shv_fit (b := z.2.1) hf)
  have hown : (s.setDrawn d0).vm.findClass Y.1.cls = some m.cls := C.2.2.2.1
  have w1 := hts _ h4
  refine W.putK (v := shv z.2.1 v) C.1 C.2.1 (f := f) (own := Y.1.cls) (ref := (T k).1) ⟨hown, w1, ⟨_, _, _, hi⟩, hst⟩ (by rw [q2]; exact h6) q1 q3 (by rw [hsl]; exact k2_hasslot (q4 k h2)) rfl rfl hd fun H' e1 e2 e3 => ?_
  exact kk p e s m args below meth c d0 H' _ ls C hd0 hL (hr.put (hr.1.put h1 h2 hap hsl.symm q2 q3 q4 hl e1 e3) e2 e3)
theorem V_putN {a index ci k : Nat} {ty : FieldType} {fs : List Value} {v : Value} (hd : decode Y.2.1 pc = .ok (.putfield index, 3)) (hw : ZFN Y.1.cls index ci k) (ht : ZT ci k ty false) (he : h a = some (.inl (ci, fs))) (hl : k < fs.length) (hn : narrow ty v = v) (hf : fits ty v = true) (kk : V z Y R Q (pc + 3) L st (hset h a (.inl (ci, fs.set k v))) sz kc nc) : V z Y R Q pc L (v :: .ref a :: st) h sz kc nc := by
  intro p e s m args below meth c d0 H locs ls C hd0 hL hr
  obtain ⟨C', T, N, host, h1, h2, h3, h4⟩ := hw
  obtain ⟨C'', T', N', ty0, g1, g2, g3, g4, g5⟩ := ht
  obtain ⟨rfl, rfl, rfl⟩ : C' = C'' ∧ T = T' ∧ N = N' := by
    have e0 := Option.some.inj (h1.symm.trans g1)
    exact ⟨congrArg (fun q => q.1) e0, congrArg (fun q => q.2.1) e0, congrArg (fun q => q.2.2) e0⟩
  have hts := dr_words C.2.2.2.2.1 d0
  have hK : va_K z.2.2.1 vwCl (zty z) (s.setDrawn d0) := C.2.2.2.2.2.2.2.2.1
  have hap := va_apart (own := Y.1.cls) hts h3 ty0 g2 g3 hK h1
  obtain ⟨r, b1, cell, q1, q2, q3, q4⟩ := hr.1 a _ he
  have hr' : r = (C', T, N) := Option.some.inj (b1.symm.trans h1)
  subst hr'
  obtain ⟨hS, hfc, kC, hkC, hkind⟩ := hK.1 ci _ h1
  obtain ⟨cf, kf, fi, f, hi, hsl⟩ := hS k h2
  have hlay := hts _ (h3 _ (u_in_lay h2))
  unfold u_lay at hlay
  rw [if_neg (by rw [g5]; decide)] at hlay
  have hst := (u_facts hfc hkC (u_lays hts h3 h2) hi).1
  have h6 := u_store hfc hkC hkind hlay hi g4 (shv_nar (b := z.2.1) hn) (shv_fit (b := z.2.1) hf)
  have hown : (s.setDrawn d0).vm.findClass Y.1.cls = some m.cls := C.2.2.2.1
  have w1 := zNw_b (d := d0) (args := args) (C.2.2.2.2.2.2.2.2.2.1.1 _ h4)
  refine va_WputK (v := shv z.2.1 v) C.1 C.2.1 (f := f) (own := Y.1.cls) (ref := (T k).1) hown w1 hi hst (by rw [q2]; exact h6) q1 q3 (by rw [hsl]; exact k2_hasslot (q4 k h2)) rfl rfl hd fun H' e1 e2 e3 => ?_
  exact kk p e s m args below meth c d0 H' _ ls C hd0 hL (hr.put (hr.1.put h1 h2 hap hsl.symm q2 q3 q4 hl e1 e3) e2 e3)
theorem V_putF {a index ci k : Nat} {ty : FieldType} {fs : List Value} {v : Value} (hd : decode Y.2.1 pc = .ok (.putfield index, 3)) (hw : ZF Y.1.cls index ci k) (ht : ZT ci k ty true) (hi0 : Y.1.name = "<init>") (hdc : ∀ C T N, vwCl[ci]? = some (C, T, N) → (T k).1 = Y.1.cls) (he : h a = some (.inl (ci, fs))) (hl : k < fs.length) (hn : narrow ty v = v) (hf : fits ty v = true) (kk : V z Y R Q (pc + 3) L st (hset h a (.inl (ci, fs.set k v))) sz kc nc) : V z Y R Q pc L (v :: .ref a :: st) h sz kc nc := by
  intro p e s m args below meth c d0 H locs ls C hd0 hL hr
  obtain ⟨C', T, N, h1, h2, h3, h4⟩ := hw
  obtain ⟨C'', T', N', ty0, g1, g2, g3, g4, g5⟩ := ht
  obtain ⟨rfl, rfl, rfl⟩ : C' = C'' ∧ T = T' ∧ N = N' := by
    have e0 := Option.some.inj (h1.symm.trans g1)
    exact ⟨congrArg (fun q => q.1) e0, congrArg (fun q => q.2.1) e0, congrArg (fun q => q.2.2) e0⟩
  have hts := dr_words C.2.2.2.2.1 d0
  have hK : va_K z.2.2.1 vwCl (zty z) (s.setDrawn d0) := C.2.2.2.2.2.2.2.2.1
  have hap := va_apart (own := Y.1.cls) hts h3 ty0 g2 g3 hK h1
  obtain ⟨r, b1, cell, q1, q2, q3, q4⟩ := hr.1 a _ he
  have hr' : r = (C', T, N) := Option.some.inj (b1.symm.trans h1)
  subst hr'
  obtain ⟨hS, hfc, kC, hkC, hkind⟩ := hK.1 ci _ h1
  obtain ⟨cf, kf, fi, f, hi, hsl⟩ := hS k h2
  have hlay := hts _ (h3 _ (u_in_lay h2))
  unfold u_lay at hlay
  rw [if_pos g5] at hlay
  have hst := (u_facts hfc hkC (u_lays hts h3 h2) hi).1
  have hown : (s.setDrawn d0).vm.findClass Y.1.cls = some m.cls := C.2.2.2.1
  have hcf : m.cls = cf := by
    obtain ⟨_, _, c', _, _, _, -, -, hf', -, -, -, hown2, -⟩ := Cond.laysFinal_spec hlay
    have e1 : c' = cf := by have := hi.symm.trans hf'; simp at this; exact this.1.symm
    rw [hdc _ _ _ h1] at hown2
    rw [← e1]; exact Option.some.inj (hown.symm.trans hown2)
  have h6 := u_fits hfc hkC hkind (Or.inr hlay) hi g4 (shv_nar (b := z.2.1) hn) (shv_fit (b := z.2.1) hf)
  have w1 := hts _ h4
  refine W.putFinK (v := shv z.2.1 v) C.1 C.2.1 (f := f) (own := Y.1.cls) (ref := (T k).1) hown w1 hi hst hcf (C.2.2.2.2.2.2.2.1.trans hi0) (by rw [q2]; exact h6) q1 q3 (by rw [hsl]; exact k2_hasslot (q4 k h2)) rfl rfl hd fun H' e1 e2 e3 => ?_
  exact kk p e s m args below meth c d0 H' _ ls C hd0 hL (hr.put (hr.1.put h1 h2 hap hsl.symm q2 q3 q4 hl e1 e3) e2 e3)
theorem V_new {index ci N : Nat} {fs : List Value} (hd : decode Y.2.1 pc = .ok (.new index, 3)) (hw : ZN Y.1.cls index ci N fs) (hfs : fs.map (shv z.2.1) = fs) (hk : kc + 1 ≤ R.cells ∧ nc + N ≤ R.slots) (kk : V z Y R Q (pc + 3) L (.ref sz :: st) (hset h sz (.inl (ci, fs))) (sz + 1) (kc + 1) (nc + N)) : V z Y R Q pc L st h sz kc nc := by
  intro p e s m args below meth c d0 H locs ls C hd0 hL hr
  obtain ⟨C', T, ty, h1, h2, h3, h4, h5, h6, h7⟩ := hw
  have hts := dr_words C.2.2.2.2.1 d0
  have hK : va_K z.2.2.1 vwCl (zty z) (s.setDrawn d0) := C.2.2.2.2.2.2.2.2.1
  have hKn := hK.1 ci _ h1
  have hown : (s.setDrawn d0).vm.findClass Y.1.cls = some m.cls := C.2.2.2.1
  have w1 := hts _ h4
  have w2 := hts _ h5
  have w3 := hts _ h6
  refine W.newcK (h := z.2.1 + sz) C.1 C.2.1 hown w1 w2 w3 rfl hd hk.1 hk.2 hKn.2.1 hr.2.1 fun H1 kC hkC e1 e2 o1 => ?_
  refine kk p e s m args below meth c d0 H1 locs ls C hd0 hL (hr.push (hr.1.push hr.2.1 ⟨_, h1, (u_born ty hts h2 hKn hkC e1 h3).to ?_⟩ o1) e2 o1)
  intro j hj
  show _ = vp_V (fs.map (shv z.2.1)) j
  rw [hfs]
  exact h7 j hj
theorem V_newq {n : Int32} {N index : Nat} (hd : decode Y.2.1 pc = .ok (.anewarray index, 3)) (hw : Cond.classLink Y.1.cls index "MoireEncoder$State" ∈ gw) (hn : ¬ n < 0) (hN : n.toNatClampNeg = N) (hb : N * 4 ≤ 536870912) (hk : kc + 1 ≤ R.cells ∧ nc + N ≤ R.slots) (kk : V z Y R Q (pc + 3) L (.ref sz :: st) (hset h sz (.inr (N, .inr (.inr (.inr (.inr (fun _ => none))))))) (sz + 1) (kc + 1) (nc + N)) : V z Y R Q pc L (.int n :: st) h sz kc nc := by
  intro p e s m args below meth c d0 H locs ls C hd0 hL hr
  have hts := dr_words C.2.2.2.2.1 d0
  have hK : va_K z.2.2.1 vwCl (zty z) (s.setDrawn d0) := C.2.2.2.2.2.2.2.2.1
  have hAO : va_AO "MoireEncoder$State" (s.setDrawn d0) := C.2.2.2.2.2.2.2.2.2.2.1
  subst hN
  have hown : (s.setDrawn d0).vm.findClass Y.1.cls = some m.cls := C.2.2.2.1
  have w1 := hts _ hw
  have w2 := va_AO.use (A := args) hAO
  refine W.anew C.1 C.2.1 hown w1 w2 rfl hd rfl hn hb hk.1 hk.2 fun cA kA comp f1 f2 f3 f4 => ?_
  obtain ⟨kA', comp', k1, k2, k3, k4⟩ := (hK.2 2 (z.2.2.2.2.2.1, .object "MoireEncoder$State") rfl).2
  have hcA : cA = z.2.2.2.2.2.1 := Option.some.inj (f1.symm.trans k4)
  subst hcA
  generalize hH1 : H.push ({ cls := z.2.2.2.2.2.1, slots := Array.replicate n.toNatClampNeg .null, vm := .none } : Cell) = H1
  have z1 : H1.size = H.size + 1 := by rw [← hH1, Array.size_push]
  have e1 : H1[H.size]? = some (arrV z.2.2.2.2.2.1 n.toNatClampNeg (fun _ => .null)) := by rw [← hH1, Array.getElem?_push_size, ← arrV_new]
  have o1 : ∀ q : Nat, q < H.size → H1[q]? = H[q]? := fun q hq => by rw [← hH1, Array.getElem?_push, if_neg (Nat.ne_of_lt hq)]
  have hs := hr.2.1
  rw [hs] at z1 e1 o1 ⊢
  exact kk p e s m args below meth c d0 H1 locs ls C hd0 hL (hr.push (hr.1.push hs e1 o1) z1 o1)
/-- Object.<init> -/
theorem V_obj {a idx d mc ms : Nat} (hd : decode Y.2.1 pc = .ok (.invokespecial idx, 3)) (hw : Cond.methodLink Y.1.cls idx objectInit ∈ gw) (hst : (st.map fun v => v.category).sum ≤ 8) (kk : V z Y (zroom (d + 1) mc ms) Q (pc + 3) L st h sz kc nc) : V z Y (zroom (d + 1) mc ms) Q pc L (.ref a :: st) h sz kc nc := by
  intro p e s m args below meth c d0 H locs ls C hd0 hL hr
  have hts := dr_words C.2.2.2.2.1 d0
  have hsum : ((st.map (shv z.2.1)).map fun v => v.category).sum = (st.map fun v => v.category).sum := by
    rw [List.map_map]; congr 1; exact List.map_congr_left fun v _ => shv_cat z.2.1 v
  have hown : (s.setDrawn d0).vm.findClass Y.1.cls = some m.cls := C.2.2.2.1
  have w1 := hts _ hw
  have w2 := hts _ gw_oi
  have w3 := hts _ gw_oc
  exact W.objInit C.1 C.2.1 hown w1 w2 w3 rfl (by rw [C.2.2.1, ← hL]; exact hr.2.2.1.1) rfl hd (by show 1 ≤ d + 1; omega) (by
    show 2 * 0 + ((st.map (shv z.2.1)).map fun v => v.category).sum + 12 ≤ 31 * (d + 1)
    rw [hsum]; omega) (kk p e s m args below meth c d0 H locs ls C hd0 hL hr)
/-- a call, run: what comes back -/
theorem zw_call {p : Program} {e : Env} {s : State} {m : MethodId} {args : Array Value} {below : List Frame} {meth : Method} {c : Code} {d0 : Drawn} {H : Heap} {locs : List Loc} {ls : Array Slot} {QQ : State → Prop} {mc ms : Nat} {st0 rest : List Value} {Q' : ZQ} {a : Array Value} (hd0 : s.drawn.sameBut d0 lw_cs)
    (hrun : va_RunD lw_cs p z.1 e R (s.setDrawn d0) m args below meth c H locs kc nc mc ms (F0 m pc ls st0) rest (zq z Q' a) (fun q => z.2.1 ≤ q)) (hlocs : ∀ q ∈ locs, z.2.1 ≤ q.base) (hfr : ∀ q : Nat, q < z.2.1 → H[q]? = s.heap[q]?)
    (kk : ∀ (v : Option Value) (h' : AH) (sz' : Nat) (d1 : Drawn) (H1 : Heap) (locs1 : List Loc), s.drawn.sameBut d1 lw_cs → Q' v h' sz' → hp z h' H1 → H1.size = z.2.1 + sz' → (∀ q ∈ locs1, z.2.1 ≤ q.base) → (∀ q : Nat, q < z.2.1 → H1[q]? = s.heap[q]?) →
      W p z.1 e R (s.setDrawn d1) m args below meth c H1 locs1 (kc + mc) (nc + ms) QQ (F0 m (pc + 3) ls ((v.map (shv z.2.1)).toList ++ rest))) :
    W p z.1 e R (s.setDrawn d0) m args below meth c H locs kc nc QQ (F0 m pc ls st0) := by
  intro T hT X
  obtain ⟨v, st₀, t, T', Lc, d', hd', h0, X', hLc, e1, e2, ⟨w, h', sz', hv, hq, hh, hs, hf⟩, stp⟩ := hrun T hT X
  have hv' : v = w.map (shv z.2.1) := by cases hv; rfl
  subst hv'
  rw [h0] at hf
  obtain ⟨t2, a1, b1⟩ := kk w h' sz' d' T'.heap (locs ++ Lc) (hd0.trans hd') hq (by rw [e1]; exact hh) (by rw [e1]; exact hs) (fun q hq => by
      rcases List.mem_append.mp hq with g | g
      · exact hlocs q g
      · exact hLc q g) (fun q hq => by rw [e1, hf q hq]; exact hfr q hq) T' rfl X'
  exact ⟨t2, stp t2 a1, b1⟩
theorem zp_blind (z : ZG) (as : List Value) (h : AH) (sz : Nat) : FrameBlind (va_Pc (as.map (shv z.2.1)) (fun U => hp z h U.heap ∧ U.heap.size = z.2.1 + sz ∧ ZK z U)) := fun a U g mk q => ⟨q.1, q.2.1, q.2.2.1, ZK.same (u := U) (U := U.calling g mk a) rfl rfl q.2.2.2⟩
theorem zp_pre {z : ZG} {as : List Value} {h : AH} {sz : Nat} {s : State} {d0 : Drawn} {H : Heap} (hh : hp z h H) (hs : H.size = z.2.1 + sz) (hK : ZK z s) (hq : ∀ q : Nat, q < z.2.1 → H[q]? = s.heap[q]?) : ∀ U : State, U.heap = H → (s.setDrawn d0).WarmedH U.vm → va_Pc (as.map (shv z.2.1)) (fun U => hp z h U.heap ∧ U.heap.size = z.2.1 + sz ∧ ZK z U) (as.map (shv z.2.1)).toArray U := fun U hU hW => ⟨rfl, by rw [hU]; exact hh, by rw [hU]; exact hs, ZK.moved (u := s.setDrawn d0) hW (fun q h => by rw [hU]; exact hq q h) (ZK.same (u := s) rfl rfl hK)⟩
theorem zw_good {Y' : ZM} {n : Nat} (h : ZY Y' n) : GoodIn gw (zws Y') := fun w hw => by
  rcases List.mem_cons.mp hw with rfl | hw
  · exact ⟨h.2.1, (gw_in h.2.1).2⟩
  · exact ⟨hw, (gw_in hw).2⟩
theorem zw_sum (b : Nat) (st : List Value) : ((st.map (shv b)).map fun v => v.category).sum = (st.map fun v => v.category).sum := by
  rw [List.map_map]; congr 1; exact List.map_congr_left fun v _ => shv_cat b v
/-- calls of the own class, and of others' members that are open: by an object -/
theorem V_callV {Y' : ZM} {stk As : List Value} {a index ci n d mc ms mc' ms' : Nat} {fs : List Value} {Q' : ZQ} (hd : decode Y.2.1 pc = .ok (.invokevirtual index, 3)) (hl : Cond.methodLink Y.1.cls index Y'.1 ∈ gw) (hg : ZYv Y' n) (hM : M z Y' d mc' ms' (.ref a :: As) h sz Q') (he : h a = some (.inl (ci, fs))) (hci : (vwCl[ci]?).map (fun q => q.1) = some Y'.1.cls) (hst : stk = As.reverse ++ .ref a :: st) (hn : As.length = n) (hsum : (st.map fun v => v.category).sum ≤ 8) (hk : kc + mc' ≤ mc ∧ nc + ms' ≤ ms)
    (kk : ∀ (v : Option Value) (h' : AH) (sz' : Nat), Q' v h' sz' → V z Y (zroom (d + 1) mc ms) Q (pc + 3) L (v.toList ++ st) h' sz' (kc + mc') (nc + ms')) : V z Y (zroom (d + 1) mc ms) Q pc L stk h sz kc nc := by
  subst hst
  intro p e s m args below meth c d0 H locs ls C hd0 hL hr
  have hts := dr_words C.2.2.2.2.1 d0
  have hK : va_K z.2.2.1 vwCl (zty z) (s.setDrawn d0) := C.2.2.2.2.2.2.2.2.1
  obtain ⟨q, hq, hqe⟩ : ∃ q, vwCl[ci]? = some q ∧ q.1 = Y'.1.cls := by
    cases hc : vwCl[ci]? with
    | none => rw [hc] at hci; cases hci
    | some q => rw [hc] at hci; exact ⟨q, rfl, Option.some.inj hci⟩
  obtain ⟨q', g0, cell, g1, g2, g3, -⟩ := hr.1 a _ he
  have hrecv : ∃ cellB : Cell, H[z.2.1 + a]? = some cellB ∧ cellB.vm.isStatics = false ∧ (s.setDrawn d0).vm.findClass Y'.1.cls = some cellB.cls := ⟨cell, g1, by rw [g3]; rfl, by rw [g2, ← hqe]; exact (hK.1 ci q hq).2.1⟩
  have w1 := hts _ hg.1.1
  have w2 := hts _ hl
  have w4 := hts _ hg.2.1
  have w5 := hts _ hg.2.2
  have cb : CallB (zroom (d + 1) mc ms) (s.setDrawn d0) args Y.1.cls index Y'.1 Y'.2.1 Y'.2.2.1 Y'.2.2.2 (zws Y') (zroom d mc' ms') mc' ms' n := callB_of n hts (zw_good hg.1) rfl rfl rfl w1 w2 hg.1.2.2.1 ⟨Nat.le_refl _, by show 8 + (Y'.2.2.1 + 11) + 31 * d ≤ 31 * (d + 1); have := hg.1.2.2.2; omega⟩
  have hown : (s.setDrawn d0).vm.findClass Y.1.cls = some m.cls := C.2.2.2.1
  have hrun := va_runV_D (cs := lw_cs) (p := p) (l := z.1) (e := e) (R := zroom (d + 1) mc ms) (s := s.setDrawn d0) (H := H) (below := below) (meth := meth) (locs := locs) (cells := kc) (slots := nc) (C := Y'.1.cls) (b := z.2.1 + a) (As := As.map (shv z.2.1)) (rest := st.map (shv z.2.1)) (g := F0 m pc ls ((As.reverse ++ .ref a :: st).map (shv z.2.1))) ⟨C.1, C.2.1, C.2.2.1, hown, hts⟩ hM ⟨cb, w4, w5⟩ ⟨zp_blind z (.ref a :: As) h sz, hrecv, zp_pre (as := .ref a :: As) hr.1 hr.2.1 C.2.2.2.2.2.2.2.2 hr.2.2.2.2⟩ rfl (by rw [List.length_map]; exact hn) (by rw [← hL]; exact hr.2.2.1.1) (by show List.map (shv z.2.1) _ = _; rw [List.map_append, List.map_reverse]; rfl) (by show 2 * 0 + _ ≤ 8; rw [zw_sum]; omega) hd hk
  refine zw_call (z := z) (R := zroom (d + 1) mc ms) hd0 hrun hr.2.2.2.1 hr.2.2.2.2 fun v h' sz' d1 H1 locs1 b1 b2 b3 b4 b5 b6 => ?_
  have := kk v h' sz' b2 p e s m args below meth c d1 H1 locs1 ls C b1 hL ⟨b3, b4, hr.2.2.1, b5, b6⟩
  rw [List.map_append] at this
  cases v <;> exact this
/-- static calls -/
theorem V_callS {Y' : ZM} {stk As : List Value} {index n d mc ms mc' ms' : Nat} {Q' : ZQ} (hd : decode Y.2.1 pc = .ok (.invokestatic index, 3)) (hl : Cond.methodLink Y.1.cls index Y'.1 ∈ gw) (hg : ZYs Y' n) (hM : M z Y' d mc' ms' As h sz Q') (hst : stk = As.reverse ++ st) (hn : As.length = n) (hsum : (st.map fun v => v.category).sum ≤ 8) (hk : kc + mc' ≤ mc ∧ nc + ms' ≤ ms)
    (kk : ∀ (v : Option Value) (h' : AH) (sz' : Nat), Q' v h' sz' → V z Y (zroom (d + 1) mc ms) Q (pc + 3) L (v.toList ++ st) h' sz' (kc + mc') (nc + ms')) : V z Y (zroom (d + 1) mc ms) Q pc L stk h sz kc nc := by
  subst hst
  intro p e s m args below meth c d0 H locs ls C hd0 hL hr
  have hts := dr_words C.2.2.2.2.1 d0
  have w1 := hts _ hg.1.1
  have w2 := hts _ hl
  have w4 := hts _ hg.2
  have cb : CallB (zroom (d + 1) mc ms) (s.setDrawn d0) args Y.1.cls index Y'.1 Y'.2.1 Y'.2.2.1 Y'.2.2.2 (zws Y') (zroom d mc' ms') mc' ms' n := callB_of n hts (zw_good hg.1) rfl rfl rfl w1 w2 hg.1.2.2.1 ⟨Nat.le_refl _, by show 8 + (Y'.2.2.1 + 11) + 31 * d ≤ 31 * (d + 1); have := hg.1.2.2.2; omega⟩
  have hown : (s.setDrawn d0).vm.findClass Y.1.cls = some m.cls := C.2.2.2.1
  have hrun := va_runS_D (cs := lw_cs) (p := p) (l := z.1) (e := e) (R := zroom (d + 1) mc ms) (s := s.setDrawn d0) (H := H) (below := below) (meth := meth) (locs := locs) (cells := kc) (slots := nc) (As := As.map (shv z.2.1)) (rest := st.map (shv z.2.1)) (g := F0 m pc ls ((As.reverse ++ st).map (shv z.2.1))) ⟨C.1, C.2.1, C.2.2.1, hown, hts⟩ hM ⟨cb, w4⟩ ⟨zp_blind z As h sz, zp_pre (as := As) hr.1 hr.2.1 C.2.2.2.2.2.2.2.2 hr.2.2.2.2⟩ rfl (by rw [List.length_map]; exact hn) (by rw [← hL]; exact hr.2.2.1.1) (by show List.map (shv z.2.1) _ = _; rw [List.map_append, List.map_reverse]) (by show 2 * 0 + _ ≤ 8; rw [zw_sum]; omega) hd hk
  refine zw_call (z := z) (R := zroom (d + 1) mc ms) hd0 hrun hr.2.2.2.1 hr.2.2.2.2 fun v h' sz' d1 H1 locs1 b1 b2 b3 b4 b5 b6 => ?_
  have := kk v h' sz' b2 p e s m args below meth c d1 H1 locs1 ls C b1 hL ⟨b3, b4, hr.2.2.1, b5, b6⟩
  rw [List.map_append] at this
  cases v <;> exact this
end Zrules2
