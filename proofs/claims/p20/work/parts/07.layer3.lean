section Zrules3
variable {z : ZG} {Y : ZM} {R : Room} {Q : ZQ} {pc : Nat} {L : AL} {st : List Value} {h : AH} {sz kc nc : Nat}
/-- constructors: of a class that lets them be called, of a nest mate -/
theorem V_callI {Y' : ZM} {stk As : List Value} {a index n d mc ms mc' ms' : Nat} {Q' : ZQ} (hd : decode Y.2.1 pc = .ok (.invokespecial index, 3)) (hl : Cond.methodLink Y.1.cls index Y'.1 ∈ gw) (hg : ZYi Y' n) (hM : M z Y' d mc' ms' (.ref a :: As) h sz Q') (hst : stk = As.reverse ++ .ref a :: st) (hn : As.length = n) (hsum : (st.map fun v => v.category).sum ≤ 8) (hk : kc + mc' ≤ mc ∧ nc + ms' ≤ ms)
    (kk : ∀ (v : Option Value) (h' : AH) (sz' : Nat), Q' v h' sz' → V z Y (zroom (d + 1) mc ms) Q (pc + 3) L (v.toList ++ st) h' sz' (kc + mc') (nc + ms')) : V z Y (zroom (d + 1) mc ms) Q pc L stk h sz kc nc := by
  subst hst
  intro p e s m args below meth c d0 H locs ls C hd0 hL hr
  have hts := dr_words C.2.2.2.2.1 d0
  have hown : (s.setDrawn d0).vm.findClass Y.1.cls = some m.cls := C.2.2.2.1
  obtain ⟨y, bb, ml, rt⟩ := Y'
  obtain ⟨hg1, hg2, hg3, hg4⟩ := hg
  have hrt : rt = none := hg4
  subst hrt
  have w1 := hts _ hg1.1
  have w2 := hts _ hl
  have w4 := hts _ hg2
  have cb : CallB (zroom (d + 1) mc ms) (s.setDrawn d0) args Y.1.cls index y bb ml none (zws (y, bb, ml, none)) (zroom d mc' ms') mc' ms' n := callB_of n hts (zw_good hg1) rfl rfl rfl w1 w2 hg1.2.2.1 ⟨Nat.le_refl _, by show 8 + (ml + 11) + 31 * d ≤ 31 * (d + 1); have : ml ≤ 12 := hg1.2.2.2; omega⟩
  have hrun := va_runI_D (cs := lw_cs) (p := p) (l := z.1) (e := e) (R := zroom (d + 1) mc ms) (s := s.setDrawn d0) (H := H) (below := below) (meth := meth) (locs := locs) (cells := kc) (slots := nc) (b := z.2.1 + a) (As := As.map (shv z.2.1)) (rest := st.map (shv z.2.1)) (g := F0 m pc ls ((As.reverse ++ .ref a :: st).map (shv z.2.1))) ⟨C.1, C.2.1, C.2.2.1, hown, hts⟩ hM ⟨cb, hg3, w4⟩ ⟨zp_blind z (.ref a :: As) h sz, zp_pre (as := .ref a :: As) hr.1 hr.2.1 C.2.2.2.2.2.2.2.2 hr.2.2.2.2⟩ rfl (by rw [List.length_map]; exact hn) (by rw [← hL]; exact hr.2.2.1.1) (by show List.map (shv z.2.1) _ = _; rw [List.map_append, List.map_reverse]; rfl) (by show 2 * 0 + _ ≤ 8; rw [zw_sum]; omega) hd hk
  refine zw_call (z := z) (R := zroom (d + 1) mc ms) hd0 hrun hr.2.2.2.1 hr.2.2.2.2 fun v h' sz' d1 H1 locs1 b1 b2 b3 b4 b5 b6 => ?_
  have := kk v h' sz' b2 p e s m args below meth c d1 H1 locs1 ls C b1 hL ⟨b3, b4, hr.2.2.1, b5, b6⟩
  rw [List.map_append] at this
  cases v <;> exact this
theorem zNm_b {own host : String} {index : Nat} {y : MethodName} {s : State} {d : Drawn} (h : va_Nw (.methodLinkNest own index y host) s) : va_Nw (.methodLinkNest own index y host) (s.setDrawn d) := va_Nw.same rfl (show s.vm = (s.setDrawn d).vm from rfl) h
theorem V_callIN {Y' : ZM} {stk As : List Value} {host : String} {a index n d mc ms mc' ms' : Nat} {Q' : ZQ} (hd : decode Y.2.1 pc = .ok (.invokespecial index, 3)) (hl : (Y.1.cls, index, Y'.1, host) ∈ zNm) (hg : ZYi Y' n) (hM : M z Y' d mc' ms' (.ref a :: As) h sz Q') (hst : stk = As.reverse ++ .ref a :: st) (hn : As.length = n) (hsum : (st.map fun v => v.category).sum ≤ 8) (hk : kc + mc' ≤ mc ∧ nc + ms' ≤ ms)
    (kk : ∀ (v : Option Value) (h' : AH) (sz' : Nat), Q' v h' sz' → V z Y (zroom (d + 1) mc ms) Q (pc + 3) L (v.toList ++ st) h' sz' (kc + mc') (nc + ms')) : V z Y (zroom (d + 1) mc ms) Q pc L stk h sz kc nc := by
  subst hst
  intro p e s m args below meth c d0 H locs ls C hd0 hL hr
  have hts := dr_words C.2.2.2.2.1 d0
  have hown : (s.setDrawn d0).vm.findClass Y.1.cls = some m.cls := C.2.2.2.1
  obtain ⟨y, bb, ml, rt⟩ := Y'
  obtain ⟨hg1, hg2, hg3, hg4⟩ := hg
  have hrt : rt = none := hg4
  subst hrt
  have w1 := hts _ hg1.1
  have w2 := zNm_b (d := d0) (C.2.2.2.2.2.2.2.2.2.1.2 _ hl)
  have w4 := hts _ hg2
  have cb : va_CN (zroom (d + 1) mc ms) (s.setDrawn d0) args Y.1.cls index y host bb ml none (zws (y, bb, ml, none)) (zroom d mc' ms') mc' ms' n := va_cnB n hts (zw_good hg1) rfl rfl rfl w2 w1 hg1.2.2.1 ⟨Nat.le_refl _, by show 8 + (ml + 11) + 31 * d ≤ 31 * (d + 1); have : ml ≤ 12 := hg1.2.2.2; omega⟩
  have hrun := va_runIN_D (cs := lw_cs) (p := p) (l := z.1) (e := e) (R := zroom (d + 1) mc ms) (s := s.setDrawn d0) (H := H) (below := below) (meth := meth) (locs := locs) (cells := kc) (slots := nc) (b := z.2.1 + a) (As := As.map (shv z.2.1)) (rest := st.map (shv z.2.1)) (g := F0 m pc ls ((As.reverse ++ .ref a :: st).map (shv z.2.1))) ⟨C.1, C.2.1, C.2.2.1, hown, hts⟩ hM ⟨cb, hg3, w4⟩ ⟨zp_blind z (.ref a :: As) h sz, zp_pre (as := .ref a :: As) hr.1 hr.2.1 C.2.2.2.2.2.2.2.2 hr.2.2.2.2⟩ rfl (by rw [List.length_map]; exact hn) (by rw [← hL]; exact hr.2.2.1.1) (by show List.map (shv z.2.1) _ = _; rw [List.map_append, List.map_reverse]; rfl) (by show 2 * 0 + _ ≤ 8; rw [zw_sum]; omega) hd hk
  refine zw_call (z := z) (R := zroom (d + 1) mc ms) hd0 hrun hr.2.2.2.1 hr.2.2.2.2 fun v h' sz' d1 H1 locs1 b1 b2 b3 b4 b5 b6 => ?_
  have := kk v h' sz' b2 p e s m args below meth c d1 H1 locs1 ls C b1 hL ⟨b3, b4, hr.2.2.1, b5, b6⟩
  rw [List.map_append] at this
  cases v <;> exact this
theorem V_callSN {Y' : ZM} {stk As : List Value} {host : String} {index n d mc ms mc' ms' : Nat} {Q' : ZQ} (hd : decode Y.2.1 pc = .ok (.invokestatic index, 3)) (hl : (Y.1.cls, index, Y'.1, host) ∈ zNm) (hg : ZYs Y' n) (hM : M z Y' d mc' ms' As h sz Q') (hst : stk = As.reverse ++ st) (hn : As.length = n) (hsum : (st.map fun v => v.category).sum ≤ 8) (hk : kc + mc' ≤ mc ∧ nc + ms' ≤ ms)
    (kk : ∀ (v : Option Value) (h' : AH) (sz' : Nat), Q' v h' sz' → V z Y (zroom (d + 1) mc ms) Q (pc + 3) L (v.toList ++ st) h' sz' (kc + mc') (nc + ms')) : V z Y (zroom (d + 1) mc ms) Q pc L stk h sz kc nc := by
  subst hst
  intro p e s m args below meth c d0 H locs ls C hd0 hL hr
  have hts := dr_words C.2.2.2.2.1 d0
  have hown : (s.setDrawn d0).vm.findClass Y.1.cls = some m.cls := C.2.2.2.1
  have w1 := hts _ hg.1.1
  have w2 := zNm_b (d := d0) (C.2.2.2.2.2.2.2.2.2.1.2 _ hl)
  have w4 := hts _ hg.2
  have cb : va_CN (zroom (d + 1) mc ms) (s.setDrawn d0) args Y.1.cls index Y'.1 host Y'.2.1 Y'.2.2.1 Y'.2.2.2 (zws Y') (zroom d mc' ms') mc' ms' n := va_cnB n hts (zw_good hg.1) rfl rfl rfl w2 w1 hg.1.2.2.1 ⟨Nat.le_refl _, by show 8 + (Y'.2.2.1 + 11) + 31 * d ≤ 31 * (d + 1); have := hg.1.2.2.2; omega⟩
  have hrun := va_runSN_D (cs := lw_cs) (p := p) (l := z.1) (e := e) (R := zroom (d + 1) mc ms) (s := s.setDrawn d0) (H := H) (below := below) (meth := meth) (locs := locs) (cells := kc) (slots := nc) (As := As.map (shv z.2.1)) (rest := st.map (shv z.2.1)) (g := F0 m pc ls ((As.reverse ++ st).map (shv z.2.1))) ⟨C.1, C.2.1, C.2.2.1, hown, hts⟩ hM ⟨cb, w4, trivial⟩ ⟨zp_blind z As h sz, zp_pre (as := As) hr.1 hr.2.1 C.2.2.2.2.2.2.2.2 hr.2.2.2.2⟩ rfl (by rw [List.length_map]; exact hn) (by rw [← hL]; exact hr.2.2.1.1) (by show List.map (shv z.2.1) _ = _; rw [List.map_append, List.map_reverse]) (by show 2 * 0 + _ ≤ 8; rw [zw_sum]; omega) hd hk
  refine zw_call (z := z) (R := zroom (d + 1) mc ms) hd0 hrun hr.2.2.2.1 hr.2.2.2.2 fun v h' sz' d1 H1 locs1 b1 b2 b3 b4 b5 b6 => ?_
  have := kk v h' sz' b2 p e s m args below meth c d1 H1 locs1 ls C b1 hL ⟨b3, b4, hr.2.2.1, b5, b6⟩
  rw [List.map_append] at this
  cases v <;> exact this
end Zrules3
theorem M.mono {z : ZG} {Y : ZM} {d mc ms : Nat} {as : List Value} {h : AH} {sz : Nat} {Q Q2 : ZQ} (hQ : ∀ v h' sz', Q v h' sz' → Q2 v h' sz') (k : M z Y d mc ms as h sz Q) : M z Y d mc ms as h sz Q2 := by
  intro p e ha hc hk s m args below hf happ hP hK
  obtain ⟨n, o, h1, h2, h3, dd, h4, ⟨v, h5, sz5, g1, g2, g3⟩, h6⟩ := k p e ha hc hk s m args below hf happ hP hK
  exact ⟨n, o, h1, h2, h3, dd, h4, ⟨v, h5, sz5, g1, hQ _ _ _ g2, g3⟩, h6⟩
theorem V_mono {z : ZG} {Y : ZM} {R : Room} {Q Q2 : ZQ} {pc : Nat} {L : AL} {st : List Value} {h : AH} {sz kc nc : Nat} (hQ : ∀ v h' sz', Q v h' sz' → Q2 v h' sz') (k : V z Y R Q pc L st h sz kc nc) : V z Y R Q2 pc L st h sz kc nc := by
  intro p e s m args below meth c d0 H locs ls C hd0 hL hr T hT X
  obtain ⟨t, h1, dd, h2, o, h3, h4, ⟨v, h5, sz5, g1, g2, g3⟩, h6⟩ := k p e s m args below meth c d0 H locs ls C hd0 hL hr T hT X
  exact ⟨t, h1, dd, h2, o, h3, h4, ⟨v, h5, sz5, g1, hQ _ _ _ g2, g3⟩, h6⟩
/-- the same of a member of a class that the machine has entries for, where it has none for this one -/
theorem MetD_ofWF {cs : List Choice} {l : Launch} {y : MethodName} {ws ws' : List Cond} {rm : Room} {Pc : Array Value → State → Prop} {Qc : Array Value → State → Outcome → State → Prop} {mc ms : Nat} {free : Addr → Prop} {cc : ByteArray} {maxL : Nat} {ret : Option FieldType}
    (hy : plainFor y = true) (hw : ws = Cond.code y cc maxL ret :: ws')
    (body : ∀ p e s m args below meth c s₁, BodyLoose p l y (headSpec ws rm) cc maxL ret e s m args below meth c s₁ → c.maxLocals = maxL → Pc args s → s.drawn.sameBut s.drawn cs →
      W p l e (headSpec ws rm).room (s.setDrawn s.drawn) m args below meth c s.heap [] 0 0 (MQD cs below Qc args s mc ms free) (entryFrame m args maxL)) : MetD cs l y ws rm Pc Qc mc ms free := by
  refine MetFree.of_bodySF (code := cc) (maxLocals := maxL) (ret := ret) hy ?_ ?_
  · intro args s m h hn
    obtain ⟨meth, c, h1, h2, h3, h4, h5, h6, -, -⟩ := Cond.code_spec hn (atoms_spec (ws := ws) h _ (by rw [hw]; exact List.mem_cons_self))
    exact ⟨meth, c, h1, h2, h3, h4, h5, h6⟩
  · intro p e s m args below meth c s₁ B hml hP _
    have hh0 : s₁.heap = s.heap := by rw [B.state]; rfl
    have X0 : Stand p l e (headSpec ws rm).room (s.setDrawn s.drawn) m args below meth c s₁ [] 0 0 := Stand.of_body B
    obtain ⟨t, a1, d, hd, o, b1, b2, b3, b4⟩ := body p e s m args below meth c s₁ B hml hP (Drawn.sameBut.refl _ _) s₁ hh0 X0
    exact ⟨t, o, a1, b1, b2, d, hd, b3, b4⟩
theorem M.ofF {z : ZG} {Y : ZM} {d mc ms : Nat} {as : List Value} {h : AH} {sz : Nat} {Q : ZQ} (hy : plainFor Y.1 = true) (hn : (zargs as).length ≤ Y.2.2.1) (k : V z Y (zroom d mc ms) Q 0 (zent as Y.2.2.1) [] h sz 0 0) : M z Y d mc ms as h sz Q := by
  refine MetD_ofWF (cc := Y.2.1) (maxL := Y.2.2.1) (ret := Y.2.2.2) hy rfl ?_
  intro p e s m args below meth c s₁ B hml hv hd0
  obtain ⟨rfl, hP, hsz, hK⟩ := hv
  have hts := atoms_spec (ws := zws Y) B.pre
  rw [lg_entry_eq]
  have hlen : (lg_sl (as.map (shv z.2.1))).length ≤ Y.2.2.1 := by rw [← zargs_len]; exact hn
  have hl := lv_entry (as.map (shv z.2.1)) hlen
  refine k p e s m _ below meth c s.drawn s.heap [] _ ⟨B.exec, B.bytes, hml, findClass_of_methodNamed B.named, fun w hw => hts w (List.mem_cons_of_mem _ hw), B.returns, B.notSynchronized, (name_of_methodNamed B.named B.method).1, hK⟩ hd0 (zent_len hn) ⟨hP, hsz, ?_, fun q hq => absurd hq List.not_mem_nil, fun _ _ => rfl⟩
  rw [zent_len hn, zent, zls_ent]
  exact hl
