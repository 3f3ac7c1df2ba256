/-! THE CLASS: samples and moves, in the reference's words -/
theorem va_up_id {S : Nat → Int} {k : Nat} : va_up S k (S k) = S := by
  funext j
  unfold va_up
  split
  · rename_i e; rw [e]
  · rfl
theorem va_up_cm {S : Nat → Int} {k l : Nat} {x y : Int} (h : k ≠ l) : va_up (va_up S k x) l y = va_up (va_up S l y) k x := by
  funext j
  unfold va_up
  by_cases q : j = l
  · rw [if_pos q, if_neg (by omega), if_pos q]
  · rw [if_neg q]
    by_cases w : j = k
    · rw [if_pos w, if_pos w]
    · rw [if_neg w, if_neg w, if_neg q]
theorem va_up_tw {S : Nat → Int} {k : Nat} {x y : Int} : va_up (va_up S k x) k y = va_up S k y := by
  funext j
  unfold va_up
  split <;> rfl
theorem lgE17 {N : Nat → Int} {kind x : Int} (h : 0 ≤ N 17 ∧ N 17 ≤ 8) : lgE N kind x 17 = lgn (N 17) := by
  unfold lgE lgn
  by_cases e : N 17 = 8
  · rw [if_pos e, if_neg (by omega)]
    show ((7 : Nat) : Int) + 1 = N 17
    omega
  · rw [if_neg e, if_pos (by omega)]
    show (((N 17).toNat : Nat) : Int) + 1 = N 17 + 1
    omega
theorem lgE_K {N : Nat → Int} {kind x : Int} (h : 0 ≤ N 17 ∧ N 17 ≤ 8) : ∀ j : Nat, (j : Int) < lgn (N 17) → rpf (lK N) kind j = lK (lgE N kind x) j := by
  intro j hj
  unfold rpf lK
  rw [lgE17 h]
  by_cases e : N 17 = 8
  · have en : lgn (N 17) = 8 := by unfold lgn; rw [if_neg (by omega)]; exact e
    rw [en] at hj
    rw [en, show lgE N kind x = lgA (lgT N) 7 kind x by unfold lgE; rw [if_pos e], show (8 : Int).toNat = 8 from rfl]
    by_cases q : j = 0
    · rw [if_pos q]
      unfold lgA va_up
      rw [if_neg (by omega), if_neg (by omega), if_neg (by omega), if_pos (by omega)]
    · rw [if_neg q]
      unfold lgA va_up
      rw [if_neg (by omega), if_neg (by omega), if_neg (by omega), if_neg (by omega)]
      unfold lgT va_up
      rw [if_neg (by omega)]
      dsimp only
      rw [if_pos (by omega)]
      congr 1
      omega
  · have en : lgn (N 17) = N 17 + 1 := by unfold lgn; rw [if_pos (by omega)]
    rw [en] at hj
    rw [en, show lgE N kind x = lgA N (N 17).toNat kind x by unfold lgE; rw [if_neg e]]
    by_cases q : j = 0
    · rw [if_pos q]
      unfold lgA va_up
      rw [if_neg (by omega), if_neg (by omega), if_neg (by omega), if_pos (by omega)]
    · rw [if_neg q]
      unfold lgA va_up
      rw [if_neg (by omega), if_neg (by omega), if_neg (by omega), if_neg (by omega)]
      congr 1
      omega
theorem lgE_P {N : Nat → Int} {kind x : Int} (h : 0 ≤ N 17 ∧ N 17 ≤ 8) : ∀ j : Nat, (j : Int) < lgn (N 17) → rpf (lP N) x j = lP (lgE N kind x) j := by
  intro j hj
  unfold rpf lP
  rw [lgE17 h]
  by_cases e : N 17 = 8
  · have en : lgn (N 17) = 8 := by unfold lgn; rw [if_neg (by omega)]; exact e
    rw [en] at hj
    rw [en, show lgE N kind x = lgA (lgT N) 7 kind x by unfold lgE; rw [if_pos e], show (8 : Int).toNat = 8 from rfl]
    by_cases q : j = 0
    · rw [if_pos q]
      unfold lgA va_up
      rw [if_neg (by omega), if_neg (by omega), if_pos (by omega)]
    · rw [if_neg q]
      unfold lgA va_up
      rw [if_neg (by omega), if_neg (by omega), if_neg (by omega), if_neg (by omega)]
      unfold lgT va_up
      rw [if_neg (by omega)]
      dsimp only
      rw [if_pos (by omega)]
      congr 1
      omega
  · have en : lgn (N 17) = N 17 + 1 := by unfold lgn; rw [if_pos (by omega)]
    rw [en] at hj
    rw [en, show lgE N kind x = lgA N (N 17).toNat kind x by unfold lgE; rw [if_neg e]]
    by_cases q : j = 0
    · rw [if_pos q]
      unfold lgA va_up
      rw [if_neg (by omega), if_neg (by omega), if_pos (by omega)]
    · rw [if_neg q]
      unfold lgA va_up
      rw [if_neg (by omega), if_neg (by omega), if_neg (by omega), if_neg (by omega)]
      congr 1
      omega
theorem lgE_C {N : Nat → Int} {kind x : Int} (h : 0 ≤ N 17 ∧ N 17 ≤ 8) : ∀ j : Nat, (j : Int) < lgn (N 17) → rpf (lC N) (N 1) j = lC (lgE N kind x) j := by
  intro j hj
  unfold rpf lC
  rw [lgE17 h]
  by_cases e : N 17 = 8
  · have en : lgn (N 17) = 8 := by unfold lgn; rw [if_neg (by omega)]; exact e
    rw [en] at hj
    rw [en, show lgE N kind x = lgA (lgT N) 7 kind x by unfold lgE; rw [if_pos e], show (8 : Int).toNat = 8 from rfl]
    by_cases q : j = 0
    · rw [if_pos q]
      unfold lgA va_up
      rw [if_neg (by omega), if_pos (by omega)]; unfold lgT va_up; rw [if_neg (by omega)]; dsimp only; rw [if_neg (by omega)]
    · rw [if_neg q]
      unfold lgA va_up
      rw [if_neg (by omega), if_neg (by omega), if_neg (by omega), if_neg (by omega)]
      unfold lgT va_up
      rw [if_neg (by omega)]
      dsimp only
      rw [if_pos (by omega)]
      congr 1
      omega
  · have en : lgn (N 17) = N 17 + 1 := by unfold lgn; rw [if_pos (by omega)]
    rw [en] at hj
    rw [en, show lgE N kind x = lgA N (N 17).toNat kind x by unfold lgE; rw [if_neg e]]
    by_cases q : j = 0
    · rw [if_pos q]
      unfold lgA va_up
      rw [if_neg (by omega), if_pos (by omega)]
    · rw [if_neg q]
      unfold lgA va_up
      rw [if_neg (by omega), if_neg (by omega), if_neg (by omega), if_neg (by omega)]
      congr 1
      omega
theorem lgE_up2 {S : Nat → Int} {kind x q : Int} : lgE (va_up S 2 q) kind x = va_up (lgE S kind x) 2 q := by
  have e17 : va_up S 2 q 17 = S 17 := rfl
  have e1 : va_up S 2 q 1 = S 1 := rfl
  unfold lgE
  rw [e17]
  by_cases e : S 17 = 8
  · rw [if_pos e, if_pos e]
    have t : lgT (va_up S 2 q) = va_up (lgT S) 2 q := by
      funext j
      unfold lgT va_up
      dsimp only
      by_cases a : j = 17
      · rw [if_pos a, if_neg (by omega), if_pos a]
      · rw [if_neg a, if_neg a]
        by_cases b : 18 ≤ j ∧ j < 39
        · rw [if_pos b, if_neg (by omega), if_neg (by omega), if_pos b]
        · rw [if_neg b]
          by_cases c : j = 2
          · rw [if_pos c, if_pos c]
          · rw [if_neg c, if_neg c, if_neg b]
    rw [t]
    unfold lgA
    rw [show va_up (lgT S) 2 q 1 = lgT S 1 from rfl, va_up_cm (k := 2) (by omega), va_up_cm (k := 2) (by omega), va_up_cm (k := 2) (by omega), va_up_cm (k := 2) (by omega)]
  · rw [if_neg e, if_neg e]
    unfold lgA
    rw [e1, va_up_cm (k := 2) (by omega), va_up_cm (k := 2) (by omega), va_up_cm (k := 2) (by omega), va_up_cm (k := 2) (by omega)]
/-- what the decoder of the class makes of a row is what the reference's makes -/
theorem dcC_eq {m q c nx : Int} (hq : 0 ≤ q ∧ q ≤ 3) (hn : 0 ≤ nx ∧ nx ≤ 3) : dcC m q c nx = if (nx - q + 4) % 4 = 1 then c + cnb m q else if (nx - q + 4) % 4 = 3 then c - cnb m nx else c := by
  unfold dcC cnC cnb
  by_cases a : (nx - q + 4) % 4 = 1
  · rw [if_pos a, if_pos a]
    by_cases b : m = 4 ∨ nx = 0 ∨ (m = 2 ∧ nx = 2)
    · rw [if_pos b, if_pos (by omega)]
    · rw [if_neg b, if_neg (by omega)]
  · rw [if_neg a, if_neg a]
    by_cases a3 : (nx - q + 4) % 4 = 3
    · rw [if_pos a3, if_pos a3]
      by_cases b : m = 4 ∨ q = 0 ∨ (m = 2 ∧ q = 2)
      · rw [if_pos b, if_pos (by omega)]
      · rw [if_neg b, if_neg (by omega)]
    · rw [if_neg a3, if_neg a3]
/-- the row behind a read -/
def rdN (pt : Int) (N : Nat → Int) (x : Int) : Nat → Int := va_up (va_up (va_up N 1 (dcC (N 5) (N 2) (N 1) (quad pt x))) 3 (if (quad pt x - N 2 + 4) % 4 = 2 then N 3 + 1 else N 3)) 2 (quad pt x)
theorem rdN_no {pt x : Int} {N : Nat → Int} (hp : 0 < pt) (h2 : 0 ≤ N 2 ∧ N 2 ≤ 3) (hd : ¬ (quad pt x - N 2 + 4) % 4 = 2) : rdN pt N x = dcd pt N x := by
  unfold rdN dcd
  rw [if_neg hd, if_neg hd, dcC_eq h2 (quad_rg hp), va_up_cm (k := 1) (l := 3) (by omega)]
  rw [show va_up N 3 (N 3) = N from va_up_id]
  by_cases a : (quad pt x - N 2 + 4) % 4 = 1
  · rw [if_pos a, if_pos a]
  · rw [if_neg a, if_neg a]
    by_cases b : (quad pt x - N 2 + 4) % 4 = 3
    · rw [if_pos b, if_pos b]
    · rw [if_neg b, if_neg b, show va_up N 1 (N 1) = N from va_up_id]
theorem rdN_mi {pt x : Int} {N : Nat → Int} (hd : (quad pt x - N 2 + 4) % 4 = 2) : rdN pt N x = va_up (va_up N 3 (N 3 + 1)) 2 (quad pt x) := by
  unfold rdN dcC
  rw [if_pos hd, if_neg (by omega), if_neg (by omega), show va_up N 1 (N 1) = N from va_up_id]
theorem dcd_mi {pt x : Int} {N : Nat → Int} (hd : (quad pt x - N 2 + 4) % 4 = 2) : dcd pt N x = va_up (dcM N x) 2 (quad pt x) := by
  unfold dcd
  rw [if_pos hd]
/-- a miss that is logged, and one that is not -/
theorem rdN_lg {pt x : Int} {N : Nat → Int} (h17 : 0 ≤ N 17 ∧ N 17 ≤ 8) (hd : (quad pt x - N 2 + 4) % 4 = 2) (hw : N 17 = 0 ∨ lK N 0 = 0) : lgE (rdN pt N x) 1 x = dcd pt N x := by
  rw [rdN_mi hd, dcd_mi hd, lgE_up2]
  unfold dcM
  rw [if_pos]
  rcases hw with q | q
  · exact Or.inl q
  · by_cases z : N 17 = 0
    · exact Or.inl z
    · refine Or.inr ?_
      unfold lK at q
      rw [show (18 + 3 * N 17 - 3).toNat = 18 + 3 * ((N 17).toNat - 1 - 0) by omega]
      exact q
theorem rdN_nl {pt x : Int} {N : Nat → Int} (h17 : 0 ≤ N 17 ∧ N 17 ≤ 8) (hd : (quad pt x - N 2 + 4) % 4 = 2) (hw : ¬ (N 17 = 0 ∨ lK N 0 = 0)) : rdN pt N x = dcd pt N x := by
  rw [rdN_mi hd, dcd_mi hd]
  unfold dcM
  rw [if_neg]
  intro q
  rcases q with q | q
  · exact hw (Or.inl q)
  · refine hw (Or.inr ?_)
    unfold lK
    by_cases z : N 17 = 0
    · exact absurd (Or.inl z) hw
    · rw [show 18 + 3 * ((N 17).toNat - 1 - 0) = (18 + 3 * N 17 - 3).toNat by omega]
      exact q
theorem rdN_hi {pt x : Int} {N : Nat → Int} {j : Nat} (hj : 4 ≤ j) : rdN pt N x j = N j := by unfold rdN va_up; rw [if_neg (by omega), if_neg (by omega), if_neg (by omega)]
theorem lK_rdN {pt x : Int} {N : Nat → Int} : lK (rdN pt N x) 0 = lK N 0 := by unfold lK; rw [rdN_hi (by omega), rdN_hi (by omega)]
theorem rok_rdN {pt x : Int} {N : Nat → Int} (hp : 0 < pt) (h : rok N) : rok (rdN pt N x) := rok_up2 (rok_up (rok_up h (Or.inl rfl)) (Or.inr (Or.inl rfl))) (quad_rg hp)
theorem smp_d {sc a b : Int} {m : Nat} {MA N : Nat → Int} (h : drt N (N 8).toNat b) : smp sc m MA N a b = va_up (mkL MA m a b (va_up N 4 (N 4 + 1)) m) 0 b := by unfold smp; rw [if_pos h]
theorem smp_c {sc a b : Int} {m : Nat} {MA N : Nat → Int} (h : ¬ drt N (N 8).toNat b) : smp sc m MA N a b = va_up (mkL MA m a b (dcd sc (va_up N 4 (N 4 + 1)) b) m) 0 b := by unfold smp; rw [if_neg h]
theorem cov_drt {N : Nat → Int} {x : Int} : (∃ k : Nat, (k : Int) < N 8 ∧ dS N k ≤ x ∧ x ≤ dS N k + dL N k - 1) ↔ drt N (N 8).toNat x := by
  constructor
  · rintro ⟨k, a, b⟩
    exact ⟨k, by omega, b⟩
  · rintro ⟨k, a, b⟩
    exact ⟨k, by omega, b⟩
section Enc3
variable {h h2 : AH} {s : Nat} {tn mn pt hn q c m : Int} {TX MK N : Nat → Int}
theorem EN.logAdd {kind x : Int} (y : EN h s tn TX mn MK pt hn N) (h17 : 0 ≤ N 17 ∧ N 17 ≤ 8) (h8 : N 8 ≤ 4) (f : fr h h2 (s + 2) (s + 2 + 7)) (g : LG h2 (s + 2) (lgn (N 17)) (rpf (lK N) kind) (rpf (lP N) x) (rpf (lC N) (N 1))) : EN h2 s tn TX mn MK pt hn (lgE N kind x) := by
  obtain ⟨g1, g2, g3, g4⟩ := g
  refine y.setN (f.wide (by omega) (by omega)) (y.n.log (N2 := lgE N kind x) h8 (f.wide (by omega) (by omega)) ?_ (fun j hj => lgE_lo hj))
  rw [lgE17 h17]
  exact ⟨g1, g2.to (lgE_K h17), g3.to (lgE_P h17), g4.to (lgE_C h17)⟩
theorem EN.putDec (x : EN h s tn TX mn MK pt hn N) (hx : OB h (s + 1) 0 [.int (I q), .long (J c), .int (I m)] h2) : EN h2 s tn TX mn MK pt hn (va_up (va_up (va_up N 1 c) 3 m) 2 q) := x.setN (hx.fr.wide (by omega) (by omega)) (x.n.dec (N2 := va_up (va_up (va_up N 1 c) 3 m) 2 q) hx (fun j hj => by unfold va_up; rw [if_neg (by omega), if_neg (by omega), if_neg (by omega)]))
end Enc3
