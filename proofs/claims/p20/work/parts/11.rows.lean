/-! THE REFERENCE'S ROWS OF NUMBERS: what logging, decoding, sampling and moving make of a row; a row that is in order -/
def lgA (S : Nat → Int) (e : Nat) (kind x : Int) : Nat → Int := va_up (va_up (va_up (va_up S (18 + 3 * e) kind) (19 + 3 * e) x) (20 + 3 * e) (S 1)) 17 (e + 1)
def lgT (S : Nat → Int) : Nat → Int := va_up (fun j => if 18 ≤ j ∧ j < 39 then S (j + 3) else S j) 17 7
def lgE (S : Nat → Int) (kind x : Int) : Nat → Int := if S 17 = 8 then lgA (lgT S) 7 kind x else lgA S (S 17).toNat kind x
theorem lgA_lo {S : Nat → Int} {e : Nat} {kind x : Int} {j : Nat} (h : j < 17) : lgA S e kind x j = S j := by
  unfold lgA va_up
  rw [if_neg (by omega), if_neg (by omega), if_neg (by omega), if_neg (by omega)]
theorem lgT_lo {S : Nat → Int} {j : Nat} (h : j < 17) : lgT S j = S j := by
  unfold lgT va_up
  rw [if_neg (by omega)]
  dsimp only
  rw [if_neg (by omega)]
theorem lgE_lo {S : Nat → Int} {kind x : Int} {j : Nat} (h : j < 17) : lgE S kind x j = S j := by
  unfold lgE
  split
  · rw [lgA_lo h, lgT_lo h]
  · rw [lgA_lo h]
theorem lgE_17 {S : Nat → Int} {kind x : Int} (h : 0 ≤ S 17 ∧ S 17 ≤ 8) : 0 ≤ lgE S kind x 17 ∧ lgE S kind x 17 ≤ 8 := by
  unfold lgE
  split
  · show 0 ≤ ((7 : Nat) : Int) + 1 ∧ ((7 : Nat) : Int) + 1 ≤ 8
    omega
  · show 0 ≤ ((S 17).toNat : Int) + 1 ∧ ((S 17).toNat : Int) + 1 ≤ 8
    omega
theorem lgA_kind {S : Nat → Int} {e : Nat} {kind x : Int} (hk : 0 ≤ kind ∧ kind ≤ 1) {k : Nat} (h : 0 ≤ S (18 + 3 * k) ∧ S (18 + 3 * k) ≤ 1) : 0 ≤ lgA S e kind x (18 + 3 * k) ∧ lgA S e kind x (18 + 3 * k) ≤ 1 := by
  unfold lgA va_up
  rw [if_neg (by omega), if_neg (by omega), if_neg (by omega)]
  split
  · exact hk
  · exact h
theorem lgE_kind {S : Nat → Int} {kind x : Int} (hk : 0 ≤ kind ∧ kind ≤ 1) (h : ∀ k : Nat, k < 8 → 0 ≤ S (18 + 3 * k) ∧ S (18 + 3 * k) ≤ 1) : ∀ k : Nat, k < 8 → 0 ≤ lgE S kind x (18 + 3 * k) ∧ lgE S kind x (18 + 3 * k) ≤ 1 := by
  intro k hk8
  unfold lgE
  split
  · refine lgA_kind hk ?_
    unfold lgT va_up
    rw [if_neg (by omega)]
    dsimp only
    split
    · have := h (k + 1) (by omega)
      rw [show 18 + 3 * (k + 1) = 18 + 3 * k + 3 by omega] at this
      exact this
    · exact h k hk8
  · exact lgA_kind hk (h k hk8)
/-- a row in order -/
def rok (N : Nat → Int) : Prop := (0 ≤ N 0 ∧ N 0 ≤ 9999) ∧ (0 ≤ N 2 ∧ N 2 ≤ 3) ∧ (N 5 = 1 ∨ N 5 = 2 ∨ N 5 = 4) ∧ (8 ≤ N 6 ∧ N 6 ≤ 80) ∧ (0 ≤ N 7 ∧ N 7 ≤ 79) ∧ (0 ≤ N 8 ∧ N 8 ≤ 4) ∧ (0 ≤ N 17 ∧ N 17 ≤ 8) ∧ (∀ k : Nat, k < 4 → (0 ≤ N (9 + 2 * k) ∧ N (9 + 2 * k) ≤ 9999) ∧ (0 ≤ N (10 + 2 * k) ∧ N (10 + 2 * k) ≤ 99)) ∧ ∀ k : Nat, k < 8 → 0 ≤ N (18 + 3 * k) ∧ N (18 + 3 * k) ≤ 1
theorem rok_lgE {S : Nat → Int} {kind x : Int} (hk : 0 ≤ kind ∧ kind ≤ 1) (h : rok S) : rok (lgE S kind x) := by
  obtain ⟨h0, h2, h5, h6, h7, h8, h17, hd, he⟩ := h
  refine ⟨by rw [lgE_lo (by omega)]; exact h0, by rw [lgE_lo (by omega)]; exact h2, by rw [lgE_lo (by omega)]; exact h5, by rw [lgE_lo (by omega)]; exact h6, by rw [lgE_lo (by omega)]; exact h7, by rw [lgE_lo (by omega)]; exact h8, lgE_17 h17, fun k hk => ?_, lgE_kind hk he⟩
  rw [lgE_lo (by omega), lgE_lo (by omega)]
  exact hd k hk
def quad (sc x : Int) : Int := 4 * (x % sc) / sc
theorem quad_rg {sc x : Int} (h : 0 < sc) : 0 ≤ quad sc x ∧ quad sc x ≤ 3 := by
  unfold quad
  have h1 := Int.emod_nonneg x (show sc ≠ 0 by omega)
  have h2 := Int.emod_lt_of_pos x h
  refine ⟨Int.ediv_nonneg (by omega) (by omega), ?_⟩
  have : 4 * (x % sc) / sc < 4 := Int.ediv_lt_of_lt_mul h (by omega)
  omega
/-- a boundary that counts -/
def cnb (m b : Int) : Int := if m = 4 ∨ b = 3 ∨ (m = 2 ∧ b = 1) then 1 else 0
def dcM (S : Nat → Int) (x : Int) : Nat → Int := if S 17 = 0 ∨ S (18 + 3 * S 17 - 3).toNat = 0 then lgE (va_up S 3 (S 3 + 1)) 1 x else va_up S 3 (S 3 + 1)
def dcd (sc : Int) (S : Nat → Int) (x : Int) : Nat → Int := va_up (if (quad sc x - S 2 + 4) % 4 = 2 then dcM S x else if (quad sc x - S 2 + 4) % 4 = 1 then va_up S 1 (S 1 + cnb (S 5) (S 2)) else if (quad sc x - S 2 + 4) % 4 = 3 then va_up S 1 (S 1 - cnb (S 5) (quad sc x)) else S) 2 (quad sc x)
theorem rok_up {S : Nat → Int} {k : Nat} {x : Int} (h : rok S) (hk : k = 1 ∨ k = 3 ∨ k = 4) : rok (va_up S k x) := by
  obtain ⟨h0, h2, h5, h6, h7, h8, h17, hd, he⟩ := h
  have e : ∀ j, j ≠ k → va_up S k x j = S j := fun j hj => if_neg hj
  refine ⟨by rw [e 0 (by omega)]; exact h0, by rw [e 2 (by omega)]; exact h2, by rw [e 5 (by omega)]; exact h5, by rw [e 6 (by omega)]; exact h6, by rw [e 7 (by omega)]; exact h7, by rw [e 8 (by omega)]; exact h8, by rw [e 17 (by omega)]; exact h17, fun q hq => ?_, fun q hq => ?_⟩
  · rw [e _ (by omega), e _ (by omega)]; exact hd q hq
  · rw [e _ (by omega)]; exact he q hq
theorem rok_up2 {S : Nat → Int} {x : Int} (h : rok S) (hx : 0 ≤ x ∧ x ≤ 3) : rok (va_up S 2 x) := by
  obtain ⟨h0, h2, h5, h6, h7, h8, h17, hd, he⟩ := h
  have e : ∀ j, j ≠ 2 → va_up S 2 x j = S j := fun j hj => if_neg hj
  refine ⟨by rw [e 0 (by omega)]; exact h0, hx, by rw [e 5 (by omega)]; exact h5, by rw [e 6 (by omega)]; exact h6, by rw [e 7 (by omega)]; exact h7, by rw [e 8 (by omega)]; exact h8, by rw [e 17 (by omega)]; exact h17, fun q hq => ?_, fun q hq => ?_⟩
  · rw [e _ (by omega), e _ (by omega)]; exact hd q hq
  · rw [e _ (by omega)]; exact he q hq
theorem rok_up0 {S : Nat → Int} {x : Int} (h : rok S) (hx : 0 ≤ x ∧ x ≤ 9999) : rok (va_up S 0 x) := by
  obtain ⟨h0, h2, h5, h6, h7, h8, h17, hd, he⟩ := h
  have e : ∀ j, j ≠ 0 → va_up S 0 x j = S j := fun j hj => if_neg hj
  refine ⟨hx, by rw [e 2 (by omega)]; exact h2, by rw [e 5 (by omega)]; exact h5, by rw [e 6 (by omega)]; exact h6, by rw [e 7 (by omega)]; exact h7, by rw [e 8 (by omega)]; exact h8, by rw [e 17 (by omega)]; exact h17, fun q hq => ?_, fun q hq => ?_⟩
  · rw [e _ (by omega), e _ (by omega)]; exact hd q hq
  · rw [e _ (by omega)]; exact he q hq
theorem rok_dcM {S : Nat → Int} {x : Int} (h : rok S) : rok (dcM S x) := by
  unfold dcM
  split
  · exact rok_lgE (by omega) (rok_up h (by omega))
  · exact rok_up h (by omega)
theorem rok_dcd {sc : Int} {S : Nat → Int} {x : Int} (hs : 0 < sc) (h : rok S) : rok (dcd sc S x) := by
  unfold dcd
  refine rok_up2 ?_ (quad_rg hs)
  split
  · exact rok_dcM h
  · split
    · exact rok_up h (by omega)
    · split
      · exact rok_up h (by omega)
      · exact h
theorem dcd_0 {sc : Int} {S : Nat → Int} {x : Int} : dcd sc S x 0 = S 0 := by
  unfold dcd
  show (if _ then _ else _ : Nat → Int) 0 = S 0
  split
  · unfold dcM; split
    · rw [lgE_lo (by omega)]; rfl
    · rfl
  · split
    · rfl
    · split <;> rfl
/-- dirt at a place -/
def drt (S : Nat → Int) (m : Nat) (x : Int) : Prop := ∃ k : Nat, k < m ∧ S (9 + 2 * k) ≤ x ∧ x ≤ S (9 + 2 * k) + S (10 + 2 * k) - 1
/-- a mark that is passed -/
def pas (a b x : Int) : Prop := (a < b ∧ a < x ∧ x ≤ b) ∨ (¬ a < b ∧ b ≤ x ∧ x < a)
/-- the k-th mark that a sample looks at -/
def mkA (MA : Nat → Int) (mk : Nat) (a b : Int) (k : Nat) : Int := if a < b then MA k else MA (mk - 1 - k)
noncomputable def mkL (MA : Nat → Int) (mk : Nat) (a b : Int) (S : Nat → Int) : Nat → Nat → Int
  | 0 => S
  | k + 1 => @ite _ (pas a b (mkA MA mk a b k)) (Classical.propDecidable _) (lgE (mkL MA mk a b S k) 0 b) (mkL MA mk a b S k)
theorem rok_mkL {MA : Nat → Int} {mk : Nat} {a b : Int} {S : Nat → Int} (h : rok S) : ∀ k, rok (mkL MA mk a b S k) := by
  intro k
  induction k with
  | zero => exact h
  | succ k ih =>
    unfold mkL
    by_cases q : pas a b (mkA MA mk a b k)
    · rw [if_pos q]; exact rok_lgE (by omega) ih
    · rw [if_neg q]; exact ih
theorem mkL_0 {MA : Nat → Int} {mk : Nat} {a b : Int} {S : Nat → Int} : ∀ k, mkL MA mk a b S k 0 = S 0 := by
  intro k
  induction k with
  | zero => rfl
  | succ k ih =>
    unfold mkL
    by_cases q : pas a b (mkA MA mk a b k)
    · rw [if_pos q, lgE_lo (by omega)]; exact ih
    · rw [if_neg q]; exact ih
/-- one sample -/
noncomputable def smp (sc : Int) (mk : Nat) (MA S : Nat → Int) (a b : Int) : Nat → Int :=
  va_up (mkL MA mk a b (@ite _ (drt S (S 8).toNat b) (Classical.propDecidable _) (va_up S 4 (S 4 + 1)) (dcd sc (va_up S 4 (S 4 + 1)) b)) mk) 0 b
theorem rok_smp {sc : Int} {mk : Nat} {MA S : Nat → Int} {a b : Int} (hs : 0 < sc) (hb : 0 ≤ b ∧ b ≤ 9999) (h : rok S) : rok (smp sc mk MA S a b) := by
  unfold smp
  refine rok_up0 (rok_mkL ?_ _) hb
  split
  · exact rok_up h (by omega)
  · exact rok_dcd hs (rok_up h (by omega))
/-- the next sample's place -/
def nxt (a t v : Int) : Int := if a < t then (if t - a < v then t else a + v) else (if a - t < v then t else a - v)
theorem nxt_rg {a t v : Int} (ha : 0 ≤ a ∧ a ≤ 9999) (ht : 0 ≤ t ∧ t ≤ 9999) (hv : 1 ≤ v) (hn : a ≠ t) : (0 ≤ nxt a t v ∧ nxt a t v ≤ 9999) ∧ (nxt a t v - t).natAbs < (a - t).natAbs := by
  unfold nxt
  split <;> split <;> omega
noncomputable def mvF (sc : Int) (mk : Nat) (MA : Nat → Int) (t v : Int) : Nat → (Nat → Int) → Nat → Int
  | 0, S => S
  | f + 1, S => if S 0 = t then S else mvF sc mk MA t v f (smp sc mk MA S (S 0) (nxt (S 0) t v))
theorem rok_mvF {sc : Int} {mk : Nat} {MA : Nat → Int} {t v : Int} (hs : 0 < sc) (ht : 0 ≤ t ∧ t ≤ 9999) (hv : 1 ≤ v) : ∀ (f : Nat) (S : Nat → Int), rok S → rok (mvF sc mk MA t v f S) := by
  intro f
  induction f with
  | zero => intro S h; exact h
  | succ f ih =>
    intro S h
    unfold mvF
    split
    · exact h
    · rename_i hn
      exact ih _ (rok_smp hs (nxt_rg h.1 ht hv hn).1 h)
