/-! THE LAYER: one judgement V of a method's walk over an abstract heap (a function from addresses, counted from the law's own first cell, to cells),
 and one contract M of a method; every rule below turns V at an instruction into V at the next. Class and reference are not named here, but for the tables. -/
/-- z: the launch, the law's first cell, the classes' numbers and slots, the array classes; the address of the setup's String constant and of its bytes; the script's address, its length and its ints -/
abbrev ZG : Type := Launch × Nat × va_G × (ClassId × ClassId × ClassId × (Nat × Nat × Nat × Nat × (Nat → Int32)))
abbrev AC : Type := (Nat × List Value) ⊕ vp_A
abbrev AH : Type := Nat → Option AC
abbrev AL : Type := List (Option Value)
abbrev ZQ : Type := Option Value → AH → Nat → Prop
/-- values: addresses counted from the law's first cell; what lies ahead of it is told by .retAddr -/
def shv (b : Nat) (v : Value) : Value := match v with
  | .ref a => .ref (b + a)
  | .retAddr q => .ref q
  | w => w
theorem shv_cat (b : Nat) (v : Value) : (shv b v).category = v.category := by cases v <;> rfl
theorem shv_rf (b : Nat) (r : Option Nat) : shv b (va_rf r) = va_rf (r.map (b + ·)) := by cases r <;> rfl
def ze (z : ZG) (c : AC) : va_E := match c with
  | .inl o => .inr (o.1, o.2.map (shv z.2.1))
  | .inr (n, .inl f) => .inl (z.2.2.2.1, n, .inl f)
  | .inr (n, .inr (.inl f)) => .inl (z.2.2.2.2.1, n, .inr (.inl f))
  | .inr (n, .inr (.inr (.inl f))) => .inl (z.2.2.2.1, n, .inr (.inr (.inl f)))
  | .inr (n, .inr (.inr (.inr (.inl f)))) => .inl (z.2.2.2.1, n, .inr (.inr (.inr (.inl f))))
  | .inr (n, .inr (.inr (.inr (.inr f)))) => .inl (z.2.2.2.2.2.1, n, .inr (.inr (.inr (.inr (fun j => (f j).map (z.2.1 + ·))))))
/-- the heap holds the abstract one -/
def hp (z : ZG) (h : AH) (H : Heap) : Prop := ∀ (a : Nat) (c : AC), h a = some c → va_at z.2.2.1 vwCl (z.2.1 + a, ze z c) H
def hset (h : AH) (a : Nat) (c : AC) : AH := fun x => if x = a then some c else h x
theorem hset_s {h : AH} {a : Nat} {c : AC} : hset h a c a = some c := if_pos rfl
theorem hset_n {h : AH} {a x : Nat} {c : AC} (n : x ≠ a) : hset h a c x = h x := if_neg n
theorem hp.set {z : ZG} {h : AH} {H H1 : Heap} {a : Nat} {c : AC} (hh : hp z h H) (h1 : va_at z.2.2.1 vwCl (z.2.1 + a, ze z c) H1) (oq : ∀ q : Nat, q ≠ z.2.1 + a → H1[q]? = H[q]?) : hp z (hset h a c) H1 := by
  intro x d hx
  by_cases e : x = a
  · subst e
    rw [hset_s] at hx
    cases hx
    exact h1
  · rw [hset_n e] at hx
    exact (hh x d hx).kept (oq _ (by omega))
theorem hp.lt {z : ZG} {h : AH} {H : Heap} (hh : hp z h H) {a : Nat} {c : AC} (ha : h a = some c) : z.2.1 + a < H.size := (hh a c ha).lt
/-- the array classes at hand, and the words of nest mates -/
def zty (z : ZG) : List (ClassId × FieldType) := [(z.2.2.2.1, .int), (z.2.2.2.2.1, .long), (z.2.2.2.2.2.1, .object "MoireEncoder$State")]
abbrev zS (z : ZG) : Nat := z.2.2.2.2.2.2.1
abbrev zB (z : ZG) : Nat := z.2.2.2.2.2.2.2.1
abbrev zX (z : ZG) : Nat := z.2.2.2.2.2.2.2.2.1
abbrev zN (z : ZG) : Nat := z.2.2.2.2.2.2.2.2.2.1
abbrev zF (z : ZG) : Nat → Int32 := z.2.2.2.2.2.2.2.2.2.2
abbrev zA (z : ZG) : Nat → Prop := fun q => z.2.1 ≤ q
/-- the bytes of the first setup's text -/
def zby (j : Nat) : Int32 := ([112, 50, 48, 59, 105, 50, 50, 44, 51, 59, 114, 52, 48, 48, 59, 114, 49, 48, 48, 48, 59, 114, 49, 55, 52, 48, 59, 100, 54, 54, 48, 44, 57, 59] : List Int32).getD j 0
/-- what lies ahead of the law's first cell: the first setup's text, two statics, the script -/
def ST (z : ZG) (U : State) (H : Heap) : Prop := (vk_R RX7 49 "p20;i22,3;r400;r1000;r1740;d660,9;" (zS z) U ∧ va_O "java/lang/String" (zS z) (zA z) U H ∧ va_OF "java/lang/String" "code\x72" "B" (.int 0) (zS z) (zA z) U H ∧ va_OF "java/lang/String" "value" "[B" (.ref (zB z)) (zS z) (zA z) U H ∧ va_T .byte (zB z) 34 (fun j => .int (zby j)) (zA z) U H) ∧ (va_Z "java/lang/String" "COMPACT_STRINGS" "Z" (.int 1) (zA z) U H ∧ va_Zq "jdk/internal/util/Preconditions" "SIOOBE_FORMATTER" "Ljava/util/function/BiFunction;" (zA z) U H) ∧ va_X (zX z) (zN z) (zF z) U H ∧ zX z < z.2.1
theorem ST.kept {z : ZG} {U : State} {H H1 : Heap} (h : ST z U H) (hq : ∀ q : Nat, q < z.2.1 → H1[q]? = H[q]?) : ST z U H1 := by
  have k : ∀ a : Nat, a < H.size → ¬ zA z a → H1[a]? = H[a]? := fun a _ hn => hq a (Nat.lt_of_not_le hn)
  obtain ⟨⟨h1, h2, h3, h4, h5⟩, ⟨h6, h7⟩, h8, h9⟩ := h
  exact ⟨⟨h1, h2.kept k, h3.kept k, h4.kept k, h5.kept k⟩, ⟨h6.kept k, h7.kept k⟩, h8.kept (hq _ h9), h9⟩
theorem ST.moved {z : ZG} {u U : State} {H : Heap} (hW : u.WarmedH U.vm) (h : ST z u H) : ST z U H := by
  obtain ⟨⟨h1, h2, h3, h4, h5⟩, ⟨h6, h7⟩, h8, h9⟩ := h
  exact ⟨⟨h1.warm hW, h2.moved hW.alike, h3.moved hW.alike, h4.moved hW.alike, h5.moved hW.alike⟩, ⟨h6.moved hW.alike, h7.moved hW.alike⟩, h8.moved hW.alike, h9⟩
theorem ST.same {z : ZG} {u U : State} {H : Heap} (e : u.vm = U.vm) (h : ST z u H) : ST z U H := by
  have a : u.vm.Alike U.vm := by rw [e]; exact Vm.Alike.refl _
  obtain ⟨⟨h1, h2, h3, h4, h5⟩, ⟨h6, h7⟩, h8, h9⟩ := h
  exact ⟨⟨h1.same e.symm, h2.moved a, h3.moved a, h4.moved a, h5.moved a⟩, ⟨h6.moved a, h7.moved a⟩, h8.moved a, h9⟩
def ZK (z : ZG) (U : State) : Prop := va_K z.2.2.1 vwCl (zty z) U ∧ ((∀ q ∈ zNf, va_Nw (.fieldLinkNest q.1 q.2.1 q.2.2.1 q.2.2.2.1 q.2.2.2.2.1 q.2.2.2.2.2) U) ∧ ∀ q ∈ zNm, va_Nw (.methodLinkNest q.1 q.2.1 q.2.2.1 q.2.2.2) U) ∧ va_AO "MoireEncoder$State" U ∧ ST z U U.heap
theorem ZK.moved {z : ZG} {u U : State} (hW : u.WarmedH U.vm) (hq : ∀ q : Nat, q < z.2.1 → U.heap[q]? = u.heap[q]?) (h : ZK z u) : ZK z U :=
  ⟨va_K.moved hW.alike h.1, ⟨fun q hq => va_Nw.warmF hW (h.2.1.1 q hq), fun q hq => va_Nw.warmM hW (h.2.1.2 q hq)⟩, va_AO.moved hW.alike h.2.2.1, (h.2.2.2.moved hW).kept hq⟩
theorem ZK.same {z : ZG} {u U : State} (e : u.vm = U.vm) (eh : U.heap = u.heap) (h : ZK z u) : ZK z U :=
  ⟨va_K.moved (by rw [e]; exact Vm.Alike.refl _) h.1, ⟨fun q hq => va_Nw.same rfl e (h.2.1.1 q hq), fun q hq => va_Nw.same rfl e (h.2.1.2 q hq)⟩, va_AO.moved (by rw [e]; exact Vm.Alike.refl _) h.2.2.1, by rw [eh]; exact h.2.2.2.same e⟩
/-- the locals by their places -/
def zls (b : Nat) : Nat → AL → List (Nat × Value)
  | _, [] => []
  | i, none :: t => zls b (i + 1) t
  | i, some v :: t => (i, shv b v) :: zls b (i + 1) t
theorem zls_mem (b : Nat) : ∀ (L : AL) (i : Nat) (q : Nat × Value), q ∈ zls b i L ↔ ∃ j v, L[j]? = some (some v) ∧ q = (i + j, shv b v) := by
  intro L
  induction L with
  | nil => intro i q; simp [zls]
  | cons x t ih =>
    intro i q
    cases x with
    | none =>
      simp only [zls, ih]
      constructor
      · rintro ⟨j, v, h, rfl⟩
        exact ⟨j + 1, v, by simpa using h, by rw [show i + 1 + j = i + (j + 1) by omega]⟩
      · rintro ⟨j, v, h, rfl⟩
        cases j with
        | zero => simp at h
        | succ j => exact ⟨j, v, by simpa using h, by rw [show i + 1 + j = i + (j + 1) by omega]⟩
    | some w =>
      simp only [zls, List.mem_cons, ih]
      constructor
      · rintro (rfl | ⟨j, v, h, rfl⟩)
        · exact ⟨0, w, by simp, by simp⟩
        · exact ⟨j + 1, v, by simpa using h, by rw [show i + 1 + j = i + (j + 1) by omega]⟩
      · rintro ⟨j, v, h, rfl⟩
        cases j with
        | zero =>
          simp at h
          subst h
          exact Or.inl (by simp)
        | succ j => exact Or.inr ⟨j, v, by simpa using h, by rw [show i + 1 + j = i + (j + 1) by omega]⟩
def zclr (x : Option Value) : Option Value := match x with
  | none => none
  | some v => match v with
    | .long _ => none
    | .double _ => none
    | w => some w
/-- a value of one word is stored -/
def zp1 : AL → Nat → Value → AL
  | [], _, _ => []
  | _ :: t, 0, v => some v :: t
  | x :: t, 1, v => zclr x :: zp1 t 0 v
  | x :: t, i + 2, v => x :: zp1 t (i + 1) v
/-- a value of two words is stored -/
def zp2 : AL → Nat → Value → AL
  | [], _, _ => []
  | [_], 0, _ => []
  | _ :: _ :: t, 0, v => some v :: none :: t
  | x :: t, 1, v => zclr x :: zp2 t 0 v
  | x :: t, i + 2, v => x :: zp2 t (i + 1) v
theorem zclr_some {x : Option Value} {w : Value} (h : zclr x = some w) : x = some w ∧ w.category = 1 := by
  cases x with
  | none => cases h
  | some v => cases v <;> simp [zclr] at h <;> subst h <;> exact ⟨rfl, rfl⟩
theorem zp1_len : ∀ (L : AL) (i : Nat) (v : Value), (zp1 L i v).length = L.length := by
  intro L
  induction L with
  | nil => intro i v; rfl
  | cons x t ih =>
    intro i v
    match i with
    | 0 => rfl
    | 1 => simp [zp1, ih]
    | i + 2 => simp [zp1, ih]
theorem zp1_at : ∀ (L : AL) (i : Nat) (v : Value) (j : Nat) (w : Value), (zp1 L i v)[j]? = some (some w) → (j = i ∧ w = v) ∨ (L[j]? = some (some w) ∧ j ≠ i ∧ ¬ (j + 1 = i ∧ w.category = 2)) := by
  intro L
  induction L with
  | nil => intro i v j w h; simp [zp1] at h
  | cons x t ih =>
    intro i v j w h
    match i with
    | 0 =>
      cases j with
      | zero => simp [zp1] at h; exact Or.inl ⟨rfl, h.symm⟩
      | succ j => exact Or.inr ⟨by simpa [zp1] using h, by omega, by omega⟩
    | 1 =>
      cases j with
      | zero =>
        simp [zp1] at h
        have := zclr_some h
        exact Or.inr ⟨by simp [this.1], by omega, fun q => by omega⟩
      | succ j =>
        have h' : (zp1 t 0 v)[j]? = some (some w) := by simpa [zp1] using h
        rcases ih 0 v j w h' with ⟨rfl, rfl⟩ | ⟨h1, h2, h3⟩
        · exact Or.inl ⟨rfl, rfl⟩
        · exact Or.inr ⟨by simpa using h1, by omega, fun q => h3 ⟨by omega, q.2⟩⟩
    | i + 2 =>
      cases j with
      | zero => simp [zp1] at h; exact Or.inr ⟨by simp [h], by omega, by omega⟩
      | succ j =>
        have h' : (zp1 t (i + 1) v)[j]? = some (some w) := by simpa [zp1] using h
        rcases ih (i + 1) v j w h' with ⟨rfl, rfl⟩ | ⟨h1, h2, h3⟩
        · exact Or.inl ⟨rfl, rfl⟩
        · exact Or.inr ⟨by simpa using h1, by omega, fun q => h3 ⟨by omega, q.2⟩⟩
theorem zp2_len : ∀ (L : AL) (i : Nat) (v : Value), i + 1 < L.length → (zp2 L i v).length = L.length := by
  intro L
  induction L with
  | nil => intro i v h; rfl
  | cons x t ih =>
    intro i v h
    match i with
    | 0 =>
      cases t with
      | nil => simp at h
      | cons y t => rfl
    | 1 => simp [zp2, ih 0 v (by simp at h; omega)]
    | i + 2 => simp [zp2, ih (i + 1) v (by simp at h; omega)]
theorem zp2_at : ∀ (L : AL) (i : Nat) (v : Value) (j : Nat) (w : Value), (zp2 L i v)[j]? = some (some w) → (j = i ∧ w = v) ∨ (L[j]? = some (some w) ∧ j ≠ i ∧ j ≠ i + 1 ∧ ¬ (j + 1 = i ∧ w.category = 2)) := by
  intro L
  induction L with
  | nil => intro i v j w h; simp [zp2] at h
  | cons x t ih =>
    intro i v j w h
    match i with
    | 0 =>
      cases t with
      | nil => simp [zp2] at h
      | cons y t =>
        match j with
        | 0 => simp [zp2] at h; exact Or.inl ⟨rfl, h.symm⟩
        | 1 => simp [zp2] at h
        | j + 2 => exact Or.inr ⟨by simpa [zp2] using h, by omega, by omega, by omega⟩
    | 1 =>
      cases j with
      | zero =>
        simp [zp2] at h
        have := zclr_some h
        exact Or.inr ⟨by simp [this.1], by omega, by omega, fun q => by omega⟩
      | succ j =>
        have h' : (zp2 t 0 v)[j]? = some (some w) := by simpa [zp2] using h
        rcases ih 0 v j w h' with ⟨rfl, rfl⟩ | ⟨h1, h2, h3, h4⟩
        · exact Or.inl ⟨rfl, rfl⟩
        · exact Or.inr ⟨by simpa using h1, by omega, by omega, fun q => h4 ⟨by omega, q.2⟩⟩
    | i + 2 =>
      cases j with
      | zero => simp [zp2] at h; exact Or.inr ⟨by simp [h], by omega, by omega, by omega⟩
      | succ j =>
        have h' : (zp2 t (i + 1) v)[j]? = some (some w) := by simpa [zp2] using h
        rcases ih (i + 1) v j w h' with ⟨rfl, rfl⟩ | ⟨h1, h2, h3, h4⟩
        · exact Or.inl ⟨rfl, rfl⟩
        · exact Or.inr ⟨by simpa using h1, by omega, by omega, fun q => h4 ⟨by omega, q.2⟩⟩
/-- the locals that hold the listed ones hold those after a store -/
theorem zl_p1 {ls : Array Slot} {b : Nat} {L : AL} {i : Nat} {v : Value} (h : lv_has ls L.length ((i, shv b v) :: (zls b 0 L).filter (fun q => !(q.1 == i) && !(q.1 + 1 == i && q.2.category == 2)))) : lv_has ls (zp1 L i v).length (zls b 0 (zp1 L i v)) := by
  rw [zp1_len]
  refine ⟨h.1, h.2.1, fun q hq => h.2.2 q ?_⟩
  obtain ⟨j, w, h1, rfl⟩ := (zls_mem b _ 0 q).mp hq
  rw [Nat.zero_add]
  rcases zp1_at L i v j w h1 with ⟨rfl, rfl⟩ | ⟨h2, h3, h4⟩
  · exact List.mem_cons_self
  · refine List.mem_cons_of_mem _ (List.mem_filter.mpr ⟨(zls_mem b _ 0 _).mpr ⟨j, w, h2, by rw [Nat.zero_add]⟩, ?_⟩)
    have h5 : ¬ (j + 1 = i ∧ (shv b w).category = 2) := by rw [shv_cat]; exact h4
    by_cases e : j + 1 = i
    · have : ¬ (shv b w).category = 2 := fun c => h5 ⟨e, c⟩
      simp [h3, this]
    · simp [h3, e]
theorem zl_p2 {ls : Array Slot} {b : Nat} {L : AL} {i : Nat} {v : Value} (hi : i + 1 < L.length) (h : lv_has ls L.length ((i, shv b v) :: (zls b 0 L).filter (fun q => !(q.1 == i) && (!(q.1 == i + 1) && !(q.1 + 1 == i && q.2.category == 2))))) : lv_has ls (zp2 L i v).length (zls b 0 (zp2 L i v)) := by
  rw [zp2_len L i v hi]
  refine ⟨h.1, h.2.1, fun q hq => h.2.2 q ?_⟩
  obtain ⟨j, w, h1, rfl⟩ := (zls_mem b _ 0 q).mp hq
  rw [Nat.zero_add]
  rcases zp2_at L i v j w h1 with ⟨rfl, rfl⟩ | ⟨h2, h3, h4, h5⟩
  · exact List.mem_cons_self
  · refine List.mem_cons_of_mem _ (List.mem_filter.mpr ⟨(zls_mem b _ 0 _).mpr ⟨j, w, h2, by rw [Nat.zero_add]⟩, ?_⟩)
    have h6 : ¬ (j + 1 = i ∧ (shv b w).category = 2) := by rw [shv_cat]; exact h5
    by_cases e : j + 1 = i
    · have : ¬ (shv b w).category = 2 := fun c => h6 ⟨e, c⟩
      simp [h3, h4, this]
    · simp [h3, h4, e]
theorem zl_at {ls : Array Slot} {b n : Nat} {L : AL} (h : lv_has ls n (zls b 0 L)) {i : Nat} {v : Value} (hi : L[i]? = some (some v)) : ls[i]? = some (.val (shv b v)) :=
  h.2.2 (i, shv b v) ((zls_mem b L 0 _).mpr ⟨i, v, hi, by rw [Nat.zero_add]⟩)
/-- the locals at a method's entry -/
def zargs : List Value → AL
  | [] => []
  | v :: t => match v with
    | .long x => some (.long x) :: none :: zargs t
    | .double x => some (.double x) :: none :: zargs t
    | w => some w :: zargs t
def zent (as : List Value) (n : Nat) : AL := zargs as ++ List.replicate (n - (zargs as).length) none
theorem zargs_len (b : Nat) : ∀ as : List Value, (zargs as).length = (lg_sl (as.map (shv b))).length := by
  intro as
  induction as with
  | nil => rfl
  | cons v t ih => cases v <;> simp [zargs, lg_sl, ih, shv, Value.category] <;> rfl
theorem zent_len {as : List Value} {n : Nat} (h : (zargs as).length ≤ n) : (zent as n).length = n := by simp [zent]; omega
theorem zls_none (b : Nat) : ∀ (n i : Nat), zls b i (List.replicate n none) = [] := by
  intro n
  induction n with
  | zero => intro i; rfl
  | succ n ih => intro i; rw [List.replicate_succ, zls, ih]
theorem zls_ent (b : Nat) : ∀ (as : List Value) (n i : Nat), zls b i (zargs as ++ List.replicate n none) = lv_args i (as.map (shv b)) := by
  intro as
  induction as with
  | nil => intro n i; simp [zargs, zls_none, lv_args]
  | cons v t ih => intro n i; cases v <;> simp [zargs, zls, lv_args, ih, shv, Value.category]
def zroom (d mc ms : Nat) : Room := { frames := d, cells := mc, slots := ms, locals := 31 * d }
/-- a method's end, in the words of the abstract heap; below the law's first cell nothing has changed -/
def zq (z : ZG) (Q : ZQ) : Array Value → State → Outcome → State → Prop := fun _ st o t =>
  ∃ (v : Option Value) (h : AH) (sz : Nat), o = .returned (v.map (shv z.2.1)) ∧ Q v h sz ∧ hp z h t.heap ∧ t.heap.size = z.2.1 + sz ∧ ∀ q : Nat, q < z.2.1 → t.heap[q]? = st.heap[q]?
def zws (Y : ZM) : List Cond := .code Y.1 Y.2.1 Y.2.2.1 Y.2.2.2 :: gw
/-- a method's contract: from these arguments over this heap it comes to an end with Q -/
def M (z : ZG) (Y : ZM) (d mc ms : Nat) (as : List Value) (h : AH) (sz : Nat) (Q : ZQ) : Prop :=
  MetD lw_cs z.1 Y.1 (zws Y) (zroom d mc ms) (va_Pc (as.map (shv z.2.1)) (fun U => hp z h U.heap ∧ U.heap.size = z.2.1 + sz ∧ ZK z U)) (zq z Q) mc ms (fun q => z.2.1 ≤ q)
def ZC (z : ZG) (Y : ZM) (p : Program) (s : State) (m : MethodId) (args : Array Value) (meth : Method) (c : Code) : Prop :=
  p.tables.exec = Jvm.exec ∧ c.code = Y.2.1 ∧ c.maxLocals = Y.2.2.1 ∧ s.vm.findClass Y.1.cls = some m.cls ∧ (∀ w ∈ gw, w.before args s = true) ∧ meth.sig.returnType = Y.2.2.2 ∧ meth.locks = false ∧ meth.name = Y.1.name ∧ ZK z s
def zr (z : ZG) (s : State) (L : AL) (h : AH) (sz : Nat) (H : Heap) (locs : List Loc) (ls : Array Slot) : Prop :=
  hp z h H ∧ H.size = z.2.1 + sz ∧ lv_has ls L.length (zls z.2.1 0 L) ∧ (∀ q ∈ locs, z.2.1 ≤ q.base) ∧ ∀ q : Nat, q < z.2.1 → H[q]? = s.heap[q]?
/-- the walk of method Y: at pc, with locals L, operand stack st, heap h of sz cells, kc cells and nc slots made so far, it comes to an end with Q -/
def V (z : ZG) (Y : ZM) (R : Room) (Q : ZQ) (pc : Nat) (L : AL) (st : List Value) (h : AH) (sz kc nc : Nat) : Prop :=
  ∀ (p : Program) (e : Env) (s : State) (m : MethodId) (args : Array Value) (below : List Frame) (meth : Method) (c : Code) (d0 : Drawn) (H : Heap) (locs : List Loc) (ls : Array Slot),
    ZC z Y p s m args meth c → s.drawn.sameBut d0 lw_cs → L.length = Y.2.2.1 → zr z s L h sz H locs ls →
    W p z.1 e R (s.setDrawn d0) m args below meth c H locs kc nc (MQD lw_cs below (zq z Q) args s R.cells R.slots (fun q => z.2.1 ≤ q)) (F0 m pc ls (st.map (shv z.2.1)))
theorem M.of {z : ZG} {Y : ZM} {d mc ms : Nat} {as : List Value} {h : AH} {sz : Nat} {Q : ZQ} (hy : plainName Y.1.cls = true) (hn : (zargs as).length ≤ Y.2.2.1) (k : V z Y (zroom d mc ms) Q 0 (zent as Y.2.2.1) [] h sz 0 0) : M z Y d mc ms as h sz Q := by
  refine MetD.ofW (cc := Y.2.1) (maxL := Y.2.2.1) (ret := Y.2.2.2) hy rfl ?_
  intro p e s m args below meth c s₁ B hml hv hd0
  obtain ⟨rfl, hP, hsz, hK⟩ := hv
  have hts := atoms_spec (ws := zws Y) B.pre
  rw [lg_entry_eq]
  have hlen : (lg_sl (as.map (shv z.2.1))).length ≤ Y.2.2.1 := by rw [← zargs_len]; exact hn
  have hl := lv_entry (as.map (shv z.2.1)) hlen
  refine k p e s m _ below meth c s.drawn s.heap [] _ ⟨B.exec, B.bytes, hml, findClass_of_methodNamed B.named, fun w hw => hts w (List.mem_cons_of_mem _ hw), B.returns, B.notSynchronized, (name_of_methodNamed B.named B.method).1, hK⟩ hd0 (zent_len hn) ⟨hP, hsz, ?_, fun q hq => absurd hq List.not_mem_nil, fun _ _ => rfl⟩
  rw [zent_len hn, zent, zls_ent]
  exact hl
section Zrules
variable {z : ZG} {Y : ZM} {R : Room} {Q : ZQ} {pc : Nat} {L : AL} {st : List Value} {h : AH} {sz kc nc : Nat}
/-- the end of a method's walk -/
theorem V_iret {ty : FieldType} {v : Int32} (hd : decode Y.2.1 pc = .ok (.ireturn, 1)) (hrt : Y.2.2.2 = some ty) (hn : narrow ty (.int v) = .int v) (hk : kc ≤ R.cells ∧ nc ≤ R.slots) (hq : Q (some (.int v)) h sz) : V z Y R Q pc L [.int v] h sz kc nc := by
  intro p e s m args below meth c d0 H locs ls C hd0 hL hr
  refine W.widen hk.1 hk.2 (W.endD hd0 ?_)
  exact W.zret (v := v) (ty := ty) C.1 C.2.1 (C.2.2.2.2.2.1.trans hrt) hn (fun t ht hW => ⟨some (.int v), h, sz, rfl, hq, by rw [ht]; exact hr.1, by rw [ht]; exact hr.2.1, fun q hq => by rw [ht]; exact hr.2.2.2.2 q hq⟩) hr.2.2.2.1 hd C.2.2.2.2.2.2.1
theorem V_lret {v : Int64} (hd : decode Y.2.1 pc = .ok (.lreturn, 1)) (hrt : Y.2.2.2 = some .long) (hk : kc ≤ R.cells ∧ nc ≤ R.slots) (hq : Q (some (.long v)) h sz) : V z Y R Q pc L [.long v] h sz kc nc := by
  intro p e s m args below meth c d0 H locs ls C hd0 hL hr
  refine W.widen hk.1 hk.2 (W.endD hd0 ?_)
  exact W.lret (v := v) C.1 C.2.1 (C.2.2.2.2.2.1.trans hrt) (fun t ht hW => ⟨some (.long v), h, sz, rfl, hq, by rw [ht]; exact hr.1, by rw [ht]; exact hr.2.1, fun q hq => by rw [ht]; exact hr.2.2.2.2 q hq⟩) hr.2.2.2.1 hd C.2.2.2.2.2.2.1
theorem V_ret (hd : decode Y.2.1 pc = .ok (.return_, 1)) (hrt : Y.2.2.2 = none) (hk : kc ≤ R.cells ∧ nc ≤ R.slots) (hq : Q none h sz) : V z Y R Q pc L [] h sz kc nc := by
  intro p e s m args below meth c d0 H locs ls C hd0 hL hr
  refine W.widen hk.1 hk.2 (W.endD hd0 ?_)
  exact W.vret C.1 C.2.1 (C.2.2.2.2.2.1.trans hrt) (fun t ht hW => ⟨none, h, sz, rfl, hq, by rw [ht]; exact hr.1, by rw [ht]; exact hr.2.1, fun q hq => by rw [ht]; exact hr.2.2.2.2 q hq⟩) hr.2.2.2.1 hd C.2.2.2.2.2.2.1
theorem V_aret {a : Nat} {rt : FieldType} (hd : decode Y.2.1 pc = .ok (.areturn, 1)) (hrt : Y.2.2.2 = some rt) (hrt2 : (∃ n, rt = .object n) ∨ ∃ t, rt = .array t) (hk : kc ≤ R.cells ∧ nc ≤ R.slots) (hq : Q (some (.ref a)) h sz) : V z Y R Q pc L [.ref a] h sz kc nc := by
  intro p e s m args below meth c d0 H locs ls C hd0 hL hr
  refine W.widen hk.1 hk.2 (W.endD hd0 ?_)
  exact W.aret (v := .ref (z.2.1 + a)) C.1 C.2.1 (C.2.2.2.2.2.1.trans hrt) hrt2 (Or.inr ⟨_, rfl⟩) (fun t ht hW => ⟨some (.ref a), h, sz, rfl, hq, by rw [ht]; exact hr.1, by rw [ht]; exact hr.2.1, fun q hq => by rw [ht]; exact hr.2.2.2.2 q hq⟩) hr.2.2.2.1 hd C.2.2.2.2.2.2.1
theorem zNw_b {own ref name desc host : String} {index : Nat} {s : State} {d : Drawn} {args : Array Value} (h : va_Nw (.fieldLinkNest own index ref name desc host) s) : (Cond.fieldLinkNest own index ref name desc host).before args (s.setDrawn d) = true := va_Nw.use rfl (va_Nw.same rfl (show s.vm = (s.setDrawn d).vm from rfl) h)
theorem V_get {a index ci k : Nat} {fs : List Value} {v : Value} (hd : decode Y.2.1 pc = .ok (.getfield index, 3)) (hw : ZF Y.1.cls index ci k) (he : h a = some (.inl (ci, fs))) (hv : fs[k]? = some v) (kk : V z Y R Q (pc + 3) L (v :: st) h sz kc nc) : V z Y R Q pc L (.ref a :: st) h sz kc nc := by
  intro p e s m args below meth c d0 H locs ls C hd0 hL hr
  obtain ⟨C', T, N, h1, h2, h3, h4⟩ := hw
  have hP : va_P z.2.2.1 vwCl [(z.2.1 + a, ze z (.inl (ci, fs)))] H := fun j q hq => by
    cases j with
    | zero => cases hq; exact hr.1 a _ he
    | succ j => simp at hq
  refine va_get (D := z.2.2.1) (cl := vwCl) (tys := zty z) (ws := [(z.2.1 + a, ze z (.inl (ci, fs)))]) (a := z.2.1 + a) (own := Y.1.cls) (ref := (T k).1) (C := C') (T := T) (N := N) (ci := ci) (Ts := gw) (fs := fs.map (shv z.2.1)) (v := shv z.2.1 v) C.1 C.2.1 (dr_words C.2.2.2.2.1 d0) h3 C.2.2.2.1 C.2.2.2.2.2.2.2.2.1 hP 0 rfl h1 k h2 (dr_words C.2.2.2.2.1 d0 _ h4) (fun _ h9 => h9) (by rw [List.getElem?_map, hv]; rfl) hd ?_
  exact kk p e s m args below meth c d0 H locs ls C hd0 hL hr
theorem V_getN {a index ci k : Nat} {fs : List Value} {v : Value} (hd : decode Y.2.1 pc = .ok (.getfield index, 3)) (hw : ZFN Y.1.cls index ci k) (he : h a = some (.inl (ci, fs))) (hv : fs[k]? = some v) (kk : V z Y R Q (pc + 3) L (v :: st) h sz kc nc) : V z Y R Q pc L (.ref a :: st) h sz kc nc := by
  intro p e s m args below meth c d0 H locs ls C hd0 hL hr
  obtain ⟨C', T, N, host, h1, h2, h3, h4⟩ := hw
  have hP : va_P z.2.2.1 vwCl [(z.2.1 + a, ze z (.inl (ci, fs)))] H := fun j q hq => by
    cases j with
    | zero => cases hq; exact hr.1 a _ he
    | succ j => simp at hq
  refine va_getN (D := z.2.2.1) (cl := vwCl) (tys := zty z) (ws := [(z.2.1 + a, ze z (.inl (ci, fs)))]) (a := z.2.1 + a) (own := Y.1.cls) (ref := (T k).1) (host := host) (C := C') (T := T) (N := N) (ci := ci) (Ts := gw) (fs := fs.map (shv z.2.1)) (v := shv z.2.1 v) C.1 C.2.1 (dr_words C.2.2.2.2.1 d0) h3 C.2.2.2.1 C.2.2.2.2.2.2.2.2.1 hP 0 rfl h1 k h2 (zNw_b (C.2.2.2.2.2.2.2.2.2.1.1 _ h4)) (fun _ h9 => h9) (by rw [List.getElem?_map, hv]; rfl) hd ?_
  exact kk p e s m args below meth c d0 H locs ls C hd0 hL hr
theorem shv_nar {b : Nat} {ty : FieldType} {v : Value} (h : narrow ty v = v) : narrow ty (shv b v) = shv b v := by
  cases v <;> first | exact h | (cases ty <;> rfl)
theorem shv_fit {b : Nat} {ty : FieldType} {v : Value} (h : fits ty v = true) : fits ty (shv b v) = true := by
  cases v <;> first | exact h | (cases ty <;> first | rfl | exact h | cases h)
theorem hp.put {z : ZG} {h : AH} {H H1 : Heap} {a ci k fsl : Nat} {fs : List Value} {C' : String} {T : u_T} {N : Nat} {v : Value} {cell : Cell} (hh : hp z h H) (h1 : vwCl[ci]? = some (C', T, N)) (hk : k < N) (hap : ∀ x y, x < N → y < N → x ≠ y → (z.2.2.1.2 ci) x ≠ (z.2.2.1.2 ci) y)
    (hsl : z.2.2.1.2 ci k = fsl) (q2 : cell.cls = z.2.2.1.1 ci) (q3 : cell.vm = .none) (q4 : ∀ k, k < N → cell.slots[z.2.2.1.2 ci k]? = some (vp_V (fs.map (shv z.2.1)) k)) (hl : k < fs.length)
    (e1 : H1[z.2.1 + a]? = some (cell.setSlot fsl (shv z.2.1 v))) (oq : ∀ q : Nat, q ≠ z.2.1 + a → H1[q]? = H[q]?) : hp z (hset h a (.inl (ci, fs.set k v))) H1 := by
  subst hsl
  refine hh.set ⟨_, h1, t_OB.to (V := updV (vp_V (fs.map (shv z.2.1))) k (shv z.2.1 v)) ⟨_, e1, q2, q3, t_set q4 hap hk _⟩ (fun j _ => ?_)⟩ oq
  rw [vp_updV_set (by simpa using hl), ← List.map_set]
theorem zr.put {z : ZG} {s : State} {L : AL} {h h' : AH} {sz : Nat} {H H1 : Heap} {locs : List Loc} {ls : Array Slot} {a k : Nat} (hr : zr z s L h sz H locs ls) (hh : hp z h' H1) (e2 : H1.size = H.size) (oq : ∀ q : Nat, q ≠ z.2.1 + a → H1[q]? = H[q]?) : zr z s L h' sz H1 (locs ++ [⟨z.2.1 + a, k⟩]) ls := by
  refine ⟨hh, by rw [e2]; exact hr.2.1, hr.2.2.1, fun q hq => ?_, fun q hq => by rw [oq q (by omega)]; exact hr.2.2.2.2 q hq⟩
  rcases List.mem_append.mp hq with g | g
  · exact hr.2.2.2.1 q g
  · rw [List.mem_singleton.mp g]; exact Nat.le_add_right _ _
theorem V_iadd {x y : Int32} (hd : decode Y.2.1 pc = .ok (.iadd, 1)) (kk : V z Y R Q (pc + 1) L (.int (x + y) :: st) h sz kc nc) : V z Y R Q pc L (.int y :: .int x :: st) h sz kc nc := fun p e s m args below meth c d0 H locs ls C hd0 hL hr => lv_iadd C.1 C.2.1 hd (kk p e s m args below meth c d0 H locs ls C hd0 hL hr)
theorem V_isub {x y : Int32} (hd : decode Y.2.1 pc = .ok (.isub, 1)) (kk : V z Y R Q (pc + 1) L (.int (x - y) :: st) h sz kc nc) : V z Y R Q pc L (.int y :: .int x :: st) h sz kc nc := fun p e s m args below meth c d0 H locs ls C hd0 hL hr => lv_isub C.1 C.2.1 hd (kk p e s m args below meth c d0 H locs ls C hd0 hL hr)
theorem V_imul {x y : Int32} (hd : decode Y.2.1 pc = .ok (.imul, 1)) (kk : V z Y R Q (pc + 1) L (.int (x * y) :: st) h sz kc nc) : V z Y R Q pc L (.int y :: .int x :: st) h sz kc nc := fun p e s m args below meth c d0 H locs ls C hd0 hL hr => lv_imul C.1 C.2.1 hd (kk p e s m args below meth c d0 H locs ls C hd0 hL hr)
theorem V_iand {x y : Int32} (hd : decode Y.2.1 pc = .ok (.iand, 1)) (kk : V z Y R Q (pc + 1) L (.int (x &&& y) :: st) h sz kc nc) : V z Y R Q pc L (.int y :: .int x :: st) h sz kc nc := fun p e s m args below meth c d0 H locs ls C hd0 hL hr => lv_iand C.1 C.2.1 hd (kk p e s m args below meth c d0 H locs ls C hd0 hL hr)
theorem V_ior {x y : Int32} (hd : decode Y.2.1 pc = .ok (.ior, 1)) (kk : V z Y R Q (pc + 1) L (.int (x ||| y) :: st) h sz kc nc) : V z Y R Q pc L (.int y :: .int x :: st) h sz kc nc := fun p e s m args below meth c d0 H locs ls C hd0 hL hr => lv_ior C.1 C.2.1 hd (kk p e s m args below meth c d0 H locs ls C hd0 hL hr)
theorem V_ixor {x y : Int32} (hd : decode Y.2.1 pc = .ok (.ixor, 1)) (kk : V z Y R Q (pc + 1) L (.int (x ^^^ y) :: st) h sz kc nc) : V z Y R Q pc L (.int y :: .int x :: st) h sz kc nc := fun p e s m args below meth c d0 H locs ls C hd0 hL hr => lv_ixor C.1 C.2.1 hd (kk p e s m args below meth c d0 H locs ls C hd0 hL hr)
theorem V_idiv {x y : Int32} (hd : decode Y.2.1 pc = .ok (.idiv, 1)) (hn : ¬ y = 0) (kk : V z Y R Q (pc + 1) L (.int (x / y) :: st) h sz kc nc) : V z Y R Q pc L (.int y :: .int x :: st) h sz kc nc := fun p e s m args below meth c d0 H locs ls C hd0 hL hr => lv_idiv C.1 C.2.1 hd hn (kk p e s m args below meth c d0 H locs ls C hd0 hL hr)
theorem V_irem {x y : Int32} (hd : decode Y.2.1 pc = .ok (.irem, 1)) (hn : ¬ y = 0) (kk : V z Y R Q (pc + 1) L (.int (x - x / y * y) :: st) h sz kc nc) : V z Y R Q pc L (.int y :: .int x :: st) h sz kc nc := fun p e s m args below meth c d0 H locs ls C hd0 hL hr => lv_irem C.1 C.2.1 hd hn (kk p e s m args below meth c d0 H locs ls C hd0 hL hr)
theorem V_ishl {x y : Int32} (hd : decode Y.2.1 pc = .ok (.ishl, 1)) (kk : V z Y R Q (pc + 1) L (.int (x <<< (y &&& 31)) :: st) h sz kc nc) : V z Y R Q pc L (.int y :: .int x :: st) h sz kc nc := fun p e s m args below meth c d0 H locs ls C hd0 hL hr => lv_ishl C.1 C.2.1 hd (kk p e s m args below meth c d0 H locs ls C hd0 hL hr)
theorem V_ladd {x y : Int64} (hd : decode Y.2.1 pc = .ok (.ladd, 1)) (kk : V z Y R Q (pc + 1) L (.long (x + y) :: st) h sz kc nc) : V z Y R Q pc L (.long y :: .long x :: st) h sz kc nc := fun p e s m args below meth c d0 H locs ls C hd0 hL hr => lv_ladd C.1 C.2.1 hd (kk p e s m args below meth c d0 H locs ls C hd0 hL hr)
theorem V_lsub {x y : Int64} (hd : decode Y.2.1 pc = .ok (.lsub, 1)) (kk : V z Y R Q (pc + 1) L (.long (x - y) :: st) h sz kc nc) : V z Y R Q pc L (.long y :: .long x :: st) h sz kc nc := fun p e s m args below meth c d0 H locs ls C hd0 hL hr => lv_lsub C.1 C.2.1 hd (kk p e s m args below meth c d0 H locs ls C hd0 hL hr)
theorem V_lmul {x y : Int64} (hd : decode Y.2.1 pc = .ok (.lmul, 1)) (kk : V z Y R Q (pc + 1) L (.long (x * y) :: st) h sz kc nc) : V z Y R Q pc L (.long y :: .long x :: st) h sz kc nc := fun p e s m args below meth c d0 H locs ls C hd0 hL hr => lv_lmul C.1 C.2.1 hd (kk p e s m args below meth c d0 H locs ls C hd0 hL hr)
theorem V_lcmp {x y : Int64} (hd : decode Y.2.1 pc = .ok (.lcmp, 1)) (kk : V z Y R Q (pc + 1) L (.int (lg_cmp x y) :: st) h sz kc nc) : V z Y R Q pc L (.long y :: .long x :: st) h sz kc nc := fun p e s m args below meth c d0 H locs ls C hd0 hL hr => W.lcmp C.1 C.2.1 hd (kk p e s m args below meth c d0 H locs ls C hd0 hL hr)
theorem V_i2l {x : Int32} (hd : decode Y.2.1 pc = .ok (.i2l, 1)) (kk : V z Y R Q (pc + 1) L (.long x.toInt64 :: st) h sz kc nc) : V z Y R Q pc L (.int x :: st) h sz kc nc := fun p e s m args below meth c d0 H locs ls C hd0 hL hr => lv_i2l C.1 C.2.1 hd rfl (kk p e s m args below meth c d0 H locs ls C hd0 hL hr)
theorem V_l2i {x : Int64} (hd : decode Y.2.1 pc = .ok (.l2i, 1)) (kk : V z Y R Q (pc + 1) L (.int x.toInt32 :: st) h sz kc nc) : V z Y R Q pc L (.long x :: st) h sz kc nc := fun p e s m args below meth c d0 H locs ls C hd0 hL hr => lv_l2i C.1 C.2.1 hd rfl (kk p e s m args below meth c d0 H locs ls C hd0 hL hr)
theorem V_i2f {x : Int32} (hd : decode Y.2.1 pc = .ok (.i2f, 1)) (kk : V z Y R Q (pc + 1) L (.float (FP.i2f x) :: st) h sz kc nc) : V z Y R Q pc L (.int x :: st) h sz kc nc := fun p e s m args below meth c d0 H locs ls C hd0 hL hr => lv_i2f C.1 C.2.1 hd (kk p e s m args below meth c d0 H locs ls C hd0 hL hr)
theorem V_f2i {x : UInt32} (hd : decode Y.2.1 pc = .ok (.f2i, 1)) (kk : V z Y R Q (pc + 1) L (.int (FP.f2i x) :: st) h sz kc nc) : V z Y R Q pc L (.float x :: st) h sz kc nc := fun p e s m args below meth c d0 H locs ls C hd0 hL hr => lv_f2i C.1 C.2.1 hd (kk p e s m args below meth c d0 H locs ls C hd0 hL hr)
theorem V_fcmp {x y : UInt32} {op : CmpOp} (hd : decode Y.2.1 pc = .ok (.fcmp op, 1)) (kk : V z Y R Q (pc + 1) L (.int (Op.cmpValue (FP.fcmp x y) op) :: st) h sz kc nc) : V z Y R Q pc L (.float y :: .float x :: st) h sz kc nc := fun p e s m args below meth c d0 H locs ls C hd0 hL hr => lv_fcmp C.1 C.2.1 hd (kk p e s m args below meth c d0 H locs ls C hd0 hL hr)
theorem V_fadd {x y : UInt32} (hd : decode Y.2.1 pc = .ok (.fadd, 1)) (kk : ∀ r : UInt32, alike32 r (FP.fadd x y) = true → V z Y R Q (pc + 1) L (.float r :: st) h sz kc nc) : V z Y R Q pc L (.float y :: .float x :: st) h sz kc nc := fun p e s m args below meth c d0 H locs ls C hd0 hL hr => lv_fadd_any hd0 lw_bits C.1 C.2.1 hd (fun r d1 hal hd1 => kk r hal p e s m args below meth c d1 H locs ls C hd1 hL hr)
theorem V_fsub {x y : UInt32} (hd : decode Y.2.1 pc = .ok (.fsub, 1)) (kk : ∀ r : UInt32, alike32 r (FP.fsub x y) = true → V z Y R Q (pc + 1) L (.float r :: st) h sz kc nc) : V z Y R Q pc L (.float y :: .float x :: st) h sz kc nc := fun p e s m args below meth c d0 H locs ls C hd0 hL hr => lv_fsub_any hd0 lw_bits C.1 C.2.1 hd (fun r d1 hal hd1 => kk r hal p e s m args below meth c d1 H locs ls C hd1 hL hr)
theorem V_fmul {x y : UInt32} (hd : decode Y.2.1 pc = .ok (.fmul, 1)) (kk : ∀ r : UInt32, alike32 r (FP.fmul x y) = true → V z Y R Q (pc + 1) L (.float r :: st) h sz kc nc) : V z Y R Q pc L (.float y :: .float x :: st) h sz kc nc := fun p e s m args below meth c d0 H locs ls C hd0 hL hr => lv_fmul_any hd0 lw_bits C.1 C.2.1 hd (fun r d1 hal hd1 => kk r hal p e s m args below meth c d1 H locs ls C hd1 hL hr)
theorem V_fdiv {x y : UInt32} (hd : decode Y.2.1 pc = .ok (.fdiv, 1)) (kk : ∀ r : UInt32, alike32 r (FP.fdiv x y) = true → V z Y R Q (pc + 1) L (.float r :: st) h sz kc nc) : V z Y R Q pc L (.float y :: .float x :: st) h sz kc nc := fun p e s m args below meth c d0 H locs ls C hd0 hL hr => lv_fdiv_any hd0 lw_bits C.1 C.2.1 hd (fun r d1 hal hd1 => kk r hal p e s m args below meth c d1 H locs ls C hd1 hL hr)
theorem V_iconst {n : Int} (hd : decode Y.2.1 pc = .ok (.iconst n, 1)) (kk : V z Y R Q (pc + 1) L (.int (Int32.ofInt n) :: st) h sz kc nc) : V z Y R Q pc L (st) h sz kc nc := fun p e s m args below meth c d0 H locs ls C hd0 hL hr => lv_iconst C.1 C.2.1 hd rfl (kk p e s m args below meth c d0 H locs ls C hd0 hL hr)
theorem V_bipush {n : Int} (hd : decode Y.2.1 pc = .ok (.bipush n, 2)) (kk : V z Y R Q (pc + 2) L (.int (Int8.ofInt n).toInt32 :: st) h sz kc nc) : V z Y R Q pc L (st) h sz kc nc := fun p e s m args below meth c d0 H locs ls C hd0 hL hr => lv_bipush C.1 C.2.1 hd rfl (kk p e s m args below meth c d0 H locs ls C hd0 hL hr)
theorem V_sipush {n : Int} (hd : decode Y.2.1 pc = .ok (.sipush n, 3)) (kk : V z Y R Q (pc + 3) L (.int (Int16.ofInt n).toInt32 :: st) h sz kc nc) : V z Y R Q pc L (st) h sz kc nc := fun p e s m args below meth c d0 H locs ls C hd0 hL hr => lv_sipush C.1 C.2.1 hd rfl (kk p e s m args below meth c d0 H locs ls C hd0 hL hr)
theorem V_lconst {n : Fin 2} (hd : decode Y.2.1 pc = .ok (.lconst n, 1)) (kk : V z Y R Q (pc + 1) L (.long (Int64.ofNat (n : Nat)) :: st) h sz kc nc) : V z Y R Q pc L (st) h sz kc nc := fun p e s m args below meth c d0 H locs ls C hd0 hL hr => lv_lconst C.1 C.2.1 hd rfl (kk p e s m args below meth c d0 H locs ls C hd0 hL hr)
theorem V_null (hd : decode Y.2.1 pc = .ok (.aconst_null, 1)) (kk : V z Y R Q (pc + 1) L (.null :: st) h sz kc nc) : V z Y R Q pc L (st) h sz kc nc := fun p e s m args below meth c d0 H locs ls C hd0 hL hr => lv_null C.1 C.2.1 hd (kk p e s m args below meth c d0 H locs ls C hd0 hL hr)
theorem V_fconst0 (hd : decode Y.2.1 pc = .ok (.fconst 0, 1)) (kk : V z Y R Q (pc + 1) L (.float FP.fconst0 :: st) h sz kc nc) : V z Y R Q pc L (st) h sz kc nc := fun p e s m args below meth c d0 H locs ls C hd0 hL hr => lv_fconst0 C.1 C.2.1 hd (kk p e s m args below meth c d0 H locs ls C hd0 hL hr)
theorem V_fconst1 (hd : decode Y.2.1 pc = .ok (.fconst 1, 1)) (kk : V z Y R Q (pc + 1) L (.float FP.fconst1 :: st) h sz kc nc) : V z Y R Q pc L (st) h sz kc nc := fun p e s m args below meth c d0 H locs ls C hd0 hL hr => lv_fconst1 C.1 C.2.1 hd (kk p e s m args below meth c d0 H locs ls C hd0 hL hr)
theorem V_fconst2 (hd : decode Y.2.1 pc = .ok (.fconst 2, 1)) (kk : V z Y R Q (pc + 1) L (.float FP.fconst2 :: st) h sz kc nc) : V z Y R Q pc L (st) h sz kc nc := fun p e s m args below meth c d0 H locs ls C hd0 hL hr => lv_fconst2 C.1 C.2.1 hd (kk p e s m args below meth c d0 H locs ls C hd0 hL hr)
theorem V_ldc {i : Nat} {v : Int32} (hd : decode Y.2.1 pc = .ok (.ldc i, 2)) (hw : Cond.constant Y.1.cls i v ∈ gw) (kk : V z Y R Q (pc + 2) L (.int v :: st) h sz kc nc) : V z Y R Q pc L (st) h sz kc nc := fun p e s m args below meth c d0 H locs ls C hd0 hL hr => lv_ldc C.1 C.2.1 C.2.2.2.1 (dr_words C.2.2.2.2.1 d0 _ hw) hd (kk p e s m args below meth c d0 H locs ls C hd0 hL hr)
theorem V_ldcf {i : Nat} {v : UInt32} (hd : decode Y.2.1 pc = .ok (.ldc i, 2)) (hw : Cond.constantFloat Y.1.cls i v ∈ gw) (kk : V z Y R Q (pc + 2) L (.float v :: st) h sz kc nc) : V z Y R Q pc L (st) h sz kc nc := fun p e s m args below meth c d0 H locs ls C hd0 hL hr => lv_ldcf C.1 C.2.1 C.2.2.2.1 (dr_words C.2.2.2.2.1 d0 _ hw) hd (kk p e s m args below meth c d0 H locs ls C hd0 hL hr)
theorem V_ldc2 {i : Nat} {v : Int64} (hd : decode Y.2.1 pc = .ok (.ldc2_w i, 3)) (hw : Cond.constantLong Y.1.cls i v ∈ gw) (kk : V z Y R Q (pc + 3) L (.long v :: st) h sz kc nc) : V z Y R Q pc L (st) h sz kc nc := fun p e s m args below meth c d0 H locs ls C hd0 hL hr => lv_ldc2 C.1 C.2.1 C.2.2.2.1 (dr_words C.2.2.2.2.1 d0 _ hw) hd (kk p e s m args below meth c d0 H locs ls C hd0 hL hr)
theorem V_iload_n {k : Fin 4} {x : Int32} (hd : decode Y.2.1 pc = .ok (.iload_n k, 1)) (hl : L[(k : Nat)]? = some (some (.int x))) (kk : V z Y R Q (pc + 1) L (.int x :: st) h sz kc nc) : V z Y R Q pc L (st) h sz kc nc := fun p e s m args below meth c d0 H locs ls C hd0 hL hr => lv_iload_n C.1 C.2.1 hd rfl (zl_at hr.2.2.1 hl) (kk p e s m args below meth c d0 H locs ls C hd0 hL hr)
theorem V_iload {i : Nat} {x : Int32} (hd : decode Y.2.1 pc = .ok (.iload i, 2)) (hl : L[i]? = some (some (.int x))) (kk : V z Y R Q (pc + 2) L (.int x :: st) h sz kc nc) : V z Y R Q pc L (st) h sz kc nc := fun p e s m args below meth c d0 H locs ls C hd0 hL hr => lv_iload C.1 C.2.1 hd (zl_at hr.2.2.1 hl) (kk p e s m args below meth c d0 H locs ls C hd0 hL hr)
theorem V_lload_n {k : Fin 4} {x : Int64} (hd : decode Y.2.1 pc = .ok (.lload_n k, 1)) (hl : L[(k : Nat)]? = some (some (.long x))) (kk : V z Y R Q (pc + 1) L (.long x :: st) h sz kc nc) : V z Y R Q pc L (st) h sz kc nc := fun p e s m args below meth c d0 H locs ls C hd0 hL hr => lv_lload_n C.1 C.2.1 hd rfl (zl_at hr.2.2.1 hl) (kk p e s m args below meth c d0 H locs ls C hd0 hL hr)
theorem V_lload {i : Nat} {x : Int64} (hd : decode Y.2.1 pc = .ok (.lload i, 2)) (hl : L[i]? = some (some (.long x))) (kk : V z Y R Q (pc + 2) L (.long x :: st) h sz kc nc) : V z Y R Q pc L (st) h sz kc nc := fun p e s m args below meth c d0 H locs ls C hd0 hL hr => lv_lload C.1 C.2.1 hd (zl_at hr.2.2.1 hl) (kk p e s m args below meth c d0 H locs ls C hd0 hL hr)
theorem V_fload_n {k : Fin 4} {x : UInt32} (hd : decode Y.2.1 pc = .ok (.fload_n k, 1)) (hl : L[(k : Nat)]? = some (some (.float x))) (kk : V z Y R Q (pc + 1) L (.float x :: st) h sz kc nc) : V z Y R Q pc L (st) h sz kc nc := fun p e s m args below meth c d0 H locs ls C hd0 hL hr => lv_fload_n C.1 C.2.1 hd rfl (zl_at hr.2.2.1 hl) (kk p e s m args below meth c d0 H locs ls C hd0 hL hr)
theorem V_fload {i : Nat} {x : UInt32} (hd : decode Y.2.1 pc = .ok (.fload i, 2)) (hl : L[i]? = some (some (.float x))) (kk : V z Y R Q (pc + 2) L (.float x :: st) h sz kc nc) : V z Y R Q pc L (st) h sz kc nc := fun p e s m args below meth c d0 H locs ls C hd0 hL hr => lv_fload C.1 C.2.1 hd (zl_at hr.2.2.1 hl) (kk p e s m args below meth c d0 H locs ls C hd0 hL hr)
theorem V_aload_n {k : Fin 4} {x : Nat} (hd : decode Y.2.1 pc = .ok (.aload_n k, 1)) (hl : L[(k : Nat)]? = some (some (.ref x))) (kk : V z Y R Q (pc + 1) L (.ref x :: st) h sz kc nc) : V z Y R Q pc L (st) h sz kc nc := fun p e s m args below meth c d0 H locs ls C hd0 hL hr => lv_aload_n C.1 C.2.1 hd rfl (zl_at hr.2.2.1 hl) (kk p e s m args below meth c d0 H locs ls C hd0 hL hr)
theorem V_aload {i : Nat} {x : Nat} (hd : decode Y.2.1 pc = .ok (.aload i, 2)) (hl : L[i]? = some (some (.ref x))) (kk : V z Y R Q (pc + 2) L (.ref x :: st) h sz kc nc) : V z Y R Q pc L (st) h sz kc nc := fun p e s m args below meth c d0 H locs ls C hd0 hL hr => lv_aload C.1 C.2.1 hd (zl_at hr.2.2.1 hl) (kk p e s m args below meth c d0 H locs ls C hd0 hL hr)
theorem V_aload_nN {k : Fin 4} (hd : decode Y.2.1 pc = .ok (.aload_n k, 1)) (hl : L[(k : Nat)]? = some (some .null)) (kk : V z Y R Q (pc + 1) L (.null :: st) h sz kc nc) : V z Y R Q pc L (st) h sz kc nc := fun p e s m args below meth c d0 H locs ls C hd0 hL hr => lv_aload_nN C.1 C.2.1 hd rfl (zl_at hr.2.2.1 hl) (kk p e s m args below meth c d0 H locs ls C hd0 hL hr)
theorem V_istore_n {k : Fin 4} {x : Int32} (hd : decode Y.2.1 pc = .ok (.istore_n k, 1)) (hi : (k : Nat) < L.length) (kk : V z Y R Q (pc + 1) (zp1 L (k : Nat) (.int x)) st h sz kc nc) : V z Y R Q pc L (.int x :: st) h sz kc nc := fun p e s m args below meth c d0 H locs ls C hd0 hL hr => lv_istore_n C.1 C.2.1 hd rfl hr.2.2.1 hi rfl (fun ls2 hl2 => kk p e s m args below meth c d0 H locs ls2 C hd0 (by rw [zp1_len]; exact hL) ⟨hr.1, hr.2.1, zl_p1 hl2, hr.2.2.2⟩)
theorem V_istore {i : Nat} {x : Int32} (hd : decode Y.2.1 pc = .ok (.istore i, 2)) (hi : i < L.length) (kk : V z Y R Q (pc + 2) (zp1 L i (.int x)) st h sz kc nc) : V z Y R Q pc L (.int x :: st) h sz kc nc := fun p e s m args below meth c d0 H locs ls C hd0 hL hr => lv_istore C.1 C.2.1 hd hr.2.2.1 hi rfl (fun ls2 hl2 => kk p e s m args below meth c d0 H locs ls2 C hd0 (by rw [zp1_len]; exact hL) ⟨hr.1, hr.2.1, zl_p1 hl2, hr.2.2.2⟩)
theorem V_fstore_n {k : Fin 4} {x : UInt32} (hd : decode Y.2.1 pc = .ok (.fstore_n k, 1)) (hi : (k : Nat) < L.length) (kk : V z Y R Q (pc + 1) (zp1 L (k : Nat) (.float x)) st h sz kc nc) : V z Y R Q pc L (.float x :: st) h sz kc nc := fun p e s m args below meth c d0 H locs ls C hd0 hL hr => lv_fstore_n C.1 C.2.1 hd rfl hr.2.2.1 hi rfl (fun ls2 hl2 => kk p e s m args below meth c d0 H locs ls2 C hd0 (by rw [zp1_len]; exact hL) ⟨hr.1, hr.2.1, zl_p1 hl2, hr.2.2.2⟩)
theorem V_fstore {i : Nat} {x : UInt32} (hd : decode Y.2.1 pc = .ok (.fstore i, 2)) (hi : i < L.length) (kk : V z Y R Q (pc + 2) (zp1 L i (.float x)) st h sz kc nc) : V z Y R Q pc L (.float x :: st) h sz kc nc := fun p e s m args below meth c d0 H locs ls C hd0 hL hr => lv_fstore C.1 C.2.1 hd hr.2.2.1 hi rfl (fun ls2 hl2 => kk p e s m args below meth c d0 H locs ls2 C hd0 (by rw [zp1_len]; exact hL) ⟨hr.1, hr.2.1, zl_p1 hl2, hr.2.2.2⟩)
theorem V_astore_n {k : Fin 4} {x : Nat} (hd : decode Y.2.1 pc = .ok (.astore_n k, 1)) (hi : (k : Nat) < L.length) (kk : V z Y R Q (pc + 1) (zp1 L (k : Nat) (.ref x)) st h sz kc nc) : V z Y R Q pc L (.ref x :: st) h sz kc nc := fun p e s m args below meth c d0 H locs ls C hd0 hL hr => lv_astore_n C.1 C.2.1 hd rfl hr.2.2.1 hi rfl (fun ls2 hl2 => kk p e s m args below meth c d0 H locs ls2 C hd0 (by rw [zp1_len]; exact hL) ⟨hr.1, hr.2.1, zl_p1 hl2, hr.2.2.2⟩)
theorem V_astore {i : Nat} {x : Nat} (hd : decode Y.2.1 pc = .ok (.astore i, 2)) (hi : i < L.length) (kk : V z Y R Q (pc + 2) (zp1 L i (.ref x)) st h sz kc nc) : V z Y R Q pc L (.ref x :: st) h sz kc nc := fun p e s m args below meth c d0 H locs ls C hd0 hL hr => lv_astore C.1 C.2.1 hd hr.2.2.1 hi rfl (fun ls2 hl2 => kk p e s m args below meth c d0 H locs ls2 C hd0 (by rw [zp1_len]; exact hL) ⟨hr.1, hr.2.1, zl_p1 hl2, hr.2.2.2⟩)
theorem V_lstore_n {k : Fin 4} {x : Int64} (hd : decode Y.2.1 pc = .ok (.lstore_n k, 1)) (hi : (k : Nat) + 1 < L.length) (kk : V z Y R Q (pc + 1) (zp2 L (k : Nat) (.long x)) st h sz kc nc) : V z Y R Q pc L (.long x :: st) h sz kc nc := fun p e s m args below meth c d0 H locs ls C hd0 hL hr => lv_lstore_n C.1 C.2.1 hd rfl hr.2.2.1 hi rfl (fun ls2 hl2 => kk p e s m args below meth c d0 H locs ls2 C hd0 (by rw [zp2_len L _ _ hi]; exact hL) ⟨hr.1, hr.2.1, zl_p2 hi hl2, hr.2.2.2⟩)
theorem V_lstore {i : Nat} {x : Int64} (hd : decode Y.2.1 pc = .ok (.lstore i, 2)) (hi : i + 1 < L.length) (kk : V z Y R Q (pc + 2) (zp2 L i (.long x)) st h sz kc nc) : V z Y R Q pc L (.long x :: st) h sz kc nc := fun p e s m args below meth c d0 H locs ls C hd0 hL hr => lv_lstore C.1 C.2.1 hd hr.2.2.1 hi rfl (fun ls2 hl2 => kk p e s m args below meth c d0 H locs ls2 C hd0 (by rw [zp2_len L _ _ hi]; exact hL) ⟨hr.1, hr.2.1, zl_p2 hi hl2, hr.2.2.2⟩)
theorem V_iinc {i : Nat} {n : Int} {x : Int32} (hd : decode Y.2.1 pc = .ok (.iinc i n, 3)) (hl : L[i]? = some (some (.int x))) (kk : V z Y R Q (pc + 3) (zp1 L i (.int (x + Int32.ofInt n))) st h sz kc nc) : V z Y R Q pc L st h sz kc nc := by
  intro p e s m args below meth c d0 H locs ls C hd0 hL hr
  have hi : i < L.length := (List.getElem?_eq_some_iff.mp hl).1
  obtain ⟨k, hk⟩ := List.getElem?_of_mem ((zls_mem z.2.1 L 0 (i, .int x)).mpr ⟨i, .int x, hl, by rw [Nat.zero_add]; rfl⟩)
  exact lv_iinc C.1 C.2.1 hd hr.2.2.1 hk rfl hi rfl (fun ls2 hl2 => kk p e s m args below meth c d0 H locs ls2 C hd0 (by rw [zp1_len]; exact hL) ⟨hr.1, hr.2.1, zl_p1 hl2, hr.2.2.2⟩)
theorem V_dup {v : Value} (hd : decode Y.2.1 pc = .ok (.dup, 1)) (hv : v.category = 1) (kk : V z Y R Q (pc + 1) L (v :: v :: st) h sz kc nc) : V z Y R Q pc L (v :: st) h sz kc nc := fun p e s m args below meth c d0 H locs ls C hd0 hL hr => lv_dup C.1 C.2.1 hd (by rw [shv_cat]; exact hv) (kk p e s m args below meth c d0 H locs ls C hd0 hL hr)
theorem V_pop {v : Value} (hd : decode Y.2.1 pc = .ok (.pop, 1)) (hv : v.category = 1) (kk : V z Y R Q (pc + 1) L (st) h sz kc nc) : V z Y R Q pc L (v :: st) h sz kc nc := fun p e s m args below meth c d0 H locs ls C hd0 hL hr => lv_pop C.1 C.2.1 hd (by rw [shv_cat]; exact hv) (kk p e s m args below meth c d0 H locs ls C hd0 hL hr)
theorem V_dup2 {v w : Value} (hd : decode Y.2.1 pc = .ok (.dup2, 1)) (hv : v.category = 1) (hw : w.category = 1) (kk : V z Y R Q (pc + 1) L (v :: w :: v :: w :: st) h sz kc nc) : V z Y R Q pc L (v :: w :: st) h sz kc nc := fun p e s m args below meth c d0 H locs ls C hd0 hL hr => lv_dup2_11 C.1 C.2.1 hd (by rw [shv_cat]; exact hv) (by rw [shv_cat]; exact hw) (kk p e s m args below meth c d0 H locs ls C hd0 hL hr)
theorem V_dup_x1 {v w : Value} (hd : decode Y.2.1 pc = .ok (.dup_x1, 1)) (hv : v.category = 1) (hw : w.category = 1) (kk : V z Y R Q (pc + 1) L (v :: w :: v :: st) h sz kc nc) : V z Y R Q pc L (v :: w :: st) h sz kc nc := fun p e s m args below meth c d0 H locs ls C hd0 hL hr => lv_dup_x1 C.1 C.2.1 hd (by rw [shv_cat]; exact hv) (by rw [shv_cat]; exact hw) (kk p e s m args below meth c d0 H locs ls C hd0 hL hr)
theorem V_if_eq {x : Int32} {off : Int} {tgt : Nat} (hd : decode Y.2.1 pc = .ok (.ifCond .eq off, 3)) (ht : (pc : Int) + off = (tgt : Int)) (kt : x = 0 → V z Y R Q tgt L st h sz kc nc) (kf : ¬ x = 0 → V z Y R Q (pc + 3) L st h sz kc nc) : V z Y R Q pc L (.int x :: st) h sz kc nc := fun p e s m args below meth c d0 H locs ls C hd0 hL hr => lv_if_eq C.1 C.2.1 hd ht (fun g => kt g p e s m args below meth c d0 H locs ls C hd0 hL hr) (fun g => kf g p e s m args below meth c d0 H locs ls C hd0 hL hr)
theorem V_if_ne {x : Int32} {off : Int} {tgt : Nat} (hd : decode Y.2.1 pc = .ok (.ifCond .ne off, 3)) (ht : (pc : Int) + off = (tgt : Int)) (kt : ¬ x = 0 → V z Y R Q tgt L st h sz kc nc) (kf : x = 0 → V z Y R Q (pc + 3) L st h sz kc nc) : V z Y R Q pc L (.int x :: st) h sz kc nc := fun p e s m args below meth c d0 H locs ls C hd0 hL hr => lv_if_ne C.1 C.2.1 hd ht (fun g => kt g p e s m args below meth c d0 H locs ls C hd0 hL hr) (fun g => kf g p e s m args below meth c d0 H locs ls C hd0 hL hr)
theorem V_if_lt {x : Int32} {off : Int} {tgt : Nat} (hd : decode Y.2.1 pc = .ok (.ifCond .lt off, 3)) (ht : (pc : Int) + off = (tgt : Int)) (kt : x < 0 → V z Y R Q tgt L st h sz kc nc) (kf : ¬ x < 0 → V z Y R Q (pc + 3) L st h sz kc nc) : V z Y R Q pc L (.int x :: st) h sz kc nc := fun p e s m args below meth c d0 H locs ls C hd0 hL hr => lv_if_lt C.1 C.2.1 hd ht (fun g => kt g p e s m args below meth c d0 H locs ls C hd0 hL hr) (fun g => kf g p e s m args below meth c d0 H locs ls C hd0 hL hr)
theorem V_if_ge {x : Int32} {off : Int} {tgt : Nat} (hd : decode Y.2.1 pc = .ok (.ifCond .ge off, 3)) (ht : (pc : Int) + off = (tgt : Int)) (kt : 0 ≤ x → V z Y R Q tgt L st h sz kc nc) (kf : ¬ 0 ≤ x → V z Y R Q (pc + 3) L st h sz kc nc) : V z Y R Q pc L (.int x :: st) h sz kc nc := fun p e s m args below meth c d0 H locs ls C hd0 hL hr => lv_if_ge C.1 C.2.1 hd ht (fun g => kt g p e s m args below meth c d0 H locs ls C hd0 hL hr) (fun g => kf g p e s m args below meth c d0 H locs ls C hd0 hL hr)
theorem V_if_gt {x : Int32} {off : Int} {tgt : Nat} (hd : decode Y.2.1 pc = .ok (.ifCond .gt off, 3)) (ht : (pc : Int) + off = (tgt : Int)) (kt : 0 < x → V z Y R Q tgt L st h sz kc nc) (kf : ¬ 0 < x → V z Y R Q (pc + 3) L st h sz kc nc) : V z Y R Q pc L (.int x :: st) h sz kc nc := fun p e s m args below meth c d0 H locs ls C hd0 hL hr => lv_if_gt C.1 C.2.1 hd ht (fun g => kt g p e s m args below meth c d0 H locs ls C hd0 hL hr) (fun g => kf g p e s m args below meth c d0 H locs ls C hd0 hL hr)
theorem V_if_le {x : Int32} {off : Int} {tgt : Nat} (hd : decode Y.2.1 pc = .ok (.ifCond .le off, 3)) (ht : (pc : Int) + off = (tgt : Int)) (kt : x ≤ 0 → V z Y R Q tgt L st h sz kc nc) (kf : ¬ x ≤ 0 → V z Y R Q (pc + 3) L st h sz kc nc) : V z Y R Q pc L (.int x :: st) h sz kc nc := fun p e s m args below meth c d0 H locs ls C hd0 hL hr => lv_if_le C.1 C.2.1 hd ht (fun g => kt g p e s m args below meth c d0 H locs ls C hd0 hL hr) (fun g => kf g p e s m args below meth c d0 H locs ls C hd0 hL hr)
theorem V_icmp_eq {x y : Int32} {off : Int} {tgt : Nat} (hd : decode Y.2.1 pc = .ok (.if_icmp .eq off, 3)) (ht : (pc : Int) + off = (tgt : Int)) (kt : x = y → V z Y R Q tgt L st h sz kc nc) (kf : ¬ x = y → V z Y R Q (pc + 3) L st h sz kc nc) : V z Y R Q pc L (.int y :: .int x :: st) h sz kc nc := fun p e s m args below meth c d0 H locs ls C hd0 hL hr => lv_icmp_eq C.1 C.2.1 hd ht (fun g => kt g p e s m args below meth c d0 H locs ls C hd0 hL hr) (fun g => kf g p e s m args below meth c d0 H locs ls C hd0 hL hr)
theorem V_icmp_ne {x y : Int32} {off : Int} {tgt : Nat} (hd : decode Y.2.1 pc = .ok (.if_icmp .ne off, 3)) (ht : (pc : Int) + off = (tgt : Int)) (kt : ¬ x = y → V z Y R Q tgt L st h sz kc nc) (kf : x = y → V z Y R Q (pc + 3) L st h sz kc nc) : V z Y R Q pc L (.int y :: .int x :: st) h sz kc nc := fun p e s m args below meth c d0 H locs ls C hd0 hL hr => lv_icmp_ne C.1 C.2.1 hd ht (fun g => kt g p e s m args below meth c d0 H locs ls C hd0 hL hr) (fun g => kf g p e s m args below meth c d0 H locs ls C hd0 hL hr)
theorem V_icmp_lt {x y : Int32} {off : Int} {tgt : Nat} (hd : decode Y.2.1 pc = .ok (.if_icmp .lt off, 3)) (ht : (pc : Int) + off = (tgt : Int)) (kt : x < y → V z Y R Q tgt L st h sz kc nc) (kf : ¬ x < y → V z Y R Q (pc + 3) L st h sz kc nc) : V z Y R Q pc L (.int y :: .int x :: st) h sz kc nc := fun p e s m args below meth c d0 H locs ls C hd0 hL hr => lv_icmp_lt C.1 C.2.1 hd ht (fun g => kt g p e s m args below meth c d0 H locs ls C hd0 hL hr) (fun g => kf g p e s m args below meth c d0 H locs ls C hd0 hL hr)
theorem V_icmp_ge {x y : Int32} {off : Int} {tgt : Nat} (hd : decode Y.2.1 pc = .ok (.if_icmp .ge off, 3)) (ht : (pc : Int) + off = (tgt : Int)) (kt : y ≤ x → V z Y R Q tgt L st h sz kc nc) (kf : ¬ y ≤ x → V z Y R Q (pc + 3) L st h sz kc nc) : V z Y R Q pc L (.int y :: .int x :: st) h sz kc nc := fun p e s m args below meth c d0 H locs ls C hd0 hL hr => lv_icmp_ge C.1 C.2.1 hd ht (fun g => kt g p e s m args below meth c d0 H locs ls C hd0 hL hr) (fun g => kf g p e s m args below meth c d0 H locs ls C hd0 hL hr)
theorem V_icmp_gt {x y : Int32} {off : Int} {tgt : Nat} (hd : decode Y.2.1 pc = .ok (.if_icmp .gt off, 3)) (ht : (pc : Int) + off = (tgt : Int)) (kt : y < x → V z Y R Q tgt L st h sz kc nc) (kf : ¬ y < x → V z Y R Q (pc + 3) L st h sz kc nc) : V z Y R Q pc L (.int y :: .int x :: st) h sz kc nc := fun p e s m args below meth c d0 H locs ls C hd0 hL hr => lv_icmp_gt C.1 C.2.1 hd ht (fun g => kt g p e s m args below meth c d0 H locs ls C hd0 hL hr) (fun g => kf g p e s m args below meth c d0 H locs ls C hd0 hL hr)
theorem V_icmp_le {x y : Int32} {off : Int} {tgt : Nat} (hd : decode Y.2.1 pc = .ok (.if_icmp .le off, 3)) (ht : (pc : Int) + off = (tgt : Int)) (kt : x ≤ y → V z Y R Q tgt L st h sz kc nc) (kf : ¬ x ≤ y → V z Y R Q (pc + 3) L st h sz kc nc) : V z Y R Q pc L (.int y :: .int x :: st) h sz kc nc := fun p e s m args below meth c d0 H locs ls C hd0 hL hr => lv_icmp_le C.1 C.2.1 hd ht (fun g => kt g p e s m args below meth c d0 H locs ls C hd0 hL hr) (fun g => kf g p e s m args below meth c d0 H locs ls C hd0 hL hr)
theorem V_goto {off : Int} {tgt : Nat} (hd : decode Y.2.1 pc = .ok (.goto off, 3)) (ht : (pc : Int) + off = (tgt : Int)) (kk : V z Y R Q tgt L st h sz kc nc) : V z Y R Q pc L st h sz kc nc := fun p e s m args below meth c d0 H locs ls C hd0 hL hr => lv_goto C.1 C.2.1 hd ht (kk p e s m args below meth c d0 H locs ls C hd0 hL hr)
theorem V_tableOut {dflt lo hi : Int} {offs : Array Int} {len : Nat} {x : Int32} {tgt : Nat} (hd : decode Y.2.1 pc = .ok (.tableswitch dflt lo hi offs, len)) (hx : x.toInt < lo ∨ hi < x.toInt) (ht : (pc : Int) + dflt = (tgt : Int)) (kk : V z Y R Q tgt L st h sz kc nc) : V z Y R Q pc L (.int x :: st) h sz kc nc := fun p e s m args below meth c d0 H locs ls C hd0 hL hr => lv_tableOut C.1 C.2.1 hd hx ht (kk p e s m args below meth c d0 H locs ls C hd0 hL hr)
theorem V_tableIn {dflt lo hi : Int} {offs : Array Int} {len : Nat} {x : Int32} {off : Int} {tgt : Nat} (hd : decode Y.2.1 pc = .ok (.tableswitch dflt lo hi offs, len)) (h1 : ¬ x.toInt < lo) (h2 : ¬ hi < x.toInt) (ho : offs[(x.toInt - lo).toNat]? = some off) (ht : (pc : Int) + off = (tgt : Int)) (kk : V z Y R Q tgt L st h sz kc nc) : V z Y R Q pc L (.int x :: st) h sz kc nc := fun p e s m args below meth c d0 H locs ls C hd0 hL hr => lv_tableIn C.1 C.2.1 hd h1 h2 ho ht (kk p e s m args below meth c d0 H locs ls C hd0 hL hr)
theorem V_lookup {dflt : Int} {ps : Array (Int × Int)} {len : Nat} {x : Int32} {off : Int} {tgt : Nat} (hd : decode Y.2.1 pc = .ok (.lookupswitch dflt ps, len)) (hp0 : (ps.toList.zip (ps.toList.drop 1)).all (fun (a, next) => a.1 < next.1) = true) (ho : Op.lookupswitch.offset ps.toList dflt x.toInt = off) (ht : (pc : Int) + off = (tgt : Int)) (kk : V z Y R Q tgt L st h sz kc nc) : V z Y R Q pc L (.int x :: st) h sz kc nc := fun p e s m args below meth c d0 H locs ls C hd0 hL hr => lv_lookup C.1 C.2.1 hd hp0 ho ht (kk p e s m args below meth c d0 H locs ls C hd0 hL hr)
theorem V_ifnonnull {x : Nat} {off : Int} {tgt : Nat} (hd : decode Y.2.1 pc = .ok (.ifnonnull off, 3)) (ht : (pc : Int) + off = (tgt : Int)) (kk : V z Y R Q tgt L st h sz kc nc) : V z Y R Q pc L (.ref x :: st) h sz kc nc := fun p e s m args below meth c d0 H locs ls C hd0 hL hr => lv_ifnonnull C.1 C.2.1 hd ht (kk p e s m args below meth c d0 H locs ls C hd0 hL hr)
theorem V_ifnull {x : Nat} {off : Int} (hd : decode Y.2.1 pc = .ok (.ifnull off, 3)) (kk : V z Y R Q (pc + 3) L st h sz kc nc) : V z Y R Q pc L (.ref x :: st) h sz kc nc := fun p e s m args below meth c d0 H locs ls C hd0 hL hr => lv_ifnull C.1 C.2.1 hd (kk p e s m args below meth c d0 H locs ls C hd0 hL hr)
/-- arrays -/
theorem zK_i {z : ZG} {s : State} (h : ZK z s) (d : Drawn) : ArrOfT (s.setDrawn d) z.2.2.2.1 .int := (h.1.2 0 (z.2.2.2.1, .int) rfl).1
theorem zK_l {z : ZG} {s : State} (h : ZK z s) (d : Drawn) : ArrOfT (s.setDrawn d) z.2.2.2.2.1 .long := (h.1.2 1 (z.2.2.2.2.1, .long) rfl).1
theorem zK_q {z : ZG} {s : State} (h : ZK z s) (d : Drawn) : ArrOfT (s.setDrawn d) z.2.2.2.2.2.1 (.object "MoireEncoder$State") := (h.1.2 2 (z.2.2.2.2.2.1, .object "MoireEncoder$State") rfl).1
theorem V_iald {a n : Nat} {f : Nat → Int32} {i : Int32} (hd : decode Y.2.1 pc = .ok (.iaload, 1)) (he : h a = some (.inr (n, .inl f))) (hi : vp_in i n) (kk : V z Y R Q (pc + 1) L (.int (f i.toNatClampNeg) :: st) h sz kc nc) : V z Y R Q pc L (.int i :: .ref a :: st) h sz kc nc := by
  intro p e s m args below meth c d0 H locs ls C hd0 hL hr
  have hlt : i.toNatClampNeg < n := Nat.not_le.mp fun q => hi (Or.inr q)
  have hc : H[z.2.1 + a]? = some (vp_cell z.2.2.2.1 (n, .inl f)) := hr.1 a _ he
  exact W.iald (v := .int (f i.toNatClampNeg)) C.1 C.2.1 hc (zK_i C.2.2.2.2.2.2.2.2 d0 n (fun j => .int (f j))) (fun q => by cases q) (by show ¬ (i < 0 ∨ (arrV _ _ _).slots.size ≤ _); rw [arrV_size]; exact hi) (by show (arrV _ _ _).slots[_]? = _; rw [arrV_read _ _ hlt]) rfl rfl hd (kk p e s m args below meth c d0 H locs ls C hd0 hL hr)
theorem V_lald {a n : Nat} {f : Nat → Int64} {i : Int32} (hd : decode Y.2.1 pc = .ok (.laload, 1)) (he : h a = some (.inr (n, .inr (.inl f)))) (hi : vp_in i n) (kk : V z Y R Q (pc + 1) L (.long (f i.toNatClampNeg) :: st) h sz kc nc) : V z Y R Q pc L (.int i :: .ref a :: st) h sz kc nc := by
  intro p e s m args below meth c d0 H locs ls C hd0 hL hr
  have hlt : i.toNatClampNeg < n := Nat.not_le.mp fun q => hi (Or.inr q)
  have hc : H[z.2.1 + a]? = some (vp_cell z.2.2.2.2.1 (n, .inr (.inl f))) := hr.1 a _ he
  exact W.lald (v := .long (f i.toNatClampNeg)) C.1 C.2.1 hc (zK_l C.2.2.2.2.2.2.2.2 d0 n (fun j => .long (f j))) (fun q => by cases q) (by show ¬ (i < 0 ∨ (arrV _ _ _).slots.size ≤ _); rw [arrV_size]; exact hi) (by show (arrV _ _ _).slots[_]? = _; rw [arrV_read _ _ hlt]) rfl rfl hd (kk p e s m args below meth c d0 H locs ls C hd0 hL hr)
theorem V_aald {a n : Nat} {f : Nat → Option Nat} {i : Int32} (hd : decode Y.2.1 pc = .ok (.aaload, 1)) (he : h a = some (.inr (n, .inr (.inr (.inr (.inr f)))))) (hi : vp_in i n) (kk : V z Y R Q (pc + 1) L (va_rf (f i.toNatClampNeg) :: st) h sz kc nc) : V z Y R Q pc L (.int i :: .ref a :: st) h sz kc nc := by
  intro p e s m args below meth c d0 H locs ls C hd0 hL hr
  have hlt : i.toNatClampNeg < n := Nat.not_le.mp fun q => hi (Or.inr q)
  have hc : H[z.2.1 + a]? = some (vp_cell z.2.2.2.2.2.1 (n, .inr (.inr (.inr (.inr (fun j => (f j).map (z.2.1 + ·))))))) := hr.1 a _ he
  refine W.aald (v := va_rf ((f i.toNatClampNeg).map (z.2.1 + ·))) (ty := .object "MoireEncoder$State") C.1 C.2.1 hc (zK_q C.2.2.2.2.2.2.2.2 d0 n (fun j => va_rf ((f j).map (z.2.1 + ·)))) rfl (fun q => by cases q) (by show ¬ (i < 0 ∨ (arrV _ _ _).slots.size ≤ _); rw [arrV_size]; exact hi) (by show (arrV _ _ _).slots[_]? = _; rw [arrV_read _ _ hlt]) rfl rfl hd ?_
  have := kk p e s m args below meth c d0 H locs ls C hd0 hL hr
  rw [List.map_cons, shv_rf] at this
  exact this
theorem V_alen {a : Nat} {x : vp_A} (hd : decode Y.2.1 pc = .ok (.arraylength, 1)) (he : h a = some (.inr x)) (kk : V z Y R Q (pc + 1) L (.int (Int32.ofNat x.1) :: st) h sz kc nc) : V z Y R Q pc L (.ref a :: st) h sz kc nc := by
  intro p e s m args below meth c d0 H locs ls C hd0 hL hr
  have k2 := kk p e s m args below meth c d0 H locs ls C hd0 hL hr
  have hc := hr.1 a _ he
  obtain ⟨n, f | f | f | f | f⟩ := x
  · exact W.alen (n := Int32.ofNat n) C.1 C.2.1 hc (zK_i C.2.2.2.2.2.2.2.2 d0 n (fun j => .int (f j))) (by show (arrV _ _ _).slots.size.toInt32 = _; rw [arrV_size]) rfl rfl hd k2
  · exact W.alen (n := Int32.ofNat n) C.1 C.2.1 hc (zK_l C.2.2.2.2.2.2.2.2 d0 n (fun j => .long (f j))) (by show (arrV _ _ _).slots.size.toInt32 = _; rw [arrV_size]) rfl rfl hd k2
  · exact W.alen (n := Int32.ofNat n) C.1 C.2.1 hc (zK_i C.2.2.2.2.2.2.2.2 d0 n (fun j => .float (f j))) (by show (arrV _ _ _).slots.size.toInt32 = _; rw [arrV_size]) rfl rfl hd k2
  · exact W.alen (n := Int32.ofNat n) C.1 C.2.1 hc (zK_i C.2.2.2.2.2.2.2.2 d0 n (fun j => .double (f j))) (by show (arrV _ _ _).slots.size.toInt32 = _; rw [arrV_size]) rfl rfl hd k2
  · exact W.alen (n := Int32.ofNat n) C.1 C.2.1 hc (zK_q C.2.2.2.2.2.2.2.2 d0 n (fun j => va_rf ((f j).map (z.2.1 + ·)))) (by show (arrV _ _ _).slots.size.toInt32 = _; rw [arrV_size]) rfl rfl hd k2
theorem V_iast {a n : Nat} {f : Nat → Int32} {i x : Int32} (hd : decode Y.2.1 pc = .ok (.iastore, 1)) (he : h a = some (.inr (n, .inl f))) (hi : vp_in i n) (kk : V z Y R Q (pc + 1) L st (hset h a (.inr (n, .inl (upd f i.toNatClampNeg x)))) sz kc nc) : V z Y R Q pc L (.int x :: .int i :: .ref a :: st) h sz kc nc := by
  intro p e s m args below meth c d0 H locs ls C hd0 hL hr
  have hc : H[z.2.1 + a]? = some (vp_cell z.2.2.2.1 (n, .inl f)) := hr.1 a _ he
  refine W.iast C.1 C.2.1 hc (zK_i C.2.2.2.2.2.2.2.2 d0 n (fun j => .int (f j))) (fun q => by cases q) (by show ¬ (i < 0 ∨ (arrV _ _ _).slots.size ≤ _); rw [arrV_size]; exact hi) rfl rfl hd fun H1 e1 e2 oq => ?_
  refine kk p e s m args below meth c d0 H1 _ ls C hd0 hL (hr.put (hr.1.set ?_ oq) e2 oq)
  show H1[z.2.1 + a]? = some (vp_cell _ _)
  rw [e1, vp_cell_i, vp_cell_i, arrV_store]
  congr 2
  funext q
  by_cases hq : q = i.toNatClampNeg
  · subst hq; simp [updV, upd]
  · simp [updV, upd, hq]
theorem V_last {a n : Nat} {f : Nat → Int64} {i : Int32} {x : Int64} (hd : decode Y.2.1 pc = .ok (.lastore, 1)) (he : h a = some (.inr (n, .inr (.inl f)))) (hi : vp_in i n) (kk : V z Y R Q (pc + 1) L st (hset h a (.inr (n, .inr (.inl (vp_updL f i.toNatClampNeg x))))) sz kc nc) : V z Y R Q pc L (.long x :: .int i :: .ref a :: st) h sz kc nc := by
  intro p e s m args below meth c d0 H locs ls C hd0 hL hr
  have hc : H[z.2.1 + a]? = some (vp_cell z.2.2.2.2.1 (n, .inr (.inl f))) := hr.1 a _ he
  refine W.last C.1 C.2.1 hc (zK_l C.2.2.2.2.2.2.2.2 d0 n (fun j => .long (f j))) (fun q => by cases q) (by show ¬ (i < 0 ∨ (arrV _ _ _).slots.size ≤ _); rw [arrV_size]; exact hi) rfl rfl hd fun H1 e1 e2 oq => ?_
  refine kk p e s m args below meth c d0 H1 _ ls C hd0 hL (hr.put (hr.1.set ?_ oq) e2 oq)
  show H1[z.2.1 + a]? = some (vp_cell _ _)
  rw [e1, vp_cell_l, vp_cell_l, arrV_store]
  congr 2
  funext q
  by_cases hq : q = i.toNatClampNeg
  · subst hq; simp [updV, vp_updL]
  · simp [updV, vp_updL, hq]
/-- a State into a row of States -/
theorem V_aast {a n v : Nat} {f : Nat → Option Nat} {i : Int32} {vs : List Value} (hd : decode Y.2.1 pc = .ok (.aastore, 1)) (he : h a = some (.inr (n, .inr (.inr (.inr (.inr f)))))) (hv : h v = some (.inl (6, vs))) (hi : vp_in i n) (kk : V z Y R Q (pc + 1) L st (hset h a (.inr (n, .inr (.inr (.inr (.inr (va_up f i.toNatClampNeg (some v)))))))) sz kc nc) : V z Y R Q pc L (.ref v :: .int i :: .ref a :: st) h sz kc nc := by
  intro p e s m args below meth c d0 H locs ls C hd0 hL hr
  have hlt : i.toNatClampNeg < n := Nat.not_le.mp fun q => hi (Or.inr q)
  have h0 : ¬ i < 0 := fun q => hi (Or.inl q)
  have hc : H[z.2.1 + a]? = some (vp_cell z.2.2.2.2.2.1 (n, .inr (.inr (.inr (.inr (fun j => (f j).map (z.2.1 + ·))))))) := hr.1 a _ he
  obtain ⟨r', hr', cellV, g1, g2, g3, -⟩ := hr.1 v _ hv
  have hK : va_K z.2.2.1 vwCl (zty z) (s.setDrawn d0) := C.2.2.2.2.2.2.2.2.1
  have hcls := (hK.1 6 (RX6, TX6, 8) rfl).2
  obtain ⟨kA, comp, k1, k2, k3, -⟩ := (hK.2 2 (z.2.2.2.2.2.1, .object "MoireEncoder$State") rfl).2
  have hcomp : comp = z.2.2.1.1 6 := Option.some.inj (k3.symm.trans hcls.1)
  subst hcomp
  obtain ⟨kC, hkC, -⟩ := hcls.2
  refine W.aast C.1 C.2.1 hc (fun q h => by cases h) (fun h => by cases h) k1 k2 rfl hkC ⟨h0, by show _ < (arrV _ _ _).slots.size; rw [arrV_size]; exact hlt⟩ g1 (fun q h => by rw [g3] at h; cases h) (by rw [g2]; exact hkC) (by rw [g2]; exact va_assign hcls) rfl rfl hd fun H1 e1 e2 oq => ?_
  refine kk p e s m args below meth c d0 H1 _ ls C hd0 hL (hr.put (hr.1.set ?_ oq) e2 oq)
  show H1[z.2.1 + a]? = some (vp_cell _ _)
  rw [e1, vp_cell_q, vp_cell_q, arrV_store]
  congr 2
  funext q
  by_cases hq : q = i.toNatClampNeg
  · subst hq; simp [updV, va_up, va_rf]
  · simp [updV, va_up, hq]
/-- a new cell -/
theorem hp.push {z : ZG} {h : AH} {H H1 : Heap} {sz : Nat} {c : AC} (hh : hp z h H) (hs : H.size = z.2.1 + sz) (h1 : va_at z.2.2.1 vwCl (z.2.1 + sz, ze z c) H1) (o1 : ∀ q : Nat, q < z.2.1 + sz → H1[q]? = H[q]?) : hp z (hset h sz c) H1 := by
  intro x d hx
  by_cases e : x = sz
  · subst e
    rw [hset_s] at hx
    cases hx
    exact h1
  · rw [hset_n e] at hx
    exact (hh x d hx).kept (o1 _ (by have := hh.lt hx; omega))
theorem zr.push {z : ZG} {s : State} {L : AL} {h h' : AH} {sz : Nat} {H H1 : Heap} {locs : List Loc} {ls : Array Slot} (hr : zr z s L h sz H locs ls) (hh : hp z h' H1) (e2 : H1.size = z.2.1 + sz + 1) (o1 : ∀ q : Nat, q < z.2.1 + sz → H1[q]? = H[q]?) : zr z s L h' (sz + 1) H1 locs ls :=
  ⟨hh, by omega, hr.2.2.1, hr.2.2.2.1, fun q hq => by rw [o1 q (by omega)]; exact hr.2.2.2.2 q hq⟩
theorem V_newi {n : Int32} {N : Nat} (hd : decode Y.2.1 pc = .ok (.newarray .int, 2)) (hn : ¬ n < 0) (hN : n.toNatClampNeg = N) (hb : N * componentBytes .int ≤ 536870912) (hk : kc + 1 ≤ R.cells ∧ nc + N ≤ R.slots) (kk : V z Y R Q (pc + 2) L (.ref sz :: st) (hset h sz (.inr (N, .inl (fun _ => 0)))) (sz + 1) (kc + 1) (nc + N)) : V z Y R Q pc L (.int n :: st) h sz kc nc := by
  intro p e s m args below meth c d0 H locs ls C hd0 hL hr
  have hts := dr_words C.2.2.2.2.1 d0
  have hK : va_K z.2.2.1 vwCl (zty z) (s.setDrawn d0) := C.2.2.2.2.2.2.2.2.1
  refine va_newaK (atype := .int) (h := z.2.1 + sz) C.1 C.2.1 (hts _ gw_arr_int) rfl hd rfl hn hN hb hk.1 hk.2 hr.2.1 fun H1 cA e1 e2 o1 hAr hNm => ?_
  have hcA : cA = z.2.2.2.1 := Option.some.inj (hNm.symm.trans (hK.2 0 (z.2.2.2.1, .int) rfl).2)
  subst hcA
  exact kk p e s m args below meth c d0 H1 locs ls C hd0 hL (hr.push (hr.1.push hr.2.1 e1 o1) e2 o1)
theorem V_newl {n : Int32} {N : Nat} (hd : decode Y.2.1 pc = .ok (.newarray .long, 2)) (hn : ¬ n < 0) (hN : n.toNatClampNeg = N) (hb : N * componentBytes .long ≤ 536870912) (hk : kc + 1 ≤ R.cells ∧ nc + N ≤ R.slots) (kk : V z Y R Q (pc + 2) L (.ref sz :: st) (hset h sz (.inr (N, .inr (.inl (fun _ => 0))))) (sz + 1) (kc + 1) (nc + N)) : V z Y R Q pc L (.int n :: st) h sz kc nc := by
  intro p e s m args below meth c d0 H locs ls C hd0 hL hr
  have hts := dr_words C.2.2.2.2.1 d0
  have hK : va_K z.2.2.1 vwCl (zty z) (s.setDrawn d0) := C.2.2.2.2.2.2.2.2.1
  refine va_newaK (atype := .long) (h := z.2.1 + sz) C.1 C.2.1 (hts _ gw_arr_long) rfl hd rfl hn hN hb hk.1 hk.2 hr.2.1 fun H1 cA e1 e2 o1 hAr hNm => ?_
  have hcA : cA = z.2.2.2.2.1 := Option.some.inj (hNm.symm.trans (hK.2 1 (z.2.2.2.2.1, .long) rfl).2)
  subst hcA
  exact kk p e s m args below meth c d0 H1 locs ls C hd0 hL (hr.push (hr.1.push hr.2.1 e1 o1) e2 o1)
end Zrules
