/-- pure steps -/
theorem kp_if {c : Prop} [Decidable c] {α : Type} {a b x : α} (h : (if c then a else b) = x) : (c → a = x) ∧ (¬ c → b = x) := ⟨fun q => by rw [if_pos q] at h; exact h, fun q => by rw [if_neg q] at h; exact h⟩
theorem kp_in {c : Prop} [Decidable c] {α : Type} {a : Option α} {x : α} (h : (if c then a else none) = some x) : c ∧ a = some x := by
  by_cases q : c
  · rw [if_pos q] at h; exact ⟨q, h⟩
  · rw [if_neg q] at h; cases h
theorem kp_bind {α β : Type} {o : Option α} {f : α → Option β} {x : β} (h : o.bind f = some x) : ∃ a, o = some a ∧ f a = some x := by
  cases o with
  | none => cases h
  | some a => exact ⟨a, rfl, h⟩
/-- an index that is inside -/
def kx_in (i : Int32) (n : Nat) : Bool := !(decide (i < 0) || decide (n ≤ i.toNatClampNeg))
theorem kx_of {i : Int32} {n : Nat} (h : kx_in i n = true) : vp_in i n := by
  unfold kx_in at h
  unfold vp_in
  intro q
  rcases q with q | q
  · simp [q] at h
  · simp [q] at h
theorem kx_to {i : Int32} {n : Nat} (h : vp_in i n) : kx_in i n = true := by
  unfold vp_in at h
  unfold kx_in
  have h1 : ¬ i < 0 := fun q => h (Or.inl q)
  have h2 : ¬ n ≤ i.toNatClampNeg := fun q => h (Or.inr q)
  simp [h1, h2]
theorem kx_nI {k n : Nat} (h : k < n) (hn : n < 2 ^ 31) : kx_in (nI k) n = true := kx_to (vp_in_nI h hn)
/-- a stretch that is inside both arrays -/
def kx_cp (sp dp n : Int32) (n0 n1 : Nat) : Bool := decide (¬ sp < 0) && (decide (¬ dp < 0) && (decide (¬ n < 0) && (decide (sp.toNatClampNeg + n.toNatClampNeg ≤ n0) && decide (dp.toNatClampNeg + n.toNatClampNeg ≤ n1))))
section KCP
variable {sp dp n : Int32} {n0 n1 : Nat}
theorem kx_cpA (h : kx_cp sp dp n n0 n1 = true) : ¬ sp < 0 ∧ ¬ dp < 0 ∧ ¬ n < 0 ∧ sp.toNatClampNeg + n.toNatClampNeg ≤ n0 ∧ dp.toNatClampNeg + n.toNatClampNeg ≤ n1 := by
  simp only [kx_cp, Bool.and_eq_true, decide_eq_true_eq] at h
  exact h
theorem kx_cp1 (h : kx_cp sp dp n n0 n1 = true) : ¬ sp < 0 := (kx_cpA h).1
theorem kx_cp2 (h : kx_cp sp dp n n0 n1 = true) : ¬ dp < 0 := (kx_cpA h).2.1
theorem kx_cp3 (h : kx_cp sp dp n n0 n1 = true) : ¬ n < 0 := (kx_cpA h).2.2.1
theorem kx_cp4 (h : kx_cp sp dp n n0 n1 = true) : sp.toNatClampNeg + n.toNatClampNeg ≤ n0 := (kx_cpA h).2.2.2.1
theorem kx_cp5 (h : kx_cp sp dp n n0 n1 = true) : dp.toNatClampNeg + n.toNatClampNeg ≤ n1 := (kx_cpA h).2.2.2.2
end KCP
/-- a name for a value -/
def kl {α β : Type} (x : α) (f : α → β) : β := f x
theorem kp_kl {α β : Type} {x : α} {f : α → β} {y : β} (h : kl x f = y) (v : α) (hv : v = x) : f v = y := by
  subst hv
  exact h
theorem kx_lt {i : Int32} {n : Nat} (h : kx_in i n = true) : i.toNatClampNeg < n := by
  have := kx_of h
  unfold vp_in at this
  omega
def kq {β : Type} (r : Option Nat) (a : β) (b : Nat → β) : β := match r with
  | none => a
  | some k => b k
theorem kq_n {β : Type} {a x : β} {b : Nat → β} (h : kq none a b = x) : a = x := h
theorem kq_s {β : Type} {a x : β} {b : Nat → β} {k : Nat} (h : kq (some k) a b = x) : b k = x := h
