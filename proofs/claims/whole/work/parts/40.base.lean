/-! PURE BASE: small numbers, loops by invariant, stores -/
/-- a loop by its invariant I: it comes to its end N, or ends early with an answer that Q names; κ is what it goes on with behind its end -/
theorem lp_inv {κ σ β : Type} (L : κ → Nat → Int32 → σ → Option β) (I : Nat → σ → Prop) (Q : β → Prop) (fin : κ → σ → Option β) (N : Nat)
    (hs : ∀ i s, i < N → I i s → (∃ s', I (i + 1) s' ∧ ∀ k n, L k (n + 1) (nI i) s = L k n (nI (i + 1)) s') ∨ (∃ r, Q r ∧ ∀ k n, L k (n + 1) (nI i) s = some r))
    (hf : ∀ s, I N s → ∀ k n, L k (n + 1) (nI N) s = fin k s) : ∀ (n i : Nat) (s : σ), i ≤ N → N - i < n → I i s → (∃ s', I N s' ∧ ∀ k, L k n (nI i) s = fin k s') ∨ (∃ r, Q r ∧ ∀ k, L k n (nI i) s = some r) := by
  intro n
  induction n with
  | zero => intro i s h1 h2; omega
  | succ n ih =>
    intro i s h1 h2 hI
    by_cases h : i < N
    · rcases hs i s h hI with ⟨s', hI', e⟩ | ⟨r, hr, e⟩
      · rcases ih (i + 1) s' (by omega) (by omega) hI' with ⟨s2, a, b⟩ | ⟨r, a, b⟩
        · exact Or.inl ⟨s2, a, fun k => (e k n).trans (b k)⟩
        · exact Or.inr ⟨r, a, fun k => (e k n).trans (b k)⟩
      · exact Or.inr ⟨r, hr, fun k => e k n⟩
    · have h0 : i = N := by omega
      subst h0
      exact Or.inl ⟨s, hI, fun k => hf s hI k n⟩
/-- a loop without an early end: its state runs through f -/
def itr {σ : Type} (f : Nat → σ → σ) (a : Nat) : Nat → σ → σ
  | 0 => fun s => s
  | n + 1 => fun s => itr f (a + 1) n (f a s)
theorem lp_for {σ β : Type} (L : Nat → Int32 → σ → Option β) (f : Nat → σ → σ) (fin : σ → Option β) (N : Nat) (hs : ∀ n i s, i < N → L (n + 1) (nI i) s = L n (nI (i + 1)) (f i s)) (hf : ∀ n s, L (n + 1) (nI N) s = fin s) : ∀ (k n i : Nat) (s : σ), i + k = N → k < n → L n (nI i) s = fin (itr f i k s) := by
  intro k
  induction k with
  | zero =>
    intro n i s h1 h2
    obtain ⟨n, rfl⟩ : ∃ q, n = q + 1 := ⟨n - 1, by omega⟩
    have h0 : i = N := by omega
    subst h0
    exact hf n s
  | succ k ih =>
    intro n i s h1 h2
    obtain ⟨n, rfl⟩ : ∃ q, n = q + 1 := ⟨n - 1, by omega⟩
    rw [hs n i s (by omega), ih n (i + 1) (f i s) (by omega) (by omega)]
    rfl
/-- a stretch is written -/
theorem itr_fill (c : Nat) (g : Nat → Int32) : ∀ (k a : Nat) (s : Nat → Int32), itr (fun i s => upd s (c + i) (g i)) a k s = fun j => if c + a ≤ j ∧ j < c + a + k then g (j - c) else s j := by
  intro k
  induction k with
  | zero =>
    intro a s
    funext j
    show s j = _
    rw [if_neg (by omega)]
  | succ k ih =>
    intro a s
    show itr (fun i s => upd s (c + i) (g i)) (a + 1) k (upd s (c + a) (g a)) = _
    rw [ih (a + 1)]
    funext j
    by_cases h1 : c + (a + 1) ≤ j ∧ j < c + (a + 1) + k
    · rw [if_pos h1, if_pos (by omega)]
    · rw [if_neg h1]
      by_cases h2 : j = c + a
      · subst h2
        rw [pk_us, if_pos (by omega)]
        congr 1
        omega
      · rw [pk_un h2, if_neg (by omega)]
/-- numbers -/
theorem nl (n : Nat) : (OfNat.ofNat n : Int32) = nI n := rfl
theorem nI_m16 (a : Nat) : nI a * 16 = nI (16 * a) := by
  rw [show (16 : Int32) = nI 16 from rfl, pk_mul, Nat.mul_comm]
theorem nI_16m (a : Nat) : 16 * nI a = nI (16 * a) := by
  rw [show (16 : Int32) = nI 16 from rfl, pk_mul]
theorem nI_a1 (a : Nat) : nI a + 1 = nI (a + 1) := nI_1 a
theorem nI_a2 (a : Nat) : nI a + 2 = nI (a + 2) := by
  rw [show (2 : Int32) = nI 2 from rfl, nI_add]
theorem nI_a3 (a : Nat) : nI a + 3 = nI (a + 3) := by
  rw [show (3 : Int32) = nI 3 from rfl, nI_add]
theorem nI_8a (a : Nat) : 8 + nI a = nI (8 + a) := by
  rw [show (8 : Int32) = nI 8 from rfl, nI_add]
theorem nI_inj {a b : Nat} (ha : a < 2 ^ 31) (hb : b < 2 ^ 31) (h : nI a = nI b) : a = b := (nI_eq ha hb).mp h
theorem nI_lit_le (c : Nat) {a : Nat} (hc : c < 2 ^ 31) (ha : a < 2 ^ 31) : ((OfNat.ofNat c : Int32) ≤ nI a) = (c ≤ a) := propext (nI_leI hc ha)
theorem nI_le_lit (c : Nat) {a : Nat} (hc : c < 2 ^ 31) (ha : a < 2 ^ 31) : (nI a ≤ (OfNat.ofNat c : Int32)) = (a ≤ c) := propext (nI_leI ha hc)
theorem nI_lt_lit (c : Nat) {a : Nat} (hc : c < 2 ^ 31) (ha : a < 2 ^ 31) : (nI a < (OfNat.ofNat c : Int32)) = (a < c) := propext (nI_ltI ha hc)
theorem nI_lit_lt (c : Nat) {a : Nat} (hc : c < 2 ^ 31) (ha : a < 2 ^ 31) : ((OfNat.ofNat c : Int32) < nI a) = (c < a) := propext (nI_ltI hc ha)
theorem nI_eq_lit (c : Nat) {a : Nat} (hc : c < 2 ^ 31) (ha : a < 2 ^ 31) : (nI a = (OfNat.ofNat c : Int32)) = (a = c) := propext (nI_eq ha hc)
theorem nI_ne_m1 {a : Nat} (ha : a < 2 ^ 31) : ¬ nI a = -1 := by
  intro h
  have h1 := nI_toInt ha
  rw [h] at h1
  have h2 : (-1 : Int32).toInt = -1 := by decide
  omega
theorem b01_and {x : Int32} (h : x = 0 ∨ x = 1) : x &&& 1 = x := by
  rcases h with rfl | rfl <;> decide
theorem vz_01 {x : Int32} (h : x = 0 ∨ x = 1) : vp_nar .boolean x = x := by
  rcases h with rfl | rfl <;> decide
theorem vz_0 : vp_nar .boolean 0 = 0 := by decide
theorem vz_1 : vp_nar .boolean 1 = 1 := by decide
/-- a block of the disk becomes f -/
def blk (d : Nat → Int32) (b : Nat) (f : Nat → Int32) : Nat → Int32 := fun j => if 16 * b ≤ j ∧ j < 16 * b + 16 then f (j - 16 * b) else d j
theorem blk_in (d : Nat → Int32) {b j : Nat} (f : Nat → Int32) (h : j < 16) : blk d b f (16 * b + j) = f j := by
  unfold blk
  rw [if_pos (by omega)]
  congr 1
  omega
theorem blk_out (d : Nat → Int32) {b j : Nat} (f : Nat → Int32) (h : j < 16 * b ∨ 16 * b + 16 ≤ j) : blk d b f j = d j := by
  unfold blk
  rw [if_neg (by omega)]
theorem blk_congr (d : Nat → Int32) (b : Nat) {f g : Nat → Int32} (h : ∀ j, j < 16 → f j = g j) : blk d b f = blk d b g := by
  funext j
  unfold blk
  by_cases q : 16 * b ≤ j ∧ j < 16 * b + 16
  · rw [if_pos q, if_pos q, h _ (by omega)]
  · rw [if_neg q, if_neg q]
theorem cpy_blk (ex dk : Nat → Int32) (b fb : Nat) : va_cpy ex dk (16 * fb) (16 * b) 16 = blk dk b (fun j => ex (16 * fb + j)) := rfl
theorem kx_nIlt {k n : Nat} (h : k < n) (hn : n < 2 ^ 31) : (kx_in (nI k) n = true) = True := eq_true (kx_nI h hn)
theorem kx_cpN {a b n n0 n1 : Nat} (h1 : a + n ≤ n0) (h2 : b + n ≤ n1) (h3 : n0 < 2 ^ 31) (h4 : n1 < 2 ^ 31) : kx_cp (nI a) (nI b) (nI n) n0 n1 = true := by
  unfold kx_cp
  rw [nI_clamp (show a < 2 ^ 31 by omega), nI_clamp (show b < 2 ^ 31 by omega), nI_clamp (show n < 2 ^ 31 by omega)]
  simp only [Bool.and_eq_true, decide_eq_true_eq]
  exact ⟨nI_pos (by omega), nI_pos (by omega), nI_pos (by omega), h1, h2⟩
