/-! WELL-FORMED MEMORY: a new page, a row out, a table made, dropped, a word changed -/
theorem endp_mem : ∀ (L : List Nat) (a : Nat), (L = [] ∧ endp a L = a) ∨ ∃ q ∈ L, endp a L = 16 * q + 1 := by
  intro L
  induction L with
  | nil => intro a; exact Or.inl ⟨rfl, rfl⟩
  | cons q L ih =>
    intro a
    rcases ih (16 * q + 1) with ⟨h1, h2⟩ | ⟨x, h1, h2⟩
    · exact Or.inr ⟨q, List.mem_cons_self, h2⟩
    · exact Or.inr ⟨x, List.mem_cons_of_mem _ h1, h2⟩
theorem lnk_mem (p : Nat) : ∀ (L : List Nat) (a : Nat), p ∈ L → lnk p a L = a ∨ ∃ q ∈ L, q ≠ p ∧ lnk p a L = 16 * q + 1 := by
  intro L
  induction L with
  | nil => intro a h; cases h
  | cons q L ih =>
    intro a h
    unfold lnk
    by_cases e : q = p
    · rw [if_pos e]; exact Or.inl rfl
    · rw [if_neg e]
      rcases ih (16 * q + 1) ((List.mem_cons.mp h).resolve_left (fun z => e z.symm)) with h1 | ⟨x, h1, h2, h3⟩
      · exact Or.inr ⟨q, List.mem_cons_self, e, h1⟩
      · exact Or.inr ⟨x, List.mem_cons_of_mem _ h1, h2, h3⟩
theorem chn_app {mm : Nat → Int32} {p : Nat} : ∀ (L : List Nat) (a : Nat), chn mm a L → (∀ q ∈ L, a ≠ 16 * q + 1) → L.Nodup → a ≠ 16 * p + 1 → p ∉ L → mm (16 * p + 1) = 0 → chn (upd mm (endp a L) (nI p)) a (L ++ [p]) := by
  intro L
  induction L with
  | nil =>
    intro a hc _ _ ha hp h0
    refine ⟨pk_us, ?_⟩
    show upd mm a (nI p) (16 * p + 1) = 0
    rw [pk_un (fun z => ha z.symm)]
    exact h0
  | cons q L ih =>
    intro a hc hne hnd ha hp h0
    have hq := List.nodup_cons.mp hnd
    have hx1 : ∀ x ∈ L, 16 * q + 1 ≠ 16 * x + 1 := fun x hx z => by
      have e : q = x := by omega
      subst e
      exact hq.1 hx
    have hx2 : 16 * q + 1 ≠ 16 * p + 1 := fun z => by
      have e : q = p := by omega
      subst e
      exact hp List.mem_cons_self
    refine ⟨?_, ih (16 * q + 1) hc.2 hx1 hq.2 hx2 (fun z => hp (List.mem_cons_of_mem _ z)) h0⟩
    show upd mm (endp (16 * q + 1) L) (nI p) a = nI q
    rw [pk_un ?_]
    · exact hc.1
    · rcases endp_mem L (16 * q + 1) with ⟨-, h⟩ | ⟨x, hx, h⟩
      · rw [h]; exact hne q List.mem_cons_self
      · rw [h]; exact hne x (List.mem_cons_of_mem _ hx)
theorem chn_cut {mm : Nat → Int32} {p : Nat} : ∀ (L : List Nat) (a : Nat), chn mm a L → (∀ q ∈ L, a ≠ 16 * q + 1) → L.Nodup → p ∈ L → chn (upd mm (lnk p a L) (mm (16 * p + 1))) a (L.erase p) := by
  intro L
  induction L with
  | nil => intro a _ _ _ h; cases h
  | cons q L ih =>
    intro a hc hne hnd hp
    have hq := List.nodup_cons.mp hnd
    unfold lnk
    by_cases e : q = p
    · subst e
      rw [if_pos rfl, List.erase_cons_head]
      have hc2 := hc.2
      cases L with
      | nil =>
        show upd mm a _ a = 0
        rw [pk_us]
        exact hc2
      | cons x L =>
        refine ⟨?_, chn_keep L (16 * x + 1) (pk_un (fun z => hne x (List.mem_cons_of_mem _ List.mem_cons_self) z.symm)) (fun y hy => pk_un (fun z => hne y (List.mem_cons_of_mem _ (List.mem_cons_of_mem _ hy)) z.symm)) hc2.2⟩
        rw [pk_us]
        exact hc2.1
    · have hp' := (List.mem_cons.mp hp).resolve_left (fun z => e z.symm)
      rw [if_neg e, List.erase_cons_tail (by simpa using e)]
      have hx1 : ∀ x ∈ L, 16 * q + 1 ≠ 16 * x + 1 := fun x hx z => by
        have e : q = x := by omega
        subst e
        exact hq.1 hx
      refine ⟨?_, ih (16 * q + 1) hc.2 hx1 hq.2 hp'⟩
      rw [pk_un ?_]
      · exact hc.1
      · rcases lnk_mem p L (16 * q + 1) hp' with h | ⟨x, hx, -, h⟩
        · rw [h]; exact hne q List.mem_cons_self
        · rw [h]; exact hne x (List.mem_cons_of_mem _ hx)
section NEWP
variable {mm : Nat → Int32} {t w p : Nat} {L : List Nat}
theorem newP_at {e j : Nat} (h1 : j ≠ e) (h2 : j ≠ 16 * p) : newP mm t e p j = mm j := by
  unfold newP
  rw [pk_un h2, pk_un h1]
theorem newP_e (h : tbP mm t w L) : endp (8 + t) L = 8 + t ∨ ∃ q, q ∈ L ∧ endp (8 + t) L = 16 * q + 1 := by
  rcases endp_mem L (8 + t) with ⟨-, h⟩ | ⟨q, h1, h2⟩
  · exact Or.inl h
  · exact Or.inr ⟨q, h1, h2⟩
theorem newP_0 (ht : t < 5) (h : tbP mm t w L) {q : Nat} (hq1 : 1 ≤ q) (hqp : q ≠ p) : newP mm t (endp (8 + t) L) p (16 * q) = mm (16 * q) := by
  refine newP_at (fun z => ?_) (by omega)
  rcases newP_e h with h1 | ⟨x, hx, h1⟩ <;> omega
theorem newP_p (hp1 : 1 ≤ p) : newP mm t (endp (8 + t) L) p (16 * p) = nI (t + 1) := by
  unfold newP
  rw [pk_us]
theorem newP_j (ht : t < 5) (h : tbP mm t w L) (hp1 : 1 ≤ p) {q j : Nat} (hq1 : 1 ≤ q) (hj : 2 ≤ j) (hj2 : j < 16) : newP mm t (endp (8 + t) L) p (16 * q + j) = mm (16 * q + j) := by
  refine newP_at (fun z => ?_) (by omega)
  rcases newP_e h with h1 | ⟨x, hx, h1⟩ <;> omega
theorem newP_row (ht : t < 5) (h : tbP mm t w L) (hp1 : 1 ≤ p) (hp0 : mm (16 * p) = 0) (hp2 : mm (16 * p + 2) = 0) {p' s' : Nat} : row (newP mm t (endp (8 + t) L) p) t w p' s' ↔ row mm t w p' s' := by
  have hn0 : (0 : Int32) ≠ nI (t + 1) := fun z => nI_ne0 (n := t + 1) (by omega) (by omega) z.symm
  unfold row
  constructor
  · intro ⟨a, b, c, d, e⟩
    rw [newP_j ht h hp1 a (by omega) (by omega)] at e
    by_cases q : p' = p
    · subst q
      rw [hp2, b_0] at e
      cases e
    · rw [newP_0 ht h a q] at c
      exact ⟨a, b, c, d, e⟩
  · intro ⟨a, b, c, d, e⟩
    have q : p' ≠ p := fun z => hn0 (by rw [← hp0, ← z]; exact c)
    exact ⟨a, b, by rw [newP_0 ht h a q]; exact c, d, by rw [newP_j ht h hp1 a (by omega) (by omega)]; exact e⟩
theorem newP_word (ht : t < 5) (h : tbP mm t w L) (hp1 : 1 ≤ p) {p' s' c : Nat} (hr1 : 1 ≤ p') (hr2 : p' < 16) (hs : s' < 13 / w) (hc : c < w) : newP mm t (endp (8 + t) L) p (ra w p' s' + c) = mm (ra w p' s' + c) := by
  have hb := ra_bd h.1 h.2.1 hr2 hs hc
  have := newP_j (p := p) ht h hp1 (q := p') (j := ra w p' s' + c - 16 * p') hr1 (by omega) (by omega)
  rwa [show 16 * p' + (ra w p' s' + c - 16 * p') = ra w p' s' + c by omega] at this
theorem newP_tbP (ht : t < 5) (h : tbP mm t w L) (hp1 : 1 ≤ p) (hp : p < 16) (hp0 : mm (16 * p) = 0) (hpf : mm (16 * p + 1) = 0 ∧ mm (16 * p + 2) = 0) : tbP (newP mm t (endp (8 + t) L) p) t w (L ++ [p]) := by
  have hn0 : (0 : Int32) ≠ nI (t + 1) := fun z => nI_ne0 (n := t + 1) (by omega) (by omega) z.symm
  have hpL : p ∉ L := fun z => hn0 (by rw [← hp0]; exact (h.pgs p z).2.2)
  have h' := h
  obtain ⟨hw2, hw6, hw, hbits, huq, hnd, hL, hc⟩ := h'
  refine ⟨hw2, hw6, by rw [newP_t mm ht h.pgs hp1]; exact hw, fun q s' a b c d => ?_, fun p1 s1 p2 s2 r1 r2 e => ?_, ?_, fun q => ?_, ?_⟩
  · rw [newP_j ht h hp1 a (by omega) (by omega)] at d
    by_cases z : q = p
    · subst z
      rw [hpf.2, b_0] at d
      cases d
    · rw [newP_0 ht h a z] at c
      exact hbits q s' a b c d
  · have r1' := (newP_row ht h hp1 hp0 hpf.2).mp r1
    have r2' := (newP_row ht h hp1 hp0 hpf.2).mp r2
    have e1 := newP_word (p := p) ht h hp1 r1'.1 r1'.2.1 r1'.2.2.2.1 (c := 0) (by omega)
    have e2 := newP_word (p := p) ht h hp1 r2'.1 r2'.2.1 r2'.2.2.2.1 (c := 0) (by omega)
    rw [Nat.add_zero] at e1 e2
    rw [e1, e2] at e
    exact huq p1 s1 p2 s2 r1' r2' e
  · exact List.nodup_append.mpr ⟨hnd, List.nodup_cons.mpr ⟨List.not_mem_nil, List.nodup_nil⟩, fun a ha b hb => by
      have : b = p := by simpa using hb
      subst this
      exact fun z => hpL (z ▸ ha)⟩
  · rw [List.mem_append, hL q, List.mem_singleton]
    constructor
    · intro z
      rcases z with ⟨a, b, c⟩ | rfl
      · refine ⟨a, b, ?_⟩
        rw [newP_0 ht h a (fun y => hn0 (by rw [← hp0, ← y]; exact c))]
        exact c
      · exact ⟨hp1, hp, newP_p hp1⟩
    · intro ⟨a, b, c⟩
      by_cases z : q = p
      · exact Or.inr z
      · rw [newP_0 ht h a z] at c
        exact Or.inl ⟨a, b, c⟩
  · have := chn_app (p := p) L (8 + t) hc (fun q hq => by have := (h.pgs q hq).1; omega) hnd (by omega) hpL hpf.1
    exact chn_keep (L ++ [p]) (8 + t) (pk_un (by omega)) (fun q hq => pk_un (by omega)) this
theorem newP_same (ht : t < 5) (h : tbP mm t w L) (hp1 : 1 ≤ p) (hp0 : mm (16 * p) = 0) {t' : Nat} (htt : t ≠ t') (ht' : t' < 5) : tsame mm (newP mm t (endp (8 + t) L) p) t' := by
  have he := newP_e h
  refine tsame_of htt ht ht' ⟨newP_at (fun z => ?_) (by omega), newP_at (fun z => ?_) (by omega)⟩ (fun q a b => ⟨?_, fun ⟨j, hj, hne⟩ => ?_⟩)
  · rcases he with h1 | ⟨x, hx, h1⟩
    · omega
    · have := (h.pgs x hx).1
      omega
  · rcases he with h1 | ⟨x, hx, h1⟩
    · omega
    · have := (h.pgs x hx).1
      omega
  · by_cases z : q = p
    · subst z; exact Or.inr (Or.inl (newP_p hp1))
    · exact Or.inl (newP_0 ht h a z)
  · by_cases z : q = p
    · subst z; exact Or.inr hp0
    · rcases he with h1 | ⟨x, hx, h1⟩
      · exact absurd (newP_at (by omega) (by omega)) hne
      · by_cases y : q = x
        · subst y; exact Or.inl (h.pgs q hx).2.2
        · exact absurd (newP_at (by omega) (by omega)) hne
theorem newP_FP (ht : t < 5) (h : tbP mm t w L) (hp1 : 1 ≤ p) (hf : FP mm) : FP (newP mm t (endp (8 + t) L) p) := fun q a b c => by
  have hn0 : (0 : Int32) ≠ nI (t + 1) := fun z => nI_ne0 (n := t + 1) (by omega) (by omega) z.symm
  by_cases z : q = p
  · subst z
    rw [newP_p hp1] at c
    exact absurd c.symm hn0
  · rw [newP_0 ht h a z] at c
    refine ⟨?_, by rw [newP_j ht h hp1 a (j := 2) (by omega) (by omega)]; exact (hf q a b c).2⟩
    rw [newP_at (j := 16 * q + 1) ?_ (by omega)]
    · exact (hf q a b c).1
    · rcases newP_e h with h1 | ⟨x, hx, h1⟩
      · omega
      · intro y
        have : q = x := by omega
        subst this
        exact hn0 (by rw [← c]; exact (h.pgs q hx).2.2)
end NEWP
