/-! WELL-FORMED MEMORY: a table made, dropped, a word changed; loaded; empty -/
theorem same_of_eq {mm m : Nat → Int32} (h : ∀ j, j < 256 → m j = mm j) {t : Nat} (ht : t < 5) : tsame mm m t := ⟨h t (by omega), h (8 + t) (by omega), fun q a b => ⟨by rw [h (16 * q) (by omega)], fun _ j hj => h (16 * q + j) (by omega)⟩⟩
theorem WF_congr {mm m : Nat → Int32} (h : ∀ j, j < 256 → m j = mm j) (hwf : WF mm) : WF m :=
  ⟨fun t ht => (same_of_eq h ht).keepT (hwf.1 t ht), fun q a b c => by
    rw [h _ (by omega)] at c
    rw [h _ (by omega), h _ (by omega)]
    exact hwf.2 q a b c⟩
theorem WF_zero {mm : Nat → Int32} (h : ∀ j, j < 256 → mm j = 0) : WF mm :=
  ⟨fun t ht => Or.inl ⟨h t (by omega), h (8 + t) (by omega), fun q a b c => by
    rw [h _ (by omega)] at c
    exact nI_ne0 (n := t + 1) (by omega) (by omega) c.symm⟩, fun q a b _ => ⟨h _ (by omega), h _ (by omega)⟩⟩
theorem tb_w {mm : Nat → Int32} (hwf : WF mm) {t : Nat} (ht : t < 5) (h : mm t ≠ 0) : ∃ w L, tbP mm t w L := by
  rcases hwf.1 t ht with h1 | h1
  · exact absurd h1.1 h
  · exact h1
section MK
variable {mm : Nat → Int32} {t w : Nat}
theorem mk_same_ {t' : Nat} (ht : t < 5) (ht' : t' < 5) (htt : t ≠ t') (v : Int32) : tsame mm (upd mm t v) t' := ⟨pk_un (by omega), pk_un (by omega), fun q a b => ⟨by rw [pk_un (by omega)], fun _ j hj => pk_un (by omega)⟩⟩
theorem create_WF (hwf : WF mm) (ht : t < 5) (h0 : mm t = 0) (hw2 : 2 ≤ w) (hw6 : w ≤ 6) : WF (upd mm t (nI w)) ∧ ∀ t', t' < 5 → t ≠ t' → tsame mm (upd mm t (nI w)) t' := by
  have hs : ∀ t', t' < 5 → t ≠ t' → tsame mm (upd mm t (nI w)) t' := fun t' ht' htt => mk_same_ ht ht' htt _
  have ha : tbA mm t := by
    rcases hwf.1 t ht with h | ⟨w', L, h⟩
    · exact h
    · have := h.2.2.1
      rw [h0] at this
      exact absurd this.symm (nI_ne0 (by have := h.1; omega) (by have := h.2.1; omega))
  have hno : ∀ q, 1 ≤ q → q < 16 → upd mm t (nI w) (16 * q) ≠ nI (t + 1) := fun q a b c => by
    rw [pk_un (by omega)] at c
    exact ha.2.2 q a b c
  refine ⟨⟨fun t' ht' => ?_, fun q a b c => ?_⟩, hs⟩
  · by_cases e : t = t'
    · subst e
      refine Or.inr ⟨w, [], hw2, hw6, pk_us, fun q s a b c d => absurd c (hno q a b), fun p s p' s' r1 r2 _ => absurd r1.2.2.1 (hno p r1.1 r1.2.1), List.nodup_nil, fun q => ⟨fun h => absurd h List.not_mem_nil, fun ⟨a, b, c⟩ => absurd c (hno q a b)⟩, ?_⟩
      show upd mm t (nI w) (8 + t) = 0
      rw [pk_un (by omega)]
      exact ha.2.1
    · exact (hs t' ht' e).keepT (hwf.1 t' ht')
  · rw [pk_un (by omega)] at c
    rw [pk_un (by omega), pk_un (by omega)]
    exact hwf.2 q a b c
theorem drop_WF (hwf : WF mm) (ht : t < 5) : WF (drpM mm t) ∧ ∀ t', t' < 5 → t ≠ t' → tsame mm (drpM mm t) t' := by
  have hn0 : (0 : Int32) ≠ nI (t + 1) := fun z => nI_ne0 (n := t + 1) (by omega) (by omega) z.symm
  have hpg : ∀ q j, 1 ≤ q → q < 16 → j < 16 → drpM mm t (16 * q + j) = if mm (16 * q) = nI (t + 1) then 0 else mm (16 * q + j) := fun q j a b hj => by
    unfold drpM drpP
    rw [if_neg (by omega)]
    have e : (16 * q + j) / 16 = q := by omega
    rw [e]
    by_cases h : mm (16 * q) = nI (t + 1)
    · rw [if_pos ⟨by omega, by omega, h⟩, if_pos h]
    · rw [if_neg (fun z => h z.2.2), if_neg h]
  have hpg0 : ∀ q, 1 ≤ q → q < 16 → drpM mm t (16 * q) = if mm (16 * q) = nI (t + 1) then 0 else mm (16 * q) := fun q a b => by
    have := hpg q 0 a b (by omega)
    rwa [Nat.add_zero] at this
  have hlo : ∀ j, j < 16 → j ≠ t → j ≠ 8 + t → drpM mm t j = mm j := fun j hj h1 h2 => by
    unfold drpM
    rw [if_neg (by omega), drpP_0 mm t 16 (Or.inr hj)]
  have hs : ∀ t', t' < 5 → t ≠ t' → tsame mm (drpM mm t) t' := fun t' ht' htt => by
    refine tsame_of htt ht ht' ⟨hlo t' (by omega) (by omega) (by omega), hlo (8 + t') (by omega) (by omega) (by omega)⟩ (fun q a b => ⟨?_, fun ⟨j, hj, hne⟩ => ?_⟩)
    · rw [hpg0 q a b]
      by_cases h : mm (16 * q) = nI (t + 1)
      · rw [if_pos h]; exact Or.inr (Or.inr rfl)
      · rw [if_neg h]; exact Or.inl rfl
    · rw [hpg q j a b hj] at hne
      by_cases h : mm (16 * q) = nI (t + 1)
      · exact Or.inl h
      · rw [if_neg h] at hne
        exact absurd rfl hne
  refine ⟨⟨fun t' ht' => ?_, fun q a b c => ?_⟩, hs⟩
  · by_cases e : t = t'
    · subst e
      refine Or.inl ⟨?_, ?_, fun q a b c => ?_⟩
      · unfold drpM; rw [if_pos (Or.inl rfl)]
      · unfold drpM; rw [if_pos (Or.inr rfl)]
      · rw [hpg0 q a b] at c
        by_cases h : mm (16 * q) = nI (t + 1)
        · rw [if_pos h] at c; exact hn0 c
        · rw [if_neg h] at c; exact h c
    · exact (hs t' ht' e).keepT (hwf.1 t' ht')
  · rw [hpg q 1 a b (by omega), hpg q 2 a b (by omega)]
    rw [hpg0 q a b] at c
    by_cases h : mm (16 * q) = nI (t + 1)
    · rw [if_pos h, if_pos h]; exact ⟨rfl, rfl⟩
    · rw [if_neg h] at c
      rw [if_neg h, if_neg h]
      exact hwf.2 q a b c
theorem upd_WF {L : List Nat} (hwf : WF mm) (ht : t < 5) (h : tbP mm t w L) {p s c : Nat} (hr : row mm t w p s) (hc1 : 1 ≤ c) (hc : c < w) (v : Int32) : WF (upd mm (ra w p s + c) v) ∧ ∀ t', t' < 5 → t ≠ t' → tsame mm (upd mm (ra w p s + c) v) t' := by
  have hn0 : (0 : Int32) ≠ nI (t + 1) := fun z => nI_ne0 (n := t + 1) (by omega) (by omega) z.symm
  have h' := h
  obtain ⟨hw2, hw6, hw, hbits, huq, hnd, hL, hcn⟩ := h'
  have hb := ra_bd hw2 hw6 hr.2.1 hr.2.2.2.1 hc
  have hp1 := hr.1
  have hk : ∀ j, j < 16 * p + 3 ∨ 16 * p + 16 ≤ j → upd mm (ra w p s + c) v j = mm j := fun j hj => pk_un (by omega)
  have hrow : ∀ {p' s'}, row (upd mm (ra w p s + c) v) t w p' s' ↔ row mm t w p' s' := fun {p' s'} => by
    unfold row
    have e1 : upd mm (ra w p s + c) v (16 * p') = mm (16 * p') := hk _ (by omega)
    have e2 : upd mm (ra w p s + c) v (16 * p' + 2) = mm (16 * p' + 2) := hk _ (by omega)
    rw [e1, e2]
  have hkey : ∀ {p' s'}, row mm t w p' s' → upd mm (ra w p s + c) v (ra w p' s') = mm (ra w p' s') := fun {p' s'} hr' => by
    refine pk_un (fun z => ?_)
    by_cases e : p' = p ∧ s' = s
    · rw [e.1, e.2] at z; omega
    · have := ra_apart hw2 hw6 hr.2.2.2.1 hr'.2.2.2.1 (c := 0) (by omega) e
      omega
  have hs : ∀ t', t' < 5 → t ≠ t' → tsame mm (upd mm (ra w p s + c) v) t' := fun t' ht' htt => by
    refine tsame_of htt ht ht' ⟨hk _ (by omega), hk _ (by omega)⟩ (fun q a b => ⟨Or.inl (hk _ (by omega)), fun ⟨j, hj, hne⟩ => ?_⟩)
    by_cases e : q = p
    · subst e; exact Or.inl hr.2.2.1
    · exact absurd (hk _ (by omega)) hne
  refine ⟨⟨fun t' ht' => ?_, fun q a b d => ?_⟩, hs⟩
  · by_cases e : t = t'
    · subst e
      refine Or.inr ⟨w, L, hw2, hw6, by rw [hk _ (by omega)]; exact hw, fun q s' a b x y => ?_, fun p1 s1 p2 s2 r1 r2 z => ?_, hnd, fun q => ?_, ?_⟩
      · rw [hk _ (by omega)] at x y
        exact hbits q s' a b x y
      · have r1' := hrow.mp r1
        have r2' := hrow.mp r2
        rw [hkey r1', hkey r2'] at z
        exact huq p1 s1 p2 s2 r1' r2' z
      · rw [hL q]
        have e1 : upd mm (ra w p s + c) v (16 * q) = mm (16 * q) := hk _ (by omega)
        rw [e1]
      · exact chn_keep L (8 + t) (hk _ (by omega)) (fun q hq => hk _ (by omega)) hcn
    · exact (hs t' ht' e).keepT (hwf.1 t' ht')
  · rw [hk _ (by omega)] at d
    rw [hk _ (by omega), hk _ (by omega)]
    exact hwf.2 q a b d
end MK
