/-! WELL-FORMED MEMORY -/
theorem nd_len : ∀ (n : Nat) (L : List Nat), L.Nodup → (∀ x ∈ L, x < n) → L.length ≤ n := by
  intro n
  induction n with
  | zero =>
    intro L _ h
    cases L with
    | nil => exact Nat.le_refl _
    | cons x L => exact absurd (h x List.mem_cons_self) (by omega)
  | succ n ih =>
    intro L hn h
    by_cases hm : n ∈ L
    · have h1 := ih (L.erase n) (hn.erase n) (fun x hx => by
        have := (hn.mem_erase_iff).mp hx
        have := h x this.2
        omega)
      rw [List.length_erase_of_mem hm] at h1
      omega
    · have := ih L hn (fun x hx => by
        have h2 := h x hx
        have : x ≠ n := fun e => hm (e ▸ hx)
        omega)
      omega
def tbP (mm : Nat → Int32) (t w : Nat) (L : List Nat) : Prop := 2 ≤ w ∧ w ≤ 6 ∧ mm t = nI w ∧ (∀ q s, 1 ≤ q → q < 16 → mm (16 * q) = nI (t + 1) → bt (mm (16 * q + 2)) s = true → s < 13 / w) ∧ (∀ p s p' s', row mm t w p s → row mm t w p' s' → mm (ra w p s) = mm (ra w p' s') → p = p' ∧ s = s') ∧ L.Nodup ∧ (∀ q, q ∈ L ↔ (1 ≤ q ∧ q < 16 ∧ mm (16 * q) = nI (t + 1))) ∧ chn mm (8 + t) L
def tbA (mm : Nat → Int32) (t : Nat) : Prop := mm t = 0 ∧ mm (8 + t) = 0 ∧ ∀ q, 1 ≤ q → q < 16 → mm (16 * q) ≠ nI (t + 1)
def TB (mm : Nat → Int32) (t : Nat) : Prop := tbA mm t ∨ ∃ w L, tbP mm t w L
def FP (mm : Nat → Int32) : Prop := ∀ q, 1 ≤ q → q < 16 → mm (16 * q) = 0 → mm (16 * q + 1) = 0 ∧ mm (16 * q + 2) = 0
def WF (mm : Nat → Int32) : Prop := (∀ t, t < 5 → TB mm t) ∧ FP mm
section WFS
variable {mm m : Nat → Int32} {t w : Nat} {L : List Nat}
theorem tbP.pgs (h : tbP mm t w L) : pgs mm t L := fun q hq => (h.2.2.2.2.2.2.1 q).mp hq
theorem tbP.len (h : tbP mm t w L) : L.length < 16 := by
  have h1 := nd_len 16 (0 :: L) (List.nodup_cons.mpr ⟨fun z => by have := (h.pgs 0 z).1; omega, h.2.2.2.2.2.1⟩) (fun x hx => by
    rcases List.mem_cons.mp hx with rfl | hx
    · omega
    · exact (h.pgs x hx).2.1)
  simp only [List.length_cons] at h1
  omega
/-- what a table sees is the same -/
def tsame (mm m : Nat → Int32) (t : Nat) : Prop := m t = mm t ∧ m (8 + t) = mm (8 + t) ∧ ∀ q, 1 ≤ q → q < 16 → (m (16 * q) = nI (t + 1) ↔ mm (16 * q) = nI (t + 1)) ∧ (mm (16 * q) = nI (t + 1) → ∀ j, j < 16 → m (16 * q + j) = mm (16 * q + j))
theorem tsame.rowI (h : tsame mm m t) {p s : Nat} : row m t w p s ↔ row mm t w p s := by
  constructor
  · intro ⟨a, b, c, d, e⟩
    have hc := (((h.2.2 p a b).1).mp c)
    exact ⟨a, b, hc, d, by rw [← (h.2.2 p a b).2 hc 2 (by omega)]; exact e⟩
  · intro ⟨a, b, c, d, e⟩
    exact ⟨a, b, ((h.2.2 p a b).1).mpr c, d, by rw [(h.2.2 p a b).2 c 2 (by omega)]; exact e⟩
theorem tsame.word (h : tsame mm m t) (hw2 : 2 ≤ w) (hw6 : w ≤ 6) {p s c : Nat} (hr : row mm t w p s) (hc : c < w) : m (ra w p s + c) = mm (ra w p s + c) := by
  have hb := ra_bd hw2 hw6 hr.2.1 hr.2.2.2.1 hc
  have := (h.2.2 p hr.1 hr.2.1).2 hr.2.2.1 (ra w p s + c - 16 * p) (by omega)
  rwa [show 16 * p + (ra w p s + c - 16 * p) = ra w p s + c by omega] at this
theorem tsame.keepP (h : tsame mm m t) (hb : tbP mm t w L) : tbP m t w L := by
  obtain ⟨h2, h6, hw, hbits, huq, hnd, hL, hc⟩ := hb
  refine ⟨h2, h6, h.1.trans hw, fun q s a b c d => ?_, fun p s p' s' r1 r2 e => ?_, hnd, fun q => ?_, ?_⟩
  · have hq := ((h.2.2 q a b).1).mp c
    exact hbits q s a b hq (by rw [← (h.2.2 q a b).2 hq 2 (by omega)]; exact d)
  · have r1' := h.rowI.mp r1
    have r2' := h.rowI.mp r2
    refine huq p s p' s' r1' r2' ?_
    have e1 := h.word h2 h6 r1' (c := 0) (by omega)
    have e2 := h.word h2 h6 r2' (c := 0) (by omega)
    rw [Nat.add_zero] at e1 e2
    rw [← e1, ← e2]
    exact e
  · rw [hL q]
    constructor
    · intro ⟨a, b, c⟩; exact ⟨a, b, ((h.2.2 q a b).1).mpr c⟩
    · intro ⟨a, b, c⟩; exact ⟨a, b, ((h.2.2 q a b).1).mp c⟩
  · exact chn_keep L (8 + t) h.2.1 (fun q hq => by
      obtain ⟨a, b, c⟩ := (hL q).mp hq
      exact (h.2.2 q a b).2 c 1 (by omega)) hc
theorem tsame.keepT (h : tsame mm m t) (hb : TB mm t) : TB m t := by
  rcases hb with ⟨h1, h2, h3⟩ | ⟨w, L, hb⟩
  · exact Or.inl ⟨h.1.trans h1, h.2.1.trans h2, fun q a b c => h3 q a b (((h.2.2 q a b).1).mp c)⟩
  · exact Or.inr ⟨w, L, h.keepP hb⟩
theorem tsame.rf (mm : Nat → Int32) (t : Nat) : tsame mm mm t := ⟨rfl, rfl, fun _ _ _ => ⟨Iff.rfl, fun _ _ _ => rfl⟩⟩
theorem tsame.tr {m2 : Nat → Int32} (h1 : tsame mm m t) (h2 : tsame m m2 t) : tsame mm m2 t := ⟨h2.1.trans h1.1, h2.2.1.trans h1.2.1, fun q a b => ⟨((h2.2.2 q a b).1).trans ((h1.2.2 q a b).1), fun c j hj => ((h2.2.2 q a b).2 (((h1.2.2 q a b).1).mpr c) j hj).trans ((h1.2.2 q a b).2 c j hj)⟩⟩
/-- a change inside pages of table t, and of its own link words, is nothing to another -/
theorem tsame_of {t' : Nat} (htt : t ≠ t') (ht : t < 5) (ht' : t' < 5) (hcat : m t' = mm t' ∧ m (8 + t') = mm (8 + t')) (hpg : ∀ q, 1 ≤ q → q < 16 → (m (16 * q) = mm (16 * q) ∨ m (16 * q) = nI (t + 1) ∨ m (16 * q) = 0) ∧ ((∃ j, j < 16 ∧ m (16 * q + j) ≠ mm (16 * q + j)) → mm (16 * q) = nI (t + 1) ∨ mm (16 * q) = 0)) : tsame mm m t' := by
  have hne : nI (t + 1) ≠ nI (t' + 1) := fun z => htt (by have := nI_inj (by omega) (by omega) z; omega)
  have hn0 : (0 : Int32) ≠ nI (t' + 1) := fun z => nI_ne0 (n := t' + 1) (by omega) (by omega) z.symm
  refine ⟨hcat.1, hcat.2, fun q a b => ?_⟩
  obtain ⟨h1, h2⟩ := hpg q a b
  have hk : mm (16 * q) = nI (t' + 1) → ∀ j, j < 16 → m (16 * q + j) = mm (16 * q + j) := fun c j hj => by
    by_cases z : m (16 * q + j) = mm (16 * q + j)
    · exact z
    · rcases h2 ⟨j, hj, z⟩ with x | x
      · exact absurd (x.symm.trans c) hne
      · exact absurd (x.symm.trans c) hn0
  refine ⟨⟨fun c => ?_, fun c => ?_⟩, hk⟩
  · rcases h1 with x | x | x
    · exact x.symm.trans c
    · exact absurd (x.symm.trans c) hne
    · exact absurd (x.symm.trans c) hn0
  · exact (hk c 0 (by omega)).trans c
end WFS
theorem bt_shl1 {s i : Nat} (hs : s < 32) (hi : i < 32) : bt ((1 : Int32) <<< (nI s &&& 31)) i = decide (i = s) := by
  rw [b_shl s hs _ hi]
  by_cases h : s ≤ i
  · rw [decide_eq_true h, bt_1 _ (by omega), Bool.true_and]
    by_cases e : i = s
    · subst e
      rw [decide_eq_true rfl, decide_eq_true (by omega)]
    · rw [decide_eq_false e, decide_eq_false (by omega)]
  · rw [decide_eq_false h, Bool.false_and, decide_eq_false (by omega)]
theorem bt_msk {s i : Nat} (hs : s < 32) (hi : i < 32) : bt (msk s) i = !decide (i = s) := by
  unfold msk
  rw [b_xor, bt_shl1 hs hi, b_m1 i hi]
  cases decide (i = s) <;> rfl
theorem bt_lt {x : Int32} {i : Nat} (h : bt x i = true) : i < 32 := by
  by_cases q : i < 32
  · exact q
  · rw [b_big (by omega)] at h
    cases h
section PUT
variable {mm : Nat → Int32} {t w p s : Nat} {L : List Nat} {sg : Nat → Int32}
theorem putR_keep (hw2 : 2 ≤ w) (hw6 : w ≤ 6) (hs : s < 13 / w) {j : Nat} (h : j < 16 * p + 2 ∨ 16 * p + 16 ≤ j) : putR mm w p s sg j = mm j := by
  have hb := rw_bd (p := p) hw2 hw6 hs
  unfold putR
  rw [if_neg (by omega), if_neg (by omega)]
theorem putR_2 (hw2 : 2 ≤ w) (hw6 : w ≤ 6) (hs : s < 13 / w) : putR mm w p s sg (16 * p + 2) = mm (16 * p + 2) ||| ((1 : Int32) <<< (nI s &&& 31)) := by
  have hb := rw_bd (p := p) hw2 hw6 hs
  unfold putR
  rw [if_neg (by omega), if_pos rfl]
theorem putR_new (hw2 : 2 ≤ w) (hw6 : w ≤ 6) : putR mm w p s sg (ra w p s) = sg 0 := by
  unfold putR
  rw [if_pos (by omega), Nat.sub_self]
theorem ra_apart (hw2 : 2 ≤ w) (hw6 : w ≤ 6) {p' s' c : Nat} (hs : s < 13 / w) (hs' : s' < 13 / w) (hc : c < w) (h : ¬ (p' = p ∧ s' = s)) : ¬ (ra w p s ≤ ra w p' s' + c ∧ ra w p' s' + c < ra w p s + w) ∧ ra w p' s' + c ≠ 16 * p + 2 := by
  have hb := rw_bd (p := p) hw2 hw6 hs
  have hb' := rw_bd (p := p') hw2 hw6 hs'
  by_cases e : p' = p
  · subst e
    have hss : s' ≠ s := fun z => h ⟨rfl, z⟩
    refine ⟨?_, by omega⟩
    unfold ra
    intro ⟨h1, h2⟩
    rcases Nat.lt_or_ge s' s with g | g
    · have : (s' + 1) * w ≤ s * w := Nat.mul_le_mul_right w g
      rw [Nat.succ_mul] at this
      omega
    · have : (s + 1) * w ≤ s' * w := Nat.mul_le_mul_right w (by omega)
      rw [Nat.succ_mul] at this
      omega
  · exact ⟨by omega, by omega⟩
theorem putR_old (hw2 : 2 ≤ w) (hw6 : w ≤ 6) {p' s' c : Nat} (hs : s < 13 / w) (hs' : s' < 13 / w) (hc : c < w) (h : ¬ (p' = p ∧ s' = s)) : putR mm w p s sg (ra w p' s' + c) = mm (ra w p' s' + c) := by
  have := ra_apart hw2 hw6 hs hs' hc h
  unfold putR
  rw [if_neg this.1, if_neg this.2]
theorem putR_row (hw2 : 2 ≤ w) (hw6 : w ≤ 6) (hs : s < 13 / w) (hp1 : 1 ≤ p) (hp : p < 16) (hpg : mm (16 * p) = nI (t + 1)) {p' s' : Nat} : row (putR mm w p s sg) t w p' s' ↔ (row mm t w p' s' ∨ (p' = p ∧ s' = s)) := by
  have hd := d7 hw2
  unfold row
  constructor
  · intro ⟨a, b, c, d, e⟩
    rw [putR_keep hw2 hw6 hs (by omega)] at c
    by_cases q : p' = p
    · subst q
      rw [putR_2 hw2 hw6 hs, b_or, bt_shl1 (by omega) (by omega)] at e
      by_cases z : s' = s
      · exact Or.inr ⟨rfl, z⟩
      · rw [decide_eq_false z, Bool.or_false] at e
        exact Or.inl ⟨a, b, c, d, e⟩
    · rw [putR_keep hw2 hw6 hs (by omega)] at e
      exact Or.inl ⟨a, b, c, d, e⟩
  · intro h
    rcases h with ⟨a, b, c, d, e⟩ | ⟨rfl, rfl⟩
    · refine ⟨a, b, by rw [putR_keep hw2 hw6 hs (by omega)]; exact c, d, ?_⟩
      by_cases q : p' = p
      · subst q
        rw [putR_2 hw2 hw6 hs, b_or, e, Bool.true_or]
      · rw [putR_keep hw2 hw6 hs (by omega)]
        exact e
    · refine ⟨hp1, hp, by rw [putR_keep hw2 hw6 hs (by omega)]; exact hpg, hs, ?_⟩
      rw [putR_2 hw2 hw6 hs, b_or, bt_shl1 (by omega) (by omega), decide_eq_true rfl, Bool.or_true]
theorem putR_tbP (h : tbP mm t w L) (hp1 : 1 ≤ p) (hp : p < 16) (hpg : mm (16 * p) = nI (t + 1)) (ht : t < 5) (hs : s < 13 / w) (hno : ∀ p' s', row mm t w p' s' → mm (ra w p' s') ≠ sg 0) : tbP (putR mm w p s sg) t w L := by
  obtain ⟨hw2, hw6, hw, hbits, huq, hnd, hL, hc⟩ := h
  have hd := d7 hw2
  have keyo : ∀ {p' s'}, row mm t w p' s' → ¬ (p' = p ∧ s' = s) → putR mm w p s sg (ra w p' s') = mm (ra w p' s') := fun {p' s'} hr hne => by
    have := putR_old (mm := mm) (sg := sg) hw2 hw6 hs hr.2.2.2.1 (c := 0) (by omega) hne
    rwa [Nat.add_zero] at this
  refine ⟨hw2, hw6, by rw [putR_keep hw2 hw6 hs (by omega)]; exact hw, fun q s' a b c d => ?_, fun p1 s1 p2 s2 r1 r2 e => ?_, hnd, fun q => ?_, ?_⟩
  · rw [putR_keep hw2 hw6 hs (by omega)] at c
    by_cases z : q = p
    · subst z
      have h32 := bt_lt d
      rw [putR_2 hw2 hw6 hs, b_or, bt_shl1 (by omega) h32] at d
      by_cases y : s' = s
      · subst y; exact hs
      · rw [decide_eq_false y, Bool.or_false] at d
        exact hbits q s' a b c d
    · rw [putR_keep hw2 hw6 hs (by omega)] at d
      exact hbits q s' a b c d
  · have r1' := (putR_row hw2 hw6 hs hp1 hp hpg).mp r1
    have r2' := (putR_row hw2 hw6 hs hp1 hp hpg).mp r2
    by_cases e1 : p1 = p ∧ s1 = s
    · by_cases e2 : p2 = p ∧ s2 = s
      · exact ⟨e1.1.trans e2.1.symm, e1.2.trans e2.2.symm⟩
      · have r2'' := r2'.resolve_right e2
        rw [e1.1, e1.2, putR_new hw2 hw6, keyo r2'' e2] at e
        exact absurd e.symm (hno p2 s2 r2'')
    · have r1'' := r1'.resolve_right e1
      by_cases e2 : p2 = p ∧ s2 = s
      · rw [e2.1, e2.2, putR_new hw2 hw6, keyo r1'' e1] at e
        exact absurd e (hno p1 s1 r1'')
      · have r2'' := r2'.resolve_right e2
        rw [keyo r1'' e1, keyo r2'' e2] at e
        exact huq p1 s1 p2 s2 r1'' r2'' e
  · rw [hL q]
    constructor
    · intro ⟨a, b, c⟩; exact ⟨a, b, by rw [putR_keep hw2 hw6 hs (by omega)]; exact c⟩
    · intro ⟨a, b, c⟩; exact ⟨a, b, by rw [putR_keep hw2 hw6 hs (by omega)] at c; exact c⟩
  · exact chn_keep L (8 + t) (putR_keep hw2 hw6 hs (by omega)) (fun q hq => putR_keep hw2 hw6 hs (by omega)) hc
theorem putR_same (hw2 : 2 ≤ w) (hw6 : w ≤ 6) (ht : t < 5) (hp1 : 1 ≤ p) (hp : p < 16) (hpg : mm (16 * p) = nI (t + 1)) (hs : s < 13 / w) {t' : Nat} (htt : t ≠ t') (ht' : t' < 5) : tsame mm (putR mm w p s sg) t' := by
  refine tsame_of htt ht ht' ⟨putR_keep hw2 hw6 hs (by omega), putR_keep hw2 hw6 hs (by omega)⟩ (fun q a b => ⟨Or.inl (putR_keep hw2 hw6 hs (by omega)), fun ⟨j, hj, hne⟩ => ?_⟩)
  by_cases e : q = p
  · subst e; exact Or.inl hpg
  · exact absurd (putR_keep hw2 hw6 hs (by omega)) hne
theorem putR_FP (hw2 : 2 ≤ w) (hw6 : w ≤ 6) (hs : s < 13 / w) (hpg : mm (16 * p) ≠ 0) (h : FP mm) : FP (putR mm w p s sg) := fun q a b c => by
  rw [putR_keep hw2 hw6 hs (by omega)] at c
  have hne : q ≠ p := fun z => hpg (z ▸ c)
  have := h q a b c
  rw [putR_keep hw2 hw6 hs (by omega), putR_keep hw2 hw6 hs (by omega)]
  exact this
end PUT
