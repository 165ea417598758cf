/-! WELL-FORMED MEMORY: a row out -/
section DEL
variable {mm : Nat → Int32} {t w p s : Nat} {L : List Nat}
theorem delR_old (hw2 : 2 ≤ w) (hw6 : w ≤ 6) {p' s' c : Nat} (hs : s < 13 / w) (hs' : s' < 13 / w) (hc : c < w) (h : ¬ (p' = p ∧ s' = s)) : delR mm w p s (ra w p' s' + c) = mm (ra w p' s' + c) := by
  have := ra_apart hw2 hw6 hs hs' hc h
  unfold delR
  rw [if_neg this.1, if_neg this.2]
theorem delR_row (hw2 : 2 ≤ w) (hw6 : w ≤ 6) (hs : s < 13 / w) {p' s' : Nat} : row (delR mm w p s) t w p' s' ↔ (row mm t w p' s' ∧ ¬ (p' = p ∧ s' = s)) := by
  have hd := d7 hw2
  unfold row
  constructor
  · intro ⟨a, b, c, d, e⟩
    rw [delR_keep mm hw2 hw6 hs (by omega)] at c
    by_cases q : p' = p
    · subst q
      rw [delR_2 mm hw2 hw6 hs, b_and, bt_msk (by omega) (by omega)] at e
      by_cases z : s' = s
      · rw [decide_eq_true z] at e
        simp at e
      · rw [decide_eq_false z, Bool.not_false, Bool.and_true] at e
        exact ⟨⟨a, b, c, d, e⟩, fun y => z y.2⟩
    · rw [delR_keep mm hw2 hw6 hs (by omega)] at e
      exact ⟨⟨a, b, c, d, e⟩, fun y => q y.1⟩
  · intro ⟨⟨a, b, c, d, e⟩, hne⟩
    refine ⟨a, b, by rw [delR_keep mm hw2 hw6 hs (by omega)]; exact c, d, ?_⟩
    by_cases q : p' = p
    · subst q
      rw [delR_2 mm hw2 hw6 hs, b_and, bt_msk (by omega) (by omega), e, decide_eq_false (fun z => hne ⟨rfl, z⟩)]
      rfl
    · rw [delR_keep mm hw2 hw6 hs (by omega)]
      exact e
theorem delR_tbP (h : tbP mm t w L) (ht : t < 5) (hp1 : 1 ≤ p) (hs : s < 13 / w) : tbP (delR mm w p s) t w L := by
  obtain ⟨hw2, hw6, hw, hbits, huq, hnd, hL, hc⟩ := h
  have hd := d7 hw2
  refine ⟨hw2, hw6, by rw [delR_keep mm hw2 hw6 hs (by omega)]; exact hw, fun q s' a b c d => ?_, fun p1 s1 p2 s2 r1 r2 e => ?_, hnd, fun q => ?_, ?_⟩
  · rw [delR_keep mm hw2 hw6 hs (by omega)] at c
    by_cases z : q = p
    · subst z
      rw [delR_2 mm hw2 hw6 hs, b_and] at d
      exact hbits q s' a b c (by
        cases y : bt (mm (16 * q + 2)) s' with
        | true => rfl
        | false => rw [y] at d; cases d)
    · rw [delR_keep mm hw2 hw6 hs (by omega)] at d
      exact hbits q s' a b c d
  · obtain ⟨r1', n1⟩ := (delR_row hw2 hw6 hs).mp r1
    obtain ⟨r2', n2⟩ := (delR_row hw2 hw6 hs).mp r2
    have e1 := delR_old (mm := mm) hw2 hw6 hs r1'.2.2.2.1 (c := 0) (by omega) n1
    have e2 := delR_old (mm := mm) hw2 hw6 hs r2'.2.2.2.1 (c := 0) (by omega) n2
    rw [Nat.add_zero] at e1 e2
    rw [e1, e2] at e
    exact huq p1 s1 p2 s2 r1' r2' e
  · rw [hL q]
    constructor
    · intro ⟨a, b, c⟩; exact ⟨a, b, by rw [delR_keep mm hw2 hw6 hs (by omega)]; exact c⟩
    · intro ⟨a, b, c⟩; exact ⟨a, b, by rw [delR_keep mm hw2 hw6 hs (by omega)] at c; exact c⟩
  · exact chn_keep L (8 + t) (delR_keep mm hw2 hw6 hs (by omega)) (fun q hq => delR_keep mm hw2 hw6 hs (by omega)) hc
theorem delR_same (hw2 : 2 ≤ w) (hw6 : w ≤ 6) (ht : t < 5) (hp1 : 1 ≤ p) (hpg : mm (16 * p) = nI (t + 1)) (hs : s < 13 / w) {t' : Nat} (htt : t ≠ t') (ht' : t' < 5) : tsame mm (delR mm w p s) t' := by
  refine tsame_of htt ht ht' ⟨delR_keep mm hw2 hw6 hs (by omega), delR_keep mm hw2 hw6 hs (by omega)⟩ (fun q a b => ⟨Or.inl (delR_keep mm hw2 hw6 hs (by omega)), fun ⟨j, hj, hne⟩ => ?_⟩)
  by_cases e : q = p
  · subst e; exact Or.inl hpg
  · exact absurd (delR_keep mm hw2 hw6 hs (by omega)) hne
theorem delR_FP (hw2 : 2 ≤ w) (hw6 : w ≤ 6) (hs : s < 13 / w) (hpg : mm (16 * p) ≠ 0) (h : FP mm) : FP (delR mm w p s) := fun q a b c => by
  rw [delR_keep mm hw2 hw6 hs (by omega)] at c
  have hne : q ≠ p := fun z => hpg (z ▸ c)
  have := h q a b c
  rw [delR_keep mm hw2 hw6 hs (by omega), delR_keep mm hw2 hw6 hs (by omega)]
  exact this
/-- a page without rows goes -/
def cutP (mm : Nat → Int32) (p lk : Nat) : Nat → Int32 := zr (upd mm lk (mm (16 * p + 1))) (16 * p) 16
theorem cutP_at {lk j : Nat} (h1 : j ≠ lk) (h2 : j < 16 * p ∨ 16 * p + 16 ≤ j) : cutP mm p lk j = mm j := by
  unfold cutP
  rw [zr_out _ (by omega), pk_un h1]
theorem cutP_in {lk j : Nat} (h : 16 * p ≤ j ∧ j < 16 * p + 16) : cutP mm p lk j = 0 := zr_in _ h
theorem cutP_lk (h : tbP mm t w L) (hp : p ∈ L) : lnk p (8 + t) L = 8 + t ∨ ∃ q, q ∈ L ∧ q ≠ p ∧ lnk p (8 + t) L = 16 * q + 1 := by
  rcases lnk_mem p L (8 + t) hp with h1 | ⟨q, h1, h2, h3⟩
  · exact Or.inl h1
  · exact Or.inr ⟨q, h1, h2, h3⟩
theorem lnk_bd (h : tbP mm t w L) (ht : t < 5) (hp : p ∈ L) : lnk p (8 + t) L < 256 := by
  rcases cutP_lk h hp with h1 | ⟨q, h1, h2, h3⟩
  · omega
  · have := (h.pgs q h1).2.1
    omega
theorem cutP_0 (h : tbP mm t w L) (ht : t < 5) (hp : p ∈ L) {q : Nat} (hq1 : 1 ≤ q) (hqp : q ≠ p) : cutP mm p (lnk p (8 + t) L) (16 * q) = mm (16 * q) := by
  refine cutP_at (fun z => ?_) (by omega)
  rcases cutP_lk h hp with h1 | ⟨x, hx, -, h1⟩ <;> omega
theorem cutP_j (h : tbP mm t w L) (ht : t < 5) (hp : p ∈ L) {q j : Nat} (hq1 : 1 ≤ q) (hqp : q ≠ p) (hj : 2 ≤ j) (hj2 : j < 16) : cutP mm p (lnk p (8 + t) L) (16 * q + j) = mm (16 * q + j) := by
  refine cutP_at (fun z => ?_) (by omega)
  rcases cutP_lk h hp with h1 | ⟨x, hx, -, h1⟩ <;> omega
theorem cutP_row (h : tbP mm t w L) (ht : t < 5) (hp : p ∈ L) (h2 : mm (16 * p + 2) = 0) {p' s' : Nat} : row (cutP mm p (lnk p (8 + t) L)) t w p' s' ↔ row mm t w p' s' := by
  have hn0 : (0 : Int32) ≠ nI (t + 1) := fun z => nI_ne0 (n := t + 1) (by omega) (by omega) z.symm
  unfold row
  constructor
  · intro ⟨a, b, c, d, e⟩
    by_cases q : p' = p
    · subst q
      rw [cutP_in (by omega)] at c
      exact absurd c hn0
    · rw [cutP_0 h ht hp a q] at c
      rw [cutP_j h ht hp a q (by omega) (by omega)] at e
      exact ⟨a, b, c, d, e⟩
  · intro ⟨a, b, c, d, e⟩
    have q : p' ≠ p := fun z => by
      rw [z, h2, b_0] at e
      cases e
    exact ⟨a, b, by rw [cutP_0 h ht hp a q]; exact c, d, by rw [cutP_j h ht hp a q (by omega) (by omega)]; exact e⟩
theorem cutP_tbP (h : tbP mm t w L) (ht : t < 5) (hp : p ∈ L) (h2 : mm (16 * p + 2) = 0) : tbP (cutP mm p (lnk p (8 + t) L)) t w (L.erase p) := by
  have hn0 : (0 : Int32) ≠ nI (t + 1) := fun z => nI_ne0 (n := t + 1) (by omega) (by omega) z.symm
  have hgp := h.pgs p hp
  have h' := h
  obtain ⟨hw2, hw6, hw, hbits, huq, hnd, hL, hc⟩ := h'
  have hlk := cutP_lk h hp
  have hrp : ∀ {p' s'}, row mm t w p' s' → p' ≠ p := fun {p' s'} hr z => by
    have e := hr.2.2.2.2
    rw [z, h2, b_0] at e
    cases e
  have hwd : ∀ {p' s'}, row mm t w p' s' → cutP mm p (lnk p (8 + t) L) (ra w p' s') = mm (ra w p' s') := fun {p' s'} hr => by
    have hb := ra_bd hw2 hw6 hr.2.1 hr.2.2.2.1 (c := 0) (by omega)
    have := cutP_j h ht hp hr.1 (hrp hr) (j := ra w p' s' - 16 * p') (by omega) (by omega)
    rwa [show 16 * p' + (ra w p' s' - 16 * p') = ra w p' s' by omega] at this
  refine ⟨hw2, hw6, ?_, fun q s' a b c d => ?_, fun p1 s1 p2 s2 r1 r2 e => ?_, hnd.erase p, fun q => ?_, ?_⟩
  · rw [cutP_at ?_ (by omega)]
    · exact hw
    · rcases hlk with h1 | ⟨x, hx, -, h1⟩
      · omega
      · have := (h.pgs x hx).1
        omega
  · by_cases z : q = p
    · subst z
      rw [cutP_in (by omega)] at c
      exact absurd c hn0
    · rw [cutP_0 h ht hp a z] at c
      rw [cutP_j h ht hp a z (by omega) (by omega)] at d
      exact hbits q s' a b c d
  · have r1' := (cutP_row h ht hp h2).mp r1
    have r2' := (cutP_row h ht hp h2).mp r2
    rw [hwd r1', hwd r2'] at e
    exact huq p1 s1 p2 s2 r1' r2' e
  · rw [hnd.mem_erase_iff, hL q]
    constructor
    · intro ⟨z, a, b, c⟩
      exact ⟨a, b, by rw [cutP_0 h ht hp a z]; exact c⟩
    · intro ⟨a, b, c⟩
      have z : q ≠ p := fun y => by
        rw [y, cutP_in (by omega)] at c
        exact hn0 c
      exact ⟨z, a, b, by rw [cutP_0 h ht hp a z] at c; exact c⟩
  · have := chn_cut (p := p) L (8 + t) hc (fun q hq => by have := (h.pgs q hq).1; omega) hnd hp
    exact chn_keep (L.erase p) (8 + t) (zr_out _ (by omega)) (fun q hq => zr_out _ (by
      have := (hnd.mem_erase_iff).mp hq
      have := (h.pgs q this.2).1
      omega)) this
theorem cutP_same (h : tbP mm t w L) (ht : t < 5) (hp : p ∈ L) {t' : Nat} (htt : t ≠ t') (ht' : t' < 5) : tsame mm (cutP mm p (lnk p (8 + t) L)) t' := by
  have hgp := h.pgs p hp
  have he := cutP_lk h hp
  refine tsame_of htt ht ht' ⟨cutP_at (fun z => ?_) (by omega), cutP_at (fun z => ?_) (by omega)⟩ (fun q a b => ⟨?_, fun ⟨j, hj, hne⟩ => ?_⟩)
  · rcases he with h1 | ⟨x, hx, -, h1⟩
    · omega
    · have := (h.pgs x hx).1
      omega
  · rcases he with h1 | ⟨x, hx, -, h1⟩
    · omega
    · have := (h.pgs x hx).1
      omega
  · by_cases z : q = p
    · subst z; exact Or.inr (Or.inr (cutP_in (by omega)))
    · exact Or.inl (cutP_0 h ht hp a z)
  · by_cases z : q = p
    · subst z; exact Or.inl hgp.2.2
    · rcases he with h1 | ⟨x, hx, -, h1⟩
      · exact absurd (cutP_at (by omega) (by omega)) hne
      · by_cases y : q = x
        · subst y; exact Or.inl (h.pgs q hx).2.2
        · exact absurd (cutP_at (by omega) (by omega)) hne
theorem cutP_FP (h : tbP mm t w L) (ht : t < 5) (hp : p ∈ L) (hf : FP mm) : FP (cutP mm p (lnk p (8 + t) L)) := fun q a b c => by
  have hn0 : (0 : Int32) ≠ nI (t + 1) := fun z => nI_ne0 (n := t + 1) (by omega) (by omega) z.symm
  by_cases z : q = p
  · subst z
    exact ⟨cutP_in (by omega), cutP_in (by omega)⟩
  · rw [cutP_0 h ht hp a z] at c
    refine ⟨?_, by rw [cutP_j h ht hp a z (j := 2) (by omega) (by omega)]; exact (hf q a b c).2⟩
    rw [cutP_at (j := 16 * q + 1) ?_ (by omega)]
    · exact (hf q a b c).1
    · rcases cutP_lk h hp with h1 | ⟨x, hx, -, h1⟩
      · omega
      · intro y
        have : q = x := by omega
        subst this
        exact hn0 (by rw [← c]; exact (h.pgs q hx).2.2)
theorem delM_eq (hw2 : 2 ≤ w) (hw6 : w ≤ 6) (hs : s < 13 / w) (lk : Nat) : delM mm w p s lk = if mm (16 * p + 2) &&& msk s = 0 then cutP (delR mm w p s) p lk else delR mm w p s := by
  unfold delM cutP
  rw [delR_keep mm hw2 hw6 hs (j := 16 * p + 1) (by omega)]
end DEL
/-- deleting keeps the memory well-formed, and other tables see nothing of it -/
theorem delM_WF {mm : Nat → Int32} {t w p s : Nat} {L : List Nat} (hwf : WF mm) (ht : t < 5) (h : tbP mm t w L) (hp : p ∈ L) (hs : s < 13 / w) : WF (delM mm w p s (lnk p (8 + t) L)) ∧ ∀ t', t' < 5 → t ≠ t' → tsame mm (delM mm w p s (lnk p (8 + t) L)) t' := by
  have hn0 : (0 : Int32) ≠ nI (t + 1) := fun z => nI_ne0 (n := t + 1) (by omega) (by omega) z.symm
  have hgp := h.pgs p hp
  have hd := delR_tbP (p := p) h ht hgp.1 hs
  have hsd : ∀ t', t' < 5 → t ≠ t' → tsame mm (delR mm w p s) t' := fun t' ht' htt => delR_same h.1 h.2.1 ht hgp.1 hgp.2.2 hs htt ht'
  have hfd : FP (delR mm w p s) := delR_FP h.1 h.2.1 hs (fun z => hn0 (z.symm.trans hgp.2.2)) hwf.2
  rw [delM_eq h.1 h.2.1 hs]
  by_cases h0 : mm (16 * p + 2) &&& msk s = 0
  · rw [if_pos h0]
    have h2 : delR mm w p s (16 * p + 2) = 0 := by rw [delR_2 mm h.1 h.2.1 hs]; exact h0
    have hsame : ∀ t', t' < 5 → t ≠ t' → tsame mm (cutP (delR mm w p s) p (lnk p (8 + t) L)) t' := fun t' ht' htt => (hsd t' ht' htt).tr (cutP_same hd ht hp htt ht')
    refine ⟨⟨fun t' ht' => ?_, cutP_FP hd ht hp hfd⟩, hsame⟩
    by_cases e : t = t'
    · subst e; exact Or.inr ⟨w, _, cutP_tbP hd ht hp h2⟩
    · exact (hsame t' ht' e).keepT (hwf.1 t' ht')
  · rw [if_neg h0]
    refine ⟨⟨fun t' ht' => ?_, hfd⟩, hsd⟩
    by_cases e : t = t'
    · subst e; exact Or.inr ⟨w, _, hd⟩
    · exact (hsd t' ht' e).keepT (hwf.1 t' ht')
theorem insM_WF {mm m : Nat → Int32} {t w : Nat} {L : List Nat} {sg : Nat → Int32} (hwf : WF mm) (ht : t < 5) (h : tbP mm t w L) (hno : ∀ p' s', row mm t w p' s' → mm (ra w p' s') ≠ sg 0) (hm : insM mm t w L sg = some m) : WF m ∧ ∀ t', t' < 5 → t ≠ t' → tsame mm m t' := by
  have hn0 : (0 : Int32) ≠ nI (t + 1) := fun z => nI_ne0 (n := t + 1) (by omega) (by omega) z.symm
  unfold insM at hm
  cases hq : rmL mm w L with
  | some q =>
    obtain ⟨p, s⟩ := q
    rw [hq] at hm
    cases hm
    obtain ⟨hpL, hs, -⟩ := rmL_some L hq
    have hgp := h.pgs p hpL
    have hsame : ∀ t', t' < 5 → t ≠ t' → tsame mm (putR mm w p s sg) t' := fun t' ht' htt => putR_same h.1 h.2.1 ht hgp.1 hgp.2.1 hgp.2.2 hs htt ht'
    refine ⟨⟨fun t' ht' => ?_, putR_FP h.1 h.2.1 hs (fun z => hn0 (z.symm.trans hgp.2.2)) hwf.2⟩, hsame⟩
    by_cases e : t = t'
    · subst e; exact Or.inr ⟨w, L, putR_tbP h hgp.1 hgp.2.1 hgp.2.2 ht hs hno⟩
    · exact (hsame t' ht' e).keepT (hwf.1 t' ht')
  | none =>
    rw [hq] at hm
    dsimp only at hm
    by_cases h0 : fpr mm 15 1 = 0
    · rw [if_pos h0] at hm
      cases hm
    · rw [if_neg h0] at hm
      cases hm
      have hp := (fpr_spec mm 15 1).resolve_left h0
      have hpf := hwf.2 _ hp.1 (by omega) hp.2.2
      generalize fpr mm 15 1 = p at hp hpf ⊢
      have hnb := newP_tbP ht h hp.1 (by omega) hp.2.2 hpf
      have hno' : ∀ p' s', row (newP mm t (endp (8 + t) L) p) t w p' s' → newP mm t (endp (8 + t) L) p (ra w p' s') ≠ sg 0 := fun p' s' hr => by
        have hr' := (newP_row ht h hp.1 hp.2.2 hpf.2).mp hr
        have e := newP_word (p := p) ht h hp.1 hr'.1 hr'.2.1 hr'.2.2.2.1 (c := 0) (by have := h.1; omega)
        rw [Nat.add_zero] at e
        rw [e]
        exact hno p' s' hr'
      have hpp : newP mm t (endp (8 + t) L) p (16 * p) = nI (t + 1) := newP_p hp.1
      have hsame : ∀ t', t' < 5 → t ≠ t' → tsame mm (putR (newP mm t (endp (8 + t) L) p) w p 0 sg) t' := fun t' ht' htt => (newP_same ht h hp.1 hp.2.2 htt ht').tr (putR_same h.1 h.2.1 ht hp.1 (by omega) hpp (w13 h.1 h.2.1) htt ht')
      refine ⟨⟨fun t' ht' => ?_, putR_FP h.1 h.2.1 (w13 h.1 h.2.1) (fun z => hn0 (z.symm.trans hpp)) (newP_FP ht h hp.1 hwf.2)⟩, hsame⟩
      by_cases e : t = t'
      · subst e; exact Or.inr ⟨w, _, putR_tbP hnb hp.1 (by omega) hpp ht (w13 h.1 h.2.1) hno'⟩
      · exact (hsame t' ht' e).keepT (hwf.1 t' ht')
