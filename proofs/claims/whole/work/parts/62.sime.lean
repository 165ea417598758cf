/-! SIMULATION (5): next and col -/
def fitR (mm : Nat → Int32) (cc : Nat) (lo hi sa ky : Int32) (a : Nat) : Prop := lo ≤ mm (a + cc) ∧ mm (a + cc) ≤ hi ∧ (sa = 0 ∨ ky < mm a)
def lrJ (mm : Nat → Int32) (t w : Nat) (fit : Nat → Prop) (P : Nat → Nat → Prop) (r : Int32 × Int32) : Prop :=
  (r.1 = 0 ∧ ∀ p s, P p s → row mm t w p s → ¬ fit (ra w p s)) ∨ (r.1 = 1 ∧ ∃ p s, P p s ∧ row mm t w p s ∧ fit (ra w p s) ∧ r.2 = mm (ra w p s) ∧ ∀ p' s', P p' s' → row mm t w p' s' → fit (ra w p' s') → mm (ra w p s) ≤ mm (ra w p' s'))
theorem lrJ.more {mm : Nat → Int32} {t w : Nat} {fit : Nat → Prop} {P P' : Nat → Nat → Prop} {r : Int32 × Int32} (h : lrJ mm t w fit P r) (h1 : ∀ p s, P p s → P' p s) (h2 : ∀ p s, P' p s → row mm t w p s → fit (ra w p s) → P p s) : lrJ mm t w fit P' r := by
  rcases h with ⟨e, h⟩ | ⟨e, p, s, hP, hr, hf, e2, hm⟩
  · exact Or.inl ⟨e, fun p s q hr hf => h p s (h2 p s q hr hf) hr hf⟩
  · exact Or.inr ⟨e, p, s, h1 p s hP, hr, hf, e2, fun p' s' q hr' hf' => hm p' s' (h2 p' s' q hr' hf') hr' hf'⟩
section SN
variable {mm : Nat → Int32} {tb cs lw hg sa ky : Nat → Int32} {t w cc c : Nat}
theorem R_sn_inner (ht : t < 5) (hw : mm t = nI w) (hw2 : 2 ≤ w) (hw6 : w ≤ 6) (hcc : cc < w) (hc4 : c < 4) (hcs : cs c = nI cc) {p : Nat} (hp1 : 1 ≤ p) (hp : p < 16) (hpg : mm (16 * p) = nI (t + 1)) {r : Int32 × Int32} (hI : lrJ mm t w (fitR mm cc (lw c) (hg c) (sa c) (ky c)) (fun p' _ => p' < p) r) :
    ∃ r', lrJ mm t w (fitR mm cc (lw c) (hg c) (sa c) (ky c)) (fun p' _ => p' < p + 1) r' ∧ ∀ k, pl_R_seekNext_41 mm tb cs lw hg sa k 1000 (nI c) (nI t) r.1 r.2 (nI p) 0 ky = k (nI c) (nI t) r'.1 r'.2 (nI (p + 1)) ky := by
  have hd := d7 hw2
  have hkc : kx_in (nI c) 4 = true := kx_nI hc4 (by omega)
  have H := lp_inv (fun k n x r => pl_R_seekNext_41 mm tb cs lw hg sa k n (nI c) (nI t) r.1 r.2 (nI p) x ky) (fun s r => lrJ mm t w (fitR mm cc (lw c) (hg c) (sa c) (ky c)) (fun p' s' => p' < p ∨ (p' = p ∧ s' < s)) r) (fun _ => False) (fun k r => k (nI c) (nI t) r.1 r.2 (nI (p + 1)) ky) (13 / w) ?_ ?_ 1000 0 r (Nat.zero_le _) (by omega) ?_
  · rcases H with ⟨r', h1, h2⟩ | ⟨r', h1, -⟩
    · refine ⟨r', h1.more (fun p' s' q => by omega) (fun p' s' q hr hf => ?_), h2⟩
      have := hr.2.2.2.1
      omega
    · exact h1.elim
  · intro s r hs hI
    obtain ⟨b1, b2⟩ := s_bd hw2 hw6 hs
    have hb0 := ra_bd hw2 hw6 hp hs (c := 0) (by omega)
    have hbc := ra_bd hw2 hw6 hp hs hcc
    have hskip : ¬ (row mm t w p s ∧ fitR mm cc (lw c) (hg c) (sa c) (ky c) (ra w p s)) → lrJ mm t w (fitR mm cc (lw c) (hg c) (sa c) (ky c)) (fun p' s' => p' < p ∨ (p' = p ∧ s' < s + 1)) r := fun hno => hI.more (fun p' s' q => by omega) (fun p' s' q hr hf => by
      rcases q with q | ⟨rfl, q⟩
      · exact Or.inl q
      · by_cases e : s' = s
        · subst e; exact absurd ⟨hr, hf⟩ hno
        · exact Or.inr ⟨rfl, by omega⟩)
    have hgo : ∀ k n, p_R_seekNext_140 mm tb cs lw hg sa k (pl_R_seekNext_41 mm tb cs lw hg sa k n) (nI c) (nI t) r.1 r.2 (nI p) (nI s) (nI (ra w p s)) ky = pl_R_seekNext_41 mm tb cs lw hg sa k n (nI c) (nI t) r.1 r.2 (nI p) (nI (s + 1)) ky := fun k n => by
      unfold p_R_seekNext_140 p_R_seekNext_141 p_R_seekNext_175
      rw [if_pos rfl, nI_a1]
    have hst : ∀ k n, pl_R_seekNext_41 mm tb cs lw hg sa k (n + 1) (nI c) (nI t) r.1 r.2 (nI p) (nI s) ky = (if b2i (bt (mm (16 * p + 2)) s) = 0 then p_R_seekNext_140 mm tb cs lw hg sa k (pl_R_seekNext_41 mm tb cs lw hg sa k n) (nI c) (nI t) r.1 r.2 (nI p) (nI s) (nI (ra w p s)) ky else (if mm (ra w p s + cc) < lw c then p_R_seekNext_140 mm tb cs lw hg sa k (pl_R_seekNext_41 mm tb cs lw hg sa k n) (nI c) (nI t) r.1 r.2 (nI p) (nI s) (nI (ra w p s)) ky else (if hg c < mm (ra w p s + cc) then p_R_seekNext_140 mm tb cs lw hg sa k (pl_R_seekNext_41 mm tb cs lw hg sa k n) (nI c) (nI t) r.1 r.2 (nI p) (nI s) (nI (ra w p s)) ky else (if sa c = 0 then p_R_seekNext_136 mm tb cs lw hg sa k (pl_R_seekNext_41 mm tb cs lw hg sa k n) (nI c) (nI t) r.1 r.2 (nI p) (nI s) (nI (ra w p s)) ky else (if mm (ra w p s) ≤ ky c then p_R_seekNext_140 mm tb cs lw hg sa k (pl_R_seekNext_41 mm tb cs lw hg sa k n) (nI c) (nI t) r.1 r.2 (nI p) (nI s) (nI (ra w p s)) ky else p_R_seekNext_136 mm tb cs lw hg sa k (pl_R_seekNext_41 mm tb cs lw hg sa k n) (nI c) (nI t) r.1 r.2 (nI p) (nI s) (nI (ra w p s)) ky))))) := fun k n => by
      show p_R_seekNext_41 mm tb cs lw hg sa k (pl_R_seekNext_41 mm tb cs lw hg sa k n) (nI c) (nI t) r.1 r.2 (nI p) (nI s) ky = _
      unfold p_R_seekNext_41 kl
      rw [R_slots_in mm ht hw hw2 hw6, Option.bind_some, if_neg (nI_ge hs (by omega)), R_wordOf_in mm ht hw, Option.bind_some, if_pos hkc, nI_clamp (n := c) (by omega), hcs, nI_add, if_pos (kx_nI (k := ra w p s + cc) (n := 256) (by omega) (by omega)), nI_clamp (n := ra w p s + cc) (by omega), R_filled_in mm hp (by omega)]
      dsimp only
      rw [Option.bind_some]
      rw [if_pos hkc, if_pos hkc, if_pos hkc, if_pos (kx_nI (k := ra w p s) (n := 256) (by omega) (by omega)), if_pos hkc, nI_clamp (n := ra w p s) (by omega)]
    have htake : ∀ (_ : row mm t w p s) (_ : fitR mm cc (lw c) (hg c) (sa c) (ky c) (ra w p s)), ∃ r', lrJ mm t w (fitR mm cc (lw c) (hg c) (sa c) (ky c)) (fun p' s' => p' < p ∨ (p' = p ∧ s' < s + 1)) r' ∧ ∀ k n, p_R_seekNext_136 mm tb cs lw hg sa k (pl_R_seekNext_41 mm tb cs lw hg sa k n) (nI c) (nI t) r.1 r.2 (nI p) (nI s) (nI (ra w p s)) ky = pl_R_seekNext_41 mm tb cs lw hg sa k n (nI c) (nI t) r'.1 r'.2 (nI p) (nI (s + 1)) ky := fun hrow hfit => by
      rcases id hI with ⟨e, hno⟩ | ⟨e, p0, s0, hP0, hr0, hf0, e0, hmin⟩
      · refine ⟨(1, mm (ra w p s)), Or.inr ⟨rfl, p, s, Or.inr ⟨rfl, by omega⟩, hrow, hfit, rfl, fun p' s' q hr' hf' => ?_⟩, fun k n => ?_⟩
        · rcases q with q | ⟨rfl, q⟩
          · exact absurd hf' (hno p' s' (Or.inl q) hr')
          · by_cases e2 : s' = s
            · subst e2; exact Int32.le_refl _
            · exact absurd hf' (hno p' s' (Or.inr ⟨rfl, by omega⟩) hr')
        · unfold p_R_seekNext_136 p_R_seekNext_141 p_R_seekNext_164 p_R_seekNext_175 kl
          rw [if_neg (by decide), if_pos e, if_pos (kx_nI (k := ra w p s) (n := 256) (by omega) (by omega)), nI_clamp (n := ra w p s) (by omega), nI_a1]
      · have hst3 : ∀ k n, p_R_seekNext_136 mm tb cs lw hg sa k (pl_R_seekNext_41 mm tb cs lw hg sa k n) (nI c) (nI t) r.1 r.2 (nI p) (nI s) (nI (ra w p s)) ky = (if mm (ra w p0 s0) ≤ mm (ra w p s) then pl_R_seekNext_41 mm tb cs lw hg sa k n (nI c) (nI t) r.1 r.2 (nI p) (nI (s + 1)) ky else pl_R_seekNext_41 mm tb cs lw hg sa k n (nI c) (nI t) 1 (mm (ra w p s)) (nI p) (nI (s + 1)) ky) := fun k n => by
          unfold p_R_seekNext_136 p_R_seekNext_141 p_R_seekNext_164 p_R_seekNext_175 kl
          rw [if_neg (by decide), if_neg (by rw [e]; decide), if_pos (kx_nI (k := ra w p s) (n := 256) (by omega) (by omega)), if_pos (kx_nI (k := ra w p s) (n := 256) (by omega) (by omega)), nI_clamp (n := ra w p s) (by omega), nI_a1, e0]
        by_cases h5 : mm (ra w p0 s0) ≤ mm (ra w p s)
        · refine ⟨r, Or.inr ⟨e, p0, s0, by omega, hr0, hf0, e0, fun p' s' q hr' hf' => ?_⟩, fun k n => by rw [hst3, if_pos h5]⟩
          rcases q with q | ⟨rfl, q⟩
          · exact hmin p' s' (Or.inl q) hr' hf'
          · by_cases e2 : s' = s
            · subst e2; exact h5
            · exact hmin p' s' (Or.inr ⟨rfl, by omega⟩) hr' hf'
        · refine ⟨(1, mm (ra w p s)), Or.inr ⟨rfl, p, s, Or.inr ⟨rfl, by omega⟩, hrow, hfit, rfl, fun p' s' q hr' hf' => ?_⟩, fun k n => by rw [hst3, if_neg h5]⟩
          rcases q with q | ⟨rfl, q⟩
          · exact i32_le_trans (i32_le_total _ _ h5) (hmin p' s' (Or.inl q) hr' hf')
          · by_cases e2 : s' = s
            · subst e2; exact Int32.le_refl _
            · exact i32_le_trans (i32_le_total _ _ h5) (hmin p' s' (Or.inr ⟨rfl, by omega⟩) hr' hf')
    refine Or.inl ?_
    by_cases h1 : bt (mm (16 * p + 2)) s = true
    · have hrow : row mm t w p s := ⟨hp1, hp, hpg, hs, h1⟩
      by_cases h3 : mm (ra w p s + cc) < lw c
      · exact ⟨r, hskip (fun q => absurd q.2.1 (fun z => i32_nlt.mpr z h3)), fun k n => by rw [hst, if_neg (by rw [h1]; decide), if_pos h3, hgo]⟩
      · by_cases h4 : hg c < mm (ra w p s + cc)
        · exact ⟨r, hskip (fun q => absurd q.2.2.1 (fun z => i32_nlt.mpr z h4)), fun k n => by rw [hst, if_neg (by rw [h1]; decide), if_neg h3, if_pos h4, hgo]⟩
        · by_cases h5 : sa c = 0
          · obtain ⟨r', q1, q2⟩ := htake hrow ⟨i32_nlt.mp h3, i32_nlt.mp h4, Or.inl h5⟩
            exact ⟨r', q1, fun k n => by rw [hst, if_neg (by rw [h1]; decide), if_neg h3, if_neg h4, if_pos h5, q2]⟩
          · by_cases h6 : mm (ra w p s) ≤ ky c
            · exact ⟨r, hskip (fun q => by
                rcases q.2.2.2 with z | z
                · exact h5 z
                · exact i32_nlt.mpr h6 z), fun k n => by rw [hst, if_neg (by rw [h1]; decide), if_neg h3, if_neg h4, if_neg h5, if_pos h6, hgo]⟩
            · have h6' : ky c < mm (ra w p s) := by
                rw [Int32.le_iff_toInt_le] at h6
                rw [Int32.lt_iff_toInt_lt]
                omega
              obtain ⟨r', q1, q2⟩ := htake hrow ⟨i32_nlt.mp h3, i32_nlt.mp h4, Or.inr h6'⟩
              exact ⟨r', q1, fun k n => by rw [hst, if_neg (by rw [h1]; decide), if_neg h3, if_neg h4, if_neg h5, if_neg h6, q2]⟩
    · exact ⟨r, hskip (fun q => h1 q.1.2.2.2.2), fun k n => by rw [hst, if_pos (by rw [(Bool.not_eq_true _).mp h1]; decide), hgo]⟩
  · intro r hI k n
    show p_R_seekNext_41 mm tb cs lw hg sa k (pl_R_seekNext_41 mm tb cs lw hg sa k n) (nI c) (nI t) r.1 r.2 (nI p) (nI (13 / w)) ky = _
    unfold p_R_seekNext_41 p_R_seekNext_181
    rw [R_slots_in mm ht hw hw2 hw6, Option.bind_some, if_pos (Int32.le_refl _), nI_a1]
  · exact hI.more (fun p' s' q => Or.inl q) (fun p' s' q _ _ => by omega)
theorem R_seekNext (ht : t < 5) (hw : mm t = nI w) (hw2 : 2 ≤ w) (hw6 : w ≤ 6) (hcc : cc < w) (hc4 : c < 4) (hcs : cs c = nI cc) (htb : tb c = nI t) : ∃ r, lrJ mm t w (fitR mm cc (lw c) (hg c) (sa c) (ky c)) (fun p _ => p < 16) r ∧ p_R_seekNext mm tb cs lw hg sa ky (nI c) = some (r.1, upd ky c (if r.1 = 0 then ky c else r.2)) := by
  have hkc : kx_in (nI c) 4 = true := kx_nI hc4 (by omega)
  have H := lp_inv (κ := Unit) (fun _ n x r => pl_R_seekNext_15 mm tb cs lw hg sa n (nI c) (nI t) r.1 r.2 x ky) (fun p r => 1 ≤ p ∧ lrJ mm t w (fitR mm cc (lw c) (hg c) (sa c) (ky c)) (fun p' _ => p' < p) r) (fun _ => False) (fun _ r => some (r.1, upd ky c (if r.1 = 0 then ky c else r.2))) 16 ?_ ?_ 1000 1 (0, 0) (by omega) (by omega) ⟨by omega, Or.inl ⟨rfl, fun p s q hr _ => by have := hr.1; omega⟩⟩
  · rcases H with ⟨r', h1, h2⟩ | ⟨r', h1, -⟩
    · refine ⟨r', h1.2, ?_⟩
      unfold p_R_seekNext kl
      rw [if_pos hkc, nI_clamp (by omega), htb]
      exact h2 ()
    · exact h1.elim
  · intro p r hp hI
    obtain ⟨hp1, hI⟩ := hI
    refine Or.inl ?_
    have hst : ∀ n, pl_R_seekNext_15 mm tb cs lw hg sa (n + 1) (nI c) (nI t) r.1 r.2 (nI p) ky = (if mm (16 * p) = nI (t + 1) then pl_R_seekNext_41 mm tb cs lw hg sa (pl_R_seekNext_15 mm tb cs lw hg sa n) 1000 (nI c) (nI t) r.1 r.2 (nI p) 0 ky else pl_R_seekNext_15 mm tb cs lw hg sa n (nI c) (nI t) r.1 r.2 (nI (p + 1)) ky) := fun n => by
      show p_R_seekNext_15 mm tb cs lw hg sa (pl_R_seekNext_15 mm tb cs lw hg sa n) (nI c) (nI t) r.1 r.2 (nI p) ky = _
      unfold p_R_seekNext_15 p_R_seekNext_181
      rw [if_neg (by rw [nI_lit_le 16 (by omega) (by omega)]; omega), nI_16m, if_pos (kx_nI (by omega) (by omega)), nI_clamp (n := 16 * p) (by omega), nI_a1 t, nI_a1 p]
    by_cases h : mm (16 * p) = nI (t + 1)
    · obtain ⟨r1, hr1, hk1⟩ := R_sn_inner (tb := tb) ht hw hw2 hw6 hcc hc4 hcs hp1 hp h hI
      exact ⟨r1, ⟨by omega, hr1⟩, fun _ n => by rw [hst, if_pos h, hk1]⟩
    · refine ⟨r, ⟨by omega, hI.more (fun p' s' q => by omega) (fun p' s' q hr hf => ?_)⟩, fun _ n => by rw [hst, if_neg h]⟩
      by_cases e : p' = p
      · subst e; exact absurd hr.2.2.1 h
      · omega
  · intro r hI _ n
    have h01 : r.1 &&& 1 = r.1 := by
      rcases hI.2 with ⟨e, -⟩ | ⟨e, -⟩
      · rw [e]; decide
      · rw [e]; decide
    show p_R_seekNext_15 mm tb cs lw hg sa (pl_R_seekNext_15 mm tb cs lw hg sa n) (nI c) (nI t) r.1 r.2 (nI 16) ky = _
    unfold p_R_seekNext_15 p_R_seekNext_207
    rw [if_pos (by decide), nI_clamp (n := c) (by omega)]
    by_cases q : r.1 = 0
    · simp only [if_pos q, if_pos hkc, if_pos h01]
    · simp only [if_neg q, if_pos hkc, if_pos h01]
end SN
theorem upd_id (f : Nat → Int32) (c : Nat) : upd f c (f c) = f := by
  funext j
  by_cases e : j = c
  · rw [e, pk_us]
  · rw [pk_un e]
theorem key_lt {x y : Int32} : x.toInt64 < y.toInt64 ↔ x < y := by
  rw [Int64.lt_iff_toInt_lt, Int32.lt_iff_toInt_lt, Int32.toInt_toInt64, Int32.toInt_toInt64]
theorem key_min (x : Int32) : (-2147483649 : Int64) < x.toInt64 := by
  rw [Int64.lt_iff_toInt_lt, Int32.toInt_toInt64]
  have h1 := Int32.le_toInt x
  have h2 : (-2147483649 : Int64).toInt = -2147483649 := by decide
  omega
theorem i32_anti {x y : Int32} (h1 : x ≤ y) (h2 : y ≤ x) : x = y := by
  rw [Int32.le_iff_toInt_le] at h1 h2
  exact Int32.toInt_inj.mp (by omega)
section SIM5
variable {tx pw wl : Int32} {dk mm hd : Nat → Int32} {sc : Nat → SCT} {of op cr : Int32} {tb cs lw hg us de sa ky : Nat → Int32}
theorem S_move_none {x : SCT} (h : p_M_leastRow mm x.2.2.1 x.2.2.2.1 x.2.2.2.2.1 x.2.2.2.2.2.1 x.2.2.2.2.2.2.1 = some (-1)) : p_S_move x.2.2.1 x.2.2.2.1 x.2.2.2.2.1 x.2.2.2.2.2.1 x.2.2.2.2.2.2.1 x.2.2.2.2.2.2.2 mm = some (0, x.2.2.2.2.2.2.1, -1) := by
  unfold p_S_move
  rw [h, Option.bind_some, if_pos rfl]
theorem S_move_some {x : SCT} {a : Nat} (ha : a < 256) (h : p_M_leastRow mm x.2.2.1 x.2.2.2.1 x.2.2.2.2.1 x.2.2.2.2.2.1 x.2.2.2.2.2.2.1 = some (nI a)) : p_S_move x.2.2.1 x.2.2.2.1 x.2.2.2.2.1 x.2.2.2.2.2.1 x.2.2.2.2.2.2.1 x.2.2.2.2.2.2.2 mm = some (1, (mm a).toInt64, nI a) := by
  unfold p_S_move p_M_word
  rw [h, Option.bind_some, if_neg (nI_ne_m1 (by omega)), if_pos (kx_nI ha (by omega)), nI_clamp (by omega), Option.bind_some]
/-- behind a move: the class's scan -/
def mv1 (x : SCT) (k : Int64) (r : Int32) : SCT := (x.1, x.2.1, x.2.2.1, x.2.2.2.1, x.2.2.2.2.1, x.2.2.2.2.2.1, k, r)
theorem sim_next (a1 : Int32) (h : Rel tx pw wl dk mm hd sc of op cr tb cs lw hg us de sa ky) : ∃ r sc' sa' ky', p_X_next pw mm sc a1 = some (r, sc') ∧ p_R_next of mm tb cs lw hg us de sa ky a1 = some (r, sa', ky') ∧ Rel tx pw wl dk mm hd sc' of op cr tb cs lw hg us de sa' ky' := by
  unfold p_X_next p_R_next p_X_next_25 p_X_next_26 p_R_next_27 p_R_next_49
  rcases use_cases h a1 with ⟨e1, e2 | ⟨e2, c, hc4, rfl, hde⟩⟩ | ⟨c, hc4, rfl, e1, e2, u1, d0⟩
  · rw [e1, Option.bind_some, e2, Option.bind_some, if_neg (show ¬ (1 : Int32) = 0 by decide)]
    exact ⟨_, _, _, _, rfl, rfl, h⟩
  · rw [e1, Option.bind_some, e2, Option.bind_some, if_pos rfl, if_pos (kx_nI hc4 (by omega)), nI_clamp (by omega), if_neg hde]
    exact ⟨_, _, _, _, rfl, rfl, h⟩
  · have hkc : kx_in (nI c) 4 = true := kx_nI hc4 (by omega)
    have h' := h
    obtain ⟨hp, ht, ho, hc, hh, hw, hs⟩ := h
    have hsc := hs c hc4
    obtain ⟨g1, g2, g3, g4, g5, g6, gu, gd, gt, gl⟩ := hsc
    obtain ⟨t, w, L, cc, ht5, hx, hb, hcc, hxc, hst⟩ := gl u1 d0
    have htb : tb c = nI t := g3.symm.trans hx
    have hcs : cs c = nI cc := g4.symm.trans hxc
    obtain ⟨r, hr1, hr2⟩ := M_least mm ht5 hb.2.2.1 hb.1 hb.2.1 hcc (sc c).2.2.2.2.1 (sc c).2.2.2.2.2.1 (sc c).2.2.2.2.2.2.1
    rw [← hx, ← hxc] at hr1
    rw [e1, Option.bind_some, e2, Option.bind_some, if_pos rfl, if_pos hkc, if_pos hkc, nI_clamp (n := c) (by omega), if_pos d0]
    show ∃ r sc' sa' ky', (if c < 4 then _ else _) = _ ∧ _
    rw [if_pos hc4]
    -- what class and reference look for
    have hsame : sa c ≠ 2 → ∀ a, fitF mm cc (sc c).2.2.2.2.1 (sc c).2.2.2.2.2.1 (sc c).2.2.2.2.2.2.1 a ↔ fitR mm cc (lw c) (hg c) (sa c) (ky c) a := fun hn2 a => by
      unfold fitF fitR
      rw [g5, g6]
      rcases hst with ⟨s0, k0, -⟩ | ⟨s1, k1, -⟩ | ⟨s2, -⟩
      · rw [k0]
        exact ⟨fun z => ⟨z.2.1, z.2.2, Or.inl s0⟩, fun z => ⟨key_min _, z.1, z.2.1⟩⟩
      · rw [k1, key_lt]
        exact ⟨fun z => ⟨z.2.1, z.2.2, Or.inr z.1⟩, fun z => ⟨z.2.2.resolve_left (fun y => by rw [s1] at y; exact absurd y (by decide)), z.1, z.2.1⟩⟩
      · exact absurd s2 hn2
    by_cases hn2 : sa c = 2
    · -- at its end already
      have hnone : ∀ p s, row mm t w p s → ¬ fitF mm cc (sc c).2.2.2.2.1 (sc c).2.2.2.2.2.1 (sc c).2.2.2.2.2.2.1 (ra w p s) := by
        rcases hst with ⟨s0, -⟩ | ⟨s1, -⟩ | ⟨-, -, hf⟩
        · rw [hn2] at s0; exact absurd s0 (by decide)
        · rw [hn2] at s1; exact absurd s1 (by decide)
        · exact hf
      have hrow : (sc c).2.2.2.2.2.2.2 = -1 := by
        rcases hst with ⟨s0, -⟩ | ⟨s1, -⟩ | ⟨-, hrw, -⟩
        · rw [hn2] at s0; exact absurd s0 (by decide)
        · rw [hn2] at s1; exact absurd s1 (by decide)
        · exact hrw
      have er : r = -1 := by
        rcases hr2 with ⟨e, -⟩ | ⟨p, s, -, hr, hf, -⟩
        · exact e
        · exact absurd hf (hnone p s hr)
      rw [er] at hr1
      rw [S_move_none hr1, Option.bind_some, if_pos hn2]
      show ∃ r sc' sa' ky', (if (0 : Int32) = 0 then (if (0 : Int32) &&& 1 = 0 then some (0, va_up sc c (mv1 (sc c) (sc c).2.2.2.2.2.2.1 (-1))) else none) else _) = _ ∧ _
      rw [if_pos rfl, if_pos (by decide)]
      have e : va_up sc c (mv1 (sc c) (sc c).2.2.2.2.2.2.1 (-1)) = sc := by
        funext j
        by_cases q : j = c
        · subst q
          rw [va_up_self]
          unfold mv1
          rw [← hrow]
        · rw [va_up_ne _ _ q]
      rw [e]
      exact ⟨_, _, _, _, rfl, rfl, h'⟩
    · obtain ⟨r', hj1, hj2⟩ := R_seekNext (mm := mm) (tb := tb) (cs := cs) (lw := lw) (hg := hg) (sa := sa) (ky := ky) ht5 hb.2.2.1 hb.1 hb.2.1 hcc hc4 hcs htb
      rw [if_neg hn2, hj2, Option.bind_some]
      have hfs := hsame hn2
      rcases hr2 with ⟨er, hno⟩ | ⟨p, s, hP, hr, hf, er, hmin⟩
      · -- none is left
        have er' : r'.1 = 0 := by
          rcases hj1 with ⟨z, -⟩ | ⟨-, p, s, hP, hr, hf, -⟩
          · exact z
          · exact absurd ((hfs _).mpr hf) (hno p s hP hr)
        rw [er] at hr1
        have hz : upd ky c (if r'.1 = 0 then ky c else r'.2) = ky := by rw [er', if_pos rfl, upd_id]
        rw [S_move_none hr1, Option.bind_some, hz, er']
        show ∃ r sc' sa' ky', (if (0 : Int32) = 0 then (if (0 : Int32) &&& 1 = 0 then some (0, va_up sc c (mv1 (sc c) (sc c).2.2.2.2.2.2.1 (-1))) else none) else _) = _ ∧ (if (0 : Int32) = 0 then (if kx_in (nI c) 4 = true then (if (0 : Int32) &&& 1 = 0 then _ else _) else _) else _) = _ ∧ _
        rw [if_pos rfl, if_pos (show (0 : Int32) &&& 1 = 0 by decide), if_pos rfl, if_pos hkc, if_pos (show (0 : Int32) &&& 1 = 0 by decide)]
        dsimp only
        refine ⟨_, _, _, _, rfl, rfl, hp, ht, ho, hc, hh, hw, fun c' hc' => ?_⟩
        by_cases q : c' = c
        · subst q
          rw [va_up_self, pk_us]
          exact ⟨g1, g2, g3, g4, g5, g6, gu, gd, gt, fun _ _ => ⟨t, w, L, cc, ht5, hx, hb, hcc, hxc, Or.inr (Or.inr ⟨rfl, rfl, fun p s hr => hno p s hr.2.1 hr⟩)⟩⟩
        · rw [va_up_ne _ _ q, pk_un q]
          exact hs c' hc'
      · have hb0 := ra_bd hb.1 hb.2.1 hr.2.1 hr.2.2.2.1 (c := 0) (by have := hb.1; omega)
        have er' : r'.1 = 1 ∧ r'.2 = mm (ra w p s) := by
          rcases hj1 with ⟨z, hz⟩ | ⟨z, p2, s2, hP2, hr2, hf2, e2', hmin2⟩
          · exact absurd ((hfs _).mp hf) (hz p s hP hr)
          · refine ⟨z, e2'.trans (i32_anti (hmin2 p s hP hr ((hfs _).mp hf)) (hmin p2 s2 hP2 hr2 ((hfs _).mpr hf2)))⟩
        rw [er] at hr1
        have hz : upd ky c (if r'.1 = 0 then ky c else r'.2) = upd ky c (mm (ra w p s)) := by rw [er'.1, er'.2, if_neg (show ¬ (1 : Int32) = 0 by decide)]
        rw [S_move_some (by omega) hr1, Option.bind_some, hz, er'.1]
        show ∃ r sc' sa' ky', (if (1 : Int32) = 0 then _ else (if (1 : Int32) &&& 1 = 1 then some (1, va_up sc c (mv1 (sc c) (mm (ra w p s)).toInt64 (nI (ra w p s)))) else none)) = _ ∧ (if (1 : Int32) = 0 then _ else (if kx_in (nI c) 4 = true then (if (1 : Int32) &&& 1 = 1 then _ else _) else _)) = _ ∧ _
        rw [if_neg (show ¬ (1 : Int32) = 0 by decide), if_pos (show (1 : Int32) &&& 1 = 1 by decide), if_neg (show ¬ (1 : Int32) = 0 by decide), if_pos hkc, if_pos (show (1 : Int32) &&& 1 = 1 by decide)]
        dsimp only
        refine ⟨_, _, _, _, rfl, rfl, hp, ht, ho, hc, hh, hw, fun c' hc' => ?_⟩
        by_cases q : c' = c
        · subst q
          rw [va_up_self, pk_us, pk_us]
          exact ⟨g1, g2, g3, g4, g5, g6, gu, gd, gt, fun _ _ => ⟨t, w, L, cc, ht5, hx, hb, hcc, hxc, Or.inr (Or.inl ⟨rfl, rfl, p, s, hr, rfl, rfl⟩)⟩⟩
        · rw [va_up_ne _ _ q, pk_un q, pk_un q]
          exact hs c' hc'
theorem sim_col (fp fs : Int32) (a1 a2 : Int32) (h : Rel tx pw wl dk mm hd sc of op cr tb cs lw hg us de sa ky) : ∃ r fp' fs', p_X_col pw mm sc a1 a2 = some r ∧ p_R_col of fp fs mm tb us de sa ky a1 a2 = some (r, fp', fs') := by
  unfold p_X_col p_R_col p_X_col_23 p_R_col_46
  rcases use_cases h a1 with ⟨e1, e2 | ⟨e2, c, hc4, rfl, hde⟩⟩ | ⟨c, hc4, rfl, e1, e2, u1, d0⟩
  · rw [e1, Option.bind_some, e2, Option.bind_some, if_neg (show ¬ (1 : Int32) = 0 by decide)]
    exact ⟨_, _, _, rfl, rfl⟩
  · rw [e1, Option.bind_some, e2, Option.bind_some, if_pos rfl, if_pos (kx_nI hc4 (by omega)), nI_clamp (by omega), if_neg hde]
    exact ⟨_, _, _, rfl, rfl⟩
  · have hkc : kx_in (nI c) 4 = true := kx_nI hc4 (by omega)
    obtain ⟨hp, ht, ho, hc, hh, hw, hs⟩ := h
    obtain ⟨g1, g2, g3, g4, g5, g6, gu, gd, gt, gl⟩ := hs c hc4
    obtain ⟨t, w, L, cc, ht5, hx, hb, hcc, hxc, hst⟩ := gl u1 d0
    have htb : tb c = nI t := g3.symm.trans hx
    have hw6 := hb.2.1
    rw [e1, Option.bind_some, e2, Option.bind_some, if_pos rfl, if_pos hkc, if_pos hkc, nI_clamp (n := c) (by omega), if_pos d0]
    show ∃ r fp' fs', (if c < 4 then (p_S_wordAt (sc c).2.2.1 (sc c).2.2.2.2.2.2.2 mm a2).bind _ else _) = _ ∧ _
    rw [if_pos hc4]
    unfold p_S_wordAt p_S_wordAt_20
    rcases hst with ⟨s0, -, r0⟩ | ⟨s1, k1, p, s, hr, hk, hrw⟩ | ⟨s2, r0, -⟩
    · rw [r0, if_pos rfl, Option.bind_some, s0, if_neg (by decide)]
      exact ⟨_, _, _, rfl, rfl⟩
    · have hb0 := ra_bd hb.1 hb.2.1 hr.2.1 hr.2.2.2.1 (c := 0) (by have := hb.1; omega)
      rw [hrw, if_neg (nI_ne_m1 (by omega)), hx, M_hasCol_w (M_width_in mm ht5), Option.bind_some, hb.2.2.1, s1, if_pos rfl, htb]
      rcases col_cases hb.2.1 a2 with (q | ⟨q, q2⟩) | ⟨i, hi, rfl⟩
      · rw [if_pos q, if_pos rfl, Option.bind_some, if_pos q]
        exact ⟨_, _, _, rfl, rfl⟩
      · rw [if_neg q, if_pos q2, if_pos rfl, Option.bind_some, if_neg q, if_pos hkc, if_pos (kx_nI (k := t) (n := 256) (by omega) (by omega)), nI_clamp (n := t) (by omega), hb.2.2.1, if_neg (i32_nlt.mpr q2)]
        exact ⟨_, _, _, rfl, rfl⟩
      · have hbi := ra_bd hb.1 hb.2.1 hr.2.1 hr.2.2.2.1 hi
        have n0 : ¬ nI i < 0 := nI_pos (by omega)
        unfold p_M_word
        rw [if_neg n0, if_neg (nI_ge hi (by omega)), if_neg (show ¬ (1 : Int32) = 0 by decide), nI_add, if_pos (kx_nI (k := ra w p s + i) (n := 256) (by omega) (by omega)), nI_clamp (n := ra w p s + i) (by omega), Option.bind_some, Option.bind_some, if_neg n0, if_pos hkc, if_pos (kx_nI (k := t) (n := 256) (by omega) (by omega)), nI_clamp (n := t) (by omega), hb.2.2.1, if_pos (nI_lt hi (by omega)), if_pos hkc, if_pos hkc]
        rcases seekBoth ht5 hb (ky c) fp fs with ⟨hno, -, -⟩ | ⟨p', s', hr', hk', -, k2⟩
        · exact absurd hk (hno p s hr)
        · obtain ⟨rfl, rfl⟩ := hb.2.2.2.2.1 p s p' s' hr hr' (hk.trans hk'.symm)
          rw [k2, Option.bind_some]
          show ∃ r fp' fs', _ ∧ (if kx_in (nI (ra w p s) + nI i) 256 = true then some (mm (nI (ra w p s) + nI i).toNatClampNeg, _) else _) = _
          rw [nI_add, if_pos (kx_nI (k := ra w p s + i) (n := 256) (by omega) (by omega)), nI_clamp (n := ra w p s + i) (by omega)]
          exact ⟨_, _, _, rfl, rfl⟩
    · rw [r0, if_pos rfl, Option.bind_some, s2, if_neg (by decide)]
      exact ⟨_, _, _, rfl, rfl⟩
end SIM5
