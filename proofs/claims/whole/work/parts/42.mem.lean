/-! THE MEMORY: what its readers answer, of the class (M_) and of the reference (R_) -/
theorem b2i_0 (b : Bool) : (b2i b = 0) ↔ b = false := by cases b <;> decide
section MEM
variable (mm : Nat → Int32)
theorem M_hasTable_in {t : Nat} (ht : t < 5) : p_M_hasTable mm (nI t) = some (if mm t = 0 then 0 else 1) := by
  unfold p_M_hasTable p_M_hasTable_22 p_M_hasTable_23
  rw [if_neg (nI_pos (by omega)), if_neg (by rw [nI_lit_le 5 (by omega) (by omega)]; omega), if_pos (kx_nI (by omega) (by omega)), nI_clamp (by omega)]
  by_cases h : mm t = 0
  · rw [if_pos h, if_pos h]; rfl
  · rw [if_neg h, if_neg h]; rfl
theorem M_hasTable_out {x : Int32} (h : x < 0 ∨ 5 ≤ x) : p_M_hasTable mm x = some 0 := by
  unfold p_M_hasTable p_M_hasTable_22 p_M_hasTable_23
  by_cases h1 : x < 0
  · rw [if_pos h1]; rfl
  · rcases h with h | h
    · exact absurd h h1
    · rw [if_neg h1, if_pos h]; rfl
theorem R_noTable_in {t : Nat} (ht : t < 5) : p_R_noTable mm (nI t) = some (if mm t = 0 then 1 else 0) := by
  unfold p_R_noTable p_R_noTable_18 p_R_noTable_23
  rw [if_neg (nI_pos (by omega)), if_neg (by rw [nI_lit_lt 4 (by omega) (by omega)]; omega), if_pos (kx_nI (by omega) (by omega)), nI_clamp (by omega)]
  by_cases h : mm t = 0
  · rw [if_pos h, if_pos h]; rfl
  · rw [if_neg h, if_neg h]; rfl
theorem i4_5 {x : Int32} (h : 5 ≤ x) : 4 < x := by
  rw [Int32.le_iff_toInt_le] at h
  rw [Int32.lt_iff_toInt_lt]
  have h1 : (5 : Int32).toInt = 5 := by decide
  have h2 : (4 : Int32).toInt = 4 := by decide
  omega
theorem R_noTable_out {x : Int32} (h : x < 0 ∨ 5 ≤ x) : p_R_noTable mm x = some 1 := by
  unfold p_R_noTable p_R_noTable_18 p_R_noTable_23
  by_cases h1 : x < 0
  · rw [if_pos h1]; rfl
  · rcases h with h | h
    · exact absurd h h1
    · rw [if_neg h1, if_pos (i4_5 h)]; rfl
/-- a number is a table's or none -/
theorem tab_cases (x : Int32) : (x < 0 ∨ 5 ≤ x) ∨ ∃ t, t < 5 ∧ x = nI t := by
  rcases pk_ix x (n := 5) (by omega) with h | h | h
  · exact Or.inl (Or.inl h)
  · exact Or.inl (Or.inr h)
  · exact Or.inr h
theorem M_width_in {t : Nat} (ht : t < 5) : p_M_width mm (nI t) = some (mm t) := by
  unfold p_M_width p_M_width_18
  rw [M_hasTable_in mm ht]
  show (if (if mm t = 0 then (0 : Int32) else 1) = 0 then _ else _) = _
  by_cases h : mm t = 0
  · rw [if_pos h, if_pos rfl, h]
  · rw [if_neg h, if_neg (by decide), if_pos (kx_nI (by omega) (by omega)), nI_clamp (by omega)]
variable {t w : Nat} (ht : t < 5) (hw : mm t = nI w) (hw2 : 2 ≤ w) (hw6 : w ≤ 6)
theorem w_ne (hw2 : 2 ≤ w) (hw6 : w ≤ 6) : ¬ nI w = 0 := nI_ne0 (by omega) (by omega)
theorem d13 (hw2 : 2 ≤ w) (hw6 : w ≤ 6) : (13 : Int32) / nI w = nI (13 / w) := pk_div (a := 13) (by omega) (by omega) (by omega)
theorem M_slots_in (ht : t < 5) (hw : mm t = nI w) (hw2 : 2 ≤ w) (hw6 : w ≤ 6) : p_M_slots mm (nI t) = some (nI (13 / w)) := by
  unfold p_M_slots p_M_slots_18
  rw [M_width_in mm ht, hw]
  show (if nI w = 0 then _ else _) = _
  rw [if_neg (w_ne hw2 hw6), if_pos (w_ne hw2 hw6), d13 hw2 hw6]
theorem R_slots_in (ht : t < 5) (hw : mm t = nI w) (hw2 : 2 ≤ w) (hw6 : w ≤ 6) : p_R_slots mm (nI t) = some (nI (13 / w)) := by
  unfold p_R_slots
  rw [if_pos (kx_nI (by omega) (by omega)), nI_clamp (by omega), hw, if_pos (w_ne hw2 hw6), d13 hw2 hw6]
/-- where a row lies -/
def ra (w p s : Nat) : Nat := 16 * p + 3 + s * w
theorem M_rowAt_in (ht : t < 5) (hw : mm t = nI w) (p s : Nat) : p_M_rowAt mm (nI t) (nI p) (nI s) = some (nI (ra w p s)) := by
  unfold p_M_rowAt
  rw [M_width_in mm ht, hw]
  show some ((nI p * 16 + 3) + nI s * nI w) = _
  rw [nI_m16, nI_a3, pk_mul, nI_add]
  rfl
theorem R_wordOf_in (ht : t < 5) (hw : mm t = nI w) (p s : Nat) : p_R_wordOf mm (nI t) (nI p) (nI s) = some (nI (ra w p s)) := by
  unfold p_R_wordOf
  rw [if_pos (kx_nI (by omega) (by omega)), nI_clamp (by omega), hw, nI_16m, nI_a3, pk_mul, nI_add, Nat.mul_comm w s]
  rfl
theorem M_hasRow_in {p s : Nat} (hp : p < 16) (hs : s < 32) : p_M_hasRow mm (nI p) (nI s) = some (b2i (bt (mm (16 * p + 2)) s)) := by
  unfold p_M_hasRow p_M_hasRow_24
  rw [nI_m16, nI_a2, if_pos (kx_nI (by omega) (by omega)), nI_clamp (by omega)]
  cases h : bt (mm (16 * p + 2)) s with
  | true => rw [if_pos ((bit1 _ hs).mpr h)]; rfl
  | false => rw [if_neg (fun q => by rw [(bit1 _ hs).mp q] at h; cases h)]; rfl
theorem R_filled_in {p s : Nat} (hp : p < 16) (hs : s < 32) : p_R_filled mm (nI p) (nI s) = some (b2i (bt (mm (16 * p + 2)) s)) := by
  unfold p_R_filled p_R_filled_24
  rw [nI_16m, nI_a2, if_pos (kx_nI (by omega) (by omega)), nI_clamp (by omega)]
  cases h : bt (mm (16 * p + 2)) s with
  | true => rw [if_pos ((bit1 _ hs).mpr h)]; rfl
  | false => rw [if_neg (fun q => by rw [(bit1 _ hs).mp q] at h; cases h)]; rfl
theorem M_isPageOf_in {p : Nat} (t : Nat) (h1 : 1 ≤ p) (hp : p < 16) : p_M_isPageOf mm (nI t) (nI p) = some (b2i (decide (mm (16 * p) = nI (t + 1)))) := by
  unfold p_M_isPageOf p_M_isPageOf_30 p_M_isPageOf_31
  rw [if_neg (by rw [nI_lt_lit 1 (by omega) (by omega)]; omega), if_neg (by rw [nI_lit_le 16 (by omega) (by omega)]; omega), nI_m16, if_pos (kx_nI (by omega) (by omega)), nI_clamp (by omega), nI_a1]
  by_cases h : mm (16 * p) = nI (t + 1)
  · rw [if_pos h, decide_eq_true h]; rfl
  · rw [if_neg h, decide_eq_false h]; rfl
theorem M_isPageOf_0 (x : Int32) : p_M_isPageOf mm x 0 = some 0 := by
  unfold p_M_isPageOf p_M_isPageOf_30 p_M_isPageOf_31
  rw [if_pos (by decide)]; rfl
/-- a row of a table: page p of its, slot s that has one -/
def row (mm : Nat → Int32) (t w p s : Nat) : Prop := 1 ≤ p ∧ p < 16 ∧ mm (16 * p) = nI (t + 1) ∧ s < 13 / w ∧ bt (mm (16 * p + 2)) s = true
theorem s_bd {s : Nat} (hw2 : 2 ≤ w) (hw6 : w ≤ 6) (h : s < 13 / w) : s * w + w ≤ 13 ∧ s < 7 := by
  have h1 : (s + 1) * w ≤ 13 / w * w := Nat.mul_le_mul_right w h
  have h2 : 13 / w * w ≤ 13 := Nat.div_mul_le_self 13 w
  have h3 : (s + 1) * w = s * w + w := Nat.succ_mul s w
  have h4 : (s + 1) * 2 ≤ (s + 1) * w := Nat.mul_le_mul_left _ hw2
  omega
theorem ra_bd {p s c : Nat} (hw2 : 2 ≤ w) (hw6 : w ≤ 6) (hp : p < 16) (h : s < 13 / w) (hc : c < w) : 16 * p + 3 ≤ ra w p s + c ∧ ra w p s + c < 16 * p + 16 ∧ ra w p s + c < 256 := by
  have := s_bd hw2 hw6 h
  unfold ra
  omega
end MEM
/-- least row: what holds of the answer over the rows that P names -/
def lrI (mm : Nat → Int32) (t w : Nat) (fit : Nat → Prop) (P : Nat → Nat → Prop) (r : Int32) : Prop :=
  (r = -1 ∧ ∀ p s, P p s → row mm t w p s → ¬ fit (ra w p s)) ∨ (∃ p s, P p s ∧ row mm t w p s ∧ fit (ra w p s) ∧ r = nI (ra w p s) ∧ ∀ p' s', P p' s' → row mm t w p' s' → fit (ra w p' s') → mm (ra w p s) ≤ mm (ra w p' s'))
theorem lrI.more {mm : Nat → Int32} {t w : Nat} {fit : Nat → Prop} {P P' : Nat → Nat → Prop} {r : Int32} (h : lrI mm t w fit P r) (h1 : ∀ p s, P p s → P' p s) (h2 : ∀ p s, P' p s → row mm t w p s → fit (ra w p s) → P p s) : lrI mm t w fit P' r := by
  rcases h with ⟨e, h⟩ | ⟨p, s, hP, hr, hf, e, hm⟩
  · exact Or.inl ⟨e, fun p s q hr hf => h p s (h2 p s q hr hf) hr hf⟩
  · exact Or.inr ⟨p, s, h1 p s hP, hr, hf, e, fun p' s' q hr' hf' => hm p' s' (h2 p' s' q hr' hf') hr' hf'⟩
theorem i32_le_total (x y : Int32) (h : ¬ x ≤ y) : y ≤ x := by
  rw [Int32.le_iff_toInt_le] at *
  omega
theorem i32_le_trans {x y z : Int32} (h1 : x ≤ y) (h2 : y ≤ z) : x ≤ z := by
  rw [Int32.le_iff_toInt_le] at *
  omega
theorem i32_nlt {x y : Int32} : ¬ x < y ↔ y ≤ x := by
  rw [Int32.le_iff_toInt_le, Int32.lt_iff_toInt_lt]
  omega
theorem i64_nle {x y : Int64} : ¬ x ≤ y ↔ y < x := by
  rw [Int64.le_iff_toInt_le, Int64.lt_iff_toInt_lt]
  omega
def fitF (mm : Nat → Int32) (c : Nat) (lo hi : Int32) (ab : Int64) (a : Nat) : Prop := ab < (mm a).toInt64 ∧ lo ≤ mm (a + c) ∧ mm (a + c) ≤ hi
theorem M_least_inner (mm : Nat → Int32) {t w c : Nat} (ht : t < 5) (hw : mm t = nI w) (hw2 : 2 ≤ w) (hw6 : w ≤ 6) (hc : c < w) (lo hi : Int32) (ab : Int64) {p : Nat} (hp1 : 1 ≤ p) (hp : p < 16) (hpg : mm (16 * p) = nI (t + 1)) (x8 : Int32) {r : Int32} (hI : lrI mm t w (fitF mm c lo hi ab) (fun p' _ => p' < p) r) :
    ∃ r', lrI mm t w (fitF mm c lo hi ab) (fun p' _ => p' < p + 1) r' ∧ ∀ k, pl_M_leastRow_41 mm k 1000 (nI t) (nI c) lo hi ab r x8 (nI p) (nI (13 / w)) 0 = k (nI t) (nI c) lo hi ab r' x8 (nI (p + 1)) := by
  have hd : 13 / w < 7 := by
    have := Nat.div_le_div_left hw2 (by omega : 0 < 2) (a := 13)
    omega
  have H := lp_inv (fun k n x r => pl_M_leastRow_41 mm k n (nI t) (nI c) lo hi ab r x8 (nI p) (nI (13 / w)) x) (fun s r => lrI mm t w (fitF mm c lo hi ab) (fun p' s' => p' < p ∨ (p' = p ∧ s' < s)) r) (fun _ => False) (fun k r => k (nI t) (nI c) lo hi ab r x8 (nI (p + 1))) (13 / w) ?_ ?_ 1000 0 r (Nat.zero_le _) (by omega) ?_
  · rcases H with ⟨r', h1, h2⟩ | ⟨r', h1, -⟩
    · refine ⟨r', h1.more (fun p' s' q => by omega) (fun p' s' q hr hf => ?_), h2⟩
      have := hr.2.2.2.1
      omega
    · exact h1.elim
  · intro s r hs hI
    obtain ⟨b1, b2⟩ := s_bd hw2 hw6 hs
    have hb0 := ra_bd hw2 hw6 hp hs (c := 0) (by omega)
    have hbc := ra_bd hw2 hw6 hp hs hc
    have hskip : ¬ (row mm t w p s ∧ fitF mm c lo hi ab (ra w p s)) → lrI mm t w (fitF mm c lo hi ab) (fun p' s' => p' < p ∨ (p' = p ∧ s' < s + 1)) r := fun hno => hI.more (fun p' s' q => by omega) (fun p' s' q hr hf => by
      rcases q with q | ⟨rfl, q⟩
      · exact Or.inl q
      · by_cases e : s' = s
        · subst e; exact absurd ⟨hr, hf⟩ hno
        · exact Or.inr ⟨rfl, by omega⟩)
    have hgo : ∀ k n, p_M_leastRow_115 mm k (pl_M_leastRow_41 mm k n) (nI t) (nI c) lo hi ab r x8 (nI p) (nI (13 / w)) (nI s) (nI (ra w p s)) = pl_M_leastRow_41 mm k n (nI t) (nI c) lo hi ab r x8 (nI p) (nI (13 / w)) (nI (s + 1)) := fun k n => by
      unfold p_M_leastRow_115 p_M_leastRow_116 p_M_leastRow_150
      rw [if_pos rfl, nI_a1]
    have hst : ∀ k n, pl_M_leastRow_41 mm k (n + 1) (nI t) (nI c) lo hi ab r x8 (nI p) (nI (13 / w)) (nI s) = (if b2i (bt (mm (16 * p + 2)) s) = 0 then p_M_leastRow_115 mm k (pl_M_leastRow_41 mm k n) (nI t) (nI c) lo hi ab r x8 (nI p) (nI (13 / w)) (nI s) (nI (ra w p s)) else (if (lg_cmp ((mm (ra w p s)).toInt64) ab) ≤ 0 then p_M_leastRow_115 mm k (pl_M_leastRow_41 mm k n) (nI t) (nI c) lo hi ab r x8 (nI p) (nI (13 / w)) (nI s) (nI (ra w p s)) else (if mm (ra w p s + c) < lo then p_M_leastRow_115 mm k (pl_M_leastRow_41 mm k n) (nI t) (nI c) lo hi ab r x8 (nI p) (nI (13 / w)) (nI s) (nI (ra w p s)) else (if hi < mm (ra w p s + c) then p_M_leastRow_115 mm k (pl_M_leastRow_41 mm k n) (nI t) (nI c) lo hi ab r x8 (nI p) (nI (13 / w)) (nI s) (nI (ra w p s)) else p_M_leastRow_116 mm k (pl_M_leastRow_41 mm k n) (nI t) (nI c) lo hi ab r x8 (nI p) (nI (13 / w)) (nI s) (nI (ra w p s)) 1)))) := fun k n => by
      show p_M_leastRow_41 mm k (pl_M_leastRow_41 mm k n) (nI t) (nI c) lo hi ab r x8 (nI p) (nI (13 / w)) (nI s) = _
      unfold p_M_leastRow_41
      rw [if_neg (nI_ge hs (by omega)), M_rowAt_in mm ht hw, Option.bind_some, M_hasRow_in mm hp (by omega), Option.bind_some, if_pos (kx_nI (k := ra w p s) (n := 256) (by omega) (by omega)), nI_add, if_pos (kx_nI (k := ra w p s + c) (n := 256) (by omega) (by omega)), if_pos (kx_nI (k := ra w p s + c) (n := 256) (by omega) (by omega)), nI_clamp (n := ra w p s) (by omega), nI_clamp (n := ra w p s + c) (by omega)]
    refine Or.inl ?_
    by_cases h1 : bt (mm (16 * p + 2)) s = true
    · by_cases h2 : (mm (ra w p s)).toInt64 ≤ ab
      · refine ⟨r, hskip (fun q => absurd h2 (i64_nle.mpr q.2.1)), fun k n => ?_⟩
        rw [hst, if_neg (by rw [h1]; decide), if_pos ((lg_cmp_le _ _).mpr h2), hgo]
      · by_cases h3 : mm (ra w p s + c) < lo
        · refine ⟨r, hskip (fun q => absurd q.2.2.1 (fun z => i32_nlt.mpr z h3)), fun k n => ?_⟩
          rw [hst, if_neg (by rw [h1]; decide), if_neg (fun z => h2 ((lg_cmp_le _ _).mp z)), if_pos h3, hgo]
        · by_cases h4 : hi < mm (ra w p s + c)
          · refine ⟨r, hskip (fun q => absurd q.2.2.2 (fun z => i32_nlt.mpr z h4)), fun k n => ?_⟩
            rw [hst, if_neg (by rw [h1]; decide), if_neg (fun z => h2 ((lg_cmp_le _ _).mp z)), if_neg h3, if_pos h4, hgo]
          · have hrow : row mm t w p s := ⟨hp1, hp, hpg, hs, h1⟩
            have hfit : fitF mm c lo hi ab (ra w p s) := ⟨i64_nle.mp h2, i32_nlt.mp h3, i32_nlt.mp h4⟩
            have hst2 : ∀ k n, pl_M_leastRow_41 mm k (n + 1) (nI t) (nI c) lo hi ab r x8 (nI p) (nI (13 / w)) (nI s) = p_M_leastRow_116 mm k (pl_M_leastRow_41 mm k n) (nI t) (nI c) lo hi ab r x8 (nI p) (nI (13 / w)) (nI s) (nI (ra w p s)) 1 := fun k n => by
              rw [hst, if_neg (by rw [h1]; decide), if_neg (fun z => h2 ((lg_cmp_le _ _).mp z)), if_neg h3, if_neg h4]
            rcases id hI with ⟨e, hno⟩ | ⟨p0, s0, hP0, hr0, hf0, e, hmin⟩
            · refine ⟨nI (ra w p s), Or.inr ⟨p, s, Or.inr ⟨rfl, by omega⟩, hrow, hfit, rfl, fun p' s' q hr' hf' => ?_⟩, fun k n => ?_⟩
              · rcases q with q | ⟨rfl, q⟩
                · exact absurd hf' (hno p' s' (Or.inl q) hr')
                · by_cases e2 : s' = s
                  · subst e2; exact Int32.le_refl _
                  · exact absurd hf' (hno p' s' (Or.inr ⟨rfl, by omega⟩) hr')
              · rw [hst2]
                unfold p_M_leastRow_116 p_M_leastRow_146 p_M_leastRow_150
                rw [if_neg (by decide), if_pos e, nI_a1]
            · have hb00 := ra_bd hw2 hw6 hr0.2.1 hr0.2.2.2.1 (c := 0) (by omega)
              have hst3 : ∀ k n, pl_M_leastRow_41 mm k (n + 1) (nI t) (nI c) lo hi ab r x8 (nI p) (nI (13 / w)) (nI s) = (if mm (ra w p0 s0) ≤ mm (ra w p s) then p_M_leastRow_150 mm k (pl_M_leastRow_41 mm k n) (nI t) (nI c) lo hi ab r x8 (nI p) (nI (13 / w)) (nI s) else p_M_leastRow_146 mm k (pl_M_leastRow_41 mm k n) (nI t) (nI c) lo hi ab x8 (nI p) (nI (13 / w)) (nI s) (nI (ra w p s))) := fun k n => by
                rw [hst2]
                unfold p_M_leastRow_116
                rw [e, if_neg (by decide), if_neg (nI_ne_m1 (by omega)), if_pos (kx_nI (k := ra w p s) (by omega) (by omega)), if_pos (kx_nI (k := ra w p0 s0) (by omega) (by omega)), nI_clamp (n := ra w p s) (by omega), nI_clamp (n := ra w p0 s0) (by omega)]
              by_cases h5 : mm (ra w p0 s0) ≤ mm (ra w p s)
              · refine ⟨r, Or.inr ⟨p0, s0, by omega, hr0, hf0, e, fun p' s' q hr' hf' => ?_⟩, fun k n => ?_⟩
                · rcases q with q | ⟨rfl, q⟩
                  · exact hmin p' s' (Or.inl q) hr' hf'
                  · by_cases e2 : s' = s
                    · subst e2; exact h5
                    · exact hmin p' s' (Or.inr ⟨rfl, by omega⟩) hr' hf'
                · rw [hst3, if_pos h5]
                  unfold p_M_leastRow_150
                  rw [nI_a1]
              · refine ⟨nI (ra w p s), Or.inr ⟨p, s, Or.inr ⟨rfl, by omega⟩, hrow, hfit, rfl, fun p' s' q hr' hf' => ?_⟩, fun k n => ?_⟩
                · rcases q with q | ⟨rfl, q⟩
                  · exact i32_le_trans (i32_le_total _ _ h5) (hmin p' s' (Or.inl q) hr' hf')
                  · by_cases e2 : s' = s
                    · subst e2; exact Int32.le_refl _
                    · exact i32_le_trans (i32_le_total _ _ h5) (hmin p' s' (Or.inr ⟨rfl, by omega⟩) hr' hf')
                · rw [hst3, if_neg h5]
                  unfold p_M_leastRow_146 p_M_leastRow_150
                  rw [nI_a1]
    · refine ⟨r, hskip (fun q => h1 q.1.2.2.2.2), fun k n => ?_⟩
      rw [hst, if_pos (by rw [(Bool.not_eq_true _).mp h1]; decide), hgo]
  · intro r hI k n
    show p_M_leastRow_41 mm k (pl_M_leastRow_41 mm k n) (nI t) (nI c) lo hi ab r x8 (nI p) (nI (13 / w)) (nI (13 / w)) = _
    unfold p_M_leastRow_41
    rw [if_pos (Int32.le_refl _), nI_a1]
  · exact hI.more (fun p' s' q => Or.inl q) (fun p' s' q _ _ => by omega)
