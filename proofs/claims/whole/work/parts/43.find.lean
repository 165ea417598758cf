/-! FINDING: the class's least row and row of a key, the reference's seek and next -/
theorem M_least (mm : Nat → Int32) {t w c : Nat} (ht : t < 5) (hw : mm t = nI w) (hw2 : 2 ≤ w) (hw6 : w ≤ 6) (hc : c < w) (lo hi : Int32) (ab : Int64) : ∃ r, p_M_leastRow mm (nI t) (nI c) lo hi ab = some r ∧ lrI mm t w (fitF mm c lo hi ab) (fun p _ => p < 16) r := by
  have H := lp_inv (κ := Unit) (fun _ n x r => pl_M_leastRow_13 mm n (nI t) (nI c) lo hi ab r (nI (13 / w)) x) (fun p r => 1 ≤ p ∧ lrI mm t w (fitF mm c lo hi ab) (fun p' _ => p' < p) r) (fun _ => False) (fun _ r => some r) 16 ?_ ?_ 1000 1 (-1) (by omega) (by omega) ?_
  · rcases H with ⟨r', h1, h2⟩ | ⟨r', h1, -⟩
    · refine ⟨r', ?_, h1.2⟩
      unfold p_M_leastRow
      rw [M_slots_in mm ht hw hw2 hw6, Option.bind_some]
      exact h2 ()
    · exact h1.elim
  · intro p r hp hI
    obtain ⟨hp1, hI⟩ := hI
    refine Or.inl ?_
    have hst : ∀ n, pl_M_leastRow_13 mm (n + 1) (nI t) (nI c) lo hi ab r (nI (13 / w)) (nI p) = (if b2i (decide (mm (16 * p) = nI (t + 1))) = 0 then p_M_leastRow_36 mm (pl_M_leastRow_13 mm n) (nI t) (nI c) lo hi ab r (nI (13 / w)) (nI p) 0 else p_M_leastRow_36 mm (pl_M_leastRow_13 mm n) (nI t) (nI c) lo hi ab r (nI (13 / w)) (nI p) (nI (13 / w))) := fun n => by
      show p_M_leastRow_13 mm (pl_M_leastRow_13 mm n) (nI t) (nI c) lo hi ab r (nI (13 / w)) (nI p) = _
      unfold p_M_leastRow_13
      rw [if_neg (by rw [nI_lit_le 16 (by omega) (by omega)]; omega), M_isPageOf_in mm t hp1 hp, Option.bind_some]
    by_cases h : mm (16 * p) = nI (t + 1)
    · obtain ⟨r1, hr1, hk1⟩ := M_least_inner mm ht hw hw2 hw6 hc lo hi ab hp1 hp h (nI (13 / w)) hI
      refine ⟨r1, ⟨by omega, hr1⟩, fun _ n => ?_⟩
      rw [hst, if_neg (by rw [decide_eq_true h]; decide)]
      unfold p_M_leastRow_36
      exact hk1 (pl_M_leastRow_13 mm n)
    · refine ⟨r, ⟨by omega, hI.more (fun p' s' q => by omega) (fun p' s' q hr hf => ?_)⟩, fun _ n => ?_⟩
      · by_cases e : p' = p
        · subst e; exact absurd hr.2.2.1 h
        · omega
      · rw [hst, if_pos (by rw [decide_eq_false h]; decide)]
        unfold p_M_leastRow_36
        show p_M_leastRow_41 mm (pl_M_leastRow_13 mm n) (pl_M_leastRow_41 mm (pl_M_leastRow_13 mm n) 999) (nI t) (nI c) lo hi ab r (nI (13 / w)) (nI p) 0 0 = _
        unfold p_M_leastRow_41
        rw [if_pos (by decide), nI_a1]
  · intro r hI _ n
    show p_M_leastRow_13 mm (pl_M_leastRow_13 mm n) (nI t) (nI c) lo hi ab r (nI (13 / w)) (nI 16) = _
    unfold p_M_leastRow_13
    rw [if_pos (by decide)]
  · exact ⟨by omega, Or.inl ⟨rfl, fun p s q hr _ => by have := hr.1; omega⟩⟩
/-- what seek finds: the row of a key -/
def skQ (mm : Nat → Int32) (t w : Nat) (key : Int32) (r : Int32 × Int32 × Int32) : Prop := ∃ p s, row mm t w p s ∧ mm (ra w p s) = key ∧ r = (nI (ra w p s), nI p, nI s)
theorem R_seek_inner (mm : Nat → Int32) {t w : Nat} (ht : t < 5) (hw : mm t = nI w) (hw2 : 2 ≤ w) (hw6 : w ≤ 6) (key fp fs : Int32) {p : Nat} (hp1 : 1 ≤ p) (hp : p < 16) (hpg : mm (16 * p) = nI (t + 1)) :
    ((∀ s, row mm t w p s → mm (ra w p s) ≠ key) ∧ ∀ k, pl_R_seek_26 mm k 1000 (nI t) key (nI p) 0 fp fs = k (nI t) key (nI (p + 1)) fp fs) ∨ (∃ r, skQ mm t w key r ∧ ∀ k, pl_R_seek_26 mm k 1000 (nI t) key (nI p) 0 fp fs = some r) := by
  have hd : 13 / w < 7 := by
    have := Nat.div_le_div_left hw2 (by omega : 0 < 2) (a := 13)
    omega
  have H := lp_inv (fun k n x (_ : Unit) => pl_R_seek_26 mm k n (nI t) key (nI p) x fp fs) (fun s _ => ∀ s', s' < s → row mm t w p s' → mm (ra w p s') ≠ key) (skQ mm t w key) (fun k _ => k (nI t) key (nI (p + 1)) fp fs) (13 / w) ?_ ?_ 1000 0 () (Nat.zero_le _) (by omega) (fun s' h => by omega)
  · rcases H with ⟨-, h1, h2⟩ | h
    · exact Or.inl ⟨fun s hr => h1 s hr.2.2.2.1 hr, h2⟩
    · exact Or.inr h
  · intro s _ hs hI
    obtain ⟨b1, b2⟩ := s_bd hw2 hw6 hs
    have hb0 := ra_bd hw2 hw6 hp hs (c := 0) (by omega)
    have hst : ∀ k n, pl_R_seek_26 mm k (n + 1) (nI t) key (nI p) (nI s) fp fs = (if b2i (bt (mm (16 * p + 2)) s) = 0 then pl_R_seek_26 mm k n (nI t) key (nI p) (nI (s + 1)) fp fs else (if mm (ra w p s) = key then some (nI (ra w p s), nI p, nI s) else pl_R_seek_26 mm k n (nI t) key (nI p) (nI (s + 1)) fp fs)) := fun k n => by
      show p_R_seek_26 mm k (pl_R_seek_26 mm k n) (nI t) key (nI p) (nI s) fp fs = _
      unfold p_R_seek_26 p_R_seek_83
      rw [R_slots_in mm ht hw hw2 hw6, Option.bind_some, if_neg (nI_ge hs (by omega)), R_filled_in mm hp (by omega), Option.bind_some, R_wordOf_in mm ht hw, Option.bind_some, if_pos (kx_nI (k := ra w p s) (n := 256) (by omega) (by omega)), nI_clamp (n := ra w p s) (by omega), Option.bind_some, nI_a1]
    by_cases h1 : bt (mm (16 * p + 2)) s = true
    · by_cases h2 : mm (ra w p s) = key
      · exact Or.inr ⟨_, ⟨p, s, ⟨hp1, hp, hpg, hs, h1⟩, h2, rfl⟩, fun k n => by rw [hst, if_neg (by rw [h1]; decide), if_pos h2]⟩
      · refine Or.inl ⟨(), fun s' q hr => ?_, fun k n => by rw [hst, if_neg (by rw [h1]; decide), if_neg h2]⟩
        by_cases e : s' = s
        · subst e; exact h2
        · exact hI s' (by omega) hr
    · refine Or.inl ⟨(), fun s' q hr => ?_, fun k n => by rw [hst, if_pos (by rw [(Bool.not_eq_true _).mp h1]; decide)]⟩
      by_cases e : s' = s
      · subst e; exact absurd hr.2.2.2.2 h1
      · exact hI s' (by omega) hr
  · intro _ hI k n
    show p_R_seek_26 mm k (pl_R_seek_26 mm k n) (nI t) key (nI p) (nI (13 / w)) fp fs = _
    unfold p_R_seek_26 p_R_seek_89
    rw [R_slots_in mm ht hw hw2 hw6, Option.bind_some, if_pos (Int32.le_refl _), nI_a1]
theorem R_seek (mm : Nat → Int32) {t w : Nat} (ht : t < 5) (hw : mm t = nI w) (hw2 : 2 ≤ w) (hw6 : w ≤ 6) (key fp fs : Int32) :
    ((∀ p s, row mm t w p s → mm (ra w p s) ≠ key) ∧ p_R_seek fp fs mm (nI t) key = some (-1, fp, fs)) ∨ (∃ r, skQ mm t w key r ∧ p_R_seek fp fs mm (nI t) key = some r) := by
  have H := lp_inv (κ := Unit) (fun _ n x (_ : Unit) => pl_R_seek_2 mm n (nI t) key x fp fs) (fun p _ => 1 ≤ p ∧ ∀ p' s', p' < p → row mm t w p' s' → mm (ra w p' s') ≠ key) (skQ mm t w key) (fun _ _ => some (-1, fp, fs)) 16 ?_ ?_ 1000 1 () (by omega) (by omega) ⟨by omega, fun p' s' h hr => by have := hr.1; omega⟩
  · rcases H with ⟨-, h1, h2⟩ | ⟨r, h1, h2⟩
    · exact Or.inl ⟨fun p s hr => h1.2 p s hr.2.1 hr, h2 ()⟩
    · exact Or.inr ⟨r, h1, h2 ()⟩
  · intro p _ hp hI
    obtain ⟨hp1, hI⟩ := hI
    have hst : ∀ n, pl_R_seek_2 mm (n + 1) (nI t) key (nI p) fp fs = (if mm (16 * p) = nI (t + 1) then pl_R_seek_26 mm (pl_R_seek_2 mm n) 1000 (nI t) key (nI p) 0 fp fs else pl_R_seek_2 mm n (nI t) key (nI (p + 1)) fp fs) := fun n => by
      show p_R_seek_2 mm (pl_R_seek_2 mm n) (nI t) key (nI p) fp fs = _
      unfold p_R_seek_2 p_R_seek_89
      rw [if_neg (by rw [nI_lit_le 16 (by omega) (by omega)]; omega), nI_16m, if_pos (kx_nI (by omega) (by omega)), nI_clamp (by omega), nI_a1, nI_a1]
    by_cases h : mm (16 * p) = nI (t + 1)
    · rcases R_seek_inner mm ht hw hw2 hw6 key fp fs hp1 hp h with ⟨h1, h2⟩ | ⟨r, h1, h2⟩
      · refine Or.inl ⟨(), ⟨by omega, fun p' s' q hr => ?_⟩, fun _ n => by rw [hst, if_pos h, h2]⟩
        by_cases e : p' = p
        · subst e; exact h1 s' hr
        · exact hI p' s' (by omega) hr
      · exact Or.inr ⟨r, h1, fun _ n => by rw [hst, if_pos h, h2]⟩
    · refine Or.inl ⟨(), ⟨by omega, fun p' s' q hr => ?_⟩, fun _ n => by rw [hst, if_neg h]⟩
      by_cases e : p' = p
      · subst e; exact absurd hr.2.2.1 h
      · exact hI p' s' (by omega) hr
  · intro _ hI _ n
    show p_R_seek_2 mm (pl_R_seek_2 mm n) (nI t) key (nI 16) fp fs = _
    unfold p_R_seek_2
    rw [if_pos (by decide)]
theorem key_pred (key : Int32) : (key.toInt64 - 1).toInt < key.toInt64.toInt := by
  have h1 := Int32.toInt_lt key
  have h2 := Int32.le_toInt key
  have h3 : key.toInt64.toInt = key.toInt := Int32.toInt_toInt64 key
  rw [Int64.toInt_sub, h3]
  have h4 : (1 : Int64).toInt = 1 := by decide
  rw [h4, Int.bmod_eq_of_le (by omega) (by omega)]
  omega
/-- the row of a key, of the class -/
theorem M_rowOf (mm : Nat → Int32) {t w : Nat} (ht : t < 5) (hw : mm t = nI w) (hw2 : 2 ≤ w) (hw6 : w ≤ 6) (key : Int32) :
    ((∀ p s, row mm t w p s → mm (ra w p s) ≠ key) ∧ p_M_rowOf mm (nI t) key = some (-1)) ∨ (∃ p s, row mm t w p s ∧ mm (ra w p s) = key ∧ p_M_rowOf mm (nI t) key = some (nI (ra w p s))) := by
  have hfit : ∀ a, fitF mm 0 key key (key.toInt64 - 1) a ↔ mm a = key := fun a => by
    unfold fitF
    rw [Nat.add_zero]
    constructor
    · intro ⟨_, h2, h3⟩
      rw [Int32.le_iff_toInt_le] at h2 h3
      exact Int32.toInt_inj.mp (by omega)
    · intro h
      rw [h]
      refine ⟨?_, Int32.le_refl _, Int32.le_refl _⟩
      rw [Int64.lt_iff_toInt_lt]
      exact key_pred key
  obtain ⟨r, h1, h2⟩ := M_least mm ht hw hw2 hw6 (c := 0) (by omega) key key (key.toInt64 - 1)
  have he : p_M_rowOf mm (nI t) key = some r := by
    unfold p_M_rowOf
    rw [show (0 : Int32) = nI 0 from rfl, h1]
    rfl
  rcases h2 with ⟨rfl, h⟩ | ⟨p, s, hp, hr, hf, e, -⟩
  · exact Or.inl ⟨fun p s hr q => h p s hr.2.1 hr ((hfit _).mpr q), he⟩
  · exact Or.inr ⟨p, s, hr, (hfit _).mp hf, by rw [he, e]⟩
