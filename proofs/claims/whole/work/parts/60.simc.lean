/-! SIMULATION (3): words of rows, counts, peeks -/
theorem M_width_out {mm : Nat → Int32} {x : Int32} (h : x < 0 ∨ 5 ≤ x) : p_M_width mm x = some 0 := by
  unfold p_M_width p_M_width_18
  rw [M_hasTable_out mm h, Option.bind_some, if_pos rfl]
theorem M_hasCol_w {mm : Nat → Int32} {a1 a3 v : Int32} (h : p_M_width mm a1 = some v) : p_M_hasCol mm a1 a3 = some (if a3 < 0 then 0 else if v ≤ a3 then 0 else 1) := by
  unfold p_M_hasCol p_M_hasCol_17 p_M_hasCol_18
  by_cases q : a3 < 0
  · rw [if_pos q, if_pos q, if_pos (by decide)]
  · rw [if_neg q, if_neg q, h, Option.bind_some]
    by_cases q2 : v ≤ a3
    · rw [if_pos q2, if_pos q2, if_pos (by decide)]
    · rw [if_neg q2, if_neg q2, if_pos (by decide)]
theorem i32_pos_of {x : Int32} (h : ¬ x < 0) : 0 ≤ x := i32_nlt.mp h
/-- a column's number is one, or is none -/
theorem col_cases {w : Nat} (hw6 : w ≤ 6) (x : Int32) : (x < 0 ∨ (¬ x < 0 ∧ nI w ≤ x)) ∨ ∃ c, c < w ∧ x = nI c := by
  rcases pk_ix x (n := w) (by omega) with h | h | h
  · exact Or.inl (Or.inl h)
  · by_cases q : x < 0
    · exact Or.inl (Or.inl q)
    · exact Or.inl (Or.inr ⟨q, h⟩)
  · exact Or.inr h
section SIM3
variable {tx pw wl : Int32} {dk mm hd : Nat → Int32} {sc : Nat → SCT} {of op cr : Int32} {tb cs lw hg us de sa ky : Nat → Int32}
theorem sim_update (fp fs : Int32) (a1 a2 a3 a4 : Int32) (h : Rel tx pw wl dk mm hd sc of op cr tb cs lw hg us de sa ky) : ∃ r mm' sc' fp' fs' de', p_X_updateCol tx pw mm sc a1 a2 a3 a4 = some (r, mm', sc') ∧ p_R_updateCol of op fp fs mm tb de a1 a2 a3 a4 = some (r, fp', fs', mm', de') ∧ Rel tx pw wl dk mm' hd sc' of op cr tb cs lw hg us de' sa ky := by
  unfold p_X_updateCol p_R_updateCol p_X_updateCol_32 p_R_updateCol_45
  rcases ref_cases h a1 with ⟨r, r0, e, hc⟩ | ⟨h1, h2, e, e2, t, w, L, ht5, rfl, hb⟩
  · rw [e, Option.bind_some, if_neg r0]
    rcases hc with ⟨c1, rfl⟩ | ⟨c1, c2, rfl⟩ | ⟨c1, c2, rfl, c3⟩
    · rw [if_neg c1]; exact ⟨_, _, _, _, _, _, rfl, rfl, h⟩
    · rw [if_pos c1, if_pos c2]; exact ⟨_, _, _, _, _, _, rfl, rfl, h⟩
    · rw [if_pos c1, if_neg c2, c3, Option.bind_some, if_neg (by decide)]; exact ⟨_, _, _, _, _, _, rfl, rfl, h⟩
  · rw [e, Option.bind_some, if_pos rfl, if_pos h1, if_neg h2, e2, Option.bind_some, if_pos rfl]
    by_cases q1 : a3 < 1
    · rw [if_pos q1, if_pos q1]
      exact ⟨_, _, _, _, _, _, rfl, rfl, h⟩
    · rw [if_neg q1, if_neg q1, M_width_in mm ht5, Option.bind_some, if_pos (kx_nI (by omega) (by omega)), nI_clamp (n := t) (by omega), hb.2.2.1]
      by_cases q2 : a3 < nI w
      · have hw2 := hb.1
        have hw6 := hb.2.1
        obtain ⟨c, hc1, hc, rfl⟩ : ∃ c, 1 ≤ c ∧ c < w ∧ a3 = nI c := by
          rw [i32_nlt, Int32.le_iff_toInt_le] at q1
          rw [Int32.lt_iff_toInt_lt, nI_toInt (by omega)] at q2
          have e1 : (1 : Int32).toInt = 1 := by decide
          refine ⟨a3.toInt.toNat, by omega, by omega, Int32.toInt_inj.mp ?_⟩
          rw [nI_toInt (by omega)]
          omega
        rw [if_pos q2, if_pos q2]
        rcases seekBoth ht5 hb a2 fp fs with ⟨hno, k1, k2⟩ | ⟨p, s, hr, hk, k1, k2⟩
        · rw [k1, Option.bind_some, if_pos rfl, k2, Option.bind_some]
          show ∃ r mm' sc' fp' fs' de', _ ∧ (if (0 : Int32) ≤ -1 then _ else _) = _ ∧ _
          rw [if_neg (by decide)]
          exact ⟨_, _, _, _, _, _, rfl, rfl, h⟩
        · have hb2 := ra_bd hw2 hw6 hr.2.1 hr.2.2.2.1 hc
          obtain ⟨d1, d2⟩ := upd_WF h.2.2.2.2.2.1 ht5 hb hr hc1 hc a4
          obtain ⟨hp, ht, ho, hcr, hh, hw, hs⟩ := h
          rw [k1, Option.bind_some, if_neg (nI_ne_m1 (by omega)), k2, Option.bind_some]
          unfold p_M_setWord
          show ∃ r mm' sc' fp' fs' de', _ ∧ (if (0 : Int32) ≤ nI (ra w p s) then (if kx_in (nI (ra w p s) + nI c) 256 = true then _ else _) else _) = _ ∧ _
          rw [nI_add, if_pos (kx_nI (k := ra w p s + c) (n := 256) (by omega) (by omega)), Option.bind_some, X_voidScansOf, Option.bind_some, if_pos (nI_pos' (by omega)), if_pos (kx_nI (k := ra w p s + c) (n := 256) (by omega) (by omega)), R_change, Option.bind_some, nI_clamp (n := ra w p s + c) (by omega)]
          exact ⟨_, _, _, _, _, _, rfl, rfl, hp, ht, ho, hcr, hh, d1, scA_change hs ht5 d2⟩
      · rw [if_neg q2, if_neg q2]
        exact ⟨_, _, _, _, _, _, rfl, rfl, h⟩
theorem sim_lookup (fp fs : Int32) (a1 a2 a3 : Int32) (h : Rel tx pw wl dk mm hd sc of op cr tb cs lw hg us de sa ky) : ∃ r fp' fs', p_X_lookup pw mm a1 a2 a3 = some r ∧ p_R_lookup of fp fs mm a1 a2 a3 = some (r, fp', fs') := by
  obtain ⟨hp, ht, ho, hc, hh, hw, hs⟩ := h
  unfold p_X_lookup p_R_lookup p_X_lookup_22 p_X_lookup_56 p_R_lookup_29 p_R_lookup_57
  rw [D_pow hp.pw, Option.bind_some]
  rcases id hp with ⟨rfl, rfl, hj⟩ | ⟨rfl, rfl, hj⟩
  · rw [if_neg (show ¬ (1 : Int32) = 0 by decide), if_pos (show (0 : Int32) = 0 from rfl)]
    rcases tab_cases a1 with z | ⟨t, ht5, rfl⟩
    · rw [M_hasCol_w (M_width_out z), Option.bind_some, R_noTable_out mm z, Option.bind_some, if_neg (show ¬ (1 : Int32) = 0 by decide)]
      by_cases q : a3 < 0
      · rw [if_pos q, if_pos rfl]; exact ⟨_, _, _, rfl, rfl⟩
      · rw [if_neg q, if_pos (i32_pos_of q), if_pos rfl]; exact ⟨_, _, _, rfl, rfl⟩
    · rw [M_hasCol_w (M_width_in mm ht5), Option.bind_some, R_noTable_in mm ht5, Option.bind_some]
      by_cases z : mm t = 0
      · rw [z, if_pos rfl, if_neg (show ¬ (1 : Int32) = 0 by decide)]
        by_cases q : a3 < 0
        · rw [if_pos q, if_pos rfl]; exact ⟨_, _, _, rfl, rfl⟩
        · rw [if_neg q, if_pos (i32_pos_of q), if_pos rfl]; exact ⟨_, _, _, rfl, rfl⟩
      · rw [if_neg z, if_pos rfl]
        obtain ⟨w, L, hb⟩ := tb_w hw ht5 z
        rw [hb.2.2.1]
        rcases col_cases hb.2.1 a3 with (q | ⟨q, q2⟩) | ⟨c, hc', rfl⟩
        · rw [if_pos q, if_pos q, if_pos rfl]; exact ⟨_, _, _, rfl, rfl⟩
        · rw [if_neg q, if_neg q, if_pos q2, if_pos rfl, if_pos (kx_nI (by omega) (by omega)), nI_clamp (by omega), hb.2.2.1, if_neg (i32_nlt.mpr q2)]; exact ⟨_, _, _, rfl, rfl⟩
        · have hw6 := hb.2.1
          rw [if_neg (nI_pos (by omega)), if_neg (nI_pos (by omega)), if_neg (nI_ge hc' (by omega)), if_neg (show ¬ (1 : Int32) = 0 by decide), if_pos (kx_nI (by omega) (by omega)), nI_clamp (n := t) (by omega), hb.2.2.1, if_pos (nI_lt hc' (by omega))]
          rcases seekBoth ht5 hb a2 fp fs with ⟨hno, k1, k2⟩ | ⟨p, s, hr, hk, k1, k2⟩
          · rw [k1, Option.bind_some, if_pos rfl, k2, Option.bind_some]
            show ∃ r fp' fs', _ ∧ (if (0 : Int32) ≤ -1 then _ else _) = _
            rw [if_neg (by decide)]
            exact ⟨_, _, _, rfl, rfl⟩
          · have hb2 := ra_bd hb.1 hb.2.1 hr.2.1 hr.2.2.2.1 hc'
            rw [k1, Option.bind_some, if_neg (nI_ne_m1 (by omega)), k2, Option.bind_some]
            unfold p_M_word
            show ∃ r fp' fs', _ ∧ (if (0 : Int32) ≤ nI (ra w p s) then (if kx_in (nI (ra w p s) + nI c) 256 = true then some (mm (nI (ra w p s) + nI c).toNatClampNeg, _) else _) else _) = _
            rw [nI_add, if_pos (kx_nI (k := ra w p s + c) (n := 256) (by omega) (by omega)), Option.bind_some, if_pos (nI_pos' (by omega)), if_pos (kx_nI (k := ra w p s + c) (n := 256) (by omega) (by omega))]
            exact ⟨_, _, _, rfl, rfl⟩
  · rw [if_pos rfl, if_neg (by decide)]
    exact ⟨_, _, _, rfl, rfl⟩
theorem sim_has (fp fs : Int32) (a1 a2 : Int32) (h : Rel tx pw wl dk mm hd sc of op cr tb cs lw hg us de sa ky) : ∃ r fp' fs', p_X_has pw mm a1 a2 = some r ∧ p_R_has of fp fs mm a1 a2 = some (r, fp', fs') := by
  obtain ⟨hp, ht, ho, hc, hh, hw, hs⟩ := h
  unfold p_X_has p_R_has p_X_has_38 p_X_has_39 p_R_has_28 p_R_has_29
  rw [D_pow hp.pw, Option.bind_some, if_pos (show (0 : Int32) &&& 1 = 0 by decide), if_pos (show (1 : Int32) &&& 1 = 1 by decide)]
  rcases id hp with ⟨rfl, rfl, hj⟩ | ⟨rfl, rfl, hj⟩
  · rw [if_neg (show ¬ (1 : Int32) = 0 by decide), if_pos (show (0 : Int32) = 0 from rfl)]
    rcases tab_cases a1 with z | ⟨t, ht5, rfl⟩
    · rw [M_hasTable_out mm z, Option.bind_some, R_noTable_out mm z, Option.bind_some, if_neg (show ¬ (1 : Int32) = 0 by decide), if_pos rfl, if_pos (show (0 : Int32) &&& 1 = 0 by decide)]
      exact ⟨_, _, _, rfl, rfl⟩
    · rw [M_hasTable_in mm ht5, Option.bind_some, R_noTable_in mm ht5, Option.bind_some]
      by_cases z : mm t = 0
      · rw [if_pos z, if_pos z, if_neg (show ¬ (1 : Int32) = 0 by decide), if_pos rfl, if_pos (show (0 : Int32) &&& 1 = 0 by decide)]
        exact ⟨_, _, _, rfl, rfl⟩
      · rw [if_neg z, if_neg z, if_neg (show ¬ (1 : Int32) = 0 by decide), if_pos rfl]
        obtain ⟨w, L, hb⟩ := tb_w hw ht5 z
        rcases seekBoth ht5 hb a2 fp fs with ⟨hno, k1, k2⟩ | ⟨p, s, hr, hk, k1, k2⟩
        · rw [k1, Option.bind_some, if_pos rfl, k2, Option.bind_some]
          show ∃ r fp' fs', _ ∧ (if (-1 : Int32) < 0 then _ else _) = _
          rw [if_pos (by decide), if_pos (show (0 : Int32) &&& 1 = 0 by decide)]
          exact ⟨_, _, _, rfl, rfl⟩
        · have hb2 := ra_bd hb.1 hb.2.1 hr.2.1 hr.2.2.2.1 (c := 0) (by have := hb.1; omega)
          rw [k1, Option.bind_some, if_neg (nI_ne_m1 (by omega)), k2, Option.bind_some]
          show ∃ r fp' fs', _ ∧ (if nI (ra w p s) < 0 then _ else _) = _
          rw [if_neg (nI_pos (by omega)), if_pos (show (1 : Int32) &&& 1 = 1 by decide)]
          exact ⟨_, _, _, rfl, rfl⟩
  · rw [if_pos rfl, if_neg (by decide), if_pos (show (0 : Int32) &&& 1 = 0 by decide)]
    exact ⟨_, _, _, rfl, rfl⟩
theorem count_same {t w : Nat} {L : List Nat} (of : Int32) (ht5 : t < 5) (hb : tbP mm t w L) : ∃ r, p_M_rowsOf mm (nI t) = some r ∧ pl_R_count_24 of mm 1000 (nI t) 0 1 = some r := by
  have hd := d7 hb.1
  have key : ∀ c n p x, p + c = 16 → 1 ≤ p → c < n → ∃ r, pl_M_rowsOf_4 mm n (nI t) x (nI p) = some r ∧ pl_R_count_24 of mm n (nI t) x (nI p) = some r := by
    intro c
    induction c with
    | zero =>
      intro n p x h1 h2 h3
      obtain ⟨n, rfl⟩ : ∃ q, n = q + 1 := ⟨n - 1, by omega⟩
      have e : p = 16 := by omega
      subst e
      refine ⟨x, ?_, ?_⟩
      · show p_M_rowsOf_4 mm (pl_M_rowsOf_4 mm n) (nI t) x (nI 16) = _
        unfold p_M_rowsOf_4
        rw [if_pos (by decide)]
      · show p_R_count_24 of mm (pl_R_count_24 of mm n) (nI t) x (nI 16) = _
        unfold p_R_count_24
        rw [if_pos (by decide)]
    | succ c ih =>
      intro n p x h1 h2 h3
      obtain ⟨n, rfl⟩ : ∃ q, n = q + 1 := ⟨n - 1, by omega⟩
      show ∃ r, p_M_rowsOf_4 mm (pl_M_rowsOf_4 mm n) (nI t) x (nI p) = some r ∧ p_R_count_24 of mm (pl_R_count_24 of mm n) (nI t) x (nI p) = some r
      unfold p_M_rowsOf_4 p_R_count_24 p_M_rowsOf_36 p_R_count_65 kl
      have n16 : ¬ (16 : Int32) ≤ nI p := by rw [nI_lit_le 16 (by omega) (by omega)]; omega
      rw [if_neg n16, if_neg n16, M_isPageOf_in mm t h2 (by omega), Option.bind_some, nI_16m, if_pos (kx_nI (k := 16 * p) (by omega) (by omega)), nI_clamp (n := 16 * p) (by omega), nI_a1 t, nI_m16, nI_a2, nI_a1 p]
      by_cases q : mm (16 * p) = nI (t + 1)
      · have hsm : sm (mm (16 * p + 2)) := fun i hi => by
          cases e : bt (mm (16 * p + 2)) i with
          | true =>
            have := hb.2.2.2.1 p i h2 (by omega) q e
            omega
          | false => rfl
        rw [decide_eq_true q, if_neg (by decide), if_pos q, if_pos (kx_nI (k := 16 * p + 2) (n := 256) (by omega) (by omega)), if_pos (kx_nI (k := 16 * p + 2) (n := 256) (by omega) (by omega)), nI_clamp (n := 16 * p + 2) (by omega), I_bitCount hsm, R_bits_sm hsm, Option.bind_some, Option.bind_some]
        exact ih n (p + 1) _ (by omega) (by omega) (by omega)
      · rw [decide_eq_false q, if_pos (by decide), if_neg q]
        exact ih n (p + 1) x (by omega) (by omega) (by omega)
  exact key 15 1000 1 0 (by omega) (by omega) (by omega)
theorem sim_count (a1 : Int32) (h : Rel tx pw wl dk mm hd sc of op cr tb cs lw hg us de sa ky) : ∃ r, p_X_count pw mm a1 = some r ∧ p_R_count of mm a1 = some r := by
  obtain ⟨hp, ht, ho, hc, hh, hw, hs⟩ := h
  unfold p_X_count p_R_count p_X_count_36
  rw [D_pow hp.pw, Option.bind_some]
  rcases id hp with ⟨rfl, rfl, hj⟩ | ⟨rfl, rfl, hj⟩
  · rw [if_neg (show ¬ (1 : Int32) = 0 by decide), if_pos (show (0 : Int32) = 0 from rfl)]
    rcases tab_cases a1 with z | ⟨t, ht5, rfl⟩
    · rw [M_hasTable_out mm z, Option.bind_some, R_noTable_out mm z, Option.bind_some, if_neg (show ¬ (1 : Int32) = 0 by decide), if_pos rfl]
      exact ⟨_, rfl, rfl⟩
    · rw [M_hasTable_in mm ht5, Option.bind_some, R_noTable_in mm ht5, Option.bind_some]
      by_cases z : mm t = 0
      · rw [if_pos z, if_pos z, if_neg (show ¬ (1 : Int32) = 0 by decide), if_pos rfl]
        exact ⟨_, rfl, rfl⟩
      · obtain ⟨w, L, hb⟩ := tb_w hw ht5 z
        obtain ⟨r, e1, e2⟩ := count_same 0 ht5 hb
        rw [if_neg z, if_neg z, if_neg (show ¬ (1 : Int32) = 0 by decide), if_pos rfl, e1, e2]
        exact ⟨_, rfl, rfl⟩
  · rw [if_pos rfl, if_neg (by decide)]
    exact ⟨_, rfl, rfl⟩
end SIM3
theorem sim_peek (dk : Nat → Int32) (a1 a2 : Int32) : ∃ r, p_X_peek dk a1 a2 = some r ∧ p_R_peek dk a1 a2 = some r := by
  unfold p_X_peek p_R_peek p_X_peek_20 p_R_peek_20 p_R_peek_36
  rcases pk_ix a1 (n := 33) (by omega) with q | q | ⟨b, hb, rfl⟩
  · rw [if_pos q, if_pos q]; exact ⟨_, rfl, rfl⟩
  · by_cases q0 : a1 < 0
    · rw [if_pos q0, if_pos q0]; exact ⟨_, rfl, rfl⟩
    · have q1 : (33 : Int32) ≤ a1 := q
      have q2 : 32 < a1 := by
        rw [Int32.le_iff_toInt_le] at q1
        rw [Int32.lt_iff_toInt_lt]
        have e1 : (33 : Int32).toInt = 33 := by decide
        have e2 : (32 : Int32).toInt = 32 := by decide
        omega
      rw [if_neg q0, if_pos q1, if_neg q0, if_pos q2]; exact ⟨_, rfl, rfl⟩
  · have n0 : ¬ nI b < 0 := nI_pos (by omega)
    have n33 : ¬ (33 : Int32) ≤ nI b := by rw [nI_lit_le 33 (by omega) (by omega)]; omega
    have n32 : ¬ (32 : Int32) < nI b := by rw [nI_lit_lt 32 (by omega) (by omega)]; omega
    rw [if_neg n0, if_neg n33, if_neg n0, if_neg n32]
    rcases pk_ix a2 (n := 16) (by omega) with q | q | ⟨w, hw, rfl⟩
    · rw [if_pos q, if_pos q]; exact ⟨_, rfl, rfl⟩
    · by_cases q0 : a2 < 0
      · rw [if_pos q0, if_pos q0]; exact ⟨_, rfl, rfl⟩
      · have q1 : (16 : Int32) ≤ a2 := q
        have q2 : ¬ a2 ≤ 15 := fun z => by
          rw [Int32.le_iff_toInt_le] at q1 z
          have e1 : (16 : Int32).toInt = 16 := by decide
          have e2 : (15 : Int32).toInt = 15 := by decide
          omega
        rw [if_neg q0, if_neg (i32_nlt.mpr q1), if_neg q0, if_neg q2]; exact ⟨_, rfl, rfl⟩
    · have m0 : ¬ nI w < 0 := nI_pos (by omega)
      have m16 : nI w < (16 : Int32) := by rw [nI_lt_lit 16 (by omega) (by omega)]; omega
      have m15 : nI w ≤ (15 : Int32) := by rw [nI_le_lit 15 (by omega) (by omega)]; omega
      rw [if_neg m0, if_pos m16, if_neg m0, if_pos m15, D_word_in dk hb hw, Option.bind_some, nI_16m, nI_add, if_pos (kx_nI (by omega) (by omega)), nI_clamp (by omega)]
      exact ⟨_, rfl, rfl⟩
