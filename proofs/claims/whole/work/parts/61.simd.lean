/-! SIMULATION (4): scans -/
theorem R_noScan_in (us : Nat → Int32) {c : Nat} (hc : c < 4) : p_R_noScan 0 us (nI c) = some (if us c = 0 then 1 else 0) := by
  unfold p_R_noScan p_R_noScan_25 p_R_noScan_30
  rw [if_pos rfl, if_neg (nI_pos (by omega)), if_neg (by rw [nI_lit_lt 3 (by omega) (by omega)]; omega), if_pos (kx_nI hc (by omega)), nI_clamp (by omega)]
  by_cases h : us c = 0
  · rw [if_pos h, if_pos h, if_pos (by decide)]
  · rw [if_neg h, if_neg h, if_pos (by decide)]
theorem i3_4 {x : Int32} (h : nI 4 ≤ x) : 3 < x ∧ ¬ x < 4 := by
  refine ⟨?_, i32_nlt.mpr h⟩
  rw [Int32.le_iff_toInt_le] at h
  rw [Int32.lt_iff_toInt_lt]
  have h1 : (nI 4).toInt = 4 := by decide
  have h2 : (3 : Int32).toInt = 3 := by decide
  omega
theorem R_noScan_out (us : Nat → Int32) {x : Int32} (h : x < 0 ∨ nI 4 ≤ x) : p_R_noScan 0 us x = some 1 := by
  unfold p_R_noScan p_R_noScan_25 p_R_noScan_30
  rw [if_pos rfl]
  by_cases q : x < 0
  · rw [if_pos q, if_pos (by decide)]
  · rcases h with h | h
    · exact absurd h q
    · rw [if_neg q, if_pos (i3_4 h).1, if_pos (by decide)]
theorem R_noScan_off (us : Nat → Int32) (x : Int32) : p_R_noScan 1 us x = some 1 := by
  unfold p_R_noScan p_R_noScan_25 p_R_noScan_30
  rw [if_neg (by decide), if_pos (by decide)]
theorem X_scanOf_in {sc : Nat → SCT} {c : Nat} (hc : c < 4) (h : (sc c).1 = 0 ∨ (sc c).1 = 1) : p_X_scanOf sc (nI c) = some (if (sc c).1 = 0 then none else some c) := by
  unfold p_X_scanOf p_S_isOpen
  rw [if_neg (nI_pos (by omega)), if_pos (by rw [nI_lt_lit 4 (by omega) (by omega)]; omega), if_pos (kx_nI hc (by omega)), nI_clamp (by omega), if_pos (b01_and h), Option.bind_some]
  by_cases q : (sc c).1 = 0
  · rw [if_pos q, if_pos q]
  · rw [if_neg q, if_neg q, if_pos (kx_nI hc (by omega))]
theorem X_scanOf_out {sc : Nat → SCT} {x : Int32} (h : x < 0 ∨ nI 4 ≤ x) : p_X_scanOf sc x = some none := by
  unfold p_X_scanOf
  by_cases q : x < 0
  · rw [if_pos q]
  · rcases h with h | h
    · exact absurd h q
    · rw [if_neg q, if_neg (i3_4 h).2]
theorem scan_cases (x : Int32) : (x < 0 ∨ nI 4 ≤ x) ∨ ∃ c, c < 4 ∧ x = nI c := by
  rcases pk_ix x (n := 4) (by omega) with h | h | h
  · exact Or.inl (Or.inl h)
  · exact Or.inl (Or.inr h)
  · exact Or.inr h
/-- the first free scan, or 4 -/
def fsr (us : Nat → Int32) : Nat → Nat → Nat
  | 0, c => c
  | n + 1, c => if us c = 0 then c else fsr us n (c + 1)
theorem fsr_spec (us : Nat → Int32) : ∀ n c, c ≤ fsr us n c ∧ fsr us n c ≤ c + n := by
  intro n
  induction n with
  | zero => intro c; exact ⟨Nat.le_refl _, Nat.le_refl _⟩
  | succ n ih =>
    intro c
    unfold fsr
    by_cases h : us c = 0
    · rw [if_pos h]; omega
    · rw [if_neg h]
      have := ih (c + 1)
      omega
def st1 (t c : Nat) (lo hi : Int32) : SCT := (1, 0, nI t, nI c, lo, hi, -2147483649, -1)
section SIM4
variable {tx pw wl : Int32} {dk mm hd : Nat → Int32} {sc : Nat → SCT} {of op cr : Int32} {tb cs lw hg us de sa ky : Nat → Int32}
theorem X_open_loop (pw : Int32) (hs : ∀ c, c < 4 → (sc c).1 = us c ∧ (us c = 0 ∨ us c = 1)) (t cc : Nat) (lo hi : Int32) : pl_X_openScan_44 pw mm 1000 (nI t) (nI cc) lo hi 0 sc = some (if fsr us 4 0 = 4 then (-8, sc) else (nI (fsr us 4 0), va_up sc (fsr us 4 0) (st1 t cc lo hi))) := by
  have key : ∀ k n c, c + k = 4 → k < n → pl_X_openScan_44 pw mm n (nI t) (nI cc) lo hi (nI c) sc = some (if fsr us k c = 4 then (-8, sc) else (nI (fsr us k c), va_up sc (fsr us k c) (st1 t cc lo hi))) := by
    intro k
    induction k with
    | zero =>
      intro n c h1 h2
      obtain ⟨n, rfl⟩ : ∃ q, n = q + 1 := ⟨n - 1, by omega⟩
      have e : c = 4 := by omega
      subst e
      show p_X_openScan_44 pw mm (pl_X_openScan_44 pw mm n) (nI t) (nI cc) lo hi (nI 4) sc = _
      unfold p_X_openScan_44
      rw [if_pos (by decide)]
      rfl
    | succ k ih =>
      intro n c h1 h2
      obtain ⟨n, rfl⟩ : ∃ q, n = q + 1 := ⟨n - 1, by omega⟩
      have hc := hs c (by omega)
      show p_X_openScan_44 pw mm (pl_X_openScan_44 pw mm n) (nI t) (nI cc) lo hi (nI c) sc = _
      unfold p_X_openScan_44 fsr
      rw [if_neg (by rw [nI_lit_le 4 (by omega) (by omega)]; omega), X_scanOf_in (by omega) (by rw [hc.1]; exact hc.2), Option.bind_some, hc.1]
      by_cases h : us c = 0
      · rw [if_pos h, if_pos h]
        show (if kx_in (nI c) 4 = true then _ else _) = _
        rw [if_pos (kx_nI (by omega) (by omega)), nI_clamp (by omega), if_neg (by omega)]
        rfl
      · rw [if_neg h, if_neg h]
        show (if c < 4 then pl_X_openScan_44 pw mm n (nI t) (nI cc) lo hi (nI c + 1) sc else none) = _
        rw [if_pos (by omega), nI_a1]
        exact ih n (c + 1) (by omega) (by omega)
  exact key 4 1000 0 (by omega) (by omega)
theorem R_open_loop (of : Int32) (t cc : Nat) (lo hi : Int32) : pl_R_openScan_40 of mm 1000 (nI t) (nI cc) lo hi 0 tb cs lw hg us de sa = some (if fsr us 4 0 = 4 then (-8, tb, cs, lw, hg, us, de, sa) else (nI (fsr us 4 0), upd tb (fsr us 4 0) (nI t), upd cs (fsr us 4 0) (nI cc), upd lw (fsr us 4 0) lo, upd hg (fsr us 4 0) hi, upd us (fsr us 4 0) 1, upd de (fsr us 4 0) 0, upd sa (fsr us 4 0) 0)) := by
  have fin : ∀ c, c ≤ 4 → p_R_openScan_62 of mm (nI t) (nI cc) lo hi (nI c) tb cs lw hg us de sa = some (if c = 4 then (-8, tb, cs, lw, hg, us, de, sa) else (nI c, upd tb c (nI t), upd cs c (nI cc), upd lw c lo, upd hg c hi, upd us c 1, upd de c 0, upd sa c 0)) := fun c hc => by
    unfold p_R_openScan_62
    by_cases h : c = 4
    · subst h
      rw [if_pos (by decide), if_pos rfl]
    · have hk : kx_in (nI c) 4 = true := kx_nI (by omega) (by omega)
      rw [if_neg (by rw [nI_eq_lit 4 (by omega) (by omega)]; exact h), if_pos hk, if_pos hk, if_pos hk, if_pos hk, if_pos hk, if_pos hk, if_pos hk, nI_clamp (by omega), vz_0, vz_1, if_neg h]
  have key : ∀ k n c, c + k = 4 → k < n → pl_R_openScan_40 of mm n (nI t) (nI cc) lo hi (nI c) tb cs lw hg us de sa = some (if fsr us k c = 4 then (-8, tb, cs, lw, hg, us, de, sa) else (nI (fsr us k c), upd tb (fsr us k c) (nI t), upd cs (fsr us k c) (nI cc), upd lw (fsr us k c) lo, upd hg (fsr us k c) hi, upd us (fsr us k c) 1, upd de (fsr us k c) 0, upd sa (fsr us k c) 0)) := by
    intro k
    induction k with
    | zero =>
      intro n c h1 h2
      obtain ⟨n, rfl⟩ : ∃ q, n = q + 1 := ⟨n - 1, by omega⟩
      have e : c = 4 := by omega
      subst e
      show p_R_openScan_40 of mm (pl_R_openScan_40 of mm n) (nI t) (nI cc) lo hi (nI 4) tb cs lw hg us de sa = _
      unfold p_R_openScan_40
      rw [if_pos (by decide), fin 4 (by omega)]
      rfl
    | succ k ih =>
      intro n c h1 h2
      obtain ⟨n, rfl⟩ : ∃ q, n = q + 1 := ⟨n - 1, by omega⟩
      show p_R_openScan_40 of mm (pl_R_openScan_40 of mm n) (nI t) (nI cc) lo hi (nI c) tb cs lw hg us de sa = _
      unfold p_R_openScan_40 fsr
      rw [if_neg (by rw [nI_lit_le 4 (by omega) (by omega)]; omega), if_pos (kx_nI (by omega) (by omega)), nI_clamp (by omega), nI_a1, ih n (c + 1) (by omega) (by omega), fin c (by omega)]
      by_cases h : us c = 0
      · rw [if_pos h, if_pos h]
      · rw [if_neg h, if_neg h]
  exact key 4 1000 0 (by omega) (by omega)
theorem sim_open (a1 a2 a3 a4 : Int32) (h : Rel tx pw wl dk mm hd sc of op cr tb cs lw hg us de sa ky) : ∃ r sc' tb' cs' lw' hg' us' de' sa', p_X_openScan pw mm sc a1 a2 a3 a4 = some (r, sc') ∧ p_R_openScan of mm tb cs lw hg us de sa a1 a2 a3 a4 = some (r, tb', cs', lw', hg', us', de', sa') ∧ Rel tx pw wl dk mm hd sc' of op cr tb' cs' lw' hg' us' de' sa' ky := by
  have h' := h
  obtain ⟨hp, ht, ho, hc, hh, hw, hs⟩ := h
  unfold p_X_openScan p_R_openScan p_R_openScan_34
  rw [D_pow hp.pw, Option.bind_some]
  rcases id hp with ⟨rfl, rfl, hj⟩ | ⟨rfl, rfl, hj⟩
  · rw [if_neg (show ¬ (1 : Int32) = 0 by decide), if_pos (show (0 : Int32) = 0 from rfl)]
    rcases tab_cases a1 with z | ⟨t, ht5, rfl⟩
    · rw [M_hasTable_out mm z, Option.bind_some, R_noTable_out mm z, Option.bind_some, if_neg (show ¬ (1 : Int32) = 0 by decide), if_pos rfl]
      exact ⟨_, _, _, _, _, _, _, _, _, rfl, rfl, h'⟩
    · rw [M_hasTable_in mm ht5, Option.bind_some, R_noTable_in mm ht5, Option.bind_some]
      by_cases z : mm t = 0
      · rw [if_pos z, if_pos z, if_neg (show ¬ (1 : Int32) = 0 by decide), if_pos rfl]
        exact ⟨_, _, _, _, _, _, _, _, _, rfl, rfl, h'⟩
      · obtain ⟨w, L, hb⟩ := tb_w hw ht5 z
        have hw6 := hb.2.1
        rw [if_neg z, if_neg z, if_neg (show ¬ (1 : Int32) = 0 by decide), if_pos rfl, M_hasCol_w (M_width_in mm ht5), Option.bind_some, hb.2.2.1]
        rcases col_cases hb.2.1 a2 with (q | ⟨q, q2⟩) | ⟨cc, hcc, rfl⟩
        · rw [if_pos q, if_pos rfl, if_pos q]
          exact ⟨_, _, _, _, _, _, _, _, _, rfl, rfl, h'⟩
        · rw [if_neg q, if_pos q2, if_pos rfl, if_neg q, if_pos (kx_nI (by omega) (by omega)), nI_clamp (by omega), hb.2.2.1, if_neg (i32_nlt.mpr q2)]
          exact ⟨_, _, _, _, _, _, _, _, _, rfl, rfl, h'⟩
        · have n0 : ¬ nI cc < 0 := nI_pos (by omega)
          rw [if_neg n0, if_neg (nI_ge hcc (by omega)), if_neg (show ¬ (1 : Int32) = 0 by decide), if_neg n0, if_pos (kx_nI (by omega) (by omega)), nI_clamp (n := t) (by omega), hb.2.2.1, if_pos (nI_lt hcc (by omega)), X_open_loop (us := us) 1 (fun c hc => ⟨(hs c hc).1, (hs c hc).2.2.2.2.2.2.1⟩), R_open_loop]
          have hf := fsr_spec us 4 0
          by_cases q4 : fsr us 4 0 = 4
          · rw [if_pos q4, if_pos q4]
            exact ⟨_, _, _, _, _, _, _, _, _, rfl, rfl, h'⟩
          · generalize fsr us 4 0 = c0 at hf q4 ⊢
            rw [if_neg q4, if_neg q4]
            refine ⟨_, _, _, _, _, _, _, _, _, rfl, rfl, hp, ht, ho, hc, hh, hw, fun c hc4 => ?_⟩
            by_cases e : c = c0
            · subst e
              rw [va_up_self, pk_us, pk_us, pk_us, pk_us, pk_us, pk_us, pk_us]
              exact ⟨rfl, rfl, rfl, rfl, rfl, rfl, Or.inr rfl, Or.inl rfl, ⟨t, ht5, rfl⟩, fun _ _ => ⟨t, w, L, cc, ht5, rfl, hb, hcc, rfl, Or.inl ⟨rfl, rfl, rfl⟩⟩⟩
            · rw [va_up_ne _ _ e, pk_un e, pk_un e, pk_un e, pk_un e, pk_un e, pk_un e, pk_un e]
              exact hs c hc4
  · rw [if_pos rfl, if_neg (by decide)]
    exact ⟨_, _, _, _, _, _, _, _, _, rfl, rfl, h'⟩
theorem sim_close (a1 : Int32) (h : Rel tx pw wl dk mm hd sc of op cr tb cs lw hg us de sa ky) : ∃ r sc' us', p_X_closeScan pw sc a1 = some (r, sc') ∧ p_R_closeScan of us a1 = some (r, us') ∧ Rel tx pw wl dk mm hd sc' of op cr tb cs lw hg us' de sa ky := by
  have h' := h
  obtain ⟨hp, ht, ho, hc, hh, hw, hs⟩ := h
  unfold p_X_closeScan p_R_closeScan p_S_end
  rw [D_pow hp.pw, Option.bind_some]
  rcases id hp with ⟨rfl, rfl, hj⟩ | ⟨rfl, rfl, hj⟩
  · rw [if_neg (show ¬ (1 : Int32) = 0 by decide), if_pos (show (0 : Int32) = 0 from rfl)]
    rcases scan_cases a1 with z | ⟨c, hc4, rfl⟩
    · rw [X_scanOf_out z, Option.bind_some, R_noScan_out us z, Option.bind_some, if_neg (show ¬ (1 : Int32) = 0 by decide)]
      exact ⟨_, _, _, rfl, rfl, h'⟩
    · have hsc := hs c hc4
      rw [X_scanOf_in hc4 (by rw [hsc.1]; exact hsc.2.2.2.2.2.2.1), Option.bind_some, R_noScan_in us hc4, Option.bind_some, hsc.1]
      by_cases q : us c = 0
      · rw [if_pos q, if_pos q, if_neg (show ¬ (1 : Int32) = 0 by decide)]
        exact ⟨_, _, _, rfl, rfl, h'⟩
      · rw [if_neg q, if_neg q, if_pos rfl, if_pos (kx_nI hc4 (by omega)), nI_clamp (by omega), vz_0]
        show ∃ r sc' us', (if c < 4 then _ else _) = _ ∧ _
        rw [if_pos hc4, Option.bind_some]
        refine ⟨_, _, _, rfl, rfl, hp, ht, ho, hc, hh, hw, fun c' hc' => ?_⟩
        by_cases e : c' = c
        · subst e
          rw [va_up_self, pk_us]
          exact scR_end hsc
        · rw [va_up_ne _ _ e, pk_un e]
          exact hs c' hc'
  · rw [if_pos rfl, if_neg (by decide)]
    exact ⟨_, _, _, rfl, rfl, h'⟩
/-- a scan that can be used, or none, alike -/
theorem use_cases (h : Rel tx pw wl dk mm hd sc of op cr tb cs lw hg us de sa ky) (a1 : Int32) : (p_X_usableScan pw sc a1 = some none ∧ (p_R_noScan of us a1 = some 1 ∨ (p_R_noScan of us a1 = some 0 ∧ ∃ c, c < 4 ∧ a1 = nI c ∧ de c ≠ 0))) ∨ (∃ c, c < 4 ∧ a1 = nI c ∧ p_X_usableScan pw sc a1 = some (some c) ∧ p_R_noScan of us a1 = some 0 ∧ us c = 1 ∧ de c = 0) := by
  obtain ⟨hp, ht, ho, hc, hh, hw, hs⟩ := h
  unfold p_X_usableScan p_S_isVoid
  rw [D_pow hp.pw, Option.bind_some]
  rcases id hp with ⟨rfl, rfl, hj⟩ | ⟨rfl, rfl, hj⟩
  · rw [if_neg (show ¬ (1 : Int32) = 0 by decide)]
    rcases scan_cases a1 with z | ⟨c, hc4, rfl⟩
    · rw [X_scanOf_out z, Option.bind_some, R_noScan_out us z]
      exact Or.inl ⟨rfl, Or.inl rfl⟩
    · have hsc := hs c hc4
      rw [X_scanOf_in hc4 (by rw [hsc.1]; exact hsc.2.2.2.2.2.2.1), Option.bind_some, R_noScan_in us hc4, hsc.1]
      by_cases q : us c = 0
      · rw [if_pos q, if_pos q]
        exact Or.inl ⟨rfl, Or.inl rfl⟩
      · have u1 : us c = 1 := hsc.2.2.2.2.2.2.1.resolve_left q
        rw [if_neg q, if_neg q]
        have hd2 := hsc.2.1
        have hd := hsc.2.2.2.2.2.2.2.1
        show ((if c < 4 then (if (sc c).2.1 &&& 1 = (sc c).2.1 then some (sc c).2.1 else none).bind _ else none) = _ ∧ _) ∨ _
        rw [if_pos hc4, hd2, if_pos (b01_and hd), Option.bind_some]
        by_cases qd : de c = 0
        · rw [if_pos qd]
          refine Or.inr ⟨c, hc4, rfl, ?_, rfl, u1, qd⟩
          show (if c < 4 then (if (sc c).2.1 &&& 1 = (sc c).2.1 then some (sc c).2.1 else none).bind _ else none) = _
          rw [if_pos hc4, hd2, if_pos (b01_and hd), Option.bind_some, if_pos qd]
        · rw [if_neg qd]
          exact Or.inl ⟨rfl, Or.inr ⟨rfl, c, hc4, rfl, qd⟩⟩
  · rw [if_pos rfl, R_noScan_off]
    exact Or.inl ⟨rfl, Or.inl rfl⟩
end SIM4
