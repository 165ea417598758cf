/-! SIMULATION: the class and the reference, call by call (1) -/
def PWR (pw of : Int32) (dk : Nat → Int32) : Prop := (pw = 1 ∧ of = 0 ∧ JI dk) ∨ (pw = 0 ∧ of = 1 ∧ (JI dk ∨ ∃ D0 S, JH dk D0 S))
def scA (mm : Nat → Int32) (sc : Nat → SCT) (tb cs lw hg us de sa ky : Nat → Int32) : Prop := ∀ c, c < 4 → scR mm (sc c) (us c) (de c) (tb c) (cs c) (lw c) (hg c) (sa c) (ky c)
def Rel (tx pw wl : Int32) (dk mm hd : Nat → Int32) (sc : Nat → SCT) (of op cr : Int32) (tb cs lw hg us de sa ky : Nat → Int32) : Prop := PWR pw of dk ∧ (tx = 0 ∨ tx = 1) ∧ op = tx ∧ cr = wl ∧ hdOk hd ∧ WF mm ∧ scA mm sc tb cs lw hg us de sa ky
theorem D_pow {pw : Int32} (h : pw = 0 ∨ pw = 1) : p_D_powered pw = some pw := by
  unfold p_D_powered
  rw [if_pos (b01_and h)]
theorem PWR.pw {pw of : Int32} {dk : Nat → Int32} (h : PWR pw of dk) : pw = 0 ∨ pw = 1 := by
  rcases h with h | h
  · exact Or.inr h.1
  · exact Or.inl h.1
theorem scR_end {mm m : Nat → Int32} {x : SCT} {us de tb cs lw hg sa ky : Int32} (h : scR mm x us de tb cs lw hg sa ky) : scR m (en1 x) 0 de tb cs lw hg sa ky := by
  obtain ⟨h1, h2, h3, h4, h5, h6, hu, hd, htb, hlv⟩ := h
  exact ⟨rfl, h2, h3, h4, h5, h6, Or.inl rfl, hd, htb, fun z => absurd z (by decide)⟩
theorem scA_end {mm m : Nat → Int32} {sc : Nat → SCT} {tb cs lw hg us de sa ky : Nat → Int32} (h : scA mm sc tb cs lw hg us de sa ky) : scA m (in4 en1 sc) tb cs lw hg (us0 us) de sa ky := fun c hc => by
  rw [in4_in hc, show us0 us c = 0 from if_pos hc]
  exact scR_end (h c hc)
theorem scA_change {mm m : Nat → Int32} {sc : Nat → SCT} {tb cs lw hg us de sa ky : Nat → Int32} (h : scA mm sc tb cs lw hg us de sa ky) {t : Nat} (ht : t < 5) (hs : ∀ t', t' < 5 → t ≠ t' → tsame mm m t') : scA m (in4 (vd1 (nI t)) sc) tb cs lw hg us (chg tb de (nI t)) sa ky := fun c hc => by
  rw [in4_in hc, show chg tb de (nI t) c = _ from if_pos hc]
  exact scR_change (h c hc) ht hs
theorem scA_same {mm m : Nat → Int32} {sc : Nat → SCT} {tb cs lw hg us de sa ky : Nat → Int32} (h : scA mm sc tb cs lw hg us de sa ky) (hs : ∀ t w L, t < 5 → tbP mm t w L → tsame mm m t) : scA m sc tb cs lw hg us de sa ky := fun c hc => by
  obtain ⟨h1, h2, h3, h4, h5, h6, hu, hd, htb, hlv⟩ := h c hc
  refine ⟨h1, h2, h3, h4, h5, h6, hu, hd, htb, fun u1 d0 => ?_⟩
  obtain ⟨t, w, L, c', a1, a2, a3, a4⟩ := hlv u1 d0
  exact live.same ⟨t, w, L, c', a1, a2, a3, a4⟩ (fun t' ht' hx' => by
    have : t' = t := nI_inj (by omega) (by omega) (hx'.symm.trans a2)
    subst this
    exact hs t' w L a1 a3)
theorem scA_roll {mm m : Nat → Int32} {sc : Nat → SCT} {tb cs lw hg us de sa ky : Nat → Int32} (h : scA mm sc tb cs lw hg us de sa ky) : scA m (in4 vdA sc) tb cs lw hg us (all1 de) sa ky := fun c hc => by
  obtain ⟨h1, h2, h3, h4, h5, h6, hu, hd, ⟨t, ht, htb⟩, hlv⟩ := h c hc
  rw [in4_in hc, show all1 de c = 1 from if_pos hc, vdA_eq ht (h3.trans htb)]
  exact ⟨h1, rfl, h3, h4, h5, h6, hu, Or.inr rfl, ⟨t, ht, htb⟩, fun _ z => absurd z (by decide)⟩
section SIM
variable {tx pw wl : Int32} {dk mm hd : Nat → Int32} {sc : Nat → SCT} {of op cr : Int32} {tb cs lw hg us de sa ky : Nat → Int32}
theorem sim_format (h : Rel tx pw wl dk mm hd sc of op cr tb cs lw hg us de sa ky) : p_X_format tx pw wl dk mm sc = some (0, 0, 1, -1, wz dk, ldm (wz dk) mm, in4 en1 sc) ∧ p_R_format of op cr dk mm us = some (0, 0, 0, -1, wz dk, ldm (wz dk) mm, us0 us) ∧ Rel 0 1 (-1) (wz dk) (ldm (wz dk) mm) hd (in4 en1 sc) 0 0 (-1) tb cs lw hg (us0 us) de sa ky := by
  obtain ⟨hp, ht, ho, hc, hh, hw, hs⟩ := h
  refine ⟨?_, R_format of op cr dk mm us, Or.inl ⟨rfl, rfl, fun j hj => ?_, WF_zero (fun j hj => ?_)⟩, Or.inl rfl, rfl, rfl, hh, WF_zero (fun j hj => ?_), scA_end hs⟩
  · unfold p_X_format
    rw [D_wipe, Option.bind_some, X_startAnew, Option.bind_some]
  · unfold wz; rw [if_pos (by omega)]
  · unfold wz; rw [if_pos (by omega)]
  · unfold ldm wz; rw [if_pos hj, if_pos (by omega)]
theorem sim_begin (h : Rel tx pw wl dk mm hd sc of op cr tb cs lw hg us de sa ky) : ∃ r tx', p_X_begin tx pw = some (r, tx') ∧ p_R_begin of op = some (r, tx') ∧ Rel tx' pw wl dk mm hd sc of tx' cr tb cs lw hg us de sa ky := by
  obtain ⟨hp, ht, ho, hc, hh, hw, hs⟩ := h
  replace ho := ho.symm
  subst ho
  unfold p_X_begin p_R_begin
  rw [D_pow hp.pw, Option.bind_some]
  rcases id hp with ⟨rfl, rfl, hj⟩ | ⟨rfl, rfl, hj⟩
  · rw [if_neg (by decide), if_pos rfl]
    by_cases q : tx = 0
    · rw [if_pos q]
      exact ⟨_, _, rfl, rfl, hp, Or.inr rfl, rfl, hc, hh, hw, hs⟩
    · rw [if_neg q]
      exact ⟨_, _, rfl, rfl, hp, ht, rfl, hc, hh, hw, hs⟩
  · rw [if_pos rfl, if_neg (by decide)]
    exact ⟨_, _, rfl, rfl, hp, ht, rfl, hc, hh, hw, hs⟩
theorem X_refusal (hp : pw = 0 ∨ pw = 1) : p_X_refusalOutsideTransaction tx pw = some (if pw = 0 then -1 else if tx = 0 then -2 else 0) := by
  unfold p_X_refusalOutsideTransaction p_X_refusalOutsideTransaction_25
  rw [D_pow hp, Option.bind_some]
  by_cases q : pw = 0
  · rw [if_pos q, if_pos q]
  · rw [if_neg q, if_neg q]
    by_cases q2 : tx = 0
    · rw [if_pos q2, if_pos q2]
    · rw [if_neg q2, if_neg q2]
theorem R_c1_zero (mm : Nat → Int32) (of op : Int32) : ∀ c n b (u : UU) wk, b + c = 16 → c < n → pl_R_commit_31 mm n 0 0 1 (nI b) of op u.1 u.2.1 u.2.2 wk = some (0, of, 0, u.1, u.2.1, u.2.2, wk) := by
  intro c
  induction c with
  | zero =>
    intro n b u wk h1 h2
    obtain ⟨n, rfl⟩ : ∃ q, n = q + 1 := ⟨n - 1, by omega⟩
    have e : b = 16 := by omega
    subst e
    show p_R_commit_31 mm (pl_R_commit_31 mm n) 0 0 1 (nI 16) of op u.1 u.2.1 u.2.2 wk = _
    unfold p_R_commit_31 p_R_commit_166
    rw [if_pos (by decide), if_pos (by decide), if_neg (by decide)]
  | succ c ih =>
    intro n b u wk h1 h2
    obtain ⟨n, rfl⟩ : ∃ q, n = q + 1 := ⟨n - 1, by omega⟩
    show p_R_commit_31 mm (pl_R_commit_31 mm n) 0 0 1 (nI b) of op u.1 u.2.1 u.2.2 wk = _
    unfold p_R_commit_31 p_R_commit_74
    rw [if_neg (by rw [nI_lit_le 16 (by omega) (by omega)]; omega), if_neg (fun q => by have := (bit1 0 (by omega)).mp q; rw [b_0] at this; cases this), nI_a1]
    exact ih n (b + 1) u wk (by omega) (by omega)
theorem sim_commit (wn : Int32) (wk : Nat → Int32) (h : Rel tx pw wl dk mm hd sc of op cr tb cs lw hg us de sa ky) : ∃ r tx' pw' wl' wn' dk' hd' of' wk', p_X_commit tx pw wl wn dk mm hd = some (r, tx', pw', wl', wn', dk', hd') ∧ p_R_commit of op cr wn dk mm wk = some (r, of', tx', wl', wn', dk', wk') ∧ Rel tx' pw' wl' dk' mm hd' sc of' tx' wl' tb cs lw hg us de sa ky := by
  obtain ⟨hp, ht, ho, hc, hh, hw, hs⟩ := h
  replace ho := ho.symm
  replace hc := hc.symm
  subst ho hc
  unfold p_X_commit p_R_commit
  rw [X_refusal hp.pw, Option.bind_some]
  rcases id hp with ⟨rfl, rfl, hj⟩ | ⟨rfl, rfl, hj⟩
  · rw [if_neg (show ¬ (1 : Int32) = 0 by decide), if_pos (show (0 : Int32) = 0 from rfl)]
    rcases ht with rfl | rfl
    · rw [if_pos rfl, if_neg (by decide), if_pos rfl]
      exact ⟨_, _, _, _, _, _, _, _, _, rfl, rfl, hp, Or.inl rfl, rfl, rfl, hh, hw, hs⟩
    · rw [if_neg (show ¬ (1 : Int32) = 0 by decide), if_pos rfl, if_neg (show ¬ (1 : Int32) = 0 by decide)]
      obtain ⟨S, hS1, hS2⟩ := R_changed dk mm
      rw [hS1, Option.bind_some]
      by_cases h0 : S = 0
      · subst h0
        obtain ⟨S', hX1, hX2⟩ := J_changed dk mm
        have e := setD_uniq hX2 hS2
        subst e
        have hX : p_J_carryOut hd 1 wl wn dk mm = some (1, hd, 1, wl, wn, dk) := by
          unfold p_J_carryOut
          rw [hX1, Option.bind_some, if_pos rfl]
        rw [hX, Option.bind_some, if_neg (show ¬ (1 : Int32) = 0 by decide)]
        refine ⟨_, _, _, _, _, _, _, _, _, rfl, R_c1_zero mm 0 1 16 1000 0 (wl, wn, dk) wk (by omega) (by omega), hp, Or.inl rfl, rfl, rfl, hh, hw, hs⟩
      · have hn := pcn_pos hS2.1 h0
        obtain ⟨hd', hh', hX⟩ := J_carryOut hd hh 1 (wl, wn, dk) mm hS2 h0
        obtain ⟨wk', hR⟩ := R_c1_on mm S 1 hn 0 16 1000 0 (wl, wn, dk) wk (by omega) (by omega)
        have hI := cmt_inv (u := (wl, wn, dk)) hj hw hS2 hn
        have hX' : p_J_carryOut hd 1 wl wn dk mm = some (b2i (cmt S mm (wl, wn, dk)).1, hd', (if (cmt S mm (wl, wn, dk)).1 then 1 else 0), (cmt S mm (wl, wn, dk)).2) := hX
        have hR' : pl_R_commit_31 mm 1000 S 0 1 0 0 1 wl wn dk wk = cres (cmt S mm (wl, wn, dk)) 0 1 wk' := hR
        rw [hX', hR', Option.bind_some]
        generalize cmt S mm (wl, wn, dk) = r at hI ⊢
        obtain ⟨ok, wl', wn', dk'⟩ := r
        cases ok with
        | true =>
          obtain ⟨z1, z2⟩ := hI.1 rfl
          show ∃ r tx' pw' wl'' wn'' dk'' hd'' of' wk'', (if (1 : Int32) = 0 then _ else _) = _ ∧ _
          rw [if_neg (by decide)]
          exact ⟨_, _, _, _, _, _, _, _, _, rfl, rfl, Or.inl ⟨rfl, rfl, z1, WF_congr z2 hw⟩, Or.inl rfl, rfl, rfl, hh', hw, hs⟩
        | false =>
          show ∃ r tx' pw' wl'' wn'' dk'' hd'' of' wk'', (if (0 : Int32) = 0 then _ else _) = _ ∧ _
          rw [if_pos rfl]
          refine ⟨_, _, _, _, _, _, _, _, _, rfl, rfl, Or.inr ⟨rfl, rfl, ?_⟩, Or.inr rfl, rfl, rfl, hh', hw, hs⟩
          rcases hI.2 rfl with z | ⟨D0, z⟩
          · exact Or.inl z
          · exact Or.inr ⟨D0, S, z⟩
  · rw [if_pos (show (0 : Int32) = 0 from rfl), if_neg (by decide), if_neg (by decide)]
    exact ⟨_, _, _, _, _, _, _, _, _, rfl, rfl, hp, ht, rfl, rfl, hh, hw, hs⟩
theorem sim_rollback (h : Rel tx pw wl dk mm hd sc of op cr tb cs lw hg us de sa ky) : ∃ r tx' mm' sc' de', p_X_rollback tx pw dk mm sc = some (r, tx', mm', sc') ∧ p_R_rollback of op dk mm de = some (r, tx', mm', de') ∧ Rel tx' pw wl dk mm' hd sc' of tx' cr tb cs lw hg us de' sa ky := by
  obtain ⟨hp, ht, ho, hc, hh, hw, hs⟩ := h
  replace ho := ho.symm
  subst ho
  unfold p_X_rollback p_R_rollback
  rw [X_refusal hp.pw, Option.bind_some]
  rcases id hp with ⟨rfl, rfl, hj⟩ | ⟨rfl, rfl, hj⟩
  · rw [if_neg (show ¬ (1 : Int32) = 0 by decide), if_pos (show (0 : Int32) = 0 from rfl)]
    rcases ht with rfl | rfl
    · rw [if_pos rfl, if_neg (by decide), if_pos rfl]
      exact ⟨_, _, _, _, _, rfl, rfl, hp, Or.inl rfl, rfl, hc, hh, hw, hs⟩
    · rw [if_neg (show ¬ (1 : Int32) = 0 by decide), if_pos rfl, if_neg (show ¬ (1 : Int32) = 0 by decide), M_load, Option.bind_some, R_copyBack, Option.bind_some]
      refine ⟨_, _, _, _, _, X_rollback_loop 1 dk (ldm dk mm) sc, R_rollback_loop 0 dk (ldm dk mm) de, hp, Or.inl rfl, rfl, hc, hh, WF_congr (fun j hj => if_pos hj) hj.2, scA_roll hs⟩
  · rw [if_pos (show (0 : Int32) = 0 from rfl), if_neg (by decide), if_neg (by decide)]
    exact ⟨_, _, _, _, _, rfl, rfl, hp, ht, rfl, hc, hh, hw, hs⟩
theorem sim_stage (sg : Nat → Int32) (a1 a2 : Int32) (h : Rel tx pw wl dk mm hd sc of op cr tb cs lw hg us de sa ky) : ∃ r sg', p_X_stage pw sg a1 a2 = some (r, sg') ∧ p_R_stage of sg a1 a2 = some (r, sg') := by
  obtain ⟨hp, ht, ho, hc, hh, hw, hs⟩ := h
  unfold p_X_stage p_R_stage p_X_stage_22 p_R_stage_18
  rw [D_pow hp.pw, Option.bind_some]
  rcases id hp with ⟨rfl, rfl, hj⟩ | ⟨rfl, rfl, hj⟩
  · rw [if_neg (by decide), if_pos rfl]
    rcases pk_ix a1 (n := 6) (by omega) with q | q | ⟨i, hi, rfl⟩
    · rw [if_pos q, if_pos q]
      exact ⟨_, _, rfl, rfl⟩
    · have q1 : ¬ a1 < 0 := fun z => by
        have h1 : nI 6 ≤ a1 := q
        rw [Int32.le_iff_toInt_le] at h1
        rw [Int32.lt_iff_toInt_lt] at z
        have h2 : (nI 6).toInt = 6 := by decide
        have h3 : (0 : Int32).toInt = 0 := by decide
        omega
      have q2 : ¬ a1 < 6 := i32_nlt.mpr q
      have q3 : ¬ a1 ≤ 5 := fun z => by
        have h1 : nI 6 ≤ a1 := q
        rw [Int32.le_iff_toInt_le] at h1 z
        have h2 : (nI 6).toInt = 6 := by decide
        have h3 : (5 : Int32).toInt = 5 := by decide
        omega
      rw [if_neg q1, if_neg q2, if_neg q1, if_neg q3]
      exact ⟨_, _, rfl, rfl⟩
    · rw [if_neg (nI_pos (by omega)), if_pos (by rw [nI_lt_lit 6 (by omega) (by omega)]; omega), if_pos (kx_nI hi (by omega)), if_neg (nI_pos (by omega)), if_pos (by rw [nI_le_lit 5 (by omega) (by omega)]; omega)]
      exact ⟨_, _, rfl, rfl⟩
  · rw [if_pos rfl, if_neg (by decide)]
    exact ⟨_, _, rfl, rfl⟩
theorem sim_crash (a1 : Int32) (h : Rel tx pw wl dk mm hd sc of op cr tb cs lw hg us de sa ky) : ∃ r wl', p_X_crashAfter wl a1 = some (r, wl') ∧ p_R_crashAfter cr a1 = some (r, wl') ∧ Rel tx pw wl' dk mm hd sc of op wl' tb cs lw hg us de sa ky := by
  obtain ⟨hp, ht, ho, hc, hh, hw, hs⟩ := h
  replace hc := hc.symm
  subst hc
  unfold p_X_crashAfter p_R_crashAfter p_D_failAfter
  by_cases q : 0 ≤ a1
  · rw [if_pos q, Option.bind_some]
    rw [if_pos q]
    exact ⟨_, _, rfl, rfl, hp, ht, ho, rfl, hh, hw, hs⟩
  · rw [if_neg q]
    rw [if_neg q]
    exact ⟨_, _, rfl, rfl, hp, ht, ho, rfl, hh, hw, hs⟩
theorem sim_recover (wn : Int32) (wk : Nat → Int32) (h : Rel tx pw wl dk mm hd sc of op cr tb cs lw hg us de sa ky) : ∃ r tx' pw' wl' wn' dk' mm' hd' sc' of' wk' us', p_X_recover tx pw wl wn dk mm hd sc = some (r, tx', pw', wl', wn', dk', mm', hd', sc') ∧ p_R_recover of op cr wn dk mm wk us = some (r, of', tx', wl', wn', dk', mm', wk', us') ∧ Rel tx' pw' wl' dk' mm' hd' sc' of' tx' wl' tb cs lw hg us' de sa ky := by
  obtain ⟨hp, ht, ho, hc, hh, hw, hs⟩ := h
  replace ho := ho.symm
  replace hc := hc.symm
  subst ho hc
  have hj : JI dk ∨ ∃ D0 S, JH dk D0 S := by
    rcases hp with ⟨-, -, hj⟩ | ⟨-, -, hj⟩
    · exact Or.inl hj
    · exact hj
  unfold p_X_recover p_R_recover p_D_powerOn
  rw [Option.bind_some]
  rcases hj with hj | ⟨D0, S, hj⟩
  · have e1 : p_J_undo hd 1 wl wn dk = some (1, hd, 1, wl, wn, dk) := J_undo_none hd 1 (wl, wn, dk) (J_b2u_none hj.1)
    rw [e1, Option.bind_some]
    show ∃ r tx' pw' wl'' wn'' dk'' mm' hd'' sc' of' wk'' us', (if (1 : Int32) = 0 then _ else (p_X_startAnew tx dk mm sc).bind _) = _ ∧ _
    rw [if_neg (by decide), X_startAnew, Option.bind_some, R_isHead_none hj.1, Option.bind_some, if_pos rfl, R_recover_102]
    exact ⟨_, _, _, _, _, _, _, _, _, _, _, _, rfl, rfl, Or.inl ⟨rfl, rfl, hj⟩, Or.inl rfl, rfl, rfl, hh, WF_congr (fun j hj => if_pos hj) hj.2, scA_end hs⟩
  · have h0 : S ≠ 0 := fun z => by
      have := hj.2.1
      rw [z] at this
      exact absurd this (by decide)
    obtain ⟨hd', hh', e1⟩ := J_undo_run hd hh 1 (wl, wn, dk) hj.1 h0 (J_b2u_S hj)
    have e1' : p_J_undo hd 1 wl wn dk = some (b2i (rcv S (wl, wn, dk)).1, hd', (if (rcv S (wl, wn, dk)).1 then 1 else 0), (rcv S (wl, wn, dk)).2) := e1
    obtain ⟨wk', e2⟩ := R_r_on S tx mm us 16 1000 0 (wl, wn, dk) wk (by omega) (by omega)
    have e2' : pl_R_recover_28 1000 S 0 1 0 0 tx wl wn dk mm wk us = rres (rcv S (wl, wn, dk)) tx mm wk' us := e2
    have hI := rcv_inv (u := (wl, wn, dk)) hj
    have h258 : dk 258 = S := hj.2.2.2.1 2 (by omega)
    rw [e1', Option.bind_some, R_isHead_S hj, Option.bind_some, if_neg (show ¬ (1 : Int32) = 0 by decide), if_pos (show kx_in 258 528 = true by decide), c258, h258]
    show ∃ r tx' pw' wl' wn' dk' mm' hd'' sc' of' wk'' us', _ ∧ pl_R_recover_28 1000 S 0 1 0 0 tx wl wn dk mm wk us = _ ∧ _
    rw [e2']
    have hW0 := hj.2.2.1
    generalize rcv S (wl, wn, dk) = r at hI ⊢
    obtain ⟨ok, wl', wn', dk'⟩ := r
    cases ok with
    | true =>
      obtain ⟨z1, z2⟩ := hI.1 rfl
      have hwf : WF dk' := WF_congr z2 hW0
      show ∃ r tx' pw' wl'' wn'' dk'' mm' hd'' sc' of' wk'' us', (if (1 : Int32) = 0 then _ else _) = _ ∧ p_R_recover_102 0 tx wl' wn' dk' mm wk' us = _ ∧ _
      rw [if_neg (by decide), R_recover_102]
      show ∃ r tx' pw' wl'' wn'' dk'' mm' hd'' sc' of' wk'' us', (p_X_startAnew tx dk' mm sc).bind _ = _ ∧ _
      rw [X_startAnew, Option.bind_some]
      exact ⟨_, _, _, _, _, _, _, _, _, _, _, _, rfl, rfl, Or.inl ⟨rfl, rfl, z1, hwf⟩, Or.inl rfl, rfl, rfl, hh', WF_congr (fun j hj => if_pos hj) hwf, scA_end hs⟩
    | false =>
      show ∃ r tx' pw' wl'' wn'' dk'' mm' hd'' sc' of' wk'' us', (if (0 : Int32) = 0 then _ else _) = _ ∧ _
      rw [if_pos rfl]
      exact ⟨_, _, _, _, _, _, _, _, _, _, _, _, rfl, rfl, Or.inr ⟨rfl, rfl, Or.inr ⟨D0, S, hI.2 rfl⟩⟩, ht, rfl, rfl, hh', hw, hs⟩
end SIM
