/-! THE REFERENCE's commit and recovery write the same -/
theorem R_putHead_loop (of cr wn : Int32) (dk wk : Nat → Int32) (x1 x2 : Int32) : p_R_putHead of cr wn dk wk x1 x2 = p_R_putHead_2 (pl_R_putHead_2 983) x1 x2 (nI 16) of cr wn dk (wkf wk zf) := by
  have h := lp_for (fun n x w => pl_R_putHead_2 n x1 x2 x of cr wn dk w) (fun i w => upd w (0 + i) 0) (fun w => p_R_putHead_2 (pl_R_putHead_2 983) x1 x2 (nI 16) of cr wn dk w) 16
    (fun n i w hi => by
      show p_R_putHead_2 (pl_R_putHead_2 n) x1 x2 (nI i) of cr wn dk w = _
      unfold p_R_putHead_2
      rw [if_neg (by rw [nI_lit_le 16 (by omega) (by omega)]; omega), if_pos (kx_nI (by omega) (by omega)), nI_clamp (by omega), nI_a1, Nat.zero_add])
    (fun n w => by
      show p_R_putHead_2 (pl_R_putHead_2 n) x1 x2 (nI 16) of cr wn dk w = _
      unfold p_R_putHead_2
      rw [if_pos (show (16 : Int32) ≤ nI 16 by decide), if_pos (show (16 : Int32) ≤ nI 16 by decide)]) 16 1000 0 wk (by omega) (by omega)
  rw [itr_wkf wk (fun _ => 0)] at h
  exact h
theorem R_putHead_put (of : Int32) (u : UU) (wk f : Nat → Int32) (hf : ∀ j, j < 16 → wk j = f j) : p_R_putHead_59 of u.1 u.2.1 u.2.2 wk = some (b2i (putU u 16 f).1, (if (putU u 16 f).1 then of else 1), (putU u 16 f).2.1, (putU u 16 f).2.2.1, (putU u 16 f).2.2.2, wk) := by
  unfold p_R_putHead_59
  rw [show (16 : Int32) = nI 16 from rfl, R_put_spec of u.1 u.2.1 u.2.2 wk (by omega), Option.bind_some, if_pos (b2i_and _), put_congr u.1 u.2.1 u.2.2 16 hf]
theorem R_putHead_z (of : Int32) (u : UU) (wk : Nat → Int32) : ∃ wk', p_R_putHead of u.1 u.2.1 u.2.2 wk 0 0 = some (b2i (cput u).1, (if (cput u).1 then of else 1), (cput u).2.1, (cput u).2.2.1, (cput u).2.2.2, wk') := by
  refine ⟨wkf wk zf, ?_⟩
  rw [R_putHead_loop]
  unfold p_R_putHead_2
  rw [if_pos (by decide), if_pos (by decide)]
  exact R_putHead_put of u (wkf wk zf) zf (fun j hj => by unfold wkf; rw [if_pos hj])
theorem R_putHead_h (of : Int32) (u : UU) (wk : Nat → Int32) {S : Int32} (h0 : 0 < pcn S 16) : ∃ wk', p_R_putHead of u.1 u.2.1 u.2.2 wk (nI (pcn S 16)) S = some (b2i (hput S u).1, (if (hput S u).1 then of else 1), (hput S u).2.1, (hput S u).2.2.1, (hput S u).2.2.2, wk') := by
  have hp := pcn_le S 16
  refine ⟨upd (upd (upd (upd (wkf wk zf) 0 6517) 1 (nI (pcn S 16))) 2 S) 3 (chk u.2.2 (pcn S 16)), ?_⟩
  rw [R_putHead_loop]
  unfold p_R_putHead_2
  rw [if_pos (by decide), if_neg (by rw [nI_le_lit 0 (by omega) (by omega)]; omega), if_pos (by decide), if_pos (by decide), if_pos (by decide), R_check u.2.2 hp, Option.bind_some, if_pos (by decide), c0, show (1 : Int32).toNatClampNeg = 1 from by decide, show (2 : Int32).toNatClampNeg = 2 from by decide, show (3 : Int32).toNatClampNeg = 3 from by decide]
  exact R_putHead_put of u _ (hdf (pcn S 16) S (chk u.2.2 (pcn S 16))) (fun j hj => by
    unfold hdf
    by_cases q3 : j = 3
    · subst q3; rfl
    · rw [pk_un q3]
      by_cases q2 : j = 2
      · subst q2; rfl
      · rw [pk_un q2]
        by_cases q1 : j = 1
        · subst q1; rfl
        · rw [pk_un q1]
          by_cases q0 : j = 0
          · subst q0; rfl
          · rw [pk_un q0, if_neg q0, if_neg q1, if_neg q2, if_neg q3]
            unfold wkf
            rw [if_pos hj]
            rfl)
/-- how the reference's commit ends -/
def cres (r : Bool × UU) (of op : Int32) (wk : Nat → Int32) : Option (Int32 × Int32 × Int32 × Int32 × Int32 × (Nat → Int32) × (Nat → Int32)) := if r.1 = true then some (0, of, 0, r.2.1, r.2.2.1, r.2.2.2, wk) else some (-1, 1, op, r.2.1, r.2.2.1, r.2.2.2, wk)
section RC
variable (mm : Nat → Int32) (S of op : Int32)
theorem R_c2_off : ∀ c n b (of : Int32) (u : UU) wk, b + c = 16 → c < n → pl_R_commit_106 mm n S 0 (nI b) of op u.1 u.2.1 u.2.2 wk = some (-1, of, op, u.1, u.2.1, u.2.2, wk) := by
  intro c
  induction c with
  | zero =>
    intro n b of u wk h1 h2
    obtain ⟨n, rfl⟩ : ∃ q, n = q + 1 := ⟨n - 1, by omega⟩
    have e : b = 16 := by omega
    subst e
    show p_R_commit_106 mm (pl_R_commit_106 mm n) S 0 (nI 16) of op u.1 u.2.1 u.2.2 wk = _
    unfold p_R_commit_106 p_R_commit_164 p_R_commit_165 p_R_commit_166
    rw [if_pos (by decide), if_pos rfl, if_pos rfl]
  | succ c ih =>
    intro n b of u wk h1 h2
    obtain ⟨n, rfl⟩ : ∃ q, n = q + 1 := ⟨n - 1, by omega⟩
    show p_R_commit_106 mm (pl_R_commit_106 mm n) S 0 (nI b) of op u.1 u.2.1 u.2.2 wk = _
    unfold p_R_commit_106 p_R_commit_139 p_R_commit_140
    rw [if_neg (by rw [nI_lit_le 16 (by omega) (by omega)]; omega), if_pos rfl, nI_a1]
    exact ih n (b + 1) of u wk (by omega) (by omega)
theorem runs_t {S : Int32} {tg : Nat → Nat} {src : Nat → (Nat → Int32) → Nat → Int32} {c b : Nat} {u : UU} (h : bt S b = true) : runs S tg src (c + 1) b u = thn (putU u (tg b) (src b u.2.2)) (runs S tg src c (b + 1)) := by
  show (if bt S b = true then _ else _) = _
  rw [if_pos h]
  unfold thn
  cases hq : putU u (tg b) (src b u.2.2) with
  | mk ok u' =>
    cases ok with
    | true => rfl
    | false => rfl
theorem runs_f {S : Int32} {tg : Nat → Nat} {src : Nat → (Nat → Int32) → Nat → Int32} {c b : Nat} {u : UU} (h : bt S b = false) : runs S tg src (c + 1) b u = runs S tg src c (b + 1) u := by
  show (if bt S b = true then _ else _) = _
  rw [if_neg (by rw [h]; decide)]
theorem thn_thn (r : Bool × UU) (f g : UU → Bool × UU) : thn (thn r f) g = thn r (fun u => thn (f u) g) := by
  obtain ⟨ok, u⟩ := r
  cases ok with
  | true => rfl
  | false => rfl
theorem R_c2_on (of : Int32) : ∀ c n b (u : UU) wk, b + c = 16 → c < n → ∃ wk', pl_R_commit_106 mm n S 1 (nI b) of op u.1 u.2.1 u.2.2 wk = cres (thn (savs S mm c b u) cput) of op wk' := by
  intro c
  induction c with
  | zero =>
    intro n b u wk h1 h2
    obtain ⟨n, rfl⟩ : ∃ q, n = q + 1 := ⟨n - 1, by omega⟩
    have e : b = 16 := by omega
    subst e
    obtain ⟨wk', e⟩ := R_putHead_z of u wk
    refine ⟨wk', ?_⟩
    show p_R_commit_106 mm (pl_R_commit_106 mm n) S 1 (nI 16) of op u.1 u.2.1 u.2.2 wk = cres (cput u) of op wk'
    unfold p_R_commit_106 p_R_commit_164 p_R_commit_165 p_R_commit_166
    rw [if_pos (by decide), if_neg (by decide), e, Option.bind_some]
    generalize cput u = r
    obtain ⟨ok, u'⟩ := r
    cases ok with
    | true =>
      show (if (1 : Int32) = 0 then _ else _) = _
      rw [if_neg (by decide), if_neg (by decide)]
      rfl
    | false =>
      show (if (0 : Int32) = 0 then _ else _) = _
      rw [if_pos rfl, if_pos rfl]
      rfl
  | succ c ih =>
    intro n b u wk h1 h2
    obtain ⟨n, rfl⟩ : ∃ q, n = q + 1 := ⟨n - 1, by omega⟩
    have hst : pl_R_commit_106 mm (n + 1) S 1 (nI b) of op u.1 u.2.1 u.2.2 wk = p_R_commit_106 mm (pl_R_commit_106 mm n) S 1 (nI b) of op u.1 u.2.1 u.2.2 wk := rfl
    rw [hst]
    unfold p_R_commit_106 p_R_commit_139 p_R_commit_135 p_R_commit_140
    rw [if_neg (by rw [nI_lit_le 16 (by omega) (by omega)]; omega), if_neg (by decide), nI_a1]
    cases hS : bt S b with
    | false =>
      rw [if_pos ((bit0 S (by omega)).mpr hS), show savs S mm (c + 1) b u = savs S mm c (b + 1) u from runs_f hS]
      exact ih n (b + 1) u wk (by omega) (by omega)
    | true =>
      obtain ⟨wk1, e1⟩ := R_putFromMemory_spec of u.1 u.2.1 u.2.2 mm wk (b := b) (by omega)
      rw [if_neg (fun q => by rw [(bit0 S (by omega)).mp q] at hS; cases hS), e1, Option.bind_some, show savs S mm (c + 1) b u = thn (putU u b (srcM mm b u.2.2)) (savs S mm c (b + 1)) from runs_t hS, thn_thn]
      show ∃ wk', (if b2i (putU u b (srcM mm b u.2.2)).1 = 0 then _ else _) = _
      cases hq : putU u b (srcM mm b u.2.2) with
      | mk ok u' =>
        have hq' : put u.1 u.2.1 u.2.2 b (fun j => mm (16 * b + j)) = (ok, u') := hq
        rw [hq']
        cases ok with
        | true =>
          show ∃ wk', (if (1 : Int32) = 0 then _ else _) = _
          rw [if_neg (by decide)]
          exact ih n (b + 1) u' wk1 (by omega) (by omega)
        | false =>
          show ∃ wk', (if (0 : Int32) = 0 then _ else _) = _
          rw [if_pos rfl]
          refine ⟨wk1, ?_⟩
          exact R_c2_off mm S op c n (b + 1) 1 u' wk1 (by omega) (by omega)
variable (hn : 0 < pcn S 16)
theorem pcn_S (b : Nat) (h : bt S b = true) : nI (pcn S b) + 1 = nI (pcn S (b + 1)) := by
  rw [nI_a1]
  show _ = nI (pcn S b + (if bt S b = true then 1 else 0))
  rw [if_pos h]
theorem pcn_F (b : Nat) (h : bt S b = false) : pcn S (b + 1) = pcn S b := by
  show pcn S b + (if bt S b = true then 1 else 0) = _
  rw [if_neg (by rw [h]; decide)]
  rfl
theorem R_c1_off (hn : 0 < pcn S 16) : ∀ c n b (of : Int32) (u : UU) wk, b + c = 16 → c < n → pl_R_commit_31 mm n S (nI (pcn S b)) 0 (nI b) of op u.1 u.2.1 u.2.2 wk = some (-1, of, op, u.1, u.2.1, u.2.2, wk) := by
  intro c
  induction c with
  | zero =>
    intro n b of u wk h1 h2
    obtain ⟨n, rfl⟩ : ∃ q, n = q + 1 := ⟨n - 1, by omega⟩
    have e : b = 16 := by omega
    subst e
    have hp := pcn_le S 16
    show p_R_commit_31 mm (pl_R_commit_31 mm n) S (nI (pcn S 16)) 0 (nI 16) of op u.1 u.2.1 u.2.2 wk = _
    unfold p_R_commit_31 p_R_commit_101 p_R_commit_102
    rw [if_pos (by decide), if_neg (by rw [nI_le_lit 0 (by omega) (by omega)]; omega), if_pos rfl]
    exact R_c2_off mm S op 16 1000 0 of u wk (by omega) (by omega)
  | succ c ih =>
    intro n b of u wk h1 h2
    obtain ⟨n, rfl⟩ : ∃ q, n = q + 1 := ⟨n - 1, by omega⟩
    show p_R_commit_31 mm (pl_R_commit_31 mm n) S (nI (pcn S b)) 0 (nI b) of op u.1 u.2.1 u.2.2 wk = _
    unfold p_R_commit_31 p_R_commit_69 p_R_commit_70 p_R_commit_74
    rw [if_neg (by rw [nI_lit_le 16 (by omega) (by omega)]; omega), if_pos rfl, nI_a1 b]
    cases hS : bt S b with
    | true =>
      rw [if_pos ((bit1 S (by omega)).mpr hS), pcn_S S b hS]
      exact ih n (b + 1) of u wk (by omega) (by omega)
    | false =>
      rw [if_neg (fun q => by rw [(bit1 S (by omega)).mp q] at hS; cases hS), ← pcn_F S b hS]
      exact ih n (b + 1) of u wk (by omega) (by omega)
theorem R_c1_on (hn : 0 < pcn S 16) (of : Int32) : ∀ c n b (u : UU) wk, b + c = 16 → c < n → ∃ wk', pl_R_commit_31 mm n S (nI (pcn S b)) 1 (nI b) of op u.1 u.2.1 u.2.2 wk = cres (thn (imgs S c b u) (fun u => thn (hput S u) (fun u => thn (savs S mm 16 0 u) cput))) of op wk' := by
  intro c
  induction c with
  | zero =>
    intro n b u wk h1 h2
    obtain ⟨n, rfl⟩ : ∃ q, n = q + 1 := ⟨n - 1, by omega⟩
    have e : b = 16 := by omega
    subst e
    have hp := pcn_le S 16
    obtain ⟨wk1, e1⟩ := R_putHead_h of u wk hn
    show ∃ wk', p_R_commit_31 mm (pl_R_commit_31 mm n) S (nI (pcn S 16)) 1 (nI 16) of op u.1 u.2.1 u.2.2 wk = cres (thn (hput S u) (fun u => thn (savs S mm 16 0 u) cput)) of op wk'
    unfold p_R_commit_31 p_R_commit_101 p_R_commit_102
    rw [if_pos (by decide), if_neg (by rw [nI_le_lit 0 (by omega) (by omega)]; omega), if_neg (by decide), e1, Option.bind_some]
    cases hq : hput S u with
    | mk ok u' =>
      cases ok with
      | true =>
        show ∃ wk', (if (1 : Int32) = 0 then _ else _) = _
        rw [if_neg (by decide), thn_t]
        exact R_c2_on mm S op of 16 1000 0 u' wk1 (by omega) (by omega)
      | false =>
        show ∃ wk', (if (0 : Int32) = 0 then _ else _) = _
        rw [if_pos rfl, thn_f]
        exact ⟨wk1, R_c2_off mm S op 16 1000 0 1 u' wk1 (by omega) (by omega)⟩
  | succ c ih =>
    intro n b u wk h1 h2
    obtain ⟨n, rfl⟩ : ∃ q, n = q + 1 := ⟨n - 1, by omega⟩
    have hp := pcn_le S b
    have hst : pl_R_commit_31 mm (n + 1) S (nI (pcn S b)) 1 (nI b) of op u.1 u.2.1 u.2.2 wk = p_R_commit_31 mm (pl_R_commit_31 mm n) S (nI (pcn S b)) 1 (nI b) of op u.1 u.2.1 u.2.2 wk := rfl
    rw [hst]
    unfold p_R_commit_31 p_R_commit_69 p_R_commit_70 p_R_commit_74
    rw [if_neg (by rw [nI_lit_le 16 (by omega) (by omega)]; omega), if_neg (show ¬ (1 : Int32) = 0 by decide), nI_a1 b]
    cases hS : bt S b with
    | false =>
      rw [if_neg (fun q => by rw [(bit1 S (by omega)).mp q] at hS; cases hS), ← pcn_F S b hS, show imgs S (c + 1) b u = imgs S c (b + 1) u from runs_f hS]
      exact ih n (b + 1) u wk (by omega) (by omega)
    | true =>
      obtain ⟨wk1, e1⟩ := R_putFromDisk_spec of u.1 u.2.1 u.2.2 wk (b := 17 + pcn S b) (fb := b) (by omega) (by omega)
      rw [if_pos ((bit1 S (by omega)).mpr hS), show (17 : Int32) + nI (pcn S b) = nI (17 + pcn S b) from (nI_add 17 (pcn S b)), e1, Option.bind_some, show imgs S (c + 1) b u = thn (putU u (tgI S b) (srcD b u.2.2)) (imgs S c (b + 1)) from runs_t hS, thn_thn, pcn_S S b hS]
      show ∃ wk', (if b2i (putU u (tgI S b) (srcD b u.2.2)).1 = 0 then _ else _) = _
      cases hq : putU u (tgI S b) (srcD b u.2.2) with
      | mk ok u' =>
        have hq' : put u.1 u.2.1 u.2.2 (17 + pcn S b) (fun j => u.2.2 (16 * b + j)) = (ok, u') := hq
        rw [hq']
        cases ok with
        | true =>
          show ∃ wk', (if (1 : Int32) = 0 then _ else _) = _
          rw [if_neg (by decide), thn_t]
          exact ih n (b + 1) u' wk1 (by omega) (by omega)
        | false =>
          show ∃ wk', (if (0 : Int32) = 0 then _ else _) = _
          rw [if_pos rfl, thn_f]
          exact ⟨wk1, R_c1_off mm S op hn c n (b + 1) 1 u' wk1 (by omega) (by omega)⟩
end RC
