/-! RECOVERING, and what is as at a start -/
theorem w_lit (dk : Nat → Int32) {b w : Nat} (hb : b < 33) (hw : w < 16) : p_D_word dk (OfNat.ofNat b) (OfNat.ofNat w) = some (dk (16 * b + w)) := D_word_in dk hb hw
theorem J_b2u_none {dk : Nat → Int32} (h : HZ dk) : p_J_blocksToUndo dk = some 0 := by
  unfold p_J_blocksToUndo p_J_blocksToUndo_49
  rw [show p_D_word dk 16 1 = some (dk 257) from D_word_in dk (b := 16) (w := 1) (by omega) (by omega), Option.bind_some, show p_D_word dk 16 2 = some (dk 258) from D_word_in dk (b := 16) (w := 2) (by omega) (by omega), Option.bind_some, show p_D_word dk 16 0 = some (dk 256) from D_word_in dk (b := 16) (w := 0) (by omega) (by omega), Option.bind_some, h 0 (by omega), if_neg (by decide)]
theorem ushr16_0 {S : Int32} (h : sm S) : (S.toUInt32 >>> ((16 : Int32).toUInt32 &&& Int32.toUInt32 31)).toInt32 = 0 := b_ext (fun i _ => by
  rw [show (16 : Int32) = nI 16 from rfl, b_ushr 16 (by omega), b_0, h _ (by omega)])
theorem J_b2u_S {dk D0 : Nat → Int32} {S : Int32} (h : JH dk D0 S) : p_J_blocksToUndo dk = some S := by
  obtain ⟨hS, hn, -, hh, -, -⟩ := h
  have hp := pcn_le S 16
  have h0 : dk 256 = 6517 := hh 0 (by omega)
  have h1 : dk 257 = nI (pcn S 16) := hh 1 (by omega)
  have h2 : dk 258 = S := hh 2 (by omega)
  have h3 : dk 259 = chk dk (pcn S 16) := hh 3 (by omega)
  have key : ∀ c n w, w + c = 16 → 4 ≤ w → c < n → pl_J_blocksToUndo_70 dk n (nI (pcn S 16)) S (nI w) = some S := by
    intro c
    induction c with
    | zero =>
      intro n w e1 e2 e3
      obtain ⟨n, rfl⟩ : ∃ q, n = q + 1 := ⟨n - 1, by omega⟩
      have e : w = 16 := by omega
      subst e
      show p_J_blocksToUndo_70 dk (pl_J_blocksToUndo_70 dk n) (nI (pcn S 16)) S (nI 16) = _
      unfold p_J_blocksToUndo_70 p_J_blocksToUndo_120
      rw [if_pos (by decide), show p_D_word dk 16 3 = some (dk 259) from D_word_in dk (b := 16) (w := 3) (by omega) (by omega), Option.bind_some, J_check dk hp, Option.bind_some, if_pos h3]
    | succ c ih =>
      intro n w e1 e2 e3
      obtain ⟨n, rfl⟩ : ∃ q, n = q + 1 := ⟨n - 1, by omega⟩
      show p_J_blocksToUndo_70 dk (pl_J_blocksToUndo_70 dk n) (nI (pcn S 16)) S (nI w) = _
      unfold p_J_blocksToUndo_70
      have hw : dk (16 * 16 + w) = 0 := by
        have := hh w (by omega)
        unfold hdf at this
        rw [if_neg (by omega), if_neg (by omega), if_neg (by omega), if_neg (by omega)] at this
        exact this
      rw [if_neg (by rw [nI_lit_le 16 (by omega) (by omega)]; omega), show p_D_word dk 16 (nI w) = some (dk (16 * 16 + w)) from D_word_in dk (b := 16) (by omega) (by omega), Option.bind_some, if_pos hw, nI_a1]
      exact ih n (w + 1) (by omega) (by omega) (by omega)
  unfold p_J_blocksToUndo
  rw [show p_D_word dk 16 1 = some (dk 257) from D_word_in dk (b := 16) (w := 1) (by omega) (by omega), Option.bind_some, show p_D_word dk 16 2 = some (dk 258) from D_word_in dk (b := 16) (w := 2) (by omega) (by omega), Option.bind_some, show p_D_word dk 16 0 = some (dk 256) from D_word_in dk (b := 16) (w := 0) (by omega) (by omega), Option.bind_some, if_pos h0, h1, h2, if_neg (by rw [nI_lt_lit 1 (by omega) (by omega)]; omega), if_pos (by rw [nI_le_lit 16 (by omega) (by omega)]; exact hp), if_pos (ushr16_0 hS), I_bitCount hS, Option.bind_some, if_pos rfl]
  exact key 12 1000 4 (by omega) (by omega) (by omega)
theorem R_isHead_off (dk : Nat → Int32) (x1 : Int32) : ∀ c n w, w + c = 16 → c < n → pl_R_isHead_81 dk n x1 0 (nI w) = some 0 := by
  intro c
  induction c with
  | zero =>
    intro n w e1 e3
    obtain ⟨n, rfl⟩ : ∃ q, n = q + 1 := ⟨n - 1, by omega⟩
    have e : w = 16 := by omega
    subst e
    show p_R_isHead_81 dk (pl_R_isHead_81 dk n) x1 0 (nI 16) = _
    unfold p_R_isHead_81 p_R_isHead_140 p_R_isHead_141
    rw [if_pos (by decide), if_pos rfl, if_pos (by decide)]
  | succ c ih =>
    intro n w e1 e3
    obtain ⟨n, rfl⟩ : ∃ q, n = q + 1 := ⟨n - 1, by omega⟩
    show p_R_isHead_81 dk (pl_R_isHead_81 dk n) x1 0 (nI w) = _
    unfold p_R_isHead_81 p_R_isHead_108 p_R_isHead_109
    rw [if_neg (by rw [nI_lit_le 16 (by omega) (by omega)]; omega), if_pos rfl, nI_a1]
    exact ih n (w + 1) (by omega) (by omega)
theorem c256' : (256 : Int32).toNatClampNeg = 256 := by decide
theorem c257 : (257 : Int32).toNatClampNeg = 257 := by decide
theorem c258 : (258 : Int32).toNatClampNeg = 258 := by decide
theorem c259 : (259 : Int32).toNatClampNeg = 259 := by decide
theorem R_isHead_none {dk : Nat → Int32} (h : HZ dk) : p_R_isHead dk = some 0 := by
  unfold p_R_isHead p_R_isHead_77 p_R_isHead_78 kl
  rw [if_pos (by decide)]
  dsimp only
  rw [if_pos (by decide), c256', h 0 (by omega), if_neg (by decide)]
  exact R_isHead_off dk _ 12 1000 4 (by omega) (by omega)
theorem R_isHead_S {dk D0 : Nat → Int32} {S : Int32} (h : JH dk D0 S) : p_R_isHead dk = some 1 := by
  obtain ⟨hS, hn, -, hh, -, -⟩ := h
  have hp := pcn_le S 16
  have h0 : dk 256 = 6517 := hh 0 (by omega)
  have h1 : dk 257 = nI (pcn S 16) := hh 1 (by omega)
  have h2 : dk 258 = S := hh 2 (by omega)
  have h3 : dk 259 = chk dk (pcn S 16) := hh 3 (by omega)
  have key : ∀ c n w, w + c = 16 → 4 ≤ w → c < n → pl_R_isHead_81 dk n (nI (pcn S 16)) 1 (nI w) = some 1 := by
    intro c
    induction c with
    | zero =>
      intro n w e1 e2 e3
      obtain ⟨n, rfl⟩ : ∃ q, n = q + 1 := ⟨n - 1, by omega⟩
      have e : w = 16 := by omega
      subst e
      show p_R_isHead_81 dk (pl_R_isHead_81 dk n) (nI (pcn S 16)) 1 (nI 16) = _
      unfold p_R_isHead_81 p_R_isHead_140 p_R_isHead_141
      rw [if_pos (by decide), if_neg (by decide), if_pos (by decide), R_check dk hp, Option.bind_some, c259, if_pos h3, if_pos (by decide)]
    | succ c ih =>
      intro n w e1 e2 e3
      obtain ⟨n, rfl⟩ : ∃ q, n = q + 1 := ⟨n - 1, by omega⟩
      show p_R_isHead_81 dk (pl_R_isHead_81 dk n) (nI (pcn S 16)) 1 (nI w) = _
      unfold p_R_isHead_81 p_R_isHead_108 p_R_isHead_109
      have hw : dk (256 + w) = 0 := by
        have := hh w (by omega)
        unfold hdf at this
        rw [if_neg (by omega), if_neg (by omega), if_neg (by omega), if_neg (by omega)] at this
        exact this
      rw [if_neg (by rw [nI_lit_le 16 (by omega) (by omega)]; omega), if_neg (by decide), show (256 : Int32) + nI w = nI (256 + w) from nI_add 256 w, if_pos (kx_nI (by omega) (by omega)), nI_clamp (by omega), if_pos hw, nI_a1]
      exact ih n (w + 1) (by omega) (by omega) (by omega)
  obtain ⟨k, hk, hkS⟩ := sm_nI hS
  unfold p_R_isHead p_R_isHead_78 kl
  rw [if_pos (by decide)]
  dsimp only
  rw [if_pos (by decide), c256', if_pos h0, c257, h1, if_neg (by rw [nI_lt_lit 1 (by omega) (by omega)]; omega), if_neg (by rw [nI_lit_lt 16 (by omega) (by omega)]; omega), if_pos (by decide), c258, h2, if_neg (by rw [hkS]; exact nI_pos (by omega)), if_pos (by decide), if_neg (by rw [hkS, nI_lit_le 65536 (by omega) (by omega)]; omega), if_pos (by decide), R_bits_sm hS, Option.bind_some, if_pos rfl]
  exact key 12 1000 4 (by omega) (by omega) (by omega)
/-- the memory becomes the disk -/
def ldm (dk mm : Nat → Int32) : Nat → Int32 := fun j => if j < 256 then dk j else mm j
theorem M_load (mm dk : Nat → Int32) : p_M_load mm dk = some (ldm dk mm) := by
  unfold p_M_load
  rw [if_pos (by decide), c0, c256]
  congr 1
  funext j
  unfold va_cpy ldm
  by_cases h : j < 256
  · rw [if_pos (by omega), if_pos h]
    congr 1
    omega
  · rw [if_neg (by omega), if_neg h]
theorem R_copyBack (op : Int32) (dk mm : Nat → Int32) : p_R_copyBack op dk mm = some (0, ldm dk mm) := by
  have h := lp_for (fun n x m => pl_R_copyBack_2 dk n x op m) (fun i m => upd m (0 + i) (dk i)) (fun m => some (0, m)) 256
    (fun n i m hi => by
      show p_R_copyBack_2 dk (pl_R_copyBack_2 dk n) (nI i) op m = _
      unfold p_R_copyBack_2
      rw [if_neg (by rw [nI_lit_le 256 (by omega) (by omega)]; omega), if_pos (kx_nI (by omega) (by omega)), if_pos (kx_nI (by omega) (by omega)), nI_clamp (by omega), nI_a1, Nat.zero_add])
    (fun n m => by
      show p_R_copyBack_2 dk (pl_R_copyBack_2 dk n) (nI 256) op m = _
      unfold p_R_copyBack_2
      rw [if_pos (by decide)]) 256 1000 0 mm (by omega) (by omega)
  have e : itr (fun i m => upd m (0 + i) (dk i)) 0 256 mm = ldm dk mm := by
    rw [itr_fill 0 dk]
    funext j
    unfold ldm
    by_cases q : j < 256
    · rw [if_pos q, if_pos (by omega)]
      rfl
    · rw [if_neg q, if_neg (by omega)]
  rw [e] at h
  exact h
def us0 (us : Nat → Int32) : Nat → Int32 := fun j => if j < 4 then 0 else us j
theorem itr_us0 (us : Nat → Int32) : itr (fun i s => upd s (0 + i) 0) 0 4 us = us0 us := by
  rw [itr_fill 0 (fun _ => 0)]
  funext j
  unfold us0
  by_cases q : j < 4
  · rw [if_pos q, if_pos (by omega)]
  · rw [if_neg q, if_neg (by omega)]
theorem R_recover_102 (of op cr wn : Int32) (dk mm wk us : Nat → Int32) : p_R_recover_102 of op cr wn dk mm wk us = some (0, of, 0, cr, wn, dk, ldm dk mm, wk, us0 us) := by
  unfold p_R_recover_102
  rw [R_copyBack, Option.bind_some]
  have h := lp_for (fun n x s => pl_R_recover_108 n x of 0 cr wn dk (ldm dk mm) wk s) (fun i s => upd s (0 + i) 0) (fun s => some (0, of, 0, cr, wn, dk, ldm dk mm, wk, s)) 4
    (fun n i s hi => by
      show p_R_recover_108 (pl_R_recover_108 n) (nI i) of 0 cr wn dk (ldm dk mm) wk s = _
      unfold p_R_recover_108
      rw [if_neg (by rw [nI_lit_le 4 (by omega) (by omega)]; omega), if_pos (kx_nI (by omega) (by omega)), nI_clamp (by omega), nI_a1, Nat.zero_add, vz_0])
    (fun n s => by
      show p_R_recover_108 (pl_R_recover_108 n) (nI 4) of 0 cr wn dk (ldm dk mm) wk s = _
      unfold p_R_recover_108
      rw [if_pos (by decide)]) 4 1000 0 us (by omega) (by omega)
  rw [itr_us0] at h
  exact h
def rres (r : Bool × UU) (op : Int32) (mm wk us : Nat → Int32) : Option (Int32 × Int32 × Int32 × Int32 × Int32 × (Nat → Int32) × (Nat → Int32) × (Nat → Int32) × (Nat → Int32)) := if r.1 = true then p_R_recover_102 0 op r.2.1 r.2.2.1 r.2.2.2 mm wk us else some (-1, 1, op, r.2.1, r.2.2.1, r.2.2.2, mm, wk, us)
section RR
variable (S op : Int32) (mm us : Nat → Int32)
theorem R_r_off : ∀ c n b (of : Int32) (u : UU) wk, b + c = 16 → c < n → pl_R_recover_28 n S (nI (pcn S b)) 0 (nI b) of op u.1 u.2.1 u.2.2 mm wk us = some (-1, of, op, u.1, u.2.1, u.2.2, mm, wk, us) := by
  intro c
  induction c with
  | zero =>
    intro n b of u wk h1 h2
    obtain ⟨n, rfl⟩ : ∃ q, n = q + 1 := ⟨n - 1, by omega⟩
    have e : b = 16 := by omega
    subst e
    show p_R_recover_28 (pl_R_recover_28 n) S (nI (pcn S 16)) 0 (nI 16) of op u.1 u.2.1 u.2.2 mm wk us = _
    unfold p_R_recover_28 p_R_recover_94 p_R_recover_95
    rw [if_pos (by decide), if_pos rfl, if_pos rfl]
  | succ c ih =>
    intro n b of u wk h1 h2
    obtain ⟨n, rfl⟩ : ∃ q, n = q + 1 := ⟨n - 1, by omega⟩
    show p_R_recover_28 (pl_R_recover_28 n) S (nI (pcn S b)) 0 (nI b) of op u.1 u.2.1 u.2.2 mm wk us = _
    unfold p_R_recover_28 p_R_recover_66 p_R_recover_67 p_R_recover_71
    rw [if_neg (by rw [nI_lit_le 16 (by omega) (by omega)]; omega), if_pos rfl, nI_a1 b]
    cases hS : bt S b with
    | true =>
      rw [if_pos ((bit1 S (by omega)).mpr hS), pcn_S S b hS]
      exact ih n (b + 1) of u wk (by omega) (by omega)
    | false =>
      rw [if_neg (fun q => by rw [(bit1 S (by omega)).mp q] at hS; cases hS), ← pcn_F S b hS]
      exact ih n (b + 1) of u wk (by omega) (by omega)
theorem R_r_on : ∀ c n b (u : UU) wk, b + c = 16 → c < n → ∃ wk', pl_R_recover_28 n S (nI (pcn S b)) 1 (nI b) 0 op u.1 u.2.1 u.2.2 mm wk us = rres (thn (rsts S c b u) cput) op mm wk' us := by
  intro c
  induction c with
  | zero =>
    intro n b u wk h1 h2
    obtain ⟨n, rfl⟩ : ∃ q, n = q + 1 := ⟨n - 1, by omega⟩
    have e : b = 16 := by omega
    subst e
    obtain ⟨wk1, e1⟩ := R_putHead_z 0 u wk
    refine ⟨wk1, ?_⟩
    show p_R_recover_28 (pl_R_recover_28 n) S (nI (pcn S 16)) 1 (nI 16) 0 op u.1 u.2.1 u.2.2 mm wk us = rres (cput u) op mm wk1 us
    unfold p_R_recover_28 p_R_recover_94 p_R_recover_95
    rw [if_pos (by decide), if_neg (by decide), e1, Option.bind_some]
    generalize cput u = r
    obtain ⟨ok, u'⟩ := r
    cases ok with
    | true =>
      show (if (1 : Int32) = 0 then _ else _) = _
      rw [if_neg (by decide), if_neg (by decide)]
      rfl
    | false =>
      show (if (0 : Int32) = 0 then _ else _) = _
      rw [if_pos rfl, if_pos rfl]
      rfl
  | succ c ih =>
    intro n b u wk h1 h2
    obtain ⟨n, rfl⟩ : ∃ q, n = q + 1 := ⟨n - 1, by omega⟩
    have hp := pcn_le S b
    have hst : pl_R_recover_28 (n + 1) S (nI (pcn S b)) 1 (nI b) 0 op u.1 u.2.1 u.2.2 mm wk us = p_R_recover_28 (pl_R_recover_28 n) S (nI (pcn S b)) 1 (nI b) 0 op u.1 u.2.1 u.2.2 mm wk us := rfl
    rw [hst]
    unfold p_R_recover_28 p_R_recover_66 p_R_recover_67 p_R_recover_71
    rw [if_neg (by rw [nI_lit_le 16 (by omega) (by omega)]; omega), if_neg (show ¬ (1 : Int32) = 0 by decide), nI_a1 b]
    cases hS : bt S b with
    | false =>
      rw [if_neg (fun q => by rw [(bit1 S (by omega)).mp q] at hS; cases hS), ← pcn_F S b hS, show rsts S (c + 1) b u = rsts S c (b + 1) u from runs_f hS]
      exact ih n (b + 1) u wk (by omega) (by omega)
    | true =>
      obtain ⟨wk1, e1⟩ := R_putFromDisk_spec 0 u.1 u.2.1 u.2.2 wk (b := b) (fb := 17 + pcn S b) (by omega) (by omega)
      rw [if_pos ((bit1 S (by omega)).mpr hS), show (17 : Int32) + nI (pcn S b) = nI (17 + pcn S b) from (nI_add 17 (pcn S b)), e1, Option.bind_some, show rsts S (c + 1) b u = thn (putU u b (srcI S b u.2.2)) (rsts S c (b + 1)) from runs_t hS, thn_thn, pcn_S S b hS]
      show ∃ wk', (if b2i (putU u b (srcI S b u.2.2)).1 = 0 then _ else _) = _
      cases hq : putU u b (srcI S b u.2.2) with
      | mk ok u' =>
        have hq' : put u.1 u.2.1 u.2.2 b (fun j => u.2.2 (16 * (17 + pcn S b) + j)) = (ok, u') := hq
        rw [hq']
        cases ok with
        | true =>
          show ∃ wk', (if (1 : Int32) = 0 then _ else _) = _
          rw [if_neg (by decide), thn_t]
          exact ih n (b + 1) u' wk1 (by omega) (by omega)
        | false =>
          show ∃ wk', (if (0 : Int32) = 0 then _ else _) = _
          rw [if_pos rfl, thn_f]
          exact ⟨wk1, R_r_off S op mm us c n (b + 1) 1 u' wk1 (by omega) (by omega)⟩
end RR
