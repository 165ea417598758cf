/-! COMMITTING: which blocks, and the class's own commit and recovery -/
def dif (dk mm : Nat → Int32) (b : Nat) : Prop := ∃ j, j < 16 ∧ mm (16 * b + j) ≠ dk (16 * b + j)
theorem M_differs (mm dk : Nat → Int32) {b : Nat} (hb : b < 16) : (dif dk mm b ∧ p_M_differs mm dk (nI b) = some 1) ∨ (¬ dif dk mm b ∧ p_M_differs mm dk (nI b) = some 0) := by
  have H := lp_inv (κ := Unit) (fun _ n x (_ : Unit) => pl_M_differs_8 mm dk n (nI (16 * b)) x) (fun i _ => 16 * b ≤ i ∧ ∀ j, 16 * b + j < i → mm (16 * b + j) = dk (16 * b + j)) (fun r => r = 1 ∧ dif dk mm b) (fun _ _ => some 0) (16 * b + 16)
    (fun i _ hi hI => by
      have hst : ∀ n, pl_M_differs_8 mm dk (n + 1) (nI (16 * b)) (nI i) = (if mm i = dk i then pl_M_differs_8 mm dk n (nI (16 * b)) (nI (i + 1)) else some 1) := fun n => by
        show p_M_differs_8 mm dk (pl_M_differs_8 mm dk n) (nI (16 * b)) (nI i) = _
        unfold p_M_differs_8
        rw [show (16 : Int32) = nI 16 from rfl, nI_add, if_neg (nI_ge hi (by omega)), if_pos (kx_nI (by omega) (by omega)), if_pos (kx_nI (by omega) (by omega)), nI_clamp (by omega), nI_a1]
      by_cases h : mm i = dk i
      · refine Or.inl ⟨(), ⟨by omega, fun j hj => ?_⟩, fun _ n => by rw [hst, if_pos h]⟩
        by_cases e : 16 * b + j = i
        · rw [e]; exact h
        · exact hI.2 j (by omega)
      · refine Or.inr ⟨1, ⟨rfl, i - 16 * b, by omega, ?_⟩, fun _ n => by rw [hst, if_neg h]⟩
        rw [show 16 * b + (i - 16 * b) = i by omega]
        exact h)
    (fun _ hI _ n => by
      show p_M_differs_8 mm dk (pl_M_differs_8 mm dk n) (nI (16 * b)) (nI (16 * b + 16)) = _
      unfold p_M_differs_8
      rw [show (16 : Int32) = nI 16 from rfl, nI_add, if_pos (Int32.le_refl _)])
    1000 (16 * b) () (by omega) (by omega) ⟨Nat.le_refl _, fun j hj => by omega⟩
  have e : p_M_differs mm dk (nI b) = pl_M_differs_8 mm dk 1000 (nI (16 * b)) (nI (16 * b)) := by
    unfold p_M_differs
    rw [nI_m16]
    rfl
  rw [e]
  rcases H with ⟨-, h1, h2⟩ | ⟨r, h1, h2⟩
  · refine Or.inr ⟨fun ⟨j, hj, hne⟩ => hne (h1.2 j (by omega)), h2 ()⟩
  · rw [h1.1] at h2
    exact Or.inl ⟨h1.2, h2 ()⟩
/-- the set of the blocks that differ -/
def setD (dk mm : Nat → Int32) (S : Int32) : Prop := sm S ∧ ∀ b, b < 16 → (bt S b = true ↔ dif dk mm b)
theorem setD_uniq {dk mm : Nat → Int32} {S T : Int32} (h1 : setD dk mm S) (h2 : setD dk mm T) : S = T := b_ext (fun i _ => by
  by_cases q : i < 16
  · cases e1 : bt S i with
    | true => exact ((h2.2 i q).mpr ((h1.2 i q).mp e1)).symm
    | false =>
      cases e2 : bt T i with
      | true => rw [(h1.2 i q).mpr ((h2.2 i q).mp e2)] at e1; cases e1
      | false => rfl
  · rw [h1.1 i (by omega), h2.1 i (by omega)])
theorem or_bit {S : Int32} {b i : Nat} (hb : b < 16) : bt (S ||| ((1 : Int32) <<< (nI b &&& 31))) i = (bt S i || decide (i = b)) := by
  by_cases q : i < 32
  · rw [b_or, bt_shl1 (by omega) q]
  · rw [b_big (by omega), b_big (by omega), decide_eq_false (by omega)]
    rfl
theorem J_changed (dk mm : Nat → Int32) : ∃ S, p_J_changedBlocks dk mm = some S ∧ setD dk mm S := by
  have H := lp_inv (κ := Unit) (fun _ n x S => pl_J_changedBlocks_4 dk mm n S x) (fun i S => sm S ∧ ∀ b, (bt S b = true ↔ (b < i ∧ dif dk mm b))) (fun _ => False) (fun _ S => some S) 16
    (fun i S hi hI => by
      rcases M_differs mm dk hi with ⟨hd, he⟩ | ⟨hd, he⟩
      · refine Or.inl ⟨S ||| ((1 : Int32) <<< (nI i &&& 31)), ⟨fun j hj => ?_, fun b => ?_⟩, fun _ n => ?_⟩
        · rw [or_bit hi, hI.1 j hj, decide_eq_false (by omega)]; rfl
        · rw [or_bit hi, Bool.or_eq_true, decide_eq_true_eq, hI.2 b]
          constructor
          · intro z
            rcases z with z | rfl
            · exact ⟨by omega, z.2⟩
            · exact ⟨by omega, hd⟩
          · intro z
            by_cases e : b = i
            · exact Or.inr e
            · exact Or.inl ⟨by omega, z.2⟩
        · show p_J_changedBlocks_4 dk mm (pl_J_changedBlocks_4 dk mm n) S (nI i) = _
          unfold p_J_changedBlocks_4 p_J_changedBlocks_31
          rw [if_neg (by rw [nI_lit_le 16 (by omega) (by omega)]; omega), he, Option.bind_some, if_neg (by decide), nI_a1]
          rfl
      · refine Or.inl ⟨S, ⟨hI.1, fun b => ?_⟩, fun _ n => ?_⟩
        · rw [hI.2 b]
          constructor
          · intro z; exact ⟨by omega, z.2⟩
          · intro z
            by_cases e : b = i
            · subst e; exact absurd z.2 hd
            · exact ⟨by omega, z.2⟩
        · show p_J_changedBlocks_4 dk mm (pl_J_changedBlocks_4 dk mm n) S (nI i) = _
          unfold p_J_changedBlocks_4 p_J_changedBlocks_31
          rw [if_neg (by rw [nI_lit_le 16 (by omega) (by omega)]; omega), he, Option.bind_some, if_pos rfl, nI_a1])
    (fun S hI _ n => by
      show p_J_changedBlocks_4 dk mm (pl_J_changedBlocks_4 dk mm n) S (nI 16) = _
      unfold p_J_changedBlocks_4
      rw [if_pos (by decide)])
    1000 0 0 (by omega) (by omega) ⟨fun j _ => b_0 j, fun b => ⟨fun z => (by rw [b_0] at z; cases z), fun z => absurd z.1 (by omega)⟩⟩
  rcases H with ⟨S, h1, h2⟩ | ⟨r, h1, -⟩
  · exact ⟨S, h2 (), h1.1, fun b hb => by rw [h1.2 b]; exact ⟨fun z => z.2, fun z => ⟨hb, z⟩⟩⟩
  · exact h1.elim
theorem R_changed (dk mm : Nat → Int32) : ∃ S, p_R_changed dk mm = some S ∧ setD dk mm S := by
  have H := lp_inv (κ := Unit) (fun _ n x S => pl_R_changed_4 dk mm n S x) (fun i S => sm S ∧ ∀ b, (bt S b = true ↔ ∃ j, j < 16 ∧ 16 * b + j < i ∧ mm (16 * b + j) ≠ dk (16 * b + j))) (fun _ => False) (fun _ S => some S) 256
    (fun i S hi hI => by
      have e16 : nI i / 16 = nI (i / 16) := by
        rw [show (16 : Int32) = nI 16 from rfl, pk_div (by omega) (by omega) (by omega)]
      have hst : ∀ n, pl_R_changed_4 dk mm (n + 1) S (nI i) = (if dk i = mm i then pl_R_changed_4 dk mm n S (nI (i + 1)) else pl_R_changed_4 dk mm n (S ||| ((1 : Int32) <<< (nI (i / 16) &&& 31))) (nI (i + 1))) := fun n => by
        show p_R_changed_4 dk mm (pl_R_changed_4 dk mm n) S (nI i) = _
        unfold p_R_changed_4 p_R_changed_38
        rw [if_neg (by rw [nI_lit_le 256 (by omega) (by omega)]; omega), if_pos (kx_nI (by omega) (by omega)), if_pos (kx_nI (by omega) (by omega)), nI_clamp (by omega), nI_a1, e16]
      by_cases h : dk i = mm i
      · refine Or.inl ⟨S, ⟨hI.1, fun b => ?_⟩, fun _ n => by rw [hst, if_pos h]⟩
        rw [hI.2 b]
        constructor
        · intro ⟨j, a, c, d⟩; exact ⟨j, a, by omega, d⟩
        · intro ⟨j, a, c, d⟩
          refine ⟨j, a, ?_, d⟩
          by_cases e : 16 * b + j = i
          · rw [e] at d; exact absurd h.symm d
          · omega
      · refine Or.inl ⟨S ||| ((1 : Int32) <<< (nI (i / 16) &&& 31)), ⟨fun j hj => ?_, fun b => ?_⟩, fun _ n => by rw [hst, if_neg h]⟩
        · rw [or_bit (by omega), hI.1 j hj, decide_eq_false (by omega)]; rfl
        · rw [or_bit (by omega), Bool.or_eq_true, decide_eq_true_eq, hI.2 b]
          constructor
          · intro z
            rcases z with ⟨j, a, c, d⟩ | e
            · exact ⟨j, a, by omega, d⟩
            · refine ⟨i - 16 * b, by omega, by omega, ?_⟩
              rw [show 16 * b + (i - 16 * b) = i by omega]
              exact fun z => h z.symm
          · intro ⟨j, a, c, d⟩
            by_cases e : 16 * b + j = i
            · exact Or.inr (by omega)
            · exact Or.inl ⟨j, a, by omega, d⟩)
    (fun S hI _ n => by
      show p_R_changed_4 dk mm (pl_R_changed_4 dk mm n) S (nI 256) = _
      unfold p_R_changed_4
      rw [if_pos (by decide)])
    1000 0 0 (by omega) (by omega) ⟨fun j _ => b_0 j, fun b => ⟨fun z => (by rw [b_0] at z; cases z), fun ⟨j, a, c, d⟩ => absurd c (by omega)⟩⟩
  rcases H with ⟨S, h1, h2⟩ | ⟨r, h1, -⟩
  · exact ⟨S, h2 (), h1.1, fun b hb => by rw [h1.2 b]; exact ⟨fun ⟨j, a, c, d⟩ => ⟨j, a, d⟩, fun ⟨j, a, d⟩ => ⟨j, a, by omega, d⟩⟩⟩
  · exact h1.elim
/-- one after the other, as long as the power lasts -/
def thn (r : Bool × UU) (f : UU → Bool × UU) : Bool × UU := if r.1 = true then f r.2 else r
theorem thn_t (u : UU) (f : UU → Bool × UU) : thn (true, u) f = f u := rfl
theorem thn_f (u : UU) (f : UU → Bool × UU) : thn (false, u) f = (false, u) := rfl
def hput (S : Int32) (u : UU) : Bool × UU := putU u 16 (hdf (pcn S 16) S (chk u.2.2 (pcn S 16)))
def cput (u : UU) : Bool × UU := putU u 16 zf
def cmt (S : Int32) (mm : Nat → Int32) (u : UU) : Bool × UU := thn (imgs S 16 0 u) (fun u => thn (hput S u) (fun u => thn (savs S mm 16 0 u) cput))
def rcv (S : Int32) (u : UU) : Bool × UU := thn (rsts S 16 0 u) cput
theorem J_carryOut (hd : Nat → Int32) (hh : hdOk hd) (pw : Int32) (u : UU) (mm : Nat → Int32) {S : Int32} (hS : setD u.2.2 mm S) (h0 : S ≠ 0) : ∃ hd', hdOk hd' ∧ p_J_carryOut hd pw u.1 u.2.1 u.2.2 mm = some (b2i (cmt S mm u).1, hd', (if (cmt S mm u).1 then pw else 0), (cmt S mm u).2) := by
  obtain ⟨S', hS1, hS2⟩ := J_changed u.2.2 mm
  have e := setD_uniq hS2 hS
  subst e
  have k1 := J_keepImages hS.1 pw u
  cases hr1 : imgs S' 16 0 u with
  | mk ok1 u1 =>
  rw [hr1] at k1
  cases ok1 with
  | false =>
    have eR : cmt S' mm u = (false, u1) := by unfold cmt; rw [hr1]; rfl
    refine ⟨hd, hh, ?_⟩
    rw [eR]
    unfold p_J_carryOut
    rw [hS1, Option.bind_some, if_neg h0, k1, Option.bind_some]
    show (if (0 : Int32) = 0 then _ else _) = _
    rw [if_pos rfl]
    rfl
  | true =>
    obtain ⟨hd1, hh1, e1⟩ := J_writeHead hd hh hS.1 pw u1
    have e1' : p_J_writeHead hd pw u1.1 u1.2.1 u1.2.2 S' = some (b2i (hput S' u1).1, hd1, (if (hput S' u1).1 then pw else 0), (hput S' u1).2) := e1
    cases hr2 : hput S' u1 with
    | mk ok2 u2 =>
    rw [hr2] at e1'
    cases ok2 with
    | false =>
      have eR : cmt S' mm u = (false, u2) := by
        unfold cmt
        rw [hr1, thn_t, hr2, thn_f]
      refine ⟨hd1, hh1, ?_⟩
      rw [eR]
      unfold p_J_carryOut
      rw [hS1, Option.bind_some, if_neg h0, k1, Option.bind_some]
      show (if (1 : Int32) = 0 then _ else _) = _
      rw [if_neg (by decide)]
      show (p_J_writeHead hd pw u1.1 u1.2.1 u1.2.2 S').bind _ = _
      rw [e1', Option.bind_some]
      show (if (0 : Int32) = 0 then _ else _) = _
      rw [if_pos rfl]
      rfl
    | true =>
      have k3 := J_saveBlocks S' mm pw u2
      cases hr3 : savs S' mm 16 0 u2 with
      | mk ok3 u3 =>
      rw [hr3] at k3
      cases ok3 with
      | false =>
        have eR : cmt S' mm u = (false, u3) := by
          unfold cmt
          rw [hr1, thn_t, hr2, thn_t, hr3, thn_f]
        refine ⟨hd1, hh1, ?_⟩
        rw [eR]
        unfold p_J_carryOut
        rw [hS1, Option.bind_some, if_neg h0, k1, Option.bind_some]
        show (if (1 : Int32) = 0 then _ else _) = _
        rw [if_neg (by decide)]
        show (p_J_writeHead hd pw u1.1 u1.2.1 u1.2.2 S').bind _ = _
        rw [e1', Option.bind_some]
        show (if (1 : Int32) = 0 then _ else _) = _
        rw [if_neg (by decide)]
        show (p_J_saveBlocks pw u2.1 u2.2.1 u2.2.2 mm S').bind _ = _
        rw [k3, Option.bind_some]
        show (if (0 : Int32) = 0 then _ else _) = _
        rw [if_pos rfl]
        rfl
      | true =>
        obtain ⟨hd2, hh2, e2⟩ := J_clearHead hd1 hh1 pw u3
        have e2' : p_J_clearHead hd1 pw u3.1 u3.2.1 u3.2.2 = some (b2i (cput u3).1, hd2, (if (cput u3).1 then pw else 0), (cput u3).2) := e2
        have eR : cmt S' mm u = cput u3 := by
          unfold cmt
          rw [hr1, thn_t, hr2, thn_t, hr3, thn_t]
        refine ⟨hd2, hh2, ?_⟩
        rw [eR]
        unfold p_J_carryOut
        rw [hS1, Option.bind_some, if_neg h0, k1, Option.bind_some]
        show (if (1 : Int32) = 0 then _ else _) = _
        rw [if_neg (by decide)]
        show (p_J_writeHead hd pw u1.1 u1.2.1 u1.2.2 S').bind _ = _
        rw [e1', Option.bind_some]
        show (if (1 : Int32) = 0 then _ else _) = _
        rw [if_neg (by decide)]
        show (p_J_saveBlocks pw u2.1 u2.2.1 u2.2.2 mm S').bind _ = _
        rw [k3, Option.bind_some]
        show (if (1 : Int32) = 0 then _ else _) = _
        rw [if_neg (by decide)]
        show (p_J_clearHead hd1 pw u3.1 u3.2.1 u3.2.2).bind _ = _
        rw [e2', Option.bind_some]
        generalize cput u3 = r4
        obtain ⟨ok4, u4⟩ := r4
        cases ok4 with
        | false =>
          show (if (0 : Int32) = 0 then _ else _) = _
          rw [if_pos rfl]
          rfl
        | true =>
          show (if (1 : Int32) = 0 then _ else _) = _
          rw [if_neg (by decide)]
          rfl
theorem J_undo_run (hd : Nat → Int32) (hh : hdOk hd) (pw : Int32) (u : UU) {S : Int32} (hS : sm S) (h0 : S ≠ 0) (hb : p_J_blocksToUndo u.2.2 = some S) : ∃ hd', hdOk hd' ∧ p_J_undo hd pw u.1 u.2.1 u.2.2 = some (b2i (rcv S u).1, hd', (if (rcv S u).1 then pw else 0), (rcv S u).2) := by
  unfold p_J_undo rcv
  rw [hb, Option.bind_some, if_neg h0, J_restoreBlocks hS pw u, Option.bind_some]
  generalize rsts S 16 0 u = r1
  obtain ⟨ok1, u1⟩ := r1
  cases ok1 with
  | false =>
    refine ⟨hd, hh, ?_⟩
    show (if (0 : Int32) = 0 then _ else _) = _
    rw [if_pos rfl]
    rfl
  | true =>
    obtain ⟨hd2, hh2, e2⟩ := J_clearHead hd hh pw u1
    have e2' : p_J_clearHead hd pw u1.1 u1.2.1 u1.2.2 = some (b2i (cput u1).1, hd2, (if (cput u1).1 then pw else 0), (cput u1).2) := e2
    refine ⟨hd2, hh2, ?_⟩
    show (if (1 : Int32) = 0 then _ else _) = _
    rw [if_neg (by decide)]
    show (p_J_clearHead hd pw u1.1 u1.2.1 u1.2.2).bind _ = some (b2i (cput u1).1, hd2, (if (cput u1).1 then pw else 0), (cput u1).2)
    rw [e2', Option.bind_some]
    generalize cput u1 = r4
    obtain ⟨ok4, u4⟩ := r4
    cases ok4 with
    | false =>
      show (if (0 : Int32) = 0 then _ else _) = _
      rw [if_pos rfl]
      rfl
    | true =>
      show (if (1 : Int32) = 0 then _ else _) = _
      rw [if_neg (by decide)]
      rfl
theorem J_undo_none (hd : Nat → Int32) (pw : Int32) (u : UU) (hb : p_J_blocksToUndo u.2.2 = some 0) : p_J_undo hd pw u.1 u.2.1 u.2.2 = some (1, hd, pw, u) := by
  unfold p_J_undo
  rw [hb, Option.bind_some, if_pos rfl]
