/-! SIMULATION (2): tables and rows -/
theorem seekBoth {mm : Nat → Int32} {t w : Nat} {L : List Nat} (ht : t < 5) (hb : tbP mm t w L) (key fp fs : Int32) : ((∀ p s, row mm t w p s → mm (ra w p s) ≠ key) ∧ p_M_rowOf mm (nI t) key = some (-1) ∧ p_R_seek fp fs mm (nI t) key = some (-1, fp, fs)) ∨ (∃ p s, row mm t w p s ∧ mm (ra w p s) = key ∧ p_M_rowOf mm (nI t) key = some (nI (ra w p s)) ∧ p_R_seek fp fs mm (nI t) key = some (nI (ra w p s), nI p, nI s)) := by
  have h1 := M_rowOf mm ht hb.2.2.1 hb.1 hb.2.1 key
  have h2 := R_seek mm ht hb.2.2.1 hb.1 hb.2.1 key fp fs
  rcases h1 with ⟨a1, a2⟩ | ⟨p, s, r1, k1, e1⟩
  · rcases h2 with ⟨b1, b2⟩ | ⟨r, ⟨p, s, r1, k1, e1⟩, b2⟩
    · exact Or.inl ⟨a1, a2, b2⟩
    · exact absurd k1 (a1 p s r1)
  · rcases h2 with ⟨b1, b2⟩ | ⟨r, ⟨p', s', r2, k2, e2⟩, b2⟩
    · exact absurd k1 (b1 p s r1)
    · obtain ⟨rfl, rfl⟩ := hb.2.2.2.2.1 p s p' s' r1 r2 (k1.trans k2.symm)
      exact Or.inr ⟨p, s, r1, k1, e1, by rw [b2, e2]⟩
/-- the first free table, or 5 -/
def ftr (mm : Nat → Int32) : Nat → Nat → Nat
  | 0, t => t
  | c + 1, t => if mm t = 0 then t else ftr mm c (t + 1)
theorem ftr_spec (mm : Nat → Int32) : ∀ c t, t ≤ ftr mm c t ∧ ftr mm c t ≤ t + c ∧ (ftr mm c t < t + c → mm (ftr mm c t) = 0) := by
  intro c
  induction c with
  | zero => intro t; exact ⟨Nat.le_refl _, Nat.le_refl _, fun h => absurd h (by show ¬ t < t + 0; omega)⟩
  | succ c ih =>
    intro t
    unfold ftr
    by_cases h : mm t = 0
    · rw [if_pos h]
      exact ⟨Nat.le_refl _, by omega, fun _ => h⟩
    · rw [if_neg h]
      obtain ⟨a, b, d⟩ := ih (t + 1)
      exact ⟨by omega, by omega, fun z => d (by omega)⟩
theorem M_freeTable (mm : Nat → Int32) : p_M_freeTable mm = some (if ftr mm 5 0 = 5 then -1 else nI (ftr mm 5 0)) := by
  have key : ∀ c n t, t + c = 5 → c < n → pl_M_freeTable_2 mm n (nI t) = some (if ftr mm c t = 5 then -1 else nI (ftr mm c t)) := by
    intro c
    induction c with
    | zero =>
      intro n t h1 h2
      obtain ⟨n, rfl⟩ : ∃ q, n = q + 1 := ⟨n - 1, by omega⟩
      have e : t = 5 := by omega
      subst e
      show p_M_freeTable_2 mm (pl_M_freeTable_2 mm n) (nI 5) = _
      unfold p_M_freeTable_2
      rw [if_pos (by decide)]
      rfl
    | succ c ih =>
      intro n t h1 h2
      obtain ⟨n, rfl⟩ : ∃ q, n = q + 1 := ⟨n - 1, by omega⟩
      show p_M_freeTable_2 mm (pl_M_freeTable_2 mm n) (nI t) = _
      unfold p_M_freeTable_2 ftr
      rw [if_neg (by rw [nI_lit_le 5 (by omega) (by omega)]; omega), if_pos (kx_nI (by omega) (by omega)), nI_clamp (by omega), nI_a1, ih n (t + 1) (by omega) (by omega)]
      by_cases h : mm t = 0
      · rw [if_pos h, if_pos h, if_neg (by omega)]
      · rw [if_neg h, if_neg h]
  exact key 5 1000 0 (by omega) (by omega)
theorem R_freeTable (of op : Int32) (mm : Nat → Int32) (x1 : Int32) : pl_R_createTable_35 of op 1000 x1 0 mm = some (if ftr mm 5 0 = 5 then (-8, mm) else (nI (ftr mm 5 0), upd mm (ftr mm 5 0) x1)) := by
  have fin : ∀ t, t ≤ 5 → p_R_createTable_55 of op x1 (nI t) mm = some (if t = 5 then (-8, mm) else (nI t, upd mm t x1)) := fun t ht => by
    unfold p_R_createTable_55
    by_cases h : t = 5
    · subst h
      rw [if_pos (by decide), if_pos rfl]
    · rw [if_neg (by rw [nI_eq_lit 5 (by omega) (by omega)]; exact h), if_pos (kx_nI (by omega) (by omega)), nI_clamp (by omega), if_neg h]
  have key : ∀ c n t, t + c = 5 → c < n → pl_R_createTable_35 of op n x1 (nI t) mm = some (if ftr mm c t = 5 then (-8, mm) else (nI (ftr mm c t), upd mm (ftr mm c t) x1)) := by
    intro c
    induction c with
    | zero =>
      intro n t h1 h2
      obtain ⟨n, rfl⟩ : ∃ q, n = q + 1 := ⟨n - 1, by omega⟩
      have e : t = 5 := by omega
      subst e
      show p_R_createTable_35 of op (pl_R_createTable_35 of op n) x1 (nI 5) mm = _
      unfold p_R_createTable_35
      rw [if_pos (by decide), fin 5 (by omega)]
      rfl
    | succ c ih =>
      intro n t h1 h2
      obtain ⟨n, rfl⟩ : ∃ q, n = q + 1 := ⟨n - 1, by omega⟩
      show p_R_createTable_35 of op (pl_R_createTable_35 of op n) x1 (nI t) mm = _
      unfold p_R_createTable_35 ftr
      rw [if_neg (by rw [nI_lit_le 5 (by omega) (by omega)]; omega), if_pos (kx_nI (by omega) (by omega)), nI_clamp (by omega), nI_a1, ih n (t + 1) (by omega) (by omega), fin t (by omega)]
      by_cases h : mm t = 0
      · rw [if_pos h, if_pos h]
      · rw [if_neg h, if_neg h]
  exact key 5 1000 0 (by omega) (by omega)
theorem pk_width {x : Int32} (h1 : ¬ x < 2) (h2 : x ≤ 6) : ∃ w, 2 ≤ w ∧ w ≤ 6 ∧ x = nI w := by
  rw [i32_nlt] at h1
  rw [Int32.le_iff_toInt_le] at h1 h2
  have e1 : (2 : Int32).toInt = 2 := by decide
  have e2 : (6 : Int32).toInt = 6 := by decide
  refine ⟨x.toInt.toNat, by omega, by omega, Int32.toInt_inj.mp ?_⟩
  rw [nI_toInt (by omega)]
  omega
section SIM2
variable {tx pw wl : Int32} {dk mm hd : Nat → Int32} {sc : Nat → SCT} {of op cr : Int32} {tb cs lw hg us de sa ky : Nat → Int32}
theorem sim_create (a1 : Int32) (h : Rel tx pw wl dk mm hd sc of op cr tb cs lw hg us de sa ky) : ∃ r mm', p_X_createTable tx pw mm a1 = some (r, mm') ∧ p_R_createTable of op mm a1 = some (r, mm') ∧ Rel tx pw wl dk mm' hd sc of op cr tb cs lw hg us de sa ky := by
  have h' := h
  obtain ⟨hp, ht, ho, hc, hh, hw, hs⟩ := h
  replace ho := ho.symm
  subst ho
  unfold p_X_createTable p_R_createTable p_X_createTable_23 p_R_createTable_20
  rw [D_pow hp.pw, Option.bind_some]
  rcases id hp with ⟨rfl, rfl, hj⟩ | ⟨rfl, rfl, hj⟩
  · rw [if_neg (show ¬ (1 : Int32) = 0 by decide), if_pos (show (0 : Int32) = 0 from rfl)]
    by_cases q1 : a1 < 2
    · rw [if_pos q1, if_pos q1]
      exact ⟨_, _, rfl, rfl, h'⟩
    · rw [if_neg q1, if_neg q1]
      by_cases q2 : a1 ≤ 6
      · rw [if_pos q2, if_pos q2]
        rcases id ht with rfl | rfl
        · rw [if_pos rfl, if_pos rfl]
          exact ⟨_, _, rfl, rfl, h'⟩
        · rw [if_neg (show ¬ (1 : Int32) = 0 by decide), if_neg (show ¬ (1 : Int32) = 0 by decide), M_freeTable, Option.bind_some, R_freeTable]
          have hf := ftr_spec mm 5 0
          by_cases q3 : ftr mm 5 0 = 5
          · rw [if_pos q3, if_pos q3, if_pos rfl]
            exact ⟨_, _, rfl, rfl, h'⟩
          · obtain ⟨w, w2, w6, rfl⟩ := pk_width q1 q2
            generalize ftr mm 5 0 = t at hf q3 ⊢
            have h0 : mm t = 0 := hf.2.2 (by omega)
            rw [if_neg q3, if_neg q3, if_neg (nI_ne_m1 (by omega))]
            unfold p_M_addTable
            rw [if_pos (kx_nI (by omega) (by omega)), nI_clamp (n := t) (by omega), Option.bind_some]
            obtain ⟨c1, c2⟩ := create_WF (t := t) hw (by omega) h0 w2 w6
            refine ⟨_, _, rfl, rfl, hp, ht, rfl, hc, hh, c1, scA_same hs (fun t' w' L' ht' hb' => c2 t' ht' (fun z => ?_))⟩
            have := hb'.2.2.1
            rw [← z, h0] at this
            exact nI_ne0 (by have := hb'.1; omega) (by have := hb'.2.1; omega) this.symm
      · rw [if_neg q2, if_neg q2]
        exact ⟨_, _, rfl, rfl, h'⟩
  · rw [if_pos rfl, if_neg (by decide)]
    exact ⟨_, _, rfl, rfl, h'⟩
theorem X_refusalOfChange (hp : pw = 0 ∨ pw = 1) (a1 : Int32) : p_X_refusalOfChange tx pw mm a1 = (if pw = 0 then some (-1) else if tx = 0 then some (-2) else (p_M_hasTable mm a1).bind (fun r => if r = 0 then some (-5) else some 0)) := by
  unfold p_X_refusalOfChange p_X_refusalOfChange_28
  rw [X_refusal hp, Option.bind_some]
  by_cases q : pw = 0
  · rw [if_pos q, if_pos q, if_neg (by decide)]
  · rw [if_neg q, if_neg q]
    by_cases q2 : tx = 0
    · rw [if_pos q2, if_pos q2, if_neg (by decide)]
    · rw [if_neg q2, if_neg q2, if_pos rfl]
/-- a call on a table while a transaction may be open: refused alike, or on with a table that there is -/
theorem ref_cases (h : Rel tx pw wl dk mm hd sc of op cr tb cs lw hg us de sa ky) (a1 : Int32) : (∃ r, r ≠ 0 ∧ p_X_refusalOfChange tx pw mm a1 = some r ∧ ((of ≠ 0 ∧ r = -1) ∨ (of = 0 ∧ op = 0 ∧ r = -2) ∨ (of = 0 ∧ op ≠ 0 ∧ r = -5 ∧ p_R_noTable mm a1 = some 1))) ∨ (of = 0 ∧ op ≠ 0 ∧ p_X_refusalOfChange tx pw mm a1 = some 0 ∧ p_R_noTable mm a1 = some 0 ∧ ∃ t w L, t < 5 ∧ a1 = nI t ∧ tbP mm t w L) := by
  obtain ⟨hp, ht, ho, hc, hh, hw, hs⟩ := h
  replace ho := ho.symm
  subst ho
  rw [X_refusalOfChange hp.pw]
  rcases id hp with ⟨rfl, rfl, hj⟩ | ⟨rfl, rfl, hj⟩
  · rw [if_neg (by decide)]
    by_cases q : tx = 0
    · rw [if_pos q]
      exact Or.inl ⟨-2, by decide, rfl, Or.inr (Or.inl ⟨rfl, q, rfl⟩)⟩
    · rw [if_neg q]
      rcases tab_cases a1 with z | ⟨t, ht5, rfl⟩
      · rw [M_hasTable_out mm z, Option.bind_some, if_pos rfl]
        exact Or.inl ⟨-5, by decide, rfl, Or.inr (Or.inr ⟨rfl, q, rfl, R_noTable_out mm z⟩)⟩
      · rw [M_hasTable_in mm ht5, R_noTable_in mm ht5, Option.bind_some]
        by_cases z : mm t = 0
        · rw [if_pos z, if_pos z, if_pos rfl]
          exact Or.inl ⟨-5, by decide, rfl, Or.inr (Or.inr ⟨rfl, q, rfl, rfl⟩)⟩
        · rw [if_neg z, if_neg z, if_neg (by decide)]
          obtain ⟨w, L, hb⟩ := tb_w hw ht5 z
          exact Or.inr ⟨rfl, q, rfl, rfl, t, w, L, ht5, rfl, hb⟩
  · rw [if_pos rfl]
    exact Or.inl ⟨-1, by decide, rfl, Or.inl ⟨by decide, rfl⟩⟩
theorem sim_drop (a1 : Int32) (h : Rel tx pw wl dk mm hd sc of op cr tb cs lw hg us de sa ky) : ∃ r mm' sc' de', p_X_dropTable tx pw mm sc a1 = some (r, mm', sc') ∧ p_R_dropTable of op mm tb de a1 = some (r, mm', de') ∧ Rel tx pw wl dk mm' hd sc' of op cr tb cs lw hg us de' sa ky := by
  unfold p_X_dropTable p_R_dropTable
  rcases ref_cases h a1 with ⟨r, r0, e, hc⟩ | ⟨h1, h2, e, e2, t, w, L, ht5, rfl, hb⟩
  · rw [e, Option.bind_some, if_neg r0]
    rcases hc with ⟨c1, rfl⟩ | ⟨c1, c2, rfl⟩ | ⟨c1, c2, rfl, c3⟩
    · rw [if_neg c1]; exact ⟨_, _, _, _, rfl, rfl, h⟩
    · rw [if_pos c1, if_pos c2]; exact ⟨_, _, _, _, rfl, rfl, h⟩
    · rw [if_pos c1, if_neg c2, c3, Option.bind_some, if_neg (by decide)]; exact ⟨_, _, _, _, rfl, rfl, h⟩
  · obtain ⟨hp, ht, ho, hc, hh, hw, hs⟩ := h
    obtain ⟨d1, d2⟩ := drop_WF hw ht5
    rw [e, Option.bind_some, if_pos rfl, if_pos h1, if_neg h2, e2, Option.bind_some, if_pos rfl, M_removeTable mm ht5, Option.bind_some, X_voidScansOf, Option.bind_some, R_drop_loop mm ht5, R_change, Option.bind_some]
    exact ⟨_, _, _, _, rfl, rfl, hp, ht, ho, hc, hh, d1, scA_change hs ht5 d2⟩
theorem sim_insert (sg : Nat → Int32) (fp fs : Int32) (a1 : Int32) (h : Rel tx pw wl dk mm hd sc of op cr tb cs lw hg us de sa ky) : ∃ r mm' sc' fp' fs' de', p_X_insert tx pw mm sg sc a1 = some (r, mm', sc') ∧ p_R_insert of op fp fs mm sg tb de a1 = some (r, fp', fs', mm', de') ∧ Rel tx pw wl dk mm' hd sc' of op cr tb cs lw hg us de' sa ky := by
  unfold p_X_insert p_R_insert
  rcases ref_cases h a1 with ⟨r, r0, e, hc⟩ | ⟨h1, h2, e, e2, t, w, L, ht5, rfl, hb⟩
  · rw [e, Option.bind_some, if_neg r0]
    rcases hc with ⟨c1, rfl⟩ | ⟨c1, c2, rfl⟩ | ⟨c1, c2, rfl, c3⟩
    · rw [if_neg c1]; exact ⟨_, _, _, _, _, _, rfl, rfl, h⟩
    · rw [if_pos c1, if_pos c2]; exact ⟨_, _, _, _, _, _, rfl, rfl, h⟩
    · rw [if_pos c1, if_neg c2, c3, Option.bind_some, if_neg (by decide)]; exact ⟨_, _, _, _, _, _, rfl, rfl, h⟩
  · rw [e, Option.bind_some, if_pos rfl, if_pos h1, if_neg h2, e2, Option.bind_some, if_pos rfl, if_pos (show kx_in 0 6 = true by decide), if_pos (show kx_in 0 6 = true by decide), c0]
    rcases seekBoth ht5 hb (sg 0) fp fs with ⟨hno, k1, k2⟩ | ⟨p, s, hr, hk, k1, k2⟩
    · rw [k1, Option.bind_some, if_pos rfl, k2, Option.bind_some]
      have hloop := R_insert_loop mm ht5 hb.2.2.1 hb.1 hb.2.1 of op fp fs sg tb de L (8 + t) 1000 (by omega) (by omega) hb.2.2.2.2.2.2.2 hb.pgs (by have := hb.len; omega) (fun m => by
        by_cases z : m = 0
        · exact Or.inr z
        · exact Or.inl (newP_t mm ht5 hb.pgs (by omega)))
      rw [M_addRow mm ht5 hb.2.2.1 hb.1 hb.2.1 hb.2.2.2.2.2.2.2 hb.pgs hb.len, Option.bind_some]
      show ∃ r mm' sc' fp' fs' de', _ ∧ (if (-1 : Int32) < 0 then pl_R_insert_52 of op sg tb 1000 (nI t) (8 + nI t) fp fs mm de else _) = _ ∧ _
      rw [if_pos (show (-1 : Int32) < 0 by decide), nI_8a, hloop]
      have hwf := fun m (hm : insM mm t w L sg = some m) => insM_WF h.2.2.2.2.2.1 ht5 hb hno hm
      unfold insM at hwf ⊢
      cases hq : rmL mm w L with
      | some q =>
        rw [hq] at hwf
        obtain ⟨d1, d2⟩ := hwf _ rfl
        obtain ⟨hp, ht, ho, hc, hh, hw, hs⟩ := h
        dsimp only
        rw [if_neg (show ¬ (1 : Int32) = 0 by decide), X_voidScansOf, Option.bind_some, R_change, Option.bind_some]
        exact ⟨_, _, _, _, _, _, rfl, rfl, hp, ht, ho, hc, hh, d1, scA_change hs ht5 d2⟩
      | none =>
        rw [hq] at hwf
        dsimp only at hwf ⊢
        by_cases h0 : fpr mm 15 1 = 0
        · rw [if_pos h0, if_pos h0]
          exact ⟨_, _, _, _, _, _, rfl, rfl, h⟩
        · rw [if_neg h0] at hwf
          obtain ⟨d1, d2⟩ := hwf _ rfl
          obtain ⟨hp, ht, ho, hc, hh, hw, hs⟩ := h
          rw [if_neg h0, if_neg h0]
          dsimp only
          rw [if_neg (show ¬ (1 : Int32) = 0 by decide), X_voidScansOf, Option.bind_some, R_change, Option.bind_some]
          exact ⟨_, _, _, _, _, _, rfl, rfl, hp, ht, ho, hc, hh, d1, scA_change hs ht5 d2⟩
    · have hb2 := ra_bd hb.1 hb.2.1 hr.2.1 hr.2.2.2.1 (c := 0) (by have := hb.1; omega)
      rw [k1, Option.bind_some, if_neg (nI_ne_m1 (by omega)), k2, Option.bind_some]
      show ∃ r mm' sc' fp' fs' de', _ ∧ (if nI (ra w p s) < 0 then _ else _) = _ ∧ _
      rw [if_neg (nI_pos (by omega))]
      exact ⟨_, _, _, _, _, _, rfl, rfl, h⟩
theorem sim_delete (fp fs : Int32) (a1 a2 : Int32) (h : Rel tx pw wl dk mm hd sc of op cr tb cs lw hg us de sa ky) : ∃ r mm' sc' fp' fs' de', p_X_deleteKey tx pw mm sc a1 a2 = some (r, mm', sc') ∧ p_R_deleteKey of op fp fs mm tb de a1 a2 = some (r, fp', fs', mm', de') ∧ Rel tx pw wl dk mm' hd sc' of op cr tb cs lw hg us de' sa ky := by
  unfold p_X_deleteKey p_R_deleteKey
  rcases ref_cases h a1 with ⟨r, r0, e, hc⟩ | ⟨h1, h2, e, e2, t, w, L, ht5, rfl, hb⟩
  · rw [e, Option.bind_some, if_neg r0]
    rcases hc with ⟨c1, rfl⟩ | ⟨c1, c2, rfl⟩ | ⟨c1, c2, rfl, c3⟩
    · rw [if_neg c1]; exact ⟨_, _, _, _, _, _, rfl, rfl, h⟩
    · rw [if_pos c1, if_pos c2]; exact ⟨_, _, _, _, _, _, rfl, rfl, h⟩
    · rw [if_pos c1, if_neg c2, c3, Option.bind_some, if_neg (by decide)]; exact ⟨_, _, _, _, _, _, rfl, rfl, h⟩
  · rw [e, Option.bind_some, if_pos rfl, if_pos h1, if_neg h2, e2, Option.bind_some, if_pos rfl]
    rcases seekBoth ht5 hb a2 fp fs with ⟨hno, k1, k2⟩ | ⟨p, s, hr, hk, k1, k2⟩
    · rw [k1, Option.bind_some, if_pos rfl, k2, Option.bind_some]
      show ∃ r mm' sc' fp' fs' de', _ ∧ (if (0 : Int32) ≤ -1 then _ else _) = _ ∧ _
      rw [if_neg (by decide)]
      exact ⟨_, _, _, _, _, _, rfl, rfl, h⟩
    · have hb2 := ra_bd hb.1 hb.2.1 hr.2.1 hr.2.2.2.1 (c := 0) (by have := hb.1; omega)
      have hpL : p ∈ L := (hb.2.2.2.2.2.2.1 p).mpr ⟨hr.1, hr.2.1, hr.2.2.1⟩
      have hcn := hb.2.2.2.2.2.2.2
      have hlk := lnk_bd hb ht5 hpL
      obtain ⟨d1, d2⟩ := delM_WF h.2.2.2.2.2.1 ht5 hb hpL hr.2.2.2.1
      obtain ⟨hp, ht, ho, hc, hh, hw, hs⟩ := h
      rw [k1, Option.bind_some, if_neg (nI_ne_m1 (by omega)), k2, Option.bind_some, M_removeRow mm ht5 hb.2.2.1 hb.1 hb.2.1 hr.1 hr.2.1 hr.2.2.2.1 hcn hb.pgs hpL hb.len hlk, Option.bind_some, X_voidScansOf, Option.bind_some]
      show ∃ r mm' sc' fp' fs' de', _ ∧ (if (0 : Int32) ≤ nI (ra w p s) then pl_R_deleteKey_53 of op tb 1000 (nI t) (nI (ra w p s)) (nI p) 0 (nI p) (nI s) mm de else _) = _ ∧ _
      rw [if_pos (nI_pos' (by omega)), R_delete_loop mm ht5 hb.2.2.1 hb.1 hb.2.1 hr.1 hr.2.1 hr.2.2.2.1 hcn hb.pgs hpL hb.len hlk, R_change, Option.bind_some]
      exact ⟨_, _, _, _, _, _, rfl, rfl, hp, ht, ho, hc, hh, d1, scA_change hs ht5 d2⟩
end SIM2
