/-! A ROW PUT IN: where, and the memory behind it -/
def newP (mm : Nat → Int32) (t e p : Nat) : Nat → Int32 := upd (upd mm e (nI p)) (16 * p) (nI (t + 1))
def insM (mm : Nat → Int32) (t w : Nat) (L : List Nat) (sg : Nat → Int32) : Option (Nat → Int32) := match rmL mm w L with
  | some q => some (putR mm w q.1 q.2 sg)
  | none => if fpr mm 15 1 = 0 then none else some (putR (newP mm t (endp (8 + t) L) (fpr mm 15 1)) w (fpr mm 15 1) 0 sg)
theorem endp_ge : ∀ (L : List Nat) (a : Nat), 5 ≤ a → (∀ q ∈ L, 1 ≤ q) → 5 ≤ endp a L := by
  intro L
  induction L with
  | nil => intro a h _; exact h
  | cons q L ih =>
    intro a h hq
    have := hq q List.mem_cons_self
    exact ih (16 * q + 1) (by omega) (fun x hx => hq x (List.mem_cons_of_mem _ hx))
theorem rmL_ffr {mm : Nat → Int32} {w : Nat} : ∀ (L : List Nat) {p s : Nat}, rmL mm w L = some (p, s) → ffr mm p (13 / w) 0 = some s := by
  intro L
  induction L with
  | nil => intro p s h; cases h
  | cons q L ih =>
    intro p s h
    unfold rmL at h
    cases hq : ffr mm q (13 / w) 0 with
    | some s' =>
      rw [hq] at h
      cases h
      exact hq
    | none =>
      rw [hq] at h
      exact ih h
section INS
variable (mm : Nat → Int32) {t w : Nat}
theorem newP_t (ht : t < 5) {L : List Nat} (hg : pgs mm t L) {p : Nat} (hp1 : 1 ≤ p) : newP mm t (endp (8 + t) L) p t = mm t := by
  have := endp_ge L (8 + t) (by omega) (fun q hq => (hg q hq).1)
  unfold newP
  rw [pk_un (by omega), pk_un (by omega)]
theorem w13 (hw2 : 2 ≤ w) (hw6 : w ≤ 6) : 0 < 13 / w := Nat.div_pos (by omega) (by omega)
theorem M_addRow (ht : t < 5) (hw : mm t = nI w) (hw2 : 2 ≤ w) (hw6 : w ≤ 6) {L : List Nat} (hc : chn mm (8 + t) L) (hg : pgs mm t L) (hl : L.length < 16) (sg : Nat → Int32) : p_M_addRow mm sg (nI t) = some (match insM mm t w L sg with | none => (0, mm) | some m => (1, m)) := by
  unfold p_M_addRow insM
  rw [M_pageWithRoom mm ht hw hw2 hw6 hc hg hl, Option.bind_some]
  cases hq : rmL mm w L with
  | some q =>
    obtain ⟨p, s⟩ := q
    have h := rmL_some L hq
    have hgp := hg p h.1
    have hf : ffr mm p (13 / w) 0 = some s := rmL_ffr L hq
    show (if nI p = 0 then _ else _) = _
    rw [if_neg (nI_ne0 (by omega) (by omega)), M_freeSlot mm ht hw hw2 hw6 hgp.2.1, hf, Option.bind_some]
    show (p_M_putRow mm sg (nI t) (nI p) (nI s)).bind _ = _
    rw [M_putRow mm ht hw hw2 hw6 hgp.2.1 h.2.1, Option.bind_some]
  | none =>
    show (if (0 : Int32) = 0 then _ else _) = _
    rw [if_pos rfl, M_freePage, Option.bind_some]
    by_cases h0 : fpr mm 15 1 = 0
    · rw [h0, if_pos (by decide)]
      rfl
    · have hp := (fpr_spec mm 15 1).resolve_left h0
      have he := endp_bd (a := 8 + t) (by omega) L (fun q hq => (hg q hq).2.1)
      rw [if_neg (nI_ne0 (by omega) (by omega)), M_linkTo_end mm ht hc hg hl, Option.bind_some, if_pos (kx_nI he (by omega)), nI_m16, if_pos (kx_nI (by omega) (by omega)), nI_clamp (by omega), nI_clamp (by omega), nI_a1]
      show (p_M_putRow (newP mm t (endp (8 + t) L) (fpr mm 15 1)) sg (nI t) (nI (fpr mm 15 1)) (nI 0)).bind _ = _
      rw [M_putRow _ ht ((newP_t mm ht hg hp.1).trans hw) hw2 hw6 (by omega) (w13 hw2 hw6), Option.bind_some]
      dsimp only
      rw [if_neg h0]
theorem R_insert_inner (ht : t < 5) (hw : mm t = nI w) (hw2 : 2 ≤ w) (hw6 : w ≤ 6) {p : Nat} (hp : p < 16) (of op fp fs : Int32) (sg tb de : Nat → Int32) (k : Int32 → Int32 → Int32 → Int32 → (Nat → Int32) → (Nat → Int32) → Option (Int32 × Int32 × Int32 × (Nat → Int32) × (Nat → Int32))) : pl_R_insert_71 of op sg tb k 1000 (nI t) (nI p) 0 fp fs mm de = match ffr mm p (13 / w) 0 with
    | some s => (p_R_lay mm sg tb de (nI t) (nI p) (nI s)).bind (fun r => some (0, fp, fs, r.1, r.2))
    | none => k (nI t) (nI (16 * p + 1)) fp fs mm de := by
  have hd := d7 hw2
  have key : ∀ c n s, s + c = 13 / w → c < n → pl_R_insert_71 of op sg tb k n (nI t) (nI p) (nI s) fp fs mm de = match ffr mm p c s with
    | some s => (p_R_lay mm sg tb de (nI t) (nI p) (nI s)).bind (fun r => some (0, fp, fs, r.1, r.2))
    | none => k (nI t) (nI (16 * p + 1)) fp fs mm de := by
    intro c
    induction c with
    | zero =>
      intro n s h1 h2
      obtain ⟨n, rfl⟩ : ∃ q, n = q + 1 := ⟨n - 1, by omega⟩
      have e : s = 13 / w := by omega
      subst e
      show p_R_insert_71 of op sg tb k (pl_R_insert_71 of op sg tb k n) (nI t) (nI p) (nI (13 / w)) fp fs mm de = _
      unfold p_R_insert_71
      rw [R_slots_in mm ht hw hw2 hw6, Option.bind_some, if_pos (Int32.le_refl _), nI_16m, nI_a1]
      rfl
    | succ c ih =>
      intro n s h1 h2
      obtain ⟨n, rfl⟩ : ∃ q, n = q + 1 := ⟨n - 1, by omega⟩
      show p_R_insert_71 of op sg tb k (pl_R_insert_71 of op sg tb k n) (nI t) (nI p) (nI s) fp fs mm de = _
      unfold p_R_insert_71 ffr
      rw [R_slots_in mm ht hw hw2 hw6, Option.bind_some, if_neg (nI_ge (by omega) (by omega)), R_filled_in mm hp (by omega), Option.bind_some, nI_a1]
      by_cases hb : bt (mm (16 * p + 2)) s = true
      · rw [if_neg (by rw [hb]; decide), if_pos hb]
        exact ih n (s + 1) (by omega) (by omega)
      · rw [if_pos (by rw [(Bool.not_eq_true _).mp hb]; decide), if_neg hb]
  exact key (13 / w) 1000 0 (by omega) (by omega)
theorem R_insert_loop (ht : t < 5) (hw : mm t = nI w) (hw2 : 2 ≤ w) (hw6 : w ≤ 6) (of op fp fs : Int32) (sg tb de : Nat → Int32) : ∀ (L : List Nat) (a n : Nat), 5 ≤ a → a < 256 → chn mm a L → pgs mm t L → L.length < n → (∀ m, newP mm t (endp a L) m t = mm t ∨ m = 0) → pl_R_insert_52 of op sg tb n (nI t) (nI a) fp fs mm de = match rmL mm w L with
    | some q => (p_R_change tb de (nI t)).bind (fun r => some (0, fp, fs, putR mm w q.1 q.2 sg, r))
    | none => if fpr mm 15 1 = 0 then some (-8, fp, fs, mm, de) else (p_R_change tb de (nI t)).bind (fun r => some (0, fp, fs, putR (newP mm t (endp a L) (fpr mm 15 1)) w (fpr mm 15 1) 0 sg, r)) := by
  intro L
  induction L with
  | nil =>
    intro a n ha5 ha hc hg h1 hnp
    obtain ⟨n, rfl⟩ : ∃ q, n = q + 1 := ⟨n - 1, by omega⟩
    have e : mm a = 0 := hc
    show p_R_insert_52 of op sg tb (pl_R_insert_52 of op sg tb n) (nI t) (nI a) fp fs mm de = (if fpr mm 15 1 = 0 then some (-8, fp, fs, mm, de) else _)
    unfold p_R_insert_52
    rw [if_pos (kx_nI ha (by omega)), nI_clamp (n := a) (by omega), if_pos e, R_freePage, Option.bind_some]
    by_cases h0 : fpr mm 15 1 = 0
    · rw [if_pos h0, h0, if_pos (by decide)]
    · have hp := (fpr_spec mm 15 1).resolve_left h0
      rw [if_neg h0, if_neg (nI_ne0 (by omega) (by omega)), if_pos (kx_nI ha (by omega)), nI_16m, if_pos (kx_nI (by omega) (by omega)), nI_clamp (n := 16 * fpr mm 15 1) (by omega), nI_a1]
      show (p_R_lay (newP mm t a (fpr mm 15 1)) sg tb de (nI t) (nI (fpr mm 15 1)) (nI 0)).bind _ = _
      have hnp' : newP mm t a (fpr mm 15 1) t = mm t := (hnp (fpr mm 15 1)).resolve_right h0
      rw [R_lay _ ht (hnp'.trans hw) hw2 hw6 hp.1 (by omega) (w13 hw2 hw6)]
      cases p_R_change tb de (nI t) with
      | none => rfl
      | some r => rfl
  | cons p L ih =>
    intro a n ha5 ha hc hg h1 hnp
    obtain ⟨n, rfl⟩ : ∃ q, n = q + 1 := ⟨n - 1, by omega⟩
    obtain ⟨e, hc⟩ := hc
    obtain ⟨g1, g2, g3⟩ := hg p List.mem_cons_self
    simp only [List.length_cons] at h1
    show p_R_insert_52 of op sg tb (pl_R_insert_52 of op sg tb n) (nI t) (nI a) fp fs mm de = _
    unfold p_R_insert_52 rmL endp
    rw [if_pos (kx_nI ha (by omega)), nI_clamp (n := a) (by omega), e, if_neg (nI_ne0 (by omega) (by omega)), if_pos (kx_nI ha (by omega))]
    show pl_R_insert_71 of op sg tb (pl_R_insert_52 of op sg tb n) 1000 (nI t) (nI p) 0 fp fs mm de = _
    rw [R_insert_inner mm ht hw hw2 hw6 g2]
    cases hq : ffr mm p (13 / w) 0 with
    | some s =>
      have hs := ffr_some (13 / w) 0 s hq
      show (p_R_lay mm sg tb de (nI t) (nI p) (nI s)).bind _ = _
      rw [R_lay mm ht hw hw2 hw6 g1 g2 (by omega)]
      cases p_R_change tb de (nI t) with
      | none => rfl
      | some r => rfl
    | none =>
      exact ih (16 * p + 1) n (by omega) (by omega) hc (fun q hq => hg q (List.mem_cons_of_mem _ hq)) (by omega) hnp
end INS
