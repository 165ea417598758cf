/-! SCANS: what happens to all of them -/
theorem itr_up {α : Type} (g : Nat → α → α) : ∀ (k a : Nat) (s : Nat → α), itr (fun i s => va_up s i (g i (s i))) a k s = fun j => if a ≤ j ∧ j < a + k then g j (s j) else s j := by
  intro k
  induction k with
  | zero =>
    intro a s
    funext j
    show s j = _
    rw [if_neg (by omega)]
  | succ k ih =>
    intro a s
    show itr (fun i s => va_up s i (g i (s i))) (a + 1) k (va_up s a (g a (s a))) = _
    rw [ih (a + 1)]
    funext j
    by_cases e : j = a
    · subst e
      rw [if_neg (by omega), va_up_self, if_pos (by omega)]
    · rw [va_up_ne _ _ e]
      by_cases h : a + 1 ≤ j ∧ j < a + 1 + k
      · rw [if_pos h, if_pos (by omega)]
      · rw [if_neg h, if_neg (by omega)]
def in4 (g : SCT → SCT) (sc : Nat → SCT) : Nat → SCT := fun c => if c < 4 then g (sc c) else sc c
theorem itr_in4 (g : SCT → SCT) (sc : Nat → SCT) : itr (fun i s => va_up s i (g (s i))) 0 4 sc = in4 g sc := by
  rw [itr_up (fun _ x => g x)]
  funext c
  unfold in4
  by_cases h : c < 4
  · rw [if_pos h, if_pos (by omega)]
  · rw [if_neg h, if_neg (by omega)]
theorem in4_in {g : SCT → SCT} {sc : Nat → SCT} {c : Nat} (h : c < 4) : in4 g sc c = g (sc c) := if_pos h
def en1 (x : SCT) : SCT := (0, x.2)
def vd1 (t : Int32) (x : SCT) : SCT := (x.1, (if t = x.2.2.1 then 1 else x.2.1), x.2.2)
theorem X_startAnew (tx : Int32) (dk mm : Nat → Int32) (sc : Nat → SCT) : p_X_startAnew tx dk mm sc = some (0, ldm dk mm, in4 en1 sc) := by
  unfold p_X_startAnew
  rw [M_load, Option.bind_some]
  have h := lp_for (fun n x s => pl_X_startAnew_18 dk n x 0 (ldm dk mm) s) (fun i s => va_up s i (en1 (s i))) (fun s => some (0, ldm dk mm, s)) 4
    (fun n i s hi => by
      show p_X_startAnew_18 dk (pl_X_startAnew_18 dk n) (nI i) 0 (ldm dk mm) s = _
      unfold p_X_startAnew_18 p_S_end
      rw [if_neg (by rw [nI_lit_le 4 (by omega) (by omega)]; omega), if_pos (kx_nI (by omega) (by omega)), Option.bind_some, nI_clamp (by omega), nI_a1]
      rfl)
    (fun n s => by
      show p_X_startAnew_18 dk (pl_X_startAnew_18 dk n) (nI 4) 0 (ldm dk mm) s = _
      unfold p_X_startAnew_18
      rw [if_pos (by decide)]) 4 1000 0 sc (by omega) (by omega)
  rw [itr_in4] at h
  exact h
theorem S_tableChanged (sv sb t : Int32) : p_S_tableChanged sv sb t = some (if t = sb then 1 else sv) := by
  unfold p_S_tableChanged p_S_tableChanged_13
  by_cases h : t = sb
  · rw [if_pos h, if_pos h]
  · rw [if_neg h, if_neg h]
theorem X_voidScansOf (sc : Nat → SCT) (t : Int32) : p_X_voidScansOf sc t = some (in4 (vd1 t) sc) := by
  have h := lp_for (fun n x s => pl_X_voidScansOf_2 n t x s) (fun i s => va_up s i (vd1 t (s i))) (fun s => some s) 4
    (fun n i s hi => by
      show p_X_voidScansOf_2 (pl_X_voidScansOf_2 n) t (nI i) s = _
      unfold p_X_voidScansOf_2
      rw [if_neg (by rw [nI_lit_le 4 (by omega) (by omega)]; omega), if_pos (kx_nI (by omega) (by omega)), S_tableChanged, Option.bind_some, nI_clamp (by omega), nI_a1]
      rfl)
    (fun n s => by
      show p_X_voidScansOf_2 (pl_X_voidScansOf_2 n) t (nI 4) s = _
      unfold p_X_voidScansOf_2
      rw [if_pos (by decide)]) 4 1000 0 sc (by omega) (by omega)
  rw [itr_in4] at h
  exact h
theorem itr_updw (g : Nat → Int32 → Int32) : ∀ (k a : Nat) (s : Nat → Int32), itr (fun i s => upd s i (g i (s i))) a k s = fun j => if a ≤ j ∧ j < a + k then g j (s j) else s j := by
  intro k
  induction k with
  | zero =>
    intro a s
    funext j
    show s j = _
    rw [if_neg (by omega)]
  | succ k ih =>
    intro a s
    show itr (fun i s => upd s i (g i (s i))) (a + 1) k (upd s a (g a (s a))) = _
    rw [ih (a + 1)]
    funext j
    by_cases e : j = a
    · subst e
      rw [if_neg (by omega), pk_us, if_pos (by omega)]
    · rw [pk_un e]
      by_cases h : a + 1 ≤ j ∧ j < a + 1 + k
      · rw [if_pos h, if_pos (by omega)]
      · rw [if_neg h, if_neg (by omega)]
def chg (tb de : Nat → Int32) (t : Int32) : Nat → Int32 := fun c => if c < 4 then (if de c = 0 then (if tb c = t then 1 else 0) else 1) else de c
theorem R_change (tb de : Nat → Int32) (t : Int32) : p_R_change tb de t = some (chg tb de t) := by
  have h := lp_for (fun n x d => pl_R_change_2 tb n t x d) (fun i d => upd d i ((fun i v => if v = 0 then (if tb i = t then (1 : Int32) else 0) else 1) i (d i))) (fun d => some d) 4
    (fun n i d hi => by
      show p_R_change_2 tb (pl_R_change_2 tb n) t (nI i) d = _
      unfold p_R_change_2 p_R_change_31 p_R_change_36
      rw [if_neg (by rw [nI_lit_le 4 (by omega) (by omega)]; omega), if_pos (kx_nI (k := i) (by omega) (by omega)), if_pos (kx_nI (k := i) (by omega) (by omega)), if_pos (kx_nI (k := i) (by omega) (by omega)), if_pos (kx_nI (k := i) (by omega) (by omega)), nI_clamp (by omega), nI_a1, vz_0, vz_1]
      dsimp only
      by_cases h1 : d i = 0
      · rw [if_pos h1, if_pos h1]
        by_cases h2 : tb i = t
        · rw [if_pos h2, if_pos h2]
        · rw [if_neg h2, if_neg h2]
      · rw [if_neg h1, if_neg h1])
    (fun n d => by
      show p_R_change_2 tb (pl_R_change_2 tb n) t (nI 4) d = _
      unfold p_R_change_2
      rw [if_pos (by decide)]) 4 1000 0 de (by omega) (by omega)
  rw [itr_updw (fun i v => if v = 0 then (if tb i = t then (1 : Int32) else 0) else 1)] at h
  refine (show p_R_change tb de t = _ from h).trans ?_
  have e : (fun j => if 0 ≤ j ∧ j < 0 + 4 then (if de j = 0 then (if tb j = t then (1 : Int32) else 0) else 1) else de j) = chg tb de t := by
    funext c
    unfold chg
    by_cases q : c < 4
    · rw [if_pos q, if_pos (by omega)]
    · rw [if_neg q, if_neg (by omega)]
  exact congrArg some e
def vdA (x : SCT) : SCT := vd1 4 (vd1 3 (vd1 2 (vd1 1 (vd1 0 x))))
theorem vdA_eq {x : SCT} {t : Nat} (ht : t < 5) (hx : x.2.2.1 = nI t) : vdA x = (x.1, 1, x.2.2) := by
  obtain ⟨a, b, c, d⟩ := x
  have hx : c = nI t := hx
  subst hx
  rcases (show t = 0 ∨ t = 1 ∨ t = 2 ∨ t = 3 ∨ t = 4 by omega) with rfl | rfl | rfl | rfl | rfl <;> rfl
theorem X_rollback_loop (pw : Int32) (dk mm : Nat → Int32) (sc : Nat → SCT) : pl_X_rollback_29 pw dk 1000 0 0 mm sc = some (0, 0, mm, in4 vdA sc) := by
  have h := lp_for (fun n x s => pl_X_rollback_29 pw dk n x 0 mm s) (fun i s => in4 (vd1 (nI i)) s) (fun s => some (0, 0, mm, s)) 5
    (fun n i s hi => by
      show p_X_rollback_29 pw dk (pl_X_rollback_29 pw dk n) (nI i) 0 mm s = _
      unfold p_X_rollback_29
      rw [if_neg (by rw [nI_lit_le 5 (by omega) (by omega)]; omega), X_voidScansOf, Option.bind_some, nI_a1])
    (fun n s => by
      show p_X_rollback_29 pw dk (pl_X_rollback_29 pw dk n) (nI 5) 0 mm s = _
      unfold p_X_rollback_29
      rw [if_pos (by decide)]) 5 1000 0 sc (by omega) (by omega)
  refine (show pl_X_rollback_29 pw dk 1000 0 0 mm sc = _ from h).trans ?_
  have e : itr (fun i s => in4 (vd1 (nI i)) s) 0 5 sc = in4 vdA sc := by
    show in4 (vd1 (nI 4)) (in4 (vd1 (nI 3)) (in4 (vd1 (nI 2)) (in4 (vd1 (nI 1)) (in4 (vd1 (nI 0)) sc)))) = _
    funext c
    unfold in4
    by_cases q : c < 4
    · simp only [if_pos q]
      rfl
    · simp only [if_neg q]
  rw [e]
def all1 (de : Nat → Int32) : Nat → Int32 := fun c => if c < 4 then 1 else de c
theorem R_rollback_loop (of : Int32) (dk mm de : Nat → Int32) : pl_R_rollback_25 of dk 1000 0 0 mm de = some (0, 0, mm, all1 de) := by
  have h := lp_for (fun n x d => pl_R_rollback_25 of dk n x 0 mm d) (fun i d => upd d (0 + i) ((fun _ => (1 : Int32)) i)) (fun d => some (0, 0, mm, d)) 4
    (fun n i d hi => by
      show p_R_rollback_25 of dk (pl_R_rollback_25 of dk n) (nI i) 0 mm d = _
      unfold p_R_rollback_25
      rw [if_neg (by rw [nI_lit_le 4 (by omega) (by omega)]; omega), if_pos (kx_nI (by omega) (by omega)), nI_clamp (by omega), nI_a1, Nat.zero_add, vz_1])
    (fun n d => by
      show p_R_rollback_25 of dk (pl_R_rollback_25 of dk n) (nI 4) 0 mm d = _
      unfold p_R_rollback_25
      rw [if_pos (by decide)]) 4 1000 0 de (by omega) (by omega)
  refine (show pl_R_rollback_25 of dk 1000 0 0 mm de = _ from h).trans ?_
  rw [itr_fill 0 (fun _ => 1)]
  have e : (fun j => if 0 + 0 ≤ j ∧ j < 0 + 0 + 4 then (1 : Int32) else de j) = all1 de := by
    funext c
    unfold all1
    by_cases q : c < 4
    · rw [if_pos q, if_pos (by omega)]
    · rw [if_neg q, if_neg (by omega)]
  rw [e]
/-- formatting -/
def wz (dk : Nat → Int32) : Nat → Int32 := fun j => if j < 528 then 0 else dk j
theorem itr_wz (dk : Nat → Int32) : itr (fun i d => upd d (0 + i) 0) 0 528 dk = wz dk := by
  rw [itr_fill 0 (fun _ => 0)]
  funext j
  unfold wz
  by_cases q : j < 528
  · rw [if_pos q, if_pos (by omega)]
  · rw [if_neg q, if_neg (by omega)]
theorem D_wipe (pw wl : Int32) (dk : Nat → Int32) : p_D_wipe pw wl dk = some (1, -1, wz dk) := by
  have h := lp_for (fun n x d => pl_D_wipe_2 n x pw wl d) (fun i d => upd d (0 + i) 0) (fun d => some (1, -1, d)) 528
    (fun n i d hi => by
      show p_D_wipe_2 (pl_D_wipe_2 n) (nI i) pw wl d = _
      unfold p_D_wipe_2
      rw [if_neg (by rw [nI_lit_le 528 (by omega) (by omega)]; omega), if_pos (kx_nI (by omega) (by omega)), nI_clamp (by omega), nI_a1, Nat.zero_add])
    (fun n d => by
      show p_D_wipe_2 (pl_D_wipe_2 n) (nI 528) pw wl d = _
      unfold p_D_wipe_2
      rw [if_pos (by decide)]) 528 1000 0 dk (by omega) (by omega)
  rw [itr_wz] at h
  exact h
theorem R_format (of op cr : Int32) (dk mm us : Nat → Int32) : p_R_format of op cr dk mm us = some (0, 0, 0, -1, wz dk, ldm (wz dk) mm, us0 us) := by
  have hl : ∀ d : Nat → Int32, pl_R_format_38 1000 0 0 0 (-1) d (ldm d mm) us = some (0, 0, 0, -1, d, ldm d mm, us0 us) := fun d => by
    have h := lp_for (fun n x s => pl_R_format_38 n x 0 0 (-1) d (ldm d mm) s) (fun i s => upd s (0 + i) 0) (fun s => some (0, 0, 0, -1, d, ldm d mm, s)) 4
      (fun n i s hi => by
        show p_R_format_38 (pl_R_format_38 n) (nI i) 0 0 (-1) d (ldm d mm) s = _
        unfold p_R_format_38
        rw [if_neg (by rw [nI_lit_le 4 (by omega) (by omega)]; omega), if_pos (kx_nI (by omega) (by omega)), nI_clamp (by omega), nI_a1, Nat.zero_add, vz_0])
      (fun n s => by
        show p_R_format_38 (pl_R_format_38 n) (nI 4) 0 0 (-1) d (ldm d mm) s = _
        unfold p_R_format_38
        rw [if_pos (by decide)]) 4 1000 0 us (by omega) (by omega)
    rw [itr_us0] at h
    exact h
  have h := lp_for (fun n x d => pl_R_format_2 n x of op cr d mm us) (fun i d => upd d (0 + i) 0) (fun d => some (0, 0, 0, -1, d, ldm d mm, us0 us)) 528
    (fun n i d hi => by
      show p_R_format_2 (pl_R_format_2 n) (nI i) of op cr d mm us = _
      unfold p_R_format_2
      rw [if_neg (by rw [nI_lit_le 528 (by omega) (by omega)]; omega), if_pos (kx_nI (by omega) (by omega)), nI_clamp (by omega), nI_a1, Nat.zero_add])
    (fun n d => by
      show p_R_format_2 (pl_R_format_2 n) (nI 528) of op cr d mm us = _
      unfold p_R_format_2
      rw [if_pos (by decide), R_copyBack, Option.bind_some]
      exact hl d) 528 1000 0 dk (by omega) (by omega)
  rw [itr_wz] at h
  exact h
/-- the relation between a scan of the class and one of the reference -/
def live (mm : Nat → Int32) (x : SCT) (sa ky : Int32) : Prop := ∃ t w L c, t < 5 ∧ x.2.2.1 = nI t ∧ tbP mm t w L ∧ c < w ∧ x.2.2.2.1 = nI c ∧ ((sa = 0 ∧ x.2.2.2.2.2.2.1 = -2147483649 ∧ x.2.2.2.2.2.2.2 = -1) ∨ (sa = 1 ∧ x.2.2.2.2.2.2.1 = ky.toInt64 ∧ ∃ p s, row mm t w p s ∧ mm (ra w p s) = ky ∧ x.2.2.2.2.2.2.2 = nI (ra w p s)) ∨ (sa = 2 ∧ x.2.2.2.2.2.2.2 = -1 ∧ ∀ p s, row mm t w p s → ¬ fitF mm c x.2.2.2.2.1 x.2.2.2.2.2.1 x.2.2.2.2.2.2.1 (ra w p s)))
def scR (mm : Nat → Int32) (x : SCT) (us de tb cs lw hg sa ky : Int32) : Prop := x.1 = us ∧ x.2.1 = de ∧ x.2.2.1 = tb ∧ x.2.2.2.1 = cs ∧ x.2.2.2.2.1 = lw ∧ x.2.2.2.2.2.1 = hg ∧ (us = 0 ∨ us = 1) ∧ (de = 0 ∨ de = 1) ∧ (∃ t, t < 5 ∧ tb = nI t) ∧ (us = 1 → de = 0 → live mm x sa ky)
theorem live.same {mm m : Nat → Int32} {x : SCT} {sa ky : Int32} (h : live mm x sa ky) (hs : ∀ t, t < 5 → x.2.2.1 = nI t → tsame mm m t) : live m x sa ky := by
  obtain ⟨t, w, L, c, ht, hx, hb, hc, hcx, hst⟩ := h
  have hsm := hs t ht hx
  refine ⟨t, w, L, c, ht, hx, hsm.keepP hb, hc, hcx, ?_⟩
  rcases hst with h | ⟨h1, h2, p, s, hr, hk, hw⟩ | ⟨h1, h2, h3⟩
  · exact Or.inl h
  · refine Or.inr (Or.inl ⟨h1, h2, p, s, hsm.rowI.mpr hr, ?_, hw⟩)
    have := hsm.word hb.1 hb.2.1 hr (c := 0) (by have := hb.1; omega)
    rw [Nat.add_zero] at this
    rw [this]
    exact hk
  · refine Or.inr (Or.inr ⟨h1, h2, fun p s hr hf => ?_⟩)
    have hr' := hsm.rowI.mp hr
    have e0 := hsm.word hb.1 hb.2.1 hr' (c := 0) (by have := hb.1; omega)
    have ec := hsm.word hb.1 hb.2.1 hr' hc
    rw [Nat.add_zero] at e0
    refine h3 p s hr' ?_
    unfold fitF at hf ⊢
    rw [e0, ec] at hf
    exact hf
/-- a table changes: its scans are void, the others see the same -/
theorem scR_change {mm m : Nat → Int32} {x : SCT} {us de tb cs lw hg sa ky : Int32} (h : scR mm x us de tb cs lw hg sa ky) {t : Nat} (ht : t < 5) (hs : ∀ t', t' < 5 → t ≠ t' → tsame mm m t') : scR m (vd1 (nI t) x) us (if de = 0 then (if tb = nI t then 1 else 0) else 1) tb cs lw hg sa ky := by
  obtain ⟨h1, h2, h3, h4, h5, h6, hu, hd, htb, hlv⟩ := h
  obtain ⟨t0, ht0, htb0⟩ := htb
  have e2 : (if nI t = x.2.2.1 then (1 : Int32) else x.2.1) = (if de = 0 then (if tb = nI t then 1 else 0) else 1) := by
    rw [h2, h3]
    by_cases q : tb = nI t
    · rw [if_pos q.symm, if_pos q]
      rcases hd with rfl | rfl
      · rfl
      · rfl
    · rw [if_neg (fun z => q z.symm), if_neg q]
      rcases hd with rfl | rfl
      · rfl
      · rfl
  refine ⟨h1, e2, h3, h4, h5, h6, hu, ?_, ⟨t0, ht0, htb0⟩, fun u1 d0 => ?_⟩
  · rcases hd with rfl | rfl
    · by_cases q : tb = nI t
      · rw [if_pos rfl, if_pos q]; exact Or.inr rfl
      · rw [if_pos rfl, if_neg q]; exact Or.inl rfl
    · rw [if_neg (by decide)]; exact Or.inr rfl
  · rcases hd with rfl | rfl
    · by_cases q : tb = nI t
      · rw [if_pos rfl, if_pos q] at d0
        exact absurd d0 (by decide)
      · have hl := hlv u1 rfl
        have e : vd1 (nI t) x = x := by
          unfold vd1
          rw [if_neg (by rw [h3]; exact fun z => q z.symm)]
        rw [e]
        refine hl.same (fun t' ht' hx' => hs t' ht' (fun z => q ?_))
        rw [← h3, hx', z]
    · rw [if_neg (by decide)] at d0
      exact absurd d0 (by decide)
