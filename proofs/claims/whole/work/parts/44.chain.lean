/-! PLACES: free slots, free pages, the chain of a table's pages -/
def ffr (mm : Nat → Int32) (p : Nat) : Nat → Nat → Option Nat
  | 0, _ => none
  | c + 1, s => if bt (mm (16 * p + 2)) s = true then ffr mm p c (s + 1) else some s
theorem ffr_some {mm : Nat → Int32} {p : Nat} : ∀ (c s q : Nat), ffr mm p c s = some q → s ≤ q ∧ q < s + c ∧ bt (mm (16 * p + 2)) q = false := by
  intro c
  induction c with
  | zero => intro s q h; cases h
  | succ c ih =>
    intro s q h
    unfold ffr at h
    by_cases hb : bt (mm (16 * p + 2)) s = true
    · rw [if_pos hb] at h
      have := ih (s + 1) q h
      exact ⟨by omega, by omega, this.2.2⟩
    · rw [if_neg hb] at h
      cases h
      exact ⟨Nat.le_refl _, by omega, (Bool.not_eq_true _).mp hb⟩
def fsI (o : Option Nat) : Int32 := match o with
  | none => -1
  | some s => nI s
section FREE
variable (mm : Nat → Int32) {t w : Nat}
theorem d7 (hw2 : 2 ≤ w) : 13 / w < 7 := by
  have := Nat.div_le_div_left hw2 (by omega : 0 < 2) (a := 13)
  omega
theorem M_freeSlot (ht : t < 5) (hw : mm t = nI w) (hw2 : 2 ≤ w) (hw6 : w ≤ 6) {p : Nat} (hp : p < 16) : p_M_freeSlot mm (nI t) (nI p) = some (fsI (ffr mm p (13 / w) 0)) := by
  have hd := d7 hw2
  have key : ∀ c n s, s + c = 13 / w → c < n → pl_M_freeSlot_2 mm n (nI t) (nI p) (nI s) = some (fsI (ffr mm p c s)) := by
    intro c
    induction c with
    | zero =>
      intro n s h1 h2
      obtain ⟨n, rfl⟩ : ∃ q, n = q + 1 := ⟨n - 1, by omega⟩
      have e : s = 13 / w := by omega
      subst e
      show p_M_freeSlot_2 mm (pl_M_freeSlot_2 mm n) (nI t) (nI p) (nI (13 / w)) = _
      unfold p_M_freeSlot_2
      rw [M_slots_in mm ht hw hw2 hw6, Option.bind_some, if_pos (Int32.le_refl _)]
      rfl
    | succ c ih =>
      intro n s h1 h2
      obtain ⟨n, rfl⟩ : ∃ q, n = q + 1 := ⟨n - 1, by omega⟩
      show p_M_freeSlot_2 mm (pl_M_freeSlot_2 mm n) (nI t) (nI p) (nI s) = _
      unfold p_M_freeSlot_2 ffr
      rw [M_slots_in mm ht hw hw2 hw6, Option.bind_some, if_neg (nI_ge (by omega) (by omega)), M_hasRow_in mm hp (by omega), Option.bind_some, nI_a1, ih n (s + 1) (by omega) (by omega)]
      by_cases hb : bt (mm (16 * p + 2)) s = true
      · rw [if_neg (by rw [hb]; decide), if_pos hb]
      · rw [if_pos (by rw [(Bool.not_eq_true _).mp hb]; decide), if_neg hb]
        rfl
  exact key (13 / w) 1000 0 (by omega) (by omega)
/-- the first free page among c from p on, or 0 -/
def fpr (mm : Nat → Int32) : Nat → Nat → Nat
  | 0, _ => 0
  | c + 1, p => if mm (16 * p) = 0 then p else fpr mm c (p + 1)
theorem fpr_spec : ∀ (c p : Nat), fpr mm c p = 0 ∨ (p ≤ fpr mm c p ∧ fpr mm c p < p + c ∧ mm (16 * fpr mm c p) = 0) := by
  intro c
  induction c with
  | zero => intro p; exact Or.inl rfl
  | succ c ih =>
    intro p
    unfold fpr
    by_cases h : mm (16 * p) = 0
    · rw [if_pos h]
      exact Or.inr ⟨Nat.le_refl _, by omega, h⟩
    · rw [if_neg h]
      rcases ih (p + 1) with h1 | h1
      · exact Or.inl h1
      · exact Or.inr ⟨by omega, by omega, h1.2.2⟩
theorem M_freePage : p_M_freePage mm = some (nI (fpr mm 15 1)) := by
  have key : ∀ c n p, p + c = 16 → c < n → pl_M_freePage_2 mm n (nI p) = some (nI (fpr mm c p)) := by
    intro c
    induction c with
    | zero =>
      intro n p h1 h2
      obtain ⟨n, rfl⟩ : ∃ q, n = q + 1 := ⟨n - 1, by omega⟩
      have e : p = 16 := by omega
      subst e
      show p_M_freePage_2 mm (pl_M_freePage_2 mm n) (nI 16) = _
      unfold p_M_freePage_2
      rw [if_pos (by decide)]
      rfl
    | succ c ih =>
      intro n p h1 h2
      obtain ⟨n, rfl⟩ : ∃ q, n = q + 1 := ⟨n - 1, by omega⟩
      show p_M_freePage_2 mm (pl_M_freePage_2 mm n) (nI p) = _
      unfold p_M_freePage_2 fpr
      rw [if_neg (by rw [nI_lit_le 16 (by omega) (by omega)]; omega), nI_m16, if_pos (kx_nI (by omega) (by omega)), nI_clamp (by omega), nI_a1, ih n (p + 1) (by omega) (by omega)]
      by_cases h : mm (16 * p) = 0
      · rw [if_pos h, if_pos h]
      · rw [if_neg h, if_neg h]
  exact key 15 1000 1 (by omega) (by omega)
theorem R_freePage : p_R_freePage mm = some (nI (fpr mm 15 1)) := by
  have key : ∀ c n p, p + c = 16 → c < n → pl_R_freePage_2 mm n (nI p) = some (nI (fpr mm c p)) := by
    intro c
    induction c with
    | zero =>
      intro n p h1 h2
      obtain ⟨n, rfl⟩ : ∃ q, n = q + 1 := ⟨n - 1, by omega⟩
      have e : p = 16 := by omega
      subst e
      show p_R_freePage_2 mm (pl_R_freePage_2 mm n) (nI 16) = _
      unfold p_R_freePage_2
      rw [if_pos (by decide)]
      rfl
    | succ c ih =>
      intro n p h1 h2
      obtain ⟨n, rfl⟩ : ∃ q, n = q + 1 := ⟨n - 1, by omega⟩
      show p_R_freePage_2 mm (pl_R_freePage_2 mm n) (nI p) = _
      unfold p_R_freePage_2 fpr
      rw [if_neg (by rw [nI_lit_le 16 (by omega) (by omega)]; omega), nI_16m, if_pos (kx_nI (by omega) (by omega)), nI_clamp (by omega), nI_a1, ih n (p + 1) (by omega) (by omega)]
      by_cases h : mm (16 * p) = 0
      · rw [if_pos h, if_pos h]
      · rw [if_neg h, if_neg h]
  exact key 15 1000 1 (by omega) (by omega)
end FREE
/-- from the place a on, the pages of L lead to one another, and to none behind the last -/
def chn (mm : Nat → Int32) : Nat → List Nat → Prop
  | a, [] => mm a = 0
  | a, p :: L => mm a = nI p ∧ chn mm (16 * p + 1) L
/-- the place behind the last page; the place that leads to page p -/
def endp : Nat → List Nat → Nat
  | a, [] => a
  | _, q :: L => endp (16 * q + 1) L
def lnk (p : Nat) : Nat → List Nat → Nat
  | a, [] => a
  | a, q :: L => if q = p then a else lnk p (16 * q + 1) L
/-- the first page with room, and its first free slot -/
def rmL (mm : Nat → Int32) (w : Nat) : List Nat → Option (Nat × Nat)
  | [] => none
  | p :: L => match ffr mm p (13 / w) 0 with
    | some s => some (p, s)
    | none => rmL mm w L
def pgs (mm : Nat → Int32) (t : Nat) (L : List Nat) : Prop := ∀ q ∈ L, 1 ≤ q ∧ q < 16 ∧ mm (16 * q) = nI (t + 1)
theorem rmL_some {mm : Nat → Int32} {w : Nat} : ∀ (L : List Nat) {p s : Nat}, rmL mm w L = some (p, s) → p ∈ L ∧ s < 13 / w ∧ bt (mm (16 * p + 2)) s = false := by
  intro L
  induction L with
  | nil => intro p s h; cases h
  | cons q L ih =>
    intro p s h
    unfold rmL at h
    cases hq : ffr mm q (13 / w) 0 with
    | some s' =>
      rw [hq] at h
      cases h
      have := ffr_some (13 / w) 0 s hq
      exact ⟨List.mem_cons_self, by omega, this.2.2⟩
    | none =>
      rw [hq] at h
      have := ih h
      exact ⟨List.mem_cons_of_mem _ this.1, this.2⟩
theorem endp_bd {a : Nat} (ha : a < 256) : ∀ (L : List Nat), (∀ q ∈ L, q < 16) → endp a L < 256 := by
  intro L
  induction L generalizing a with
  | nil => intro _; exact ha
  | cons q L ih =>
    intro h
    have hq := h q List.mem_cons_self
    exact ih (by omega) (fun x hx => h x (List.mem_cons_of_mem _ hx))
section CHAIN
variable (mm : Nat → Int32) {t w : Nat}
theorem M_pageWithRoom_loop (ht : t < 5) (hw : mm t = nI w) (hw2 : 2 ≤ w) (hw6 : w ≤ 6) : ∀ (L : List Nat) (a i n : Nat), chn mm a L → pgs mm t L → L.length < n → i + L.length < 16 → pl_M_pageWithRoom_12 mm n (nI t) (mm a) (nI i) = some (match rmL mm w L with | none => 0 | some q => nI q.1) := by
  intro L
  induction L with
  | nil =>
    intro a i n hc hg h1 h2
    obtain ⟨n, rfl⟩ : ∃ q, n = q + 1 := ⟨n - 1, by omega⟩
    have e : mm a = 0 := hc
    show p_M_pageWithRoom_12 mm (pl_M_pageWithRoom_12 mm n) (nI t) (mm a) (nI i) = _
    unfold p_M_pageWithRoom_12 p_M_pageWithRoom_57
    rw [e, if_neg (by rw [nI_lit_le 16 (by omega) (by simp at h2; omega)]; simp at h2; omega), M_isPageOf_0, Option.bind_some, if_pos rfl]
    rfl
  | cons p L ih =>
    intro a i n hc hg h1 h2
    obtain ⟨n, rfl⟩ : ∃ q, n = q + 1 := ⟨n - 1, by omega⟩
    obtain ⟨e, hc⟩ := hc
    obtain ⟨g1, g2, g3⟩ := hg p List.mem_cons_self
    simp only [List.length_cons] at h1 h2
    show p_M_pageWithRoom_12 mm (pl_M_pageWithRoom_12 mm n) (nI t) (mm a) (nI i) = _
    unfold p_M_pageWithRoom_12 p_M_pageWithRoom_57 rmL
    rw [e, if_neg (by rw [nI_lit_le 16 (by omega) (by omega)]; omega), M_isPageOf_in mm t g1 g2, Option.bind_some, decide_eq_true g3, if_neg (by decide), M_freeSlot mm ht hw hw2 hw6 g2, Option.bind_some]
    cases hq : ffr mm p (13 / w) 0 with
    | some s =>
      have := ffr_some (13 / w) 0 s hq
      have := d7 hw2
      show (if nI s = -1 then _ else _) = _
      rw [if_neg (nI_ne_m1 (by omega))]
    | none =>
      show (if (-1 : Int32) = -1 then _ else _) = _
      rw [if_pos rfl, nI_m16, nI_a1, if_pos (kx_nI (by omega) (by omega)), nI_clamp (by omega), nI_a1]
      show pl_M_pageWithRoom_12 mm n (nI t) (mm (16 * p + 1)) (nI (i + 1)) = _
      exact ih (16 * p + 1) (i + 1) n hc (fun q hq => hg q (List.mem_cons_of_mem _ hq)) (by omega) (by omega)
theorem M_pageWithRoom (ht : t < 5) (hw : mm t = nI w) (hw2 : 2 ≤ w) (hw6 : w ≤ 6) {L : List Nat} (hc : chn mm (8 + t) L) (hg : pgs mm t L) (hl : L.length < 16) : p_M_pageWithRoom mm (nI t) = some (match rmL mm w L with | none => 0 | some q => nI q.1) := by
  unfold p_M_pageWithRoom
  rw [nI_8a, if_pos (kx_nI (by omega) (by omega)), nI_clamp (by omega)]
  exact M_pageWithRoom_loop mm ht hw hw2 hw6 L (8 + t) 0 1000 hc hg (by omega) (by omega)
theorem M_linkTo_end_loop : ∀ (L : List Nat) (a i n : Nat), a < 256 → chn mm a L → pgs mm t L → L.length < n → i + L.length < 16 → pl_M_linkTo_8 mm n (nI t) 0 (nI a) (nI i) = some (nI (endp a L)) := by
  intro L
  induction L with
  | nil =>
    intro a i n ha hc hg h1 h2
    obtain ⟨n, rfl⟩ : ∃ q, n = q + 1 := ⟨n - 1, by omega⟩
    have e : mm a = 0 := hc
    show p_M_linkTo_8 mm (pl_M_linkTo_8 mm n) (nI t) 0 (nI a) (nI i) = _
    unfold p_M_linkTo_8 p_M_linkTo_59
    rw [if_neg (by rw [nI_lit_le 16 (by omega) (by simp at h2; omega)]; simp at h2; omega), if_pos (kx_nI ha (by omega)), nI_clamp (by omega), if_pos e]
    rfl
  | cons p L ih =>
    intro a i n ha hc hg h1 h2
    obtain ⟨n, rfl⟩ : ∃ q, n = q + 1 := ⟨n - 1, by omega⟩
    obtain ⟨e, hc⟩ := hc
    obtain ⟨g1, g2, g3⟩ := hg p List.mem_cons_self
    simp only [List.length_cons] at h1 h2
    show p_M_linkTo_8 mm (pl_M_linkTo_8 mm n) (nI t) 0 (nI a) (nI i) = _
    unfold p_M_linkTo_8 p_M_linkTo_59 endp
    rw [if_neg (by rw [nI_lit_le 16 (by omega) (by omega)]; omega), if_pos (kx_nI ha (by omega)), nI_clamp (by omega), e, if_neg (nI_ne0 (by omega) (by omega)), if_pos (kx_nI ha (by omega)), M_isPageOf_in mm t g1 g2, Option.bind_some, decide_eq_true g3, if_neg (by decide), if_pos (kx_nI ha (by omega)), nI_m16, nI_a1, nI_a1]
    exact ih (16 * p + 1) (i + 1) n (by omega) hc (fun q hq => hg q (List.mem_cons_of_mem _ hq)) (by omega) (by omega)
theorem M_linkTo_end (ht : t < 5) {L : List Nat} (hc : chn mm (8 + t) L) (hg : pgs mm t L) (hl : L.length < 16) : p_M_linkTo mm (nI t) 0 = some (nI (endp (8 + t) L)) := by
  unfold p_M_linkTo
  rw [nI_8a]
  exact M_linkTo_end_loop mm L (8 + t) 0 1000 (by omega) hc hg (by omega) (by omega)
theorem M_linkTo_at_loop {p : Nat} (hp1 : 1 ≤ p) (hp : p < 16) : ∀ (L : List Nat) (a i n : Nat), a < 256 → chn mm a L → pgs mm t L → p ∈ L → L.length < n → i + L.length < 16 → pl_M_linkTo_8 mm n (nI t) (nI p) (nI a) (nI i) = some (nI (lnk p a L)) := by
  intro L
  induction L with
  | nil => intro a i n ha hc hg hm; cases hm
  | cons q L ih =>
    intro a i n ha hc hg hm h1 h2
    obtain ⟨n, rfl⟩ : ∃ q, n = q + 1 := ⟨n - 1, by omega⟩
    obtain ⟨e, hc⟩ := hc
    obtain ⟨g1, g2, g3⟩ := hg q List.mem_cons_self
    simp only [List.length_cons] at h1 h2
    show p_M_linkTo_8 mm (pl_M_linkTo_8 mm n) (nI t) (nI p) (nI a) (nI i) = _
    unfold p_M_linkTo_8 p_M_linkTo_59 lnk
    rw [if_neg (by rw [nI_lit_le 16 (by omega) (by omega)]; omega), if_pos (kx_nI ha (by omega)), nI_clamp (by omega), e]
    by_cases hqp : q = p
    · rw [if_pos (by rw [hqp]), if_pos hqp]
    · rw [if_neg (fun z => hqp (nI_inj (by omega) (by omega) z)), if_neg hqp, if_pos (kx_nI ha (by omega)), M_isPageOf_in mm t g1 g2, Option.bind_some, decide_eq_true g3, if_neg (by decide), if_pos (kx_nI ha (by omega)), nI_m16, nI_a1, nI_a1]
      exact ih (16 * q + 1) (i + 1) n (by omega) hc (fun x hx => hg x (List.mem_cons_of_mem _ hx)) ((List.mem_cons.mp hm).resolve_left (fun z => hqp z.symm)) (by omega) (by omega)
theorem M_linkTo_at (ht : t < 5) {p : Nat} (hp1 : 1 ≤ p) (hp : p < 16) {L : List Nat} (hc : chn mm (8 + t) L) (hg : pgs mm t L) (hm : p ∈ L) (hl : L.length < 16) : p_M_linkTo mm (nI t) (nI p) = some (nI (lnk p (8 + t) L)) := by
  unfold p_M_linkTo
  rw [nI_8a]
  exact M_linkTo_at_loop mm hp1 hp L (8 + t) 0 1000 (by omega) hc hg hm (by omega) (by omega)
theorem R_leads_loop {p : Nat} (hp1 : 1 ≤ p) (hp : p < 16) : ∀ (L : List Nat) (a n : Nat), a < 256 → chn mm a L → (∀ q ∈ L, q < 16) → p ∈ L → L.length < n → pl_R_leads_5 mm n (nI p) (nI a) = some (nI (lnk p a L)) := by
  intro L
  induction L with
  | nil => intro a n ha hc hg hm; cases hm
  | cons q L ih =>
    intro a n ha hc hg hm h1
    obtain ⟨n, rfl⟩ : ∃ q, n = q + 1 := ⟨n - 1, by omega⟩
    obtain ⟨e, hc⟩ := hc
    have g2 := hg q List.mem_cons_self
    simp only [List.length_cons] at h1
    show p_R_leads_5 mm (pl_R_leads_5 mm n) (nI p) (nI a) = _
    unfold p_R_leads_5 lnk
    rw [if_pos (kx_nI ha (by omega)), nI_clamp (by omega), e]
    by_cases hqp : q = p
    · rw [if_pos (by rw [hqp]), if_pos hqp]
    · rw [if_neg (fun z => hqp (nI_inj (by omega) (by omega) z)), if_neg hqp, if_pos (kx_nI ha (by omega)), nI_16m, nI_a1]
      exact ih (16 * q + 1) n (by omega) hc (fun x hx => hg x (List.mem_cons_of_mem _ hx)) ((List.mem_cons.mp hm).resolve_left (fun z => hqp z.symm)) (by omega)
theorem R_leads (ht : t < 5) {p : Nat} (hp1 : 1 ≤ p) (hp : p < 16) {L : List Nat} (hc : chn mm (8 + t) L) (hg : ∀ q ∈ L, q < 16) (hm : p ∈ L) (hl : L.length < 16) : p_R_leads mm (nI t) (nI p) = some (nI (lnk p (8 + t) L)) := by
  unfold p_R_leads
  rw [nI_8a]
  exact R_leads_loop mm hp1 hp L (8 + t) 1000 (by omega) hc hg hm (by omega)
end CHAIN
