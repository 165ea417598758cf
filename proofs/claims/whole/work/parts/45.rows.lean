/-! CHANGES OF THE MEMORY: a row put, a row taken out, a table dropped; class and reference make the same -/
def zr (mm : Nat → Int32) (a c : Nat) : Nat → Int32 := fun j => if a ≤ j ∧ j < a + c then 0 else mm j
theorem zr_in (mm : Nat → Int32) {a c j : Nat} (h : a ≤ j ∧ j < a + c) : zr mm a c j = 0 := if_pos h
theorem zr_out (mm : Nat → Int32) {a c j : Nat} (h : ¬ (a ≤ j ∧ j < a + c)) : zr mm a c j = mm j := if_neg h
def msk (s : Nat) : Int32 := ((1 : Int32) <<< (nI s &&& 31)) ^^^ (-1)
def putR (mm : Nat → Int32) (w p s : Nat) (sg : Nat → Int32) : Nat → Int32 := fun j => if ra w p s ≤ j ∧ j < ra w p s + w then sg (j - ra w p s) else if j = 16 * p + 2 then mm (16 * p + 2) ||| ((1 : Int32) <<< (nI s &&& 31)) else mm j
def delR (mm : Nat → Int32) (w p s : Nat) : Nat → Int32 := fun j => if ra w p s ≤ j ∧ j < ra w p s + w then 0 else if j = 16 * p + 2 then mm (16 * p + 2) &&& msk s else mm j
def delM (mm : Nat → Int32) (w p s lk : Nat) : Nat → Int32 := if mm (16 * p + 2) &&& msk s = 0 then zr (upd (delR mm w p s) lk (mm (16 * p + 1))) (16 * p) 16 else delR mm w p s
def drpP (mm : Nat → Int32) (t i : Nat) : Nat → Int32 := fun j => if 16 ≤ j ∧ j < 16 * i ∧ mm (16 * (j / 16)) = nI (t + 1) then 0 else mm j
def drpM (mm : Nat → Int32) (t : Nat) : Nat → Int32 := fun j => if j = t ∨ j = 8 + t then 0 else drpP mm t 16 j
theorem rw_bd {w p s : Nat} (hw2 : 2 ≤ w) (hw6 : w ≤ 6) (h : s < 13 / w) : 16 * p + 3 ≤ ra w p s ∧ ra w p s + w ≤ 16 * p + 16 := by
  have := s_bd hw2 hw6 h
  unfold ra
  omega
section ROWS
variable (mm : Nat → Int32) {t w : Nat}
theorem M_clear (a c : Nat) (h : a + c ≤ 256) : p_M_clear mm (nI a) (nI c) = some (zr mm a c) := by
  have h := lp_for (fun n x m => pl_M_clear_2 n (nI a) (nI c) x m) (fun i m => upd m (0 + i) 0) (fun m => some m) (a + c)
    (fun n i m hi => by
      show p_M_clear_2 (pl_M_clear_2 n) (nI a) (nI c) (nI i) m = _
      unfold p_M_clear_2
      rw [nI_add, if_neg (nI_ge hi (by omega)), if_pos (kx_nI (by omega) (by omega)), nI_clamp (by omega), nI_a1, Nat.zero_add])
    (fun n m => by
      show p_M_clear_2 (pl_M_clear_2 n) (nI a) (nI c) (nI (a + c)) m = _
      unfold p_M_clear_2
      rw [nI_add, if_pos (Int32.le_refl _)]) c 1000 a mm rfl (by omega)
  rw [itr_fill 0 (fun _ => 0)] at h
  refine (show p_M_clear mm (nI a) (nI c) = _ from h).trans ?_
  congr 1
  funext j
  unfold zr
  rw [Nat.zero_add]
theorem M_clear16 {p : Nat} (hp : p < 16) : p_M_clear mm (nI (16 * p)) 16 = some (zr mm (16 * p) 16) := M_clear mm (16 * p) 16 (by omega)
theorem R_clearPage {p : Nat} (hp : p < 16) : p_R_clearPage mm (nI p) = some (zr mm (16 * p) 16) := by
  have h := lp_for (fun n x m => pl_R_clearPage_2 n (nI p) x m) (fun i m => upd m (16 * p + i) 0) (fun m => some m) 16
    (fun n i m hi => by
      show p_R_clearPage_2 (pl_R_clearPage_2 n) (nI p) (nI i) m = _
      unfold p_R_clearPage_2
      rw [if_neg (by rw [nI_lit_le 16 (by omega) (by omega)]; omega), nI_16m, nI_add, if_pos (kx_nI (by omega) (by omega)), nI_clamp (by omega), nI_a1])
    (fun n m => by
      show p_R_clearPage_2 (pl_R_clearPage_2 n) (nI p) (nI 16) m = _
      unfold p_R_clearPage_2
      rw [if_pos (by decide)]) 16 1000 0 mm rfl (by omega)
  rw [itr_fill (16 * p) (fun _ => 0)] at h
  exact h
theorem M_putRow (ht : t < 5) (hw : mm t = nI w) (hw2 : 2 ≤ w) (hw6 : w ≤ 6) {p s : Nat} (hp : p < 16) (hs : s < 13 / w) (sg : Nat → Int32) : p_M_putRow mm sg (nI t) (nI p) (nI s) = some (putR mm w p s sg) := by
  have hb := rw_bd (p := p) hw2 hw6 hs
  unfold p_M_putRow
  rw [M_rowAt_in mm ht hw, Option.bind_some, M_width_in mm ht, hw, Option.bind_some, if_pos (show kx_cp 0 (nI (ra w p s)) (nI w) 6 256 = true from kx_cpN (a := 0) (by omega) (by omega) (by omega) (by omega)), nI_m16, nI_a2, if_pos (kx_nI (by omega) (by omega)), if_pos (kx_nI (by omega) (by omega)), c0, nI_clamp (n := ra w p s) (by omega), nI_clamp (n := w) (by omega), nI_clamp (n := 16 * p + 2) (by omega), pk_cpy_out (j := 16 * p + 2) (by omega)]
  congr 1
  funext j
  unfold putR
  by_cases h1 : ra w p s ≤ j ∧ j < ra w p s + w
  · rw [pk_un (by omega), pk_cpy_in h1.1 h1.2, if_pos h1, Nat.zero_add]
  · rw [if_neg h1]
    by_cases h2 : j = 16 * p + 2
    · rw [h2, pk_us, if_pos rfl]
    · rw [pk_un h2, pk_cpy_out (by omega), if_neg h2]
theorem R_lay (ht : t < 5) (hw : mm t = nI w) (hw2 : 2 ≤ w) (hw6 : w ≤ 6) {p s : Nat} (hp1 : 1 ≤ p) (hp : p < 16) (hs : s < 13 / w) (sg tb de : Nat → Int32) : p_R_lay mm sg tb de (nI t) (nI p) (nI s) = (p_R_change tb de (nI t)).bind (fun r => some (putR mm w p s sg, r)) := by
  have hb := rw_bd (p := p) hw2 hw6 hs
  have H := lp_inv (κ := Unit) (fun _ n x m => pl_R_lay_29 sg tb n (nI t) (nI p) (nI s) x m de) (fun i m => m = fun j => if ra w p s ≤ j ∧ j < ra w p s + i then sg (j - ra w p s) else if j = 16 * p + 2 then mm (16 * p + 2) ||| ((1 : Int32) <<< (nI s &&& 31)) else mm j) (fun _ => False) (fun _ m => (p_R_change tb de (nI t)).bind (fun r => some (m, r))) w
    (fun i m hi hI => by
      have hm : m t = nI w := by
        rw [hI]
        show (if _ then _ else if _ then _ else _) = _
        rw [if_neg (by omega), if_neg (by omega), hw]
      refine Or.inl ⟨upd m (ra w p s + i) (sg i), ?_, fun _ n => ?_⟩
      · funext j
        by_cases h1 : j = ra w p s + i
        · rw [h1, pk_us, if_pos (by omega)]
          congr 1
          omega
        · rw [pk_un h1, hI]
          by_cases h2 : ra w p s ≤ j ∧ j < ra w p s + i
          · show (if _ then _ else _) = _
            rw [if_pos h2, if_pos (by omega)]
          · show (if _ then _ else _) = _
            rw [if_neg h2, if_neg (show ¬ (ra w p s ≤ j ∧ j < ra w p s + (i + 1)) by omega)]
      · show p_R_lay_29 sg tb (pl_R_lay_29 sg tb n) (nI t) (nI p) (nI s) (nI i) m de = _
        unfold p_R_lay_29
        rw [if_pos (kx_nI (by omega) (by omega)), nI_clamp (n := t) (by omega), hm, if_neg (nI_ge hi (by omega)), R_wordOf_in m ht hm, Option.bind_some, if_pos (kx_nI (k := i) (by omega) (by omega)), nI_add, if_pos (kx_nI (by omega) (by omega)), nI_clamp (n := ra w p s + i) (by omega), nI_clamp (n := i) (by omega), nI_a1])
    (fun m hI _ n => by
      have hm : m t = nI w := by
        rw [hI]
        show (if _ then _ else if _ then _ else _) = _
        rw [if_neg (by omega), if_neg (by omega), hw]
      show p_R_lay_29 sg tb (pl_R_lay_29 sg tb n) (nI t) (nI p) (nI s) (nI w) m de = _
      unfold p_R_lay_29
      rw [if_pos (kx_nI (by omega) (by omega)), nI_clamp (n := t) (by omega), hm, if_pos (Int32.le_refl _)])
    1000 0 (upd mm (16 * p + 2) (mm (16 * p + 2) ||| ((1 : Int32) <<< (nI s &&& 31)))) (Nat.zero_le _) (by omega) (by
      funext j
      rw [if_neg (by omega)]
      by_cases h2 : j = 16 * p + 2
      · rw [h2, pk_us, if_pos rfl]
      · rw [pk_un h2, if_neg h2])
  rcases H with ⟨m, h1, h2⟩ | ⟨r, h1, -⟩
  · unfold p_R_lay
    rw [nI_16m, nI_a2, if_pos (kx_nI (by omega) (by omega)), if_pos (kx_nI (by omega) (by omega)), nI_clamp (by omega)]
    refine (h2 ()).trans ?_
    rw [h1]
    rfl
  · exact h1.elim
/-- taking a row out, of the class -/
theorem delR_keep {p s j : Nat} (hw2 : 2 ≤ w) (hw6 : w ≤ 6) (hs : s < 13 / w) (h : j < 16 * p + 2 ∨ 16 * p + 16 ≤ j) : delR mm w p s j = mm j := by
  have hb := rw_bd (p := p) hw2 hw6 hs
  unfold delR
  rw [if_neg (by omega), if_neg (by omega)]
theorem delR_2 {p s : Nat} (hw2 : 2 ≤ w) (hw6 : w ≤ 6) (hs : s < 13 / w) : delR mm w p s (16 * p + 2) = mm (16 * p + 2) &&& msk s := by
  have hb := rw_bd (p := p) hw2 hw6 hs
  unfold delR
  rw [if_neg (by omega), if_pos rfl]
theorem chn_keep {mm m : Nat → Int32} : ∀ (L : List Nat) (a : Nat), m a = mm a → (∀ q ∈ L, m (16 * q + 1) = mm (16 * q + 1)) → chn mm a L → chn m a L := by
  intro L
  induction L with
  | nil => intro a h _ hc; exact h.trans hc
  | cons q L ih =>
    intro a h hq hc
    exact ⟨h.trans hc.1, ih (16 * q + 1) (hq q List.mem_cons_self) (fun x hx => hq x (List.mem_cons_of_mem _ hx)) hc.2⟩
theorem M_removeRow (ht : t < 5) (hw : mm t = nI w) (hw2 : 2 ≤ w) (hw6 : w ≤ 6) {p s : Nat} (hp1 : 1 ≤ p) (hp : p < 16) (hs : s < 13 / w) {L : List Nat} (hc : chn mm (8 + t) L) (hg : pgs mm t L) (hm : p ∈ L) (hl : L.length < 16) (hlk : lnk p (8 + t) L < 256) : p_M_removeRow mm (nI t) (nI (ra w p s)) = some (delM mm w p s (lnk p (8 + t) L)) := by
  have hb := rw_bd (p := p) hw2 hw6 hs
  have hd := d7 hw2
  have e16 : nI (ra w p s) / 16 = nI p := by
    rw [show (16 : Int32) = nI 16 from rfl, pk_div (by omega) (by omega) (by omega)]
    congr 1
    omega
  have H := lp_inv (κ := Unit) (fun _ n x m => pl_M_removeRow_14 n (nI t) (nI (ra w p s)) (nI p) (nI (16 * p)) x m) (fun i m => m = if s < i then upd mm (16 * p + 2) (mm (16 * p + 2) &&& msk s) else mm) (fun _ => False) (fun _ _ => some (delM mm w p s (lnk p (8 + t) L))) (13 / w)
    (fun i m hi hI => by
      have hmt : m t = nI w := by
        rw [hI]
        by_cases q : s < i
        · rw [if_pos q, pk_un (by omega), hw]
        · rw [if_neg q, hw]
      by_cases e : i = s
      · subst e
        have hI' : m = mm := by rw [hI, if_neg (by omega)]
        subst hI'
        refine Or.inl ⟨upd m (16 * p + 2) (m (16 * p + 2) &&& msk i), by rw [if_pos (by omega)], fun _ n => ?_⟩
        show p_M_removeRow_14 (pl_M_removeRow_14 n) (nI t) (nI (ra w p i)) (nI p) (nI (16 * p)) (nI i) m = _
        unfold p_M_removeRow_14 p_M_removeRow_54
        rw [M_slots_in m ht hmt hw2 hw6, Option.bind_some, if_neg (nI_ge hi (by omega)), M_rowAt_in m ht hmt, Option.bind_some, if_pos rfl, nI_a2, if_pos (kx_nI (by omega) (by omega)), if_pos (kx_nI (by omega) (by omega)), nI_clamp (n := 16 * p + 2) (by omega), nI_a1]
        rfl
      · refine Or.inl ⟨m, ?_, fun _ n => ?_⟩
        · rw [hI]
          by_cases q : s < i
          · rw [if_pos q, if_pos (by omega)]
          · rw [if_neg q, if_neg (by omega)]
        · have hbi := rw_bd (p := p) hw2 hw6 hi
          have hne : ra w p i ≠ ra w p s := by
            intro z
            have z2 : i * w = s * w := by unfold ra at z; omega
            exact e (Nat.eq_of_mul_eq_mul_right (by omega) z2)
          show p_M_removeRow_14 (pl_M_removeRow_14 n) (nI t) (nI (ra w p s)) (nI p) (nI (16 * p)) (nI i) m = _
          unfold p_M_removeRow_14 p_M_removeRow_54
          rw [M_slots_in m ht hmt hw2 hw6, Option.bind_some, if_neg (nI_ge hi (by omega)), M_rowAt_in m ht hmt, Option.bind_some, if_neg (fun z => hne (nI_inj (by omega) (by omega) z)), nI_a1])
    (fun m hI _ n => by
      have hI' : m = upd mm (16 * p + 2) (mm (16 * p + 2) &&& msk s) := by rw [hI, if_pos hs]
      have hmt : m t = nI w := by rw [hI', pk_un (by omega), hw]
      have hz : zr m (ra w p s) w = delR mm w p s := by
        funext j
        unfold zr delR
        by_cases h1 : ra w p s ≤ j ∧ j < ra w p s + w
        · rw [if_pos h1, if_pos h1]
        · rw [if_neg h1, if_neg h1, hI']
          by_cases h2 : j = 16 * p + 2
          · rw [h2, pk_us, if_pos rfl]
          · rw [pk_un h2, if_neg h2]
      have hcd : chn (delR mm w p s) (8 + t) L := chn_keep L (8 + t) (delR_keep mm hw2 hw6 hs (by omega)) (fun q hq => delR_keep mm hw2 hw6 hs (by have := hg q hq; omega)) hc
      have hgd : pgs (delR mm w p s) t L := fun q hq => ⟨(hg q hq).1, (hg q hq).2.1, by rw [delR_keep mm hw2 hw6 hs (by have := hg q hq; omega)]; exact (hg q hq).2.2⟩
      show p_M_removeRow_14 (pl_M_removeRow_14 n) (nI t) (nI (ra w p s)) (nI p) (nI (16 * p)) (nI (13 / w)) m = _
      unfold p_M_removeRow_14 p_M_removeRow_110
      rw [M_slots_in m ht hmt hw2 hw6, Option.bind_some, if_pos (Int32.le_refl _), M_width_in m ht, hmt, Option.bind_some, M_clear m (ra w p s) w (by omega), Option.bind_some, nI_a2, if_pos (kx_nI (by omega) (by omega)), nI_clamp (n := 16 * p + 2) (by omega), hz, delR_2 mm hw2 hw6 hs]
      unfold delM
      by_cases h0 : mm (16 * p + 2) &&& msk s = 0
      · rw [if_pos h0, if_pos h0, M_linkTo_at (delR mm w p s) ht hp1 hp hcd hgd hm hl, Option.bind_some, nI_a1, if_pos (kx_nI (by omega) (by omega)), if_pos (kx_nI hlk (by omega)), nI_clamp (n := 16 * p + 1) (by omega), nI_clamp (n := lnk p (8 + t) L) (by omega), delR_keep mm hw2 hw6 hs (j := 16 * p + 1) (by omega), M_clear16 _ hp, Option.bind_some]
      · rw [if_neg h0, if_neg h0])
    1000 0 mm (Nat.zero_le _) (by omega) (by rw [if_neg (by omega)])
  rcases H with ⟨m, h1, h2⟩ | ⟨r, h1, -⟩
  · unfold p_M_removeRow
    rw [e16]
    show pl_M_removeRow_14 1000 (nI t) (nI (ra w p s)) (nI p) (nI p * 16) 0 mm = _
    rw [nI_m16]
    exact h2 ()
  · exact h1.elim
/-- and of the reference -/
theorem R_delete_loop (ht : t < 5) (hw : mm t = nI w) (hw2 : 2 ≤ w) (hw6 : w ≤ 6) {p s : Nat} (hp1 : 1 ≤ p) (hp : p < 16) (hs : s < 13 / w) {L : List Nat} (hc : chn mm (8 + t) L) (hg : pgs mm t L) (hm : p ∈ L) (hl : L.length < 16) (hlk : lnk p (8 + t) L < 256) (of op : Int32) (tb de : Nat → Int32) : pl_R_deleteKey_53 of op tb 1000 (nI t) (nI (ra w p s)) (nI p) 0 (nI p) (nI s) mm de = (p_R_change tb de (nI t)).bind (fun r => some (0, nI p, nI s, delM mm w p s (lnk p (8 + t) L), r)) := by
  have hb := rw_bd (p := p) hw2 hw6 hs
  have H := lp_inv (κ := Unit) (fun _ n x m => pl_R_deleteKey_53 of op tb n (nI t) (nI (ra w p s)) (nI p) x (nI p) (nI s) m de) (fun i m => m = zr mm (ra w p s) i) (fun _ => False) (fun _ _ => (p_R_change tb de (nI t)).bind (fun r => some (0, nI p, nI s, delM mm w p s (lnk p (8 + t) L), r))) w
    (fun i m hi hI => by
      have hmt : m t = nI w := by rw [hI, zr_out mm (by omega), hw]
      refine Or.inl ⟨upd m (ra w p s + i) 0, ?_, fun _ n => ?_⟩
      · funext j
        rw [hI]
        by_cases h1 : j = ra w p s + i
        · rw [h1, pk_us, zr_in mm (by omega)]
        · rw [pk_un h1]
          by_cases h2 : ra w p s ≤ j ∧ j < ra w p s + i
          · rw [zr_in mm h2, zr_in mm (by omega)]
          · rw [zr_out mm h2, zr_out mm (by omega)]
      · show p_R_deleteKey_53 of op tb (pl_R_deleteKey_53 of op tb n) (nI t) (nI (ra w p s)) (nI p) (nI i) (nI p) (nI s) m de = _
        unfold p_R_deleteKey_53
        rw [if_pos (kx_nI (by omega) (by omega)), nI_clamp (n := t) (by omega), hmt, if_neg (nI_ge hi (by omega)), nI_add, if_pos (kx_nI (by omega) (by omega)), nI_clamp (n := ra w p s + i) (by omega), nI_a1])
    (fun m hI _ n => by
      have hmt : m t = nI w := by rw [hI, zr_out mm (by omega), hw]
      have hm2 : m (16 * p + 2) = mm (16 * p + 2) := by rw [hI, zr_out mm (by omega)]
      have hz : upd m (16 * p + 2) (mm (16 * p + 2) &&& msk s) = delR mm w p s := by
        funext j
        unfold delR
        by_cases h2 : j = 16 * p + 2
        · rw [h2, pk_us, if_neg (by omega), if_pos rfl]
        · rw [pk_un h2, if_neg h2, hI]
          by_cases h1 : ra w p s ≤ j ∧ j < ra w p s + w
          · rw [if_pos h1, zr_in mm h1]
          · rw [if_neg h1, zr_out mm h1]
      have hcd : chn (delR mm w p s) (8 + t) L := chn_keep L (8 + t) (delR_keep mm hw2 hw6 hs (by omega)) (fun q hq => delR_keep mm hw2 hw6 hs (by have := hg q hq; omega)) hc
      show p_R_deleteKey_53 of op tb (pl_R_deleteKey_53 of op tb n) (nI t) (nI (ra w p s)) (nI p) (nI w) (nI p) (nI s) m de = _
      unfold p_R_deleteKey_53 p_R_deleteKey_158
      rw [if_pos (kx_nI (by omega) (by omega)), nI_clamp (n := t) (by omega), hmt, if_pos (Int32.le_refl _), nI_16m, nI_a2, if_pos (kx_nI (k := 16 * p + 2) (by omega) (by omega)), if_pos (kx_nI (k := 16 * p + 2) (by omega) (by omega)), if_pos (kx_nI (k := 16 * p + 2) (by omega) (by omega)), nI_clamp (n := 16 * p + 2) (by omega), hm2]
      rw [show ((1 : Int32) <<< (nI s &&& 31)) ^^^ (-1) = msk s from rfl, hz, delR_2 mm hw2 hw6 hs]
      unfold delM
      by_cases h0 : mm (16 * p + 2) &&& msk s = 0
      · rw [if_pos h0, if_pos h0, R_leads (delR mm w p s) ht hp1 hp hcd (fun q hq => (hg q hq).2.1) hm hl, Option.bind_some, nI_a1, if_pos (kx_nI (by omega) (by omega)), if_pos (kx_nI hlk (by omega)), nI_clamp (n := 16 * p + 1) (by omega), nI_clamp (n := lnk p (8 + t) L) (by omega), delR_keep mm hw2 hw6 hs (j := 16 * p + 1) (by omega), R_clearPage _ hp, Option.bind_some]
      · rw [if_neg h0, if_neg h0])
    1000 0 mm (Nat.zero_le _) (by omega) (by
      funext j
      rw [zr_out mm (by omega)])
  rcases H with ⟨m, h1, h2⟩ | ⟨r, h1, -⟩
  · exact h2 ()
  · exact h1.elim
/-- a table dropped -/
theorem drpP_step (t : Nat) {i : Nat} (hi1 : 1 ≤ i) : (mm (16 * i) = nI (t + 1) → zr (drpP mm t i) (16 * i) 16 = drpP mm t (i + 1)) ∧ (mm (16 * i) ≠ nI (t + 1) → drpP mm t i = drpP mm t (i + 1)) := by
  constructor
  · intro h
    funext j
    by_cases h1 : 16 * i ≤ j ∧ j < 16 * i + 16
    · rw [zr_in _ h1]
      unfold drpP
      rw [if_pos ⟨by omega, by omega, by rw [show j / 16 = i by omega]; exact h⟩]
    · rw [zr_out _ h1]
      unfold drpP
      by_cases h2 : 16 ≤ j ∧ j < 16 * i ∧ mm (16 * (j / 16)) = nI (t + 1)
      · rw [if_pos h2, if_pos ⟨h2.1, by omega, h2.2.2⟩]
      · rw [if_neg h2, if_neg (fun z => h2 ⟨z.1, by omega, z.2.2⟩)]
  · intro h
    funext j
    unfold drpP
    by_cases h2 : 16 ≤ j ∧ j < 16 * i ∧ mm (16 * (j / 16)) = nI (t + 1)
    · rw [if_pos h2, if_pos ⟨h2.1, by omega, h2.2.2⟩]
    · rw [if_neg h2, if_neg (fun z => ?_)]
      by_cases e : j / 16 = i
      · exact h (by rw [← e]; exact z.2.2)
      · exact h2 ⟨z.1, by omega, z.2.2⟩
theorem drpP_0 (t i : Nat) {j : Nat} (h : 16 * i ≤ j ∨ j < 16) : drpP mm t i j = mm j := by
  unfold drpP
  rw [if_neg (by omega)]
theorem M_removeTable (ht : t < 5) : p_M_removeTable mm (nI t) = some (drpM mm t) := by
  have H := lp_inv (κ := Unit) (fun _ n x m => pl_M_removeTable_2 n (nI t) x m) (fun i m => 1 ≤ i ∧ m = drpP mm t i) (fun _ => False) (fun _ m => some (upd (upd m (8 + t) 0) t 0)) 16
    (fun i m hi hI => by
      obtain ⟨hi1, hI⟩ := hI
      have hmi : m (16 * i) = mm (16 * i) := by rw [hI, drpP_0 mm t i (by omega)]
      by_cases h : mm (16 * i) = nI (t + 1)
      · refine Or.inl ⟨drpP mm t (i + 1), ⟨by omega, rfl⟩, fun _ n => ?_⟩
        show p_M_removeTable_2 (pl_M_removeTable_2 n) (nI t) (nI i) m = _
        unfold p_M_removeTable_2 p_M_removeTable_27
        rw [if_neg (by rw [nI_lit_le 16 (by omega) (by omega)]; omega), M_isPageOf_in m t hi1 hi, Option.bind_some, hmi, decide_eq_true h, if_neg (by decide), nI_m16, M_clear16 m hi, Option.bind_some, hI, (drpP_step mm t hi1).1 h, nI_a1]
      · refine Or.inl ⟨drpP mm t (i + 1), ⟨by omega, rfl⟩, fun _ n => ?_⟩
        show p_M_removeTable_2 (pl_M_removeTable_2 n) (nI t) (nI i) m = _
        unfold p_M_removeTable_2 p_M_removeTable_27
        rw [if_neg (by rw [nI_lit_le 16 (by omega) (by omega)]; omega), M_isPageOf_in m t hi1 hi, Option.bind_some, hmi, decide_eq_false h, if_pos (by decide), hI, (drpP_step mm t hi1).2 h, nI_a1])
    (fun m hI _ n => by
      show p_M_removeTable_2 (pl_M_removeTable_2 n) (nI t) (nI 16) m = _
      unfold p_M_removeTable_2
      rw [if_pos (by decide), nI_8a, if_pos (kx_nI (by omega) (by omega)), if_pos (kx_nI (by omega) (by omega)), nI_clamp (n := 8 + t) (by omega), nI_clamp (n := t) (by omega)])
    1000 1 mm (by omega) (by omega) ⟨by omega, by
      funext j
      by_cases q : j < 16
      · rw [drpP_0 mm t 1 (Or.inr q)]
      · rw [drpP_0 mm t 1 (by omega)]⟩
  rcases H with ⟨m, h1, h2⟩ | ⟨r, h1, -⟩
  · refine (h2 ()).trans ?_
    rw [h1.2]
    congr 1
    funext j
    unfold drpM
    by_cases e1 : j = t
    · rw [e1, pk_us, if_pos (Or.inl rfl)]
    · rw [pk_un e1]
      by_cases e2 : j = 8 + t
      · rw [e2, pk_us, if_pos (Or.inr rfl)]
      · rw [pk_un e2, if_neg (by omega)]
  · exact h1.elim
theorem R_drop_loop (ht : t < 5) (of op : Int32) (tb de : Nat → Int32) : pl_R_dropTable_32 of op tb 1000 (nI t) 1 mm de = (p_R_change tb de (nI t)).bind (fun r => some (0, drpM mm t, r)) := by
  have H := lp_inv (κ := Unit) (fun _ n x m => pl_R_dropTable_32 of op tb n (nI t) x m de) (fun i m => 1 ≤ i ∧ m = drpP mm t i) (fun _ => False) (fun _ m => (p_R_change tb de (nI t)).bind (fun r => some (0, upd (upd m t 0) (8 + t) 0, r))) 16
    (fun i m hi hI => by
      obtain ⟨hi1, hI⟩ := hI
      have hmi : m (16 * i) = mm (16 * i) := by rw [hI, drpP_0 mm t i (by omega)]
      by_cases h : mm (16 * i) = nI (t + 1)
      · refine Or.inl ⟨drpP mm t (i + 1), ⟨by omega, rfl⟩, fun _ n => ?_⟩
        show p_R_dropTable_32 of op tb (pl_R_dropTable_32 of op tb n) (nI t) (nI i) m de = _
        unfold p_R_dropTable_32 p_R_dropTable_58
        rw [if_neg (by rw [nI_lit_le 16 (by omega) (by omega)]; omega), nI_16m, if_pos (kx_nI (by omega) (by omega)), nI_clamp (n := 16 * i) (by omega), hmi, nI_a1, if_pos h, R_clearPage m hi, Option.bind_some, hI, (drpP_step mm t hi1).1 h, nI_a1]
      · refine Or.inl ⟨drpP mm t (i + 1), ⟨by omega, rfl⟩, fun _ n => ?_⟩
        show p_R_dropTable_32 of op tb (pl_R_dropTable_32 of op tb n) (nI t) (nI i) m de = _
        unfold p_R_dropTable_32 p_R_dropTable_58
        rw [if_neg (by rw [nI_lit_le 16 (by omega) (by omega)]; omega), nI_16m, if_pos (kx_nI (by omega) (by omega)), nI_clamp (n := 16 * i) (by omega), hmi, nI_a1, if_neg h, hI, (drpP_step mm t hi1).2 h, nI_a1])
    (fun m hI _ n => by
      show p_R_dropTable_32 of op tb (pl_R_dropTable_32 of op tb n) (nI t) (nI 16) m de = _
      unfold p_R_dropTable_32
      rw [if_pos (by decide), nI_8a, if_pos (kx_nI (by omega) (by omega)), if_pos (kx_nI (by omega) (by omega)), nI_clamp (n := 8 + t) (by omega), nI_clamp (n := t) (by omega)])
    1000 1 mm (by omega) (by omega) ⟨by omega, by
      funext j
      by_cases q : j < 16
      · rw [drpP_0 mm t 1 (Or.inr q)]
      · rw [drpP_0 mm t 1 (by omega)]⟩
  rcases H with ⟨m, h1, h2⟩ | ⟨r, h1, -⟩
  · refine (h2 ()).trans ?_
    rw [h1.2]
    have e : upd (upd (drpP mm t 16) t 0) (8 + t) 0 = drpM mm t := by
      funext j
      unfold drpM
      by_cases e1 : j = 8 + t
      · rw [e1, pk_us, if_pos (Or.inr rfl)]
      · rw [pk_un e1]
        by_cases e2 : j = t
        · rw [e2, pk_us, if_pos (Or.inl rfl)]
        · rw [pk_un e2, if_neg (by omega)]
    rw [e]
  · exact h1.elim
end ROWS
