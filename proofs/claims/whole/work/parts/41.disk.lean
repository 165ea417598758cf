/-! THE DISK: one write, of the class and of the reference -/
def dcr (x : Int32) : Int32 := if x ≤ 0 then x else x - 1
theorem c16 : (16 : Int32).toNatClampNeg = 16 := by decide
theorem c0 : (0 : Int32).toNatClampNeg = 0 := by decide
theorem c256 : (256 : Int32).toNatClampNeg = 256 := by decide
theorem kx_cp16 {a b n0 n1 : Nat} (h1 : a + 16 ≤ n0) (h2 : b + 16 ≤ n1) (h3 : n0 < 2 ^ 31) (h4 : n1 < 2 ^ 31) : kx_cp (nI a) (nI b) 16 n0 n1 = true := kx_cpN (n := 16) h1 h2 h3 h4
/-- what a write makes of crash, number and disk, and whether it is done -/
def put (wl wn : Int32) (dk : Nat → Int32) (b : Nat) (f : Nat → Int32) : Bool × Int32 × Int32 × (Nat → Int32) := if wl = 0 then (false, -1, wn, dk) else (true, dcr wl, wn + 1, blk dk b f)
def b2i (b : Bool) : Int32 := if b then 1 else 0
def nb2i (b : Bool) : Int32 := if b then 0 else 1
theorem D_writeE_spec (pw wl wn : Int32) (dk : Nat → Int32) {nx : Nat} (ex : Nat → Int32) {b fb : Nat} (hb : b < 33) (hf : 16 * fb + 16 ≤ nx) (hn : nx < 2 ^ 31) : p_D_writeE pw wl wn dk nx ex (nI b) (nI fb) = some (b2i (put wl wn dk b (fun j => ex (16 * fb + j))).1, (if (put wl wn dk b (fun j => ex (16 * fb + j))).1 then pw else 0), (put wl wn dk b (fun j => ex (16 * fb + j))).2) := by
  have key : ∀ w, p_D_writeE_36 nx ex (nI b) (nI fb) pw w wn dk = some (1, pw, w, wn + 1, blk dk b (fun j => ex (16 * fb + j))) := by
    intro w
    unfold p_D_writeE_36
    rw [nI_m16, nI_m16, if_pos (kx_cp16 (by omega) (by omega) hn (by omega)), nI_clamp (by omega), nI_clamp (by omega), c16, cpy_blk]
  unfold p_D_writeE put
  by_cases h : wl = 0
  · rw [if_pos h, if_pos h]
    rfl
  · rw [if_neg h, if_neg h, key, key]
    unfold dcr
    by_cases h2 : wl ≤ 0
    · rw [if_pos h2, if_pos h2]
      rfl
    · rw [if_neg h2, if_neg h2]
      rfl
theorem D_writeD_spec (pw wl wn : Int32) (dk : Nat → Int32) {b fb : Nat} (hb : b < 33) (hf : fb < 33) : p_D_writeD pw wl wn dk (nI b) (nI fb) = some (b2i (put wl wn dk b (fun j => dk (16 * fb + j))).1, (if (put wl wn dk b (fun j => dk (16 * fb + j))).1 then pw else 0), (put wl wn dk b (fun j => dk (16 * fb + j))).2) := by
  have key : ∀ w, p_D_writeD_36 (nI b) (nI fb) pw w wn dk = some (1, pw, w, wn + 1, blk dk b (fun j => dk (16 * fb + j))) := by
    intro w
    unfold p_D_writeD_36
    rw [nI_m16, nI_m16, if_pos (kx_cp16 (by omega) (by omega) (by omega) (by omega)), nI_clamp (by omega), nI_clamp (by omega), c16, cpy_blk]
  unfold p_D_writeD put
  by_cases h : wl = 0
  · rw [if_pos h, if_pos h]
    rfl
  · rw [if_neg h, if_neg h, key, key]
    unfold dcr
    by_cases h2 : wl ≤ 0
    · rw [if_pos h2, if_pos h2]
      rfl
    · rw [if_neg h2, if_neg h2]
      rfl
theorem b2i_and (b : Bool) : b2i b &&& 1 = b2i b := by cases b <;> decide
theorem D_copy_spec (pw wl wn : Int32) (dk : Nat → Int32) {b fb : Nat} (hb : b < 33) (hf : fb < 33) : p_D_copyBlock pw wl wn dk (nI b) (nI fb) = some (b2i (put wl wn dk b (fun j => dk (16 * fb + j))).1, (if (put wl wn dk b (fun j => dk (16 * fb + j))).1 then pw else 0), (put wl wn dk b (fun j => dk (16 * fb + j))).2) := by
  unfold p_D_copyBlock
  rw [D_writeD_spec pw wl wn dk hb hf]
  show (if b2i _ &&& 1 = b2i _ then _ else _) = _
  rw [if_pos (b2i_and _)]
theorem M_save_spec (pw wl wn : Int32) (dk mm : Nat → Int32) {b : Nat} (hb : b < 16) : p_M_save mm pw wl wn dk (nI b) = some (b2i (put wl wn dk b (fun j => mm (16 * b + j))).1, (if (put wl wn dk b (fun j => mm (16 * b + j))).1 then pw else 0), (put wl wn dk b (fun j => mm (16 * b + j))).2) := by
  unfold p_M_save
  rw [D_writeE_spec pw wl wn dk mm (by omega) (by omega) (by omega)]
  show (if b2i _ &&& 1 = b2i _ then _ else _) = _
  rw [if_pos (b2i_and _)]
/-- the reference's write -/
theorem R_put_loop (wk : Nat → Int32) {b : Nat} (hb : b < 33) (of cr wn : Int32) (dk : Nat → Int32) : pl_R_put_45 wk 1000 (nI b) 0 of cr wn dk = some (1, of, cr, wn + 1, blk dk b wk) := by
  have h := lp_for (fun n x d => pl_R_put_45 wk n (nI b) x of cr wn d) (fun i d => upd d (16 * b + i) (wk i)) (fun d => some (1, of, cr, wn + 1, d)) 16
    (fun n i d hi => by
      show p_R_put_45 wk (pl_R_put_45 wk n) (nI b) (nI i) of cr wn d = _
      unfold p_R_put_45
      rw [if_neg (by rw [nI_lit_le 16 (by omega) (by omega)]; omega), if_pos (kx_nI hi (by omega)), nI_16m, nI_add, if_pos (kx_nI (by omega) (by omega)), nI_clamp (by omega), nI_clamp (by omega), nI_a1])
    (fun n d => by
      show p_R_put_45 wk (pl_R_put_45 wk n) (nI b) (nI 16) of cr wn d = _
      unfold p_R_put_45
      rw [if_pos (by decide)]) 16 1000 0 dk (by omega) (by omega)
  rw [itr_fill (16 * b) wk] at h
  refine h.trans ?_
  congr 5
theorem R_put_spec (of cr wn : Int32) (dk wk : Nat → Int32) {b : Nat} (hb : b < 33) : p_R_put of cr wn dk wk (nI b) = some (b2i (put cr wn dk b wk).1, (if (put cr wn dk b wk).1 then of else 1), (put cr wn dk b wk).2) := by
  unfold p_R_put put p_R_put_40
  by_cases h : cr = 0
  · rw [if_pos h, if_pos h]
    rfl
  · rw [if_neg h, if_neg h, R_put_loop wk hb, R_put_loop wk hb]
    unfold dcr
    by_cases h2 : cr ≤ 0
    · rw [if_pos h2, if_pos h2]
      rfl
    · rw [if_neg h2, if_neg h2]
      rfl
/-- what stands in the work row behind the copying -/
def wkf (wk f : Nat → Int32) : Nat → Int32 := fun j => if j < 16 then f j else wk j
theorem put_congr (wl wn : Int32) (dk : Nat → Int32) (b : Nat) {f g : Nat → Int32} (h : ∀ j, j < 16 → f j = g j) : put wl wn dk b f = put wl wn dk b g := by
  unfold put
  rw [blk_congr dk b h]
theorem put_wkf (wl wn : Int32) (dk : Nat → Int32) (b : Nat) (wk f : Nat → Int32) : put wl wn dk b (wkf wk f) = put wl wn dk b f := put_congr wl wn dk b (fun j h => by unfold wkf; rw [if_pos h])
theorem itr_wkf (wk f : Nat → Int32) : itr (fun i s => upd s (0 + i) (f i)) 0 16 wk = wkf wk f := by
  rw [itr_fill 0 f]
  funext j
  unfold wkf
  by_cases q : j < 16
  · rw [if_pos q, if_pos (by omega), Nat.sub_zero]
  · rw [if_neg q, if_neg (by omega)]
theorem R_putFromDisk_spec (of cr wn : Int32) (dk wk : Nat → Int32) {b fb : Nat} (hb : b < 33) (hf : fb < 33) : ∃ wk2, p_R_putFromDisk of cr wn dk wk (nI b) (nI fb) = some (b2i (put cr wn dk b (fun j => dk (16 * fb + j))).1, (if (put cr wn dk b (fun j => dk (16 * fb + j))).1 then of else 1), (put cr wn dk b (fun j => dk (16 * fb + j))).2.1, (put cr wn dk b (fun j => dk (16 * fb + j))).2.2.1, (put cr wn dk b (fun j => dk (16 * fb + j))).2.2.2, wk2) := by
  have h := lp_for (fun n x w => pl_R_putFromDisk_2 n (nI b) (nI fb) x of cr wn dk w) (fun i w => upd w (0 + i) (dk (16 * fb + i))) (fun w => (p_R_put of cr wn dk w (nI b)).bind (fun r_2 => if r_2.1 &&& 1 = r_2.1 then (some (r_2.1, r_2.2.1, r_2.2.2.1, r_2.2.2.2.1, r_2.2.2.2.2, w)) else none)) 16
    (fun n i d hi => by
      show p_R_putFromDisk_2 (pl_R_putFromDisk_2 n) (nI b) (nI fb) (nI i) of cr wn dk d = _
      unfold p_R_putFromDisk_2
      rw [if_neg (by rw [nI_lit_le 16 (by omega) (by omega)]; omega), nI_16m, nI_add, if_pos (kx_nI (by omega) (by omega)), if_pos (kx_nI hi (by omega)), nI_clamp (by omega), nI_clamp (by omega), nI_a1, Nat.zero_add])
    (fun n d => by
      show p_R_putFromDisk_2 (pl_R_putFromDisk_2 n) (nI b) (nI fb) (nI 16) of cr wn dk d = _
      unfold p_R_putFromDisk_2
      rw [if_pos (by decide)]) 16 1000 0 wk (by omega) (by omega)
  rw [itr_wkf wk (fun i => dk (16 * fb + i)), R_put_spec of cr wn dk _ hb, put_wkf] at h
  refine ⟨wkf wk (fun i => dk (16 * fb + i)), h.trans ?_⟩
  show (if b2i _ &&& 1 = b2i _ then _ else _) = _
  rw [if_pos (b2i_and _)]
theorem R_putFromMemory_spec (of cr wn : Int32) (dk mm wk : Nat → Int32) {b : Nat} (hb : b < 16) : ∃ wk2, p_R_putFromMemory of cr wn dk mm wk (nI b) = some (b2i (put cr wn dk b (fun j => mm (16 * b + j))).1, (if (put cr wn dk b (fun j => mm (16 * b + j))).1 then of else 1), (put cr wn dk b (fun j => mm (16 * b + j))).2.1, (put cr wn dk b (fun j => mm (16 * b + j))).2.2.1, (put cr wn dk b (fun j => mm (16 * b + j))).2.2.2, wk2) := by
  have h := lp_for (fun n x w => pl_R_putFromMemory_2 mm n (nI b) x of cr wn dk w) (fun i w => upd w (0 + i) (mm (16 * b + i))) (fun w => (p_R_put of cr wn dk w (nI b)).bind (fun r_2 => if r_2.1 &&& 1 = r_2.1 then (some (r_2.1, r_2.2.1, r_2.2.2.1, r_2.2.2.2.1, r_2.2.2.2.2, w)) else none)) 16
    (fun n i d hi => by
      show p_R_putFromMemory_2 mm (pl_R_putFromMemory_2 mm n) (nI b) (nI i) of cr wn dk d = _
      unfold p_R_putFromMemory_2
      rw [if_neg (by rw [nI_lit_le 16 (by omega) (by omega)]; omega), nI_16m, nI_add, if_pos (kx_nI (by omega) (by omega)), if_pos (kx_nI hi (by omega)), nI_clamp (by omega), nI_clamp (by omega), nI_a1, Nat.zero_add])
    (fun n d => by
      show p_R_putFromMemory_2 mm (pl_R_putFromMemory_2 mm n) (nI b) (nI 16) of cr wn dk d = _
      unfold p_R_putFromMemory_2
      rw [if_pos (by decide)]) 16 1000 0 wk (by omega) (by omega)
  rw [itr_wkf wk (fun i => mm (16 * b + i)), R_put_spec of cr wn dk _ (by omega), put_wkf] at h
  refine ⟨wkf wk (fun i => mm (16 * b + i)), h.trans ?_⟩
  show (if b2i _ &&& 1 = b2i _ then _ else _) = _
  rw [if_pos (b2i_and _)]
