/-! THE JOURNAL: what committing and recovering write, and that the class writes just that -/
abbrev UU : Type := Int32 × Int32 × (Nat → Int32)
abbrev putU (u : UU) (b : Nat) (f : Nat → Int32) : Bool × UU := put u.1 u.2.1 u.2.2 b f
/-- the writes for the blocks of S, from b on, as long as the power lasts -/
def runs (S : Int32) (tg : Nat → Nat) (src : Nat → (Nat → Int32) → Nat → Int32) : Nat → Nat → UU → Bool × UU
  | 0, _, u => (true, u)
  | c + 1, b, u => if bt S b = true then (if (putU u (tg b) (src b u.2.2)).1 = true then runs S tg src c (b + 1) (putU u (tg b) (src b u.2.2)).2 else (false, (putU u (tg b) (src b u.2.2)).2)) else runs S tg src c (b + 1) u
def tgI (S : Int32) (b : Nat) : Nat := 17 + pcn S b
def srcD (b : Nat) (d : Nat → Int32) : Nat → Int32 := fun j => d (16 * b + j)
def srcM (mm : Nat → Int32) (b : Nat) (_ : Nat → Int32) : Nat → Int32 := fun j => mm (16 * b + j)
def srcI (S : Int32) (b : Nat) (d : Nat → Int32) : Nat → Int32 := fun j => d (16 * (17 + pcn S b) + j)
def imgs (S : Int32) : Nat → Nat → UU → Bool × UU := runs S (tgI S) srcD
def savs (S : Int32) (mm : Nat → Int32) : Nat → Nat → UU → Bool × UU := runs S (fun b => b) (srcM mm)
def rsts (S : Int32) : Nat → Nat → UU → Bool × UU := runs S (fun b => b) (srcI S)
theorem put_f {wl wn : Int32} {dk f : Nat → Int32} {b : Nat} (h : (put wl wn dk b f).1 = false) : put wl wn dk b f = (false, -1, wn, dk) := by
  unfold put at h ⊢
  by_cases q : wl = 0
  · rw [if_pos q]
  · rw [if_neg q] at h
    cases h
/-- a loop that writes the blocks of S: the shape of the three -/
theorem J_run {S : Int32} {tg : Nat → Nat} {src : Nat → (Nat → Int32) → Nat → Int32} (L : Nat → Int32 → Int32 → UU → Option (Int32 × Int32 × UU))
    (h0 : ∀ n pw u, L (n + 1) (nI 16) pw u = some (1, pw, u))
    (h1 : ∀ n b pw u, b < 16 → bt S b = false → L (n + 1) (nI b) pw u = L n (nI (b + 1)) pw u)
    (h2 : ∀ n b pw u, b < 16 → bt S b = true → L (n + 1) (nI b) pw u = (if b2i (putU u (tg b) (src b u.2.2)).1 = 0 then some (0, (if (putU u (tg b) (src b u.2.2)).1 then pw else 0), (putU u (tg b) (src b u.2.2)).2) else L n (nI (b + 1)) (if (putU u (tg b) (src b u.2.2)).1 then pw else 0) (putU u (tg b) (src b u.2.2)).2)) :
    ∀ c n b pw u, b + c = 16 → c < n → L n (nI b) pw u = some (b2i (runs S tg src c b u).1, (if (runs S tg src c b u).1 then pw else 0), (runs S tg src c b u).2) := by
  intro c
  induction c with
  | zero =>
    intro n b pw u hb hn
    obtain ⟨n, rfl⟩ : ∃ q, n = q + 1 := ⟨n - 1, by omega⟩
    have e : b = 16 := by omega
    subst e
    rw [h0]
    rfl
  | succ c ih =>
    intro n b pw u hb hn
    obtain ⟨n, rfl⟩ : ∃ q, n = q + 1 := ⟨n - 1, by omega⟩
    unfold runs
    by_cases hS : bt S b = true
    · rw [h2 n b pw u (by omega) hS, if_pos hS]
      cases hp : (putU u (tg b) (src b u.2.2)).1 with
      | true =>
        rw [if_neg (by decide), if_pos rfl]
        exact ih n (b + 1) pw _ (by omega) (by omega)
      | false =>
        rw [if_pos (by decide)]
        rfl
    · rw [h1 n b pw u (by omega) ((Bool.not_eq_true _).mp hS), if_neg hS]
      exact ih n (b + 1) pw u (by omega) (by omega)
theorem J_keepImages {S : Int32} (hS : sm S) (pw : Int32) (u : UU) : p_J_keepImages pw u.1 u.2.1 u.2.2 S = some (b2i (imgs S 16 0 u).1, (if (imgs S 16 0 u).1 then pw else 0), (imgs S 16 0 u).2) := by
  refine J_run (tg := tgI S) (src := srcD) (fun n x pw u => pl_J_keepImages_2 n S x pw u.1 u.2.1 u.2.2) (fun n pw u => ?_) (fun n b pw u hb h => ?_) (fun n b pw u hb h => ?_) 16 1000 0 pw u (by omega) (by omega)
  · show p_J_keepImages_2 (pl_J_keepImages_2 n) S (nI 16) pw u.1 u.2.1 u.2.2 = _
    unfold p_J_keepImages_2
    rw [if_pos (by decide)]
  · show p_J_keepImages_2 (pl_J_keepImages_2 n) S (nI b) pw u.1 u.2.1 u.2.2 = _
    unfold p_J_keepImages_2 p_J_keepImages_34
    rw [if_neg (by rw [nI_lit_le 16 (by omega) (by omega)]; omega), J_contains S hb, h, Option.bind_some, if_pos (by decide), nI_a1]
  · have := pcn_le S b
    show p_J_keepImages_2 (pl_J_keepImages_2 n) S (nI b) pw u.1 u.2.1 u.2.2 = _
    unfold p_J_keepImages_2 p_J_keepImages_34
    rw [if_neg (by rw [nI_lit_le 16 (by omega) (by omega)]; omega), J_contains S hb, h, Option.bind_some, if_neg (by decide), J_imageOf hS hb, Option.bind_some, D_copy_spec pw u.1 u.2.1 u.2.2 (by omega) (by omega), Option.bind_some, nI_a1]
    rfl
theorem J_saveBlocks (S : Int32) (mm : Nat → Int32) (pw : Int32) (u : UU) : p_J_saveBlocks pw u.1 u.2.1 u.2.2 mm S = some (b2i (savs S mm 16 0 u).1, (if (savs S mm 16 0 u).1 then pw else 0), (savs S mm 16 0 u).2) := by
  refine J_run (tg := fun b => b) (src := srcM mm) (fun n x pw u => pl_J_saveBlocks_2 mm n S x pw u.1 u.2.1 u.2.2) (fun n pw u => ?_) (fun n b pw u hb h => ?_) (fun n b pw u hb h => ?_) 16 1000 0 pw u (by omega) (by omega)
  · show p_J_saveBlocks_2 mm (pl_J_saveBlocks_2 mm n) S (nI 16) pw u.1 u.2.1 u.2.2 = _
    unfold p_J_saveBlocks_2
    rw [if_pos (by decide)]
  · show p_J_saveBlocks_2 mm (pl_J_saveBlocks_2 mm n) S (nI b) pw u.1 u.2.1 u.2.2 = _
    unfold p_J_saveBlocks_2 p_J_saveBlocks_33
    rw [if_neg (by rw [nI_lit_le 16 (by omega) (by omega)]; omega), J_contains S hb, h, Option.bind_some, if_pos (by decide), nI_a1]
  · show p_J_saveBlocks_2 mm (pl_J_saveBlocks_2 mm n) S (nI b) pw u.1 u.2.1 u.2.2 = _
    unfold p_J_saveBlocks_2 p_J_saveBlocks_33
    rw [if_neg (by rw [nI_lit_le 16 (by omega) (by omega)]; omega), J_contains S hb, h, Option.bind_some, if_neg (by decide), M_save_spec pw u.1 u.2.1 u.2.2 mm hb, Option.bind_some, nI_a1]
    rfl
theorem J_restoreBlocks {S : Int32} (hS : sm S) (pw : Int32) (u : UU) : p_J_restoreBlocks pw u.1 u.2.1 u.2.2 S = some (b2i (rsts S 16 0 u).1, (if (rsts S 16 0 u).1 then pw else 0), (rsts S 16 0 u).2) := by
  refine J_run (tg := fun b => b) (src := srcI S) (fun n x pw u => pl_J_restoreBlocks_2 n S x pw u.1 u.2.1 u.2.2) (fun n pw u => ?_) (fun n b pw u hb h => ?_) (fun n b pw u hb h => ?_) 16 1000 0 pw u (by omega) (by omega)
  · show p_J_restoreBlocks_2 (pl_J_restoreBlocks_2 n) S (nI 16) pw u.1 u.2.1 u.2.2 = _
    unfold p_J_restoreBlocks_2
    rw [if_pos (by decide)]
  · show p_J_restoreBlocks_2 (pl_J_restoreBlocks_2 n) S (nI b) pw u.1 u.2.1 u.2.2 = _
    unfold p_J_restoreBlocks_2 p_J_restoreBlocks_34
    rw [if_neg (by rw [nI_lit_le 16 (by omega) (by omega)]; omega), J_contains S hb, h, Option.bind_some, if_pos (by decide), nI_a1]
  · have := pcn_le S b
    show p_J_restoreBlocks_2 (pl_J_restoreBlocks_2 n) S (nI b) pw u.1 u.2.1 u.2.2 = _
    unfold p_J_restoreBlocks_2 p_J_restoreBlocks_34
    rw [if_neg (by rw [nI_lit_le 16 (by omega) (by omega)]; omega), J_contains S hb, h, Option.bind_some, if_neg (by decide), J_imageOf hS hb, Option.bind_some, D_copy_spec pw u.1 u.2.1 u.2.2 (by omega) (by omega), Option.bind_some, nI_a1]
    rfl
/-- the check of the images -/
def ck (dk : Nat → Int32) : Nat → Nat → Int32 → Int32
  | 0, _, c => c
  | m + 1, k, c => ck dk m (k + 1) (31 * c + dk k)
theorem ck_add (dk : Nat → Int32) : ∀ (a b k : Nat) (c : Int32), ck dk (a + b) k c = ck dk b (k + a) (ck dk a k c) := by
  intro a
  induction a with
  | zero => intro b k c; rw [Nat.zero_add]; rfl
  | succ a ih =>
    intro b k c
    rw [show a + 1 + b = (a + b) + 1 by omega]
    show ck dk (a + b) (k + 1) (31 * c + dk k) = ck dk b (k + (a + 1)) (ck dk a (k + 1) (31 * c + dk k))
    rw [ih b (k + 1), show k + 1 + a = k + (a + 1) by omega]
def chk (dk : Nat → Int32) (n : Nat) : Int32 := ck dk (16 * n) 272 1
theorem D_word_in (dk : Nat → Int32) {b w : Nat} (hb : b < 33) (hw : w < 16) : p_D_word dk (nI b) (nI w) = some (dk (16 * b + w)) := by
  unfold p_D_word
  rw [nI_m16, nI_add, if_pos (kx_nI (by omega) (by omega)), nI_clamp (by omega)]
theorem J_check_inner (dk : Nat → Int32) (x1 : Int32) {im : Nat} (him : im < 33) (k : Int32 → Int32 → Int32 → Option Int32) (c : Int32) : pl_J_checkOfImages_16 dk k 1000 x1 c (nI im) 0 = k x1 (ck dk 16 (16 * im) c) (nI (im + 1)) := by
  have key : ∀ m n w c, w + m = 16 → m < n → pl_J_checkOfImages_16 dk k n x1 c (nI im) (nI w) = k x1 (ck dk m (16 * im + w) c) (nI (im + 1)) := by
    intro m
    induction m with
    | zero =>
      intro n w c h1 h2
      obtain ⟨n, rfl⟩ : ∃ q, n = q + 1 := ⟨n - 1, by omega⟩
      have e : w = 16 := by omega
      subst e
      show p_J_checkOfImages_16 dk k (pl_J_checkOfImages_16 dk k n) x1 c (nI im) (nI 16) = _
      unfold p_J_checkOfImages_16
      rw [if_pos (by decide), nI_a1]
      rfl
    | succ m ih =>
      intro n w c h1 h2
      obtain ⟨n, rfl⟩ : ∃ q, n = q + 1 := ⟨n - 1, by omega⟩
      show p_J_checkOfImages_16 dk k (pl_J_checkOfImages_16 dk k n) x1 c (nI im) (nI w) = _
      unfold p_J_checkOfImages_16
      rw [if_neg (by rw [nI_lit_le 16 (by omega) (by omega)]; omega), D_word_in dk him (by omega), Option.bind_some, nI_a1]
      exact ih n (w + 1) _ (by omega) (by omega)
  exact key 16 1000 0 c (by omega) (by omega)
theorem J_check (dk : Nat → Int32) {n : Nat} (hn : n ≤ 16) : p_J_checkOfImages dk (nI n) = some (chk dk n) := by
  have key : ∀ m k im c, im + m = 17 + n → m < k → pl_J_checkOfImages_5 dk k (nI n) c (nI im) = some (ck dk (16 * m) (16 * im) c) := by
    intro m
    induction m with
    | zero =>
      intro k im c h1 h2
      obtain ⟨k, rfl⟩ : ∃ q, k = q + 1 := ⟨k - 1, by omega⟩
      have e : im = 17 + n := by omega
      subst e
      show p_J_checkOfImages_5 dk (pl_J_checkOfImages_5 dk k) (nI n) c (nI (17 + n)) = _
      unfold p_J_checkOfImages_5
      rw [show (17 : Int32) = nI 17 from rfl, nI_add, if_pos (Int32.le_refl _)]
      rfl
    | succ m ih =>
      intro k im c h1 h2
      obtain ⟨k, rfl⟩ : ∃ q, k = q + 1 := ⟨k - 1, by omega⟩
      show p_J_checkOfImages_5 dk (pl_J_checkOfImages_5 dk k) (nI n) c (nI im) = _
      unfold p_J_checkOfImages_5
      rw [show (17 : Int32) = nI 17 from rfl, nI_add, if_neg (nI_ge (by omega) (by omega)), J_check_inner dk (nI n) (by omega), ih k (im + 1) _ (by omega) (by omega), show 16 * (m + 1) = 16 + 16 * m by omega, ck_add, show 16 * im + 16 = 16 * (im + 1) by omega]
  exact key n 1000 17 1 (by omega) (by omega)
theorem R_check (dk : Nat → Int32) {n : Nat} (hn : n ≤ 16) : p_R_check dk (nI n) = some (chk dk n) := by
  have key : ∀ m k i c, i + m = 272 + 16 * n → m < k → pl_R_check_6 dk k (nI n) c (nI i) = some (ck dk m i c) := by
    intro m
    induction m with
    | zero =>
      intro k i c h1 h2
      obtain ⟨k, rfl⟩ : ∃ q, k = q + 1 := ⟨k - 1, by omega⟩
      have e : i = 272 + 16 * n := by omega
      subst e
      show p_R_check_6 dk (pl_R_check_6 dk k) (nI n) c (nI (272 + 16 * n)) = _
      unfold p_R_check_6
      rw [nI_16m, show (272 : Int32) = nI 272 from rfl, nI_add, if_pos (Int32.le_refl _)]
      rfl
    | succ m ih =>
      intro k i c h1 h2
      obtain ⟨k, rfl⟩ : ∃ q, k = q + 1 := ⟨k - 1, by omega⟩
      show p_R_check_6 dk (pl_R_check_6 dk k) (nI n) c (nI i) = _
      unfold p_R_check_6
      rw [nI_16m, show (272 : Int32) = nI 272 from rfl, nI_add, if_neg (nI_ge (by omega) (by omega)), if_pos (kx_nI (by omega) (by omega)), nI_clamp (by omega), nI_a1]
      exact ih k (i + 1) _ (by omega) (by omega)
  exact key (16 * n) 1000 272 1 (by omega) (by omega)
/-- the head of n blocks -/
def hdf (n : Nat) (S c : Int32) : Nat → Int32 := fun j => if j = 0 then 6517 else if j = 1 then nI n else if j = 2 then S else if j = 3 then c else 0
def zf : Nat → Int32 := fun _ => 0
def hdOk (hd : Nat → Int32) : Prop := ∀ j, 4 ≤ j → j < 16 → hd j = 0
theorem J_clearHead (hd : Nat → Int32) (hh : hdOk hd) (pw : Int32) (u : UU) : ∃ hd', hdOk hd' ∧ p_J_clearHead hd pw u.1 u.2.1 u.2.2 = some (b2i (putU u 16 zf).1, hd', (if (putU u 16 zf).1 then pw else 0), (putU u 16 zf).2) := by
  have h := lp_for (fun n x h => pl_J_clearHead_2 n x h pw u.1 u.2.1 u.2.2) (fun i h => upd h (0 + i) 0) (fun h => (p_D_writeE pw u.1 u.2.1 u.2.2 16 h 16 0).bind (fun r_2 => if r_2.1 &&& 1 = r_2.1 then (some (r_2.1, h, r_2.2.1, r_2.2.2.1, r_2.2.2.2.1, r_2.2.2.2.2)) else none)) 4
    (fun n i h hi => by
      show p_J_clearHead_2 (pl_J_clearHead_2 n) (nI i) h pw u.1 u.2.1 u.2.2 = _
      unfold p_J_clearHead_2
      rw [if_neg (by rw [nI_lit_le 4 (by omega) (by omega)]; omega), if_pos (kx_nI (by omega) (by omega)), nI_clamp (by omega), nI_a1, Nat.zero_add])
    (fun n h => by
      show p_J_clearHead_2 (pl_J_clearHead_2 n) (nI 4) h pw u.1 u.2.1 u.2.2 = _
      unfold p_J_clearHead_2
      rw [if_pos (by decide)]) 4 1000 0 hd (by omega) (by omega)
  have e0 : itr (fun i h => upd h (0 + i) 0) 0 4 hd = fun j => if j < 4 then 0 else hd j := by
    rw [itr_fill 0 (fun _ => 0)]
    funext j
    by_cases q : j < 4
    · rw [if_pos q, if_pos (by omega)]
    · rw [if_neg q, if_neg (by omega)]
  rw [e0] at h
  refine ⟨fun j => if j < 4 then 0 else hd j, ?_, h.trans ?_⟩
  · intro j h1 h2
    show (if _ then _ else _) = _
    rw [if_neg (by omega)]
    exact hh j h1 h2
  · show (p_D_writeE pw u.1 u.2.1 u.2.2 16 (fun j => if j < 4 then 0 else hd j) (nI 16) (nI 0)).bind _ = _
    have e : put u.1 u.2.1 u.2.2 16 (fun j => (fun j => if j < 4 then 0 else hd j) (16 * 0 + j)) = putU u 16 zf := put_congr _ _ _ _ (fun j hj => by
      show (if _ then _ else _) = (0 : Int32)
      rw [show 16 * 0 + j = j by omega]
      by_cases q : j < 4
      · rw [if_pos q]
      · rw [if_neg q]
        exact hh j (by omega) hj)
    rw [D_writeE_spec pw u.1 u.2.1 u.2.2 _ (by omega) (by omega) (by omega), e, Option.bind_some, if_pos (b2i_and _)]
theorem J_writeHead (hd : Nat → Int32) (hh : hdOk hd) {S : Int32} (hS : sm S) (pw : Int32) (u : UU) : ∃ hd', hdOk hd' ∧ p_J_writeHead hd pw u.1 u.2.1 u.2.2 S = some (b2i (putU u 16 (hdf (pcn S 16) S (chk u.2.2 (pcn S 16)))).1, hd', (if (putU u 16 (hdf (pcn S 16) S (chk u.2.2 (pcn S 16)))).1 then pw else 0), (putU u 16 (hdf (pcn S 16) S (chk u.2.2 (pcn S 16)))).2) := by
  have hp := pcn_le S 16
  refine ⟨upd (upd (upd (upd hd 0 6517) 1 (nI (pcn S 16))) 2 S) 3 (chk u.2.2 (pcn S 16)), ?_, ?_⟩
  · intro j h1 h2
    rw [pk_un (by omega), pk_un (by omega), pk_un (by omega), pk_un (by omega)]
    exact hh j h1 h2
  · unfold p_J_writeHead
    rw [I_bitCount hS, Option.bind_some, if_pos (by decide), if_pos (by decide), if_pos (by decide), J_check u.2.2 hp, Option.bind_some, if_pos (by decide), c0, show (1 : Int32).toNatClampNeg = 1 from by decide, show (2 : Int32).toNatClampNeg = 2 from by decide, show (3 : Int32).toNatClampNeg = 3 from by decide, show (16 : Int32) = nI 16 from rfl, show (0 : Int32) = nI 0 from rfl, D_writeE_spec pw u.1 u.2.1 u.2.2 _ (by omega) (by omega) (by omega), Option.bind_some, if_pos (b2i_and _)]
    have e : put u.1 u.2.1 u.2.2 16 (fun j => upd (upd (upd (upd hd 0 6517) 1 (nI (pcn S 16))) 2 S) 3 (chk u.2.2 (pcn S 16)) (16 * 0 + j)) = putU u 16 (hdf (pcn S 16) S (chk u.2.2 (pcn S 16))) := put_congr _ _ _ _ (fun j hj => by
      unfold hdf
      rw [show 16 * 0 + j = j by omega]
      by_cases q3 : j = 3
      · subst q3; rfl
      · rw [pk_un q3]
        by_cases q2 : j = 2
        · subst q2; rfl
        · rw [pk_un q2]
          by_cases q1 : j = 1
          · subst q1; rfl
          · rw [pk_un q1]
            by_cases q0 : j = 0
            · subst q0; rfl
            · rw [pk_un q0, if_neg q0, if_neg q1, if_neg q2, if_neg q3]
              exact hh j (by omega) hj)
    rw [e]
    rfl
