/-! COUNTING BITS -/
def pcn (x : Int32) : Nat → Nat
  | 0 => 0
  | n + 1 => pcn x n + (if bt x n = true then 1 else 0)
theorem pcn_le (x : Int32) : ∀ n, pcn x n ≤ n := by
  intro n
  induction n with
  | zero => exact Nat.le_refl _
  | succ n ih =>
    unfold pcn
    split <;> omega
theorem bitN (x : Int32) {s : Nat} (hs : s < 32) : (x >>> (nI s &&& 31)) &&& 1 = nI (if bt x s = true then 1 else 0) := by
  cases h : bt x s with
  | true => rw [(bit1 x hs).mpr h]; rfl
  | false => rw [(bit0 x hs).mpr h]; rfl
theorem R_bits (x : Int32) : p_R_bits x = some (nI (pcn x 32)) := by
  have key : ∀ k, k ≤ 32 → ∀ n, 32 - k < n → pl_R_bits_4 n x (nI (pcn x k)) (nI k) = some (nI (pcn x 32)) := by
    intro k hk n
    induction n generalizing k with
    | zero => intro h; omega
    | succ n ih =>
      intro h
      show p_R_bits_4 (pl_R_bits_4 n) x (nI (pcn x k)) (nI k) = _
      unfold p_R_bits_4
      by_cases e : k = 32
      · subst e
        rw [if_pos (by decide)]
      · rw [if_neg (by rw [nI_lit_le 32 (by omega) (by omega)]; omega), bitN x (by omega), nI_add, nI_a1]
        exact ih (k + 1) (by omega) (by omega)
  exact key 0 (by omega) 1000 (by omega)
/-- the library's own way, on naturals -/
def pcN (k : Nat) : Nat :=
  (fun a => (fun b => (fun c => (fun d => (fun e => e &&& 63) (d + d / 65536)) (c + c / 256)) ((b + b / 16) &&& 252645135)) ((a &&& 858993459) + ((a / 4) &&& 858993459))) (k - ((k / 2) &&& 1431655765))
def pcB (k : Nat) : Nat → Nat
  | 0 => 0
  | n + 1 => pcB k n + k / 2 ^ n % 2
def frc (a : Nat) (f : Nat → Nat) : Nat := match a with
  | 0 => f 0
  | n + 1 => f (n + 1)
theorem frc_eq (a : Nat) (f : Nat → Nat) : frc a f = f a := by cases a <;> rfl
def pcF (k : Nat) : Nat :=
  frc k (fun k => frc (Nat.sub k (Nat.land (Nat.div k 2) 1431655765)) (fun a => frc (Nat.add (Nat.land a 858993459) (Nat.land (Nat.div a 4) 858993459)) (fun b => frc (Nat.land (Nat.add b (Nat.div b 16)) 252645135) (fun c => frc (Nat.add c (Nat.div c 256)) (fun d => Nat.land (Nat.add d (Nat.div d 65536)) 63)))))
theorem pcF_eq (k : Nat) : pcF k = pcN k := by
  unfold pcF
  rw [frc_eq, frc_eq, frc_eq, frc_eq, frc_eq]
  rfl
def qn (n : Nat) : Nat := Nat.add (Nat.add (Nat.mod n 2) (Nat.mod (Nat.div n 2) 2)) (Nat.add (Nat.mod (Nat.div n 4) 2) (Nat.mod (Nat.div n 8) 2))
def pcG (A b c d : Nat) : Prop := pcF (Nat.add (Nat.add (Nat.mul 4096 A) (Nat.mul 256 b)) (Nat.add (Nat.mul 16 c) d)) = Nat.add (Nat.add (qn A) (qn b)) (Nat.add (qn c) (qn d))
set_option maxRecDepth 100000 in
theorem pc_0 : ∀ b, b < 16 → ∀ c, c < 16 → ∀ d, d < 16 → pcF (Nat.add (Nat.add (Nat.mul 4096 0) (Nat.mul 256 b)) (Nat.add (Nat.mul 16 c) d)) = Nat.add (Nat.add (qn 0) (qn b)) (Nat.add (qn c) (qn d)) := by decide +kernel
set_option maxRecDepth 100000 in
theorem pc_1 : ∀ b, b < 16 → ∀ c, c < 16 → ∀ d, d < 16 → pcF (Nat.add (Nat.add (Nat.mul 4096 1) (Nat.mul 256 b)) (Nat.add (Nat.mul 16 c) d)) = Nat.add (Nat.add (qn 1) (qn b)) (Nat.add (qn c) (qn d)) := by decide +kernel
set_option maxRecDepth 100000 in
theorem pc_2 : ∀ b, b < 16 → ∀ c, c < 16 → ∀ d, d < 16 → pcF (Nat.add (Nat.add (Nat.mul 4096 2) (Nat.mul 256 b)) (Nat.add (Nat.mul 16 c) d)) = Nat.add (Nat.add (qn 2) (qn b)) (Nat.add (qn c) (qn d)) := by decide +kernel
set_option maxRecDepth 100000 in
theorem pc_3 : ∀ b, b < 16 → ∀ c, c < 16 → ∀ d, d < 16 → pcF (Nat.add (Nat.add (Nat.mul 4096 3) (Nat.mul 256 b)) (Nat.add (Nat.mul 16 c) d)) = Nat.add (Nat.add (qn 3) (qn b)) (Nat.add (qn c) (qn d)) := by decide +kernel
set_option maxRecDepth 100000 in
theorem pc_4 : ∀ b, b < 16 → ∀ c, c < 16 → ∀ d, d < 16 → pcF (Nat.add (Nat.add (Nat.mul 4096 4) (Nat.mul 256 b)) (Nat.add (Nat.mul 16 c) d)) = Nat.add (Nat.add (qn 4) (qn b)) (Nat.add (qn c) (qn d)) := by decide +kernel
set_option maxRecDepth 100000 in
theorem pc_5 : ∀ b, b < 16 → ∀ c, c < 16 → ∀ d, d < 16 → pcF (Nat.add (Nat.add (Nat.mul 4096 5) (Nat.mul 256 b)) (Nat.add (Nat.mul 16 c) d)) = Nat.add (Nat.add (qn 5) (qn b)) (Nat.add (qn c) (qn d)) := by decide +kernel
set_option maxRecDepth 100000 in
theorem pc_6 : ∀ b, b < 16 → ∀ c, c < 16 → ∀ d, d < 16 → pcF (Nat.add (Nat.add (Nat.mul 4096 6) (Nat.mul 256 b)) (Nat.add (Nat.mul 16 c) d)) = Nat.add (Nat.add (qn 6) (qn b)) (Nat.add (qn c) (qn d)) := by decide +kernel
set_option maxRecDepth 100000 in
theorem pc_7 : ∀ b, b < 16 → ∀ c, c < 16 → ∀ d, d < 16 → pcF (Nat.add (Nat.add (Nat.mul 4096 7) (Nat.mul 256 b)) (Nat.add (Nat.mul 16 c) d)) = Nat.add (Nat.add (qn 7) (qn b)) (Nat.add (qn c) (qn d)) := by decide +kernel
set_option maxRecDepth 100000 in
theorem pc_8 : ∀ b, b < 16 → ∀ c, c < 16 → ∀ d, d < 16 → pcF (Nat.add (Nat.add (Nat.mul 4096 8) (Nat.mul 256 b)) (Nat.add (Nat.mul 16 c) d)) = Nat.add (Nat.add (qn 8) (qn b)) (Nat.add (qn c) (qn d)) := by decide +kernel
set_option maxRecDepth 100000 in
theorem pc_9 : ∀ b, b < 16 → ∀ c, c < 16 → ∀ d, d < 16 → pcF (Nat.add (Nat.add (Nat.mul 4096 9) (Nat.mul 256 b)) (Nat.add (Nat.mul 16 c) d)) = Nat.add (Nat.add (qn 9) (qn b)) (Nat.add (qn c) (qn d)) := by decide +kernel
set_option maxRecDepth 100000 in
theorem pc_10 : ∀ b, b < 16 → ∀ c, c < 16 → ∀ d, d < 16 → pcF (Nat.add (Nat.add (Nat.mul 4096 10) (Nat.mul 256 b)) (Nat.add (Nat.mul 16 c) d)) = Nat.add (Nat.add (qn 10) (qn b)) (Nat.add (qn c) (qn d)) := by decide +kernel
set_option maxRecDepth 100000 in
theorem pc_11 : ∀ b, b < 16 → ∀ c, c < 16 → ∀ d, d < 16 → pcF (Nat.add (Nat.add (Nat.mul 4096 11) (Nat.mul 256 b)) (Nat.add (Nat.mul 16 c) d)) = Nat.add (Nat.add (qn 11) (qn b)) (Nat.add (qn c) (qn d)) := by decide +kernel
set_option maxRecDepth 100000 in
theorem pc_12 : ∀ b, b < 16 → ∀ c, c < 16 → ∀ d, d < 16 → pcF (Nat.add (Nat.add (Nat.mul 4096 12) (Nat.mul 256 b)) (Nat.add (Nat.mul 16 c) d)) = Nat.add (Nat.add (qn 12) (qn b)) (Nat.add (qn c) (qn d)) := by decide +kernel
set_option maxRecDepth 100000 in
theorem pc_13 : ∀ b, b < 16 → ∀ c, c < 16 → ∀ d, d < 16 → pcF (Nat.add (Nat.add (Nat.mul 4096 13) (Nat.mul 256 b)) (Nat.add (Nat.mul 16 c) d)) = Nat.add (Nat.add (qn 13) (qn b)) (Nat.add (qn c) (qn d)) := by decide +kernel
set_option maxRecDepth 100000 in
theorem pc_14 : ∀ b, b < 16 → ∀ c, c < 16 → ∀ d, d < 16 → pcF (Nat.add (Nat.add (Nat.mul 4096 14) (Nat.mul 256 b)) (Nat.add (Nat.mul 16 c) d)) = Nat.add (Nat.add (qn 14) (qn b)) (Nat.add (qn c) (qn d)) := by decide +kernel
set_option maxRecDepth 100000 in
theorem pc_15 : ∀ b, b < 16 → ∀ c, c < 16 → ∀ d, d < 16 → pcF (Nat.add (Nat.add (Nat.mul 4096 15) (Nat.mul 256 b)) (Nat.add (Nat.mul 16 c) d)) = Nat.add (Nat.add (qn 15) (qn b)) (Nat.add (qn c) (qn d)) := by decide +kernel
theorem pc_G (A b c d : Nat) (hA : A < 16) (hb : b < 16) (hc : c < 16) (hd : d < 16) : pcG A b c d := by
  unfold pcG
  rcases (show A = 0 ∨ A = 1 ∨ A = 2 ∨ A = 3 ∨ A = 4 ∨ A = 5 ∨ A = 6 ∨ A = 7 ∨ A = 8 ∨ A = 9 ∨ A = 10 ∨ A = 11 ∨ A = 12 ∨ A = 13 ∨ A = 14 ∨ A = 15 by omega) with rfl | rfl | rfl | rfl | rfl | rfl | rfl | rfl | rfl | rfl | rfl | rfl | rfl | rfl | rfl | rfl
  · exact pc_0 b hb c hc d hd
  · exact pc_1 b hb c hc d hd
  · exact pc_2 b hb c hc d hd
  · exact pc_3 b hb c hc d hd
  · exact pc_4 b hb c hc d hd
  · exact pc_5 b hb c hc d hd
  · exact pc_6 b hb c hc d hd
  · exact pc_7 b hb c hc d hd
  · exact pc_8 b hb c hc d hd
  · exact pc_9 b hb c hc d hd
  · exact pc_10 b hb c hc d hd
  · exact pc_11 b hb c hc d hd
  · exact pc_12 b hb c hc d hd
  · exact pc_13 b hb c hc d hd
  · exact pc_14 b hb c hc d hd
  · exact pc_15 b hb c hc d hd
theorem pcB_4 (n : Nat) : pcB n 4 = qn n := by
  show ((0 + n / 2 ^ 0 % 2 + n / 2 ^ 1 % 2) + n / 2 ^ 2 % 2) + n / 2 ^ 3 % 2 = (n % 2 + n / 2 % 2) + (n / 4 % 2 + n / 8 % 2)
  rw [show (2 : Nat) ^ 0 = 1 from rfl, show (2 : Nat) ^ 1 = 2 from rfl, show (2 : Nat) ^ 2 = 4 from rfl, show (2 : Nat) ^ 3 = 8 from rfl]
  omega
theorem pcB_split {l : Nat} (h : Nat) (hl : l < 16) : ∀ n, pcB (16 * h + l) (4 + n) = pcB l 4 + pcB h n := by
  intro n
  induction n with
  | zero =>
    show pcB (16 * h + l) 4 = pcB l 4 + 0
    rw [pcB_4, pcB_4]
    show ((16 * h + l) % 2 + (16 * h + l) / 2 % 2) + ((16 * h + l) / 4 % 2 + (16 * h + l) / 8 % 2) = (l % 2 + l / 2 % 2) + (l / 4 % 2 + l / 8 % 2) + 0
    omega
  | succ n ih =>
    have e : pcB (16 * h + l) (4 + (n + 1)) = pcB (16 * h + l) (4 + n) + (16 * h + l) / 2 ^ (4 + n) % 2 := rfl
    have e2 : pcB h (n + 1) = pcB h n + h / 2 ^ n % 2 := rfl
    rw [e, e2, ih, Nat.pow_add, ← Nat.div_div_eq_div_mul, show (16 * h + l) / 2 ^ 4 = h by rw [show (2 : Nat) ^ 4 = 16 from rfl]; omega]
    omega
theorem pc_all {k : Nat} (hk : k < 65536) : pcN k = pcB k 16 := by
  have h := pc_G (k / 4096) (k / 256 % 16) (k / 16 % 16) (k % 16) (by omega) (by omega) (by omega) (by omega)
  unfold pcG at h
  have e : Nat.add (Nat.add (Nat.mul 4096 (k / 4096)) (Nat.mul 256 (k / 256 % 16))) (Nat.add (Nat.mul 16 (k / 16 % 16)) (k % 16)) = k := by
    show (4096 * (k / 4096) + 256 * (k / 256 % 16)) + (16 * (k / 16 % 16) + k % 16) = k
    omega
  rw [e, pcF_eq] at h
  rw [h]
  have s1 := pcB_split (l := k % 16) (k / 16) (by omega) 12
  have s2 := pcB_split (l := k / 16 % 16) (k / 256) (by omega) 8
  have s3 := pcB_split (l := k / 256 % 16) (k / 4096) (by omega) 4
  rw [show 16 * (k / 16) + k % 16 = k by omega] at s1
  rw [show 16 * (k / 256) + k / 16 % 16 = k / 16 by omega] at s2
  rw [show 16 * (k / 4096) + k / 256 % 16 = k / 256 by omega] at s3
  rw [pcB_4, pcB_4] at s3
  rw [pcB_4] at s1 s2
  show (qn (k / 4096) + qn (k / 256 % 16)) + (qn (k / 16 % 16) + qn (k % 16)) = pcB k (4 + 12)
  rw [s1, show (12 : Nat) = 4 + 8 from rfl, s2, show (8 : Nat) = 4 + 4 from rfl, s3]
  omega
theorem sh1 : (((1 : Int32).toUInt32 &&& Int32.toUInt32 31).toBitVec % 32).toNat = 1 := by decide
theorem sh2 : (((2 : Int32).toUInt32 &&& Int32.toUInt32 31).toBitVec % 32).toNat = 2 := by decide
theorem sh4 : (((4 : Int32).toUInt32 &&& Int32.toUInt32 31).toBitVec % 32).toNat = 4 := by decide
theorem sh8 : (((8 : Int32).toUInt32 &&& Int32.toUInt32 31).toBitVec % 32).toNat = 8 := by decide
theorem sh16 : (((16 : Int32).toUInt32 &&& Int32.toUInt32 31).toBitVec % 32).toNat = 16 := by decide
theorem land_le (a b : Nat) : a &&& b ≤ a := Nat.and_le_left
theorem I_bitCount_N {k : Nat} (hk : k < 65536) : p_I_bitCount (nI k) = some (nI (pcN k)) := by
  have e5 : (1431655765 : Int32) = nI 1431655765 := rfl
  have e3 : (858993459 : Int32) = nI 858993459 := rfl
  have e1 : (252645135 : Int32) = nI 252645135 := rfl
  have e6 : (63 : Int32) = nI 63 := rfl
  unfold p_I_bitCount kl pcN
  dsimp only
  have h1 : (k / 2) &&& 1431655765 ≤ k := Nat.le_trans (land_le _ _) (Nat.div_le_self _ _)
  rw [pk_ushrN (by omega) 1 1 sh1, e5, nx_and, Nat.pow_one, pk_sub h1]
  generalize ha : k - (k / 2 &&& 1431655765) = a
  have hal : a < 65536 := by omega
  rw [pk_ushrN (by omega) 2 2 sh2, e3, nx_and, nx_and, nI_add]
  have h2 := land_le a 858993459
  have h3 := land_le (a / 2 ^ 2) 858993459
  have h4 := Nat.div_le_self a (2 ^ 2)
  rw [show (2 : Nat) ^ 2 = 4 from rfl] at h3 h4 ⊢
  generalize hb : (a &&& 858993459) + (a / 4 &&& 858993459) = b
  have hbl : b < 131072 := by omega
  rw [pk_ushrN (by omega) 4 4 sh4, nI_add, e1, nx_and, show (2 : Nat) ^ 4 = 16 from rfl]
  have h5 := land_le (b + b / 16) 252645135
  have h6 := Nat.div_le_self b 16
  generalize hc : (b + b / 16) &&& 252645135 = c at h5 ⊢
  rw [pk_ushrN (by omega) 8 8 sh8, nI_add, show (2 : Nat) ^ 8 = 256 from rfl]
  have h7 := Nat.div_le_self c 256
  generalize hd : c + c / 256 = d
  rw [pk_ushrN (by omega) 16 16 sh16, nI_add, e6, nx_and, show (2 : Nat) ^ 16 = 65536 from rfl]
theorem bt_nI {k i : Nat} (hi : i < 32) : bt (nI k) i = decide (k / 2 ^ i % 2 = 1) := by
  show (BitVec.ofNat 32 k).getLsbD i = _
  rw [BitVec.getLsbD_ofNat, decide_eq_true hi, Bool.true_and, Nat.testBit_eq_decide_div_mod_eq]
theorem pcn_nI (k : Nat) : ∀ n, n ≤ 32 → pcn (nI k) n = pcB k n := by
  intro n
  induction n with
  | zero => intro _; rfl
  | succ n ih =>
    intro h
    unfold pcn pcB
    rw [ih (by omega), bt_nI (by omega)]
    have := Nat.mod_two_eq_zero_or_one (k / 2 ^ n)
    by_cases e : k / 2 ^ n % 2 = 1
    · rw [decide_eq_true e, if_pos rfl, e]
    · rw [decide_eq_false e, if_neg (by decide)]
      omega
/-- sets of the blocks 0 .. 15 -/
def sm (S : Int32) : Prop := ∀ i, 16 ≤ i → bt S i = false
theorem sm_nI {S : Int32} (h : sm S) : ∃ k, k < 65536 ∧ S = nI k := by
  have e : S &&& 65535 = S := b_ext (fun i _ => by
    rw [b_and, b_65535]
    by_cases q : i < 16
    · rw [decide_eq_true q, Bool.and_true]
    · rw [h i (by omega), Bool.false_and])
  have := pk_and S (m := 65535) 16 (by decide)
  rw [e] at this
  exact ⟨_, Nat.mod_lt _ (by omega), this⟩
theorem pcn_sm {S : Int32} (h : sm S) : ∀ n, pcn S (16 + n) = pcn S 16 := by
  intro n
  induction n with
  | zero => rfl
  | succ n ih =>
    show pcn S (16 + n) + (if bt S (16 + n) = true then 1 else 0) = _
    rw [ih, h (16 + n) (by omega)]
    rfl
theorem I_bitCount {S : Int32} (h : sm S) : p_I_bitCount S = some (nI (pcn S 16)) := by
  obtain ⟨k, hk, e⟩ := sm_nI h
  subst e
  rw [I_bitCount_N hk, pcn_nI k 16 (by omega)]
  rw [pc_all hk]
theorem R_bits_sm {S : Int32} (h : sm S) : p_R_bits S = some (nI (pcn S 16)) := by
  rw [R_bits, show (32 : Nat) = 16 + 16 from rfl, pcn_sm h 16]
theorem bt_low : ∀ b, b < 17 → ∀ i, i < 32 → bt (((1 : Int32) <<< (nI b &&& 31)) - 1) i = decide (i < b) := by decide +kernel
theorem pcn_low {S T : Int32} : ∀ n, (∀ i, i < n → bt T i = bt S i) → pcn T n = pcn S n := by
  intro n
  induction n with
  | zero => intro _; rfl
  | succ n ih =>
    intro h
    unfold pcn
    rw [ih (fun i hi => h i (by omega)), h n (by omega)]
theorem pcn_zero {T : Int32} {b : Nat} (h : ∀ i, b ≤ i → bt T i = false) : ∀ n, pcn T (b + n) = pcn T b := by
  intro n
  induction n with
  | zero => rfl
  | succ n ih =>
    show pcn T (b + n) + (if bt T (b + n) = true then 1 else 0) = _
    rw [ih, h (b + n) (by omega)]
    rfl
theorem J_imageOf {S : Int32} (h : sm S) {b : Nat} (hb : b < 16) : p_J_imageOf S (nI b) = some (nI (17 + pcn S b)) := by
  have hT : ∀ i, bt (S &&& (((1 : Int32) <<< (nI b &&& 31)) - 1)) i = (bt S i && decide (i < b)) := fun i => by
    by_cases q : i < 32
    · rw [b_and, bt_low b (by omega) i q]
    · rw [b_big (by omega), b_big (by omega)]
      rfl
  have hsm : sm (S &&& (((1 : Int32) <<< (nI b &&& 31)) - 1)) := fun i hi => by rw [hT, h i hi]; rfl
  unfold p_J_imageOf
  rw [I_bitCount hsm, Option.bind_some, show (17 : Int32) = nI 17 from rfl, nI_add]
  have e1 := pcn_zero (T := S &&& (((1 : Int32) <<< (nI b &&& 31)) - 1)) (b := b) (fun i hi => by rw [hT, decide_eq_false (by omega), Bool.and_false]) (16 - b)
  rw [show b + (16 - b) = 16 by omega] at e1
  rw [e1, pcn_low (S := S) b (fun i hi => by rw [hT, decide_eq_true hi, Bool.and_true])]
theorem J_contains (S : Int32) {b : Nat} (hb : b < 16) : p_J_contains S (nI b) = some (b2i (bt S b)) := by
  unfold p_J_contains p_J_contains_14
  cases h : bt S b with
  | true => rw [if_pos ((bit1 S (by omega)).mpr h)]; rfl
  | false => rw [if_neg (fun q => by rw [(bit1 S (by omega)).mp q] at h; cases h)]; rfl
