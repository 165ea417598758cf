/-! THE DISK'S INVARIANT: no head, or a head whose images give back a well-formed disk -/
def HZ (dk : Nat → Int32) : Prop := ∀ j, j < 16 → dk (256 + j) = 0
def JI (dk : Nat → Int32) : Prop := HZ dk ∧ WF dk
def JH (dk D0 : Nat → Int32) (S : Int32) : Prop := sm S ∧ 0 < pcn S 16 ∧ WF D0 ∧ (∀ j, j < 16 → dk (256 + j) = hdf (pcn S 16) S (chk dk (pcn S 16)) j) ∧ (∀ b, b < 16 → bt S b = true → ∀ j, j < 16 → dk (16 * (17 + pcn S b) + j) = D0 (16 * b + j)) ∧ (∀ b, b < 16 → bt S b = false → ∀ j, j < 16 → dk (16 * b + j) = D0 (16 * b + j))
theorem pcn_mono (S : Int32) : ∀ (k a : Nat), pcn S a ≤ pcn S (a + k) := by
  intro k
  induction k with
  | zero => intro a; exact Nat.le_refl _
  | succ k ih =>
    intro a
    have := ih a
    show _ ≤ pcn S (a + k) + _
    omega
theorem pcn_lt (S : Int32) {a b : Nat} (h : a < b) (ha : bt S a = true) : pcn S a < pcn S b := by
  have h1 := pcn_mono S (b - (a + 1)) (a + 1)
  rw [show a + 1 + (b - (a + 1)) = b by omega] at h1
  have h2 : pcn S (a + 1) = pcn S a + (if bt S a = true then 1 else 0) := rfl
  rw [if_pos ha] at h2
  omega
theorem pcn_pos {S : Int32} (hS : sm S) (h0 : S ≠ 0) : 0 < pcn S 16 := by
  by_cases h : ∃ i, i < 16 ∧ bt S i = true
  · obtain ⟨i, hi, hb⟩ := h
    have := pcn_lt S hi hb
    omega
  · exfalso
    refine h0 (b_ext (fun i _ => ?_))
    rw [b_0]
    by_cases q : i < 16
    · cases e : bt S i with
      | true => exact absurd ⟨i, q, e⟩ h
      | false => rfl
    · exact hS i (by omega)
theorem ck_congr {dk dk' : Nat → Int32} : ∀ (m k : Nat) (c : Int32), (∀ i, k ≤ i → i < k + m → dk i = dk' i) → ck dk m k c = ck dk' m k c := by
  intro m
  induction m with
  | zero => intro k c _; rfl
  | succ m ih =>
    intro k c h
    show ck dk m (k + 1) (31 * c + dk k) = ck dk' m (k + 1) (31 * c + dk' k)
    rw [h k (by omega) (by omega)]
    exact ih (k + 1) _ (fun i h1 h2 => h i (by omega) (by omega))
theorem chk_congr {dk dk' : Nat → Int32} (n : Nat) (h : ∀ i, 272 ≤ i → dk i = dk' i) : chk dk n = chk dk' n := ck_congr _ _ _ (fun i h1 _ => h i h1)
theorem put_dk (u : UU) (b : Nat) (f : Nat → Int32) : ((putU u b f).1 = true ∧ (putU u b f).2.2.2 = blk u.2.2 b f) ∨ ((putU u b f).1 = false ∧ (putU u b f).2.2.2 = u.2.2) := by
  unfold putU put
  by_cases q : u.1 = 0
  · rw [if_pos q]; exact Or.inr ⟨rfl, rfl⟩
  · rw [if_neg q]; exact Or.inl ⟨rfl, rfl⟩
theorem runs_inv {S : Int32} {tg : Nat → Nat} {src : Nat → (Nat → Int32) → Nat → Int32} (P : Nat → (Nat → Int32) → Prop) (h1 : ∀ b d, b < 16 → P b d → bt S b = true → P (b + 1) (blk d (tg b) (src b d))) (h2 : ∀ b d, b < 16 → P b d → bt S b = false → P (b + 1) d) : ∀ c b u, b + c = 16 → P b u.2.2 → ((runs S tg src c b u).1 = true → P 16 (runs S tg src c b u).2.2.2) ∧ ((runs S tg src c b u).1 = false → ∃ b', b' ≤ 16 ∧ P b' (runs S tg src c b u).2.2.2) := by
  intro c
  induction c with
  | zero =>
    intro b u hb hP
    have e : b = 16 := by omega
    subst e
    exact ⟨fun _ => hP, fun h => by cases h⟩
  | succ c ih =>
    intro b u hb hP
    cases hS : bt S b with
    | false =>
      rw [runs_f hS]
      exact ih (b + 1) u (by omega) (h2 b u.2.2 (by omega) hP hS)
    | true =>
      rw [runs_t hS]
      rcases put_dk u (tg b) (src b u.2.2) with ⟨e1, e2⟩ | ⟨e1, e2⟩
      · generalize putU u (tg b) (src b u.2.2) = r at e1 e2 ⊢
        obtain ⟨ok, u'⟩ := r
        have e1 : ok = true := e1
        subst e1
        rw [thn_t]
        refine ih (b + 1) u' (by omega) ?_
        rw [show u'.2.2 = _ from e2]
        exact h1 b u.2.2 (by omega) hP hS
      · generalize putU u (tg b) (src b u.2.2) = r at e1 e2 ⊢
        obtain ⟨ok, u'⟩ := r
        have e1 : ok = false := e1
        subst e1
        rw [thn_f]
        refine ⟨fun h => (by cases h), fun _ => ⟨b, by omega, ?_⟩⟩
        rw [show u'.2.2 = _ from e2]
        exact hP
/-- a home block is written while the head stands -/
theorem JH_home {dk D0 : Nat → Int32} {S : Int32} (h : JH dk D0 S) {b : Nat} (hb : b < 16) (hS : bt S b = true) (f : Nat → Int32) : JH (blk dk b f) D0 S := by
  obtain ⟨a1, a2, a3, a4, a5, a6⟩ := h
  refine ⟨a1, a2, a3, fun j hj => ?_, fun b' hb' hS' j hj => ?_, fun b' hb' hS' j hj => ?_⟩
  · rw [blk_out dk f (by omega), a4 j hj, chk_congr (dk := blk dk b f) (dk' := dk) (pcn S 16) (fun i hi => blk_out dk f (by omega))]
  · rw [blk_out dk f (by omega)]
    exact a5 b' hb' hS' j hj
  · have hne : b' ≠ b := fun z => by rw [z, hS] at hS'; cases hS'
    rw [blk_out dk f (by omega)]
    exact a6 b' hb' hS' j hj
def homeIs (S : Int32) (m : Nat → Int32) (b : Nat) (d : Nat → Int32) : Prop := ∀ b', b' < b → bt S b' = true → ∀ j, j < 16 → d (16 * b' + j) = m (16 * b' + j)
theorem homeIs_step {S : Int32} {m d f : Nat → Int32} {b : Nat} (h : homeIs S m b d) (hf : ∀ j, j < 16 → f j = m (16 * b + j)) : homeIs S m (b + 1) (blk d b f) := fun b' hb' hS' j hj => by
  by_cases e : b' = b
  · subst e
    rw [blk_in d f hj]
    exact hf j hj
  · rw [blk_out d f (by omega)]
    exact h b' (by omega) hS' j hj
theorem homeIs_skip {S : Int32} {m d : Nat → Int32} {b : Nat} (h : homeIs S m b d) (hS : bt S b = false) : homeIs S m (b + 1) d := fun b' hb' hS' j hj => by
  have e : b' ≠ b := fun z => by rw [z, hS] at hS'; cases hS'
  exact h b' (by omega) hS' j hj
theorem cput_inv {u : UU} : ((cput u).1 = true → HZ (cput u).2.2.2 ∧ ∀ j, j < 256 → (cput u).2.2.2 j = u.2.2 j) ∧ ((cput u).1 = false → (cput u).2.2.2 = u.2.2) := by
  rcases put_dk u 16 zf with ⟨e1, e2⟩ | ⟨e1, e2⟩
  · refine ⟨fun _ => ?_, fun h => ?_⟩
    · rw [show (cput u).2.2.2 = _ from e2]
      exact ⟨fun j hj => blk_in u.2.2 (b := 16) zf hj, fun j hj => blk_out u.2.2 zf (by omega)⟩
    · rw [show (cput u).1 = _ from e1] at h
      cases h
  · refine ⟨fun h => ?_, fun _ => e2⟩
    rw [show (cput u).1 = _ from e1] at h
    cases h
theorem rcv_inv {u : UU} {D0 : Nat → Int32} {S : Int32} (h : JH u.2.2 D0 S) : ((rcv S u).1 = true → HZ (rcv S u).2.2.2 ∧ ∀ j, j < 256 → (rcv S u).2.2.2 j = D0 j) ∧ ((rcv S u).1 = false → JH (rcv S u).2.2.2 D0 S) := by
  have H := runs_inv (S := S) (tg := fun b => b) (src := srcI S) (fun b d => JH d D0 S ∧ homeIs S D0 b d)
    (fun b d hb hP hS => ⟨JH_home hP.1 hb hS _, homeIs_step hP.2 (fun j hj => hP.1.2.2.2.2.1 b hb hS j hj)⟩)
    (fun b d hb hP hS => ⟨hP.1, homeIs_skip hP.2 hS⟩) 16 0 u (by omega) ⟨h, fun b' hb' => by omega⟩
  unfold rcv
  have e : rsts S 16 0 u = runs S (fun b => b) (srcI S) 16 0 u := rfl
  rw [← e] at H
  generalize rsts S 16 0 u = r at H
  obtain ⟨ok, u'⟩ := r
  cases ok with
  | true =>
    obtain ⟨hJ, hH⟩ := H.1 rfl
    rw [thn_t]
    refine ⟨fun q => ?_, fun q => ?_⟩
    · obtain ⟨z1, z2⟩ := cput_inv.1 q
      refine ⟨z1, fun j hj => ?_⟩
      rw [z2 j hj]
      have ej : j = 16 * (j / 16) + j % 16 := by omega
      rw [ej]
      cases hS : bt S (j / 16) with
      | true => exact hH (j / 16) (by omega) hS (j % 16) (by omega)
      | false => exact hJ.2.2.2.2.2 (j / 16) (by omega) hS (j % 16) (by omega)
    · rw [cput_inv.2 q]
      exact hJ
  | false =>
    obtain ⟨b', -, hJ, -⟩ := H.2 rfl
    rw [thn_f]
    exact ⟨fun q => (by cases q), fun _ => hJ⟩
theorem cmt_inv {u : UU} {mm : Nat → Int32} {S : Int32} (hI : JI u.2.2) (hm : WF mm) (hS : setD u.2.2 mm S) (hn : 0 < pcn S 16) : ((cmt S mm u).1 = true → HZ (cmt S mm u).2.2.2 ∧ ∀ j, j < 256 → (cmt S mm u).2.2.2 j = mm j) ∧ ((cmt S mm u).1 = false → JI (cmt S mm u).2.2.2 ∨ ∃ D0, JH (cmt S mm u).2.2.2 D0 S) := by
  have hJI : ∀ d : Nat → Int32, (∀ j, j < 272 → d j = u.2.2 j) → JI d := fun d hd => ⟨fun j hj => by rw [hd _ (by omega)]; exact hI.1 j hj, WF_congr (fun j hj => hd j (by omega)) hI.2⟩
  have H := runs_inv (S := S) (tg := tgI S) (src := srcD) (fun b d => (∀ j, j < 272 → d j = u.2.2 j) ∧ ∀ b', b' < b → bt S b' = true → ∀ j, j < 16 → d (16 * (17 + pcn S b') + j) = u.2.2 (16 * b' + j))
    (fun b d hb hP hSb => by
      refine ⟨fun j hj => ?_, fun b' hb' hS' j hj => ?_⟩
      · rw [blk_out d _ (by unfold tgI; omega)]
        exact hP.1 j hj
      · by_cases e : b' = b
        · subst e
          show blk d (17 + pcn S b') (srcD b' d) _ = _
          rw [blk_in d _ hj]
          exact hP.1 _ (by omega)
        · have := pcn_lt S (show b' < b by omega) hS'
          rw [blk_out d _ (by unfold tgI; omega)]
          exact hP.2 b' (by omega) hS' j hj)
    (fun b d hb hP hSb => ⟨hP.1, fun b' hb' hS' j hj => by
      have e : b' ≠ b := fun z => by rw [z, hSb] at hS'; cases hS'
      exact hP.2 b' (by omega) hS' j hj⟩) 16 0 u (by omega) ⟨fun _ _ => rfl, fun b' hb' => by omega⟩
  unfold cmt
  rw [show runs S (tgI S) srcD 16 0 u = imgs S 16 0 u from rfl] at H
  generalize imgs S 16 0 u = r at H
  obtain ⟨ok, u1⟩ := r
  cases ok with
  | false =>
    obtain ⟨b', -, hP, -⟩ := H.2 rfl
    rw [thn_f]
    exact ⟨fun q => (by cases q), fun _ => Or.inl (hJI _ hP)⟩
  | true =>
    obtain ⟨hP1, hP2⟩ := H.1 rfl
    rw [thn_t]
    have hp := put_dk u1 16 (hdf (pcn S 16) S (chk u1.2.2 (pcn S 16)))
    rw [show putU u1 16 (hdf (pcn S 16) S (chk u1.2.2 (pcn S 16))) = hput S u1 from rfl] at hp
    generalize hput S u1 = r at hp
    obtain ⟨ok2, u2⟩ := r
    rcases hp with ⟨e1, e2⟩ | ⟨e1, e2⟩
    · have e1 : ok2 = true := e1
      subst e1
      have e2 : u2.2.2 = blk u1.2.2 16 (hdf (pcn S 16) S (chk u1.2.2 (pcn S 16))) := e2
      rw [thn_t]
      have hJH : JH u2.2.2 u.2.2 S := by
        rw [e2]
        refine ⟨hS.1, hn, hI.2, fun j hj => ?_, fun b hb hSb j hj => ?_, fun b hb hSb j hj => ?_⟩
        · rw [show 256 + j = 16 * 16 + j from rfl, blk_in u1.2.2 _ hj]
          congr 1
          exact chk_congr _ (fun i hi => (blk_out u1.2.2 _ (by omega)).symm)
        · rw [blk_out u1.2.2 _ (by omega)]
          exact hP2 b hb hSb j hj
        · rw [blk_out u1.2.2 _ (by omega)]
          exact hP1 _ (by omega)
      have H3 := runs_inv (S := S) (tg := fun b => b) (src := srcM mm) (fun b d => JH d u.2.2 S ∧ homeIs S mm b d)
        (fun b d hb hP hSb => ⟨JH_home hP.1 hb hSb _, homeIs_step hP.2 (fun j hj => rfl)⟩)
        (fun b d hb hP hSb => ⟨hP.1, homeIs_skip hP.2 hSb⟩) 16 0 u2 (by omega) ⟨hJH, fun b' hb' => by omega⟩
      rw [show runs S (fun b => b) (srcM mm) 16 0 u2 = savs S mm 16 0 u2 from rfl] at H3
      generalize savs S mm 16 0 u2 = r at H3
      obtain ⟨ok3, u3⟩ := r
      cases ok3 with
      | false =>
        obtain ⟨b', -, hJ, -⟩ := H3.2 rfl
        rw [thn_f]
        exact ⟨fun q => (by cases q), fun _ => Or.inr ⟨_, hJ⟩⟩
      | true =>
        obtain ⟨hJ, hH⟩ := H3.1 rfl
        rw [thn_t]
        refine ⟨fun q => ?_, fun q => ?_⟩
        · obtain ⟨z1, z2⟩ := cput_inv.1 q
          refine ⟨z1, fun j hj => ?_⟩
          rw [z2 j hj]
          have ej : j = 16 * (j / 16) + j % 16 := by omega
          rw [ej]
          cases hSb : bt S (j / 16) with
          | true => exact hH (j / 16) (by omega) hSb (j % 16) (by omega)
          | false =>
            show u3.2.2 _ = _
            rw [hJ.2.2.2.2.2 (j / 16) (by omega) hSb (j % 16) (by omega)]
            by_cases y : mm (16 * (j / 16) + j % 16) = u.2.2 (16 * (j / 16) + j % 16)
            · exact y.symm
            · have := (hS.2 (j / 16) (by omega)).mpr ⟨j % 16, by omega, y⟩
              rw [hSb] at this
              cases this
        · rw [cput_inv.2 q]
          exact Or.inr ⟨_, hJ⟩
    · have e1 : ok2 = false := e1
      subst e1
      rw [thn_f]
      refine ⟨fun q => (by cases q), fun _ => Or.inl (hJI _ (fun j hj => ?_))⟩
      rw [show u2.2.2 = _ from e2]
      exact hP1 j hj
