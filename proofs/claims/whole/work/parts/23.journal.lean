/- Journal.contains(II)Z -/
set_option maxHeartbeats 4000000 in
set_option maxRecDepth 100000 in
theorem b_J_contains_14 {p : Program} {l : Launch} {e : Env} {s : State} {m : MethodId} {below : List Frame} {meth : Method} {c : Code} {A : Nat → Prop} {dC : Nat → ClassId} {dI : Nat → Nat → Nat} {cI cZ cS : ClassId} {a1 : Int32} {a2 : Int32} (E : mk_En p s m meth c cX1_contains 2 (some .boolean) ([.int a1, .int a2] : List Value).toArray wsX1_contains yX1_contains.cls) (hA : ∀ q : Nat, s.heap.size ≤ q → A q) (hK : va_K (dC, dI) vwCl (tyz cI cZ cS) s) (R : Int32) (z0 : Int32) (h : p_J_contains_14 z0 = some R) : ∀ (H : Heap) (locs : List Loc) (ls : Array Slot), va_P (dC, dI) vwCl (([] : va_W)) H → va_D A (([] : va_W)) → va_S A s.heap H locs → lv_has ls 2 [] → W p l e ({ frames := 0, cells := 0, slots := 0, locals := 0 } : Room) s m ([.int a1, .int a2] : List Value).toArray below meth c H locs 0 0 (MQ below (mk_QR (dC, dI) vwCl (tyz cI cZ cS) A (([] : va_W)) R) ([.int a1, .int a2] : List Value).toArray s 0 0 A) (F0 m 14 ls [.int z0]) := by
  intro H locs ls hP hD hS hl
  obtain ⟨⟨hx, hb, hml, hown, hts⟩, hrt, hlk, hN⟩ := id E
  have hown : s.vm.findClass RX1 = some m.cls := hown
  unfold p_J_contains_14 at h
  obtain ⟨hc_1, h⟩ := kp_in h
  cases h
  exact mk_zretR E hc_1 hK hP hD hS dX1_contains_14
set_option maxHeartbeats 4000000 in
set_option maxRecDepth 100000 in
theorem c_J_contains (l : Launch) (dC : Nat → ClassId) (dI : Nat → Nat → Nat) (cI cZ cS : ClassId) (a1 : Int32) (a2 : Int32) : CtR l yX1_contains wsX1_contains ({ frames := 0, cells := 0, slots := 0, locals := 0 }) (dC, dI) vwCl (tyz cI cZ cS) [.int a1, .int a2] (([] : va_W)) (p_J_contains a1 a2) := by
  intro R h
  refine mk_enter (Qc := (fun A => mk_QR (dC, dI) vwCl (tyz cI cZ cS) A (([] : va_W)) R)) (by decide) rfl (Nat.le_of_ble_eq_true rfl) ?_
  intro p e s m below meth c A E hA hK H locs ls hP hD hS hl
  obtain ⟨⟨hx, hb, hml, hown, hts⟩, hrt, hlk, hN⟩ := id E
  have hown : s.vm.findClass RX1 = some m.cls := hown
  have hl : lv_has ls 2 [(0, .int a1), (1, .int a2)] := hl
  unfold p_J_contains at h
  refine lv_iload_n hx hb dX1_contains_0 rfl (lv_at hl 0 rfl) ?_
  refine lv_iload_n hx hb dX1_contains_1 rfl (lv_at hl 1 rfl) ?_
  refine lv_ishr hx hb dX1_contains_2 ?_
  refine lv_iconst (v := 1) hx hb dX1_contains_3 (by decide) ?_
  refine lv_iand hx hb dX1_contains_4 ?_
  refine lv_iconst (v := 1) hx hb dX1_contains_5 (by decide) ?_
  refine lv_icmp_ne (tgt := 13) hx hb dX1_contains_6 (by decide) (fun c_2 => ?_) (fun c_2 => ?_)
  · replace h := (kp_if h).2 c_2
    refine lv_iconst (v := 0) hx hb dX1_contains_13 (by decide) ?_
    exact b_J_contains_14 E hA hK R 0 h H locs ls hP hD hS (lv_sub hl [] rfl)
  · replace h := (kp_if h).1 c_2
    refine lv_iconst (v := 1) hx hb dX1_contains_9 (by decide) ?_
    refine lv_goto (tgt := 14) hx hb dX1_contains_10 (by decide) ?_
    exact b_J_contains_14 E hA hK R 1 h H locs ls hP hD hS (lv_sub hl [] rfl)

/- Journal.imageOf(II)I -/
set_option maxHeartbeats 4000000 in
set_option maxRecDepth 100000 in
theorem c_J_imageOf (l : Launch) (dC : Nat → ClassId) (dI : Nat → Nat → Nat) (cI cZ cS : ClassId) (a1 : Int32) (a2 : Int32) : CtR l yX1_imageOf wsX1_imageOf ({ frames := 1, cells := 0, slots := 0, locals := 20 }) (dC, dI) vwCl (tyz cI cZ cS) [.int a1, .int a2] (([] : va_W)) (p_J_imageOf a1 a2) := by
  intro R h
  refine mk_enter (Qc := (fun A => mk_QR (dC, dI) vwCl (tyz cI cZ cS) A (([] : va_W)) R)) (by decide) rfl (Nat.le_of_ble_eq_true rfl) ?_
  intro p e s m below meth c A E hA hK H locs ls hP hD hS hl
  obtain ⟨⟨hx, hb, hml, hown, hts⟩, hrt, hlk, hN⟩ := id E
  have hown : s.vm.findClass RX1 = some m.cls := hown
  have hl : lv_has ls 2 [(0, .int a1), (1, .int a2)] := hl
  unfold p_J_imageOf at h
  refine lv_bipush (v := 17) hx hb dX1_imageOf_0 (by decide) ?_
  refine lv_iload_n hx hb dX1_imageOf_2 rfl (lv_at hl 0 rfl) ?_
  refine lv_iconst (v := 1) hx hb dX1_imageOf_3 (by decide) ?_
  refine lv_iload_n hx hb dX1_imageOf_4 rfl (lv_at hl 1 rfl) ?_
  refine lv_ishl hx hb dX1_imageOf_5 ?_
  refine lv_iconst (v := 1) hx hb dX1_imageOf_6 (by decide) ?_
  refine lv_isub hx hb dX1_imageOf_7 ?_
  refine lv_iand hx hb dX1_imageOf_8 ?_
  obtain ⟨r_1, hr_1, h⟩ := kp_bind h
  refine mk_contR (w := ([] : va_W)) (w0 := ([] : va_W)) (wr := []) hP hD hS hA [] [] rfl rfl (by decide) (by decide) [] rfl (by decide) (va_runS (As := [.int (a1 &&& (((1 : Int32) <<< (a2 &&& 31)) - 1))]) (rest := [.int 17]) ⟨hx, hb, hml, hown, hts⟩ (c_I_bitCount l dC dI cI cZ cS  (a1 &&& (((1 : Int32) <<< (a2 &&& 31)) - 1)) r_1 hr_1 H.size) (va_cwS 1 hts gX1_imageOf_J6_bitCount_0f7a4 rfl rfl rfl (by decide +kernel) ⟨Nat.le_of_ble_eq_true rfl, Nat.le_of_ble_eq_true rfl⟩) (mk_preS (w0 := ([] : va_W)) hN hK (mk_pick hP [] rfl) (hD.sub [] (by decide) rfl)) rfl rfl hl.1 rfl (lv_room (Nat.le_of_ble_eq_true rfl)) dX1_imageOf_9 ⟨Nat.zero_le _, Nat.zero_le _⟩) (fun H locs hP hD hS => ?_)
  refine lv_iadd hx hb dX1_imageOf_12 ?_
  cases h
  exact mk_iretR E hK hP hD hS dX1_imageOf_13

/- Journal.changedBlocks()I -/
set_option maxRecDepth 20000 in
theorem mm_J_changedBlocks_0 : Cond.fieldLink RX1 19 "JournaledTables$Journal" "memory" "LJournaledTables$Memory;" ∈ wsX1_changedBlocks := by decide +kernel
set_option maxRecDepth 20000 in
theorem iw_J_changedBlocks_Journal : ∀ w ∈ u_ws RX1 TX1 3, w ∈ wsX1_changedBlocks := by decide +kernel
set_option maxRecDepth 20000 in
theorem mm_J_changedBlocks_2 : Cond.fieldLink RX1 15 "JournaledTables$Journal" "disk" "LJournaledTables$Disk;" ∈ wsX1_changedBlocks := by decide +kernel
set_option maxHeartbeats 4000000 in
set_option maxRecDepth 100000 in
theorem b_J_changedBlocks_31 {p : Program} {l : Launch} {e : Env} {s : State} {m : MethodId} {below : List Frame} {meth : Method} {c : Code} {A : Nat → Prop} {dC : Nat → ClassId} {dI : Nat → Nat → Nat} {cI cZ cS : ClassId} {aJ aJh aD aDw aM aMw : Nat} {hd : Nat → Int32} {pw : Int32} {wl : Int32} {wn : Int32} {dk : Nat → Int32} {mm : Nat → Int32} (E : mk_En p s m meth c cX1_changedBlocks 3 (some .int) ([.ref aJ] : List Value).toArray wsX1_changedBlocks yX1_changedBlocks.cls) (hA : ∀ q : Nat, s.heap.size ≤ q → A q) (hK : va_K (dC, dI) vwCl (tyz cI cZ cS) s) (R : Int32) {k_4 : Int32 → Int32 → Option Int32} (hk_4 : ∀ (x1 : Int32) (x2 : Int32), k_4 x1 x2 = some R → ∀ (H : Heap) (locs : List Loc) (ls : Array Slot), va_P (dC, dI) vwCl (w_J cI cZ cS aJ aJh aD aDw aM aMw hd pw wl wn dk mm) H → va_D A (w_J cI cZ cS aJ aJh aD aDw aM aMw hd pw wl wn dk mm) → va_S A s.heap H locs → lv_has ls 3 [(0, .ref aJ), (1, .int x1), (2, .int x2)] → W p l e ({ frames := 1, cells := 0, slots := 0, locals := 24 } : Room) s m ([.ref aJ] : List Value).toArray below meth c H locs 0 0 (MQ below (mk_QR (dC, dI) vwCl (tyz cI cZ cS) A (w_J cI cZ cS aJ aJh aD aDw aM aMw hd pw wl wn dk mm) R) ([.ref aJ] : List Value).toArray s 0 0 A) (F0 m 4 ls [])) (x1 : Int32) (x2 : Int32) (h : p_J_changedBlocks_31 dk mm k_4 x1 x2 = some R) : ∀ (H : Heap) (locs : List Loc) (ls : Array Slot), va_P (dC, dI) vwCl (w_J cI cZ cS aJ aJh aD aDw aM aMw hd pw wl wn dk mm) H → va_D A (w_J cI cZ cS aJ aJh aD aDw aM aMw hd pw wl wn dk mm) → va_S A s.heap H locs → lv_has ls 3 [(0, .ref aJ), (1, .int x1), (2, .int x2)] → W p l e ({ frames := 1, cells := 0, slots := 0, locals := 24 } : Room) s m ([.ref aJ] : List Value).toArray below meth c H locs 0 0 (MQ below (mk_QR (dC, dI) vwCl (tyz cI cZ cS) A (w_J cI cZ cS aJ aJh aD aDw aM aMw hd pw wl wn dk mm) R) ([.ref aJ] : List Value).toArray s 0 0 A) (F0 m 31 ls []) := by
  intro H locs ls hP hD hS hl
  obtain ⟨⟨hx, hb, hml, hown, hts⟩, hrt, hlk, hN⟩ := id E
  have hown : s.vm.findClass RX1 = some m.cls := hown
  unfold p_J_changedBlocks_31 at h
  refine lv_iinc (v := x2 + 1) (lv' := [(2, .int (x2 + 1)), (0, .ref aJ), (1, .int x1)]) hx hb dX1_changedBlocks_31 hl (k := 2) rfl rfl (by decide) rfl (fun ls hl => ?_)
  refine lv_goto (tgt := 4) hx hb dX1_changedBlocks_34 (by decide) ?_
  exact hk_4 x1 (x2 + 1) h H locs ls hP hD hS (lv_sub hl [1, 2, 0] rfl)
set_option maxHeartbeats 4000000 in
set_option maxRecDepth 100000 in
theorem b_J_changedBlocks_4 {p : Program} {l : Launch} {e : Env} {s : State} {m : MethodId} {below : List Frame} {meth : Method} {c : Code} {A : Nat → Prop} {dC : Nat → ClassId} {dI : Nat → Nat → Nat} {cI cZ cS : ClassId} {aJ aJh aD aDw aM aMw : Nat} {hd : Nat → Int32} {pw : Int32} {wl : Int32} {wn : Int32} {dk : Nat → Int32} {mm : Nat → Int32} (E : mk_En p s m meth c cX1_changedBlocks 3 (some .int) ([.ref aJ] : List Value).toArray wsX1_changedBlocks yX1_changedBlocks.cls) (hA : ∀ q : Nat, s.heap.size ≤ q → A q) (hK : va_K (dC, dI) vwCl (tyz cI cZ cS) s) (R : Int32) {k_4 : Int32 → Int32 → Option Int32} (hk_4 : ∀ (x1 : Int32) (x2 : Int32), k_4 x1 x2 = some R → ∀ (H : Heap) (locs : List Loc) (ls : Array Slot), va_P (dC, dI) vwCl (w_J cI cZ cS aJ aJh aD aDw aM aMw hd pw wl wn dk mm) H → va_D A (w_J cI cZ cS aJ aJh aD aDw aM aMw hd pw wl wn dk mm) → va_S A s.heap H locs → lv_has ls 3 [(0, .ref aJ), (1, .int x1), (2, .int x2)] → W p l e ({ frames := 1, cells := 0, slots := 0, locals := 24 } : Room) s m ([.ref aJ] : List Value).toArray below meth c H locs 0 0 (MQ below (mk_QR (dC, dI) vwCl (tyz cI cZ cS) A (w_J cI cZ cS aJ aJh aD aDw aM aMw hd pw wl wn dk mm) R) ([.ref aJ] : List Value).toArray s 0 0 A) (F0 m 4 ls [])) (x1 : Int32) (x2 : Int32) (h : p_J_changedBlocks_4 dk mm k_4 x1 x2 = some R) : ∀ (H : Heap) (locs : List Loc) (ls : Array Slot), va_P (dC, dI) vwCl (w_J cI cZ cS aJ aJh aD aDw aM aMw hd pw wl wn dk mm) H → va_D A (w_J cI cZ cS aJ aJh aD aDw aM aMw hd pw wl wn dk mm) → va_S A s.heap H locs → lv_has ls 3 [(0, .ref aJ), (1, .int x1), (2, .int x2)] → W p l e ({ frames := 1, cells := 0, slots := 0, locals := 24 } : Room) s m ([.ref aJ] : List Value).toArray below meth c H locs 0 0 (MQ below (mk_QR (dC, dI) vwCl (tyz cI cZ cS) A (w_J cI cZ cS aJ aJh aD aDw aM aMw hd pw wl wn dk mm) R) ([.ref aJ] : List Value).toArray s 0 0 A) (F0 m 4 ls []) := by
  intro H locs ls hP hD hS hl
  obtain ⟨⟨hx, hb, hml, hown, hts⟩, hrt, hlk, hN⟩ := id E
  have hown : s.vm.findClass RX1 = some m.cls := hown
  unfold p_J_changedBlocks_4 at h
  refine lv_iload_n hx hb dX1_changedBlocks_4 rfl (lv_at hl 2 rfl) ?_
  refine lv_bipush (v := 16) hx hb dX1_changedBlocks_5 (by decide) ?_
  refine lv_icmp_ge (tgt := 37) hx hb dX1_changedBlocks_7 (by decide) (fun c_1 => ?_) (fun c_1 => ?_)
  · replace h := (kp_if h).1 c_1
    refine lv_iload_n hx hb dX1_changedBlocks_37 rfl (lv_at hl 1 rfl) ?_
    cases h
    exact mk_iretR E hK hP hD hS dX1_changedBlocks_38
  · replace h := (kp_if h).2 c_1
    refine lv_aload_n hx hb dX1_changedBlocks_10 rfl (lv_at hl 0 rfl) ?_
    refine va_get (D := (dC, dI)) (ci := 1) (v := .ref aM) (C := RX1) (T := TX1) (N := 3) hx hb hts iw_J_changedBlocks_Journal hown hK hP 0 rfl rfl 1 (by decide) (hts _ mm_J_changedBlocks_0) (fun _ h9 => h9) rfl dX1_changedBlocks_11 ?_
    refine lv_aload_n hx hb dX1_changedBlocks_14 rfl (lv_at hl 0 rfl) ?_
    refine va_get (D := (dC, dI)) (ci := 1) (v := .ref aD) (C := RX1) (T := TX1) (N := 3) hx hb hts iw_J_changedBlocks_Journal hown hK hP 0 rfl rfl 0 (by decide) (hts _ mm_J_changedBlocks_2) (fun _ h9 => h9) rfl dX1_changedBlocks_15 ?_
    refine lv_iload_n hx hb dX1_changedBlocks_18 rfl (lv_at hl 2 rfl) ?_
    obtain ⟨r_2, hr_2, h⟩ := kp_bind h
    refine mk_contR (w := w_J cI cZ cS aJ aJh aD aDw aM aMw hd pw wl wn dk mm) (w0 := w_MD cI cZ cS aM aMw aD aDw mm pw wl wn dk) (wr := [(aJ, .inr (1, [.ref aD, .ref aM, .ref aJh])), (aJh, .inl (cI, 16, .inl hd))]) hP hD hS hA [4, 5, 2, 3] [0, 1] rfl rfl (by decide) (by decide) [0, 1, 4, 5, 2, 3] rfl (by decide) (va_runV (As := [.ref aD, .int x2]) (rest := []) ⟨hx, hb, hml, hown, hts⟩ (c_M_differs l dC dI cI cZ cS aM aMw aD aDw mm pw wl wn dk x2 r_2 hr_2 H.size) (cwV 2 hts gX1_changedBlocks_X2_differs rfl rfl rfl (by decide +kernel) ⟨Nat.le_of_ble_eq_true rfl, Nat.le_of_ble_eq_true rfl⟩) (mk_preV (w0 := w_MD cI cZ cS aM aMw aD aDw mm pw wl wn dk) (ci := 2) (q0 := 0) hN hK (mk_pick hP [4, 5, 2, 3] rfl) (hD.sub [4, 5, 2, 3] (by decide) rfl) rfl rfl rfl) rfl rfl hl.1 rfl (lv_room (Nat.le_of_ble_eq_true rfl)) dX1_changedBlocks_19 ⟨Nat.zero_le _, Nat.zero_le _⟩) (fun H locs hP hD hS => ?_)
    refine lv_if_eq (tgt := 31) hx hb dX1_changedBlocks_22 (by decide) (fun c_3 => ?_) (fun c_3 => ?_)
    · replace h := (kp_if h).1 c_3
      exact b_J_changedBlocks_31 E hA hK R hk_4 x1 x2 h H locs ls hP hD hS (lv_sub hl [0, 1, 2] rfl)
    · replace h := (kp_if h).2 c_3
      refine lv_iload_n hx hb dX1_changedBlocks_25 rfl (lv_at hl 1 rfl) ?_
      refine lv_iconst (v := 1) hx hb dX1_changedBlocks_26 (by decide) ?_
      refine lv_iload_n hx hb dX1_changedBlocks_27 rfl (lv_at hl 2 rfl) ?_
      refine lv_ishl hx hb dX1_changedBlocks_28 ?_
      refine lv_ior hx hb dX1_changedBlocks_29 ?_
      refine lv_topi (fun v_4 ev_4 => ?_)
      replace h := kp_kl h v_4 ev_4
      refine lv_istore_n (lv' := [(1, .int v_4), (0, .ref aJ), (2, .int x2)]) hx hb dX1_changedBlocks_30 rfl hl (by decide) rfl (fun ls hl => ?_)
      exact b_J_changedBlocks_31 E hA hK R hk_4 v_4 x2 h H locs ls hP hD hS (lv_sub hl [1, 0, 2] rfl)
set_option maxHeartbeats 4000000 in
set_option maxRecDepth 100000 in
theorem l_J_changedBlocks_4 {p : Program} {l : Launch} {e : Env} {s : State} {m : MethodId} {below : List Frame} {meth : Method} {c : Code} {A : Nat → Prop} {dC : Nat → ClassId} {dI : Nat → Nat → Nat} {cI cZ cS : ClassId} {aJ aJh aD aDw aM aMw : Nat} {hd : Nat → Int32} {pw : Int32} {wl : Int32} {wn : Int32} {dk : Nat → Int32} {mm : Nat → Int32} (E : mk_En p s m meth c cX1_changedBlocks 3 (some .int) ([.ref aJ] : List Value).toArray wsX1_changedBlocks yX1_changedBlocks.cls) (hA : ∀ q : Nat, s.heap.size ≤ q → A q) (hK : va_K (dC, dI) vwCl (tyz cI cZ cS) s) (R : Int32) : ∀ (n : Nat) (x1 : Int32) (x2 : Int32), pl_J_changedBlocks_4 dk mm n x1 x2 = some R → ∀ (H : Heap) (locs : List Loc) (ls : Array Slot), va_P (dC, dI) vwCl (w_J cI cZ cS aJ aJh aD aDw aM aMw hd pw wl wn dk mm) H → va_D A (w_J cI cZ cS aJ aJh aD aDw aM aMw hd pw wl wn dk mm) → va_S A s.heap H locs → lv_has ls 3 [(0, .ref aJ), (1, .int x1), (2, .int x2)] → W p l e ({ frames := 1, cells := 0, slots := 0, locals := 24 } : Room) s m ([.ref aJ] : List Value).toArray below meth c H locs 0 0 (MQ below (mk_QR (dC, dI) vwCl (tyz cI cZ cS) A (w_J cI cZ cS aJ aJh aD aDw aM aMw hd pw wl wn dk mm) R) ([.ref aJ] : List Value).toArray s 0 0 A) (F0 m 4 ls []) := by
  intro n
  induction n with
  | zero =>
    intro x1 x2 h
    cases h
  | succ n ih =>
    intro x1 x2 h
    exact b_J_changedBlocks_4 E hA hK R ih x1 x2 h
set_option maxHeartbeats 4000000 in
set_option maxRecDepth 100000 in
theorem c_J_changedBlocks (l : Launch) (dC : Nat → ClassId) (dI : Nat → Nat → Nat) (cI cZ cS : ClassId) (aJ aJh aD aDw aM aMw : Nat) (hd : Nat → Int32) (pw : Int32) (wl : Int32) (wn : Int32) (dk : Nat → Int32) (mm : Nat → Int32) : CtR l yX1_changedBlocks wsX1_changedBlocks ({ frames := 1, cells := 0, slots := 0, locals := 24 }) (dC, dI) vwCl (tyz cI cZ cS) [.ref aJ] (w_J cI cZ cS aJ aJh aD aDw aM aMw hd pw wl wn dk mm) (p_J_changedBlocks dk mm) := by
  intro R h
  refine mk_enter (Qc := (fun A => mk_QR (dC, dI) vwCl (tyz cI cZ cS) A (w_J cI cZ cS aJ aJh aD aDw aM aMw hd pw wl wn dk mm) R)) (by decide) rfl (Nat.le_of_ble_eq_true rfl) ?_
  intro p e s m below meth c A E hA hK H locs ls hP hD hS hl
  obtain ⟨⟨hx, hb, hml, hown, hts⟩, hrt, hlk, hN⟩ := id E
  have hown : s.vm.findClass RX1 = some m.cls := hown
  have hl : lv_has ls 3 [(0, .ref aJ)] := hl
  unfold p_J_changedBlocks at h
  refine lv_iconst (v := 0) hx hb dX1_changedBlocks_0 (by decide) ?_
  refine lv_istore_n (lv' := [(1, .int 0), (0, .ref aJ)]) hx hb dX1_changedBlocks_1 rfl hl (by decide) rfl (fun ls hl => ?_)
  refine lv_iconst (v := 0) hx hb dX1_changedBlocks_2 (by decide) ?_
  refine lv_istore_n (lv' := [(2, .int 0), (1, .int 0), (0, .ref aJ)]) hx hb dX1_changedBlocks_3 rfl hl (by decide) rfl (fun ls hl => ?_)
  exact l_J_changedBlocks_4 E hA hK R 1000 0 0 h H locs ls hP hD hS (lv_sub hl [2, 1, 0] rfl)

/- Journal.keepImages(I)Z -/
set_option maxRecDepth 20000 in
theorem mm_J_keepImages_0 : Cond.fieldLink RX1 15 "JournaledTables$Journal" "disk" "LJournaledTables$Disk;" ∈ wsX1_keepImages := by decide +kernel
set_option maxRecDepth 20000 in
theorem iw_J_keepImages_Journal : ∀ w ∈ u_ws RX1 TX1 3, w ∈ wsX1_keepImages := by decide +kernel
set_option maxHeartbeats 4000000 in
set_option maxRecDepth 100000 in
theorem b_J_keepImages_34 {p : Program} {l : Launch} {e : Env} {s : State} {m : MethodId} {below : List Frame} {meth : Method} {c : Code} {A : Nat → Prop} {dC : Nat → ClassId} {dI : Nat → Nat → Nat} {cI cZ cS : ClassId} {aJ aJh aD aDw aM aMw : Nat} {hd : Nat → Int32} {mm : Nat → Int32} {a1 : Int32} (E : mk_En p s m meth c cX1_keepImages 3 (some .boolean) ([.ref aJ, .int a1] : List Value).toArray wsX1_keepImages yX1_keepImages.cls) (hA : ∀ q : Nat, s.heap.size ≤ q → A q) (hK : va_K (dC, dI) vwCl (tyz cI cZ cS) s) (R : Int32 × Int32 × Int32 × Int32 × (Nat → Int32)) {k_2 : Int32 → Int32 → Int32 → Int32 → Int32 → (Nat → Int32) → Option (Int32 × Int32 × Int32 × Int32 × (Nat → Int32))} (hk_2 : ∀ (x1 : Int32) (x2 : Int32) (pw : Int32) (wl : Int32) (wn : Int32) (dk : Nat → Int32), k_2 x1 x2 pw wl wn dk = some R → ∀ (H : Heap) (locs : List Loc) (ls : Array Slot), va_P (dC, dI) vwCl (w_J cI cZ cS aJ aJh aD aDw aM aMw hd pw wl wn dk mm) H → va_D A (w_J cI cZ cS aJ aJh aD aDw aM aMw hd pw wl wn dk mm) → va_S A s.heap H locs → lv_has ls 3 [(0, .ref aJ), (1, .int x1), (2, .int x2)] → W p l e ({ frames := 3, cells := 0, slots := 0, locals := 63 } : Room) s m ([.ref aJ, .int a1] : List Value).toArray below meth c H locs 0 0 (MQ below (mk_QI (dC, dI) vwCl (tyz cI cZ cS) A (fun u : Int32 × Int32 × Int32 × (Nat → Int32) => w_J cI cZ cS aJ aJh aD aDw aM aMw hd u.1 u.2.1 u.2.2.1 u.2.2.2 mm) R) ([.ref aJ, .int a1] : List Value).toArray s 0 0 A) (F0 m 2 ls [])) (x1 : Int32) (x2 : Int32) (pw : Int32) (wl : Int32) (wn : Int32) (dk : Nat → Int32) (h : p_J_keepImages_34 k_2 x1 x2 pw wl wn dk = some R) : ∀ (H : Heap) (locs : List Loc) (ls : Array Slot), va_P (dC, dI) vwCl (w_J cI cZ cS aJ aJh aD aDw aM aMw hd pw wl wn dk mm) H → va_D A (w_J cI cZ cS aJ aJh aD aDw aM aMw hd pw wl wn dk mm) → va_S A s.heap H locs → lv_has ls 3 [(0, .ref aJ), (1, .int x1), (2, .int x2)] → W p l e ({ frames := 3, cells := 0, slots := 0, locals := 63 } : Room) s m ([.ref aJ, .int a1] : List Value).toArray below meth c H locs 0 0 (MQ below (mk_QI (dC, dI) vwCl (tyz cI cZ cS) A (fun u : Int32 × Int32 × Int32 × (Nat → Int32) => w_J cI cZ cS aJ aJh aD aDw aM aMw hd u.1 u.2.1 u.2.2.1 u.2.2.2 mm) R) ([.ref aJ, .int a1] : List Value).toArray s 0 0 A) (F0 m 34 ls []) := by
  intro H locs ls hP hD hS hl
  obtain ⟨⟨hx, hb, hml, hown, hts⟩, hrt, hlk, hN⟩ := id E
  have hown : s.vm.findClass RX1 = some m.cls := hown
  unfold p_J_keepImages_34 at h
  refine lv_iinc (v := x2 + 1) (lv' := [(2, .int (x2 + 1)), (0, .ref aJ), (1, .int x1)]) hx hb dX1_keepImages_34 hl (k := 2) rfl rfl (by decide) rfl (fun ls hl => ?_)
  refine lv_goto (tgt := 2) hx hb dX1_keepImages_37 (by decide) ?_
  exact hk_2 x1 (x2 + 1) pw wl wn dk h H locs ls hP hD hS (lv_sub hl [1, 2, 0] rfl)
set_option maxHeartbeats 4000000 in
set_option maxRecDepth 100000 in
theorem b_J_keepImages_2 {p : Program} {l : Launch} {e : Env} {s : State} {m : MethodId} {below : List Frame} {meth : Method} {c : Code} {A : Nat → Prop} {dC : Nat → ClassId} {dI : Nat → Nat → Nat} {cI cZ cS : ClassId} {aJ aJh aD aDw aM aMw : Nat} {hd : Nat → Int32} {mm : Nat → Int32} {a1 : Int32} (E : mk_En p s m meth c cX1_keepImages 3 (some .boolean) ([.ref aJ, .int a1] : List Value).toArray wsX1_keepImages yX1_keepImages.cls) (hA : ∀ q : Nat, s.heap.size ≤ q → A q) (hK : va_K (dC, dI) vwCl (tyz cI cZ cS) s) (R : Int32 × Int32 × Int32 × Int32 × (Nat → Int32)) {k_2 : Int32 → Int32 → Int32 → Int32 → Int32 → (Nat → Int32) → Option (Int32 × Int32 × Int32 × Int32 × (Nat → Int32))} (hk_2 : ∀ (x1 : Int32) (x2 : Int32) (pw : Int32) (wl : Int32) (wn : Int32) (dk : Nat → Int32), k_2 x1 x2 pw wl wn dk = some R → ∀ (H : Heap) (locs : List Loc) (ls : Array Slot), va_P (dC, dI) vwCl (w_J cI cZ cS aJ aJh aD aDw aM aMw hd pw wl wn dk mm) H → va_D A (w_J cI cZ cS aJ aJh aD aDw aM aMw hd pw wl wn dk mm) → va_S A s.heap H locs → lv_has ls 3 [(0, .ref aJ), (1, .int x1), (2, .int x2)] → W p l e ({ frames := 3, cells := 0, slots := 0, locals := 63 } : Room) s m ([.ref aJ, .int a1] : List Value).toArray below meth c H locs 0 0 (MQ below (mk_QI (dC, dI) vwCl (tyz cI cZ cS) A (fun u : Int32 × Int32 × Int32 × (Nat → Int32) => w_J cI cZ cS aJ aJh aD aDw aM aMw hd u.1 u.2.1 u.2.2.1 u.2.2.2 mm) R) ([.ref aJ, .int a1] : List Value).toArray s 0 0 A) (F0 m 2 ls [])) (x1 : Int32) (x2 : Int32) (pw : Int32) (wl : Int32) (wn : Int32) (dk : Nat → Int32) (h : p_J_keepImages_2 k_2 x1 x2 pw wl wn dk = some R) : ∀ (H : Heap) (locs : List Loc) (ls : Array Slot), va_P (dC, dI) vwCl (w_J cI cZ cS aJ aJh aD aDw aM aMw hd pw wl wn dk mm) H → va_D A (w_J cI cZ cS aJ aJh aD aDw aM aMw hd pw wl wn dk mm) → va_S A s.heap H locs → lv_has ls 3 [(0, .ref aJ), (1, .int x1), (2, .int x2)] → W p l e ({ frames := 3, cells := 0, slots := 0, locals := 63 } : Room) s m ([.ref aJ, .int a1] : List Value).toArray below meth c H locs 0 0 (MQ below (mk_QI (dC, dI) vwCl (tyz cI cZ cS) A (fun u : Int32 × Int32 × Int32 × (Nat → Int32) => w_J cI cZ cS aJ aJh aD aDw aM aMw hd u.1 u.2.1 u.2.2.1 u.2.2.2 mm) R) ([.ref aJ, .int a1] : List Value).toArray s 0 0 A) (F0 m 2 ls []) := by
  intro H locs ls hP hD hS hl
  obtain ⟨⟨hx, hb, hml, hown, hts⟩, hrt, hlk, hN⟩ := id E
  have hown : s.vm.findClass RX1 = some m.cls := hown
  unfold p_J_keepImages_2 at h
  refine lv_iload_n hx hb dX1_keepImages_2 rfl (lv_at hl 2 rfl) ?_
  refine lv_bipush (v := 16) hx hb dX1_keepImages_3 (by decide) ?_
  refine lv_icmp_ge (tgt := 40) hx hb dX1_keepImages_5 (by decide) (fun c_1 => ?_) (fun c_1 => ?_)
  · replace h := (kp_if h).1 c_1
    refine lv_iconst (v := 1) hx hb dX1_keepImages_40 (by decide) ?_
    cases h
    exact mk_zret E (by decide) hK hP hD hS dX1_keepImages_41
  · replace h := (kp_if h).2 c_1
    refine lv_iload_n hx hb dX1_keepImages_8 rfl (lv_at hl 1 rfl) ?_
    refine lv_iload_n hx hb dX1_keepImages_9 rfl (lv_at hl 2 rfl) ?_
    obtain ⟨r_2, hr_2, h⟩ := kp_bind h
    refine mk_contR (w := w_J cI cZ cS aJ aJh aD aDw aM aMw hd pw wl wn dk mm) (w0 := ([] : va_W)) (wr := [(aJ, .inr (1, [.ref aD, .ref aM, .ref aJh])), (aJh, .inl (cI, 16, .inl hd)), (aD, .inr (0, [.ref aDw, .int pw, .int wl, .int wn])), (aDw, .inl (cI, 528, .inl dk)), (aM, .inr (2, [.ref aMw])), (aMw, .inl (cI, 256, .inl mm))]) hP hD hS hA [] [0, 1, 2, 3, 4, 5] rfl rfl (by decide) (by decide) [0, 1, 2, 3, 4, 5] rfl (by decide) (va_runS (As := [.int x1, .int x2]) (rest := []) ⟨hx, hb, hml, hown, hts⟩ (c_J_contains l dC dI cI cZ cS  x1 x2 r_2 hr_2 H.size) (va_cwS 2 hts gX1_keepImages_X1_contains rfl rfl rfl (by decide +kernel) ⟨Nat.le_of_ble_eq_true rfl, Nat.le_of_ble_eq_true rfl⟩) (mk_preS (w0 := ([] : va_W)) hN hK (mk_pick hP [] rfl) (hD.sub [] (by decide) rfl)) rfl rfl hl.1 rfl (lv_room (Nat.le_of_ble_eq_true rfl)) dX1_keepImages_10 ⟨Nat.zero_le _, Nat.zero_le _⟩) (fun H locs hP hD hS => ?_)
    refine lv_if_eq (tgt := 34) hx hb dX1_keepImages_13 (by decide) (fun c_3 => ?_) (fun c_3 => ?_)
    · replace h := (kp_if h).1 c_3
      exact b_J_keepImages_34 E hA hK R hk_2 x1 x2 pw wl wn dk h H locs ls hP hD hS (lv_sub hl [0, 1, 2] rfl)
    · replace h := (kp_if h).2 c_3
      refine lv_aload_n hx hb dX1_keepImages_16 rfl (lv_at hl 0 rfl) ?_
      refine va_get (D := (dC, dI)) (ci := 1) (v := .ref aD) (C := RX1) (T := TX1) (N := 3) hx hb hts iw_J_keepImages_Journal hown hK hP 0 rfl rfl 0 (by decide) (hts _ mm_J_keepImages_0) (fun _ h9 => h9) rfl dX1_keepImages_17 ?_
      refine lv_iload_n hx hb dX1_keepImages_20 rfl (lv_at hl 1 rfl) ?_
      refine lv_iload_n hx hb dX1_keepImages_21 rfl (lv_at hl 2 rfl) ?_
      obtain ⟨r_4, hr_4, h⟩ := kp_bind h
      refine mk_contR (w := w_J cI cZ cS aJ aJh aD aDw aM aMw hd pw wl wn dk mm) (w0 := ([] : va_W)) (wr := [(aJ, .inr (1, [.ref aD, .ref aM, .ref aJh])), (aJh, .inl (cI, 16, .inl hd)), (aD, .inr (0, [.ref aDw, .int pw, .int wl, .int wn])), (aDw, .inl (cI, 528, .inl dk)), (aM, .inr (2, [.ref aMw])), (aMw, .inl (cI, 256, .inl mm))]) hP hD hS hA [] [0, 1, 2, 3, 4, 5] rfl rfl (by decide) (by decide) [0, 1, 2, 3, 4, 5] rfl (by decide) (va_runS (As := [.int x1, .int x2]) (rest := [.ref aD]) ⟨hx, hb, hml, hown, hts⟩ (c_J_imageOf l dC dI cI cZ cS  x1 x2 r_4 hr_4 H.size) (va_cwS 2 hts gX1_keepImages_X1_imageOf rfl rfl rfl (by decide +kernel) ⟨Nat.le_of_ble_eq_true rfl, Nat.le_of_ble_eq_true rfl⟩) (mk_preS (w0 := ([] : va_W)) hN hK (mk_pick hP [] rfl) (hD.sub [] (by decide) rfl)) rfl rfl hl.1 rfl (lv_room (Nat.le_of_ble_eq_true rfl)) dX1_keepImages_22 ⟨Nat.zero_le _, Nat.zero_le _⟩) (fun H locs hP hD hS => ?_)
      refine lv_iload_n hx hb dX1_keepImages_25 rfl (lv_at hl 2 rfl) ?_
      obtain ⟨r_5, hr_5, h⟩ := kp_bind h
      refine mk_contI (w := w_J cI cZ cS aJ aJh aD aDw aM aMw hd pw wl wn dk mm) (w0 := w_D cI cZ cS aD aDw pw wl wn dk) (wr := [(aJ, .inr (1, [.ref aD, .ref aM, .ref aJh])), (aJh, .inl (cI, 16, .inl hd)), (aM, .inr (2, [.ref aMw])), (aMw, .inl (cI, 256, .inl mm))]) (w2 := w_J cI cZ cS aJ aJh aD aDw aM aMw hd r_5.2.1 r_5.2.2.1 r_5.2.2.2.1 r_5.2.2.2.2 mm) hP hD hS hA [2, 3] [0, 1, 4, 5] rfl rfl (by decide) (by decide) [0, 1, 4, 5, 2, 3] rfl (by decide) (va_runV (As := [.int r_4, .int x2]) (rest := []) ⟨hx, hb, hml, hown, hts⟩ (c_D_copyBlock l dC dI cI cZ cS aD aDw pw wl wn dk r_4 x2 r_5 hr_5 H.size) (cwV 2 hts gX1_keepImages_X0_copyBlock rfl rfl rfl (by decide +kernel) ⟨Nat.le_of_ble_eq_true rfl, Nat.le_of_ble_eq_true rfl⟩) (mk_preV (w0 := w_D cI cZ cS aD aDw pw wl wn dk) (ci := 0) (q0 := 0) hN hK (mk_pick hP [2, 3] rfl) (hD.sub [2, 3] (by decide) rfl) rfl rfl rfl) rfl rfl hl.1 rfl (lv_room (Nat.le_of_ble_eq_true rfl)) dX1_keepImages_26 ⟨Nat.zero_le _, Nat.zero_le _⟩) (fun H locs hP hD hS => ?_)
      refine lv_if_ne (tgt := 34) hx hb dX1_keepImages_29 (by decide) (fun c_6 => ?_) (fun c_6 => ?_)
      · replace h := (kp_if h).2 c_6
        exact b_J_keepImages_34 E hA hK R hk_2 x1 x2 r_5.2.1 r_5.2.2.1 r_5.2.2.2.1 r_5.2.2.2.2 h H locs ls hP hD hS (lv_sub hl [0, 1, 2] rfl)
      · replace h := (kp_if h).1 c_6
        refine lv_iconst (v := 0) hx hb dX1_keepImages_32 (by decide) ?_
        cases h
        exact mk_zret E (by decide) hK hP hD hS dX1_keepImages_33
set_option maxHeartbeats 4000000 in
set_option maxRecDepth 100000 in
theorem l_J_keepImages_2 {p : Program} {l : Launch} {e : Env} {s : State} {m : MethodId} {below : List Frame} {meth : Method} {c : Code} {A : Nat → Prop} {dC : Nat → ClassId} {dI : Nat → Nat → Nat} {cI cZ cS : ClassId} {aJ aJh aD aDw aM aMw : Nat} {hd : Nat → Int32} {mm : Nat → Int32} {a1 : Int32} (E : mk_En p s m meth c cX1_keepImages 3 (some .boolean) ([.ref aJ, .int a1] : List Value).toArray wsX1_keepImages yX1_keepImages.cls) (hA : ∀ q : Nat, s.heap.size ≤ q → A q) (hK : va_K (dC, dI) vwCl (tyz cI cZ cS) s) (R : Int32 × Int32 × Int32 × Int32 × (Nat → Int32)) : ∀ (n : Nat) (x1 : Int32) (x2 : Int32) (pw : Int32) (wl : Int32) (wn : Int32) (dk : Nat → Int32), pl_J_keepImages_2 n x1 x2 pw wl wn dk = some R → ∀ (H : Heap) (locs : List Loc) (ls : Array Slot), va_P (dC, dI) vwCl (w_J cI cZ cS aJ aJh aD aDw aM aMw hd pw wl wn dk mm) H → va_D A (w_J cI cZ cS aJ aJh aD aDw aM aMw hd pw wl wn dk mm) → va_S A s.heap H locs → lv_has ls 3 [(0, .ref aJ), (1, .int x1), (2, .int x2)] → W p l e ({ frames := 3, cells := 0, slots := 0, locals := 63 } : Room) s m ([.ref aJ, .int a1] : List Value).toArray below meth c H locs 0 0 (MQ below (mk_QI (dC, dI) vwCl (tyz cI cZ cS) A (fun u : Int32 × Int32 × Int32 × (Nat → Int32) => w_J cI cZ cS aJ aJh aD aDw aM aMw hd u.1 u.2.1 u.2.2.1 u.2.2.2 mm) R) ([.ref aJ, .int a1] : List Value).toArray s 0 0 A) (F0 m 2 ls []) := by
  intro n
  induction n with
  | zero =>
    intro x1 x2 pw wl wn dk h
    cases h
  | succ n ih =>
    intro x1 x2 pw wl wn dk h
    exact b_J_keepImages_2 E hA hK R ih x1 x2 pw wl wn dk h
set_option maxHeartbeats 4000000 in
set_option maxRecDepth 100000 in
theorem c_J_keepImages (l : Launch) (dC : Nat → ClassId) (dI : Nat → Nat → Nat) (cI cZ cS : ClassId) (aJ aJh aD aDw aM aMw : Nat) (hd : Nat → Int32) (pw : Int32) (wl : Int32) (wn : Int32) (dk : Nat → Int32) (mm : Nat → Int32) (a1 : Int32) : CtI l yX1_keepImages wsX1_keepImages ({ frames := 3, cells := 0, slots := 0, locals := 63 }) (dC, dI) vwCl (tyz cI cZ cS) [.ref aJ, .int a1] (w_J cI cZ cS aJ aJh aD aDw aM aMw hd pw wl wn dk mm) (fun u : Int32 × Int32 × Int32 × (Nat → Int32) => w_J cI cZ cS aJ aJh aD aDw aM aMw hd u.1 u.2.1 u.2.2.1 u.2.2.2 mm) (p_J_keepImages pw wl wn dk a1) := by
  intro R h
  refine mk_enter (Qc := (fun A => mk_QI (dC, dI) vwCl (tyz cI cZ cS) A (fun u : Int32 × Int32 × Int32 × (Nat → Int32) => w_J cI cZ cS aJ aJh aD aDw aM aMw hd u.1 u.2.1 u.2.2.1 u.2.2.2 mm) R)) (by decide) rfl (Nat.le_of_ble_eq_true rfl) ?_
  intro p e s m below meth c A E hA hK H locs ls hP hD hS hl
  obtain ⟨⟨hx, hb, hml, hown, hts⟩, hrt, hlk, hN⟩ := id E
  have hown : s.vm.findClass RX1 = some m.cls := hown
  have hl : lv_has ls 3 [(0, .ref aJ), (1, .int a1)] := hl
  unfold p_J_keepImages at h
  refine lv_iconst (v := 0) hx hb dX1_keepImages_0 (by decide) ?_
  refine lv_istore_n (lv' := [(2, .int 0), (0, .ref aJ), (1, .int a1)]) hx hb dX1_keepImages_1 rfl hl (by decide) rfl (fun ls hl => ?_)
  exact l_J_keepImages_2 E hA hK R 1000 a1 0 pw wl wn dk h H locs ls hP hD hS (lv_sub hl [1, 2, 0] rfl)

/- Journal.checkOfImages(I)I -/
set_option maxRecDepth 20000 in
theorem mm_J_checkOfImages_0 : Cond.fieldLink RX1 15 "JournaledTables$Journal" "disk" "LJournaledTables$Disk;" ∈ wsX1_checkOfImages := by decide +kernel
set_option maxRecDepth 20000 in
theorem iw_J_checkOfImages_Journal : ∀ w ∈ u_ws RX1 TX1 3, w ∈ wsX1_checkOfImages := by decide +kernel
set_option maxHeartbeats 4000000 in
set_option maxRecDepth 100000 in
theorem b_J_checkOfImages_16 {p : Program} {l : Launch} {e : Env} {s : State} {m : MethodId} {below : List Frame} {meth : Method} {c : Code} {A : Nat → Prop} {dC : Nat → ClassId} {dI : Nat → Nat → Nat} {cI cZ cS : ClassId} {aJ aJh aD aDw aM aMw : Nat} {hd : Nat → Int32} {pw : Int32} {wl : Int32} {wn : Int32} {dk : Nat → Int32} {mm : Nat → Int32} {a1 : Int32} (E : mk_En p s m meth c cX1_checkOfImages 5 (some .int) ([.ref aJ, .int a1] : List Value).toArray wsX1_checkOfImages yX1_checkOfImages.cls) (hA : ∀ q : Nat, s.heap.size ≤ q → A q) (hK : va_K (dC, dI) vwCl (tyz cI cZ cS) s) (R : Int32) {k_5 : Int32 → Int32 → Int32 → Option Int32} (hk_5 : ∀ (x1 : Int32) (x2 : Int32) (x3 : Int32), k_5 x1 x2 x3 = some R → ∀ (H : Heap) (locs : List Loc) (ls : Array Slot), va_P (dC, dI) vwCl (w_J cI cZ cS aJ aJh aD aDw aM aMw hd pw wl wn dk mm) H → va_D A (w_J cI cZ cS aJ aJh aD aDw aM aMw hd pw wl wn dk mm) → va_S A s.heap H locs → lv_has ls 5 [(0, .ref aJ), (1, .int x1), (2, .int x2), (3, .int x3)] → W p l e ({ frames := 1, cells := 0, slots := 0, locals := 22 } : Room) s m ([.ref aJ, .int a1] : List Value).toArray below meth c H locs 0 0 (MQ below (mk_QR (dC, dI) vwCl (tyz cI cZ cS) A (w_J cI cZ cS aJ aJh aD aDw aM aMw hd pw wl wn dk mm) R) ([.ref aJ, .int a1] : List Value).toArray s 0 0 A) (F0 m 5 ls [])) {k_16 : Int32 → Int32 → Int32 → Int32 → Option Int32} (hk_16 : ∀ (x1 : Int32) (x2 : Int32) (x3 : Int32) (x4 : Int32), k_16 x1 x2 x3 x4 = some R → ∀ (H : Heap) (locs : List Loc) (ls : Array Slot), va_P (dC, dI) vwCl (w_J cI cZ cS aJ aJh aD aDw aM aMw hd pw wl wn dk mm) H → va_D A (w_J cI cZ cS aJ aJh aD aDw aM aMw hd pw wl wn dk mm) → va_S A s.heap H locs → lv_has ls 5 [(0, .ref aJ), (1, .int x1), (2, .int x2), (3, .int x3), (4, .int x4)] → W p l e ({ frames := 1, cells := 0, slots := 0, locals := 22 } : Room) s m ([.ref aJ, .int a1] : List Value).toArray below meth c H locs 0 0 (MQ below (mk_QR (dC, dI) vwCl (tyz cI cZ cS) A (w_J cI cZ cS aJ aJh aD aDw aM aMw hd pw wl wn dk mm) R) ([.ref aJ, .int a1] : List Value).toArray s 0 0 A) (F0 m 16 ls [])) (x1 : Int32) (x2 : Int32) (x3 : Int32) (x4 : Int32) (h : p_J_checkOfImages_16 dk k_5 k_16 x1 x2 x3 x4 = some R) : ∀ (H : Heap) (locs : List Loc) (ls : Array Slot), va_P (dC, dI) vwCl (w_J cI cZ cS aJ aJh aD aDw aM aMw hd pw wl wn dk mm) H → va_D A (w_J cI cZ cS aJ aJh aD aDw aM aMw hd pw wl wn dk mm) → va_S A s.heap H locs → lv_has ls 5 [(0, .ref aJ), (1, .int x1), (2, .int x2), (3, .int x3), (4, .int x4)] → W p l e ({ frames := 1, cells := 0, slots := 0, locals := 22 } : Room) s m ([.ref aJ, .int a1] : List Value).toArray below meth c H locs 0 0 (MQ below (mk_QR (dC, dI) vwCl (tyz cI cZ cS) A (w_J cI cZ cS aJ aJh aD aDw aM aMw hd pw wl wn dk mm) R) ([.ref aJ, .int a1] : List Value).toArray s 0 0 A) (F0 m 16 ls []) := by
  intro H locs ls hP hD hS hl
  obtain ⟨⟨hx, hb, hml, hown, hts⟩, hrt, hlk, hN⟩ := id E
  have hown : s.vm.findClass RX1 = some m.cls := hown
  unfold p_J_checkOfImages_16 at h
  refine lv_iload hx hb dX1_checkOfImages_16 (lv_at hl 4 rfl) ?_
  refine lv_bipush (v := 16) hx hb dX1_checkOfImages_18 (by decide) ?_
  refine lv_icmp_ge (tgt := 45) hx hb dX1_checkOfImages_20 (by decide) (fun c_1 => ?_) (fun c_1 => ?_)
  · replace h := (kp_if h).1 c_1
    refine lv_iinc (v := x3 + 1) (lv' := [(3, .int (x3 + 1)), (0, .ref aJ), (1, .int x1), (2, .int x2), (4, .int x4)]) hx hb dX1_checkOfImages_45 hl (k := 3) rfl rfl (by decide) rfl (fun ls hl => ?_)
    refine lv_goto (tgt := 5) hx hb dX1_checkOfImages_48 (by decide) ?_
    exact hk_5 x1 x2 (x3 + 1) h H locs ls hP hD hS (lv_sub hl [1, 2, 3, 0] rfl)
  · replace h := (kp_if h).2 c_1
    refine lv_bipush (v := 31) hx hb dX1_checkOfImages_23 (by decide) ?_
    refine lv_iload_n hx hb dX1_checkOfImages_25 rfl (lv_at hl 2 rfl) ?_
    refine lv_imul hx hb dX1_checkOfImages_26 ?_
    refine lv_aload_n hx hb dX1_checkOfImages_27 rfl (lv_at hl 0 rfl) ?_
    refine va_get (D := (dC, dI)) (ci := 1) (v := .ref aD) (C := RX1) (T := TX1) (N := 3) hx hb hts iw_J_checkOfImages_Journal hown hK hP 0 rfl rfl 0 (by decide) (hts _ mm_J_checkOfImages_0) (fun _ h9 => h9) rfl dX1_checkOfImages_28 ?_
    refine lv_iload_n hx hb dX1_checkOfImages_31 rfl (lv_at hl 3 rfl) ?_
    refine lv_iload hx hb dX1_checkOfImages_32 (lv_at hl 4 rfl) ?_
    obtain ⟨r_2, hr_2, h⟩ := kp_bind h
    refine mk_contR (w := w_J cI cZ cS aJ aJh aD aDw aM aMw hd pw wl wn dk mm) (w0 := w_D cI cZ cS aD aDw pw wl wn dk) (wr := [(aJ, .inr (1, [.ref aD, .ref aM, .ref aJh])), (aJh, .inl (cI, 16, .inl hd)), (aM, .inr (2, [.ref aMw])), (aMw, .inl (cI, 256, .inl mm))]) hP hD hS hA [2, 3] [0, 1, 4, 5] rfl rfl (by decide) (by decide) [0, 1, 4, 5, 2, 3] rfl (by decide) (va_runV (As := [.int x3, .int x4]) (rest := [.int (31 * x2)]) ⟨hx, hb, hml, hown, hts⟩ (c_D_word l dC dI cI cZ cS aD aDw pw wl wn dk x3 x4 r_2 hr_2 H.size) (cwV 2 hts gX1_checkOfImages_X0_word rfl rfl rfl (by decide +kernel) ⟨Nat.le_of_ble_eq_true rfl, Nat.le_of_ble_eq_true rfl⟩) (mk_preV (w0 := w_D cI cZ cS aD aDw pw wl wn dk) (ci := 0) (q0 := 0) hN hK (mk_pick hP [2, 3] rfl) (hD.sub [2, 3] (by decide) rfl) rfl rfl rfl) rfl rfl hl.1 rfl (lv_room (Nat.le_of_ble_eq_true rfl)) dX1_checkOfImages_34 ⟨Nat.zero_le _, Nat.zero_le _⟩) (fun H locs hP hD hS => ?_)
    refine lv_iadd hx hb dX1_checkOfImages_37 ?_
    refine lv_topi (fun v_3 ev_3 => ?_)
    replace h := kp_kl h v_3 ev_3
    refine lv_istore_n (lv' := [(2, .int v_3), (0, .ref aJ), (1, .int x1), (3, .int x3), (4, .int x4)]) hx hb dX1_checkOfImages_38 rfl hl (by decide) rfl (fun ls hl => ?_)
    refine lv_iinc (v := x4 + 1) (lv' := [(4, .int (x4 + 1)), (2, .int v_3), (0, .ref aJ), (1, .int x1), (3, .int x3)]) hx hb dX1_checkOfImages_39 hl (k := 4) rfl rfl (by decide) rfl (fun ls hl => ?_)
    refine lv_goto (tgt := 16) hx hb dX1_checkOfImages_42 (by decide) ?_
    exact hk_16 x1 v_3 x3 (x4 + 1) h H locs ls hP hD hS (lv_sub hl [2, 3, 1, 4, 0] rfl)
set_option maxHeartbeats 4000000 in
set_option maxRecDepth 100000 in
theorem l_J_checkOfImages_16 {p : Program} {l : Launch} {e : Env} {s : State} {m : MethodId} {below : List Frame} {meth : Method} {c : Code} {A : Nat → Prop} {dC : Nat → ClassId} {dI : Nat → Nat → Nat} {cI cZ cS : ClassId} {aJ aJh aD aDw aM aMw : Nat} {hd : Nat → Int32} {pw : Int32} {wl : Int32} {wn : Int32} {dk : Nat → Int32} {mm : Nat → Int32} {a1 : Int32} (E : mk_En p s m meth c cX1_checkOfImages 5 (some .int) ([.ref aJ, .int a1] : List Value).toArray wsX1_checkOfImages yX1_checkOfImages.cls) (hA : ∀ q : Nat, s.heap.size ≤ q → A q) (hK : va_K (dC, dI) vwCl (tyz cI cZ cS) s) (R : Int32) {k_5 : Int32 → Int32 → Int32 → Option Int32} (hk_5 : ∀ (x1 : Int32) (x2 : Int32) (x3 : Int32), k_5 x1 x2 x3 = some R → ∀ (H : Heap) (locs : List Loc) (ls : Array Slot), va_P (dC, dI) vwCl (w_J cI cZ cS aJ aJh aD aDw aM aMw hd pw wl wn dk mm) H → va_D A (w_J cI cZ cS aJ aJh aD aDw aM aMw hd pw wl wn dk mm) → va_S A s.heap H locs → lv_has ls 5 [(0, .ref aJ), (1, .int x1), (2, .int x2), (3, .int x3)] → W p l e ({ frames := 1, cells := 0, slots := 0, locals := 22 } : Room) s m ([.ref aJ, .int a1] : List Value).toArray below meth c H locs 0 0 (MQ below (mk_QR (dC, dI) vwCl (tyz cI cZ cS) A (w_J cI cZ cS aJ aJh aD aDw aM aMw hd pw wl wn dk mm) R) ([.ref aJ, .int a1] : List Value).toArray s 0 0 A) (F0 m 5 ls [])) : ∀ (n : Nat) (x1 : Int32) (x2 : Int32) (x3 : Int32) (x4 : Int32), pl_J_checkOfImages_16 dk k_5 n x1 x2 x3 x4 = some R → ∀ (H : Heap) (locs : List Loc) (ls : Array Slot), va_P (dC, dI) vwCl (w_J cI cZ cS aJ aJh aD aDw aM aMw hd pw wl wn dk mm) H → va_D A (w_J cI cZ cS aJ aJh aD aDw aM aMw hd pw wl wn dk mm) → va_S A s.heap H locs → lv_has ls 5 [(0, .ref aJ), (1, .int x1), (2, .int x2), (3, .int x3), (4, .int x4)] → W p l e ({ frames := 1, cells := 0, slots := 0, locals := 22 } : Room) s m ([.ref aJ, .int a1] : List Value).toArray below meth c H locs 0 0 (MQ below (mk_QR (dC, dI) vwCl (tyz cI cZ cS) A (w_J cI cZ cS aJ aJh aD aDw aM aMw hd pw wl wn dk mm) R) ([.ref aJ, .int a1] : List Value).toArray s 0 0 A) (F0 m 16 ls []) := by
  intro n
  induction n with
  | zero =>
    intro x1 x2 x3 x4 h
    cases h
  | succ n ih =>
    intro x1 x2 x3 x4 h
    exact b_J_checkOfImages_16 E hA hK R hk_5 ih x1 x2 x3 x4 h
set_option maxHeartbeats 4000000 in
set_option maxRecDepth 100000 in
theorem b_J_checkOfImages_5 {p : Program} {l : Launch} {e : Env} {s : State} {m : MethodId} {below : List Frame} {meth : Method} {c : Code} {A : Nat → Prop} {dC : Nat → ClassId} {dI : Nat → Nat → Nat} {cI cZ cS : ClassId} {aJ aJh aD aDw aM aMw : Nat} {hd : Nat → Int32} {pw : Int32} {wl : Int32} {wn : Int32} {dk : Nat → Int32} {mm : Nat → Int32} {a1 : Int32} (E : mk_En p s m meth c cX1_checkOfImages 5 (some .int) ([.ref aJ, .int a1] : List Value).toArray wsX1_checkOfImages yX1_checkOfImages.cls) (hA : ∀ q : Nat, s.heap.size ≤ q → A q) (hK : va_K (dC, dI) vwCl (tyz cI cZ cS) s) (R : Int32) {k_5 : Int32 → Int32 → Int32 → Option Int32} (hk_5 : ∀ (x1 : Int32) (x2 : Int32) (x3 : Int32), k_5 x1 x2 x3 = some R → ∀ (H : Heap) (locs : List Loc) (ls : Array Slot), va_P (dC, dI) vwCl (w_J cI cZ cS aJ aJh aD aDw aM aMw hd pw wl wn dk mm) H → va_D A (w_J cI cZ cS aJ aJh aD aDw aM aMw hd pw wl wn dk mm) → va_S A s.heap H locs → lv_has ls 5 [(0, .ref aJ), (1, .int x1), (2, .int x2), (3, .int x3)] → W p l e ({ frames := 1, cells := 0, slots := 0, locals := 22 } : Room) s m ([.ref aJ, .int a1] : List Value).toArray below meth c H locs 0 0 (MQ below (mk_QR (dC, dI) vwCl (tyz cI cZ cS) A (w_J cI cZ cS aJ aJh aD aDw aM aMw hd pw wl wn dk mm) R) ([.ref aJ, .int a1] : List Value).toArray s 0 0 A) (F0 m 5 ls [])) (x1 : Int32) (x2 : Int32) (x3 : Int32) (h : p_J_checkOfImages_5 dk k_5 x1 x2 x3 = some R) : ∀ (H : Heap) (locs : List Loc) (ls : Array Slot), va_P (dC, dI) vwCl (w_J cI cZ cS aJ aJh aD aDw aM aMw hd pw wl wn dk mm) H → va_D A (w_J cI cZ cS aJ aJh aD aDw aM aMw hd pw wl wn dk mm) → va_S A s.heap H locs → lv_has ls 5 [(0, .ref aJ), (1, .int x1), (2, .int x2), (3, .int x3)] → W p l e ({ frames := 1, cells := 0, slots := 0, locals := 22 } : Room) s m ([.ref aJ, .int a1] : List Value).toArray below meth c H locs 0 0 (MQ below (mk_QR (dC, dI) vwCl (tyz cI cZ cS) A (w_J cI cZ cS aJ aJh aD aDw aM aMw hd pw wl wn dk mm) R) ([.ref aJ, .int a1] : List Value).toArray s 0 0 A) (F0 m 5 ls []) := by
  intro H locs ls hP hD hS hl
  obtain ⟨⟨hx, hb, hml, hown, hts⟩, hrt, hlk, hN⟩ := id E
  have hown : s.vm.findClass RX1 = some m.cls := hown
  unfold p_J_checkOfImages_5 at h
  refine lv_iload_n hx hb dX1_checkOfImages_5 rfl (lv_at hl 3 rfl) ?_
  refine lv_bipush (v := 17) hx hb dX1_checkOfImages_6 (by decide) ?_
  refine lv_iload_n hx hb dX1_checkOfImages_8 rfl (lv_at hl 1 rfl) ?_
  refine lv_iadd hx hb dX1_checkOfImages_9 ?_
  refine lv_icmp_ge (tgt := 51) hx hb dX1_checkOfImages_10 (by decide) (fun c_4 => ?_) (fun c_4 => ?_)
  · replace h := (kp_if h).1 c_4
    refine lv_iload_n hx hb dX1_checkOfImages_51 rfl (lv_at hl 2 rfl) ?_
    cases h
    exact mk_iretR E hK hP hD hS dX1_checkOfImages_52
  · replace h := (kp_if h).2 c_4
    refine lv_iconst (v := 0) hx hb dX1_checkOfImages_13 (by decide) ?_
    refine lv_istore (lv' := [(4, .int 0), (0, .ref aJ), (1, .int x1), (2, .int x2), (3, .int x3)]) hx hb dX1_checkOfImages_14 hl (by decide) rfl (fun ls hl => ?_)
    exact l_J_checkOfImages_16 E hA hK R hk_5 1000 x1 x2 x3 0 h H locs ls hP hD hS (lv_sub hl [1, 2, 3, 4, 0] rfl)
set_option maxHeartbeats 4000000 in
set_option maxRecDepth 100000 in
theorem l_J_checkOfImages_5 {p : Program} {l : Launch} {e : Env} {s : State} {m : MethodId} {below : List Frame} {meth : Method} {c : Code} {A : Nat → Prop} {dC : Nat → ClassId} {dI : Nat → Nat → Nat} {cI cZ cS : ClassId} {aJ aJh aD aDw aM aMw : Nat} {hd : Nat → Int32} {pw : Int32} {wl : Int32} {wn : Int32} {dk : Nat → Int32} {mm : Nat → Int32} {a1 : Int32} (E : mk_En p s m meth c cX1_checkOfImages 5 (some .int) ([.ref aJ, .int a1] : List Value).toArray wsX1_checkOfImages yX1_checkOfImages.cls) (hA : ∀ q : Nat, s.heap.size ≤ q → A q) (hK : va_K (dC, dI) vwCl (tyz cI cZ cS) s) (R : Int32) : ∀ (n : Nat) (x1 : Int32) (x2 : Int32) (x3 : Int32), pl_J_checkOfImages_5 dk n x1 x2 x3 = some R → ∀ (H : Heap) (locs : List Loc) (ls : Array Slot), va_P (dC, dI) vwCl (w_J cI cZ cS aJ aJh aD aDw aM aMw hd pw wl wn dk mm) H → va_D A (w_J cI cZ cS aJ aJh aD aDw aM aMw hd pw wl wn dk mm) → va_S A s.heap H locs → lv_has ls 5 [(0, .ref aJ), (1, .int x1), (2, .int x2), (3, .int x3)] → W p l e ({ frames := 1, cells := 0, slots := 0, locals := 22 } : Room) s m ([.ref aJ, .int a1] : List Value).toArray below meth c H locs 0 0 (MQ below (mk_QR (dC, dI) vwCl (tyz cI cZ cS) A (w_J cI cZ cS aJ aJh aD aDw aM aMw hd pw wl wn dk mm) R) ([.ref aJ, .int a1] : List Value).toArray s 0 0 A) (F0 m 5 ls []) := by
  intro n
  induction n with
  | zero =>
    intro x1 x2 x3 h
    cases h
  | succ n ih =>
    intro x1 x2 x3 h
    exact b_J_checkOfImages_5 E hA hK R ih x1 x2 x3 h
set_option maxHeartbeats 4000000 in
set_option maxRecDepth 100000 in
theorem c_J_checkOfImages (l : Launch) (dC : Nat → ClassId) (dI : Nat → Nat → Nat) (cI cZ cS : ClassId) (aJ aJh aD aDw aM aMw : Nat) (hd : Nat → Int32) (pw : Int32) (wl : Int32) (wn : Int32) (dk : Nat → Int32) (mm : Nat → Int32) (a1 : Int32) : CtR l yX1_checkOfImages wsX1_checkOfImages ({ frames := 1, cells := 0, slots := 0, locals := 22 }) (dC, dI) vwCl (tyz cI cZ cS) [.ref aJ, .int a1] (w_J cI cZ cS aJ aJh aD aDw aM aMw hd pw wl wn dk mm) (p_J_checkOfImages dk a1) := by
  intro R h
  refine mk_enter (Qc := (fun A => mk_QR (dC, dI) vwCl (tyz cI cZ cS) A (w_J cI cZ cS aJ aJh aD aDw aM aMw hd pw wl wn dk mm) R)) (by decide) rfl (Nat.le_of_ble_eq_true rfl) ?_
  intro p e s m below meth c A E hA hK H locs ls hP hD hS hl
  obtain ⟨⟨hx, hb, hml, hown, hts⟩, hrt, hlk, hN⟩ := id E
  have hown : s.vm.findClass RX1 = some m.cls := hown
  have hl : lv_has ls 5 [(0, .ref aJ), (1, .int a1)] := hl
  unfold p_J_checkOfImages at h
  refine lv_iconst (v := 1) hx hb dX1_checkOfImages_0 (by decide) ?_
  refine lv_istore_n (lv' := [(2, .int 1), (0, .ref aJ), (1, .int a1)]) hx hb dX1_checkOfImages_1 rfl hl (by decide) rfl (fun ls hl => ?_)
  refine lv_bipush (v := 17) hx hb dX1_checkOfImages_2 (by decide) ?_
  refine lv_istore_n (lv' := [(3, .int 17), (2, .int 1), (0, .ref aJ), (1, .int a1)]) hx hb dX1_checkOfImages_4 rfl hl (by decide) rfl (fun ls hl => ?_)
  exact l_J_checkOfImages_5 E hA hK R 1000 a1 1 17 h H locs ls hP hD hS (lv_sub hl [2, 3, 1, 0] rfl)

/- Journal.writeHead(I)Z -/
set_option maxRecDepth 20000 in
theorem mm_J_writeHead_0 : Cond.fieldLink RX1 9 "JournaledTables$Journal" "head" "[I" ∈ wsX1_writeHead := by decide +kernel
set_option maxRecDepth 20000 in
theorem iw_J_writeHead_Journal : ∀ w ∈ u_ws RX1 TX1 3, w ∈ wsX1_writeHead := by decide +kernel
set_option maxRecDepth 20000 in
theorem mm_J_writeHead_2 : Cond.fieldLink RX1 15 "JournaledTables$Journal" "disk" "LJournaledTables$Disk;" ∈ wsX1_writeHead := by decide +kernel
set_option maxHeartbeats 4000000 in
set_option maxRecDepth 100000 in
theorem c_J_writeHead (l : Launch) (dC : Nat → ClassId) (dI : Nat → Nat → Nat) (cI cZ cS : ClassId) (aJ aJh aD aDw aM aMw : Nat) (hd : Nat → Int32) (pw : Int32) (wl : Int32) (wn : Int32) (dk : Nat → Int32) (mm : Nat → Int32) (a1 : Int32) : CtI l yX1_writeHead wsX1_writeHead ({ frames := 2, cells := 0, slots := 0, locals := 46 }) (dC, dI) vwCl (tyz cI cZ cS) [.ref aJ, .int a1] (w_J cI cZ cS aJ aJh aD aDw aM aMw hd pw wl wn dk mm) (fun u : (Nat → Int32) × Int32 × Int32 × Int32 × (Nat → Int32) => w_J cI cZ cS aJ aJh aD aDw aM aMw u.1 u.2.1 u.2.2.1 u.2.2.2.1 u.2.2.2.2 mm) (p_J_writeHead hd pw wl wn dk a1) := by
  intro R h
  refine mk_enter (Qc := (fun A => mk_QI (dC, dI) vwCl (tyz cI cZ cS) A (fun u : (Nat → Int32) × Int32 × Int32 × Int32 × (Nat → Int32) => w_J cI cZ cS aJ aJh aD aDw aM aMw u.1 u.2.1 u.2.2.1 u.2.2.2.1 u.2.2.2.2 mm) R)) (by decide) rfl (Nat.le_of_ble_eq_true rfl) ?_
  intro p e s m below meth c A E hA hK H locs ls hP hD hS hl
  obtain ⟨⟨hx, hb, hml, hown, hts⟩, hrt, hlk, hN⟩ := id E
  have hown : s.vm.findClass RX1 = some m.cls := hown
  have hl : lv_has ls 3 [(0, .ref aJ), (1, .int a1)] := hl
  unfold p_J_writeHead at h
  refine lv_iload_n hx hb dX1_writeHead_0 rfl (lv_at hl 1 rfl) ?_
  obtain ⟨r_1, hr_1, h⟩ := kp_bind h
  refine mk_contR (w := w_J cI cZ cS aJ aJh aD aDw aM aMw hd pw wl wn dk mm) (w0 := ([] : va_W)) (wr := [(aJ, .inr (1, [.ref aD, .ref aM, .ref aJh])), (aJh, .inl (cI, 16, .inl hd)), (aD, .inr (0, [.ref aDw, .int pw, .int wl, .int wn])), (aDw, .inl (cI, 528, .inl dk)), (aM, .inr (2, [.ref aMw])), (aMw, .inl (cI, 256, .inl mm))]) hP hD hS hA [] [0, 1, 2, 3, 4, 5] rfl rfl (by decide) (by decide) [0, 1, 2, 3, 4, 5] rfl (by decide) (va_runS (As := [.int a1]) (rest := []) ⟨hx, hb, hml, hown, hts⟩ (c_I_bitCount l dC dI cI cZ cS  a1 r_1 hr_1 H.size) (va_cwS 1 hts gX1_writeHead_J6_bitCount_0f7a4 rfl rfl rfl (by decide +kernel) ⟨Nat.le_of_ble_eq_true rfl, Nat.le_of_ble_eq_true rfl⟩) (mk_preS (w0 := ([] : va_W)) hN hK (mk_pick hP [] rfl) (hD.sub [] (by decide) rfl)) rfl rfl hl.1 rfl (lv_room (Nat.le_of_ble_eq_true rfl)) dX1_writeHead_1 ⟨Nat.zero_le _, Nat.zero_le _⟩) (fun H locs hP hD hS => ?_)
  refine lv_istore_n (lv' := [(2, .int r_1), (0, .ref aJ), (1, .int a1)]) hx hb dX1_writeHead_4 rfl hl (by decide) rfl (fun ls hl => ?_)
  refine lv_aload_n hx hb dX1_writeHead_5 rfl (lv_at hl 1 rfl) ?_
  refine va_get (D := (dC, dI)) (ci := 1) (v := .ref aJh) (C := RX1) (T := TX1) (N := 3) hx hb hts iw_J_writeHead_Journal hown hK hP 0 rfl rfl 2 (by decide) (hts _ mm_J_writeHead_0) (fun _ h9 => h9) rfl dX1_writeHead_6 ?_
  refine lv_iconst (v := 0) hx hb dX1_writeHead_9 (by decide) ?_
  refine lv_sipush (v := 6517) hx hb dX1_writeHead_10 (by decide) ?_
  obtain ⟨hc_2, h⟩ := kp_in h
  refine va_iast hx hb hK hP hD hS 1 0 rfl rfl (kx_of hc_2) dX1_writeHead_13 (fun H locs hP hD hS => ?_)
  have hP : va_P (dC, dI) vwCl (w_J cI cZ cS aJ aJh aD aDw aM aMw (upd hd (0 : Int32).toNatClampNeg 6517) pw wl wn dk mm) H := hP
  have hD : va_D A (w_J cI cZ cS aJ aJh aD aDw aM aMw (upd hd (0 : Int32).toNatClampNeg 6517) pw wl wn dk mm) := hD
  refine lv_aload_n hx hb dX1_writeHead_14 rfl (lv_at hl 1 rfl) ?_
  refine va_get (D := (dC, dI)) (ci := 1) (v := .ref aJh) (C := RX1) (T := TX1) (N := 3) hx hb hts iw_J_writeHead_Journal hown hK hP 0 rfl rfl 2 (by decide) (hts _ mm_J_writeHead_0) (fun _ h9 => h9) rfl dX1_writeHead_15 ?_
  refine lv_iconst (v := 1) hx hb dX1_writeHead_18 (by decide) ?_
  refine lv_iload_n hx hb dX1_writeHead_19 rfl (lv_at hl 0 rfl) ?_
  obtain ⟨hc_3, h⟩ := kp_in h
  refine va_iast hx hb hK hP hD hS 1 0 rfl rfl (kx_of hc_3) dX1_writeHead_20 (fun H locs hP hD hS => ?_)
  have hP : va_P (dC, dI) vwCl (w_J cI cZ cS aJ aJh aD aDw aM aMw (upd (upd hd (0 : Int32).toNatClampNeg 6517) (1 : Int32).toNatClampNeg r_1) pw wl wn dk mm) H := hP
  have hD : va_D A (w_J cI cZ cS aJ aJh aD aDw aM aMw (upd (upd hd (0 : Int32).toNatClampNeg 6517) (1 : Int32).toNatClampNeg r_1) pw wl wn dk mm) := hD
  refine lv_aload_n hx hb dX1_writeHead_21 rfl (lv_at hl 1 rfl) ?_
  refine va_get (D := (dC, dI)) (ci := 1) (v := .ref aJh) (C := RX1) (T := TX1) (N := 3) hx hb hts iw_J_writeHead_Journal hown hK hP 0 rfl rfl 2 (by decide) (hts _ mm_J_writeHead_0) (fun _ h9 => h9) rfl dX1_writeHead_22 ?_
  refine lv_iconst (v := 2) hx hb dX1_writeHead_25 (by decide) ?_
  refine lv_iload_n hx hb dX1_writeHead_26 rfl (lv_at hl 2 rfl) ?_
  obtain ⟨hc_4, h⟩ := kp_in h
  refine va_iast hx hb hK hP hD hS 1 0 rfl rfl (kx_of hc_4) dX1_writeHead_27 (fun H locs hP hD hS => ?_)
  have hP : va_P (dC, dI) vwCl (w_J cI cZ cS aJ aJh aD aDw aM aMw (upd (upd (upd hd (0 : Int32).toNatClampNeg 6517) (1 : Int32).toNatClampNeg r_1) (2 : Int32).toNatClampNeg a1) pw wl wn dk mm) H := hP
  have hD : va_D A (w_J cI cZ cS aJ aJh aD aDw aM aMw (upd (upd (upd hd (0 : Int32).toNatClampNeg 6517) (1 : Int32).toNatClampNeg r_1) (2 : Int32).toNatClampNeg a1) pw wl wn dk mm) := hD
  refine lv_aload_n hx hb dX1_writeHead_28 rfl (lv_at hl 1 rfl) ?_
  refine va_get (D := (dC, dI)) (ci := 1) (v := .ref aJh) (C := RX1) (T := TX1) (N := 3) hx hb hts iw_J_writeHead_Journal hown hK hP 0 rfl rfl 2 (by decide) (hts _ mm_J_writeHead_0) (fun _ h9 => h9) rfl dX1_writeHead_29 ?_
  refine lv_iconst (v := 3) hx hb dX1_writeHead_32 (by decide) ?_
  refine lv_aload_n hx hb dX1_writeHead_33 rfl (lv_at hl 1 rfl) ?_
  refine lv_iload_n hx hb dX1_writeHead_34 rfl (lv_at hl 0 rfl) ?_
  obtain ⟨r_5, hr_5, h⟩ := kp_bind h
  refine mk_contR (w := w_J cI cZ cS aJ aJh aD aDw aM aMw (upd (upd (upd hd (0 : Int32).toNatClampNeg 6517) (1 : Int32).toNatClampNeg r_1) (2 : Int32).toNatClampNeg a1) pw wl wn dk mm) (w0 := w_J cI cZ cS aJ aJh aD aDw aM aMw (upd (upd (upd hd (0 : Int32).toNatClampNeg 6517) (1 : Int32).toNatClampNeg r_1) (2 : Int32).toNatClampNeg a1) pw wl wn dk mm) (wr := []) hP hD hS hA [0, 1, 2, 3, 4, 5] [] rfl rfl (by decide) (by decide) [0, 1, 2, 3, 4, 5] rfl (by decide) (va_runV (As := [.int r_1]) (rest := [.int 3, .ref aJh]) ⟨hx, hb, hml, hown, hts⟩ (c_J_checkOfImages l dC dI cI cZ cS aJ aJh aD aDw aM aMw (upd (upd (upd hd (0 : Int32).toNatClampNeg 6517) (1 : Int32).toNatClampNeg r_1) (2 : Int32).toNatClampNeg a1) pw wl wn dk mm r_1 r_5 hr_5 H.size) (cwV 1 hts gX1_writeHead_X1_checkOfImages rfl rfl rfl (by decide +kernel) ⟨Nat.le_of_ble_eq_true rfl, Nat.le_of_ble_eq_true rfl⟩) (mk_preV (w0 := w_J cI cZ cS aJ aJh aD aDw aM aMw (upd (upd (upd hd (0 : Int32).toNatClampNeg 6517) (1 : Int32).toNatClampNeg r_1) (2 : Int32).toNatClampNeg a1) pw wl wn dk mm) (ci := 1) (q0 := 0) hN hK (mk_pick hP [0, 1, 2, 3, 4, 5] rfl) (hD.sub [0, 1, 2, 3, 4, 5] (by decide) rfl) rfl rfl rfl) rfl rfl hl.1 rfl (lv_room (Nat.le_of_ble_eq_true rfl)) dX1_writeHead_35 ⟨Nat.zero_le _, Nat.zero_le _⟩) (fun H locs hP hD hS => ?_)
  obtain ⟨hc_6, h⟩ := kp_in h
  refine va_iast hx hb hK hP hD hS 1 0 rfl rfl (kx_of hc_6) dX1_writeHead_38 (fun H locs hP hD hS => ?_)
  have hP : va_P (dC, dI) vwCl (w_J cI cZ cS aJ aJh aD aDw aM aMw (upd (upd (upd (upd hd (0 : Int32).toNatClampNeg 6517) (1 : Int32).toNatClampNeg r_1) (2 : Int32).toNatClampNeg a1) (3 : Int32).toNatClampNeg r_5) pw wl wn dk mm) H := hP
  have hD : va_D A (w_J cI cZ cS aJ aJh aD aDw aM aMw (upd (upd (upd (upd hd (0 : Int32).toNatClampNeg 6517) (1 : Int32).toNatClampNeg r_1) (2 : Int32).toNatClampNeg a1) (3 : Int32).toNatClampNeg r_5) pw wl wn dk mm) := hD
  refine lv_aload_n hx hb dX1_writeHead_39 rfl (lv_at hl 1 rfl) ?_
  refine va_get (D := (dC, dI)) (ci := 1) (v := .ref aD) (C := RX1) (T := TX1) (N := 3) hx hb hts iw_J_writeHead_Journal hown hK hP 0 rfl rfl 0 (by decide) (hts _ mm_J_writeHead_2) (fun _ h9 => h9) rfl dX1_writeHead_40 ?_
  refine lv_bipush (v := 16) hx hb dX1_writeHead_43 (by decide) ?_
  refine lv_aload_n hx hb dX1_writeHead_45 rfl (lv_at hl 1 rfl) ?_
  refine va_get (D := (dC, dI)) (ci := 1) (v := .ref aJh) (C := RX1) (T := TX1) (N := 3) hx hb hts iw_J_writeHead_Journal hown hK hP 0 rfl rfl 2 (by decide) (hts _ mm_J_writeHead_0) (fun _ h9 => h9) rfl dX1_writeHead_46 ?_
  refine lv_iconst (v := 0) hx hb dX1_writeHead_49 (by decide) ?_
  obtain ⟨r_7, hr_7, h⟩ := kp_bind h
  refine mk_contI (w := w_J cI cZ cS aJ aJh aD aDw aM aMw (upd (upd (upd (upd hd (0 : Int32).toNatClampNeg 6517) (1 : Int32).toNatClampNeg r_1) (2 : Int32).toNatClampNeg a1) (3 : Int32).toNatClampNeg r_5) pw wl wn dk mm) (w0 := w_DE cI cZ cS aD aDw aJh pw wl wn dk 16 (upd (upd (upd (upd hd (0 : Int32).toNatClampNeg 6517) (1 : Int32).toNatClampNeg r_1) (2 : Int32).toNatClampNeg a1) (3 : Int32).toNatClampNeg r_5)) (wr := [(aJ, .inr (1, [.ref aD, .ref aM, .ref aJh])), (aM, .inr (2, [.ref aMw])), (aMw, .inl (cI, 256, .inl mm))]) (w2 := w_J cI cZ cS aJ aJh aD aDw aM aMw (upd (upd (upd (upd hd (0 : Int32).toNatClampNeg 6517) (1 : Int32).toNatClampNeg r_1) (2 : Int32).toNatClampNeg a1) (3 : Int32).toNatClampNeg r_5) r_7.2.1 r_7.2.2.1 r_7.2.2.2.1 r_7.2.2.2.2 mm) hP hD hS hA [2, 3, 1] [0, 4, 5] rfl rfl (by decide) (by decide) [0, 5, 3, 4, 1, 2] rfl (by decide) (va_runV (As := [.int 16, .ref aJh, .int 0]) (rest := []) ⟨hx, hb, hml, hown, hts⟩ (c_D_writeE l dC dI cI cZ cS aD aDw aJh pw wl wn dk 16 (upd (upd (upd (upd hd (0 : Int32).toNatClampNeg 6517) (1 : Int32).toNatClampNeg r_1) (2 : Int32).toNatClampNeg a1) (3 : Int32).toNatClampNeg r_5) 16 0 r_7 hr_7 H.size) (cwV 3 hts gX1_writeHead_X0_write rfl rfl rfl (by decide +kernel) ⟨Nat.le_of_ble_eq_true rfl, Nat.le_of_ble_eq_true rfl⟩) (mk_preV (w0 := w_DE cI cZ cS aD aDw aJh pw wl wn dk 16 (upd (upd (upd (upd hd (0 : Int32).toNatClampNeg 6517) (1 : Int32).toNatClampNeg r_1) (2 : Int32).toNatClampNeg a1) (3 : Int32).toNatClampNeg r_5)) (ci := 0) (q0 := 0) hN hK (mk_pick hP [2, 3, 1] rfl) (hD.sub [2, 3, 1] (by decide) rfl) rfl rfl rfl) rfl rfl hl.1 rfl (lv_room (Nat.le_of_ble_eq_true rfl)) dX1_writeHead_50 ⟨Nat.zero_le _, Nat.zero_le _⟩) (fun H locs hP hD hS => ?_)
  obtain ⟨hc_8, h⟩ := kp_in h
  cases h
  exact mk_zret E hc_8 hK hP hD hS dX1_writeHead_53

/- Journal.saveBlocks(I)Z -/
set_option maxRecDepth 20000 in
theorem mm_J_saveBlocks_0 : Cond.fieldLink RX1 19 "JournaledTables$Journal" "memory" "LJournaledTables$Memory;" ∈ wsX1_saveBlocks := by decide +kernel
set_option maxRecDepth 20000 in
theorem iw_J_saveBlocks_Journal : ∀ w ∈ u_ws RX1 TX1 3, w ∈ wsX1_saveBlocks := by decide +kernel
set_option maxRecDepth 20000 in
theorem mm_J_saveBlocks_2 : Cond.fieldLink RX1 15 "JournaledTables$Journal" "disk" "LJournaledTables$Disk;" ∈ wsX1_saveBlocks := by decide +kernel
set_option maxHeartbeats 4000000 in
set_option maxRecDepth 100000 in
theorem b_J_saveBlocks_33 {p : Program} {l : Launch} {e : Env} {s : State} {m : MethodId} {below : List Frame} {meth : Method} {c : Code} {A : Nat → Prop} {dC : Nat → ClassId} {dI : Nat → Nat → Nat} {cI cZ cS : ClassId} {aJ aJh aD aDw aM aMw : Nat} {hd : Nat → Int32} {mm : Nat → Int32} {a1 : Int32} (E : mk_En p s m meth c cX1_saveBlocks 3 (some .boolean) ([.ref aJ, .int a1] : List Value).toArray wsX1_saveBlocks yX1_saveBlocks.cls) (hA : ∀ q : Nat, s.heap.size ≤ q → A q) (hK : va_K (dC, dI) vwCl (tyz cI cZ cS) s) (R : Int32 × Int32 × Int32 × Int32 × (Nat → Int32)) {k_2 : Int32 → Int32 → Int32 → Int32 → Int32 → (Nat → Int32) → Option (Int32 × Int32 × Int32 × Int32 × (Nat → Int32))} (hk_2 : ∀ (x1 : Int32) (x2 : Int32) (pw : Int32) (wl : Int32) (wn : Int32) (dk : Nat → Int32), k_2 x1 x2 pw wl wn dk = some R → ∀ (H : Heap) (locs : List Loc) (ls : Array Slot), va_P (dC, dI) vwCl (w_J cI cZ cS aJ aJh aD aDw aM aMw hd pw wl wn dk mm) H → va_D A (w_J cI cZ cS aJ aJh aD aDw aM aMw hd pw wl wn dk mm) → va_S A s.heap H locs → lv_has ls 3 [(0, .ref aJ), (1, .int x1), (2, .int x2)] → W p l e ({ frames := 3, cells := 0, slots := 0, locals := 63 } : Room) s m ([.ref aJ, .int a1] : List Value).toArray below meth c H locs 0 0 (MQ below (mk_QI (dC, dI) vwCl (tyz cI cZ cS) A (fun u : Int32 × Int32 × Int32 × (Nat → Int32) => w_J cI cZ cS aJ aJh aD aDw aM aMw hd u.1 u.2.1 u.2.2.1 u.2.2.2 mm) R) ([.ref aJ, .int a1] : List Value).toArray s 0 0 A) (F0 m 2 ls [])) (x1 : Int32) (x2 : Int32) (pw : Int32) (wl : Int32) (wn : Int32) (dk : Nat → Int32) (h : p_J_saveBlocks_33 mm k_2 x1 x2 pw wl wn dk = some R) : ∀ (H : Heap) (locs : List Loc) (ls : Array Slot), va_P (dC, dI) vwCl (w_J cI cZ cS aJ aJh aD aDw aM aMw hd pw wl wn dk mm) H → va_D A (w_J cI cZ cS aJ aJh aD aDw aM aMw hd pw wl wn dk mm) → va_S A s.heap H locs → lv_has ls 3 [(0, .ref aJ), (1, .int x1), (2, .int x2)] → W p l e ({ frames := 3, cells := 0, slots := 0, locals := 63 } : Room) s m ([.ref aJ, .int a1] : List Value).toArray below meth c H locs 0 0 (MQ below (mk_QI (dC, dI) vwCl (tyz cI cZ cS) A (fun u : Int32 × Int32 × Int32 × (Nat → Int32) => w_J cI cZ cS aJ aJh aD aDw aM aMw hd u.1 u.2.1 u.2.2.1 u.2.2.2 mm) R) ([.ref aJ, .int a1] : List Value).toArray s 0 0 A) (F0 m 33 ls []) := by
  intro H locs ls hP hD hS hl
  obtain ⟨⟨hx, hb, hml, hown, hts⟩, hrt, hlk, hN⟩ := id E
  have hown : s.vm.findClass RX1 = some m.cls := hown
  unfold p_J_saveBlocks_33 at h
  refine lv_iinc (v := x2 + 1) (lv' := [(2, .int (x2 + 1)), (0, .ref aJ), (1, .int x1)]) hx hb dX1_saveBlocks_33 hl (k := 2) rfl rfl (by decide) rfl (fun ls hl => ?_)
  refine lv_goto (tgt := 2) hx hb dX1_saveBlocks_36 (by decide) ?_
  exact hk_2 x1 (x2 + 1) pw wl wn dk h H locs ls hP hD hS (lv_sub hl [1, 2, 0] rfl)
set_option maxHeartbeats 4000000 in
set_option maxRecDepth 100000 in
theorem b_J_saveBlocks_2 {p : Program} {l : Launch} {e : Env} {s : State} {m : MethodId} {below : List Frame} {meth : Method} {c : Code} {A : Nat → Prop} {dC : Nat → ClassId} {dI : Nat → Nat → Nat} {cI cZ cS : ClassId} {aJ aJh aD aDw aM aMw : Nat} {hd : Nat → Int32} {mm : Nat → Int32} {a1 : Int32} (E : mk_En p s m meth c cX1_saveBlocks 3 (some .boolean) ([.ref aJ, .int a1] : List Value).toArray wsX1_saveBlocks yX1_saveBlocks.cls) (hA : ∀ q : Nat, s.heap.size ≤ q → A q) (hK : va_K (dC, dI) vwCl (tyz cI cZ cS) s) (R : Int32 × Int32 × Int32 × Int32 × (Nat → Int32)) {k_2 : Int32 → Int32 → Int32 → Int32 → Int32 → (Nat → Int32) → Option (Int32 × Int32 × Int32 × Int32 × (Nat → Int32))} (hk_2 : ∀ (x1 : Int32) (x2 : Int32) (pw : Int32) (wl : Int32) (wn : Int32) (dk : Nat → Int32), k_2 x1 x2 pw wl wn dk = some R → ∀ (H : Heap) (locs : List Loc) (ls : Array Slot), va_P (dC, dI) vwCl (w_J cI cZ cS aJ aJh aD aDw aM aMw hd pw wl wn dk mm) H → va_D A (w_J cI cZ cS aJ aJh aD aDw aM aMw hd pw wl wn dk mm) → va_S A s.heap H locs → lv_has ls 3 [(0, .ref aJ), (1, .int x1), (2, .int x2)] → W p l e ({ frames := 3, cells := 0, slots := 0, locals := 63 } : Room) s m ([.ref aJ, .int a1] : List Value).toArray below meth c H locs 0 0 (MQ below (mk_QI (dC, dI) vwCl (tyz cI cZ cS) A (fun u : Int32 × Int32 × Int32 × (Nat → Int32) => w_J cI cZ cS aJ aJh aD aDw aM aMw hd u.1 u.2.1 u.2.2.1 u.2.2.2 mm) R) ([.ref aJ, .int a1] : List Value).toArray s 0 0 A) (F0 m 2 ls [])) (x1 : Int32) (x2 : Int32) (pw : Int32) (wl : Int32) (wn : Int32) (dk : Nat → Int32) (h : p_J_saveBlocks_2 mm k_2 x1 x2 pw wl wn dk = some R) : ∀ (H : Heap) (locs : List Loc) (ls : Array Slot), va_P (dC, dI) vwCl (w_J cI cZ cS aJ aJh aD aDw aM aMw hd pw wl wn dk mm) H → va_D A (w_J cI cZ cS aJ aJh aD aDw aM aMw hd pw wl wn dk mm) → va_S A s.heap H locs → lv_has ls 3 [(0, .ref aJ), (1, .int x1), (2, .int x2)] → W p l e ({ frames := 3, cells := 0, slots := 0, locals := 63 } : Room) s m ([.ref aJ, .int a1] : List Value).toArray below meth c H locs 0 0 (MQ below (mk_QI (dC, dI) vwCl (tyz cI cZ cS) A (fun u : Int32 × Int32 × Int32 × (Nat → Int32) => w_J cI cZ cS aJ aJh aD aDw aM aMw hd u.1 u.2.1 u.2.2.1 u.2.2.2 mm) R) ([.ref aJ, .int a1] : List Value).toArray s 0 0 A) (F0 m 2 ls []) := by
  intro H locs ls hP hD hS hl
  obtain ⟨⟨hx, hb, hml, hown, hts⟩, hrt, hlk, hN⟩ := id E
  have hown : s.vm.findClass RX1 = some m.cls := hown
  unfold p_J_saveBlocks_2 at h
  refine lv_iload_n hx hb dX1_saveBlocks_2 rfl (lv_at hl 2 rfl) ?_
  refine lv_bipush (v := 16) hx hb dX1_saveBlocks_3 (by decide) ?_
  refine lv_icmp_ge (tgt := 39) hx hb dX1_saveBlocks_5 (by decide) (fun c_1 => ?_) (fun c_1 => ?_)
  · replace h := (kp_if h).1 c_1
    refine lv_iconst (v := 1) hx hb dX1_saveBlocks_39 (by decide) ?_
    cases h
    exact mk_zret E (by decide) hK hP hD hS dX1_saveBlocks_40
  · replace h := (kp_if h).2 c_1
    refine lv_iload_n hx hb dX1_saveBlocks_8 rfl (lv_at hl 1 rfl) ?_
    refine lv_iload_n hx hb dX1_saveBlocks_9 rfl (lv_at hl 2 rfl) ?_
    obtain ⟨r_2, hr_2, h⟩ := kp_bind h
    refine mk_contR (w := w_J cI cZ cS aJ aJh aD aDw aM aMw hd pw wl wn dk mm) (w0 := ([] : va_W)) (wr := [(aJ, .inr (1, [.ref aD, .ref aM, .ref aJh])), (aJh, .inl (cI, 16, .inl hd)), (aD, .inr (0, [.ref aDw, .int pw, .int wl, .int wn])), (aDw, .inl (cI, 528, .inl dk)), (aM, .inr (2, [.ref aMw])), (aMw, .inl (cI, 256, .inl mm))]) hP hD hS hA [] [0, 1, 2, 3, 4, 5] rfl rfl (by decide) (by decide) [0, 1, 2, 3, 4, 5] rfl (by decide) (va_runS (As := [.int x1, .int x2]) (rest := []) ⟨hx, hb, hml, hown, hts⟩ (c_J_contains l dC dI cI cZ cS  x1 x2 r_2 hr_2 H.size) (va_cwS 2 hts gX1_saveBlocks_X1_contains rfl rfl rfl (by decide +kernel) ⟨Nat.le_of_ble_eq_true rfl, Nat.le_of_ble_eq_true rfl⟩) (mk_preS (w0 := ([] : va_W)) hN hK (mk_pick hP [] rfl) (hD.sub [] (by decide) rfl)) rfl rfl hl.1 rfl (lv_room (Nat.le_of_ble_eq_true rfl)) dX1_saveBlocks_10 ⟨Nat.zero_le _, Nat.zero_le _⟩) (fun H locs hP hD hS => ?_)
    refine lv_if_eq (tgt := 33) hx hb dX1_saveBlocks_13 (by decide) (fun c_3 => ?_) (fun c_3 => ?_)
    · replace h := (kp_if h).1 c_3
      exact b_J_saveBlocks_33 E hA hK R hk_2 x1 x2 pw wl wn dk h H locs ls hP hD hS (lv_sub hl [0, 1, 2] rfl)
    · replace h := (kp_if h).2 c_3
      refine lv_aload_n hx hb dX1_saveBlocks_16 rfl (lv_at hl 0 rfl) ?_
      refine va_get (D := (dC, dI)) (ci := 1) (v := .ref aM) (C := RX1) (T := TX1) (N := 3) hx hb hts iw_J_saveBlocks_Journal hown hK hP 0 rfl rfl 1 (by decide) (hts _ mm_J_saveBlocks_0) (fun _ h9 => h9) rfl dX1_saveBlocks_17 ?_
      refine lv_aload_n hx hb dX1_saveBlocks_20 rfl (lv_at hl 0 rfl) ?_
      refine va_get (D := (dC, dI)) (ci := 1) (v := .ref aD) (C := RX1) (T := TX1) (N := 3) hx hb hts iw_J_saveBlocks_Journal hown hK hP 0 rfl rfl 0 (by decide) (hts _ mm_J_saveBlocks_2) (fun _ h9 => h9) rfl dX1_saveBlocks_21 ?_
      refine lv_iload_n hx hb dX1_saveBlocks_24 rfl (lv_at hl 2 rfl) ?_
      obtain ⟨r_4, hr_4, h⟩ := kp_bind h
      refine mk_contI (w := w_J cI cZ cS aJ aJh aD aDw aM aMw hd pw wl wn dk mm) (w0 := w_MD cI cZ cS aM aMw aD aDw mm pw wl wn dk) (wr := [(aJ, .inr (1, [.ref aD, .ref aM, .ref aJh])), (aJh, .inl (cI, 16, .inl hd))]) (w2 := w_J cI cZ cS aJ aJh aD aDw aM aMw hd r_4.2.1 r_4.2.2.1 r_4.2.2.2.1 r_4.2.2.2.2 mm) hP hD hS hA [4, 5, 2, 3] [0, 1] rfl rfl (by decide) (by decide) [0, 1, 4, 5, 2, 3] rfl (by decide) (va_runV (As := [.ref aD, .int x2]) (rest := []) ⟨hx, hb, hml, hown, hts⟩ (c_M_save l dC dI cI cZ cS aM aMw aD aDw mm pw wl wn dk x2 r_4 hr_4 H.size) (cwV 2 hts gX1_saveBlocks_X2_save rfl rfl rfl (by decide +kernel) ⟨Nat.le_of_ble_eq_true rfl, Nat.le_of_ble_eq_true rfl⟩) (mk_preV (w0 := w_MD cI cZ cS aM aMw aD aDw mm pw wl wn dk) (ci := 2) (q0 := 0) hN hK (mk_pick hP [4, 5, 2, 3] rfl) (hD.sub [4, 5, 2, 3] (by decide) rfl) rfl rfl rfl) rfl rfl hl.1 rfl (lv_room (Nat.le_of_ble_eq_true rfl)) dX1_saveBlocks_25 ⟨Nat.zero_le _, Nat.zero_le _⟩) (fun H locs hP hD hS => ?_)
      refine lv_if_ne (tgt := 33) hx hb dX1_saveBlocks_28 (by decide) (fun c_5 => ?_) (fun c_5 => ?_)
      · replace h := (kp_if h).2 c_5
        exact b_J_saveBlocks_33 E hA hK R hk_2 x1 x2 r_4.2.1 r_4.2.2.1 r_4.2.2.2.1 r_4.2.2.2.2 h H locs ls hP hD hS (lv_sub hl [0, 1, 2] rfl)
      · replace h := (kp_if h).1 c_5
        refine lv_iconst (v := 0) hx hb dX1_saveBlocks_31 (by decide) ?_
        cases h
        exact mk_zret E (by decide) hK hP hD hS dX1_saveBlocks_32
set_option maxHeartbeats 4000000 in
set_option maxRecDepth 100000 in
theorem l_J_saveBlocks_2 {p : Program} {l : Launch} {e : Env} {s : State} {m : MethodId} {below : List Frame} {meth : Method} {c : Code} {A : Nat → Prop} {dC : Nat → ClassId} {dI : Nat → Nat → Nat} {cI cZ cS : ClassId} {aJ aJh aD aDw aM aMw : Nat} {hd : Nat → Int32} {mm : Nat → Int32} {a1 : Int32} (E : mk_En p s m meth c cX1_saveBlocks 3 (some .boolean) ([.ref aJ, .int a1] : List Value).toArray wsX1_saveBlocks yX1_saveBlocks.cls) (hA : ∀ q : Nat, s.heap.size ≤ q → A q) (hK : va_K (dC, dI) vwCl (tyz cI cZ cS) s) (R : Int32 × Int32 × Int32 × Int32 × (Nat → Int32)) : ∀ (n : Nat) (x1 : Int32) (x2 : Int32) (pw : Int32) (wl : Int32) (wn : Int32) (dk : Nat → Int32), pl_J_saveBlocks_2 mm n x1 x2 pw wl wn dk = some R → ∀ (H : Heap) (locs : List Loc) (ls : Array Slot), va_P (dC, dI) vwCl (w_J cI cZ cS aJ aJh aD aDw aM aMw hd pw wl wn dk mm) H → va_D A (w_J cI cZ cS aJ aJh aD aDw aM aMw hd pw wl wn dk mm) → va_S A s.heap H locs → lv_has ls 3 [(0, .ref aJ), (1, .int x1), (2, .int x2)] → W p l e ({ frames := 3, cells := 0, slots := 0, locals := 63 } : Room) s m ([.ref aJ, .int a1] : List Value).toArray below meth c H locs 0 0 (MQ below (mk_QI (dC, dI) vwCl (tyz cI cZ cS) A (fun u : Int32 × Int32 × Int32 × (Nat → Int32) => w_J cI cZ cS aJ aJh aD aDw aM aMw hd u.1 u.2.1 u.2.2.1 u.2.2.2 mm) R) ([.ref aJ, .int a1] : List Value).toArray s 0 0 A) (F0 m 2 ls []) := by
  intro n
  induction n with
  | zero =>
    intro x1 x2 pw wl wn dk h
    cases h
  | succ n ih =>
    intro x1 x2 pw wl wn dk h
    exact b_J_saveBlocks_2 E hA hK R ih x1 x2 pw wl wn dk h
set_option maxHeartbeats 4000000 in
set_option maxRecDepth 100000 in
theorem c_J_saveBlocks (l : Launch) (dC : Nat → ClassId) (dI : Nat → Nat → Nat) (cI cZ cS : ClassId) (aJ aJh aD aDw aM aMw : Nat) (hd : Nat → Int32) (pw : Int32) (wl : Int32) (wn : Int32) (dk : Nat → Int32) (mm : Nat → Int32) (a1 : Int32) : CtI l yX1_saveBlocks wsX1_saveBlocks ({ frames := 3, cells := 0, slots := 0, locals := 63 }) (dC, dI) vwCl (tyz cI cZ cS) [.ref aJ, .int a1] (w_J cI cZ cS aJ aJh aD aDw aM aMw hd pw wl wn dk mm) (fun u : Int32 × Int32 × Int32 × (Nat → Int32) => w_J cI cZ cS aJ aJh aD aDw aM aMw hd u.1 u.2.1 u.2.2.1 u.2.2.2 mm) (p_J_saveBlocks pw wl wn dk mm a1) := by
  intro R h
  refine mk_enter (Qc := (fun A => mk_QI (dC, dI) vwCl (tyz cI cZ cS) A (fun u : Int32 × Int32 × Int32 × (Nat → Int32) => w_J cI cZ cS aJ aJh aD aDw aM aMw hd u.1 u.2.1 u.2.2.1 u.2.2.2 mm) R)) (by decide) rfl (Nat.le_of_ble_eq_true rfl) ?_
  intro p e s m below meth c A E hA hK H locs ls hP hD hS hl
  obtain ⟨⟨hx, hb, hml, hown, hts⟩, hrt, hlk, hN⟩ := id E
  have hown : s.vm.findClass RX1 = some m.cls := hown
  have hl : lv_has ls 3 [(0, .ref aJ), (1, .int a1)] := hl
  unfold p_J_saveBlocks at h
  refine lv_iconst (v := 0) hx hb dX1_saveBlocks_0 (by decide) ?_
  refine lv_istore_n (lv' := [(2, .int 0), (0, .ref aJ), (1, .int a1)]) hx hb dX1_saveBlocks_1 rfl hl (by decide) rfl (fun ls hl => ?_)
  exact l_J_saveBlocks_2 E hA hK R 1000 a1 0 pw wl wn dk h H locs ls hP hD hS (lv_sub hl [1, 2, 0] rfl)

/- Journal.clearHead()Z -/
set_option maxRecDepth 20000 in
theorem mm_J_clearHead_0 : Cond.fieldLink RX1 15 "JournaledTables$Journal" "disk" "LJournaledTables$Disk;" ∈ wsX1_clearHead := by decide +kernel
set_option maxRecDepth 20000 in
theorem iw_J_clearHead_Journal : ∀ w ∈ u_ws RX1 TX1 3, w ∈ wsX1_clearHead := by decide +kernel
set_option maxRecDepth 20000 in
theorem mm_J_clearHead_2 : Cond.fieldLink RX1 9 "JournaledTables$Journal" "head" "[I" ∈ wsX1_clearHead := by decide +kernel
set_option maxHeartbeats 4000000 in
set_option maxRecDepth 100000 in
theorem b_J_clearHead_2 {p : Program} {l : Launch} {e : Env} {s : State} {m : MethodId} {below : List Frame} {meth : Method} {c : Code} {A : Nat → Prop} {dC : Nat → ClassId} {dI : Nat → Nat → Nat} {cI cZ cS : ClassId} {aJ aJh aD aDw aM aMw : Nat} {mm : Nat → Int32} (E : mk_En p s m meth c cX1_clearHead 2 (some .boolean) ([.ref aJ] : List Value).toArray wsX1_clearHead yX1_clearHead.cls) (hA : ∀ q : Nat, s.heap.size ≤ q → A q) (hK : va_K (dC, dI) vwCl (tyz cI cZ cS) s) (R : Int32 × (Nat → Int32) × Int32 × Int32 × Int32 × (Nat → Int32)) {k_2 : Int32 → (Nat → Int32) → Int32 → Int32 → Int32 → (Nat → Int32) → Option (Int32 × (Nat → Int32) × Int32 × Int32 × Int32 × (Nat → Int32))} (hk_2 : ∀ (x1 : Int32) (hd : Nat → Int32) (pw : Int32) (wl : Int32) (wn : Int32) (dk : Nat → Int32), k_2 x1 hd pw wl wn dk = some R → ∀ (H : Heap) (locs : List Loc) (ls : Array Slot), va_P (dC, dI) vwCl (w_J cI cZ cS aJ aJh aD aDw aM aMw hd pw wl wn dk mm) H → va_D A (w_J cI cZ cS aJ aJh aD aDw aM aMw hd pw wl wn dk mm) → va_S A s.heap H locs → lv_has ls 2 [(0, .ref aJ), (1, .int x1)] → W p l e ({ frames := 2, cells := 0, slots := 0, locals := 41 } : Room) s m ([.ref aJ] : List Value).toArray below meth c H locs 0 0 (MQ below (mk_QI (dC, dI) vwCl (tyz cI cZ cS) A (fun u : (Nat → Int32) × Int32 × Int32 × Int32 × (Nat → Int32) => w_J cI cZ cS aJ aJh aD aDw aM aMw u.1 u.2.1 u.2.2.1 u.2.2.2.1 u.2.2.2.2 mm) R) ([.ref aJ] : List Value).toArray s 0 0 A) (F0 m 2 ls [])) (x1 : Int32) (hd : Nat → Int32) (pw : Int32) (wl : Int32) (wn : Int32) (dk : Nat → Int32) (h : p_J_clearHead_2 k_2 x1 hd pw wl wn dk = some R) : ∀ (H : Heap) (locs : List Loc) (ls : Array Slot), va_P (dC, dI) vwCl (w_J cI cZ cS aJ aJh aD aDw aM aMw hd pw wl wn dk mm) H → va_D A (w_J cI cZ cS aJ aJh aD aDw aM aMw hd pw wl wn dk mm) → va_S A s.heap H locs → lv_has ls 2 [(0, .ref aJ), (1, .int x1)] → W p l e ({ frames := 2, cells := 0, slots := 0, locals := 41 } : Room) s m ([.ref aJ] : List Value).toArray below meth c H locs 0 0 (MQ below (mk_QI (dC, dI) vwCl (tyz cI cZ cS) A (fun u : (Nat → Int32) × Int32 × Int32 × Int32 × (Nat → Int32) => w_J cI cZ cS aJ aJh aD aDw aM aMw u.1 u.2.1 u.2.2.1 u.2.2.2.1 u.2.2.2.2 mm) R) ([.ref aJ] : List Value).toArray s 0 0 A) (F0 m 2 ls []) := by
  intro H locs ls hP hD hS hl
  obtain ⟨⟨hx, hb, hml, hown, hts⟩, hrt, hlk, hN⟩ := id E
  have hown : s.vm.findClass RX1 = some m.cls := hown
  unfold p_J_clearHead_2 at h
  refine lv_iload_n hx hb dX1_clearHead_2 rfl (lv_at hl 1 rfl) ?_
  refine lv_iconst (v := 4) hx hb dX1_clearHead_3 (by decide) ?_
  refine lv_icmp_ge (tgt := 20) hx hb dX1_clearHead_4 (by decide) (fun c_1 => ?_) (fun c_1 => ?_)
  · replace h := (kp_if h).1 c_1
    refine lv_aload_n hx hb dX1_clearHead_20 rfl (lv_at hl 0 rfl) ?_
    refine va_get (D := (dC, dI)) (ci := 1) (v := .ref aD) (C := RX1) (T := TX1) (N := 3) hx hb hts iw_J_clearHead_Journal hown hK hP 0 rfl rfl 0 (by decide) (hts _ mm_J_clearHead_0) (fun _ h9 => h9) rfl dX1_clearHead_21 ?_
    refine lv_bipush (v := 16) hx hb dX1_clearHead_24 (by decide) ?_
    refine lv_aload_n hx hb dX1_clearHead_26 rfl (lv_at hl 0 rfl) ?_
    refine va_get (D := (dC, dI)) (ci := 1) (v := .ref aJh) (C := RX1) (T := TX1) (N := 3) hx hb hts iw_J_clearHead_Journal hown hK hP 0 rfl rfl 2 (by decide) (hts _ mm_J_clearHead_2) (fun _ h9 => h9) rfl dX1_clearHead_27 ?_
    refine lv_iconst (v := 0) hx hb dX1_clearHead_30 (by decide) ?_
    obtain ⟨r_2, hr_2, h⟩ := kp_bind h
    refine mk_contI (w := w_J cI cZ cS aJ aJh aD aDw aM aMw hd pw wl wn dk mm) (w0 := w_DE cI cZ cS aD aDw aJh pw wl wn dk 16 hd) (wr := [(aJ, .inr (1, [.ref aD, .ref aM, .ref aJh])), (aM, .inr (2, [.ref aMw])), (aMw, .inl (cI, 256, .inl mm))]) (w2 := w_J cI cZ cS aJ aJh aD aDw aM aMw hd r_2.2.1 r_2.2.2.1 r_2.2.2.2.1 r_2.2.2.2.2 mm) hP hD hS hA [2, 3, 1] [0, 4, 5] rfl rfl (by decide) (by decide) [0, 5, 3, 4, 1, 2] rfl (by decide) (va_runV (As := [.int 16, .ref aJh, .int 0]) (rest := []) ⟨hx, hb, hml, hown, hts⟩ (c_D_writeE l dC dI cI cZ cS aD aDw aJh pw wl wn dk 16 hd 16 0 r_2 hr_2 H.size) (cwV 3 hts gX1_clearHead_X0_write rfl rfl rfl (by decide +kernel) ⟨Nat.le_of_ble_eq_true rfl, Nat.le_of_ble_eq_true rfl⟩) (mk_preV (w0 := w_DE cI cZ cS aD aDw aJh pw wl wn dk 16 hd) (ci := 0) (q0 := 0) hN hK (mk_pick hP [2, 3, 1] rfl) (hD.sub [2, 3, 1] (by decide) rfl) rfl rfl rfl) rfl rfl hl.1 rfl (lv_room (Nat.le_of_ble_eq_true rfl)) dX1_clearHead_31 ⟨Nat.zero_le _, Nat.zero_le _⟩) (fun H locs hP hD hS => ?_)
    obtain ⟨hc_3, h⟩ := kp_in h
    cases h
    exact mk_zret E hc_3 hK hP hD hS dX1_clearHead_34
  · replace h := (kp_if h).2 c_1
    refine lv_aload_n hx hb dX1_clearHead_7 rfl (lv_at hl 0 rfl) ?_
    refine va_get (D := (dC, dI)) (ci := 1) (v := .ref aJh) (C := RX1) (T := TX1) (N := 3) hx hb hts iw_J_clearHead_Journal hown hK hP 0 rfl rfl 2 (by decide) (hts _ mm_J_clearHead_2) (fun _ h9 => h9) rfl dX1_clearHead_8 ?_
    refine lv_iload_n hx hb dX1_clearHead_11 rfl (lv_at hl 1 rfl) ?_
    refine lv_iconst (v := 0) hx hb dX1_clearHead_12 (by decide) ?_
    obtain ⟨hc_4, h⟩ := kp_in h
    refine va_iast hx hb hK hP hD hS 1 0 rfl rfl (kx_of hc_4) dX1_clearHead_13 (fun H locs hP hD hS => ?_)
    have hP : va_P (dC, dI) vwCl (w_J cI cZ cS aJ aJh aD aDw aM aMw (upd hd x1.toNatClampNeg 0) pw wl wn dk mm) H := hP
    have hD : va_D A (w_J cI cZ cS aJ aJh aD aDw aM aMw (upd hd x1.toNatClampNeg 0) pw wl wn dk mm) := hD
    refine lv_iinc (v := x1 + 1) (lv' := [(1, .int (x1 + 1)), (0, .ref aJ)]) hx hb dX1_clearHead_14 hl (k := 1) rfl rfl (by decide) rfl (fun ls hl => ?_)
    refine lv_goto (tgt := 2) hx hb dX1_clearHead_17 (by decide) ?_
    exact hk_2 (x1 + 1) (upd hd x1.toNatClampNeg 0) pw wl wn dk h H locs ls hP hD hS (lv_sub hl [1, 0] rfl)
set_option maxHeartbeats 4000000 in
set_option maxRecDepth 100000 in
theorem l_J_clearHead_2 {p : Program} {l : Launch} {e : Env} {s : State} {m : MethodId} {below : List Frame} {meth : Method} {c : Code} {A : Nat → Prop} {dC : Nat → ClassId} {dI : Nat → Nat → Nat} {cI cZ cS : ClassId} {aJ aJh aD aDw aM aMw : Nat} {mm : Nat → Int32} (E : mk_En p s m meth c cX1_clearHead 2 (some .boolean) ([.ref aJ] : List Value).toArray wsX1_clearHead yX1_clearHead.cls) (hA : ∀ q : Nat, s.heap.size ≤ q → A q) (hK : va_K (dC, dI) vwCl (tyz cI cZ cS) s) (R : Int32 × (Nat → Int32) × Int32 × Int32 × Int32 × (Nat → Int32)) : ∀ (n : Nat) (x1 : Int32) (hd : Nat → Int32) (pw : Int32) (wl : Int32) (wn : Int32) (dk : Nat → Int32), pl_J_clearHead_2 n x1 hd pw wl wn dk = some R → ∀ (H : Heap) (locs : List Loc) (ls : Array Slot), va_P (dC, dI) vwCl (w_J cI cZ cS aJ aJh aD aDw aM aMw hd pw wl wn dk mm) H → va_D A (w_J cI cZ cS aJ aJh aD aDw aM aMw hd pw wl wn dk mm) → va_S A s.heap H locs → lv_has ls 2 [(0, .ref aJ), (1, .int x1)] → W p l e ({ frames := 2, cells := 0, slots := 0, locals := 41 } : Room) s m ([.ref aJ] : List Value).toArray below meth c H locs 0 0 (MQ below (mk_QI (dC, dI) vwCl (tyz cI cZ cS) A (fun u : (Nat → Int32) × Int32 × Int32 × Int32 × (Nat → Int32) => w_J cI cZ cS aJ aJh aD aDw aM aMw u.1 u.2.1 u.2.2.1 u.2.2.2.1 u.2.2.2.2 mm) R) ([.ref aJ] : List Value).toArray s 0 0 A) (F0 m 2 ls []) := by
  intro n
  induction n with
  | zero =>
    intro x1 hd pw wl wn dk h
    cases h
  | succ n ih =>
    intro x1 hd pw wl wn dk h
    exact b_J_clearHead_2 E hA hK R ih x1 hd pw wl wn dk h
set_option maxHeartbeats 4000000 in
set_option maxRecDepth 100000 in
theorem c_J_clearHead (l : Launch) (dC : Nat → ClassId) (dI : Nat → Nat → Nat) (cI cZ cS : ClassId) (aJ aJh aD aDw aM aMw : Nat) (hd : Nat → Int32) (pw : Int32) (wl : Int32) (wn : Int32) (dk : Nat → Int32) (mm : Nat → Int32) : CtI l yX1_clearHead wsX1_clearHead ({ frames := 2, cells := 0, slots := 0, locals := 41 }) (dC, dI) vwCl (tyz cI cZ cS) [.ref aJ] (w_J cI cZ cS aJ aJh aD aDw aM aMw hd pw wl wn dk mm) (fun u : (Nat → Int32) × Int32 × Int32 × Int32 × (Nat → Int32) => w_J cI cZ cS aJ aJh aD aDw aM aMw u.1 u.2.1 u.2.2.1 u.2.2.2.1 u.2.2.2.2 mm) (p_J_clearHead hd pw wl wn dk) := by
  intro R h
  refine mk_enter (Qc := (fun A => mk_QI (dC, dI) vwCl (tyz cI cZ cS) A (fun u : (Nat → Int32) × Int32 × Int32 × Int32 × (Nat → Int32) => w_J cI cZ cS aJ aJh aD aDw aM aMw u.1 u.2.1 u.2.2.1 u.2.2.2.1 u.2.2.2.2 mm) R)) (by decide) rfl (Nat.le_of_ble_eq_true rfl) ?_
  intro p e s m below meth c A E hA hK H locs ls hP hD hS hl
  obtain ⟨⟨hx, hb, hml, hown, hts⟩, hrt, hlk, hN⟩ := id E
  have hown : s.vm.findClass RX1 = some m.cls := hown
  have hl : lv_has ls 2 [(0, .ref aJ)] := hl
  unfold p_J_clearHead at h
  refine lv_iconst (v := 0) hx hb dX1_clearHead_0 (by decide) ?_
  refine lv_istore_n (lv' := [(1, .int 0), (0, .ref aJ)]) hx hb dX1_clearHead_1 rfl hl (by decide) rfl (fun ls hl => ?_)
  exact l_J_clearHead_2 E hA hK R 1000 0 hd pw wl wn dk h H locs ls hP hD hS (lv_sub hl [1, 0] rfl)

/- Journal.restoreBlocks(I)Z -/
set_option maxRecDepth 20000 in
theorem mm_J_restoreBlocks_0 : Cond.fieldLink RX1 15 "JournaledTables$Journal" "disk" "LJournaledTables$Disk;" ∈ wsX1_restoreBlocks := by decide +kernel
set_option maxRecDepth 20000 in
theorem iw_J_restoreBlocks_Journal : ∀ w ∈ u_ws RX1 TX1 3, w ∈ wsX1_restoreBlocks := by decide +kernel
set_option maxHeartbeats 4000000 in
set_option maxRecDepth 100000 in
theorem b_J_restoreBlocks_34 {p : Program} {l : Launch} {e : Env} {s : State} {m : MethodId} {below : List Frame} {meth : Method} {c : Code} {A : Nat → Prop} {dC : Nat → ClassId} {dI : Nat → Nat → Nat} {cI cZ cS : ClassId} {aJ aJh aD aDw aM aMw : Nat} {hd : Nat → Int32} {mm : Nat → Int32} {a1 : Int32} (E : mk_En p s m meth c cX1_restoreBlocks 3 (some .boolean) ([.ref aJ, .int a1] : List Value).toArray wsX1_restoreBlocks yX1_restoreBlocks.cls) (hA : ∀ q : Nat, s.heap.size ≤ q → A q) (hK : va_K (dC, dI) vwCl (tyz cI cZ cS) s) (R : Int32 × Int32 × Int32 × Int32 × (Nat → Int32)) {k_2 : Int32 → Int32 → Int32 → Int32 → Int32 → (Nat → Int32) → Option (Int32 × Int32 × Int32 × Int32 × (Nat → Int32))} (hk_2 : ∀ (x1 : Int32) (x2 : Int32) (pw : Int32) (wl : Int32) (wn : Int32) (dk : Nat → Int32), k_2 x1 x2 pw wl wn dk = some R → ∀ (H : Heap) (locs : List Loc) (ls : Array Slot), va_P (dC, dI) vwCl (w_J cI cZ cS aJ aJh aD aDw aM aMw hd pw wl wn dk mm) H → va_D A (w_J cI cZ cS aJ aJh aD aDw aM aMw hd pw wl wn dk mm) → va_S A s.heap H locs → lv_has ls 3 [(0, .ref aJ), (1, .int x1), (2, .int x2)] → W p l e ({ frames := 3, cells := 0, slots := 0, locals := 63 } : Room) s m ([.ref aJ, .int a1] : List Value).toArray below meth c H locs 0 0 (MQ below (mk_QI (dC, dI) vwCl (tyz cI cZ cS) A (fun u : Int32 × Int32 × Int32 × (Nat → Int32) => w_J cI cZ cS aJ aJh aD aDw aM aMw hd u.1 u.2.1 u.2.2.1 u.2.2.2 mm) R) ([.ref aJ, .int a1] : List Value).toArray s 0 0 A) (F0 m 2 ls [])) (x1 : Int32) (x2 : Int32) (pw : Int32) (wl : Int32) (wn : Int32) (dk : Nat → Int32) (h : p_J_restoreBlocks_34 k_2 x1 x2 pw wl wn dk = some R) : ∀ (H : Heap) (locs : List Loc) (ls : Array Slot), va_P (dC, dI) vwCl (w_J cI cZ cS aJ aJh aD aDw aM aMw hd pw wl wn dk mm) H → va_D A (w_J cI cZ cS aJ aJh aD aDw aM aMw hd pw wl wn dk mm) → va_S A s.heap H locs → lv_has ls 3 [(0, .ref aJ), (1, .int x1), (2, .int x2)] → W p l e ({ frames := 3, cells := 0, slots := 0, locals := 63 } : Room) s m ([.ref aJ, .int a1] : List Value).toArray below meth c H locs 0 0 (MQ below (mk_QI (dC, dI) vwCl (tyz cI cZ cS) A (fun u : Int32 × Int32 × Int32 × (Nat → Int32) => w_J cI cZ cS aJ aJh aD aDw aM aMw hd u.1 u.2.1 u.2.2.1 u.2.2.2 mm) R) ([.ref aJ, .int a1] : List Value).toArray s 0 0 A) (F0 m 34 ls []) := by
  intro H locs ls hP hD hS hl
  obtain ⟨⟨hx, hb, hml, hown, hts⟩, hrt, hlk, hN⟩ := id E
  have hown : s.vm.findClass RX1 = some m.cls := hown
  unfold p_J_restoreBlocks_34 at h
  refine lv_iinc (v := x2 + 1) (lv' := [(2, .int (x2 + 1)), (0, .ref aJ), (1, .int x1)]) hx hb dX1_restoreBlocks_34 hl (k := 2) rfl rfl (by decide) rfl (fun ls hl => ?_)
  refine lv_goto (tgt := 2) hx hb dX1_restoreBlocks_37 (by decide) ?_
  exact hk_2 x1 (x2 + 1) pw wl wn dk h H locs ls hP hD hS (lv_sub hl [1, 2, 0] rfl)
set_option maxHeartbeats 4000000 in
set_option maxRecDepth 100000 in
theorem b_J_restoreBlocks_2 {p : Program} {l : Launch} {e : Env} {s : State} {m : MethodId} {below : List Frame} {meth : Method} {c : Code} {A : Nat → Prop} {dC : Nat → ClassId} {dI : Nat → Nat → Nat} {cI cZ cS : ClassId} {aJ aJh aD aDw aM aMw : Nat} {hd : Nat → Int32} {mm : Nat → Int32} {a1 : Int32} (E : mk_En p s m meth c cX1_restoreBlocks 3 (some .boolean) ([.ref aJ, .int a1] : List Value).toArray wsX1_restoreBlocks yX1_restoreBlocks.cls) (hA : ∀ q : Nat, s.heap.size ≤ q → A q) (hK : va_K (dC, dI) vwCl (tyz cI cZ cS) s) (R : Int32 × Int32 × Int32 × Int32 × (Nat → Int32)) {k_2 : Int32 → Int32 → Int32 → Int32 → Int32 → (Nat → Int32) → Option (Int32 × Int32 × Int32 × Int32 × (Nat → Int32))} (hk_2 : ∀ (x1 : Int32) (x2 : Int32) (pw : Int32) (wl : Int32) (wn : Int32) (dk : Nat → Int32), k_2 x1 x2 pw wl wn dk = some R → ∀ (H : Heap) (locs : List Loc) (ls : Array Slot), va_P (dC, dI) vwCl (w_J cI cZ cS aJ aJh aD aDw aM aMw hd pw wl wn dk mm) H → va_D A (w_J cI cZ cS aJ aJh aD aDw aM aMw hd pw wl wn dk mm) → va_S A s.heap H locs → lv_has ls 3 [(0, .ref aJ), (1, .int x1), (2, .int x2)] → W p l e ({ frames := 3, cells := 0, slots := 0, locals := 63 } : Room) s m ([.ref aJ, .int a1] : List Value).toArray below meth c H locs 0 0 (MQ below (mk_QI (dC, dI) vwCl (tyz cI cZ cS) A (fun u : Int32 × Int32 × Int32 × (Nat → Int32) => w_J cI cZ cS aJ aJh aD aDw aM aMw hd u.1 u.2.1 u.2.2.1 u.2.2.2 mm) R) ([.ref aJ, .int a1] : List Value).toArray s 0 0 A) (F0 m 2 ls [])) (x1 : Int32) (x2 : Int32) (pw : Int32) (wl : Int32) (wn : Int32) (dk : Nat → Int32) (h : p_J_restoreBlocks_2 k_2 x1 x2 pw wl wn dk = some R) : ∀ (H : Heap) (locs : List Loc) (ls : Array Slot), va_P (dC, dI) vwCl (w_J cI cZ cS aJ aJh aD aDw aM aMw hd pw wl wn dk mm) H → va_D A (w_J cI cZ cS aJ aJh aD aDw aM aMw hd pw wl wn dk mm) → va_S A s.heap H locs → lv_has ls 3 [(0, .ref aJ), (1, .int x1), (2, .int x2)] → W p l e ({ frames := 3, cells := 0, slots := 0, locals := 63 } : Room) s m ([.ref aJ, .int a1] : List Value).toArray below meth c H locs 0 0 (MQ below (mk_QI (dC, dI) vwCl (tyz cI cZ cS) A (fun u : Int32 × Int32 × Int32 × (Nat → Int32) => w_J cI cZ cS aJ aJh aD aDw aM aMw hd u.1 u.2.1 u.2.2.1 u.2.2.2 mm) R) ([.ref aJ, .int a1] : List Value).toArray s 0 0 A) (F0 m 2 ls []) := by
  intro H locs ls hP hD hS hl
  obtain ⟨⟨hx, hb, hml, hown, hts⟩, hrt, hlk, hN⟩ := id E
  have hown : s.vm.findClass RX1 = some m.cls := hown
  unfold p_J_restoreBlocks_2 at h
  refine lv_iload_n hx hb dX1_restoreBlocks_2 rfl (lv_at hl 2 rfl) ?_
  refine lv_bipush (v := 16) hx hb dX1_restoreBlocks_3 (by decide) ?_
  refine lv_icmp_ge (tgt := 40) hx hb dX1_restoreBlocks_5 (by decide) (fun c_1 => ?_) (fun c_1 => ?_)
  · replace h := (kp_if h).1 c_1
    refine lv_iconst (v := 1) hx hb dX1_restoreBlocks_40 (by decide) ?_
    cases h
    exact mk_zret E (by decide) hK hP hD hS dX1_restoreBlocks_41
  · replace h := (kp_if h).2 c_1
    refine lv_iload_n hx hb dX1_restoreBlocks_8 rfl (lv_at hl 1 rfl) ?_
    refine lv_iload_n hx hb dX1_restoreBlocks_9 rfl (lv_at hl 2 rfl) ?_
    obtain ⟨r_2, hr_2, h⟩ := kp_bind h
    refine mk_contR (w := w_J cI cZ cS aJ aJh aD aDw aM aMw hd pw wl wn dk mm) (w0 := ([] : va_W)) (wr := [(aJ, .inr (1, [.ref aD, .ref aM, .ref aJh])), (aJh, .inl (cI, 16, .inl hd)), (aD, .inr (0, [.ref aDw, .int pw, .int wl, .int wn])), (aDw, .inl (cI, 528, .inl dk)), (aM, .inr (2, [.ref aMw])), (aMw, .inl (cI, 256, .inl mm))]) hP hD hS hA [] [0, 1, 2, 3, 4, 5] rfl rfl (by decide) (by decide) [0, 1, 2, 3, 4, 5] rfl (by decide) (va_runS (As := [.int x1, .int x2]) (rest := []) ⟨hx, hb, hml, hown, hts⟩ (c_J_contains l dC dI cI cZ cS  x1 x2 r_2 hr_2 H.size) (va_cwS 2 hts gX1_restoreBlocks_X1_contains rfl rfl rfl (by decide +kernel) ⟨Nat.le_of_ble_eq_true rfl, Nat.le_of_ble_eq_true rfl⟩) (mk_preS (w0 := ([] : va_W)) hN hK (mk_pick hP [] rfl) (hD.sub [] (by decide) rfl)) rfl rfl hl.1 rfl (lv_room (Nat.le_of_ble_eq_true rfl)) dX1_restoreBlocks_10 ⟨Nat.zero_le _, Nat.zero_le _⟩) (fun H locs hP hD hS => ?_)
    refine lv_if_eq (tgt := 34) hx hb dX1_restoreBlocks_13 (by decide) (fun c_3 => ?_) (fun c_3 => ?_)
    · replace h := (kp_if h).1 c_3
      exact b_J_restoreBlocks_34 E hA hK R hk_2 x1 x2 pw wl wn dk h H locs ls hP hD hS (lv_sub hl [0, 1, 2] rfl)
    · replace h := (kp_if h).2 c_3
      refine lv_aload_n hx hb dX1_restoreBlocks_16 rfl (lv_at hl 0 rfl) ?_
      refine va_get (D := (dC, dI)) (ci := 1) (v := .ref aD) (C := RX1) (T := TX1) (N := 3) hx hb hts iw_J_restoreBlocks_Journal hown hK hP 0 rfl rfl 0 (by decide) (hts _ mm_J_restoreBlocks_0) (fun _ h9 => h9) rfl dX1_restoreBlocks_17 ?_
      refine lv_iload_n hx hb dX1_restoreBlocks_20 rfl (lv_at hl 2 rfl) ?_
      refine lv_iload_n hx hb dX1_restoreBlocks_21 rfl (lv_at hl 1 rfl) ?_
      refine lv_iload_n hx hb dX1_restoreBlocks_22 rfl (lv_at hl 2 rfl) ?_
      obtain ⟨r_4, hr_4, h⟩ := kp_bind h
      refine mk_contR (w := w_J cI cZ cS aJ aJh aD aDw aM aMw hd pw wl wn dk mm) (w0 := ([] : va_W)) (wr := [(aJ, .inr (1, [.ref aD, .ref aM, .ref aJh])), (aJh, .inl (cI, 16, .inl hd)), (aD, .inr (0, [.ref aDw, .int pw, .int wl, .int wn])), (aDw, .inl (cI, 528, .inl dk)), (aM, .inr (2, [.ref aMw])), (aMw, .inl (cI, 256, .inl mm))]) hP hD hS hA [] [0, 1, 2, 3, 4, 5] rfl rfl (by decide) (by decide) [0, 1, 2, 3, 4, 5] rfl (by decide) (va_runS (As := [.int x1, .int x2]) (rest := [.int x2, .ref aD]) ⟨hx, hb, hml, hown, hts⟩ (c_J_imageOf l dC dI cI cZ cS  x1 x2 r_4 hr_4 H.size) (va_cwS 2 hts gX1_restoreBlocks_X1_imageOf rfl rfl rfl (by decide +kernel) ⟨Nat.le_of_ble_eq_true rfl, Nat.le_of_ble_eq_true rfl⟩) (mk_preS (w0 := ([] : va_W)) hN hK (mk_pick hP [] rfl) (hD.sub [] (by decide) rfl)) rfl rfl hl.1 rfl (lv_room (Nat.le_of_ble_eq_true rfl)) dX1_restoreBlocks_23 ⟨Nat.zero_le _, Nat.zero_le _⟩) (fun H locs hP hD hS => ?_)
      obtain ⟨r_5, hr_5, h⟩ := kp_bind h
      refine mk_contI (w := w_J cI cZ cS aJ aJh aD aDw aM aMw hd pw wl wn dk mm) (w0 := w_D cI cZ cS aD aDw pw wl wn dk) (wr := [(aJ, .inr (1, [.ref aD, .ref aM, .ref aJh])), (aJh, .inl (cI, 16, .inl hd)), (aM, .inr (2, [.ref aMw])), (aMw, .inl (cI, 256, .inl mm))]) (w2 := w_J cI cZ cS aJ aJh aD aDw aM aMw hd r_5.2.1 r_5.2.2.1 r_5.2.2.2.1 r_5.2.2.2.2 mm) hP hD hS hA [2, 3] [0, 1, 4, 5] rfl rfl (by decide) (by decide) [0, 1, 4, 5, 2, 3] rfl (by decide) (va_runV (As := [.int x2, .int r_4]) (rest := []) ⟨hx, hb, hml, hown, hts⟩ (c_D_copyBlock l dC dI cI cZ cS aD aDw pw wl wn dk x2 r_4 r_5 hr_5 H.size) (cwV 2 hts gX1_restoreBlocks_X0_copyBlock rfl rfl rfl (by decide +kernel) ⟨Nat.le_of_ble_eq_true rfl, Nat.le_of_ble_eq_true rfl⟩) (mk_preV (w0 := w_D cI cZ cS aD aDw pw wl wn dk) (ci := 0) (q0 := 0) hN hK (mk_pick hP [2, 3] rfl) (hD.sub [2, 3] (by decide) rfl) rfl rfl rfl) rfl rfl hl.1 rfl (lv_room (Nat.le_of_ble_eq_true rfl)) dX1_restoreBlocks_26 ⟨Nat.zero_le _, Nat.zero_le _⟩) (fun H locs hP hD hS => ?_)
      refine lv_if_ne (tgt := 34) hx hb dX1_restoreBlocks_29 (by decide) (fun c_6 => ?_) (fun c_6 => ?_)
      · replace h := (kp_if h).2 c_6
        exact b_J_restoreBlocks_34 E hA hK R hk_2 x1 x2 r_5.2.1 r_5.2.2.1 r_5.2.2.2.1 r_5.2.2.2.2 h H locs ls hP hD hS (lv_sub hl [0, 1, 2] rfl)
      · replace h := (kp_if h).1 c_6
        refine lv_iconst (v := 0) hx hb dX1_restoreBlocks_32 (by decide) ?_
        cases h
        exact mk_zret E (by decide) hK hP hD hS dX1_restoreBlocks_33
set_option maxHeartbeats 4000000 in
set_option maxRecDepth 100000 in
theorem l_J_restoreBlocks_2 {p : Program} {l : Launch} {e : Env} {s : State} {m : MethodId} {below : List Frame} {meth : Method} {c : Code} {A : Nat → Prop} {dC : Nat → ClassId} {dI : Nat → Nat → Nat} {cI cZ cS : ClassId} {aJ aJh aD aDw aM aMw : Nat} {hd : Nat → Int32} {mm : Nat → Int32} {a1 : Int32} (E : mk_En p s m meth c cX1_restoreBlocks 3 (some .boolean) ([.ref aJ, .int a1] : List Value).toArray wsX1_restoreBlocks yX1_restoreBlocks.cls) (hA : ∀ q : Nat, s.heap.size ≤ q → A q) (hK : va_K (dC, dI) vwCl (tyz cI cZ cS) s) (R : Int32 × Int32 × Int32 × Int32 × (Nat → Int32)) : ∀ (n : Nat) (x1 : Int32) (x2 : Int32) (pw : Int32) (wl : Int32) (wn : Int32) (dk : Nat → Int32), pl_J_restoreBlocks_2 n x1 x2 pw wl wn dk = some R → ∀ (H : Heap) (locs : List Loc) (ls : Array Slot), va_P (dC, dI) vwCl (w_J cI cZ cS aJ aJh aD aDw aM aMw hd pw wl wn dk mm) H → va_D A (w_J cI cZ cS aJ aJh aD aDw aM aMw hd pw wl wn dk mm) → va_S A s.heap H locs → lv_has ls 3 [(0, .ref aJ), (1, .int x1), (2, .int x2)] → W p l e ({ frames := 3, cells := 0, slots := 0, locals := 63 } : Room) s m ([.ref aJ, .int a1] : List Value).toArray below meth c H locs 0 0 (MQ below (mk_QI (dC, dI) vwCl (tyz cI cZ cS) A (fun u : Int32 × Int32 × Int32 × (Nat → Int32) => w_J cI cZ cS aJ aJh aD aDw aM aMw hd u.1 u.2.1 u.2.2.1 u.2.2.2 mm) R) ([.ref aJ, .int a1] : List Value).toArray s 0 0 A) (F0 m 2 ls []) := by
  intro n
  induction n with
  | zero =>
    intro x1 x2 pw wl wn dk h
    cases h
  | succ n ih =>
    intro x1 x2 pw wl wn dk h
    exact b_J_restoreBlocks_2 E hA hK R ih x1 x2 pw wl wn dk h
set_option maxHeartbeats 4000000 in
set_option maxRecDepth 100000 in
theorem c_J_restoreBlocks (l : Launch) (dC : Nat → ClassId) (dI : Nat → Nat → Nat) (cI cZ cS : ClassId) (aJ aJh aD aDw aM aMw : Nat) (hd : Nat → Int32) (pw : Int32) (wl : Int32) (wn : Int32) (dk : Nat → Int32) (mm : Nat → Int32) (a1 : Int32) : CtI l yX1_restoreBlocks wsX1_restoreBlocks ({ frames := 3, cells := 0, slots := 0, locals := 63 }) (dC, dI) vwCl (tyz cI cZ cS) [.ref aJ, .int a1] (w_J cI cZ cS aJ aJh aD aDw aM aMw hd pw wl wn dk mm) (fun u : Int32 × Int32 × Int32 × (Nat → Int32) => w_J cI cZ cS aJ aJh aD aDw aM aMw hd u.1 u.2.1 u.2.2.1 u.2.2.2 mm) (p_J_restoreBlocks pw wl wn dk a1) := by
  intro R h
  refine mk_enter (Qc := (fun A => mk_QI (dC, dI) vwCl (tyz cI cZ cS) A (fun u : Int32 × Int32 × Int32 × (Nat → Int32) => w_J cI cZ cS aJ aJh aD aDw aM aMw hd u.1 u.2.1 u.2.2.1 u.2.2.2 mm) R)) (by decide) rfl (Nat.le_of_ble_eq_true rfl) ?_
  intro p e s m below meth c A E hA hK H locs ls hP hD hS hl
  obtain ⟨⟨hx, hb, hml, hown, hts⟩, hrt, hlk, hN⟩ := id E
  have hown : s.vm.findClass RX1 = some m.cls := hown
  have hl : lv_has ls 3 [(0, .ref aJ), (1, .int a1)] := hl
  unfold p_J_restoreBlocks at h
  refine lv_iconst (v := 0) hx hb dX1_restoreBlocks_0 (by decide) ?_
  refine lv_istore_n (lv' := [(2, .int 0), (0, .ref aJ), (1, .int a1)]) hx hb dX1_restoreBlocks_1 rfl hl (by decide) rfl (fun ls hl => ?_)
  exact l_J_restoreBlocks_2 E hA hK R 1000 a1 0 pw wl wn dk h H locs ls hP hD hS (lv_sub hl [1, 2, 0] rfl)

/- Journal.blocksToUndo()I -/
set_option maxRecDepth 20000 in
theorem mm_J_blocksToUndo_0 : Cond.fieldLink RX1 15 "JournaledTables$Journal" "disk" "LJournaledTables$Disk;" ∈ wsX1_blocksToUndo := by decide +kernel
set_option maxRecDepth 20000 in
theorem iw_J_blocksToUndo_Journal : ∀ w ∈ u_ws RX1 TX1 3, w ∈ wsX1_blocksToUndo := by decide +kernel
set_option maxHeartbeats 4000000 in
set_option maxRecDepth 100000 in
theorem b_J_blocksToUndo_120 {p : Program} {l : Launch} {e : Env} {s : State} {m : MethodId} {below : List Frame} {meth : Method} {c : Code} {A : Nat → Prop} {dC : Nat → ClassId} {dI : Nat → Nat → Nat} {cI cZ cS : ClassId} {aJ aJh aD aDw aM aMw : Nat} {hd : Nat → Int32} {pw : Int32} {wl : Int32} {wn : Int32} {dk : Nat → Int32} {mm : Nat → Int32} (E : mk_En p s m meth c cX1_blocksToUndo 4 (some .int) ([.ref aJ] : List Value).toArray wsX1_blocksToUndo yX1_blocksToUndo.cls) (hA : ∀ q : Nat, s.heap.size ≤ q → A q) (hK : va_K (dC, dI) vwCl (tyz cI cZ cS) s) (R : Int32) (z0 : Int32) (h : p_J_blocksToUndo_120 dk z0 = some R) : ∀ (H : Heap) (locs : List Loc) (ls : Array Slot), va_P (dC, dI) vwCl (w_J cI cZ cS aJ aJh aD aDw aM aMw hd pw wl wn dk mm) H → va_D A (w_J cI cZ cS aJ aJh aD aDw aM aMw hd pw wl wn dk mm) → va_S A s.heap H locs → lv_has ls 4 [] → W p l e ({ frames := 2, cells := 0, slots := 0, locals := 46 } : Room) s m ([.ref aJ] : List Value).toArray below meth c H locs 0 0 (MQ below (mk_QR (dC, dI) vwCl (tyz cI cZ cS) A (w_J cI cZ cS aJ aJh aD aDw aM aMw hd pw wl wn dk mm) R) ([.ref aJ] : List Value).toArray s 0 0 A) (F0 m 120 ls [.int z0]) := by
  intro H locs ls hP hD hS hl
  obtain ⟨⟨hx, hb, hml, hown, hts⟩, hrt, hlk, hN⟩ := id E
  have hown : s.vm.findClass RX1 = some m.cls := hown
  unfold p_J_blocksToUndo_120 at h
  cases h
  exact mk_iretR E hK hP hD hS dX1_blocksToUndo_120
set_option maxHeartbeats 4000000 in
set_option maxRecDepth 100000 in
theorem b_J_blocksToUndo_70 {p : Program} {l : Launch} {e : Env} {s : State} {m : MethodId} {below : List Frame} {meth : Method} {c : Code} {A : Nat → Prop} {dC : Nat → ClassId} {dI : Nat → Nat → Nat} {cI cZ cS : ClassId} {aJ aJh aD aDw aM aMw : Nat} {hd : Nat → Int32} {pw : Int32} {wl : Int32} {wn : Int32} {dk : Nat → Int32} {mm : Nat → Int32} (E : mk_En p s m meth c cX1_blocksToUndo 4 (some .int) ([.ref aJ] : List Value).toArray wsX1_blocksToUndo yX1_blocksToUndo.cls) (hA : ∀ q : Nat, s.heap.size ≤ q → A q) (hK : va_K (dC, dI) vwCl (tyz cI cZ cS) s) (R : Int32) {k_70 : Int32 → Int32 → Int32 → Option Int32} (hk_70 : ∀ (x1 : Int32) (x2 : Int32) (x3 : Int32), k_70 x1 x2 x3 = some R → ∀ (H : Heap) (locs : List Loc) (ls : Array Slot), va_P (dC, dI) vwCl (w_J cI cZ cS aJ aJh aD aDw aM aMw hd pw wl wn dk mm) H → va_D A (w_J cI cZ cS aJ aJh aD aDw aM aMw hd pw wl wn dk mm) → va_S A s.heap H locs → lv_has ls 4 [(0, .ref aJ), (1, .int x1), (2, .int x2), (3, .int x3)] → W p l e ({ frames := 2, cells := 0, slots := 0, locals := 46 } : Room) s m ([.ref aJ] : List Value).toArray below meth c H locs 0 0 (MQ below (mk_QR (dC, dI) vwCl (tyz cI cZ cS) A (w_J cI cZ cS aJ aJh aD aDw aM aMw hd pw wl wn dk mm) R) ([.ref aJ] : List Value).toArray s 0 0 A) (F0 m 70 ls [])) (x1 : Int32) (x2 : Int32) (x3 : Int32) (h : p_J_blocksToUndo_70 dk k_70 x1 x2 x3 = some R) : ∀ (H : Heap) (locs : List Loc) (ls : Array Slot), va_P (dC, dI) vwCl (w_J cI cZ cS aJ aJh aD aDw aM aMw hd pw wl wn dk mm) H → va_D A (w_J cI cZ cS aJ aJh aD aDw aM aMw hd pw wl wn dk mm) → va_S A s.heap H locs → lv_has ls 4 [(0, .ref aJ), (1, .int x1), (2, .int x2), (3, .int x3)] → W p l e ({ frames := 2, cells := 0, slots := 0, locals := 46 } : Room) s m ([.ref aJ] : List Value).toArray below meth c H locs 0 0 (MQ below (mk_QR (dC, dI) vwCl (tyz cI cZ cS) A (w_J cI cZ cS aJ aJh aD aDw aM aMw hd pw wl wn dk mm) R) ([.ref aJ] : List Value).toArray s 0 0 A) (F0 m 70 ls []) := by
  intro H locs ls hP hD hS hl
  obtain ⟨⟨hx, hb, hml, hown, hts⟩, hrt, hlk, hN⟩ := id E
  have hown : s.vm.findClass RX1 = some m.cls := hown
  unfold p_J_blocksToUndo_70 at h
  refine lv_iload_n hx hb dX1_blocksToUndo_70 rfl (lv_at hl 3 rfl) ?_
  refine lv_bipush (v := 16) hx hb dX1_blocksToUndo_71 (by decide) ?_
  refine lv_icmp_ge (tgt := 97) hx hb dX1_blocksToUndo_73 (by decide) (fun c_1 => ?_) (fun c_1 => ?_)
  · replace h := (kp_if h).1 c_1
    refine lv_aload_n hx hb dX1_blocksToUndo_97 rfl (lv_at hl 0 rfl) ?_
    refine va_get (D := (dC, dI)) (ci := 1) (v := .ref aD) (C := RX1) (T := TX1) (N := 3) hx hb hts iw_J_blocksToUndo_Journal hown hK hP 0 rfl rfl 0 (by decide) (hts _ mm_J_blocksToUndo_0) (fun _ h9 => h9) rfl dX1_blocksToUndo_98 ?_
    refine lv_bipush (v := 16) hx hb dX1_blocksToUndo_101 (by decide) ?_
    refine lv_iconst (v := 3) hx hb dX1_blocksToUndo_103 (by decide) ?_
    obtain ⟨r_2, hr_2, h⟩ := kp_bind h
    refine mk_contR (w := w_J cI cZ cS aJ aJh aD aDw aM aMw hd pw wl wn dk mm) (w0 := w_D cI cZ cS aD aDw pw wl wn dk) (wr := [(aJ, .inr (1, [.ref aD, .ref aM, .ref aJh])), (aJh, .inl (cI, 16, .inl hd)), (aM, .inr (2, [.ref aMw])), (aMw, .inl (cI, 256, .inl mm))]) hP hD hS hA [2, 3] [0, 1, 4, 5] rfl rfl (by decide) (by decide) [0, 1, 4, 5, 2, 3] rfl (by decide) (va_runV (As := [.int 16, .int 3]) (rest := []) ⟨hx, hb, hml, hown, hts⟩ (c_D_word l dC dI cI cZ cS aD aDw pw wl wn dk 16 3 r_2 hr_2 H.size) (cwV 2 hts gX1_blocksToUndo_X0_word rfl rfl rfl (by decide +kernel) ⟨Nat.le_of_ble_eq_true rfl, Nat.le_of_ble_eq_true rfl⟩) (mk_preV (w0 := w_D cI cZ cS aD aDw pw wl wn dk) (ci := 0) (q0 := 0) hN hK (mk_pick hP [2, 3] rfl) (hD.sub [2, 3] (by decide) rfl) rfl rfl rfl) rfl rfl hl.1 rfl (lv_room (Nat.le_of_ble_eq_true rfl)) dX1_blocksToUndo_104 ⟨Nat.zero_le _, Nat.zero_le _⟩) (fun H locs hP hD hS => ?_)
    refine lv_aload_n hx hb dX1_blocksToUndo_107 rfl (lv_at hl 0 rfl) ?_
    refine lv_iload_n hx hb dX1_blocksToUndo_108 rfl (lv_at hl 1 rfl) ?_
    obtain ⟨r_3, hr_3, h⟩ := kp_bind h
    refine mk_contR (w := w_J cI cZ cS aJ aJh aD aDw aM aMw hd pw wl wn dk mm) (w0 := w_J cI cZ cS aJ aJh aD aDw aM aMw hd pw wl wn dk mm) (wr := []) hP hD hS hA [0, 1, 2, 3, 4, 5] [] rfl rfl (by decide) (by decide) [0, 1, 2, 3, 4, 5] rfl (by decide) (va_runV (As := [.int x1]) (rest := [.int r_2]) ⟨hx, hb, hml, hown, hts⟩ (c_J_checkOfImages l dC dI cI cZ cS aJ aJh aD aDw aM aMw hd pw wl wn dk mm x1 r_3 hr_3 H.size) (cwV 1 hts gX1_blocksToUndo_X1_checkOfImages rfl rfl rfl (by decide +kernel) ⟨Nat.le_of_ble_eq_true rfl, Nat.le_of_ble_eq_true rfl⟩) (mk_preV (w0 := w_J cI cZ cS aJ aJh aD aDw aM aMw hd pw wl wn dk mm) (ci := 1) (q0 := 0) hN hK (mk_pick hP [0, 1, 2, 3, 4, 5] rfl) (hD.sub [0, 1, 2, 3, 4, 5] (by decide) rfl) rfl rfl rfl) rfl rfl hl.1 rfl (lv_room (Nat.le_of_ble_eq_true rfl)) dX1_blocksToUndo_109 ⟨Nat.zero_le _, Nat.zero_le _⟩) (fun H locs hP hD hS => ?_)
    refine lv_icmp_ne (tgt := 119) hx hb dX1_blocksToUndo_112 (by decide) (fun c_4 => ?_) (fun c_4 => ?_)
    · replace h := (kp_if h).2 c_4
      refine lv_iconst (v := 0) hx hb dX1_blocksToUndo_119 (by decide) ?_
      exact b_J_blocksToUndo_120 E hA hK R 0 h H locs ls hP hD hS (lv_sub hl [] rfl)
    · replace h := (kp_if h).1 c_4
      refine lv_iload_n hx hb dX1_blocksToUndo_115 rfl (lv_at hl 2 rfl) ?_
      refine lv_goto (tgt := 120) hx hb dX1_blocksToUndo_116 (by decide) ?_
      exact b_J_blocksToUndo_120 E hA hK R x2 h H locs ls hP hD hS (lv_sub hl [] rfl)
  · replace h := (kp_if h).2 c_1
    refine lv_aload_n hx hb dX1_blocksToUndo_76 rfl (lv_at hl 0 rfl) ?_
    refine va_get (D := (dC, dI)) (ci := 1) (v := .ref aD) (C := RX1) (T := TX1) (N := 3) hx hb hts iw_J_blocksToUndo_Journal hown hK hP 0 rfl rfl 0 (by decide) (hts _ mm_J_blocksToUndo_0) (fun _ h9 => h9) rfl dX1_blocksToUndo_77 ?_
    refine lv_bipush (v := 16) hx hb dX1_blocksToUndo_80 (by decide) ?_
    refine lv_iload_n hx hb dX1_blocksToUndo_82 rfl (lv_at hl 3 rfl) ?_
    obtain ⟨r_5, hr_5, h⟩ := kp_bind h
    refine mk_contR (w := w_J cI cZ cS aJ aJh aD aDw aM aMw hd pw wl wn dk mm) (w0 := w_D cI cZ cS aD aDw pw wl wn dk) (wr := [(aJ, .inr (1, [.ref aD, .ref aM, .ref aJh])), (aJh, .inl (cI, 16, .inl hd)), (aM, .inr (2, [.ref aMw])), (aMw, .inl (cI, 256, .inl mm))]) hP hD hS hA [2, 3] [0, 1, 4, 5] rfl rfl (by decide) (by decide) [0, 1, 4, 5, 2, 3] rfl (by decide) (va_runV (As := [.int 16, .int x3]) (rest := []) ⟨hx, hb, hml, hown, hts⟩ (c_D_word l dC dI cI cZ cS aD aDw pw wl wn dk 16 x3 r_5 hr_5 H.size) (cwV 2 hts gX1_blocksToUndo_X0_word rfl rfl rfl (by decide +kernel) ⟨Nat.le_of_ble_eq_true rfl, Nat.le_of_ble_eq_true rfl⟩) (mk_preV (w0 := w_D cI cZ cS aD aDw pw wl wn dk) (ci := 0) (q0 := 0) hN hK (mk_pick hP [2, 3] rfl) (hD.sub [2, 3] (by decide) rfl) rfl rfl rfl) rfl rfl hl.1 rfl (lv_room (Nat.le_of_ble_eq_true rfl)) dX1_blocksToUndo_83 ⟨Nat.zero_le _, Nat.zero_le _⟩) (fun H locs hP hD hS => ?_)
    refine lv_if_eq (tgt := 91) hx hb dX1_blocksToUndo_86 (by decide) (fun c_6 => ?_) (fun c_6 => ?_)
    · replace h := (kp_if h).1 c_6
      refine lv_iinc (v := x3 + 1) (lv' := [(3, .int (x3 + 1)), (0, .ref aJ), (1, .int x1), (2, .int x2)]) hx hb dX1_blocksToUndo_91 hl (k := 3) rfl rfl (by decide) rfl (fun ls hl => ?_)
      refine lv_goto (tgt := 70) hx hb dX1_blocksToUndo_94 (by decide) ?_
      exact hk_70 x1 x2 (x3 + 1) h H locs ls hP hD hS (lv_sub hl [1, 2, 3, 0] rfl)
    · replace h := (kp_if h).2 c_6
      refine lv_iconst (v := 0) hx hb dX1_blocksToUndo_89 (by decide) ?_
      cases h
      exact mk_iretR E hK hP hD hS dX1_blocksToUndo_90
set_option maxHeartbeats 4000000 in
set_option maxRecDepth 100000 in
theorem l_J_blocksToUndo_70 {p : Program} {l : Launch} {e : Env} {s : State} {m : MethodId} {below : List Frame} {meth : Method} {c : Code} {A : Nat → Prop} {dC : Nat → ClassId} {dI : Nat → Nat → Nat} {cI cZ cS : ClassId} {aJ aJh aD aDw aM aMw : Nat} {hd : Nat → Int32} {pw : Int32} {wl : Int32} {wn : Int32} {dk : Nat → Int32} {mm : Nat → Int32} (E : mk_En p s m meth c cX1_blocksToUndo 4 (some .int) ([.ref aJ] : List Value).toArray wsX1_blocksToUndo yX1_blocksToUndo.cls) (hA : ∀ q : Nat, s.heap.size ≤ q → A q) (hK : va_K (dC, dI) vwCl (tyz cI cZ cS) s) (R : Int32) : ∀ (n : Nat) (x1 : Int32) (x2 : Int32) (x3 : Int32), pl_J_blocksToUndo_70 dk n x1 x2 x3 = some R → ∀ (H : Heap) (locs : List Loc) (ls : Array Slot), va_P (dC, dI) vwCl (w_J cI cZ cS aJ aJh aD aDw aM aMw hd pw wl wn dk mm) H → va_D A (w_J cI cZ cS aJ aJh aD aDw aM aMw hd pw wl wn dk mm) → va_S A s.heap H locs → lv_has ls 4 [(0, .ref aJ), (1, .int x1), (2, .int x2), (3, .int x3)] → W p l e ({ frames := 2, cells := 0, slots := 0, locals := 46 } : Room) s m ([.ref aJ] : List Value).toArray below meth c H locs 0 0 (MQ below (mk_QR (dC, dI) vwCl (tyz cI cZ cS) A (w_J cI cZ cS aJ aJh aD aDw aM aMw hd pw wl wn dk mm) R) ([.ref aJ] : List Value).toArray s 0 0 A) (F0 m 70 ls []) := by
  intro n
  induction n with
  | zero =>
    intro x1 x2 x3 h
    cases h
  | succ n ih =>
    intro x1 x2 x3 h
    exact b_J_blocksToUndo_70 E hA hK R ih x1 x2 x3 h
set_option maxHeartbeats 4000000 in
set_option maxRecDepth 100000 in
theorem b_J_blocksToUndo_66 {p : Program} {l : Launch} {e : Env} {s : State} {m : MethodId} {below : List Frame} {meth : Method} {c : Code} {A : Nat → Prop} {dC : Nat → ClassId} {dI : Nat → Nat → Nat} {cI cZ cS : ClassId} {aJ aJh aD aDw aM aMw : Nat} {hd : Nat → Int32} {pw : Int32} {wl : Int32} {wn : Int32} {dk : Nat → Int32} {mm : Nat → Int32} (E : mk_En p s m meth c cX1_blocksToUndo 4 (some .int) ([.ref aJ] : List Value).toArray wsX1_blocksToUndo yX1_blocksToUndo.cls) (hA : ∀ q : Nat, s.heap.size ≤ q → A q) (hK : va_K (dC, dI) vwCl (tyz cI cZ cS) s) (R : Int32) (h : p_J_blocksToUndo_66 dk = some R) : ∀ (H : Heap) (locs : List Loc) (ls : Array Slot), va_P (dC, dI) vwCl (w_J cI cZ cS aJ aJh aD aDw aM aMw hd pw wl wn dk mm) H → va_D A (w_J cI cZ cS aJ aJh aD aDw aM aMw hd pw wl wn dk mm) → va_S A s.heap H locs → lv_has ls 4 [] → W p l e ({ frames := 2, cells := 0, slots := 0, locals := 46 } : Room) s m ([.ref aJ] : List Value).toArray below meth c H locs 0 0 (MQ below (mk_QR (dC, dI) vwCl (tyz cI cZ cS) A (w_J cI cZ cS aJ aJh aD aDw aM aMw hd pw wl wn dk mm) R) ([.ref aJ] : List Value).toArray s 0 0 A) (F0 m 66 ls []) := by
  intro H locs ls hP hD hS hl
  obtain ⟨⟨hx, hb, hml, hown, hts⟩, hrt, hlk, hN⟩ := id E
  have hown : s.vm.findClass RX1 = some m.cls := hown
  unfold p_J_blocksToUndo_66 at h
  refine lv_iconst (v := 0) hx hb dX1_blocksToUndo_66 (by decide) ?_
  cases h
  exact mk_iretR E hK hP hD hS dX1_blocksToUndo_67
set_option maxHeartbeats 4000000 in
set_option maxRecDepth 100000 in
theorem b_J_blocksToUndo_49 {p : Program} {l : Launch} {e : Env} {s : State} {m : MethodId} {below : List Frame} {meth : Method} {c : Code} {A : Nat → Prop} {dC : Nat → ClassId} {dI : Nat → Nat → Nat} {cI cZ cS : ClassId} {aJ aJh aD aDw aM aMw : Nat} {hd : Nat → Int32} {pw : Int32} {wl : Int32} {wn : Int32} {dk : Nat → Int32} {mm : Nat → Int32} (E : mk_En p s m meth c cX1_blocksToUndo 4 (some .int) ([.ref aJ] : List Value).toArray wsX1_blocksToUndo yX1_blocksToUndo.cls) (hA : ∀ q : Nat, s.heap.size ≤ q → A q) (hK : va_K (dC, dI) vwCl (tyz cI cZ cS) s) (R : Int32) (h : p_J_blocksToUndo_49 dk = some R) : ∀ (H : Heap) (locs : List Loc) (ls : Array Slot), va_P (dC, dI) vwCl (w_J cI cZ cS aJ aJh aD aDw aM aMw hd pw wl wn dk mm) H → va_D A (w_J cI cZ cS aJ aJh aD aDw aM aMw hd pw wl wn dk mm) → va_S A s.heap H locs → lv_has ls 4 [] → W p l e ({ frames := 2, cells := 0, slots := 0, locals := 46 } : Room) s m ([.ref aJ] : List Value).toArray below meth c H locs 0 0 (MQ below (mk_QR (dC, dI) vwCl (tyz cI cZ cS) A (w_J cI cZ cS aJ aJh aD aDw aM aMw hd pw wl wn dk mm) R) ([.ref aJ] : List Value).toArray s 0 0 A) (F0 m 49 ls []) := by
  intro H locs ls hP hD hS hl
  obtain ⟨⟨hx, hb, hml, hown, hts⟩, hrt, hlk, hN⟩ := id E
  have hown : s.vm.findClass RX1 = some m.cls := hown
  unfold p_J_blocksToUndo_49 at h
  refine lv_iconst (v := 0) hx hb dX1_blocksToUndo_49 (by decide) ?_
  cases h
  exact mk_iretR E hK hP hD hS dX1_blocksToUndo_50
set_option maxHeartbeats 4000000 in
set_option maxRecDepth 100000 in
theorem c_J_blocksToUndo (l : Launch) (dC : Nat → ClassId) (dI : Nat → Nat → Nat) (cI cZ cS : ClassId) (aJ aJh aD aDw aM aMw : Nat) (hd : Nat → Int32) (pw : Int32) (wl : Int32) (wn : Int32) (dk : Nat → Int32) (mm : Nat → Int32) : CtR l yX1_blocksToUndo wsX1_blocksToUndo ({ frames := 2, cells := 0, slots := 0, locals := 46 }) (dC, dI) vwCl (tyz cI cZ cS) [.ref aJ] (w_J cI cZ cS aJ aJh aD aDw aM aMw hd pw wl wn dk mm) (p_J_blocksToUndo dk) := by
  intro R h
  refine mk_enter (Qc := (fun A => mk_QR (dC, dI) vwCl (tyz cI cZ cS) A (w_J cI cZ cS aJ aJh aD aDw aM aMw hd pw wl wn dk mm) R)) (by decide) rfl (Nat.le_of_ble_eq_true rfl) ?_
  intro p e s m below meth c A E hA hK H locs ls hP hD hS hl
  obtain ⟨⟨hx, hb, hml, hown, hts⟩, hrt, hlk, hN⟩ := id E
  have hown : s.vm.findClass RX1 = some m.cls := hown
  have hl : lv_has ls 4 [(0, .ref aJ)] := hl
  unfold p_J_blocksToUndo at h
  refine lv_aload_n hx hb dX1_blocksToUndo_0 rfl (lv_at hl 0 rfl) ?_
  refine va_get (D := (dC, dI)) (ci := 1) (v := .ref aD) (C := RX1) (T := TX1) (N := 3) hx hb hts iw_J_blocksToUndo_Journal hown hK hP 0 rfl rfl 0 (by decide) (hts _ mm_J_blocksToUndo_0) (fun _ h9 => h9) rfl dX1_blocksToUndo_1 ?_
  refine lv_bipush (v := 16) hx hb dX1_blocksToUndo_4 (by decide) ?_
  refine lv_iconst (v := 1) hx hb dX1_blocksToUndo_6 (by decide) ?_
  obtain ⟨r_7, hr_7, h⟩ := kp_bind h
  refine mk_contR (w := w_J cI cZ cS aJ aJh aD aDw aM aMw hd pw wl wn dk mm) (w0 := w_D cI cZ cS aD aDw pw wl wn dk) (wr := [(aJ, .inr (1, [.ref aD, .ref aM, .ref aJh])), (aJh, .inl (cI, 16, .inl hd)), (aM, .inr (2, [.ref aMw])), (aMw, .inl (cI, 256, .inl mm))]) hP hD hS hA [2, 3] [0, 1, 4, 5] rfl rfl (by decide) (by decide) [0, 1, 4, 5, 2, 3] rfl (by decide) (va_runV (As := [.int 16, .int 1]) (rest := []) ⟨hx, hb, hml, hown, hts⟩ (c_D_word l dC dI cI cZ cS aD aDw pw wl wn dk 16 1 r_7 hr_7 H.size) (cwV 2 hts gX1_blocksToUndo_X0_word rfl rfl rfl (by decide +kernel) ⟨Nat.le_of_ble_eq_true rfl, Nat.le_of_ble_eq_true rfl⟩) (mk_preV (w0 := w_D cI cZ cS aD aDw pw wl wn dk) (ci := 0) (q0 := 0) hN hK (mk_pick hP [2, 3] rfl) (hD.sub [2, 3] (by decide) rfl) rfl rfl rfl) rfl rfl hl.1 rfl (lv_room (Nat.le_of_ble_eq_true rfl)) dX1_blocksToUndo_7 ⟨Nat.zero_le _, Nat.zero_le _⟩) (fun H locs hP hD hS => ?_)
  refine lv_istore_n (lv' := [(1, .int r_7), (0, .ref aJ)]) hx hb dX1_blocksToUndo_10 rfl hl (by decide) rfl (fun ls hl => ?_)
  refine lv_aload_n hx hb dX1_blocksToUndo_11 rfl (lv_at hl 1 rfl) ?_
  refine va_get (D := (dC, dI)) (ci := 1) (v := .ref aD) (C := RX1) (T := TX1) (N := 3) hx hb hts iw_J_blocksToUndo_Journal hown hK hP 0 rfl rfl 0 (by decide) (hts _ mm_J_blocksToUndo_0) (fun _ h9 => h9) rfl dX1_blocksToUndo_12 ?_
  refine lv_bipush (v := 16) hx hb dX1_blocksToUndo_15 (by decide) ?_
  refine lv_iconst (v := 2) hx hb dX1_blocksToUndo_17 (by decide) ?_
  obtain ⟨r_8, hr_8, h⟩ := kp_bind h
  refine mk_contR (w := w_J cI cZ cS aJ aJh aD aDw aM aMw hd pw wl wn dk mm) (w0 := w_D cI cZ cS aD aDw pw wl wn dk) (wr := [(aJ, .inr (1, [.ref aD, .ref aM, .ref aJh])), (aJh, .inl (cI, 16, .inl hd)), (aM, .inr (2, [.ref aMw])), (aMw, .inl (cI, 256, .inl mm))]) hP hD hS hA [2, 3] [0, 1, 4, 5] rfl rfl (by decide) (by decide) [0, 1, 4, 5, 2, 3] rfl (by decide) (va_runV (As := [.int 16, .int 2]) (rest := []) ⟨hx, hb, hml, hown, hts⟩ (c_D_word l dC dI cI cZ cS aD aDw pw wl wn dk 16 2 r_8 hr_8 H.size) (cwV 2 hts gX1_blocksToUndo_X0_word rfl rfl rfl (by decide +kernel) ⟨Nat.le_of_ble_eq_true rfl, Nat.le_of_ble_eq_true rfl⟩) (mk_preV (w0 := w_D cI cZ cS aD aDw pw wl wn dk) (ci := 0) (q0 := 0) hN hK (mk_pick hP [2, 3] rfl) (hD.sub [2, 3] (by decide) rfl) rfl rfl rfl) rfl rfl hl.1 rfl (lv_room (Nat.le_of_ble_eq_true rfl)) dX1_blocksToUndo_18 ⟨Nat.zero_le _, Nat.zero_le _⟩) (fun H locs hP hD hS => ?_)
  refine lv_istore_n (lv' := [(2, .int r_8), (1, .int r_7), (0, .ref aJ)]) hx hb dX1_blocksToUndo_21 rfl hl (by decide) rfl (fun ls hl => ?_)
  refine lv_aload_n hx hb dX1_blocksToUndo_22 rfl (lv_at hl 2 rfl) ?_
  refine va_get (D := (dC, dI)) (ci := 1) (v := .ref aD) (C := RX1) (T := TX1) (N := 3) hx hb hts iw_J_blocksToUndo_Journal hown hK hP 0 rfl rfl 0 (by decide) (hts _ mm_J_blocksToUndo_0) (fun _ h9 => h9) rfl dX1_blocksToUndo_23 ?_
  refine lv_bipush (v := 16) hx hb dX1_blocksToUndo_26 (by decide) ?_
  refine lv_iconst (v := 0) hx hb dX1_blocksToUndo_28 (by decide) ?_
  obtain ⟨r_9, hr_9, h⟩ := kp_bind h
  refine mk_contR (w := w_J cI cZ cS aJ aJh aD aDw aM aMw hd pw wl wn dk mm) (w0 := w_D cI cZ cS aD aDw pw wl wn dk) (wr := [(aJ, .inr (1, [.ref aD, .ref aM, .ref aJh])), (aJh, .inl (cI, 16, .inl hd)), (aM, .inr (2, [.ref aMw])), (aMw, .inl (cI, 256, .inl mm))]) hP hD hS hA [2, 3] [0, 1, 4, 5] rfl rfl (by decide) (by decide) [0, 1, 4, 5, 2, 3] rfl (by decide) (va_runV (As := [.int 16, .int 0]) (rest := []) ⟨hx, hb, hml, hown, hts⟩ (c_D_word l dC dI cI cZ cS aD aDw pw wl wn dk 16 0 r_9 hr_9 H.size) (cwV 2 hts gX1_blocksToUndo_X0_word rfl rfl rfl (by decide +kernel) ⟨Nat.le_of_ble_eq_true rfl, Nat.le_of_ble_eq_true rfl⟩) (mk_preV (w0 := w_D cI cZ cS aD aDw pw wl wn dk) (ci := 0) (q0 := 0) hN hK (mk_pick hP [2, 3] rfl) (hD.sub [2, 3] (by decide) rfl) rfl rfl rfl) rfl rfl hl.1 rfl (lv_room (Nat.le_of_ble_eq_true rfl)) dX1_blocksToUndo_29 ⟨Nat.zero_le _, Nat.zero_le _⟩) (fun H locs hP hD hS => ?_)
  refine lv_sipush (v := 6517) hx hb dX1_blocksToUndo_32 (by decide) ?_
  refine lv_icmp_ne (tgt := 49) hx hb dX1_blocksToUndo_35 (by decide) (fun c_10 => ?_) (fun c_10 => ?_)
  · replace h := (kp_if h).2 c_10
    exact b_J_blocksToUndo_49 E hA hK R h H locs ls hP hD hS (lv_sub hl [] rfl)
  · replace h := (kp_if h).1 c_10
    refine lv_iload_n hx hb dX1_blocksToUndo_38 rfl (lv_at hl 1 rfl) ?_
    refine lv_iconst (v := 1) hx hb dX1_blocksToUndo_39 (by decide) ?_
    refine lv_icmp_lt (tgt := 49) hx hb dX1_blocksToUndo_40 (by decide) (fun c_11 => ?_) (fun c_11 => ?_)
    · replace h := (kp_if h).1 c_11
      exact b_J_blocksToUndo_49 E hA hK R h H locs ls hP hD hS (lv_sub hl [] rfl)
    · replace h := (kp_if h).2 c_11
      refine lv_iload_n hx hb dX1_blocksToUndo_43 rfl (lv_at hl 1 rfl) ?_
      refine lv_bipush (v := 16) hx hb dX1_blocksToUndo_44 (by decide) ?_
      refine lv_icmp_le (tgt := 51) hx hb dX1_blocksToUndo_46 (by decide) (fun c_12 => ?_) (fun c_12 => ?_)
      · replace h := (kp_if h).1 c_12
        refine lv_iload_n hx hb dX1_blocksToUndo_51 rfl (lv_at hl 0 rfl) ?_
        refine lv_bipush (v := 16) hx hb dX1_blocksToUndo_52 (by decide) ?_
        refine lv_iushr hx hb dX1_blocksToUndo_54 rfl ?_
        refine lv_if_ne (tgt := 66) hx hb dX1_blocksToUndo_55 (by decide) (fun c_13 => ?_) (fun c_13 => ?_)
        · replace h := (kp_if h).2 c_13
          exact b_J_blocksToUndo_66 E hA hK R h H locs ls hP hD hS (lv_sub hl [] rfl)
        · replace h := (kp_if h).1 c_13
          refine lv_iload_n hx hb dX1_blocksToUndo_58 rfl (lv_at hl 0 rfl) ?_
          obtain ⟨r_14, hr_14, h⟩ := kp_bind h
          refine mk_contR (w := w_J cI cZ cS aJ aJh aD aDw aM aMw hd pw wl wn dk mm) (w0 := ([] : va_W)) (wr := [(aJ, .inr (1, [.ref aD, .ref aM, .ref aJh])), (aJh, .inl (cI, 16, .inl hd)), (aD, .inr (0, [.ref aDw, .int pw, .int wl, .int wn])), (aDw, .inl (cI, 528, .inl dk)), (aM, .inr (2, [.ref aMw])), (aMw, .inl (cI, 256, .inl mm))]) hP hD hS hA [] [0, 1, 2, 3, 4, 5] rfl rfl (by decide) (by decide) [0, 1, 2, 3, 4, 5] rfl (by decide) (va_runS (As := [.int r_8]) (rest := []) ⟨hx, hb, hml, hown, hts⟩ (c_I_bitCount l dC dI cI cZ cS  r_8 r_14 hr_14 H.size) (va_cwS 1 hts gX1_blocksToUndo_J6_bitCount_0f7a4 rfl rfl rfl (by decide +kernel) ⟨Nat.le_of_ble_eq_true rfl, Nat.le_of_ble_eq_true rfl⟩) (mk_preS (w0 := ([] : va_W)) hN hK (mk_pick hP [] rfl) (hD.sub [] (by decide) rfl)) rfl rfl hl.1 rfl (lv_room (Nat.le_of_ble_eq_true rfl)) dX1_blocksToUndo_59 ⟨Nat.zero_le _, Nat.zero_le _⟩) (fun H locs hP hD hS => ?_)
          refine lv_iload_n hx hb dX1_blocksToUndo_62 rfl (lv_at hl 1 rfl) ?_
          refine lv_icmp_eq (tgt := 68) hx hb dX1_blocksToUndo_63 (by decide) (fun c_15 => ?_) (fun c_15 => ?_)
          · replace h := (kp_if h).1 c_15
            refine lv_iconst (v := 4) hx hb dX1_blocksToUndo_68 (by decide) ?_
            refine lv_istore_n (lv' := [(3, .int 4), (2, .int r_8), (1, .int r_7), (0, .ref aJ)]) hx hb dX1_blocksToUndo_69 rfl hl (by decide) rfl (fun ls hl => ?_)
            exact l_J_blocksToUndo_70 E hA hK R 1000 r_7 r_8 4 h H locs ls hP hD hS (lv_sub hl [3, 2, 1, 0] rfl)
          · replace h := (kp_if h).2 c_15
            exact b_J_blocksToUndo_66 E hA hK R h H locs ls hP hD hS (lv_sub hl [] rfl)
      · replace h := (kp_if h).2 c_12
        exact b_J_blocksToUndo_49 E hA hK R h H locs ls hP hD hS (lv_sub hl [] rfl)

/- Journal.carryOut()Z -/
set_option maxHeartbeats 4000000 in
set_option maxRecDepth 100000 in
theorem b_J_carryOut_47 {p : Program} {l : Launch} {e : Env} {s : State} {m : MethodId} {below : List Frame} {meth : Method} {c : Code} {A : Nat → Prop} {dC : Nat → ClassId} {dI : Nat → Nat → Nat} {cI cZ cS : ClassId} {aJ aJh aD aDw aM aMw : Nat} {mm : Nat → Int32} (E : mk_En p s m meth c cX1_carryOut 2 (some .boolean) ([.ref aJ] : List Value).toArray wsX1_carryOut yX1_carryOut.cls) (hA : ∀ q : Nat, s.heap.size ≤ q → A q) (hK : va_K (dC, dI) vwCl (tyz cI cZ cS) s) (R : Int32 × (Nat → Int32) × Int32 × Int32 × Int32 × (Nat → Int32)) (z0 : Int32) (hd : Nat → Int32) (pw : Int32) (wl : Int32) (wn : Int32) (dk : Nat → Int32) (h : p_J_carryOut_47 mm z0 hd pw wl wn dk = some R) : ∀ (H : Heap) (locs : List Loc) (ls : Array Slot), va_P (dC, dI) vwCl (w_J cI cZ cS aJ aJh aD aDw aM aMw hd pw wl wn dk mm) H → va_D A (w_J cI cZ cS aJ aJh aD aDw aM aMw hd pw wl wn dk mm) → va_S A s.heap H locs → lv_has ls 2 [] → W p l e ({ frames := 4, cells := 0, slots := 0, locals := 85 } : Room) s m ([.ref aJ] : List Value).toArray below meth c H locs 0 0 (MQ below (mk_QI (dC, dI) vwCl (tyz cI cZ cS) A (fun u : (Nat → Int32) × Int32 × Int32 × Int32 × (Nat → Int32) => w_J cI cZ cS aJ aJh aD aDw aM aMw u.1 u.2.1 u.2.2.1 u.2.2.2.1 u.2.2.2.2 mm) R) ([.ref aJ] : List Value).toArray s 0 0 A) (F0 m 47 ls [.int z0]) := by
  intro H locs ls hP hD hS hl
  obtain ⟨⟨hx, hb, hml, hown, hts⟩, hrt, hlk, hN⟩ := id E
  have hown : s.vm.findClass RX1 = some m.cls := hown
  unfold p_J_carryOut_47 at h
  obtain ⟨hc_1, h⟩ := kp_in h
  cases h
  exact mk_zret E hc_1 hK hP hD hS dX1_carryOut_47
set_option maxHeartbeats 4000000 in
set_option maxRecDepth 100000 in
theorem b_J_carryOut_46 {p : Program} {l : Launch} {e : Env} {s : State} {m : MethodId} {below : List Frame} {meth : Method} {c : Code} {A : Nat → Prop} {dC : Nat → ClassId} {dI : Nat → Nat → Nat} {cI cZ cS : ClassId} {aJ aJh aD aDw aM aMw : Nat} {mm : Nat → Int32} (E : mk_En p s m meth c cX1_carryOut 2 (some .boolean) ([.ref aJ] : List Value).toArray wsX1_carryOut yX1_carryOut.cls) (hA : ∀ q : Nat, s.heap.size ≤ q → A q) (hK : va_K (dC, dI) vwCl (tyz cI cZ cS) s) (R : Int32 × (Nat → Int32) × Int32 × Int32 × Int32 × (Nat → Int32)) (hd : Nat → Int32) (pw : Int32) (wl : Int32) (wn : Int32) (dk : Nat → Int32) (h : p_J_carryOut_46 mm hd pw wl wn dk = some R) : ∀ (H : Heap) (locs : List Loc) (ls : Array Slot), va_P (dC, dI) vwCl (w_J cI cZ cS aJ aJh aD aDw aM aMw hd pw wl wn dk mm) H → va_D A (w_J cI cZ cS aJ aJh aD aDw aM aMw hd pw wl wn dk mm) → va_S A s.heap H locs → lv_has ls 2 [] → W p l e ({ frames := 4, cells := 0, slots := 0, locals := 85 } : Room) s m ([.ref aJ] : List Value).toArray below meth c H locs 0 0 (MQ below (mk_QI (dC, dI) vwCl (tyz cI cZ cS) A (fun u : (Nat → Int32) × Int32 × Int32 × Int32 × (Nat → Int32) => w_J cI cZ cS aJ aJh aD aDw aM aMw u.1 u.2.1 u.2.2.1 u.2.2.2.1 u.2.2.2.2 mm) R) ([.ref aJ] : List Value).toArray s 0 0 A) (F0 m 46 ls []) := by
  intro H locs ls hP hD hS hl
  obtain ⟨⟨hx, hb, hml, hown, hts⟩, hrt, hlk, hN⟩ := id E
  have hown : s.vm.findClass RX1 = some m.cls := hown
  unfold p_J_carryOut_46 at h
  refine lv_iconst (v := 0) hx hb dX1_carryOut_46 (by decide) ?_
  exact b_J_carryOut_47 E hA hK R 0 hd pw wl wn dk h H locs ls hP hD hS (lv_sub hl [] rfl)
set_option maxHeartbeats 4000000 in
set_option maxRecDepth 100000 in
theorem c_J_carryOut (l : Launch) (dC : Nat → ClassId) (dI : Nat → Nat → Nat) (cI cZ cS : ClassId) (aJ aJh aD aDw aM aMw : Nat) (hd : Nat → Int32) (pw : Int32) (wl : Int32) (wn : Int32) (dk : Nat → Int32) (mm : Nat → Int32) : CtI l yX1_carryOut wsX1_carryOut ({ frames := 4, cells := 0, slots := 0, locals := 85 }) (dC, dI) vwCl (tyz cI cZ cS) [.ref aJ] (w_J cI cZ cS aJ aJh aD aDw aM aMw hd pw wl wn dk mm) (fun u : (Nat → Int32) × Int32 × Int32 × Int32 × (Nat → Int32) => w_J cI cZ cS aJ aJh aD aDw aM aMw u.1 u.2.1 u.2.2.1 u.2.2.2.1 u.2.2.2.2 mm) (p_J_carryOut hd pw wl wn dk mm) := by
  intro R h
  refine mk_enter (Qc := (fun A => mk_QI (dC, dI) vwCl (tyz cI cZ cS) A (fun u : (Nat → Int32) × Int32 × Int32 × Int32 × (Nat → Int32) => w_J cI cZ cS aJ aJh aD aDw aM aMw u.1 u.2.1 u.2.2.1 u.2.2.2.1 u.2.2.2.2 mm) R)) (by decide) rfl (Nat.le_of_ble_eq_true rfl) ?_
  intro p e s m below meth c A E hA hK H locs ls hP hD hS hl
  obtain ⟨⟨hx, hb, hml, hown, hts⟩, hrt, hlk, hN⟩ := id E
  have hown : s.vm.findClass RX1 = some m.cls := hown
  have hl : lv_has ls 2 [(0, .ref aJ)] := hl
  unfold p_J_carryOut at h
  refine lv_aload_n hx hb dX1_carryOut_0 rfl (lv_at hl 0 rfl) ?_
  obtain ⟨r_2, hr_2, h⟩ := kp_bind h
  refine mk_contR (w := w_J cI cZ cS aJ aJh aD aDw aM aMw hd pw wl wn dk mm) (w0 := w_J cI cZ cS aJ aJh aD aDw aM aMw hd pw wl wn dk mm) (wr := []) hP hD hS hA [0, 1, 2, 3, 4, 5] [] rfl rfl (by decide) (by decide) [0, 1, 2, 3, 4, 5] rfl (by decide) (va_runV (As := []) (rest := []) ⟨hx, hb, hml, hown, hts⟩ (c_J_changedBlocks l dC dI cI cZ cS aJ aJh aD aDw aM aMw hd pw wl wn dk mm r_2 hr_2 H.size) (cwV 0 hts gX1_carryOut_X1_changedBlocks rfl rfl rfl (by decide +kernel) ⟨Nat.le_of_ble_eq_true rfl, Nat.le_of_ble_eq_true rfl⟩) (mk_preV (w0 := w_J cI cZ cS aJ aJh aD aDw aM aMw hd pw wl wn dk mm) (ci := 1) (q0 := 0) hN hK (mk_pick hP [0, 1, 2, 3, 4, 5] rfl) (hD.sub [0, 1, 2, 3, 4, 5] (by decide) rfl) rfl rfl rfl) rfl rfl hl.1 rfl (lv_room (Nat.le_of_ble_eq_true rfl)) dX1_carryOut_1 ⟨Nat.zero_le _, Nat.zero_le _⟩) (fun H locs hP hD hS => ?_)
  refine lv_istore_n (lv' := [(1, .int r_2), (0, .ref aJ)]) hx hb dX1_carryOut_4 rfl hl (by decide) rfl (fun ls hl => ?_)
  refine lv_iload_n hx hb dX1_carryOut_5 rfl (lv_at hl 0 rfl) ?_
  refine lv_if_ne (tgt := 11) hx hb dX1_carryOut_6 (by decide) (fun c_3 => ?_) (fun c_3 => ?_)
  · replace h := (kp_if h).2 c_3
    refine lv_aload_n hx hb dX1_carryOut_11 rfl (lv_at hl 1 rfl) ?_
    refine lv_iload_n hx hb dX1_carryOut_12 rfl (lv_at hl 0 rfl) ?_
    obtain ⟨r_4, hr_4, h⟩ := kp_bind h
    refine mk_contI (w := w_J cI cZ cS aJ aJh aD aDw aM aMw hd pw wl wn dk mm) (w0 := w_J cI cZ cS aJ aJh aD aDw aM aMw hd pw wl wn dk mm) (wr := []) (w2 := w_J cI cZ cS aJ aJh aD aDw aM aMw hd r_4.2.1 r_4.2.2.1 r_4.2.2.2.1 r_4.2.2.2.2 mm) hP hD hS hA [0, 1, 2, 3, 4, 5] [] rfl rfl (by decide) (by decide) [0, 1, 2, 3, 4, 5] rfl (by decide) (va_runV (As := [.int r_2]) (rest := []) ⟨hx, hb, hml, hown, hts⟩ (c_J_keepImages l dC dI cI cZ cS aJ aJh aD aDw aM aMw hd pw wl wn dk mm r_2 r_4 hr_4 H.size) (cwV 1 hts gX1_carryOut_X1_keepImages rfl rfl rfl (by decide +kernel) ⟨Nat.le_of_ble_eq_true rfl, Nat.le_of_ble_eq_true rfl⟩) (mk_preV (w0 := w_J cI cZ cS aJ aJh aD aDw aM aMw hd pw wl wn dk mm) (ci := 1) (q0 := 0) hN hK (mk_pick hP [0, 1, 2, 3, 4, 5] rfl) (hD.sub [0, 1, 2, 3, 4, 5] (by decide) rfl) rfl rfl rfl) rfl rfl hl.1 rfl (lv_room (Nat.le_of_ble_eq_true rfl)) dX1_carryOut_13 ⟨Nat.zero_le _, Nat.zero_le _⟩) (fun H locs hP hD hS => ?_)
    refine lv_if_eq (tgt := 46) hx hb dX1_carryOut_16 (by decide) (fun c_5 => ?_) (fun c_5 => ?_)
    · replace h := (kp_if h).1 c_5
      exact b_J_carryOut_46 E hA hK R hd r_4.2.1 r_4.2.2.1 r_4.2.2.2.1 r_4.2.2.2.2 h H locs ls hP hD hS (lv_sub hl [] rfl)
    · replace h := (kp_if h).2 c_5
      refine lv_aload_n hx hb dX1_carryOut_19 rfl (lv_at hl 1 rfl) ?_
      refine lv_iload_n hx hb dX1_carryOut_20 rfl (lv_at hl 0 rfl) ?_
      obtain ⟨r_6, hr_6, h⟩ := kp_bind h
      refine mk_contI (w := w_J cI cZ cS aJ aJh aD aDw aM aMw hd r_4.2.1 r_4.2.2.1 r_4.2.2.2.1 r_4.2.2.2.2 mm) (w0 := w_J cI cZ cS aJ aJh aD aDw aM aMw hd r_4.2.1 r_4.2.2.1 r_4.2.2.2.1 r_4.2.2.2.2 mm) (wr := []) (w2 := w_J cI cZ cS aJ aJh aD aDw aM aMw r_6.2.1 r_6.2.2.1 r_6.2.2.2.1 r_6.2.2.2.2.1 r_6.2.2.2.2.2 mm) hP hD hS hA [0, 1, 2, 3, 4, 5] [] rfl rfl (by decide) (by decide) [0, 1, 2, 3, 4, 5] rfl (by decide) (va_runV (As := [.int r_2]) (rest := []) ⟨hx, hb, hml, hown, hts⟩ (c_J_writeHead l dC dI cI cZ cS aJ aJh aD aDw aM aMw hd r_4.2.1 r_4.2.2.1 r_4.2.2.2.1 r_4.2.2.2.2 mm r_2 r_6 hr_6 H.size) (cwV 1 hts gX1_carryOut_X1_writeHead rfl rfl rfl (by decide +kernel) ⟨Nat.le_of_ble_eq_true rfl, Nat.le_of_ble_eq_true rfl⟩) (mk_preV (w0 := w_J cI cZ cS aJ aJh aD aDw aM aMw hd r_4.2.1 r_4.2.2.1 r_4.2.2.2.1 r_4.2.2.2.2 mm) (ci := 1) (q0 := 0) hN hK (mk_pick hP [0, 1, 2, 3, 4, 5] rfl) (hD.sub [0, 1, 2, 3, 4, 5] (by decide) rfl) rfl rfl rfl) rfl rfl hl.1 rfl (lv_room (Nat.le_of_ble_eq_true rfl)) dX1_carryOut_21 ⟨Nat.zero_le _, Nat.zero_le _⟩) (fun H locs hP hD hS => ?_)
      refine lv_if_eq (tgt := 46) hx hb dX1_carryOut_24 (by decide) (fun c_7 => ?_) (fun c_7 => ?_)
      · replace h := (kp_if h).1 c_7
        exact b_J_carryOut_46 E hA hK R r_6.2.1 r_6.2.2.1 r_6.2.2.2.1 r_6.2.2.2.2.1 r_6.2.2.2.2.2 h H locs ls hP hD hS (lv_sub hl [] rfl)
      · replace h := (kp_if h).2 c_7
        refine lv_aload_n hx hb dX1_carryOut_27 rfl (lv_at hl 1 rfl) ?_
        refine lv_iload_n hx hb dX1_carryOut_28 rfl (lv_at hl 0 rfl) ?_
        obtain ⟨r_8, hr_8, h⟩ := kp_bind h
        refine mk_contI (w := w_J cI cZ cS aJ aJh aD aDw aM aMw r_6.2.1 r_6.2.2.1 r_6.2.2.2.1 r_6.2.2.2.2.1 r_6.2.2.2.2.2 mm) (w0 := w_J cI cZ cS aJ aJh aD aDw aM aMw r_6.2.1 r_6.2.2.1 r_6.2.2.2.1 r_6.2.2.2.2.1 r_6.2.2.2.2.2 mm) (wr := []) (w2 := w_J cI cZ cS aJ aJh aD aDw aM aMw r_6.2.1 r_8.2.1 r_8.2.2.1 r_8.2.2.2.1 r_8.2.2.2.2 mm) hP hD hS hA [0, 1, 2, 3, 4, 5] [] rfl rfl (by decide) (by decide) [0, 1, 2, 3, 4, 5] rfl (by decide) (va_runV (As := [.int r_2]) (rest := []) ⟨hx, hb, hml, hown, hts⟩ (c_J_saveBlocks l dC dI cI cZ cS aJ aJh aD aDw aM aMw r_6.2.1 r_6.2.2.1 r_6.2.2.2.1 r_6.2.2.2.2.1 r_6.2.2.2.2.2 mm r_2 r_8 hr_8 H.size) (cwV 1 hts gX1_carryOut_X1_saveBlocks rfl rfl rfl (by decide +kernel) ⟨Nat.le_of_ble_eq_true rfl, Nat.le_of_ble_eq_true rfl⟩) (mk_preV (w0 := w_J cI cZ cS aJ aJh aD aDw aM aMw r_6.2.1 r_6.2.2.1 r_6.2.2.2.1 r_6.2.2.2.2.1 r_6.2.2.2.2.2 mm) (ci := 1) (q0 := 0) hN hK (mk_pick hP [0, 1, 2, 3, 4, 5] rfl) (hD.sub [0, 1, 2, 3, 4, 5] (by decide) rfl) rfl rfl rfl) rfl rfl hl.1 rfl (lv_room (Nat.le_of_ble_eq_true rfl)) dX1_carryOut_29 ⟨Nat.zero_le _, Nat.zero_le _⟩) (fun H locs hP hD hS => ?_)
        refine lv_if_eq (tgt := 46) hx hb dX1_carryOut_32 (by decide) (fun c_9 => ?_) (fun c_9 => ?_)
        · replace h := (kp_if h).1 c_9
          exact b_J_carryOut_46 E hA hK R r_6.2.1 r_8.2.1 r_8.2.2.1 r_8.2.2.2.1 r_8.2.2.2.2 h H locs ls hP hD hS (lv_sub hl [] rfl)
        · replace h := (kp_if h).2 c_9
          refine lv_aload_n hx hb dX1_carryOut_35 rfl (lv_at hl 1 rfl) ?_
          obtain ⟨r_10, hr_10, h⟩ := kp_bind h
          refine mk_contI (w := w_J cI cZ cS aJ aJh aD aDw aM aMw r_6.2.1 r_8.2.1 r_8.2.2.1 r_8.2.2.2.1 r_8.2.2.2.2 mm) (w0 := w_J cI cZ cS aJ aJh aD aDw aM aMw r_6.2.1 r_8.2.1 r_8.2.2.1 r_8.2.2.2.1 r_8.2.2.2.2 mm) (wr := []) (w2 := w_J cI cZ cS aJ aJh aD aDw aM aMw r_10.2.1 r_10.2.2.1 r_10.2.2.2.1 r_10.2.2.2.2.1 r_10.2.2.2.2.2 mm) hP hD hS hA [0, 1, 2, 3, 4, 5] [] rfl rfl (by decide) (by decide) [0, 1, 2, 3, 4, 5] rfl (by decide) (va_runV (As := []) (rest := []) ⟨hx, hb, hml, hown, hts⟩ (c_J_clearHead l dC dI cI cZ cS aJ aJh aD aDw aM aMw r_6.2.1 r_8.2.1 r_8.2.2.1 r_8.2.2.2.1 r_8.2.2.2.2 mm r_10 hr_10 H.size) (cwV 0 hts gX1_carryOut_X1_clearHead rfl rfl rfl (by decide +kernel) ⟨Nat.le_of_ble_eq_true rfl, Nat.le_of_ble_eq_true rfl⟩) (mk_preV (w0 := w_J cI cZ cS aJ aJh aD aDw aM aMw r_6.2.1 r_8.2.1 r_8.2.2.1 r_8.2.2.2.1 r_8.2.2.2.2 mm) (ci := 1) (q0 := 0) hN hK (mk_pick hP [0, 1, 2, 3, 4, 5] rfl) (hD.sub [0, 1, 2, 3, 4, 5] (by decide) rfl) rfl rfl rfl) rfl rfl hl.1 rfl (lv_room (Nat.le_of_ble_eq_true rfl)) dX1_carryOut_36 ⟨Nat.zero_le _, Nat.zero_le _⟩) (fun H locs hP hD hS => ?_)
          refine lv_if_eq (tgt := 46) hx hb dX1_carryOut_39 (by decide) (fun c_11 => ?_) (fun c_11 => ?_)
          · replace h := (kp_if h).1 c_11
            exact b_J_carryOut_46 E hA hK R r_10.2.1 r_10.2.2.1 r_10.2.2.2.1 r_10.2.2.2.2.1 r_10.2.2.2.2.2 h H locs ls hP hD hS (lv_sub hl [] rfl)
          · replace h := (kp_if h).2 c_11
            refine lv_iconst (v := 1) hx hb dX1_carryOut_42 (by decide) ?_
            refine lv_goto (tgt := 47) hx hb dX1_carryOut_43 (by decide) ?_
            exact b_J_carryOut_47 E hA hK R 1 r_10.2.1 r_10.2.2.1 r_10.2.2.2.1 r_10.2.2.2.2.1 r_10.2.2.2.2.2 h H locs ls hP hD hS (lv_sub hl [] rfl)
  · replace h := (kp_if h).1 c_3
    refine lv_iconst (v := 1) hx hb dX1_carryOut_9 (by decide) ?_
    cases h
    exact mk_zret E (by decide) hK hP hD hS dX1_carryOut_10

/- Journal.undo()Z -/
set_option maxHeartbeats 4000000 in
set_option maxRecDepth 100000 in
theorem b_J_undo_31 {p : Program} {l : Launch} {e : Env} {s : State} {m : MethodId} {below : List Frame} {meth : Method} {c : Code} {A : Nat → Prop} {dC : Nat → ClassId} {dI : Nat → Nat → Nat} {cI cZ cS : ClassId} {aJ aJh aD aDw aM aMw : Nat} {mm : Nat → Int32} (E : mk_En p s m meth c cX1_undo 2 (some .boolean) ([.ref aJ] : List Value).toArray wsX1_undo yX1_undo.cls) (hA : ∀ q : Nat, s.heap.size ≤ q → A q) (hK : va_K (dC, dI) vwCl (tyz cI cZ cS) s) (R : Int32 × (Nat → Int32) × Int32 × Int32 × Int32 × (Nat → Int32)) (z0 : Int32) (hd : Nat → Int32) (pw : Int32) (wl : Int32) (wn : Int32) (dk : Nat → Int32) (h : p_J_undo_31 z0 hd pw wl wn dk = some R) : ∀ (H : Heap) (locs : List Loc) (ls : Array Slot), va_P (dC, dI) vwCl (w_J cI cZ cS aJ aJh aD aDw aM aMw hd pw wl wn dk mm) H → va_D A (w_J cI cZ cS aJ aJh aD aDw aM aMw hd pw wl wn dk mm) → va_S A s.heap H locs → lv_has ls 2 [] → W p l e ({ frames := 4, cells := 0, slots := 0, locals := 85 } : Room) s m ([.ref aJ] : List Value).toArray below meth c H locs 0 0 (MQ below (mk_QI (dC, dI) vwCl (tyz cI cZ cS) A (fun u : (Nat → Int32) × Int32 × Int32 × Int32 × (Nat → Int32) => w_J cI cZ cS aJ aJh aD aDw aM aMw u.1 u.2.1 u.2.2.1 u.2.2.2.1 u.2.2.2.2 mm) R) ([.ref aJ] : List Value).toArray s 0 0 A) (F0 m 31 ls [.int z0]) := by
  intro H locs ls hP hD hS hl
  obtain ⟨⟨hx, hb, hml, hown, hts⟩, hrt, hlk, hN⟩ := id E
  have hown : s.vm.findClass RX1 = some m.cls := hown
  unfold p_J_undo_31 at h
  obtain ⟨hc_1, h⟩ := kp_in h
  cases h
  exact mk_zret E hc_1 hK hP hD hS dX1_undo_31
set_option maxHeartbeats 4000000 in
set_option maxRecDepth 100000 in
theorem b_J_undo_30 {p : Program} {l : Launch} {e : Env} {s : State} {m : MethodId} {below : List Frame} {meth : Method} {c : Code} {A : Nat → Prop} {dC : Nat → ClassId} {dI : Nat → Nat → Nat} {cI cZ cS : ClassId} {aJ aJh aD aDw aM aMw : Nat} {mm : Nat → Int32} (E : mk_En p s m meth c cX1_undo 2 (some .boolean) ([.ref aJ] : List Value).toArray wsX1_undo yX1_undo.cls) (hA : ∀ q : Nat, s.heap.size ≤ q → A q) (hK : va_K (dC, dI) vwCl (tyz cI cZ cS) s) (R : Int32 × (Nat → Int32) × Int32 × Int32 × Int32 × (Nat → Int32)) (hd : Nat → Int32) (pw : Int32) (wl : Int32) (wn : Int32) (dk : Nat → Int32) (h : p_J_undo_30 hd pw wl wn dk = some R) : ∀ (H : Heap) (locs : List Loc) (ls : Array Slot), va_P (dC, dI) vwCl (w_J cI cZ cS aJ aJh aD aDw aM aMw hd pw wl wn dk mm) H → va_D A (w_J cI cZ cS aJ aJh aD aDw aM aMw hd pw wl wn dk mm) → va_S A s.heap H locs → lv_has ls 2 [] → W p l e ({ frames := 4, cells := 0, slots := 0, locals := 85 } : Room) s m ([.ref aJ] : List Value).toArray below meth c H locs 0 0 (MQ below (mk_QI (dC, dI) vwCl (tyz cI cZ cS) A (fun u : (Nat → Int32) × Int32 × Int32 × Int32 × (Nat → Int32) => w_J cI cZ cS aJ aJh aD aDw aM aMw u.1 u.2.1 u.2.2.1 u.2.2.2.1 u.2.2.2.2 mm) R) ([.ref aJ] : List Value).toArray s 0 0 A) (F0 m 30 ls []) := by
  intro H locs ls hP hD hS hl
  obtain ⟨⟨hx, hb, hml, hown, hts⟩, hrt, hlk, hN⟩ := id E
  have hown : s.vm.findClass RX1 = some m.cls := hown
  unfold p_J_undo_30 at h
  refine lv_iconst (v := 0) hx hb dX1_undo_30 (by decide) ?_
  exact b_J_undo_31 E hA hK R 0 hd pw wl wn dk h H locs ls hP hD hS (lv_sub hl [] rfl)
set_option maxHeartbeats 4000000 in
set_option maxRecDepth 100000 in
theorem c_J_undo (l : Launch) (dC : Nat → ClassId) (dI : Nat → Nat → Nat) (cI cZ cS : ClassId) (aJ aJh aD aDw aM aMw : Nat) (hd : Nat → Int32) (pw : Int32) (wl : Int32) (wn : Int32) (dk : Nat → Int32) (mm : Nat → Int32) : CtI l yX1_undo wsX1_undo ({ frames := 4, cells := 0, slots := 0, locals := 85 }) (dC, dI) vwCl (tyz cI cZ cS) [.ref aJ] (w_J cI cZ cS aJ aJh aD aDw aM aMw hd pw wl wn dk mm) (fun u : (Nat → Int32) × Int32 × Int32 × Int32 × (Nat → Int32) => w_J cI cZ cS aJ aJh aD aDw aM aMw u.1 u.2.1 u.2.2.1 u.2.2.2.1 u.2.2.2.2 mm) (p_J_undo hd pw wl wn dk) := by
  intro R h
  refine mk_enter (Qc := (fun A => mk_QI (dC, dI) vwCl (tyz cI cZ cS) A (fun u : (Nat → Int32) × Int32 × Int32 × Int32 × (Nat → Int32) => w_J cI cZ cS aJ aJh aD aDw aM aMw u.1 u.2.1 u.2.2.1 u.2.2.2.1 u.2.2.2.2 mm) R)) (by decide) rfl (Nat.le_of_ble_eq_true rfl) ?_
  intro p e s m below meth c A E hA hK H locs ls hP hD hS hl
  obtain ⟨⟨hx, hb, hml, hown, hts⟩, hrt, hlk, hN⟩ := id E
  have hown : s.vm.findClass RX1 = some m.cls := hown
  have hl : lv_has ls 2 [(0, .ref aJ)] := hl
  unfold p_J_undo at h
  refine lv_aload_n hx hb dX1_undo_0 rfl (lv_at hl 0 rfl) ?_
  obtain ⟨r_2, hr_2, h⟩ := kp_bind h
  refine mk_contR (w := w_J cI cZ cS aJ aJh aD aDw aM aMw hd pw wl wn dk mm) (w0 := w_J cI cZ cS aJ aJh aD aDw aM aMw hd pw wl wn dk mm) (wr := []) hP hD hS hA [0, 1, 2, 3, 4, 5] [] rfl rfl (by decide) (by decide) [0, 1, 2, 3, 4, 5] rfl (by decide) (va_runV (As := []) (rest := []) ⟨hx, hb, hml, hown, hts⟩ (c_J_blocksToUndo l dC dI cI cZ cS aJ aJh aD aDw aM aMw hd pw wl wn dk mm r_2 hr_2 H.size) (cwV 0 hts gX1_undo_X1_blocksToUndo rfl rfl rfl (by decide +kernel) ⟨Nat.le_of_ble_eq_true rfl, Nat.le_of_ble_eq_true rfl⟩) (mk_preV (w0 := w_J cI cZ cS aJ aJh aD aDw aM aMw hd pw wl wn dk mm) (ci := 1) (q0 := 0) hN hK (mk_pick hP [0, 1, 2, 3, 4, 5] rfl) (hD.sub [0, 1, 2, 3, 4, 5] (by decide) rfl) rfl rfl rfl) rfl rfl hl.1 rfl (lv_room (Nat.le_of_ble_eq_true rfl)) dX1_undo_1 ⟨Nat.zero_le _, Nat.zero_le _⟩) (fun H locs hP hD hS => ?_)
  refine lv_istore_n (lv' := [(1, .int r_2), (0, .ref aJ)]) hx hb dX1_undo_4 rfl hl (by decide) rfl (fun ls hl => ?_)
  refine lv_iload_n hx hb dX1_undo_5 rfl (lv_at hl 0 rfl) ?_
  refine lv_if_ne (tgt := 11) hx hb dX1_undo_6 (by decide) (fun c_3 => ?_) (fun c_3 => ?_)
  · replace h := (kp_if h).2 c_3
    refine lv_aload_n hx hb dX1_undo_11 rfl (lv_at hl 1 rfl) ?_
    refine lv_iload_n hx hb dX1_undo_12 rfl (lv_at hl 0 rfl) ?_
    obtain ⟨r_4, hr_4, h⟩ := kp_bind h
    refine mk_contI (w := w_J cI cZ cS aJ aJh aD aDw aM aMw hd pw wl wn dk mm) (w0 := w_J cI cZ cS aJ aJh aD aDw aM aMw hd pw wl wn dk mm) (wr := []) (w2 := w_J cI cZ cS aJ aJh aD aDw aM aMw hd r_4.2.1 r_4.2.2.1 r_4.2.2.2.1 r_4.2.2.2.2 mm) hP hD hS hA [0, 1, 2, 3, 4, 5] [] rfl rfl (by decide) (by decide) [0, 1, 2, 3, 4, 5] rfl (by decide) (va_runV (As := [.int r_2]) (rest := []) ⟨hx, hb, hml, hown, hts⟩ (c_J_restoreBlocks l dC dI cI cZ cS aJ aJh aD aDw aM aMw hd pw wl wn dk mm r_2 r_4 hr_4 H.size) (cwV 1 hts gX1_undo_X1_restoreBlocks rfl rfl rfl (by decide +kernel) ⟨Nat.le_of_ble_eq_true rfl, Nat.le_of_ble_eq_true rfl⟩) (mk_preV (w0 := w_J cI cZ cS aJ aJh aD aDw aM aMw hd pw wl wn dk mm) (ci := 1) (q0 := 0) hN hK (mk_pick hP [0, 1, 2, 3, 4, 5] rfl) (hD.sub [0, 1, 2, 3, 4, 5] (by decide) rfl) rfl rfl rfl) rfl rfl hl.1 rfl (lv_room (Nat.le_of_ble_eq_true rfl)) dX1_undo_13 ⟨Nat.zero_le _, Nat.zero_le _⟩) (fun H locs hP hD hS => ?_)
    refine lv_if_eq (tgt := 30) hx hb dX1_undo_16 (by decide) (fun c_5 => ?_) (fun c_5 => ?_)
    · replace h := (kp_if h).1 c_5
      exact b_J_undo_30 E hA hK R hd r_4.2.1 r_4.2.2.1 r_4.2.2.2.1 r_4.2.2.2.2 h H locs ls hP hD hS (lv_sub hl [] rfl)
    · replace h := (kp_if h).2 c_5
      refine lv_aload_n hx hb dX1_undo_19 rfl (lv_at hl 1 rfl) ?_
      obtain ⟨r_6, hr_6, h⟩ := kp_bind h
      refine mk_contI (w := w_J cI cZ cS aJ aJh aD aDw aM aMw hd r_4.2.1 r_4.2.2.1 r_4.2.2.2.1 r_4.2.2.2.2 mm) (w0 := w_J cI cZ cS aJ aJh aD aDw aM aMw hd r_4.2.1 r_4.2.2.1 r_4.2.2.2.1 r_4.2.2.2.2 mm) (wr := []) (w2 := w_J cI cZ cS aJ aJh aD aDw aM aMw r_6.2.1 r_6.2.2.1 r_6.2.2.2.1 r_6.2.2.2.2.1 r_6.2.2.2.2.2 mm) hP hD hS hA [0, 1, 2, 3, 4, 5] [] rfl rfl (by decide) (by decide) [0, 1, 2, 3, 4, 5] rfl (by decide) (va_runV (As := []) (rest := []) ⟨hx, hb, hml, hown, hts⟩ (c_J_clearHead l dC dI cI cZ cS aJ aJh aD aDw aM aMw hd r_4.2.1 r_4.2.2.1 r_4.2.2.2.1 r_4.2.2.2.2 mm r_6 hr_6 H.size) (cwV 0 hts gX1_undo_X1_clearHead rfl rfl rfl (by decide +kernel) ⟨Nat.le_of_ble_eq_true rfl, Nat.le_of_ble_eq_true rfl⟩) (mk_preV (w0 := w_J cI cZ cS aJ aJh aD aDw aM aMw hd r_4.2.1 r_4.2.2.1 r_4.2.2.2.1 r_4.2.2.2.2 mm) (ci := 1) (q0 := 0) hN hK (mk_pick hP [0, 1, 2, 3, 4, 5] rfl) (hD.sub [0, 1, 2, 3, 4, 5] (by decide) rfl) rfl rfl rfl) rfl rfl hl.1 rfl (lv_room (Nat.le_of_ble_eq_true rfl)) dX1_undo_20 ⟨Nat.zero_le _, Nat.zero_le _⟩) (fun H locs hP hD hS => ?_)
      refine lv_if_eq (tgt := 30) hx hb dX1_undo_23 (by decide) (fun c_7 => ?_) (fun c_7 => ?_)
      · replace h := (kp_if h).1 c_7
        exact b_J_undo_30 E hA hK R r_6.2.1 r_6.2.2.1 r_6.2.2.2.1 r_6.2.2.2.2.1 r_6.2.2.2.2.2 h H locs ls hP hD hS (lv_sub hl [] rfl)
      · replace h := (kp_if h).2 c_7
        refine lv_iconst (v := 1) hx hb dX1_undo_26 (by decide) ?_
        refine lv_goto (tgt := 31) hx hb dX1_undo_27 (by decide) ?_
        exact b_J_undo_31 E hA hK R 1 r_6.2.1 r_6.2.2.1 r_6.2.2.2.1 r_6.2.2.2.2.1 r_6.2.2.2.2.2 h H locs ls hP hD hS (lv_sub hl [] rfl)
  · replace h := (kp_if h).1 c_3
    refine lv_iconst (v := 1) hx hb dX1_undo_9 (by decide) ?_
    cases h
    exact mk_zret E (by decide) hK hP hD hS dX1_undo_10

