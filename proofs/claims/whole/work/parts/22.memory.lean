/- Memory.load(LJournaledTables$Disk;)V -/
set_option maxRecDepth 20000 in
theorem iw_M_load_Disk : ∀ w ∈ u_ws RX0 TX0 4, w ∈ wsX2_load := by decide +kernel
set_option maxRecDepth 20000 in
theorem mm_M_load_1 : Cond.fieldLink RX2 9 "JournaledTables$Memory" "words" "[I" ∈ wsX2_load := by decide +kernel
set_option maxRecDepth 20000 in
theorem iw_M_load_Memory : ∀ w ∈ u_ws RX2 TX2 1, w ∈ wsX2_load := by decide +kernel
set_option maxRecDepth 20000 in
theorem mm_M_load_3 : Cond.methodLink RX2 18 arraycopyName ∈ wsX2_load := by decide +kernel
set_option maxRecDepth 20000 in
theorem mm_M_load_4 : Cond.native arraycopyName ∈ wsX2_load := by decide +kernel
set_option maxRecDepth 20000 in
theorem mm_M_load_5 : Cond.static arraycopyName ∈ wsX2_load := by decide +kernel
set_option maxRecDepth 20000 in
theorem mm_M_load_6 : Cond.initialized "java/lang/System" ∈ wsX2_load := by decide +kernel
set_option maxHeartbeats 4000000 in
set_option maxRecDepth 100000 in
theorem c_M_load (l : Launch) (dC : Nat → ClassId) (dI : Nat → Nat → Nat) (cI cZ cS : ClassId) (aM aMw aD aDw : Nat) (mm : Nat → Int32) (pw : Int32) (wl : Int32) (wn : Int32) (dk : Nat → Int32) : CtV l yX2_load wsX2_load ({ frames := 1, cells := 0, slots := 0, locals := 18 }) (dC, dI) vwCl (tyz cI cZ cS) [.ref aM, .ref aD] (w_MD cI cZ cS aM aMw aD aDw mm pw wl wn dk) (fun u : (Nat → Int32) => w_MD cI cZ cS aM aMw aD aDw u pw wl wn dk) (p_M_load mm dk) := by
  intro R h
  refine mk_enter (Qc := (fun A => mk_QV (dC, dI) vwCl (tyz cI cZ cS) A (fun u : (Nat → Int32) => w_MD cI cZ cS aM aMw aD aDw u pw wl wn dk) R)) (by decide) rfl (Nat.le_of_ble_eq_true rfl) ?_
  intro p e s m below meth c A E hA hK H locs ls hP hD hS hl
  obtain ⟨⟨hx, hb, hml, hown, hts⟩, hrt, hlk, hN⟩ := id E
  have hown : s.vm.findClass RX2 = some m.cls := hown
  have hl : lv_has ls 2 [(0, .ref aM), (1, .ref aD)] := hl
  unfold p_M_load at h
  refine lv_aload_n hx hb dX2_load_0 rfl (lv_at hl 1 rfl) ?_
  refine va_getN (D := (dC, dI)) (ci := 0) (v := .ref aDw) (C := RX0) (T := TX0) (N := 4) hx hb hts iw_M_load_Disk hown hK hP 2 rfl rfl 0 (by decide) (va_Nw.use rfl hN) (fun _ h9 => h9) rfl dX2_load_1 ?_
  refine lv_iconst (v := 0) hx hb dX2_load_4 (by decide) ?_
  refine lv_aload_n hx hb dX2_load_5 rfl (lv_at hl 0 rfl) ?_
  refine va_get (D := (dC, dI)) (ci := 2) (v := .ref aMw) (C := RX2) (T := TX2) (N := 1) hx hb hts iw_M_load_Memory hown hK hP 0 rfl rfl 0 (by decide) (hts _ mm_M_load_1) (fun _ h9 => h9) rfl dX2_load_6 ?_
  refine lv_iconst (v := 0) hx hb dX2_load_9 (by decide) ?_
  refine lv_aload_n hx hb dX2_load_10 rfl (lv_at hl 0 rfl) ?_
  refine va_get (D := (dC, dI)) (ci := 2) (v := .ref aMw) (C := RX2) (T := TX2) (N := 1) hx hb hts iw_M_load_Memory hown hK hP 0 rfl rfl 0 (by decide) (hts _ mm_M_load_1) (fun _ h9 => h9) rfl dX2_load_11 ?_
  refine va_alen hx hb hK hP 1 0 rfl rfl (v := 256) rfl dX2_load_14 ?_
  obtain ⟨hc_1, h⟩ := kp_in h
  refine va_copyi hx hb (hml.trans hl.1.symm) hown (hts _ mm_M_load_3) (hts _ mm_M_load_4) (hts _ mm_M_load_5) (hts _ mm_M_load_6) hK hP hD hS 3 1 0 0 rfl rfl rfl rfl rfl (kx_cp1 hc_1) (kx_cp2 hc_1) (kx_cp3 hc_1) (kx_cp4 hc_1) (kx_cp5 hc_1) (fun _ _ => rfl) (Nat.le_of_ble_eq_true rfl) (by decide +kernel) dX2_load_15 (fun H locs hP hD hS => ?_)
  have hP : va_P (dC, dI) vwCl (w_MD cI cZ cS aM aMw aD aDw (va_cpy dk mm (0 : Int32).toNatClampNeg (0 : Int32).toNatClampNeg (256 : Int32).toNatClampNeg) pw wl wn dk) H := hP
  have hD : va_D A (w_MD cI cZ cS aM aMw aD aDw (va_cpy dk mm (0 : Int32).toNatClampNeg (0 : Int32).toNatClampNeg (256 : Int32).toNatClampNeg) pw wl wn dk) := hD
  cases h
  exact mk_vret E hK hP hD hS dX2_load_18

/- Memory.differs(LJournaledTables$Disk;I)Z -/
set_option maxRecDepth 20000 in
theorem mm_M_differs_0 : Cond.fieldLink RX2 9 "JournaledTables$Memory" "words" "[I" ∈ wsX2_differs := by decide +kernel
set_option maxRecDepth 20000 in
theorem iw_M_differs_Memory : ∀ w ∈ u_ws RX2 TX2 1, w ∈ wsX2_differs := by decide +kernel
set_option maxRecDepth 20000 in
theorem iw_M_differs_Disk : ∀ w ∈ u_ws RX0 TX0 4, w ∈ wsX2_differs := by decide +kernel
set_option maxHeartbeats 4000000 in
set_option maxRecDepth 100000 in
theorem b_M_differs_8 {p : Program} {l : Launch} {e : Env} {s : State} {m : MethodId} {below : List Frame} {meth : Method} {c : Code} {A : Nat → Prop} {dC : Nat → ClassId} {dI : Nat → Nat → Nat} {cI cZ cS : ClassId} {aM aMw aD aDw : Nat} {mm : Nat → Int32} {pw : Int32} {wl : Int32} {wn : Int32} {dk : Nat → Int32} {a2 : Int32} (E : mk_En p s m meth c cX2_differs 5 (some .boolean) ([.ref aM, .ref aD, .int a2] : List Value).toArray wsX2_differs yX2_differs.cls) (hA : ∀ q : Nat, s.heap.size ≤ q → A q) (hK : va_K (dC, dI) vwCl (tyz cI cZ cS) s) (R : Int32) {k_8 : Int32 → Int32 → Option Int32} (hk_8 : ∀ (x3 : Int32) (x4 : Int32), k_8 x3 x4 = some R → ∀ (H : Heap) (locs : List Loc) (ls : Array Slot), va_P (dC, dI) vwCl (w_MD cI cZ cS aM aMw aD aDw mm pw wl wn dk) H → va_D A (w_MD cI cZ cS aM aMw aD aDw mm pw wl wn dk) → va_S A s.heap H locs → lv_has ls 5 [(0, .ref aM), (1, .ref aD), (3, .int x3), (4, .int x4)] → W p l e ({ frames := 0, cells := 0, slots := 0, locals := 0 } : Room) s m ([.ref aM, .ref aD, .int a2] : List Value).toArray below meth c H locs 0 0 (MQ below (mk_QR (dC, dI) vwCl (tyz cI cZ cS) A (w_MD cI cZ cS aM aMw aD aDw mm pw wl wn dk) R) ([.ref aM, .ref aD, .int a2] : List Value).toArray s 0 0 A) (F0 m 8 ls [])) (x3 : Int32) (x4 : Int32) (h : p_M_differs_8 mm dk k_8 x3 x4 = some R) : ∀ (H : Heap) (locs : List Loc) (ls : Array Slot), va_P (dC, dI) vwCl (w_MD cI cZ cS aM aMw aD aDw mm pw wl wn dk) H → va_D A (w_MD cI cZ cS aM aMw aD aDw mm pw wl wn dk) → va_S A s.heap H locs → lv_has ls 5 [(0, .ref aM), (1, .ref aD), (3, .int x3), (4, .int x4)] → W p l e ({ frames := 0, cells := 0, slots := 0, locals := 0 } : Room) s m ([.ref aM, .ref aD, .int a2] : List Value).toArray below meth c H locs 0 0 (MQ below (mk_QR (dC, dI) vwCl (tyz cI cZ cS) A (w_MD cI cZ cS aM aMw aD aDw mm pw wl wn dk) R) ([.ref aM, .ref aD, .int a2] : List Value).toArray s 0 0 A) (F0 m 8 ls []) := by
  intro H locs ls hP hD hS hl
  obtain ⟨⟨hx, hb, hml, hown, hts⟩, hrt, hlk, hN⟩ := id E
  have hown : s.vm.findClass RX2 = some m.cls := hown
  unfold p_M_differs_8 at h
  refine lv_iload hx hb dX2_differs_8 (lv_at hl 3 rfl) ?_
  refine lv_iload_n hx hb dX2_differs_10 rfl (lv_at hl 2 rfl) ?_
  refine lv_bipush (v := 16) hx hb dX2_differs_11 (by decide) ?_
  refine lv_iadd hx hb dX2_differs_13 ?_
  refine lv_icmp_ge (tgt := 42) hx hb dX2_differs_14 (by decide) (fun c_1 => ?_) (fun c_1 => ?_)
  · replace h := (kp_if h).1 c_1
    refine lv_iconst (v := 0) hx hb dX2_differs_42 (by decide) ?_
    cases h
    exact mk_zretR E (by decide) hK hP hD hS dX2_differs_43
  · replace h := (kp_if h).2 c_1
    refine lv_aload_n hx hb dX2_differs_17 rfl (lv_at hl 0 rfl) ?_
    refine va_get (D := (dC, dI)) (ci := 2) (v := .ref aMw) (C := RX2) (T := TX2) (N := 1) hx hb hts iw_M_differs_Memory hown hK hP 0 rfl rfl 0 (by decide) (hts _ mm_M_differs_0) (fun _ h9 => h9) rfl dX2_differs_18 ?_
    refine lv_iload hx hb dX2_differs_21 (lv_at hl 3 rfl) ?_
    obtain ⟨hc_2, h⟩ := kp_in h
    refine va_iald hx hb hK hP 1 0 rfl rfl (kx_of hc_2) dX2_differs_23 ?_
    refine lv_aload_n hx hb dX2_differs_24 rfl (lv_at hl 1 rfl) ?_
    refine va_getN (D := (dC, dI)) (ci := 0) (v := .ref aDw) (C := RX0) (T := TX0) (N := 4) hx hb hts iw_M_differs_Disk hown hK hP 2 rfl rfl 0 (by decide) (va_Nw.use rfl hN) (fun _ h9 => h9) rfl dX2_differs_25 ?_
    refine lv_iload hx hb dX2_differs_28 (lv_at hl 3 rfl) ?_
    obtain ⟨hc_3, h⟩ := kp_in h
    refine va_iald hx hb hK hP 3 0 rfl rfl (kx_of hc_3) dX2_differs_30 ?_
    refine lv_icmp_eq (tgt := 36) hx hb dX2_differs_31 (by decide) (fun c_4 => ?_) (fun c_4 => ?_)
    · replace h := (kp_if h).1 c_4
      refine lv_iinc (v := x4 + 1) (lv' := [(4, .int (x4 + 1)), (0, .ref aM), (1, .ref aD), (3, .int x3)]) hx hb dX2_differs_36 hl (k := 3) rfl rfl (by decide) rfl (fun ls hl => ?_)
      refine lv_goto (tgt := 8) hx hb dX2_differs_39 (by decide) ?_
      exact hk_8 x3 (x4 + 1) h H locs ls hP hD hS (lv_sub hl [1, 2, 3, 0] rfl)
    · replace h := (kp_if h).2 c_4
      refine lv_iconst (v := 1) hx hb dX2_differs_34 (by decide) ?_
      cases h
      exact mk_zretR E (by decide) hK hP hD hS dX2_differs_35
set_option maxHeartbeats 4000000 in
set_option maxRecDepth 100000 in
theorem l_M_differs_8 {p : Program} {l : Launch} {e : Env} {s : State} {m : MethodId} {below : List Frame} {meth : Method} {c : Code} {A : Nat → Prop} {dC : Nat → ClassId} {dI : Nat → Nat → Nat} {cI cZ cS : ClassId} {aM aMw aD aDw : Nat} {mm : Nat → Int32} {pw : Int32} {wl : Int32} {wn : Int32} {dk : Nat → Int32} {a2 : Int32} (E : mk_En p s m meth c cX2_differs 5 (some .boolean) ([.ref aM, .ref aD, .int a2] : List Value).toArray wsX2_differs yX2_differs.cls) (hA : ∀ q : Nat, s.heap.size ≤ q → A q) (hK : va_K (dC, dI) vwCl (tyz cI cZ cS) s) (R : Int32) : ∀ (n : Nat) (x3 : Int32) (x4 : Int32), pl_M_differs_8 mm dk n x3 x4 = some R → ∀ (H : Heap) (locs : List Loc) (ls : Array Slot), va_P (dC, dI) vwCl (w_MD cI cZ cS aM aMw aD aDw mm pw wl wn dk) H → va_D A (w_MD cI cZ cS aM aMw aD aDw mm pw wl wn dk) → va_S A s.heap H locs → lv_has ls 5 [(0, .ref aM), (1, .ref aD), (3, .int x3), (4, .int x4)] → W p l e ({ frames := 0, cells := 0, slots := 0, locals := 0 } : Room) s m ([.ref aM, .ref aD, .int a2] : List Value).toArray below meth c H locs 0 0 (MQ below (mk_QR (dC, dI) vwCl (tyz cI cZ cS) A (w_MD cI cZ cS aM aMw aD aDw mm pw wl wn dk) R) ([.ref aM, .ref aD, .int a2] : List Value).toArray s 0 0 A) (F0 m 8 ls []) := by
  intro n
  induction n with
  | zero =>
    intro x3 x4 h
    cases h
  | succ n ih =>
    intro x3 x4 h
    exact b_M_differs_8 E hA hK R ih x3 x4 h
set_option maxHeartbeats 4000000 in
set_option maxRecDepth 100000 in
theorem c_M_differs (l : Launch) (dC : Nat → ClassId) (dI : Nat → Nat → Nat) (cI cZ cS : ClassId) (aM aMw aD aDw : Nat) (mm : Nat → Int32) (pw : Int32) (wl : Int32) (wn : Int32) (dk : Nat → Int32) (a2 : Int32) : CtR l yX2_differs wsX2_differs ({ frames := 0, cells := 0, slots := 0, locals := 0 }) (dC, dI) vwCl (tyz cI cZ cS) [.ref aM, .ref aD, .int a2] (w_MD cI cZ cS aM aMw aD aDw mm pw wl wn dk) (p_M_differs mm dk a2) := by
  intro R h
  refine mk_enter (Qc := (fun A => mk_QR (dC, dI) vwCl (tyz cI cZ cS) A (w_MD cI cZ cS aM aMw aD aDw mm pw wl wn dk) R)) (by decide) rfl (Nat.le_of_ble_eq_true rfl) ?_
  intro p e s m below meth c A E hA hK H locs ls hP hD hS hl
  obtain ⟨⟨hx, hb, hml, hown, hts⟩, hrt, hlk, hN⟩ := id E
  have hown : s.vm.findClass RX2 = some m.cls := hown
  have hl : lv_has ls 5 [(0, .ref aM), (1, .ref aD), (2, .int a2)] := hl
  unfold p_M_differs at h
  refine lv_iload_n hx hb dX2_differs_0 rfl (lv_at hl 2 rfl) ?_
  refine lv_bipush (v := 16) hx hb dX2_differs_1 (by decide) ?_
  refine lv_imul hx hb dX2_differs_3 ?_
  refine lv_topi (fun v_5 ev_5 => ?_)
  replace h := kp_kl h v_5 ev_5
  refine lv_istore_n (lv' := [(3, .int v_5), (0, .ref aM), (1, .ref aD), (2, .int a2)]) hx hb dX2_differs_4 rfl hl (by decide) rfl (fun ls hl => ?_)
  refine lv_iload_n hx hb dX2_differs_5 rfl (lv_at hl 0 rfl) ?_
  refine lv_istore (lv' := [(4, .int v_5), (3, .int v_5), (0, .ref aM), (1, .ref aD), (2, .int a2)]) hx hb dX2_differs_6 hl (by decide) rfl (fun ls hl => ?_)
  exact l_M_differs_8 E hA hK R 1000 v_5 v_5 h H locs ls hP hD hS (lv_sub hl [2, 3, 1, 0] rfl)

/- Memory.save(LJournaledTables$Disk;I)Z -/
set_option maxRecDepth 20000 in
theorem mm_M_save_0 : Cond.fieldLink RX2 9 "JournaledTables$Memory" "words" "[I" ∈ wsX2_save := by decide +kernel
set_option maxRecDepth 20000 in
theorem iw_M_save_Memory : ∀ w ∈ u_ws RX2 TX2 1, w ∈ wsX2_save := by decide +kernel
set_option maxHeartbeats 4000000 in
set_option maxRecDepth 100000 in
theorem c_M_save (l : Launch) (dC : Nat → ClassId) (dI : Nat → Nat → Nat) (cI cZ cS : ClassId) (aM aMw aD aDw : Nat) (mm : Nat → Int32) (pw : Int32) (wl : Int32) (wn : Int32) (dk : Nat → Int32) (a2 : Int32) : CtI l yX2_save wsX2_save ({ frames := 2, cells := 0, slots := 0, locals := 41 }) (dC, dI) vwCl (tyz cI cZ cS) [.ref aM, .ref aD, .int a2] (w_MD cI cZ cS aM aMw aD aDw mm pw wl wn dk) (fun u : Int32 × Int32 × Int32 × (Nat → Int32) => w_MD cI cZ cS aM aMw aD aDw mm u.1 u.2.1 u.2.2.1 u.2.2.2) (p_M_save mm pw wl wn dk a2) := by
  intro R h
  refine mk_enter (Qc := (fun A => mk_QI (dC, dI) vwCl (tyz cI cZ cS) A (fun u : Int32 × Int32 × Int32 × (Nat → Int32) => w_MD cI cZ cS aM aMw aD aDw mm u.1 u.2.1 u.2.2.1 u.2.2.2) R)) (by decide) rfl (Nat.le_of_ble_eq_true rfl) ?_
  intro p e s m below meth c A E hA hK H locs ls hP hD hS hl
  obtain ⟨⟨hx, hb, hml, hown, hts⟩, hrt, hlk, hN⟩ := id E
  have hown : s.vm.findClass RX2 = some m.cls := hown
  have hl : lv_has ls 3 [(0, .ref aM), (1, .ref aD), (2, .int a2)] := hl
  unfold p_M_save at h
  refine lv_aload_n hx hb dX2_save_0 rfl (lv_at hl 1 rfl) ?_
  refine lv_iload_n hx hb dX2_save_1 rfl (lv_at hl 2 rfl) ?_
  refine lv_aload_n hx hb dX2_save_2 rfl (lv_at hl 0 rfl) ?_
  refine va_get (D := (dC, dI)) (ci := 2) (v := .ref aMw) (C := RX2) (T := TX2) (N := 1) hx hb hts iw_M_save_Memory hown hK hP 0 rfl rfl 0 (by decide) (hts _ mm_M_save_0) (fun _ h9 => h9) rfl dX2_save_3 ?_
  refine lv_iload_n hx hb dX2_save_6 rfl (lv_at hl 2 rfl) ?_
  obtain ⟨r_1, hr_1, h⟩ := kp_bind h
  refine mk_contI (w := w_MD cI cZ cS aM aMw aD aDw mm pw wl wn dk) (w0 := w_DE cI cZ cS aD aDw aMw pw wl wn dk 256 mm) (wr := [(aM, .inr (2, [.ref aMw]))]) (w2 := w_MD cI cZ cS aM aMw aD aDw mm r_1.2.1 r_1.2.2.1 r_1.2.2.2.1 r_1.2.2.2.2) hP hD hS hA [2, 3, 1] [0] rfl rfl (by decide) (by decide) [0, 3, 1, 2] rfl (by decide) (va_runV (As := [.int a2, .ref aMw, .int a2]) (rest := []) ⟨hx, hb, hml, hown, hts⟩ (c_D_writeE l dC dI cI cZ cS aD aDw aMw pw wl wn dk 256 mm a2 a2 r_1 hr_1 H.size) (cwV 3 hts gX2_save_X0_write rfl rfl rfl (by decide +kernel) ⟨Nat.le_of_ble_eq_true rfl, Nat.le_of_ble_eq_true rfl⟩) (mk_preV (w0 := w_DE cI cZ cS aD aDw aMw pw wl wn dk 256 mm) (ci := 0) (q0 := 0) hN hK (mk_pick hP [2, 3, 1] rfl) (hD.sub [2, 3, 1] (by decide) rfl) rfl rfl rfl) rfl rfl hl.1 rfl (lv_room (Nat.le_of_ble_eq_true rfl)) dX2_save_7 ⟨Nat.zero_le _, Nat.zero_le _⟩) (fun H locs hP hD hS => ?_)
  obtain ⟨hc_2, h⟩ := kp_in h
  cases h
  exact mk_zret E hc_2 hK hP hD hS dX2_save_10

/- Memory.word(I)I -/
set_option maxRecDepth 20000 in
theorem mm_M_word_0 : Cond.fieldLink RX2 9 "JournaledTables$Memory" "words" "[I" ∈ wsX2_word := by decide +kernel
set_option maxRecDepth 20000 in
theorem iw_M_word_Memory : ∀ w ∈ u_ws RX2 TX2 1, w ∈ wsX2_word := by decide +kernel
set_option maxHeartbeats 4000000 in
set_option maxRecDepth 100000 in
theorem c_M_word (l : Launch) (dC : Nat → ClassId) (dI : Nat → Nat → Nat) (cI cZ cS : ClassId) (aM aMw : Nat) (mm : Nat → Int32) (a1 : Int32) : CtR l yX2_word wsX2_word ({ frames := 0, cells := 0, slots := 0, locals := 0 }) (dC, dI) vwCl (tyz cI cZ cS) [.ref aM, .int a1] (w_M cI cZ cS aM aMw mm) (p_M_word mm a1) := by
  intro R h
  refine mk_enter (Qc := (fun A => mk_QR (dC, dI) vwCl (tyz cI cZ cS) A (w_M cI cZ cS aM aMw mm) R)) (by decide) rfl (Nat.le_of_ble_eq_true rfl) ?_
  intro p e s m below meth c A E hA hK H locs ls hP hD hS hl
  obtain ⟨⟨hx, hb, hml, hown, hts⟩, hrt, hlk, hN⟩ := id E
  have hown : s.vm.findClass RX2 = some m.cls := hown
  have hl : lv_has ls 2 [(0, .ref aM), (1, .int a1)] := hl
  unfold p_M_word at h
  refine lv_aload_n hx hb dX2_word_0 rfl (lv_at hl 0 rfl) ?_
  refine va_get (D := (dC, dI)) (ci := 2) (v := .ref aMw) (C := RX2) (T := TX2) (N := 1) hx hb hts iw_M_word_Memory hown hK hP 0 rfl rfl 0 (by decide) (hts _ mm_M_word_0) (fun _ h9 => h9) rfl dX2_word_1 ?_
  refine lv_iload_n hx hb dX2_word_4 rfl (lv_at hl 1 rfl) ?_
  obtain ⟨hc_1, h⟩ := kp_in h
  refine va_iald hx hb hK hP 1 0 rfl rfl (kx_of hc_1) dX2_word_5 ?_
  cases h
  exact mk_iretR E hK hP hD hS dX2_word_6

/- Memory.setWord(II)V -/
set_option maxRecDepth 20000 in
theorem mm_M_setWord_0 : Cond.fieldLink RX2 9 "JournaledTables$Memory" "words" "[I" ∈ wsX2_setWord := by decide +kernel
set_option maxRecDepth 20000 in
theorem iw_M_setWord_Memory : ∀ w ∈ u_ws RX2 TX2 1, w ∈ wsX2_setWord := by decide +kernel
set_option maxHeartbeats 4000000 in
set_option maxRecDepth 100000 in
theorem c_M_setWord (l : Launch) (dC : Nat → ClassId) (dI : Nat → Nat → Nat) (cI cZ cS : ClassId) (aM aMw : Nat) (mm : Nat → Int32) (a1 : Int32) (a2 : Int32) : CtV l yX2_setWord wsX2_setWord ({ frames := 0, cells := 0, slots := 0, locals := 0 }) (dC, dI) vwCl (tyz cI cZ cS) [.ref aM, .int a1, .int a2] (w_M cI cZ cS aM aMw mm) (fun u : (Nat → Int32) => w_M cI cZ cS aM aMw u) (p_M_setWord mm a1 a2) := by
  intro R h
  refine mk_enter (Qc := (fun A => mk_QV (dC, dI) vwCl (tyz cI cZ cS) A (fun u : (Nat → Int32) => w_M cI cZ cS aM aMw u) R)) (by decide) rfl (Nat.le_of_ble_eq_true rfl) ?_
  intro p e s m below meth c A E hA hK H locs ls hP hD hS hl
  obtain ⟨⟨hx, hb, hml, hown, hts⟩, hrt, hlk, hN⟩ := id E
  have hown : s.vm.findClass RX2 = some m.cls := hown
  have hl : lv_has ls 3 [(0, .ref aM), (1, .int a1), (2, .int a2)] := hl
  unfold p_M_setWord at h
  refine lv_aload_n hx hb dX2_setWord_0 rfl (lv_at hl 0 rfl) ?_
  refine va_get (D := (dC, dI)) (ci := 2) (v := .ref aMw) (C := RX2) (T := TX2) (N := 1) hx hb hts iw_M_setWord_Memory hown hK hP 0 rfl rfl 0 (by decide) (hts _ mm_M_setWord_0) (fun _ h9 => h9) rfl dX2_setWord_1 ?_
  refine lv_iload_n hx hb dX2_setWord_4 rfl (lv_at hl 1 rfl) ?_
  refine lv_iload_n hx hb dX2_setWord_5 rfl (lv_at hl 2 rfl) ?_
  obtain ⟨hc_1, h⟩ := kp_in h
  refine va_iast hx hb hK hP hD hS 1 0 rfl rfl (kx_of hc_1) dX2_setWord_6 (fun H locs hP hD hS => ?_)
  have hP : va_P (dC, dI) vwCl (w_M cI cZ cS aM aMw (upd mm a1.toNatClampNeg a2)) H := hP
  have hD : va_D A (w_M cI cZ cS aM aMw (upd mm a1.toNatClampNeg a2)) := hD
  cases h
  exact mk_vret E hK hP hD hS dX2_setWord_7

/- Memory.hasTable(I)Z -/
set_option maxRecDepth 20000 in
theorem mm_M_hasTable_0 : Cond.fieldLink RX2 9 "JournaledTables$Memory" "words" "[I" ∈ wsX2_hasTable := by decide +kernel
set_option maxRecDepth 20000 in
theorem iw_M_hasTable_Memory : ∀ w ∈ u_ws RX2 TX2 1, w ∈ wsX2_hasTable := by decide +kernel
set_option maxHeartbeats 4000000 in
set_option maxRecDepth 100000 in
theorem b_M_hasTable_23 {p : Program} {l : Launch} {e : Env} {s : State} {m : MethodId} {below : List Frame} {meth : Method} {c : Code} {A : Nat → Prop} {dC : Nat → ClassId} {dI : Nat → Nat → Nat} {cI cZ cS : ClassId} {aM aMw : Nat} {mm : Nat → Int32} {a1 : Int32} (E : mk_En p s m meth c cX2_hasTable 2 (some .boolean) ([.ref aM, .int a1] : List Value).toArray wsX2_hasTable yX2_hasTable.cls) (hA : ∀ q : Nat, s.heap.size ≤ q → A q) (hK : va_K (dC, dI) vwCl (tyz cI cZ cS) s) (R : Int32) (z0 : Int32) (h : p_M_hasTable_23 mm z0 = some R) : ∀ (H : Heap) (locs : List Loc) (ls : Array Slot), va_P (dC, dI) vwCl (w_M cI cZ cS aM aMw mm) H → va_D A (w_M cI cZ cS aM aMw mm) → va_S A s.heap H locs → lv_has ls 2 [] → W p l e ({ frames := 0, cells := 0, slots := 0, locals := 0 } : Room) s m ([.ref aM, .int a1] : List Value).toArray below meth c H locs 0 0 (MQ below (mk_QR (dC, dI) vwCl (tyz cI cZ cS) A (w_M cI cZ cS aM aMw mm) R) ([.ref aM, .int a1] : List Value).toArray s 0 0 A) (F0 m 23 ls [.int z0]) := by
  intro H locs ls hP hD hS hl
  obtain ⟨⟨hx, hb, hml, hown, hts⟩, hrt, hlk, hN⟩ := id E
  have hown : s.vm.findClass RX2 = some m.cls := hown
  unfold p_M_hasTable_23 at h
  obtain ⟨hc_1, h⟩ := kp_in h
  cases h
  exact mk_zretR E hc_1 hK hP hD hS dX2_hasTable_23
set_option maxHeartbeats 4000000 in
set_option maxRecDepth 100000 in
theorem b_M_hasTable_22 {p : Program} {l : Launch} {e : Env} {s : State} {m : MethodId} {below : List Frame} {meth : Method} {c : Code} {A : Nat → Prop} {dC : Nat → ClassId} {dI : Nat → Nat → Nat} {cI cZ cS : ClassId} {aM aMw : Nat} {mm : Nat → Int32} {a1 : Int32} (E : mk_En p s m meth c cX2_hasTable 2 (some .boolean) ([.ref aM, .int a1] : List Value).toArray wsX2_hasTable yX2_hasTable.cls) (hA : ∀ q : Nat, s.heap.size ≤ q → A q) (hK : va_K (dC, dI) vwCl (tyz cI cZ cS) s) (R : Int32) (h : p_M_hasTable_22 mm = some R) : ∀ (H : Heap) (locs : List Loc) (ls : Array Slot), va_P (dC, dI) vwCl (w_M cI cZ cS aM aMw mm) H → va_D A (w_M cI cZ cS aM aMw mm) → va_S A s.heap H locs → lv_has ls 2 [] → W p l e ({ frames := 0, cells := 0, slots := 0, locals := 0 } : Room) s m ([.ref aM, .int a1] : List Value).toArray below meth c H locs 0 0 (MQ below (mk_QR (dC, dI) vwCl (tyz cI cZ cS) A (w_M cI cZ cS aM aMw mm) R) ([.ref aM, .int a1] : List Value).toArray s 0 0 A) (F0 m 22 ls []) := by
  intro H locs ls hP hD hS hl
  obtain ⟨⟨hx, hb, hml, hown, hts⟩, hrt, hlk, hN⟩ := id E
  have hown : s.vm.findClass RX2 = some m.cls := hown
  unfold p_M_hasTable_22 at h
  refine lv_iconst (v := 0) hx hb dX2_hasTable_22 (by decide) ?_
  exact b_M_hasTable_23 E hA hK R 0 h H locs ls hP hD hS (lv_sub hl [] rfl)
set_option maxHeartbeats 4000000 in
set_option maxRecDepth 100000 in
theorem c_M_hasTable (l : Launch) (dC : Nat → ClassId) (dI : Nat → Nat → Nat) (cI cZ cS : ClassId) (aM aMw : Nat) (mm : Nat → Int32) (a1 : Int32) : CtR l yX2_hasTable wsX2_hasTable ({ frames := 0, cells := 0, slots := 0, locals := 0 }) (dC, dI) vwCl (tyz cI cZ cS) [.ref aM, .int a1] (w_M cI cZ cS aM aMw mm) (p_M_hasTable mm a1) := by
  intro R h
  refine mk_enter (Qc := (fun A => mk_QR (dC, dI) vwCl (tyz cI cZ cS) A (w_M cI cZ cS aM aMw mm) R)) (by decide) rfl (Nat.le_of_ble_eq_true rfl) ?_
  intro p e s m below meth c A E hA hK H locs ls hP hD hS hl
  obtain ⟨⟨hx, hb, hml, hown, hts⟩, hrt, hlk, hN⟩ := id E
  have hown : s.vm.findClass RX2 = some m.cls := hown
  have hl : lv_has ls 2 [(0, .ref aM), (1, .int a1)] := hl
  unfold p_M_hasTable at h
  refine lv_iload_n hx hb dX2_hasTable_0 rfl (lv_at hl 1 rfl) ?_
  refine lv_if_lt (tgt := 22) hx hb dX2_hasTable_1 (by decide) (fun c_2 => ?_) (fun c_2 => ?_)
  · replace h := (kp_if h).1 c_2
    exact b_M_hasTable_22 E hA hK R h H locs ls hP hD hS (lv_sub hl [] rfl)
  · replace h := (kp_if h).2 c_2
    refine lv_iload_n hx hb dX2_hasTable_4 rfl (lv_at hl 1 rfl) ?_
    refine lv_iconst (v := 5) hx hb dX2_hasTable_5 (by decide) ?_
    refine lv_icmp_ge (tgt := 22) hx hb dX2_hasTable_6 (by decide) (fun c_3 => ?_) (fun c_3 => ?_)
    · replace h := (kp_if h).1 c_3
      exact b_M_hasTable_22 E hA hK R h H locs ls hP hD hS (lv_sub hl [] rfl)
    · replace h := (kp_if h).2 c_3
      refine lv_aload_n hx hb dX2_hasTable_9 rfl (lv_at hl 0 rfl) ?_
      refine va_get (D := (dC, dI)) (ci := 2) (v := .ref aMw) (C := RX2) (T := TX2) (N := 1) hx hb hts iw_M_hasTable_Memory hown hK hP 0 rfl rfl 0 (by decide) (hts _ mm_M_hasTable_0) (fun _ h9 => h9) rfl dX2_hasTable_10 ?_
      refine lv_iload_n hx hb dX2_hasTable_13 rfl (lv_at hl 1 rfl) ?_
      obtain ⟨hc_4, h⟩ := kp_in h
      refine va_iald hx hb hK hP 1 0 rfl rfl (kx_of hc_4) dX2_hasTable_14 ?_
      refine lv_if_eq (tgt := 22) hx hb dX2_hasTable_15 (by decide) (fun c_5 => ?_) (fun c_5 => ?_)
      · replace h := (kp_if h).1 c_5
        exact b_M_hasTable_22 E hA hK R h H locs ls hP hD hS (lv_sub hl [] rfl)
      · replace h := (kp_if h).2 c_5
        refine lv_iconst (v := 1) hx hb dX2_hasTable_18 (by decide) ?_
        refine lv_goto (tgt := 23) hx hb dX2_hasTable_19 (by decide) ?_
        exact b_M_hasTable_23 E hA hK R 1 h H locs ls hP hD hS (lv_sub hl [] rfl)

/- Memory.width(I)I -/
set_option maxRecDepth 20000 in
theorem mm_M_width_0 : Cond.fieldLink RX2 9 "JournaledTables$Memory" "words" "[I" ∈ wsX2_width := by decide +kernel
set_option maxRecDepth 20000 in
theorem iw_M_width_Memory : ∀ w ∈ u_ws RX2 TX2 1, w ∈ wsX2_width := by decide +kernel
set_option maxHeartbeats 4000000 in
set_option maxRecDepth 100000 in
theorem b_M_width_18 {p : Program} {l : Launch} {e : Env} {s : State} {m : MethodId} {below : List Frame} {meth : Method} {c : Code} {A : Nat → Prop} {dC : Nat → ClassId} {dI : Nat → Nat → Nat} {cI cZ cS : ClassId} {aM aMw : Nat} {mm : Nat → Int32} {a1 : Int32} (E : mk_En p s m meth c cX2_width 2 (some .int) ([.ref aM, .int a1] : List Value).toArray wsX2_width yX2_width.cls) (hA : ∀ q : Nat, s.heap.size ≤ q → A q) (hK : va_K (dC, dI) vwCl (tyz cI cZ cS) s) (R : Int32) (z0 : Int32) (h : p_M_width_18 mm z0 = some R) : ∀ (H : Heap) (locs : List Loc) (ls : Array Slot), va_P (dC, dI) vwCl (w_M cI cZ cS aM aMw mm) H → va_D A (w_M cI cZ cS aM aMw mm) → va_S A s.heap H locs → lv_has ls 2 [] → W p l e ({ frames := 1, cells := 0, slots := 0, locals := 21 } : Room) s m ([.ref aM, .int a1] : List Value).toArray below meth c H locs 0 0 (MQ below (mk_QR (dC, dI) vwCl (tyz cI cZ cS) A (w_M cI cZ cS aM aMw mm) R) ([.ref aM, .int a1] : List Value).toArray s 0 0 A) (F0 m 18 ls [.int z0]) := by
  intro H locs ls hP hD hS hl
  obtain ⟨⟨hx, hb, hml, hown, hts⟩, hrt, hlk, hN⟩ := id E
  have hown : s.vm.findClass RX2 = some m.cls := hown
  unfold p_M_width_18 at h
  cases h
  exact mk_iretR E hK hP hD hS dX2_width_18
set_option maxHeartbeats 4000000 in
set_option maxRecDepth 100000 in
theorem c_M_width (l : Launch) (dC : Nat → ClassId) (dI : Nat → Nat → Nat) (cI cZ cS : ClassId) (aM aMw : Nat) (mm : Nat → Int32) (a1 : Int32) : CtR l yX2_width wsX2_width ({ frames := 1, cells := 0, slots := 0, locals := 21 }) (dC, dI) vwCl (tyz cI cZ cS) [.ref aM, .int a1] (w_M cI cZ cS aM aMw mm) (p_M_width mm a1) := by
  intro R h
  refine mk_enter (Qc := (fun A => mk_QR (dC, dI) vwCl (tyz cI cZ cS) A (w_M cI cZ cS aM aMw mm) R)) (by decide) rfl (Nat.le_of_ble_eq_true rfl) ?_
  intro p e s m below meth c A E hA hK H locs ls hP hD hS hl
  obtain ⟨⟨hx, hb, hml, hown, hts⟩, hrt, hlk, hN⟩ := id E
  have hown : s.vm.findClass RX2 = some m.cls := hown
  have hl : lv_has ls 2 [(0, .ref aM), (1, .int a1)] := hl
  unfold p_M_width at h
  refine lv_aload_n hx hb dX2_width_0 rfl (lv_at hl 0 rfl) ?_
  refine lv_iload_n hx hb dX2_width_1 rfl (lv_at hl 1 rfl) ?_
  obtain ⟨r_1, hr_1, h⟩ := kp_bind h
  refine mk_contR (w := w_M cI cZ cS aM aMw mm) (w0 := w_M cI cZ cS aM aMw mm) (wr := []) hP hD hS hA [0, 1] [] rfl rfl (by decide) (by decide) [0, 1] rfl (by decide) (va_runV (As := [.int a1]) (rest := []) ⟨hx, hb, hml, hown, hts⟩ (c_M_hasTable l dC dI cI cZ cS aM aMw mm a1 r_1 hr_1 H.size) (cwV 1 hts gX2_width_X2_hasTable rfl rfl rfl (by decide +kernel) ⟨Nat.le_of_ble_eq_true rfl, Nat.le_of_ble_eq_true rfl⟩) (mk_preV (w0 := w_M cI cZ cS aM aMw mm) (ci := 2) (q0 := 0) hN hK (mk_pick hP [0, 1] rfl) (hD.sub [0, 1] (by decide) rfl) rfl rfl rfl) rfl rfl hl.1 rfl (lv_room (Nat.le_of_ble_eq_true rfl)) dX2_width_2 ⟨Nat.zero_le _, Nat.zero_le _⟩) (fun H locs hP hD hS => ?_)
  refine lv_if_eq (tgt := 17) hx hb dX2_width_5 (by decide) (fun c_2 => ?_) (fun c_2 => ?_)
  · replace h := (kp_if h).1 c_2
    refine lv_iconst (v := 0) hx hb dX2_width_17 (by decide) ?_
    exact b_M_width_18 E hA hK R 0 h H locs ls hP hD hS (lv_sub hl [] rfl)
  · replace h := (kp_if h).2 c_2
    refine lv_aload_n hx hb dX2_width_8 rfl (lv_at hl 0 rfl) ?_
    refine va_get (D := (dC, dI)) (ci := 2) (v := .ref aMw) (C := RX2) (T := TX2) (N := 1) hx hb hts iw_M_width_Memory hown hK hP 0 rfl rfl 0 (by decide) (hts _ mm_M_width_0) (fun _ h9 => h9) rfl dX2_width_9 ?_
    refine lv_iload_n hx hb dX2_width_12 rfl (lv_at hl 1 rfl) ?_
    obtain ⟨hc_3, h⟩ := kp_in h
    refine va_iald hx hb hK hP 1 0 rfl rfl (kx_of hc_3) dX2_width_13 ?_
    refine lv_goto (tgt := 18) hx hb dX2_width_14 (by decide) ?_
    exact b_M_width_18 E hA hK R (mm a1.toNatClampNeg) h H locs ls hP hD hS (lv_sub hl [] rfl)

/- Memory.hasCol(II)Z -/
set_option maxHeartbeats 4000000 in
set_option maxRecDepth 100000 in
theorem b_M_hasCol_18 {p : Program} {l : Launch} {e : Env} {s : State} {m : MethodId} {below : List Frame} {meth : Method} {c : Code} {A : Nat → Prop} {dC : Nat → ClassId} {dI : Nat → Nat → Nat} {cI cZ cS : ClassId} {aM aMw : Nat} {mm : Nat → Int32} {a1 : Int32} {a2 : Int32} (E : mk_En p s m meth c cX2_hasCol 3 (some .boolean) ([.ref aM, .int a1, .int a2] : List Value).toArray wsX2_hasCol yX2_hasCol.cls) (hA : ∀ q : Nat, s.heap.size ≤ q → A q) (hK : va_K (dC, dI) vwCl (tyz cI cZ cS) s) (R : Int32) (z0 : Int32) (h : p_M_hasCol_18 mm z0 = some R) : ∀ (H : Heap) (locs : List Loc) (ls : Array Slot), va_P (dC, dI) vwCl (w_M cI cZ cS aM aMw mm) H → va_D A (w_M cI cZ cS aM aMw mm) → va_S A s.heap H locs → lv_has ls 3 [] → W p l e ({ frames := 2, cells := 0, slots := 0, locals := 42 } : Room) s m ([.ref aM, .int a1, .int a2] : List Value).toArray below meth c H locs 0 0 (MQ below (mk_QR (dC, dI) vwCl (tyz cI cZ cS) A (w_M cI cZ cS aM aMw mm) R) ([.ref aM, .int a1, .int a2] : List Value).toArray s 0 0 A) (F0 m 18 ls [.int z0]) := by
  intro H locs ls hP hD hS hl
  obtain ⟨⟨hx, hb, hml, hown, hts⟩, hrt, hlk, hN⟩ := id E
  have hown : s.vm.findClass RX2 = some m.cls := hown
  unfold p_M_hasCol_18 at h
  obtain ⟨hc_1, h⟩ := kp_in h
  cases h
  exact mk_zretR E hc_1 hK hP hD hS dX2_hasCol_18
set_option maxHeartbeats 4000000 in
set_option maxRecDepth 100000 in
theorem b_M_hasCol_17 {p : Program} {l : Launch} {e : Env} {s : State} {m : MethodId} {below : List Frame} {meth : Method} {c : Code} {A : Nat → Prop} {dC : Nat → ClassId} {dI : Nat → Nat → Nat} {cI cZ cS : ClassId} {aM aMw : Nat} {mm : Nat → Int32} {a1 : Int32} {a2 : Int32} (E : mk_En p s m meth c cX2_hasCol 3 (some .boolean) ([.ref aM, .int a1, .int a2] : List Value).toArray wsX2_hasCol yX2_hasCol.cls) (hA : ∀ q : Nat, s.heap.size ≤ q → A q) (hK : va_K (dC, dI) vwCl (tyz cI cZ cS) s) (R : Int32) (h : p_M_hasCol_17 mm = some R) : ∀ (H : Heap) (locs : List Loc) (ls : Array Slot), va_P (dC, dI) vwCl (w_M cI cZ cS aM aMw mm) H → va_D A (w_M cI cZ cS aM aMw mm) → va_S A s.heap H locs → lv_has ls 3 [] → W p l e ({ frames := 2, cells := 0, slots := 0, locals := 42 } : Room) s m ([.ref aM, .int a1, .int a2] : List Value).toArray below meth c H locs 0 0 (MQ below (mk_QR (dC, dI) vwCl (tyz cI cZ cS) A (w_M cI cZ cS aM aMw mm) R) ([.ref aM, .int a1, .int a2] : List Value).toArray s 0 0 A) (F0 m 17 ls []) := by
  intro H locs ls hP hD hS hl
  obtain ⟨⟨hx, hb, hml, hown, hts⟩, hrt, hlk, hN⟩ := id E
  have hown : s.vm.findClass RX2 = some m.cls := hown
  unfold p_M_hasCol_17 at h
  refine lv_iconst (v := 0) hx hb dX2_hasCol_17 (by decide) ?_
  exact b_M_hasCol_18 E hA hK R 0 h H locs ls hP hD hS (lv_sub hl [] rfl)
set_option maxHeartbeats 4000000 in
set_option maxRecDepth 100000 in
theorem c_M_hasCol (l : Launch) (dC : Nat → ClassId) (dI : Nat → Nat → Nat) (cI cZ cS : ClassId) (aM aMw : Nat) (mm : Nat → Int32) (a1 : Int32) (a2 : Int32) : CtR l yX2_hasCol wsX2_hasCol ({ frames := 2, cells := 0, slots := 0, locals := 42 }) (dC, dI) vwCl (tyz cI cZ cS) [.ref aM, .int a1, .int a2] (w_M cI cZ cS aM aMw mm) (p_M_hasCol mm a1 a2) := by
  intro R h
  refine mk_enter (Qc := (fun A => mk_QR (dC, dI) vwCl (tyz cI cZ cS) A (w_M cI cZ cS aM aMw mm) R)) (by decide) rfl (Nat.le_of_ble_eq_true rfl) ?_
  intro p e s m below meth c A E hA hK H locs ls hP hD hS hl
  obtain ⟨⟨hx, hb, hml, hown, hts⟩, hrt, hlk, hN⟩ := id E
  have hown : s.vm.findClass RX2 = some m.cls := hown
  have hl : lv_has ls 3 [(0, .ref aM), (1, .int a1), (2, .int a2)] := hl
  unfold p_M_hasCol at h
  refine lv_iload_n hx hb dX2_hasCol_0 rfl (lv_at hl 2 rfl) ?_
  refine lv_if_lt (tgt := 17) hx hb dX2_hasCol_1 (by decide) (fun c_2 => ?_) (fun c_2 => ?_)
  · replace h := (kp_if h).1 c_2
    exact b_M_hasCol_17 E hA hK R h H locs ls hP hD hS (lv_sub hl [] rfl)
  · replace h := (kp_if h).2 c_2
    refine lv_iload_n hx hb dX2_hasCol_4 rfl (lv_at hl 2 rfl) ?_
    refine lv_aload_n hx hb dX2_hasCol_5 rfl (lv_at hl 0 rfl) ?_
    refine lv_iload_n hx hb dX2_hasCol_6 rfl (lv_at hl 1 rfl) ?_
    obtain ⟨r_3, hr_3, h⟩ := kp_bind h
    refine mk_contR (w := w_M cI cZ cS aM aMw mm) (w0 := w_M cI cZ cS aM aMw mm) (wr := []) hP hD hS hA [0, 1] [] rfl rfl (by decide) (by decide) [0, 1] rfl (by decide) (va_runV (As := [.int a1]) (rest := [.int a2]) ⟨hx, hb, hml, hown, hts⟩ (c_M_width l dC dI cI cZ cS aM aMw mm a1 r_3 hr_3 H.size) (cwV 1 hts gX2_hasCol_X2_width rfl rfl rfl (by decide +kernel) ⟨Nat.le_of_ble_eq_true rfl, Nat.le_of_ble_eq_true rfl⟩) (mk_preV (w0 := w_M cI cZ cS aM aMw mm) (ci := 2) (q0 := 0) hN hK (mk_pick hP [0, 1] rfl) (hD.sub [0, 1] (by decide) rfl) rfl rfl rfl) rfl rfl hl.1 rfl (lv_room (Nat.le_of_ble_eq_true rfl)) dX2_hasCol_7 ⟨Nat.zero_le _, Nat.zero_le _⟩) (fun H locs hP hD hS => ?_)
    refine lv_icmp_ge (tgt := 17) hx hb dX2_hasCol_10 (by decide) (fun c_4 => ?_) (fun c_4 => ?_)
    · replace h := (kp_if h).1 c_4
      exact b_M_hasCol_17 E hA hK R h H locs ls hP hD hS (lv_sub hl [] rfl)
    · replace h := (kp_if h).2 c_4
      refine lv_iconst (v := 1) hx hb dX2_hasCol_13 (by decide) ?_
      refine lv_goto (tgt := 18) hx hb dX2_hasCol_14 (by decide) ?_
      exact b_M_hasCol_18 E hA hK R 1 h H locs ls hP hD hS (lv_sub hl [] rfl)

/- Memory.freeTable()I -/
set_option maxRecDepth 20000 in
theorem mm_M_freeTable_0 : Cond.fieldLink RX2 9 "JournaledTables$Memory" "words" "[I" ∈ wsX2_freeTable := by decide +kernel
set_option maxRecDepth 20000 in
theorem iw_M_freeTable_Memory : ∀ w ∈ u_ws RX2 TX2 1, w ∈ wsX2_freeTable := by decide +kernel
set_option maxHeartbeats 4000000 in
set_option maxRecDepth 100000 in
theorem b_M_freeTable_2 {p : Program} {l : Launch} {e : Env} {s : State} {m : MethodId} {below : List Frame} {meth : Method} {c : Code} {A : Nat → Prop} {dC : Nat → ClassId} {dI : Nat → Nat → Nat} {cI cZ cS : ClassId} {aM aMw : Nat} {mm : Nat → Int32} (E : mk_En p s m meth c cX2_freeTable 2 (some .int) ([.ref aM] : List Value).toArray wsX2_freeTable yX2_freeTable.cls) (hA : ∀ q : Nat, s.heap.size ≤ q → A q) (hK : va_K (dC, dI) vwCl (tyz cI cZ cS) s) (R : Int32) {k_2 : Int32 → Option Int32} (hk_2 : ∀ (x1 : Int32), k_2 x1 = some R → ∀ (H : Heap) (locs : List Loc) (ls : Array Slot), va_P (dC, dI) vwCl (w_M cI cZ cS aM aMw mm) H → va_D A (w_M cI cZ cS aM aMw mm) → va_S A s.heap H locs → lv_has ls 2 [(0, .ref aM), (1, .int x1)] → W p l e ({ frames := 0, cells := 0, slots := 0, locals := 0 } : Room) s m ([.ref aM] : List Value).toArray below meth c H locs 0 0 (MQ below (mk_QR (dC, dI) vwCl (tyz cI cZ cS) A (w_M cI cZ cS aM aMw mm) R) ([.ref aM] : List Value).toArray s 0 0 A) (F0 m 2 ls [])) (x1 : Int32) (h : p_M_freeTable_2 mm k_2 x1 = some R) : ∀ (H : Heap) (locs : List Loc) (ls : Array Slot), va_P (dC, dI) vwCl (w_M cI cZ cS aM aMw mm) H → va_D A (w_M cI cZ cS aM aMw mm) → va_S A s.heap H locs → lv_has ls 2 [(0, .ref aM), (1, .int x1)] → W p l e ({ frames := 0, cells := 0, slots := 0, locals := 0 } : Room) s m ([.ref aM] : List Value).toArray below meth c H locs 0 0 (MQ below (mk_QR (dC, dI) vwCl (tyz cI cZ cS) A (w_M cI cZ cS aM aMw mm) R) ([.ref aM] : List Value).toArray s 0 0 A) (F0 m 2 ls []) := by
  intro H locs ls hP hD hS hl
  obtain ⟨⟨hx, hb, hml, hown, hts⟩, hrt, hlk, hN⟩ := id E
  have hown : s.vm.findClass RX2 = some m.cls := hown
  unfold p_M_freeTable_2 at h
  refine lv_iload_n hx hb dX2_freeTable_2 rfl (lv_at hl 1 rfl) ?_
  refine lv_iconst (v := 5) hx hb dX2_freeTable_3 (by decide) ?_
  refine lv_icmp_ge (tgt := 24) hx hb dX2_freeTable_4 (by decide) (fun c_1 => ?_) (fun c_1 => ?_)
  · replace h := (kp_if h).1 c_1
    refine lv_iconst (v := (-1)) hx hb dX2_freeTable_24 (by decide) ?_
    cases h
    exact mk_iretR E hK hP hD hS dX2_freeTable_25
  · replace h := (kp_if h).2 c_1
    refine lv_aload_n hx hb dX2_freeTable_7 rfl (lv_at hl 0 rfl) ?_
    refine va_get (D := (dC, dI)) (ci := 2) (v := .ref aMw) (C := RX2) (T := TX2) (N := 1) hx hb hts iw_M_freeTable_Memory hown hK hP 0 rfl rfl 0 (by decide) (hts _ mm_M_freeTable_0) (fun _ h9 => h9) rfl dX2_freeTable_8 ?_
    refine lv_iload_n hx hb dX2_freeTable_11 rfl (lv_at hl 1 rfl) ?_
    obtain ⟨hc_2, h⟩ := kp_in h
    refine va_iald hx hb hK hP 1 0 rfl rfl (kx_of hc_2) dX2_freeTable_12 ?_
    refine lv_if_ne (tgt := 18) hx hb dX2_freeTable_13 (by decide) (fun c_3 => ?_) (fun c_3 => ?_)
    · replace h := (kp_if h).2 c_3
      refine lv_iinc (v := x1 + 1) (lv' := [(1, .int (x1 + 1)), (0, .ref aM)]) hx hb dX2_freeTable_18 hl (k := 1) rfl rfl (by decide) rfl (fun ls hl => ?_)
      refine lv_goto (tgt := 2) hx hb dX2_freeTable_21 (by decide) ?_
      exact hk_2 (x1 + 1) h H locs ls hP hD hS (lv_sub hl [1, 0] rfl)
    · replace h := (kp_if h).1 c_3
      refine lv_iload_n hx hb dX2_freeTable_16 rfl (lv_at hl 1 rfl) ?_
      cases h
      exact mk_iretR E hK hP hD hS dX2_freeTable_17
set_option maxHeartbeats 4000000 in
set_option maxRecDepth 100000 in
theorem l_M_freeTable_2 {p : Program} {l : Launch} {e : Env} {s : State} {m : MethodId} {below : List Frame} {meth : Method} {c : Code} {A : Nat → Prop} {dC : Nat → ClassId} {dI : Nat → Nat → Nat} {cI cZ cS : ClassId} {aM aMw : Nat} {mm : Nat → Int32} (E : mk_En p s m meth c cX2_freeTable 2 (some .int) ([.ref aM] : List Value).toArray wsX2_freeTable yX2_freeTable.cls) (hA : ∀ q : Nat, s.heap.size ≤ q → A q) (hK : va_K (dC, dI) vwCl (tyz cI cZ cS) s) (R : Int32) : ∀ (n : Nat) (x1 : Int32), pl_M_freeTable_2 mm n x1 = some R → ∀ (H : Heap) (locs : List Loc) (ls : Array Slot), va_P (dC, dI) vwCl (w_M cI cZ cS aM aMw mm) H → va_D A (w_M cI cZ cS aM aMw mm) → va_S A s.heap H locs → lv_has ls 2 [(0, .ref aM), (1, .int x1)] → W p l e ({ frames := 0, cells := 0, slots := 0, locals := 0 } : Room) s m ([.ref aM] : List Value).toArray below meth c H locs 0 0 (MQ below (mk_QR (dC, dI) vwCl (tyz cI cZ cS) A (w_M cI cZ cS aM aMw mm) R) ([.ref aM] : List Value).toArray s 0 0 A) (F0 m 2 ls []) := by
  intro n
  induction n with
  | zero =>
    intro x1 h
    cases h
  | succ n ih =>
    intro x1 h
    exact b_M_freeTable_2 E hA hK R ih x1 h
set_option maxHeartbeats 4000000 in
set_option maxRecDepth 100000 in
theorem c_M_freeTable (l : Launch) (dC : Nat → ClassId) (dI : Nat → Nat → Nat) (cI cZ cS : ClassId) (aM aMw : Nat) (mm : Nat → Int32) : CtR l yX2_freeTable wsX2_freeTable ({ frames := 0, cells := 0, slots := 0, locals := 0 }) (dC, dI) vwCl (tyz cI cZ cS) [.ref aM] (w_M cI cZ cS aM aMw mm) (p_M_freeTable mm) := by
  intro R h
  refine mk_enter (Qc := (fun A => mk_QR (dC, dI) vwCl (tyz cI cZ cS) A (w_M cI cZ cS aM aMw mm) R)) (by decide) rfl (Nat.le_of_ble_eq_true rfl) ?_
  intro p e s m below meth c A E hA hK H locs ls hP hD hS hl
  obtain ⟨⟨hx, hb, hml, hown, hts⟩, hrt, hlk, hN⟩ := id E
  have hown : s.vm.findClass RX2 = some m.cls := hown
  have hl : lv_has ls 2 [(0, .ref aM)] := hl
  unfold p_M_freeTable at h
  refine lv_iconst (v := 0) hx hb dX2_freeTable_0 (by decide) ?_
  refine lv_istore_n (lv' := [(1, .int 0), (0, .ref aM)]) hx hb dX2_freeTable_1 rfl hl (by decide) rfl (fun ls hl => ?_)
  exact l_M_freeTable_2 E hA hK R 1000 0 h H locs ls hP hD hS (lv_sub hl [1, 0] rfl)

/- Memory.addTable(II)V -/
set_option maxRecDepth 20000 in
theorem mm_M_addTable_0 : Cond.fieldLink RX2 9 "JournaledTables$Memory" "words" "[I" ∈ wsX2_addTable := by decide +kernel
set_option maxRecDepth 20000 in
theorem iw_M_addTable_Memory : ∀ w ∈ u_ws RX2 TX2 1, w ∈ wsX2_addTable := by decide +kernel
set_option maxHeartbeats 4000000 in
set_option maxRecDepth 100000 in
theorem c_M_addTable (l : Launch) (dC : Nat → ClassId) (dI : Nat → Nat → Nat) (cI cZ cS : ClassId) (aM aMw : Nat) (mm : Nat → Int32) (a1 : Int32) (a2 : Int32) : CtV l yX2_addTable wsX2_addTable ({ frames := 0, cells := 0, slots := 0, locals := 0 }) (dC, dI) vwCl (tyz cI cZ cS) [.ref aM, .int a1, .int a2] (w_M cI cZ cS aM aMw mm) (fun u : (Nat → Int32) => w_M cI cZ cS aM aMw u) (p_M_addTable mm a1 a2) := by
  intro R h
  refine mk_enter (Qc := (fun A => mk_QV (dC, dI) vwCl (tyz cI cZ cS) A (fun u : (Nat → Int32) => w_M cI cZ cS aM aMw u) R)) (by decide) rfl (Nat.le_of_ble_eq_true rfl) ?_
  intro p e s m below meth c A E hA hK H locs ls hP hD hS hl
  obtain ⟨⟨hx, hb, hml, hown, hts⟩, hrt, hlk, hN⟩ := id E
  have hown : s.vm.findClass RX2 = some m.cls := hown
  have hl : lv_has ls 3 [(0, .ref aM), (1, .int a1), (2, .int a2)] := hl
  unfold p_M_addTable at h
  refine lv_aload_n hx hb dX2_addTable_0 rfl (lv_at hl 0 rfl) ?_
  refine va_get (D := (dC, dI)) (ci := 2) (v := .ref aMw) (C := RX2) (T := TX2) (N := 1) hx hb hts iw_M_addTable_Memory hown hK hP 0 rfl rfl 0 (by decide) (hts _ mm_M_addTable_0) (fun _ h9 => h9) rfl dX2_addTable_1 ?_
  refine lv_iload_n hx hb dX2_addTable_4 rfl (lv_at hl 1 rfl) ?_
  refine lv_iload_n hx hb dX2_addTable_5 rfl (lv_at hl 2 rfl) ?_
  obtain ⟨hc_1, h⟩ := kp_in h
  refine va_iast hx hb hK hP hD hS 1 0 rfl rfl (kx_of hc_1) dX2_addTable_6 (fun H locs hP hD hS => ?_)
  have hP : va_P (dC, dI) vwCl (w_M cI cZ cS aM aMw (upd mm a1.toNatClampNeg a2)) H := hP
  have hD : va_D A (w_M cI cZ cS aM aMw (upd mm a1.toNatClampNeg a2)) := hD
  cases h
  exact mk_vret E hK hP hD hS dX2_addTable_7

/- Memory.isPageOf(II)Z -/
set_option maxRecDepth 20000 in
theorem mm_M_isPageOf_0 : Cond.fieldLink RX2 9 "JournaledTables$Memory" "words" "[I" ∈ wsX2_isPageOf := by decide +kernel
set_option maxRecDepth 20000 in
theorem iw_M_isPageOf_Memory : ∀ w ∈ u_ws RX2 TX2 1, w ∈ wsX2_isPageOf := by decide +kernel
set_option maxHeartbeats 4000000 in
set_option maxRecDepth 100000 in
theorem b_M_isPageOf_31 {p : Program} {l : Launch} {e : Env} {s : State} {m : MethodId} {below : List Frame} {meth : Method} {c : Code} {A : Nat → Prop} {dC : Nat → ClassId} {dI : Nat → Nat → Nat} {cI cZ cS : ClassId} {aM aMw : Nat} {mm : Nat → Int32} {a1 : Int32} {a2 : Int32} (E : mk_En p s m meth c cX2_isPageOf 3 (some .boolean) ([.ref aM, .int a1, .int a2] : List Value).toArray wsX2_isPageOf yX2_isPageOf.cls) (hA : ∀ q : Nat, s.heap.size ≤ q → A q) (hK : va_K (dC, dI) vwCl (tyz cI cZ cS) s) (R : Int32) (z0 : Int32) (h : p_M_isPageOf_31 mm z0 = some R) : ∀ (H : Heap) (locs : List Loc) (ls : Array Slot), va_P (dC, dI) vwCl (w_M cI cZ cS aM aMw mm) H → va_D A (w_M cI cZ cS aM aMw mm) → va_S A s.heap H locs → lv_has ls 3 [] → W p l e ({ frames := 0, cells := 0, slots := 0, locals := 0 } : Room) s m ([.ref aM, .int a1, .int a2] : List Value).toArray below meth c H locs 0 0 (MQ below (mk_QR (dC, dI) vwCl (tyz cI cZ cS) A (w_M cI cZ cS aM aMw mm) R) ([.ref aM, .int a1, .int a2] : List Value).toArray s 0 0 A) (F0 m 31 ls [.int z0]) := by
  intro H locs ls hP hD hS hl
  obtain ⟨⟨hx, hb, hml, hown, hts⟩, hrt, hlk, hN⟩ := id E
  have hown : s.vm.findClass RX2 = some m.cls := hown
  unfold p_M_isPageOf_31 at h
  obtain ⟨hc_1, h⟩ := kp_in h
  cases h
  exact mk_zretR E hc_1 hK hP hD hS dX2_isPageOf_31
set_option maxHeartbeats 4000000 in
set_option maxRecDepth 100000 in
theorem b_M_isPageOf_30 {p : Program} {l : Launch} {e : Env} {s : State} {m : MethodId} {below : List Frame} {meth : Method} {c : Code} {A : Nat → Prop} {dC : Nat → ClassId} {dI : Nat → Nat → Nat} {cI cZ cS : ClassId} {aM aMw : Nat} {mm : Nat → Int32} {a1 : Int32} {a2 : Int32} (E : mk_En p s m meth c cX2_isPageOf 3 (some .boolean) ([.ref aM, .int a1, .int a2] : List Value).toArray wsX2_isPageOf yX2_isPageOf.cls) (hA : ∀ q : Nat, s.heap.size ≤ q → A q) (hK : va_K (dC, dI) vwCl (tyz cI cZ cS) s) (R : Int32) (h : p_M_isPageOf_30 mm = some R) : ∀ (H : Heap) (locs : List Loc) (ls : Array Slot), va_P (dC, dI) vwCl (w_M cI cZ cS aM aMw mm) H → va_D A (w_M cI cZ cS aM aMw mm) → va_S A s.heap H locs → lv_has ls 3 [] → W p l e ({ frames := 0, cells := 0, slots := 0, locals := 0 } : Room) s m ([.ref aM, .int a1, .int a2] : List Value).toArray below meth c H locs 0 0 (MQ below (mk_QR (dC, dI) vwCl (tyz cI cZ cS) A (w_M cI cZ cS aM aMw mm) R) ([.ref aM, .int a1, .int a2] : List Value).toArray s 0 0 A) (F0 m 30 ls []) := by
  intro H locs ls hP hD hS hl
  obtain ⟨⟨hx, hb, hml, hown, hts⟩, hrt, hlk, hN⟩ := id E
  have hown : s.vm.findClass RX2 = some m.cls := hown
  unfold p_M_isPageOf_30 at h
  refine lv_iconst (v := 0) hx hb dX2_isPageOf_30 (by decide) ?_
  exact b_M_isPageOf_31 E hA hK R 0 h H locs ls hP hD hS (lv_sub hl [] rfl)
set_option maxHeartbeats 4000000 in
set_option maxRecDepth 100000 in
theorem c_M_isPageOf (l : Launch) (dC : Nat → ClassId) (dI : Nat → Nat → Nat) (cI cZ cS : ClassId) (aM aMw : Nat) (mm : Nat → Int32) (a1 : Int32) (a2 : Int32) : CtR l yX2_isPageOf wsX2_isPageOf ({ frames := 0, cells := 0, slots := 0, locals := 0 }) (dC, dI) vwCl (tyz cI cZ cS) [.ref aM, .int a1, .int a2] (w_M cI cZ cS aM aMw mm) (p_M_isPageOf mm a1 a2) := by
  intro R h
  refine mk_enter (Qc := (fun A => mk_QR (dC, dI) vwCl (tyz cI cZ cS) A (w_M cI cZ cS aM aMw mm) R)) (by decide) rfl (Nat.le_of_ble_eq_true rfl) ?_
  intro p e s m below meth c A E hA hK H locs ls hP hD hS hl
  obtain ⟨⟨hx, hb, hml, hown, hts⟩, hrt, hlk, hN⟩ := id E
  have hown : s.vm.findClass RX2 = some m.cls := hown
  have hl : lv_has ls 3 [(0, .ref aM), (1, .int a1), (2, .int a2)] := hl
  unfold p_M_isPageOf at h
  refine lv_iload_n hx hb dX2_isPageOf_0 rfl (lv_at hl 2 rfl) ?_
  refine lv_iconst (v := 1) hx hb dX2_isPageOf_1 (by decide) ?_
  refine lv_icmp_lt (tgt := 30) hx hb dX2_isPageOf_2 (by decide) (fun c_2 => ?_) (fun c_2 => ?_)
  · replace h := (kp_if h).1 c_2
    exact b_M_isPageOf_30 E hA hK R h H locs ls hP hD hS (lv_sub hl [] rfl)
  · replace h := (kp_if h).2 c_2
    refine lv_iload_n hx hb dX2_isPageOf_5 rfl (lv_at hl 2 rfl) ?_
    refine lv_bipush (v := 16) hx hb dX2_isPageOf_6 (by decide) ?_
    refine lv_icmp_ge (tgt := 30) hx hb dX2_isPageOf_8 (by decide) (fun c_3 => ?_) (fun c_3 => ?_)
    · replace h := (kp_if h).1 c_3
      exact b_M_isPageOf_30 E hA hK R h H locs ls hP hD hS (lv_sub hl [] rfl)
    · replace h := (kp_if h).2 c_3
      refine lv_aload_n hx hb dX2_isPageOf_11 rfl (lv_at hl 0 rfl) ?_
      refine va_get (D := (dC, dI)) (ci := 2) (v := .ref aMw) (C := RX2) (T := TX2) (N := 1) hx hb hts iw_M_isPageOf_Memory hown hK hP 0 rfl rfl 0 (by decide) (hts _ mm_M_isPageOf_0) (fun _ h9 => h9) rfl dX2_isPageOf_12 ?_
      refine lv_iload_n hx hb dX2_isPageOf_15 rfl (lv_at hl 2 rfl) ?_
      refine lv_bipush (v := 16) hx hb dX2_isPageOf_16 (by decide) ?_
      refine lv_imul hx hb dX2_isPageOf_18 ?_
      obtain ⟨hc_4, h⟩ := kp_in h
      refine va_iald hx hb hK hP 1 0 rfl rfl (kx_of hc_4) dX2_isPageOf_19 ?_
      refine lv_iload_n hx hb dX2_isPageOf_20 rfl (lv_at hl 1 rfl) ?_
      refine lv_iconst (v := 1) hx hb dX2_isPageOf_21 (by decide) ?_
      refine lv_iadd hx hb dX2_isPageOf_22 ?_
      refine lv_icmp_ne (tgt := 30) hx hb dX2_isPageOf_23 (by decide) (fun c_5 => ?_) (fun c_5 => ?_)
      · replace h := (kp_if h).2 c_5
        exact b_M_isPageOf_30 E hA hK R h H locs ls hP hD hS (lv_sub hl [] rfl)
      · replace h := (kp_if h).1 c_5
        refine lv_iconst (v := 1) hx hb dX2_isPageOf_26 (by decide) ?_
        refine lv_goto (tgt := 31) hx hb dX2_isPageOf_27 (by decide) ?_
        exact b_M_isPageOf_31 E hA hK R 1 h H locs ls hP hD hS (lv_sub hl [] rfl)

/- Memory.hasRow(II)Z -/
set_option maxRecDepth 20000 in
theorem mm_M_hasRow_0 : Cond.fieldLink RX2 9 "JournaledTables$Memory" "words" "[I" ∈ wsX2_hasRow := by decide +kernel
set_option maxRecDepth 20000 in
theorem iw_M_hasRow_Memory : ∀ w ∈ u_ws RX2 TX2 1, w ∈ wsX2_hasRow := by decide +kernel
set_option maxHeartbeats 4000000 in
set_option maxRecDepth 100000 in
theorem b_M_hasRow_24 {p : Program} {l : Launch} {e : Env} {s : State} {m : MethodId} {below : List Frame} {meth : Method} {c : Code} {A : Nat → Prop} {dC : Nat → ClassId} {dI : Nat → Nat → Nat} {cI cZ cS : ClassId} {aM aMw : Nat} {mm : Nat → Int32} {a1 : Int32} {a2 : Int32} (E : mk_En p s m meth c cX2_hasRow 3 (some .boolean) ([.ref aM, .int a1, .int a2] : List Value).toArray wsX2_hasRow yX2_hasRow.cls) (hA : ∀ q : Nat, s.heap.size ≤ q → A q) (hK : va_K (dC, dI) vwCl (tyz cI cZ cS) s) (R : Int32) (z0 : Int32) (h : p_M_hasRow_24 mm z0 = some R) : ∀ (H : Heap) (locs : List Loc) (ls : Array Slot), va_P (dC, dI) vwCl (w_M cI cZ cS aM aMw mm) H → va_D A (w_M cI cZ cS aM aMw mm) → va_S A s.heap H locs → lv_has ls 3 [] → W p l e ({ frames := 0, cells := 0, slots := 0, locals := 0 } : Room) s m ([.ref aM, .int a1, .int a2] : List Value).toArray below meth c H locs 0 0 (MQ below (mk_QR (dC, dI) vwCl (tyz cI cZ cS) A (w_M cI cZ cS aM aMw mm) R) ([.ref aM, .int a1, .int a2] : List Value).toArray s 0 0 A) (F0 m 24 ls [.int z0]) := by
  intro H locs ls hP hD hS hl
  obtain ⟨⟨hx, hb, hml, hown, hts⟩, hrt, hlk, hN⟩ := id E
  have hown : s.vm.findClass RX2 = some m.cls := hown
  unfold p_M_hasRow_24 at h
  obtain ⟨hc_1, h⟩ := kp_in h
  cases h
  exact mk_zretR E hc_1 hK hP hD hS dX2_hasRow_24
set_option maxHeartbeats 4000000 in
set_option maxRecDepth 100000 in
theorem c_M_hasRow (l : Launch) (dC : Nat → ClassId) (dI : Nat → Nat → Nat) (cI cZ cS : ClassId) (aM aMw : Nat) (mm : Nat → Int32) (a1 : Int32) (a2 : Int32) : CtR l yX2_hasRow wsX2_hasRow ({ frames := 0, cells := 0, slots := 0, locals := 0 }) (dC, dI) vwCl (tyz cI cZ cS) [.ref aM, .int a1, .int a2] (w_M cI cZ cS aM aMw mm) (p_M_hasRow mm a1 a2) := by
  intro R h
  refine mk_enter (Qc := (fun A => mk_QR (dC, dI) vwCl (tyz cI cZ cS) A (w_M cI cZ cS aM aMw mm) R)) (by decide) rfl (Nat.le_of_ble_eq_true rfl) ?_
  intro p e s m below meth c A E hA hK H locs ls hP hD hS hl
  obtain ⟨⟨hx, hb, hml, hown, hts⟩, hrt, hlk, hN⟩ := id E
  have hown : s.vm.findClass RX2 = some m.cls := hown
  have hl : lv_has ls 3 [(0, .ref aM), (1, .int a1), (2, .int a2)] := hl
  unfold p_M_hasRow at h
  refine lv_aload_n hx hb dX2_hasRow_0 rfl (lv_at hl 0 rfl) ?_
  refine va_get (D := (dC, dI)) (ci := 2) (v := .ref aMw) (C := RX2) (T := TX2) (N := 1) hx hb hts iw_M_hasRow_Memory hown hK hP 0 rfl rfl 0 (by decide) (hts _ mm_M_hasRow_0) (fun _ h9 => h9) rfl dX2_hasRow_1 ?_
  refine lv_iload_n hx hb dX2_hasRow_4 rfl (lv_at hl 1 rfl) ?_
  refine lv_bipush (v := 16) hx hb dX2_hasRow_5 (by decide) ?_
  refine lv_imul hx hb dX2_hasRow_7 ?_
  refine lv_iconst (v := 2) hx hb dX2_hasRow_8 (by decide) ?_
  refine lv_iadd hx hb dX2_hasRow_9 ?_
  obtain ⟨hc_2, h⟩ := kp_in h
  refine va_iald hx hb hK hP 1 0 rfl rfl (kx_of hc_2) dX2_hasRow_10 ?_
  refine lv_iload_n hx hb dX2_hasRow_11 rfl (lv_at hl 2 rfl) ?_
  refine lv_ishr hx hb dX2_hasRow_12 ?_
  refine lv_iconst (v := 1) hx hb dX2_hasRow_13 (by decide) ?_
  refine lv_iand hx hb dX2_hasRow_14 ?_
  refine lv_iconst (v := 1) hx hb dX2_hasRow_15 (by decide) ?_
  refine lv_icmp_ne (tgt := 23) hx hb dX2_hasRow_16 (by decide) (fun c_3 => ?_) (fun c_3 => ?_)
  · replace h := (kp_if h).2 c_3
    refine lv_iconst (v := 0) hx hb dX2_hasRow_23 (by decide) ?_
    exact b_M_hasRow_24 E hA hK R 0 h H locs ls hP hD hS (lv_sub hl [] rfl)
  · replace h := (kp_if h).1 c_3
    refine lv_iconst (v := 1) hx hb dX2_hasRow_19 (by decide) ?_
    refine lv_goto (tgt := 24) hx hb dX2_hasRow_20 (by decide) ?_
    exact b_M_hasRow_24 E hA hK R 1 h H locs ls hP hD hS (lv_sub hl [] rfl)

/- Memory.rowAt(III)I -/
set_option maxHeartbeats 4000000 in
set_option maxRecDepth 100000 in
theorem c_M_rowAt (l : Launch) (dC : Nat → ClassId) (dI : Nat → Nat → Nat) (cI cZ cS : ClassId) (aM aMw : Nat) (mm : Nat → Int32) (a1 : Int32) (a2 : Int32) (a3 : Int32) : CtR l yX2_rowAt wsX2_rowAt ({ frames := 2, cells := 0, slots := 0, locals := 42 }) (dC, dI) vwCl (tyz cI cZ cS) [.ref aM, .int a1, .int a2, .int a3] (w_M cI cZ cS aM aMw mm) (p_M_rowAt mm a1 a2 a3) := by
  intro R h
  refine mk_enter (Qc := (fun A => mk_QR (dC, dI) vwCl (tyz cI cZ cS) A (w_M cI cZ cS aM aMw mm) R)) (by decide) rfl (Nat.le_of_ble_eq_true rfl) ?_
  intro p e s m below meth c A E hA hK H locs ls hP hD hS hl
  obtain ⟨⟨hx, hb, hml, hown, hts⟩, hrt, hlk, hN⟩ := id E
  have hown : s.vm.findClass RX2 = some m.cls := hown
  have hl : lv_has ls 4 [(0, .ref aM), (1, .int a1), (2, .int a2), (3, .int a3)] := hl
  unfold p_M_rowAt at h
  refine lv_iload_n hx hb dX2_rowAt_0 rfl (lv_at hl 2 rfl) ?_
  refine lv_bipush (v := 16) hx hb dX2_rowAt_1 (by decide) ?_
  refine lv_imul hx hb dX2_rowAt_3 ?_
  refine lv_iconst (v := 3) hx hb dX2_rowAt_4 (by decide) ?_
  refine lv_iadd hx hb dX2_rowAt_5 ?_
  refine lv_iload_n hx hb dX2_rowAt_6 rfl (lv_at hl 3 rfl) ?_
  refine lv_aload_n hx hb dX2_rowAt_7 rfl (lv_at hl 0 rfl) ?_
  refine lv_iload_n hx hb dX2_rowAt_8 rfl (lv_at hl 1 rfl) ?_
  obtain ⟨r_1, hr_1, h⟩ := kp_bind h
  refine mk_contR (w := w_M cI cZ cS aM aMw mm) (w0 := w_M cI cZ cS aM aMw mm) (wr := []) hP hD hS hA [0, 1] [] rfl rfl (by decide) (by decide) [0, 1] rfl (by decide) (va_runV (As := [.int a1]) (rest := [.int a3, .int ((a2 * 16) + 3)]) ⟨hx, hb, hml, hown, hts⟩ (c_M_width l dC dI cI cZ cS aM aMw mm a1 r_1 hr_1 H.size) (cwV 1 hts gX2_rowAt_X2_width rfl rfl rfl (by decide +kernel) ⟨Nat.le_of_ble_eq_true rfl, Nat.le_of_ble_eq_true rfl⟩) (mk_preV (w0 := w_M cI cZ cS aM aMw mm) (ci := 2) (q0 := 0) hN hK (mk_pick hP [0, 1] rfl) (hD.sub [0, 1] (by decide) rfl) rfl rfl rfl) rfl rfl hl.1 rfl (lv_room (Nat.le_of_ble_eq_true rfl)) dX2_rowAt_9 ⟨Nat.zero_le _, Nat.zero_le _⟩) (fun H locs hP hD hS => ?_)
  refine lv_imul hx hb dX2_rowAt_12 ?_
  refine lv_iadd hx hb dX2_rowAt_13 ?_
  cases h
  exact mk_iretR E hK hP hD hS dX2_rowAt_14

/- Memory.slots(I)I -/
set_option maxHeartbeats 4000000 in
set_option maxRecDepth 100000 in
theorem b_M_slots_18 {p : Program} {l : Launch} {e : Env} {s : State} {m : MethodId} {below : List Frame} {meth : Method} {c : Code} {A : Nat → Prop} {dC : Nat → ClassId} {dI : Nat → Nat → Nat} {cI cZ cS : ClassId} {aM aMw : Nat} {mm : Nat → Int32} {a1 : Int32} (E : mk_En p s m meth c cX2_slots 3 (some .int) ([.ref aM, .int a1] : List Value).toArray wsX2_slots yX2_slots.cls) (hA : ∀ q : Nat, s.heap.size ≤ q → A q) (hK : va_K (dC, dI) vwCl (tyz cI cZ cS) s) (R : Int32) (z0 : Int32) (h : p_M_slots_18 mm z0 = some R) : ∀ (H : Heap) (locs : List Loc) (ls : Array Slot), va_P (dC, dI) vwCl (w_M cI cZ cS aM aMw mm) H → va_D A (w_M cI cZ cS aM aMw mm) → va_S A s.heap H locs → lv_has ls 3 [] → W p l e ({ frames := 2, cells := 0, slots := 0, locals := 42 } : Room) s m ([.ref aM, .int a1] : List Value).toArray below meth c H locs 0 0 (MQ below (mk_QR (dC, dI) vwCl (tyz cI cZ cS) A (w_M cI cZ cS aM aMw mm) R) ([.ref aM, .int a1] : List Value).toArray s 0 0 A) (F0 m 18 ls [.int z0]) := by
  intro H locs ls hP hD hS hl
  obtain ⟨⟨hx, hb, hml, hown, hts⟩, hrt, hlk, hN⟩ := id E
  have hown : s.vm.findClass RX2 = some m.cls := hown
  unfold p_M_slots_18 at h
  cases h
  exact mk_iretR E hK hP hD hS dX2_slots_18
set_option maxHeartbeats 4000000 in
set_option maxRecDepth 100000 in
theorem c_M_slots (l : Launch) (dC : Nat → ClassId) (dI : Nat → Nat → Nat) (cI cZ cS : ClassId) (aM aMw : Nat) (mm : Nat → Int32) (a1 : Int32) : CtR l yX2_slots wsX2_slots ({ frames := 2, cells := 0, slots := 0, locals := 42 }) (dC, dI) vwCl (tyz cI cZ cS) [.ref aM, .int a1] (w_M cI cZ cS aM aMw mm) (p_M_slots mm a1) := by
  intro R h
  refine mk_enter (Qc := (fun A => mk_QR (dC, dI) vwCl (tyz cI cZ cS) A (w_M cI cZ cS aM aMw mm) R)) (by decide) rfl (Nat.le_of_ble_eq_true rfl) ?_
  intro p e s m below meth c A E hA hK H locs ls hP hD hS hl
  obtain ⟨⟨hx, hb, hml, hown, hts⟩, hrt, hlk, hN⟩ := id E
  have hown : s.vm.findClass RX2 = some m.cls := hown
  have hl : lv_has ls 3 [(0, .ref aM), (1, .int a1)] := hl
  unfold p_M_slots at h
  refine lv_aload_n hx hb dX2_slots_0 rfl (lv_at hl 0 rfl) ?_
  refine lv_iload_n hx hb dX2_slots_1 rfl (lv_at hl 1 rfl) ?_
  obtain ⟨r_1, hr_1, h⟩ := kp_bind h
  refine mk_contR (w := w_M cI cZ cS aM aMw mm) (w0 := w_M cI cZ cS aM aMw mm) (wr := []) hP hD hS hA [0, 1] [] rfl rfl (by decide) (by decide) [0, 1] rfl (by decide) (va_runV (As := [.int a1]) (rest := []) ⟨hx, hb, hml, hown, hts⟩ (c_M_width l dC dI cI cZ cS aM aMw mm a1 r_1 hr_1 H.size) (cwV 1 hts gX2_slots_X2_width rfl rfl rfl (by decide +kernel) ⟨Nat.le_of_ble_eq_true rfl, Nat.le_of_ble_eq_true rfl⟩) (mk_preV (w0 := w_M cI cZ cS aM aMw mm) (ci := 2) (q0 := 0) hN hK (mk_pick hP [0, 1] rfl) (hD.sub [0, 1] (by decide) rfl) rfl rfl rfl) rfl rfl hl.1 rfl (lv_room (Nat.le_of_ble_eq_true rfl)) dX2_slots_2 ⟨Nat.zero_le _, Nat.zero_le _⟩) (fun H locs hP hD hS => ?_)
  refine lv_istore_n (lv' := [(2, .int r_1), (0, .ref aM), (1, .int a1)]) hx hb dX2_slots_5 rfl hl (by decide) rfl (fun ls hl => ?_)
  refine lv_iload_n hx hb dX2_slots_6 rfl (lv_at hl 0 rfl) ?_
  refine lv_if_ne (tgt := 14) hx hb dX2_slots_7 (by decide) (fun c_2 => ?_) (fun c_2 => ?_)
  · replace h := (kp_if h).2 c_2
    refine lv_bipush (v := 13) hx hb dX2_slots_14 (by decide) ?_
    refine lv_iload_n hx hb dX2_slots_16 rfl (lv_at hl 0 rfl) ?_
    obtain ⟨hc_3, h⟩ := kp_in h
    refine lv_idiv hx hb dX2_slots_17 hc_3 ?_
    exact b_M_slots_18 E hA hK R (13 / r_1) h H locs ls hP hD hS (lv_sub hl [] rfl)
  · replace h := (kp_if h).1 c_2
    refine lv_iconst (v := 0) hx hb dX2_slots_10 (by decide) ?_
    refine lv_goto (tgt := 18) hx hb dX2_slots_11 (by decide) ?_
    exact b_M_slots_18 E hA hK R 0 h H locs ls hP hD hS (lv_sub hl [] rfl)

/- Memory.clear(II)V -/
set_option maxRecDepth 20000 in
theorem mm_M_clear_0 : Cond.fieldLink RX2 9 "JournaledTables$Memory" "words" "[I" ∈ wsX2_clear := by decide +kernel
set_option maxRecDepth 20000 in
theorem iw_M_clear_Memory : ∀ w ∈ u_ws RX2 TX2 1, w ∈ wsX2_clear := by decide +kernel
set_option maxHeartbeats 4000000 in
set_option maxRecDepth 100000 in
theorem b_M_clear_2 {p : Program} {l : Launch} {e : Env} {s : State} {m : MethodId} {below : List Frame} {meth : Method} {c : Code} {A : Nat → Prop} {dC : Nat → ClassId} {dI : Nat → Nat → Nat} {cI cZ cS : ClassId} {aM aMw : Nat} {a1 : Int32} {a2 : Int32} (E : mk_En p s m meth c cX2_clear 4 none ([.ref aM, .int a1, .int a2] : List Value).toArray wsX2_clear yX2_clear.cls) (hA : ∀ q : Nat, s.heap.size ≤ q → A q) (hK : va_K (dC, dI) vwCl (tyz cI cZ cS) s) (R : (Nat → Int32)) {k_2 : Int32 → Int32 → Int32 → (Nat → Int32) → Option ((Nat → Int32))} (hk_2 : ∀ (x1 : Int32) (x2 : Int32) (x3 : Int32) (mm : Nat → Int32), k_2 x1 x2 x3 mm = some R → ∀ (H : Heap) (locs : List Loc) (ls : Array Slot), va_P (dC, dI) vwCl (w_M cI cZ cS aM aMw mm) H → va_D A (w_M cI cZ cS aM aMw mm) → va_S A s.heap H locs → lv_has ls 4 [(0, .ref aM), (1, .int x1), (2, .int x2), (3, .int x3)] → W p l e ({ frames := 0, cells := 0, slots := 0, locals := 0 } : Room) s m ([.ref aM, .int a1, .int a2] : List Value).toArray below meth c H locs 0 0 (MQ below (mk_QV (dC, dI) vwCl (tyz cI cZ cS) A (fun u : (Nat → Int32) => w_M cI cZ cS aM aMw u) R) ([.ref aM, .int a1, .int a2] : List Value).toArray s 0 0 A) (F0 m 2 ls [])) (x1 : Int32) (x2 : Int32) (x3 : Int32) (mm : Nat → Int32) (h : p_M_clear_2 k_2 x1 x2 x3 mm = some R) : ∀ (H : Heap) (locs : List Loc) (ls : Array Slot), va_P (dC, dI) vwCl (w_M cI cZ cS aM aMw mm) H → va_D A (w_M cI cZ cS aM aMw mm) → va_S A s.heap H locs → lv_has ls 4 [(0, .ref aM), (1, .int x1), (2, .int x2), (3, .int x3)] → W p l e ({ frames := 0, cells := 0, slots := 0, locals := 0 } : Room) s m ([.ref aM, .int a1, .int a2] : List Value).toArray below meth c H locs 0 0 (MQ below (mk_QV (dC, dI) vwCl (tyz cI cZ cS) A (fun u : (Nat → Int32) => w_M cI cZ cS aM aMw u) R) ([.ref aM, .int a1, .int a2] : List Value).toArray s 0 0 A) (F0 m 2 ls []) := by
  intro H locs ls hP hD hS hl
  obtain ⟨⟨hx, hb, hml, hown, hts⟩, hrt, hlk, hN⟩ := id E
  have hown : s.vm.findClass RX2 = some m.cls := hown
  unfold p_M_clear_2 at h
  refine lv_iload_n hx hb dX2_clear_2 rfl (lv_at hl 3 rfl) ?_
  refine lv_iload_n hx hb dX2_clear_3 rfl (lv_at hl 1 rfl) ?_
  refine lv_iload_n hx hb dX2_clear_4 rfl (lv_at hl 2 rfl) ?_
  refine lv_iadd hx hb dX2_clear_5 ?_
  refine lv_icmp_ge (tgt := 22) hx hb dX2_clear_6 (by decide) (fun c_1 => ?_) (fun c_1 => ?_)
  · replace h := (kp_if h).1 c_1
    cases h
    exact mk_vret E hK hP hD hS dX2_clear_22
  · replace h := (kp_if h).2 c_1
    refine lv_aload_n hx hb dX2_clear_9 rfl (lv_at hl 0 rfl) ?_
    refine va_get (D := (dC, dI)) (ci := 2) (v := .ref aMw) (C := RX2) (T := TX2) (N := 1) hx hb hts iw_M_clear_Memory hown hK hP 0 rfl rfl 0 (by decide) (hts _ mm_M_clear_0) (fun _ h9 => h9) rfl dX2_clear_10 ?_
    refine lv_iload_n hx hb dX2_clear_13 rfl (lv_at hl 3 rfl) ?_
    refine lv_iconst (v := 0) hx hb dX2_clear_14 (by decide) ?_
    obtain ⟨hc_2, h⟩ := kp_in h
    refine va_iast hx hb hK hP hD hS 1 0 rfl rfl (kx_of hc_2) dX2_clear_15 (fun H locs hP hD hS => ?_)
    have hP : va_P (dC, dI) vwCl (w_M cI cZ cS aM aMw (upd mm x3.toNatClampNeg 0)) H := hP
    have hD : va_D A (w_M cI cZ cS aM aMw (upd mm x3.toNatClampNeg 0)) := hD
    refine lv_iinc (v := x3 + 1) (lv' := [(3, .int (x3 + 1)), (0, .ref aM), (1, .int x1), (2, .int x2)]) hx hb dX2_clear_16 hl (k := 3) rfl rfl (by decide) rfl (fun ls hl => ?_)
    refine lv_goto (tgt := 2) hx hb dX2_clear_19 (by decide) ?_
    exact hk_2 x1 x2 (x3 + 1) (upd mm x3.toNatClampNeg 0) h H locs ls hP hD hS (lv_sub hl [1, 2, 3, 0] rfl)
set_option maxHeartbeats 4000000 in
set_option maxRecDepth 100000 in
theorem l_M_clear_2 {p : Program} {l : Launch} {e : Env} {s : State} {m : MethodId} {below : List Frame} {meth : Method} {c : Code} {A : Nat → Prop} {dC : Nat → ClassId} {dI : Nat → Nat → Nat} {cI cZ cS : ClassId} {aM aMw : Nat} {a1 : Int32} {a2 : Int32} (E : mk_En p s m meth c cX2_clear 4 none ([.ref aM, .int a1, .int a2] : List Value).toArray wsX2_clear yX2_clear.cls) (hA : ∀ q : Nat, s.heap.size ≤ q → A q) (hK : va_K (dC, dI) vwCl (tyz cI cZ cS) s) (R : (Nat → Int32)) : ∀ (n : Nat) (x1 : Int32) (x2 : Int32) (x3 : Int32) (mm : Nat → Int32), pl_M_clear_2 n x1 x2 x3 mm = some R → ∀ (H : Heap) (locs : List Loc) (ls : Array Slot), va_P (dC, dI) vwCl (w_M cI cZ cS aM aMw mm) H → va_D A (w_M cI cZ cS aM aMw mm) → va_S A s.heap H locs → lv_has ls 4 [(0, .ref aM), (1, .int x1), (2, .int x2), (3, .int x3)] → W p l e ({ frames := 0, cells := 0, slots := 0, locals := 0 } : Room) s m ([.ref aM, .int a1, .int a2] : List Value).toArray below meth c H locs 0 0 (MQ below (mk_QV (dC, dI) vwCl (tyz cI cZ cS) A (fun u : (Nat → Int32) => w_M cI cZ cS aM aMw u) R) ([.ref aM, .int a1, .int a2] : List Value).toArray s 0 0 A) (F0 m 2 ls []) := by
  intro n
  induction n with
  | zero =>
    intro x1 x2 x3 mm h
    cases h
  | succ n ih =>
    intro x1 x2 x3 mm h
    exact b_M_clear_2 E hA hK R ih x1 x2 x3 mm h
set_option maxHeartbeats 4000000 in
set_option maxRecDepth 100000 in
theorem c_M_clear (l : Launch) (dC : Nat → ClassId) (dI : Nat → Nat → Nat) (cI cZ cS : ClassId) (aM aMw : Nat) (mm : Nat → Int32) (a1 : Int32) (a2 : Int32) : CtV l yX2_clear wsX2_clear ({ frames := 0, cells := 0, slots := 0, locals := 0 }) (dC, dI) vwCl (tyz cI cZ cS) [.ref aM, .int a1, .int a2] (w_M cI cZ cS aM aMw mm) (fun u : (Nat → Int32) => w_M cI cZ cS aM aMw u) (p_M_clear mm a1 a2) := by
  intro R h
  refine mk_enter (Qc := (fun A => mk_QV (dC, dI) vwCl (tyz cI cZ cS) A (fun u : (Nat → Int32) => w_M cI cZ cS aM aMw u) R)) (by decide) rfl (Nat.le_of_ble_eq_true rfl) ?_
  intro p e s m below meth c A E hA hK H locs ls hP hD hS hl
  obtain ⟨⟨hx, hb, hml, hown, hts⟩, hrt, hlk, hN⟩ := id E
  have hown : s.vm.findClass RX2 = some m.cls := hown
  have hl : lv_has ls 4 [(0, .ref aM), (1, .int a1), (2, .int a2)] := hl
  unfold p_M_clear at h
  refine lv_iload_n hx hb dX2_clear_0 rfl (lv_at hl 1 rfl) ?_
  refine lv_istore_n (lv' := [(3, .int a1), (0, .ref aM), (1, .int a1), (2, .int a2)]) hx hb dX2_clear_1 rfl hl (by decide) rfl (fun ls hl => ?_)
  exact l_M_clear_2 E hA hK R 1000 a1 a2 a1 mm h H locs ls hP hD hS (lv_sub hl [1, 2, 3, 0] rfl)

/- Memory.removeTable(I)V -/
set_option maxRecDepth 20000 in
theorem mm_M_removeTable_0 : Cond.fieldLink RX2 9 "JournaledTables$Memory" "words" "[I" ∈ wsX2_removeTable := by decide +kernel
set_option maxRecDepth 20000 in
theorem iw_M_removeTable_Memory : ∀ w ∈ u_ws RX2 TX2 1, w ∈ wsX2_removeTable := by decide +kernel
set_option maxHeartbeats 4000000 in
set_option maxRecDepth 100000 in
theorem b_M_removeTable_27 {p : Program} {l : Launch} {e : Env} {s : State} {m : MethodId} {below : List Frame} {meth : Method} {c : Code} {A : Nat → Prop} {dC : Nat → ClassId} {dI : Nat → Nat → Nat} {cI cZ cS : ClassId} {aM aMw : Nat} {a1 : Int32} (E : mk_En p s m meth c cX2_removeTable 3 none ([.ref aM, .int a1] : List Value).toArray wsX2_removeTable yX2_removeTable.cls) (hA : ∀ q : Nat, s.heap.size ≤ q → A q) (hK : va_K (dC, dI) vwCl (tyz cI cZ cS) s) (R : (Nat → Int32)) {k_2 : Int32 → Int32 → (Nat → Int32) → Option ((Nat → Int32))} (hk_2 : ∀ (x1 : Int32) (x2 : Int32) (mm : Nat → Int32), k_2 x1 x2 mm = some R → ∀ (H : Heap) (locs : List Loc) (ls : Array Slot), va_P (dC, dI) vwCl (w_M cI cZ cS aM aMw mm) H → va_D A (w_M cI cZ cS aM aMw mm) → va_S A s.heap H locs → lv_has ls 3 [(0, .ref aM), (1, .int x1), (2, .int x2)] → W p l e ({ frames := 1, cells := 0, slots := 0, locals := 23 } : Room) s m ([.ref aM, .int a1] : List Value).toArray below meth c H locs 0 0 (MQ below (mk_QV (dC, dI) vwCl (tyz cI cZ cS) A (fun u : (Nat → Int32) => w_M cI cZ cS aM aMw u) R) ([.ref aM, .int a1] : List Value).toArray s 0 0 A) (F0 m 2 ls [])) (x1 : Int32) (x2 : Int32) (mm : Nat → Int32) (h : p_M_removeTable_27 k_2 x1 x2 mm = some R) : ∀ (H : Heap) (locs : List Loc) (ls : Array Slot), va_P (dC, dI) vwCl (w_M cI cZ cS aM aMw mm) H → va_D A (w_M cI cZ cS aM aMw mm) → va_S A s.heap H locs → lv_has ls 3 [(0, .ref aM), (1, .int x1), (2, .int x2)] → W p l e ({ frames := 1, cells := 0, slots := 0, locals := 23 } : Room) s m ([.ref aM, .int a1] : List Value).toArray below meth c H locs 0 0 (MQ below (mk_QV (dC, dI) vwCl (tyz cI cZ cS) A (fun u : (Nat → Int32) => w_M cI cZ cS aM aMw u) R) ([.ref aM, .int a1] : List Value).toArray s 0 0 A) (F0 m 27 ls []) := by
  intro H locs ls hP hD hS hl
  obtain ⟨⟨hx, hb, hml, hown, hts⟩, hrt, hlk, hN⟩ := id E
  have hown : s.vm.findClass RX2 = some m.cls := hown
  unfold p_M_removeTable_27 at h
  refine lv_iinc (v := x2 + 1) (lv' := [(2, .int (x2 + 1)), (0, .ref aM), (1, .int x1)]) hx hb dX2_removeTable_27 hl (k := 2) rfl rfl (by decide) rfl (fun ls hl => ?_)
  refine lv_goto (tgt := 2) hx hb dX2_removeTable_30 (by decide) ?_
  exact hk_2 x1 (x2 + 1) mm h H locs ls hP hD hS (lv_sub hl [1, 2, 0] rfl)
set_option maxHeartbeats 4000000 in
set_option maxRecDepth 100000 in
theorem b_M_removeTable_2 {p : Program} {l : Launch} {e : Env} {s : State} {m : MethodId} {below : List Frame} {meth : Method} {c : Code} {A : Nat → Prop} {dC : Nat → ClassId} {dI : Nat → Nat → Nat} {cI cZ cS : ClassId} {aM aMw : Nat} {a1 : Int32} (E : mk_En p s m meth c cX2_removeTable 3 none ([.ref aM, .int a1] : List Value).toArray wsX2_removeTable yX2_removeTable.cls) (hA : ∀ q : Nat, s.heap.size ≤ q → A q) (hK : va_K (dC, dI) vwCl (tyz cI cZ cS) s) (R : (Nat → Int32)) {k_2 : Int32 → Int32 → (Nat → Int32) → Option ((Nat → Int32))} (hk_2 : ∀ (x1 : Int32) (x2 : Int32) (mm : Nat → Int32), k_2 x1 x2 mm = some R → ∀ (H : Heap) (locs : List Loc) (ls : Array Slot), va_P (dC, dI) vwCl (w_M cI cZ cS aM aMw mm) H → va_D A (w_M cI cZ cS aM aMw mm) → va_S A s.heap H locs → lv_has ls 3 [(0, .ref aM), (1, .int x1), (2, .int x2)] → W p l e ({ frames := 1, cells := 0, slots := 0, locals := 23 } : Room) s m ([.ref aM, .int a1] : List Value).toArray below meth c H locs 0 0 (MQ below (mk_QV (dC, dI) vwCl (tyz cI cZ cS) A (fun u : (Nat → Int32) => w_M cI cZ cS aM aMw u) R) ([.ref aM, .int a1] : List Value).toArray s 0 0 A) (F0 m 2 ls [])) (x1 : Int32) (x2 : Int32) (mm : Nat → Int32) (h : p_M_removeTable_2 k_2 x1 x2 mm = some R) : ∀ (H : Heap) (locs : List Loc) (ls : Array Slot), va_P (dC, dI) vwCl (w_M cI cZ cS aM aMw mm) H → va_D A (w_M cI cZ cS aM aMw mm) → va_S A s.heap H locs → lv_has ls 3 [(0, .ref aM), (1, .int x1), (2, .int x2)] → W p l e ({ frames := 1, cells := 0, slots := 0, locals := 23 } : Room) s m ([.ref aM, .int a1] : List Value).toArray below meth c H locs 0 0 (MQ below (mk_QV (dC, dI) vwCl (tyz cI cZ cS) A (fun u : (Nat → Int32) => w_M cI cZ cS aM aMw u) R) ([.ref aM, .int a1] : List Value).toArray s 0 0 A) (F0 m 2 ls []) := by
  intro H locs ls hP hD hS hl
  obtain ⟨⟨hx, hb, hml, hown, hts⟩, hrt, hlk, hN⟩ := id E
  have hown : s.vm.findClass RX2 = some m.cls := hown
  unfold p_M_removeTable_2 at h
  refine lv_iload_n hx hb dX2_removeTable_2 rfl (lv_at hl 2 rfl) ?_
  refine lv_bipush (v := 16) hx hb dX2_removeTable_3 (by decide) ?_
  refine lv_icmp_ge (tgt := 33) hx hb dX2_removeTable_5 (by decide) (fun c_1 => ?_) (fun c_1 => ?_)
  · replace h := (kp_if h).1 c_1
    refine lv_aload_n hx hb dX2_removeTable_33 rfl (lv_at hl 0 rfl) ?_
    refine va_get (D := (dC, dI)) (ci := 2) (v := .ref aMw) (C := RX2) (T := TX2) (N := 1) hx hb hts iw_M_removeTable_Memory hown hK hP 0 rfl rfl 0 (by decide) (hts _ mm_M_removeTable_0) (fun _ h9 => h9) rfl dX2_removeTable_34 ?_
    refine lv_bipush (v := 8) hx hb dX2_removeTable_37 (by decide) ?_
    refine lv_iload_n hx hb dX2_removeTable_39 rfl (lv_at hl 1 rfl) ?_
    refine lv_iadd hx hb dX2_removeTable_40 ?_
    refine lv_iconst (v := 0) hx hb dX2_removeTable_41 (by decide) ?_
    obtain ⟨hc_2, h⟩ := kp_in h
    refine va_iast hx hb hK hP hD hS 1 0 rfl rfl (kx_of hc_2) dX2_removeTable_42 (fun H locs hP hD hS => ?_)
    have hP : va_P (dC, dI) vwCl (w_M cI cZ cS aM aMw (upd mm (8 + x1).toNatClampNeg 0)) H := hP
    have hD : va_D A (w_M cI cZ cS aM aMw (upd mm (8 + x1).toNatClampNeg 0)) := hD
    refine lv_aload_n hx hb dX2_removeTable_43 rfl (lv_at hl 0 rfl) ?_
    refine va_get (D := (dC, dI)) (ci := 2) (v := .ref aMw) (C := RX2) (T := TX2) (N := 1) hx hb hts iw_M_removeTable_Memory hown hK hP 0 rfl rfl 0 (by decide) (hts _ mm_M_removeTable_0) (fun _ h9 => h9) rfl dX2_removeTable_44 ?_
    refine lv_iload_n hx hb dX2_removeTable_47 rfl (lv_at hl 1 rfl) ?_
    refine lv_iconst (v := 0) hx hb dX2_removeTable_48 (by decide) ?_
    obtain ⟨hc_3, h⟩ := kp_in h
    refine va_iast hx hb hK hP hD hS 1 0 rfl rfl (kx_of hc_3) dX2_removeTable_49 (fun H locs hP hD hS => ?_)
    have hP : va_P (dC, dI) vwCl (w_M cI cZ cS aM aMw (upd (upd mm (8 + x1).toNatClampNeg 0) x1.toNatClampNeg 0)) H := hP
    have hD : va_D A (w_M cI cZ cS aM aMw (upd (upd mm (8 + x1).toNatClampNeg 0) x1.toNatClampNeg 0)) := hD
    cases h
    exact mk_vret E hK hP hD hS dX2_removeTable_50
  · replace h := (kp_if h).2 c_1
    refine lv_aload_n hx hb dX2_removeTable_8 rfl (lv_at hl 0 rfl) ?_
    refine lv_iload_n hx hb dX2_removeTable_9 rfl (lv_at hl 1 rfl) ?_
    refine lv_iload_n hx hb dX2_removeTable_10 rfl (lv_at hl 2 rfl) ?_
    obtain ⟨r_4, hr_4, h⟩ := kp_bind h
    refine mk_contR (w := w_M cI cZ cS aM aMw mm) (w0 := w_M cI cZ cS aM aMw mm) (wr := []) hP hD hS hA [0, 1] [] rfl rfl (by decide) (by decide) [0, 1] rfl (by decide) (va_runV (As := [.int x1, .int x2]) (rest := []) ⟨hx, hb, hml, hown, hts⟩ (c_M_isPageOf l dC dI cI cZ cS aM aMw mm x1 x2 r_4 hr_4 H.size) (cwV 2 hts gX2_removeTable_X2_isPageOf rfl rfl rfl (by decide +kernel) ⟨Nat.le_of_ble_eq_true rfl, Nat.le_of_ble_eq_true rfl⟩) (mk_preV (w0 := w_M cI cZ cS aM aMw mm) (ci := 2) (q0 := 0) hN hK (mk_pick hP [0, 1] rfl) (hD.sub [0, 1] (by decide) rfl) rfl rfl rfl) rfl rfl hl.1 rfl (lv_room (Nat.le_of_ble_eq_true rfl)) dX2_removeTable_11 ⟨Nat.zero_le _, Nat.zero_le _⟩) (fun H locs hP hD hS => ?_)
    refine lv_if_eq (tgt := 27) hx hb dX2_removeTable_14 (by decide) (fun c_5 => ?_) (fun c_5 => ?_)
    · replace h := (kp_if h).1 c_5
      exact b_M_removeTable_27 E hA hK R hk_2 x1 x2 mm h H locs ls hP hD hS (lv_sub hl [0, 1, 2] rfl)
    · replace h := (kp_if h).2 c_5
      refine lv_aload_n hx hb dX2_removeTable_17 rfl (lv_at hl 0 rfl) ?_
      refine lv_iload_n hx hb dX2_removeTable_18 rfl (lv_at hl 2 rfl) ?_
      refine lv_bipush (v := 16) hx hb dX2_removeTable_19 (by decide) ?_
      refine lv_imul hx hb dX2_removeTable_21 ?_
      refine lv_bipush (v := 16) hx hb dX2_removeTable_22 (by decide) ?_
      obtain ⟨r_6, hr_6, h⟩ := kp_bind h
      refine mk_contV (w := w_M cI cZ cS aM aMw mm) (w0 := w_M cI cZ cS aM aMw mm) (wr := []) (w2 := w_M cI cZ cS aM aMw r_6) hP hD hS hA [0, 1] [] rfl rfl (by decide) (by decide) [0, 1] rfl (by decide) (va_runV (As := [.int (x2 * 16), .int 16]) (rest := []) ⟨hx, hb, hml, hown, hts⟩ (c_M_clear l dC dI cI cZ cS aM aMw mm (x2 * 16) 16 r_6 hr_6 H.size) (cwV 2 hts gX2_removeTable_X2_clear rfl rfl rfl (by decide +kernel) ⟨Nat.le_of_ble_eq_true rfl, Nat.le_of_ble_eq_true rfl⟩) (mk_preV (w0 := w_M cI cZ cS aM aMw mm) (ci := 2) (q0 := 0) hN hK (mk_pick hP [0, 1] rfl) (hD.sub [0, 1] (by decide) rfl) rfl rfl rfl) rfl rfl hl.1 rfl (lv_room (Nat.le_of_ble_eq_true rfl)) dX2_removeTable_24 ⟨Nat.zero_le _, Nat.zero_le _⟩) (fun H locs hP hD hS => ?_)
      exact b_M_removeTable_27 E hA hK R hk_2 x1 x2 r_6 h H locs ls hP hD hS (lv_sub hl [0, 1, 2] rfl)
set_option maxHeartbeats 4000000 in
set_option maxRecDepth 100000 in
theorem l_M_removeTable_2 {p : Program} {l : Launch} {e : Env} {s : State} {m : MethodId} {below : List Frame} {meth : Method} {c : Code} {A : Nat → Prop} {dC : Nat → ClassId} {dI : Nat → Nat → Nat} {cI cZ cS : ClassId} {aM aMw : Nat} {a1 : Int32} (E : mk_En p s m meth c cX2_removeTable 3 none ([.ref aM, .int a1] : List Value).toArray wsX2_removeTable yX2_removeTable.cls) (hA : ∀ q : Nat, s.heap.size ≤ q → A q) (hK : va_K (dC, dI) vwCl (tyz cI cZ cS) s) (R : (Nat → Int32)) : ∀ (n : Nat) (x1 : Int32) (x2 : Int32) (mm : Nat → Int32), pl_M_removeTable_2 n x1 x2 mm = some R → ∀ (H : Heap) (locs : List Loc) (ls : Array Slot), va_P (dC, dI) vwCl (w_M cI cZ cS aM aMw mm) H → va_D A (w_M cI cZ cS aM aMw mm) → va_S A s.heap H locs → lv_has ls 3 [(0, .ref aM), (1, .int x1), (2, .int x2)] → W p l e ({ frames := 1, cells := 0, slots := 0, locals := 23 } : Room) s m ([.ref aM, .int a1] : List Value).toArray below meth c H locs 0 0 (MQ below (mk_QV (dC, dI) vwCl (tyz cI cZ cS) A (fun u : (Nat → Int32) => w_M cI cZ cS aM aMw u) R) ([.ref aM, .int a1] : List Value).toArray s 0 0 A) (F0 m 2 ls []) := by
  intro n
  induction n with
  | zero =>
    intro x1 x2 mm h
    cases h
  | succ n ih =>
    intro x1 x2 mm h
    exact b_M_removeTable_2 E hA hK R ih x1 x2 mm h
set_option maxHeartbeats 4000000 in
set_option maxRecDepth 100000 in
theorem c_M_removeTable (l : Launch) (dC : Nat → ClassId) (dI : Nat → Nat → Nat) (cI cZ cS : ClassId) (aM aMw : Nat) (mm : Nat → Int32) (a1 : Int32) : CtV l yX2_removeTable wsX2_removeTable ({ frames := 1, cells := 0, slots := 0, locals := 23 }) (dC, dI) vwCl (tyz cI cZ cS) [.ref aM, .int a1] (w_M cI cZ cS aM aMw mm) (fun u : (Nat → Int32) => w_M cI cZ cS aM aMw u) (p_M_removeTable mm a1) := by
  intro R h
  refine mk_enter (Qc := (fun A => mk_QV (dC, dI) vwCl (tyz cI cZ cS) A (fun u : (Nat → Int32) => w_M cI cZ cS aM aMw u) R)) (by decide) rfl (Nat.le_of_ble_eq_true rfl) ?_
  intro p e s m below meth c A E hA hK H locs ls hP hD hS hl
  obtain ⟨⟨hx, hb, hml, hown, hts⟩, hrt, hlk, hN⟩ := id E
  have hown : s.vm.findClass RX2 = some m.cls := hown
  have hl : lv_has ls 3 [(0, .ref aM), (1, .int a1)] := hl
  unfold p_M_removeTable at h
  refine lv_iconst (v := 1) hx hb dX2_removeTable_0 (by decide) ?_
  refine lv_istore_n (lv' := [(2, .int 1), (0, .ref aM), (1, .int a1)]) hx hb dX2_removeTable_1 rfl hl (by decide) rfl (fun ls hl => ?_)
  exact l_M_removeTable_2 E hA hK R 1000 a1 1 mm h H locs ls hP hD hS (lv_sub hl [1, 2, 0] rfl)

/- Memory.leastRow(IIIIJ)I -/
set_option maxRecDepth 20000 in
theorem mm_M_leastRow_0 : Cond.fieldLink RX2 9 "JournaledTables$Memory" "words" "[I" ∈ wsX2_leastRow := by decide +kernel
set_option maxRecDepth 20000 in
theorem iw_M_leastRow_Memory : ∀ w ∈ u_ws RX2 TX2 1, w ∈ wsX2_leastRow := by decide +kernel
set_option maxHeartbeats 4000000 in
set_option maxRecDepth 100000 in
theorem b_M_leastRow_150 {p : Program} {l : Launch} {e : Env} {s : State} {m : MethodId} {below : List Frame} {meth : Method} {c : Code} {A : Nat → Prop} {dC : Nat → ClassId} {dI : Nat → Nat → Nat} {cI cZ cS : ClassId} {aM aMw : Nat} {mm : Nat → Int32} {a1 : Int32} {a2 : Int32} {a3 : Int32} {a4 : Int32} {a5 : Int64} (E : mk_En p s m meth c cX2_leastRow 14 (some .int) ([.ref aM, .int a1, .int a2, .int a3, .int a4, .long a5] : List Value).toArray wsX2_leastRow yX2_leastRow.cls) (hA : ∀ q : Nat, s.heap.size ≤ q → A q) (hK : va_K (dC, dI) vwCl (tyz cI cZ cS) s) (R : Int32) {k_13 : Int32 → Int32 → Int32 → Int32 → Int64 → Int32 → Int32 → Int32 → Option Int32} (hk_13 : ∀ (x1 : Int32) (x2 : Int32) (x3 : Int32) (x4 : Int32) (x5 : Int64) (x7 : Int32) (x8 : Int32) (x9 : Int32), k_13 x1 x2 x3 x4 x5 x7 x8 x9 = some R → ∀ (H : Heap) (locs : List Loc) (ls : Array Slot), va_P (dC, dI) vwCl (w_M cI cZ cS aM aMw mm) H → va_D A (w_M cI cZ cS aM aMw mm) → va_S A s.heap H locs → lv_has ls 14 [(0, .ref aM), (1, .int x1), (2, .int x2), (3, .int x3), (4, .int x4), (5, .long x5), (7, .int x7), (8, .int x8), (9, .int x9)] → W p l e ({ frames := 3, cells := 0, slots := 0, locals := 65 } : Room) s m ([.ref aM, .int a1, .int a2, .int a3, .int a4, .long a5] : List Value).toArray below meth c H locs 0 0 (MQ below (mk_QR (dC, dI) vwCl (tyz cI cZ cS) A (w_M cI cZ cS aM aMw mm) R) ([.ref aM, .int a1, .int a2, .int a3, .int a4, .long a5] : List Value).toArray s 0 0 A) (F0 m 13 ls [])) {k_41 : Int32 → Int32 → Int32 → Int32 → Int64 → Int32 → Int32 → Int32 → Int32 → Int32 → Option Int32} (hk_41 : ∀ (x1 : Int32) (x2 : Int32) (x3 : Int32) (x4 : Int32) (x5 : Int64) (x7 : Int32) (x8 : Int32) (x9 : Int32) (x10 : Int32) (x11 : Int32), k_41 x1 x2 x3 x4 x5 x7 x8 x9 x10 x11 = some R → ∀ (H : Heap) (locs : List Loc) (ls : Array Slot), va_P (dC, dI) vwCl (w_M cI cZ cS aM aMw mm) H → va_D A (w_M cI cZ cS aM aMw mm) → va_S A s.heap H locs → lv_has ls 14 [(0, .ref aM), (1, .int x1), (2, .int x2), (3, .int x3), (4, .int x4), (5, .long x5), (7, .int x7), (8, .int x8), (9, .int x9), (10, .int x10), (11, .int x11)] → W p l e ({ frames := 3, cells := 0, slots := 0, locals := 65 } : Room) s m ([.ref aM, .int a1, .int a2, .int a3, .int a4, .long a5] : List Value).toArray below meth c H locs 0 0 (MQ below (mk_QR (dC, dI) vwCl (tyz cI cZ cS) A (w_M cI cZ cS aM aMw mm) R) ([.ref aM, .int a1, .int a2, .int a3, .int a4, .long a5] : List Value).toArray s 0 0 A) (F0 m 41 ls [])) (x1 : Int32) (x2 : Int32) (x3 : Int32) (x4 : Int32) (x5 : Int64) (x7 : Int32) (x8 : Int32) (x9 : Int32) (x10 : Int32) (x11 : Int32) (h : p_M_leastRow_150 mm k_13 k_41 x1 x2 x3 x4 x5 x7 x8 x9 x10 x11 = some R) : ∀ (H : Heap) (locs : List Loc) (ls : Array Slot), va_P (dC, dI) vwCl (w_M cI cZ cS aM aMw mm) H → va_D A (w_M cI cZ cS aM aMw mm) → va_S A s.heap H locs → lv_has ls 14 [(0, .ref aM), (1, .int x1), (2, .int x2), (3, .int x3), (4, .int x4), (5, .long x5), (7, .int x7), (8, .int x8), (9, .int x9), (10, .int x10), (11, .int x11)] → W p l e ({ frames := 3, cells := 0, slots := 0, locals := 65 } : Room) s m ([.ref aM, .int a1, .int a2, .int a3, .int a4, .long a5] : List Value).toArray below meth c H locs 0 0 (MQ below (mk_QR (dC, dI) vwCl (tyz cI cZ cS) A (w_M cI cZ cS aM aMw mm) R) ([.ref aM, .int a1, .int a2, .int a3, .int a4, .long a5] : List Value).toArray s 0 0 A) (F0 m 150 ls []) := by
  intro H locs ls hP hD hS hl
  obtain ⟨⟨hx, hb, hml, hown, hts⟩, hrt, hlk, hN⟩ := id E
  have hown : s.vm.findClass RX2 = some m.cls := hown
  unfold p_M_leastRow_150 at h
  refine lv_iinc (v := x11 + 1) (lv' := [(11, .int (x11 + 1)), (0, .ref aM), (1, .int x1), (2, .int x2), (3, .int x3), (4, .int x4), (5, .long x5), (7, .int x7), (8, .int x8), (9, .int x9), (10, .int x10)]) hx hb dX2_leastRow_150 hl (k := 10) rfl rfl (by decide) rfl (fun ls hl => ?_)
  refine lv_goto (tgt := 41) hx hb dX2_leastRow_153 (by decide) ?_
  exact hk_41 x1 x2 x3 x4 x5 x7 x8 x9 x10 (x11 + 1) h H locs ls hP hD hS (lv_sub hl [1, 2, 3, 4, 5, 6, 7, 8, 9, 10, 0] rfl)
set_option maxHeartbeats 4000000 in
set_option maxRecDepth 100000 in
theorem b_M_leastRow_146 {p : Program} {l : Launch} {e : Env} {s : State} {m : MethodId} {below : List Frame} {meth : Method} {c : Code} {A : Nat → Prop} {dC : Nat → ClassId} {dI : Nat → Nat → Nat} {cI cZ cS : ClassId} {aM aMw : Nat} {mm : Nat → Int32} {a1 : Int32} {a2 : Int32} {a3 : Int32} {a4 : Int32} {a5 : Int64} (E : mk_En p s m meth c cX2_leastRow 14 (some .int) ([.ref aM, .int a1, .int a2, .int a3, .int a4, .long a5] : List Value).toArray wsX2_leastRow yX2_leastRow.cls) (hA : ∀ q : Nat, s.heap.size ≤ q → A q) (hK : va_K (dC, dI) vwCl (tyz cI cZ cS) s) (R : Int32) {k_13 : Int32 → Int32 → Int32 → Int32 → Int64 → Int32 → Int32 → Int32 → Option Int32} (hk_13 : ∀ (x1 : Int32) (x2 : Int32) (x3 : Int32) (x4 : Int32) (x5 : Int64) (x7 : Int32) (x8 : Int32) (x9 : Int32), k_13 x1 x2 x3 x4 x5 x7 x8 x9 = some R → ∀ (H : Heap) (locs : List Loc) (ls : Array Slot), va_P (dC, dI) vwCl (w_M cI cZ cS aM aMw mm) H → va_D A (w_M cI cZ cS aM aMw mm) → va_S A s.heap H locs → lv_has ls 14 [(0, .ref aM), (1, .int x1), (2, .int x2), (3, .int x3), (4, .int x4), (5, .long x5), (7, .int x7), (8, .int x8), (9, .int x9)] → W p l e ({ frames := 3, cells := 0, slots := 0, locals := 65 } : Room) s m ([.ref aM, .int a1, .int a2, .int a3, .int a4, .long a5] : List Value).toArray below meth c H locs 0 0 (MQ below (mk_QR (dC, dI) vwCl (tyz cI cZ cS) A (w_M cI cZ cS aM aMw mm) R) ([.ref aM, .int a1, .int a2, .int a3, .int a4, .long a5] : List Value).toArray s 0 0 A) (F0 m 13 ls [])) {k_41 : Int32 → Int32 → Int32 → Int32 → Int64 → Int32 → Int32 → Int32 → Int32 → Int32 → Option Int32} (hk_41 : ∀ (x1 : Int32) (x2 : Int32) (x3 : Int32) (x4 : Int32) (x5 : Int64) (x7 : Int32) (x8 : Int32) (x9 : Int32) (x10 : Int32) (x11 : Int32), k_41 x1 x2 x3 x4 x5 x7 x8 x9 x10 x11 = some R → ∀ (H : Heap) (locs : List Loc) (ls : Array Slot), va_P (dC, dI) vwCl (w_M cI cZ cS aM aMw mm) H → va_D A (w_M cI cZ cS aM aMw mm) → va_S A s.heap H locs → lv_has ls 14 [(0, .ref aM), (1, .int x1), (2, .int x2), (3, .int x3), (4, .int x4), (5, .long x5), (7, .int x7), (8, .int x8), (9, .int x9), (10, .int x10), (11, .int x11)] → W p l e ({ frames := 3, cells := 0, slots := 0, locals := 65 } : Room) s m ([.ref aM, .int a1, .int a2, .int a3, .int a4, .long a5] : List Value).toArray below meth c H locs 0 0 (MQ below (mk_QR (dC, dI) vwCl (tyz cI cZ cS) A (w_M cI cZ cS aM aMw mm) R) ([.ref aM, .int a1, .int a2, .int a3, .int a4, .long a5] : List Value).toArray s 0 0 A) (F0 m 41 ls [])) (x1 : Int32) (x2 : Int32) (x3 : Int32) (x4 : Int32) (x5 : Int64) (x8 : Int32) (x9 : Int32) (x10 : Int32) (x11 : Int32) (x12 : Int32) (h : p_M_leastRow_146 mm k_13 k_41 x1 x2 x3 x4 x5 x8 x9 x10 x11 x12 = some R) : ∀ (H : Heap) (locs : List Loc) (ls : Array Slot), va_P (dC, dI) vwCl (w_M cI cZ cS aM aMw mm) H → va_D A (w_M cI cZ cS aM aMw mm) → va_S A s.heap H locs → lv_has ls 14 [(0, .ref aM), (1, .int x1), (2, .int x2), (3, .int x3), (4, .int x4), (5, .long x5), (8, .int x8), (9, .int x9), (10, .int x10), (11, .int x11), (12, .int x12)] → W p l e ({ frames := 3, cells := 0, slots := 0, locals := 65 } : Room) s m ([.ref aM, .int a1, .int a2, .int a3, .int a4, .long a5] : List Value).toArray below meth c H locs 0 0 (MQ below (mk_QR (dC, dI) vwCl (tyz cI cZ cS) A (w_M cI cZ cS aM aMw mm) R) ([.ref aM, .int a1, .int a2, .int a3, .int a4, .long a5] : List Value).toArray s 0 0 A) (F0 m 146 ls []) := by
  intro H locs ls hP hD hS hl
  obtain ⟨⟨hx, hb, hml, hown, hts⟩, hrt, hlk, hN⟩ := id E
  have hown : s.vm.findClass RX2 = some m.cls := hown
  unfold p_M_leastRow_146 at h
  refine lv_iload hx hb dX2_leastRow_146 (lv_at hl 10 rfl) ?_
  refine lv_istore (lv' := [(7, .int x12), (0, .ref aM), (1, .int x1), (2, .int x2), (3, .int x3), (4, .int x4), (5, .long x5), (8, .int x8), (9, .int x9), (10, .int x10), (11, .int x11), (12, .int x12)]) hx hb dX2_leastRow_148 hl (by decide) rfl (fun ls hl => ?_)
  exact b_M_leastRow_150 E hA hK R hk_13 hk_41 x1 x2 x3 x4 x5 x12 x8 x9 x10 x11 h H locs ls hP hD hS (lv_sub hl [1, 2, 3, 4, 5, 6, 0, 7, 8, 9, 10] rfl)
set_option maxHeartbeats 4000000 in
set_option maxRecDepth 100000 in
theorem b_M_leastRow_116 {p : Program} {l : Launch} {e : Env} {s : State} {m : MethodId} {below : List Frame} {meth : Method} {c : Code} {A : Nat → Prop} {dC : Nat → ClassId} {dI : Nat → Nat → Nat} {cI cZ cS : ClassId} {aM aMw : Nat} {mm : Nat → Int32} {a1 : Int32} {a2 : Int32} {a3 : Int32} {a4 : Int32} {a5 : Int64} (E : mk_En p s m meth c cX2_leastRow 14 (some .int) ([.ref aM, .int a1, .int a2, .int a3, .int a4, .long a5] : List Value).toArray wsX2_leastRow yX2_leastRow.cls) (hA : ∀ q : Nat, s.heap.size ≤ q → A q) (hK : va_K (dC, dI) vwCl (tyz cI cZ cS) s) (R : Int32) {k_13 : Int32 → Int32 → Int32 → Int32 → Int64 → Int32 → Int32 → Int32 → Option Int32} (hk_13 : ∀ (x1 : Int32) (x2 : Int32) (x3 : Int32) (x4 : Int32) (x5 : Int64) (x7 : Int32) (x8 : Int32) (x9 : Int32), k_13 x1 x2 x3 x4 x5 x7 x8 x9 = some R → ∀ (H : Heap) (locs : List Loc) (ls : Array Slot), va_P (dC, dI) vwCl (w_M cI cZ cS aM aMw mm) H → va_D A (w_M cI cZ cS aM aMw mm) → va_S A s.heap H locs → lv_has ls 14 [(0, .ref aM), (1, .int x1), (2, .int x2), (3, .int x3), (4, .int x4), (5, .long x5), (7, .int x7), (8, .int x8), (9, .int x9)] → W p l e ({ frames := 3, cells := 0, slots := 0, locals := 65 } : Room) s m ([.ref aM, .int a1, .int a2, .int a3, .int a4, .long a5] : List Value).toArray below meth c H locs 0 0 (MQ below (mk_QR (dC, dI) vwCl (tyz cI cZ cS) A (w_M cI cZ cS aM aMw mm) R) ([.ref aM, .int a1, .int a2, .int a3, .int a4, .long a5] : List Value).toArray s 0 0 A) (F0 m 13 ls [])) {k_41 : Int32 → Int32 → Int32 → Int32 → Int64 → Int32 → Int32 → Int32 → Int32 → Int32 → Option Int32} (hk_41 : ∀ (x1 : Int32) (x2 : Int32) (x3 : Int32) (x4 : Int32) (x5 : Int64) (x7 : Int32) (x8 : Int32) (x9 : Int32) (x10 : Int32) (x11 : Int32), k_41 x1 x2 x3 x4 x5 x7 x8 x9 x10 x11 = some R → ∀ (H : Heap) (locs : List Loc) (ls : Array Slot), va_P (dC, dI) vwCl (w_M cI cZ cS aM aMw mm) H → va_D A (w_M cI cZ cS aM aMw mm) → va_S A s.heap H locs → lv_has ls 14 [(0, .ref aM), (1, .int x1), (2, .int x2), (3, .int x3), (4, .int x4), (5, .long x5), (7, .int x7), (8, .int x8), (9, .int x9), (10, .int x10), (11, .int x11)] → W p l e ({ frames := 3, cells := 0, slots := 0, locals := 65 } : Room) s m ([.ref aM, .int a1, .int a2, .int a3, .int a4, .long a5] : List Value).toArray below meth c H locs 0 0 (MQ below (mk_QR (dC, dI) vwCl (tyz cI cZ cS) A (w_M cI cZ cS aM aMw mm) R) ([.ref aM, .int a1, .int a2, .int a3, .int a4, .long a5] : List Value).toArray s 0 0 A) (F0 m 41 ls [])) (x1 : Int32) (x2 : Int32) (x3 : Int32) (x4 : Int32) (x5 : Int64) (x7 : Int32) (x8 : Int32) (x9 : Int32) (x10 : Int32) (x11 : Int32) (x12 : Int32) (z0 : Int32) (h : p_M_leastRow_116 mm k_13 k_41 x1 x2 x3 x4 x5 x7 x8 x9 x10 x11 x12 z0 = some R) : ∀ (H : Heap) (locs : List Loc) (ls : Array Slot), va_P (dC, dI) vwCl (w_M cI cZ cS aM aMw mm) H → va_D A (w_M cI cZ cS aM aMw mm) → va_S A s.heap H locs → lv_has ls 14 [(0, .ref aM), (1, .int x1), (2, .int x2), (3, .int x3), (4, .int x4), (5, .long x5), (7, .int x7), (8, .int x8), (9, .int x9), (10, .int x10), (11, .int x11), (12, .int x12)] → W p l e ({ frames := 3, cells := 0, slots := 0, locals := 65 } : Room) s m ([.ref aM, .int a1, .int a2, .int a3, .int a4, .long a5] : List Value).toArray below meth c H locs 0 0 (MQ below (mk_QR (dC, dI) vwCl (tyz cI cZ cS) A (w_M cI cZ cS aM aMw mm) R) ([.ref aM, .int a1, .int a2, .int a3, .int a4, .long a5] : List Value).toArray s 0 0 A) (F0 m 116 ls [.int z0]) := by
  intro H locs ls hP hD hS hl
  obtain ⟨⟨hx, hb, hml, hown, hts⟩, hrt, hlk, hN⟩ := id E
  have hown : s.vm.findClass RX2 = some m.cls := hown
  unfold p_M_leastRow_116 at h
  refine lv_istore (lv' := [(13, .int z0), (0, .ref aM), (1, .int x1), (2, .int x2), (3, .int x3), (4, .int x4), (5, .long x5), (7, .int x7), (8, .int x8), (9, .int x9), (10, .int x10), (11, .int x11), (12, .int x12)]) hx hb dX2_leastRow_116 hl (by decide) rfl (fun ls hl => ?_)
  refine lv_iload hx hb dX2_leastRow_118 (lv_at hl 0 rfl) ?_
  refine lv_if_eq (tgt := 150) hx hb dX2_leastRow_120 (by decide) (fun c_1 => ?_) (fun c_1 => ?_)
  · replace h := (kp_if h).1 c_1
    exact b_M_leastRow_150 E hA hK R hk_13 hk_41 x1 x2 x3 x4 x5 x7 x8 x9 x10 x11 h H locs ls hP hD hS (lv_sub hl [1, 2, 3, 4, 5, 6, 7, 8, 9, 10, 11] rfl)
  · replace h := (kp_if h).2 c_1
    refine lv_iload hx hb dX2_leastRow_123 (lv_at hl 7 rfl) ?_
    refine lv_iconst (v := (-1)) hx hb dX2_leastRow_125 (by decide) ?_
    refine lv_icmp_eq (tgt := 146) hx hb dX2_leastRow_126 (by decide) (fun c_2 => ?_) (fun c_2 => ?_)
    · replace h := (kp_if h).1 c_2
      exact b_M_leastRow_146 E hA hK R hk_13 hk_41 x1 x2 x3 x4 x5 x8 x9 x10 x11 x12 h H locs ls hP hD hS (lv_sub hl [1, 2, 3, 4, 5, 6, 8, 9, 10, 11, 12] rfl)
    · replace h := (kp_if h).2 c_2
      refine lv_aload_n hx hb dX2_leastRow_129 rfl (lv_at hl 1 rfl) ?_
      refine va_get (D := (dC, dI)) (ci := 2) (v := .ref aMw) (C := RX2) (T := TX2) (N := 1) hx hb hts iw_M_leastRow_Memory hown hK hP 0 rfl rfl 0 (by decide) (hts _ mm_M_leastRow_0) (fun _ h9 => h9) rfl dX2_leastRow_130 ?_
      refine lv_iload hx hb dX2_leastRow_133 (lv_at hl 12 rfl) ?_
      obtain ⟨hc_3, h⟩ := kp_in h
      refine va_iald hx hb hK hP 1 0 rfl rfl (kx_of hc_3) dX2_leastRow_135 ?_
      refine lv_aload_n hx hb dX2_leastRow_136 rfl (lv_at hl 1 rfl) ?_
      refine va_get (D := (dC, dI)) (ci := 2) (v := .ref aMw) (C := RX2) (T := TX2) (N := 1) hx hb hts iw_M_leastRow_Memory hown hK hP 0 rfl rfl 0 (by decide) (hts _ mm_M_leastRow_0) (fun _ h9 => h9) rfl dX2_leastRow_137 ?_
      refine lv_iload hx hb dX2_leastRow_140 (lv_at hl 7 rfl) ?_
      obtain ⟨hc_4, h⟩ := kp_in h
      refine va_iald hx hb hK hP 1 0 rfl rfl (kx_of hc_4) dX2_leastRow_142 ?_
      refine lv_icmp_ge (tgt := 150) hx hb dX2_leastRow_143 (by decide) (fun c_5 => ?_) (fun c_5 => ?_)
      · replace h := (kp_if h).1 c_5
        exact b_M_leastRow_150 E hA hK R hk_13 hk_41 x1 x2 x3 x4 x5 x7 x8 x9 x10 x11 h H locs ls hP hD hS (lv_sub hl [1, 2, 3, 4, 5, 6, 7, 8, 9, 10, 11] rfl)
      · replace h := (kp_if h).2 c_5
        exact b_M_leastRow_146 E hA hK R hk_13 hk_41 x1 x2 x3 x4 x5 x8 x9 x10 x11 x12 h H locs ls hP hD hS (lv_sub hl [1, 2, 3, 4, 5, 6, 8, 9, 10, 11, 12] rfl)
set_option maxHeartbeats 4000000 in
set_option maxRecDepth 100000 in
theorem b_M_leastRow_115 {p : Program} {l : Launch} {e : Env} {s : State} {m : MethodId} {below : List Frame} {meth : Method} {c : Code} {A : Nat → Prop} {dC : Nat → ClassId} {dI : Nat → Nat → Nat} {cI cZ cS : ClassId} {aM aMw : Nat} {mm : Nat → Int32} {a1 : Int32} {a2 : Int32} {a3 : Int32} {a4 : Int32} {a5 : Int64} (E : mk_En p s m meth c cX2_leastRow 14 (some .int) ([.ref aM, .int a1, .int a2, .int a3, .int a4, .long a5] : List Value).toArray wsX2_leastRow yX2_leastRow.cls) (hA : ∀ q : Nat, s.heap.size ≤ q → A q) (hK : va_K (dC, dI) vwCl (tyz cI cZ cS) s) (R : Int32) {k_13 : Int32 → Int32 → Int32 → Int32 → Int64 → Int32 → Int32 → Int32 → Option Int32} (hk_13 : ∀ (x1 : Int32) (x2 : Int32) (x3 : Int32) (x4 : Int32) (x5 : Int64) (x7 : Int32) (x8 : Int32) (x9 : Int32), k_13 x1 x2 x3 x4 x5 x7 x8 x9 = some R → ∀ (H : Heap) (locs : List Loc) (ls : Array Slot), va_P (dC, dI) vwCl (w_M cI cZ cS aM aMw mm) H → va_D A (w_M cI cZ cS aM aMw mm) → va_S A s.heap H locs → lv_has ls 14 [(0, .ref aM), (1, .int x1), (2, .int x2), (3, .int x3), (4, .int x4), (5, .long x5), (7, .int x7), (8, .int x8), (9, .int x9)] → W p l e ({ frames := 3, cells := 0, slots := 0, locals := 65 } : Room) s m ([.ref aM, .int a1, .int a2, .int a3, .int a4, .long a5] : List Value).toArray below meth c H locs 0 0 (MQ below (mk_QR (dC, dI) vwCl (tyz cI cZ cS) A (w_M cI cZ cS aM aMw mm) R) ([.ref aM, .int a1, .int a2, .int a3, .int a4, .long a5] : List Value).toArray s 0 0 A) (F0 m 13 ls [])) {k_41 : Int32 → Int32 → Int32 → Int32 → Int64 → Int32 → Int32 → Int32 → Int32 → Int32 → Option Int32} (hk_41 : ∀ (x1 : Int32) (x2 : Int32) (x3 : Int32) (x4 : Int32) (x5 : Int64) (x7 : Int32) (x8 : Int32) (x9 : Int32) (x10 : Int32) (x11 : Int32), k_41 x1 x2 x3 x4 x5 x7 x8 x9 x10 x11 = some R → ∀ (H : Heap) (locs : List Loc) (ls : Array Slot), va_P (dC, dI) vwCl (w_M cI cZ cS aM aMw mm) H → va_D A (w_M cI cZ cS aM aMw mm) → va_S A s.heap H locs → lv_has ls 14 [(0, .ref aM), (1, .int x1), (2, .int x2), (3, .int x3), (4, .int x4), (5, .long x5), (7, .int x7), (8, .int x8), (9, .int x9), (10, .int x10), (11, .int x11)] → W p l e ({ frames := 3, cells := 0, slots := 0, locals := 65 } : Room) s m ([.ref aM, .int a1, .int a2, .int a3, .int a4, .long a5] : List Value).toArray below meth c H locs 0 0 (MQ below (mk_QR (dC, dI) vwCl (tyz cI cZ cS) A (w_M cI cZ cS aM aMw mm) R) ([.ref aM, .int a1, .int a2, .int a3, .int a4, .long a5] : List Value).toArray s 0 0 A) (F0 m 41 ls [])) (x1 : Int32) (x2 : Int32) (x3 : Int32) (x4 : Int32) (x5 : Int64) (x7 : Int32) (x8 : Int32) (x9 : Int32) (x10 : Int32) (x11 : Int32) (x12 : Int32) (h : p_M_leastRow_115 mm k_13 k_41 x1 x2 x3 x4 x5 x7 x8 x9 x10 x11 x12 = some R) : ∀ (H : Heap) (locs : List Loc) (ls : Array Slot), va_P (dC, dI) vwCl (w_M cI cZ cS aM aMw mm) H → va_D A (w_M cI cZ cS aM aMw mm) → va_S A s.heap H locs → lv_has ls 14 [(0, .ref aM), (1, .int x1), (2, .int x2), (3, .int x3), (4, .int x4), (5, .long x5), (7, .int x7), (8, .int x8), (9, .int x9), (10, .int x10), (11, .int x11), (12, .int x12)] → W p l e ({ frames := 3, cells := 0, slots := 0, locals := 65 } : Room) s m ([.ref aM, .int a1, .int a2, .int a3, .int a4, .long a5] : List Value).toArray below meth c H locs 0 0 (MQ below (mk_QR (dC, dI) vwCl (tyz cI cZ cS) A (w_M cI cZ cS aM aMw mm) R) ([.ref aM, .int a1, .int a2, .int a3, .int a4, .long a5] : List Value).toArray s 0 0 A) (F0 m 115 ls []) := by
  intro H locs ls hP hD hS hl
  obtain ⟨⟨hx, hb, hml, hown, hts⟩, hrt, hlk, hN⟩ := id E
  have hown : s.vm.findClass RX2 = some m.cls := hown
  unfold p_M_leastRow_115 at h
  refine lv_iconst (v := 0) hx hb dX2_leastRow_115 (by decide) ?_
  exact b_M_leastRow_116 E hA hK R hk_13 hk_41 x1 x2 x3 x4 x5 x7 x8 x9 x10 x11 x12 0 h H locs ls hP hD hS (lv_sub hl [0, 1, 2, 3, 4, 5, 6, 7, 8, 9, 10, 11] rfl)
set_option maxHeartbeats 4000000 in
set_option maxRecDepth 100000 in
theorem b_M_leastRow_41 {p : Program} {l : Launch} {e : Env} {s : State} {m : MethodId} {below : List Frame} {meth : Method} {c : Code} {A : Nat → Prop} {dC : Nat → ClassId} {dI : Nat → Nat → Nat} {cI cZ cS : ClassId} {aM aMw : Nat} {mm : Nat → Int32} {a1 : Int32} {a2 : Int32} {a3 : Int32} {a4 : Int32} {a5 : Int64} (E : mk_En p s m meth c cX2_leastRow 14 (some .int) ([.ref aM, .int a1, .int a2, .int a3, .int a4, .long a5] : List Value).toArray wsX2_leastRow yX2_leastRow.cls) (hA : ∀ q : Nat, s.heap.size ≤ q → A q) (hK : va_K (dC, dI) vwCl (tyz cI cZ cS) s) (R : Int32) {k_13 : Int32 → Int32 → Int32 → Int32 → Int64 → Int32 → Int32 → Int32 → Option Int32} (hk_13 : ∀ (x1 : Int32) (x2 : Int32) (x3 : Int32) (x4 : Int32) (x5 : Int64) (x7 : Int32) (x8 : Int32) (x9 : Int32), k_13 x1 x2 x3 x4 x5 x7 x8 x9 = some R → ∀ (H : Heap) (locs : List Loc) (ls : Array Slot), va_P (dC, dI) vwCl (w_M cI cZ cS aM aMw mm) H → va_D A (w_M cI cZ cS aM aMw mm) → va_S A s.heap H locs → lv_has ls 14 [(0, .ref aM), (1, .int x1), (2, .int x2), (3, .int x3), (4, .int x4), (5, .long x5), (7, .int x7), (8, .int x8), (9, .int x9)] → W p l e ({ frames := 3, cells := 0, slots := 0, locals := 65 } : Room) s m ([.ref aM, .int a1, .int a2, .int a3, .int a4, .long a5] : List Value).toArray below meth c H locs 0 0 (MQ below (mk_QR (dC, dI) vwCl (tyz cI cZ cS) A (w_M cI cZ cS aM aMw mm) R) ([.ref aM, .int a1, .int a2, .int a3, .int a4, .long a5] : List Value).toArray s 0 0 A) (F0 m 13 ls [])) {k_41 : Int32 → Int32 → Int32 → Int32 → Int64 → Int32 → Int32 → Int32 → Int32 → Int32 → Option Int32} (hk_41 : ∀ (x1 : Int32) (x2 : Int32) (x3 : Int32) (x4 : Int32) (x5 : Int64) (x7 : Int32) (x8 : Int32) (x9 : Int32) (x10 : Int32) (x11 : Int32), k_41 x1 x2 x3 x4 x5 x7 x8 x9 x10 x11 = some R → ∀ (H : Heap) (locs : List Loc) (ls : Array Slot), va_P (dC, dI) vwCl (w_M cI cZ cS aM aMw mm) H → va_D A (w_M cI cZ cS aM aMw mm) → va_S A s.heap H locs → lv_has ls 14 [(0, .ref aM), (1, .int x1), (2, .int x2), (3, .int x3), (4, .int x4), (5, .long x5), (7, .int x7), (8, .int x8), (9, .int x9), (10, .int x10), (11, .int x11)] → W p l e ({ frames := 3, cells := 0, slots := 0, locals := 65 } : Room) s m ([.ref aM, .int a1, .int a2, .int a3, .int a4, .long a5] : List Value).toArray below meth c H locs 0 0 (MQ below (mk_QR (dC, dI) vwCl (tyz cI cZ cS) A (w_M cI cZ cS aM aMw mm) R) ([.ref aM, .int a1, .int a2, .int a3, .int a4, .long a5] : List Value).toArray s 0 0 A) (F0 m 41 ls [])) (x1 : Int32) (x2 : Int32) (x3 : Int32) (x4 : Int32) (x5 : Int64) (x7 : Int32) (x8 : Int32) (x9 : Int32) (x10 : Int32) (x11 : Int32) (h : p_M_leastRow_41 mm k_13 k_41 x1 x2 x3 x4 x5 x7 x8 x9 x10 x11 = some R) : ∀ (H : Heap) (locs : List Loc) (ls : Array Slot), va_P (dC, dI) vwCl (w_M cI cZ cS aM aMw mm) H → va_D A (w_M cI cZ cS aM aMw mm) → va_S A s.heap H locs → lv_has ls 14 [(0, .ref aM), (1, .int x1), (2, .int x2), (3, .int x3), (4, .int x4), (5, .long x5), (7, .int x7), (8, .int x8), (9, .int x9), (10, .int x10), (11, .int x11)] → W p l e ({ frames := 3, cells := 0, slots := 0, locals := 65 } : Room) s m ([.ref aM, .int a1, .int a2, .int a3, .int a4, .long a5] : List Value).toArray below meth c H locs 0 0 (MQ below (mk_QR (dC, dI) vwCl (tyz cI cZ cS) A (w_M cI cZ cS aM aMw mm) R) ([.ref aM, .int a1, .int a2, .int a3, .int a4, .long a5] : List Value).toArray s 0 0 A) (F0 m 41 ls []) := by
  intro H locs ls hP hD hS hl
  obtain ⟨⟨hx, hb, hml, hown, hts⟩, hrt, hlk, hN⟩ := id E
  have hown : s.vm.findClass RX2 = some m.cls := hown
  unfold p_M_leastRow_41 at h
  refine lv_iload hx hb dX2_leastRow_41 (lv_at hl 10 rfl) ?_
  refine lv_iload hx hb dX2_leastRow_43 (lv_at hl 9 rfl) ?_
  refine lv_icmp_ge (tgt := 156) hx hb dX2_leastRow_45 (by decide) (fun c_6 => ?_) (fun c_6 => ?_)
  · replace h := (kp_if h).1 c_6
    refine lv_iinc (v := x9 + 1) (lv' := [(9, .int (x9 + 1)), (0, .ref aM), (1, .int x1), (2, .int x2), (3, .int x3), (4, .int x4), (5, .long x5), (7, .int x7), (8, .int x8), (10, .int x10), (11, .int x11)]) hx hb dX2_leastRow_156 hl (k := 8) rfl rfl (by decide) rfl (fun ls hl => ?_)
    refine lv_goto (tgt := 13) hx hb dX2_leastRow_159 (by decide) ?_
    exact hk_13 x1 x2 x3 x4 x5 x7 x8 (x9 + 1) h H locs ls hP hD hS (lv_sub hl [1, 2, 3, 4, 5, 6, 7, 8, 0] rfl)
  · replace h := (kp_if h).2 c_6
    refine lv_aload_n hx hb dX2_leastRow_48 rfl (lv_at hl 0 rfl) ?_
    refine lv_iload_n hx hb dX2_leastRow_49 rfl (lv_at hl 1 rfl) ?_
    refine lv_iload hx hb dX2_leastRow_50 (lv_at hl 8 rfl) ?_
    refine lv_iload hx hb dX2_leastRow_52 (lv_at hl 10 rfl) ?_
    obtain ⟨r_7, hr_7, h⟩ := kp_bind h
    refine mk_contR (w := w_M cI cZ cS aM aMw mm) (w0 := w_M cI cZ cS aM aMw mm) (wr := []) hP hD hS hA [0, 1] [] rfl rfl (by decide) (by decide) [0, 1] rfl (by decide) (va_runV (As := [.int x1, .int x9, .int x11]) (rest := []) ⟨hx, hb, hml, hown, hts⟩ (c_M_rowAt l dC dI cI cZ cS aM aMw mm x1 x9 x11 r_7 hr_7 H.size) (cwV 3 hts gX2_leastRow_X2_rowAt rfl rfl rfl (by decide +kernel) ⟨Nat.le_of_ble_eq_true rfl, Nat.le_of_ble_eq_true rfl⟩) (mk_preV (w0 := w_M cI cZ cS aM aMw mm) (ci := 2) (q0 := 0) hN hK (mk_pick hP [0, 1] rfl) (hD.sub [0, 1] (by decide) rfl) rfl rfl rfl) rfl rfl hl.1 rfl (lv_room (Nat.le_of_ble_eq_true rfl)) dX2_leastRow_54 ⟨Nat.zero_le _, Nat.zero_le _⟩) (fun H locs hP hD hS => ?_)
    refine lv_istore (lv' := [(12, .int r_7), (0, .ref aM), (1, .int x1), (2, .int x2), (3, .int x3), (4, .int x4), (5, .long x5), (7, .int x7), (8, .int x8), (9, .int x9), (10, .int x10), (11, .int x11)]) hx hb dX2_leastRow_57 hl (by decide) rfl (fun ls hl => ?_)
    refine lv_aload_n hx hb dX2_leastRow_59 rfl (lv_at hl 1 rfl) ?_
    refine lv_iload hx hb dX2_leastRow_60 (lv_at hl 9 rfl) ?_
    refine lv_iload hx hb dX2_leastRow_62 (lv_at hl 11 rfl) ?_
    obtain ⟨r_8, hr_8, h⟩ := kp_bind h
    refine mk_contR (w := w_M cI cZ cS aM aMw mm) (w0 := w_M cI cZ cS aM aMw mm) (wr := []) hP hD hS hA [0, 1] [] rfl rfl (by decide) (by decide) [0, 1] rfl (by decide) (va_runV (As := [.int x9, .int x11]) (rest := []) ⟨hx, hb, hml, hown, hts⟩ (c_M_hasRow l dC dI cI cZ cS aM aMw mm x9 x11 r_8 hr_8 H.size) (cwV 2 hts gX2_leastRow_X2_hasRow rfl rfl rfl (by decide +kernel) ⟨Nat.le_of_ble_eq_true rfl, Nat.le_of_ble_eq_true rfl⟩) (mk_preV (w0 := w_M cI cZ cS aM aMw mm) (ci := 2) (q0 := 0) hN hK (mk_pick hP [0, 1] rfl) (hD.sub [0, 1] (by decide) rfl) rfl rfl rfl) rfl rfl hl.1 rfl (lv_room (Nat.le_of_ble_eq_true rfl)) dX2_leastRow_64 ⟨Nat.zero_le _, Nat.zero_le _⟩) (fun H locs hP hD hS => ?_)
    refine lv_if_eq (tgt := 115) hx hb dX2_leastRow_67 (by decide) (fun c_9 => ?_) (fun c_9 => ?_)
    · replace h := (kp_if h).1 c_9
      exact b_M_leastRow_115 E hA hK R hk_13 hk_41 x1 x2 x3 x4 x5 x7 x8 x9 x10 x11 r_7 h H locs ls hP hD hS (lv_sub hl [1, 2, 3, 4, 5, 6, 7, 8, 9, 10, 11, 0] rfl)
    · replace h := (kp_if h).2 c_9
      refine lv_aload_n hx hb dX2_leastRow_70 rfl (lv_at hl 1 rfl) ?_
      refine va_get (D := (dC, dI)) (ci := 2) (v := .ref aMw) (C := RX2) (T := TX2) (N := 1) hx hb hts iw_M_leastRow_Memory hown hK hP 0 rfl rfl 0 (by decide) (hts _ mm_M_leastRow_0) (fun _ h9 => h9) rfl dX2_leastRow_71 ?_
      refine lv_iload hx hb dX2_leastRow_74 (lv_at hl 0 rfl) ?_
      obtain ⟨hc_10, h⟩ := kp_in h
      refine va_iald hx hb hK hP 1 0 rfl rfl (kx_of hc_10) dX2_leastRow_76 ?_
      refine lv_i2l hx hb dX2_leastRow_77 rfl ?_
      refine lv_lload hx hb dX2_leastRow_78 (lv_at hl 6 rfl) ?_
      refine W.lcmp hx hb dX2_leastRow_80 ?_
      refine lv_if_le (tgt := 115) hx hb dX2_leastRow_81 (by decide) (fun c_11 => ?_) (fun c_11 => ?_)
      · replace h := (kp_if h).1 c_11
        exact b_M_leastRow_115 E hA hK R hk_13 hk_41 x1 x2 x3 x4 x5 x7 x8 x9 x10 x11 r_7 h H locs ls hP hD hS (lv_sub hl [1, 2, 3, 4, 5, 6, 7, 8, 9, 10, 11, 0] rfl)
      · replace h := (kp_if h).2 c_11
        refine lv_aload_n hx hb dX2_leastRow_84 rfl (lv_at hl 1 rfl) ?_
        refine va_get (D := (dC, dI)) (ci := 2) (v := .ref aMw) (C := RX2) (T := TX2) (N := 1) hx hb hts iw_M_leastRow_Memory hown hK hP 0 rfl rfl 0 (by decide) (hts _ mm_M_leastRow_0) (fun _ h9 => h9) rfl dX2_leastRow_85 ?_
        refine lv_iload hx hb dX2_leastRow_88 (lv_at hl 0 rfl) ?_
        refine lv_iload_n hx hb dX2_leastRow_90 rfl (lv_at hl 3 rfl) ?_
        refine lv_iadd hx hb dX2_leastRow_91 ?_
        obtain ⟨hc_12, h⟩ := kp_in h
        refine va_iald hx hb hK hP 1 0 rfl rfl (kx_of hc_12) dX2_leastRow_92 ?_
        refine lv_iload_n hx hb dX2_leastRow_93 rfl (lv_at hl 4 rfl) ?_
        refine lv_icmp_lt (tgt := 115) hx hb dX2_leastRow_94 (by decide) (fun c_13 => ?_) (fun c_13 => ?_)
        · replace h := (kp_if h).1 c_13
          exact b_M_leastRow_115 E hA hK R hk_13 hk_41 x1 x2 x3 x4 x5 x7 x8 x9 x10 x11 r_7 h H locs ls hP hD hS (lv_sub hl [1, 2, 3, 4, 5, 6, 7, 8, 9, 10, 11, 0] rfl)
        · replace h := (kp_if h).2 c_13
          refine lv_aload_n hx hb dX2_leastRow_97 rfl (lv_at hl 1 rfl) ?_
          refine va_get (D := (dC, dI)) (ci := 2) (v := .ref aMw) (C := RX2) (T := TX2) (N := 1) hx hb hts iw_M_leastRow_Memory hown hK hP 0 rfl rfl 0 (by decide) (hts _ mm_M_leastRow_0) (fun _ h9 => h9) rfl dX2_leastRow_98 ?_
          refine lv_iload hx hb dX2_leastRow_101 (lv_at hl 0 rfl) ?_
          refine lv_iload_n hx hb dX2_leastRow_103 rfl (lv_at hl 3 rfl) ?_
          refine lv_iadd hx hb dX2_leastRow_104 ?_
          obtain ⟨hc_14, h⟩ := kp_in h
          refine va_iald hx hb hK hP 1 0 rfl rfl (kx_of hc_14) dX2_leastRow_105 ?_
          refine lv_iload hx hb dX2_leastRow_106 (lv_at hl 5 rfl) ?_
          refine lv_icmp_gt (tgt := 115) hx hb dX2_leastRow_108 (by decide) (fun c_15 => ?_) (fun c_15 => ?_)
          · replace h := (kp_if h).1 c_15
            exact b_M_leastRow_115 E hA hK R hk_13 hk_41 x1 x2 x3 x4 x5 x7 x8 x9 x10 x11 r_7 h H locs ls hP hD hS (lv_sub hl [1, 2, 3, 4, 5, 6, 7, 8, 9, 10, 11, 0] rfl)
          · replace h := (kp_if h).2 c_15
            refine lv_iconst (v := 1) hx hb dX2_leastRow_111 (by decide) ?_
            refine lv_goto (tgt := 116) hx hb dX2_leastRow_112 (by decide) ?_
            exact b_M_leastRow_116 E hA hK R hk_13 hk_41 x1 x2 x3 x4 x5 x7 x8 x9 x10 x11 r_7 1 h H locs ls hP hD hS (lv_sub hl [1, 2, 3, 4, 5, 6, 7, 8, 9, 10, 11, 0] rfl)
set_option maxHeartbeats 4000000 in
set_option maxRecDepth 100000 in
theorem l_M_leastRow_41 {p : Program} {l : Launch} {e : Env} {s : State} {m : MethodId} {below : List Frame} {meth : Method} {c : Code} {A : Nat → Prop} {dC : Nat → ClassId} {dI : Nat → Nat → Nat} {cI cZ cS : ClassId} {aM aMw : Nat} {mm : Nat → Int32} {a1 : Int32} {a2 : Int32} {a3 : Int32} {a4 : Int32} {a5 : Int64} (E : mk_En p s m meth c cX2_leastRow 14 (some .int) ([.ref aM, .int a1, .int a2, .int a3, .int a4, .long a5] : List Value).toArray wsX2_leastRow yX2_leastRow.cls) (hA : ∀ q : Nat, s.heap.size ≤ q → A q) (hK : va_K (dC, dI) vwCl (tyz cI cZ cS) s) (R : Int32) {k_13 : Int32 → Int32 → Int32 → Int32 → Int64 → Int32 → Int32 → Int32 → Option Int32} (hk_13 : ∀ (x1 : Int32) (x2 : Int32) (x3 : Int32) (x4 : Int32) (x5 : Int64) (x7 : Int32) (x8 : Int32) (x9 : Int32), k_13 x1 x2 x3 x4 x5 x7 x8 x9 = some R → ∀ (H : Heap) (locs : List Loc) (ls : Array Slot), va_P (dC, dI) vwCl (w_M cI cZ cS aM aMw mm) H → va_D A (w_M cI cZ cS aM aMw mm) → va_S A s.heap H locs → lv_has ls 14 [(0, .ref aM), (1, .int x1), (2, .int x2), (3, .int x3), (4, .int x4), (5, .long x5), (7, .int x7), (8, .int x8), (9, .int x9)] → W p l e ({ frames := 3, cells := 0, slots := 0, locals := 65 } : Room) s m ([.ref aM, .int a1, .int a2, .int a3, .int a4, .long a5] : List Value).toArray below meth c H locs 0 0 (MQ below (mk_QR (dC, dI) vwCl (tyz cI cZ cS) A (w_M cI cZ cS aM aMw mm) R) ([.ref aM, .int a1, .int a2, .int a3, .int a4, .long a5] : List Value).toArray s 0 0 A) (F0 m 13 ls [])) : ∀ (n : Nat) (x1 : Int32) (x2 : Int32) (x3 : Int32) (x4 : Int32) (x5 : Int64) (x7 : Int32) (x8 : Int32) (x9 : Int32) (x10 : Int32) (x11 : Int32), pl_M_leastRow_41 mm k_13 n x1 x2 x3 x4 x5 x7 x8 x9 x10 x11 = some R → ∀ (H : Heap) (locs : List Loc) (ls : Array Slot), va_P (dC, dI) vwCl (w_M cI cZ cS aM aMw mm) H → va_D A (w_M cI cZ cS aM aMw mm) → va_S A s.heap H locs → lv_has ls 14 [(0, .ref aM), (1, .int x1), (2, .int x2), (3, .int x3), (4, .int x4), (5, .long x5), (7, .int x7), (8, .int x8), (9, .int x9), (10, .int x10), (11, .int x11)] → W p l e ({ frames := 3, cells := 0, slots := 0, locals := 65 } : Room) s m ([.ref aM, .int a1, .int a2, .int a3, .int a4, .long a5] : List Value).toArray below meth c H locs 0 0 (MQ below (mk_QR (dC, dI) vwCl (tyz cI cZ cS) A (w_M cI cZ cS aM aMw mm) R) ([.ref aM, .int a1, .int a2, .int a3, .int a4, .long a5] : List Value).toArray s 0 0 A) (F0 m 41 ls []) := by
  intro n
  induction n with
  | zero =>
    intro x1 x2 x3 x4 x5 x7 x8 x9 x10 x11 h
    cases h
  | succ n ih =>
    intro x1 x2 x3 x4 x5 x7 x8 x9 x10 x11 h
    exact b_M_leastRow_41 E hA hK R hk_13 ih x1 x2 x3 x4 x5 x7 x8 x9 x10 x11 h
set_option maxHeartbeats 4000000 in
set_option maxRecDepth 100000 in
theorem b_M_leastRow_36 {p : Program} {l : Launch} {e : Env} {s : State} {m : MethodId} {below : List Frame} {meth : Method} {c : Code} {A : Nat → Prop} {dC : Nat → ClassId} {dI : Nat → Nat → Nat} {cI cZ cS : ClassId} {aM aMw : Nat} {mm : Nat → Int32} {a1 : Int32} {a2 : Int32} {a3 : Int32} {a4 : Int32} {a5 : Int64} (E : mk_En p s m meth c cX2_leastRow 14 (some .int) ([.ref aM, .int a1, .int a2, .int a3, .int a4, .long a5] : List Value).toArray wsX2_leastRow yX2_leastRow.cls) (hA : ∀ q : Nat, s.heap.size ≤ q → A q) (hK : va_K (dC, dI) vwCl (tyz cI cZ cS) s) (R : Int32) {k_13 : Int32 → Int32 → Int32 → Int32 → Int64 → Int32 → Int32 → Int32 → Option Int32} (hk_13 : ∀ (x1 : Int32) (x2 : Int32) (x3 : Int32) (x4 : Int32) (x5 : Int64) (x7 : Int32) (x8 : Int32) (x9 : Int32), k_13 x1 x2 x3 x4 x5 x7 x8 x9 = some R → ∀ (H : Heap) (locs : List Loc) (ls : Array Slot), va_P (dC, dI) vwCl (w_M cI cZ cS aM aMw mm) H → va_D A (w_M cI cZ cS aM aMw mm) → va_S A s.heap H locs → lv_has ls 14 [(0, .ref aM), (1, .int x1), (2, .int x2), (3, .int x3), (4, .int x4), (5, .long x5), (7, .int x7), (8, .int x8), (9, .int x9)] → W p l e ({ frames := 3, cells := 0, slots := 0, locals := 65 } : Room) s m ([.ref aM, .int a1, .int a2, .int a3, .int a4, .long a5] : List Value).toArray below meth c H locs 0 0 (MQ below (mk_QR (dC, dI) vwCl (tyz cI cZ cS) A (w_M cI cZ cS aM aMw mm) R) ([.ref aM, .int a1, .int a2, .int a3, .int a4, .long a5] : List Value).toArray s 0 0 A) (F0 m 13 ls [])) (x1 : Int32) (x2 : Int32) (x3 : Int32) (x4 : Int32) (x5 : Int64) (x7 : Int32) (x8 : Int32) (x9 : Int32) (z0 : Int32) (h : p_M_leastRow_36 mm k_13 x1 x2 x3 x4 x5 x7 x8 x9 z0 = some R) : ∀ (H : Heap) (locs : List Loc) (ls : Array Slot), va_P (dC, dI) vwCl (w_M cI cZ cS aM aMw mm) H → va_D A (w_M cI cZ cS aM aMw mm) → va_S A s.heap H locs → lv_has ls 14 [(0, .ref aM), (1, .int x1), (2, .int x2), (3, .int x3), (4, .int x4), (5, .long x5), (7, .int x7), (8, .int x8), (9, .int x9)] → W p l e ({ frames := 3, cells := 0, slots := 0, locals := 65 } : Room) s m ([.ref aM, .int a1, .int a2, .int a3, .int a4, .long a5] : List Value).toArray below meth c H locs 0 0 (MQ below (mk_QR (dC, dI) vwCl (tyz cI cZ cS) A (w_M cI cZ cS aM aMw mm) R) ([.ref aM, .int a1, .int a2, .int a3, .int a4, .long a5] : List Value).toArray s 0 0 A) (F0 m 36 ls [.int z0]) := by
  intro H locs ls hP hD hS hl
  obtain ⟨⟨hx, hb, hml, hown, hts⟩, hrt, hlk, hN⟩ := id E
  have hown : s.vm.findClass RX2 = some m.cls := hown
  unfold p_M_leastRow_36 at h
  refine lv_istore (lv' := [(10, .int z0), (0, .ref aM), (1, .int x1), (2, .int x2), (3, .int x3), (4, .int x4), (5, .long x5), (7, .int x7), (8, .int x8), (9, .int x9)]) hx hb dX2_leastRow_36 hl (by decide) rfl (fun ls hl => ?_)
  refine lv_iconst (v := 0) hx hb dX2_leastRow_38 (by decide) ?_
  refine lv_istore (lv' := [(11, .int 0), (10, .int z0), (0, .ref aM), (1, .int x1), (2, .int x2), (3, .int x3), (4, .int x4), (5, .long x5), (7, .int x7), (8, .int x8), (9, .int x9)]) hx hb dX2_leastRow_39 hl (by decide) rfl (fun ls hl => ?_)
  exact l_M_leastRow_41 E hA hK R hk_13 1000 x1 x2 x3 x4 x5 x7 x8 x9 z0 0 h H locs ls hP hD hS (lv_sub hl [2, 3, 4, 5, 6, 7, 8, 9, 10, 1, 0] rfl)
set_option maxHeartbeats 4000000 in
set_option maxRecDepth 100000 in
theorem b_M_leastRow_13 {p : Program} {l : Launch} {e : Env} {s : State} {m : MethodId} {below : List Frame} {meth : Method} {c : Code} {A : Nat → Prop} {dC : Nat → ClassId} {dI : Nat → Nat → Nat} {cI cZ cS : ClassId} {aM aMw : Nat} {mm : Nat → Int32} {a1 : Int32} {a2 : Int32} {a3 : Int32} {a4 : Int32} {a5 : Int64} (E : mk_En p s m meth c cX2_leastRow 14 (some .int) ([.ref aM, .int a1, .int a2, .int a3, .int a4, .long a5] : List Value).toArray wsX2_leastRow yX2_leastRow.cls) (hA : ∀ q : Nat, s.heap.size ≤ q → A q) (hK : va_K (dC, dI) vwCl (tyz cI cZ cS) s) (R : Int32) {k_13 : Int32 → Int32 → Int32 → Int32 → Int64 → Int32 → Int32 → Int32 → Option Int32} (hk_13 : ∀ (x1 : Int32) (x2 : Int32) (x3 : Int32) (x4 : Int32) (x5 : Int64) (x7 : Int32) (x8 : Int32) (x9 : Int32), k_13 x1 x2 x3 x4 x5 x7 x8 x9 = some R → ∀ (H : Heap) (locs : List Loc) (ls : Array Slot), va_P (dC, dI) vwCl (w_M cI cZ cS aM aMw mm) H → va_D A (w_M cI cZ cS aM aMw mm) → va_S A s.heap H locs → lv_has ls 14 [(0, .ref aM), (1, .int x1), (2, .int x2), (3, .int x3), (4, .int x4), (5, .long x5), (7, .int x7), (8, .int x8), (9, .int x9)] → W p l e ({ frames := 3, cells := 0, slots := 0, locals := 65 } : Room) s m ([.ref aM, .int a1, .int a2, .int a3, .int a4, .long a5] : List Value).toArray below meth c H locs 0 0 (MQ below (mk_QR (dC, dI) vwCl (tyz cI cZ cS) A (w_M cI cZ cS aM aMw mm) R) ([.ref aM, .int a1, .int a2, .int a3, .int a4, .long a5] : List Value).toArray s 0 0 A) (F0 m 13 ls [])) (x1 : Int32) (x2 : Int32) (x3 : Int32) (x4 : Int32) (x5 : Int64) (x7 : Int32) (x8 : Int32) (x9 : Int32) (h : p_M_leastRow_13 mm k_13 x1 x2 x3 x4 x5 x7 x8 x9 = some R) : ∀ (H : Heap) (locs : List Loc) (ls : Array Slot), va_P (dC, dI) vwCl (w_M cI cZ cS aM aMw mm) H → va_D A (w_M cI cZ cS aM aMw mm) → va_S A s.heap H locs → lv_has ls 14 [(0, .ref aM), (1, .int x1), (2, .int x2), (3, .int x3), (4, .int x4), (5, .long x5), (7, .int x7), (8, .int x8), (9, .int x9)] → W p l e ({ frames := 3, cells := 0, slots := 0, locals := 65 } : Room) s m ([.ref aM, .int a1, .int a2, .int a3, .int a4, .long a5] : List Value).toArray below meth c H locs 0 0 (MQ below (mk_QR (dC, dI) vwCl (tyz cI cZ cS) A (w_M cI cZ cS aM aMw mm) R) ([.ref aM, .int a1, .int a2, .int a3, .int a4, .long a5] : List Value).toArray s 0 0 A) (F0 m 13 ls []) := by
  intro H locs ls hP hD hS hl
  obtain ⟨⟨hx, hb, hml, hown, hts⟩, hrt, hlk, hN⟩ := id E
  have hown : s.vm.findClass RX2 = some m.cls := hown
  unfold p_M_leastRow_13 at h
  refine lv_iload hx hb dX2_leastRow_13 (lv_at hl 8 rfl) ?_
  refine lv_bipush (v := 16) hx hb dX2_leastRow_15 (by decide) ?_
  refine lv_icmp_ge (tgt := 162) hx hb dX2_leastRow_17 (by decide) (fun c_16 => ?_) (fun c_16 => ?_)
  · replace h := (kp_if h).1 c_16
    refine lv_iload hx hb dX2_leastRow_162 (lv_at hl 6 rfl) ?_
    cases h
    exact mk_iretR E hK hP hD hS dX2_leastRow_164
  · replace h := (kp_if h).2 c_16
    refine lv_aload_n hx hb dX2_leastRow_20 rfl (lv_at hl 0 rfl) ?_
    refine lv_iload_n hx hb dX2_leastRow_21 rfl (lv_at hl 1 rfl) ?_
    refine lv_iload hx hb dX2_leastRow_22 (lv_at hl 8 rfl) ?_
    obtain ⟨r_17, hr_17, h⟩ := kp_bind h
    refine mk_contR (w := w_M cI cZ cS aM aMw mm) (w0 := w_M cI cZ cS aM aMw mm) (wr := []) hP hD hS hA [0, 1] [] rfl rfl (by decide) (by decide) [0, 1] rfl (by decide) (va_runV (As := [.int x1, .int x9]) (rest := []) ⟨hx, hb, hml, hown, hts⟩ (c_M_isPageOf l dC dI cI cZ cS aM aMw mm x1 x9 r_17 hr_17 H.size) (cwV 2 hts gX2_leastRow_X2_isPageOf rfl rfl rfl (by decide +kernel) ⟨Nat.le_of_ble_eq_true rfl, Nat.le_of_ble_eq_true rfl⟩) (mk_preV (w0 := w_M cI cZ cS aM aMw mm) (ci := 2) (q0 := 0) hN hK (mk_pick hP [0, 1] rfl) (hD.sub [0, 1] (by decide) rfl) rfl rfl rfl) rfl rfl hl.1 rfl (lv_room (Nat.le_of_ble_eq_true rfl)) dX2_leastRow_24 ⟨Nat.zero_le _, Nat.zero_le _⟩) (fun H locs hP hD hS => ?_)
    refine lv_if_eq (tgt := 35) hx hb dX2_leastRow_27 (by decide) (fun c_18 => ?_) (fun c_18 => ?_)
    · replace h := (kp_if h).1 c_18
      refine lv_iconst (v := 0) hx hb dX2_leastRow_35 (by decide) ?_
      exact b_M_leastRow_36 E hA hK R hk_13 x1 x2 x3 x4 x5 x7 x8 x9 0 h H locs ls hP hD hS (lv_sub hl [0, 1, 2, 3, 4, 5, 6, 7, 8] rfl)
    · replace h := (kp_if h).2 c_18
      refine lv_iload hx hb dX2_leastRow_30 (lv_at hl 7 rfl) ?_
      refine lv_goto (tgt := 36) hx hb dX2_leastRow_32 (by decide) ?_
      exact b_M_leastRow_36 E hA hK R hk_13 x1 x2 x3 x4 x5 x7 x8 x9 x8 h H locs ls hP hD hS (lv_sub hl [0, 1, 2, 3, 4, 5, 6, 7, 8] rfl)
set_option maxHeartbeats 4000000 in
set_option maxRecDepth 100000 in
theorem l_M_leastRow_13 {p : Program} {l : Launch} {e : Env} {s : State} {m : MethodId} {below : List Frame} {meth : Method} {c : Code} {A : Nat → Prop} {dC : Nat → ClassId} {dI : Nat → Nat → Nat} {cI cZ cS : ClassId} {aM aMw : Nat} {mm : Nat → Int32} {a1 : Int32} {a2 : Int32} {a3 : Int32} {a4 : Int32} {a5 : Int64} (E : mk_En p s m meth c cX2_leastRow 14 (some .int) ([.ref aM, .int a1, .int a2, .int a3, .int a4, .long a5] : List Value).toArray wsX2_leastRow yX2_leastRow.cls) (hA : ∀ q : Nat, s.heap.size ≤ q → A q) (hK : va_K (dC, dI) vwCl (tyz cI cZ cS) s) (R : Int32) : ∀ (n : Nat) (x1 : Int32) (x2 : Int32) (x3 : Int32) (x4 : Int32) (x5 : Int64) (x7 : Int32) (x8 : Int32) (x9 : Int32), pl_M_leastRow_13 mm n x1 x2 x3 x4 x5 x7 x8 x9 = some R → ∀ (H : Heap) (locs : List Loc) (ls : Array Slot), va_P (dC, dI) vwCl (w_M cI cZ cS aM aMw mm) H → va_D A (w_M cI cZ cS aM aMw mm) → va_S A s.heap H locs → lv_has ls 14 [(0, .ref aM), (1, .int x1), (2, .int x2), (3, .int x3), (4, .int x4), (5, .long x5), (7, .int x7), (8, .int x8), (9, .int x9)] → W p l e ({ frames := 3, cells := 0, slots := 0, locals := 65 } : Room) s m ([.ref aM, .int a1, .int a2, .int a3, .int a4, .long a5] : List Value).toArray below meth c H locs 0 0 (MQ below (mk_QR (dC, dI) vwCl (tyz cI cZ cS) A (w_M cI cZ cS aM aMw mm) R) ([.ref aM, .int a1, .int a2, .int a3, .int a4, .long a5] : List Value).toArray s 0 0 A) (F0 m 13 ls []) := by
  intro n
  induction n with
  | zero =>
    intro x1 x2 x3 x4 x5 x7 x8 x9 h
    cases h
  | succ n ih =>
    intro x1 x2 x3 x4 x5 x7 x8 x9 h
    exact b_M_leastRow_13 E hA hK R ih x1 x2 x3 x4 x5 x7 x8 x9 h
set_option maxHeartbeats 4000000 in
set_option maxRecDepth 100000 in
theorem c_M_leastRow (l : Launch) (dC : Nat → ClassId) (dI : Nat → Nat → Nat) (cI cZ cS : ClassId) (aM aMw : Nat) (mm : Nat → Int32) (a1 : Int32) (a2 : Int32) (a3 : Int32) (a4 : Int32) (a5 : Int64) : CtR l yX2_leastRow wsX2_leastRow ({ frames := 3, cells := 0, slots := 0, locals := 65 }) (dC, dI) vwCl (tyz cI cZ cS) [.ref aM, .int a1, .int a2, .int a3, .int a4, .long a5] (w_M cI cZ cS aM aMw mm) (p_M_leastRow mm a1 a2 a3 a4 a5) := by
  intro R h
  refine mk_enter (Qc := (fun A => mk_QR (dC, dI) vwCl (tyz cI cZ cS) A (w_M cI cZ cS aM aMw mm) R)) (by decide) rfl (Nat.le_of_ble_eq_true rfl) ?_
  intro p e s m below meth c A E hA hK H locs ls hP hD hS hl
  obtain ⟨⟨hx, hb, hml, hown, hts⟩, hrt, hlk, hN⟩ := id E
  have hown : s.vm.findClass RX2 = some m.cls := hown
  have hl : lv_has ls 14 [(0, .ref aM), (1, .int a1), (2, .int a2), (3, .int a3), (4, .int a4), (5, .long a5)] := hl
  unfold p_M_leastRow at h
  refine lv_iconst (v := (-1)) hx hb dX2_leastRow_0 (by decide) ?_
  refine lv_istore (lv' := [(7, .int (-1)), (0, .ref aM), (1, .int a1), (2, .int a2), (3, .int a3), (4, .int a4), (5, .long a5)]) hx hb dX2_leastRow_1 hl (by decide) rfl (fun ls hl => ?_)
  refine lv_aload_n hx hb dX2_leastRow_3 rfl (lv_at hl 1 rfl) ?_
  refine lv_iload_n hx hb dX2_leastRow_4 rfl (lv_at hl 2 rfl) ?_
  obtain ⟨r_19, hr_19, h⟩ := kp_bind h
  refine mk_contR (w := w_M cI cZ cS aM aMw mm) (w0 := w_M cI cZ cS aM aMw mm) (wr := []) hP hD hS hA [0, 1] [] rfl rfl (by decide) (by decide) [0, 1] rfl (by decide) (va_runV (As := [.int a1]) (rest := []) ⟨hx, hb, hml, hown, hts⟩ (c_M_slots l dC dI cI cZ cS aM aMw mm a1 r_19 hr_19 H.size) (cwV 1 hts gX2_leastRow_X2_slots rfl rfl rfl (by decide +kernel) ⟨Nat.le_of_ble_eq_true rfl, Nat.le_of_ble_eq_true rfl⟩) (mk_preV (w0 := w_M cI cZ cS aM aMw mm) (ci := 2) (q0 := 0) hN hK (mk_pick hP [0, 1] rfl) (hD.sub [0, 1] (by decide) rfl) rfl rfl rfl) rfl rfl hl.1 rfl (lv_room (Nat.le_of_ble_eq_true rfl)) dX2_leastRow_5 ⟨Nat.zero_le _, Nat.zero_le _⟩) (fun H locs hP hD hS => ?_)
  refine lv_istore (lv' := [(8, .int r_19), (7, .int (-1)), (0, .ref aM), (1, .int a1), (2, .int a2), (3, .int a3), (4, .int a4), (5, .long a5)]) hx hb dX2_leastRow_8 hl (by decide) rfl (fun ls hl => ?_)
  refine lv_iconst (v := 1) hx hb dX2_leastRow_10 (by decide) ?_
  refine lv_istore (lv' := [(9, .int 1), (8, .int r_19), (7, .int (-1)), (0, .ref aM), (1, .int a1), (2, .int a2), (3, .int a3), (4, .int a4), (5, .long a5)]) hx hb dX2_leastRow_11 hl (by decide) rfl (fun ls hl => ?_)
  exact l_M_leastRow_13 E hA hK R 1000 a1 a2 a3 a4 a5 (-1) r_19 1 h H locs ls hP hD hS (lv_sub hl [3, 4, 5, 6, 7, 8, 2, 1, 0] rfl)

/- Memory.rowOf(II)I -/
set_option maxHeartbeats 4000000 in
set_option maxRecDepth 100000 in
theorem c_M_rowOf (l : Launch) (dC : Nat → ClassId) (dI : Nat → Nat → Nat) (cI cZ cS : ClassId) (aM aMw : Nat) (mm : Nat → Int32) (a1 : Int32) (a2 : Int32) : CtR l yX2_rowOf wsX2_rowOf ({ frames := 4, cells := 0, slots := 0, locals := 98 }) (dC, dI) vwCl (tyz cI cZ cS) [.ref aM, .int a1, .int a2] (w_M cI cZ cS aM aMw mm) (p_M_rowOf mm a1 a2) := by
  intro R h
  refine mk_enter (Qc := (fun A => mk_QR (dC, dI) vwCl (tyz cI cZ cS) A (w_M cI cZ cS aM aMw mm) R)) (by decide) rfl (Nat.le_of_ble_eq_true rfl) ?_
  intro p e s m below meth c A E hA hK H locs ls hP hD hS hl
  obtain ⟨⟨hx, hb, hml, hown, hts⟩, hrt, hlk, hN⟩ := id E
  have hown : s.vm.findClass RX2 = some m.cls := hown
  have hl : lv_has ls 3 [(0, .ref aM), (1, .int a1), (2, .int a2)] := hl
  unfold p_M_rowOf at h
  refine lv_aload_n hx hb dX2_rowOf_0 rfl (lv_at hl 0 rfl) ?_
  refine lv_iload_n hx hb dX2_rowOf_1 rfl (lv_at hl 1 rfl) ?_
  refine lv_iconst (v := 0) hx hb dX2_rowOf_2 (by decide) ?_
  refine lv_iload_n hx hb dX2_rowOf_3 rfl (lv_at hl 2 rfl) ?_
  refine lv_iload_n hx hb dX2_rowOf_4 rfl (lv_at hl 2 rfl) ?_
  refine lv_iload_n hx hb dX2_rowOf_5 rfl (lv_at hl 2 rfl) ?_
  refine lv_i2l hx hb dX2_rowOf_6 rfl ?_
  refine lv_lconst (v := 1) hx hb dX2_rowOf_7 (by decide) ?_
  refine lv_lsub hx hb dX2_rowOf_8 ?_
  obtain ⟨r_1, hr_1, h⟩ := kp_bind h
  refine mk_contR (w := w_M cI cZ cS aM aMw mm) (w0 := w_M cI cZ cS aM aMw mm) (wr := []) hP hD hS hA [0, 1] [] rfl rfl (by decide) (by decide) [0, 1] rfl (by decide) (va_runV (As := [.int a1, .int 0, .int a2, .int a2, .long (a2.toInt64 - 1)]) (rest := []) ⟨hx, hb, hml, hown, hts⟩ (c_M_leastRow l dC dI cI cZ cS aM aMw mm a1 0 a2 a2 (a2.toInt64 - 1) r_1 hr_1 H.size) (cwV 5 hts gX2_rowOf_X2_leastRow rfl rfl rfl (by decide +kernel) ⟨Nat.le_of_ble_eq_true rfl, Nat.le_of_ble_eq_true rfl⟩) (mk_preV (w0 := w_M cI cZ cS aM aMw mm) (ci := 2) (q0 := 0) hN hK (mk_pick hP [0, 1] rfl) (hD.sub [0, 1] (by decide) rfl) rfl rfl rfl) rfl rfl hl.1 rfl (lv_room (Nat.le_of_ble_eq_true rfl)) dX2_rowOf_9 ⟨Nat.zero_le _, Nat.zero_le _⟩) (fun H locs hP hD hS => ?_)
  cases h
  exact mk_iretR E hK hP hD hS dX2_rowOf_12

/- Memory.rowsOf(I)I -/
set_option maxRecDepth 20000 in
theorem mm_M_rowsOf_0 : Cond.fieldLink RX2 9 "JournaledTables$Memory" "words" "[I" ∈ wsX2_rowsOf := by decide +kernel
set_option maxRecDepth 20000 in
theorem iw_M_rowsOf_Memory : ∀ w ∈ u_ws RX2 TX2 1, w ∈ wsX2_rowsOf := by decide +kernel
set_option maxHeartbeats 4000000 in
set_option maxRecDepth 100000 in
theorem b_M_rowsOf_36 {p : Program} {l : Launch} {e : Env} {s : State} {m : MethodId} {below : List Frame} {meth : Method} {c : Code} {A : Nat → Prop} {dC : Nat → ClassId} {dI : Nat → Nat → Nat} {cI cZ cS : ClassId} {aM aMw : Nat} {mm : Nat → Int32} {a1 : Int32} (E : mk_En p s m meth c cX2_rowsOf 4 (some .int) ([.ref aM, .int a1] : List Value).toArray wsX2_rowsOf yX2_rowsOf.cls) (hA : ∀ q : Nat, s.heap.size ≤ q → A q) (hK : va_K (dC, dI) vwCl (tyz cI cZ cS) s) (R : Int32) {k_4 : Int32 → Int32 → Int32 → Option Int32} (hk_4 : ∀ (x1 : Int32) (x2 : Int32) (x3 : Int32), k_4 x1 x2 x3 = some R → ∀ (H : Heap) (locs : List Loc) (ls : Array Slot), va_P (dC, dI) vwCl (w_M cI cZ cS aM aMw mm) H → va_D A (w_M cI cZ cS aM aMw mm) → va_S A s.heap H locs → lv_has ls 4 [(0, .ref aM), (1, .int x1), (2, .int x2), (3, .int x3)] → W p l e ({ frames := 1, cells := 0, slots := 0, locals := 22 } : Room) s m ([.ref aM, .int a1] : List Value).toArray below meth c H locs 0 0 (MQ below (mk_QR (dC, dI) vwCl (tyz cI cZ cS) A (w_M cI cZ cS aM aMw mm) R) ([.ref aM, .int a1] : List Value).toArray s 0 0 A) (F0 m 4 ls [])) (x1 : Int32) (x2 : Int32) (x3 : Int32) (h : p_M_rowsOf_36 mm k_4 x1 x2 x3 = some R) : ∀ (H : Heap) (locs : List Loc) (ls : Array Slot), va_P (dC, dI) vwCl (w_M cI cZ cS aM aMw mm) H → va_D A (w_M cI cZ cS aM aMw mm) → va_S A s.heap H locs → lv_has ls 4 [(0, .ref aM), (1, .int x1), (2, .int x2), (3, .int x3)] → W p l e ({ frames := 1, cells := 0, slots := 0, locals := 22 } : Room) s m ([.ref aM, .int a1] : List Value).toArray below meth c H locs 0 0 (MQ below (mk_QR (dC, dI) vwCl (tyz cI cZ cS) A (w_M cI cZ cS aM aMw mm) R) ([.ref aM, .int a1] : List Value).toArray s 0 0 A) (F0 m 36 ls []) := by
  intro H locs ls hP hD hS hl
  obtain ⟨⟨hx, hb, hml, hown, hts⟩, hrt, hlk, hN⟩ := id E
  have hown : s.vm.findClass RX2 = some m.cls := hown
  unfold p_M_rowsOf_36 at h
  refine lv_iinc (v := x3 + 1) (lv' := [(3, .int (x3 + 1)), (0, .ref aM), (1, .int x1), (2, .int x2)]) hx hb dX2_rowsOf_36 hl (k := 3) rfl rfl (by decide) rfl (fun ls hl => ?_)
  refine lv_goto (tgt := 4) hx hb dX2_rowsOf_39 (by decide) ?_
  exact hk_4 x1 x2 (x3 + 1) h H locs ls hP hD hS (lv_sub hl [1, 2, 3, 0] rfl)
set_option maxHeartbeats 4000000 in
set_option maxRecDepth 100000 in
theorem b_M_rowsOf_4 {p : Program} {l : Launch} {e : Env} {s : State} {m : MethodId} {below : List Frame} {meth : Method} {c : Code} {A : Nat → Prop} {dC : Nat → ClassId} {dI : Nat → Nat → Nat} {cI cZ cS : ClassId} {aM aMw : Nat} {mm : Nat → Int32} {a1 : Int32} (E : mk_En p s m meth c cX2_rowsOf 4 (some .int) ([.ref aM, .int a1] : List Value).toArray wsX2_rowsOf yX2_rowsOf.cls) (hA : ∀ q : Nat, s.heap.size ≤ q → A q) (hK : va_K (dC, dI) vwCl (tyz cI cZ cS) s) (R : Int32) {k_4 : Int32 → Int32 → Int32 → Option Int32} (hk_4 : ∀ (x1 : Int32) (x2 : Int32) (x3 : Int32), k_4 x1 x2 x3 = some R → ∀ (H : Heap) (locs : List Loc) (ls : Array Slot), va_P (dC, dI) vwCl (w_M cI cZ cS aM aMw mm) H → va_D A (w_M cI cZ cS aM aMw mm) → va_S A s.heap H locs → lv_has ls 4 [(0, .ref aM), (1, .int x1), (2, .int x2), (3, .int x3)] → W p l e ({ frames := 1, cells := 0, slots := 0, locals := 22 } : Room) s m ([.ref aM, .int a1] : List Value).toArray below meth c H locs 0 0 (MQ below (mk_QR (dC, dI) vwCl (tyz cI cZ cS) A (w_M cI cZ cS aM aMw mm) R) ([.ref aM, .int a1] : List Value).toArray s 0 0 A) (F0 m 4 ls [])) (x1 : Int32) (x2 : Int32) (x3 : Int32) (h : p_M_rowsOf_4 mm k_4 x1 x2 x3 = some R) : ∀ (H : Heap) (locs : List Loc) (ls : Array Slot), va_P (dC, dI) vwCl (w_M cI cZ cS aM aMw mm) H → va_D A (w_M cI cZ cS aM aMw mm) → va_S A s.heap H locs → lv_has ls 4 [(0, .ref aM), (1, .int x1), (2, .int x2), (3, .int x3)] → W p l e ({ frames := 1, cells := 0, slots := 0, locals := 22 } : Room) s m ([.ref aM, .int a1] : List Value).toArray below meth c H locs 0 0 (MQ below (mk_QR (dC, dI) vwCl (tyz cI cZ cS) A (w_M cI cZ cS aM aMw mm) R) ([.ref aM, .int a1] : List Value).toArray s 0 0 A) (F0 m 4 ls []) := by
  intro H locs ls hP hD hS hl
  obtain ⟨⟨hx, hb, hml, hown, hts⟩, hrt, hlk, hN⟩ := id E
  have hown : s.vm.findClass RX2 = some m.cls := hown
  unfold p_M_rowsOf_4 at h
  refine lv_iload_n hx hb dX2_rowsOf_4 rfl (lv_at hl 3 rfl) ?_
  refine lv_bipush (v := 16) hx hb dX2_rowsOf_5 (by decide) ?_
  refine lv_icmp_ge (tgt := 42) hx hb dX2_rowsOf_7 (by decide) (fun c_1 => ?_) (fun c_1 => ?_)
  · replace h := (kp_if h).1 c_1
    refine lv_iload_n hx hb dX2_rowsOf_42 rfl (lv_at hl 2 rfl) ?_
    cases h
    exact mk_iretR E hK hP hD hS dX2_rowsOf_43
  · replace h := (kp_if h).2 c_1
    refine lv_aload_n hx hb dX2_rowsOf_10 rfl (lv_at hl 0 rfl) ?_
    refine lv_iload_n hx hb dX2_rowsOf_11 rfl (lv_at hl 1 rfl) ?_
    refine lv_iload_n hx hb dX2_rowsOf_12 rfl (lv_at hl 3 rfl) ?_
    obtain ⟨r_2, hr_2, h⟩ := kp_bind h
    refine mk_contR (w := w_M cI cZ cS aM aMw mm) (w0 := w_M cI cZ cS aM aMw mm) (wr := []) hP hD hS hA [0, 1] [] rfl rfl (by decide) (by decide) [0, 1] rfl (by decide) (va_runV (As := [.int x1, .int x3]) (rest := []) ⟨hx, hb, hml, hown, hts⟩ (c_M_isPageOf l dC dI cI cZ cS aM aMw mm x1 x3 r_2 hr_2 H.size) (cwV 2 hts gX2_rowsOf_X2_isPageOf rfl rfl rfl (by decide +kernel) ⟨Nat.le_of_ble_eq_true rfl, Nat.le_of_ble_eq_true rfl⟩) (mk_preV (w0 := w_M cI cZ cS aM aMw mm) (ci := 2) (q0 := 0) hN hK (mk_pick hP [0, 1] rfl) (hD.sub [0, 1] (by decide) rfl) rfl rfl rfl) rfl rfl hl.1 rfl (lv_room (Nat.le_of_ble_eq_true rfl)) dX2_rowsOf_13 ⟨Nat.zero_le _, Nat.zero_le _⟩) (fun H locs hP hD hS => ?_)
    refine lv_if_eq (tgt := 36) hx hb dX2_rowsOf_16 (by decide) (fun c_3 => ?_) (fun c_3 => ?_)
    · replace h := (kp_if h).1 c_3
      exact b_M_rowsOf_36 E hA hK R hk_4 x1 x2 x3 h H locs ls hP hD hS (lv_sub hl [0, 1, 2, 3] rfl)
    · replace h := (kp_if h).2 c_3
      refine lv_iload_n hx hb dX2_rowsOf_19 rfl (lv_at hl 2 rfl) ?_
      refine lv_aload_n hx hb dX2_rowsOf_20 rfl (lv_at hl 0 rfl) ?_
      refine va_get (D := (dC, dI)) (ci := 2) (v := .ref aMw) (C := RX2) (T := TX2) (N := 1) hx hb hts iw_M_rowsOf_Memory hown hK hP 0 rfl rfl 0 (by decide) (hts _ mm_M_rowsOf_0) (fun _ h9 => h9) rfl dX2_rowsOf_21 ?_
      refine lv_iload_n hx hb dX2_rowsOf_24 rfl (lv_at hl 3 rfl) ?_
      refine lv_bipush (v := 16) hx hb dX2_rowsOf_25 (by decide) ?_
      refine lv_imul hx hb dX2_rowsOf_27 ?_
      refine lv_iconst (v := 2) hx hb dX2_rowsOf_28 (by decide) ?_
      refine lv_iadd hx hb dX2_rowsOf_29 ?_
      obtain ⟨hc_4, h⟩ := kp_in h
      refine va_iald hx hb hK hP 1 0 rfl rfl (kx_of hc_4) dX2_rowsOf_30 ?_
      obtain ⟨r_5, hr_5, h⟩ := kp_bind h
      refine mk_contR (w := w_M cI cZ cS aM aMw mm) (w0 := ([] : va_W)) (wr := [(aM, .inr (2, [.ref aMw])), (aMw, .inl (cI, 256, .inl mm))]) hP hD hS hA [] [0, 1] rfl rfl (by decide) (by decide) [0, 1] rfl (by decide) (va_runS (As := [.int (mm ((x3 * 16) + 2).toNatClampNeg)]) (rest := [.int x2]) ⟨hx, hb, hml, hown, hts⟩ (c_I_bitCount l dC dI cI cZ cS  (mm ((x3 * 16) + 2).toNatClampNeg) r_5 hr_5 H.size) (va_cwS 1 hts gX2_rowsOf_J6_bitCount_0f7a4 rfl rfl rfl (by decide +kernel) ⟨Nat.le_of_ble_eq_true rfl, Nat.le_of_ble_eq_true rfl⟩) (mk_preS (w0 := ([] : va_W)) hN hK (mk_pick hP [] rfl) (hD.sub [] (by decide) rfl)) rfl rfl hl.1 rfl (lv_room (Nat.le_of_ble_eq_true rfl)) dX2_rowsOf_31 ⟨Nat.zero_le _, Nat.zero_le _⟩) (fun H locs hP hD hS => ?_)
      refine lv_iadd hx hb dX2_rowsOf_34 ?_
      refine lv_topi (fun v_6 ev_6 => ?_)
      replace h := kp_kl h v_6 ev_6
      refine lv_istore_n (lv' := [(2, .int v_6), (0, .ref aM), (1, .int x1), (3, .int x3)]) hx hb dX2_rowsOf_35 rfl hl (by decide) rfl (fun ls hl => ?_)
      exact b_M_rowsOf_36 E hA hK R hk_4 x1 v_6 x3 h H locs ls hP hD hS (lv_sub hl [1, 2, 0, 3] rfl)
set_option maxHeartbeats 4000000 in
set_option maxRecDepth 100000 in
theorem l_M_rowsOf_4 {p : Program} {l : Launch} {e : Env} {s : State} {m : MethodId} {below : List Frame} {meth : Method} {c : Code} {A : Nat → Prop} {dC : Nat → ClassId} {dI : Nat → Nat → Nat} {cI cZ cS : ClassId} {aM aMw : Nat} {mm : Nat → Int32} {a1 : Int32} (E : mk_En p s m meth c cX2_rowsOf 4 (some .int) ([.ref aM, .int a1] : List Value).toArray wsX2_rowsOf yX2_rowsOf.cls) (hA : ∀ q : Nat, s.heap.size ≤ q → A q) (hK : va_K (dC, dI) vwCl (tyz cI cZ cS) s) (R : Int32) : ∀ (n : Nat) (x1 : Int32) (x2 : Int32) (x3 : Int32), pl_M_rowsOf_4 mm n x1 x2 x3 = some R → ∀ (H : Heap) (locs : List Loc) (ls : Array Slot), va_P (dC, dI) vwCl (w_M cI cZ cS aM aMw mm) H → va_D A (w_M cI cZ cS aM aMw mm) → va_S A s.heap H locs → lv_has ls 4 [(0, .ref aM), (1, .int x1), (2, .int x2), (3, .int x3)] → W p l e ({ frames := 1, cells := 0, slots := 0, locals := 22 } : Room) s m ([.ref aM, .int a1] : List Value).toArray below meth c H locs 0 0 (MQ below (mk_QR (dC, dI) vwCl (tyz cI cZ cS) A (w_M cI cZ cS aM aMw mm) R) ([.ref aM, .int a1] : List Value).toArray s 0 0 A) (F0 m 4 ls []) := by
  intro n
  induction n with
  | zero =>
    intro x1 x2 x3 h
    cases h
  | succ n ih =>
    intro x1 x2 x3 h
    exact b_M_rowsOf_4 E hA hK R ih x1 x2 x3 h
set_option maxHeartbeats 4000000 in
set_option maxRecDepth 100000 in
theorem c_M_rowsOf (l : Launch) (dC : Nat → ClassId) (dI : Nat → Nat → Nat) (cI cZ cS : ClassId) (aM aMw : Nat) (mm : Nat → Int32) (a1 : Int32) : CtR l yX2_rowsOf wsX2_rowsOf ({ frames := 1, cells := 0, slots := 0, locals := 22 }) (dC, dI) vwCl (tyz cI cZ cS) [.ref aM, .int a1] (w_M cI cZ cS aM aMw mm) (p_M_rowsOf mm a1) := by
  intro R h
  refine mk_enter (Qc := (fun A => mk_QR (dC, dI) vwCl (tyz cI cZ cS) A (w_M cI cZ cS aM aMw mm) R)) (by decide) rfl (Nat.le_of_ble_eq_true rfl) ?_
  intro p e s m below meth c A E hA hK H locs ls hP hD hS hl
  obtain ⟨⟨hx, hb, hml, hown, hts⟩, hrt, hlk, hN⟩ := id E
  have hown : s.vm.findClass RX2 = some m.cls := hown
  have hl : lv_has ls 4 [(0, .ref aM), (1, .int a1)] := hl
  unfold p_M_rowsOf at h
  refine lv_iconst (v := 0) hx hb dX2_rowsOf_0 (by decide) ?_
  refine lv_istore_n (lv' := [(2, .int 0), (0, .ref aM), (1, .int a1)]) hx hb dX2_rowsOf_1 rfl hl (by decide) rfl (fun ls hl => ?_)
  refine lv_iconst (v := 1) hx hb dX2_rowsOf_2 (by decide) ?_
  refine lv_istore_n (lv' := [(3, .int 1), (2, .int 0), (0, .ref aM), (1, .int a1)]) hx hb dX2_rowsOf_3 rfl hl (by decide) rfl (fun ls hl => ?_)
  exact l_M_rowsOf_4 E hA hK R 1000 a1 0 1 h H locs ls hP hD hS (lv_sub hl [2, 3, 1, 0] rfl)

/- Memory.freePage()I -/
set_option maxRecDepth 20000 in
theorem mm_M_freePage_0 : Cond.fieldLink RX2 9 "JournaledTables$Memory" "words" "[I" ∈ wsX2_freePage := by decide +kernel
set_option maxRecDepth 20000 in
theorem iw_M_freePage_Memory : ∀ w ∈ u_ws RX2 TX2 1, w ∈ wsX2_freePage := by decide +kernel
set_option maxHeartbeats 4000000 in
set_option maxRecDepth 100000 in
theorem b_M_freePage_2 {p : Program} {l : Launch} {e : Env} {s : State} {m : MethodId} {below : List Frame} {meth : Method} {c : Code} {A : Nat → Prop} {dC : Nat → ClassId} {dI : Nat → Nat → Nat} {cI cZ cS : ClassId} {aM aMw : Nat} {mm : Nat → Int32} (E : mk_En p s m meth c cX2_freePage 2 (some .int) ([.ref aM] : List Value).toArray wsX2_freePage yX2_freePage.cls) (hA : ∀ q : Nat, s.heap.size ≤ q → A q) (hK : va_K (dC, dI) vwCl (tyz cI cZ cS) s) (R : Int32) {k_2 : Int32 → Option Int32} (hk_2 : ∀ (x1 : Int32), k_2 x1 = some R → ∀ (H : Heap) (locs : List Loc) (ls : Array Slot), va_P (dC, dI) vwCl (w_M cI cZ cS aM aMw mm) H → va_D A (w_M cI cZ cS aM aMw mm) → va_S A s.heap H locs → lv_has ls 2 [(0, .ref aM), (1, .int x1)] → W p l e ({ frames := 0, cells := 0, slots := 0, locals := 0 } : Room) s m ([.ref aM] : List Value).toArray below meth c H locs 0 0 (MQ below (mk_QR (dC, dI) vwCl (tyz cI cZ cS) A (w_M cI cZ cS aM aMw mm) R) ([.ref aM] : List Value).toArray s 0 0 A) (F0 m 2 ls [])) (x1 : Int32) (h : p_M_freePage_2 mm k_2 x1 = some R) : ∀ (H : Heap) (locs : List Loc) (ls : Array Slot), va_P (dC, dI) vwCl (w_M cI cZ cS aM aMw mm) H → va_D A (w_M cI cZ cS aM aMw mm) → va_S A s.heap H locs → lv_has ls 2 [(0, .ref aM), (1, .int x1)] → W p l e ({ frames := 0, cells := 0, slots := 0, locals := 0 } : Room) s m ([.ref aM] : List Value).toArray below meth c H locs 0 0 (MQ below (mk_QR (dC, dI) vwCl (tyz cI cZ cS) A (w_M cI cZ cS aM aMw mm) R) ([.ref aM] : List Value).toArray s 0 0 A) (F0 m 2 ls []) := by
  intro H locs ls hP hD hS hl
  obtain ⟨⟨hx, hb, hml, hown, hts⟩, hrt, hlk, hN⟩ := id E
  have hown : s.vm.findClass RX2 = some m.cls := hown
  unfold p_M_freePage_2 at h
  refine lv_iload_n hx hb dX2_freePage_2 rfl (lv_at hl 1 rfl) ?_
  refine lv_bipush (v := 16) hx hb dX2_freePage_3 (by decide) ?_
  refine lv_icmp_ge (tgt := 28) hx hb dX2_freePage_5 (by decide) (fun c_1 => ?_) (fun c_1 => ?_)
  · replace h := (kp_if h).1 c_1
    refine lv_iconst (v := 0) hx hb dX2_freePage_28 (by decide) ?_
    cases h
    exact mk_iretR E hK hP hD hS dX2_freePage_29
  · replace h := (kp_if h).2 c_1
    refine lv_aload_n hx hb dX2_freePage_8 rfl (lv_at hl 0 rfl) ?_
    refine va_get (D := (dC, dI)) (ci := 2) (v := .ref aMw) (C := RX2) (T := TX2) (N := 1) hx hb hts iw_M_freePage_Memory hown hK hP 0 rfl rfl 0 (by decide) (hts _ mm_M_freePage_0) (fun _ h9 => h9) rfl dX2_freePage_9 ?_
    refine lv_iload_n hx hb dX2_freePage_12 rfl (lv_at hl 1 rfl) ?_
    refine lv_bipush (v := 16) hx hb dX2_freePage_13 (by decide) ?_
    refine lv_imul hx hb dX2_freePage_15 ?_
    obtain ⟨hc_2, h⟩ := kp_in h
    refine va_iald hx hb hK hP 1 0 rfl rfl (kx_of hc_2) dX2_freePage_16 ?_
    refine lv_if_ne (tgt := 22) hx hb dX2_freePage_17 (by decide) (fun c_3 => ?_) (fun c_3 => ?_)
    · replace h := (kp_if h).2 c_3
      refine lv_iinc (v := x1 + 1) (lv' := [(1, .int (x1 + 1)), (0, .ref aM)]) hx hb dX2_freePage_22 hl (k := 1) rfl rfl (by decide) rfl (fun ls hl => ?_)
      refine lv_goto (tgt := 2) hx hb dX2_freePage_25 (by decide) ?_
      exact hk_2 (x1 + 1) h H locs ls hP hD hS (lv_sub hl [1, 0] rfl)
    · replace h := (kp_if h).1 c_3
      refine lv_iload_n hx hb dX2_freePage_20 rfl (lv_at hl 1 rfl) ?_
      cases h
      exact mk_iretR E hK hP hD hS dX2_freePage_21
set_option maxHeartbeats 4000000 in
set_option maxRecDepth 100000 in
theorem l_M_freePage_2 {p : Program} {l : Launch} {e : Env} {s : State} {m : MethodId} {below : List Frame} {meth : Method} {c : Code} {A : Nat → Prop} {dC : Nat → ClassId} {dI : Nat → Nat → Nat} {cI cZ cS : ClassId} {aM aMw : Nat} {mm : Nat → Int32} (E : mk_En p s m meth c cX2_freePage 2 (some .int) ([.ref aM] : List Value).toArray wsX2_freePage yX2_freePage.cls) (hA : ∀ q : Nat, s.heap.size ≤ q → A q) (hK : va_K (dC, dI) vwCl (tyz cI cZ cS) s) (R : Int32) : ∀ (n : Nat) (x1 : Int32), pl_M_freePage_2 mm n x1 = some R → ∀ (H : Heap) (locs : List Loc) (ls : Array Slot), va_P (dC, dI) vwCl (w_M cI cZ cS aM aMw mm) H → va_D A (w_M cI cZ cS aM aMw mm) → va_S A s.heap H locs → lv_has ls 2 [(0, .ref aM), (1, .int x1)] → W p l e ({ frames := 0, cells := 0, slots := 0, locals := 0 } : Room) s m ([.ref aM] : List Value).toArray below meth c H locs 0 0 (MQ below (mk_QR (dC, dI) vwCl (tyz cI cZ cS) A (w_M cI cZ cS aM aMw mm) R) ([.ref aM] : List Value).toArray s 0 0 A) (F0 m 2 ls []) := by
  intro n
  induction n with
  | zero =>
    intro x1 h
    cases h
  | succ n ih =>
    intro x1 h
    exact b_M_freePage_2 E hA hK R ih x1 h
set_option maxHeartbeats 4000000 in
set_option maxRecDepth 100000 in
theorem c_M_freePage (l : Launch) (dC : Nat → ClassId) (dI : Nat → Nat → Nat) (cI cZ cS : ClassId) (aM aMw : Nat) (mm : Nat → Int32) : CtR l yX2_freePage wsX2_freePage ({ frames := 0, cells := 0, slots := 0, locals := 0 }) (dC, dI) vwCl (tyz cI cZ cS) [.ref aM] (w_M cI cZ cS aM aMw mm) (p_M_freePage mm) := by
  intro R h
  refine mk_enter (Qc := (fun A => mk_QR (dC, dI) vwCl (tyz cI cZ cS) A (w_M cI cZ cS aM aMw mm) R)) (by decide) rfl (Nat.le_of_ble_eq_true rfl) ?_
  intro p e s m below meth c A E hA hK H locs ls hP hD hS hl
  obtain ⟨⟨hx, hb, hml, hown, hts⟩, hrt, hlk, hN⟩ := id E
  have hown : s.vm.findClass RX2 = some m.cls := hown
  have hl : lv_has ls 2 [(0, .ref aM)] := hl
  unfold p_M_freePage at h
  refine lv_iconst (v := 1) hx hb dX2_freePage_0 (by decide) ?_
  refine lv_istore_n (lv' := [(1, .int 1), (0, .ref aM)]) hx hb dX2_freePage_1 rfl hl (by decide) rfl (fun ls hl => ?_)
  exact l_M_freePage_2 E hA hK R 1000 1 h H locs ls hP hD hS (lv_sub hl [1, 0] rfl)

/- Memory.freeSlot(II)I -/
set_option maxHeartbeats 4000000 in
set_option maxRecDepth 100000 in
theorem b_M_freeSlot_2 {p : Program} {l : Launch} {e : Env} {s : State} {m : MethodId} {below : List Frame} {meth : Method} {c : Code} {A : Nat → Prop} {dC : Nat → ClassId} {dI : Nat → Nat → Nat} {cI cZ cS : ClassId} {aM aMw : Nat} {mm : Nat → Int32} {a1 : Int32} {a2 : Int32} (E : mk_En p s m meth c cX2_freeSlot 4 (some .int) ([.ref aM, .int a1, .int a2] : List Value).toArray wsX2_freeSlot yX2_freeSlot.cls) (hA : ∀ q : Nat, s.heap.size ≤ q → A q) (hK : va_K (dC, dI) vwCl (tyz cI cZ cS) s) (R : Int32) {k_2 : Int32 → Int32 → Int32 → Option Int32} (hk_2 : ∀ (x1 : Int32) (x2 : Int32) (x3 : Int32), k_2 x1 x2 x3 = some R → ∀ (H : Heap) (locs : List Loc) (ls : Array Slot), va_P (dC, dI) vwCl (w_M cI cZ cS aM aMw mm) H → va_D A (w_M cI cZ cS aM aMw mm) → va_S A s.heap H locs → lv_has ls 4 [(0, .ref aM), (1, .int x1), (2, .int x2), (3, .int x3)] → W p l e ({ frames := 3, cells := 0, slots := 0, locals := 64 } : Room) s m ([.ref aM, .int a1, .int a2] : List Value).toArray below meth c H locs 0 0 (MQ below (mk_QR (dC, dI) vwCl (tyz cI cZ cS) A (w_M cI cZ cS aM aMw mm) R) ([.ref aM, .int a1, .int a2] : List Value).toArray s 0 0 A) (F0 m 2 ls [])) (x1 : Int32) (x2 : Int32) (x3 : Int32) (h : p_M_freeSlot_2 mm k_2 x1 x2 x3 = some R) : ∀ (H : Heap) (locs : List Loc) (ls : Array Slot), va_P (dC, dI) vwCl (w_M cI cZ cS aM aMw mm) H → va_D A (w_M cI cZ cS aM aMw mm) → va_S A s.heap H locs → lv_has ls 4 [(0, .ref aM), (1, .int x1), (2, .int x2), (3, .int x3)] → W p l e ({ frames := 3, cells := 0, slots := 0, locals := 64 } : Room) s m ([.ref aM, .int a1, .int a2] : List Value).toArray below meth c H locs 0 0 (MQ below (mk_QR (dC, dI) vwCl (tyz cI cZ cS) A (w_M cI cZ cS aM aMw mm) R) ([.ref aM, .int a1, .int a2] : List Value).toArray s 0 0 A) (F0 m 2 ls []) := by
  intro H locs ls hP hD hS hl
  obtain ⟨⟨hx, hb, hml, hown, hts⟩, hrt, hlk, hN⟩ := id E
  have hown : s.vm.findClass RX2 = some m.cls := hown
  unfold p_M_freeSlot_2 at h
  refine lv_iload_n hx hb dX2_freeSlot_2 rfl (lv_at hl 3 rfl) ?_
  refine lv_aload_n hx hb dX2_freeSlot_3 rfl (lv_at hl 0 rfl) ?_
  refine lv_iload_n hx hb dX2_freeSlot_4 rfl (lv_at hl 1 rfl) ?_
  obtain ⟨r_1, hr_1, h⟩ := kp_bind h
  refine mk_contR (w := w_M cI cZ cS aM aMw mm) (w0 := w_M cI cZ cS aM aMw mm) (wr := []) hP hD hS hA [0, 1] [] rfl rfl (by decide) (by decide) [0, 1] rfl (by decide) (va_runV (As := [.int x1]) (rest := [.int x3]) ⟨hx, hb, hml, hown, hts⟩ (c_M_slots l dC dI cI cZ cS aM aMw mm x1 r_1 hr_1 H.size) (cwV 1 hts gX2_freeSlot_X2_slots rfl rfl rfl (by decide +kernel) ⟨Nat.le_of_ble_eq_true rfl, Nat.le_of_ble_eq_true rfl⟩) (mk_preV (w0 := w_M cI cZ cS aM aMw mm) (ci := 2) (q0 := 0) hN hK (mk_pick hP [0, 1] rfl) (hD.sub [0, 1] (by decide) rfl) rfl rfl rfl) rfl rfl hl.1 rfl (lv_room (Nat.le_of_ble_eq_true rfl)) dX2_freeSlot_5 ⟨Nat.zero_le _, Nat.zero_le _⟩) (fun H locs hP hD hS => ?_)
  refine lv_icmp_ge (tgt := 28) hx hb dX2_freeSlot_8 (by decide) (fun c_2 => ?_) (fun c_2 => ?_)
  · replace h := (kp_if h).1 c_2
    refine lv_iconst (v := (-1)) hx hb dX2_freeSlot_28 (by decide) ?_
    cases h
    exact mk_iretR E hK hP hD hS dX2_freeSlot_29
  · replace h := (kp_if h).2 c_2
    refine lv_aload_n hx hb dX2_freeSlot_11 rfl (lv_at hl 0 rfl) ?_
    refine lv_iload_n hx hb dX2_freeSlot_12 rfl (lv_at hl 2 rfl) ?_
    refine lv_iload_n hx hb dX2_freeSlot_13 rfl (lv_at hl 3 rfl) ?_
    obtain ⟨r_3, hr_3, h⟩ := kp_bind h
    refine mk_contR (w := w_M cI cZ cS aM aMw mm) (w0 := w_M cI cZ cS aM aMw mm) (wr := []) hP hD hS hA [0, 1] [] rfl rfl (by decide) (by decide) [0, 1] rfl (by decide) (va_runV (As := [.int x2, .int x3]) (rest := []) ⟨hx, hb, hml, hown, hts⟩ (c_M_hasRow l dC dI cI cZ cS aM aMw mm x2 x3 r_3 hr_3 H.size) (cwV 2 hts gX2_freeSlot_X2_hasRow rfl rfl rfl (by decide +kernel) ⟨Nat.le_of_ble_eq_true rfl, Nat.le_of_ble_eq_true rfl⟩) (mk_preV (w0 := w_M cI cZ cS aM aMw mm) (ci := 2) (q0 := 0) hN hK (mk_pick hP [0, 1] rfl) (hD.sub [0, 1] (by decide) rfl) rfl rfl rfl) rfl rfl hl.1 rfl (lv_room (Nat.le_of_ble_eq_true rfl)) dX2_freeSlot_14 ⟨Nat.zero_le _, Nat.zero_le _⟩) (fun H locs hP hD hS => ?_)
    refine lv_if_ne (tgt := 22) hx hb dX2_freeSlot_17 (by decide) (fun c_4 => ?_) (fun c_4 => ?_)
    · replace h := (kp_if h).2 c_4
      refine lv_iinc (v := x3 + 1) (lv' := [(3, .int (x3 + 1)), (0, .ref aM), (1, .int x1), (2, .int x2)]) hx hb dX2_freeSlot_22 hl (k := 3) rfl rfl (by decide) rfl (fun ls hl => ?_)
      refine lv_goto (tgt := 2) hx hb dX2_freeSlot_25 (by decide) ?_
      exact hk_2 x1 x2 (x3 + 1) h H locs ls hP hD hS (lv_sub hl [1, 2, 3, 0] rfl)
    · replace h := (kp_if h).1 c_4
      refine lv_iload_n hx hb dX2_freeSlot_20 rfl (lv_at hl 3 rfl) ?_
      cases h
      exact mk_iretR E hK hP hD hS dX2_freeSlot_21
set_option maxHeartbeats 4000000 in
set_option maxRecDepth 100000 in
theorem l_M_freeSlot_2 {p : Program} {l : Launch} {e : Env} {s : State} {m : MethodId} {below : List Frame} {meth : Method} {c : Code} {A : Nat → Prop} {dC : Nat → ClassId} {dI : Nat → Nat → Nat} {cI cZ cS : ClassId} {aM aMw : Nat} {mm : Nat → Int32} {a1 : Int32} {a2 : Int32} (E : mk_En p s m meth c cX2_freeSlot 4 (some .int) ([.ref aM, .int a1, .int a2] : List Value).toArray wsX2_freeSlot yX2_freeSlot.cls) (hA : ∀ q : Nat, s.heap.size ≤ q → A q) (hK : va_K (dC, dI) vwCl (tyz cI cZ cS) s) (R : Int32) : ∀ (n : Nat) (x1 : Int32) (x2 : Int32) (x3 : Int32), pl_M_freeSlot_2 mm n x1 x2 x3 = some R → ∀ (H : Heap) (locs : List Loc) (ls : Array Slot), va_P (dC, dI) vwCl (w_M cI cZ cS aM aMw mm) H → va_D A (w_M cI cZ cS aM aMw mm) → va_S A s.heap H locs → lv_has ls 4 [(0, .ref aM), (1, .int x1), (2, .int x2), (3, .int x3)] → W p l e ({ frames := 3, cells := 0, slots := 0, locals := 64 } : Room) s m ([.ref aM, .int a1, .int a2] : List Value).toArray below meth c H locs 0 0 (MQ below (mk_QR (dC, dI) vwCl (tyz cI cZ cS) A (w_M cI cZ cS aM aMw mm) R) ([.ref aM, .int a1, .int a2] : List Value).toArray s 0 0 A) (F0 m 2 ls []) := by
  intro n
  induction n with
  | zero =>
    intro x1 x2 x3 h
    cases h
  | succ n ih =>
    intro x1 x2 x3 h
    exact b_M_freeSlot_2 E hA hK R ih x1 x2 x3 h
set_option maxHeartbeats 4000000 in
set_option maxRecDepth 100000 in
theorem c_M_freeSlot (l : Launch) (dC : Nat → ClassId) (dI : Nat → Nat → Nat) (cI cZ cS : ClassId) (aM aMw : Nat) (mm : Nat → Int32) (a1 : Int32) (a2 : Int32) : CtR l yX2_freeSlot wsX2_freeSlot ({ frames := 3, cells := 0, slots := 0, locals := 64 }) (dC, dI) vwCl (tyz cI cZ cS) [.ref aM, .int a1, .int a2] (w_M cI cZ cS aM aMw mm) (p_M_freeSlot mm a1 a2) := by
  intro R h
  refine mk_enter (Qc := (fun A => mk_QR (dC, dI) vwCl (tyz cI cZ cS) A (w_M cI cZ cS aM aMw mm) R)) (by decide) rfl (Nat.le_of_ble_eq_true rfl) ?_
  intro p e s m below meth c A E hA hK H locs ls hP hD hS hl
  obtain ⟨⟨hx, hb, hml, hown, hts⟩, hrt, hlk, hN⟩ := id E
  have hown : s.vm.findClass RX2 = some m.cls := hown
  have hl : lv_has ls 4 [(0, .ref aM), (1, .int a1), (2, .int a2)] := hl
  unfold p_M_freeSlot at h
  refine lv_iconst (v := 0) hx hb dX2_freeSlot_0 (by decide) ?_
  refine lv_istore_n (lv' := [(3, .int 0), (0, .ref aM), (1, .int a1), (2, .int a2)]) hx hb dX2_freeSlot_1 rfl hl (by decide) rfl (fun ls hl => ?_)
  exact l_M_freeSlot_2 E hA hK R 1000 a1 a2 0 h H locs ls hP hD hS (lv_sub hl [1, 2, 3, 0] rfl)

/- Memory.pageWithRoom(I)I -/
set_option maxRecDepth 20000 in
theorem mm_M_pageWithRoom_0 : Cond.fieldLink RX2 9 "JournaledTables$Memory" "words" "[I" ∈ wsX2_pageWithRoom := by decide +kernel
set_option maxRecDepth 20000 in
theorem iw_M_pageWithRoom_Memory : ∀ w ∈ u_ws RX2 TX2 1, w ∈ wsX2_pageWithRoom := by decide +kernel
set_option maxHeartbeats 4000000 in
set_option maxRecDepth 100000 in
theorem b_M_pageWithRoom_57 {p : Program} {l : Launch} {e : Env} {s : State} {m : MethodId} {below : List Frame} {meth : Method} {c : Code} {A : Nat → Prop} {dC : Nat → ClassId} {dI : Nat → Nat → Nat} {cI cZ cS : ClassId} {aM aMw : Nat} {mm : Nat → Int32} {a1 : Int32} (E : mk_En p s m meth c cX2_pageWithRoom 4 (some .int) ([.ref aM, .int a1] : List Value).toArray wsX2_pageWithRoom yX2_pageWithRoom.cls) (hA : ∀ q : Nat, s.heap.size ≤ q → A q) (hK : va_K (dC, dI) vwCl (tyz cI cZ cS) s) (R : Int32) (h : p_M_pageWithRoom_57 mm = some R) : ∀ (H : Heap) (locs : List Loc) (ls : Array Slot), va_P (dC, dI) vwCl (w_M cI cZ cS aM aMw mm) H → va_D A (w_M cI cZ cS aM aMw mm) → va_S A s.heap H locs → lv_has ls 4 [] → W p l e ({ frames := 4, cells := 0, slots := 0, locals := 87 } : Room) s m ([.ref aM, .int a1] : List Value).toArray below meth c H locs 0 0 (MQ below (mk_QR (dC, dI) vwCl (tyz cI cZ cS) A (w_M cI cZ cS aM aMw mm) R) ([.ref aM, .int a1] : List Value).toArray s 0 0 A) (F0 m 57 ls []) := by
  intro H locs ls hP hD hS hl
  obtain ⟨⟨hx, hb, hml, hown, hts⟩, hrt, hlk, hN⟩ := id E
  have hown : s.vm.findClass RX2 = some m.cls := hown
  unfold p_M_pageWithRoom_57 at h
  refine lv_iconst (v := 0) hx hb dX2_pageWithRoom_57 (by decide) ?_
  cases h
  exact mk_iretR E hK hP hD hS dX2_pageWithRoom_58
set_option maxHeartbeats 4000000 in
set_option maxRecDepth 100000 in
theorem b_M_pageWithRoom_12 {p : Program} {l : Launch} {e : Env} {s : State} {m : MethodId} {below : List Frame} {meth : Method} {c : Code} {A : Nat → Prop} {dC : Nat → ClassId} {dI : Nat → Nat → Nat} {cI cZ cS : ClassId} {aM aMw : Nat} {mm : Nat → Int32} {a1 : Int32} (E : mk_En p s m meth c cX2_pageWithRoom 4 (some .int) ([.ref aM, .int a1] : List Value).toArray wsX2_pageWithRoom yX2_pageWithRoom.cls) (hA : ∀ q : Nat, s.heap.size ≤ q → A q) (hK : va_K (dC, dI) vwCl (tyz cI cZ cS) s) (R : Int32) {k_12 : Int32 → Int32 → Int32 → Option Int32} (hk_12 : ∀ (x1 : Int32) (x2 : Int32) (x3 : Int32), k_12 x1 x2 x3 = some R → ∀ (H : Heap) (locs : List Loc) (ls : Array Slot), va_P (dC, dI) vwCl (w_M cI cZ cS aM aMw mm) H → va_D A (w_M cI cZ cS aM aMw mm) → va_S A s.heap H locs → lv_has ls 4 [(0, .ref aM), (1, .int x1), (2, .int x2), (3, .int x3)] → W p l e ({ frames := 4, cells := 0, slots := 0, locals := 87 } : Room) s m ([.ref aM, .int a1] : List Value).toArray below meth c H locs 0 0 (MQ below (mk_QR (dC, dI) vwCl (tyz cI cZ cS) A (w_M cI cZ cS aM aMw mm) R) ([.ref aM, .int a1] : List Value).toArray s 0 0 A) (F0 m 12 ls [])) (x1 : Int32) (x2 : Int32) (x3 : Int32) (h : p_M_pageWithRoom_12 mm k_12 x1 x2 x3 = some R) : ∀ (H : Heap) (locs : List Loc) (ls : Array Slot), va_P (dC, dI) vwCl (w_M cI cZ cS aM aMw mm) H → va_D A (w_M cI cZ cS aM aMw mm) → va_S A s.heap H locs → lv_has ls 4 [(0, .ref aM), (1, .int x1), (2, .int x2), (3, .int x3)] → W p l e ({ frames := 4, cells := 0, slots := 0, locals := 87 } : Room) s m ([.ref aM, .int a1] : List Value).toArray below meth c H locs 0 0 (MQ below (mk_QR (dC, dI) vwCl (tyz cI cZ cS) A (w_M cI cZ cS aM aMw mm) R) ([.ref aM, .int a1] : List Value).toArray s 0 0 A) (F0 m 12 ls []) := by
  intro H locs ls hP hD hS hl
  obtain ⟨⟨hx, hb, hml, hown, hts⟩, hrt, hlk, hN⟩ := id E
  have hown : s.vm.findClass RX2 = some m.cls := hown
  unfold p_M_pageWithRoom_12 at h
  refine lv_iload_n hx hb dX2_pageWithRoom_12 rfl (lv_at hl 3 rfl) ?_
  refine lv_bipush (v := 16) hx hb dX2_pageWithRoom_13 (by decide) ?_
  refine lv_icmp_ge (tgt := 57) hx hb dX2_pageWithRoom_15 (by decide) (fun c_1 => ?_) (fun c_1 => ?_)
  · replace h := (kp_if h).1 c_1
    exact b_M_pageWithRoom_57 E hA hK R h H locs ls hP hD hS (lv_sub hl [] rfl)
  · replace h := (kp_if h).2 c_1
    refine lv_aload_n hx hb dX2_pageWithRoom_18 rfl (lv_at hl 0 rfl) ?_
    refine lv_iload_n hx hb dX2_pageWithRoom_19 rfl (lv_at hl 1 rfl) ?_
    refine lv_iload_n hx hb dX2_pageWithRoom_20 rfl (lv_at hl 2 rfl) ?_
    obtain ⟨r_2, hr_2, h⟩ := kp_bind h
    refine mk_contR (w := w_M cI cZ cS aM aMw mm) (w0 := w_M cI cZ cS aM aMw mm) (wr := []) hP hD hS hA [0, 1] [] rfl rfl (by decide) (by decide) [0, 1] rfl (by decide) (va_runV (As := [.int x1, .int x2]) (rest := []) ⟨hx, hb, hml, hown, hts⟩ (c_M_isPageOf l dC dI cI cZ cS aM aMw mm x1 x2 r_2 hr_2 H.size) (cwV 2 hts gX2_pageWithRoom_X2_isPageOf rfl rfl rfl (by decide +kernel) ⟨Nat.le_of_ble_eq_true rfl, Nat.le_of_ble_eq_true rfl⟩) (mk_preV (w0 := w_M cI cZ cS aM aMw mm) (ci := 2) (q0 := 0) hN hK (mk_pick hP [0, 1] rfl) (hD.sub [0, 1] (by decide) rfl) rfl rfl rfl) rfl rfl hl.1 rfl (lv_room (Nat.le_of_ble_eq_true rfl)) dX2_pageWithRoom_21 ⟨Nat.zero_le _, Nat.zero_le _⟩) (fun H locs hP hD hS => ?_)
    refine lv_if_eq (tgt := 57) hx hb dX2_pageWithRoom_24 (by decide) (fun c_3 => ?_) (fun c_3 => ?_)
    · replace h := (kp_if h).1 c_3
      exact b_M_pageWithRoom_57 E hA hK R h H locs ls hP hD hS (lv_sub hl [] rfl)
    · replace h := (kp_if h).2 c_3
      refine lv_aload_n hx hb dX2_pageWithRoom_27 rfl (lv_at hl 0 rfl) ?_
      refine lv_iload_n hx hb dX2_pageWithRoom_28 rfl (lv_at hl 1 rfl) ?_
      refine lv_iload_n hx hb dX2_pageWithRoom_29 rfl (lv_at hl 2 rfl) ?_
      obtain ⟨r_4, hr_4, h⟩ := kp_bind h
      refine mk_contR (w := w_M cI cZ cS aM aMw mm) (w0 := w_M cI cZ cS aM aMw mm) (wr := []) hP hD hS hA [0, 1] [] rfl rfl (by decide) (by decide) [0, 1] rfl (by decide) (va_runV (As := [.int x1, .int x2]) (rest := []) ⟨hx, hb, hml, hown, hts⟩ (c_M_freeSlot l dC dI cI cZ cS aM aMw mm x1 x2 r_4 hr_4 H.size) (cwV 2 hts gX2_pageWithRoom_X2_freeSlot rfl rfl rfl (by decide +kernel) ⟨Nat.le_of_ble_eq_true rfl, Nat.le_of_ble_eq_true rfl⟩) (mk_preV (w0 := w_M cI cZ cS aM aMw mm) (ci := 2) (q0 := 0) hN hK (mk_pick hP [0, 1] rfl) (hD.sub [0, 1] (by decide) rfl) rfl rfl rfl) rfl rfl hl.1 rfl (lv_room (Nat.le_of_ble_eq_true rfl)) dX2_pageWithRoom_30 ⟨Nat.zero_le _, Nat.zero_le _⟩) (fun H locs hP hD hS => ?_)
      refine lv_iconst (v := (-1)) hx hb dX2_pageWithRoom_33 (by decide) ?_
      refine lv_icmp_eq (tgt := 39) hx hb dX2_pageWithRoom_34 (by decide) (fun c_5 => ?_) (fun c_5 => ?_)
      · replace h := (kp_if h).1 c_5
        refine lv_aload_n hx hb dX2_pageWithRoom_39 rfl (lv_at hl 0 rfl) ?_
        refine va_get (D := (dC, dI)) (ci := 2) (v := .ref aMw) (C := RX2) (T := TX2) (N := 1) hx hb hts iw_M_pageWithRoom_Memory hown hK hP 0 rfl rfl 0 (by decide) (hts _ mm_M_pageWithRoom_0) (fun _ h9 => h9) rfl dX2_pageWithRoom_40 ?_
        refine lv_iload_n hx hb dX2_pageWithRoom_43 rfl (lv_at hl 2 rfl) ?_
        refine lv_bipush (v := 16) hx hb dX2_pageWithRoom_44 (by decide) ?_
        refine lv_imul hx hb dX2_pageWithRoom_46 ?_
        refine lv_iconst (v := 1) hx hb dX2_pageWithRoom_47 (by decide) ?_
        refine lv_iadd hx hb dX2_pageWithRoom_48 ?_
        obtain ⟨hc_6, h⟩ := kp_in h
        refine va_iald hx hb hK hP 1 0 rfl rfl (kx_of hc_6) dX2_pageWithRoom_49 ?_
        refine lv_topi (fun v_7 ev_7 => ?_)
        replace h := kp_kl h v_7 ev_7
        refine lv_istore_n (lv' := [(2, .int v_7), (0, .ref aM), (1, .int x1), (3, .int x3)]) hx hb dX2_pageWithRoom_50 rfl hl (by decide) rfl (fun ls hl => ?_)
        refine lv_iinc (v := x3 + 1) (lv' := [(3, .int (x3 + 1)), (2, .int v_7), (0, .ref aM), (1, .int x1)]) hx hb dX2_pageWithRoom_51 hl (k := 3) rfl rfl (by decide) rfl (fun ls hl => ?_)
        refine lv_goto (tgt := 12) hx hb dX2_pageWithRoom_54 (by decide) ?_
        exact hk_12 x1 v_7 (x3 + 1) h H locs ls hP hD hS (lv_sub hl [2, 3, 1, 0] rfl)
      · replace h := (kp_if h).2 c_5
        refine lv_iload_n hx hb dX2_pageWithRoom_37 rfl (lv_at hl 2 rfl) ?_
        cases h
        exact mk_iretR E hK hP hD hS dX2_pageWithRoom_38
set_option maxHeartbeats 4000000 in
set_option maxRecDepth 100000 in
theorem l_M_pageWithRoom_12 {p : Program} {l : Launch} {e : Env} {s : State} {m : MethodId} {below : List Frame} {meth : Method} {c : Code} {A : Nat → Prop} {dC : Nat → ClassId} {dI : Nat → Nat → Nat} {cI cZ cS : ClassId} {aM aMw : Nat} {mm : Nat → Int32} {a1 : Int32} (E : mk_En p s m meth c cX2_pageWithRoom 4 (some .int) ([.ref aM, .int a1] : List Value).toArray wsX2_pageWithRoom yX2_pageWithRoom.cls) (hA : ∀ q : Nat, s.heap.size ≤ q → A q) (hK : va_K (dC, dI) vwCl (tyz cI cZ cS) s) (R : Int32) : ∀ (n : Nat) (x1 : Int32) (x2 : Int32) (x3 : Int32), pl_M_pageWithRoom_12 mm n x1 x2 x3 = some R → ∀ (H : Heap) (locs : List Loc) (ls : Array Slot), va_P (dC, dI) vwCl (w_M cI cZ cS aM aMw mm) H → va_D A (w_M cI cZ cS aM aMw mm) → va_S A s.heap H locs → lv_has ls 4 [(0, .ref aM), (1, .int x1), (2, .int x2), (3, .int x3)] → W p l e ({ frames := 4, cells := 0, slots := 0, locals := 87 } : Room) s m ([.ref aM, .int a1] : List Value).toArray below meth c H locs 0 0 (MQ below (mk_QR (dC, dI) vwCl (tyz cI cZ cS) A (w_M cI cZ cS aM aMw mm) R) ([.ref aM, .int a1] : List Value).toArray s 0 0 A) (F0 m 12 ls []) := by
  intro n
  induction n with
  | zero =>
    intro x1 x2 x3 h
    cases h
  | succ n ih =>
    intro x1 x2 x3 h
    exact b_M_pageWithRoom_12 E hA hK R ih x1 x2 x3 h
set_option maxHeartbeats 4000000 in
set_option maxRecDepth 100000 in
theorem c_M_pageWithRoom (l : Launch) (dC : Nat → ClassId) (dI : Nat → Nat → Nat) (cI cZ cS : ClassId) (aM aMw : Nat) (mm : Nat → Int32) (a1 : Int32) : CtR l yX2_pageWithRoom wsX2_pageWithRoom ({ frames := 4, cells := 0, slots := 0, locals := 87 }) (dC, dI) vwCl (tyz cI cZ cS) [.ref aM, .int a1] (w_M cI cZ cS aM aMw mm) (p_M_pageWithRoom mm a1) := by
  intro R h
  refine mk_enter (Qc := (fun A => mk_QR (dC, dI) vwCl (tyz cI cZ cS) A (w_M cI cZ cS aM aMw mm) R)) (by decide) rfl (Nat.le_of_ble_eq_true rfl) ?_
  intro p e s m below meth c A E hA hK H locs ls hP hD hS hl
  obtain ⟨⟨hx, hb, hml, hown, hts⟩, hrt, hlk, hN⟩ := id E
  have hown : s.vm.findClass RX2 = some m.cls := hown
  have hl : lv_has ls 4 [(0, .ref aM), (1, .int a1)] := hl
  unfold p_M_pageWithRoom at h
  refine lv_aload_n hx hb dX2_pageWithRoom_0 rfl (lv_at hl 0 rfl) ?_
  refine va_get (D := (dC, dI)) (ci := 2) (v := .ref aMw) (C := RX2) (T := TX2) (N := 1) hx hb hts iw_M_pageWithRoom_Memory hown hK hP 0 rfl rfl 0 (by decide) (hts _ mm_M_pageWithRoom_0) (fun _ h9 => h9) rfl dX2_pageWithRoom_1 ?_
  refine lv_bipush (v := 8) hx hb dX2_pageWithRoom_4 (by decide) ?_
  refine lv_iload_n hx hb dX2_pageWithRoom_6 rfl (lv_at hl 1 rfl) ?_
  refine lv_iadd hx hb dX2_pageWithRoom_7 ?_
  obtain ⟨hc_8, h⟩ := kp_in h
  refine va_iald hx hb hK hP 1 0 rfl rfl (kx_of hc_8) dX2_pageWithRoom_8 ?_
  refine lv_topi (fun v_9 ev_9 => ?_)
  replace h := kp_kl h v_9 ev_9
  refine lv_istore_n (lv' := [(2, .int v_9), (0, .ref aM), (1, .int a1)]) hx hb dX2_pageWithRoom_9 rfl hl (by decide) rfl (fun ls hl => ?_)
  refine lv_iconst (v := 0) hx hb dX2_pageWithRoom_10 (by decide) ?_
  refine lv_istore_n (lv' := [(3, .int 0), (2, .int v_9), (0, .ref aM), (1, .int a1)]) hx hb dX2_pageWithRoom_11 rfl hl (by decide) rfl (fun ls hl => ?_)
  exact l_M_pageWithRoom_12 E hA hK R 1000 a1 v_9 0 h H locs ls hP hD hS (lv_sub hl [2, 3, 1, 0] rfl)

/- Memory.linkTo(II)I -/
set_option maxRecDepth 20000 in
theorem mm_M_linkTo_0 : Cond.fieldLink RX2 9 "JournaledTables$Memory" "words" "[I" ∈ wsX2_linkTo := by decide +kernel
set_option maxRecDepth 20000 in
theorem iw_M_linkTo_Memory : ∀ w ∈ u_ws RX2 TX2 1, w ∈ wsX2_linkTo := by decide +kernel
set_option maxHeartbeats 4000000 in
set_option maxRecDepth 100000 in
theorem b_M_linkTo_59 {p : Program} {l : Launch} {e : Env} {s : State} {m : MethodId} {below : List Frame} {meth : Method} {c : Code} {A : Nat → Prop} {dC : Nat → ClassId} {dI : Nat → Nat → Nat} {cI cZ cS : ClassId} {aM aMw : Nat} {mm : Nat → Int32} {a1 : Int32} {a2 : Int32} (E : mk_En p s m meth c cX2_linkTo 5 (some .int) ([.ref aM, .int a1, .int a2] : List Value).toArray wsX2_linkTo yX2_linkTo.cls) (hA : ∀ q : Nat, s.heap.size ≤ q → A q) (hK : va_K (dC, dI) vwCl (tyz cI cZ cS) s) (R : Int32) (x3 : Int32) (h : p_M_linkTo_59 mm x3 = some R) : ∀ (H : Heap) (locs : List Loc) (ls : Array Slot), va_P (dC, dI) vwCl (w_M cI cZ cS aM aMw mm) H → va_D A (w_M cI cZ cS aM aMw mm) → va_S A s.heap H locs → lv_has ls 5 [(3, .int x3)] → W p l e ({ frames := 1, cells := 0, slots := 0, locals := 22 } : Room) s m ([.ref aM, .int a1, .int a2] : List Value).toArray below meth c H locs 0 0 (MQ below (mk_QR (dC, dI) vwCl (tyz cI cZ cS) A (w_M cI cZ cS aM aMw mm) R) ([.ref aM, .int a1, .int a2] : List Value).toArray s 0 0 A) (F0 m 59 ls []) := by
  intro H locs ls hP hD hS hl
  obtain ⟨⟨hx, hb, hml, hown, hts⟩, hrt, hlk, hN⟩ := id E
  have hown : s.vm.findClass RX2 = some m.cls := hown
  unfold p_M_linkTo_59 at h
  refine lv_iload_n hx hb dX2_linkTo_59 rfl (lv_at hl 0 rfl) ?_
  cases h
  exact mk_iretR E hK hP hD hS dX2_linkTo_60
set_option maxHeartbeats 4000000 in
set_option maxRecDepth 100000 in
theorem b_M_linkTo_8 {p : Program} {l : Launch} {e : Env} {s : State} {m : MethodId} {below : List Frame} {meth : Method} {c : Code} {A : Nat → Prop} {dC : Nat → ClassId} {dI : Nat → Nat → Nat} {cI cZ cS : ClassId} {aM aMw : Nat} {mm : Nat → Int32} {a1 : Int32} {a2 : Int32} (E : mk_En p s m meth c cX2_linkTo 5 (some .int) ([.ref aM, .int a1, .int a2] : List Value).toArray wsX2_linkTo yX2_linkTo.cls) (hA : ∀ q : Nat, s.heap.size ≤ q → A q) (hK : va_K (dC, dI) vwCl (tyz cI cZ cS) s) (R : Int32) {k_8 : Int32 → Int32 → Int32 → Int32 → Option Int32} (hk_8 : ∀ (x1 : Int32) (x2 : Int32) (x3 : Int32) (x4 : Int32), k_8 x1 x2 x3 x4 = some R → ∀ (H : Heap) (locs : List Loc) (ls : Array Slot), va_P (dC, dI) vwCl (w_M cI cZ cS aM aMw mm) H → va_D A (w_M cI cZ cS aM aMw mm) → va_S A s.heap H locs → lv_has ls 5 [(0, .ref aM), (1, .int x1), (2, .int x2), (3, .int x3), (4, .int x4)] → W p l e ({ frames := 1, cells := 0, slots := 0, locals := 22 } : Room) s m ([.ref aM, .int a1, .int a2] : List Value).toArray below meth c H locs 0 0 (MQ below (mk_QR (dC, dI) vwCl (tyz cI cZ cS) A (w_M cI cZ cS aM aMw mm) R) ([.ref aM, .int a1, .int a2] : List Value).toArray s 0 0 A) (F0 m 8 ls [])) (x1 : Int32) (x2 : Int32) (x3 : Int32) (x4 : Int32) (h : p_M_linkTo_8 mm k_8 x1 x2 x3 x4 = some R) : ∀ (H : Heap) (locs : List Loc) (ls : Array Slot), va_P (dC, dI) vwCl (w_M cI cZ cS aM aMw mm) H → va_D A (w_M cI cZ cS aM aMw mm) → va_S A s.heap H locs → lv_has ls 5 [(0, .ref aM), (1, .int x1), (2, .int x2), (3, .int x3), (4, .int x4)] → W p l e ({ frames := 1, cells := 0, slots := 0, locals := 22 } : Room) s m ([.ref aM, .int a1, .int a2] : List Value).toArray below meth c H locs 0 0 (MQ below (mk_QR (dC, dI) vwCl (tyz cI cZ cS) A (w_M cI cZ cS aM aMw mm) R) ([.ref aM, .int a1, .int a2] : List Value).toArray s 0 0 A) (F0 m 8 ls []) := by
  intro H locs ls hP hD hS hl
  obtain ⟨⟨hx, hb, hml, hown, hts⟩, hrt, hlk, hN⟩ := id E
  have hown : s.vm.findClass RX2 = some m.cls := hown
  unfold p_M_linkTo_8 at h
  refine lv_iload hx hb dX2_linkTo_8 (lv_at hl 4 rfl) ?_
  refine lv_bipush (v := 16) hx hb dX2_linkTo_10 (by decide) ?_
  refine lv_icmp_ge (tgt := 59) hx hb dX2_linkTo_12 (by decide) (fun c_1 => ?_) (fun c_1 => ?_)
  · replace h := (kp_if h).1 c_1
    exact b_M_linkTo_59 E hA hK R x3 h H locs ls hP hD hS (lv_sub hl [3] rfl)
  · replace h := (kp_if h).2 c_1
    refine lv_aload_n hx hb dX2_linkTo_15 rfl (lv_at hl 0 rfl) ?_
    refine va_get (D := (dC, dI)) (ci := 2) (v := .ref aMw) (C := RX2) (T := TX2) (N := 1) hx hb hts iw_M_linkTo_Memory hown hK hP 0 rfl rfl 0 (by decide) (hts _ mm_M_linkTo_0) (fun _ h9 => h9) rfl dX2_linkTo_16 ?_
    refine lv_iload_n hx hb dX2_linkTo_19 rfl (lv_at hl 3 rfl) ?_
    obtain ⟨hc_2, h⟩ := kp_in h
    refine va_iald hx hb hK hP 1 0 rfl rfl (kx_of hc_2) dX2_linkTo_20 ?_
    refine lv_iload_n hx hb dX2_linkTo_21 rfl (lv_at hl 2 rfl) ?_
    refine lv_icmp_eq (tgt := 59) hx hb dX2_linkTo_22 (by decide) (fun c_3 => ?_) (fun c_3 => ?_)
    · replace h := (kp_if h).1 c_3
      exact b_M_linkTo_59 E hA hK R x3 h H locs ls hP hD hS (lv_sub hl [3] rfl)
    · replace h := (kp_if h).2 c_3
      refine lv_aload_n hx hb dX2_linkTo_25 rfl (lv_at hl 0 rfl) ?_
      refine lv_iload_n hx hb dX2_linkTo_26 rfl (lv_at hl 1 rfl) ?_
      refine lv_aload_n hx hb dX2_linkTo_27 rfl (lv_at hl 0 rfl) ?_
      refine va_get (D := (dC, dI)) (ci := 2) (v := .ref aMw) (C := RX2) (T := TX2) (N := 1) hx hb hts iw_M_linkTo_Memory hown hK hP 0 rfl rfl 0 (by decide) (hts _ mm_M_linkTo_0) (fun _ h9 => h9) rfl dX2_linkTo_28 ?_
      refine lv_iload_n hx hb dX2_linkTo_31 rfl (lv_at hl 3 rfl) ?_
      obtain ⟨hc_4, h⟩ := kp_in h
      refine va_iald hx hb hK hP 1 0 rfl rfl (kx_of hc_4) dX2_linkTo_32 ?_
      obtain ⟨r_5, hr_5, h⟩ := kp_bind h
      refine mk_contR (w := w_M cI cZ cS aM aMw mm) (w0 := w_M cI cZ cS aM aMw mm) (wr := []) hP hD hS hA [0, 1] [] rfl rfl (by decide) (by decide) [0, 1] rfl (by decide) (va_runV (As := [.int x1, .int (mm x3.toNatClampNeg)]) (rest := []) ⟨hx, hb, hml, hown, hts⟩ (c_M_isPageOf l dC dI cI cZ cS aM aMw mm x1 (mm x3.toNatClampNeg) r_5 hr_5 H.size) (cwV 2 hts gX2_linkTo_X2_isPageOf rfl rfl rfl (by decide +kernel) ⟨Nat.le_of_ble_eq_true rfl, Nat.le_of_ble_eq_true rfl⟩) (mk_preV (w0 := w_M cI cZ cS aM aMw mm) (ci := 2) (q0 := 0) hN hK (mk_pick hP [0, 1] rfl) (hD.sub [0, 1] (by decide) rfl) rfl rfl rfl) rfl rfl hl.1 rfl (lv_room (Nat.le_of_ble_eq_true rfl)) dX2_linkTo_33 ⟨Nat.zero_le _, Nat.zero_le _⟩) (fun H locs hP hD hS => ?_)
      refine lv_if_ne (tgt := 41) hx hb dX2_linkTo_36 (by decide) (fun c_6 => ?_) (fun c_6 => ?_)
      · replace h := (kp_if h).2 c_6
        refine lv_aload_n hx hb dX2_linkTo_41 rfl (lv_at hl 0 rfl) ?_
        refine va_get (D := (dC, dI)) (ci := 2) (v := .ref aMw) (C := RX2) (T := TX2) (N := 1) hx hb hts iw_M_linkTo_Memory hown hK hP 0 rfl rfl 0 (by decide) (hts _ mm_M_linkTo_0) (fun _ h9 => h9) rfl dX2_linkTo_42 ?_
        refine lv_iload_n hx hb dX2_linkTo_45 rfl (lv_at hl 3 rfl) ?_
        obtain ⟨hc_7, h⟩ := kp_in h
        refine va_iald hx hb hK hP 1 0 rfl rfl (kx_of hc_7) dX2_linkTo_46 ?_
        refine lv_bipush (v := 16) hx hb dX2_linkTo_47 (by decide) ?_
        refine lv_imul hx hb dX2_linkTo_49 ?_
        refine lv_iconst (v := 1) hx hb dX2_linkTo_50 (by decide) ?_
        refine lv_iadd hx hb dX2_linkTo_51 ?_
        refine lv_topi (fun v_8 ev_8 => ?_)
        replace h := kp_kl h v_8 ev_8
        refine lv_istore_n (lv' := [(3, .int v_8), (0, .ref aM), (1, .int x1), (2, .int x2), (4, .int x4)]) hx hb dX2_linkTo_52 rfl hl (by decide) rfl (fun ls hl => ?_)
        refine lv_iinc (v := x4 + 1) (lv' := [(4, .int (x4 + 1)), (3, .int v_8), (0, .ref aM), (1, .int x1), (2, .int x2)]) hx hb dX2_linkTo_53 hl (k := 4) rfl rfl (by decide) rfl (fun ls hl => ?_)
        refine lv_goto (tgt := 8) hx hb dX2_linkTo_56 (by decide) ?_
        exact hk_8 x1 x2 v_8 (x4 + 1) h H locs ls hP hD hS (lv_sub hl [2, 3, 4, 1, 0] rfl)
      · replace h := (kp_if h).1 c_6
        refine lv_iload_n hx hb dX2_linkTo_39 rfl (lv_at hl 3 rfl) ?_
        cases h
        exact mk_iretR E hK hP hD hS dX2_linkTo_40
set_option maxHeartbeats 4000000 in
set_option maxRecDepth 100000 in
theorem l_M_linkTo_8 {p : Program} {l : Launch} {e : Env} {s : State} {m : MethodId} {below : List Frame} {meth : Method} {c : Code} {A : Nat → Prop} {dC : Nat → ClassId} {dI : Nat → Nat → Nat} {cI cZ cS : ClassId} {aM aMw : Nat} {mm : Nat → Int32} {a1 : Int32} {a2 : Int32} (E : mk_En p s m meth c cX2_linkTo 5 (some .int) ([.ref aM, .int a1, .int a2] : List Value).toArray wsX2_linkTo yX2_linkTo.cls) (hA : ∀ q : Nat, s.heap.size ≤ q → A q) (hK : va_K (dC, dI) vwCl (tyz cI cZ cS) s) (R : Int32) : ∀ (n : Nat) (x1 : Int32) (x2 : Int32) (x3 : Int32) (x4 : Int32), pl_M_linkTo_8 mm n x1 x2 x3 x4 = some R → ∀ (H : Heap) (locs : List Loc) (ls : Array Slot), va_P (dC, dI) vwCl (w_M cI cZ cS aM aMw mm) H → va_D A (w_M cI cZ cS aM aMw mm) → va_S A s.heap H locs → lv_has ls 5 [(0, .ref aM), (1, .int x1), (2, .int x2), (3, .int x3), (4, .int x4)] → W p l e ({ frames := 1, cells := 0, slots := 0, locals := 22 } : Room) s m ([.ref aM, .int a1, .int a2] : List Value).toArray below meth c H locs 0 0 (MQ below (mk_QR (dC, dI) vwCl (tyz cI cZ cS) A (w_M cI cZ cS aM aMw mm) R) ([.ref aM, .int a1, .int a2] : List Value).toArray s 0 0 A) (F0 m 8 ls []) := by
  intro n
  induction n with
  | zero =>
    intro x1 x2 x3 x4 h
    cases h
  | succ n ih =>
    intro x1 x2 x3 x4 h
    exact b_M_linkTo_8 E hA hK R ih x1 x2 x3 x4 h
set_option maxHeartbeats 4000000 in
set_option maxRecDepth 100000 in
theorem c_M_linkTo (l : Launch) (dC : Nat → ClassId) (dI : Nat → Nat → Nat) (cI cZ cS : ClassId) (aM aMw : Nat) (mm : Nat → Int32) (a1 : Int32) (a2 : Int32) : CtR l yX2_linkTo wsX2_linkTo ({ frames := 1, cells := 0, slots := 0, locals := 22 }) (dC, dI) vwCl (tyz cI cZ cS) [.ref aM, .int a1, .int a2] (w_M cI cZ cS aM aMw mm) (p_M_linkTo mm a1 a2) := by
  intro R h
  refine mk_enter (Qc := (fun A => mk_QR (dC, dI) vwCl (tyz cI cZ cS) A (w_M cI cZ cS aM aMw mm) R)) (by decide) rfl (Nat.le_of_ble_eq_true rfl) ?_
  intro p e s m below meth c A E hA hK H locs ls hP hD hS hl
  obtain ⟨⟨hx, hb, hml, hown, hts⟩, hrt, hlk, hN⟩ := id E
  have hown : s.vm.findClass RX2 = some m.cls := hown
  have hl : lv_has ls 5 [(0, .ref aM), (1, .int a1), (2, .int a2)] := hl
  unfold p_M_linkTo at h
  refine lv_bipush (v := 8) hx hb dX2_linkTo_0 (by decide) ?_
  refine lv_iload_n hx hb dX2_linkTo_2 rfl (lv_at hl 1 rfl) ?_
  refine lv_iadd hx hb dX2_linkTo_3 ?_
  refine lv_topi (fun v_9 ev_9 => ?_)
  replace h := kp_kl h v_9 ev_9
  refine lv_istore_n (lv' := [(3, .int v_9), (0, .ref aM), (1, .int a1), (2, .int a2)]) hx hb dX2_linkTo_4 rfl hl (by decide) rfl (fun ls hl => ?_)
  refine lv_iconst (v := 0) hx hb dX2_linkTo_5 (by decide) ?_
  refine lv_istore (lv' := [(4, .int 0), (3, .int v_9), (0, .ref aM), (1, .int a1), (2, .int a2)]) hx hb dX2_linkTo_6 hl (by decide) rfl (fun ls hl => ?_)
  exact l_M_linkTo_8 E hA hK R 1000 a1 a2 v_9 0 h H locs ls hP hD hS (lv_sub hl [2, 3, 4, 1, 0] rfl)

/- Memory.putRow(III[I)V -/
set_option maxRecDepth 20000 in
theorem mm_M_putRow_0 : Cond.fieldLink RX2 9 "JournaledTables$Memory" "words" "[I" ∈ wsX2_putRow := by decide +kernel
set_option maxRecDepth 20000 in
theorem iw_M_putRow_Memory : ∀ w ∈ u_ws RX2 TX2 1, w ∈ wsX2_putRow := by decide +kernel
set_option maxRecDepth 20000 in
theorem mm_M_putRow_2 : Cond.methodLink RX2 18 arraycopyName ∈ wsX2_putRow := by decide +kernel
set_option maxRecDepth 20000 in
theorem mm_M_putRow_3 : Cond.native arraycopyName ∈ wsX2_putRow := by decide +kernel
set_option maxRecDepth 20000 in
theorem mm_M_putRow_4 : Cond.static arraycopyName ∈ wsX2_putRow := by decide +kernel
set_option maxRecDepth 20000 in
theorem mm_M_putRow_5 : Cond.initialized "java/lang/System" ∈ wsX2_putRow := by decide +kernel
set_option maxHeartbeats 4000000 in
set_option maxRecDepth 100000 in
theorem c_M_putRow (l : Launch) (dC : Nat → ClassId) (dI : Nat → Nat → Nat) (cI cZ cS : ClassId) (aM aMw aSt : Nat) (mm : Nat → Int32) (sg : Nat → Int32) (a1 : Int32) (a2 : Int32) (a3 : Int32) : CtV l yX2_putRow wsX2_putRow ({ frames := 3, cells := 0, slots := 0, locals := 65 }) (dC, dI) vwCl (tyz cI cZ cS) [.ref aM, .int a1, .int a2, .int a3, .ref aSt] (w_MS cI cZ cS aM aMw aSt mm sg) (fun u : (Nat → Int32) => w_MS cI cZ cS aM aMw aSt u sg) (p_M_putRow mm sg a1 a2 a3) := by
  intro R h
  refine mk_enter (Qc := (fun A => mk_QV (dC, dI) vwCl (tyz cI cZ cS) A (fun u : (Nat → Int32) => w_MS cI cZ cS aM aMw aSt u sg) R)) (by decide) rfl (Nat.le_of_ble_eq_true rfl) ?_
  intro p e s m below meth c A E hA hK H locs ls hP hD hS hl
  obtain ⟨⟨hx, hb, hml, hown, hts⟩, hrt, hlk, hN⟩ := id E
  have hown : s.vm.findClass RX2 = some m.cls := hown
  have hl : lv_has ls 5 [(0, .ref aM), (1, .int a1), (2, .int a2), (3, .int a3), (4, .ref aSt)] := hl
  unfold p_M_putRow at h
  refine lv_aload hx hb dX2_putRow_0 (lv_at hl 4 rfl) ?_
  refine lv_iconst (v := 0) hx hb dX2_putRow_2 (by decide) ?_
  refine lv_aload_n hx hb dX2_putRow_3 rfl (lv_at hl 0 rfl) ?_
  refine va_get (D := (dC, dI)) (ci := 2) (v := .ref aMw) (C := RX2) (T := TX2) (N := 1) hx hb hts iw_M_putRow_Memory hown hK hP 0 rfl rfl 0 (by decide) (hts _ mm_M_putRow_0) (fun _ h9 => h9) rfl dX2_putRow_4 ?_
  refine lv_aload_n hx hb dX2_putRow_7 rfl (lv_at hl 0 rfl) ?_
  refine lv_iload_n hx hb dX2_putRow_8 rfl (lv_at hl 1 rfl) ?_
  refine lv_iload_n hx hb dX2_putRow_9 rfl (lv_at hl 2 rfl) ?_
  refine lv_iload_n hx hb dX2_putRow_10 rfl (lv_at hl 3 rfl) ?_
  obtain ⟨r_1, hr_1, h⟩ := kp_bind h
  refine mk_contR (w := w_MS cI cZ cS aM aMw aSt mm sg) (w0 := w_M cI cZ cS aM aMw mm) (wr := [(aSt, .inl (cI, 6, .inl sg))]) hP hD hS hA [0, 1] [2] rfl rfl (by decide) (by decide) [1, 2, 0] rfl (by decide) (va_runV (As := [.int a1, .int a2, .int a3]) (rest := [.ref aMw, .int 0, .ref aSt]) ⟨hx, hb, hml, hown, hts⟩ (c_M_rowAt l dC dI cI cZ cS aM aMw mm a1 a2 a3 r_1 hr_1 H.size) (cwV 3 hts gX2_putRow_X2_rowAt rfl rfl rfl (by decide +kernel) ⟨Nat.le_of_ble_eq_true rfl, Nat.le_of_ble_eq_true rfl⟩) (mk_preV (w0 := w_M cI cZ cS aM aMw mm) (ci := 2) (q0 := 0) hN hK (mk_pick hP [0, 1] rfl) (hD.sub [0, 1] (by decide) rfl) rfl rfl rfl) rfl rfl hl.1 rfl (lv_room (Nat.le_of_ble_eq_true rfl)) dX2_putRow_11 ⟨Nat.zero_le _, Nat.zero_le _⟩) (fun H locs hP hD hS => ?_)
  refine lv_aload_n hx hb dX2_putRow_14 rfl (lv_at hl 0 rfl) ?_
  refine lv_iload_n hx hb dX2_putRow_15 rfl (lv_at hl 1 rfl) ?_
  obtain ⟨r_2, hr_2, h⟩ := kp_bind h
  refine mk_contR (w := w_MS cI cZ cS aM aMw aSt mm sg) (w0 := w_M cI cZ cS aM aMw mm) (wr := [(aSt, .inl (cI, 6, .inl sg))]) hP hD hS hA [0, 1] [2] rfl rfl (by decide) (by decide) [1, 2, 0] rfl (by decide) (va_runV (As := [.int a1]) (rest := [.int r_1, .ref aMw, .int 0, .ref aSt]) ⟨hx, hb, hml, hown, hts⟩ (c_M_width l dC dI cI cZ cS aM aMw mm a1 r_2 hr_2 H.size) (cwV 1 hts gX2_putRow_X2_width rfl rfl rfl (by decide +kernel) ⟨Nat.le_of_ble_eq_true rfl, Nat.le_of_ble_eq_true rfl⟩) (mk_preV (w0 := w_M cI cZ cS aM aMw mm) (ci := 2) (q0 := 0) hN hK (mk_pick hP [0, 1] rfl) (hD.sub [0, 1] (by decide) rfl) rfl rfl rfl) rfl rfl hl.1 rfl (lv_room (Nat.le_of_ble_eq_true rfl)) dX2_putRow_16 ⟨Nat.zero_le _, Nat.zero_le _⟩) (fun H locs hP hD hS => ?_)
  obtain ⟨hc_3, h⟩ := kp_in h
  refine va_copyi hx hb (hml.trans hl.1.symm) hown (hts _ mm_M_putRow_2) (hts _ mm_M_putRow_3) (hts _ mm_M_putRow_4) (hts _ mm_M_putRow_5) hK hP hD hS 2 1 0 0 rfl rfl rfl rfl rfl (kx_cp1 hc_3) (kx_cp2 hc_3) (kx_cp3 hc_3) (kx_cp4 hc_3) (kx_cp5 hc_3) (fun _ _ => rfl) (Nat.le_of_ble_eq_true rfl) (by decide +kernel) dX2_putRow_19 (fun H locs hP hD hS => ?_)
  have hP : va_P (dC, dI) vwCl (w_MS cI cZ cS aM aMw aSt (va_cpy sg mm (0 : Int32).toNatClampNeg r_1.toNatClampNeg r_2.toNatClampNeg) sg) H := hP
  have hD : va_D A (w_MS cI cZ cS aM aMw aSt (va_cpy sg mm (0 : Int32).toNatClampNeg r_1.toNatClampNeg r_2.toNatClampNeg) sg) := hD
  refine lv_aload_n hx hb dX2_putRow_22 rfl (lv_at hl 0 rfl) ?_
  refine va_get (D := (dC, dI)) (ci := 2) (v := .ref aMw) (C := RX2) (T := TX2) (N := 1) hx hb hts iw_M_putRow_Memory hown hK hP 0 rfl rfl 0 (by decide) (hts _ mm_M_putRow_0) (fun _ h9 => h9) rfl dX2_putRow_23 ?_
  refine lv_iload_n hx hb dX2_putRow_26 rfl (lv_at hl 2 rfl) ?_
  refine lv_bipush (v := 16) hx hb dX2_putRow_27 (by decide) ?_
  refine lv_imul hx hb dX2_putRow_29 ?_
  refine lv_iconst (v := 2) hx hb dX2_putRow_30 (by decide) ?_
  refine lv_iadd hx hb dX2_putRow_31 ?_
  refine lv_dup2_11 hx hb dX2_putRow_32 rfl rfl ?_
  obtain ⟨hc_4, h⟩ := kp_in h
  refine va_iald hx hb hK hP 1 0 rfl rfl (kx_of hc_4) dX2_putRow_33 ?_
  refine lv_iconst (v := 1) hx hb dX2_putRow_34 (by decide) ?_
  refine lv_iload_n hx hb dX2_putRow_35 rfl (lv_at hl 3 rfl) ?_
  refine lv_ishl hx hb dX2_putRow_36 ?_
  refine lv_ior hx hb dX2_putRow_37 ?_
  obtain ⟨hc_5, h⟩ := kp_in h
  refine va_iast hx hb hK hP hD hS 1 0 rfl rfl (kx_of hc_5) dX2_putRow_38 (fun H locs hP hD hS => ?_)
  have hP : va_P (dC, dI) vwCl (w_MS cI cZ cS aM aMw aSt (upd (va_cpy sg mm (0 : Int32).toNatClampNeg r_1.toNatClampNeg r_2.toNatClampNeg) ((a2 * 16) + 2).toNatClampNeg (((va_cpy sg mm (0 : Int32).toNatClampNeg r_1.toNatClampNeg r_2.toNatClampNeg) ((a2 * 16) + 2).toNatClampNeg) ||| ((1 : Int32) <<< (a3 &&& 31)))) sg) H := hP
  have hD : va_D A (w_MS cI cZ cS aM aMw aSt (upd (va_cpy sg mm (0 : Int32).toNatClampNeg r_1.toNatClampNeg r_2.toNatClampNeg) ((a2 * 16) + 2).toNatClampNeg (((va_cpy sg mm (0 : Int32).toNatClampNeg r_1.toNatClampNeg r_2.toNatClampNeg) ((a2 * 16) + 2).toNatClampNeg) ||| ((1 : Int32) <<< (a3 &&& 31)))) sg) := hD
  cases h
  exact mk_vret E hK hP hD hS dX2_putRow_39

/- Memory.addRow(I[I)Z -/
set_option maxRecDepth 20000 in
theorem mm_M_addRow_0 : Cond.fieldLink RX2 9 "JournaledTables$Memory" "words" "[I" ∈ wsX2_addRow := by decide +kernel
set_option maxRecDepth 20000 in
theorem iw_M_addRow_Memory : ∀ w ∈ u_ws RX2 TX2 1, w ∈ wsX2_addRow := by decide +kernel
set_option maxHeartbeats 4000000 in
set_option maxRecDepth 100000 in
theorem c_M_addRow (l : Launch) (dC : Nat → ClassId) (dI : Nat → Nat → Nat) (cI cZ cS : ClassId) (aM aMw aSt : Nat) (mm : Nat → Int32) (sg : Nat → Int32) (a1 : Int32) : CtI l yX2_addRow wsX2_addRow ({ frames := 5, cells := 0, slots := 0, locals := 110 }) (dC, dI) vwCl (tyz cI cZ cS) [.ref aM, .int a1, .ref aSt] (w_MS cI cZ cS aM aMw aSt mm sg) (fun u : (Nat → Int32) => w_MS cI cZ cS aM aMw aSt u sg) (p_M_addRow mm sg a1) := by
  intro R h
  refine mk_enter (Qc := (fun A => mk_QI (dC, dI) vwCl (tyz cI cZ cS) A (fun u : (Nat → Int32) => w_MS cI cZ cS aM aMw aSt u sg) R)) (by decide) rfl (Nat.le_of_ble_eq_true rfl) ?_
  intro p e s m below meth c A E hA hK H locs ls hP hD hS hl
  obtain ⟨⟨hx, hb, hml, hown, hts⟩, hrt, hlk, hN⟩ := id E
  have hown : s.vm.findClass RX2 = some m.cls := hown
  have hl : lv_has ls 4 [(0, .ref aM), (1, .int a1), (2, .ref aSt)] := hl
  unfold p_M_addRow at h
  refine lv_aload_n hx hb dX2_addRow_0 rfl (lv_at hl 0 rfl) ?_
  refine lv_iload_n hx hb dX2_addRow_1 rfl (lv_at hl 1 rfl) ?_
  obtain ⟨r_1, hr_1, h⟩ := kp_bind h
  refine mk_contR (w := w_MS cI cZ cS aM aMw aSt mm sg) (w0 := w_M cI cZ cS aM aMw mm) (wr := [(aSt, .inl (cI, 6, .inl sg))]) hP hD hS hA [0, 1] [2] rfl rfl (by decide) (by decide) [1, 2, 0] rfl (by decide) (va_runV (As := [.int a1]) (rest := []) ⟨hx, hb, hml, hown, hts⟩ (c_M_pageWithRoom l dC dI cI cZ cS aM aMw mm a1 r_1 hr_1 H.size) (cwV 1 hts gX2_addRow_X2_pageWithRoom rfl rfl rfl (by decide +kernel) ⟨Nat.le_of_ble_eq_true rfl, Nat.le_of_ble_eq_true rfl⟩) (mk_preV (w0 := w_M cI cZ cS aM aMw mm) (ci := 2) (q0 := 0) hN hK (mk_pick hP [0, 1] rfl) (hD.sub [0, 1] (by decide) rfl) rfl rfl rfl) rfl rfl hl.1 rfl (lv_room (Nat.le_of_ble_eq_true rfl)) dX2_addRow_2 ⟨Nat.zero_le _, Nat.zero_le _⟩) (fun H locs hP hD hS => ?_)
  refine lv_istore_n (lv' := [(3, .int r_1), (0, .ref aM), (1, .int a1), (2, .ref aSt)]) hx hb dX2_addRow_5 rfl hl (by decide) rfl (fun ls hl => ?_)
  refine lv_iload_n hx hb dX2_addRow_6 rfl (lv_at hl 0 rfl) ?_
  refine lv_if_eq (tgt := 25) hx hb dX2_addRow_7 (by decide) (fun c_2 => ?_) (fun c_2 => ?_)
  · replace h := (kp_if h).1 c_2
    refine lv_aload_n hx hb dX2_addRow_25 rfl (lv_at hl 1 rfl) ?_
    obtain ⟨r_3, hr_3, h⟩ := kp_bind h
    refine mk_contR (w := w_MS cI cZ cS aM aMw aSt mm sg) (w0 := w_M cI cZ cS aM aMw mm) (wr := [(aSt, .inl (cI, 6, .inl sg))]) hP hD hS hA [0, 1] [2] rfl rfl (by decide) (by decide) [1, 2, 0] rfl (by decide) (va_runV (As := []) (rest := []) ⟨hx, hb, hml, hown, hts⟩ (c_M_freePage l dC dI cI cZ cS aM aMw mm r_3 hr_3 H.size) (cwV 0 hts gX2_addRow_X2_freePage rfl rfl rfl (by decide +kernel) ⟨Nat.le_of_ble_eq_true rfl, Nat.le_of_ble_eq_true rfl⟩) (mk_preV (w0 := w_M cI cZ cS aM aMw mm) (ci := 2) (q0 := 0) hN hK (mk_pick hP [0, 1] rfl) (hD.sub [0, 1] (by decide) rfl) rfl rfl rfl) rfl rfl hl.1 rfl (lv_room (Nat.le_of_ble_eq_true rfl)) dX2_addRow_26 ⟨Nat.zero_le _, Nat.zero_le _⟩) (fun H locs hP hD hS => ?_)
    refine lv_istore_n (lv' := [(3, .int r_3), (0, .ref aM), (1, .int a1), (2, .ref aSt)]) hx hb dX2_addRow_29 rfl hl (by decide) rfl (fun ls hl => ?_)
    refine lv_iload_n hx hb dX2_addRow_30 rfl (lv_at hl 0 rfl) ?_
    refine lv_if_ne (tgt := 36) hx hb dX2_addRow_31 (by decide) (fun c_4 => ?_) (fun c_4 => ?_)
    · replace h := (kp_if h).2 c_4
      refine lv_aload_n hx hb dX2_addRow_36 rfl (lv_at hl 1 rfl) ?_
      refine va_get (D := (dC, dI)) (ci := 2) (v := .ref aMw) (C := RX2) (T := TX2) (N := 1) hx hb hts iw_M_addRow_Memory hown hK hP 0 rfl rfl 0 (by decide) (hts _ mm_M_addRow_0) (fun _ h9 => h9) rfl dX2_addRow_37 ?_
      refine lv_aload_n hx hb dX2_addRow_40 rfl (lv_at hl 1 rfl) ?_
      refine lv_iload_n hx hb dX2_addRow_41 rfl (lv_at hl 2 rfl) ?_
      refine lv_iconst (v := 0) hx hb dX2_addRow_42 (by decide) ?_
      obtain ⟨r_5, hr_5, h⟩ := kp_bind h
      refine mk_contR (w := w_MS cI cZ cS aM aMw aSt mm sg) (w0 := w_M cI cZ cS aM aMw mm) (wr := [(aSt, .inl (cI, 6, .inl sg))]) hP hD hS hA [0, 1] [2] rfl rfl (by decide) (by decide) [1, 2, 0] rfl (by decide) (va_runV (As := [.int a1, .int 0]) (rest := [.ref aMw]) ⟨hx, hb, hml, hown, hts⟩ (c_M_linkTo l dC dI cI cZ cS aM aMw mm a1 0 r_5 hr_5 H.size) (cwV 2 hts gX2_addRow_X2_linkTo rfl rfl rfl (by decide +kernel) ⟨Nat.le_of_ble_eq_true rfl, Nat.le_of_ble_eq_true rfl⟩) (mk_preV (w0 := w_M cI cZ cS aM aMw mm) (ci := 2) (q0 := 0) hN hK (mk_pick hP [0, 1] rfl) (hD.sub [0, 1] (by decide) rfl) rfl rfl rfl) rfl rfl hl.1 rfl (lv_room (Nat.le_of_ble_eq_true rfl)) dX2_addRow_43 ⟨Nat.zero_le _, Nat.zero_le _⟩) (fun H locs hP hD hS => ?_)
      refine lv_iload_n hx hb dX2_addRow_46 rfl (lv_at hl 0 rfl) ?_
      obtain ⟨hc_6, h⟩ := kp_in h
      refine va_iast hx hb hK hP hD hS 1 0 rfl rfl (kx_of hc_6) dX2_addRow_47 (fun H locs hP hD hS => ?_)
      have hP : va_P (dC, dI) vwCl (w_MS cI cZ cS aM aMw aSt (upd mm r_5.toNatClampNeg r_3) sg) H := hP
      have hD : va_D A (w_MS cI cZ cS aM aMw aSt (upd mm r_5.toNatClampNeg r_3) sg) := hD
      refine lv_aload_n hx hb dX2_addRow_48 rfl (lv_at hl 1 rfl) ?_
      refine va_get (D := (dC, dI)) (ci := 2) (v := .ref aMw) (C := RX2) (T := TX2) (N := 1) hx hb hts iw_M_addRow_Memory hown hK hP 0 rfl rfl 0 (by decide) (hts _ mm_M_addRow_0) (fun _ h9 => h9) rfl dX2_addRow_49 ?_
      refine lv_iload_n hx hb dX2_addRow_52 rfl (lv_at hl 0 rfl) ?_
      refine lv_bipush (v := 16) hx hb dX2_addRow_53 (by decide) ?_
      refine lv_imul hx hb dX2_addRow_55 ?_
      refine lv_iload_n hx hb dX2_addRow_56 rfl (lv_at hl 2 rfl) ?_
      refine lv_iconst (v := 1) hx hb dX2_addRow_57 (by decide) ?_
      refine lv_iadd hx hb dX2_addRow_58 ?_
      obtain ⟨hc_7, h⟩ := kp_in h
      refine va_iast hx hb hK hP hD hS 1 0 rfl rfl (kx_of hc_7) dX2_addRow_59 (fun H locs hP hD hS => ?_)
      have hP : va_P (dC, dI) vwCl (w_MS cI cZ cS aM aMw aSt (upd (upd mm r_5.toNatClampNeg r_3) (r_3 * 16).toNatClampNeg (a1 + 1)) sg) H := hP
      have hD : va_D A (w_MS cI cZ cS aM aMw aSt (upd (upd mm r_5.toNatClampNeg r_3) (r_3 * 16).toNatClampNeg (a1 + 1)) sg) := hD
      refine lv_aload_n hx hb dX2_addRow_60 rfl (lv_at hl 1 rfl) ?_
      refine lv_iload_n hx hb dX2_addRow_61 rfl (lv_at hl 2 rfl) ?_
      refine lv_iload_n hx hb dX2_addRow_62 rfl (lv_at hl 0 rfl) ?_
      refine lv_iconst (v := 0) hx hb dX2_addRow_63 (by decide) ?_
      refine lv_aload_n hx hb dX2_addRow_64 rfl (lv_at hl 3 rfl) ?_
      obtain ⟨r_8, hr_8, h⟩ := kp_bind h
      refine mk_contV (w := w_MS cI cZ cS aM aMw aSt (upd (upd mm r_5.toNatClampNeg r_3) (r_3 * 16).toNatClampNeg (a1 + 1)) sg) (w0 := w_MS cI cZ cS aM aMw aSt (upd (upd mm r_5.toNatClampNeg r_3) (r_3 * 16).toNatClampNeg (a1 + 1)) sg) (wr := []) (w2 := w_MS cI cZ cS aM aMw aSt r_8 sg) hP hD hS hA [0, 1, 2] [] rfl rfl (by decide) (by decide) [0, 1, 2] rfl (by decide) (va_runV (As := [.int a1, .int r_3, .int 0, .ref aSt]) (rest := []) ⟨hx, hb, hml, hown, hts⟩ (c_M_putRow l dC dI cI cZ cS aM aMw aSt (upd (upd mm r_5.toNatClampNeg r_3) (r_3 * 16).toNatClampNeg (a1 + 1)) sg a1 r_3 0 r_8 hr_8 H.size) (cwV 4 hts gX2_addRow_X2_putRow rfl rfl rfl (by decide +kernel) ⟨Nat.le_of_ble_eq_true rfl, Nat.le_of_ble_eq_true rfl⟩) (mk_preV (w0 := w_MS cI cZ cS aM aMw aSt (upd (upd mm r_5.toNatClampNeg r_3) (r_3 * 16).toNatClampNeg (a1 + 1)) sg) (ci := 2) (q0 := 0) hN hK (mk_pick hP [0, 1, 2] rfl) (hD.sub [0, 1, 2] (by decide) rfl) rfl rfl rfl) rfl rfl hl.1 rfl (lv_room (Nat.le_of_ble_eq_true rfl)) dX2_addRow_65 ⟨Nat.zero_le _, Nat.zero_le _⟩) (fun H locs hP hD hS => ?_)
      refine lv_iconst (v := 1) hx hb dX2_addRow_68 (by decide) ?_
      cases h
      exact mk_zret E (by decide) hK hP hD hS dX2_addRow_69
    · replace h := (kp_if h).1 c_4
      refine lv_iconst (v := 0) hx hb dX2_addRow_34 (by decide) ?_
      cases h
      exact mk_zret E (by decide) hK hP hD hS dX2_addRow_35
  · replace h := (kp_if h).2 c_2
    refine lv_aload_n hx hb dX2_addRow_10 rfl (lv_at hl 1 rfl) ?_
    refine lv_iload_n hx hb dX2_addRow_11 rfl (lv_at hl 2 rfl) ?_
    refine lv_iload_n hx hb dX2_addRow_12 rfl (lv_at hl 0 rfl) ?_
    refine lv_aload_n hx hb dX2_addRow_13 rfl (lv_at hl 1 rfl) ?_
    refine lv_iload_n hx hb dX2_addRow_14 rfl (lv_at hl 2 rfl) ?_
    refine lv_iload_n hx hb dX2_addRow_15 rfl (lv_at hl 0 rfl) ?_
    obtain ⟨r_9, hr_9, h⟩ := kp_bind h
    refine mk_contR (w := w_MS cI cZ cS aM aMw aSt mm sg) (w0 := w_M cI cZ cS aM aMw mm) (wr := [(aSt, .inl (cI, 6, .inl sg))]) hP hD hS hA [0, 1] [2] rfl rfl (by decide) (by decide) [1, 2, 0] rfl (by decide) (va_runV (As := [.int a1, .int r_1]) (rest := [.int r_1, .int a1, .ref aM]) ⟨hx, hb, hml, hown, hts⟩ (c_M_freeSlot l dC dI cI cZ cS aM aMw mm a1 r_1 r_9 hr_9 H.size) (cwV 2 hts gX2_addRow_X2_freeSlot rfl rfl rfl (by decide +kernel) ⟨Nat.le_of_ble_eq_true rfl, Nat.le_of_ble_eq_true rfl⟩) (mk_preV (w0 := w_M cI cZ cS aM aMw mm) (ci := 2) (q0 := 0) hN hK (mk_pick hP [0, 1] rfl) (hD.sub [0, 1] (by decide) rfl) rfl rfl rfl) rfl rfl hl.1 rfl (lv_room (Nat.le_of_ble_eq_true rfl)) dX2_addRow_16 ⟨Nat.zero_le _, Nat.zero_le _⟩) (fun H locs hP hD hS => ?_)
    refine lv_aload_n hx hb dX2_addRow_19 rfl (lv_at hl 3 rfl) ?_
    obtain ⟨r_10, hr_10, h⟩ := kp_bind h
    refine mk_contV (w := w_MS cI cZ cS aM aMw aSt mm sg) (w0 := w_MS cI cZ cS aM aMw aSt mm sg) (wr := []) (w2 := w_MS cI cZ cS aM aMw aSt r_10 sg) hP hD hS hA [0, 1, 2] [] rfl rfl (by decide) (by decide) [0, 1, 2] rfl (by decide) (va_runV (As := [.int a1, .int r_1, .int r_9, .ref aSt]) (rest := []) ⟨hx, hb, hml, hown, hts⟩ (c_M_putRow l dC dI cI cZ cS aM aMw aSt mm sg a1 r_1 r_9 r_10 hr_10 H.size) (cwV 4 hts gX2_addRow_X2_putRow rfl rfl rfl (by decide +kernel) ⟨Nat.le_of_ble_eq_true rfl, Nat.le_of_ble_eq_true rfl⟩) (mk_preV (w0 := w_MS cI cZ cS aM aMw aSt mm sg) (ci := 2) (q0 := 0) hN hK (mk_pick hP [0, 1, 2] rfl) (hD.sub [0, 1, 2] (by decide) rfl) rfl rfl rfl) rfl rfl hl.1 rfl (lv_room (Nat.le_of_ble_eq_true rfl)) dX2_addRow_20 ⟨Nat.zero_le _, Nat.zero_le _⟩) (fun H locs hP hD hS => ?_)
    refine lv_iconst (v := 1) hx hb dX2_addRow_23 (by decide) ?_
    cases h
    exact mk_zret E (by decide) hK hP hD hS dX2_addRow_24

/- Memory.removeRow(II)V -/
set_option maxRecDepth 20000 in
theorem mm_M_removeRow_0 : Cond.fieldLink RX2 9 "JournaledTables$Memory" "words" "[I" ∈ wsX2_removeRow := by decide +kernel
set_option maxRecDepth 20000 in
theorem iw_M_removeRow_Memory : ∀ w ∈ u_ws RX2 TX2 1, w ∈ wsX2_removeRow := by decide +kernel
set_option maxHeartbeats 4000000 in
set_option maxRecDepth 100000 in
theorem b_M_removeRow_110 {p : Program} {l : Launch} {e : Env} {s : State} {m : MethodId} {below : List Frame} {meth : Method} {c : Code} {A : Nat → Prop} {dC : Nat → ClassId} {dI : Nat → Nat → Nat} {cI cZ cS : ClassId} {aM aMw : Nat} {a1 : Int32} {a2 : Int32} (E : mk_En p s m meth c cX2_removeRow 6 none ([.ref aM, .int a1, .int a2] : List Value).toArray wsX2_removeRow yX2_removeRow.cls) (hA : ∀ q : Nat, s.heap.size ≤ q → A q) (hK : va_K (dC, dI) vwCl (tyz cI cZ cS) s) (R : (Nat → Int32)) (mm : Nat → Int32) (h : p_M_removeRow_110 mm = some R) : ∀ (H : Heap) (locs : List Loc) (ls : Array Slot), va_P (dC, dI) vwCl (w_M cI cZ cS aM aMw mm) H → va_D A (w_M cI cZ cS aM aMw mm) → va_S A s.heap H locs → lv_has ls 6 [] → W p l e ({ frames := 3, cells := 0, slots := 0, locals := 65 } : Room) s m ([.ref aM, .int a1, .int a2] : List Value).toArray below meth c H locs 0 0 (MQ below (mk_QV (dC, dI) vwCl (tyz cI cZ cS) A (fun u : (Nat → Int32) => w_M cI cZ cS aM aMw u) R) ([.ref aM, .int a1, .int a2] : List Value).toArray s 0 0 A) (F0 m 110 ls []) := by
  intro H locs ls hP hD hS hl
  obtain ⟨⟨hx, hb, hml, hown, hts⟩, hrt, hlk, hN⟩ := id E
  have hown : s.vm.findClass RX2 = some m.cls := hown
  unfold p_M_removeRow_110 at h
  cases h
  exact mk_vret E hK hP hD hS dX2_removeRow_110
set_option maxHeartbeats 4000000 in
set_option maxRecDepth 100000 in
theorem b_M_removeRow_54 {p : Program} {l : Launch} {e : Env} {s : State} {m : MethodId} {below : List Frame} {meth : Method} {c : Code} {A : Nat → Prop} {dC : Nat → ClassId} {dI : Nat → Nat → Nat} {cI cZ cS : ClassId} {aM aMw : Nat} {a1 : Int32} {a2 : Int32} (E : mk_En p s m meth c cX2_removeRow 6 none ([.ref aM, .int a1, .int a2] : List Value).toArray wsX2_removeRow yX2_removeRow.cls) (hA : ∀ q : Nat, s.heap.size ≤ q → A q) (hK : va_K (dC, dI) vwCl (tyz cI cZ cS) s) (R : (Nat → Int32)) {k_14 : Int32 → Int32 → Int32 → Int32 → Int32 → (Nat → Int32) → Option ((Nat → Int32))} (hk_14 : ∀ (x1 : Int32) (x2 : Int32) (x3 : Int32) (x4 : Int32) (x5 : Int32) (mm : Nat → Int32), k_14 x1 x2 x3 x4 x5 mm = some R → ∀ (H : Heap) (locs : List Loc) (ls : Array Slot), va_P (dC, dI) vwCl (w_M cI cZ cS aM aMw mm) H → va_D A (w_M cI cZ cS aM aMw mm) → va_S A s.heap H locs → lv_has ls 6 [(0, .ref aM), (1, .int x1), (2, .int x2), (3, .int x3), (4, .int x4), (5, .int x5)] → W p l e ({ frames := 3, cells := 0, slots := 0, locals := 65 } : Room) s m ([.ref aM, .int a1, .int a2] : List Value).toArray below meth c H locs 0 0 (MQ below (mk_QV (dC, dI) vwCl (tyz cI cZ cS) A (fun u : (Nat → Int32) => w_M cI cZ cS aM aMw u) R) ([.ref aM, .int a1, .int a2] : List Value).toArray s 0 0 A) (F0 m 14 ls [])) (x1 : Int32) (x2 : Int32) (x3 : Int32) (x4 : Int32) (x5 : Int32) (mm : Nat → Int32) (h : p_M_removeRow_54 k_14 x1 x2 x3 x4 x5 mm = some R) : ∀ (H : Heap) (locs : List Loc) (ls : Array Slot), va_P (dC, dI) vwCl (w_M cI cZ cS aM aMw mm) H → va_D A (w_M cI cZ cS aM aMw mm) → va_S A s.heap H locs → lv_has ls 6 [(0, .ref aM), (1, .int x1), (2, .int x2), (3, .int x3), (4, .int x4), (5, .int x5)] → W p l e ({ frames := 3, cells := 0, slots := 0, locals := 65 } : Room) s m ([.ref aM, .int a1, .int a2] : List Value).toArray below meth c H locs 0 0 (MQ below (mk_QV (dC, dI) vwCl (tyz cI cZ cS) A (fun u : (Nat → Int32) => w_M cI cZ cS aM aMw u) R) ([.ref aM, .int a1, .int a2] : List Value).toArray s 0 0 A) (F0 m 54 ls []) := by
  intro H locs ls hP hD hS hl
  obtain ⟨⟨hx, hb, hml, hown, hts⟩, hrt, hlk, hN⟩ := id E
  have hown : s.vm.findClass RX2 = some m.cls := hown
  unfold p_M_removeRow_54 at h
  refine lv_iinc (v := x5 + 1) (lv' := [(5, .int (x5 + 1)), (0, .ref aM), (1, .int x1), (2, .int x2), (3, .int x3), (4, .int x4)]) hx hb dX2_removeRow_54 hl (k := 5) rfl rfl (by decide) rfl (fun ls hl => ?_)
  refine lv_goto (tgt := 14) hx hb dX2_removeRow_57 (by decide) ?_
  exact hk_14 x1 x2 x3 x4 (x5 + 1) mm h H locs ls hP hD hS (lv_sub hl [1, 2, 3, 4, 5, 0] rfl)
set_option maxHeartbeats 4000000 in
set_option maxRecDepth 100000 in
theorem b_M_removeRow_14 {p : Program} {l : Launch} {e : Env} {s : State} {m : MethodId} {below : List Frame} {meth : Method} {c : Code} {A : Nat → Prop} {dC : Nat → ClassId} {dI : Nat → Nat → Nat} {cI cZ cS : ClassId} {aM aMw : Nat} {a1 : Int32} {a2 : Int32} (E : mk_En p s m meth c cX2_removeRow 6 none ([.ref aM, .int a1, .int a2] : List Value).toArray wsX2_removeRow yX2_removeRow.cls) (hA : ∀ q : Nat, s.heap.size ≤ q → A q) (hK : va_K (dC, dI) vwCl (tyz cI cZ cS) s) (R : (Nat → Int32)) {k_14 : Int32 → Int32 → Int32 → Int32 → Int32 → (Nat → Int32) → Option ((Nat → Int32))} (hk_14 : ∀ (x1 : Int32) (x2 : Int32) (x3 : Int32) (x4 : Int32) (x5 : Int32) (mm : Nat → Int32), k_14 x1 x2 x3 x4 x5 mm = some R → ∀ (H : Heap) (locs : List Loc) (ls : Array Slot), va_P (dC, dI) vwCl (w_M cI cZ cS aM aMw mm) H → va_D A (w_M cI cZ cS aM aMw mm) → va_S A s.heap H locs → lv_has ls 6 [(0, .ref aM), (1, .int x1), (2, .int x2), (3, .int x3), (4, .int x4), (5, .int x5)] → W p l e ({ frames := 3, cells := 0, slots := 0, locals := 65 } : Room) s m ([.ref aM, .int a1, .int a2] : List Value).toArray below meth c H locs 0 0 (MQ below (mk_QV (dC, dI) vwCl (tyz cI cZ cS) A (fun u : (Nat → Int32) => w_M cI cZ cS aM aMw u) R) ([.ref aM, .int a1, .int a2] : List Value).toArray s 0 0 A) (F0 m 14 ls [])) (x1 : Int32) (x2 : Int32) (x3 : Int32) (x4 : Int32) (x5 : Int32) (mm : Nat → Int32) (h : p_M_removeRow_14 k_14 x1 x2 x3 x4 x5 mm = some R) : ∀ (H : Heap) (locs : List Loc) (ls : Array Slot), va_P (dC, dI) vwCl (w_M cI cZ cS aM aMw mm) H → va_D A (w_M cI cZ cS aM aMw mm) → va_S A s.heap H locs → lv_has ls 6 [(0, .ref aM), (1, .int x1), (2, .int x2), (3, .int x3), (4, .int x4), (5, .int x5)] → W p l e ({ frames := 3, cells := 0, slots := 0, locals := 65 } : Room) s m ([.ref aM, .int a1, .int a2] : List Value).toArray below meth c H locs 0 0 (MQ below (mk_QV (dC, dI) vwCl (tyz cI cZ cS) A (fun u : (Nat → Int32) => w_M cI cZ cS aM aMw u) R) ([.ref aM, .int a1, .int a2] : List Value).toArray s 0 0 A) (F0 m 14 ls []) := by
  intro H locs ls hP hD hS hl
  obtain ⟨⟨hx, hb, hml, hown, hts⟩, hrt, hlk, hN⟩ := id E
  have hown : s.vm.findClass RX2 = some m.cls := hown
  unfold p_M_removeRow_14 at h
  refine lv_iload hx hb dX2_removeRow_14 (lv_at hl 5 rfl) ?_
  refine lv_aload_n hx hb dX2_removeRow_16 rfl (lv_at hl 0 rfl) ?_
  refine lv_iload_n hx hb dX2_removeRow_17 rfl (lv_at hl 1 rfl) ?_
  obtain ⟨r_1, hr_1, h⟩ := kp_bind h
  refine mk_contR (w := w_M cI cZ cS aM aMw mm) (w0 := w_M cI cZ cS aM aMw mm) (wr := []) hP hD hS hA [0, 1] [] rfl rfl (by decide) (by decide) [0, 1] rfl (by decide) (va_runV (As := [.int x1]) (rest := [.int x5]) ⟨hx, hb, hml, hown, hts⟩ (c_M_slots l dC dI cI cZ cS aM aMw mm x1 r_1 hr_1 H.size) (cwV 1 hts gX2_removeRow_X2_slots rfl rfl rfl (by decide +kernel) ⟨Nat.le_of_ble_eq_true rfl, Nat.le_of_ble_eq_true rfl⟩) (mk_preV (w0 := w_M cI cZ cS aM aMw mm) (ci := 2) (q0 := 0) hN hK (mk_pick hP [0, 1] rfl) (hD.sub [0, 1] (by decide) rfl) rfl rfl rfl) rfl rfl hl.1 rfl (lv_room (Nat.le_of_ble_eq_true rfl)) dX2_removeRow_18 ⟨Nat.zero_le _, Nat.zero_le _⟩) (fun H locs hP hD hS => ?_)
  refine lv_icmp_ge (tgt := 60) hx hb dX2_removeRow_21 (by decide) (fun c_2 => ?_) (fun c_2 => ?_)
  · replace h := (kp_if h).1 c_2
    refine lv_aload_n hx hb dX2_removeRow_60 rfl (lv_at hl 0 rfl) ?_
    refine lv_iload_n hx hb dX2_removeRow_61 rfl (lv_at hl 2 rfl) ?_
    refine lv_aload_n hx hb dX2_removeRow_62 rfl (lv_at hl 0 rfl) ?_
    refine lv_iload_n hx hb dX2_removeRow_63 rfl (lv_at hl 1 rfl) ?_
    obtain ⟨r_3, hr_3, h⟩ := kp_bind h
    refine mk_contR (w := w_M cI cZ cS aM aMw mm) (w0 := w_M cI cZ cS aM aMw mm) (wr := []) hP hD hS hA [0, 1] [] rfl rfl (by decide) (by decide) [0, 1] rfl (by decide) (va_runV (As := [.int x1]) (rest := [.int x2, .ref aM]) ⟨hx, hb, hml, hown, hts⟩ (c_M_width l dC dI cI cZ cS aM aMw mm x1 r_3 hr_3 H.size) (cwV 1 hts gX2_removeRow_X2_width rfl rfl rfl (by decide +kernel) ⟨Nat.le_of_ble_eq_true rfl, Nat.le_of_ble_eq_true rfl⟩) (mk_preV (w0 := w_M cI cZ cS aM aMw mm) (ci := 2) (q0 := 0) hN hK (mk_pick hP [0, 1] rfl) (hD.sub [0, 1] (by decide) rfl) rfl rfl rfl) rfl rfl hl.1 rfl (lv_room (Nat.le_of_ble_eq_true rfl)) dX2_removeRow_64 ⟨Nat.zero_le _, Nat.zero_le _⟩) (fun H locs hP hD hS => ?_)
    obtain ⟨r_4, hr_4, h⟩ := kp_bind h
    refine mk_contV (w := w_M cI cZ cS aM aMw mm) (w0 := w_M cI cZ cS aM aMw mm) (wr := []) (w2 := w_M cI cZ cS aM aMw r_4) hP hD hS hA [0, 1] [] rfl rfl (by decide) (by decide) [0, 1] rfl (by decide) (va_runV (As := [.int x2, .int r_3]) (rest := []) ⟨hx, hb, hml, hown, hts⟩ (c_M_clear l dC dI cI cZ cS aM aMw mm x2 r_3 r_4 hr_4 H.size) (cwV 2 hts gX2_removeRow_X2_clear rfl rfl rfl (by decide +kernel) ⟨Nat.le_of_ble_eq_true rfl, Nat.le_of_ble_eq_true rfl⟩) (mk_preV (w0 := w_M cI cZ cS aM aMw mm) (ci := 2) (q0 := 0) hN hK (mk_pick hP [0, 1] rfl) (hD.sub [0, 1] (by decide) rfl) rfl rfl rfl) rfl rfl hl.1 rfl (lv_room (Nat.le_of_ble_eq_true rfl)) dX2_removeRow_67 ⟨Nat.zero_le _, Nat.zero_le _⟩) (fun H locs hP hD hS => ?_)
    refine lv_aload_n hx hb dX2_removeRow_70 rfl (lv_at hl 0 rfl) ?_
    refine va_get (D := (dC, dI)) (ci := 2) (v := .ref aMw) (C := RX2) (T := TX2) (N := 1) hx hb hts iw_M_removeRow_Memory hown hK hP 0 rfl rfl 0 (by decide) (hts _ mm_M_removeRow_0) (fun _ h9 => h9) rfl dX2_removeRow_71 ?_
    refine lv_iload hx hb dX2_removeRow_74 (lv_at hl 4 rfl) ?_
    refine lv_iconst (v := 2) hx hb dX2_removeRow_76 (by decide) ?_
    refine lv_iadd hx hb dX2_removeRow_77 ?_
    obtain ⟨hc_5, h⟩ := kp_in h
    refine va_iald hx hb hK hP 1 0 rfl rfl (kx_of hc_5) dX2_removeRow_78 ?_
    refine lv_if_ne (tgt := 110) hx hb dX2_removeRow_79 (by decide) (fun c_6 => ?_) (fun c_6 => ?_)
    · replace h := (kp_if h).2 c_6
      exact b_M_removeRow_110 E hA hK R r_4 h H locs ls hP hD hS (lv_sub hl [] rfl)
    · replace h := (kp_if h).1 c_6
      refine lv_aload_n hx hb dX2_removeRow_82 rfl (lv_at hl 0 rfl) ?_
      refine va_get (D := (dC, dI)) (ci := 2) (v := .ref aMw) (C := RX2) (T := TX2) (N := 1) hx hb hts iw_M_removeRow_Memory hown hK hP 0 rfl rfl 0 (by decide) (hts _ mm_M_removeRow_0) (fun _ h9 => h9) rfl dX2_removeRow_83 ?_
      refine lv_aload_n hx hb dX2_removeRow_86 rfl (lv_at hl 0 rfl) ?_
      refine lv_iload_n hx hb dX2_removeRow_87 rfl (lv_at hl 1 rfl) ?_
      refine lv_iload_n hx hb dX2_removeRow_88 rfl (lv_at hl 3 rfl) ?_
      obtain ⟨r_7, hr_7, h⟩ := kp_bind h
      refine mk_contR (w := w_M cI cZ cS aM aMw r_4) (w0 := w_M cI cZ cS aM aMw r_4) (wr := []) hP hD hS hA [0, 1] [] rfl rfl (by decide) (by decide) [0, 1] rfl (by decide) (va_runV (As := [.int x1, .int x3]) (rest := [.ref aMw]) ⟨hx, hb, hml, hown, hts⟩ (c_M_linkTo l dC dI cI cZ cS aM aMw r_4 x1 x3 r_7 hr_7 H.size) (cwV 2 hts gX2_removeRow_X2_linkTo rfl rfl rfl (by decide +kernel) ⟨Nat.le_of_ble_eq_true rfl, Nat.le_of_ble_eq_true rfl⟩) (mk_preV (w0 := w_M cI cZ cS aM aMw r_4) (ci := 2) (q0 := 0) hN hK (mk_pick hP [0, 1] rfl) (hD.sub [0, 1] (by decide) rfl) rfl rfl rfl) rfl rfl hl.1 rfl (lv_room (Nat.le_of_ble_eq_true rfl)) dX2_removeRow_89 ⟨Nat.zero_le _, Nat.zero_le _⟩) (fun H locs hP hD hS => ?_)
      refine lv_aload_n hx hb dX2_removeRow_92 rfl (lv_at hl 0 rfl) ?_
      refine va_get (D := (dC, dI)) (ci := 2) (v := .ref aMw) (C := RX2) (T := TX2) (N := 1) hx hb hts iw_M_removeRow_Memory hown hK hP 0 rfl rfl 0 (by decide) (hts _ mm_M_removeRow_0) (fun _ h9 => h9) rfl dX2_removeRow_93 ?_
      refine lv_iload hx hb dX2_removeRow_96 (lv_at hl 4 rfl) ?_
      refine lv_iconst (v := 1) hx hb dX2_removeRow_98 (by decide) ?_
      refine lv_iadd hx hb dX2_removeRow_99 ?_
      obtain ⟨hc_8, h⟩ := kp_in h
      refine va_iald hx hb hK hP 1 0 rfl rfl (kx_of hc_8) dX2_removeRow_100 ?_
      obtain ⟨hc_9, h⟩ := kp_in h
      refine va_iast hx hb hK hP hD hS 1 0 rfl rfl (kx_of hc_9) dX2_removeRow_101 (fun H locs hP hD hS => ?_)
      have hP : va_P (dC, dI) vwCl (w_M cI cZ cS aM aMw (upd r_4 r_7.toNatClampNeg (r_4 (x4 + 1).toNatClampNeg))) H := hP
      have hD : va_D A (w_M cI cZ cS aM aMw (upd r_4 r_7.toNatClampNeg (r_4 (x4 + 1).toNatClampNeg))) := hD
      refine lv_aload_n hx hb dX2_removeRow_102 rfl (lv_at hl 0 rfl) ?_
      refine lv_iload hx hb dX2_removeRow_103 (lv_at hl 4 rfl) ?_
      refine lv_bipush (v := 16) hx hb dX2_removeRow_105 (by decide) ?_
      obtain ⟨r_10, hr_10, h⟩ := kp_bind h
      refine mk_contV (w := w_M cI cZ cS aM aMw (upd r_4 r_7.toNatClampNeg (r_4 (x4 + 1).toNatClampNeg))) (w0 := w_M cI cZ cS aM aMw (upd r_4 r_7.toNatClampNeg (r_4 (x4 + 1).toNatClampNeg))) (wr := []) (w2 := w_M cI cZ cS aM aMw r_10) hP hD hS hA [0, 1] [] rfl rfl (by decide) (by decide) [0, 1] rfl (by decide) (va_runV (As := [.int x4, .int 16]) (rest := []) ⟨hx, hb, hml, hown, hts⟩ (c_M_clear l dC dI cI cZ cS aM aMw (upd r_4 r_7.toNatClampNeg (r_4 (x4 + 1).toNatClampNeg)) x4 16 r_10 hr_10 H.size) (cwV 2 hts gX2_removeRow_X2_clear rfl rfl rfl (by decide +kernel) ⟨Nat.le_of_ble_eq_true rfl, Nat.le_of_ble_eq_true rfl⟩) (mk_preV (w0 := w_M cI cZ cS aM aMw (upd r_4 r_7.toNatClampNeg (r_4 (x4 + 1).toNatClampNeg))) (ci := 2) (q0 := 0) hN hK (mk_pick hP [0, 1] rfl) (hD.sub [0, 1] (by decide) rfl) rfl rfl rfl) rfl rfl hl.1 rfl (lv_room (Nat.le_of_ble_eq_true rfl)) dX2_removeRow_107 ⟨Nat.zero_le _, Nat.zero_le _⟩) (fun H locs hP hD hS => ?_)
      exact b_M_removeRow_110 E hA hK R r_10 h H locs ls hP hD hS (lv_sub hl [] rfl)
  · replace h := (kp_if h).2 c_2
    refine lv_aload_n hx hb dX2_removeRow_24 rfl (lv_at hl 0 rfl) ?_
    refine lv_iload_n hx hb dX2_removeRow_25 rfl (lv_at hl 1 rfl) ?_
    refine lv_iload_n hx hb dX2_removeRow_26 rfl (lv_at hl 3 rfl) ?_
    refine lv_iload hx hb dX2_removeRow_27 (lv_at hl 5 rfl) ?_
    obtain ⟨r_11, hr_11, h⟩ := kp_bind h
    refine mk_contR (w := w_M cI cZ cS aM aMw mm) (w0 := w_M cI cZ cS aM aMw mm) (wr := []) hP hD hS hA [0, 1] [] rfl rfl (by decide) (by decide) [0, 1] rfl (by decide) (va_runV (As := [.int x1, .int x3, .int x5]) (rest := []) ⟨hx, hb, hml, hown, hts⟩ (c_M_rowAt l dC dI cI cZ cS aM aMw mm x1 x3 x5 r_11 hr_11 H.size) (cwV 3 hts gX2_removeRow_X2_rowAt rfl rfl rfl (by decide +kernel) ⟨Nat.le_of_ble_eq_true rfl, Nat.le_of_ble_eq_true rfl⟩) (mk_preV (w0 := w_M cI cZ cS aM aMw mm) (ci := 2) (q0 := 0) hN hK (mk_pick hP [0, 1] rfl) (hD.sub [0, 1] (by decide) rfl) rfl rfl rfl) rfl rfl hl.1 rfl (lv_room (Nat.le_of_ble_eq_true rfl)) dX2_removeRow_29 ⟨Nat.zero_le _, Nat.zero_le _⟩) (fun H locs hP hD hS => ?_)
    refine lv_iload_n hx hb dX2_removeRow_32 rfl (lv_at hl 2 rfl) ?_
    refine lv_icmp_ne (tgt := 54) hx hb dX2_removeRow_33 (by decide) (fun c_12 => ?_) (fun c_12 => ?_)
    · replace h := (kp_if h).2 c_12
      exact b_M_removeRow_54 E hA hK R hk_14 x1 x2 x3 x4 x5 mm h H locs ls hP hD hS (lv_sub hl [0, 1, 2, 3, 4, 5] rfl)
    · replace h := (kp_if h).1 c_12
      refine lv_aload_n hx hb dX2_removeRow_36 rfl (lv_at hl 0 rfl) ?_
      refine va_get (D := (dC, dI)) (ci := 2) (v := .ref aMw) (C := RX2) (T := TX2) (N := 1) hx hb hts iw_M_removeRow_Memory hown hK hP 0 rfl rfl 0 (by decide) (hts _ mm_M_removeRow_0) (fun _ h9 => h9) rfl dX2_removeRow_37 ?_
      refine lv_iload hx hb dX2_removeRow_40 (lv_at hl 4 rfl) ?_
      refine lv_iconst (v := 2) hx hb dX2_removeRow_42 (by decide) ?_
      refine lv_iadd hx hb dX2_removeRow_43 ?_
      refine lv_dup2_11 hx hb dX2_removeRow_44 rfl rfl ?_
      obtain ⟨hc_13, h⟩ := kp_in h
      refine va_iald hx hb hK hP 1 0 rfl rfl (kx_of hc_13) dX2_removeRow_45 ?_
      refine lv_iconst (v := 1) hx hb dX2_removeRow_46 (by decide) ?_
      refine lv_iload hx hb dX2_removeRow_47 (lv_at hl 5 rfl) ?_
      refine lv_ishl hx hb dX2_removeRow_49 ?_
      refine lv_iconst (v := (-1)) hx hb dX2_removeRow_50 (by decide) ?_
      refine lv_ixor hx hb dX2_removeRow_51 ?_
      refine lv_iand hx hb dX2_removeRow_52 ?_
      obtain ⟨hc_14, h⟩ := kp_in h
      refine va_iast hx hb hK hP hD hS 1 0 rfl rfl (kx_of hc_14) dX2_removeRow_53 (fun H locs hP hD hS => ?_)
      have hP : va_P (dC, dI) vwCl (w_M cI cZ cS aM aMw (upd mm (x4 + 2).toNatClampNeg ((mm (x4 + 2).toNatClampNeg) &&& (((1 : Int32) <<< (x5 &&& 31)) ^^^ (-1))))) H := hP
      have hD : va_D A (w_M cI cZ cS aM aMw (upd mm (x4 + 2).toNatClampNeg ((mm (x4 + 2).toNatClampNeg) &&& (((1 : Int32) <<< (x5 &&& 31)) ^^^ (-1))))) := hD
      exact b_M_removeRow_54 E hA hK R hk_14 x1 x2 x3 x4 x5 (upd mm (x4 + 2).toNatClampNeg ((mm (x4 + 2).toNatClampNeg) &&& (((1 : Int32) <<< (x5 &&& 31)) ^^^ (-1)))) h H locs ls hP hD hS (lv_sub hl [0, 1, 2, 3, 4, 5] rfl)
set_option maxHeartbeats 4000000 in
set_option maxRecDepth 100000 in
theorem l_M_removeRow_14 {p : Program} {l : Launch} {e : Env} {s : State} {m : MethodId} {below : List Frame} {meth : Method} {c : Code} {A : Nat → Prop} {dC : Nat → ClassId} {dI : Nat → Nat → Nat} {cI cZ cS : ClassId} {aM aMw : Nat} {a1 : Int32} {a2 : Int32} (E : mk_En p s m meth c cX2_removeRow 6 none ([.ref aM, .int a1, .int a2] : List Value).toArray wsX2_removeRow yX2_removeRow.cls) (hA : ∀ q : Nat, s.heap.size ≤ q → A q) (hK : va_K (dC, dI) vwCl (tyz cI cZ cS) s) (R : (Nat → Int32)) : ∀ (n : Nat) (x1 : Int32) (x2 : Int32) (x3 : Int32) (x4 : Int32) (x5 : Int32) (mm : Nat → Int32), pl_M_removeRow_14 n x1 x2 x3 x4 x5 mm = some R → ∀ (H : Heap) (locs : List Loc) (ls : Array Slot), va_P (dC, dI) vwCl (w_M cI cZ cS aM aMw mm) H → va_D A (w_M cI cZ cS aM aMw mm) → va_S A s.heap H locs → lv_has ls 6 [(0, .ref aM), (1, .int x1), (2, .int x2), (3, .int x3), (4, .int x4), (5, .int x5)] → W p l e ({ frames := 3, cells := 0, slots := 0, locals := 65 } : Room) s m ([.ref aM, .int a1, .int a2] : List Value).toArray below meth c H locs 0 0 (MQ below (mk_QV (dC, dI) vwCl (tyz cI cZ cS) A (fun u : (Nat → Int32) => w_M cI cZ cS aM aMw u) R) ([.ref aM, .int a1, .int a2] : List Value).toArray s 0 0 A) (F0 m 14 ls []) := by
  intro n
  induction n with
  | zero =>
    intro x1 x2 x3 x4 x5 mm h
    cases h
  | succ n ih =>
    intro x1 x2 x3 x4 x5 mm h
    exact b_M_removeRow_14 E hA hK R ih x1 x2 x3 x4 x5 mm h
set_option maxHeartbeats 4000000 in
set_option maxRecDepth 100000 in
theorem c_M_removeRow (l : Launch) (dC : Nat → ClassId) (dI : Nat → Nat → Nat) (cI cZ cS : ClassId) (aM aMw : Nat) (mm : Nat → Int32) (a1 : Int32) (a2 : Int32) : CtV l yX2_removeRow wsX2_removeRow ({ frames := 3, cells := 0, slots := 0, locals := 65 }) (dC, dI) vwCl (tyz cI cZ cS) [.ref aM, .int a1, .int a2] (w_M cI cZ cS aM aMw mm) (fun u : (Nat → Int32) => w_M cI cZ cS aM aMw u) (p_M_removeRow mm a1 a2) := by
  intro R h
  refine mk_enter (Qc := (fun A => mk_QV (dC, dI) vwCl (tyz cI cZ cS) A (fun u : (Nat → Int32) => w_M cI cZ cS aM aMw u) R)) (by decide) rfl (Nat.le_of_ble_eq_true rfl) ?_
  intro p e s m below meth c A E hA hK H locs ls hP hD hS hl
  obtain ⟨⟨hx, hb, hml, hown, hts⟩, hrt, hlk, hN⟩ := id E
  have hown : s.vm.findClass RX2 = some m.cls := hown
  have hl : lv_has ls 6 [(0, .ref aM), (1, .int a1), (2, .int a2)] := hl
  unfold p_M_removeRow at h
  refine lv_iload_n hx hb dX2_removeRow_0 rfl (lv_at hl 2 rfl) ?_
  refine lv_bipush (v := 16) hx hb dX2_removeRow_1 (by decide) ?_
  refine lv_idiv hx hb dX2_removeRow_3 (by decide) ?_
  refine lv_topi (fun v_15 ev_15 => ?_)
  replace h := kp_kl h v_15 ev_15
  refine lv_istore_n (lv' := [(3, .int v_15), (0, .ref aM), (1, .int a1), (2, .int a2)]) hx hb dX2_removeRow_4 rfl hl (by decide) rfl (fun ls hl => ?_)
  refine lv_iload_n hx hb dX2_removeRow_5 rfl (lv_at hl 0 rfl) ?_
  refine lv_bipush (v := 16) hx hb dX2_removeRow_6 (by decide) ?_
  refine lv_imul hx hb dX2_removeRow_8 ?_
  refine lv_topi (fun v_16 ev_16 => ?_)
  replace h := kp_kl h v_16 ev_16
  refine lv_istore (lv' := [(4, .int v_16), (3, .int v_15), (0, .ref aM), (1, .int a1), (2, .int a2)]) hx hb dX2_removeRow_9 hl (by decide) rfl (fun ls hl => ?_)
  refine lv_iconst (v := 0) hx hb dX2_removeRow_11 (by decide) ?_
  refine lv_istore (lv' := [(5, .int 0), (4, .int v_16), (3, .int v_15), (0, .ref aM), (1, .int a1), (2, .int a2)]) hx hb dX2_removeRow_12 hl (by decide) rfl (fun ls hl => ?_)
  exact l_M_removeRow_14 E hA hK R 1000 a1 a2 v_15 v_16 0 mm h H locs ls hP hD hS (lv_sub hl [3, 4, 5, 2, 1, 0] rfl)

