/- X.startAnew()V -/
set_option maxRecDepth 20000 in
theorem mm_X_startAnew_0 : Cond.fieldLink RX4 34 "JournaledTables" "scans" "[LJournaledTables$Scan;" ∈ wsX4_startAnew := by decide +kernel
set_option maxRecDepth 20000 in
theorem iw_X_startAnew_X : ∀ w ∈ u_ws RX4 TX4 6, w ∈ wsX4_startAnew := by decide +kernel
set_option maxRecDepth 20000 in
theorem mm_X_startAnew_2 : Cond.fieldLink RX4 19 "JournaledTables" "memory" "LJournaledTables$Memory;" ∈ wsX4_startAnew := by decide +kernel
set_option maxRecDepth 20000 in
theorem mm_X_startAnew_3 : Cond.fieldLink RX4 10 "JournaledTables" "disk" "LJournaledTables$Disk;" ∈ wsX4_startAnew := by decide +kernel
set_option maxRecDepth 20000 in
theorem mm_X_startAnew_4 : Cond.fieldLink RX4 43 "JournaledTables" "inTransaction" "Z" ∈ wsX4_startAnew := by decide +kernel
set_option maxHeartbeats 4000000 in
set_option maxRecDepth 100000 in
theorem b_X_startAnew_18 {p : Program} {l : Launch} {e : Env} {s : State} {m : MethodId} {below : List Frame} {meth : Method} {c : Code} {A : Nat → Prop} {dC : Nat → ClassId} {dI : Nat → Nat → Nat} {cI cZ cS : ClassId} {aX aD aDw aM aMw aJ aJh aSa aSt : Nat} {sA : Nat → Nat} {pw : Int32} {wl : Int32} {wn : Int32} {dk : Nat → Int32} {hd : Nat → Int32} {sg : Nat → Int32} (E : mk_En p s m meth c cX4_startAnew 2 none ([.ref aX] : List Value).toArray wsX4_startAnew yX4_startAnew.cls) (hA : ∀ q : Nat, s.heap.size ≤ q → A q) (hK : va_K (dC, dI) vwCl (tyz cI cZ cS) s) (R : Int32 × (Nat → Int32) × (Nat → SCT)) {k_18 : Int32 → Int32 → (Nat → Int32) → (Nat → SCT) → Option (Int32 × (Nat → Int32) × (Nat → SCT))} (hk_18 : ∀ (x1 : Int32) (tx : Int32) (mm : Nat → Int32) (sc4 : Nat → SCT), k_18 x1 tx mm sc4 = some R → ∀ (H : Heap) (locs : List Loc) (ls : Array Slot), va_P (dC, dI) vwCl (w_X cI cZ cS aX aD aDw aM aMw aJ aJh aSa aSt sA tx pw wl wn dk mm hd sg sc4) H → va_D A (w_X cI cZ cS aX aD aDw aM aMw aJ aJh aSa aSt sA tx pw wl wn dk mm hd sg sc4) → va_S A s.heap H locs → lv_has ls 2 [(0, .ref aX), (1, .int x1)] → W p l e ({ frames := 2, cells := 0, slots := 0, locals := 39 } : Room) s m ([.ref aX] : List Value).toArray below meth c H locs 0 0 (MQ below (mk_QV (dC, dI) vwCl (tyz cI cZ cS) A (fun u : Int32 × (Nat → Int32) × (Nat → SCT) => w_X cI cZ cS aX aD aDw aM aMw aJ aJh aSa aSt sA u.1 pw wl wn dk u.2.1 hd sg u.2.2) R) ([.ref aX] : List Value).toArray s 0 0 A) (F0 m 18 ls [])) (x1 : Int32) (tx : Int32) (mm : Nat → Int32) (sc4 : Nat → SCT) (h : p_X_startAnew_18 dk k_18 x1 tx mm sc4 = some R) : ∀ (H : Heap) (locs : List Loc) (ls : Array Slot), va_P (dC, dI) vwCl (w_X cI cZ cS aX aD aDw aM aMw aJ aJh aSa aSt sA tx pw wl wn dk mm hd sg sc4) H → va_D A (w_X cI cZ cS aX aD aDw aM aMw aJ aJh aSa aSt sA tx pw wl wn dk mm hd sg sc4) → va_S A s.heap H locs → lv_has ls 2 [(0, .ref aX), (1, .int x1)] → W p l e ({ frames := 2, cells := 0, slots := 0, locals := 39 } : Room) s m ([.ref aX] : List Value).toArray below meth c H locs 0 0 (MQ below (mk_QV (dC, dI) vwCl (tyz cI cZ cS) A (fun u : Int32 × (Nat → Int32) × (Nat → SCT) => w_X cI cZ cS aX aD aDw aM aMw aJ aJh aSa aSt sA u.1 pw wl wn dk u.2.1 hd sg u.2.2) R) ([.ref aX] : List Value).toArray s 0 0 A) (F0 m 18 ls []) := by
  intro H locs ls hP hD hS hl
  obtain ⟨⟨hx, hb, hml, hown, hts⟩, hrt, hlk, hN⟩ := id E
  have hown : s.vm.findClass RX4 = some m.cls := hown
  unfold p_X_startAnew_18 at h
  refine lv_iload_n hx hb dX4_startAnew_18 rfl (lv_at hl 1 rfl) ?_
  refine lv_iconst (v := 4) hx hb dX4_startAnew_19 (by decide) ?_
  refine lv_icmp_ge (tgt := 38) hx hb dX4_startAnew_20 (by decide) (fun c_1 => ?_) (fun c_1 => ?_)
  · replace h := (kp_if h).1 c_1
    cases h
    exact mk_vret E hK hP hD hS dX4_startAnew_38
  · replace h := (kp_if h).2 c_1
    refine lv_aload_n hx hb dX4_startAnew_23 rfl (lv_at hl 0 rfl) ?_
    refine va_get (D := (dC, dI)) (ci := 4) (v := .ref aSa) (C := RX4) (T := TX4) (N := 6) hx hb hts iw_X_startAnew_X hown hK hP 0 rfl rfl 3 (by decide) (hts _ mm_X_startAnew_0) (fun _ h9 => h9) rfl dX4_startAnew_24 ?_
    refine lv_iload_n hx hb dX4_startAnew_27 rfl (lv_at hl 1 rfl) ?_
    obtain ⟨hc_2, h⟩ := kp_in h
    refine va_aldq hx hb hK hP 7 2 rfl rfl (kx_of hc_2) dX4_startAnew_28 ?_
    refine W.eq (g2 := F0 m 29 ls [.ref (sA x1.toNatClampNeg)]) rfl ?_
    obtain ⟨r_3, hr_3, h⟩ := kp_bind h
    refine sx_V (k := x1.toNatClampNeg) (g := (r_3, (sc4 x1.toNatClampNeg).2.1, (sc4 x1.toNatClampNeg).2.2.1, (sc4 x1.toNatClampNeg).2.2.2.1, (sc4 x1.toNatClampNeg).2.2.2.2.1, (sc4 x1.toNatClampNeg).2.2.2.2.2.1, (sc4 x1.toNatClampNeg).2.2.2.2.2.2.1, (sc4 x1.toNatClampNeg).2.2.2.2.2.2.2)) (kx_lt hc_2) hP hD hS hA (va_runV (As := []) (rest := []) ⟨hx, hb, hml, hown, hts⟩ (c_S_end l dC dI cI cZ cS (sA x1.toNatClampNeg) ((sc4 x1.toNatClampNeg).1) ((sc4 x1.toNatClampNeg).2.1) ((sc4 x1.toNatClampNeg).2.2.1) ((sc4 x1.toNatClampNeg).2.2.2.1) ((sc4 x1.toNatClampNeg).2.2.2.2.1) ((sc4 x1.toNatClampNeg).2.2.2.2.2.1) ((sc4 x1.toNatClampNeg).2.2.2.2.2.2.1) ((sc4 x1.toNatClampNeg).2.2.2.2.2.2.2) r_3 hr_3 H.size) (cwV 0 hts gX4_startAnew_X3_end rfl rfl rfl (by decide +kernel) ⟨Nat.le_of_ble_eq_true rfl, Nat.le_of_ble_eq_true rfl⟩) (mk_preV (w0 := w_S cI cZ cS (sA x1.toNatClampNeg) ((sc4 x1.toNatClampNeg).1) ((sc4 x1.toNatClampNeg).2.1) ((sc4 x1.toNatClampNeg).2.2.1) ((sc4 x1.toNatClampNeg).2.2.2.1) ((sc4 x1.toNatClampNeg).2.2.2.2.1) ((sc4 x1.toNatClampNeg).2.2.2.2.2.1) ((sc4 x1.toNatClampNeg).2.2.2.2.2.2.1) ((sc4 x1.toNatClampNeg).2.2.2.2.2.2.2)) (ci := 3) (q0 := 0) hN hK (sx_P (kx_lt hc_2) hP) (sx_D (kx_lt hc_2) hD) rfl rfl rfl) rfl rfl hl.1 rfl (lv_room (Nat.le_of_ble_eq_true rfl)) dX4_startAnew_29 ⟨Nat.zero_le _, Nat.zero_le _⟩) rfl (fun H locs hP hD hS => ?_)
    refine lv_iinc (v := x1 + 1) (lv' := [(1, .int (x1 + 1)), (0, .ref aX)]) hx hb dX4_startAnew_32 hl (k := 1) rfl rfl (by decide) rfl (fun ls hl => ?_)
    refine lv_goto (tgt := 18) hx hb dX4_startAnew_35 (by decide) ?_
    exact hk_18 (x1 + 1) tx mm (va_up sc4 x1.toNatClampNeg (r_3, (sc4 x1.toNatClampNeg).2.1, (sc4 x1.toNatClampNeg).2.2.1, (sc4 x1.toNatClampNeg).2.2.2.1, (sc4 x1.toNatClampNeg).2.2.2.2.1, (sc4 x1.toNatClampNeg).2.2.2.2.2.1, (sc4 x1.toNatClampNeg).2.2.2.2.2.2.1, (sc4 x1.toNatClampNeg).2.2.2.2.2.2.2)) h H locs ls hP hD hS (lv_sub hl [1, 0] rfl)
set_option maxHeartbeats 4000000 in
set_option maxRecDepth 100000 in
theorem l_X_startAnew_18 {p : Program} {l : Launch} {e : Env} {s : State} {m : MethodId} {below : List Frame} {meth : Method} {c : Code} {A : Nat → Prop} {dC : Nat → ClassId} {dI : Nat → Nat → Nat} {cI cZ cS : ClassId} {aX aD aDw aM aMw aJ aJh aSa aSt : Nat} {sA : Nat → Nat} {pw : Int32} {wl : Int32} {wn : Int32} {dk : Nat → Int32} {hd : Nat → Int32} {sg : Nat → Int32} (E : mk_En p s m meth c cX4_startAnew 2 none ([.ref aX] : List Value).toArray wsX4_startAnew yX4_startAnew.cls) (hA : ∀ q : Nat, s.heap.size ≤ q → A q) (hK : va_K (dC, dI) vwCl (tyz cI cZ cS) s) (R : Int32 × (Nat → Int32) × (Nat → SCT)) : ∀ (n : Nat) (x1 : Int32) (tx : Int32) (mm : Nat → Int32) (sc4 : Nat → SCT), pl_X_startAnew_18 dk n x1 tx mm sc4 = some R → ∀ (H : Heap) (locs : List Loc) (ls : Array Slot), va_P (dC, dI) vwCl (w_X cI cZ cS aX aD aDw aM aMw aJ aJh aSa aSt sA tx pw wl wn dk mm hd sg sc4) H → va_D A (w_X cI cZ cS aX aD aDw aM aMw aJ aJh aSa aSt sA tx pw wl wn dk mm hd sg sc4) → va_S A s.heap H locs → lv_has ls 2 [(0, .ref aX), (1, .int x1)] → W p l e ({ frames := 2, cells := 0, slots := 0, locals := 39 } : Room) s m ([.ref aX] : List Value).toArray below meth c H locs 0 0 (MQ below (mk_QV (dC, dI) vwCl (tyz cI cZ cS) A (fun u : Int32 × (Nat → Int32) × (Nat → SCT) => w_X cI cZ cS aX aD aDw aM aMw aJ aJh aSa aSt sA u.1 pw wl wn dk u.2.1 hd sg u.2.2) R) ([.ref aX] : List Value).toArray s 0 0 A) (F0 m 18 ls []) := by
  intro n
  induction n with
  | zero =>
    intro x1 tx mm sc4 h
    cases h
  | succ n ih =>
    intro x1 tx mm sc4 h
    exact b_X_startAnew_18 E hA hK R ih x1 tx mm sc4 h
set_option maxHeartbeats 4000000 in
set_option maxRecDepth 100000 in
theorem c_X_startAnew (l : Launch) (dC : Nat → ClassId) (dI : Nat → Nat → Nat) (cI cZ cS : ClassId) (aX aD aDw aM aMw aJ aJh aSa aSt : Nat) (sA : Nat → Nat) (tx : Int32) (pw : Int32) (wl : Int32) (wn : Int32) (dk : Nat → Int32) (mm : Nat → Int32) (hd : Nat → Int32) (sg : Nat → Int32) (sc4 : Nat → SCT) : CtV l yX4_startAnew wsX4_startAnew ({ frames := 2, cells := 0, slots := 0, locals := 39 }) (dC, dI) vwCl (tyz cI cZ cS) [.ref aX] (w_X cI cZ cS aX aD aDw aM aMw aJ aJh aSa aSt sA tx pw wl wn dk mm hd sg sc4) (fun u : Int32 × (Nat → Int32) × (Nat → SCT) => w_X cI cZ cS aX aD aDw aM aMw aJ aJh aSa aSt sA u.1 pw wl wn dk u.2.1 hd sg u.2.2) (p_X_startAnew tx dk mm sc4) := by
  intro R h
  refine mk_enter (Qc := (fun A => mk_QV (dC, dI) vwCl (tyz cI cZ cS) A (fun u : Int32 × (Nat → Int32) × (Nat → SCT) => w_X cI cZ cS aX aD aDw aM aMw aJ aJh aSa aSt sA u.1 pw wl wn dk u.2.1 hd sg u.2.2) R)) (by decide) rfl (Nat.le_of_ble_eq_true rfl) ?_
  intro p e s m below meth c A E hA hK H locs ls hP hD hS hl
  obtain ⟨⟨hx, hb, hml, hown, hts⟩, hrt, hlk, hN⟩ := id E
  have hown : s.vm.findClass RX4 = some m.cls := hown
  have hl : lv_has ls 2 [(0, .ref aX)] := hl
  unfold p_X_startAnew at h
  refine lv_aload_n hx hb dX4_startAnew_0 rfl (lv_at hl 0 rfl) ?_
  refine va_get (D := (dC, dI)) (ci := 4) (v := .ref aM) (C := RX4) (T := TX4) (N := 6) hx hb hts iw_X_startAnew_X hown hK hP 0 rfl rfl 1 (by decide) (hts _ mm_X_startAnew_2) (fun _ h9 => h9) rfl dX4_startAnew_1 ?_
  refine lv_aload_n hx hb dX4_startAnew_4 rfl (lv_at hl 0 rfl) ?_
  refine va_get (D := (dC, dI)) (ci := 4) (v := .ref aD) (C := RX4) (T := TX4) (N := 6) hx hb hts iw_X_startAnew_X hown hK hP 0 rfl rfl 0 (by decide) (hts _ mm_X_startAnew_3) (fun _ h9 => h9) rfl dX4_startAnew_5 ?_
  obtain ⟨r_4, hr_4, h⟩ := kp_bind h
  refine mk_contV (w := w_X cI cZ cS aX aD aDw aM aMw aJ aJh aSa aSt sA tx pw wl wn dk mm hd sg sc4) (w0 := w_MD cI cZ cS aM aMw aD aDw mm pw wl wn dk) (wr := [(aX, .inr (4, [.ref aD, .ref aM, .ref aJ, .ref aSa, .ref aSt, .int tx])), (aJ, .inr (1, [.ref aD, .ref aM, .ref aJh])), (aJh, .inl (cI, 16, .inl hd)), (aSa, .inl (cS, 4, .inr (.inr (.inr (.inr (fun j => some (sA j))))))), (aSt, .inl (cI, 6, .inl sg)), (sA 0, scv (sc4 0)), (sA 1, scv (sc4 1)), (sA 2, scv (sc4 2)), (sA 3, scv (sc4 3))]) (w2 := w_X cI cZ cS aX aD aDw aM aMw aJ aJh aSa aSt sA tx pw wl wn dk r_4 hd sg sc4) hP hD hS hA [3, 4, 1, 2] [0, 5, 6, 7, 8, 9, 10, 11, 12] rfl rfl (by decide) (by decide) [0, 11, 12, 9, 10, 1, 2, 3, 4, 5, 6, 7, 8] rfl (by decide) (va_runV (As := [.ref aD]) (rest := []) ⟨hx, hb, hml, hown, hts⟩ (c_M_load l dC dI cI cZ cS aM aMw aD aDw mm pw wl wn dk r_4 hr_4 H.size) (cwV 1 hts gX4_startAnew_X2_load rfl rfl rfl (by decide +kernel) ⟨Nat.le_of_ble_eq_true rfl, Nat.le_of_ble_eq_true rfl⟩) (mk_preV (w0 := w_MD cI cZ cS aM aMw aD aDw mm pw wl wn dk) (ci := 2) (q0 := 0) hN hK (mk_pick hP [3, 4, 1, 2] rfl) (hD.sub [3, 4, 1, 2] (by decide) rfl) rfl rfl rfl) rfl rfl hl.1 rfl (lv_room (Nat.le_of_ble_eq_true rfl)) dX4_startAnew_8 ⟨Nat.zero_le _, Nat.zero_le _⟩) (fun H locs hP hD hS => ?_)
  refine lv_aload_n hx hb dX4_startAnew_11 rfl (lv_at hl 0 rfl) ?_
  refine lv_iconst (v := 0) hx hb dX4_startAnew_12 (by decide) ?_
  refine va_put (D := (dC, dI)) (ci := 4) (v := .int 0) (ty := .boolean) (C := RX4) (T := TX4) (N := 6) hx hb hts iw_X_startAnew_X tyX4 tyX4_ok nmX4 hown hK hP hD hS 0 rfl rfl 5 (by decide) (hts _ mm_X_startAnew_4) (fun _ h9 => h9) rfl (by decide +kernel) rfl rfl (Nat.le_of_ble_eq_true rfl) dX4_startAnew_13 (fun H locs hP hD hS => ?_)
  have hP : va_P (dC, dI) vwCl (w_X cI cZ cS aX aD aDw aM aMw aJ aJh aSa aSt sA 0 pw wl wn dk r_4 hd sg sc4) H := hP
  have hD : va_D A (w_X cI cZ cS aX aD aDw aM aMw aJ aJh aSa aSt sA 0 pw wl wn dk r_4 hd sg sc4) := hD
  refine lv_iconst (v := 0) hx hb dX4_startAnew_16 (by decide) ?_
  refine lv_istore_n (lv' := [(1, .int 0), (0, .ref aX)]) hx hb dX4_startAnew_17 rfl hl (by decide) rfl (fun ls hl => ?_)
  exact l_X_startAnew_18 E hA hK R 1000 0 0 r_4 sc4 h H locs ls hP hD hS (lv_sub hl [1, 0] rfl)

/- X.refusalOutsideTransaction()I -/
set_option maxRecDepth 20000 in
theorem mm_X_refusalOutsideTransaction_0 : Cond.fieldLink RX4 10 "JournaledTables" "disk" "LJournaledTables$Disk;" ∈ wsX4_refusalOutsideTransaction := by decide +kernel
set_option maxRecDepth 20000 in
theorem iw_X_refusalOutsideTransaction_X : ∀ w ∈ u_ws RX4 TX4 6, w ∈ wsX4_refusalOutsideTransaction := by decide +kernel
set_option maxRecDepth 20000 in
theorem mm_X_refusalOutsideTransaction_2 : Cond.fieldLink RX4 43 "JournaledTables" "inTransaction" "Z" ∈ wsX4_refusalOutsideTransaction := by decide +kernel
set_option maxHeartbeats 4000000 in
set_option maxRecDepth 100000 in
theorem b_X_refusalOutsideTransaction_25 {p : Program} {l : Launch} {e : Env} {s : State} {m : MethodId} {below : List Frame} {meth : Method} {c : Code} {A : Nat → Prop} {dC : Nat → ClassId} {dI : Nat → Nat → Nat} {cI cZ cS : ClassId} {aX aD aDw aM aMw aJ aJh aSa aSt : Nat} {sA : Nat → Nat} {tx : Int32} {pw : Int32} {wl : Int32} {wn : Int32} {dk : Nat → Int32} {mm : Nat → Int32} {hd : Nat → Int32} {sg : Nat → Int32} {sc4 : Nat → SCT} (E : mk_En p s m meth c cX4_refusalOutsideTransaction 1 (some .int) ([.ref aX] : List Value).toArray wsX4_refusalOutsideTransaction yX4_refusalOutsideTransaction.cls) (hA : ∀ q : Nat, s.heap.size ≤ q → A q) (hK : va_K (dC, dI) vwCl (tyz cI cZ cS) s) (R : Int32) (z0 : Int32) (h : p_X_refusalOutsideTransaction_25 tx pw z0 = some R) : ∀ (H : Heap) (locs : List Loc) (ls : Array Slot), va_P (dC, dI) vwCl (w_X cI cZ cS aX aD aDw aM aMw aJ aJh aSa aSt sA tx pw wl wn dk mm hd sg sc4) H → va_D A (w_X cI cZ cS aX aD aDw aM aMw aJ aJh aSa aSt sA tx pw wl wn dk mm hd sg sc4) → va_S A s.heap H locs → lv_has ls 1 [] → W p l e ({ frames := 1, cells := 0, slots := 0, locals := 20 } : Room) s m ([.ref aX] : List Value).toArray below meth c H locs 0 0 (MQ below (mk_QR (dC, dI) vwCl (tyz cI cZ cS) A (w_X cI cZ cS aX aD aDw aM aMw aJ aJh aSa aSt sA tx pw wl wn dk mm hd sg sc4) R) ([.ref aX] : List Value).toArray s 0 0 A) (F0 m 25 ls [.int z0]) := by
  intro H locs ls hP hD hS hl
  obtain ⟨⟨hx, hb, hml, hown, hts⟩, hrt, hlk, hN⟩ := id E
  have hown : s.vm.findClass RX4 = some m.cls := hown
  unfold p_X_refusalOutsideTransaction_25 at h
  cases h
  exact mk_iretR E hK hP hD hS dX4_refusalOutsideTransaction_25
set_option maxHeartbeats 4000000 in
set_option maxRecDepth 100000 in
theorem c_X_refusalOutsideTransaction (l : Launch) (dC : Nat → ClassId) (dI : Nat → Nat → Nat) (cI cZ cS : ClassId) (aX aD aDw aM aMw aJ aJh aSa aSt : Nat) (sA : Nat → Nat) (tx : Int32) (pw : Int32) (wl : Int32) (wn : Int32) (dk : Nat → Int32) (mm : Nat → Int32) (hd : Nat → Int32) (sg : Nat → Int32) (sc4 : Nat → SCT) : CtR l yX4_refusalOutsideTransaction wsX4_refusalOutsideTransaction ({ frames := 1, cells := 0, slots := 0, locals := 20 }) (dC, dI) vwCl (tyz cI cZ cS) [.ref aX] (w_X cI cZ cS aX aD aDw aM aMw aJ aJh aSa aSt sA tx pw wl wn dk mm hd sg sc4) (p_X_refusalOutsideTransaction tx pw) := by
  intro R h
  refine mk_enter (Qc := (fun A => mk_QR (dC, dI) vwCl (tyz cI cZ cS) A (w_X cI cZ cS aX aD aDw aM aMw aJ aJh aSa aSt sA tx pw wl wn dk mm hd sg sc4) R)) (by decide) rfl (Nat.le_of_ble_eq_true rfl) ?_
  intro p e s m below meth c A E hA hK H locs ls hP hD hS hl
  obtain ⟨⟨hx, hb, hml, hown, hts⟩, hrt, hlk, hN⟩ := id E
  have hown : s.vm.findClass RX4 = some m.cls := hown
  have hl : lv_has ls 1 [(0, .ref aX)] := hl
  unfold p_X_refusalOutsideTransaction at h
  refine lv_aload_n hx hb dX4_refusalOutsideTransaction_0 rfl (lv_at hl 0 rfl) ?_
  refine va_get (D := (dC, dI)) (ci := 4) (v := .ref aD) (C := RX4) (T := TX4) (N := 6) hx hb hts iw_X_refusalOutsideTransaction_X hown hK hP 0 rfl rfl 0 (by decide) (hts _ mm_X_refusalOutsideTransaction_0) (fun _ h9 => h9) rfl dX4_refusalOutsideTransaction_1 ?_
  obtain ⟨r_1, hr_1, h⟩ := kp_bind h
  refine mk_contR (w := w_X cI cZ cS aX aD aDw aM aMw aJ aJh aSa aSt sA tx pw wl wn dk mm hd sg sc4) (w0 := w_D cI cZ cS aD aDw pw wl wn dk) (wr := [(aX, .inr (4, [.ref aD, .ref aM, .ref aJ, .ref aSa, .ref aSt, .int tx])), (aM, .inr (2, [.ref aMw])), (aMw, .inl (cI, 256, .inl mm)), (aJ, .inr (1, [.ref aD, .ref aM, .ref aJh])), (aJh, .inl (cI, 16, .inl hd)), (aSa, .inl (cS, 4, .inr (.inr (.inr (.inr (fun j => some (sA j))))))), (aSt, .inl (cI, 6, .inl sg)), (sA 0, scv (sc4 0)), (sA 1, scv (sc4 1)), (sA 2, scv (sc4 2)), (sA 3, scv (sc4 3))]) hP hD hS hA [1, 2] [0, 3, 4, 5, 6, 7, 8, 9, 10, 11, 12] rfl rfl (by decide) (by decide) [0, 11, 12, 1, 2, 3, 4, 5, 6, 7, 8, 9, 10] rfl (by decide) (va_runV (As := []) (rest := []) ⟨hx, hb, hml, hown, hts⟩ (c_D_powered l dC dI cI cZ cS aD aDw pw wl wn dk r_1 hr_1 H.size) (cwV 0 hts gX4_refusalOutsideTransaction_X0_powered rfl rfl rfl (by decide +kernel) ⟨Nat.le_of_ble_eq_true rfl, Nat.le_of_ble_eq_true rfl⟩) (mk_preV (w0 := w_D cI cZ cS aD aDw pw wl wn dk) (ci := 0) (q0 := 0) hN hK (mk_pick hP [1, 2] rfl) (hD.sub [1, 2] (by decide) rfl) rfl rfl rfl) rfl rfl hl.1 rfl (lv_room (Nat.le_of_ble_eq_true rfl)) dX4_refusalOutsideTransaction_4 ⟨Nat.zero_le _, Nat.zero_le _⟩) (fun H locs hP hD hS => ?_)
  refine lv_if_ne (tgt := 12) hx hb dX4_refusalOutsideTransaction_7 (by decide) (fun c_2 => ?_) (fun c_2 => ?_)
  · replace h := (kp_if h).2 c_2
    refine lv_aload_n hx hb dX4_refusalOutsideTransaction_12 rfl (lv_at hl 0 rfl) ?_
    refine va_get (D := (dC, dI)) (ci := 4) (v := .int tx) (C := RX4) (T := TX4) (N := 6) hx hb hts iw_X_refusalOutsideTransaction_X hown hK hP 0 rfl rfl 5 (by decide) (hts _ mm_X_refusalOutsideTransaction_2) (fun _ h9 => h9) rfl dX4_refusalOutsideTransaction_13 ?_
    refine lv_if_eq (tgt := 23) hx hb dX4_refusalOutsideTransaction_16 (by decide) (fun c_3 => ?_) (fun c_3 => ?_)
    · replace h := (kp_if h).1 c_3
      refine lv_bipush (v := (-2)) hx hb dX4_refusalOutsideTransaction_23 (by decide) ?_
      exact b_X_refusalOutsideTransaction_25 E hA hK R (-2) h H locs ls hP hD hS (lv_sub hl [] rfl)
    · replace h := (kp_if h).2 c_3
      refine lv_iconst (v := 0) hx hb dX4_refusalOutsideTransaction_19 (by decide) ?_
      refine lv_goto (tgt := 25) hx hb dX4_refusalOutsideTransaction_20 (by decide) ?_
      exact b_X_refusalOutsideTransaction_25 E hA hK R 0 h H locs ls hP hD hS (lv_sub hl [] rfl)
  · replace h := (kp_if h).1 c_2
    refine lv_iconst (v := (-1)) hx hb dX4_refusalOutsideTransaction_10 (by decide) ?_
    cases h
    exact mk_iretR E hK hP hD hS dX4_refusalOutsideTransaction_11

/- X.refusalOfChange(I)I -/
set_option maxRecDepth 20000 in
theorem mm_X_refusalOfChange_0 : Cond.fieldLink RX4 19 "JournaledTables" "memory" "LJournaledTables$Memory;" ∈ wsX4_refusalOfChange := by decide +kernel
set_option maxRecDepth 20000 in
theorem iw_X_refusalOfChange_X : ∀ w ∈ u_ws RX4 TX4 6, w ∈ wsX4_refusalOfChange := by decide +kernel
set_option maxHeartbeats 4000000 in
set_option maxRecDepth 100000 in
theorem b_X_refusalOfChange_28 {p : Program} {l : Launch} {e : Env} {s : State} {m : MethodId} {below : List Frame} {meth : Method} {c : Code} {A : Nat → Prop} {dC : Nat → ClassId} {dI : Nat → Nat → Nat} {cI cZ cS : ClassId} {aX aD aDw aM aMw aJ aJh aSa aSt : Nat} {sA : Nat → Nat} {tx : Int32} {pw : Int32} {wl : Int32} {wn : Int32} {dk : Nat → Int32} {mm : Nat → Int32} {hd : Nat → Int32} {sg : Nat → Int32} {sc4 : Nat → SCT} {a1 : Int32} (E : mk_En p s m meth c cX4_refusalOfChange 3 (some .int) ([.ref aX, .int a1] : List Value).toArray wsX4_refusalOfChange yX4_refusalOfChange.cls) (hA : ∀ q : Nat, s.heap.size ≤ q → A q) (hK : va_K (dC, dI) vwCl (tyz cI cZ cS) s) (R : Int32) (z0 : Int32) (h : p_X_refusalOfChange_28 tx pw mm z0 = some R) : ∀ (H : Heap) (locs : List Loc) (ls : Array Slot), va_P (dC, dI) vwCl (w_X cI cZ cS aX aD aDw aM aMw aJ aJh aSa aSt sA tx pw wl wn dk mm hd sg sc4) H → va_D A (w_X cI cZ cS aX aD aDw aM aMw aJ aJh aSa aSt sA tx pw wl wn dk mm hd sg sc4) → va_S A s.heap H locs → lv_has ls 3 [] → W p l e ({ frames := 2, cells := 0, slots := 0, locals := 40 } : Room) s m ([.ref aX, .int a1] : List Value).toArray below meth c H locs 0 0 (MQ below (mk_QR (dC, dI) vwCl (tyz cI cZ cS) A (w_X cI cZ cS aX aD aDw aM aMw aJ aJh aSa aSt sA tx pw wl wn dk mm hd sg sc4) R) ([.ref aX, .int a1] : List Value).toArray s 0 0 A) (F0 m 28 ls [.int z0]) := by
  intro H locs ls hP hD hS hl
  obtain ⟨⟨hx, hb, hml, hown, hts⟩, hrt, hlk, hN⟩ := id E
  have hown : s.vm.findClass RX4 = some m.cls := hown
  unfold p_X_refusalOfChange_28 at h
  cases h
  exact mk_iretR E hK hP hD hS dX4_refusalOfChange_28
set_option maxHeartbeats 4000000 in
set_option maxRecDepth 100000 in
theorem c_X_refusalOfChange (l : Launch) (dC : Nat → ClassId) (dI : Nat → Nat → Nat) (cI cZ cS : ClassId) (aX aD aDw aM aMw aJ aJh aSa aSt : Nat) (sA : Nat → Nat) (tx : Int32) (pw : Int32) (wl : Int32) (wn : Int32) (dk : Nat → Int32) (mm : Nat → Int32) (hd : Nat → Int32) (sg : Nat → Int32) (sc4 : Nat → SCT) (a1 : Int32) : CtR l yX4_refusalOfChange wsX4_refusalOfChange ({ frames := 2, cells := 0, slots := 0, locals := 40 }) (dC, dI) vwCl (tyz cI cZ cS) [.ref aX, .int a1] (w_X cI cZ cS aX aD aDw aM aMw aJ aJh aSa aSt sA tx pw wl wn dk mm hd sg sc4) (p_X_refusalOfChange tx pw mm a1) := by
  intro R h
  refine mk_enter (Qc := (fun A => mk_QR (dC, dI) vwCl (tyz cI cZ cS) A (w_X cI cZ cS aX aD aDw aM aMw aJ aJh aSa aSt sA tx pw wl wn dk mm hd sg sc4) R)) (by decide) rfl (Nat.le_of_ble_eq_true rfl) ?_
  intro p e s m below meth c A E hA hK H locs ls hP hD hS hl
  obtain ⟨⟨hx, hb, hml, hown, hts⟩, hrt, hlk, hN⟩ := id E
  have hown : s.vm.findClass RX4 = some m.cls := hown
  have hl : lv_has ls 3 [(0, .ref aX), (1, .int a1)] := hl
  unfold p_X_refusalOfChange at h
  refine lv_aload_n hx hb dX4_refusalOfChange_0 rfl (lv_at hl 0 rfl) ?_
  obtain ⟨r_1, hr_1, h⟩ := kp_bind h
  refine mk_contR (w := w_X cI cZ cS aX aD aDw aM aMw aJ aJh aSa aSt sA tx pw wl wn dk mm hd sg sc4) (w0 := w_X cI cZ cS aX aD aDw aM aMw aJ aJh aSa aSt sA tx pw wl wn dk mm hd sg sc4) (wr := []) hP hD hS hA [0, 1, 2, 3, 4, 5, 6, 7, 8, 9, 10, 11, 12] [] rfl rfl (by decide) (by decide) [0, 1, 2, 3, 4, 5, 6, 7, 8, 9, 10, 11, 12] rfl (by decide) (va_runV (As := []) (rest := []) ⟨hx, hb, hml, hown, hts⟩ (c_X_refusalOutsideTransaction l dC dI cI cZ cS aX aD aDw aM aMw aJ aJh aSa aSt sA tx pw wl wn dk mm hd sg sc4 r_1 hr_1 H.size) (cwV 0 hts gX4_refusalOfChange_X4_refusalOutsideTransaction rfl rfl rfl (by decide +kernel) ⟨Nat.le_of_ble_eq_true rfl, Nat.le_of_ble_eq_true rfl⟩) (mk_preV (w0 := w_X cI cZ cS aX aD aDw aM aMw aJ aJh aSa aSt sA tx pw wl wn dk mm hd sg sc4) (ci := 4) (q0 := 0) hN hK (mk_pick hP [0, 1, 2, 3, 4, 5, 6, 7, 8, 9, 10, 11, 12] rfl) (hD.sub [0, 1, 2, 3, 4, 5, 6, 7, 8, 9, 10, 11, 12] (by decide) rfl) rfl rfl rfl) rfl rfl hl.1 rfl (lv_room (Nat.le_of_ble_eq_true rfl)) dX4_refusalOfChange_1 ⟨Nat.zero_le _, Nat.zero_le _⟩) (fun H locs hP hD hS => ?_)
  refine lv_istore_n (lv' := [(2, .int r_1), (0, .ref aX), (1, .int a1)]) hx hb dX4_refusalOfChange_4 rfl hl (by decide) rfl (fun ls hl => ?_)
  refine lv_iload_n hx hb dX4_refusalOfChange_5 rfl (lv_at hl 0 rfl) ?_
  refine lv_if_eq (tgt := 11) hx hb dX4_refusalOfChange_6 (by decide) (fun c_2 => ?_) (fun c_2 => ?_)
  · replace h := (kp_if h).1 c_2
    refine lv_aload_n hx hb dX4_refusalOfChange_11 rfl (lv_at hl 1 rfl) ?_
    refine va_get (D := (dC, dI)) (ci := 4) (v := .ref aM) (C := RX4) (T := TX4) (N := 6) hx hb hts iw_X_refusalOfChange_X hown hK hP 0 rfl rfl 1 (by decide) (hts _ mm_X_refusalOfChange_0) (fun _ h9 => h9) rfl dX4_refusalOfChange_12 ?_
    refine lv_iload_n hx hb dX4_refusalOfChange_15 rfl (lv_at hl 2 rfl) ?_
    obtain ⟨r_3, hr_3, h⟩ := kp_bind h
    refine mk_contR (w := w_X cI cZ cS aX aD aDw aM aMw aJ aJh aSa aSt sA tx pw wl wn dk mm hd sg sc4) (w0 := w_M cI cZ cS aM aMw mm) (wr := [(aX, .inr (4, [.ref aD, .ref aM, .ref aJ, .ref aSa, .ref aSt, .int tx])), (aD, .inr (0, [.ref aDw, .int pw, .int wl, .int wn])), (aDw, .inl (cI, 528, .inl dk)), (aJ, .inr (1, [.ref aD, .ref aM, .ref aJh])), (aJh, .inl (cI, 16, .inl hd)), (aSa, .inl (cS, 4, .inr (.inr (.inr (.inr (fun j => some (sA j))))))), (aSt, .inl (cI, 6, .inl sg)), (sA 0, scv (sc4 0)), (sA 1, scv (sc4 1)), (sA 2, scv (sc4 2)), (sA 3, scv (sc4 3))]) hP hD hS hA [3, 4] [0, 1, 2, 5, 6, 7, 8, 9, 10, 11, 12] rfl rfl (by decide) (by decide) [0, 1, 2, 11, 12, 3, 4, 5, 6, 7, 8, 9, 10] rfl (by decide) (va_runV (As := [.int a1]) (rest := []) ⟨hx, hb, hml, hown, hts⟩ (c_M_hasTable l dC dI cI cZ cS aM aMw mm a1 r_3 hr_3 H.size) (cwV 1 hts gX4_refusalOfChange_X2_hasTable rfl rfl rfl (by decide +kernel) ⟨Nat.le_of_ble_eq_true rfl, Nat.le_of_ble_eq_true rfl⟩) (mk_preV (w0 := w_M cI cZ cS aM aMw mm) (ci := 2) (q0 := 0) hN hK (mk_pick hP [3, 4] rfl) (hD.sub [3, 4] (by decide) rfl) rfl rfl rfl) rfl rfl hl.1 rfl (lv_room (Nat.le_of_ble_eq_true rfl)) dX4_refusalOfChange_16 ⟨Nat.zero_le _, Nat.zero_le _⟩) (fun H locs hP hD hS => ?_)
    refine lv_if_eq (tgt := 26) hx hb dX4_refusalOfChange_19 (by decide) (fun c_4 => ?_) (fun c_4 => ?_)
    · replace h := (kp_if h).1 c_4
      refine lv_bipush (v := (-5)) hx hb dX4_refusalOfChange_26 (by decide) ?_
      exact b_X_refusalOfChange_28 E hA hK R (-5) h H locs ls hP hD hS (lv_sub hl [] rfl)
    · replace h := (kp_if h).2 c_4
      refine lv_iconst (v := 0) hx hb dX4_refusalOfChange_22 (by decide) ?_
      refine lv_goto (tgt := 28) hx hb dX4_refusalOfChange_23 (by decide) ?_
      exact b_X_refusalOfChange_28 E hA hK R 0 h H locs ls hP hD hS (lv_sub hl [] rfl)
  · replace h := (kp_if h).2 c_2
    refine lv_iload_n hx hb dX4_refusalOfChange_9 rfl (lv_at hl 0 rfl) ?_
    cases h
    exact mk_iretR E hK hP hD hS dX4_refusalOfChange_10

/- X.voidScansOf(I)V -/
set_option maxRecDepth 20000 in
theorem mm_X_voidScansOf_0 : Cond.fieldLink RX4 34 "JournaledTables" "scans" "[LJournaledTables$Scan;" ∈ wsX4_voidScansOf := by decide +kernel
set_option maxRecDepth 20000 in
theorem iw_X_voidScansOf_X : ∀ w ∈ u_ws RX4 TX4 6, w ∈ wsX4_voidScansOf := by decide +kernel
set_option maxHeartbeats 4000000 in
set_option maxRecDepth 100000 in
theorem b_X_voidScansOf_2 {p : Program} {l : Launch} {e : Env} {s : State} {m : MethodId} {below : List Frame} {meth : Method} {c : Code} {A : Nat → Prop} {dC : Nat → ClassId} {dI : Nat → Nat → Nat} {cI cZ cS : ClassId} {aX aD aDw aM aMw aJ aJh aSa aSt : Nat} {sA : Nat → Nat} {tx : Int32} {pw : Int32} {wl : Int32} {wn : Int32} {dk : Nat → Int32} {mm : Nat → Int32} {hd : Nat → Int32} {sg : Nat → Int32} {a1 : Int32} (E : mk_En p s m meth c cX4_voidScansOf 3 none ([.ref aX, .int a1] : List Value).toArray wsX4_voidScansOf yX4_voidScansOf.cls) (hA : ∀ q : Nat, s.heap.size ≤ q → A q) (hK : va_K (dC, dI) vwCl (tyz cI cZ cS) s) (R : (Nat → SCT)) {k_2 : Int32 → Int32 → (Nat → SCT) → Option ((Nat → SCT))} (hk_2 : ∀ (x1 : Int32) (x2 : Int32) (sc4 : Nat → SCT), k_2 x1 x2 sc4 = some R → ∀ (H : Heap) (locs : List Loc) (ls : Array Slot), va_P (dC, dI) vwCl (w_X cI cZ cS aX aD aDw aM aMw aJ aJh aSa aSt sA tx pw wl wn dk mm hd sg sc4) H → va_D A (w_X cI cZ cS aX aD aDw aM aMw aJ aJh aSa aSt sA tx pw wl wn dk mm hd sg sc4) → va_S A s.heap H locs → lv_has ls 3 [(0, .ref aX), (1, .int x1), (2, .int x2)] → W p l e ({ frames := 1, cells := 0, slots := 0, locals := 21 } : Room) s m ([.ref aX, .int a1] : List Value).toArray below meth c H locs 0 0 (MQ below (mk_QV (dC, dI) vwCl (tyz cI cZ cS) A (fun u : (Nat → SCT) => w_X cI cZ cS aX aD aDw aM aMw aJ aJh aSa aSt sA tx pw wl wn dk mm hd sg u) R) ([.ref aX, .int a1] : List Value).toArray s 0 0 A) (F0 m 2 ls [])) (x1 : Int32) (x2 : Int32) (sc4 : Nat → SCT) (h : p_X_voidScansOf_2 k_2 x1 x2 sc4 = some R) : ∀ (H : Heap) (locs : List Loc) (ls : Array Slot), va_P (dC, dI) vwCl (w_X cI cZ cS aX aD aDw aM aMw aJ aJh aSa aSt sA tx pw wl wn dk mm hd sg sc4) H → va_D A (w_X cI cZ cS aX aD aDw aM aMw aJ aJh aSa aSt sA tx pw wl wn dk mm hd sg sc4) → va_S A s.heap H locs → lv_has ls 3 [(0, .ref aX), (1, .int x1), (2, .int x2)] → W p l e ({ frames := 1, cells := 0, slots := 0, locals := 21 } : Room) s m ([.ref aX, .int a1] : List Value).toArray below meth c H locs 0 0 (MQ below (mk_QV (dC, dI) vwCl (tyz cI cZ cS) A (fun u : (Nat → SCT) => w_X cI cZ cS aX aD aDw aM aMw aJ aJh aSa aSt sA tx pw wl wn dk mm hd sg u) R) ([.ref aX, .int a1] : List Value).toArray s 0 0 A) (F0 m 2 ls []) := by
  intro H locs ls hP hD hS hl
  obtain ⟨⟨hx, hb, hml, hown, hts⟩, hrt, hlk, hN⟩ := id E
  have hown : s.vm.findClass RX4 = some m.cls := hown
  unfold p_X_voidScansOf_2 at h
  refine lv_iload_n hx hb dX4_voidScansOf_2 rfl (lv_at hl 2 rfl) ?_
  refine lv_iconst (v := 4) hx hb dX4_voidScansOf_3 (by decide) ?_
  refine lv_icmp_ge (tgt := 23) hx hb dX4_voidScansOf_4 (by decide) (fun c_1 => ?_) (fun c_1 => ?_)
  · replace h := (kp_if h).1 c_1
    cases h
    exact mk_vret E hK hP hD hS dX4_voidScansOf_23
  · replace h := (kp_if h).2 c_1
    refine lv_aload_n hx hb dX4_voidScansOf_7 rfl (lv_at hl 0 rfl) ?_
    refine va_get (D := (dC, dI)) (ci := 4) (v := .ref aSa) (C := RX4) (T := TX4) (N := 6) hx hb hts iw_X_voidScansOf_X hown hK hP 0 rfl rfl 3 (by decide) (hts _ mm_X_voidScansOf_0) (fun _ h9 => h9) rfl dX4_voidScansOf_8 ?_
    refine lv_iload_n hx hb dX4_voidScansOf_11 rfl (lv_at hl 2 rfl) ?_
    obtain ⟨hc_2, h⟩ := kp_in h
    refine va_aldq hx hb hK hP 7 2 rfl rfl (kx_of hc_2) dX4_voidScansOf_12 ?_
    refine W.eq (g2 := F0 m 13 ls [.ref (sA x2.toNatClampNeg)]) rfl ?_
    refine lv_iload_n hx hb dX4_voidScansOf_13 rfl (lv_at hl 1 rfl) ?_
    obtain ⟨r_3, hr_3, h⟩ := kp_bind h
    refine sx_V (k := x2.toNatClampNeg) (g := ((sc4 x2.toNatClampNeg).1, r_3, (sc4 x2.toNatClampNeg).2.2.1, (sc4 x2.toNatClampNeg).2.2.2.1, (sc4 x2.toNatClampNeg).2.2.2.2.1, (sc4 x2.toNatClampNeg).2.2.2.2.2.1, (sc4 x2.toNatClampNeg).2.2.2.2.2.2.1, (sc4 x2.toNatClampNeg).2.2.2.2.2.2.2)) (kx_lt hc_2) hP hD hS hA (va_runV (As := [.int x1]) (rest := []) ⟨hx, hb, hml, hown, hts⟩ (c_S_tableChanged l dC dI cI cZ cS (sA x2.toNatClampNeg) ((sc4 x2.toNatClampNeg).1) ((sc4 x2.toNatClampNeg).2.1) ((sc4 x2.toNatClampNeg).2.2.1) ((sc4 x2.toNatClampNeg).2.2.2.1) ((sc4 x2.toNatClampNeg).2.2.2.2.1) ((sc4 x2.toNatClampNeg).2.2.2.2.2.1) ((sc4 x2.toNatClampNeg).2.2.2.2.2.2.1) ((sc4 x2.toNatClampNeg).2.2.2.2.2.2.2) x1 r_3 hr_3 H.size) (cwV 1 hts gX4_voidScansOf_X3_tableChanged rfl rfl rfl (by decide +kernel) ⟨Nat.le_of_ble_eq_true rfl, Nat.le_of_ble_eq_true rfl⟩) (mk_preV (w0 := w_S cI cZ cS (sA x2.toNatClampNeg) ((sc4 x2.toNatClampNeg).1) ((sc4 x2.toNatClampNeg).2.1) ((sc4 x2.toNatClampNeg).2.2.1) ((sc4 x2.toNatClampNeg).2.2.2.1) ((sc4 x2.toNatClampNeg).2.2.2.2.1) ((sc4 x2.toNatClampNeg).2.2.2.2.2.1) ((sc4 x2.toNatClampNeg).2.2.2.2.2.2.1) ((sc4 x2.toNatClampNeg).2.2.2.2.2.2.2)) (ci := 3) (q0 := 0) hN hK (sx_P (kx_lt hc_2) hP) (sx_D (kx_lt hc_2) hD) rfl rfl rfl) rfl rfl hl.1 rfl (lv_room (Nat.le_of_ble_eq_true rfl)) dX4_voidScansOf_14 ⟨Nat.zero_le _, Nat.zero_le _⟩) rfl (fun H locs hP hD hS => ?_)
    refine lv_iinc (v := x2 + 1) (lv' := [(2, .int (x2 + 1)), (0, .ref aX), (1, .int x1)]) hx hb dX4_voidScansOf_17 hl (k := 2) rfl rfl (by decide) rfl (fun ls hl => ?_)
    refine lv_goto (tgt := 2) hx hb dX4_voidScansOf_20 (by decide) ?_
    exact hk_2 x1 (x2 + 1) (va_up sc4 x2.toNatClampNeg ((sc4 x2.toNatClampNeg).1, r_3, (sc4 x2.toNatClampNeg).2.2.1, (sc4 x2.toNatClampNeg).2.2.2.1, (sc4 x2.toNatClampNeg).2.2.2.2.1, (sc4 x2.toNatClampNeg).2.2.2.2.2.1, (sc4 x2.toNatClampNeg).2.2.2.2.2.2.1, (sc4 x2.toNatClampNeg).2.2.2.2.2.2.2)) h H locs ls hP hD hS (lv_sub hl [1, 2, 0] rfl)
set_option maxHeartbeats 4000000 in
set_option maxRecDepth 100000 in
theorem l_X_voidScansOf_2 {p : Program} {l : Launch} {e : Env} {s : State} {m : MethodId} {below : List Frame} {meth : Method} {c : Code} {A : Nat → Prop} {dC : Nat → ClassId} {dI : Nat → Nat → Nat} {cI cZ cS : ClassId} {aX aD aDw aM aMw aJ aJh aSa aSt : Nat} {sA : Nat → Nat} {tx : Int32} {pw : Int32} {wl : Int32} {wn : Int32} {dk : Nat → Int32} {mm : Nat → Int32} {hd : Nat → Int32} {sg : Nat → Int32} {a1 : Int32} (E : mk_En p s m meth c cX4_voidScansOf 3 none ([.ref aX, .int a1] : List Value).toArray wsX4_voidScansOf yX4_voidScansOf.cls) (hA : ∀ q : Nat, s.heap.size ≤ q → A q) (hK : va_K (dC, dI) vwCl (tyz cI cZ cS) s) (R : (Nat → SCT)) : ∀ (n : Nat) (x1 : Int32) (x2 : Int32) (sc4 : Nat → SCT), pl_X_voidScansOf_2 n x1 x2 sc4 = some R → ∀ (H : Heap) (locs : List Loc) (ls : Array Slot), va_P (dC, dI) vwCl (w_X cI cZ cS aX aD aDw aM aMw aJ aJh aSa aSt sA tx pw wl wn dk mm hd sg sc4) H → va_D A (w_X cI cZ cS aX aD aDw aM aMw aJ aJh aSa aSt sA tx pw wl wn dk mm hd sg sc4) → va_S A s.heap H locs → lv_has ls 3 [(0, .ref aX), (1, .int x1), (2, .int x2)] → W p l e ({ frames := 1, cells := 0, slots := 0, locals := 21 } : Room) s m ([.ref aX, .int a1] : List Value).toArray below meth c H locs 0 0 (MQ below (mk_QV (dC, dI) vwCl (tyz cI cZ cS) A (fun u : (Nat → SCT) => w_X cI cZ cS aX aD aDw aM aMw aJ aJh aSa aSt sA tx pw wl wn dk mm hd sg u) R) ([.ref aX, .int a1] : List Value).toArray s 0 0 A) (F0 m 2 ls []) := by
  intro n
  induction n with
  | zero =>
    intro x1 x2 sc4 h
    cases h
  | succ n ih =>
    intro x1 x2 sc4 h
    exact b_X_voidScansOf_2 E hA hK R ih x1 x2 sc4 h
set_option maxHeartbeats 4000000 in
set_option maxRecDepth 100000 in
theorem c_X_voidScansOf (l : Launch) (dC : Nat → ClassId) (dI : Nat → Nat → Nat) (cI cZ cS : ClassId) (aX aD aDw aM aMw aJ aJh aSa aSt : Nat) (sA : Nat → Nat) (tx : Int32) (pw : Int32) (wl : Int32) (wn : Int32) (dk : Nat → Int32) (mm : Nat → Int32) (hd : Nat → Int32) (sg : Nat → Int32) (sc4 : Nat → SCT) (a1 : Int32) : CtV l yX4_voidScansOf wsX4_voidScansOf ({ frames := 1, cells := 0, slots := 0, locals := 21 }) (dC, dI) vwCl (tyz cI cZ cS) [.ref aX, .int a1] (w_X cI cZ cS aX aD aDw aM aMw aJ aJh aSa aSt sA tx pw wl wn dk mm hd sg sc4) (fun u : (Nat → SCT) => w_X cI cZ cS aX aD aDw aM aMw aJ aJh aSa aSt sA tx pw wl wn dk mm hd sg u) (p_X_voidScansOf sc4 a1) := by
  intro R h
  refine mk_enter (Qc := (fun A => mk_QV (dC, dI) vwCl (tyz cI cZ cS) A (fun u : (Nat → SCT) => w_X cI cZ cS aX aD aDw aM aMw aJ aJh aSa aSt sA tx pw wl wn dk mm hd sg u) R)) (by decide) rfl (Nat.le_of_ble_eq_true rfl) ?_
  intro p e s m below meth c A E hA hK H locs ls hP hD hS hl
  obtain ⟨⟨hx, hb, hml, hown, hts⟩, hrt, hlk, hN⟩ := id E
  have hown : s.vm.findClass RX4 = some m.cls := hown
  have hl : lv_has ls 3 [(0, .ref aX), (1, .int a1)] := hl
  unfold p_X_voidScansOf at h
  refine lv_iconst (v := 0) hx hb dX4_voidScansOf_0 (by decide) ?_
  refine lv_istore_n (lv' := [(2, .int 0), (0, .ref aX), (1, .int a1)]) hx hb dX4_voidScansOf_1 rfl hl (by decide) rfl (fun ls hl => ?_)
  exact l_X_voidScansOf_2 E hA hK R 1000 a1 0 sc4 h H locs ls hP hD hS (lv_sub hl [1, 2, 0] rfl)

/- X.scanOf(I)LJournaledTables$Scan; -/
set_option maxRecDepth 20000 in
theorem mm_X_scanOf_0 : Cond.fieldLink RX4 34 "JournaledTables" "scans" "[LJournaledTables$Scan;" ∈ wsX4_scanOf := by decide +kernel
set_option maxRecDepth 20000 in
theorem iw_X_scanOf_X : ∀ w ∈ u_ws RX4 TX4 6, w ∈ wsX4_scanOf := by decide +kernel
set_option maxHeartbeats 4000000 in
set_option maxRecDepth 100000 in
theorem c_X_scanOf (l : Launch) (dC : Nat → ClassId) (dI : Nat → Nat → Nat) (cI cZ cS : ClassId) (aX aD aDw aM aMw aJ aJh aSa aSt : Nat) (sA : Nat → Nat) (tx : Int32) (pw : Int32) (wl : Int32) (wn : Int32) (dk : Nat → Int32) (mm : Nat → Int32) (hd : Nat → Int32) (sg : Nat → Int32) (sc4 : Nat → SCT) (a1 : Int32) : CtQ l yX4_scanOf wsX4_scanOf ({ frames := 1, cells := 0, slots := 0, locals := 20 }) (dC, dI) vwCl (tyz cI cZ cS) [.ref aX, .int a1] (w_X cI cZ cS aX aD aDw aM aMw aJ aJh aSa aSt sA tx pw wl wn dk mm hd sg sc4) ((p_X_scanOf sc4 a1).map (Option.map sA)) := by
  intro R0 h0
  obtain ⟨R, h, rfl⟩ := Option.map_eq_some_iff.mp h0
  refine mk_enter (Qc := (fun A => mk_QQ (dC, dI) vwCl (tyz cI cZ cS) A (w_X cI cZ cS aX aD aDw aM aMw aJ aJh aSa aSt sA tx pw wl wn dk mm hd sg sc4) (Option.map sA R))) (by decide) rfl (Nat.le_of_ble_eq_true rfl) ?_
  intro p e s m below meth c A E hA hK H locs ls hP hD hS hl
  obtain ⟨⟨hx, hb, hml, hown, hts⟩, hrt, hlk, hN⟩ := id E
  have hown : s.vm.findClass RX4 = some m.cls := hown
  have hl : lv_has ls 2 [(0, .ref aX), (1, .int a1)] := hl
  unfold p_X_scanOf at h
  refine lv_iload_n hx hb dX4_scanOf_0 rfl (lv_at hl 1 rfl) ?_
  refine lv_if_lt (tgt := 9) hx hb dX4_scanOf_1 (by decide) (fun c_1 => ?_) (fun c_1 => ?_)
  · replace h := (kp_if h).1 c_1
    refine lv_null hx hb dX4_scanOf_9 ?_
    cases h
    exact mk_aretQ (r := none) E hK hP hD hS dX4_scanOf_10
  · replace h := (kp_if h).2 c_1
    refine lv_iload_n hx hb dX4_scanOf_4 rfl (lv_at hl 1 rfl) ?_
    refine lv_iconst (v := 4) hx hb dX4_scanOf_5 (by decide) ?_
    refine lv_icmp_lt (tgt := 11) hx hb dX4_scanOf_6 (by decide) (fun c_2 => ?_) (fun c_2 => ?_)
    · replace h := (kp_if h).1 c_2
      refine lv_aload_n hx hb dX4_scanOf_11 rfl (lv_at hl 0 rfl) ?_
      refine va_get (D := (dC, dI)) (ci := 4) (v := .ref aSa) (C := RX4) (T := TX4) (N := 6) hx hb hts iw_X_scanOf_X hown hK hP 0 rfl rfl 3 (by decide) (hts _ mm_X_scanOf_0) (fun _ h9 => h9) rfl dX4_scanOf_12 ?_
      refine lv_iload_n hx hb dX4_scanOf_15 rfl (lv_at hl 1 rfl) ?_
      obtain ⟨hc_3, h⟩ := kp_in h
      refine va_aldq hx hb hK hP 7 2 rfl rfl (kx_of hc_3) dX4_scanOf_16 ?_
      refine W.eq (g2 := F0 m 17 ls [.ref (sA a1.toNatClampNeg)]) rfl ?_
      obtain ⟨r_4, hr_4, h⟩ := kp_bind h
      refine sx_R (k := a1.toNatClampNeg) (kx_lt hc_3) hP hD hS hA (va_runV (As := []) (rest := []) ⟨hx, hb, hml, hown, hts⟩ (c_S_isOpen l dC dI cI cZ cS (sA a1.toNatClampNeg) ((sc4 a1.toNatClampNeg).1) ((sc4 a1.toNatClampNeg).2.1) ((sc4 a1.toNatClampNeg).2.2.1) ((sc4 a1.toNatClampNeg).2.2.2.1) ((sc4 a1.toNatClampNeg).2.2.2.2.1) ((sc4 a1.toNatClampNeg).2.2.2.2.2.1) ((sc4 a1.toNatClampNeg).2.2.2.2.2.2.1) ((sc4 a1.toNatClampNeg).2.2.2.2.2.2.2) r_4 hr_4 H.size) (cwV 0 hts gX4_scanOf_X3_isOpen rfl rfl rfl (by decide +kernel) ⟨Nat.le_of_ble_eq_true rfl, Nat.le_of_ble_eq_true rfl⟩) (mk_preV (w0 := w_S cI cZ cS (sA a1.toNatClampNeg) ((sc4 a1.toNatClampNeg).1) ((sc4 a1.toNatClampNeg).2.1) ((sc4 a1.toNatClampNeg).2.2.1) ((sc4 a1.toNatClampNeg).2.2.2.1) ((sc4 a1.toNatClampNeg).2.2.2.2.1) ((sc4 a1.toNatClampNeg).2.2.2.2.2.1) ((sc4 a1.toNatClampNeg).2.2.2.2.2.2.1) ((sc4 a1.toNatClampNeg).2.2.2.2.2.2.2)) (ci := 3) (q0 := 0) hN hK (sx_P (kx_lt hc_3) hP) (sx_D (kx_lt hc_3) hD) rfl rfl rfl) rfl rfl hl.1 rfl (lv_room (Nat.le_of_ble_eq_true rfl)) dX4_scanOf_17 ⟨Nat.zero_le _, Nat.zero_le _⟩) (fun H locs hP hD hS => ?_)
      refine lv_if_eq (tgt := 32) hx hb dX4_scanOf_20 (by decide) (fun c_5 => ?_) (fun c_5 => ?_)
      · replace h := (kp_if h).1 c_5
        refine lv_null hx hb dX4_scanOf_32 ?_
        cases h
        exact mk_aretQ (r := none) E hK hP hD hS dX4_scanOf_33
      · replace h := (kp_if h).2 c_5
        refine lv_aload_n hx hb dX4_scanOf_23 rfl (lv_at hl 0 rfl) ?_
        refine va_get (D := (dC, dI)) (ci := 4) (v := .ref aSa) (C := RX4) (T := TX4) (N := 6) hx hb hts iw_X_scanOf_X hown hK hP 0 rfl rfl 3 (by decide) (hts _ mm_X_scanOf_0) (fun _ h9 => h9) rfl dX4_scanOf_24 ?_
        refine lv_iload_n hx hb dX4_scanOf_27 rfl (lv_at hl 1 rfl) ?_
        obtain ⟨hc_6, h⟩ := kp_in h
        refine va_aldq hx hb hK hP 7 2 rfl rfl (kx_of hc_6) dX4_scanOf_28 ?_
        refine W.eq (g2 := F0 m 29 ls [.ref (sA a1.toNatClampNeg)]) rfl ?_
        refine lv_goto (tgt := 33) hx hb dX4_scanOf_29 (by decide) ?_
        cases h
        exact mk_aretQ (r := some (sA a1.toNatClampNeg)) E hK hP hD hS dX4_scanOf_33
    · replace h := (kp_if h).2 c_2
      refine lv_null hx hb dX4_scanOf_9 ?_
      cases h
      exact mk_aretQ (r := none) E hK hP hD hS dX4_scanOf_10

/- X.usableScan(I)LJournaledTables$Scan; -/
set_option maxRecDepth 20000 in
theorem mm_X_usableScan_0 : Cond.fieldLink RX4 10 "JournaledTables" "disk" "LJournaledTables$Disk;" ∈ wsX4_usableScan := by decide +kernel
set_option maxRecDepth 20000 in
theorem iw_X_usableScan_X : ∀ w ∈ u_ws RX4 TX4 6, w ∈ wsX4_usableScan := by decide +kernel
set_option maxHeartbeats 4000000 in
set_option maxRecDepth 100000 in
theorem c_X_usableScan (l : Launch) (dC : Nat → ClassId) (dI : Nat → Nat → Nat) (cI cZ cS : ClassId) (aX aD aDw aM aMw aJ aJh aSa aSt : Nat) (sA : Nat → Nat) (tx : Int32) (pw : Int32) (wl : Int32) (wn : Int32) (dk : Nat → Int32) (mm : Nat → Int32) (hd : Nat → Int32) (sg : Nat → Int32) (sc4 : Nat → SCT) (a1 : Int32) : CtQ l yX4_usableScan wsX4_usableScan ({ frames := 2, cells := 0, slots := 0, locals := 41 }) (dC, dI) vwCl (tyz cI cZ cS) [.ref aX, .int a1] (w_X cI cZ cS aX aD aDw aM aMw aJ aJh aSa aSt sA tx pw wl wn dk mm hd sg sc4) ((p_X_usableScan pw sc4 a1).map (Option.map sA)) := by
  intro R0 h0
  obtain ⟨R, h, rfl⟩ := Option.map_eq_some_iff.mp h0
  refine mk_enter (Qc := (fun A => mk_QQ (dC, dI) vwCl (tyz cI cZ cS) A (w_X cI cZ cS aX aD aDw aM aMw aJ aJh aSa aSt sA tx pw wl wn dk mm hd sg sc4) (Option.map sA R))) (by decide) rfl (Nat.le_of_ble_eq_true rfl) ?_
  intro p e s m below meth c A E hA hK H locs ls hP hD hS hl
  obtain ⟨⟨hx, hb, hml, hown, hts⟩, hrt, hlk, hN⟩ := id E
  have hown : s.vm.findClass RX4 = some m.cls := hown
  have hl : lv_has ls 3 [(0, .ref aX), (1, .int a1)] := hl
  unfold p_X_usableScan at h
  refine lv_aload_n hx hb dX4_usableScan_0 rfl (lv_at hl 0 rfl) ?_
  refine va_get (D := (dC, dI)) (ci := 4) (v := .ref aD) (C := RX4) (T := TX4) (N := 6) hx hb hts iw_X_usableScan_X hown hK hP 0 rfl rfl 0 (by decide) (hts _ mm_X_usableScan_0) (fun _ h9 => h9) rfl dX4_usableScan_1 ?_
  obtain ⟨r_1, hr_1, h⟩ := kp_bind h
  refine mk_contR (w := w_X cI cZ cS aX aD aDw aM aMw aJ aJh aSa aSt sA tx pw wl wn dk mm hd sg sc4) (w0 := w_D cI cZ cS aD aDw pw wl wn dk) (wr := [(aX, .inr (4, [.ref aD, .ref aM, .ref aJ, .ref aSa, .ref aSt, .int tx])), (aM, .inr (2, [.ref aMw])), (aMw, .inl (cI, 256, .inl mm)), (aJ, .inr (1, [.ref aD, .ref aM, .ref aJh])), (aJh, .inl (cI, 16, .inl hd)), (aSa, .inl (cS, 4, .inr (.inr (.inr (.inr (fun j => some (sA j))))))), (aSt, .inl (cI, 6, .inl sg)), (sA 0, scv (sc4 0)), (sA 1, scv (sc4 1)), (sA 2, scv (sc4 2)), (sA 3, scv (sc4 3))]) hP hD hS hA [1, 2] [0, 3, 4, 5, 6, 7, 8, 9, 10, 11, 12] rfl rfl (by decide) (by decide) [0, 11, 12, 1, 2, 3, 4, 5, 6, 7, 8, 9, 10] rfl (by decide) (va_runV (As := []) (rest := []) ⟨hx, hb, hml, hown, hts⟩ (c_D_powered l dC dI cI cZ cS aD aDw pw wl wn dk r_1 hr_1 H.size) (cwV 0 hts gX4_usableScan_X0_powered rfl rfl rfl (by decide +kernel) ⟨Nat.le_of_ble_eq_true rfl, Nat.le_of_ble_eq_true rfl⟩) (mk_preV (w0 := w_D cI cZ cS aD aDw pw wl wn dk) (ci := 0) (q0 := 0) hN hK (mk_pick hP [1, 2] rfl) (hD.sub [1, 2] (by decide) rfl) rfl rfl rfl) rfl rfl hl.1 rfl (lv_room (Nat.le_of_ble_eq_true rfl)) dX4_usableScan_4 ⟨Nat.zero_le _, Nat.zero_le _⟩) (fun H locs hP hD hS => ?_)
  refine lv_if_eq (tgt := 18) hx hb dX4_usableScan_7 (by decide) (fun c_2 => ?_) (fun c_2 => ?_)
  · replace h := (kp_if h).1 c_2
    refine lv_null hx hb dX4_usableScan_18 ?_
    refine lv_astore_nN (lv' := [(2, .null), (0, .ref aX), (1, .int a1)]) hx hb dX4_usableScan_19 rfl hl (by decide) rfl (fun ls hl => ?_)
    refine lv_aload_nN hx hb dX4_usableScan_20 rfl (lv_at hl 0 rfl) ?_
    refine lv_ifnullN (tgt := 31) hx hb dX4_usableScan_21 (by decide) ?_
    refine lv_null hx hb dX4_usableScan_31 ?_
    refine lv_goto (tgt := 36) hx hb dX4_usableScan_32 (by decide) ?_
    cases h
    exact mk_aretQ (r := none) E hK hP hD hS dX4_usableScan_36
  · replace h := (kp_if h).2 c_2
    refine lv_aload_n hx hb dX4_usableScan_10 rfl (lv_at hl 0 rfl) ?_
    refine lv_iload_n hx hb dX4_usableScan_11 rfl (lv_at hl 1 rfl) ?_
    obtain ⟨r_3, hr_3, h⟩ := kp_bind h
    refine mk_contQ (w := w_X cI cZ cS aX aD aDw aM aMw aJ aJh aSa aSt sA tx pw wl wn dk mm hd sg sc4) (w0 := w_X cI cZ cS aX aD aDw aM aMw aJ aJh aSa aSt sA tx pw wl wn dk mm hd sg sc4) (wr := []) hP hD hS hA [0, 1, 2, 3, 4, 5, 6, 7, 8, 9, 10, 11, 12] [] rfl rfl (by decide) (by decide) [0, 1, 2, 3, 4, 5, 6, 7, 8, 9, 10, 11, 12] rfl (by decide) (va_runV (As := [.int a1]) (rest := []) ⟨hx, hb, hml, hown, hts⟩ (c_X_scanOf l dC dI cI cZ cS aX aD aDw aM aMw aJ aJh aSa aSt sA tx pw wl wn dk mm hd sg sc4 a1 (Option.map sA r_3) (congrArg (Option.map (Option.map sA)) hr_3) H.size) (cwV 1 hts gX4_usableScan_X4_scanOf rfl rfl rfl (by decide +kernel) ⟨Nat.le_of_ble_eq_true rfl, Nat.le_of_ble_eq_true rfl⟩) (mk_preV (w0 := w_X cI cZ cS aX aD aDw aM aMw aJ aJh aSa aSt sA tx pw wl wn dk mm hd sg sc4) (ci := 4) (q0 := 0) hN hK (mk_pick hP [0, 1, 2, 3, 4, 5, 6, 7, 8, 9, 10, 11, 12] rfl) (hD.sub [0, 1, 2, 3, 4, 5, 6, 7, 8, 9, 10, 11, 12] (by decide) rfl) rfl rfl rfl) rfl rfl hl.1 rfl (lv_room (Nat.le_of_ble_eq_true rfl)) dX4_usableScan_12 ⟨Nat.zero_le _, Nat.zero_le _⟩) (fun H locs hP hD hS => ?_)
    cases r_3 with
    | none =>
      replace h := kq_n h
      refine W.eq (g2 := F0 m 15 ls [.null]) rfl ?_
      refine lv_goto (tgt := 19) hx hb dX4_usableScan_15 (by decide) ?_
      refine lv_astore_nN (lv' := [(2, .null), (0, .ref aX), (1, .int a1)]) hx hb dX4_usableScan_19 rfl hl (by decide) rfl (fun ls hl => ?_)
      refine lv_aload_nN hx hb dX4_usableScan_20 rfl (lv_at hl 0 rfl) ?_
      refine lv_ifnullN (tgt := 31) hx hb dX4_usableScan_21 (by decide) ?_
      refine lv_null hx hb dX4_usableScan_31 ?_
      refine lv_goto (tgt := 36) hx hb dX4_usableScan_32 (by decide) ?_
      cases h
      exact mk_aretQ (r := none) E hK hP hD hS dX4_usableScan_36
    | some kr_3 =>
      replace h := kq_s h
      refine W.eq (g2 := F0 m 15 ls [.ref (sA kr_3)]) rfl ?_
      obtain ⟨hc_4, h⟩ := kp_in h
      refine lv_goto (tgt := 19) hx hb dX4_usableScan_15 (by decide) ?_
      refine lv_astore_n (lv' := [(2, .ref (sA kr_3)), (0, .ref aX), (1, .int a1)]) hx hb dX4_usableScan_19 rfl hl (by decide) rfl (fun ls hl => ?_)
      refine lv_aload_n hx hb dX4_usableScan_20 rfl (lv_at hl 0 rfl) ?_
      refine lv_ifnull hx hb dX4_usableScan_21 ?_
      refine lv_aload_n hx hb dX4_usableScan_24 rfl (lv_at hl 0 rfl) ?_
      obtain ⟨r_5, hr_5, h⟩ := kp_bind h
      refine sx_R (k := kr_3) hc_4 hP hD hS hA (va_runV (As := []) (rest := []) ⟨hx, hb, hml, hown, hts⟩ (c_S_isVoid l dC dI cI cZ cS (sA kr_3) ((sc4 kr_3).1) ((sc4 kr_3).2.1) ((sc4 kr_3).2.2.1) ((sc4 kr_3).2.2.2.1) ((sc4 kr_3).2.2.2.2.1) ((sc4 kr_3).2.2.2.2.2.1) ((sc4 kr_3).2.2.2.2.2.2.1) ((sc4 kr_3).2.2.2.2.2.2.2) r_5 hr_5 H.size) (cwV 0 hts gX4_usableScan_X3_isVoid rfl rfl rfl (by decide +kernel) ⟨Nat.le_of_ble_eq_true rfl, Nat.le_of_ble_eq_true rfl⟩) (mk_preV (w0 := w_S cI cZ cS (sA kr_3) ((sc4 kr_3).1) ((sc4 kr_3).2.1) ((sc4 kr_3).2.2.1) ((sc4 kr_3).2.2.2.1) ((sc4 kr_3).2.2.2.2.1) ((sc4 kr_3).2.2.2.2.2.1) ((sc4 kr_3).2.2.2.2.2.2.1) ((sc4 kr_3).2.2.2.2.2.2.2)) (ci := 3) (q0 := 0) hN hK (sx_P hc_4 hP) (sx_D hc_4 hD) rfl rfl rfl) rfl rfl hl.1 rfl (lv_room (Nat.le_of_ble_eq_true rfl)) dX4_usableScan_25 ⟨Nat.zero_le _, Nat.zero_le _⟩) (fun H locs hP hD hS => ?_)
      refine lv_if_eq (tgt := 35) hx hb dX4_usableScan_28 (by decide) (fun c_6 => ?_) (fun c_6 => ?_)
      · replace h := (kp_if h).1 c_6
        refine lv_aload_n hx hb dX4_usableScan_35 rfl (lv_at hl 0 rfl) ?_
        cases h
        exact mk_aretQ (r := some (sA kr_3)) E hK hP hD hS dX4_usableScan_36
      · replace h := (kp_if h).2 c_6
        refine lv_null hx hb dX4_usableScan_31 ?_
        refine lv_goto (tgt := 36) hx hb dX4_usableScan_32 (by decide) ?_
        cases h
        exact mk_aretQ (r := none) E hK hP hD hS dX4_usableScan_36

/- X.format()I -/
set_option maxRecDepth 20000 in
theorem mm_X_format_0 : Cond.fieldLink RX4 10 "JournaledTables" "disk" "LJournaledTables$Disk;" ∈ wsX4_format := by decide +kernel
set_option maxRecDepth 20000 in
theorem iw_X_format_X : ∀ w ∈ u_ws RX4 TX4 6, w ∈ wsX4_format := by decide +kernel
set_option maxHeartbeats 4000000 in
set_option maxRecDepth 100000 in
theorem c_X_format (l : Launch) (dC : Nat → ClassId) (dI : Nat → Nat → Nat) (cI cZ cS : ClassId) (aX aD aDw aM aMw aJ aJh aSa aSt : Nat) (sA : Nat → Nat) (tx : Int32) (pw : Int32) (wl : Int32) (wn : Int32) (dk : Nat → Int32) (mm : Nat → Int32) (hd : Nat → Int32) (sg : Nat → Int32) (sc4 : Nat → SCT) : CtI l yX4_format wsX4_format ({ frames := 3, cells := 0, slots := 0, locals := 60 }) (dC, dI) vwCl (tyz cI cZ cS) [.ref aX] (w_X cI cZ cS aX aD aDw aM aMw aJ aJh aSa aSt sA tx pw wl wn dk mm hd sg sc4) (fun u : Int32 × Int32 × Int32 × (Nat → Int32) × (Nat → Int32) × (Nat → SCT) => w_X cI cZ cS aX aD aDw aM aMw aJ aJh aSa aSt sA u.1 u.2.1 u.2.2.1 wn u.2.2.2.1 u.2.2.2.2.1 hd sg u.2.2.2.2.2) (p_X_format tx pw wl dk mm sc4) := by
  intro R h
  refine mk_enter (Qc := (fun A => mk_QI (dC, dI) vwCl (tyz cI cZ cS) A (fun u : Int32 × Int32 × Int32 × (Nat → Int32) × (Nat → Int32) × (Nat → SCT) => w_X cI cZ cS aX aD aDw aM aMw aJ aJh aSa aSt sA u.1 u.2.1 u.2.2.1 wn u.2.2.2.1 u.2.2.2.2.1 hd sg u.2.2.2.2.2) R)) (by decide) rfl (Nat.le_of_ble_eq_true rfl) ?_
  intro p e s m below meth c A E hA hK H locs ls hP hD hS hl
  obtain ⟨⟨hx, hb, hml, hown, hts⟩, hrt, hlk, hN⟩ := id E
  have hown : s.vm.findClass RX4 = some m.cls := hown
  have hl : lv_has ls 1 [(0, .ref aX)] := hl
  unfold p_X_format at h
  refine lv_aload_n hx hb dX4_format_0 rfl (lv_at hl 0 rfl) ?_
  refine va_get (D := (dC, dI)) (ci := 4) (v := .ref aD) (C := RX4) (T := TX4) (N := 6) hx hb hts iw_X_format_X hown hK hP 0 rfl rfl 0 (by decide) (hts _ mm_X_format_0) (fun _ h9 => h9) rfl dX4_format_1 ?_
  obtain ⟨r_1, hr_1, h⟩ := kp_bind h
  refine mk_contV (w := w_X cI cZ cS aX aD aDw aM aMw aJ aJh aSa aSt sA tx pw wl wn dk mm hd sg sc4) (w0 := w_D cI cZ cS aD aDw pw wl wn dk) (wr := [(aX, .inr (4, [.ref aD, .ref aM, .ref aJ, .ref aSa, .ref aSt, .int tx])), (aM, .inr (2, [.ref aMw])), (aMw, .inl (cI, 256, .inl mm)), (aJ, .inr (1, [.ref aD, .ref aM, .ref aJh])), (aJh, .inl (cI, 16, .inl hd)), (aSa, .inl (cS, 4, .inr (.inr (.inr (.inr (fun j => some (sA j))))))), (aSt, .inl (cI, 6, .inl sg)), (sA 0, scv (sc4 0)), (sA 1, scv (sc4 1)), (sA 2, scv (sc4 2)), (sA 3, scv (sc4 3))]) (w2 := w_X cI cZ cS aX aD aDw aM aMw aJ aJh aSa aSt sA tx r_1.1 r_1.2.1 wn r_1.2.2 mm hd sg sc4) hP hD hS hA [1, 2] [0, 3, 4, 5, 6, 7, 8, 9, 10, 11, 12] rfl rfl (by decide) (by decide) [0, 11, 12, 1, 2, 3, 4, 5, 6, 7, 8, 9, 10] rfl (by decide) (va_runV (As := []) (rest := []) ⟨hx, hb, hml, hown, hts⟩ (c_D_wipe l dC dI cI cZ cS aD aDw pw wl wn dk r_1 hr_1 H.size) (cwV 0 hts gX4_format_X0_wipe rfl rfl rfl (by decide +kernel) ⟨Nat.le_of_ble_eq_true rfl, Nat.le_of_ble_eq_true rfl⟩) (mk_preV (w0 := w_D cI cZ cS aD aDw pw wl wn dk) (ci := 0) (q0 := 0) hN hK (mk_pick hP [1, 2] rfl) (hD.sub [1, 2] (by decide) rfl) rfl rfl rfl) rfl rfl hl.1 rfl (lv_room (Nat.le_of_ble_eq_true rfl)) dX4_format_4 ⟨Nat.zero_le _, Nat.zero_le _⟩) (fun H locs hP hD hS => ?_)
  refine lv_aload_n hx hb dX4_format_7 rfl (lv_at hl 0 rfl) ?_
  obtain ⟨r_2, hr_2, h⟩ := kp_bind h
  refine mk_contV (w := w_X cI cZ cS aX aD aDw aM aMw aJ aJh aSa aSt sA tx r_1.1 r_1.2.1 wn r_1.2.2 mm hd sg sc4) (w0 := w_X cI cZ cS aX aD aDw aM aMw aJ aJh aSa aSt sA tx r_1.1 r_1.2.1 wn r_1.2.2 mm hd sg sc4) (wr := []) (w2 := w_X cI cZ cS aX aD aDw aM aMw aJ aJh aSa aSt sA r_2.1 r_1.1 r_1.2.1 wn r_1.2.2 r_2.2.1 hd sg r_2.2.2) hP hD hS hA [0, 1, 2, 3, 4, 5, 6, 7, 8, 9, 10, 11, 12] [] rfl rfl (by decide) (by decide) [0, 1, 2, 3, 4, 5, 6, 7, 8, 9, 10, 11, 12] rfl (by decide) (va_runV (As := []) (rest := []) ⟨hx, hb, hml, hown, hts⟩ (c_X_startAnew l dC dI cI cZ cS aX aD aDw aM aMw aJ aJh aSa aSt sA tx r_1.1 r_1.2.1 wn r_1.2.2 mm hd sg sc4 r_2 hr_2 H.size) (cwV 0 hts gX4_format_X4_startAnew rfl rfl rfl (by decide +kernel) ⟨Nat.le_of_ble_eq_true rfl, Nat.le_of_ble_eq_true rfl⟩) (mk_preV (w0 := w_X cI cZ cS aX aD aDw aM aMw aJ aJh aSa aSt sA tx r_1.1 r_1.2.1 wn r_1.2.2 mm hd sg sc4) (ci := 4) (q0 := 0) hN hK (mk_pick hP [0, 1, 2, 3, 4, 5, 6, 7, 8, 9, 10, 11, 12] rfl) (hD.sub [0, 1, 2, 3, 4, 5, 6, 7, 8, 9, 10, 11, 12] (by decide) rfl) rfl rfl rfl) rfl rfl hl.1 rfl (lv_room (Nat.le_of_ble_eq_true rfl)) dX4_format_8 ⟨Nat.zero_le _, Nat.zero_le _⟩) (fun H locs hP hD hS => ?_)
  refine lv_iconst (v := 0) hx hb dX4_format_11 (by decide) ?_
  cases h
  exact mk_iret E hK hP hD hS dX4_format_12

/- X.createTable(I)I -/
set_option maxRecDepth 20000 in
theorem mm_X_createTable_0 : Cond.fieldLink RX4 10 "JournaledTables" "disk" "LJournaledTables$Disk;" ∈ wsX4_createTable := by decide +kernel
set_option maxRecDepth 20000 in
theorem iw_X_createTable_X : ∀ w ∈ u_ws RX4 TX4 6, w ∈ wsX4_createTable := by decide +kernel
set_option maxRecDepth 20000 in
theorem mm_X_createTable_2 : Cond.fieldLink RX4 43 "JournaledTables" "inTransaction" "Z" ∈ wsX4_createTable := by decide +kernel
set_option maxRecDepth 20000 in
theorem mm_X_createTable_3 : Cond.fieldLink RX4 19 "JournaledTables" "memory" "LJournaledTables$Memory;" ∈ wsX4_createTable := by decide +kernel
set_option maxHeartbeats 4000000 in
set_option maxRecDepth 100000 in
theorem b_X_createTable_23 {p : Program} {l : Launch} {e : Env} {s : State} {m : MethodId} {below : List Frame} {meth : Method} {c : Code} {A : Nat → Prop} {dC : Nat → ClassId} {dI : Nat → Nat → Nat} {cI cZ cS : ClassId} {aX aD aDw aM aMw aJ aJh aSa aSt : Nat} {sA : Nat → Nat} {tx : Int32} {pw : Int32} {wl : Int32} {wn : Int32} {dk : Nat → Int32} {hd : Nat → Int32} {sg : Nat → Int32} {sc4 : Nat → SCT} {a1 : Int32} (E : mk_En p s m meth c cX4_createTable 3 (some .int) ([.ref aX, .int a1] : List Value).toArray wsX4_createTable yX4_createTable.cls) (hA : ∀ q : Nat, s.heap.size ≤ q → A q) (hK : va_K (dC, dI) vwCl (tyz cI cZ cS) s) (R : Int32 × (Nat → Int32)) (mm : Nat → Int32) (h : p_X_createTable_23 tx pw mm = some R) : ∀ (H : Heap) (locs : List Loc) (ls : Array Slot), va_P (dC, dI) vwCl (w_X cI cZ cS aX aD aDw aM aMw aJ aJh aSa aSt sA tx pw wl wn dk mm hd sg sc4) H → va_D A (w_X cI cZ cS aX aD aDw aM aMw aJ aJh aSa aSt sA tx pw wl wn dk mm hd sg sc4) → va_S A s.heap H locs → lv_has ls 3 [] → W p l e ({ frames := 1, cells := 0, slots := 0, locals := 22 } : Room) s m ([.ref aX, .int a1] : List Value).toArray below meth c H locs 0 0 (MQ below (mk_QI (dC, dI) vwCl (tyz cI cZ cS) A (fun u : (Nat → Int32) => w_X cI cZ cS aX aD aDw aM aMw aJ aJh aSa aSt sA tx pw wl wn dk u hd sg sc4) R) ([.ref aX, .int a1] : List Value).toArray s 0 0 A) (F0 m 23 ls []) := by
  intro H locs ls hP hD hS hl
  obtain ⟨⟨hx, hb, hml, hown, hts⟩, hrt, hlk, hN⟩ := id E
  have hown : s.vm.findClass RX4 = some m.cls := hown
  unfold p_X_createTable_23 at h
  refine lv_bipush (v := (-4)) hx hb dX4_createTable_23 (by decide) ?_
  cases h
  exact mk_iret E hK hP hD hS dX4_createTable_25
set_option maxHeartbeats 4000000 in
set_option maxRecDepth 100000 in
theorem c_X_createTable (l : Launch) (dC : Nat → ClassId) (dI : Nat → Nat → Nat) (cI cZ cS : ClassId) (aX aD aDw aM aMw aJ aJh aSa aSt : Nat) (sA : Nat → Nat) (tx : Int32) (pw : Int32) (wl : Int32) (wn : Int32) (dk : Nat → Int32) (mm : Nat → Int32) (hd : Nat → Int32) (sg : Nat → Int32) (sc4 : Nat → SCT) (a1 : Int32) : CtI l yX4_createTable wsX4_createTable ({ frames := 1, cells := 0, slots := 0, locals := 22 }) (dC, dI) vwCl (tyz cI cZ cS) [.ref aX, .int a1] (w_X cI cZ cS aX aD aDw aM aMw aJ aJh aSa aSt sA tx pw wl wn dk mm hd sg sc4) (fun u : (Nat → Int32) => w_X cI cZ cS aX aD aDw aM aMw aJ aJh aSa aSt sA tx pw wl wn dk u hd sg sc4) (p_X_createTable tx pw mm a1) := by
  intro R h
  refine mk_enter (Qc := (fun A => mk_QI (dC, dI) vwCl (tyz cI cZ cS) A (fun u : (Nat → Int32) => w_X cI cZ cS aX aD aDw aM aMw aJ aJh aSa aSt sA tx pw wl wn dk u hd sg sc4) R)) (by decide) rfl (Nat.le_of_ble_eq_true rfl) ?_
  intro p e s m below meth c A E hA hK H locs ls hP hD hS hl
  obtain ⟨⟨hx, hb, hml, hown, hts⟩, hrt, hlk, hN⟩ := id E
  have hown : s.vm.findClass RX4 = some m.cls := hown
  have hl : lv_has ls 3 [(0, .ref aX), (1, .int a1)] := hl
  unfold p_X_createTable at h
  refine lv_aload_n hx hb dX4_createTable_0 rfl (lv_at hl 0 rfl) ?_
  refine va_get (D := (dC, dI)) (ci := 4) (v := .ref aD) (C := RX4) (T := TX4) (N := 6) hx hb hts iw_X_createTable_X hown hK hP 0 rfl rfl 0 (by decide) (hts _ mm_X_createTable_0) (fun _ h9 => h9) rfl dX4_createTable_1 ?_
  obtain ⟨r_1, hr_1, h⟩ := kp_bind h
  refine mk_contR (w := w_X cI cZ cS aX aD aDw aM aMw aJ aJh aSa aSt sA tx pw wl wn dk mm hd sg sc4) (w0 := w_D cI cZ cS aD aDw pw wl wn dk) (wr := [(aX, .inr (4, [.ref aD, .ref aM, .ref aJ, .ref aSa, .ref aSt, .int tx])), (aM, .inr (2, [.ref aMw])), (aMw, .inl (cI, 256, .inl mm)), (aJ, .inr (1, [.ref aD, .ref aM, .ref aJh])), (aJh, .inl (cI, 16, .inl hd)), (aSa, .inl (cS, 4, .inr (.inr (.inr (.inr (fun j => some (sA j))))))), (aSt, .inl (cI, 6, .inl sg)), (sA 0, scv (sc4 0)), (sA 1, scv (sc4 1)), (sA 2, scv (sc4 2)), (sA 3, scv (sc4 3))]) hP hD hS hA [1, 2] [0, 3, 4, 5, 6, 7, 8, 9, 10, 11, 12] rfl rfl (by decide) (by decide) [0, 11, 12, 1, 2, 3, 4, 5, 6, 7, 8, 9, 10] rfl (by decide) (va_runV (As := []) (rest := []) ⟨hx, hb, hml, hown, hts⟩ (c_D_powered l dC dI cI cZ cS aD aDw pw wl wn dk r_1 hr_1 H.size) (cwV 0 hts gX4_createTable_X0_powered rfl rfl rfl (by decide +kernel) ⟨Nat.le_of_ble_eq_true rfl, Nat.le_of_ble_eq_true rfl⟩) (mk_preV (w0 := w_D cI cZ cS aD aDw pw wl wn dk) (ci := 0) (q0 := 0) hN hK (mk_pick hP [1, 2] rfl) (hD.sub [1, 2] (by decide) rfl) rfl rfl rfl) rfl rfl hl.1 rfl (lv_room (Nat.le_of_ble_eq_true rfl)) dX4_createTable_4 ⟨Nat.zero_le _, Nat.zero_le _⟩) (fun H locs hP hD hS => ?_)
  refine lv_if_ne (tgt := 12) hx hb dX4_createTable_7 (by decide) (fun c_2 => ?_) (fun c_2 => ?_)
  · replace h := (kp_if h).2 c_2
    refine lv_iload_n hx hb dX4_createTable_12 rfl (lv_at hl 1 rfl) ?_
    refine lv_iconst (v := 2) hx hb dX4_createTable_13 (by decide) ?_
    refine lv_icmp_lt (tgt := 23) hx hb dX4_createTable_14 (by decide) (fun c_3 => ?_) (fun c_3 => ?_)
    · replace h := (kp_if h).1 c_3
      exact b_X_createTable_23 E hA hK R mm h H locs ls hP hD hS (lv_sub hl [] rfl)
    · replace h := (kp_if h).2 c_3
      refine lv_iload_n hx hb dX4_createTable_17 rfl (lv_at hl 1 rfl) ?_
      refine lv_bipush (v := 6) hx hb dX4_createTable_18 (by decide) ?_
      refine lv_icmp_le (tgt := 26) hx hb dX4_createTable_20 (by decide) (fun c_4 => ?_) (fun c_4 => ?_)
      · replace h := (kp_if h).1 c_4
        refine lv_aload_n hx hb dX4_createTable_26 rfl (lv_at hl 0 rfl) ?_
        refine va_get (D := (dC, dI)) (ci := 4) (v := .int tx) (C := RX4) (T := TX4) (N := 6) hx hb hts iw_X_createTable_X hown hK hP 0 rfl rfl 5 (by decide) (hts _ mm_X_createTable_2) (fun _ h9 => h9) rfl dX4_createTable_27 ?_
        refine lv_if_ne (tgt := 36) hx hb dX4_createTable_30 (by decide) (fun c_5 => ?_) (fun c_5 => ?_)
        · replace h := (kp_if h).2 c_5
          refine lv_aload_n hx hb dX4_createTable_36 rfl (lv_at hl 0 rfl) ?_
          refine va_get (D := (dC, dI)) (ci := 4) (v := .ref aM) (C := RX4) (T := TX4) (N := 6) hx hb hts iw_X_createTable_X hown hK hP 0 rfl rfl 1 (by decide) (hts _ mm_X_createTable_3) (fun _ h9 => h9) rfl dX4_createTable_37 ?_
          obtain ⟨r_6, hr_6, h⟩ := kp_bind h
          refine mk_contR (w := w_X cI cZ cS aX aD aDw aM aMw aJ aJh aSa aSt sA tx pw wl wn dk mm hd sg sc4) (w0 := w_M cI cZ cS aM aMw mm) (wr := [(aX, .inr (4, [.ref aD, .ref aM, .ref aJ, .ref aSa, .ref aSt, .int tx])), (aD, .inr (0, [.ref aDw, .int pw, .int wl, .int wn])), (aDw, .inl (cI, 528, .inl dk)), (aJ, .inr (1, [.ref aD, .ref aM, .ref aJh])), (aJh, .inl (cI, 16, .inl hd)), (aSa, .inl (cS, 4, .inr (.inr (.inr (.inr (fun j => some (sA j))))))), (aSt, .inl (cI, 6, .inl sg)), (sA 0, scv (sc4 0)), (sA 1, scv (sc4 1)), (sA 2, scv (sc4 2)), (sA 3, scv (sc4 3))]) hP hD hS hA [3, 4] [0, 1, 2, 5, 6, 7, 8, 9, 10, 11, 12] rfl rfl (by decide) (by decide) [0, 1, 2, 11, 12, 3, 4, 5, 6, 7, 8, 9, 10] rfl (by decide) (va_runV (As := []) (rest := []) ⟨hx, hb, hml, hown, hts⟩ (c_M_freeTable l dC dI cI cZ cS aM aMw mm r_6 hr_6 H.size) (cwV 0 hts gX4_createTable_X2_freeTable rfl rfl rfl (by decide +kernel) ⟨Nat.le_of_ble_eq_true rfl, Nat.le_of_ble_eq_true rfl⟩) (mk_preV (w0 := w_M cI cZ cS aM aMw mm) (ci := 2) (q0 := 0) hN hK (mk_pick hP [3, 4] rfl) (hD.sub [3, 4] (by decide) rfl) rfl rfl rfl) rfl rfl hl.1 rfl (lv_room (Nat.le_of_ble_eq_true rfl)) dX4_createTable_40 ⟨Nat.zero_le _, Nat.zero_le _⟩) (fun H locs hP hD hS => ?_)
          refine lv_istore_n (lv' := [(2, .int r_6), (0, .ref aX), (1, .int a1)]) hx hb dX4_createTable_43 rfl hl (by decide) rfl (fun ls hl => ?_)
          refine lv_iload_n hx hb dX4_createTable_44 rfl (lv_at hl 0 rfl) ?_
          refine lv_iconst (v := (-1)) hx hb dX4_createTable_45 (by decide) ?_
          refine lv_icmp_ne (tgt := 52) hx hb dX4_createTable_46 (by decide) (fun c_7 => ?_) (fun c_7 => ?_)
          · replace h := (kp_if h).2 c_7
            refine lv_aload_n hx hb dX4_createTable_52 rfl (lv_at hl 1 rfl) ?_
            refine va_get (D := (dC, dI)) (ci := 4) (v := .ref aM) (C := RX4) (T := TX4) (N := 6) hx hb hts iw_X_createTable_X hown hK hP 0 rfl rfl 1 (by decide) (hts _ mm_X_createTable_3) (fun _ h9 => h9) rfl dX4_createTable_53 ?_
            refine lv_iload_n hx hb dX4_createTable_56 rfl (lv_at hl 0 rfl) ?_
            refine lv_iload_n hx hb dX4_createTable_57 rfl (lv_at hl 2 rfl) ?_
            obtain ⟨r_8, hr_8, h⟩ := kp_bind h
            refine mk_contV (w := w_X cI cZ cS aX aD aDw aM aMw aJ aJh aSa aSt sA tx pw wl wn dk mm hd sg sc4) (w0 := w_M cI cZ cS aM aMw mm) (wr := [(aX, .inr (4, [.ref aD, .ref aM, .ref aJ, .ref aSa, .ref aSt, .int tx])), (aD, .inr (0, [.ref aDw, .int pw, .int wl, .int wn])), (aDw, .inl (cI, 528, .inl dk)), (aJ, .inr (1, [.ref aD, .ref aM, .ref aJh])), (aJh, .inl (cI, 16, .inl hd)), (aSa, .inl (cS, 4, .inr (.inr (.inr (.inr (fun j => some (sA j))))))), (aSt, .inl (cI, 6, .inl sg)), (sA 0, scv (sc4 0)), (sA 1, scv (sc4 1)), (sA 2, scv (sc4 2)), (sA 3, scv (sc4 3))]) (w2 := w_X cI cZ cS aX aD aDw aM aMw aJ aJh aSa aSt sA tx pw wl wn dk r_8 hd sg sc4) hP hD hS hA [3, 4] [0, 1, 2, 5, 6, 7, 8, 9, 10, 11, 12] rfl rfl (by decide) (by decide) [0, 1, 2, 11, 12, 3, 4, 5, 6, 7, 8, 9, 10] rfl (by decide) (va_runV (As := [.int r_6, .int a1]) (rest := []) ⟨hx, hb, hml, hown, hts⟩ (c_M_addTable l dC dI cI cZ cS aM aMw mm r_6 a1 r_8 hr_8 H.size) (cwV 2 hts gX4_createTable_X2_addTable rfl rfl rfl (by decide +kernel) ⟨Nat.le_of_ble_eq_true rfl, Nat.le_of_ble_eq_true rfl⟩) (mk_preV (w0 := w_M cI cZ cS aM aMw mm) (ci := 2) (q0 := 0) hN hK (mk_pick hP [3, 4] rfl) (hD.sub [3, 4] (by decide) rfl) rfl rfl rfl) rfl rfl hl.1 rfl (lv_room (Nat.le_of_ble_eq_true rfl)) dX4_createTable_58 ⟨Nat.zero_le _, Nat.zero_le _⟩) (fun H locs hP hD hS => ?_)
            refine lv_iload_n hx hb dX4_createTable_61 rfl (lv_at hl 0 rfl) ?_
            cases h
            exact mk_iret E hK hP hD hS dX4_createTable_62
          · replace h := (kp_if h).1 c_7
            refine lv_bipush (v := (-8)) hx hb dX4_createTable_49 (by decide) ?_
            cases h
            exact mk_iret E hK hP hD hS dX4_createTable_51
        · replace h := (kp_if h).1 c_5
          refine lv_bipush (v := (-2)) hx hb dX4_createTable_33 (by decide) ?_
          cases h
          exact mk_iret E hK hP hD hS dX4_createTable_35
      · replace h := (kp_if h).2 c_4
        exact b_X_createTable_23 E hA hK R mm h H locs ls hP hD hS (lv_sub hl [] rfl)
  · replace h := (kp_if h).1 c_2
    refine lv_iconst (v := (-1)) hx hb dX4_createTable_10 (by decide) ?_
    cases h
    exact mk_iret E hK hP hD hS dX4_createTable_11

/- X.dropTable(I)I -/
set_option maxRecDepth 20000 in
theorem mm_X_dropTable_0 : Cond.fieldLink RX4 19 "JournaledTables" "memory" "LJournaledTables$Memory;" ∈ wsX4_dropTable := by decide +kernel
set_option maxRecDepth 20000 in
theorem iw_X_dropTable_X : ∀ w ∈ u_ws RX4 TX4 6, w ∈ wsX4_dropTable := by decide +kernel
set_option maxHeartbeats 4000000 in
set_option maxRecDepth 100000 in
theorem c_X_dropTable (l : Launch) (dC : Nat → ClassId) (dI : Nat → Nat → Nat) (cI cZ cS : ClassId) (aX aD aDw aM aMw aJ aJh aSa aSt : Nat) (sA : Nat → Nat) (tx : Int32) (pw : Int32) (wl : Int32) (wn : Int32) (dk : Nat → Int32) (mm : Nat → Int32) (hd : Nat → Int32) (sg : Nat → Int32) (sc4 : Nat → SCT) (a1 : Int32) : CtI l yX4_dropTable wsX4_dropTable ({ frames := 3, cells := 0, slots := 0, locals := 62 }) (dC, dI) vwCl (tyz cI cZ cS) [.ref aX, .int a1] (w_X cI cZ cS aX aD aDw aM aMw aJ aJh aSa aSt sA tx pw wl wn dk mm hd sg sc4) (fun u : (Nat → Int32) × (Nat → SCT) => w_X cI cZ cS aX aD aDw aM aMw aJ aJh aSa aSt sA tx pw wl wn dk u.1 hd sg u.2) (p_X_dropTable tx pw mm sc4 a1) := by
  intro R h
  refine mk_enter (Qc := (fun A => mk_QI (dC, dI) vwCl (tyz cI cZ cS) A (fun u : (Nat → Int32) × (Nat → SCT) => w_X cI cZ cS aX aD aDw aM aMw aJ aJh aSa aSt sA tx pw wl wn dk u.1 hd sg u.2) R)) (by decide) rfl (Nat.le_of_ble_eq_true rfl) ?_
  intro p e s m below meth c A E hA hK H locs ls hP hD hS hl
  obtain ⟨⟨hx, hb, hml, hown, hts⟩, hrt, hlk, hN⟩ := id E
  have hown : s.vm.findClass RX4 = some m.cls := hown
  have hl : lv_has ls 3 [(0, .ref aX), (1, .int a1)] := hl
  unfold p_X_dropTable at h
  refine lv_aload_n hx hb dX4_dropTable_0 rfl (lv_at hl 0 rfl) ?_
  refine lv_iload_n hx hb dX4_dropTable_1 rfl (lv_at hl 1 rfl) ?_
  obtain ⟨r_1, hr_1, h⟩ := kp_bind h
  refine mk_contR (w := w_X cI cZ cS aX aD aDw aM aMw aJ aJh aSa aSt sA tx pw wl wn dk mm hd sg sc4) (w0 := w_X cI cZ cS aX aD aDw aM aMw aJ aJh aSa aSt sA tx pw wl wn dk mm hd sg sc4) (wr := []) hP hD hS hA [0, 1, 2, 3, 4, 5, 6, 7, 8, 9, 10, 11, 12] [] rfl rfl (by decide) (by decide) [0, 1, 2, 3, 4, 5, 6, 7, 8, 9, 10, 11, 12] rfl (by decide) (va_runV (As := [.int a1]) (rest := []) ⟨hx, hb, hml, hown, hts⟩ (c_X_refusalOfChange l dC dI cI cZ cS aX aD aDw aM aMw aJ aJh aSa aSt sA tx pw wl wn dk mm hd sg sc4 a1 r_1 hr_1 H.size) (cwV 1 hts gX4_dropTable_X4_refusalOfChange rfl rfl rfl (by decide +kernel) ⟨Nat.le_of_ble_eq_true rfl, Nat.le_of_ble_eq_true rfl⟩) (mk_preV (w0 := w_X cI cZ cS aX aD aDw aM aMw aJ aJh aSa aSt sA tx pw wl wn dk mm hd sg sc4) (ci := 4) (q0 := 0) hN hK (mk_pick hP [0, 1, 2, 3, 4, 5, 6, 7, 8, 9, 10, 11, 12] rfl) (hD.sub [0, 1, 2, 3, 4, 5, 6, 7, 8, 9, 10, 11, 12] (by decide) rfl) rfl rfl rfl) rfl rfl hl.1 rfl (lv_room (Nat.le_of_ble_eq_true rfl)) dX4_dropTable_2 ⟨Nat.zero_le _, Nat.zero_le _⟩) (fun H locs hP hD hS => ?_)
  refine lv_istore_n (lv' := [(2, .int r_1), (0, .ref aX), (1, .int a1)]) hx hb dX4_dropTable_5 rfl hl (by decide) rfl (fun ls hl => ?_)
  refine lv_iload_n hx hb dX4_dropTable_6 rfl (lv_at hl 0 rfl) ?_
  refine lv_if_eq (tgt := 12) hx hb dX4_dropTable_7 (by decide) (fun c_2 => ?_) (fun c_2 => ?_)
  · replace h := (kp_if h).1 c_2
    refine lv_aload_n hx hb dX4_dropTable_12 rfl (lv_at hl 1 rfl) ?_
    refine va_get (D := (dC, dI)) (ci := 4) (v := .ref aM) (C := RX4) (T := TX4) (N := 6) hx hb hts iw_X_dropTable_X hown hK hP 0 rfl rfl 1 (by decide) (hts _ mm_X_dropTable_0) (fun _ h9 => h9) rfl dX4_dropTable_13 ?_
    refine lv_iload_n hx hb dX4_dropTable_16 rfl (lv_at hl 2 rfl) ?_
    obtain ⟨r_3, hr_3, h⟩ := kp_bind h
    refine mk_contV (w := w_X cI cZ cS aX aD aDw aM aMw aJ aJh aSa aSt sA tx pw wl wn dk mm hd sg sc4) (w0 := w_M cI cZ cS aM aMw mm) (wr := [(aX, .inr (4, [.ref aD, .ref aM, .ref aJ, .ref aSa, .ref aSt, .int tx])), (aD, .inr (0, [.ref aDw, .int pw, .int wl, .int wn])), (aDw, .inl (cI, 528, .inl dk)), (aJ, .inr (1, [.ref aD, .ref aM, .ref aJh])), (aJh, .inl (cI, 16, .inl hd)), (aSa, .inl (cS, 4, .inr (.inr (.inr (.inr (fun j => some (sA j))))))), (aSt, .inl (cI, 6, .inl sg)), (sA 0, scv (sc4 0)), (sA 1, scv (sc4 1)), (sA 2, scv (sc4 2)), (sA 3, scv (sc4 3))]) (w2 := w_X cI cZ cS aX aD aDw aM aMw aJ aJh aSa aSt sA tx pw wl wn dk r_3 hd sg sc4) hP hD hS hA [3, 4] [0, 1, 2, 5, 6, 7, 8, 9, 10, 11, 12] rfl rfl (by decide) (by decide) [0, 1, 2, 11, 12, 3, 4, 5, 6, 7, 8, 9, 10] rfl (by decide) (va_runV (As := [.int a1]) (rest := []) ⟨hx, hb, hml, hown, hts⟩ (c_M_removeTable l dC dI cI cZ cS aM aMw mm a1 r_3 hr_3 H.size) (cwV 1 hts gX4_dropTable_X2_removeTable rfl rfl rfl (by decide +kernel) ⟨Nat.le_of_ble_eq_true rfl, Nat.le_of_ble_eq_true rfl⟩) (mk_preV (w0 := w_M cI cZ cS aM aMw mm) (ci := 2) (q0 := 0) hN hK (mk_pick hP [3, 4] rfl) (hD.sub [3, 4] (by decide) rfl) rfl rfl rfl) rfl rfl hl.1 rfl (lv_room (Nat.le_of_ble_eq_true rfl)) dX4_dropTable_17 ⟨Nat.zero_le _, Nat.zero_le _⟩) (fun H locs hP hD hS => ?_)
    refine lv_aload_n hx hb dX4_dropTable_20 rfl (lv_at hl 1 rfl) ?_
    refine lv_iload_n hx hb dX4_dropTable_21 rfl (lv_at hl 2 rfl) ?_
    obtain ⟨r_4, hr_4, h⟩ := kp_bind h
    refine mk_contV (w := w_X cI cZ cS aX aD aDw aM aMw aJ aJh aSa aSt sA tx pw wl wn dk r_3 hd sg sc4) (w0 := w_X cI cZ cS aX aD aDw aM aMw aJ aJh aSa aSt sA tx pw wl wn dk r_3 hd sg sc4) (wr := []) (w2 := w_X cI cZ cS aX aD aDw aM aMw aJ aJh aSa aSt sA tx pw wl wn dk r_3 hd sg r_4) hP hD hS hA [0, 1, 2, 3, 4, 5, 6, 7, 8, 9, 10, 11, 12] [] rfl rfl (by decide) (by decide) [0, 1, 2, 3, 4, 5, 6, 7, 8, 9, 10, 11, 12] rfl (by decide) (va_runV (As := [.int a1]) (rest := []) ⟨hx, hb, hml, hown, hts⟩ (c_X_voidScansOf l dC dI cI cZ cS aX aD aDw aM aMw aJ aJh aSa aSt sA tx pw wl wn dk r_3 hd sg sc4 a1 r_4 hr_4 H.size) (cwV 1 hts gX4_dropTable_X4_voidScansOf rfl rfl rfl (by decide +kernel) ⟨Nat.le_of_ble_eq_true rfl, Nat.le_of_ble_eq_true rfl⟩) (mk_preV (w0 := w_X cI cZ cS aX aD aDw aM aMw aJ aJh aSa aSt sA tx pw wl wn dk r_3 hd sg sc4) (ci := 4) (q0 := 0) hN hK (mk_pick hP [0, 1, 2, 3, 4, 5, 6, 7, 8, 9, 10, 11, 12] rfl) (hD.sub [0, 1, 2, 3, 4, 5, 6, 7, 8, 9, 10, 11, 12] (by decide) rfl) rfl rfl rfl) rfl rfl hl.1 rfl (lv_room (Nat.le_of_ble_eq_true rfl)) dX4_dropTable_22 ⟨Nat.zero_le _, Nat.zero_le _⟩) (fun H locs hP hD hS => ?_)
    refine lv_iconst (v := 0) hx hb dX4_dropTable_25 (by decide) ?_
    cases h
    exact mk_iret E hK hP hD hS dX4_dropTable_26
  · replace h := (kp_if h).2 c_2
    refine lv_iload_n hx hb dX4_dropTable_10 rfl (lv_at hl 0 rfl) ?_
    cases h
    exact mk_iret E hK hP hD hS dX4_dropTable_11

/- X.begin()I -/
set_option maxRecDepth 20000 in
theorem mm_X_begin_0 : Cond.fieldLink RX4 10 "JournaledTables" "disk" "LJournaledTables$Disk;" ∈ wsX4_begin := by decide +kernel
set_option maxRecDepth 20000 in
theorem iw_X_begin_X : ∀ w ∈ u_ws RX4 TX4 6, w ∈ wsX4_begin := by decide +kernel
set_option maxRecDepth 20000 in
theorem mm_X_begin_2 : Cond.fieldLink RX4 43 "JournaledTables" "inTransaction" "Z" ∈ wsX4_begin := by decide +kernel
set_option maxHeartbeats 4000000 in
set_option maxRecDepth 100000 in
theorem c_X_begin (l : Launch) (dC : Nat → ClassId) (dI : Nat → Nat → Nat) (cI cZ cS : ClassId) (aX aD aDw aM aMw aJ aJh aSa aSt : Nat) (sA : Nat → Nat) (tx : Int32) (pw : Int32) (wl : Int32) (wn : Int32) (dk : Nat → Int32) (mm : Nat → Int32) (hd : Nat → Int32) (sg : Nat → Int32) (sc4 : Nat → SCT) : CtI l yX4_begin wsX4_begin ({ frames := 1, cells := 0, slots := 0, locals := 20 }) (dC, dI) vwCl (tyz cI cZ cS) [.ref aX] (w_X cI cZ cS aX aD aDw aM aMw aJ aJh aSa aSt sA tx pw wl wn dk mm hd sg sc4) (fun u : Int32 => w_X cI cZ cS aX aD aDw aM aMw aJ aJh aSa aSt sA u pw wl wn dk mm hd sg sc4) (p_X_begin tx pw) := by
  intro R h
  refine mk_enter (Qc := (fun A => mk_QI (dC, dI) vwCl (tyz cI cZ cS) A (fun u : Int32 => w_X cI cZ cS aX aD aDw aM aMw aJ aJh aSa aSt sA u pw wl wn dk mm hd sg sc4) R)) (by decide) rfl (Nat.le_of_ble_eq_true rfl) ?_
  intro p e s m below meth c A E hA hK H locs ls hP hD hS hl
  obtain ⟨⟨hx, hb, hml, hown, hts⟩, hrt, hlk, hN⟩ := id E
  have hown : s.vm.findClass RX4 = some m.cls := hown
  have hl : lv_has ls 1 [(0, .ref aX)] := hl
  unfold p_X_begin at h
  refine lv_aload_n hx hb dX4_begin_0 rfl (lv_at hl 0 rfl) ?_
  refine va_get (D := (dC, dI)) (ci := 4) (v := .ref aD) (C := RX4) (T := TX4) (N := 6) hx hb hts iw_X_begin_X hown hK hP 0 rfl rfl 0 (by decide) (hts _ mm_X_begin_0) (fun _ h9 => h9) rfl dX4_begin_1 ?_
  obtain ⟨r_1, hr_1, h⟩ := kp_bind h
  refine mk_contR (w := w_X cI cZ cS aX aD aDw aM aMw aJ aJh aSa aSt sA tx pw wl wn dk mm hd sg sc4) (w0 := w_D cI cZ cS aD aDw pw wl wn dk) (wr := [(aX, .inr (4, [.ref aD, .ref aM, .ref aJ, .ref aSa, .ref aSt, .int tx])), (aM, .inr (2, [.ref aMw])), (aMw, .inl (cI, 256, .inl mm)), (aJ, .inr (1, [.ref aD, .ref aM, .ref aJh])), (aJh, .inl (cI, 16, .inl hd)), (aSa, .inl (cS, 4, .inr (.inr (.inr (.inr (fun j => some (sA j))))))), (aSt, .inl (cI, 6, .inl sg)), (sA 0, scv (sc4 0)), (sA 1, scv (sc4 1)), (sA 2, scv (sc4 2)), (sA 3, scv (sc4 3))]) hP hD hS hA [1, 2] [0, 3, 4, 5, 6, 7, 8, 9, 10, 11, 12] rfl rfl (by decide) (by decide) [0, 11, 12, 1, 2, 3, 4, 5, 6, 7, 8, 9, 10] rfl (by decide) (va_runV (As := []) (rest := []) ⟨hx, hb, hml, hown, hts⟩ (c_D_powered l dC dI cI cZ cS aD aDw pw wl wn dk r_1 hr_1 H.size) (cwV 0 hts gX4_begin_X0_powered rfl rfl rfl (by decide +kernel) ⟨Nat.le_of_ble_eq_true rfl, Nat.le_of_ble_eq_true rfl⟩) (mk_preV (w0 := w_D cI cZ cS aD aDw pw wl wn dk) (ci := 0) (q0 := 0) hN hK (mk_pick hP [1, 2] rfl) (hD.sub [1, 2] (by decide) rfl) rfl rfl rfl) rfl rfl hl.1 rfl (lv_room (Nat.le_of_ble_eq_true rfl)) dX4_begin_4 ⟨Nat.zero_le _, Nat.zero_le _⟩) (fun H locs hP hD hS => ?_)
  refine lv_if_ne (tgt := 12) hx hb dX4_begin_7 (by decide) (fun c_2 => ?_) (fun c_2 => ?_)
  · replace h := (kp_if h).2 c_2
    refine lv_aload_n hx hb dX4_begin_12 rfl (lv_at hl 0 rfl) ?_
    refine va_get (D := (dC, dI)) (ci := 4) (v := .int tx) (C := RX4) (T := TX4) (N := 6) hx hb hts iw_X_begin_X hown hK hP 0 rfl rfl 5 (by decide) (hts _ mm_X_begin_2) (fun _ h9 => h9) rfl dX4_begin_13 ?_
    refine lv_if_eq (tgt := 22) hx hb dX4_begin_16 (by decide) (fun c_3 => ?_) (fun c_3 => ?_)
    · replace h := (kp_if h).1 c_3
      refine lv_aload_n hx hb dX4_begin_22 rfl (lv_at hl 0 rfl) ?_
      refine lv_iconst (v := 1) hx hb dX4_begin_23 (by decide) ?_
      refine va_put (D := (dC, dI)) (ci := 4) (v := .int 1) (ty := .boolean) (C := RX4) (T := TX4) (N := 6) hx hb hts iw_X_begin_X tyX4 tyX4_ok nmX4 hown hK hP hD hS 0 rfl rfl 5 (by decide) (hts _ mm_X_begin_2) (fun _ h9 => h9) rfl (by decide +kernel) rfl rfl (Nat.le_of_ble_eq_true rfl) dX4_begin_24 (fun H locs hP hD hS => ?_)
      have hP : va_P (dC, dI) vwCl (w_X cI cZ cS aX aD aDw aM aMw aJ aJh aSa aSt sA 1 pw wl wn dk mm hd sg sc4) H := hP
      have hD : va_D A (w_X cI cZ cS aX aD aDw aM aMw aJ aJh aSa aSt sA 1 pw wl wn dk mm hd sg sc4) := hD
      refine lv_iconst (v := 0) hx hb dX4_begin_27 (by decide) ?_
      cases h
      exact mk_iret E hK hP hD hS dX4_begin_28
    · replace h := (kp_if h).2 c_3
      refine lv_bipush (v := (-3)) hx hb dX4_begin_19 (by decide) ?_
      cases h
      exact mk_iret E hK hP hD hS dX4_begin_21
  · replace h := (kp_if h).1 c_2
    refine lv_iconst (v := (-1)) hx hb dX4_begin_10 (by decide) ?_
    cases h
    exact mk_iret E hK hP hD hS dX4_begin_11

/- X.commit()I -/
set_option maxRecDepth 20000 in
theorem mm_X_commit_0 : Cond.fieldLink RX4 28 "JournaledTables" "journal" "LJournaledTables$Journal;" ∈ wsX4_commit := by decide +kernel
set_option maxRecDepth 20000 in
theorem iw_X_commit_X : ∀ w ∈ u_ws RX4 TX4 6, w ∈ wsX4_commit := by decide +kernel
set_option maxRecDepth 20000 in
theorem mm_X_commit_2 : Cond.fieldLink RX4 43 "JournaledTables" "inTransaction" "Z" ∈ wsX4_commit := by decide +kernel
set_option maxHeartbeats 4000000 in
set_option maxRecDepth 100000 in
theorem c_X_commit (l : Launch) (dC : Nat → ClassId) (dI : Nat → Nat → Nat) (cI cZ cS : ClassId) (aX aD aDw aM aMw aJ aJh aSa aSt : Nat) (sA : Nat → Nat) (tx : Int32) (pw : Int32) (wl : Int32) (wn : Int32) (dk : Nat → Int32) (mm : Nat → Int32) (hd : Nat → Int32) (sg : Nat → Int32) (sc4 : Nat → SCT) : CtI l yX4_commit wsX4_commit ({ frames := 5, cells := 0, slots := 0, locals := 106 }) (dC, dI) vwCl (tyz cI cZ cS) [.ref aX] (w_X cI cZ cS aX aD aDw aM aMw aJ aJh aSa aSt sA tx pw wl wn dk mm hd sg sc4) (fun u : Int32 × Int32 × Int32 × Int32 × (Nat → Int32) × (Nat → Int32) => w_X cI cZ cS aX aD aDw aM aMw aJ aJh aSa aSt sA u.1 u.2.1 u.2.2.1 u.2.2.2.1 u.2.2.2.2.1 mm u.2.2.2.2.2 sg sc4) (p_X_commit tx pw wl wn dk mm hd) := by
  intro R h
  refine mk_enter (Qc := (fun A => mk_QI (dC, dI) vwCl (tyz cI cZ cS) A (fun u : Int32 × Int32 × Int32 × Int32 × (Nat → Int32) × (Nat → Int32) => w_X cI cZ cS aX aD aDw aM aMw aJ aJh aSa aSt sA u.1 u.2.1 u.2.2.1 u.2.2.2.1 u.2.2.2.2.1 mm u.2.2.2.2.2 sg sc4) R)) (by decide) rfl (Nat.le_of_ble_eq_true rfl) ?_
  intro p e s m below meth c A E hA hK H locs ls hP hD hS hl
  obtain ⟨⟨hx, hb, hml, hown, hts⟩, hrt, hlk, hN⟩ := id E
  have hown : s.vm.findClass RX4 = some m.cls := hown
  have hl : lv_has ls 2 [(0, .ref aX)] := hl
  unfold p_X_commit at h
  refine lv_aload_n hx hb dX4_commit_0 rfl (lv_at hl 0 rfl) ?_
  obtain ⟨r_1, hr_1, h⟩ := kp_bind h
  refine mk_contR (w := w_X cI cZ cS aX aD aDw aM aMw aJ aJh aSa aSt sA tx pw wl wn dk mm hd sg sc4) (w0 := w_X cI cZ cS aX aD aDw aM aMw aJ aJh aSa aSt sA tx pw wl wn dk mm hd sg sc4) (wr := []) hP hD hS hA [0, 1, 2, 3, 4, 5, 6, 7, 8, 9, 10, 11, 12] [] rfl rfl (by decide) (by decide) [0, 1, 2, 3, 4, 5, 6, 7, 8, 9, 10, 11, 12] rfl (by decide) (va_runV (As := []) (rest := []) ⟨hx, hb, hml, hown, hts⟩ (c_X_refusalOutsideTransaction l dC dI cI cZ cS aX aD aDw aM aMw aJ aJh aSa aSt sA tx pw wl wn dk mm hd sg sc4 r_1 hr_1 H.size) (cwV 0 hts gX4_commit_X4_refusalOutsideTransaction rfl rfl rfl (by decide +kernel) ⟨Nat.le_of_ble_eq_true rfl, Nat.le_of_ble_eq_true rfl⟩) (mk_preV (w0 := w_X cI cZ cS aX aD aDw aM aMw aJ aJh aSa aSt sA tx pw wl wn dk mm hd sg sc4) (ci := 4) (q0 := 0) hN hK (mk_pick hP [0, 1, 2, 3, 4, 5, 6, 7, 8, 9, 10, 11, 12] rfl) (hD.sub [0, 1, 2, 3, 4, 5, 6, 7, 8, 9, 10, 11, 12] (by decide) rfl) rfl rfl rfl) rfl rfl hl.1 rfl (lv_room (Nat.le_of_ble_eq_true rfl)) dX4_commit_1 ⟨Nat.zero_le _, Nat.zero_le _⟩) (fun H locs hP hD hS => ?_)
  refine lv_istore_n (lv' := [(1, .int r_1), (0, .ref aX)]) hx hb dX4_commit_4 rfl hl (by decide) rfl (fun ls hl => ?_)
  refine lv_iload_n hx hb dX4_commit_5 rfl (lv_at hl 0 rfl) ?_
  refine lv_if_eq (tgt := 11) hx hb dX4_commit_6 (by decide) (fun c_2 => ?_) (fun c_2 => ?_)
  · replace h := (kp_if h).1 c_2
    refine lv_aload_n hx hb dX4_commit_11 rfl (lv_at hl 1 rfl) ?_
    refine va_get (D := (dC, dI)) (ci := 4) (v := .ref aJ) (C := RX4) (T := TX4) (N := 6) hx hb hts iw_X_commit_X hown hK hP 0 rfl rfl 2 (by decide) (hts _ mm_X_commit_0) (fun _ h9 => h9) rfl dX4_commit_12 ?_
    obtain ⟨r_3, hr_3, h⟩ := kp_bind h
    refine mk_contI (w := w_X cI cZ cS aX aD aDw aM aMw aJ aJh aSa aSt sA tx pw wl wn dk mm hd sg sc4) (w0 := w_J cI cZ cS aJ aJh aD aDw aM aMw hd pw wl wn dk mm) (wr := [(aX, .inr (4, [.ref aD, .ref aM, .ref aJ, .ref aSa, .ref aSt, .int tx])), (aSa, .inl (cS, 4, .inr (.inr (.inr (.inr (fun j => some (sA j))))))), (aSt, .inl (cI, 6, .inl sg)), (sA 0, scv (sc4 0)), (sA 1, scv (sc4 1)), (sA 2, scv (sc4 2)), (sA 3, scv (sc4 3))]) (w2 := w_X cI cZ cS aX aD aDw aM aMw aJ aJh aSa aSt sA tx r_3.2.2.1 r_3.2.2.2.1 r_3.2.2.2.2.1 r_3.2.2.2.2.2 mm r_3.2.1 sg sc4) hP hD hS hA [5, 6, 1, 2, 3, 4] [0, 7, 8, 9, 10, 11, 12] rfl rfl (by decide) (by decide) [0, 9, 10, 11, 12, 7, 8, 1, 2, 3, 4, 5, 6] rfl (by decide) (va_runV (As := []) (rest := []) ⟨hx, hb, hml, hown, hts⟩ (c_J_carryOut l dC dI cI cZ cS aJ aJh aD aDw aM aMw hd pw wl wn dk mm r_3 hr_3 H.size) (cwV 0 hts gX4_commit_X1_carryOut rfl rfl rfl (by decide +kernel) ⟨Nat.le_of_ble_eq_true rfl, Nat.le_of_ble_eq_true rfl⟩) (mk_preV (w0 := w_J cI cZ cS aJ aJh aD aDw aM aMw hd pw wl wn dk mm) (ci := 1) (q0 := 0) hN hK (mk_pick hP [5, 6, 1, 2, 3, 4] rfl) (hD.sub [5, 6, 1, 2, 3, 4] (by decide) rfl) rfl rfl rfl) rfl rfl hl.1 rfl (lv_room (Nat.le_of_ble_eq_true rfl)) dX4_commit_15 ⟨Nat.zero_le _, Nat.zero_le _⟩) (fun H locs hP hD hS => ?_)
    refine lv_if_ne (tgt := 23) hx hb dX4_commit_18 (by decide) (fun c_4 => ?_) (fun c_4 => ?_)
    · replace h := (kp_if h).2 c_4
      refine lv_aload_n hx hb dX4_commit_23 rfl (lv_at hl 1 rfl) ?_
      refine lv_iconst (v := 0) hx hb dX4_commit_24 (by decide) ?_
      refine va_put (D := (dC, dI)) (ci := 4) (v := .int 0) (ty := .boolean) (C := RX4) (T := TX4) (N := 6) hx hb hts iw_X_commit_X tyX4 tyX4_ok nmX4 hown hK hP hD hS 0 rfl rfl 5 (by decide) (hts _ mm_X_commit_2) (fun _ h9 => h9) rfl (by decide +kernel) rfl rfl (Nat.le_of_ble_eq_true rfl) dX4_commit_25 (fun H locs hP hD hS => ?_)
      have hP : va_P (dC, dI) vwCl (w_X cI cZ cS aX aD aDw aM aMw aJ aJh aSa aSt sA 0 r_3.2.2.1 r_3.2.2.2.1 r_3.2.2.2.2.1 r_3.2.2.2.2.2 mm r_3.2.1 sg sc4) H := hP
      have hD : va_D A (w_X cI cZ cS aX aD aDw aM aMw aJ aJh aSa aSt sA 0 r_3.2.2.1 r_3.2.2.2.1 r_3.2.2.2.2.1 r_3.2.2.2.2.2 mm r_3.2.1 sg sc4) := hD
      refine lv_iconst (v := 0) hx hb dX4_commit_28 (by decide) ?_
      cases h
      exact mk_iret E hK hP hD hS dX4_commit_29
    · replace h := (kp_if h).1 c_4
      refine lv_iconst (v := (-1)) hx hb dX4_commit_21 (by decide) ?_
      cases h
      exact mk_iret E hK hP hD hS dX4_commit_22
  · replace h := (kp_if h).2 c_2
    refine lv_iload_n hx hb dX4_commit_9 rfl (lv_at hl 0 rfl) ?_
    cases h
    exact mk_iret E hK hP hD hS dX4_commit_10

/- X.rollback()I -/
set_option maxRecDepth 20000 in
theorem mm_X_rollback_0 : Cond.fieldLink RX4 19 "JournaledTables" "memory" "LJournaledTables$Memory;" ∈ wsX4_rollback := by decide +kernel
set_option maxRecDepth 20000 in
theorem iw_X_rollback_X : ∀ w ∈ u_ws RX4 TX4 6, w ∈ wsX4_rollback := by decide +kernel
set_option maxRecDepth 20000 in
theorem mm_X_rollback_2 : Cond.fieldLink RX4 10 "JournaledTables" "disk" "LJournaledTables$Disk;" ∈ wsX4_rollback := by decide +kernel
set_option maxRecDepth 20000 in
theorem mm_X_rollback_3 : Cond.fieldLink RX4 43 "JournaledTables" "inTransaction" "Z" ∈ wsX4_rollback := by decide +kernel
set_option maxHeartbeats 4000000 in
set_option maxRecDepth 100000 in
theorem b_X_rollback_29 {p : Program} {l : Launch} {e : Env} {s : State} {m : MethodId} {below : List Frame} {meth : Method} {c : Code} {A : Nat → Prop} {dC : Nat → ClassId} {dI : Nat → Nat → Nat} {cI cZ cS : ClassId} {aX aD aDw aM aMw aJ aJh aSa aSt : Nat} {sA : Nat → Nat} {pw : Int32} {wl : Int32} {wn : Int32} {dk : Nat → Int32} {hd : Nat → Int32} {sg : Nat → Int32} (E : mk_En p s m meth c cX4_rollback 3 (some .int) ([.ref aX] : List Value).toArray wsX4_rollback yX4_rollback.cls) (hA : ∀ q : Nat, s.heap.size ≤ q → A q) (hK : va_K (dC, dI) vwCl (tyz cI cZ cS) s) (R : Int32 × Int32 × (Nat → Int32) × (Nat → SCT)) {k_29 : Int32 → Int32 → (Nat → Int32) → (Nat → SCT) → Option (Int32 × Int32 × (Nat → Int32) × (Nat → SCT))} (hk_29 : ∀ (x2 : Int32) (tx : Int32) (mm : Nat → Int32) (sc4 : Nat → SCT), k_29 x2 tx mm sc4 = some R → ∀ (H : Heap) (locs : List Loc) (ls : Array Slot), va_P (dC, dI) vwCl (w_X cI cZ cS aX aD aDw aM aMw aJ aJh aSa aSt sA tx pw wl wn dk mm hd sg sc4) H → va_D A (w_X cI cZ cS aX aD aDw aM aMw aJ aJh aSa aSt sA tx pw wl wn dk mm hd sg sc4) → va_S A s.heap H locs → lv_has ls 3 [(0, .ref aX), (2, .int x2)] → W p l e ({ frames := 2, cells := 0, slots := 0, locals := 43 } : Room) s m ([.ref aX] : List Value).toArray below meth c H locs 0 0 (MQ below (mk_QI (dC, dI) vwCl (tyz cI cZ cS) A (fun u : Int32 × (Nat → Int32) × (Nat → SCT) => w_X cI cZ cS aX aD aDw aM aMw aJ aJh aSa aSt sA u.1 pw wl wn dk u.2.1 hd sg u.2.2) R) ([.ref aX] : List Value).toArray s 0 0 A) (F0 m 29 ls [])) (x2 : Int32) (tx : Int32) (mm : Nat → Int32) (sc4 : Nat → SCT) (h : p_X_rollback_29 pw dk k_29 x2 tx mm sc4 = some R) : ∀ (H : Heap) (locs : List Loc) (ls : Array Slot), va_P (dC, dI) vwCl (w_X cI cZ cS aX aD aDw aM aMw aJ aJh aSa aSt sA tx pw wl wn dk mm hd sg sc4) H → va_D A (w_X cI cZ cS aX aD aDw aM aMw aJ aJh aSa aSt sA tx pw wl wn dk mm hd sg sc4) → va_S A s.heap H locs → lv_has ls 3 [(0, .ref aX), (2, .int x2)] → W p l e ({ frames := 2, cells := 0, slots := 0, locals := 43 } : Room) s m ([.ref aX] : List Value).toArray below meth c H locs 0 0 (MQ below (mk_QI (dC, dI) vwCl (tyz cI cZ cS) A (fun u : Int32 × (Nat → Int32) × (Nat → SCT) => w_X cI cZ cS aX aD aDw aM aMw aJ aJh aSa aSt sA u.1 pw wl wn dk u.2.1 hd sg u.2.2) R) ([.ref aX] : List Value).toArray s 0 0 A) (F0 m 29 ls []) := by
  intro H locs ls hP hD hS hl
  obtain ⟨⟨hx, hb, hml, hown, hts⟩, hrt, hlk, hN⟩ := id E
  have hown : s.vm.findClass RX4 = some m.cls := hown
  unfold p_X_rollback_29 at h
  refine lv_iload_n hx hb dX4_rollback_29 rfl (lv_at hl 1 rfl) ?_
  refine lv_iconst (v := 5) hx hb dX4_rollback_30 (by decide) ?_
  refine lv_icmp_ge (tgt := 45) hx hb dX4_rollback_31 (by decide) (fun c_1 => ?_) (fun c_1 => ?_)
  · replace h := (kp_if h).1 c_1
    refine lv_iconst (v := 0) hx hb dX4_rollback_45 (by decide) ?_
    cases h
    exact mk_iret E hK hP hD hS dX4_rollback_46
  · replace h := (kp_if h).2 c_1
    refine lv_aload_n hx hb dX4_rollback_34 rfl (lv_at hl 0 rfl) ?_
    refine lv_iload_n hx hb dX4_rollback_35 rfl (lv_at hl 1 rfl) ?_
    obtain ⟨r_2, hr_2, h⟩ := kp_bind h
    refine mk_contV (w := w_X cI cZ cS aX aD aDw aM aMw aJ aJh aSa aSt sA tx pw wl wn dk mm hd sg sc4) (w0 := w_X cI cZ cS aX aD aDw aM aMw aJ aJh aSa aSt sA tx pw wl wn dk mm hd sg sc4) (wr := []) (w2 := w_X cI cZ cS aX aD aDw aM aMw aJ aJh aSa aSt sA tx pw wl wn dk mm hd sg r_2) hP hD hS hA [0, 1, 2, 3, 4, 5, 6, 7, 8, 9, 10, 11, 12] [] rfl rfl (by decide) (by decide) [0, 1, 2, 3, 4, 5, 6, 7, 8, 9, 10, 11, 12] rfl (by decide) (va_runV (As := [.int x2]) (rest := []) ⟨hx, hb, hml, hown, hts⟩ (c_X_voidScansOf l dC dI cI cZ cS aX aD aDw aM aMw aJ aJh aSa aSt sA tx pw wl wn dk mm hd sg sc4 x2 r_2 hr_2 H.size) (cwV 1 hts gX4_rollback_X4_voidScansOf rfl rfl rfl (by decide +kernel) ⟨Nat.le_of_ble_eq_true rfl, Nat.le_of_ble_eq_true rfl⟩) (mk_preV (w0 := w_X cI cZ cS aX aD aDw aM aMw aJ aJh aSa aSt sA tx pw wl wn dk mm hd sg sc4) (ci := 4) (q0 := 0) hN hK (mk_pick hP [0, 1, 2, 3, 4, 5, 6, 7, 8, 9, 10, 11, 12] rfl) (hD.sub [0, 1, 2, 3, 4, 5, 6, 7, 8, 9, 10, 11, 12] (by decide) rfl) rfl rfl rfl) rfl rfl hl.1 rfl (lv_room (Nat.le_of_ble_eq_true rfl)) dX4_rollback_36 ⟨Nat.zero_le _, Nat.zero_le _⟩) (fun H locs hP hD hS => ?_)
    refine lv_iinc (v := x2 + 1) (lv' := [(2, .int (x2 + 1)), (0, .ref aX)]) hx hb dX4_rollback_39 hl (k := 1) rfl rfl (by decide) rfl (fun ls hl => ?_)
    refine lv_goto (tgt := 29) hx hb dX4_rollback_42 (by decide) ?_
    exact hk_29 (x2 + 1) tx mm r_2 h H locs ls hP hD hS (lv_sub hl [1, 0] rfl)
set_option maxHeartbeats 4000000 in
set_option maxRecDepth 100000 in
theorem l_X_rollback_29 {p : Program} {l : Launch} {e : Env} {s : State} {m : MethodId} {below : List Frame} {meth : Method} {c : Code} {A : Nat → Prop} {dC : Nat → ClassId} {dI : Nat → Nat → Nat} {cI cZ cS : ClassId} {aX aD aDw aM aMw aJ aJh aSa aSt : Nat} {sA : Nat → Nat} {pw : Int32} {wl : Int32} {wn : Int32} {dk : Nat → Int32} {hd : Nat → Int32} {sg : Nat → Int32} (E : mk_En p s m meth c cX4_rollback 3 (some .int) ([.ref aX] : List Value).toArray wsX4_rollback yX4_rollback.cls) (hA : ∀ q : Nat, s.heap.size ≤ q → A q) (hK : va_K (dC, dI) vwCl (tyz cI cZ cS) s) (R : Int32 × Int32 × (Nat → Int32) × (Nat → SCT)) : ∀ (n : Nat) (x2 : Int32) (tx : Int32) (mm : Nat → Int32) (sc4 : Nat → SCT), pl_X_rollback_29 pw dk n x2 tx mm sc4 = some R → ∀ (H : Heap) (locs : List Loc) (ls : Array Slot), va_P (dC, dI) vwCl (w_X cI cZ cS aX aD aDw aM aMw aJ aJh aSa aSt sA tx pw wl wn dk mm hd sg sc4) H → va_D A (w_X cI cZ cS aX aD aDw aM aMw aJ aJh aSa aSt sA tx pw wl wn dk mm hd sg sc4) → va_S A s.heap H locs → lv_has ls 3 [(0, .ref aX), (2, .int x2)] → W p l e ({ frames := 2, cells := 0, slots := 0, locals := 43 } : Room) s m ([.ref aX] : List Value).toArray below meth c H locs 0 0 (MQ below (mk_QI (dC, dI) vwCl (tyz cI cZ cS) A (fun u : Int32 × (Nat → Int32) × (Nat → SCT) => w_X cI cZ cS aX aD aDw aM aMw aJ aJh aSa aSt sA u.1 pw wl wn dk u.2.1 hd sg u.2.2) R) ([.ref aX] : List Value).toArray s 0 0 A) (F0 m 29 ls []) := by
  intro n
  induction n with
  | zero =>
    intro x2 tx mm sc4 h
    cases h
  | succ n ih =>
    intro x2 tx mm sc4 h
    exact b_X_rollback_29 E hA hK R ih x2 tx mm sc4 h
set_option maxHeartbeats 4000000 in
set_option maxRecDepth 100000 in
theorem c_X_rollback (l : Launch) (dC : Nat → ClassId) (dI : Nat → Nat → Nat) (cI cZ cS : ClassId) (aX aD aDw aM aMw aJ aJh aSa aSt : Nat) (sA : Nat → Nat) (tx : Int32) (pw : Int32) (wl : Int32) (wn : Int32) (dk : Nat → Int32) (mm : Nat → Int32) (hd : Nat → Int32) (sg : Nat → Int32) (sc4 : Nat → SCT) : CtI l yX4_rollback wsX4_rollback ({ frames := 2, cells := 0, slots := 0, locals := 43 }) (dC, dI) vwCl (tyz cI cZ cS) [.ref aX] (w_X cI cZ cS aX aD aDw aM aMw aJ aJh aSa aSt sA tx pw wl wn dk mm hd sg sc4) (fun u : Int32 × (Nat → Int32) × (Nat → SCT) => w_X cI cZ cS aX aD aDw aM aMw aJ aJh aSa aSt sA u.1 pw wl wn dk u.2.1 hd sg u.2.2) (p_X_rollback tx pw dk mm sc4) := by
  intro R h
  refine mk_enter (Qc := (fun A => mk_QI (dC, dI) vwCl (tyz cI cZ cS) A (fun u : Int32 × (Nat → Int32) × (Nat → SCT) => w_X cI cZ cS aX aD aDw aM aMw aJ aJh aSa aSt sA u.1 pw wl wn dk u.2.1 hd sg u.2.2) R)) (by decide) rfl (Nat.le_of_ble_eq_true rfl) ?_
  intro p e s m below meth c A E hA hK H locs ls hP hD hS hl
  obtain ⟨⟨hx, hb, hml, hown, hts⟩, hrt, hlk, hN⟩ := id E
  have hown : s.vm.findClass RX4 = some m.cls := hown
  have hl : lv_has ls 3 [(0, .ref aX)] := hl
  unfold p_X_rollback at h
  refine lv_aload_n hx hb dX4_rollback_0 rfl (lv_at hl 0 rfl) ?_
  obtain ⟨r_3, hr_3, h⟩ := kp_bind h
  refine mk_contR (w := w_X cI cZ cS aX aD aDw aM aMw aJ aJh aSa aSt sA tx pw wl wn dk mm hd sg sc4) (w0 := w_X cI cZ cS aX aD aDw aM aMw aJ aJh aSa aSt sA tx pw wl wn dk mm hd sg sc4) (wr := []) hP hD hS hA [0, 1, 2, 3, 4, 5, 6, 7, 8, 9, 10, 11, 12] [] rfl rfl (by decide) (by decide) [0, 1, 2, 3, 4, 5, 6, 7, 8, 9, 10, 11, 12] rfl (by decide) (va_runV (As := []) (rest := []) ⟨hx, hb, hml, hown, hts⟩ (c_X_refusalOutsideTransaction l dC dI cI cZ cS aX aD aDw aM aMw aJ aJh aSa aSt sA tx pw wl wn dk mm hd sg sc4 r_3 hr_3 H.size) (cwV 0 hts gX4_rollback_X4_refusalOutsideTransaction rfl rfl rfl (by decide +kernel) ⟨Nat.le_of_ble_eq_true rfl, Nat.le_of_ble_eq_true rfl⟩) (mk_preV (w0 := w_X cI cZ cS aX aD aDw aM aMw aJ aJh aSa aSt sA tx pw wl wn dk mm hd sg sc4) (ci := 4) (q0 := 0) hN hK (mk_pick hP [0, 1, 2, 3, 4, 5, 6, 7, 8, 9, 10, 11, 12] rfl) (hD.sub [0, 1, 2, 3, 4, 5, 6, 7, 8, 9, 10, 11, 12] (by decide) rfl) rfl rfl rfl) rfl rfl hl.1 rfl (lv_room (Nat.le_of_ble_eq_true rfl)) dX4_rollback_1 ⟨Nat.zero_le _, Nat.zero_le _⟩) (fun H locs hP hD hS => ?_)
  refine lv_istore_n (lv' := [(1, .int r_3), (0, .ref aX)]) hx hb dX4_rollback_4 rfl hl (by decide) rfl (fun ls hl => ?_)
  refine lv_iload_n hx hb dX4_rollback_5 rfl (lv_at hl 0 rfl) ?_
  refine lv_if_eq (tgt := 11) hx hb dX4_rollback_6 (by decide) (fun c_4 => ?_) (fun c_4 => ?_)
  · replace h := (kp_if h).1 c_4
    refine lv_aload_n hx hb dX4_rollback_11 rfl (lv_at hl 1 rfl) ?_
    refine va_get (D := (dC, dI)) (ci := 4) (v := .ref aM) (C := RX4) (T := TX4) (N := 6) hx hb hts iw_X_rollback_X hown hK hP 0 rfl rfl 1 (by decide) (hts _ mm_X_rollback_0) (fun _ h9 => h9) rfl dX4_rollback_12 ?_
    refine lv_aload_n hx hb dX4_rollback_15 rfl (lv_at hl 1 rfl) ?_
    refine va_get (D := (dC, dI)) (ci := 4) (v := .ref aD) (C := RX4) (T := TX4) (N := 6) hx hb hts iw_X_rollback_X hown hK hP 0 rfl rfl 0 (by decide) (hts _ mm_X_rollback_2) (fun _ h9 => h9) rfl dX4_rollback_16 ?_
    obtain ⟨r_5, hr_5, h⟩ := kp_bind h
    refine mk_contV (w := w_X cI cZ cS aX aD aDw aM aMw aJ aJh aSa aSt sA tx pw wl wn dk mm hd sg sc4) (w0 := w_MD cI cZ cS aM aMw aD aDw mm pw wl wn dk) (wr := [(aX, .inr (4, [.ref aD, .ref aM, .ref aJ, .ref aSa, .ref aSt, .int tx])), (aJ, .inr (1, [.ref aD, .ref aM, .ref aJh])), (aJh, .inl (cI, 16, .inl hd)), (aSa, .inl (cS, 4, .inr (.inr (.inr (.inr (fun j => some (sA j))))))), (aSt, .inl (cI, 6, .inl sg)), (sA 0, scv (sc4 0)), (sA 1, scv (sc4 1)), (sA 2, scv (sc4 2)), (sA 3, scv (sc4 3))]) (w2 := w_X cI cZ cS aX aD aDw aM aMw aJ aJh aSa aSt sA tx pw wl wn dk r_5 hd sg sc4) hP hD hS hA [3, 4, 1, 2] [0, 5, 6, 7, 8, 9, 10, 11, 12] rfl rfl (by decide) (by decide) [0, 11, 12, 9, 10, 1, 2, 3, 4, 5, 6, 7, 8] rfl (by decide) (va_runV (As := [.ref aD]) (rest := []) ⟨hx, hb, hml, hown, hts⟩ (c_M_load l dC dI cI cZ cS aM aMw aD aDw mm pw wl wn dk r_5 hr_5 H.size) (cwV 1 hts gX4_rollback_X2_load rfl rfl rfl (by decide +kernel) ⟨Nat.le_of_ble_eq_true rfl, Nat.le_of_ble_eq_true rfl⟩) (mk_preV (w0 := w_MD cI cZ cS aM aMw aD aDw mm pw wl wn dk) (ci := 2) (q0 := 0) hN hK (mk_pick hP [3, 4, 1, 2] rfl) (hD.sub [3, 4, 1, 2] (by decide) rfl) rfl rfl rfl) rfl rfl hl.1 rfl (lv_room (Nat.le_of_ble_eq_true rfl)) dX4_rollback_19 ⟨Nat.zero_le _, Nat.zero_le _⟩) (fun H locs hP hD hS => ?_)
    refine lv_aload_n hx hb dX4_rollback_22 rfl (lv_at hl 1 rfl) ?_
    refine lv_iconst (v := 0) hx hb dX4_rollback_23 (by decide) ?_
    refine va_put (D := (dC, dI)) (ci := 4) (v := .int 0) (ty := .boolean) (C := RX4) (T := TX4) (N := 6) hx hb hts iw_X_rollback_X tyX4 tyX4_ok nmX4 hown hK hP hD hS 0 rfl rfl 5 (by decide) (hts _ mm_X_rollback_3) (fun _ h9 => h9) rfl (by decide +kernel) rfl rfl (Nat.le_of_ble_eq_true rfl) dX4_rollback_24 (fun H locs hP hD hS => ?_)
    have hP : va_P (dC, dI) vwCl (w_X cI cZ cS aX aD aDw aM aMw aJ aJh aSa aSt sA 0 pw wl wn dk r_5 hd sg sc4) H := hP
    have hD : va_D A (w_X cI cZ cS aX aD aDw aM aMw aJ aJh aSa aSt sA 0 pw wl wn dk r_5 hd sg sc4) := hD
    refine lv_iconst (v := 0) hx hb dX4_rollback_27 (by decide) ?_
    refine lv_istore_n (lv' := [(2, .int 0), (1, .int r_3), (0, .ref aX)]) hx hb dX4_rollback_28 rfl hl (by decide) rfl (fun ls hl => ?_)
    exact l_X_rollback_29 E hA hK R 1000 0 0 r_5 sc4 h H locs ls hP hD hS (lv_sub hl [2, 0] rfl)
  · replace h := (kp_if h).2 c_4
    refine lv_iload_n hx hb dX4_rollback_9 rfl (lv_at hl 0 rfl) ?_
    cases h
    exact mk_iret E hK hP hD hS dX4_rollback_10

/- X.stage(II)I -/
set_option maxRecDepth 20000 in
theorem mm_X_stage_0 : Cond.fieldLink RX4 10 "JournaledTables" "disk" "LJournaledTables$Disk;" ∈ wsX4_stage := by decide +kernel
set_option maxRecDepth 20000 in
theorem iw_X_stage_X : ∀ w ∈ u_ws RX4 TX4 6, w ∈ wsX4_stage := by decide +kernel
set_option maxRecDepth 20000 in
theorem mm_X_stage_2 : Cond.fieldLink RX4 39 "JournaledTables" "staged" "[I" ∈ wsX4_stage := by decide +kernel
set_option maxHeartbeats 4000000 in
set_option maxRecDepth 100000 in
theorem b_X_stage_22 {p : Program} {l : Launch} {e : Env} {s : State} {m : MethodId} {below : List Frame} {meth : Method} {c : Code} {A : Nat → Prop} {dC : Nat → ClassId} {dI : Nat → Nat → Nat} {cI cZ cS : ClassId} {aX aD aDw aM aMw aJ aJh aSa aSt : Nat} {sA : Nat → Nat} {tx : Int32} {pw : Int32} {wl : Int32} {wn : Int32} {dk : Nat → Int32} {mm : Nat → Int32} {hd : Nat → Int32} {sc4 : Nat → SCT} {a1 : Int32} {a2 : Int32} (E : mk_En p s m meth c cX4_stage 3 (some .int) ([.ref aX, .int a1, .int a2] : List Value).toArray wsX4_stage yX4_stage.cls) (hA : ∀ q : Nat, s.heap.size ≤ q → A q) (hK : va_K (dC, dI) vwCl (tyz cI cZ cS) s) (R : Int32 × (Nat → Int32)) (sg : Nat → Int32) (h : p_X_stage_22 pw sg = some R) : ∀ (H : Heap) (locs : List Loc) (ls : Array Slot), va_P (dC, dI) vwCl (w_X cI cZ cS aX aD aDw aM aMw aJ aJh aSa aSt sA tx pw wl wn dk mm hd sg sc4) H → va_D A (w_X cI cZ cS aX aD aDw aM aMw aJ aJh aSa aSt sA tx pw wl wn dk mm hd sg sc4) → va_S A s.heap H locs → lv_has ls 3 [] → W p l e ({ frames := 1, cells := 0, slots := 0, locals := 20 } : Room) s m ([.ref aX, .int a1, .int a2] : List Value).toArray below meth c H locs 0 0 (MQ below (mk_QI (dC, dI) vwCl (tyz cI cZ cS) A (fun u : (Nat → Int32) => w_X cI cZ cS aX aD aDw aM aMw aJ aJh aSa aSt sA tx pw wl wn dk mm hd u sc4) R) ([.ref aX, .int a1, .int a2] : List Value).toArray s 0 0 A) (F0 m 22 ls []) := by
  intro H locs ls hP hD hS hl
  obtain ⟨⟨hx, hb, hml, hown, hts⟩, hrt, hlk, hN⟩ := id E
  have hown : s.vm.findClass RX4 = some m.cls := hown
  unfold p_X_stage_22 at h
  refine lv_bipush (v := (-4)) hx hb dX4_stage_22 (by decide) ?_
  cases h
  exact mk_iret E hK hP hD hS dX4_stage_24
set_option maxHeartbeats 4000000 in
set_option maxRecDepth 100000 in
theorem c_X_stage (l : Launch) (dC : Nat → ClassId) (dI : Nat → Nat → Nat) (cI cZ cS : ClassId) (aX aD aDw aM aMw aJ aJh aSa aSt : Nat) (sA : Nat → Nat) (tx : Int32) (pw : Int32) (wl : Int32) (wn : Int32) (dk : Nat → Int32) (mm : Nat → Int32) (hd : Nat → Int32) (sg : Nat → Int32) (sc4 : Nat → SCT) (a1 : Int32) (a2 : Int32) : CtI l yX4_stage wsX4_stage ({ frames := 1, cells := 0, slots := 0, locals := 20 }) (dC, dI) vwCl (tyz cI cZ cS) [.ref aX, .int a1, .int a2] (w_X cI cZ cS aX aD aDw aM aMw aJ aJh aSa aSt sA tx pw wl wn dk mm hd sg sc4) (fun u : (Nat → Int32) => w_X cI cZ cS aX aD aDw aM aMw aJ aJh aSa aSt sA tx pw wl wn dk mm hd u sc4) (p_X_stage pw sg a1 a2) := by
  intro R h
  refine mk_enter (Qc := (fun A => mk_QI (dC, dI) vwCl (tyz cI cZ cS) A (fun u : (Nat → Int32) => w_X cI cZ cS aX aD aDw aM aMw aJ aJh aSa aSt sA tx pw wl wn dk mm hd u sc4) R)) (by decide) rfl (Nat.le_of_ble_eq_true rfl) ?_
  intro p e s m below meth c A E hA hK H locs ls hP hD hS hl
  obtain ⟨⟨hx, hb, hml, hown, hts⟩, hrt, hlk, hN⟩ := id E
  have hown : s.vm.findClass RX4 = some m.cls := hown
  have hl : lv_has ls 3 [(0, .ref aX), (1, .int a1), (2, .int a2)] := hl
  unfold p_X_stage at h
  refine lv_aload_n hx hb dX4_stage_0 rfl (lv_at hl 0 rfl) ?_
  refine va_get (D := (dC, dI)) (ci := 4) (v := .ref aD) (C := RX4) (T := TX4) (N := 6) hx hb hts iw_X_stage_X hown hK hP 0 rfl rfl 0 (by decide) (hts _ mm_X_stage_0) (fun _ h9 => h9) rfl dX4_stage_1 ?_
  obtain ⟨r_1, hr_1, h⟩ := kp_bind h
  refine mk_contR (w := w_X cI cZ cS aX aD aDw aM aMw aJ aJh aSa aSt sA tx pw wl wn dk mm hd sg sc4) (w0 := w_D cI cZ cS aD aDw pw wl wn dk) (wr := [(aX, .inr (4, [.ref aD, .ref aM, .ref aJ, .ref aSa, .ref aSt, .int tx])), (aM, .inr (2, [.ref aMw])), (aMw, .inl (cI, 256, .inl mm)), (aJ, .inr (1, [.ref aD, .ref aM, .ref aJh])), (aJh, .inl (cI, 16, .inl hd)), (aSa, .inl (cS, 4, .inr (.inr (.inr (.inr (fun j => some (sA j))))))), (aSt, .inl (cI, 6, .inl sg)), (sA 0, scv (sc4 0)), (sA 1, scv (sc4 1)), (sA 2, scv (sc4 2)), (sA 3, scv (sc4 3))]) hP hD hS hA [1, 2] [0, 3, 4, 5, 6, 7, 8, 9, 10, 11, 12] rfl rfl (by decide) (by decide) [0, 11, 12, 1, 2, 3, 4, 5, 6, 7, 8, 9, 10] rfl (by decide) (va_runV (As := []) (rest := []) ⟨hx, hb, hml, hown, hts⟩ (c_D_powered l dC dI cI cZ cS aD aDw pw wl wn dk r_1 hr_1 H.size) (cwV 0 hts gX4_stage_X0_powered rfl rfl rfl (by decide +kernel) ⟨Nat.le_of_ble_eq_true rfl, Nat.le_of_ble_eq_true rfl⟩) (mk_preV (w0 := w_D cI cZ cS aD aDw pw wl wn dk) (ci := 0) (q0 := 0) hN hK (mk_pick hP [1, 2] rfl) (hD.sub [1, 2] (by decide) rfl) rfl rfl rfl) rfl rfl hl.1 rfl (lv_room (Nat.le_of_ble_eq_true rfl)) dX4_stage_4 ⟨Nat.zero_le _, Nat.zero_le _⟩) (fun H locs hP hD hS => ?_)
  refine lv_if_ne (tgt := 12) hx hb dX4_stage_7 (by decide) (fun c_2 => ?_) (fun c_2 => ?_)
  · replace h := (kp_if h).2 c_2
    refine lv_iload_n hx hb dX4_stage_12 rfl (lv_at hl 1 rfl) ?_
    refine lv_if_lt (tgt := 22) hx hb dX4_stage_13 (by decide) (fun c_3 => ?_) (fun c_3 => ?_)
    · replace h := (kp_if h).1 c_3
      exact b_X_stage_22 E hA hK R sg h H locs ls hP hD hS (lv_sub hl [] rfl)
    · replace h := (kp_if h).2 c_3
      refine lv_iload_n hx hb dX4_stage_16 rfl (lv_at hl 1 rfl) ?_
      refine lv_bipush (v := 6) hx hb dX4_stage_17 (by decide) ?_
      refine lv_icmp_lt (tgt := 25) hx hb dX4_stage_19 (by decide) (fun c_4 => ?_) (fun c_4 => ?_)
      · replace h := (kp_if h).1 c_4
        refine lv_aload_n hx hb dX4_stage_25 rfl (lv_at hl 0 rfl) ?_
        refine va_get (D := (dC, dI)) (ci := 4) (v := .ref aSt) (C := RX4) (T := TX4) (N := 6) hx hb hts iw_X_stage_X hown hK hP 0 rfl rfl 4 (by decide) (hts _ mm_X_stage_2) (fun _ h9 => h9) rfl dX4_stage_26 ?_
        refine lv_iload_n hx hb dX4_stage_29 rfl (lv_at hl 1 rfl) ?_
        refine lv_iload_n hx hb dX4_stage_30 rfl (lv_at hl 2 rfl) ?_
        obtain ⟨hc_5, h⟩ := kp_in h
        refine va_iast hx hb hK hP hD hS 8 0 rfl rfl (kx_of hc_5) dX4_stage_31 (fun H locs hP hD hS => ?_)
        have hP : va_P (dC, dI) vwCl (w_X cI cZ cS aX aD aDw aM aMw aJ aJh aSa aSt sA tx pw wl wn dk mm hd (upd sg a1.toNatClampNeg a2) sc4) H := hP
        have hD : va_D A (w_X cI cZ cS aX aD aDw aM aMw aJ aJh aSa aSt sA tx pw wl wn dk mm hd (upd sg a1.toNatClampNeg a2) sc4) := hD
        refine lv_iconst (v := 0) hx hb dX4_stage_32 (by decide) ?_
        cases h
        exact mk_iret E hK hP hD hS dX4_stage_33
      · replace h := (kp_if h).2 c_4
        exact b_X_stage_22 E hA hK R sg h H locs ls hP hD hS (lv_sub hl [] rfl)
  · replace h := (kp_if h).1 c_2
    refine lv_iconst (v := (-1)) hx hb dX4_stage_10 (by decide) ?_
    cases h
    exact mk_iret E hK hP hD hS dX4_stage_11

/- X.insert(I)I -/
set_option maxRecDepth 20000 in
theorem mm_X_insert_0 : Cond.fieldLink RX4 19 "JournaledTables" "memory" "LJournaledTables$Memory;" ∈ wsX4_insert := by decide +kernel
set_option maxRecDepth 20000 in
theorem iw_X_insert_X : ∀ w ∈ u_ws RX4 TX4 6, w ∈ wsX4_insert := by decide +kernel
set_option maxRecDepth 20000 in
theorem mm_X_insert_2 : Cond.fieldLink RX4 39 "JournaledTables" "staged" "[I" ∈ wsX4_insert := by decide +kernel
set_option maxHeartbeats 4000000 in
set_option maxRecDepth 100000 in
theorem c_X_insert (l : Launch) (dC : Nat → ClassId) (dI : Nat → Nat → Nat) (cI cZ cS : ClassId) (aX aD aDw aM aMw aJ aJh aSa aSt : Nat) (sA : Nat → Nat) (tx : Int32) (pw : Int32) (wl : Int32) (wn : Int32) (dk : Nat → Int32) (mm : Nat → Int32) (hd : Nat → Int32) (sg : Nat → Int32) (sc4 : Nat → SCT) (a1 : Int32) : CtI l yX4_insert wsX4_insert ({ frames := 6, cells := 0, slots := 0, locals := 133 }) (dC, dI) vwCl (tyz cI cZ cS) [.ref aX, .int a1] (w_X cI cZ cS aX aD aDw aM aMw aJ aJh aSa aSt sA tx pw wl wn dk mm hd sg sc4) (fun u : (Nat → Int32) × (Nat → SCT) => w_X cI cZ cS aX aD aDw aM aMw aJ aJh aSa aSt sA tx pw wl wn dk u.1 hd sg u.2) (p_X_insert tx pw mm sg sc4 a1) := by
  intro R h
  refine mk_enter (Qc := (fun A => mk_QI (dC, dI) vwCl (tyz cI cZ cS) A (fun u : (Nat → Int32) × (Nat → SCT) => w_X cI cZ cS aX aD aDw aM aMw aJ aJh aSa aSt sA tx pw wl wn dk u.1 hd sg u.2) R)) (by decide) rfl (Nat.le_of_ble_eq_true rfl) ?_
  intro p e s m below meth c A E hA hK H locs ls hP hD hS hl
  obtain ⟨⟨hx, hb, hml, hown, hts⟩, hrt, hlk, hN⟩ := id E
  have hown : s.vm.findClass RX4 = some m.cls := hown
  have hl : lv_has ls 3 [(0, .ref aX), (1, .int a1)] := hl
  unfold p_X_insert at h
  refine lv_aload_n hx hb dX4_insert_0 rfl (lv_at hl 0 rfl) ?_
  refine lv_iload_n hx hb dX4_insert_1 rfl (lv_at hl 1 rfl) ?_
  obtain ⟨r_1, hr_1, h⟩ := kp_bind h
  refine mk_contR (w := w_X cI cZ cS aX aD aDw aM aMw aJ aJh aSa aSt sA tx pw wl wn dk mm hd sg sc4) (w0 := w_X cI cZ cS aX aD aDw aM aMw aJ aJh aSa aSt sA tx pw wl wn dk mm hd sg sc4) (wr := []) hP hD hS hA [0, 1, 2, 3, 4, 5, 6, 7, 8, 9, 10, 11, 12] [] rfl rfl (by decide) (by decide) [0, 1, 2, 3, 4, 5, 6, 7, 8, 9, 10, 11, 12] rfl (by decide) (va_runV (As := [.int a1]) (rest := []) ⟨hx, hb, hml, hown, hts⟩ (c_X_refusalOfChange l dC dI cI cZ cS aX aD aDw aM aMw aJ aJh aSa aSt sA tx pw wl wn dk mm hd sg sc4 a1 r_1 hr_1 H.size) (cwV 1 hts gX4_insert_X4_refusalOfChange rfl rfl rfl (by decide +kernel) ⟨Nat.le_of_ble_eq_true rfl, Nat.le_of_ble_eq_true rfl⟩) (mk_preV (w0 := w_X cI cZ cS aX aD aDw aM aMw aJ aJh aSa aSt sA tx pw wl wn dk mm hd sg sc4) (ci := 4) (q0 := 0) hN hK (mk_pick hP [0, 1, 2, 3, 4, 5, 6, 7, 8, 9, 10, 11, 12] rfl) (hD.sub [0, 1, 2, 3, 4, 5, 6, 7, 8, 9, 10, 11, 12] (by decide) rfl) rfl rfl rfl) rfl rfl hl.1 rfl (lv_room (Nat.le_of_ble_eq_true rfl)) dX4_insert_2 ⟨Nat.zero_le _, Nat.zero_le _⟩) (fun H locs hP hD hS => ?_)
  refine lv_istore_n (lv' := [(2, .int r_1), (0, .ref aX), (1, .int a1)]) hx hb dX4_insert_5 rfl hl (by decide) rfl (fun ls hl => ?_)
  refine lv_iload_n hx hb dX4_insert_6 rfl (lv_at hl 0 rfl) ?_
  refine lv_if_eq (tgt := 12) hx hb dX4_insert_7 (by decide) (fun c_2 => ?_) (fun c_2 => ?_)
  · replace h := (kp_if h).1 c_2
    refine lv_aload_n hx hb dX4_insert_12 rfl (lv_at hl 1 rfl) ?_
    refine va_get (D := (dC, dI)) (ci := 4) (v := .ref aM) (C := RX4) (T := TX4) (N := 6) hx hb hts iw_X_insert_X hown hK hP 0 rfl rfl 1 (by decide) (hts _ mm_X_insert_0) (fun _ h9 => h9) rfl dX4_insert_13 ?_
    refine lv_iload_n hx hb dX4_insert_16 rfl (lv_at hl 2 rfl) ?_
    refine lv_aload_n hx hb dX4_insert_17 rfl (lv_at hl 1 rfl) ?_
    refine va_get (D := (dC, dI)) (ci := 4) (v := .ref aSt) (C := RX4) (T := TX4) (N := 6) hx hb hts iw_X_insert_X hown hK hP 0 rfl rfl 4 (by decide) (hts _ mm_X_insert_2) (fun _ h9 => h9) rfl dX4_insert_18 ?_
    refine lv_iconst (v := 0) hx hb dX4_insert_21 (by decide) ?_
    obtain ⟨hc_3, h⟩ := kp_in h
    refine va_iald hx hb hK hP 8 0 rfl rfl (kx_of hc_3) dX4_insert_22 ?_
    obtain ⟨r_4, hr_4, h⟩ := kp_bind h
    refine mk_contR (w := w_X cI cZ cS aX aD aDw aM aMw aJ aJh aSa aSt sA tx pw wl wn dk mm hd sg sc4) (w0 := w_M cI cZ cS aM aMw mm) (wr := [(aX, .inr (4, [.ref aD, .ref aM, .ref aJ, .ref aSa, .ref aSt, .int tx])), (aD, .inr (0, [.ref aDw, .int pw, .int wl, .int wn])), (aDw, .inl (cI, 528, .inl dk)), (aJ, .inr (1, [.ref aD, .ref aM, .ref aJh])), (aJh, .inl (cI, 16, .inl hd)), (aSa, .inl (cS, 4, .inr (.inr (.inr (.inr (fun j => some (sA j))))))), (aSt, .inl (cI, 6, .inl sg)), (sA 0, scv (sc4 0)), (sA 1, scv (sc4 1)), (sA 2, scv (sc4 2)), (sA 3, scv (sc4 3))]) hP hD hS hA [3, 4] [0, 1, 2, 5, 6, 7, 8, 9, 10, 11, 12] rfl rfl (by decide) (by decide) [0, 1, 2, 11, 12, 3, 4, 5, 6, 7, 8, 9, 10] rfl (by decide) (va_runV (As := [.int a1, .int (sg (0 : Int32).toNatClampNeg)]) (rest := []) ⟨hx, hb, hml, hown, hts⟩ (c_M_rowOf l dC dI cI cZ cS aM aMw mm a1 (sg (0 : Int32).toNatClampNeg) r_4 hr_4 H.size) (cwV 2 hts gX4_insert_X2_rowOf rfl rfl rfl (by decide +kernel) ⟨Nat.le_of_ble_eq_true rfl, Nat.le_of_ble_eq_true rfl⟩) (mk_preV (w0 := w_M cI cZ cS aM aMw mm) (ci := 2) (q0 := 0) hN hK (mk_pick hP [3, 4] rfl) (hD.sub [3, 4] (by decide) rfl) rfl rfl rfl) rfl rfl hl.1 rfl (lv_room (Nat.le_of_ble_eq_true rfl)) dX4_insert_23 ⟨Nat.zero_le _, Nat.zero_le _⟩) (fun H locs hP hD hS => ?_)
    refine lv_iconst (v := (-1)) hx hb dX4_insert_26 (by decide) ?_
    refine lv_icmp_eq (tgt := 33) hx hb dX4_insert_27 (by decide) (fun c_5 => ?_) (fun c_5 => ?_)
    · replace h := (kp_if h).1 c_5
      refine lv_aload_n hx hb dX4_insert_33 rfl (lv_at hl 1 rfl) ?_
      refine va_get (D := (dC, dI)) (ci := 4) (v := .ref aM) (C := RX4) (T := TX4) (N := 6) hx hb hts iw_X_insert_X hown hK hP 0 rfl rfl 1 (by decide) (hts _ mm_X_insert_0) (fun _ h9 => h9) rfl dX4_insert_34 ?_
      refine lv_iload_n hx hb dX4_insert_37 rfl (lv_at hl 2 rfl) ?_
      refine lv_aload_n hx hb dX4_insert_38 rfl (lv_at hl 1 rfl) ?_
      refine va_get (D := (dC, dI)) (ci := 4) (v := .ref aSt) (C := RX4) (T := TX4) (N := 6) hx hb hts iw_X_insert_X hown hK hP 0 rfl rfl 4 (by decide) (hts _ mm_X_insert_2) (fun _ h9 => h9) rfl dX4_insert_39 ?_
      obtain ⟨r_6, hr_6, h⟩ := kp_bind h
      refine mk_contI (w := w_X cI cZ cS aX aD aDw aM aMw aJ aJh aSa aSt sA tx pw wl wn dk mm hd sg sc4) (w0 := w_MS cI cZ cS aM aMw aSt mm sg) (wr := [(aX, .inr (4, [.ref aD, .ref aM, .ref aJ, .ref aSa, .ref aSt, .int tx])), (aD, .inr (0, [.ref aDw, .int pw, .int wl, .int wn])), (aDw, .inl (cI, 528, .inl dk)), (aJ, .inr (1, [.ref aD, .ref aM, .ref aJh])), (aJh, .inl (cI, 16, .inl hd)), (aSa, .inl (cS, 4, .inr (.inr (.inr (.inr (fun j => some (sA j))))))), (sA 0, scv (sc4 0)), (sA 1, scv (sc4 1)), (sA 2, scv (sc4 2)), (sA 3, scv (sc4 3))]) (w2 := w_X cI cZ cS aX aD aDw aM aMw aJ aJh aSa aSt sA tx pw wl wn dk r_6.2 hd sg sc4) hP hD hS hA [3, 4, 8] [0, 1, 2, 5, 6, 7, 9, 10, 11, 12] rfl rfl (by decide) (by decide) [0, 1, 2, 10, 11, 3, 4, 5, 12, 6, 7, 8, 9] rfl (by decide) (va_runV (As := [.int a1, .ref aSt]) (rest := []) ⟨hx, hb, hml, hown, hts⟩ (c_M_addRow l dC dI cI cZ cS aM aMw aSt mm sg a1 r_6 hr_6 H.size) (cwV 2 hts gX4_insert_X2_addRow rfl rfl rfl (by decide +kernel) ⟨Nat.le_of_ble_eq_true rfl, Nat.le_of_ble_eq_true rfl⟩) (mk_preV (w0 := w_MS cI cZ cS aM aMw aSt mm sg) (ci := 2) (q0 := 0) hN hK (mk_pick hP [3, 4, 8] rfl) (hD.sub [3, 4, 8] (by decide) rfl) rfl rfl rfl) rfl rfl hl.1 rfl (lv_room (Nat.le_of_ble_eq_true rfl)) dX4_insert_42 ⟨Nat.zero_le _, Nat.zero_le _⟩) (fun H locs hP hD hS => ?_)
      refine lv_if_ne (tgt := 51) hx hb dX4_insert_45 (by decide) (fun c_7 => ?_) (fun c_7 => ?_)
      · replace h := (kp_if h).2 c_7
        refine lv_aload_n hx hb dX4_insert_51 rfl (lv_at hl 1 rfl) ?_
        refine lv_iload_n hx hb dX4_insert_52 rfl (lv_at hl 2 rfl) ?_
        obtain ⟨r_8, hr_8, h⟩ := kp_bind h
        refine mk_contV (w := w_X cI cZ cS aX aD aDw aM aMw aJ aJh aSa aSt sA tx pw wl wn dk r_6.2 hd sg sc4) (w0 := w_X cI cZ cS aX aD aDw aM aMw aJ aJh aSa aSt sA tx pw wl wn dk r_6.2 hd sg sc4) (wr := []) (w2 := w_X cI cZ cS aX aD aDw aM aMw aJ aJh aSa aSt sA tx pw wl wn dk r_6.2 hd sg r_8) hP hD hS hA [0, 1, 2, 3, 4, 5, 6, 7, 8, 9, 10, 11, 12] [] rfl rfl (by decide) (by decide) [0, 1, 2, 3, 4, 5, 6, 7, 8, 9, 10, 11, 12] rfl (by decide) (va_runV (As := [.int a1]) (rest := []) ⟨hx, hb, hml, hown, hts⟩ (c_X_voidScansOf l dC dI cI cZ cS aX aD aDw aM aMw aJ aJh aSa aSt sA tx pw wl wn dk r_6.2 hd sg sc4 a1 r_8 hr_8 H.size) (cwV 1 hts gX4_insert_X4_voidScansOf rfl rfl rfl (by decide +kernel) ⟨Nat.le_of_ble_eq_true rfl, Nat.le_of_ble_eq_true rfl⟩) (mk_preV (w0 := w_X cI cZ cS aX aD aDw aM aMw aJ aJh aSa aSt sA tx pw wl wn dk r_6.2 hd sg sc4) (ci := 4) (q0 := 0) hN hK (mk_pick hP [0, 1, 2, 3, 4, 5, 6, 7, 8, 9, 10, 11, 12] rfl) (hD.sub [0, 1, 2, 3, 4, 5, 6, 7, 8, 9, 10, 11, 12] (by decide) rfl) rfl rfl rfl) rfl rfl hl.1 rfl (lv_room (Nat.le_of_ble_eq_true rfl)) dX4_insert_53 ⟨Nat.zero_le _, Nat.zero_le _⟩) (fun H locs hP hD hS => ?_)
        refine lv_iconst (v := 0) hx hb dX4_insert_56 (by decide) ?_
        cases h
        exact mk_iret E hK hP hD hS dX4_insert_57
      · replace h := (kp_if h).1 c_7
        refine lv_bipush (v := (-8)) hx hb dX4_insert_48 (by decide) ?_
        cases h
        exact mk_iret E hK hP hD hS dX4_insert_50
    · replace h := (kp_if h).2 c_5
      refine lv_bipush (v := (-7)) hx hb dX4_insert_30 (by decide) ?_
      cases h
      exact mk_iret E hK hP hD hS dX4_insert_32
  · replace h := (kp_if h).2 c_2
    refine lv_iload_n hx hb dX4_insert_10 rfl (lv_at hl 0 rfl) ?_
    cases h
    exact mk_iret E hK hP hD hS dX4_insert_11

/- X.deleteKey(II)I -/
set_option maxRecDepth 20000 in
theorem mm_X_deleteKey_0 : Cond.fieldLink RX4 19 "JournaledTables" "memory" "LJournaledTables$Memory;" ∈ wsX4_deleteKey := by decide +kernel
set_option maxRecDepth 20000 in
theorem iw_X_deleteKey_X : ∀ w ∈ u_ws RX4 TX4 6, w ∈ wsX4_deleteKey := by decide +kernel
set_option maxHeartbeats 4000000 in
set_option maxRecDepth 100000 in
theorem c_X_deleteKey (l : Launch) (dC : Nat → ClassId) (dI : Nat → Nat → Nat) (cI cZ cS : ClassId) (aX aD aDw aM aMw aJ aJh aSa aSt : Nat) (sA : Nat → Nat) (tx : Int32) (pw : Int32) (wl : Int32) (wn : Int32) (dk : Nat → Int32) (mm : Nat → Int32) (hd : Nat → Int32) (sg : Nat → Int32) (sc4 : Nat → SCT) (a1 : Int32) (a2 : Int32) : CtI l yX4_deleteKey wsX4_deleteKey ({ frames := 5, cells := 0, slots := 0, locals := 120 }) (dC, dI) vwCl (tyz cI cZ cS) [.ref aX, .int a1, .int a2] (w_X cI cZ cS aX aD aDw aM aMw aJ aJh aSa aSt sA tx pw wl wn dk mm hd sg sc4) (fun u : (Nat → Int32) × (Nat → SCT) => w_X cI cZ cS aX aD aDw aM aMw aJ aJh aSa aSt sA tx pw wl wn dk u.1 hd sg u.2) (p_X_deleteKey tx pw mm sc4 a1 a2) := by
  intro R h
  refine mk_enter (Qc := (fun A => mk_QI (dC, dI) vwCl (tyz cI cZ cS) A (fun u : (Nat → Int32) × (Nat → SCT) => w_X cI cZ cS aX aD aDw aM aMw aJ aJh aSa aSt sA tx pw wl wn dk u.1 hd sg u.2) R)) (by decide) rfl (Nat.le_of_ble_eq_true rfl) ?_
  intro p e s m below meth c A E hA hK H locs ls hP hD hS hl
  obtain ⟨⟨hx, hb, hml, hown, hts⟩, hrt, hlk, hN⟩ := id E
  have hown : s.vm.findClass RX4 = some m.cls := hown
  have hl : lv_has ls 5 [(0, .ref aX), (1, .int a1), (2, .int a2)] := hl
  unfold p_X_deleteKey at h
  refine lv_aload_n hx hb dX4_deleteKey_0 rfl (lv_at hl 0 rfl) ?_
  refine lv_iload_n hx hb dX4_deleteKey_1 rfl (lv_at hl 1 rfl) ?_
  obtain ⟨r_1, hr_1, h⟩ := kp_bind h
  refine mk_contR (w := w_X cI cZ cS aX aD aDw aM aMw aJ aJh aSa aSt sA tx pw wl wn dk mm hd sg sc4) (w0 := w_X cI cZ cS aX aD aDw aM aMw aJ aJh aSa aSt sA tx pw wl wn dk mm hd sg sc4) (wr := []) hP hD hS hA [0, 1, 2, 3, 4, 5, 6, 7, 8, 9, 10, 11, 12] [] rfl rfl (by decide) (by decide) [0, 1, 2, 3, 4, 5, 6, 7, 8, 9, 10, 11, 12] rfl (by decide) (va_runV (As := [.int a1]) (rest := []) ⟨hx, hb, hml, hown, hts⟩ (c_X_refusalOfChange l dC dI cI cZ cS aX aD aDw aM aMw aJ aJh aSa aSt sA tx pw wl wn dk mm hd sg sc4 a1 r_1 hr_1 H.size) (cwV 1 hts gX4_deleteKey_X4_refusalOfChange rfl rfl rfl (by decide +kernel) ⟨Nat.le_of_ble_eq_true rfl, Nat.le_of_ble_eq_true rfl⟩) (mk_preV (w0 := w_X cI cZ cS aX aD aDw aM aMw aJ aJh aSa aSt sA tx pw wl wn dk mm hd sg sc4) (ci := 4) (q0 := 0) hN hK (mk_pick hP [0, 1, 2, 3, 4, 5, 6, 7, 8, 9, 10, 11, 12] rfl) (hD.sub [0, 1, 2, 3, 4, 5, 6, 7, 8, 9, 10, 11, 12] (by decide) rfl) rfl rfl rfl) rfl rfl hl.1 rfl (lv_room (Nat.le_of_ble_eq_true rfl)) dX4_deleteKey_2 ⟨Nat.zero_le _, Nat.zero_le _⟩) (fun H locs hP hD hS => ?_)
  refine lv_istore_n (lv' := [(3, .int r_1), (0, .ref aX), (1, .int a1), (2, .int a2)]) hx hb dX4_deleteKey_5 rfl hl (by decide) rfl (fun ls hl => ?_)
  refine lv_iload_n hx hb dX4_deleteKey_6 rfl (lv_at hl 0 rfl) ?_
  refine lv_if_eq (tgt := 12) hx hb dX4_deleteKey_7 (by decide) (fun c_2 => ?_) (fun c_2 => ?_)
  · replace h := (kp_if h).1 c_2
    refine lv_aload_n hx hb dX4_deleteKey_12 rfl (lv_at hl 1 rfl) ?_
    refine va_get (D := (dC, dI)) (ci := 4) (v := .ref aM) (C := RX4) (T := TX4) (N := 6) hx hb hts iw_X_deleteKey_X hown hK hP 0 rfl rfl 1 (by decide) (hts _ mm_X_deleteKey_0) (fun _ h9 => h9) rfl dX4_deleteKey_13 ?_
    refine lv_iload_n hx hb dX4_deleteKey_16 rfl (lv_at hl 2 rfl) ?_
    refine lv_iload_n hx hb dX4_deleteKey_17 rfl (lv_at hl 3 rfl) ?_
    obtain ⟨r_3, hr_3, h⟩ := kp_bind h
    refine mk_contR (w := w_X cI cZ cS aX aD aDw aM aMw aJ aJh aSa aSt sA tx pw wl wn dk mm hd sg sc4) (w0 := w_M cI cZ cS aM aMw mm) (wr := [(aX, .inr (4, [.ref aD, .ref aM, .ref aJ, .ref aSa, .ref aSt, .int tx])), (aD, .inr (0, [.ref aDw, .int pw, .int wl, .int wn])), (aDw, .inl (cI, 528, .inl dk)), (aJ, .inr (1, [.ref aD, .ref aM, .ref aJh])), (aJh, .inl (cI, 16, .inl hd)), (aSa, .inl (cS, 4, .inr (.inr (.inr (.inr (fun j => some (sA j))))))), (aSt, .inl (cI, 6, .inl sg)), (sA 0, scv (sc4 0)), (sA 1, scv (sc4 1)), (sA 2, scv (sc4 2)), (sA 3, scv (sc4 3))]) hP hD hS hA [3, 4] [0, 1, 2, 5, 6, 7, 8, 9, 10, 11, 12] rfl rfl (by decide) (by decide) [0, 1, 2, 11, 12, 3, 4, 5, 6, 7, 8, 9, 10] rfl (by decide) (va_runV (As := [.int a1, .int a2]) (rest := []) ⟨hx, hb, hml, hown, hts⟩ (c_M_rowOf l dC dI cI cZ cS aM aMw mm a1 a2 r_3 hr_3 H.size) (cwV 2 hts gX4_deleteKey_X2_rowOf rfl rfl rfl (by decide +kernel) ⟨Nat.le_of_ble_eq_true rfl, Nat.le_of_ble_eq_true rfl⟩) (mk_preV (w0 := w_M cI cZ cS aM aMw mm) (ci := 2) (q0 := 0) hN hK (mk_pick hP [3, 4] rfl) (hD.sub [3, 4] (by decide) rfl) rfl rfl rfl) rfl rfl hl.1 rfl (lv_room (Nat.le_of_ble_eq_true rfl)) dX4_deleteKey_18 ⟨Nat.zero_le _, Nat.zero_le _⟩) (fun H locs hP hD hS => ?_)
    refine lv_istore (lv' := [(4, .int r_3), (3, .int r_1), (0, .ref aX), (1, .int a1), (2, .int a2)]) hx hb dX4_deleteKey_21 hl (by decide) rfl (fun ls hl => ?_)
    refine lv_iload hx hb dX4_deleteKey_23 (lv_at hl 0 rfl) ?_
    refine lv_iconst (v := (-1)) hx hb dX4_deleteKey_25 (by decide) ?_
    refine lv_icmp_ne (tgt := 32) hx hb dX4_deleteKey_26 (by decide) (fun c_4 => ?_) (fun c_4 => ?_)
    · replace h := (kp_if h).2 c_4
      refine lv_aload_n hx hb dX4_deleteKey_32 rfl (lv_at hl 2 rfl) ?_
      refine va_get (D := (dC, dI)) (ci := 4) (v := .ref aM) (C := RX4) (T := TX4) (N := 6) hx hb hts iw_X_deleteKey_X hown hK hP 0 rfl rfl 1 (by decide) (hts _ mm_X_deleteKey_0) (fun _ h9 => h9) rfl dX4_deleteKey_33 ?_
      refine lv_iload_n hx hb dX4_deleteKey_36 rfl (lv_at hl 3 rfl) ?_
      refine lv_iload hx hb dX4_deleteKey_37 (lv_at hl 0 rfl) ?_
      obtain ⟨r_5, hr_5, h⟩ := kp_bind h
      refine mk_contV (w := w_X cI cZ cS aX aD aDw aM aMw aJ aJh aSa aSt sA tx pw wl wn dk mm hd sg sc4) (w0 := w_M cI cZ cS aM aMw mm) (wr := [(aX, .inr (4, [.ref aD, .ref aM, .ref aJ, .ref aSa, .ref aSt, .int tx])), (aD, .inr (0, [.ref aDw, .int pw, .int wl, .int wn])), (aDw, .inl (cI, 528, .inl dk)), (aJ, .inr (1, [.ref aD, .ref aM, .ref aJh])), (aJh, .inl (cI, 16, .inl hd)), (aSa, .inl (cS, 4, .inr (.inr (.inr (.inr (fun j => some (sA j))))))), (aSt, .inl (cI, 6, .inl sg)), (sA 0, scv (sc4 0)), (sA 1, scv (sc4 1)), (sA 2, scv (sc4 2)), (sA 3, scv (sc4 3))]) (w2 := w_X cI cZ cS aX aD aDw aM aMw aJ aJh aSa aSt sA tx pw wl wn dk r_5 hd sg sc4) hP hD hS hA [3, 4] [0, 1, 2, 5, 6, 7, 8, 9, 10, 11, 12] rfl rfl (by decide) (by decide) [0, 1, 2, 11, 12, 3, 4, 5, 6, 7, 8, 9, 10] rfl (by decide) (va_runV (As := [.int a1, .int r_3]) (rest := []) ⟨hx, hb, hml, hown, hts⟩ (c_M_removeRow l dC dI cI cZ cS aM aMw mm a1 r_3 r_5 hr_5 H.size) (cwV 2 hts gX4_deleteKey_X2_removeRow rfl rfl rfl (by decide +kernel) ⟨Nat.le_of_ble_eq_true rfl, Nat.le_of_ble_eq_true rfl⟩) (mk_preV (w0 := w_M cI cZ cS aM aMw mm) (ci := 2) (q0 := 0) hN hK (mk_pick hP [3, 4] rfl) (hD.sub [3, 4] (by decide) rfl) rfl rfl rfl) rfl rfl hl.1 rfl (lv_room (Nat.le_of_ble_eq_true rfl)) dX4_deleteKey_39 ⟨Nat.zero_le _, Nat.zero_le _⟩) (fun H locs hP hD hS => ?_)
      refine lv_aload_n hx hb dX4_deleteKey_42 rfl (lv_at hl 2 rfl) ?_
      refine lv_iload_n hx hb dX4_deleteKey_43 rfl (lv_at hl 3 rfl) ?_
      obtain ⟨r_6, hr_6, h⟩ := kp_bind h
      refine mk_contV (w := w_X cI cZ cS aX aD aDw aM aMw aJ aJh aSa aSt sA tx pw wl wn dk r_5 hd sg sc4) (w0 := w_X cI cZ cS aX aD aDw aM aMw aJ aJh aSa aSt sA tx pw wl wn dk r_5 hd sg sc4) (wr := []) (w2 := w_X cI cZ cS aX aD aDw aM aMw aJ aJh aSa aSt sA tx pw wl wn dk r_5 hd sg r_6) hP hD hS hA [0, 1, 2, 3, 4, 5, 6, 7, 8, 9, 10, 11, 12] [] rfl rfl (by decide) (by decide) [0, 1, 2, 3, 4, 5, 6, 7, 8, 9, 10, 11, 12] rfl (by decide) (va_runV (As := [.int a1]) (rest := []) ⟨hx, hb, hml, hown, hts⟩ (c_X_voidScansOf l dC dI cI cZ cS aX aD aDw aM aMw aJ aJh aSa aSt sA tx pw wl wn dk r_5 hd sg sc4 a1 r_6 hr_6 H.size) (cwV 1 hts gX4_deleteKey_X4_voidScansOf rfl rfl rfl (by decide +kernel) ⟨Nat.le_of_ble_eq_true rfl, Nat.le_of_ble_eq_true rfl⟩) (mk_preV (w0 := w_X cI cZ cS aX aD aDw aM aMw aJ aJh aSa aSt sA tx pw wl wn dk r_5 hd sg sc4) (ci := 4) (q0 := 0) hN hK (mk_pick hP [0, 1, 2, 3, 4, 5, 6, 7, 8, 9, 10, 11, 12] rfl) (hD.sub [0, 1, 2, 3, 4, 5, 6, 7, 8, 9, 10, 11, 12] (by decide) rfl) rfl rfl rfl) rfl rfl hl.1 rfl (lv_room (Nat.le_of_ble_eq_true rfl)) dX4_deleteKey_44 ⟨Nat.zero_le _, Nat.zero_le _⟩) (fun H locs hP hD hS => ?_)
      refine lv_iconst (v := 0) hx hb dX4_deleteKey_47 (by decide) ?_
      cases h
      exact mk_iret E hK hP hD hS dX4_deleteKey_48
    · replace h := (kp_if h).1 c_4
      refine lv_bipush (v := (-6)) hx hb dX4_deleteKey_29 (by decide) ?_
      cases h
      exact mk_iret E hK hP hD hS dX4_deleteKey_31
  · replace h := (kp_if h).2 c_2
    refine lv_iload_n hx hb dX4_deleteKey_10 rfl (lv_at hl 0 rfl) ?_
    cases h
    exact mk_iret E hK hP hD hS dX4_deleteKey_11

/- X.updateCol(IIII)I -/
set_option maxRecDepth 20000 in
theorem mm_X_updateCol_0 : Cond.fieldLink RX4 19 "JournaledTables" "memory" "LJournaledTables$Memory;" ∈ wsX4_updateCol := by decide +kernel
set_option maxRecDepth 20000 in
theorem iw_X_updateCol_X : ∀ w ∈ u_ws RX4 TX4 6, w ∈ wsX4_updateCol := by decide +kernel
set_option maxHeartbeats 4000000 in
set_option maxRecDepth 100000 in
theorem b_X_updateCol_32 {p : Program} {l : Launch} {e : Env} {s : State} {m : MethodId} {below : List Frame} {meth : Method} {c : Code} {A : Nat → Prop} {dC : Nat → ClassId} {dI : Nat → Nat → Nat} {cI cZ cS : ClassId} {aX aD aDw aM aMw aJ aJh aSa aSt : Nat} {sA : Nat → Nat} {tx : Int32} {pw : Int32} {wl : Int32} {wn : Int32} {dk : Nat → Int32} {hd : Nat → Int32} {sg : Nat → Int32} {a1 : Int32} {a2 : Int32} {a3 : Int32} {a4 : Int32} (E : mk_En p s m meth c cX4_updateCol 7 (some .int) ([.ref aX, .int a1, .int a2, .int a3, .int a4] : List Value).toArray wsX4_updateCol yX4_updateCol.cls) (hA : ∀ q : Nat, s.heap.size ≤ q → A q) (hK : va_K (dC, dI) vwCl (tyz cI cZ cS) s) (R : Int32 × (Nat → Int32) × (Nat → SCT)) (mm : Nat → Int32) (sc4 : Nat → SCT) (h : p_X_updateCol_32 tx pw mm sc4 = some R) : ∀ (H : Heap) (locs : List Loc) (ls : Array Slot), va_P (dC, dI) vwCl (w_X cI cZ cS aX aD aDw aM aMw aJ aJh aSa aSt sA tx pw wl wn dk mm hd sg sc4) H → va_D A (w_X cI cZ cS aX aD aDw aM aMw aJ aJh aSa aSt sA tx pw wl wn dk mm hd sg sc4) → va_S A s.heap H locs → lv_has ls 7 [] → W p l e ({ frames := 5, cells := 0, slots := 0, locals := 120 } : Room) s m ([.ref aX, .int a1, .int a2, .int a3, .int a4] : List Value).toArray below meth c H locs 0 0 (MQ below (mk_QI (dC, dI) vwCl (tyz cI cZ cS) A (fun u : (Nat → Int32) × (Nat → SCT) => w_X cI cZ cS aX aD aDw aM aMw aJ aJh aSa aSt sA tx pw wl wn dk u.1 hd sg u.2) R) ([.ref aX, .int a1, .int a2, .int a3, .int a4] : List Value).toArray s 0 0 A) (F0 m 32 ls []) := by
  intro H locs ls hP hD hS hl
  obtain ⟨⟨hx, hb, hml, hown, hts⟩, hrt, hlk, hN⟩ := id E
  have hown : s.vm.findClass RX4 = some m.cls := hown
  unfold p_X_updateCol_32 at h
  refine lv_bipush (v := (-4)) hx hb dX4_updateCol_32 (by decide) ?_
  cases h
  exact mk_iret E hK hP hD hS dX4_updateCol_34
set_option maxHeartbeats 4000000 in
set_option maxRecDepth 100000 in
theorem c_X_updateCol (l : Launch) (dC : Nat → ClassId) (dI : Nat → Nat → Nat) (cI cZ cS : ClassId) (aX aD aDw aM aMw aJ aJh aSa aSt : Nat) (sA : Nat → Nat) (tx : Int32) (pw : Int32) (wl : Int32) (wn : Int32) (dk : Nat → Int32) (mm : Nat → Int32) (hd : Nat → Int32) (sg : Nat → Int32) (sc4 : Nat → SCT) (a1 : Int32) (a2 : Int32) (a3 : Int32) (a4 : Int32) : CtI l yX4_updateCol wsX4_updateCol ({ frames := 5, cells := 0, slots := 0, locals := 120 }) (dC, dI) vwCl (tyz cI cZ cS) [.ref aX, .int a1, .int a2, .int a3, .int a4] (w_X cI cZ cS aX aD aDw aM aMw aJ aJh aSa aSt sA tx pw wl wn dk mm hd sg sc4) (fun u : (Nat → Int32) × (Nat → SCT) => w_X cI cZ cS aX aD aDw aM aMw aJ aJh aSa aSt sA tx pw wl wn dk u.1 hd sg u.2) (p_X_updateCol tx pw mm sc4 a1 a2 a3 a4) := by
  intro R h
  refine mk_enter (Qc := (fun A => mk_QI (dC, dI) vwCl (tyz cI cZ cS) A (fun u : (Nat → Int32) × (Nat → SCT) => w_X cI cZ cS aX aD aDw aM aMw aJ aJh aSa aSt sA tx pw wl wn dk u.1 hd sg u.2) R)) (by decide) rfl (Nat.le_of_ble_eq_true rfl) ?_
  intro p e s m below meth c A E hA hK H locs ls hP hD hS hl
  obtain ⟨⟨hx, hb, hml, hown, hts⟩, hrt, hlk, hN⟩ := id E
  have hown : s.vm.findClass RX4 = some m.cls := hown
  have hl : lv_has ls 7 [(0, .ref aX), (1, .int a1), (2, .int a2), (3, .int a3), (4, .int a4)] := hl
  unfold p_X_updateCol at h
  refine lv_aload_n hx hb dX4_updateCol_0 rfl (lv_at hl 0 rfl) ?_
  refine lv_iload_n hx hb dX4_updateCol_1 rfl (lv_at hl 1 rfl) ?_
  obtain ⟨r_1, hr_1, h⟩ := kp_bind h
  refine mk_contR (w := w_X cI cZ cS aX aD aDw aM aMw aJ aJh aSa aSt sA tx pw wl wn dk mm hd sg sc4) (w0 := w_X cI cZ cS aX aD aDw aM aMw aJ aJh aSa aSt sA tx pw wl wn dk mm hd sg sc4) (wr := []) hP hD hS hA [0, 1, 2, 3, 4, 5, 6, 7, 8, 9, 10, 11, 12] [] rfl rfl (by decide) (by decide) [0, 1, 2, 3, 4, 5, 6, 7, 8, 9, 10, 11, 12] rfl (by decide) (va_runV (As := [.int a1]) (rest := []) ⟨hx, hb, hml, hown, hts⟩ (c_X_refusalOfChange l dC dI cI cZ cS aX aD aDw aM aMw aJ aJh aSa aSt sA tx pw wl wn dk mm hd sg sc4 a1 r_1 hr_1 H.size) (cwV 1 hts gX4_updateCol_X4_refusalOfChange rfl rfl rfl (by decide +kernel) ⟨Nat.le_of_ble_eq_true rfl, Nat.le_of_ble_eq_true rfl⟩) (mk_preV (w0 := w_X cI cZ cS aX aD aDw aM aMw aJ aJh aSa aSt sA tx pw wl wn dk mm hd sg sc4) (ci := 4) (q0 := 0) hN hK (mk_pick hP [0, 1, 2, 3, 4, 5, 6, 7, 8, 9, 10, 11, 12] rfl) (hD.sub [0, 1, 2, 3, 4, 5, 6, 7, 8, 9, 10, 11, 12] (by decide) rfl) rfl rfl rfl) rfl rfl hl.1 rfl (lv_room (Nat.le_of_ble_eq_true rfl)) dX4_updateCol_2 ⟨Nat.zero_le _, Nat.zero_le _⟩) (fun H locs hP hD hS => ?_)
  refine lv_istore (lv' := [(5, .int r_1), (0, .ref aX), (1, .int a1), (2, .int a2), (3, .int a3), (4, .int a4)]) hx hb dX4_updateCol_5 hl (by decide) rfl (fun ls hl => ?_)
  refine lv_iload hx hb dX4_updateCol_7 (lv_at hl 0 rfl) ?_
  refine lv_if_eq (tgt := 15) hx hb dX4_updateCol_9 (by decide) (fun c_2 => ?_) (fun c_2 => ?_)
  · replace h := (kp_if h).1 c_2
    refine lv_iload_n hx hb dX4_updateCol_15 rfl (lv_at hl 4 rfl) ?_
    refine lv_iconst (v := 1) hx hb dX4_updateCol_16 (by decide) ?_
    refine lv_icmp_lt (tgt := 32) hx hb dX4_updateCol_17 (by decide) (fun c_3 => ?_) (fun c_3 => ?_)
    · replace h := (kp_if h).1 c_3
      exact b_X_updateCol_32 E hA hK R mm sc4 h H locs ls hP hD hS (lv_sub hl [] rfl)
    · replace h := (kp_if h).2 c_3
      refine lv_iload_n hx hb dX4_updateCol_20 rfl (lv_at hl 4 rfl) ?_
      refine lv_aload_n hx hb dX4_updateCol_21 rfl (lv_at hl 1 rfl) ?_
      refine va_get (D := (dC, dI)) (ci := 4) (v := .ref aM) (C := RX4) (T := TX4) (N := 6) hx hb hts iw_X_updateCol_X hown hK hP 0 rfl rfl 1 (by decide) (hts _ mm_X_updateCol_0) (fun _ h9 => h9) rfl dX4_updateCol_22 ?_
      refine lv_iload_n hx hb dX4_updateCol_25 rfl (lv_at hl 2 rfl) ?_
      obtain ⟨r_4, hr_4, h⟩ := kp_bind h
      refine mk_contR (w := w_X cI cZ cS aX aD aDw aM aMw aJ aJh aSa aSt sA tx pw wl wn dk mm hd sg sc4) (w0 := w_M cI cZ cS aM aMw mm) (wr := [(aX, .inr (4, [.ref aD, .ref aM, .ref aJ, .ref aSa, .ref aSt, .int tx])), (aD, .inr (0, [.ref aDw, .int pw, .int wl, .int wn])), (aDw, .inl (cI, 528, .inl dk)), (aJ, .inr (1, [.ref aD, .ref aM, .ref aJh])), (aJh, .inl (cI, 16, .inl hd)), (aSa, .inl (cS, 4, .inr (.inr (.inr (.inr (fun j => some (sA j))))))), (aSt, .inl (cI, 6, .inl sg)), (sA 0, scv (sc4 0)), (sA 1, scv (sc4 1)), (sA 2, scv (sc4 2)), (sA 3, scv (sc4 3))]) hP hD hS hA [3, 4] [0, 1, 2, 5, 6, 7, 8, 9, 10, 11, 12] rfl rfl (by decide) (by decide) [0, 1, 2, 11, 12, 3, 4, 5, 6, 7, 8, 9, 10] rfl (by decide) (va_runV (As := [.int a1]) (rest := [.int a3]) ⟨hx, hb, hml, hown, hts⟩ (c_M_width l dC dI cI cZ cS aM aMw mm a1 r_4 hr_4 H.size) (cwV 1 hts gX4_updateCol_X2_width rfl rfl rfl (by decide +kernel) ⟨Nat.le_of_ble_eq_true rfl, Nat.le_of_ble_eq_true rfl⟩) (mk_preV (w0 := w_M cI cZ cS aM aMw mm) (ci := 2) (q0 := 0) hN hK (mk_pick hP [3, 4] rfl) (hD.sub [3, 4] (by decide) rfl) rfl rfl rfl) rfl rfl hl.1 rfl (lv_room (Nat.le_of_ble_eq_true rfl)) dX4_updateCol_26 ⟨Nat.zero_le _, Nat.zero_le _⟩) (fun H locs hP hD hS => ?_)
      refine lv_icmp_lt (tgt := 35) hx hb dX4_updateCol_29 (by decide) (fun c_5 => ?_) (fun c_5 => ?_)
      · replace h := (kp_if h).1 c_5
        refine lv_aload_n hx hb dX4_updateCol_35 rfl (lv_at hl 1 rfl) ?_
        refine va_get (D := (dC, dI)) (ci := 4) (v := .ref aM) (C := RX4) (T := TX4) (N := 6) hx hb hts iw_X_updateCol_X hown hK hP 0 rfl rfl 1 (by decide) (hts _ mm_X_updateCol_0) (fun _ h9 => h9) rfl dX4_updateCol_36 ?_
        refine lv_iload_n hx hb dX4_updateCol_39 rfl (lv_at hl 2 rfl) ?_
        refine lv_iload_n hx hb dX4_updateCol_40 rfl (lv_at hl 3 rfl) ?_
        obtain ⟨r_6, hr_6, h⟩ := kp_bind h
        refine mk_contR (w := w_X cI cZ cS aX aD aDw aM aMw aJ aJh aSa aSt sA tx pw wl wn dk mm hd sg sc4) (w0 := w_M cI cZ cS aM aMw mm) (wr := [(aX, .inr (4, [.ref aD, .ref aM, .ref aJ, .ref aSa, .ref aSt, .int tx])), (aD, .inr (0, [.ref aDw, .int pw, .int wl, .int wn])), (aDw, .inl (cI, 528, .inl dk)), (aJ, .inr (1, [.ref aD, .ref aM, .ref aJh])), (aJh, .inl (cI, 16, .inl hd)), (aSa, .inl (cS, 4, .inr (.inr (.inr (.inr (fun j => some (sA j))))))), (aSt, .inl (cI, 6, .inl sg)), (sA 0, scv (sc4 0)), (sA 1, scv (sc4 1)), (sA 2, scv (sc4 2)), (sA 3, scv (sc4 3))]) hP hD hS hA [3, 4] [0, 1, 2, 5, 6, 7, 8, 9, 10, 11, 12] rfl rfl (by decide) (by decide) [0, 1, 2, 11, 12, 3, 4, 5, 6, 7, 8, 9, 10] rfl (by decide) (va_runV (As := [.int a1, .int a2]) (rest := []) ⟨hx, hb, hml, hown, hts⟩ (c_M_rowOf l dC dI cI cZ cS aM aMw mm a1 a2 r_6 hr_6 H.size) (cwV 2 hts gX4_updateCol_X2_rowOf rfl rfl rfl (by decide +kernel) ⟨Nat.le_of_ble_eq_true rfl, Nat.le_of_ble_eq_true rfl⟩) (mk_preV (w0 := w_M cI cZ cS aM aMw mm) (ci := 2) (q0 := 0) hN hK (mk_pick hP [3, 4] rfl) (hD.sub [3, 4] (by decide) rfl) rfl rfl rfl) rfl rfl hl.1 rfl (lv_room (Nat.le_of_ble_eq_true rfl)) dX4_updateCol_41 ⟨Nat.zero_le _, Nat.zero_le _⟩) (fun H locs hP hD hS => ?_)
        refine lv_istore (lv' := [(6, .int r_6), (5, .int r_1), (0, .ref aX), (1, .int a1), (2, .int a2), (3, .int a3), (4, .int a4)]) hx hb dX4_updateCol_44 hl (by decide) rfl (fun ls hl => ?_)
        refine lv_iload hx hb dX4_updateCol_46 (lv_at hl 0 rfl) ?_
        refine lv_iconst (v := (-1)) hx hb dX4_updateCol_48 (by decide) ?_
        refine lv_icmp_ne (tgt := 55) hx hb dX4_updateCol_49 (by decide) (fun c_7 => ?_) (fun c_7 => ?_)
        · replace h := (kp_if h).2 c_7
          refine lv_aload_n hx hb dX4_updateCol_55 rfl (lv_at hl 2 rfl) ?_
          refine va_get (D := (dC, dI)) (ci := 4) (v := .ref aM) (C := RX4) (T := TX4) (N := 6) hx hb hts iw_X_updateCol_X hown hK hP 0 rfl rfl 1 (by decide) (hts _ mm_X_updateCol_0) (fun _ h9 => h9) rfl dX4_updateCol_56 ?_
          refine lv_iload hx hb dX4_updateCol_59 (lv_at hl 0 rfl) ?_
          refine lv_iload_n hx hb dX4_updateCol_61 rfl (lv_at hl 5 rfl) ?_
          refine lv_iadd hx hb dX4_updateCol_62 ?_
          refine lv_iload hx hb dX4_updateCol_63 (lv_at hl 6 rfl) ?_
          obtain ⟨r_8, hr_8, h⟩ := kp_bind h
          refine mk_contV (w := w_X cI cZ cS aX aD aDw aM aMw aJ aJh aSa aSt sA tx pw wl wn dk mm hd sg sc4) (w0 := w_M cI cZ cS aM aMw mm) (wr := [(aX, .inr (4, [.ref aD, .ref aM, .ref aJ, .ref aSa, .ref aSt, .int tx])), (aD, .inr (0, [.ref aDw, .int pw, .int wl, .int wn])), (aDw, .inl (cI, 528, .inl dk)), (aJ, .inr (1, [.ref aD, .ref aM, .ref aJh])), (aJh, .inl (cI, 16, .inl hd)), (aSa, .inl (cS, 4, .inr (.inr (.inr (.inr (fun j => some (sA j))))))), (aSt, .inl (cI, 6, .inl sg)), (sA 0, scv (sc4 0)), (sA 1, scv (sc4 1)), (sA 2, scv (sc4 2)), (sA 3, scv (sc4 3))]) (w2 := w_X cI cZ cS aX aD aDw aM aMw aJ aJh aSa aSt sA tx pw wl wn dk r_8 hd sg sc4) hP hD hS hA [3, 4] [0, 1, 2, 5, 6, 7, 8, 9, 10, 11, 12] rfl rfl (by decide) (by decide) [0, 1, 2, 11, 12, 3, 4, 5, 6, 7, 8, 9, 10] rfl (by decide) (va_runV (As := [.int (r_6 + a3), .int a4]) (rest := []) ⟨hx, hb, hml, hown, hts⟩ (c_M_setWord l dC dI cI cZ cS aM aMw mm (r_6 + a3) a4 r_8 hr_8 H.size) (cwV 2 hts gX4_updateCol_X2_setWord rfl rfl rfl (by decide +kernel) ⟨Nat.le_of_ble_eq_true rfl, Nat.le_of_ble_eq_true rfl⟩) (mk_preV (w0 := w_M cI cZ cS aM aMw mm) (ci := 2) (q0 := 0) hN hK (mk_pick hP [3, 4] rfl) (hD.sub [3, 4] (by decide) rfl) rfl rfl rfl) rfl rfl hl.1 rfl (lv_room (Nat.le_of_ble_eq_true rfl)) dX4_updateCol_65 ⟨Nat.zero_le _, Nat.zero_le _⟩) (fun H locs hP hD hS => ?_)
          refine lv_aload_n hx hb dX4_updateCol_68 rfl (lv_at hl 2 rfl) ?_
          refine lv_iload_n hx hb dX4_updateCol_69 rfl (lv_at hl 3 rfl) ?_
          obtain ⟨r_9, hr_9, h⟩ := kp_bind h
          refine mk_contV (w := w_X cI cZ cS aX aD aDw aM aMw aJ aJh aSa aSt sA tx pw wl wn dk r_8 hd sg sc4) (w0 := w_X cI cZ cS aX aD aDw aM aMw aJ aJh aSa aSt sA tx pw wl wn dk r_8 hd sg sc4) (wr := []) (w2 := w_X cI cZ cS aX aD aDw aM aMw aJ aJh aSa aSt sA tx pw wl wn dk r_8 hd sg r_9) hP hD hS hA [0, 1, 2, 3, 4, 5, 6, 7, 8, 9, 10, 11, 12] [] rfl rfl (by decide) (by decide) [0, 1, 2, 3, 4, 5, 6, 7, 8, 9, 10, 11, 12] rfl (by decide) (va_runV (As := [.int a1]) (rest := []) ⟨hx, hb, hml, hown, hts⟩ (c_X_voidScansOf l dC dI cI cZ cS aX aD aDw aM aMw aJ aJh aSa aSt sA tx pw wl wn dk r_8 hd sg sc4 a1 r_9 hr_9 H.size) (cwV 1 hts gX4_updateCol_X4_voidScansOf rfl rfl rfl (by decide +kernel) ⟨Nat.le_of_ble_eq_true rfl, Nat.le_of_ble_eq_true rfl⟩) (mk_preV (w0 := w_X cI cZ cS aX aD aDw aM aMw aJ aJh aSa aSt sA tx pw wl wn dk r_8 hd sg sc4) (ci := 4) (q0 := 0) hN hK (mk_pick hP [0, 1, 2, 3, 4, 5, 6, 7, 8, 9, 10, 11, 12] rfl) (hD.sub [0, 1, 2, 3, 4, 5, 6, 7, 8, 9, 10, 11, 12] (by decide) rfl) rfl rfl rfl) rfl rfl hl.1 rfl (lv_room (Nat.le_of_ble_eq_true rfl)) dX4_updateCol_70 ⟨Nat.zero_le _, Nat.zero_le _⟩) (fun H locs hP hD hS => ?_)
          refine lv_iconst (v := 0) hx hb dX4_updateCol_73 (by decide) ?_
          cases h
          exact mk_iret E hK hP hD hS dX4_updateCol_74
        · replace h := (kp_if h).1 c_7
          refine lv_bipush (v := (-6)) hx hb dX4_updateCol_52 (by decide) ?_
          cases h
          exact mk_iret E hK hP hD hS dX4_updateCol_54
      · replace h := (kp_if h).2 c_5
        exact b_X_updateCol_32 E hA hK R mm sc4 h H locs ls hP hD hS (lv_sub hl [] rfl)
  · replace h := (kp_if h).2 c_2
    refine lv_iload hx hb dX4_updateCol_12 (lv_at hl 0 rfl) ?_
    cases h
    exact mk_iret E hK hP hD hS dX4_updateCol_14

/- X.lookup(III)I -/
set_option maxRecDepth 20000 in
theorem mm_X_lookup_0 : Cond.fieldLink RX4 10 "JournaledTables" "disk" "LJournaledTables$Disk;" ∈ wsX4_lookup := by decide +kernel
set_option maxRecDepth 20000 in
theorem iw_X_lookup_X : ∀ w ∈ u_ws RX4 TX4 6, w ∈ wsX4_lookup := by decide +kernel
set_option maxRecDepth 20000 in
theorem mm_X_lookup_2 : Cond.fieldLink RX4 19 "JournaledTables" "memory" "LJournaledTables$Memory;" ∈ wsX4_lookup := by decide +kernel
set_option maxHeartbeats 4000000 in
set_option maxRecDepth 100000 in
theorem b_X_lookup_56 {p : Program} {l : Launch} {e : Env} {s : State} {m : MethodId} {below : List Frame} {meth : Method} {c : Code} {A : Nat → Prop} {dC : Nat → ClassId} {dI : Nat → Nat → Nat} {cI cZ cS : ClassId} {aX aD aDw aM aMw aJ aJh aSa aSt : Nat} {sA : Nat → Nat} {tx : Int32} {pw : Int32} {wl : Int32} {wn : Int32} {dk : Nat → Int32} {mm : Nat → Int32} {hd : Nat → Int32} {sg : Nat → Int32} {sc4 : Nat → SCT} {a1 : Int32} {a2 : Int32} {a3 : Int32} (E : mk_En p s m meth c cX4_lookup 5 (some .int) ([.ref aX, .int a1, .int a2, .int a3] : List Value).toArray wsX4_lookup yX4_lookup.cls) (hA : ∀ q : Nat, s.heap.size ≤ q → A q) (hK : va_K (dC, dI) vwCl (tyz cI cZ cS) s) (R : Int32) (z0 : Int32) (h : p_X_lookup_56 pw mm z0 = some R) : ∀ (H : Heap) (locs : List Loc) (ls : Array Slot), va_P (dC, dI) vwCl (w_X cI cZ cS aX aD aDw aM aMw aJ aJh aSa aSt sA tx pw wl wn dk mm hd sg sc4) H → va_D A (w_X cI cZ cS aX aD aDw aM aMw aJ aJh aSa aSt sA tx pw wl wn dk mm hd sg sc4) → va_S A s.heap H locs → lv_has ls 5 [] → W p l e ({ frames := 5, cells := 0, slots := 0, locals := 120 } : Room) s m ([.ref aX, .int a1, .int a2, .int a3] : List Value).toArray below meth c H locs 0 0 (MQ below (mk_QR (dC, dI) vwCl (tyz cI cZ cS) A (w_X cI cZ cS aX aD aDw aM aMw aJ aJh aSa aSt sA tx pw wl wn dk mm hd sg sc4) R) ([.ref aX, .int a1, .int a2, .int a3] : List Value).toArray s 0 0 A) (F0 m 56 ls [.int z0]) := by
  intro H locs ls hP hD hS hl
  obtain ⟨⟨hx, hb, hml, hown, hts⟩, hrt, hlk, hN⟩ := id E
  have hown : s.vm.findClass RX4 = some m.cls := hown
  unfold p_X_lookup_56 at h
  cases h
  exact mk_iretR E hK hP hD hS dX4_lookup_56
set_option maxHeartbeats 4000000 in
set_option maxRecDepth 100000 in
theorem b_X_lookup_22 {p : Program} {l : Launch} {e : Env} {s : State} {m : MethodId} {below : List Frame} {meth : Method} {c : Code} {A : Nat → Prop} {dC : Nat → ClassId} {dI : Nat → Nat → Nat} {cI cZ cS : ClassId} {aX aD aDw aM aMw aJ aJh aSa aSt : Nat} {sA : Nat → Nat} {tx : Int32} {pw : Int32} {wl : Int32} {wn : Int32} {dk : Nat → Int32} {mm : Nat → Int32} {hd : Nat → Int32} {sg : Nat → Int32} {sc4 : Nat → SCT} {a1 : Int32} {a2 : Int32} {a3 : Int32} (E : mk_En p s m meth c cX4_lookup 5 (some .int) ([.ref aX, .int a1, .int a2, .int a3] : List Value).toArray wsX4_lookup yX4_lookup.cls) (hA : ∀ q : Nat, s.heap.size ≤ q → A q) (hK : va_K (dC, dI) vwCl (tyz cI cZ cS) s) (R : Int32) (h : p_X_lookup_22 pw mm = some R) : ∀ (H : Heap) (locs : List Loc) (ls : Array Slot), va_P (dC, dI) vwCl (w_X cI cZ cS aX aD aDw aM aMw aJ aJh aSa aSt sA tx pw wl wn dk mm hd sg sc4) H → va_D A (w_X cI cZ cS aX aD aDw aM aMw aJ aJh aSa aSt sA tx pw wl wn dk mm hd sg sc4) → va_S A s.heap H locs → lv_has ls 5 [] → W p l e ({ frames := 5, cells := 0, slots := 0, locals := 120 } : Room) s m ([.ref aX, .int a1, .int a2, .int a3] : List Value).toArray below meth c H locs 0 0 (MQ below (mk_QR (dC, dI) vwCl (tyz cI cZ cS) A (w_X cI cZ cS aX aD aDw aM aMw aJ aJh aSa aSt sA tx pw wl wn dk mm hd sg sc4) R) ([.ref aX, .int a1, .int a2, .int a3] : List Value).toArray s 0 0 A) (F0 m 22 ls []) := by
  intro H locs ls hP hD hS hl
  obtain ⟨⟨hx, hb, hml, hown, hts⟩, hrt, hlk, hN⟩ := id E
  have hown : s.vm.findClass RX4 = some m.cls := hown
  unfold p_X_lookup_22 at h
  refine lv_iconst (v := 0) hx hb dX4_lookup_22 (by decide) ?_
  cases h
  exact mk_iretR E hK hP hD hS dX4_lookup_23
set_option maxHeartbeats 4000000 in
set_option maxRecDepth 100000 in
theorem c_X_lookup (l : Launch) (dC : Nat → ClassId) (dI : Nat → Nat → Nat) (cI cZ cS : ClassId) (aX aD aDw aM aMw aJ aJh aSa aSt : Nat) (sA : Nat → Nat) (tx : Int32) (pw : Int32) (wl : Int32) (wn : Int32) (dk : Nat → Int32) (mm : Nat → Int32) (hd : Nat → Int32) (sg : Nat → Int32) (sc4 : Nat → SCT) (a1 : Int32) (a2 : Int32) (a3 : Int32) : CtR l yX4_lookup wsX4_lookup ({ frames := 5, cells := 0, slots := 0, locals := 120 }) (dC, dI) vwCl (tyz cI cZ cS) [.ref aX, .int a1, .int a2, .int a3] (w_X cI cZ cS aX aD aDw aM aMw aJ aJh aSa aSt sA tx pw wl wn dk mm hd sg sc4) (p_X_lookup pw mm a1 a2 a3) := by
  intro R h
  refine mk_enter (Qc := (fun A => mk_QR (dC, dI) vwCl (tyz cI cZ cS) A (w_X cI cZ cS aX aD aDw aM aMw aJ aJh aSa aSt sA tx pw wl wn dk mm hd sg sc4) R)) (by decide) rfl (Nat.le_of_ble_eq_true rfl) ?_
  intro p e s m below meth c A E hA hK H locs ls hP hD hS hl
  obtain ⟨⟨hx, hb, hml, hown, hts⟩, hrt, hlk, hN⟩ := id E
  have hown : s.vm.findClass RX4 = some m.cls := hown
  have hl : lv_has ls 5 [(0, .ref aX), (1, .int a1), (2, .int a2), (3, .int a3)] := hl
  unfold p_X_lookup at h
  refine lv_aload_n hx hb dX4_lookup_0 rfl (lv_at hl 0 rfl) ?_
  refine va_get (D := (dC, dI)) (ci := 4) (v := .ref aD) (C := RX4) (T := TX4) (N := 6) hx hb hts iw_X_lookup_X hown hK hP 0 rfl rfl 0 (by decide) (hts _ mm_X_lookup_0) (fun _ h9 => h9) rfl dX4_lookup_1 ?_
  obtain ⟨r_1, hr_1, h⟩ := kp_bind h
  refine mk_contR (w := w_X cI cZ cS aX aD aDw aM aMw aJ aJh aSa aSt sA tx pw wl wn dk mm hd sg sc4) (w0 := w_D cI cZ cS aD aDw pw wl wn dk) (wr := [(aX, .inr (4, [.ref aD, .ref aM, .ref aJ, .ref aSa, .ref aSt, .int tx])), (aM, .inr (2, [.ref aMw])), (aMw, .inl (cI, 256, .inl mm)), (aJ, .inr (1, [.ref aD, .ref aM, .ref aJh])), (aJh, .inl (cI, 16, .inl hd)), (aSa, .inl (cS, 4, .inr (.inr (.inr (.inr (fun j => some (sA j))))))), (aSt, .inl (cI, 6, .inl sg)), (sA 0, scv (sc4 0)), (sA 1, scv (sc4 1)), (sA 2, scv (sc4 2)), (sA 3, scv (sc4 3))]) hP hD hS hA [1, 2] [0, 3, 4, 5, 6, 7, 8, 9, 10, 11, 12] rfl rfl (by decide) (by decide) [0, 11, 12, 1, 2, 3, 4, 5, 6, 7, 8, 9, 10] rfl (by decide) (va_runV (As := []) (rest := []) ⟨hx, hb, hml, hown, hts⟩ (c_D_powered l dC dI cI cZ cS aD aDw pw wl wn dk r_1 hr_1 H.size) (cwV 0 hts gX4_lookup_X0_powered rfl rfl rfl (by decide +kernel) ⟨Nat.le_of_ble_eq_true rfl, Nat.le_of_ble_eq_true rfl⟩) (mk_preV (w0 := w_D cI cZ cS aD aDw pw wl wn dk) (ci := 0) (q0 := 0) hN hK (mk_pick hP [1, 2] rfl) (hD.sub [1, 2] (by decide) rfl) rfl rfl rfl) rfl rfl hl.1 rfl (lv_room (Nat.le_of_ble_eq_true rfl)) dX4_lookup_4 ⟨Nat.zero_le _, Nat.zero_le _⟩) (fun H locs hP hD hS => ?_)
  refine lv_if_eq (tgt := 22) hx hb dX4_lookup_7 (by decide) (fun c_2 => ?_) (fun c_2 => ?_)
  · replace h := (kp_if h).1 c_2
    exact b_X_lookup_22 E hA hK R h H locs ls hP hD hS (lv_sub hl [] rfl)
  · replace h := (kp_if h).2 c_2
    refine lv_aload_n hx hb dX4_lookup_10 rfl (lv_at hl 0 rfl) ?_
    refine va_get (D := (dC, dI)) (ci := 4) (v := .ref aM) (C := RX4) (T := TX4) (N := 6) hx hb hts iw_X_lookup_X hown hK hP 0 rfl rfl 1 (by decide) (hts _ mm_X_lookup_2) (fun _ h9 => h9) rfl dX4_lookup_11 ?_
    refine lv_iload_n hx hb dX4_lookup_14 rfl (lv_at hl 1 rfl) ?_
    refine lv_iload_n hx hb dX4_lookup_15 rfl (lv_at hl 3 rfl) ?_
    obtain ⟨r_3, hr_3, h⟩ := kp_bind h
    refine mk_contR (w := w_X cI cZ cS aX aD aDw aM aMw aJ aJh aSa aSt sA tx pw wl wn dk mm hd sg sc4) (w0 := w_M cI cZ cS aM aMw mm) (wr := [(aX, .inr (4, [.ref aD, .ref aM, .ref aJ, .ref aSa, .ref aSt, .int tx])), (aD, .inr (0, [.ref aDw, .int pw, .int wl, .int wn])), (aDw, .inl (cI, 528, .inl dk)), (aJ, .inr (1, [.ref aD, .ref aM, .ref aJh])), (aJh, .inl (cI, 16, .inl hd)), (aSa, .inl (cS, 4, .inr (.inr (.inr (.inr (fun j => some (sA j))))))), (aSt, .inl (cI, 6, .inl sg)), (sA 0, scv (sc4 0)), (sA 1, scv (sc4 1)), (sA 2, scv (sc4 2)), (sA 3, scv (sc4 3))]) hP hD hS hA [3, 4] [0, 1, 2, 5, 6, 7, 8, 9, 10, 11, 12] rfl rfl (by decide) (by decide) [0, 1, 2, 11, 12, 3, 4, 5, 6, 7, 8, 9, 10] rfl (by decide) (va_runV (As := [.int a1, .int a3]) (rest := []) ⟨hx, hb, hml, hown, hts⟩ (c_M_hasCol l dC dI cI cZ cS aM aMw mm a1 a3 r_3 hr_3 H.size) (cwV 2 hts gX4_lookup_X2_hasCol rfl rfl rfl (by decide +kernel) ⟨Nat.le_of_ble_eq_true rfl, Nat.le_of_ble_eq_true rfl⟩) (mk_preV (w0 := w_M cI cZ cS aM aMw mm) (ci := 2) (q0 := 0) hN hK (mk_pick hP [3, 4] rfl) (hD.sub [3, 4] (by decide) rfl) rfl rfl rfl) rfl rfl hl.1 rfl (lv_room (Nat.le_of_ble_eq_true rfl)) dX4_lookup_16 ⟨Nat.zero_le _, Nat.zero_le _⟩) (fun H locs hP hD hS => ?_)
    refine lv_if_ne (tgt := 24) hx hb dX4_lookup_19 (by decide) (fun c_4 => ?_) (fun c_4 => ?_)
    · replace h := (kp_if h).2 c_4
      refine lv_aload_n hx hb dX4_lookup_24 rfl (lv_at hl 0 rfl) ?_
      refine va_get (D := (dC, dI)) (ci := 4) (v := .ref aM) (C := RX4) (T := TX4) (N := 6) hx hb hts iw_X_lookup_X hown hK hP 0 rfl rfl 1 (by decide) (hts _ mm_X_lookup_2) (fun _ h9 => h9) rfl dX4_lookup_25 ?_
      refine lv_iload_n hx hb dX4_lookup_28 rfl (lv_at hl 1 rfl) ?_
      refine lv_iload_n hx hb dX4_lookup_29 rfl (lv_at hl 2 rfl) ?_
      obtain ⟨r_5, hr_5, h⟩ := kp_bind h
      refine mk_contR (w := w_X cI cZ cS aX aD aDw aM aMw aJ aJh aSa aSt sA tx pw wl wn dk mm hd sg sc4) (w0 := w_M cI cZ cS aM aMw mm) (wr := [(aX, .inr (4, [.ref aD, .ref aM, .ref aJ, .ref aSa, .ref aSt, .int tx])), (aD, .inr (0, [.ref aDw, .int pw, .int wl, .int wn])), (aDw, .inl (cI, 528, .inl dk)), (aJ, .inr (1, [.ref aD, .ref aM, .ref aJh])), (aJh, .inl (cI, 16, .inl hd)), (aSa, .inl (cS, 4, .inr (.inr (.inr (.inr (fun j => some (sA j))))))), (aSt, .inl (cI, 6, .inl sg)), (sA 0, scv (sc4 0)), (sA 1, scv (sc4 1)), (sA 2, scv (sc4 2)), (sA 3, scv (sc4 3))]) hP hD hS hA [3, 4] [0, 1, 2, 5, 6, 7, 8, 9, 10, 11, 12] rfl rfl (by decide) (by decide) [0, 1, 2, 11, 12, 3, 4, 5, 6, 7, 8, 9, 10] rfl (by decide) (va_runV (As := [.int a1, .int a2]) (rest := []) ⟨hx, hb, hml, hown, hts⟩ (c_M_rowOf l dC dI cI cZ cS aM aMw mm a1 a2 r_5 hr_5 H.size) (cwV 2 hts gX4_lookup_X2_rowOf rfl rfl rfl (by decide +kernel) ⟨Nat.le_of_ble_eq_true rfl, Nat.le_of_ble_eq_true rfl⟩) (mk_preV (w0 := w_M cI cZ cS aM aMw mm) (ci := 2) (q0 := 0) hN hK (mk_pick hP [3, 4] rfl) (hD.sub [3, 4] (by decide) rfl) rfl rfl rfl) rfl rfl hl.1 rfl (lv_room (Nat.le_of_ble_eq_true rfl)) dX4_lookup_30 ⟨Nat.zero_le _, Nat.zero_le _⟩) (fun H locs hP hD hS => ?_)
      refine lv_istore (lv' := [(4, .int r_5), (0, .ref aX), (1, .int a1), (2, .int a2), (3, .int a3)]) hx hb dX4_lookup_33 hl (by decide) rfl (fun ls hl => ?_)
      refine lv_iload hx hb dX4_lookup_35 (lv_at hl 0 rfl) ?_
      refine lv_iconst (v := (-1)) hx hb dX4_lookup_37 (by decide) ?_
      refine lv_icmp_ne (tgt := 45) hx hb dX4_lookup_38 (by decide) (fun c_6 => ?_) (fun c_6 => ?_)
      · replace h := (kp_if h).2 c_6
        refine lv_aload_n hx hb dX4_lookup_45 rfl (lv_at hl 1 rfl) ?_
        refine va_get (D := (dC, dI)) (ci := 4) (v := .ref aM) (C := RX4) (T := TX4) (N := 6) hx hb hts iw_X_lookup_X hown hK hP 0 rfl rfl 1 (by decide) (hts _ mm_X_lookup_2) (fun _ h9 => h9) rfl dX4_lookup_46 ?_
        refine lv_iload hx hb dX4_lookup_49 (lv_at hl 0 rfl) ?_
        refine lv_iload_n hx hb dX4_lookup_51 rfl (lv_at hl 4 rfl) ?_
        refine lv_iadd hx hb dX4_lookup_52 ?_
        obtain ⟨r_7, hr_7, h⟩ := kp_bind h
        refine mk_contR (w := w_X cI cZ cS aX aD aDw aM aMw aJ aJh aSa aSt sA tx pw wl wn dk mm hd sg sc4) (w0 := w_M cI cZ cS aM aMw mm) (wr := [(aX, .inr (4, [.ref aD, .ref aM, .ref aJ, .ref aSa, .ref aSt, .int tx])), (aD, .inr (0, [.ref aDw, .int pw, .int wl, .int wn])), (aDw, .inl (cI, 528, .inl dk)), (aJ, .inr (1, [.ref aD, .ref aM, .ref aJh])), (aJh, .inl (cI, 16, .inl hd)), (aSa, .inl (cS, 4, .inr (.inr (.inr (.inr (fun j => some (sA j))))))), (aSt, .inl (cI, 6, .inl sg)), (sA 0, scv (sc4 0)), (sA 1, scv (sc4 1)), (sA 2, scv (sc4 2)), (sA 3, scv (sc4 3))]) hP hD hS hA [3, 4] [0, 1, 2, 5, 6, 7, 8, 9, 10, 11, 12] rfl rfl (by decide) (by decide) [0, 1, 2, 11, 12, 3, 4, 5, 6, 7, 8, 9, 10] rfl (by decide) (va_runV (As := [.int (r_5 + a3)]) (rest := []) ⟨hx, hb, hml, hown, hts⟩ (c_M_word l dC dI cI cZ cS aM aMw mm (r_5 + a3) r_7 hr_7 H.size) (cwV 1 hts gX4_lookup_X2_word rfl rfl rfl (by decide +kernel) ⟨Nat.le_of_ble_eq_true rfl, Nat.le_of_ble_eq_true rfl⟩) (mk_preV (w0 := w_M cI cZ cS aM aMw mm) (ci := 2) (q0 := 0) hN hK (mk_pick hP [3, 4] rfl) (hD.sub [3, 4] (by decide) rfl) rfl rfl rfl) rfl rfl hl.1 rfl (lv_room (Nat.le_of_ble_eq_true rfl)) dX4_lookup_53 ⟨Nat.zero_le _, Nat.zero_le _⟩) (fun H locs hP hD hS => ?_)
        exact b_X_lookup_56 E hA hK R r_7 h H locs ls hP hD hS (lv_sub hl [] rfl)
      · replace h := (kp_if h).1 c_6
        refine lv_iconst (v := 0) hx hb dX4_lookup_41 (by decide) ?_
        refine lv_goto (tgt := 56) hx hb dX4_lookup_42 (by decide) ?_
        exact b_X_lookup_56 E hA hK R 0 h H locs ls hP hD hS (lv_sub hl [] rfl)
    · replace h := (kp_if h).1 c_4
      exact b_X_lookup_22 E hA hK R h H locs ls hP hD hS (lv_sub hl [] rfl)

/- X.has(II)Z -/
set_option maxRecDepth 20000 in
theorem mm_X_has_0 : Cond.fieldLink RX4 10 "JournaledTables" "disk" "LJournaledTables$Disk;" ∈ wsX4_has := by decide +kernel
set_option maxRecDepth 20000 in
theorem iw_X_has_X : ∀ w ∈ u_ws RX4 TX4 6, w ∈ wsX4_has := by decide +kernel
set_option maxRecDepth 20000 in
theorem mm_X_has_2 : Cond.fieldLink RX4 19 "JournaledTables" "memory" "LJournaledTables$Memory;" ∈ wsX4_has := by decide +kernel
set_option maxHeartbeats 4000000 in
set_option maxRecDepth 100000 in
theorem b_X_has_39 {p : Program} {l : Launch} {e : Env} {s : State} {m : MethodId} {below : List Frame} {meth : Method} {c : Code} {A : Nat → Prop} {dC : Nat → ClassId} {dI : Nat → Nat → Nat} {cI cZ cS : ClassId} {aX aD aDw aM aMw aJ aJh aSa aSt : Nat} {sA : Nat → Nat} {tx : Int32} {pw : Int32} {wl : Int32} {wn : Int32} {dk : Nat → Int32} {mm : Nat → Int32} {hd : Nat → Int32} {sg : Nat → Int32} {sc4 : Nat → SCT} {a1 : Int32} {a2 : Int32} (E : mk_En p s m meth c cX4_has 3 (some .boolean) ([.ref aX, .int a1, .int a2] : List Value).toArray wsX4_has yX4_has.cls) (hA : ∀ q : Nat, s.heap.size ≤ q → A q) (hK : va_K (dC, dI) vwCl (tyz cI cZ cS) s) (R : Int32) (z0 : Int32) (h : p_X_has_39 pw mm z0 = some R) : ∀ (H : Heap) (locs : List Loc) (ls : Array Slot), va_P (dC, dI) vwCl (w_X cI cZ cS aX aD aDw aM aMw aJ aJh aSa aSt sA tx pw wl wn dk mm hd sg sc4) H → va_D A (w_X cI cZ cS aX aD aDw aM aMw aJ aJh aSa aSt sA tx pw wl wn dk mm hd sg sc4) → va_S A s.heap H locs → lv_has ls 3 [] → W p l e ({ frames := 5, cells := 0, slots := 0, locals := 120 } : Room) s m ([.ref aX, .int a1, .int a2] : List Value).toArray below meth c H locs 0 0 (MQ below (mk_QR (dC, dI) vwCl (tyz cI cZ cS) A (w_X cI cZ cS aX aD aDw aM aMw aJ aJh aSa aSt sA tx pw wl wn dk mm hd sg sc4) R) ([.ref aX, .int a1, .int a2] : List Value).toArray s 0 0 A) (F0 m 39 ls [.int z0]) := by
  intro H locs ls hP hD hS hl
  obtain ⟨⟨hx, hb, hml, hown, hts⟩, hrt, hlk, hN⟩ := id E
  have hown : s.vm.findClass RX4 = some m.cls := hown
  unfold p_X_has_39 at h
  obtain ⟨hc_1, h⟩ := kp_in h
  cases h
  exact mk_zretR E hc_1 hK hP hD hS dX4_has_39
set_option maxHeartbeats 4000000 in
set_option maxRecDepth 100000 in
theorem b_X_has_38 {p : Program} {l : Launch} {e : Env} {s : State} {m : MethodId} {below : List Frame} {meth : Method} {c : Code} {A : Nat → Prop} {dC : Nat → ClassId} {dI : Nat → Nat → Nat} {cI cZ cS : ClassId} {aX aD aDw aM aMw aJ aJh aSa aSt : Nat} {sA : Nat → Nat} {tx : Int32} {pw : Int32} {wl : Int32} {wn : Int32} {dk : Nat → Int32} {mm : Nat → Int32} {hd : Nat → Int32} {sg : Nat → Int32} {sc4 : Nat → SCT} {a1 : Int32} {a2 : Int32} (E : mk_En p s m meth c cX4_has 3 (some .boolean) ([.ref aX, .int a1, .int a2] : List Value).toArray wsX4_has yX4_has.cls) (hA : ∀ q : Nat, s.heap.size ≤ q → A q) (hK : va_K (dC, dI) vwCl (tyz cI cZ cS) s) (R : Int32) (h : p_X_has_38 pw mm = some R) : ∀ (H : Heap) (locs : List Loc) (ls : Array Slot), va_P (dC, dI) vwCl (w_X cI cZ cS aX aD aDw aM aMw aJ aJh aSa aSt sA tx pw wl wn dk mm hd sg sc4) H → va_D A (w_X cI cZ cS aX aD aDw aM aMw aJ aJh aSa aSt sA tx pw wl wn dk mm hd sg sc4) → va_S A s.heap H locs → lv_has ls 3 [] → W p l e ({ frames := 5, cells := 0, slots := 0, locals := 120 } : Room) s m ([.ref aX, .int a1, .int a2] : List Value).toArray below meth c H locs 0 0 (MQ below (mk_QR (dC, dI) vwCl (tyz cI cZ cS) A (w_X cI cZ cS aX aD aDw aM aMw aJ aJh aSa aSt sA tx pw wl wn dk mm hd sg sc4) R) ([.ref aX, .int a1, .int a2] : List Value).toArray s 0 0 A) (F0 m 38 ls []) := by
  intro H locs ls hP hD hS hl
  obtain ⟨⟨hx, hb, hml, hown, hts⟩, hrt, hlk, hN⟩ := id E
  have hown : s.vm.findClass RX4 = some m.cls := hown
  unfold p_X_has_38 at h
  refine lv_iconst (v := 0) hx hb dX4_has_38 (by decide) ?_
  exact b_X_has_39 E hA hK R 0 h H locs ls hP hD hS (lv_sub hl [] rfl)
set_option maxHeartbeats 4000000 in
set_option maxRecDepth 100000 in
theorem c_X_has (l : Launch) (dC : Nat → ClassId) (dI : Nat → Nat → Nat) (cI cZ cS : ClassId) (aX aD aDw aM aMw aJ aJh aSa aSt : Nat) (sA : Nat → Nat) (tx : Int32) (pw : Int32) (wl : Int32) (wn : Int32) (dk : Nat → Int32) (mm : Nat → Int32) (hd : Nat → Int32) (sg : Nat → Int32) (sc4 : Nat → SCT) (a1 : Int32) (a2 : Int32) : CtR l yX4_has wsX4_has ({ frames := 5, cells := 0, slots := 0, locals := 120 }) (dC, dI) vwCl (tyz cI cZ cS) [.ref aX, .int a1, .int a2] (w_X cI cZ cS aX aD aDw aM aMw aJ aJh aSa aSt sA tx pw wl wn dk mm hd sg sc4) (p_X_has pw mm a1 a2) := by
  intro R h
  refine mk_enter (Qc := (fun A => mk_QR (dC, dI) vwCl (tyz cI cZ cS) A (w_X cI cZ cS aX aD aDw aM aMw aJ aJh aSa aSt sA tx pw wl wn dk mm hd sg sc4) R)) (by decide) rfl (Nat.le_of_ble_eq_true rfl) ?_
  intro p e s m below meth c A E hA hK H locs ls hP hD hS hl
  obtain ⟨⟨hx, hb, hml, hown, hts⟩, hrt, hlk, hN⟩ := id E
  have hown : s.vm.findClass RX4 = some m.cls := hown
  have hl : lv_has ls 3 [(0, .ref aX), (1, .int a1), (2, .int a2)] := hl
  unfold p_X_has at h
  refine lv_aload_n hx hb dX4_has_0 rfl (lv_at hl 0 rfl) ?_
  refine va_get (D := (dC, dI)) (ci := 4) (v := .ref aD) (C := RX4) (T := TX4) (N := 6) hx hb hts iw_X_has_X hown hK hP 0 rfl rfl 0 (by decide) (hts _ mm_X_has_0) (fun _ h9 => h9) rfl dX4_has_1 ?_
  obtain ⟨r_2, hr_2, h⟩ := kp_bind h
  refine mk_contR (w := w_X cI cZ cS aX aD aDw aM aMw aJ aJh aSa aSt sA tx pw wl wn dk mm hd sg sc4) (w0 := w_D cI cZ cS aD aDw pw wl wn dk) (wr := [(aX, .inr (4, [.ref aD, .ref aM, .ref aJ, .ref aSa, .ref aSt, .int tx])), (aM, .inr (2, [.ref aMw])), (aMw, .inl (cI, 256, .inl mm)), (aJ, .inr (1, [.ref aD, .ref aM, .ref aJh])), (aJh, .inl (cI, 16, .inl hd)), (aSa, .inl (cS, 4, .inr (.inr (.inr (.inr (fun j => some (sA j))))))), (aSt, .inl (cI, 6, .inl sg)), (sA 0, scv (sc4 0)), (sA 1, scv (sc4 1)), (sA 2, scv (sc4 2)), (sA 3, scv (sc4 3))]) hP hD hS hA [1, 2] [0, 3, 4, 5, 6, 7, 8, 9, 10, 11, 12] rfl rfl (by decide) (by decide) [0, 11, 12, 1, 2, 3, 4, 5, 6, 7, 8, 9, 10] rfl (by decide) (va_runV (As := []) (rest := []) ⟨hx, hb, hml, hown, hts⟩ (c_D_powered l dC dI cI cZ cS aD aDw pw wl wn dk r_2 hr_2 H.size) (cwV 0 hts gX4_has_X0_powered rfl rfl rfl (by decide +kernel) ⟨Nat.le_of_ble_eq_true rfl, Nat.le_of_ble_eq_true rfl⟩) (mk_preV (w0 := w_D cI cZ cS aD aDw pw wl wn dk) (ci := 0) (q0 := 0) hN hK (mk_pick hP [1, 2] rfl) (hD.sub [1, 2] (by decide) rfl) rfl rfl rfl) rfl rfl hl.1 rfl (lv_room (Nat.le_of_ble_eq_true rfl)) dX4_has_4 ⟨Nat.zero_le _, Nat.zero_le _⟩) (fun H locs hP hD hS => ?_)
  refine lv_if_eq (tgt := 38) hx hb dX4_has_7 (by decide) (fun c_3 => ?_) (fun c_3 => ?_)
  · replace h := (kp_if h).1 c_3
    exact b_X_has_38 E hA hK R h H locs ls hP hD hS (lv_sub hl [] rfl)
  · replace h := (kp_if h).2 c_3
    refine lv_aload_n hx hb dX4_has_10 rfl (lv_at hl 0 rfl) ?_
    refine va_get (D := (dC, dI)) (ci := 4) (v := .ref aM) (C := RX4) (T := TX4) (N := 6) hx hb hts iw_X_has_X hown hK hP 0 rfl rfl 1 (by decide) (hts _ mm_X_has_2) (fun _ h9 => h9) rfl dX4_has_11 ?_
    refine lv_iload_n hx hb dX4_has_14 rfl (lv_at hl 1 rfl) ?_
    obtain ⟨r_4, hr_4, h⟩ := kp_bind h
    refine mk_contR (w := w_X cI cZ cS aX aD aDw aM aMw aJ aJh aSa aSt sA tx pw wl wn dk mm hd sg sc4) (w0 := w_M cI cZ cS aM aMw mm) (wr := [(aX, .inr (4, [.ref aD, .ref aM, .ref aJ, .ref aSa, .ref aSt, .int tx])), (aD, .inr (0, [.ref aDw, .int pw, .int wl, .int wn])), (aDw, .inl (cI, 528, .inl dk)), (aJ, .inr (1, [.ref aD, .ref aM, .ref aJh])), (aJh, .inl (cI, 16, .inl hd)), (aSa, .inl (cS, 4, .inr (.inr (.inr (.inr (fun j => some (sA j))))))), (aSt, .inl (cI, 6, .inl sg)), (sA 0, scv (sc4 0)), (sA 1, scv (sc4 1)), (sA 2, scv (sc4 2)), (sA 3, scv (sc4 3))]) hP hD hS hA [3, 4] [0, 1, 2, 5, 6, 7, 8, 9, 10, 11, 12] rfl rfl (by decide) (by decide) [0, 1, 2, 11, 12, 3, 4, 5, 6, 7, 8, 9, 10] rfl (by decide) (va_runV (As := [.int a1]) (rest := []) ⟨hx, hb, hml, hown, hts⟩ (c_M_hasTable l dC dI cI cZ cS aM aMw mm a1 r_4 hr_4 H.size) (cwV 1 hts gX4_has_X2_hasTable rfl rfl rfl (by decide +kernel) ⟨Nat.le_of_ble_eq_true rfl, Nat.le_of_ble_eq_true rfl⟩) (mk_preV (w0 := w_M cI cZ cS aM aMw mm) (ci := 2) (q0 := 0) hN hK (mk_pick hP [3, 4] rfl) (hD.sub [3, 4] (by decide) rfl) rfl rfl rfl) rfl rfl hl.1 rfl (lv_room (Nat.le_of_ble_eq_true rfl)) dX4_has_15 ⟨Nat.zero_le _, Nat.zero_le _⟩) (fun H locs hP hD hS => ?_)
    refine lv_if_eq (tgt := 38) hx hb dX4_has_18 (by decide) (fun c_5 => ?_) (fun c_5 => ?_)
    · replace h := (kp_if h).1 c_5
      exact b_X_has_38 E hA hK R h H locs ls hP hD hS (lv_sub hl [] rfl)
    · replace h := (kp_if h).2 c_5
      refine lv_aload_n hx hb dX4_has_21 rfl (lv_at hl 0 rfl) ?_
      refine va_get (D := (dC, dI)) (ci := 4) (v := .ref aM) (C := RX4) (T := TX4) (N := 6) hx hb hts iw_X_has_X hown hK hP 0 rfl rfl 1 (by decide) (hts _ mm_X_has_2) (fun _ h9 => h9) rfl dX4_has_22 ?_
      refine lv_iload_n hx hb dX4_has_25 rfl (lv_at hl 1 rfl) ?_
      refine lv_iload_n hx hb dX4_has_26 rfl (lv_at hl 2 rfl) ?_
      obtain ⟨r_6, hr_6, h⟩ := kp_bind h
      refine mk_contR (w := w_X cI cZ cS aX aD aDw aM aMw aJ aJh aSa aSt sA tx pw wl wn dk mm hd sg sc4) (w0 := w_M cI cZ cS aM aMw mm) (wr := [(aX, .inr (4, [.ref aD, .ref aM, .ref aJ, .ref aSa, .ref aSt, .int tx])), (aD, .inr (0, [.ref aDw, .int pw, .int wl, .int wn])), (aDw, .inl (cI, 528, .inl dk)), (aJ, .inr (1, [.ref aD, .ref aM, .ref aJh])), (aJh, .inl (cI, 16, .inl hd)), (aSa, .inl (cS, 4, .inr (.inr (.inr (.inr (fun j => some (sA j))))))), (aSt, .inl (cI, 6, .inl sg)), (sA 0, scv (sc4 0)), (sA 1, scv (sc4 1)), (sA 2, scv (sc4 2)), (sA 3, scv (sc4 3))]) hP hD hS hA [3, 4] [0, 1, 2, 5, 6, 7, 8, 9, 10, 11, 12] rfl rfl (by decide) (by decide) [0, 1, 2, 11, 12, 3, 4, 5, 6, 7, 8, 9, 10] rfl (by decide) (va_runV (As := [.int a1, .int a2]) (rest := []) ⟨hx, hb, hml, hown, hts⟩ (c_M_rowOf l dC dI cI cZ cS aM aMw mm a1 a2 r_6 hr_6 H.size) (cwV 2 hts gX4_has_X2_rowOf rfl rfl rfl (by decide +kernel) ⟨Nat.le_of_ble_eq_true rfl, Nat.le_of_ble_eq_true rfl⟩) (mk_preV (w0 := w_M cI cZ cS aM aMw mm) (ci := 2) (q0 := 0) hN hK (mk_pick hP [3, 4] rfl) (hD.sub [3, 4] (by decide) rfl) rfl rfl rfl) rfl rfl hl.1 rfl (lv_room (Nat.le_of_ble_eq_true rfl)) dX4_has_27 ⟨Nat.zero_le _, Nat.zero_le _⟩) (fun H locs hP hD hS => ?_)
      refine lv_iconst (v := (-1)) hx hb dX4_has_30 (by decide) ?_
      refine lv_icmp_eq (tgt := 38) hx hb dX4_has_31 (by decide) (fun c_7 => ?_) (fun c_7 => ?_)
      · replace h := (kp_if h).1 c_7
        exact b_X_has_38 E hA hK R h H locs ls hP hD hS (lv_sub hl [] rfl)
      · replace h := (kp_if h).2 c_7
        refine lv_iconst (v := 1) hx hb dX4_has_34 (by decide) ?_
        refine lv_goto (tgt := 39) hx hb dX4_has_35 (by decide) ?_
        exact b_X_has_39 E hA hK R 1 h H locs ls hP hD hS (lv_sub hl [] rfl)

/- X.count(I)I -/
set_option maxRecDepth 20000 in
theorem mm_X_count_0 : Cond.fieldLink RX4 10 "JournaledTables" "disk" "LJournaledTables$Disk;" ∈ wsX4_count := by decide +kernel
set_option maxRecDepth 20000 in
theorem iw_X_count_X : ∀ w ∈ u_ws RX4 TX4 6, w ∈ wsX4_count := by decide +kernel
set_option maxRecDepth 20000 in
theorem mm_X_count_2 : Cond.fieldLink RX4 19 "JournaledTables" "memory" "LJournaledTables$Memory;" ∈ wsX4_count := by decide +kernel
set_option maxHeartbeats 4000000 in
set_option maxRecDepth 100000 in
theorem b_X_count_36 {p : Program} {l : Launch} {e : Env} {s : State} {m : MethodId} {below : List Frame} {meth : Method} {c : Code} {A : Nat → Prop} {dC : Nat → ClassId} {dI : Nat → Nat → Nat} {cI cZ cS : ClassId} {aX aD aDw aM aMw aJ aJh aSa aSt : Nat} {sA : Nat → Nat} {tx : Int32} {pw : Int32} {wl : Int32} {wn : Int32} {dk : Nat → Int32} {mm : Nat → Int32} {hd : Nat → Int32} {sg : Nat → Int32} {sc4 : Nat → SCT} {a1 : Int32} (E : mk_En p s m meth c cX4_count 2 (some .int) ([.ref aX, .int a1] : List Value).toArray wsX4_count yX4_count.cls) (hA : ∀ q : Nat, s.heap.size ≤ q → A q) (hK : va_K (dC, dI) vwCl (tyz cI cZ cS) s) (R : Int32) (z0 : Int32) (h : p_X_count_36 pw mm z0 = some R) : ∀ (H : Heap) (locs : List Loc) (ls : Array Slot), va_P (dC, dI) vwCl (w_X cI cZ cS aX aD aDw aM aMw aJ aJh aSa aSt sA tx pw wl wn dk mm hd sg sc4) H → va_D A (w_X cI cZ cS aX aD aDw aM aMw aJ aJh aSa aSt sA tx pw wl wn dk mm hd sg sc4) → va_S A s.heap H locs → lv_has ls 2 [] → W p l e ({ frames := 2, cells := 0, slots := 0, locals := 45 } : Room) s m ([.ref aX, .int a1] : List Value).toArray below meth c H locs 0 0 (MQ below (mk_QR (dC, dI) vwCl (tyz cI cZ cS) A (w_X cI cZ cS aX aD aDw aM aMw aJ aJh aSa aSt sA tx pw wl wn dk mm hd sg sc4) R) ([.ref aX, .int a1] : List Value).toArray s 0 0 A) (F0 m 36 ls [.int z0]) := by
  intro H locs ls hP hD hS hl
  obtain ⟨⟨hx, hb, hml, hown, hts⟩, hrt, hlk, hN⟩ := id E
  have hown : s.vm.findClass RX4 = some m.cls := hown
  unfold p_X_count_36 at h
  cases h
  exact mk_iretR E hK hP hD hS dX4_count_36
set_option maxHeartbeats 4000000 in
set_option maxRecDepth 100000 in
theorem c_X_count (l : Launch) (dC : Nat → ClassId) (dI : Nat → Nat → Nat) (cI cZ cS : ClassId) (aX aD aDw aM aMw aJ aJh aSa aSt : Nat) (sA : Nat → Nat) (tx : Int32) (pw : Int32) (wl : Int32) (wn : Int32) (dk : Nat → Int32) (mm : Nat → Int32) (hd : Nat → Int32) (sg : Nat → Int32) (sc4 : Nat → SCT) (a1 : Int32) : CtR l yX4_count wsX4_count ({ frames := 2, cells := 0, slots := 0, locals := 45 }) (dC, dI) vwCl (tyz cI cZ cS) [.ref aX, .int a1] (w_X cI cZ cS aX aD aDw aM aMw aJ aJh aSa aSt sA tx pw wl wn dk mm hd sg sc4) (p_X_count pw mm a1) := by
  intro R h
  refine mk_enter (Qc := (fun A => mk_QR (dC, dI) vwCl (tyz cI cZ cS) A (w_X cI cZ cS aX aD aDw aM aMw aJ aJh aSa aSt sA tx pw wl wn dk mm hd sg sc4) R)) (by decide) rfl (Nat.le_of_ble_eq_true rfl) ?_
  intro p e s m below meth c A E hA hK H locs ls hP hD hS hl
  obtain ⟨⟨hx, hb, hml, hown, hts⟩, hrt, hlk, hN⟩ := id E
  have hown : s.vm.findClass RX4 = some m.cls := hown
  have hl : lv_has ls 2 [(0, .ref aX), (1, .int a1)] := hl
  unfold p_X_count at h
  refine lv_aload_n hx hb dX4_count_0 rfl (lv_at hl 0 rfl) ?_
  refine va_get (D := (dC, dI)) (ci := 4) (v := .ref aD) (C := RX4) (T := TX4) (N := 6) hx hb hts iw_X_count_X hown hK hP 0 rfl rfl 0 (by decide) (hts _ mm_X_count_0) (fun _ h9 => h9) rfl dX4_count_1 ?_
  obtain ⟨r_1, hr_1, h⟩ := kp_bind h
  refine mk_contR (w := w_X cI cZ cS aX aD aDw aM aMw aJ aJh aSa aSt sA tx pw wl wn dk mm hd sg sc4) (w0 := w_D cI cZ cS aD aDw pw wl wn dk) (wr := [(aX, .inr (4, [.ref aD, .ref aM, .ref aJ, .ref aSa, .ref aSt, .int tx])), (aM, .inr (2, [.ref aMw])), (aMw, .inl (cI, 256, .inl mm)), (aJ, .inr (1, [.ref aD, .ref aM, .ref aJh])), (aJh, .inl (cI, 16, .inl hd)), (aSa, .inl (cS, 4, .inr (.inr (.inr (.inr (fun j => some (sA j))))))), (aSt, .inl (cI, 6, .inl sg)), (sA 0, scv (sc4 0)), (sA 1, scv (sc4 1)), (sA 2, scv (sc4 2)), (sA 3, scv (sc4 3))]) hP hD hS hA [1, 2] [0, 3, 4, 5, 6, 7, 8, 9, 10, 11, 12] rfl rfl (by decide) (by decide) [0, 11, 12, 1, 2, 3, 4, 5, 6, 7, 8, 9, 10] rfl (by decide) (va_runV (As := []) (rest := []) ⟨hx, hb, hml, hown, hts⟩ (c_D_powered l dC dI cI cZ cS aD aDw pw wl wn dk r_1 hr_1 H.size) (cwV 0 hts gX4_count_X0_powered rfl rfl rfl (by decide +kernel) ⟨Nat.le_of_ble_eq_true rfl, Nat.le_of_ble_eq_true rfl⟩) (mk_preV (w0 := w_D cI cZ cS aD aDw pw wl wn dk) (ci := 0) (q0 := 0) hN hK (mk_pick hP [1, 2] rfl) (hD.sub [1, 2] (by decide) rfl) rfl rfl rfl) rfl rfl hl.1 rfl (lv_room (Nat.le_of_ble_eq_true rfl)) dX4_count_4 ⟨Nat.zero_le _, Nat.zero_le _⟩) (fun H locs hP hD hS => ?_)
  refine lv_if_ne (tgt := 12) hx hb dX4_count_7 (by decide) (fun c_2 => ?_) (fun c_2 => ?_)
  · replace h := (kp_if h).2 c_2
    refine lv_aload_n hx hb dX4_count_12 rfl (lv_at hl 0 rfl) ?_
    refine va_get (D := (dC, dI)) (ci := 4) (v := .ref aM) (C := RX4) (T := TX4) (N := 6) hx hb hts iw_X_count_X hown hK hP 0 rfl rfl 1 (by decide) (hts _ mm_X_count_2) (fun _ h9 => h9) rfl dX4_count_13 ?_
    refine lv_iload_n hx hb dX4_count_16 rfl (lv_at hl 1 rfl) ?_
    obtain ⟨r_3, hr_3, h⟩ := kp_bind h
    refine mk_contR (w := w_X cI cZ cS aX aD aDw aM aMw aJ aJh aSa aSt sA tx pw wl wn dk mm hd sg sc4) (w0 := w_M cI cZ cS aM aMw mm) (wr := [(aX, .inr (4, [.ref aD, .ref aM, .ref aJ, .ref aSa, .ref aSt, .int tx])), (aD, .inr (0, [.ref aDw, .int pw, .int wl, .int wn])), (aDw, .inl (cI, 528, .inl dk)), (aJ, .inr (1, [.ref aD, .ref aM, .ref aJh])), (aJh, .inl (cI, 16, .inl hd)), (aSa, .inl (cS, 4, .inr (.inr (.inr (.inr (fun j => some (sA j))))))), (aSt, .inl (cI, 6, .inl sg)), (sA 0, scv (sc4 0)), (sA 1, scv (sc4 1)), (sA 2, scv (sc4 2)), (sA 3, scv (sc4 3))]) hP hD hS hA [3, 4] [0, 1, 2, 5, 6, 7, 8, 9, 10, 11, 12] rfl rfl (by decide) (by decide) [0, 1, 2, 11, 12, 3, 4, 5, 6, 7, 8, 9, 10] rfl (by decide) (va_runV (As := [.int a1]) (rest := []) ⟨hx, hb, hml, hown, hts⟩ (c_M_hasTable l dC dI cI cZ cS aM aMw mm a1 r_3 hr_3 H.size) (cwV 1 hts gX4_count_X2_hasTable rfl rfl rfl (by decide +kernel) ⟨Nat.le_of_ble_eq_true rfl, Nat.le_of_ble_eq_true rfl⟩) (mk_preV (w0 := w_M cI cZ cS aM aMw mm) (ci := 2) (q0 := 0) hN hK (mk_pick hP [3, 4] rfl) (hD.sub [3, 4] (by decide) rfl) rfl rfl rfl) rfl rfl hl.1 rfl (lv_room (Nat.le_of_ble_eq_true rfl)) dX4_count_17 ⟨Nat.zero_le _, Nat.zero_le _⟩) (fun H locs hP hD hS => ?_)
    refine lv_if_eq (tgt := 34) hx hb dX4_count_20 (by decide) (fun c_4 => ?_) (fun c_4 => ?_)
    · replace h := (kp_if h).1 c_4
      refine lv_bipush (v := (-5)) hx hb dX4_count_34 (by decide) ?_
      exact b_X_count_36 E hA hK R (-5) h H locs ls hP hD hS (lv_sub hl [] rfl)
    · replace h := (kp_if h).2 c_4
      refine lv_aload_n hx hb dX4_count_23 rfl (lv_at hl 0 rfl) ?_
      refine va_get (D := (dC, dI)) (ci := 4) (v := .ref aM) (C := RX4) (T := TX4) (N := 6) hx hb hts iw_X_count_X hown hK hP 0 rfl rfl 1 (by decide) (hts _ mm_X_count_2) (fun _ h9 => h9) rfl dX4_count_24 ?_
      refine lv_iload_n hx hb dX4_count_27 rfl (lv_at hl 1 rfl) ?_
      obtain ⟨r_5, hr_5, h⟩ := kp_bind h
      refine mk_contR (w := w_X cI cZ cS aX aD aDw aM aMw aJ aJh aSa aSt sA tx pw wl wn dk mm hd sg sc4) (w0 := w_M cI cZ cS aM aMw mm) (wr := [(aX, .inr (4, [.ref aD, .ref aM, .ref aJ, .ref aSa, .ref aSt, .int tx])), (aD, .inr (0, [.ref aDw, .int pw, .int wl, .int wn])), (aDw, .inl (cI, 528, .inl dk)), (aJ, .inr (1, [.ref aD, .ref aM, .ref aJh])), (aJh, .inl (cI, 16, .inl hd)), (aSa, .inl (cS, 4, .inr (.inr (.inr (.inr (fun j => some (sA j))))))), (aSt, .inl (cI, 6, .inl sg)), (sA 0, scv (sc4 0)), (sA 1, scv (sc4 1)), (sA 2, scv (sc4 2)), (sA 3, scv (sc4 3))]) hP hD hS hA [3, 4] [0, 1, 2, 5, 6, 7, 8, 9, 10, 11, 12] rfl rfl (by decide) (by decide) [0, 1, 2, 11, 12, 3, 4, 5, 6, 7, 8, 9, 10] rfl (by decide) (va_runV (As := [.int a1]) (rest := []) ⟨hx, hb, hml, hown, hts⟩ (c_M_rowsOf l dC dI cI cZ cS aM aMw mm a1 r_5 hr_5 H.size) (cwV 1 hts gX4_count_X2_rowsOf rfl rfl rfl (by decide +kernel) ⟨Nat.le_of_ble_eq_true rfl, Nat.le_of_ble_eq_true rfl⟩) (mk_preV (w0 := w_M cI cZ cS aM aMw mm) (ci := 2) (q0 := 0) hN hK (mk_pick hP [3, 4] rfl) (hD.sub [3, 4] (by decide) rfl) rfl rfl rfl) rfl rfl hl.1 rfl (lv_room (Nat.le_of_ble_eq_true rfl)) dX4_count_28 ⟨Nat.zero_le _, Nat.zero_le _⟩) (fun H locs hP hD hS => ?_)
      refine lv_goto (tgt := 36) hx hb dX4_count_31 (by decide) ?_
      exact b_X_count_36 E hA hK R r_5 h H locs ls hP hD hS (lv_sub hl [] rfl)
  · replace h := (kp_if h).1 c_2
    refine lv_iconst (v := (-1)) hx hb dX4_count_10 (by decide) ?_
    cases h
    exact mk_iretR E hK hP hD hS dX4_count_11

/- X.openScan(IIII)I -/
set_option maxRecDepth 20000 in
theorem mm_X_openScan_0 : Cond.fieldLink RX4 34 "JournaledTables" "scans" "[LJournaledTables$Scan;" ∈ wsX4_openScan := by decide +kernel
set_option maxRecDepth 20000 in
theorem iw_X_openScan_X : ∀ w ∈ u_ws RX4 TX4 6, w ∈ wsX4_openScan := by decide +kernel
set_option maxRecDepth 20000 in
theorem mm_X_openScan_2 : Cond.fieldLink RX4 10 "JournaledTables" "disk" "LJournaledTables$Disk;" ∈ wsX4_openScan := by decide +kernel
set_option maxRecDepth 20000 in
theorem mm_X_openScan_3 : Cond.fieldLink RX4 19 "JournaledTables" "memory" "LJournaledTables$Memory;" ∈ wsX4_openScan := by decide +kernel
set_option maxHeartbeats 4000000 in
set_option maxRecDepth 100000 in
theorem b_X_openScan_44 {p : Program} {l : Launch} {e : Env} {s : State} {m : MethodId} {below : List Frame} {meth : Method} {c : Code} {A : Nat → Prop} {dC : Nat → ClassId} {dI : Nat → Nat → Nat} {cI cZ cS : ClassId} {aX aD aDw aM aMw aJ aJh aSa aSt : Nat} {sA : Nat → Nat} {tx : Int32} {pw : Int32} {wl : Int32} {wn : Int32} {dk : Nat → Int32} {mm : Nat → Int32} {hd : Nat → Int32} {sg : Nat → Int32} {a1 : Int32} {a2 : Int32} {a3 : Int32} {a4 : Int32} (E : mk_En p s m meth c cX4_openScan 6 (some .int) ([.ref aX, .int a1, .int a2, .int a3, .int a4] : List Value).toArray wsX4_openScan yX4_openScan.cls) (hA : ∀ q : Nat, s.heap.size ≤ q → A q) (hK : va_K (dC, dI) vwCl (tyz cI cZ cS) s) (R : Int32 × (Nat → SCT)) {k_44 : Int32 → Int32 → Int32 → Int32 → Int32 → (Nat → SCT) → Option (Int32 × (Nat → SCT))} (hk_44 : ∀ (x1 : Int32) (x2 : Int32) (x3 : Int32) (x4 : Int32) (x5 : Int32) (sc4 : Nat → SCT), k_44 x1 x2 x3 x4 x5 sc4 = some R → ∀ (H : Heap) (locs : List Loc) (ls : Array Slot), va_P (dC, dI) vwCl (w_X cI cZ cS aX aD aDw aM aMw aJ aJh aSa aSt sA tx pw wl wn dk mm hd sg sc4) H → va_D A (w_X cI cZ cS aX aD aDw aM aMw aJ aJh aSa aSt sA tx pw wl wn dk mm hd sg sc4) → va_S A s.heap H locs → lv_has ls 6 [(0, .ref aX), (1, .int x1), (2, .int x2), (3, .int x3), (4, .int x4), (5, .int x5)] → W p l e ({ frames := 3, cells := 0, slots := 0, locals := 64 } : Room) s m ([.ref aX, .int a1, .int a2, .int a3, .int a4] : List Value).toArray below meth c H locs 0 0 (MQ below (mk_QI (dC, dI) vwCl (tyz cI cZ cS) A (fun u : (Nat → SCT) => w_X cI cZ cS aX aD aDw aM aMw aJ aJh aSa aSt sA tx pw wl wn dk mm hd sg u) R) ([.ref aX, .int a1, .int a2, .int a3, .int a4] : List Value).toArray s 0 0 A) (F0 m 44 ls [])) (x1 : Int32) (x2 : Int32) (x3 : Int32) (x4 : Int32) (x5 : Int32) (sc4 : Nat → SCT) (h : p_X_openScan_44 pw mm k_44 x1 x2 x3 x4 x5 sc4 = some R) : ∀ (H : Heap) (locs : List Loc) (ls : Array Slot), va_P (dC, dI) vwCl (w_X cI cZ cS aX aD aDw aM aMw aJ aJh aSa aSt sA tx pw wl wn dk mm hd sg sc4) H → va_D A (w_X cI cZ cS aX aD aDw aM aMw aJ aJh aSa aSt sA tx pw wl wn dk mm hd sg sc4) → va_S A s.heap H locs → lv_has ls 6 [(0, .ref aX), (1, .int x1), (2, .int x2), (3, .int x3), (4, .int x4), (5, .int x5)] → W p l e ({ frames := 3, cells := 0, slots := 0, locals := 64 } : Room) s m ([.ref aX, .int a1, .int a2, .int a3, .int a4] : List Value).toArray below meth c H locs 0 0 (MQ below (mk_QI (dC, dI) vwCl (tyz cI cZ cS) A (fun u : (Nat → SCT) => w_X cI cZ cS aX aD aDw aM aMw aJ aJh aSa aSt sA tx pw wl wn dk mm hd sg u) R) ([.ref aX, .int a1, .int a2, .int a3, .int a4] : List Value).toArray s 0 0 A) (F0 m 44 ls []) := by
  intro H locs ls hP hD hS hl
  obtain ⟨⟨hx, hb, hml, hown, hts⟩, hrt, hlk, hN⟩ := id E
  have hown : s.vm.findClass RX4 = some m.cls := hown
  unfold p_X_openScan_44 at h
  refine lv_iload hx hb dX4_openScan_44 (lv_at hl 5 rfl) ?_
  refine lv_iconst (v := 4) hx hb dX4_openScan_46 (by decide) ?_
  refine lv_icmp_ge (tgt := 83) hx hb dX4_openScan_47 (by decide) (fun c_1 => ?_) (fun c_1 => ?_)
  · replace h := (kp_if h).1 c_1
    refine lv_bipush (v := (-8)) hx hb dX4_openScan_83 (by decide) ?_
    cases h
    exact mk_iret E hK hP hD hS dX4_openScan_85
  · replace h := (kp_if h).2 c_1
    refine lv_aload_n hx hb dX4_openScan_50 rfl (lv_at hl 0 rfl) ?_
    refine lv_iload hx hb dX4_openScan_51 (lv_at hl 5 rfl) ?_
    obtain ⟨r_2, hr_2, h⟩ := kp_bind h
    refine mk_contQ (w := w_X cI cZ cS aX aD aDw aM aMw aJ aJh aSa aSt sA tx pw wl wn dk mm hd sg sc4) (w0 := w_X cI cZ cS aX aD aDw aM aMw aJ aJh aSa aSt sA tx pw wl wn dk mm hd sg sc4) (wr := []) hP hD hS hA [0, 1, 2, 3, 4, 5, 6, 7, 8, 9, 10, 11, 12] [] rfl rfl (by decide) (by decide) [0, 1, 2, 3, 4, 5, 6, 7, 8, 9, 10, 11, 12] rfl (by decide) (va_runV (As := [.int x5]) (rest := []) ⟨hx, hb, hml, hown, hts⟩ (c_X_scanOf l dC dI cI cZ cS aX aD aDw aM aMw aJ aJh aSa aSt sA tx pw wl wn dk mm hd sg sc4 x5 (Option.map sA r_2) (congrArg (Option.map (Option.map sA)) hr_2) H.size) (cwV 1 hts gX4_openScan_X4_scanOf rfl rfl rfl (by decide +kernel) ⟨Nat.le_of_ble_eq_true rfl, Nat.le_of_ble_eq_true rfl⟩) (mk_preV (w0 := w_X cI cZ cS aX aD aDw aM aMw aJ aJh aSa aSt sA tx pw wl wn dk mm hd sg sc4) (ci := 4) (q0 := 0) hN hK (mk_pick hP [0, 1, 2, 3, 4, 5, 6, 7, 8, 9, 10, 11, 12] rfl) (hD.sub [0, 1, 2, 3, 4, 5, 6, 7, 8, 9, 10, 11, 12] (by decide) rfl) rfl rfl rfl) rfl rfl hl.1 rfl (lv_room (Nat.le_of_ble_eq_true rfl)) dX4_openScan_53 ⟨Nat.zero_le _, Nat.zero_le _⟩) (fun H locs hP hD hS => ?_)
    cases r_2 with
    | none =>
      replace h := kq_n h
      refine W.eq (g2 := F0 m 56 ls [.null]) rfl ?_
      refine lv_ifnonnullN hx hb dX4_openScan_56 ?_
      refine lv_aload_n hx hb dX4_openScan_59 rfl (lv_at hl 0 rfl) ?_
      refine va_get (D := (dC, dI)) (ci := 4) (v := .ref aSa) (C := RX4) (T := TX4) (N := 6) hx hb hts iw_X_openScan_X hown hK hP 0 rfl rfl 3 (by decide) (hts _ mm_X_openScan_0) (fun _ h9 => h9) rfl dX4_openScan_60 ?_
      refine lv_iload hx hb dX4_openScan_63 (lv_at hl 5 rfl) ?_
      obtain ⟨hc_4, h⟩ := kp_in h
      refine va_aldq hx hb hK hP 7 2 rfl rfl (kx_of hc_4) dX4_openScan_65 ?_
      refine W.eq (g2 := F0 m 66 ls [.ref (sA x5.toNatClampNeg)]) rfl ?_
      refine lv_iload_n hx hb dX4_openScan_66 rfl (lv_at hl 1 rfl) ?_
      refine lv_iload_n hx hb dX4_openScan_67 rfl (lv_at hl 2 rfl) ?_
      refine lv_iload_n hx hb dX4_openScan_68 rfl (lv_at hl 3 rfl) ?_
      refine lv_iload hx hb dX4_openScan_69 (lv_at hl 4 rfl) ?_
      obtain ⟨r_5, hr_5, h⟩ := kp_bind h
      refine sx_V (k := x5.toNatClampNeg) (g := (r_5.1, r_5.2.1, r_5.2.2.1, r_5.2.2.2.1, r_5.2.2.2.2.1, r_5.2.2.2.2.2.1, r_5.2.2.2.2.2.2.1, r_5.2.2.2.2.2.2.2)) (kx_lt hc_4) hP hD hS hA (va_runV (As := [.int x1, .int x2, .int x3, .int x4]) (rest := []) ⟨hx, hb, hml, hown, hts⟩ (c_S_start l dC dI cI cZ cS (sA x5.toNatClampNeg) ((sc4 x5.toNatClampNeg).1) ((sc4 x5.toNatClampNeg).2.1) ((sc4 x5.toNatClampNeg).2.2.1) ((sc4 x5.toNatClampNeg).2.2.2.1) ((sc4 x5.toNatClampNeg).2.2.2.2.1) ((sc4 x5.toNatClampNeg).2.2.2.2.2.1) ((sc4 x5.toNatClampNeg).2.2.2.2.2.2.1) ((sc4 x5.toNatClampNeg).2.2.2.2.2.2.2) x1 x2 x3 x4 r_5 hr_5 H.size) (cwV 4 hts gX4_openScan_X3_start rfl rfl rfl (by decide +kernel) ⟨Nat.le_of_ble_eq_true rfl, Nat.le_of_ble_eq_true rfl⟩) (mk_preV (w0 := w_S cI cZ cS (sA x5.toNatClampNeg) ((sc4 x5.toNatClampNeg).1) ((sc4 x5.toNatClampNeg).2.1) ((sc4 x5.toNatClampNeg).2.2.1) ((sc4 x5.toNatClampNeg).2.2.2.1) ((sc4 x5.toNatClampNeg).2.2.2.2.1) ((sc4 x5.toNatClampNeg).2.2.2.2.2.1) ((sc4 x5.toNatClampNeg).2.2.2.2.2.2.1) ((sc4 x5.toNatClampNeg).2.2.2.2.2.2.2)) (ci := 3) (q0 := 0) hN hK (sx_P (kx_lt hc_4) hP) (sx_D (kx_lt hc_4) hD) rfl rfl rfl) rfl rfl hl.1 rfl (lv_room (Nat.le_of_ble_eq_true rfl)) dX4_openScan_71 ⟨Nat.zero_le _, Nat.zero_le _⟩) rfl (fun H locs hP hD hS => ?_)
      refine lv_iload hx hb dX4_openScan_74 (lv_at hl 5 rfl) ?_
      cases h
      exact mk_iret E hK hP hD hS dX4_openScan_76
    | some kr_2 =>
      replace h := kq_s h
      refine W.eq (g2 := F0 m 56 ls [.ref (sA kr_2)]) rfl ?_
      obtain ⟨hc_3, h⟩ := kp_in h
      refine lv_ifnonnull (tgt := 77) hx hb dX4_openScan_56 (by decide) ?_
      refine lv_iinc (v := x5 + 1) (lv' := [(5, .int (x5 + 1)), (0, .ref aX), (1, .int x1), (2, .int x2), (3, .int x3), (4, .int x4)]) hx hb dX4_openScan_77 hl (k := 5) rfl rfl (by decide) rfl (fun ls hl => ?_)
      refine lv_goto (tgt := 44) hx hb dX4_openScan_80 (by decide) ?_
      exact hk_44 x1 x2 x3 x4 (x5 + 1) sc4 h H locs ls hP hD hS (lv_sub hl [1, 2, 3, 4, 5, 0] rfl)
set_option maxHeartbeats 4000000 in
set_option maxRecDepth 100000 in
theorem l_X_openScan_44 {p : Program} {l : Launch} {e : Env} {s : State} {m : MethodId} {below : List Frame} {meth : Method} {c : Code} {A : Nat → Prop} {dC : Nat → ClassId} {dI : Nat → Nat → Nat} {cI cZ cS : ClassId} {aX aD aDw aM aMw aJ aJh aSa aSt : Nat} {sA : Nat → Nat} {tx : Int32} {pw : Int32} {wl : Int32} {wn : Int32} {dk : Nat → Int32} {mm : Nat → Int32} {hd : Nat → Int32} {sg : Nat → Int32} {a1 : Int32} {a2 : Int32} {a3 : Int32} {a4 : Int32} (E : mk_En p s m meth c cX4_openScan 6 (some .int) ([.ref aX, .int a1, .int a2, .int a3, .int a4] : List Value).toArray wsX4_openScan yX4_openScan.cls) (hA : ∀ q : Nat, s.heap.size ≤ q → A q) (hK : va_K (dC, dI) vwCl (tyz cI cZ cS) s) (R : Int32 × (Nat → SCT)) : ∀ (n : Nat) (x1 : Int32) (x2 : Int32) (x3 : Int32) (x4 : Int32) (x5 : Int32) (sc4 : Nat → SCT), pl_X_openScan_44 pw mm n x1 x2 x3 x4 x5 sc4 = some R → ∀ (H : Heap) (locs : List Loc) (ls : Array Slot), va_P (dC, dI) vwCl (w_X cI cZ cS aX aD aDw aM aMw aJ aJh aSa aSt sA tx pw wl wn dk mm hd sg sc4) H → va_D A (w_X cI cZ cS aX aD aDw aM aMw aJ aJh aSa aSt sA tx pw wl wn dk mm hd sg sc4) → va_S A s.heap H locs → lv_has ls 6 [(0, .ref aX), (1, .int x1), (2, .int x2), (3, .int x3), (4, .int x4), (5, .int x5)] → W p l e ({ frames := 3, cells := 0, slots := 0, locals := 64 } : Room) s m ([.ref aX, .int a1, .int a2, .int a3, .int a4] : List Value).toArray below meth c H locs 0 0 (MQ below (mk_QI (dC, dI) vwCl (tyz cI cZ cS) A (fun u : (Nat → SCT) => w_X cI cZ cS aX aD aDw aM aMw aJ aJh aSa aSt sA tx pw wl wn dk mm hd sg u) R) ([.ref aX, .int a1, .int a2, .int a3, .int a4] : List Value).toArray s 0 0 A) (F0 m 44 ls []) := by
  intro n
  induction n with
  | zero =>
    intro x1 x2 x3 x4 x5 sc4 h
    cases h
  | succ n ih =>
    intro x1 x2 x3 x4 x5 sc4 h
    exact b_X_openScan_44 E hA hK R ih x1 x2 x3 x4 x5 sc4 h
set_option maxHeartbeats 4000000 in
set_option maxRecDepth 100000 in
theorem c_X_openScan (l : Launch) (dC : Nat → ClassId) (dI : Nat → Nat → Nat) (cI cZ cS : ClassId) (aX aD aDw aM aMw aJ aJh aSa aSt : Nat) (sA : Nat → Nat) (tx : Int32) (pw : Int32) (wl : Int32) (wn : Int32) (dk : Nat → Int32) (mm : Nat → Int32) (hd : Nat → Int32) (sg : Nat → Int32) (sc4 : Nat → SCT) (a1 : Int32) (a2 : Int32) (a3 : Int32) (a4 : Int32) : CtI l yX4_openScan wsX4_openScan ({ frames := 3, cells := 0, slots := 0, locals := 64 }) (dC, dI) vwCl (tyz cI cZ cS) [.ref aX, .int a1, .int a2, .int a3, .int a4] (w_X cI cZ cS aX aD aDw aM aMw aJ aJh aSa aSt sA tx pw wl wn dk mm hd sg sc4) (fun u : (Nat → SCT) => w_X cI cZ cS aX aD aDw aM aMw aJ aJh aSa aSt sA tx pw wl wn dk mm hd sg u) (p_X_openScan pw mm sc4 a1 a2 a3 a4) := by
  intro R h
  refine mk_enter (Qc := (fun A => mk_QI (dC, dI) vwCl (tyz cI cZ cS) A (fun u : (Nat → SCT) => w_X cI cZ cS aX aD aDw aM aMw aJ aJh aSa aSt sA tx pw wl wn dk mm hd sg u) R)) (by decide) rfl (Nat.le_of_ble_eq_true rfl) ?_
  intro p e s m below meth c A E hA hK H locs ls hP hD hS hl
  obtain ⟨⟨hx, hb, hml, hown, hts⟩, hrt, hlk, hN⟩ := id E
  have hown : s.vm.findClass RX4 = some m.cls := hown
  have hl : lv_has ls 6 [(0, .ref aX), (1, .int a1), (2, .int a2), (3, .int a3), (4, .int a4)] := hl
  unfold p_X_openScan at h
  refine lv_aload_n hx hb dX4_openScan_0 rfl (lv_at hl 0 rfl) ?_
  refine va_get (D := (dC, dI)) (ci := 4) (v := .ref aD) (C := RX4) (T := TX4) (N := 6) hx hb hts iw_X_openScan_X hown hK hP 0 rfl rfl 0 (by decide) (hts _ mm_X_openScan_2) (fun _ h9 => h9) rfl dX4_openScan_1 ?_
  obtain ⟨r_6, hr_6, h⟩ := kp_bind h
  refine mk_contR (w := w_X cI cZ cS aX aD aDw aM aMw aJ aJh aSa aSt sA tx pw wl wn dk mm hd sg sc4) (w0 := w_D cI cZ cS aD aDw pw wl wn dk) (wr := [(aX, .inr (4, [.ref aD, .ref aM, .ref aJ, .ref aSa, .ref aSt, .int tx])), (aM, .inr (2, [.ref aMw])), (aMw, .inl (cI, 256, .inl mm)), (aJ, .inr (1, [.ref aD, .ref aM, .ref aJh])), (aJh, .inl (cI, 16, .inl hd)), (aSa, .inl (cS, 4, .inr (.inr (.inr (.inr (fun j => some (sA j))))))), (aSt, .inl (cI, 6, .inl sg)), (sA 0, scv (sc4 0)), (sA 1, scv (sc4 1)), (sA 2, scv (sc4 2)), (sA 3, scv (sc4 3))]) hP hD hS hA [1, 2] [0, 3, 4, 5, 6, 7, 8, 9, 10, 11, 12] rfl rfl (by decide) (by decide) [0, 11, 12, 1, 2, 3, 4, 5, 6, 7, 8, 9, 10] rfl (by decide) (va_runV (As := []) (rest := []) ⟨hx, hb, hml, hown, hts⟩ (c_D_powered l dC dI cI cZ cS aD aDw pw wl wn dk r_6 hr_6 H.size) (cwV 0 hts gX4_openScan_X0_powered rfl rfl rfl (by decide +kernel) ⟨Nat.le_of_ble_eq_true rfl, Nat.le_of_ble_eq_true rfl⟩) (mk_preV (w0 := w_D cI cZ cS aD aDw pw wl wn dk) (ci := 0) (q0 := 0) hN hK (mk_pick hP [1, 2] rfl) (hD.sub [1, 2] (by decide) rfl) rfl rfl rfl) rfl rfl hl.1 rfl (lv_room (Nat.le_of_ble_eq_true rfl)) dX4_openScan_4 ⟨Nat.zero_le _, Nat.zero_le _⟩) (fun H locs hP hD hS => ?_)
  refine lv_if_ne (tgt := 12) hx hb dX4_openScan_7 (by decide) (fun c_7 => ?_) (fun c_7 => ?_)
  · replace h := (kp_if h).2 c_7
    refine lv_aload_n hx hb dX4_openScan_12 rfl (lv_at hl 0 rfl) ?_
    refine va_get (D := (dC, dI)) (ci := 4) (v := .ref aM) (C := RX4) (T := TX4) (N := 6) hx hb hts iw_X_openScan_X hown hK hP 0 rfl rfl 1 (by decide) (hts _ mm_X_openScan_3) (fun _ h9 => h9) rfl dX4_openScan_13 ?_
    refine lv_iload_n hx hb dX4_openScan_16 rfl (lv_at hl 1 rfl) ?_
    obtain ⟨r_8, hr_8, h⟩ := kp_bind h
    refine mk_contR (w := w_X cI cZ cS aX aD aDw aM aMw aJ aJh aSa aSt sA tx pw wl wn dk mm hd sg sc4) (w0 := w_M cI cZ cS aM aMw mm) (wr := [(aX, .inr (4, [.ref aD, .ref aM, .ref aJ, .ref aSa, .ref aSt, .int tx])), (aD, .inr (0, [.ref aDw, .int pw, .int wl, .int wn])), (aDw, .inl (cI, 528, .inl dk)), (aJ, .inr (1, [.ref aD, .ref aM, .ref aJh])), (aJh, .inl (cI, 16, .inl hd)), (aSa, .inl (cS, 4, .inr (.inr (.inr (.inr (fun j => some (sA j))))))), (aSt, .inl (cI, 6, .inl sg)), (sA 0, scv (sc4 0)), (sA 1, scv (sc4 1)), (sA 2, scv (sc4 2)), (sA 3, scv (sc4 3))]) hP hD hS hA [3, 4] [0, 1, 2, 5, 6, 7, 8, 9, 10, 11, 12] rfl rfl (by decide) (by decide) [0, 1, 2, 11, 12, 3, 4, 5, 6, 7, 8, 9, 10] rfl (by decide) (va_runV (As := [.int a1]) (rest := []) ⟨hx, hb, hml, hown, hts⟩ (c_M_hasTable l dC dI cI cZ cS aM aMw mm a1 r_8 hr_8 H.size) (cwV 1 hts gX4_openScan_X2_hasTable rfl rfl rfl (by decide +kernel) ⟨Nat.le_of_ble_eq_true rfl, Nat.le_of_ble_eq_true rfl⟩) (mk_preV (w0 := w_M cI cZ cS aM aMw mm) (ci := 2) (q0 := 0) hN hK (mk_pick hP [3, 4] rfl) (hD.sub [3, 4] (by decide) rfl) rfl rfl rfl) rfl rfl hl.1 rfl (lv_room (Nat.le_of_ble_eq_true rfl)) dX4_openScan_17 ⟨Nat.zero_le _, Nat.zero_le _⟩) (fun H locs hP hD hS => ?_)
    refine lv_if_ne (tgt := 26) hx hb dX4_openScan_20 (by decide) (fun c_9 => ?_) (fun c_9 => ?_)
    · replace h := (kp_if h).2 c_9
      refine lv_aload_n hx hb dX4_openScan_26 rfl (lv_at hl 0 rfl) ?_
      refine va_get (D := (dC, dI)) (ci := 4) (v := .ref aM) (C := RX4) (T := TX4) (N := 6) hx hb hts iw_X_openScan_X hown hK hP 0 rfl rfl 1 (by decide) (hts _ mm_X_openScan_3) (fun _ h9 => h9) rfl dX4_openScan_27 ?_
      refine lv_iload_n hx hb dX4_openScan_30 rfl (lv_at hl 1 rfl) ?_
      refine lv_iload_n hx hb dX4_openScan_31 rfl (lv_at hl 2 rfl) ?_
      obtain ⟨r_10, hr_10, h⟩ := kp_bind h
      refine mk_contR (w := w_X cI cZ cS aX aD aDw aM aMw aJ aJh aSa aSt sA tx pw wl wn dk mm hd sg sc4) (w0 := w_M cI cZ cS aM aMw mm) (wr := [(aX, .inr (4, [.ref aD, .ref aM, .ref aJ, .ref aSa, .ref aSt, .int tx])), (aD, .inr (0, [.ref aDw, .int pw, .int wl, .int wn])), (aDw, .inl (cI, 528, .inl dk)), (aJ, .inr (1, [.ref aD, .ref aM, .ref aJh])), (aJh, .inl (cI, 16, .inl hd)), (aSa, .inl (cS, 4, .inr (.inr (.inr (.inr (fun j => some (sA j))))))), (aSt, .inl (cI, 6, .inl sg)), (sA 0, scv (sc4 0)), (sA 1, scv (sc4 1)), (sA 2, scv (sc4 2)), (sA 3, scv (sc4 3))]) hP hD hS hA [3, 4] [0, 1, 2, 5, 6, 7, 8, 9, 10, 11, 12] rfl rfl (by decide) (by decide) [0, 1, 2, 11, 12, 3, 4, 5, 6, 7, 8, 9, 10] rfl (by decide) (va_runV (As := [.int a1, .int a2]) (rest := []) ⟨hx, hb, hml, hown, hts⟩ (c_M_hasCol l dC dI cI cZ cS aM aMw mm a1 a2 r_10 hr_10 H.size) (cwV 2 hts gX4_openScan_X2_hasCol rfl rfl rfl (by decide +kernel) ⟨Nat.le_of_ble_eq_true rfl, Nat.le_of_ble_eq_true rfl⟩) (mk_preV (w0 := w_M cI cZ cS aM aMw mm) (ci := 2) (q0 := 0) hN hK (mk_pick hP [3, 4] rfl) (hD.sub [3, 4] (by decide) rfl) rfl rfl rfl) rfl rfl hl.1 rfl (lv_room (Nat.le_of_ble_eq_true rfl)) dX4_openScan_32 ⟨Nat.zero_le _, Nat.zero_le _⟩) (fun H locs hP hD hS => ?_)
      refine lv_if_ne (tgt := 41) hx hb dX4_openScan_35 (by decide) (fun c_11 => ?_) (fun c_11 => ?_)
      · replace h := (kp_if h).2 c_11
        refine lv_iconst (v := 0) hx hb dX4_openScan_41 (by decide) ?_
        refine lv_istore (lv' := [(5, .int 0), (0, .ref aX), (1, .int a1), (2, .int a2), (3, .int a3), (4, .int a4)]) hx hb dX4_openScan_42 hl (by decide) rfl (fun ls hl => ?_)
        exact l_X_openScan_44 E hA hK R 1000 a1 a2 a3 a4 0 sc4 h H locs ls hP hD hS (lv_sub hl [1, 2, 3, 4, 5, 0] rfl)
      · replace h := (kp_if h).1 c_11
        refine lv_bipush (v := (-4)) hx hb dX4_openScan_38 (by decide) ?_
        cases h
        exact mk_iret E hK hP hD hS dX4_openScan_40
    · replace h := (kp_if h).1 c_9
      refine lv_bipush (v := (-5)) hx hb dX4_openScan_23 (by decide) ?_
      cases h
      exact mk_iret E hK hP hD hS dX4_openScan_25
  · replace h := (kp_if h).1 c_7
    refine lv_iconst (v := (-1)) hx hb dX4_openScan_10 (by decide) ?_
    cases h
    exact mk_iret E hK hP hD hS dX4_openScan_11

/- X.next(I)Z -/
set_option maxRecDepth 20000 in
theorem mm_X_next_0 : Cond.fieldLink RX4 19 "JournaledTables" "memory" "LJournaledTables$Memory;" ∈ wsX4_next := by decide +kernel
set_option maxRecDepth 20000 in
theorem iw_X_next_X : ∀ w ∈ u_ws RX4 TX4 6, w ∈ wsX4_next := by decide +kernel
set_option maxHeartbeats 4000000 in
set_option maxRecDepth 100000 in
theorem b_X_next_26 {p : Program} {l : Launch} {e : Env} {s : State} {m : MethodId} {below : List Frame} {meth : Method} {c : Code} {A : Nat → Prop} {dC : Nat → ClassId} {dI : Nat → Nat → Nat} {cI cZ cS : ClassId} {aX aD aDw aM aMw aJ aJh aSa aSt : Nat} {sA : Nat → Nat} {tx : Int32} {pw : Int32} {wl : Int32} {wn : Int32} {dk : Nat → Int32} {mm : Nat → Int32} {hd : Nat → Int32} {sg : Nat → Int32} {a1 : Int32} (E : mk_En p s m meth c cX4_next 3 (some .boolean) ([.ref aX, .int a1] : List Value).toArray wsX4_next yX4_next.cls) (hA : ∀ q : Nat, s.heap.size ≤ q → A q) (hK : va_K (dC, dI) vwCl (tyz cI cZ cS) s) (R : Int32 × (Nat → SCT)) (z0 : Int32) (sc4 : Nat → SCT) (h : p_X_next_26 pw mm z0 sc4 = some R) : ∀ (H : Heap) (locs : List Loc) (ls : Array Slot), va_P (dC, dI) vwCl (w_X cI cZ cS aX aD aDw aM aMw aJ aJh aSa aSt sA tx pw wl wn dk mm hd sg sc4) H → va_D A (w_X cI cZ cS aX aD aDw aM aMw aJ aJh aSa aSt sA tx pw wl wn dk mm hd sg sc4) → va_S A s.heap H locs → lv_has ls 3 [] → W p l e ({ frames := 5, cells := 0, slots := 0, locals := 119 } : Room) s m ([.ref aX, .int a1] : List Value).toArray below meth c H locs 0 0 (MQ below (mk_QI (dC, dI) vwCl (tyz cI cZ cS) A (fun u : (Nat → SCT) => w_X cI cZ cS aX aD aDw aM aMw aJ aJh aSa aSt sA tx pw wl wn dk mm hd sg u) R) ([.ref aX, .int a1] : List Value).toArray s 0 0 A) (F0 m 26 ls [.int z0]) := by
  intro H locs ls hP hD hS hl
  obtain ⟨⟨hx, hb, hml, hown, hts⟩, hrt, hlk, hN⟩ := id E
  have hown : s.vm.findClass RX4 = some m.cls := hown
  unfold p_X_next_26 at h
  obtain ⟨hc_1, h⟩ := kp_in h
  cases h
  exact mk_zret E hc_1 hK hP hD hS dX4_next_26
set_option maxHeartbeats 4000000 in
set_option maxRecDepth 100000 in
theorem b_X_next_25 {p : Program} {l : Launch} {e : Env} {s : State} {m : MethodId} {below : List Frame} {meth : Method} {c : Code} {A : Nat → Prop} {dC : Nat → ClassId} {dI : Nat → Nat → Nat} {cI cZ cS : ClassId} {aX aD aDw aM aMw aJ aJh aSa aSt : Nat} {sA : Nat → Nat} {tx : Int32} {pw : Int32} {wl : Int32} {wn : Int32} {dk : Nat → Int32} {mm : Nat → Int32} {hd : Nat → Int32} {sg : Nat → Int32} {a1 : Int32} (E : mk_En p s m meth c cX4_next 3 (some .boolean) ([.ref aX, .int a1] : List Value).toArray wsX4_next yX4_next.cls) (hA : ∀ q : Nat, s.heap.size ≤ q → A q) (hK : va_K (dC, dI) vwCl (tyz cI cZ cS) s) (R : Int32 × (Nat → SCT)) (sc4 : Nat → SCT) (h : p_X_next_25 pw mm sc4 = some R) : ∀ (H : Heap) (locs : List Loc) (ls : Array Slot), va_P (dC, dI) vwCl (w_X cI cZ cS aX aD aDw aM aMw aJ aJh aSa aSt sA tx pw wl wn dk mm hd sg sc4) H → va_D A (w_X cI cZ cS aX aD aDw aM aMw aJ aJh aSa aSt sA tx pw wl wn dk mm hd sg sc4) → va_S A s.heap H locs → lv_has ls 3 [] → W p l e ({ frames := 5, cells := 0, slots := 0, locals := 119 } : Room) s m ([.ref aX, .int a1] : List Value).toArray below meth c H locs 0 0 (MQ below (mk_QI (dC, dI) vwCl (tyz cI cZ cS) A (fun u : (Nat → SCT) => w_X cI cZ cS aX aD aDw aM aMw aJ aJh aSa aSt sA tx pw wl wn dk mm hd sg u) R) ([.ref aX, .int a1] : List Value).toArray s 0 0 A) (F0 m 25 ls []) := by
  intro H locs ls hP hD hS hl
  obtain ⟨⟨hx, hb, hml, hown, hts⟩, hrt, hlk, hN⟩ := id E
  have hown : s.vm.findClass RX4 = some m.cls := hown
  unfold p_X_next_25 at h
  refine lv_iconst (v := 0) hx hb dX4_next_25 (by decide) ?_
  exact b_X_next_26 E hA hK R 0 sc4 h H locs ls hP hD hS (lv_sub hl [] rfl)
set_option maxHeartbeats 4000000 in
set_option maxRecDepth 100000 in
theorem c_X_next (l : Launch) (dC : Nat → ClassId) (dI : Nat → Nat → Nat) (cI cZ cS : ClassId) (aX aD aDw aM aMw aJ aJh aSa aSt : Nat) (sA : Nat → Nat) (tx : Int32) (pw : Int32) (wl : Int32) (wn : Int32) (dk : Nat → Int32) (mm : Nat → Int32) (hd : Nat → Int32) (sg : Nat → Int32) (sc4 : Nat → SCT) (a1 : Int32) : CtI l yX4_next wsX4_next ({ frames := 5, cells := 0, slots := 0, locals := 119 }) (dC, dI) vwCl (tyz cI cZ cS) [.ref aX, .int a1] (w_X cI cZ cS aX aD aDw aM aMw aJ aJh aSa aSt sA tx pw wl wn dk mm hd sg sc4) (fun u : (Nat → SCT) => w_X cI cZ cS aX aD aDw aM aMw aJ aJh aSa aSt sA tx pw wl wn dk mm hd sg u) (p_X_next pw mm sc4 a1) := by
  intro R h
  refine mk_enter (Qc := (fun A => mk_QI (dC, dI) vwCl (tyz cI cZ cS) A (fun u : (Nat → SCT) => w_X cI cZ cS aX aD aDw aM aMw aJ aJh aSa aSt sA tx pw wl wn dk mm hd sg u) R)) (by decide) rfl (Nat.le_of_ble_eq_true rfl) ?_
  intro p e s m below meth c A E hA hK H locs ls hP hD hS hl
  obtain ⟨⟨hx, hb, hml, hown, hts⟩, hrt, hlk, hN⟩ := id E
  have hown : s.vm.findClass RX4 = some m.cls := hown
  have hl : lv_has ls 3 [(0, .ref aX), (1, .int a1)] := hl
  unfold p_X_next at h
  refine lv_aload_n hx hb dX4_next_0 rfl (lv_at hl 0 rfl) ?_
  refine lv_iload_n hx hb dX4_next_1 rfl (lv_at hl 1 rfl) ?_
  obtain ⟨r_2, hr_2, h⟩ := kp_bind h
  refine mk_contQ (w := w_X cI cZ cS aX aD aDw aM aMw aJ aJh aSa aSt sA tx pw wl wn dk mm hd sg sc4) (w0 := w_X cI cZ cS aX aD aDw aM aMw aJ aJh aSa aSt sA tx pw wl wn dk mm hd sg sc4) (wr := []) hP hD hS hA [0, 1, 2, 3, 4, 5, 6, 7, 8, 9, 10, 11, 12] [] rfl rfl (by decide) (by decide) [0, 1, 2, 3, 4, 5, 6, 7, 8, 9, 10, 11, 12] rfl (by decide) (va_runV (As := [.int a1]) (rest := []) ⟨hx, hb, hml, hown, hts⟩ (c_X_usableScan l dC dI cI cZ cS aX aD aDw aM aMw aJ aJh aSa aSt sA tx pw wl wn dk mm hd sg sc4 a1 (Option.map sA r_2) (congrArg (Option.map (Option.map sA)) hr_2) H.size) (cwV 1 hts gX4_next_X4_usableScan rfl rfl rfl (by decide +kernel) ⟨Nat.le_of_ble_eq_true rfl, Nat.le_of_ble_eq_true rfl⟩) (mk_preV (w0 := w_X cI cZ cS aX aD aDw aM aMw aJ aJh aSa aSt sA tx pw wl wn dk mm hd sg sc4) (ci := 4) (q0 := 0) hN hK (mk_pick hP [0, 1, 2, 3, 4, 5, 6, 7, 8, 9, 10, 11, 12] rfl) (hD.sub [0, 1, 2, 3, 4, 5, 6, 7, 8, 9, 10, 11, 12] (by decide) rfl) rfl rfl rfl) rfl rfl hl.1 rfl (lv_room (Nat.le_of_ble_eq_true rfl)) dX4_next_2 ⟨Nat.zero_le _, Nat.zero_le _⟩) (fun H locs hP hD hS => ?_)
  cases r_2 with
  | none =>
    replace h := kq_n h
    refine W.eq (g2 := F0 m 5 ls [.null]) rfl ?_
    refine lv_astore_nN (lv' := [(2, .null), (0, .ref aX), (1, .int a1)]) hx hb dX4_next_5 rfl hl (by decide) rfl (fun ls hl => ?_)
    refine lv_aload_nN hx hb dX4_next_6 rfl (lv_at hl 0 rfl) ?_
    refine lv_ifnullN (tgt := 25) hx hb dX4_next_7 (by decide) ?_
    exact b_X_next_25 E hA hK R sc4 h H locs ls hP hD hS (lv_sub hl [] rfl)
  | some kr_2 =>
    replace h := kq_s h
    refine W.eq (g2 := F0 m 5 ls [.ref (sA kr_2)]) rfl ?_
    obtain ⟨hc_3, h⟩ := kp_in h
    refine lv_astore_n (lv' := [(2, .ref (sA kr_2)), (0, .ref aX), (1, .int a1)]) hx hb dX4_next_5 rfl hl (by decide) rfl (fun ls hl => ?_)
    refine lv_aload_n hx hb dX4_next_6 rfl (lv_at hl 0 rfl) ?_
    refine lv_ifnull hx hb dX4_next_7 ?_
    refine lv_aload_n hx hb dX4_next_10 rfl (lv_at hl 0 rfl) ?_
    refine lv_aload_n hx hb dX4_next_11 rfl (lv_at hl 1 rfl) ?_
    refine va_get (D := (dC, dI)) (ci := 4) (v := .ref aM) (C := RX4) (T := TX4) (N := 6) hx hb hts iw_X_next_X hown hK hP 0 rfl rfl 1 (by decide) (hts _ mm_X_next_0) (fun _ h9 => h9) rfl dX4_next_12 ?_
    obtain ⟨r_4, hr_4, h⟩ := kp_bind h
    refine sxm_I (k := kr_2) (g := ((sc4 kr_2).1, (sc4 kr_2).2.1, (sc4 kr_2).2.2.1, (sc4 kr_2).2.2.2.1, (sc4 kr_2).2.2.2.2.1, (sc4 kr_2).2.2.2.2.2.1, r_4.2.1, r_4.2.2)) hc_3 hP hD hS hA (va_runV (As := [.ref aM]) (rest := []) ⟨hx, hb, hml, hown, hts⟩ (c_S_move l dC dI cI cZ cS (sA kr_2) aM aMw ((sc4 kr_2).1) ((sc4 kr_2).2.1) ((sc4 kr_2).2.2.1) ((sc4 kr_2).2.2.2.1) ((sc4 kr_2).2.2.2.2.1) ((sc4 kr_2).2.2.2.2.2.1) ((sc4 kr_2).2.2.2.2.2.2.1) ((sc4 kr_2).2.2.2.2.2.2.2) mm r_4 hr_4 H.size) (cwV 1 hts gX4_next_X3_move rfl rfl rfl (by decide +kernel) ⟨Nat.le_of_ble_eq_true rfl, Nat.le_of_ble_eq_true rfl⟩) (mk_preV (w0 := w_SM cI cZ cS (sA kr_2) aM aMw ((sc4 kr_2).1) ((sc4 kr_2).2.1) ((sc4 kr_2).2.2.1) ((sc4 kr_2).2.2.2.1) ((sc4 kr_2).2.2.2.2.1) ((sc4 kr_2).2.2.2.2.2.1) ((sc4 kr_2).2.2.2.2.2.2.1) ((sc4 kr_2).2.2.2.2.2.2.2) mm) (ci := 3) (q0 := 0) hN hK (sxm_P hc_3 hP) (sxm_D hc_3 hD) rfl rfl rfl) rfl rfl hl.1 rfl (lv_room (Nat.le_of_ble_eq_true rfl)) dX4_next_15 ⟨Nat.zero_le _, Nat.zero_le _⟩) rfl (fun H locs hP hD hS => ?_)
    refine lv_if_eq (tgt := 25) hx hb dX4_next_18 (by decide) (fun c_5 => ?_) (fun c_5 => ?_)
    · replace h := (kp_if h).1 c_5
      exact b_X_next_25 E hA hK R (va_up sc4 kr_2 ((sc4 kr_2).1, (sc4 kr_2).2.1, (sc4 kr_2).2.2.1, (sc4 kr_2).2.2.2.1, (sc4 kr_2).2.2.2.2.1, (sc4 kr_2).2.2.2.2.2.1, r_4.2.1, r_4.2.2)) h H locs ls hP hD hS (lv_sub hl [] rfl)
    · replace h := (kp_if h).2 c_5
      refine lv_iconst (v := 1) hx hb dX4_next_21 (by decide) ?_
      refine lv_goto (tgt := 26) hx hb dX4_next_22 (by decide) ?_
      exact b_X_next_26 E hA hK R 1 (va_up sc4 kr_2 ((sc4 kr_2).1, (sc4 kr_2).2.1, (sc4 kr_2).2.2.1, (sc4 kr_2).2.2.2.1, (sc4 kr_2).2.2.2.2.1, (sc4 kr_2).2.2.2.2.2.1, r_4.2.1, r_4.2.2)) h H locs ls hP hD hS (lv_sub hl [] rfl)

/- X.col(II)I -/
set_option maxRecDepth 20000 in
theorem mm_X_col_0 : Cond.fieldLink RX4 19 "JournaledTables" "memory" "LJournaledTables$Memory;" ∈ wsX4_col := by decide +kernel
set_option maxRecDepth 20000 in
theorem iw_X_col_X : ∀ w ∈ u_ws RX4 TX4 6, w ∈ wsX4_col := by decide +kernel
set_option maxHeartbeats 4000000 in
set_option maxRecDepth 100000 in
theorem b_X_col_23 {p : Program} {l : Launch} {e : Env} {s : State} {m : MethodId} {below : List Frame} {meth : Method} {c : Code} {A : Nat → Prop} {dC : Nat → ClassId} {dI : Nat → Nat → Nat} {cI cZ cS : ClassId} {aX aD aDw aM aMw aJ aJh aSa aSt : Nat} {sA : Nat → Nat} {tx : Int32} {pw : Int32} {wl : Int32} {wn : Int32} {dk : Nat → Int32} {mm : Nat → Int32} {hd : Nat → Int32} {sg : Nat → Int32} {sc4 : Nat → SCT} {a1 : Int32} {a2 : Int32} (E : mk_En p s m meth c cX4_col 4 (some .int) ([.ref aX, .int a1, .int a2] : List Value).toArray wsX4_col yX4_col.cls) (hA : ∀ q : Nat, s.heap.size ≤ q → A q) (hK : va_K (dC, dI) vwCl (tyz cI cZ cS) s) (R : Int32) (z0 : Int32) (h : p_X_col_23 pw mm sc4 z0 = some R) : ∀ (H : Heap) (locs : List Loc) (ls : Array Slot), va_P (dC, dI) vwCl (w_X cI cZ cS aX aD aDw aM aMw aJ aJh aSa aSt sA tx pw wl wn dk mm hd sg sc4) H → va_D A (w_X cI cZ cS aX aD aDw aM aMw aJ aJh aSa aSt sA tx pw wl wn dk mm hd sg sc4) → va_S A s.heap H locs → lv_has ls 4 [] → W p l e ({ frames := 4, cells := 0, slots := 0, locals := 86 } : Room) s m ([.ref aX, .int a1, .int a2] : List Value).toArray below meth c H locs 0 0 (MQ below (mk_QR (dC, dI) vwCl (tyz cI cZ cS) A (w_X cI cZ cS aX aD aDw aM aMw aJ aJh aSa aSt sA tx pw wl wn dk mm hd sg sc4) R) ([.ref aX, .int a1, .int a2] : List Value).toArray s 0 0 A) (F0 m 23 ls [.int z0]) := by
  intro H locs ls hP hD hS hl
  obtain ⟨⟨hx, hb, hml, hown, hts⟩, hrt, hlk, hN⟩ := id E
  have hown : s.vm.findClass RX4 = some m.cls := hown
  unfold p_X_col_23 at h
  cases h
  exact mk_iretR E hK hP hD hS dX4_col_23
set_option maxHeartbeats 4000000 in
set_option maxRecDepth 100000 in
theorem c_X_col (l : Launch) (dC : Nat → ClassId) (dI : Nat → Nat → Nat) (cI cZ cS : ClassId) (aX aD aDw aM aMw aJ aJh aSa aSt : Nat) (sA : Nat → Nat) (tx : Int32) (pw : Int32) (wl : Int32) (wn : Int32) (dk : Nat → Int32) (mm : Nat → Int32) (hd : Nat → Int32) (sg : Nat → Int32) (sc4 : Nat → SCT) (a1 : Int32) (a2 : Int32) : CtR l yX4_col wsX4_col ({ frames := 4, cells := 0, slots := 0, locals := 86 }) (dC, dI) vwCl (tyz cI cZ cS) [.ref aX, .int a1, .int a2] (w_X cI cZ cS aX aD aDw aM aMw aJ aJh aSa aSt sA tx pw wl wn dk mm hd sg sc4) (p_X_col pw mm sc4 a1 a2) := by
  intro R h
  refine mk_enter (Qc := (fun A => mk_QR (dC, dI) vwCl (tyz cI cZ cS) A (w_X cI cZ cS aX aD aDw aM aMw aJ aJh aSa aSt sA tx pw wl wn dk mm hd sg sc4) R)) (by decide) rfl (Nat.le_of_ble_eq_true rfl) ?_
  intro p e s m below meth c A E hA hK H locs ls hP hD hS hl
  obtain ⟨⟨hx, hb, hml, hown, hts⟩, hrt, hlk, hN⟩ := id E
  have hown : s.vm.findClass RX4 = some m.cls := hown
  have hl : lv_has ls 4 [(0, .ref aX), (1, .int a1), (2, .int a2)] := hl
  unfold p_X_col at h
  refine lv_aload_n hx hb dX4_col_0 rfl (lv_at hl 0 rfl) ?_
  refine lv_iload_n hx hb dX4_col_1 rfl (lv_at hl 1 rfl) ?_
  obtain ⟨r_1, hr_1, h⟩ := kp_bind h
  refine mk_contQ (w := w_X cI cZ cS aX aD aDw aM aMw aJ aJh aSa aSt sA tx pw wl wn dk mm hd sg sc4) (w0 := w_X cI cZ cS aX aD aDw aM aMw aJ aJh aSa aSt sA tx pw wl wn dk mm hd sg sc4) (wr := []) hP hD hS hA [0, 1, 2, 3, 4, 5, 6, 7, 8, 9, 10, 11, 12] [] rfl rfl (by decide) (by decide) [0, 1, 2, 3, 4, 5, 6, 7, 8, 9, 10, 11, 12] rfl (by decide) (va_runV (As := [.int a1]) (rest := []) ⟨hx, hb, hml, hown, hts⟩ (c_X_usableScan l dC dI cI cZ cS aX aD aDw aM aMw aJ aJh aSa aSt sA tx pw wl wn dk mm hd sg sc4 a1 (Option.map sA r_1) (congrArg (Option.map (Option.map sA)) hr_1) H.size) (cwV 1 hts gX4_col_X4_usableScan rfl rfl rfl (by decide +kernel) ⟨Nat.le_of_ble_eq_true rfl, Nat.le_of_ble_eq_true rfl⟩) (mk_preV (w0 := w_X cI cZ cS aX aD aDw aM aMw aJ aJh aSa aSt sA tx pw wl wn dk mm hd sg sc4) (ci := 4) (q0 := 0) hN hK (mk_pick hP [0, 1, 2, 3, 4, 5, 6, 7, 8, 9, 10, 11, 12] rfl) (hD.sub [0, 1, 2, 3, 4, 5, 6, 7, 8, 9, 10, 11, 12] (by decide) rfl) rfl rfl rfl) rfl rfl hl.1 rfl (lv_room (Nat.le_of_ble_eq_true rfl)) dX4_col_2 ⟨Nat.zero_le _, Nat.zero_le _⟩) (fun H locs hP hD hS => ?_)
  cases r_1 with
  | none =>
    replace h := kq_n h
    refine W.eq (g2 := F0 m 5 ls [.null]) rfl ?_
    refine lv_astore_nN (lv' := [(3, .null), (0, .ref aX), (1, .int a1), (2, .int a2)]) hx hb dX4_col_5 rfl hl (by decide) rfl (fun ls hl => ?_)
    refine lv_aload_nN hx hb dX4_col_6 rfl (lv_at hl 0 rfl) ?_
    refine lv_ifnonnullN hx hb dX4_col_7 ?_
    refine lv_iconst (v := 0) hx hb dX4_col_10 (by decide) ?_
    refine lv_goto (tgt := 23) hx hb dX4_col_11 (by decide) ?_
    exact b_X_col_23 E hA hK R 0 h H locs ls hP hD hS (lv_sub hl [] rfl)
  | some kr_1 =>
    replace h := kq_s h
    refine W.eq (g2 := F0 m 5 ls [.ref (sA kr_1)]) rfl ?_
    obtain ⟨hc_2, h⟩ := kp_in h
    refine lv_astore_n (lv' := [(3, .ref (sA kr_1)), (0, .ref aX), (1, .int a1), (2, .int a2)]) hx hb dX4_col_5 rfl hl (by decide) rfl (fun ls hl => ?_)
    refine lv_aload_n hx hb dX4_col_6 rfl (lv_at hl 0 rfl) ?_
    refine lv_ifnonnull (tgt := 14) hx hb dX4_col_7 (by decide) ?_
    refine lv_aload_n hx hb dX4_col_14 rfl (lv_at hl 0 rfl) ?_
    refine lv_aload_n hx hb dX4_col_15 rfl (lv_at hl 1 rfl) ?_
    refine va_get (D := (dC, dI)) (ci := 4) (v := .ref aM) (C := RX4) (T := TX4) (N := 6) hx hb hts iw_X_col_X hown hK hP 0 rfl rfl 1 (by decide) (hts _ mm_X_col_0) (fun _ h9 => h9) rfl dX4_col_16 ?_
    refine lv_iload_n hx hb dX4_col_19 rfl (lv_at hl 3 rfl) ?_
    obtain ⟨r_3, hr_3, h⟩ := kp_bind h
    refine sxm_R (k := kr_1) hc_2 hP hD hS hA (va_runV (As := [.ref aM, .int a2]) (rest := []) ⟨hx, hb, hml, hown, hts⟩ (c_S_wordAt l dC dI cI cZ cS (sA kr_1) aM aMw ((sc4 kr_1).1) ((sc4 kr_1).2.1) ((sc4 kr_1).2.2.1) ((sc4 kr_1).2.2.2.1) ((sc4 kr_1).2.2.2.2.1) ((sc4 kr_1).2.2.2.2.2.1) ((sc4 kr_1).2.2.2.2.2.2.1) ((sc4 kr_1).2.2.2.2.2.2.2) mm a2 r_3 hr_3 H.size) (cwV 2 hts gX4_col_X3_wordAt rfl rfl rfl (by decide +kernel) ⟨Nat.le_of_ble_eq_true rfl, Nat.le_of_ble_eq_true rfl⟩) (mk_preV (w0 := w_SM cI cZ cS (sA kr_1) aM aMw ((sc4 kr_1).1) ((sc4 kr_1).2.1) ((sc4 kr_1).2.2.1) ((sc4 kr_1).2.2.2.1) ((sc4 kr_1).2.2.2.2.1) ((sc4 kr_1).2.2.2.2.2.1) ((sc4 kr_1).2.2.2.2.2.2.1) ((sc4 kr_1).2.2.2.2.2.2.2) mm) (ci := 3) (q0 := 0) hN hK (sxm_P hc_2 hP) (sxm_D hc_2 hD) rfl rfl rfl) rfl rfl hl.1 rfl (lv_room (Nat.le_of_ble_eq_true rfl)) dX4_col_20 ⟨Nat.zero_le _, Nat.zero_le _⟩) (fun H locs hP hD hS => ?_)
    exact b_X_col_23 E hA hK R r_3 h H locs ls hP hD hS (lv_sub hl [] rfl)

/- X.closeScan(I)I -/
set_option maxRecDepth 20000 in
theorem mm_X_closeScan_0 : Cond.fieldLink RX4 10 "JournaledTables" "disk" "LJournaledTables$Disk;" ∈ wsX4_closeScan := by decide +kernel
set_option maxRecDepth 20000 in
theorem iw_X_closeScan_X : ∀ w ∈ u_ws RX4 TX4 6, w ∈ wsX4_closeScan := by decide +kernel
set_option maxHeartbeats 4000000 in
set_option maxRecDepth 100000 in
theorem c_X_closeScan (l : Launch) (dC : Nat → ClassId) (dI : Nat → Nat → Nat) (cI cZ cS : ClassId) (aX aD aDw aM aMw aJ aJh aSa aSt : Nat) (sA : Nat → Nat) (tx : Int32) (pw : Int32) (wl : Int32) (wn : Int32) (dk : Nat → Int32) (mm : Nat → Int32) (hd : Nat → Int32) (sg : Nat → Int32) (sc4 : Nat → SCT) (a1 : Int32) : CtI l yX4_closeScan wsX4_closeScan ({ frames := 2, cells := 0, slots := 0, locals := 41 }) (dC, dI) vwCl (tyz cI cZ cS) [.ref aX, .int a1] (w_X cI cZ cS aX aD aDw aM aMw aJ aJh aSa aSt sA tx pw wl wn dk mm hd sg sc4) (fun u : (Nat → SCT) => w_X cI cZ cS aX aD aDw aM aMw aJ aJh aSa aSt sA tx pw wl wn dk mm hd sg u) (p_X_closeScan pw sc4 a1) := by
  intro R h
  refine mk_enter (Qc := (fun A => mk_QI (dC, dI) vwCl (tyz cI cZ cS) A (fun u : (Nat → SCT) => w_X cI cZ cS aX aD aDw aM aMw aJ aJh aSa aSt sA tx pw wl wn dk mm hd sg u) R)) (by decide) rfl (Nat.le_of_ble_eq_true rfl) ?_
  intro p e s m below meth c A E hA hK H locs ls hP hD hS hl
  obtain ⟨⟨hx, hb, hml, hown, hts⟩, hrt, hlk, hN⟩ := id E
  have hown : s.vm.findClass RX4 = some m.cls := hown
  have hl : lv_has ls 3 [(0, .ref aX), (1, .int a1)] := hl
  unfold p_X_closeScan at h
  refine lv_aload_n hx hb dX4_closeScan_0 rfl (lv_at hl 0 rfl) ?_
  refine va_get (D := (dC, dI)) (ci := 4) (v := .ref aD) (C := RX4) (T := TX4) (N := 6) hx hb hts iw_X_closeScan_X hown hK hP 0 rfl rfl 0 (by decide) (hts _ mm_X_closeScan_0) (fun _ h9 => h9) rfl dX4_closeScan_1 ?_
  obtain ⟨r_1, hr_1, h⟩ := kp_bind h
  refine mk_contR (w := w_X cI cZ cS aX aD aDw aM aMw aJ aJh aSa aSt sA tx pw wl wn dk mm hd sg sc4) (w0 := w_D cI cZ cS aD aDw pw wl wn dk) (wr := [(aX, .inr (4, [.ref aD, .ref aM, .ref aJ, .ref aSa, .ref aSt, .int tx])), (aM, .inr (2, [.ref aMw])), (aMw, .inl (cI, 256, .inl mm)), (aJ, .inr (1, [.ref aD, .ref aM, .ref aJh])), (aJh, .inl (cI, 16, .inl hd)), (aSa, .inl (cS, 4, .inr (.inr (.inr (.inr (fun j => some (sA j))))))), (aSt, .inl (cI, 6, .inl sg)), (sA 0, scv (sc4 0)), (sA 1, scv (sc4 1)), (sA 2, scv (sc4 2)), (sA 3, scv (sc4 3))]) hP hD hS hA [1, 2] [0, 3, 4, 5, 6, 7, 8, 9, 10, 11, 12] rfl rfl (by decide) (by decide) [0, 11, 12, 1, 2, 3, 4, 5, 6, 7, 8, 9, 10] rfl (by decide) (va_runV (As := []) (rest := []) ⟨hx, hb, hml, hown, hts⟩ (c_D_powered l dC dI cI cZ cS aD aDw pw wl wn dk r_1 hr_1 H.size) (cwV 0 hts gX4_closeScan_X0_powered rfl rfl rfl (by decide +kernel) ⟨Nat.le_of_ble_eq_true rfl, Nat.le_of_ble_eq_true rfl⟩) (mk_preV (w0 := w_D cI cZ cS aD aDw pw wl wn dk) (ci := 0) (q0 := 0) hN hK (mk_pick hP [1, 2] rfl) (hD.sub [1, 2] (by decide) rfl) rfl rfl rfl) rfl rfl hl.1 rfl (lv_room (Nat.le_of_ble_eq_true rfl)) dX4_closeScan_4 ⟨Nat.zero_le _, Nat.zero_le _⟩) (fun H locs hP hD hS => ?_)
  refine lv_if_ne (tgt := 12) hx hb dX4_closeScan_7 (by decide) (fun c_2 => ?_) (fun c_2 => ?_)
  · replace h := (kp_if h).2 c_2
    refine lv_aload_n hx hb dX4_closeScan_12 rfl (lv_at hl 0 rfl) ?_
    refine lv_iload_n hx hb dX4_closeScan_13 rfl (lv_at hl 1 rfl) ?_
    obtain ⟨r_3, hr_3, h⟩ := kp_bind h
    refine mk_contQ (w := w_X cI cZ cS aX aD aDw aM aMw aJ aJh aSa aSt sA tx pw wl wn dk mm hd sg sc4) (w0 := w_X cI cZ cS aX aD aDw aM aMw aJ aJh aSa aSt sA tx pw wl wn dk mm hd sg sc4) (wr := []) hP hD hS hA [0, 1, 2, 3, 4, 5, 6, 7, 8, 9, 10, 11, 12] [] rfl rfl (by decide) (by decide) [0, 1, 2, 3, 4, 5, 6, 7, 8, 9, 10, 11, 12] rfl (by decide) (va_runV (As := [.int a1]) (rest := []) ⟨hx, hb, hml, hown, hts⟩ (c_X_scanOf l dC dI cI cZ cS aX aD aDw aM aMw aJ aJh aSa aSt sA tx pw wl wn dk mm hd sg sc4 a1 (Option.map sA r_3) (congrArg (Option.map (Option.map sA)) hr_3) H.size) (cwV 1 hts gX4_closeScan_X4_scanOf rfl rfl rfl (by decide +kernel) ⟨Nat.le_of_ble_eq_true rfl, Nat.le_of_ble_eq_true rfl⟩) (mk_preV (w0 := w_X cI cZ cS aX aD aDw aM aMw aJ aJh aSa aSt sA tx pw wl wn dk mm hd sg sc4) (ci := 4) (q0 := 0) hN hK (mk_pick hP [0, 1, 2, 3, 4, 5, 6, 7, 8, 9, 10, 11, 12] rfl) (hD.sub [0, 1, 2, 3, 4, 5, 6, 7, 8, 9, 10, 11, 12] (by decide) rfl) rfl rfl rfl) rfl rfl hl.1 rfl (lv_room (Nat.le_of_ble_eq_true rfl)) dX4_closeScan_14 ⟨Nat.zero_le _, Nat.zero_le _⟩) (fun H locs hP hD hS => ?_)
    cases r_3 with
    | none =>
      replace h := kq_n h
      refine W.eq (g2 := F0 m 17 ls [.null]) rfl ?_
      refine lv_astore_nN (lv' := [(2, .null), (0, .ref aX), (1, .int a1)]) hx hb dX4_closeScan_17 rfl hl (by decide) rfl (fun ls hl => ?_)
      refine lv_aload_nN hx hb dX4_closeScan_18 rfl (lv_at hl 0 rfl) ?_
      refine lv_ifnonnullN hx hb dX4_closeScan_19 ?_
      refine lv_bipush (v := (-9)) hx hb dX4_closeScan_22 (by decide) ?_
      cases h
      exact mk_iret E hK hP hD hS dX4_closeScan_24
    | some kr_3 =>
      replace h := kq_s h
      refine W.eq (g2 := F0 m 17 ls [.ref (sA kr_3)]) rfl ?_
      obtain ⟨hc_4, h⟩ := kp_in h
      refine lv_astore_n (lv' := [(2, .ref (sA kr_3)), (0, .ref aX), (1, .int a1)]) hx hb dX4_closeScan_17 rfl hl (by decide) rfl (fun ls hl => ?_)
      refine lv_aload_n hx hb dX4_closeScan_18 rfl (lv_at hl 0 rfl) ?_
      refine lv_ifnonnull (tgt := 25) hx hb dX4_closeScan_19 (by decide) ?_
      refine lv_aload_n hx hb dX4_closeScan_25 rfl (lv_at hl 0 rfl) ?_
      obtain ⟨r_5, hr_5, h⟩ := kp_bind h
      refine sx_V (k := kr_3) (g := (r_5, (sc4 kr_3).2.1, (sc4 kr_3).2.2.1, (sc4 kr_3).2.2.2.1, (sc4 kr_3).2.2.2.2.1, (sc4 kr_3).2.2.2.2.2.1, (sc4 kr_3).2.2.2.2.2.2.1, (sc4 kr_3).2.2.2.2.2.2.2)) hc_4 hP hD hS hA (va_runV (As := []) (rest := []) ⟨hx, hb, hml, hown, hts⟩ (c_S_end l dC dI cI cZ cS (sA kr_3) ((sc4 kr_3).1) ((sc4 kr_3).2.1) ((sc4 kr_3).2.2.1) ((sc4 kr_3).2.2.2.1) ((sc4 kr_3).2.2.2.2.1) ((sc4 kr_3).2.2.2.2.2.1) ((sc4 kr_3).2.2.2.2.2.2.1) ((sc4 kr_3).2.2.2.2.2.2.2) r_5 hr_5 H.size) (cwV 0 hts gX4_closeScan_X3_end rfl rfl rfl (by decide +kernel) ⟨Nat.le_of_ble_eq_true rfl, Nat.le_of_ble_eq_true rfl⟩) (mk_preV (w0 := w_S cI cZ cS (sA kr_3) ((sc4 kr_3).1) ((sc4 kr_3).2.1) ((sc4 kr_3).2.2.1) ((sc4 kr_3).2.2.2.1) ((sc4 kr_3).2.2.2.2.1) ((sc4 kr_3).2.2.2.2.2.1) ((sc4 kr_3).2.2.2.2.2.2.1) ((sc4 kr_3).2.2.2.2.2.2.2)) (ci := 3) (q0 := 0) hN hK (sx_P hc_4 hP) (sx_D hc_4 hD) rfl rfl rfl) rfl rfl hl.1 rfl (lv_room (Nat.le_of_ble_eq_true rfl)) dX4_closeScan_26 ⟨Nat.zero_le _, Nat.zero_le _⟩) rfl (fun H locs hP hD hS => ?_)
      refine lv_iconst (v := 0) hx hb dX4_closeScan_29 (by decide) ?_
      cases h
      exact mk_iret E hK hP hD hS dX4_closeScan_30
  · replace h := (kp_if h).1 c_2
    refine lv_iconst (v := (-1)) hx hb dX4_closeScan_10 (by decide) ?_
    cases h
    exact mk_iret E hK hP hD hS dX4_closeScan_11

/- X.crashAfter(I)I -/
set_option maxRecDepth 20000 in
theorem mm_X_crashAfter_0 : Cond.fieldLink RX4 10 "JournaledTables" "disk" "LJournaledTables$Disk;" ∈ wsX4_crashAfter := by decide +kernel
set_option maxRecDepth 20000 in
theorem iw_X_crashAfter_X : ∀ w ∈ u_ws RX4 TX4 6, w ∈ wsX4_crashAfter := by decide +kernel
set_option maxHeartbeats 4000000 in
set_option maxRecDepth 100000 in
theorem c_X_crashAfter (l : Launch) (dC : Nat → ClassId) (dI : Nat → Nat → Nat) (cI cZ cS : ClassId) (aX aD aDw aM aMw aJ aJh aSa aSt : Nat) (sA : Nat → Nat) (tx : Int32) (pw : Int32) (wl : Int32) (wn : Int32) (dk : Nat → Int32) (mm : Nat → Int32) (hd : Nat → Int32) (sg : Nat → Int32) (sc4 : Nat → SCT) (a1 : Int32) : CtI l yX4_crashAfter wsX4_crashAfter ({ frames := 1, cells := 0, slots := 0, locals := 21 }) (dC, dI) vwCl (tyz cI cZ cS) [.ref aX, .int a1] (w_X cI cZ cS aX aD aDw aM aMw aJ aJh aSa aSt sA tx pw wl wn dk mm hd sg sc4) (fun u : Int32 => w_X cI cZ cS aX aD aDw aM aMw aJ aJh aSa aSt sA tx pw u wn dk mm hd sg sc4) (p_X_crashAfter wl a1) := by
  intro R h
  refine mk_enter (Qc := (fun A => mk_QI (dC, dI) vwCl (tyz cI cZ cS) A (fun u : Int32 => w_X cI cZ cS aX aD aDw aM aMw aJ aJh aSa aSt sA tx pw u wn dk mm hd sg sc4) R)) (by decide) rfl (Nat.le_of_ble_eq_true rfl) ?_
  intro p e s m below meth c A E hA hK H locs ls hP hD hS hl
  obtain ⟨⟨hx, hb, hml, hown, hts⟩, hrt, hlk, hN⟩ := id E
  have hown : s.vm.findClass RX4 = some m.cls := hown
  have hl : lv_has ls 2 [(0, .ref aX), (1, .int a1)] := hl
  unfold p_X_crashAfter at h
  refine lv_iload_n hx hb dX4_crashAfter_0 rfl (lv_at hl 1 rfl) ?_
  refine lv_if_ge (tgt := 7) hx hb dX4_crashAfter_1 (by decide) (fun c_1 => ?_) (fun c_1 => ?_)
  · replace h := (kp_if h).1 c_1
    refine lv_aload_n hx hb dX4_crashAfter_7 rfl (lv_at hl 0 rfl) ?_
    refine va_get (D := (dC, dI)) (ci := 4) (v := .ref aD) (C := RX4) (T := TX4) (N := 6) hx hb hts iw_X_crashAfter_X hown hK hP 0 rfl rfl 0 (by decide) (hts _ mm_X_crashAfter_0) (fun _ h9 => h9) rfl dX4_crashAfter_8 ?_
    refine lv_iload_n hx hb dX4_crashAfter_11 rfl (lv_at hl 1 rfl) ?_
    obtain ⟨r_2, hr_2, h⟩ := kp_bind h
    refine mk_contV (w := w_X cI cZ cS aX aD aDw aM aMw aJ aJh aSa aSt sA tx pw wl wn dk mm hd sg sc4) (w0 := w_D cI cZ cS aD aDw pw wl wn dk) (wr := [(aX, .inr (4, [.ref aD, .ref aM, .ref aJ, .ref aSa, .ref aSt, .int tx])), (aM, .inr (2, [.ref aMw])), (aMw, .inl (cI, 256, .inl mm)), (aJ, .inr (1, [.ref aD, .ref aM, .ref aJh])), (aJh, .inl (cI, 16, .inl hd)), (aSa, .inl (cS, 4, .inr (.inr (.inr (.inr (fun j => some (sA j))))))), (aSt, .inl (cI, 6, .inl sg)), (sA 0, scv (sc4 0)), (sA 1, scv (sc4 1)), (sA 2, scv (sc4 2)), (sA 3, scv (sc4 3))]) (w2 := w_X cI cZ cS aX aD aDw aM aMw aJ aJh aSa aSt sA tx pw r_2 wn dk mm hd sg sc4) hP hD hS hA [1, 2] [0, 3, 4, 5, 6, 7, 8, 9, 10, 11, 12] rfl rfl (by decide) (by decide) [0, 11, 12, 1, 2, 3, 4, 5, 6, 7, 8, 9, 10] rfl (by decide) (va_runV (As := [.int a1]) (rest := []) ⟨hx, hb, hml, hown, hts⟩ (c_D_failAfter l dC dI cI cZ cS aD aDw pw wl wn dk a1 r_2 hr_2 H.size) (cwV 1 hts gX4_crashAfter_X0_failAfter rfl rfl rfl (by decide +kernel) ⟨Nat.le_of_ble_eq_true rfl, Nat.le_of_ble_eq_true rfl⟩) (mk_preV (w0 := w_D cI cZ cS aD aDw pw wl wn dk) (ci := 0) (q0 := 0) hN hK (mk_pick hP [1, 2] rfl) (hD.sub [1, 2] (by decide) rfl) rfl rfl rfl) rfl rfl hl.1 rfl (lv_room (Nat.le_of_ble_eq_true rfl)) dX4_crashAfter_12 ⟨Nat.zero_le _, Nat.zero_le _⟩) (fun H locs hP hD hS => ?_)
    refine lv_iconst (v := 0) hx hb dX4_crashAfter_15 (by decide) ?_
    cases h
    exact mk_iret E hK hP hD hS dX4_crashAfter_16
  · replace h := (kp_if h).2 c_1
    refine lv_bipush (v := (-4)) hx hb dX4_crashAfter_4 (by decide) ?_
    cases h
    exact mk_iret E hK hP hD hS dX4_crashAfter_6

/- X.recover()I -/
set_option maxRecDepth 20000 in
theorem mm_X_recover_0 : Cond.fieldLink RX4 10 "JournaledTables" "disk" "LJournaledTables$Disk;" ∈ wsX4_recover := by decide +kernel
set_option maxRecDepth 20000 in
theorem iw_X_recover_X : ∀ w ∈ u_ws RX4 TX4 6, w ∈ wsX4_recover := by decide +kernel
set_option maxRecDepth 20000 in
theorem mm_X_recover_2 : Cond.fieldLink RX4 28 "JournaledTables" "journal" "LJournaledTables$Journal;" ∈ wsX4_recover := by decide +kernel
set_option maxHeartbeats 4000000 in
set_option maxRecDepth 100000 in
theorem c_X_recover (l : Launch) (dC : Nat → ClassId) (dI : Nat → Nat → Nat) (cI cZ cS : ClassId) (aX aD aDw aM aMw aJ aJh aSa aSt : Nat) (sA : Nat → Nat) (tx : Int32) (pw : Int32) (wl : Int32) (wn : Int32) (dk : Nat → Int32) (mm : Nat → Int32) (hd : Nat → Int32) (sg : Nat → Int32) (sc4 : Nat → SCT) : CtI l yX4_recover wsX4_recover ({ frames := 5, cells := 0, slots := 0, locals := 106 }) (dC, dI) vwCl (tyz cI cZ cS) [.ref aX] (w_X cI cZ cS aX aD aDw aM aMw aJ aJh aSa aSt sA tx pw wl wn dk mm hd sg sc4) (fun u : Int32 × Int32 × Int32 × Int32 × (Nat → Int32) × (Nat → Int32) × (Nat → Int32) × (Nat → SCT) => w_X cI cZ cS aX aD aDw aM aMw aJ aJh aSa aSt sA u.1 u.2.1 u.2.2.1 u.2.2.2.1 u.2.2.2.2.1 u.2.2.2.2.2.1 u.2.2.2.2.2.2.1 sg u.2.2.2.2.2.2.2) (p_X_recover tx pw wl wn dk mm hd sc4) := by
  intro R h
  refine mk_enter (Qc := (fun A => mk_QI (dC, dI) vwCl (tyz cI cZ cS) A (fun u : Int32 × Int32 × Int32 × Int32 × (Nat → Int32) × (Nat → Int32) × (Nat → Int32) × (Nat → SCT) => w_X cI cZ cS aX aD aDw aM aMw aJ aJh aSa aSt sA u.1 u.2.1 u.2.2.1 u.2.2.2.1 u.2.2.2.2.1 u.2.2.2.2.2.1 u.2.2.2.2.2.2.1 sg u.2.2.2.2.2.2.2) R)) (by decide) rfl (Nat.le_of_ble_eq_true rfl) ?_
  intro p e s m below meth c A E hA hK H locs ls hP hD hS hl
  obtain ⟨⟨hx, hb, hml, hown, hts⟩, hrt, hlk, hN⟩ := id E
  have hown : s.vm.findClass RX4 = some m.cls := hown
  have hl : lv_has ls 1 [(0, .ref aX)] := hl
  unfold p_X_recover at h
  refine lv_aload_n hx hb dX4_recover_0 rfl (lv_at hl 0 rfl) ?_
  refine va_get (D := (dC, dI)) (ci := 4) (v := .ref aD) (C := RX4) (T := TX4) (N := 6) hx hb hts iw_X_recover_X hown hK hP 0 rfl rfl 0 (by decide) (hts _ mm_X_recover_0) (fun _ h9 => h9) rfl dX4_recover_1 ?_
  obtain ⟨r_1, hr_1, h⟩ := kp_bind h
  refine mk_contV (w := w_X cI cZ cS aX aD aDw aM aMw aJ aJh aSa aSt sA tx pw wl wn dk mm hd sg sc4) (w0 := w_D cI cZ cS aD aDw pw wl wn dk) (wr := [(aX, .inr (4, [.ref aD, .ref aM, .ref aJ, .ref aSa, .ref aSt, .int tx])), (aM, .inr (2, [.ref aMw])), (aMw, .inl (cI, 256, .inl mm)), (aJ, .inr (1, [.ref aD, .ref aM, .ref aJh])), (aJh, .inl (cI, 16, .inl hd)), (aSa, .inl (cS, 4, .inr (.inr (.inr (.inr (fun j => some (sA j))))))), (aSt, .inl (cI, 6, .inl sg)), (sA 0, scv (sc4 0)), (sA 1, scv (sc4 1)), (sA 2, scv (sc4 2)), (sA 3, scv (sc4 3))]) (w2 := w_X cI cZ cS aX aD aDw aM aMw aJ aJh aSa aSt sA tx r_1 wl wn dk mm hd sg sc4) hP hD hS hA [1, 2] [0, 3, 4, 5, 6, 7, 8, 9, 10, 11, 12] rfl rfl (by decide) (by decide) [0, 11, 12, 1, 2, 3, 4, 5, 6, 7, 8, 9, 10] rfl (by decide) (va_runV (As := []) (rest := []) ⟨hx, hb, hml, hown, hts⟩ (c_D_powerOn l dC dI cI cZ cS aD aDw pw wl wn dk r_1 hr_1 H.size) (cwV 0 hts gX4_recover_X0_powerOn rfl rfl rfl (by decide +kernel) ⟨Nat.le_of_ble_eq_true rfl, Nat.le_of_ble_eq_true rfl⟩) (mk_preV (w0 := w_D cI cZ cS aD aDw pw wl wn dk) (ci := 0) (q0 := 0) hN hK (mk_pick hP [1, 2] rfl) (hD.sub [1, 2] (by decide) rfl) rfl rfl rfl) rfl rfl hl.1 rfl (lv_room (Nat.le_of_ble_eq_true rfl)) dX4_recover_4 ⟨Nat.zero_le _, Nat.zero_le _⟩) (fun H locs hP hD hS => ?_)
  refine lv_aload_n hx hb dX4_recover_7 rfl (lv_at hl 0 rfl) ?_
  refine va_get (D := (dC, dI)) (ci := 4) (v := .ref aJ) (C := RX4) (T := TX4) (N := 6) hx hb hts iw_X_recover_X hown hK hP 0 rfl rfl 2 (by decide) (hts _ mm_X_recover_2) (fun _ h9 => h9) rfl dX4_recover_8 ?_
  obtain ⟨r_2, hr_2, h⟩ := kp_bind h
  refine mk_contI (w := w_X cI cZ cS aX aD aDw aM aMw aJ aJh aSa aSt sA tx r_1 wl wn dk mm hd sg sc4) (w0 := w_J cI cZ cS aJ aJh aD aDw aM aMw hd r_1 wl wn dk mm) (wr := [(aX, .inr (4, [.ref aD, .ref aM, .ref aJ, .ref aSa, .ref aSt, .int tx])), (aSa, .inl (cS, 4, .inr (.inr (.inr (.inr (fun j => some (sA j))))))), (aSt, .inl (cI, 6, .inl sg)), (sA 0, scv (sc4 0)), (sA 1, scv (sc4 1)), (sA 2, scv (sc4 2)), (sA 3, scv (sc4 3))]) (w2 := w_X cI cZ cS aX aD aDw aM aMw aJ aJh aSa aSt sA tx r_2.2.2.1 r_2.2.2.2.1 r_2.2.2.2.2.1 r_2.2.2.2.2.2 mm r_2.2.1 sg sc4) hP hD hS hA [5, 6, 1, 2, 3, 4] [0, 7, 8, 9, 10, 11, 12] rfl rfl (by decide) (by decide) [0, 9, 10, 11, 12, 7, 8, 1, 2, 3, 4, 5, 6] rfl (by decide) (va_runV (As := []) (rest := []) ⟨hx, hb, hml, hown, hts⟩ (c_J_undo l dC dI cI cZ cS aJ aJh aD aDw aM aMw hd r_1 wl wn dk mm r_2 hr_2 H.size) (cwV 0 hts gX4_recover_X1_undo rfl rfl rfl (by decide +kernel) ⟨Nat.le_of_ble_eq_true rfl, Nat.le_of_ble_eq_true rfl⟩) (mk_preV (w0 := w_J cI cZ cS aJ aJh aD aDw aM aMw hd r_1 wl wn dk mm) (ci := 1) (q0 := 0) hN hK (mk_pick hP [5, 6, 1, 2, 3, 4] rfl) (hD.sub [5, 6, 1, 2, 3, 4] (by decide) rfl) rfl rfl rfl) rfl rfl hl.1 rfl (lv_room (Nat.le_of_ble_eq_true rfl)) dX4_recover_11 ⟨Nat.zero_le _, Nat.zero_le _⟩) (fun H locs hP hD hS => ?_)
  refine lv_if_ne (tgt := 19) hx hb dX4_recover_14 (by decide) (fun c_3 => ?_) (fun c_3 => ?_)
  · replace h := (kp_if h).2 c_3
    refine lv_aload_n hx hb dX4_recover_19 rfl (lv_at hl 0 rfl) ?_
    obtain ⟨r_4, hr_4, h⟩ := kp_bind h
    refine mk_contV (w := w_X cI cZ cS aX aD aDw aM aMw aJ aJh aSa aSt sA tx r_2.2.2.1 r_2.2.2.2.1 r_2.2.2.2.2.1 r_2.2.2.2.2.2 mm r_2.2.1 sg sc4) (w0 := w_X cI cZ cS aX aD aDw aM aMw aJ aJh aSa aSt sA tx r_2.2.2.1 r_2.2.2.2.1 r_2.2.2.2.2.1 r_2.2.2.2.2.2 mm r_2.2.1 sg sc4) (wr := []) (w2 := w_X cI cZ cS aX aD aDw aM aMw aJ aJh aSa aSt sA r_4.1 r_2.2.2.1 r_2.2.2.2.1 r_2.2.2.2.2.1 r_2.2.2.2.2.2 r_4.2.1 r_2.2.1 sg r_4.2.2) hP hD hS hA [0, 1, 2, 3, 4, 5, 6, 7, 8, 9, 10, 11, 12] [] rfl rfl (by decide) (by decide) [0, 1, 2, 3, 4, 5, 6, 7, 8, 9, 10, 11, 12] rfl (by decide) (va_runV (As := []) (rest := []) ⟨hx, hb, hml, hown, hts⟩ (c_X_startAnew l dC dI cI cZ cS aX aD aDw aM aMw aJ aJh aSa aSt sA tx r_2.2.2.1 r_2.2.2.2.1 r_2.2.2.2.2.1 r_2.2.2.2.2.2 mm r_2.2.1 sg sc4 r_4 hr_4 H.size) (cwV 0 hts gX4_recover_X4_startAnew rfl rfl rfl (by decide +kernel) ⟨Nat.le_of_ble_eq_true rfl, Nat.le_of_ble_eq_true rfl⟩) (mk_preV (w0 := w_X cI cZ cS aX aD aDw aM aMw aJ aJh aSa aSt sA tx r_2.2.2.1 r_2.2.2.2.1 r_2.2.2.2.2.1 r_2.2.2.2.2.2 mm r_2.2.1 sg sc4) (ci := 4) (q0 := 0) hN hK (mk_pick hP [0, 1, 2, 3, 4, 5, 6, 7, 8, 9, 10, 11, 12] rfl) (hD.sub [0, 1, 2, 3, 4, 5, 6, 7, 8, 9, 10, 11, 12] (by decide) rfl) rfl rfl rfl) rfl rfl hl.1 rfl (lv_room (Nat.le_of_ble_eq_true rfl)) dX4_recover_20 ⟨Nat.zero_le _, Nat.zero_le _⟩) (fun H locs hP hD hS => ?_)
    refine lv_iconst (v := 0) hx hb dX4_recover_23 (by decide) ?_
    cases h
    exact mk_iret E hK hP hD hS dX4_recover_24
  · replace h := (kp_if h).1 c_3
    refine lv_iconst (v := (-1)) hx hb dX4_recover_17 (by decide) ?_
    cases h
    exact mk_iret E hK hP hD hS dX4_recover_18

/- X.peek(II)I -/
set_option maxRecDepth 20000 in
theorem mm_X_peek_0 : Cond.fieldLink RX4 10 "JournaledTables" "disk" "LJournaledTables$Disk;" ∈ wsX4_peek := by decide +kernel
set_option maxRecDepth 20000 in
theorem iw_X_peek_X : ∀ w ∈ u_ws RX4 TX4 6, w ∈ wsX4_peek := by decide +kernel
set_option maxHeartbeats 4000000 in
set_option maxRecDepth 100000 in
theorem b_X_peek_20 {p : Program} {l : Launch} {e : Env} {s : State} {m : MethodId} {below : List Frame} {meth : Method} {c : Code} {A : Nat → Prop} {dC : Nat → ClassId} {dI : Nat → Nat → Nat} {cI cZ cS : ClassId} {aX aD aDw aM aMw aJ aJh aSa aSt : Nat} {sA : Nat → Nat} {tx : Int32} {pw : Int32} {wl : Int32} {wn : Int32} {dk : Nat → Int32} {mm : Nat → Int32} {hd : Nat → Int32} {sg : Nat → Int32} {sc4 : Nat → SCT} {a1 : Int32} {a2 : Int32} (E : mk_En p s m meth c cX4_peek 3 (some .int) ([.ref aX, .int a1, .int a2] : List Value).toArray wsX4_peek yX4_peek.cls) (hA : ∀ q : Nat, s.heap.size ≤ q → A q) (hK : va_K (dC, dI) vwCl (tyz cI cZ cS) s) (R : Int32) (h : p_X_peek_20 dk = some R) : ∀ (H : Heap) (locs : List Loc) (ls : Array Slot), va_P (dC, dI) vwCl (w_X cI cZ cS aX aD aDw aM aMw aJ aJh aSa aSt sA tx pw wl wn dk mm hd sg sc4) H → va_D A (w_X cI cZ cS aX aD aDw aM aMw aJ aJh aSa aSt sA tx pw wl wn dk mm hd sg sc4) → va_S A s.heap H locs → lv_has ls 3 [] → W p l e ({ frames := 1, cells := 0, slots := 0, locals := 22 } : Room) s m ([.ref aX, .int a1, .int a2] : List Value).toArray below meth c H locs 0 0 (MQ below (mk_QR (dC, dI) vwCl (tyz cI cZ cS) A (w_X cI cZ cS aX aD aDw aM aMw aJ aJh aSa aSt sA tx pw wl wn dk mm hd sg sc4) R) ([.ref aX, .int a1, .int a2] : List Value).toArray s 0 0 A) (F0 m 20 ls []) := by
  intro H locs ls hP hD hS hl
  obtain ⟨⟨hx, hb, hml, hown, hts⟩, hrt, hlk, hN⟩ := id E
  have hown : s.vm.findClass RX4 = some m.cls := hown
  unfold p_X_peek_20 at h
  refine lv_bipush (v := (-4)) hx hb dX4_peek_20 (by decide) ?_
  cases h
  exact mk_iretR E hK hP hD hS dX4_peek_22
set_option maxHeartbeats 4000000 in
set_option maxRecDepth 100000 in
theorem c_X_peek (l : Launch) (dC : Nat → ClassId) (dI : Nat → Nat → Nat) (cI cZ cS : ClassId) (aX aD aDw aM aMw aJ aJh aSa aSt : Nat) (sA : Nat → Nat) (tx : Int32) (pw : Int32) (wl : Int32) (wn : Int32) (dk : Nat → Int32) (mm : Nat → Int32) (hd : Nat → Int32) (sg : Nat → Int32) (sc4 : Nat → SCT) (a1 : Int32) (a2 : Int32) : CtR l yX4_peek wsX4_peek ({ frames := 1, cells := 0, slots := 0, locals := 22 }) (dC, dI) vwCl (tyz cI cZ cS) [.ref aX, .int a1, .int a2] (w_X cI cZ cS aX aD aDw aM aMw aJ aJh aSa aSt sA tx pw wl wn dk mm hd sg sc4) (p_X_peek dk a1 a2) := by
  intro R h
  refine mk_enter (Qc := (fun A => mk_QR (dC, dI) vwCl (tyz cI cZ cS) A (w_X cI cZ cS aX aD aDw aM aMw aJ aJh aSa aSt sA tx pw wl wn dk mm hd sg sc4) R)) (by decide) rfl (Nat.le_of_ble_eq_true rfl) ?_
  intro p e s m below meth c A E hA hK H locs ls hP hD hS hl
  obtain ⟨⟨hx, hb, hml, hown, hts⟩, hrt, hlk, hN⟩ := id E
  have hown : s.vm.findClass RX4 = some m.cls := hown
  have hl : lv_has ls 3 [(0, .ref aX), (1, .int a1), (2, .int a2)] := hl
  unfold p_X_peek at h
  refine lv_iload_n hx hb dX4_peek_0 rfl (lv_at hl 1 rfl) ?_
  refine lv_if_lt (tgt := 20) hx hb dX4_peek_1 (by decide) (fun c_1 => ?_) (fun c_1 => ?_)
  · replace h := (kp_if h).1 c_1
    exact b_X_peek_20 E hA hK R h H locs ls hP hD hS (lv_sub hl [] rfl)
  · replace h := (kp_if h).2 c_1
    refine lv_iload_n hx hb dX4_peek_4 rfl (lv_at hl 1 rfl) ?_
    refine lv_bipush (v := 33) hx hb dX4_peek_5 (by decide) ?_
    refine lv_icmp_ge (tgt := 20) hx hb dX4_peek_7 (by decide) (fun c_2 => ?_) (fun c_2 => ?_)
    · replace h := (kp_if h).1 c_2
      exact b_X_peek_20 E hA hK R h H locs ls hP hD hS (lv_sub hl [] rfl)
    · replace h := (kp_if h).2 c_2
      refine lv_iload_n hx hb dX4_peek_10 rfl (lv_at hl 2 rfl) ?_
      refine lv_if_lt (tgt := 20) hx hb dX4_peek_11 (by decide) (fun c_3 => ?_) (fun c_3 => ?_)
      · replace h := (kp_if h).1 c_3
        exact b_X_peek_20 E hA hK R h H locs ls hP hD hS (lv_sub hl [] rfl)
      · replace h := (kp_if h).2 c_3
        refine lv_iload_n hx hb dX4_peek_14 rfl (lv_at hl 2 rfl) ?_
        refine lv_bipush (v := 16) hx hb dX4_peek_15 (by decide) ?_
        refine lv_icmp_lt (tgt := 23) hx hb dX4_peek_17 (by decide) (fun c_4 => ?_) (fun c_4 => ?_)
        · replace h := (kp_if h).1 c_4
          refine lv_aload_n hx hb dX4_peek_23 rfl (lv_at hl 0 rfl) ?_
          refine va_get (D := (dC, dI)) (ci := 4) (v := .ref aD) (C := RX4) (T := TX4) (N := 6) hx hb hts iw_X_peek_X hown hK hP 0 rfl rfl 0 (by decide) (hts _ mm_X_peek_0) (fun _ h9 => h9) rfl dX4_peek_24 ?_
          refine lv_iload_n hx hb dX4_peek_27 rfl (lv_at hl 1 rfl) ?_
          refine lv_iload_n hx hb dX4_peek_28 rfl (lv_at hl 2 rfl) ?_
          obtain ⟨r_5, hr_5, h⟩ := kp_bind h
          refine mk_contR (w := w_X cI cZ cS aX aD aDw aM aMw aJ aJh aSa aSt sA tx pw wl wn dk mm hd sg sc4) (w0 := w_D cI cZ cS aD aDw pw wl wn dk) (wr := [(aX, .inr (4, [.ref aD, .ref aM, .ref aJ, .ref aSa, .ref aSt, .int tx])), (aM, .inr (2, [.ref aMw])), (aMw, .inl (cI, 256, .inl mm)), (aJ, .inr (1, [.ref aD, .ref aM, .ref aJh])), (aJh, .inl (cI, 16, .inl hd)), (aSa, .inl (cS, 4, .inr (.inr (.inr (.inr (fun j => some (sA j))))))), (aSt, .inl (cI, 6, .inl sg)), (sA 0, scv (sc4 0)), (sA 1, scv (sc4 1)), (sA 2, scv (sc4 2)), (sA 3, scv (sc4 3))]) hP hD hS hA [1, 2] [0, 3, 4, 5, 6, 7, 8, 9, 10, 11, 12] rfl rfl (by decide) (by decide) [0, 11, 12, 1, 2, 3, 4, 5, 6, 7, 8, 9, 10] rfl (by decide) (va_runV (As := [.int a1, .int a2]) (rest := []) ⟨hx, hb, hml, hown, hts⟩ (c_D_word l dC dI cI cZ cS aD aDw pw wl wn dk a1 a2 r_5 hr_5 H.size) (cwV 2 hts gX4_peek_X0_word rfl rfl rfl (by decide +kernel) ⟨Nat.le_of_ble_eq_true rfl, Nat.le_of_ble_eq_true rfl⟩) (mk_preV (w0 := w_D cI cZ cS aD aDw pw wl wn dk) (ci := 0) (q0 := 0) hN hK (mk_pick hP [1, 2] rfl) (hD.sub [1, 2] (by decide) rfl) rfl rfl rfl) rfl rfl hl.1 rfl (lv_room (Nat.le_of_ble_eq_true rfl)) dX4_peek_29 ⟨Nat.zero_le _, Nat.zero_le _⟩) (fun H locs hP hD hS => ?_)
          cases h
          exact mk_iretR E hK hP hD hS dX4_peek_32
        · replace h := (kp_if h).2 c_4
          exact b_X_peek_20 E hA hK R h H locs ls hP hD hS (lv_sub hl [] rfl)

/- X.writes()I -/
set_option maxRecDepth 20000 in
theorem mm_X_writes_0 : Cond.fieldLink RX4 10 "JournaledTables" "disk" "LJournaledTables$Disk;" ∈ wsX4_writes := by decide +kernel
set_option maxRecDepth 20000 in
theorem iw_X_writes_X : ∀ w ∈ u_ws RX4 TX4 6, w ∈ wsX4_writes := by decide +kernel
set_option maxHeartbeats 4000000 in
set_option maxRecDepth 100000 in
theorem c_X_writes (l : Launch) (dC : Nat → ClassId) (dI : Nat → Nat → Nat) (cI cZ cS : ClassId) (aX aD aDw aM aMw aJ aJh aSa aSt : Nat) (sA : Nat → Nat) (tx : Int32) (pw : Int32) (wl : Int32) (wn : Int32) (dk : Nat → Int32) (mm : Nat → Int32) (hd : Nat → Int32) (sg : Nat → Int32) (sc4 : Nat → SCT) : CtR l yX4_writes wsX4_writes ({ frames := 1, cells := 0, slots := 0, locals := 20 }) (dC, dI) vwCl (tyz cI cZ cS) [.ref aX] (w_X cI cZ cS aX aD aDw aM aMw aJ aJh aSa aSt sA tx pw wl wn dk mm hd sg sc4) (p_X_writes wn) := by
  intro R h
  refine mk_enter (Qc := (fun A => mk_QR (dC, dI) vwCl (tyz cI cZ cS) A (w_X cI cZ cS aX aD aDw aM aMw aJ aJh aSa aSt sA tx pw wl wn dk mm hd sg sc4) R)) (by decide) rfl (Nat.le_of_ble_eq_true rfl) ?_
  intro p e s m below meth c A E hA hK H locs ls hP hD hS hl
  obtain ⟨⟨hx, hb, hml, hown, hts⟩, hrt, hlk, hN⟩ := id E
  have hown : s.vm.findClass RX4 = some m.cls := hown
  have hl : lv_has ls 1 [(0, .ref aX)] := hl
  unfold p_X_writes at h
  refine lv_aload_n hx hb dX4_writes_0 rfl (lv_at hl 0 rfl) ?_
  refine va_get (D := (dC, dI)) (ci := 4) (v := .ref aD) (C := RX4) (T := TX4) (N := 6) hx hb hts iw_X_writes_X hown hK hP 0 rfl rfl 0 (by decide) (hts _ mm_X_writes_0) (fun _ h9 => h9) rfl dX4_writes_1 ?_
  obtain ⟨r_1, hr_1, h⟩ := kp_bind h
  refine mk_contR (w := w_X cI cZ cS aX aD aDw aM aMw aJ aJh aSa aSt sA tx pw wl wn dk mm hd sg sc4) (w0 := w_D cI cZ cS aD aDw pw wl wn dk) (wr := [(aX, .inr (4, [.ref aD, .ref aM, .ref aJ, .ref aSa, .ref aSt, .int tx])), (aM, .inr (2, [.ref aMw])), (aMw, .inl (cI, 256, .inl mm)), (aJ, .inr (1, [.ref aD, .ref aM, .ref aJh])), (aJh, .inl (cI, 16, .inl hd)), (aSa, .inl (cS, 4, .inr (.inr (.inr (.inr (fun j => some (sA j))))))), (aSt, .inl (cI, 6, .inl sg)), (sA 0, scv (sc4 0)), (sA 1, scv (sc4 1)), (sA 2, scv (sc4 2)), (sA 3, scv (sc4 3))]) hP hD hS hA [1, 2] [0, 3, 4, 5, 6, 7, 8, 9, 10, 11, 12] rfl rfl (by decide) (by decide) [0, 11, 12, 1, 2, 3, 4, 5, 6, 7, 8, 9, 10] rfl (by decide) (va_runV (As := []) (rest := []) ⟨hx, hb, hml, hown, hts⟩ (c_D_writesDone l dC dI cI cZ cS aD aDw pw wl wn dk r_1 hr_1 H.size) (cwV 0 hts gX4_writes_X0_writesDone rfl rfl rfl (by decide +kernel) ⟨Nat.le_of_ble_eq_true rfl, Nat.le_of_ble_eq_true rfl⟩) (mk_preV (w0 := w_D cI cZ cS aD aDw pw wl wn dk) (ci := 0) (q0 := 0) hN hK (mk_pick hP [1, 2] rfl) (hD.sub [1, 2] (by decide) rfl) rfl rfl rfl) rfl rfl hl.1 rfl (lv_room (Nat.le_of_ble_eq_true rfl)) dX4_writes_4 ⟨Nat.zero_le _, Nat.zero_le _⟩) (fun H locs hP hD hS => ?_)
  cases h
  exact mk_iretR E hK hP hD hS dX4_writes_7

