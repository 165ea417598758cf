/- Scan.isOpen()Z -/
set_option maxRecDepth 20000 in
theorem mm_S_isOpen_0 : Cond.fieldLink RX3 9 "JournaledTables$Scan" "open" "Z" ∈ wsX3_isOpen := by decide +kernel
set_option maxRecDepth 20000 in
theorem iw_S_isOpen_Scan : ∀ w ∈ u_ws RX3 TX3 8, w ∈ wsX3_isOpen := by decide +kernel
set_option maxHeartbeats 4000000 in
set_option maxRecDepth 100000 in
theorem c_S_isOpen (l : Launch) (dC : Nat → ClassId) (dI : Nat → Nat → Nat) (cI cZ cS : ClassId) (aSc : Nat) (so : Int32) (sv : Int32) (sb : Int32) (sc : Int32) (sl : Int32) (sh : Int32) (sk : Int64) (sr : Int32) : CtR l yX3_isOpen wsX3_isOpen ({ frames := 0, cells := 0, slots := 0, locals := 0 }) (dC, dI) vwCl (tyz cI cZ cS) [.ref aSc] (w_S cI cZ cS aSc so sv sb sc sl sh sk sr) (p_S_isOpen so) := by
  intro R h
  refine mk_enter (Qc := (fun A => mk_QR (dC, dI) vwCl (tyz cI cZ cS) A (w_S cI cZ cS aSc so sv sb sc sl sh sk sr) R)) (by decide) rfl (Nat.le_of_ble_eq_true rfl) ?_
  intro p e s m below meth c A E hA hK H locs ls hP hD hS hl
  obtain ⟨⟨hx, hb, hml, hown, hts⟩, hrt, hlk, hN⟩ := id E
  have hown : s.vm.findClass RX3 = some m.cls := hown
  have hl : lv_has ls 1 [(0, .ref aSc)] := hl
  unfold p_S_isOpen at h
  refine lv_aload_n hx hb dX3_isOpen_0 rfl (lv_at hl 0 rfl) ?_
  refine va_get (D := (dC, dI)) (ci := 3) (v := .int so) (C := RX3) (T := TX3) (N := 8) hx hb hts iw_S_isOpen_Scan hown hK hP 0 rfl rfl 0 (by decide) (hts _ mm_S_isOpen_0) (fun _ h9 => h9) rfl dX3_isOpen_1 ?_
  obtain ⟨hc_1, h⟩ := kp_in h
  cases h
  exact mk_zretR E hc_1 hK hP hD hS dX3_isOpen_4

/- Scan.isVoid()Z -/
set_option maxRecDepth 20000 in
theorem mm_S_isVoid_0 : Cond.fieldLink RX3 15 "JournaledTables$Scan" "isVoid" "Z" ∈ wsX3_isVoid := by decide +kernel
set_option maxRecDepth 20000 in
theorem iw_S_isVoid_Scan : ∀ w ∈ u_ws RX3 TX3 8, w ∈ wsX3_isVoid := by decide +kernel
set_option maxHeartbeats 4000000 in
set_option maxRecDepth 100000 in
theorem c_S_isVoid (l : Launch) (dC : Nat → ClassId) (dI : Nat → Nat → Nat) (cI cZ cS : ClassId) (aSc : Nat) (so : Int32) (sv : Int32) (sb : Int32) (sc : Int32) (sl : Int32) (sh : Int32) (sk : Int64) (sr : Int32) : CtR l yX3_isVoid wsX3_isVoid ({ frames := 0, cells := 0, slots := 0, locals := 0 }) (dC, dI) vwCl (tyz cI cZ cS) [.ref aSc] (w_S cI cZ cS aSc so sv sb sc sl sh sk sr) (p_S_isVoid sv) := by
  intro R h
  refine mk_enter (Qc := (fun A => mk_QR (dC, dI) vwCl (tyz cI cZ cS) A (w_S cI cZ cS aSc so sv sb sc sl sh sk sr) R)) (by decide) rfl (Nat.le_of_ble_eq_true rfl) ?_
  intro p e s m below meth c A E hA hK H locs ls hP hD hS hl
  obtain ⟨⟨hx, hb, hml, hown, hts⟩, hrt, hlk, hN⟩ := id E
  have hown : s.vm.findClass RX3 = some m.cls := hown
  have hl : lv_has ls 1 [(0, .ref aSc)] := hl
  unfold p_S_isVoid at h
  refine lv_aload_n hx hb dX3_isVoid_0 rfl (lv_at hl 0 rfl) ?_
  refine va_get (D := (dC, dI)) (ci := 3) (v := .int sv) (C := RX3) (T := TX3) (N := 8) hx hb hts iw_S_isVoid_Scan hown hK hP 0 rfl rfl 1 (by decide) (hts _ mm_S_isVoid_0) (fun _ h9 => h9) rfl dX3_isVoid_1 ?_
  obtain ⟨hc_1, h⟩ := kp_in h
  cases h
  exact mk_zretR E hc_1 hK hP hD hS dX3_isVoid_4

/- Scan.start(IIII)V -/
set_option maxRecDepth 20000 in
theorem mm_S_start_0 : Cond.fieldLink RX3 9 "JournaledTables$Scan" "open" "Z" ∈ wsX3_start := by decide +kernel
set_option maxRecDepth 20000 in
theorem iw_S_start_Scan : ∀ w ∈ u_ws RX3 TX3 8, w ∈ wsX3_start := by decide +kernel
set_option maxRecDepth 20000 in
theorem mm_S_start_2 : Cond.fieldLink RX3 15 "JournaledTables$Scan" "isVoid" "Z" ∈ wsX3_start := by decide +kernel
set_option maxRecDepth 20000 in
theorem mm_S_start_3 : Cond.fieldLink RX3 18 "JournaledTables$Scan" "table" "I" ∈ wsX3_start := by decide +kernel
set_option maxRecDepth 20000 in
theorem mm_S_start_4 : Cond.fieldLink RX3 22 "JournaledTables$Scan" "col" "I" ∈ wsX3_start := by decide +kernel
set_option maxRecDepth 20000 in
theorem mm_S_start_5 : Cond.fieldLink RX3 25 "JournaledTables$Scan" "lo" "I" ∈ wsX3_start := by decide +kernel
set_option maxRecDepth 20000 in
theorem mm_S_start_6 : Cond.fieldLink RX3 28 "JournaledTables$Scan" "hi" "I" ∈ wsX3_start := by decide +kernel
set_option maxRecDepth 20000 in
theorem mm_S_start_7 : Cond.constantLong RX3 31 (-2147483649) ∈ wsX3_start := by decide +kernel
set_option maxRecDepth 20000 in
theorem mm_S_start_8 : Cond.fieldLink RX3 33 "JournaledTables$Scan" "passedKey" "J" ∈ wsX3_start := by decide +kernel
set_option maxRecDepth 20000 in
theorem mm_S_start_9 : Cond.fieldLink RX3 37 "JournaledTables$Scan" "row" "I" ∈ wsX3_start := by decide +kernel
set_option maxHeartbeats 4000000 in
set_option maxRecDepth 100000 in
theorem c_S_start (l : Launch) (dC : Nat → ClassId) (dI : Nat → Nat → Nat) (cI cZ cS : ClassId) (aSc : Nat) (so : Int32) (sv : Int32) (sb : Int32) (sc : Int32) (sl : Int32) (sh : Int32) (sk : Int64) (sr : Int32) (a1 : Int32) (a2 : Int32) (a3 : Int32) (a4 : Int32) : CtV l yX3_start wsX3_start ({ frames := 0, cells := 0, slots := 0, locals := 0 }) (dC, dI) vwCl (tyz cI cZ cS) [.ref aSc, .int a1, .int a2, .int a3, .int a4] (w_S cI cZ cS aSc so sv sb sc sl sh sk sr) (fun u : Int32 × Int32 × Int32 × Int32 × Int32 × Int32 × Int64 × Int32 => w_S cI cZ cS aSc u.1 u.2.1 u.2.2.1 u.2.2.2.1 u.2.2.2.2.1 u.2.2.2.2.2.1 u.2.2.2.2.2.2.1 u.2.2.2.2.2.2.2) (p_S_start so sv sb sc sl sh sk sr a1 a2 a3 a4) := by
  intro R h
  refine mk_enter (Qc := (fun A => mk_QV (dC, dI) vwCl (tyz cI cZ cS) A (fun u : Int32 × Int32 × Int32 × Int32 × Int32 × Int32 × Int64 × Int32 => w_S cI cZ cS aSc u.1 u.2.1 u.2.2.1 u.2.2.2.1 u.2.2.2.2.1 u.2.2.2.2.2.1 u.2.2.2.2.2.2.1 u.2.2.2.2.2.2.2) R)) (by decide) rfl (Nat.le_of_ble_eq_true rfl) ?_
  intro p e s m below meth c A E hA hK H locs ls hP hD hS hl
  obtain ⟨⟨hx, hb, hml, hown, hts⟩, hrt, hlk, hN⟩ := id E
  have hown : s.vm.findClass RX3 = some m.cls := hown
  have hl : lv_has ls 5 [(0, .ref aSc), (1, .int a1), (2, .int a2), (3, .int a3), (4, .int a4)] := hl
  unfold p_S_start at h
  refine lv_aload_n hx hb dX3_start_0 rfl (lv_at hl 0 rfl) ?_
  refine lv_iconst (v := 1) hx hb dX3_start_1 (by decide) ?_
  refine va_put (D := (dC, dI)) (ci := 3) (v := .int 1) (ty := .boolean) (C := RX3) (T := TX3) (N := 8) hx hb hts iw_S_start_Scan tyX3 tyX3_ok nmX3 hown hK hP hD hS 0 rfl rfl 0 (by decide) (hts _ mm_S_start_0) (fun _ h9 => h9) rfl (by decide +kernel) rfl rfl (Nat.le_of_ble_eq_true rfl) dX3_start_2 (fun H locs hP hD hS => ?_)
  have hP : va_P (dC, dI) vwCl (w_S cI cZ cS aSc 1 sv sb sc sl sh sk sr) H := hP
  have hD : va_D A (w_S cI cZ cS aSc 1 sv sb sc sl sh sk sr) := hD
  refine lv_aload_n hx hb dX3_start_5 rfl (lv_at hl 0 rfl) ?_
  refine lv_iconst (v := 0) hx hb dX3_start_6 (by decide) ?_
  refine va_put (D := (dC, dI)) (ci := 3) (v := .int 0) (ty := .boolean) (C := RX3) (T := TX3) (N := 8) hx hb hts iw_S_start_Scan tyX3 tyX3_ok nmX3 hown hK hP hD hS 0 rfl rfl 1 (by decide) (hts _ mm_S_start_2) (fun _ h9 => h9) rfl (by decide +kernel) rfl rfl (Nat.le_of_ble_eq_true rfl) dX3_start_7 (fun H locs hP hD hS => ?_)
  have hP : va_P (dC, dI) vwCl (w_S cI cZ cS aSc 1 0 sb sc sl sh sk sr) H := hP
  have hD : va_D A (w_S cI cZ cS aSc 1 0 sb sc sl sh sk sr) := hD
  refine lv_aload_n hx hb dX3_start_10 rfl (lv_at hl 0 rfl) ?_
  refine lv_iload_n hx hb dX3_start_11 rfl (lv_at hl 1 rfl) ?_
  refine va_put (D := (dC, dI)) (ci := 3) (v := .int a1) (ty := .int) (C := RX3) (T := TX3) (N := 8) hx hb hts iw_S_start_Scan tyX3 tyX3_ok nmX3 hown hK hP hD hS 0 rfl rfl 2 (by decide) (hts _ mm_S_start_3) (fun _ h9 => h9) rfl (by decide +kernel) rfl rfl (Nat.le_of_ble_eq_true rfl) dX3_start_12 (fun H locs hP hD hS => ?_)
  have hP : va_P (dC, dI) vwCl (w_S cI cZ cS aSc 1 0 a1 sc sl sh sk sr) H := hP
  have hD : va_D A (w_S cI cZ cS aSc 1 0 a1 sc sl sh sk sr) := hD
  refine lv_aload_n hx hb dX3_start_15 rfl (lv_at hl 0 rfl) ?_
  refine lv_iload_n hx hb dX3_start_16 rfl (lv_at hl 2 rfl) ?_
  refine va_put (D := (dC, dI)) (ci := 3) (v := .int a2) (ty := .int) (C := RX3) (T := TX3) (N := 8) hx hb hts iw_S_start_Scan tyX3 tyX3_ok nmX3 hown hK hP hD hS 0 rfl rfl 3 (by decide) (hts _ mm_S_start_4) (fun _ h9 => h9) rfl (by decide +kernel) rfl rfl (Nat.le_of_ble_eq_true rfl) dX3_start_17 (fun H locs hP hD hS => ?_)
  have hP : va_P (dC, dI) vwCl (w_S cI cZ cS aSc 1 0 a1 a2 sl sh sk sr) H := hP
  have hD : va_D A (w_S cI cZ cS aSc 1 0 a1 a2 sl sh sk sr) := hD
  refine lv_aload_n hx hb dX3_start_20 rfl (lv_at hl 0 rfl) ?_
  refine lv_iload_n hx hb dX3_start_21 rfl (lv_at hl 3 rfl) ?_
  refine va_put (D := (dC, dI)) (ci := 3) (v := .int a3) (ty := .int) (C := RX3) (T := TX3) (N := 8) hx hb hts iw_S_start_Scan tyX3 tyX3_ok nmX3 hown hK hP hD hS 0 rfl rfl 4 (by decide) (hts _ mm_S_start_5) (fun _ h9 => h9) rfl (by decide +kernel) rfl rfl (Nat.le_of_ble_eq_true rfl) dX3_start_22 (fun H locs hP hD hS => ?_)
  have hP : va_P (dC, dI) vwCl (w_S cI cZ cS aSc 1 0 a1 a2 a3 sh sk sr) H := hP
  have hD : va_D A (w_S cI cZ cS aSc 1 0 a1 a2 a3 sh sk sr) := hD
  refine lv_aload_n hx hb dX3_start_25 rfl (lv_at hl 0 rfl) ?_
  refine lv_iload hx hb dX3_start_26 (lv_at hl 4 rfl) ?_
  refine va_put (D := (dC, dI)) (ci := 3) (v := .int a4) (ty := .int) (C := RX3) (T := TX3) (N := 8) hx hb hts iw_S_start_Scan tyX3 tyX3_ok nmX3 hown hK hP hD hS 0 rfl rfl 5 (by decide) (hts _ mm_S_start_6) (fun _ h9 => h9) rfl (by decide +kernel) rfl rfl (Nat.le_of_ble_eq_true rfl) dX3_start_28 (fun H locs hP hD hS => ?_)
  have hP : va_P (dC, dI) vwCl (w_S cI cZ cS aSc 1 0 a1 a2 a3 a4 sk sr) H := hP
  have hD : va_D A (w_S cI cZ cS aSc 1 0 a1 a2 a3 a4 sk sr) := hD
  refine lv_aload_n hx hb dX3_start_31 rfl (lv_at hl 0 rfl) ?_
  refine lv_ldc2 (v := (-2147483649)) hx hb hown (hts _ mm_S_start_7) dX3_start_32 ?_
  refine va_put (D := (dC, dI)) (ci := 3) (v := .long (-2147483649)) (ty := .long) (C := RX3) (T := TX3) (N := 8) hx hb hts iw_S_start_Scan tyX3 tyX3_ok nmX3 hown hK hP hD hS 0 rfl rfl 6 (by decide) (hts _ mm_S_start_8) (fun _ h9 => h9) rfl (by decide +kernel) rfl rfl (Nat.le_of_ble_eq_true rfl) dX3_start_35 (fun H locs hP hD hS => ?_)
  have hP : va_P (dC, dI) vwCl (w_S cI cZ cS aSc 1 0 a1 a2 a3 a4 (-2147483649) sr) H := hP
  have hD : va_D A (w_S cI cZ cS aSc 1 0 a1 a2 a3 a4 (-2147483649) sr) := hD
  refine lv_aload_n hx hb dX3_start_38 rfl (lv_at hl 0 rfl) ?_
  refine lv_iconst (v := (-1)) hx hb dX3_start_39 (by decide) ?_
  refine va_put (D := (dC, dI)) (ci := 3) (v := .int (-1)) (ty := .int) (C := RX3) (T := TX3) (N := 8) hx hb hts iw_S_start_Scan tyX3 tyX3_ok nmX3 hown hK hP hD hS 0 rfl rfl 7 (by decide) (hts _ mm_S_start_9) (fun _ h9 => h9) rfl (by decide +kernel) rfl rfl (Nat.le_of_ble_eq_true rfl) dX3_start_40 (fun H locs hP hD hS => ?_)
  have hP : va_P (dC, dI) vwCl (w_S cI cZ cS aSc 1 0 a1 a2 a3 a4 (-2147483649) (-1)) H := hP
  have hD : va_D A (w_S cI cZ cS aSc 1 0 a1 a2 a3 a4 (-2147483649) (-1)) := hD
  cases h
  exact mk_vret E hK hP hD hS dX3_start_43

/- Scan.end()V -/
set_option maxRecDepth 20000 in
theorem mm_S_end_0 : Cond.fieldLink RX3 9 "JournaledTables$Scan" "open" "Z" ∈ wsX3_end := by decide +kernel
set_option maxRecDepth 20000 in
theorem iw_S_end_Scan : ∀ w ∈ u_ws RX3 TX3 8, w ∈ wsX3_end := by decide +kernel
set_option maxHeartbeats 4000000 in
set_option maxRecDepth 100000 in
theorem c_S_end (l : Launch) (dC : Nat → ClassId) (dI : Nat → Nat → Nat) (cI cZ cS : ClassId) (aSc : Nat) (so : Int32) (sv : Int32) (sb : Int32) (sc : Int32) (sl : Int32) (sh : Int32) (sk : Int64) (sr : Int32) : CtV l yX3_end wsX3_end ({ frames := 0, cells := 0, slots := 0, locals := 0 }) (dC, dI) vwCl (tyz cI cZ cS) [.ref aSc] (w_S cI cZ cS aSc so sv sb sc sl sh sk sr) (fun u : Int32 => w_S cI cZ cS aSc u sv sb sc sl sh sk sr) (p_S_end so) := by
  intro R h
  refine mk_enter (Qc := (fun A => mk_QV (dC, dI) vwCl (tyz cI cZ cS) A (fun u : Int32 => w_S cI cZ cS aSc u sv sb sc sl sh sk sr) R)) (by decide) rfl (Nat.le_of_ble_eq_true rfl) ?_
  intro p e s m below meth c A E hA hK H locs ls hP hD hS hl
  obtain ⟨⟨hx, hb, hml, hown, hts⟩, hrt, hlk, hN⟩ := id E
  have hown : s.vm.findClass RX3 = some m.cls := hown
  have hl : lv_has ls 1 [(0, .ref aSc)] := hl
  unfold p_S_end at h
  refine lv_aload_n hx hb dX3_end_0 rfl (lv_at hl 0 rfl) ?_
  refine lv_iconst (v := 0) hx hb dX3_end_1 (by decide) ?_
  refine va_put (D := (dC, dI)) (ci := 3) (v := .int 0) (ty := .boolean) (C := RX3) (T := TX3) (N := 8) hx hb hts iw_S_end_Scan tyX3 tyX3_ok nmX3 hown hK hP hD hS 0 rfl rfl 0 (by decide) (hts _ mm_S_end_0) (fun _ h9 => h9) rfl (by decide +kernel) rfl rfl (Nat.le_of_ble_eq_true rfl) dX3_end_2 (fun H locs hP hD hS => ?_)
  have hP : va_P (dC, dI) vwCl (w_S cI cZ cS aSc 0 sv sb sc sl sh sk sr) H := hP
  have hD : va_D A (w_S cI cZ cS aSc 0 sv sb sc sl sh sk sr) := hD
  cases h
  exact mk_vret E hK hP hD hS dX3_end_5

/- Scan.tableChanged(I)V -/
set_option maxRecDepth 20000 in
theorem mm_S_tableChanged_0 : Cond.fieldLink RX3 18 "JournaledTables$Scan" "table" "I" ∈ wsX3_tableChanged := by decide +kernel
set_option maxRecDepth 20000 in
theorem iw_S_tableChanged_Scan : ∀ w ∈ u_ws RX3 TX3 8, w ∈ wsX3_tableChanged := by decide +kernel
set_option maxRecDepth 20000 in
theorem mm_S_tableChanged_2 : Cond.fieldLink RX3 15 "JournaledTables$Scan" "isVoid" "Z" ∈ wsX3_tableChanged := by decide +kernel
set_option maxHeartbeats 4000000 in
set_option maxRecDepth 100000 in
theorem b_S_tableChanged_13 {p : Program} {l : Launch} {e : Env} {s : State} {m : MethodId} {below : List Frame} {meth : Method} {c : Code} {A : Nat → Prop} {dC : Nat → ClassId} {dI : Nat → Nat → Nat} {cI cZ cS : ClassId} {aSc : Nat} {so : Int32} {sb : Int32} {sc : Int32} {sl : Int32} {sh : Int32} {sk : Int64} {sr : Int32} {a1 : Int32} (E : mk_En p s m meth c cX3_tableChanged 2 none ([.ref aSc, .int a1] : List Value).toArray wsX3_tableChanged yX3_tableChanged.cls) (hA : ∀ q : Nat, s.heap.size ≤ q → A q) (hK : va_K (dC, dI) vwCl (tyz cI cZ cS) s) (R : Int32) (sv : Int32) (h : p_S_tableChanged_13 sb sv = some R) : ∀ (H : Heap) (locs : List Loc) (ls : Array Slot), va_P (dC, dI) vwCl (w_S cI cZ cS aSc so sv sb sc sl sh sk sr) H → va_D A (w_S cI cZ cS aSc so sv sb sc sl sh sk sr) → va_S A s.heap H locs → lv_has ls 2 [] → W p l e ({ frames := 0, cells := 0, slots := 0, locals := 0 } : Room) s m ([.ref aSc, .int a1] : List Value).toArray below meth c H locs 0 0 (MQ below (mk_QV (dC, dI) vwCl (tyz cI cZ cS) A (fun u : Int32 => w_S cI cZ cS aSc so u sb sc sl sh sk sr) R) ([.ref aSc, .int a1] : List Value).toArray s 0 0 A) (F0 m 13 ls []) := by
  intro H locs ls hP hD hS hl
  obtain ⟨⟨hx, hb, hml, hown, hts⟩, hrt, hlk, hN⟩ := id E
  have hown : s.vm.findClass RX3 = some m.cls := hown
  unfold p_S_tableChanged_13 at h
  cases h
  exact mk_vret E hK hP hD hS dX3_tableChanged_13
set_option maxHeartbeats 4000000 in
set_option maxRecDepth 100000 in
theorem c_S_tableChanged (l : Launch) (dC : Nat → ClassId) (dI : Nat → Nat → Nat) (cI cZ cS : ClassId) (aSc : Nat) (so : Int32) (sv : Int32) (sb : Int32) (sc : Int32) (sl : Int32) (sh : Int32) (sk : Int64) (sr : Int32) (a1 : Int32) : CtV l yX3_tableChanged wsX3_tableChanged ({ frames := 0, cells := 0, slots := 0, locals := 0 }) (dC, dI) vwCl (tyz cI cZ cS) [.ref aSc, .int a1] (w_S cI cZ cS aSc so sv sb sc sl sh sk sr) (fun u : Int32 => w_S cI cZ cS aSc so u sb sc sl sh sk sr) (p_S_tableChanged sv sb a1) := by
  intro R h
  refine mk_enter (Qc := (fun A => mk_QV (dC, dI) vwCl (tyz cI cZ cS) A (fun u : Int32 => w_S cI cZ cS aSc so u sb sc sl sh sk sr) R)) (by decide) rfl (Nat.le_of_ble_eq_true rfl) ?_
  intro p e s m below meth c A E hA hK H locs ls hP hD hS hl
  obtain ⟨⟨hx, hb, hml, hown, hts⟩, hrt, hlk, hN⟩ := id E
  have hown : s.vm.findClass RX3 = some m.cls := hown
  have hl : lv_has ls 2 [(0, .ref aSc), (1, .int a1)] := hl
  unfold p_S_tableChanged at h
  refine lv_iload_n hx hb dX3_tableChanged_0 rfl (lv_at hl 1 rfl) ?_
  refine lv_aload_n hx hb dX3_tableChanged_1 rfl (lv_at hl 0 rfl) ?_
  refine va_get (D := (dC, dI)) (ci := 3) (v := .int sb) (C := RX3) (T := TX3) (N := 8) hx hb hts iw_S_tableChanged_Scan hown hK hP 0 rfl rfl 2 (by decide) (hts _ mm_S_tableChanged_0) (fun _ h9 => h9) rfl dX3_tableChanged_2 ?_
  refine lv_icmp_ne (tgt := 13) hx hb dX3_tableChanged_5 (by decide) (fun c_1 => ?_) (fun c_1 => ?_)
  · replace h := (kp_if h).2 c_1
    exact b_S_tableChanged_13 E hA hK R sv h H locs ls hP hD hS (lv_sub hl [] rfl)
  · replace h := (kp_if h).1 c_1
    refine lv_aload_n hx hb dX3_tableChanged_8 rfl (lv_at hl 0 rfl) ?_
    refine lv_iconst (v := 1) hx hb dX3_tableChanged_9 (by decide) ?_
    refine va_put (D := (dC, dI)) (ci := 3) (v := .int 1) (ty := .boolean) (C := RX3) (T := TX3) (N := 8) hx hb hts iw_S_tableChanged_Scan tyX3 tyX3_ok nmX3 hown hK hP hD hS 0 rfl rfl 1 (by decide) (hts _ mm_S_tableChanged_2) (fun _ h9 => h9) rfl (by decide +kernel) rfl rfl (Nat.le_of_ble_eq_true rfl) dX3_tableChanged_10 (fun H locs hP hD hS => ?_)
    have hP : va_P (dC, dI) vwCl (w_S cI cZ cS aSc so 1 sb sc sl sh sk sr) H := hP
    have hD : va_D A (w_S cI cZ cS aSc so 1 sb sc sl sh sk sr) := hD
    exact b_S_tableChanged_13 E hA hK R 1 h H locs ls hP hD hS (lv_sub hl [] rfl)

/- Scan.move(LJournaledTables$Memory;)Z -/
set_option maxRecDepth 20000 in
theorem mm_S_move_0 : Cond.fieldLink RX3 18 "JournaledTables$Scan" "table" "I" ∈ wsX3_move := by decide +kernel
set_option maxRecDepth 20000 in
theorem iw_S_move_Scan : ∀ w ∈ u_ws RX3 TX3 8, w ∈ wsX3_move := by decide +kernel
set_option maxRecDepth 20000 in
theorem mm_S_move_2 : Cond.fieldLink RX3 22 "JournaledTables$Scan" "col" "I" ∈ wsX3_move := by decide +kernel
set_option maxRecDepth 20000 in
theorem mm_S_move_3 : Cond.fieldLink RX3 25 "JournaledTables$Scan" "lo" "I" ∈ wsX3_move := by decide +kernel
set_option maxRecDepth 20000 in
theorem mm_S_move_4 : Cond.fieldLink RX3 28 "JournaledTables$Scan" "hi" "I" ∈ wsX3_move := by decide +kernel
set_option maxRecDepth 20000 in
theorem mm_S_move_5 : Cond.fieldLink RX3 33 "JournaledTables$Scan" "passedKey" "J" ∈ wsX3_move := by decide +kernel
set_option maxRecDepth 20000 in
theorem mm_S_move_6 : Cond.fieldLink RX3 37 "JournaledTables$Scan" "row" "I" ∈ wsX3_move := by decide +kernel
set_option maxHeartbeats 4000000 in
set_option maxRecDepth 100000 in
theorem c_S_move (l : Launch) (dC : Nat → ClassId) (dI : Nat → Nat → Nat) (cI cZ cS : ClassId) (aSc aM aMw : Nat) (so : Int32) (sv : Int32) (sb : Int32) (sc : Int32) (sl : Int32) (sh : Int32) (sk : Int64) (sr : Int32) (mm : Nat → Int32) : CtI l yX3_move wsX3_move ({ frames := 4, cells := 0, slots := 0, locals := 98 }) (dC, dI) vwCl (tyz cI cZ cS) [.ref aSc, .ref aM] (w_SM cI cZ cS aSc aM aMw so sv sb sc sl sh sk sr mm) (fun u : Int64 × Int32 => w_SM cI cZ cS aSc aM aMw so sv sb sc sl sh u.1 u.2 mm) (p_S_move sb sc sl sh sk sr mm) := by
  intro R h
  refine mk_enter (Qc := (fun A => mk_QI (dC, dI) vwCl (tyz cI cZ cS) A (fun u : Int64 × Int32 => w_SM cI cZ cS aSc aM aMw so sv sb sc sl sh u.1 u.2 mm) R)) (by decide) rfl (Nat.le_of_ble_eq_true rfl) ?_
  intro p e s m below meth c A E hA hK H locs ls hP hD hS hl
  obtain ⟨⟨hx, hb, hml, hown, hts⟩, hrt, hlk, hN⟩ := id E
  have hown : s.vm.findClass RX3 = some m.cls := hown
  have hl : lv_has ls 2 [(0, .ref aSc), (1, .ref aM)] := hl
  unfold p_S_move at h
  refine lv_aload_n hx hb dX3_move_0 rfl (lv_at hl 0 rfl) ?_
  refine lv_aload_n hx hb dX3_move_1 rfl (lv_at hl 1 rfl) ?_
  refine lv_aload_n hx hb dX3_move_2 rfl (lv_at hl 0 rfl) ?_
  refine va_get (D := (dC, dI)) (ci := 3) (v := .int sb) (C := RX3) (T := TX3) (N := 8) hx hb hts iw_S_move_Scan hown hK hP 0 rfl rfl 2 (by decide) (hts _ mm_S_move_0) (fun _ h9 => h9) rfl dX3_move_3 ?_
  refine lv_aload_n hx hb dX3_move_6 rfl (lv_at hl 0 rfl) ?_
  refine va_get (D := (dC, dI)) (ci := 3) (v := .int sc) (C := RX3) (T := TX3) (N := 8) hx hb hts iw_S_move_Scan hown hK hP 0 rfl rfl 3 (by decide) (hts _ mm_S_move_2) (fun _ h9 => h9) rfl dX3_move_7 ?_
  refine lv_aload_n hx hb dX3_move_10 rfl (lv_at hl 0 rfl) ?_
  refine va_get (D := (dC, dI)) (ci := 3) (v := .int sl) (C := RX3) (T := TX3) (N := 8) hx hb hts iw_S_move_Scan hown hK hP 0 rfl rfl 4 (by decide) (hts _ mm_S_move_3) (fun _ h9 => h9) rfl dX3_move_11 ?_
  refine lv_aload_n hx hb dX3_move_14 rfl (lv_at hl 0 rfl) ?_
  refine va_get (D := (dC, dI)) (ci := 3) (v := .int sh) (C := RX3) (T := TX3) (N := 8) hx hb hts iw_S_move_Scan hown hK hP 0 rfl rfl 5 (by decide) (hts _ mm_S_move_4) (fun _ h9 => h9) rfl dX3_move_15 ?_
  refine lv_aload_n hx hb dX3_move_18 rfl (lv_at hl 0 rfl) ?_
  refine va_get (D := (dC, dI)) (ci := 3) (v := .long sk) (C := RX3) (T := TX3) (N := 8) hx hb hts iw_S_move_Scan hown hK hP 0 rfl rfl 6 (by decide) (hts _ mm_S_move_5) (fun _ h9 => h9) rfl dX3_move_19 ?_
  obtain ⟨r_1, hr_1, h⟩ := kp_bind h
  refine mk_contR (w := w_SM cI cZ cS aSc aM aMw so sv sb sc sl sh sk sr mm) (w0 := w_M cI cZ cS aM aMw mm) (wr := [(aSc, .inr (3, [.int so, .int sv, .int sb, .int sc, .int sl, .int sh, .long sk, .int sr]))]) hP hD hS hA [1, 2] [0] rfl rfl (by decide) (by decide) [0, 1, 2] rfl (by decide) (va_runV (As := [.int sb, .int sc, .int sl, .int sh, .long sk]) (rest := [.ref aSc]) ⟨hx, hb, hml, hown, hts⟩ (c_M_leastRow l dC dI cI cZ cS aM aMw mm sb sc sl sh sk r_1 hr_1 H.size) (cwV 5 hts gX3_move_X2_leastRow rfl rfl rfl (by decide +kernel) ⟨Nat.le_of_ble_eq_true rfl, Nat.le_of_ble_eq_true rfl⟩) (mk_preV (w0 := w_M cI cZ cS aM aMw mm) (ci := 2) (q0 := 0) hN hK (mk_pick hP [1, 2] rfl) (hD.sub [1, 2] (by decide) rfl) rfl rfl rfl) rfl rfl hl.1 rfl (lv_room (Nat.le_of_ble_eq_true rfl)) dX3_move_22 ⟨Nat.zero_le _, Nat.zero_le _⟩) (fun H locs hP hD hS => ?_)
  refine va_put (D := (dC, dI)) (ci := 3) (v := .int r_1) (ty := .int) (C := RX3) (T := TX3) (N := 8) hx hb hts iw_S_move_Scan tyX3 tyX3_ok nmX3 hown hK hP hD hS 0 rfl rfl 7 (by decide) (hts _ mm_S_move_6) (fun _ h9 => h9) rfl (by decide +kernel) rfl rfl (Nat.le_of_ble_eq_true rfl) dX3_move_25 (fun H locs hP hD hS => ?_)
  have hP : va_P (dC, dI) vwCl (w_SM cI cZ cS aSc aM aMw so sv sb sc sl sh sk r_1 mm) H := hP
  have hD : va_D A (w_SM cI cZ cS aSc aM aMw so sv sb sc sl sh sk r_1 mm) := hD
  refine lv_aload_n hx hb dX3_move_28 rfl (lv_at hl 0 rfl) ?_
  refine va_get (D := (dC, dI)) (ci := 3) (v := .int r_1) (C := RX3) (T := TX3) (N := 8) hx hb hts iw_S_move_Scan hown hK hP 0 rfl rfl 7 (by decide) (hts _ mm_S_move_6) (fun _ h9 => h9) rfl dX3_move_29 ?_
  refine lv_iconst (v := (-1)) hx hb dX3_move_32 (by decide) ?_
  refine lv_icmp_ne (tgt := 38) hx hb dX3_move_33 (by decide) (fun c_2 => ?_) (fun c_2 => ?_)
  · replace h := (kp_if h).2 c_2
    refine lv_aload_n hx hb dX3_move_38 rfl (lv_at hl 0 rfl) ?_
    refine lv_aload_n hx hb dX3_move_39 rfl (lv_at hl 1 rfl) ?_
    refine lv_aload_n hx hb dX3_move_40 rfl (lv_at hl 0 rfl) ?_
    refine va_get (D := (dC, dI)) (ci := 3) (v := .int r_1) (C := RX3) (T := TX3) (N := 8) hx hb hts iw_S_move_Scan hown hK hP 0 rfl rfl 7 (by decide) (hts _ mm_S_move_6) (fun _ h9 => h9) rfl dX3_move_41 ?_
    obtain ⟨r_3, hr_3, h⟩ := kp_bind h
    refine mk_contR (w := w_SM cI cZ cS aSc aM aMw so sv sb sc sl sh sk r_1 mm) (w0 := w_M cI cZ cS aM aMw mm) (wr := [(aSc, .inr (3, [.int so, .int sv, .int sb, .int sc, .int sl, .int sh, .long sk, .int r_1]))]) hP hD hS hA [1, 2] [0] rfl rfl (by decide) (by decide) [0, 1, 2] rfl (by decide) (va_runV (As := [.int r_1]) (rest := [.ref aSc]) ⟨hx, hb, hml, hown, hts⟩ (c_M_word l dC dI cI cZ cS aM aMw mm r_1 r_3 hr_3 H.size) (cwV 1 hts gX3_move_X2_word rfl rfl rfl (by decide +kernel) ⟨Nat.le_of_ble_eq_true rfl, Nat.le_of_ble_eq_true rfl⟩) (mk_preV (w0 := w_M cI cZ cS aM aMw mm) (ci := 2) (q0 := 0) hN hK (mk_pick hP [1, 2] rfl) (hD.sub [1, 2] (by decide) rfl) rfl rfl rfl) rfl rfl hl.1 rfl (lv_room (Nat.le_of_ble_eq_true rfl)) dX3_move_44 ⟨Nat.zero_le _, Nat.zero_le _⟩) (fun H locs hP hD hS => ?_)
    refine lv_i2l hx hb dX3_move_47 rfl ?_
    refine va_put (D := (dC, dI)) (ci := 3) (v := .long r_3.toInt64) (ty := .long) (C := RX3) (T := TX3) (N := 8) hx hb hts iw_S_move_Scan tyX3 tyX3_ok nmX3 hown hK hP hD hS 0 rfl rfl 6 (by decide) (hts _ mm_S_move_5) (fun _ h9 => h9) rfl (by decide +kernel) rfl rfl (Nat.le_of_ble_eq_true rfl) dX3_move_48 (fun H locs hP hD hS => ?_)
    have hP : va_P (dC, dI) vwCl (w_SM cI cZ cS aSc aM aMw so sv sb sc sl sh r_3.toInt64 r_1 mm) H := hP
    have hD : va_D A (w_SM cI cZ cS aSc aM aMw so sv sb sc sl sh r_3.toInt64 r_1 mm) := hD
    refine lv_iconst (v := 1) hx hb dX3_move_51 (by decide) ?_
    cases h
    exact mk_zret E (by decide) hK hP hD hS dX3_move_52
  · replace h := (kp_if h).1 c_2
    refine lv_iconst (v := 0) hx hb dX3_move_36 (by decide) ?_
    cases h
    exact mk_zret E (by decide) hK hP hD hS dX3_move_37

/- Scan.wordAt(LJournaledTables$Memory;I)I -/
set_option maxRecDepth 20000 in
theorem mm_S_wordAt_0 : Cond.fieldLink RX3 37 "JournaledTables$Scan" "row" "I" ∈ wsX3_wordAt := by decide +kernel
set_option maxRecDepth 20000 in
theorem iw_S_wordAt_Scan : ∀ w ∈ u_ws RX3 TX3 8, w ∈ wsX3_wordAt := by decide +kernel
set_option maxRecDepth 20000 in
theorem mm_S_wordAt_2 : Cond.fieldLink RX3 18 "JournaledTables$Scan" "table" "I" ∈ wsX3_wordAt := by decide +kernel
set_option maxHeartbeats 4000000 in
set_option maxRecDepth 100000 in
theorem b_S_wordAt_20 {p : Program} {l : Launch} {e : Env} {s : State} {m : MethodId} {below : List Frame} {meth : Method} {c : Code} {A : Nat → Prop} {dC : Nat → ClassId} {dI : Nat → Nat → Nat} {cI cZ cS : ClassId} {aSc aM aMw : Nat} {so : Int32} {sv : Int32} {sb : Int32} {sc : Int32} {sl : Int32} {sh : Int32} {sk : Int64} {sr : Int32} {mm : Nat → Int32} {a2 : Int32} (E : mk_En p s m meth c cX3_wordAt 3 (some .int) ([.ref aSc, .ref aM, .int a2] : List Value).toArray wsX3_wordAt yX3_wordAt.cls) (hA : ∀ q : Nat, s.heap.size ≤ q → A q) (hK : va_K (dC, dI) vwCl (tyz cI cZ cS) s) (R : Int32) (h : p_S_wordAt_20 sb sr mm = some R) : ∀ (H : Heap) (locs : List Loc) (ls : Array Slot), va_P (dC, dI) vwCl (w_SM cI cZ cS aSc aM aMw so sv sb sc sl sh sk sr mm) H → va_D A (w_SM cI cZ cS aSc aM aMw so sv sb sc sl sh sk sr mm) → va_S A s.heap H locs → lv_has ls 3 [] → W p l e ({ frames := 3, cells := 0, slots := 0, locals := 64 } : Room) s m ([.ref aSc, .ref aM, .int a2] : List Value).toArray below meth c H locs 0 0 (MQ below (mk_QR (dC, dI) vwCl (tyz cI cZ cS) A (w_SM cI cZ cS aSc aM aMw so sv sb sc sl sh sk sr mm) R) ([.ref aSc, .ref aM, .int a2] : List Value).toArray s 0 0 A) (F0 m 20 ls []) := by
  intro H locs ls hP hD hS hl
  obtain ⟨⟨hx, hb, hml, hown, hts⟩, hrt, hlk, hN⟩ := id E
  have hown : s.vm.findClass RX3 = some m.cls := hown
  unfold p_S_wordAt_20 at h
  refine lv_iconst (v := 0) hx hb dX3_wordAt_20 (by decide) ?_
  cases h
  exact mk_iretR E hK hP hD hS dX3_wordAt_21
set_option maxHeartbeats 4000000 in
set_option maxRecDepth 100000 in
theorem c_S_wordAt (l : Launch) (dC : Nat → ClassId) (dI : Nat → Nat → Nat) (cI cZ cS : ClassId) (aSc aM aMw : Nat) (so : Int32) (sv : Int32) (sb : Int32) (sc : Int32) (sl : Int32) (sh : Int32) (sk : Int64) (sr : Int32) (mm : Nat → Int32) (a2 : Int32) : CtR l yX3_wordAt wsX3_wordAt ({ frames := 3, cells := 0, slots := 0, locals := 64 }) (dC, dI) vwCl (tyz cI cZ cS) [.ref aSc, .ref aM, .int a2] (w_SM cI cZ cS aSc aM aMw so sv sb sc sl sh sk sr mm) (p_S_wordAt sb sr mm a2) := by
  intro R h
  refine mk_enter (Qc := (fun A => mk_QR (dC, dI) vwCl (tyz cI cZ cS) A (w_SM cI cZ cS aSc aM aMw so sv sb sc sl sh sk sr mm) R)) (by decide) rfl (Nat.le_of_ble_eq_true rfl) ?_
  intro p e s m below meth c A E hA hK H locs ls hP hD hS hl
  obtain ⟨⟨hx, hb, hml, hown, hts⟩, hrt, hlk, hN⟩ := id E
  have hown : s.vm.findClass RX3 = some m.cls := hown
  have hl : lv_has ls 3 [(0, .ref aSc), (1, .ref aM), (2, .int a2)] := hl
  unfold p_S_wordAt at h
  refine lv_aload_n hx hb dX3_wordAt_0 rfl (lv_at hl 0 rfl) ?_
  refine va_get (D := (dC, dI)) (ci := 3) (v := .int sr) (C := RX3) (T := TX3) (N := 8) hx hb hts iw_S_wordAt_Scan hown hK hP 0 rfl rfl 7 (by decide) (hts _ mm_S_wordAt_0) (fun _ h9 => h9) rfl dX3_wordAt_1 ?_
  refine lv_iconst (v := (-1)) hx hb dX3_wordAt_4 (by decide) ?_
  refine lv_icmp_eq (tgt := 20) hx hb dX3_wordAt_5 (by decide) (fun c_1 => ?_) (fun c_1 => ?_)
  · replace h := (kp_if h).1 c_1
    exact b_S_wordAt_20 E hA hK R h H locs ls hP hD hS (lv_sub hl [] rfl)
  · replace h := (kp_if h).2 c_1
    refine lv_aload_n hx hb dX3_wordAt_8 rfl (lv_at hl 1 rfl) ?_
    refine lv_aload_n hx hb dX3_wordAt_9 rfl (lv_at hl 0 rfl) ?_
    refine va_get (D := (dC, dI)) (ci := 3) (v := .int sb) (C := RX3) (T := TX3) (N := 8) hx hb hts iw_S_wordAt_Scan hown hK hP 0 rfl rfl 2 (by decide) (hts _ mm_S_wordAt_2) (fun _ h9 => h9) rfl dX3_wordAt_10 ?_
    refine lv_iload_n hx hb dX3_wordAt_13 rfl (lv_at hl 2 rfl) ?_
    obtain ⟨r_2, hr_2, h⟩ := kp_bind h
    refine mk_contR (w := w_SM cI cZ cS aSc aM aMw so sv sb sc sl sh sk sr mm) (w0 := w_M cI cZ cS aM aMw mm) (wr := [(aSc, .inr (3, [.int so, .int sv, .int sb, .int sc, .int sl, .int sh, .long sk, .int sr]))]) hP hD hS hA [1, 2] [0] rfl rfl (by decide) (by decide) [0, 1, 2] rfl (by decide) (va_runV (As := [.int sb, .int a2]) (rest := []) ⟨hx, hb, hml, hown, hts⟩ (c_M_hasCol l dC dI cI cZ cS aM aMw mm sb a2 r_2 hr_2 H.size) (cwV 2 hts gX3_wordAt_X2_hasCol rfl rfl rfl (by decide +kernel) ⟨Nat.le_of_ble_eq_true rfl, Nat.le_of_ble_eq_true rfl⟩) (mk_preV (w0 := w_M cI cZ cS aM aMw mm) (ci := 2) (q0 := 0) hN hK (mk_pick hP [1, 2] rfl) (hD.sub [1, 2] (by decide) rfl) rfl rfl rfl) rfl rfl hl.1 rfl (lv_room (Nat.le_of_ble_eq_true rfl)) dX3_wordAt_14 ⟨Nat.zero_le _, Nat.zero_le _⟩) (fun H locs hP hD hS => ?_)
    refine lv_if_ne (tgt := 22) hx hb dX3_wordAt_17 (by decide) (fun c_3 => ?_) (fun c_3 => ?_)
    · replace h := (kp_if h).2 c_3
      refine lv_aload_n hx hb dX3_wordAt_22 rfl (lv_at hl 1 rfl) ?_
      refine lv_aload_n hx hb dX3_wordAt_23 rfl (lv_at hl 0 rfl) ?_
      refine va_get (D := (dC, dI)) (ci := 3) (v := .int sr) (C := RX3) (T := TX3) (N := 8) hx hb hts iw_S_wordAt_Scan hown hK hP 0 rfl rfl 7 (by decide) (hts _ mm_S_wordAt_0) (fun _ h9 => h9) rfl dX3_wordAt_24 ?_
      refine lv_iload_n hx hb dX3_wordAt_27 rfl (lv_at hl 2 rfl) ?_
      refine lv_iadd hx hb dX3_wordAt_28 ?_
      obtain ⟨r_4, hr_4, h⟩ := kp_bind h
      refine mk_contR (w := w_SM cI cZ cS aSc aM aMw so sv sb sc sl sh sk sr mm) (w0 := w_M cI cZ cS aM aMw mm) (wr := [(aSc, .inr (3, [.int so, .int sv, .int sb, .int sc, .int sl, .int sh, .long sk, .int sr]))]) hP hD hS hA [1, 2] [0] rfl rfl (by decide) (by decide) [0, 1, 2] rfl (by decide) (va_runV (As := [.int (sr + a2)]) (rest := []) ⟨hx, hb, hml, hown, hts⟩ (c_M_word l dC dI cI cZ cS aM aMw mm (sr + a2) r_4 hr_4 H.size) (cwV 1 hts gX3_wordAt_X2_word rfl rfl rfl (by decide +kernel) ⟨Nat.le_of_ble_eq_true rfl, Nat.le_of_ble_eq_true rfl⟩) (mk_preV (w0 := w_M cI cZ cS aM aMw mm) (ci := 2) (q0 := 0) hN hK (mk_pick hP [1, 2] rfl) (hD.sub [1, 2] (by decide) rfl) rfl rfl rfl) rfl rfl hl.1 rfl (lv_room (Nat.le_of_ble_eq_true rfl)) dX3_wordAt_29 ⟨Nat.zero_le _, Nat.zero_le _⟩) (fun H locs hP hD hS => ?_)
      cases h
      exact mk_iretR E hK hP hD hS dX3_wordAt_32
    · replace h := (kp_if h).1 c_3
      exact b_S_wordAt_20 E hA hK R h H locs ls hP hD hS (lv_sub hl [] rfl)

