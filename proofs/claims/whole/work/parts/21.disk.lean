/- Int.bitCount(I)I -/
set_option maxRecDepth 20000 in
theorem mm_I_bitCount_0 : Cond.constant RJ6 265 1431655765 ∈ wsJ6_bitCount_0f7a4 := by decide +kernel
set_option maxRecDepth 20000 in
theorem mm_I_bitCount_1 : Cond.constant RJ6 266 858993459 ∈ wsJ6_bitCount_0f7a4 := by decide +kernel
set_option maxRecDepth 20000 in
theorem mm_I_bitCount_2 : Cond.constant RJ6 267 252645135 ∈ wsJ6_bitCount_0f7a4 := by decide +kernel
set_option maxHeartbeats 4000000 in
set_option maxRecDepth 100000 in
theorem c_I_bitCount (l : Launch) (dC : Nat → ClassId) (dI : Nat → Nat → Nat) (cI cZ cS : ClassId) (a1 : Int32) : CtR l yJ6_bitCount_0f7a4 wsJ6_bitCount_0f7a4 ({ frames := 0, cells := 0, slots := 0, locals := 0 }) (dC, dI) vwCl (tyz cI cZ cS) [.int a1] (([] : va_W)) (p_I_bitCount a1) := by
  intro R h
  refine mk_enter (Qc := (fun A => mk_QR (dC, dI) vwCl (tyz cI cZ cS) A (([] : va_W)) R)) (by decide) rfl (Nat.le_of_ble_eq_true rfl) ?_
  intro p e s m below meth c A E hA hK H locs ls hP hD hS hl
  obtain ⟨⟨hx, hb, hml, hown, hts⟩, hrt, hlk, hN⟩ := id E
  have hown : s.vm.findClass RJ6 = some m.cls := hown
  have hl : lv_has ls 1 [(0, .int a1)] := hl
  unfold p_I_bitCount at h
  refine lv_iload_n hx hb dJ6_bitCount_0f7a4_0 rfl (lv_at hl 0 rfl) ?_
  refine lv_iload_n hx hb dJ6_bitCount_0f7a4_1 rfl (lv_at hl 0 rfl) ?_
  refine lv_iconst (v := 1) hx hb dJ6_bitCount_0f7a4_2 (by decide) ?_
  refine lv_iushr hx hb dJ6_bitCount_0f7a4_3 rfl ?_
  refine lv_ldcw (v := 1431655765) hx hb hown (hts _ mm_I_bitCount_0) dJ6_bitCount_0f7a4_4 ?_
  refine lv_iand hx hb dJ6_bitCount_0f7a4_7 ?_
  refine lv_isub hx hb dJ6_bitCount_0f7a4_8 ?_
  refine lv_topi (fun v_1 ev_1 => ?_)
  replace h := kp_kl h v_1 ev_1
  refine lv_istore_n (lv' := [(0, .int v_1)]) hx hb dJ6_bitCount_0f7a4_9 rfl hl (by decide) rfl (fun ls hl => ?_)
  refine lv_iload_n hx hb dJ6_bitCount_0f7a4_10 rfl (lv_at hl 0 rfl) ?_
  refine lv_ldcw (v := 858993459) hx hb hown (hts _ mm_I_bitCount_1) dJ6_bitCount_0f7a4_11 ?_
  refine lv_iand hx hb dJ6_bitCount_0f7a4_14 ?_
  refine lv_iload_n hx hb dJ6_bitCount_0f7a4_15 rfl (lv_at hl 0 rfl) ?_
  refine lv_iconst (v := 2) hx hb dJ6_bitCount_0f7a4_16 (by decide) ?_
  refine lv_iushr hx hb dJ6_bitCount_0f7a4_17 rfl ?_
  refine lv_ldcw (v := 858993459) hx hb hown (hts _ mm_I_bitCount_1) dJ6_bitCount_0f7a4_18 ?_
  refine lv_iand hx hb dJ6_bitCount_0f7a4_21 ?_
  refine lv_iadd hx hb dJ6_bitCount_0f7a4_22 ?_
  refine lv_topi (fun v_2 ev_2 => ?_)
  replace h := kp_kl h v_2 ev_2
  refine lv_istore_n (lv' := [(0, .int v_2)]) hx hb dJ6_bitCount_0f7a4_23 rfl hl (by decide) rfl (fun ls hl => ?_)
  refine lv_iload_n hx hb dJ6_bitCount_0f7a4_24 rfl (lv_at hl 0 rfl) ?_
  refine lv_iload_n hx hb dJ6_bitCount_0f7a4_25 rfl (lv_at hl 0 rfl) ?_
  refine lv_iconst (v := 4) hx hb dJ6_bitCount_0f7a4_26 (by decide) ?_
  refine lv_iushr hx hb dJ6_bitCount_0f7a4_27 rfl ?_
  refine lv_iadd hx hb dJ6_bitCount_0f7a4_28 ?_
  refine lv_ldcw (v := 252645135) hx hb hown (hts _ mm_I_bitCount_2) dJ6_bitCount_0f7a4_29 ?_
  refine lv_iand hx hb dJ6_bitCount_0f7a4_32 ?_
  refine lv_topi (fun v_3 ev_3 => ?_)
  replace h := kp_kl h v_3 ev_3
  refine lv_istore_n (lv' := [(0, .int v_3)]) hx hb dJ6_bitCount_0f7a4_33 rfl hl (by decide) rfl (fun ls hl => ?_)
  refine lv_iload_n hx hb dJ6_bitCount_0f7a4_34 rfl (lv_at hl 0 rfl) ?_
  refine lv_iload_n hx hb dJ6_bitCount_0f7a4_35 rfl (lv_at hl 0 rfl) ?_
  refine lv_bipush (v := 8) hx hb dJ6_bitCount_0f7a4_36 (by decide) ?_
  refine lv_iushr hx hb dJ6_bitCount_0f7a4_38 rfl ?_
  refine lv_iadd hx hb dJ6_bitCount_0f7a4_39 ?_
  refine lv_topi (fun v_4 ev_4 => ?_)
  replace h := kp_kl h v_4 ev_4
  refine lv_istore_n (lv' := [(0, .int v_4)]) hx hb dJ6_bitCount_0f7a4_40 rfl hl (by decide) rfl (fun ls hl => ?_)
  refine lv_iload_n hx hb dJ6_bitCount_0f7a4_41 rfl (lv_at hl 0 rfl) ?_
  refine lv_iload_n hx hb dJ6_bitCount_0f7a4_42 rfl (lv_at hl 0 rfl) ?_
  refine lv_bipush (v := 16) hx hb dJ6_bitCount_0f7a4_43 (by decide) ?_
  refine lv_iushr hx hb dJ6_bitCount_0f7a4_45 rfl ?_
  refine lv_iadd hx hb dJ6_bitCount_0f7a4_46 ?_
  refine lv_topi (fun v_5 ev_5 => ?_)
  replace h := kp_kl h v_5 ev_5
  refine lv_istore_n (lv' := [(0, .int v_5)]) hx hb dJ6_bitCount_0f7a4_47 rfl hl (by decide) rfl (fun ls hl => ?_)
  refine lv_iload_n hx hb dJ6_bitCount_0f7a4_48 rfl (lv_at hl 0 rfl) ?_
  refine lv_bipush (v := 63) hx hb dJ6_bitCount_0f7a4_49 (by decide) ?_
  refine lv_iand hx hb dJ6_bitCount_0f7a4_51 ?_
  cases h
  exact mk_iretR E hK hP hD hS dJ6_bitCount_0f7a4_52

/- Disk.powered()Z -/
set_option maxRecDepth 20000 in
theorem mm_D_powered_0 : Cond.fieldLink RX0 15 "JournaledTables$Disk" "powered" "Z" ∈ wsX0_powered := by decide +kernel
set_option maxRecDepth 20000 in
theorem iw_D_powered_Disk : ∀ w ∈ u_ws RX0 TX0 4, w ∈ wsX0_powered := by decide +kernel
set_option maxHeartbeats 4000000 in
set_option maxRecDepth 100000 in
theorem c_D_powered (l : Launch) (dC : Nat → ClassId) (dI : Nat → Nat → Nat) (cI cZ cS : ClassId) (aD aDw : Nat) (pw : Int32) (wl : Int32) (wn : Int32) (dk : Nat → Int32) : CtR l yX0_powered wsX0_powered ({ frames := 0, cells := 0, slots := 0, locals := 0 }) (dC, dI) vwCl (tyz cI cZ cS) [.ref aD] (w_D cI cZ cS aD aDw pw wl wn dk) (p_D_powered pw) := by
  intro R h
  refine mk_enter (Qc := (fun A => mk_QR (dC, dI) vwCl (tyz cI cZ cS) A (w_D cI cZ cS aD aDw pw wl wn dk) R)) (by decide) rfl (Nat.le_of_ble_eq_true rfl) ?_
  intro p e s m below meth c A E hA hK H locs ls hP hD hS hl
  obtain ⟨⟨hx, hb, hml, hown, hts⟩, hrt, hlk, hN⟩ := id E
  have hown : s.vm.findClass RX0 = some m.cls := hown
  have hl : lv_has ls 1 [(0, .ref aD)] := hl
  unfold p_D_powered at h
  refine lv_aload_n hx hb dX0_powered_0 rfl (lv_at hl 0 rfl) ?_
  refine va_get (D := (dC, dI)) (ci := 0) (v := .int pw) (C := RX0) (T := TX0) (N := 4) hx hb hts iw_D_powered_Disk hown hK hP 0 rfl rfl 1 (by decide) (hts _ mm_D_powered_0) (fun _ h9 => h9) rfl dX0_powered_1 ?_
  obtain ⟨hc_1, h⟩ := kp_in h
  cases h
  exact mk_zretR E hc_1 hK hP hD hS dX0_powered_4

/- Disk.writesDone()I -/
set_option maxRecDepth 20000 in
theorem mm_D_writesDone_0 : Cond.fieldLink RX0 23 "JournaledTables$Disk" "writesDone" "I" ∈ wsX0_writesDone := by decide +kernel
set_option maxRecDepth 20000 in
theorem iw_D_writesDone_Disk : ∀ w ∈ u_ws RX0 TX0 4, w ∈ wsX0_writesDone := by decide +kernel
set_option maxHeartbeats 4000000 in
set_option maxRecDepth 100000 in
theorem c_D_writesDone (l : Launch) (dC : Nat → ClassId) (dI : Nat → Nat → Nat) (cI cZ cS : ClassId) (aD aDw : Nat) (pw : Int32) (wl : Int32) (wn : Int32) (dk : Nat → Int32) : CtR l yX0_writesDone wsX0_writesDone ({ frames := 0, cells := 0, slots := 0, locals := 0 }) (dC, dI) vwCl (tyz cI cZ cS) [.ref aD] (w_D cI cZ cS aD aDw pw wl wn dk) (p_D_writesDone wn) := by
  intro R h
  refine mk_enter (Qc := (fun A => mk_QR (dC, dI) vwCl (tyz cI cZ cS) A (w_D cI cZ cS aD aDw pw wl wn dk) R)) (by decide) rfl (Nat.le_of_ble_eq_true rfl) ?_
  intro p e s m below meth c A E hA hK H locs ls hP hD hS hl
  obtain ⟨⟨hx, hb, hml, hown, hts⟩, hrt, hlk, hN⟩ := id E
  have hown : s.vm.findClass RX0 = some m.cls := hown
  have hl : lv_has ls 1 [(0, .ref aD)] := hl
  unfold p_D_writesDone at h
  refine lv_aload_n hx hb dX0_writesDone_0 rfl (lv_at hl 0 rfl) ?_
  refine va_get (D := (dC, dI)) (ci := 0) (v := .int wn) (C := RX0) (T := TX0) (N := 4) hx hb hts iw_D_writesDone_Disk hown hK hP 0 rfl rfl 3 (by decide) (hts _ mm_D_writesDone_0) (fun _ h9 => h9) rfl dX0_writesDone_1 ?_
  cases h
  exact mk_iretR E hK hP hD hS dX0_writesDone_4

/- Disk.word(II)I -/
set_option maxRecDepth 20000 in
theorem mm_D_word_0 : Cond.fieldLink RX0 9 "JournaledTables$Disk" "words" "[I" ∈ wsX0_word := by decide +kernel
set_option maxRecDepth 20000 in
theorem iw_D_word_Disk : ∀ w ∈ u_ws RX0 TX0 4, w ∈ wsX0_word := by decide +kernel
set_option maxHeartbeats 4000000 in
set_option maxRecDepth 100000 in
theorem c_D_word (l : Launch) (dC : Nat → ClassId) (dI : Nat → Nat → Nat) (cI cZ cS : ClassId) (aD aDw : Nat) (pw : Int32) (wl : Int32) (wn : Int32) (dk : Nat → Int32) (a1 : Int32) (a2 : Int32) : CtR l yX0_word wsX0_word ({ frames := 0, cells := 0, slots := 0, locals := 0 }) (dC, dI) vwCl (tyz cI cZ cS) [.ref aD, .int a1, .int a2] (w_D cI cZ cS aD aDw pw wl wn dk) (p_D_word dk a1 a2) := by
  intro R h
  refine mk_enter (Qc := (fun A => mk_QR (dC, dI) vwCl (tyz cI cZ cS) A (w_D cI cZ cS aD aDw pw wl wn dk) R)) (by decide) rfl (Nat.le_of_ble_eq_true rfl) ?_
  intro p e s m below meth c A E hA hK H locs ls hP hD hS hl
  obtain ⟨⟨hx, hb, hml, hown, hts⟩, hrt, hlk, hN⟩ := id E
  have hown : s.vm.findClass RX0 = some m.cls := hown
  have hl : lv_has ls 3 [(0, .ref aD), (1, .int a1), (2, .int a2)] := hl
  unfold p_D_word at h
  refine lv_aload_n hx hb dX0_word_0 rfl (lv_at hl 0 rfl) ?_
  refine va_get (D := (dC, dI)) (ci := 0) (v := .ref aDw) (C := RX0) (T := TX0) (N := 4) hx hb hts iw_D_word_Disk hown hK hP 0 rfl rfl 0 (by decide) (hts _ mm_D_word_0) (fun _ h9 => h9) rfl dX0_word_1 ?_
  refine lv_iload_n hx hb dX0_word_4 rfl (lv_at hl 1 rfl) ?_
  refine lv_bipush (v := 16) hx hb dX0_word_5 (by decide) ?_
  refine lv_imul hx hb dX0_word_7 ?_
  refine lv_iload_n hx hb dX0_word_8 rfl (lv_at hl 2 rfl) ?_
  refine lv_iadd hx hb dX0_word_9 ?_
  obtain ⟨hc_1, h⟩ := kp_in h
  refine va_iald hx hb hK hP 1 0 rfl rfl (kx_of hc_1) dX0_word_10 ?_
  cases h
  exact mk_iretR E hK hP hD hS dX0_word_11

/- Disk.powerOn()V -/
set_option maxRecDepth 20000 in
theorem mm_D_powerOn_0 : Cond.fieldLink RX0 15 "JournaledTables$Disk" "powered" "Z" ∈ wsX0_powerOn := by decide +kernel
set_option maxRecDepth 20000 in
theorem iw_D_powerOn_Disk : ∀ w ∈ u_ws RX0 TX0 4, w ∈ wsX0_powerOn := by decide +kernel
set_option maxHeartbeats 4000000 in
set_option maxRecDepth 100000 in
theorem c_D_powerOn (l : Launch) (dC : Nat → ClassId) (dI : Nat → Nat → Nat) (cI cZ cS : ClassId) (aD aDw : Nat) (pw : Int32) (wl : Int32) (wn : Int32) (dk : Nat → Int32) : CtV l yX0_powerOn wsX0_powerOn ({ frames := 0, cells := 0, slots := 0, locals := 0 }) (dC, dI) vwCl (tyz cI cZ cS) [.ref aD] (w_D cI cZ cS aD aDw pw wl wn dk) (fun u : Int32 => w_D cI cZ cS aD aDw u wl wn dk) (p_D_powerOn pw) := by
  intro R h
  refine mk_enter (Qc := (fun A => mk_QV (dC, dI) vwCl (tyz cI cZ cS) A (fun u : Int32 => w_D cI cZ cS aD aDw u wl wn dk) R)) (by decide) rfl (Nat.le_of_ble_eq_true rfl) ?_
  intro p e s m below meth c A E hA hK H locs ls hP hD hS hl
  obtain ⟨⟨hx, hb, hml, hown, hts⟩, hrt, hlk, hN⟩ := id E
  have hown : s.vm.findClass RX0 = some m.cls := hown
  have hl : lv_has ls 1 [(0, .ref aD)] := hl
  unfold p_D_powerOn at h
  refine lv_aload_n hx hb dX0_powerOn_0 rfl (lv_at hl 0 rfl) ?_
  refine lv_iconst (v := 1) hx hb dX0_powerOn_1 (by decide) ?_
  refine va_put (D := (dC, dI)) (ci := 0) (v := .int 1) (ty := .boolean) (C := RX0) (T := TX0) (N := 4) hx hb hts iw_D_powerOn_Disk tyX0 tyX0_ok nmX0 hown hK hP hD hS 0 rfl rfl 1 (by decide) (hts _ mm_D_powerOn_0) (fun _ h9 => h9) rfl (by decide +kernel) rfl rfl (Nat.le_of_ble_eq_true rfl) dX0_powerOn_2 (fun H locs hP hD hS => ?_)
  have hP : va_P (dC, dI) vwCl (w_D cI cZ cS aD aDw 1 wl wn dk) H := hP
  have hD : va_D A (w_D cI cZ cS aD aDw 1 wl wn dk) := hD
  cases h
  exact mk_vret E hK hP hD hS dX0_powerOn_5

/- Disk.failAfter(I)V -/
set_option maxRecDepth 20000 in
theorem mm_D_failAfter_0 : Cond.fieldLink RX0 19 "JournaledTables$Disk" "writesLeft" "I" ∈ wsX0_failAfter := by decide +kernel
set_option maxRecDepth 20000 in
theorem iw_D_failAfter_Disk : ∀ w ∈ u_ws RX0 TX0 4, w ∈ wsX0_failAfter := by decide +kernel
set_option maxHeartbeats 4000000 in
set_option maxRecDepth 100000 in
theorem c_D_failAfter (l : Launch) (dC : Nat → ClassId) (dI : Nat → Nat → Nat) (cI cZ cS : ClassId) (aD aDw : Nat) (pw : Int32) (wl : Int32) (wn : Int32) (dk : Nat → Int32) (a1 : Int32) : CtV l yX0_failAfter wsX0_failAfter ({ frames := 0, cells := 0, slots := 0, locals := 0 }) (dC, dI) vwCl (tyz cI cZ cS) [.ref aD, .int a1] (w_D cI cZ cS aD aDw pw wl wn dk) (fun u : Int32 => w_D cI cZ cS aD aDw pw u wn dk) (p_D_failAfter wl a1) := by
  intro R h
  refine mk_enter (Qc := (fun A => mk_QV (dC, dI) vwCl (tyz cI cZ cS) A (fun u : Int32 => w_D cI cZ cS aD aDw pw u wn dk) R)) (by decide) rfl (Nat.le_of_ble_eq_true rfl) ?_
  intro p e s m below meth c A E hA hK H locs ls hP hD hS hl
  obtain ⟨⟨hx, hb, hml, hown, hts⟩, hrt, hlk, hN⟩ := id E
  have hown : s.vm.findClass RX0 = some m.cls := hown
  have hl : lv_has ls 2 [(0, .ref aD), (1, .int a1)] := hl
  unfold p_D_failAfter at h
  refine lv_aload_n hx hb dX0_failAfter_0 rfl (lv_at hl 0 rfl) ?_
  refine lv_iload_n hx hb dX0_failAfter_1 rfl (lv_at hl 1 rfl) ?_
  refine va_put (D := (dC, dI)) (ci := 0) (v := .int a1) (ty := .int) (C := RX0) (T := TX0) (N := 4) hx hb hts iw_D_failAfter_Disk tyX0 tyX0_ok nmX0 hown hK hP hD hS 0 rfl rfl 2 (by decide) (hts _ mm_D_failAfter_0) (fun _ h9 => h9) rfl (by decide +kernel) rfl rfl (Nat.le_of_ble_eq_true rfl) dX0_failAfter_2 (fun H locs hP hD hS => ?_)
  have hP : va_P (dC, dI) vwCl (w_D cI cZ cS aD aDw pw a1 wn dk) H := hP
  have hD : va_D A (w_D cI cZ cS aD aDw pw a1 wn dk) := hD
  cases h
  exact mk_vret E hK hP hD hS dX0_failAfter_5

/- Disk.wipe()V -/
set_option maxRecDepth 20000 in
theorem mm_D_wipe_0 : Cond.fieldLink RX0 9 "JournaledTables$Disk" "words" "[I" ∈ wsX0_wipe := by decide +kernel
set_option maxRecDepth 20000 in
theorem iw_D_wipe_Disk : ∀ w ∈ u_ws RX0 TX0 4, w ∈ wsX0_wipe := by decide +kernel
set_option maxRecDepth 20000 in
theorem mm_D_wipe_2 : Cond.fieldLink RX0 15 "JournaledTables$Disk" "powered" "Z" ∈ wsX0_wipe := by decide +kernel
set_option maxRecDepth 20000 in
theorem mm_D_wipe_3 : Cond.fieldLink RX0 19 "JournaledTables$Disk" "writesLeft" "I" ∈ wsX0_wipe := by decide +kernel
set_option maxHeartbeats 4000000 in
set_option maxRecDepth 100000 in
theorem b_D_wipe_2 {p : Program} {l : Launch} {e : Env} {s : State} {m : MethodId} {below : List Frame} {meth : Method} {c : Code} {A : Nat → Prop} {dC : Nat → ClassId} {dI : Nat → Nat → Nat} {cI cZ cS : ClassId} {aD aDw : Nat} {wn : Int32} (E : mk_En p s m meth c cX0_wipe 2 none ([.ref aD] : List Value).toArray wsX0_wipe yX0_wipe.cls) (hA : ∀ q : Nat, s.heap.size ≤ q → A q) (hK : va_K (dC, dI) vwCl (tyz cI cZ cS) s) (R : Int32 × Int32 × (Nat → Int32)) {k_2 : Int32 → Int32 → Int32 → (Nat → Int32) → Option (Int32 × Int32 × (Nat → Int32))} (hk_2 : ∀ (x1 : Int32) (pw : Int32) (wl : Int32) (dk : Nat → Int32), k_2 x1 pw wl dk = some R → ∀ (H : Heap) (locs : List Loc) (ls : Array Slot), va_P (dC, dI) vwCl (w_D cI cZ cS aD aDw pw wl wn dk) H → va_D A (w_D cI cZ cS aD aDw pw wl wn dk) → va_S A s.heap H locs → lv_has ls 2 [(0, .ref aD), (1, .int x1)] → W p l e ({ frames := 0, cells := 0, slots := 0, locals := 0 } : Room) s m ([.ref aD] : List Value).toArray below meth c H locs 0 0 (MQ below (mk_QV (dC, dI) vwCl (tyz cI cZ cS) A (fun u : Int32 × Int32 × (Nat → Int32) => w_D cI cZ cS aD aDw u.1 u.2.1 wn u.2.2) R) ([.ref aD] : List Value).toArray s 0 0 A) (F0 m 2 ls [])) (x1 : Int32) (pw : Int32) (wl : Int32) (dk : Nat → Int32) (h : p_D_wipe_2 k_2 x1 pw wl dk = some R) : ∀ (H : Heap) (locs : List Loc) (ls : Array Slot), va_P (dC, dI) vwCl (w_D cI cZ cS aD aDw pw wl wn dk) H → va_D A (w_D cI cZ cS aD aDw pw wl wn dk) → va_S A s.heap H locs → lv_has ls 2 [(0, .ref aD), (1, .int x1)] → W p l e ({ frames := 0, cells := 0, slots := 0, locals := 0 } : Room) s m ([.ref aD] : List Value).toArray below meth c H locs 0 0 (MQ below (mk_QV (dC, dI) vwCl (tyz cI cZ cS) A (fun u : Int32 × Int32 × (Nat → Int32) => w_D cI cZ cS aD aDw u.1 u.2.1 wn u.2.2) R) ([.ref aD] : List Value).toArray s 0 0 A) (F0 m 2 ls []) := by
  intro H locs ls hP hD hS hl
  obtain ⟨⟨hx, hb, hml, hown, hts⟩, hrt, hlk, hN⟩ := id E
  have hown : s.vm.findClass RX0 = some m.cls := hown
  unfold p_D_wipe_2 at h
  refine lv_iload_n hx hb dX0_wipe_2 rfl (lv_at hl 1 rfl) ?_
  refine lv_aload_n hx hb dX0_wipe_3 rfl (lv_at hl 0 rfl) ?_
  refine va_get (D := (dC, dI)) (ci := 0) (v := .ref aDw) (C := RX0) (T := TX0) (N := 4) hx hb hts iw_D_wipe_Disk hown hK hP 0 rfl rfl 0 (by decide) (hts _ mm_D_wipe_0) (fun _ h9 => h9) rfl dX0_wipe_4 ?_
  refine va_alen hx hb hK hP 1 0 rfl rfl (v := 528) rfl dX0_wipe_7 ?_
  refine lv_icmp_ge (tgt := 24) hx hb dX0_wipe_8 (by decide) (fun c_1 => ?_) (fun c_1 => ?_)
  · replace h := (kp_if h).1 c_1
    refine lv_aload_n hx hb dX0_wipe_24 rfl (lv_at hl 0 rfl) ?_
    refine lv_iconst (v := 1) hx hb dX0_wipe_25 (by decide) ?_
    refine va_put (D := (dC, dI)) (ci := 0) (v := .int 1) (ty := .boolean) (C := RX0) (T := TX0) (N := 4) hx hb hts iw_D_wipe_Disk tyX0 tyX0_ok nmX0 hown hK hP hD hS 0 rfl rfl 1 (by decide) (hts _ mm_D_wipe_2) (fun _ h9 => h9) rfl (by decide +kernel) rfl rfl (Nat.le_of_ble_eq_true rfl) dX0_wipe_26 (fun H locs hP hD hS => ?_)
    have hP : va_P (dC, dI) vwCl (w_D cI cZ cS aD aDw 1 wl wn dk) H := hP
    have hD : va_D A (w_D cI cZ cS aD aDw 1 wl wn dk) := hD
    refine lv_aload_n hx hb dX0_wipe_29 rfl (lv_at hl 0 rfl) ?_
    refine lv_iconst (v := (-1)) hx hb dX0_wipe_30 (by decide) ?_
    refine va_put (D := (dC, dI)) (ci := 0) (v := .int (-1)) (ty := .int) (C := RX0) (T := TX0) (N := 4) hx hb hts iw_D_wipe_Disk tyX0 tyX0_ok nmX0 hown hK hP hD hS 0 rfl rfl 2 (by decide) (hts _ mm_D_wipe_3) (fun _ h9 => h9) rfl (by decide +kernel) rfl rfl (Nat.le_of_ble_eq_true rfl) dX0_wipe_31 (fun H locs hP hD hS => ?_)
    have hP : va_P (dC, dI) vwCl (w_D cI cZ cS aD aDw 1 (-1) wn dk) H := hP
    have hD : va_D A (w_D cI cZ cS aD aDw 1 (-1) wn dk) := hD
    cases h
    exact mk_vret E hK hP hD hS dX0_wipe_34
  · replace h := (kp_if h).2 c_1
    refine lv_aload_n hx hb dX0_wipe_11 rfl (lv_at hl 0 rfl) ?_
    refine va_get (D := (dC, dI)) (ci := 0) (v := .ref aDw) (C := RX0) (T := TX0) (N := 4) hx hb hts iw_D_wipe_Disk hown hK hP 0 rfl rfl 0 (by decide) (hts _ mm_D_wipe_0) (fun _ h9 => h9) rfl dX0_wipe_12 ?_
    refine lv_iload_n hx hb dX0_wipe_15 rfl (lv_at hl 1 rfl) ?_
    refine lv_iconst (v := 0) hx hb dX0_wipe_16 (by decide) ?_
    obtain ⟨hc_2, h⟩ := kp_in h
    refine va_iast hx hb hK hP hD hS 1 0 rfl rfl (kx_of hc_2) dX0_wipe_17 (fun H locs hP hD hS => ?_)
    have hP : va_P (dC, dI) vwCl (w_D cI cZ cS aD aDw pw wl wn (upd dk x1.toNatClampNeg 0)) H := hP
    have hD : va_D A (w_D cI cZ cS aD aDw pw wl wn (upd dk x1.toNatClampNeg 0)) := hD
    refine lv_iinc (v := x1 + 1) (lv' := [(1, .int (x1 + 1)), (0, .ref aD)]) hx hb dX0_wipe_18 hl (k := 1) rfl rfl (by decide) rfl (fun ls hl => ?_)
    refine lv_goto (tgt := 2) hx hb dX0_wipe_21 (by decide) ?_
    exact hk_2 (x1 + 1) pw wl (upd dk x1.toNatClampNeg 0) h H locs ls hP hD hS (lv_sub hl [1, 0] rfl)
set_option maxHeartbeats 4000000 in
set_option maxRecDepth 100000 in
theorem l_D_wipe_2 {p : Program} {l : Launch} {e : Env} {s : State} {m : MethodId} {below : List Frame} {meth : Method} {c : Code} {A : Nat → Prop} {dC : Nat → ClassId} {dI : Nat → Nat → Nat} {cI cZ cS : ClassId} {aD aDw : Nat} {wn : Int32} (E : mk_En p s m meth c cX0_wipe 2 none ([.ref aD] : List Value).toArray wsX0_wipe yX0_wipe.cls) (hA : ∀ q : Nat, s.heap.size ≤ q → A q) (hK : va_K (dC, dI) vwCl (tyz cI cZ cS) s) (R : Int32 × Int32 × (Nat → Int32)) : ∀ (n : Nat) (x1 : Int32) (pw : Int32) (wl : Int32) (dk : Nat → Int32), pl_D_wipe_2 n x1 pw wl dk = some R → ∀ (H : Heap) (locs : List Loc) (ls : Array Slot), va_P (dC, dI) vwCl (w_D cI cZ cS aD aDw pw wl wn dk) H → va_D A (w_D cI cZ cS aD aDw pw wl wn dk) → va_S A s.heap H locs → lv_has ls 2 [(0, .ref aD), (1, .int x1)] → W p l e ({ frames := 0, cells := 0, slots := 0, locals := 0 } : Room) s m ([.ref aD] : List Value).toArray below meth c H locs 0 0 (MQ below (mk_QV (dC, dI) vwCl (tyz cI cZ cS) A (fun u : Int32 × Int32 × (Nat → Int32) => w_D cI cZ cS aD aDw u.1 u.2.1 wn u.2.2) R) ([.ref aD] : List Value).toArray s 0 0 A) (F0 m 2 ls []) := by
  intro n
  induction n with
  | zero =>
    intro x1 pw wl dk h
    cases h
  | succ n ih =>
    intro x1 pw wl dk h
    exact b_D_wipe_2 E hA hK R ih x1 pw wl dk h
set_option maxHeartbeats 4000000 in
set_option maxRecDepth 100000 in
theorem c_D_wipe (l : Launch) (dC : Nat → ClassId) (dI : Nat → Nat → Nat) (cI cZ cS : ClassId) (aD aDw : Nat) (pw : Int32) (wl : Int32) (wn : Int32) (dk : Nat → Int32) : CtV l yX0_wipe wsX0_wipe ({ frames := 0, cells := 0, slots := 0, locals := 0 }) (dC, dI) vwCl (tyz cI cZ cS) [.ref aD] (w_D cI cZ cS aD aDw pw wl wn dk) (fun u : Int32 × Int32 × (Nat → Int32) => w_D cI cZ cS aD aDw u.1 u.2.1 wn u.2.2) (p_D_wipe pw wl dk) := by
  intro R h
  refine mk_enter (Qc := (fun A => mk_QV (dC, dI) vwCl (tyz cI cZ cS) A (fun u : Int32 × Int32 × (Nat → Int32) => w_D cI cZ cS aD aDw u.1 u.2.1 wn u.2.2) R)) (by decide) rfl (Nat.le_of_ble_eq_true rfl) ?_
  intro p e s m below meth c A E hA hK H locs ls hP hD hS hl
  obtain ⟨⟨hx, hb, hml, hown, hts⟩, hrt, hlk, hN⟩ := id E
  have hown : s.vm.findClass RX0 = some m.cls := hown
  have hl : lv_has ls 2 [(0, .ref aD)] := hl
  unfold p_D_wipe at h
  refine lv_iconst (v := 0) hx hb dX0_wipe_0 (by decide) ?_
  refine lv_istore_n (lv' := [(1, .int 0), (0, .ref aD)]) hx hb dX0_wipe_1 rfl hl (by decide) rfl (fun ls hl => ?_)
  exact l_D_wipe_2 E hA hK R 1000 0 pw wl dk h H locs ls hP hD hS (lv_sub hl [1, 0] rfl)

/- Disk.write(I[II)Z -/
set_option maxRecDepth 20000 in
theorem mm_D_writeE_0 : Cond.fieldLink RX0 9 "JournaledTables$Disk" "words" "[I" ∈ wsX0_write := by decide +kernel
set_option maxRecDepth 20000 in
theorem iw_D_writeE_Disk : ∀ w ∈ u_ws RX0 TX0 4, w ∈ wsX0_write := by decide +kernel
set_option maxRecDepth 20000 in
theorem mm_D_writeE_2 : Cond.methodLink RX0 26 arraycopyName ∈ wsX0_write := by decide +kernel
set_option maxRecDepth 20000 in
theorem mm_D_writeE_3 : Cond.native arraycopyName ∈ wsX0_write := by decide +kernel
set_option maxRecDepth 20000 in
theorem mm_D_writeE_4 : Cond.static arraycopyName ∈ wsX0_write := by decide +kernel
set_option maxRecDepth 20000 in
theorem mm_D_writeE_5 : Cond.initialized "java/lang/System" ∈ wsX0_write := by decide +kernel
set_option maxRecDepth 20000 in
theorem mm_D_writeE_6 : Cond.fieldLink RX0 23 "JournaledTables$Disk" "writesDone" "I" ∈ wsX0_write := by decide +kernel
set_option maxRecDepth 20000 in
theorem mm_D_writeE_7 : Cond.fieldLink RX0 19 "JournaledTables$Disk" "writesLeft" "I" ∈ wsX0_write := by decide +kernel
set_option maxRecDepth 20000 in
theorem mm_D_writeE_8 : Cond.fieldLink RX0 15 "JournaledTables$Disk" "powered" "Z" ∈ wsX0_write := by decide +kernel
set_option maxHeartbeats 4000000 in
set_option maxRecDepth 100000 in
theorem b_D_writeE_36 {p : Program} {l : Launch} {e : Env} {s : State} {m : MethodId} {below : List Frame} {meth : Method} {c : Code} {A : Nat → Prop} {dC : Nat → ClassId} {dI : Nat → Nat → Nat} {cI cZ cS : ClassId} {aD aDw aEx : Nat} {nx : Nat} {ex : Nat → Int32} {a1 : Int32} {a3 : Int32} (E : mk_En p s m meth c cX0_write 4 (some .boolean) ([.ref aD, .int a1, .ref aEx, .int a3] : List Value).toArray wsX0_write yX0_write.cls) (hA : ∀ q : Nat, s.heap.size ≤ q → A q) (hK : va_K (dC, dI) vwCl (tyz cI cZ cS) s) (R : Int32 × Int32 × Int32 × Int32 × (Nat → Int32)) (x1 : Int32) (x3 : Int32) (pw : Int32) (wl : Int32) (wn : Int32) (dk : Nat → Int32) (h : p_D_writeE_36 nx ex x1 x3 pw wl wn dk = some R) : ∀ (H : Heap) (locs : List Loc) (ls : Array Slot), va_P (dC, dI) vwCl (w_DE cI cZ cS aD aDw aEx pw wl wn dk nx ex) H → va_D A (w_DE cI cZ cS aD aDw aEx pw wl wn dk nx ex) → va_S A s.heap H locs → lv_has ls 4 [(0, .ref aD), (1, .int x1), (2, .ref aEx), (3, .int x3)] → W p l e ({ frames := 1, cells := 0, slots := 0, locals := 18 } : Room) s m ([.ref aD, .int a1, .ref aEx, .int a3] : List Value).toArray below meth c H locs 0 0 (MQ below (mk_QI (dC, dI) vwCl (tyz cI cZ cS) A (fun u : Int32 × Int32 × Int32 × (Nat → Int32) => w_DE cI cZ cS aD aDw aEx u.1 u.2.1 u.2.2.1 u.2.2.2 nx ex) R) ([.ref aD, .int a1, .ref aEx, .int a3] : List Value).toArray s 0 0 A) (F0 m 36 ls []) := by
  intro H locs ls hP hD hS hl
  obtain ⟨⟨hx, hb, hml, hown, hts⟩, hrt, hlk, hN⟩ := id E
  have hown : s.vm.findClass RX0 = some m.cls := hown
  unfold p_D_writeE_36 at h
  refine lv_aload_n hx hb dX0_write_36 rfl (lv_at hl 2 rfl) ?_
  refine lv_iload_n hx hb dX0_write_37 rfl (lv_at hl 3 rfl) ?_
  refine lv_bipush (v := 16) hx hb dX0_write_38 (by decide) ?_
  refine lv_imul hx hb dX0_write_40 ?_
  refine lv_aload_n hx hb dX0_write_41 rfl (lv_at hl 0 rfl) ?_
  refine va_get (D := (dC, dI)) (ci := 0) (v := .ref aDw) (C := RX0) (T := TX0) (N := 4) hx hb hts iw_D_writeE_Disk hown hK hP 0 rfl rfl 0 (by decide) (hts _ mm_D_writeE_0) (fun _ h9 => h9) rfl dX0_write_42 ?_
  refine lv_iload_n hx hb dX0_write_45 rfl (lv_at hl 1 rfl) ?_
  refine lv_bipush (v := 16) hx hb dX0_write_46 (by decide) ?_
  refine lv_imul hx hb dX0_write_48 ?_
  refine lv_bipush (v := 16) hx hb dX0_write_49 (by decide) ?_
  obtain ⟨hc_1, h⟩ := kp_in h
  refine va_copyi hx hb (hml.trans hl.1.symm) hown (hts _ mm_D_writeE_2) (hts _ mm_D_writeE_3) (hts _ mm_D_writeE_4) (hts _ mm_D_writeE_5) hK hP hD hS 2 1 0 0 rfl rfl rfl rfl rfl (kx_cp1 hc_1) (kx_cp2 hc_1) (kx_cp3 hc_1) (kx_cp4 hc_1) (kx_cp5 hc_1) (fun _ _ => rfl) (Nat.le_of_ble_eq_true rfl) (by decide +kernel) dX0_write_51 (fun H locs hP hD hS => ?_)
  have hP : va_P (dC, dI) vwCl (w_DE cI cZ cS aD aDw aEx pw wl wn (va_cpy ex dk (x3 * 16).toNatClampNeg (x1 * 16).toNatClampNeg (16 : Int32).toNatClampNeg) nx ex) H := hP
  have hD : va_D A (w_DE cI cZ cS aD aDw aEx pw wl wn (va_cpy ex dk (x3 * 16).toNatClampNeg (x1 * 16).toNatClampNeg (16 : Int32).toNatClampNeg) nx ex) := hD
  refine lv_aload_n hx hb dX0_write_54 rfl (lv_at hl 0 rfl) ?_
  refine lv_dup hx hb dX0_write_55 rfl ?_
  refine va_get (D := (dC, dI)) (ci := 0) (v := .int wn) (C := RX0) (T := TX0) (N := 4) hx hb hts iw_D_writeE_Disk hown hK hP 0 rfl rfl 3 (by decide) (hts _ mm_D_writeE_6) (fun _ h9 => h9) rfl dX0_write_56 ?_
  refine lv_iconst (v := 1) hx hb dX0_write_59 (by decide) ?_
  refine lv_iadd hx hb dX0_write_60 ?_
  refine va_put (D := (dC, dI)) (ci := 0) (v := .int (wn + 1)) (ty := .int) (C := RX0) (T := TX0) (N := 4) hx hb hts iw_D_writeE_Disk tyX0 tyX0_ok nmX0 hown hK hP hD hS 0 rfl rfl 3 (by decide) (hts _ mm_D_writeE_6) (fun _ h9 => h9) rfl (by decide +kernel) rfl rfl (Nat.le_of_ble_eq_true rfl) dX0_write_61 (fun H locs hP hD hS => ?_)
  have hP : va_P (dC, dI) vwCl (w_DE cI cZ cS aD aDw aEx pw wl (wn + 1) (va_cpy ex dk (x3 * 16).toNatClampNeg (x1 * 16).toNatClampNeg (16 : Int32).toNatClampNeg) nx ex) H := hP
  have hD : va_D A (w_DE cI cZ cS aD aDw aEx pw wl (wn + 1) (va_cpy ex dk (x3 * 16).toNatClampNeg (x1 * 16).toNatClampNeg (16 : Int32).toNatClampNeg) nx ex) := hD
  refine lv_iconst (v := 1) hx hb dX0_write_64 (by decide) ?_
  cases h
  exact mk_zret E (by decide) hK hP hD hS dX0_write_65
set_option maxHeartbeats 4000000 in
set_option maxRecDepth 100000 in
theorem c_D_writeE (l : Launch) (dC : Nat → ClassId) (dI : Nat → Nat → Nat) (cI cZ cS : ClassId) (aD aDw aEx : Nat) (pw : Int32) (wl : Int32) (wn : Int32) (dk : Nat → Int32) (nx : Nat) (ex : Nat → Int32) (a1 : Int32) (a3 : Int32) : CtI l yX0_write wsX0_write ({ frames := 1, cells := 0, slots := 0, locals := 18 }) (dC, dI) vwCl (tyz cI cZ cS) [.ref aD, .int a1, .ref aEx, .int a3] (w_DE cI cZ cS aD aDw aEx pw wl wn dk nx ex) (fun u : Int32 × Int32 × Int32 × (Nat → Int32) => w_DE cI cZ cS aD aDw aEx u.1 u.2.1 u.2.2.1 u.2.2.2 nx ex) (p_D_writeE pw wl wn dk nx ex a1 a3) := by
  intro R h
  refine mk_enter (Qc := (fun A => mk_QI (dC, dI) vwCl (tyz cI cZ cS) A (fun u : Int32 × Int32 × Int32 × (Nat → Int32) => w_DE cI cZ cS aD aDw aEx u.1 u.2.1 u.2.2.1 u.2.2.2 nx ex) R)) (by decide) rfl (Nat.le_of_ble_eq_true rfl) ?_
  intro p e s m below meth c A E hA hK H locs ls hP hD hS hl
  obtain ⟨⟨hx, hb, hml, hown, hts⟩, hrt, hlk, hN⟩ := id E
  have hown : s.vm.findClass RX0 = some m.cls := hown
  have hl : lv_has ls 4 [(0, .ref aD), (1, .int a1), (2, .ref aEx), (3, .int a3)] := hl
  unfold p_D_writeE at h
  refine lv_aload_n hx hb dX0_write_0 rfl (lv_at hl 0 rfl) ?_
  refine va_get (D := (dC, dI)) (ci := 0) (v := .int wl) (C := RX0) (T := TX0) (N := 4) hx hb hts iw_D_writeE_Disk hown hK hP 0 rfl rfl 2 (by decide) (hts _ mm_D_writeE_7) (fun _ h9 => h9) rfl dX0_write_1 ?_
  refine lv_if_ne (tgt := 19) hx hb dX0_write_4 (by decide) (fun c_2 => ?_) (fun c_2 => ?_)
  · replace h := (kp_if h).2 c_2
    refine lv_aload_n hx hb dX0_write_19 rfl (lv_at hl 0 rfl) ?_
    refine va_get (D := (dC, dI)) (ci := 0) (v := .int wl) (C := RX0) (T := TX0) (N := 4) hx hb hts iw_D_writeE_Disk hown hK hP 0 rfl rfl 2 (by decide) (hts _ mm_D_writeE_7) (fun _ h9 => h9) rfl dX0_write_20 ?_
    refine lv_if_le (tgt := 36) hx hb dX0_write_23 (by decide) (fun c_3 => ?_) (fun c_3 => ?_)
    · replace h := (kp_if h).1 c_3
      exact b_D_writeE_36 E hA hK R a1 a3 pw wl wn dk h H locs ls hP hD hS (lv_sub hl [0, 1, 2, 3] rfl)
    · replace h := (kp_if h).2 c_3
      refine lv_aload_n hx hb dX0_write_26 rfl (lv_at hl 0 rfl) ?_
      refine lv_dup hx hb dX0_write_27 rfl ?_
      refine va_get (D := (dC, dI)) (ci := 0) (v := .int wl) (C := RX0) (T := TX0) (N := 4) hx hb hts iw_D_writeE_Disk hown hK hP 0 rfl rfl 2 (by decide) (hts _ mm_D_writeE_7) (fun _ h9 => h9) rfl dX0_write_28 ?_
      refine lv_iconst (v := 1) hx hb dX0_write_31 (by decide) ?_
      refine lv_isub hx hb dX0_write_32 ?_
      refine va_put (D := (dC, dI)) (ci := 0) (v := .int (wl - 1)) (ty := .int) (C := RX0) (T := TX0) (N := 4) hx hb hts iw_D_writeE_Disk tyX0 tyX0_ok nmX0 hown hK hP hD hS 0 rfl rfl 2 (by decide) (hts _ mm_D_writeE_7) (fun _ h9 => h9) rfl (by decide +kernel) rfl rfl (Nat.le_of_ble_eq_true rfl) dX0_write_33 (fun H locs hP hD hS => ?_)
      have hP : va_P (dC, dI) vwCl (w_DE cI cZ cS aD aDw aEx pw (wl - 1) wn dk nx ex) H := hP
      have hD : va_D A (w_DE cI cZ cS aD aDw aEx pw (wl - 1) wn dk nx ex) := hD
      exact b_D_writeE_36 E hA hK R a1 a3 pw (wl - 1) wn dk h H locs ls hP hD hS (lv_sub hl [0, 1, 2, 3] rfl)
  · replace h := (kp_if h).1 c_2
    refine lv_aload_n hx hb dX0_write_7 rfl (lv_at hl 0 rfl) ?_
    refine lv_iconst (v := 0) hx hb dX0_write_8 (by decide) ?_
    refine va_put (D := (dC, dI)) (ci := 0) (v := .int 0) (ty := .boolean) (C := RX0) (T := TX0) (N := 4) hx hb hts iw_D_writeE_Disk tyX0 tyX0_ok nmX0 hown hK hP hD hS 0 rfl rfl 1 (by decide) (hts _ mm_D_writeE_8) (fun _ h9 => h9) rfl (by decide +kernel) rfl rfl (Nat.le_of_ble_eq_true rfl) dX0_write_9 (fun H locs hP hD hS => ?_)
    have hP : va_P (dC, dI) vwCl (w_DE cI cZ cS aD aDw aEx 0 wl wn dk nx ex) H := hP
    have hD : va_D A (w_DE cI cZ cS aD aDw aEx 0 wl wn dk nx ex) := hD
    refine lv_aload_n hx hb dX0_write_12 rfl (lv_at hl 0 rfl) ?_
    refine lv_iconst (v := (-1)) hx hb dX0_write_13 (by decide) ?_
    refine va_put (D := (dC, dI)) (ci := 0) (v := .int (-1)) (ty := .int) (C := RX0) (T := TX0) (N := 4) hx hb hts iw_D_writeE_Disk tyX0 tyX0_ok nmX0 hown hK hP hD hS 0 rfl rfl 2 (by decide) (hts _ mm_D_writeE_7) (fun _ h9 => h9) rfl (by decide +kernel) rfl rfl (Nat.le_of_ble_eq_true rfl) dX0_write_14 (fun H locs hP hD hS => ?_)
    have hP : va_P (dC, dI) vwCl (w_DE cI cZ cS aD aDw aEx 0 (-1) wn dk nx ex) H := hP
    have hD : va_D A (w_DE cI cZ cS aD aDw aEx 0 (-1) wn dk nx ex) := hD
    refine lv_iconst (v := 0) hx hb dX0_write_17 (by decide) ?_
    cases h
    exact mk_zret E (by decide) hK hP hD hS dX0_write_18

/- Disk.write(I[II)Z -/
set_option maxHeartbeats 4000000 in
set_option maxRecDepth 100000 in
theorem b_D_writeD_36 {p : Program} {l : Launch} {e : Env} {s : State} {m : MethodId} {below : List Frame} {meth : Method} {c : Code} {A : Nat → Prop} {dC : Nat → ClassId} {dI : Nat → Nat → Nat} {cI cZ cS : ClassId} {aD aDw : Nat} {a1 : Int32} {a3 : Int32} (E : mk_En p s m meth c cX0_write 4 (some .boolean) ([.ref aD, .int a1, .ref aDw, .int a3] : List Value).toArray wsX0_write yX0_write.cls) (hA : ∀ q : Nat, s.heap.size ≤ q → A q) (hK : va_K (dC, dI) vwCl (tyz cI cZ cS) s) (R : Int32 × Int32 × Int32 × Int32 × (Nat → Int32)) (x1 : Int32) (x3 : Int32) (pw : Int32) (wl : Int32) (wn : Int32) (dk : Nat → Int32) (h : p_D_writeD_36 x1 x3 pw wl wn dk = some R) : ∀ (H : Heap) (locs : List Loc) (ls : Array Slot), va_P (dC, dI) vwCl (w_D cI cZ cS aD aDw pw wl wn dk) H → va_D A (w_D cI cZ cS aD aDw pw wl wn dk) → va_S A s.heap H locs → lv_has ls 4 [(0, .ref aD), (1, .int x1), (2, .ref aDw), (3, .int x3)] → W p l e ({ frames := 1, cells := 0, slots := 0, locals := 18 } : Room) s m ([.ref aD, .int a1, .ref aDw, .int a3] : List Value).toArray below meth c H locs 0 0 (MQ below (mk_QI (dC, dI) vwCl (tyz cI cZ cS) A (fun u : Int32 × Int32 × Int32 × (Nat → Int32) => w_D cI cZ cS aD aDw u.1 u.2.1 u.2.2.1 u.2.2.2) R) ([.ref aD, .int a1, .ref aDw, .int a3] : List Value).toArray s 0 0 A) (F0 m 36 ls []) := by
  intro H locs ls hP hD hS hl
  obtain ⟨⟨hx, hb, hml, hown, hts⟩, hrt, hlk, hN⟩ := id E
  have hown : s.vm.findClass RX0 = some m.cls := hown
  unfold p_D_writeD_36 at h
  refine lv_aload_n hx hb dX0_write_36 rfl (lv_at hl 2 rfl) ?_
  refine lv_iload_n hx hb dX0_write_37 rfl (lv_at hl 3 rfl) ?_
  refine lv_bipush (v := 16) hx hb dX0_write_38 (by decide) ?_
  refine lv_imul hx hb dX0_write_40 ?_
  refine lv_aload_n hx hb dX0_write_41 rfl (lv_at hl 0 rfl) ?_
  refine va_get (D := (dC, dI)) (ci := 0) (v := .ref aDw) (C := RX0) (T := TX0) (N := 4) hx hb hts iw_D_writeE_Disk hown hK hP 0 rfl rfl 0 (by decide) (hts _ mm_D_writeE_0) (fun _ h9 => h9) rfl dX0_write_42 ?_
  refine lv_iload_n hx hb dX0_write_45 rfl (lv_at hl 1 rfl) ?_
  refine lv_bipush (v := 16) hx hb dX0_write_46 (by decide) ?_
  refine lv_imul hx hb dX0_write_48 ?_
  refine lv_bipush (v := 16) hx hb dX0_write_49 (by decide) ?_
  obtain ⟨hc_1, h⟩ := kp_in h
  refine va_copyi hx hb (hml.trans hl.1.symm) hown (hts _ mm_D_writeE_2) (hts _ mm_D_writeE_3) (hts _ mm_D_writeE_4) (hts _ mm_D_writeE_5) hK hP hD hS 1 1 0 0 rfl rfl rfl rfl rfl (kx_cp1 hc_1) (kx_cp2 hc_1) (kx_cp3 hc_1) (kx_cp4 hc_1) (kx_cp5 hc_1) (fun _ _ => rfl) (Nat.le_of_ble_eq_true rfl) (by decide +kernel) dX0_write_51 (fun H locs hP hD hS => ?_)
  have hP : va_P (dC, dI) vwCl (w_D cI cZ cS aD aDw pw wl wn (va_cpy dk dk (x3 * 16).toNatClampNeg (x1 * 16).toNatClampNeg (16 : Int32).toNatClampNeg)) H := hP
  have hD : va_D A (w_D cI cZ cS aD aDw pw wl wn (va_cpy dk dk (x3 * 16).toNatClampNeg (x1 * 16).toNatClampNeg (16 : Int32).toNatClampNeg)) := hD
  refine lv_aload_n hx hb dX0_write_54 rfl (lv_at hl 0 rfl) ?_
  refine lv_dup hx hb dX0_write_55 rfl ?_
  refine va_get (D := (dC, dI)) (ci := 0) (v := .int wn) (C := RX0) (T := TX0) (N := 4) hx hb hts iw_D_writeE_Disk hown hK hP 0 rfl rfl 3 (by decide) (hts _ mm_D_writeE_6) (fun _ h9 => h9) rfl dX0_write_56 ?_
  refine lv_iconst (v := 1) hx hb dX0_write_59 (by decide) ?_
  refine lv_iadd hx hb dX0_write_60 ?_
  refine va_put (D := (dC, dI)) (ci := 0) (v := .int (wn + 1)) (ty := .int) (C := RX0) (T := TX0) (N := 4) hx hb hts iw_D_writeE_Disk tyX0 tyX0_ok nmX0 hown hK hP hD hS 0 rfl rfl 3 (by decide) (hts _ mm_D_writeE_6) (fun _ h9 => h9) rfl (by decide +kernel) rfl rfl (Nat.le_of_ble_eq_true rfl) dX0_write_61 (fun H locs hP hD hS => ?_)
  have hP : va_P (dC, dI) vwCl (w_D cI cZ cS aD aDw pw wl (wn + 1) (va_cpy dk dk (x3 * 16).toNatClampNeg (x1 * 16).toNatClampNeg (16 : Int32).toNatClampNeg)) H := hP
  have hD : va_D A (w_D cI cZ cS aD aDw pw wl (wn + 1) (va_cpy dk dk (x3 * 16).toNatClampNeg (x1 * 16).toNatClampNeg (16 : Int32).toNatClampNeg)) := hD
  refine lv_iconst (v := 1) hx hb dX0_write_64 (by decide) ?_
  cases h
  exact mk_zret E (by decide) hK hP hD hS dX0_write_65
set_option maxHeartbeats 4000000 in
set_option maxRecDepth 100000 in
theorem c_D_writeD (l : Launch) (dC : Nat → ClassId) (dI : Nat → Nat → Nat) (cI cZ cS : ClassId) (aD aDw : Nat) (pw : Int32) (wl : Int32) (wn : Int32) (dk : Nat → Int32) (a1 : Int32) (a3 : Int32) : CtI l yX0_write wsX0_write ({ frames := 1, cells := 0, slots := 0, locals := 18 }) (dC, dI) vwCl (tyz cI cZ cS) [.ref aD, .int a1, .ref aDw, .int a3] (w_D cI cZ cS aD aDw pw wl wn dk) (fun u : Int32 × Int32 × Int32 × (Nat → Int32) => w_D cI cZ cS aD aDw u.1 u.2.1 u.2.2.1 u.2.2.2) (p_D_writeD pw wl wn dk a1 a3) := by
  intro R h
  refine mk_enter (Qc := (fun A => mk_QI (dC, dI) vwCl (tyz cI cZ cS) A (fun u : Int32 × Int32 × Int32 × (Nat → Int32) => w_D cI cZ cS aD aDw u.1 u.2.1 u.2.2.1 u.2.2.2) R)) (by decide) rfl (Nat.le_of_ble_eq_true rfl) ?_
  intro p e s m below meth c A E hA hK H locs ls hP hD hS hl
  obtain ⟨⟨hx, hb, hml, hown, hts⟩, hrt, hlk, hN⟩ := id E
  have hown : s.vm.findClass RX0 = some m.cls := hown
  have hl : lv_has ls 4 [(0, .ref aD), (1, .int a1), (2, .ref aDw), (3, .int a3)] := hl
  unfold p_D_writeD at h
  refine lv_aload_n hx hb dX0_write_0 rfl (lv_at hl 0 rfl) ?_
  refine va_get (D := (dC, dI)) (ci := 0) (v := .int wl) (C := RX0) (T := TX0) (N := 4) hx hb hts iw_D_writeE_Disk hown hK hP 0 rfl rfl 2 (by decide) (hts _ mm_D_writeE_7) (fun _ h9 => h9) rfl dX0_write_1 ?_
  refine lv_if_ne (tgt := 19) hx hb dX0_write_4 (by decide) (fun c_2 => ?_) (fun c_2 => ?_)
  · replace h := (kp_if h).2 c_2
    refine lv_aload_n hx hb dX0_write_19 rfl (lv_at hl 0 rfl) ?_
    refine va_get (D := (dC, dI)) (ci := 0) (v := .int wl) (C := RX0) (T := TX0) (N := 4) hx hb hts iw_D_writeE_Disk hown hK hP 0 rfl rfl 2 (by decide) (hts _ mm_D_writeE_7) (fun _ h9 => h9) rfl dX0_write_20 ?_
    refine lv_if_le (tgt := 36) hx hb dX0_write_23 (by decide) (fun c_3 => ?_) (fun c_3 => ?_)
    · replace h := (kp_if h).1 c_3
      exact b_D_writeD_36 E hA hK R a1 a3 pw wl wn dk h H locs ls hP hD hS (lv_sub hl [0, 1, 2, 3] rfl)
    · replace h := (kp_if h).2 c_3
      refine lv_aload_n hx hb dX0_write_26 rfl (lv_at hl 0 rfl) ?_
      refine lv_dup hx hb dX0_write_27 rfl ?_
      refine va_get (D := (dC, dI)) (ci := 0) (v := .int wl) (C := RX0) (T := TX0) (N := 4) hx hb hts iw_D_writeE_Disk hown hK hP 0 rfl rfl 2 (by decide) (hts _ mm_D_writeE_7) (fun _ h9 => h9) rfl dX0_write_28 ?_
      refine lv_iconst (v := 1) hx hb dX0_write_31 (by decide) ?_
      refine lv_isub hx hb dX0_write_32 ?_
      refine va_put (D := (dC, dI)) (ci := 0) (v := .int (wl - 1)) (ty := .int) (C := RX0) (T := TX0) (N := 4) hx hb hts iw_D_writeE_Disk tyX0 tyX0_ok nmX0 hown hK hP hD hS 0 rfl rfl 2 (by decide) (hts _ mm_D_writeE_7) (fun _ h9 => h9) rfl (by decide +kernel) rfl rfl (Nat.le_of_ble_eq_true rfl) dX0_write_33 (fun H locs hP hD hS => ?_)
      have hP : va_P (dC, dI) vwCl (w_D cI cZ cS aD aDw pw (wl - 1) wn dk) H := hP
      have hD : va_D A (w_D cI cZ cS aD aDw pw (wl - 1) wn dk) := hD
      exact b_D_writeD_36 E hA hK R a1 a3 pw (wl - 1) wn dk h H locs ls hP hD hS (lv_sub hl [0, 1, 2, 3] rfl)
  · replace h := (kp_if h).1 c_2
    refine lv_aload_n hx hb dX0_write_7 rfl (lv_at hl 0 rfl) ?_
    refine lv_iconst (v := 0) hx hb dX0_write_8 (by decide) ?_
    refine va_put (D := (dC, dI)) (ci := 0) (v := .int 0) (ty := .boolean) (C := RX0) (T := TX0) (N := 4) hx hb hts iw_D_writeE_Disk tyX0 tyX0_ok nmX0 hown hK hP hD hS 0 rfl rfl 1 (by decide) (hts _ mm_D_writeE_8) (fun _ h9 => h9) rfl (by decide +kernel) rfl rfl (Nat.le_of_ble_eq_true rfl) dX0_write_9 (fun H locs hP hD hS => ?_)
    have hP : va_P (dC, dI) vwCl (w_D cI cZ cS aD aDw 0 wl wn dk) H := hP
    have hD : va_D A (w_D cI cZ cS aD aDw 0 wl wn dk) := hD
    refine lv_aload_n hx hb dX0_write_12 rfl (lv_at hl 0 rfl) ?_
    refine lv_iconst (v := (-1)) hx hb dX0_write_13 (by decide) ?_
    refine va_put (D := (dC, dI)) (ci := 0) (v := .int (-1)) (ty := .int) (C := RX0) (T := TX0) (N := 4) hx hb hts iw_D_writeE_Disk tyX0 tyX0_ok nmX0 hown hK hP hD hS 0 rfl rfl 2 (by decide) (hts _ mm_D_writeE_7) (fun _ h9 => h9) rfl (by decide +kernel) rfl rfl (Nat.le_of_ble_eq_true rfl) dX0_write_14 (fun H locs hP hD hS => ?_)
    have hP : va_P (dC, dI) vwCl (w_D cI cZ cS aD aDw 0 (-1) wn dk) H := hP
    have hD : va_D A (w_D cI cZ cS aD aDw 0 (-1) wn dk) := hD
    refine lv_iconst (v := 0) hx hb dX0_write_17 (by decide) ?_
    cases h
    exact mk_zret E (by decide) hK hP hD hS dX0_write_18

/- Disk.copyBlock(II)Z -/
set_option maxRecDepth 20000 in
theorem mm_D_copyBlock_0 : Cond.fieldLink RX0 9 "JournaledTables$Disk" "words" "[I" ∈ wsX0_copyBlock := by decide +kernel
set_option maxRecDepth 20000 in
theorem iw_D_copyBlock_Disk : ∀ w ∈ u_ws RX0 TX0 4, w ∈ wsX0_copyBlock := by decide +kernel
set_option maxHeartbeats 4000000 in
set_option maxRecDepth 100000 in
theorem c_D_copyBlock (l : Launch) (dC : Nat → ClassId) (dI : Nat → Nat → Nat) (cI cZ cS : ClassId) (aD aDw : Nat) (pw : Int32) (wl : Int32) (wn : Int32) (dk : Nat → Int32) (a1 : Int32) (a2 : Int32) : CtI l yX0_copyBlock wsX0_copyBlock ({ frames := 2, cells := 0, slots := 0, locals := 41 }) (dC, dI) vwCl (tyz cI cZ cS) [.ref aD, .int a1, .int a2] (w_D cI cZ cS aD aDw pw wl wn dk) (fun u : Int32 × Int32 × Int32 × (Nat → Int32) => w_D cI cZ cS aD aDw u.1 u.2.1 u.2.2.1 u.2.2.2) (p_D_copyBlock pw wl wn dk a1 a2) := by
  intro R h
  refine mk_enter (Qc := (fun A => mk_QI (dC, dI) vwCl (tyz cI cZ cS) A (fun u : Int32 × Int32 × Int32 × (Nat → Int32) => w_D cI cZ cS aD aDw u.1 u.2.1 u.2.2.1 u.2.2.2) R)) (by decide) rfl (Nat.le_of_ble_eq_true rfl) ?_
  intro p e s m below meth c A E hA hK H locs ls hP hD hS hl
  obtain ⟨⟨hx, hb, hml, hown, hts⟩, hrt, hlk, hN⟩ := id E
  have hown : s.vm.findClass RX0 = some m.cls := hown
  have hl : lv_has ls 3 [(0, .ref aD), (1, .int a1), (2, .int a2)] := hl
  unfold p_D_copyBlock at h
  refine lv_aload_n hx hb dX0_copyBlock_0 rfl (lv_at hl 0 rfl) ?_
  refine lv_iload_n hx hb dX0_copyBlock_1 rfl (lv_at hl 1 rfl) ?_
  refine lv_aload_n hx hb dX0_copyBlock_2 rfl (lv_at hl 0 rfl) ?_
  refine va_get (D := (dC, dI)) (ci := 0) (v := .ref aDw) (C := RX0) (T := TX0) (N := 4) hx hb hts iw_D_copyBlock_Disk hown hK hP 0 rfl rfl 0 (by decide) (hts _ mm_D_copyBlock_0) (fun _ h9 => h9) rfl dX0_copyBlock_3 ?_
  refine lv_iload_n hx hb dX0_copyBlock_6 rfl (lv_at hl 2 rfl) ?_
  obtain ⟨r_1, hr_1, h⟩ := kp_bind h
  refine mk_contI (w := w_D cI cZ cS aD aDw pw wl wn dk) (w0 := w_D cI cZ cS aD aDw pw wl wn dk) (wr := []) (w2 := w_D cI cZ cS aD aDw r_1.2.1 r_1.2.2.1 r_1.2.2.2.1 r_1.2.2.2.2) hP hD hS hA [0, 1] [] rfl rfl (by decide) (by decide) [0, 1] rfl (by decide) (va_runV (As := [.int a1, .ref aDw, .int a2]) (rest := []) ⟨hx, hb, hml, hown, hts⟩ (c_D_writeD l dC dI cI cZ cS aD aDw pw wl wn dk a1 a2 r_1 hr_1 H.size) (cwV 3 hts gX0_copyBlock_X0_write rfl rfl rfl (by decide +kernel) ⟨Nat.le_of_ble_eq_true rfl, Nat.le_of_ble_eq_true rfl⟩) (mk_preV (w0 := w_D cI cZ cS aD aDw pw wl wn dk) (ci := 0) (q0 := 0) hN hK (mk_pick hP [0, 1] rfl) (hD.sub [0, 1] (by decide) rfl) rfl rfl rfl) rfl rfl hl.1 rfl (lv_room (Nat.le_of_ble_eq_true rfl)) dX0_copyBlock_7 ⟨Nat.zero_le _, Nat.zero_le _⟩) (fun H locs hP hD hS => ?_)
  obtain ⟨hc_2, h⟩ := kp_in h
  cases h
  exact mk_zret E hc_2 hK hP hD hS dX0_copyBlock_10

