set_option maxRecDepth 20000 in
theorem lm_0 : Cond.methodLinkNest RX4 9 yX0_init "JournaledTables" ∈ lw_tbl := List.mem_of_getElem? (i := 63) (by decide +kernel)
set_option maxRecDepth 20000 in
theorem lm_1 : Cond.methodLinkNest RX4 18 yX2_init "JournaledTables" ∈ lw_tbl := List.mem_of_getElem? (i := 84) (by decide +kernel)
set_option maxRecDepth 20000 in
theorem lm_2 : Cond.methodLinkNest RX4 38 yX3_init "JournaledTables" ∈ lw_tbl := List.mem_of_getElem? (i := 111) (by decide +kernel)
set_option maxRecDepth 20000 in
theorem lm_3 : Cond.fieldLinkNest RX2 15 "JournaledTables$Disk" "words" "[I" "JournaledTables" ∈ lw_tbl := List.mem_of_getElem? (i := 68) (by decide +kernel)
set_option maxRecDepth 20000 in
theorem lm_4 : Cond.arrayOver (.object "JournaledTables$Scan") ∈ lw_tbl := List.mem_of_getElem? (i := 109) (by decide +kernel)
set_option maxRecDepth 20000 in
theorem lm_5 : Cond.arrayClass .int ∈ lw_tbl := List.mem_of_getElem? (i := 81) (by decide +kernel)
set_option maxRecDepth 20000 in
theorem lm_6 : Cond.arrayClass .boolean ∈ lw_tbl := List.mem_of_getElem? (i := 558) (by decide +kernel)
set_option maxRecDepth 20000 in
theorem lm_i0 : Cond.instantiable RX0 4 ∈ lw_tbl := List.mem_of_getElem? (i := 62) (by decide +kernel)
set_option maxRecDepth 20000 in
theorem lm_t0 : Cond.initialized RX0 ∈ lw_tbl := List.mem_of_getElem? (i := 46) (by decide +kernel)
set_option maxRecDepth 20000 in
theorem lm_i1 : Cond.instantiable RX1 3 ∈ lw_tbl := List.mem_of_getElem? (i := 93) (by decide +kernel)
set_option maxRecDepth 20000 in
theorem lm_t1 : Cond.initialized RX1 ∈ lw_tbl := List.mem_of_getElem? (i := 48) (by decide +kernel)
set_option maxRecDepth 20000 in
theorem lm_i2 : Cond.instantiable RX2 1 ∈ lw_tbl := List.mem_of_getElem? (i := 83) (by decide +kernel)
set_option maxRecDepth 20000 in
theorem lm_t2 : Cond.initialized RX2 ∈ lw_tbl := List.mem_of_getElem? (i := 47) (by decide +kernel)
set_option maxRecDepth 20000 in
theorem lm_i3 : Cond.instantiable RX3 8 ∈ lw_tbl := List.mem_of_getElem? (i := 110) (by decide +kernel)
set_option maxRecDepth 20000 in
theorem lm_t3 : Cond.initialized RX3 ∈ lw_tbl := List.mem_of_getElem? (i := 49) (by decide +kernel)
set_option maxRecDepth 20000 in
theorem lm_i4 : Cond.instantiable RX4 6 ∈ lw_tbl := List.mem_of_getElem? (i := 54) (by decide +kernel)
set_option maxRecDepth 20000 in
theorem lm_t4 : Cond.initialized RX4 ∈ lw_tbl := List.mem_of_getElem? (i := 45) (by decide +kernel)
set_option maxRecDepth 20000 in
theorem lm_i5 : Cond.instantiable RX5 18 ∈ lw_tbl := List.mem_of_getElem? (i := 498) (by decide +kernel)
set_option maxRecDepth 20000 in
theorem lm_t5 : Cond.initialized RX5 ∈ lw_tbl := List.mem_of_getElem? (i := 50) (by decide +kernel)
set_option maxRecDepth 20000 in
theorem lm_c4 : Cond.classLink RL 7 RX4 ∈ lw_tbl := List.mem_of_getElem? (i := 53) (by decide +kernel)
set_option maxRecDepth 20000 in
theorem lm_c5 : Cond.classLink RL 10 RX5 ∈ lw_tbl := List.mem_of_getElem? (i := 497) (by decide +kernel)
set_option maxRecDepth 20000 in
theorem lm_m4 : Cond.methodLink RL 9 yX4_init ∈ lw_tbl := List.mem_of_getElem? (i := 55) (by decide +kernel)
set_option maxRecDepth 20000 in
theorem lm_m5 : Cond.methodLink RL 12 yX5_init ∈ lw_tbl := List.mem_of_getElem? (i := 499) (by decide +kernel)
set_option maxRecDepth 20000 in
theorem lm_n4 : Cond.instanceMethod yX4_init ∈ lw_tbl := List.mem_of_getElem? (i := 56) (by decide +kernel)
set_option maxRecDepth 20000 in
theorem lm_n5 : Cond.instanceMethod yX5_init ∈ lw_tbl := List.mem_of_getElem? (i := 500) (by decide +kernel)
/-- the array classes, as the tables have them -/
theorem lw_ca {U : State} {A : Array Value} (h : (Cond.arrayClass .int).before A U = true) : ∃ cI, ArrOfT U cI .int ∧ va_RA U cI .int := by
  obtain ⟨cA, kA, comp, h1, h2, h3⟩ := Cond.arrayClass_spec h
  exact ⟨cA, fun n z => ⟨fun k h => (by cases h), kA, h2, comp, h3⟩, h1⟩
theorem lw_cz {U : State} {A : Array Value} (h : (Cond.arrayClass .boolean).before A U = true) : ∃ cI, ArrOfT U cI .boolean ∧ va_RA U cI .boolean := by
  obtain ⟨cA, kA, comp, h1, h2, h3⟩ := Cond.arrayClass_spec h
  exact ⟨cA, fun n z => ⟨fun k h => (by cases h), kA, h2, comp, h3⟩, h1⟩
theorem lw_cs {U : State} {A : Array Value} {C : String} (h : (Cond.arrayOver (.object C)).before A U = true) : ∃ cI, ArrOfT U cI (.object C) ∧ va_RA U cI (.object C) := by
  obtain ⟨comp, cA, kA, h1, h2, h3, h4, h5⟩ := Cond.arrayOver_spec h
  exact ⟨cA, fun n z => ⟨fun k h => (by cases h), kA, h3, comp, h4⟩, kA, comp, h3, h4, h1, h5⟩
/-- class and reference as they are made -/
theorem rel_new : Rel 0 1 (-1) (fun _ => 0) (fun _ => 0) (fun _ => 0) (fun _ => sct0) 0 0 (-1) (fun _ => 0) (fun _ => 0) (fun _ => 0) (fun _ => 0) (fun _ => 0) (fun _ => 0) (fun _ => 0) (fun _ => 0) :=
  ⟨Or.inl ⟨rfl, rfl, fun _ _ => rfl, WF_zero (fun _ _ => rfl)⟩, Or.inl rfl, rfl, rfl, fun _ _ _ => rfl, WF_zero (fun _ _ => rfl), fun _ _ => ⟨rfl, rfl, rfl, rfl, rfl, rfl, Or.inl rfl, Or.inl rfl, ⟨0, by omega, nI_0.symm⟩, fun z => absurd z (show ¬ (0 : Int32) = 1 by decide)⟩⟩
set_option maxHeartbeats 4000000 in
set_option maxRecDepth 100000 in
/-- THE LAW, from its entry -/
theorem whole_start {p : Program} {e : Env} {s : State} {m : MethodId} {below : List Frame} {meth : Method} {c : Code} (l : Launch) {b L : Nat} {xs : Nat → Int32} (hL : L ≤ 2560) (C0 : lw_At p s m meth c b L xs) : W p l e room_1 s m #[Value.ref b] below meth c s.heap [] 0 0 (lw_Z below #[Value.ref b] s) (entryFrame m ([Value.ref b] : List Value).toArray 4) := by
  obtain ⟨hx, hb, hr, hml, hown, hts, hX, hbl, hlocks, hgv⟩ := id C0
  have hown : s.vm.findClass RL = some m.cls := hown
  have hwl : ∀ w ∈ wsL_law, w.before #[Value.ref b] s = true := fun w h => hts w (wsL_law_in w h)
  have hA : ∀ q : Nat, s.heap.size ≤ q → lw_N s q := fun _ h => h
  have hbA : ¬ lw_N s b := Nat.not_le.mpr hbl
  have hN : nx_ok s := va_Nw.of rfl (hts _ lm_3)
  have hI : ni_ok s := ⟨va_AO.of (hts _ lm_4), va_Nw.of rfl (hts _ lm_0), va_Nw.of rfl (hts _ lm_1), va_Nw.of rfl (hts _ lm_2)⟩
  obtain ⟨c0, iS0, hKn0⟩ := u_known (C := RX0) (T := TX0) (N := 4) (n := 4) hts (fun w h => wsL_law_in w (inlX0 w h)) (hts _ lm_i0)
  obtain ⟨c1, iS1, hKn1⟩ := u_known (C := RX1) (T := TX1) (N := 3) (n := 3) hts (fun w h => wsL_law_in w (inlX1 w h)) (hts _ lm_i1)
  obtain ⟨c2, iS2, hKn2⟩ := u_known (C := RX2) (T := TX2) (N := 1) (n := 1) hts (fun w h => wsL_law_in w (inlX2 w h)) (hts _ lm_i2)
  obtain ⟨c3, iS3, hKn3⟩ := u_known (C := RX3) (T := TX3) (N := 8) (n := 8) hts (fun w h => wsL_law_in w (inlX3 w h)) (hts _ lm_i3)
  obtain ⟨c4, iS4, hKn4⟩ := u_known (C := RX4) (T := TX4) (N := 6) (n := 6) hts (fun w h => wsL_law_in w (inlX4 w h)) (hts _ lm_i4)
  obtain ⟨c5, iS5, hKn5⟩ := u_known (C := RX5) (T := TX5) (N := 18) (n := 18) hts (fun w h => wsL_law_in w (inlX5 w h)) (hts _ lm_i5)
  obtain ⟨dC, dI, hKc⟩ : ∃ (dC : Nat → ClassId) (dI : Nat → Nat → Nat), ∀ (k : Nat) (q : vw_C), vwCl[k]? = some q → u_Kn s q.1 q.2.1 q.2.2 (dC k) (dI k) := by
    refine ⟨fun k => if k = 0 then c0 else if k = 1 then c1 else if k = 2 then c2 else if k = 3 then c3 else if k = 4 then c4 else c5, fun k => if k = 0 then iS0 else if k = 1 then iS1 else if k = 2 then iS2 else if k = 3 then iS3 else if k = 4 then iS4 else iS5, ?_⟩
    intro k q hq
    match k, hq with
    | 0, hq => cases hq; exact hKn0
    | 1, hq => cases hq; exact hKn1
    | 2, hq => cases hq; exact hKn2
    | 3, hq => cases hq; exact hKn3
    | 4, hq => cases hq; exact hKn4
    | 5, hq => cases hq; exact hKn5
    | k + 6, hq => simp [vwCl] at hq
  obtain ⟨cI, hcI⟩ := lw_ca (hts _ lm_5)
  obtain ⟨cZ, hcZ⟩ := lw_cz (hts _ lm_6)
  obtain ⟨cS, hcS⟩ := lw_cs (hts _ lm_4)
  have hK : va_K (dC, dI) vwCl (tyz cI cZ cS) s := ⟨hKc, fun k q h => by
    match k, h with
    | 0, h => cases h; exact hcI
    | 1, h => cases h; exact hcZ
    | 2, h => cases h; exact hcS
    | k + 3, h => simp [tyz] at h⟩
  have hS : va_S (lw_N s) s.heap s.heap [] := va_S.rf
  have hP : va_P (dC, dI) vwCl [] s.heap := fun k q h => by simp at h
  have hD : va_D (lw_N s) [] := ⟨fun i j p q h => by simp at h, fun k q h => by simp at h⟩
  have hl := lv_entry ([.ref b]) (n := 4) (Nat.le_of_ble_eq_true rfl)
  rw [lg_entry_eq]
  generalize (lg_sl ([.ref b]) ++ List.replicate (4 - (lg_sl ([.ref b])).length) Slot.unset).toArray = ls at hl ⊢
  have hl : lv_has ls 4 [(0, .ref b)] := hl
  refine va_new (ci := 4) (fs := [.null, .null, .null, .null, .null, .int 0]) (C := RX4) (T := TX4) (N := 6) hx hb hwl inlX4 tyX4 tyX4_ok hown (hts _ lm_c4) (hts _ lm_i4) (hts _ lm_t4) hK hP hD hS hA rfl (fun j hj => by rcases (show j = 0 ∨ j = 1 ∨ j = 2 ∨ j = 3 ∨ j = 4 ∨ j = 5 by omega) with rfl | rfl | rfl | rfl | rfl | rfl <;> rfl) (Nat.le_of_ble_eq_true rfl) (Nat.le_of_ble_eq_true rfl) dL_law_0 (fun aX H hP hD hS => ?_)
  have hP : va_P (dC, dI) vwCl [(aX, .inr (4, [.null, .null, .null, .null, .null, .int 0]))] H := hP
  have hD : va_D (lw_N s) [(aX, .inr (4, [.null, .null, .null, .null, .null, .int 0]))] := hD
  refine W.widen (k := 1) (n := 6) (by omega) (by omega) ?_
  refine lv_dup hx hb dL_law_3 rfl ?_
  refine mk_contN (w0 := [(aX, .inr (4, [.null, .null, .null, .null, .null, .int 0]))]) (wr := []) hP hD hS hA [0] [] rfl rfl (by decide) (by decide) (va_runI (As := []) (rest := [.ref aX]) ⟨hx, hb, hml, hown, hwl⟩ (i_X l dC dI cI cZ cS aX H.size) (cwI 0 hwl gL_law_X4_init rfl rfl rfl (hts _ lm_t4) (hts _ lm_m4) (hts _ lm_n4) rfl (by decide +kernel) ⟨Nat.le_of_ble_eq_true rfl, Nat.le_of_ble_eq_true rfl⟩) (mk_preI hN hI hK hP hD) rfl rfl hl.1 rfl (lv_room (Nat.le_of_ble_eq_true rfl)) dL_law_4 ⟨Nat.le_of_ble_eq_true rfl, Nat.le_of_ble_eq_true rfl⟩) (fun u H locs hP hD hS => ?_)
  obtain ⟨aD, aDw, aM, aMw, aJ, aJh, aSa, aSt, sA⟩ := u
  have hP : va_P (dC, dI) vwCl (w_X cI cZ cS aX aD aDw aM aMw aJ aJh aSa aSt sA 0 1 (-1) 0 (fun _ => 0) (fun _ => 0) (fun _ => 0) (fun _ => 0) (fun _ => sct0)) H := hP
  have hD : va_D (lw_N s) (w_X cI cZ cS aX aD aDw aM aMw aJ aJh aSa aSt sA 0 1 (-1) 0 (fun _ => 0) (fun _ => 0) (fun _ => 0) (fun _ => 0) (fun _ => sct0)) := hD
  refine W.widen (k := 13) (n := 856) (by omega) (by omega) ?_
  refine lv_astore_n (lv' := [(1, .ref aX), (0, .ref b)]) hx hb dL_law_7 rfl hl (by decide) rfl (fun ls hl => ?_)
  refine va_new (ci := 5) (fs := [.null, .null, .null, .null, .int 0, .int 0, .int 0, .int 0, .null, .null, .null, .null, .null, .null, .null, .null, .int 0, .int 0]) (C := RX5) (T := TX5) (N := 18) hx hb hwl inlX5 tyX5 tyX5_ok hown (hts _ lm_c5) (hts _ lm_i5) (hts _ lm_t5) hK hP hD hS hA rfl (fun j hj => by rcases (show j = 0 ∨ j = 1 ∨ j = 2 ∨ j = 3 ∨ j = 4 ∨ j = 5 ∨ j = 6 ∨ j = 7 ∨ j = 8 ∨ j = 9 ∨ j = 10 ∨ j = 11 ∨ j = 12 ∨ j = 13 ∨ j = 14 ∨ j = 15 ∨ j = 16 ∨ j = 17 by omega) with rfl | rfl | rfl | rfl | rfl | rfl | rfl | rfl | rfl | rfl | rfl | rfl | rfl | rfl | rfl | rfl | rfl | rfl <;> rfl) (Nat.le_of_ble_eq_true rfl) (Nat.le_of_ble_eq_true rfl) dL_law_8 (fun aR H hP hD hS => ?_)
  refine W.widen (k := 14) (n := 874) (by omega) (by omega) ?_
  refine lv_dup hx hb dL_law_11 rfl ?_
  refine mk_contN (w0 := [(aR, .inr (5, [.null, .null, .null, .null, .int 0, .int 0, .int 0, .int 0, .null, .null, .null, .null, .null, .null, .null, .null, .int 0, .int 0]))]) (wr := w_X cI cZ cS aX aD aDw aM aMw aJ aJh aSa aSt sA 0 1 (-1) 0 (fun _ => 0) (fun _ => 0) (fun _ => 0) (fun _ => 0) (fun _ => sct0)) hP hD hS hA [13] [0, 1, 2, 3, 4, 5, 6, 7, 8, 9, 10, 11, 12] rfl rfl (by decide) (by decide) (va_runI (As := []) (rest := [.ref aR]) ⟨hx, hb, hml, hown, hwl⟩ (i_R l dC dI cI cZ cS aR H.size) (cwI 0 hwl gL_law_X5_init rfl rfl rfl (hts _ lm_t5) (hts _ lm_m5) (hts _ lm_n5) rfl (by decide +kernel) ⟨Nat.le_of_ble_eq_true rfl, Nat.le_of_ble_eq_true rfl⟩) (mk_preI hN hI hK (hP.sub (ws' := [(aR, .inr (5, [.null, .null, .null, .null, .int 0, .int 0, .int 0, .int 0, .null, .null, .null, .null, .null, .null, .null, .null, .int 0, .int 0]))]) [13] rfl) (hD.sub (ws' := [(aR, .inr (5, [.null, .null, .null, .null, .int 0, .int 0, .int 0, .int 0, .null, .null, .null, .null, .null, .null, .null, .null, .int 0, .int 0]))]) [13] (by decide) rfl)) rfl rfl hl.1 rfl (lv_room (Nat.le_of_ble_eq_true rfl)) dL_law_12 ⟨Nat.le_of_ble_eq_true rfl, Nat.le_of_ble_eq_true rfl⟩) (fun u H locs hP hD hS => ?_)
  obtain ⟨aRd, aRm, aRw, aRs, aRt, aRc, aRl, aRh, aRu, aRx, aRy, aRk⟩ := u
  refine W.widen (k := 26) (n := 1712) (by omega) (by omega) ?_
  refine lv_astore_n (lv' := [(2, .ref aR), (1, .ref aX), (0, .ref b)]) hx hb dL_law_15 rfl hl (by decide) rfl (fun ls hl => ?_)
  refine lv_iconst (v := 0) hx hb dL_law_16 (by decide) ?_
  refine lv_istore_n (lv' := [(3, .int 0), (2, .ref aR), (1, .ref aX), (0, .ref b)]) hx hb dL_law_17 rfl hl (by decide) rfl (fun ls hl => ?_)
  rw [show (0 : Int32) = nI 0 from nI_0.symm] at hl
  exact law_loop hL C0 hK hN 512 0 (by omega) (by omega) 0 1 (-1) 0 (fun _ => 0) (fun _ => 0) (fun _ => 0) (fun _ => 0) (fun _ => sct0) 0 0 (-1) 0 0 (fun _ => 0) (fun _ => 0) (fun _ => 0) (fun _ => 0) (fun _ => 0) (fun _ => 0) (fun _ => 0) (fun _ => 0) (fun _ => 0) rel_new H locs ls hP hD hS hl
