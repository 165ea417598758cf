set_option maxHeartbeats 4000000 in
set_option maxRecDepth 100000 in
/-- has -/
theorem law_11 {p : Program} {l : Launch} {e : Env} {s : State} {m : MethodId} {below : List Frame} {meth : Method} {c : Code} {b L : Nat} {xs : Nat → Int32} {dC : Nat → ClassId} {dI : Nat → Nat → Nat} {cI cZ cS : ClassId} {aX aD aDw aM aMw aJ aJh aSa aSt : Nat} {sA : Nat → Nat} {aR aRd aRm aRw aRs aRt aRc aRl aRh aRu aRx aRy aRk : Nat} (C0 : lw_At p s m meth c b L xs) (hK : va_K (dC, dI) vwCl (tyz cI cZ cS) s) (hN : nx_ok s) {x3 : Int32} (j1 : vp_in (x3 + 1) L) (j2 : vp_in (x3 + 2) L) (j3 : vp_in (x3 + 3) L) (j4 : vp_in (x3 + 4) L) (hk : lw_K p l e s m below meth c b dC dI cI cZ cS aX aD aDw aM aMw aJ aJh aSa aSt sA aR aRd aRm aRw aRs aRt aRc aRl aRh aRu aRx aRy aRk 685 x3) : lw_K p l e s m below meth c b dC dI cI cZ cS aX aD aDw aM aMw aJ aJh aSa aSt sA aR aRd aRm aRw aRs aRt aRc aRl aRh aRu aRx aRy aRk 415 x3 := by
  intro tx pw wl wn dk mm hd sg sc4 of op cr fp fs wk tb cs lw hg us de sa ky hR H locs ls hP hD hS hl
  obtain ⟨hx, hb, hr, hml, hown, hts, hX, hbl, hlocks, hgv⟩ := id C0
  have hts : ∀ w ∈ wsL_law, w.before #[Value.ref b] s = true := fun w h => hts w (wsL_law_in w h)
  have hown : s.vm.findClass RL = some m.cls := hown
  have hA : ∀ q : Nat, s.heap.size ≤ q → lw_N s q := fun _ h => h
  have hbA : ¬ lw_N s b := Nat.not_le.mpr hbl
  obtain ⟨r, fp', fs', e1, e2⟩ := sim_has fp fs (xs (x3 + 1).toNatClampNeg) (xs (x3 + 2).toNatClampNeg) hR
  refine lv_aload_n hx hb dL_law_415 rfl (lv_at hl 2 rfl) ?_
  refine lv_aload_n hx hb dL_law_416 rfl (lv_at hl 3 rfl) ?_
  refine lv_iload_n hx hb dL_law_417 rfl (lv_at hl 0 rfl) ?_
  refine lv_iconst (v := 1) hx hb dL_law_418 (by decide) ?_
  refine lv_iadd hx hb dL_law_419 ?_
  refine va_sld hx hb hX hbl hbA hS j1 dL_law_420 ?_
  refine lv_aload_n hx hb dL_law_421 rfl (lv_at hl 3 rfl) ?_
  refine lv_iload_n hx hb dL_law_422 rfl (lv_at hl 0 rfl) ?_
  refine lv_iconst (v := 2) hx hb dL_law_423 (by decide) ?_
  refine lv_iadd hx hb dL_law_424 ?_
  refine va_sld hx hb hX hbl hbA hS j2 dL_law_425 ?_
  refine mk_contR (w := w_X cI cZ cS aX aD aDw aM aMw aJ aJh aSa aSt sA tx pw wl wn dk mm hd sg sc4 ++ w_R cI cZ cS aR aRd aRm aRw aRs aRt aRc aRl aRh aRu aRx aRy aRk of op cr wn fp fs dk mm wk sg tb cs lw hg us de sa ky) (w0 := w_X cI cZ cS aX aD aDw aM aMw aJ aJh aSa aSt sA tx pw wl wn dk mm hd sg sc4) (wr := w_R cI cZ cS aR aRd aRm aRw aRs aRt aRc aRl aRh aRu aRx aRy aRk of op cr wn fp fs dk mm wk sg tb cs lw hg us de sa ky) hP hD hS hA [0, 1, 2, 3, 4, 5, 6, 7, 8, 9, 10, 11, 12] [13, 14, 15, 16, 17, 18, 19, 20, 21, 22, 23, 24, 25] rfl rfl (by decide) (by decide) [13, 14, 15, 16, 17, 18, 19, 20, 21, 22, 23, 24, 25, 0, 1, 2, 3, 4, 5, 6, 7, 8, 9, 10, 11, 12] rfl (by decide) (va_runV (As := [.int (xs (x3 + 1).toNatClampNeg), .int (xs (x3 + 2).toNatClampNeg)]) (rest := []) ⟨hx, hb, hml, hown, hts⟩ (c_X_has l dC dI cI cZ cS aX aD aDw aM aMw aJ aJh aSa aSt sA tx pw wl wn dk mm hd sg sc4 (xs (x3 + 1).toNatClampNeg) (xs (x3 + 2).toNatClampNeg) _ e1 H.size) (cwV 2 hts gL_law_X4_has rfl rfl rfl (by decide +kernel) ⟨Nat.le_of_ble_eq_true rfl, Nat.le_of_ble_eq_true rfl⟩) (mk_preV (w0 := w_X cI cZ cS aX aD aDw aM aMw aJ aJh aSa aSt sA tx pw wl wn dk mm hd sg sc4) (ci := 4) (q0 := 0) hN hK (mk_pick hP [0, 1, 2, 3, 4, 5, 6, 7, 8, 9, 10, 11, 12] rfl) (hD.sub [0, 1, 2, 3, 4, 5, 6, 7, 8, 9, 10, 11, 12] (by decide) rfl) rfl rfl rfl) rfl rfl hl.1 rfl (lv_room (Nat.le_of_ble_eq_true rfl)) dL_law_426 ⟨Nat.le_of_ble_eq_true rfl, Nat.le_of_ble_eq_true rfl⟩) (fun H locs hP hD hS => ?_)
  refine lv_aload_n hx hb dL_law_429 rfl (lv_at hl 1 rfl) ?_
  refine lv_aload_n hx hb dL_law_430 rfl (lv_at hl 3 rfl) ?_
  refine lv_iload_n hx hb dL_law_431 rfl (lv_at hl 0 rfl) ?_
  refine lv_iconst (v := 1) hx hb dL_law_432 (by decide) ?_
  refine lv_iadd hx hb dL_law_433 ?_
  refine va_sld hx hb hX hbl hbA hS j1 dL_law_434 ?_
  refine lv_aload_n hx hb dL_law_435 rfl (lv_at hl 3 rfl) ?_
  refine lv_iload_n hx hb dL_law_436 rfl (lv_at hl 0 rfl) ?_
  refine lv_iconst (v := 2) hx hb dL_law_437 (by decide) ?_
  refine lv_iadd hx hb dL_law_438 ?_
  refine va_sld hx hb hX hbl hbA hS j2 dL_law_439 ?_
  refine mk_contI (w := w_X cI cZ cS aX aD aDw aM aMw aJ aJh aSa aSt sA tx pw wl wn dk mm hd sg sc4 ++ w_R cI cZ cS aR aRd aRm aRw aRs aRt aRc aRl aRh aRu aRx aRy aRk of op cr wn fp fs dk mm wk sg tb cs lw hg us de sa ky) (w0 := w_R cI cZ cS aR aRd aRm aRw aRs aRt aRc aRl aRh aRu aRx aRy aRk of op cr wn fp fs dk mm wk sg tb cs lw hg us de sa ky) (wr := w_X cI cZ cS aX aD aDw aM aMw aJ aJh aSa aSt sA tx pw wl wn dk mm hd sg sc4) (w2 := w_X cI cZ cS aX aD aDw aM aMw aJ aJh aSa aSt sA tx pw wl wn dk mm hd sg sc4 ++ w_R cI cZ cS aR aRd aRm aRw aRs aRt aRc aRl aRh aRu aRx aRy aRk of op cr wn fp' fs' dk mm wk sg tb cs lw hg us de sa ky) hP hD hS hA [13, 14, 15, 16, 17, 18, 19, 20, 21, 22, 23, 24, 25] [0, 1, 2, 3, 4, 5, 6, 7, 8, 9, 10, 11, 12] rfl rfl (by decide) (by decide) [0, 1, 2, 3, 4, 5, 6, 7, 8, 9, 10, 11, 12, 13, 14, 15, 16, 17, 18, 19, 20, 21, 22, 23, 24, 25] rfl (by decide) (va_runV (As := [.int (xs (x3 + 1).toNatClampNeg), .int (xs (x3 + 2).toNatClampNeg)]) (rest := [.int r]) ⟨hx, hb, hml, hown, hts⟩ (c_R_has l dC dI cI cZ cS aR aRd aRm aRw aRs aRt aRc aRl aRh aRu aRx aRy aRk of op cr wn fp fs dk mm wk sg tb cs lw hg us de sa ky (xs (x3 + 1).toNatClampNeg) (xs (x3 + 2).toNatClampNeg) _ e2 H.size) (cwV 2 hts gL_law_X5_has rfl rfl rfl (by decide +kernel) ⟨Nat.le_of_ble_eq_true rfl, Nat.le_of_ble_eq_true rfl⟩) (mk_preV (w0 := w_R cI cZ cS aR aRd aRm aRw aRs aRt aRc aRl aRh aRu aRx aRy aRk of op cr wn fp fs dk mm wk sg tb cs lw hg us de sa ky) (ci := 5) (q0 := 0) hN hK (mk_pick hP [13, 14, 15, 16, 17, 18, 19, 20, 21, 22, 23, 24, 25] rfl) (hD.sub [13, 14, 15, 16, 17, 18, 19, 20, 21, 22, 23, 24, 25] (by decide) rfl) rfl rfl rfl) rfl rfl hl.1 rfl (lv_room (Nat.le_of_ble_eq_true rfl)) dL_law_440 ⟨Nat.le_of_ble_eq_true rfl, Nat.le_of_ble_eq_true rfl⟩) (fun H locs hP hD hS => ?_)
  exact lv_icmp_eq (tgt := 685) hx hb dL_law_443 (by decide) (fun _ => hk _ _ _ _ _ _ _ _ _ _ _ _ _ _ _ _ _ _ _ _ _ _ _ hR H locs ls hP hD hS hl) (fun c9 => absurd rfl c9)
set_option maxHeartbeats 4000000 in
set_option maxRecDepth 100000 in
/-- count -/
theorem law_12 {p : Program} {l : Launch} {e : Env} {s : State} {m : MethodId} {below : List Frame} {meth : Method} {c : Code} {b L : Nat} {xs : Nat → Int32} {dC : Nat → ClassId} {dI : Nat → Nat → Nat} {cI cZ cS : ClassId} {aX aD aDw aM aMw aJ aJh aSa aSt : Nat} {sA : Nat → Nat} {aR aRd aRm aRw aRs aRt aRc aRl aRh aRu aRx aRy aRk : Nat} (C0 : lw_At p s m meth c b L xs) (hK : va_K (dC, dI) vwCl (tyz cI cZ cS) s) (hN : nx_ok s) {x3 : Int32} (j1 : vp_in (x3 + 1) L) (j2 : vp_in (x3 + 2) L) (j3 : vp_in (x3 + 3) L) (j4 : vp_in (x3 + 4) L) (hk : lw_K p l e s m below meth c b dC dI cI cZ cS aX aD aDw aM aMw aJ aJh aSa aSt sA aR aRd aRm aRw aRs aRt aRc aRl aRh aRu aRx aRy aRk 685 x3) : lw_K p l e s m below meth c b dC dI cI cZ cS aX aD aDw aM aMw aJ aJh aSa aSt sA aR aRd aRm aRw aRs aRt aRc aRl aRh aRu aRx aRy aRk 448 x3 := by
  intro tx pw wl wn dk mm hd sg sc4 of op cr fp fs wk tb cs lw hg us de sa ky hR H locs ls hP hD hS hl
  obtain ⟨hx, hb, hr, hml, hown, hts, hX, hbl, hlocks, hgv⟩ := id C0
  have hts : ∀ w ∈ wsL_law, w.before #[Value.ref b] s = true := fun w h => hts w (wsL_law_in w h)
  have hown : s.vm.findClass RL = some m.cls := hown
  have hA : ∀ q : Nat, s.heap.size ≤ q → lw_N s q := fun _ h => h
  have hbA : ¬ lw_N s b := Nat.not_le.mpr hbl
  obtain ⟨r, e1, e2⟩ := sim_count (xs (x3 + 1).toNatClampNeg) hR
  refine lv_aload_n hx hb dL_law_448 rfl (lv_at hl 2 rfl) ?_
  refine lv_aload_n hx hb dL_law_449 rfl (lv_at hl 3 rfl) ?_
  refine lv_iload_n hx hb dL_law_450 rfl (lv_at hl 0 rfl) ?_
  refine lv_iconst (v := 1) hx hb dL_law_451 (by decide) ?_
  refine lv_iadd hx hb dL_law_452 ?_
  refine va_sld hx hb hX hbl hbA hS j1 dL_law_453 ?_
  refine mk_contR (w := w_X cI cZ cS aX aD aDw aM aMw aJ aJh aSa aSt sA tx pw wl wn dk mm hd sg sc4 ++ w_R cI cZ cS aR aRd aRm aRw aRs aRt aRc aRl aRh aRu aRx aRy aRk of op cr wn fp fs dk mm wk sg tb cs lw hg us de sa ky) (w0 := w_X cI cZ cS aX aD aDw aM aMw aJ aJh aSa aSt sA tx pw wl wn dk mm hd sg sc4) (wr := w_R cI cZ cS aR aRd aRm aRw aRs aRt aRc aRl aRh aRu aRx aRy aRk of op cr wn fp fs dk mm wk sg tb cs lw hg us de sa ky) hP hD hS hA [0, 1, 2, 3, 4, 5, 6, 7, 8, 9, 10, 11, 12] [13, 14, 15, 16, 17, 18, 19, 20, 21, 22, 23, 24, 25] rfl rfl (by decide) (by decide) [13, 14, 15, 16, 17, 18, 19, 20, 21, 22, 23, 24, 25, 0, 1, 2, 3, 4, 5, 6, 7, 8, 9, 10, 11, 12] rfl (by decide) (va_runV (As := [.int (xs (x3 + 1).toNatClampNeg)]) (rest := []) ⟨hx, hb, hml, hown, hts⟩ (c_X_count l dC dI cI cZ cS aX aD aDw aM aMw aJ aJh aSa aSt sA tx pw wl wn dk mm hd sg sc4 (xs (x3 + 1).toNatClampNeg) _ e1 H.size) (cwV 1 hts gL_law_X4_count rfl rfl rfl (by decide +kernel) ⟨Nat.le_of_ble_eq_true rfl, Nat.le_of_ble_eq_true rfl⟩) (mk_preV (w0 := w_X cI cZ cS aX aD aDw aM aMw aJ aJh aSa aSt sA tx pw wl wn dk mm hd sg sc4) (ci := 4) (q0 := 0) hN hK (mk_pick hP [0, 1, 2, 3, 4, 5, 6, 7, 8, 9, 10, 11, 12] rfl) (hD.sub [0, 1, 2, 3, 4, 5, 6, 7, 8, 9, 10, 11, 12] (by decide) rfl) rfl rfl rfl) rfl rfl hl.1 rfl (lv_room (Nat.le_of_ble_eq_true rfl)) dL_law_454 ⟨Nat.le_of_ble_eq_true rfl, Nat.le_of_ble_eq_true rfl⟩) (fun H locs hP hD hS => ?_)
  refine lv_aload_n hx hb dL_law_457 rfl (lv_at hl 1 rfl) ?_
  refine lv_aload_n hx hb dL_law_458 rfl (lv_at hl 3 rfl) ?_
  refine lv_iload_n hx hb dL_law_459 rfl (lv_at hl 0 rfl) ?_
  refine lv_iconst (v := 1) hx hb dL_law_460 (by decide) ?_
  refine lv_iadd hx hb dL_law_461 ?_
  refine va_sld hx hb hX hbl hbA hS j1 dL_law_462 ?_
  refine mk_contR (w := w_X cI cZ cS aX aD aDw aM aMw aJ aJh aSa aSt sA tx pw wl wn dk mm hd sg sc4 ++ w_R cI cZ cS aR aRd aRm aRw aRs aRt aRc aRl aRh aRu aRx aRy aRk of op cr wn fp fs dk mm wk sg tb cs lw hg us de sa ky) (w0 := w_R cI cZ cS aR aRd aRm aRw aRs aRt aRc aRl aRh aRu aRx aRy aRk of op cr wn fp fs dk mm wk sg tb cs lw hg us de sa ky) (wr := w_X cI cZ cS aX aD aDw aM aMw aJ aJh aSa aSt sA tx pw wl wn dk mm hd sg sc4) hP hD hS hA [13, 14, 15, 16, 17, 18, 19, 20, 21, 22, 23, 24, 25] [0, 1, 2, 3, 4, 5, 6, 7, 8, 9, 10, 11, 12] rfl rfl (by decide) (by decide) [0, 1, 2, 3, 4, 5, 6, 7, 8, 9, 10, 11, 12, 13, 14, 15, 16, 17, 18, 19, 20, 21, 22, 23, 24, 25] rfl (by decide) (va_runV (As := [.int (xs (x3 + 1).toNatClampNeg)]) (rest := [.int r]) ⟨hx, hb, hml, hown, hts⟩ (c_R_count l dC dI cI cZ cS aR aRd aRm aRw aRs aRt aRc aRl aRh aRu aRx aRy aRk of op cr wn fp fs dk mm wk sg tb cs lw hg us de sa ky (xs (x3 + 1).toNatClampNeg) _ e2 H.size) (cwV 1 hts gL_law_X5_count rfl rfl rfl (by decide +kernel) ⟨Nat.le_of_ble_eq_true rfl, Nat.le_of_ble_eq_true rfl⟩) (mk_preV (w0 := w_R cI cZ cS aR aRd aRm aRw aRs aRt aRc aRl aRh aRu aRx aRy aRk of op cr wn fp fs dk mm wk sg tb cs lw hg us de sa ky) (ci := 5) (q0 := 0) hN hK (mk_pick hP [13, 14, 15, 16, 17, 18, 19, 20, 21, 22, 23, 24, 25] rfl) (hD.sub [13, 14, 15, 16, 17, 18, 19, 20, 21, 22, 23, 24, 25] (by decide) rfl) rfl rfl rfl) rfl rfl hl.1 rfl (lv_room (Nat.le_of_ble_eq_true rfl)) dL_law_463 ⟨Nat.le_of_ble_eq_true rfl, Nat.le_of_ble_eq_true rfl⟩) (fun H locs hP hD hS => ?_)
  exact lv_icmp_eq (tgt := 685) hx hb dL_law_466 (by decide) (fun _ => hk _ _ _ _ _ _ _ _ _ _ _ _ _ _ _ _ _ _ _ _ _ _ _ hR H locs ls hP hD hS hl) (fun c9 => absurd rfl c9)
set_option maxHeartbeats 4000000 in
set_option maxRecDepth 100000 in
/-- openScan -/
theorem law_13 {p : Program} {l : Launch} {e : Env} {s : State} {m : MethodId} {below : List Frame} {meth : Method} {c : Code} {b L : Nat} {xs : Nat → Int32} {dC : Nat → ClassId} {dI : Nat → Nat → Nat} {cI cZ cS : ClassId} {aX aD aDw aM aMw aJ aJh aSa aSt : Nat} {sA : Nat → Nat} {aR aRd aRm aRw aRs aRt aRc aRl aRh aRu aRx aRy aRk : Nat} (C0 : lw_At p s m meth c b L xs) (hK : va_K (dC, dI) vwCl (tyz cI cZ cS) s) (hN : nx_ok s) {x3 : Int32} (j1 : vp_in (x3 + 1) L) (j2 : vp_in (x3 + 2) L) (j3 : vp_in (x3 + 3) L) (j4 : vp_in (x3 + 4) L) (hk : lw_K p l e s m below meth c b dC dI cI cZ cS aX aD aDw aM aMw aJ aJh aSa aSt sA aR aRd aRm aRw aRs aRt aRc aRl aRh aRu aRx aRy aRk 685 x3) : lw_K p l e s m below meth c b dC dI cI cZ cS aX aD aDw aM aMw aJ aJh aSa aSt sA aR aRd aRm aRw aRs aRt aRc aRl aRh aRu aRx aRy aRk 471 x3 := by
  intro tx pw wl wn dk mm hd sg sc4 of op cr fp fs wk tb cs lw hg us de sa ky hR H locs ls hP hD hS hl
  obtain ⟨hx, hb, hr, hml, hown, hts, hX, hbl, hlocks, hgv⟩ := id C0
  have hts : ∀ w ∈ wsL_law, w.before #[Value.ref b] s = true := fun w h => hts w (wsL_law_in w h)
  have hown : s.vm.findClass RL = some m.cls := hown
  have hA : ∀ q : Nat, s.heap.size ≤ q → lw_N s q := fun _ h => h
  have hbA : ¬ lw_N s b := Nat.not_le.mpr hbl
  obtain ⟨r, sc', tb', cs', lw', hg', us', de', sa', e1, e2, hR2⟩ := sim_open (xs (x3 + 1).toNatClampNeg) (xs (x3 + 2).toNatClampNeg) (xs (x3 + 3).toNatClampNeg) (xs (x3 + 4).toNatClampNeg) hR
  refine lv_aload_n hx hb dL_law_471 rfl (lv_at hl 2 rfl) ?_
  refine lv_aload_n hx hb dL_law_472 rfl (lv_at hl 3 rfl) ?_
  refine lv_iload_n hx hb dL_law_473 rfl (lv_at hl 0 rfl) ?_
  refine lv_iconst (v := 1) hx hb dL_law_474 (by decide) ?_
  refine lv_iadd hx hb dL_law_475 ?_
  refine va_sld hx hb hX hbl hbA hS j1 dL_law_476 ?_
  refine lv_aload_n hx hb dL_law_477 rfl (lv_at hl 3 rfl) ?_
  refine lv_iload_n hx hb dL_law_478 rfl (lv_at hl 0 rfl) ?_
  refine lv_iconst (v := 2) hx hb dL_law_479 (by decide) ?_
  refine lv_iadd hx hb dL_law_480 ?_
  refine va_sld hx hb hX hbl hbA hS j2 dL_law_481 ?_
  refine lv_aload_n hx hb dL_law_482 rfl (lv_at hl 3 rfl) ?_
  refine lv_iload_n hx hb dL_law_483 rfl (lv_at hl 0 rfl) ?_
  refine lv_iconst (v := 3) hx hb dL_law_484 (by decide) ?_
  refine lv_iadd hx hb dL_law_485 ?_
  refine va_sld hx hb hX hbl hbA hS j3 dL_law_486 ?_
  refine lv_aload_n hx hb dL_law_487 rfl (lv_at hl 3 rfl) ?_
  refine lv_iload_n hx hb dL_law_488 rfl (lv_at hl 0 rfl) ?_
  refine lv_iconst (v := 4) hx hb dL_law_489 (by decide) ?_
  refine lv_iadd hx hb dL_law_490 ?_
  refine va_sld hx hb hX hbl hbA hS j4 dL_law_491 ?_
  refine mk_contI (w := w_X cI cZ cS aX aD aDw aM aMw aJ aJh aSa aSt sA tx pw wl wn dk mm hd sg sc4 ++ w_R cI cZ cS aR aRd aRm aRw aRs aRt aRc aRl aRh aRu aRx aRy aRk of op cr wn fp fs dk mm wk sg tb cs lw hg us de sa ky) (w0 := w_X cI cZ cS aX aD aDw aM aMw aJ aJh aSa aSt sA tx pw wl wn dk mm hd sg sc4) (wr := w_R cI cZ cS aR aRd aRm aRw aRs aRt aRc aRl aRh aRu aRx aRy aRk of op cr wn fp fs dk mm wk sg tb cs lw hg us de sa ky) (w2 := w_X cI cZ cS aX aD aDw aM aMw aJ aJh aSa aSt sA tx pw wl wn dk mm hd sg sc' ++ w_R cI cZ cS aR aRd aRm aRw aRs aRt aRc aRl aRh aRu aRx aRy aRk of op cr wn fp fs dk mm wk sg tb cs lw hg us de sa ky) hP hD hS hA [0, 1, 2, 3, 4, 5, 6, 7, 8, 9, 10, 11, 12] [13, 14, 15, 16, 17, 18, 19, 20, 21, 22, 23, 24, 25] rfl rfl (by decide) (by decide) [13, 14, 15, 16, 17, 18, 19, 20, 21, 22, 23, 24, 25, 0, 1, 2, 3, 4, 5, 6, 7, 8, 9, 10, 11, 12] rfl (by decide) (va_runV (As := [.int (xs (x3 + 1).toNatClampNeg), .int (xs (x3 + 2).toNatClampNeg), .int (xs (x3 + 3).toNatClampNeg), .int (xs (x3 + 4).toNatClampNeg)]) (rest := []) ⟨hx, hb, hml, hown, hts⟩ (c_X_openScan l dC dI cI cZ cS aX aD aDw aM aMw aJ aJh aSa aSt sA tx pw wl wn dk mm hd sg sc4 (xs (x3 + 1).toNatClampNeg) (xs (x3 + 2).toNatClampNeg) (xs (x3 + 3).toNatClampNeg) (xs (x3 + 4).toNatClampNeg) _ e1 H.size) (cwV 4 hts gL_law_X4_openScan rfl rfl rfl (by decide +kernel) ⟨Nat.le_of_ble_eq_true rfl, Nat.le_of_ble_eq_true rfl⟩) (mk_preV (w0 := w_X cI cZ cS aX aD aDw aM aMw aJ aJh aSa aSt sA tx pw wl wn dk mm hd sg sc4) (ci := 4) (q0 := 0) hN hK (mk_pick hP [0, 1, 2, 3, 4, 5, 6, 7, 8, 9, 10, 11, 12] rfl) (hD.sub [0, 1, 2, 3, 4, 5, 6, 7, 8, 9, 10, 11, 12] (by decide) rfl) rfl rfl rfl) rfl rfl hl.1 rfl (lv_room (Nat.le_of_ble_eq_true rfl)) dL_law_492 ⟨Nat.le_of_ble_eq_true rfl, Nat.le_of_ble_eq_true rfl⟩) (fun H locs hP hD hS => ?_)
  refine lv_aload_n hx hb dL_law_495 rfl (lv_at hl 1 rfl) ?_
  refine lv_aload_n hx hb dL_law_496 rfl (lv_at hl 3 rfl) ?_
  refine lv_iload_n hx hb dL_law_497 rfl (lv_at hl 0 rfl) ?_
  refine lv_iconst (v := 1) hx hb dL_law_498 (by decide) ?_
  refine lv_iadd hx hb dL_law_499 ?_
  refine va_sld hx hb hX hbl hbA hS j1 dL_law_500 ?_
  refine lv_aload_n hx hb dL_law_501 rfl (lv_at hl 3 rfl) ?_
  refine lv_iload_n hx hb dL_law_502 rfl (lv_at hl 0 rfl) ?_
  refine lv_iconst (v := 2) hx hb dL_law_503 (by decide) ?_
  refine lv_iadd hx hb dL_law_504 ?_
  refine va_sld hx hb hX hbl hbA hS j2 dL_law_505 ?_
  refine lv_aload_n hx hb dL_law_506 rfl (lv_at hl 3 rfl) ?_
  refine lv_iload_n hx hb dL_law_507 rfl (lv_at hl 0 rfl) ?_
  refine lv_iconst (v := 3) hx hb dL_law_508 (by decide) ?_
  refine lv_iadd hx hb dL_law_509 ?_
  refine va_sld hx hb hX hbl hbA hS j3 dL_law_510 ?_
  refine lv_aload_n hx hb dL_law_511 rfl (lv_at hl 3 rfl) ?_
  refine lv_iload_n hx hb dL_law_512 rfl (lv_at hl 0 rfl) ?_
  refine lv_iconst (v := 4) hx hb dL_law_513 (by decide) ?_
  refine lv_iadd hx hb dL_law_514 ?_
  refine va_sld hx hb hX hbl hbA hS j4 dL_law_515 ?_
  refine mk_contI (w := w_X cI cZ cS aX aD aDw aM aMw aJ aJh aSa aSt sA tx pw wl wn dk mm hd sg sc' ++ w_R cI cZ cS aR aRd aRm aRw aRs aRt aRc aRl aRh aRu aRx aRy aRk of op cr wn fp fs dk mm wk sg tb cs lw hg us de sa ky) (w0 := w_R cI cZ cS aR aRd aRm aRw aRs aRt aRc aRl aRh aRu aRx aRy aRk of op cr wn fp fs dk mm wk sg tb cs lw hg us de sa ky) (wr := w_X cI cZ cS aX aD aDw aM aMw aJ aJh aSa aSt sA tx pw wl wn dk mm hd sg sc') (w2 := w_X cI cZ cS aX aD aDw aM aMw aJ aJh aSa aSt sA tx pw wl wn dk mm hd sg sc' ++ w_R cI cZ cS aR aRd aRm aRw aRs aRt aRc aRl aRh aRu aRx aRy aRk of op cr wn fp fs dk mm wk sg tb' cs' lw' hg' us' de' sa' ky) hP hD hS hA [13, 14, 15, 16, 17, 18, 19, 20, 21, 22, 23, 24, 25] [0, 1, 2, 3, 4, 5, 6, 7, 8, 9, 10, 11, 12] rfl rfl (by decide) (by decide) [0, 1, 2, 3, 4, 5, 6, 7, 8, 9, 10, 11, 12, 13, 14, 15, 16, 17, 18, 19, 20, 21, 22, 23, 24, 25] rfl (by decide) (va_runV (As := [.int (xs (x3 + 1).toNatClampNeg), .int (xs (x3 + 2).toNatClampNeg), .int (xs (x3 + 3).toNatClampNeg), .int (xs (x3 + 4).toNatClampNeg)]) (rest := [.int r]) ⟨hx, hb, hml, hown, hts⟩ (c_R_openScan l dC dI cI cZ cS aR aRd aRm aRw aRs aRt aRc aRl aRh aRu aRx aRy aRk of op cr wn fp fs dk mm wk sg tb cs lw hg us de sa ky (xs (x3 + 1).toNatClampNeg) (xs (x3 + 2).toNatClampNeg) (xs (x3 + 3).toNatClampNeg) (xs (x3 + 4).toNatClampNeg) _ e2 H.size) (cwV 4 hts gL_law_X5_openScan rfl rfl rfl (by decide +kernel) ⟨Nat.le_of_ble_eq_true rfl, Nat.le_of_ble_eq_true rfl⟩) (mk_preV (w0 := w_R cI cZ cS aR aRd aRm aRw aRs aRt aRc aRl aRh aRu aRx aRy aRk of op cr wn fp fs dk mm wk sg tb cs lw hg us de sa ky) (ci := 5) (q0 := 0) hN hK (mk_pick hP [13, 14, 15, 16, 17, 18, 19, 20, 21, 22, 23, 24, 25] rfl) (hD.sub [13, 14, 15, 16, 17, 18, 19, 20, 21, 22, 23, 24, 25] (by decide) rfl) rfl rfl rfl) rfl rfl hl.1 rfl (lv_room (Nat.le_of_ble_eq_true rfl)) dL_law_516 ⟨Nat.le_of_ble_eq_true rfl, Nat.le_of_ble_eq_true rfl⟩) (fun H locs hP hD hS => ?_)
  exact lv_icmp_eq (tgt := 685) hx hb dL_law_519 (by decide) (fun _ => hk _ _ _ _ _ _ _ _ _ _ _ _ _ _ _ _ _ _ _ _ _ _ _ hR2 H locs ls hP hD hS hl) (fun c9 => absurd rfl c9)
set_option maxHeartbeats 4000000 in
set_option maxRecDepth 100000 in
/-- next -/
theorem law_14 {p : Program} {l : Launch} {e : Env} {s : State} {m : MethodId} {below : List Frame} {meth : Method} {c : Code} {b L : Nat} {xs : Nat → Int32} {dC : Nat → ClassId} {dI : Nat → Nat → Nat} {cI cZ cS : ClassId} {aX aD aDw aM aMw aJ aJh aSa aSt : Nat} {sA : Nat → Nat} {aR aRd aRm aRw aRs aRt aRc aRl aRh aRu aRx aRy aRk : Nat} (C0 : lw_At p s m meth c b L xs) (hK : va_K (dC, dI) vwCl (tyz cI cZ cS) s) (hN : nx_ok s) {x3 : Int32} (j1 : vp_in (x3 + 1) L) (j2 : vp_in (x3 + 2) L) (j3 : vp_in (x3 + 3) L) (j4 : vp_in (x3 + 4) L) (hk : lw_K p l e s m below meth c b dC dI cI cZ cS aX aD aDw aM aMw aJ aJh aSa aSt sA aR aRd aRm aRw aRs aRt aRc aRl aRh aRu aRx aRy aRk 685 x3) : lw_K p l e s m below meth c b dC dI cI cZ cS aX aD aDw aM aMw aJ aJh aSa aSt sA aR aRd aRm aRw aRs aRt aRc aRl aRh aRu aRx aRy aRk 524 x3 := by
  intro tx pw wl wn dk mm hd sg sc4 of op cr fp fs wk tb cs lw hg us de sa ky hR H locs ls hP hD hS hl
  obtain ⟨hx, hb, hr, hml, hown, hts, hX, hbl, hlocks, hgv⟩ := id C0
  have hts : ∀ w ∈ wsL_law, w.before #[Value.ref b] s = true := fun w h => hts w (wsL_law_in w h)
  have hown : s.vm.findClass RL = some m.cls := hown
  have hA : ∀ q : Nat, s.heap.size ≤ q → lw_N s q := fun _ h => h
  have hbA : ¬ lw_N s b := Nat.not_le.mpr hbl
  obtain ⟨r, sc', sa', ky', e1, e2, hR2⟩ := sim_next (xs (x3 + 1).toNatClampNeg) hR
  refine lv_aload_n hx hb dL_law_524 rfl (lv_at hl 2 rfl) ?_
  refine lv_aload_n hx hb dL_law_525 rfl (lv_at hl 3 rfl) ?_
  refine lv_iload_n hx hb dL_law_526 rfl (lv_at hl 0 rfl) ?_
  refine lv_iconst (v := 1) hx hb dL_law_527 (by decide) ?_
  refine lv_iadd hx hb dL_law_528 ?_
  refine va_sld hx hb hX hbl hbA hS j1 dL_law_529 ?_
  refine mk_contI (w := w_X cI cZ cS aX aD aDw aM aMw aJ aJh aSa aSt sA tx pw wl wn dk mm hd sg sc4 ++ w_R cI cZ cS aR aRd aRm aRw aRs aRt aRc aRl aRh aRu aRx aRy aRk of op cr wn fp fs dk mm wk sg tb cs lw hg us de sa ky) (w0 := w_X cI cZ cS aX aD aDw aM aMw aJ aJh aSa aSt sA tx pw wl wn dk mm hd sg sc4) (wr := w_R cI cZ cS aR aRd aRm aRw aRs aRt aRc aRl aRh aRu aRx aRy aRk of op cr wn fp fs dk mm wk sg tb cs lw hg us de sa ky) (w2 := w_X cI cZ cS aX aD aDw aM aMw aJ aJh aSa aSt sA tx pw wl wn dk mm hd sg sc' ++ w_R cI cZ cS aR aRd aRm aRw aRs aRt aRc aRl aRh aRu aRx aRy aRk of op cr wn fp fs dk mm wk sg tb cs lw hg us de sa ky) hP hD hS hA [0, 1, 2, 3, 4, 5, 6, 7, 8, 9, 10, 11, 12] [13, 14, 15, 16, 17, 18, 19, 20, 21, 22, 23, 24, 25] rfl rfl (by decide) (by decide) [13, 14, 15, 16, 17, 18, 19, 20, 21, 22, 23, 24, 25, 0, 1, 2, 3, 4, 5, 6, 7, 8, 9, 10, 11, 12] rfl (by decide) (va_runV (As := [.int (xs (x3 + 1).toNatClampNeg)]) (rest := []) ⟨hx, hb, hml, hown, hts⟩ (c_X_next l dC dI cI cZ cS aX aD aDw aM aMw aJ aJh aSa aSt sA tx pw wl wn dk mm hd sg sc4 (xs (x3 + 1).toNatClampNeg) _ e1 H.size) (cwV 1 hts gL_law_X4_next rfl rfl rfl (by decide +kernel) ⟨Nat.le_of_ble_eq_true rfl, Nat.le_of_ble_eq_true rfl⟩) (mk_preV (w0 := w_X cI cZ cS aX aD aDw aM aMw aJ aJh aSa aSt sA tx pw wl wn dk mm hd sg sc4) (ci := 4) (q0 := 0) hN hK (mk_pick hP [0, 1, 2, 3, 4, 5, 6, 7, 8, 9, 10, 11, 12] rfl) (hD.sub [0, 1, 2, 3, 4, 5, 6, 7, 8, 9, 10, 11, 12] (by decide) rfl) rfl rfl rfl) rfl rfl hl.1 rfl (lv_room (Nat.le_of_ble_eq_true rfl)) dL_law_530 ⟨Nat.le_of_ble_eq_true rfl, Nat.le_of_ble_eq_true rfl⟩) (fun H locs hP hD hS => ?_)
  refine lv_aload_n hx hb dL_law_533 rfl (lv_at hl 1 rfl) ?_
  refine lv_aload_n hx hb dL_law_534 rfl (lv_at hl 3 rfl) ?_
  refine lv_iload_n hx hb dL_law_535 rfl (lv_at hl 0 rfl) ?_
  refine lv_iconst (v := 1) hx hb dL_law_536 (by decide) ?_
  refine lv_iadd hx hb dL_law_537 ?_
  refine va_sld hx hb hX hbl hbA hS j1 dL_law_538 ?_
  refine mk_contI (w := w_X cI cZ cS aX aD aDw aM aMw aJ aJh aSa aSt sA tx pw wl wn dk mm hd sg sc' ++ w_R cI cZ cS aR aRd aRm aRw aRs aRt aRc aRl aRh aRu aRx aRy aRk of op cr wn fp fs dk mm wk sg tb cs lw hg us de sa ky) (w0 := w_R cI cZ cS aR aRd aRm aRw aRs aRt aRc aRl aRh aRu aRx aRy aRk of op cr wn fp fs dk mm wk sg tb cs lw hg us de sa ky) (wr := w_X cI cZ cS aX aD aDw aM aMw aJ aJh aSa aSt sA tx pw wl wn dk mm hd sg sc') (w2 := w_X cI cZ cS aX aD aDw aM aMw aJ aJh aSa aSt sA tx pw wl wn dk mm hd sg sc' ++ w_R cI cZ cS aR aRd aRm aRw aRs aRt aRc aRl aRh aRu aRx aRy aRk of op cr wn fp fs dk mm wk sg tb cs lw hg us de sa' ky') hP hD hS hA [13, 14, 15, 16, 17, 18, 19, 20, 21, 22, 23, 24, 25] [0, 1, 2, 3, 4, 5, 6, 7, 8, 9, 10, 11, 12] rfl rfl (by decide) (by decide) [0, 1, 2, 3, 4, 5, 6, 7, 8, 9, 10, 11, 12, 13, 14, 15, 16, 17, 18, 19, 20, 21, 22, 23, 24, 25] rfl (by decide) (va_runV (As := [.int (xs (x3 + 1).toNatClampNeg)]) (rest := [.int r]) ⟨hx, hb, hml, hown, hts⟩ (c_R_next l dC dI cI cZ cS aR aRd aRm aRw aRs aRt aRc aRl aRh aRu aRx aRy aRk of op cr wn fp fs dk mm wk sg tb cs lw hg us de sa ky (xs (x3 + 1).toNatClampNeg) _ e2 H.size) (cwV 1 hts gL_law_X5_next rfl rfl rfl (by decide +kernel) ⟨Nat.le_of_ble_eq_true rfl, Nat.le_of_ble_eq_true rfl⟩) (mk_preV (w0 := w_R cI cZ cS aR aRd aRm aRw aRs aRt aRc aRl aRh aRu aRx aRy aRk of op cr wn fp fs dk mm wk sg tb cs lw hg us de sa ky) (ci := 5) (q0 := 0) hN hK (mk_pick hP [13, 14, 15, 16, 17, 18, 19, 20, 21, 22, 23, 24, 25] rfl) (hD.sub [13, 14, 15, 16, 17, 18, 19, 20, 21, 22, 23, 24, 25] (by decide) rfl) rfl rfl rfl) rfl rfl hl.1 rfl (lv_room (Nat.le_of_ble_eq_true rfl)) dL_law_539 ⟨Nat.le_of_ble_eq_true rfl, Nat.le_of_ble_eq_true rfl⟩) (fun H locs hP hD hS => ?_)
  exact lv_icmp_eq (tgt := 685) hx hb dL_law_542 (by decide) (fun _ => hk _ _ _ _ _ _ _ _ _ _ _ _ _ _ _ _ _ _ _ _ _ _ _ hR2 H locs ls hP hD hS hl) (fun c9 => absurd rfl c9)
set_option maxHeartbeats 4000000 in
set_option maxRecDepth 100000 in
/-- col -/
theorem law_15 {p : Program} {l : Launch} {e : Env} {s : State} {m : MethodId} {below : List Frame} {meth : Method} {c : Code} {b L : Nat} {xs : Nat → Int32} {dC : Nat → ClassId} {dI : Nat → Nat → Nat} {cI cZ cS : ClassId} {aX aD aDw aM aMw aJ aJh aSa aSt : Nat} {sA : Nat → Nat} {aR aRd aRm aRw aRs aRt aRc aRl aRh aRu aRx aRy aRk : Nat} (C0 : lw_At p s m meth c b L xs) (hK : va_K (dC, dI) vwCl (tyz cI cZ cS) s) (hN : nx_ok s) {x3 : Int32} (j1 : vp_in (x3 + 1) L) (j2 : vp_in (x3 + 2) L) (j3 : vp_in (x3 + 3) L) (j4 : vp_in (x3 + 4) L) (hk : lw_K p l e s m below meth c b dC dI cI cZ cS aX aD aDw aM aMw aJ aJh aSa aSt sA aR aRd aRm aRw aRs aRt aRc aRl aRh aRu aRx aRy aRk 685 x3) : lw_K p l e s m below meth c b dC dI cI cZ cS aX aD aDw aM aMw aJ aJh aSa aSt sA aR aRd aRm aRw aRs aRt aRc aRl aRh aRu aRx aRy aRk 547 x3 := by
  intro tx pw wl wn dk mm hd sg sc4 of op cr fp fs wk tb cs lw hg us de sa ky hR H locs ls hP hD hS hl
  obtain ⟨hx, hb, hr, hml, hown, hts, hX, hbl, hlocks, hgv⟩ := id C0
  have hts : ∀ w ∈ wsL_law, w.before #[Value.ref b] s = true := fun w h => hts w (wsL_law_in w h)
  have hown : s.vm.findClass RL = some m.cls := hown
  have hA : ∀ q : Nat, s.heap.size ≤ q → lw_N s q := fun _ h => h
  have hbA : ¬ lw_N s b := Nat.not_le.mpr hbl
  obtain ⟨r, fp', fs', e1, e2⟩ := sim_col fp fs (xs (x3 + 1).toNatClampNeg) (xs (x3 + 2).toNatClampNeg) hR
  refine lv_aload_n hx hb dL_law_547 rfl (lv_at hl 2 rfl) ?_
  refine lv_aload_n hx hb dL_law_548 rfl (lv_at hl 3 rfl) ?_
  refine lv_iload_n hx hb dL_law_549 rfl (lv_at hl 0 rfl) ?_
  refine lv_iconst (v := 1) hx hb dL_law_550 (by decide) ?_
  refine lv_iadd hx hb dL_law_551 ?_
  refine va_sld hx hb hX hbl hbA hS j1 dL_law_552 ?_
  refine lv_aload_n hx hb dL_law_553 rfl (lv_at hl 3 rfl) ?_
  refine lv_iload_n hx hb dL_law_554 rfl (lv_at hl 0 rfl) ?_
  refine lv_iconst (v := 2) hx hb dL_law_555 (by decide) ?_
  refine lv_iadd hx hb dL_law_556 ?_
  refine va_sld hx hb hX hbl hbA hS j2 dL_law_557 ?_
  refine mk_contR (w := w_X cI cZ cS aX aD aDw aM aMw aJ aJh aSa aSt sA tx pw wl wn dk mm hd sg sc4 ++ w_R cI cZ cS aR aRd aRm aRw aRs aRt aRc aRl aRh aRu aRx aRy aRk of op cr wn fp fs dk mm wk sg tb cs lw hg us de sa ky) (w0 := w_X cI cZ cS aX aD aDw aM aMw aJ aJh aSa aSt sA tx pw wl wn dk mm hd sg sc4) (wr := w_R cI cZ cS aR aRd aRm aRw aRs aRt aRc aRl aRh aRu aRx aRy aRk of op cr wn fp fs dk mm wk sg tb cs lw hg us de sa ky) hP hD hS hA [0, 1, 2, 3, 4, 5, 6, 7, 8, 9, 10, 11, 12] [13, 14, 15, 16, 17, 18, 19, 20, 21, 22, 23, 24, 25] rfl rfl (by decide) (by decide) [13, 14, 15, 16, 17, 18, 19, 20, 21, 22, 23, 24, 25, 0, 1, 2, 3, 4, 5, 6, 7, 8, 9, 10, 11, 12] rfl (by decide) (va_runV (As := [.int (xs (x3 + 1).toNatClampNeg), .int (xs (x3 + 2).toNatClampNeg)]) (rest := []) ⟨hx, hb, hml, hown, hts⟩ (c_X_col l dC dI cI cZ cS aX aD aDw aM aMw aJ aJh aSa aSt sA tx pw wl wn dk mm hd sg sc4 (xs (x3 + 1).toNatClampNeg) (xs (x3 + 2).toNatClampNeg) _ e1 H.size) (cwV 2 hts gL_law_X4_col rfl rfl rfl (by decide +kernel) ⟨Nat.le_of_ble_eq_true rfl, Nat.le_of_ble_eq_true rfl⟩) (mk_preV (w0 := w_X cI cZ cS aX aD aDw aM aMw aJ aJh aSa aSt sA tx pw wl wn dk mm hd sg sc4) (ci := 4) (q0 := 0) hN hK (mk_pick hP [0, 1, 2, 3, 4, 5, 6, 7, 8, 9, 10, 11, 12] rfl) (hD.sub [0, 1, 2, 3, 4, 5, 6, 7, 8, 9, 10, 11, 12] (by decide) rfl) rfl rfl rfl) rfl rfl hl.1 rfl (lv_room (Nat.le_of_ble_eq_true rfl)) dL_law_558 ⟨Nat.le_of_ble_eq_true rfl, Nat.le_of_ble_eq_true rfl⟩) (fun H locs hP hD hS => ?_)
  refine lv_aload_n hx hb dL_law_561 rfl (lv_at hl 1 rfl) ?_
  refine lv_aload_n hx hb dL_law_562 rfl (lv_at hl 3 rfl) ?_
  refine lv_iload_n hx hb dL_law_563 rfl (lv_at hl 0 rfl) ?_
  refine lv_iconst (v := 1) hx hb dL_law_564 (by decide) ?_
  refine lv_iadd hx hb dL_law_565 ?_
  refine va_sld hx hb hX hbl hbA hS j1 dL_law_566 ?_
  refine lv_aload_n hx hb dL_law_567 rfl (lv_at hl 3 rfl) ?_
  refine lv_iload_n hx hb dL_law_568 rfl (lv_at hl 0 rfl) ?_
  refine lv_iconst (v := 2) hx hb dL_law_569 (by decide) ?_
  refine lv_iadd hx hb dL_law_570 ?_
  refine va_sld hx hb hX hbl hbA hS j2 dL_law_571 ?_
  refine mk_contI (w := w_X cI cZ cS aX aD aDw aM aMw aJ aJh aSa aSt sA tx pw wl wn dk mm hd sg sc4 ++ w_R cI cZ cS aR aRd aRm aRw aRs aRt aRc aRl aRh aRu aRx aRy aRk of op cr wn fp fs dk mm wk sg tb cs lw hg us de sa ky) (w0 := w_R cI cZ cS aR aRd aRm aRw aRs aRt aRc aRl aRh aRu aRx aRy aRk of op cr wn fp fs dk mm wk sg tb cs lw hg us de sa ky) (wr := w_X cI cZ cS aX aD aDw aM aMw aJ aJh aSa aSt sA tx pw wl wn dk mm hd sg sc4) (w2 := w_X cI cZ cS aX aD aDw aM aMw aJ aJh aSa aSt sA tx pw wl wn dk mm hd sg sc4 ++ w_R cI cZ cS aR aRd aRm aRw aRs aRt aRc aRl aRh aRu aRx aRy aRk of op cr wn fp' fs' dk mm wk sg tb cs lw hg us de sa ky) hP hD hS hA [13, 14, 15, 16, 17, 18, 19, 20, 21, 22, 23, 24, 25] [0, 1, 2, 3, 4, 5, 6, 7, 8, 9, 10, 11, 12] rfl rfl (by decide) (by decide) [0, 1, 2, 3, 4, 5, 6, 7, 8, 9, 10, 11, 12, 13, 14, 15, 16, 17, 18, 19, 20, 21, 22, 23, 24, 25] rfl (by decide) (va_runV (As := [.int (xs (x3 + 1).toNatClampNeg), .int (xs (x3 + 2).toNatClampNeg)]) (rest := [.int r]) ⟨hx, hb, hml, hown, hts⟩ (c_R_col l dC dI cI cZ cS aR aRd aRm aRw aRs aRt aRc aRl aRh aRu aRx aRy aRk of op cr wn fp fs dk mm wk sg tb cs lw hg us de sa ky (xs (x3 + 1).toNatClampNeg) (xs (x3 + 2).toNatClampNeg) _ e2 H.size) (cwV 2 hts gL_law_X5_col rfl rfl rfl (by decide +kernel) ⟨Nat.le_of_ble_eq_true rfl, Nat.le_of_ble_eq_true rfl⟩) (mk_preV (w0 := w_R cI cZ cS aR aRd aRm aRw aRs aRt aRc aRl aRh aRu aRx aRy aRk of op cr wn fp fs dk mm wk sg tb cs lw hg us de sa ky) (ci := 5) (q0 := 0) hN hK (mk_pick hP [13, 14, 15, 16, 17, 18, 19, 20, 21, 22, 23, 24, 25] rfl) (hD.sub [13, 14, 15, 16, 17, 18, 19, 20, 21, 22, 23, 24, 25] (by decide) rfl) rfl rfl rfl) rfl rfl hl.1 rfl (lv_room (Nat.le_of_ble_eq_true rfl)) dL_law_572 ⟨Nat.le_of_ble_eq_true rfl, Nat.le_of_ble_eq_true rfl⟩) (fun H locs hP hD hS => ?_)
  exact lv_icmp_eq (tgt := 685) hx hb dL_law_575 (by decide) (fun _ => hk _ _ _ _ _ _ _ _ _ _ _ _ _ _ _ _ _ _ _ _ _ _ _ hR H locs ls hP hD hS hl) (fun c9 => absurd rfl c9)
