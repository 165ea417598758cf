set_option maxHeartbeats 4000000 in
set_option maxRecDepth 100000 in
/-- insert -/
theorem law_7 {p : Program} {l : Launch} {e : Env} {s : State} {m : MethodId} {below : List Frame} {meth : Method} {c : Code} {b L : Nat} {xs : Nat → Int32} {dC : Nat → ClassId} {dI : Nat → Nat → Nat} {cI cZ cS : ClassId} {aX aD aDw aM aMw aJ aJh aSa aSt : Nat} {sA : Nat → Nat} {aR aRd aRm aRw aRs aRt aRc aRl aRh aRu aRx aRy aRk : Nat} (C0 : lw_At p s m meth c b L xs) (hK : va_K (dC, dI) vwCl (tyz cI cZ cS) s) (hN : nx_ok s) {x3 : Int32} (j1 : vp_in (x3 + 1) L) (j2 : vp_in (x3 + 2) L) (j3 : vp_in (x3 + 3) L) (j4 : vp_in (x3 + 4) L) (hk : lw_K p l e s m below meth c b dC dI cI cZ cS aX aD aDw aM aMw aJ aJh aSa aSt sA aR aRd aRm aRw aRs aRt aRc aRl aRh aRu aRx aRy aRk 685 x3) : lw_K p l e s m below meth c b dC dI cI cZ cS aX aD aDw aM aMw aJ aJh aSa aSt sA aR aRd aRm aRw aRs aRt aRc aRl aRh aRu aRx aRy aRk 263 x3 := by
  intro tx pw wl wn dk mm hd sg sc4 of op cr fp fs wk tb cs lw hg us de sa ky hR H locs ls hP hD hS hl
  obtain ⟨hx, hb, hr, hml, hown, hts, hX, hbl, hlocks, hgv⟩ := id C0
  have hts : ∀ w ∈ wsL_law, w.before #[Value.ref b] s = true := fun w h => hts w (wsL_law_in w h)
  have hown : s.vm.findClass RL = some m.cls := hown
  have hA : ∀ q : Nat, s.heap.size ≤ q → lw_N s q := fun _ h => h
  have hbA : ¬ lw_N s b := Nat.not_le.mpr hbl
  obtain ⟨r, mm', sc', fp', fs', de', e1, e2, hR2⟩ := sim_insert sg fp fs (xs (x3 + 1).toNatClampNeg) hR
  refine lv_aload_n hx hb dL_law_263 rfl (lv_at hl 2 rfl) ?_
  refine lv_aload_n hx hb dL_law_264 rfl (lv_at hl 3 rfl) ?_
  refine lv_iload_n hx hb dL_law_265 rfl (lv_at hl 0 rfl) ?_
  refine lv_iconst (v := 1) hx hb dL_law_266 (by decide) ?_
  refine lv_iadd hx hb dL_law_267 ?_
  refine va_sld hx hb hX hbl hbA hS j1 dL_law_268 ?_
  refine mk_contI (w := w_X cI cZ cS aX aD aDw aM aMw aJ aJh aSa aSt sA tx pw wl wn dk mm hd sg sc4 ++ w_R cI cZ cS aR aRd aRm aRw aRs aRt aRc aRl aRh aRu aRx aRy aRk of op cr wn fp fs dk mm wk sg tb cs lw hg us de sa ky) (w0 := w_X cI cZ cS aX aD aDw aM aMw aJ aJh aSa aSt sA tx pw wl wn dk mm hd sg sc4) (wr := w_R cI cZ cS aR aRd aRm aRw aRs aRt aRc aRl aRh aRu aRx aRy aRk of op cr wn fp fs dk mm wk sg tb cs lw hg us de sa ky) (w2 := w_X cI cZ cS aX aD aDw aM aMw aJ aJh aSa aSt sA tx pw wl wn dk mm' hd sg sc' ++ w_R cI cZ cS aR aRd aRm aRw aRs aRt aRc aRl aRh aRu aRx aRy aRk of op cr wn fp fs dk mm wk sg tb cs lw hg us de sa ky) hP hD hS hA [0, 1, 2, 3, 4, 5, 6, 7, 8, 9, 10, 11, 12] [13, 14, 15, 16, 17, 18, 19, 20, 21, 22, 23, 24, 25] rfl rfl (by decide) (by decide) [13, 14, 15, 16, 17, 18, 19, 20, 21, 22, 23, 24, 25, 0, 1, 2, 3, 4, 5, 6, 7, 8, 9, 10, 11, 12] rfl (by decide) (va_runV (As := [.int (xs (x3 + 1).toNatClampNeg)]) (rest := []) ⟨hx, hb, hml, hown, hts⟩ (c_X_insert l dC dI cI cZ cS aX aD aDw aM aMw aJ aJh aSa aSt sA tx pw wl wn dk mm hd sg sc4 (xs (x3 + 1).toNatClampNeg) _ e1 H.size) (cwV 1 hts gL_law_X4_insert rfl rfl rfl (by decide +kernel) ⟨Nat.le_of_ble_eq_true rfl, Nat.le_of_ble_eq_true rfl⟩) (mk_preV (w0 := w_X cI cZ cS aX aD aDw aM aMw aJ aJh aSa aSt sA tx pw wl wn dk mm hd sg sc4) (ci := 4) (q0 := 0) hN hK (mk_pick hP [0, 1, 2, 3, 4, 5, 6, 7, 8, 9, 10, 11, 12] rfl) (hD.sub [0, 1, 2, 3, 4, 5, 6, 7, 8, 9, 10, 11, 12] (by decide) rfl) rfl rfl rfl) rfl rfl hl.1 rfl (lv_room (Nat.le_of_ble_eq_true rfl)) dL_law_269 ⟨Nat.le_of_ble_eq_true rfl, Nat.le_of_ble_eq_true rfl⟩) (fun H locs hP hD hS => ?_)
  refine lv_aload_n hx hb dL_law_272 rfl (lv_at hl 1 rfl) ?_
  refine lv_aload_n hx hb dL_law_273 rfl (lv_at hl 3 rfl) ?_
  refine lv_iload_n hx hb dL_law_274 rfl (lv_at hl 0 rfl) ?_
  refine lv_iconst (v := 1) hx hb dL_law_275 (by decide) ?_
  refine lv_iadd hx hb dL_law_276 ?_
  refine va_sld hx hb hX hbl hbA hS j1 dL_law_277 ?_
  refine mk_contI (w := w_X cI cZ cS aX aD aDw aM aMw aJ aJh aSa aSt sA tx pw wl wn dk mm' hd sg sc' ++ w_R cI cZ cS aR aRd aRm aRw aRs aRt aRc aRl aRh aRu aRx aRy aRk of op cr wn fp fs dk mm wk sg tb cs lw hg us de sa ky) (w0 := w_R cI cZ cS aR aRd aRm aRw aRs aRt aRc aRl aRh aRu aRx aRy aRk of op cr wn fp fs dk mm wk sg tb cs lw hg us de sa ky) (wr := w_X cI cZ cS aX aD aDw aM aMw aJ aJh aSa aSt sA tx pw wl wn dk mm' hd sg sc') (w2 := w_X cI cZ cS aX aD aDw aM aMw aJ aJh aSa aSt sA tx pw wl wn dk mm' hd sg sc' ++ w_R cI cZ cS aR aRd aRm aRw aRs aRt aRc aRl aRh aRu aRx aRy aRk of op cr wn fp' fs' dk mm' wk sg tb cs lw hg us de' sa ky) hP hD hS hA [13, 14, 15, 16, 17, 18, 19, 20, 21, 22, 23, 24, 25] [0, 1, 2, 3, 4, 5, 6, 7, 8, 9, 10, 11, 12] rfl rfl (by decide) (by decide) [0, 1, 2, 3, 4, 5, 6, 7, 8, 9, 10, 11, 12, 13, 14, 15, 16, 17, 18, 19, 20, 21, 22, 23, 24, 25] rfl (by decide) (va_runV (As := [.int (xs (x3 + 1).toNatClampNeg)]) (rest := [.int r]) ⟨hx, hb, hml, hown, hts⟩ (c_R_insert l dC dI cI cZ cS aR aRd aRm aRw aRs aRt aRc aRl aRh aRu aRx aRy aRk of op cr wn fp fs dk mm wk sg tb cs lw hg us de sa ky (xs (x3 + 1).toNatClampNeg) _ e2 H.size) (cwV 1 hts gL_law_X5_insert rfl rfl rfl (by decide +kernel) ⟨Nat.le_of_ble_eq_true rfl, Nat.le_of_ble_eq_true rfl⟩) (mk_preV (w0 := w_R cI cZ cS aR aRd aRm aRw aRs aRt aRc aRl aRh aRu aRx aRy aRk of op cr wn fp fs dk mm wk sg tb cs lw hg us de sa ky) (ci := 5) (q0 := 0) hN hK (mk_pick hP [13, 14, 15, 16, 17, 18, 19, 20, 21, 22, 23, 24, 25] rfl) (hD.sub [13, 14, 15, 16, 17, 18, 19, 20, 21, 22, 23, 24, 25] (by decide) rfl) rfl rfl rfl) rfl rfl hl.1 rfl (lv_room (Nat.le_of_ble_eq_true rfl)) dL_law_278 ⟨Nat.le_of_ble_eq_true rfl, Nat.le_of_ble_eq_true rfl⟩) (fun H locs hP hD hS => ?_)
  exact lv_icmp_eq (tgt := 685) hx hb dL_law_281 (by decide) (fun _ => hk _ _ _ _ _ _ _ _ _ _ _ _ _ _ _ _ _ _ _ _ _ _ _ hR2 H locs ls hP hD hS hl) (fun c9 => absurd rfl c9)
set_option maxHeartbeats 4000000 in
set_option maxRecDepth 100000 in
/-- deleteKey -/
theorem law_8 {p : Program} {l : Launch} {e : Env} {s : State} {m : MethodId} {below : List Frame} {meth : Method} {c : Code} {b L : Nat} {xs : Nat → Int32} {dC : Nat → ClassId} {dI : Nat → Nat → Nat} {cI cZ cS : ClassId} {aX aD aDw aM aMw aJ aJh aSa aSt : Nat} {sA : Nat → Nat} {aR aRd aRm aRw aRs aRt aRc aRl aRh aRu aRx aRy aRk : Nat} (C0 : lw_At p s m meth c b L xs) (hK : va_K (dC, dI) vwCl (tyz cI cZ cS) s) (hN : nx_ok s) {x3 : Int32} (j1 : vp_in (x3 + 1) L) (j2 : vp_in (x3 + 2) L) (j3 : vp_in (x3 + 3) L) (j4 : vp_in (x3 + 4) L) (hk : lw_K p l e s m below meth c b dC dI cI cZ cS aX aD aDw aM aMw aJ aJh aSa aSt sA aR aRd aRm aRw aRs aRt aRc aRl aRh aRu aRx aRy aRk 685 x3) : lw_K p l e s m below meth c b dC dI cI cZ cS aX aD aDw aM aMw aJ aJh aSa aSt sA aR aRd aRm aRw aRs aRt aRc aRl aRh aRu aRx aRy aRk 286 x3 := by
  intro tx pw wl wn dk mm hd sg sc4 of op cr fp fs wk tb cs lw hg us de sa ky hR H locs ls hP hD hS hl
  obtain ⟨hx, hb, hr, hml, hown, hts, hX, hbl, hlocks, hgv⟩ := id C0
  have hts : ∀ w ∈ wsL_law, w.before #[Value.ref b] s = true := fun w h => hts w (wsL_law_in w h)
  have hown : s.vm.findClass RL = some m.cls := hown
  have hA : ∀ q : Nat, s.heap.size ≤ q → lw_N s q := fun _ h => h
  have hbA : ¬ lw_N s b := Nat.not_le.mpr hbl
  obtain ⟨r, mm', sc', fp', fs', de', e1, e2, hR2⟩ := sim_delete fp fs (xs (x3 + 1).toNatClampNeg) (xs (x3 + 2).toNatClampNeg) hR
  refine lv_aload_n hx hb dL_law_286 rfl (lv_at hl 2 rfl) ?_
  refine lv_aload_n hx hb dL_law_287 rfl (lv_at hl 3 rfl) ?_
  refine lv_iload_n hx hb dL_law_288 rfl (lv_at hl 0 rfl) ?_
  refine lv_iconst (v := 1) hx hb dL_law_289 (by decide) ?_
  refine lv_iadd hx hb dL_law_290 ?_
  refine va_sld hx hb hX hbl hbA hS j1 dL_law_291 ?_
  refine lv_aload_n hx hb dL_law_292 rfl (lv_at hl 3 rfl) ?_
  refine lv_iload_n hx hb dL_law_293 rfl (lv_at hl 0 rfl) ?_
  refine lv_iconst (v := 2) hx hb dL_law_294 (by decide) ?_
  refine lv_iadd hx hb dL_law_295 ?_
  refine va_sld hx hb hX hbl hbA hS j2 dL_law_296 ?_
  refine mk_contI (w := w_X cI cZ cS aX aD aDw aM aMw aJ aJh aSa aSt sA tx pw wl wn dk mm hd sg sc4 ++ w_R cI cZ cS aR aRd aRm aRw aRs aRt aRc aRl aRh aRu aRx aRy aRk of op cr wn fp fs dk mm wk sg tb cs lw hg us de sa ky) (w0 := w_X cI cZ cS aX aD aDw aM aMw aJ aJh aSa aSt sA tx pw wl wn dk mm hd sg sc4) (wr := w_R cI cZ cS aR aRd aRm aRw aRs aRt aRc aRl aRh aRu aRx aRy aRk of op cr wn fp fs dk mm wk sg tb cs lw hg us de sa ky) (w2 := w_X cI cZ cS aX aD aDw aM aMw aJ aJh aSa aSt sA tx pw wl wn dk mm' hd sg sc' ++ w_R cI cZ cS aR aRd aRm aRw aRs aRt aRc aRl aRh aRu aRx aRy aRk of op cr wn fp fs dk mm wk sg tb cs lw hg us de sa ky) hP hD hS hA [0, 1, 2, 3, 4, 5, 6, 7, 8, 9, 10, 11, 12] [13, 14, 15, 16, 17, 18, 19, 20, 21, 22, 23, 24, 25] rfl rfl (by decide) (by decide) [13, 14, 15, 16, 17, 18, 19, 20, 21, 22, 23, 24, 25, 0, 1, 2, 3, 4, 5, 6, 7, 8, 9, 10, 11, 12] rfl (by decide) (va_runV (As := [.int (xs (x3 + 1).toNatClampNeg), .int (xs (x3 + 2).toNatClampNeg)]) (rest := []) ⟨hx, hb, hml, hown, hts⟩ (c_X_deleteKey l dC dI cI cZ cS aX aD aDw aM aMw aJ aJh aSa aSt sA tx pw wl wn dk mm hd sg sc4 (xs (x3 + 1).toNatClampNeg) (xs (x3 + 2).toNatClampNeg) _ e1 H.size) (cwV 2 hts gL_law_X4_deleteKey rfl rfl rfl (by decide +kernel) ⟨Nat.le_of_ble_eq_true rfl, Nat.le_of_ble_eq_true rfl⟩) (mk_preV (w0 := w_X cI cZ cS aX aD aDw aM aMw aJ aJh aSa aSt sA tx pw wl wn dk mm hd sg sc4) (ci := 4) (q0 := 0) hN hK (mk_pick hP [0, 1, 2, 3, 4, 5, 6, 7, 8, 9, 10, 11, 12] rfl) (hD.sub [0, 1, 2, 3, 4, 5, 6, 7, 8, 9, 10, 11, 12] (by decide) rfl) rfl rfl rfl) rfl rfl hl.1 rfl (lv_room (Nat.le_of_ble_eq_true rfl)) dL_law_297 ⟨Nat.le_of_ble_eq_true rfl, Nat.le_of_ble_eq_true rfl⟩) (fun H locs hP hD hS => ?_)
  refine lv_aload_n hx hb dL_law_300 rfl (lv_at hl 1 rfl) ?_
  refine lv_aload_n hx hb dL_law_301 rfl (lv_at hl 3 rfl) ?_
  refine lv_iload_n hx hb dL_law_302 rfl (lv_at hl 0 rfl) ?_
  refine lv_iconst (v := 1) hx hb dL_law_303 (by decide) ?_
  refine lv_iadd hx hb dL_law_304 ?_
  refine va_sld hx hb hX hbl hbA hS j1 dL_law_305 ?_
  refine lv_aload_n hx hb dL_law_306 rfl (lv_at hl 3 rfl) ?_
  refine lv_iload_n hx hb dL_law_307 rfl (lv_at hl 0 rfl) ?_
  refine lv_iconst (v := 2) hx hb dL_law_308 (by decide) ?_
  refine lv_iadd hx hb dL_law_309 ?_
  refine va_sld hx hb hX hbl hbA hS j2 dL_law_310 ?_
  refine mk_contI (w := w_X cI cZ cS aX aD aDw aM aMw aJ aJh aSa aSt sA tx pw wl wn dk mm' hd sg sc' ++ w_R cI cZ cS aR aRd aRm aRw aRs aRt aRc aRl aRh aRu aRx aRy aRk of op cr wn fp fs dk mm wk sg tb cs lw hg us de sa ky) (w0 := w_R cI cZ cS aR aRd aRm aRw aRs aRt aRc aRl aRh aRu aRx aRy aRk of op cr wn fp fs dk mm wk sg tb cs lw hg us de sa ky) (wr := w_X cI cZ cS aX aD aDw aM aMw aJ aJh aSa aSt sA tx pw wl wn dk mm' hd sg sc') (w2 := w_X cI cZ cS aX aD aDw aM aMw aJ aJh aSa aSt sA tx pw wl wn dk mm' hd sg sc' ++ w_R cI cZ cS aR aRd aRm aRw aRs aRt aRc aRl aRh aRu aRx aRy aRk of op cr wn fp' fs' dk mm' wk sg tb cs lw hg us de' sa ky) hP hD hS hA [13, 14, 15, 16, 17, 18, 19, 20, 21, 22, 23, 24, 25] [0, 1, 2, 3, 4, 5, 6, 7, 8, 9, 10, 11, 12] rfl rfl (by decide) (by decide) [0, 1, 2, 3, 4, 5, 6, 7, 8, 9, 10, 11, 12, 13, 14, 15, 16, 17, 18, 19, 20, 21, 22, 23, 24, 25] rfl (by decide) (va_runV (As := [.int (xs (x3 + 1).toNatClampNeg), .int (xs (x3 + 2).toNatClampNeg)]) (rest := [.int r]) ⟨hx, hb, hml, hown, hts⟩ (c_R_deleteKey l dC dI cI cZ cS aR aRd aRm aRw aRs aRt aRc aRl aRh aRu aRx aRy aRk of op cr wn fp fs dk mm wk sg tb cs lw hg us de sa ky (xs (x3 + 1).toNatClampNeg) (xs (x3 + 2).toNatClampNeg) _ e2 H.size) (cwV 2 hts gL_law_X5_deleteKey rfl rfl rfl (by decide +kernel) ⟨Nat.le_of_ble_eq_true rfl, Nat.le_of_ble_eq_true rfl⟩) (mk_preV (w0 := w_R cI cZ cS aR aRd aRm aRw aRs aRt aRc aRl aRh aRu aRx aRy aRk of op cr wn fp fs dk mm wk sg tb cs lw hg us de sa ky) (ci := 5) (q0 := 0) hN hK (mk_pick hP [13, 14, 15, 16, 17, 18, 19, 20, 21, 22, 23, 24, 25] rfl) (hD.sub [13, 14, 15, 16, 17, 18, 19, 20, 21, 22, 23, 24, 25] (by decide) rfl) rfl rfl rfl) rfl rfl hl.1 rfl (lv_room (Nat.le_of_ble_eq_true rfl)) dL_law_311 ⟨Nat.le_of_ble_eq_true rfl, Nat.le_of_ble_eq_true rfl⟩) (fun H locs hP hD hS => ?_)
  exact lv_icmp_eq (tgt := 685) hx hb dL_law_314 (by decide) (fun _ => hk _ _ _ _ _ _ _ _ _ _ _ _ _ _ _ _ _ _ _ _ _ _ _ hR2 H locs ls hP hD hS hl) (fun c9 => absurd rfl c9)
set_option maxHeartbeats 4000000 in
set_option maxRecDepth 100000 in
/-- updateCol -/
theorem law_9 {p : Program} {l : Launch} {e : Env} {s : State} {m : MethodId} {below : List Frame} {meth : Method} {c : Code} {b L : Nat} {xs : Nat → Int32} {dC : Nat → ClassId} {dI : Nat → Nat → Nat} {cI cZ cS : ClassId} {aX aD aDw aM aMw aJ aJh aSa aSt : Nat} {sA : Nat → Nat} {aR aRd aRm aRw aRs aRt aRc aRl aRh aRu aRx aRy aRk : Nat} (C0 : lw_At p s m meth c b L xs) (hK : va_K (dC, dI) vwCl (tyz cI cZ cS) s) (hN : nx_ok s) {x3 : Int32} (j1 : vp_in (x3 + 1) L) (j2 : vp_in (x3 + 2) L) (j3 : vp_in (x3 + 3) L) (j4 : vp_in (x3 + 4) L) (hk : lw_K p l e s m below meth c b dC dI cI cZ cS aX aD aDw aM aMw aJ aJh aSa aSt sA aR aRd aRm aRw aRs aRt aRc aRl aRh aRu aRx aRy aRk 685 x3) : lw_K p l e s m below meth c b dC dI cI cZ cS aX aD aDw aM aMw aJ aJh aSa aSt sA aR aRd aRm aRw aRs aRt aRc aRl aRh aRu aRx aRy aRk 319 x3 := by
  intro tx pw wl wn dk mm hd sg sc4 of op cr fp fs wk tb cs lw hg us de sa ky hR H locs ls hP hD hS hl
  obtain ⟨hx, hb, hr, hml, hown, hts, hX, hbl, hlocks, hgv⟩ := id C0
  have hts : ∀ w ∈ wsL_law, w.before #[Value.ref b] s = true := fun w h => hts w (wsL_law_in w h)
  have hown : s.vm.findClass RL = some m.cls := hown
  have hA : ∀ q : Nat, s.heap.size ≤ q → lw_N s q := fun _ h => h
  have hbA : ¬ lw_N s b := Nat.not_le.mpr hbl
  obtain ⟨r, mm', sc', fp', fs', de', e1, e2, hR2⟩ := sim_update fp fs (xs (x3 + 1).toNatClampNeg) (xs (x3 + 2).toNatClampNeg) (xs (x3 + 3).toNatClampNeg) (xs (x3 + 4).toNatClampNeg) hR
  refine lv_aload_n hx hb dL_law_319 rfl (lv_at hl 2 rfl) ?_
  refine lv_aload_n hx hb dL_law_320 rfl (lv_at hl 3 rfl) ?_
  refine lv_iload_n hx hb dL_law_321 rfl (lv_at hl 0 rfl) ?_
  refine lv_iconst (v := 1) hx hb dL_law_322 (by decide) ?_
  refine lv_iadd hx hb dL_law_323 ?_
  refine va_sld hx hb hX hbl hbA hS j1 dL_law_324 ?_
  refine lv_aload_n hx hb dL_law_325 rfl (lv_at hl 3 rfl) ?_
  refine lv_iload_n hx hb dL_law_326 rfl (lv_at hl 0 rfl) ?_
  refine lv_iconst (v := 2) hx hb dL_law_327 (by decide) ?_
  refine lv_iadd hx hb dL_law_328 ?_
  refine va_sld hx hb hX hbl hbA hS j2 dL_law_329 ?_
  refine lv_aload_n hx hb dL_law_330 rfl (lv_at hl 3 rfl) ?_
  refine lv_iload_n hx hb dL_law_331 rfl (lv_at hl 0 rfl) ?_
  refine lv_iconst (v := 3) hx hb dL_law_332 (by decide) ?_
  refine lv_iadd hx hb dL_law_333 ?_
  refine va_sld hx hb hX hbl hbA hS j3 dL_law_334 ?_
  refine lv_aload_n hx hb dL_law_335 rfl (lv_at hl 3 rfl) ?_
  refine lv_iload_n hx hb dL_law_336 rfl (lv_at hl 0 rfl) ?_
  refine lv_iconst (v := 4) hx hb dL_law_337 (by decide) ?_
  refine lv_iadd hx hb dL_law_338 ?_
  refine va_sld hx hb hX hbl hbA hS j4 dL_law_339 ?_
  refine mk_contI (w := w_X cI cZ cS aX aD aDw aM aMw aJ aJh aSa aSt sA tx pw wl wn dk mm hd sg sc4 ++ w_R cI cZ cS aR aRd aRm aRw aRs aRt aRc aRl aRh aRu aRx aRy aRk of op cr wn fp fs dk mm wk sg tb cs lw hg us de sa ky) (w0 := w_X cI cZ cS aX aD aDw aM aMw aJ aJh aSa aSt sA tx pw wl wn dk mm hd sg sc4) (wr := w_R cI cZ cS aR aRd aRm aRw aRs aRt aRc aRl aRh aRu aRx aRy aRk of op cr wn fp fs dk mm wk sg tb cs lw hg us de sa ky) (w2 := w_X cI cZ cS aX aD aDw aM aMw aJ aJh aSa aSt sA tx pw wl wn dk mm' hd sg sc' ++ w_R cI cZ cS aR aRd aRm aRw aRs aRt aRc aRl aRh aRu aRx aRy aRk of op cr wn fp fs dk mm wk sg tb cs lw hg us de sa ky) hP hD hS hA [0, 1, 2, 3, 4, 5, 6, 7, 8, 9, 10, 11, 12] [13, 14, 15, 16, 17, 18, 19, 20, 21, 22, 23, 24, 25] rfl rfl (by decide) (by decide) [13, 14, 15, 16, 17, 18, 19, 20, 21, 22, 23, 24, 25, 0, 1, 2, 3, 4, 5, 6, 7, 8, 9, 10, 11, 12] rfl (by decide) (va_runV (As := [.int (xs (x3 + 1).toNatClampNeg), .int (xs (x3 + 2).toNatClampNeg), .int (xs (x3 + 3).toNatClampNeg), .int (xs (x3 + 4).toNatClampNeg)]) (rest := []) ⟨hx, hb, hml, hown, hts⟩ (c_X_updateCol l dC dI cI cZ cS aX aD aDw aM aMw aJ aJh aSa aSt sA tx pw wl wn dk mm hd sg sc4 (xs (x3 + 1).toNatClampNeg) (xs (x3 + 2).toNatClampNeg) (xs (x3 + 3).toNatClampNeg) (xs (x3 + 4).toNatClampNeg) _ e1 H.size) (cwV 4 hts gL_law_X4_updateCol rfl rfl rfl (by decide +kernel) ⟨Nat.le_of_ble_eq_true rfl, Nat.le_of_ble_eq_true rfl⟩) (mk_preV (w0 := w_X cI cZ cS aX aD aDw aM aMw aJ aJh aSa aSt sA tx pw wl wn dk mm hd sg sc4) (ci := 4) (q0 := 0) hN hK (mk_pick hP [0, 1, 2, 3, 4, 5, 6, 7, 8, 9, 10, 11, 12] rfl) (hD.sub [0, 1, 2, 3, 4, 5, 6, 7, 8, 9, 10, 11, 12] (by decide) rfl) rfl rfl rfl) rfl rfl hl.1 rfl (lv_room (Nat.le_of_ble_eq_true rfl)) dL_law_340 ⟨Nat.le_of_ble_eq_true rfl, Nat.le_of_ble_eq_true rfl⟩) (fun H locs hP hD hS => ?_)
  refine lv_aload_n hx hb dL_law_343 rfl (lv_at hl 1 rfl) ?_
  refine lv_aload_n hx hb dL_law_344 rfl (lv_at hl 3 rfl) ?_
  refine lv_iload_n hx hb dL_law_345 rfl (lv_at hl 0 rfl) ?_
  refine lv_iconst (v := 1) hx hb dL_law_346 (by decide) ?_
  refine lv_iadd hx hb dL_law_347 ?_
  refine va_sld hx hb hX hbl hbA hS j1 dL_law_348 ?_
  refine lv_aload_n hx hb dL_law_349 rfl (lv_at hl 3 rfl) ?_
  refine lv_iload_n hx hb dL_law_350 rfl (lv_at hl 0 rfl) ?_
  refine lv_iconst (v := 2) hx hb dL_law_351 (by decide) ?_
  refine lv_iadd hx hb dL_law_352 ?_
  refine va_sld hx hb hX hbl hbA hS j2 dL_law_353 ?_
  refine lv_aload_n hx hb dL_law_354 rfl (lv_at hl 3 rfl) ?_
  refine lv_iload_n hx hb dL_law_355 rfl (lv_at hl 0 rfl) ?_
  refine lv_iconst (v := 3) hx hb dL_law_356 (by decide) ?_
  refine lv_iadd hx hb dL_law_357 ?_
  refine va_sld hx hb hX hbl hbA hS j3 dL_law_358 ?_
  refine lv_aload_n hx hb dL_law_359 rfl (lv_at hl 3 rfl) ?_
  refine lv_iload_n hx hb dL_law_360 rfl (lv_at hl 0 rfl) ?_
  refine lv_iconst (v := 4) hx hb dL_law_361 (by decide) ?_
  refine lv_iadd hx hb dL_law_362 ?_
  refine va_sld hx hb hX hbl hbA hS j4 dL_law_363 ?_
  refine mk_contI (w := w_X cI cZ cS aX aD aDw aM aMw aJ aJh aSa aSt sA tx pw wl wn dk mm' hd sg sc' ++ w_R cI cZ cS aR aRd aRm aRw aRs aRt aRc aRl aRh aRu aRx aRy aRk of op cr wn fp fs dk mm wk sg tb cs lw hg us de sa ky) (w0 := w_R cI cZ cS aR aRd aRm aRw aRs aRt aRc aRl aRh aRu aRx aRy aRk of op cr wn fp fs dk mm wk sg tb cs lw hg us de sa ky) (wr := w_X cI cZ cS aX aD aDw aM aMw aJ aJh aSa aSt sA tx pw wl wn dk mm' hd sg sc') (w2 := w_X cI cZ cS aX aD aDw aM aMw aJ aJh aSa aSt sA tx pw wl wn dk mm' hd sg sc' ++ w_R cI cZ cS aR aRd aRm aRw aRs aRt aRc aRl aRh aRu aRx aRy aRk of op cr wn fp' fs' dk mm' wk sg tb cs lw hg us de' sa ky) hP hD hS hA [13, 14, 15, 16, 17, 18, 19, 20, 21, 22, 23, 24, 25] [0, 1, 2, 3, 4, 5, 6, 7, 8, 9, 10, 11, 12] rfl rfl (by decide) (by decide) [0, 1, 2, 3, 4, 5, 6, 7, 8, 9, 10, 11, 12, 13, 14, 15, 16, 17, 18, 19, 20, 21, 22, 23, 24, 25] rfl (by decide) (va_runV (As := [.int (xs (x3 + 1).toNatClampNeg), .int (xs (x3 + 2).toNatClampNeg), .int (xs (x3 + 3).toNatClampNeg), .int (xs (x3 + 4).toNatClampNeg)]) (rest := [.int r]) ⟨hx, hb, hml, hown, hts⟩ (c_R_updateCol l dC dI cI cZ cS aR aRd aRm aRw aRs aRt aRc aRl aRh aRu aRx aRy aRk of op cr wn fp fs dk mm wk sg tb cs lw hg us de sa ky (xs (x3 + 1).toNatClampNeg) (xs (x3 + 2).toNatClampNeg) (xs (x3 + 3).toNatClampNeg) (xs (x3 + 4).toNatClampNeg) _ e2 H.size) (cwV 4 hts gL_law_X5_updateCol rfl rfl rfl (by decide +kernel) ⟨Nat.le_of_ble_eq_true rfl, Nat.le_of_ble_eq_true rfl⟩) (mk_preV (w0 := w_R cI cZ cS aR aRd aRm aRw aRs aRt aRc aRl aRh aRu aRx aRy aRk of op cr wn fp fs dk mm wk sg tb cs lw hg us de sa ky) (ci := 5) (q0 := 0) hN hK (mk_pick hP [13, 14, 15, 16, 17, 18, 19, 20, 21, 22, 23, 24, 25] rfl) (hD.sub [13, 14, 15, 16, 17, 18, 19, 20, 21, 22, 23, 24, 25] (by decide) rfl) rfl rfl rfl) rfl rfl hl.1 rfl (lv_room (Nat.le_of_ble_eq_true rfl)) dL_law_364 ⟨Nat.le_of_ble_eq_true rfl, Nat.le_of_ble_eq_true rfl⟩) (fun H locs hP hD hS => ?_)
  exact lv_icmp_eq (tgt := 685) hx hb dL_law_367 (by decide) (fun _ => hk _ _ _ _ _ _ _ _ _ _ _ _ _ _ _ _ _ _ _ _ _ _ _ hR2 H locs ls hP hD hS hl) (fun c9 => absurd rfl c9)
set_option maxHeartbeats 4000000 in
set_option maxRecDepth 100000 in
/-- lookup -/
theorem law_10 {p : Program} {l : Launch} {e : Env} {s : State} {m : MethodId} {below : List Frame} {meth : Method} {c : Code} {b L : Nat} {xs : Nat → Int32} {dC : Nat → ClassId} {dI : Nat → Nat → Nat} {cI cZ cS : ClassId} {aX aD aDw aM aMw aJ aJh aSa aSt : Nat} {sA : Nat → Nat} {aR aRd aRm aRw aRs aRt aRc aRl aRh aRu aRx aRy aRk : Nat} (C0 : lw_At p s m meth c b L xs) (hK : va_K (dC, dI) vwCl (tyz cI cZ cS) s) (hN : nx_ok s) {x3 : Int32} (j1 : vp_in (x3 + 1) L) (j2 : vp_in (x3 + 2) L) (j3 : vp_in (x3 + 3) L) (j4 : vp_in (x3 + 4) L) (hk : lw_K p l e s m below meth c b dC dI cI cZ cS aX aD aDw aM aMw aJ aJh aSa aSt sA aR aRd aRm aRw aRs aRt aRc aRl aRh aRu aRx aRy aRk 685 x3) : lw_K p l e s m below meth c b dC dI cI cZ cS aX aD aDw aM aMw aJ aJh aSa aSt sA aR aRd aRm aRw aRs aRt aRc aRl aRh aRu aRx aRy aRk 372 x3 := by
  intro tx pw wl wn dk mm hd sg sc4 of op cr fp fs wk tb cs lw hg us de sa ky hR H locs ls hP hD hS hl
  obtain ⟨hx, hb, hr, hml, hown, hts, hX, hbl, hlocks, hgv⟩ := id C0
  have hts : ∀ w ∈ wsL_law, w.before #[Value.ref b] s = true := fun w h => hts w (wsL_law_in w h)
  have hown : s.vm.findClass RL = some m.cls := hown
  have hA : ∀ q : Nat, s.heap.size ≤ q → lw_N s q := fun _ h => h
  have hbA : ¬ lw_N s b := Nat.not_le.mpr hbl
  obtain ⟨r, fp', fs', e1, e2⟩ := sim_lookup fp fs (xs (x3 + 1).toNatClampNeg) (xs (x3 + 2).toNatClampNeg) (xs (x3 + 3).toNatClampNeg) hR
  refine lv_aload_n hx hb dL_law_372 rfl (lv_at hl 2 rfl) ?_
  refine lv_aload_n hx hb dL_law_373 rfl (lv_at hl 3 rfl) ?_
  refine lv_iload_n hx hb dL_law_374 rfl (lv_at hl 0 rfl) ?_
  refine lv_iconst (v := 1) hx hb dL_law_375 (by decide) ?_
  refine lv_iadd hx hb dL_law_376 ?_
  refine va_sld hx hb hX hbl hbA hS j1 dL_law_377 ?_
  refine lv_aload_n hx hb dL_law_378 rfl (lv_at hl 3 rfl) ?_
  refine lv_iload_n hx hb dL_law_379 rfl (lv_at hl 0 rfl) ?_
  refine lv_iconst (v := 2) hx hb dL_law_380 (by decide) ?_
  refine lv_iadd hx hb dL_law_381 ?_
  refine va_sld hx hb hX hbl hbA hS j2 dL_law_382 ?_
  refine lv_aload_n hx hb dL_law_383 rfl (lv_at hl 3 rfl) ?_
  refine lv_iload_n hx hb dL_law_384 rfl (lv_at hl 0 rfl) ?_
  refine lv_iconst (v := 3) hx hb dL_law_385 (by decide) ?_
  refine lv_iadd hx hb dL_law_386 ?_
  refine va_sld hx hb hX hbl hbA hS j3 dL_law_387 ?_
  refine mk_contR (w := w_X cI cZ cS aX aD aDw aM aMw aJ aJh aSa aSt sA tx pw wl wn dk mm hd sg sc4 ++ w_R cI cZ cS aR aRd aRm aRw aRs aRt aRc aRl aRh aRu aRx aRy aRk of op cr wn fp fs dk mm wk sg tb cs lw hg us de sa ky) (w0 := w_X cI cZ cS aX aD aDw aM aMw aJ aJh aSa aSt sA tx pw wl wn dk mm hd sg sc4) (wr := w_R cI cZ cS aR aRd aRm aRw aRs aRt aRc aRl aRh aRu aRx aRy aRk of op cr wn fp fs dk mm wk sg tb cs lw hg us de sa ky) hP hD hS hA [0, 1, 2, 3, 4, 5, 6, 7, 8, 9, 10, 11, 12] [13, 14, 15, 16, 17, 18, 19, 20, 21, 22, 23, 24, 25] rfl rfl (by decide) (by decide) [13, 14, 15, 16, 17, 18, 19, 20, 21, 22, 23, 24, 25, 0, 1, 2, 3, 4, 5, 6, 7, 8, 9, 10, 11, 12] rfl (by decide) (va_runV (As := [.int (xs (x3 + 1).toNatClampNeg), .int (xs (x3 + 2).toNatClampNeg), .int (xs (x3 + 3).toNatClampNeg)]) (rest := []) ⟨hx, hb, hml, hown, hts⟩ (c_X_lookup l dC dI cI cZ cS aX aD aDw aM aMw aJ aJh aSa aSt sA tx pw wl wn dk mm hd sg sc4 (xs (x3 + 1).toNatClampNeg) (xs (x3 + 2).toNatClampNeg) (xs (x3 + 3).toNatClampNeg) _ e1 H.size) (cwV 3 hts gL_law_X4_lookup rfl rfl rfl (by decide +kernel) ⟨Nat.le_of_ble_eq_true rfl, Nat.le_of_ble_eq_true rfl⟩) (mk_preV (w0 := w_X cI cZ cS aX aD aDw aM aMw aJ aJh aSa aSt sA tx pw wl wn dk mm hd sg sc4) (ci := 4) (q0 := 0) hN hK (mk_pick hP [0, 1, 2, 3, 4, 5, 6, 7, 8, 9, 10, 11, 12] rfl) (hD.sub [0, 1, 2, 3, 4, 5, 6, 7, 8, 9, 10, 11, 12] (by decide) rfl) rfl rfl rfl) rfl rfl hl.1 rfl (lv_room (Nat.le_of_ble_eq_true rfl)) dL_law_388 ⟨Nat.le_of_ble_eq_true rfl, Nat.le_of_ble_eq_true rfl⟩) (fun H locs hP hD hS => ?_)
  refine lv_aload_n hx hb dL_law_391 rfl (lv_at hl 1 rfl) ?_
  refine lv_aload_n hx hb dL_law_392 rfl (lv_at hl 3 rfl) ?_
  refine lv_iload_n hx hb dL_law_393 rfl (lv_at hl 0 rfl) ?_
  refine lv_iconst (v := 1) hx hb dL_law_394 (by decide) ?_
  refine lv_iadd hx hb dL_law_395 ?_
  refine va_sld hx hb hX hbl hbA hS j1 dL_law_396 ?_
  refine lv_aload_n hx hb dL_law_397 rfl (lv_at hl 3 rfl) ?_
  refine lv_iload_n hx hb dL_law_398 rfl (lv_at hl 0 rfl) ?_
  refine lv_iconst (v := 2) hx hb dL_law_399 (by decide) ?_
  refine lv_iadd hx hb dL_law_400 ?_
  refine va_sld hx hb hX hbl hbA hS j2 dL_law_401 ?_
  refine lv_aload_n hx hb dL_law_402 rfl (lv_at hl 3 rfl) ?_
  refine lv_iload_n hx hb dL_law_403 rfl (lv_at hl 0 rfl) ?_
  refine lv_iconst (v := 3) hx hb dL_law_404 (by decide) ?_
  refine lv_iadd hx hb dL_law_405 ?_
  refine va_sld hx hb hX hbl hbA hS j3 dL_law_406 ?_
  refine mk_contI (w := w_X cI cZ cS aX aD aDw aM aMw aJ aJh aSa aSt sA tx pw wl wn dk mm hd sg sc4 ++ w_R cI cZ cS aR aRd aRm aRw aRs aRt aRc aRl aRh aRu aRx aRy aRk of op cr wn fp fs dk mm wk sg tb cs lw hg us de sa ky) (w0 := w_R cI cZ cS aR aRd aRm aRw aRs aRt aRc aRl aRh aRu aRx aRy aRk of op cr wn fp fs dk mm wk sg tb cs lw hg us de sa ky) (wr := w_X cI cZ cS aX aD aDw aM aMw aJ aJh aSa aSt sA tx pw wl wn dk mm hd sg sc4) (w2 := w_X cI cZ cS aX aD aDw aM aMw aJ aJh aSa aSt sA tx pw wl wn dk mm hd sg sc4 ++ w_R cI cZ cS aR aRd aRm aRw aRs aRt aRc aRl aRh aRu aRx aRy aRk of op cr wn fp' fs' dk mm wk sg tb cs lw hg us de sa ky) hP hD hS hA [13, 14, 15, 16, 17, 18, 19, 20, 21, 22, 23, 24, 25] [0, 1, 2, 3, 4, 5, 6, 7, 8, 9, 10, 11, 12] rfl rfl (by decide) (by decide) [0, 1, 2, 3, 4, 5, 6, 7, 8, 9, 10, 11, 12, 13, 14, 15, 16, 17, 18, 19, 20, 21, 22, 23, 24, 25] rfl (by decide) (va_runV (As := [.int (xs (x3 + 1).toNatClampNeg), .int (xs (x3 + 2).toNatClampNeg), .int (xs (x3 + 3).toNatClampNeg)]) (rest := [.int r]) ⟨hx, hb, hml, hown, hts⟩ (c_R_lookup l dC dI cI cZ cS aR aRd aRm aRw aRs aRt aRc aRl aRh aRu aRx aRy aRk of op cr wn fp fs dk mm wk sg tb cs lw hg us de sa ky (xs (x3 + 1).toNatClampNeg) (xs (x3 + 2).toNatClampNeg) (xs (x3 + 3).toNatClampNeg) _ e2 H.size) (cwV 3 hts gL_law_X5_lookup rfl rfl rfl (by decide +kernel) ⟨Nat.le_of_ble_eq_true rfl, Nat.le_of_ble_eq_true rfl⟩) (mk_preV (w0 := w_R cI cZ cS aR aRd aRm aRw aRs aRt aRc aRl aRh aRu aRx aRy aRk of op cr wn fp fs dk mm wk sg tb cs lw hg us de sa ky) (ci := 5) (q0 := 0) hN hK (mk_pick hP [13, 14, 15, 16, 17, 18, 19, 20, 21, 22, 23, 24, 25] rfl) (hD.sub [13, 14, 15, 16, 17, 18, 19, 20, 21, 22, 23, 24, 25] (by decide) rfl) rfl rfl rfl) rfl rfl hl.1 rfl (lv_room (Nat.le_of_ble_eq_true rfl)) dL_law_407 ⟨Nat.le_of_ble_eq_true rfl, Nat.le_of_ble_eq_true rfl⟩) (fun H locs hP hD hS => ?_)
  exact lv_icmp_eq (tgt := 685) hx hb dL_law_410 (by decide) (fun _ => hk _ _ _ _ _ _ _ _ _ _ _ _ _ _ _ _ _ _ _ _ _ _ _ hR H locs ls hP hD hS hl) (fun c9 => absurd rfl c9)
