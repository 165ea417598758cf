theorem law_sub {L i : Nat} (hL : L ≤ 2560) (hi : i ≤ 2560) : (nI L - 5 < nI i) ↔ (L < i + 5) := by
  have e5 : (5 : Int32) = nI 5 := rfl
  rw [Int32.lt_iff_toInt_lt, Int32.toInt_sub, nI_toInt (by omega), nI_toInt (by omega), e5, nI_toInt (by omega), Int.bmod_def]
  omega
set_option maxHeartbeats 4000000 in
set_option maxRecDepth 100000 in
/-- the law's loop -/
theorem law_loop {p : Program} {l : Launch} {e : Env} {s : State} {m : MethodId} {below : List Frame} {meth : Method} {c : Code} {b L : Nat} {xs : Nat → Int32} {dC : Nat → ClassId} {dI : Nat → Nat → Nat} {cI cZ cS : ClassId} {aX aD aDw aM aMw aJ aJh aSa aSt : Nat} {sA : Nat → Nat} {aR aRd aRm aRw aRs aRt aRc aRl aRh aRu aRx aRy aRk : Nat} (hL : L ≤ 2560) (C0 : lw_At p s m meth c b L xs) (hK : va_K (dC, dI) vwCl (tyz cI cZ cS) s) (hN : nx_ok s) : ∀ (n i : Nat), i ≤ 2560 → L < i + 5 * n + 5 → lw_K p l e s m below meth c b dC dI cI cZ cS aX aD aDw aM aMw aJ aJh aSa aSt sA aR aRd aRm aRw aRs aRt aRc aRl aRh aRu aRx aRy aRk 18 (nI i) := by
  intro n
  induction n with
  | zero =>
    intro i hi hn
    intro tx pw wl wn dk mm hd sg sc4 of op cr fp fs wk tb cs lw hg us de sa ky hR H locs ls hP hD hS hl
    obtain ⟨hx, hb, hr, hml, hown, hts, hX, hbl, hlocks, hgv⟩ := id C0
    have hbA : ¬ lw_N s b := Nat.not_le.mpr hbl
    refine lv_iload_n hx hb dL_law_18 rfl (lv_at hl 0 rfl) ?_
    refine lv_aload_n hx hb dL_law_19 rfl (lv_at hl 3 rfl) ?_
    refine va_slen hx hb hX hbl hbA hS dL_law_20 ?_
    refine lv_iconst (v := 5) hx hb dL_law_21 (by decide) ?_
    refine lv_isub hx hb dL_law_22 ?_
    refine lv_icmp_gt (tgt := 691) hx hb dL_law_23 (by decide) (fun c9 => ?_) (fun c9 => ?_)
    · refine lv_iconst (v := 1) hx hb dL_law_691 (by decide) ?_
      refine va_forget hS.2.2 ?_
      refine W.widen (k := 600000) (n := 7302250) (by omega) (by omega) ?_
      exact lw_ret hx hb hr hlocks dL_law_692
    · exact absurd ((law_sub hL hi).mpr (by omega)) c9
  | succ n ih =>
    intro i hi hn
    intro tx pw wl wn dk mm hd sg sc4 of op cr fp fs wk tb cs lw hg us de sa ky hR H locs ls hP hD hS hl
    obtain ⟨hx, hb, hr, hml, hown, hts, hX, hbl, hlocks, hgv⟩ := id C0
    have hbA : ¬ lw_N s b := Nat.not_le.mpr hbl
    refine lv_iload_n hx hb dL_law_18 rfl (lv_at hl 0 rfl) ?_
    refine lv_aload_n hx hb dL_law_19 rfl (lv_at hl 3 rfl) ?_
    refine va_slen hx hb hX hbl hbA hS dL_law_20 ?_
    refine lv_iconst (v := 5) hx hb dL_law_21 (by decide) ?_
    refine lv_isub hx hb dL_law_22 ?_
    refine lv_icmp_gt (tgt := 691) hx hb dL_law_23 (by decide) (fun c9 => ?_) (fun c9 => ?_)
    · refine lv_iconst (v := 1) hx hb dL_law_691 (by decide) ?_
      refine va_forget hS.2.2 ?_
      refine W.widen (k := 600000) (n := 7302250) (by omega) (by omega) ?_
      exact lw_ret hx hb hr hlocks dL_law_692
    · have hlt : i + 5 ≤ L := by
        have := mt (law_sub hL hi).mpr c9
        omega
      have j0 : vp_in (nI i) L := vp_in_nI (by omega) (by omega)
      have j1 : vp_in (nI i + 1) L := by rw [show nI i + 1 = nI (i + 1) from nI_add i 1]; exact vp_in_nI (by omega) (by omega)
      have j2 : vp_in (nI i + 2) L := by rw [show nI i + 2 = nI (i + 2) from nI_add i 2]; exact vp_in_nI (by omega) (by omega)
      have j3 : vp_in (nI i + 3) L := by rw [show nI i + 3 = nI (i + 3) from nI_add i 3]; exact vp_in_nI (by omega) (by omega)
      have j4 : vp_in (nI i + 4) L := by rw [show nI i + 4 = nI (i + 4) from nI_add i 4]; exact vp_in_nI (by omega) (by omega)
      have hk : lw_K p l e s m below meth c b dC dI cI cZ cS aX aD aDw aM aMw aJ aJh aSa aSt sA aR aRd aRm aRw aRs aRt aRc aRl aRh aRu aRx aRy aRk 685 (nI i) := by
        intro tx pw wl wn dk mm hd sg sc4 of op cr fp fs wk tb cs lw hg us de sa ky hR H locs ls hP hD hS hl
        have e5 : nI (i + 5) = nI i + 5 := (nI_add i 5).symm
        refine lv_iinc (v := nI (i + 5)) (lv' := [(3, .int (nI (i + 5))), (2, .ref aR), (1, .ref aX), (0, .ref b)]) hx hb dL_law_685 hl (k := 0) rfl (by rw [e5]; rfl) (by decide) rfl (fun ls hl => ?_)
        refine lv_goto (tgt := 18) hx hb dL_law_688 (by decide) ?_
        exact ih (i + 5) (by omega) (by omega) tx pw wl wn dk mm hd sg sc4 of op cr fp fs wk tb cs lw hg us de sa ky hR H locs ls hP hD hS hl
      refine lv_aload_n hx hb dL_law_26 rfl (lv_at hl 3 rfl) ?_
      refine lv_iload_n hx hb dL_law_27 rfl (lv_at hl 0 rfl) ?_
      refine va_sld hx hb hX hbl hbA hS j0 dL_law_28 ?_
      refine lv_bipush (v := 31) hx hb dL_law_29 (by decide) ?_
      refine lv_iand hx hb dL_law_31 ?_
      refine lv_topi (fun v ev => ?_)
      by_cases hv : v.toInt < 0 ∨ 20 < v.toInt
      · refine lv_tableOut (tgt := 685) hx hb dL_law_32 hv (by decide) ?_
        exact hk tx pw wl wn dk mm hd sg sc4 of op cr fp fs wk tb cs lw hg us de sa ky hR H locs ls hP hD hS hl
      obtain ⟨k, hk20, rfl⟩ : ∃ k : Nat, k ≤ 20 ∧ v = nI k := ⟨v.toInt.toNat, by omega, Int32.toInt_inj.mp (by rw [nI_toInt (by omega)]; omega)⟩
      clear ev
      rcases (show k = 0 ∨ k = 1 ∨ k = 2 ∨ k = 3 ∨ k = 4 ∨ k = 5 ∨ k = 6 ∨ k = 7 ∨ k = 8 ∨ k = 9 ∨ k = 10 ∨ k = 11 ∨ k = 12 ∨ k = 13 ∨ k = 14 ∨ k = 15 ∨ k = 16 ∨ k = 17 ∨ k = 18 ∨ k = 19 ∨ k = 20 by omega) with rfl | rfl | rfl | rfl | rfl | rfl | rfl | rfl | rfl | rfl | rfl | rfl | rfl | rfl | rfl | rfl | rfl | rfl | rfl | rfl | rfl
      · refine lv_tableIn (off := 100) (tgt := 132) hx hb dL_law_32 (by decide) (by decide) (by decide) (by decide) ?_
        exact law_0 C0 hK hN j1 j2 j3 j4 hk _ _ _ _ _ _ _ _ _ _ _ _ _ _ _ _ _ _ _ _ _ _ _ hR H locs ls hP hD hS hl
      · refine lv_tableIn (off := 113) (tgt := 145) hx hb dL_law_32 (by decide) (by decide) (by decide) (by decide) ?_
        exact law_1 C0 hK hN j1 j2 j3 j4 hk _ _ _ _ _ _ _ _ _ _ _ _ _ _ _ _ _ _ _ _ _ _ _ hR H locs ls hP hD hS hl
      · refine lv_tableIn (off := 136) (tgt := 168) hx hb dL_law_32 (by decide) (by decide) (by decide) (by decide) ?_
        exact law_2 C0 hK hN j1 j2 j3 j4 hk _ _ _ _ _ _ _ _ _ _ _ _ _ _ _ _ _ _ _ _ _ _ _ hR H locs ls hP hD hS hl
      · refine lv_tableIn (off := 159) (tgt := 191) hx hb dL_law_32 (by decide) (by decide) (by decide) (by decide) ?_
        exact law_3 C0 hK hN j1 j2 j3 j4 hk _ _ _ _ _ _ _ _ _ _ _ _ _ _ _ _ _ _ _ _ _ _ _ hR H locs ls hP hD hS hl
      · refine lv_tableIn (off := 172) (tgt := 204) hx hb dL_law_32 (by decide) (by decide) (by decide) (by decide) ?_
        exact law_4 C0 hK hN j1 j2 j3 j4 hk _ _ _ _ _ _ _ _ _ _ _ _ _ _ _ _ _ _ _ _ _ _ _ hR H locs ls hP hD hS hl
      · refine lv_tableIn (off := 185) (tgt := 217) hx hb dL_law_32 (by decide) (by decide) (by decide) (by decide) ?_
        exact law_5 C0 hK hN j1 j2 j3 j4 hk _ _ _ _ _ _ _ _ _ _ _ _ _ _ _ _ _ _ _ _ _ _ _ hR H locs ls hP hD hS hl
      · refine lv_tableIn (off := 198) (tgt := 230) hx hb dL_law_32 (by decide) (by decide) (by decide) (by decide) ?_
        exact law_6 C0 hK hN j1 j2 j3 j4 hk _ _ _ _ _ _ _ _ _ _ _ _ _ _ _ _ _ _ _ _ _ _ _ hR H locs ls hP hD hS hl
      · refine lv_tableIn (off := 231) (tgt := 263) hx hb dL_law_32 (by decide) (by decide) (by decide) (by decide) ?_
        exact law_7 C0 hK hN j1 j2 j3 j4 hk _ _ _ _ _ _ _ _ _ _ _ _ _ _ _ _ _ _ _ _ _ _ _ hR H locs ls hP hD hS hl
      · refine lv_tableIn (off := 254) (tgt := 286) hx hb dL_law_32 (by decide) (by decide) (by decide) (by decide) ?_
        exact law_8 C0 hK hN j1 j2 j3 j4 hk _ _ _ _ _ _ _ _ _ _ _ _ _ _ _ _ _ _ _ _ _ _ _ hR H locs ls hP hD hS hl
      · refine lv_tableIn (off := 287) (tgt := 319) hx hb dL_law_32 (by decide) (by decide) (by decide) (by decide) ?_
        exact law_9 C0 hK hN j1 j2 j3 j4 hk _ _ _ _ _ _ _ _ _ _ _ _ _ _ _ _ _ _ _ _ _ _ _ hR H locs ls hP hD hS hl
      · refine lv_tableIn (off := 340) (tgt := 372) hx hb dL_law_32 (by decide) (by decide) (by decide) (by decide) ?_
        exact law_10 C0 hK hN j1 j2 j3 j4 hk _ _ _ _ _ _ _ _ _ _ _ _ _ _ _ _ _ _ _ _ _ _ _ hR H locs ls hP hD hS hl
      · refine lv_tableIn (off := 383) (tgt := 415) hx hb dL_law_32 (by decide) (by decide) (by decide) (by decide) ?_
        exact law_11 C0 hK hN j1 j2 j3 j4 hk _ _ _ _ _ _ _ _ _ _ _ _ _ _ _ _ _ _ _ _ _ _ _ hR H locs ls hP hD hS hl
      · refine lv_tableIn (off := 416) (tgt := 448) hx hb dL_law_32 (by decide) (by decide) (by decide) (by decide) ?_
        exact law_12 C0 hK hN j1 j2 j3 j4 hk _ _ _ _ _ _ _ _ _ _ _ _ _ _ _ _ _ _ _ _ _ _ _ hR H locs ls hP hD hS hl
      · refine lv_tableIn (off := 439) (tgt := 471) hx hb dL_law_32 (by decide) (by decide) (by decide) (by decide) ?_
        exact law_13 C0 hK hN j1 j2 j3 j4 hk _ _ _ _ _ _ _ _ _ _ _ _ _ _ _ _ _ _ _ _ _ _ _ hR H locs ls hP hD hS hl
      · refine lv_tableIn (off := 492) (tgt := 524) hx hb dL_law_32 (by decide) (by decide) (by decide) (by decide) ?_
        exact law_14 C0 hK hN j1 j2 j3 j4 hk _ _ _ _ _ _ _ _ _ _ _ _ _ _ _ _ _ _ _ _ _ _ _ hR H locs ls hP hD hS hl
      · refine lv_tableIn (off := 515) (tgt := 547) hx hb dL_law_32 (by decide) (by decide) (by decide) (by decide) ?_
        exact law_15 C0 hK hN j1 j2 j3 j4 hk _ _ _ _ _ _ _ _ _ _ _ _ _ _ _ _ _ _ _ _ _ _ _ hR H locs ls hP hD hS hl
      · refine lv_tableIn (off := 548) (tgt := 580) hx hb dL_law_32 (by decide) (by decide) (by decide) (by decide) ?_
        exact law_16 C0 hK hN j1 j2 j3 j4 hk _ _ _ _ _ _ _ _ _ _ _ _ _ _ _ _ _ _ _ _ _ _ _ hR H locs ls hP hD hS hl
      · refine lv_tableIn (off := 571) (tgt := 603) hx hb dL_law_32 (by decide) (by decide) (by decide) (by decide) ?_
        exact law_17 C0 hK hN j1 j2 j3 j4 hk _ _ _ _ _ _ _ _ _ _ _ _ _ _ _ _ _ _ _ _ _ _ _ hR H locs ls hP hD hS hl
      · refine lv_tableIn (off := 594) (tgt := 626) hx hb dL_law_32 (by decide) (by decide) (by decide) (by decide) ?_
        exact law_18 C0 hK hN j1 j2 j3 j4 hk _ _ _ _ _ _ _ _ _ _ _ _ _ _ _ _ _ _ _ _ _ _ _ hR H locs ls hP hD hS hl
      · refine lv_tableIn (off := 607) (tgt := 639) hx hb dL_law_32 (by decide) (by decide) (by decide) (by decide) ?_
        exact law_19 C0 hK hN j1 j2 j3 j4 hk _ _ _ _ _ _ _ _ _ _ _ _ _ _ _ _ _ _ _ _ _ _ _ hR H locs ls hP hD hS hl
      · refine lv_tableIn (off := 640) (tgt := 672) hx hb dL_law_32 (by decide) (by decide) (by decide) (by decide) ?_
        exact law_20 C0 hK hN j1 j2 j3 j4 hk _ _ _ _ _ _ _ _ _ _ _ _ _ _ _ _ _ _ _ _ _ _ _ hR H locs ls hP hD hS hl
