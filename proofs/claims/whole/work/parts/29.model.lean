/- Model.openScan(IIII)I -/
set_option maxRecDepth 20000 in
theorem mm_R_openScan_0 : Cond.fieldLink RX5 38 "JournaledTablesModel" "used" "[Z" ∈ wsX5_openScan := by decide +kernel
set_option maxRecDepth 20000 in
theorem iw_R_openScan_Model : ∀ w ∈ u_ws RX5 TX5 18, w ∈ wsX5_openScan := by decide +kernel
set_option maxRecDepth 20000 in
theorem mm_R_openScan_2 : Cond.fieldLink RX5 42 "JournaledTablesModel" "dead" "[Z" ∈ wsX5_openScan := by decide +kernel
set_option maxRecDepth 20000 in
theorem mm_R_openScan_3 : Cond.fieldLink RX5 26 "JournaledTablesModel" "tables" "[I" ∈ wsX5_openScan := by decide +kernel
set_option maxRecDepth 20000 in
theorem mm_R_openScan_4 : Cond.fieldLink RX5 29 "JournaledTablesModel" "columns" "[I" ∈ wsX5_openScan := by decide +kernel
set_option maxRecDepth 20000 in
theorem mm_R_openScan_5 : Cond.fieldLink RX5 32 "JournaledTablesModel" "lows" "[I" ∈ wsX5_openScan := by decide +kernel
set_option maxRecDepth 20000 in
theorem mm_R_openScan_6 : Cond.fieldLink RX5 35 "JournaledTablesModel" "highs" "[I" ∈ wsX5_openScan := by decide +kernel
set_option maxRecDepth 20000 in
theorem mm_R_openScan_7 : Cond.fieldLink RX5 45 "JournaledTablesModel" "states" "[I" ∈ wsX5_openScan := by decide +kernel
set_option maxRecDepth 20000 in
theorem mm_R_openScan_8 : Cond.fieldLink RX5 51 "JournaledTablesModel" "off" "Z" ∈ wsX5_openScan := by decide +kernel
set_option maxRecDepth 20000 in
theorem mm_R_openScan_9 : Cond.fieldLink RX5 13 "JournaledTablesModel" "memory" "[I" ∈ wsX5_openScan := by decide +kernel
set_option maxHeartbeats 4000000 in
set_option maxRecDepth 100000 in
theorem b_R_openScan_62 {p : Program} {l : Launch} {e : Env} {s : State} {m : MethodId} {below : List Frame} {meth : Method} {c : Code} {A : Nat → Prop} {dC : Nat → ClassId} {dI : Nat → Nat → Nat} {cI cZ cS : ClassId} {aR aRd aRm aRw aRs aRt aRc aRl aRh aRu aRx aRy aRk : Nat} {of : Int32} {op : Int32} {cr : Int32} {wn : Int32} {fp : Int32} {fs : Int32} {dk : Nat → Int32} {mm : Nat → Int32} {wk : Nat → Int32} {sg : Nat → Int32} {ky : Nat → Int32} {a1 : Int32} {a2 : Int32} {a3 : Int32} {a4 : Int32} (E : mk_En p s m meth c cX5_openScan 6 (some .int) ([.ref aR, .int a1, .int a2, .int a3, .int a4] : List Value).toArray wsX5_openScan yX5_openScan.cls) (hA : ∀ q : Nat, s.heap.size ≤ q → A q) (hK : va_K (dC, dI) vwCl (tyz cI cZ cS) s) (R : Int32 × (Nat → Int32) × (Nat → Int32) × (Nat → Int32) × (Nat → Int32) × (Nat → Int32) × (Nat → Int32) × (Nat → Int32)) (x1 : Int32) (x2 : Int32) (x3 : Int32) (x4 : Int32) (x5 : Int32) (tb : Nat → Int32) (cs : Nat → Int32) (lw : Nat → Int32) (hg : Nat → Int32) (us : Nat → Int32) (de : Nat → Int32) (sa : Nat → Int32) (h : p_R_openScan_62 of mm x1 x2 x3 x4 x5 tb cs lw hg us de sa = some R) : ∀ (H : Heap) (locs : List Loc) (ls : Array Slot), va_P (dC, dI) vwCl (w_R cI cZ cS aR aRd aRm aRw aRs aRt aRc aRl aRh aRu aRx aRy aRk of op cr wn fp fs dk mm wk sg tb cs lw hg us de sa ky) H → va_D A (w_R cI cZ cS aR aRd aRm aRw aRs aRt aRc aRl aRh aRu aRx aRy aRk of op cr wn fp fs dk mm wk sg tb cs lw hg us de sa ky) → va_S A s.heap H locs → lv_has ls 6 [(0, .ref aR), (1, .int x1), (2, .int x2), (3, .int x3), (4, .int x4), (5, .int x5)] → W p l e ({ frames := 1, cells := 0, slots := 0, locals := 21 } : Room) s m ([.ref aR, .int a1, .int a2, .int a3, .int a4] : List Value).toArray below meth c H locs 0 0 (MQ below (mk_QI (dC, dI) vwCl (tyz cI cZ cS) A (fun u : (Nat → Int32) × (Nat → Int32) × (Nat → Int32) × (Nat → Int32) × (Nat → Int32) × (Nat → Int32) × (Nat → Int32) => w_R cI cZ cS aR aRd aRm aRw aRs aRt aRc aRl aRh aRu aRx aRy aRk of op cr wn fp fs dk mm wk sg u.1 u.2.1 u.2.2.1 u.2.2.2.1 u.2.2.2.2.1 u.2.2.2.2.2.1 u.2.2.2.2.2.2 ky) R) ([.ref aR, .int a1, .int a2, .int a3, .int a4] : List Value).toArray s 0 0 A) (F0 m 62 ls []) := by
  intro H locs ls hP hD hS hl
  obtain ⟨⟨hx, hb, hml, hown, hts⟩, hrt, hlk, hN⟩ := id E
  have hown : s.vm.findClass RX5 = some m.cls := hown
  unfold p_R_openScan_62 at h
  refine lv_iload hx hb dX5_openScan_62 (lv_at hl 5 rfl) ?_
  refine lv_iconst (v := 4) hx hb dX5_openScan_64 (by decide) ?_
  refine lv_icmp_ne (tgt := 71) hx hb dX5_openScan_65 (by decide) (fun c_1 => ?_) (fun c_1 => ?_)
  · replace h := (kp_if h).2 c_1
    refine lv_aload_n hx hb dX5_openScan_71 rfl (lv_at hl 0 rfl) ?_
    refine va_get (D := (dC, dI)) (ci := 5) (v := .ref aRu) (C := RX5) (T := TX5) (N := 18) hx hb hts iw_R_openScan_Model hown hK hP 0 rfl rfl 12 (by decide) (hts _ mm_R_openScan_0) (fun _ h9 => h9) rfl dX5_openScan_72 ?_
    refine lv_iload hx hb dX5_openScan_75 (lv_at hl 5 rfl) ?_
    refine lv_iconst (v := 1) hx hb dX5_openScan_77 (by decide) ?_
    obtain ⟨hc_2, h⟩ := kp_in h
    refine va_zast hx hb hK hP hD hS 9 1 rfl rfl (kx_of hc_2) dX5_openScan_78 (fun H locs hP hD hS => ?_)
    have hP : va_P (dC, dI) vwCl (w_R cI cZ cS aR aRd aRm aRw aRs aRt aRc aRl aRh aRu aRx aRy aRk of op cr wn fp fs dk mm wk sg tb cs lw hg (upd us x5.toNatClampNeg (vp_nar .boolean 1)) de sa ky) H := hP
    have hD : va_D A (w_R cI cZ cS aR aRd aRm aRw aRs aRt aRc aRl aRh aRu aRx aRy aRk of op cr wn fp fs dk mm wk sg tb cs lw hg (upd us x5.toNatClampNeg (vp_nar .boolean 1)) de sa ky) := hD
    refine lv_aload_n hx hb dX5_openScan_79 rfl (lv_at hl 0 rfl) ?_
    refine va_get (D := (dC, dI)) (ci := 5) (v := .ref aRx) (C := RX5) (T := TX5) (N := 18) hx hb hts iw_R_openScan_Model hown hK hP 0 rfl rfl 13 (by decide) (hts _ mm_R_openScan_2) (fun _ h9 => h9) rfl dX5_openScan_80 ?_
    refine lv_iload hx hb dX5_openScan_83 (lv_at hl 5 rfl) ?_
    refine lv_iconst (v := 0) hx hb dX5_openScan_85 (by decide) ?_
    obtain ⟨hc_3, h⟩ := kp_in h
    refine va_zast hx hb hK hP hD hS 10 1 rfl rfl (kx_of hc_3) dX5_openScan_86 (fun H locs hP hD hS => ?_)
    have hP : va_P (dC, dI) vwCl (w_R cI cZ cS aR aRd aRm aRw aRs aRt aRc aRl aRh aRu aRx aRy aRk of op cr wn fp fs dk mm wk sg tb cs lw hg (upd us x5.toNatClampNeg (vp_nar .boolean 1)) (upd de x5.toNatClampNeg (vp_nar .boolean 0)) sa ky) H := hP
    have hD : va_D A (w_R cI cZ cS aR aRd aRm aRw aRs aRt aRc aRl aRh aRu aRx aRy aRk of op cr wn fp fs dk mm wk sg tb cs lw hg (upd us x5.toNatClampNeg (vp_nar .boolean 1)) (upd de x5.toNatClampNeg (vp_nar .boolean 0)) sa ky) := hD
    refine lv_aload_n hx hb dX5_openScan_87 rfl (lv_at hl 0 rfl) ?_
    refine va_get (D := (dC, dI)) (ci := 5) (v := .ref aRt) (C := RX5) (T := TX5) (N := 18) hx hb hts iw_R_openScan_Model hown hK hP 0 rfl rfl 8 (by decide) (hts _ mm_R_openScan_3) (fun _ h9 => h9) rfl dX5_openScan_88 ?_
    refine lv_iload hx hb dX5_openScan_91 (lv_at hl 5 rfl) ?_
    refine lv_iload_n hx hb dX5_openScan_93 rfl (lv_at hl 1 rfl) ?_
    obtain ⟨hc_4, h⟩ := kp_in h
    refine va_iast hx hb hK hP hD hS 5 0 rfl rfl (kx_of hc_4) dX5_openScan_94 (fun H locs hP hD hS => ?_)
    have hP : va_P (dC, dI) vwCl (w_R cI cZ cS aR aRd aRm aRw aRs aRt aRc aRl aRh aRu aRx aRy aRk of op cr wn fp fs dk mm wk sg (upd tb x5.toNatClampNeg x1) cs lw hg (upd us x5.toNatClampNeg (vp_nar .boolean 1)) (upd de x5.toNatClampNeg (vp_nar .boolean 0)) sa ky) H := hP
    have hD : va_D A (w_R cI cZ cS aR aRd aRm aRw aRs aRt aRc aRl aRh aRu aRx aRy aRk of op cr wn fp fs dk mm wk sg (upd tb x5.toNatClampNeg x1) cs lw hg (upd us x5.toNatClampNeg (vp_nar .boolean 1)) (upd de x5.toNatClampNeg (vp_nar .boolean 0)) sa ky) := hD
    refine lv_aload_n hx hb dX5_openScan_95 rfl (lv_at hl 0 rfl) ?_
    refine va_get (D := (dC, dI)) (ci := 5) (v := .ref aRc) (C := RX5) (T := TX5) (N := 18) hx hb hts iw_R_openScan_Model hown hK hP 0 rfl rfl 9 (by decide) (hts _ mm_R_openScan_4) (fun _ h9 => h9) rfl dX5_openScan_96 ?_
    refine lv_iload hx hb dX5_openScan_99 (lv_at hl 5 rfl) ?_
    refine lv_iload_n hx hb dX5_openScan_101 rfl (lv_at hl 2 rfl) ?_
    obtain ⟨hc_5, h⟩ := kp_in h
    refine va_iast hx hb hK hP hD hS 6 0 rfl rfl (kx_of hc_5) dX5_openScan_102 (fun H locs hP hD hS => ?_)
    have hP : va_P (dC, dI) vwCl (w_R cI cZ cS aR aRd aRm aRw aRs aRt aRc aRl aRh aRu aRx aRy aRk of op cr wn fp fs dk mm wk sg (upd tb x5.toNatClampNeg x1) (upd cs x5.toNatClampNeg x2) lw hg (upd us x5.toNatClampNeg (vp_nar .boolean 1)) (upd de x5.toNatClampNeg (vp_nar .boolean 0)) sa ky) H := hP
    have hD : va_D A (w_R cI cZ cS aR aRd aRm aRw aRs aRt aRc aRl aRh aRu aRx aRy aRk of op cr wn fp fs dk mm wk sg (upd tb x5.toNatClampNeg x1) (upd cs x5.toNatClampNeg x2) lw hg (upd us x5.toNatClampNeg (vp_nar .boolean 1)) (upd de x5.toNatClampNeg (vp_nar .boolean 0)) sa ky) := hD
    refine lv_aload_n hx hb dX5_openScan_103 rfl (lv_at hl 0 rfl) ?_
    refine va_get (D := (dC, dI)) (ci := 5) (v := .ref aRl) (C := RX5) (T := TX5) (N := 18) hx hb hts iw_R_openScan_Model hown hK hP 0 rfl rfl 10 (by decide) (hts _ mm_R_openScan_5) (fun _ h9 => h9) rfl dX5_openScan_104 ?_
    refine lv_iload hx hb dX5_openScan_107 (lv_at hl 5 rfl) ?_
    refine lv_iload_n hx hb dX5_openScan_109 rfl (lv_at hl 3 rfl) ?_
    obtain ⟨hc_6, h⟩ := kp_in h
    refine va_iast hx hb hK hP hD hS 7 0 rfl rfl (kx_of hc_6) dX5_openScan_110 (fun H locs hP hD hS => ?_)
    have hP : va_P (dC, dI) vwCl (w_R cI cZ cS aR aRd aRm aRw aRs aRt aRc aRl aRh aRu aRx aRy aRk of op cr wn fp fs dk mm wk sg (upd tb x5.toNatClampNeg x1) (upd cs x5.toNatClampNeg x2) (upd lw x5.toNatClampNeg x3) hg (upd us x5.toNatClampNeg (vp_nar .boolean 1)) (upd de x5.toNatClampNeg (vp_nar .boolean 0)) sa ky) H := hP
    have hD : va_D A (w_R cI cZ cS aR aRd aRm aRw aRs aRt aRc aRl aRh aRu aRx aRy aRk of op cr wn fp fs dk mm wk sg (upd tb x5.toNatClampNeg x1) (upd cs x5.toNatClampNeg x2) (upd lw x5.toNatClampNeg x3) hg (upd us x5.toNatClampNeg (vp_nar .boolean 1)) (upd de x5.toNatClampNeg (vp_nar .boolean 0)) sa ky) := hD
    refine lv_aload_n hx hb dX5_openScan_111 rfl (lv_at hl 0 rfl) ?_
    refine va_get (D := (dC, dI)) (ci := 5) (v := .ref aRh) (C := RX5) (T := TX5) (N := 18) hx hb hts iw_R_openScan_Model hown hK hP 0 rfl rfl 11 (by decide) (hts _ mm_R_openScan_6) (fun _ h9 => h9) rfl dX5_openScan_112 ?_
    refine lv_iload hx hb dX5_openScan_115 (lv_at hl 5 rfl) ?_
    refine lv_iload hx hb dX5_openScan_117 (lv_at hl 4 rfl) ?_
    obtain ⟨hc_7, h⟩ := kp_in h
    refine va_iast hx hb hK hP hD hS 8 0 rfl rfl (kx_of hc_7) dX5_openScan_119 (fun H locs hP hD hS => ?_)
    have hP : va_P (dC, dI) vwCl (w_R cI cZ cS aR aRd aRm aRw aRs aRt aRc aRl aRh aRu aRx aRy aRk of op cr wn fp fs dk mm wk sg (upd tb x5.toNatClampNeg x1) (upd cs x5.toNatClampNeg x2) (upd lw x5.toNatClampNeg x3) (upd hg x5.toNatClampNeg x4) (upd us x5.toNatClampNeg (vp_nar .boolean 1)) (upd de x5.toNatClampNeg (vp_nar .boolean 0)) sa ky) H := hP
    have hD : va_D A (w_R cI cZ cS aR aRd aRm aRw aRs aRt aRc aRl aRh aRu aRx aRy aRk of op cr wn fp fs dk mm wk sg (upd tb x5.toNatClampNeg x1) (upd cs x5.toNatClampNeg x2) (upd lw x5.toNatClampNeg x3) (upd hg x5.toNatClampNeg x4) (upd us x5.toNatClampNeg (vp_nar .boolean 1)) (upd de x5.toNatClampNeg (vp_nar .boolean 0)) sa ky) := hD
    refine lv_aload_n hx hb dX5_openScan_120 rfl (lv_at hl 0 rfl) ?_
    refine va_get (D := (dC, dI)) (ci := 5) (v := .ref aRy) (C := RX5) (T := TX5) (N := 18) hx hb hts iw_R_openScan_Model hown hK hP 0 rfl rfl 14 (by decide) (hts _ mm_R_openScan_7) (fun _ h9 => h9) rfl dX5_openScan_121 ?_
    refine lv_iload hx hb dX5_openScan_124 (lv_at hl 5 rfl) ?_
    refine lv_iconst (v := 0) hx hb dX5_openScan_126 (by decide) ?_
    obtain ⟨hc_8, h⟩ := kp_in h
    refine va_iast hx hb hK hP hD hS 11 0 rfl rfl (kx_of hc_8) dX5_openScan_127 (fun H locs hP hD hS => ?_)
    have hP : va_P (dC, dI) vwCl (w_R cI cZ cS aR aRd aRm aRw aRs aRt aRc aRl aRh aRu aRx aRy aRk of op cr wn fp fs dk mm wk sg (upd tb x5.toNatClampNeg x1) (upd cs x5.toNatClampNeg x2) (upd lw x5.toNatClampNeg x3) (upd hg x5.toNatClampNeg x4) (upd us x5.toNatClampNeg (vp_nar .boolean 1)) (upd de x5.toNatClampNeg (vp_nar .boolean 0)) (upd sa x5.toNatClampNeg 0) ky) H := hP
    have hD : va_D A (w_R cI cZ cS aR aRd aRm aRw aRs aRt aRc aRl aRh aRu aRx aRy aRk of op cr wn fp fs dk mm wk sg (upd tb x5.toNatClampNeg x1) (upd cs x5.toNatClampNeg x2) (upd lw x5.toNatClampNeg x3) (upd hg x5.toNatClampNeg x4) (upd us x5.toNatClampNeg (vp_nar .boolean 1)) (upd de x5.toNatClampNeg (vp_nar .boolean 0)) (upd sa x5.toNatClampNeg 0) ky) := hD
    refine lv_iload hx hb dX5_openScan_128 (lv_at hl 5 rfl) ?_
    cases h
    exact mk_iret E hK hP hD hS dX5_openScan_130
  · replace h := (kp_if h).1 c_1
    refine lv_bipush (v := (-8)) hx hb dX5_openScan_68 (by decide) ?_
    cases h
    exact mk_iret E hK hP hD hS dX5_openScan_70
set_option maxHeartbeats 4000000 in
set_option maxRecDepth 100000 in
theorem b_R_openScan_40 {p : Program} {l : Launch} {e : Env} {s : State} {m : MethodId} {below : List Frame} {meth : Method} {c : Code} {A : Nat → Prop} {dC : Nat → ClassId} {dI : Nat → Nat → Nat} {cI cZ cS : ClassId} {aR aRd aRm aRw aRs aRt aRc aRl aRh aRu aRx aRy aRk : Nat} {of : Int32} {op : Int32} {cr : Int32} {wn : Int32} {fp : Int32} {fs : Int32} {dk : Nat → Int32} {mm : Nat → Int32} {wk : Nat → Int32} {sg : Nat → Int32} {ky : Nat → Int32} {a1 : Int32} {a2 : Int32} {a3 : Int32} {a4 : Int32} (E : mk_En p s m meth c cX5_openScan 6 (some .int) ([.ref aR, .int a1, .int a2, .int a3, .int a4] : List Value).toArray wsX5_openScan yX5_openScan.cls) (hA : ∀ q : Nat, s.heap.size ≤ q → A q) (hK : va_K (dC, dI) vwCl (tyz cI cZ cS) s) (R : Int32 × (Nat → Int32) × (Nat → Int32) × (Nat → Int32) × (Nat → Int32) × (Nat → Int32) × (Nat → Int32) × (Nat → Int32)) {k_40 : Int32 → Int32 → Int32 → Int32 → Int32 → (Nat → Int32) → (Nat → Int32) → (Nat → Int32) → (Nat → Int32) → (Nat → Int32) → (Nat → Int32) → (Nat → Int32) → Option (Int32 × (Nat → Int32) × (Nat → Int32) × (Nat → Int32) × (Nat → Int32) × (Nat → Int32) × (Nat → Int32) × (Nat → Int32))} (hk_40 : ∀ (x1 : Int32) (x2 : Int32) (x3 : Int32) (x4 : Int32) (x5 : Int32) (tb : Nat → Int32) (cs : Nat → Int32) (lw : Nat → Int32) (hg : Nat → Int32) (us : Nat → Int32) (de : Nat → Int32) (sa : Nat → Int32), k_40 x1 x2 x3 x4 x5 tb cs lw hg us de sa = some R → ∀ (H : Heap) (locs : List Loc) (ls : Array Slot), va_P (dC, dI) vwCl (w_R cI cZ cS aR aRd aRm aRw aRs aRt aRc aRl aRh aRu aRx aRy aRk of op cr wn fp fs dk mm wk sg tb cs lw hg us de sa ky) H → va_D A (w_R cI cZ cS aR aRd aRm aRw aRs aRt aRc aRl aRh aRu aRx aRy aRk of op cr wn fp fs dk mm wk sg tb cs lw hg us de sa ky) → va_S A s.heap H locs → lv_has ls 6 [(0, .ref aR), (1, .int x1), (2, .int x2), (3, .int x3), (4, .int x4), (5, .int x5)] → W p l e ({ frames := 1, cells := 0, slots := 0, locals := 21 } : Room) s m ([.ref aR, .int a1, .int a2, .int a3, .int a4] : List Value).toArray below meth c H locs 0 0 (MQ below (mk_QI (dC, dI) vwCl (tyz cI cZ cS) A (fun u : (Nat → Int32) × (Nat → Int32) × (Nat → Int32) × (Nat → Int32) × (Nat → Int32) × (Nat → Int32) × (Nat → Int32) => w_R cI cZ cS aR aRd aRm aRw aRs aRt aRc aRl aRh aRu aRx aRy aRk of op cr wn fp fs dk mm wk sg u.1 u.2.1 u.2.2.1 u.2.2.2.1 u.2.2.2.2.1 u.2.2.2.2.2.1 u.2.2.2.2.2.2 ky) R) ([.ref aR, .int a1, .int a2, .int a3, .int a4] : List Value).toArray s 0 0 A) (F0 m 40 ls [])) (x1 : Int32) (x2 : Int32) (x3 : Int32) (x4 : Int32) (x5 : Int32) (tb : Nat → Int32) (cs : Nat → Int32) (lw : Nat → Int32) (hg : Nat → Int32) (us : Nat → Int32) (de : Nat → Int32) (sa : Nat → Int32) (h : p_R_openScan_40 of mm k_40 x1 x2 x3 x4 x5 tb cs lw hg us de sa = some R) : ∀ (H : Heap) (locs : List Loc) (ls : Array Slot), va_P (dC, dI) vwCl (w_R cI cZ cS aR aRd aRm aRw aRs aRt aRc aRl aRh aRu aRx aRy aRk of op cr wn fp fs dk mm wk sg tb cs lw hg us de sa ky) H → va_D A (w_R cI cZ cS aR aRd aRm aRw aRs aRt aRc aRl aRh aRu aRx aRy aRk of op cr wn fp fs dk mm wk sg tb cs lw hg us de sa ky) → va_S A s.heap H locs → lv_has ls 6 [(0, .ref aR), (1, .int x1), (2, .int x2), (3, .int x3), (4, .int x4), (5, .int x5)] → W p l e ({ frames := 1, cells := 0, slots := 0, locals := 21 } : Room) s m ([.ref aR, .int a1, .int a2, .int a3, .int a4] : List Value).toArray below meth c H locs 0 0 (MQ below (mk_QI (dC, dI) vwCl (tyz cI cZ cS) A (fun u : (Nat → Int32) × (Nat → Int32) × (Nat → Int32) × (Nat → Int32) × (Nat → Int32) × (Nat → Int32) × (Nat → Int32) => w_R cI cZ cS aR aRd aRm aRw aRs aRt aRc aRl aRh aRu aRx aRy aRk of op cr wn fp fs dk mm wk sg u.1 u.2.1 u.2.2.1 u.2.2.2.1 u.2.2.2.2.1 u.2.2.2.2.2.1 u.2.2.2.2.2.2 ky) R) ([.ref aR, .int a1, .int a2, .int a3, .int a4] : List Value).toArray s 0 0 A) (F0 m 40 ls []) := by
  intro H locs ls hP hD hS hl
  obtain ⟨⟨hx, hb, hml, hown, hts⟩, hrt, hlk, hN⟩ := id E
  have hown : s.vm.findClass RX5 = some m.cls := hown
  unfold p_R_openScan_40 at h
  refine lv_iload hx hb dX5_openScan_40 (lv_at hl 5 rfl) ?_
  refine lv_iconst (v := 4) hx hb dX5_openScan_42 (by decide) ?_
  refine lv_icmp_ge (tgt := 62) hx hb dX5_openScan_43 (by decide) (fun c_9 => ?_) (fun c_9 => ?_)
  · replace h := (kp_if h).1 c_9
    exact b_R_openScan_62 E hA hK R x1 x2 x3 x4 x5 tb cs lw hg us de sa h H locs ls hP hD hS (lv_sub hl [0, 1, 2, 3, 4, 5] rfl)
  · replace h := (kp_if h).2 c_9
    refine lv_aload_n hx hb dX5_openScan_46 rfl (lv_at hl 0 rfl) ?_
    refine va_get (D := (dC, dI)) (ci := 5) (v := .ref aRu) (C := RX5) (T := TX5) (N := 18) hx hb hts iw_R_openScan_Model hown hK hP 0 rfl rfl 12 (by decide) (hts _ mm_R_openScan_0) (fun _ h9 => h9) rfl dX5_openScan_47 ?_
    refine lv_iload hx hb dX5_openScan_50 (lv_at hl 5 rfl) ?_
    obtain ⟨hc_10, h⟩ := kp_in h
    refine va_zald hx hb hK hP 9 1 rfl rfl (kx_of hc_10) dX5_openScan_52 ?_
    refine lv_if_eq (tgt := 62) hx hb dX5_openScan_53 (by decide) (fun c_11 => ?_) (fun c_11 => ?_)
    · replace h := (kp_if h).1 c_11
      exact b_R_openScan_62 E hA hK R x1 x2 x3 x4 x5 tb cs lw hg us de sa h H locs ls hP hD hS (lv_sub hl [0, 1, 2, 3, 4, 5] rfl)
    · replace h := (kp_if h).2 c_11
      refine lv_iinc (v := x5 + 1) (lv' := [(5, .int (x5 + 1)), (0, .ref aR), (1, .int x1), (2, .int x2), (3, .int x3), (4, .int x4)]) hx hb dX5_openScan_56 hl (k := 5) rfl rfl (by decide) rfl (fun ls hl => ?_)
      refine lv_goto (tgt := 40) hx hb dX5_openScan_59 (by decide) ?_
      exact hk_40 x1 x2 x3 x4 (x5 + 1) tb cs lw hg us de sa h H locs ls hP hD hS (lv_sub hl [1, 2, 3, 4, 5, 0] rfl)
set_option maxHeartbeats 4000000 in
set_option maxRecDepth 100000 in
theorem l_R_openScan_40 {p : Program} {l : Launch} {e : Env} {s : State} {m : MethodId} {below : List Frame} {meth : Method} {c : Code} {A : Nat → Prop} {dC : Nat → ClassId} {dI : Nat → Nat → Nat} {cI cZ cS : ClassId} {aR aRd aRm aRw aRs aRt aRc aRl aRh aRu aRx aRy aRk : Nat} {of : Int32} {op : Int32} {cr : Int32} {wn : Int32} {fp : Int32} {fs : Int32} {dk : Nat → Int32} {mm : Nat → Int32} {wk : Nat → Int32} {sg : Nat → Int32} {ky : Nat → Int32} {a1 : Int32} {a2 : Int32} {a3 : Int32} {a4 : Int32} (E : mk_En p s m meth c cX5_openScan 6 (some .int) ([.ref aR, .int a1, .int a2, .int a3, .int a4] : List Value).toArray wsX5_openScan yX5_openScan.cls) (hA : ∀ q : Nat, s.heap.size ≤ q → A q) (hK : va_K (dC, dI) vwCl (tyz cI cZ cS) s) (R : Int32 × (Nat → Int32) × (Nat → Int32) × (Nat → Int32) × (Nat → Int32) × (Nat → Int32) × (Nat → Int32) × (Nat → Int32)) : ∀ (n : Nat) (x1 : Int32) (x2 : Int32) (x3 : Int32) (x4 : Int32) (x5 : Int32) (tb : Nat → Int32) (cs : Nat → Int32) (lw : Nat → Int32) (hg : Nat → Int32) (us : Nat → Int32) (de : Nat → Int32) (sa : Nat → Int32), pl_R_openScan_40 of mm n x1 x2 x3 x4 x5 tb cs lw hg us de sa = some R → ∀ (H : Heap) (locs : List Loc) (ls : Array Slot), va_P (dC, dI) vwCl (w_R cI cZ cS aR aRd aRm aRw aRs aRt aRc aRl aRh aRu aRx aRy aRk of op cr wn fp fs dk mm wk sg tb cs lw hg us de sa ky) H → va_D A (w_R cI cZ cS aR aRd aRm aRw aRs aRt aRc aRl aRh aRu aRx aRy aRk of op cr wn fp fs dk mm wk sg tb cs lw hg us de sa ky) → va_S A s.heap H locs → lv_has ls 6 [(0, .ref aR), (1, .int x1), (2, .int x2), (3, .int x3), (4, .int x4), (5, .int x5)] → W p l e ({ frames := 1, cells := 0, slots := 0, locals := 21 } : Room) s m ([.ref aR, .int a1, .int a2, .int a3, .int a4] : List Value).toArray below meth c H locs 0 0 (MQ below (mk_QI (dC, dI) vwCl (tyz cI cZ cS) A (fun u : (Nat → Int32) × (Nat → Int32) × (Nat → Int32) × (Nat → Int32) × (Nat → Int32) × (Nat → Int32) × (Nat → Int32) => w_R cI cZ cS aR aRd aRm aRw aRs aRt aRc aRl aRh aRu aRx aRy aRk of op cr wn fp fs dk mm wk sg u.1 u.2.1 u.2.2.1 u.2.2.2.1 u.2.2.2.2.1 u.2.2.2.2.2.1 u.2.2.2.2.2.2 ky) R) ([.ref aR, .int a1, .int a2, .int a3, .int a4] : List Value).toArray s 0 0 A) (F0 m 40 ls []) := by
  intro n
  induction n with
  | zero =>
    intro x1 x2 x3 x4 x5 tb cs lw hg us de sa h
    cases h
  | succ n ih =>
    intro x1 x2 x3 x4 x5 tb cs lw hg us de sa h
    exact b_R_openScan_40 E hA hK R ih x1 x2 x3 x4 x5 tb cs lw hg us de sa h
set_option maxHeartbeats 4000000 in
set_option maxRecDepth 100000 in
theorem b_R_openScan_34 {p : Program} {l : Launch} {e : Env} {s : State} {m : MethodId} {below : List Frame} {meth : Method} {c : Code} {A : Nat → Prop} {dC : Nat → ClassId} {dI : Nat → Nat → Nat} {cI cZ cS : ClassId} {aR aRd aRm aRw aRs aRt aRc aRl aRh aRu aRx aRy aRk : Nat} {of : Int32} {op : Int32} {cr : Int32} {wn : Int32} {fp : Int32} {fs : Int32} {dk : Nat → Int32} {mm : Nat → Int32} {wk : Nat → Int32} {sg : Nat → Int32} {ky : Nat → Int32} {a1 : Int32} {a2 : Int32} {a3 : Int32} {a4 : Int32} (E : mk_En p s m meth c cX5_openScan 6 (some .int) ([.ref aR, .int a1, .int a2, .int a3, .int a4] : List Value).toArray wsX5_openScan yX5_openScan.cls) (hA : ∀ q : Nat, s.heap.size ≤ q → A q) (hK : va_K (dC, dI) vwCl (tyz cI cZ cS) s) (R : Int32 × (Nat → Int32) × (Nat → Int32) × (Nat → Int32) × (Nat → Int32) × (Nat → Int32) × (Nat → Int32) × (Nat → Int32)) (tb : Nat → Int32) (cs : Nat → Int32) (lw : Nat → Int32) (hg : Nat → Int32) (us : Nat → Int32) (de : Nat → Int32) (sa : Nat → Int32) (h : p_R_openScan_34 of mm tb cs lw hg us de sa = some R) : ∀ (H : Heap) (locs : List Loc) (ls : Array Slot), va_P (dC, dI) vwCl (w_R cI cZ cS aR aRd aRm aRw aRs aRt aRc aRl aRh aRu aRx aRy aRk of op cr wn fp fs dk mm wk sg tb cs lw hg us de sa ky) H → va_D A (w_R cI cZ cS aR aRd aRm aRw aRs aRt aRc aRl aRh aRu aRx aRy aRk of op cr wn fp fs dk mm wk sg tb cs lw hg us de sa ky) → va_S A s.heap H locs → lv_has ls 6 [] → W p l e ({ frames := 1, cells := 0, slots := 0, locals := 21 } : Room) s m ([.ref aR, .int a1, .int a2, .int a3, .int a4] : List Value).toArray below meth c H locs 0 0 (MQ below (mk_QI (dC, dI) vwCl (tyz cI cZ cS) A (fun u : (Nat → Int32) × (Nat → Int32) × (Nat → Int32) × (Nat → Int32) × (Nat → Int32) × (Nat → Int32) × (Nat → Int32) => w_R cI cZ cS aR aRd aRm aRw aRs aRt aRc aRl aRh aRu aRx aRy aRk of op cr wn fp fs dk mm wk sg u.1 u.2.1 u.2.2.1 u.2.2.2.1 u.2.2.2.2.1 u.2.2.2.2.2.1 u.2.2.2.2.2.2 ky) R) ([.ref aR, .int a1, .int a2, .int a3, .int a4] : List Value).toArray s 0 0 A) (F0 m 34 ls []) := by
  intro H locs ls hP hD hS hl
  obtain ⟨⟨hx, hb, hml, hown, hts⟩, hrt, hlk, hN⟩ := id E
  have hown : s.vm.findClass RX5 = some m.cls := hown
  unfold p_R_openScan_34 at h
  refine lv_bipush (v := (-4)) hx hb dX5_openScan_34 (by decide) ?_
  cases h
  exact mk_iret E hK hP hD hS dX5_openScan_36
set_option maxHeartbeats 4000000 in
set_option maxRecDepth 100000 in
theorem c_R_openScan (l : Launch) (dC : Nat → ClassId) (dI : Nat → Nat → Nat) (cI cZ cS : ClassId) (aR aRd aRm aRw aRs aRt aRc aRl aRh aRu aRx aRy aRk : Nat) (of : Int32) (op : Int32) (cr : Int32) (wn : Int32) (fp : Int32) (fs : Int32) (dk : Nat → Int32) (mm : Nat → Int32) (wk : Nat → Int32) (sg : Nat → Int32) (tb : Nat → Int32) (cs : Nat → Int32) (lw : Nat → Int32) (hg : Nat → Int32) (us : Nat → Int32) (de : Nat → Int32) (sa : Nat → Int32) (ky : Nat → Int32) (a1 : Int32) (a2 : Int32) (a3 : Int32) (a4 : Int32) : CtI l yX5_openScan wsX5_openScan ({ frames := 1, cells := 0, slots := 0, locals := 21 }) (dC, dI) vwCl (tyz cI cZ cS) [.ref aR, .int a1, .int a2, .int a3, .int a4] (w_R cI cZ cS aR aRd aRm aRw aRs aRt aRc aRl aRh aRu aRx aRy aRk of op cr wn fp fs dk mm wk sg tb cs lw hg us de sa ky) (fun u : (Nat → Int32) × (Nat → Int32) × (Nat → Int32) × (Nat → Int32) × (Nat → Int32) × (Nat → Int32) × (Nat → Int32) => w_R cI cZ cS aR aRd aRm aRw aRs aRt aRc aRl aRh aRu aRx aRy aRk of op cr wn fp fs dk mm wk sg u.1 u.2.1 u.2.2.1 u.2.2.2.1 u.2.2.2.2.1 u.2.2.2.2.2.1 u.2.2.2.2.2.2 ky) (p_R_openScan of mm tb cs lw hg us de sa a1 a2 a3 a4) := by
  intro R h
  refine mk_enter (Qc := (fun A => mk_QI (dC, dI) vwCl (tyz cI cZ cS) A (fun u : (Nat → Int32) × (Nat → Int32) × (Nat → Int32) × (Nat → Int32) × (Nat → Int32) × (Nat → Int32) × (Nat → Int32) => w_R cI cZ cS aR aRd aRm aRw aRs aRt aRc aRl aRh aRu aRx aRy aRk of op cr wn fp fs dk mm wk sg u.1 u.2.1 u.2.2.1 u.2.2.2.1 u.2.2.2.2.1 u.2.2.2.2.2.1 u.2.2.2.2.2.2 ky) R)) (by decide) rfl (Nat.le_of_ble_eq_true rfl) ?_
  intro p e s m below meth c A E hA hK H locs ls hP hD hS hl
  obtain ⟨⟨hx, hb, hml, hown, hts⟩, hrt, hlk, hN⟩ := id E
  have hown : s.vm.findClass RX5 = some m.cls := hown
  have hl : lv_has ls 6 [(0, .ref aR), (1, .int a1), (2, .int a2), (3, .int a3), (4, .int a4)] := hl
  unfold p_R_openScan at h
  refine lv_aload_n hx hb dX5_openScan_0 rfl (lv_at hl 0 rfl) ?_
  refine va_get (D := (dC, dI)) (ci := 5) (v := .int of) (C := RX5) (T := TX5) (N := 18) hx hb hts iw_R_openScan_Model hown hK hP 0 rfl rfl 4 (by decide) (hts _ mm_R_openScan_8) (fun _ h9 => h9) rfl dX5_openScan_1 ?_
  refine lv_if_eq (tgt := 9) hx hb dX5_openScan_4 (by decide) (fun c_12 => ?_) (fun c_12 => ?_)
  · replace h := (kp_if h).1 c_12
    refine lv_aload_n hx hb dX5_openScan_9 rfl (lv_at hl 0 rfl) ?_
    refine lv_iload_n hx hb dX5_openScan_10 rfl (lv_at hl 1 rfl) ?_
    obtain ⟨r_13, hr_13, h⟩ := kp_bind h
    refine mk_contR (w := w_R cI cZ cS aR aRd aRm aRw aRs aRt aRc aRl aRh aRu aRx aRy aRk of op cr wn fp fs dk mm wk sg tb cs lw hg us de sa ky) (w0 := w_R cI cZ cS aR aRd aRm aRw aRs aRt aRc aRl aRh aRu aRx aRy aRk of op cr wn fp fs dk mm wk sg tb cs lw hg us de sa ky) (wr := []) hP hD hS hA [0, 1, 2, 3, 4, 5, 6, 7, 8, 9, 10, 11, 12] [] rfl rfl (by decide) (by decide) [0, 1, 2, 3, 4, 5, 6, 7, 8, 9, 10, 11, 12] rfl (by decide) (va_runV (As := [.int a1]) (rest := []) ⟨hx, hb, hml, hown, hts⟩ (c_R_noTable l dC dI cI cZ cS aR aRd aRm aRw aRs aRt aRc aRl aRh aRu aRx aRy aRk of op cr wn fp fs dk mm wk sg tb cs lw hg us de sa ky a1 r_13 hr_13 H.size) (cwV 1 hts gX5_openScan_X5_noTable rfl rfl rfl (by decide +kernel) ⟨Nat.le_of_ble_eq_true rfl, Nat.le_of_ble_eq_true rfl⟩) (mk_preV (w0 := w_R cI cZ cS aR aRd aRm aRw aRs aRt aRc aRl aRh aRu aRx aRy aRk of op cr wn fp fs dk mm wk sg tb cs lw hg us de sa ky) (ci := 5) (q0 := 0) hN hK (mk_pick hP [0, 1, 2, 3, 4, 5, 6, 7, 8, 9, 10, 11, 12] rfl) (hD.sub [0, 1, 2, 3, 4, 5, 6, 7, 8, 9, 10, 11, 12] (by decide) rfl) rfl rfl rfl) rfl rfl hl.1 rfl (lv_room (Nat.le_of_ble_eq_true rfl)) dX5_openScan_11 ⟨Nat.zero_le _, Nat.zero_le _⟩) (fun H locs hP hD hS => ?_)
    refine lv_if_eq (tgt := 20) hx hb dX5_openScan_14 (by decide) (fun c_14 => ?_) (fun c_14 => ?_)
    · replace h := (kp_if h).1 c_14
      refine lv_iload_n hx hb dX5_openScan_20 rfl (lv_at hl 2 rfl) ?_
      refine lv_if_lt (tgt := 34) hx hb dX5_openScan_21 (by decide) (fun c_15 => ?_) (fun c_15 => ?_)
      · replace h := (kp_if h).1 c_15
        exact b_R_openScan_34 E hA hK R tb cs lw hg us de sa h H locs ls hP hD hS (lv_sub hl [] rfl)
      · replace h := (kp_if h).2 c_15
        refine lv_iload_n hx hb dX5_openScan_24 rfl (lv_at hl 2 rfl) ?_
        refine lv_aload_n hx hb dX5_openScan_25 rfl (lv_at hl 0 rfl) ?_
        refine va_get (D := (dC, dI)) (ci := 5) (v := .ref aRm) (C := RX5) (T := TX5) (N := 18) hx hb hts iw_R_openScan_Model hown hK hP 0 rfl rfl 1 (by decide) (hts _ mm_R_openScan_9) (fun _ h9 => h9) rfl dX5_openScan_26 ?_
        refine lv_iload_n hx hb dX5_openScan_29 rfl (lv_at hl 1 rfl) ?_
        obtain ⟨hc_16, h⟩ := kp_in h
        refine va_iald hx hb hK hP 2 0 rfl rfl (kx_of hc_16) dX5_openScan_30 ?_
        refine lv_icmp_lt (tgt := 37) hx hb dX5_openScan_31 (by decide) (fun c_17 => ?_) (fun c_17 => ?_)
        · replace h := (kp_if h).1 c_17
          refine lv_iconst (v := 0) hx hb dX5_openScan_37 (by decide) ?_
          refine lv_istore (lv' := [(5, .int 0), (0, .ref aR), (1, .int a1), (2, .int a2), (3, .int a3), (4, .int a4)]) hx hb dX5_openScan_38 hl (by decide) rfl (fun ls hl => ?_)
          exact l_R_openScan_40 E hA hK R 1000 a1 a2 a3 a4 0 tb cs lw hg us de sa h H locs ls hP hD hS (lv_sub hl [1, 2, 3, 4, 5, 0] rfl)
        · replace h := (kp_if h).2 c_17
          exact b_R_openScan_34 E hA hK R tb cs lw hg us de sa h H locs ls hP hD hS (lv_sub hl [] rfl)
    · replace h := (kp_if h).2 c_14
      refine lv_bipush (v := (-5)) hx hb dX5_openScan_17 (by decide) ?_
      cases h
      exact mk_iret E hK hP hD hS dX5_openScan_19
  · replace h := (kp_if h).2 c_12
    refine lv_iconst (v := (-1)) hx hb dX5_openScan_7 (by decide) ?_
    cases h
    exact mk_iret E hK hP hD hS dX5_openScan_8

/- Model.seekNext(I)Z -/
set_option maxRecDepth 20000 in
theorem mm_R_seekNext_0 : Cond.fieldLink RX5 13 "JournaledTablesModel" "memory" "[I" ∈ wsX5_seekNext := by decide +kernel
set_option maxRecDepth 20000 in
theorem iw_R_seekNext_Model : ∀ w ∈ u_ws RX5 TX5 18, w ∈ wsX5_seekNext := by decide +kernel
set_option maxRecDepth 20000 in
theorem mm_R_seekNext_2 : Cond.fieldLink RX5 29 "JournaledTablesModel" "columns" "[I" ∈ wsX5_seekNext := by decide +kernel
set_option maxRecDepth 20000 in
theorem mm_R_seekNext_3 : Cond.fieldLink RX5 32 "JournaledTablesModel" "lows" "[I" ∈ wsX5_seekNext := by decide +kernel
set_option maxRecDepth 20000 in
theorem mm_R_seekNext_4 : Cond.fieldLink RX5 35 "JournaledTablesModel" "highs" "[I" ∈ wsX5_seekNext := by decide +kernel
set_option maxRecDepth 20000 in
theorem mm_R_seekNext_5 : Cond.fieldLink RX5 45 "JournaledTablesModel" "states" "[I" ∈ wsX5_seekNext := by decide +kernel
set_option maxRecDepth 20000 in
theorem mm_R_seekNext_6 : Cond.fieldLink RX5 48 "JournaledTablesModel" "keys" "[I" ∈ wsX5_seekNext := by decide +kernel
set_option maxRecDepth 20000 in
theorem mm_R_seekNext_7 : Cond.fieldLink RX5 26 "JournaledTablesModel" "tables" "[I" ∈ wsX5_seekNext := by decide +kernel
set_option maxHeartbeats 4000000 in
set_option maxRecDepth 100000 in
theorem b_R_seekNext_207 {p : Program} {l : Launch} {e : Env} {s : State} {m : MethodId} {below : List Frame} {meth : Method} {c : Code} {A : Nat → Prop} {dC : Nat → ClassId} {dI : Nat → Nat → Nat} {cI cZ cS : ClassId} {aR aRd aRm aRw aRs aRt aRc aRl aRh aRu aRx aRy aRk : Nat} {of : Int32} {op : Int32} {cr : Int32} {wn : Int32} {fp : Int32} {fs : Int32} {dk : Nat → Int32} {mm : Nat → Int32} {wk : Nat → Int32} {sg : Nat → Int32} {tb : Nat → Int32} {cs : Nat → Int32} {lw : Nat → Int32} {hg : Nat → Int32} {us : Nat → Int32} {de : Nat → Int32} {sa : Nat → Int32} {a1 : Int32} (E : mk_En p s m meth c cX5_seekNext 10 (some .boolean) ([.ref aR, .int a1] : List Value).toArray wsX5_seekNext yX5_seekNext.cls) (hA : ∀ q : Nat, s.heap.size ≤ q → A q) (hK : va_K (dC, dI) vwCl (tyz cI cZ cS) s) (R : Int32 × (Nat → Int32)) (x3 : Int32) (z0 : Int32) (z1 : Int32) (ky : Nat → Int32) (h : p_R_seekNext_207 mm tb cs lw hg sa x3 z0 z1 ky = some R) : ∀ (H : Heap) (locs : List Loc) (ls : Array Slot), va_P (dC, dI) vwCl (w_R cI cZ cS aR aRd aRm aRw aRs aRt aRc aRl aRh aRu aRx aRy aRk of op cr wn fp fs dk mm wk sg tb cs lw hg us de sa ky) H → va_D A (w_R cI cZ cS aR aRd aRm aRw aRs aRt aRc aRl aRh aRu aRx aRy aRk of op cr wn fp fs dk mm wk sg tb cs lw hg us de sa ky) → va_S A s.heap H locs → lv_has ls 10 [(3, .int x3)] → W p l e ({ frames := 1, cells := 0, slots := 0, locals := 23 } : Room) s m ([.ref aR, .int a1] : List Value).toArray below meth c H locs 0 0 (MQ below (mk_QI (dC, dI) vwCl (tyz cI cZ cS) A (fun u : (Nat → Int32) => w_R cI cZ cS aR aRd aRm aRw aRs aRt aRc aRl aRh aRu aRx aRy aRk of op cr wn fp fs dk mm wk sg tb cs lw hg us de sa u) R) ([.ref aR, .int a1] : List Value).toArray s 0 0 A) (F0 m 207 ls [.int z0, .int z1, .ref aRk]) := by
  intro H locs ls hP hD hS hl
  obtain ⟨⟨hx, hb, hml, hown, hts⟩, hrt, hlk, hN⟩ := id E
  have hown : s.vm.findClass RX5 = some m.cls := hown
  unfold p_R_seekNext_207 at h
  obtain ⟨hc_1, h⟩ := kp_in h
  refine va_iast hx hb hK hP hD hS 12 0 rfl rfl (kx_of hc_1) dX5_seekNext_207 (fun H locs hP hD hS => ?_)
  have hP : va_P (dC, dI) vwCl (w_R cI cZ cS aR aRd aRm aRw aRs aRt aRc aRl aRh aRu aRx aRy aRk of op cr wn fp fs dk mm wk sg tb cs lw hg us de sa (upd ky z1.toNatClampNeg z0)) H := hP
  have hD : va_D A (w_R cI cZ cS aR aRd aRm aRw aRs aRt aRc aRl aRh aRu aRx aRy aRk of op cr wn fp fs dk mm wk sg tb cs lw hg us de sa (upd ky z1.toNatClampNeg z0)) := hD
  refine lv_iload_n hx hb dX5_seekNext_208 rfl (lv_at hl 0 rfl) ?_
  obtain ⟨hc_2, h⟩ := kp_in h
  cases h
  exact mk_zret E hc_2 hK hP hD hS dX5_seekNext_209
set_option maxHeartbeats 4000000 in
set_option maxRecDepth 100000 in
theorem b_R_seekNext_181 {p : Program} {l : Launch} {e : Env} {s : State} {m : MethodId} {below : List Frame} {meth : Method} {c : Code} {A : Nat → Prop} {dC : Nat → ClassId} {dI : Nat → Nat → Nat} {cI cZ cS : ClassId} {aR aRd aRm aRw aRs aRt aRc aRl aRh aRu aRx aRy aRk : Nat} {of : Int32} {op : Int32} {cr : Int32} {wn : Int32} {fp : Int32} {fs : Int32} {dk : Nat → Int32} {mm : Nat → Int32} {wk : Nat → Int32} {sg : Nat → Int32} {tb : Nat → Int32} {cs : Nat → Int32} {lw : Nat → Int32} {hg : Nat → Int32} {us : Nat → Int32} {de : Nat → Int32} {sa : Nat → Int32} {a1 : Int32} (E : mk_En p s m meth c cX5_seekNext 10 (some .boolean) ([.ref aR, .int a1] : List Value).toArray wsX5_seekNext yX5_seekNext.cls) (hA : ∀ q : Nat, s.heap.size ≤ q → A q) (hK : va_K (dC, dI) vwCl (tyz cI cZ cS) s) (R : Int32 × (Nat → Int32)) {k_15 : Int32 → Int32 → Int32 → Int32 → Int32 → (Nat → Int32) → Option (Int32 × (Nat → Int32))} (hk_15 : ∀ (x1 : Int32) (x2 : Int32) (x3 : Int32) (x4 : Int32) (x5 : Int32) (ky : Nat → Int32), k_15 x1 x2 x3 x4 x5 ky = some R → ∀ (H : Heap) (locs : List Loc) (ls : Array Slot), va_P (dC, dI) vwCl (w_R cI cZ cS aR aRd aRm aRw aRs aRt aRc aRl aRh aRu aRx aRy aRk of op cr wn fp fs dk mm wk sg tb cs lw hg us de sa ky) H → va_D A (w_R cI cZ cS aR aRd aRm aRw aRs aRt aRc aRl aRh aRu aRx aRy aRk of op cr wn fp fs dk mm wk sg tb cs lw hg us de sa ky) → va_S A s.heap H locs → lv_has ls 10 [(0, .ref aR), (1, .int x1), (2, .int x2), (3, .int x3), (4, .int x4), (5, .int x5)] → W p l e ({ frames := 1, cells := 0, slots := 0, locals := 23 } : Room) s m ([.ref aR, .int a1] : List Value).toArray below meth c H locs 0 0 (MQ below (mk_QI (dC, dI) vwCl (tyz cI cZ cS) A (fun u : (Nat → Int32) => w_R cI cZ cS aR aRd aRm aRw aRs aRt aRc aRl aRh aRu aRx aRy aRk of op cr wn fp fs dk mm wk sg tb cs lw hg us de sa u) R) ([.ref aR, .int a1] : List Value).toArray s 0 0 A) (F0 m 15 ls [])) (x1 : Int32) (x2 : Int32) (x3 : Int32) (x4 : Int32) (x5 : Int32) (ky : Nat → Int32) (h : p_R_seekNext_181 mm tb cs lw hg sa k_15 x1 x2 x3 x4 x5 ky = some R) : ∀ (H : Heap) (locs : List Loc) (ls : Array Slot), va_P (dC, dI) vwCl (w_R cI cZ cS aR aRd aRm aRw aRs aRt aRc aRl aRh aRu aRx aRy aRk of op cr wn fp fs dk mm wk sg tb cs lw hg us de sa ky) H → va_D A (w_R cI cZ cS aR aRd aRm aRw aRs aRt aRc aRl aRh aRu aRx aRy aRk of op cr wn fp fs dk mm wk sg tb cs lw hg us de sa ky) → va_S A s.heap H locs → lv_has ls 10 [(0, .ref aR), (1, .int x1), (2, .int x2), (3, .int x3), (4, .int x4), (5, .int x5)] → W p l e ({ frames := 1, cells := 0, slots := 0, locals := 23 } : Room) s m ([.ref aR, .int a1] : List Value).toArray below meth c H locs 0 0 (MQ below (mk_QI (dC, dI) vwCl (tyz cI cZ cS) A (fun u : (Nat → Int32) => w_R cI cZ cS aR aRd aRm aRw aRs aRt aRc aRl aRh aRu aRx aRy aRk of op cr wn fp fs dk mm wk sg tb cs lw hg us de sa u) R) ([.ref aR, .int a1] : List Value).toArray s 0 0 A) (F0 m 181 ls []) := by
  intro H locs ls hP hD hS hl
  obtain ⟨⟨hx, hb, hml, hown, hts⟩, hrt, hlk, hN⟩ := id E
  have hown : s.vm.findClass RX5 = some m.cls := hown
  unfold p_R_seekNext_181 at h
  refine lv_iinc (v := x5 + 1) (lv' := [(5, .int (x5 + 1)), (0, .ref aR), (1, .int x1), (2, .int x2), (3, .int x3), (4, .int x4)]) hx hb dX5_seekNext_181 hl (k := 5) rfl rfl (by decide) rfl (fun ls hl => ?_)
  refine lv_goto (tgt := 15) hx hb dX5_seekNext_184 (by decide) ?_
  exact hk_15 x1 x2 x3 x4 (x5 + 1) ky h H locs ls hP hD hS (lv_sub hl [1, 2, 3, 4, 5, 0] rfl)
set_option maxHeartbeats 4000000 in
set_option maxRecDepth 100000 in
theorem b_R_seekNext_175 {p : Program} {l : Launch} {e : Env} {s : State} {m : MethodId} {below : List Frame} {meth : Method} {c : Code} {A : Nat → Prop} {dC : Nat → ClassId} {dI : Nat → Nat → Nat} {cI cZ cS : ClassId} {aR aRd aRm aRw aRs aRt aRc aRl aRh aRu aRx aRy aRk : Nat} {of : Int32} {op : Int32} {cr : Int32} {wn : Int32} {fp : Int32} {fs : Int32} {dk : Nat → Int32} {mm : Nat → Int32} {wk : Nat → Int32} {sg : Nat → Int32} {tb : Nat → Int32} {cs : Nat → Int32} {lw : Nat → Int32} {hg : Nat → Int32} {us : Nat → Int32} {de : Nat → Int32} {sa : Nat → Int32} {a1 : Int32} (E : mk_En p s m meth c cX5_seekNext 10 (some .boolean) ([.ref aR, .int a1] : List Value).toArray wsX5_seekNext yX5_seekNext.cls) (hA : ∀ q : Nat, s.heap.size ≤ q → A q) (hK : va_K (dC, dI) vwCl (tyz cI cZ cS) s) (R : Int32 × (Nat → Int32)) {k_15 : Int32 → Int32 → Int32 → Int32 → Int32 → (Nat → Int32) → Option (Int32 × (Nat → Int32))} (hk_15 : ∀ (x1 : Int32) (x2 : Int32) (x3 : Int32) (x4 : Int32) (x5 : Int32) (ky : Nat → Int32), k_15 x1 x2 x3 x4 x5 ky = some R → ∀ (H : Heap) (locs : List Loc) (ls : Array Slot), va_P (dC, dI) vwCl (w_R cI cZ cS aR aRd aRm aRw aRs aRt aRc aRl aRh aRu aRx aRy aRk of op cr wn fp fs dk mm wk sg tb cs lw hg us de sa ky) H → va_D A (w_R cI cZ cS aR aRd aRm aRw aRs aRt aRc aRl aRh aRu aRx aRy aRk of op cr wn fp fs dk mm wk sg tb cs lw hg us de sa ky) → va_S A s.heap H locs → lv_has ls 10 [(0, .ref aR), (1, .int x1), (2, .int x2), (3, .int x3), (4, .int x4), (5, .int x5)] → W p l e ({ frames := 1, cells := 0, slots := 0, locals := 23 } : Room) s m ([.ref aR, .int a1] : List Value).toArray below meth c H locs 0 0 (MQ below (mk_QI (dC, dI) vwCl (tyz cI cZ cS) A (fun u : (Nat → Int32) => w_R cI cZ cS aR aRd aRm aRw aRs aRt aRc aRl aRh aRu aRx aRy aRk of op cr wn fp fs dk mm wk sg tb cs lw hg us de sa u) R) ([.ref aR, .int a1] : List Value).toArray s 0 0 A) (F0 m 15 ls [])) {k_41 : Int32 → Int32 → Int32 → Int32 → Int32 → Int32 → (Nat → Int32) → Option (Int32 × (Nat → Int32))} (hk_41 : ∀ (x1 : Int32) (x2 : Int32) (x3 : Int32) (x4 : Int32) (x5 : Int32) (x6 : Int32) (ky : Nat → Int32), k_41 x1 x2 x3 x4 x5 x6 ky = some R → ∀ (H : Heap) (locs : List Loc) (ls : Array Slot), va_P (dC, dI) vwCl (w_R cI cZ cS aR aRd aRm aRw aRs aRt aRc aRl aRh aRu aRx aRy aRk of op cr wn fp fs dk mm wk sg tb cs lw hg us de sa ky) H → va_D A (w_R cI cZ cS aR aRd aRm aRw aRs aRt aRc aRl aRh aRu aRx aRy aRk of op cr wn fp fs dk mm wk sg tb cs lw hg us de sa ky) → va_S A s.heap H locs → lv_has ls 10 [(0, .ref aR), (1, .int x1), (2, .int x2), (3, .int x3), (4, .int x4), (5, .int x5), (6, .int x6)] → W p l e ({ frames := 1, cells := 0, slots := 0, locals := 23 } : Room) s m ([.ref aR, .int a1] : List Value).toArray below meth c H locs 0 0 (MQ below (mk_QI (dC, dI) vwCl (tyz cI cZ cS) A (fun u : (Nat → Int32) => w_R cI cZ cS aR aRd aRm aRw aRs aRt aRc aRl aRh aRu aRx aRy aRk of op cr wn fp fs dk mm wk sg tb cs lw hg us de sa u) R) ([.ref aR, .int a1] : List Value).toArray s 0 0 A) (F0 m 41 ls [])) (x1 : Int32) (x2 : Int32) (x3 : Int32) (x4 : Int32) (x5 : Int32) (x6 : Int32) (ky : Nat → Int32) (h : p_R_seekNext_175 mm tb cs lw hg sa k_15 k_41 x1 x2 x3 x4 x5 x6 ky = some R) : ∀ (H : Heap) (locs : List Loc) (ls : Array Slot), va_P (dC, dI) vwCl (w_R cI cZ cS aR aRd aRm aRw aRs aRt aRc aRl aRh aRu aRx aRy aRk of op cr wn fp fs dk mm wk sg tb cs lw hg us de sa ky) H → va_D A (w_R cI cZ cS aR aRd aRm aRw aRs aRt aRc aRl aRh aRu aRx aRy aRk of op cr wn fp fs dk mm wk sg tb cs lw hg us de sa ky) → va_S A s.heap H locs → lv_has ls 10 [(0, .ref aR), (1, .int x1), (2, .int x2), (3, .int x3), (4, .int x4), (5, .int x5), (6, .int x6)] → W p l e ({ frames := 1, cells := 0, slots := 0, locals := 23 } : Room) s m ([.ref aR, .int a1] : List Value).toArray below meth c H locs 0 0 (MQ below (mk_QI (dC, dI) vwCl (tyz cI cZ cS) A (fun u : (Nat → Int32) => w_R cI cZ cS aR aRd aRm aRw aRs aRt aRc aRl aRh aRu aRx aRy aRk of op cr wn fp fs dk mm wk sg tb cs lw hg us de sa u) R) ([.ref aR, .int a1] : List Value).toArray s 0 0 A) (F0 m 175 ls []) := by
  intro H locs ls hP hD hS hl
  obtain ⟨⟨hx, hb, hml, hown, hts⟩, hrt, hlk, hN⟩ := id E
  have hown : s.vm.findClass RX5 = some m.cls := hown
  unfold p_R_seekNext_175 at h
  refine lv_iinc (v := x6 + 1) (lv' := [(6, .int (x6 + 1)), (0, .ref aR), (1, .int x1), (2, .int x2), (3, .int x3), (4, .int x4), (5, .int x5)]) hx hb dX5_seekNext_175 hl (k := 6) rfl rfl (by decide) rfl (fun ls hl => ?_)
  refine lv_goto (tgt := 41) hx hb dX5_seekNext_178 (by decide) ?_
  exact hk_41 x1 x2 x3 x4 x5 (x6 + 1) ky h H locs ls hP hD hS (lv_sub hl [1, 2, 3, 4, 5, 6, 0] rfl)
set_option maxHeartbeats 4000000 in
set_option maxRecDepth 100000 in
theorem b_R_seekNext_164 {p : Program} {l : Launch} {e : Env} {s : State} {m : MethodId} {below : List Frame} {meth : Method} {c : Code} {A : Nat → Prop} {dC : Nat → ClassId} {dI : Nat → Nat → Nat} {cI cZ cS : ClassId} {aR aRd aRm aRw aRs aRt aRc aRl aRh aRu aRx aRy aRk : Nat} {of : Int32} {op : Int32} {cr : Int32} {wn : Int32} {fp : Int32} {fs : Int32} {dk : Nat → Int32} {mm : Nat → Int32} {wk : Nat → Int32} {sg : Nat → Int32} {tb : Nat → Int32} {cs : Nat → Int32} {lw : Nat → Int32} {hg : Nat → Int32} {us : Nat → Int32} {de : Nat → Int32} {sa : Nat → Int32} {a1 : Int32} (E : mk_En p s m meth c cX5_seekNext 10 (some .boolean) ([.ref aR, .int a1] : List Value).toArray wsX5_seekNext yX5_seekNext.cls) (hA : ∀ q : Nat, s.heap.size ≤ q → A q) (hK : va_K (dC, dI) vwCl (tyz cI cZ cS) s) (R : Int32 × (Nat → Int32)) {k_15 : Int32 → Int32 → Int32 → Int32 → Int32 → (Nat → Int32) → Option (Int32 × (Nat → Int32))} (hk_15 : ∀ (x1 : Int32) (x2 : Int32) (x3 : Int32) (x4 : Int32) (x5 : Int32) (ky : Nat → Int32), k_15 x1 x2 x3 x4 x5 ky = some R → ∀ (H : Heap) (locs : List Loc) (ls : Array Slot), va_P (dC, dI) vwCl (w_R cI cZ cS aR aRd aRm aRw aRs aRt aRc aRl aRh aRu aRx aRy aRk of op cr wn fp fs dk mm wk sg tb cs lw hg us de sa ky) H → va_D A (w_R cI cZ cS aR aRd aRm aRw aRs aRt aRc aRl aRh aRu aRx aRy aRk of op cr wn fp fs dk mm wk sg tb cs lw hg us de sa ky) → va_S A s.heap H locs → lv_has ls 10 [(0, .ref aR), (1, .int x1), (2, .int x2), (3, .int x3), (4, .int x4), (5, .int x5)] → W p l e ({ frames := 1, cells := 0, slots := 0, locals := 23 } : Room) s m ([.ref aR, .int a1] : List Value).toArray below meth c H locs 0 0 (MQ below (mk_QI (dC, dI) vwCl (tyz cI cZ cS) A (fun u : (Nat → Int32) => w_R cI cZ cS aR aRd aRm aRw aRs aRt aRc aRl aRh aRu aRx aRy aRk of op cr wn fp fs dk mm wk sg tb cs lw hg us de sa u) R) ([.ref aR, .int a1] : List Value).toArray s 0 0 A) (F0 m 15 ls [])) {k_41 : Int32 → Int32 → Int32 → Int32 → Int32 → Int32 → (Nat → Int32) → Option (Int32 × (Nat → Int32))} (hk_41 : ∀ (x1 : Int32) (x2 : Int32) (x3 : Int32) (x4 : Int32) (x5 : Int32) (x6 : Int32) (ky : Nat → Int32), k_41 x1 x2 x3 x4 x5 x6 ky = some R → ∀ (H : Heap) (locs : List Loc) (ls : Array Slot), va_P (dC, dI) vwCl (w_R cI cZ cS aR aRd aRm aRw aRs aRt aRc aRl aRh aRu aRx aRy aRk of op cr wn fp fs dk mm wk sg tb cs lw hg us de sa ky) H → va_D A (w_R cI cZ cS aR aRd aRm aRw aRs aRt aRc aRl aRh aRu aRx aRy aRk of op cr wn fp fs dk mm wk sg tb cs lw hg us de sa ky) → va_S A s.heap H locs → lv_has ls 10 [(0, .ref aR), (1, .int x1), (2, .int x2), (3, .int x3), (4, .int x4), (5, .int x5), (6, .int x6)] → W p l e ({ frames := 1, cells := 0, slots := 0, locals := 23 } : Room) s m ([.ref aR, .int a1] : List Value).toArray below meth c H locs 0 0 (MQ below (mk_QI (dC, dI) vwCl (tyz cI cZ cS) A (fun u : (Nat → Int32) => w_R cI cZ cS aR aRd aRm aRw aRs aRt aRc aRl aRh aRu aRx aRy aRk of op cr wn fp fs dk mm wk sg tb cs lw hg us de sa u) R) ([.ref aR, .int a1] : List Value).toArray s 0 0 A) (F0 m 41 ls [])) (x1 : Int32) (x2 : Int32) (x5 : Int32) (x6 : Int32) (x7 : Int32) (ky : Nat → Int32) (h : p_R_seekNext_164 mm tb cs lw hg sa k_15 k_41 x1 x2 x5 x6 x7 ky = some R) : ∀ (H : Heap) (locs : List Loc) (ls : Array Slot), va_P (dC, dI) vwCl (w_R cI cZ cS aR aRd aRm aRw aRs aRt aRc aRl aRh aRu aRx aRy aRk of op cr wn fp fs dk mm wk sg tb cs lw hg us de sa ky) H → va_D A (w_R cI cZ cS aR aRd aRm aRw aRs aRt aRc aRl aRh aRu aRx aRy aRk of op cr wn fp fs dk mm wk sg tb cs lw hg us de sa ky) → va_S A s.heap H locs → lv_has ls 10 [(0, .ref aR), (1, .int x1), (2, .int x2), (5, .int x5), (6, .int x6), (7, .int x7)] → W p l e ({ frames := 1, cells := 0, slots := 0, locals := 23 } : Room) s m ([.ref aR, .int a1] : List Value).toArray below meth c H locs 0 0 (MQ below (mk_QI (dC, dI) vwCl (tyz cI cZ cS) A (fun u : (Nat → Int32) => w_R cI cZ cS aR aRd aRm aRw aRs aRt aRc aRl aRh aRu aRx aRy aRk of op cr wn fp fs dk mm wk sg tb cs lw hg us de sa u) R) ([.ref aR, .int a1] : List Value).toArray s 0 0 A) (F0 m 164 ls []) := by
  intro H locs ls hP hD hS hl
  obtain ⟨⟨hx, hb, hml, hown, hts⟩, hrt, hlk, hN⟩ := id E
  have hown : s.vm.findClass RX5 = some m.cls := hown
  unfold p_R_seekNext_164 at h
  refine lv_iconst (v := 1) hx hb dX5_seekNext_164 (by decide) ?_
  refine lv_istore_n (lv' := [(3, .int 1), (0, .ref aR), (1, .int x1), (2, .int x2), (5, .int x5), (6, .int x6), (7, .int x7)]) hx hb dX5_seekNext_165 rfl hl (by decide) rfl (fun ls hl => ?_)
  refine lv_aload_n hx hb dX5_seekNext_166 rfl (lv_at hl 1 rfl) ?_
  refine va_get (D := (dC, dI)) (ci := 5) (v := .ref aRm) (C := RX5) (T := TX5) (N := 18) hx hb hts iw_R_seekNext_Model hown hK hP 0 rfl rfl 1 (by decide) (hts _ mm_R_seekNext_0) (fun _ h9 => h9) rfl dX5_seekNext_167 ?_
  refine lv_iload hx hb dX5_seekNext_170 (lv_at hl 6 rfl) ?_
  obtain ⟨hc_3, h⟩ := kp_in h
  refine va_iald hx hb hK hP 2 0 rfl rfl (kx_of hc_3) dX5_seekNext_172 ?_
  refine lv_topi (fun v_4 ev_4 => ?_)
  replace h := kp_kl h v_4 ev_4
  refine lv_istore (lv' := [(4, .int v_4), (3, .int 1), (0, .ref aR), (1, .int x1), (2, .int x2), (5, .int x5), (6, .int x6), (7, .int x7)]) hx hb dX5_seekNext_173 hl (by decide) rfl (fun ls hl => ?_)
  exact b_R_seekNext_175 E hA hK R hk_15 hk_41 x1 x2 1 v_4 x5 x6 ky h H locs ls hP hD hS (lv_sub hl [2, 3, 4, 1, 0, 5, 6] rfl)
set_option maxHeartbeats 4000000 in
set_option maxRecDepth 100000 in
theorem b_R_seekNext_141 {p : Program} {l : Launch} {e : Env} {s : State} {m : MethodId} {below : List Frame} {meth : Method} {c : Code} {A : Nat → Prop} {dC : Nat → ClassId} {dI : Nat → Nat → Nat} {cI cZ cS : ClassId} {aR aRd aRm aRw aRs aRt aRc aRl aRh aRu aRx aRy aRk : Nat} {of : Int32} {op : Int32} {cr : Int32} {wn : Int32} {fp : Int32} {fs : Int32} {dk : Nat → Int32} {mm : Nat → Int32} {wk : Nat → Int32} {sg : Nat → Int32} {tb : Nat → Int32} {cs : Nat → Int32} {lw : Nat → Int32} {hg : Nat → Int32} {us : Nat → Int32} {de : Nat → Int32} {sa : Nat → Int32} {a1 : Int32} (E : mk_En p s m meth c cX5_seekNext 10 (some .boolean) ([.ref aR, .int a1] : List Value).toArray wsX5_seekNext yX5_seekNext.cls) (hA : ∀ q : Nat, s.heap.size ≤ q → A q) (hK : va_K (dC, dI) vwCl (tyz cI cZ cS) s) (R : Int32 × (Nat → Int32)) {k_15 : Int32 → Int32 → Int32 → Int32 → Int32 → (Nat → Int32) → Option (Int32 × (Nat → Int32))} (hk_15 : ∀ (x1 : Int32) (x2 : Int32) (x3 : Int32) (x4 : Int32) (x5 : Int32) (ky : Nat → Int32), k_15 x1 x2 x3 x4 x5 ky = some R → ∀ (H : Heap) (locs : List Loc) (ls : Array Slot), va_P (dC, dI) vwCl (w_R cI cZ cS aR aRd aRm aRw aRs aRt aRc aRl aRh aRu aRx aRy aRk of op cr wn fp fs dk mm wk sg tb cs lw hg us de sa ky) H → va_D A (w_R cI cZ cS aR aRd aRm aRw aRs aRt aRc aRl aRh aRu aRx aRy aRk of op cr wn fp fs dk mm wk sg tb cs lw hg us de sa ky) → va_S A s.heap H locs → lv_has ls 10 [(0, .ref aR), (1, .int x1), (2, .int x2), (3, .int x3), (4, .int x4), (5, .int x5)] → W p l e ({ frames := 1, cells := 0, slots := 0, locals := 23 } : Room) s m ([.ref aR, .int a1] : List Value).toArray below meth c H locs 0 0 (MQ below (mk_QI (dC, dI) vwCl (tyz cI cZ cS) A (fun u : (Nat → Int32) => w_R cI cZ cS aR aRd aRm aRw aRs aRt aRc aRl aRh aRu aRx aRy aRk of op cr wn fp fs dk mm wk sg tb cs lw hg us de sa u) R) ([.ref aR, .int a1] : List Value).toArray s 0 0 A) (F0 m 15 ls [])) {k_41 : Int32 → Int32 → Int32 → Int32 → Int32 → Int32 → (Nat → Int32) → Option (Int32 × (Nat → Int32))} (hk_41 : ∀ (x1 : Int32) (x2 : Int32) (x3 : Int32) (x4 : Int32) (x5 : Int32) (x6 : Int32) (ky : Nat → Int32), k_41 x1 x2 x3 x4 x5 x6 ky = some R → ∀ (H : Heap) (locs : List Loc) (ls : Array Slot), va_P (dC, dI) vwCl (w_R cI cZ cS aR aRd aRm aRw aRs aRt aRc aRl aRh aRu aRx aRy aRk of op cr wn fp fs dk mm wk sg tb cs lw hg us de sa ky) H → va_D A (w_R cI cZ cS aR aRd aRm aRw aRs aRt aRc aRl aRh aRu aRx aRy aRk of op cr wn fp fs dk mm wk sg tb cs lw hg us de sa ky) → va_S A s.heap H locs → lv_has ls 10 [(0, .ref aR), (1, .int x1), (2, .int x2), (3, .int x3), (4, .int x4), (5, .int x5), (6, .int x6)] → W p l e ({ frames := 1, cells := 0, slots := 0, locals := 23 } : Room) s m ([.ref aR, .int a1] : List Value).toArray below meth c H locs 0 0 (MQ below (mk_QI (dC, dI) vwCl (tyz cI cZ cS) A (fun u : (Nat → Int32) => w_R cI cZ cS aR aRd aRm aRw aRs aRt aRc aRl aRh aRu aRx aRy aRk of op cr wn fp fs dk mm wk sg tb cs lw hg us de sa u) R) ([.ref aR, .int a1] : List Value).toArray s 0 0 A) (F0 m 41 ls [])) (x1 : Int32) (x2 : Int32) (x3 : Int32) (x4 : Int32) (x5 : Int32) (x6 : Int32) (x7 : Int32) (z0 : Int32) (ky : Nat → Int32) (h : p_R_seekNext_141 mm tb cs lw hg sa k_15 k_41 x1 x2 x3 x4 x5 x6 x7 z0 ky = some R) : ∀ (H : Heap) (locs : List Loc) (ls : Array Slot), va_P (dC, dI) vwCl (w_R cI cZ cS aR aRd aRm aRw aRs aRt aRc aRl aRh aRu aRx aRy aRk of op cr wn fp fs dk mm wk sg tb cs lw hg us de sa ky) H → va_D A (w_R cI cZ cS aR aRd aRm aRw aRs aRt aRc aRl aRh aRu aRx aRy aRk of op cr wn fp fs dk mm wk sg tb cs lw hg us de sa ky) → va_S A s.heap H locs → lv_has ls 10 [(0, .ref aR), (1, .int x1), (2, .int x2), (3, .int x3), (4, .int x4), (5, .int x5), (6, .int x6), (7, .int x7)] → W p l e ({ frames := 1, cells := 0, slots := 0, locals := 23 } : Room) s m ([.ref aR, .int a1] : List Value).toArray below meth c H locs 0 0 (MQ below (mk_QI (dC, dI) vwCl (tyz cI cZ cS) A (fun u : (Nat → Int32) => w_R cI cZ cS aR aRd aRm aRw aRs aRt aRc aRl aRh aRu aRx aRy aRk of op cr wn fp fs dk mm wk sg tb cs lw hg us de sa u) R) ([.ref aR, .int a1] : List Value).toArray s 0 0 A) (F0 m 141 ls [.int z0]) := by
  intro H locs ls hP hD hS hl
  obtain ⟨⟨hx, hb, hml, hown, hts⟩, hrt, hlk, hN⟩ := id E
  have hown : s.vm.findClass RX5 = some m.cls := hown
  unfold p_R_seekNext_141 at h
  refine lv_istore (lv' := [(9, .int z0), (0, .ref aR), (1, .int x1), (2, .int x2), (3, .int x3), (4, .int x4), (5, .int x5), (6, .int x6), (7, .int x7)]) hx hb dX5_seekNext_141 hl (by decide) rfl (fun ls hl => ?_)
  refine lv_iload hx hb dX5_seekNext_143 (lv_at hl 0 rfl) ?_
  refine lv_if_eq (tgt := 175) hx hb dX5_seekNext_145 (by decide) (fun c_5 => ?_) (fun c_5 => ?_)
  · replace h := (kp_if h).1 c_5
    exact b_R_seekNext_175 E hA hK R hk_15 hk_41 x1 x2 x3 x4 x5 x6 ky h H locs ls hP hD hS (lv_sub hl [1, 2, 3, 4, 5, 6, 7] rfl)
  · replace h := (kp_if h).2 c_5
    refine lv_iload_n hx hb dX5_seekNext_148 rfl (lv_at hl 4 rfl) ?_
    refine lv_if_eq (tgt := 164) hx hb dX5_seekNext_149 (by decide) (fun c_6 => ?_) (fun c_6 => ?_)
    · replace h := (kp_if h).1 c_6
      exact b_R_seekNext_164 E hA hK R hk_15 hk_41 x1 x2 x5 x6 x7 ky h H locs ls hP hD hS (lv_sub hl [1, 2, 3, 6, 7, 8] rfl)
    · replace h := (kp_if h).2 c_6
      refine lv_aload_n hx hb dX5_seekNext_152 rfl (lv_at hl 1 rfl) ?_
      refine va_get (D := (dC, dI)) (ci := 5) (v := .ref aRm) (C := RX5) (T := TX5) (N := 18) hx hb hts iw_R_seekNext_Model hown hK hP 0 rfl rfl 1 (by decide) (hts _ mm_R_seekNext_0) (fun _ h9 => h9) rfl dX5_seekNext_153 ?_
      refine lv_iload hx hb dX5_seekNext_156 (lv_at hl 8 rfl) ?_
      obtain ⟨hc_7, h⟩ := kp_in h
      refine va_iald hx hb hK hP 2 0 rfl rfl (kx_of hc_7) dX5_seekNext_158 ?_
      refine lv_iload hx hb dX5_seekNext_159 (lv_at hl 5 rfl) ?_
      refine lv_icmp_ge (tgt := 175) hx hb dX5_seekNext_161 (by decide) (fun c_8 => ?_) (fun c_8 => ?_)
      · replace h := (kp_if h).1 c_8
        exact b_R_seekNext_175 E hA hK R hk_15 hk_41 x1 x2 x3 x4 x5 x6 ky h H locs ls hP hD hS (lv_sub hl [1, 2, 3, 4, 5, 6, 7] rfl)
      · replace h := (kp_if h).2 c_8
        exact b_R_seekNext_164 E hA hK R hk_15 hk_41 x1 x2 x5 x6 x7 ky h H locs ls hP hD hS (lv_sub hl [1, 2, 3, 6, 7, 8] rfl)
set_option maxHeartbeats 4000000 in
set_option maxRecDepth 100000 in
theorem b_R_seekNext_140 {p : Program} {l : Launch} {e : Env} {s : State} {m : MethodId} {below : List Frame} {meth : Method} {c : Code} {A : Nat → Prop} {dC : Nat → ClassId} {dI : Nat → Nat → Nat} {cI cZ cS : ClassId} {aR aRd aRm aRw aRs aRt aRc aRl aRh aRu aRx aRy aRk : Nat} {of : Int32} {op : Int32} {cr : Int32} {wn : Int32} {fp : Int32} {fs : Int32} {dk : Nat → Int32} {mm : Nat → Int32} {wk : Nat → Int32} {sg : Nat → Int32} {tb : Nat → Int32} {cs : Nat → Int32} {lw : Nat → Int32} {hg : Nat → Int32} {us : Nat → Int32} {de : Nat → Int32} {sa : Nat → Int32} {a1 : Int32} (E : mk_En p s m meth c cX5_seekNext 10 (some .boolean) ([.ref aR, .int a1] : List Value).toArray wsX5_seekNext yX5_seekNext.cls) (hA : ∀ q : Nat, s.heap.size ≤ q → A q) (hK : va_K (dC, dI) vwCl (tyz cI cZ cS) s) (R : Int32 × (Nat → Int32)) {k_15 : Int32 → Int32 → Int32 → Int32 → Int32 → (Nat → Int32) → Option (Int32 × (Nat → Int32))} (hk_15 : ∀ (x1 : Int32) (x2 : Int32) (x3 : Int32) (x4 : Int32) (x5 : Int32) (ky : Nat → Int32), k_15 x1 x2 x3 x4 x5 ky = some R → ∀ (H : Heap) (locs : List Loc) (ls : Array Slot), va_P (dC, dI) vwCl (w_R cI cZ cS aR aRd aRm aRw aRs aRt aRc aRl aRh aRu aRx aRy aRk of op cr wn fp fs dk mm wk sg tb cs lw hg us de sa ky) H → va_D A (w_R cI cZ cS aR aRd aRm aRw aRs aRt aRc aRl aRh aRu aRx aRy aRk of op cr wn fp fs dk mm wk sg tb cs lw hg us de sa ky) → va_S A s.heap H locs → lv_has ls 10 [(0, .ref aR), (1, .int x1), (2, .int x2), (3, .int x3), (4, .int x4), (5, .int x5)] → W p l e ({ frames := 1, cells := 0, slots := 0, locals := 23 } : Room) s m ([.ref aR, .int a1] : List Value).toArray below meth c H locs 0 0 (MQ below (mk_QI (dC, dI) vwCl (tyz cI cZ cS) A (fun u : (Nat → Int32) => w_R cI cZ cS aR aRd aRm aRw aRs aRt aRc aRl aRh aRu aRx aRy aRk of op cr wn fp fs dk mm wk sg tb cs lw hg us de sa u) R) ([.ref aR, .int a1] : List Value).toArray s 0 0 A) (F0 m 15 ls [])) {k_41 : Int32 → Int32 → Int32 → Int32 → Int32 → Int32 → (Nat → Int32) → Option (Int32 × (Nat → Int32))} (hk_41 : ∀ (x1 : Int32) (x2 : Int32) (x3 : Int32) (x4 : Int32) (x5 : Int32) (x6 : Int32) (ky : Nat → Int32), k_41 x1 x2 x3 x4 x5 x6 ky = some R → ∀ (H : Heap) (locs : List Loc) (ls : Array Slot), va_P (dC, dI) vwCl (w_R cI cZ cS aR aRd aRm aRw aRs aRt aRc aRl aRh aRu aRx aRy aRk of op cr wn fp fs dk mm wk sg tb cs lw hg us de sa ky) H → va_D A (w_R cI cZ cS aR aRd aRm aRw aRs aRt aRc aRl aRh aRu aRx aRy aRk of op cr wn fp fs dk mm wk sg tb cs lw hg us de sa ky) → va_S A s.heap H locs → lv_has ls 10 [(0, .ref aR), (1, .int x1), (2, .int x2), (3, .int x3), (4, .int x4), (5, .int x5), (6, .int x6)] → W p l e ({ frames := 1, cells := 0, slots := 0, locals := 23 } : Room) s m ([.ref aR, .int a1] : List Value).toArray below meth c H locs 0 0 (MQ below (mk_QI (dC, dI) vwCl (tyz cI cZ cS) A (fun u : (Nat → Int32) => w_R cI cZ cS aR aRd aRm aRw aRs aRt aRc aRl aRh aRu aRx aRy aRk of op cr wn fp fs dk mm wk sg tb cs lw hg us de sa u) R) ([.ref aR, .int a1] : List Value).toArray s 0 0 A) (F0 m 41 ls [])) (x1 : Int32) (x2 : Int32) (x3 : Int32) (x4 : Int32) (x5 : Int32) (x6 : Int32) (x7 : Int32) (ky : Nat → Int32) (h : p_R_seekNext_140 mm tb cs lw hg sa k_15 k_41 x1 x2 x3 x4 x5 x6 x7 ky = some R) : ∀ (H : Heap) (locs : List Loc) (ls : Array Slot), va_P (dC, dI) vwCl (w_R cI cZ cS aR aRd aRm aRw aRs aRt aRc aRl aRh aRu aRx aRy aRk of op cr wn fp fs dk mm wk sg tb cs lw hg us de sa ky) H → va_D A (w_R cI cZ cS aR aRd aRm aRw aRs aRt aRc aRl aRh aRu aRx aRy aRk of op cr wn fp fs dk mm wk sg tb cs lw hg us de sa ky) → va_S A s.heap H locs → lv_has ls 10 [(0, .ref aR), (1, .int x1), (2, .int x2), (3, .int x3), (4, .int x4), (5, .int x5), (6, .int x6), (7, .int x7)] → W p l e ({ frames := 1, cells := 0, slots := 0, locals := 23 } : Room) s m ([.ref aR, .int a1] : List Value).toArray below meth c H locs 0 0 (MQ below (mk_QI (dC, dI) vwCl (tyz cI cZ cS) A (fun u : (Nat → Int32) => w_R cI cZ cS aR aRd aRm aRw aRs aRt aRc aRl aRh aRu aRx aRy aRk of op cr wn fp fs dk mm wk sg tb cs lw hg us de sa u) R) ([.ref aR, .int a1] : List Value).toArray s 0 0 A) (F0 m 140 ls []) := by
  intro H locs ls hP hD hS hl
  obtain ⟨⟨hx, hb, hml, hown, hts⟩, hrt, hlk, hN⟩ := id E
  have hown : s.vm.findClass RX5 = some m.cls := hown
  unfold p_R_seekNext_140 at h
  refine lv_iconst (v := 0) hx hb dX5_seekNext_140 (by decide) ?_
  exact b_R_seekNext_141 E hA hK R hk_15 hk_41 x1 x2 x3 x4 x5 x6 x7 0 ky h H locs ls hP hD hS (lv_sub hl [0, 1, 2, 3, 4, 5, 6, 7] rfl)
set_option maxHeartbeats 4000000 in
set_option maxRecDepth 100000 in
theorem b_R_seekNext_136 {p : Program} {l : Launch} {e : Env} {s : State} {m : MethodId} {below : List Frame} {meth : Method} {c : Code} {A : Nat → Prop} {dC : Nat → ClassId} {dI : Nat → Nat → Nat} {cI cZ cS : ClassId} {aR aRd aRm aRw aRs aRt aRc aRl aRh aRu aRx aRy aRk : Nat} {of : Int32} {op : Int32} {cr : Int32} {wn : Int32} {fp : Int32} {fs : Int32} {dk : Nat → Int32} {mm : Nat → Int32} {wk : Nat → Int32} {sg : Nat → Int32} {tb : Nat → Int32} {cs : Nat → Int32} {lw : Nat → Int32} {hg : Nat → Int32} {us : Nat → Int32} {de : Nat → Int32} {sa : Nat → Int32} {a1 : Int32} (E : mk_En p s m meth c cX5_seekNext 10 (some .boolean) ([.ref aR, .int a1] : List Value).toArray wsX5_seekNext yX5_seekNext.cls) (hA : ∀ q : Nat, s.heap.size ≤ q → A q) (hK : va_K (dC, dI) vwCl (tyz cI cZ cS) s) (R : Int32 × (Nat → Int32)) {k_15 : Int32 → Int32 → Int32 → Int32 → Int32 → (Nat → Int32) → Option (Int32 × (Nat → Int32))} (hk_15 : ∀ (x1 : Int32) (x2 : Int32) (x3 : Int32) (x4 : Int32) (x5 : Int32) (ky : Nat → Int32), k_15 x1 x2 x3 x4 x5 ky = some R → ∀ (H : Heap) (locs : List Loc) (ls : Array Slot), va_P (dC, dI) vwCl (w_R cI cZ cS aR aRd aRm aRw aRs aRt aRc aRl aRh aRu aRx aRy aRk of op cr wn fp fs dk mm wk sg tb cs lw hg us de sa ky) H → va_D A (w_R cI cZ cS aR aRd aRm aRw aRs aRt aRc aRl aRh aRu aRx aRy aRk of op cr wn fp fs dk mm wk sg tb cs lw hg us de sa ky) → va_S A s.heap H locs → lv_has ls 10 [(0, .ref aR), (1, .int x1), (2, .int x2), (3, .int x3), (4, .int x4), (5, .int x5)] → W p l e ({ frames := 1, cells := 0, slots := 0, locals := 23 } : Room) s m ([.ref aR, .int a1] : List Value).toArray below meth c H locs 0 0 (MQ below (mk_QI (dC, dI) vwCl (tyz cI cZ cS) A (fun u : (Nat → Int32) => w_R cI cZ cS aR aRd aRm aRw aRs aRt aRc aRl aRh aRu aRx aRy aRk of op cr wn fp fs dk mm wk sg tb cs lw hg us de sa u) R) ([.ref aR, .int a1] : List Value).toArray s 0 0 A) (F0 m 15 ls [])) {k_41 : Int32 → Int32 → Int32 → Int32 → Int32 → Int32 → (Nat → Int32) → Option (Int32 × (Nat → Int32))} (hk_41 : ∀ (x1 : Int32) (x2 : Int32) (x3 : Int32) (x4 : Int32) (x5 : Int32) (x6 : Int32) (ky : Nat → Int32), k_41 x1 x2 x3 x4 x5 x6 ky = some R → ∀ (H : Heap) (locs : List Loc) (ls : Array Slot), va_P (dC, dI) vwCl (w_R cI cZ cS aR aRd aRm aRw aRs aRt aRc aRl aRh aRu aRx aRy aRk of op cr wn fp fs dk mm wk sg tb cs lw hg us de sa ky) H → va_D A (w_R cI cZ cS aR aRd aRm aRw aRs aRt aRc aRl aRh aRu aRx aRy aRk of op cr wn fp fs dk mm wk sg tb cs lw hg us de sa ky) → va_S A s.heap H locs → lv_has ls 10 [(0, .ref aR), (1, .int x1), (2, .int x2), (3, .int x3), (4, .int x4), (5, .int x5), (6, .int x6)] → W p l e ({ frames := 1, cells := 0, slots := 0, locals := 23 } : Room) s m ([.ref aR, .int a1] : List Value).toArray below meth c H locs 0 0 (MQ below (mk_QI (dC, dI) vwCl (tyz cI cZ cS) A (fun u : (Nat → Int32) => w_R cI cZ cS aR aRd aRm aRw aRs aRt aRc aRl aRh aRu aRx aRy aRk of op cr wn fp fs dk mm wk sg tb cs lw hg us de sa u) R) ([.ref aR, .int a1] : List Value).toArray s 0 0 A) (F0 m 41 ls [])) (x1 : Int32) (x2 : Int32) (x3 : Int32) (x4 : Int32) (x5 : Int32) (x6 : Int32) (x7 : Int32) (ky : Nat → Int32) (h : p_R_seekNext_136 mm tb cs lw hg sa k_15 k_41 x1 x2 x3 x4 x5 x6 x7 ky = some R) : ∀ (H : Heap) (locs : List Loc) (ls : Array Slot), va_P (dC, dI) vwCl (w_R cI cZ cS aR aRd aRm aRw aRs aRt aRc aRl aRh aRu aRx aRy aRk of op cr wn fp fs dk mm wk sg tb cs lw hg us de sa ky) H → va_D A (w_R cI cZ cS aR aRd aRm aRw aRs aRt aRc aRl aRh aRu aRx aRy aRk of op cr wn fp fs dk mm wk sg tb cs lw hg us de sa ky) → va_S A s.heap H locs → lv_has ls 10 [(0, .ref aR), (1, .int x1), (2, .int x2), (3, .int x3), (4, .int x4), (5, .int x5), (6, .int x6), (7, .int x7)] → W p l e ({ frames := 1, cells := 0, slots := 0, locals := 23 } : Room) s m ([.ref aR, .int a1] : List Value).toArray below meth c H locs 0 0 (MQ below (mk_QI (dC, dI) vwCl (tyz cI cZ cS) A (fun u : (Nat → Int32) => w_R cI cZ cS aR aRd aRm aRw aRs aRt aRc aRl aRh aRu aRx aRy aRk of op cr wn fp fs dk mm wk sg tb cs lw hg us de sa u) R) ([.ref aR, .int a1] : List Value).toArray s 0 0 A) (F0 m 136 ls []) := by
  intro H locs ls hP hD hS hl
  obtain ⟨⟨hx, hb, hml, hown, hts⟩, hrt, hlk, hN⟩ := id E
  have hown : s.vm.findClass RX5 = some m.cls := hown
  unfold p_R_seekNext_136 at h
  refine lv_iconst (v := 1) hx hb dX5_seekNext_136 (by decide) ?_
  refine lv_goto (tgt := 141) hx hb dX5_seekNext_137 (by decide) ?_
  exact b_R_seekNext_141 E hA hK R hk_15 hk_41 x1 x2 x3 x4 x5 x6 x7 1 ky h H locs ls hP hD hS (lv_sub hl [0, 1, 2, 3, 4, 5, 6, 7] rfl)
set_option maxHeartbeats 4000000 in
set_option maxRecDepth 100000 in
theorem b_R_seekNext_41 {p : Program} {l : Launch} {e : Env} {s : State} {m : MethodId} {below : List Frame} {meth : Method} {c : Code} {A : Nat → Prop} {dC : Nat → ClassId} {dI : Nat → Nat → Nat} {cI cZ cS : ClassId} {aR aRd aRm aRw aRs aRt aRc aRl aRh aRu aRx aRy aRk : Nat} {of : Int32} {op : Int32} {cr : Int32} {wn : Int32} {fp : Int32} {fs : Int32} {dk : Nat → Int32} {mm : Nat → Int32} {wk : Nat → Int32} {sg : Nat → Int32} {tb : Nat → Int32} {cs : Nat → Int32} {lw : Nat → Int32} {hg : Nat → Int32} {us : Nat → Int32} {de : Nat → Int32} {sa : Nat → Int32} {a1 : Int32} (E : mk_En p s m meth c cX5_seekNext 10 (some .boolean) ([.ref aR, .int a1] : List Value).toArray wsX5_seekNext yX5_seekNext.cls) (hA : ∀ q : Nat, s.heap.size ≤ q → A q) (hK : va_K (dC, dI) vwCl (tyz cI cZ cS) s) (R : Int32 × (Nat → Int32)) {k_15 : Int32 → Int32 → Int32 → Int32 → Int32 → (Nat → Int32) → Option (Int32 × (Nat → Int32))} (hk_15 : ∀ (x1 : Int32) (x2 : Int32) (x3 : Int32) (x4 : Int32) (x5 : Int32) (ky : Nat → Int32), k_15 x1 x2 x3 x4 x5 ky = some R → ∀ (H : Heap) (locs : List Loc) (ls : Array Slot), va_P (dC, dI) vwCl (w_R cI cZ cS aR aRd aRm aRw aRs aRt aRc aRl aRh aRu aRx aRy aRk of op cr wn fp fs dk mm wk sg tb cs lw hg us de sa ky) H → va_D A (w_R cI cZ cS aR aRd aRm aRw aRs aRt aRc aRl aRh aRu aRx aRy aRk of op cr wn fp fs dk mm wk sg tb cs lw hg us de sa ky) → va_S A s.heap H locs → lv_has ls 10 [(0, .ref aR), (1, .int x1), (2, .int x2), (3, .int x3), (4, .int x4), (5, .int x5)] → W p l e ({ frames := 1, cells := 0, slots := 0, locals := 23 } : Room) s m ([.ref aR, .int a1] : List Value).toArray below meth c H locs 0 0 (MQ below (mk_QI (dC, dI) vwCl (tyz cI cZ cS) A (fun u : (Nat → Int32) => w_R cI cZ cS aR aRd aRm aRw aRs aRt aRc aRl aRh aRu aRx aRy aRk of op cr wn fp fs dk mm wk sg tb cs lw hg us de sa u) R) ([.ref aR, .int a1] : List Value).toArray s 0 0 A) (F0 m 15 ls [])) {k_41 : Int32 → Int32 → Int32 → Int32 → Int32 → Int32 → (Nat → Int32) → Option (Int32 × (Nat → Int32))} (hk_41 : ∀ (x1 : Int32) (x2 : Int32) (x3 : Int32) (x4 : Int32) (x5 : Int32) (x6 : Int32) (ky : Nat → Int32), k_41 x1 x2 x3 x4 x5 x6 ky = some R → ∀ (H : Heap) (locs : List Loc) (ls : Array Slot), va_P (dC, dI) vwCl (w_R cI cZ cS aR aRd aRm aRw aRs aRt aRc aRl aRh aRu aRx aRy aRk of op cr wn fp fs dk mm wk sg tb cs lw hg us de sa ky) H → va_D A (w_R cI cZ cS aR aRd aRm aRw aRs aRt aRc aRl aRh aRu aRx aRy aRk of op cr wn fp fs dk mm wk sg tb cs lw hg us de sa ky) → va_S A s.heap H locs → lv_has ls 10 [(0, .ref aR), (1, .int x1), (2, .int x2), (3, .int x3), (4, .int x4), (5, .int x5), (6, .int x6)] → W p l e ({ frames := 1, cells := 0, slots := 0, locals := 23 } : Room) s m ([.ref aR, .int a1] : List Value).toArray below meth c H locs 0 0 (MQ below (mk_QI (dC, dI) vwCl (tyz cI cZ cS) A (fun u : (Nat → Int32) => w_R cI cZ cS aR aRd aRm aRw aRs aRt aRc aRl aRh aRu aRx aRy aRk of op cr wn fp fs dk mm wk sg tb cs lw hg us de sa u) R) ([.ref aR, .int a1] : List Value).toArray s 0 0 A) (F0 m 41 ls [])) (x1 : Int32) (x2 : Int32) (x3 : Int32) (x4 : Int32) (x5 : Int32) (x6 : Int32) (ky : Nat → Int32) (h : p_R_seekNext_41 mm tb cs lw hg sa k_15 k_41 x1 x2 x3 x4 x5 x6 ky = some R) : ∀ (H : Heap) (locs : List Loc) (ls : Array Slot), va_P (dC, dI) vwCl (w_R cI cZ cS aR aRd aRm aRw aRs aRt aRc aRl aRh aRu aRx aRy aRk of op cr wn fp fs dk mm wk sg tb cs lw hg us de sa ky) H → va_D A (w_R cI cZ cS aR aRd aRm aRw aRs aRt aRc aRl aRh aRu aRx aRy aRk of op cr wn fp fs dk mm wk sg tb cs lw hg us de sa ky) → va_S A s.heap H locs → lv_has ls 10 [(0, .ref aR), (1, .int x1), (2, .int x2), (3, .int x3), (4, .int x4), (5, .int x5), (6, .int x6)] → W p l e ({ frames := 1, cells := 0, slots := 0, locals := 23 } : Room) s m ([.ref aR, .int a1] : List Value).toArray below meth c H locs 0 0 (MQ below (mk_QI (dC, dI) vwCl (tyz cI cZ cS) A (fun u : (Nat → Int32) => w_R cI cZ cS aR aRd aRm aRw aRs aRt aRc aRl aRh aRu aRx aRy aRk of op cr wn fp fs dk mm wk sg tb cs lw hg us de sa u) R) ([.ref aR, .int a1] : List Value).toArray s 0 0 A) (F0 m 41 ls []) := by
  intro H locs ls hP hD hS hl
  obtain ⟨⟨hx, hb, hml, hown, hts⟩, hrt, hlk, hN⟩ := id E
  have hown : s.vm.findClass RX5 = some m.cls := hown
  unfold p_R_seekNext_41 at h
  refine lv_iload hx hb dX5_seekNext_41 (lv_at hl 6 rfl) ?_
  refine lv_aload_n hx hb dX5_seekNext_43 rfl (lv_at hl 0 rfl) ?_
  refine lv_iload_n hx hb dX5_seekNext_44 rfl (lv_at hl 2 rfl) ?_
  obtain ⟨r_9, hr_9, h⟩ := kp_bind h
  refine mk_contR (w := w_R cI cZ cS aR aRd aRm aRw aRs aRt aRc aRl aRh aRu aRx aRy aRk of op cr wn fp fs dk mm wk sg tb cs lw hg us de sa ky) (w0 := w_R cI cZ cS aR aRd aRm aRw aRs aRt aRc aRl aRh aRu aRx aRy aRk of op cr wn fp fs dk mm wk sg tb cs lw hg us de sa ky) (wr := []) hP hD hS hA [0, 1, 2, 3, 4, 5, 6, 7, 8, 9, 10, 11, 12] [] rfl rfl (by decide) (by decide) [0, 1, 2, 3, 4, 5, 6, 7, 8, 9, 10, 11, 12] rfl (by decide) (va_runV (As := [.int x2]) (rest := [.int x6]) ⟨hx, hb, hml, hown, hts⟩ (c_R_slots l dC dI cI cZ cS aR aRd aRm aRw aRs aRt aRc aRl aRh aRu aRx aRy aRk of op cr wn fp fs dk mm wk sg tb cs lw hg us de sa ky x2 r_9 hr_9 H.size) (cwV 1 hts gX5_seekNext_X5_slots rfl rfl rfl (by decide +kernel) ⟨Nat.le_of_ble_eq_true rfl, Nat.le_of_ble_eq_true rfl⟩) (mk_preV (w0 := w_R cI cZ cS aR aRd aRm aRw aRs aRt aRc aRl aRh aRu aRx aRy aRk of op cr wn fp fs dk mm wk sg tb cs lw hg us de sa ky) (ci := 5) (q0 := 0) hN hK (mk_pick hP [0, 1, 2, 3, 4, 5, 6, 7, 8, 9, 10, 11, 12] rfl) (hD.sub [0, 1, 2, 3, 4, 5, 6, 7, 8, 9, 10, 11, 12] (by decide) rfl) rfl rfl rfl) rfl rfl hl.1 rfl (lv_room (Nat.le_of_ble_eq_true rfl)) dX5_seekNext_45 ⟨Nat.zero_le _, Nat.zero_le _⟩) (fun H locs hP hD hS => ?_)
  refine lv_icmp_ge (tgt := 181) hx hb dX5_seekNext_48 (by decide) (fun c_10 => ?_) (fun c_10 => ?_)
  · replace h := (kp_if h).1 c_10
    exact b_R_seekNext_181 E hA hK R hk_15 x1 x2 x3 x4 x5 ky h H locs ls hP hD hS (lv_sub hl [0, 1, 2, 3, 4, 5] rfl)
  · replace h := (kp_if h).2 c_10
    refine lv_aload_n hx hb dX5_seekNext_51 rfl (lv_at hl 0 rfl) ?_
    refine lv_iload_n hx hb dX5_seekNext_52 rfl (lv_at hl 2 rfl) ?_
    refine lv_iload hx hb dX5_seekNext_53 (lv_at hl 5 rfl) ?_
    refine lv_iload hx hb dX5_seekNext_55 (lv_at hl 6 rfl) ?_
    obtain ⟨r_11, hr_11, h⟩ := kp_bind h
    refine mk_contR (w := w_R cI cZ cS aR aRd aRm aRw aRs aRt aRc aRl aRh aRu aRx aRy aRk of op cr wn fp fs dk mm wk sg tb cs lw hg us de sa ky) (w0 := w_R cI cZ cS aR aRd aRm aRw aRs aRt aRc aRl aRh aRu aRx aRy aRk of op cr wn fp fs dk mm wk sg tb cs lw hg us de sa ky) (wr := []) hP hD hS hA [0, 1, 2, 3, 4, 5, 6, 7, 8, 9, 10, 11, 12] [] rfl rfl (by decide) (by decide) [0, 1, 2, 3, 4, 5, 6, 7, 8, 9, 10, 11, 12] rfl (by decide) (va_runV (As := [.int x2, .int x5, .int x6]) (rest := []) ⟨hx, hb, hml, hown, hts⟩ (c_R_wordOf l dC dI cI cZ cS aR aRd aRm aRw aRs aRt aRc aRl aRh aRu aRx aRy aRk of op cr wn fp fs dk mm wk sg tb cs lw hg us de sa ky x2 x5 x6 r_11 hr_11 H.size) (cwV 3 hts gX5_seekNext_X5_wordOf rfl rfl rfl (by decide +kernel) ⟨Nat.le_of_ble_eq_true rfl, Nat.le_of_ble_eq_true rfl⟩) (mk_preV (w0 := w_R cI cZ cS aR aRd aRm aRw aRs aRt aRc aRl aRh aRu aRx aRy aRk of op cr wn fp fs dk mm wk sg tb cs lw hg us de sa ky) (ci := 5) (q0 := 0) hN hK (mk_pick hP [0, 1, 2, 3, 4, 5, 6, 7, 8, 9, 10, 11, 12] rfl) (hD.sub [0, 1, 2, 3, 4, 5, 6, 7, 8, 9, 10, 11, 12] (by decide) rfl) rfl rfl rfl) rfl rfl hl.1 rfl (lv_room (Nat.le_of_ble_eq_true rfl)) dX5_seekNext_57 ⟨Nat.zero_le _, Nat.zero_le _⟩) (fun H locs hP hD hS => ?_)
    refine lv_istore (lv' := [(7, .int r_11), (0, .ref aR), (1, .int x1), (2, .int x2), (3, .int x3), (4, .int x4), (5, .int x5), (6, .int x6)]) hx hb dX5_seekNext_60 hl (by decide) rfl (fun ls hl => ?_)
    refine lv_aload_n hx hb dX5_seekNext_62 rfl (lv_at hl 1 rfl) ?_
    refine va_get (D := (dC, dI)) (ci := 5) (v := .ref aRm) (C := RX5) (T := TX5) (N := 18) hx hb hts iw_R_seekNext_Model hown hK hP 0 rfl rfl 1 (by decide) (hts _ mm_R_seekNext_0) (fun _ h9 => h9) rfl dX5_seekNext_63 ?_
    refine lv_iload hx hb dX5_seekNext_66 (lv_at hl 0 rfl) ?_
    refine lv_aload_n hx hb dX5_seekNext_68 rfl (lv_at hl 1 rfl) ?_
    refine va_get (D := (dC, dI)) (ci := 5) (v := .ref aRc) (C := RX5) (T := TX5) (N := 18) hx hb hts iw_R_seekNext_Model hown hK hP 0 rfl rfl 9 (by decide) (hts _ mm_R_seekNext_2) (fun _ h9 => h9) rfl dX5_seekNext_69 ?_
    refine lv_iload_n hx hb dX5_seekNext_72 rfl (lv_at hl 2 rfl) ?_
    obtain ⟨hc_12, h⟩ := kp_in h
    refine va_iald hx hb hK hP 6 0 rfl rfl (kx_of hc_12) dX5_seekNext_73 ?_
    refine lv_iadd hx hb dX5_seekNext_74 ?_
    obtain ⟨hc_13, h⟩ := kp_in h
    refine va_iald hx hb hK hP 2 0 rfl rfl (kx_of hc_13) dX5_seekNext_75 ?_
    refine lv_topi (fun v_14 ev_14 => ?_)
    replace h := kp_kl h v_14 ev_14
    refine lv_istore (lv' := [(8, .int v_14), (7, .int r_11), (0, .ref aR), (1, .int x1), (2, .int x2), (3, .int x3), (4, .int x4), (5, .int x5), (6, .int x6)]) hx hb dX5_seekNext_76 hl (by decide) rfl (fun ls hl => ?_)
    refine lv_aload_n hx hb dX5_seekNext_78 rfl (lv_at hl 2 rfl) ?_
    refine lv_iload hx hb dX5_seekNext_79 (lv_at hl 7 rfl) ?_
    refine lv_iload hx hb dX5_seekNext_81 (lv_at hl 8 rfl) ?_
    obtain ⟨r_15, hr_15, h⟩ := kp_bind h
    refine mk_contR (w := w_R cI cZ cS aR aRd aRm aRw aRs aRt aRc aRl aRh aRu aRx aRy aRk of op cr wn fp fs dk mm wk sg tb cs lw hg us de sa ky) (w0 := w_R cI cZ cS aR aRd aRm aRw aRs aRt aRc aRl aRh aRu aRx aRy aRk of op cr wn fp fs dk mm wk sg tb cs lw hg us de sa ky) (wr := []) hP hD hS hA [0, 1, 2, 3, 4, 5, 6, 7, 8, 9, 10, 11, 12] [] rfl rfl (by decide) (by decide) [0, 1, 2, 3, 4, 5, 6, 7, 8, 9, 10, 11, 12] rfl (by decide) (va_runV (As := [.int x5, .int x6]) (rest := []) ⟨hx, hb, hml, hown, hts⟩ (c_R_filled l dC dI cI cZ cS aR aRd aRm aRw aRs aRt aRc aRl aRh aRu aRx aRy aRk of op cr wn fp fs dk mm wk sg tb cs lw hg us de sa ky x5 x6 r_15 hr_15 H.size) (cwV 2 hts gX5_seekNext_X5_filled rfl rfl rfl (by decide +kernel) ⟨Nat.le_of_ble_eq_true rfl, Nat.le_of_ble_eq_true rfl⟩) (mk_preV (w0 := w_R cI cZ cS aR aRd aRm aRw aRs aRt aRc aRl aRh aRu aRx aRy aRk of op cr wn fp fs dk mm wk sg tb cs lw hg us de sa ky) (ci := 5) (q0 := 0) hN hK (mk_pick hP [0, 1, 2, 3, 4, 5, 6, 7, 8, 9, 10, 11, 12] rfl) (hD.sub [0, 1, 2, 3, 4, 5, 6, 7, 8, 9, 10, 11, 12] (by decide) rfl) rfl rfl rfl) rfl rfl hl.1 rfl (lv_room (Nat.le_of_ble_eq_true rfl)) dX5_seekNext_83 ⟨Nat.zero_le _, Nat.zero_le _⟩) (fun H locs hP hD hS => ?_)
    refine lv_if_eq (tgt := 140) hx hb dX5_seekNext_86 (by decide) (fun c_16 => ?_) (fun c_16 => ?_)
    · replace h := (kp_if h).1 c_16
      exact b_R_seekNext_140 E hA hK R hk_15 hk_41 x1 x2 x3 x4 x5 x6 r_11 ky h H locs ls hP hD hS (lv_sub hl [2, 3, 4, 5, 6, 7, 8, 1] rfl)
    · replace h := (kp_if h).2 c_16
      refine lv_iload hx hb dX5_seekNext_89 (lv_at hl 0 rfl) ?_
      refine lv_aload_n hx hb dX5_seekNext_91 rfl (lv_at hl 2 rfl) ?_
      refine va_get (D := (dC, dI)) (ci := 5) (v := .ref aRl) (C := RX5) (T := TX5) (N := 18) hx hb hts iw_R_seekNext_Model hown hK hP 0 rfl rfl 10 (by decide) (hts _ mm_R_seekNext_3) (fun _ h9 => h9) rfl dX5_seekNext_92 ?_
      refine lv_iload_n hx hb dX5_seekNext_95 rfl (lv_at hl 3 rfl) ?_
      obtain ⟨hc_17, h⟩ := kp_in h
      refine va_iald hx hb hK hP 7 0 rfl rfl (kx_of hc_17) dX5_seekNext_96 ?_
      refine lv_icmp_lt (tgt := 140) hx hb dX5_seekNext_97 (by decide) (fun c_18 => ?_) (fun c_18 => ?_)
      · replace h := (kp_if h).1 c_18
        exact b_R_seekNext_140 E hA hK R hk_15 hk_41 x1 x2 x3 x4 x5 x6 r_11 ky h H locs ls hP hD hS (lv_sub hl [2, 3, 4, 5, 6, 7, 8, 1] rfl)
      · replace h := (kp_if h).2 c_18
        refine lv_iload hx hb dX5_seekNext_100 (lv_at hl 0 rfl) ?_
        refine lv_aload_n hx hb dX5_seekNext_102 rfl (lv_at hl 2 rfl) ?_
        refine va_get (D := (dC, dI)) (ci := 5) (v := .ref aRh) (C := RX5) (T := TX5) (N := 18) hx hb hts iw_R_seekNext_Model hown hK hP 0 rfl rfl 11 (by decide) (hts _ mm_R_seekNext_4) (fun _ h9 => h9) rfl dX5_seekNext_103 ?_
        refine lv_iload_n hx hb dX5_seekNext_106 rfl (lv_at hl 3 rfl) ?_
        obtain ⟨hc_19, h⟩ := kp_in h
        refine va_iald hx hb hK hP 8 0 rfl rfl (kx_of hc_19) dX5_seekNext_107 ?_
        refine lv_icmp_gt (tgt := 140) hx hb dX5_seekNext_108 (by decide) (fun c_20 => ?_) (fun c_20 => ?_)
        · replace h := (kp_if h).1 c_20
          exact b_R_seekNext_140 E hA hK R hk_15 hk_41 x1 x2 x3 x4 x5 x6 r_11 ky h H locs ls hP hD hS (lv_sub hl [2, 3, 4, 5, 6, 7, 8, 1] rfl)
        · replace h := (kp_if h).2 c_20
          refine lv_aload_n hx hb dX5_seekNext_111 rfl (lv_at hl 2 rfl) ?_
          refine va_get (D := (dC, dI)) (ci := 5) (v := .ref aRy) (C := RX5) (T := TX5) (N := 18) hx hb hts iw_R_seekNext_Model hown hK hP 0 rfl rfl 14 (by decide) (hts _ mm_R_seekNext_5) (fun _ h9 => h9) rfl dX5_seekNext_112 ?_
          refine lv_iload_n hx hb dX5_seekNext_115 rfl (lv_at hl 3 rfl) ?_
          obtain ⟨hc_21, h⟩ := kp_in h
          refine va_iald hx hb hK hP 11 0 rfl rfl (kx_of hc_21) dX5_seekNext_116 ?_
          refine lv_if_eq (tgt := 136) hx hb dX5_seekNext_117 (by decide) (fun c_22 => ?_) (fun c_22 => ?_)
          · replace h := (kp_if h).1 c_22
            exact b_R_seekNext_136 E hA hK R hk_15 hk_41 x1 x2 x3 x4 x5 x6 r_11 ky h H locs ls hP hD hS (lv_sub hl [2, 3, 4, 5, 6, 7, 8, 1] rfl)
          · replace h := (kp_if h).2 c_22
            refine lv_aload_n hx hb dX5_seekNext_120 rfl (lv_at hl 2 rfl) ?_
            refine va_get (D := (dC, dI)) (ci := 5) (v := .ref aRm) (C := RX5) (T := TX5) (N := 18) hx hb hts iw_R_seekNext_Model hown hK hP 0 rfl rfl 1 (by decide) (hts _ mm_R_seekNext_0) (fun _ h9 => h9) rfl dX5_seekNext_121 ?_
            refine lv_iload hx hb dX5_seekNext_124 (lv_at hl 1 rfl) ?_
            obtain ⟨hc_23, h⟩ := kp_in h
            refine va_iald hx hb hK hP 2 0 rfl rfl (kx_of hc_23) dX5_seekNext_126 ?_
            refine lv_aload_n hx hb dX5_seekNext_127 rfl (lv_at hl 2 rfl) ?_
            refine va_get (D := (dC, dI)) (ci := 5) (v := .ref aRk) (C := RX5) (T := TX5) (N := 18) hx hb hts iw_R_seekNext_Model hown hK hP 0 rfl rfl 15 (by decide) (hts _ mm_R_seekNext_6) (fun _ h9 => h9) rfl dX5_seekNext_128 ?_
            refine lv_iload_n hx hb dX5_seekNext_131 rfl (lv_at hl 3 rfl) ?_
            obtain ⟨hc_24, h⟩ := kp_in h
            refine va_iald hx hb hK hP 12 0 rfl rfl (kx_of hc_24) dX5_seekNext_132 ?_
            refine lv_icmp_le (tgt := 140) hx hb dX5_seekNext_133 (by decide) (fun c_25 => ?_) (fun c_25 => ?_)
            · replace h := (kp_if h).1 c_25
              exact b_R_seekNext_140 E hA hK R hk_15 hk_41 x1 x2 x3 x4 x5 x6 r_11 ky h H locs ls hP hD hS (lv_sub hl [2, 3, 4, 5, 6, 7, 8, 1] rfl)
            · replace h := (kp_if h).2 c_25
              exact b_R_seekNext_136 E hA hK R hk_15 hk_41 x1 x2 x3 x4 x5 x6 r_11 ky h H locs ls hP hD hS (lv_sub hl [2, 3, 4, 5, 6, 7, 8, 1] rfl)
set_option maxHeartbeats 4000000 in
set_option maxRecDepth 100000 in
theorem l_R_seekNext_41 {p : Program} {l : Launch} {e : Env} {s : State} {m : MethodId} {below : List Frame} {meth : Method} {c : Code} {A : Nat → Prop} {dC : Nat → ClassId} {dI : Nat → Nat → Nat} {cI cZ cS : ClassId} {aR aRd aRm aRw aRs aRt aRc aRl aRh aRu aRx aRy aRk : Nat} {of : Int32} {op : Int32} {cr : Int32} {wn : Int32} {fp : Int32} {fs : Int32} {dk : Nat → Int32} {mm : Nat → Int32} {wk : Nat → Int32} {sg : Nat → Int32} {tb : Nat → Int32} {cs : Nat → Int32} {lw : Nat → Int32} {hg : Nat → Int32} {us : Nat → Int32} {de : Nat → Int32} {sa : Nat → Int32} {a1 : Int32} (E : mk_En p s m meth c cX5_seekNext 10 (some .boolean) ([.ref aR, .int a1] : List Value).toArray wsX5_seekNext yX5_seekNext.cls) (hA : ∀ q : Nat, s.heap.size ≤ q → A q) (hK : va_K (dC, dI) vwCl (tyz cI cZ cS) s) (R : Int32 × (Nat → Int32)) {k_15 : Int32 → Int32 → Int32 → Int32 → Int32 → (Nat → Int32) → Option (Int32 × (Nat → Int32))} (hk_15 : ∀ (x1 : Int32) (x2 : Int32) (x3 : Int32) (x4 : Int32) (x5 : Int32) (ky : Nat → Int32), k_15 x1 x2 x3 x4 x5 ky = some R → ∀ (H : Heap) (locs : List Loc) (ls : Array Slot), va_P (dC, dI) vwCl (w_R cI cZ cS aR aRd aRm aRw aRs aRt aRc aRl aRh aRu aRx aRy aRk of op cr wn fp fs dk mm wk sg tb cs lw hg us de sa ky) H → va_D A (w_R cI cZ cS aR aRd aRm aRw aRs aRt aRc aRl aRh aRu aRx aRy aRk of op cr wn fp fs dk mm wk sg tb cs lw hg us de sa ky) → va_S A s.heap H locs → lv_has ls 10 [(0, .ref aR), (1, .int x1), (2, .int x2), (3, .int x3), (4, .int x4), (5, .int x5)] → W p l e ({ frames := 1, cells := 0, slots := 0, locals := 23 } : Room) s m ([.ref aR, .int a1] : List Value).toArray below meth c H locs 0 0 (MQ below (mk_QI (dC, dI) vwCl (tyz cI cZ cS) A (fun u : (Nat → Int32) => w_R cI cZ cS aR aRd aRm aRw aRs aRt aRc aRl aRh aRu aRx aRy aRk of op cr wn fp fs dk mm wk sg tb cs lw hg us de sa u) R) ([.ref aR, .int a1] : List Value).toArray s 0 0 A) (F0 m 15 ls [])) : ∀ (n : Nat) (x1 : Int32) (x2 : Int32) (x3 : Int32) (x4 : Int32) (x5 : Int32) (x6 : Int32) (ky : Nat → Int32), pl_R_seekNext_41 mm tb cs lw hg sa k_15 n x1 x2 x3 x4 x5 x6 ky = some R → ∀ (H : Heap) (locs : List Loc) (ls : Array Slot), va_P (dC, dI) vwCl (w_R cI cZ cS aR aRd aRm aRw aRs aRt aRc aRl aRh aRu aRx aRy aRk of op cr wn fp fs dk mm wk sg tb cs lw hg us de sa ky) H → va_D A (w_R cI cZ cS aR aRd aRm aRw aRs aRt aRc aRl aRh aRu aRx aRy aRk of op cr wn fp fs dk mm wk sg tb cs lw hg us de sa ky) → va_S A s.heap H locs → lv_has ls 10 [(0, .ref aR), (1, .int x1), (2, .int x2), (3, .int x3), (4, .int x4), (5, .int x5), (6, .int x6)] → W p l e ({ frames := 1, cells := 0, slots := 0, locals := 23 } : Room) s m ([.ref aR, .int a1] : List Value).toArray below meth c H locs 0 0 (MQ below (mk_QI (dC, dI) vwCl (tyz cI cZ cS) A (fun u : (Nat → Int32) => w_R cI cZ cS aR aRd aRm aRw aRs aRt aRc aRl aRh aRu aRx aRy aRk of op cr wn fp fs dk mm wk sg tb cs lw hg us de sa u) R) ([.ref aR, .int a1] : List Value).toArray s 0 0 A) (F0 m 41 ls []) := by
  intro n
  induction n with
  | zero =>
    intro x1 x2 x3 x4 x5 x6 ky h
    cases h
  | succ n ih =>
    intro x1 x2 x3 x4 x5 x6 ky h
    exact b_R_seekNext_41 E hA hK R hk_15 ih x1 x2 x3 x4 x5 x6 ky h
set_option maxHeartbeats 4000000 in
set_option maxRecDepth 100000 in
theorem b_R_seekNext_15 {p : Program} {l : Launch} {e : Env} {s : State} {m : MethodId} {below : List Frame} {meth : Method} {c : Code} {A : Nat → Prop} {dC : Nat → ClassId} {dI : Nat → Nat → Nat} {cI cZ cS : ClassId} {aR aRd aRm aRw aRs aRt aRc aRl aRh aRu aRx aRy aRk : Nat} {of : Int32} {op : Int32} {cr : Int32} {wn : Int32} {fp : Int32} {fs : Int32} {dk : Nat → Int32} {mm : Nat → Int32} {wk : Nat → Int32} {sg : Nat → Int32} {tb : Nat → Int32} {cs : Nat → Int32} {lw : Nat → Int32} {hg : Nat → Int32} {us : Nat → Int32} {de : Nat → Int32} {sa : Nat → Int32} {a1 : Int32} (E : mk_En p s m meth c cX5_seekNext 10 (some .boolean) ([.ref aR, .int a1] : List Value).toArray wsX5_seekNext yX5_seekNext.cls) (hA : ∀ q : Nat, s.heap.size ≤ q → A q) (hK : va_K (dC, dI) vwCl (tyz cI cZ cS) s) (R : Int32 × (Nat → Int32)) {k_15 : Int32 → Int32 → Int32 → Int32 → Int32 → (Nat → Int32) → Option (Int32 × (Nat → Int32))} (hk_15 : ∀ (x1 : Int32) (x2 : Int32) (x3 : Int32) (x4 : Int32) (x5 : Int32) (ky : Nat → Int32), k_15 x1 x2 x3 x4 x5 ky = some R → ∀ (H : Heap) (locs : List Loc) (ls : Array Slot), va_P (dC, dI) vwCl (w_R cI cZ cS aR aRd aRm aRw aRs aRt aRc aRl aRh aRu aRx aRy aRk of op cr wn fp fs dk mm wk sg tb cs lw hg us de sa ky) H → va_D A (w_R cI cZ cS aR aRd aRm aRw aRs aRt aRc aRl aRh aRu aRx aRy aRk of op cr wn fp fs dk mm wk sg tb cs lw hg us de sa ky) → va_S A s.heap H locs → lv_has ls 10 [(0, .ref aR), (1, .int x1), (2, .int x2), (3, .int x3), (4, .int x4), (5, .int x5)] → W p l e ({ frames := 1, cells := 0, slots := 0, locals := 23 } : Room) s m ([.ref aR, .int a1] : List Value).toArray below meth c H locs 0 0 (MQ below (mk_QI (dC, dI) vwCl (tyz cI cZ cS) A (fun u : (Nat → Int32) => w_R cI cZ cS aR aRd aRm aRw aRs aRt aRc aRl aRh aRu aRx aRy aRk of op cr wn fp fs dk mm wk sg tb cs lw hg us de sa u) R) ([.ref aR, .int a1] : List Value).toArray s 0 0 A) (F0 m 15 ls [])) (x1 : Int32) (x2 : Int32) (x3 : Int32) (x4 : Int32) (x5 : Int32) (ky : Nat → Int32) (h : p_R_seekNext_15 mm tb cs lw hg sa k_15 x1 x2 x3 x4 x5 ky = some R) : ∀ (H : Heap) (locs : List Loc) (ls : Array Slot), va_P (dC, dI) vwCl (w_R cI cZ cS aR aRd aRm aRw aRs aRt aRc aRl aRh aRu aRx aRy aRk of op cr wn fp fs dk mm wk sg tb cs lw hg us de sa ky) H → va_D A (w_R cI cZ cS aR aRd aRm aRw aRs aRt aRc aRl aRh aRu aRx aRy aRk of op cr wn fp fs dk mm wk sg tb cs lw hg us de sa ky) → va_S A s.heap H locs → lv_has ls 10 [(0, .ref aR), (1, .int x1), (2, .int x2), (3, .int x3), (4, .int x4), (5, .int x5)] → W p l e ({ frames := 1, cells := 0, slots := 0, locals := 23 } : Room) s m ([.ref aR, .int a1] : List Value).toArray below meth c H locs 0 0 (MQ below (mk_QI (dC, dI) vwCl (tyz cI cZ cS) A (fun u : (Nat → Int32) => w_R cI cZ cS aR aRd aRm aRw aRs aRt aRc aRl aRh aRu aRx aRy aRk of op cr wn fp fs dk mm wk sg tb cs lw hg us de sa u) R) ([.ref aR, .int a1] : List Value).toArray s 0 0 A) (F0 m 15 ls []) := by
  intro H locs ls hP hD hS hl
  obtain ⟨⟨hx, hb, hml, hown, hts⟩, hrt, hlk, hN⟩ := id E
  have hown : s.vm.findClass RX5 = some m.cls := hown
  unfold p_R_seekNext_15 at h
  refine lv_iload hx hb dX5_seekNext_15 (lv_at hl 5 rfl) ?_
  refine lv_bipush (v := 16) hx hb dX5_seekNext_17 (by decide) ?_
  refine lv_icmp_ge (tgt := 187) hx hb dX5_seekNext_19 (by decide) (fun c_26 => ?_) (fun c_26 => ?_)
  · replace h := (kp_if h).1 c_26
    refine lv_aload_n hx hb dX5_seekNext_187 rfl (lv_at hl 0 rfl) ?_
    refine va_get (D := (dC, dI)) (ci := 5) (v := .ref aRk) (C := RX5) (T := TX5) (N := 18) hx hb hts iw_R_seekNext_Model hown hK hP 0 rfl rfl 15 (by decide) (hts _ mm_R_seekNext_6) (fun _ h9 => h9) rfl dX5_seekNext_188 ?_
    refine lv_iload_n hx hb dX5_seekNext_191 rfl (lv_at hl 1 rfl) ?_
    refine lv_iload_n hx hb dX5_seekNext_192 rfl (lv_at hl 3 rfl) ?_
    refine lv_if_eq (tgt := 201) hx hb dX5_seekNext_193 (by decide) (fun c_27 => ?_) (fun c_27 => ?_)
    · replace h := (kp_if h).1 c_27
      refine lv_aload_n hx hb dX5_seekNext_201 rfl (lv_at hl 0 rfl) ?_
      refine va_get (D := (dC, dI)) (ci := 5) (v := .ref aRk) (C := RX5) (T := TX5) (N := 18) hx hb hts iw_R_seekNext_Model hown hK hP 0 rfl rfl 15 (by decide) (hts _ mm_R_seekNext_6) (fun _ h9 => h9) rfl dX5_seekNext_202 ?_
      refine lv_iload_n hx hb dX5_seekNext_205 rfl (lv_at hl 1 rfl) ?_
      obtain ⟨hc_28, h⟩ := kp_in h
      refine va_iald hx hb hK hP 12 0 rfl rfl (kx_of hc_28) dX5_seekNext_206 ?_
      exact b_R_seekNext_207 E hA hK R x3 (ky x1.toNatClampNeg) x1 ky h H locs ls hP hD hS (lv_sub hl [3] rfl)
    · replace h := (kp_if h).2 c_27
      refine lv_iload hx hb dX5_seekNext_196 (lv_at hl 4 rfl) ?_
      refine lv_goto (tgt := 207) hx hb dX5_seekNext_198 (by decide) ?_
      exact b_R_seekNext_207 E hA hK R x3 x4 x1 ky h H locs ls hP hD hS (lv_sub hl [3] rfl)
  · replace h := (kp_if h).2 c_26
    refine lv_aload_n hx hb dX5_seekNext_22 rfl (lv_at hl 0 rfl) ?_
    refine va_get (D := (dC, dI)) (ci := 5) (v := .ref aRm) (C := RX5) (T := TX5) (N := 18) hx hb hts iw_R_seekNext_Model hown hK hP 0 rfl rfl 1 (by decide) (hts _ mm_R_seekNext_0) (fun _ h9 => h9) rfl dX5_seekNext_23 ?_
    refine lv_bipush (v := 16) hx hb dX5_seekNext_26 (by decide) ?_
    refine lv_iload hx hb dX5_seekNext_28 (lv_at hl 5 rfl) ?_
    refine lv_imul hx hb dX5_seekNext_30 ?_
    obtain ⟨hc_29, h⟩ := kp_in h
    refine va_iald hx hb hK hP 2 0 rfl rfl (kx_of hc_29) dX5_seekNext_31 ?_
    refine lv_iload_n hx hb dX5_seekNext_32 rfl (lv_at hl 2 rfl) ?_
    refine lv_iconst (v := 1) hx hb dX5_seekNext_33 (by decide) ?_
    refine lv_iadd hx hb dX5_seekNext_34 ?_
    refine lv_icmp_ne (tgt := 181) hx hb dX5_seekNext_35 (by decide) (fun c_30 => ?_) (fun c_30 => ?_)
    · replace h := (kp_if h).2 c_30
      exact b_R_seekNext_181 E hA hK R hk_15 x1 x2 x3 x4 x5 ky h H locs ls hP hD hS (lv_sub hl [0, 1, 2, 3, 4, 5] rfl)
    · replace h := (kp_if h).1 c_30
      refine lv_iconst (v := 0) hx hb dX5_seekNext_38 (by decide) ?_
      refine lv_istore (lv' := [(6, .int 0), (0, .ref aR), (1, .int x1), (2, .int x2), (3, .int x3), (4, .int x4), (5, .int x5)]) hx hb dX5_seekNext_39 hl (by decide) rfl (fun ls hl => ?_)
      exact l_R_seekNext_41 E hA hK R hk_15 1000 x1 x2 x3 x4 x5 0 ky h H locs ls hP hD hS (lv_sub hl [1, 2, 3, 4, 5, 6, 0] rfl)
set_option maxHeartbeats 4000000 in
set_option maxRecDepth 100000 in
theorem l_R_seekNext_15 {p : Program} {l : Launch} {e : Env} {s : State} {m : MethodId} {below : List Frame} {meth : Method} {c : Code} {A : Nat → Prop} {dC : Nat → ClassId} {dI : Nat → Nat → Nat} {cI cZ cS : ClassId} {aR aRd aRm aRw aRs aRt aRc aRl aRh aRu aRx aRy aRk : Nat} {of : Int32} {op : Int32} {cr : Int32} {wn : Int32} {fp : Int32} {fs : Int32} {dk : Nat → Int32} {mm : Nat → Int32} {wk : Nat → Int32} {sg : Nat → Int32} {tb : Nat → Int32} {cs : Nat → Int32} {lw : Nat → Int32} {hg : Nat → Int32} {us : Nat → Int32} {de : Nat → Int32} {sa : Nat → Int32} {a1 : Int32} (E : mk_En p s m meth c cX5_seekNext 10 (some .boolean) ([.ref aR, .int a1] : List Value).toArray wsX5_seekNext yX5_seekNext.cls) (hA : ∀ q : Nat, s.heap.size ≤ q → A q) (hK : va_K (dC, dI) vwCl (tyz cI cZ cS) s) (R : Int32 × (Nat → Int32)) : ∀ (n : Nat) (x1 : Int32) (x2 : Int32) (x3 : Int32) (x4 : Int32) (x5 : Int32) (ky : Nat → Int32), pl_R_seekNext_15 mm tb cs lw hg sa n x1 x2 x3 x4 x5 ky = some R → ∀ (H : Heap) (locs : List Loc) (ls : Array Slot), va_P (dC, dI) vwCl (w_R cI cZ cS aR aRd aRm aRw aRs aRt aRc aRl aRh aRu aRx aRy aRk of op cr wn fp fs dk mm wk sg tb cs lw hg us de sa ky) H → va_D A (w_R cI cZ cS aR aRd aRm aRw aRs aRt aRc aRl aRh aRu aRx aRy aRk of op cr wn fp fs dk mm wk sg tb cs lw hg us de sa ky) → va_S A s.heap H locs → lv_has ls 10 [(0, .ref aR), (1, .int x1), (2, .int x2), (3, .int x3), (4, .int x4), (5, .int x5)] → W p l e ({ frames := 1, cells := 0, slots := 0, locals := 23 } : Room) s m ([.ref aR, .int a1] : List Value).toArray below meth c H locs 0 0 (MQ below (mk_QI (dC, dI) vwCl (tyz cI cZ cS) A (fun u : (Nat → Int32) => w_R cI cZ cS aR aRd aRm aRw aRs aRt aRc aRl aRh aRu aRx aRy aRk of op cr wn fp fs dk mm wk sg tb cs lw hg us de sa u) R) ([.ref aR, .int a1] : List Value).toArray s 0 0 A) (F0 m 15 ls []) := by
  intro n
  induction n with
  | zero =>
    intro x1 x2 x3 x4 x5 ky h
    cases h
  | succ n ih =>
    intro x1 x2 x3 x4 x5 ky h
    exact b_R_seekNext_15 E hA hK R ih x1 x2 x3 x4 x5 ky h
set_option maxHeartbeats 4000000 in
set_option maxRecDepth 100000 in
theorem c_R_seekNext (l : Launch) (dC : Nat → ClassId) (dI : Nat → Nat → Nat) (cI cZ cS : ClassId) (aR aRd aRm aRw aRs aRt aRc aRl aRh aRu aRx aRy aRk : Nat) (of : Int32) (op : Int32) (cr : Int32) (wn : Int32) (fp : Int32) (fs : Int32) (dk : Nat → Int32) (mm : Nat → Int32) (wk : Nat → Int32) (sg : Nat → Int32) (tb : Nat → Int32) (cs : Nat → Int32) (lw : Nat → Int32) (hg : Nat → Int32) (us : Nat → Int32) (de : Nat → Int32) (sa : Nat → Int32) (ky : Nat → Int32) (a1 : Int32) : CtI l yX5_seekNext wsX5_seekNext ({ frames := 1, cells := 0, slots := 0, locals := 23 }) (dC, dI) vwCl (tyz cI cZ cS) [.ref aR, .int a1] (w_R cI cZ cS aR aRd aRm aRw aRs aRt aRc aRl aRh aRu aRx aRy aRk of op cr wn fp fs dk mm wk sg tb cs lw hg us de sa ky) (fun u : (Nat → Int32) => w_R cI cZ cS aR aRd aRm aRw aRs aRt aRc aRl aRh aRu aRx aRy aRk of op cr wn fp fs dk mm wk sg tb cs lw hg us de sa u) (p_R_seekNext mm tb cs lw hg sa ky a1) := by
  intro R h
  refine mk_enter (Qc := (fun A => mk_QI (dC, dI) vwCl (tyz cI cZ cS) A (fun u : (Nat → Int32) => w_R cI cZ cS aR aRd aRm aRw aRs aRt aRc aRl aRh aRu aRx aRy aRk of op cr wn fp fs dk mm wk sg tb cs lw hg us de sa u) R)) (by decide) rfl (Nat.le_of_ble_eq_true rfl) ?_
  intro p e s m below meth c A E hA hK H locs ls hP hD hS hl
  obtain ⟨⟨hx, hb, hml, hown, hts⟩, hrt, hlk, hN⟩ := id E
  have hown : s.vm.findClass RX5 = some m.cls := hown
  have hl : lv_has ls 10 [(0, .ref aR), (1, .int a1)] := hl
  unfold p_R_seekNext at h
  refine lv_aload_n hx hb dX5_seekNext_0 rfl (lv_at hl 0 rfl) ?_
  refine va_get (D := (dC, dI)) (ci := 5) (v := .ref aRt) (C := RX5) (T := TX5) (N := 18) hx hb hts iw_R_seekNext_Model hown hK hP 0 rfl rfl 8 (by decide) (hts _ mm_R_seekNext_7) (fun _ h9 => h9) rfl dX5_seekNext_1 ?_
  refine lv_iload_n hx hb dX5_seekNext_4 rfl (lv_at hl 1 rfl) ?_
  obtain ⟨hc_31, h⟩ := kp_in h
  refine va_iald hx hb hK hP 5 0 rfl rfl (kx_of hc_31) dX5_seekNext_5 ?_
  refine lv_topi (fun v_32 ev_32 => ?_)
  replace h := kp_kl h v_32 ev_32
  refine lv_istore_n (lv' := [(2, .int v_32), (0, .ref aR), (1, .int a1)]) hx hb dX5_seekNext_6 rfl hl (by decide) rfl (fun ls hl => ?_)
  refine lv_iconst (v := 0) hx hb dX5_seekNext_7 (by decide) ?_
  refine lv_istore_n (lv' := [(3, .int 0), (2, .int v_32), (0, .ref aR), (1, .int a1)]) hx hb dX5_seekNext_8 rfl hl (by decide) rfl (fun ls hl => ?_)
  refine lv_iconst (v := 0) hx hb dX5_seekNext_9 (by decide) ?_
  refine lv_istore (lv' := [(4, .int 0), (3, .int 0), (2, .int v_32), (0, .ref aR), (1, .int a1)]) hx hb dX5_seekNext_10 hl (by decide) rfl (fun ls hl => ?_)
  refine lv_iconst (v := 1) hx hb dX5_seekNext_12 (by decide) ?_
  refine lv_istore (lv' := [(5, .int 1), (4, .int 0), (3, .int 0), (2, .int v_32), (0, .ref aR), (1, .int a1)]) hx hb dX5_seekNext_13 hl (by decide) rfl (fun ls hl => ?_)
  exact l_R_seekNext_15 E hA hK R 1000 a1 v_32 0 0 1 ky h H locs ls hP hD hS (lv_sub hl [4, 5, 3, 2, 1, 0] rfl)

/- Model.next(I)Z -/
set_option maxRecDepth 20000 in
theorem mm_R_next_0 : Cond.fieldLink RX5 42 "JournaledTablesModel" "dead" "[Z" ∈ wsX5_next := by decide +kernel
set_option maxRecDepth 20000 in
theorem iw_R_next_Model : ∀ w ∈ u_ws RX5 TX5 18, w ∈ wsX5_next := by decide +kernel
set_option maxRecDepth 20000 in
theorem mm_R_next_2 : Cond.fieldLink RX5 45 "JournaledTablesModel" "states" "[I" ∈ wsX5_next := by decide +kernel
set_option maxHeartbeats 4000000 in
set_option maxRecDepth 100000 in
theorem b_R_next_49 {p : Program} {l : Launch} {e : Env} {s : State} {m : MethodId} {below : List Frame} {meth : Method} {c : Code} {A : Nat → Prop} {dC : Nat → ClassId} {dI : Nat → Nat → Nat} {cI cZ cS : ClassId} {aR aRd aRm aRw aRs aRt aRc aRl aRh aRu aRx aRy aRk : Nat} {of : Int32} {op : Int32} {cr : Int32} {wn : Int32} {fp : Int32} {fs : Int32} {dk : Nat → Int32} {mm : Nat → Int32} {wk : Nat → Int32} {sg : Nat → Int32} {tb : Nat → Int32} {cs : Nat → Int32} {lw : Nat → Int32} {hg : Nat → Int32} {us : Nat → Int32} {de : Nat → Int32} {a1 : Int32} (E : mk_En p s m meth c cX5_next 3 (some .boolean) ([.ref aR, .int a1] : List Value).toArray wsX5_next yX5_next.cls) (hA : ∀ q : Nat, s.heap.size ≤ q → A q) (hK : va_K (dC, dI) vwCl (tyz cI cZ cS) s) (R : Int32 × (Nat → Int32) × (Nat → Int32)) (x2 : Int32) (z0 : Int32) (z1 : Int32) (sa : Nat → Int32) (ky : Nat → Int32) (h : p_R_next_49 of mm tb cs lw hg us de x2 z0 z1 sa ky = some R) : ∀ (H : Heap) (locs : List Loc) (ls : Array Slot), va_P (dC, dI) vwCl (w_R cI cZ cS aR aRd aRm aRw aRs aRt aRc aRl aRh aRu aRx aRy aRk of op cr wn fp fs dk mm wk sg tb cs lw hg us de sa ky) H → va_D A (w_R cI cZ cS aR aRd aRm aRw aRs aRt aRc aRl aRh aRu aRx aRy aRk of op cr wn fp fs dk mm wk sg tb cs lw hg us de sa ky) → va_S A s.heap H locs → lv_has ls 3 [(2, .int x2)] → W p l e ({ frames := 2, cells := 0, slots := 0, locals := 52 } : Room) s m ([.ref aR, .int a1] : List Value).toArray below meth c H locs 0 0 (MQ below (mk_QI (dC, dI) vwCl (tyz cI cZ cS) A (fun u : (Nat → Int32) × (Nat → Int32) => w_R cI cZ cS aR aRd aRm aRw aRs aRt aRc aRl aRh aRu aRx aRy aRk of op cr wn fp fs dk mm wk sg tb cs lw hg us de u.1 u.2) R) ([.ref aR, .int a1] : List Value).toArray s 0 0 A) (F0 m 49 ls [.int z0, .int z1, .ref aRy]) := by
  intro H locs ls hP hD hS hl
  obtain ⟨⟨hx, hb, hml, hown, hts⟩, hrt, hlk, hN⟩ := id E
  have hown : s.vm.findClass RX5 = some m.cls := hown
  unfold p_R_next_49 at h
  obtain ⟨hc_1, h⟩ := kp_in h
  refine va_iast hx hb hK hP hD hS 11 0 rfl rfl (kx_of hc_1) dX5_next_49 (fun H locs hP hD hS => ?_)
  have hP : va_P (dC, dI) vwCl (w_R cI cZ cS aR aRd aRm aRw aRs aRt aRc aRl aRh aRu aRx aRy aRk of op cr wn fp fs dk mm wk sg tb cs lw hg us de (upd sa z1.toNatClampNeg z0) ky) H := hP
  have hD : va_D A (w_R cI cZ cS aR aRd aRm aRw aRs aRt aRc aRl aRh aRu aRx aRy aRk of op cr wn fp fs dk mm wk sg tb cs lw hg us de (upd sa z1.toNatClampNeg z0) ky) := hD
  refine lv_iload_n hx hb dX5_next_50 rfl (lv_at hl 0 rfl) ?_
  obtain ⟨hc_2, h⟩ := kp_in h
  cases h
  exact mk_zret E hc_2 hK hP hD hS dX5_next_51
set_option maxHeartbeats 4000000 in
set_option maxRecDepth 100000 in
theorem b_R_next_27 {p : Program} {l : Launch} {e : Env} {s : State} {m : MethodId} {below : List Frame} {meth : Method} {c : Code} {A : Nat → Prop} {dC : Nat → ClassId} {dI : Nat → Nat → Nat} {cI cZ cS : ClassId} {aR aRd aRm aRw aRs aRt aRc aRl aRh aRu aRx aRy aRk : Nat} {of : Int32} {op : Int32} {cr : Int32} {wn : Int32} {fp : Int32} {fs : Int32} {dk : Nat → Int32} {mm : Nat → Int32} {wk : Nat → Int32} {sg : Nat → Int32} {tb : Nat → Int32} {cs : Nat → Int32} {lw : Nat → Int32} {hg : Nat → Int32} {us : Nat → Int32} {de : Nat → Int32} {a1 : Int32} (E : mk_En p s m meth c cX5_next 3 (some .boolean) ([.ref aR, .int a1] : List Value).toArray wsX5_next yX5_next.cls) (hA : ∀ q : Nat, s.heap.size ≤ q → A q) (hK : va_K (dC, dI) vwCl (tyz cI cZ cS) s) (R : Int32 × (Nat → Int32) × (Nat → Int32)) (sa : Nat → Int32) (ky : Nat → Int32) (h : p_R_next_27 of mm tb cs lw hg us de sa ky = some R) : ∀ (H : Heap) (locs : List Loc) (ls : Array Slot), va_P (dC, dI) vwCl (w_R cI cZ cS aR aRd aRm aRw aRs aRt aRc aRl aRh aRu aRx aRy aRk of op cr wn fp fs dk mm wk sg tb cs lw hg us de sa ky) H → va_D A (w_R cI cZ cS aR aRd aRm aRw aRs aRt aRc aRl aRh aRu aRx aRy aRk of op cr wn fp fs dk mm wk sg tb cs lw hg us de sa ky) → va_S A s.heap H locs → lv_has ls 3 [] → W p l e ({ frames := 2, cells := 0, slots := 0, locals := 52 } : Room) s m ([.ref aR, .int a1] : List Value).toArray below meth c H locs 0 0 (MQ below (mk_QI (dC, dI) vwCl (tyz cI cZ cS) A (fun u : (Nat → Int32) × (Nat → Int32) => w_R cI cZ cS aR aRd aRm aRw aRs aRt aRc aRl aRh aRu aRx aRy aRk of op cr wn fp fs dk mm wk sg tb cs lw hg us de u.1 u.2) R) ([.ref aR, .int a1] : List Value).toArray s 0 0 A) (F0 m 27 ls []) := by
  intro H locs ls hP hD hS hl
  obtain ⟨⟨hx, hb, hml, hown, hts⟩, hrt, hlk, hN⟩ := id E
  have hown : s.vm.findClass RX5 = some m.cls := hown
  unfold p_R_next_27 at h
  refine lv_iconst (v := 0) hx hb dX5_next_27 (by decide) ?_
  cases h
  exact mk_zret E (by decide) hK hP hD hS dX5_next_28
set_option maxHeartbeats 4000000 in
set_option maxRecDepth 100000 in
theorem c_R_next (l : Launch) (dC : Nat → ClassId) (dI : Nat → Nat → Nat) (cI cZ cS : ClassId) (aR aRd aRm aRw aRs aRt aRc aRl aRh aRu aRx aRy aRk : Nat) (of : Int32) (op : Int32) (cr : Int32) (wn : Int32) (fp : Int32) (fs : Int32) (dk : Nat → Int32) (mm : Nat → Int32) (wk : Nat → Int32) (sg : Nat → Int32) (tb : Nat → Int32) (cs : Nat → Int32) (lw : Nat → Int32) (hg : Nat → Int32) (us : Nat → Int32) (de : Nat → Int32) (sa : Nat → Int32) (ky : Nat → Int32) (a1 : Int32) : CtI l yX5_next wsX5_next ({ frames := 2, cells := 0, slots := 0, locals := 52 }) (dC, dI) vwCl (tyz cI cZ cS) [.ref aR, .int a1] (w_R cI cZ cS aR aRd aRm aRw aRs aRt aRc aRl aRh aRu aRx aRy aRk of op cr wn fp fs dk mm wk sg tb cs lw hg us de sa ky) (fun u : (Nat → Int32) × (Nat → Int32) => w_R cI cZ cS aR aRd aRm aRw aRs aRt aRc aRl aRh aRu aRx aRy aRk of op cr wn fp fs dk mm wk sg tb cs lw hg us de u.1 u.2) (p_R_next of mm tb cs lw hg us de sa ky a1) := by
  intro R h
  refine mk_enter (Qc := (fun A => mk_QI (dC, dI) vwCl (tyz cI cZ cS) A (fun u : (Nat → Int32) × (Nat → Int32) => w_R cI cZ cS aR aRd aRm aRw aRs aRt aRc aRl aRh aRu aRx aRy aRk of op cr wn fp fs dk mm wk sg tb cs lw hg us de u.1 u.2) R)) (by decide) rfl (Nat.le_of_ble_eq_true rfl) ?_
  intro p e s m below meth c A E hA hK H locs ls hP hD hS hl
  obtain ⟨⟨hx, hb, hml, hown, hts⟩, hrt, hlk, hN⟩ := id E
  have hown : s.vm.findClass RX5 = some m.cls := hown
  have hl : lv_has ls 3 [(0, .ref aR), (1, .int a1)] := hl
  unfold p_R_next at h
  refine lv_aload_n hx hb dX5_next_0 rfl (lv_at hl 0 rfl) ?_
  refine lv_iload_n hx hb dX5_next_1 rfl (lv_at hl 1 rfl) ?_
  obtain ⟨r_3, hr_3, h⟩ := kp_bind h
  refine mk_contR (w := w_R cI cZ cS aR aRd aRm aRw aRs aRt aRc aRl aRh aRu aRx aRy aRk of op cr wn fp fs dk mm wk sg tb cs lw hg us de sa ky) (w0 := w_R cI cZ cS aR aRd aRm aRw aRs aRt aRc aRl aRh aRu aRx aRy aRk of op cr wn fp fs dk mm wk sg tb cs lw hg us de sa ky) (wr := []) hP hD hS hA [0, 1, 2, 3, 4, 5, 6, 7, 8, 9, 10, 11, 12] [] rfl rfl (by decide) (by decide) [0, 1, 2, 3, 4, 5, 6, 7, 8, 9, 10, 11, 12] rfl (by decide) (va_runV (As := [.int a1]) (rest := []) ⟨hx, hb, hml, hown, hts⟩ (c_R_noScan l dC dI cI cZ cS aR aRd aRm aRw aRs aRt aRc aRl aRh aRu aRx aRy aRk of op cr wn fp fs dk mm wk sg tb cs lw hg us de sa ky a1 r_3 hr_3 H.size) (cwV 1 hts gX5_next_X5_noScan rfl rfl rfl (by decide +kernel) ⟨Nat.le_of_ble_eq_true rfl, Nat.le_of_ble_eq_true rfl⟩) (mk_preV (w0 := w_R cI cZ cS aR aRd aRm aRw aRs aRt aRc aRl aRh aRu aRx aRy aRk of op cr wn fp fs dk mm wk sg tb cs lw hg us de sa ky) (ci := 5) (q0 := 0) hN hK (mk_pick hP [0, 1, 2, 3, 4, 5, 6, 7, 8, 9, 10, 11, 12] rfl) (hD.sub [0, 1, 2, 3, 4, 5, 6, 7, 8, 9, 10, 11, 12] (by decide) rfl) rfl rfl rfl) rfl rfl hl.1 rfl (lv_room (Nat.le_of_ble_eq_true rfl)) dX5_next_2 ⟨Nat.zero_le _, Nat.zero_le _⟩) (fun H locs hP hD hS => ?_)
  refine lv_if_ne (tgt := 27) hx hb dX5_next_5 (by decide) (fun c_4 => ?_) (fun c_4 => ?_)
  · replace h := (kp_if h).2 c_4
    exact b_R_next_27 E hA hK R sa ky h H locs ls hP hD hS (lv_sub hl [] rfl)
  · replace h := (kp_if h).1 c_4
    refine lv_aload_n hx hb dX5_next_8 rfl (lv_at hl 0 rfl) ?_
    refine va_get (D := (dC, dI)) (ci := 5) (v := .ref aRx) (C := RX5) (T := TX5) (N := 18) hx hb hts iw_R_next_Model hown hK hP 0 rfl rfl 13 (by decide) (hts _ mm_R_next_0) (fun _ h9 => h9) rfl dX5_next_9 ?_
    refine lv_iload_n hx hb dX5_next_12 rfl (lv_at hl 1 rfl) ?_
    obtain ⟨hc_5, h⟩ := kp_in h
    refine va_zald hx hb hK hP 10 1 rfl rfl (kx_of hc_5) dX5_next_13 ?_
    refine lv_if_ne (tgt := 27) hx hb dX5_next_14 (by decide) (fun c_6 => ?_) (fun c_6 => ?_)
    · replace h := (kp_if h).2 c_6
      exact b_R_next_27 E hA hK R sa ky h H locs ls hP hD hS (lv_sub hl [] rfl)
    · replace h := (kp_if h).1 c_6
      refine lv_aload_n hx hb dX5_next_17 rfl (lv_at hl 0 rfl) ?_
      refine va_get (D := (dC, dI)) (ci := 5) (v := .ref aRy) (C := RX5) (T := TX5) (N := 18) hx hb hts iw_R_next_Model hown hK hP 0 rfl rfl 14 (by decide) (hts _ mm_R_next_2) (fun _ h9 => h9) rfl dX5_next_18 ?_
      refine lv_iload_n hx hb dX5_next_21 rfl (lv_at hl 1 rfl) ?_
      obtain ⟨hc_7, h⟩ := kp_in h
      refine va_iald hx hb hK hP 11 0 rfl rfl (kx_of hc_7) dX5_next_22 ?_
      refine lv_iconst (v := 2) hx hb dX5_next_23 (by decide) ?_
      refine lv_icmp_ne (tgt := 29) hx hb dX5_next_24 (by decide) (fun c_8 => ?_) (fun c_8 => ?_)
      · replace h := (kp_if h).2 c_8
        refine lv_aload_n hx hb dX5_next_29 rfl (lv_at hl 0 rfl) ?_
        refine lv_iload_n hx hb dX5_next_30 rfl (lv_at hl 1 rfl) ?_
        obtain ⟨r_9, hr_9, h⟩ := kp_bind h
        refine mk_contI (w := w_R cI cZ cS aR aRd aRm aRw aRs aRt aRc aRl aRh aRu aRx aRy aRk of op cr wn fp fs dk mm wk sg tb cs lw hg us de sa ky) (w0 := w_R cI cZ cS aR aRd aRm aRw aRs aRt aRc aRl aRh aRu aRx aRy aRk of op cr wn fp fs dk mm wk sg tb cs lw hg us de sa ky) (wr := []) (w2 := w_R cI cZ cS aR aRd aRm aRw aRs aRt aRc aRl aRh aRu aRx aRy aRk of op cr wn fp fs dk mm wk sg tb cs lw hg us de sa r_9.2) hP hD hS hA [0, 1, 2, 3, 4, 5, 6, 7, 8, 9, 10, 11, 12] [] rfl rfl (by decide) (by decide) [0, 1, 2, 3, 4, 5, 6, 7, 8, 9, 10, 11, 12] rfl (by decide) (va_runV (As := [.int a1]) (rest := []) ⟨hx, hb, hml, hown, hts⟩ (c_R_seekNext l dC dI cI cZ cS aR aRd aRm aRw aRs aRt aRc aRl aRh aRu aRx aRy aRk of op cr wn fp fs dk mm wk sg tb cs lw hg us de sa ky a1 r_9 hr_9 H.size) (cwV 1 hts gX5_next_X5_seekNext rfl rfl rfl (by decide +kernel) ⟨Nat.le_of_ble_eq_true rfl, Nat.le_of_ble_eq_true rfl⟩) (mk_preV (w0 := w_R cI cZ cS aR aRd aRm aRw aRs aRt aRc aRl aRh aRu aRx aRy aRk of op cr wn fp fs dk mm wk sg tb cs lw hg us de sa ky) (ci := 5) (q0 := 0) hN hK (mk_pick hP [0, 1, 2, 3, 4, 5, 6, 7, 8, 9, 10, 11, 12] rfl) (hD.sub [0, 1, 2, 3, 4, 5, 6, 7, 8, 9, 10, 11, 12] (by decide) rfl) rfl rfl rfl) rfl rfl hl.1 rfl (lv_room (Nat.le_of_ble_eq_true rfl)) dX5_next_31 ⟨Nat.zero_le _, Nat.zero_le _⟩) (fun H locs hP hD hS => ?_)
        refine lv_istore_n (lv' := [(2, .int r_9.1), (0, .ref aR), (1, .int a1)]) hx hb dX5_next_34 rfl hl (by decide) rfl (fun ls hl => ?_)
        refine lv_aload_n hx hb dX5_next_35 rfl (lv_at hl 1 rfl) ?_
        refine va_get (D := (dC, dI)) (ci := 5) (v := .ref aRy) (C := RX5) (T := TX5) (N := 18) hx hb hts iw_R_next_Model hown hK hP 0 rfl rfl 14 (by decide) (hts _ mm_R_next_2) (fun _ h9 => h9) rfl dX5_next_36 ?_
        refine lv_iload_n hx hb dX5_next_39 rfl (lv_at hl 2 rfl) ?_
        refine lv_iload_n hx hb dX5_next_40 rfl (lv_at hl 0 rfl) ?_
        refine lv_if_eq (tgt := 48) hx hb dX5_next_41 (by decide) (fun c_10 => ?_) (fun c_10 => ?_)
        · replace h := (kp_if h).1 c_10
          refine lv_iconst (v := 2) hx hb dX5_next_48 (by decide) ?_
          exact b_R_next_49 E hA hK R r_9.1 2 a1 sa r_9.2 h H locs ls hP hD hS (lv_sub hl [0] rfl)
        · replace h := (kp_if h).2 c_10
          refine lv_iconst (v := 1) hx hb dX5_next_44 (by decide) ?_
          refine lv_goto (tgt := 49) hx hb dX5_next_45 (by decide) ?_
          exact b_R_next_49 E hA hK R r_9.1 1 a1 sa r_9.2 h H locs ls hP hD hS (lv_sub hl [0] rfl)
      · replace h := (kp_if h).1 c_8
        exact b_R_next_27 E hA hK R sa ky h H locs ls hP hD hS (lv_sub hl [] rfl)

/- Model.col(II)I -/
set_option maxRecDepth 20000 in
theorem mm_R_col_0 : Cond.fieldLink RX5 42 "JournaledTablesModel" "dead" "[Z" ∈ wsX5_col := by decide +kernel
set_option maxRecDepth 20000 in
theorem iw_R_col_Model : ∀ w ∈ u_ws RX5 TX5 18, w ∈ wsX5_col := by decide +kernel
set_option maxRecDepth 20000 in
theorem mm_R_col_2 : Cond.fieldLink RX5 45 "JournaledTablesModel" "states" "[I" ∈ wsX5_col := by decide +kernel
set_option maxRecDepth 20000 in
theorem mm_R_col_3 : Cond.fieldLink RX5 13 "JournaledTablesModel" "memory" "[I" ∈ wsX5_col := by decide +kernel
set_option maxRecDepth 20000 in
theorem mm_R_col_4 : Cond.fieldLink RX5 26 "JournaledTablesModel" "tables" "[I" ∈ wsX5_col := by decide +kernel
set_option maxRecDepth 20000 in
theorem mm_R_col_5 : Cond.fieldLink RX5 48 "JournaledTablesModel" "keys" "[I" ∈ wsX5_col := by decide +kernel
set_option maxHeartbeats 4000000 in
set_option maxRecDepth 100000 in
theorem b_R_col_46 {p : Program} {l : Launch} {e : Env} {s : State} {m : MethodId} {below : List Frame} {meth : Method} {c : Code} {A : Nat → Prop} {dC : Nat → ClassId} {dI : Nat → Nat → Nat} {cI cZ cS : ClassId} {aR aRd aRm aRw aRs aRt aRc aRl aRh aRu aRx aRy aRk : Nat} {of : Int32} {op : Int32} {cr : Int32} {wn : Int32} {dk : Nat → Int32} {mm : Nat → Int32} {wk : Nat → Int32} {sg : Nat → Int32} {tb : Nat → Int32} {cs : Nat → Int32} {lw : Nat → Int32} {hg : Nat → Int32} {us : Nat → Int32} {de : Nat → Int32} {sa : Nat → Int32} {ky : Nat → Int32} {a1 : Int32} {a2 : Int32} (E : mk_En p s m meth c cX5_col 3 (some .int) ([.ref aR, .int a1, .int a2] : List Value).toArray wsX5_col yX5_col.cls) (hA : ∀ q : Nat, s.heap.size ≤ q → A q) (hK : va_K (dC, dI) vwCl (tyz cI cZ cS) s) (R : Int32 × Int32 × Int32) (fp : Int32) (fs : Int32) (h : p_R_col_46 of mm tb us de sa ky fp fs = some R) : ∀ (H : Heap) (locs : List Loc) (ls : Array Slot), va_P (dC, dI) vwCl (w_R cI cZ cS aR aRd aRm aRw aRs aRt aRc aRl aRh aRu aRx aRy aRk of op cr wn fp fs dk mm wk sg tb cs lw hg us de sa ky) H → va_D A (w_R cI cZ cS aR aRd aRm aRw aRs aRt aRc aRl aRh aRu aRx aRy aRk of op cr wn fp fs dk mm wk sg tb cs lw hg us de sa ky) → va_S A s.heap H locs → lv_has ls 3 [] → W p l e ({ frames := 2, cells := 0, slots := 0, locals := 47 } : Room) s m ([.ref aR, .int a1, .int a2] : List Value).toArray below meth c H locs 0 0 (MQ below (mk_QI (dC, dI) vwCl (tyz cI cZ cS) A (fun u : Int32 × Int32 => w_R cI cZ cS aR aRd aRm aRw aRs aRt aRc aRl aRh aRu aRx aRy aRk of op cr wn u.1 u.2 dk mm wk sg tb cs lw hg us de sa ky) R) ([.ref aR, .int a1, .int a2] : List Value).toArray s 0 0 A) (F0 m 46 ls []) := by
  intro H locs ls hP hD hS hl
  obtain ⟨⟨hx, hb, hml, hown, hts⟩, hrt, hlk, hN⟩ := id E
  have hown : s.vm.findClass RX5 = some m.cls := hown
  unfold p_R_col_46 at h
  refine lv_iconst (v := 0) hx hb dX5_col_46 (by decide) ?_
  cases h
  exact mk_iret E hK hP hD hS dX5_col_47
set_option maxHeartbeats 4000000 in
set_option maxRecDepth 100000 in
theorem c_R_col (l : Launch) (dC : Nat → ClassId) (dI : Nat → Nat → Nat) (cI cZ cS : ClassId) (aR aRd aRm aRw aRs aRt aRc aRl aRh aRu aRx aRy aRk : Nat) (of : Int32) (op : Int32) (cr : Int32) (wn : Int32) (fp : Int32) (fs : Int32) (dk : Nat → Int32) (mm : Nat → Int32) (wk : Nat → Int32) (sg : Nat → Int32) (tb : Nat → Int32) (cs : Nat → Int32) (lw : Nat → Int32) (hg : Nat → Int32) (us : Nat → Int32) (de : Nat → Int32) (sa : Nat → Int32) (ky : Nat → Int32) (a1 : Int32) (a2 : Int32) : CtI l yX5_col wsX5_col ({ frames := 2, cells := 0, slots := 0, locals := 47 }) (dC, dI) vwCl (tyz cI cZ cS) [.ref aR, .int a1, .int a2] (w_R cI cZ cS aR aRd aRm aRw aRs aRt aRc aRl aRh aRu aRx aRy aRk of op cr wn fp fs dk mm wk sg tb cs lw hg us de sa ky) (fun u : Int32 × Int32 => w_R cI cZ cS aR aRd aRm aRw aRs aRt aRc aRl aRh aRu aRx aRy aRk of op cr wn u.1 u.2 dk mm wk sg tb cs lw hg us de sa ky) (p_R_col of fp fs mm tb us de sa ky a1 a2) := by
  intro R h
  refine mk_enter (Qc := (fun A => mk_QI (dC, dI) vwCl (tyz cI cZ cS) A (fun u : Int32 × Int32 => w_R cI cZ cS aR aRd aRm aRw aRs aRt aRc aRl aRh aRu aRx aRy aRk of op cr wn u.1 u.2 dk mm wk sg tb cs lw hg us de sa ky) R)) (by decide) rfl (Nat.le_of_ble_eq_true rfl) ?_
  intro p e s m below meth c A E hA hK H locs ls hP hD hS hl
  obtain ⟨⟨hx, hb, hml, hown, hts⟩, hrt, hlk, hN⟩ := id E
  have hown : s.vm.findClass RX5 = some m.cls := hown
  have hl : lv_has ls 3 [(0, .ref aR), (1, .int a1), (2, .int a2)] := hl
  unfold p_R_col at h
  refine lv_aload_n hx hb dX5_col_0 rfl (lv_at hl 0 rfl) ?_
  refine lv_iload_n hx hb dX5_col_1 rfl (lv_at hl 1 rfl) ?_
  obtain ⟨r_1, hr_1, h⟩ := kp_bind h
  refine mk_contR (w := w_R cI cZ cS aR aRd aRm aRw aRs aRt aRc aRl aRh aRu aRx aRy aRk of op cr wn fp fs dk mm wk sg tb cs lw hg us de sa ky) (w0 := w_R cI cZ cS aR aRd aRm aRw aRs aRt aRc aRl aRh aRu aRx aRy aRk of op cr wn fp fs dk mm wk sg tb cs lw hg us de sa ky) (wr := []) hP hD hS hA [0, 1, 2, 3, 4, 5, 6, 7, 8, 9, 10, 11, 12] [] rfl rfl (by decide) (by decide) [0, 1, 2, 3, 4, 5, 6, 7, 8, 9, 10, 11, 12] rfl (by decide) (va_runV (As := [.int a1]) (rest := []) ⟨hx, hb, hml, hown, hts⟩ (c_R_noScan l dC dI cI cZ cS aR aRd aRm aRw aRs aRt aRc aRl aRh aRu aRx aRy aRk of op cr wn fp fs dk mm wk sg tb cs lw hg us de sa ky a1 r_1 hr_1 H.size) (cwV 1 hts gX5_col_X5_noScan rfl rfl rfl (by decide +kernel) ⟨Nat.le_of_ble_eq_true rfl, Nat.le_of_ble_eq_true rfl⟩) (mk_preV (w0 := w_R cI cZ cS aR aRd aRm aRw aRs aRt aRc aRl aRh aRu aRx aRy aRk of op cr wn fp fs dk mm wk sg tb cs lw hg us de sa ky) (ci := 5) (q0 := 0) hN hK (mk_pick hP [0, 1, 2, 3, 4, 5, 6, 7, 8, 9, 10, 11, 12] rfl) (hD.sub [0, 1, 2, 3, 4, 5, 6, 7, 8, 9, 10, 11, 12] (by decide) rfl) rfl rfl rfl) rfl rfl hl.1 rfl (lv_room (Nat.le_of_ble_eq_true rfl)) dX5_col_2 ⟨Nat.zero_le _, Nat.zero_le _⟩) (fun H locs hP hD hS => ?_)
  refine lv_if_ne (tgt := 46) hx hb dX5_col_5 (by decide) (fun c_2 => ?_) (fun c_2 => ?_)
  · replace h := (kp_if h).2 c_2
    exact b_R_col_46 E hA hK R fp fs h H locs ls hP hD hS (lv_sub hl [] rfl)
  · replace h := (kp_if h).1 c_2
    refine lv_aload_n hx hb dX5_col_8 rfl (lv_at hl 0 rfl) ?_
    refine va_get (D := (dC, dI)) (ci := 5) (v := .ref aRx) (C := RX5) (T := TX5) (N := 18) hx hb hts iw_R_col_Model hown hK hP 0 rfl rfl 13 (by decide) (hts _ mm_R_col_0) (fun _ h9 => h9) rfl dX5_col_9 ?_
    refine lv_iload_n hx hb dX5_col_12 rfl (lv_at hl 1 rfl) ?_
    obtain ⟨hc_3, h⟩ := kp_in h
    refine va_zald hx hb hK hP 10 1 rfl rfl (kx_of hc_3) dX5_col_13 ?_
    refine lv_if_ne (tgt := 46) hx hb dX5_col_14 (by decide) (fun c_4 => ?_) (fun c_4 => ?_)
    · replace h := (kp_if h).2 c_4
      exact b_R_col_46 E hA hK R fp fs h H locs ls hP hD hS (lv_sub hl [] rfl)
    · replace h := (kp_if h).1 c_4
      refine lv_aload_n hx hb dX5_col_17 rfl (lv_at hl 0 rfl) ?_
      refine va_get (D := (dC, dI)) (ci := 5) (v := .ref aRy) (C := RX5) (T := TX5) (N := 18) hx hb hts iw_R_col_Model hown hK hP 0 rfl rfl 14 (by decide) (hts _ mm_R_col_2) (fun _ h9 => h9) rfl dX5_col_18 ?_
      refine lv_iload_n hx hb dX5_col_21 rfl (lv_at hl 1 rfl) ?_
      obtain ⟨hc_5, h⟩ := kp_in h
      refine va_iald hx hb hK hP 11 0 rfl rfl (kx_of hc_5) dX5_col_22 ?_
      refine lv_iconst (v := 1) hx hb dX5_col_23 (by decide) ?_
      refine lv_icmp_ne (tgt := 46) hx hb dX5_col_24 (by decide) (fun c_6 => ?_) (fun c_6 => ?_)
      · replace h := (kp_if h).2 c_6
        exact b_R_col_46 E hA hK R fp fs h H locs ls hP hD hS (lv_sub hl [] rfl)
      · replace h := (kp_if h).1 c_6
        refine lv_iload_n hx hb dX5_col_27 rfl (lv_at hl 2 rfl) ?_
        refine lv_if_lt (tgt := 46) hx hb dX5_col_28 (by decide) (fun c_7 => ?_) (fun c_7 => ?_)
        · replace h := (kp_if h).1 c_7
          exact b_R_col_46 E hA hK R fp fs h H locs ls hP hD hS (lv_sub hl [] rfl)
        · replace h := (kp_if h).2 c_7
          refine lv_iload_n hx hb dX5_col_31 rfl (lv_at hl 2 rfl) ?_
          refine lv_aload_n hx hb dX5_col_32 rfl (lv_at hl 0 rfl) ?_
          refine va_get (D := (dC, dI)) (ci := 5) (v := .ref aRm) (C := RX5) (T := TX5) (N := 18) hx hb hts iw_R_col_Model hown hK hP 0 rfl rfl 1 (by decide) (hts _ mm_R_col_3) (fun _ h9 => h9) rfl dX5_col_33 ?_
          refine lv_aload_n hx hb dX5_col_36 rfl (lv_at hl 0 rfl) ?_
          refine va_get (D := (dC, dI)) (ci := 5) (v := .ref aRt) (C := RX5) (T := TX5) (N := 18) hx hb hts iw_R_col_Model hown hK hP 0 rfl rfl 8 (by decide) (hts _ mm_R_col_4) (fun _ h9 => h9) rfl dX5_col_37 ?_
          refine lv_iload_n hx hb dX5_col_40 rfl (lv_at hl 1 rfl) ?_
          obtain ⟨hc_8, h⟩ := kp_in h
          refine va_iald hx hb hK hP 5 0 rfl rfl (kx_of hc_8) dX5_col_41 ?_
          obtain ⟨hc_9, h⟩ := kp_in h
          refine va_iald hx hb hK hP 2 0 rfl rfl (kx_of hc_9) dX5_col_42 ?_
          refine lv_icmp_lt (tgt := 48) hx hb dX5_col_43 (by decide) (fun c_10 => ?_) (fun c_10 => ?_)
          · replace h := (kp_if h).1 c_10
            refine lv_aload_n hx hb dX5_col_48 rfl (lv_at hl 0 rfl) ?_
            refine va_get (D := (dC, dI)) (ci := 5) (v := .ref aRm) (C := RX5) (T := TX5) (N := 18) hx hb hts iw_R_col_Model hown hK hP 0 rfl rfl 1 (by decide) (hts _ mm_R_col_3) (fun _ h9 => h9) rfl dX5_col_49 ?_
            refine lv_aload_n hx hb dX5_col_52 rfl (lv_at hl 0 rfl) ?_
            refine lv_aload_n hx hb dX5_col_53 rfl (lv_at hl 0 rfl) ?_
            refine va_get (D := (dC, dI)) (ci := 5) (v := .ref aRt) (C := RX5) (T := TX5) (N := 18) hx hb hts iw_R_col_Model hown hK hP 0 rfl rfl 8 (by decide) (hts _ mm_R_col_4) (fun _ h9 => h9) rfl dX5_col_54 ?_
            refine lv_iload_n hx hb dX5_col_57 rfl (lv_at hl 1 rfl) ?_
            obtain ⟨hc_11, h⟩ := kp_in h
            refine va_iald hx hb hK hP 5 0 rfl rfl (kx_of hc_11) dX5_col_58 ?_
            refine lv_aload_n hx hb dX5_col_59 rfl (lv_at hl 0 rfl) ?_
            refine va_get (D := (dC, dI)) (ci := 5) (v := .ref aRk) (C := RX5) (T := TX5) (N := 18) hx hb hts iw_R_col_Model hown hK hP 0 rfl rfl 15 (by decide) (hts _ mm_R_col_5) (fun _ h9 => h9) rfl dX5_col_60 ?_
            refine lv_iload_n hx hb dX5_col_63 rfl (lv_at hl 1 rfl) ?_
            obtain ⟨hc_12, h⟩ := kp_in h
            refine va_iald hx hb hK hP 12 0 rfl rfl (kx_of hc_12) dX5_col_64 ?_
            obtain ⟨r_13, hr_13, h⟩ := kp_bind h
            refine mk_contI (w := w_R cI cZ cS aR aRd aRm aRw aRs aRt aRc aRl aRh aRu aRx aRy aRk of op cr wn fp fs dk mm wk sg tb cs lw hg us de sa ky) (w0 := w_R cI cZ cS aR aRd aRm aRw aRs aRt aRc aRl aRh aRu aRx aRy aRk of op cr wn fp fs dk mm wk sg tb cs lw hg us de sa ky) (wr := []) (w2 := w_R cI cZ cS aR aRd aRm aRw aRs aRt aRc aRl aRh aRu aRx aRy aRk of op cr wn r_13.2.1 r_13.2.2 dk mm wk sg tb cs lw hg us de sa ky) hP hD hS hA [0, 1, 2, 3, 4, 5, 6, 7, 8, 9, 10, 11, 12] [] rfl rfl (by decide) (by decide) [0, 1, 2, 3, 4, 5, 6, 7, 8, 9, 10, 11, 12] rfl (by decide) (va_runV (As := [.int (tb a1.toNatClampNeg), .int (ky a1.toNatClampNeg)]) (rest := [.ref aRm]) ⟨hx, hb, hml, hown, hts⟩ (c_R_seek l dC dI cI cZ cS aR aRd aRm aRw aRs aRt aRc aRl aRh aRu aRx aRy aRk of op cr wn fp fs dk mm wk sg tb cs lw hg us de sa ky (tb a1.toNatClampNeg) (ky a1.toNatClampNeg) r_13 hr_13 H.size) (cwV 2 hts gX5_col_X5_seek rfl rfl rfl (by decide +kernel) ⟨Nat.le_of_ble_eq_true rfl, Nat.le_of_ble_eq_true rfl⟩) (mk_preV (w0 := w_R cI cZ cS aR aRd aRm aRw aRs aRt aRc aRl aRh aRu aRx aRy aRk of op cr wn fp fs dk mm wk sg tb cs lw hg us de sa ky) (ci := 5) (q0 := 0) hN hK (mk_pick hP [0, 1, 2, 3, 4, 5, 6, 7, 8, 9, 10, 11, 12] rfl) (hD.sub [0, 1, 2, 3, 4, 5, 6, 7, 8, 9, 10, 11, 12] (by decide) rfl) rfl rfl rfl) rfl rfl hl.1 rfl (lv_room (Nat.le_of_ble_eq_true rfl)) dX5_col_65 ⟨Nat.zero_le _, Nat.zero_le _⟩) (fun H locs hP hD hS => ?_)
            refine lv_iload_n hx hb dX5_col_68 rfl (lv_at hl 2 rfl) ?_
            refine lv_iadd hx hb dX5_col_69 ?_
            obtain ⟨hc_14, h⟩ := kp_in h
            refine va_iald hx hb hK hP 2 0 rfl rfl (kx_of hc_14) dX5_col_70 ?_
            cases h
            exact mk_iret E hK hP hD hS dX5_col_71
          · replace h := (kp_if h).2 c_10
            exact b_R_col_46 E hA hK R fp fs h H locs ls hP hD hS (lv_sub hl [] rfl)

/- Model.closeScan(I)I -/
set_option maxRecDepth 20000 in
theorem mm_R_closeScan_0 : Cond.fieldLink RX5 51 "JournaledTablesModel" "off" "Z" ∈ wsX5_closeScan := by decide +kernel
set_option maxRecDepth 20000 in
theorem iw_R_closeScan_Model : ∀ w ∈ u_ws RX5 TX5 18, w ∈ wsX5_closeScan := by decide +kernel
set_option maxRecDepth 20000 in
theorem mm_R_closeScan_2 : Cond.fieldLink RX5 38 "JournaledTablesModel" "used" "[Z" ∈ wsX5_closeScan := by decide +kernel
set_option maxHeartbeats 4000000 in
set_option maxRecDepth 100000 in
theorem c_R_closeScan (l : Launch) (dC : Nat → ClassId) (dI : Nat → Nat → Nat) (cI cZ cS : ClassId) (aR aRd aRm aRw aRs aRt aRc aRl aRh aRu aRx aRy aRk : Nat) (of : Int32) (op : Int32) (cr : Int32) (wn : Int32) (fp : Int32) (fs : Int32) (dk : Nat → Int32) (mm : Nat → Int32) (wk : Nat → Int32) (sg : Nat → Int32) (tb : Nat → Int32) (cs : Nat → Int32) (lw : Nat → Int32) (hg : Nat → Int32) (us : Nat → Int32) (de : Nat → Int32) (sa : Nat → Int32) (ky : Nat → Int32) (a1 : Int32) : CtI l yX5_closeScan wsX5_closeScan ({ frames := 1, cells := 0, slots := 0, locals := 21 }) (dC, dI) vwCl (tyz cI cZ cS) [.ref aR, .int a1] (w_R cI cZ cS aR aRd aRm aRw aRs aRt aRc aRl aRh aRu aRx aRy aRk of op cr wn fp fs dk mm wk sg tb cs lw hg us de sa ky) (fun u : (Nat → Int32) => w_R cI cZ cS aR aRd aRm aRw aRs aRt aRc aRl aRh aRu aRx aRy aRk of op cr wn fp fs dk mm wk sg tb cs lw hg u de sa ky) (p_R_closeScan of us a1) := by
  intro R h
  refine mk_enter (Qc := (fun A => mk_QI (dC, dI) vwCl (tyz cI cZ cS) A (fun u : (Nat → Int32) => w_R cI cZ cS aR aRd aRm aRw aRs aRt aRc aRl aRh aRu aRx aRy aRk of op cr wn fp fs dk mm wk sg tb cs lw hg u de sa ky) R)) (by decide) rfl (Nat.le_of_ble_eq_true rfl) ?_
  intro p e s m below meth c A E hA hK H locs ls hP hD hS hl
  obtain ⟨⟨hx, hb, hml, hown, hts⟩, hrt, hlk, hN⟩ := id E
  have hown : s.vm.findClass RX5 = some m.cls := hown
  have hl : lv_has ls 2 [(0, .ref aR), (1, .int a1)] := hl
  unfold p_R_closeScan at h
  refine lv_aload_n hx hb dX5_closeScan_0 rfl (lv_at hl 0 rfl) ?_
  refine va_get (D := (dC, dI)) (ci := 5) (v := .int of) (C := RX5) (T := TX5) (N := 18) hx hb hts iw_R_closeScan_Model hown hK hP 0 rfl rfl 4 (by decide) (hts _ mm_R_closeScan_0) (fun _ h9 => h9) rfl dX5_closeScan_1 ?_
  refine lv_if_eq (tgt := 9) hx hb dX5_closeScan_4 (by decide) (fun c_1 => ?_) (fun c_1 => ?_)
  · replace h := (kp_if h).1 c_1
    refine lv_aload_n hx hb dX5_closeScan_9 rfl (lv_at hl 0 rfl) ?_
    refine lv_iload_n hx hb dX5_closeScan_10 rfl (lv_at hl 1 rfl) ?_
    obtain ⟨r_2, hr_2, h⟩ := kp_bind h
    refine mk_contR (w := w_R cI cZ cS aR aRd aRm aRw aRs aRt aRc aRl aRh aRu aRx aRy aRk of op cr wn fp fs dk mm wk sg tb cs lw hg us de sa ky) (w0 := w_R cI cZ cS aR aRd aRm aRw aRs aRt aRc aRl aRh aRu aRx aRy aRk of op cr wn fp fs dk mm wk sg tb cs lw hg us de sa ky) (wr := []) hP hD hS hA [0, 1, 2, 3, 4, 5, 6, 7, 8, 9, 10, 11, 12] [] rfl rfl (by decide) (by decide) [0, 1, 2, 3, 4, 5, 6, 7, 8, 9, 10, 11, 12] rfl (by decide) (va_runV (As := [.int a1]) (rest := []) ⟨hx, hb, hml, hown, hts⟩ (c_R_noScan l dC dI cI cZ cS aR aRd aRm aRw aRs aRt aRc aRl aRh aRu aRx aRy aRk of op cr wn fp fs dk mm wk sg tb cs lw hg us de sa ky a1 r_2 hr_2 H.size) (cwV 1 hts gX5_closeScan_X5_noScan rfl rfl rfl (by decide +kernel) ⟨Nat.le_of_ble_eq_true rfl, Nat.le_of_ble_eq_true rfl⟩) (mk_preV (w0 := w_R cI cZ cS aR aRd aRm aRw aRs aRt aRc aRl aRh aRu aRx aRy aRk of op cr wn fp fs dk mm wk sg tb cs lw hg us de sa ky) (ci := 5) (q0 := 0) hN hK (mk_pick hP [0, 1, 2, 3, 4, 5, 6, 7, 8, 9, 10, 11, 12] rfl) (hD.sub [0, 1, 2, 3, 4, 5, 6, 7, 8, 9, 10, 11, 12] (by decide) rfl) rfl rfl rfl) rfl rfl hl.1 rfl (lv_room (Nat.le_of_ble_eq_true rfl)) dX5_closeScan_11 ⟨Nat.zero_le _, Nat.zero_le _⟩) (fun H locs hP hD hS => ?_)
    refine lv_if_eq (tgt := 20) hx hb dX5_closeScan_14 (by decide) (fun c_3 => ?_) (fun c_3 => ?_)
    · replace h := (kp_if h).1 c_3
      refine lv_aload_n hx hb dX5_closeScan_20 rfl (lv_at hl 0 rfl) ?_
      refine va_get (D := (dC, dI)) (ci := 5) (v := .ref aRu) (C := RX5) (T := TX5) (N := 18) hx hb hts iw_R_closeScan_Model hown hK hP 0 rfl rfl 12 (by decide) (hts _ mm_R_closeScan_2) (fun _ h9 => h9) rfl dX5_closeScan_21 ?_
      refine lv_iload_n hx hb dX5_closeScan_24 rfl (lv_at hl 1 rfl) ?_
      refine lv_iconst (v := 0) hx hb dX5_closeScan_25 (by decide) ?_
      obtain ⟨hc_4, h⟩ := kp_in h
      refine va_zast hx hb hK hP hD hS 9 1 rfl rfl (kx_of hc_4) dX5_closeScan_26 (fun H locs hP hD hS => ?_)
      have hP : va_P (dC, dI) vwCl (w_R cI cZ cS aR aRd aRm aRw aRs aRt aRc aRl aRh aRu aRx aRy aRk of op cr wn fp fs dk mm wk sg tb cs lw hg (upd us a1.toNatClampNeg (vp_nar .boolean 0)) de sa ky) H := hP
      have hD : va_D A (w_R cI cZ cS aR aRd aRm aRw aRs aRt aRc aRl aRh aRu aRx aRy aRk of op cr wn fp fs dk mm wk sg tb cs lw hg (upd us a1.toNatClampNeg (vp_nar .boolean 0)) de sa ky) := hD
      refine lv_iconst (v := 0) hx hb dX5_closeScan_27 (by decide) ?_
      cases h
      exact mk_iret E hK hP hD hS dX5_closeScan_28
    · replace h := (kp_if h).2 c_3
      refine lv_bipush (v := (-9)) hx hb dX5_closeScan_17 (by decide) ?_
      cases h
      exact mk_iret E hK hP hD hS dX5_closeScan_19
  · replace h := (kp_if h).2 c_1
    refine lv_iconst (v := (-1)) hx hb dX5_closeScan_7 (by decide) ?_
    cases h
    exact mk_iret E hK hP hD hS dX5_closeScan_8

