/- Model.put(I)Z -/
set_option maxRecDepth 20000 in
theorem mm_R_put_0 : Cond.fieldLink RX5 55 "JournaledTablesModel" "writes" "I" ∈ wsX5_put := by decide +kernel
set_option maxRecDepth 20000 in
theorem iw_R_put_Model : ∀ w ∈ u_ws RX5 TX5 18, w ∈ wsX5_put := by decide +kernel
set_option maxRecDepth 20000 in
theorem mm_R_put_2 : Cond.fieldLink RX5 7 "JournaledTablesModel" "disk" "[I" ∈ wsX5_put := by decide +kernel
set_option maxRecDepth 20000 in
theorem mm_R_put_3 : Cond.fieldLink RX5 16 "JournaledTablesModel" "work" "[I" ∈ wsX5_put := by decide +kernel
set_option maxRecDepth 20000 in
theorem mm_R_put_4 : Cond.fieldLink RX5 22 "JournaledTablesModel" "crash" "I" ∈ wsX5_put := by decide +kernel
set_option maxRecDepth 20000 in
theorem mm_R_put_5 : Cond.fieldLink RX5 51 "JournaledTablesModel" "off" "Z" ∈ wsX5_put := by decide +kernel
set_option maxHeartbeats 4000000 in
set_option maxRecDepth 100000 in
theorem b_R_put_45 {p : Program} {l : Launch} {e : Env} {s : State} {m : MethodId} {below : List Frame} {meth : Method} {c : Code} {A : Nat → Prop} {dC : Nat → ClassId} {dI : Nat → Nat → Nat} {cI cZ cS : ClassId} {aR aRd aRm aRw aRs aRt aRc aRl aRh aRu aRx aRy aRk : Nat} {op : Int32} {fp : Int32} {fs : Int32} {mm : Nat → Int32} {wk : Nat → Int32} {sg : Nat → Int32} {tb : Nat → Int32} {cs : Nat → Int32} {lw : Nat → Int32} {hg : Nat → Int32} {us : Nat → Int32} {de : Nat → Int32} {sa : Nat → Int32} {ky : Nat → Int32} {a1 : Int32} (E : mk_En p s m meth c cX5_put 3 (some .boolean) ([.ref aR, .int a1] : List Value).toArray wsX5_put yX5_put.cls) (hA : ∀ q : Nat, s.heap.size ≤ q → A q) (hK : va_K (dC, dI) vwCl (tyz cI cZ cS) s) (R : Int32 × Int32 × Int32 × Int32 × (Nat → Int32)) {k_45 : Int32 → Int32 → Int32 → Int32 → Int32 → (Nat → Int32) → Option (Int32 × Int32 × Int32 × Int32 × (Nat → Int32))} (hk_45 : ∀ (x1 : Int32) (x2 : Int32) (of : Int32) (cr : Int32) (wn : Int32) (dk : Nat → Int32), k_45 x1 x2 of cr wn dk = some R → ∀ (H : Heap) (locs : List Loc) (ls : Array Slot), va_P (dC, dI) vwCl (w_R cI cZ cS aR aRd aRm aRw aRs aRt aRc aRl aRh aRu aRx aRy aRk of op cr wn fp fs dk mm wk sg tb cs lw hg us de sa ky) H → va_D A (w_R cI cZ cS aR aRd aRm aRw aRs aRt aRc aRl aRh aRu aRx aRy aRk of op cr wn fp fs dk mm wk sg tb cs lw hg us de sa ky) → va_S A s.heap H locs → lv_has ls 3 [(0, .ref aR), (1, .int x1), (2, .int x2)] → W p l e ({ frames := 0, cells := 0, slots := 0, locals := 0 } : Room) s m ([.ref aR, .int a1] : List Value).toArray below meth c H locs 0 0 (MQ below (mk_QI (dC, dI) vwCl (tyz cI cZ cS) A (fun u : Int32 × Int32 × Int32 × (Nat → Int32) => w_R cI cZ cS aR aRd aRm aRw aRs aRt aRc aRl aRh aRu aRx aRy aRk u.1 op u.2.1 u.2.2.1 fp fs u.2.2.2 mm wk sg tb cs lw hg us de sa ky) R) ([.ref aR, .int a1] : List Value).toArray s 0 0 A) (F0 m 45 ls [])) (x1 : Int32) (x2 : Int32) (of : Int32) (cr : Int32) (wn : Int32) (dk : Nat → Int32) (h : p_R_put_45 wk k_45 x1 x2 of cr wn dk = some R) : ∀ (H : Heap) (locs : List Loc) (ls : Array Slot), va_P (dC, dI) vwCl (w_R cI cZ cS aR aRd aRm aRw aRs aRt aRc aRl aRh aRu aRx aRy aRk of op cr wn fp fs dk mm wk sg tb cs lw hg us de sa ky) H → va_D A (w_R cI cZ cS aR aRd aRm aRw aRs aRt aRc aRl aRh aRu aRx aRy aRk of op cr wn fp fs dk mm wk sg tb cs lw hg us de sa ky) → va_S A s.heap H locs → lv_has ls 3 [(0, .ref aR), (1, .int x1), (2, .int x2)] → W p l e ({ frames := 0, cells := 0, slots := 0, locals := 0 } : Room) s m ([.ref aR, .int a1] : List Value).toArray below meth c H locs 0 0 (MQ below (mk_QI (dC, dI) vwCl (tyz cI cZ cS) A (fun u : Int32 × Int32 × Int32 × (Nat → Int32) => w_R cI cZ cS aR aRd aRm aRw aRs aRt aRc aRl aRh aRu aRx aRy aRk u.1 op u.2.1 u.2.2.1 fp fs u.2.2.2 mm wk sg tb cs lw hg us de sa ky) R) ([.ref aR, .int a1] : List Value).toArray s 0 0 A) (F0 m 45 ls []) := by
  intro H locs ls hP hD hS hl
  obtain ⟨⟨hx, hb, hml, hown, hts⟩, hrt, hlk, hN⟩ := id E
  have hown : s.vm.findClass RX5 = some m.cls := hown
  unfold p_R_put_45 at h
  refine lv_iload_n hx hb dX5_put_45 rfl (lv_at hl 2 rfl) ?_
  refine lv_bipush (v := 16) hx hb dX5_put_46 (by decide) ?_
  refine lv_icmp_ge (tgt := 74) hx hb dX5_put_48 (by decide) (fun c_1 => ?_) (fun c_1 => ?_)
  · replace h := (kp_if h).1 c_1
    refine lv_aload_n hx hb dX5_put_74 rfl (lv_at hl 0 rfl) ?_
    refine lv_dup hx hb dX5_put_75 rfl ?_
    refine va_get (D := (dC, dI)) (ci := 5) (v := .int wn) (C := RX5) (T := TX5) (N := 18) hx hb hts iw_R_put_Model hown hK hP 0 rfl rfl 7 (by decide) (hts _ mm_R_put_0) (fun _ h9 => h9) rfl dX5_put_76 ?_
    refine lv_iconst (v := 1) hx hb dX5_put_79 (by decide) ?_
    refine lv_iadd hx hb dX5_put_80 ?_
    refine va_put (D := (dC, dI)) (ci := 5) (v := .int (wn + 1)) (ty := .int) (C := RX5) (T := TX5) (N := 18) hx hb hts iw_R_put_Model tyX5 tyX5_ok nmX5 hown hK hP hD hS 0 rfl rfl 7 (by decide) (hts _ mm_R_put_0) (fun _ h9 => h9) rfl (by decide +kernel) rfl rfl (Nat.le_of_ble_eq_true rfl) dX5_put_81 (fun H locs hP hD hS => ?_)
    have hP : va_P (dC, dI) vwCl (w_R cI cZ cS aR aRd aRm aRw aRs aRt aRc aRl aRh aRu aRx aRy aRk of op cr (wn + 1) fp fs dk mm wk sg tb cs lw hg us de sa ky) H := hP
    have hD : va_D A (w_R cI cZ cS aR aRd aRm aRw aRs aRt aRc aRl aRh aRu aRx aRy aRk of op cr (wn + 1) fp fs dk mm wk sg tb cs lw hg us de sa ky) := hD
    refine lv_iconst (v := 1) hx hb dX5_put_84 (by decide) ?_
    cases h
    exact mk_zret E (by decide) hK hP hD hS dX5_put_85
  · replace h := (kp_if h).2 c_1
    refine lv_aload_n hx hb dX5_put_51 rfl (lv_at hl 0 rfl) ?_
    refine va_get (D := (dC, dI)) (ci := 5) (v := .ref aRd) (C := RX5) (T := TX5) (N := 18) hx hb hts iw_R_put_Model hown hK hP 0 rfl rfl 0 (by decide) (hts _ mm_R_put_2) (fun _ h9 => h9) rfl dX5_put_52 ?_
    refine lv_bipush (v := 16) hx hb dX5_put_55 (by decide) ?_
    refine lv_iload_n hx hb dX5_put_57 rfl (lv_at hl 1 rfl) ?_
    refine lv_imul hx hb dX5_put_58 ?_
    refine lv_iload_n hx hb dX5_put_59 rfl (lv_at hl 2 rfl) ?_
    refine lv_iadd hx hb dX5_put_60 ?_
    refine lv_aload_n hx hb dX5_put_61 rfl (lv_at hl 0 rfl) ?_
    refine va_get (D := (dC, dI)) (ci := 5) (v := .ref aRw) (C := RX5) (T := TX5) (N := 18) hx hb hts iw_R_put_Model hown hK hP 0 rfl rfl 2 (by decide) (hts _ mm_R_put_3) (fun _ h9 => h9) rfl dX5_put_62 ?_
    refine lv_iload_n hx hb dX5_put_65 rfl (lv_at hl 2 rfl) ?_
    obtain ⟨hc_2, h⟩ := kp_in h
    refine va_iald hx hb hK hP 3 0 rfl rfl (kx_of hc_2) dX5_put_66 ?_
    obtain ⟨hc_3, h⟩ := kp_in h
    refine va_iast hx hb hK hP hD hS 1 0 rfl rfl (kx_of hc_3) dX5_put_67 (fun H locs hP hD hS => ?_)
    have hP : va_P (dC, dI) vwCl (w_R cI cZ cS aR aRd aRm aRw aRs aRt aRc aRl aRh aRu aRx aRy aRk of op cr wn fp fs (upd dk ((16 * x1) + x2).toNatClampNeg (wk x2.toNatClampNeg)) mm wk sg tb cs lw hg us de sa ky) H := hP
    have hD : va_D A (w_R cI cZ cS aR aRd aRm aRw aRs aRt aRc aRl aRh aRu aRx aRy aRk of op cr wn fp fs (upd dk ((16 * x1) + x2).toNatClampNeg (wk x2.toNatClampNeg)) mm wk sg tb cs lw hg us de sa ky) := hD
    refine lv_iinc (v := x2 + 1) (lv' := [(2, .int (x2 + 1)), (0, .ref aR), (1, .int x1)]) hx hb dX5_put_68 hl (k := 2) rfl rfl (by decide) rfl (fun ls hl => ?_)
    refine lv_goto (tgt := 45) hx hb dX5_put_71 (by decide) ?_
    exact hk_45 x1 (x2 + 1) of cr wn (upd dk ((16 * x1) + x2).toNatClampNeg (wk x2.toNatClampNeg)) h H locs ls hP hD hS (lv_sub hl [1, 2, 0] rfl)
set_option maxHeartbeats 4000000 in
set_option maxRecDepth 100000 in
theorem l_R_put_45 {p : Program} {l : Launch} {e : Env} {s : State} {m : MethodId} {below : List Frame} {meth : Method} {c : Code} {A : Nat → Prop} {dC : Nat → ClassId} {dI : Nat → Nat → Nat} {cI cZ cS : ClassId} {aR aRd aRm aRw aRs aRt aRc aRl aRh aRu aRx aRy aRk : Nat} {op : Int32} {fp : Int32} {fs : Int32} {mm : Nat → Int32} {wk : Nat → Int32} {sg : Nat → Int32} {tb : Nat → Int32} {cs : Nat → Int32} {lw : Nat → Int32} {hg : Nat → Int32} {us : Nat → Int32} {de : Nat → Int32} {sa : Nat → Int32} {ky : Nat → Int32} {a1 : Int32} (E : mk_En p s m meth c cX5_put 3 (some .boolean) ([.ref aR, .int a1] : List Value).toArray wsX5_put yX5_put.cls) (hA : ∀ q : Nat, s.heap.size ≤ q → A q) (hK : va_K (dC, dI) vwCl (tyz cI cZ cS) s) (R : Int32 × Int32 × Int32 × Int32 × (Nat → Int32)) : ∀ (n : Nat) (x1 : Int32) (x2 : Int32) (of : Int32) (cr : Int32) (wn : Int32) (dk : Nat → Int32), pl_R_put_45 wk n x1 x2 of cr wn dk = some R → ∀ (H : Heap) (locs : List Loc) (ls : Array Slot), va_P (dC, dI) vwCl (w_R cI cZ cS aR aRd aRm aRw aRs aRt aRc aRl aRh aRu aRx aRy aRk of op cr wn fp fs dk mm wk sg tb cs lw hg us de sa ky) H → va_D A (w_R cI cZ cS aR aRd aRm aRw aRs aRt aRc aRl aRh aRu aRx aRy aRk of op cr wn fp fs dk mm wk sg tb cs lw hg us de sa ky) → va_S A s.heap H locs → lv_has ls 3 [(0, .ref aR), (1, .int x1), (2, .int x2)] → W p l e ({ frames := 0, cells := 0, slots := 0, locals := 0 } : Room) s m ([.ref aR, .int a1] : List Value).toArray below meth c H locs 0 0 (MQ below (mk_QI (dC, dI) vwCl (tyz cI cZ cS) A (fun u : Int32 × Int32 × Int32 × (Nat → Int32) => w_R cI cZ cS aR aRd aRm aRw aRs aRt aRc aRl aRh aRu aRx aRy aRk u.1 op u.2.1 u.2.2.1 fp fs u.2.2.2 mm wk sg tb cs lw hg us de sa ky) R) ([.ref aR, .int a1] : List Value).toArray s 0 0 A) (F0 m 45 ls []) := by
  intro n
  induction n with
  | zero =>
    intro x1 x2 of cr wn dk h
    cases h
  | succ n ih =>
    intro x1 x2 of cr wn dk h
    exact b_R_put_45 E hA hK R ih x1 x2 of cr wn dk h
set_option maxHeartbeats 4000000 in
set_option maxRecDepth 100000 in
theorem b_R_put_40 {p : Program} {l : Launch} {e : Env} {s : State} {m : MethodId} {below : List Frame} {meth : Method} {c : Code} {A : Nat → Prop} {dC : Nat → ClassId} {dI : Nat → Nat → Nat} {cI cZ cS : ClassId} {aR aRd aRm aRw aRs aRt aRc aRl aRh aRu aRx aRy aRk : Nat} {op : Int32} {fp : Int32} {fs : Int32} {mm : Nat → Int32} {wk : Nat → Int32} {sg : Nat → Int32} {tb : Nat → Int32} {cs : Nat → Int32} {lw : Nat → Int32} {hg : Nat → Int32} {us : Nat → Int32} {de : Nat → Int32} {sa : Nat → Int32} {ky : Nat → Int32} {a1 : Int32} (E : mk_En p s m meth c cX5_put 3 (some .boolean) ([.ref aR, .int a1] : List Value).toArray wsX5_put yX5_put.cls) (hA : ∀ q : Nat, s.heap.size ≤ q → A q) (hK : va_K (dC, dI) vwCl (tyz cI cZ cS) s) (R : Int32 × Int32 × Int32 × Int32 × (Nat → Int32)) (x1 : Int32) (z0 : Int32) (of : Int32) (cr : Int32) (wn : Int32) (dk : Nat → Int32) (h : p_R_put_40 wk x1 z0 of cr wn dk = some R) : ∀ (H : Heap) (locs : List Loc) (ls : Array Slot), va_P (dC, dI) vwCl (w_R cI cZ cS aR aRd aRm aRw aRs aRt aRc aRl aRh aRu aRx aRy aRk of op cr wn fp fs dk mm wk sg tb cs lw hg us de sa ky) H → va_D A (w_R cI cZ cS aR aRd aRm aRw aRs aRt aRc aRl aRh aRu aRx aRy aRk of op cr wn fp fs dk mm wk sg tb cs lw hg us de sa ky) → va_S A s.heap H locs → lv_has ls 3 [(0, .ref aR), (1, .int x1)] → W p l e ({ frames := 0, cells := 0, slots := 0, locals := 0 } : Room) s m ([.ref aR, .int a1] : List Value).toArray below meth c H locs 0 0 (MQ below (mk_QI (dC, dI) vwCl (tyz cI cZ cS) A (fun u : Int32 × Int32 × Int32 × (Nat → Int32) => w_R cI cZ cS aR aRd aRm aRw aRs aRt aRc aRl aRh aRu aRx aRy aRk u.1 op u.2.1 u.2.2.1 fp fs u.2.2.2 mm wk sg tb cs lw hg us de sa ky) R) ([.ref aR, .int a1] : List Value).toArray s 0 0 A) (F0 m 40 ls [.int z0, .ref aR]) := by
  intro H locs ls hP hD hS hl
  obtain ⟨⟨hx, hb, hml, hown, hts⟩, hrt, hlk, hN⟩ := id E
  have hown : s.vm.findClass RX5 = some m.cls := hown
  unfold p_R_put_40 at h
  refine va_put (D := (dC, dI)) (ci := 5) (v := .int z0) (ty := .int) (C := RX5) (T := TX5) (N := 18) hx hb hts iw_R_put_Model tyX5 tyX5_ok nmX5 hown hK hP hD hS 0 rfl rfl 6 (by decide) (hts _ mm_R_put_4) (fun _ h9 => h9) rfl (by decide +kernel) rfl rfl (Nat.le_of_ble_eq_true rfl) dX5_put_40 (fun H locs hP hD hS => ?_)
  have hP : va_P (dC, dI) vwCl (w_R cI cZ cS aR aRd aRm aRw aRs aRt aRc aRl aRh aRu aRx aRy aRk of op z0 wn fp fs dk mm wk sg tb cs lw hg us de sa ky) H := hP
  have hD : va_D A (w_R cI cZ cS aR aRd aRm aRw aRs aRt aRc aRl aRh aRu aRx aRy aRk of op z0 wn fp fs dk mm wk sg tb cs lw hg us de sa ky) := hD
  refine lv_iconst (v := 0) hx hb dX5_put_43 (by decide) ?_
  refine lv_istore_n (lv' := [(2, .int 0), (0, .ref aR), (1, .int x1)]) hx hb dX5_put_44 rfl hl (by decide) rfl (fun ls hl => ?_)
  exact l_R_put_45 E hA hK R 1000 x1 0 of z0 wn dk h H locs ls hP hD hS (lv_sub hl [1, 2, 0] rfl)
set_option maxHeartbeats 4000000 in
set_option maxRecDepth 100000 in
theorem c_R_put (l : Launch) (dC : Nat → ClassId) (dI : Nat → Nat → Nat) (cI cZ cS : ClassId) (aR aRd aRm aRw aRs aRt aRc aRl aRh aRu aRx aRy aRk : Nat) (of : Int32) (op : Int32) (cr : Int32) (wn : Int32) (fp : Int32) (fs : Int32) (dk : Nat → Int32) (mm : Nat → Int32) (wk : Nat → Int32) (sg : Nat → Int32) (tb : Nat → Int32) (cs : Nat → Int32) (lw : Nat → Int32) (hg : Nat → Int32) (us : Nat → Int32) (de : Nat → Int32) (sa : Nat → Int32) (ky : Nat → Int32) (a1 : Int32) : CtI l yX5_put wsX5_put ({ frames := 0, cells := 0, slots := 0, locals := 0 }) (dC, dI) vwCl (tyz cI cZ cS) [.ref aR, .int a1] (w_R cI cZ cS aR aRd aRm aRw aRs aRt aRc aRl aRh aRu aRx aRy aRk of op cr wn fp fs dk mm wk sg tb cs lw hg us de sa ky) (fun u : Int32 × Int32 × Int32 × (Nat → Int32) => w_R cI cZ cS aR aRd aRm aRw aRs aRt aRc aRl aRh aRu aRx aRy aRk u.1 op u.2.1 u.2.2.1 fp fs u.2.2.2 mm wk sg tb cs lw hg us de sa ky) (p_R_put of cr wn dk wk a1) := by
  intro R h
  refine mk_enter (Qc := (fun A => mk_QI (dC, dI) vwCl (tyz cI cZ cS) A (fun u : Int32 × Int32 × Int32 × (Nat → Int32) => w_R cI cZ cS aR aRd aRm aRw aRs aRt aRc aRl aRh aRu aRx aRy aRk u.1 op u.2.1 u.2.2.1 fp fs u.2.2.2 mm wk sg tb cs lw hg us de sa ky) R)) (by decide) rfl (Nat.le_of_ble_eq_true rfl) ?_
  intro p e s m below meth c A E hA hK H locs ls hP hD hS hl
  obtain ⟨⟨hx, hb, hml, hown, hts⟩, hrt, hlk, hN⟩ := id E
  have hown : s.vm.findClass RX5 = some m.cls := hown
  have hl : lv_has ls 3 [(0, .ref aR), (1, .int a1)] := hl
  unfold p_R_put at h
  refine lv_aload_n hx hb dX5_put_0 rfl (lv_at hl 0 rfl) ?_
  refine va_get (D := (dC, dI)) (ci := 5) (v := .int cr) (C := RX5) (T := TX5) (N := 18) hx hb hts iw_R_put_Model hown hK hP 0 rfl rfl 6 (by decide) (hts _ mm_R_put_4) (fun _ h9 => h9) rfl dX5_put_1 ?_
  refine lv_if_ne (tgt := 19) hx hb dX5_put_4 (by decide) (fun c_4 => ?_) (fun c_4 => ?_)
  · replace h := (kp_if h).2 c_4
    refine lv_aload_n hx hb dX5_put_19 rfl (lv_at hl 0 rfl) ?_
    refine lv_aload_n hx hb dX5_put_20 rfl (lv_at hl 0 rfl) ?_
    refine va_get (D := (dC, dI)) (ci := 5) (v := .int cr) (C := RX5) (T := TX5) (N := 18) hx hb hts iw_R_put_Model hown hK hP 0 rfl rfl 6 (by decide) (hts _ mm_R_put_4) (fun _ h9 => h9) rfl dX5_put_21 ?_
    refine lv_if_le (tgt := 36) hx hb dX5_put_24 (by decide) (fun c_5 => ?_) (fun c_5 => ?_)
    · replace h := (kp_if h).1 c_5
      refine lv_aload_n hx hb dX5_put_36 rfl (lv_at hl 0 rfl) ?_
      refine va_get (D := (dC, dI)) (ci := 5) (v := .int cr) (C := RX5) (T := TX5) (N := 18) hx hb hts iw_R_put_Model hown hK hP 0 rfl rfl 6 (by decide) (hts _ mm_R_put_4) (fun _ h9 => h9) rfl dX5_put_37 ?_
      exact b_R_put_40 E hA hK R a1 cr of cr wn dk h H locs ls hP hD hS (lv_sub hl [0, 1] rfl)
    · replace h := (kp_if h).2 c_5
      refine lv_aload_n hx hb dX5_put_27 rfl (lv_at hl 0 rfl) ?_
      refine va_get (D := (dC, dI)) (ci := 5) (v := .int cr) (C := RX5) (T := TX5) (N := 18) hx hb hts iw_R_put_Model hown hK hP 0 rfl rfl 6 (by decide) (hts _ mm_R_put_4) (fun _ h9 => h9) rfl dX5_put_28 ?_
      refine lv_iconst (v := 1) hx hb dX5_put_31 (by decide) ?_
      refine lv_isub hx hb dX5_put_32 ?_
      refine lv_goto (tgt := 40) hx hb dX5_put_33 (by decide) ?_
      exact b_R_put_40 E hA hK R a1 (cr - 1) of cr wn dk h H locs ls hP hD hS (lv_sub hl [0, 1] rfl)
  · replace h := (kp_if h).1 c_4
    refine lv_aload_n hx hb dX5_put_7 rfl (lv_at hl 0 rfl) ?_
    refine lv_iconst (v := (-1)) hx hb dX5_put_8 (by decide) ?_
    refine va_put (D := (dC, dI)) (ci := 5) (v := .int (-1)) (ty := .int) (C := RX5) (T := TX5) (N := 18) hx hb hts iw_R_put_Model tyX5 tyX5_ok nmX5 hown hK hP hD hS 0 rfl rfl 6 (by decide) (hts _ mm_R_put_4) (fun _ h9 => h9) rfl (by decide +kernel) rfl rfl (Nat.le_of_ble_eq_true rfl) dX5_put_9 (fun H locs hP hD hS => ?_)
    have hP : va_P (dC, dI) vwCl (w_R cI cZ cS aR aRd aRm aRw aRs aRt aRc aRl aRh aRu aRx aRy aRk of op (-1) wn fp fs dk mm wk sg tb cs lw hg us de sa ky) H := hP
    have hD : va_D A (w_R cI cZ cS aR aRd aRm aRw aRs aRt aRc aRl aRh aRu aRx aRy aRk of op (-1) wn fp fs dk mm wk sg tb cs lw hg us de sa ky) := hD
    refine lv_aload_n hx hb dX5_put_12 rfl (lv_at hl 0 rfl) ?_
    refine lv_iconst (v := 1) hx hb dX5_put_13 (by decide) ?_
    refine va_put (D := (dC, dI)) (ci := 5) (v := .int 1) (ty := .boolean) (C := RX5) (T := TX5) (N := 18) hx hb hts iw_R_put_Model tyX5 tyX5_ok nmX5 hown hK hP hD hS 0 rfl rfl 4 (by decide) (hts _ mm_R_put_5) (fun _ h9 => h9) rfl (by decide +kernel) rfl rfl (Nat.le_of_ble_eq_true rfl) dX5_put_14 (fun H locs hP hD hS => ?_)
    have hP : va_P (dC, dI) vwCl (w_R cI cZ cS aR aRd aRm aRw aRs aRt aRc aRl aRh aRu aRx aRy aRk 1 op (-1) wn fp fs dk mm wk sg tb cs lw hg us de sa ky) H := hP
    have hD : va_D A (w_R cI cZ cS aR aRd aRm aRw aRs aRt aRc aRl aRh aRu aRx aRy aRk 1 op (-1) wn fp fs dk mm wk sg tb cs lw hg us de sa ky) := hD
    refine lv_iconst (v := 0) hx hb dX5_put_17 (by decide) ?_
    cases h
    exact mk_zret E (by decide) hK hP hD hS dX5_put_18

/- Model.putFromDisk(II)Z -/
set_option maxRecDepth 20000 in
theorem mm_R_putFromDisk_0 : Cond.fieldLink RX5 16 "JournaledTablesModel" "work" "[I" ∈ wsX5_putFromDisk := by decide +kernel
set_option maxRecDepth 20000 in
theorem iw_R_putFromDisk_Model : ∀ w ∈ u_ws RX5 TX5 18, w ∈ wsX5_putFromDisk := by decide +kernel
set_option maxRecDepth 20000 in
theorem mm_R_putFromDisk_2 : Cond.fieldLink RX5 7 "JournaledTablesModel" "disk" "[I" ∈ wsX5_putFromDisk := by decide +kernel
set_option maxHeartbeats 4000000 in
set_option maxRecDepth 100000 in
theorem b_R_putFromDisk_2 {p : Program} {l : Launch} {e : Env} {s : State} {m : MethodId} {below : List Frame} {meth : Method} {c : Code} {A : Nat → Prop} {dC : Nat → ClassId} {dI : Nat → Nat → Nat} {cI cZ cS : ClassId} {aR aRd aRm aRw aRs aRt aRc aRl aRh aRu aRx aRy aRk : Nat} {op : Int32} {fp : Int32} {fs : Int32} {mm : Nat → Int32} {sg : Nat → Int32} {tb : Nat → Int32} {cs : Nat → Int32} {lw : Nat → Int32} {hg : Nat → Int32} {us : Nat → Int32} {de : Nat → Int32} {sa : Nat → Int32} {ky : Nat → Int32} {a1 : Int32} {a2 : Int32} (E : mk_En p s m meth c cX5_putFromDisk 4 (some .boolean) ([.ref aR, .int a1, .int a2] : List Value).toArray wsX5_putFromDisk yX5_putFromDisk.cls) (hA : ∀ q : Nat, s.heap.size ≤ q → A q) (hK : va_K (dC, dI) vwCl (tyz cI cZ cS) s) (R : Int32 × Int32 × Int32 × Int32 × (Nat → Int32) × (Nat → Int32)) {k_2 : Int32 → Int32 → Int32 → Int32 → Int32 → Int32 → (Nat → Int32) → (Nat → Int32) → Option (Int32 × Int32 × Int32 × Int32 × (Nat → Int32) × (Nat → Int32))} (hk_2 : ∀ (x1 : Int32) (x2 : Int32) (x3 : Int32) (of : Int32) (cr : Int32) (wn : Int32) (dk : Nat → Int32) (wk : Nat → Int32), k_2 x1 x2 x3 of cr wn dk wk = some R → ∀ (H : Heap) (locs : List Loc) (ls : Array Slot), va_P (dC, dI) vwCl (w_R cI cZ cS aR aRd aRm aRw aRs aRt aRc aRl aRh aRu aRx aRy aRk of op cr wn fp fs dk mm wk sg tb cs lw hg us de sa ky) H → va_D A (w_R cI cZ cS aR aRd aRm aRw aRs aRt aRc aRl aRh aRu aRx aRy aRk of op cr wn fp fs dk mm wk sg tb cs lw hg us de sa ky) → va_S A s.heap H locs → lv_has ls 4 [(0, .ref aR), (1, .int x1), (2, .int x2), (3, .int x3)] → W p l e ({ frames := 1, cells := 0, slots := 0, locals := 22 } : Room) s m ([.ref aR, .int a1, .int a2] : List Value).toArray below meth c H locs 0 0 (MQ below (mk_QI (dC, dI) vwCl (tyz cI cZ cS) A (fun u : Int32 × Int32 × Int32 × (Nat → Int32) × (Nat → Int32) => w_R cI cZ cS aR aRd aRm aRw aRs aRt aRc aRl aRh aRu aRx aRy aRk u.1 op u.2.1 u.2.2.1 fp fs u.2.2.2.1 mm u.2.2.2.2 sg tb cs lw hg us de sa ky) R) ([.ref aR, .int a1, .int a2] : List Value).toArray s 0 0 A) (F0 m 2 ls [])) (x1 : Int32) (x2 : Int32) (x3 : Int32) (of : Int32) (cr : Int32) (wn : Int32) (dk : Nat → Int32) (wk : Nat → Int32) (h : p_R_putFromDisk_2 k_2 x1 x2 x3 of cr wn dk wk = some R) : ∀ (H : Heap) (locs : List Loc) (ls : Array Slot), va_P (dC, dI) vwCl (w_R cI cZ cS aR aRd aRm aRw aRs aRt aRc aRl aRh aRu aRx aRy aRk of op cr wn fp fs dk mm wk sg tb cs lw hg us de sa ky) H → va_D A (w_R cI cZ cS aR aRd aRm aRw aRs aRt aRc aRl aRh aRu aRx aRy aRk of op cr wn fp fs dk mm wk sg tb cs lw hg us de sa ky) → va_S A s.heap H locs → lv_has ls 4 [(0, .ref aR), (1, .int x1), (2, .int x2), (3, .int x3)] → W p l e ({ frames := 1, cells := 0, slots := 0, locals := 22 } : Room) s m ([.ref aR, .int a1, .int a2] : List Value).toArray below meth c H locs 0 0 (MQ below (mk_QI (dC, dI) vwCl (tyz cI cZ cS) A (fun u : Int32 × Int32 × Int32 × (Nat → Int32) × (Nat → Int32) => w_R cI cZ cS aR aRd aRm aRw aRs aRt aRc aRl aRh aRu aRx aRy aRk u.1 op u.2.1 u.2.2.1 fp fs u.2.2.2.1 mm u.2.2.2.2 sg tb cs lw hg us de sa ky) R) ([.ref aR, .int a1, .int a2] : List Value).toArray s 0 0 A) (F0 m 2 ls []) := by
  intro H locs ls hP hD hS hl
  obtain ⟨⟨hx, hb, hml, hown, hts⟩, hrt, hlk, hN⟩ := id E
  have hown : s.vm.findClass RX5 = some m.cls := hown
  unfold p_R_putFromDisk_2 at h
  refine lv_iload_n hx hb dX5_putFromDisk_2 rfl (lv_at hl 3 rfl) ?_
  refine lv_bipush (v := 16) hx hb dX5_putFromDisk_3 (by decide) ?_
  refine lv_icmp_ge (tgt := 31) hx hb dX5_putFromDisk_5 (by decide) (fun c_1 => ?_) (fun c_1 => ?_)
  · replace h := (kp_if h).1 c_1
    refine lv_aload_n hx hb dX5_putFromDisk_31 rfl (lv_at hl 0 rfl) ?_
    refine lv_iload_n hx hb dX5_putFromDisk_32 rfl (lv_at hl 1 rfl) ?_
    obtain ⟨r_2, hr_2, h⟩ := kp_bind h
    refine mk_contI (w := w_R cI cZ cS aR aRd aRm aRw aRs aRt aRc aRl aRh aRu aRx aRy aRk of op cr wn fp fs dk mm wk sg tb cs lw hg us de sa ky) (w0 := w_R cI cZ cS aR aRd aRm aRw aRs aRt aRc aRl aRh aRu aRx aRy aRk of op cr wn fp fs dk mm wk sg tb cs lw hg us de sa ky) (wr := []) (w2 := w_R cI cZ cS aR aRd aRm aRw aRs aRt aRc aRl aRh aRu aRx aRy aRk r_2.2.1 op r_2.2.2.1 r_2.2.2.2.1 fp fs r_2.2.2.2.2 mm wk sg tb cs lw hg us de sa ky) hP hD hS hA [0, 1, 2, 3, 4, 5, 6, 7, 8, 9, 10, 11, 12] [] rfl rfl (by decide) (by decide) [0, 1, 2, 3, 4, 5, 6, 7, 8, 9, 10, 11, 12] rfl (by decide) (va_runV (As := [.int x1]) (rest := []) ⟨hx, hb, hml, hown, hts⟩ (c_R_put l dC dI cI cZ cS aR aRd aRm aRw aRs aRt aRc aRl aRh aRu aRx aRy aRk of op cr wn fp fs dk mm wk sg tb cs lw hg us de sa ky x1 r_2 hr_2 H.size) (cwV 1 hts gX5_putFromDisk_X5_put rfl rfl rfl (by decide +kernel) ⟨Nat.le_of_ble_eq_true rfl, Nat.le_of_ble_eq_true rfl⟩) (mk_preV (w0 := w_R cI cZ cS aR aRd aRm aRw aRs aRt aRc aRl aRh aRu aRx aRy aRk of op cr wn fp fs dk mm wk sg tb cs lw hg us de sa ky) (ci := 5) (q0 := 0) hN hK (mk_pick hP [0, 1, 2, 3, 4, 5, 6, 7, 8, 9, 10, 11, 12] rfl) (hD.sub [0, 1, 2, 3, 4, 5, 6, 7, 8, 9, 10, 11, 12] (by decide) rfl) rfl rfl rfl) rfl rfl hl.1 rfl (lv_room (Nat.le_of_ble_eq_true rfl)) dX5_putFromDisk_33 ⟨Nat.zero_le _, Nat.zero_le _⟩) (fun H locs hP hD hS => ?_)
    obtain ⟨hc_3, h⟩ := kp_in h
    cases h
    exact mk_zret E hc_3 hK hP hD hS dX5_putFromDisk_36
  · replace h := (kp_if h).2 c_1
    refine lv_aload_n hx hb dX5_putFromDisk_8 rfl (lv_at hl 0 rfl) ?_
    refine va_get (D := (dC, dI)) (ci := 5) (v := .ref aRw) (C := RX5) (T := TX5) (N := 18) hx hb hts iw_R_putFromDisk_Model hown hK hP 0 rfl rfl 2 (by decide) (hts _ mm_R_putFromDisk_0) (fun _ h9 => h9) rfl dX5_putFromDisk_9 ?_
    refine lv_iload_n hx hb dX5_putFromDisk_12 rfl (lv_at hl 3 rfl) ?_
    refine lv_aload_n hx hb dX5_putFromDisk_13 rfl (lv_at hl 0 rfl) ?_
    refine va_get (D := (dC, dI)) (ci := 5) (v := .ref aRd) (C := RX5) (T := TX5) (N := 18) hx hb hts iw_R_putFromDisk_Model hown hK hP 0 rfl rfl 0 (by decide) (hts _ mm_R_putFromDisk_2) (fun _ h9 => h9) rfl dX5_putFromDisk_14 ?_
    refine lv_bipush (v := 16) hx hb dX5_putFromDisk_17 (by decide) ?_
    refine lv_iload_n hx hb dX5_putFromDisk_19 rfl (lv_at hl 2 rfl) ?_
    refine lv_imul hx hb dX5_putFromDisk_20 ?_
    refine lv_iload_n hx hb dX5_putFromDisk_21 rfl (lv_at hl 3 rfl) ?_
    refine lv_iadd hx hb dX5_putFromDisk_22 ?_
    obtain ⟨hc_4, h⟩ := kp_in h
    refine va_iald hx hb hK hP 1 0 rfl rfl (kx_of hc_4) dX5_putFromDisk_23 ?_
    obtain ⟨hc_5, h⟩ := kp_in h
    refine va_iast hx hb hK hP hD hS 3 0 rfl rfl (kx_of hc_5) dX5_putFromDisk_24 (fun H locs hP hD hS => ?_)
    have hP : va_P (dC, dI) vwCl (w_R cI cZ cS aR aRd aRm aRw aRs aRt aRc aRl aRh aRu aRx aRy aRk of op cr wn fp fs dk mm (upd wk x3.toNatClampNeg (dk ((16 * x2) + x3).toNatClampNeg)) sg tb cs lw hg us de sa ky) H := hP
    have hD : va_D A (w_R cI cZ cS aR aRd aRm aRw aRs aRt aRc aRl aRh aRu aRx aRy aRk of op cr wn fp fs dk mm (upd wk x3.toNatClampNeg (dk ((16 * x2) + x3).toNatClampNeg)) sg tb cs lw hg us de sa ky) := hD
    refine lv_iinc (v := x3 + 1) (lv' := [(3, .int (x3 + 1)), (0, .ref aR), (1, .int x1), (2, .int x2)]) hx hb dX5_putFromDisk_25 hl (k := 3) rfl rfl (by decide) rfl (fun ls hl => ?_)
    refine lv_goto (tgt := 2) hx hb dX5_putFromDisk_28 (by decide) ?_
    exact hk_2 x1 x2 (x3 + 1) of cr wn dk (upd wk x3.toNatClampNeg (dk ((16 * x2) + x3).toNatClampNeg)) h H locs ls hP hD hS (lv_sub hl [1, 2, 3, 0] rfl)
set_option maxHeartbeats 4000000 in
set_option maxRecDepth 100000 in
theorem l_R_putFromDisk_2 {p : Program} {l : Launch} {e : Env} {s : State} {m : MethodId} {below : List Frame} {meth : Method} {c : Code} {A : Nat → Prop} {dC : Nat → ClassId} {dI : Nat → Nat → Nat} {cI cZ cS : ClassId} {aR aRd aRm aRw aRs aRt aRc aRl aRh aRu aRx aRy aRk : Nat} {op : Int32} {fp : Int32} {fs : Int32} {mm : Nat → Int32} {sg : Nat → Int32} {tb : Nat → Int32} {cs : Nat → Int32} {lw : Nat → Int32} {hg : Nat → Int32} {us : Nat → Int32} {de : Nat → Int32} {sa : Nat → Int32} {ky : Nat → Int32} {a1 : Int32} {a2 : Int32} (E : mk_En p s m meth c cX5_putFromDisk 4 (some .boolean) ([.ref aR, .int a1, .int a2] : List Value).toArray wsX5_putFromDisk yX5_putFromDisk.cls) (hA : ∀ q : Nat, s.heap.size ≤ q → A q) (hK : va_K (dC, dI) vwCl (tyz cI cZ cS) s) (R : Int32 × Int32 × Int32 × Int32 × (Nat → Int32) × (Nat → Int32)) : ∀ (n : Nat) (x1 : Int32) (x2 : Int32) (x3 : Int32) (of : Int32) (cr : Int32) (wn : Int32) (dk : Nat → Int32) (wk : Nat → Int32), pl_R_putFromDisk_2 n x1 x2 x3 of cr wn dk wk = some R → ∀ (H : Heap) (locs : List Loc) (ls : Array Slot), va_P (dC, dI) vwCl (w_R cI cZ cS aR aRd aRm aRw aRs aRt aRc aRl aRh aRu aRx aRy aRk of op cr wn fp fs dk mm wk sg tb cs lw hg us de sa ky) H → va_D A (w_R cI cZ cS aR aRd aRm aRw aRs aRt aRc aRl aRh aRu aRx aRy aRk of op cr wn fp fs dk mm wk sg tb cs lw hg us de sa ky) → va_S A s.heap H locs → lv_has ls 4 [(0, .ref aR), (1, .int x1), (2, .int x2), (3, .int x3)] → W p l e ({ frames := 1, cells := 0, slots := 0, locals := 22 } : Room) s m ([.ref aR, .int a1, .int a2] : List Value).toArray below meth c H locs 0 0 (MQ below (mk_QI (dC, dI) vwCl (tyz cI cZ cS) A (fun u : Int32 × Int32 × Int32 × (Nat → Int32) × (Nat → Int32) => w_R cI cZ cS aR aRd aRm aRw aRs aRt aRc aRl aRh aRu aRx aRy aRk u.1 op u.2.1 u.2.2.1 fp fs u.2.2.2.1 mm u.2.2.2.2 sg tb cs lw hg us de sa ky) R) ([.ref aR, .int a1, .int a2] : List Value).toArray s 0 0 A) (F0 m 2 ls []) := by
  intro n
  induction n with
  | zero =>
    intro x1 x2 x3 of cr wn dk wk h
    cases h
  | succ n ih =>
    intro x1 x2 x3 of cr wn dk wk h
    exact b_R_putFromDisk_2 E hA hK R ih x1 x2 x3 of cr wn dk wk h
set_option maxHeartbeats 4000000 in
set_option maxRecDepth 100000 in
theorem c_R_putFromDisk (l : Launch) (dC : Nat → ClassId) (dI : Nat → Nat → Nat) (cI cZ cS : ClassId) (aR aRd aRm aRw aRs aRt aRc aRl aRh aRu aRx aRy aRk : Nat) (of : Int32) (op : Int32) (cr : Int32) (wn : Int32) (fp : Int32) (fs : Int32) (dk : Nat → Int32) (mm : Nat → Int32) (wk : Nat → Int32) (sg : Nat → Int32) (tb : Nat → Int32) (cs : Nat → Int32) (lw : Nat → Int32) (hg : Nat → Int32) (us : Nat → Int32) (de : Nat → Int32) (sa : Nat → Int32) (ky : Nat → Int32) (a1 : Int32) (a2 : Int32) : CtI l yX5_putFromDisk wsX5_putFromDisk ({ frames := 1, cells := 0, slots := 0, locals := 22 }) (dC, dI) vwCl (tyz cI cZ cS) [.ref aR, .int a1, .int a2] (w_R cI cZ cS aR aRd aRm aRw aRs aRt aRc aRl aRh aRu aRx aRy aRk of op cr wn fp fs dk mm wk sg tb cs lw hg us de sa ky) (fun u : Int32 × Int32 × Int32 × (Nat → Int32) × (Nat → Int32) => w_R cI cZ cS aR aRd aRm aRw aRs aRt aRc aRl aRh aRu aRx aRy aRk u.1 op u.2.1 u.2.2.1 fp fs u.2.2.2.1 mm u.2.2.2.2 sg tb cs lw hg us de sa ky) (p_R_putFromDisk of cr wn dk wk a1 a2) := by
  intro R h
  refine mk_enter (Qc := (fun A => mk_QI (dC, dI) vwCl (tyz cI cZ cS) A (fun u : Int32 × Int32 × Int32 × (Nat → Int32) × (Nat → Int32) => w_R cI cZ cS aR aRd aRm aRw aRs aRt aRc aRl aRh aRu aRx aRy aRk u.1 op u.2.1 u.2.2.1 fp fs u.2.2.2.1 mm u.2.2.2.2 sg tb cs lw hg us de sa ky) R)) (by decide) rfl (Nat.le_of_ble_eq_true rfl) ?_
  intro p e s m below meth c A E hA hK H locs ls hP hD hS hl
  obtain ⟨⟨hx, hb, hml, hown, hts⟩, hrt, hlk, hN⟩ := id E
  have hown : s.vm.findClass RX5 = some m.cls := hown
  have hl : lv_has ls 4 [(0, .ref aR), (1, .int a1), (2, .int a2)] := hl
  unfold p_R_putFromDisk at h
  refine lv_iconst (v := 0) hx hb dX5_putFromDisk_0 (by decide) ?_
  refine lv_istore_n (lv' := [(3, .int 0), (0, .ref aR), (1, .int a1), (2, .int a2)]) hx hb dX5_putFromDisk_1 rfl hl (by decide) rfl (fun ls hl => ?_)
  exact l_R_putFromDisk_2 E hA hK R 1000 a1 a2 0 of cr wn dk wk h H locs ls hP hD hS (lv_sub hl [1, 2, 3, 0] rfl)

/- Model.putFromMemory(I)Z -/
set_option maxRecDepth 20000 in
theorem mm_R_putFromMemory_0 : Cond.fieldLink RX5 16 "JournaledTablesModel" "work" "[I" ∈ wsX5_putFromMemory := by decide +kernel
set_option maxRecDepth 20000 in
theorem iw_R_putFromMemory_Model : ∀ w ∈ u_ws RX5 TX5 18, w ∈ wsX5_putFromMemory := by decide +kernel
set_option maxRecDepth 20000 in
theorem mm_R_putFromMemory_2 : Cond.fieldLink RX5 13 "JournaledTablesModel" "memory" "[I" ∈ wsX5_putFromMemory := by decide +kernel
set_option maxHeartbeats 4000000 in
set_option maxRecDepth 100000 in
theorem b_R_putFromMemory_2 {p : Program} {l : Launch} {e : Env} {s : State} {m : MethodId} {below : List Frame} {meth : Method} {c : Code} {A : Nat → Prop} {dC : Nat → ClassId} {dI : Nat → Nat → Nat} {cI cZ cS : ClassId} {aR aRd aRm aRw aRs aRt aRc aRl aRh aRu aRx aRy aRk : Nat} {op : Int32} {fp : Int32} {fs : Int32} {mm : Nat → Int32} {sg : Nat → Int32} {tb : Nat → Int32} {cs : Nat → Int32} {lw : Nat → Int32} {hg : Nat → Int32} {us : Nat → Int32} {de : Nat → Int32} {sa : Nat → Int32} {ky : Nat → Int32} {a1 : Int32} (E : mk_En p s m meth c cX5_putFromMemory 3 (some .boolean) ([.ref aR, .int a1] : List Value).toArray wsX5_putFromMemory yX5_putFromMemory.cls) (hA : ∀ q : Nat, s.heap.size ≤ q → A q) (hK : va_K (dC, dI) vwCl (tyz cI cZ cS) s) (R : Int32 × Int32 × Int32 × Int32 × (Nat → Int32) × (Nat → Int32)) {k_2 : Int32 → Int32 → Int32 → Int32 → Int32 → (Nat → Int32) → (Nat → Int32) → Option (Int32 × Int32 × Int32 × Int32 × (Nat → Int32) × (Nat → Int32))} (hk_2 : ∀ (x1 : Int32) (x2 : Int32) (of : Int32) (cr : Int32) (wn : Int32) (dk : Nat → Int32) (wk : Nat → Int32), k_2 x1 x2 of cr wn dk wk = some R → ∀ (H : Heap) (locs : List Loc) (ls : Array Slot), va_P (dC, dI) vwCl (w_R cI cZ cS aR aRd aRm aRw aRs aRt aRc aRl aRh aRu aRx aRy aRk of op cr wn fp fs dk mm wk sg tb cs lw hg us de sa ky) H → va_D A (w_R cI cZ cS aR aRd aRm aRw aRs aRt aRc aRl aRh aRu aRx aRy aRk of op cr wn fp fs dk mm wk sg tb cs lw hg us de sa ky) → va_S A s.heap H locs → lv_has ls 3 [(0, .ref aR), (1, .int x1), (2, .int x2)] → W p l e ({ frames := 1, cells := 0, slots := 0, locals := 22 } : Room) s m ([.ref aR, .int a1] : List Value).toArray below meth c H locs 0 0 (MQ below (mk_QI (dC, dI) vwCl (tyz cI cZ cS) A (fun u : Int32 × Int32 × Int32 × (Nat → Int32) × (Nat → Int32) => w_R cI cZ cS aR aRd aRm aRw aRs aRt aRc aRl aRh aRu aRx aRy aRk u.1 op u.2.1 u.2.2.1 fp fs u.2.2.2.1 mm u.2.2.2.2 sg tb cs lw hg us de sa ky) R) ([.ref aR, .int a1] : List Value).toArray s 0 0 A) (F0 m 2 ls [])) (x1 : Int32) (x2 : Int32) (of : Int32) (cr : Int32) (wn : Int32) (dk : Nat → Int32) (wk : Nat → Int32) (h : p_R_putFromMemory_2 mm k_2 x1 x2 of cr wn dk wk = some R) : ∀ (H : Heap) (locs : List Loc) (ls : Array Slot), va_P (dC, dI) vwCl (w_R cI cZ cS aR aRd aRm aRw aRs aRt aRc aRl aRh aRu aRx aRy aRk of op cr wn fp fs dk mm wk sg tb cs lw hg us de sa ky) H → va_D A (w_R cI cZ cS aR aRd aRm aRw aRs aRt aRc aRl aRh aRu aRx aRy aRk of op cr wn fp fs dk mm wk sg tb cs lw hg us de sa ky) → va_S A s.heap H locs → lv_has ls 3 [(0, .ref aR), (1, .int x1), (2, .int x2)] → W p l e ({ frames := 1, cells := 0, slots := 0, locals := 22 } : Room) s m ([.ref aR, .int a1] : List Value).toArray below meth c H locs 0 0 (MQ below (mk_QI (dC, dI) vwCl (tyz cI cZ cS) A (fun u : Int32 × Int32 × Int32 × (Nat → Int32) × (Nat → Int32) => w_R cI cZ cS aR aRd aRm aRw aRs aRt aRc aRl aRh aRu aRx aRy aRk u.1 op u.2.1 u.2.2.1 fp fs u.2.2.2.1 mm u.2.2.2.2 sg tb cs lw hg us de sa ky) R) ([.ref aR, .int a1] : List Value).toArray s 0 0 A) (F0 m 2 ls []) := by
  intro H locs ls hP hD hS hl
  obtain ⟨⟨hx, hb, hml, hown, hts⟩, hrt, hlk, hN⟩ := id E
  have hown : s.vm.findClass RX5 = some m.cls := hown
  unfold p_R_putFromMemory_2 at h
  refine lv_iload_n hx hb dX5_putFromMemory_2 rfl (lv_at hl 2 rfl) ?_
  refine lv_bipush (v := 16) hx hb dX5_putFromMemory_3 (by decide) ?_
  refine lv_icmp_ge (tgt := 31) hx hb dX5_putFromMemory_5 (by decide) (fun c_1 => ?_) (fun c_1 => ?_)
  · replace h := (kp_if h).1 c_1
    refine lv_aload_n hx hb dX5_putFromMemory_31 rfl (lv_at hl 0 rfl) ?_
    refine lv_iload_n hx hb dX5_putFromMemory_32 rfl (lv_at hl 1 rfl) ?_
    obtain ⟨r_2, hr_2, h⟩ := kp_bind h
    refine mk_contI (w := w_R cI cZ cS aR aRd aRm aRw aRs aRt aRc aRl aRh aRu aRx aRy aRk of op cr wn fp fs dk mm wk sg tb cs lw hg us de sa ky) (w0 := w_R cI cZ cS aR aRd aRm aRw aRs aRt aRc aRl aRh aRu aRx aRy aRk of op cr wn fp fs dk mm wk sg tb cs lw hg us de sa ky) (wr := []) (w2 := w_R cI cZ cS aR aRd aRm aRw aRs aRt aRc aRl aRh aRu aRx aRy aRk r_2.2.1 op r_2.2.2.1 r_2.2.2.2.1 fp fs r_2.2.2.2.2 mm wk sg tb cs lw hg us de sa ky) hP hD hS hA [0, 1, 2, 3, 4, 5, 6, 7, 8, 9, 10, 11, 12] [] rfl rfl (by decide) (by decide) [0, 1, 2, 3, 4, 5, 6, 7, 8, 9, 10, 11, 12] rfl (by decide) (va_runV (As := [.int x1]) (rest := []) ⟨hx, hb, hml, hown, hts⟩ (c_R_put l dC dI cI cZ cS aR aRd aRm aRw aRs aRt aRc aRl aRh aRu aRx aRy aRk of op cr wn fp fs dk mm wk sg tb cs lw hg us de sa ky x1 r_2 hr_2 H.size) (cwV 1 hts gX5_putFromMemory_X5_put rfl rfl rfl (by decide +kernel) ⟨Nat.le_of_ble_eq_true rfl, Nat.le_of_ble_eq_true rfl⟩) (mk_preV (w0 := w_R cI cZ cS aR aRd aRm aRw aRs aRt aRc aRl aRh aRu aRx aRy aRk of op cr wn fp fs dk mm wk sg tb cs lw hg us de sa ky) (ci := 5) (q0 := 0) hN hK (mk_pick hP [0, 1, 2, 3, 4, 5, 6, 7, 8, 9, 10, 11, 12] rfl) (hD.sub [0, 1, 2, 3, 4, 5, 6, 7, 8, 9, 10, 11, 12] (by decide) rfl) rfl rfl rfl) rfl rfl hl.1 rfl (lv_room (Nat.le_of_ble_eq_true rfl)) dX5_putFromMemory_33 ⟨Nat.zero_le _, Nat.zero_le _⟩) (fun H locs hP hD hS => ?_)
    obtain ⟨hc_3, h⟩ := kp_in h
    cases h
    exact mk_zret E hc_3 hK hP hD hS dX5_putFromMemory_36
  · replace h := (kp_if h).2 c_1
    refine lv_aload_n hx hb dX5_putFromMemory_8 rfl (lv_at hl 0 rfl) ?_
    refine va_get (D := (dC, dI)) (ci := 5) (v := .ref aRw) (C := RX5) (T := TX5) (N := 18) hx hb hts iw_R_putFromMemory_Model hown hK hP 0 rfl rfl 2 (by decide) (hts _ mm_R_putFromMemory_0) (fun _ h9 => h9) rfl dX5_putFromMemory_9 ?_
    refine lv_iload_n hx hb dX5_putFromMemory_12 rfl (lv_at hl 2 rfl) ?_
    refine lv_aload_n hx hb dX5_putFromMemory_13 rfl (lv_at hl 0 rfl) ?_
    refine va_get (D := (dC, dI)) (ci := 5) (v := .ref aRm) (C := RX5) (T := TX5) (N := 18) hx hb hts iw_R_putFromMemory_Model hown hK hP 0 rfl rfl 1 (by decide) (hts _ mm_R_putFromMemory_2) (fun _ h9 => h9) rfl dX5_putFromMemory_14 ?_
    refine lv_bipush (v := 16) hx hb dX5_putFromMemory_17 (by decide) ?_
    refine lv_iload_n hx hb dX5_putFromMemory_19 rfl (lv_at hl 1 rfl) ?_
    refine lv_imul hx hb dX5_putFromMemory_20 ?_
    refine lv_iload_n hx hb dX5_putFromMemory_21 rfl (lv_at hl 2 rfl) ?_
    refine lv_iadd hx hb dX5_putFromMemory_22 ?_
    obtain ⟨hc_4, h⟩ := kp_in h
    refine va_iald hx hb hK hP 2 0 rfl rfl (kx_of hc_4) dX5_putFromMemory_23 ?_
    obtain ⟨hc_5, h⟩ := kp_in h
    refine va_iast hx hb hK hP hD hS 3 0 rfl rfl (kx_of hc_5) dX5_putFromMemory_24 (fun H locs hP hD hS => ?_)
    have hP : va_P (dC, dI) vwCl (w_R cI cZ cS aR aRd aRm aRw aRs aRt aRc aRl aRh aRu aRx aRy aRk of op cr wn fp fs dk mm (upd wk x2.toNatClampNeg (mm ((16 * x1) + x2).toNatClampNeg)) sg tb cs lw hg us de sa ky) H := hP
    have hD : va_D A (w_R cI cZ cS aR aRd aRm aRw aRs aRt aRc aRl aRh aRu aRx aRy aRk of op cr wn fp fs dk mm (upd wk x2.toNatClampNeg (mm ((16 * x1) + x2).toNatClampNeg)) sg tb cs lw hg us de sa ky) := hD
    refine lv_iinc (v := x2 + 1) (lv' := [(2, .int (x2 + 1)), (0, .ref aR), (1, .int x1)]) hx hb dX5_putFromMemory_25 hl (k := 2) rfl rfl (by decide) rfl (fun ls hl => ?_)
    refine lv_goto (tgt := 2) hx hb dX5_putFromMemory_28 (by decide) ?_
    exact hk_2 x1 (x2 + 1) of cr wn dk (upd wk x2.toNatClampNeg (mm ((16 * x1) + x2).toNatClampNeg)) h H locs ls hP hD hS (lv_sub hl [1, 2, 0] rfl)
set_option maxHeartbeats 4000000 in
set_option maxRecDepth 100000 in
theorem l_R_putFromMemory_2 {p : Program} {l : Launch} {e : Env} {s : State} {m : MethodId} {below : List Frame} {meth : Method} {c : Code} {A : Nat → Prop} {dC : Nat → ClassId} {dI : Nat → Nat → Nat} {cI cZ cS : ClassId} {aR aRd aRm aRw aRs aRt aRc aRl aRh aRu aRx aRy aRk : Nat} {op : Int32} {fp : Int32} {fs : Int32} {mm : Nat → Int32} {sg : Nat → Int32} {tb : Nat → Int32} {cs : Nat → Int32} {lw : Nat → Int32} {hg : Nat → Int32} {us : Nat → Int32} {de : Nat → Int32} {sa : Nat → Int32} {ky : Nat → Int32} {a1 : Int32} (E : mk_En p s m meth c cX5_putFromMemory 3 (some .boolean) ([.ref aR, .int a1] : List Value).toArray wsX5_putFromMemory yX5_putFromMemory.cls) (hA : ∀ q : Nat, s.heap.size ≤ q → A q) (hK : va_K (dC, dI) vwCl (tyz cI cZ cS) s) (R : Int32 × Int32 × Int32 × Int32 × (Nat → Int32) × (Nat → Int32)) : ∀ (n : Nat) (x1 : Int32) (x2 : Int32) (of : Int32) (cr : Int32) (wn : Int32) (dk : Nat → Int32) (wk : Nat → Int32), pl_R_putFromMemory_2 mm n x1 x2 of cr wn dk wk = some R → ∀ (H : Heap) (locs : List Loc) (ls : Array Slot), va_P (dC, dI) vwCl (w_R cI cZ cS aR aRd aRm aRw aRs aRt aRc aRl aRh aRu aRx aRy aRk of op cr wn fp fs dk mm wk sg tb cs lw hg us de sa ky) H → va_D A (w_R cI cZ cS aR aRd aRm aRw aRs aRt aRc aRl aRh aRu aRx aRy aRk of op cr wn fp fs dk mm wk sg tb cs lw hg us de sa ky) → va_S A s.heap H locs → lv_has ls 3 [(0, .ref aR), (1, .int x1), (2, .int x2)] → W p l e ({ frames := 1, cells := 0, slots := 0, locals := 22 } : Room) s m ([.ref aR, .int a1] : List Value).toArray below meth c H locs 0 0 (MQ below (mk_QI (dC, dI) vwCl (tyz cI cZ cS) A (fun u : Int32 × Int32 × Int32 × (Nat → Int32) × (Nat → Int32) => w_R cI cZ cS aR aRd aRm aRw aRs aRt aRc aRl aRh aRu aRx aRy aRk u.1 op u.2.1 u.2.2.1 fp fs u.2.2.2.1 mm u.2.2.2.2 sg tb cs lw hg us de sa ky) R) ([.ref aR, .int a1] : List Value).toArray s 0 0 A) (F0 m 2 ls []) := by
  intro n
  induction n with
  | zero =>
    intro x1 x2 of cr wn dk wk h
    cases h
  | succ n ih =>
    intro x1 x2 of cr wn dk wk h
    exact b_R_putFromMemory_2 E hA hK R ih x1 x2 of cr wn dk wk h
set_option maxHeartbeats 4000000 in
set_option maxRecDepth 100000 in
theorem c_R_putFromMemory (l : Launch) (dC : Nat → ClassId) (dI : Nat → Nat → Nat) (cI cZ cS : ClassId) (aR aRd aRm aRw aRs aRt aRc aRl aRh aRu aRx aRy aRk : Nat) (of : Int32) (op : Int32) (cr : Int32) (wn : Int32) (fp : Int32) (fs : Int32) (dk : Nat → Int32) (mm : Nat → Int32) (wk : Nat → Int32) (sg : Nat → Int32) (tb : Nat → Int32) (cs : Nat → Int32) (lw : Nat → Int32) (hg : Nat → Int32) (us : Nat → Int32) (de : Nat → Int32) (sa : Nat → Int32) (ky : Nat → Int32) (a1 : Int32) : CtI l yX5_putFromMemory wsX5_putFromMemory ({ frames := 1, cells := 0, slots := 0, locals := 22 }) (dC, dI) vwCl (tyz cI cZ cS) [.ref aR, .int a1] (w_R cI cZ cS aR aRd aRm aRw aRs aRt aRc aRl aRh aRu aRx aRy aRk of op cr wn fp fs dk mm wk sg tb cs lw hg us de sa ky) (fun u : Int32 × Int32 × Int32 × (Nat → Int32) × (Nat → Int32) => w_R cI cZ cS aR aRd aRm aRw aRs aRt aRc aRl aRh aRu aRx aRy aRk u.1 op u.2.1 u.2.2.1 fp fs u.2.2.2.1 mm u.2.2.2.2 sg tb cs lw hg us de sa ky) (p_R_putFromMemory of cr wn dk mm wk a1) := by
  intro R h
  refine mk_enter (Qc := (fun A => mk_QI (dC, dI) vwCl (tyz cI cZ cS) A (fun u : Int32 × Int32 × Int32 × (Nat → Int32) × (Nat → Int32) => w_R cI cZ cS aR aRd aRm aRw aRs aRt aRc aRl aRh aRu aRx aRy aRk u.1 op u.2.1 u.2.2.1 fp fs u.2.2.2.1 mm u.2.2.2.2 sg tb cs lw hg us de sa ky) R)) (by decide) rfl (Nat.le_of_ble_eq_true rfl) ?_
  intro p e s m below meth c A E hA hK H locs ls hP hD hS hl
  obtain ⟨⟨hx, hb, hml, hown, hts⟩, hrt, hlk, hN⟩ := id E
  have hown : s.vm.findClass RX5 = some m.cls := hown
  have hl : lv_has ls 3 [(0, .ref aR), (1, .int a1)] := hl
  unfold p_R_putFromMemory at h
  refine lv_iconst (v := 0) hx hb dX5_putFromMemory_0 (by decide) ?_
  refine lv_istore_n (lv' := [(2, .int 0), (0, .ref aR), (1, .int a1)]) hx hb dX5_putFromMemory_1 rfl hl (by decide) rfl (fun ls hl => ?_)
  exact l_R_putFromMemory_2 E hA hK R 1000 a1 0 of cr wn dk wk h H locs ls hP hD hS (lv_sub hl [1, 2, 0] rfl)

/- Model.check(I)I -/
set_option maxRecDepth 20000 in
theorem mm_R_check_0 : Cond.fieldLink RX5 7 "JournaledTablesModel" "disk" "[I" ∈ wsX5_check := by decide +kernel
set_option maxRecDepth 20000 in
theorem iw_R_check_Model : ∀ w ∈ u_ws RX5 TX5 18, w ∈ wsX5_check := by decide +kernel
set_option maxHeartbeats 4000000 in
set_option maxRecDepth 100000 in
theorem b_R_check_6 {p : Program} {l : Launch} {e : Env} {s : State} {m : MethodId} {below : List Frame} {meth : Method} {c : Code} {A : Nat → Prop} {dC : Nat → ClassId} {dI : Nat → Nat → Nat} {cI cZ cS : ClassId} {aR aRd aRm aRw aRs aRt aRc aRl aRh aRu aRx aRy aRk : Nat} {of : Int32} {op : Int32} {cr : Int32} {wn : Int32} {fp : Int32} {fs : Int32} {dk : Nat → Int32} {mm : Nat → Int32} {wk : Nat → Int32} {sg : Nat → Int32} {tb : Nat → Int32} {cs : Nat → Int32} {lw : Nat → Int32} {hg : Nat → Int32} {us : Nat → Int32} {de : Nat → Int32} {sa : Nat → Int32} {ky : Nat → Int32} {a1 : Int32} (E : mk_En p s m meth c cX5_check 4 (some .int) ([.ref aR, .int a1] : List Value).toArray wsX5_check yX5_check.cls) (hA : ∀ q : Nat, s.heap.size ≤ q → A q) (hK : va_K (dC, dI) vwCl (tyz cI cZ cS) s) (R : Int32) {k_6 : Int32 → Int32 → Int32 → Option Int32} (hk_6 : ∀ (x1 : Int32) (x2 : Int32) (x3 : Int32), k_6 x1 x2 x3 = some R → ∀ (H : Heap) (locs : List Loc) (ls : Array Slot), va_P (dC, dI) vwCl (w_R cI cZ cS aR aRd aRm aRw aRs aRt aRc aRl aRh aRu aRx aRy aRk of op cr wn fp fs dk mm wk sg tb cs lw hg us de sa ky) H → va_D A (w_R cI cZ cS aR aRd aRm aRw aRs aRt aRc aRl aRh aRu aRx aRy aRk of op cr wn fp fs dk mm wk sg tb cs lw hg us de sa ky) → va_S A s.heap H locs → lv_has ls 4 [(0, .ref aR), (1, .int x1), (2, .int x2), (3, .int x3)] → W p l e ({ frames := 0, cells := 0, slots := 0, locals := 0 } : Room) s m ([.ref aR, .int a1] : List Value).toArray below meth c H locs 0 0 (MQ below (mk_QR (dC, dI) vwCl (tyz cI cZ cS) A (w_R cI cZ cS aR aRd aRm aRw aRs aRt aRc aRl aRh aRu aRx aRy aRk of op cr wn fp fs dk mm wk sg tb cs lw hg us de sa ky) R) ([.ref aR, .int a1] : List Value).toArray s 0 0 A) (F0 m 6 ls [])) (x1 : Int32) (x2 : Int32) (x3 : Int32) (h : p_R_check_6 dk k_6 x1 x2 x3 = some R) : ∀ (H : Heap) (locs : List Loc) (ls : Array Slot), va_P (dC, dI) vwCl (w_R cI cZ cS aR aRd aRm aRw aRs aRt aRc aRl aRh aRu aRx aRy aRk of op cr wn fp fs dk mm wk sg tb cs lw hg us de sa ky) H → va_D A (w_R cI cZ cS aR aRd aRm aRw aRs aRt aRc aRl aRh aRu aRx aRy aRk of op cr wn fp fs dk mm wk sg tb cs lw hg us de sa ky) → va_S A s.heap H locs → lv_has ls 4 [(0, .ref aR), (1, .int x1), (2, .int x2), (3, .int x3)] → W p l e ({ frames := 0, cells := 0, slots := 0, locals := 0 } : Room) s m ([.ref aR, .int a1] : List Value).toArray below meth c H locs 0 0 (MQ below (mk_QR (dC, dI) vwCl (tyz cI cZ cS) A (w_R cI cZ cS aR aRd aRm aRw aRs aRt aRc aRl aRh aRu aRx aRy aRk of op cr wn fp fs dk mm wk sg tb cs lw hg us de sa ky) R) ([.ref aR, .int a1] : List Value).toArray s 0 0 A) (F0 m 6 ls []) := by
  intro H locs ls hP hD hS hl
  obtain ⟨⟨hx, hb, hml, hown, hts⟩, hrt, hlk, hN⟩ := id E
  have hown : s.vm.findClass RX5 = some m.cls := hown
  unfold p_R_check_6 at h
  refine lv_iload_n hx hb dX5_check_6 rfl (lv_at hl 3 rfl) ?_
  refine lv_sipush (v := 272) hx hb dX5_check_7 (by decide) ?_
  refine lv_bipush (v := 16) hx hb dX5_check_10 (by decide) ?_
  refine lv_iload_n hx hb dX5_check_12 rfl (lv_at hl 1 rfl) ?_
  refine lv_imul hx hb dX5_check_13 ?_
  refine lv_iadd hx hb dX5_check_14 ?_
  refine lv_icmp_ge (tgt := 36) hx hb dX5_check_15 (by decide) (fun c_1 => ?_) (fun c_1 => ?_)
  · replace h := (kp_if h).1 c_1
    refine lv_iload_n hx hb dX5_check_36 rfl (lv_at hl 2 rfl) ?_
    cases h
    exact mk_iretR E hK hP hD hS dX5_check_37
  · replace h := (kp_if h).2 c_1
    refine lv_bipush (v := 31) hx hb dX5_check_18 (by decide) ?_
    refine lv_iload_n hx hb dX5_check_20 rfl (lv_at hl 2 rfl) ?_
    refine lv_imul hx hb dX5_check_21 ?_
    refine lv_aload_n hx hb dX5_check_22 rfl (lv_at hl 0 rfl) ?_
    refine va_get (D := (dC, dI)) (ci := 5) (v := .ref aRd) (C := RX5) (T := TX5) (N := 18) hx hb hts iw_R_check_Model hown hK hP 0 rfl rfl 0 (by decide) (hts _ mm_R_check_0) (fun _ h9 => h9) rfl dX5_check_23 ?_
    refine lv_iload_n hx hb dX5_check_26 rfl (lv_at hl 3 rfl) ?_
    obtain ⟨hc_2, h⟩ := kp_in h
    refine va_iald hx hb hK hP 1 0 rfl rfl (kx_of hc_2) dX5_check_27 ?_
    refine lv_iadd hx hb dX5_check_28 ?_
    refine lv_topi (fun v_3 ev_3 => ?_)
    replace h := kp_kl h v_3 ev_3
    refine lv_istore_n (lv' := [(2, .int v_3), (0, .ref aR), (1, .int x1), (3, .int x3)]) hx hb dX5_check_29 rfl hl (by decide) rfl (fun ls hl => ?_)
    refine lv_iinc (v := x3 + 1) (lv' := [(3, .int (x3 + 1)), (2, .int v_3), (0, .ref aR), (1, .int x1)]) hx hb dX5_check_30 hl (k := 3) rfl rfl (by decide) rfl (fun ls hl => ?_)
    refine lv_goto (tgt := 6) hx hb dX5_check_33 (by decide) ?_
    exact hk_6 x1 v_3 (x3 + 1) h H locs ls hP hD hS (lv_sub hl [2, 3, 1, 0] rfl)
set_option maxHeartbeats 4000000 in
set_option maxRecDepth 100000 in
theorem l_R_check_6 {p : Program} {l : Launch} {e : Env} {s : State} {m : MethodId} {below : List Frame} {meth : Method} {c : Code} {A : Nat → Prop} {dC : Nat → ClassId} {dI : Nat → Nat → Nat} {cI cZ cS : ClassId} {aR aRd aRm aRw aRs aRt aRc aRl aRh aRu aRx aRy aRk : Nat} {of : Int32} {op : Int32} {cr : Int32} {wn : Int32} {fp : Int32} {fs : Int32} {dk : Nat → Int32} {mm : Nat → Int32} {wk : Nat → Int32} {sg : Nat → Int32} {tb : Nat → Int32} {cs : Nat → Int32} {lw : Nat → Int32} {hg : Nat → Int32} {us : Nat → Int32} {de : Nat → Int32} {sa : Nat → Int32} {ky : Nat → Int32} {a1 : Int32} (E : mk_En p s m meth c cX5_check 4 (some .int) ([.ref aR, .int a1] : List Value).toArray wsX5_check yX5_check.cls) (hA : ∀ q : Nat, s.heap.size ≤ q → A q) (hK : va_K (dC, dI) vwCl (tyz cI cZ cS) s) (R : Int32) : ∀ (n : Nat) (x1 : Int32) (x2 : Int32) (x3 : Int32), pl_R_check_6 dk n x1 x2 x3 = some R → ∀ (H : Heap) (locs : List Loc) (ls : Array Slot), va_P (dC, dI) vwCl (w_R cI cZ cS aR aRd aRm aRw aRs aRt aRc aRl aRh aRu aRx aRy aRk of op cr wn fp fs dk mm wk sg tb cs lw hg us de sa ky) H → va_D A (w_R cI cZ cS aR aRd aRm aRw aRs aRt aRc aRl aRh aRu aRx aRy aRk of op cr wn fp fs dk mm wk sg tb cs lw hg us de sa ky) → va_S A s.heap H locs → lv_has ls 4 [(0, .ref aR), (1, .int x1), (2, .int x2), (3, .int x3)] → W p l e ({ frames := 0, cells := 0, slots := 0, locals := 0 } : Room) s m ([.ref aR, .int a1] : List Value).toArray below meth c H locs 0 0 (MQ below (mk_QR (dC, dI) vwCl (tyz cI cZ cS) A (w_R cI cZ cS aR aRd aRm aRw aRs aRt aRc aRl aRh aRu aRx aRy aRk of op cr wn fp fs dk mm wk sg tb cs lw hg us de sa ky) R) ([.ref aR, .int a1] : List Value).toArray s 0 0 A) (F0 m 6 ls []) := by
  intro n
  induction n with
  | zero =>
    intro x1 x2 x3 h
    cases h
  | succ n ih =>
    intro x1 x2 x3 h
    exact b_R_check_6 E hA hK R ih x1 x2 x3 h
set_option maxHeartbeats 4000000 in
set_option maxRecDepth 100000 in
theorem c_R_check (l : Launch) (dC : Nat → ClassId) (dI : Nat → Nat → Nat) (cI cZ cS : ClassId) (aR aRd aRm aRw aRs aRt aRc aRl aRh aRu aRx aRy aRk : Nat) (of : Int32) (op : Int32) (cr : Int32) (wn : Int32) (fp : Int32) (fs : Int32) (dk : Nat → Int32) (mm : Nat → Int32) (wk : Nat → Int32) (sg : Nat → Int32) (tb : Nat → Int32) (cs : Nat → Int32) (lw : Nat → Int32) (hg : Nat → Int32) (us : Nat → Int32) (de : Nat → Int32) (sa : Nat → Int32) (ky : Nat → Int32) (a1 : Int32) : CtR l yX5_check wsX5_check ({ frames := 0, cells := 0, slots := 0, locals := 0 }) (dC, dI) vwCl (tyz cI cZ cS) [.ref aR, .int a1] (w_R cI cZ cS aR aRd aRm aRw aRs aRt aRc aRl aRh aRu aRx aRy aRk of op cr wn fp fs dk mm wk sg tb cs lw hg us de sa ky) (p_R_check dk a1) := by
  intro R h
  refine mk_enter (Qc := (fun A => mk_QR (dC, dI) vwCl (tyz cI cZ cS) A (w_R cI cZ cS aR aRd aRm aRw aRs aRt aRc aRl aRh aRu aRx aRy aRk of op cr wn fp fs dk mm wk sg tb cs lw hg us de sa ky) R)) (by decide) rfl (Nat.le_of_ble_eq_true rfl) ?_
  intro p e s m below meth c A E hA hK H locs ls hP hD hS hl
  obtain ⟨⟨hx, hb, hml, hown, hts⟩, hrt, hlk, hN⟩ := id E
  have hown : s.vm.findClass RX5 = some m.cls := hown
  have hl : lv_has ls 4 [(0, .ref aR), (1, .int a1)] := hl
  unfold p_R_check at h
  refine lv_iconst (v := 1) hx hb dX5_check_0 (by decide) ?_
  refine lv_istore_n (lv' := [(2, .int 1), (0, .ref aR), (1, .int a1)]) hx hb dX5_check_1 rfl hl (by decide) rfl (fun ls hl => ?_)
  refine lv_sipush (v := 272) hx hb dX5_check_2 (by decide) ?_
  refine lv_istore_n (lv' := [(3, .int 272), (2, .int 1), (0, .ref aR), (1, .int a1)]) hx hb dX5_check_5 rfl hl (by decide) rfl (fun ls hl => ?_)
  exact l_R_check_6 E hA hK R 1000 a1 1 272 h H locs ls hP hD hS (lv_sub hl [2, 3, 1, 0] rfl)

/- Model.putHead(II)Z -/
set_option maxRecDepth 20000 in
theorem mm_R_putHead_0 : Cond.fieldLink RX5 16 "JournaledTablesModel" "work" "[I" ∈ wsX5_putHead := by decide +kernel
set_option maxRecDepth 20000 in
theorem iw_R_putHead_Model : ∀ w ∈ u_ws RX5 TX5 18, w ∈ wsX5_putHead := by decide +kernel
set_option maxHeartbeats 4000000 in
set_option maxRecDepth 100000 in
theorem b_R_putHead_59 {p : Program} {l : Launch} {e : Env} {s : State} {m : MethodId} {below : List Frame} {meth : Method} {c : Code} {A : Nat → Prop} {dC : Nat → ClassId} {dI : Nat → Nat → Nat} {cI cZ cS : ClassId} {aR aRd aRm aRw aRs aRt aRc aRl aRh aRu aRx aRy aRk : Nat} {op : Int32} {fp : Int32} {fs : Int32} {mm : Nat → Int32} {sg : Nat → Int32} {tb : Nat → Int32} {cs : Nat → Int32} {lw : Nat → Int32} {hg : Nat → Int32} {us : Nat → Int32} {de : Nat → Int32} {sa : Nat → Int32} {ky : Nat → Int32} {a1 : Int32} {a2 : Int32} (E : mk_En p s m meth c cX5_putHead 4 (some .boolean) ([.ref aR, .int a1, .int a2] : List Value).toArray wsX5_putHead yX5_putHead.cls) (hA : ∀ q : Nat, s.heap.size ≤ q → A q) (hK : va_K (dC, dI) vwCl (tyz cI cZ cS) s) (R : Int32 × Int32 × Int32 × Int32 × (Nat → Int32) × (Nat → Int32)) (of : Int32) (cr : Int32) (wn : Int32) (dk : Nat → Int32) (wk : Nat → Int32) (h : p_R_putHead_59 of cr wn dk wk = some R) : ∀ (H : Heap) (locs : List Loc) (ls : Array Slot), va_P (dC, dI) vwCl (w_R cI cZ cS aR aRd aRm aRw aRs aRt aRc aRl aRh aRu aRx aRy aRk of op cr wn fp fs dk mm wk sg tb cs lw hg us de sa ky) H → va_D A (w_R cI cZ cS aR aRd aRm aRw aRs aRt aRc aRl aRh aRu aRx aRy aRk of op cr wn fp fs dk mm wk sg tb cs lw hg us de sa ky) → va_S A s.heap H locs → lv_has ls 4 [(0, .ref aR)] → W p l e ({ frames := 1, cells := 0, slots := 0, locals := 23 } : Room) s m ([.ref aR, .int a1, .int a2] : List Value).toArray below meth c H locs 0 0 (MQ below (mk_QI (dC, dI) vwCl (tyz cI cZ cS) A (fun u : Int32 × Int32 × Int32 × (Nat → Int32) × (Nat → Int32) => w_R cI cZ cS aR aRd aRm aRw aRs aRt aRc aRl aRh aRu aRx aRy aRk u.1 op u.2.1 u.2.2.1 fp fs u.2.2.2.1 mm u.2.2.2.2 sg tb cs lw hg us de sa ky) R) ([.ref aR, .int a1, .int a2] : List Value).toArray s 0 0 A) (F0 m 59 ls []) := by
  intro H locs ls hP hD hS hl
  obtain ⟨⟨hx, hb, hml, hown, hts⟩, hrt, hlk, hN⟩ := id E
  have hown : s.vm.findClass RX5 = some m.cls := hown
  unfold p_R_putHead_59 at h
  refine lv_aload_n hx hb dX5_putHead_59 rfl (lv_at hl 0 rfl) ?_
  refine lv_bipush (v := 16) hx hb dX5_putHead_60 (by decide) ?_
  obtain ⟨r_1, hr_1, h⟩ := kp_bind h
  refine mk_contI (w := w_R cI cZ cS aR aRd aRm aRw aRs aRt aRc aRl aRh aRu aRx aRy aRk of op cr wn fp fs dk mm wk sg tb cs lw hg us de sa ky) (w0 := w_R cI cZ cS aR aRd aRm aRw aRs aRt aRc aRl aRh aRu aRx aRy aRk of op cr wn fp fs dk mm wk sg tb cs lw hg us de sa ky) (wr := []) (w2 := w_R cI cZ cS aR aRd aRm aRw aRs aRt aRc aRl aRh aRu aRx aRy aRk r_1.2.1 op r_1.2.2.1 r_1.2.2.2.1 fp fs r_1.2.2.2.2 mm wk sg tb cs lw hg us de sa ky) hP hD hS hA [0, 1, 2, 3, 4, 5, 6, 7, 8, 9, 10, 11, 12] [] rfl rfl (by decide) (by decide) [0, 1, 2, 3, 4, 5, 6, 7, 8, 9, 10, 11, 12] rfl (by decide) (va_runV (As := [.int 16]) (rest := []) ⟨hx, hb, hml, hown, hts⟩ (c_R_put l dC dI cI cZ cS aR aRd aRm aRw aRs aRt aRc aRl aRh aRu aRx aRy aRk of op cr wn fp fs dk mm wk sg tb cs lw hg us de sa ky 16 r_1 hr_1 H.size) (cwV 1 hts gX5_putHead_X5_put rfl rfl rfl (by decide +kernel) ⟨Nat.le_of_ble_eq_true rfl, Nat.le_of_ble_eq_true rfl⟩) (mk_preV (w0 := w_R cI cZ cS aR aRd aRm aRw aRs aRt aRc aRl aRh aRu aRx aRy aRk of op cr wn fp fs dk mm wk sg tb cs lw hg us de sa ky) (ci := 5) (q0 := 0) hN hK (mk_pick hP [0, 1, 2, 3, 4, 5, 6, 7, 8, 9, 10, 11, 12] rfl) (hD.sub [0, 1, 2, 3, 4, 5, 6, 7, 8, 9, 10, 11, 12] (by decide) rfl) rfl rfl rfl) rfl rfl hl.1 rfl (lv_room (Nat.le_of_ble_eq_true rfl)) dX5_putHead_62 ⟨Nat.zero_le _, Nat.zero_le _⟩) (fun H locs hP hD hS => ?_)
  obtain ⟨hc_2, h⟩ := kp_in h
  cases h
  exact mk_zret E hc_2 hK hP hD hS dX5_putHead_65
set_option maxHeartbeats 4000000 in
set_option maxRecDepth 100000 in
theorem b_R_putHead_2 {p : Program} {l : Launch} {e : Env} {s : State} {m : MethodId} {below : List Frame} {meth : Method} {c : Code} {A : Nat → Prop} {dC : Nat → ClassId} {dI : Nat → Nat → Nat} {cI cZ cS : ClassId} {aR aRd aRm aRw aRs aRt aRc aRl aRh aRu aRx aRy aRk : Nat} {op : Int32} {fp : Int32} {fs : Int32} {mm : Nat → Int32} {sg : Nat → Int32} {tb : Nat → Int32} {cs : Nat → Int32} {lw : Nat → Int32} {hg : Nat → Int32} {us : Nat → Int32} {de : Nat → Int32} {sa : Nat → Int32} {ky : Nat → Int32} {a1 : Int32} {a2 : Int32} (E : mk_En p s m meth c cX5_putHead 4 (some .boolean) ([.ref aR, .int a1, .int a2] : List Value).toArray wsX5_putHead yX5_putHead.cls) (hA : ∀ q : Nat, s.heap.size ≤ q → A q) (hK : va_K (dC, dI) vwCl (tyz cI cZ cS) s) (R : Int32 × Int32 × Int32 × Int32 × (Nat → Int32) × (Nat → Int32)) {k_2 : Int32 → Int32 → Int32 → Int32 → Int32 → Int32 → (Nat → Int32) → (Nat → Int32) → Option (Int32 × Int32 × Int32 × Int32 × (Nat → Int32) × (Nat → Int32))} (hk_2 : ∀ (x1 : Int32) (x2 : Int32) (x3 : Int32) (of : Int32) (cr : Int32) (wn : Int32) (dk : Nat → Int32) (wk : Nat → Int32), k_2 x1 x2 x3 of cr wn dk wk = some R → ∀ (H : Heap) (locs : List Loc) (ls : Array Slot), va_P (dC, dI) vwCl (w_R cI cZ cS aR aRd aRm aRw aRs aRt aRc aRl aRh aRu aRx aRy aRk of op cr wn fp fs dk mm wk sg tb cs lw hg us de sa ky) H → va_D A (w_R cI cZ cS aR aRd aRm aRw aRs aRt aRc aRl aRh aRu aRx aRy aRk of op cr wn fp fs dk mm wk sg tb cs lw hg us de sa ky) → va_S A s.heap H locs → lv_has ls 4 [(0, .ref aR), (1, .int x1), (2, .int x2), (3, .int x3)] → W p l e ({ frames := 1, cells := 0, slots := 0, locals := 23 } : Room) s m ([.ref aR, .int a1, .int a2] : List Value).toArray below meth c H locs 0 0 (MQ below (mk_QI (dC, dI) vwCl (tyz cI cZ cS) A (fun u : Int32 × Int32 × Int32 × (Nat → Int32) × (Nat → Int32) => w_R cI cZ cS aR aRd aRm aRw aRs aRt aRc aRl aRh aRu aRx aRy aRk u.1 op u.2.1 u.2.2.1 fp fs u.2.2.2.1 mm u.2.2.2.2 sg tb cs lw hg us de sa ky) R) ([.ref aR, .int a1, .int a2] : List Value).toArray s 0 0 A) (F0 m 2 ls [])) (x1 : Int32) (x2 : Int32) (x3 : Int32) (of : Int32) (cr : Int32) (wn : Int32) (dk : Nat → Int32) (wk : Nat → Int32) (h : p_R_putHead_2 k_2 x1 x2 x3 of cr wn dk wk = some R) : ∀ (H : Heap) (locs : List Loc) (ls : Array Slot), va_P (dC, dI) vwCl (w_R cI cZ cS aR aRd aRm aRw aRs aRt aRc aRl aRh aRu aRx aRy aRk of op cr wn fp fs dk mm wk sg tb cs lw hg us de sa ky) H → va_D A (w_R cI cZ cS aR aRd aRm aRw aRs aRt aRc aRl aRh aRu aRx aRy aRk of op cr wn fp fs dk mm wk sg tb cs lw hg us de sa ky) → va_S A s.heap H locs → lv_has ls 4 [(0, .ref aR), (1, .int x1), (2, .int x2), (3, .int x3)] → W p l e ({ frames := 1, cells := 0, slots := 0, locals := 23 } : Room) s m ([.ref aR, .int a1, .int a2] : List Value).toArray below meth c H locs 0 0 (MQ below (mk_QI (dC, dI) vwCl (tyz cI cZ cS) A (fun u : Int32 × Int32 × Int32 × (Nat → Int32) × (Nat → Int32) => w_R cI cZ cS aR aRd aRm aRw aRs aRt aRc aRl aRh aRu aRx aRy aRk u.1 op u.2.1 u.2.2.1 fp fs u.2.2.2.1 mm u.2.2.2.2 sg tb cs lw hg us de sa ky) R) ([.ref aR, .int a1, .int a2] : List Value).toArray s 0 0 A) (F0 m 2 ls []) := by
  intro H locs ls hP hD hS hl
  obtain ⟨⟨hx, hb, hml, hown, hts⟩, hrt, hlk, hN⟩ := id E
  have hown : s.vm.findClass RX5 = some m.cls := hown
  unfold p_R_putHead_2 at h
  refine lv_iload_n hx hb dX5_putHead_2 rfl (lv_at hl 3 rfl) ?_
  refine lv_bipush (v := 16) hx hb dX5_putHead_3 (by decide) ?_
  refine lv_icmp_ge (tgt := 21) hx hb dX5_putHead_5 (by decide) (fun c_3 => ?_) (fun c_3 => ?_)
  · replace h := (kp_if h).1 c_3
    refine lv_iload_n hx hb dX5_putHead_21 rfl (lv_at hl 1 rfl) ?_
    refine lv_if_le (tgt := 59) hx hb dX5_putHead_22 (by decide) (fun c_4 => ?_) (fun c_4 => ?_)
    · replace h := (kp_if h).1 c_4
      exact b_R_putHead_59 E hA hK R of cr wn dk wk h H locs ls hP hD hS (lv_sub hl [0] rfl)
    · replace h := (kp_if h).2 c_4
      refine lv_aload_n hx hb dX5_putHead_25 rfl (lv_at hl 0 rfl) ?_
      refine va_get (D := (dC, dI)) (ci := 5) (v := .ref aRw) (C := RX5) (T := TX5) (N := 18) hx hb hts iw_R_putHead_Model hown hK hP 0 rfl rfl 2 (by decide) (hts _ mm_R_putHead_0) (fun _ h9 => h9) rfl dX5_putHead_26 ?_
      refine lv_iconst (v := 0) hx hb dX5_putHead_29 (by decide) ?_
      refine lv_sipush (v := 6517) hx hb dX5_putHead_30 (by decide) ?_
      obtain ⟨hc_5, h⟩ := kp_in h
      refine va_iast hx hb hK hP hD hS 3 0 rfl rfl (kx_of hc_5) dX5_putHead_33 (fun H locs hP hD hS => ?_)
      have hP : va_P (dC, dI) vwCl (w_R cI cZ cS aR aRd aRm aRw aRs aRt aRc aRl aRh aRu aRx aRy aRk of op cr wn fp fs dk mm (upd wk (0 : Int32).toNatClampNeg 6517) sg tb cs lw hg us de sa ky) H := hP
      have hD : va_D A (w_R cI cZ cS aR aRd aRm aRw aRs aRt aRc aRl aRh aRu aRx aRy aRk of op cr wn fp fs dk mm (upd wk (0 : Int32).toNatClampNeg 6517) sg tb cs lw hg us de sa ky) := hD
      refine lv_aload_n hx hb dX5_putHead_34 rfl (lv_at hl 0 rfl) ?_
      refine va_get (D := (dC, dI)) (ci := 5) (v := .ref aRw) (C := RX5) (T := TX5) (N := 18) hx hb hts iw_R_putHead_Model hown hK hP 0 rfl rfl 2 (by decide) (hts _ mm_R_putHead_0) (fun _ h9 => h9) rfl dX5_putHead_35 ?_
      refine lv_iconst (v := 1) hx hb dX5_putHead_38 (by decide) ?_
      refine lv_iload_n hx hb dX5_putHead_39 rfl (lv_at hl 1 rfl) ?_
      obtain ⟨hc_6, h⟩ := kp_in h
      refine va_iast hx hb hK hP hD hS 3 0 rfl rfl (kx_of hc_6) dX5_putHead_40 (fun H locs hP hD hS => ?_)
      have hP : va_P (dC, dI) vwCl (w_R cI cZ cS aR aRd aRm aRw aRs aRt aRc aRl aRh aRu aRx aRy aRk of op cr wn fp fs dk mm (upd (upd wk (0 : Int32).toNatClampNeg 6517) (1 : Int32).toNatClampNeg x1) sg tb cs lw hg us de sa ky) H := hP
      have hD : va_D A (w_R cI cZ cS aR aRd aRm aRw aRs aRt aRc aRl aRh aRu aRx aRy aRk of op cr wn fp fs dk mm (upd (upd wk (0 : Int32).toNatClampNeg 6517) (1 : Int32).toNatClampNeg x1) sg tb cs lw hg us de sa ky) := hD
      refine lv_aload_n hx hb dX5_putHead_41 rfl (lv_at hl 0 rfl) ?_
      refine va_get (D := (dC, dI)) (ci := 5) (v := .ref aRw) (C := RX5) (T := TX5) (N := 18) hx hb hts iw_R_putHead_Model hown hK hP 0 rfl rfl 2 (by decide) (hts _ mm_R_putHead_0) (fun _ h9 => h9) rfl dX5_putHead_42 ?_
      refine lv_iconst (v := 2) hx hb dX5_putHead_45 (by decide) ?_
      refine lv_iload_n hx hb dX5_putHead_46 rfl (lv_at hl 2 rfl) ?_
      obtain ⟨hc_7, h⟩ := kp_in h
      refine va_iast hx hb hK hP hD hS 3 0 rfl rfl (kx_of hc_7) dX5_putHead_47 (fun H locs hP hD hS => ?_)
      have hP : va_P (dC, dI) vwCl (w_R cI cZ cS aR aRd aRm aRw aRs aRt aRc aRl aRh aRu aRx aRy aRk of op cr wn fp fs dk mm (upd (upd (upd wk (0 : Int32).toNatClampNeg 6517) (1 : Int32).toNatClampNeg x1) (2 : Int32).toNatClampNeg x2) sg tb cs lw hg us de sa ky) H := hP
      have hD : va_D A (w_R cI cZ cS aR aRd aRm aRw aRs aRt aRc aRl aRh aRu aRx aRy aRk of op cr wn fp fs dk mm (upd (upd (upd wk (0 : Int32).toNatClampNeg 6517) (1 : Int32).toNatClampNeg x1) (2 : Int32).toNatClampNeg x2) sg tb cs lw hg us de sa ky) := hD
      refine lv_aload_n hx hb dX5_putHead_48 rfl (lv_at hl 0 rfl) ?_
      refine va_get (D := (dC, dI)) (ci := 5) (v := .ref aRw) (C := RX5) (T := TX5) (N := 18) hx hb hts iw_R_putHead_Model hown hK hP 0 rfl rfl 2 (by decide) (hts _ mm_R_putHead_0) (fun _ h9 => h9) rfl dX5_putHead_49 ?_
      refine lv_iconst (v := 3) hx hb dX5_putHead_52 (by decide) ?_
      refine lv_aload_n hx hb dX5_putHead_53 rfl (lv_at hl 0 rfl) ?_
      refine lv_iload_n hx hb dX5_putHead_54 rfl (lv_at hl 1 rfl) ?_
      obtain ⟨r_8, hr_8, h⟩ := kp_bind h
      refine mk_contR (w := w_R cI cZ cS aR aRd aRm aRw aRs aRt aRc aRl aRh aRu aRx aRy aRk of op cr wn fp fs dk mm (upd (upd (upd wk (0 : Int32).toNatClampNeg 6517) (1 : Int32).toNatClampNeg x1) (2 : Int32).toNatClampNeg x2) sg tb cs lw hg us de sa ky) (w0 := w_R cI cZ cS aR aRd aRm aRw aRs aRt aRc aRl aRh aRu aRx aRy aRk of op cr wn fp fs dk mm (upd (upd (upd wk (0 : Int32).toNatClampNeg 6517) (1 : Int32).toNatClampNeg x1) (2 : Int32).toNatClampNeg x2) sg tb cs lw hg us de sa ky) (wr := []) hP hD hS hA [0, 1, 2, 3, 4, 5, 6, 7, 8, 9, 10, 11, 12] [] rfl rfl (by decide) (by decide) [0, 1, 2, 3, 4, 5, 6, 7, 8, 9, 10, 11, 12] rfl (by decide) (va_runV (As := [.int x1]) (rest := [.int 3, .ref aRw]) ⟨hx, hb, hml, hown, hts⟩ (c_R_check l dC dI cI cZ cS aR aRd aRm aRw aRs aRt aRc aRl aRh aRu aRx aRy aRk of op cr wn fp fs dk mm (upd (upd (upd wk (0 : Int32).toNatClampNeg 6517) (1 : Int32).toNatClampNeg x1) (2 : Int32).toNatClampNeg x2) sg tb cs lw hg us de sa ky x1 r_8 hr_8 H.size) (cwV 1 hts gX5_putHead_X5_check rfl rfl rfl (by decide +kernel) ⟨Nat.le_of_ble_eq_true rfl, Nat.le_of_ble_eq_true rfl⟩) (mk_preV (w0 := w_R cI cZ cS aR aRd aRm aRw aRs aRt aRc aRl aRh aRu aRx aRy aRk of op cr wn fp fs dk mm (upd (upd (upd wk (0 : Int32).toNatClampNeg 6517) (1 : Int32).toNatClampNeg x1) (2 : Int32).toNatClampNeg x2) sg tb cs lw hg us de sa ky) (ci := 5) (q0 := 0) hN hK (mk_pick hP [0, 1, 2, 3, 4, 5, 6, 7, 8, 9, 10, 11, 12] rfl) (hD.sub [0, 1, 2, 3, 4, 5, 6, 7, 8, 9, 10, 11, 12] (by decide) rfl) rfl rfl rfl) rfl rfl hl.1 rfl (lv_room (Nat.le_of_ble_eq_true rfl)) dX5_putHead_55 ⟨Nat.zero_le _, Nat.zero_le _⟩) (fun H locs hP hD hS => ?_)
      obtain ⟨hc_9, h⟩ := kp_in h
      refine va_iast hx hb hK hP hD hS 3 0 rfl rfl (kx_of hc_9) dX5_putHead_58 (fun H locs hP hD hS => ?_)
      have hP : va_P (dC, dI) vwCl (w_R cI cZ cS aR aRd aRm aRw aRs aRt aRc aRl aRh aRu aRx aRy aRk of op cr wn fp fs dk mm (upd (upd (upd (upd wk (0 : Int32).toNatClampNeg 6517) (1 : Int32).toNatClampNeg x1) (2 : Int32).toNatClampNeg x2) (3 : Int32).toNatClampNeg r_8) sg tb cs lw hg us de sa ky) H := hP
      have hD : va_D A (w_R cI cZ cS aR aRd aRm aRw aRs aRt aRc aRl aRh aRu aRx aRy aRk of op cr wn fp fs dk mm (upd (upd (upd (upd wk (0 : Int32).toNatClampNeg 6517) (1 : Int32).toNatClampNeg x1) (2 : Int32).toNatClampNeg x2) (3 : Int32).toNatClampNeg r_8) sg tb cs lw hg us de sa ky) := hD
      exact b_R_putHead_59 E hA hK R of cr wn dk (upd (upd (upd (upd wk (0 : Int32).toNatClampNeg 6517) (1 : Int32).toNatClampNeg x1) (2 : Int32).toNatClampNeg x2) (3 : Int32).toNatClampNeg r_8) h H locs ls hP hD hS (lv_sub hl [0] rfl)
  · replace h := (kp_if h).2 c_3
    refine lv_aload_n hx hb dX5_putHead_8 rfl (lv_at hl 0 rfl) ?_
    refine va_get (D := (dC, dI)) (ci := 5) (v := .ref aRw) (C := RX5) (T := TX5) (N := 18) hx hb hts iw_R_putHead_Model hown hK hP 0 rfl rfl 2 (by decide) (hts _ mm_R_putHead_0) (fun _ h9 => h9) rfl dX5_putHead_9 ?_
    refine lv_iload_n hx hb dX5_putHead_12 rfl (lv_at hl 3 rfl) ?_
    refine lv_iconst (v := 0) hx hb dX5_putHead_13 (by decide) ?_
    obtain ⟨hc_10, h⟩ := kp_in h
    refine va_iast hx hb hK hP hD hS 3 0 rfl rfl (kx_of hc_10) dX5_putHead_14 (fun H locs hP hD hS => ?_)
    have hP : va_P (dC, dI) vwCl (w_R cI cZ cS aR aRd aRm aRw aRs aRt aRc aRl aRh aRu aRx aRy aRk of op cr wn fp fs dk mm (upd wk x3.toNatClampNeg 0) sg tb cs lw hg us de sa ky) H := hP
    have hD : va_D A (w_R cI cZ cS aR aRd aRm aRw aRs aRt aRc aRl aRh aRu aRx aRy aRk of op cr wn fp fs dk mm (upd wk x3.toNatClampNeg 0) sg tb cs lw hg us de sa ky) := hD
    refine lv_iinc (v := x3 + 1) (lv' := [(3, .int (x3 + 1)), (0, .ref aR), (1, .int x1), (2, .int x2)]) hx hb dX5_putHead_15 hl (k := 3) rfl rfl (by decide) rfl (fun ls hl => ?_)
    refine lv_goto (tgt := 2) hx hb dX5_putHead_18 (by decide) ?_
    exact hk_2 x1 x2 (x3 + 1) of cr wn dk (upd wk x3.toNatClampNeg 0) h H locs ls hP hD hS (lv_sub hl [1, 2, 3, 0] rfl)
set_option maxHeartbeats 4000000 in
set_option maxRecDepth 100000 in
theorem l_R_putHead_2 {p : Program} {l : Launch} {e : Env} {s : State} {m : MethodId} {below : List Frame} {meth : Method} {c : Code} {A : Nat → Prop} {dC : Nat → ClassId} {dI : Nat → Nat → Nat} {cI cZ cS : ClassId} {aR aRd aRm aRw aRs aRt aRc aRl aRh aRu aRx aRy aRk : Nat} {op : Int32} {fp : Int32} {fs : Int32} {mm : Nat → Int32} {sg : Nat → Int32} {tb : Nat → Int32} {cs : Nat → Int32} {lw : Nat → Int32} {hg : Nat → Int32} {us : Nat → Int32} {de : Nat → Int32} {sa : Nat → Int32} {ky : Nat → Int32} {a1 : Int32} {a2 : Int32} (E : mk_En p s m meth c cX5_putHead 4 (some .boolean) ([.ref aR, .int a1, .int a2] : List Value).toArray wsX5_putHead yX5_putHead.cls) (hA : ∀ q : Nat, s.heap.size ≤ q → A q) (hK : va_K (dC, dI) vwCl (tyz cI cZ cS) s) (R : Int32 × Int32 × Int32 × Int32 × (Nat → Int32) × (Nat → Int32)) : ∀ (n : Nat) (x1 : Int32) (x2 : Int32) (x3 : Int32) (of : Int32) (cr : Int32) (wn : Int32) (dk : Nat → Int32) (wk : Nat → Int32), pl_R_putHead_2 n x1 x2 x3 of cr wn dk wk = some R → ∀ (H : Heap) (locs : List Loc) (ls : Array Slot), va_P (dC, dI) vwCl (w_R cI cZ cS aR aRd aRm aRw aRs aRt aRc aRl aRh aRu aRx aRy aRk of op cr wn fp fs dk mm wk sg tb cs lw hg us de sa ky) H → va_D A (w_R cI cZ cS aR aRd aRm aRw aRs aRt aRc aRl aRh aRu aRx aRy aRk of op cr wn fp fs dk mm wk sg tb cs lw hg us de sa ky) → va_S A s.heap H locs → lv_has ls 4 [(0, .ref aR), (1, .int x1), (2, .int x2), (3, .int x3)] → W p l e ({ frames := 1, cells := 0, slots := 0, locals := 23 } : Room) s m ([.ref aR, .int a1, .int a2] : List Value).toArray below meth c H locs 0 0 (MQ below (mk_QI (dC, dI) vwCl (tyz cI cZ cS) A (fun u : Int32 × Int32 × Int32 × (Nat → Int32) × (Nat → Int32) => w_R cI cZ cS aR aRd aRm aRw aRs aRt aRc aRl aRh aRu aRx aRy aRk u.1 op u.2.1 u.2.2.1 fp fs u.2.2.2.1 mm u.2.2.2.2 sg tb cs lw hg us de sa ky) R) ([.ref aR, .int a1, .int a2] : List Value).toArray s 0 0 A) (F0 m 2 ls []) := by
  intro n
  induction n with
  | zero =>
    intro x1 x2 x3 of cr wn dk wk h
    cases h
  | succ n ih =>
    intro x1 x2 x3 of cr wn dk wk h
    exact b_R_putHead_2 E hA hK R ih x1 x2 x3 of cr wn dk wk h
set_option maxHeartbeats 4000000 in
set_option maxRecDepth 100000 in
theorem c_R_putHead (l : Launch) (dC : Nat → ClassId) (dI : Nat → Nat → Nat) (cI cZ cS : ClassId) (aR aRd aRm aRw aRs aRt aRc aRl aRh aRu aRx aRy aRk : Nat) (of : Int32) (op : Int32) (cr : Int32) (wn : Int32) (fp : Int32) (fs : Int32) (dk : Nat → Int32) (mm : Nat → Int32) (wk : Nat → Int32) (sg : Nat → Int32) (tb : Nat → Int32) (cs : Nat → Int32) (lw : Nat → Int32) (hg : Nat → Int32) (us : Nat → Int32) (de : Nat → Int32) (sa : Nat → Int32) (ky : Nat → Int32) (a1 : Int32) (a2 : Int32) : CtI l yX5_putHead wsX5_putHead ({ frames := 1, cells := 0, slots := 0, locals := 23 }) (dC, dI) vwCl (tyz cI cZ cS) [.ref aR, .int a1, .int a2] (w_R cI cZ cS aR aRd aRm aRw aRs aRt aRc aRl aRh aRu aRx aRy aRk of op cr wn fp fs dk mm wk sg tb cs lw hg us de sa ky) (fun u : Int32 × Int32 × Int32 × (Nat → Int32) × (Nat → Int32) => w_R cI cZ cS aR aRd aRm aRw aRs aRt aRc aRl aRh aRu aRx aRy aRk u.1 op u.2.1 u.2.2.1 fp fs u.2.2.2.1 mm u.2.2.2.2 sg tb cs lw hg us de sa ky) (p_R_putHead of cr wn dk wk a1 a2) := by
  intro R h
  refine mk_enter (Qc := (fun A => mk_QI (dC, dI) vwCl (tyz cI cZ cS) A (fun u : Int32 × Int32 × Int32 × (Nat → Int32) × (Nat → Int32) => w_R cI cZ cS aR aRd aRm aRw aRs aRt aRc aRl aRh aRu aRx aRy aRk u.1 op u.2.1 u.2.2.1 fp fs u.2.2.2.1 mm u.2.2.2.2 sg tb cs lw hg us de sa ky) R)) (by decide) rfl (Nat.le_of_ble_eq_true rfl) ?_
  intro p e s m below meth c A E hA hK H locs ls hP hD hS hl
  obtain ⟨⟨hx, hb, hml, hown, hts⟩, hrt, hlk, hN⟩ := id E
  have hown : s.vm.findClass RX5 = some m.cls := hown
  have hl : lv_has ls 4 [(0, .ref aR), (1, .int a1), (2, .int a2)] := hl
  unfold p_R_putHead at h
  refine lv_iconst (v := 0) hx hb dX5_putHead_0 (by decide) ?_
  refine lv_istore_n (lv' := [(3, .int 0), (0, .ref aR), (1, .int a1), (2, .int a2)]) hx hb dX5_putHead_1 rfl hl (by decide) rfl (fun ls hl => ?_)
  exact l_R_putHead_2 E hA hK R 1000 a1 a2 0 of cr wn dk wk h H locs ls hP hD hS (lv_sub hl [1, 2, 3, 0] rfl)

/- Model.changed()I -/
set_option maxRecDepth 20000 in
theorem mm_R_changed_0 : Cond.fieldLink RX5 7 "JournaledTablesModel" "disk" "[I" ∈ wsX5_changed := by decide +kernel
set_option maxRecDepth 20000 in
theorem iw_R_changed_Model : ∀ w ∈ u_ws RX5 TX5 18, w ∈ wsX5_changed := by decide +kernel
set_option maxRecDepth 20000 in
theorem mm_R_changed_2 : Cond.fieldLink RX5 13 "JournaledTablesModel" "memory" "[I" ∈ wsX5_changed := by decide +kernel
set_option maxHeartbeats 4000000 in
set_option maxRecDepth 100000 in
theorem b_R_changed_38 {p : Program} {l : Launch} {e : Env} {s : State} {m : MethodId} {below : List Frame} {meth : Method} {c : Code} {A : Nat → Prop} {dC : Nat → ClassId} {dI : Nat → Nat → Nat} {cI cZ cS : ClassId} {aR aRd aRm aRw aRs aRt aRc aRl aRh aRu aRx aRy aRk : Nat} {of : Int32} {op : Int32} {cr : Int32} {wn : Int32} {fp : Int32} {fs : Int32} {dk : Nat → Int32} {mm : Nat → Int32} {wk : Nat → Int32} {sg : Nat → Int32} {tb : Nat → Int32} {cs : Nat → Int32} {lw : Nat → Int32} {hg : Nat → Int32} {us : Nat → Int32} {de : Nat → Int32} {sa : Nat → Int32} {ky : Nat → Int32} (E : mk_En p s m meth c cX5_changed 3 (some .int) ([.ref aR] : List Value).toArray wsX5_changed yX5_changed.cls) (hA : ∀ q : Nat, s.heap.size ≤ q → A q) (hK : va_K (dC, dI) vwCl (tyz cI cZ cS) s) (R : Int32) {k_4 : Int32 → Int32 → Option Int32} (hk_4 : ∀ (x1 : Int32) (x2 : Int32), k_4 x1 x2 = some R → ∀ (H : Heap) (locs : List Loc) (ls : Array Slot), va_P (dC, dI) vwCl (w_R cI cZ cS aR aRd aRm aRw aRs aRt aRc aRl aRh aRu aRx aRy aRk of op cr wn fp fs dk mm wk sg tb cs lw hg us de sa ky) H → va_D A (w_R cI cZ cS aR aRd aRm aRw aRs aRt aRc aRl aRh aRu aRx aRy aRk of op cr wn fp fs dk mm wk sg tb cs lw hg us de sa ky) → va_S A s.heap H locs → lv_has ls 3 [(0, .ref aR), (1, .int x1), (2, .int x2)] → W p l e ({ frames := 0, cells := 0, slots := 0, locals := 0 } : Room) s m ([.ref aR] : List Value).toArray below meth c H locs 0 0 (MQ below (mk_QR (dC, dI) vwCl (tyz cI cZ cS) A (w_R cI cZ cS aR aRd aRm aRw aRs aRt aRc aRl aRh aRu aRx aRy aRk of op cr wn fp fs dk mm wk sg tb cs lw hg us de sa ky) R) ([.ref aR] : List Value).toArray s 0 0 A) (F0 m 4 ls [])) (x2 : Int32) (z0 : Int32) (h : p_R_changed_38 dk mm k_4 x2 z0 = some R) : ∀ (H : Heap) (locs : List Loc) (ls : Array Slot), va_P (dC, dI) vwCl (w_R cI cZ cS aR aRd aRm aRw aRs aRt aRc aRl aRh aRu aRx aRy aRk of op cr wn fp fs dk mm wk sg tb cs lw hg us de sa ky) H → va_D A (w_R cI cZ cS aR aRd aRm aRw aRs aRt aRc aRl aRh aRu aRx aRy aRk of op cr wn fp fs dk mm wk sg tb cs lw hg us de sa ky) → va_S A s.heap H locs → lv_has ls 3 [(0, .ref aR), (2, .int x2)] → W p l e ({ frames := 0, cells := 0, slots := 0, locals := 0 } : Room) s m ([.ref aR] : List Value).toArray below meth c H locs 0 0 (MQ below (mk_QR (dC, dI) vwCl (tyz cI cZ cS) A (w_R cI cZ cS aR aRd aRm aRw aRs aRt aRc aRl aRh aRu aRx aRy aRk of op cr wn fp fs dk mm wk sg tb cs lw hg us de sa ky) R) ([.ref aR] : List Value).toArray s 0 0 A) (F0 m 38 ls [.int z0]) := by
  intro H locs ls hP hD hS hl
  obtain ⟨⟨hx, hb, hml, hown, hts⟩, hrt, hlk, hN⟩ := id E
  have hown : s.vm.findClass RX5 = some m.cls := hown
  unfold p_R_changed_38 at h
  refine lv_istore_n (lv' := [(1, .int z0), (0, .ref aR), (2, .int x2)]) hx hb dX5_changed_38 rfl hl (by decide) rfl (fun ls hl => ?_)
  refine lv_iinc (v := x2 + 1) (lv' := [(2, .int (x2 + 1)), (1, .int z0), (0, .ref aR)]) hx hb dX5_changed_39 hl (k := 2) rfl rfl (by decide) rfl (fun ls hl => ?_)
  refine lv_goto (tgt := 4) hx hb dX5_changed_42 (by decide) ?_
  exact hk_4 z0 (x2 + 1) h H locs ls hP hD hS (lv_sub hl [2, 1, 0] rfl)
set_option maxHeartbeats 4000000 in
set_option maxRecDepth 100000 in
theorem b_R_changed_4 {p : Program} {l : Launch} {e : Env} {s : State} {m : MethodId} {below : List Frame} {meth : Method} {c : Code} {A : Nat → Prop} {dC : Nat → ClassId} {dI : Nat → Nat → Nat} {cI cZ cS : ClassId} {aR aRd aRm aRw aRs aRt aRc aRl aRh aRu aRx aRy aRk : Nat} {of : Int32} {op : Int32} {cr : Int32} {wn : Int32} {fp : Int32} {fs : Int32} {dk : Nat → Int32} {mm : Nat → Int32} {wk : Nat → Int32} {sg : Nat → Int32} {tb : Nat → Int32} {cs : Nat → Int32} {lw : Nat → Int32} {hg : Nat → Int32} {us : Nat → Int32} {de : Nat → Int32} {sa : Nat → Int32} {ky : Nat → Int32} (E : mk_En p s m meth c cX5_changed 3 (some .int) ([.ref aR] : List Value).toArray wsX5_changed yX5_changed.cls) (hA : ∀ q : Nat, s.heap.size ≤ q → A q) (hK : va_K (dC, dI) vwCl (tyz cI cZ cS) s) (R : Int32) {k_4 : Int32 → Int32 → Option Int32} (hk_4 : ∀ (x1 : Int32) (x2 : Int32), k_4 x1 x2 = some R → ∀ (H : Heap) (locs : List Loc) (ls : Array Slot), va_P (dC, dI) vwCl (w_R cI cZ cS aR aRd aRm aRw aRs aRt aRc aRl aRh aRu aRx aRy aRk of op cr wn fp fs dk mm wk sg tb cs lw hg us de sa ky) H → va_D A (w_R cI cZ cS aR aRd aRm aRw aRs aRt aRc aRl aRh aRu aRx aRy aRk of op cr wn fp fs dk mm wk sg tb cs lw hg us de sa ky) → va_S A s.heap H locs → lv_has ls 3 [(0, .ref aR), (1, .int x1), (2, .int x2)] → W p l e ({ frames := 0, cells := 0, slots := 0, locals := 0 } : Room) s m ([.ref aR] : List Value).toArray below meth c H locs 0 0 (MQ below (mk_QR (dC, dI) vwCl (tyz cI cZ cS) A (w_R cI cZ cS aR aRd aRm aRw aRs aRt aRc aRl aRh aRu aRx aRy aRk of op cr wn fp fs dk mm wk sg tb cs lw hg us de sa ky) R) ([.ref aR] : List Value).toArray s 0 0 A) (F0 m 4 ls [])) (x1 : Int32) (x2 : Int32) (h : p_R_changed_4 dk mm k_4 x1 x2 = some R) : ∀ (H : Heap) (locs : List Loc) (ls : Array Slot), va_P (dC, dI) vwCl (w_R cI cZ cS aR aRd aRm aRw aRs aRt aRc aRl aRh aRu aRx aRy aRk of op cr wn fp fs dk mm wk sg tb cs lw hg us de sa ky) H → va_D A (w_R cI cZ cS aR aRd aRm aRw aRs aRt aRc aRl aRh aRu aRx aRy aRk of op cr wn fp fs dk mm wk sg tb cs lw hg us de sa ky) → va_S A s.heap H locs → lv_has ls 3 [(0, .ref aR), (1, .int x1), (2, .int x2)] → W p l e ({ frames := 0, cells := 0, slots := 0, locals := 0 } : Room) s m ([.ref aR] : List Value).toArray below meth c H locs 0 0 (MQ below (mk_QR (dC, dI) vwCl (tyz cI cZ cS) A (w_R cI cZ cS aR aRd aRm aRw aRs aRt aRc aRl aRh aRu aRx aRy aRk of op cr wn fp fs dk mm wk sg tb cs lw hg us de sa ky) R) ([.ref aR] : List Value).toArray s 0 0 A) (F0 m 4 ls []) := by
  intro H locs ls hP hD hS hl
  obtain ⟨⟨hx, hb, hml, hown, hts⟩, hrt, hlk, hN⟩ := id E
  have hown : s.vm.findClass RX5 = some m.cls := hown
  unfold p_R_changed_4 at h
  refine lv_iload_n hx hb dX5_changed_4 rfl (lv_at hl 2 rfl) ?_
  refine lv_sipush (v := 256) hx hb dX5_changed_5 (by decide) ?_
  refine lv_icmp_ge (tgt := 45) hx hb dX5_changed_8 (by decide) (fun c_1 => ?_) (fun c_1 => ?_)
  · replace h := (kp_if h).1 c_1
    refine lv_iload_n hx hb dX5_changed_45 rfl (lv_at hl 1 rfl) ?_
    cases h
    exact mk_iretR E hK hP hD hS dX5_changed_46
  · replace h := (kp_if h).2 c_1
    refine lv_aload_n hx hb dX5_changed_11 rfl (lv_at hl 0 rfl) ?_
    refine va_get (D := (dC, dI)) (ci := 5) (v := .ref aRd) (C := RX5) (T := TX5) (N := 18) hx hb hts iw_R_changed_Model hown hK hP 0 rfl rfl 0 (by decide) (hts _ mm_R_changed_0) (fun _ h9 => h9) rfl dX5_changed_12 ?_
    refine lv_iload_n hx hb dX5_changed_15 rfl (lv_at hl 2 rfl) ?_
    obtain ⟨hc_2, h⟩ := kp_in h
    refine va_iald hx hb hK hP 1 0 rfl rfl (kx_of hc_2) dX5_changed_16 ?_
    refine lv_aload_n hx hb dX5_changed_17 rfl (lv_at hl 0 rfl) ?_
    refine va_get (D := (dC, dI)) (ci := 5) (v := .ref aRm) (C := RX5) (T := TX5) (N := 18) hx hb hts iw_R_changed_Model hown hK hP 0 rfl rfl 1 (by decide) (hts _ mm_R_changed_2) (fun _ h9 => h9) rfl dX5_changed_18 ?_
    refine lv_iload_n hx hb dX5_changed_21 rfl (lv_at hl 2 rfl) ?_
    obtain ⟨hc_3, h⟩ := kp_in h
    refine va_iald hx hb hK hP 2 0 rfl rfl (kx_of hc_3) dX5_changed_22 ?_
    refine lv_icmp_eq (tgt := 37) hx hb dX5_changed_23 (by decide) (fun c_4 => ?_) (fun c_4 => ?_)
    · replace h := (kp_if h).1 c_4
      refine lv_iload_n hx hb dX5_changed_37 rfl (lv_at hl 1 rfl) ?_
      exact b_R_changed_38 E hA hK R hk_4 x2 x1 h H locs ls hP hD hS (lv_sub hl [0, 2] rfl)
    · replace h := (kp_if h).2 c_4
      refine lv_iload_n hx hb dX5_changed_26 rfl (lv_at hl 1 rfl) ?_
      refine lv_iconst (v := 1) hx hb dX5_changed_27 (by decide) ?_
      refine lv_iload_n hx hb dX5_changed_28 rfl (lv_at hl 2 rfl) ?_
      refine lv_bipush (v := 16) hx hb dX5_changed_29 (by decide) ?_
      refine lv_idiv hx hb dX5_changed_31 (by decide) ?_
      refine lv_ishl hx hb dX5_changed_32 ?_
      refine lv_ior hx hb dX5_changed_33 ?_
      refine lv_goto (tgt := 38) hx hb dX5_changed_34 (by decide) ?_
      exact b_R_changed_38 E hA hK R hk_4 x2 (x1 ||| ((1 : Int32) <<< ((x2 / 16) &&& 31))) h H locs ls hP hD hS (lv_sub hl [0, 2] rfl)
set_option maxHeartbeats 4000000 in
set_option maxRecDepth 100000 in
theorem l_R_changed_4 {p : Program} {l : Launch} {e : Env} {s : State} {m : MethodId} {below : List Frame} {meth : Method} {c : Code} {A : Nat → Prop} {dC : Nat → ClassId} {dI : Nat → Nat → Nat} {cI cZ cS : ClassId} {aR aRd aRm aRw aRs aRt aRc aRl aRh aRu aRx aRy aRk : Nat} {of : Int32} {op : Int32} {cr : Int32} {wn : Int32} {fp : Int32} {fs : Int32} {dk : Nat → Int32} {mm : Nat → Int32} {wk : Nat → Int32} {sg : Nat → Int32} {tb : Nat → Int32} {cs : Nat → Int32} {lw : Nat → Int32} {hg : Nat → Int32} {us : Nat → Int32} {de : Nat → Int32} {sa : Nat → Int32} {ky : Nat → Int32} (E : mk_En p s m meth c cX5_changed 3 (some .int) ([.ref aR] : List Value).toArray wsX5_changed yX5_changed.cls) (hA : ∀ q : Nat, s.heap.size ≤ q → A q) (hK : va_K (dC, dI) vwCl (tyz cI cZ cS) s) (R : Int32) : ∀ (n : Nat) (x1 : Int32) (x2 : Int32), pl_R_changed_4 dk mm n x1 x2 = some R → ∀ (H : Heap) (locs : List Loc) (ls : Array Slot), va_P (dC, dI) vwCl (w_R cI cZ cS aR aRd aRm aRw aRs aRt aRc aRl aRh aRu aRx aRy aRk of op cr wn fp fs dk mm wk sg tb cs lw hg us de sa ky) H → va_D A (w_R cI cZ cS aR aRd aRm aRw aRs aRt aRc aRl aRh aRu aRx aRy aRk of op cr wn fp fs dk mm wk sg tb cs lw hg us de sa ky) → va_S A s.heap H locs → lv_has ls 3 [(0, .ref aR), (1, .int x1), (2, .int x2)] → W p l e ({ frames := 0, cells := 0, slots := 0, locals := 0 } : Room) s m ([.ref aR] : List Value).toArray below meth c H locs 0 0 (MQ below (mk_QR (dC, dI) vwCl (tyz cI cZ cS) A (w_R cI cZ cS aR aRd aRm aRw aRs aRt aRc aRl aRh aRu aRx aRy aRk of op cr wn fp fs dk mm wk sg tb cs lw hg us de sa ky) R) ([.ref aR] : List Value).toArray s 0 0 A) (F0 m 4 ls []) := by
  intro n
  induction n with
  | zero =>
    intro x1 x2 h
    cases h
  | succ n ih =>
    intro x1 x2 h
    exact b_R_changed_4 E hA hK R ih x1 x2 h
set_option maxHeartbeats 4000000 in
set_option maxRecDepth 100000 in
theorem c_R_changed (l : Launch) (dC : Nat → ClassId) (dI : Nat → Nat → Nat) (cI cZ cS : ClassId) (aR aRd aRm aRw aRs aRt aRc aRl aRh aRu aRx aRy aRk : Nat) (of : Int32) (op : Int32) (cr : Int32) (wn : Int32) (fp : Int32) (fs : Int32) (dk : Nat → Int32) (mm : Nat → Int32) (wk : Nat → Int32) (sg : Nat → Int32) (tb : Nat → Int32) (cs : Nat → Int32) (lw : Nat → Int32) (hg : Nat → Int32) (us : Nat → Int32) (de : Nat → Int32) (sa : Nat → Int32) (ky : Nat → Int32) : CtR l yX5_changed wsX5_changed ({ frames := 0, cells := 0, slots := 0, locals := 0 }) (dC, dI) vwCl (tyz cI cZ cS) [.ref aR] (w_R cI cZ cS aR aRd aRm aRw aRs aRt aRc aRl aRh aRu aRx aRy aRk of op cr wn fp fs dk mm wk sg tb cs lw hg us de sa ky) (p_R_changed dk mm) := by
  intro R h
  refine mk_enter (Qc := (fun A => mk_QR (dC, dI) vwCl (tyz cI cZ cS) A (w_R cI cZ cS aR aRd aRm aRw aRs aRt aRc aRl aRh aRu aRx aRy aRk of op cr wn fp fs dk mm wk sg tb cs lw hg us de sa ky) R)) (by decide) rfl (Nat.le_of_ble_eq_true rfl) ?_
  intro p e s m below meth c A E hA hK H locs ls hP hD hS hl
  obtain ⟨⟨hx, hb, hml, hown, hts⟩, hrt, hlk, hN⟩ := id E
  have hown : s.vm.findClass RX5 = some m.cls := hown
  have hl : lv_has ls 3 [(0, .ref aR)] := hl
  unfold p_R_changed at h
  refine lv_iconst (v := 0) hx hb dX5_changed_0 (by decide) ?_
  refine lv_istore_n (lv' := [(1, .int 0), (0, .ref aR)]) hx hb dX5_changed_1 rfl hl (by decide) rfl (fun ls hl => ?_)
  refine lv_iconst (v := 0) hx hb dX5_changed_2 (by decide) ?_
  refine lv_istore_n (lv' := [(2, .int 0), (1, .int 0), (0, .ref aR)]) hx hb dX5_changed_3 rfl hl (by decide) rfl (fun ls hl => ?_)
  exact l_R_changed_4 E hA hK R 1000 0 0 h H locs ls hP hD hS (lv_sub hl [2, 1, 0] rfl)

/- Model.copyBack()V -/
set_option maxRecDepth 20000 in
theorem mm_R_copyBack_0 : Cond.fieldLink RX5 66 "JournaledTablesModel" "open" "Z" ∈ wsX5_copyBack := by decide +kernel
set_option maxRecDepth 20000 in
theorem iw_R_copyBack_Model : ∀ w ∈ u_ws RX5 TX5 18, w ∈ wsX5_copyBack := by decide +kernel
set_option maxRecDepth 20000 in
theorem mm_R_copyBack_2 : Cond.fieldLink RX5 13 "JournaledTablesModel" "memory" "[I" ∈ wsX5_copyBack := by decide +kernel
set_option maxRecDepth 20000 in
theorem mm_R_copyBack_3 : Cond.fieldLink RX5 7 "JournaledTablesModel" "disk" "[I" ∈ wsX5_copyBack := by decide +kernel
set_option maxHeartbeats 4000000 in
set_option maxRecDepth 100000 in
theorem b_R_copyBack_2 {p : Program} {l : Launch} {e : Env} {s : State} {m : MethodId} {below : List Frame} {meth : Method} {c : Code} {A : Nat → Prop} {dC : Nat → ClassId} {dI : Nat → Nat → Nat} {cI cZ cS : ClassId} {aR aRd aRm aRw aRs aRt aRc aRl aRh aRu aRx aRy aRk : Nat} {of : Int32} {cr : Int32} {wn : Int32} {fp : Int32} {fs : Int32} {dk : Nat → Int32} {wk : Nat → Int32} {sg : Nat → Int32} {tb : Nat → Int32} {cs : Nat → Int32} {lw : Nat → Int32} {hg : Nat → Int32} {us : Nat → Int32} {de : Nat → Int32} {sa : Nat → Int32} {ky : Nat → Int32} (E : mk_En p s m meth c cX5_copyBack 2 none ([.ref aR] : List Value).toArray wsX5_copyBack yX5_copyBack.cls) (hA : ∀ q : Nat, s.heap.size ≤ q → A q) (hK : va_K (dC, dI) vwCl (tyz cI cZ cS) s) (R : Int32 × (Nat → Int32)) {k_2 : Int32 → Int32 → (Nat → Int32) → Option (Int32 × (Nat → Int32))} (hk_2 : ∀ (x1 : Int32) (op : Int32) (mm : Nat → Int32), k_2 x1 op mm = some R → ∀ (H : Heap) (locs : List Loc) (ls : Array Slot), va_P (dC, dI) vwCl (w_R cI cZ cS aR aRd aRm aRw aRs aRt aRc aRl aRh aRu aRx aRy aRk of op cr wn fp fs dk mm wk sg tb cs lw hg us de sa ky) H → va_D A (w_R cI cZ cS aR aRd aRm aRw aRs aRt aRc aRl aRh aRu aRx aRy aRk of op cr wn fp fs dk mm wk sg tb cs lw hg us de sa ky) → va_S A s.heap H locs → lv_has ls 2 [(0, .ref aR), (1, .int x1)] → W p l e ({ frames := 0, cells := 0, slots := 0, locals := 0 } : Room) s m ([.ref aR] : List Value).toArray below meth c H locs 0 0 (MQ below (mk_QV (dC, dI) vwCl (tyz cI cZ cS) A (fun u : Int32 × (Nat → Int32) => w_R cI cZ cS aR aRd aRm aRw aRs aRt aRc aRl aRh aRu aRx aRy aRk of u.1 cr wn fp fs dk u.2 wk sg tb cs lw hg us de sa ky) R) ([.ref aR] : List Value).toArray s 0 0 A) (F0 m 2 ls [])) (x1 : Int32) (op : Int32) (mm : Nat → Int32) (h : p_R_copyBack_2 dk k_2 x1 op mm = some R) : ∀ (H : Heap) (locs : List Loc) (ls : Array Slot), va_P (dC, dI) vwCl (w_R cI cZ cS aR aRd aRm aRw aRs aRt aRc aRl aRh aRu aRx aRy aRk of op cr wn fp fs dk mm wk sg tb cs lw hg us de sa ky) H → va_D A (w_R cI cZ cS aR aRd aRm aRw aRs aRt aRc aRl aRh aRu aRx aRy aRk of op cr wn fp fs dk mm wk sg tb cs lw hg us de sa ky) → va_S A s.heap H locs → lv_has ls 2 [(0, .ref aR), (1, .int x1)] → W p l e ({ frames := 0, cells := 0, slots := 0, locals := 0 } : Room) s m ([.ref aR] : List Value).toArray below meth c H locs 0 0 (MQ below (mk_QV (dC, dI) vwCl (tyz cI cZ cS) A (fun u : Int32 × (Nat → Int32) => w_R cI cZ cS aR aRd aRm aRw aRs aRt aRc aRl aRh aRu aRx aRy aRk of u.1 cr wn fp fs dk u.2 wk sg tb cs lw hg us de sa ky) R) ([.ref aR] : List Value).toArray s 0 0 A) (F0 m 2 ls []) := by
  intro H locs ls hP hD hS hl
  obtain ⟨⟨hx, hb, hml, hown, hts⟩, hrt, hlk, hN⟩ := id E
  have hown : s.vm.findClass RX5 = some m.cls := hown
  unfold p_R_copyBack_2 at h
  refine lv_iload_n hx hb dX5_copyBack_2 rfl (lv_at hl 1 rfl) ?_
  refine lv_sipush (v := 256) hx hb dX5_copyBack_3 (by decide) ?_
  refine lv_icmp_ge (tgt := 27) hx hb dX5_copyBack_6 (by decide) (fun c_1 => ?_) (fun c_1 => ?_)
  · replace h := (kp_if h).1 c_1
    refine lv_aload_n hx hb dX5_copyBack_27 rfl (lv_at hl 0 rfl) ?_
    refine lv_iconst (v := 0) hx hb dX5_copyBack_28 (by decide) ?_
    refine va_put (D := (dC, dI)) (ci := 5) (v := .int 0) (ty := .boolean) (C := RX5) (T := TX5) (N := 18) hx hb hts iw_R_copyBack_Model tyX5 tyX5_ok nmX5 hown hK hP hD hS 0 rfl rfl 5 (by decide) (hts _ mm_R_copyBack_0) (fun _ h9 => h9) rfl (by decide +kernel) rfl rfl (Nat.le_of_ble_eq_true rfl) dX5_copyBack_29 (fun H locs hP hD hS => ?_)
    have hP : va_P (dC, dI) vwCl (w_R cI cZ cS aR aRd aRm aRw aRs aRt aRc aRl aRh aRu aRx aRy aRk of 0 cr wn fp fs dk mm wk sg tb cs lw hg us de sa ky) H := hP
    have hD : va_D A (w_R cI cZ cS aR aRd aRm aRw aRs aRt aRc aRl aRh aRu aRx aRy aRk of 0 cr wn fp fs dk mm wk sg tb cs lw hg us de sa ky) := hD
    cases h
    exact mk_vret E hK hP hD hS dX5_copyBack_32
  · replace h := (kp_if h).2 c_1
    refine lv_aload_n hx hb dX5_copyBack_9 rfl (lv_at hl 0 rfl) ?_
    refine va_get (D := (dC, dI)) (ci := 5) (v := .ref aRm) (C := RX5) (T := TX5) (N := 18) hx hb hts iw_R_copyBack_Model hown hK hP 0 rfl rfl 1 (by decide) (hts _ mm_R_copyBack_2) (fun _ h9 => h9) rfl dX5_copyBack_10 ?_
    refine lv_iload_n hx hb dX5_copyBack_13 rfl (lv_at hl 1 rfl) ?_
    refine lv_aload_n hx hb dX5_copyBack_14 rfl (lv_at hl 0 rfl) ?_
    refine va_get (D := (dC, dI)) (ci := 5) (v := .ref aRd) (C := RX5) (T := TX5) (N := 18) hx hb hts iw_R_copyBack_Model hown hK hP 0 rfl rfl 0 (by decide) (hts _ mm_R_copyBack_3) (fun _ h9 => h9) rfl dX5_copyBack_15 ?_
    refine lv_iload_n hx hb dX5_copyBack_18 rfl (lv_at hl 1 rfl) ?_
    obtain ⟨hc_2, h⟩ := kp_in h
    refine va_iald hx hb hK hP 1 0 rfl rfl (kx_of hc_2) dX5_copyBack_19 ?_
    obtain ⟨hc_3, h⟩ := kp_in h
    refine va_iast hx hb hK hP hD hS 2 0 rfl rfl (kx_of hc_3) dX5_copyBack_20 (fun H locs hP hD hS => ?_)
    have hP : va_P (dC, dI) vwCl (w_R cI cZ cS aR aRd aRm aRw aRs aRt aRc aRl aRh aRu aRx aRy aRk of op cr wn fp fs dk (upd mm x1.toNatClampNeg (dk x1.toNatClampNeg)) wk sg tb cs lw hg us de sa ky) H := hP
    have hD : va_D A (w_R cI cZ cS aR aRd aRm aRw aRs aRt aRc aRl aRh aRu aRx aRy aRk of op cr wn fp fs dk (upd mm x1.toNatClampNeg (dk x1.toNatClampNeg)) wk sg tb cs lw hg us de sa ky) := hD
    refine lv_iinc (v := x1 + 1) (lv' := [(1, .int (x1 + 1)), (0, .ref aR)]) hx hb dX5_copyBack_21 hl (k := 1) rfl rfl (by decide) rfl (fun ls hl => ?_)
    refine lv_goto (tgt := 2) hx hb dX5_copyBack_24 (by decide) ?_
    exact hk_2 (x1 + 1) op (upd mm x1.toNatClampNeg (dk x1.toNatClampNeg)) h H locs ls hP hD hS (lv_sub hl [1, 0] rfl)
set_option maxHeartbeats 4000000 in
set_option maxRecDepth 100000 in
theorem l_R_copyBack_2 {p : Program} {l : Launch} {e : Env} {s : State} {m : MethodId} {below : List Frame} {meth : Method} {c : Code} {A : Nat → Prop} {dC : Nat → ClassId} {dI : Nat → Nat → Nat} {cI cZ cS : ClassId} {aR aRd aRm aRw aRs aRt aRc aRl aRh aRu aRx aRy aRk : Nat} {of : Int32} {cr : Int32} {wn : Int32} {fp : Int32} {fs : Int32} {dk : Nat → Int32} {wk : Nat → Int32} {sg : Nat → Int32} {tb : Nat → Int32} {cs : Nat → Int32} {lw : Nat → Int32} {hg : Nat → Int32} {us : Nat → Int32} {de : Nat → Int32} {sa : Nat → Int32} {ky : Nat → Int32} (E : mk_En p s m meth c cX5_copyBack 2 none ([.ref aR] : List Value).toArray wsX5_copyBack yX5_copyBack.cls) (hA : ∀ q : Nat, s.heap.size ≤ q → A q) (hK : va_K (dC, dI) vwCl (tyz cI cZ cS) s) (R : Int32 × (Nat → Int32)) : ∀ (n : Nat) (x1 : Int32) (op : Int32) (mm : Nat → Int32), pl_R_copyBack_2 dk n x1 op mm = some R → ∀ (H : Heap) (locs : List Loc) (ls : Array Slot), va_P (dC, dI) vwCl (w_R cI cZ cS aR aRd aRm aRw aRs aRt aRc aRl aRh aRu aRx aRy aRk of op cr wn fp fs dk mm wk sg tb cs lw hg us de sa ky) H → va_D A (w_R cI cZ cS aR aRd aRm aRw aRs aRt aRc aRl aRh aRu aRx aRy aRk of op cr wn fp fs dk mm wk sg tb cs lw hg us de sa ky) → va_S A s.heap H locs → lv_has ls 2 [(0, .ref aR), (1, .int x1)] → W p l e ({ frames := 0, cells := 0, slots := 0, locals := 0 } : Room) s m ([.ref aR] : List Value).toArray below meth c H locs 0 0 (MQ below (mk_QV (dC, dI) vwCl (tyz cI cZ cS) A (fun u : Int32 × (Nat → Int32) => w_R cI cZ cS aR aRd aRm aRw aRs aRt aRc aRl aRh aRu aRx aRy aRk of u.1 cr wn fp fs dk u.2 wk sg tb cs lw hg us de sa ky) R) ([.ref aR] : List Value).toArray s 0 0 A) (F0 m 2 ls []) := by
  intro n
  induction n with
  | zero =>
    intro x1 op mm h
    cases h
  | succ n ih =>
    intro x1 op mm h
    exact b_R_copyBack_2 E hA hK R ih x1 op mm h
set_option maxHeartbeats 4000000 in
set_option maxRecDepth 100000 in
theorem c_R_copyBack (l : Launch) (dC : Nat → ClassId) (dI : Nat → Nat → Nat) (cI cZ cS : ClassId) (aR aRd aRm aRw aRs aRt aRc aRl aRh aRu aRx aRy aRk : Nat) (of : Int32) (op : Int32) (cr : Int32) (wn : Int32) (fp : Int32) (fs : Int32) (dk : Nat → Int32) (mm : Nat → Int32) (wk : Nat → Int32) (sg : Nat → Int32) (tb : Nat → Int32) (cs : Nat → Int32) (lw : Nat → Int32) (hg : Nat → Int32) (us : Nat → Int32) (de : Nat → Int32) (sa : Nat → Int32) (ky : Nat → Int32) : CtV l yX5_copyBack wsX5_copyBack ({ frames := 0, cells := 0, slots := 0, locals := 0 }) (dC, dI) vwCl (tyz cI cZ cS) [.ref aR] (w_R cI cZ cS aR aRd aRm aRw aRs aRt aRc aRl aRh aRu aRx aRy aRk of op cr wn fp fs dk mm wk sg tb cs lw hg us de sa ky) (fun u : Int32 × (Nat → Int32) => w_R cI cZ cS aR aRd aRm aRw aRs aRt aRc aRl aRh aRu aRx aRy aRk of u.1 cr wn fp fs dk u.2 wk sg tb cs lw hg us de sa ky) (p_R_copyBack op dk mm) := by
  intro R h
  refine mk_enter (Qc := (fun A => mk_QV (dC, dI) vwCl (tyz cI cZ cS) A (fun u : Int32 × (Nat → Int32) => w_R cI cZ cS aR aRd aRm aRw aRs aRt aRc aRl aRh aRu aRx aRy aRk of u.1 cr wn fp fs dk u.2 wk sg tb cs lw hg us de sa ky) R)) (by decide) rfl (Nat.le_of_ble_eq_true rfl) ?_
  intro p e s m below meth c A E hA hK H locs ls hP hD hS hl
  obtain ⟨⟨hx, hb, hml, hown, hts⟩, hrt, hlk, hN⟩ := id E
  have hown : s.vm.findClass RX5 = some m.cls := hown
  have hl : lv_has ls 2 [(0, .ref aR)] := hl
  unfold p_R_copyBack at h
  refine lv_iconst (v := 0) hx hb dX5_copyBack_0 (by decide) ?_
  refine lv_istore_n (lv' := [(1, .int 0), (0, .ref aR)]) hx hb dX5_copyBack_1 rfl hl (by decide) rfl (fun ls hl => ?_)
  exact l_R_copyBack_2 E hA hK R 1000 0 op mm h H locs ls hP hD hS (lv_sub hl [1, 0] rfl)

/- Model.noTable(I)Z -/
set_option maxRecDepth 20000 in
theorem mm_R_noTable_0 : Cond.fieldLink RX5 13 "JournaledTablesModel" "memory" "[I" ∈ wsX5_noTable := by decide +kernel
set_option maxRecDepth 20000 in
theorem iw_R_noTable_Model : ∀ w ∈ u_ws RX5 TX5 18, w ∈ wsX5_noTable := by decide +kernel
set_option maxHeartbeats 4000000 in
set_option maxRecDepth 100000 in
theorem b_R_noTable_23 {p : Program} {l : Launch} {e : Env} {s : State} {m : MethodId} {below : List Frame} {meth : Method} {c : Code} {A : Nat → Prop} {dC : Nat → ClassId} {dI : Nat → Nat → Nat} {cI cZ cS : ClassId} {aR aRd aRm aRw aRs aRt aRc aRl aRh aRu aRx aRy aRk : Nat} {of : Int32} {op : Int32} {cr : Int32} {wn : Int32} {fp : Int32} {fs : Int32} {dk : Nat → Int32} {mm : Nat → Int32} {wk : Nat → Int32} {sg : Nat → Int32} {tb : Nat → Int32} {cs : Nat → Int32} {lw : Nat → Int32} {hg : Nat → Int32} {us : Nat → Int32} {de : Nat → Int32} {sa : Nat → Int32} {ky : Nat → Int32} {a1 : Int32} (E : mk_En p s m meth c cX5_noTable 2 (some .boolean) ([.ref aR, .int a1] : List Value).toArray wsX5_noTable yX5_noTable.cls) (hA : ∀ q : Nat, s.heap.size ≤ q → A q) (hK : va_K (dC, dI) vwCl (tyz cI cZ cS) s) (R : Int32) (z0 : Int32) (h : p_R_noTable_23 mm z0 = some R) : ∀ (H : Heap) (locs : List Loc) (ls : Array Slot), va_P (dC, dI) vwCl (w_R cI cZ cS aR aRd aRm aRw aRs aRt aRc aRl aRh aRu aRx aRy aRk of op cr wn fp fs dk mm wk sg tb cs lw hg us de sa ky) H → va_D A (w_R cI cZ cS aR aRd aRm aRw aRs aRt aRc aRl aRh aRu aRx aRy aRk of op cr wn fp fs dk mm wk sg tb cs lw hg us de sa ky) → va_S A s.heap H locs → lv_has ls 2 [] → W p l e ({ frames := 0, cells := 0, slots := 0, locals := 0 } : Room) s m ([.ref aR, .int a1] : List Value).toArray below meth c H locs 0 0 (MQ below (mk_QR (dC, dI) vwCl (tyz cI cZ cS) A (w_R cI cZ cS aR aRd aRm aRw aRs aRt aRc aRl aRh aRu aRx aRy aRk of op cr wn fp fs dk mm wk sg tb cs lw hg us de sa ky) R) ([.ref aR, .int a1] : List Value).toArray s 0 0 A) (F0 m 23 ls [.int z0]) := by
  intro H locs ls hP hD hS hl
  obtain ⟨⟨hx, hb, hml, hown, hts⟩, hrt, hlk, hN⟩ := id E
  have hown : s.vm.findClass RX5 = some m.cls := hown
  unfold p_R_noTable_23 at h
  obtain ⟨hc_1, h⟩ := kp_in h
  cases h
  exact mk_zretR E hc_1 hK hP hD hS dX5_noTable_23
set_option maxHeartbeats 4000000 in
set_option maxRecDepth 100000 in
theorem b_R_noTable_18 {p : Program} {l : Launch} {e : Env} {s : State} {m : MethodId} {below : List Frame} {meth : Method} {c : Code} {A : Nat → Prop} {dC : Nat → ClassId} {dI : Nat → Nat → Nat} {cI cZ cS : ClassId} {aR aRd aRm aRw aRs aRt aRc aRl aRh aRu aRx aRy aRk : Nat} {of : Int32} {op : Int32} {cr : Int32} {wn : Int32} {fp : Int32} {fs : Int32} {dk : Nat → Int32} {mm : Nat → Int32} {wk : Nat → Int32} {sg : Nat → Int32} {tb : Nat → Int32} {cs : Nat → Int32} {lw : Nat → Int32} {hg : Nat → Int32} {us : Nat → Int32} {de : Nat → Int32} {sa : Nat → Int32} {ky : Nat → Int32} {a1 : Int32} (E : mk_En p s m meth c cX5_noTable 2 (some .boolean) ([.ref aR, .int a1] : List Value).toArray wsX5_noTable yX5_noTable.cls) (hA : ∀ q : Nat, s.heap.size ≤ q → A q) (hK : va_K (dC, dI) vwCl (tyz cI cZ cS) s) (R : Int32) (h : p_R_noTable_18 mm = some R) : ∀ (H : Heap) (locs : List Loc) (ls : Array Slot), va_P (dC, dI) vwCl (w_R cI cZ cS aR aRd aRm aRw aRs aRt aRc aRl aRh aRu aRx aRy aRk of op cr wn fp fs dk mm wk sg tb cs lw hg us de sa ky) H → va_D A (w_R cI cZ cS aR aRd aRm aRw aRs aRt aRc aRl aRh aRu aRx aRy aRk of op cr wn fp fs dk mm wk sg tb cs lw hg us de sa ky) → va_S A s.heap H locs → lv_has ls 2 [] → W p l e ({ frames := 0, cells := 0, slots := 0, locals := 0 } : Room) s m ([.ref aR, .int a1] : List Value).toArray below meth c H locs 0 0 (MQ below (mk_QR (dC, dI) vwCl (tyz cI cZ cS) A (w_R cI cZ cS aR aRd aRm aRw aRs aRt aRc aRl aRh aRu aRx aRy aRk of op cr wn fp fs dk mm wk sg tb cs lw hg us de sa ky) R) ([.ref aR, .int a1] : List Value).toArray s 0 0 A) (F0 m 18 ls []) := by
  intro H locs ls hP hD hS hl
  obtain ⟨⟨hx, hb, hml, hown, hts⟩, hrt, hlk, hN⟩ := id E
  have hown : s.vm.findClass RX5 = some m.cls := hown
  unfold p_R_noTable_18 at h
  refine lv_iconst (v := 1) hx hb dX5_noTable_18 (by decide) ?_
  refine lv_goto (tgt := 23) hx hb dX5_noTable_19 (by decide) ?_
  exact b_R_noTable_23 E hA hK R 1 h H locs ls hP hD hS (lv_sub hl [] rfl)
set_option maxHeartbeats 4000000 in
set_option maxRecDepth 100000 in
theorem c_R_noTable (l : Launch) (dC : Nat → ClassId) (dI : Nat → Nat → Nat) (cI cZ cS : ClassId) (aR aRd aRm aRw aRs aRt aRc aRl aRh aRu aRx aRy aRk : Nat) (of : Int32) (op : Int32) (cr : Int32) (wn : Int32) (fp : Int32) (fs : Int32) (dk : Nat → Int32) (mm : Nat → Int32) (wk : Nat → Int32) (sg : Nat → Int32) (tb : Nat → Int32) (cs : Nat → Int32) (lw : Nat → Int32) (hg : Nat → Int32) (us : Nat → Int32) (de : Nat → Int32) (sa : Nat → Int32) (ky : Nat → Int32) (a1 : Int32) : CtR l yX5_noTable wsX5_noTable ({ frames := 0, cells := 0, slots := 0, locals := 0 }) (dC, dI) vwCl (tyz cI cZ cS) [.ref aR, .int a1] (w_R cI cZ cS aR aRd aRm aRw aRs aRt aRc aRl aRh aRu aRx aRy aRk of op cr wn fp fs dk mm wk sg tb cs lw hg us de sa ky) (p_R_noTable mm a1) := by
  intro R h
  refine mk_enter (Qc := (fun A => mk_QR (dC, dI) vwCl (tyz cI cZ cS) A (w_R cI cZ cS aR aRd aRm aRw aRs aRt aRc aRl aRh aRu aRx aRy aRk of op cr wn fp fs dk mm wk sg tb cs lw hg us de sa ky) R)) (by decide) rfl (Nat.le_of_ble_eq_true rfl) ?_
  intro p e s m below meth c A E hA hK H locs ls hP hD hS hl
  obtain ⟨⟨hx, hb, hml, hown, hts⟩, hrt, hlk, hN⟩ := id E
  have hown : s.vm.findClass RX5 = some m.cls := hown
  have hl : lv_has ls 2 [(0, .ref aR), (1, .int a1)] := hl
  unfold p_R_noTable at h
  refine lv_iload_n hx hb dX5_noTable_0 rfl (lv_at hl 1 rfl) ?_
  refine lv_if_lt (tgt := 18) hx hb dX5_noTable_1 (by decide) (fun c_2 => ?_) (fun c_2 => ?_)
  · replace h := (kp_if h).1 c_2
    exact b_R_noTable_18 E hA hK R h H locs ls hP hD hS (lv_sub hl [] rfl)
  · replace h := (kp_if h).2 c_2
    refine lv_iload_n hx hb dX5_noTable_4 rfl (lv_at hl 1 rfl) ?_
    refine lv_iconst (v := 4) hx hb dX5_noTable_5 (by decide) ?_
    refine lv_icmp_gt (tgt := 18) hx hb dX5_noTable_6 (by decide) (fun c_3 => ?_) (fun c_3 => ?_)
    · replace h := (kp_if h).1 c_3
      exact b_R_noTable_18 E hA hK R h H locs ls hP hD hS (lv_sub hl [] rfl)
    · replace h := (kp_if h).2 c_3
      refine lv_aload_n hx hb dX5_noTable_9 rfl (lv_at hl 0 rfl) ?_
      refine va_get (D := (dC, dI)) (ci := 5) (v := .ref aRm) (C := RX5) (T := TX5) (N := 18) hx hb hts iw_R_noTable_Model hown hK hP 0 rfl rfl 1 (by decide) (hts _ mm_R_noTable_0) (fun _ h9 => h9) rfl dX5_noTable_10 ?_
      refine lv_iload_n hx hb dX5_noTable_13 rfl (lv_at hl 1 rfl) ?_
      obtain ⟨hc_4, h⟩ := kp_in h
      refine va_iald hx hb hK hP 2 0 rfl rfl (kx_of hc_4) dX5_noTable_14 ?_
      refine lv_if_ne (tgt := 22) hx hb dX5_noTable_15 (by decide) (fun c_5 => ?_) (fun c_5 => ?_)
      · replace h := (kp_if h).2 c_5
        refine lv_iconst (v := 0) hx hb dX5_noTable_22 (by decide) ?_
        exact b_R_noTable_23 E hA hK R 0 h H locs ls hP hD hS (lv_sub hl [] rfl)
      · replace h := (kp_if h).1 c_5
        exact b_R_noTable_18 E hA hK R h H locs ls hP hD hS (lv_sub hl [] rfl)

/- Model.slots(I)I -/
set_option maxRecDepth 20000 in
theorem mm_R_slots_0 : Cond.fieldLink RX5 13 "JournaledTablesModel" "memory" "[I" ∈ wsX5_slots := by decide +kernel
set_option maxRecDepth 20000 in
theorem iw_R_slots_Model : ∀ w ∈ u_ws RX5 TX5 18, w ∈ wsX5_slots := by decide +kernel
set_option maxHeartbeats 4000000 in
set_option maxRecDepth 100000 in
theorem c_R_slots (l : Launch) (dC : Nat → ClassId) (dI : Nat → Nat → Nat) (cI cZ cS : ClassId) (aR aRd aRm aRw aRs aRt aRc aRl aRh aRu aRx aRy aRk : Nat) (of : Int32) (op : Int32) (cr : Int32) (wn : Int32) (fp : Int32) (fs : Int32) (dk : Nat → Int32) (mm : Nat → Int32) (wk : Nat → Int32) (sg : Nat → Int32) (tb : Nat → Int32) (cs : Nat → Int32) (lw : Nat → Int32) (hg : Nat → Int32) (us : Nat → Int32) (de : Nat → Int32) (sa : Nat → Int32) (ky : Nat → Int32) (a1 : Int32) : CtR l yX5_slots wsX5_slots ({ frames := 0, cells := 0, slots := 0, locals := 0 }) (dC, dI) vwCl (tyz cI cZ cS) [.ref aR, .int a1] (w_R cI cZ cS aR aRd aRm aRw aRs aRt aRc aRl aRh aRu aRx aRy aRk of op cr wn fp fs dk mm wk sg tb cs lw hg us de sa ky) (p_R_slots mm a1) := by
  intro R h
  refine mk_enter (Qc := (fun A => mk_QR (dC, dI) vwCl (tyz cI cZ cS) A (w_R cI cZ cS aR aRd aRm aRw aRs aRt aRc aRl aRh aRu aRx aRy aRk of op cr wn fp fs dk mm wk sg tb cs lw hg us de sa ky) R)) (by decide) rfl (Nat.le_of_ble_eq_true rfl) ?_
  intro p e s m below meth c A E hA hK H locs ls hP hD hS hl
  obtain ⟨⟨hx, hb, hml, hown, hts⟩, hrt, hlk, hN⟩ := id E
  have hown : s.vm.findClass RX5 = some m.cls := hown
  have hl : lv_has ls 2 [(0, .ref aR), (1, .int a1)] := hl
  unfold p_R_slots at h
  refine lv_bipush (v := 13) hx hb dX5_slots_0 (by decide) ?_
  refine lv_aload_n hx hb dX5_slots_2 rfl (lv_at hl 0 rfl) ?_
  refine va_get (D := (dC, dI)) (ci := 5) (v := .ref aRm) (C := RX5) (T := TX5) (N := 18) hx hb hts iw_R_slots_Model hown hK hP 0 rfl rfl 1 (by decide) (hts _ mm_R_slots_0) (fun _ h9 => h9) rfl dX5_slots_3 ?_
  refine lv_iload_n hx hb dX5_slots_6 rfl (lv_at hl 1 rfl) ?_
  obtain ⟨hc_1, h⟩ := kp_in h
  refine va_iald hx hb hK hP 2 0 rfl rfl (kx_of hc_1) dX5_slots_7 ?_
  obtain ⟨hc_2, h⟩ := kp_in h
  refine lv_idiv hx hb dX5_slots_8 hc_2 ?_
  cases h
  exact mk_iretR E hK hP hD hS dX5_slots_9

/- Model.change(I)V -/
set_option maxRecDepth 20000 in
theorem mm_R_change_0 : Cond.fieldLink RX5 42 "JournaledTablesModel" "dead" "[Z" ∈ wsX5_change := by decide +kernel
set_option maxRecDepth 20000 in
theorem iw_R_change_Model : ∀ w ∈ u_ws RX5 TX5 18, w ∈ wsX5_change := by decide +kernel
set_option maxRecDepth 20000 in
theorem mm_R_change_2 : Cond.fieldLink RX5 26 "JournaledTablesModel" "tables" "[I" ∈ wsX5_change := by decide +kernel
set_option maxHeartbeats 4000000 in
set_option maxRecDepth 100000 in
theorem b_R_change_36 {p : Program} {l : Launch} {e : Env} {s : State} {m : MethodId} {below : List Frame} {meth : Method} {c : Code} {A : Nat → Prop} {dC : Nat → ClassId} {dI : Nat → Nat → Nat} {cI cZ cS : ClassId} {aR aRd aRm aRw aRs aRt aRc aRl aRh aRu aRx aRy aRk : Nat} {of : Int32} {op : Int32} {cr : Int32} {wn : Int32} {fp : Int32} {fs : Int32} {dk : Nat → Int32} {mm : Nat → Int32} {wk : Nat → Int32} {sg : Nat → Int32} {tb : Nat → Int32} {cs : Nat → Int32} {lw : Nat → Int32} {hg : Nat → Int32} {us : Nat → Int32} {sa : Nat → Int32} {ky : Nat → Int32} {a1 : Int32} (E : mk_En p s m meth c cX5_change 3 none ([.ref aR, .int a1] : List Value).toArray wsX5_change yX5_change.cls) (hA : ∀ q : Nat, s.heap.size ≤ q → A q) (hK : va_K (dC, dI) vwCl (tyz cI cZ cS) s) (R : (Nat → Int32)) {k_2 : Int32 → Int32 → (Nat → Int32) → Option ((Nat → Int32))} (hk_2 : ∀ (x1 : Int32) (x2 : Int32) (de : Nat → Int32), k_2 x1 x2 de = some R → ∀ (H : Heap) (locs : List Loc) (ls : Array Slot), va_P (dC, dI) vwCl (w_R cI cZ cS aR aRd aRm aRw aRs aRt aRc aRl aRh aRu aRx aRy aRk of op cr wn fp fs dk mm wk sg tb cs lw hg us de sa ky) H → va_D A (w_R cI cZ cS aR aRd aRm aRw aRs aRt aRc aRl aRh aRu aRx aRy aRk of op cr wn fp fs dk mm wk sg tb cs lw hg us de sa ky) → va_S A s.heap H locs → lv_has ls 3 [(0, .ref aR), (1, .int x1), (2, .int x2)] → W p l e ({ frames := 0, cells := 0, slots := 0, locals := 0 } : Room) s m ([.ref aR, .int a1] : List Value).toArray below meth c H locs 0 0 (MQ below (mk_QV (dC, dI) vwCl (tyz cI cZ cS) A (fun u : (Nat → Int32) => w_R cI cZ cS aR aRd aRm aRw aRs aRt aRc aRl aRh aRu aRx aRy aRk of op cr wn fp fs dk mm wk sg tb cs lw hg us u sa ky) R) ([.ref aR, .int a1] : List Value).toArray s 0 0 A) (F0 m 2 ls [])) (x1 : Int32) (x2 : Int32) (z0 : Int32) (z1 : Int32) (de : Nat → Int32) (h : p_R_change_36 tb k_2 x1 x2 z0 z1 de = some R) : ∀ (H : Heap) (locs : List Loc) (ls : Array Slot), va_P (dC, dI) vwCl (w_R cI cZ cS aR aRd aRm aRw aRs aRt aRc aRl aRh aRu aRx aRy aRk of op cr wn fp fs dk mm wk sg tb cs lw hg us de sa ky) H → va_D A (w_R cI cZ cS aR aRd aRm aRw aRs aRt aRc aRl aRh aRu aRx aRy aRk of op cr wn fp fs dk mm wk sg tb cs lw hg us de sa ky) → va_S A s.heap H locs → lv_has ls 3 [(0, .ref aR), (1, .int x1), (2, .int x2)] → W p l e ({ frames := 0, cells := 0, slots := 0, locals := 0 } : Room) s m ([.ref aR, .int a1] : List Value).toArray below meth c H locs 0 0 (MQ below (mk_QV (dC, dI) vwCl (tyz cI cZ cS) A (fun u : (Nat → Int32) => w_R cI cZ cS aR aRd aRm aRw aRs aRt aRc aRl aRh aRu aRx aRy aRk of op cr wn fp fs dk mm wk sg tb cs lw hg us u sa ky) R) ([.ref aR, .int a1] : List Value).toArray s 0 0 A) (F0 m 36 ls [.int z0, .int z1, .ref aRx]) := by
  intro H locs ls hP hD hS hl
  obtain ⟨⟨hx, hb, hml, hown, hts⟩, hrt, hlk, hN⟩ := id E
  have hown : s.vm.findClass RX5 = some m.cls := hown
  unfold p_R_change_36 at h
  obtain ⟨hc_1, h⟩ := kp_in h
  refine va_zast hx hb hK hP hD hS 10 1 rfl rfl (kx_of hc_1) dX5_change_36 (fun H locs hP hD hS => ?_)
  have hP : va_P (dC, dI) vwCl (w_R cI cZ cS aR aRd aRm aRw aRs aRt aRc aRl aRh aRu aRx aRy aRk of op cr wn fp fs dk mm wk sg tb cs lw hg us (upd de z1.toNatClampNeg (vp_nar .boolean z0)) sa ky) H := hP
  have hD : va_D A (w_R cI cZ cS aR aRd aRm aRw aRs aRt aRc aRl aRh aRu aRx aRy aRk of op cr wn fp fs dk mm wk sg tb cs lw hg us (upd de z1.toNatClampNeg (vp_nar .boolean z0)) sa ky) := hD
  refine lv_iinc (v := x2 + 1) (lv' := [(2, .int (x2 + 1)), (0, .ref aR), (1, .int x1)]) hx hb dX5_change_37 hl (k := 2) rfl rfl (by decide) rfl (fun ls hl => ?_)
  refine lv_goto (tgt := 2) hx hb dX5_change_40 (by decide) ?_
  exact hk_2 x1 (x2 + 1) (upd de z1.toNatClampNeg (vp_nar .boolean z0)) h H locs ls hP hD hS (lv_sub hl [1, 2, 0] rfl)
set_option maxHeartbeats 4000000 in
set_option maxRecDepth 100000 in
theorem b_R_change_31 {p : Program} {l : Launch} {e : Env} {s : State} {m : MethodId} {below : List Frame} {meth : Method} {c : Code} {A : Nat → Prop} {dC : Nat → ClassId} {dI : Nat → Nat → Nat} {cI cZ cS : ClassId} {aR aRd aRm aRw aRs aRt aRc aRl aRh aRu aRx aRy aRk : Nat} {of : Int32} {op : Int32} {cr : Int32} {wn : Int32} {fp : Int32} {fs : Int32} {dk : Nat → Int32} {mm : Nat → Int32} {wk : Nat → Int32} {sg : Nat → Int32} {tb : Nat → Int32} {cs : Nat → Int32} {lw : Nat → Int32} {hg : Nat → Int32} {us : Nat → Int32} {sa : Nat → Int32} {ky : Nat → Int32} {a1 : Int32} (E : mk_En p s m meth c cX5_change 3 none ([.ref aR, .int a1] : List Value).toArray wsX5_change yX5_change.cls) (hA : ∀ q : Nat, s.heap.size ≤ q → A q) (hK : va_K (dC, dI) vwCl (tyz cI cZ cS) s) (R : (Nat → Int32)) {k_2 : Int32 → Int32 → (Nat → Int32) → Option ((Nat → Int32))} (hk_2 : ∀ (x1 : Int32) (x2 : Int32) (de : Nat → Int32), k_2 x1 x2 de = some R → ∀ (H : Heap) (locs : List Loc) (ls : Array Slot), va_P (dC, dI) vwCl (w_R cI cZ cS aR aRd aRm aRw aRs aRt aRc aRl aRh aRu aRx aRy aRk of op cr wn fp fs dk mm wk sg tb cs lw hg us de sa ky) H → va_D A (w_R cI cZ cS aR aRd aRm aRw aRs aRt aRc aRl aRh aRu aRx aRy aRk of op cr wn fp fs dk mm wk sg tb cs lw hg us de sa ky) → va_S A s.heap H locs → lv_has ls 3 [(0, .ref aR), (1, .int x1), (2, .int x2)] → W p l e ({ frames := 0, cells := 0, slots := 0, locals := 0 } : Room) s m ([.ref aR, .int a1] : List Value).toArray below meth c H locs 0 0 (MQ below (mk_QV (dC, dI) vwCl (tyz cI cZ cS) A (fun u : (Nat → Int32) => w_R cI cZ cS aR aRd aRm aRw aRs aRt aRc aRl aRh aRu aRx aRy aRk of op cr wn fp fs dk mm wk sg tb cs lw hg us u sa ky) R) ([.ref aR, .int a1] : List Value).toArray s 0 0 A) (F0 m 2 ls [])) (x1 : Int32) (x2 : Int32) (z0 : Int32) (de : Nat → Int32) (h : p_R_change_31 tb k_2 x1 x2 z0 de = some R) : ∀ (H : Heap) (locs : List Loc) (ls : Array Slot), va_P (dC, dI) vwCl (w_R cI cZ cS aR aRd aRm aRw aRs aRt aRc aRl aRh aRu aRx aRy aRk of op cr wn fp fs dk mm wk sg tb cs lw hg us de sa ky) H → va_D A (w_R cI cZ cS aR aRd aRm aRw aRs aRt aRc aRl aRh aRu aRx aRy aRk of op cr wn fp fs dk mm wk sg tb cs lw hg us de sa ky) → va_S A s.heap H locs → lv_has ls 3 [(0, .ref aR), (1, .int x1), (2, .int x2)] → W p l e ({ frames := 0, cells := 0, slots := 0, locals := 0 } : Room) s m ([.ref aR, .int a1] : List Value).toArray below meth c H locs 0 0 (MQ below (mk_QV (dC, dI) vwCl (tyz cI cZ cS) A (fun u : (Nat → Int32) => w_R cI cZ cS aR aRd aRm aRw aRs aRt aRc aRl aRh aRu aRx aRy aRk of op cr wn fp fs dk mm wk sg tb cs lw hg us u sa ky) R) ([.ref aR, .int a1] : List Value).toArray s 0 0 A) (F0 m 31 ls [.int z0, .ref aRx]) := by
  intro H locs ls hP hD hS hl
  obtain ⟨⟨hx, hb, hml, hown, hts⟩, hrt, hlk, hN⟩ := id E
  have hown : s.vm.findClass RX5 = some m.cls := hown
  unfold p_R_change_31 at h
  refine lv_iconst (v := 1) hx hb dX5_change_31 (by decide) ?_
  refine lv_goto (tgt := 36) hx hb dX5_change_32 (by decide) ?_
  exact b_R_change_36 E hA hK R hk_2 x1 x2 1 z0 de h H locs ls hP hD hS (lv_sub hl [0, 1, 2] rfl)
set_option maxHeartbeats 4000000 in
set_option maxRecDepth 100000 in
theorem b_R_change_2 {p : Program} {l : Launch} {e : Env} {s : State} {m : MethodId} {below : List Frame} {meth : Method} {c : Code} {A : Nat → Prop} {dC : Nat → ClassId} {dI : Nat → Nat → Nat} {cI cZ cS : ClassId} {aR aRd aRm aRw aRs aRt aRc aRl aRh aRu aRx aRy aRk : Nat} {of : Int32} {op : Int32} {cr : Int32} {wn : Int32} {fp : Int32} {fs : Int32} {dk : Nat → Int32} {mm : Nat → Int32} {wk : Nat → Int32} {sg : Nat → Int32} {tb : Nat → Int32} {cs : Nat → Int32} {lw : Nat → Int32} {hg : Nat → Int32} {us : Nat → Int32} {sa : Nat → Int32} {ky : Nat → Int32} {a1 : Int32} (E : mk_En p s m meth c cX5_change 3 none ([.ref aR, .int a1] : List Value).toArray wsX5_change yX5_change.cls) (hA : ∀ q : Nat, s.heap.size ≤ q → A q) (hK : va_K (dC, dI) vwCl (tyz cI cZ cS) s) (R : (Nat → Int32)) {k_2 : Int32 → Int32 → (Nat → Int32) → Option ((Nat → Int32))} (hk_2 : ∀ (x1 : Int32) (x2 : Int32) (de : Nat → Int32), k_2 x1 x2 de = some R → ∀ (H : Heap) (locs : List Loc) (ls : Array Slot), va_P (dC, dI) vwCl (w_R cI cZ cS aR aRd aRm aRw aRs aRt aRc aRl aRh aRu aRx aRy aRk of op cr wn fp fs dk mm wk sg tb cs lw hg us de sa ky) H → va_D A (w_R cI cZ cS aR aRd aRm aRw aRs aRt aRc aRl aRh aRu aRx aRy aRk of op cr wn fp fs dk mm wk sg tb cs lw hg us de sa ky) → va_S A s.heap H locs → lv_has ls 3 [(0, .ref aR), (1, .int x1), (2, .int x2)] → W p l e ({ frames := 0, cells := 0, slots := 0, locals := 0 } : Room) s m ([.ref aR, .int a1] : List Value).toArray below meth c H locs 0 0 (MQ below (mk_QV (dC, dI) vwCl (tyz cI cZ cS) A (fun u : (Nat → Int32) => w_R cI cZ cS aR aRd aRm aRw aRs aRt aRc aRl aRh aRu aRx aRy aRk of op cr wn fp fs dk mm wk sg tb cs lw hg us u sa ky) R) ([.ref aR, .int a1] : List Value).toArray s 0 0 A) (F0 m 2 ls [])) (x1 : Int32) (x2 : Int32) (de : Nat → Int32) (h : p_R_change_2 tb k_2 x1 x2 de = some R) : ∀ (H : Heap) (locs : List Loc) (ls : Array Slot), va_P (dC, dI) vwCl (w_R cI cZ cS aR aRd aRm aRw aRs aRt aRc aRl aRh aRu aRx aRy aRk of op cr wn fp fs dk mm wk sg tb cs lw hg us de sa ky) H → va_D A (w_R cI cZ cS aR aRd aRm aRw aRs aRt aRc aRl aRh aRu aRx aRy aRk of op cr wn fp fs dk mm wk sg tb cs lw hg us de sa ky) → va_S A s.heap H locs → lv_has ls 3 [(0, .ref aR), (1, .int x1), (2, .int x2)] → W p l e ({ frames := 0, cells := 0, slots := 0, locals := 0 } : Room) s m ([.ref aR, .int a1] : List Value).toArray below meth c H locs 0 0 (MQ below (mk_QV (dC, dI) vwCl (tyz cI cZ cS) A (fun u : (Nat → Int32) => w_R cI cZ cS aR aRd aRm aRw aRs aRt aRc aRl aRh aRu aRx aRy aRk of op cr wn fp fs dk mm wk sg tb cs lw hg us u sa ky) R) ([.ref aR, .int a1] : List Value).toArray s 0 0 A) (F0 m 2 ls []) := by
  intro H locs ls hP hD hS hl
  obtain ⟨⟨hx, hb, hml, hown, hts⟩, hrt, hlk, hN⟩ := id E
  have hown : s.vm.findClass RX5 = some m.cls := hown
  unfold p_R_change_2 at h
  refine lv_iload_n hx hb dX5_change_2 rfl (lv_at hl 2 rfl) ?_
  refine lv_iconst (v := 4) hx hb dX5_change_3 (by decide) ?_
  refine lv_icmp_ge (tgt := 43) hx hb dX5_change_4 (by decide) (fun c_2 => ?_) (fun c_2 => ?_)
  · replace h := (kp_if h).1 c_2
    cases h
    exact mk_vret E hK hP hD hS dX5_change_43
  · replace h := (kp_if h).2 c_2
    refine lv_aload_n hx hb dX5_change_7 rfl (lv_at hl 0 rfl) ?_
    refine va_get (D := (dC, dI)) (ci := 5) (v := .ref aRx) (C := RX5) (T := TX5) (N := 18) hx hb hts iw_R_change_Model hown hK hP 0 rfl rfl 13 (by decide) (hts _ mm_R_change_0) (fun _ h9 => h9) rfl dX5_change_8 ?_
    refine lv_iload_n hx hb dX5_change_11 rfl (lv_at hl 2 rfl) ?_
    refine lv_aload_n hx hb dX5_change_12 rfl (lv_at hl 0 rfl) ?_
    refine va_get (D := (dC, dI)) (ci := 5) (v := .ref aRx) (C := RX5) (T := TX5) (N := 18) hx hb hts iw_R_change_Model hown hK hP 0 rfl rfl 13 (by decide) (hts _ mm_R_change_0) (fun _ h9 => h9) rfl dX5_change_13 ?_
    refine lv_iload_n hx hb dX5_change_16 rfl (lv_at hl 2 rfl) ?_
    obtain ⟨hc_3, h⟩ := kp_in h
    refine va_zald hx hb hK hP 10 1 rfl rfl (kx_of hc_3) dX5_change_17 ?_
    refine lv_if_ne (tgt := 31) hx hb dX5_change_18 (by decide) (fun c_4 => ?_) (fun c_4 => ?_)
    · replace h := (kp_if h).2 c_4
      exact b_R_change_31 E hA hK R hk_2 x1 x2 x2 de h H locs ls hP hD hS (lv_sub hl [0, 1, 2] rfl)
    · replace h := (kp_if h).1 c_4
      refine lv_aload_n hx hb dX5_change_21 rfl (lv_at hl 0 rfl) ?_
      refine va_get (D := (dC, dI)) (ci := 5) (v := .ref aRt) (C := RX5) (T := TX5) (N := 18) hx hb hts iw_R_change_Model hown hK hP 0 rfl rfl 8 (by decide) (hts _ mm_R_change_2) (fun _ h9 => h9) rfl dX5_change_22 ?_
      refine lv_iload_n hx hb dX5_change_25 rfl (lv_at hl 2 rfl) ?_
      obtain ⟨hc_5, h⟩ := kp_in h
      refine va_iald hx hb hK hP 5 0 rfl rfl (kx_of hc_5) dX5_change_26 ?_
      refine lv_iload_n hx hb dX5_change_27 rfl (lv_at hl 1 rfl) ?_
      refine lv_icmp_ne (tgt := 35) hx hb dX5_change_28 (by decide) (fun c_6 => ?_) (fun c_6 => ?_)
      · replace h := (kp_if h).2 c_6
        refine lv_iconst (v := 0) hx hb dX5_change_35 (by decide) ?_
        exact b_R_change_36 E hA hK R hk_2 x1 x2 0 x2 de h H locs ls hP hD hS (lv_sub hl [0, 1, 2] rfl)
      · replace h := (kp_if h).1 c_6
        exact b_R_change_31 E hA hK R hk_2 x1 x2 x2 de h H locs ls hP hD hS (lv_sub hl [0, 1, 2] rfl)
set_option maxHeartbeats 4000000 in
set_option maxRecDepth 100000 in
theorem l_R_change_2 {p : Program} {l : Launch} {e : Env} {s : State} {m : MethodId} {below : List Frame} {meth : Method} {c : Code} {A : Nat → Prop} {dC : Nat → ClassId} {dI : Nat → Nat → Nat} {cI cZ cS : ClassId} {aR aRd aRm aRw aRs aRt aRc aRl aRh aRu aRx aRy aRk : Nat} {of : Int32} {op : Int32} {cr : Int32} {wn : Int32} {fp : Int32} {fs : Int32} {dk : Nat → Int32} {mm : Nat → Int32} {wk : Nat → Int32} {sg : Nat → Int32} {tb : Nat → Int32} {cs : Nat → Int32} {lw : Nat → Int32} {hg : Nat → Int32} {us : Nat → Int32} {sa : Nat → Int32} {ky : Nat → Int32} {a1 : Int32} (E : mk_En p s m meth c cX5_change 3 none ([.ref aR, .int a1] : List Value).toArray wsX5_change yX5_change.cls) (hA : ∀ q : Nat, s.heap.size ≤ q → A q) (hK : va_K (dC, dI) vwCl (tyz cI cZ cS) s) (R : (Nat → Int32)) : ∀ (n : Nat) (x1 : Int32) (x2 : Int32) (de : Nat → Int32), pl_R_change_2 tb n x1 x2 de = some R → ∀ (H : Heap) (locs : List Loc) (ls : Array Slot), va_P (dC, dI) vwCl (w_R cI cZ cS aR aRd aRm aRw aRs aRt aRc aRl aRh aRu aRx aRy aRk of op cr wn fp fs dk mm wk sg tb cs lw hg us de sa ky) H → va_D A (w_R cI cZ cS aR aRd aRm aRw aRs aRt aRc aRl aRh aRu aRx aRy aRk of op cr wn fp fs dk mm wk sg tb cs lw hg us de sa ky) → va_S A s.heap H locs → lv_has ls 3 [(0, .ref aR), (1, .int x1), (2, .int x2)] → W p l e ({ frames := 0, cells := 0, slots := 0, locals := 0 } : Room) s m ([.ref aR, .int a1] : List Value).toArray below meth c H locs 0 0 (MQ below (mk_QV (dC, dI) vwCl (tyz cI cZ cS) A (fun u : (Nat → Int32) => w_R cI cZ cS aR aRd aRm aRw aRs aRt aRc aRl aRh aRu aRx aRy aRk of op cr wn fp fs dk mm wk sg tb cs lw hg us u sa ky) R) ([.ref aR, .int a1] : List Value).toArray s 0 0 A) (F0 m 2 ls []) := by
  intro n
  induction n with
  | zero =>
    intro x1 x2 de h
    cases h
  | succ n ih =>
    intro x1 x2 de h
    exact b_R_change_2 E hA hK R ih x1 x2 de h
set_option maxHeartbeats 4000000 in
set_option maxRecDepth 100000 in
theorem c_R_change (l : Launch) (dC : Nat → ClassId) (dI : Nat → Nat → Nat) (cI cZ cS : ClassId) (aR aRd aRm aRw aRs aRt aRc aRl aRh aRu aRx aRy aRk : Nat) (of : Int32) (op : Int32) (cr : Int32) (wn : Int32) (fp : Int32) (fs : Int32) (dk : Nat → Int32) (mm : Nat → Int32) (wk : Nat → Int32) (sg : Nat → Int32) (tb : Nat → Int32) (cs : Nat → Int32) (lw : Nat → Int32) (hg : Nat → Int32) (us : Nat → Int32) (de : Nat → Int32) (sa : Nat → Int32) (ky : Nat → Int32) (a1 : Int32) : CtV l yX5_change wsX5_change ({ frames := 0, cells := 0, slots := 0, locals := 0 }) (dC, dI) vwCl (tyz cI cZ cS) [.ref aR, .int a1] (w_R cI cZ cS aR aRd aRm aRw aRs aRt aRc aRl aRh aRu aRx aRy aRk of op cr wn fp fs dk mm wk sg tb cs lw hg us de sa ky) (fun u : (Nat → Int32) => w_R cI cZ cS aR aRd aRm aRw aRs aRt aRc aRl aRh aRu aRx aRy aRk of op cr wn fp fs dk mm wk sg tb cs lw hg us u sa ky) (p_R_change tb de a1) := by
  intro R h
  refine mk_enter (Qc := (fun A => mk_QV (dC, dI) vwCl (tyz cI cZ cS) A (fun u : (Nat → Int32) => w_R cI cZ cS aR aRd aRm aRw aRs aRt aRc aRl aRh aRu aRx aRy aRk of op cr wn fp fs dk mm wk sg tb cs lw hg us u sa ky) R)) (by decide) rfl (Nat.le_of_ble_eq_true rfl) ?_
  intro p e s m below meth c A E hA hK H locs ls hP hD hS hl
  obtain ⟨⟨hx, hb, hml, hown, hts⟩, hrt, hlk, hN⟩ := id E
  have hown : s.vm.findClass RX5 = some m.cls := hown
  have hl : lv_has ls 3 [(0, .ref aR), (1, .int a1)] := hl
  unfold p_R_change at h
  refine lv_iconst (v := 0) hx hb dX5_change_0 (by decide) ?_
  refine lv_istore_n (lv' := [(2, .int 0), (0, .ref aR), (1, .int a1)]) hx hb dX5_change_1 rfl hl (by decide) rfl (fun ls hl => ?_)
  exact l_R_change_2 E hA hK R 1000 a1 0 de h H locs ls hP hD hS (lv_sub hl [1, 2, 0] rfl)

/- Model.clearPage(I)V -/
set_option maxRecDepth 20000 in
theorem mm_R_clearPage_0 : Cond.fieldLink RX5 13 "JournaledTablesModel" "memory" "[I" ∈ wsX5_clearPage := by decide +kernel
set_option maxRecDepth 20000 in
theorem iw_R_clearPage_Model : ∀ w ∈ u_ws RX5 TX5 18, w ∈ wsX5_clearPage := by decide +kernel
set_option maxHeartbeats 4000000 in
set_option maxRecDepth 100000 in
theorem b_R_clearPage_2 {p : Program} {l : Launch} {e : Env} {s : State} {m : MethodId} {below : List Frame} {meth : Method} {c : Code} {A : Nat → Prop} {dC : Nat → ClassId} {dI : Nat → Nat → Nat} {cI cZ cS : ClassId} {aR aRd aRm aRw aRs aRt aRc aRl aRh aRu aRx aRy aRk : Nat} {of : Int32} {op : Int32} {cr : Int32} {wn : Int32} {fp : Int32} {fs : Int32} {dk : Nat → Int32} {wk : Nat → Int32} {sg : Nat → Int32} {tb : Nat → Int32} {cs : Nat → Int32} {lw : Nat → Int32} {hg : Nat → Int32} {us : Nat → Int32} {de : Nat → Int32} {sa : Nat → Int32} {ky : Nat → Int32} {a1 : Int32} (E : mk_En p s m meth c cX5_clearPage 3 none ([.ref aR, .int a1] : List Value).toArray wsX5_clearPage yX5_clearPage.cls) (hA : ∀ q : Nat, s.heap.size ≤ q → A q) (hK : va_K (dC, dI) vwCl (tyz cI cZ cS) s) (R : (Nat → Int32)) {k_2 : Int32 → Int32 → (Nat → Int32) → Option ((Nat → Int32))} (hk_2 : ∀ (x1 : Int32) (x2 : Int32) (mm : Nat → Int32), k_2 x1 x2 mm = some R → ∀ (H : Heap) (locs : List Loc) (ls : Array Slot), va_P (dC, dI) vwCl (w_R cI cZ cS aR aRd aRm aRw aRs aRt aRc aRl aRh aRu aRx aRy aRk of op cr wn fp fs dk mm wk sg tb cs lw hg us de sa ky) H → va_D A (w_R cI cZ cS aR aRd aRm aRw aRs aRt aRc aRl aRh aRu aRx aRy aRk of op cr wn fp fs dk mm wk sg tb cs lw hg us de sa ky) → va_S A s.heap H locs → lv_has ls 3 [(0, .ref aR), (1, .int x1), (2, .int x2)] → W p l e ({ frames := 0, cells := 0, slots := 0, locals := 0 } : Room) s m ([.ref aR, .int a1] : List Value).toArray below meth c H locs 0 0 (MQ below (mk_QV (dC, dI) vwCl (tyz cI cZ cS) A (fun u : (Nat → Int32) => w_R cI cZ cS aR aRd aRm aRw aRs aRt aRc aRl aRh aRu aRx aRy aRk of op cr wn fp fs dk u wk sg tb cs lw hg us de sa ky) R) ([.ref aR, .int a1] : List Value).toArray s 0 0 A) (F0 m 2 ls [])) (x1 : Int32) (x2 : Int32) (mm : Nat → Int32) (h : p_R_clearPage_2 k_2 x1 x2 mm = some R) : ∀ (H : Heap) (locs : List Loc) (ls : Array Slot), va_P (dC, dI) vwCl (w_R cI cZ cS aR aRd aRm aRw aRs aRt aRc aRl aRh aRu aRx aRy aRk of op cr wn fp fs dk mm wk sg tb cs lw hg us de sa ky) H → va_D A (w_R cI cZ cS aR aRd aRm aRw aRs aRt aRc aRl aRh aRu aRx aRy aRk of op cr wn fp fs dk mm wk sg tb cs lw hg us de sa ky) → va_S A s.heap H locs → lv_has ls 3 [(0, .ref aR), (1, .int x1), (2, .int x2)] → W p l e ({ frames := 0, cells := 0, slots := 0, locals := 0 } : Room) s m ([.ref aR, .int a1] : List Value).toArray below meth c H locs 0 0 (MQ below (mk_QV (dC, dI) vwCl (tyz cI cZ cS) A (fun u : (Nat → Int32) => w_R cI cZ cS aR aRd aRm aRw aRs aRt aRc aRl aRh aRu aRx aRy aRk of op cr wn fp fs dk u wk sg tb cs lw hg us de sa ky) R) ([.ref aR, .int a1] : List Value).toArray s 0 0 A) (F0 m 2 ls []) := by
  intro H locs ls hP hD hS hl
  obtain ⟨⟨hx, hb, hml, hown, hts⟩, hrt, hlk, hN⟩ := id E
  have hown : s.vm.findClass RX5 = some m.cls := hown
  unfold p_R_clearPage_2 at h
  refine lv_iload_n hx hb dX5_clearPage_2 rfl (lv_at hl 2 rfl) ?_
  refine lv_bipush (v := 16) hx hb dX5_clearPage_3 (by decide) ?_
  refine lv_icmp_ge (tgt := 26) hx hb dX5_clearPage_5 (by decide) (fun c_1 => ?_) (fun c_1 => ?_)
  · replace h := (kp_if h).1 c_1
    cases h
    exact mk_vret E hK hP hD hS dX5_clearPage_26
  · replace h := (kp_if h).2 c_1
    refine lv_aload_n hx hb dX5_clearPage_8 rfl (lv_at hl 0 rfl) ?_
    refine va_get (D := (dC, dI)) (ci := 5) (v := .ref aRm) (C := RX5) (T := TX5) (N := 18) hx hb hts iw_R_clearPage_Model hown hK hP 0 rfl rfl 1 (by decide) (hts _ mm_R_clearPage_0) (fun _ h9 => h9) rfl dX5_clearPage_9 ?_
    refine lv_bipush (v := 16) hx hb dX5_clearPage_12 (by decide) ?_
    refine lv_iload_n hx hb dX5_clearPage_14 rfl (lv_at hl 1 rfl) ?_
    refine lv_imul hx hb dX5_clearPage_15 ?_
    refine lv_iload_n hx hb dX5_clearPage_16 rfl (lv_at hl 2 rfl) ?_
    refine lv_iadd hx hb dX5_clearPage_17 ?_
    refine lv_iconst (v := 0) hx hb dX5_clearPage_18 (by decide) ?_
    obtain ⟨hc_2, h⟩ := kp_in h
    refine va_iast hx hb hK hP hD hS 2 0 rfl rfl (kx_of hc_2) dX5_clearPage_19 (fun H locs hP hD hS => ?_)
    have hP : va_P (dC, dI) vwCl (w_R cI cZ cS aR aRd aRm aRw aRs aRt aRc aRl aRh aRu aRx aRy aRk of op cr wn fp fs dk (upd mm ((16 * x1) + x2).toNatClampNeg 0) wk sg tb cs lw hg us de sa ky) H := hP
    have hD : va_D A (w_R cI cZ cS aR aRd aRm aRw aRs aRt aRc aRl aRh aRu aRx aRy aRk of op cr wn fp fs dk (upd mm ((16 * x1) + x2).toNatClampNeg 0) wk sg tb cs lw hg us de sa ky) := hD
    refine lv_iinc (v := x2 + 1) (lv' := [(2, .int (x2 + 1)), (0, .ref aR), (1, .int x1)]) hx hb dX5_clearPage_20 hl (k := 2) rfl rfl (by decide) rfl (fun ls hl => ?_)
    refine lv_goto (tgt := 2) hx hb dX5_clearPage_23 (by decide) ?_
    exact hk_2 x1 (x2 + 1) (upd mm ((16 * x1) + x2).toNatClampNeg 0) h H locs ls hP hD hS (lv_sub hl [1, 2, 0] rfl)
set_option maxHeartbeats 4000000 in
set_option maxRecDepth 100000 in
theorem l_R_clearPage_2 {p : Program} {l : Launch} {e : Env} {s : State} {m : MethodId} {below : List Frame} {meth : Method} {c : Code} {A : Nat → Prop} {dC : Nat → ClassId} {dI : Nat → Nat → Nat} {cI cZ cS : ClassId} {aR aRd aRm aRw aRs aRt aRc aRl aRh aRu aRx aRy aRk : Nat} {of : Int32} {op : Int32} {cr : Int32} {wn : Int32} {fp : Int32} {fs : Int32} {dk : Nat → Int32} {wk : Nat → Int32} {sg : Nat → Int32} {tb : Nat → Int32} {cs : Nat → Int32} {lw : Nat → Int32} {hg : Nat → Int32} {us : Nat → Int32} {de : Nat → Int32} {sa : Nat → Int32} {ky : Nat → Int32} {a1 : Int32} (E : mk_En p s m meth c cX5_clearPage 3 none ([.ref aR, .int a1] : List Value).toArray wsX5_clearPage yX5_clearPage.cls) (hA : ∀ q : Nat, s.heap.size ≤ q → A q) (hK : va_K (dC, dI) vwCl (tyz cI cZ cS) s) (R : (Nat → Int32)) : ∀ (n : Nat) (x1 : Int32) (x2 : Int32) (mm : Nat → Int32), pl_R_clearPage_2 n x1 x2 mm = some R → ∀ (H : Heap) (locs : List Loc) (ls : Array Slot), va_P (dC, dI) vwCl (w_R cI cZ cS aR aRd aRm aRw aRs aRt aRc aRl aRh aRu aRx aRy aRk of op cr wn fp fs dk mm wk sg tb cs lw hg us de sa ky) H → va_D A (w_R cI cZ cS aR aRd aRm aRw aRs aRt aRc aRl aRh aRu aRx aRy aRk of op cr wn fp fs dk mm wk sg tb cs lw hg us de sa ky) → va_S A s.heap H locs → lv_has ls 3 [(0, .ref aR), (1, .int x1), (2, .int x2)] → W p l e ({ frames := 0, cells := 0, slots := 0, locals := 0 } : Room) s m ([.ref aR, .int a1] : List Value).toArray below meth c H locs 0 0 (MQ below (mk_QV (dC, dI) vwCl (tyz cI cZ cS) A (fun u : (Nat → Int32) => w_R cI cZ cS aR aRd aRm aRw aRs aRt aRc aRl aRh aRu aRx aRy aRk of op cr wn fp fs dk u wk sg tb cs lw hg us de sa ky) R) ([.ref aR, .int a1] : List Value).toArray s 0 0 A) (F0 m 2 ls []) := by
  intro n
  induction n with
  | zero =>
    intro x1 x2 mm h
    cases h
  | succ n ih =>
    intro x1 x2 mm h
    exact b_R_clearPage_2 E hA hK R ih x1 x2 mm h
set_option maxHeartbeats 4000000 in
set_option maxRecDepth 100000 in
theorem c_R_clearPage (l : Launch) (dC : Nat → ClassId) (dI : Nat → Nat → Nat) (cI cZ cS : ClassId) (aR aRd aRm aRw aRs aRt aRc aRl aRh aRu aRx aRy aRk : Nat) (of : Int32) (op : Int32) (cr : Int32) (wn : Int32) (fp : Int32) (fs : Int32) (dk : Nat → Int32) (mm : Nat → Int32) (wk : Nat → Int32) (sg : Nat → Int32) (tb : Nat → Int32) (cs : Nat → Int32) (lw : Nat → Int32) (hg : Nat → Int32) (us : Nat → Int32) (de : Nat → Int32) (sa : Nat → Int32) (ky : Nat → Int32) (a1 : Int32) : CtV l yX5_clearPage wsX5_clearPage ({ frames := 0, cells := 0, slots := 0, locals := 0 }) (dC, dI) vwCl (tyz cI cZ cS) [.ref aR, .int a1] (w_R cI cZ cS aR aRd aRm aRw aRs aRt aRc aRl aRh aRu aRx aRy aRk of op cr wn fp fs dk mm wk sg tb cs lw hg us de sa ky) (fun u : (Nat → Int32) => w_R cI cZ cS aR aRd aRm aRw aRs aRt aRc aRl aRh aRu aRx aRy aRk of op cr wn fp fs dk u wk sg tb cs lw hg us de sa ky) (p_R_clearPage mm a1) := by
  intro R h
  refine mk_enter (Qc := (fun A => mk_QV (dC, dI) vwCl (tyz cI cZ cS) A (fun u : (Nat → Int32) => w_R cI cZ cS aR aRd aRm aRw aRs aRt aRc aRl aRh aRu aRx aRy aRk of op cr wn fp fs dk u wk sg tb cs lw hg us de sa ky) R)) (by decide) rfl (Nat.le_of_ble_eq_true rfl) ?_
  intro p e s m below meth c A E hA hK H locs ls hP hD hS hl
  obtain ⟨⟨hx, hb, hml, hown, hts⟩, hrt, hlk, hN⟩ := id E
  have hown : s.vm.findClass RX5 = some m.cls := hown
  have hl : lv_has ls 3 [(0, .ref aR), (1, .int a1)] := hl
  unfold p_R_clearPage at h
  refine lv_iconst (v := 0) hx hb dX5_clearPage_0 (by decide) ?_
  refine lv_istore_n (lv' := [(2, .int 0), (0, .ref aR), (1, .int a1)]) hx hb dX5_clearPage_1 rfl hl (by decide) rfl (fun ls hl => ?_)
  exact l_R_clearPage_2 E hA hK R 1000 a1 0 mm h H locs ls hP hD hS (lv_sub hl [1, 2, 0] rfl)

/- Model.wordOf(III)I -/
set_option maxRecDepth 20000 in
theorem mm_R_wordOf_0 : Cond.fieldLink RX5 13 "JournaledTablesModel" "memory" "[I" ∈ wsX5_wordOf := by decide +kernel
set_option maxRecDepth 20000 in
theorem iw_R_wordOf_Model : ∀ w ∈ u_ws RX5 TX5 18, w ∈ wsX5_wordOf := by decide +kernel
set_option maxHeartbeats 4000000 in
set_option maxRecDepth 100000 in
theorem c_R_wordOf (l : Launch) (dC : Nat → ClassId) (dI : Nat → Nat → Nat) (cI cZ cS : ClassId) (aR aRd aRm aRw aRs aRt aRc aRl aRh aRu aRx aRy aRk : Nat) (of : Int32) (op : Int32) (cr : Int32) (wn : Int32) (fp : Int32) (fs : Int32) (dk : Nat → Int32) (mm : Nat → Int32) (wk : Nat → Int32) (sg : Nat → Int32) (tb : Nat → Int32) (cs : Nat → Int32) (lw : Nat → Int32) (hg : Nat → Int32) (us : Nat → Int32) (de : Nat → Int32) (sa : Nat → Int32) (ky : Nat → Int32) (a1 : Int32) (a2 : Int32) (a3 : Int32) : CtR l yX5_wordOf wsX5_wordOf ({ frames := 0, cells := 0, slots := 0, locals := 0 }) (dC, dI) vwCl (tyz cI cZ cS) [.ref aR, .int a1, .int a2, .int a3] (w_R cI cZ cS aR aRd aRm aRw aRs aRt aRc aRl aRh aRu aRx aRy aRk of op cr wn fp fs dk mm wk sg tb cs lw hg us de sa ky) (p_R_wordOf mm a1 a2 a3) := by
  intro R h
  refine mk_enter (Qc := (fun A => mk_QR (dC, dI) vwCl (tyz cI cZ cS) A (w_R cI cZ cS aR aRd aRm aRw aRs aRt aRc aRl aRh aRu aRx aRy aRk of op cr wn fp fs dk mm wk sg tb cs lw hg us de sa ky) R)) (by decide) rfl (Nat.le_of_ble_eq_true rfl) ?_
  intro p e s m below meth c A E hA hK H locs ls hP hD hS hl
  obtain ⟨⟨hx, hb, hml, hown, hts⟩, hrt, hlk, hN⟩ := id E
  have hown : s.vm.findClass RX5 = some m.cls := hown
  have hl : lv_has ls 4 [(0, .ref aR), (1, .int a1), (2, .int a2), (3, .int a3)] := hl
  unfold p_R_wordOf at h
  refine lv_bipush (v := 16) hx hb dX5_wordOf_0 (by decide) ?_
  refine lv_iload_n hx hb dX5_wordOf_2 rfl (lv_at hl 2 rfl) ?_
  refine lv_imul hx hb dX5_wordOf_3 ?_
  refine lv_iconst (v := 3) hx hb dX5_wordOf_4 (by decide) ?_
  refine lv_iadd hx hb dX5_wordOf_5 ?_
  refine lv_aload_n hx hb dX5_wordOf_6 rfl (lv_at hl 0 rfl) ?_
  refine va_get (D := (dC, dI)) (ci := 5) (v := .ref aRm) (C := RX5) (T := TX5) (N := 18) hx hb hts iw_R_wordOf_Model hown hK hP 0 rfl rfl 1 (by decide) (hts _ mm_R_wordOf_0) (fun _ h9 => h9) rfl dX5_wordOf_7 ?_
  refine lv_iload_n hx hb dX5_wordOf_10 rfl (lv_at hl 1 rfl) ?_
  obtain ⟨hc_1, h⟩ := kp_in h
  refine va_iald hx hb hK hP 2 0 rfl rfl (kx_of hc_1) dX5_wordOf_11 ?_
  refine lv_iload_n hx hb dX5_wordOf_12 rfl (lv_at hl 3 rfl) ?_
  refine lv_imul hx hb dX5_wordOf_13 ?_
  refine lv_iadd hx hb dX5_wordOf_14 ?_
  cases h
  exact mk_iretR E hK hP hD hS dX5_wordOf_15

/- Model.filled(II)Z -/
set_option maxRecDepth 20000 in
theorem mm_R_filled_0 : Cond.fieldLink RX5 13 "JournaledTablesModel" "memory" "[I" ∈ wsX5_filled := by decide +kernel
set_option maxRecDepth 20000 in
theorem iw_R_filled_Model : ∀ w ∈ u_ws RX5 TX5 18, w ∈ wsX5_filled := by decide +kernel
set_option maxHeartbeats 4000000 in
set_option maxRecDepth 100000 in
theorem b_R_filled_24 {p : Program} {l : Launch} {e : Env} {s : State} {m : MethodId} {below : List Frame} {meth : Method} {c : Code} {A : Nat → Prop} {dC : Nat → ClassId} {dI : Nat → Nat → Nat} {cI cZ cS : ClassId} {aR aRd aRm aRw aRs aRt aRc aRl aRh aRu aRx aRy aRk : Nat} {of : Int32} {op : Int32} {cr : Int32} {wn : Int32} {fp : Int32} {fs : Int32} {dk : Nat → Int32} {mm : Nat → Int32} {wk : Nat → Int32} {sg : Nat → Int32} {tb : Nat → Int32} {cs : Nat → Int32} {lw : Nat → Int32} {hg : Nat → Int32} {us : Nat → Int32} {de : Nat → Int32} {sa : Nat → Int32} {ky : Nat → Int32} {a1 : Int32} {a2 : Int32} (E : mk_En p s m meth c cX5_filled 3 (some .boolean) ([.ref aR, .int a1, .int a2] : List Value).toArray wsX5_filled yX5_filled.cls) (hA : ∀ q : Nat, s.heap.size ≤ q → A q) (hK : va_K (dC, dI) vwCl (tyz cI cZ cS) s) (R : Int32) (z0 : Int32) (h : p_R_filled_24 mm z0 = some R) : ∀ (H : Heap) (locs : List Loc) (ls : Array Slot), va_P (dC, dI) vwCl (w_R cI cZ cS aR aRd aRm aRw aRs aRt aRc aRl aRh aRu aRx aRy aRk of op cr wn fp fs dk mm wk sg tb cs lw hg us de sa ky) H → va_D A (w_R cI cZ cS aR aRd aRm aRw aRs aRt aRc aRl aRh aRu aRx aRy aRk of op cr wn fp fs dk mm wk sg tb cs lw hg us de sa ky) → va_S A s.heap H locs → lv_has ls 3 [] → W p l e ({ frames := 0, cells := 0, slots := 0, locals := 0 } : Room) s m ([.ref aR, .int a1, .int a2] : List Value).toArray below meth c H locs 0 0 (MQ below (mk_QR (dC, dI) vwCl (tyz cI cZ cS) A (w_R cI cZ cS aR aRd aRm aRw aRs aRt aRc aRl aRh aRu aRx aRy aRk of op cr wn fp fs dk mm wk sg tb cs lw hg us de sa ky) R) ([.ref aR, .int a1, .int a2] : List Value).toArray s 0 0 A) (F0 m 24 ls [.int z0]) := by
  intro H locs ls hP hD hS hl
  obtain ⟨⟨hx, hb, hml, hown, hts⟩, hrt, hlk, hN⟩ := id E
  have hown : s.vm.findClass RX5 = some m.cls := hown
  unfold p_R_filled_24 at h
  obtain ⟨hc_1, h⟩ := kp_in h
  cases h
  exact mk_zretR E hc_1 hK hP hD hS dX5_filled_24
set_option maxHeartbeats 4000000 in
set_option maxRecDepth 100000 in
theorem c_R_filled (l : Launch) (dC : Nat → ClassId) (dI : Nat → Nat → Nat) (cI cZ cS : ClassId) (aR aRd aRm aRw aRs aRt aRc aRl aRh aRu aRx aRy aRk : Nat) (of : Int32) (op : Int32) (cr : Int32) (wn : Int32) (fp : Int32) (fs : Int32) (dk : Nat → Int32) (mm : Nat → Int32) (wk : Nat → Int32) (sg : Nat → Int32) (tb : Nat → Int32) (cs : Nat → Int32) (lw : Nat → Int32) (hg : Nat → Int32) (us : Nat → Int32) (de : Nat → Int32) (sa : Nat → Int32) (ky : Nat → Int32) (a1 : Int32) (a2 : Int32) : CtR l yX5_filled wsX5_filled ({ frames := 0, cells := 0, slots := 0, locals := 0 }) (dC, dI) vwCl (tyz cI cZ cS) [.ref aR, .int a1, .int a2] (w_R cI cZ cS aR aRd aRm aRw aRs aRt aRc aRl aRh aRu aRx aRy aRk of op cr wn fp fs dk mm wk sg tb cs lw hg us de sa ky) (p_R_filled mm a1 a2) := by
  intro R h
  refine mk_enter (Qc := (fun A => mk_QR (dC, dI) vwCl (tyz cI cZ cS) A (w_R cI cZ cS aR aRd aRm aRw aRs aRt aRc aRl aRh aRu aRx aRy aRk of op cr wn fp fs dk mm wk sg tb cs lw hg us de sa ky) R)) (by decide) rfl (Nat.le_of_ble_eq_true rfl) ?_
  intro p e s m below meth c A E hA hK H locs ls hP hD hS hl
  obtain ⟨⟨hx, hb, hml, hown, hts⟩, hrt, hlk, hN⟩ := id E
  have hown : s.vm.findClass RX5 = some m.cls := hown
  have hl : lv_has ls 3 [(0, .ref aR), (1, .int a1), (2, .int a2)] := hl
  unfold p_R_filled at h
  refine lv_aload_n hx hb dX5_filled_0 rfl (lv_at hl 0 rfl) ?_
  refine va_get (D := (dC, dI)) (ci := 5) (v := .ref aRm) (C := RX5) (T := TX5) (N := 18) hx hb hts iw_R_filled_Model hown hK hP 0 rfl rfl 1 (by decide) (hts _ mm_R_filled_0) (fun _ h9 => h9) rfl dX5_filled_1 ?_
  refine lv_bipush (v := 16) hx hb dX5_filled_4 (by decide) ?_
  refine lv_iload_n hx hb dX5_filled_6 rfl (lv_at hl 1 rfl) ?_
  refine lv_imul hx hb dX5_filled_7 ?_
  refine lv_iconst (v := 2) hx hb dX5_filled_8 (by decide) ?_
  refine lv_iadd hx hb dX5_filled_9 ?_
  obtain ⟨hc_2, h⟩ := kp_in h
  refine va_iald hx hb hK hP 2 0 rfl rfl (kx_of hc_2) dX5_filled_10 ?_
  refine lv_iload_n hx hb dX5_filled_11 rfl (lv_at hl 2 rfl) ?_
  refine lv_ishr hx hb dX5_filled_12 ?_
  refine lv_iconst (v := 1) hx hb dX5_filled_13 (by decide) ?_
  refine lv_iand hx hb dX5_filled_14 ?_
  refine lv_iconst (v := 1) hx hb dX5_filled_15 (by decide) ?_
  refine lv_icmp_ne (tgt := 23) hx hb dX5_filled_16 (by decide) (fun c_3 => ?_) (fun c_3 => ?_)
  · replace h := (kp_if h).2 c_3
    refine lv_iconst (v := 0) hx hb dX5_filled_23 (by decide) ?_
    exact b_R_filled_24 E hA hK R 0 h H locs ls hP hD hS (lv_sub hl [] rfl)
  · replace h := (kp_if h).1 c_3
    refine lv_iconst (v := 1) hx hb dX5_filled_19 (by decide) ?_
    refine lv_goto (tgt := 24) hx hb dX5_filled_20 (by decide) ?_
    exact b_R_filled_24 E hA hK R 1 h H locs ls hP hD hS (lv_sub hl [] rfl)

/- Model.seek(II)I -/
set_option maxRecDepth 20000 in
theorem mm_R_seek_0 : Cond.fieldLink RX5 13 "JournaledTablesModel" "memory" "[I" ∈ wsX5_seek := by decide +kernel
set_option maxRecDepth 20000 in
theorem iw_R_seek_Model : ∀ w ∈ u_ws RX5 TX5 18, w ∈ wsX5_seek := by decide +kernel
set_option maxRecDepth 20000 in
theorem mm_R_seek_2 : Cond.fieldLink RX5 114 "JournaledTablesModel" "foundPage" "I" ∈ wsX5_seek := by decide +kernel
set_option maxRecDepth 20000 in
theorem mm_R_seek_3 : Cond.fieldLink RX5 117 "JournaledTablesModel" "foundSlot" "I" ∈ wsX5_seek := by decide +kernel
set_option maxHeartbeats 4000000 in
set_option maxRecDepth 100000 in
theorem b_R_seek_89 {p : Program} {l : Launch} {e : Env} {s : State} {m : MethodId} {below : List Frame} {meth : Method} {c : Code} {A : Nat → Prop} {dC : Nat → ClassId} {dI : Nat → Nat → Nat} {cI cZ cS : ClassId} {aR aRd aRm aRw aRs aRt aRc aRl aRh aRu aRx aRy aRk : Nat} {of : Int32} {op : Int32} {cr : Int32} {wn : Int32} {dk : Nat → Int32} {mm : Nat → Int32} {wk : Nat → Int32} {sg : Nat → Int32} {tb : Nat → Int32} {cs : Nat → Int32} {lw : Nat → Int32} {hg : Nat → Int32} {us : Nat → Int32} {de : Nat → Int32} {sa : Nat → Int32} {ky : Nat → Int32} {a1 : Int32} {a2 : Int32} (E : mk_En p s m meth c cX5_seek 5 (some .int) ([.ref aR, .int a1, .int a2] : List Value).toArray wsX5_seek yX5_seek.cls) (hA : ∀ q : Nat, s.heap.size ≤ q → A q) (hK : va_K (dC, dI) vwCl (tyz cI cZ cS) s) (R : Int32 × Int32 × Int32) {k_2 : Int32 → Int32 → Int32 → Int32 → Int32 → Option (Int32 × Int32 × Int32)} (hk_2 : ∀ (x1 : Int32) (x2 : Int32) (x3 : Int32) (fp : Int32) (fs : Int32), k_2 x1 x2 x3 fp fs = some R → ∀ (H : Heap) (locs : List Loc) (ls : Array Slot), va_P (dC, dI) vwCl (w_R cI cZ cS aR aRd aRm aRw aRs aRt aRc aRl aRh aRu aRx aRy aRk of op cr wn fp fs dk mm wk sg tb cs lw hg us de sa ky) H → va_D A (w_R cI cZ cS aR aRd aRm aRw aRs aRt aRc aRl aRh aRu aRx aRy aRk of op cr wn fp fs dk mm wk sg tb cs lw hg us de sa ky) → va_S A s.heap H locs → lv_has ls 5 [(0, .ref aR), (1, .int x1), (2, .int x2), (3, .int x3)] → W p l e ({ frames := 1, cells := 0, slots := 0, locals := 23 } : Room) s m ([.ref aR, .int a1, .int a2] : List Value).toArray below meth c H locs 0 0 (MQ below (mk_QI (dC, dI) vwCl (tyz cI cZ cS) A (fun u : Int32 × Int32 => w_R cI cZ cS aR aRd aRm aRw aRs aRt aRc aRl aRh aRu aRx aRy aRk of op cr wn u.1 u.2 dk mm wk sg tb cs lw hg us de sa ky) R) ([.ref aR, .int a1, .int a2] : List Value).toArray s 0 0 A) (F0 m 2 ls [])) (x1 : Int32) (x2 : Int32) (x3 : Int32) (fp : Int32) (fs : Int32) (h : p_R_seek_89 mm k_2 x1 x2 x3 fp fs = some R) : ∀ (H : Heap) (locs : List Loc) (ls : Array Slot), va_P (dC, dI) vwCl (w_R cI cZ cS aR aRd aRm aRw aRs aRt aRc aRl aRh aRu aRx aRy aRk of op cr wn fp fs dk mm wk sg tb cs lw hg us de sa ky) H → va_D A (w_R cI cZ cS aR aRd aRm aRw aRs aRt aRc aRl aRh aRu aRx aRy aRk of op cr wn fp fs dk mm wk sg tb cs lw hg us de sa ky) → va_S A s.heap H locs → lv_has ls 5 [(0, .ref aR), (1, .int x1), (2, .int x2), (3, .int x3)] → W p l e ({ frames := 1, cells := 0, slots := 0, locals := 23 } : Room) s m ([.ref aR, .int a1, .int a2] : List Value).toArray below meth c H locs 0 0 (MQ below (mk_QI (dC, dI) vwCl (tyz cI cZ cS) A (fun u : Int32 × Int32 => w_R cI cZ cS aR aRd aRm aRw aRs aRt aRc aRl aRh aRu aRx aRy aRk of op cr wn u.1 u.2 dk mm wk sg tb cs lw hg us de sa ky) R) ([.ref aR, .int a1, .int a2] : List Value).toArray s 0 0 A) (F0 m 89 ls []) := by
  intro H locs ls hP hD hS hl
  obtain ⟨⟨hx, hb, hml, hown, hts⟩, hrt, hlk, hN⟩ := id E
  have hown : s.vm.findClass RX5 = some m.cls := hown
  unfold p_R_seek_89 at h
  refine lv_iinc (v := x3 + 1) (lv' := [(3, .int (x3 + 1)), (0, .ref aR), (1, .int x1), (2, .int x2)]) hx hb dX5_seek_89 hl (k := 3) rfl rfl (by decide) rfl (fun ls hl => ?_)
  refine lv_goto (tgt := 2) hx hb dX5_seek_92 (by decide) ?_
  exact hk_2 x1 x2 (x3 + 1) fp fs h H locs ls hP hD hS (lv_sub hl [1, 2, 3, 0] rfl)
set_option maxHeartbeats 4000000 in
set_option maxRecDepth 100000 in
theorem b_R_seek_83 {p : Program} {l : Launch} {e : Env} {s : State} {m : MethodId} {below : List Frame} {meth : Method} {c : Code} {A : Nat → Prop} {dC : Nat → ClassId} {dI : Nat → Nat → Nat} {cI cZ cS : ClassId} {aR aRd aRm aRw aRs aRt aRc aRl aRh aRu aRx aRy aRk : Nat} {of : Int32} {op : Int32} {cr : Int32} {wn : Int32} {dk : Nat → Int32} {mm : Nat → Int32} {wk : Nat → Int32} {sg : Nat → Int32} {tb : Nat → Int32} {cs : Nat → Int32} {lw : Nat → Int32} {hg : Nat → Int32} {us : Nat → Int32} {de : Nat → Int32} {sa : Nat → Int32} {ky : Nat → Int32} {a1 : Int32} {a2 : Int32} (E : mk_En p s m meth c cX5_seek 5 (some .int) ([.ref aR, .int a1, .int a2] : List Value).toArray wsX5_seek yX5_seek.cls) (hA : ∀ q : Nat, s.heap.size ≤ q → A q) (hK : va_K (dC, dI) vwCl (tyz cI cZ cS) s) (R : Int32 × Int32 × Int32) {k_2 : Int32 → Int32 → Int32 → Int32 → Int32 → Option (Int32 × Int32 × Int32)} (hk_2 : ∀ (x1 : Int32) (x2 : Int32) (x3 : Int32) (fp : Int32) (fs : Int32), k_2 x1 x2 x3 fp fs = some R → ∀ (H : Heap) (locs : List Loc) (ls : Array Slot), va_P (dC, dI) vwCl (w_R cI cZ cS aR aRd aRm aRw aRs aRt aRc aRl aRh aRu aRx aRy aRk of op cr wn fp fs dk mm wk sg tb cs lw hg us de sa ky) H → va_D A (w_R cI cZ cS aR aRd aRm aRw aRs aRt aRc aRl aRh aRu aRx aRy aRk of op cr wn fp fs dk mm wk sg tb cs lw hg us de sa ky) → va_S A s.heap H locs → lv_has ls 5 [(0, .ref aR), (1, .int x1), (2, .int x2), (3, .int x3)] → W p l e ({ frames := 1, cells := 0, slots := 0, locals := 23 } : Room) s m ([.ref aR, .int a1, .int a2] : List Value).toArray below meth c H locs 0 0 (MQ below (mk_QI (dC, dI) vwCl (tyz cI cZ cS) A (fun u : Int32 × Int32 => w_R cI cZ cS aR aRd aRm aRw aRs aRt aRc aRl aRh aRu aRx aRy aRk of op cr wn u.1 u.2 dk mm wk sg tb cs lw hg us de sa ky) R) ([.ref aR, .int a1, .int a2] : List Value).toArray s 0 0 A) (F0 m 2 ls [])) {k_26 : Int32 → Int32 → Int32 → Int32 → Int32 → Int32 → Option (Int32 × Int32 × Int32)} (hk_26 : ∀ (x1 : Int32) (x2 : Int32) (x3 : Int32) (x4 : Int32) (fp : Int32) (fs : Int32), k_26 x1 x2 x3 x4 fp fs = some R → ∀ (H : Heap) (locs : List Loc) (ls : Array Slot), va_P (dC, dI) vwCl (w_R cI cZ cS aR aRd aRm aRw aRs aRt aRc aRl aRh aRu aRx aRy aRk of op cr wn fp fs dk mm wk sg tb cs lw hg us de sa ky) H → va_D A (w_R cI cZ cS aR aRd aRm aRw aRs aRt aRc aRl aRh aRu aRx aRy aRk of op cr wn fp fs dk mm wk sg tb cs lw hg us de sa ky) → va_S A s.heap H locs → lv_has ls 5 [(0, .ref aR), (1, .int x1), (2, .int x2), (3, .int x3), (4, .int x4)] → W p l e ({ frames := 1, cells := 0, slots := 0, locals := 23 } : Room) s m ([.ref aR, .int a1, .int a2] : List Value).toArray below meth c H locs 0 0 (MQ below (mk_QI (dC, dI) vwCl (tyz cI cZ cS) A (fun u : Int32 × Int32 => w_R cI cZ cS aR aRd aRm aRw aRs aRt aRc aRl aRh aRu aRx aRy aRk of op cr wn u.1 u.2 dk mm wk sg tb cs lw hg us de sa ky) R) ([.ref aR, .int a1, .int a2] : List Value).toArray s 0 0 A) (F0 m 26 ls [])) (x1 : Int32) (x2 : Int32) (x3 : Int32) (x4 : Int32) (fp : Int32) (fs : Int32) (h : p_R_seek_83 mm k_2 k_26 x1 x2 x3 x4 fp fs = some R) : ∀ (H : Heap) (locs : List Loc) (ls : Array Slot), va_P (dC, dI) vwCl (w_R cI cZ cS aR aRd aRm aRw aRs aRt aRc aRl aRh aRu aRx aRy aRk of op cr wn fp fs dk mm wk sg tb cs lw hg us de sa ky) H → va_D A (w_R cI cZ cS aR aRd aRm aRw aRs aRt aRc aRl aRh aRu aRx aRy aRk of op cr wn fp fs dk mm wk sg tb cs lw hg us de sa ky) → va_S A s.heap H locs → lv_has ls 5 [(0, .ref aR), (1, .int x1), (2, .int x2), (3, .int x3), (4, .int x4)] → W p l e ({ frames := 1, cells := 0, slots := 0, locals := 23 } : Room) s m ([.ref aR, .int a1, .int a2] : List Value).toArray below meth c H locs 0 0 (MQ below (mk_QI (dC, dI) vwCl (tyz cI cZ cS) A (fun u : Int32 × Int32 => w_R cI cZ cS aR aRd aRm aRw aRs aRt aRc aRl aRh aRu aRx aRy aRk of op cr wn u.1 u.2 dk mm wk sg tb cs lw hg us de sa ky) R) ([.ref aR, .int a1, .int a2] : List Value).toArray s 0 0 A) (F0 m 83 ls []) := by
  intro H locs ls hP hD hS hl
  obtain ⟨⟨hx, hb, hml, hown, hts⟩, hrt, hlk, hN⟩ := id E
  have hown : s.vm.findClass RX5 = some m.cls := hown
  unfold p_R_seek_83 at h
  refine lv_iinc (v := x4 + 1) (lv' := [(4, .int (x4 + 1)), (0, .ref aR), (1, .int x1), (2, .int x2), (3, .int x3)]) hx hb dX5_seek_83 hl (k := 4) rfl rfl (by decide) rfl (fun ls hl => ?_)
  refine lv_goto (tgt := 26) hx hb dX5_seek_86 (by decide) ?_
  exact hk_26 x1 x2 x3 (x4 + 1) fp fs h H locs ls hP hD hS (lv_sub hl [1, 2, 3, 4, 0] rfl)
set_option maxHeartbeats 4000000 in
set_option maxRecDepth 100000 in
theorem b_R_seek_26 {p : Program} {l : Launch} {e : Env} {s : State} {m : MethodId} {below : List Frame} {meth : Method} {c : Code} {A : Nat → Prop} {dC : Nat → ClassId} {dI : Nat → Nat → Nat} {cI cZ cS : ClassId} {aR aRd aRm aRw aRs aRt aRc aRl aRh aRu aRx aRy aRk : Nat} {of : Int32} {op : Int32} {cr : Int32} {wn : Int32} {dk : Nat → Int32} {mm : Nat → Int32} {wk : Nat → Int32} {sg : Nat → Int32} {tb : Nat → Int32} {cs : Nat → Int32} {lw : Nat → Int32} {hg : Nat → Int32} {us : Nat → Int32} {de : Nat → Int32} {sa : Nat → Int32} {ky : Nat → Int32} {a1 : Int32} {a2 : Int32} (E : mk_En p s m meth c cX5_seek 5 (some .int) ([.ref aR, .int a1, .int a2] : List Value).toArray wsX5_seek yX5_seek.cls) (hA : ∀ q : Nat, s.heap.size ≤ q → A q) (hK : va_K (dC, dI) vwCl (tyz cI cZ cS) s) (R : Int32 × Int32 × Int32) {k_2 : Int32 → Int32 → Int32 → Int32 → Int32 → Option (Int32 × Int32 × Int32)} (hk_2 : ∀ (x1 : Int32) (x2 : Int32) (x3 : Int32) (fp : Int32) (fs : Int32), k_2 x1 x2 x3 fp fs = some R → ∀ (H : Heap) (locs : List Loc) (ls : Array Slot), va_P (dC, dI) vwCl (w_R cI cZ cS aR aRd aRm aRw aRs aRt aRc aRl aRh aRu aRx aRy aRk of op cr wn fp fs dk mm wk sg tb cs lw hg us de sa ky) H → va_D A (w_R cI cZ cS aR aRd aRm aRw aRs aRt aRc aRl aRh aRu aRx aRy aRk of op cr wn fp fs dk mm wk sg tb cs lw hg us de sa ky) → va_S A s.heap H locs → lv_has ls 5 [(0, .ref aR), (1, .int x1), (2, .int x2), (3, .int x3)] → W p l e ({ frames := 1, cells := 0, slots := 0, locals := 23 } : Room) s m ([.ref aR, .int a1, .int a2] : List Value).toArray below meth c H locs 0 0 (MQ below (mk_QI (dC, dI) vwCl (tyz cI cZ cS) A (fun u : Int32 × Int32 => w_R cI cZ cS aR aRd aRm aRw aRs aRt aRc aRl aRh aRu aRx aRy aRk of op cr wn u.1 u.2 dk mm wk sg tb cs lw hg us de sa ky) R) ([.ref aR, .int a1, .int a2] : List Value).toArray s 0 0 A) (F0 m 2 ls [])) {k_26 : Int32 → Int32 → Int32 → Int32 → Int32 → Int32 → Option (Int32 × Int32 × Int32)} (hk_26 : ∀ (x1 : Int32) (x2 : Int32) (x3 : Int32) (x4 : Int32) (fp : Int32) (fs : Int32), k_26 x1 x2 x3 x4 fp fs = some R → ∀ (H : Heap) (locs : List Loc) (ls : Array Slot), va_P (dC, dI) vwCl (w_R cI cZ cS aR aRd aRm aRw aRs aRt aRc aRl aRh aRu aRx aRy aRk of op cr wn fp fs dk mm wk sg tb cs lw hg us de sa ky) H → va_D A (w_R cI cZ cS aR aRd aRm aRw aRs aRt aRc aRl aRh aRu aRx aRy aRk of op cr wn fp fs dk mm wk sg tb cs lw hg us de sa ky) → va_S A s.heap H locs → lv_has ls 5 [(0, .ref aR), (1, .int x1), (2, .int x2), (3, .int x3), (4, .int x4)] → W p l e ({ frames := 1, cells := 0, slots := 0, locals := 23 } : Room) s m ([.ref aR, .int a1, .int a2] : List Value).toArray below meth c H locs 0 0 (MQ below (mk_QI (dC, dI) vwCl (tyz cI cZ cS) A (fun u : Int32 × Int32 => w_R cI cZ cS aR aRd aRm aRw aRs aRt aRc aRl aRh aRu aRx aRy aRk of op cr wn u.1 u.2 dk mm wk sg tb cs lw hg us de sa ky) R) ([.ref aR, .int a1, .int a2] : List Value).toArray s 0 0 A) (F0 m 26 ls [])) (x1 : Int32) (x2 : Int32) (x3 : Int32) (x4 : Int32) (fp : Int32) (fs : Int32) (h : p_R_seek_26 mm k_2 k_26 x1 x2 x3 x4 fp fs = some R) : ∀ (H : Heap) (locs : List Loc) (ls : Array Slot), va_P (dC, dI) vwCl (w_R cI cZ cS aR aRd aRm aRw aRs aRt aRc aRl aRh aRu aRx aRy aRk of op cr wn fp fs dk mm wk sg tb cs lw hg us de sa ky) H → va_D A (w_R cI cZ cS aR aRd aRm aRw aRs aRt aRc aRl aRh aRu aRx aRy aRk of op cr wn fp fs dk mm wk sg tb cs lw hg us de sa ky) → va_S A s.heap H locs → lv_has ls 5 [(0, .ref aR), (1, .int x1), (2, .int x2), (3, .int x3), (4, .int x4)] → W p l e ({ frames := 1, cells := 0, slots := 0, locals := 23 } : Room) s m ([.ref aR, .int a1, .int a2] : List Value).toArray below meth c H locs 0 0 (MQ below (mk_QI (dC, dI) vwCl (tyz cI cZ cS) A (fun u : Int32 × Int32 => w_R cI cZ cS aR aRd aRm aRw aRs aRt aRc aRl aRh aRu aRx aRy aRk of op cr wn u.1 u.2 dk mm wk sg tb cs lw hg us de sa ky) R) ([.ref aR, .int a1, .int a2] : List Value).toArray s 0 0 A) (F0 m 26 ls []) := by
  intro H locs ls hP hD hS hl
  obtain ⟨⟨hx, hb, hml, hown, hts⟩, hrt, hlk, hN⟩ := id E
  have hown : s.vm.findClass RX5 = some m.cls := hown
  unfold p_R_seek_26 at h
  refine lv_iload hx hb dX5_seek_26 (lv_at hl 4 rfl) ?_
  refine lv_aload_n hx hb dX5_seek_28 rfl (lv_at hl 0 rfl) ?_
  refine lv_iload_n hx hb dX5_seek_29 rfl (lv_at hl 1 rfl) ?_
  obtain ⟨r_1, hr_1, h⟩ := kp_bind h
  refine mk_contR (w := w_R cI cZ cS aR aRd aRm aRw aRs aRt aRc aRl aRh aRu aRx aRy aRk of op cr wn fp fs dk mm wk sg tb cs lw hg us de sa ky) (w0 := w_R cI cZ cS aR aRd aRm aRw aRs aRt aRc aRl aRh aRu aRx aRy aRk of op cr wn fp fs dk mm wk sg tb cs lw hg us de sa ky) (wr := []) hP hD hS hA [0, 1, 2, 3, 4, 5, 6, 7, 8, 9, 10, 11, 12] [] rfl rfl (by decide) (by decide) [0, 1, 2, 3, 4, 5, 6, 7, 8, 9, 10, 11, 12] rfl (by decide) (va_runV (As := [.int x1]) (rest := [.int x4]) ⟨hx, hb, hml, hown, hts⟩ (c_R_slots l dC dI cI cZ cS aR aRd aRm aRw aRs aRt aRc aRl aRh aRu aRx aRy aRk of op cr wn fp fs dk mm wk sg tb cs lw hg us de sa ky x1 r_1 hr_1 H.size) (cwV 1 hts gX5_seek_X5_slots rfl rfl rfl (by decide +kernel) ⟨Nat.le_of_ble_eq_true rfl, Nat.le_of_ble_eq_true rfl⟩) (mk_preV (w0 := w_R cI cZ cS aR aRd aRm aRw aRs aRt aRc aRl aRh aRu aRx aRy aRk of op cr wn fp fs dk mm wk sg tb cs lw hg us de sa ky) (ci := 5) (q0 := 0) hN hK (mk_pick hP [0, 1, 2, 3, 4, 5, 6, 7, 8, 9, 10, 11, 12] rfl) (hD.sub [0, 1, 2, 3, 4, 5, 6, 7, 8, 9, 10, 11, 12] (by decide) rfl) rfl rfl rfl) rfl rfl hl.1 rfl (lv_room (Nat.le_of_ble_eq_true rfl)) dX5_seek_30 ⟨Nat.zero_le _, Nat.zero_le _⟩) (fun H locs hP hD hS => ?_)
  refine lv_icmp_ge (tgt := 89) hx hb dX5_seek_33 (by decide) (fun c_2 => ?_) (fun c_2 => ?_)
  · replace h := (kp_if h).1 c_2
    exact b_R_seek_89 E hA hK R hk_2 x1 x2 x3 fp fs h H locs ls hP hD hS (lv_sub hl [0, 1, 2, 3] rfl)
  · replace h := (kp_if h).2 c_2
    refine lv_aload_n hx hb dX5_seek_36 rfl (lv_at hl 0 rfl) ?_
    refine lv_iload_n hx hb dX5_seek_37 rfl (lv_at hl 3 rfl) ?_
    refine lv_iload hx hb dX5_seek_38 (lv_at hl 4 rfl) ?_
    obtain ⟨r_3, hr_3, h⟩ := kp_bind h
    refine mk_contR (w := w_R cI cZ cS aR aRd aRm aRw aRs aRt aRc aRl aRh aRu aRx aRy aRk of op cr wn fp fs dk mm wk sg tb cs lw hg us de sa ky) (w0 := w_R cI cZ cS aR aRd aRm aRw aRs aRt aRc aRl aRh aRu aRx aRy aRk of op cr wn fp fs dk mm wk sg tb cs lw hg us de sa ky) (wr := []) hP hD hS hA [0, 1, 2, 3, 4, 5, 6, 7, 8, 9, 10, 11, 12] [] rfl rfl (by decide) (by decide) [0, 1, 2, 3, 4, 5, 6, 7, 8, 9, 10, 11, 12] rfl (by decide) (va_runV (As := [.int x3, .int x4]) (rest := []) ⟨hx, hb, hml, hown, hts⟩ (c_R_filled l dC dI cI cZ cS aR aRd aRm aRw aRs aRt aRc aRl aRh aRu aRx aRy aRk of op cr wn fp fs dk mm wk sg tb cs lw hg us de sa ky x3 x4 r_3 hr_3 H.size) (cwV 2 hts gX5_seek_X5_filled rfl rfl rfl (by decide +kernel) ⟨Nat.le_of_ble_eq_true rfl, Nat.le_of_ble_eq_true rfl⟩) (mk_preV (w0 := w_R cI cZ cS aR aRd aRm aRw aRs aRt aRc aRl aRh aRu aRx aRy aRk of op cr wn fp fs dk mm wk sg tb cs lw hg us de sa ky) (ci := 5) (q0 := 0) hN hK (mk_pick hP [0, 1, 2, 3, 4, 5, 6, 7, 8, 9, 10, 11, 12] rfl) (hD.sub [0, 1, 2, 3, 4, 5, 6, 7, 8, 9, 10, 11, 12] (by decide) rfl) rfl rfl rfl) rfl rfl hl.1 rfl (lv_room (Nat.le_of_ble_eq_true rfl)) dX5_seek_40 ⟨Nat.zero_le _, Nat.zero_le _⟩) (fun H locs hP hD hS => ?_)
    refine lv_if_eq (tgt := 83) hx hb dX5_seek_43 (by decide) (fun c_4 => ?_) (fun c_4 => ?_)
    · replace h := (kp_if h).1 c_4
      exact b_R_seek_83 E hA hK R hk_2 hk_26 x1 x2 x3 x4 fp fs h H locs ls hP hD hS (lv_sub hl [0, 1, 2, 3, 4] rfl)
    · replace h := (kp_if h).2 c_4
      refine lv_aload_n hx hb dX5_seek_46 rfl (lv_at hl 0 rfl) ?_
      refine va_get (D := (dC, dI)) (ci := 5) (v := .ref aRm) (C := RX5) (T := TX5) (N := 18) hx hb hts iw_R_seek_Model hown hK hP 0 rfl rfl 1 (by decide) (hts _ mm_R_seek_0) (fun _ h9 => h9) rfl dX5_seek_47 ?_
      refine lv_aload_n hx hb dX5_seek_50 rfl (lv_at hl 0 rfl) ?_
      refine lv_iload_n hx hb dX5_seek_51 rfl (lv_at hl 1 rfl) ?_
      refine lv_iload_n hx hb dX5_seek_52 rfl (lv_at hl 3 rfl) ?_
      refine lv_iload hx hb dX5_seek_53 (lv_at hl 4 rfl) ?_
      obtain ⟨r_5, hr_5, h⟩ := kp_bind h
      refine mk_contR (w := w_R cI cZ cS aR aRd aRm aRw aRs aRt aRc aRl aRh aRu aRx aRy aRk of op cr wn fp fs dk mm wk sg tb cs lw hg us de sa ky) (w0 := w_R cI cZ cS aR aRd aRm aRw aRs aRt aRc aRl aRh aRu aRx aRy aRk of op cr wn fp fs dk mm wk sg tb cs lw hg us de sa ky) (wr := []) hP hD hS hA [0, 1, 2, 3, 4, 5, 6, 7, 8, 9, 10, 11, 12] [] rfl rfl (by decide) (by decide) [0, 1, 2, 3, 4, 5, 6, 7, 8, 9, 10, 11, 12] rfl (by decide) (va_runV (As := [.int x1, .int x3, .int x4]) (rest := [.ref aRm]) ⟨hx, hb, hml, hown, hts⟩ (c_R_wordOf l dC dI cI cZ cS aR aRd aRm aRw aRs aRt aRc aRl aRh aRu aRx aRy aRk of op cr wn fp fs dk mm wk sg tb cs lw hg us de sa ky x1 x3 x4 r_5 hr_5 H.size) (cwV 3 hts gX5_seek_X5_wordOf rfl rfl rfl (by decide +kernel) ⟨Nat.le_of_ble_eq_true rfl, Nat.le_of_ble_eq_true rfl⟩) (mk_preV (w0 := w_R cI cZ cS aR aRd aRm aRw aRs aRt aRc aRl aRh aRu aRx aRy aRk of op cr wn fp fs dk mm wk sg tb cs lw hg us de sa ky) (ci := 5) (q0 := 0) hN hK (mk_pick hP [0, 1, 2, 3, 4, 5, 6, 7, 8, 9, 10, 11, 12] rfl) (hD.sub [0, 1, 2, 3, 4, 5, 6, 7, 8, 9, 10, 11, 12] (by decide) rfl) rfl rfl rfl) rfl rfl hl.1 rfl (lv_room (Nat.le_of_ble_eq_true rfl)) dX5_seek_55 ⟨Nat.zero_le _, Nat.zero_le _⟩) (fun H locs hP hD hS => ?_)
      obtain ⟨hc_6, h⟩ := kp_in h
      refine va_iald hx hb hK hP 2 0 rfl rfl (kx_of hc_6) dX5_seek_58 ?_
      refine lv_iload_n hx hb dX5_seek_59 rfl (lv_at hl 2 rfl) ?_
      refine lv_icmp_ne (tgt := 83) hx hb dX5_seek_60 (by decide) (fun c_7 => ?_) (fun c_7 => ?_)
      · replace h := (kp_if h).2 c_7
        exact b_R_seek_83 E hA hK R hk_2 hk_26 x1 x2 x3 x4 fp fs h H locs ls hP hD hS (lv_sub hl [0, 1, 2, 3, 4] rfl)
      · replace h := (kp_if h).1 c_7
        refine lv_aload_n hx hb dX5_seek_63 rfl (lv_at hl 0 rfl) ?_
        refine lv_iload_n hx hb dX5_seek_64 rfl (lv_at hl 3 rfl) ?_
        refine va_put (D := (dC, dI)) (ci := 5) (v := .int x3) (ty := .int) (C := RX5) (T := TX5) (N := 18) hx hb hts iw_R_seek_Model tyX5 tyX5_ok nmX5 hown hK hP hD hS 0 rfl rfl 16 (by decide) (hts _ mm_R_seek_2) (fun _ h9 => h9) rfl (by decide +kernel) rfl rfl (Nat.le_of_ble_eq_true rfl) dX5_seek_65 (fun H locs hP hD hS => ?_)
        have hP : va_P (dC, dI) vwCl (w_R cI cZ cS aR aRd aRm aRw aRs aRt aRc aRl aRh aRu aRx aRy aRk of op cr wn x3 fs dk mm wk sg tb cs lw hg us de sa ky) H := hP
        have hD : va_D A (w_R cI cZ cS aR aRd aRm aRw aRs aRt aRc aRl aRh aRu aRx aRy aRk of op cr wn x3 fs dk mm wk sg tb cs lw hg us de sa ky) := hD
        refine lv_aload_n hx hb dX5_seek_68 rfl (lv_at hl 0 rfl) ?_
        refine lv_iload hx hb dX5_seek_69 (lv_at hl 4 rfl) ?_
        refine va_put (D := (dC, dI)) (ci := 5) (v := .int x4) (ty := .int) (C := RX5) (T := TX5) (N := 18) hx hb hts iw_R_seek_Model tyX5 tyX5_ok nmX5 hown hK hP hD hS 0 rfl rfl 17 (by decide) (hts _ mm_R_seek_3) (fun _ h9 => h9) rfl (by decide +kernel) rfl rfl (Nat.le_of_ble_eq_true rfl) dX5_seek_71 (fun H locs hP hD hS => ?_)
        have hP : va_P (dC, dI) vwCl (w_R cI cZ cS aR aRd aRm aRw aRs aRt aRc aRl aRh aRu aRx aRy aRk of op cr wn x3 x4 dk mm wk sg tb cs lw hg us de sa ky) H := hP
        have hD : va_D A (w_R cI cZ cS aR aRd aRm aRw aRs aRt aRc aRl aRh aRu aRx aRy aRk of op cr wn x3 x4 dk mm wk sg tb cs lw hg us de sa ky) := hD
        refine lv_aload_n hx hb dX5_seek_74 rfl (lv_at hl 0 rfl) ?_
        refine lv_iload_n hx hb dX5_seek_75 rfl (lv_at hl 1 rfl) ?_
        refine lv_iload_n hx hb dX5_seek_76 rfl (lv_at hl 3 rfl) ?_
        refine lv_iload hx hb dX5_seek_77 (lv_at hl 4 rfl) ?_
        obtain ⟨r_8, hr_8, h⟩ := kp_bind h
        refine mk_contR (w := w_R cI cZ cS aR aRd aRm aRw aRs aRt aRc aRl aRh aRu aRx aRy aRk of op cr wn x3 x4 dk mm wk sg tb cs lw hg us de sa ky) (w0 := w_R cI cZ cS aR aRd aRm aRw aRs aRt aRc aRl aRh aRu aRx aRy aRk of op cr wn x3 x4 dk mm wk sg tb cs lw hg us de sa ky) (wr := []) hP hD hS hA [0, 1, 2, 3, 4, 5, 6, 7, 8, 9, 10, 11, 12] [] rfl rfl (by decide) (by decide) [0, 1, 2, 3, 4, 5, 6, 7, 8, 9, 10, 11, 12] rfl (by decide) (va_runV (As := [.int x1, .int x3, .int x4]) (rest := []) ⟨hx, hb, hml, hown, hts⟩ (c_R_wordOf l dC dI cI cZ cS aR aRd aRm aRw aRs aRt aRc aRl aRh aRu aRx aRy aRk of op cr wn x3 x4 dk mm wk sg tb cs lw hg us de sa ky x1 x3 x4 r_8 hr_8 H.size) (cwV 3 hts gX5_seek_X5_wordOf rfl rfl rfl (by decide +kernel) ⟨Nat.le_of_ble_eq_true rfl, Nat.le_of_ble_eq_true rfl⟩) (mk_preV (w0 := w_R cI cZ cS aR aRd aRm aRw aRs aRt aRc aRl aRh aRu aRx aRy aRk of op cr wn x3 x4 dk mm wk sg tb cs lw hg us de sa ky) (ci := 5) (q0 := 0) hN hK (mk_pick hP [0, 1, 2, 3, 4, 5, 6, 7, 8, 9, 10, 11, 12] rfl) (hD.sub [0, 1, 2, 3, 4, 5, 6, 7, 8, 9, 10, 11, 12] (by decide) rfl) rfl rfl rfl) rfl rfl hl.1 rfl (lv_room (Nat.le_of_ble_eq_true rfl)) dX5_seek_79 ⟨Nat.zero_le _, Nat.zero_le _⟩) (fun H locs hP hD hS => ?_)
        cases h
        exact mk_iret E hK hP hD hS dX5_seek_82
set_option maxHeartbeats 4000000 in
set_option maxRecDepth 100000 in
theorem l_R_seek_26 {p : Program} {l : Launch} {e : Env} {s : State} {m : MethodId} {below : List Frame} {meth : Method} {c : Code} {A : Nat → Prop} {dC : Nat → ClassId} {dI : Nat → Nat → Nat} {cI cZ cS : ClassId} {aR aRd aRm aRw aRs aRt aRc aRl aRh aRu aRx aRy aRk : Nat} {of : Int32} {op : Int32} {cr : Int32} {wn : Int32} {dk : Nat → Int32} {mm : Nat → Int32} {wk : Nat → Int32} {sg : Nat → Int32} {tb : Nat → Int32} {cs : Nat → Int32} {lw : Nat → Int32} {hg : Nat → Int32} {us : Nat → Int32} {de : Nat → Int32} {sa : Nat → Int32} {ky : Nat → Int32} {a1 : Int32} {a2 : Int32} (E : mk_En p s m meth c cX5_seek 5 (some .int) ([.ref aR, .int a1, .int a2] : List Value).toArray wsX5_seek yX5_seek.cls) (hA : ∀ q : Nat, s.heap.size ≤ q → A q) (hK : va_K (dC, dI) vwCl (tyz cI cZ cS) s) (R : Int32 × Int32 × Int32) {k_2 : Int32 → Int32 → Int32 → Int32 → Int32 → Option (Int32 × Int32 × Int32)} (hk_2 : ∀ (x1 : Int32) (x2 : Int32) (x3 : Int32) (fp : Int32) (fs : Int32), k_2 x1 x2 x3 fp fs = some R → ∀ (H : Heap) (locs : List Loc) (ls : Array Slot), va_P (dC, dI) vwCl (w_R cI cZ cS aR aRd aRm aRw aRs aRt aRc aRl aRh aRu aRx aRy aRk of op cr wn fp fs dk mm wk sg tb cs lw hg us de sa ky) H → va_D A (w_R cI cZ cS aR aRd aRm aRw aRs aRt aRc aRl aRh aRu aRx aRy aRk of op cr wn fp fs dk mm wk sg tb cs lw hg us de sa ky) → va_S A s.heap H locs → lv_has ls 5 [(0, .ref aR), (1, .int x1), (2, .int x2), (3, .int x3)] → W p l e ({ frames := 1, cells := 0, slots := 0, locals := 23 } : Room) s m ([.ref aR, .int a1, .int a2] : List Value).toArray below meth c H locs 0 0 (MQ below (mk_QI (dC, dI) vwCl (tyz cI cZ cS) A (fun u : Int32 × Int32 => w_R cI cZ cS aR aRd aRm aRw aRs aRt aRc aRl aRh aRu aRx aRy aRk of op cr wn u.1 u.2 dk mm wk sg tb cs lw hg us de sa ky) R) ([.ref aR, .int a1, .int a2] : List Value).toArray s 0 0 A) (F0 m 2 ls [])) : ∀ (n : Nat) (x1 : Int32) (x2 : Int32) (x3 : Int32) (x4 : Int32) (fp : Int32) (fs : Int32), pl_R_seek_26 mm k_2 n x1 x2 x3 x4 fp fs = some R → ∀ (H : Heap) (locs : List Loc) (ls : Array Slot), va_P (dC, dI) vwCl (w_R cI cZ cS aR aRd aRm aRw aRs aRt aRc aRl aRh aRu aRx aRy aRk of op cr wn fp fs dk mm wk sg tb cs lw hg us de sa ky) H → va_D A (w_R cI cZ cS aR aRd aRm aRw aRs aRt aRc aRl aRh aRu aRx aRy aRk of op cr wn fp fs dk mm wk sg tb cs lw hg us de sa ky) → va_S A s.heap H locs → lv_has ls 5 [(0, .ref aR), (1, .int x1), (2, .int x2), (3, .int x3), (4, .int x4)] → W p l e ({ frames := 1, cells := 0, slots := 0, locals := 23 } : Room) s m ([.ref aR, .int a1, .int a2] : List Value).toArray below meth c H locs 0 0 (MQ below (mk_QI (dC, dI) vwCl (tyz cI cZ cS) A (fun u : Int32 × Int32 => w_R cI cZ cS aR aRd aRm aRw aRs aRt aRc aRl aRh aRu aRx aRy aRk of op cr wn u.1 u.2 dk mm wk sg tb cs lw hg us de sa ky) R) ([.ref aR, .int a1, .int a2] : List Value).toArray s 0 0 A) (F0 m 26 ls []) := by
  intro n
  induction n with
  | zero =>
    intro x1 x2 x3 x4 fp fs h
    cases h
  | succ n ih =>
    intro x1 x2 x3 x4 fp fs h
    exact b_R_seek_26 E hA hK R hk_2 ih x1 x2 x3 x4 fp fs h
set_option maxHeartbeats 4000000 in
set_option maxRecDepth 100000 in
theorem b_R_seek_2 {p : Program} {l : Launch} {e : Env} {s : State} {m : MethodId} {below : List Frame} {meth : Method} {c : Code} {A : Nat → Prop} {dC : Nat → ClassId} {dI : Nat → Nat → Nat} {cI cZ cS : ClassId} {aR aRd aRm aRw aRs aRt aRc aRl aRh aRu aRx aRy aRk : Nat} {of : Int32} {op : Int32} {cr : Int32} {wn : Int32} {dk : Nat → Int32} {mm : Nat → Int32} {wk : Nat → Int32} {sg : Nat → Int32} {tb : Nat → Int32} {cs : Nat → Int32} {lw : Nat → Int32} {hg : Nat → Int32} {us : Nat → Int32} {de : Nat → Int32} {sa : Nat → Int32} {ky : Nat → Int32} {a1 : Int32} {a2 : Int32} (E : mk_En p s m meth c cX5_seek 5 (some .int) ([.ref aR, .int a1, .int a2] : List Value).toArray wsX5_seek yX5_seek.cls) (hA : ∀ q : Nat, s.heap.size ≤ q → A q) (hK : va_K (dC, dI) vwCl (tyz cI cZ cS) s) (R : Int32 × Int32 × Int32) {k_2 : Int32 → Int32 → Int32 → Int32 → Int32 → Option (Int32 × Int32 × Int32)} (hk_2 : ∀ (x1 : Int32) (x2 : Int32) (x3 : Int32) (fp : Int32) (fs : Int32), k_2 x1 x2 x3 fp fs = some R → ∀ (H : Heap) (locs : List Loc) (ls : Array Slot), va_P (dC, dI) vwCl (w_R cI cZ cS aR aRd aRm aRw aRs aRt aRc aRl aRh aRu aRx aRy aRk of op cr wn fp fs dk mm wk sg tb cs lw hg us de sa ky) H → va_D A (w_R cI cZ cS aR aRd aRm aRw aRs aRt aRc aRl aRh aRu aRx aRy aRk of op cr wn fp fs dk mm wk sg tb cs lw hg us de sa ky) → va_S A s.heap H locs → lv_has ls 5 [(0, .ref aR), (1, .int x1), (2, .int x2), (3, .int x3)] → W p l e ({ frames := 1, cells := 0, slots := 0, locals := 23 } : Room) s m ([.ref aR, .int a1, .int a2] : List Value).toArray below meth c H locs 0 0 (MQ below (mk_QI (dC, dI) vwCl (tyz cI cZ cS) A (fun u : Int32 × Int32 => w_R cI cZ cS aR aRd aRm aRw aRs aRt aRc aRl aRh aRu aRx aRy aRk of op cr wn u.1 u.2 dk mm wk sg tb cs lw hg us de sa ky) R) ([.ref aR, .int a1, .int a2] : List Value).toArray s 0 0 A) (F0 m 2 ls [])) (x1 : Int32) (x2 : Int32) (x3 : Int32) (fp : Int32) (fs : Int32) (h : p_R_seek_2 mm k_2 x1 x2 x3 fp fs = some R) : ∀ (H : Heap) (locs : List Loc) (ls : Array Slot), va_P (dC, dI) vwCl (w_R cI cZ cS aR aRd aRm aRw aRs aRt aRc aRl aRh aRu aRx aRy aRk of op cr wn fp fs dk mm wk sg tb cs lw hg us de sa ky) H → va_D A (w_R cI cZ cS aR aRd aRm aRw aRs aRt aRc aRl aRh aRu aRx aRy aRk of op cr wn fp fs dk mm wk sg tb cs lw hg us de sa ky) → va_S A s.heap H locs → lv_has ls 5 [(0, .ref aR), (1, .int x1), (2, .int x2), (3, .int x3)] → W p l e ({ frames := 1, cells := 0, slots := 0, locals := 23 } : Room) s m ([.ref aR, .int a1, .int a2] : List Value).toArray below meth c H locs 0 0 (MQ below (mk_QI (dC, dI) vwCl (tyz cI cZ cS) A (fun u : Int32 × Int32 => w_R cI cZ cS aR aRd aRm aRw aRs aRt aRc aRl aRh aRu aRx aRy aRk of op cr wn u.1 u.2 dk mm wk sg tb cs lw hg us de sa ky) R) ([.ref aR, .int a1, .int a2] : List Value).toArray s 0 0 A) (F0 m 2 ls []) := by
  intro H locs ls hP hD hS hl
  obtain ⟨⟨hx, hb, hml, hown, hts⟩, hrt, hlk, hN⟩ := id E
  have hown : s.vm.findClass RX5 = some m.cls := hown
  unfold p_R_seek_2 at h
  refine lv_iload_n hx hb dX5_seek_2 rfl (lv_at hl 3 rfl) ?_
  refine lv_bipush (v := 16) hx hb dX5_seek_3 (by decide) ?_
  refine lv_icmp_ge (tgt := 95) hx hb dX5_seek_5 (by decide) (fun c_9 => ?_) (fun c_9 => ?_)
  · replace h := (kp_if h).1 c_9
    refine lv_iconst (v := (-1)) hx hb dX5_seek_95 (by decide) ?_
    cases h
    exact mk_iret E hK hP hD hS dX5_seek_96
  · replace h := (kp_if h).2 c_9
    refine lv_aload_n hx hb dX5_seek_8 rfl (lv_at hl 0 rfl) ?_
    refine va_get (D := (dC, dI)) (ci := 5) (v := .ref aRm) (C := RX5) (T := TX5) (N := 18) hx hb hts iw_R_seek_Model hown hK hP 0 rfl rfl 1 (by decide) (hts _ mm_R_seek_0) (fun _ h9 => h9) rfl dX5_seek_9 ?_
    refine lv_bipush (v := 16) hx hb dX5_seek_12 (by decide) ?_
    refine lv_iload_n hx hb dX5_seek_14 rfl (lv_at hl 3 rfl) ?_
    refine lv_imul hx hb dX5_seek_15 ?_
    obtain ⟨hc_10, h⟩ := kp_in h
    refine va_iald hx hb hK hP 2 0 rfl rfl (kx_of hc_10) dX5_seek_16 ?_
    refine lv_iload_n hx hb dX5_seek_17 rfl (lv_at hl 1 rfl) ?_
    refine lv_iconst (v := 1) hx hb dX5_seek_18 (by decide) ?_
    refine lv_iadd hx hb dX5_seek_19 ?_
    refine lv_icmp_ne (tgt := 89) hx hb dX5_seek_20 (by decide) (fun c_11 => ?_) (fun c_11 => ?_)
    · replace h := (kp_if h).2 c_11
      exact b_R_seek_89 E hA hK R hk_2 x1 x2 x3 fp fs h H locs ls hP hD hS (lv_sub hl [0, 1, 2, 3] rfl)
    · replace h := (kp_if h).1 c_11
      refine lv_iconst (v := 0) hx hb dX5_seek_23 (by decide) ?_
      refine lv_istore (lv' := [(4, .int 0), (0, .ref aR), (1, .int x1), (2, .int x2), (3, .int x3)]) hx hb dX5_seek_24 hl (by decide) rfl (fun ls hl => ?_)
      exact l_R_seek_26 E hA hK R hk_2 1000 x1 x2 x3 0 fp fs h H locs ls hP hD hS (lv_sub hl [1, 2, 3, 4, 0] rfl)
set_option maxHeartbeats 4000000 in
set_option maxRecDepth 100000 in
theorem l_R_seek_2 {p : Program} {l : Launch} {e : Env} {s : State} {m : MethodId} {below : List Frame} {meth : Method} {c : Code} {A : Nat → Prop} {dC : Nat → ClassId} {dI : Nat → Nat → Nat} {cI cZ cS : ClassId} {aR aRd aRm aRw aRs aRt aRc aRl aRh aRu aRx aRy aRk : Nat} {of : Int32} {op : Int32} {cr : Int32} {wn : Int32} {dk : Nat → Int32} {mm : Nat → Int32} {wk : Nat → Int32} {sg : Nat → Int32} {tb : Nat → Int32} {cs : Nat → Int32} {lw : Nat → Int32} {hg : Nat → Int32} {us : Nat → Int32} {de : Nat → Int32} {sa : Nat → Int32} {ky : Nat → Int32} {a1 : Int32} {a2 : Int32} (E : mk_En p s m meth c cX5_seek 5 (some .int) ([.ref aR, .int a1, .int a2] : List Value).toArray wsX5_seek yX5_seek.cls) (hA : ∀ q : Nat, s.heap.size ≤ q → A q) (hK : va_K (dC, dI) vwCl (tyz cI cZ cS) s) (R : Int32 × Int32 × Int32) : ∀ (n : Nat) (x1 : Int32) (x2 : Int32) (x3 : Int32) (fp : Int32) (fs : Int32), pl_R_seek_2 mm n x1 x2 x3 fp fs = some R → ∀ (H : Heap) (locs : List Loc) (ls : Array Slot), va_P (dC, dI) vwCl (w_R cI cZ cS aR aRd aRm aRw aRs aRt aRc aRl aRh aRu aRx aRy aRk of op cr wn fp fs dk mm wk sg tb cs lw hg us de sa ky) H → va_D A (w_R cI cZ cS aR aRd aRm aRw aRs aRt aRc aRl aRh aRu aRx aRy aRk of op cr wn fp fs dk mm wk sg tb cs lw hg us de sa ky) → va_S A s.heap H locs → lv_has ls 5 [(0, .ref aR), (1, .int x1), (2, .int x2), (3, .int x3)] → W p l e ({ frames := 1, cells := 0, slots := 0, locals := 23 } : Room) s m ([.ref aR, .int a1, .int a2] : List Value).toArray below meth c H locs 0 0 (MQ below (mk_QI (dC, dI) vwCl (tyz cI cZ cS) A (fun u : Int32 × Int32 => w_R cI cZ cS aR aRd aRm aRw aRs aRt aRc aRl aRh aRu aRx aRy aRk of op cr wn u.1 u.2 dk mm wk sg tb cs lw hg us de sa ky) R) ([.ref aR, .int a1, .int a2] : List Value).toArray s 0 0 A) (F0 m 2 ls []) := by
  intro n
  induction n with
  | zero =>
    intro x1 x2 x3 fp fs h
    cases h
  | succ n ih =>
    intro x1 x2 x3 fp fs h
    exact b_R_seek_2 E hA hK R ih x1 x2 x3 fp fs h
set_option maxHeartbeats 4000000 in
set_option maxRecDepth 100000 in
theorem c_R_seek (l : Launch) (dC : Nat → ClassId) (dI : Nat → Nat → Nat) (cI cZ cS : ClassId) (aR aRd aRm aRw aRs aRt aRc aRl aRh aRu aRx aRy aRk : Nat) (of : Int32) (op : Int32) (cr : Int32) (wn : Int32) (fp : Int32) (fs : Int32) (dk : Nat → Int32) (mm : Nat → Int32) (wk : Nat → Int32) (sg : Nat → Int32) (tb : Nat → Int32) (cs : Nat → Int32) (lw : Nat → Int32) (hg : Nat → Int32) (us : Nat → Int32) (de : Nat → Int32) (sa : Nat → Int32) (ky : Nat → Int32) (a1 : Int32) (a2 : Int32) : CtI l yX5_seek wsX5_seek ({ frames := 1, cells := 0, slots := 0, locals := 23 }) (dC, dI) vwCl (tyz cI cZ cS) [.ref aR, .int a1, .int a2] (w_R cI cZ cS aR aRd aRm aRw aRs aRt aRc aRl aRh aRu aRx aRy aRk of op cr wn fp fs dk mm wk sg tb cs lw hg us de sa ky) (fun u : Int32 × Int32 => w_R cI cZ cS aR aRd aRm aRw aRs aRt aRc aRl aRh aRu aRx aRy aRk of op cr wn u.1 u.2 dk mm wk sg tb cs lw hg us de sa ky) (p_R_seek fp fs mm a1 a2) := by
  intro R h
  refine mk_enter (Qc := (fun A => mk_QI (dC, dI) vwCl (tyz cI cZ cS) A (fun u : Int32 × Int32 => w_R cI cZ cS aR aRd aRm aRw aRs aRt aRc aRl aRh aRu aRx aRy aRk of op cr wn u.1 u.2 dk mm wk sg tb cs lw hg us de sa ky) R)) (by decide) rfl (Nat.le_of_ble_eq_true rfl) ?_
  intro p e s m below meth c A E hA hK H locs ls hP hD hS hl
  obtain ⟨⟨hx, hb, hml, hown, hts⟩, hrt, hlk, hN⟩ := id E
  have hown : s.vm.findClass RX5 = some m.cls := hown
  have hl : lv_has ls 5 [(0, .ref aR), (1, .int a1), (2, .int a2)] := hl
  unfold p_R_seek at h
  refine lv_iconst (v := 1) hx hb dX5_seek_0 (by decide) ?_
  refine lv_istore_n (lv' := [(3, .int 1), (0, .ref aR), (1, .int a1), (2, .int a2)]) hx hb dX5_seek_1 rfl hl (by decide) rfl (fun ls hl => ?_)
  exact l_R_seek_2 E hA hK R 1000 a1 a2 1 fp fs h H locs ls hP hD hS (lv_sub hl [1, 2, 3, 0] rfl)

/- Model.leads(II)I -/
set_option maxRecDepth 20000 in
theorem mm_R_leads_0 : Cond.fieldLink RX5 13 "JournaledTablesModel" "memory" "[I" ∈ wsX5_leads := by decide +kernel
set_option maxRecDepth 20000 in
theorem iw_R_leads_Model : ∀ w ∈ u_ws RX5 TX5 18, w ∈ wsX5_leads := by decide +kernel
set_option maxHeartbeats 4000000 in
set_option maxRecDepth 100000 in
theorem b_R_leads_5 {p : Program} {l : Launch} {e : Env} {s : State} {m : MethodId} {below : List Frame} {meth : Method} {c : Code} {A : Nat → Prop} {dC : Nat → ClassId} {dI : Nat → Nat → Nat} {cI cZ cS : ClassId} {aR aRd aRm aRw aRs aRt aRc aRl aRh aRu aRx aRy aRk : Nat} {of : Int32} {op : Int32} {cr : Int32} {wn : Int32} {fp : Int32} {fs : Int32} {dk : Nat → Int32} {mm : Nat → Int32} {wk : Nat → Int32} {sg : Nat → Int32} {tb : Nat → Int32} {cs : Nat → Int32} {lw : Nat → Int32} {hg : Nat → Int32} {us : Nat → Int32} {de : Nat → Int32} {sa : Nat → Int32} {ky : Nat → Int32} {a1 : Int32} {a2 : Int32} (E : mk_En p s m meth c cX5_leads 4 (some .int) ([.ref aR, .int a1, .int a2] : List Value).toArray wsX5_leads yX5_leads.cls) (hA : ∀ q : Nat, s.heap.size ≤ q → A q) (hK : va_K (dC, dI) vwCl (tyz cI cZ cS) s) (R : Int32) {k_5 : Int32 → Int32 → Option Int32} (hk_5 : ∀ (x2 : Int32) (x3 : Int32), k_5 x2 x3 = some R → ∀ (H : Heap) (locs : List Loc) (ls : Array Slot), va_P (dC, dI) vwCl (w_R cI cZ cS aR aRd aRm aRw aRs aRt aRc aRl aRh aRu aRx aRy aRk of op cr wn fp fs dk mm wk sg tb cs lw hg us de sa ky) H → va_D A (w_R cI cZ cS aR aRd aRm aRw aRs aRt aRc aRl aRh aRu aRx aRy aRk of op cr wn fp fs dk mm wk sg tb cs lw hg us de sa ky) → va_S A s.heap H locs → lv_has ls 4 [(0, .ref aR), (2, .int x2), (3, .int x3)] → W p l e ({ frames := 0, cells := 0, slots := 0, locals := 0 } : Room) s m ([.ref aR, .int a1, .int a2] : List Value).toArray below meth c H locs 0 0 (MQ below (mk_QR (dC, dI) vwCl (tyz cI cZ cS) A (w_R cI cZ cS aR aRd aRm aRw aRs aRt aRc aRl aRh aRu aRx aRy aRk of op cr wn fp fs dk mm wk sg tb cs lw hg us de sa ky) R) ([.ref aR, .int a1, .int a2] : List Value).toArray s 0 0 A) (F0 m 5 ls [])) (x2 : Int32) (x3 : Int32) (h : p_R_leads_5 mm k_5 x2 x3 = some R) : ∀ (H : Heap) (locs : List Loc) (ls : Array Slot), va_P (dC, dI) vwCl (w_R cI cZ cS aR aRd aRm aRw aRs aRt aRc aRl aRh aRu aRx aRy aRk of op cr wn fp fs dk mm wk sg tb cs lw hg us de sa ky) H → va_D A (w_R cI cZ cS aR aRd aRm aRw aRs aRt aRc aRl aRh aRu aRx aRy aRk of op cr wn fp fs dk mm wk sg tb cs lw hg us de sa ky) → va_S A s.heap H locs → lv_has ls 4 [(0, .ref aR), (2, .int x2), (3, .int x3)] → W p l e ({ frames := 0, cells := 0, slots := 0, locals := 0 } : Room) s m ([.ref aR, .int a1, .int a2] : List Value).toArray below meth c H locs 0 0 (MQ below (mk_QR (dC, dI) vwCl (tyz cI cZ cS) A (w_R cI cZ cS aR aRd aRm aRw aRs aRt aRc aRl aRh aRu aRx aRy aRk of op cr wn fp fs dk mm wk sg tb cs lw hg us de sa ky) R) ([.ref aR, .int a1, .int a2] : List Value).toArray s 0 0 A) (F0 m 5 ls []) := by
  intro H locs ls hP hD hS hl
  obtain ⟨⟨hx, hb, hml, hown, hts⟩, hrt, hlk, hN⟩ := id E
  have hown : s.vm.findClass RX5 = some m.cls := hown
  unfold p_R_leads_5 at h
  refine lv_aload_n hx hb dX5_leads_5 rfl (lv_at hl 0 rfl) ?_
  refine va_get (D := (dC, dI)) (ci := 5) (v := .ref aRm) (C := RX5) (T := TX5) (N := 18) hx hb hts iw_R_leads_Model hown hK hP 0 rfl rfl 1 (by decide) (hts _ mm_R_leads_0) (fun _ h9 => h9) rfl dX5_leads_6 ?_
  refine lv_iload_n hx hb dX5_leads_9 rfl (lv_at hl 2 rfl) ?_
  obtain ⟨hc_1, h⟩ := kp_in h
  refine va_iald hx hb hK hP 2 0 rfl rfl (kx_of hc_1) dX5_leads_10 ?_
  refine lv_iload_n hx hb dX5_leads_11 rfl (lv_at hl 1 rfl) ?_
  refine lv_icmp_eq (tgt := 30) hx hb dX5_leads_12 (by decide) (fun c_2 => ?_) (fun c_2 => ?_)
  · replace h := (kp_if h).1 c_2
    refine lv_iload_n hx hb dX5_leads_30 rfl (lv_at hl 2 rfl) ?_
    cases h
    exact mk_iretR E hK hP hD hS dX5_leads_31
  · replace h := (kp_if h).2 c_2
    refine lv_bipush (v := 16) hx hb dX5_leads_15 (by decide) ?_
    refine lv_aload_n hx hb dX5_leads_17 rfl (lv_at hl 0 rfl) ?_
    refine va_get (D := (dC, dI)) (ci := 5) (v := .ref aRm) (C := RX5) (T := TX5) (N := 18) hx hb hts iw_R_leads_Model hown hK hP 0 rfl rfl 1 (by decide) (hts _ mm_R_leads_0) (fun _ h9 => h9) rfl dX5_leads_18 ?_
    refine lv_iload_n hx hb dX5_leads_21 rfl (lv_at hl 2 rfl) ?_
    obtain ⟨hc_3, h⟩ := kp_in h
    refine va_iald hx hb hK hP 2 0 rfl rfl (kx_of hc_3) dX5_leads_22 ?_
    refine lv_imul hx hb dX5_leads_23 ?_
    refine lv_iconst (v := 1) hx hb dX5_leads_24 (by decide) ?_
    refine lv_iadd hx hb dX5_leads_25 ?_
    refine lv_topi (fun v_4 ev_4 => ?_)
    replace h := kp_kl h v_4 ev_4
    refine lv_istore_n (lv' := [(3, .int v_4), (0, .ref aR), (2, .int x2)]) hx hb dX5_leads_26 rfl hl (by decide) rfl (fun ls hl => ?_)
    refine lv_goto (tgt := 5) hx hb dX5_leads_27 (by decide) ?_
    exact hk_5 x2 v_4 h H locs ls hP hD hS (lv_sub hl [1, 2, 0] rfl)
set_option maxHeartbeats 4000000 in
set_option maxRecDepth 100000 in
theorem l_R_leads_5 {p : Program} {l : Launch} {e : Env} {s : State} {m : MethodId} {below : List Frame} {meth : Method} {c : Code} {A : Nat → Prop} {dC : Nat → ClassId} {dI : Nat → Nat → Nat} {cI cZ cS : ClassId} {aR aRd aRm aRw aRs aRt aRc aRl aRh aRu aRx aRy aRk : Nat} {of : Int32} {op : Int32} {cr : Int32} {wn : Int32} {fp : Int32} {fs : Int32} {dk : Nat → Int32} {mm : Nat → Int32} {wk : Nat → Int32} {sg : Nat → Int32} {tb : Nat → Int32} {cs : Nat → Int32} {lw : Nat → Int32} {hg : Nat → Int32} {us : Nat → Int32} {de : Nat → Int32} {sa : Nat → Int32} {ky : Nat → Int32} {a1 : Int32} {a2 : Int32} (E : mk_En p s m meth c cX5_leads 4 (some .int) ([.ref aR, .int a1, .int a2] : List Value).toArray wsX5_leads yX5_leads.cls) (hA : ∀ q : Nat, s.heap.size ≤ q → A q) (hK : va_K (dC, dI) vwCl (tyz cI cZ cS) s) (R : Int32) : ∀ (n : Nat) (x2 : Int32) (x3 : Int32), pl_R_leads_5 mm n x2 x3 = some R → ∀ (H : Heap) (locs : List Loc) (ls : Array Slot), va_P (dC, dI) vwCl (w_R cI cZ cS aR aRd aRm aRw aRs aRt aRc aRl aRh aRu aRx aRy aRk of op cr wn fp fs dk mm wk sg tb cs lw hg us de sa ky) H → va_D A (w_R cI cZ cS aR aRd aRm aRw aRs aRt aRc aRl aRh aRu aRx aRy aRk of op cr wn fp fs dk mm wk sg tb cs lw hg us de sa ky) → va_S A s.heap H locs → lv_has ls 4 [(0, .ref aR), (2, .int x2), (3, .int x3)] → W p l e ({ frames := 0, cells := 0, slots := 0, locals := 0 } : Room) s m ([.ref aR, .int a1, .int a2] : List Value).toArray below meth c H locs 0 0 (MQ below (mk_QR (dC, dI) vwCl (tyz cI cZ cS) A (w_R cI cZ cS aR aRd aRm aRw aRs aRt aRc aRl aRh aRu aRx aRy aRk of op cr wn fp fs dk mm wk sg tb cs lw hg us de sa ky) R) ([.ref aR, .int a1, .int a2] : List Value).toArray s 0 0 A) (F0 m 5 ls []) := by
  intro n
  induction n with
  | zero =>
    intro x2 x3 h
    cases h
  | succ n ih =>
    intro x2 x3 h
    exact b_R_leads_5 E hA hK R ih x2 x3 h
set_option maxHeartbeats 4000000 in
set_option maxRecDepth 100000 in
theorem c_R_leads (l : Launch) (dC : Nat → ClassId) (dI : Nat → Nat → Nat) (cI cZ cS : ClassId) (aR aRd aRm aRw aRs aRt aRc aRl aRh aRu aRx aRy aRk : Nat) (of : Int32) (op : Int32) (cr : Int32) (wn : Int32) (fp : Int32) (fs : Int32) (dk : Nat → Int32) (mm : Nat → Int32) (wk : Nat → Int32) (sg : Nat → Int32) (tb : Nat → Int32) (cs : Nat → Int32) (lw : Nat → Int32) (hg : Nat → Int32) (us : Nat → Int32) (de : Nat → Int32) (sa : Nat → Int32) (ky : Nat → Int32) (a1 : Int32) (a2 : Int32) : CtR l yX5_leads wsX5_leads ({ frames := 0, cells := 0, slots := 0, locals := 0 }) (dC, dI) vwCl (tyz cI cZ cS) [.ref aR, .int a1, .int a2] (w_R cI cZ cS aR aRd aRm aRw aRs aRt aRc aRl aRh aRu aRx aRy aRk of op cr wn fp fs dk mm wk sg tb cs lw hg us de sa ky) (p_R_leads mm a1 a2) := by
  intro R h
  refine mk_enter (Qc := (fun A => mk_QR (dC, dI) vwCl (tyz cI cZ cS) A (w_R cI cZ cS aR aRd aRm aRw aRs aRt aRc aRl aRh aRu aRx aRy aRk of op cr wn fp fs dk mm wk sg tb cs lw hg us de sa ky) R)) (by decide) rfl (Nat.le_of_ble_eq_true rfl) ?_
  intro p e s m below meth c A E hA hK H locs ls hP hD hS hl
  obtain ⟨⟨hx, hb, hml, hown, hts⟩, hrt, hlk, hN⟩ := id E
  have hown : s.vm.findClass RX5 = some m.cls := hown
  have hl : lv_has ls 4 [(0, .ref aR), (1, .int a1), (2, .int a2)] := hl
  unfold p_R_leads at h
  refine lv_bipush (v := 8) hx hb dX5_leads_0 (by decide) ?_
  refine lv_iload_n hx hb dX5_leads_2 rfl (lv_at hl 1 rfl) ?_
  refine lv_iadd hx hb dX5_leads_3 ?_
  refine lv_topi (fun v_5 ev_5 => ?_)
  replace h := kp_kl h v_5 ev_5
  refine lv_istore_n (lv' := [(3, .int v_5), (0, .ref aR), (1, .int a1), (2, .int a2)]) hx hb dX5_leads_4 rfl hl (by decide) rfl (fun ls hl => ?_)
  exact l_R_leads_5 E hA hK R 1000 a2 v_5 h H locs ls hP hD hS (lv_sub hl [1, 3, 0] rfl)

/- Model.lay(III)V -/
set_option maxRecDepth 20000 in
theorem mm_R_lay_0 : Cond.fieldLink RX5 13 "JournaledTablesModel" "memory" "[I" ∈ wsX5_lay := by decide +kernel
set_option maxRecDepth 20000 in
theorem iw_R_lay_Model : ∀ w ∈ u_ws RX5 TX5 18, w ∈ wsX5_lay := by decide +kernel
set_option maxRecDepth 20000 in
theorem mm_R_lay_2 : Cond.fieldLink RX5 19 "JournaledTablesModel" "staged" "[I" ∈ wsX5_lay := by decide +kernel
set_option maxHeartbeats 4000000 in
set_option maxRecDepth 100000 in
theorem b_R_lay_29 {p : Program} {l : Launch} {e : Env} {s : State} {m : MethodId} {below : List Frame} {meth : Method} {c : Code} {A : Nat → Prop} {dC : Nat → ClassId} {dI : Nat → Nat → Nat} {cI cZ cS : ClassId} {aR aRd aRm aRw aRs aRt aRc aRl aRh aRu aRx aRy aRk : Nat} {of : Int32} {op : Int32} {cr : Int32} {wn : Int32} {fp : Int32} {fs : Int32} {dk : Nat → Int32} {wk : Nat → Int32} {sg : Nat → Int32} {tb : Nat → Int32} {cs : Nat → Int32} {lw : Nat → Int32} {hg : Nat → Int32} {us : Nat → Int32} {sa : Nat → Int32} {ky : Nat → Int32} {a1 : Int32} {a2 : Int32} {a3 : Int32} (E : mk_En p s m meth c cX5_lay 5 none ([.ref aR, .int a1, .int a2, .int a3] : List Value).toArray wsX5_lay yX5_lay.cls) (hA : ∀ q : Nat, s.heap.size ≤ q → A q) (hK : va_K (dC, dI) vwCl (tyz cI cZ cS) s) (R : (Nat → Int32) × (Nat → Int32)) {k_29 : Int32 → Int32 → Int32 → Int32 → (Nat → Int32) → (Nat → Int32) → Option ((Nat → Int32) × (Nat → Int32))} (hk_29 : ∀ (x1 : Int32) (x2 : Int32) (x3 : Int32) (x4 : Int32) (mm : Nat → Int32) (de : Nat → Int32), k_29 x1 x2 x3 x4 mm de = some R → ∀ (H : Heap) (locs : List Loc) (ls : Array Slot), va_P (dC, dI) vwCl (w_R cI cZ cS aR aRd aRm aRw aRs aRt aRc aRl aRh aRu aRx aRy aRk of op cr wn fp fs dk mm wk sg tb cs lw hg us de sa ky) H → va_D A (w_R cI cZ cS aR aRd aRm aRw aRs aRt aRc aRl aRh aRu aRx aRy aRk of op cr wn fp fs dk mm wk sg tb cs lw hg us de sa ky) → va_S A s.heap H locs → lv_has ls 5 [(0, .ref aR), (1, .int x1), (2, .int x2), (3, .int x3), (4, .int x4)] → W p l e ({ frames := 1, cells := 0, slots := 0, locals := 23 } : Room) s m ([.ref aR, .int a1, .int a2, .int a3] : List Value).toArray below meth c H locs 0 0 (MQ below (mk_QV (dC, dI) vwCl (tyz cI cZ cS) A (fun u : (Nat → Int32) × (Nat → Int32) => w_R cI cZ cS aR aRd aRm aRw aRs aRt aRc aRl aRh aRu aRx aRy aRk of op cr wn fp fs dk u.1 wk sg tb cs lw hg us u.2 sa ky) R) ([.ref aR, .int a1, .int a2, .int a3] : List Value).toArray s 0 0 A) (F0 m 29 ls [])) (x1 : Int32) (x2 : Int32) (x3 : Int32) (x4 : Int32) (mm : Nat → Int32) (de : Nat → Int32) (h : p_R_lay_29 sg tb k_29 x1 x2 x3 x4 mm de = some R) : ∀ (H : Heap) (locs : List Loc) (ls : Array Slot), va_P (dC, dI) vwCl (w_R cI cZ cS aR aRd aRm aRw aRs aRt aRc aRl aRh aRu aRx aRy aRk of op cr wn fp fs dk mm wk sg tb cs lw hg us de sa ky) H → va_D A (w_R cI cZ cS aR aRd aRm aRw aRs aRt aRc aRl aRh aRu aRx aRy aRk of op cr wn fp fs dk mm wk sg tb cs lw hg us de sa ky) → va_S A s.heap H locs → lv_has ls 5 [(0, .ref aR), (1, .int x1), (2, .int x2), (3, .int x3), (4, .int x4)] → W p l e ({ frames := 1, cells := 0, slots := 0, locals := 23 } : Room) s m ([.ref aR, .int a1, .int a2, .int a3] : List Value).toArray below meth c H locs 0 0 (MQ below (mk_QV (dC, dI) vwCl (tyz cI cZ cS) A (fun u : (Nat → Int32) × (Nat → Int32) => w_R cI cZ cS aR aRd aRm aRw aRs aRt aRc aRl aRh aRu aRx aRy aRk of op cr wn fp fs dk u.1 wk sg tb cs lw hg us u.2 sa ky) R) ([.ref aR, .int a1, .int a2, .int a3] : List Value).toArray s 0 0 A) (F0 m 29 ls []) := by
  intro H locs ls hP hD hS hl
  obtain ⟨⟨hx, hb, hml, hown, hts⟩, hrt, hlk, hN⟩ := id E
  have hown : s.vm.findClass RX5 = some m.cls := hown
  unfold p_R_lay_29 at h
  refine lv_iload hx hb dX5_lay_29 (lv_at hl 4 rfl) ?_
  refine lv_aload_n hx hb dX5_lay_31 rfl (lv_at hl 0 rfl) ?_
  refine va_get (D := (dC, dI)) (ci := 5) (v := .ref aRm) (C := RX5) (T := TX5) (N := 18) hx hb hts iw_R_lay_Model hown hK hP 0 rfl rfl 1 (by decide) (hts _ mm_R_lay_0) (fun _ h9 => h9) rfl dX5_lay_32 ?_
  refine lv_iload_n hx hb dX5_lay_35 rfl (lv_at hl 1 rfl) ?_
  obtain ⟨hc_1, h⟩ := kp_in h
  refine va_iald hx hb hK hP 2 0 rfl rfl (kx_of hc_1) dX5_lay_36 ?_
  refine lv_icmp_ge (tgt := 68) hx hb dX5_lay_37 (by decide) (fun c_2 => ?_) (fun c_2 => ?_)
  · replace h := (kp_if h).1 c_2
    refine lv_aload_n hx hb dX5_lay_68 rfl (lv_at hl 0 rfl) ?_
    refine lv_iload_n hx hb dX5_lay_69 rfl (lv_at hl 1 rfl) ?_
    obtain ⟨r_3, hr_3, h⟩ := kp_bind h
    refine mk_contV (w := w_R cI cZ cS aR aRd aRm aRw aRs aRt aRc aRl aRh aRu aRx aRy aRk of op cr wn fp fs dk mm wk sg tb cs lw hg us de sa ky) (w0 := w_R cI cZ cS aR aRd aRm aRw aRs aRt aRc aRl aRh aRu aRx aRy aRk of op cr wn fp fs dk mm wk sg tb cs lw hg us de sa ky) (wr := []) (w2 := w_R cI cZ cS aR aRd aRm aRw aRs aRt aRc aRl aRh aRu aRx aRy aRk of op cr wn fp fs dk mm wk sg tb cs lw hg us r_3 sa ky) hP hD hS hA [0, 1, 2, 3, 4, 5, 6, 7, 8, 9, 10, 11, 12] [] rfl rfl (by decide) (by decide) [0, 1, 2, 3, 4, 5, 6, 7, 8, 9, 10, 11, 12] rfl (by decide) (va_runV (As := [.int x1]) (rest := []) ⟨hx, hb, hml, hown, hts⟩ (c_R_change l dC dI cI cZ cS aR aRd aRm aRw aRs aRt aRc aRl aRh aRu aRx aRy aRk of op cr wn fp fs dk mm wk sg tb cs lw hg us de sa ky x1 r_3 hr_3 H.size) (cwV 1 hts gX5_lay_X5_change rfl rfl rfl (by decide +kernel) ⟨Nat.le_of_ble_eq_true rfl, Nat.le_of_ble_eq_true rfl⟩) (mk_preV (w0 := w_R cI cZ cS aR aRd aRm aRw aRs aRt aRc aRl aRh aRu aRx aRy aRk of op cr wn fp fs dk mm wk sg tb cs lw hg us de sa ky) (ci := 5) (q0 := 0) hN hK (mk_pick hP [0, 1, 2, 3, 4, 5, 6, 7, 8, 9, 10, 11, 12] rfl) (hD.sub [0, 1, 2, 3, 4, 5, 6, 7, 8, 9, 10, 11, 12] (by decide) rfl) rfl rfl rfl) rfl rfl hl.1 rfl (lv_room (Nat.le_of_ble_eq_true rfl)) dX5_lay_70 ⟨Nat.zero_le _, Nat.zero_le _⟩) (fun H locs hP hD hS => ?_)
    cases h
    exact mk_vret E hK hP hD hS dX5_lay_73
  · replace h := (kp_if h).2 c_2
    refine lv_aload_n hx hb dX5_lay_40 rfl (lv_at hl 0 rfl) ?_
    refine va_get (D := (dC, dI)) (ci := 5) (v := .ref aRm) (C := RX5) (T := TX5) (N := 18) hx hb hts iw_R_lay_Model hown hK hP 0 rfl rfl 1 (by decide) (hts _ mm_R_lay_0) (fun _ h9 => h9) rfl dX5_lay_41 ?_
    refine lv_aload_n hx hb dX5_lay_44 rfl (lv_at hl 0 rfl) ?_
    refine lv_iload_n hx hb dX5_lay_45 rfl (lv_at hl 1 rfl) ?_
    refine lv_iload_n hx hb dX5_lay_46 rfl (lv_at hl 2 rfl) ?_
    refine lv_iload_n hx hb dX5_lay_47 rfl (lv_at hl 3 rfl) ?_
    obtain ⟨r_4, hr_4, h⟩ := kp_bind h
    refine mk_contR (w := w_R cI cZ cS aR aRd aRm aRw aRs aRt aRc aRl aRh aRu aRx aRy aRk of op cr wn fp fs dk mm wk sg tb cs lw hg us de sa ky) (w0 := w_R cI cZ cS aR aRd aRm aRw aRs aRt aRc aRl aRh aRu aRx aRy aRk of op cr wn fp fs dk mm wk sg tb cs lw hg us de sa ky) (wr := []) hP hD hS hA [0, 1, 2, 3, 4, 5, 6, 7, 8, 9, 10, 11, 12] [] rfl rfl (by decide) (by decide) [0, 1, 2, 3, 4, 5, 6, 7, 8, 9, 10, 11, 12] rfl (by decide) (va_runV (As := [.int x1, .int x2, .int x3]) (rest := [.ref aRm]) ⟨hx, hb, hml, hown, hts⟩ (c_R_wordOf l dC dI cI cZ cS aR aRd aRm aRw aRs aRt aRc aRl aRh aRu aRx aRy aRk of op cr wn fp fs dk mm wk sg tb cs lw hg us de sa ky x1 x2 x3 r_4 hr_4 H.size) (cwV 3 hts gX5_lay_X5_wordOf rfl rfl rfl (by decide +kernel) ⟨Nat.le_of_ble_eq_true rfl, Nat.le_of_ble_eq_true rfl⟩) (mk_preV (w0 := w_R cI cZ cS aR aRd aRm aRw aRs aRt aRc aRl aRh aRu aRx aRy aRk of op cr wn fp fs dk mm wk sg tb cs lw hg us de sa ky) (ci := 5) (q0 := 0) hN hK (mk_pick hP [0, 1, 2, 3, 4, 5, 6, 7, 8, 9, 10, 11, 12] rfl) (hD.sub [0, 1, 2, 3, 4, 5, 6, 7, 8, 9, 10, 11, 12] (by decide) rfl) rfl rfl rfl) rfl rfl hl.1 rfl (lv_room (Nat.le_of_ble_eq_true rfl)) dX5_lay_48 ⟨Nat.zero_le _, Nat.zero_le _⟩) (fun H locs hP hD hS => ?_)
    refine lv_iload hx hb dX5_lay_51 (lv_at hl 4 rfl) ?_
    refine lv_iadd hx hb dX5_lay_53 ?_
    refine lv_aload_n hx hb dX5_lay_54 rfl (lv_at hl 0 rfl) ?_
    refine va_get (D := (dC, dI)) (ci := 5) (v := .ref aRs) (C := RX5) (T := TX5) (N := 18) hx hb hts iw_R_lay_Model hown hK hP 0 rfl rfl 3 (by decide) (hts _ mm_R_lay_2) (fun _ h9 => h9) rfl dX5_lay_55 ?_
    refine lv_iload hx hb dX5_lay_58 (lv_at hl 4 rfl) ?_
    obtain ⟨hc_5, h⟩ := kp_in h
    refine va_iald hx hb hK hP 4 0 rfl rfl (kx_of hc_5) dX5_lay_60 ?_
    obtain ⟨hc_6, h⟩ := kp_in h
    refine va_iast hx hb hK hP hD hS 2 0 rfl rfl (kx_of hc_6) dX5_lay_61 (fun H locs hP hD hS => ?_)
    have hP : va_P (dC, dI) vwCl (w_R cI cZ cS aR aRd aRm aRw aRs aRt aRc aRl aRh aRu aRx aRy aRk of op cr wn fp fs dk (upd mm (r_4 + x4).toNatClampNeg (sg x4.toNatClampNeg)) wk sg tb cs lw hg us de sa ky) H := hP
    have hD : va_D A (w_R cI cZ cS aR aRd aRm aRw aRs aRt aRc aRl aRh aRu aRx aRy aRk of op cr wn fp fs dk (upd mm (r_4 + x4).toNatClampNeg (sg x4.toNatClampNeg)) wk sg tb cs lw hg us de sa ky) := hD
    refine lv_iinc (v := x4 + 1) (lv' := [(4, .int (x4 + 1)), (0, .ref aR), (1, .int x1), (2, .int x2), (3, .int x3)]) hx hb dX5_lay_62 hl (k := 4) rfl rfl (by decide) rfl (fun ls hl => ?_)
    refine lv_goto (tgt := 29) hx hb dX5_lay_65 (by decide) ?_
    exact hk_29 x1 x2 x3 (x4 + 1) (upd mm (r_4 + x4).toNatClampNeg (sg x4.toNatClampNeg)) de h H locs ls hP hD hS (lv_sub hl [1, 2, 3, 4, 0] rfl)
set_option maxHeartbeats 4000000 in
set_option maxRecDepth 100000 in
theorem l_R_lay_29 {p : Program} {l : Launch} {e : Env} {s : State} {m : MethodId} {below : List Frame} {meth : Method} {c : Code} {A : Nat → Prop} {dC : Nat → ClassId} {dI : Nat → Nat → Nat} {cI cZ cS : ClassId} {aR aRd aRm aRw aRs aRt aRc aRl aRh aRu aRx aRy aRk : Nat} {of : Int32} {op : Int32} {cr : Int32} {wn : Int32} {fp : Int32} {fs : Int32} {dk : Nat → Int32} {wk : Nat → Int32} {sg : Nat → Int32} {tb : Nat → Int32} {cs : Nat → Int32} {lw : Nat → Int32} {hg : Nat → Int32} {us : Nat → Int32} {sa : Nat → Int32} {ky : Nat → Int32} {a1 : Int32} {a2 : Int32} {a3 : Int32} (E : mk_En p s m meth c cX5_lay 5 none ([.ref aR, .int a1, .int a2, .int a3] : List Value).toArray wsX5_lay yX5_lay.cls) (hA : ∀ q : Nat, s.heap.size ≤ q → A q) (hK : va_K (dC, dI) vwCl (tyz cI cZ cS) s) (R : (Nat → Int32) × (Nat → Int32)) : ∀ (n : Nat) (x1 : Int32) (x2 : Int32) (x3 : Int32) (x4 : Int32) (mm : Nat → Int32) (de : Nat → Int32), pl_R_lay_29 sg tb n x1 x2 x3 x4 mm de = some R → ∀ (H : Heap) (locs : List Loc) (ls : Array Slot), va_P (dC, dI) vwCl (w_R cI cZ cS aR aRd aRm aRw aRs aRt aRc aRl aRh aRu aRx aRy aRk of op cr wn fp fs dk mm wk sg tb cs lw hg us de sa ky) H → va_D A (w_R cI cZ cS aR aRd aRm aRw aRs aRt aRc aRl aRh aRu aRx aRy aRk of op cr wn fp fs dk mm wk sg tb cs lw hg us de sa ky) → va_S A s.heap H locs → lv_has ls 5 [(0, .ref aR), (1, .int x1), (2, .int x2), (3, .int x3), (4, .int x4)] → W p l e ({ frames := 1, cells := 0, slots := 0, locals := 23 } : Room) s m ([.ref aR, .int a1, .int a2, .int a3] : List Value).toArray below meth c H locs 0 0 (MQ below (mk_QV (dC, dI) vwCl (tyz cI cZ cS) A (fun u : (Nat → Int32) × (Nat → Int32) => w_R cI cZ cS aR aRd aRm aRw aRs aRt aRc aRl aRh aRu aRx aRy aRk of op cr wn fp fs dk u.1 wk sg tb cs lw hg us u.2 sa ky) R) ([.ref aR, .int a1, .int a2, .int a3] : List Value).toArray s 0 0 A) (F0 m 29 ls []) := by
  intro n
  induction n with
  | zero =>
    intro x1 x2 x3 x4 mm de h
    cases h
  | succ n ih =>
    intro x1 x2 x3 x4 mm de h
    exact b_R_lay_29 E hA hK R ih x1 x2 x3 x4 mm de h
set_option maxHeartbeats 4000000 in
set_option maxRecDepth 100000 in
theorem c_R_lay (l : Launch) (dC : Nat → ClassId) (dI : Nat → Nat → Nat) (cI cZ cS : ClassId) (aR aRd aRm aRw aRs aRt aRc aRl aRh aRu aRx aRy aRk : Nat) (of : Int32) (op : Int32) (cr : Int32) (wn : Int32) (fp : Int32) (fs : Int32) (dk : Nat → Int32) (mm : Nat → Int32) (wk : Nat → Int32) (sg : Nat → Int32) (tb : Nat → Int32) (cs : Nat → Int32) (lw : Nat → Int32) (hg : Nat → Int32) (us : Nat → Int32) (de : Nat → Int32) (sa : Nat → Int32) (ky : Nat → Int32) (a1 : Int32) (a2 : Int32) (a3 : Int32) : CtV l yX5_lay wsX5_lay ({ frames := 1, cells := 0, slots := 0, locals := 23 }) (dC, dI) vwCl (tyz cI cZ cS) [.ref aR, .int a1, .int a2, .int a3] (w_R cI cZ cS aR aRd aRm aRw aRs aRt aRc aRl aRh aRu aRx aRy aRk of op cr wn fp fs dk mm wk sg tb cs lw hg us de sa ky) (fun u : (Nat → Int32) × (Nat → Int32) => w_R cI cZ cS aR aRd aRm aRw aRs aRt aRc aRl aRh aRu aRx aRy aRk of op cr wn fp fs dk u.1 wk sg tb cs lw hg us u.2 sa ky) (p_R_lay mm sg tb de a1 a2 a3) := by
  intro R h
  refine mk_enter (Qc := (fun A => mk_QV (dC, dI) vwCl (tyz cI cZ cS) A (fun u : (Nat → Int32) × (Nat → Int32) => w_R cI cZ cS aR aRd aRm aRw aRs aRt aRc aRl aRh aRu aRx aRy aRk of op cr wn fp fs dk u.1 wk sg tb cs lw hg us u.2 sa ky) R)) (by decide) rfl (Nat.le_of_ble_eq_true rfl) ?_
  intro p e s m below meth c A E hA hK H locs ls hP hD hS hl
  obtain ⟨⟨hx, hb, hml, hown, hts⟩, hrt, hlk, hN⟩ := id E
  have hown : s.vm.findClass RX5 = some m.cls := hown
  have hl : lv_has ls 5 [(0, .ref aR), (1, .int a1), (2, .int a2), (3, .int a3)] := hl
  unfold p_R_lay at h
  refine lv_aload_n hx hb dX5_lay_0 rfl (lv_at hl 0 rfl) ?_
  refine va_get (D := (dC, dI)) (ci := 5) (v := .ref aRm) (C := RX5) (T := TX5) (N := 18) hx hb hts iw_R_lay_Model hown hK hP 0 rfl rfl 1 (by decide) (hts _ mm_R_lay_0) (fun _ h9 => h9) rfl dX5_lay_1 ?_
  refine lv_bipush (v := 16) hx hb dX5_lay_4 (by decide) ?_
  refine lv_iload_n hx hb dX5_lay_6 rfl (lv_at hl 2 rfl) ?_
  refine lv_imul hx hb dX5_lay_7 ?_
  refine lv_iconst (v := 2) hx hb dX5_lay_8 (by decide) ?_
  refine lv_iadd hx hb dX5_lay_9 ?_
  refine lv_aload_n hx hb dX5_lay_10 rfl (lv_at hl 0 rfl) ?_
  refine va_get (D := (dC, dI)) (ci := 5) (v := .ref aRm) (C := RX5) (T := TX5) (N := 18) hx hb hts iw_R_lay_Model hown hK hP 0 rfl rfl 1 (by decide) (hts _ mm_R_lay_0) (fun _ h9 => h9) rfl dX5_lay_11 ?_
  refine lv_bipush (v := 16) hx hb dX5_lay_14 (by decide) ?_
  refine lv_iload_n hx hb dX5_lay_16 rfl (lv_at hl 2 rfl) ?_
  refine lv_imul hx hb dX5_lay_17 ?_
  refine lv_iconst (v := 2) hx hb dX5_lay_18 (by decide) ?_
  refine lv_iadd hx hb dX5_lay_19 ?_
  obtain ⟨hc_7, h⟩ := kp_in h
  refine va_iald hx hb hK hP 2 0 rfl rfl (kx_of hc_7) dX5_lay_20 ?_
  refine lv_iconst (v := 1) hx hb dX5_lay_21 (by decide) ?_
  refine lv_iload_n hx hb dX5_lay_22 rfl (lv_at hl 3 rfl) ?_
  refine lv_ishl hx hb dX5_lay_23 ?_
  refine lv_ior hx hb dX5_lay_24 ?_
  obtain ⟨hc_8, h⟩ := kp_in h
  refine va_iast hx hb hK hP hD hS 2 0 rfl rfl (kx_of hc_8) dX5_lay_25 (fun H locs hP hD hS => ?_)
  have hP : va_P (dC, dI) vwCl (w_R cI cZ cS aR aRd aRm aRw aRs aRt aRc aRl aRh aRu aRx aRy aRk of op cr wn fp fs dk (upd mm ((16 * a2) + 2).toNatClampNeg ((mm ((16 * a2) + 2).toNatClampNeg) ||| ((1 : Int32) <<< (a3 &&& 31)))) wk sg tb cs lw hg us de sa ky) H := hP
  have hD : va_D A (w_R cI cZ cS aR aRd aRm aRw aRs aRt aRc aRl aRh aRu aRx aRy aRk of op cr wn fp fs dk (upd mm ((16 * a2) + 2).toNatClampNeg ((mm ((16 * a2) + 2).toNatClampNeg) ||| ((1 : Int32) <<< (a3 &&& 31)))) wk sg tb cs lw hg us de sa ky) := hD
  refine lv_iconst (v := 0) hx hb dX5_lay_26 (by decide) ?_
  refine lv_istore (lv' := [(4, .int 0), (0, .ref aR), (1, .int a1), (2, .int a2), (3, .int a3)]) hx hb dX5_lay_27 hl (by decide) rfl (fun ls hl => ?_)
  exact l_R_lay_29 E hA hK R 1000 a1 a2 a3 0 (upd mm ((16 * a2) + 2).toNatClampNeg ((mm ((16 * a2) + 2).toNatClampNeg) ||| ((1 : Int32) <<< (a3 &&& 31)))) de h H locs ls hP hD hS (lv_sub hl [1, 2, 3, 4, 0] rfl)

/- Model.freePage()I -/
set_option maxRecDepth 20000 in
theorem mm_R_freePage_0 : Cond.fieldLink RX5 13 "JournaledTablesModel" "memory" "[I" ∈ wsX5_freePage := by decide +kernel
set_option maxRecDepth 20000 in
theorem iw_R_freePage_Model : ∀ w ∈ u_ws RX5 TX5 18, w ∈ wsX5_freePage := by decide +kernel
set_option maxHeartbeats 4000000 in
set_option maxRecDepth 100000 in
theorem b_R_freePage_2 {p : Program} {l : Launch} {e : Env} {s : State} {m : MethodId} {below : List Frame} {meth : Method} {c : Code} {A : Nat → Prop} {dC : Nat → ClassId} {dI : Nat → Nat → Nat} {cI cZ cS : ClassId} {aR aRd aRm aRw aRs aRt aRc aRl aRh aRu aRx aRy aRk : Nat} {of : Int32} {op : Int32} {cr : Int32} {wn : Int32} {fp : Int32} {fs : Int32} {dk : Nat → Int32} {mm : Nat → Int32} {wk : Nat → Int32} {sg : Nat → Int32} {tb : Nat → Int32} {cs : Nat → Int32} {lw : Nat → Int32} {hg : Nat → Int32} {us : Nat → Int32} {de : Nat → Int32} {sa : Nat → Int32} {ky : Nat → Int32} (E : mk_En p s m meth c cX5_freePage 2 (some .int) ([.ref aR] : List Value).toArray wsX5_freePage yX5_freePage.cls) (hA : ∀ q : Nat, s.heap.size ≤ q → A q) (hK : va_K (dC, dI) vwCl (tyz cI cZ cS) s) (R : Int32) {k_2 : Int32 → Option Int32} (hk_2 : ∀ (x1 : Int32), k_2 x1 = some R → ∀ (H : Heap) (locs : List Loc) (ls : Array Slot), va_P (dC, dI) vwCl (w_R cI cZ cS aR aRd aRm aRw aRs aRt aRc aRl aRh aRu aRx aRy aRk of op cr wn fp fs dk mm wk sg tb cs lw hg us de sa ky) H → va_D A (w_R cI cZ cS aR aRd aRm aRw aRs aRt aRc aRl aRh aRu aRx aRy aRk of op cr wn fp fs dk mm wk sg tb cs lw hg us de sa ky) → va_S A s.heap H locs → lv_has ls 2 [(0, .ref aR), (1, .int x1)] → W p l e ({ frames := 0, cells := 0, slots := 0, locals := 0 } : Room) s m ([.ref aR] : List Value).toArray below meth c H locs 0 0 (MQ below (mk_QR (dC, dI) vwCl (tyz cI cZ cS) A (w_R cI cZ cS aR aRd aRm aRw aRs aRt aRc aRl aRh aRu aRx aRy aRk of op cr wn fp fs dk mm wk sg tb cs lw hg us de sa ky) R) ([.ref aR] : List Value).toArray s 0 0 A) (F0 m 2 ls [])) (x1 : Int32) (h : p_R_freePage_2 mm k_2 x1 = some R) : ∀ (H : Heap) (locs : List Loc) (ls : Array Slot), va_P (dC, dI) vwCl (w_R cI cZ cS aR aRd aRm aRw aRs aRt aRc aRl aRh aRu aRx aRy aRk of op cr wn fp fs dk mm wk sg tb cs lw hg us de sa ky) H → va_D A (w_R cI cZ cS aR aRd aRm aRw aRs aRt aRc aRl aRh aRu aRx aRy aRk of op cr wn fp fs dk mm wk sg tb cs lw hg us de sa ky) → va_S A s.heap H locs → lv_has ls 2 [(0, .ref aR), (1, .int x1)] → W p l e ({ frames := 0, cells := 0, slots := 0, locals := 0 } : Room) s m ([.ref aR] : List Value).toArray below meth c H locs 0 0 (MQ below (mk_QR (dC, dI) vwCl (tyz cI cZ cS) A (w_R cI cZ cS aR aRd aRm aRw aRs aRt aRc aRl aRh aRu aRx aRy aRk of op cr wn fp fs dk mm wk sg tb cs lw hg us de sa ky) R) ([.ref aR] : List Value).toArray s 0 0 A) (F0 m 2 ls []) := by
  intro H locs ls hP hD hS hl
  obtain ⟨⟨hx, hb, hml, hown, hts⟩, hrt, hlk, hN⟩ := id E
  have hown : s.vm.findClass RX5 = some m.cls := hown
  unfold p_R_freePage_2 at h
  refine lv_iload_n hx hb dX5_freePage_2 rfl (lv_at hl 1 rfl) ?_
  refine lv_bipush (v := 16) hx hb dX5_freePage_3 (by decide) ?_
  refine lv_icmp_ge (tgt := 28) hx hb dX5_freePage_5 (by decide) (fun c_1 => ?_) (fun c_1 => ?_)
  · replace h := (kp_if h).1 c_1
    refine lv_iconst (v := 0) hx hb dX5_freePage_28 (by decide) ?_
    cases h
    exact mk_iretR E hK hP hD hS dX5_freePage_29
  · replace h := (kp_if h).2 c_1
    refine lv_aload_n hx hb dX5_freePage_8 rfl (lv_at hl 0 rfl) ?_
    refine va_get (D := (dC, dI)) (ci := 5) (v := .ref aRm) (C := RX5) (T := TX5) (N := 18) hx hb hts iw_R_freePage_Model hown hK hP 0 rfl rfl 1 (by decide) (hts _ mm_R_freePage_0) (fun _ h9 => h9) rfl dX5_freePage_9 ?_
    refine lv_bipush (v := 16) hx hb dX5_freePage_12 (by decide) ?_
    refine lv_iload_n hx hb dX5_freePage_14 rfl (lv_at hl 1 rfl) ?_
    refine lv_imul hx hb dX5_freePage_15 ?_
    obtain ⟨hc_2, h⟩ := kp_in h
    refine va_iald hx hb hK hP 2 0 rfl rfl (kx_of hc_2) dX5_freePage_16 ?_
    refine lv_if_ne (tgt := 22) hx hb dX5_freePage_17 (by decide) (fun c_3 => ?_) (fun c_3 => ?_)
    · replace h := (kp_if h).2 c_3
      refine lv_iinc (v := x1 + 1) (lv' := [(1, .int (x1 + 1)), (0, .ref aR)]) hx hb dX5_freePage_22 hl (k := 1) rfl rfl (by decide) rfl (fun ls hl => ?_)
      refine lv_goto (tgt := 2) hx hb dX5_freePage_25 (by decide) ?_
      exact hk_2 (x1 + 1) h H locs ls hP hD hS (lv_sub hl [1, 0] rfl)
    · replace h := (kp_if h).1 c_3
      refine lv_iload_n hx hb dX5_freePage_20 rfl (lv_at hl 1 rfl) ?_
      cases h
      exact mk_iretR E hK hP hD hS dX5_freePage_21
set_option maxHeartbeats 4000000 in
set_option maxRecDepth 100000 in
theorem l_R_freePage_2 {p : Program} {l : Launch} {e : Env} {s : State} {m : MethodId} {below : List Frame} {meth : Method} {c : Code} {A : Nat → Prop} {dC : Nat → ClassId} {dI : Nat → Nat → Nat} {cI cZ cS : ClassId} {aR aRd aRm aRw aRs aRt aRc aRl aRh aRu aRx aRy aRk : Nat} {of : Int32} {op : Int32} {cr : Int32} {wn : Int32} {fp : Int32} {fs : Int32} {dk : Nat → Int32} {mm : Nat → Int32} {wk : Nat → Int32} {sg : Nat → Int32} {tb : Nat → Int32} {cs : Nat → Int32} {lw : Nat → Int32} {hg : Nat → Int32} {us : Nat → Int32} {de : Nat → Int32} {sa : Nat → Int32} {ky : Nat → Int32} (E : mk_En p s m meth c cX5_freePage 2 (some .int) ([.ref aR] : List Value).toArray wsX5_freePage yX5_freePage.cls) (hA : ∀ q : Nat, s.heap.size ≤ q → A q) (hK : va_K (dC, dI) vwCl (tyz cI cZ cS) s) (R : Int32) : ∀ (n : Nat) (x1 : Int32), pl_R_freePage_2 mm n x1 = some R → ∀ (H : Heap) (locs : List Loc) (ls : Array Slot), va_P (dC, dI) vwCl (w_R cI cZ cS aR aRd aRm aRw aRs aRt aRc aRl aRh aRu aRx aRy aRk of op cr wn fp fs dk mm wk sg tb cs lw hg us de sa ky) H → va_D A (w_R cI cZ cS aR aRd aRm aRw aRs aRt aRc aRl aRh aRu aRx aRy aRk of op cr wn fp fs dk mm wk sg tb cs lw hg us de sa ky) → va_S A s.heap H locs → lv_has ls 2 [(0, .ref aR), (1, .int x1)] → W p l e ({ frames := 0, cells := 0, slots := 0, locals := 0 } : Room) s m ([.ref aR] : List Value).toArray below meth c H locs 0 0 (MQ below (mk_QR (dC, dI) vwCl (tyz cI cZ cS) A (w_R cI cZ cS aR aRd aRm aRw aRs aRt aRc aRl aRh aRu aRx aRy aRk of op cr wn fp fs dk mm wk sg tb cs lw hg us de sa ky) R) ([.ref aR] : List Value).toArray s 0 0 A) (F0 m 2 ls []) := by
  intro n
  induction n with
  | zero =>
    intro x1 h
    cases h
  | succ n ih =>
    intro x1 h
    exact b_R_freePage_2 E hA hK R ih x1 h
set_option maxHeartbeats 4000000 in
set_option maxRecDepth 100000 in
theorem c_R_freePage (l : Launch) (dC : Nat → ClassId) (dI : Nat → Nat → Nat) (cI cZ cS : ClassId) (aR aRd aRm aRw aRs aRt aRc aRl aRh aRu aRx aRy aRk : Nat) (of : Int32) (op : Int32) (cr : Int32) (wn : Int32) (fp : Int32) (fs : Int32) (dk : Nat → Int32) (mm : Nat → Int32) (wk : Nat → Int32) (sg : Nat → Int32) (tb : Nat → Int32) (cs : Nat → Int32) (lw : Nat → Int32) (hg : Nat → Int32) (us : Nat → Int32) (de : Nat → Int32) (sa : Nat → Int32) (ky : Nat → Int32) : CtR l yX5_freePage wsX5_freePage ({ frames := 0, cells := 0, slots := 0, locals := 0 }) (dC, dI) vwCl (tyz cI cZ cS) [.ref aR] (w_R cI cZ cS aR aRd aRm aRw aRs aRt aRc aRl aRh aRu aRx aRy aRk of op cr wn fp fs dk mm wk sg tb cs lw hg us de sa ky) (p_R_freePage mm) := by
  intro R h
  refine mk_enter (Qc := (fun A => mk_QR (dC, dI) vwCl (tyz cI cZ cS) A (w_R cI cZ cS aR aRd aRm aRw aRs aRt aRc aRl aRh aRu aRx aRy aRk of op cr wn fp fs dk mm wk sg tb cs lw hg us de sa ky) R)) (by decide) rfl (Nat.le_of_ble_eq_true rfl) ?_
  intro p e s m below meth c A E hA hK H locs ls hP hD hS hl
  obtain ⟨⟨hx, hb, hml, hown, hts⟩, hrt, hlk, hN⟩ := id E
  have hown : s.vm.findClass RX5 = some m.cls := hown
  have hl : lv_has ls 2 [(0, .ref aR)] := hl
  unfold p_R_freePage at h
  refine lv_iconst (v := 1) hx hb dX5_freePage_0 (by decide) ?_
  refine lv_istore_n (lv' := [(1, .int 1), (0, .ref aR)]) hx hb dX5_freePage_1 rfl hl (by decide) rfl (fun ls hl => ?_)
  exact l_R_freePage_2 E hA hK R 1000 1 h H locs ls hP hD hS (lv_sub hl [1, 0] rfl)

/- Model.noScan(I)Z -/
set_option maxRecDepth 20000 in
theorem mm_R_noScan_0 : Cond.fieldLink RX5 51 "JournaledTablesModel" "off" "Z" ∈ wsX5_noScan := by decide +kernel
set_option maxRecDepth 20000 in
theorem iw_R_noScan_Model : ∀ w ∈ u_ws RX5 TX5 18, w ∈ wsX5_noScan := by decide +kernel
set_option maxRecDepth 20000 in
theorem mm_R_noScan_2 : Cond.fieldLink RX5 38 "JournaledTablesModel" "used" "[Z" ∈ wsX5_noScan := by decide +kernel
set_option maxHeartbeats 4000000 in
set_option maxRecDepth 100000 in
theorem b_R_noScan_30 {p : Program} {l : Launch} {e : Env} {s : State} {m : MethodId} {below : List Frame} {meth : Method} {c : Code} {A : Nat → Prop} {dC : Nat → ClassId} {dI : Nat → Nat → Nat} {cI cZ cS : ClassId} {aR aRd aRm aRw aRs aRt aRc aRl aRh aRu aRx aRy aRk : Nat} {of : Int32} {op : Int32} {cr : Int32} {wn : Int32} {fp : Int32} {fs : Int32} {dk : Nat → Int32} {mm : Nat → Int32} {wk : Nat → Int32} {sg : Nat → Int32} {tb : Nat → Int32} {cs : Nat → Int32} {lw : Nat → Int32} {hg : Nat → Int32} {us : Nat → Int32} {de : Nat → Int32} {sa : Nat → Int32} {ky : Nat → Int32} {a1 : Int32} (E : mk_En p s m meth c cX5_noScan 2 (some .boolean) ([.ref aR, .int a1] : List Value).toArray wsX5_noScan yX5_noScan.cls) (hA : ∀ q : Nat, s.heap.size ≤ q → A q) (hK : va_K (dC, dI) vwCl (tyz cI cZ cS) s) (R : Int32) (z0 : Int32) (h : p_R_noScan_30 of us z0 = some R) : ∀ (H : Heap) (locs : List Loc) (ls : Array Slot), va_P (dC, dI) vwCl (w_R cI cZ cS aR aRd aRm aRw aRs aRt aRc aRl aRh aRu aRx aRy aRk of op cr wn fp fs dk mm wk sg tb cs lw hg us de sa ky) H → va_D A (w_R cI cZ cS aR aRd aRm aRw aRs aRt aRc aRl aRh aRu aRx aRy aRk of op cr wn fp fs dk mm wk sg tb cs lw hg us de sa ky) → va_S A s.heap H locs → lv_has ls 2 [] → W p l e ({ frames := 0, cells := 0, slots := 0, locals := 0 } : Room) s m ([.ref aR, .int a1] : List Value).toArray below meth c H locs 0 0 (MQ below (mk_QR (dC, dI) vwCl (tyz cI cZ cS) A (w_R cI cZ cS aR aRd aRm aRw aRs aRt aRc aRl aRh aRu aRx aRy aRk of op cr wn fp fs dk mm wk sg tb cs lw hg us de sa ky) R) ([.ref aR, .int a1] : List Value).toArray s 0 0 A) (F0 m 30 ls [.int z0]) := by
  intro H locs ls hP hD hS hl
  obtain ⟨⟨hx, hb, hml, hown, hts⟩, hrt, hlk, hN⟩ := id E
  have hown : s.vm.findClass RX5 = some m.cls := hown
  unfold p_R_noScan_30 at h
  obtain ⟨hc_1, h⟩ := kp_in h
  cases h
  exact mk_zretR E hc_1 hK hP hD hS dX5_noScan_30
set_option maxHeartbeats 4000000 in
set_option maxRecDepth 100000 in
theorem b_R_noScan_25 {p : Program} {l : Launch} {e : Env} {s : State} {m : MethodId} {below : List Frame} {meth : Method} {c : Code} {A : Nat → Prop} {dC : Nat → ClassId} {dI : Nat → Nat → Nat} {cI cZ cS : ClassId} {aR aRd aRm aRw aRs aRt aRc aRl aRh aRu aRx aRy aRk : Nat} {of : Int32} {op : Int32} {cr : Int32} {wn : Int32} {fp : Int32} {fs : Int32} {dk : Nat → Int32} {mm : Nat → Int32} {wk : Nat → Int32} {sg : Nat → Int32} {tb : Nat → Int32} {cs : Nat → Int32} {lw : Nat → Int32} {hg : Nat → Int32} {us : Nat → Int32} {de : Nat → Int32} {sa : Nat → Int32} {ky : Nat → Int32} {a1 : Int32} (E : mk_En p s m meth c cX5_noScan 2 (some .boolean) ([.ref aR, .int a1] : List Value).toArray wsX5_noScan yX5_noScan.cls) (hA : ∀ q : Nat, s.heap.size ≤ q → A q) (hK : va_K (dC, dI) vwCl (tyz cI cZ cS) s) (R : Int32) (h : p_R_noScan_25 of us = some R) : ∀ (H : Heap) (locs : List Loc) (ls : Array Slot), va_P (dC, dI) vwCl (w_R cI cZ cS aR aRd aRm aRw aRs aRt aRc aRl aRh aRu aRx aRy aRk of op cr wn fp fs dk mm wk sg tb cs lw hg us de sa ky) H → va_D A (w_R cI cZ cS aR aRd aRm aRw aRs aRt aRc aRl aRh aRu aRx aRy aRk of op cr wn fp fs dk mm wk sg tb cs lw hg us de sa ky) → va_S A s.heap H locs → lv_has ls 2 [] → W p l e ({ frames := 0, cells := 0, slots := 0, locals := 0 } : Room) s m ([.ref aR, .int a1] : List Value).toArray below meth c H locs 0 0 (MQ below (mk_QR (dC, dI) vwCl (tyz cI cZ cS) A (w_R cI cZ cS aR aRd aRm aRw aRs aRt aRc aRl aRh aRu aRx aRy aRk of op cr wn fp fs dk mm wk sg tb cs lw hg us de sa ky) R) ([.ref aR, .int a1] : List Value).toArray s 0 0 A) (F0 m 25 ls []) := by
  intro H locs ls hP hD hS hl
  obtain ⟨⟨hx, hb, hml, hown, hts⟩, hrt, hlk, hN⟩ := id E
  have hown : s.vm.findClass RX5 = some m.cls := hown
  unfold p_R_noScan_25 at h
  refine lv_iconst (v := 1) hx hb dX5_noScan_25 (by decide) ?_
  refine lv_goto (tgt := 30) hx hb dX5_noScan_26 (by decide) ?_
  exact b_R_noScan_30 E hA hK R 1 h H locs ls hP hD hS (lv_sub hl [] rfl)
set_option maxHeartbeats 4000000 in
set_option maxRecDepth 100000 in
theorem c_R_noScan (l : Launch) (dC : Nat → ClassId) (dI : Nat → Nat → Nat) (cI cZ cS : ClassId) (aR aRd aRm aRw aRs aRt aRc aRl aRh aRu aRx aRy aRk : Nat) (of : Int32) (op : Int32) (cr : Int32) (wn : Int32) (fp : Int32) (fs : Int32) (dk : Nat → Int32) (mm : Nat → Int32) (wk : Nat → Int32) (sg : Nat → Int32) (tb : Nat → Int32) (cs : Nat → Int32) (lw : Nat → Int32) (hg : Nat → Int32) (us : Nat → Int32) (de : Nat → Int32) (sa : Nat → Int32) (ky : Nat → Int32) (a1 : Int32) : CtR l yX5_noScan wsX5_noScan ({ frames := 0, cells := 0, slots := 0, locals := 0 }) (dC, dI) vwCl (tyz cI cZ cS) [.ref aR, .int a1] (w_R cI cZ cS aR aRd aRm aRw aRs aRt aRc aRl aRh aRu aRx aRy aRk of op cr wn fp fs dk mm wk sg tb cs lw hg us de sa ky) (p_R_noScan of us a1) := by
  intro R h
  refine mk_enter (Qc := (fun A => mk_QR (dC, dI) vwCl (tyz cI cZ cS) A (w_R cI cZ cS aR aRd aRm aRw aRs aRt aRc aRl aRh aRu aRx aRy aRk of op cr wn fp fs dk mm wk sg tb cs lw hg us de sa ky) R)) (by decide) rfl (Nat.le_of_ble_eq_true rfl) ?_
  intro p e s m below meth c A E hA hK H locs ls hP hD hS hl
  obtain ⟨⟨hx, hb, hml, hown, hts⟩, hrt, hlk, hN⟩ := id E
  have hown : s.vm.findClass RX5 = some m.cls := hown
  have hl : lv_has ls 2 [(0, .ref aR), (1, .int a1)] := hl
  unfold p_R_noScan at h
  refine lv_aload_n hx hb dX5_noScan_0 rfl (lv_at hl 0 rfl) ?_
  refine va_get (D := (dC, dI)) (ci := 5) (v := .int of) (C := RX5) (T := TX5) (N := 18) hx hb hts iw_R_noScan_Model hown hK hP 0 rfl rfl 4 (by decide) (hts _ mm_R_noScan_0) (fun _ h9 => h9) rfl dX5_noScan_1 ?_
  refine lv_if_ne (tgt := 25) hx hb dX5_noScan_4 (by decide) (fun c_2 => ?_) (fun c_2 => ?_)
  · replace h := (kp_if h).2 c_2
    exact b_R_noScan_25 E hA hK R h H locs ls hP hD hS (lv_sub hl [] rfl)
  · replace h := (kp_if h).1 c_2
    refine lv_iload_n hx hb dX5_noScan_7 rfl (lv_at hl 1 rfl) ?_
    refine lv_if_lt (tgt := 25) hx hb dX5_noScan_8 (by decide) (fun c_3 => ?_) (fun c_3 => ?_)
    · replace h := (kp_if h).1 c_3
      exact b_R_noScan_25 E hA hK R h H locs ls hP hD hS (lv_sub hl [] rfl)
    · replace h := (kp_if h).2 c_3
      refine lv_iload_n hx hb dX5_noScan_11 rfl (lv_at hl 1 rfl) ?_
      refine lv_iconst (v := 3) hx hb dX5_noScan_12 (by decide) ?_
      refine lv_icmp_gt (tgt := 25) hx hb dX5_noScan_13 (by decide) (fun c_4 => ?_) (fun c_4 => ?_)
      · replace h := (kp_if h).1 c_4
        exact b_R_noScan_25 E hA hK R h H locs ls hP hD hS (lv_sub hl [] rfl)
      · replace h := (kp_if h).2 c_4
        refine lv_aload_n hx hb dX5_noScan_16 rfl (lv_at hl 0 rfl) ?_
        refine va_get (D := (dC, dI)) (ci := 5) (v := .ref aRu) (C := RX5) (T := TX5) (N := 18) hx hb hts iw_R_noScan_Model hown hK hP 0 rfl rfl 12 (by decide) (hts _ mm_R_noScan_2) (fun _ h9 => h9) rfl dX5_noScan_17 ?_
        refine lv_iload_n hx hb dX5_noScan_20 rfl (lv_at hl 1 rfl) ?_
        obtain ⟨hc_5, h⟩ := kp_in h
        refine va_zald hx hb hK hP 9 1 rfl rfl (kx_of hc_5) dX5_noScan_21 ?_
        refine lv_if_ne (tgt := 29) hx hb dX5_noScan_22 (by decide) (fun c_6 => ?_) (fun c_6 => ?_)
        · replace h := (kp_if h).2 c_6
          refine lv_iconst (v := 0) hx hb dX5_noScan_29 (by decide) ?_
          exact b_R_noScan_30 E hA hK R 0 h H locs ls hP hD hS (lv_sub hl [] rfl)
        · replace h := (kp_if h).1 c_6
          exact b_R_noScan_25 E hA hK R h H locs ls hP hD hS (lv_sub hl [] rfl)

/- Model.bits(I)I -/
set_option maxHeartbeats 4000000 in
set_option maxRecDepth 100000 in
theorem b_R_bits_4 {p : Program} {l : Launch} {e : Env} {s : State} {m : MethodId} {below : List Frame} {meth : Method} {c : Code} {A : Nat → Prop} {dC : Nat → ClassId} {dI : Nat → Nat → Nat} {cI cZ cS : ClassId} {aR aRd aRm aRw aRs aRt aRc aRl aRh aRu aRx aRy aRk : Nat} {of : Int32} {op : Int32} {cr : Int32} {wn : Int32} {fp : Int32} {fs : Int32} {dk : Nat → Int32} {mm : Nat → Int32} {wk : Nat → Int32} {sg : Nat → Int32} {tb : Nat → Int32} {cs : Nat → Int32} {lw : Nat → Int32} {hg : Nat → Int32} {us : Nat → Int32} {de : Nat → Int32} {sa : Nat → Int32} {ky : Nat → Int32} {a1 : Int32} (E : mk_En p s m meth c cX5_bits 3 (some .int) ([.int a1] : List Value).toArray wsX5_bits yX5_bits.cls) (hA : ∀ q : Nat, s.heap.size ≤ q → A q) (hK : va_K (dC, dI) vwCl (tyz cI cZ cS) s) (R : Int32) {k_4 : Int32 → Int32 → Int32 → Option Int32} (hk_4 : ∀ (x0 : Int32) (x1 : Int32) (x2 : Int32), k_4 x0 x1 x2 = some R → ∀ (H : Heap) (locs : List Loc) (ls : Array Slot), va_P (dC, dI) vwCl (w_R cI cZ cS aR aRd aRm aRw aRs aRt aRc aRl aRh aRu aRx aRy aRk of op cr wn fp fs dk mm wk sg tb cs lw hg us de sa ky) H → va_D A (w_R cI cZ cS aR aRd aRm aRw aRs aRt aRc aRl aRh aRu aRx aRy aRk of op cr wn fp fs dk mm wk sg tb cs lw hg us de sa ky) → va_S A s.heap H locs → lv_has ls 3 [(0, .int x0), (1, .int x1), (2, .int x2)] → W p l e ({ frames := 0, cells := 0, slots := 0, locals := 0 } : Room) s m ([.int a1] : List Value).toArray below meth c H locs 0 0 (MQ below (mk_QR (dC, dI) vwCl (tyz cI cZ cS) A (w_R cI cZ cS aR aRd aRm aRw aRs aRt aRc aRl aRh aRu aRx aRy aRk of op cr wn fp fs dk mm wk sg tb cs lw hg us de sa ky) R) ([.int a1] : List Value).toArray s 0 0 A) (F0 m 4 ls [])) (x0 : Int32) (x1 : Int32) (x2 : Int32) (h : p_R_bits_4 k_4 x0 x1 x2 = some R) : ∀ (H : Heap) (locs : List Loc) (ls : Array Slot), va_P (dC, dI) vwCl (w_R cI cZ cS aR aRd aRm aRw aRs aRt aRc aRl aRh aRu aRx aRy aRk of op cr wn fp fs dk mm wk sg tb cs lw hg us de sa ky) H → va_D A (w_R cI cZ cS aR aRd aRm aRw aRs aRt aRc aRl aRh aRu aRx aRy aRk of op cr wn fp fs dk mm wk sg tb cs lw hg us de sa ky) → va_S A s.heap H locs → lv_has ls 3 [(0, .int x0), (1, .int x1), (2, .int x2)] → W p l e ({ frames := 0, cells := 0, slots := 0, locals := 0 } : Room) s m ([.int a1] : List Value).toArray below meth c H locs 0 0 (MQ below (mk_QR (dC, dI) vwCl (tyz cI cZ cS) A (w_R cI cZ cS aR aRd aRm aRw aRs aRt aRc aRl aRh aRu aRx aRy aRk of op cr wn fp fs dk mm wk sg tb cs lw hg us de sa ky) R) ([.int a1] : List Value).toArray s 0 0 A) (F0 m 4 ls []) := by
  intro H locs ls hP hD hS hl
  obtain ⟨⟨hx, hb, hml, hown, hts⟩, hrt, hlk, hN⟩ := id E
  have hown : s.vm.findClass RX5 = some m.cls := hown
  unfold p_R_bits_4 at h
  refine lv_iload_n hx hb dX5_bits_4 rfl (lv_at hl 2 rfl) ?_
  refine lv_bipush (v := 32) hx hb dX5_bits_5 (by decide) ?_
  refine lv_icmp_ge (tgt := 24) hx hb dX5_bits_7 (by decide) (fun c_1 => ?_) (fun c_1 => ?_)
  · replace h := (kp_if h).1 c_1
    refine lv_iload_n hx hb dX5_bits_24 rfl (lv_at hl 1 rfl) ?_
    cases h
    exact mk_iretR E hK hP hD hS dX5_bits_25
  · replace h := (kp_if h).2 c_1
    refine lv_iload_n hx hb dX5_bits_10 rfl (lv_at hl 1 rfl) ?_
    refine lv_iload_n hx hb dX5_bits_11 rfl (lv_at hl 0 rfl) ?_
    refine lv_iload_n hx hb dX5_bits_12 rfl (lv_at hl 2 rfl) ?_
    refine lv_ishr hx hb dX5_bits_13 ?_
    refine lv_iconst (v := 1) hx hb dX5_bits_14 (by decide) ?_
    refine lv_iand hx hb dX5_bits_15 ?_
    refine lv_iadd hx hb dX5_bits_16 ?_
    refine lv_topi (fun v_2 ev_2 => ?_)
    replace h := kp_kl h v_2 ev_2
    refine lv_istore_n (lv' := [(1, .int v_2), (0, .int x0), (2, .int x2)]) hx hb dX5_bits_17 rfl hl (by decide) rfl (fun ls hl => ?_)
    refine lv_iinc (v := x2 + 1) (lv' := [(2, .int (x2 + 1)), (1, .int v_2), (0, .int x0)]) hx hb dX5_bits_18 hl (k := 2) rfl rfl (by decide) rfl (fun ls hl => ?_)
    refine lv_goto (tgt := 4) hx hb dX5_bits_21 (by decide) ?_
    exact hk_4 x0 v_2 (x2 + 1) h H locs ls hP hD hS (lv_sub hl [2, 1, 0] rfl)
set_option maxHeartbeats 4000000 in
set_option maxRecDepth 100000 in
theorem l_R_bits_4 {p : Program} {l : Launch} {e : Env} {s : State} {m : MethodId} {below : List Frame} {meth : Method} {c : Code} {A : Nat → Prop} {dC : Nat → ClassId} {dI : Nat → Nat → Nat} {cI cZ cS : ClassId} {aR aRd aRm aRw aRs aRt aRc aRl aRh aRu aRx aRy aRk : Nat} {of : Int32} {op : Int32} {cr : Int32} {wn : Int32} {fp : Int32} {fs : Int32} {dk : Nat → Int32} {mm : Nat → Int32} {wk : Nat → Int32} {sg : Nat → Int32} {tb : Nat → Int32} {cs : Nat → Int32} {lw : Nat → Int32} {hg : Nat → Int32} {us : Nat → Int32} {de : Nat → Int32} {sa : Nat → Int32} {ky : Nat → Int32} {a1 : Int32} (E : mk_En p s m meth c cX5_bits 3 (some .int) ([.int a1] : List Value).toArray wsX5_bits yX5_bits.cls) (hA : ∀ q : Nat, s.heap.size ≤ q → A q) (hK : va_K (dC, dI) vwCl (tyz cI cZ cS) s) (R : Int32) : ∀ (n : Nat) (x0 : Int32) (x1 : Int32) (x2 : Int32), pl_R_bits_4 n x0 x1 x2 = some R → ∀ (H : Heap) (locs : List Loc) (ls : Array Slot), va_P (dC, dI) vwCl (w_R cI cZ cS aR aRd aRm aRw aRs aRt aRc aRl aRh aRu aRx aRy aRk of op cr wn fp fs dk mm wk sg tb cs lw hg us de sa ky) H → va_D A (w_R cI cZ cS aR aRd aRm aRw aRs aRt aRc aRl aRh aRu aRx aRy aRk of op cr wn fp fs dk mm wk sg tb cs lw hg us de sa ky) → va_S A s.heap H locs → lv_has ls 3 [(0, .int x0), (1, .int x1), (2, .int x2)] → W p l e ({ frames := 0, cells := 0, slots := 0, locals := 0 } : Room) s m ([.int a1] : List Value).toArray below meth c H locs 0 0 (MQ below (mk_QR (dC, dI) vwCl (tyz cI cZ cS) A (w_R cI cZ cS aR aRd aRm aRw aRs aRt aRc aRl aRh aRu aRx aRy aRk of op cr wn fp fs dk mm wk sg tb cs lw hg us de sa ky) R) ([.int a1] : List Value).toArray s 0 0 A) (F0 m 4 ls []) := by
  intro n
  induction n with
  | zero =>
    intro x0 x1 x2 h
    cases h
  | succ n ih =>
    intro x0 x1 x2 h
    exact b_R_bits_4 E hA hK R ih x0 x1 x2 h
set_option maxHeartbeats 4000000 in
set_option maxRecDepth 100000 in
theorem c_R_bits (l : Launch) (dC : Nat → ClassId) (dI : Nat → Nat → Nat) (cI cZ cS : ClassId) (aR aRd aRm aRw aRs aRt aRc aRl aRh aRu aRx aRy aRk : Nat) (of : Int32) (op : Int32) (cr : Int32) (wn : Int32) (fp : Int32) (fs : Int32) (dk : Nat → Int32) (mm : Nat → Int32) (wk : Nat → Int32) (sg : Nat → Int32) (tb : Nat → Int32) (cs : Nat → Int32) (lw : Nat → Int32) (hg : Nat → Int32) (us : Nat → Int32) (de : Nat → Int32) (sa : Nat → Int32) (ky : Nat → Int32) (a1 : Int32) : CtR l yX5_bits wsX5_bits ({ frames := 0, cells := 0, slots := 0, locals := 0 }) (dC, dI) vwCl (tyz cI cZ cS) [.int a1] (w_R cI cZ cS aR aRd aRm aRw aRs aRt aRc aRl aRh aRu aRx aRy aRk of op cr wn fp fs dk mm wk sg tb cs lw hg us de sa ky) (p_R_bits a1) := by
  intro R h
  refine mk_enter (Qc := (fun A => mk_QR (dC, dI) vwCl (tyz cI cZ cS) A (w_R cI cZ cS aR aRd aRm aRw aRs aRt aRc aRl aRh aRu aRx aRy aRk of op cr wn fp fs dk mm wk sg tb cs lw hg us de sa ky) R)) (by decide) rfl (Nat.le_of_ble_eq_true rfl) ?_
  intro p e s m below meth c A E hA hK H locs ls hP hD hS hl
  obtain ⟨⟨hx, hb, hml, hown, hts⟩, hrt, hlk, hN⟩ := id E
  have hown : s.vm.findClass RX5 = some m.cls := hown
  have hl : lv_has ls 3 [(0, .int a1)] := hl
  unfold p_R_bits at h
  refine lv_iconst (v := 0) hx hb dX5_bits_0 (by decide) ?_
  refine lv_istore_n (lv' := [(1, .int 0), (0, .int a1)]) hx hb dX5_bits_1 rfl hl (by decide) rfl (fun ls hl => ?_)
  refine lv_iconst (v := 0) hx hb dX5_bits_2 (by decide) ?_
  refine lv_istore_n (lv' := [(2, .int 0), (1, .int 0), (0, .int a1)]) hx hb dX5_bits_3 rfl hl (by decide) rfl (fun ls hl => ?_)
  exact l_R_bits_4 E hA hK R 1000 a1 0 0 h H locs ls hP hD hS (lv_sub hl [2, 1, 0] rfl)

