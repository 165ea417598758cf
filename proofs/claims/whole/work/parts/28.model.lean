/- Model.createTable(I)I -/
set_option maxRecDepth 20000 in
theorem mm_R_createTable_0 : Cond.fieldLink RX5 13 "JournaledTablesModel" "memory" "[I" ∈ wsX5_createTable := by decide +kernel
set_option maxRecDepth 20000 in
theorem iw_R_createTable_Model : ∀ w ∈ u_ws RX5 TX5 18, w ∈ wsX5_createTable := by decide +kernel
set_option maxRecDepth 20000 in
theorem mm_R_createTable_2 : Cond.fieldLink RX5 51 "JournaledTablesModel" "off" "Z" ∈ wsX5_createTable := by decide +kernel
set_option maxRecDepth 20000 in
theorem mm_R_createTable_3 : Cond.fieldLink RX5 66 "JournaledTablesModel" "open" "Z" ∈ wsX5_createTable := by decide +kernel
set_option maxHeartbeats 4000000 in
set_option maxRecDepth 100000 in
theorem b_R_createTable_55 {p : Program} {l : Launch} {e : Env} {s : State} {m : MethodId} {below : List Frame} {meth : Method} {c : Code} {A : Nat → Prop} {dC : Nat → ClassId} {dI : Nat → Nat → Nat} {cI cZ cS : ClassId} {aR aRd aRm aRw aRs aRt aRc aRl aRh aRu aRx aRy aRk : Nat} {of : Int32} {op : Int32} {cr : Int32} {wn : Int32} {fp : Int32} {fs : Int32} {dk : Nat → Int32} {wk : Nat → Int32} {sg : Nat → Int32} {tb : Nat → Int32} {cs : Nat → Int32} {lw : Nat → Int32} {hg : Nat → Int32} {us : Nat → Int32} {de : Nat → Int32} {sa : Nat → Int32} {ky : Nat → Int32} {a1 : Int32} (E : mk_En p s m meth c cX5_createTable 3 (some .int) ([.ref aR, .int a1] : List Value).toArray wsX5_createTable yX5_createTable.cls) (hA : ∀ q : Nat, s.heap.size ≤ q → A q) (hK : va_K (dC, dI) vwCl (tyz cI cZ cS) s) (R : Int32 × (Nat → Int32)) (x1 : Int32) (x2 : Int32) (mm : Nat → Int32) (h : p_R_createTable_55 of op x1 x2 mm = some R) : ∀ (H : Heap) (locs : List Loc) (ls : Array Slot), va_P (dC, dI) vwCl (w_R cI cZ cS aR aRd aRm aRw aRs aRt aRc aRl aRh aRu aRx aRy aRk of op cr wn fp fs dk mm wk sg tb cs lw hg us de sa ky) H → va_D A (w_R cI cZ cS aR aRd aRm aRw aRs aRt aRc aRl aRh aRu aRx aRy aRk of op cr wn fp fs dk mm wk sg tb cs lw hg us de sa ky) → va_S A s.heap H locs → lv_has ls 3 [(0, .ref aR), (1, .int x1), (2, .int x2)] → W p l e ({ frames := 0, cells := 0, slots := 0, locals := 0 } : Room) s m ([.ref aR, .int a1] : List Value).toArray below meth c H locs 0 0 (MQ below (mk_QI (dC, dI) vwCl (tyz cI cZ cS) A (fun u : (Nat → Int32) => w_R cI cZ cS aR aRd aRm aRw aRs aRt aRc aRl aRh aRu aRx aRy aRk of op cr wn fp fs dk u wk sg tb cs lw hg us de sa ky) R) ([.ref aR, .int a1] : List Value).toArray s 0 0 A) (F0 m 55 ls []) := by
  intro H locs ls hP hD hS hl
  obtain ⟨⟨hx, hb, hml, hown, hts⟩, hrt, hlk, hN⟩ := id E
  have hown : s.vm.findClass RX5 = some m.cls := hown
  unfold p_R_createTable_55 at h
  refine lv_iload_n hx hb dX5_createTable_55 rfl (lv_at hl 2 rfl) ?_
  refine lv_iconst (v := 5) hx hb dX5_createTable_56 (by decide) ?_
  refine lv_icmp_ne (tgt := 63) hx hb dX5_createTable_57 (by decide) (fun c_1 => ?_) (fun c_1 => ?_)
  · replace h := (kp_if h).2 c_1
    refine lv_aload_n hx hb dX5_createTable_63 rfl (lv_at hl 0 rfl) ?_
    refine va_get (D := (dC, dI)) (ci := 5) (v := .ref aRm) (C := RX5) (T := TX5) (N := 18) hx hb hts iw_R_createTable_Model hown hK hP 0 rfl rfl 1 (by decide) (hts _ mm_R_createTable_0) (fun _ h9 => h9) rfl dX5_createTable_64 ?_
    refine lv_iload_n hx hb dX5_createTable_67 rfl (lv_at hl 2 rfl) ?_
    refine lv_iload_n hx hb dX5_createTable_68 rfl (lv_at hl 1 rfl) ?_
    obtain ⟨hc_2, h⟩ := kp_in h
    refine va_iast hx hb hK hP hD hS 2 0 rfl rfl (kx_of hc_2) dX5_createTable_69 (fun H locs hP hD hS => ?_)
    have hP : va_P (dC, dI) vwCl (w_R cI cZ cS aR aRd aRm aRw aRs aRt aRc aRl aRh aRu aRx aRy aRk of op cr wn fp fs dk (upd mm x2.toNatClampNeg x1) wk sg tb cs lw hg us de sa ky) H := hP
    have hD : va_D A (w_R cI cZ cS aR aRd aRm aRw aRs aRt aRc aRl aRh aRu aRx aRy aRk of op cr wn fp fs dk (upd mm x2.toNatClampNeg x1) wk sg tb cs lw hg us de sa ky) := hD
    refine lv_iload_n hx hb dX5_createTable_70 rfl (lv_at hl 2 rfl) ?_
    cases h
    exact mk_iret E hK hP hD hS dX5_createTable_71
  · replace h := (kp_if h).1 c_1
    refine lv_bipush (v := (-8)) hx hb dX5_createTable_60 (by decide) ?_
    cases h
    exact mk_iret E hK hP hD hS dX5_createTable_62
set_option maxHeartbeats 4000000 in
set_option maxRecDepth 100000 in
theorem b_R_createTable_35 {p : Program} {l : Launch} {e : Env} {s : State} {m : MethodId} {below : List Frame} {meth : Method} {c : Code} {A : Nat → Prop} {dC : Nat → ClassId} {dI : Nat → Nat → Nat} {cI cZ cS : ClassId} {aR aRd aRm aRw aRs aRt aRc aRl aRh aRu aRx aRy aRk : Nat} {of : Int32} {op : Int32} {cr : Int32} {wn : Int32} {fp : Int32} {fs : Int32} {dk : Nat → Int32} {wk : Nat → Int32} {sg : Nat → Int32} {tb : Nat → Int32} {cs : Nat → Int32} {lw : Nat → Int32} {hg : Nat → Int32} {us : Nat → Int32} {de : Nat → Int32} {sa : Nat → Int32} {ky : Nat → Int32} {a1 : Int32} (E : mk_En p s m meth c cX5_createTable 3 (some .int) ([.ref aR, .int a1] : List Value).toArray wsX5_createTable yX5_createTable.cls) (hA : ∀ q : Nat, s.heap.size ≤ q → A q) (hK : va_K (dC, dI) vwCl (tyz cI cZ cS) s) (R : Int32 × (Nat → Int32)) {k_35 : Int32 → Int32 → (Nat → Int32) → Option (Int32 × (Nat → Int32))} (hk_35 : ∀ (x1 : Int32) (x2 : Int32) (mm : Nat → Int32), k_35 x1 x2 mm = some R → ∀ (H : Heap) (locs : List Loc) (ls : Array Slot), va_P (dC, dI) vwCl (w_R cI cZ cS aR aRd aRm aRw aRs aRt aRc aRl aRh aRu aRx aRy aRk of op cr wn fp fs dk mm wk sg tb cs lw hg us de sa ky) H → va_D A (w_R cI cZ cS aR aRd aRm aRw aRs aRt aRc aRl aRh aRu aRx aRy aRk of op cr wn fp fs dk mm wk sg tb cs lw hg us de sa ky) → va_S A s.heap H locs → lv_has ls 3 [(0, .ref aR), (1, .int x1), (2, .int x2)] → W p l e ({ frames := 0, cells := 0, slots := 0, locals := 0 } : Room) s m ([.ref aR, .int a1] : List Value).toArray below meth c H locs 0 0 (MQ below (mk_QI (dC, dI) vwCl (tyz cI cZ cS) A (fun u : (Nat → Int32) => w_R cI cZ cS aR aRd aRm aRw aRs aRt aRc aRl aRh aRu aRx aRy aRk of op cr wn fp fs dk u wk sg tb cs lw hg us de sa ky) R) ([.ref aR, .int a1] : List Value).toArray s 0 0 A) (F0 m 35 ls [])) (x1 : Int32) (x2 : Int32) (mm : Nat → Int32) (h : p_R_createTable_35 of op k_35 x1 x2 mm = some R) : ∀ (H : Heap) (locs : List Loc) (ls : Array Slot), va_P (dC, dI) vwCl (w_R cI cZ cS aR aRd aRm aRw aRs aRt aRc aRl aRh aRu aRx aRy aRk of op cr wn fp fs dk mm wk sg tb cs lw hg us de sa ky) H → va_D A (w_R cI cZ cS aR aRd aRm aRw aRs aRt aRc aRl aRh aRu aRx aRy aRk of op cr wn fp fs dk mm wk sg tb cs lw hg us de sa ky) → va_S A s.heap H locs → lv_has ls 3 [(0, .ref aR), (1, .int x1), (2, .int x2)] → W p l e ({ frames := 0, cells := 0, slots := 0, locals := 0 } : Room) s m ([.ref aR, .int a1] : List Value).toArray below meth c H locs 0 0 (MQ below (mk_QI (dC, dI) vwCl (tyz cI cZ cS) A (fun u : (Nat → Int32) => w_R cI cZ cS aR aRd aRm aRw aRs aRt aRc aRl aRh aRu aRx aRy aRk of op cr wn fp fs dk u wk sg tb cs lw hg us de sa ky) R) ([.ref aR, .int a1] : List Value).toArray s 0 0 A) (F0 m 35 ls []) := by
  intro H locs ls hP hD hS hl
  obtain ⟨⟨hx, hb, hml, hown, hts⟩, hrt, hlk, hN⟩ := id E
  have hown : s.vm.findClass RX5 = some m.cls := hown
  unfold p_R_createTable_35 at h
  refine lv_iload_n hx hb dX5_createTable_35 rfl (lv_at hl 2 rfl) ?_
  refine lv_iconst (v := 5) hx hb dX5_createTable_36 (by decide) ?_
  refine lv_icmp_ge (tgt := 55) hx hb dX5_createTable_37 (by decide) (fun c_3 => ?_) (fun c_3 => ?_)
  · replace h := (kp_if h).1 c_3
    exact b_R_createTable_55 E hA hK R x1 x2 mm h H locs ls hP hD hS (lv_sub hl [0, 1, 2] rfl)
  · replace h := (kp_if h).2 c_3
    refine lv_aload_n hx hb dX5_createTable_40 rfl (lv_at hl 0 rfl) ?_
    refine va_get (D := (dC, dI)) (ci := 5) (v := .ref aRm) (C := RX5) (T := TX5) (N := 18) hx hb hts iw_R_createTable_Model hown hK hP 0 rfl rfl 1 (by decide) (hts _ mm_R_createTable_0) (fun _ h9 => h9) rfl dX5_createTable_41 ?_
    refine lv_iload_n hx hb dX5_createTable_44 rfl (lv_at hl 2 rfl) ?_
    obtain ⟨hc_4, h⟩ := kp_in h
    refine va_iald hx hb hK hP 2 0 rfl rfl (kx_of hc_4) dX5_createTable_45 ?_
    refine lv_if_eq (tgt := 55) hx hb dX5_createTable_46 (by decide) (fun c_5 => ?_) (fun c_5 => ?_)
    · replace h := (kp_if h).1 c_5
      exact b_R_createTable_55 E hA hK R x1 x2 mm h H locs ls hP hD hS (lv_sub hl [0, 1, 2] rfl)
    · replace h := (kp_if h).2 c_5
      refine lv_iinc (v := x2 + 1) (lv' := [(2, .int (x2 + 1)), (0, .ref aR), (1, .int x1)]) hx hb dX5_createTable_49 hl (k := 2) rfl rfl (by decide) rfl (fun ls hl => ?_)
      refine lv_goto (tgt := 35) hx hb dX5_createTable_52 (by decide) ?_
      exact hk_35 x1 (x2 + 1) mm h H locs ls hP hD hS (lv_sub hl [1, 2, 0] rfl)
set_option maxHeartbeats 4000000 in
set_option maxRecDepth 100000 in
theorem l_R_createTable_35 {p : Program} {l : Launch} {e : Env} {s : State} {m : MethodId} {below : List Frame} {meth : Method} {c : Code} {A : Nat → Prop} {dC : Nat → ClassId} {dI : Nat → Nat → Nat} {cI cZ cS : ClassId} {aR aRd aRm aRw aRs aRt aRc aRl aRh aRu aRx aRy aRk : Nat} {of : Int32} {op : Int32} {cr : Int32} {wn : Int32} {fp : Int32} {fs : Int32} {dk : Nat → Int32} {wk : Nat → Int32} {sg : Nat → Int32} {tb : Nat → Int32} {cs : Nat → Int32} {lw : Nat → Int32} {hg : Nat → Int32} {us : Nat → Int32} {de : Nat → Int32} {sa : Nat → Int32} {ky : Nat → Int32} {a1 : Int32} (E : mk_En p s m meth c cX5_createTable 3 (some .int) ([.ref aR, .int a1] : List Value).toArray wsX5_createTable yX5_createTable.cls) (hA : ∀ q : Nat, s.heap.size ≤ q → A q) (hK : va_K (dC, dI) vwCl (tyz cI cZ cS) s) (R : Int32 × (Nat → Int32)) : ∀ (n : Nat) (x1 : Int32) (x2 : Int32) (mm : Nat → Int32), pl_R_createTable_35 of op n x1 x2 mm = some R → ∀ (H : Heap) (locs : List Loc) (ls : Array Slot), va_P (dC, dI) vwCl (w_R cI cZ cS aR aRd aRm aRw aRs aRt aRc aRl aRh aRu aRx aRy aRk of op cr wn fp fs dk mm wk sg tb cs lw hg us de sa ky) H → va_D A (w_R cI cZ cS aR aRd aRm aRw aRs aRt aRc aRl aRh aRu aRx aRy aRk of op cr wn fp fs dk mm wk sg tb cs lw hg us de sa ky) → va_S A s.heap H locs → lv_has ls 3 [(0, .ref aR), (1, .int x1), (2, .int x2)] → W p l e ({ frames := 0, cells := 0, slots := 0, locals := 0 } : Room) s m ([.ref aR, .int a1] : List Value).toArray below meth c H locs 0 0 (MQ below (mk_QI (dC, dI) vwCl (tyz cI cZ cS) A (fun u : (Nat → Int32) => w_R cI cZ cS aR aRd aRm aRw aRs aRt aRc aRl aRh aRu aRx aRy aRk of op cr wn fp fs dk u wk sg tb cs lw hg us de sa ky) R) ([.ref aR, .int a1] : List Value).toArray s 0 0 A) (F0 m 35 ls []) := by
  intro n
  induction n with
  | zero =>
    intro x1 x2 mm h
    cases h
  | succ n ih =>
    intro x1 x2 mm h
    exact b_R_createTable_35 E hA hK R ih x1 x2 mm h
set_option maxHeartbeats 4000000 in
set_option maxRecDepth 100000 in
theorem b_R_createTable_20 {p : Program} {l : Launch} {e : Env} {s : State} {m : MethodId} {below : List Frame} {meth : Method} {c : Code} {A : Nat → Prop} {dC : Nat → ClassId} {dI : Nat → Nat → Nat} {cI cZ cS : ClassId} {aR aRd aRm aRw aRs aRt aRc aRl aRh aRu aRx aRy aRk : Nat} {of : Int32} {op : Int32} {cr : Int32} {wn : Int32} {fp : Int32} {fs : Int32} {dk : Nat → Int32} {wk : Nat → Int32} {sg : Nat → Int32} {tb : Nat → Int32} {cs : Nat → Int32} {lw : Nat → Int32} {hg : Nat → Int32} {us : Nat → Int32} {de : Nat → Int32} {sa : Nat → Int32} {ky : Nat → Int32} {a1 : Int32} (E : mk_En p s m meth c cX5_createTable 3 (some .int) ([.ref aR, .int a1] : List Value).toArray wsX5_createTable yX5_createTable.cls) (hA : ∀ q : Nat, s.heap.size ≤ q → A q) (hK : va_K (dC, dI) vwCl (tyz cI cZ cS) s) (R : Int32 × (Nat → Int32)) (mm : Nat → Int32) (h : p_R_createTable_20 of op mm = some R) : ∀ (H : Heap) (locs : List Loc) (ls : Array Slot), va_P (dC, dI) vwCl (w_R cI cZ cS aR aRd aRm aRw aRs aRt aRc aRl aRh aRu aRx aRy aRk of op cr wn fp fs dk mm wk sg tb cs lw hg us de sa ky) H → va_D A (w_R cI cZ cS aR aRd aRm aRw aRs aRt aRc aRl aRh aRu aRx aRy aRk of op cr wn fp fs dk mm wk sg tb cs lw hg us de sa ky) → va_S A s.heap H locs → lv_has ls 3 [] → W p l e ({ frames := 0, cells := 0, slots := 0, locals := 0 } : Room) s m ([.ref aR, .int a1] : List Value).toArray below meth c H locs 0 0 (MQ below (mk_QI (dC, dI) vwCl (tyz cI cZ cS) A (fun u : (Nat → Int32) => w_R cI cZ cS aR aRd aRm aRw aRs aRt aRc aRl aRh aRu aRx aRy aRk of op cr wn fp fs dk u wk sg tb cs lw hg us de sa ky) R) ([.ref aR, .int a1] : List Value).toArray s 0 0 A) (F0 m 20 ls []) := by
  intro H locs ls hP hD hS hl
  obtain ⟨⟨hx, hb, hml, hown, hts⟩, hrt, hlk, hN⟩ := id E
  have hown : s.vm.findClass RX5 = some m.cls := hown
  unfold p_R_createTable_20 at h
  refine lv_bipush (v := (-4)) hx hb dX5_createTable_20 (by decide) ?_
  cases h
  exact mk_iret E hK hP hD hS dX5_createTable_22
set_option maxHeartbeats 4000000 in
set_option maxRecDepth 100000 in
theorem c_R_createTable (l : Launch) (dC : Nat → ClassId) (dI : Nat → Nat → Nat) (cI cZ cS : ClassId) (aR aRd aRm aRw aRs aRt aRc aRl aRh aRu aRx aRy aRk : Nat) (of : Int32) (op : Int32) (cr : Int32) (wn : Int32) (fp : Int32) (fs : Int32) (dk : Nat → Int32) (mm : Nat → Int32) (wk : Nat → Int32) (sg : Nat → Int32) (tb : Nat → Int32) (cs : Nat → Int32) (lw : Nat → Int32) (hg : Nat → Int32) (us : Nat → Int32) (de : Nat → Int32) (sa : Nat → Int32) (ky : Nat → Int32) (a1 : Int32) : CtI l yX5_createTable wsX5_createTable ({ frames := 0, cells := 0, slots := 0, locals := 0 }) (dC, dI) vwCl (tyz cI cZ cS) [.ref aR, .int a1] (w_R cI cZ cS aR aRd aRm aRw aRs aRt aRc aRl aRh aRu aRx aRy aRk of op cr wn fp fs dk mm wk sg tb cs lw hg us de sa ky) (fun u : (Nat → Int32) => w_R cI cZ cS aR aRd aRm aRw aRs aRt aRc aRl aRh aRu aRx aRy aRk of op cr wn fp fs dk u wk sg tb cs lw hg us de sa ky) (p_R_createTable of op mm a1) := by
  intro R h
  refine mk_enter (Qc := (fun A => mk_QI (dC, dI) vwCl (tyz cI cZ cS) A (fun u : (Nat → Int32) => w_R cI cZ cS aR aRd aRm aRw aRs aRt aRc aRl aRh aRu aRx aRy aRk of op cr wn fp fs dk u wk sg tb cs lw hg us de sa ky) R)) (by decide) rfl (Nat.le_of_ble_eq_true rfl) ?_
  intro p e s m below meth c A E hA hK H locs ls hP hD hS hl
  obtain ⟨⟨hx, hb, hml, hown, hts⟩, hrt, hlk, hN⟩ := id E
  have hown : s.vm.findClass RX5 = some m.cls := hown
  have hl : lv_has ls 3 [(0, .ref aR), (1, .int a1)] := hl
  unfold p_R_createTable at h
  refine lv_aload_n hx hb dX5_createTable_0 rfl (lv_at hl 0 rfl) ?_
  refine va_get (D := (dC, dI)) (ci := 5) (v := .int of) (C := RX5) (T := TX5) (N := 18) hx hb hts iw_R_createTable_Model hown hK hP 0 rfl rfl 4 (by decide) (hts _ mm_R_createTable_2) (fun _ h9 => h9) rfl dX5_createTable_1 ?_
  refine lv_if_eq (tgt := 9) hx hb dX5_createTable_4 (by decide) (fun c_6 => ?_) (fun c_6 => ?_)
  · replace h := (kp_if h).1 c_6
    refine lv_iload_n hx hb dX5_createTable_9 rfl (lv_at hl 1 rfl) ?_
    refine lv_iconst (v := 2) hx hb dX5_createTable_10 (by decide) ?_
    refine lv_icmp_lt (tgt := 20) hx hb dX5_createTable_11 (by decide) (fun c_7 => ?_) (fun c_7 => ?_)
    · replace h := (kp_if h).1 c_7
      exact b_R_createTable_20 E hA hK R mm h H locs ls hP hD hS (lv_sub hl [] rfl)
    · replace h := (kp_if h).2 c_7
      refine lv_iload_n hx hb dX5_createTable_14 rfl (lv_at hl 1 rfl) ?_
      refine lv_bipush (v := 6) hx hb dX5_createTable_15 (by decide) ?_
      refine lv_icmp_le (tgt := 23) hx hb dX5_createTable_17 (by decide) (fun c_8 => ?_) (fun c_8 => ?_)
      · replace h := (kp_if h).1 c_8
        refine lv_aload_n hx hb dX5_createTable_23 rfl (lv_at hl 0 rfl) ?_
        refine va_get (D := (dC, dI)) (ci := 5) (v := .int op) (C := RX5) (T := TX5) (N := 18) hx hb hts iw_R_createTable_Model hown hK hP 0 rfl rfl 5 (by decide) (hts _ mm_R_createTable_3) (fun _ h9 => h9) rfl dX5_createTable_24 ?_
        refine lv_if_ne (tgt := 33) hx hb dX5_createTable_27 (by decide) (fun c_9 => ?_) (fun c_9 => ?_)
        · replace h := (kp_if h).2 c_9
          refine lv_iconst (v := 0) hx hb dX5_createTable_33 (by decide) ?_
          refine lv_istore_n (lv' := [(2, .int 0), (0, .ref aR), (1, .int a1)]) hx hb dX5_createTable_34 rfl hl (by decide) rfl (fun ls hl => ?_)
          exact l_R_createTable_35 E hA hK R 1000 a1 0 mm h H locs ls hP hD hS (lv_sub hl [1, 2, 0] rfl)
        · replace h := (kp_if h).1 c_9
          refine lv_bipush (v := (-2)) hx hb dX5_createTable_30 (by decide) ?_
          cases h
          exact mk_iret E hK hP hD hS dX5_createTable_32
      · replace h := (kp_if h).2 c_8
        exact b_R_createTable_20 E hA hK R mm h H locs ls hP hD hS (lv_sub hl [] rfl)
  · replace h := (kp_if h).2 c_6
    refine lv_iconst (v := (-1)) hx hb dX5_createTable_7 (by decide) ?_
    cases h
    exact mk_iret E hK hP hD hS dX5_createTable_8

/- Model.dropTable(I)I -/
set_option maxRecDepth 20000 in
theorem mm_R_dropTable_0 : Cond.fieldLink RX5 13 "JournaledTablesModel" "memory" "[I" ∈ wsX5_dropTable := by decide +kernel
set_option maxRecDepth 20000 in
theorem iw_R_dropTable_Model : ∀ w ∈ u_ws RX5 TX5 18, w ∈ wsX5_dropTable := by decide +kernel
set_option maxRecDepth 20000 in
theorem mm_R_dropTable_2 : Cond.fieldLink RX5 51 "JournaledTablesModel" "off" "Z" ∈ wsX5_dropTable := by decide +kernel
set_option maxRecDepth 20000 in
theorem mm_R_dropTable_3 : Cond.fieldLink RX5 66 "JournaledTablesModel" "open" "Z" ∈ wsX5_dropTable := by decide +kernel
set_option maxHeartbeats 4000000 in
set_option maxRecDepth 100000 in
theorem b_R_dropTable_58 {p : Program} {l : Launch} {e : Env} {s : State} {m : MethodId} {below : List Frame} {meth : Method} {c : Code} {A : Nat → Prop} {dC : Nat → ClassId} {dI : Nat → Nat → Nat} {cI cZ cS : ClassId} {aR aRd aRm aRw aRs aRt aRc aRl aRh aRu aRx aRy aRk : Nat} {of : Int32} {op : Int32} {cr : Int32} {wn : Int32} {fp : Int32} {fs : Int32} {dk : Nat → Int32} {wk : Nat → Int32} {sg : Nat → Int32} {tb : Nat → Int32} {cs : Nat → Int32} {lw : Nat → Int32} {hg : Nat → Int32} {us : Nat → Int32} {sa : Nat → Int32} {ky : Nat → Int32} {a1 : Int32} (E : mk_En p s m meth c cX5_dropTable 3 (some .int) ([.ref aR, .int a1] : List Value).toArray wsX5_dropTable yX5_dropTable.cls) (hA : ∀ q : Nat, s.heap.size ≤ q → A q) (hK : va_K (dC, dI) vwCl (tyz cI cZ cS) s) (R : Int32 × (Nat → Int32) × (Nat → Int32)) {k_32 : Int32 → Int32 → (Nat → Int32) → (Nat → Int32) → Option (Int32 × (Nat → Int32) × (Nat → Int32))} (hk_32 : ∀ (x1 : Int32) (x2 : Int32) (mm : Nat → Int32) (de : Nat → Int32), k_32 x1 x2 mm de = some R → ∀ (H : Heap) (locs : List Loc) (ls : Array Slot), va_P (dC, dI) vwCl (w_R cI cZ cS aR aRd aRm aRw aRs aRt aRc aRl aRh aRu aRx aRy aRk of op cr wn fp fs dk mm wk sg tb cs lw hg us de sa ky) H → va_D A (w_R cI cZ cS aR aRd aRm aRw aRs aRt aRc aRl aRh aRu aRx aRy aRk of op cr wn fp fs dk mm wk sg tb cs lw hg us de sa ky) → va_S A s.heap H locs → lv_has ls 3 [(0, .ref aR), (1, .int x1), (2, .int x2)] → W p l e ({ frames := 1, cells := 0, slots := 0, locals := 22 } : Room) s m ([.ref aR, .int a1] : List Value).toArray below meth c H locs 0 0 (MQ below (mk_QI (dC, dI) vwCl (tyz cI cZ cS) A (fun u : (Nat → Int32) × (Nat → Int32) => w_R cI cZ cS aR aRd aRm aRw aRs aRt aRc aRl aRh aRu aRx aRy aRk of op cr wn fp fs dk u.1 wk sg tb cs lw hg us u.2 sa ky) R) ([.ref aR, .int a1] : List Value).toArray s 0 0 A) (F0 m 32 ls [])) (x1 : Int32) (x2 : Int32) (mm : Nat → Int32) (de : Nat → Int32) (h : p_R_dropTable_58 of op tb k_32 x1 x2 mm de = some R) : ∀ (H : Heap) (locs : List Loc) (ls : Array Slot), va_P (dC, dI) vwCl (w_R cI cZ cS aR aRd aRm aRw aRs aRt aRc aRl aRh aRu aRx aRy aRk of op cr wn fp fs dk mm wk sg tb cs lw hg us de sa ky) H → va_D A (w_R cI cZ cS aR aRd aRm aRw aRs aRt aRc aRl aRh aRu aRx aRy aRk of op cr wn fp fs dk mm wk sg tb cs lw hg us de sa ky) → va_S A s.heap H locs → lv_has ls 3 [(0, .ref aR), (1, .int x1), (2, .int x2)] → W p l e ({ frames := 1, cells := 0, slots := 0, locals := 22 } : Room) s m ([.ref aR, .int a1] : List Value).toArray below meth c H locs 0 0 (MQ below (mk_QI (dC, dI) vwCl (tyz cI cZ cS) A (fun u : (Nat → Int32) × (Nat → Int32) => w_R cI cZ cS aR aRd aRm aRw aRs aRt aRc aRl aRh aRu aRx aRy aRk of op cr wn fp fs dk u.1 wk sg tb cs lw hg us u.2 sa ky) R) ([.ref aR, .int a1] : List Value).toArray s 0 0 A) (F0 m 58 ls []) := by
  intro H locs ls hP hD hS hl
  obtain ⟨⟨hx, hb, hml, hown, hts⟩, hrt, hlk, hN⟩ := id E
  have hown : s.vm.findClass RX5 = some m.cls := hown
  unfold p_R_dropTable_58 at h
  refine lv_iinc (v := x2 + 1) (lv' := [(2, .int (x2 + 1)), (0, .ref aR), (1, .int x1)]) hx hb dX5_dropTable_58 hl (k := 2) rfl rfl (by decide) rfl (fun ls hl => ?_)
  refine lv_goto (tgt := 32) hx hb dX5_dropTable_61 (by decide) ?_
  exact hk_32 x1 (x2 + 1) mm de h H locs ls hP hD hS (lv_sub hl [1, 2, 0] rfl)
set_option maxHeartbeats 4000000 in
set_option maxRecDepth 100000 in
theorem b_R_dropTable_32 {p : Program} {l : Launch} {e : Env} {s : State} {m : MethodId} {below : List Frame} {meth : Method} {c : Code} {A : Nat → Prop} {dC : Nat → ClassId} {dI : Nat → Nat → Nat} {cI cZ cS : ClassId} {aR aRd aRm aRw aRs aRt aRc aRl aRh aRu aRx aRy aRk : Nat} {of : Int32} {op : Int32} {cr : Int32} {wn : Int32} {fp : Int32} {fs : Int32} {dk : Nat → Int32} {wk : Nat → Int32} {sg : Nat → Int32} {tb : Nat → Int32} {cs : Nat → Int32} {lw : Nat → Int32} {hg : Nat → Int32} {us : Nat → Int32} {sa : Nat → Int32} {ky : Nat → Int32} {a1 : Int32} (E : mk_En p s m meth c cX5_dropTable 3 (some .int) ([.ref aR, .int a1] : List Value).toArray wsX5_dropTable yX5_dropTable.cls) (hA : ∀ q : Nat, s.heap.size ≤ q → A q) (hK : va_K (dC, dI) vwCl (tyz cI cZ cS) s) (R : Int32 × (Nat → Int32) × (Nat → Int32)) {k_32 : Int32 → Int32 → (Nat → Int32) → (Nat → Int32) → Option (Int32 × (Nat → Int32) × (Nat → Int32))} (hk_32 : ∀ (x1 : Int32) (x2 : Int32) (mm : Nat → Int32) (de : Nat → Int32), k_32 x1 x2 mm de = some R → ∀ (H : Heap) (locs : List Loc) (ls : Array Slot), va_P (dC, dI) vwCl (w_R cI cZ cS aR aRd aRm aRw aRs aRt aRc aRl aRh aRu aRx aRy aRk of op cr wn fp fs dk mm wk sg tb cs lw hg us de sa ky) H → va_D A (w_R cI cZ cS aR aRd aRm aRw aRs aRt aRc aRl aRh aRu aRx aRy aRk of op cr wn fp fs dk mm wk sg tb cs lw hg us de sa ky) → va_S A s.heap H locs → lv_has ls 3 [(0, .ref aR), (1, .int x1), (2, .int x2)] → W p l e ({ frames := 1, cells := 0, slots := 0, locals := 22 } : Room) s m ([.ref aR, .int a1] : List Value).toArray below meth c H locs 0 0 (MQ below (mk_QI (dC, dI) vwCl (tyz cI cZ cS) A (fun u : (Nat → Int32) × (Nat → Int32) => w_R cI cZ cS aR aRd aRm aRw aRs aRt aRc aRl aRh aRu aRx aRy aRk of op cr wn fp fs dk u.1 wk sg tb cs lw hg us u.2 sa ky) R) ([.ref aR, .int a1] : List Value).toArray s 0 0 A) (F0 m 32 ls [])) (x1 : Int32) (x2 : Int32) (mm : Nat → Int32) (de : Nat → Int32) (h : p_R_dropTable_32 of op tb k_32 x1 x2 mm de = some R) : ∀ (H : Heap) (locs : List Loc) (ls : Array Slot), va_P (dC, dI) vwCl (w_R cI cZ cS aR aRd aRm aRw aRs aRt aRc aRl aRh aRu aRx aRy aRk of op cr wn fp fs dk mm wk sg tb cs lw hg us de sa ky) H → va_D A (w_R cI cZ cS aR aRd aRm aRw aRs aRt aRc aRl aRh aRu aRx aRy aRk of op cr wn fp fs dk mm wk sg tb cs lw hg us de sa ky) → va_S A s.heap H locs → lv_has ls 3 [(0, .ref aR), (1, .int x1), (2, .int x2)] → W p l e ({ frames := 1, cells := 0, slots := 0, locals := 22 } : Room) s m ([.ref aR, .int a1] : List Value).toArray below meth c H locs 0 0 (MQ below (mk_QI (dC, dI) vwCl (tyz cI cZ cS) A (fun u : (Nat → Int32) × (Nat → Int32) => w_R cI cZ cS aR aRd aRm aRw aRs aRt aRc aRl aRh aRu aRx aRy aRk of op cr wn fp fs dk u.1 wk sg tb cs lw hg us u.2 sa ky) R) ([.ref aR, .int a1] : List Value).toArray s 0 0 A) (F0 m 32 ls []) := by
  intro H locs ls hP hD hS hl
  obtain ⟨⟨hx, hb, hml, hown, hts⟩, hrt, hlk, hN⟩ := id E
  have hown : s.vm.findClass RX5 = some m.cls := hown
  unfold p_R_dropTable_32 at h
  refine lv_iload_n hx hb dX5_dropTable_32 rfl (lv_at hl 2 rfl) ?_
  refine lv_bipush (v := 16) hx hb dX5_dropTable_33 (by decide) ?_
  refine lv_icmp_ge (tgt := 64) hx hb dX5_dropTable_35 (by decide) (fun c_1 => ?_) (fun c_1 => ?_)
  · replace h := (kp_if h).1 c_1
    refine lv_aload_n hx hb dX5_dropTable_64 rfl (lv_at hl 0 rfl) ?_
    refine va_get (D := (dC, dI)) (ci := 5) (v := .ref aRm) (C := RX5) (T := TX5) (N := 18) hx hb hts iw_R_dropTable_Model hown hK hP 0 rfl rfl 1 (by decide) (hts _ mm_R_dropTable_0) (fun _ h9 => h9) rfl dX5_dropTable_65 ?_
    refine lv_iload_n hx hb dX5_dropTable_68 rfl (lv_at hl 1 rfl) ?_
    refine lv_iconst (v := 0) hx hb dX5_dropTable_69 (by decide) ?_
    obtain ⟨hc_2, h⟩ := kp_in h
    refine va_iast hx hb hK hP hD hS 2 0 rfl rfl (kx_of hc_2) dX5_dropTable_70 (fun H locs hP hD hS => ?_)
    have hP : va_P (dC, dI) vwCl (w_R cI cZ cS aR aRd aRm aRw aRs aRt aRc aRl aRh aRu aRx aRy aRk of op cr wn fp fs dk (upd mm x1.toNatClampNeg 0) wk sg tb cs lw hg us de sa ky) H := hP
    have hD : va_D A (w_R cI cZ cS aR aRd aRm aRw aRs aRt aRc aRl aRh aRu aRx aRy aRk of op cr wn fp fs dk (upd mm x1.toNatClampNeg 0) wk sg tb cs lw hg us de sa ky) := hD
    refine lv_aload_n hx hb dX5_dropTable_71 rfl (lv_at hl 0 rfl) ?_
    refine va_get (D := (dC, dI)) (ci := 5) (v := .ref aRm) (C := RX5) (T := TX5) (N := 18) hx hb hts iw_R_dropTable_Model hown hK hP 0 rfl rfl 1 (by decide) (hts _ mm_R_dropTable_0) (fun _ h9 => h9) rfl dX5_dropTable_72 ?_
    refine lv_bipush (v := 8) hx hb dX5_dropTable_75 (by decide) ?_
    refine lv_iload_n hx hb dX5_dropTable_77 rfl (lv_at hl 1 rfl) ?_
    refine lv_iadd hx hb dX5_dropTable_78 ?_
    refine lv_iconst (v := 0) hx hb dX5_dropTable_79 (by decide) ?_
    obtain ⟨hc_3, h⟩ := kp_in h
    refine va_iast hx hb hK hP hD hS 2 0 rfl rfl (kx_of hc_3) dX5_dropTable_80 (fun H locs hP hD hS => ?_)
    have hP : va_P (dC, dI) vwCl (w_R cI cZ cS aR aRd aRm aRw aRs aRt aRc aRl aRh aRu aRx aRy aRk of op cr wn fp fs dk (upd (upd mm x1.toNatClampNeg 0) (8 + x1).toNatClampNeg 0) wk sg tb cs lw hg us de sa ky) H := hP
    have hD : va_D A (w_R cI cZ cS aR aRd aRm aRw aRs aRt aRc aRl aRh aRu aRx aRy aRk of op cr wn fp fs dk (upd (upd mm x1.toNatClampNeg 0) (8 + x1).toNatClampNeg 0) wk sg tb cs lw hg us de sa ky) := hD
    refine lv_aload_n hx hb dX5_dropTable_81 rfl (lv_at hl 0 rfl) ?_
    refine lv_iload_n hx hb dX5_dropTable_82 rfl (lv_at hl 1 rfl) ?_
    obtain ⟨r_4, hr_4, h⟩ := kp_bind h
    refine mk_contV (w := w_R cI cZ cS aR aRd aRm aRw aRs aRt aRc aRl aRh aRu aRx aRy aRk of op cr wn fp fs dk (upd (upd mm x1.toNatClampNeg 0) (8 + x1).toNatClampNeg 0) wk sg tb cs lw hg us de sa ky) (w0 := w_R cI cZ cS aR aRd aRm aRw aRs aRt aRc aRl aRh aRu aRx aRy aRk of op cr wn fp fs dk (upd (upd mm x1.toNatClampNeg 0) (8 + x1).toNatClampNeg 0) wk sg tb cs lw hg us de sa ky) (wr := []) (w2 := w_R cI cZ cS aR aRd aRm aRw aRs aRt aRc aRl aRh aRu aRx aRy aRk of op cr wn fp fs dk (upd (upd mm x1.toNatClampNeg 0) (8 + x1).toNatClampNeg 0) wk sg tb cs lw hg us r_4 sa ky) hP hD hS hA [0, 1, 2, 3, 4, 5, 6, 7, 8, 9, 10, 11, 12] [] rfl rfl (by decide) (by decide) [0, 1, 2, 3, 4, 5, 6, 7, 8, 9, 10, 11, 12] rfl (by decide) (va_runV (As := [.int x1]) (rest := []) ⟨hx, hb, hml, hown, hts⟩ (c_R_change l dC dI cI cZ cS aR aRd aRm aRw aRs aRt aRc aRl aRh aRu aRx aRy aRk of op cr wn fp fs dk (upd (upd mm x1.toNatClampNeg 0) (8 + x1).toNatClampNeg 0) wk sg tb cs lw hg us de sa ky x1 r_4 hr_4 H.size) (cwV 1 hts gX5_dropTable_X5_change rfl rfl rfl (by decide +kernel) ⟨Nat.le_of_ble_eq_true rfl, Nat.le_of_ble_eq_true rfl⟩) (mk_preV (w0 := w_R cI cZ cS aR aRd aRm aRw aRs aRt aRc aRl aRh aRu aRx aRy aRk of op cr wn fp fs dk (upd (upd mm x1.toNatClampNeg 0) (8 + x1).toNatClampNeg 0) wk sg tb cs lw hg us de sa ky) (ci := 5) (q0 := 0) hN hK (mk_pick hP [0, 1, 2, 3, 4, 5, 6, 7, 8, 9, 10, 11, 12] rfl) (hD.sub [0, 1, 2, 3, 4, 5, 6, 7, 8, 9, 10, 11, 12] (by decide) rfl) rfl rfl rfl) rfl rfl hl.1 rfl (lv_room (Nat.le_of_ble_eq_true rfl)) dX5_dropTable_83 ⟨Nat.zero_le _, Nat.zero_le _⟩) (fun H locs hP hD hS => ?_)
    refine lv_iconst (v := 0) hx hb dX5_dropTable_86 (by decide) ?_
    cases h
    exact mk_iret E hK hP hD hS dX5_dropTable_87
  · replace h := (kp_if h).2 c_1
    refine lv_aload_n hx hb dX5_dropTable_38 rfl (lv_at hl 0 rfl) ?_
    refine va_get (D := (dC, dI)) (ci := 5) (v := .ref aRm) (C := RX5) (T := TX5) (N := 18) hx hb hts iw_R_dropTable_Model hown hK hP 0 rfl rfl 1 (by decide) (hts _ mm_R_dropTable_0) (fun _ h9 => h9) rfl dX5_dropTable_39 ?_
    refine lv_bipush (v := 16) hx hb dX5_dropTable_42 (by decide) ?_
    refine lv_iload_n hx hb dX5_dropTable_44 rfl (lv_at hl 2 rfl) ?_
    refine lv_imul hx hb dX5_dropTable_45 ?_
    obtain ⟨hc_5, h⟩ := kp_in h
    refine va_iald hx hb hK hP 2 0 rfl rfl (kx_of hc_5) dX5_dropTable_46 ?_
    refine lv_iload_n hx hb dX5_dropTable_47 rfl (lv_at hl 1 rfl) ?_
    refine lv_iconst (v := 1) hx hb dX5_dropTable_48 (by decide) ?_
    refine lv_iadd hx hb dX5_dropTable_49 ?_
    refine lv_icmp_ne (tgt := 58) hx hb dX5_dropTable_50 (by decide) (fun c_6 => ?_) (fun c_6 => ?_)
    · replace h := (kp_if h).2 c_6
      exact b_R_dropTable_58 E hA hK R hk_32 x1 x2 mm de h H locs ls hP hD hS (lv_sub hl [0, 1, 2] rfl)
    · replace h := (kp_if h).1 c_6
      refine lv_aload_n hx hb dX5_dropTable_53 rfl (lv_at hl 0 rfl) ?_
      refine lv_iload_n hx hb dX5_dropTable_54 rfl (lv_at hl 2 rfl) ?_
      obtain ⟨r_7, hr_7, h⟩ := kp_bind h
      refine mk_contV (w := w_R cI cZ cS aR aRd aRm aRw aRs aRt aRc aRl aRh aRu aRx aRy aRk of op cr wn fp fs dk mm wk sg tb cs lw hg us de sa ky) (w0 := w_R cI cZ cS aR aRd aRm aRw aRs aRt aRc aRl aRh aRu aRx aRy aRk of op cr wn fp fs dk mm wk sg tb cs lw hg us de sa ky) (wr := []) (w2 := w_R cI cZ cS aR aRd aRm aRw aRs aRt aRc aRl aRh aRu aRx aRy aRk of op cr wn fp fs dk r_7 wk sg tb cs lw hg us de sa ky) hP hD hS hA [0, 1, 2, 3, 4, 5, 6, 7, 8, 9, 10, 11, 12] [] rfl rfl (by decide) (by decide) [0, 1, 2, 3, 4, 5, 6, 7, 8, 9, 10, 11, 12] rfl (by decide) (va_runV (As := [.int x2]) (rest := []) ⟨hx, hb, hml, hown, hts⟩ (c_R_clearPage l dC dI cI cZ cS aR aRd aRm aRw aRs aRt aRc aRl aRh aRu aRx aRy aRk of op cr wn fp fs dk mm wk sg tb cs lw hg us de sa ky x2 r_7 hr_7 H.size) (cwV 1 hts gX5_dropTable_X5_clearPage rfl rfl rfl (by decide +kernel) ⟨Nat.le_of_ble_eq_true rfl, Nat.le_of_ble_eq_true rfl⟩) (mk_preV (w0 := w_R cI cZ cS aR aRd aRm aRw aRs aRt aRc aRl aRh aRu aRx aRy aRk of op cr wn fp fs dk mm wk sg tb cs lw hg us de sa ky) (ci := 5) (q0 := 0) hN hK (mk_pick hP [0, 1, 2, 3, 4, 5, 6, 7, 8, 9, 10, 11, 12] rfl) (hD.sub [0, 1, 2, 3, 4, 5, 6, 7, 8, 9, 10, 11, 12] (by decide) rfl) rfl rfl rfl) rfl rfl hl.1 rfl (lv_room (Nat.le_of_ble_eq_true rfl)) dX5_dropTable_55 ⟨Nat.zero_le _, Nat.zero_le _⟩) (fun H locs hP hD hS => ?_)
      exact b_R_dropTable_58 E hA hK R hk_32 x1 x2 r_7 de h H locs ls hP hD hS (lv_sub hl [0, 1, 2] rfl)
set_option maxHeartbeats 4000000 in
set_option maxRecDepth 100000 in
theorem l_R_dropTable_32 {p : Program} {l : Launch} {e : Env} {s : State} {m : MethodId} {below : List Frame} {meth : Method} {c : Code} {A : Nat → Prop} {dC : Nat → ClassId} {dI : Nat → Nat → Nat} {cI cZ cS : ClassId} {aR aRd aRm aRw aRs aRt aRc aRl aRh aRu aRx aRy aRk : Nat} {of : Int32} {op : Int32} {cr : Int32} {wn : Int32} {fp : Int32} {fs : Int32} {dk : Nat → Int32} {wk : Nat → Int32} {sg : Nat → Int32} {tb : Nat → Int32} {cs : Nat → Int32} {lw : Nat → Int32} {hg : Nat → Int32} {us : Nat → Int32} {sa : Nat → Int32} {ky : Nat → Int32} {a1 : Int32} (E : mk_En p s m meth c cX5_dropTable 3 (some .int) ([.ref aR, .int a1] : List Value).toArray wsX5_dropTable yX5_dropTable.cls) (hA : ∀ q : Nat, s.heap.size ≤ q → A q) (hK : va_K (dC, dI) vwCl (tyz cI cZ cS) s) (R : Int32 × (Nat → Int32) × (Nat → Int32)) : ∀ (n : Nat) (x1 : Int32) (x2 : Int32) (mm : Nat → Int32) (de : Nat → Int32), pl_R_dropTable_32 of op tb n x1 x2 mm de = some R → ∀ (H : Heap) (locs : List Loc) (ls : Array Slot), va_P (dC, dI) vwCl (w_R cI cZ cS aR aRd aRm aRw aRs aRt aRc aRl aRh aRu aRx aRy aRk of op cr wn fp fs dk mm wk sg tb cs lw hg us de sa ky) H → va_D A (w_R cI cZ cS aR aRd aRm aRw aRs aRt aRc aRl aRh aRu aRx aRy aRk of op cr wn fp fs dk mm wk sg tb cs lw hg us de sa ky) → va_S A s.heap H locs → lv_has ls 3 [(0, .ref aR), (1, .int x1), (2, .int x2)] → W p l e ({ frames := 1, cells := 0, slots := 0, locals := 22 } : Room) s m ([.ref aR, .int a1] : List Value).toArray below meth c H locs 0 0 (MQ below (mk_QI (dC, dI) vwCl (tyz cI cZ cS) A (fun u : (Nat → Int32) × (Nat → Int32) => w_R cI cZ cS aR aRd aRm aRw aRs aRt aRc aRl aRh aRu aRx aRy aRk of op cr wn fp fs dk u.1 wk sg tb cs lw hg us u.2 sa ky) R) ([.ref aR, .int a1] : List Value).toArray s 0 0 A) (F0 m 32 ls []) := by
  intro n
  induction n with
  | zero =>
    intro x1 x2 mm de h
    cases h
  | succ n ih =>
    intro x1 x2 mm de h
    exact b_R_dropTable_32 E hA hK R ih x1 x2 mm de h
set_option maxHeartbeats 4000000 in
set_option maxRecDepth 100000 in
theorem c_R_dropTable (l : Launch) (dC : Nat → ClassId) (dI : Nat → Nat → Nat) (cI cZ cS : ClassId) (aR aRd aRm aRw aRs aRt aRc aRl aRh aRu aRx aRy aRk : Nat) (of : Int32) (op : Int32) (cr : Int32) (wn : Int32) (fp : Int32) (fs : Int32) (dk : Nat → Int32) (mm : Nat → Int32) (wk : Nat → Int32) (sg : Nat → Int32) (tb : Nat → Int32) (cs : Nat → Int32) (lw : Nat → Int32) (hg : Nat → Int32) (us : Nat → Int32) (de : Nat → Int32) (sa : Nat → Int32) (ky : Nat → Int32) (a1 : Int32) : CtI l yX5_dropTable wsX5_dropTable ({ frames := 1, cells := 0, slots := 0, locals := 22 }) (dC, dI) vwCl (tyz cI cZ cS) [.ref aR, .int a1] (w_R cI cZ cS aR aRd aRm aRw aRs aRt aRc aRl aRh aRu aRx aRy aRk of op cr wn fp fs dk mm wk sg tb cs lw hg us de sa ky) (fun u : (Nat → Int32) × (Nat → Int32) => w_R cI cZ cS aR aRd aRm aRw aRs aRt aRc aRl aRh aRu aRx aRy aRk of op cr wn fp fs dk u.1 wk sg tb cs lw hg us u.2 sa ky) (p_R_dropTable of op mm tb de a1) := by
  intro R h
  refine mk_enter (Qc := (fun A => mk_QI (dC, dI) vwCl (tyz cI cZ cS) A (fun u : (Nat → Int32) × (Nat → Int32) => w_R cI cZ cS aR aRd aRm aRw aRs aRt aRc aRl aRh aRu aRx aRy aRk of op cr wn fp fs dk u.1 wk sg tb cs lw hg us u.2 sa ky) R)) (by decide) rfl (Nat.le_of_ble_eq_true rfl) ?_
  intro p e s m below meth c A E hA hK H locs ls hP hD hS hl
  obtain ⟨⟨hx, hb, hml, hown, hts⟩, hrt, hlk, hN⟩ := id E
  have hown : s.vm.findClass RX5 = some m.cls := hown
  have hl : lv_has ls 3 [(0, .ref aR), (1, .int a1)] := hl
  unfold p_R_dropTable at h
  refine lv_aload_n hx hb dX5_dropTable_0 rfl (lv_at hl 0 rfl) ?_
  refine va_get (D := (dC, dI)) (ci := 5) (v := .int of) (C := RX5) (T := TX5) (N := 18) hx hb hts iw_R_dropTable_Model hown hK hP 0 rfl rfl 4 (by decide) (hts _ mm_R_dropTable_2) (fun _ h9 => h9) rfl dX5_dropTable_1 ?_
  refine lv_if_eq (tgt := 9) hx hb dX5_dropTable_4 (by decide) (fun c_8 => ?_) (fun c_8 => ?_)
  · replace h := (kp_if h).1 c_8
    refine lv_aload_n hx hb dX5_dropTable_9 rfl (lv_at hl 0 rfl) ?_
    refine va_get (D := (dC, dI)) (ci := 5) (v := .int op) (C := RX5) (T := TX5) (N := 18) hx hb hts iw_R_dropTable_Model hown hK hP 0 rfl rfl 5 (by decide) (hts _ mm_R_dropTable_3) (fun _ h9 => h9) rfl dX5_dropTable_10 ?_
    refine lv_if_ne (tgt := 19) hx hb dX5_dropTable_13 (by decide) (fun c_9 => ?_) (fun c_9 => ?_)
    · replace h := (kp_if h).2 c_9
      refine lv_aload_n hx hb dX5_dropTable_19 rfl (lv_at hl 0 rfl) ?_
      refine lv_iload_n hx hb dX5_dropTable_20 rfl (lv_at hl 1 rfl) ?_
      obtain ⟨r_10, hr_10, h⟩ := kp_bind h
      refine mk_contR (w := w_R cI cZ cS aR aRd aRm aRw aRs aRt aRc aRl aRh aRu aRx aRy aRk of op cr wn fp fs dk mm wk sg tb cs lw hg us de sa ky) (w0 := w_R cI cZ cS aR aRd aRm aRw aRs aRt aRc aRl aRh aRu aRx aRy aRk of op cr wn fp fs dk mm wk sg tb cs lw hg us de sa ky) (wr := []) hP hD hS hA [0, 1, 2, 3, 4, 5, 6, 7, 8, 9, 10, 11, 12] [] rfl rfl (by decide) (by decide) [0, 1, 2, 3, 4, 5, 6, 7, 8, 9, 10, 11, 12] rfl (by decide) (va_runV (As := [.int a1]) (rest := []) ⟨hx, hb, hml, hown, hts⟩ (c_R_noTable l dC dI cI cZ cS aR aRd aRm aRw aRs aRt aRc aRl aRh aRu aRx aRy aRk of op cr wn fp fs dk mm wk sg tb cs lw hg us de sa ky a1 r_10 hr_10 H.size) (cwV 1 hts gX5_dropTable_X5_noTable rfl rfl rfl (by decide +kernel) ⟨Nat.le_of_ble_eq_true rfl, Nat.le_of_ble_eq_true rfl⟩) (mk_preV (w0 := w_R cI cZ cS aR aRd aRm aRw aRs aRt aRc aRl aRh aRu aRx aRy aRk of op cr wn fp fs dk mm wk sg tb cs lw hg us de sa ky) (ci := 5) (q0 := 0) hN hK (mk_pick hP [0, 1, 2, 3, 4, 5, 6, 7, 8, 9, 10, 11, 12] rfl) (hD.sub [0, 1, 2, 3, 4, 5, 6, 7, 8, 9, 10, 11, 12] (by decide) rfl) rfl rfl rfl) rfl rfl hl.1 rfl (lv_room (Nat.le_of_ble_eq_true rfl)) dX5_dropTable_21 ⟨Nat.zero_le _, Nat.zero_le _⟩) (fun H locs hP hD hS => ?_)
      refine lv_if_eq (tgt := 30) hx hb dX5_dropTable_24 (by decide) (fun c_11 => ?_) (fun c_11 => ?_)
      · replace h := (kp_if h).1 c_11
        refine lv_iconst (v := 1) hx hb dX5_dropTable_30 (by decide) ?_
        refine lv_istore_n (lv' := [(2, .int 1), (0, .ref aR), (1, .int a1)]) hx hb dX5_dropTable_31 rfl hl (by decide) rfl (fun ls hl => ?_)
        exact l_R_dropTable_32 E hA hK R 1000 a1 1 mm de h H locs ls hP hD hS (lv_sub hl [1, 2, 0] rfl)
      · replace h := (kp_if h).2 c_11
        refine lv_bipush (v := (-5)) hx hb dX5_dropTable_27 (by decide) ?_
        cases h
        exact mk_iret E hK hP hD hS dX5_dropTable_29
    · replace h := (kp_if h).1 c_9
      refine lv_bipush (v := (-2)) hx hb dX5_dropTable_16 (by decide) ?_
      cases h
      exact mk_iret E hK hP hD hS dX5_dropTable_18
  · replace h := (kp_if h).2 c_8
    refine lv_iconst (v := (-1)) hx hb dX5_dropTable_7 (by decide) ?_
    cases h
    exact mk_iret E hK hP hD hS dX5_dropTable_8

/- Model.stage(II)I -/
set_option maxRecDepth 20000 in
theorem mm_R_stage_0 : Cond.fieldLink RX5 51 "JournaledTablesModel" "off" "Z" ∈ wsX5_stage := by decide +kernel
set_option maxRecDepth 20000 in
theorem iw_R_stage_Model : ∀ w ∈ u_ws RX5 TX5 18, w ∈ wsX5_stage := by decide +kernel
set_option maxRecDepth 20000 in
theorem mm_R_stage_2 : Cond.fieldLink RX5 19 "JournaledTablesModel" "staged" "[I" ∈ wsX5_stage := by decide +kernel
set_option maxHeartbeats 4000000 in
set_option maxRecDepth 100000 in
theorem b_R_stage_18 {p : Program} {l : Launch} {e : Env} {s : State} {m : MethodId} {below : List Frame} {meth : Method} {c : Code} {A : Nat → Prop} {dC : Nat → ClassId} {dI : Nat → Nat → Nat} {cI cZ cS : ClassId} {aR aRd aRm aRw aRs aRt aRc aRl aRh aRu aRx aRy aRk : Nat} {of : Int32} {op : Int32} {cr : Int32} {wn : Int32} {fp : Int32} {fs : Int32} {dk : Nat → Int32} {mm : Nat → Int32} {wk : Nat → Int32} {tb : Nat → Int32} {cs : Nat → Int32} {lw : Nat → Int32} {hg : Nat → Int32} {us : Nat → Int32} {de : Nat → Int32} {sa : Nat → Int32} {ky : Nat → Int32} {a1 : Int32} {a2 : Int32} (E : mk_En p s m meth c cX5_stage 3 (some .int) ([.ref aR, .int a1, .int a2] : List Value).toArray wsX5_stage yX5_stage.cls) (hA : ∀ q : Nat, s.heap.size ≤ q → A q) (hK : va_K (dC, dI) vwCl (tyz cI cZ cS) s) (R : Int32 × (Nat → Int32)) (sg : Nat → Int32) (h : p_R_stage_18 of sg = some R) : ∀ (H : Heap) (locs : List Loc) (ls : Array Slot), va_P (dC, dI) vwCl (w_R cI cZ cS aR aRd aRm aRw aRs aRt aRc aRl aRh aRu aRx aRy aRk of op cr wn fp fs dk mm wk sg tb cs lw hg us de sa ky) H → va_D A (w_R cI cZ cS aR aRd aRm aRw aRs aRt aRc aRl aRh aRu aRx aRy aRk of op cr wn fp fs dk mm wk sg tb cs lw hg us de sa ky) → va_S A s.heap H locs → lv_has ls 3 [] → W p l e ({ frames := 0, cells := 0, slots := 0, locals := 0 } : Room) s m ([.ref aR, .int a1, .int a2] : List Value).toArray below meth c H locs 0 0 (MQ below (mk_QI (dC, dI) vwCl (tyz cI cZ cS) A (fun u : (Nat → Int32) => w_R cI cZ cS aR aRd aRm aRw aRs aRt aRc aRl aRh aRu aRx aRy aRk of op cr wn fp fs dk mm wk u tb cs lw hg us de sa ky) R) ([.ref aR, .int a1, .int a2] : List Value).toArray s 0 0 A) (F0 m 18 ls []) := by
  intro H locs ls hP hD hS hl
  obtain ⟨⟨hx, hb, hml, hown, hts⟩, hrt, hlk, hN⟩ := id E
  have hown : s.vm.findClass RX5 = some m.cls := hown
  unfold p_R_stage_18 at h
  refine lv_bipush (v := (-4)) hx hb dX5_stage_18 (by decide) ?_
  cases h
  exact mk_iret E hK hP hD hS dX5_stage_20
set_option maxHeartbeats 4000000 in
set_option maxRecDepth 100000 in
theorem c_R_stage (l : Launch) (dC : Nat → ClassId) (dI : Nat → Nat → Nat) (cI cZ cS : ClassId) (aR aRd aRm aRw aRs aRt aRc aRl aRh aRu aRx aRy aRk : Nat) (of : Int32) (op : Int32) (cr : Int32) (wn : Int32) (fp : Int32) (fs : Int32) (dk : Nat → Int32) (mm : Nat → Int32) (wk : Nat → Int32) (sg : Nat → Int32) (tb : Nat → Int32) (cs : Nat → Int32) (lw : Nat → Int32) (hg : Nat → Int32) (us : Nat → Int32) (de : Nat → Int32) (sa : Nat → Int32) (ky : Nat → Int32) (a1 : Int32) (a2 : Int32) : CtI l yX5_stage wsX5_stage ({ frames := 0, cells := 0, slots := 0, locals := 0 }) (dC, dI) vwCl (tyz cI cZ cS) [.ref aR, .int a1, .int a2] (w_R cI cZ cS aR aRd aRm aRw aRs aRt aRc aRl aRh aRu aRx aRy aRk of op cr wn fp fs dk mm wk sg tb cs lw hg us de sa ky) (fun u : (Nat → Int32) => w_R cI cZ cS aR aRd aRm aRw aRs aRt aRc aRl aRh aRu aRx aRy aRk of op cr wn fp fs dk mm wk u tb cs lw hg us de sa ky) (p_R_stage of sg a1 a2) := by
  intro R h
  refine mk_enter (Qc := (fun A => mk_QI (dC, dI) vwCl (tyz cI cZ cS) A (fun u : (Nat → Int32) => w_R cI cZ cS aR aRd aRm aRw aRs aRt aRc aRl aRh aRu aRx aRy aRk of op cr wn fp fs dk mm wk u tb cs lw hg us de sa ky) R)) (by decide) rfl (Nat.le_of_ble_eq_true rfl) ?_
  intro p e s m below meth c A E hA hK H locs ls hP hD hS hl
  obtain ⟨⟨hx, hb, hml, hown, hts⟩, hrt, hlk, hN⟩ := id E
  have hown : s.vm.findClass RX5 = some m.cls := hown
  have hl : lv_has ls 3 [(0, .ref aR), (1, .int a1), (2, .int a2)] := hl
  unfold p_R_stage at h
  refine lv_aload_n hx hb dX5_stage_0 rfl (lv_at hl 0 rfl) ?_
  refine va_get (D := (dC, dI)) (ci := 5) (v := .int of) (C := RX5) (T := TX5) (N := 18) hx hb hts iw_R_stage_Model hown hK hP 0 rfl rfl 4 (by decide) (hts _ mm_R_stage_0) (fun _ h9 => h9) rfl dX5_stage_1 ?_
  refine lv_if_eq (tgt := 9) hx hb dX5_stage_4 (by decide) (fun c_1 => ?_) (fun c_1 => ?_)
  · replace h := (kp_if h).1 c_1
    refine lv_iload_n hx hb dX5_stage_9 rfl (lv_at hl 1 rfl) ?_
    refine lv_if_lt (tgt := 18) hx hb dX5_stage_10 (by decide) (fun c_2 => ?_) (fun c_2 => ?_)
    · replace h := (kp_if h).1 c_2
      exact b_R_stage_18 E hA hK R sg h H locs ls hP hD hS (lv_sub hl [] rfl)
    · replace h := (kp_if h).2 c_2
      refine lv_iload_n hx hb dX5_stage_13 rfl (lv_at hl 1 rfl) ?_
      refine lv_iconst (v := 5) hx hb dX5_stage_14 (by decide) ?_
      refine lv_icmp_le (tgt := 21) hx hb dX5_stage_15 (by decide) (fun c_3 => ?_) (fun c_3 => ?_)
      · replace h := (kp_if h).1 c_3
        refine lv_aload_n hx hb dX5_stage_21 rfl (lv_at hl 0 rfl) ?_
        refine va_get (D := (dC, dI)) (ci := 5) (v := .ref aRs) (C := RX5) (T := TX5) (N := 18) hx hb hts iw_R_stage_Model hown hK hP 0 rfl rfl 3 (by decide) (hts _ mm_R_stage_2) (fun _ h9 => h9) rfl dX5_stage_22 ?_
        refine lv_iload_n hx hb dX5_stage_25 rfl (lv_at hl 1 rfl) ?_
        refine lv_iload_n hx hb dX5_stage_26 rfl (lv_at hl 2 rfl) ?_
        obtain ⟨hc_4, h⟩ := kp_in h
        refine va_iast hx hb hK hP hD hS 4 0 rfl rfl (kx_of hc_4) dX5_stage_27 (fun H locs hP hD hS => ?_)
        have hP : va_P (dC, dI) vwCl (w_R cI cZ cS aR aRd aRm aRw aRs aRt aRc aRl aRh aRu aRx aRy aRk of op cr wn fp fs dk mm wk (upd sg a1.toNatClampNeg a2) tb cs lw hg us de sa ky) H := hP
        have hD : va_D A (w_R cI cZ cS aR aRd aRm aRw aRs aRt aRc aRl aRh aRu aRx aRy aRk of op cr wn fp fs dk mm wk (upd sg a1.toNatClampNeg a2) tb cs lw hg us de sa ky) := hD
        refine lv_iconst (v := 0) hx hb dX5_stage_28 (by decide) ?_
        cases h
        exact mk_iret E hK hP hD hS dX5_stage_29
      · replace h := (kp_if h).2 c_3
        exact b_R_stage_18 E hA hK R sg h H locs ls hP hD hS (lv_sub hl [] rfl)
  · replace h := (kp_if h).2 c_1
    refine lv_iconst (v := (-1)) hx hb dX5_stage_7 (by decide) ?_
    cases h
    exact mk_iret E hK hP hD hS dX5_stage_8

/- Model.insert(I)I -/
set_option maxRecDepth 20000 in
theorem mm_R_insert_0 : Cond.fieldLink RX5 13 "JournaledTablesModel" "memory" "[I" ∈ wsX5_insert := by decide +kernel
set_option maxRecDepth 20000 in
theorem iw_R_insert_Model : ∀ w ∈ u_ws RX5 TX5 18, w ∈ wsX5_insert := by decide +kernel
set_option maxRecDepth 20000 in
theorem mm_R_insert_2 : Cond.fieldLink RX5 51 "JournaledTablesModel" "off" "Z" ∈ wsX5_insert := by decide +kernel
set_option maxRecDepth 20000 in
theorem mm_R_insert_3 : Cond.fieldLink RX5 66 "JournaledTablesModel" "open" "Z" ∈ wsX5_insert := by decide +kernel
set_option maxRecDepth 20000 in
theorem mm_R_insert_4 : Cond.fieldLink RX5 19 "JournaledTablesModel" "staged" "[I" ∈ wsX5_insert := by decide +kernel
set_option maxHeartbeats 4000000 in
set_option maxRecDepth 100000 in
theorem b_R_insert_71 {p : Program} {l : Launch} {e : Env} {s : State} {m : MethodId} {below : List Frame} {meth : Method} {c : Code} {A : Nat → Prop} {dC : Nat → ClassId} {dI : Nat → Nat → Nat} {cI cZ cS : ClassId} {aR aRd aRm aRw aRs aRt aRc aRl aRh aRu aRx aRy aRk : Nat} {of : Int32} {op : Int32} {cr : Int32} {wn : Int32} {dk : Nat → Int32} {wk : Nat → Int32} {sg : Nat → Int32} {tb : Nat → Int32} {cs : Nat → Int32} {lw : Nat → Int32} {hg : Nat → Int32} {us : Nat → Int32} {sa : Nat → Int32} {ky : Nat → Int32} {a1 : Int32} (E : mk_En p s m meth c cX5_insert 5 (some .int) ([.ref aR, .int a1] : List Value).toArray wsX5_insert yX5_insert.cls) (hA : ∀ q : Nat, s.heap.size ≤ q → A q) (hK : va_K (dC, dI) vwCl (tyz cI cZ cS) s) (R : Int32 × Int32 × Int32 × (Nat → Int32) × (Nat → Int32)) {k_52 : Int32 → Int32 → Int32 → Int32 → (Nat → Int32) → (Nat → Int32) → Option (Int32 × Int32 × Int32 × (Nat → Int32) × (Nat → Int32))} (hk_52 : ∀ (x1 : Int32) (x2 : Int32) (fp : Int32) (fs : Int32) (mm : Nat → Int32) (de : Nat → Int32), k_52 x1 x2 fp fs mm de = some R → ∀ (H : Heap) (locs : List Loc) (ls : Array Slot), va_P (dC, dI) vwCl (w_R cI cZ cS aR aRd aRm aRw aRs aRt aRc aRl aRh aRu aRx aRy aRk of op cr wn fp fs dk mm wk sg tb cs lw hg us de sa ky) H → va_D A (w_R cI cZ cS aR aRd aRm aRw aRs aRt aRc aRl aRh aRu aRx aRy aRk of op cr wn fp fs dk mm wk sg tb cs lw hg us de sa ky) → va_S A s.heap H locs → lv_has ls 5 [(0, .ref aR), (1, .int x1), (2, .int x2)] → W p l e ({ frames := 2, cells := 0, slots := 0, locals := 47 } : Room) s m ([.ref aR, .int a1] : List Value).toArray below meth c H locs 0 0 (MQ below (mk_QI (dC, dI) vwCl (tyz cI cZ cS) A (fun u : Int32 × Int32 × (Nat → Int32) × (Nat → Int32) => w_R cI cZ cS aR aRd aRm aRw aRs aRt aRc aRl aRh aRu aRx aRy aRk of op cr wn u.1 u.2.1 dk u.2.2.1 wk sg tb cs lw hg us u.2.2.2 sa ky) R) ([.ref aR, .int a1] : List Value).toArray s 0 0 A) (F0 m 52 ls [])) {k_71 : Int32 → Int32 → Int32 → Int32 → Int32 → (Nat → Int32) → (Nat → Int32) → Option (Int32 × Int32 × Int32 × (Nat → Int32) × (Nat → Int32))} (hk_71 : ∀ (x1 : Int32) (x3 : Int32) (x4 : Int32) (fp : Int32) (fs : Int32) (mm : Nat → Int32) (de : Nat → Int32), k_71 x1 x3 x4 fp fs mm de = some R → ∀ (H : Heap) (locs : List Loc) (ls : Array Slot), va_P (dC, dI) vwCl (w_R cI cZ cS aR aRd aRm aRw aRs aRt aRc aRl aRh aRu aRx aRy aRk of op cr wn fp fs dk mm wk sg tb cs lw hg us de sa ky) H → va_D A (w_R cI cZ cS aR aRd aRm aRw aRs aRt aRc aRl aRh aRu aRx aRy aRk of op cr wn fp fs dk mm wk sg tb cs lw hg us de sa ky) → va_S A s.heap H locs → lv_has ls 5 [(0, .ref aR), (1, .int x1), (3, .int x3), (4, .int x4)] → W p l e ({ frames := 2, cells := 0, slots := 0, locals := 47 } : Room) s m ([.ref aR, .int a1] : List Value).toArray below meth c H locs 0 0 (MQ below (mk_QI (dC, dI) vwCl (tyz cI cZ cS) A (fun u : Int32 × Int32 × (Nat → Int32) × (Nat → Int32) => w_R cI cZ cS aR aRd aRm aRw aRs aRt aRc aRl aRh aRu aRx aRy aRk of op cr wn u.1 u.2.1 dk u.2.2.1 wk sg tb cs lw hg us u.2.2.2 sa ky) R) ([.ref aR, .int a1] : List Value).toArray s 0 0 A) (F0 m 71 ls [])) (x1 : Int32) (x3 : Int32) (x4 : Int32) (fp : Int32) (fs : Int32) (mm : Nat → Int32) (de : Nat → Int32) (h : p_R_insert_71 of op sg tb k_52 k_71 x1 x3 x4 fp fs mm de = some R) : ∀ (H : Heap) (locs : List Loc) (ls : Array Slot), va_P (dC, dI) vwCl (w_R cI cZ cS aR aRd aRm aRw aRs aRt aRc aRl aRh aRu aRx aRy aRk of op cr wn fp fs dk mm wk sg tb cs lw hg us de sa ky) H → va_D A (w_R cI cZ cS aR aRd aRm aRw aRs aRt aRc aRl aRh aRu aRx aRy aRk of op cr wn fp fs dk mm wk sg tb cs lw hg us de sa ky) → va_S A s.heap H locs → lv_has ls 5 [(0, .ref aR), (1, .int x1), (3, .int x3), (4, .int x4)] → W p l e ({ frames := 2, cells := 0, slots := 0, locals := 47 } : Room) s m ([.ref aR, .int a1] : List Value).toArray below meth c H locs 0 0 (MQ below (mk_QI (dC, dI) vwCl (tyz cI cZ cS) A (fun u : Int32 × Int32 × (Nat → Int32) × (Nat → Int32) => w_R cI cZ cS aR aRd aRm aRw aRs aRt aRc aRl aRh aRu aRx aRy aRk of op cr wn u.1 u.2.1 dk u.2.2.1 wk sg tb cs lw hg us u.2.2.2 sa ky) R) ([.ref aR, .int a1] : List Value).toArray s 0 0 A) (F0 m 71 ls []) := by
  intro H locs ls hP hD hS hl
  obtain ⟨⟨hx, hb, hml, hown, hts⟩, hrt, hlk, hN⟩ := id E
  have hown : s.vm.findClass RX5 = some m.cls := hown
  unfold p_R_insert_71 at h
  refine lv_iload hx hb dX5_insert_71 (lv_at hl 3 rfl) ?_
  refine lv_aload_n hx hb dX5_insert_73 rfl (lv_at hl 0 rfl) ?_
  refine lv_iload_n hx hb dX5_insert_74 rfl (lv_at hl 1 rfl) ?_
  obtain ⟨r_1, hr_1, h⟩ := kp_bind h
  refine mk_contR (w := w_R cI cZ cS aR aRd aRm aRw aRs aRt aRc aRl aRh aRu aRx aRy aRk of op cr wn fp fs dk mm wk sg tb cs lw hg us de sa ky) (w0 := w_R cI cZ cS aR aRd aRm aRw aRs aRt aRc aRl aRh aRu aRx aRy aRk of op cr wn fp fs dk mm wk sg tb cs lw hg us de sa ky) (wr := []) hP hD hS hA [0, 1, 2, 3, 4, 5, 6, 7, 8, 9, 10, 11, 12] [] rfl rfl (by decide) (by decide) [0, 1, 2, 3, 4, 5, 6, 7, 8, 9, 10, 11, 12] rfl (by decide) (va_runV (As := [.int x1]) (rest := [.int x4]) ⟨hx, hb, hml, hown, hts⟩ (c_R_slots l dC dI cI cZ cS aR aRd aRm aRw aRs aRt aRc aRl aRh aRu aRx aRy aRk of op cr wn fp fs dk mm wk sg tb cs lw hg us de sa ky x1 r_1 hr_1 H.size) (cwV 1 hts gX5_insert_X5_slots rfl rfl rfl (by decide +kernel) ⟨Nat.le_of_ble_eq_true rfl, Nat.le_of_ble_eq_true rfl⟩) (mk_preV (w0 := w_R cI cZ cS aR aRd aRm aRw aRs aRt aRc aRl aRh aRu aRx aRy aRk of op cr wn fp fs dk mm wk sg tb cs lw hg us de sa ky) (ci := 5) (q0 := 0) hN hK (mk_pick hP [0, 1, 2, 3, 4, 5, 6, 7, 8, 9, 10, 11, 12] rfl) (hD.sub [0, 1, 2, 3, 4, 5, 6, 7, 8, 9, 10, 11, 12] (by decide) rfl) rfl rfl rfl) rfl rfl hl.1 rfl (lv_room (Nat.le_of_ble_eq_true rfl)) dX5_insert_75 ⟨Nat.zero_le _, Nat.zero_le _⟩) (fun H locs hP hD hS => ?_)
  refine lv_icmp_ge (tgt := 107) hx hb dX5_insert_78 (by decide) (fun c_2 => ?_) (fun c_2 => ?_)
  · replace h := (kp_if h).1 c_2
    refine lv_bipush (v := 16) hx hb dX5_insert_107 (by decide) ?_
    refine lv_iload_n hx hb dX5_insert_109 rfl (lv_at hl 2 rfl) ?_
    refine lv_imul hx hb dX5_insert_110 ?_
    refine lv_iconst (v := 1) hx hb dX5_insert_111 (by decide) ?_
    refine lv_iadd hx hb dX5_insert_112 ?_
    refine lv_topi (fun v_3 ev_3 => ?_)
    replace h := kp_kl h v_3 ev_3
    refine lv_istore_n (lv' := [(2, .int v_3), (0, .ref aR), (1, .int x1), (3, .int x3), (4, .int x4)]) hx hb dX5_insert_113 rfl hl (by decide) rfl (fun ls hl => ?_)
    refine lv_goto (tgt := 52) hx hb dX5_insert_114 (by decide) ?_
    exact hk_52 x1 v_3 fp fs mm de h H locs ls hP hD hS (lv_sub hl [1, 2, 0] rfl)
  · replace h := (kp_if h).2 c_2
    refine lv_aload_n hx hb dX5_insert_81 rfl (lv_at hl 0 rfl) ?_
    refine lv_iload_n hx hb dX5_insert_82 rfl (lv_at hl 2 rfl) ?_
    refine lv_iload hx hb dX5_insert_83 (lv_at hl 3 rfl) ?_
    obtain ⟨r_4, hr_4, h⟩ := kp_bind h
    refine mk_contR (w := w_R cI cZ cS aR aRd aRm aRw aRs aRt aRc aRl aRh aRu aRx aRy aRk of op cr wn fp fs dk mm wk sg tb cs lw hg us de sa ky) (w0 := w_R cI cZ cS aR aRd aRm aRw aRs aRt aRc aRl aRh aRu aRx aRy aRk of op cr wn fp fs dk mm wk sg tb cs lw hg us de sa ky) (wr := []) hP hD hS hA [0, 1, 2, 3, 4, 5, 6, 7, 8, 9, 10, 11, 12] [] rfl rfl (by decide) (by decide) [0, 1, 2, 3, 4, 5, 6, 7, 8, 9, 10, 11, 12] rfl (by decide) (va_runV (As := [.int x3, .int x4]) (rest := []) ⟨hx, hb, hml, hown, hts⟩ (c_R_filled l dC dI cI cZ cS aR aRd aRm aRw aRs aRt aRc aRl aRh aRu aRx aRy aRk of op cr wn fp fs dk mm wk sg tb cs lw hg us de sa ky x3 x4 r_4 hr_4 H.size) (cwV 2 hts gX5_insert_X5_filled rfl rfl rfl (by decide +kernel) ⟨Nat.le_of_ble_eq_true rfl, Nat.le_of_ble_eq_true rfl⟩) (mk_preV (w0 := w_R cI cZ cS aR aRd aRm aRw aRs aRt aRc aRl aRh aRu aRx aRy aRk of op cr wn fp fs dk mm wk sg tb cs lw hg us de sa ky) (ci := 5) (q0 := 0) hN hK (mk_pick hP [0, 1, 2, 3, 4, 5, 6, 7, 8, 9, 10, 11, 12] rfl) (hD.sub [0, 1, 2, 3, 4, 5, 6, 7, 8, 9, 10, 11, 12] (by decide) rfl) rfl rfl rfl) rfl rfl hl.1 rfl (lv_room (Nat.le_of_ble_eq_true rfl)) dX5_insert_85 ⟨Nat.zero_le _, Nat.zero_le _⟩) (fun H locs hP hD hS => ?_)
    refine lv_if_ne (tgt := 101) hx hb dX5_insert_88 (by decide) (fun c_5 => ?_) (fun c_5 => ?_)
    · replace h := (kp_if h).2 c_5
      refine lv_iinc (v := x4 + 1) (lv' := [(4, .int (x4 + 1)), (0, .ref aR), (1, .int x1), (3, .int x3)]) hx hb dX5_insert_101 hl (k := 3) rfl rfl (by decide) rfl (fun ls hl => ?_)
      refine lv_goto (tgt := 71) hx hb dX5_insert_104 (by decide) ?_
      exact hk_71 x1 x3 (x4 + 1) fp fs mm de h H locs ls hP hD hS (lv_sub hl [1, 2, 3, 0] rfl)
    · replace h := (kp_if h).1 c_5
      refine lv_aload_n hx hb dX5_insert_91 rfl (lv_at hl 0 rfl) ?_
      refine lv_iload_n hx hb dX5_insert_92 rfl (lv_at hl 1 rfl) ?_
      refine lv_iload_n hx hb dX5_insert_93 rfl (lv_at hl 2 rfl) ?_
      refine lv_iload hx hb dX5_insert_94 (lv_at hl 3 rfl) ?_
      obtain ⟨r_6, hr_6, h⟩ := kp_bind h
      refine mk_contV (w := w_R cI cZ cS aR aRd aRm aRw aRs aRt aRc aRl aRh aRu aRx aRy aRk of op cr wn fp fs dk mm wk sg tb cs lw hg us de sa ky) (w0 := w_R cI cZ cS aR aRd aRm aRw aRs aRt aRc aRl aRh aRu aRx aRy aRk of op cr wn fp fs dk mm wk sg tb cs lw hg us de sa ky) (wr := []) (w2 := w_R cI cZ cS aR aRd aRm aRw aRs aRt aRc aRl aRh aRu aRx aRy aRk of op cr wn fp fs dk r_6.1 wk sg tb cs lw hg us r_6.2 sa ky) hP hD hS hA [0, 1, 2, 3, 4, 5, 6, 7, 8, 9, 10, 11, 12] [] rfl rfl (by decide) (by decide) [0, 1, 2, 3, 4, 5, 6, 7, 8, 9, 10, 11, 12] rfl (by decide) (va_runV (As := [.int x1, .int x3, .int x4]) (rest := []) ⟨hx, hb, hml, hown, hts⟩ (c_R_lay l dC dI cI cZ cS aR aRd aRm aRw aRs aRt aRc aRl aRh aRu aRx aRy aRk of op cr wn fp fs dk mm wk sg tb cs lw hg us de sa ky x1 x3 x4 r_6 hr_6 H.size) (cwV 3 hts gX5_insert_X5_lay rfl rfl rfl (by decide +kernel) ⟨Nat.le_of_ble_eq_true rfl, Nat.le_of_ble_eq_true rfl⟩) (mk_preV (w0 := w_R cI cZ cS aR aRd aRm aRw aRs aRt aRc aRl aRh aRu aRx aRy aRk of op cr wn fp fs dk mm wk sg tb cs lw hg us de sa ky) (ci := 5) (q0 := 0) hN hK (mk_pick hP [0, 1, 2, 3, 4, 5, 6, 7, 8, 9, 10, 11, 12] rfl) (hD.sub [0, 1, 2, 3, 4, 5, 6, 7, 8, 9, 10, 11, 12] (by decide) rfl) rfl rfl rfl) rfl rfl hl.1 rfl (lv_room (Nat.le_of_ble_eq_true rfl)) dX5_insert_96 ⟨Nat.zero_le _, Nat.zero_le _⟩) (fun H locs hP hD hS => ?_)
      refine lv_iconst (v := 0) hx hb dX5_insert_99 (by decide) ?_
      cases h
      exact mk_iret E hK hP hD hS dX5_insert_100
set_option maxHeartbeats 4000000 in
set_option maxRecDepth 100000 in
theorem l_R_insert_71 {p : Program} {l : Launch} {e : Env} {s : State} {m : MethodId} {below : List Frame} {meth : Method} {c : Code} {A : Nat → Prop} {dC : Nat → ClassId} {dI : Nat → Nat → Nat} {cI cZ cS : ClassId} {aR aRd aRm aRw aRs aRt aRc aRl aRh aRu aRx aRy aRk : Nat} {of : Int32} {op : Int32} {cr : Int32} {wn : Int32} {dk : Nat → Int32} {wk : Nat → Int32} {sg : Nat → Int32} {tb : Nat → Int32} {cs : Nat → Int32} {lw : Nat → Int32} {hg : Nat → Int32} {us : Nat → Int32} {sa : Nat → Int32} {ky : Nat → Int32} {a1 : Int32} (E : mk_En p s m meth c cX5_insert 5 (some .int) ([.ref aR, .int a1] : List Value).toArray wsX5_insert yX5_insert.cls) (hA : ∀ q : Nat, s.heap.size ≤ q → A q) (hK : va_K (dC, dI) vwCl (tyz cI cZ cS) s) (R : Int32 × Int32 × Int32 × (Nat → Int32) × (Nat → Int32)) {k_52 : Int32 → Int32 → Int32 → Int32 → (Nat → Int32) → (Nat → Int32) → Option (Int32 × Int32 × Int32 × (Nat → Int32) × (Nat → Int32))} (hk_52 : ∀ (x1 : Int32) (x2 : Int32) (fp : Int32) (fs : Int32) (mm : Nat → Int32) (de : Nat → Int32), k_52 x1 x2 fp fs mm de = some R → ∀ (H : Heap) (locs : List Loc) (ls : Array Slot), va_P (dC, dI) vwCl (w_R cI cZ cS aR aRd aRm aRw aRs aRt aRc aRl aRh aRu aRx aRy aRk of op cr wn fp fs dk mm wk sg tb cs lw hg us de sa ky) H → va_D A (w_R cI cZ cS aR aRd aRm aRw aRs aRt aRc aRl aRh aRu aRx aRy aRk of op cr wn fp fs dk mm wk sg tb cs lw hg us de sa ky) → va_S A s.heap H locs → lv_has ls 5 [(0, .ref aR), (1, .int x1), (2, .int x2)] → W p l e ({ frames := 2, cells := 0, slots := 0, locals := 47 } : Room) s m ([.ref aR, .int a1] : List Value).toArray below meth c H locs 0 0 (MQ below (mk_QI (dC, dI) vwCl (tyz cI cZ cS) A (fun u : Int32 × Int32 × (Nat → Int32) × (Nat → Int32) => w_R cI cZ cS aR aRd aRm aRw aRs aRt aRc aRl aRh aRu aRx aRy aRk of op cr wn u.1 u.2.1 dk u.2.2.1 wk sg tb cs lw hg us u.2.2.2 sa ky) R) ([.ref aR, .int a1] : List Value).toArray s 0 0 A) (F0 m 52 ls [])) : ∀ (n : Nat) (x1 : Int32) (x3 : Int32) (x4 : Int32) (fp : Int32) (fs : Int32) (mm : Nat → Int32) (de : Nat → Int32), pl_R_insert_71 of op sg tb k_52 n x1 x3 x4 fp fs mm de = some R → ∀ (H : Heap) (locs : List Loc) (ls : Array Slot), va_P (dC, dI) vwCl (w_R cI cZ cS aR aRd aRm aRw aRs aRt aRc aRl aRh aRu aRx aRy aRk of op cr wn fp fs dk mm wk sg tb cs lw hg us de sa ky) H → va_D A (w_R cI cZ cS aR aRd aRm aRw aRs aRt aRc aRl aRh aRu aRx aRy aRk of op cr wn fp fs dk mm wk sg tb cs lw hg us de sa ky) → va_S A s.heap H locs → lv_has ls 5 [(0, .ref aR), (1, .int x1), (3, .int x3), (4, .int x4)] → W p l e ({ frames := 2, cells := 0, slots := 0, locals := 47 } : Room) s m ([.ref aR, .int a1] : List Value).toArray below meth c H locs 0 0 (MQ below (mk_QI (dC, dI) vwCl (tyz cI cZ cS) A (fun u : Int32 × Int32 × (Nat → Int32) × (Nat → Int32) => w_R cI cZ cS aR aRd aRm aRw aRs aRt aRc aRl aRh aRu aRx aRy aRk of op cr wn u.1 u.2.1 dk u.2.2.1 wk sg tb cs lw hg us u.2.2.2 sa ky) R) ([.ref aR, .int a1] : List Value).toArray s 0 0 A) (F0 m 71 ls []) := by
  intro n
  induction n with
  | zero =>
    intro x1 x3 x4 fp fs mm de h
    cases h
  | succ n ih =>
    intro x1 x3 x4 fp fs mm de h
    exact b_R_insert_71 E hA hK R hk_52 ih x1 x3 x4 fp fs mm de h
set_option maxHeartbeats 4000000 in
set_option maxRecDepth 100000 in
theorem b_R_insert_52 {p : Program} {l : Launch} {e : Env} {s : State} {m : MethodId} {below : List Frame} {meth : Method} {c : Code} {A : Nat → Prop} {dC : Nat → ClassId} {dI : Nat → Nat → Nat} {cI cZ cS : ClassId} {aR aRd aRm aRw aRs aRt aRc aRl aRh aRu aRx aRy aRk : Nat} {of : Int32} {op : Int32} {cr : Int32} {wn : Int32} {dk : Nat → Int32} {wk : Nat → Int32} {sg : Nat → Int32} {tb : Nat → Int32} {cs : Nat → Int32} {lw : Nat → Int32} {hg : Nat → Int32} {us : Nat → Int32} {sa : Nat → Int32} {ky : Nat → Int32} {a1 : Int32} (E : mk_En p s m meth c cX5_insert 5 (some .int) ([.ref aR, .int a1] : List Value).toArray wsX5_insert yX5_insert.cls) (hA : ∀ q : Nat, s.heap.size ≤ q → A q) (hK : va_K (dC, dI) vwCl (tyz cI cZ cS) s) (R : Int32 × Int32 × Int32 × (Nat → Int32) × (Nat → Int32)) {k_52 : Int32 → Int32 → Int32 → Int32 → (Nat → Int32) → (Nat → Int32) → Option (Int32 × Int32 × Int32 × (Nat → Int32) × (Nat → Int32))} (hk_52 : ∀ (x1 : Int32) (x2 : Int32) (fp : Int32) (fs : Int32) (mm : Nat → Int32) (de : Nat → Int32), k_52 x1 x2 fp fs mm de = some R → ∀ (H : Heap) (locs : List Loc) (ls : Array Slot), va_P (dC, dI) vwCl (w_R cI cZ cS aR aRd aRm aRw aRs aRt aRc aRl aRh aRu aRx aRy aRk of op cr wn fp fs dk mm wk sg tb cs lw hg us de sa ky) H → va_D A (w_R cI cZ cS aR aRd aRm aRw aRs aRt aRc aRl aRh aRu aRx aRy aRk of op cr wn fp fs dk mm wk sg tb cs lw hg us de sa ky) → va_S A s.heap H locs → lv_has ls 5 [(0, .ref aR), (1, .int x1), (2, .int x2)] → W p l e ({ frames := 2, cells := 0, slots := 0, locals := 47 } : Room) s m ([.ref aR, .int a1] : List Value).toArray below meth c H locs 0 0 (MQ below (mk_QI (dC, dI) vwCl (tyz cI cZ cS) A (fun u : Int32 × Int32 × (Nat → Int32) × (Nat → Int32) => w_R cI cZ cS aR aRd aRm aRw aRs aRt aRc aRl aRh aRu aRx aRy aRk of op cr wn u.1 u.2.1 dk u.2.2.1 wk sg tb cs lw hg us u.2.2.2 sa ky) R) ([.ref aR, .int a1] : List Value).toArray s 0 0 A) (F0 m 52 ls [])) (x1 : Int32) (x2 : Int32) (fp : Int32) (fs : Int32) (mm : Nat → Int32) (de : Nat → Int32) (h : p_R_insert_52 of op sg tb k_52 x1 x2 fp fs mm de = some R) : ∀ (H : Heap) (locs : List Loc) (ls : Array Slot), va_P (dC, dI) vwCl (w_R cI cZ cS aR aRd aRm aRw aRs aRt aRc aRl aRh aRu aRx aRy aRk of op cr wn fp fs dk mm wk sg tb cs lw hg us de sa ky) H → va_D A (w_R cI cZ cS aR aRd aRm aRw aRs aRt aRc aRl aRh aRu aRx aRy aRk of op cr wn fp fs dk mm wk sg tb cs lw hg us de sa ky) → va_S A s.heap H locs → lv_has ls 5 [(0, .ref aR), (1, .int x1), (2, .int x2)] → W p l e ({ frames := 2, cells := 0, slots := 0, locals := 47 } : Room) s m ([.ref aR, .int a1] : List Value).toArray below meth c H locs 0 0 (MQ below (mk_QI (dC, dI) vwCl (tyz cI cZ cS) A (fun u : Int32 × Int32 × (Nat → Int32) × (Nat → Int32) => w_R cI cZ cS aR aRd aRm aRw aRs aRt aRc aRl aRh aRu aRx aRy aRk of op cr wn u.1 u.2.1 dk u.2.2.1 wk sg tb cs lw hg us u.2.2.2 sa ky) R) ([.ref aR, .int a1] : List Value).toArray s 0 0 A) (F0 m 52 ls []) := by
  intro H locs ls hP hD hS hl
  obtain ⟨⟨hx, hb, hml, hown, hts⟩, hrt, hlk, hN⟩ := id E
  have hown : s.vm.findClass RX5 = some m.cls := hown
  unfold p_R_insert_52 at h
  refine lv_aload_n hx hb dX5_insert_52 rfl (lv_at hl 0 rfl) ?_
  refine va_get (D := (dC, dI)) (ci := 5) (v := .ref aRm) (C := RX5) (T := TX5) (N := 18) hx hb hts iw_R_insert_Model hown hK hP 0 rfl rfl 1 (by decide) (hts _ mm_R_insert_0) (fun _ h9 => h9) rfl dX5_insert_53 ?_
  refine lv_iload_n hx hb dX5_insert_56 rfl (lv_at hl 2 rfl) ?_
  obtain ⟨hc_7, h⟩ := kp_in h
  refine va_iald hx hb hK hP 2 0 rfl rfl (kx_of hc_7) dX5_insert_57 ?_
  refine lv_if_eq (tgt := 117) hx hb dX5_insert_58 (by decide) (fun c_8 => ?_) (fun c_8 => ?_)
  · replace h := (kp_if h).1 c_8
    refine lv_aload_n hx hb dX5_insert_117 rfl (lv_at hl 0 rfl) ?_
    obtain ⟨r_9, hr_9, h⟩ := kp_bind h
    refine mk_contR (w := w_R cI cZ cS aR aRd aRm aRw aRs aRt aRc aRl aRh aRu aRx aRy aRk of op cr wn fp fs dk mm wk sg tb cs lw hg us de sa ky) (w0 := w_R cI cZ cS aR aRd aRm aRw aRs aRt aRc aRl aRh aRu aRx aRy aRk of op cr wn fp fs dk mm wk sg tb cs lw hg us de sa ky) (wr := []) hP hD hS hA [0, 1, 2, 3, 4, 5, 6, 7, 8, 9, 10, 11, 12] [] rfl rfl (by decide) (by decide) [0, 1, 2, 3, 4, 5, 6, 7, 8, 9, 10, 11, 12] rfl (by decide) (va_runV (As := []) (rest := []) ⟨hx, hb, hml, hown, hts⟩ (c_R_freePage l dC dI cI cZ cS aR aRd aRm aRw aRs aRt aRc aRl aRh aRu aRx aRy aRk of op cr wn fp fs dk mm wk sg tb cs lw hg us de sa ky r_9 hr_9 H.size) (cwV 0 hts gX5_insert_X5_freePage rfl rfl rfl (by decide +kernel) ⟨Nat.le_of_ble_eq_true rfl, Nat.le_of_ble_eq_true rfl⟩) (mk_preV (w0 := w_R cI cZ cS aR aRd aRm aRw aRs aRt aRc aRl aRh aRu aRx aRy aRk of op cr wn fp fs dk mm wk sg tb cs lw hg us de sa ky) (ci := 5) (q0 := 0) hN hK (mk_pick hP [0, 1, 2, 3, 4, 5, 6, 7, 8, 9, 10, 11, 12] rfl) (hD.sub [0, 1, 2, 3, 4, 5, 6, 7, 8, 9, 10, 11, 12] (by decide) rfl) rfl rfl rfl) rfl rfl hl.1 rfl (lv_room (Nat.le_of_ble_eq_true rfl)) dX5_insert_118 ⟨Nat.zero_le _, Nat.zero_le _⟩) (fun H locs hP hD hS => ?_)
    refine lv_istore_n (lv' := [(3, .int r_9), (0, .ref aR), (1, .int x1), (2, .int x2)]) hx hb dX5_insert_121 rfl hl (by decide) rfl (fun ls hl => ?_)
    refine lv_iload_n hx hb dX5_insert_122 rfl (lv_at hl 0 rfl) ?_
    refine lv_if_ne (tgt := 129) hx hb dX5_insert_123 (by decide) (fun c_10 => ?_) (fun c_10 => ?_)
    · replace h := (kp_if h).2 c_10
      refine lv_aload_n hx hb dX5_insert_129 rfl (lv_at hl 1 rfl) ?_
      refine va_get (D := (dC, dI)) (ci := 5) (v := .ref aRm) (C := RX5) (T := TX5) (N := 18) hx hb hts iw_R_insert_Model hown hK hP 0 rfl rfl 1 (by decide) (hts _ mm_R_insert_0) (fun _ h9 => h9) rfl dX5_insert_130 ?_
      refine lv_iload_n hx hb dX5_insert_133 rfl (lv_at hl 3 rfl) ?_
      refine lv_iload_n hx hb dX5_insert_134 rfl (lv_at hl 0 rfl) ?_
      obtain ⟨hc_11, h⟩ := kp_in h
      refine va_iast hx hb hK hP hD hS 2 0 rfl rfl (kx_of hc_11) dX5_insert_135 (fun H locs hP hD hS => ?_)
      have hP : va_P (dC, dI) vwCl (w_R cI cZ cS aR aRd aRm aRw aRs aRt aRc aRl aRh aRu aRx aRy aRk of op cr wn fp fs dk (upd mm x2.toNatClampNeg r_9) wk sg tb cs lw hg us de sa ky) H := hP
      have hD : va_D A (w_R cI cZ cS aR aRd aRm aRw aRs aRt aRc aRl aRh aRu aRx aRy aRk of op cr wn fp fs dk (upd mm x2.toNatClampNeg r_9) wk sg tb cs lw hg us de sa ky) := hD
      refine lv_aload_n hx hb dX5_insert_136 rfl (lv_at hl 1 rfl) ?_
      refine va_get (D := (dC, dI)) (ci := 5) (v := .ref aRm) (C := RX5) (T := TX5) (N := 18) hx hb hts iw_R_insert_Model hown hK hP 0 rfl rfl 1 (by decide) (hts _ mm_R_insert_0) (fun _ h9 => h9) rfl dX5_insert_137 ?_
      refine lv_bipush (v := 16) hx hb dX5_insert_140 (by decide) ?_
      refine lv_iload_n hx hb dX5_insert_142 rfl (lv_at hl 0 rfl) ?_
      refine lv_imul hx hb dX5_insert_143 ?_
      refine lv_iload_n hx hb dX5_insert_144 rfl (lv_at hl 2 rfl) ?_
      refine lv_iconst (v := 1) hx hb dX5_insert_145 (by decide) ?_
      refine lv_iadd hx hb dX5_insert_146 ?_
      obtain ⟨hc_12, h⟩ := kp_in h
      refine va_iast hx hb hK hP hD hS 2 0 rfl rfl (kx_of hc_12) dX5_insert_147 (fun H locs hP hD hS => ?_)
      have hP : va_P (dC, dI) vwCl (w_R cI cZ cS aR aRd aRm aRw aRs aRt aRc aRl aRh aRu aRx aRy aRk of op cr wn fp fs dk (upd (upd mm x2.toNatClampNeg r_9) (16 * r_9).toNatClampNeg (x1 + 1)) wk sg tb cs lw hg us de sa ky) H := hP
      have hD : va_D A (w_R cI cZ cS aR aRd aRm aRw aRs aRt aRc aRl aRh aRu aRx aRy aRk of op cr wn fp fs dk (upd (upd mm x2.toNatClampNeg r_9) (16 * r_9).toNatClampNeg (x1 + 1)) wk sg tb cs lw hg us de sa ky) := hD
      refine lv_aload_n hx hb dX5_insert_148 rfl (lv_at hl 1 rfl) ?_
      refine lv_iload_n hx hb dX5_insert_149 rfl (lv_at hl 2 rfl) ?_
      refine lv_iload_n hx hb dX5_insert_150 rfl (lv_at hl 0 rfl) ?_
      refine lv_iconst (v := 0) hx hb dX5_insert_151 (by decide) ?_
      obtain ⟨r_13, hr_13, h⟩ := kp_bind h
      refine mk_contV (w := w_R cI cZ cS aR aRd aRm aRw aRs aRt aRc aRl aRh aRu aRx aRy aRk of op cr wn fp fs dk (upd (upd mm x2.toNatClampNeg r_9) (16 * r_9).toNatClampNeg (x1 + 1)) wk sg tb cs lw hg us de sa ky) (w0 := w_R cI cZ cS aR aRd aRm aRw aRs aRt aRc aRl aRh aRu aRx aRy aRk of op cr wn fp fs dk (upd (upd mm x2.toNatClampNeg r_9) (16 * r_9).toNatClampNeg (x1 + 1)) wk sg tb cs lw hg us de sa ky) (wr := []) (w2 := w_R cI cZ cS aR aRd aRm aRw aRs aRt aRc aRl aRh aRu aRx aRy aRk of op cr wn fp fs dk r_13.1 wk sg tb cs lw hg us r_13.2 sa ky) hP hD hS hA [0, 1, 2, 3, 4, 5, 6, 7, 8, 9, 10, 11, 12] [] rfl rfl (by decide) (by decide) [0, 1, 2, 3, 4, 5, 6, 7, 8, 9, 10, 11, 12] rfl (by decide) (va_runV (As := [.int x1, .int r_9, .int 0]) (rest := []) ⟨hx, hb, hml, hown, hts⟩ (c_R_lay l dC dI cI cZ cS aR aRd aRm aRw aRs aRt aRc aRl aRh aRu aRx aRy aRk of op cr wn fp fs dk (upd (upd mm x2.toNatClampNeg r_9) (16 * r_9).toNatClampNeg (x1 + 1)) wk sg tb cs lw hg us de sa ky x1 r_9 0 r_13 hr_13 H.size) (cwV 3 hts gX5_insert_X5_lay rfl rfl rfl (by decide +kernel) ⟨Nat.le_of_ble_eq_true rfl, Nat.le_of_ble_eq_true rfl⟩) (mk_preV (w0 := w_R cI cZ cS aR aRd aRm aRw aRs aRt aRc aRl aRh aRu aRx aRy aRk of op cr wn fp fs dk (upd (upd mm x2.toNatClampNeg r_9) (16 * r_9).toNatClampNeg (x1 + 1)) wk sg tb cs lw hg us de sa ky) (ci := 5) (q0 := 0) hN hK (mk_pick hP [0, 1, 2, 3, 4, 5, 6, 7, 8, 9, 10, 11, 12] rfl) (hD.sub [0, 1, 2, 3, 4, 5, 6, 7, 8, 9, 10, 11, 12] (by decide) rfl) rfl rfl rfl) rfl rfl hl.1 rfl (lv_room (Nat.le_of_ble_eq_true rfl)) dX5_insert_152 ⟨Nat.zero_le _, Nat.zero_le _⟩) (fun H locs hP hD hS => ?_)
      refine lv_iconst (v := 0) hx hb dX5_insert_155 (by decide) ?_
      cases h
      exact mk_iret E hK hP hD hS dX5_insert_156
    · replace h := (kp_if h).1 c_10
      refine lv_bipush (v := (-8)) hx hb dX5_insert_126 (by decide) ?_
      cases h
      exact mk_iret E hK hP hD hS dX5_insert_128
  · replace h := (kp_if h).2 c_8
    refine lv_aload_n hx hb dX5_insert_61 rfl (lv_at hl 0 rfl) ?_
    refine va_get (D := (dC, dI)) (ci := 5) (v := .ref aRm) (C := RX5) (T := TX5) (N := 18) hx hb hts iw_R_insert_Model hown hK hP 0 rfl rfl 1 (by decide) (hts _ mm_R_insert_0) (fun _ h9 => h9) rfl dX5_insert_62 ?_
    refine lv_iload_n hx hb dX5_insert_65 rfl (lv_at hl 2 rfl) ?_
    obtain ⟨hc_14, h⟩ := kp_in h
    refine va_iald hx hb hK hP 2 0 rfl rfl (kx_of hc_14) dX5_insert_66 ?_
    refine lv_topi (fun v_15 ev_15 => ?_)
    replace h := kp_kl h v_15 ev_15
    refine lv_istore_n (lv' := [(3, .int v_15), (0, .ref aR), (1, .int x1), (2, .int x2)]) hx hb dX5_insert_67 rfl hl (by decide) rfl (fun ls hl => ?_)
    refine lv_iconst (v := 0) hx hb dX5_insert_68 (by decide) ?_
    refine lv_istore (lv' := [(4, .int 0), (3, .int v_15), (0, .ref aR), (1, .int x1), (2, .int x2)]) hx hb dX5_insert_69 hl (by decide) rfl (fun ls hl => ?_)
    exact l_R_insert_71 E hA hK R hk_52 1000 x1 v_15 0 fp fs mm de h H locs ls hP hD hS (lv_sub hl [2, 3, 1, 0] rfl)
set_option maxHeartbeats 4000000 in
set_option maxRecDepth 100000 in
theorem l_R_insert_52 {p : Program} {l : Launch} {e : Env} {s : State} {m : MethodId} {below : List Frame} {meth : Method} {c : Code} {A : Nat → Prop} {dC : Nat → ClassId} {dI : Nat → Nat → Nat} {cI cZ cS : ClassId} {aR aRd aRm aRw aRs aRt aRc aRl aRh aRu aRx aRy aRk : Nat} {of : Int32} {op : Int32} {cr : Int32} {wn : Int32} {dk : Nat → Int32} {wk : Nat → Int32} {sg : Nat → Int32} {tb : Nat → Int32} {cs : Nat → Int32} {lw : Nat → Int32} {hg : Nat → Int32} {us : Nat → Int32} {sa : Nat → Int32} {ky : Nat → Int32} {a1 : Int32} (E : mk_En p s m meth c cX5_insert 5 (some .int) ([.ref aR, .int a1] : List Value).toArray wsX5_insert yX5_insert.cls) (hA : ∀ q : Nat, s.heap.size ≤ q → A q) (hK : va_K (dC, dI) vwCl (tyz cI cZ cS) s) (R : Int32 × Int32 × Int32 × (Nat → Int32) × (Nat → Int32)) : ∀ (n : Nat) (x1 : Int32) (x2 : Int32) (fp : Int32) (fs : Int32) (mm : Nat → Int32) (de : Nat → Int32), pl_R_insert_52 of op sg tb n x1 x2 fp fs mm de = some R → ∀ (H : Heap) (locs : List Loc) (ls : Array Slot), va_P (dC, dI) vwCl (w_R cI cZ cS aR aRd aRm aRw aRs aRt aRc aRl aRh aRu aRx aRy aRk of op cr wn fp fs dk mm wk sg tb cs lw hg us de sa ky) H → va_D A (w_R cI cZ cS aR aRd aRm aRw aRs aRt aRc aRl aRh aRu aRx aRy aRk of op cr wn fp fs dk mm wk sg tb cs lw hg us de sa ky) → va_S A s.heap H locs → lv_has ls 5 [(0, .ref aR), (1, .int x1), (2, .int x2)] → W p l e ({ frames := 2, cells := 0, slots := 0, locals := 47 } : Room) s m ([.ref aR, .int a1] : List Value).toArray below meth c H locs 0 0 (MQ below (mk_QI (dC, dI) vwCl (tyz cI cZ cS) A (fun u : Int32 × Int32 × (Nat → Int32) × (Nat → Int32) => w_R cI cZ cS aR aRd aRm aRw aRs aRt aRc aRl aRh aRu aRx aRy aRk of op cr wn u.1 u.2.1 dk u.2.2.1 wk sg tb cs lw hg us u.2.2.2 sa ky) R) ([.ref aR, .int a1] : List Value).toArray s 0 0 A) (F0 m 52 ls []) := by
  intro n
  induction n with
  | zero =>
    intro x1 x2 fp fs mm de h
    cases h
  | succ n ih =>
    intro x1 x2 fp fs mm de h
    exact b_R_insert_52 E hA hK R ih x1 x2 fp fs mm de h
set_option maxHeartbeats 4000000 in
set_option maxRecDepth 100000 in
theorem c_R_insert (l : Launch) (dC : Nat → ClassId) (dI : Nat → Nat → Nat) (cI cZ cS : ClassId) (aR aRd aRm aRw aRs aRt aRc aRl aRh aRu aRx aRy aRk : Nat) (of : Int32) (op : Int32) (cr : Int32) (wn : Int32) (fp : Int32) (fs : Int32) (dk : Nat → Int32) (mm : Nat → Int32) (wk : Nat → Int32) (sg : Nat → Int32) (tb : Nat → Int32) (cs : Nat → Int32) (lw : Nat → Int32) (hg : Nat → Int32) (us : Nat → Int32) (de : Nat → Int32) (sa : Nat → Int32) (ky : Nat → Int32) (a1 : Int32) : CtI l yX5_insert wsX5_insert ({ frames := 2, cells := 0, slots := 0, locals := 47 }) (dC, dI) vwCl (tyz cI cZ cS) [.ref aR, .int a1] (w_R cI cZ cS aR aRd aRm aRw aRs aRt aRc aRl aRh aRu aRx aRy aRk of op cr wn fp fs dk mm wk sg tb cs lw hg us de sa ky) (fun u : Int32 × Int32 × (Nat → Int32) × (Nat → Int32) => w_R cI cZ cS aR aRd aRm aRw aRs aRt aRc aRl aRh aRu aRx aRy aRk of op cr wn u.1 u.2.1 dk u.2.2.1 wk sg tb cs lw hg us u.2.2.2 sa ky) (p_R_insert of op fp fs mm sg tb de a1) := by
  intro R h
  refine mk_enter (Qc := (fun A => mk_QI (dC, dI) vwCl (tyz cI cZ cS) A (fun u : Int32 × Int32 × (Nat → Int32) × (Nat → Int32) => w_R cI cZ cS aR aRd aRm aRw aRs aRt aRc aRl aRh aRu aRx aRy aRk of op cr wn u.1 u.2.1 dk u.2.2.1 wk sg tb cs lw hg us u.2.2.2 sa ky) R)) (by decide) rfl (Nat.le_of_ble_eq_true rfl) ?_
  intro p e s m below meth c A E hA hK H locs ls hP hD hS hl
  obtain ⟨⟨hx, hb, hml, hown, hts⟩, hrt, hlk, hN⟩ := id E
  have hown : s.vm.findClass RX5 = some m.cls := hown
  have hl : lv_has ls 5 [(0, .ref aR), (1, .int a1)] := hl
  unfold p_R_insert at h
  refine lv_aload_n hx hb dX5_insert_0 rfl (lv_at hl 0 rfl) ?_
  refine va_get (D := (dC, dI)) (ci := 5) (v := .int of) (C := RX5) (T := TX5) (N := 18) hx hb hts iw_R_insert_Model hown hK hP 0 rfl rfl 4 (by decide) (hts _ mm_R_insert_2) (fun _ h9 => h9) rfl dX5_insert_1 ?_
  refine lv_if_eq (tgt := 9) hx hb dX5_insert_4 (by decide) (fun c_16 => ?_) (fun c_16 => ?_)
  · replace h := (kp_if h).1 c_16
    refine lv_aload_n hx hb dX5_insert_9 rfl (lv_at hl 0 rfl) ?_
    refine va_get (D := (dC, dI)) (ci := 5) (v := .int op) (C := RX5) (T := TX5) (N := 18) hx hb hts iw_R_insert_Model hown hK hP 0 rfl rfl 5 (by decide) (hts _ mm_R_insert_3) (fun _ h9 => h9) rfl dX5_insert_10 ?_
    refine lv_if_ne (tgt := 19) hx hb dX5_insert_13 (by decide) (fun c_17 => ?_) (fun c_17 => ?_)
    · replace h := (kp_if h).2 c_17
      refine lv_aload_n hx hb dX5_insert_19 rfl (lv_at hl 0 rfl) ?_
      refine lv_iload_n hx hb dX5_insert_20 rfl (lv_at hl 1 rfl) ?_
      obtain ⟨r_18, hr_18, h⟩ := kp_bind h
      refine mk_contR (w := w_R cI cZ cS aR aRd aRm aRw aRs aRt aRc aRl aRh aRu aRx aRy aRk of op cr wn fp fs dk mm wk sg tb cs lw hg us de sa ky) (w0 := w_R cI cZ cS aR aRd aRm aRw aRs aRt aRc aRl aRh aRu aRx aRy aRk of op cr wn fp fs dk mm wk sg tb cs lw hg us de sa ky) (wr := []) hP hD hS hA [0, 1, 2, 3, 4, 5, 6, 7, 8, 9, 10, 11, 12] [] rfl rfl (by decide) (by decide) [0, 1, 2, 3, 4, 5, 6, 7, 8, 9, 10, 11, 12] rfl (by decide) (va_runV (As := [.int a1]) (rest := []) ⟨hx, hb, hml, hown, hts⟩ (c_R_noTable l dC dI cI cZ cS aR aRd aRm aRw aRs aRt aRc aRl aRh aRu aRx aRy aRk of op cr wn fp fs dk mm wk sg tb cs lw hg us de sa ky a1 r_18 hr_18 H.size) (cwV 1 hts gX5_insert_X5_noTable rfl rfl rfl (by decide +kernel) ⟨Nat.le_of_ble_eq_true rfl, Nat.le_of_ble_eq_true rfl⟩) (mk_preV (w0 := w_R cI cZ cS aR aRd aRm aRw aRs aRt aRc aRl aRh aRu aRx aRy aRk of op cr wn fp fs dk mm wk sg tb cs lw hg us de sa ky) (ci := 5) (q0 := 0) hN hK (mk_pick hP [0, 1, 2, 3, 4, 5, 6, 7, 8, 9, 10, 11, 12] rfl) (hD.sub [0, 1, 2, 3, 4, 5, 6, 7, 8, 9, 10, 11, 12] (by decide) rfl) rfl rfl rfl) rfl rfl hl.1 rfl (lv_room (Nat.le_of_ble_eq_true rfl)) dX5_insert_21 ⟨Nat.zero_le _, Nat.zero_le _⟩) (fun H locs hP hD hS => ?_)
      refine lv_if_eq (tgt := 30) hx hb dX5_insert_24 (by decide) (fun c_19 => ?_) (fun c_19 => ?_)
      · replace h := (kp_if h).1 c_19
        refine lv_aload_n hx hb dX5_insert_30 rfl (lv_at hl 0 rfl) ?_
        refine lv_iload_n hx hb dX5_insert_31 rfl (lv_at hl 1 rfl) ?_
        refine lv_aload_n hx hb dX5_insert_32 rfl (lv_at hl 0 rfl) ?_
        refine va_get (D := (dC, dI)) (ci := 5) (v := .ref aRs) (C := RX5) (T := TX5) (N := 18) hx hb hts iw_R_insert_Model hown hK hP 0 rfl rfl 3 (by decide) (hts _ mm_R_insert_4) (fun _ h9 => h9) rfl dX5_insert_33 ?_
        refine lv_iconst (v := 0) hx hb dX5_insert_36 (by decide) ?_
        obtain ⟨hc_20, h⟩ := kp_in h
        refine va_iald hx hb hK hP 4 0 rfl rfl (kx_of hc_20) dX5_insert_37 ?_
        obtain ⟨r_21, hr_21, h⟩ := kp_bind h
        refine mk_contI (w := w_R cI cZ cS aR aRd aRm aRw aRs aRt aRc aRl aRh aRu aRx aRy aRk of op cr wn fp fs dk mm wk sg tb cs lw hg us de sa ky) (w0 := w_R cI cZ cS aR aRd aRm aRw aRs aRt aRc aRl aRh aRu aRx aRy aRk of op cr wn fp fs dk mm wk sg tb cs lw hg us de sa ky) (wr := []) (w2 := w_R cI cZ cS aR aRd aRm aRw aRs aRt aRc aRl aRh aRu aRx aRy aRk of op cr wn r_21.2.1 r_21.2.2 dk mm wk sg tb cs lw hg us de sa ky) hP hD hS hA [0, 1, 2, 3, 4, 5, 6, 7, 8, 9, 10, 11, 12] [] rfl rfl (by decide) (by decide) [0, 1, 2, 3, 4, 5, 6, 7, 8, 9, 10, 11, 12] rfl (by decide) (va_runV (As := [.int a1, .int (sg (0 : Int32).toNatClampNeg)]) (rest := []) ⟨hx, hb, hml, hown, hts⟩ (c_R_seek l dC dI cI cZ cS aR aRd aRm aRw aRs aRt aRc aRl aRh aRu aRx aRy aRk of op cr wn fp fs dk mm wk sg tb cs lw hg us de sa ky a1 (sg (0 : Int32).toNatClampNeg) r_21 hr_21 H.size) (cwV 2 hts gX5_insert_X5_seek rfl rfl rfl (by decide +kernel) ⟨Nat.le_of_ble_eq_true rfl, Nat.le_of_ble_eq_true rfl⟩) (mk_preV (w0 := w_R cI cZ cS aR aRd aRm aRw aRs aRt aRc aRl aRh aRu aRx aRy aRk of op cr wn fp fs dk mm wk sg tb cs lw hg us de sa ky) (ci := 5) (q0 := 0) hN hK (mk_pick hP [0, 1, 2, 3, 4, 5, 6, 7, 8, 9, 10, 11, 12] rfl) (hD.sub [0, 1, 2, 3, 4, 5, 6, 7, 8, 9, 10, 11, 12] (by decide) rfl) rfl rfl rfl) rfl rfl hl.1 rfl (lv_room (Nat.le_of_ble_eq_true rfl)) dX5_insert_38 ⟨Nat.zero_le _, Nat.zero_le _⟩) (fun H locs hP hD hS => ?_)
        refine lv_if_lt (tgt := 47) hx hb dX5_insert_41 (by decide) (fun c_22 => ?_) (fun c_22 => ?_)
        · replace h := (kp_if h).1 c_22
          refine lv_bipush (v := 8) hx hb dX5_insert_47 (by decide) ?_
          refine lv_iload_n hx hb dX5_insert_49 rfl (lv_at hl 1 rfl) ?_
          refine lv_iadd hx hb dX5_insert_50 ?_
          refine lv_topi (fun v_23 ev_23 => ?_)
          replace h := kp_kl h v_23 ev_23
          refine lv_istore_n (lv' := [(2, .int v_23), (0, .ref aR), (1, .int a1)]) hx hb dX5_insert_51 rfl hl (by decide) rfl (fun ls hl => ?_)
          exact l_R_insert_52 E hA hK R 1000 a1 v_23 r_21.2.1 r_21.2.2 mm de h H locs ls hP hD hS (lv_sub hl [1, 2, 0] rfl)
        · replace h := (kp_if h).2 c_22
          refine lv_bipush (v := (-7)) hx hb dX5_insert_44 (by decide) ?_
          cases h
          exact mk_iret E hK hP hD hS dX5_insert_46
      · replace h := (kp_if h).2 c_19
        refine lv_bipush (v := (-5)) hx hb dX5_insert_27 (by decide) ?_
        cases h
        exact mk_iret E hK hP hD hS dX5_insert_29
    · replace h := (kp_if h).1 c_17
      refine lv_bipush (v := (-2)) hx hb dX5_insert_16 (by decide) ?_
      cases h
      exact mk_iret E hK hP hD hS dX5_insert_18
  · replace h := (kp_if h).2 c_16
    refine lv_iconst (v := (-1)) hx hb dX5_insert_7 (by decide) ?_
    cases h
    exact mk_iret E hK hP hD hS dX5_insert_8

/- Model.deleteKey(II)I -/
set_option maxRecDepth 20000 in
theorem mm_R_deleteKey_0 : Cond.fieldLink RX5 13 "JournaledTablesModel" "memory" "[I" ∈ wsX5_deleteKey := by decide +kernel
set_option maxRecDepth 20000 in
theorem iw_R_deleteKey_Model : ∀ w ∈ u_ws RX5 TX5 18, w ∈ wsX5_deleteKey := by decide +kernel
set_option maxRecDepth 20000 in
theorem mm_R_deleteKey_2 : Cond.fieldLink RX5 117 "JournaledTablesModel" "foundSlot" "I" ∈ wsX5_deleteKey := by decide +kernel
set_option maxRecDepth 20000 in
theorem mm_R_deleteKey_3 : Cond.fieldLink RX5 51 "JournaledTablesModel" "off" "Z" ∈ wsX5_deleteKey := by decide +kernel
set_option maxRecDepth 20000 in
theorem mm_R_deleteKey_4 : Cond.fieldLink RX5 66 "JournaledTablesModel" "open" "Z" ∈ wsX5_deleteKey := by decide +kernel
set_option maxRecDepth 20000 in
theorem mm_R_deleteKey_5 : Cond.fieldLink RX5 114 "JournaledTablesModel" "foundPage" "I" ∈ wsX5_deleteKey := by decide +kernel
set_option maxHeartbeats 4000000 in
set_option maxRecDepth 100000 in
theorem b_R_deleteKey_158 {p : Program} {l : Launch} {e : Env} {s : State} {m : MethodId} {below : List Frame} {meth : Method} {c : Code} {A : Nat → Prop} {dC : Nat → ClassId} {dI : Nat → Nat → Nat} {cI cZ cS : ClassId} {aR aRd aRm aRw aRs aRt aRc aRl aRh aRu aRx aRy aRk : Nat} {of : Int32} {op : Int32} {cr : Int32} {wn : Int32} {dk : Nat → Int32} {wk : Nat → Int32} {sg : Nat → Int32} {tb : Nat → Int32} {cs : Nat → Int32} {lw : Nat → Int32} {hg : Nat → Int32} {us : Nat → Int32} {sa : Nat → Int32} {ky : Nat → Int32} {a1 : Int32} {a2 : Int32} (E : mk_En p s m meth c cX5_deleteKey 6 (some .int) ([.ref aR, .int a1, .int a2] : List Value).toArray wsX5_deleteKey yX5_deleteKey.cls) (hA : ∀ q : Nat, s.heap.size ≤ q → A q) (hK : va_K (dC, dI) vwCl (tyz cI cZ cS) s) (R : Int32 × Int32 × Int32 × (Nat → Int32) × (Nat → Int32)) (x1 : Int32) (fp : Int32) (fs : Int32) (mm : Nat → Int32) (de : Nat → Int32) (h : p_R_deleteKey_158 of op tb x1 fp fs mm de = some R) : ∀ (H : Heap) (locs : List Loc) (ls : Array Slot), va_P (dC, dI) vwCl (w_R cI cZ cS aR aRd aRm aRw aRs aRt aRc aRl aRh aRu aRx aRy aRk of op cr wn fp fs dk mm wk sg tb cs lw hg us de sa ky) H → va_D A (w_R cI cZ cS aR aRd aRm aRw aRs aRt aRc aRl aRh aRu aRx aRy aRk of op cr wn fp fs dk mm wk sg tb cs lw hg us de sa ky) → va_S A s.heap H locs → lv_has ls 6 [(0, .ref aR), (1, .int x1)] → W p l e ({ frames := 2, cells := 0, slots := 0, locals := 47 } : Room) s m ([.ref aR, .int a1, .int a2] : List Value).toArray below meth c H locs 0 0 (MQ below (mk_QI (dC, dI) vwCl (tyz cI cZ cS) A (fun u : Int32 × Int32 × (Nat → Int32) × (Nat → Int32) => w_R cI cZ cS aR aRd aRm aRw aRs aRt aRc aRl aRh aRu aRx aRy aRk of op cr wn u.1 u.2.1 dk u.2.2.1 wk sg tb cs lw hg us u.2.2.2 sa ky) R) ([.ref aR, .int a1, .int a2] : List Value).toArray s 0 0 A) (F0 m 158 ls []) := by
  intro H locs ls hP hD hS hl
  obtain ⟨⟨hx, hb, hml, hown, hts⟩, hrt, hlk, hN⟩ := id E
  have hown : s.vm.findClass RX5 = some m.cls := hown
  unfold p_R_deleteKey_158 at h
  refine lv_aload_n hx hb dX5_deleteKey_158 rfl (lv_at hl 0 rfl) ?_
  refine lv_iload_n hx hb dX5_deleteKey_159 rfl (lv_at hl 1 rfl) ?_
  obtain ⟨r_1, hr_1, h⟩ := kp_bind h
  refine mk_contV (w := w_R cI cZ cS aR aRd aRm aRw aRs aRt aRc aRl aRh aRu aRx aRy aRk of op cr wn fp fs dk mm wk sg tb cs lw hg us de sa ky) (w0 := w_R cI cZ cS aR aRd aRm aRw aRs aRt aRc aRl aRh aRu aRx aRy aRk of op cr wn fp fs dk mm wk sg tb cs lw hg us de sa ky) (wr := []) (w2 := w_R cI cZ cS aR aRd aRm aRw aRs aRt aRc aRl aRh aRu aRx aRy aRk of op cr wn fp fs dk mm wk sg tb cs lw hg us r_1 sa ky) hP hD hS hA [0, 1, 2, 3, 4, 5, 6, 7, 8, 9, 10, 11, 12] [] rfl rfl (by decide) (by decide) [0, 1, 2, 3, 4, 5, 6, 7, 8, 9, 10, 11, 12] rfl (by decide) (va_runV (As := [.int x1]) (rest := []) ⟨hx, hb, hml, hown, hts⟩ (c_R_change l dC dI cI cZ cS aR aRd aRm aRw aRs aRt aRc aRl aRh aRu aRx aRy aRk of op cr wn fp fs dk mm wk sg tb cs lw hg us de sa ky x1 r_1 hr_1 H.size) (cwV 1 hts gX5_deleteKey_X5_change rfl rfl rfl (by decide +kernel) ⟨Nat.le_of_ble_eq_true rfl, Nat.le_of_ble_eq_true rfl⟩) (mk_preV (w0 := w_R cI cZ cS aR aRd aRm aRw aRs aRt aRc aRl aRh aRu aRx aRy aRk of op cr wn fp fs dk mm wk sg tb cs lw hg us de sa ky) (ci := 5) (q0 := 0) hN hK (mk_pick hP [0, 1, 2, 3, 4, 5, 6, 7, 8, 9, 10, 11, 12] rfl) (hD.sub [0, 1, 2, 3, 4, 5, 6, 7, 8, 9, 10, 11, 12] (by decide) rfl) rfl rfl rfl) rfl rfl hl.1 rfl (lv_room (Nat.le_of_ble_eq_true rfl)) dX5_deleteKey_160 ⟨Nat.zero_le _, Nat.zero_le _⟩) (fun H locs hP hD hS => ?_)
  refine lv_iconst (v := 0) hx hb dX5_deleteKey_163 (by decide) ?_
  cases h
  exact mk_iret E hK hP hD hS dX5_deleteKey_164
set_option maxHeartbeats 4000000 in
set_option maxRecDepth 100000 in
theorem b_R_deleteKey_53 {p : Program} {l : Launch} {e : Env} {s : State} {m : MethodId} {below : List Frame} {meth : Method} {c : Code} {A : Nat → Prop} {dC : Nat → ClassId} {dI : Nat → Nat → Nat} {cI cZ cS : ClassId} {aR aRd aRm aRw aRs aRt aRc aRl aRh aRu aRx aRy aRk : Nat} {of : Int32} {op : Int32} {cr : Int32} {wn : Int32} {dk : Nat → Int32} {wk : Nat → Int32} {sg : Nat → Int32} {tb : Nat → Int32} {cs : Nat → Int32} {lw : Nat → Int32} {hg : Nat → Int32} {us : Nat → Int32} {sa : Nat → Int32} {ky : Nat → Int32} {a1 : Int32} {a2 : Int32} (E : mk_En p s m meth c cX5_deleteKey 6 (some .int) ([.ref aR, .int a1, .int a2] : List Value).toArray wsX5_deleteKey yX5_deleteKey.cls) (hA : ∀ q : Nat, s.heap.size ≤ q → A q) (hK : va_K (dC, dI) vwCl (tyz cI cZ cS) s) (R : Int32 × Int32 × Int32 × (Nat → Int32) × (Nat → Int32)) {k_53 : Int32 → Int32 → Int32 → Int32 → Int32 → Int32 → (Nat → Int32) → (Nat → Int32) → Option (Int32 × Int32 × Int32 × (Nat → Int32) × (Nat → Int32))} (hk_53 : ∀ (x1 : Int32) (x3 : Int32) (x4 : Int32) (x5 : Int32) (fp : Int32) (fs : Int32) (mm : Nat → Int32) (de : Nat → Int32), k_53 x1 x3 x4 x5 fp fs mm de = some R → ∀ (H : Heap) (locs : List Loc) (ls : Array Slot), va_P (dC, dI) vwCl (w_R cI cZ cS aR aRd aRm aRw aRs aRt aRc aRl aRh aRu aRx aRy aRk of op cr wn fp fs dk mm wk sg tb cs lw hg us de sa ky) H → va_D A (w_R cI cZ cS aR aRd aRm aRw aRs aRt aRc aRl aRh aRu aRx aRy aRk of op cr wn fp fs dk mm wk sg tb cs lw hg us de sa ky) → va_S A s.heap H locs → lv_has ls 6 [(0, .ref aR), (1, .int x1), (3, .int x3), (4, .int x4), (5, .int x5)] → W p l e ({ frames := 2, cells := 0, slots := 0, locals := 47 } : Room) s m ([.ref aR, .int a1, .int a2] : List Value).toArray below meth c H locs 0 0 (MQ below (mk_QI (dC, dI) vwCl (tyz cI cZ cS) A (fun u : Int32 × Int32 × (Nat → Int32) × (Nat → Int32) => w_R cI cZ cS aR aRd aRm aRw aRs aRt aRc aRl aRh aRu aRx aRy aRk of op cr wn u.1 u.2.1 dk u.2.2.1 wk sg tb cs lw hg us u.2.2.2 sa ky) R) ([.ref aR, .int a1, .int a2] : List Value).toArray s 0 0 A) (F0 m 53 ls [])) (x1 : Int32) (x3 : Int32) (x4 : Int32) (x5 : Int32) (fp : Int32) (fs : Int32) (mm : Nat → Int32) (de : Nat → Int32) (h : p_R_deleteKey_53 of op tb k_53 x1 x3 x4 x5 fp fs mm de = some R) : ∀ (H : Heap) (locs : List Loc) (ls : Array Slot), va_P (dC, dI) vwCl (w_R cI cZ cS aR aRd aRm aRw aRs aRt aRc aRl aRh aRu aRx aRy aRk of op cr wn fp fs dk mm wk sg tb cs lw hg us de sa ky) H → va_D A (w_R cI cZ cS aR aRd aRm aRw aRs aRt aRc aRl aRh aRu aRx aRy aRk of op cr wn fp fs dk mm wk sg tb cs lw hg us de sa ky) → va_S A s.heap H locs → lv_has ls 6 [(0, .ref aR), (1, .int x1), (3, .int x3), (4, .int x4), (5, .int x5)] → W p l e ({ frames := 2, cells := 0, slots := 0, locals := 47 } : Room) s m ([.ref aR, .int a1, .int a2] : List Value).toArray below meth c H locs 0 0 (MQ below (mk_QI (dC, dI) vwCl (tyz cI cZ cS) A (fun u : Int32 × Int32 × (Nat → Int32) × (Nat → Int32) => w_R cI cZ cS aR aRd aRm aRw aRs aRt aRc aRl aRh aRu aRx aRy aRk of op cr wn u.1 u.2.1 dk u.2.2.1 wk sg tb cs lw hg us u.2.2.2 sa ky) R) ([.ref aR, .int a1, .int a2] : List Value).toArray s 0 0 A) (F0 m 53 ls []) := by
  intro H locs ls hP hD hS hl
  obtain ⟨⟨hx, hb, hml, hown, hts⟩, hrt, hlk, hN⟩ := id E
  have hown : s.vm.findClass RX5 = some m.cls := hown
  unfold p_R_deleteKey_53 at h
  refine lv_iload hx hb dX5_deleteKey_53 (lv_at hl 4 rfl) ?_
  refine lv_aload_n hx hb dX5_deleteKey_55 rfl (lv_at hl 0 rfl) ?_
  refine va_get (D := (dC, dI)) (ci := 5) (v := .ref aRm) (C := RX5) (T := TX5) (N := 18) hx hb hts iw_R_deleteKey_Model hown hK hP 0 rfl rfl 1 (by decide) (hts _ mm_R_deleteKey_0) (fun _ h9 => h9) rfl dX5_deleteKey_56 ?_
  refine lv_iload_n hx hb dX5_deleteKey_59 rfl (lv_at hl 1 rfl) ?_
  obtain ⟨hc_2, h⟩ := kp_in h
  refine va_iald hx hb hK hP 2 0 rfl rfl (kx_of hc_2) dX5_deleteKey_60 ?_
  refine lv_icmp_ge (tgt := 80) hx hb dX5_deleteKey_61 (by decide) (fun c_3 => ?_) (fun c_3 => ?_)
  · replace h := (kp_if h).1 c_3
    refine lv_aload_n hx hb dX5_deleteKey_80 rfl (lv_at hl 0 rfl) ?_
    refine va_get (D := (dC, dI)) (ci := 5) (v := .ref aRm) (C := RX5) (T := TX5) (N := 18) hx hb hts iw_R_deleteKey_Model hown hK hP 0 rfl rfl 1 (by decide) (hts _ mm_R_deleteKey_0) (fun _ h9 => h9) rfl dX5_deleteKey_81 ?_
    refine lv_bipush (v := 16) hx hb dX5_deleteKey_84 (by decide) ?_
    refine lv_iload hx hb dX5_deleteKey_86 (lv_at hl 3 rfl) ?_
    refine lv_imul hx hb dX5_deleteKey_88 ?_
    refine lv_iconst (v := 2) hx hb dX5_deleteKey_89 (by decide) ?_
    refine lv_iadd hx hb dX5_deleteKey_90 ?_
    refine lv_aload_n hx hb dX5_deleteKey_91 rfl (lv_at hl 0 rfl) ?_
    refine va_get (D := (dC, dI)) (ci := 5) (v := .ref aRm) (C := RX5) (T := TX5) (N := 18) hx hb hts iw_R_deleteKey_Model hown hK hP 0 rfl rfl 1 (by decide) (hts _ mm_R_deleteKey_0) (fun _ h9 => h9) rfl dX5_deleteKey_92 ?_
    refine lv_bipush (v := 16) hx hb dX5_deleteKey_95 (by decide) ?_
    refine lv_iload hx hb dX5_deleteKey_97 (lv_at hl 3 rfl) ?_
    refine lv_imul hx hb dX5_deleteKey_99 ?_
    refine lv_iconst (v := 2) hx hb dX5_deleteKey_100 (by decide) ?_
    refine lv_iadd hx hb dX5_deleteKey_101 ?_
    obtain ⟨hc_4, h⟩ := kp_in h
    refine va_iald hx hb hK hP 2 0 rfl rfl (kx_of hc_4) dX5_deleteKey_102 ?_
    refine lv_iconst (v := 1) hx hb dX5_deleteKey_103 (by decide) ?_
    refine lv_aload_n hx hb dX5_deleteKey_104 rfl (lv_at hl 0 rfl) ?_
    refine va_get (D := (dC, dI)) (ci := 5) (v := .int fs) (C := RX5) (T := TX5) (N := 18) hx hb hts iw_R_deleteKey_Model hown hK hP 0 rfl rfl 17 (by decide) (hts _ mm_R_deleteKey_2) (fun _ h9 => h9) rfl dX5_deleteKey_105 ?_
    refine lv_ishl hx hb dX5_deleteKey_108 ?_
    refine lv_iconst (v := (-1)) hx hb dX5_deleteKey_109 (by decide) ?_
    refine lv_ixor hx hb dX5_deleteKey_110 ?_
    refine lv_iand hx hb dX5_deleteKey_111 ?_
    obtain ⟨hc_5, h⟩ := kp_in h
    refine va_iast hx hb hK hP hD hS 2 0 rfl rfl (kx_of hc_5) dX5_deleteKey_112 (fun H locs hP hD hS => ?_)
    have hP : va_P (dC, dI) vwCl (w_R cI cZ cS aR aRd aRm aRw aRs aRt aRc aRl aRh aRu aRx aRy aRk of op cr wn fp fs dk (upd mm ((16 * x4) + 2).toNatClampNeg ((mm ((16 * x4) + 2).toNatClampNeg) &&& (((1 : Int32) <<< (fs &&& 31)) ^^^ (-1)))) wk sg tb cs lw hg us de sa ky) H := hP
    have hD : va_D A (w_R cI cZ cS aR aRd aRm aRw aRs aRt aRc aRl aRh aRu aRx aRy aRk of op cr wn fp fs dk (upd mm ((16 * x4) + 2).toNatClampNeg ((mm ((16 * x4) + 2).toNatClampNeg) &&& (((1 : Int32) <<< (fs &&& 31)) ^^^ (-1)))) wk sg tb cs lw hg us de sa ky) := hD
    refine lv_aload_n hx hb dX5_deleteKey_113 rfl (lv_at hl 0 rfl) ?_
    refine va_get (D := (dC, dI)) (ci := 5) (v := .ref aRm) (C := RX5) (T := TX5) (N := 18) hx hb hts iw_R_deleteKey_Model hown hK hP 0 rfl rfl 1 (by decide) (hts _ mm_R_deleteKey_0) (fun _ h9 => h9) rfl dX5_deleteKey_114 ?_
    refine lv_bipush (v := 16) hx hb dX5_deleteKey_117 (by decide) ?_
    refine lv_iload hx hb dX5_deleteKey_119 (lv_at hl 3 rfl) ?_
    refine lv_imul hx hb dX5_deleteKey_121 ?_
    refine lv_iconst (v := 2) hx hb dX5_deleteKey_122 (by decide) ?_
    refine lv_iadd hx hb dX5_deleteKey_123 ?_
    obtain ⟨hc_6, h⟩ := kp_in h
    refine va_iald hx hb hK hP 2 0 rfl rfl (kx_of hc_6) dX5_deleteKey_124 ?_
    refine lv_if_ne (tgt := 158) hx hb dX5_deleteKey_125 (by decide) (fun c_7 => ?_) (fun c_7 => ?_)
    · replace h := (kp_if h).2 c_7
      exact b_R_deleteKey_158 E hA hK R x1 fp fs (upd mm ((16 * x4) + 2).toNatClampNeg ((mm ((16 * x4) + 2).toNatClampNeg) &&& (((1 : Int32) <<< (fs &&& 31)) ^^^ (-1)))) de h H locs ls hP hD hS (lv_sub hl [0, 1] rfl)
    · replace h := (kp_if h).1 c_7
      refine lv_aload_n hx hb dX5_deleteKey_128 rfl (lv_at hl 0 rfl) ?_
      refine va_get (D := (dC, dI)) (ci := 5) (v := .ref aRm) (C := RX5) (T := TX5) (N := 18) hx hb hts iw_R_deleteKey_Model hown hK hP 0 rfl rfl 1 (by decide) (hts _ mm_R_deleteKey_0) (fun _ h9 => h9) rfl dX5_deleteKey_129 ?_
      refine lv_aload_n hx hb dX5_deleteKey_132 rfl (lv_at hl 0 rfl) ?_
      refine lv_iload_n hx hb dX5_deleteKey_133 rfl (lv_at hl 1 rfl) ?_
      refine lv_iload hx hb dX5_deleteKey_134 (lv_at hl 3 rfl) ?_
      obtain ⟨r_8, hr_8, h⟩ := kp_bind h
      refine mk_contR (w := w_R cI cZ cS aR aRd aRm aRw aRs aRt aRc aRl aRh aRu aRx aRy aRk of op cr wn fp fs dk (upd mm ((16 * x4) + 2).toNatClampNeg ((mm ((16 * x4) + 2).toNatClampNeg) &&& (((1 : Int32) <<< (fs &&& 31)) ^^^ (-1)))) wk sg tb cs lw hg us de sa ky) (w0 := w_R cI cZ cS aR aRd aRm aRw aRs aRt aRc aRl aRh aRu aRx aRy aRk of op cr wn fp fs dk (upd mm ((16 * x4) + 2).toNatClampNeg ((mm ((16 * x4) + 2).toNatClampNeg) &&& (((1 : Int32) <<< (fs &&& 31)) ^^^ (-1)))) wk sg tb cs lw hg us de sa ky) (wr := []) hP hD hS hA [0, 1, 2, 3, 4, 5, 6, 7, 8, 9, 10, 11, 12] [] rfl rfl (by decide) (by decide) [0, 1, 2, 3, 4, 5, 6, 7, 8, 9, 10, 11, 12] rfl (by decide) (va_runV (As := [.int x1, .int x4]) (rest := [.ref aRm]) ⟨hx, hb, hml, hown, hts⟩ (c_R_leads l dC dI cI cZ cS aR aRd aRm aRw aRs aRt aRc aRl aRh aRu aRx aRy aRk of op cr wn fp fs dk (upd mm ((16 * x4) + 2).toNatClampNeg ((mm ((16 * x4) + 2).toNatClampNeg) &&& (((1 : Int32) <<< (fs &&& 31)) ^^^ (-1)))) wk sg tb cs lw hg us de sa ky x1 x4 r_8 hr_8 H.size) (cwV 2 hts gX5_deleteKey_X5_leads rfl rfl rfl (by decide +kernel) ⟨Nat.le_of_ble_eq_true rfl, Nat.le_of_ble_eq_true rfl⟩) (mk_preV (w0 := w_R cI cZ cS aR aRd aRm aRw aRs aRt aRc aRl aRh aRu aRx aRy aRk of op cr wn fp fs dk (upd mm ((16 * x4) + 2).toNatClampNeg ((mm ((16 * x4) + 2).toNatClampNeg) &&& (((1 : Int32) <<< (fs &&& 31)) ^^^ (-1)))) wk sg tb cs lw hg us de sa ky) (ci := 5) (q0 := 0) hN hK (mk_pick hP [0, 1, 2, 3, 4, 5, 6, 7, 8, 9, 10, 11, 12] rfl) (hD.sub [0, 1, 2, 3, 4, 5, 6, 7, 8, 9, 10, 11, 12] (by decide) rfl) rfl rfl rfl) rfl rfl hl.1 rfl (lv_room (Nat.le_of_ble_eq_true rfl)) dX5_deleteKey_136 ⟨Nat.zero_le _, Nat.zero_le _⟩) (fun H locs hP hD hS => ?_)
      refine lv_aload_n hx hb dX5_deleteKey_139 rfl (lv_at hl 0 rfl) ?_
      refine va_get (D := (dC, dI)) (ci := 5) (v := .ref aRm) (C := RX5) (T := TX5) (N := 18) hx hb hts iw_R_deleteKey_Model hown hK hP 0 rfl rfl 1 (by decide) (hts _ mm_R_deleteKey_0) (fun _ h9 => h9) rfl dX5_deleteKey_140 ?_
      refine lv_bipush (v := 16) hx hb dX5_deleteKey_143 (by decide) ?_
      refine lv_iload hx hb dX5_deleteKey_145 (lv_at hl 3 rfl) ?_
      refine lv_imul hx hb dX5_deleteKey_147 ?_
      refine lv_iconst (v := 1) hx hb dX5_deleteKey_148 (by decide) ?_
      refine lv_iadd hx hb dX5_deleteKey_149 ?_
      obtain ⟨hc_9, h⟩ := kp_in h
      refine va_iald hx hb hK hP 2 0 rfl rfl (kx_of hc_9) dX5_deleteKey_150 ?_
      obtain ⟨hc_10, h⟩ := kp_in h
      refine va_iast hx hb hK hP hD hS 2 0 rfl rfl (kx_of hc_10) dX5_deleteKey_151 (fun H locs hP hD hS => ?_)
      have hP : va_P (dC, dI) vwCl (w_R cI cZ cS aR aRd aRm aRw aRs aRt aRc aRl aRh aRu aRx aRy aRk of op cr wn fp fs dk (upd (upd mm ((16 * x4) + 2).toNatClampNeg ((mm ((16 * x4) + 2).toNatClampNeg) &&& (((1 : Int32) <<< (fs &&& 31)) ^^^ (-1)))) r_8.toNatClampNeg ((upd mm ((16 * x4) + 2).toNatClampNeg ((mm ((16 * x4) + 2).toNatClampNeg) &&& (((1 : Int32) <<< (fs &&& 31)) ^^^ (-1)))) ((16 * x4) + 1).toNatClampNeg)) wk sg tb cs lw hg us de sa ky) H := hP
      have hD : va_D A (w_R cI cZ cS aR aRd aRm aRw aRs aRt aRc aRl aRh aRu aRx aRy aRk of op cr wn fp fs dk (upd (upd mm ((16 * x4) + 2).toNatClampNeg ((mm ((16 * x4) + 2).toNatClampNeg) &&& (((1 : Int32) <<< (fs &&& 31)) ^^^ (-1)))) r_8.toNatClampNeg ((upd mm ((16 * x4) + 2).toNatClampNeg ((mm ((16 * x4) + 2).toNatClampNeg) &&& (((1 : Int32) <<< (fs &&& 31)) ^^^ (-1)))) ((16 * x4) + 1).toNatClampNeg)) wk sg tb cs lw hg us de sa ky) := hD
      refine lv_aload_n hx hb dX5_deleteKey_152 rfl (lv_at hl 0 rfl) ?_
      refine lv_iload hx hb dX5_deleteKey_153 (lv_at hl 3 rfl) ?_
      obtain ⟨r_11, hr_11, h⟩ := kp_bind h
      refine mk_contV (w := w_R cI cZ cS aR aRd aRm aRw aRs aRt aRc aRl aRh aRu aRx aRy aRk of op cr wn fp fs dk (upd (upd mm ((16 * x4) + 2).toNatClampNeg ((mm ((16 * x4) + 2).toNatClampNeg) &&& (((1 : Int32) <<< (fs &&& 31)) ^^^ (-1)))) r_8.toNatClampNeg ((upd mm ((16 * x4) + 2).toNatClampNeg ((mm ((16 * x4) + 2).toNatClampNeg) &&& (((1 : Int32) <<< (fs &&& 31)) ^^^ (-1)))) ((16 * x4) + 1).toNatClampNeg)) wk sg tb cs lw hg us de sa ky) (w0 := w_R cI cZ cS aR aRd aRm aRw aRs aRt aRc aRl aRh aRu aRx aRy aRk of op cr wn fp fs dk (upd (upd mm ((16 * x4) + 2).toNatClampNeg ((mm ((16 * x4) + 2).toNatClampNeg) &&& (((1 : Int32) <<< (fs &&& 31)) ^^^ (-1)))) r_8.toNatClampNeg ((upd mm ((16 * x4) + 2).toNatClampNeg ((mm ((16 * x4) + 2).toNatClampNeg) &&& (((1 : Int32) <<< (fs &&& 31)) ^^^ (-1)))) ((16 * x4) + 1).toNatClampNeg)) wk sg tb cs lw hg us de sa ky) (wr := []) (w2 := w_R cI cZ cS aR aRd aRm aRw aRs aRt aRc aRl aRh aRu aRx aRy aRk of op cr wn fp fs dk r_11 wk sg tb cs lw hg us de sa ky) hP hD hS hA [0, 1, 2, 3, 4, 5, 6, 7, 8, 9, 10, 11, 12] [] rfl rfl (by decide) (by decide) [0, 1, 2, 3, 4, 5, 6, 7, 8, 9, 10, 11, 12] rfl (by decide) (va_runV (As := [.int x4]) (rest := []) ⟨hx, hb, hml, hown, hts⟩ (c_R_clearPage l dC dI cI cZ cS aR aRd aRm aRw aRs aRt aRc aRl aRh aRu aRx aRy aRk of op cr wn fp fs dk (upd (upd mm ((16 * x4) + 2).toNatClampNeg ((mm ((16 * x4) + 2).toNatClampNeg) &&& (((1 : Int32) <<< (fs &&& 31)) ^^^ (-1)))) r_8.toNatClampNeg ((upd mm ((16 * x4) + 2).toNatClampNeg ((mm ((16 * x4) + 2).toNatClampNeg) &&& (((1 : Int32) <<< (fs &&& 31)) ^^^ (-1)))) ((16 * x4) + 1).toNatClampNeg)) wk sg tb cs lw hg us de sa ky x4 r_11 hr_11 H.size) (cwV 1 hts gX5_deleteKey_X5_clearPage rfl rfl rfl (by decide +kernel) ⟨Nat.le_of_ble_eq_true rfl, Nat.le_of_ble_eq_true rfl⟩) (mk_preV (w0 := w_R cI cZ cS aR aRd aRm aRw aRs aRt aRc aRl aRh aRu aRx aRy aRk of op cr wn fp fs dk (upd (upd mm ((16 * x4) + 2).toNatClampNeg ((mm ((16 * x4) + 2).toNatClampNeg) &&& (((1 : Int32) <<< (fs &&& 31)) ^^^ (-1)))) r_8.toNatClampNeg ((upd mm ((16 * x4) + 2).toNatClampNeg ((mm ((16 * x4) + 2).toNatClampNeg) &&& (((1 : Int32) <<< (fs &&& 31)) ^^^ (-1)))) ((16 * x4) + 1).toNatClampNeg)) wk sg tb cs lw hg us de sa ky) (ci := 5) (q0 := 0) hN hK (mk_pick hP [0, 1, 2, 3, 4, 5, 6, 7, 8, 9, 10, 11, 12] rfl) (hD.sub [0, 1, 2, 3, 4, 5, 6, 7, 8, 9, 10, 11, 12] (by decide) rfl) rfl rfl rfl) rfl rfl hl.1 rfl (lv_room (Nat.le_of_ble_eq_true rfl)) dX5_deleteKey_155 ⟨Nat.zero_le _, Nat.zero_le _⟩) (fun H locs hP hD hS => ?_)
      exact b_R_deleteKey_158 E hA hK R x1 fp fs r_11 de h H locs ls hP hD hS (lv_sub hl [0, 1] rfl)
  · replace h := (kp_if h).2 c_3
    refine lv_aload_n hx hb dX5_deleteKey_64 rfl (lv_at hl 0 rfl) ?_
    refine va_get (D := (dC, dI)) (ci := 5) (v := .ref aRm) (C := RX5) (T := TX5) (N := 18) hx hb hts iw_R_deleteKey_Model hown hK hP 0 rfl rfl 1 (by decide) (hts _ mm_R_deleteKey_0) (fun _ h9 => h9) rfl dX5_deleteKey_65 ?_
    refine lv_iload_n hx hb dX5_deleteKey_68 rfl (lv_at hl 2 rfl) ?_
    refine lv_iload hx hb dX5_deleteKey_69 (lv_at hl 4 rfl) ?_
    refine lv_iadd hx hb dX5_deleteKey_71 ?_
    refine lv_iconst (v := 0) hx hb dX5_deleteKey_72 (by decide) ?_
    obtain ⟨hc_12, h⟩ := kp_in h
    refine va_iast hx hb hK hP hD hS 2 0 rfl rfl (kx_of hc_12) dX5_deleteKey_73 (fun H locs hP hD hS => ?_)
    have hP : va_P (dC, dI) vwCl (w_R cI cZ cS aR aRd aRm aRw aRs aRt aRc aRl aRh aRu aRx aRy aRk of op cr wn fp fs dk (upd mm (x3 + x5).toNatClampNeg 0) wk sg tb cs lw hg us de sa ky) H := hP
    have hD : va_D A (w_R cI cZ cS aR aRd aRm aRw aRs aRt aRc aRl aRh aRu aRx aRy aRk of op cr wn fp fs dk (upd mm (x3 + x5).toNatClampNeg 0) wk sg tb cs lw hg us de sa ky) := hD
    refine lv_iinc (v := x5 + 1) (lv' := [(5, .int (x5 + 1)), (0, .ref aR), (1, .int x1), (3, .int x3), (4, .int x4)]) hx hb dX5_deleteKey_74 hl (k := 4) rfl rfl (by decide) rfl (fun ls hl => ?_)
    refine lv_goto (tgt := 53) hx hb dX5_deleteKey_77 (by decide) ?_
    exact hk_53 x1 x3 x4 (x5 + 1) fp fs (upd mm (x3 + x5).toNatClampNeg 0) de h H locs ls hP hD hS (lv_sub hl [1, 2, 3, 4, 0] rfl)
set_option maxHeartbeats 4000000 in
set_option maxRecDepth 100000 in
theorem l_R_deleteKey_53 {p : Program} {l : Launch} {e : Env} {s : State} {m : MethodId} {below : List Frame} {meth : Method} {c : Code} {A : Nat → Prop} {dC : Nat → ClassId} {dI : Nat → Nat → Nat} {cI cZ cS : ClassId} {aR aRd aRm aRw aRs aRt aRc aRl aRh aRu aRx aRy aRk : Nat} {of : Int32} {op : Int32} {cr : Int32} {wn : Int32} {dk : Nat → Int32} {wk : Nat → Int32} {sg : Nat → Int32} {tb : Nat → Int32} {cs : Nat → Int32} {lw : Nat → Int32} {hg : Nat → Int32} {us : Nat → Int32} {sa : Nat → Int32} {ky : Nat → Int32} {a1 : Int32} {a2 : Int32} (E : mk_En p s m meth c cX5_deleteKey 6 (some .int) ([.ref aR, .int a1, .int a2] : List Value).toArray wsX5_deleteKey yX5_deleteKey.cls) (hA : ∀ q : Nat, s.heap.size ≤ q → A q) (hK : va_K (dC, dI) vwCl (tyz cI cZ cS) s) (R : Int32 × Int32 × Int32 × (Nat → Int32) × (Nat → Int32)) : ∀ (n : Nat) (x1 : Int32) (x3 : Int32) (x4 : Int32) (x5 : Int32) (fp : Int32) (fs : Int32) (mm : Nat → Int32) (de : Nat → Int32), pl_R_deleteKey_53 of op tb n x1 x3 x4 x5 fp fs mm de = some R → ∀ (H : Heap) (locs : List Loc) (ls : Array Slot), va_P (dC, dI) vwCl (w_R cI cZ cS aR aRd aRm aRw aRs aRt aRc aRl aRh aRu aRx aRy aRk of op cr wn fp fs dk mm wk sg tb cs lw hg us de sa ky) H → va_D A (w_R cI cZ cS aR aRd aRm aRw aRs aRt aRc aRl aRh aRu aRx aRy aRk of op cr wn fp fs dk mm wk sg tb cs lw hg us de sa ky) → va_S A s.heap H locs → lv_has ls 6 [(0, .ref aR), (1, .int x1), (3, .int x3), (4, .int x4), (5, .int x5)] → W p l e ({ frames := 2, cells := 0, slots := 0, locals := 47 } : Room) s m ([.ref aR, .int a1, .int a2] : List Value).toArray below meth c H locs 0 0 (MQ below (mk_QI (dC, dI) vwCl (tyz cI cZ cS) A (fun u : Int32 × Int32 × (Nat → Int32) × (Nat → Int32) => w_R cI cZ cS aR aRd aRm aRw aRs aRt aRc aRl aRh aRu aRx aRy aRk of op cr wn u.1 u.2.1 dk u.2.2.1 wk sg tb cs lw hg us u.2.2.2 sa ky) R) ([.ref aR, .int a1, .int a2] : List Value).toArray s 0 0 A) (F0 m 53 ls []) := by
  intro n
  induction n with
  | zero =>
    intro x1 x3 x4 x5 fp fs mm de h
    cases h
  | succ n ih =>
    intro x1 x3 x4 x5 fp fs mm de h
    exact b_R_deleteKey_53 E hA hK R ih x1 x3 x4 x5 fp fs mm de h
set_option maxHeartbeats 4000000 in
set_option maxRecDepth 100000 in
theorem c_R_deleteKey (l : Launch) (dC : Nat → ClassId) (dI : Nat → Nat → Nat) (cI cZ cS : ClassId) (aR aRd aRm aRw aRs aRt aRc aRl aRh aRu aRx aRy aRk : Nat) (of : Int32) (op : Int32) (cr : Int32) (wn : Int32) (fp : Int32) (fs : Int32) (dk : Nat → Int32) (mm : Nat → Int32) (wk : Nat → Int32) (sg : Nat → Int32) (tb : Nat → Int32) (cs : Nat → Int32) (lw : Nat → Int32) (hg : Nat → Int32) (us : Nat → Int32) (de : Nat → Int32) (sa : Nat → Int32) (ky : Nat → Int32) (a1 : Int32) (a2 : Int32) : CtI l yX5_deleteKey wsX5_deleteKey ({ frames := 2, cells := 0, slots := 0, locals := 47 }) (dC, dI) vwCl (tyz cI cZ cS) [.ref aR, .int a1, .int a2] (w_R cI cZ cS aR aRd aRm aRw aRs aRt aRc aRl aRh aRu aRx aRy aRk of op cr wn fp fs dk mm wk sg tb cs lw hg us de sa ky) (fun u : Int32 × Int32 × (Nat → Int32) × (Nat → Int32) => w_R cI cZ cS aR aRd aRm aRw aRs aRt aRc aRl aRh aRu aRx aRy aRk of op cr wn u.1 u.2.1 dk u.2.2.1 wk sg tb cs lw hg us u.2.2.2 sa ky) (p_R_deleteKey of op fp fs mm tb de a1 a2) := by
  intro R h
  refine mk_enter (Qc := (fun A => mk_QI (dC, dI) vwCl (tyz cI cZ cS) A (fun u : Int32 × Int32 × (Nat → Int32) × (Nat → Int32) => w_R cI cZ cS aR aRd aRm aRw aRs aRt aRc aRl aRh aRu aRx aRy aRk of op cr wn u.1 u.2.1 dk u.2.2.1 wk sg tb cs lw hg us u.2.2.2 sa ky) R)) (by decide) rfl (Nat.le_of_ble_eq_true rfl) ?_
  intro p e s m below meth c A E hA hK H locs ls hP hD hS hl
  obtain ⟨⟨hx, hb, hml, hown, hts⟩, hrt, hlk, hN⟩ := id E
  have hown : s.vm.findClass RX5 = some m.cls := hown
  have hl : lv_has ls 6 [(0, .ref aR), (1, .int a1), (2, .int a2)] := hl
  unfold p_R_deleteKey at h
  refine lv_aload_n hx hb dX5_deleteKey_0 rfl (lv_at hl 0 rfl) ?_
  refine va_get (D := (dC, dI)) (ci := 5) (v := .int of) (C := RX5) (T := TX5) (N := 18) hx hb hts iw_R_deleteKey_Model hown hK hP 0 rfl rfl 4 (by decide) (hts _ mm_R_deleteKey_3) (fun _ h9 => h9) rfl dX5_deleteKey_1 ?_
  refine lv_if_eq (tgt := 9) hx hb dX5_deleteKey_4 (by decide) (fun c_13 => ?_) (fun c_13 => ?_)
  · replace h := (kp_if h).1 c_13
    refine lv_aload_n hx hb dX5_deleteKey_9 rfl (lv_at hl 0 rfl) ?_
    refine va_get (D := (dC, dI)) (ci := 5) (v := .int op) (C := RX5) (T := TX5) (N := 18) hx hb hts iw_R_deleteKey_Model hown hK hP 0 rfl rfl 5 (by decide) (hts _ mm_R_deleteKey_4) (fun _ h9 => h9) rfl dX5_deleteKey_10 ?_
    refine lv_if_ne (tgt := 19) hx hb dX5_deleteKey_13 (by decide) (fun c_14 => ?_) (fun c_14 => ?_)
    · replace h := (kp_if h).2 c_14
      refine lv_aload_n hx hb dX5_deleteKey_19 rfl (lv_at hl 0 rfl) ?_
      refine lv_iload_n hx hb dX5_deleteKey_20 rfl (lv_at hl 1 rfl) ?_
      obtain ⟨r_15, hr_15, h⟩ := kp_bind h
      refine mk_contR (w := w_R cI cZ cS aR aRd aRm aRw aRs aRt aRc aRl aRh aRu aRx aRy aRk of op cr wn fp fs dk mm wk sg tb cs lw hg us de sa ky) (w0 := w_R cI cZ cS aR aRd aRm aRw aRs aRt aRc aRl aRh aRu aRx aRy aRk of op cr wn fp fs dk mm wk sg tb cs lw hg us de sa ky) (wr := []) hP hD hS hA [0, 1, 2, 3, 4, 5, 6, 7, 8, 9, 10, 11, 12] [] rfl rfl (by decide) (by decide) [0, 1, 2, 3, 4, 5, 6, 7, 8, 9, 10, 11, 12] rfl (by decide) (va_runV (As := [.int a1]) (rest := []) ⟨hx, hb, hml, hown, hts⟩ (c_R_noTable l dC dI cI cZ cS aR aRd aRm aRw aRs aRt aRc aRl aRh aRu aRx aRy aRk of op cr wn fp fs dk mm wk sg tb cs lw hg us de sa ky a1 r_15 hr_15 H.size) (cwV 1 hts gX5_deleteKey_X5_noTable rfl rfl rfl (by decide +kernel) ⟨Nat.le_of_ble_eq_true rfl, Nat.le_of_ble_eq_true rfl⟩) (mk_preV (w0 := w_R cI cZ cS aR aRd aRm aRw aRs aRt aRc aRl aRh aRu aRx aRy aRk of op cr wn fp fs dk mm wk sg tb cs lw hg us de sa ky) (ci := 5) (q0 := 0) hN hK (mk_pick hP [0, 1, 2, 3, 4, 5, 6, 7, 8, 9, 10, 11, 12] rfl) (hD.sub [0, 1, 2, 3, 4, 5, 6, 7, 8, 9, 10, 11, 12] (by decide) rfl) rfl rfl rfl) rfl rfl hl.1 rfl (lv_room (Nat.le_of_ble_eq_true rfl)) dX5_deleteKey_21 ⟨Nat.zero_le _, Nat.zero_le _⟩) (fun H locs hP hD hS => ?_)
      refine lv_if_eq (tgt := 30) hx hb dX5_deleteKey_24 (by decide) (fun c_16 => ?_) (fun c_16 => ?_)
      · replace h := (kp_if h).1 c_16
        refine lv_aload_n hx hb dX5_deleteKey_30 rfl (lv_at hl 0 rfl) ?_
        refine lv_iload_n hx hb dX5_deleteKey_31 rfl (lv_at hl 1 rfl) ?_
        refine lv_iload_n hx hb dX5_deleteKey_32 rfl (lv_at hl 2 rfl) ?_
        obtain ⟨r_17, hr_17, h⟩ := kp_bind h
        refine mk_contI (w := w_R cI cZ cS aR aRd aRm aRw aRs aRt aRc aRl aRh aRu aRx aRy aRk of op cr wn fp fs dk mm wk sg tb cs lw hg us de sa ky) (w0 := w_R cI cZ cS aR aRd aRm aRw aRs aRt aRc aRl aRh aRu aRx aRy aRk of op cr wn fp fs dk mm wk sg tb cs lw hg us de sa ky) (wr := []) (w2 := w_R cI cZ cS aR aRd aRm aRw aRs aRt aRc aRl aRh aRu aRx aRy aRk of op cr wn r_17.2.1 r_17.2.2 dk mm wk sg tb cs lw hg us de sa ky) hP hD hS hA [0, 1, 2, 3, 4, 5, 6, 7, 8, 9, 10, 11, 12] [] rfl rfl (by decide) (by decide) [0, 1, 2, 3, 4, 5, 6, 7, 8, 9, 10, 11, 12] rfl (by decide) (va_runV (As := [.int a1, .int a2]) (rest := []) ⟨hx, hb, hml, hown, hts⟩ (c_R_seek l dC dI cI cZ cS aR aRd aRm aRw aRs aRt aRc aRl aRh aRu aRx aRy aRk of op cr wn fp fs dk mm wk sg tb cs lw hg us de sa ky a1 a2 r_17 hr_17 H.size) (cwV 2 hts gX5_deleteKey_X5_seek rfl rfl rfl (by decide +kernel) ⟨Nat.le_of_ble_eq_true rfl, Nat.le_of_ble_eq_true rfl⟩) (mk_preV (w0 := w_R cI cZ cS aR aRd aRm aRw aRs aRt aRc aRl aRh aRu aRx aRy aRk of op cr wn fp fs dk mm wk sg tb cs lw hg us de sa ky) (ci := 5) (q0 := 0) hN hK (mk_pick hP [0, 1, 2, 3, 4, 5, 6, 7, 8, 9, 10, 11, 12] rfl) (hD.sub [0, 1, 2, 3, 4, 5, 6, 7, 8, 9, 10, 11, 12] (by decide) rfl) rfl rfl rfl) rfl rfl hl.1 rfl (lv_room (Nat.le_of_ble_eq_true rfl)) dX5_deleteKey_33 ⟨Nat.zero_le _, Nat.zero_le _⟩) (fun H locs hP hD hS => ?_)
        refine lv_istore_n (lv' := [(3, .int r_17.1), (0, .ref aR), (1, .int a1), (2, .int a2)]) hx hb dX5_deleteKey_36 rfl hl (by decide) rfl (fun ls hl => ?_)
        refine lv_iload_n hx hb dX5_deleteKey_37 rfl (lv_at hl 0 rfl) ?_
        refine lv_if_ge (tgt := 44) hx hb dX5_deleteKey_38 (by decide) (fun c_18 => ?_) (fun c_18 => ?_)
        · replace h := (kp_if h).1 c_18
          refine lv_aload_n hx hb dX5_deleteKey_44 rfl (lv_at hl 1 rfl) ?_
          refine va_get (D := (dC, dI)) (ci := 5) (v := .int r_17.2.1) (C := RX5) (T := TX5) (N := 18) hx hb hts iw_R_deleteKey_Model hown hK hP 0 rfl rfl 16 (by decide) (hts _ mm_R_deleteKey_5) (fun _ h9 => h9) rfl dX5_deleteKey_45 ?_
          refine lv_istore (lv' := [(4, .int r_17.2.1), (3, .int r_17.1), (0, .ref aR), (1, .int a1), (2, .int a2)]) hx hb dX5_deleteKey_48 hl (by decide) rfl (fun ls hl => ?_)
          refine lv_iconst (v := 0) hx hb dX5_deleteKey_50 (by decide) ?_
          refine lv_istore (lv' := [(5, .int 0), (4, .int r_17.2.1), (3, .int r_17.1), (0, .ref aR), (1, .int a1), (2, .int a2)]) hx hb dX5_deleteKey_51 hl (by decide) rfl (fun ls hl => ?_)
          exact l_R_deleteKey_53 E hA hK R 1000 a1 r_17.1 r_17.2.1 0 r_17.2.1 r_17.2.2 mm de h H locs ls hP hD hS (lv_sub hl [3, 4, 2, 1, 0] rfl)
        · replace h := (kp_if h).2 c_18
          refine lv_bipush (v := (-6)) hx hb dX5_deleteKey_41 (by decide) ?_
          cases h
          exact mk_iret E hK hP hD hS dX5_deleteKey_43
      · replace h := (kp_if h).2 c_16
        refine lv_bipush (v := (-5)) hx hb dX5_deleteKey_27 (by decide) ?_
        cases h
        exact mk_iret E hK hP hD hS dX5_deleteKey_29
    · replace h := (kp_if h).1 c_14
      refine lv_bipush (v := (-2)) hx hb dX5_deleteKey_16 (by decide) ?_
      cases h
      exact mk_iret E hK hP hD hS dX5_deleteKey_18
  · replace h := (kp_if h).2 c_13
    refine lv_iconst (v := (-1)) hx hb dX5_deleteKey_7 (by decide) ?_
    cases h
    exact mk_iret E hK hP hD hS dX5_deleteKey_8

/- Model.updateCol(IIII)I -/
set_option maxRecDepth 20000 in
theorem mm_R_updateCol_0 : Cond.fieldLink RX5 51 "JournaledTablesModel" "off" "Z" ∈ wsX5_updateCol := by decide +kernel
set_option maxRecDepth 20000 in
theorem iw_R_updateCol_Model : ∀ w ∈ u_ws RX5 TX5 18, w ∈ wsX5_updateCol := by decide +kernel
set_option maxRecDepth 20000 in
theorem mm_R_updateCol_2 : Cond.fieldLink RX5 66 "JournaledTablesModel" "open" "Z" ∈ wsX5_updateCol := by decide +kernel
set_option maxRecDepth 20000 in
theorem mm_R_updateCol_3 : Cond.fieldLink RX5 13 "JournaledTablesModel" "memory" "[I" ∈ wsX5_updateCol := by decide +kernel
set_option maxHeartbeats 4000000 in
set_option maxRecDepth 100000 in
theorem b_R_updateCol_45 {p : Program} {l : Launch} {e : Env} {s : State} {m : MethodId} {below : List Frame} {meth : Method} {c : Code} {A : Nat → Prop} {dC : Nat → ClassId} {dI : Nat → Nat → Nat} {cI cZ cS : ClassId} {aR aRd aRm aRw aRs aRt aRc aRl aRh aRu aRx aRy aRk : Nat} {of : Int32} {op : Int32} {cr : Int32} {wn : Int32} {dk : Nat → Int32} {wk : Nat → Int32} {sg : Nat → Int32} {tb : Nat → Int32} {cs : Nat → Int32} {lw : Nat → Int32} {hg : Nat → Int32} {us : Nat → Int32} {sa : Nat → Int32} {ky : Nat → Int32} {a1 : Int32} {a2 : Int32} {a3 : Int32} {a4 : Int32} (E : mk_En p s m meth c cX5_updateCol 6 (some .int) ([.ref aR, .int a1, .int a2, .int a3, .int a4] : List Value).toArray wsX5_updateCol yX5_updateCol.cls) (hA : ∀ q : Nat, s.heap.size ≤ q → A q) (hK : va_K (dC, dI) vwCl (tyz cI cZ cS) s) (R : Int32 × Int32 × Int32 × (Nat → Int32) × (Nat → Int32)) (fp : Int32) (fs : Int32) (mm : Nat → Int32) (de : Nat → Int32) (h : p_R_updateCol_45 of op tb fp fs mm de = some R) : ∀ (H : Heap) (locs : List Loc) (ls : Array Slot), va_P (dC, dI) vwCl (w_R cI cZ cS aR aRd aRm aRw aRs aRt aRc aRl aRh aRu aRx aRy aRk of op cr wn fp fs dk mm wk sg tb cs lw hg us de sa ky) H → va_D A (w_R cI cZ cS aR aRd aRm aRw aRs aRt aRc aRl aRh aRu aRx aRy aRk of op cr wn fp fs dk mm wk sg tb cs lw hg us de sa ky) → va_S A s.heap H locs → lv_has ls 6 [] → W p l e ({ frames := 2, cells := 0, slots := 0, locals := 47 } : Room) s m ([.ref aR, .int a1, .int a2, .int a3, .int a4] : List Value).toArray below meth c H locs 0 0 (MQ below (mk_QI (dC, dI) vwCl (tyz cI cZ cS) A (fun u : Int32 × Int32 × (Nat → Int32) × (Nat → Int32) => w_R cI cZ cS aR aRd aRm aRw aRs aRt aRc aRl aRh aRu aRx aRy aRk of op cr wn u.1 u.2.1 dk u.2.2.1 wk sg tb cs lw hg us u.2.2.2 sa ky) R) ([.ref aR, .int a1, .int a2, .int a3, .int a4] : List Value).toArray s 0 0 A) (F0 m 45 ls []) := by
  intro H locs ls hP hD hS hl
  obtain ⟨⟨hx, hb, hml, hown, hts⟩, hrt, hlk, hN⟩ := id E
  have hown : s.vm.findClass RX5 = some m.cls := hown
  unfold p_R_updateCol_45 at h
  refine lv_bipush (v := (-4)) hx hb dX5_updateCol_45 (by decide) ?_
  cases h
  exact mk_iret E hK hP hD hS dX5_updateCol_47
set_option maxHeartbeats 4000000 in
set_option maxRecDepth 100000 in
theorem c_R_updateCol (l : Launch) (dC : Nat → ClassId) (dI : Nat → Nat → Nat) (cI cZ cS : ClassId) (aR aRd aRm aRw aRs aRt aRc aRl aRh aRu aRx aRy aRk : Nat) (of : Int32) (op : Int32) (cr : Int32) (wn : Int32) (fp : Int32) (fs : Int32) (dk : Nat → Int32) (mm : Nat → Int32) (wk : Nat → Int32) (sg : Nat → Int32) (tb : Nat → Int32) (cs : Nat → Int32) (lw : Nat → Int32) (hg : Nat → Int32) (us : Nat → Int32) (de : Nat → Int32) (sa : Nat → Int32) (ky : Nat → Int32) (a1 : Int32) (a2 : Int32) (a3 : Int32) (a4 : Int32) : CtI l yX5_updateCol wsX5_updateCol ({ frames := 2, cells := 0, slots := 0, locals := 47 }) (dC, dI) vwCl (tyz cI cZ cS) [.ref aR, .int a1, .int a2, .int a3, .int a4] (w_R cI cZ cS aR aRd aRm aRw aRs aRt aRc aRl aRh aRu aRx aRy aRk of op cr wn fp fs dk mm wk sg tb cs lw hg us de sa ky) (fun u : Int32 × Int32 × (Nat → Int32) × (Nat → Int32) => w_R cI cZ cS aR aRd aRm aRw aRs aRt aRc aRl aRh aRu aRx aRy aRk of op cr wn u.1 u.2.1 dk u.2.2.1 wk sg tb cs lw hg us u.2.2.2 sa ky) (p_R_updateCol of op fp fs mm tb de a1 a2 a3 a4) := by
  intro R h
  refine mk_enter (Qc := (fun A => mk_QI (dC, dI) vwCl (tyz cI cZ cS) A (fun u : Int32 × Int32 × (Nat → Int32) × (Nat → Int32) => w_R cI cZ cS aR aRd aRm aRw aRs aRt aRc aRl aRh aRu aRx aRy aRk of op cr wn u.1 u.2.1 dk u.2.2.1 wk sg tb cs lw hg us u.2.2.2 sa ky) R)) (by decide) rfl (Nat.le_of_ble_eq_true rfl) ?_
  intro p e s m below meth c A E hA hK H locs ls hP hD hS hl
  obtain ⟨⟨hx, hb, hml, hown, hts⟩, hrt, hlk, hN⟩ := id E
  have hown : s.vm.findClass RX5 = some m.cls := hown
  have hl : lv_has ls 6 [(0, .ref aR), (1, .int a1), (2, .int a2), (3, .int a3), (4, .int a4)] := hl
  unfold p_R_updateCol at h
  refine lv_aload_n hx hb dX5_updateCol_0 rfl (lv_at hl 0 rfl) ?_
  refine va_get (D := (dC, dI)) (ci := 5) (v := .int of) (C := RX5) (T := TX5) (N := 18) hx hb hts iw_R_updateCol_Model hown hK hP 0 rfl rfl 4 (by decide) (hts _ mm_R_updateCol_0) (fun _ h9 => h9) rfl dX5_updateCol_1 ?_
  refine lv_if_eq (tgt := 9) hx hb dX5_updateCol_4 (by decide) (fun c_1 => ?_) (fun c_1 => ?_)
  · replace h := (kp_if h).1 c_1
    refine lv_aload_n hx hb dX5_updateCol_9 rfl (lv_at hl 0 rfl) ?_
    refine va_get (D := (dC, dI)) (ci := 5) (v := .int op) (C := RX5) (T := TX5) (N := 18) hx hb hts iw_R_updateCol_Model hown hK hP 0 rfl rfl 5 (by decide) (hts _ mm_R_updateCol_2) (fun _ h9 => h9) rfl dX5_updateCol_10 ?_
    refine lv_if_ne (tgt := 19) hx hb dX5_updateCol_13 (by decide) (fun c_2 => ?_) (fun c_2 => ?_)
    · replace h := (kp_if h).2 c_2
      refine lv_aload_n hx hb dX5_updateCol_19 rfl (lv_at hl 0 rfl) ?_
      refine lv_iload_n hx hb dX5_updateCol_20 rfl (lv_at hl 1 rfl) ?_
      obtain ⟨r_3, hr_3, h⟩ := kp_bind h
      refine mk_contR (w := w_R cI cZ cS aR aRd aRm aRw aRs aRt aRc aRl aRh aRu aRx aRy aRk of op cr wn fp fs dk mm wk sg tb cs lw hg us de sa ky) (w0 := w_R cI cZ cS aR aRd aRm aRw aRs aRt aRc aRl aRh aRu aRx aRy aRk of op cr wn fp fs dk mm wk sg tb cs lw hg us de sa ky) (wr := []) hP hD hS hA [0, 1, 2, 3, 4, 5, 6, 7, 8, 9, 10, 11, 12] [] rfl rfl (by decide) (by decide) [0, 1, 2, 3, 4, 5, 6, 7, 8, 9, 10, 11, 12] rfl (by decide) (va_runV (As := [.int a1]) (rest := []) ⟨hx, hb, hml, hown, hts⟩ (c_R_noTable l dC dI cI cZ cS aR aRd aRm aRw aRs aRt aRc aRl aRh aRu aRx aRy aRk of op cr wn fp fs dk mm wk sg tb cs lw hg us de sa ky a1 r_3 hr_3 H.size) (cwV 1 hts gX5_updateCol_X5_noTable rfl rfl rfl (by decide +kernel) ⟨Nat.le_of_ble_eq_true rfl, Nat.le_of_ble_eq_true rfl⟩) (mk_preV (w0 := w_R cI cZ cS aR aRd aRm aRw aRs aRt aRc aRl aRh aRu aRx aRy aRk of op cr wn fp fs dk mm wk sg tb cs lw hg us de sa ky) (ci := 5) (q0 := 0) hN hK (mk_pick hP [0, 1, 2, 3, 4, 5, 6, 7, 8, 9, 10, 11, 12] rfl) (hD.sub [0, 1, 2, 3, 4, 5, 6, 7, 8, 9, 10, 11, 12] (by decide) rfl) rfl rfl rfl) rfl rfl hl.1 rfl (lv_room (Nat.le_of_ble_eq_true rfl)) dX5_updateCol_21 ⟨Nat.zero_le _, Nat.zero_le _⟩) (fun H locs hP hD hS => ?_)
      refine lv_if_eq (tgt := 30) hx hb dX5_updateCol_24 (by decide) (fun c_4 => ?_) (fun c_4 => ?_)
      · replace h := (kp_if h).1 c_4
        refine lv_iload_n hx hb dX5_updateCol_30 rfl (lv_at hl 3 rfl) ?_
        refine lv_iconst (v := 1) hx hb dX5_updateCol_31 (by decide) ?_
        refine lv_icmp_lt (tgt := 45) hx hb dX5_updateCol_32 (by decide) (fun c_5 => ?_) (fun c_5 => ?_)
        · replace h := (kp_if h).1 c_5
          exact b_R_updateCol_45 E hA hK R fp fs mm de h H locs ls hP hD hS (lv_sub hl [] rfl)
        · replace h := (kp_if h).2 c_5
          refine lv_iload_n hx hb dX5_updateCol_35 rfl (lv_at hl 3 rfl) ?_
          refine lv_aload_n hx hb dX5_updateCol_36 rfl (lv_at hl 0 rfl) ?_
          refine va_get (D := (dC, dI)) (ci := 5) (v := .ref aRm) (C := RX5) (T := TX5) (N := 18) hx hb hts iw_R_updateCol_Model hown hK hP 0 rfl rfl 1 (by decide) (hts _ mm_R_updateCol_3) (fun _ h9 => h9) rfl dX5_updateCol_37 ?_
          refine lv_iload_n hx hb dX5_updateCol_40 rfl (lv_at hl 1 rfl) ?_
          obtain ⟨hc_6, h⟩ := kp_in h
          refine va_iald hx hb hK hP 2 0 rfl rfl (kx_of hc_6) dX5_updateCol_41 ?_
          refine lv_icmp_lt (tgt := 48) hx hb dX5_updateCol_42 (by decide) (fun c_7 => ?_) (fun c_7 => ?_)
          · replace h := (kp_if h).1 c_7
            refine lv_aload_n hx hb dX5_updateCol_48 rfl (lv_at hl 0 rfl) ?_
            refine lv_iload_n hx hb dX5_updateCol_49 rfl (lv_at hl 1 rfl) ?_
            refine lv_iload_n hx hb dX5_updateCol_50 rfl (lv_at hl 2 rfl) ?_
            obtain ⟨r_8, hr_8, h⟩ := kp_bind h
            refine mk_contI (w := w_R cI cZ cS aR aRd aRm aRw aRs aRt aRc aRl aRh aRu aRx aRy aRk of op cr wn fp fs dk mm wk sg tb cs lw hg us de sa ky) (w0 := w_R cI cZ cS aR aRd aRm aRw aRs aRt aRc aRl aRh aRu aRx aRy aRk of op cr wn fp fs dk mm wk sg tb cs lw hg us de sa ky) (wr := []) (w2 := w_R cI cZ cS aR aRd aRm aRw aRs aRt aRc aRl aRh aRu aRx aRy aRk of op cr wn r_8.2.1 r_8.2.2 dk mm wk sg tb cs lw hg us de sa ky) hP hD hS hA [0, 1, 2, 3, 4, 5, 6, 7, 8, 9, 10, 11, 12] [] rfl rfl (by decide) (by decide) [0, 1, 2, 3, 4, 5, 6, 7, 8, 9, 10, 11, 12] rfl (by decide) (va_runV (As := [.int a1, .int a2]) (rest := []) ⟨hx, hb, hml, hown, hts⟩ (c_R_seek l dC dI cI cZ cS aR aRd aRm aRw aRs aRt aRc aRl aRh aRu aRx aRy aRk of op cr wn fp fs dk mm wk sg tb cs lw hg us de sa ky a1 a2 r_8 hr_8 H.size) (cwV 2 hts gX5_updateCol_X5_seek rfl rfl rfl (by decide +kernel) ⟨Nat.le_of_ble_eq_true rfl, Nat.le_of_ble_eq_true rfl⟩) (mk_preV (w0 := w_R cI cZ cS aR aRd aRm aRw aRs aRt aRc aRl aRh aRu aRx aRy aRk of op cr wn fp fs dk mm wk sg tb cs lw hg us de sa ky) (ci := 5) (q0 := 0) hN hK (mk_pick hP [0, 1, 2, 3, 4, 5, 6, 7, 8, 9, 10, 11, 12] rfl) (hD.sub [0, 1, 2, 3, 4, 5, 6, 7, 8, 9, 10, 11, 12] (by decide) rfl) rfl rfl rfl) rfl rfl hl.1 rfl (lv_room (Nat.le_of_ble_eq_true rfl)) dX5_updateCol_51 ⟨Nat.zero_le _, Nat.zero_le _⟩) (fun H locs hP hD hS => ?_)
            refine lv_istore (lv' := [(5, .int r_8.1), (0, .ref aR), (1, .int a1), (2, .int a2), (3, .int a3), (4, .int a4)]) hx hb dX5_updateCol_54 hl (by decide) rfl (fun ls hl => ?_)
            refine lv_iload hx hb dX5_updateCol_56 (lv_at hl 0 rfl) ?_
            refine lv_if_ge (tgt := 64) hx hb dX5_updateCol_58 (by decide) (fun c_9 => ?_) (fun c_9 => ?_)
            · replace h := (kp_if h).1 c_9
              refine lv_aload_n hx hb dX5_updateCol_64 rfl (lv_at hl 1 rfl) ?_
              refine va_get (D := (dC, dI)) (ci := 5) (v := .ref aRm) (C := RX5) (T := TX5) (N := 18) hx hb hts iw_R_updateCol_Model hown hK hP 0 rfl rfl 1 (by decide) (hts _ mm_R_updateCol_3) (fun _ h9 => h9) rfl dX5_updateCol_65 ?_
              refine lv_iload hx hb dX5_updateCol_68 (lv_at hl 0 rfl) ?_
              refine lv_iload_n hx hb dX5_updateCol_70 rfl (lv_at hl 4 rfl) ?_
              refine lv_iadd hx hb dX5_updateCol_71 ?_
              refine lv_iload hx hb dX5_updateCol_72 (lv_at hl 5 rfl) ?_
              obtain ⟨hc_10, h⟩ := kp_in h
              refine va_iast hx hb hK hP hD hS 2 0 rfl rfl (kx_of hc_10) dX5_updateCol_74 (fun H locs hP hD hS => ?_)
              have hP : va_P (dC, dI) vwCl (w_R cI cZ cS aR aRd aRm aRw aRs aRt aRc aRl aRh aRu aRx aRy aRk of op cr wn r_8.2.1 r_8.2.2 dk (upd mm (r_8.1 + a3).toNatClampNeg a4) wk sg tb cs lw hg us de sa ky) H := hP
              have hD : va_D A (w_R cI cZ cS aR aRd aRm aRw aRs aRt aRc aRl aRh aRu aRx aRy aRk of op cr wn r_8.2.1 r_8.2.2 dk (upd mm (r_8.1 + a3).toNatClampNeg a4) wk sg tb cs lw hg us de sa ky) := hD
              refine lv_aload_n hx hb dX5_updateCol_75 rfl (lv_at hl 1 rfl) ?_
              refine lv_iload_n hx hb dX5_updateCol_76 rfl (lv_at hl 2 rfl) ?_
              obtain ⟨r_11, hr_11, h⟩ := kp_bind h
              refine mk_contV (w := w_R cI cZ cS aR aRd aRm aRw aRs aRt aRc aRl aRh aRu aRx aRy aRk of op cr wn r_8.2.1 r_8.2.2 dk (upd mm (r_8.1 + a3).toNatClampNeg a4) wk sg tb cs lw hg us de sa ky) (w0 := w_R cI cZ cS aR aRd aRm aRw aRs aRt aRc aRl aRh aRu aRx aRy aRk of op cr wn r_8.2.1 r_8.2.2 dk (upd mm (r_8.1 + a3).toNatClampNeg a4) wk sg tb cs lw hg us de sa ky) (wr := []) (w2 := w_R cI cZ cS aR aRd aRm aRw aRs aRt aRc aRl aRh aRu aRx aRy aRk of op cr wn r_8.2.1 r_8.2.2 dk (upd mm (r_8.1 + a3).toNatClampNeg a4) wk sg tb cs lw hg us r_11 sa ky) hP hD hS hA [0, 1, 2, 3, 4, 5, 6, 7, 8, 9, 10, 11, 12] [] rfl rfl (by decide) (by decide) [0, 1, 2, 3, 4, 5, 6, 7, 8, 9, 10, 11, 12] rfl (by decide) (va_runV (As := [.int a1]) (rest := []) ⟨hx, hb, hml, hown, hts⟩ (c_R_change l dC dI cI cZ cS aR aRd aRm aRw aRs aRt aRc aRl aRh aRu aRx aRy aRk of op cr wn r_8.2.1 r_8.2.2 dk (upd mm (r_8.1 + a3).toNatClampNeg a4) wk sg tb cs lw hg us de sa ky a1 r_11 hr_11 H.size) (cwV 1 hts gX5_updateCol_X5_change rfl rfl rfl (by decide +kernel) ⟨Nat.le_of_ble_eq_true rfl, Nat.le_of_ble_eq_true rfl⟩) (mk_preV (w0 := w_R cI cZ cS aR aRd aRm aRw aRs aRt aRc aRl aRh aRu aRx aRy aRk of op cr wn r_8.2.1 r_8.2.2 dk (upd mm (r_8.1 + a3).toNatClampNeg a4) wk sg tb cs lw hg us de sa ky) (ci := 5) (q0 := 0) hN hK (mk_pick hP [0, 1, 2, 3, 4, 5, 6, 7, 8, 9, 10, 11, 12] rfl) (hD.sub [0, 1, 2, 3, 4, 5, 6, 7, 8, 9, 10, 11, 12] (by decide) rfl) rfl rfl rfl) rfl rfl hl.1 rfl (lv_room (Nat.le_of_ble_eq_true rfl)) dX5_updateCol_77 ⟨Nat.zero_le _, Nat.zero_le _⟩) (fun H locs hP hD hS => ?_)
              refine lv_iconst (v := 0) hx hb dX5_updateCol_80 (by decide) ?_
              cases h
              exact mk_iret E hK hP hD hS dX5_updateCol_81
            · replace h := (kp_if h).2 c_9
              refine lv_bipush (v := (-6)) hx hb dX5_updateCol_61 (by decide) ?_
              cases h
              exact mk_iret E hK hP hD hS dX5_updateCol_63
          · replace h := (kp_if h).2 c_7
            exact b_R_updateCol_45 E hA hK R fp fs mm de h H locs ls hP hD hS (lv_sub hl [] rfl)
      · replace h := (kp_if h).2 c_4
        refine lv_bipush (v := (-5)) hx hb dX5_updateCol_27 (by decide) ?_
        cases h
        exact mk_iret E hK hP hD hS dX5_updateCol_29
    · replace h := (kp_if h).1 c_2
      refine lv_bipush (v := (-2)) hx hb dX5_updateCol_16 (by decide) ?_
      cases h
      exact mk_iret E hK hP hD hS dX5_updateCol_18
  · replace h := (kp_if h).2 c_1
    refine lv_iconst (v := (-1)) hx hb dX5_updateCol_7 (by decide) ?_
    cases h
    exact mk_iret E hK hP hD hS dX5_updateCol_8

/- Model.lookup(III)I -/
set_option maxRecDepth 20000 in
theorem mm_R_lookup_0 : Cond.fieldLink RX5 51 "JournaledTablesModel" "off" "Z" ∈ wsX5_lookup := by decide +kernel
set_option maxRecDepth 20000 in
theorem iw_R_lookup_Model : ∀ w ∈ u_ws RX5 TX5 18, w ∈ wsX5_lookup := by decide +kernel
set_option maxRecDepth 20000 in
theorem mm_R_lookup_2 : Cond.fieldLink RX5 13 "JournaledTablesModel" "memory" "[I" ∈ wsX5_lookup := by decide +kernel
set_option maxHeartbeats 4000000 in
set_option maxRecDepth 100000 in
theorem b_R_lookup_57 {p : Program} {l : Launch} {e : Env} {s : State} {m : MethodId} {below : List Frame} {meth : Method} {c : Code} {A : Nat → Prop} {dC : Nat → ClassId} {dI : Nat → Nat → Nat} {cI cZ cS : ClassId} {aR aRd aRm aRw aRs aRt aRc aRl aRh aRu aRx aRy aRk : Nat} {of : Int32} {op : Int32} {cr : Int32} {wn : Int32} {dk : Nat → Int32} {mm : Nat → Int32} {wk : Nat → Int32} {sg : Nat → Int32} {tb : Nat → Int32} {cs : Nat → Int32} {lw : Nat → Int32} {hg : Nat → Int32} {us : Nat → Int32} {de : Nat → Int32} {sa : Nat → Int32} {ky : Nat → Int32} {a1 : Int32} {a2 : Int32} {a3 : Int32} (E : mk_En p s m meth c cX5_lookup 5 (some .int) ([.ref aR, .int a1, .int a2, .int a3] : List Value).toArray wsX5_lookup yX5_lookup.cls) (hA : ∀ q : Nat, s.heap.size ≤ q → A q) (hK : va_K (dC, dI) vwCl (tyz cI cZ cS) s) (R : Int32 × Int32 × Int32) (z0 : Int32) (fp : Int32) (fs : Int32) (h : p_R_lookup_57 of mm z0 fp fs = some R) : ∀ (H : Heap) (locs : List Loc) (ls : Array Slot), va_P (dC, dI) vwCl (w_R cI cZ cS aR aRd aRm aRw aRs aRt aRc aRl aRh aRu aRx aRy aRk of op cr wn fp fs dk mm wk sg tb cs lw hg us de sa ky) H → va_D A (w_R cI cZ cS aR aRd aRm aRw aRs aRt aRc aRl aRh aRu aRx aRy aRk of op cr wn fp fs dk mm wk sg tb cs lw hg us de sa ky) → va_S A s.heap H locs → lv_has ls 5 [] → W p l e ({ frames := 2, cells := 0, slots := 0, locals := 47 } : Room) s m ([.ref aR, .int a1, .int a2, .int a3] : List Value).toArray below meth c H locs 0 0 (MQ below (mk_QI (dC, dI) vwCl (tyz cI cZ cS) A (fun u : Int32 × Int32 => w_R cI cZ cS aR aRd aRm aRw aRs aRt aRc aRl aRh aRu aRx aRy aRk of op cr wn u.1 u.2 dk mm wk sg tb cs lw hg us de sa ky) R) ([.ref aR, .int a1, .int a2, .int a3] : List Value).toArray s 0 0 A) (F0 m 57 ls [.int z0]) := by
  intro H locs ls hP hD hS hl
  obtain ⟨⟨hx, hb, hml, hown, hts⟩, hrt, hlk, hN⟩ := id E
  have hown : s.vm.findClass RX5 = some m.cls := hown
  unfold p_R_lookup_57 at h
  cases h
  exact mk_iret E hK hP hD hS dX5_lookup_57
set_option maxHeartbeats 4000000 in
set_option maxRecDepth 100000 in
theorem b_R_lookup_29 {p : Program} {l : Launch} {e : Env} {s : State} {m : MethodId} {below : List Frame} {meth : Method} {c : Code} {A : Nat → Prop} {dC : Nat → ClassId} {dI : Nat → Nat → Nat} {cI cZ cS : ClassId} {aR aRd aRm aRw aRs aRt aRc aRl aRh aRu aRx aRy aRk : Nat} {of : Int32} {op : Int32} {cr : Int32} {wn : Int32} {dk : Nat → Int32} {mm : Nat → Int32} {wk : Nat → Int32} {sg : Nat → Int32} {tb : Nat → Int32} {cs : Nat → Int32} {lw : Nat → Int32} {hg : Nat → Int32} {us : Nat → Int32} {de : Nat → Int32} {sa : Nat → Int32} {ky : Nat → Int32} {a1 : Int32} {a2 : Int32} {a3 : Int32} (E : mk_En p s m meth c cX5_lookup 5 (some .int) ([.ref aR, .int a1, .int a2, .int a3] : List Value).toArray wsX5_lookup yX5_lookup.cls) (hA : ∀ q : Nat, s.heap.size ≤ q → A q) (hK : va_K (dC, dI) vwCl (tyz cI cZ cS) s) (R : Int32 × Int32 × Int32) (fp : Int32) (fs : Int32) (h : p_R_lookup_29 of mm fp fs = some R) : ∀ (H : Heap) (locs : List Loc) (ls : Array Slot), va_P (dC, dI) vwCl (w_R cI cZ cS aR aRd aRm aRw aRs aRt aRc aRl aRh aRu aRx aRy aRk of op cr wn fp fs dk mm wk sg tb cs lw hg us de sa ky) H → va_D A (w_R cI cZ cS aR aRd aRm aRw aRs aRt aRc aRl aRh aRu aRx aRy aRk of op cr wn fp fs dk mm wk sg tb cs lw hg us de sa ky) → va_S A s.heap H locs → lv_has ls 5 [] → W p l e ({ frames := 2, cells := 0, slots := 0, locals := 47 } : Room) s m ([.ref aR, .int a1, .int a2, .int a3] : List Value).toArray below meth c H locs 0 0 (MQ below (mk_QI (dC, dI) vwCl (tyz cI cZ cS) A (fun u : Int32 × Int32 => w_R cI cZ cS aR aRd aRm aRw aRs aRt aRc aRl aRh aRu aRx aRy aRk of op cr wn u.1 u.2 dk mm wk sg tb cs lw hg us de sa ky) R) ([.ref aR, .int a1, .int a2, .int a3] : List Value).toArray s 0 0 A) (F0 m 29 ls []) := by
  intro H locs ls hP hD hS hl
  obtain ⟨⟨hx, hb, hml, hown, hts⟩, hrt, hlk, hN⟩ := id E
  have hown : s.vm.findClass RX5 = some m.cls := hown
  unfold p_R_lookup_29 at h
  refine lv_iconst (v := 0) hx hb dX5_lookup_29 (by decide) ?_
  cases h
  exact mk_iret E hK hP hD hS dX5_lookup_30
set_option maxHeartbeats 4000000 in
set_option maxRecDepth 100000 in
theorem c_R_lookup (l : Launch) (dC : Nat → ClassId) (dI : Nat → Nat → Nat) (cI cZ cS : ClassId) (aR aRd aRm aRw aRs aRt aRc aRl aRh aRu aRx aRy aRk : Nat) (of : Int32) (op : Int32) (cr : Int32) (wn : Int32) (fp : Int32) (fs : Int32) (dk : Nat → Int32) (mm : Nat → Int32) (wk : Nat → Int32) (sg : Nat → Int32) (tb : Nat → Int32) (cs : Nat → Int32) (lw : Nat → Int32) (hg : Nat → Int32) (us : Nat → Int32) (de : Nat → Int32) (sa : Nat → Int32) (ky : Nat → Int32) (a1 : Int32) (a2 : Int32) (a3 : Int32) : CtI l yX5_lookup wsX5_lookup ({ frames := 2, cells := 0, slots := 0, locals := 47 }) (dC, dI) vwCl (tyz cI cZ cS) [.ref aR, .int a1, .int a2, .int a3] (w_R cI cZ cS aR aRd aRm aRw aRs aRt aRc aRl aRh aRu aRx aRy aRk of op cr wn fp fs dk mm wk sg tb cs lw hg us de sa ky) (fun u : Int32 × Int32 => w_R cI cZ cS aR aRd aRm aRw aRs aRt aRc aRl aRh aRu aRx aRy aRk of op cr wn u.1 u.2 dk mm wk sg tb cs lw hg us de sa ky) (p_R_lookup of fp fs mm a1 a2 a3) := by
  intro R h
  refine mk_enter (Qc := (fun A => mk_QI (dC, dI) vwCl (tyz cI cZ cS) A (fun u : Int32 × Int32 => w_R cI cZ cS aR aRd aRm aRw aRs aRt aRc aRl aRh aRu aRx aRy aRk of op cr wn u.1 u.2 dk mm wk sg tb cs lw hg us de sa ky) R)) (by decide) rfl (Nat.le_of_ble_eq_true rfl) ?_
  intro p e s m below meth c A E hA hK H locs ls hP hD hS hl
  obtain ⟨⟨hx, hb, hml, hown, hts⟩, hrt, hlk, hN⟩ := id E
  have hown : s.vm.findClass RX5 = some m.cls := hown
  have hl : lv_has ls 5 [(0, .ref aR), (1, .int a1), (2, .int a2), (3, .int a3)] := hl
  unfold p_R_lookup at h
  refine lv_aload_n hx hb dX5_lookup_0 rfl (lv_at hl 0 rfl) ?_
  refine va_get (D := (dC, dI)) (ci := 5) (v := .int of) (C := RX5) (T := TX5) (N := 18) hx hb hts iw_R_lookup_Model hown hK hP 0 rfl rfl 4 (by decide) (hts _ mm_R_lookup_0) (fun _ h9 => h9) rfl dX5_lookup_1 ?_
  refine lv_if_ne (tgt := 29) hx hb dX5_lookup_4 (by decide) (fun c_1 => ?_) (fun c_1 => ?_)
  · replace h := (kp_if h).2 c_1
    exact b_R_lookup_29 E hA hK R fp fs h H locs ls hP hD hS (lv_sub hl [] rfl)
  · replace h := (kp_if h).1 c_1
    refine lv_aload_n hx hb dX5_lookup_7 rfl (lv_at hl 0 rfl) ?_
    refine lv_iload_n hx hb dX5_lookup_8 rfl (lv_at hl 1 rfl) ?_
    obtain ⟨r_2, hr_2, h⟩ := kp_bind h
    refine mk_contR (w := w_R cI cZ cS aR aRd aRm aRw aRs aRt aRc aRl aRh aRu aRx aRy aRk of op cr wn fp fs dk mm wk sg tb cs lw hg us de sa ky) (w0 := w_R cI cZ cS aR aRd aRm aRw aRs aRt aRc aRl aRh aRu aRx aRy aRk of op cr wn fp fs dk mm wk sg tb cs lw hg us de sa ky) (wr := []) hP hD hS hA [0, 1, 2, 3, 4, 5, 6, 7, 8, 9, 10, 11, 12] [] rfl rfl (by decide) (by decide) [0, 1, 2, 3, 4, 5, 6, 7, 8, 9, 10, 11, 12] rfl (by decide) (va_runV (As := [.int a1]) (rest := []) ⟨hx, hb, hml, hown, hts⟩ (c_R_noTable l dC dI cI cZ cS aR aRd aRm aRw aRs aRt aRc aRl aRh aRu aRx aRy aRk of op cr wn fp fs dk mm wk sg tb cs lw hg us de sa ky a1 r_2 hr_2 H.size) (cwV 1 hts gX5_lookup_X5_noTable rfl rfl rfl (by decide +kernel) ⟨Nat.le_of_ble_eq_true rfl, Nat.le_of_ble_eq_true rfl⟩) (mk_preV (w0 := w_R cI cZ cS aR aRd aRm aRw aRs aRt aRc aRl aRh aRu aRx aRy aRk of op cr wn fp fs dk mm wk sg tb cs lw hg us de sa ky) (ci := 5) (q0 := 0) hN hK (mk_pick hP [0, 1, 2, 3, 4, 5, 6, 7, 8, 9, 10, 11, 12] rfl) (hD.sub [0, 1, 2, 3, 4, 5, 6, 7, 8, 9, 10, 11, 12] (by decide) rfl) rfl rfl rfl) rfl rfl hl.1 rfl (lv_room (Nat.le_of_ble_eq_true rfl)) dX5_lookup_9 ⟨Nat.zero_le _, Nat.zero_le _⟩) (fun H locs hP hD hS => ?_)
    refine lv_if_ne (tgt := 29) hx hb dX5_lookup_12 (by decide) (fun c_3 => ?_) (fun c_3 => ?_)
    · replace h := (kp_if h).2 c_3
      exact b_R_lookup_29 E hA hK R fp fs h H locs ls hP hD hS (lv_sub hl [] rfl)
    · replace h := (kp_if h).1 c_3
      refine lv_iload_n hx hb dX5_lookup_15 rfl (lv_at hl 3 rfl) ?_
      refine lv_if_lt (tgt := 29) hx hb dX5_lookup_16 (by decide) (fun c_4 => ?_) (fun c_4 => ?_)
      · replace h := (kp_if h).1 c_4
        exact b_R_lookup_29 E hA hK R fp fs h H locs ls hP hD hS (lv_sub hl [] rfl)
      · replace h := (kp_if h).2 c_4
        refine lv_iload_n hx hb dX5_lookup_19 rfl (lv_at hl 3 rfl) ?_
        refine lv_aload_n hx hb dX5_lookup_20 rfl (lv_at hl 0 rfl) ?_
        refine va_get (D := (dC, dI)) (ci := 5) (v := .ref aRm) (C := RX5) (T := TX5) (N := 18) hx hb hts iw_R_lookup_Model hown hK hP 0 rfl rfl 1 (by decide) (hts _ mm_R_lookup_2) (fun _ h9 => h9) rfl dX5_lookup_21 ?_
        refine lv_iload_n hx hb dX5_lookup_24 rfl (lv_at hl 1 rfl) ?_
        obtain ⟨hc_5, h⟩ := kp_in h
        refine va_iald hx hb hK hP 2 0 rfl rfl (kx_of hc_5) dX5_lookup_25 ?_
        refine lv_icmp_lt (tgt := 31) hx hb dX5_lookup_26 (by decide) (fun c_6 => ?_) (fun c_6 => ?_)
        · replace h := (kp_if h).1 c_6
          refine lv_aload_n hx hb dX5_lookup_31 rfl (lv_at hl 0 rfl) ?_
          refine lv_iload_n hx hb dX5_lookup_32 rfl (lv_at hl 1 rfl) ?_
          refine lv_iload_n hx hb dX5_lookup_33 rfl (lv_at hl 2 rfl) ?_
          obtain ⟨r_7, hr_7, h⟩ := kp_bind h
          refine mk_contI (w := w_R cI cZ cS aR aRd aRm aRw aRs aRt aRc aRl aRh aRu aRx aRy aRk of op cr wn fp fs dk mm wk sg tb cs lw hg us de sa ky) (w0 := w_R cI cZ cS aR aRd aRm aRw aRs aRt aRc aRl aRh aRu aRx aRy aRk of op cr wn fp fs dk mm wk sg tb cs lw hg us de sa ky) (wr := []) (w2 := w_R cI cZ cS aR aRd aRm aRw aRs aRt aRc aRl aRh aRu aRx aRy aRk of op cr wn r_7.2.1 r_7.2.2 dk mm wk sg tb cs lw hg us de sa ky) hP hD hS hA [0, 1, 2, 3, 4, 5, 6, 7, 8, 9, 10, 11, 12] [] rfl rfl (by decide) (by decide) [0, 1, 2, 3, 4, 5, 6, 7, 8, 9, 10, 11, 12] rfl (by decide) (va_runV (As := [.int a1, .int a2]) (rest := []) ⟨hx, hb, hml, hown, hts⟩ (c_R_seek l dC dI cI cZ cS aR aRd aRm aRw aRs aRt aRc aRl aRh aRu aRx aRy aRk of op cr wn fp fs dk mm wk sg tb cs lw hg us de sa ky a1 a2 r_7 hr_7 H.size) (cwV 2 hts gX5_lookup_X5_seek rfl rfl rfl (by decide +kernel) ⟨Nat.le_of_ble_eq_true rfl, Nat.le_of_ble_eq_true rfl⟩) (mk_preV (w0 := w_R cI cZ cS aR aRd aRm aRw aRs aRt aRc aRl aRh aRu aRx aRy aRk of op cr wn fp fs dk mm wk sg tb cs lw hg us de sa ky) (ci := 5) (q0 := 0) hN hK (mk_pick hP [0, 1, 2, 3, 4, 5, 6, 7, 8, 9, 10, 11, 12] rfl) (hD.sub [0, 1, 2, 3, 4, 5, 6, 7, 8, 9, 10, 11, 12] (by decide) rfl) rfl rfl rfl) rfl rfl hl.1 rfl (lv_room (Nat.le_of_ble_eq_true rfl)) dX5_lookup_34 ⟨Nat.zero_le _, Nat.zero_le _⟩) (fun H locs hP hD hS => ?_)
          refine lv_istore (lv' := [(4, .int r_7.1), (0, .ref aR), (1, .int a1), (2, .int a2), (3, .int a3)]) hx hb dX5_lookup_37 hl (by decide) rfl (fun ls hl => ?_)
          refine lv_iload hx hb dX5_lookup_39 (lv_at hl 0 rfl) ?_
          refine lv_if_ge (tgt := 48) hx hb dX5_lookup_41 (by decide) (fun c_8 => ?_) (fun c_8 => ?_)
          · replace h := (kp_if h).1 c_8
            refine lv_aload_n hx hb dX5_lookup_48 rfl (lv_at hl 1 rfl) ?_
            refine va_get (D := (dC, dI)) (ci := 5) (v := .ref aRm) (C := RX5) (T := TX5) (N := 18) hx hb hts iw_R_lookup_Model hown hK hP 0 rfl rfl 1 (by decide) (hts _ mm_R_lookup_2) (fun _ h9 => h9) rfl dX5_lookup_49 ?_
            refine lv_iload hx hb dX5_lookup_52 (lv_at hl 0 rfl) ?_
            refine lv_iload_n hx hb dX5_lookup_54 rfl (lv_at hl 4 rfl) ?_
            refine lv_iadd hx hb dX5_lookup_55 ?_
            obtain ⟨hc_9, h⟩ := kp_in h
            refine va_iald hx hb hK hP 2 0 rfl rfl (kx_of hc_9) dX5_lookup_56 ?_
            exact b_R_lookup_57 E hA hK R (mm (r_7.1 + a3).toNatClampNeg) r_7.2.1 r_7.2.2 h H locs ls hP hD hS (lv_sub hl [] rfl)
          · replace h := (kp_if h).2 c_8
            refine lv_iconst (v := 0) hx hb dX5_lookup_44 (by decide) ?_
            refine lv_goto (tgt := 57) hx hb dX5_lookup_45 (by decide) ?_
            exact b_R_lookup_57 E hA hK R 0 r_7.2.1 r_7.2.2 h H locs ls hP hD hS (lv_sub hl [] rfl)
        · replace h := (kp_if h).2 c_6
          exact b_R_lookup_29 E hA hK R fp fs h H locs ls hP hD hS (lv_sub hl [] rfl)

/- Model.has(II)Z -/
set_option maxRecDepth 20000 in
theorem mm_R_has_0 : Cond.fieldLink RX5 51 "JournaledTablesModel" "off" "Z" ∈ wsX5_has := by decide +kernel
set_option maxRecDepth 20000 in
theorem iw_R_has_Model : ∀ w ∈ u_ws RX5 TX5 18, w ∈ wsX5_has := by decide +kernel
set_option maxHeartbeats 4000000 in
set_option maxRecDepth 100000 in
theorem b_R_has_29 {p : Program} {l : Launch} {e : Env} {s : State} {m : MethodId} {below : List Frame} {meth : Method} {c : Code} {A : Nat → Prop} {dC : Nat → ClassId} {dI : Nat → Nat → Nat} {cI cZ cS : ClassId} {aR aRd aRm aRw aRs aRt aRc aRl aRh aRu aRx aRy aRk : Nat} {of : Int32} {op : Int32} {cr : Int32} {wn : Int32} {dk : Nat → Int32} {mm : Nat → Int32} {wk : Nat → Int32} {sg : Nat → Int32} {tb : Nat → Int32} {cs : Nat → Int32} {lw : Nat → Int32} {hg : Nat → Int32} {us : Nat → Int32} {de : Nat → Int32} {sa : Nat → Int32} {ky : Nat → Int32} {a1 : Int32} {a2 : Int32} (E : mk_En p s m meth c cX5_has 3 (some .boolean) ([.ref aR, .int a1, .int a2] : List Value).toArray wsX5_has yX5_has.cls) (hA : ∀ q : Nat, s.heap.size ≤ q → A q) (hK : va_K (dC, dI) vwCl (tyz cI cZ cS) s) (R : Int32 × Int32 × Int32) (z0 : Int32) (fp : Int32) (fs : Int32) (h : p_R_has_29 of mm z0 fp fs = some R) : ∀ (H : Heap) (locs : List Loc) (ls : Array Slot), va_P (dC, dI) vwCl (w_R cI cZ cS aR aRd aRm aRw aRs aRt aRc aRl aRh aRu aRx aRy aRk of op cr wn fp fs dk mm wk sg tb cs lw hg us de sa ky) H → va_D A (w_R cI cZ cS aR aRd aRm aRw aRs aRt aRc aRl aRh aRu aRx aRy aRk of op cr wn fp fs dk mm wk sg tb cs lw hg us de sa ky) → va_S A s.heap H locs → lv_has ls 3 [] → W p l e ({ frames := 2, cells := 0, slots := 0, locals := 47 } : Room) s m ([.ref aR, .int a1, .int a2] : List Value).toArray below meth c H locs 0 0 (MQ below (mk_QI (dC, dI) vwCl (tyz cI cZ cS) A (fun u : Int32 × Int32 => w_R cI cZ cS aR aRd aRm aRw aRs aRt aRc aRl aRh aRu aRx aRy aRk of op cr wn u.1 u.2 dk mm wk sg tb cs lw hg us de sa ky) R) ([.ref aR, .int a1, .int a2] : List Value).toArray s 0 0 A) (F0 m 29 ls [.int z0]) := by
  intro H locs ls hP hD hS hl
  obtain ⟨⟨hx, hb, hml, hown, hts⟩, hrt, hlk, hN⟩ := id E
  have hown : s.vm.findClass RX5 = some m.cls := hown
  unfold p_R_has_29 at h
  obtain ⟨hc_1, h⟩ := kp_in h
  cases h
  exact mk_zret E hc_1 hK hP hD hS dX5_has_29
set_option maxHeartbeats 4000000 in
set_option maxRecDepth 100000 in
theorem b_R_has_28 {p : Program} {l : Launch} {e : Env} {s : State} {m : MethodId} {below : List Frame} {meth : Method} {c : Code} {A : Nat → Prop} {dC : Nat → ClassId} {dI : Nat → Nat → Nat} {cI cZ cS : ClassId} {aR aRd aRm aRw aRs aRt aRc aRl aRh aRu aRx aRy aRk : Nat} {of : Int32} {op : Int32} {cr : Int32} {wn : Int32} {dk : Nat → Int32} {mm : Nat → Int32} {wk : Nat → Int32} {sg : Nat → Int32} {tb : Nat → Int32} {cs : Nat → Int32} {lw : Nat → Int32} {hg : Nat → Int32} {us : Nat → Int32} {de : Nat → Int32} {sa : Nat → Int32} {ky : Nat → Int32} {a1 : Int32} {a2 : Int32} (E : mk_En p s m meth c cX5_has 3 (some .boolean) ([.ref aR, .int a1, .int a2] : List Value).toArray wsX5_has yX5_has.cls) (hA : ∀ q : Nat, s.heap.size ≤ q → A q) (hK : va_K (dC, dI) vwCl (tyz cI cZ cS) s) (R : Int32 × Int32 × Int32) (fp : Int32) (fs : Int32) (h : p_R_has_28 of mm fp fs = some R) : ∀ (H : Heap) (locs : List Loc) (ls : Array Slot), va_P (dC, dI) vwCl (w_R cI cZ cS aR aRd aRm aRw aRs aRt aRc aRl aRh aRu aRx aRy aRk of op cr wn fp fs dk mm wk sg tb cs lw hg us de sa ky) H → va_D A (w_R cI cZ cS aR aRd aRm aRw aRs aRt aRc aRl aRh aRu aRx aRy aRk of op cr wn fp fs dk mm wk sg tb cs lw hg us de sa ky) → va_S A s.heap H locs → lv_has ls 3 [] → W p l e ({ frames := 2, cells := 0, slots := 0, locals := 47 } : Room) s m ([.ref aR, .int a1, .int a2] : List Value).toArray below meth c H locs 0 0 (MQ below (mk_QI (dC, dI) vwCl (tyz cI cZ cS) A (fun u : Int32 × Int32 => w_R cI cZ cS aR aRd aRm aRw aRs aRt aRc aRl aRh aRu aRx aRy aRk of op cr wn u.1 u.2 dk mm wk sg tb cs lw hg us de sa ky) R) ([.ref aR, .int a1, .int a2] : List Value).toArray s 0 0 A) (F0 m 28 ls []) := by
  intro H locs ls hP hD hS hl
  obtain ⟨⟨hx, hb, hml, hown, hts⟩, hrt, hlk, hN⟩ := id E
  have hown : s.vm.findClass RX5 = some m.cls := hown
  unfold p_R_has_28 at h
  refine lv_iconst (v := 0) hx hb dX5_has_28 (by decide) ?_
  exact b_R_has_29 E hA hK R 0 fp fs h H locs ls hP hD hS (lv_sub hl [] rfl)
set_option maxHeartbeats 4000000 in
set_option maxRecDepth 100000 in
theorem c_R_has (l : Launch) (dC : Nat → ClassId) (dI : Nat → Nat → Nat) (cI cZ cS : ClassId) (aR aRd aRm aRw aRs aRt aRc aRl aRh aRu aRx aRy aRk : Nat) (of : Int32) (op : Int32) (cr : Int32) (wn : Int32) (fp : Int32) (fs : Int32) (dk : Nat → Int32) (mm : Nat → Int32) (wk : Nat → Int32) (sg : Nat → Int32) (tb : Nat → Int32) (cs : Nat → Int32) (lw : Nat → Int32) (hg : Nat → Int32) (us : Nat → Int32) (de : Nat → Int32) (sa : Nat → Int32) (ky : Nat → Int32) (a1 : Int32) (a2 : Int32) : CtI l yX5_has wsX5_has ({ frames := 2, cells := 0, slots := 0, locals := 47 }) (dC, dI) vwCl (tyz cI cZ cS) [.ref aR, .int a1, .int a2] (w_R cI cZ cS aR aRd aRm aRw aRs aRt aRc aRl aRh aRu aRx aRy aRk of op cr wn fp fs dk mm wk sg tb cs lw hg us de sa ky) (fun u : Int32 × Int32 => w_R cI cZ cS aR aRd aRm aRw aRs aRt aRc aRl aRh aRu aRx aRy aRk of op cr wn u.1 u.2 dk mm wk sg tb cs lw hg us de sa ky) (p_R_has of fp fs mm a1 a2) := by
  intro R h
  refine mk_enter (Qc := (fun A => mk_QI (dC, dI) vwCl (tyz cI cZ cS) A (fun u : Int32 × Int32 => w_R cI cZ cS aR aRd aRm aRw aRs aRt aRc aRl aRh aRu aRx aRy aRk of op cr wn u.1 u.2 dk mm wk sg tb cs lw hg us de sa ky) R)) (by decide) rfl (Nat.le_of_ble_eq_true rfl) ?_
  intro p e s m below meth c A E hA hK H locs ls hP hD hS hl
  obtain ⟨⟨hx, hb, hml, hown, hts⟩, hrt, hlk, hN⟩ := id E
  have hown : s.vm.findClass RX5 = some m.cls := hown
  have hl : lv_has ls 3 [(0, .ref aR), (1, .int a1), (2, .int a2)] := hl
  unfold p_R_has at h
  refine lv_aload_n hx hb dX5_has_0 rfl (lv_at hl 0 rfl) ?_
  refine va_get (D := (dC, dI)) (ci := 5) (v := .int of) (C := RX5) (T := TX5) (N := 18) hx hb hts iw_R_has_Model hown hK hP 0 rfl rfl 4 (by decide) (hts _ mm_R_has_0) (fun _ h9 => h9) rfl dX5_has_1 ?_
  refine lv_if_ne (tgt := 28) hx hb dX5_has_4 (by decide) (fun c_2 => ?_) (fun c_2 => ?_)
  · replace h := (kp_if h).2 c_2
    exact b_R_has_28 E hA hK R fp fs h H locs ls hP hD hS (lv_sub hl [] rfl)
  · replace h := (kp_if h).1 c_2
    refine lv_aload_n hx hb dX5_has_7 rfl (lv_at hl 0 rfl) ?_
    refine lv_iload_n hx hb dX5_has_8 rfl (lv_at hl 1 rfl) ?_
    obtain ⟨r_3, hr_3, h⟩ := kp_bind h
    refine mk_contR (w := w_R cI cZ cS aR aRd aRm aRw aRs aRt aRc aRl aRh aRu aRx aRy aRk of op cr wn fp fs dk mm wk sg tb cs lw hg us de sa ky) (w0 := w_R cI cZ cS aR aRd aRm aRw aRs aRt aRc aRl aRh aRu aRx aRy aRk of op cr wn fp fs dk mm wk sg tb cs lw hg us de sa ky) (wr := []) hP hD hS hA [0, 1, 2, 3, 4, 5, 6, 7, 8, 9, 10, 11, 12] [] rfl rfl (by decide) (by decide) [0, 1, 2, 3, 4, 5, 6, 7, 8, 9, 10, 11, 12] rfl (by decide) (va_runV (As := [.int a1]) (rest := []) ⟨hx, hb, hml, hown, hts⟩ (c_R_noTable l dC dI cI cZ cS aR aRd aRm aRw aRs aRt aRc aRl aRh aRu aRx aRy aRk of op cr wn fp fs dk mm wk sg tb cs lw hg us de sa ky a1 r_3 hr_3 H.size) (cwV 1 hts gX5_has_X5_noTable rfl rfl rfl (by decide +kernel) ⟨Nat.le_of_ble_eq_true rfl, Nat.le_of_ble_eq_true rfl⟩) (mk_preV (w0 := w_R cI cZ cS aR aRd aRm aRw aRs aRt aRc aRl aRh aRu aRx aRy aRk of op cr wn fp fs dk mm wk sg tb cs lw hg us de sa ky) (ci := 5) (q0 := 0) hN hK (mk_pick hP [0, 1, 2, 3, 4, 5, 6, 7, 8, 9, 10, 11, 12] rfl) (hD.sub [0, 1, 2, 3, 4, 5, 6, 7, 8, 9, 10, 11, 12] (by decide) rfl) rfl rfl rfl) rfl rfl hl.1 rfl (lv_room (Nat.le_of_ble_eq_true rfl)) dX5_has_9 ⟨Nat.zero_le _, Nat.zero_le _⟩) (fun H locs hP hD hS => ?_)
    refine lv_if_ne (tgt := 28) hx hb dX5_has_12 (by decide) (fun c_4 => ?_) (fun c_4 => ?_)
    · replace h := (kp_if h).2 c_4
      exact b_R_has_28 E hA hK R fp fs h H locs ls hP hD hS (lv_sub hl [] rfl)
    · replace h := (kp_if h).1 c_4
      refine lv_aload_n hx hb dX5_has_15 rfl (lv_at hl 0 rfl) ?_
      refine lv_iload_n hx hb dX5_has_16 rfl (lv_at hl 1 rfl) ?_
      refine lv_iload_n hx hb dX5_has_17 rfl (lv_at hl 2 rfl) ?_
      obtain ⟨r_5, hr_5, h⟩ := kp_bind h
      refine mk_contI (w := w_R cI cZ cS aR aRd aRm aRw aRs aRt aRc aRl aRh aRu aRx aRy aRk of op cr wn fp fs dk mm wk sg tb cs lw hg us de sa ky) (w0 := w_R cI cZ cS aR aRd aRm aRw aRs aRt aRc aRl aRh aRu aRx aRy aRk of op cr wn fp fs dk mm wk sg tb cs lw hg us de sa ky) (wr := []) (w2 := w_R cI cZ cS aR aRd aRm aRw aRs aRt aRc aRl aRh aRu aRx aRy aRk of op cr wn r_5.2.1 r_5.2.2 dk mm wk sg tb cs lw hg us de sa ky) hP hD hS hA [0, 1, 2, 3, 4, 5, 6, 7, 8, 9, 10, 11, 12] [] rfl rfl (by decide) (by decide) [0, 1, 2, 3, 4, 5, 6, 7, 8, 9, 10, 11, 12] rfl (by decide) (va_runV (As := [.int a1, .int a2]) (rest := []) ⟨hx, hb, hml, hown, hts⟩ (c_R_seek l dC dI cI cZ cS aR aRd aRm aRw aRs aRt aRc aRl aRh aRu aRx aRy aRk of op cr wn fp fs dk mm wk sg tb cs lw hg us de sa ky a1 a2 r_5 hr_5 H.size) (cwV 2 hts gX5_has_X5_seek rfl rfl rfl (by decide +kernel) ⟨Nat.le_of_ble_eq_true rfl, Nat.le_of_ble_eq_true rfl⟩) (mk_preV (w0 := w_R cI cZ cS aR aRd aRm aRw aRs aRt aRc aRl aRh aRu aRx aRy aRk of op cr wn fp fs dk mm wk sg tb cs lw hg us de sa ky) (ci := 5) (q0 := 0) hN hK (mk_pick hP [0, 1, 2, 3, 4, 5, 6, 7, 8, 9, 10, 11, 12] rfl) (hD.sub [0, 1, 2, 3, 4, 5, 6, 7, 8, 9, 10, 11, 12] (by decide) rfl) rfl rfl rfl) rfl rfl hl.1 rfl (lv_room (Nat.le_of_ble_eq_true rfl)) dX5_has_18 ⟨Nat.zero_le _, Nat.zero_le _⟩) (fun H locs hP hD hS => ?_)
      refine lv_if_lt (tgt := 28) hx hb dX5_has_21 (by decide) (fun c_6 => ?_) (fun c_6 => ?_)
      · replace h := (kp_if h).1 c_6
        exact b_R_has_28 E hA hK R r_5.2.1 r_5.2.2 h H locs ls hP hD hS (lv_sub hl [] rfl)
      · replace h := (kp_if h).2 c_6
        refine lv_iconst (v := 1) hx hb dX5_has_24 (by decide) ?_
        refine lv_goto (tgt := 29) hx hb dX5_has_25 (by decide) ?_
        exact b_R_has_29 E hA hK R 1 r_5.2.1 r_5.2.2 h H locs ls hP hD hS (lv_sub hl [] rfl)

/- Model.count(I)I -/
set_option maxRecDepth 20000 in
theorem mm_R_count_0 : Cond.fieldLink RX5 13 "JournaledTablesModel" "memory" "[I" ∈ wsX5_count := by decide +kernel
set_option maxRecDepth 20000 in
theorem iw_R_count_Model : ∀ w ∈ u_ws RX5 TX5 18, w ∈ wsX5_count := by decide +kernel
set_option maxRecDepth 20000 in
theorem mm_R_count_2 : Cond.fieldLink RX5 51 "JournaledTablesModel" "off" "Z" ∈ wsX5_count := by decide +kernel
set_option maxHeartbeats 4000000 in
set_option maxRecDepth 100000 in
theorem b_R_count_65 {p : Program} {l : Launch} {e : Env} {s : State} {m : MethodId} {below : List Frame} {meth : Method} {c : Code} {A : Nat → Prop} {dC : Nat → ClassId} {dI : Nat → Nat → Nat} {cI cZ cS : ClassId} {aR aRd aRm aRw aRs aRt aRc aRl aRh aRu aRx aRy aRk : Nat} {of : Int32} {op : Int32} {cr : Int32} {wn : Int32} {fp : Int32} {fs : Int32} {dk : Nat → Int32} {mm : Nat → Int32} {wk : Nat → Int32} {sg : Nat → Int32} {tb : Nat → Int32} {cs : Nat → Int32} {lw : Nat → Int32} {hg : Nat → Int32} {us : Nat → Int32} {de : Nat → Int32} {sa : Nat → Int32} {ky : Nat → Int32} {a1 : Int32} (E : mk_En p s m meth c cX5_count 4 (some .int) ([.ref aR, .int a1] : List Value).toArray wsX5_count yX5_count.cls) (hA : ∀ q : Nat, s.heap.size ≤ q → A q) (hK : va_K (dC, dI) vwCl (tyz cI cZ cS) s) (R : Int32) {k_24 : Int32 → Int32 → Int32 → Option Int32} (hk_24 : ∀ (x1 : Int32) (x2 : Int32) (x3 : Int32), k_24 x1 x2 x3 = some R → ∀ (H : Heap) (locs : List Loc) (ls : Array Slot), va_P (dC, dI) vwCl (w_R cI cZ cS aR aRd aRm aRw aRs aRt aRc aRl aRh aRu aRx aRy aRk of op cr wn fp fs dk mm wk sg tb cs lw hg us de sa ky) H → va_D A (w_R cI cZ cS aR aRd aRm aRw aRs aRt aRc aRl aRh aRu aRx aRy aRk of op cr wn fp fs dk mm wk sg tb cs lw hg us de sa ky) → va_S A s.heap H locs → lv_has ls 4 [(0, .ref aR), (1, .int x1), (2, .int x2), (3, .int x3)] → W p l e ({ frames := 1, cells := 0, slots := 0, locals := 22 } : Room) s m ([.ref aR, .int a1] : List Value).toArray below meth c H locs 0 0 (MQ below (mk_QR (dC, dI) vwCl (tyz cI cZ cS) A (w_R cI cZ cS aR aRd aRm aRw aRs aRt aRc aRl aRh aRu aRx aRy aRk of op cr wn fp fs dk mm wk sg tb cs lw hg us de sa ky) R) ([.ref aR, .int a1] : List Value).toArray s 0 0 A) (F0 m 24 ls [])) (x1 : Int32) (x3 : Int32) (z0 : Int32) (h : p_R_count_65 of mm k_24 x1 x3 z0 = some R) : ∀ (H : Heap) (locs : List Loc) (ls : Array Slot), va_P (dC, dI) vwCl (w_R cI cZ cS aR aRd aRm aRw aRs aRt aRc aRl aRh aRu aRx aRy aRk of op cr wn fp fs dk mm wk sg tb cs lw hg us de sa ky) H → va_D A (w_R cI cZ cS aR aRd aRm aRw aRs aRt aRc aRl aRh aRu aRx aRy aRk of op cr wn fp fs dk mm wk sg tb cs lw hg us de sa ky) → va_S A s.heap H locs → lv_has ls 4 [(0, .ref aR), (1, .int x1), (3, .int x3)] → W p l e ({ frames := 1, cells := 0, slots := 0, locals := 22 } : Room) s m ([.ref aR, .int a1] : List Value).toArray below meth c H locs 0 0 (MQ below (mk_QR (dC, dI) vwCl (tyz cI cZ cS) A (w_R cI cZ cS aR aRd aRm aRw aRs aRt aRc aRl aRh aRu aRx aRy aRk of op cr wn fp fs dk mm wk sg tb cs lw hg us de sa ky) R) ([.ref aR, .int a1] : List Value).toArray s 0 0 A) (F0 m 65 ls [.int z0]) := by
  intro H locs ls hP hD hS hl
  obtain ⟨⟨hx, hb, hml, hown, hts⟩, hrt, hlk, hN⟩ := id E
  have hown : s.vm.findClass RX5 = some m.cls := hown
  unfold p_R_count_65 at h
  refine lv_istore_n (lv' := [(2, .int z0), (0, .ref aR), (1, .int x1), (3, .int x3)]) hx hb dX5_count_65 rfl hl (by decide) rfl (fun ls hl => ?_)
  refine lv_iinc (v := x3 + 1) (lv' := [(3, .int (x3 + 1)), (2, .int z0), (0, .ref aR), (1, .int x1)]) hx hb dX5_count_66 hl (k := 3) rfl rfl (by decide) rfl (fun ls hl => ?_)
  refine lv_goto (tgt := 24) hx hb dX5_count_69 (by decide) ?_
  exact hk_24 x1 z0 (x3 + 1) h H locs ls hP hD hS (lv_sub hl [2, 3, 1, 0] rfl)
set_option maxHeartbeats 4000000 in
set_option maxRecDepth 100000 in
theorem b_R_count_24 {p : Program} {l : Launch} {e : Env} {s : State} {m : MethodId} {below : List Frame} {meth : Method} {c : Code} {A : Nat → Prop} {dC : Nat → ClassId} {dI : Nat → Nat → Nat} {cI cZ cS : ClassId} {aR aRd aRm aRw aRs aRt aRc aRl aRh aRu aRx aRy aRk : Nat} {of : Int32} {op : Int32} {cr : Int32} {wn : Int32} {fp : Int32} {fs : Int32} {dk : Nat → Int32} {mm : Nat → Int32} {wk : Nat → Int32} {sg : Nat → Int32} {tb : Nat → Int32} {cs : Nat → Int32} {lw : Nat → Int32} {hg : Nat → Int32} {us : Nat → Int32} {de : Nat → Int32} {sa : Nat → Int32} {ky : Nat → Int32} {a1 : Int32} (E : mk_En p s m meth c cX5_count 4 (some .int) ([.ref aR, .int a1] : List Value).toArray wsX5_count yX5_count.cls) (hA : ∀ q : Nat, s.heap.size ≤ q → A q) (hK : va_K (dC, dI) vwCl (tyz cI cZ cS) s) (R : Int32) {k_24 : Int32 → Int32 → Int32 → Option Int32} (hk_24 : ∀ (x1 : Int32) (x2 : Int32) (x3 : Int32), k_24 x1 x2 x3 = some R → ∀ (H : Heap) (locs : List Loc) (ls : Array Slot), va_P (dC, dI) vwCl (w_R cI cZ cS aR aRd aRm aRw aRs aRt aRc aRl aRh aRu aRx aRy aRk of op cr wn fp fs dk mm wk sg tb cs lw hg us de sa ky) H → va_D A (w_R cI cZ cS aR aRd aRm aRw aRs aRt aRc aRl aRh aRu aRx aRy aRk of op cr wn fp fs dk mm wk sg tb cs lw hg us de sa ky) → va_S A s.heap H locs → lv_has ls 4 [(0, .ref aR), (1, .int x1), (2, .int x2), (3, .int x3)] → W p l e ({ frames := 1, cells := 0, slots := 0, locals := 22 } : Room) s m ([.ref aR, .int a1] : List Value).toArray below meth c H locs 0 0 (MQ below (mk_QR (dC, dI) vwCl (tyz cI cZ cS) A (w_R cI cZ cS aR aRd aRm aRw aRs aRt aRc aRl aRh aRu aRx aRy aRk of op cr wn fp fs dk mm wk sg tb cs lw hg us de sa ky) R) ([.ref aR, .int a1] : List Value).toArray s 0 0 A) (F0 m 24 ls [])) (x1 : Int32) (x2 : Int32) (x3 : Int32) (h : p_R_count_24 of mm k_24 x1 x2 x3 = some R) : ∀ (H : Heap) (locs : List Loc) (ls : Array Slot), va_P (dC, dI) vwCl (w_R cI cZ cS aR aRd aRm aRw aRs aRt aRc aRl aRh aRu aRx aRy aRk of op cr wn fp fs dk mm wk sg tb cs lw hg us de sa ky) H → va_D A (w_R cI cZ cS aR aRd aRm aRw aRs aRt aRc aRl aRh aRu aRx aRy aRk of op cr wn fp fs dk mm wk sg tb cs lw hg us de sa ky) → va_S A s.heap H locs → lv_has ls 4 [(0, .ref aR), (1, .int x1), (2, .int x2), (3, .int x3)] → W p l e ({ frames := 1, cells := 0, slots := 0, locals := 22 } : Room) s m ([.ref aR, .int a1] : List Value).toArray below meth c H locs 0 0 (MQ below (mk_QR (dC, dI) vwCl (tyz cI cZ cS) A (w_R cI cZ cS aR aRd aRm aRw aRs aRt aRc aRl aRh aRu aRx aRy aRk of op cr wn fp fs dk mm wk sg tb cs lw hg us de sa ky) R) ([.ref aR, .int a1] : List Value).toArray s 0 0 A) (F0 m 24 ls []) := by
  intro H locs ls hP hD hS hl
  obtain ⟨⟨hx, hb, hml, hown, hts⟩, hrt, hlk, hN⟩ := id E
  have hown : s.vm.findClass RX5 = some m.cls := hown
  unfold p_R_count_24 at h
  refine lv_iload_n hx hb dX5_count_24 rfl (lv_at hl 3 rfl) ?_
  refine lv_bipush (v := 16) hx hb dX5_count_25 (by decide) ?_
  refine lv_icmp_ge (tgt := 72) hx hb dX5_count_27 (by decide) (fun c_1 => ?_) (fun c_1 => ?_)
  · replace h := (kp_if h).1 c_1
    refine lv_iload_n hx hb dX5_count_72 rfl (lv_at hl 2 rfl) ?_
    cases h
    exact mk_iretR E hK hP hD hS dX5_count_73
  · replace h := (kp_if h).2 c_1
    refine lv_aload_n hx hb dX5_count_30 rfl (lv_at hl 0 rfl) ?_
    refine va_get (D := (dC, dI)) (ci := 5) (v := .ref aRm) (C := RX5) (T := TX5) (N := 18) hx hb hts iw_R_count_Model hown hK hP 0 rfl rfl 1 (by decide) (hts _ mm_R_count_0) (fun _ h9 => h9) rfl dX5_count_31 ?_
    refine lv_bipush (v := 16) hx hb dX5_count_34 (by decide) ?_
    refine lv_iload_n hx hb dX5_count_36 rfl (lv_at hl 3 rfl) ?_
    refine lv_imul hx hb dX5_count_37 ?_
    obtain ⟨hc_2, h⟩ := kp_in h
    refine va_iald hx hb hK hP 2 0 rfl rfl (kx_of hc_2) dX5_count_38 ?_
    refine lv_iload_n hx hb dX5_count_39 rfl (lv_at hl 1 rfl) ?_
    refine lv_iconst (v := 1) hx hb dX5_count_40 (by decide) ?_
    refine lv_iadd hx hb dX5_count_41 ?_
    refine lv_icmp_ne (tgt := 64) hx hb dX5_count_42 (by decide) (fun c_3 => ?_) (fun c_3 => ?_)
    · replace h := (kp_if h).2 c_3
      refine lv_iload_n hx hb dX5_count_64 rfl (lv_at hl 2 rfl) ?_
      exact b_R_count_65 E hA hK R hk_24 x1 x3 x2 h H locs ls hP hD hS (lv_sub hl [0, 1, 3] rfl)
    · replace h := (kp_if h).1 c_3
      refine lv_iload_n hx hb dX5_count_45 rfl (lv_at hl 2 rfl) ?_
      refine lv_aload_n hx hb dX5_count_46 rfl (lv_at hl 0 rfl) ?_
      refine va_get (D := (dC, dI)) (ci := 5) (v := .ref aRm) (C := RX5) (T := TX5) (N := 18) hx hb hts iw_R_count_Model hown hK hP 0 rfl rfl 1 (by decide) (hts _ mm_R_count_0) (fun _ h9 => h9) rfl dX5_count_47 ?_
      refine lv_bipush (v := 16) hx hb dX5_count_50 (by decide) ?_
      refine lv_iload_n hx hb dX5_count_52 rfl (lv_at hl 3 rfl) ?_
      refine lv_imul hx hb dX5_count_53 ?_
      refine lv_iconst (v := 2) hx hb dX5_count_54 (by decide) ?_
      refine lv_iadd hx hb dX5_count_55 ?_
      obtain ⟨hc_4, h⟩ := kp_in h
      refine va_iald hx hb hK hP 2 0 rfl rfl (kx_of hc_4) dX5_count_56 ?_
      obtain ⟨r_5, hr_5, h⟩ := kp_bind h
      refine mk_contR (w := w_R cI cZ cS aR aRd aRm aRw aRs aRt aRc aRl aRh aRu aRx aRy aRk of op cr wn fp fs dk mm wk sg tb cs lw hg us de sa ky) (w0 := w_R cI cZ cS aR aRd aRm aRw aRs aRt aRc aRl aRh aRu aRx aRy aRk of op cr wn fp fs dk mm wk sg tb cs lw hg us de sa ky) (wr := []) hP hD hS hA [0, 1, 2, 3, 4, 5, 6, 7, 8, 9, 10, 11, 12] [] rfl rfl (by decide) (by decide) [0, 1, 2, 3, 4, 5, 6, 7, 8, 9, 10, 11, 12] rfl (by decide) (va_runS (As := [.int (mm ((16 * x3) + 2).toNatClampNeg)]) (rest := [.int x2]) ⟨hx, hb, hml, hown, hts⟩ (c_R_bits l dC dI cI cZ cS aR aRd aRm aRw aRs aRt aRc aRl aRh aRu aRx aRy aRk of op cr wn fp fs dk mm wk sg tb cs lw hg us de sa ky (mm ((16 * x3) + 2).toNatClampNeg) r_5 hr_5 H.size) (va_cwS 1 hts gX5_count_X5_bits rfl rfl rfl (by decide +kernel) ⟨Nat.le_of_ble_eq_true rfl, Nat.le_of_ble_eq_true rfl⟩) (mk_preS (w0 := w_R cI cZ cS aR aRd aRm aRw aRs aRt aRc aRl aRh aRu aRx aRy aRk of op cr wn fp fs dk mm wk sg tb cs lw hg us de sa ky) hN hK (mk_pick hP [0, 1, 2, 3, 4, 5, 6, 7, 8, 9, 10, 11, 12] rfl) (hD.sub [0, 1, 2, 3, 4, 5, 6, 7, 8, 9, 10, 11, 12] (by decide) rfl)) rfl rfl hl.1 rfl (lv_room (Nat.le_of_ble_eq_true rfl)) dX5_count_57 ⟨Nat.zero_le _, Nat.zero_le _⟩) (fun H locs hP hD hS => ?_)
      refine lv_iadd hx hb dX5_count_60 ?_
      refine lv_goto (tgt := 65) hx hb dX5_count_61 (by decide) ?_
      exact b_R_count_65 E hA hK R hk_24 x1 x3 (x2 + r_5) h H locs ls hP hD hS (lv_sub hl [0, 1, 3] rfl)
set_option maxHeartbeats 4000000 in
set_option maxRecDepth 100000 in
theorem l_R_count_24 {p : Program} {l : Launch} {e : Env} {s : State} {m : MethodId} {below : List Frame} {meth : Method} {c : Code} {A : Nat → Prop} {dC : Nat → ClassId} {dI : Nat → Nat → Nat} {cI cZ cS : ClassId} {aR aRd aRm aRw aRs aRt aRc aRl aRh aRu aRx aRy aRk : Nat} {of : Int32} {op : Int32} {cr : Int32} {wn : Int32} {fp : Int32} {fs : Int32} {dk : Nat → Int32} {mm : Nat → Int32} {wk : Nat → Int32} {sg : Nat → Int32} {tb : Nat → Int32} {cs : Nat → Int32} {lw : Nat → Int32} {hg : Nat → Int32} {us : Nat → Int32} {de : Nat → Int32} {sa : Nat → Int32} {ky : Nat → Int32} {a1 : Int32} (E : mk_En p s m meth c cX5_count 4 (some .int) ([.ref aR, .int a1] : List Value).toArray wsX5_count yX5_count.cls) (hA : ∀ q : Nat, s.heap.size ≤ q → A q) (hK : va_K (dC, dI) vwCl (tyz cI cZ cS) s) (R : Int32) : ∀ (n : Nat) (x1 : Int32) (x2 : Int32) (x3 : Int32), pl_R_count_24 of mm n x1 x2 x3 = some R → ∀ (H : Heap) (locs : List Loc) (ls : Array Slot), va_P (dC, dI) vwCl (w_R cI cZ cS aR aRd aRm aRw aRs aRt aRc aRl aRh aRu aRx aRy aRk of op cr wn fp fs dk mm wk sg tb cs lw hg us de sa ky) H → va_D A (w_R cI cZ cS aR aRd aRm aRw aRs aRt aRc aRl aRh aRu aRx aRy aRk of op cr wn fp fs dk mm wk sg tb cs lw hg us de sa ky) → va_S A s.heap H locs → lv_has ls 4 [(0, .ref aR), (1, .int x1), (2, .int x2), (3, .int x3)] → W p l e ({ frames := 1, cells := 0, slots := 0, locals := 22 } : Room) s m ([.ref aR, .int a1] : List Value).toArray below meth c H locs 0 0 (MQ below (mk_QR (dC, dI) vwCl (tyz cI cZ cS) A (w_R cI cZ cS aR aRd aRm aRw aRs aRt aRc aRl aRh aRu aRx aRy aRk of op cr wn fp fs dk mm wk sg tb cs lw hg us de sa ky) R) ([.ref aR, .int a1] : List Value).toArray s 0 0 A) (F0 m 24 ls []) := by
  intro n
  induction n with
  | zero =>
    intro x1 x2 x3 h
    cases h
  | succ n ih =>
    intro x1 x2 x3 h
    exact b_R_count_24 E hA hK R ih x1 x2 x3 h
set_option maxHeartbeats 4000000 in
set_option maxRecDepth 100000 in
theorem c_R_count (l : Launch) (dC : Nat → ClassId) (dI : Nat → Nat → Nat) (cI cZ cS : ClassId) (aR aRd aRm aRw aRs aRt aRc aRl aRh aRu aRx aRy aRk : Nat) (of : Int32) (op : Int32) (cr : Int32) (wn : Int32) (fp : Int32) (fs : Int32) (dk : Nat → Int32) (mm : Nat → Int32) (wk : Nat → Int32) (sg : Nat → Int32) (tb : Nat → Int32) (cs : Nat → Int32) (lw : Nat → Int32) (hg : Nat → Int32) (us : Nat → Int32) (de : Nat → Int32) (sa : Nat → Int32) (ky : Nat → Int32) (a1 : Int32) : CtR l yX5_count wsX5_count ({ frames := 1, cells := 0, slots := 0, locals := 22 }) (dC, dI) vwCl (tyz cI cZ cS) [.ref aR, .int a1] (w_R cI cZ cS aR aRd aRm aRw aRs aRt aRc aRl aRh aRu aRx aRy aRk of op cr wn fp fs dk mm wk sg tb cs lw hg us de sa ky) (p_R_count of mm a1) := by
  intro R h
  refine mk_enter (Qc := (fun A => mk_QR (dC, dI) vwCl (tyz cI cZ cS) A (w_R cI cZ cS aR aRd aRm aRw aRs aRt aRc aRl aRh aRu aRx aRy aRk of op cr wn fp fs dk mm wk sg tb cs lw hg us de sa ky) R)) (by decide) rfl (Nat.le_of_ble_eq_true rfl) ?_
  intro p e s m below meth c A E hA hK H locs ls hP hD hS hl
  obtain ⟨⟨hx, hb, hml, hown, hts⟩, hrt, hlk, hN⟩ := id E
  have hown : s.vm.findClass RX5 = some m.cls := hown
  have hl : lv_has ls 4 [(0, .ref aR), (1, .int a1)] := hl
  unfold p_R_count at h
  refine lv_aload_n hx hb dX5_count_0 rfl (lv_at hl 0 rfl) ?_
  refine va_get (D := (dC, dI)) (ci := 5) (v := .int of) (C := RX5) (T := TX5) (N := 18) hx hb hts iw_R_count_Model hown hK hP 0 rfl rfl 4 (by decide) (hts _ mm_R_count_2) (fun _ h9 => h9) rfl dX5_count_1 ?_
  refine lv_if_eq (tgt := 9) hx hb dX5_count_4 (by decide) (fun c_6 => ?_) (fun c_6 => ?_)
  · replace h := (kp_if h).1 c_6
    refine lv_aload_n hx hb dX5_count_9 rfl (lv_at hl 0 rfl) ?_
    refine lv_iload_n hx hb dX5_count_10 rfl (lv_at hl 1 rfl) ?_
    obtain ⟨r_7, hr_7, h⟩ := kp_bind h
    refine mk_contR (w := w_R cI cZ cS aR aRd aRm aRw aRs aRt aRc aRl aRh aRu aRx aRy aRk of op cr wn fp fs dk mm wk sg tb cs lw hg us de sa ky) (w0 := w_R cI cZ cS aR aRd aRm aRw aRs aRt aRc aRl aRh aRu aRx aRy aRk of op cr wn fp fs dk mm wk sg tb cs lw hg us de sa ky) (wr := []) hP hD hS hA [0, 1, 2, 3, 4, 5, 6, 7, 8, 9, 10, 11, 12] [] rfl rfl (by decide) (by decide) [0, 1, 2, 3, 4, 5, 6, 7, 8, 9, 10, 11, 12] rfl (by decide) (va_runV (As := [.int a1]) (rest := []) ⟨hx, hb, hml, hown, hts⟩ (c_R_noTable l dC dI cI cZ cS aR aRd aRm aRw aRs aRt aRc aRl aRh aRu aRx aRy aRk of op cr wn fp fs dk mm wk sg tb cs lw hg us de sa ky a1 r_7 hr_7 H.size) (cwV 1 hts gX5_count_X5_noTable rfl rfl rfl (by decide +kernel) ⟨Nat.le_of_ble_eq_true rfl, Nat.le_of_ble_eq_true rfl⟩) (mk_preV (w0 := w_R cI cZ cS aR aRd aRm aRw aRs aRt aRc aRl aRh aRu aRx aRy aRk of op cr wn fp fs dk mm wk sg tb cs lw hg us de sa ky) (ci := 5) (q0 := 0) hN hK (mk_pick hP [0, 1, 2, 3, 4, 5, 6, 7, 8, 9, 10, 11, 12] rfl) (hD.sub [0, 1, 2, 3, 4, 5, 6, 7, 8, 9, 10, 11, 12] (by decide) rfl) rfl rfl rfl) rfl rfl hl.1 rfl (lv_room (Nat.le_of_ble_eq_true rfl)) dX5_count_11 ⟨Nat.zero_le _, Nat.zero_le _⟩) (fun H locs hP hD hS => ?_)
    refine lv_if_eq (tgt := 20) hx hb dX5_count_14 (by decide) (fun c_8 => ?_) (fun c_8 => ?_)
    · replace h := (kp_if h).1 c_8
      refine lv_iconst (v := 0) hx hb dX5_count_20 (by decide) ?_
      refine lv_istore_n (lv' := [(2, .int 0), (0, .ref aR), (1, .int a1)]) hx hb dX5_count_21 rfl hl (by decide) rfl (fun ls hl => ?_)
      refine lv_iconst (v := 1) hx hb dX5_count_22 (by decide) ?_
      refine lv_istore_n (lv' := [(3, .int 1), (2, .int 0), (0, .ref aR), (1, .int a1)]) hx hb dX5_count_23 rfl hl (by decide) rfl (fun ls hl => ?_)
      exact l_R_count_24 E hA hK R 1000 a1 0 1 h H locs ls hP hD hS (lv_sub hl [2, 3, 1, 0] rfl)
    · replace h := (kp_if h).2 c_8
      refine lv_bipush (v := (-5)) hx hb dX5_count_17 (by decide) ?_
      cases h
      exact mk_iretR E hK hP hD hS dX5_count_19
  · replace h := (kp_if h).2 c_6
    refine lv_iconst (v := (-1)) hx hb dX5_count_7 (by decide) ?_
    cases h
    exact mk_iretR E hK hP hD hS dX5_count_8

