/- Model.commit()I -/
set_option maxRecDepth 20000 in
theorem mm_R_commit_0 : Cond.fieldLink RX5 66 "JournaledTablesModel" "open" "Z" ∈ wsX5_commit := by decide +kernel
set_option maxRecDepth 20000 in
theorem iw_R_commit_Model : ∀ w ∈ u_ws RX5 TX5 18, w ∈ wsX5_commit := by decide +kernel
set_option maxRecDepth 20000 in
theorem mm_R_commit_2 : Cond.fieldLink RX5 51 "JournaledTablesModel" "off" "Z" ∈ wsX5_commit := by decide +kernel
set_option maxHeartbeats 4000000 in
set_option maxRecDepth 100000 in
theorem b_R_commit_166 {p : Program} {l : Launch} {e : Env} {s : State} {m : MethodId} {below : List Frame} {meth : Method} {c : Code} {A : Nat → Prop} {dC : Nat → ClassId} {dI : Nat → Nat → Nat} {cI cZ cS : ClassId} {aR aRd aRm aRw aRs aRt aRc aRl aRh aRu aRx aRy aRk : Nat} {fp : Int32} {fs : Int32} {mm : Nat → Int32} {sg : Nat → Int32} {tb : Nat → Int32} {cs : Nat → Int32} {lw : Nat → Int32} {hg : Nat → Int32} {us : Nat → Int32} {de : Nat → Int32} {sa : Nat → Int32} {ky : Nat → Int32} (E : mk_En p s m meth c cX5_commit 5 (some .int) ([.ref aR] : List Value).toArray wsX5_commit yX5_commit.cls) (hA : ∀ q : Nat, s.heap.size ≤ q → A q) (hK : va_K (dC, dI) vwCl (tyz cI cZ cS) s) (R : Int32 × Int32 × Int32 × Int32 × Int32 × (Nat → Int32) × (Nat → Int32)) (x3 : Int32) (of : Int32) (op : Int32) (cr : Int32) (wn : Int32) (dk : Nat → Int32) (wk : Nat → Int32) (h : p_R_commit_166 mm x3 of op cr wn dk wk = some R) : ∀ (H : Heap) (locs : List Loc) (ls : Array Slot), va_P (dC, dI) vwCl (w_R cI cZ cS aR aRd aRm aRw aRs aRt aRc aRl aRh aRu aRx aRy aRk of op cr wn fp fs dk mm wk sg tb cs lw hg us de sa ky) H → va_D A (w_R cI cZ cS aR aRd aRm aRw aRs aRt aRc aRl aRh aRu aRx aRy aRk of op cr wn fp fs dk mm wk sg tb cs lw hg us de sa ky) → va_S A s.heap H locs → lv_has ls 5 [(0, .ref aR), (3, .int x3)] → W p l e ({ frames := 2, cells := 0, slots := 0, locals := 46 } : Room) s m ([.ref aR] : List Value).toArray below meth c H locs 0 0 (MQ below (mk_QI (dC, dI) vwCl (tyz cI cZ cS) A (fun u : Int32 × Int32 × Int32 × Int32 × (Nat → Int32) × (Nat → Int32) => w_R cI cZ cS aR aRd aRm aRw aRs aRt aRc aRl aRh aRu aRx aRy aRk u.1 u.2.1 u.2.2.1 u.2.2.2.1 fp fs u.2.2.2.2.1 mm u.2.2.2.2.2 sg tb cs lw hg us de sa ky) R) ([.ref aR] : List Value).toArray s 0 0 A) (F0 m 166 ls []) := by
  intro H locs ls hP hD hS hl
  obtain ⟨⟨hx, hb, hml, hown, hts⟩, hrt, hlk, hN⟩ := id E
  have hown : s.vm.findClass RX5 = some m.cls := hown
  unfold p_R_commit_166 at h
  refine lv_iload_n hx hb dX5_commit_166 rfl (lv_at hl 1 rfl) ?_
  refine lv_if_ne (tgt := 172) hx hb dX5_commit_167 (by decide) (fun c_1 => ?_) (fun c_1 => ?_)
  · replace h := (kp_if h).2 c_1
    refine lv_aload_n hx hb dX5_commit_172 rfl (lv_at hl 0 rfl) ?_
    refine lv_iconst (v := 0) hx hb dX5_commit_173 (by decide) ?_
    refine va_put (D := (dC, dI)) (ci := 5) (v := .int 0) (ty := .boolean) (C := RX5) (T := TX5) (N := 18) hx hb hts iw_R_commit_Model tyX5 tyX5_ok nmX5 hown hK hP hD hS 0 rfl rfl 5 (by decide) (hts _ mm_R_commit_0) (fun _ h9 => h9) rfl (by decide +kernel) rfl rfl (Nat.le_of_ble_eq_true rfl) dX5_commit_174 (fun H locs hP hD hS => ?_)
    have hP : va_P (dC, dI) vwCl (w_R cI cZ cS aR aRd aRm aRw aRs aRt aRc aRl aRh aRu aRx aRy aRk of 0 cr wn fp fs dk mm wk sg tb cs lw hg us de sa ky) H := hP
    have hD : va_D A (w_R cI cZ cS aR aRd aRm aRw aRs aRt aRc aRl aRh aRu aRx aRy aRk of 0 cr wn fp fs dk mm wk sg tb cs lw hg us de sa ky) := hD
    refine lv_iconst (v := 0) hx hb dX5_commit_177 (by decide) ?_
    cases h
    exact mk_iret E hK hP hD hS dX5_commit_178
  · replace h := (kp_if h).1 c_1
    refine lv_iconst (v := (-1)) hx hb dX5_commit_170 (by decide) ?_
    cases h
    exact mk_iret E hK hP hD hS dX5_commit_171
set_option maxHeartbeats 4000000 in
set_option maxRecDepth 100000 in
theorem b_R_commit_165 {p : Program} {l : Launch} {e : Env} {s : State} {m : MethodId} {below : List Frame} {meth : Method} {c : Code} {A : Nat → Prop} {dC : Nat → ClassId} {dI : Nat → Nat → Nat} {cI cZ cS : ClassId} {aR aRd aRm aRw aRs aRt aRc aRl aRh aRu aRx aRy aRk : Nat} {fp : Int32} {fs : Int32} {mm : Nat → Int32} {sg : Nat → Int32} {tb : Nat → Int32} {cs : Nat → Int32} {lw : Nat → Int32} {hg : Nat → Int32} {us : Nat → Int32} {de : Nat → Int32} {sa : Nat → Int32} {ky : Nat → Int32} (E : mk_En p s m meth c cX5_commit 5 (some .int) ([.ref aR] : List Value).toArray wsX5_commit yX5_commit.cls) (hA : ∀ q : Nat, s.heap.size ≤ q → A q) (hK : va_K (dC, dI) vwCl (tyz cI cZ cS) s) (R : Int32 × Int32 × Int32 × Int32 × Int32 × (Nat → Int32) × (Nat → Int32)) (z0 : Int32) (of : Int32) (op : Int32) (cr : Int32) (wn : Int32) (dk : Nat → Int32) (wk : Nat → Int32) (h : p_R_commit_165 mm z0 of op cr wn dk wk = some R) : ∀ (H : Heap) (locs : List Loc) (ls : Array Slot), va_P (dC, dI) vwCl (w_R cI cZ cS aR aRd aRm aRw aRs aRt aRc aRl aRh aRu aRx aRy aRk of op cr wn fp fs dk mm wk sg tb cs lw hg us de sa ky) H → va_D A (w_R cI cZ cS aR aRd aRm aRw aRs aRt aRc aRl aRh aRu aRx aRy aRk of op cr wn fp fs dk mm wk sg tb cs lw hg us de sa ky) → va_S A s.heap H locs → lv_has ls 5 [(0, .ref aR)] → W p l e ({ frames := 2, cells := 0, slots := 0, locals := 46 } : Room) s m ([.ref aR] : List Value).toArray below meth c H locs 0 0 (MQ below (mk_QI (dC, dI) vwCl (tyz cI cZ cS) A (fun u : Int32 × Int32 × Int32 × Int32 × (Nat → Int32) × (Nat → Int32) => w_R cI cZ cS aR aRd aRm aRw aRs aRt aRc aRl aRh aRu aRx aRy aRk u.1 u.2.1 u.2.2.1 u.2.2.2.1 fp fs u.2.2.2.2.1 mm u.2.2.2.2.2 sg tb cs lw hg us de sa ky) R) ([.ref aR] : List Value).toArray s 0 0 A) (F0 m 165 ls [.int z0]) := by
  intro H locs ls hP hD hS hl
  obtain ⟨⟨hx, hb, hml, hown, hts⟩, hrt, hlk, hN⟩ := id E
  have hown : s.vm.findClass RX5 = some m.cls := hown
  unfold p_R_commit_165 at h
  refine lv_istore_n (lv' := [(3, .int z0), (0, .ref aR)]) hx hb dX5_commit_165 rfl hl (by decide) rfl (fun ls hl => ?_)
  exact b_R_commit_166 E hA hK R z0 of op cr wn dk wk h H locs ls hP hD hS (lv_sub hl [1, 0] rfl)
set_option maxHeartbeats 4000000 in
set_option maxRecDepth 100000 in
theorem b_R_commit_164 {p : Program} {l : Launch} {e : Env} {s : State} {m : MethodId} {below : List Frame} {meth : Method} {c : Code} {A : Nat → Prop} {dC : Nat → ClassId} {dI : Nat → Nat → Nat} {cI cZ cS : ClassId} {aR aRd aRm aRw aRs aRt aRc aRl aRh aRu aRx aRy aRk : Nat} {fp : Int32} {fs : Int32} {mm : Nat → Int32} {sg : Nat → Int32} {tb : Nat → Int32} {cs : Nat → Int32} {lw : Nat → Int32} {hg : Nat → Int32} {us : Nat → Int32} {de : Nat → Int32} {sa : Nat → Int32} {ky : Nat → Int32} (E : mk_En p s m meth c cX5_commit 5 (some .int) ([.ref aR] : List Value).toArray wsX5_commit yX5_commit.cls) (hA : ∀ q : Nat, s.heap.size ≤ q → A q) (hK : va_K (dC, dI) vwCl (tyz cI cZ cS) s) (R : Int32 × Int32 × Int32 × Int32 × Int32 × (Nat → Int32) × (Nat → Int32)) (of : Int32) (op : Int32) (cr : Int32) (wn : Int32) (dk : Nat → Int32) (wk : Nat → Int32) (h : p_R_commit_164 mm of op cr wn dk wk = some R) : ∀ (H : Heap) (locs : List Loc) (ls : Array Slot), va_P (dC, dI) vwCl (w_R cI cZ cS aR aRd aRm aRw aRs aRt aRc aRl aRh aRu aRx aRy aRk of op cr wn fp fs dk mm wk sg tb cs lw hg us de sa ky) H → va_D A (w_R cI cZ cS aR aRd aRm aRw aRs aRt aRc aRl aRh aRu aRx aRy aRk of op cr wn fp fs dk mm wk sg tb cs lw hg us de sa ky) → va_S A s.heap H locs → lv_has ls 5 [(0, .ref aR)] → W p l e ({ frames := 2, cells := 0, slots := 0, locals := 46 } : Room) s m ([.ref aR] : List Value).toArray below meth c H locs 0 0 (MQ below (mk_QI (dC, dI) vwCl (tyz cI cZ cS) A (fun u : Int32 × Int32 × Int32 × Int32 × (Nat → Int32) × (Nat → Int32) => w_R cI cZ cS aR aRd aRm aRw aRs aRt aRc aRl aRh aRu aRx aRy aRk u.1 u.2.1 u.2.2.1 u.2.2.2.1 fp fs u.2.2.2.2.1 mm u.2.2.2.2.2 sg tb cs lw hg us de sa ky) R) ([.ref aR] : List Value).toArray s 0 0 A) (F0 m 164 ls []) := by
  intro H locs ls hP hD hS hl
  obtain ⟨⟨hx, hb, hml, hown, hts⟩, hrt, hlk, hN⟩ := id E
  have hown : s.vm.findClass RX5 = some m.cls := hown
  unfold p_R_commit_164 at h
  refine lv_iconst (v := 0) hx hb dX5_commit_164 (by decide) ?_
  exact b_R_commit_165 E hA hK R 0 of op cr wn dk wk h H locs ls hP hD hS (lv_sub hl [0] rfl)
set_option maxHeartbeats 4000000 in
set_option maxRecDepth 100000 in
theorem b_R_commit_140 {p : Program} {l : Launch} {e : Env} {s : State} {m : MethodId} {below : List Frame} {meth : Method} {c : Code} {A : Nat → Prop} {dC : Nat → ClassId} {dI : Nat → Nat → Nat} {cI cZ cS : ClassId} {aR aRd aRm aRw aRs aRt aRc aRl aRh aRu aRx aRy aRk : Nat} {fp : Int32} {fs : Int32} {mm : Nat → Int32} {sg : Nat → Int32} {tb : Nat → Int32} {cs : Nat → Int32} {lw : Nat → Int32} {hg : Nat → Int32} {us : Nat → Int32} {de : Nat → Int32} {sa : Nat → Int32} {ky : Nat → Int32} (E : mk_En p s m meth c cX5_commit 5 (some .int) ([.ref aR] : List Value).toArray wsX5_commit yX5_commit.cls) (hA : ∀ q : Nat, s.heap.size ≤ q → A q) (hK : va_K (dC, dI) vwCl (tyz cI cZ cS) s) (R : Int32 × Int32 × Int32 × Int32 × Int32 × (Nat → Int32) × (Nat → Int32)) {k_106 : Int32 → Int32 → Int32 → Int32 → Int32 → Int32 → Int32 → (Nat → Int32) → (Nat → Int32) → Option (Int32 × Int32 × Int32 × Int32 × Int32 × (Nat → Int32) × (Nat → Int32))} (hk_106 : ∀ (x1 : Int32) (x3 : Int32) (x4 : Int32) (of : Int32) (op : Int32) (cr : Int32) (wn : Int32) (dk : Nat → Int32) (wk : Nat → Int32), k_106 x1 x3 x4 of op cr wn dk wk = some R → ∀ (H : Heap) (locs : List Loc) (ls : Array Slot), va_P (dC, dI) vwCl (w_R cI cZ cS aR aRd aRm aRw aRs aRt aRc aRl aRh aRu aRx aRy aRk of op cr wn fp fs dk mm wk sg tb cs lw hg us de sa ky) H → va_D A (w_R cI cZ cS aR aRd aRm aRw aRs aRt aRc aRl aRh aRu aRx aRy aRk of op cr wn fp fs dk mm wk sg tb cs lw hg us de sa ky) → va_S A s.heap H locs → lv_has ls 5 [(0, .ref aR), (1, .int x1), (3, .int x3), (4, .int x4)] → W p l e ({ frames := 2, cells := 0, slots := 0, locals := 46 } : Room) s m ([.ref aR] : List Value).toArray below meth c H locs 0 0 (MQ below (mk_QI (dC, dI) vwCl (tyz cI cZ cS) A (fun u : Int32 × Int32 × Int32 × Int32 × (Nat → Int32) × (Nat → Int32) => w_R cI cZ cS aR aRd aRm aRw aRs aRt aRc aRl aRh aRu aRx aRy aRk u.1 u.2.1 u.2.2.1 u.2.2.2.1 fp fs u.2.2.2.2.1 mm u.2.2.2.2.2 sg tb cs lw hg us de sa ky) R) ([.ref aR] : List Value).toArray s 0 0 A) (F0 m 106 ls [])) (x1 : Int32) (x4 : Int32) (z0 : Int32) (of : Int32) (op : Int32) (cr : Int32) (wn : Int32) (dk : Nat → Int32) (wk : Nat → Int32) (h : p_R_commit_140 mm k_106 x1 x4 z0 of op cr wn dk wk = some R) : ∀ (H : Heap) (locs : List Loc) (ls : Array Slot), va_P (dC, dI) vwCl (w_R cI cZ cS aR aRd aRm aRw aRs aRt aRc aRl aRh aRu aRx aRy aRk of op cr wn fp fs dk mm wk sg tb cs lw hg us de sa ky) H → va_D A (w_R cI cZ cS aR aRd aRm aRw aRs aRt aRc aRl aRh aRu aRx aRy aRk of op cr wn fp fs dk mm wk sg tb cs lw hg us de sa ky) → va_S A s.heap H locs → lv_has ls 5 [(0, .ref aR), (1, .int x1), (4, .int x4)] → W p l e ({ frames := 2, cells := 0, slots := 0, locals := 46 } : Room) s m ([.ref aR] : List Value).toArray below meth c H locs 0 0 (MQ below (mk_QI (dC, dI) vwCl (tyz cI cZ cS) A (fun u : Int32 × Int32 × Int32 × Int32 × (Nat → Int32) × (Nat → Int32) => w_R cI cZ cS aR aRd aRm aRw aRs aRt aRc aRl aRh aRu aRx aRy aRk u.1 u.2.1 u.2.2.1 u.2.2.2.1 fp fs u.2.2.2.2.1 mm u.2.2.2.2.2 sg tb cs lw hg us de sa ky) R) ([.ref aR] : List Value).toArray s 0 0 A) (F0 m 140 ls [.int z0]) := by
  intro H locs ls hP hD hS hl
  obtain ⟨⟨hx, hb, hml, hown, hts⟩, hrt, hlk, hN⟩ := id E
  have hown : s.vm.findClass RX5 = some m.cls := hown
  unfold p_R_commit_140 at h
  refine lv_istore_n (lv' := [(3, .int z0), (0, .ref aR), (1, .int x1), (4, .int x4)]) hx hb dX5_commit_140 rfl hl (by decide) rfl (fun ls hl => ?_)
  refine lv_iinc (v := x4 + 1) (lv' := [(4, .int (x4 + 1)), (3, .int z0), (0, .ref aR), (1, .int x1)]) hx hb dX5_commit_141 hl (k := 3) rfl rfl (by decide) rfl (fun ls hl => ?_)
  refine lv_goto (tgt := 106) hx hb dX5_commit_144 (by decide) ?_
  exact hk_106 x1 z0 (x4 + 1) of op cr wn dk wk h H locs ls hP hD hS (lv_sub hl [2, 3, 1, 0] rfl)
set_option maxHeartbeats 4000000 in
set_option maxRecDepth 100000 in
theorem b_R_commit_139 {p : Program} {l : Launch} {e : Env} {s : State} {m : MethodId} {below : List Frame} {meth : Method} {c : Code} {A : Nat → Prop} {dC : Nat → ClassId} {dI : Nat → Nat → Nat} {cI cZ cS : ClassId} {aR aRd aRm aRw aRs aRt aRc aRl aRh aRu aRx aRy aRk : Nat} {fp : Int32} {fs : Int32} {mm : Nat → Int32} {sg : Nat → Int32} {tb : Nat → Int32} {cs : Nat → Int32} {lw : Nat → Int32} {hg : Nat → Int32} {us : Nat → Int32} {de : Nat → Int32} {sa : Nat → Int32} {ky : Nat → Int32} (E : mk_En p s m meth c cX5_commit 5 (some .int) ([.ref aR] : List Value).toArray wsX5_commit yX5_commit.cls) (hA : ∀ q : Nat, s.heap.size ≤ q → A q) (hK : va_K (dC, dI) vwCl (tyz cI cZ cS) s) (R : Int32 × Int32 × Int32 × Int32 × Int32 × (Nat → Int32) × (Nat → Int32)) {k_106 : Int32 → Int32 → Int32 → Int32 → Int32 → Int32 → Int32 → (Nat → Int32) → (Nat → Int32) → Option (Int32 × Int32 × Int32 × Int32 × Int32 × (Nat → Int32) × (Nat → Int32))} (hk_106 : ∀ (x1 : Int32) (x3 : Int32) (x4 : Int32) (of : Int32) (op : Int32) (cr : Int32) (wn : Int32) (dk : Nat → Int32) (wk : Nat → Int32), k_106 x1 x3 x4 of op cr wn dk wk = some R → ∀ (H : Heap) (locs : List Loc) (ls : Array Slot), va_P (dC, dI) vwCl (w_R cI cZ cS aR aRd aRm aRw aRs aRt aRc aRl aRh aRu aRx aRy aRk of op cr wn fp fs dk mm wk sg tb cs lw hg us de sa ky) H → va_D A (w_R cI cZ cS aR aRd aRm aRw aRs aRt aRc aRl aRh aRu aRx aRy aRk of op cr wn fp fs dk mm wk sg tb cs lw hg us de sa ky) → va_S A s.heap H locs → lv_has ls 5 [(0, .ref aR), (1, .int x1), (3, .int x3), (4, .int x4)] → W p l e ({ frames := 2, cells := 0, slots := 0, locals := 46 } : Room) s m ([.ref aR] : List Value).toArray below meth c H locs 0 0 (MQ below (mk_QI (dC, dI) vwCl (tyz cI cZ cS) A (fun u : Int32 × Int32 × Int32 × Int32 × (Nat → Int32) × (Nat → Int32) => w_R cI cZ cS aR aRd aRm aRw aRs aRt aRc aRl aRh aRu aRx aRy aRk u.1 u.2.1 u.2.2.1 u.2.2.2.1 fp fs u.2.2.2.2.1 mm u.2.2.2.2.2 sg tb cs lw hg us de sa ky) R) ([.ref aR] : List Value).toArray s 0 0 A) (F0 m 106 ls [])) (x1 : Int32) (x4 : Int32) (of : Int32) (op : Int32) (cr : Int32) (wn : Int32) (dk : Nat → Int32) (wk : Nat → Int32) (h : p_R_commit_139 mm k_106 x1 x4 of op cr wn dk wk = some R) : ∀ (H : Heap) (locs : List Loc) (ls : Array Slot), va_P (dC, dI) vwCl (w_R cI cZ cS aR aRd aRm aRw aRs aRt aRc aRl aRh aRu aRx aRy aRk of op cr wn fp fs dk mm wk sg tb cs lw hg us de sa ky) H → va_D A (w_R cI cZ cS aR aRd aRm aRw aRs aRt aRc aRl aRh aRu aRx aRy aRk of op cr wn fp fs dk mm wk sg tb cs lw hg us de sa ky) → va_S A s.heap H locs → lv_has ls 5 [(0, .ref aR), (1, .int x1), (4, .int x4)] → W p l e ({ frames := 2, cells := 0, slots := 0, locals := 46 } : Room) s m ([.ref aR] : List Value).toArray below meth c H locs 0 0 (MQ below (mk_QI (dC, dI) vwCl (tyz cI cZ cS) A (fun u : Int32 × Int32 × Int32 × Int32 × (Nat → Int32) × (Nat → Int32) => w_R cI cZ cS aR aRd aRm aRw aRs aRt aRc aRl aRh aRu aRx aRy aRk u.1 u.2.1 u.2.2.1 u.2.2.2.1 fp fs u.2.2.2.2.1 mm u.2.2.2.2.2 sg tb cs lw hg us de sa ky) R) ([.ref aR] : List Value).toArray s 0 0 A) (F0 m 139 ls []) := by
  intro H locs ls hP hD hS hl
  obtain ⟨⟨hx, hb, hml, hown, hts⟩, hrt, hlk, hN⟩ := id E
  have hown : s.vm.findClass RX5 = some m.cls := hown
  unfold p_R_commit_139 at h
  refine lv_iconst (v := 0) hx hb dX5_commit_139 (by decide) ?_
  exact b_R_commit_140 E hA hK R hk_106 x1 x4 0 of op cr wn dk wk h H locs ls hP hD hS (lv_sub hl [0, 1, 2] rfl)
set_option maxHeartbeats 4000000 in
set_option maxRecDepth 100000 in
theorem b_R_commit_135 {p : Program} {l : Launch} {e : Env} {s : State} {m : MethodId} {below : List Frame} {meth : Method} {c : Code} {A : Nat → Prop} {dC : Nat → ClassId} {dI : Nat → Nat → Nat} {cI cZ cS : ClassId} {aR aRd aRm aRw aRs aRt aRc aRl aRh aRu aRx aRy aRk : Nat} {fp : Int32} {fs : Int32} {mm : Nat → Int32} {sg : Nat → Int32} {tb : Nat → Int32} {cs : Nat → Int32} {lw : Nat → Int32} {hg : Nat → Int32} {us : Nat → Int32} {de : Nat → Int32} {sa : Nat → Int32} {ky : Nat → Int32} (E : mk_En p s m meth c cX5_commit 5 (some .int) ([.ref aR] : List Value).toArray wsX5_commit yX5_commit.cls) (hA : ∀ q : Nat, s.heap.size ≤ q → A q) (hK : va_K (dC, dI) vwCl (tyz cI cZ cS) s) (R : Int32 × Int32 × Int32 × Int32 × Int32 × (Nat → Int32) × (Nat → Int32)) {k_106 : Int32 → Int32 → Int32 → Int32 → Int32 → Int32 → Int32 → (Nat → Int32) → (Nat → Int32) → Option (Int32 × Int32 × Int32 × Int32 × Int32 × (Nat → Int32) × (Nat → Int32))} (hk_106 : ∀ (x1 : Int32) (x3 : Int32) (x4 : Int32) (of : Int32) (op : Int32) (cr : Int32) (wn : Int32) (dk : Nat → Int32) (wk : Nat → Int32), k_106 x1 x3 x4 of op cr wn dk wk = some R → ∀ (H : Heap) (locs : List Loc) (ls : Array Slot), va_P (dC, dI) vwCl (w_R cI cZ cS aR aRd aRm aRw aRs aRt aRc aRl aRh aRu aRx aRy aRk of op cr wn fp fs dk mm wk sg tb cs lw hg us de sa ky) H → va_D A (w_R cI cZ cS aR aRd aRm aRw aRs aRt aRc aRl aRh aRu aRx aRy aRk of op cr wn fp fs dk mm wk sg tb cs lw hg us de sa ky) → va_S A s.heap H locs → lv_has ls 5 [(0, .ref aR), (1, .int x1), (3, .int x3), (4, .int x4)] → W p l e ({ frames := 2, cells := 0, slots := 0, locals := 46 } : Room) s m ([.ref aR] : List Value).toArray below meth c H locs 0 0 (MQ below (mk_QI (dC, dI) vwCl (tyz cI cZ cS) A (fun u : Int32 × Int32 × Int32 × Int32 × (Nat → Int32) × (Nat → Int32) => w_R cI cZ cS aR aRd aRm aRw aRs aRt aRc aRl aRh aRu aRx aRy aRk u.1 u.2.1 u.2.2.1 u.2.2.2.1 fp fs u.2.2.2.2.1 mm u.2.2.2.2.2 sg tb cs lw hg us de sa ky) R) ([.ref aR] : List Value).toArray s 0 0 A) (F0 m 106 ls [])) (x1 : Int32) (x4 : Int32) (of : Int32) (op : Int32) (cr : Int32) (wn : Int32) (dk : Nat → Int32) (wk : Nat → Int32) (h : p_R_commit_135 mm k_106 x1 x4 of op cr wn dk wk = some R) : ∀ (H : Heap) (locs : List Loc) (ls : Array Slot), va_P (dC, dI) vwCl (w_R cI cZ cS aR aRd aRm aRw aRs aRt aRc aRl aRh aRu aRx aRy aRk of op cr wn fp fs dk mm wk sg tb cs lw hg us de sa ky) H → va_D A (w_R cI cZ cS aR aRd aRm aRw aRs aRt aRc aRl aRh aRu aRx aRy aRk of op cr wn fp fs dk mm wk sg tb cs lw hg us de sa ky) → va_S A s.heap H locs → lv_has ls 5 [(0, .ref aR), (1, .int x1), (4, .int x4)] → W p l e ({ frames := 2, cells := 0, slots := 0, locals := 46 } : Room) s m ([.ref aR] : List Value).toArray below meth c H locs 0 0 (MQ below (mk_QI (dC, dI) vwCl (tyz cI cZ cS) A (fun u : Int32 × Int32 × Int32 × Int32 × (Nat → Int32) × (Nat → Int32) => w_R cI cZ cS aR aRd aRm aRw aRs aRt aRc aRl aRh aRu aRx aRy aRk u.1 u.2.1 u.2.2.1 u.2.2.2.1 fp fs u.2.2.2.2.1 mm u.2.2.2.2.2 sg tb cs lw hg us de sa ky) R) ([.ref aR] : List Value).toArray s 0 0 A) (F0 m 135 ls []) := by
  intro H locs ls hP hD hS hl
  obtain ⟨⟨hx, hb, hml, hown, hts⟩, hrt, hlk, hN⟩ := id E
  have hown : s.vm.findClass RX5 = some m.cls := hown
  unfold p_R_commit_135 at h
  refine lv_iconst (v := 1) hx hb dX5_commit_135 (by decide) ?_
  refine lv_goto (tgt := 140) hx hb dX5_commit_136 (by decide) ?_
  exact b_R_commit_140 E hA hK R hk_106 x1 x4 1 of op cr wn dk wk h H locs ls hP hD hS (lv_sub hl [0, 1, 2] rfl)
set_option maxHeartbeats 4000000 in
set_option maxRecDepth 100000 in
theorem b_R_commit_106 {p : Program} {l : Launch} {e : Env} {s : State} {m : MethodId} {below : List Frame} {meth : Method} {c : Code} {A : Nat → Prop} {dC : Nat → ClassId} {dI : Nat → Nat → Nat} {cI cZ cS : ClassId} {aR aRd aRm aRw aRs aRt aRc aRl aRh aRu aRx aRy aRk : Nat} {fp : Int32} {fs : Int32} {mm : Nat → Int32} {sg : Nat → Int32} {tb : Nat → Int32} {cs : Nat → Int32} {lw : Nat → Int32} {hg : Nat → Int32} {us : Nat → Int32} {de : Nat → Int32} {sa : Nat → Int32} {ky : Nat → Int32} (E : mk_En p s m meth c cX5_commit 5 (some .int) ([.ref aR] : List Value).toArray wsX5_commit yX5_commit.cls) (hA : ∀ q : Nat, s.heap.size ≤ q → A q) (hK : va_K (dC, dI) vwCl (tyz cI cZ cS) s) (R : Int32 × Int32 × Int32 × Int32 × Int32 × (Nat → Int32) × (Nat → Int32)) {k_106 : Int32 → Int32 → Int32 → Int32 → Int32 → Int32 → Int32 → (Nat → Int32) → (Nat → Int32) → Option (Int32 × Int32 × Int32 × Int32 × Int32 × (Nat → Int32) × (Nat → Int32))} (hk_106 : ∀ (x1 : Int32) (x3 : Int32) (x4 : Int32) (of : Int32) (op : Int32) (cr : Int32) (wn : Int32) (dk : Nat → Int32) (wk : Nat → Int32), k_106 x1 x3 x4 of op cr wn dk wk = some R → ∀ (H : Heap) (locs : List Loc) (ls : Array Slot), va_P (dC, dI) vwCl (w_R cI cZ cS aR aRd aRm aRw aRs aRt aRc aRl aRh aRu aRx aRy aRk of op cr wn fp fs dk mm wk sg tb cs lw hg us de sa ky) H → va_D A (w_R cI cZ cS aR aRd aRm aRw aRs aRt aRc aRl aRh aRu aRx aRy aRk of op cr wn fp fs dk mm wk sg tb cs lw hg us de sa ky) → va_S A s.heap H locs → lv_has ls 5 [(0, .ref aR), (1, .int x1), (3, .int x3), (4, .int x4)] → W p l e ({ frames := 2, cells := 0, slots := 0, locals := 46 } : Room) s m ([.ref aR] : List Value).toArray below meth c H locs 0 0 (MQ below (mk_QI (dC, dI) vwCl (tyz cI cZ cS) A (fun u : Int32 × Int32 × Int32 × Int32 × (Nat → Int32) × (Nat → Int32) => w_R cI cZ cS aR aRd aRm aRw aRs aRt aRc aRl aRh aRu aRx aRy aRk u.1 u.2.1 u.2.2.1 u.2.2.2.1 fp fs u.2.2.2.2.1 mm u.2.2.2.2.2 sg tb cs lw hg us de sa ky) R) ([.ref aR] : List Value).toArray s 0 0 A) (F0 m 106 ls [])) (x1 : Int32) (x3 : Int32) (x4 : Int32) (of : Int32) (op : Int32) (cr : Int32) (wn : Int32) (dk : Nat → Int32) (wk : Nat → Int32) (h : p_R_commit_106 mm k_106 x1 x3 x4 of op cr wn dk wk = some R) : ∀ (H : Heap) (locs : List Loc) (ls : Array Slot), va_P (dC, dI) vwCl (w_R cI cZ cS aR aRd aRm aRw aRs aRt aRc aRl aRh aRu aRx aRy aRk of op cr wn fp fs dk mm wk sg tb cs lw hg us de sa ky) H → va_D A (w_R cI cZ cS aR aRd aRm aRw aRs aRt aRc aRl aRh aRu aRx aRy aRk of op cr wn fp fs dk mm wk sg tb cs lw hg us de sa ky) → va_S A s.heap H locs → lv_has ls 5 [(0, .ref aR), (1, .int x1), (3, .int x3), (4, .int x4)] → W p l e ({ frames := 2, cells := 0, slots := 0, locals := 46 } : Room) s m ([.ref aR] : List Value).toArray below meth c H locs 0 0 (MQ below (mk_QI (dC, dI) vwCl (tyz cI cZ cS) A (fun u : Int32 × Int32 × Int32 × Int32 × (Nat → Int32) × (Nat → Int32) => w_R cI cZ cS aR aRd aRm aRw aRs aRt aRc aRl aRh aRu aRx aRy aRk u.1 u.2.1 u.2.2.1 u.2.2.2.1 fp fs u.2.2.2.2.1 mm u.2.2.2.2.2 sg tb cs lw hg us de sa ky) R) ([.ref aR] : List Value).toArray s 0 0 A) (F0 m 106 ls []) := by
  intro H locs ls hP hD hS hl
  obtain ⟨⟨hx, hb, hml, hown, hts⟩, hrt, hlk, hN⟩ := id E
  have hown : s.vm.findClass RX5 = some m.cls := hown
  unfold p_R_commit_106 at h
  refine lv_iload hx hb dX5_commit_106 (lv_at hl 3 rfl) ?_
  refine lv_bipush (v := 16) hx hb dX5_commit_108 (by decide) ?_
  refine lv_icmp_ge (tgt := 147) hx hb dX5_commit_110 (by decide) (fun c_2 => ?_) (fun c_2 => ?_)
  · replace h := (kp_if h).1 c_2
    refine lv_iload_n hx hb dX5_commit_147 rfl (lv_at hl 2 rfl) ?_
    refine lv_if_eq (tgt := 164) hx hb dX5_commit_148 (by decide) (fun c_3 => ?_) (fun c_3 => ?_)
    · replace h := (kp_if h).1 c_3
      exact b_R_commit_164 E hA hK R of op cr wn dk wk h H locs ls hP hD hS (lv_sub hl [0] rfl)
    · replace h := (kp_if h).2 c_3
      refine lv_aload_n hx hb dX5_commit_151 rfl (lv_at hl 0 rfl) ?_
      refine lv_iconst (v := 0) hx hb dX5_commit_152 (by decide) ?_
      refine lv_iconst (v := 0) hx hb dX5_commit_153 (by decide) ?_
      obtain ⟨r_4, hr_4, h⟩ := kp_bind h
      refine mk_contI (w := w_R cI cZ cS aR aRd aRm aRw aRs aRt aRc aRl aRh aRu aRx aRy aRk of op cr wn fp fs dk mm wk sg tb cs lw hg us de sa ky) (w0 := w_R cI cZ cS aR aRd aRm aRw aRs aRt aRc aRl aRh aRu aRx aRy aRk of op cr wn fp fs dk mm wk sg tb cs lw hg us de sa ky) (wr := []) (w2 := w_R cI cZ cS aR aRd aRm aRw aRs aRt aRc aRl aRh aRu aRx aRy aRk r_4.2.1 op r_4.2.2.1 r_4.2.2.2.1 fp fs r_4.2.2.2.2.1 mm r_4.2.2.2.2.2 sg tb cs lw hg us de sa ky) hP hD hS hA [0, 1, 2, 3, 4, 5, 6, 7, 8, 9, 10, 11, 12] [] rfl rfl (by decide) (by decide) [0, 1, 2, 3, 4, 5, 6, 7, 8, 9, 10, 11, 12] rfl (by decide) (va_runV (As := [.int 0, .int 0]) (rest := []) ⟨hx, hb, hml, hown, hts⟩ (c_R_putHead l dC dI cI cZ cS aR aRd aRm aRw aRs aRt aRc aRl aRh aRu aRx aRy aRk of op cr wn fp fs dk mm wk sg tb cs lw hg us de sa ky 0 0 r_4 hr_4 H.size) (cwV 2 hts gX5_commit_X5_putHead rfl rfl rfl (by decide +kernel) ⟨Nat.le_of_ble_eq_true rfl, Nat.le_of_ble_eq_true rfl⟩) (mk_preV (w0 := w_R cI cZ cS aR aRd aRm aRw aRs aRt aRc aRl aRh aRu aRx aRy aRk of op cr wn fp fs dk mm wk sg tb cs lw hg us de sa ky) (ci := 5) (q0 := 0) hN hK (mk_pick hP [0, 1, 2, 3, 4, 5, 6, 7, 8, 9, 10, 11, 12] rfl) (hD.sub [0, 1, 2, 3, 4, 5, 6, 7, 8, 9, 10, 11, 12] (by decide) rfl) rfl rfl rfl) rfl rfl hl.1 rfl (lv_room (Nat.le_of_ble_eq_true rfl)) dX5_commit_154 ⟨Nat.zero_le _, Nat.zero_le _⟩) (fun H locs hP hD hS => ?_)
      refine lv_if_eq (tgt := 164) hx hb dX5_commit_157 (by decide) (fun c_5 => ?_) (fun c_5 => ?_)
      · replace h := (kp_if h).1 c_5
        exact b_R_commit_164 E hA hK R r_4.2.1 op r_4.2.2.1 r_4.2.2.2.1 r_4.2.2.2.2.1 r_4.2.2.2.2.2 h H locs ls hP hD hS (lv_sub hl [0] rfl)
      · replace h := (kp_if h).2 c_5
        refine lv_iconst (v := 1) hx hb dX5_commit_160 (by decide) ?_
        refine lv_goto (tgt := 165) hx hb dX5_commit_161 (by decide) ?_
        exact b_R_commit_165 E hA hK R 1 r_4.2.1 op r_4.2.2.1 r_4.2.2.2.1 r_4.2.2.2.2.1 r_4.2.2.2.2.2 h H locs ls hP hD hS (lv_sub hl [0] rfl)
  · replace h := (kp_if h).2 c_2
    refine lv_iload_n hx hb dX5_commit_113 rfl (lv_at hl 2 rfl) ?_
    refine lv_if_eq (tgt := 139) hx hb dX5_commit_114 (by decide) (fun c_6 => ?_) (fun c_6 => ?_)
    · replace h := (kp_if h).1 c_6
      exact b_R_commit_139 E hA hK R hk_106 x1 x4 of op cr wn dk wk h H locs ls hP hD hS (lv_sub hl [0, 1, 3] rfl)
    · replace h := (kp_if h).2 c_6
      refine lv_iload_n hx hb dX5_commit_117 rfl (lv_at hl 1 rfl) ?_
      refine lv_iload hx hb dX5_commit_118 (lv_at hl 3 rfl) ?_
      refine lv_ishr hx hb dX5_commit_120 ?_
      refine lv_iconst (v := 1) hx hb dX5_commit_121 (by decide) ?_
      refine lv_iand hx hb dX5_commit_122 ?_
      refine lv_if_eq (tgt := 135) hx hb dX5_commit_123 (by decide) (fun c_7 => ?_) (fun c_7 => ?_)
      · replace h := (kp_if h).1 c_7
        exact b_R_commit_135 E hA hK R hk_106 x1 x4 of op cr wn dk wk h H locs ls hP hD hS (lv_sub hl [0, 1, 3] rfl)
      · replace h := (kp_if h).2 c_7
        refine lv_aload_n hx hb dX5_commit_126 rfl (lv_at hl 0 rfl) ?_
        refine lv_iload hx hb dX5_commit_127 (lv_at hl 3 rfl) ?_
        obtain ⟨r_8, hr_8, h⟩ := kp_bind h
        refine mk_contI (w := w_R cI cZ cS aR aRd aRm aRw aRs aRt aRc aRl aRh aRu aRx aRy aRk of op cr wn fp fs dk mm wk sg tb cs lw hg us de sa ky) (w0 := w_R cI cZ cS aR aRd aRm aRw aRs aRt aRc aRl aRh aRu aRx aRy aRk of op cr wn fp fs dk mm wk sg tb cs lw hg us de sa ky) (wr := []) (w2 := w_R cI cZ cS aR aRd aRm aRw aRs aRt aRc aRl aRh aRu aRx aRy aRk r_8.2.1 op r_8.2.2.1 r_8.2.2.2.1 fp fs r_8.2.2.2.2.1 mm r_8.2.2.2.2.2 sg tb cs lw hg us de sa ky) hP hD hS hA [0, 1, 2, 3, 4, 5, 6, 7, 8, 9, 10, 11, 12] [] rfl rfl (by decide) (by decide) [0, 1, 2, 3, 4, 5, 6, 7, 8, 9, 10, 11, 12] rfl (by decide) (va_runV (As := [.int x4]) (rest := []) ⟨hx, hb, hml, hown, hts⟩ (c_R_putFromMemory l dC dI cI cZ cS aR aRd aRm aRw aRs aRt aRc aRl aRh aRu aRx aRy aRk of op cr wn fp fs dk mm wk sg tb cs lw hg us de sa ky x4 r_8 hr_8 H.size) (cwV 1 hts gX5_commit_X5_putFromMemory rfl rfl rfl (by decide +kernel) ⟨Nat.le_of_ble_eq_true rfl, Nat.le_of_ble_eq_true rfl⟩) (mk_preV (w0 := w_R cI cZ cS aR aRd aRm aRw aRs aRt aRc aRl aRh aRu aRx aRy aRk of op cr wn fp fs dk mm wk sg tb cs lw hg us de sa ky) (ci := 5) (q0 := 0) hN hK (mk_pick hP [0, 1, 2, 3, 4, 5, 6, 7, 8, 9, 10, 11, 12] rfl) (hD.sub [0, 1, 2, 3, 4, 5, 6, 7, 8, 9, 10, 11, 12] (by decide) rfl) rfl rfl rfl) rfl rfl hl.1 rfl (lv_room (Nat.le_of_ble_eq_true rfl)) dX5_commit_129 ⟨Nat.zero_le _, Nat.zero_le _⟩) (fun H locs hP hD hS => ?_)
        refine lv_if_eq (tgt := 139) hx hb dX5_commit_132 (by decide) (fun c_9 => ?_) (fun c_9 => ?_)
        · replace h := (kp_if h).1 c_9
          exact b_R_commit_139 E hA hK R hk_106 x1 x4 r_8.2.1 op r_8.2.2.1 r_8.2.2.2.1 r_8.2.2.2.2.1 r_8.2.2.2.2.2 h H locs ls hP hD hS (lv_sub hl [0, 1, 3] rfl)
        · replace h := (kp_if h).2 c_9
          exact b_R_commit_135 E hA hK R hk_106 x1 x4 r_8.2.1 op r_8.2.2.1 r_8.2.2.2.1 r_8.2.2.2.2.1 r_8.2.2.2.2.2 h H locs ls hP hD hS (lv_sub hl [0, 1, 3] rfl)
set_option maxHeartbeats 4000000 in
set_option maxRecDepth 100000 in
theorem l_R_commit_106 {p : Program} {l : Launch} {e : Env} {s : State} {m : MethodId} {below : List Frame} {meth : Method} {c : Code} {A : Nat → Prop} {dC : Nat → ClassId} {dI : Nat → Nat → Nat} {cI cZ cS : ClassId} {aR aRd aRm aRw aRs aRt aRc aRl aRh aRu aRx aRy aRk : Nat} {fp : Int32} {fs : Int32} {mm : Nat → Int32} {sg : Nat → Int32} {tb : Nat → Int32} {cs : Nat → Int32} {lw : Nat → Int32} {hg : Nat → Int32} {us : Nat → Int32} {de : Nat → Int32} {sa : Nat → Int32} {ky : Nat → Int32} (E : mk_En p s m meth c cX5_commit 5 (some .int) ([.ref aR] : List Value).toArray wsX5_commit yX5_commit.cls) (hA : ∀ q : Nat, s.heap.size ≤ q → A q) (hK : va_K (dC, dI) vwCl (tyz cI cZ cS) s) (R : Int32 × Int32 × Int32 × Int32 × Int32 × (Nat → Int32) × (Nat → Int32)) : ∀ (n : Nat) (x1 : Int32) (x3 : Int32) (x4 : Int32) (of : Int32) (op : Int32) (cr : Int32) (wn : Int32) (dk : Nat → Int32) (wk : Nat → Int32), pl_R_commit_106 mm n x1 x3 x4 of op cr wn dk wk = some R → ∀ (H : Heap) (locs : List Loc) (ls : Array Slot), va_P (dC, dI) vwCl (w_R cI cZ cS aR aRd aRm aRw aRs aRt aRc aRl aRh aRu aRx aRy aRk of op cr wn fp fs dk mm wk sg tb cs lw hg us de sa ky) H → va_D A (w_R cI cZ cS aR aRd aRm aRw aRs aRt aRc aRl aRh aRu aRx aRy aRk of op cr wn fp fs dk mm wk sg tb cs lw hg us de sa ky) → va_S A s.heap H locs → lv_has ls 5 [(0, .ref aR), (1, .int x1), (3, .int x3), (4, .int x4)] → W p l e ({ frames := 2, cells := 0, slots := 0, locals := 46 } : Room) s m ([.ref aR] : List Value).toArray below meth c H locs 0 0 (MQ below (mk_QI (dC, dI) vwCl (tyz cI cZ cS) A (fun u : Int32 × Int32 × Int32 × Int32 × (Nat → Int32) × (Nat → Int32) => w_R cI cZ cS aR aRd aRm aRw aRs aRt aRc aRl aRh aRu aRx aRy aRk u.1 u.2.1 u.2.2.1 u.2.2.2.1 fp fs u.2.2.2.2.1 mm u.2.2.2.2.2 sg tb cs lw hg us de sa ky) R) ([.ref aR] : List Value).toArray s 0 0 A) (F0 m 106 ls []) := by
  intro n
  induction n with
  | zero =>
    intro x1 x3 x4 of op cr wn dk wk h
    cases h
  | succ n ih =>
    intro x1 x3 x4 of op cr wn dk wk h
    exact b_R_commit_106 E hA hK R ih x1 x3 x4 of op cr wn dk wk h
set_option maxHeartbeats 4000000 in
set_option maxRecDepth 100000 in
theorem b_R_commit_102 {p : Program} {l : Launch} {e : Env} {s : State} {m : MethodId} {below : List Frame} {meth : Method} {c : Code} {A : Nat → Prop} {dC : Nat → ClassId} {dI : Nat → Nat → Nat} {cI cZ cS : ClassId} {aR aRd aRm aRw aRs aRt aRc aRl aRh aRu aRx aRy aRk : Nat} {fp : Int32} {fs : Int32} {mm : Nat → Int32} {sg : Nat → Int32} {tb : Nat → Int32} {cs : Nat → Int32} {lw : Nat → Int32} {hg : Nat → Int32} {us : Nat → Int32} {de : Nat → Int32} {sa : Nat → Int32} {ky : Nat → Int32} (E : mk_En p s m meth c cX5_commit 5 (some .int) ([.ref aR] : List Value).toArray wsX5_commit yX5_commit.cls) (hA : ∀ q : Nat, s.heap.size ≤ q → A q) (hK : va_K (dC, dI) vwCl (tyz cI cZ cS) s) (R : Int32 × Int32 × Int32 × Int32 × Int32 × (Nat → Int32) × (Nat → Int32)) (x1 : Int32) (z0 : Int32) (of : Int32) (op : Int32) (cr : Int32) (wn : Int32) (dk : Nat → Int32) (wk : Nat → Int32) (h : p_R_commit_102 mm x1 z0 of op cr wn dk wk = some R) : ∀ (H : Heap) (locs : List Loc) (ls : Array Slot), va_P (dC, dI) vwCl (w_R cI cZ cS aR aRd aRm aRw aRs aRt aRc aRl aRh aRu aRx aRy aRk of op cr wn fp fs dk mm wk sg tb cs lw hg us de sa ky) H → va_D A (w_R cI cZ cS aR aRd aRm aRw aRs aRt aRc aRl aRh aRu aRx aRy aRk of op cr wn fp fs dk mm wk sg tb cs lw hg us de sa ky) → va_S A s.heap H locs → lv_has ls 5 [(0, .ref aR), (1, .int x1)] → W p l e ({ frames := 2, cells := 0, slots := 0, locals := 46 } : Room) s m ([.ref aR] : List Value).toArray below meth c H locs 0 0 (MQ below (mk_QI (dC, dI) vwCl (tyz cI cZ cS) A (fun u : Int32 × Int32 × Int32 × Int32 × (Nat → Int32) × (Nat → Int32) => w_R cI cZ cS aR aRd aRm aRw aRs aRt aRc aRl aRh aRu aRx aRy aRk u.1 u.2.1 u.2.2.1 u.2.2.2.1 fp fs u.2.2.2.2.1 mm u.2.2.2.2.2 sg tb cs lw hg us de sa ky) R) ([.ref aR] : List Value).toArray s 0 0 A) (F0 m 102 ls [.int z0]) := by
  intro H locs ls hP hD hS hl
  obtain ⟨⟨hx, hb, hml, hown, hts⟩, hrt, hlk, hN⟩ := id E
  have hown : s.vm.findClass RX5 = some m.cls := hown
  unfold p_R_commit_102 at h
  refine lv_istore_n (lv' := [(3, .int z0), (0, .ref aR), (1, .int x1)]) hx hb dX5_commit_102 rfl hl (by decide) rfl (fun ls hl => ?_)
  refine lv_iconst (v := 0) hx hb dX5_commit_103 (by decide) ?_
  refine lv_istore (lv' := [(4, .int 0), (3, .int z0), (0, .ref aR), (1, .int x1)]) hx hb dX5_commit_104 hl (by decide) rfl (fun ls hl => ?_)
  exact l_R_commit_106 E hA hK R 1000 x1 z0 0 of op cr wn dk wk h H locs ls hP hD hS (lv_sub hl [2, 3, 1, 0] rfl)
set_option maxHeartbeats 4000000 in
set_option maxRecDepth 100000 in
theorem b_R_commit_101 {p : Program} {l : Launch} {e : Env} {s : State} {m : MethodId} {below : List Frame} {meth : Method} {c : Code} {A : Nat → Prop} {dC : Nat → ClassId} {dI : Nat → Nat → Nat} {cI cZ cS : ClassId} {aR aRd aRm aRw aRs aRt aRc aRl aRh aRu aRx aRy aRk : Nat} {fp : Int32} {fs : Int32} {mm : Nat → Int32} {sg : Nat → Int32} {tb : Nat → Int32} {cs : Nat → Int32} {lw : Nat → Int32} {hg : Nat → Int32} {us : Nat → Int32} {de : Nat → Int32} {sa : Nat → Int32} {ky : Nat → Int32} (E : mk_En p s m meth c cX5_commit 5 (some .int) ([.ref aR] : List Value).toArray wsX5_commit yX5_commit.cls) (hA : ∀ q : Nat, s.heap.size ≤ q → A q) (hK : va_K (dC, dI) vwCl (tyz cI cZ cS) s) (R : Int32 × Int32 × Int32 × Int32 × Int32 × (Nat → Int32) × (Nat → Int32)) (x1 : Int32) (of : Int32) (op : Int32) (cr : Int32) (wn : Int32) (dk : Nat → Int32) (wk : Nat → Int32) (h : p_R_commit_101 mm x1 of op cr wn dk wk = some R) : ∀ (H : Heap) (locs : List Loc) (ls : Array Slot), va_P (dC, dI) vwCl (w_R cI cZ cS aR aRd aRm aRw aRs aRt aRc aRl aRh aRu aRx aRy aRk of op cr wn fp fs dk mm wk sg tb cs lw hg us de sa ky) H → va_D A (w_R cI cZ cS aR aRd aRm aRw aRs aRt aRc aRl aRh aRu aRx aRy aRk of op cr wn fp fs dk mm wk sg tb cs lw hg us de sa ky) → va_S A s.heap H locs → lv_has ls 5 [(0, .ref aR), (1, .int x1)] → W p l e ({ frames := 2, cells := 0, slots := 0, locals := 46 } : Room) s m ([.ref aR] : List Value).toArray below meth c H locs 0 0 (MQ below (mk_QI (dC, dI) vwCl (tyz cI cZ cS) A (fun u : Int32 × Int32 × Int32 × Int32 × (Nat → Int32) × (Nat → Int32) => w_R cI cZ cS aR aRd aRm aRw aRs aRt aRc aRl aRh aRu aRx aRy aRk u.1 u.2.1 u.2.2.1 u.2.2.2.1 fp fs u.2.2.2.2.1 mm u.2.2.2.2.2 sg tb cs lw hg us de sa ky) R) ([.ref aR] : List Value).toArray s 0 0 A) (F0 m 101 ls []) := by
  intro H locs ls hP hD hS hl
  obtain ⟨⟨hx, hb, hml, hown, hts⟩, hrt, hlk, hN⟩ := id E
  have hown : s.vm.findClass RX5 = some m.cls := hown
  unfold p_R_commit_101 at h
  refine lv_iconst (v := 0) hx hb dX5_commit_101 (by decide) ?_
  exact b_R_commit_102 E hA hK R x1 0 of op cr wn dk wk h H locs ls hP hD hS (lv_sub hl [0, 1] rfl)
set_option maxHeartbeats 4000000 in
set_option maxRecDepth 100000 in
theorem b_R_commit_74 {p : Program} {l : Launch} {e : Env} {s : State} {m : MethodId} {below : List Frame} {meth : Method} {c : Code} {A : Nat → Prop} {dC : Nat → ClassId} {dI : Nat → Nat → Nat} {cI cZ cS : ClassId} {aR aRd aRm aRw aRs aRt aRc aRl aRh aRu aRx aRy aRk : Nat} {fp : Int32} {fs : Int32} {mm : Nat → Int32} {sg : Nat → Int32} {tb : Nat → Int32} {cs : Nat → Int32} {lw : Nat → Int32} {hg : Nat → Int32} {us : Nat → Int32} {de : Nat → Int32} {sa : Nat → Int32} {ky : Nat → Int32} (E : mk_En p s m meth c cX5_commit 5 (some .int) ([.ref aR] : List Value).toArray wsX5_commit yX5_commit.cls) (hA : ∀ q : Nat, s.heap.size ≤ q → A q) (hK : va_K (dC, dI) vwCl (tyz cI cZ cS) s) (R : Int32 × Int32 × Int32 × Int32 × Int32 × (Nat → Int32) × (Nat → Int32)) {k_31 : Int32 → Int32 → Int32 → Int32 → Int32 → Int32 → Int32 → Int32 → (Nat → Int32) → (Nat → Int32) → Option (Int32 × Int32 × Int32 × Int32 × Int32 × (Nat → Int32) × (Nat → Int32))} (hk_31 : ∀ (x1 : Int32) (x2 : Int32) (x3 : Int32) (x4 : Int32) (of : Int32) (op : Int32) (cr : Int32) (wn : Int32) (dk : Nat → Int32) (wk : Nat → Int32), k_31 x1 x2 x3 x4 of op cr wn dk wk = some R → ∀ (H : Heap) (locs : List Loc) (ls : Array Slot), va_P (dC, dI) vwCl (w_R cI cZ cS aR aRd aRm aRw aRs aRt aRc aRl aRh aRu aRx aRy aRk of op cr wn fp fs dk mm wk sg tb cs lw hg us de sa ky) H → va_D A (w_R cI cZ cS aR aRd aRm aRw aRs aRt aRc aRl aRh aRu aRx aRy aRk of op cr wn fp fs dk mm wk sg tb cs lw hg us de sa ky) → va_S A s.heap H locs → lv_has ls 5 [(0, .ref aR), (1, .int x1), (2, .int x2), (3, .int x3), (4, .int x4)] → W p l e ({ frames := 2, cells := 0, slots := 0, locals := 46 } : Room) s m ([.ref aR] : List Value).toArray below meth c H locs 0 0 (MQ below (mk_QI (dC, dI) vwCl (tyz cI cZ cS) A (fun u : Int32 × Int32 × Int32 × Int32 × (Nat → Int32) × (Nat → Int32) => w_R cI cZ cS aR aRd aRm aRw aRs aRt aRc aRl aRh aRu aRx aRy aRk u.1 u.2.1 u.2.2.1 u.2.2.2.1 fp fs u.2.2.2.2.1 mm u.2.2.2.2.2 sg tb cs lw hg us de sa ky) R) ([.ref aR] : List Value).toArray s 0 0 A) (F0 m 31 ls [])) (x1 : Int32) (x2 : Int32) (x3 : Int32) (x4 : Int32) (of : Int32) (op : Int32) (cr : Int32) (wn : Int32) (dk : Nat → Int32) (wk : Nat → Int32) (h : p_R_commit_74 mm k_31 x1 x2 x3 x4 of op cr wn dk wk = some R) : ∀ (H : Heap) (locs : List Loc) (ls : Array Slot), va_P (dC, dI) vwCl (w_R cI cZ cS aR aRd aRm aRw aRs aRt aRc aRl aRh aRu aRx aRy aRk of op cr wn fp fs dk mm wk sg tb cs lw hg us de sa ky) H → va_D A (w_R cI cZ cS aR aRd aRm aRw aRs aRt aRc aRl aRh aRu aRx aRy aRk of op cr wn fp fs dk mm wk sg tb cs lw hg us de sa ky) → va_S A s.heap H locs → lv_has ls 5 [(0, .ref aR), (1, .int x1), (2, .int x2), (3, .int x3), (4, .int x4)] → W p l e ({ frames := 2, cells := 0, slots := 0, locals := 46 } : Room) s m ([.ref aR] : List Value).toArray below meth c H locs 0 0 (MQ below (mk_QI (dC, dI) vwCl (tyz cI cZ cS) A (fun u : Int32 × Int32 × Int32 × Int32 × (Nat → Int32) × (Nat → Int32) => w_R cI cZ cS aR aRd aRm aRw aRs aRt aRc aRl aRh aRu aRx aRy aRk u.1 u.2.1 u.2.2.1 u.2.2.2.1 fp fs u.2.2.2.2.1 mm u.2.2.2.2.2 sg tb cs lw hg us de sa ky) R) ([.ref aR] : List Value).toArray s 0 0 A) (F0 m 74 ls []) := by
  intro H locs ls hP hD hS hl
  obtain ⟨⟨hx, hb, hml, hown, hts⟩, hrt, hlk, hN⟩ := id E
  have hown : s.vm.findClass RX5 = some m.cls := hown
  unfold p_R_commit_74 at h
  refine lv_iinc (v := x4 + 1) (lv' := [(4, .int (x4 + 1)), (0, .ref aR), (1, .int x1), (2, .int x2), (3, .int x3)]) hx hb dX5_commit_74 hl (k := 4) rfl rfl (by decide) rfl (fun ls hl => ?_)
  refine lv_goto (tgt := 31) hx hb dX5_commit_77 (by decide) ?_
  exact hk_31 x1 x2 x3 (x4 + 1) of op cr wn dk wk h H locs ls hP hD hS (lv_sub hl [1, 2, 3, 4, 0] rfl)
set_option maxHeartbeats 4000000 in
set_option maxRecDepth 100000 in
theorem b_R_commit_70 {p : Program} {l : Launch} {e : Env} {s : State} {m : MethodId} {below : List Frame} {meth : Method} {c : Code} {A : Nat → Prop} {dC : Nat → ClassId} {dI : Nat → Nat → Nat} {cI cZ cS : ClassId} {aR aRd aRm aRw aRs aRt aRc aRl aRh aRu aRx aRy aRk : Nat} {fp : Int32} {fs : Int32} {mm : Nat → Int32} {sg : Nat → Int32} {tb : Nat → Int32} {cs : Nat → Int32} {lw : Nat → Int32} {hg : Nat → Int32} {us : Nat → Int32} {de : Nat → Int32} {sa : Nat → Int32} {ky : Nat → Int32} (E : mk_En p s m meth c cX5_commit 5 (some .int) ([.ref aR] : List Value).toArray wsX5_commit yX5_commit.cls) (hA : ∀ q : Nat, s.heap.size ≤ q → A q) (hK : va_K (dC, dI) vwCl (tyz cI cZ cS) s) (R : Int32 × Int32 × Int32 × Int32 × Int32 × (Nat → Int32) × (Nat → Int32)) {k_31 : Int32 → Int32 → Int32 → Int32 → Int32 → Int32 → Int32 → Int32 → (Nat → Int32) → (Nat → Int32) → Option (Int32 × Int32 × Int32 × Int32 × Int32 × (Nat → Int32) × (Nat → Int32))} (hk_31 : ∀ (x1 : Int32) (x2 : Int32) (x3 : Int32) (x4 : Int32) (of : Int32) (op : Int32) (cr : Int32) (wn : Int32) (dk : Nat → Int32) (wk : Nat → Int32), k_31 x1 x2 x3 x4 of op cr wn dk wk = some R → ∀ (H : Heap) (locs : List Loc) (ls : Array Slot), va_P (dC, dI) vwCl (w_R cI cZ cS aR aRd aRm aRw aRs aRt aRc aRl aRh aRu aRx aRy aRk of op cr wn fp fs dk mm wk sg tb cs lw hg us de sa ky) H → va_D A (w_R cI cZ cS aR aRd aRm aRw aRs aRt aRc aRl aRh aRu aRx aRy aRk of op cr wn fp fs dk mm wk sg tb cs lw hg us de sa ky) → va_S A s.heap H locs → lv_has ls 5 [(0, .ref aR), (1, .int x1), (2, .int x2), (3, .int x3), (4, .int x4)] → W p l e ({ frames := 2, cells := 0, slots := 0, locals := 46 } : Room) s m ([.ref aR] : List Value).toArray below meth c H locs 0 0 (MQ below (mk_QI (dC, dI) vwCl (tyz cI cZ cS) A (fun u : Int32 × Int32 × Int32 × Int32 × (Nat → Int32) × (Nat → Int32) => w_R cI cZ cS aR aRd aRm aRw aRs aRt aRc aRl aRh aRu aRx aRy aRk u.1 u.2.1 u.2.2.1 u.2.2.2.1 fp fs u.2.2.2.2.1 mm u.2.2.2.2.2 sg tb cs lw hg us de sa ky) R) ([.ref aR] : List Value).toArray s 0 0 A) (F0 m 31 ls [])) (x1 : Int32) (x2 : Int32) (x4 : Int32) (z0 : Int32) (of : Int32) (op : Int32) (cr : Int32) (wn : Int32) (dk : Nat → Int32) (wk : Nat → Int32) (h : p_R_commit_70 mm k_31 x1 x2 x4 z0 of op cr wn dk wk = some R) : ∀ (H : Heap) (locs : List Loc) (ls : Array Slot), va_P (dC, dI) vwCl (w_R cI cZ cS aR aRd aRm aRw aRs aRt aRc aRl aRh aRu aRx aRy aRk of op cr wn fp fs dk mm wk sg tb cs lw hg us de sa ky) H → va_D A (w_R cI cZ cS aR aRd aRm aRw aRs aRt aRc aRl aRh aRu aRx aRy aRk of op cr wn fp fs dk mm wk sg tb cs lw hg us de sa ky) → va_S A s.heap H locs → lv_has ls 5 [(0, .ref aR), (1, .int x1), (2, .int x2), (4, .int x4)] → W p l e ({ frames := 2, cells := 0, slots := 0, locals := 46 } : Room) s m ([.ref aR] : List Value).toArray below meth c H locs 0 0 (MQ below (mk_QI (dC, dI) vwCl (tyz cI cZ cS) A (fun u : Int32 × Int32 × Int32 × Int32 × (Nat → Int32) × (Nat → Int32) => w_R cI cZ cS aR aRd aRm aRw aRs aRt aRc aRl aRh aRu aRx aRy aRk u.1 u.2.1 u.2.2.1 u.2.2.2.1 fp fs u.2.2.2.2.1 mm u.2.2.2.2.2 sg tb cs lw hg us de sa ky) R) ([.ref aR] : List Value).toArray s 0 0 A) (F0 m 70 ls [.int z0]) := by
  intro H locs ls hP hD hS hl
  obtain ⟨⟨hx, hb, hml, hown, hts⟩, hrt, hlk, hN⟩ := id E
  have hown : s.vm.findClass RX5 = some m.cls := hown
  unfold p_R_commit_70 at h
  refine lv_istore_n (lv' := [(3, .int z0), (0, .ref aR), (1, .int x1), (2, .int x2), (4, .int x4)]) hx hb dX5_commit_70 rfl hl (by decide) rfl (fun ls hl => ?_)
  refine lv_iinc (v := x2 + 1) (lv' := [(2, .int (x2 + 1)), (3, .int z0), (0, .ref aR), (1, .int x1), (4, .int x4)]) hx hb dX5_commit_71 hl (k := 3) rfl rfl (by decide) rfl (fun ls hl => ?_)
  exact b_R_commit_74 E hA hK R hk_31 x1 (x2 + 1) z0 x4 of op cr wn dk wk h H locs ls hP hD hS (lv_sub hl [2, 3, 0, 1, 4] rfl)
set_option maxHeartbeats 4000000 in
set_option maxRecDepth 100000 in
theorem b_R_commit_69 {p : Program} {l : Launch} {e : Env} {s : State} {m : MethodId} {below : List Frame} {meth : Method} {c : Code} {A : Nat → Prop} {dC : Nat → ClassId} {dI : Nat → Nat → Nat} {cI cZ cS : ClassId} {aR aRd aRm aRw aRs aRt aRc aRl aRh aRu aRx aRy aRk : Nat} {fp : Int32} {fs : Int32} {mm : Nat → Int32} {sg : Nat → Int32} {tb : Nat → Int32} {cs : Nat → Int32} {lw : Nat → Int32} {hg : Nat → Int32} {us : Nat → Int32} {de : Nat → Int32} {sa : Nat → Int32} {ky : Nat → Int32} (E : mk_En p s m meth c cX5_commit 5 (some .int) ([.ref aR] : List Value).toArray wsX5_commit yX5_commit.cls) (hA : ∀ q : Nat, s.heap.size ≤ q → A q) (hK : va_K (dC, dI) vwCl (tyz cI cZ cS) s) (R : Int32 × Int32 × Int32 × Int32 × Int32 × (Nat → Int32) × (Nat → Int32)) {k_31 : Int32 → Int32 → Int32 → Int32 → Int32 → Int32 → Int32 → Int32 → (Nat → Int32) → (Nat → Int32) → Option (Int32 × Int32 × Int32 × Int32 × Int32 × (Nat → Int32) × (Nat → Int32))} (hk_31 : ∀ (x1 : Int32) (x2 : Int32) (x3 : Int32) (x4 : Int32) (of : Int32) (op : Int32) (cr : Int32) (wn : Int32) (dk : Nat → Int32) (wk : Nat → Int32), k_31 x1 x2 x3 x4 of op cr wn dk wk = some R → ∀ (H : Heap) (locs : List Loc) (ls : Array Slot), va_P (dC, dI) vwCl (w_R cI cZ cS aR aRd aRm aRw aRs aRt aRc aRl aRh aRu aRx aRy aRk of op cr wn fp fs dk mm wk sg tb cs lw hg us de sa ky) H → va_D A (w_R cI cZ cS aR aRd aRm aRw aRs aRt aRc aRl aRh aRu aRx aRy aRk of op cr wn fp fs dk mm wk sg tb cs lw hg us de sa ky) → va_S A s.heap H locs → lv_has ls 5 [(0, .ref aR), (1, .int x1), (2, .int x2), (3, .int x3), (4, .int x4)] → W p l e ({ frames := 2, cells := 0, slots := 0, locals := 46 } : Room) s m ([.ref aR] : List Value).toArray below meth c H locs 0 0 (MQ below (mk_QI (dC, dI) vwCl (tyz cI cZ cS) A (fun u : Int32 × Int32 × Int32 × Int32 × (Nat → Int32) × (Nat → Int32) => w_R cI cZ cS aR aRd aRm aRw aRs aRt aRc aRl aRh aRu aRx aRy aRk u.1 u.2.1 u.2.2.1 u.2.2.2.1 fp fs u.2.2.2.2.1 mm u.2.2.2.2.2 sg tb cs lw hg us de sa ky) R) ([.ref aR] : List Value).toArray s 0 0 A) (F0 m 31 ls [])) (x1 : Int32) (x2 : Int32) (x4 : Int32) (of : Int32) (op : Int32) (cr : Int32) (wn : Int32) (dk : Nat → Int32) (wk : Nat → Int32) (h : p_R_commit_69 mm k_31 x1 x2 x4 of op cr wn dk wk = some R) : ∀ (H : Heap) (locs : List Loc) (ls : Array Slot), va_P (dC, dI) vwCl (w_R cI cZ cS aR aRd aRm aRw aRs aRt aRc aRl aRh aRu aRx aRy aRk of op cr wn fp fs dk mm wk sg tb cs lw hg us de sa ky) H → va_D A (w_R cI cZ cS aR aRd aRm aRw aRs aRt aRc aRl aRh aRu aRx aRy aRk of op cr wn fp fs dk mm wk sg tb cs lw hg us de sa ky) → va_S A s.heap H locs → lv_has ls 5 [(0, .ref aR), (1, .int x1), (2, .int x2), (4, .int x4)] → W p l e ({ frames := 2, cells := 0, slots := 0, locals := 46 } : Room) s m ([.ref aR] : List Value).toArray below meth c H locs 0 0 (MQ below (mk_QI (dC, dI) vwCl (tyz cI cZ cS) A (fun u : Int32 × Int32 × Int32 × Int32 × (Nat → Int32) × (Nat → Int32) => w_R cI cZ cS aR aRd aRm aRw aRs aRt aRc aRl aRh aRu aRx aRy aRk u.1 u.2.1 u.2.2.1 u.2.2.2.1 fp fs u.2.2.2.2.1 mm u.2.2.2.2.2 sg tb cs lw hg us de sa ky) R) ([.ref aR] : List Value).toArray s 0 0 A) (F0 m 69 ls []) := by
  intro H locs ls hP hD hS hl
  obtain ⟨⟨hx, hb, hml, hown, hts⟩, hrt, hlk, hN⟩ := id E
  have hown : s.vm.findClass RX5 = some m.cls := hown
  unfold p_R_commit_69 at h
  refine lv_iconst (v := 0) hx hb dX5_commit_69 (by decide) ?_
  exact b_R_commit_70 E hA hK R hk_31 x1 x2 x4 0 of op cr wn dk wk h H locs ls hP hD hS (lv_sub hl [0, 1, 2, 3] rfl)
set_option maxHeartbeats 4000000 in
set_option maxRecDepth 100000 in
theorem b_R_commit_31 {p : Program} {l : Launch} {e : Env} {s : State} {m : MethodId} {below : List Frame} {meth : Method} {c : Code} {A : Nat → Prop} {dC : Nat → ClassId} {dI : Nat → Nat → Nat} {cI cZ cS : ClassId} {aR aRd aRm aRw aRs aRt aRc aRl aRh aRu aRx aRy aRk : Nat} {fp : Int32} {fs : Int32} {mm : Nat → Int32} {sg : Nat → Int32} {tb : Nat → Int32} {cs : Nat → Int32} {lw : Nat → Int32} {hg : Nat → Int32} {us : Nat → Int32} {de : Nat → Int32} {sa : Nat → Int32} {ky : Nat → Int32} (E : mk_En p s m meth c cX5_commit 5 (some .int) ([.ref aR] : List Value).toArray wsX5_commit yX5_commit.cls) (hA : ∀ q : Nat, s.heap.size ≤ q → A q) (hK : va_K (dC, dI) vwCl (tyz cI cZ cS) s) (R : Int32 × Int32 × Int32 × Int32 × Int32 × (Nat → Int32) × (Nat → Int32)) {k_31 : Int32 → Int32 → Int32 → Int32 → Int32 → Int32 → Int32 → Int32 → (Nat → Int32) → (Nat → Int32) → Option (Int32 × Int32 × Int32 × Int32 × Int32 × (Nat → Int32) × (Nat → Int32))} (hk_31 : ∀ (x1 : Int32) (x2 : Int32) (x3 : Int32) (x4 : Int32) (of : Int32) (op : Int32) (cr : Int32) (wn : Int32) (dk : Nat → Int32) (wk : Nat → Int32), k_31 x1 x2 x3 x4 of op cr wn dk wk = some R → ∀ (H : Heap) (locs : List Loc) (ls : Array Slot), va_P (dC, dI) vwCl (w_R cI cZ cS aR aRd aRm aRw aRs aRt aRc aRl aRh aRu aRx aRy aRk of op cr wn fp fs dk mm wk sg tb cs lw hg us de sa ky) H → va_D A (w_R cI cZ cS aR aRd aRm aRw aRs aRt aRc aRl aRh aRu aRx aRy aRk of op cr wn fp fs dk mm wk sg tb cs lw hg us de sa ky) → va_S A s.heap H locs → lv_has ls 5 [(0, .ref aR), (1, .int x1), (2, .int x2), (3, .int x3), (4, .int x4)] → W p l e ({ frames := 2, cells := 0, slots := 0, locals := 46 } : Room) s m ([.ref aR] : List Value).toArray below meth c H locs 0 0 (MQ below (mk_QI (dC, dI) vwCl (tyz cI cZ cS) A (fun u : Int32 × Int32 × Int32 × Int32 × (Nat → Int32) × (Nat → Int32) => w_R cI cZ cS aR aRd aRm aRw aRs aRt aRc aRl aRh aRu aRx aRy aRk u.1 u.2.1 u.2.2.1 u.2.2.2.1 fp fs u.2.2.2.2.1 mm u.2.2.2.2.2 sg tb cs lw hg us de sa ky) R) ([.ref aR] : List Value).toArray s 0 0 A) (F0 m 31 ls [])) (x1 : Int32) (x2 : Int32) (x3 : Int32) (x4 : Int32) (of : Int32) (op : Int32) (cr : Int32) (wn : Int32) (dk : Nat → Int32) (wk : Nat → Int32) (h : p_R_commit_31 mm k_31 x1 x2 x3 x4 of op cr wn dk wk = some R) : ∀ (H : Heap) (locs : List Loc) (ls : Array Slot), va_P (dC, dI) vwCl (w_R cI cZ cS aR aRd aRm aRw aRs aRt aRc aRl aRh aRu aRx aRy aRk of op cr wn fp fs dk mm wk sg tb cs lw hg us de sa ky) H → va_D A (w_R cI cZ cS aR aRd aRm aRw aRs aRt aRc aRl aRh aRu aRx aRy aRk of op cr wn fp fs dk mm wk sg tb cs lw hg us de sa ky) → va_S A s.heap H locs → lv_has ls 5 [(0, .ref aR), (1, .int x1), (2, .int x2), (3, .int x3), (4, .int x4)] → W p l e ({ frames := 2, cells := 0, slots := 0, locals := 46 } : Room) s m ([.ref aR] : List Value).toArray below meth c H locs 0 0 (MQ below (mk_QI (dC, dI) vwCl (tyz cI cZ cS) A (fun u : Int32 × Int32 × Int32 × Int32 × (Nat → Int32) × (Nat → Int32) => w_R cI cZ cS aR aRd aRm aRw aRs aRt aRc aRl aRh aRu aRx aRy aRk u.1 u.2.1 u.2.2.1 u.2.2.2.1 fp fs u.2.2.2.2.1 mm u.2.2.2.2.2 sg tb cs lw hg us de sa ky) R) ([.ref aR] : List Value).toArray s 0 0 A) (F0 m 31 ls []) := by
  intro H locs ls hP hD hS hl
  obtain ⟨⟨hx, hb, hml, hown, hts⟩, hrt, hlk, hN⟩ := id E
  have hown : s.vm.findClass RX5 = some m.cls := hown
  unfold p_R_commit_31 at h
  refine lv_iload hx hb dX5_commit_31 (lv_at hl 4 rfl) ?_
  refine lv_bipush (v := 16) hx hb dX5_commit_33 (by decide) ?_
  refine lv_icmp_ge (tgt := 80) hx hb dX5_commit_35 (by decide) (fun c_10 => ?_) (fun c_10 => ?_)
  · replace h := (kp_if h).1 c_10
    refine lv_iload_n hx hb dX5_commit_80 rfl (lv_at hl 2 rfl) ?_
    refine lv_if_le (tgt := 166) hx hb dX5_commit_81 (by decide) (fun c_11 => ?_) (fun c_11 => ?_)
    · replace h := (kp_if h).1 c_11
      exact b_R_commit_166 E hA hK R x3 of op cr wn dk wk h H locs ls hP hD hS (lv_sub hl [0, 3] rfl)
    · replace h := (kp_if h).2 c_11
      refine lv_iload_n hx hb dX5_commit_84 rfl (lv_at hl 3 rfl) ?_
      refine lv_if_eq (tgt := 101) hx hb dX5_commit_85 (by decide) (fun c_12 => ?_) (fun c_12 => ?_)
      · replace h := (kp_if h).1 c_12
        exact b_R_commit_101 E hA hK R x1 of op cr wn dk wk h H locs ls hP hD hS (lv_sub hl [0, 1] rfl)
      · replace h := (kp_if h).2 c_12
        refine lv_aload_n hx hb dX5_commit_88 rfl (lv_at hl 0 rfl) ?_
        refine lv_iload_n hx hb dX5_commit_89 rfl (lv_at hl 2 rfl) ?_
        refine lv_iload_n hx hb dX5_commit_90 rfl (lv_at hl 1 rfl) ?_
        obtain ⟨r_13, hr_13, h⟩ := kp_bind h
        refine mk_contI (w := w_R cI cZ cS aR aRd aRm aRw aRs aRt aRc aRl aRh aRu aRx aRy aRk of op cr wn fp fs dk mm wk sg tb cs lw hg us de sa ky) (w0 := w_R cI cZ cS aR aRd aRm aRw aRs aRt aRc aRl aRh aRu aRx aRy aRk of op cr wn fp fs dk mm wk sg tb cs lw hg us de sa ky) (wr := []) (w2 := w_R cI cZ cS aR aRd aRm aRw aRs aRt aRc aRl aRh aRu aRx aRy aRk r_13.2.1 op r_13.2.2.1 r_13.2.2.2.1 fp fs r_13.2.2.2.2.1 mm r_13.2.2.2.2.2 sg tb cs lw hg us de sa ky) hP hD hS hA [0, 1, 2, 3, 4, 5, 6, 7, 8, 9, 10, 11, 12] [] rfl rfl (by decide) (by decide) [0, 1, 2, 3, 4, 5, 6, 7, 8, 9, 10, 11, 12] rfl (by decide) (va_runV (As := [.int x2, .int x1]) (rest := []) ⟨hx, hb, hml, hown, hts⟩ (c_R_putHead l dC dI cI cZ cS aR aRd aRm aRw aRs aRt aRc aRl aRh aRu aRx aRy aRk of op cr wn fp fs dk mm wk sg tb cs lw hg us de sa ky x2 x1 r_13 hr_13 H.size) (cwV 2 hts gX5_commit_X5_putHead rfl rfl rfl (by decide +kernel) ⟨Nat.le_of_ble_eq_true rfl, Nat.le_of_ble_eq_true rfl⟩) (mk_preV (w0 := w_R cI cZ cS aR aRd aRm aRw aRs aRt aRc aRl aRh aRu aRx aRy aRk of op cr wn fp fs dk mm wk sg tb cs lw hg us de sa ky) (ci := 5) (q0 := 0) hN hK (mk_pick hP [0, 1, 2, 3, 4, 5, 6, 7, 8, 9, 10, 11, 12] rfl) (hD.sub [0, 1, 2, 3, 4, 5, 6, 7, 8, 9, 10, 11, 12] (by decide) rfl) rfl rfl rfl) rfl rfl hl.1 rfl (lv_room (Nat.le_of_ble_eq_true rfl)) dX5_commit_91 ⟨Nat.zero_le _, Nat.zero_le _⟩) (fun H locs hP hD hS => ?_)
        refine lv_if_eq (tgt := 101) hx hb dX5_commit_94 (by decide) (fun c_14 => ?_) (fun c_14 => ?_)
        · replace h := (kp_if h).1 c_14
          exact b_R_commit_101 E hA hK R x1 r_13.2.1 op r_13.2.2.1 r_13.2.2.2.1 r_13.2.2.2.2.1 r_13.2.2.2.2.2 h H locs ls hP hD hS (lv_sub hl [0, 1] rfl)
        · replace h := (kp_if h).2 c_14
          refine lv_iconst (v := 1) hx hb dX5_commit_97 (by decide) ?_
          refine lv_goto (tgt := 102) hx hb dX5_commit_98 (by decide) ?_
          exact b_R_commit_102 E hA hK R x1 1 r_13.2.1 op r_13.2.2.1 r_13.2.2.2.1 r_13.2.2.2.2.1 r_13.2.2.2.2.2 h H locs ls hP hD hS (lv_sub hl [0, 1] rfl)
  · replace h := (kp_if h).2 c_10
    refine lv_iload_n hx hb dX5_commit_38 rfl (lv_at hl 1 rfl) ?_
    refine lv_iload hx hb dX5_commit_39 (lv_at hl 4 rfl) ?_
    refine lv_ishr hx hb dX5_commit_41 ?_
    refine lv_iconst (v := 1) hx hb dX5_commit_42 (by decide) ?_
    refine lv_iand hx hb dX5_commit_43 ?_
    refine lv_iconst (v := 1) hx hb dX5_commit_44 (by decide) ?_
    refine lv_icmp_ne (tgt := 74) hx hb dX5_commit_45 (by decide) (fun c_15 => ?_) (fun c_15 => ?_)
    · replace h := (kp_if h).2 c_15
      exact b_R_commit_74 E hA hK R hk_31 x1 x2 x3 x4 of op cr wn dk wk h H locs ls hP hD hS (lv_sub hl [0, 1, 2, 3, 4] rfl)
    · replace h := (kp_if h).1 c_15
      refine lv_iload_n hx hb dX5_commit_48 rfl (lv_at hl 3 rfl) ?_
      refine lv_if_eq (tgt := 69) hx hb dX5_commit_49 (by decide) (fun c_16 => ?_) (fun c_16 => ?_)
      · replace h := (kp_if h).1 c_16
        exact b_R_commit_69 E hA hK R hk_31 x1 x2 x4 of op cr wn dk wk h H locs ls hP hD hS (lv_sub hl [0, 1, 2, 4] rfl)
      · replace h := (kp_if h).2 c_16
        refine lv_aload_n hx hb dX5_commit_52 rfl (lv_at hl 0 rfl) ?_
        refine lv_bipush (v := 17) hx hb dX5_commit_53 (by decide) ?_
        refine lv_iload_n hx hb dX5_commit_55 rfl (lv_at hl 2 rfl) ?_
        refine lv_iadd hx hb dX5_commit_56 ?_
        refine lv_iload hx hb dX5_commit_57 (lv_at hl 4 rfl) ?_
        obtain ⟨r_17, hr_17, h⟩ := kp_bind h
        refine mk_contI (w := w_R cI cZ cS aR aRd aRm aRw aRs aRt aRc aRl aRh aRu aRx aRy aRk of op cr wn fp fs dk mm wk sg tb cs lw hg us de sa ky) (w0 := w_R cI cZ cS aR aRd aRm aRw aRs aRt aRc aRl aRh aRu aRx aRy aRk of op cr wn fp fs dk mm wk sg tb cs lw hg us de sa ky) (wr := []) (w2 := w_R cI cZ cS aR aRd aRm aRw aRs aRt aRc aRl aRh aRu aRx aRy aRk r_17.2.1 op r_17.2.2.1 r_17.2.2.2.1 fp fs r_17.2.2.2.2.1 mm r_17.2.2.2.2.2 sg tb cs lw hg us de sa ky) hP hD hS hA [0, 1, 2, 3, 4, 5, 6, 7, 8, 9, 10, 11, 12] [] rfl rfl (by decide) (by decide) [0, 1, 2, 3, 4, 5, 6, 7, 8, 9, 10, 11, 12] rfl (by decide) (va_runV (As := [.int (17 + x2), .int x4]) (rest := []) ⟨hx, hb, hml, hown, hts⟩ (c_R_putFromDisk l dC dI cI cZ cS aR aRd aRm aRw aRs aRt aRc aRl aRh aRu aRx aRy aRk of op cr wn fp fs dk mm wk sg tb cs lw hg us de sa ky (17 + x2) x4 r_17 hr_17 H.size) (cwV 2 hts gX5_commit_X5_putFromDisk rfl rfl rfl (by decide +kernel) ⟨Nat.le_of_ble_eq_true rfl, Nat.le_of_ble_eq_true rfl⟩) (mk_preV (w0 := w_R cI cZ cS aR aRd aRm aRw aRs aRt aRc aRl aRh aRu aRx aRy aRk of op cr wn fp fs dk mm wk sg tb cs lw hg us de sa ky) (ci := 5) (q0 := 0) hN hK (mk_pick hP [0, 1, 2, 3, 4, 5, 6, 7, 8, 9, 10, 11, 12] rfl) (hD.sub [0, 1, 2, 3, 4, 5, 6, 7, 8, 9, 10, 11, 12] (by decide) rfl) rfl rfl rfl) rfl rfl hl.1 rfl (lv_room (Nat.le_of_ble_eq_true rfl)) dX5_commit_59 ⟨Nat.zero_le _, Nat.zero_le _⟩) (fun H locs hP hD hS => ?_)
        refine lv_if_eq (tgt := 69) hx hb dX5_commit_62 (by decide) (fun c_18 => ?_) (fun c_18 => ?_)
        · replace h := (kp_if h).1 c_18
          exact b_R_commit_69 E hA hK R hk_31 x1 x2 x4 r_17.2.1 op r_17.2.2.1 r_17.2.2.2.1 r_17.2.2.2.2.1 r_17.2.2.2.2.2 h H locs ls hP hD hS (lv_sub hl [0, 1, 2, 4] rfl)
        · replace h := (kp_if h).2 c_18
          refine lv_iconst (v := 1) hx hb dX5_commit_65 (by decide) ?_
          refine lv_goto (tgt := 70) hx hb dX5_commit_66 (by decide) ?_
          exact b_R_commit_70 E hA hK R hk_31 x1 x2 x4 1 r_17.2.1 op r_17.2.2.1 r_17.2.2.2.1 r_17.2.2.2.2.1 r_17.2.2.2.2.2 h H locs ls hP hD hS (lv_sub hl [0, 1, 2, 4] rfl)
set_option maxHeartbeats 4000000 in
set_option maxRecDepth 100000 in
theorem l_R_commit_31 {p : Program} {l : Launch} {e : Env} {s : State} {m : MethodId} {below : List Frame} {meth : Method} {c : Code} {A : Nat → Prop} {dC : Nat → ClassId} {dI : Nat → Nat → Nat} {cI cZ cS : ClassId} {aR aRd aRm aRw aRs aRt aRc aRl aRh aRu aRx aRy aRk : Nat} {fp : Int32} {fs : Int32} {mm : Nat → Int32} {sg : Nat → Int32} {tb : Nat → Int32} {cs : Nat → Int32} {lw : Nat → Int32} {hg : Nat → Int32} {us : Nat → Int32} {de : Nat → Int32} {sa : Nat → Int32} {ky : Nat → Int32} (E : mk_En p s m meth c cX5_commit 5 (some .int) ([.ref aR] : List Value).toArray wsX5_commit yX5_commit.cls) (hA : ∀ q : Nat, s.heap.size ≤ q → A q) (hK : va_K (dC, dI) vwCl (tyz cI cZ cS) s) (R : Int32 × Int32 × Int32 × Int32 × Int32 × (Nat → Int32) × (Nat → Int32)) : ∀ (n : Nat) (x1 : Int32) (x2 : Int32) (x3 : Int32) (x4 : Int32) (of : Int32) (op : Int32) (cr : Int32) (wn : Int32) (dk : Nat → Int32) (wk : Nat → Int32), pl_R_commit_31 mm n x1 x2 x3 x4 of op cr wn dk wk = some R → ∀ (H : Heap) (locs : List Loc) (ls : Array Slot), va_P (dC, dI) vwCl (w_R cI cZ cS aR aRd aRm aRw aRs aRt aRc aRl aRh aRu aRx aRy aRk of op cr wn fp fs dk mm wk sg tb cs lw hg us de sa ky) H → va_D A (w_R cI cZ cS aR aRd aRm aRw aRs aRt aRc aRl aRh aRu aRx aRy aRk of op cr wn fp fs dk mm wk sg tb cs lw hg us de sa ky) → va_S A s.heap H locs → lv_has ls 5 [(0, .ref aR), (1, .int x1), (2, .int x2), (3, .int x3), (4, .int x4)] → W p l e ({ frames := 2, cells := 0, slots := 0, locals := 46 } : Room) s m ([.ref aR] : List Value).toArray below meth c H locs 0 0 (MQ below (mk_QI (dC, dI) vwCl (tyz cI cZ cS) A (fun u : Int32 × Int32 × Int32 × Int32 × (Nat → Int32) × (Nat → Int32) => w_R cI cZ cS aR aRd aRm aRw aRs aRt aRc aRl aRh aRu aRx aRy aRk u.1 u.2.1 u.2.2.1 u.2.2.2.1 fp fs u.2.2.2.2.1 mm u.2.2.2.2.2 sg tb cs lw hg us de sa ky) R) ([.ref aR] : List Value).toArray s 0 0 A) (F0 m 31 ls []) := by
  intro n
  induction n with
  | zero =>
    intro x1 x2 x3 x4 of op cr wn dk wk h
    cases h
  | succ n ih =>
    intro x1 x2 x3 x4 of op cr wn dk wk h
    exact b_R_commit_31 E hA hK R ih x1 x2 x3 x4 of op cr wn dk wk h
set_option maxHeartbeats 4000000 in
set_option maxRecDepth 100000 in
theorem c_R_commit (l : Launch) (dC : Nat → ClassId) (dI : Nat → Nat → Nat) (cI cZ cS : ClassId) (aR aRd aRm aRw aRs aRt aRc aRl aRh aRu aRx aRy aRk : Nat) (of : Int32) (op : Int32) (cr : Int32) (wn : Int32) (fp : Int32) (fs : Int32) (dk : Nat → Int32) (mm : Nat → Int32) (wk : Nat → Int32) (sg : Nat → Int32) (tb : Nat → Int32) (cs : Nat → Int32) (lw : Nat → Int32) (hg : Nat → Int32) (us : Nat → Int32) (de : Nat → Int32) (sa : Nat → Int32) (ky : Nat → Int32) : CtI l yX5_commit wsX5_commit ({ frames := 2, cells := 0, slots := 0, locals := 46 }) (dC, dI) vwCl (tyz cI cZ cS) [.ref aR] (w_R cI cZ cS aR aRd aRm aRw aRs aRt aRc aRl aRh aRu aRx aRy aRk of op cr wn fp fs dk mm wk sg tb cs lw hg us de sa ky) (fun u : Int32 × Int32 × Int32 × Int32 × (Nat → Int32) × (Nat → Int32) => w_R cI cZ cS aR aRd aRm aRw aRs aRt aRc aRl aRh aRu aRx aRy aRk u.1 u.2.1 u.2.2.1 u.2.2.2.1 fp fs u.2.2.2.2.1 mm u.2.2.2.2.2 sg tb cs lw hg us de sa ky) (p_R_commit of op cr wn dk mm wk) := by
  intro R h
  refine mk_enter (Qc := (fun A => mk_QI (dC, dI) vwCl (tyz cI cZ cS) A (fun u : Int32 × Int32 × Int32 × Int32 × (Nat → Int32) × (Nat → Int32) => w_R cI cZ cS aR aRd aRm aRw aRs aRt aRc aRl aRh aRu aRx aRy aRk u.1 u.2.1 u.2.2.1 u.2.2.2.1 fp fs u.2.2.2.2.1 mm u.2.2.2.2.2 sg tb cs lw hg us de sa ky) R)) (by decide) rfl (Nat.le_of_ble_eq_true rfl) ?_
  intro p e s m below meth c A E hA hK H locs ls hP hD hS hl
  obtain ⟨⟨hx, hb, hml, hown, hts⟩, hrt, hlk, hN⟩ := id E
  have hown : s.vm.findClass RX5 = some m.cls := hown
  have hl : lv_has ls 5 [(0, .ref aR)] := hl
  unfold p_R_commit at h
  refine lv_aload_n hx hb dX5_commit_0 rfl (lv_at hl 0 rfl) ?_
  refine va_get (D := (dC, dI)) (ci := 5) (v := .int of) (C := RX5) (T := TX5) (N := 18) hx hb hts iw_R_commit_Model hown hK hP 0 rfl rfl 4 (by decide) (hts _ mm_R_commit_2) (fun _ h9 => h9) rfl dX5_commit_1 ?_
  refine lv_if_eq (tgt := 9) hx hb dX5_commit_4 (by decide) (fun c_19 => ?_) (fun c_19 => ?_)
  · replace h := (kp_if h).1 c_19
    refine lv_aload_n hx hb dX5_commit_9 rfl (lv_at hl 0 rfl) ?_
    refine va_get (D := (dC, dI)) (ci := 5) (v := .int op) (C := RX5) (T := TX5) (N := 18) hx hb hts iw_R_commit_Model hown hK hP 0 rfl rfl 5 (by decide) (hts _ mm_R_commit_0) (fun _ h9 => h9) rfl dX5_commit_10 ?_
    refine lv_if_ne (tgt := 19) hx hb dX5_commit_13 (by decide) (fun c_20 => ?_) (fun c_20 => ?_)
    · replace h := (kp_if h).2 c_20
      refine lv_aload_n hx hb dX5_commit_19 rfl (lv_at hl 0 rfl) ?_
      obtain ⟨r_21, hr_21, h⟩ := kp_bind h
      refine mk_contR (w := w_R cI cZ cS aR aRd aRm aRw aRs aRt aRc aRl aRh aRu aRx aRy aRk of op cr wn fp fs dk mm wk sg tb cs lw hg us de sa ky) (w0 := w_R cI cZ cS aR aRd aRm aRw aRs aRt aRc aRl aRh aRu aRx aRy aRk of op cr wn fp fs dk mm wk sg tb cs lw hg us de sa ky) (wr := []) hP hD hS hA [0, 1, 2, 3, 4, 5, 6, 7, 8, 9, 10, 11, 12] [] rfl rfl (by decide) (by decide) [0, 1, 2, 3, 4, 5, 6, 7, 8, 9, 10, 11, 12] rfl (by decide) (va_runV (As := []) (rest := []) ⟨hx, hb, hml, hown, hts⟩ (c_R_changed l dC dI cI cZ cS aR aRd aRm aRw aRs aRt aRc aRl aRh aRu aRx aRy aRk of op cr wn fp fs dk mm wk sg tb cs lw hg us de sa ky r_21 hr_21 H.size) (cwV 0 hts gX5_commit_X5_changed rfl rfl rfl (by decide +kernel) ⟨Nat.le_of_ble_eq_true rfl, Nat.le_of_ble_eq_true rfl⟩) (mk_preV (w0 := w_R cI cZ cS aR aRd aRm aRw aRs aRt aRc aRl aRh aRu aRx aRy aRk of op cr wn fp fs dk mm wk sg tb cs lw hg us de sa ky) (ci := 5) (q0 := 0) hN hK (mk_pick hP [0, 1, 2, 3, 4, 5, 6, 7, 8, 9, 10, 11, 12] rfl) (hD.sub [0, 1, 2, 3, 4, 5, 6, 7, 8, 9, 10, 11, 12] (by decide) rfl) rfl rfl rfl) rfl rfl hl.1 rfl (lv_room (Nat.le_of_ble_eq_true rfl)) dX5_commit_20 ⟨Nat.zero_le _, Nat.zero_le _⟩) (fun H locs hP hD hS => ?_)
      refine lv_istore_n (lv' := [(1, .int r_21), (0, .ref aR)]) hx hb dX5_commit_23 rfl hl (by decide) rfl (fun ls hl => ?_)
      refine lv_iconst (v := 0) hx hb dX5_commit_24 (by decide) ?_
      refine lv_istore_n (lv' := [(2, .int 0), (1, .int r_21), (0, .ref aR)]) hx hb dX5_commit_25 rfl hl (by decide) rfl (fun ls hl => ?_)
      refine lv_iconst (v := 1) hx hb dX5_commit_26 (by decide) ?_
      refine lv_istore_n (lv' := [(3, .int 1), (2, .int 0), (1, .int r_21), (0, .ref aR)]) hx hb dX5_commit_27 rfl hl (by decide) rfl (fun ls hl => ?_)
      refine lv_iconst (v := 0) hx hb dX5_commit_28 (by decide) ?_
      refine lv_istore (lv' := [(4, .int 0), (3, .int 1), (2, .int 0), (1, .int r_21), (0, .ref aR)]) hx hb dX5_commit_29 hl (by decide) rfl (fun ls hl => ?_)
      exact l_R_commit_31 E hA hK R 1000 r_21 0 1 0 of op cr wn dk wk h H locs ls hP hD hS (lv_sub hl [4, 3, 2, 1, 0] rfl)
    · replace h := (kp_if h).1 c_20
      refine lv_bipush (v := (-2)) hx hb dX5_commit_16 (by decide) ?_
      cases h
      exact mk_iret E hK hP hD hS dX5_commit_18
  · replace h := (kp_if h).2 c_19
    refine lv_iconst (v := (-1)) hx hb dX5_commit_7 (by decide) ?_
    cases h
    exact mk_iret E hK hP hD hS dX5_commit_8

/- Model.isHead()Z -/
set_option maxRecDepth 20000 in
theorem mm_R_isHead_0 : Cond.fieldLink RX5 7 "JournaledTablesModel" "disk" "[I" ∈ wsX5_isHead := by decide +kernel
set_option maxRecDepth 20000 in
theorem iw_R_isHead_Model : ∀ w ∈ u_ws RX5 TX5 18, w ∈ wsX5_isHead := by decide +kernel
set_option maxRecDepth 20000 in
theorem mm_R_isHead_2 : Cond.constant RX5 83 65536 ∈ wsX5_isHead := by decide +kernel
set_option maxHeartbeats 4000000 in
set_option maxRecDepth 100000 in
theorem b_R_isHead_141 {p : Program} {l : Launch} {e : Env} {s : State} {m : MethodId} {below : List Frame} {meth : Method} {c : Code} {A : Nat → Prop} {dC : Nat → ClassId} {dI : Nat → Nat → Nat} {cI cZ cS : ClassId} {aR aRd aRm aRw aRs aRt aRc aRl aRh aRu aRx aRy aRk : Nat} {of : Int32} {op : Int32} {cr : Int32} {wn : Int32} {fp : Int32} {fs : Int32} {dk : Nat → Int32} {mm : Nat → Int32} {wk : Nat → Int32} {sg : Nat → Int32} {tb : Nat → Int32} {cs : Nat → Int32} {lw : Nat → Int32} {hg : Nat → Int32} {us : Nat → Int32} {de : Nat → Int32} {sa : Nat → Int32} {ky : Nat → Int32} (E : mk_En p s m meth c cX5_isHead 4 (some .boolean) ([.ref aR] : List Value).toArray wsX5_isHead yX5_isHead.cls) (hA : ∀ q : Nat, s.heap.size ≤ q → A q) (hK : va_K (dC, dI) vwCl (tyz cI cZ cS) s) (R : Int32) (z0 : Int32) (h : p_R_isHead_141 dk z0 = some R) : ∀ (H : Heap) (locs : List Loc) (ls : Array Slot), va_P (dC, dI) vwCl (w_R cI cZ cS aR aRd aRm aRw aRs aRt aRc aRl aRh aRu aRx aRy aRk of op cr wn fp fs dk mm wk sg tb cs lw hg us de sa ky) H → va_D A (w_R cI cZ cS aR aRd aRm aRw aRs aRt aRc aRl aRh aRu aRx aRy aRk of op cr wn fp fs dk mm wk sg tb cs lw hg us de sa ky) → va_S A s.heap H locs → lv_has ls 4 [] → W p l e ({ frames := 1, cells := 0, slots := 0, locals := 23 } : Room) s m ([.ref aR] : List Value).toArray below meth c H locs 0 0 (MQ below (mk_QR (dC, dI) vwCl (tyz cI cZ cS) A (w_R cI cZ cS aR aRd aRm aRw aRs aRt aRc aRl aRh aRu aRx aRy aRk of op cr wn fp fs dk mm wk sg tb cs lw hg us de sa ky) R) ([.ref aR] : List Value).toArray s 0 0 A) (F0 m 141 ls [.int z0]) := by
  intro H locs ls hP hD hS hl
  obtain ⟨⟨hx, hb, hml, hown, hts⟩, hrt, hlk, hN⟩ := id E
  have hown : s.vm.findClass RX5 = some m.cls := hown
  unfold p_R_isHead_141 at h
  obtain ⟨hc_1, h⟩ := kp_in h
  cases h
  exact mk_zretR E hc_1 hK hP hD hS dX5_isHead_141
set_option maxHeartbeats 4000000 in
set_option maxRecDepth 100000 in
theorem b_R_isHead_140 {p : Program} {l : Launch} {e : Env} {s : State} {m : MethodId} {below : List Frame} {meth : Method} {c : Code} {A : Nat → Prop} {dC : Nat → ClassId} {dI : Nat → Nat → Nat} {cI cZ cS : ClassId} {aR aRd aRm aRw aRs aRt aRc aRl aRh aRu aRx aRy aRk : Nat} {of : Int32} {op : Int32} {cr : Int32} {wn : Int32} {fp : Int32} {fs : Int32} {dk : Nat → Int32} {mm : Nat → Int32} {wk : Nat → Int32} {sg : Nat → Int32} {tb : Nat → Int32} {cs : Nat → Int32} {lw : Nat → Int32} {hg : Nat → Int32} {us : Nat → Int32} {de : Nat → Int32} {sa : Nat → Int32} {ky : Nat → Int32} (E : mk_En p s m meth c cX5_isHead 4 (some .boolean) ([.ref aR] : List Value).toArray wsX5_isHead yX5_isHead.cls) (hA : ∀ q : Nat, s.heap.size ≤ q → A q) (hK : va_K (dC, dI) vwCl (tyz cI cZ cS) s) (R : Int32) (h : p_R_isHead_140 dk = some R) : ∀ (H : Heap) (locs : List Loc) (ls : Array Slot), va_P (dC, dI) vwCl (w_R cI cZ cS aR aRd aRm aRw aRs aRt aRc aRl aRh aRu aRx aRy aRk of op cr wn fp fs dk mm wk sg tb cs lw hg us de sa ky) H → va_D A (w_R cI cZ cS aR aRd aRm aRw aRs aRt aRc aRl aRh aRu aRx aRy aRk of op cr wn fp fs dk mm wk sg tb cs lw hg us de sa ky) → va_S A s.heap H locs → lv_has ls 4 [] → W p l e ({ frames := 1, cells := 0, slots := 0, locals := 23 } : Room) s m ([.ref aR] : List Value).toArray below meth c H locs 0 0 (MQ below (mk_QR (dC, dI) vwCl (tyz cI cZ cS) A (w_R cI cZ cS aR aRd aRm aRw aRs aRt aRc aRl aRh aRu aRx aRy aRk of op cr wn fp fs dk mm wk sg tb cs lw hg us de sa ky) R) ([.ref aR] : List Value).toArray s 0 0 A) (F0 m 140 ls []) := by
  intro H locs ls hP hD hS hl
  obtain ⟨⟨hx, hb, hml, hown, hts⟩, hrt, hlk, hN⟩ := id E
  have hown : s.vm.findClass RX5 = some m.cls := hown
  unfold p_R_isHead_140 at h
  refine lv_iconst (v := 0) hx hb dX5_isHead_140 (by decide) ?_
  exact b_R_isHead_141 E hA hK R 0 h H locs ls hP hD hS (lv_sub hl [] rfl)
set_option maxHeartbeats 4000000 in
set_option maxRecDepth 100000 in
theorem b_R_isHead_109 {p : Program} {l : Launch} {e : Env} {s : State} {m : MethodId} {below : List Frame} {meth : Method} {c : Code} {A : Nat → Prop} {dC : Nat → ClassId} {dI : Nat → Nat → Nat} {cI cZ cS : ClassId} {aR aRd aRm aRw aRs aRt aRc aRl aRh aRu aRx aRy aRk : Nat} {of : Int32} {op : Int32} {cr : Int32} {wn : Int32} {fp : Int32} {fs : Int32} {dk : Nat → Int32} {mm : Nat → Int32} {wk : Nat → Int32} {sg : Nat → Int32} {tb : Nat → Int32} {cs : Nat → Int32} {lw : Nat → Int32} {hg : Nat → Int32} {us : Nat → Int32} {de : Nat → Int32} {sa : Nat → Int32} {ky : Nat → Int32} (E : mk_En p s m meth c cX5_isHead 4 (some .boolean) ([.ref aR] : List Value).toArray wsX5_isHead yX5_isHead.cls) (hA : ∀ q : Nat, s.heap.size ≤ q → A q) (hK : va_K (dC, dI) vwCl (tyz cI cZ cS) s) (R : Int32) {k_81 : Int32 → Int32 → Int32 → Option Int32} (hk_81 : ∀ (x1 : Int32) (x2 : Int32) (x3 : Int32), k_81 x1 x2 x3 = some R → ∀ (H : Heap) (locs : List Loc) (ls : Array Slot), va_P (dC, dI) vwCl (w_R cI cZ cS aR aRd aRm aRw aRs aRt aRc aRl aRh aRu aRx aRy aRk of op cr wn fp fs dk mm wk sg tb cs lw hg us de sa ky) H → va_D A (w_R cI cZ cS aR aRd aRm aRw aRs aRt aRc aRl aRh aRu aRx aRy aRk of op cr wn fp fs dk mm wk sg tb cs lw hg us de sa ky) → va_S A s.heap H locs → lv_has ls 4 [(0, .ref aR), (1, .int x1), (2, .int x2), (3, .int x3)] → W p l e ({ frames := 1, cells := 0, slots := 0, locals := 23 } : Room) s m ([.ref aR] : List Value).toArray below meth c H locs 0 0 (MQ below (mk_QR (dC, dI) vwCl (tyz cI cZ cS) A (w_R cI cZ cS aR aRd aRm aRw aRs aRt aRc aRl aRh aRu aRx aRy aRk of op cr wn fp fs dk mm wk sg tb cs lw hg us de sa ky) R) ([.ref aR] : List Value).toArray s 0 0 A) (F0 m 81 ls [])) (x1 : Int32) (x3 : Int32) (z0 : Int32) (h : p_R_isHead_109 dk k_81 x1 x3 z0 = some R) : ∀ (H : Heap) (locs : List Loc) (ls : Array Slot), va_P (dC, dI) vwCl (w_R cI cZ cS aR aRd aRm aRw aRs aRt aRc aRl aRh aRu aRx aRy aRk of op cr wn fp fs dk mm wk sg tb cs lw hg us de sa ky) H → va_D A (w_R cI cZ cS aR aRd aRm aRw aRs aRt aRc aRl aRh aRu aRx aRy aRk of op cr wn fp fs dk mm wk sg tb cs lw hg us de sa ky) → va_S A s.heap H locs → lv_has ls 4 [(0, .ref aR), (1, .int x1), (3, .int x3)] → W p l e ({ frames := 1, cells := 0, slots := 0, locals := 23 } : Room) s m ([.ref aR] : List Value).toArray below meth c H locs 0 0 (MQ below (mk_QR (dC, dI) vwCl (tyz cI cZ cS) A (w_R cI cZ cS aR aRd aRm aRw aRs aRt aRc aRl aRh aRu aRx aRy aRk of op cr wn fp fs dk mm wk sg tb cs lw hg us de sa ky) R) ([.ref aR] : List Value).toArray s 0 0 A) (F0 m 109 ls [.int z0]) := by
  intro H locs ls hP hD hS hl
  obtain ⟨⟨hx, hb, hml, hown, hts⟩, hrt, hlk, hN⟩ := id E
  have hown : s.vm.findClass RX5 = some m.cls := hown
  unfold p_R_isHead_109 at h
  refine lv_istore_n (lv' := [(2, .int z0), (0, .ref aR), (1, .int x1), (3, .int x3)]) hx hb dX5_isHead_109 rfl hl (by decide) rfl (fun ls hl => ?_)
  refine lv_iinc (v := x3 + 1) (lv' := [(3, .int (x3 + 1)), (2, .int z0), (0, .ref aR), (1, .int x1)]) hx hb dX5_isHead_110 hl (k := 3) rfl rfl (by decide) rfl (fun ls hl => ?_)
  refine lv_goto (tgt := 81) hx hb dX5_isHead_113 (by decide) ?_
  exact hk_81 x1 z0 (x3 + 1) h H locs ls hP hD hS (lv_sub hl [2, 3, 1, 0] rfl)
set_option maxHeartbeats 4000000 in
set_option maxRecDepth 100000 in
theorem b_R_isHead_108 {p : Program} {l : Launch} {e : Env} {s : State} {m : MethodId} {below : List Frame} {meth : Method} {c : Code} {A : Nat → Prop} {dC : Nat → ClassId} {dI : Nat → Nat → Nat} {cI cZ cS : ClassId} {aR aRd aRm aRw aRs aRt aRc aRl aRh aRu aRx aRy aRk : Nat} {of : Int32} {op : Int32} {cr : Int32} {wn : Int32} {fp : Int32} {fs : Int32} {dk : Nat → Int32} {mm : Nat → Int32} {wk : Nat → Int32} {sg : Nat → Int32} {tb : Nat → Int32} {cs : Nat → Int32} {lw : Nat → Int32} {hg : Nat → Int32} {us : Nat → Int32} {de : Nat → Int32} {sa : Nat → Int32} {ky : Nat → Int32} (E : mk_En p s m meth c cX5_isHead 4 (some .boolean) ([.ref aR] : List Value).toArray wsX5_isHead yX5_isHead.cls) (hA : ∀ q : Nat, s.heap.size ≤ q → A q) (hK : va_K (dC, dI) vwCl (tyz cI cZ cS) s) (R : Int32) {k_81 : Int32 → Int32 → Int32 → Option Int32} (hk_81 : ∀ (x1 : Int32) (x2 : Int32) (x3 : Int32), k_81 x1 x2 x3 = some R → ∀ (H : Heap) (locs : List Loc) (ls : Array Slot), va_P (dC, dI) vwCl (w_R cI cZ cS aR aRd aRm aRw aRs aRt aRc aRl aRh aRu aRx aRy aRk of op cr wn fp fs dk mm wk sg tb cs lw hg us de sa ky) H → va_D A (w_R cI cZ cS aR aRd aRm aRw aRs aRt aRc aRl aRh aRu aRx aRy aRk of op cr wn fp fs dk mm wk sg tb cs lw hg us de sa ky) → va_S A s.heap H locs → lv_has ls 4 [(0, .ref aR), (1, .int x1), (2, .int x2), (3, .int x3)] → W p l e ({ frames := 1, cells := 0, slots := 0, locals := 23 } : Room) s m ([.ref aR] : List Value).toArray below meth c H locs 0 0 (MQ below (mk_QR (dC, dI) vwCl (tyz cI cZ cS) A (w_R cI cZ cS aR aRd aRm aRw aRs aRt aRc aRl aRh aRu aRx aRy aRk of op cr wn fp fs dk mm wk sg tb cs lw hg us de sa ky) R) ([.ref aR] : List Value).toArray s 0 0 A) (F0 m 81 ls [])) (x1 : Int32) (x3 : Int32) (h : p_R_isHead_108 dk k_81 x1 x3 = some R) : ∀ (H : Heap) (locs : List Loc) (ls : Array Slot), va_P (dC, dI) vwCl (w_R cI cZ cS aR aRd aRm aRw aRs aRt aRc aRl aRh aRu aRx aRy aRk of op cr wn fp fs dk mm wk sg tb cs lw hg us de sa ky) H → va_D A (w_R cI cZ cS aR aRd aRm aRw aRs aRt aRc aRl aRh aRu aRx aRy aRk of op cr wn fp fs dk mm wk sg tb cs lw hg us de sa ky) → va_S A s.heap H locs → lv_has ls 4 [(0, .ref aR), (1, .int x1), (3, .int x3)] → W p l e ({ frames := 1, cells := 0, slots := 0, locals := 23 } : Room) s m ([.ref aR] : List Value).toArray below meth c H locs 0 0 (MQ below (mk_QR (dC, dI) vwCl (tyz cI cZ cS) A (w_R cI cZ cS aR aRd aRm aRw aRs aRt aRc aRl aRh aRu aRx aRy aRk of op cr wn fp fs dk mm wk sg tb cs lw hg us de sa ky) R) ([.ref aR] : List Value).toArray s 0 0 A) (F0 m 108 ls []) := by
  intro H locs ls hP hD hS hl
  obtain ⟨⟨hx, hb, hml, hown, hts⟩, hrt, hlk, hN⟩ := id E
  have hown : s.vm.findClass RX5 = some m.cls := hown
  unfold p_R_isHead_108 at h
  refine lv_iconst (v := 0) hx hb dX5_isHead_108 (by decide) ?_
  exact b_R_isHead_109 E hA hK R hk_81 x1 x3 0 h H locs ls hP hD hS (lv_sub hl [0, 1, 2] rfl)
set_option maxHeartbeats 4000000 in
set_option maxRecDepth 100000 in
theorem b_R_isHead_81 {p : Program} {l : Launch} {e : Env} {s : State} {m : MethodId} {below : List Frame} {meth : Method} {c : Code} {A : Nat → Prop} {dC : Nat → ClassId} {dI : Nat → Nat → Nat} {cI cZ cS : ClassId} {aR aRd aRm aRw aRs aRt aRc aRl aRh aRu aRx aRy aRk : Nat} {of : Int32} {op : Int32} {cr : Int32} {wn : Int32} {fp : Int32} {fs : Int32} {dk : Nat → Int32} {mm : Nat → Int32} {wk : Nat → Int32} {sg : Nat → Int32} {tb : Nat → Int32} {cs : Nat → Int32} {lw : Nat → Int32} {hg : Nat → Int32} {us : Nat → Int32} {de : Nat → Int32} {sa : Nat → Int32} {ky : Nat → Int32} (E : mk_En p s m meth c cX5_isHead 4 (some .boolean) ([.ref aR] : List Value).toArray wsX5_isHead yX5_isHead.cls) (hA : ∀ q : Nat, s.heap.size ≤ q → A q) (hK : va_K (dC, dI) vwCl (tyz cI cZ cS) s) (R : Int32) {k_81 : Int32 → Int32 → Int32 → Option Int32} (hk_81 : ∀ (x1 : Int32) (x2 : Int32) (x3 : Int32), k_81 x1 x2 x3 = some R → ∀ (H : Heap) (locs : List Loc) (ls : Array Slot), va_P (dC, dI) vwCl (w_R cI cZ cS aR aRd aRm aRw aRs aRt aRc aRl aRh aRu aRx aRy aRk of op cr wn fp fs dk mm wk sg tb cs lw hg us de sa ky) H → va_D A (w_R cI cZ cS aR aRd aRm aRw aRs aRt aRc aRl aRh aRu aRx aRy aRk of op cr wn fp fs dk mm wk sg tb cs lw hg us de sa ky) → va_S A s.heap H locs → lv_has ls 4 [(0, .ref aR), (1, .int x1), (2, .int x2), (3, .int x3)] → W p l e ({ frames := 1, cells := 0, slots := 0, locals := 23 } : Room) s m ([.ref aR] : List Value).toArray below meth c H locs 0 0 (MQ below (mk_QR (dC, dI) vwCl (tyz cI cZ cS) A (w_R cI cZ cS aR aRd aRm aRw aRs aRt aRc aRl aRh aRu aRx aRy aRk of op cr wn fp fs dk mm wk sg tb cs lw hg us de sa ky) R) ([.ref aR] : List Value).toArray s 0 0 A) (F0 m 81 ls [])) (x1 : Int32) (x2 : Int32) (x3 : Int32) (h : p_R_isHead_81 dk k_81 x1 x2 x3 = some R) : ∀ (H : Heap) (locs : List Loc) (ls : Array Slot), va_P (dC, dI) vwCl (w_R cI cZ cS aR aRd aRm aRw aRs aRt aRc aRl aRh aRu aRx aRy aRk of op cr wn fp fs dk mm wk sg tb cs lw hg us de sa ky) H → va_D A (w_R cI cZ cS aR aRd aRm aRw aRs aRt aRc aRl aRh aRu aRx aRy aRk of op cr wn fp fs dk mm wk sg tb cs lw hg us de sa ky) → va_S A s.heap H locs → lv_has ls 4 [(0, .ref aR), (1, .int x1), (2, .int x2), (3, .int x3)] → W p l e ({ frames := 1, cells := 0, slots := 0, locals := 23 } : Room) s m ([.ref aR] : List Value).toArray below meth c H locs 0 0 (MQ below (mk_QR (dC, dI) vwCl (tyz cI cZ cS) A (w_R cI cZ cS aR aRd aRm aRw aRs aRt aRc aRl aRh aRu aRx aRy aRk of op cr wn fp fs dk mm wk sg tb cs lw hg us de sa ky) R) ([.ref aR] : List Value).toArray s 0 0 A) (F0 m 81 ls []) := by
  intro H locs ls hP hD hS hl
  obtain ⟨⟨hx, hb, hml, hown, hts⟩, hrt, hlk, hN⟩ := id E
  have hown : s.vm.findClass RX5 = some m.cls := hown
  unfold p_R_isHead_81 at h
  refine lv_iload_n hx hb dX5_isHead_81 rfl (lv_at hl 3 rfl) ?_
  refine lv_bipush (v := 16) hx hb dX5_isHead_82 (by decide) ?_
  refine lv_icmp_ge (tgt := 116) hx hb dX5_isHead_84 (by decide) (fun c_2 => ?_) (fun c_2 => ?_)
  · replace h := (kp_if h).1 c_2
    refine lv_iload_n hx hb dX5_isHead_116 rfl (lv_at hl 2 rfl) ?_
    refine lv_if_eq (tgt := 140) hx hb dX5_isHead_117 (by decide) (fun c_3 => ?_) (fun c_3 => ?_)
    · replace h := (kp_if h).1 c_3
      exact b_R_isHead_140 E hA hK R h H locs ls hP hD hS (lv_sub hl [] rfl)
    · replace h := (kp_if h).2 c_3
      refine lv_aload_n hx hb dX5_isHead_120 rfl (lv_at hl 0 rfl) ?_
      refine va_get (D := (dC, dI)) (ci := 5) (v := .ref aRd) (C := RX5) (T := TX5) (N := 18) hx hb hts iw_R_isHead_Model hown hK hP 0 rfl rfl 0 (by decide) (hts _ mm_R_isHead_0) (fun _ h9 => h9) rfl dX5_isHead_121 ?_
      refine lv_sipush (v := 259) hx hb dX5_isHead_124 (by decide) ?_
      obtain ⟨hc_4, h⟩ := kp_in h
      refine va_iald hx hb hK hP 1 0 rfl rfl (kx_of hc_4) dX5_isHead_127 ?_
      refine lv_aload_n hx hb dX5_isHead_128 rfl (lv_at hl 0 rfl) ?_
      refine lv_iload_n hx hb dX5_isHead_129 rfl (lv_at hl 1 rfl) ?_
      obtain ⟨r_5, hr_5, h⟩ := kp_bind h
      refine mk_contR (w := w_R cI cZ cS aR aRd aRm aRw aRs aRt aRc aRl aRh aRu aRx aRy aRk of op cr wn fp fs dk mm wk sg tb cs lw hg us de sa ky) (w0 := w_R cI cZ cS aR aRd aRm aRw aRs aRt aRc aRl aRh aRu aRx aRy aRk of op cr wn fp fs dk mm wk sg tb cs lw hg us de sa ky) (wr := []) hP hD hS hA [0, 1, 2, 3, 4, 5, 6, 7, 8, 9, 10, 11, 12] [] rfl rfl (by decide) (by decide) [0, 1, 2, 3, 4, 5, 6, 7, 8, 9, 10, 11, 12] rfl (by decide) (va_runV (As := [.int x1]) (rest := [.int (dk (259 : Int32).toNatClampNeg)]) ⟨hx, hb, hml, hown, hts⟩ (c_R_check l dC dI cI cZ cS aR aRd aRm aRw aRs aRt aRc aRl aRh aRu aRx aRy aRk of op cr wn fp fs dk mm wk sg tb cs lw hg us de sa ky x1 r_5 hr_5 H.size) (cwV 1 hts gX5_isHead_X5_check rfl rfl rfl (by decide +kernel) ⟨Nat.le_of_ble_eq_true rfl, Nat.le_of_ble_eq_true rfl⟩) (mk_preV (w0 := w_R cI cZ cS aR aRd aRm aRw aRs aRt aRc aRl aRh aRu aRx aRy aRk of op cr wn fp fs dk mm wk sg tb cs lw hg us de sa ky) (ci := 5) (q0 := 0) hN hK (mk_pick hP [0, 1, 2, 3, 4, 5, 6, 7, 8, 9, 10, 11, 12] rfl) (hD.sub [0, 1, 2, 3, 4, 5, 6, 7, 8, 9, 10, 11, 12] (by decide) rfl) rfl rfl rfl) rfl rfl hl.1 rfl (lv_room (Nat.le_of_ble_eq_true rfl)) dX5_isHead_130 ⟨Nat.zero_le _, Nat.zero_le _⟩) (fun H locs hP hD hS => ?_)
      refine lv_icmp_ne (tgt := 140) hx hb dX5_isHead_133 (by decide) (fun c_6 => ?_) (fun c_6 => ?_)
      · replace h := (kp_if h).2 c_6
        exact b_R_isHead_140 E hA hK R h H locs ls hP hD hS (lv_sub hl [] rfl)
      · replace h := (kp_if h).1 c_6
        refine lv_iconst (v := 1) hx hb dX5_isHead_136 (by decide) ?_
        refine lv_goto (tgt := 141) hx hb dX5_isHead_137 (by decide) ?_
        exact b_R_isHead_141 E hA hK R 1 h H locs ls hP hD hS (lv_sub hl [] rfl)
  · replace h := (kp_if h).2 c_2
    refine lv_iload_n hx hb dX5_isHead_87 rfl (lv_at hl 2 rfl) ?_
    refine lv_if_eq (tgt := 108) hx hb dX5_isHead_88 (by decide) (fun c_7 => ?_) (fun c_7 => ?_)
    · replace h := (kp_if h).1 c_7
      exact b_R_isHead_108 E hA hK R hk_81 x1 x3 h H locs ls hP hD hS (lv_sub hl [0, 1, 3] rfl)
    · replace h := (kp_if h).2 c_7
      refine lv_aload_n hx hb dX5_isHead_91 rfl (lv_at hl 0 rfl) ?_
      refine va_get (D := (dC, dI)) (ci := 5) (v := .ref aRd) (C := RX5) (T := TX5) (N := 18) hx hb hts iw_R_isHead_Model hown hK hP 0 rfl rfl 0 (by decide) (hts _ mm_R_isHead_0) (fun _ h9 => h9) rfl dX5_isHead_92 ?_
      refine lv_sipush (v := 256) hx hb dX5_isHead_95 (by decide) ?_
      refine lv_iload_n hx hb dX5_isHead_98 rfl (lv_at hl 3 rfl) ?_
      refine lv_iadd hx hb dX5_isHead_99 ?_
      obtain ⟨hc_8, h⟩ := kp_in h
      refine va_iald hx hb hK hP 1 0 rfl rfl (kx_of hc_8) dX5_isHead_100 ?_
      refine lv_if_ne (tgt := 108) hx hb dX5_isHead_101 (by decide) (fun c_9 => ?_) (fun c_9 => ?_)
      · replace h := (kp_if h).2 c_9
        exact b_R_isHead_108 E hA hK R hk_81 x1 x3 h H locs ls hP hD hS (lv_sub hl [0, 1, 3] rfl)
      · replace h := (kp_if h).1 c_9
        refine lv_iconst (v := 1) hx hb dX5_isHead_104 (by decide) ?_
        refine lv_goto (tgt := 109) hx hb dX5_isHead_105 (by decide) ?_
        exact b_R_isHead_109 E hA hK R hk_81 x1 x3 1 h H locs ls hP hD hS (lv_sub hl [0, 1, 3] rfl)
set_option maxHeartbeats 4000000 in
set_option maxRecDepth 100000 in
theorem l_R_isHead_81 {p : Program} {l : Launch} {e : Env} {s : State} {m : MethodId} {below : List Frame} {meth : Method} {c : Code} {A : Nat → Prop} {dC : Nat → ClassId} {dI : Nat → Nat → Nat} {cI cZ cS : ClassId} {aR aRd aRm aRw aRs aRt aRc aRl aRh aRu aRx aRy aRk : Nat} {of : Int32} {op : Int32} {cr : Int32} {wn : Int32} {fp : Int32} {fs : Int32} {dk : Nat → Int32} {mm : Nat → Int32} {wk : Nat → Int32} {sg : Nat → Int32} {tb : Nat → Int32} {cs : Nat → Int32} {lw : Nat → Int32} {hg : Nat → Int32} {us : Nat → Int32} {de : Nat → Int32} {sa : Nat → Int32} {ky : Nat → Int32} (E : mk_En p s m meth c cX5_isHead 4 (some .boolean) ([.ref aR] : List Value).toArray wsX5_isHead yX5_isHead.cls) (hA : ∀ q : Nat, s.heap.size ≤ q → A q) (hK : va_K (dC, dI) vwCl (tyz cI cZ cS) s) (R : Int32) : ∀ (n : Nat) (x1 : Int32) (x2 : Int32) (x3 : Int32), pl_R_isHead_81 dk n x1 x2 x3 = some R → ∀ (H : Heap) (locs : List Loc) (ls : Array Slot), va_P (dC, dI) vwCl (w_R cI cZ cS aR aRd aRm aRw aRs aRt aRc aRl aRh aRu aRx aRy aRk of op cr wn fp fs dk mm wk sg tb cs lw hg us de sa ky) H → va_D A (w_R cI cZ cS aR aRd aRm aRw aRs aRt aRc aRl aRh aRu aRx aRy aRk of op cr wn fp fs dk mm wk sg tb cs lw hg us de sa ky) → va_S A s.heap H locs → lv_has ls 4 [(0, .ref aR), (1, .int x1), (2, .int x2), (3, .int x3)] → W p l e ({ frames := 1, cells := 0, slots := 0, locals := 23 } : Room) s m ([.ref aR] : List Value).toArray below meth c H locs 0 0 (MQ below (mk_QR (dC, dI) vwCl (tyz cI cZ cS) A (w_R cI cZ cS aR aRd aRm aRw aRs aRt aRc aRl aRh aRu aRx aRy aRk of op cr wn fp fs dk mm wk sg tb cs lw hg us de sa ky) R) ([.ref aR] : List Value).toArray s 0 0 A) (F0 m 81 ls []) := by
  intro n
  induction n with
  | zero =>
    intro x1 x2 x3 h
    cases h
  | succ n ih =>
    intro x1 x2 x3 h
    exact b_R_isHead_81 E hA hK R ih x1 x2 x3 h
set_option maxHeartbeats 4000000 in
set_option maxRecDepth 100000 in
theorem b_R_isHead_78 {p : Program} {l : Launch} {e : Env} {s : State} {m : MethodId} {below : List Frame} {meth : Method} {c : Code} {A : Nat → Prop} {dC : Nat → ClassId} {dI : Nat → Nat → Nat} {cI cZ cS : ClassId} {aR aRd aRm aRw aRs aRt aRc aRl aRh aRu aRx aRy aRk : Nat} {of : Int32} {op : Int32} {cr : Int32} {wn : Int32} {fp : Int32} {fs : Int32} {dk : Nat → Int32} {mm : Nat → Int32} {wk : Nat → Int32} {sg : Nat → Int32} {tb : Nat → Int32} {cs : Nat → Int32} {lw : Nat → Int32} {hg : Nat → Int32} {us : Nat → Int32} {de : Nat → Int32} {sa : Nat → Int32} {ky : Nat → Int32} (E : mk_En p s m meth c cX5_isHead 4 (some .boolean) ([.ref aR] : List Value).toArray wsX5_isHead yX5_isHead.cls) (hA : ∀ q : Nat, s.heap.size ≤ q → A q) (hK : va_K (dC, dI) vwCl (tyz cI cZ cS) s) (R : Int32) (x1 : Int32) (z0 : Int32) (h : p_R_isHead_78 dk x1 z0 = some R) : ∀ (H : Heap) (locs : List Loc) (ls : Array Slot), va_P (dC, dI) vwCl (w_R cI cZ cS aR aRd aRm aRw aRs aRt aRc aRl aRh aRu aRx aRy aRk of op cr wn fp fs dk mm wk sg tb cs lw hg us de sa ky) H → va_D A (w_R cI cZ cS aR aRd aRm aRw aRs aRt aRc aRl aRh aRu aRx aRy aRk of op cr wn fp fs dk mm wk sg tb cs lw hg us de sa ky) → va_S A s.heap H locs → lv_has ls 4 [(0, .ref aR), (1, .int x1)] → W p l e ({ frames := 1, cells := 0, slots := 0, locals := 23 } : Room) s m ([.ref aR] : List Value).toArray below meth c H locs 0 0 (MQ below (mk_QR (dC, dI) vwCl (tyz cI cZ cS) A (w_R cI cZ cS aR aRd aRm aRw aRs aRt aRc aRl aRh aRu aRx aRy aRk of op cr wn fp fs dk mm wk sg tb cs lw hg us de sa ky) R) ([.ref aR] : List Value).toArray s 0 0 A) (F0 m 78 ls [.int z0]) := by
  intro H locs ls hP hD hS hl
  obtain ⟨⟨hx, hb, hml, hown, hts⟩, hrt, hlk, hN⟩ := id E
  have hown : s.vm.findClass RX5 = some m.cls := hown
  unfold p_R_isHead_78 at h
  refine lv_istore_n (lv' := [(2, .int z0), (0, .ref aR), (1, .int x1)]) hx hb dX5_isHead_78 rfl hl (by decide) rfl (fun ls hl => ?_)
  refine lv_iconst (v := 4) hx hb dX5_isHead_79 (by decide) ?_
  refine lv_istore_n (lv' := [(3, .int 4), (2, .int z0), (0, .ref aR), (1, .int x1)]) hx hb dX5_isHead_80 rfl hl (by decide) rfl (fun ls hl => ?_)
  exact l_R_isHead_81 E hA hK R 1000 x1 z0 4 h H locs ls hP hD hS (lv_sub hl [2, 3, 1, 0] rfl)
set_option maxHeartbeats 4000000 in
set_option maxRecDepth 100000 in
theorem b_R_isHead_77 {p : Program} {l : Launch} {e : Env} {s : State} {m : MethodId} {below : List Frame} {meth : Method} {c : Code} {A : Nat → Prop} {dC : Nat → ClassId} {dI : Nat → Nat → Nat} {cI cZ cS : ClassId} {aR aRd aRm aRw aRs aRt aRc aRl aRh aRu aRx aRy aRk : Nat} {of : Int32} {op : Int32} {cr : Int32} {wn : Int32} {fp : Int32} {fs : Int32} {dk : Nat → Int32} {mm : Nat → Int32} {wk : Nat → Int32} {sg : Nat → Int32} {tb : Nat → Int32} {cs : Nat → Int32} {lw : Nat → Int32} {hg : Nat → Int32} {us : Nat → Int32} {de : Nat → Int32} {sa : Nat → Int32} {ky : Nat → Int32} (E : mk_En p s m meth c cX5_isHead 4 (some .boolean) ([.ref aR] : List Value).toArray wsX5_isHead yX5_isHead.cls) (hA : ∀ q : Nat, s.heap.size ≤ q → A q) (hK : va_K (dC, dI) vwCl (tyz cI cZ cS) s) (R : Int32) (x1 : Int32) (h : p_R_isHead_77 dk x1 = some R) : ∀ (H : Heap) (locs : List Loc) (ls : Array Slot), va_P (dC, dI) vwCl (w_R cI cZ cS aR aRd aRm aRw aRs aRt aRc aRl aRh aRu aRx aRy aRk of op cr wn fp fs dk mm wk sg tb cs lw hg us de sa ky) H → va_D A (w_R cI cZ cS aR aRd aRm aRw aRs aRt aRc aRl aRh aRu aRx aRy aRk of op cr wn fp fs dk mm wk sg tb cs lw hg us de sa ky) → va_S A s.heap H locs → lv_has ls 4 [(0, .ref aR), (1, .int x1)] → W p l e ({ frames := 1, cells := 0, slots := 0, locals := 23 } : Room) s m ([.ref aR] : List Value).toArray below meth c H locs 0 0 (MQ below (mk_QR (dC, dI) vwCl (tyz cI cZ cS) A (w_R cI cZ cS aR aRd aRm aRw aRs aRt aRc aRl aRh aRu aRx aRy aRk of op cr wn fp fs dk mm wk sg tb cs lw hg us de sa ky) R) ([.ref aR] : List Value).toArray s 0 0 A) (F0 m 77 ls []) := by
  intro H locs ls hP hD hS hl
  obtain ⟨⟨hx, hb, hml, hown, hts⟩, hrt, hlk, hN⟩ := id E
  have hown : s.vm.findClass RX5 = some m.cls := hown
  unfold p_R_isHead_77 at h
  refine lv_iconst (v := 0) hx hb dX5_isHead_77 (by decide) ?_
  exact b_R_isHead_78 E hA hK R x1 0 h H locs ls hP hD hS (lv_sub hl [0, 1] rfl)
set_option maxHeartbeats 4000000 in
set_option maxRecDepth 100000 in
theorem c_R_isHead (l : Launch) (dC : Nat → ClassId) (dI : Nat → Nat → Nat) (cI cZ cS : ClassId) (aR aRd aRm aRw aRs aRt aRc aRl aRh aRu aRx aRy aRk : Nat) (of : Int32) (op : Int32) (cr : Int32) (wn : Int32) (fp : Int32) (fs : Int32) (dk : Nat → Int32) (mm : Nat → Int32) (wk : Nat → Int32) (sg : Nat → Int32) (tb : Nat → Int32) (cs : Nat → Int32) (lw : Nat → Int32) (hg : Nat → Int32) (us : Nat → Int32) (de : Nat → Int32) (sa : Nat → Int32) (ky : Nat → Int32) : CtR l yX5_isHead wsX5_isHead ({ frames := 1, cells := 0, slots := 0, locals := 23 }) (dC, dI) vwCl (tyz cI cZ cS) [.ref aR] (w_R cI cZ cS aR aRd aRm aRw aRs aRt aRc aRl aRh aRu aRx aRy aRk of op cr wn fp fs dk mm wk sg tb cs lw hg us de sa ky) (p_R_isHead dk) := by
  intro R h
  refine mk_enter (Qc := (fun A => mk_QR (dC, dI) vwCl (tyz cI cZ cS) A (w_R cI cZ cS aR aRd aRm aRw aRs aRt aRc aRl aRh aRu aRx aRy aRk of op cr wn fp fs dk mm wk sg tb cs lw hg us de sa ky) R)) (by decide) rfl (Nat.le_of_ble_eq_true rfl) ?_
  intro p e s m below meth c A E hA hK H locs ls hP hD hS hl
  obtain ⟨⟨hx, hb, hml, hown, hts⟩, hrt, hlk, hN⟩ := id E
  have hown : s.vm.findClass RX5 = some m.cls := hown
  have hl : lv_has ls 4 [(0, .ref aR)] := hl
  unfold p_R_isHead at h
  refine lv_aload_n hx hb dX5_isHead_0 rfl (lv_at hl 0 rfl) ?_
  refine va_get (D := (dC, dI)) (ci := 5) (v := .ref aRd) (C := RX5) (T := TX5) (N := 18) hx hb hts iw_R_isHead_Model hown hK hP 0 rfl rfl 0 (by decide) (hts _ mm_R_isHead_0) (fun _ h9 => h9) rfl dX5_isHead_1 ?_
  refine lv_sipush (v := 257) hx hb dX5_isHead_4 (by decide) ?_
  obtain ⟨hc_10, h⟩ := kp_in h
  refine va_iald hx hb hK hP 1 0 rfl rfl (kx_of hc_10) dX5_isHead_7 ?_
  refine lv_topi (fun v_11 ev_11 => ?_)
  replace h := kp_kl h v_11 ev_11
  refine lv_istore_n (lv' := [(1, .int v_11), (0, .ref aR)]) hx hb dX5_isHead_8 rfl hl (by decide) rfl (fun ls hl => ?_)
  refine lv_aload_n hx hb dX5_isHead_9 rfl (lv_at hl 1 rfl) ?_
  refine va_get (D := (dC, dI)) (ci := 5) (v := .ref aRd) (C := RX5) (T := TX5) (N := 18) hx hb hts iw_R_isHead_Model hown hK hP 0 rfl rfl 0 (by decide) (hts _ mm_R_isHead_0) (fun _ h9 => h9) rfl dX5_isHead_10 ?_
  refine lv_sipush (v := 256) hx hb dX5_isHead_13 (by decide) ?_
  obtain ⟨hc_12, h⟩ := kp_in h
  refine va_iald hx hb hK hP 1 0 rfl rfl (kx_of hc_12) dX5_isHead_16 ?_
  refine lv_sipush (v := 6517) hx hb dX5_isHead_17 (by decide) ?_
  refine lv_icmp_ne (tgt := 77) hx hb dX5_isHead_20 (by decide) (fun c_13 => ?_) (fun c_13 => ?_)
  · replace h := (kp_if h).2 c_13
    exact b_R_isHead_77 E hA hK R v_11 h H locs ls hP hD hS (lv_sub hl [1, 0] rfl)
  · replace h := (kp_if h).1 c_13
    refine lv_iload_n hx hb dX5_isHead_23 rfl (lv_at hl 0 rfl) ?_
    refine lv_iconst (v := 1) hx hb dX5_isHead_24 (by decide) ?_
    refine lv_icmp_lt (tgt := 77) hx hb dX5_isHead_25 (by decide) (fun c_14 => ?_) (fun c_14 => ?_)
    · replace h := (kp_if h).1 c_14
      exact b_R_isHead_77 E hA hK R v_11 h H locs ls hP hD hS (lv_sub hl [1, 0] rfl)
    · replace h := (kp_if h).2 c_14
      refine lv_iload_n hx hb dX5_isHead_28 rfl (lv_at hl 0 rfl) ?_
      refine lv_bipush (v := 16) hx hb dX5_isHead_29 (by decide) ?_
      refine lv_icmp_gt (tgt := 77) hx hb dX5_isHead_31 (by decide) (fun c_15 => ?_) (fun c_15 => ?_)
      · replace h := (kp_if h).1 c_15
        exact b_R_isHead_77 E hA hK R v_11 h H locs ls hP hD hS (lv_sub hl [1, 0] rfl)
      · replace h := (kp_if h).2 c_15
        refine lv_aload_n hx hb dX5_isHead_34 rfl (lv_at hl 1 rfl) ?_
        refine va_get (D := (dC, dI)) (ci := 5) (v := .ref aRd) (C := RX5) (T := TX5) (N := 18) hx hb hts iw_R_isHead_Model hown hK hP 0 rfl rfl 0 (by decide) (hts _ mm_R_isHead_0) (fun _ h9 => h9) rfl dX5_isHead_35 ?_
        refine lv_sipush (v := 258) hx hb dX5_isHead_38 (by decide) ?_
        obtain ⟨hc_16, h⟩ := kp_in h
        refine va_iald hx hb hK hP 1 0 rfl rfl (kx_of hc_16) dX5_isHead_41 ?_
        refine lv_if_lt (tgt := 77) hx hb dX5_isHead_42 (by decide) (fun c_17 => ?_) (fun c_17 => ?_)
        · replace h := (kp_if h).1 c_17
          exact b_R_isHead_77 E hA hK R v_11 h H locs ls hP hD hS (lv_sub hl [1, 0] rfl)
        · replace h := (kp_if h).2 c_17
          refine lv_aload_n hx hb dX5_isHead_45 rfl (lv_at hl 1 rfl) ?_
          refine va_get (D := (dC, dI)) (ci := 5) (v := .ref aRd) (C := RX5) (T := TX5) (N := 18) hx hb hts iw_R_isHead_Model hown hK hP 0 rfl rfl 0 (by decide) (hts _ mm_R_isHead_0) (fun _ h9 => h9) rfl dX5_isHead_46 ?_
          refine lv_sipush (v := 258) hx hb dX5_isHead_49 (by decide) ?_
          obtain ⟨hc_18, h⟩ := kp_in h
          refine va_iald hx hb hK hP 1 0 rfl rfl (kx_of hc_18) dX5_isHead_52 ?_
          refine lv_ldc (v := 65536) hx hb hown (hts _ mm_R_isHead_2) dX5_isHead_53 ?_
          refine lv_icmp_ge (tgt := 77) hx hb dX5_isHead_55 (by decide) (fun c_19 => ?_) (fun c_19 => ?_)
          · replace h := (kp_if h).1 c_19
            exact b_R_isHead_77 E hA hK R v_11 h H locs ls hP hD hS (lv_sub hl [1, 0] rfl)
          · replace h := (kp_if h).2 c_19
            refine lv_aload_n hx hb dX5_isHead_58 rfl (lv_at hl 1 rfl) ?_
            refine va_get (D := (dC, dI)) (ci := 5) (v := .ref aRd) (C := RX5) (T := TX5) (N := 18) hx hb hts iw_R_isHead_Model hown hK hP 0 rfl rfl 0 (by decide) (hts _ mm_R_isHead_0) (fun _ h9 => h9) rfl dX5_isHead_59 ?_
            refine lv_sipush (v := 258) hx hb dX5_isHead_62 (by decide) ?_
            obtain ⟨hc_20, h⟩ := kp_in h
            refine va_iald hx hb hK hP 1 0 rfl rfl (kx_of hc_20) dX5_isHead_65 ?_
            obtain ⟨r_21, hr_21, h⟩ := kp_bind h
            refine mk_contR (w := w_R cI cZ cS aR aRd aRm aRw aRs aRt aRc aRl aRh aRu aRx aRy aRk of op cr wn fp fs dk mm wk sg tb cs lw hg us de sa ky) (w0 := w_R cI cZ cS aR aRd aRm aRw aRs aRt aRc aRl aRh aRu aRx aRy aRk of op cr wn fp fs dk mm wk sg tb cs lw hg us de sa ky) (wr := []) hP hD hS hA [0, 1, 2, 3, 4, 5, 6, 7, 8, 9, 10, 11, 12] [] rfl rfl (by decide) (by decide) [0, 1, 2, 3, 4, 5, 6, 7, 8, 9, 10, 11, 12] rfl (by decide) (va_runS (As := [.int (dk (258 : Int32).toNatClampNeg)]) (rest := []) ⟨hx, hb, hml, hown, hts⟩ (c_R_bits l dC dI cI cZ cS aR aRd aRm aRw aRs aRt aRc aRl aRh aRu aRx aRy aRk of op cr wn fp fs dk mm wk sg tb cs lw hg us de sa ky (dk (258 : Int32).toNatClampNeg) r_21 hr_21 H.size) (va_cwS 1 hts gX5_isHead_X5_bits rfl rfl rfl (by decide +kernel) ⟨Nat.le_of_ble_eq_true rfl, Nat.le_of_ble_eq_true rfl⟩) (mk_preS (w0 := w_R cI cZ cS aR aRd aRm aRw aRs aRt aRc aRl aRh aRu aRx aRy aRk of op cr wn fp fs dk mm wk sg tb cs lw hg us de sa ky) hN hK (mk_pick hP [0, 1, 2, 3, 4, 5, 6, 7, 8, 9, 10, 11, 12] rfl) (hD.sub [0, 1, 2, 3, 4, 5, 6, 7, 8, 9, 10, 11, 12] (by decide) rfl)) rfl rfl hl.1 rfl (lv_room (Nat.le_of_ble_eq_true rfl)) dX5_isHead_66 ⟨Nat.zero_le _, Nat.zero_le _⟩) (fun H locs hP hD hS => ?_)
            refine lv_iload_n hx hb dX5_isHead_69 rfl (lv_at hl 0 rfl) ?_
            refine lv_icmp_ne (tgt := 77) hx hb dX5_isHead_70 (by decide) (fun c_22 => ?_) (fun c_22 => ?_)
            · replace h := (kp_if h).2 c_22
              exact b_R_isHead_77 E hA hK R v_11 h H locs ls hP hD hS (lv_sub hl [1, 0] rfl)
            · replace h := (kp_if h).1 c_22
              refine lv_iconst (v := 1) hx hb dX5_isHead_73 (by decide) ?_
              refine lv_goto (tgt := 78) hx hb dX5_isHead_74 (by decide) ?_
              exact b_R_isHead_78 E hA hK R v_11 1 h H locs ls hP hD hS (lv_sub hl [1, 0] rfl)

/- Model.recover()I -/
set_option maxRecDepth 20000 in
theorem mm_R_recover_0 : Cond.fieldLink RX5 38 "JournaledTablesModel" "used" "[Z" ∈ wsX5_recover := by decide +kernel
set_option maxRecDepth 20000 in
theorem iw_R_recover_Model : ∀ w ∈ u_ws RX5 TX5 18, w ∈ wsX5_recover := by decide +kernel
set_option maxRecDepth 20000 in
theorem mm_R_recover_2 : Cond.fieldLink RX5 51 "JournaledTablesModel" "off" "Z" ∈ wsX5_recover := by decide +kernel
set_option maxRecDepth 20000 in
theorem mm_R_recover_3 : Cond.fieldLink RX5 7 "JournaledTablesModel" "disk" "[I" ∈ wsX5_recover := by decide +kernel
set_option maxHeartbeats 4000000 in
set_option maxRecDepth 100000 in
theorem b_R_recover_108 {p : Program} {l : Launch} {e : Env} {s : State} {m : MethodId} {below : List Frame} {meth : Method} {c : Code} {A : Nat → Prop} {dC : Nat → ClassId} {dI : Nat → Nat → Nat} {cI cZ cS : ClassId} {aR aRd aRm aRw aRs aRt aRc aRl aRh aRu aRx aRy aRk : Nat} {fp : Int32} {fs : Int32} {sg : Nat → Int32} {tb : Nat → Int32} {cs : Nat → Int32} {lw : Nat → Int32} {hg : Nat → Int32} {de : Nat → Int32} {sa : Nat → Int32} {ky : Nat → Int32} (E : mk_En p s m meth c cX5_recover 5 (some .int) ([.ref aR] : List Value).toArray wsX5_recover yX5_recover.cls) (hA : ∀ q : Nat, s.heap.size ≤ q → A q) (hK : va_K (dC, dI) vwCl (tyz cI cZ cS) s) (R : Int32 × Int32 × Int32 × Int32 × Int32 × (Nat → Int32) × (Nat → Int32) × (Nat → Int32) × (Nat → Int32)) {k_108 : Int32 → Int32 → Int32 → Int32 → Int32 → (Nat → Int32) → (Nat → Int32) → (Nat → Int32) → (Nat → Int32) → Option (Int32 × Int32 × Int32 × Int32 × Int32 × (Nat → Int32) × (Nat → Int32) × (Nat → Int32) × (Nat → Int32))} (hk_108 : ∀ (x1 : Int32) (of : Int32) (op : Int32) (cr : Int32) (wn : Int32) (dk : Nat → Int32) (mm : Nat → Int32) (wk : Nat → Int32) (us : Nat → Int32), k_108 x1 of op cr wn dk mm wk us = some R → ∀ (H : Heap) (locs : List Loc) (ls : Array Slot), va_P (dC, dI) vwCl (w_R cI cZ cS aR aRd aRm aRw aRs aRt aRc aRl aRh aRu aRx aRy aRk of op cr wn fp fs dk mm wk sg tb cs lw hg us de sa ky) H → va_D A (w_R cI cZ cS aR aRd aRm aRw aRs aRt aRc aRl aRh aRu aRx aRy aRk of op cr wn fp fs dk mm wk sg tb cs lw hg us de sa ky) → va_S A s.heap H locs → lv_has ls 5 [(0, .ref aR), (1, .int x1)] → W p l e ({ frames := 2, cells := 0, slots := 0, locals := 46 } : Room) s m ([.ref aR] : List Value).toArray below meth c H locs 0 0 (MQ below (mk_QI (dC, dI) vwCl (tyz cI cZ cS) A (fun u : Int32 × Int32 × Int32 × Int32 × (Nat → Int32) × (Nat → Int32) × (Nat → Int32) × (Nat → Int32) => w_R cI cZ cS aR aRd aRm aRw aRs aRt aRc aRl aRh aRu aRx aRy aRk u.1 u.2.1 u.2.2.1 u.2.2.2.1 fp fs u.2.2.2.2.1 u.2.2.2.2.2.1 u.2.2.2.2.2.2.1 sg tb cs lw hg u.2.2.2.2.2.2.2 de sa ky) R) ([.ref aR] : List Value).toArray s 0 0 A) (F0 m 108 ls [])) (x1 : Int32) (of : Int32) (op : Int32) (cr : Int32) (wn : Int32) (dk : Nat → Int32) (mm : Nat → Int32) (wk : Nat → Int32) (us : Nat → Int32) (h : p_R_recover_108 k_108 x1 of op cr wn dk mm wk us = some R) : ∀ (H : Heap) (locs : List Loc) (ls : Array Slot), va_P (dC, dI) vwCl (w_R cI cZ cS aR aRd aRm aRw aRs aRt aRc aRl aRh aRu aRx aRy aRk of op cr wn fp fs dk mm wk sg tb cs lw hg us de sa ky) H → va_D A (w_R cI cZ cS aR aRd aRm aRw aRs aRt aRc aRl aRh aRu aRx aRy aRk of op cr wn fp fs dk mm wk sg tb cs lw hg us de sa ky) → va_S A s.heap H locs → lv_has ls 5 [(0, .ref aR), (1, .int x1)] → W p l e ({ frames := 2, cells := 0, slots := 0, locals := 46 } : Room) s m ([.ref aR] : List Value).toArray below meth c H locs 0 0 (MQ below (mk_QI (dC, dI) vwCl (tyz cI cZ cS) A (fun u : Int32 × Int32 × Int32 × Int32 × (Nat → Int32) × (Nat → Int32) × (Nat → Int32) × (Nat → Int32) => w_R cI cZ cS aR aRd aRm aRw aRs aRt aRc aRl aRh aRu aRx aRy aRk u.1 u.2.1 u.2.2.1 u.2.2.2.1 fp fs u.2.2.2.2.1 u.2.2.2.2.2.1 u.2.2.2.2.2.2.1 sg tb cs lw hg u.2.2.2.2.2.2.2 de sa ky) R) ([.ref aR] : List Value).toArray s 0 0 A) (F0 m 108 ls []) := by
  intro H locs ls hP hD hS hl
  obtain ⟨⟨hx, hb, hml, hown, hts⟩, hrt, hlk, hN⟩ := id E
  have hown : s.vm.findClass RX5 = some m.cls := hown
  unfold p_R_recover_108 at h
  refine lv_iload_n hx hb dX5_recover_108 rfl (lv_at hl 1 rfl) ?_
  refine lv_iconst (v := 4) hx hb dX5_recover_109 (by decide) ?_
  refine lv_icmp_ge (tgt := 126) hx hb dX5_recover_110 (by decide) (fun c_1 => ?_) (fun c_1 => ?_)
  · replace h := (kp_if h).1 c_1
    refine lv_iconst (v := 0) hx hb dX5_recover_126 (by decide) ?_
    cases h
    exact mk_iret E hK hP hD hS dX5_recover_127
  · replace h := (kp_if h).2 c_1
    refine lv_aload_n hx hb dX5_recover_113 rfl (lv_at hl 0 rfl) ?_
    refine va_get (D := (dC, dI)) (ci := 5) (v := .ref aRu) (C := RX5) (T := TX5) (N := 18) hx hb hts iw_R_recover_Model hown hK hP 0 rfl rfl 12 (by decide) (hts _ mm_R_recover_0) (fun _ h9 => h9) rfl dX5_recover_114 ?_
    refine lv_iload_n hx hb dX5_recover_117 rfl (lv_at hl 1 rfl) ?_
    refine lv_iconst (v := 0) hx hb dX5_recover_118 (by decide) ?_
    obtain ⟨hc_2, h⟩ := kp_in h
    refine va_zast hx hb hK hP hD hS 9 1 rfl rfl (kx_of hc_2) dX5_recover_119 (fun H locs hP hD hS => ?_)
    have hP : va_P (dC, dI) vwCl (w_R cI cZ cS aR aRd aRm aRw aRs aRt aRc aRl aRh aRu aRx aRy aRk of op cr wn fp fs dk mm wk sg tb cs lw hg (upd us x1.toNatClampNeg (vp_nar .boolean 0)) de sa ky) H := hP
    have hD : va_D A (w_R cI cZ cS aR aRd aRm aRw aRs aRt aRc aRl aRh aRu aRx aRy aRk of op cr wn fp fs dk mm wk sg tb cs lw hg (upd us x1.toNatClampNeg (vp_nar .boolean 0)) de sa ky) := hD
    refine lv_iinc (v := x1 + 1) (lv' := [(1, .int (x1 + 1)), (0, .ref aR)]) hx hb dX5_recover_120 hl (k := 1) rfl rfl (by decide) rfl (fun ls hl => ?_)
    refine lv_goto (tgt := 108) hx hb dX5_recover_123 (by decide) ?_
    exact hk_108 (x1 + 1) of op cr wn dk mm wk (upd us x1.toNatClampNeg (vp_nar .boolean 0)) h H locs ls hP hD hS (lv_sub hl [1, 0] rfl)
set_option maxHeartbeats 4000000 in
set_option maxRecDepth 100000 in
theorem l_R_recover_108 {p : Program} {l : Launch} {e : Env} {s : State} {m : MethodId} {below : List Frame} {meth : Method} {c : Code} {A : Nat → Prop} {dC : Nat → ClassId} {dI : Nat → Nat → Nat} {cI cZ cS : ClassId} {aR aRd aRm aRw aRs aRt aRc aRl aRh aRu aRx aRy aRk : Nat} {fp : Int32} {fs : Int32} {sg : Nat → Int32} {tb : Nat → Int32} {cs : Nat → Int32} {lw : Nat → Int32} {hg : Nat → Int32} {de : Nat → Int32} {sa : Nat → Int32} {ky : Nat → Int32} (E : mk_En p s m meth c cX5_recover 5 (some .int) ([.ref aR] : List Value).toArray wsX5_recover yX5_recover.cls) (hA : ∀ q : Nat, s.heap.size ≤ q → A q) (hK : va_K (dC, dI) vwCl (tyz cI cZ cS) s) (R : Int32 × Int32 × Int32 × Int32 × Int32 × (Nat → Int32) × (Nat → Int32) × (Nat → Int32) × (Nat → Int32)) : ∀ (n : Nat) (x1 : Int32) (of : Int32) (op : Int32) (cr : Int32) (wn : Int32) (dk : Nat → Int32) (mm : Nat → Int32) (wk : Nat → Int32) (us : Nat → Int32), pl_R_recover_108 n x1 of op cr wn dk mm wk us = some R → ∀ (H : Heap) (locs : List Loc) (ls : Array Slot), va_P (dC, dI) vwCl (w_R cI cZ cS aR aRd aRm aRw aRs aRt aRc aRl aRh aRu aRx aRy aRk of op cr wn fp fs dk mm wk sg tb cs lw hg us de sa ky) H → va_D A (w_R cI cZ cS aR aRd aRm aRw aRs aRt aRc aRl aRh aRu aRx aRy aRk of op cr wn fp fs dk mm wk sg tb cs lw hg us de sa ky) → va_S A s.heap H locs → lv_has ls 5 [(0, .ref aR), (1, .int x1)] → W p l e ({ frames := 2, cells := 0, slots := 0, locals := 46 } : Room) s m ([.ref aR] : List Value).toArray below meth c H locs 0 0 (MQ below (mk_QI (dC, dI) vwCl (tyz cI cZ cS) A (fun u : Int32 × Int32 × Int32 × Int32 × (Nat → Int32) × (Nat → Int32) × (Nat → Int32) × (Nat → Int32) => w_R cI cZ cS aR aRd aRm aRw aRs aRt aRc aRl aRh aRu aRx aRy aRk u.1 u.2.1 u.2.2.1 u.2.2.2.1 fp fs u.2.2.2.2.1 u.2.2.2.2.2.1 u.2.2.2.2.2.2.1 sg tb cs lw hg u.2.2.2.2.2.2.2 de sa ky) R) ([.ref aR] : List Value).toArray s 0 0 A) (F0 m 108 ls []) := by
  intro n
  induction n with
  | zero =>
    intro x1 of op cr wn dk mm wk us h
    cases h
  | succ n ih =>
    intro x1 of op cr wn dk mm wk us h
    exact b_R_recover_108 E hA hK R ih x1 of op cr wn dk mm wk us h
set_option maxHeartbeats 4000000 in
set_option maxRecDepth 100000 in
theorem b_R_recover_102 {p : Program} {l : Launch} {e : Env} {s : State} {m : MethodId} {below : List Frame} {meth : Method} {c : Code} {A : Nat → Prop} {dC : Nat → ClassId} {dI : Nat → Nat → Nat} {cI cZ cS : ClassId} {aR aRd aRm aRw aRs aRt aRc aRl aRh aRu aRx aRy aRk : Nat} {fp : Int32} {fs : Int32} {sg : Nat → Int32} {tb : Nat → Int32} {cs : Nat → Int32} {lw : Nat → Int32} {hg : Nat → Int32} {de : Nat → Int32} {sa : Nat → Int32} {ky : Nat → Int32} (E : mk_En p s m meth c cX5_recover 5 (some .int) ([.ref aR] : List Value).toArray wsX5_recover yX5_recover.cls) (hA : ∀ q : Nat, s.heap.size ≤ q → A q) (hK : va_K (dC, dI) vwCl (tyz cI cZ cS) s) (R : Int32 × Int32 × Int32 × Int32 × Int32 × (Nat → Int32) × (Nat → Int32) × (Nat → Int32) × (Nat → Int32)) (of : Int32) (op : Int32) (cr : Int32) (wn : Int32) (dk : Nat → Int32) (mm : Nat → Int32) (wk : Nat → Int32) (us : Nat → Int32) (h : p_R_recover_102 of op cr wn dk mm wk us = some R) : ∀ (H : Heap) (locs : List Loc) (ls : Array Slot), va_P (dC, dI) vwCl (w_R cI cZ cS aR aRd aRm aRw aRs aRt aRc aRl aRh aRu aRx aRy aRk of op cr wn fp fs dk mm wk sg tb cs lw hg us de sa ky) H → va_D A (w_R cI cZ cS aR aRd aRm aRw aRs aRt aRc aRl aRh aRu aRx aRy aRk of op cr wn fp fs dk mm wk sg tb cs lw hg us de sa ky) → va_S A s.heap H locs → lv_has ls 5 [(0, .ref aR)] → W p l e ({ frames := 2, cells := 0, slots := 0, locals := 46 } : Room) s m ([.ref aR] : List Value).toArray below meth c H locs 0 0 (MQ below (mk_QI (dC, dI) vwCl (tyz cI cZ cS) A (fun u : Int32 × Int32 × Int32 × Int32 × (Nat → Int32) × (Nat → Int32) × (Nat → Int32) × (Nat → Int32) => w_R cI cZ cS aR aRd aRm aRw aRs aRt aRc aRl aRh aRu aRx aRy aRk u.1 u.2.1 u.2.2.1 u.2.2.2.1 fp fs u.2.2.2.2.1 u.2.2.2.2.2.1 u.2.2.2.2.2.2.1 sg tb cs lw hg u.2.2.2.2.2.2.2 de sa ky) R) ([.ref aR] : List Value).toArray s 0 0 A) (F0 m 102 ls []) := by
  intro H locs ls hP hD hS hl
  obtain ⟨⟨hx, hb, hml, hown, hts⟩, hrt, hlk, hN⟩ := id E
  have hown : s.vm.findClass RX5 = some m.cls := hown
  unfold p_R_recover_102 at h
  refine lv_aload_n hx hb dX5_recover_102 rfl (lv_at hl 0 rfl) ?_
  obtain ⟨r_3, hr_3, h⟩ := kp_bind h
  refine mk_contV (w := w_R cI cZ cS aR aRd aRm aRw aRs aRt aRc aRl aRh aRu aRx aRy aRk of op cr wn fp fs dk mm wk sg tb cs lw hg us de sa ky) (w0 := w_R cI cZ cS aR aRd aRm aRw aRs aRt aRc aRl aRh aRu aRx aRy aRk of op cr wn fp fs dk mm wk sg tb cs lw hg us de sa ky) (wr := []) (w2 := w_R cI cZ cS aR aRd aRm aRw aRs aRt aRc aRl aRh aRu aRx aRy aRk of r_3.1 cr wn fp fs dk r_3.2 wk sg tb cs lw hg us de sa ky) hP hD hS hA [0, 1, 2, 3, 4, 5, 6, 7, 8, 9, 10, 11, 12] [] rfl rfl (by decide) (by decide) [0, 1, 2, 3, 4, 5, 6, 7, 8, 9, 10, 11, 12] rfl (by decide) (va_runV (As := []) (rest := []) ⟨hx, hb, hml, hown, hts⟩ (c_R_copyBack l dC dI cI cZ cS aR aRd aRm aRw aRs aRt aRc aRl aRh aRu aRx aRy aRk of op cr wn fp fs dk mm wk sg tb cs lw hg us de sa ky r_3 hr_3 H.size) (cwV 0 hts gX5_recover_X5_copyBack rfl rfl rfl (by decide +kernel) ⟨Nat.le_of_ble_eq_true rfl, Nat.le_of_ble_eq_true rfl⟩) (mk_preV (w0 := w_R cI cZ cS aR aRd aRm aRw aRs aRt aRc aRl aRh aRu aRx aRy aRk of op cr wn fp fs dk mm wk sg tb cs lw hg us de sa ky) (ci := 5) (q0 := 0) hN hK (mk_pick hP [0, 1, 2, 3, 4, 5, 6, 7, 8, 9, 10, 11, 12] rfl) (hD.sub [0, 1, 2, 3, 4, 5, 6, 7, 8, 9, 10, 11, 12] (by decide) rfl) rfl rfl rfl) rfl rfl hl.1 rfl (lv_room (Nat.le_of_ble_eq_true rfl)) dX5_recover_103 ⟨Nat.zero_le _, Nat.zero_le _⟩) (fun H locs hP hD hS => ?_)
  refine lv_iconst (v := 0) hx hb dX5_recover_106 (by decide) ?_
  refine lv_istore_n (lv' := [(1, .int 0), (0, .ref aR)]) hx hb dX5_recover_107 rfl hl (by decide) rfl (fun ls hl => ?_)
  exact l_R_recover_108 E hA hK R 1000 0 of r_3.1 cr wn dk r_3.2 wk us h H locs ls hP hD hS (lv_sub hl [1, 0] rfl)
set_option maxHeartbeats 4000000 in
set_option maxRecDepth 100000 in
theorem b_R_recover_95 {p : Program} {l : Launch} {e : Env} {s : State} {m : MethodId} {below : List Frame} {meth : Method} {c : Code} {A : Nat → Prop} {dC : Nat → ClassId} {dI : Nat → Nat → Nat} {cI cZ cS : ClassId} {aR aRd aRm aRw aRs aRt aRc aRl aRh aRu aRx aRy aRk : Nat} {fp : Int32} {fs : Int32} {sg : Nat → Int32} {tb : Nat → Int32} {cs : Nat → Int32} {lw : Nat → Int32} {hg : Nat → Int32} {de : Nat → Int32} {sa : Nat → Int32} {ky : Nat → Int32} (E : mk_En p s m meth c cX5_recover 5 (some .int) ([.ref aR] : List Value).toArray wsX5_recover yX5_recover.cls) (hA : ∀ q : Nat, s.heap.size ≤ q → A q) (hK : va_K (dC, dI) vwCl (tyz cI cZ cS) s) (R : Int32 × Int32 × Int32 × Int32 × Int32 × (Nat → Int32) × (Nat → Int32) × (Nat → Int32) × (Nat → Int32)) (z0 : Int32) (of : Int32) (op : Int32) (cr : Int32) (wn : Int32) (dk : Nat → Int32) (mm : Nat → Int32) (wk : Nat → Int32) (us : Nat → Int32) (h : p_R_recover_95 z0 of op cr wn dk mm wk us = some R) : ∀ (H : Heap) (locs : List Loc) (ls : Array Slot), va_P (dC, dI) vwCl (w_R cI cZ cS aR aRd aRm aRw aRs aRt aRc aRl aRh aRu aRx aRy aRk of op cr wn fp fs dk mm wk sg tb cs lw hg us de sa ky) H → va_D A (w_R cI cZ cS aR aRd aRm aRw aRs aRt aRc aRl aRh aRu aRx aRy aRk of op cr wn fp fs dk mm wk sg tb cs lw hg us de sa ky) → va_S A s.heap H locs → lv_has ls 5 [(0, .ref aR)] → W p l e ({ frames := 2, cells := 0, slots := 0, locals := 46 } : Room) s m ([.ref aR] : List Value).toArray below meth c H locs 0 0 (MQ below (mk_QI (dC, dI) vwCl (tyz cI cZ cS) A (fun u : Int32 × Int32 × Int32 × Int32 × (Nat → Int32) × (Nat → Int32) × (Nat → Int32) × (Nat → Int32) => w_R cI cZ cS aR aRd aRm aRw aRs aRt aRc aRl aRh aRu aRx aRy aRk u.1 u.2.1 u.2.2.1 u.2.2.2.1 fp fs u.2.2.2.2.1 u.2.2.2.2.2.1 u.2.2.2.2.2.2.1 sg tb cs lw hg u.2.2.2.2.2.2.2 de sa ky) R) ([.ref aR] : List Value).toArray s 0 0 A) (F0 m 95 ls [.int z0]) := by
  intro H locs ls hP hD hS hl
  obtain ⟨⟨hx, hb, hml, hown, hts⟩, hrt, hlk, hN⟩ := id E
  have hown : s.vm.findClass RX5 = some m.cls := hown
  unfold p_R_recover_95 at h
  refine lv_istore_n (lv' := [(3, .int z0), (0, .ref aR)]) hx hb dX5_recover_95 rfl hl (by decide) rfl (fun ls hl => ?_)
  refine lv_iload_n hx hb dX5_recover_96 rfl (lv_at hl 0 rfl) ?_
  refine lv_if_ne (tgt := 102) hx hb dX5_recover_97 (by decide) (fun c_4 => ?_) (fun c_4 => ?_)
  · replace h := (kp_if h).2 c_4
    exact b_R_recover_102 E hA hK R of op cr wn dk mm wk us h H locs ls hP hD hS (lv_sub hl [1] rfl)
  · replace h := (kp_if h).1 c_4
    refine lv_iconst (v := (-1)) hx hb dX5_recover_100 (by decide) ?_
    cases h
    exact mk_iret E hK hP hD hS dX5_recover_101
set_option maxHeartbeats 4000000 in
set_option maxRecDepth 100000 in
theorem b_R_recover_94 {p : Program} {l : Launch} {e : Env} {s : State} {m : MethodId} {below : List Frame} {meth : Method} {c : Code} {A : Nat → Prop} {dC : Nat → ClassId} {dI : Nat → Nat → Nat} {cI cZ cS : ClassId} {aR aRd aRm aRw aRs aRt aRc aRl aRh aRu aRx aRy aRk : Nat} {fp : Int32} {fs : Int32} {sg : Nat → Int32} {tb : Nat → Int32} {cs : Nat → Int32} {lw : Nat → Int32} {hg : Nat → Int32} {de : Nat → Int32} {sa : Nat → Int32} {ky : Nat → Int32} (E : mk_En p s m meth c cX5_recover 5 (some .int) ([.ref aR] : List Value).toArray wsX5_recover yX5_recover.cls) (hA : ∀ q : Nat, s.heap.size ≤ q → A q) (hK : va_K (dC, dI) vwCl (tyz cI cZ cS) s) (R : Int32 × Int32 × Int32 × Int32 × Int32 × (Nat → Int32) × (Nat → Int32) × (Nat → Int32) × (Nat → Int32)) (of : Int32) (op : Int32) (cr : Int32) (wn : Int32) (dk : Nat → Int32) (mm : Nat → Int32) (wk : Nat → Int32) (us : Nat → Int32) (h : p_R_recover_94 of op cr wn dk mm wk us = some R) : ∀ (H : Heap) (locs : List Loc) (ls : Array Slot), va_P (dC, dI) vwCl (w_R cI cZ cS aR aRd aRm aRw aRs aRt aRc aRl aRh aRu aRx aRy aRk of op cr wn fp fs dk mm wk sg tb cs lw hg us de sa ky) H → va_D A (w_R cI cZ cS aR aRd aRm aRw aRs aRt aRc aRl aRh aRu aRx aRy aRk of op cr wn fp fs dk mm wk sg tb cs lw hg us de sa ky) → va_S A s.heap H locs → lv_has ls 5 [(0, .ref aR)] → W p l e ({ frames := 2, cells := 0, slots := 0, locals := 46 } : Room) s m ([.ref aR] : List Value).toArray below meth c H locs 0 0 (MQ below (mk_QI (dC, dI) vwCl (tyz cI cZ cS) A (fun u : Int32 × Int32 × Int32 × Int32 × (Nat → Int32) × (Nat → Int32) × (Nat → Int32) × (Nat → Int32) => w_R cI cZ cS aR aRd aRm aRw aRs aRt aRc aRl aRh aRu aRx aRy aRk u.1 u.2.1 u.2.2.1 u.2.2.2.1 fp fs u.2.2.2.2.1 u.2.2.2.2.2.1 u.2.2.2.2.2.2.1 sg tb cs lw hg u.2.2.2.2.2.2.2 de sa ky) R) ([.ref aR] : List Value).toArray s 0 0 A) (F0 m 94 ls []) := by
  intro H locs ls hP hD hS hl
  obtain ⟨⟨hx, hb, hml, hown, hts⟩, hrt, hlk, hN⟩ := id E
  have hown : s.vm.findClass RX5 = some m.cls := hown
  unfold p_R_recover_94 at h
  refine lv_iconst (v := 0) hx hb dX5_recover_94 (by decide) ?_
  exact b_R_recover_95 E hA hK R 0 of op cr wn dk mm wk us h H locs ls hP hD hS (lv_sub hl [0] rfl)
set_option maxHeartbeats 4000000 in
set_option maxRecDepth 100000 in
theorem b_R_recover_71 {p : Program} {l : Launch} {e : Env} {s : State} {m : MethodId} {below : List Frame} {meth : Method} {c : Code} {A : Nat → Prop} {dC : Nat → ClassId} {dI : Nat → Nat → Nat} {cI cZ cS : ClassId} {aR aRd aRm aRw aRs aRt aRc aRl aRh aRu aRx aRy aRk : Nat} {fp : Int32} {fs : Int32} {sg : Nat → Int32} {tb : Nat → Int32} {cs : Nat → Int32} {lw : Nat → Int32} {hg : Nat → Int32} {de : Nat → Int32} {sa : Nat → Int32} {ky : Nat → Int32} (E : mk_En p s m meth c cX5_recover 5 (some .int) ([.ref aR] : List Value).toArray wsX5_recover yX5_recover.cls) (hA : ∀ q : Nat, s.heap.size ≤ q → A q) (hK : va_K (dC, dI) vwCl (tyz cI cZ cS) s) (R : Int32 × Int32 × Int32 × Int32 × Int32 × (Nat → Int32) × (Nat → Int32) × (Nat → Int32) × (Nat → Int32)) {k_28 : Int32 → Int32 → Int32 → Int32 → Int32 → Int32 → Int32 → Int32 → (Nat → Int32) → (Nat → Int32) → (Nat → Int32) → (Nat → Int32) → Option (Int32 × Int32 × Int32 × Int32 × Int32 × (Nat → Int32) × (Nat → Int32) × (Nat → Int32) × (Nat → Int32))} (hk_28 : ∀ (x1 : Int32) (x2 : Int32) (x3 : Int32) (x4 : Int32) (of : Int32) (op : Int32) (cr : Int32) (wn : Int32) (dk : Nat → Int32) (mm : Nat → Int32) (wk : Nat → Int32) (us : Nat → Int32), k_28 x1 x2 x3 x4 of op cr wn dk mm wk us = some R → ∀ (H : Heap) (locs : List Loc) (ls : Array Slot), va_P (dC, dI) vwCl (w_R cI cZ cS aR aRd aRm aRw aRs aRt aRc aRl aRh aRu aRx aRy aRk of op cr wn fp fs dk mm wk sg tb cs lw hg us de sa ky) H → va_D A (w_R cI cZ cS aR aRd aRm aRw aRs aRt aRc aRl aRh aRu aRx aRy aRk of op cr wn fp fs dk mm wk sg tb cs lw hg us de sa ky) → va_S A s.heap H locs → lv_has ls 5 [(0, .ref aR), (1, .int x1), (2, .int x2), (3, .int x3), (4, .int x4)] → W p l e ({ frames := 2, cells := 0, slots := 0, locals := 46 } : Room) s m ([.ref aR] : List Value).toArray below meth c H locs 0 0 (MQ below (mk_QI (dC, dI) vwCl (tyz cI cZ cS) A (fun u : Int32 × Int32 × Int32 × Int32 × (Nat → Int32) × (Nat → Int32) × (Nat → Int32) × (Nat → Int32) => w_R cI cZ cS aR aRd aRm aRw aRs aRt aRc aRl aRh aRu aRx aRy aRk u.1 u.2.1 u.2.2.1 u.2.2.2.1 fp fs u.2.2.2.2.1 u.2.2.2.2.2.1 u.2.2.2.2.2.2.1 sg tb cs lw hg u.2.2.2.2.2.2.2 de sa ky) R) ([.ref aR] : List Value).toArray s 0 0 A) (F0 m 28 ls [])) (x1 : Int32) (x2 : Int32) (x3 : Int32) (x4 : Int32) (of : Int32) (op : Int32) (cr : Int32) (wn : Int32) (dk : Nat → Int32) (mm : Nat → Int32) (wk : Nat → Int32) (us : Nat → Int32) (h : p_R_recover_71 k_28 x1 x2 x3 x4 of op cr wn dk mm wk us = some R) : ∀ (H : Heap) (locs : List Loc) (ls : Array Slot), va_P (dC, dI) vwCl (w_R cI cZ cS aR aRd aRm aRw aRs aRt aRc aRl aRh aRu aRx aRy aRk of op cr wn fp fs dk mm wk sg tb cs lw hg us de sa ky) H → va_D A (w_R cI cZ cS aR aRd aRm aRw aRs aRt aRc aRl aRh aRu aRx aRy aRk of op cr wn fp fs dk mm wk sg tb cs lw hg us de sa ky) → va_S A s.heap H locs → lv_has ls 5 [(0, .ref aR), (1, .int x1), (2, .int x2), (3, .int x3), (4, .int x4)] → W p l e ({ frames := 2, cells := 0, slots := 0, locals := 46 } : Room) s m ([.ref aR] : List Value).toArray below meth c H locs 0 0 (MQ below (mk_QI (dC, dI) vwCl (tyz cI cZ cS) A (fun u : Int32 × Int32 × Int32 × Int32 × (Nat → Int32) × (Nat → Int32) × (Nat → Int32) × (Nat → Int32) => w_R cI cZ cS aR aRd aRm aRw aRs aRt aRc aRl aRh aRu aRx aRy aRk u.1 u.2.1 u.2.2.1 u.2.2.2.1 fp fs u.2.2.2.2.1 u.2.2.2.2.2.1 u.2.2.2.2.2.2.1 sg tb cs lw hg u.2.2.2.2.2.2.2 de sa ky) R) ([.ref aR] : List Value).toArray s 0 0 A) (F0 m 71 ls []) := by
  intro H locs ls hP hD hS hl
  obtain ⟨⟨hx, hb, hml, hown, hts⟩, hrt, hlk, hN⟩ := id E
  have hown : s.vm.findClass RX5 = some m.cls := hown
  unfold p_R_recover_71 at h
  refine lv_iinc (v := x4 + 1) (lv' := [(4, .int (x4 + 1)), (0, .ref aR), (1, .int x1), (2, .int x2), (3, .int x3)]) hx hb dX5_recover_71 hl (k := 4) rfl rfl (by decide) rfl (fun ls hl => ?_)
  refine lv_goto (tgt := 28) hx hb dX5_recover_74 (by decide) ?_
  exact hk_28 x1 x2 x3 (x4 + 1) of op cr wn dk mm wk us h H locs ls hP hD hS (lv_sub hl [1, 2, 3, 4, 0] rfl)
set_option maxHeartbeats 4000000 in
set_option maxRecDepth 100000 in
theorem b_R_recover_67 {p : Program} {l : Launch} {e : Env} {s : State} {m : MethodId} {below : List Frame} {meth : Method} {c : Code} {A : Nat → Prop} {dC : Nat → ClassId} {dI : Nat → Nat → Nat} {cI cZ cS : ClassId} {aR aRd aRm aRw aRs aRt aRc aRl aRh aRu aRx aRy aRk : Nat} {fp : Int32} {fs : Int32} {sg : Nat → Int32} {tb : Nat → Int32} {cs : Nat → Int32} {lw : Nat → Int32} {hg : Nat → Int32} {de : Nat → Int32} {sa : Nat → Int32} {ky : Nat → Int32} (E : mk_En p s m meth c cX5_recover 5 (some .int) ([.ref aR] : List Value).toArray wsX5_recover yX5_recover.cls) (hA : ∀ q : Nat, s.heap.size ≤ q → A q) (hK : va_K (dC, dI) vwCl (tyz cI cZ cS) s) (R : Int32 × Int32 × Int32 × Int32 × Int32 × (Nat → Int32) × (Nat → Int32) × (Nat → Int32) × (Nat → Int32)) {k_28 : Int32 → Int32 → Int32 → Int32 → Int32 → Int32 → Int32 → Int32 → (Nat → Int32) → (Nat → Int32) → (Nat → Int32) → (Nat → Int32) → Option (Int32 × Int32 × Int32 × Int32 × Int32 × (Nat → Int32) × (Nat → Int32) × (Nat → Int32) × (Nat → Int32))} (hk_28 : ∀ (x1 : Int32) (x2 : Int32) (x3 : Int32) (x4 : Int32) (of : Int32) (op : Int32) (cr : Int32) (wn : Int32) (dk : Nat → Int32) (mm : Nat → Int32) (wk : Nat → Int32) (us : Nat → Int32), k_28 x1 x2 x3 x4 of op cr wn dk mm wk us = some R → ∀ (H : Heap) (locs : List Loc) (ls : Array Slot), va_P (dC, dI) vwCl (w_R cI cZ cS aR aRd aRm aRw aRs aRt aRc aRl aRh aRu aRx aRy aRk of op cr wn fp fs dk mm wk sg tb cs lw hg us de sa ky) H → va_D A (w_R cI cZ cS aR aRd aRm aRw aRs aRt aRc aRl aRh aRu aRx aRy aRk of op cr wn fp fs dk mm wk sg tb cs lw hg us de sa ky) → va_S A s.heap H locs → lv_has ls 5 [(0, .ref aR), (1, .int x1), (2, .int x2), (3, .int x3), (4, .int x4)] → W p l e ({ frames := 2, cells := 0, slots := 0, locals := 46 } : Room) s m ([.ref aR] : List Value).toArray below meth c H locs 0 0 (MQ below (mk_QI (dC, dI) vwCl (tyz cI cZ cS) A (fun u : Int32 × Int32 × Int32 × Int32 × (Nat → Int32) × (Nat → Int32) × (Nat → Int32) × (Nat → Int32) => w_R cI cZ cS aR aRd aRm aRw aRs aRt aRc aRl aRh aRu aRx aRy aRk u.1 u.2.1 u.2.2.1 u.2.2.2.1 fp fs u.2.2.2.2.1 u.2.2.2.2.2.1 u.2.2.2.2.2.2.1 sg tb cs lw hg u.2.2.2.2.2.2.2 de sa ky) R) ([.ref aR] : List Value).toArray s 0 0 A) (F0 m 28 ls [])) (x1 : Int32) (x2 : Int32) (x4 : Int32) (z0 : Int32) (of : Int32) (op : Int32) (cr : Int32) (wn : Int32) (dk : Nat → Int32) (mm : Nat → Int32) (wk : Nat → Int32) (us : Nat → Int32) (h : p_R_recover_67 k_28 x1 x2 x4 z0 of op cr wn dk mm wk us = some R) : ∀ (H : Heap) (locs : List Loc) (ls : Array Slot), va_P (dC, dI) vwCl (w_R cI cZ cS aR aRd aRm aRw aRs aRt aRc aRl aRh aRu aRx aRy aRk of op cr wn fp fs dk mm wk sg tb cs lw hg us de sa ky) H → va_D A (w_R cI cZ cS aR aRd aRm aRw aRs aRt aRc aRl aRh aRu aRx aRy aRk of op cr wn fp fs dk mm wk sg tb cs lw hg us de sa ky) → va_S A s.heap H locs → lv_has ls 5 [(0, .ref aR), (1, .int x1), (2, .int x2), (4, .int x4)] → W p l e ({ frames := 2, cells := 0, slots := 0, locals := 46 } : Room) s m ([.ref aR] : List Value).toArray below meth c H locs 0 0 (MQ below (mk_QI (dC, dI) vwCl (tyz cI cZ cS) A (fun u : Int32 × Int32 × Int32 × Int32 × (Nat → Int32) × (Nat → Int32) × (Nat → Int32) × (Nat → Int32) => w_R cI cZ cS aR aRd aRm aRw aRs aRt aRc aRl aRh aRu aRx aRy aRk u.1 u.2.1 u.2.2.1 u.2.2.2.1 fp fs u.2.2.2.2.1 u.2.2.2.2.2.1 u.2.2.2.2.2.2.1 sg tb cs lw hg u.2.2.2.2.2.2.2 de sa ky) R) ([.ref aR] : List Value).toArray s 0 0 A) (F0 m 67 ls [.int z0]) := by
  intro H locs ls hP hD hS hl
  obtain ⟨⟨hx, hb, hml, hown, hts⟩, hrt, hlk, hN⟩ := id E
  have hown : s.vm.findClass RX5 = some m.cls := hown
  unfold p_R_recover_67 at h
  refine lv_istore_n (lv' := [(3, .int z0), (0, .ref aR), (1, .int x1), (2, .int x2), (4, .int x4)]) hx hb dX5_recover_67 rfl hl (by decide) rfl (fun ls hl => ?_)
  refine lv_iinc (v := x2 + 1) (lv' := [(2, .int (x2 + 1)), (3, .int z0), (0, .ref aR), (1, .int x1), (4, .int x4)]) hx hb dX5_recover_68 hl (k := 3) rfl rfl (by decide) rfl (fun ls hl => ?_)
  exact b_R_recover_71 E hA hK R hk_28 x1 (x2 + 1) z0 x4 of op cr wn dk mm wk us h H locs ls hP hD hS (lv_sub hl [2, 3, 0, 1, 4] rfl)
set_option maxHeartbeats 4000000 in
set_option maxRecDepth 100000 in
theorem b_R_recover_66 {p : Program} {l : Launch} {e : Env} {s : State} {m : MethodId} {below : List Frame} {meth : Method} {c : Code} {A : Nat → Prop} {dC : Nat → ClassId} {dI : Nat → Nat → Nat} {cI cZ cS : ClassId} {aR aRd aRm aRw aRs aRt aRc aRl aRh aRu aRx aRy aRk : Nat} {fp : Int32} {fs : Int32} {sg : Nat → Int32} {tb : Nat → Int32} {cs : Nat → Int32} {lw : Nat → Int32} {hg : Nat → Int32} {de : Nat → Int32} {sa : Nat → Int32} {ky : Nat → Int32} (E : mk_En p s m meth c cX5_recover 5 (some .int) ([.ref aR] : List Value).toArray wsX5_recover yX5_recover.cls) (hA : ∀ q : Nat, s.heap.size ≤ q → A q) (hK : va_K (dC, dI) vwCl (tyz cI cZ cS) s) (R : Int32 × Int32 × Int32 × Int32 × Int32 × (Nat → Int32) × (Nat → Int32) × (Nat → Int32) × (Nat → Int32)) {k_28 : Int32 → Int32 → Int32 → Int32 → Int32 → Int32 → Int32 → Int32 → (Nat → Int32) → (Nat → Int32) → (Nat → Int32) → (Nat → Int32) → Option (Int32 × Int32 × Int32 × Int32 × Int32 × (Nat → Int32) × (Nat → Int32) × (Nat → Int32) × (Nat → Int32))} (hk_28 : ∀ (x1 : Int32) (x2 : Int32) (x3 : Int32) (x4 : Int32) (of : Int32) (op : Int32) (cr : Int32) (wn : Int32) (dk : Nat → Int32) (mm : Nat → Int32) (wk : Nat → Int32) (us : Nat → Int32), k_28 x1 x2 x3 x4 of op cr wn dk mm wk us = some R → ∀ (H : Heap) (locs : List Loc) (ls : Array Slot), va_P (dC, dI) vwCl (w_R cI cZ cS aR aRd aRm aRw aRs aRt aRc aRl aRh aRu aRx aRy aRk of op cr wn fp fs dk mm wk sg tb cs lw hg us de sa ky) H → va_D A (w_R cI cZ cS aR aRd aRm aRw aRs aRt aRc aRl aRh aRu aRx aRy aRk of op cr wn fp fs dk mm wk sg tb cs lw hg us de sa ky) → va_S A s.heap H locs → lv_has ls 5 [(0, .ref aR), (1, .int x1), (2, .int x2), (3, .int x3), (4, .int x4)] → W p l e ({ frames := 2, cells := 0, slots := 0, locals := 46 } : Room) s m ([.ref aR] : List Value).toArray below meth c H locs 0 0 (MQ below (mk_QI (dC, dI) vwCl (tyz cI cZ cS) A (fun u : Int32 × Int32 × Int32 × Int32 × (Nat → Int32) × (Nat → Int32) × (Nat → Int32) × (Nat → Int32) => w_R cI cZ cS aR aRd aRm aRw aRs aRt aRc aRl aRh aRu aRx aRy aRk u.1 u.2.1 u.2.2.1 u.2.2.2.1 fp fs u.2.2.2.2.1 u.2.2.2.2.2.1 u.2.2.2.2.2.2.1 sg tb cs lw hg u.2.2.2.2.2.2.2 de sa ky) R) ([.ref aR] : List Value).toArray s 0 0 A) (F0 m 28 ls [])) (x1 : Int32) (x2 : Int32) (x4 : Int32) (of : Int32) (op : Int32) (cr : Int32) (wn : Int32) (dk : Nat → Int32) (mm : Nat → Int32) (wk : Nat → Int32) (us : Nat → Int32) (h : p_R_recover_66 k_28 x1 x2 x4 of op cr wn dk mm wk us = some R) : ∀ (H : Heap) (locs : List Loc) (ls : Array Slot), va_P (dC, dI) vwCl (w_R cI cZ cS aR aRd aRm aRw aRs aRt aRc aRl aRh aRu aRx aRy aRk of op cr wn fp fs dk mm wk sg tb cs lw hg us de sa ky) H → va_D A (w_R cI cZ cS aR aRd aRm aRw aRs aRt aRc aRl aRh aRu aRx aRy aRk of op cr wn fp fs dk mm wk sg tb cs lw hg us de sa ky) → va_S A s.heap H locs → lv_has ls 5 [(0, .ref aR), (1, .int x1), (2, .int x2), (4, .int x4)] → W p l e ({ frames := 2, cells := 0, slots := 0, locals := 46 } : Room) s m ([.ref aR] : List Value).toArray below meth c H locs 0 0 (MQ below (mk_QI (dC, dI) vwCl (tyz cI cZ cS) A (fun u : Int32 × Int32 × Int32 × Int32 × (Nat → Int32) × (Nat → Int32) × (Nat → Int32) × (Nat → Int32) => w_R cI cZ cS aR aRd aRm aRw aRs aRt aRc aRl aRh aRu aRx aRy aRk u.1 u.2.1 u.2.2.1 u.2.2.2.1 fp fs u.2.2.2.2.1 u.2.2.2.2.2.1 u.2.2.2.2.2.2.1 sg tb cs lw hg u.2.2.2.2.2.2.2 de sa ky) R) ([.ref aR] : List Value).toArray s 0 0 A) (F0 m 66 ls []) := by
  intro H locs ls hP hD hS hl
  obtain ⟨⟨hx, hb, hml, hown, hts⟩, hrt, hlk, hN⟩ := id E
  have hown : s.vm.findClass RX5 = some m.cls := hown
  unfold p_R_recover_66 at h
  refine lv_iconst (v := 0) hx hb dX5_recover_66 (by decide) ?_
  exact b_R_recover_67 E hA hK R hk_28 x1 x2 x4 0 of op cr wn dk mm wk us h H locs ls hP hD hS (lv_sub hl [0, 1, 2, 3] rfl)
set_option maxHeartbeats 4000000 in
set_option maxRecDepth 100000 in
theorem b_R_recover_28 {p : Program} {l : Launch} {e : Env} {s : State} {m : MethodId} {below : List Frame} {meth : Method} {c : Code} {A : Nat → Prop} {dC : Nat → ClassId} {dI : Nat → Nat → Nat} {cI cZ cS : ClassId} {aR aRd aRm aRw aRs aRt aRc aRl aRh aRu aRx aRy aRk : Nat} {fp : Int32} {fs : Int32} {sg : Nat → Int32} {tb : Nat → Int32} {cs : Nat → Int32} {lw : Nat → Int32} {hg : Nat → Int32} {de : Nat → Int32} {sa : Nat → Int32} {ky : Nat → Int32} (E : mk_En p s m meth c cX5_recover 5 (some .int) ([.ref aR] : List Value).toArray wsX5_recover yX5_recover.cls) (hA : ∀ q : Nat, s.heap.size ≤ q → A q) (hK : va_K (dC, dI) vwCl (tyz cI cZ cS) s) (R : Int32 × Int32 × Int32 × Int32 × Int32 × (Nat → Int32) × (Nat → Int32) × (Nat → Int32) × (Nat → Int32)) {k_28 : Int32 → Int32 → Int32 → Int32 → Int32 → Int32 → Int32 → Int32 → (Nat → Int32) → (Nat → Int32) → (Nat → Int32) → (Nat → Int32) → Option (Int32 × Int32 × Int32 × Int32 × Int32 × (Nat → Int32) × (Nat → Int32) × (Nat → Int32) × (Nat → Int32))} (hk_28 : ∀ (x1 : Int32) (x2 : Int32) (x3 : Int32) (x4 : Int32) (of : Int32) (op : Int32) (cr : Int32) (wn : Int32) (dk : Nat → Int32) (mm : Nat → Int32) (wk : Nat → Int32) (us : Nat → Int32), k_28 x1 x2 x3 x4 of op cr wn dk mm wk us = some R → ∀ (H : Heap) (locs : List Loc) (ls : Array Slot), va_P (dC, dI) vwCl (w_R cI cZ cS aR aRd aRm aRw aRs aRt aRc aRl aRh aRu aRx aRy aRk of op cr wn fp fs dk mm wk sg tb cs lw hg us de sa ky) H → va_D A (w_R cI cZ cS aR aRd aRm aRw aRs aRt aRc aRl aRh aRu aRx aRy aRk of op cr wn fp fs dk mm wk sg tb cs lw hg us de sa ky) → va_S A s.heap H locs → lv_has ls 5 [(0, .ref aR), (1, .int x1), (2, .int x2), (3, .int x3), (4, .int x4)] → W p l e ({ frames := 2, cells := 0, slots := 0, locals := 46 } : Room) s m ([.ref aR] : List Value).toArray below meth c H locs 0 0 (MQ below (mk_QI (dC, dI) vwCl (tyz cI cZ cS) A (fun u : Int32 × Int32 × Int32 × Int32 × (Nat → Int32) × (Nat → Int32) × (Nat → Int32) × (Nat → Int32) => w_R cI cZ cS aR aRd aRm aRw aRs aRt aRc aRl aRh aRu aRx aRy aRk u.1 u.2.1 u.2.2.1 u.2.2.2.1 fp fs u.2.2.2.2.1 u.2.2.2.2.2.1 u.2.2.2.2.2.2.1 sg tb cs lw hg u.2.2.2.2.2.2.2 de sa ky) R) ([.ref aR] : List Value).toArray s 0 0 A) (F0 m 28 ls [])) (x1 : Int32) (x2 : Int32) (x3 : Int32) (x4 : Int32) (of : Int32) (op : Int32) (cr : Int32) (wn : Int32) (dk : Nat → Int32) (mm : Nat → Int32) (wk : Nat → Int32) (us : Nat → Int32) (h : p_R_recover_28 k_28 x1 x2 x3 x4 of op cr wn dk mm wk us = some R) : ∀ (H : Heap) (locs : List Loc) (ls : Array Slot), va_P (dC, dI) vwCl (w_R cI cZ cS aR aRd aRm aRw aRs aRt aRc aRl aRh aRu aRx aRy aRk of op cr wn fp fs dk mm wk sg tb cs lw hg us de sa ky) H → va_D A (w_R cI cZ cS aR aRd aRm aRw aRs aRt aRc aRl aRh aRu aRx aRy aRk of op cr wn fp fs dk mm wk sg tb cs lw hg us de sa ky) → va_S A s.heap H locs → lv_has ls 5 [(0, .ref aR), (1, .int x1), (2, .int x2), (3, .int x3), (4, .int x4)] → W p l e ({ frames := 2, cells := 0, slots := 0, locals := 46 } : Room) s m ([.ref aR] : List Value).toArray below meth c H locs 0 0 (MQ below (mk_QI (dC, dI) vwCl (tyz cI cZ cS) A (fun u : Int32 × Int32 × Int32 × Int32 × (Nat → Int32) × (Nat → Int32) × (Nat → Int32) × (Nat → Int32) => w_R cI cZ cS aR aRd aRm aRw aRs aRt aRc aRl aRh aRu aRx aRy aRk u.1 u.2.1 u.2.2.1 u.2.2.2.1 fp fs u.2.2.2.2.1 u.2.2.2.2.2.1 u.2.2.2.2.2.2.1 sg tb cs lw hg u.2.2.2.2.2.2.2 de sa ky) R) ([.ref aR] : List Value).toArray s 0 0 A) (F0 m 28 ls []) := by
  intro H locs ls hP hD hS hl
  obtain ⟨⟨hx, hb, hml, hown, hts⟩, hrt, hlk, hN⟩ := id E
  have hown : s.vm.findClass RX5 = some m.cls := hown
  unfold p_R_recover_28 at h
  refine lv_iload hx hb dX5_recover_28 (lv_at hl 4 rfl) ?_
  refine lv_bipush (v := 16) hx hb dX5_recover_30 (by decide) ?_
  refine lv_icmp_ge (tgt := 77) hx hb dX5_recover_32 (by decide) (fun c_5 => ?_) (fun c_5 => ?_)
  · replace h := (kp_if h).1 c_5
    refine lv_iload_n hx hb dX5_recover_77 rfl (lv_at hl 3 rfl) ?_
    refine lv_if_eq (tgt := 94) hx hb dX5_recover_78 (by decide) (fun c_6 => ?_) (fun c_6 => ?_)
    · replace h := (kp_if h).1 c_6
      exact b_R_recover_94 E hA hK R of op cr wn dk mm wk us h H locs ls hP hD hS (lv_sub hl [0] rfl)
    · replace h := (kp_if h).2 c_6
      refine lv_aload_n hx hb dX5_recover_81 rfl (lv_at hl 0 rfl) ?_
      refine lv_iconst (v := 0) hx hb dX5_recover_82 (by decide) ?_
      refine lv_iconst (v := 0) hx hb dX5_recover_83 (by decide) ?_
      obtain ⟨r_7, hr_7, h⟩ := kp_bind h
      refine mk_contI (w := w_R cI cZ cS aR aRd aRm aRw aRs aRt aRc aRl aRh aRu aRx aRy aRk of op cr wn fp fs dk mm wk sg tb cs lw hg us de sa ky) (w0 := w_R cI cZ cS aR aRd aRm aRw aRs aRt aRc aRl aRh aRu aRx aRy aRk of op cr wn fp fs dk mm wk sg tb cs lw hg us de sa ky) (wr := []) (w2 := w_R cI cZ cS aR aRd aRm aRw aRs aRt aRc aRl aRh aRu aRx aRy aRk r_7.2.1 op r_7.2.2.1 r_7.2.2.2.1 fp fs r_7.2.2.2.2.1 mm r_7.2.2.2.2.2 sg tb cs lw hg us de sa ky) hP hD hS hA [0, 1, 2, 3, 4, 5, 6, 7, 8, 9, 10, 11, 12] [] rfl rfl (by decide) (by decide) [0, 1, 2, 3, 4, 5, 6, 7, 8, 9, 10, 11, 12] rfl (by decide) (va_runV (As := [.int 0, .int 0]) (rest := []) ⟨hx, hb, hml, hown, hts⟩ (c_R_putHead l dC dI cI cZ cS aR aRd aRm aRw aRs aRt aRc aRl aRh aRu aRx aRy aRk of op cr wn fp fs dk mm wk sg tb cs lw hg us de sa ky 0 0 r_7 hr_7 H.size) (cwV 2 hts gX5_recover_X5_putHead rfl rfl rfl (by decide +kernel) ⟨Nat.le_of_ble_eq_true rfl, Nat.le_of_ble_eq_true rfl⟩) (mk_preV (w0 := w_R cI cZ cS aR aRd aRm aRw aRs aRt aRc aRl aRh aRu aRx aRy aRk of op cr wn fp fs dk mm wk sg tb cs lw hg us de sa ky) (ci := 5) (q0 := 0) hN hK (mk_pick hP [0, 1, 2, 3, 4, 5, 6, 7, 8, 9, 10, 11, 12] rfl) (hD.sub [0, 1, 2, 3, 4, 5, 6, 7, 8, 9, 10, 11, 12] (by decide) rfl) rfl rfl rfl) rfl rfl hl.1 rfl (lv_room (Nat.le_of_ble_eq_true rfl)) dX5_recover_84 ⟨Nat.zero_le _, Nat.zero_le _⟩) (fun H locs hP hD hS => ?_)
      refine lv_if_eq (tgt := 94) hx hb dX5_recover_87 (by decide) (fun c_8 => ?_) (fun c_8 => ?_)
      · replace h := (kp_if h).1 c_8
        exact b_R_recover_94 E hA hK R r_7.2.1 op r_7.2.2.1 r_7.2.2.2.1 r_7.2.2.2.2.1 mm r_7.2.2.2.2.2 us h H locs ls hP hD hS (lv_sub hl [0] rfl)
      · replace h := (kp_if h).2 c_8
        refine lv_iconst (v := 1) hx hb dX5_recover_90 (by decide) ?_
        refine lv_goto (tgt := 95) hx hb dX5_recover_91 (by decide) ?_
        exact b_R_recover_95 E hA hK R 1 r_7.2.1 op r_7.2.2.1 r_7.2.2.2.1 r_7.2.2.2.2.1 mm r_7.2.2.2.2.2 us h H locs ls hP hD hS (lv_sub hl [0] rfl)
  · replace h := (kp_if h).2 c_5
    refine lv_iload_n hx hb dX5_recover_35 rfl (lv_at hl 1 rfl) ?_
    refine lv_iload hx hb dX5_recover_36 (lv_at hl 4 rfl) ?_
    refine lv_ishr hx hb dX5_recover_38 ?_
    refine lv_iconst (v := 1) hx hb dX5_recover_39 (by decide) ?_
    refine lv_iand hx hb dX5_recover_40 ?_
    refine lv_iconst (v := 1) hx hb dX5_recover_41 (by decide) ?_
    refine lv_icmp_ne (tgt := 71) hx hb dX5_recover_42 (by decide) (fun c_9 => ?_) (fun c_9 => ?_)
    · replace h := (kp_if h).2 c_9
      exact b_R_recover_71 E hA hK R hk_28 x1 x2 x3 x4 of op cr wn dk mm wk us h H locs ls hP hD hS (lv_sub hl [0, 1, 2, 3, 4] rfl)
    · replace h := (kp_if h).1 c_9
      refine lv_iload_n hx hb dX5_recover_45 rfl (lv_at hl 3 rfl) ?_
      refine lv_if_eq (tgt := 66) hx hb dX5_recover_46 (by decide) (fun c_10 => ?_) (fun c_10 => ?_)
      · replace h := (kp_if h).1 c_10
        exact b_R_recover_66 E hA hK R hk_28 x1 x2 x4 of op cr wn dk mm wk us h H locs ls hP hD hS (lv_sub hl [0, 1, 2, 4] rfl)
      · replace h := (kp_if h).2 c_10
        refine lv_aload_n hx hb dX5_recover_49 rfl (lv_at hl 0 rfl) ?_
        refine lv_iload hx hb dX5_recover_50 (lv_at hl 4 rfl) ?_
        refine lv_bipush (v := 17) hx hb dX5_recover_52 (by decide) ?_
        refine lv_iload_n hx hb dX5_recover_54 rfl (lv_at hl 2 rfl) ?_
        refine lv_iadd hx hb dX5_recover_55 ?_
        obtain ⟨r_11, hr_11, h⟩ := kp_bind h
        refine mk_contI (w := w_R cI cZ cS aR aRd aRm aRw aRs aRt aRc aRl aRh aRu aRx aRy aRk of op cr wn fp fs dk mm wk sg tb cs lw hg us de sa ky) (w0 := w_R cI cZ cS aR aRd aRm aRw aRs aRt aRc aRl aRh aRu aRx aRy aRk of op cr wn fp fs dk mm wk sg tb cs lw hg us de sa ky) (wr := []) (w2 := w_R cI cZ cS aR aRd aRm aRw aRs aRt aRc aRl aRh aRu aRx aRy aRk r_11.2.1 op r_11.2.2.1 r_11.2.2.2.1 fp fs r_11.2.2.2.2.1 mm r_11.2.2.2.2.2 sg tb cs lw hg us de sa ky) hP hD hS hA [0, 1, 2, 3, 4, 5, 6, 7, 8, 9, 10, 11, 12] [] rfl rfl (by decide) (by decide) [0, 1, 2, 3, 4, 5, 6, 7, 8, 9, 10, 11, 12] rfl (by decide) (va_runV (As := [.int x4, .int (17 + x2)]) (rest := []) ⟨hx, hb, hml, hown, hts⟩ (c_R_putFromDisk l dC dI cI cZ cS aR aRd aRm aRw aRs aRt aRc aRl aRh aRu aRx aRy aRk of op cr wn fp fs dk mm wk sg tb cs lw hg us de sa ky x4 (17 + x2) r_11 hr_11 H.size) (cwV 2 hts gX5_recover_X5_putFromDisk rfl rfl rfl (by decide +kernel) ⟨Nat.le_of_ble_eq_true rfl, Nat.le_of_ble_eq_true rfl⟩) (mk_preV (w0 := w_R cI cZ cS aR aRd aRm aRw aRs aRt aRc aRl aRh aRu aRx aRy aRk of op cr wn fp fs dk mm wk sg tb cs lw hg us de sa ky) (ci := 5) (q0 := 0) hN hK (mk_pick hP [0, 1, 2, 3, 4, 5, 6, 7, 8, 9, 10, 11, 12] rfl) (hD.sub [0, 1, 2, 3, 4, 5, 6, 7, 8, 9, 10, 11, 12] (by decide) rfl) rfl rfl rfl) rfl rfl hl.1 rfl (lv_room (Nat.le_of_ble_eq_true rfl)) dX5_recover_56 ⟨Nat.zero_le _, Nat.zero_le _⟩) (fun H locs hP hD hS => ?_)
        refine lv_if_eq (tgt := 66) hx hb dX5_recover_59 (by decide) (fun c_12 => ?_) (fun c_12 => ?_)
        · replace h := (kp_if h).1 c_12
          exact b_R_recover_66 E hA hK R hk_28 x1 x2 x4 r_11.2.1 op r_11.2.2.1 r_11.2.2.2.1 r_11.2.2.2.2.1 mm r_11.2.2.2.2.2 us h H locs ls hP hD hS (lv_sub hl [0, 1, 2, 4] rfl)
        · replace h := (kp_if h).2 c_12
          refine lv_iconst (v := 1) hx hb dX5_recover_62 (by decide) ?_
          refine lv_goto (tgt := 67) hx hb dX5_recover_63 (by decide) ?_
          exact b_R_recover_67 E hA hK R hk_28 x1 x2 x4 1 r_11.2.1 op r_11.2.2.1 r_11.2.2.2.1 r_11.2.2.2.2.1 mm r_11.2.2.2.2.2 us h H locs ls hP hD hS (lv_sub hl [0, 1, 2, 4] rfl)
set_option maxHeartbeats 4000000 in
set_option maxRecDepth 100000 in
theorem l_R_recover_28 {p : Program} {l : Launch} {e : Env} {s : State} {m : MethodId} {below : List Frame} {meth : Method} {c : Code} {A : Nat → Prop} {dC : Nat → ClassId} {dI : Nat → Nat → Nat} {cI cZ cS : ClassId} {aR aRd aRm aRw aRs aRt aRc aRl aRh aRu aRx aRy aRk : Nat} {fp : Int32} {fs : Int32} {sg : Nat → Int32} {tb : Nat → Int32} {cs : Nat → Int32} {lw : Nat → Int32} {hg : Nat → Int32} {de : Nat → Int32} {sa : Nat → Int32} {ky : Nat → Int32} (E : mk_En p s m meth c cX5_recover 5 (some .int) ([.ref aR] : List Value).toArray wsX5_recover yX5_recover.cls) (hA : ∀ q : Nat, s.heap.size ≤ q → A q) (hK : va_K (dC, dI) vwCl (tyz cI cZ cS) s) (R : Int32 × Int32 × Int32 × Int32 × Int32 × (Nat → Int32) × (Nat → Int32) × (Nat → Int32) × (Nat → Int32)) : ∀ (n : Nat) (x1 : Int32) (x2 : Int32) (x3 : Int32) (x4 : Int32) (of : Int32) (op : Int32) (cr : Int32) (wn : Int32) (dk : Nat → Int32) (mm : Nat → Int32) (wk : Nat → Int32) (us : Nat → Int32), pl_R_recover_28 n x1 x2 x3 x4 of op cr wn dk mm wk us = some R → ∀ (H : Heap) (locs : List Loc) (ls : Array Slot), va_P (dC, dI) vwCl (w_R cI cZ cS aR aRd aRm aRw aRs aRt aRc aRl aRh aRu aRx aRy aRk of op cr wn fp fs dk mm wk sg tb cs lw hg us de sa ky) H → va_D A (w_R cI cZ cS aR aRd aRm aRw aRs aRt aRc aRl aRh aRu aRx aRy aRk of op cr wn fp fs dk mm wk sg tb cs lw hg us de sa ky) → va_S A s.heap H locs → lv_has ls 5 [(0, .ref aR), (1, .int x1), (2, .int x2), (3, .int x3), (4, .int x4)] → W p l e ({ frames := 2, cells := 0, slots := 0, locals := 46 } : Room) s m ([.ref aR] : List Value).toArray below meth c H locs 0 0 (MQ below (mk_QI (dC, dI) vwCl (tyz cI cZ cS) A (fun u : Int32 × Int32 × Int32 × Int32 × (Nat → Int32) × (Nat → Int32) × (Nat → Int32) × (Nat → Int32) => w_R cI cZ cS aR aRd aRm aRw aRs aRt aRc aRl aRh aRu aRx aRy aRk u.1 u.2.1 u.2.2.1 u.2.2.2.1 fp fs u.2.2.2.2.1 u.2.2.2.2.2.1 u.2.2.2.2.2.2.1 sg tb cs lw hg u.2.2.2.2.2.2.2 de sa ky) R) ([.ref aR] : List Value).toArray s 0 0 A) (F0 m 28 ls []) := by
  intro n
  induction n with
  | zero =>
    intro x1 x2 x3 x4 of op cr wn dk mm wk us h
    cases h
  | succ n ih =>
    intro x1 x2 x3 x4 of op cr wn dk mm wk us h
    exact b_R_recover_28 E hA hK R ih x1 x2 x3 x4 of op cr wn dk mm wk us h
set_option maxHeartbeats 4000000 in
set_option maxRecDepth 100000 in
theorem c_R_recover (l : Launch) (dC : Nat → ClassId) (dI : Nat → Nat → Nat) (cI cZ cS : ClassId) (aR aRd aRm aRw aRs aRt aRc aRl aRh aRu aRx aRy aRk : Nat) (of : Int32) (op : Int32) (cr : Int32) (wn : Int32) (fp : Int32) (fs : Int32) (dk : Nat → Int32) (mm : Nat → Int32) (wk : Nat → Int32) (sg : Nat → Int32) (tb : Nat → Int32) (cs : Nat → Int32) (lw : Nat → Int32) (hg : Nat → Int32) (us : Nat → Int32) (de : Nat → Int32) (sa : Nat → Int32) (ky : Nat → Int32) : CtI l yX5_recover wsX5_recover ({ frames := 2, cells := 0, slots := 0, locals := 46 }) (dC, dI) vwCl (tyz cI cZ cS) [.ref aR] (w_R cI cZ cS aR aRd aRm aRw aRs aRt aRc aRl aRh aRu aRx aRy aRk of op cr wn fp fs dk mm wk sg tb cs lw hg us de sa ky) (fun u : Int32 × Int32 × Int32 × Int32 × (Nat → Int32) × (Nat → Int32) × (Nat → Int32) × (Nat → Int32) => w_R cI cZ cS aR aRd aRm aRw aRs aRt aRc aRl aRh aRu aRx aRy aRk u.1 u.2.1 u.2.2.1 u.2.2.2.1 fp fs u.2.2.2.2.1 u.2.2.2.2.2.1 u.2.2.2.2.2.2.1 sg tb cs lw hg u.2.2.2.2.2.2.2 de sa ky) (p_R_recover of op cr wn dk mm wk us) := by
  intro R h
  refine mk_enter (Qc := (fun A => mk_QI (dC, dI) vwCl (tyz cI cZ cS) A (fun u : Int32 × Int32 × Int32 × Int32 × (Nat → Int32) × (Nat → Int32) × (Nat → Int32) × (Nat → Int32) => w_R cI cZ cS aR aRd aRm aRw aRs aRt aRc aRl aRh aRu aRx aRy aRk u.1 u.2.1 u.2.2.1 u.2.2.2.1 fp fs u.2.2.2.2.1 u.2.2.2.2.2.1 u.2.2.2.2.2.2.1 sg tb cs lw hg u.2.2.2.2.2.2.2 de sa ky) R)) (by decide) rfl (Nat.le_of_ble_eq_true rfl) ?_
  intro p e s m below meth c A E hA hK H locs ls hP hD hS hl
  obtain ⟨⟨hx, hb, hml, hown, hts⟩, hrt, hlk, hN⟩ := id E
  have hown : s.vm.findClass RX5 = some m.cls := hown
  have hl : lv_has ls 5 [(0, .ref aR)] := hl
  unfold p_R_recover at h
  refine lv_aload_n hx hb dX5_recover_0 rfl (lv_at hl 0 rfl) ?_
  refine lv_iconst (v := 0) hx hb dX5_recover_1 (by decide) ?_
  refine va_put (D := (dC, dI)) (ci := 5) (v := .int 0) (ty := .boolean) (C := RX5) (T := TX5) (N := 18) hx hb hts iw_R_recover_Model tyX5 tyX5_ok nmX5 hown hK hP hD hS 0 rfl rfl 4 (by decide) (hts _ mm_R_recover_2) (fun _ h9 => h9) rfl (by decide +kernel) rfl rfl (Nat.le_of_ble_eq_true rfl) dX5_recover_2 (fun H locs hP hD hS => ?_)
  have hP : va_P (dC, dI) vwCl (w_R cI cZ cS aR aRd aRm aRw aRs aRt aRc aRl aRh aRu aRx aRy aRk 0 op cr wn fp fs dk mm wk sg tb cs lw hg us de sa ky) H := hP
  have hD : va_D A (w_R cI cZ cS aR aRd aRm aRw aRs aRt aRc aRl aRh aRu aRx aRy aRk 0 op cr wn fp fs dk mm wk sg tb cs lw hg us de sa ky) := hD
  refine lv_aload_n hx hb dX5_recover_5 rfl (lv_at hl 0 rfl) ?_
  obtain ⟨r_13, hr_13, h⟩ := kp_bind h
  refine mk_contR (w := w_R cI cZ cS aR aRd aRm aRw aRs aRt aRc aRl aRh aRu aRx aRy aRk 0 op cr wn fp fs dk mm wk sg tb cs lw hg us de sa ky) (w0 := w_R cI cZ cS aR aRd aRm aRw aRs aRt aRc aRl aRh aRu aRx aRy aRk 0 op cr wn fp fs dk mm wk sg tb cs lw hg us de sa ky) (wr := []) hP hD hS hA [0, 1, 2, 3, 4, 5, 6, 7, 8, 9, 10, 11, 12] [] rfl rfl (by decide) (by decide) [0, 1, 2, 3, 4, 5, 6, 7, 8, 9, 10, 11, 12] rfl (by decide) (va_runV (As := []) (rest := []) ⟨hx, hb, hml, hown, hts⟩ (c_R_isHead l dC dI cI cZ cS aR aRd aRm aRw aRs aRt aRc aRl aRh aRu aRx aRy aRk 0 op cr wn fp fs dk mm wk sg tb cs lw hg us de sa ky r_13 hr_13 H.size) (cwV 0 hts gX5_recover_X5_isHead rfl rfl rfl (by decide +kernel) ⟨Nat.le_of_ble_eq_true rfl, Nat.le_of_ble_eq_true rfl⟩) (mk_preV (w0 := w_R cI cZ cS aR aRd aRm aRw aRs aRt aRc aRl aRh aRu aRx aRy aRk 0 op cr wn fp fs dk mm wk sg tb cs lw hg us de sa ky) (ci := 5) (q0 := 0) hN hK (mk_pick hP [0, 1, 2, 3, 4, 5, 6, 7, 8, 9, 10, 11, 12] rfl) (hD.sub [0, 1, 2, 3, 4, 5, 6, 7, 8, 9, 10, 11, 12] (by decide) rfl) rfl rfl rfl) rfl rfl hl.1 rfl (lv_room (Nat.le_of_ble_eq_true rfl)) dX5_recover_6 ⟨Nat.zero_le _, Nat.zero_le _⟩) (fun H locs hP hD hS => ?_)
  refine lv_if_eq (tgt := 102) hx hb dX5_recover_9 (by decide) (fun c_14 => ?_) (fun c_14 => ?_)
  · replace h := (kp_if h).1 c_14
    exact b_R_recover_102 E hA hK R 0 op cr wn dk mm wk us h H locs ls hP hD hS (lv_sub hl [0] rfl)
  · replace h := (kp_if h).2 c_14
    refine lv_aload_n hx hb dX5_recover_12 rfl (lv_at hl 0 rfl) ?_
    refine va_get (D := (dC, dI)) (ci := 5) (v := .ref aRd) (C := RX5) (T := TX5) (N := 18) hx hb hts iw_R_recover_Model hown hK hP 0 rfl rfl 0 (by decide) (hts _ mm_R_recover_3) (fun _ h9 => h9) rfl dX5_recover_13 ?_
    refine lv_sipush (v := 258) hx hb dX5_recover_16 (by decide) ?_
    obtain ⟨hc_15, h⟩ := kp_in h
    refine va_iald hx hb hK hP 1 0 rfl rfl (kx_of hc_15) dX5_recover_19 ?_
    refine lv_topi (fun v_16 ev_16 => ?_)
    replace h := kp_kl h v_16 ev_16
    refine lv_istore_n (lv' := [(1, .int v_16), (0, .ref aR)]) hx hb dX5_recover_20 rfl hl (by decide) rfl (fun ls hl => ?_)
    refine lv_iconst (v := 0) hx hb dX5_recover_21 (by decide) ?_
    refine lv_istore_n (lv' := [(2, .int 0), (1, .int v_16), (0, .ref aR)]) hx hb dX5_recover_22 rfl hl (by decide) rfl (fun ls hl => ?_)
    refine lv_iconst (v := 1) hx hb dX5_recover_23 (by decide) ?_
    refine lv_istore_n (lv' := [(3, .int 1), (2, .int 0), (1, .int v_16), (0, .ref aR)]) hx hb dX5_recover_24 rfl hl (by decide) rfl (fun ls hl => ?_)
    refine lv_iconst (v := 0) hx hb dX5_recover_25 (by decide) ?_
    refine lv_istore (lv' := [(4, .int 0), (3, .int 1), (2, .int 0), (1, .int v_16), (0, .ref aR)]) hx hb dX5_recover_26 hl (by decide) rfl (fun ls hl => ?_)
    exact l_R_recover_28 E hA hK R 1000 v_16 0 1 0 0 op cr wn dk mm wk us h H locs ls hP hD hS (lv_sub hl [4, 3, 2, 1, 0] rfl)

/- Model.format()I -/
set_option maxRecDepth 20000 in
theorem mm_R_format_0 : Cond.fieldLink RX5 38 "JournaledTablesModel" "used" "[Z" ∈ wsX5_format := by decide +kernel
set_option maxRecDepth 20000 in
theorem iw_R_format_Model : ∀ w ∈ u_ws RX5 TX5 18, w ∈ wsX5_format := by decide +kernel
set_option maxRecDepth 20000 in
theorem mm_R_format_2 : Cond.fieldLink RX5 51 "JournaledTablesModel" "off" "Z" ∈ wsX5_format := by decide +kernel
set_option maxRecDepth 20000 in
theorem mm_R_format_3 : Cond.fieldLink RX5 22 "JournaledTablesModel" "crash" "I" ∈ wsX5_format := by decide +kernel
set_option maxRecDepth 20000 in
theorem mm_R_format_4 : Cond.fieldLink RX5 7 "JournaledTablesModel" "disk" "[I" ∈ wsX5_format := by decide +kernel
set_option maxHeartbeats 4000000 in
set_option maxRecDepth 100000 in
theorem b_R_format_38 {p : Program} {l : Launch} {e : Env} {s : State} {m : MethodId} {below : List Frame} {meth : Method} {c : Code} {A : Nat → Prop} {dC : Nat → ClassId} {dI : Nat → Nat → Nat} {cI cZ cS : ClassId} {aR aRd aRm aRw aRs aRt aRc aRl aRh aRu aRx aRy aRk : Nat} {wn : Int32} {fp : Int32} {fs : Int32} {wk : Nat → Int32} {sg : Nat → Int32} {tb : Nat → Int32} {cs : Nat → Int32} {lw : Nat → Int32} {hg : Nat → Int32} {de : Nat → Int32} {sa : Nat → Int32} {ky : Nat → Int32} (E : mk_En p s m meth c cX5_format 2 (some .int) ([.ref aR] : List Value).toArray wsX5_format yX5_format.cls) (hA : ∀ q : Nat, s.heap.size ≤ q → A q) (hK : va_K (dC, dI) vwCl (tyz cI cZ cS) s) (R : Int32 × Int32 × Int32 × Int32 × (Nat → Int32) × (Nat → Int32) × (Nat → Int32)) {k_38 : Int32 → Int32 → Int32 → Int32 → (Nat → Int32) → (Nat → Int32) → (Nat → Int32) → Option (Int32 × Int32 × Int32 × Int32 × (Nat → Int32) × (Nat → Int32) × (Nat → Int32))} (hk_38 : ∀ (x1 : Int32) (of : Int32) (op : Int32) (cr : Int32) (dk : Nat → Int32) (mm : Nat → Int32) (us : Nat → Int32), k_38 x1 of op cr dk mm us = some R → ∀ (H : Heap) (locs : List Loc) (ls : Array Slot), va_P (dC, dI) vwCl (w_R cI cZ cS aR aRd aRm aRw aRs aRt aRc aRl aRh aRu aRx aRy aRk of op cr wn fp fs dk mm wk sg tb cs lw hg us de sa ky) H → va_D A (w_R cI cZ cS aR aRd aRm aRw aRs aRt aRc aRl aRh aRu aRx aRy aRk of op cr wn fp fs dk mm wk sg tb cs lw hg us de sa ky) → va_S A s.heap H locs → lv_has ls 2 [(0, .ref aR), (1, .int x1)] → W p l e ({ frames := 1, cells := 0, slots := 0, locals := 21 } : Room) s m ([.ref aR] : List Value).toArray below meth c H locs 0 0 (MQ below (mk_QI (dC, dI) vwCl (tyz cI cZ cS) A (fun u : Int32 × Int32 × Int32 × (Nat → Int32) × (Nat → Int32) × (Nat → Int32) => w_R cI cZ cS aR aRd aRm aRw aRs aRt aRc aRl aRh aRu aRx aRy aRk u.1 u.2.1 u.2.2.1 wn fp fs u.2.2.2.1 u.2.2.2.2.1 wk sg tb cs lw hg u.2.2.2.2.2 de sa ky) R) ([.ref aR] : List Value).toArray s 0 0 A) (F0 m 38 ls [])) (x1 : Int32) (of : Int32) (op : Int32) (cr : Int32) (dk : Nat → Int32) (mm : Nat → Int32) (us : Nat → Int32) (h : p_R_format_38 k_38 x1 of op cr dk mm us = some R) : ∀ (H : Heap) (locs : List Loc) (ls : Array Slot), va_P (dC, dI) vwCl (w_R cI cZ cS aR aRd aRm aRw aRs aRt aRc aRl aRh aRu aRx aRy aRk of op cr wn fp fs dk mm wk sg tb cs lw hg us de sa ky) H → va_D A (w_R cI cZ cS aR aRd aRm aRw aRs aRt aRc aRl aRh aRu aRx aRy aRk of op cr wn fp fs dk mm wk sg tb cs lw hg us de sa ky) → va_S A s.heap H locs → lv_has ls 2 [(0, .ref aR), (1, .int x1)] → W p l e ({ frames := 1, cells := 0, slots := 0, locals := 21 } : Room) s m ([.ref aR] : List Value).toArray below meth c H locs 0 0 (MQ below (mk_QI (dC, dI) vwCl (tyz cI cZ cS) A (fun u : Int32 × Int32 × Int32 × (Nat → Int32) × (Nat → Int32) × (Nat → Int32) => w_R cI cZ cS aR aRd aRm aRw aRs aRt aRc aRl aRh aRu aRx aRy aRk u.1 u.2.1 u.2.2.1 wn fp fs u.2.2.2.1 u.2.2.2.2.1 wk sg tb cs lw hg u.2.2.2.2.2 de sa ky) R) ([.ref aR] : List Value).toArray s 0 0 A) (F0 m 38 ls []) := by
  intro H locs ls hP hD hS hl
  obtain ⟨⟨hx, hb, hml, hown, hts⟩, hrt, hlk, hN⟩ := id E
  have hown : s.vm.findClass RX5 = some m.cls := hown
  unfold p_R_format_38 at h
  refine lv_iload_n hx hb dX5_format_38 rfl (lv_at hl 1 rfl) ?_
  refine lv_iconst (v := 4) hx hb dX5_format_39 (by decide) ?_
  refine lv_icmp_ge (tgt := 56) hx hb dX5_format_40 (by decide) (fun c_1 => ?_) (fun c_1 => ?_)
  · replace h := (kp_if h).1 c_1
    refine lv_iconst (v := 0) hx hb dX5_format_56 (by decide) ?_
    cases h
    exact mk_iret E hK hP hD hS dX5_format_57
  · replace h := (kp_if h).2 c_1
    refine lv_aload_n hx hb dX5_format_43 rfl (lv_at hl 0 rfl) ?_
    refine va_get (D := (dC, dI)) (ci := 5) (v := .ref aRu) (C := RX5) (T := TX5) (N := 18) hx hb hts iw_R_format_Model hown hK hP 0 rfl rfl 12 (by decide) (hts _ mm_R_format_0) (fun _ h9 => h9) rfl dX5_format_44 ?_
    refine lv_iload_n hx hb dX5_format_47 rfl (lv_at hl 1 rfl) ?_
    refine lv_iconst (v := 0) hx hb dX5_format_48 (by decide) ?_
    obtain ⟨hc_2, h⟩ := kp_in h
    refine va_zast hx hb hK hP hD hS 9 1 rfl rfl (kx_of hc_2) dX5_format_49 (fun H locs hP hD hS => ?_)
    have hP : va_P (dC, dI) vwCl (w_R cI cZ cS aR aRd aRm aRw aRs aRt aRc aRl aRh aRu aRx aRy aRk of op cr wn fp fs dk mm wk sg tb cs lw hg (upd us x1.toNatClampNeg (vp_nar .boolean 0)) de sa ky) H := hP
    have hD : va_D A (w_R cI cZ cS aR aRd aRm aRw aRs aRt aRc aRl aRh aRu aRx aRy aRk of op cr wn fp fs dk mm wk sg tb cs lw hg (upd us x1.toNatClampNeg (vp_nar .boolean 0)) de sa ky) := hD
    refine lv_iinc (v := x1 + 1) (lv' := [(1, .int (x1 + 1)), (0, .ref aR)]) hx hb dX5_format_50 hl (k := 1) rfl rfl (by decide) rfl (fun ls hl => ?_)
    refine lv_goto (tgt := 38) hx hb dX5_format_53 (by decide) ?_
    exact hk_38 (x1 + 1) of op cr dk mm (upd us x1.toNatClampNeg (vp_nar .boolean 0)) h H locs ls hP hD hS (lv_sub hl [1, 0] rfl)
set_option maxHeartbeats 4000000 in
set_option maxRecDepth 100000 in
theorem l_R_format_38 {p : Program} {l : Launch} {e : Env} {s : State} {m : MethodId} {below : List Frame} {meth : Method} {c : Code} {A : Nat → Prop} {dC : Nat → ClassId} {dI : Nat → Nat → Nat} {cI cZ cS : ClassId} {aR aRd aRm aRw aRs aRt aRc aRl aRh aRu aRx aRy aRk : Nat} {wn : Int32} {fp : Int32} {fs : Int32} {wk : Nat → Int32} {sg : Nat → Int32} {tb : Nat → Int32} {cs : Nat → Int32} {lw : Nat → Int32} {hg : Nat → Int32} {de : Nat → Int32} {sa : Nat → Int32} {ky : Nat → Int32} (E : mk_En p s m meth c cX5_format 2 (some .int) ([.ref aR] : List Value).toArray wsX5_format yX5_format.cls) (hA : ∀ q : Nat, s.heap.size ≤ q → A q) (hK : va_K (dC, dI) vwCl (tyz cI cZ cS) s) (R : Int32 × Int32 × Int32 × Int32 × (Nat → Int32) × (Nat → Int32) × (Nat → Int32)) : ∀ (n : Nat) (x1 : Int32) (of : Int32) (op : Int32) (cr : Int32) (dk : Nat → Int32) (mm : Nat → Int32) (us : Nat → Int32), pl_R_format_38 n x1 of op cr dk mm us = some R → ∀ (H : Heap) (locs : List Loc) (ls : Array Slot), va_P (dC, dI) vwCl (w_R cI cZ cS aR aRd aRm aRw aRs aRt aRc aRl aRh aRu aRx aRy aRk of op cr wn fp fs dk mm wk sg tb cs lw hg us de sa ky) H → va_D A (w_R cI cZ cS aR aRd aRm aRw aRs aRt aRc aRl aRh aRu aRx aRy aRk of op cr wn fp fs dk mm wk sg tb cs lw hg us de sa ky) → va_S A s.heap H locs → lv_has ls 2 [(0, .ref aR), (1, .int x1)] → W p l e ({ frames := 1, cells := 0, slots := 0, locals := 21 } : Room) s m ([.ref aR] : List Value).toArray below meth c H locs 0 0 (MQ below (mk_QI (dC, dI) vwCl (tyz cI cZ cS) A (fun u : Int32 × Int32 × Int32 × (Nat → Int32) × (Nat → Int32) × (Nat → Int32) => w_R cI cZ cS aR aRd aRm aRw aRs aRt aRc aRl aRh aRu aRx aRy aRk u.1 u.2.1 u.2.2.1 wn fp fs u.2.2.2.1 u.2.2.2.2.1 wk sg tb cs lw hg u.2.2.2.2.2 de sa ky) R) ([.ref aR] : List Value).toArray s 0 0 A) (F0 m 38 ls []) := by
  intro n
  induction n with
  | zero =>
    intro x1 of op cr dk mm us h
    cases h
  | succ n ih =>
    intro x1 of op cr dk mm us h
    exact b_R_format_38 E hA hK R ih x1 of op cr dk mm us h
set_option maxHeartbeats 4000000 in
set_option maxRecDepth 100000 in
theorem b_R_format_2 {p : Program} {l : Launch} {e : Env} {s : State} {m : MethodId} {below : List Frame} {meth : Method} {c : Code} {A : Nat → Prop} {dC : Nat → ClassId} {dI : Nat → Nat → Nat} {cI cZ cS : ClassId} {aR aRd aRm aRw aRs aRt aRc aRl aRh aRu aRx aRy aRk : Nat} {wn : Int32} {fp : Int32} {fs : Int32} {wk : Nat → Int32} {sg : Nat → Int32} {tb : Nat → Int32} {cs : Nat → Int32} {lw : Nat → Int32} {hg : Nat → Int32} {de : Nat → Int32} {sa : Nat → Int32} {ky : Nat → Int32} (E : mk_En p s m meth c cX5_format 2 (some .int) ([.ref aR] : List Value).toArray wsX5_format yX5_format.cls) (hA : ∀ q : Nat, s.heap.size ≤ q → A q) (hK : va_K (dC, dI) vwCl (tyz cI cZ cS) s) (R : Int32 × Int32 × Int32 × Int32 × (Nat → Int32) × (Nat → Int32) × (Nat → Int32)) {k_2 : Int32 → Int32 → Int32 → Int32 → (Nat → Int32) → (Nat → Int32) → (Nat → Int32) → Option (Int32 × Int32 × Int32 × Int32 × (Nat → Int32) × (Nat → Int32) × (Nat → Int32))} (hk_2 : ∀ (x1 : Int32) (of : Int32) (op : Int32) (cr : Int32) (dk : Nat → Int32) (mm : Nat → Int32) (us : Nat → Int32), k_2 x1 of op cr dk mm us = some R → ∀ (H : Heap) (locs : List Loc) (ls : Array Slot), va_P (dC, dI) vwCl (w_R cI cZ cS aR aRd aRm aRw aRs aRt aRc aRl aRh aRu aRx aRy aRk of op cr wn fp fs dk mm wk sg tb cs lw hg us de sa ky) H → va_D A (w_R cI cZ cS aR aRd aRm aRw aRs aRt aRc aRl aRh aRu aRx aRy aRk of op cr wn fp fs dk mm wk sg tb cs lw hg us de sa ky) → va_S A s.heap H locs → lv_has ls 2 [(0, .ref aR), (1, .int x1)] → W p l e ({ frames := 1, cells := 0, slots := 0, locals := 21 } : Room) s m ([.ref aR] : List Value).toArray below meth c H locs 0 0 (MQ below (mk_QI (dC, dI) vwCl (tyz cI cZ cS) A (fun u : Int32 × Int32 × Int32 × (Nat → Int32) × (Nat → Int32) × (Nat → Int32) => w_R cI cZ cS aR aRd aRm aRw aRs aRt aRc aRl aRh aRu aRx aRy aRk u.1 u.2.1 u.2.2.1 wn fp fs u.2.2.2.1 u.2.2.2.2.1 wk sg tb cs lw hg u.2.2.2.2.2 de sa ky) R) ([.ref aR] : List Value).toArray s 0 0 A) (F0 m 2 ls [])) (x1 : Int32) (of : Int32) (op : Int32) (cr : Int32) (dk : Nat → Int32) (mm : Nat → Int32) (us : Nat → Int32) (h : p_R_format_2 k_2 x1 of op cr dk mm us = some R) : ∀ (H : Heap) (locs : List Loc) (ls : Array Slot), va_P (dC, dI) vwCl (w_R cI cZ cS aR aRd aRm aRw aRs aRt aRc aRl aRh aRu aRx aRy aRk of op cr wn fp fs dk mm wk sg tb cs lw hg us de sa ky) H → va_D A (w_R cI cZ cS aR aRd aRm aRw aRs aRt aRc aRl aRh aRu aRx aRy aRk of op cr wn fp fs dk mm wk sg tb cs lw hg us de sa ky) → va_S A s.heap H locs → lv_has ls 2 [(0, .ref aR), (1, .int x1)] → W p l e ({ frames := 1, cells := 0, slots := 0, locals := 21 } : Room) s m ([.ref aR] : List Value).toArray below meth c H locs 0 0 (MQ below (mk_QI (dC, dI) vwCl (tyz cI cZ cS) A (fun u : Int32 × Int32 × Int32 × (Nat → Int32) × (Nat → Int32) × (Nat → Int32) => w_R cI cZ cS aR aRd aRm aRw aRs aRt aRc aRl aRh aRu aRx aRy aRk u.1 u.2.1 u.2.2.1 wn fp fs u.2.2.2.1 u.2.2.2.2.1 wk sg tb cs lw hg u.2.2.2.2.2 de sa ky) R) ([.ref aR] : List Value).toArray s 0 0 A) (F0 m 2 ls []) := by
  intro H locs ls hP hD hS hl
  obtain ⟨⟨hx, hb, hml, hown, hts⟩, hrt, hlk, hN⟩ := id E
  have hown : s.vm.findClass RX5 = some m.cls := hown
  unfold p_R_format_2 at h
  refine lv_iload_n hx hb dX5_format_2 rfl (lv_at hl 1 rfl) ?_
  refine lv_sipush (v := 528) hx hb dX5_format_3 (by decide) ?_
  refine lv_icmp_ge (tgt := 22) hx hb dX5_format_6 (by decide) (fun c_3 => ?_) (fun c_3 => ?_)
  · replace h := (kp_if h).1 c_3
    refine lv_aload_n hx hb dX5_format_22 rfl (lv_at hl 0 rfl) ?_
    refine lv_iconst (v := 0) hx hb dX5_format_23 (by decide) ?_
    refine va_put (D := (dC, dI)) (ci := 5) (v := .int 0) (ty := .boolean) (C := RX5) (T := TX5) (N := 18) hx hb hts iw_R_format_Model tyX5 tyX5_ok nmX5 hown hK hP hD hS 0 rfl rfl 4 (by decide) (hts _ mm_R_format_2) (fun _ h9 => h9) rfl (by decide +kernel) rfl rfl (Nat.le_of_ble_eq_true rfl) dX5_format_24 (fun H locs hP hD hS => ?_)
    have hP : va_P (dC, dI) vwCl (w_R cI cZ cS aR aRd aRm aRw aRs aRt aRc aRl aRh aRu aRx aRy aRk 0 op cr wn fp fs dk mm wk sg tb cs lw hg us de sa ky) H := hP
    have hD : va_D A (w_R cI cZ cS aR aRd aRm aRw aRs aRt aRc aRl aRh aRu aRx aRy aRk 0 op cr wn fp fs dk mm wk sg tb cs lw hg us de sa ky) := hD
    refine lv_aload_n hx hb dX5_format_27 rfl (lv_at hl 0 rfl) ?_
    refine lv_iconst (v := (-1)) hx hb dX5_format_28 (by decide) ?_
    refine va_put (D := (dC, dI)) (ci := 5) (v := .int (-1)) (ty := .int) (C := RX5) (T := TX5) (N := 18) hx hb hts iw_R_format_Model tyX5 tyX5_ok nmX5 hown hK hP hD hS 0 rfl rfl 6 (by decide) (hts _ mm_R_format_3) (fun _ h9 => h9) rfl (by decide +kernel) rfl rfl (Nat.le_of_ble_eq_true rfl) dX5_format_29 (fun H locs hP hD hS => ?_)
    have hP : va_P (dC, dI) vwCl (w_R cI cZ cS aR aRd aRm aRw aRs aRt aRc aRl aRh aRu aRx aRy aRk 0 op (-1) wn fp fs dk mm wk sg tb cs lw hg us de sa ky) H := hP
    have hD : va_D A (w_R cI cZ cS aR aRd aRm aRw aRs aRt aRc aRl aRh aRu aRx aRy aRk 0 op (-1) wn fp fs dk mm wk sg tb cs lw hg us de sa ky) := hD
    refine lv_aload_n hx hb dX5_format_32 rfl (lv_at hl 0 rfl) ?_
    obtain ⟨r_4, hr_4, h⟩ := kp_bind h
    refine mk_contV (w := w_R cI cZ cS aR aRd aRm aRw aRs aRt aRc aRl aRh aRu aRx aRy aRk 0 op (-1) wn fp fs dk mm wk sg tb cs lw hg us de sa ky) (w0 := w_R cI cZ cS aR aRd aRm aRw aRs aRt aRc aRl aRh aRu aRx aRy aRk 0 op (-1) wn fp fs dk mm wk sg tb cs lw hg us de sa ky) (wr := []) (w2 := w_R cI cZ cS aR aRd aRm aRw aRs aRt aRc aRl aRh aRu aRx aRy aRk 0 r_4.1 (-1) wn fp fs dk r_4.2 wk sg tb cs lw hg us de sa ky) hP hD hS hA [0, 1, 2, 3, 4, 5, 6, 7, 8, 9, 10, 11, 12] [] rfl rfl (by decide) (by decide) [0, 1, 2, 3, 4, 5, 6, 7, 8, 9, 10, 11, 12] rfl (by decide) (va_runV (As := []) (rest := []) ⟨hx, hb, hml, hown, hts⟩ (c_R_copyBack l dC dI cI cZ cS aR aRd aRm aRw aRs aRt aRc aRl aRh aRu aRx aRy aRk 0 op (-1) wn fp fs dk mm wk sg tb cs lw hg us de sa ky r_4 hr_4 H.size) (cwV 0 hts gX5_format_X5_copyBack rfl rfl rfl (by decide +kernel) ⟨Nat.le_of_ble_eq_true rfl, Nat.le_of_ble_eq_true rfl⟩) (mk_preV (w0 := w_R cI cZ cS aR aRd aRm aRw aRs aRt aRc aRl aRh aRu aRx aRy aRk 0 op (-1) wn fp fs dk mm wk sg tb cs lw hg us de sa ky) (ci := 5) (q0 := 0) hN hK (mk_pick hP [0, 1, 2, 3, 4, 5, 6, 7, 8, 9, 10, 11, 12] rfl) (hD.sub [0, 1, 2, 3, 4, 5, 6, 7, 8, 9, 10, 11, 12] (by decide) rfl) rfl rfl rfl) rfl rfl hl.1 rfl (lv_room (Nat.le_of_ble_eq_true rfl)) dX5_format_33 ⟨Nat.zero_le _, Nat.zero_le _⟩) (fun H locs hP hD hS => ?_)
    refine lv_iconst (v := 0) hx hb dX5_format_36 (by decide) ?_
    refine lv_istore_n (lv' := [(1, .int 0), (0, .ref aR)]) hx hb dX5_format_37 rfl hl (by decide) rfl (fun ls hl => ?_)
    exact l_R_format_38 E hA hK R 1000 0 0 r_4.1 (-1) dk r_4.2 us h H locs ls hP hD hS (lv_sub hl [1, 0] rfl)
  · replace h := (kp_if h).2 c_3
    refine lv_aload_n hx hb dX5_format_9 rfl (lv_at hl 0 rfl) ?_
    refine va_get (D := (dC, dI)) (ci := 5) (v := .ref aRd) (C := RX5) (T := TX5) (N := 18) hx hb hts iw_R_format_Model hown hK hP 0 rfl rfl 0 (by decide) (hts _ mm_R_format_4) (fun _ h9 => h9) rfl dX5_format_10 ?_
    refine lv_iload_n hx hb dX5_format_13 rfl (lv_at hl 1 rfl) ?_
    refine lv_iconst (v := 0) hx hb dX5_format_14 (by decide) ?_
    obtain ⟨hc_5, h⟩ := kp_in h
    refine va_iast hx hb hK hP hD hS 1 0 rfl rfl (kx_of hc_5) dX5_format_15 (fun H locs hP hD hS => ?_)
    have hP : va_P (dC, dI) vwCl (w_R cI cZ cS aR aRd aRm aRw aRs aRt aRc aRl aRh aRu aRx aRy aRk of op cr wn fp fs (upd dk x1.toNatClampNeg 0) mm wk sg tb cs lw hg us de sa ky) H := hP
    have hD : va_D A (w_R cI cZ cS aR aRd aRm aRw aRs aRt aRc aRl aRh aRu aRx aRy aRk of op cr wn fp fs (upd dk x1.toNatClampNeg 0) mm wk sg tb cs lw hg us de sa ky) := hD
    refine lv_iinc (v := x1 + 1) (lv' := [(1, .int (x1 + 1)), (0, .ref aR)]) hx hb dX5_format_16 hl (k := 1) rfl rfl (by decide) rfl (fun ls hl => ?_)
    refine lv_goto (tgt := 2) hx hb dX5_format_19 (by decide) ?_
    exact hk_2 (x1 + 1) of op cr (upd dk x1.toNatClampNeg 0) mm us h H locs ls hP hD hS (lv_sub hl [1, 0] rfl)
set_option maxHeartbeats 4000000 in
set_option maxRecDepth 100000 in
theorem l_R_format_2 {p : Program} {l : Launch} {e : Env} {s : State} {m : MethodId} {below : List Frame} {meth : Method} {c : Code} {A : Nat → Prop} {dC : Nat → ClassId} {dI : Nat → Nat → Nat} {cI cZ cS : ClassId} {aR aRd aRm aRw aRs aRt aRc aRl aRh aRu aRx aRy aRk : Nat} {wn : Int32} {fp : Int32} {fs : Int32} {wk : Nat → Int32} {sg : Nat → Int32} {tb : Nat → Int32} {cs : Nat → Int32} {lw : Nat → Int32} {hg : Nat → Int32} {de : Nat → Int32} {sa : Nat → Int32} {ky : Nat → Int32} (E : mk_En p s m meth c cX5_format 2 (some .int) ([.ref aR] : List Value).toArray wsX5_format yX5_format.cls) (hA : ∀ q : Nat, s.heap.size ≤ q → A q) (hK : va_K (dC, dI) vwCl (tyz cI cZ cS) s) (R : Int32 × Int32 × Int32 × Int32 × (Nat → Int32) × (Nat → Int32) × (Nat → Int32)) : ∀ (n : Nat) (x1 : Int32) (of : Int32) (op : Int32) (cr : Int32) (dk : Nat → Int32) (mm : Nat → Int32) (us : Nat → Int32), pl_R_format_2 n x1 of op cr dk mm us = some R → ∀ (H : Heap) (locs : List Loc) (ls : Array Slot), va_P (dC, dI) vwCl (w_R cI cZ cS aR aRd aRm aRw aRs aRt aRc aRl aRh aRu aRx aRy aRk of op cr wn fp fs dk mm wk sg tb cs lw hg us de sa ky) H → va_D A (w_R cI cZ cS aR aRd aRm aRw aRs aRt aRc aRl aRh aRu aRx aRy aRk of op cr wn fp fs dk mm wk sg tb cs lw hg us de sa ky) → va_S A s.heap H locs → lv_has ls 2 [(0, .ref aR), (1, .int x1)] → W p l e ({ frames := 1, cells := 0, slots := 0, locals := 21 } : Room) s m ([.ref aR] : List Value).toArray below meth c H locs 0 0 (MQ below (mk_QI (dC, dI) vwCl (tyz cI cZ cS) A (fun u : Int32 × Int32 × Int32 × (Nat → Int32) × (Nat → Int32) × (Nat → Int32) => w_R cI cZ cS aR aRd aRm aRw aRs aRt aRc aRl aRh aRu aRx aRy aRk u.1 u.2.1 u.2.2.1 wn fp fs u.2.2.2.1 u.2.2.2.2.1 wk sg tb cs lw hg u.2.2.2.2.2 de sa ky) R) ([.ref aR] : List Value).toArray s 0 0 A) (F0 m 2 ls []) := by
  intro n
  induction n with
  | zero =>
    intro x1 of op cr dk mm us h
    cases h
  | succ n ih =>
    intro x1 of op cr dk mm us h
    exact b_R_format_2 E hA hK R ih x1 of op cr dk mm us h
set_option maxHeartbeats 4000000 in
set_option maxRecDepth 100000 in
theorem c_R_format (l : Launch) (dC : Nat → ClassId) (dI : Nat → Nat → Nat) (cI cZ cS : ClassId) (aR aRd aRm aRw aRs aRt aRc aRl aRh aRu aRx aRy aRk : Nat) (of : Int32) (op : Int32) (cr : Int32) (wn : Int32) (fp : Int32) (fs : Int32) (dk : Nat → Int32) (mm : Nat → Int32) (wk : Nat → Int32) (sg : Nat → Int32) (tb : Nat → Int32) (cs : Nat → Int32) (lw : Nat → Int32) (hg : Nat → Int32) (us : Nat → Int32) (de : Nat → Int32) (sa : Nat → Int32) (ky : Nat → Int32) : CtI l yX5_format wsX5_format ({ frames := 1, cells := 0, slots := 0, locals := 21 }) (dC, dI) vwCl (tyz cI cZ cS) [.ref aR] (w_R cI cZ cS aR aRd aRm aRw aRs aRt aRc aRl aRh aRu aRx aRy aRk of op cr wn fp fs dk mm wk sg tb cs lw hg us de sa ky) (fun u : Int32 × Int32 × Int32 × (Nat → Int32) × (Nat → Int32) × (Nat → Int32) => w_R cI cZ cS aR aRd aRm aRw aRs aRt aRc aRl aRh aRu aRx aRy aRk u.1 u.2.1 u.2.2.1 wn fp fs u.2.2.2.1 u.2.2.2.2.1 wk sg tb cs lw hg u.2.2.2.2.2 de sa ky) (p_R_format of op cr dk mm us) := by
  intro R h
  refine mk_enter (Qc := (fun A => mk_QI (dC, dI) vwCl (tyz cI cZ cS) A (fun u : Int32 × Int32 × Int32 × (Nat → Int32) × (Nat → Int32) × (Nat → Int32) => w_R cI cZ cS aR aRd aRm aRw aRs aRt aRc aRl aRh aRu aRx aRy aRk u.1 u.2.1 u.2.2.1 wn fp fs u.2.2.2.1 u.2.2.2.2.1 wk sg tb cs lw hg u.2.2.2.2.2 de sa ky) R)) (by decide) rfl (Nat.le_of_ble_eq_true rfl) ?_
  intro p e s m below meth c A E hA hK H locs ls hP hD hS hl
  obtain ⟨⟨hx, hb, hml, hown, hts⟩, hrt, hlk, hN⟩ := id E
  have hown : s.vm.findClass RX5 = some m.cls := hown
  have hl : lv_has ls 2 [(0, .ref aR)] := hl
  unfold p_R_format at h
  refine lv_iconst (v := 0) hx hb dX5_format_0 (by decide) ?_
  refine lv_istore_n (lv' := [(1, .int 0), (0, .ref aR)]) hx hb dX5_format_1 rfl hl (by decide) rfl (fun ls hl => ?_)
  exact l_R_format_2 E hA hK R 1000 0 of op cr dk mm us h H locs ls hP hD hS (lv_sub hl [1, 0] rfl)

/- Model.crashAfter(I)I -/
set_option maxRecDepth 20000 in
theorem mm_R_crashAfter_0 : Cond.fieldLink RX5 22 "JournaledTablesModel" "crash" "I" ∈ wsX5_crashAfter := by decide +kernel
set_option maxRecDepth 20000 in
theorem iw_R_crashAfter_Model : ∀ w ∈ u_ws RX5 TX5 18, w ∈ wsX5_crashAfter := by decide +kernel
set_option maxHeartbeats 4000000 in
set_option maxRecDepth 100000 in
theorem c_R_crashAfter (l : Launch) (dC : Nat → ClassId) (dI : Nat → Nat → Nat) (cI cZ cS : ClassId) (aR aRd aRm aRw aRs aRt aRc aRl aRh aRu aRx aRy aRk : Nat) (of : Int32) (op : Int32) (cr : Int32) (wn : Int32) (fp : Int32) (fs : Int32) (dk : Nat → Int32) (mm : Nat → Int32) (wk : Nat → Int32) (sg : Nat → Int32) (tb : Nat → Int32) (cs : Nat → Int32) (lw : Nat → Int32) (hg : Nat → Int32) (us : Nat → Int32) (de : Nat → Int32) (sa : Nat → Int32) (ky : Nat → Int32) (a1 : Int32) : CtI l yX5_crashAfter wsX5_crashAfter ({ frames := 0, cells := 0, slots := 0, locals := 0 }) (dC, dI) vwCl (tyz cI cZ cS) [.ref aR, .int a1] (w_R cI cZ cS aR aRd aRm aRw aRs aRt aRc aRl aRh aRu aRx aRy aRk of op cr wn fp fs dk mm wk sg tb cs lw hg us de sa ky) (fun u : Int32 => w_R cI cZ cS aR aRd aRm aRw aRs aRt aRc aRl aRh aRu aRx aRy aRk of op u wn fp fs dk mm wk sg tb cs lw hg us de sa ky) (p_R_crashAfter cr a1) := by
  intro R h
  refine mk_enter (Qc := (fun A => mk_QI (dC, dI) vwCl (tyz cI cZ cS) A (fun u : Int32 => w_R cI cZ cS aR aRd aRm aRw aRs aRt aRc aRl aRh aRu aRx aRy aRk of op u wn fp fs dk mm wk sg tb cs lw hg us de sa ky) R)) (by decide) rfl (Nat.le_of_ble_eq_true rfl) ?_
  intro p e s m below meth c A E hA hK H locs ls hP hD hS hl
  obtain ⟨⟨hx, hb, hml, hown, hts⟩, hrt, hlk, hN⟩ := id E
  have hown : s.vm.findClass RX5 = some m.cls := hown
  have hl : lv_has ls 2 [(0, .ref aR), (1, .int a1)] := hl
  unfold p_R_crashAfter at h
  refine lv_iload_n hx hb dX5_crashAfter_0 rfl (lv_at hl 1 rfl) ?_
  refine lv_if_ge (tgt := 7) hx hb dX5_crashAfter_1 (by decide) (fun c_1 => ?_) (fun c_1 => ?_)
  · replace h := (kp_if h).1 c_1
    refine lv_aload_n hx hb dX5_crashAfter_7 rfl (lv_at hl 0 rfl) ?_
    refine lv_iload_n hx hb dX5_crashAfter_8 rfl (lv_at hl 1 rfl) ?_
    refine va_put (D := (dC, dI)) (ci := 5) (v := .int a1) (ty := .int) (C := RX5) (T := TX5) (N := 18) hx hb hts iw_R_crashAfter_Model tyX5 tyX5_ok nmX5 hown hK hP hD hS 0 rfl rfl 6 (by decide) (hts _ mm_R_crashAfter_0) (fun _ h9 => h9) rfl (by decide +kernel) rfl rfl (Nat.le_of_ble_eq_true rfl) dX5_crashAfter_9 (fun H locs hP hD hS => ?_)
    have hP : va_P (dC, dI) vwCl (w_R cI cZ cS aR aRd aRm aRw aRs aRt aRc aRl aRh aRu aRx aRy aRk of op a1 wn fp fs dk mm wk sg tb cs lw hg us de sa ky) H := hP
    have hD : va_D A (w_R cI cZ cS aR aRd aRm aRw aRs aRt aRc aRl aRh aRu aRx aRy aRk of op a1 wn fp fs dk mm wk sg tb cs lw hg us de sa ky) := hD
    refine lv_iconst (v := 0) hx hb dX5_crashAfter_12 (by decide) ?_
    cases h
    exact mk_iret E hK hP hD hS dX5_crashAfter_13
  · replace h := (kp_if h).2 c_1
    refine lv_bipush (v := (-4)) hx hb dX5_crashAfter_4 (by decide) ?_
    cases h
    exact mk_iret E hK hP hD hS dX5_crashAfter_6

/- Model.peek(II)I -/
set_option maxRecDepth 20000 in
theorem mm_R_peek_0 : Cond.fieldLink RX5 7 "JournaledTablesModel" "disk" "[I" ∈ wsX5_peek := by decide +kernel
set_option maxRecDepth 20000 in
theorem iw_R_peek_Model : ∀ w ∈ u_ws RX5 TX5 18, w ∈ wsX5_peek := by decide +kernel
set_option maxHeartbeats 4000000 in
set_option maxRecDepth 100000 in
theorem b_R_peek_36 {p : Program} {l : Launch} {e : Env} {s : State} {m : MethodId} {below : List Frame} {meth : Method} {c : Code} {A : Nat → Prop} {dC : Nat → ClassId} {dI : Nat → Nat → Nat} {cI cZ cS : ClassId} {aR aRd aRm aRw aRs aRt aRc aRl aRh aRu aRx aRy aRk : Nat} {of : Int32} {op : Int32} {cr : Int32} {wn : Int32} {fp : Int32} {fs : Int32} {dk : Nat → Int32} {mm : Nat → Int32} {wk : Nat → Int32} {sg : Nat → Int32} {tb : Nat → Int32} {cs : Nat → Int32} {lw : Nat → Int32} {hg : Nat → Int32} {us : Nat → Int32} {de : Nat → Int32} {sa : Nat → Int32} {ky : Nat → Int32} {a1 : Int32} {a2 : Int32} (E : mk_En p s m meth c cX5_peek 3 (some .int) ([.ref aR, .int a1, .int a2] : List Value).toArray wsX5_peek yX5_peek.cls) (hA : ∀ q : Nat, s.heap.size ≤ q → A q) (hK : va_K (dC, dI) vwCl (tyz cI cZ cS) s) (R : Int32) (z0 : Int32) (h : p_R_peek_36 dk z0 = some R) : ∀ (H : Heap) (locs : List Loc) (ls : Array Slot), va_P (dC, dI) vwCl (w_R cI cZ cS aR aRd aRm aRw aRs aRt aRc aRl aRh aRu aRx aRy aRk of op cr wn fp fs dk mm wk sg tb cs lw hg us de sa ky) H → va_D A (w_R cI cZ cS aR aRd aRm aRw aRs aRt aRc aRl aRh aRu aRx aRy aRk of op cr wn fp fs dk mm wk sg tb cs lw hg us de sa ky) → va_S A s.heap H locs → lv_has ls 3 [] → W p l e ({ frames := 0, cells := 0, slots := 0, locals := 0 } : Room) s m ([.ref aR, .int a1, .int a2] : List Value).toArray below meth c H locs 0 0 (MQ below (mk_QR (dC, dI) vwCl (tyz cI cZ cS) A (w_R cI cZ cS aR aRd aRm aRw aRs aRt aRc aRl aRh aRu aRx aRy aRk of op cr wn fp fs dk mm wk sg tb cs lw hg us de sa ky) R) ([.ref aR, .int a1, .int a2] : List Value).toArray s 0 0 A) (F0 m 36 ls [.int z0]) := by
  intro H locs ls hP hD hS hl
  obtain ⟨⟨hx, hb, hml, hown, hts⟩, hrt, hlk, hN⟩ := id E
  have hown : s.vm.findClass RX5 = some m.cls := hown
  unfold p_R_peek_36 at h
  cases h
  exact mk_iretR E hK hP hD hS dX5_peek_36
set_option maxHeartbeats 4000000 in
set_option maxRecDepth 100000 in
theorem b_R_peek_20 {p : Program} {l : Launch} {e : Env} {s : State} {m : MethodId} {below : List Frame} {meth : Method} {c : Code} {A : Nat → Prop} {dC : Nat → ClassId} {dI : Nat → Nat → Nat} {cI cZ cS : ClassId} {aR aRd aRm aRw aRs aRt aRc aRl aRh aRu aRx aRy aRk : Nat} {of : Int32} {op : Int32} {cr : Int32} {wn : Int32} {fp : Int32} {fs : Int32} {dk : Nat → Int32} {mm : Nat → Int32} {wk : Nat → Int32} {sg : Nat → Int32} {tb : Nat → Int32} {cs : Nat → Int32} {lw : Nat → Int32} {hg : Nat → Int32} {us : Nat → Int32} {de : Nat → Int32} {sa : Nat → Int32} {ky : Nat → Int32} {a1 : Int32} {a2 : Int32} (E : mk_En p s m meth c cX5_peek 3 (some .int) ([.ref aR, .int a1, .int a2] : List Value).toArray wsX5_peek yX5_peek.cls) (hA : ∀ q : Nat, s.heap.size ≤ q → A q) (hK : va_K (dC, dI) vwCl (tyz cI cZ cS) s) (R : Int32) (h : p_R_peek_20 dk = some R) : ∀ (H : Heap) (locs : List Loc) (ls : Array Slot), va_P (dC, dI) vwCl (w_R cI cZ cS aR aRd aRm aRw aRs aRt aRc aRl aRh aRu aRx aRy aRk of op cr wn fp fs dk mm wk sg tb cs lw hg us de sa ky) H → va_D A (w_R cI cZ cS aR aRd aRm aRw aRs aRt aRc aRl aRh aRu aRx aRy aRk of op cr wn fp fs dk mm wk sg tb cs lw hg us de sa ky) → va_S A s.heap H locs → lv_has ls 3 [] → W p l e ({ frames := 0, cells := 0, slots := 0, locals := 0 } : Room) s m ([.ref aR, .int a1, .int a2] : List Value).toArray below meth c H locs 0 0 (MQ below (mk_QR (dC, dI) vwCl (tyz cI cZ cS) A (w_R cI cZ cS aR aRd aRm aRw aRs aRt aRc aRl aRh aRu aRx aRy aRk of op cr wn fp fs dk mm wk sg tb cs lw hg us de sa ky) R) ([.ref aR, .int a1, .int a2] : List Value).toArray s 0 0 A) (F0 m 20 ls []) := by
  intro H locs ls hP hD hS hl
  obtain ⟨⟨hx, hb, hml, hown, hts⟩, hrt, hlk, hN⟩ := id E
  have hown : s.vm.findClass RX5 = some m.cls := hown
  unfold p_R_peek_20 at h
  refine lv_bipush (v := (-4)) hx hb dX5_peek_20 (by decide) ?_
  refine lv_goto (tgt := 36) hx hb dX5_peek_22 (by decide) ?_
  exact b_R_peek_36 E hA hK R (-4) h H locs ls hP hD hS (lv_sub hl [] rfl)
set_option maxHeartbeats 4000000 in
set_option maxRecDepth 100000 in
theorem c_R_peek (l : Launch) (dC : Nat → ClassId) (dI : Nat → Nat → Nat) (cI cZ cS : ClassId) (aR aRd aRm aRw aRs aRt aRc aRl aRh aRu aRx aRy aRk : Nat) (of : Int32) (op : Int32) (cr : Int32) (wn : Int32) (fp : Int32) (fs : Int32) (dk : Nat → Int32) (mm : Nat → Int32) (wk : Nat → Int32) (sg : Nat → Int32) (tb : Nat → Int32) (cs : Nat → Int32) (lw : Nat → Int32) (hg : Nat → Int32) (us : Nat → Int32) (de : Nat → Int32) (sa : Nat → Int32) (ky : Nat → Int32) (a1 : Int32) (a2 : Int32) : CtR l yX5_peek wsX5_peek ({ frames := 0, cells := 0, slots := 0, locals := 0 }) (dC, dI) vwCl (tyz cI cZ cS) [.ref aR, .int a1, .int a2] (w_R cI cZ cS aR aRd aRm aRw aRs aRt aRc aRl aRh aRu aRx aRy aRk of op cr wn fp fs dk mm wk sg tb cs lw hg us de sa ky) (p_R_peek dk a1 a2) := by
  intro R h
  refine mk_enter (Qc := (fun A => mk_QR (dC, dI) vwCl (tyz cI cZ cS) A (w_R cI cZ cS aR aRd aRm aRw aRs aRt aRc aRl aRh aRu aRx aRy aRk of op cr wn fp fs dk mm wk sg tb cs lw hg us de sa ky) R)) (by decide) rfl (Nat.le_of_ble_eq_true rfl) ?_
  intro p e s m below meth c A E hA hK H locs ls hP hD hS hl
  obtain ⟨⟨hx, hb, hml, hown, hts⟩, hrt, hlk, hN⟩ := id E
  have hown : s.vm.findClass RX5 = some m.cls := hown
  have hl : lv_has ls 3 [(0, .ref aR), (1, .int a1), (2, .int a2)] := hl
  unfold p_R_peek at h
  refine lv_iload_n hx hb dX5_peek_0 rfl (lv_at hl 1 rfl) ?_
  refine lv_if_lt (tgt := 20) hx hb dX5_peek_1 (by decide) (fun c_1 => ?_) (fun c_1 => ?_)
  · replace h := (kp_if h).1 c_1
    exact b_R_peek_20 E hA hK R h H locs ls hP hD hS (lv_sub hl [] rfl)
  · replace h := (kp_if h).2 c_1
    refine lv_iload_n hx hb dX5_peek_4 rfl (lv_at hl 1 rfl) ?_
    refine lv_bipush (v := 32) hx hb dX5_peek_5 (by decide) ?_
    refine lv_icmp_gt (tgt := 20) hx hb dX5_peek_7 (by decide) (fun c_2 => ?_) (fun c_2 => ?_)
    · replace h := (kp_if h).1 c_2
      exact b_R_peek_20 E hA hK R h H locs ls hP hD hS (lv_sub hl [] rfl)
    · replace h := (kp_if h).2 c_2
      refine lv_iload_n hx hb dX5_peek_10 rfl (lv_at hl 2 rfl) ?_
      refine lv_if_lt (tgt := 20) hx hb dX5_peek_11 (by decide) (fun c_3 => ?_) (fun c_3 => ?_)
      · replace h := (kp_if h).1 c_3
        exact b_R_peek_20 E hA hK R h H locs ls hP hD hS (lv_sub hl [] rfl)
      · replace h := (kp_if h).2 c_3
        refine lv_iload_n hx hb dX5_peek_14 rfl (lv_at hl 2 rfl) ?_
        refine lv_bipush (v := 15) hx hb dX5_peek_15 (by decide) ?_
        refine lv_icmp_le (tgt := 25) hx hb dX5_peek_17 (by decide) (fun c_4 => ?_) (fun c_4 => ?_)
        · replace h := (kp_if h).1 c_4
          refine lv_aload_n hx hb dX5_peek_25 rfl (lv_at hl 0 rfl) ?_
          refine va_get (D := (dC, dI)) (ci := 5) (v := .ref aRd) (C := RX5) (T := TX5) (N := 18) hx hb hts iw_R_peek_Model hown hK hP 0 rfl rfl 0 (by decide) (hts _ mm_R_peek_0) (fun _ h9 => h9) rfl dX5_peek_26 ?_
          refine lv_bipush (v := 16) hx hb dX5_peek_29 (by decide) ?_
          refine lv_iload_n hx hb dX5_peek_31 rfl (lv_at hl 1 rfl) ?_
          refine lv_imul hx hb dX5_peek_32 ?_
          refine lv_iload_n hx hb dX5_peek_33 rfl (lv_at hl 2 rfl) ?_
          refine lv_iadd hx hb dX5_peek_34 ?_
          obtain ⟨hc_5, h⟩ := kp_in h
          refine va_iald hx hb hK hP 1 0 rfl rfl (kx_of hc_5) dX5_peek_35 ?_
          exact b_R_peek_36 E hA hK R (dk ((16 * a1) + a2).toNatClampNeg) h H locs ls hP hD hS (lv_sub hl [] rfl)
        · replace h := (kp_if h).2 c_4
          exact b_R_peek_20 E hA hK R h H locs ls hP hD hS (lv_sub hl [] rfl)

/- Model.writes()I -/
set_option maxRecDepth 20000 in
theorem mm_R_writes_0 : Cond.fieldLink RX5 55 "JournaledTablesModel" "writes" "I" ∈ wsX5_writes := by decide +kernel
set_option maxRecDepth 20000 in
theorem iw_R_writes_Model : ∀ w ∈ u_ws RX5 TX5 18, w ∈ wsX5_writes := by decide +kernel
set_option maxHeartbeats 4000000 in
set_option maxRecDepth 100000 in
theorem c_R_writes (l : Launch) (dC : Nat → ClassId) (dI : Nat → Nat → Nat) (cI cZ cS : ClassId) (aR aRd aRm aRw aRs aRt aRc aRl aRh aRu aRx aRy aRk : Nat) (of : Int32) (op : Int32) (cr : Int32) (wn : Int32) (fp : Int32) (fs : Int32) (dk : Nat → Int32) (mm : Nat → Int32) (wk : Nat → Int32) (sg : Nat → Int32) (tb : Nat → Int32) (cs : Nat → Int32) (lw : Nat → Int32) (hg : Nat → Int32) (us : Nat → Int32) (de : Nat → Int32) (sa : Nat → Int32) (ky : Nat → Int32) : CtR l yX5_writes wsX5_writes ({ frames := 0, cells := 0, slots := 0, locals := 0 }) (dC, dI) vwCl (tyz cI cZ cS) [.ref aR] (w_R cI cZ cS aR aRd aRm aRw aRs aRt aRc aRl aRh aRu aRx aRy aRk of op cr wn fp fs dk mm wk sg tb cs lw hg us de sa ky) (p_R_writes wn) := by
  intro R h
  refine mk_enter (Qc := (fun A => mk_QR (dC, dI) vwCl (tyz cI cZ cS) A (w_R cI cZ cS aR aRd aRm aRw aRs aRt aRc aRl aRh aRu aRx aRy aRk of op cr wn fp fs dk mm wk sg tb cs lw hg us de sa ky) R)) (by decide) rfl (Nat.le_of_ble_eq_true rfl) ?_
  intro p e s m below meth c A E hA hK H locs ls hP hD hS hl
  obtain ⟨⟨hx, hb, hml, hown, hts⟩, hrt, hlk, hN⟩ := id E
  have hown : s.vm.findClass RX5 = some m.cls := hown
  have hl : lv_has ls 1 [(0, .ref aR)] := hl
  unfold p_R_writes at h
  refine lv_aload_n hx hb dX5_writes_0 rfl (lv_at hl 0 rfl) ?_
  refine va_get (D := (dC, dI)) (ci := 5) (v := .int wn) (C := RX5) (T := TX5) (N := 18) hx hb hts iw_R_writes_Model hown hK hP 0 rfl rfl 7 (by decide) (hts _ mm_R_writes_0) (fun _ h9 => h9) rfl dX5_writes_1 ?_
  cases h
  exact mk_iretR E hK hP hD hS dX5_writes_4

/- Model.begin()I -/
set_option maxRecDepth 20000 in
theorem mm_R_begin_0 : Cond.fieldLink RX5 51 "JournaledTablesModel" "off" "Z" ∈ wsX5_begin := by decide +kernel
set_option maxRecDepth 20000 in
theorem iw_R_begin_Model : ∀ w ∈ u_ws RX5 TX5 18, w ∈ wsX5_begin := by decide +kernel
set_option maxRecDepth 20000 in
theorem mm_R_begin_2 : Cond.fieldLink RX5 66 "JournaledTablesModel" "open" "Z" ∈ wsX5_begin := by decide +kernel
set_option maxHeartbeats 4000000 in
set_option maxRecDepth 100000 in
theorem c_R_begin (l : Launch) (dC : Nat → ClassId) (dI : Nat → Nat → Nat) (cI cZ cS : ClassId) (aR aRd aRm aRw aRs aRt aRc aRl aRh aRu aRx aRy aRk : Nat) (of : Int32) (op : Int32) (cr : Int32) (wn : Int32) (fp : Int32) (fs : Int32) (dk : Nat → Int32) (mm : Nat → Int32) (wk : Nat → Int32) (sg : Nat → Int32) (tb : Nat → Int32) (cs : Nat → Int32) (lw : Nat → Int32) (hg : Nat → Int32) (us : Nat → Int32) (de : Nat → Int32) (sa : Nat → Int32) (ky : Nat → Int32) : CtI l yX5_begin wsX5_begin ({ frames := 0, cells := 0, slots := 0, locals := 0 }) (dC, dI) vwCl (tyz cI cZ cS) [.ref aR] (w_R cI cZ cS aR aRd aRm aRw aRs aRt aRc aRl aRh aRu aRx aRy aRk of op cr wn fp fs dk mm wk sg tb cs lw hg us de sa ky) (fun u : Int32 => w_R cI cZ cS aR aRd aRm aRw aRs aRt aRc aRl aRh aRu aRx aRy aRk of u cr wn fp fs dk mm wk sg tb cs lw hg us de sa ky) (p_R_begin of op) := by
  intro R h
  refine mk_enter (Qc := (fun A => mk_QI (dC, dI) vwCl (tyz cI cZ cS) A (fun u : Int32 => w_R cI cZ cS aR aRd aRm aRw aRs aRt aRc aRl aRh aRu aRx aRy aRk of u cr wn fp fs dk mm wk sg tb cs lw hg us de sa ky) R)) (by decide) rfl (Nat.le_of_ble_eq_true rfl) ?_
  intro p e s m below meth c A E hA hK H locs ls hP hD hS hl
  obtain ⟨⟨hx, hb, hml, hown, hts⟩, hrt, hlk, hN⟩ := id E
  have hown : s.vm.findClass RX5 = some m.cls := hown
  have hl : lv_has ls 1 [(0, .ref aR)] := hl
  unfold p_R_begin at h
  refine lv_aload_n hx hb dX5_begin_0 rfl (lv_at hl 0 rfl) ?_
  refine va_get (D := (dC, dI)) (ci := 5) (v := .int of) (C := RX5) (T := TX5) (N := 18) hx hb hts iw_R_begin_Model hown hK hP 0 rfl rfl 4 (by decide) (hts _ mm_R_begin_0) (fun _ h9 => h9) rfl dX5_begin_1 ?_
  refine lv_if_eq (tgt := 9) hx hb dX5_begin_4 (by decide) (fun c_1 => ?_) (fun c_1 => ?_)
  · replace h := (kp_if h).1 c_1
    refine lv_aload_n hx hb dX5_begin_9 rfl (lv_at hl 0 rfl) ?_
    refine va_get (D := (dC, dI)) (ci := 5) (v := .int op) (C := RX5) (T := TX5) (N := 18) hx hb hts iw_R_begin_Model hown hK hP 0 rfl rfl 5 (by decide) (hts _ mm_R_begin_2) (fun _ h9 => h9) rfl dX5_begin_10 ?_
    refine lv_if_eq (tgt := 19) hx hb dX5_begin_13 (by decide) (fun c_2 => ?_) (fun c_2 => ?_)
    · replace h := (kp_if h).1 c_2
      refine lv_aload_n hx hb dX5_begin_19 rfl (lv_at hl 0 rfl) ?_
      refine lv_iconst (v := 1) hx hb dX5_begin_20 (by decide) ?_
      refine va_put (D := (dC, dI)) (ci := 5) (v := .int 1) (ty := .boolean) (C := RX5) (T := TX5) (N := 18) hx hb hts iw_R_begin_Model tyX5 tyX5_ok nmX5 hown hK hP hD hS 0 rfl rfl 5 (by decide) (hts _ mm_R_begin_2) (fun _ h9 => h9) rfl (by decide +kernel) rfl rfl (Nat.le_of_ble_eq_true rfl) dX5_begin_21 (fun H locs hP hD hS => ?_)
      have hP : va_P (dC, dI) vwCl (w_R cI cZ cS aR aRd aRm aRw aRs aRt aRc aRl aRh aRu aRx aRy aRk of 1 cr wn fp fs dk mm wk sg tb cs lw hg us de sa ky) H := hP
      have hD : va_D A (w_R cI cZ cS aR aRd aRm aRw aRs aRt aRc aRl aRh aRu aRx aRy aRk of 1 cr wn fp fs dk mm wk sg tb cs lw hg us de sa ky) := hD
      refine lv_iconst (v := 0) hx hb dX5_begin_24 (by decide) ?_
      cases h
      exact mk_iret E hK hP hD hS dX5_begin_25
    · replace h := (kp_if h).2 c_2
      refine lv_bipush (v := (-3)) hx hb dX5_begin_16 (by decide) ?_
      cases h
      exact mk_iret E hK hP hD hS dX5_begin_18
  · replace h := (kp_if h).2 c_1
    refine lv_iconst (v := (-1)) hx hb dX5_begin_7 (by decide) ?_
    cases h
    exact mk_iret E hK hP hD hS dX5_begin_8

/- Model.rollback()I -/
set_option maxRecDepth 20000 in
theorem mm_R_rollback_0 : Cond.fieldLink RX5 42 "JournaledTablesModel" "dead" "[Z" ∈ wsX5_rollback := by decide +kernel
set_option maxRecDepth 20000 in
theorem iw_R_rollback_Model : ∀ w ∈ u_ws RX5 TX5 18, w ∈ wsX5_rollback := by decide +kernel
set_option maxRecDepth 20000 in
theorem mm_R_rollback_2 : Cond.fieldLink RX5 51 "JournaledTablesModel" "off" "Z" ∈ wsX5_rollback := by decide +kernel
set_option maxRecDepth 20000 in
theorem mm_R_rollback_3 : Cond.fieldLink RX5 66 "JournaledTablesModel" "open" "Z" ∈ wsX5_rollback := by decide +kernel
set_option maxHeartbeats 4000000 in
set_option maxRecDepth 100000 in
theorem b_R_rollback_25 {p : Program} {l : Launch} {e : Env} {s : State} {m : MethodId} {below : List Frame} {meth : Method} {c : Code} {A : Nat → Prop} {dC : Nat → ClassId} {dI : Nat → Nat → Nat} {cI cZ cS : ClassId} {aR aRd aRm aRw aRs aRt aRc aRl aRh aRu aRx aRy aRk : Nat} {of : Int32} {cr : Int32} {wn : Int32} {fp : Int32} {fs : Int32} {dk : Nat → Int32} {wk : Nat → Int32} {sg : Nat → Int32} {tb : Nat → Int32} {cs : Nat → Int32} {lw : Nat → Int32} {hg : Nat → Int32} {us : Nat → Int32} {sa : Nat → Int32} {ky : Nat → Int32} (E : mk_En p s m meth c cX5_rollback 2 (some .int) ([.ref aR] : List Value).toArray wsX5_rollback yX5_rollback.cls) (hA : ∀ q : Nat, s.heap.size ≤ q → A q) (hK : va_K (dC, dI) vwCl (tyz cI cZ cS) s) (R : Int32 × Int32 × (Nat → Int32) × (Nat → Int32)) {k_25 : Int32 → Int32 → (Nat → Int32) → (Nat → Int32) → Option (Int32 × Int32 × (Nat → Int32) × (Nat → Int32))} (hk_25 : ∀ (x1 : Int32) (op : Int32) (mm : Nat → Int32) (de : Nat → Int32), k_25 x1 op mm de = some R → ∀ (H : Heap) (locs : List Loc) (ls : Array Slot), va_P (dC, dI) vwCl (w_R cI cZ cS aR aRd aRm aRw aRs aRt aRc aRl aRh aRu aRx aRy aRk of op cr wn fp fs dk mm wk sg tb cs lw hg us de sa ky) H → va_D A (w_R cI cZ cS aR aRd aRm aRw aRs aRt aRc aRl aRh aRu aRx aRy aRk of op cr wn fp fs dk mm wk sg tb cs lw hg us de sa ky) → va_S A s.heap H locs → lv_has ls 2 [(0, .ref aR), (1, .int x1)] → W p l e ({ frames := 1, cells := 0, slots := 0, locals := 21 } : Room) s m ([.ref aR] : List Value).toArray below meth c H locs 0 0 (MQ below (mk_QI (dC, dI) vwCl (tyz cI cZ cS) A (fun u : Int32 × (Nat → Int32) × (Nat → Int32) => w_R cI cZ cS aR aRd aRm aRw aRs aRt aRc aRl aRh aRu aRx aRy aRk of u.1 cr wn fp fs dk u.2.1 wk sg tb cs lw hg us u.2.2 sa ky) R) ([.ref aR] : List Value).toArray s 0 0 A) (F0 m 25 ls [])) (x1 : Int32) (op : Int32) (mm : Nat → Int32) (de : Nat → Int32) (h : p_R_rollback_25 of dk k_25 x1 op mm de = some R) : ∀ (H : Heap) (locs : List Loc) (ls : Array Slot), va_P (dC, dI) vwCl (w_R cI cZ cS aR aRd aRm aRw aRs aRt aRc aRl aRh aRu aRx aRy aRk of op cr wn fp fs dk mm wk sg tb cs lw hg us de sa ky) H → va_D A (w_R cI cZ cS aR aRd aRm aRw aRs aRt aRc aRl aRh aRu aRx aRy aRk of op cr wn fp fs dk mm wk sg tb cs lw hg us de sa ky) → va_S A s.heap H locs → lv_has ls 2 [(0, .ref aR), (1, .int x1)] → W p l e ({ frames := 1, cells := 0, slots := 0, locals := 21 } : Room) s m ([.ref aR] : List Value).toArray below meth c H locs 0 0 (MQ below (mk_QI (dC, dI) vwCl (tyz cI cZ cS) A (fun u : Int32 × (Nat → Int32) × (Nat → Int32) => w_R cI cZ cS aR aRd aRm aRw aRs aRt aRc aRl aRh aRu aRx aRy aRk of u.1 cr wn fp fs dk u.2.1 wk sg tb cs lw hg us u.2.2 sa ky) R) ([.ref aR] : List Value).toArray s 0 0 A) (F0 m 25 ls []) := by
  intro H locs ls hP hD hS hl
  obtain ⟨⟨hx, hb, hml, hown, hts⟩, hrt, hlk, hN⟩ := id E
  have hown : s.vm.findClass RX5 = some m.cls := hown
  unfold p_R_rollback_25 at h
  refine lv_iload_n hx hb dX5_rollback_25 rfl (lv_at hl 1 rfl) ?_
  refine lv_iconst (v := 4) hx hb dX5_rollback_26 (by decide) ?_
  refine lv_icmp_ge (tgt := 43) hx hb dX5_rollback_27 (by decide) (fun c_1 => ?_) (fun c_1 => ?_)
  · replace h := (kp_if h).1 c_1
    refine lv_iconst (v := 0) hx hb dX5_rollback_43 (by decide) ?_
    cases h
    exact mk_iret E hK hP hD hS dX5_rollback_44
  · replace h := (kp_if h).2 c_1
    refine lv_aload_n hx hb dX5_rollback_30 rfl (lv_at hl 0 rfl) ?_
    refine va_get (D := (dC, dI)) (ci := 5) (v := .ref aRx) (C := RX5) (T := TX5) (N := 18) hx hb hts iw_R_rollback_Model hown hK hP 0 rfl rfl 13 (by decide) (hts _ mm_R_rollback_0) (fun _ h9 => h9) rfl dX5_rollback_31 ?_
    refine lv_iload_n hx hb dX5_rollback_34 rfl (lv_at hl 1 rfl) ?_
    refine lv_iconst (v := 1) hx hb dX5_rollback_35 (by decide) ?_
    obtain ⟨hc_2, h⟩ := kp_in h
    refine va_zast hx hb hK hP hD hS 10 1 rfl rfl (kx_of hc_2) dX5_rollback_36 (fun H locs hP hD hS => ?_)
    have hP : va_P (dC, dI) vwCl (w_R cI cZ cS aR aRd aRm aRw aRs aRt aRc aRl aRh aRu aRx aRy aRk of op cr wn fp fs dk mm wk sg tb cs lw hg us (upd de x1.toNatClampNeg (vp_nar .boolean 1)) sa ky) H := hP
    have hD : va_D A (w_R cI cZ cS aR aRd aRm aRw aRs aRt aRc aRl aRh aRu aRx aRy aRk of op cr wn fp fs dk mm wk sg tb cs lw hg us (upd de x1.toNatClampNeg (vp_nar .boolean 1)) sa ky) := hD
    refine lv_iinc (v := x1 + 1) (lv' := [(1, .int (x1 + 1)), (0, .ref aR)]) hx hb dX5_rollback_37 hl (k := 1) rfl rfl (by decide) rfl (fun ls hl => ?_)
    refine lv_goto (tgt := 25) hx hb dX5_rollback_40 (by decide) ?_
    exact hk_25 (x1 + 1) op mm (upd de x1.toNatClampNeg (vp_nar .boolean 1)) h H locs ls hP hD hS (lv_sub hl [1, 0] rfl)
set_option maxHeartbeats 4000000 in
set_option maxRecDepth 100000 in
theorem l_R_rollback_25 {p : Program} {l : Launch} {e : Env} {s : State} {m : MethodId} {below : List Frame} {meth : Method} {c : Code} {A : Nat → Prop} {dC : Nat → ClassId} {dI : Nat → Nat → Nat} {cI cZ cS : ClassId} {aR aRd aRm aRw aRs aRt aRc aRl aRh aRu aRx aRy aRk : Nat} {of : Int32} {cr : Int32} {wn : Int32} {fp : Int32} {fs : Int32} {dk : Nat → Int32} {wk : Nat → Int32} {sg : Nat → Int32} {tb : Nat → Int32} {cs : Nat → Int32} {lw : Nat → Int32} {hg : Nat → Int32} {us : Nat → Int32} {sa : Nat → Int32} {ky : Nat → Int32} (E : mk_En p s m meth c cX5_rollback 2 (some .int) ([.ref aR] : List Value).toArray wsX5_rollback yX5_rollback.cls) (hA : ∀ q : Nat, s.heap.size ≤ q → A q) (hK : va_K (dC, dI) vwCl (tyz cI cZ cS) s) (R : Int32 × Int32 × (Nat → Int32) × (Nat → Int32)) : ∀ (n : Nat) (x1 : Int32) (op : Int32) (mm : Nat → Int32) (de : Nat → Int32), pl_R_rollback_25 of dk n x1 op mm de = some R → ∀ (H : Heap) (locs : List Loc) (ls : Array Slot), va_P (dC, dI) vwCl (w_R cI cZ cS aR aRd aRm aRw aRs aRt aRc aRl aRh aRu aRx aRy aRk of op cr wn fp fs dk mm wk sg tb cs lw hg us de sa ky) H → va_D A (w_R cI cZ cS aR aRd aRm aRw aRs aRt aRc aRl aRh aRu aRx aRy aRk of op cr wn fp fs dk mm wk sg tb cs lw hg us de sa ky) → va_S A s.heap H locs → lv_has ls 2 [(0, .ref aR), (1, .int x1)] → W p l e ({ frames := 1, cells := 0, slots := 0, locals := 21 } : Room) s m ([.ref aR] : List Value).toArray below meth c H locs 0 0 (MQ below (mk_QI (dC, dI) vwCl (tyz cI cZ cS) A (fun u : Int32 × (Nat → Int32) × (Nat → Int32) => w_R cI cZ cS aR aRd aRm aRw aRs aRt aRc aRl aRh aRu aRx aRy aRk of u.1 cr wn fp fs dk u.2.1 wk sg tb cs lw hg us u.2.2 sa ky) R) ([.ref aR] : List Value).toArray s 0 0 A) (F0 m 25 ls []) := by
  intro n
  induction n with
  | zero =>
    intro x1 op mm de h
    cases h
  | succ n ih =>
    intro x1 op mm de h
    exact b_R_rollback_25 E hA hK R ih x1 op mm de h
set_option maxHeartbeats 4000000 in
set_option maxRecDepth 100000 in
theorem c_R_rollback (l : Launch) (dC : Nat → ClassId) (dI : Nat → Nat → Nat) (cI cZ cS : ClassId) (aR aRd aRm aRw aRs aRt aRc aRl aRh aRu aRx aRy aRk : Nat) (of : Int32) (op : Int32) (cr : Int32) (wn : Int32) (fp : Int32) (fs : Int32) (dk : Nat → Int32) (mm : Nat → Int32) (wk : Nat → Int32) (sg : Nat → Int32) (tb : Nat → Int32) (cs : Nat → Int32) (lw : Nat → Int32) (hg : Nat → Int32) (us : Nat → Int32) (de : Nat → Int32) (sa : Nat → Int32) (ky : Nat → Int32) : CtI l yX5_rollback wsX5_rollback ({ frames := 1, cells := 0, slots := 0, locals := 21 }) (dC, dI) vwCl (tyz cI cZ cS) [.ref aR] (w_R cI cZ cS aR aRd aRm aRw aRs aRt aRc aRl aRh aRu aRx aRy aRk of op cr wn fp fs dk mm wk sg tb cs lw hg us de sa ky) (fun u : Int32 × (Nat → Int32) × (Nat → Int32) => w_R cI cZ cS aR aRd aRm aRw aRs aRt aRc aRl aRh aRu aRx aRy aRk of u.1 cr wn fp fs dk u.2.1 wk sg tb cs lw hg us u.2.2 sa ky) (p_R_rollback of op dk mm de) := by
  intro R h
  refine mk_enter (Qc := (fun A => mk_QI (dC, dI) vwCl (tyz cI cZ cS) A (fun u : Int32 × (Nat → Int32) × (Nat → Int32) => w_R cI cZ cS aR aRd aRm aRw aRs aRt aRc aRl aRh aRu aRx aRy aRk of u.1 cr wn fp fs dk u.2.1 wk sg tb cs lw hg us u.2.2 sa ky) R)) (by decide) rfl (Nat.le_of_ble_eq_true rfl) ?_
  intro p e s m below meth c A E hA hK H locs ls hP hD hS hl
  obtain ⟨⟨hx, hb, hml, hown, hts⟩, hrt, hlk, hN⟩ := id E
  have hown : s.vm.findClass RX5 = some m.cls := hown
  have hl : lv_has ls 2 [(0, .ref aR)] := hl
  unfold p_R_rollback at h
  refine lv_aload_n hx hb dX5_rollback_0 rfl (lv_at hl 0 rfl) ?_
  refine va_get (D := (dC, dI)) (ci := 5) (v := .int of) (C := RX5) (T := TX5) (N := 18) hx hb hts iw_R_rollback_Model hown hK hP 0 rfl rfl 4 (by decide) (hts _ mm_R_rollback_2) (fun _ h9 => h9) rfl dX5_rollback_1 ?_
  refine lv_if_eq (tgt := 9) hx hb dX5_rollback_4 (by decide) (fun c_3 => ?_) (fun c_3 => ?_)
  · replace h := (kp_if h).1 c_3
    refine lv_aload_n hx hb dX5_rollback_9 rfl (lv_at hl 0 rfl) ?_
    refine va_get (D := (dC, dI)) (ci := 5) (v := .int op) (C := RX5) (T := TX5) (N := 18) hx hb hts iw_R_rollback_Model hown hK hP 0 rfl rfl 5 (by decide) (hts _ mm_R_rollback_3) (fun _ h9 => h9) rfl dX5_rollback_10 ?_
    refine lv_if_ne (tgt := 19) hx hb dX5_rollback_13 (by decide) (fun c_4 => ?_) (fun c_4 => ?_)
    · replace h := (kp_if h).2 c_4
      refine lv_aload_n hx hb dX5_rollback_19 rfl (lv_at hl 0 rfl) ?_
      obtain ⟨r_5, hr_5, h⟩ := kp_bind h
      refine mk_contV (w := w_R cI cZ cS aR aRd aRm aRw aRs aRt aRc aRl aRh aRu aRx aRy aRk of op cr wn fp fs dk mm wk sg tb cs lw hg us de sa ky) (w0 := w_R cI cZ cS aR aRd aRm aRw aRs aRt aRc aRl aRh aRu aRx aRy aRk of op cr wn fp fs dk mm wk sg tb cs lw hg us de sa ky) (wr := []) (w2 := w_R cI cZ cS aR aRd aRm aRw aRs aRt aRc aRl aRh aRu aRx aRy aRk of r_5.1 cr wn fp fs dk r_5.2 wk sg tb cs lw hg us de sa ky) hP hD hS hA [0, 1, 2, 3, 4, 5, 6, 7, 8, 9, 10, 11, 12] [] rfl rfl (by decide) (by decide) [0, 1, 2, 3, 4, 5, 6, 7, 8, 9, 10, 11, 12] rfl (by decide) (va_runV (As := []) (rest := []) ⟨hx, hb, hml, hown, hts⟩ (c_R_copyBack l dC dI cI cZ cS aR aRd aRm aRw aRs aRt aRc aRl aRh aRu aRx aRy aRk of op cr wn fp fs dk mm wk sg tb cs lw hg us de sa ky r_5 hr_5 H.size) (cwV 0 hts gX5_rollback_X5_copyBack rfl rfl rfl (by decide +kernel) ⟨Nat.le_of_ble_eq_true rfl, Nat.le_of_ble_eq_true rfl⟩) (mk_preV (w0 := w_R cI cZ cS aR aRd aRm aRw aRs aRt aRc aRl aRh aRu aRx aRy aRk of op cr wn fp fs dk mm wk sg tb cs lw hg us de sa ky) (ci := 5) (q0 := 0) hN hK (mk_pick hP [0, 1, 2, 3, 4, 5, 6, 7, 8, 9, 10, 11, 12] rfl) (hD.sub [0, 1, 2, 3, 4, 5, 6, 7, 8, 9, 10, 11, 12] (by decide) rfl) rfl rfl rfl) rfl rfl hl.1 rfl (lv_room (Nat.le_of_ble_eq_true rfl)) dX5_rollback_20 ⟨Nat.zero_le _, Nat.zero_le _⟩) (fun H locs hP hD hS => ?_)
      refine lv_iconst (v := 0) hx hb dX5_rollback_23 (by decide) ?_
      refine lv_istore_n (lv' := [(1, .int 0), (0, .ref aR)]) hx hb dX5_rollback_24 rfl hl (by decide) rfl (fun ls hl => ?_)
      exact l_R_rollback_25 E hA hK R 1000 0 r_5.1 r_5.2 de h H locs ls hP hD hS (lv_sub hl [1, 0] rfl)
    · replace h := (kp_if h).1 c_4
      refine lv_bipush (v := (-2)) hx hb dX5_rollback_16 (by decide) ?_
      cases h
      exact mk_iret E hK hP hD hS dX5_rollback_18
  · replace h := (kp_if h).2 c_3
    refine lv_iconst (v := (-1)) hx hb dX5_rollback_7 (by decide) ?_
    cases h
    exact mk_iret E hK hP hD hS dX5_rollback_8

