/-! CONSTRUCTORS: rules, then the class's small ones -/
/-- what the constructors need of the tables beside their words: the array of scans, the private constructors of nest mates -/
def ni_ok (U : State) : Prop := va_AO "JournaledTables$Scan" U ∧ va_Nw (.methodLinkNest RX4 9 yX0_init "JournaledTables") U ∧ va_Nw (.methodLinkNest RX4 18 yX2_init "JournaledTables") U ∧ va_Nw (.methodLinkNest RX4 38 yX3_init "JournaledTables") U
theorem ni_same {u U : State} (h : u.vm = U.vm) (n : ni_ok u) : ni_ok U := ⟨va_AO.moved (by rw [h]; exact Vm.Alike.refl _) n.1, va_Nw.same rfl h n.2.1, va_Nw.same rfl h n.2.2.1, va_Nw.same rfl h n.2.2.2⟩
theorem ni_warm {s U : State} (hW : s.WarmedH U.vm) (n : ni_ok s) : ni_ok U := ⟨va_AO.moved hW.alike n.1, va_Nw.warmM hW n.2.1, va_Nw.warmM hW n.2.2.1, va_Nw.warmM hW n.2.2.2⟩
def mk_PreN (D : va_G) (cl : List vw_C) (tys : List (ClassId × FieldType)) (w0 : va_W) (sz : Nat) : State → Prop := fun U => mk_Pre D cl tys w0 sz U ∧ ni_ok U
def mk_QN {S : Type} (D : va_G) (cl : List vw_C) (tys : List (ClassId × FieldType)) (A : Nat → Prop) (w1 : S → va_W) : Array Value → State → Outcome → State → Prop := va_Qv (fun _ : S => True) (mk_B D cl tys A w1) A
/-- a scan as it is made -/
abbrev sct0 : SCT := (0, 0, 0, 0, 0, 0, -2147483649, -1)
def sq4 (s0 s1 s2 s3 : Nat) : Nat → Nat := fun j => match j with
  | 0 => s0
  | 1 => s1
  | 2 => s2
  | _ => s3
theorem mk_blindN {D : va_G} {cl : List vw_C} {tys : List (ClassId × FieldType)} {av : List Value} {w0 : va_W} {sz : Nat} : FrameBlind (va_Pc av (mk_PreN D cl tys w0 sz)) := fun a U g mk q => by
  obtain ⟨q0, ⟨q1, qP, qK, qD, qN⟩, qI⟩ := q
  exact ⟨q0, ⟨q1, qP, va_K.moved (u := U) (U := U.calling g mk a) (Vm.Alike.refl U.vm) qK, qD, nx_same (u := U) (U := U.calling g mk a) rfl qN⟩, ni_same (u := U) (U := U.calling g mk a) rfl qI⟩
section MKN
variable {l : Launch} {y : MethodName} {ws ws' : List Cond} {rm : Room} {D : va_G} {cl : List vw_C} {tys : List (ClassId × FieldType)} {av : List Value} {w0 : va_W} {cc : ByteArray} {nL : Nat} {ret : Option FieldType}
theorem mk_enterN {Qc : (Nat → Prop) → Array Value → State → Outcome → State → Prop} {mc ms : Nat} (hy : plainName y.cls = true) (hw : ws = Cond.code y cc nL ret :: ws') (hn : (lg_sl av).length ≤ nL)
    (body : ∀ (p : Program) (e : Env) (s : State) (m : MethodId) (below : List Frame) (meth : Method) (c : Code) (A : Nat → Prop), mk_En p s m meth c cc nL ret av.toArray ws y.cls → ni_ok s → meth.name = y.name → (∀ q : Nat, s.heap.size ≤ q → A q) → va_K D cl tys s → ∀ (H : Heap) (locs : List Loc) (ls : Array Slot), va_P D cl w0 H → va_D A w0 → va_S A s.heap H locs → lv_has ls nL (lv_args 0 av) → W p l e rm s m av.toArray below meth c H locs 0 0 (MQ below (Qc A) av.toArray s mc ms A) (F0 m 0 ls [])) :
    ∀ sz : Nat, Met l y ws rm (va_Pc av (mk_PreN D cl tys w0 sz)) (Qc (va_A w0 sz)) mc ms (va_A w0 sz) := by
  intro sz
  refine Met.ofW (cc := cc) (maxL := nL) (ret := ret) hy hw ?_
  intro p e s m args below meth c s₁ B hml hv
  obtain ⟨rfl, ⟨hsz, hP, hK, hD0, hN⟩, hI⟩ := hv
  subst hsz
  have hl := lv_entry av (n := nL) hn
  rw [lg_entry_eq]
  exact body p e s m below meth c (va_A w0 s.heap.size) ⟨⟨B.exec, B.bytes, hml, findClass_of_methodNamed B.named, atoms_spec (ws := ws) B.pre⟩, B.returns, B.notSynchronized, hN⟩ hI (name_of_methodNamed B.named B.method).1 (fun q h => Or.inr h) hK s.heap [] _ hP (hD0.self (sz := s.heap.size)) va_S.rf hl
end MKN
section MKM
variable {p : Program} {l : Launch} {e : Env} {R : Room} {s : State} {m : MethodId} {args : Array Value} {below : List Frame} {meth : Method} {c : Code} {H : Heap} {locs : List Loc} {cells slots : Nat} {Q : State → Prop}
variable {D : va_G} {cl : List vw_C} {tys : List (ClassId × FieldType)} {cc : ByteArray} {nL pc : Nat} {ls : Array Slot} {ret : Option FieldType} {Ts : List Cond} {own : String} {A A0 : Nat → Prop} {H0 : Heap} {ws : va_W} {rest : List Value}
theorem mk_vretN {S : Type} {w1 : S → va_W} {u : S} (E : mk_En p s m meth c cc nL none args Ts own) (hK : va_K D cl tys s) (hP : va_P D cl (w1 u) H) (hD : va_D A (w1 u)) (hS : va_S A s.heap H locs) (hdg : decode cc pc = .ok (.return_, 1)) : W p l e R s m args below meth c H locs cells slots (MQ below (mk_QN D cl tys A w1) args s cells slots A) (F0 m pc ls []) := by
  have hlocks : meth.locks = false := E.2.2.1
  exact W.vret E.1.1 E.1.2.1 E.2.1 (fun t ht hW => ⟨⟨u, rfl, trivial, by rw [ht]; exact hP, va_K.moved hW.alike hK, hD⟩, hS.F ht⟩) hS.2.2 hdg hlocks
theorem mk_newi (hexec : p.tables.exec = Jvm.exec) (hb : c.code = cc) (harr : (Cond.arrayClass .int).before args s = true) (t0 : Nat) {cA : ClassId} (ht : tys[t0]? = some (cA, .int)) (hK : va_K D cl tys s) (hP : va_P D cl ws H) (hD : va_D A ws) (hS : va_S A H0 H locs) (hA : ∀ q, H0.size ≤ q → A q)
    {n : Int32} {N' : Nat} (hn : ¬ n < 0) (hN : n.toNatClampNeg = N') (hbytes : N' * componentBytes .int ≤ 536870912) (hcells : cells + 1 ≤ R.cells) (hslots : slots + N' ≤ R.slots) (hdg : decode cc pc = .ok (.newarray .int, 2))
    (kk : ∀ (q : Nat) (H1 : Heap), va_P D cl (ws ++ [(q, .inl (cA, N', .inl (fun _ => 0)))]) H1 → va_D A (ws ++ [(q, .inl (cA, N', .inl (fun _ => 0)))]) → va_S A H0 H1 locs → W p l e R s m args below meth c H1 locs (cells + 1) (slots + N') Q (F0 m (pc + 2) ls (.ref q :: rest))) : W p l e R s m args below meth c H locs cells slots Q (F0 m pc ls (.int n :: rest)) := by
  refine va_newa (atype := .int) (a0 := (N', .inl (fun _ => 0))) hexec hb harr rfl hK hP hD hS hA (fun cA => rfl) hn hN hbytes hcells hslots hdg (fun q cB H1 hK1 hP1 hD1 hS1 => ?_)
  have f1 : s.vm.findClass ("[" ++ FieldType.int.toString) = some cB := (hK1.2 tys.length (cB, .int) (by simp [newarray.typeOf])).2
  have f2 : s.vm.findClass ("[" ++ FieldType.int.toString) = some cA := (hK.2 t0 _ ht).2
  have e : cB = cA := Option.some.inj (f1.symm.trans f2)
  subst e
  exact kk q H1 hP1 hD1 hS1
theorem mk_newz (hexec : p.tables.exec = Jvm.exec) (hb : c.code = cc) (harr : (Cond.arrayClass .boolean).before args s = true) (t0 : Nat) {cA : ClassId} (ht : tys[t0]? = some (cA, .boolean)) (hK : va_K D cl tys s) (hP : va_P D cl ws H) (hD : va_D A ws) (hS : va_S A H0 H locs) (hA : ∀ q, H0.size ≤ q → A q)
    {n : Int32} {N' : Nat} (hn : ¬ n < 0) (hN : n.toNatClampNeg = N') (hbytes : N' * componentBytes .boolean ≤ 536870912) (hcells : cells + 1 ≤ R.cells) (hslots : slots + N' ≤ R.slots) (hdg : decode cc pc = .ok (.newarray .boolean, 2))
    (kk : ∀ (q : Nat) (H1 : Heap), va_P D cl (ws ++ [(q, .inl (cA, N', .inl (fun _ => 0)))]) H1 → va_D A (ws ++ [(q, .inl (cA, N', .inl (fun _ => 0)))]) → va_S A H0 H1 locs → W p l e R s m args below meth c H1 locs (cells + 1) (slots + N') Q (F0 m (pc + 2) ls (.ref q :: rest))) : W p l e R s m args below meth c H locs cells slots Q (F0 m pc ls (.int n :: rest)) := by
  refine va_newa (atype := .boolean) (a0 := (N', .inl (fun _ => 0))) hexec hb harr rfl hK hP hD hS hA (fun cA => rfl) hn hN hbytes hcells hslots hdg (fun q cB H1 hK1 hP1 hD1 hS1 => ?_)
  have f1 : s.vm.findClass ("[" ++ FieldType.boolean.toString) = some cB := (hK1.2 tys.length (cB, .boolean) (by simp [newarray.typeOf])).2
  have f2 : s.vm.findClass ("[" ++ FieldType.boolean.toString) = some cA := (hK.2 t0 _ ht).2
  have e : cB = cA := Option.some.inj (f1.symm.trans f2)
  subst e
  exact kk q H1 hP1 hD1 hS1
theorem mk_newq (hexec : p.tables.exec = Jvm.exec) (hb : c.code = cc) {C : String} {index : Nat} (hown : s.vm.findClass own = some m.cls) (hclink : (Cond.classLink own index C).before args s = true) (hover : va_AO C s) (t0 : Nat) {cA : ClassId} (ht : tys[t0]? = some (cA, .object C)) (hK : va_K D cl tys s) (hP : va_P D cl ws H) (hD : va_D A ws) (hS : va_S A H0 H locs) (hA : ∀ q, H0.size ≤ q → A q)
    {n : Int32} {N' : Nat} (hn : ¬ n < 0) (hN : n.toNatClampNeg = N') (hbytes : N' * 4 ≤ 536870912) (hcells : cells + 1 ≤ R.cells) (hslots : slots + N' ≤ R.slots) (hdg : decode cc pc = .ok (.anewarray index, 3))
    (kk : ∀ (q : Nat) (H1 : Heap), va_P D cl (ws ++ [(q, .inl (cA, N', .inr (.inr (.inr (.inr (fun _ => none))))))]) H1 → va_D A (ws ++ [(q, .inl (cA, N', .inr (.inr (.inr (.inr (fun _ => none))))))]) → va_S A H0 H1 locs → W p l e R s m args below meth c H1 locs (cells + 1) (slots + N') Q (F0 m (pc + 3) ls (.ref q :: rest))) : W p l e R s m args below meth c H locs cells slots Q (F0 m pc ls (.int n :: rest)) := by
  refine va_newq hexec hb hown hclink hover hK hP hD hS hA hn hN hbytes hcells hslots hdg (fun q cB H1 hK1 hP1 hD1 hS1 => ?_)
  obtain ⟨_, _, _, _, _, f1⟩ := (hK1.2 tys.length (cB, .object C) (by simp)).2
  obtain ⟨_, _, _, _, _, f2⟩ := (hK.2 t0 _ ht).2
  have e : cB = cA := Option.some.inj (f1.symm.trans f2)
  subst e
  exact kk q H1 hP1 hD1 hS1
theorem mk_preI {As : List Value} {w0 : va_W} (hN : nx_ok s) (hI : ni_ok s) (hK : va_K D cl tys s) (hP : va_P D cl w0 H) (hD : va_D A w0) : PreS s H (va_Pc As (mk_PreN D cl tys w0 H.size)) As :=
  ⟨mk_blindN, fun U hU hW => ⟨rfl, ⟨by rw [hU], by rw [hU]; exact hP, va_K.moved hW.alike hK, hD.weaken (fun _ _ _ _ => trivial), nx_warm hW hN⟩, ni_warm hW hI⟩⟩
theorem mk_contN {S : Type} {w1 : S → va_W} {w w0 wr : va_W} {st0 : List Value} {a : Array Value} {mc ms : Nat} (hP : va_P D cl w H) (hD : va_D A0 w) (hS : va_S A0 H0 H locs) (hA : ∀ q, H0.size ≤ q → A0 q) (isC isR : List Nat) (hC : isC.map (fun i => w[i]?) = w0.map some) (hR : isR.map (fun i => w[i]?) = wr.map some) (hn2 : va_nd isR = true) (hdis : ∀ i ∈ isR, i ∉ isC)
    (hr : va_Run p l e R s m args below meth c H locs cells slots mc ms (F0 m pc ls st0) rest (mk_QN D cl tys (va_A w0 H.size) w1 a) (va_A w0 H.size))
    (kk : ∀ (u : S) (H1 : Heap) (locs1 : List Loc), va_P D cl (wr ++ w1 u) H1 → va_D A0 (wr ++ w1 u) → va_S A0 H0 H1 locs1 → W p l e R s m args below meth c H1 locs1 (cells + mc) (slots + ms) Q (F0 m (pc + 3) ls rest)) : W p l e R s m args below meth c H locs cells slots Q (F0 m pc ls st0) := by
  have hFc := va_free hD hS hA isC hC
  refine va_callv hr hS (fun q _ h => hFc q h) hFc (fun u t H1 locs1 ht hvm hw hB hz1 hk1 hS1 => ?_)
  obtain ⟨hP1, hK1, hD1⟩ := hB
  rw [ht] at hP1
  obtain ⟨hP', hD'⟩ := va_join hP hD isC isR hC hR hn2 hdis hk1 hFc hP1 hD1
  exact kk u H1 locs1 hP' hD' hS1
end MKM
/-- an array of references, told by its elements alone -/
theorem mk_cellq (cA : ClassId) {n : Nat} {f g : Nat → Option Nat} (h : ∀ j, j < n → f j = g j) : vp_cell cA (n, .inr (.inr (.inr (.inr f)))) = vp_cell cA (n, .inr (.inr (.inr (.inr g)))) := by
  rw [vp_cell_q, vp_cell_q]
  unfold arrV
  congr 2
  funext j
  show va_rf (f j.val) = va_rf (g j.val)
  rw [h j.val j.isLt]
theorem mk_swapq {D : va_G} {cl : List vw_C} {ws : va_W} {H : Heap} {a : Nat} {cA : ClassId} {n : Nat} {f g : Nat → Option Nat} (hP : va_P D cl ws H) (k : Nat) (hk : ws[k]? = some (a, .inl (cA, n, .inr (.inr (.inr (.inr f)))))) (h : ∀ j, j < n → f j = g j) : va_P D cl (ws.set k (a, .inl (cA, n, .inr (.inr (.inr (.inr g)))))) H := fun i q hi => by
  by_cases e : k = i
  · subst e
    have hl : k < ws.length := (List.getElem?_eq_some_iff.mp hk).1
    rw [List.getElem?_set_self hl] at hi
    cases hi
    show H[a]? = some (vp_cell _ _)
    rw [← mk_cellq cA h]
    exact hP k _ hk
  · rw [List.getElem?_set_ne e] at hi
    exact hP i q hi
set_option maxRecDepth 20000 in
theorem mi_D_0 : Cond.methodLink RX0 3 objectInit ∈ wsX0_init := by decide +kernel
set_option maxRecDepth 20000 in
theorem mi_D_1 : Cond.instanceMethod objectInit ∈ wsX0_init := by decide +kernel
set_option maxRecDepth 20000 in
theorem mi_D_2 : Cond.code objectInit ⟨#[0xb1]⟩ 1 none ∈ wsX0_init := by decide +kernel
set_option maxRecDepth 20000 in
theorem mi_D_3 : Cond.arrayClass .int ∈ wsX0_init := by decide +kernel
set_option maxRecDepth 20000 in
theorem mi_D_4 : Cond.fieldLink RX0 9 "JournaledTables$Disk" "words" "[I" ∈ wsX0_init := by decide +kernel
set_option maxRecDepth 20000 in
theorem iw_D_Disk : ∀ w ∈ u_ws RX0 TX0 4, w ∈ wsX0_init := by decide +kernel
set_option maxRecDepth 20000 in
theorem mi_D_6 : Cond.fieldLink RX0 15 "JournaledTables$Disk" "powered" "Z" ∈ wsX0_init := by decide +kernel
set_option maxRecDepth 20000 in
theorem mi_D_7 : Cond.fieldLink RX0 19 "JournaledTables$Disk" "writesLeft" "I" ∈ wsX0_init := by decide +kernel
set_option maxRecDepth 20000 in
theorem mi_D_8 : Cond.fieldLink RX0 23 "JournaledTables$Disk" "writesDone" "I" ∈ wsX0_init := by decide +kernel
set_option maxHeartbeats 4000000 in
set_option maxRecDepth 100000 in
/-- Disk() -/
theorem i_D (l : Launch) (dC : Nat → ClassId) (dI : Nat → Nat → Nat) (cI cZ cS : ClassId) (aD : Nat) : ∀ sz : Nat, Met l yX0_init wsX0_init { frames := 1, cells := 1, slots := 528, locals := 12 } (va_Pc [.ref aD] (mk_PreN (dC, dI) vwCl (tyz cI cZ cS) [(aD, .inr (0, [.null, .int 0, .int 0, .int 0]))] sz)) (mk_QN (dC, dI) vwCl (tyz cI cZ cS) (va_A [(aD, .inr (0, [.null, .int 0, .int 0, .int 0]))] sz) (fun u : Nat => w_D cI cZ cS aD u 1 (-1) 0 (fun _ => 0))) 1 528 (va_A [(aD, .inr (0, [.null, .int 0, .int 0, .int 0]))] sz) := by
  refine mk_enterN (Qc := fun A => mk_QN (dC, dI) vwCl (tyz cI cZ cS) A (fun u : Nat => w_D cI cZ cS aD u 1 (-1) 0 (fun _ => 0))) (by decide) rfl (Nat.le_of_ble_eq_true rfl) ?_
  intro p e s m below meth c A E hI hin hA hK H locs ls hP hD hS hl
  obtain ⟨⟨hx, hb, hml, hown, hts⟩, hrt, hlk, hN⟩ := id E
  have hown : s.vm.findClass RX0 = some m.cls := hown
  have hin : meth.name = "<init>" := hin
  have hl : lv_has ls 1 [(0, .ref aD)] := hl
  refine lv_aload_n hx hb dX0_init_0 rfl (lv_at hl 0 rfl) ?_
  refine W.objInit hx hb hown (hts _ mi_D_0) (hts _ mi_D_1) (hts _ mi_D_2) rfl (by rw [hml]; exact hl.1) rfl dX0_init_1 (Nat.le_of_ble_eq_true rfl) (Nat.le_of_ble_eq_true rfl) ?_
  refine W.eq (g2 := F0 m 4 ls []) rfl ?_
  refine lv_aload_n hx hb dX0_init_4 rfl (lv_at hl 0 rfl) ?_
  refine lv_sipush (v := 528) hx hb dX0_init_5 (by decide) ?_
  refine mk_newi hx hb (hts _ mi_D_3) 0 rfl hK hP hD hS hA (n := 528) (N' := 528) (by decide) (by decide) (Nat.le_of_ble_eq_true rfl) (Nat.le_of_ble_eq_true rfl) (Nat.le_of_ble_eq_true rfl) dX0_init_8 (fun aDw H hP hD hS => ?_)
  have hP : va_P (dC, dI) vwCl [(aD, .inr (0, [.null, .int 0, .int 0, .int 0])), (aDw, .inl (cI, 528, .inl (fun _ => 0)))] H := hP
  have hD : va_D A [(aD, .inr (0, [.null, .int 0, .int 0, .int 0])), (aDw, .inl (cI, 528, .inl (fun _ => 0)))] := hD
  refine W.widen (k := 1) (n := 528) (by omega) (by omega) ?_
  refine va_putF (D := (dC, dI)) (ci := 0) (v := .ref aDw) (ty := .array .int) (C := RX0) (T := TX0) (N := 4) hx hb hts iw_D_Disk tyX0 tyX0_ok nmX0 hown hK hP hD hS 0 rfl rfl 0 (by decide) (hts _ mi_D_4) (fun _ h9 => h9) rfl hin rfl (by decide +kernel) rfl rfl (Nat.le_of_ble_eq_true rfl) dX0_init_10 (fun H locs hP hD hS => ?_)
  have hP : va_P (dC, dI) vwCl [(aD, .inr (0, [.ref aDw, .int 0, .int 0, .int 0])), (aDw, .inl (cI, 528, .inl (fun _ => 0)))] H := hP
  have hD : va_D A [(aD, .inr (0, [.ref aDw, .int 0, .int 0, .int 0])), (aDw, .inl (cI, 528, .inl (fun _ => 0)))] := hD
  refine lv_aload_n hx hb dX0_init_13 rfl (lv_at hl 0 rfl) ?_
  refine lv_iconst (v := 1) hx hb dX0_init_14 (by decide) ?_
  refine va_put (D := (dC, dI)) (ci := 0) (v := .int 1) (ty := .boolean) (C := RX0) (T := TX0) (N := 4) hx hb hts iw_D_Disk tyX0 tyX0_ok nmX0 hown hK hP hD hS 0 rfl rfl 1 (by decide) (hts _ mi_D_6) (fun _ h9 => h9) rfl (by decide +kernel) rfl rfl (Nat.le_of_ble_eq_true rfl) dX0_init_15 (fun H locs hP hD hS => ?_)
  have hP : va_P (dC, dI) vwCl [(aD, .inr (0, [.ref aDw, .int 1, .int 0, .int 0])), (aDw, .inl (cI, 528, .inl (fun _ => 0)))] H := hP
  have hD : va_D A [(aD, .inr (0, [.ref aDw, .int 1, .int 0, .int 0])), (aDw, .inl (cI, 528, .inl (fun _ => 0)))] := hD
  refine lv_aload_n hx hb dX0_init_18 rfl (lv_at hl 0 rfl) ?_
  refine lv_iconst (v := (-1)) hx hb dX0_init_19 (by decide) ?_
  refine va_put (D := (dC, dI)) (ci := 0) (v := .int (-1)) (ty := .int) (C := RX0) (T := TX0) (N := 4) hx hb hts iw_D_Disk tyX0 tyX0_ok nmX0 hown hK hP hD hS 0 rfl rfl 2 (by decide) (hts _ mi_D_7) (fun _ h9 => h9) rfl (by decide +kernel) rfl rfl (Nat.le_of_ble_eq_true rfl) dX0_init_20 (fun H locs hP hD hS => ?_)
  have hP : va_P (dC, dI) vwCl [(aD, .inr (0, [.ref aDw, .int 1, .int (-1), .int 0])), (aDw, .inl (cI, 528, .inl (fun _ => 0)))] H := hP
  have hD : va_D A [(aD, .inr (0, [.ref aDw, .int 1, .int (-1), .int 0])), (aDw, .inl (cI, 528, .inl (fun _ => 0)))] := hD
  refine lv_aload_n hx hb dX0_init_23 rfl (lv_at hl 0 rfl) ?_
  refine lv_iconst (v := 0) hx hb dX0_init_24 (by decide) ?_
  refine va_put (D := (dC, dI)) (ci := 0) (v := .int 0) (ty := .int) (C := RX0) (T := TX0) (N := 4) hx hb hts iw_D_Disk tyX0 tyX0_ok nmX0 hown hK hP hD hS 0 rfl rfl 3 (by decide) (hts _ mi_D_8) (fun _ h9 => h9) rfl (by decide +kernel) rfl rfl (Nat.le_of_ble_eq_true rfl) dX0_init_25 (fun H locs hP hD hS => ?_)
  have hP : va_P (dC, dI) vwCl [(aD, .inr (0, [.ref aDw, .int 1, .int (-1), .int 0])), (aDw, .inl (cI, 528, .inl (fun _ => 0)))] H := hP
  have hD : va_D A [(aD, .inr (0, [.ref aDw, .int 1, .int (-1), .int 0])), (aDw, .inl (cI, 528, .inl (fun _ => 0)))] := hD
  exact mk_vretN (u := aDw) E hK (hP.sub [0, 1] rfl) (hD.sub [0, 1] (by decide) rfl) hS dX0_init_28

set_option maxRecDepth 20000 in
theorem mi_M_0 : Cond.methodLink RX2 3 objectInit ∈ wsX2_init := by decide +kernel
set_option maxRecDepth 20000 in
theorem mi_M_1 : Cond.instanceMethod objectInit ∈ wsX2_init := by decide +kernel
set_option maxRecDepth 20000 in
theorem mi_M_2 : Cond.code objectInit ⟨#[0xb1]⟩ 1 none ∈ wsX2_init := by decide +kernel
set_option maxRecDepth 20000 in
theorem mi_M_3 : Cond.arrayClass .int ∈ wsX2_init := by decide +kernel
set_option maxRecDepth 20000 in
theorem mi_M_4 : Cond.fieldLink RX2 9 "JournaledTables$Memory" "words" "[I" ∈ wsX2_init := by decide +kernel
set_option maxRecDepth 20000 in
theorem iw_M_Memory : ∀ w ∈ u_ws RX2 TX2 1, w ∈ wsX2_init := by decide +kernel
set_option maxHeartbeats 4000000 in
set_option maxRecDepth 100000 in
/-- Memory() -/
theorem i_M (l : Launch) (dC : Nat → ClassId) (dI : Nat → Nat → Nat) (cI cZ cS : ClassId) (aM : Nat) : ∀ sz : Nat, Met l yX2_init wsX2_init { frames := 1, cells := 1, slots := 256, locals := 12 } (va_Pc [.ref aM] (mk_PreN (dC, dI) vwCl (tyz cI cZ cS) [(aM, .inr (2, [.null]))] sz)) (mk_QN (dC, dI) vwCl (tyz cI cZ cS) (va_A [(aM, .inr (2, [.null]))] sz) (fun u : Nat => w_M cI cZ cS aM u (fun _ => 0))) 1 256 (va_A [(aM, .inr (2, [.null]))] sz) := by
  refine mk_enterN (Qc := fun A => mk_QN (dC, dI) vwCl (tyz cI cZ cS) A (fun u : Nat => w_M cI cZ cS aM u (fun _ => 0))) (by decide) rfl (Nat.le_of_ble_eq_true rfl) ?_
  intro p e s m below meth c A E hI hin hA hK H locs ls hP hD hS hl
  obtain ⟨⟨hx, hb, hml, hown, hts⟩, hrt, hlk, hN⟩ := id E
  have hown : s.vm.findClass RX2 = some m.cls := hown
  have hin : meth.name = "<init>" := hin
  have hl : lv_has ls 1 [(0, .ref aM)] := hl
  refine lv_aload_n hx hb dX2_init_0 rfl (lv_at hl 0 rfl) ?_
  refine W.objInit hx hb hown (hts _ mi_M_0) (hts _ mi_M_1) (hts _ mi_M_2) rfl (by rw [hml]; exact hl.1) rfl dX2_init_1 (Nat.le_of_ble_eq_true rfl) (Nat.le_of_ble_eq_true rfl) ?_
  refine W.eq (g2 := F0 m 4 ls []) rfl ?_
  refine lv_aload_n hx hb dX2_init_4 rfl (lv_at hl 0 rfl) ?_
  refine lv_sipush (v := 256) hx hb dX2_init_5 (by decide) ?_
  refine mk_newi hx hb (hts _ mi_M_3) 0 rfl hK hP hD hS hA (n := 256) (N' := 256) (by decide) (by decide) (Nat.le_of_ble_eq_true rfl) (Nat.le_of_ble_eq_true rfl) (Nat.le_of_ble_eq_true rfl) dX2_init_8 (fun aMw H hP hD hS => ?_)
  have hP : va_P (dC, dI) vwCl [(aM, .inr (2, [.null])), (aMw, .inl (cI, 256, .inl (fun _ => 0)))] H := hP
  have hD : va_D A [(aM, .inr (2, [.null])), (aMw, .inl (cI, 256, .inl (fun _ => 0)))] := hD
  refine W.widen (k := 1) (n := 256) (by omega) (by omega) ?_
  refine va_putF (D := (dC, dI)) (ci := 2) (v := .ref aMw) (ty := .array .int) (C := RX2) (T := TX2) (N := 1) hx hb hts iw_M_Memory tyX2 tyX2_ok nmX2 hown hK hP hD hS 0 rfl rfl 0 (by decide) (hts _ mi_M_4) (fun _ h9 => h9) rfl hin rfl (by decide +kernel) rfl rfl (Nat.le_of_ble_eq_true rfl) dX2_init_10 (fun H locs hP hD hS => ?_)
  have hP : va_P (dC, dI) vwCl [(aM, .inr (2, [.ref aMw])), (aMw, .inl (cI, 256, .inl (fun _ => 0)))] H := hP
  have hD : va_D A [(aM, .inr (2, [.ref aMw])), (aMw, .inl (cI, 256, .inl (fun _ => 0)))] := hD
  exact mk_vretN (u := aMw) E hK (hP.sub [0, 1] rfl) (hD.sub [0, 1] (by decide) rfl) hS dX2_init_13

set_option maxRecDepth 20000 in
theorem mi_J_0 : Cond.methodLink RX1 3 objectInit ∈ wsX1_init := by decide +kernel
set_option maxRecDepth 20000 in
theorem mi_J_1 : Cond.instanceMethod objectInit ∈ wsX1_init := by decide +kernel
set_option maxRecDepth 20000 in
theorem mi_J_2 : Cond.code objectInit ⟨#[0xb1]⟩ 1 none ∈ wsX1_init := by decide +kernel
set_option maxRecDepth 20000 in
theorem mi_J_3 : Cond.arrayClass .int ∈ wsX1_init := by decide +kernel
set_option maxRecDepth 20000 in
theorem mi_J_4 : Cond.fieldLink RX1 9 "JournaledTables$Journal" "head" "[I" ∈ wsX1_init := by decide +kernel
set_option maxRecDepth 20000 in
theorem iw_J_Journal : ∀ w ∈ u_ws RX1 TX1 3, w ∈ wsX1_init := by decide +kernel
set_option maxRecDepth 20000 in
theorem mi_J_6 : Cond.fieldLink RX1 15 "JournaledTables$Journal" "disk" "LJournaledTables$Disk;" ∈ wsX1_init := by decide +kernel
set_option maxRecDepth 20000 in
theorem mi_J_7 : Cond.fieldLink RX1 19 "JournaledTables$Journal" "memory" "LJournaledTables$Memory;" ∈ wsX1_init := by decide +kernel
set_option maxHeartbeats 4000000 in
set_option maxRecDepth 100000 in
/-- Journal(disk, memory) -/
theorem i_J (l : Launch) (dC : Nat → ClassId) (dI : Nat → Nat → Nat) (cI cZ cS : ClassId) (aJ aD aM : Nat) : ∀ sz : Nat, Met l yX1_init wsX1_init { frames := 1, cells := 1, slots := 16, locals := 12 } (va_Pc [.ref aJ, .ref aD, .ref aM] (mk_PreN (dC, dI) vwCl (tyz cI cZ cS) [(aJ, .inr (1, [.null, .null, .null]))] sz)) (mk_QN (dC, dI) vwCl (tyz cI cZ cS) (va_A [(aJ, .inr (1, [.null, .null, .null]))] sz) (fun u : Nat => [(aJ, .inr (1, [.ref aD, .ref aM, .ref u])), (u, .inl (cI, 16, .inl (fun _ => 0)))])) 1 16 (va_A [(aJ, .inr (1, [.null, .null, .null]))] sz) := by
  refine mk_enterN (Qc := fun A => mk_QN (dC, dI) vwCl (tyz cI cZ cS) A (fun u : Nat => [(aJ, .inr (1, [.ref aD, .ref aM, .ref u])), (u, .inl (cI, 16, .inl (fun _ => 0)))])) (by decide) rfl (Nat.le_of_ble_eq_true rfl) ?_
  intro p e s m below meth c A E hI hin hA hK H locs ls hP hD hS hl
  obtain ⟨⟨hx, hb, hml, hown, hts⟩, hrt, hlk, hN⟩ := id E
  have hown : s.vm.findClass RX1 = some m.cls := hown
  have hin : meth.name = "<init>" := hin
  have hl : lv_has ls 3 [(0, .ref aJ), (1, .ref aD), (2, .ref aM)] := hl
  refine lv_aload_n hx hb dX1_init_0 rfl (lv_at hl 0 rfl) ?_
  refine W.objInit hx hb hown (hts _ mi_J_0) (hts _ mi_J_1) (hts _ mi_J_2) rfl (by rw [hml]; exact hl.1) rfl dX1_init_1 (Nat.le_of_ble_eq_true rfl) (Nat.le_of_ble_eq_true rfl) ?_
  refine W.eq (g2 := F0 m 4 ls []) rfl ?_
  refine lv_aload_n hx hb dX1_init_4 rfl (lv_at hl 0 rfl) ?_
  refine lv_bipush (v := 16) hx hb dX1_init_5 (by decide) ?_
  refine mk_newi hx hb (hts _ mi_J_3) 0 rfl hK hP hD hS hA (n := 16) (N' := 16) (by decide) (by decide) (Nat.le_of_ble_eq_true rfl) (Nat.le_of_ble_eq_true rfl) (Nat.le_of_ble_eq_true rfl) dX1_init_7 (fun aJh H hP hD hS => ?_)
  have hP : va_P (dC, dI) vwCl [(aJ, .inr (1, [.null, .null, .null])), (aJh, .inl (cI, 16, .inl (fun _ => 0)))] H := hP
  have hD : va_D A [(aJ, .inr (1, [.null, .null, .null])), (aJh, .inl (cI, 16, .inl (fun _ => 0)))] := hD
  refine W.widen (k := 1) (n := 16) (by omega) (by omega) ?_
  refine va_putF (D := (dC, dI)) (ci := 1) (v := .ref aJh) (ty := .array .int) (C := RX1) (T := TX1) (N := 3) hx hb hts iw_J_Journal tyX1 tyX1_ok nmX1 hown hK hP hD hS 0 rfl rfl 2 (by decide) (hts _ mi_J_4) (fun _ h9 => h9) rfl hin rfl (by decide +kernel) rfl rfl (Nat.le_of_ble_eq_true rfl) dX1_init_9 (fun H locs hP hD hS => ?_)
  have hP : va_P (dC, dI) vwCl [(aJ, .inr (1, [.null, .null, .ref aJh])), (aJh, .inl (cI, 16, .inl (fun _ => 0)))] H := hP
  have hD : va_D A [(aJ, .inr (1, [.null, .null, .ref aJh])), (aJh, .inl (cI, 16, .inl (fun _ => 0)))] := hD
  refine lv_aload_n hx hb dX1_init_12 rfl (lv_at hl 0 rfl) ?_
  refine lv_aload_n hx hb dX1_init_13 rfl (lv_at hl 1 rfl) ?_
  refine va_putF (D := (dC, dI)) (ci := 1) (v := .ref aD) (ty := .object "JournaledTables$Disk") (C := RX1) (T := TX1) (N := 3) hx hb hts iw_J_Journal tyX1 tyX1_ok nmX1 hown hK hP hD hS 0 rfl rfl 0 (by decide) (hts _ mi_J_6) (fun _ h9 => h9) rfl hin rfl (by decide +kernel) rfl rfl (Nat.le_of_ble_eq_true rfl) dX1_init_14 (fun H locs hP hD hS => ?_)
  have hP : va_P (dC, dI) vwCl [(aJ, .inr (1, [.ref aD, .null, .ref aJh])), (aJh, .inl (cI, 16, .inl (fun _ => 0)))] H := hP
  have hD : va_D A [(aJ, .inr (1, [.ref aD, .null, .ref aJh])), (aJh, .inl (cI, 16, .inl (fun _ => 0)))] := hD
  refine lv_aload_n hx hb dX1_init_17 rfl (lv_at hl 0 rfl) ?_
  refine lv_aload_n hx hb dX1_init_18 rfl (lv_at hl 2 rfl) ?_
  refine va_putF (D := (dC, dI)) (ci := 1) (v := .ref aM) (ty := .object "JournaledTables$Memory") (C := RX1) (T := TX1) (N := 3) hx hb hts iw_J_Journal tyX1 tyX1_ok nmX1 hown hK hP hD hS 0 rfl rfl 1 (by decide) (hts _ mi_J_7) (fun _ h9 => h9) rfl hin rfl (by decide +kernel) rfl rfl (Nat.le_of_ble_eq_true rfl) dX1_init_19 (fun H locs hP hD hS => ?_)
  have hP : va_P (dC, dI) vwCl [(aJ, .inr (1, [.ref aD, .ref aM, .ref aJh])), (aJh, .inl (cI, 16, .inl (fun _ => 0)))] H := hP
  have hD : va_D A [(aJ, .inr (1, [.ref aD, .ref aM, .ref aJh])), (aJh, .inl (cI, 16, .inl (fun _ => 0)))] := hD
  exact mk_vretN (u := aJh) E hK (hP.sub [0, 1] rfl) (hD.sub [0, 1] (by decide) rfl) hS dX1_init_22

set_option maxRecDepth 20000 in
theorem mi_S_0 : Cond.methodLink RX3 3 objectInit ∈ wsX3_init := by decide +kernel
set_option maxRecDepth 20000 in
theorem mi_S_1 : Cond.instanceMethod objectInit ∈ wsX3_init := by decide +kernel
set_option maxRecDepth 20000 in
theorem mi_S_2 : Cond.code objectInit ⟨#[0xb1]⟩ 1 none ∈ wsX3_init := by decide +kernel
set_option maxRecDepth 20000 in
theorem mi_S_3 : Cond.fieldLink RX3 9 "JournaledTables$Scan" "open" "Z" ∈ wsX3_init := by decide +kernel
set_option maxRecDepth 20000 in
theorem iw_S_Scan : ∀ w ∈ u_ws RX3 TX3 8, w ∈ wsX3_init := by decide +kernel
set_option maxRecDepth 20000 in
theorem mi_S_5 : Cond.fieldLink RX3 15 "JournaledTables$Scan" "isVoid" "Z" ∈ wsX3_init := by decide +kernel
set_option maxRecDepth 20000 in
theorem mi_S_6 : Cond.fieldLink RX3 18 "JournaledTables$Scan" "table" "I" ∈ wsX3_init := by decide +kernel
set_option maxRecDepth 20000 in
theorem mi_S_7 : Cond.fieldLink RX3 22 "JournaledTables$Scan" "col" "I" ∈ wsX3_init := by decide +kernel
set_option maxRecDepth 20000 in
theorem mi_S_8 : Cond.fieldLink RX3 25 "JournaledTables$Scan" "lo" "I" ∈ wsX3_init := by decide +kernel
set_option maxRecDepth 20000 in
theorem mi_S_9 : Cond.fieldLink RX3 28 "JournaledTables$Scan" "hi" "I" ∈ wsX3_init := by decide +kernel
set_option maxRecDepth 20000 in
theorem mi_S_10 : Cond.constantLong RX3 31 (-2147483649) ∈ wsX3_init := by decide +kernel
set_option maxRecDepth 20000 in
theorem mi_S_11 : Cond.fieldLink RX3 33 "JournaledTables$Scan" "passedKey" "J" ∈ wsX3_init := by decide +kernel
set_option maxRecDepth 20000 in
theorem mi_S_12 : Cond.fieldLink RX3 37 "JournaledTables$Scan" "row" "I" ∈ wsX3_init := by decide +kernel
set_option maxHeartbeats 4000000 in
set_option maxRecDepth 100000 in
/-- Scan() -/
theorem i_S (l : Launch) (dC : Nat → ClassId) (dI : Nat → Nat → Nat) (cI cZ cS : ClassId) (aSc : Nat) : ∀ sz : Nat, Met l yX3_init wsX3_init { frames := 1, cells := 0, slots := 0, locals := 12 } (va_Pc [.ref aSc] (mk_PreN (dC, dI) vwCl (tyz cI cZ cS) [(aSc, .inr (3, [.int 0, .int 0, .int 0, .int 0, .int 0, .int 0, .long 0, .int 0]))] sz)) (mk_QN (dC, dI) vwCl (tyz cI cZ cS) (va_A [(aSc, .inr (3, [.int 0, .int 0, .int 0, .int 0, .int 0, .int 0, .long 0, .int 0]))] sz) (fun u : Unit => [(aSc, scv sct0)])) 0 0 (va_A [(aSc, .inr (3, [.int 0, .int 0, .int 0, .int 0, .int 0, .int 0, .long 0, .int 0]))] sz) := by
  refine mk_enterN (Qc := fun A => mk_QN (dC, dI) vwCl (tyz cI cZ cS) A (fun u : Unit => [(aSc, scv sct0)])) (by decide) rfl (Nat.le_of_ble_eq_true rfl) ?_
  intro p e s m below meth c A E hI hin hA hK H locs ls hP hD hS hl
  obtain ⟨⟨hx, hb, hml, hown, hts⟩, hrt, hlk, hN⟩ := id E
  have hown : s.vm.findClass RX3 = some m.cls := hown
  have hin : meth.name = "<init>" := hin
  have hl : lv_has ls 1 [(0, .ref aSc)] := hl
  refine lv_aload_n hx hb dX3_init_0 rfl (lv_at hl 0 rfl) ?_
  refine W.objInit hx hb hown (hts _ mi_S_0) (hts _ mi_S_1) (hts _ mi_S_2) rfl (by rw [hml]; exact hl.1) rfl dX3_init_1 (Nat.le_of_ble_eq_true rfl) (Nat.le_of_ble_eq_true rfl) ?_
  refine W.eq (g2 := F0 m 4 ls []) rfl ?_
  refine lv_aload_n hx hb dX3_init_4 rfl (lv_at hl 0 rfl) ?_
  refine lv_iconst (v := 0) hx hb dX3_init_5 (by decide) ?_
  refine va_put (D := (dC, dI)) (ci := 3) (v := .int 0) (ty := .boolean) (C := RX3) (T := TX3) (N := 8) hx hb hts iw_S_Scan tyX3 tyX3_ok nmX3 hown hK hP hD hS 0 rfl rfl 0 (by decide) (hts _ mi_S_3) (fun _ h9 => h9) rfl (by decide +kernel) rfl rfl (Nat.le_of_ble_eq_true rfl) dX3_init_6 (fun H locs hP hD hS => ?_)
  have hP : va_P (dC, dI) vwCl [(aSc, .inr (3, [.int 0, .int 0, .int 0, .int 0, .int 0, .int 0, .long 0, .int 0]))] H := hP
  have hD : va_D A [(aSc, .inr (3, [.int 0, .int 0, .int 0, .int 0, .int 0, .int 0, .long 0, .int 0]))] := hD
  refine lv_aload_n hx hb dX3_init_9 rfl (lv_at hl 0 rfl) ?_
  refine lv_iconst (v := 0) hx hb dX3_init_10 (by decide) ?_
  refine va_put (D := (dC, dI)) (ci := 3) (v := .int 0) (ty := .boolean) (C := RX3) (T := TX3) (N := 8) hx hb hts iw_S_Scan tyX3 tyX3_ok nmX3 hown hK hP hD hS 0 rfl rfl 1 (by decide) (hts _ mi_S_5) (fun _ h9 => h9) rfl (by decide +kernel) rfl rfl (Nat.le_of_ble_eq_true rfl) dX3_init_11 (fun H locs hP hD hS => ?_)
  have hP : va_P (dC, dI) vwCl [(aSc, .inr (3, [.int 0, .int 0, .int 0, .int 0, .int 0, .int 0, .long 0, .int 0]))] H := hP
  have hD : va_D A [(aSc, .inr (3, [.int 0, .int 0, .int 0, .int 0, .int 0, .int 0, .long 0, .int 0]))] := hD
  refine lv_aload_n hx hb dX3_init_14 rfl (lv_at hl 0 rfl) ?_
  refine lv_iconst (v := 0) hx hb dX3_init_15 (by decide) ?_
  refine va_put (D := (dC, dI)) (ci := 3) (v := .int 0) (ty := .int) (C := RX3) (T := TX3) (N := 8) hx hb hts iw_S_Scan tyX3 tyX3_ok nmX3 hown hK hP hD hS 0 rfl rfl 2 (by decide) (hts _ mi_S_6) (fun _ h9 => h9) rfl (by decide +kernel) rfl rfl (Nat.le_of_ble_eq_true rfl) dX3_init_16 (fun H locs hP hD hS => ?_)
  have hP : va_P (dC, dI) vwCl [(aSc, .inr (3, [.int 0, .int 0, .int 0, .int 0, .int 0, .int 0, .long 0, .int 0]))] H := hP
  have hD : va_D A [(aSc, .inr (3, [.int 0, .int 0, .int 0, .int 0, .int 0, .int 0, .long 0, .int 0]))] := hD
  refine lv_aload_n hx hb dX3_init_19 rfl (lv_at hl 0 rfl) ?_
  refine lv_iconst (v := 0) hx hb dX3_init_20 (by decide) ?_
  refine va_put (D := (dC, dI)) (ci := 3) (v := .int 0) (ty := .int) (C := RX3) (T := TX3) (N := 8) hx hb hts iw_S_Scan tyX3 tyX3_ok nmX3 hown hK hP hD hS 0 rfl rfl 3 (by decide) (hts _ mi_S_7) (fun _ h9 => h9) rfl (by decide +kernel) rfl rfl (Nat.le_of_ble_eq_true rfl) dX3_init_21 (fun H locs hP hD hS => ?_)
  have hP : va_P (dC, dI) vwCl [(aSc, .inr (3, [.int 0, .int 0, .int 0, .int 0, .int 0, .int 0, .long 0, .int 0]))] H := hP
  have hD : va_D A [(aSc, .inr (3, [.int 0, .int 0, .int 0, .int 0, .int 0, .int 0, .long 0, .int 0]))] := hD
  refine lv_aload_n hx hb dX3_init_24 rfl (lv_at hl 0 rfl) ?_
  refine lv_iconst (v := 0) hx hb dX3_init_25 (by decide) ?_
  refine va_put (D := (dC, dI)) (ci := 3) (v := .int 0) (ty := .int) (C := RX3) (T := TX3) (N := 8) hx hb hts iw_S_Scan tyX3 tyX3_ok nmX3 hown hK hP hD hS 0 rfl rfl 4 (by decide) (hts _ mi_S_8) (fun _ h9 => h9) rfl (by decide +kernel) rfl rfl (Nat.le_of_ble_eq_true rfl) dX3_init_26 (fun H locs hP hD hS => ?_)
  have hP : va_P (dC, dI) vwCl [(aSc, .inr (3, [.int 0, .int 0, .int 0, .int 0, .int 0, .int 0, .long 0, .int 0]))] H := hP
  have hD : va_D A [(aSc, .inr (3, [.int 0, .int 0, .int 0, .int 0, .int 0, .int 0, .long 0, .int 0]))] := hD
  refine lv_aload_n hx hb dX3_init_29 rfl (lv_at hl 0 rfl) ?_
  refine lv_iconst (v := 0) hx hb dX3_init_30 (by decide) ?_
  refine va_put (D := (dC, dI)) (ci := 3) (v := .int 0) (ty := .int) (C := RX3) (T := TX3) (N := 8) hx hb hts iw_S_Scan tyX3 tyX3_ok nmX3 hown hK hP hD hS 0 rfl rfl 5 (by decide) (hts _ mi_S_9) (fun _ h9 => h9) rfl (by decide +kernel) rfl rfl (Nat.le_of_ble_eq_true rfl) dX3_init_31 (fun H locs hP hD hS => ?_)
  have hP : va_P (dC, dI) vwCl [(aSc, .inr (3, [.int 0, .int 0, .int 0, .int 0, .int 0, .int 0, .long 0, .int 0]))] H := hP
  have hD : va_D A [(aSc, .inr (3, [.int 0, .int 0, .int 0, .int 0, .int 0, .int 0, .long 0, .int 0]))] := hD
  refine lv_aload_n hx hb dX3_init_34 rfl (lv_at hl 0 rfl) ?_
  refine lv_ldc2 (v := (-2147483649)) hx hb hown (hts _ mi_S_10) dX3_init_35 ?_
  refine va_put (D := (dC, dI)) (ci := 3) (v := .long (-2147483649)) (ty := .long) (C := RX3) (T := TX3) (N := 8) hx hb hts iw_S_Scan tyX3 tyX3_ok nmX3 hown hK hP hD hS 0 rfl rfl 6 (by decide) (hts _ mi_S_11) (fun _ h9 => h9) rfl (by decide +kernel) rfl rfl (Nat.le_of_ble_eq_true rfl) dX3_init_38 (fun H locs hP hD hS => ?_)
  have hP : va_P (dC, dI) vwCl [(aSc, .inr (3, [.int 0, .int 0, .int 0, .int 0, .int 0, .int 0, .long (-2147483649), .int 0]))] H := hP
  have hD : va_D A [(aSc, .inr (3, [.int 0, .int 0, .int 0, .int 0, .int 0, .int 0, .long (-2147483649), .int 0]))] := hD
  refine lv_aload_n hx hb dX3_init_41 rfl (lv_at hl 0 rfl) ?_
  refine lv_iconst (v := (-1)) hx hb dX3_init_42 (by decide) ?_
  refine va_put (D := (dC, dI)) (ci := 3) (v := .int (-1)) (ty := .int) (C := RX3) (T := TX3) (N := 8) hx hb hts iw_S_Scan tyX3 tyX3_ok nmX3 hown hK hP hD hS 0 rfl rfl 7 (by decide) (hts _ mi_S_12) (fun _ h9 => h9) rfl (by decide +kernel) rfl rfl (Nat.le_of_ble_eq_true rfl) dX3_init_43 (fun H locs hP hD hS => ?_)
  have hP : va_P (dC, dI) vwCl [(aSc, .inr (3, [.int 0, .int 0, .int 0, .int 0, .int 0, .int 0, .long (-2147483649), .int (-1)]))] H := hP
  have hD : va_D A [(aSc, .inr (3, [.int 0, .int 0, .int 0, .int 0, .int 0, .int 0, .long (-2147483649), .int (-1)]))] := hD
  exact mk_vretN (u := ()) E hK (hP.sub [0] rfl) (hD.sub [0] (by decide) rfl) hS dX3_init_46

