/-! RULES: contracts of one shape (the answer and the new cells are what a pure function says), calls with cutting and joining, the entry and the end of a method -/
/-- the one private field of a nest mate that is read: Disk's words, in Memory -/
def nx_ok (U : State) : Prop := va_Nw (.fieldLinkNest RX2 15 "JournaledTables$Disk" "words" "[I" "JournaledTables") U
theorem nx_same {u U : State} (h : u.vm = U.vm) (n : nx_ok u) : nx_ok U := va_Nw.same rfl h n
theorem nx_warm {s U : State} (hW : s.WarmedH U.vm) (n : nx_ok s) : nx_ok U := va_Nw.warmF hW n
/-- the array classes -/
abbrev tyz (cI cZ cS : ClassId) : List (ClassId × FieldType) := [(cI, .int), (cZ, .boolean), (cS, .object "JournaledTables$Scan")]
section MKP
variable {D : va_G} {cl : List vw_C} {tys : List (ClassId × FieldType)}
/-- a method's world at its start -/
def mk_Pre (D : va_G) (cl : List vw_C) (tys : List (ClassId × FieldType)) (w0 : va_W) (sz : Nat) : State → Prop := fun U => U.heap.size = sz ∧ va_P D cl w0 U.heap ∧ va_K D cl tys U ∧ va_D (fun _ => True) w0 ∧ nx_ok U
def mk_B {S : Type} (D : va_G) (cl : List vw_C) (tys : List (ClassId × FieldType)) (A : Nat → Prop) (w : S → va_W) : S → State → Prop := fun u t => va_P D cl (w u) t.heap ∧ va_K D cl tys t ∧ va_D A (w u)
theorem mk_blind {av : List Value} {w0 : va_W} {sz : Nat} : FrameBlind (va_Pc av (mk_Pre D cl tys w0 sz)) := fun a U g mk q => by
  obtain ⟨q0, q1, qP, qK, qD, qN⟩ := q
  exact ⟨q0, q1, qP, va_K.moved (u := U) (U := U.calling g mk a) (Vm.Alike.refl U.vm) qK, qD, nx_same (u := U) (U := U.calling g mk a) rfl qN⟩
/-- the ends: an int and a new state; a new state; an int alone; a reference that may be null -/
def mk_QI {S : Type} (D : va_G) (cl : List vw_C) (tys : List (ClassId × FieldType)) (A : Nat → Prop) (w1 : S → va_W) (R : Int32 × S) : Array Value → State → Outcome → State → Prop := va_Qi (fun r u => r = R.1 ∧ u = R.2) (mk_B D cl tys A w1) A
def mk_QV {S : Type} (D : va_G) (cl : List vw_C) (tys : List (ClassId × FieldType)) (A : Nat → Prop) (w1 : S → va_W) (R : S) : Array Value → State → Outcome → State → Prop := va_Qv (fun u => u = R) (mk_B D cl tys A w1) A
def mk_QR (D : va_G) (cl : List vw_C) (tys : List (ClassId × FieldType)) (A : Nat → Prop) (w0 : va_W) (R : Int32) : Array Value → State → Outcome → State → Prop := va_Qi (fun r (_ : Unit) => r = R) (mk_B D cl tys A (fun _ => w0)) A
def mk_QQ (D : va_G) (cl : List vw_C) (tys : List (ClassId × FieldType)) (A : Nat → Prop) (w0 : va_W) (R : Option Nat) : Array Value → State → Outcome → State → Prop := va_Qq (fun r (_ : Unit) => r = R) (mk_B D cl tys A (fun _ => w0)) A
/-- the contracts -/
def CtI (l : Launch) (y : MethodName) (ws : List Cond) (rm : Room) (D : va_G) (cl : List vw_C) (tys : List (ClassId × FieldType)) (av : List Value) (w0 : va_W) {S : Type} (w1 : S → va_W) (f : Option (Int32 × S)) : Prop :=
  ∀ R, f = some R → ∀ sz : Nat, Met l y ws rm (va_Pc av (mk_Pre D cl tys w0 sz)) (mk_QI D cl tys (va_A w0 sz) w1 R) 0 0 (va_A w0 sz)
def CtV (l : Launch) (y : MethodName) (ws : List Cond) (rm : Room) (D : va_G) (cl : List vw_C) (tys : List (ClassId × FieldType)) (av : List Value) (w0 : va_W) {S : Type} (w1 : S → va_W) (f : Option S) : Prop :=
  ∀ R, f = some R → ∀ sz : Nat, Met l y ws rm (va_Pc av (mk_Pre D cl tys w0 sz)) (mk_QV D cl tys (va_A w0 sz) w1 R) 0 0 (va_A w0 sz)
def CtR (l : Launch) (y : MethodName) (ws : List Cond) (rm : Room) (D : va_G) (cl : List vw_C) (tys : List (ClassId × FieldType)) (av : List Value) (w0 : va_W) (f : Option Int32) : Prop :=
  ∀ R, f = some R → ∀ sz : Nat, Met l y ws rm (va_Pc av (mk_Pre D cl tys w0 sz)) (mk_QR D cl tys (va_A w0 sz) w0 R) 0 0 (va_A w0 sz)
def CtQ (l : Launch) (y : MethodName) (ws : List Cond) (rm : Room) (D : va_G) (cl : List vw_C) (tys : List (ClassId × FieldType)) (av : List Value) (w0 : va_W) (f : Option (Option Nat)) : Prop :=
  ∀ R, f = some R → ∀ sz : Nat, Met l y ws rm (va_Pc av (mk_Pre D cl tys w0 sz)) (mk_QQ D cl tys (va_A w0 sz) w0 R) 0 0 (va_A w0 sz)
theorem mk_pick {w w0 : va_W} {H : Heap} (hP : va_P D cl w H) (is : List Nat) (hC : is.map (fun i => w[i]?) = w0.map some) : va_P D cl w0 H := fun k q hk => by
  obtain ⟨i, -, hi⟩ := va_in_of is hC hk
  exact hP i q hi
end MKP
/-- what a method's body knows at its entry -/
def mk_En (p : Program) (s : State) (m : MethodId) (meth : Method) (c : Code) (cc : ByteArray) (nL : Nat) (ret : Option FieldType) (args : Array Value) (Ts : List Cond) (own : String) : Prop :=
  (p.tables.exec = Jvm.exec ∧ c.code = cc ∧ c.maxLocals = nL ∧ s.vm.findClass own = some m.cls ∧ ∀ w ∈ Ts, w.before args s = true) ∧ meth.sig.returnType = ret ∧ meth.locks = false ∧ nx_ok s
section MKE
variable {l : Launch} {y : MethodName} {ws ws' : List Cond} {rm : Room} {D : va_G} {cl : List vw_C} {tys : List (ClassId × FieldType)} {av : List Value} {w0 : va_W} {cc : ByteArray} {nL : Nat} {ret : Option FieldType}
/-- the entry, whatever the end -/
theorem mk_enter {Qc : (Nat → Prop) → Array Value → State → Outcome → State → Prop} (hy : plainName y.cls = true) (hw : ws = Cond.code y cc nL ret :: ws') (hn : (lg_sl av).length ≤ nL)
    (body : ∀ (p : Program) (e : Env) (s : State) (m : MethodId) (below : List Frame) (meth : Method) (c : Code) (A : Nat → Prop), mk_En p s m meth c cc nL ret av.toArray ws y.cls → (∀ q : Nat, s.heap.size ≤ q → A q) → va_K D cl tys s → ∀ (H : Heap) (locs : List Loc) (ls : Array Slot), va_P D cl w0 H → va_D A w0 → va_S A s.heap H locs → lv_has ls nL (lv_args 0 av) → W p l e rm s m av.toArray below meth c H locs 0 0 (MQ below (Qc A) av.toArray s 0 0 A) (F0 m 0 ls [])) :
    ∀ sz : Nat, Met l y ws rm (va_Pc av (mk_Pre D cl tys w0 sz)) (Qc (va_A w0 sz)) 0 0 (va_A w0 sz) := by
  intro sz
  refine Met.ofW (cc := cc) (maxL := nL) (ret := ret) hy hw ?_
  intro p e s m args below meth c s₁ B hml hv
  obtain ⟨rfl, hsz, hP, hK, hD0, hN⟩ := hv
  subst hsz
  have hl := lv_entry av (n := nL) hn
  rw [lg_entry_eq]
  exact body p e s m below meth c (va_A w0 s.heap.size) ⟨⟨B.exec, B.bytes, hml, findClass_of_methodNamed B.named, atoms_spec (ws := ws) B.pre⟩, B.returns, B.notSynchronized, hN⟩ (fun q h => Or.inr h) hK s.heap [] _ hP (hD0.self (sz := s.heap.size)) va_S.rf hl
end MKE
section MKC
variable {p : Program} {l : Launch} {e : Env} {R : Room} {s : State} {m : MethodId} {args : Array Value} {below : List Frame} {meth : Method} {c : Code} {H : Heap} {locs : List Loc} {cells slots : Nat} {Q : State → Prop}
variable {D : va_G} {cl : List vw_C} {tys : List (ClassId × FieldType)} {cc : ByteArray} {nL pc : Nat} {ls : Array Slot} {ret : Option FieldType} {Ts : List Cond} {own : String} {A A0 : Nat → Prop} {H0 : Heap}
/-- ends -/
theorem mk_iret {S : Type} {w1 : S → va_W} {r : Int32} {u : S} (E : mk_En p s m meth c cc nL (some .int) args Ts own) (hK : va_K D cl tys s) (hP : va_P D cl (w1 u) H) (hD : va_D A (w1 u)) (hS : va_S A s.heap H locs) (hdg : decode cc pc = .ok (.ireturn, 1)) : W p l e R s m args below meth c H locs 0 0 (MQ below (mk_QI D cl tys A w1 (r, u)) args s 0 0 A) (F0 m pc ls [.int r]) := by
  have hlocks : meth.locks = false := E.2.2.1
  exact W.iret E.1.1 E.1.2.1 E.2.1 (fun t ht hW => ⟨⟨r, u, rfl, ⟨rfl, rfl⟩, by rw [ht]; exact hP, va_K.moved hW.alike hK, hD⟩, hS.F ht⟩) hS.2.2 hdg hlocks
theorem mk_zret {S : Type} {w1 : S → va_W} {r : Int32} {u : S} (E : mk_En p s m meth c cc nL (some .boolean) args Ts own) (hr : r &&& 1 = r) (hK : va_K D cl tys s) (hP : va_P D cl (w1 u) H) (hD : va_D A (w1 u)) (hS : va_S A s.heap H locs) (hdg : decode cc pc = .ok (.ireturn, 1)) : W p l e R s m args below meth c H locs 0 0 (MQ below (mk_QI D cl tys A w1 (r, u)) args s 0 0 A) (F0 m pc ls [.int r]) := by
  have hlocks : meth.locks = false := E.2.2.1
  exact W.zret E.1.1 E.1.2.1 E.2.1 (by show Value.int (r &&& 1) = _; rw [hr]) (fun t ht hW => ⟨⟨r, u, rfl, ⟨rfl, rfl⟩, by rw [ht]; exact hP, va_K.moved hW.alike hK, hD⟩, hS.F ht⟩) hS.2.2 hdg hlocks
theorem mk_vret {S : Type} {w1 : S → va_W} {u : S} (E : mk_En p s m meth c cc nL none args Ts own) (hK : va_K D cl tys s) (hP : va_P D cl (w1 u) H) (hD : va_D A (w1 u)) (hS : va_S A s.heap H locs) (hdg : decode cc pc = .ok (.return_, 1)) : W p l e R s m args below meth c H locs 0 0 (MQ below (mk_QV D cl tys A w1 u) args s 0 0 A) (F0 m pc ls []) := by
  have hlocks : meth.locks = false := E.2.2.1
  exact W.vret E.1.1 E.1.2.1 E.2.1 (fun t ht hW => ⟨⟨u, rfl, rfl, by rw [ht]; exact hP, va_K.moved hW.alike hK, hD⟩, hS.F ht⟩) hS.2.2 hdg hlocks
theorem mk_iretR {w0 : va_W} {r : Int32} (E : mk_En p s m meth c cc nL (some .int) args Ts own) (hK : va_K D cl tys s) (hP : va_P D cl w0 H) (hD : va_D A w0) (hS : va_S A s.heap H locs) (hdg : decode cc pc = .ok (.ireturn, 1)) : W p l e R s m args below meth c H locs 0 0 (MQ below (mk_QR D cl tys A w0 r) args s 0 0 A) (F0 m pc ls [.int r]) := by
  have hlocks : meth.locks = false := E.2.2.1
  exact W.iret E.1.1 E.1.2.1 E.2.1 (fun t ht hW => ⟨⟨r, (), rfl, rfl, by rw [ht]; exact hP, va_K.moved hW.alike hK, hD⟩, hS.F ht⟩) hS.2.2 hdg hlocks
theorem mk_zretR {w0 : va_W} {r : Int32} (E : mk_En p s m meth c cc nL (some .boolean) args Ts own) (hr : r &&& 1 = r) (hK : va_K D cl tys s) (hP : va_P D cl w0 H) (hD : va_D A w0) (hS : va_S A s.heap H locs) (hdg : decode cc pc = .ok (.ireturn, 1)) : W p l e R s m args below meth c H locs 0 0 (MQ below (mk_QR D cl tys A w0 r) args s 0 0 A) (F0 m pc ls [.int r]) := by
  have hlocks : meth.locks = false := E.2.2.1
  exact W.zret E.1.1 E.1.2.1 E.2.1 (by show Value.int (r &&& 1) = _; rw [hr]) (fun t ht hW => ⟨⟨r, (), rfl, rfl, by rw [ht]; exact hP, va_K.moved hW.alike hK, hD⟩, hS.F ht⟩) hS.2.2 hdg hlocks
theorem mk_aretQ {w0 : va_W} {r : Option Nat} {C : String} (E : mk_En p s m meth c cc nL (some (.object C)) args Ts own) (hK : va_K D cl tys s) (hP : va_P D cl w0 H) (hD : va_D A w0) (hS : va_S A s.heap H locs) (hdg : decode cc pc = .ok (.areturn, 1)) : W p l e R s m args below meth c H locs 0 0 (MQ below (mk_QQ D cl tys A w0 r) args s 0 0 A) (F0 m pc ls [va_rf r]) := by
  have hlocks : meth.locks = false := E.2.2.1
  exact W.aret E.1.1 E.1.2.1 E.2.1 (Or.inl ⟨C, rfl⟩) (va_rf_or r) (fun t ht hW => ⟨⟨r, (), rfl, rfl, by rw [ht]; exact hP, va_K.moved hW.alike hK, hD⟩, hS.F ht⟩) hS.2.2 hdg hlocks
/-- a callee's start, out of the caller's world -/
theorem mk_preV {C : String} {b : Nat} {As : List Value} {w0 : va_W} {ci q0 : Nat} {r : vw_C} {fs : List Value} (hN : nx_ok s) (hK : va_K D cl tys s) (hP : va_P D cl w0 H) (hD : va_D A w0) (hc : cl[ci]? = some r) (hC : r.1 = C) (he : w0[q0]? = some (b, .inr (ci, fs))) : PreV s H C b (va_Pc (.ref b :: As) (mk_Pre D cl tys w0 H.size)) As := by
  subst hC
  exact ⟨mk_blind, va_recv hK hP hc he, fun U hU hW => ⟨rfl, by rw [hU], by rw [hU]; exact hP, va_K.moved hW.alike hK, hD.weaken (fun _ _ _ _ => trivial), nx_warm hW hN⟩⟩
theorem mk_preS {As : List Value} {w0 : va_W} (hN : nx_ok s) (hK : va_K D cl tys s) (hP : va_P D cl w0 H) (hD : va_D A w0) : PreS s H (va_Pc As (mk_Pre D cl tys w0 H.size)) As :=
  ⟨mk_blind, fun U hU hW => ⟨rfl, by rw [hU], by rw [hU]; exact hP, va_K.moved hW.alike hK, hD.weaken (fun _ _ _ _ => trivial), nx_warm hW hN⟩⟩
variable {rest st0 : List Value} {a : Array Value} {w w0 wr w2 : va_W} {free : Addr → Prop}
/-- behind a call: an int and a new state -/
theorem mk_contI {S : Type} {w1 : S → va_W} {Rv : Int32 × S} (hP : va_P D cl w H) (hD : va_D A0 w) (hS : va_S A0 H0 H locs) (hA : ∀ q, H0.size ≤ q → A0 q) (isC isR : List Nat) (hC : isC.map (fun i => w[i]?) = w0.map some) (hR : isR.map (fun i => w[i]?) = wr.map some) (hn2 : va_nd isR = true) (hdis : ∀ i ∈ isR, i ∉ isC)
    (is2 : List Nat) (h2 : is2.map (fun i => (wr ++ w1 Rv.2)[i]?) = w2.map some) (hn3 : va_nd is2 = true)
    (hr : va_Run p l e R s m args below meth c H locs cells slots 0 0 (F0 m pc ls st0) rest (mk_QI D cl tys (va_A w0 H.size) w1 Rv a) (va_A w0 H.size))
    (kk : ∀ (H1 : Heap) (locs1 : List Loc), va_P D cl w2 H1 → va_D A0 w2 → va_S A0 H0 H1 locs1 → W p l e R s m args below meth c H1 locs1 cells slots Q (F0 m (pc + 3) ls (.int Rv.1 :: rest))) : W p l e R s m args below meth c H locs cells slots Q (F0 m pc ls st0) := by
  have hFc := va_free hD hS hA isC hC
  refine va_calli hr hS (fun q _ h => hFc q h) hFc (fun r u t H1 locs1 ht hvm hw hB hz1 hk1 hS1 => ?_)
  obtain ⟨rfl, rfl⟩ := hw
  obtain ⟨hP1, hK1, hD1⟩ := hB
  rw [ht] at hP1
  obtain ⟨hP', hD'⟩ := va_join hP hD isC isR hC hR hn2 hdis hk1 hFc hP1 hD1
  exact kk H1 locs1 (mk_pick hP' is2 h2) (hD'.sub is2 hn3 h2) hS1
theorem mk_contV {S : Type} {w1 : S → va_W} {Rv : S} (hP : va_P D cl w H) (hD : va_D A0 w) (hS : va_S A0 H0 H locs) (hA : ∀ q, H0.size ≤ q → A0 q) (isC isR : List Nat) (hC : isC.map (fun i => w[i]?) = w0.map some) (hR : isR.map (fun i => w[i]?) = wr.map some) (hn2 : va_nd isR = true) (hdis : ∀ i ∈ isR, i ∉ isC)
    (is2 : List Nat) (h2 : is2.map (fun i => (wr ++ w1 Rv)[i]?) = w2.map some) (hn3 : va_nd is2 = true)
    (hr : va_Run p l e R s m args below meth c H locs cells slots 0 0 (F0 m pc ls st0) rest (mk_QV D cl tys (va_A w0 H.size) w1 Rv a) (va_A w0 H.size))
    (kk : ∀ (H1 : Heap) (locs1 : List Loc), va_P D cl w2 H1 → va_D A0 w2 → va_S A0 H0 H1 locs1 → W p l e R s m args below meth c H1 locs1 cells slots Q (F0 m (pc + 3) ls rest)) : W p l e R s m args below meth c H locs cells slots Q (F0 m pc ls st0) := by
  have hFc := va_free hD hS hA isC hC
  refine va_callv hr hS (fun q _ h => hFc q h) hFc (fun u t H1 locs1 ht hvm hw hB hz1 hk1 hS1 => ?_)
  subst hw
  obtain ⟨hP1, hK1, hD1⟩ := hB
  rw [ht] at hP1
  obtain ⟨hP', hD'⟩ := va_join hP hD isC isR hC hR hn2 hdis hk1 hFc hP1 hD1
  exact kk H1 locs1 (mk_pick hP' is2 h2) (hD'.sub is2 hn3 h2) hS1
/-- a call that only reads: the caller's world is as it was -/
theorem mk_contR {Rv : Int32} (hP : va_P D cl w H) (hD : va_D A0 w) (hS : va_S A0 H0 H locs) (hA : ∀ q, H0.size ≤ q → A0 q) (isC isR : List Nat) (hC : isC.map (fun i => w[i]?) = w0.map some) (hR : isR.map (fun i => w[i]?) = wr.map some) (hn2 : va_nd isR = true) (hdis : ∀ i ∈ isR, i ∉ isC)
    (is2 : List Nat) (h2 : is2.map (fun i => (wr ++ w0)[i]?) = w.map some) (hn3 : va_nd is2 = true)
    (hr : va_Run p l e R s m args below meth c H locs cells slots 0 0 (F0 m pc ls st0) rest (mk_QR D cl tys (va_A w0 H.size) w0 Rv a) (va_A w0 H.size))
    (kk : ∀ (H1 : Heap) (locs1 : List Loc), va_P D cl w H1 → va_D A0 w → va_S A0 H0 H1 locs1 → W p l e R s m args below meth c H1 locs1 cells slots Q (F0 m (pc + 3) ls (.int Rv :: rest))) : W p l e R s m args below meth c H locs cells slots Q (F0 m pc ls st0) := by
  have hFc := va_free hD hS hA isC hC
  refine va_calli hr hS (fun q _ h => hFc q h) hFc (fun r u t H1 locs1 ht hvm hw hB hz1 hk1 hS1 => ?_)
  subst hw
  obtain ⟨hP1, hK1, hD1⟩ := hB
  rw [ht] at hP1
  obtain ⟨hP', hD'⟩ := va_join hP hD isC isR hC hR hn2 hdis hk1 hFc hP1 hD1
  exact kk H1 locs1 (mk_pick hP' is2 h2) (hD'.sub is2 hn3 h2) hS1
theorem mk_contQ {Rv : Option Nat} (hP : va_P D cl w H) (hD : va_D A0 w) (hS : va_S A0 H0 H locs) (hA : ∀ q, H0.size ≤ q → A0 q) (isC isR : List Nat) (hC : isC.map (fun i => w[i]?) = w0.map some) (hR : isR.map (fun i => w[i]?) = wr.map some) (hn2 : va_nd isR = true) (hdis : ∀ i ∈ isR, i ∉ isC)
    (is2 : List Nat) (h2 : is2.map (fun i => (wr ++ w0)[i]?) = w.map some) (hn3 : va_nd is2 = true)
    (hr : va_Run p l e R s m args below meth c H locs cells slots 0 0 (F0 m pc ls st0) rest (mk_QQ D cl tys (va_A w0 H.size) w0 Rv a) (va_A w0 H.size))
    (kk : ∀ (H1 : Heap) (locs1 : List Loc), va_P D cl w H1 → va_D A0 w → va_S A0 H0 H1 locs1 → W p l e R s m args below meth c H1 locs1 cells slots Q (F0 m (pc + 3) ls (va_rf Rv :: rest))) : W p l e R s m args below meth c H locs cells slots Q (F0 m pc ls st0) := by
  have hFc := va_free hD hS hA isC hC
  refine va_callq hr hS (fun q _ h => hFc q h) hFc (fun r u t H1 locs1 ht hvm hw hB hz1 hk1 hS1 => ?_)
  subst hw
  obtain ⟨hP1, hK1, hD1⟩ := hB
  rw [ht] at hP1
  obtain ⟨hP', hD'⟩ := va_join hP hD isC isR hC hR hn2 hdis hk1 hFc hP1 hD1
  exact kk H1 locs1 (mk_pick hP' is2 h2) (hD'.sub is2 hn3 h2) hS1
end MKC
