/-! What every contract here takes as given, and calls in one row each. -/
section QB
abbrev qK (D : va_G) (kI kZ kJ : ClassId) (U : State) : Prop := va_K D vwCl [(kI, .int), (kZ, .boolean), (kJ, .long)] U
/-- the nest mates' links that the methods walked here use -/
def qN_l : List (String × Nat × MethodName × String) := [(RX3, 25, yX8_has, RX8), (RX0, 38, yX8_isField, RX8), (RX6, 55, yX8_isField, RX8)]
def qN (U : State) : Prop := ∀ q ∈ qN_l, va_Nw (.methodLinkNest q.1 q.2.1 q.2.2.1 q.2.2.2) U
theorem qN_warm {s U : State} (hW : s.WarmedH U.vm) (h : qN s) : qN U := fun q hq => va_Nw.warmM hW (h q hq)
theorem qN_vm {u U : State} (e : u.vm = U.vm) (h : qN u) : qN U := fun q hq => va_tabs rfl e (h q hq)
/-- a method that only reads: its world -/
def qR (D : va_G) (kI kZ kJ : ClassId) (ws : va_W) (av : List Value) : Array Value → State → Prop := va_Pc av (fun U => va_P D vwCl ws U.heap ∧ qK D kI kZ kJ U ∧ qN U)
theorem qR_blind {D : va_G} {kI kZ kJ : ClassId} {ws : va_W} {av : List Value} : FrameBlind (qR D kI kZ kJ ws av) := fun a U g mk q => ⟨q.1, q.2.1, va_K.moved (u := U) (U := U.calling g mk a) (Vm.Alike.refl U.vm) q.2.2.1, qN_vm (u := U) rfl q.2.2.2⟩
/-- a method that writes: its world, and how large the heap is -/
def qW (D : va_G) (kI kZ kJ : ClassId) (ws : va_W) (sz : Nat) (av : List Value) : Array Value → State → Prop := va_Pc av (fun U => U.heap.size = sz ∧ va_P D vwCl ws U.heap ∧ qK D kI kZ kJ U ∧ va_D (fun _ => True) ws ∧ qN U)
theorem qW_blind {D : va_G} {kI kZ kJ : ClassId} {ws : va_W} {sz : Nat} {av : List Value} : FrameBlind (qW D kI kZ kJ ws sz av) := fun a U g mk q => ⟨q.1, q.2.1, q.2.2.1, va_K.moved (u := U) (U := U.calling g mk a) (Vm.Alike.refl U.vm) q.2.2.2.1, q.2.2.2.2.1, qN_vm (u := U) rfl q.2.2.2.2.2⟩
/-- the world behind a method that writes -/
def qB (D : va_G) {S : Type} (w1 : S → va_W) (A : Nat → Prop) : S → State → Prop := fun u t => va_P D vwCl (w1 u) t.heap ∧ va_D A (w1 u)
variable {p : Program} {l : Launch} {e : Env} {R : Room} {s : State} {m : MethodId} {args : Array Value} {below : List Frame} {meth : Method} {c : Code} {H : Heap} {locs : List Loc} {cells slots : Nat} {Q : State → Prop}
variable {D : va_G} {kI kZ kJ : ClassId} {cc : ByteArray} {pc nL : Nat} {ls : Array Slot} {rest st0 : List Value} {A : Nat → Prop} {H0 : Heap} {wsH wc wr : va_W}
variable {y : MethodName} {bytes : ByteArray} {maxL mc ms n index : Nat} {ret : Option FieldType} {ws ws' Ts : List Cond} {rm : Room} {Qc : Array Value → State → Outcome → State → Prop} {own C : String} {b : Nat} {As : List Value}
/-- an object's method that only reads -/
theorem qV_R (S : CallFix p m c cc nL s args Ts own) (hK : qK D kI kZ kJ s) (hN : qN s) (hP : va_P D vwCl wsH H) (is : List Nat) (hsub : is.filterMap (fun i => wsH[i]?) = wc)
    (hM : Met l y ws rm (qR D kI kZ kJ wc (.ref b :: As)) Qc 0 0 (fun _ => False)) (hT : GoodIn Ts (wsV own index C y ws)) (hw : ws = Cond.code y bytes maxL ret :: ws') (hrc : rm.cells = 0) (hrs : rm.slots = 0)
    (hd : y.cls = C ∧ y.cls ≠ "java/lang/invoke/MethodHandle" ∧ y.cls ≠ "java/lang/invoke/VarHandle" ∧ (parseMethodDescriptor y.desc).map (fun d => d.parameters.length) = some n) (hR : rm.frames + 1 ≤ R.frames ∧ 8 + (maxL + 11) + rm.locals ≤ R.locals)
    (q0 ci : Nat) {fs : List Value} {cq : vw_C} (hc : vwCl[ci]? = some cq) (he : wsH[q0]? = some (b, .inr (ci, fs))) (hC : cq.1 = C) (hn : As.length = n) (hsize : ls.size = nL) (hstack : st0 = As.reverse ++ .ref b :: rest) (hroom : (rest.map fun v => v.category).sum ≤ 8)
    (hdg : decode cc pc = .ok (.invokevirtual index, 3)) (hf : cells + 0 ≤ R.cells ∧ slots + 0 ≤ R.slots) :
    va_Run p l e R s m args below meth c H locs cells slots 0 0 (F0 m pc ls st0) rest (Qc (Value.ref b :: As).toArray) (fun _ => False) := by
  subst hC
  have hPc := hP.sub is hsub
  exact va_runV S hM (cwV n S.2.2.2.2 hT hw hrc hrs hd hR) ⟨qR_blind, va_recv hK hP hc he, fun U hU hW => ⟨rfl, by rw [hU]; exact hPc, va_K.moved hW.alike hK, qN_warm hW hN⟩⟩ rfl hn hsize hstack (lv_room hroom) hdg hf
/-- a static method that only reads -/
theorem qS_R (S : CallFix p m c cc nL s args Ts own) (hK : qK D kI kZ kJ s) (hN : qN s) (hP : va_P D vwCl wsH H) (is : List Nat) (hsub : is.filterMap (fun i => wsH[i]?) = wc)
    (hM : Met l y ws rm (qR D kI kZ kJ wc As) Qc 0 0 (fun _ => False)) (hT : GoodIn Ts (va_wsS own index y ws)) (hw : ws = Cond.code y bytes maxL ret :: ws') (hrc : rm.cells = 0) (hrs : rm.slots = 0)
    (hd : y.cls ≠ "java/lang/invoke/MethodHandle" ∧ y.cls ≠ "java/lang/invoke/VarHandle" ∧ (parseMethodDescriptor y.desc).map (fun d => d.parameters.length) = some n) (hR : rm.frames + 1 ≤ R.frames ∧ 8 + (maxL + 11) + rm.locals ≤ R.locals)
    (hn : As.length = n) (hsize : ls.size = nL) (hstack : st0 = As.reverse ++ rest) (hroom : (rest.map fun v => v.category).sum ≤ 8)
    (hdg : decode cc pc = .ok (.invokestatic index, 3)) (hf : cells + 0 ≤ R.cells ∧ slots + 0 ≤ R.slots) :
    va_Run p l e R s m args below meth c H locs cells slots 0 0 (F0 m pc ls st0) rest (Qc As.toArray) (fun _ => False) := by
  have hPc := hP.sub is hsub
  exact va_runS S hM (va_cwS n S.2.2.2.2 hT hw hrc hrs hd hR) ⟨qR_blind, fun U hU hW => ⟨rfl, by rw [hU]; exact hPc, va_K.moved hW.alike hK, qN_warm hW hN⟩⟩ rfl hn hsize hstack (lv_room hroom) hdg hf
/-- a nest mate's static method that only reads -/
theorem qSN_R (S : CallFix p m c cc nL s args Ts own) (hK : qK D kI kZ kJ s) (hN : qN s) (hP : va_P D vwCl wsH H) (is : List Nat) (hsub : is.filterMap (fun i => wsH[i]?) = wc)
    (hM : Met l y ws rm (qR D kI kZ kJ wc As) Qc 0 0 (fun _ => False)) {host : String} (hG : GoodIn Ts ws) (hw : ws = Cond.code y bytes maxL ret :: ws') (hrc : rm.cells = 0) (hrs : rm.slots = 0) (hq : (own, index, y, host) ∈ qN_l) (hini : (Cond.initialized y.cls).before args s = true) (hst : (Cond.static y).before args s = true)
    (hd : y.cls ≠ "java/lang/invoke/MethodHandle" ∧ y.cls ≠ "java/lang/invoke/VarHandle" ∧ (parseMethodDescriptor y.desc).map (fun d => d.parameters.length) = some n) (hR : rm.frames + 1 ≤ R.frames ∧ 8 + (maxL + 11) + rm.locals ≤ R.locals)
    (hn : As.length = n) (hsize : ls.size = nL) (hstack : st0 = As.reverse ++ rest) (hroom : (rest.map fun v => v.category).sum ≤ 8)
    (hdg : decode cc pc = .ok (.invokestatic index, 3)) (hf : cells + 0 ≤ R.cells ∧ slots + 0 ≤ R.slots) :
    va_Run p l e R s m args below meth c H locs cells slots 0 0 (F0 m pc ls st0) rest (Qc As.toArray) (fun _ => False) := by
  have hPc := hP.sub is hsub
  exact va_runSN S hM ⟨va_cnB n S.2.2.2.2 hG hw hrc hrs (hN _ hq) hini hd hR, hst, trivial⟩ ⟨qR_blind, fun U hU hW => ⟨rfl, by rw [hU]; exact hPc, va_K.moved hW.alike hK, qN_warm hW hN⟩⟩ rfl hn hsize hstack (lv_room hroom) hdg hf
/-- an object's method that writes -/
theorem qV_W (S : CallFix p m c cc nL s args Ts own) (hK : qK D kI kZ kJ s) (hN : qN s) (hP : va_P D vwCl wsH H) (hD : va_D A wsH) (is : List Nat) (hsub : is.filterMap (fun i => wsH[i]?) = wc) (hsub2 : is.map (fun i => wsH[i]?) = wc.map some) (hnd : va_nd is = true) {free : Addr → Prop}
    (hM : Met l y ws rm (qW D kI kZ kJ wc H.size (.ref b :: As)) Qc mc ms free) (hT : GoodIn Ts (wsV own index C y ws)) (hw : ws = Cond.code y bytes maxL ret :: ws') (hrc : rm.cells = mc) (hrs : rm.slots = ms)
    (hd : y.cls = C ∧ y.cls ≠ "java/lang/invoke/MethodHandle" ∧ y.cls ≠ "java/lang/invoke/VarHandle" ∧ (parseMethodDescriptor y.desc).map (fun d => d.parameters.length) = some n) (hR : rm.frames + 1 ≤ R.frames ∧ 8 + (maxL + 11) + rm.locals ≤ R.locals)
    (q0 ci : Nat) {fs : List Value} {cq : vw_C} (hc : vwCl[ci]? = some cq) (he : wsH[q0]? = some (b, .inr (ci, fs))) (hC : cq.1 = C) (hn : As.length = n) (hsize : ls.size = nL) (hstack : st0 = As.reverse ++ .ref b :: rest) (hroom : (rest.map fun v => v.category).sum ≤ 8)
    (hdg : decode cc pc = .ok (.invokevirtual index, 3)) (hf : cells + mc ≤ R.cells ∧ slots + ms ≤ R.slots) :
    va_Run p l e R s m args below meth c H locs cells slots mc ms (F0 m pc ls st0) rest (Qc (Value.ref b :: As).toArray) free := by
  subst hC
  have hPc := hP.sub is hsub
  have hDc := hD.sub is hnd hsub2
  exact va_runV S hM (cwV n S.2.2.2.2 hT hw hrc hrs hd hR) ⟨qW_blind, va_recv hK hP hc he, fun U hU hW => ⟨rfl, by rw [hU], by rw [hU]; exact hPc, va_K.moved hW.alike hK, hDc.weaken (fun _ _ _ _ => trivial), qN_warm hW hN⟩⟩ rfl hn hsize hstack (lv_room hroom) hdg hf
/-- a static method that writes -/
theorem qS_W (S : CallFix p m c cc nL s args Ts own) (hK : qK D kI kZ kJ s) (hN : qN s) (hP : va_P D vwCl wsH H) (hD : va_D A wsH) (is : List Nat) (hsub : is.filterMap (fun i => wsH[i]?) = wc) (hsub2 : is.map (fun i => wsH[i]?) = wc.map some) (hnd : va_nd is = true) {free : Addr → Prop}
    (hM : Met l y ws rm (qW D kI kZ kJ wc H.size As) Qc mc ms free) (hT : GoodIn Ts (va_wsS own index y ws)) (hw : ws = Cond.code y bytes maxL ret :: ws') (hrc : rm.cells = mc) (hrs : rm.slots = ms)
    (hd : y.cls ≠ "java/lang/invoke/MethodHandle" ∧ y.cls ≠ "java/lang/invoke/VarHandle" ∧ (parseMethodDescriptor y.desc).map (fun d => d.parameters.length) = some n) (hR : rm.frames + 1 ≤ R.frames ∧ 8 + (maxL + 11) + rm.locals ≤ R.locals)
    (hn : As.length = n) (hsize : ls.size = nL) (hstack : st0 = As.reverse ++ rest) (hroom : (rest.map fun v => v.category).sum ≤ 8)
    (hdg : decode cc pc = .ok (.invokestatic index, 3)) (hf : cells + mc ≤ R.cells ∧ slots + ms ≤ R.slots) :
    va_Run p l e R s m args below meth c H locs cells slots mc ms (F0 m pc ls st0) rest (Qc As.toArray) free := by
  have hPc := hP.sub is hsub
  have hDc := hD.sub is hnd hsub2
  exact va_runS S hM (va_cwS n S.2.2.2.2 hT hw hrc hrs hd hR) ⟨qW_blind, fun U hU hW => ⟨rfl, by rw [hU], by rw [hU]; exact hPc, va_K.moved hW.alike hK, hDc.weaken (fun _ _ _ _ => trivial), qN_warm hW hN⟩⟩ rfl hn hsize hstack (lv_room hroom) hdg hf
/-- a constructor -/
theorem qI_W (S : CallFix p m c cc nL s args Ts own) (hK : qK D kI kZ kJ s) (hN : qN s) (hP : va_P D vwCl wsH H) (hD : va_D A wsH) (is : List Nat) (hsub : is.filterMap (fun i => wsH[i]?) = wc) (hsub2 : is.map (fun i => wsH[i]?) = wc.map some) (hnd : va_nd is = true) {free : Addr → Prop}
    (hM : Met l y ws rm (qW D kI kZ kJ wc H.size (.ref b :: As)) Qc mc ms free) (hG : GoodIn Ts ws) (hw : ws = Cond.code y bytes maxL none :: ws') (hrc : rm.cells = mc) (hrs : rm.slots = ms) (hini : (Cond.initialized y.cls).before args s = true) (hl : (Cond.methodLink own index y).before args s = true) (hin : (Cond.instanceMethod y).before args s = true) (hy1 : y.name = "<init>")
    (hd : y.cls ≠ "java/lang/invoke/MethodHandle" ∧ y.cls ≠ "java/lang/invoke/VarHandle" ∧ (parseMethodDescriptor y.desc).map (fun d => d.parameters.length) = some n) (hR : rm.frames + 1 ≤ R.frames ∧ 8 + (maxL + 11) + rm.locals ≤ R.locals)
    (hn : As.length = n) (hsize : ls.size = nL) (hstack : st0 = As.reverse ++ .ref b :: rest) (hroom : (rest.map fun v => v.category).sum ≤ 8)
    (hdg : decode cc pc = .ok (.invokespecial index, 3)) (hf : cells + mc ≤ R.cells ∧ slots + ms ≤ R.slots) :
    va_Run p l e R s m args below meth c H locs cells slots mc ms (F0 m pc ls st0) rest (Qc (Value.ref b :: As).toArray) free := by
  have hPc := hP.sub is hsub
  have hDc := hD.sub is hnd hsub2
  exact va_runI S hM (cwI n S.2.2.2.2 hG hw hrc hrs hini hl hin hy1 hd hR) ⟨qW_blind, fun U hU hW => ⟨rfl, by rw [hU], by rw [hU]; exact hPc, va_K.moved hW.alike hK, hDc.weaken (fun _ _ _ _ => trivial), qN_warm hW hN⟩⟩ rfl hn hsize hstack (lv_room hroom) hdg hf
/-- behind a call that writes: the rest of the world beside what came back -/
theorem qc_i {T : Type} {post : Int32 → T → Prop} {w1 : T → va_W} {a : Array Value} (hr : va_Run p l e R s m args below meth c H locs cells slots mc ms (F0 m pc ls st0) rest (va_Qi post (qB D w1 (va_A wc H.size)) (va_A wc H.size) a) (va_A wc H.size)) (hP : va_P D vwCl wsH H) (hD : va_D A wsH) (hS : va_S A H0 H locs) (hA : ∀ q, H0.size ≤ q → A q)
    (is isR : List Nat) (hC : is.map (fun i => wsH[i]?) = wc.map some) (hR2 : isR.map (fun i => wsH[i]?) = wr.map some) (hn : va_nd isR = true) (hdis : ∀ i ∈ isR, i ∉ is)
    (kk : ∀ (r : Int32) (u : T) (H1 : Heap) (locs1 : List Loc), post r u → va_P D vwCl (wr ++ w1 u) H1 → va_D A (wr ++ w1 u) → va_S A H0 H1 locs1 → W p l e R s m args below meth c H1 locs1 (cells + mc) (slots + ms) Q (F0 m (pc + 3) ls (.int r :: rest))) : W p l e R s m args below meth c H locs cells slots Q (F0 m pc ls st0) := by
  have hFc := va_free (wc := wc) hD hS hA is hC
  refine va_calli hr hS (fun q _ h => hFc q h) hFc (fun r u t H1 locs1 ht hvm hw hB hz1 hk1 hS1 => ?_)
  obtain ⟨hP1, hD1⟩ := hB
  rw [ht] at hP1
  obtain ⟨hP2, hD2⟩ := va_join (wr := wr) (w1 := w1 u) hP hD is isR hC hR2 hn hdis hk1 hFc hP1 hD1
  exact kk r u H1 locs1 hw hP2 hD2 hS1
theorem qc_v {T : Type} {post : T → Prop} {w1 : T → va_W} {a : Array Value} (hr : va_Run p l e R s m args below meth c H locs cells slots mc ms (F0 m pc ls st0) rest (va_Qv post (qB D w1 (va_A wc H.size)) (va_A wc H.size) a) (va_A wc H.size)) (hP : va_P D vwCl wsH H) (hD : va_D A wsH) (hS : va_S A H0 H locs) (hA : ∀ q, H0.size ≤ q → A q)
    (is isR : List Nat) (hC : is.map (fun i => wsH[i]?) = wc.map some) (hR2 : isR.map (fun i => wsH[i]?) = wr.map some) (hn : va_nd isR = true) (hdis : ∀ i ∈ isR, i ∉ is)
    (kk : ∀ (u : T) (H1 : Heap) (locs1 : List Loc), post u → va_P D vwCl (wr ++ w1 u) H1 → va_D A (wr ++ w1 u) → va_S A H0 H1 locs1 → W p l e R s m args below meth c H1 locs1 (cells + mc) (slots + ms) Q (F0 m (pc + 3) ls rest)) : W p l e R s m args below meth c H locs cells slots Q (F0 m pc ls st0) := by
  have hFc := va_free (wc := wc) hD hS hA is hC
  refine va_callv hr hS (fun q _ h => hFc q h) hFc (fun u t H1 locs1 ht hvm hw hB hz1 hk1 hS1 => ?_)
  obtain ⟨hP1, hD1⟩ := hB
  rw [ht] at hP1
  obtain ⟨hP2, hD2⟩ := va_join (wr := wr) (w1 := w1 u) hP hD is isR hC hR2 hn hdis hk1 hFc hP1 hD1
  exact kk u H1 locs1 hw hP2 hD2 hS1
/-- a new array -/
theorem qn_I (hexec : p.tables.exec = Jvm.exec) (hb : c.code = cc) (harr : (Cond.arrayClass .int).before args s = true) (hK : qK D kI kZ kJ s) (hP : va_P D vwCl wsH H) (hD : va_D A wsH) (hS : va_S A H0 H locs) (hA : ∀ q, H0.size ≤ q → A q)
    {v : Int32} {N : Nat} (hn : ¬ v < 0) (hN : v.toNatClampNeg = N) (hbytes : N * 4 ≤ 536870912) (hcells : cells + 1 ≤ R.cells) (hslots : slots + N ≤ R.slots) (hdg : decode cc pc = .ok (.newarray .int, 2))
    (kk : ∀ (q : Nat) (H1 : Heap), va_P D vwCl (wsH ++ [(q, .inl (kI, N, .inl (fun _ => 0)))]) H1 → va_D A (wsH ++ [(q, .inl (kI, N, .inl (fun _ => 0)))]) → va_S A H0 H1 locs → W p l e R s m args below meth c H1 locs (cells + 1) (slots + N) Q (F0 m (pc + 2) ls (.ref q :: rest))) : W p l e R s m args below meth c H locs cells slots Q (F0 m pc ls (.int v :: rest)) := by
  refine va_newa (atype := .int) hexec hb harr rfl hK hP hD hS hA (a0 := (N, .inl (fun _ => 0))) (N' := N) (fun _ => rfl) hn hN hbytes hcells hslots hdg (fun q cA H1 hK1 hP1 hD1 hS1 => ?_)
  have h1 := (hK1.2 3 _ rfl).2
  have h2 := (hK.2 0 _ rfl).2
  have h3 : cA = kI := Option.some.inj (h1.symm.trans h2)
  subst h3
  exact kk q H1 hP1 hD1 hS1
theorem qn_Z (hexec : p.tables.exec = Jvm.exec) (hb : c.code = cc) (harr : (Cond.arrayClass .boolean).before args s = true) (hK : qK D kI kZ kJ s) (hP : va_P D vwCl wsH H) (hD : va_D A wsH) (hS : va_S A H0 H locs) (hA : ∀ q, H0.size ≤ q → A q)
    {v : Int32} {N : Nat} (hn : ¬ v < 0) (hN : v.toNatClampNeg = N) (hbytes : N * 1 ≤ 536870912) (hcells : cells + 1 ≤ R.cells) (hslots : slots + N ≤ R.slots) (hdg : decode cc pc = .ok (.newarray .boolean, 2))
    (kk : ∀ (q : Nat) (H1 : Heap), va_P D vwCl (wsH ++ [(q, .inl (kZ, N, .inl (fun _ => 0)))]) H1 → va_D A (wsH ++ [(q, .inl (kZ, N, .inl (fun _ => 0)))]) → va_S A H0 H1 locs → W p l e R s m args below meth c H1 locs (cells + 1) (slots + N) Q (F0 m (pc + 2) ls (.ref q :: rest))) : W p l e R s m args below meth c H locs cells slots Q (F0 m pc ls (.int v :: rest)) := by
  refine va_newa (atype := .boolean) hexec hb harr rfl hK hP hD hS hA (a0 := (N, .inl (fun _ => 0))) (N' := N) (fun _ => rfl) hn hN hbytes hcells hslots hdg (fun q cA H1 hK1 hP1 hD1 hS1 => ?_)
  have h1 := (hK1.2 3 _ rfl).2
  have h2 := (hK.2 1 _ rfl).2
  have h3 : cA = kZ := Option.some.inj (h1.symm.trans h2)
  subst h3
  exact kk q H1 hP1 hD1 hS1
theorem qn_J (hexec : p.tables.exec = Jvm.exec) (hb : c.code = cc) (harr : (Cond.arrayClass .long).before args s = true) (hK : qK D kI kZ kJ s) (hP : va_P D vwCl wsH H) (hD : va_D A wsH) (hS : va_S A H0 H locs) (hA : ∀ q, H0.size ≤ q → A q)
    {v : Int32} {N : Nat} (hn : ¬ v < 0) (hN : v.toNatClampNeg = N) (hbytes : N * 8 ≤ 536870912) (hcells : cells + 1 ≤ R.cells) (hslots : slots + N ≤ R.slots) (hdg : decode cc pc = .ok (.newarray .long, 2))
    (kk : ∀ (q : Nat) (H1 : Heap), va_P D vwCl (wsH ++ [(q, .inl (kJ, N, .inr (.inl (fun _ => 0))))]) H1 → va_D A (wsH ++ [(q, .inl (kJ, N, .inr (.inl (fun _ => 0))))]) → va_S A H0 H1 locs → W p l e R s m args below meth c H1 locs (cells + 1) (slots + N) Q (F0 m (pc + 2) ls (.ref q :: rest))) : W p l e R s m args below meth c H locs cells slots Q (F0 m pc ls (.int v :: rest)) := by
  refine va_newa (atype := .long) hexec hb harr rfl hK hP hD hS hA (a0 := (N, .inr (.inl (fun _ => 0)))) (N' := N) (fun _ => rfl) hn hN hbytes hcells hslots hdg (fun q cA H1 hK1 hP1 hD1 hS1 => ?_)
  have h1 := (hK1.2 3 _ rfl).2
  have h2 := (hK.2 2 _ rfl).2
  have h3 : cA = kJ := Option.some.inj (h1.symm.trans h2)
  subst h3
  exact kk q H1 hP1 hD1 hS1
end QB
