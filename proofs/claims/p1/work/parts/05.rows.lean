/-! own rows: one list of words for every method, one form of contract, calls and ends in that form -/
theorem ow_code {y : MethodName} {cc : ByteArray} {n : Nat} {ret : Option FieldType} (h : Cond.code y cc n ret ∈ ow_U) : GoodIn ow_U (Cond.code y cc n ret :: ow_U) := by
  intro w hw
  rcases List.mem_cons.mp hw with e | h2
  · subst e; exact ⟨h, (ow_good _ h).2⟩
  · exact ⟨h2, (ow_good _ h2).2⟩
theorem ow_goodL {y : MethodName} {cc : ByteArray} {n : Nat} {ret : Option FieldType} (h : Cond.code y cc n ret ∈ ow_U) : GoodIn lw_tbl (Cond.code y cc n ret :: ow_U) := by
  intro w hw
  rcases List.mem_cons.mp hw with e | h2
  · subst e; exact ow_good _ h
  · exact ow_good _ h2
def nw_is : Cond → Bool
  | .fieldLinkNest _ _ _ _ _ _ => true
  | .methodLinkNest _ _ _ _ => true
  | _ => false
theorem nw_all : nw_L.all nw_is = true := by decide +kernel
def nw_W (U : State) : Prop := (∀ (i : Nat) (w : Cond), nw_L[i]? = some w → va_Nw w U) ∧ va_AO "SelfishTown$Road" U ∧ va_AO "SelfishTown$Driver" U ∧ va_AO "SelfishTown$Town" U
theorem nw_warm {s U : State} (hW : s.WarmedH U.vm) (h : nw_W s) : nw_W U := by
  obtain ⟨h1, h2, h3, h4⟩ := h
  refine ⟨fun i w hi => ?_, va_AO.moved hW.alike h2, va_AO.moved hW.alike h3, va_AO.moved hW.alike h4⟩
  have hz := h1 i w hi
  have hk : nw_is w = true := List.all_eq_true.mp nw_all w (List.mem_of_getElem? hi)
  cases w with
  | fieldLinkNest a i b n d h => exact va_Nw.warmF hW hz
  | methodLinkNest a i x h => exact va_Nw.warmM hW hz
  | _ => simp [nw_is] at hk
theorem nw_same {u U : State} (h : u.vm = U.vm) (hN : nw_W u) : nw_W U := by
  obtain ⟨h1, h2, h3, h4⟩ := hN
  have ha : u.vm.Alike U.vm := by rw [h]; exact Vm.Alike.refl U.vm
  refine ⟨fun i w hi => ?_, va_AO.moved ha h2, va_AO.moved ha h3, va_AO.moved ha h4⟩
  have hz := h1 i w hi
  have hk : nw_is w = true := List.all_eq_true.mp nw_all w (List.mem_of_getElem? hi)
  cases w with
  | fieldLinkNest a i b n d h => exact va_Nw.same rfl (by assumption) hz
  | methodLinkNest a i x h => exact va_Nw.same rfl (by assumption) hz
  | _ => simp [nw_is] at hk
abbrev ow_C : Type := ClassId × ClassId × ClassId × ClassId
abbrev ow_T (G : ow_C) : List (ClassId × FieldType) := [(G.1, .int), (G.2.1, .object "SelfishTown$Road"), (G.2.2.1, .object "SelfishTown$Driver"), (G.2.2.2, .object "SelfishTown$Town")]
def ow_P (D : va_G) (G : ow_C) (av : List Value) (sz : Nat) (ws : va_W) : Array Value → State → Prop := va_Pc av (fun U => U.heap.size = sz ∧ nw_W U ∧ va_P D vwCl ws U.heap ∧ va_K D vwCl (ow_T G) U ∧ va_D (fun _ => True) ws)
def ow_B (D : va_G) (A : Nat → Prop) (u : va_W) (t : State) : Prop := va_P D vwCl u t.heap ∧ va_D A u
theorem ow_blind {D : va_G} {G : ow_C} {av : List Value} {sz : Nat} {ws : va_W} : FrameBlind (ow_P D G av sz ws) := fun a U g mk q => by
  obtain ⟨q0, q1, qN, qP, qK, qD⟩ := q
  exact ⟨q0, q1, nw_same (u := U) rfl qN, qP, va_K.moved (u := U) (U := U.calling g mk a) (Vm.Alike.refl U.vm) qK, qD⟩
/-- a contract: the words are the law's, the world is a list of cells -/
abbrev ow_M (l : Launch) (D : va_G) (G : ow_C) (y : MethodName) (cc : ByteArray) (maxL : Nat) (ret : Option FieldType) (rm : Room) (av : List Value) (ws : va_W) (Qf : (Nat → Prop) → Array Value → State → Outcome → State → Prop) (mc ms : Nat) : Prop :=
  ∀ sz : Nat, Met l y (Cond.code y cc maxL ret :: ow_U) rm (ow_P D G av sz ws) (Qf (va_A ws sz)) mc ms (va_A ws sz)
abbrev ow_I (D : va_G) (post : Int32 → va_W → Prop) (A : Nat → Prop) : Array Value → State → Outcome → State → Prop := va_Qi post (ow_B D A) A
abbrev ow_L (D : va_G) (post : Int64 → va_W → Prop) (A : Nat → Prop) : Array Value → State → Outcome → State → Prop := va_Ql post (ow_B D A) A
abbrev ow_V (D : va_G) (post : va_W → Prop) (A : Nat → Prop) : Array Value → State → Outcome → State → Prop := va_Qv post (ow_B D A) A
def ow_N (D : va_G) (post : va_W → Prop) (A : Nat → Prop) : Array Value → State → Outcome → State → Prop := fun _ st oc t => (∃ u : va_W, oc = .returned (some .null) ∧ post u ∧ ow_B D A u t) ∧ va_F A st t
theorem ow_fm {α β : Type} {f : α → Option β} : ∀ {is : List α} {ws : List β}, is.map f = ws.map some → is.filterMap f = ws
  | [], [], _ => rfl
  | [], _ :: _, h => by simp at h
  | _ :: _, [], h => by simp at h
  | i :: is, w :: ws, h => by
    simp only [List.map_cons, List.cons.injEq] at h
    rw [List.filterMap_cons, h.1]
    exact congrArg (w :: ·) (ow_fm h.2)
theorem ow_up {g : Nat → Option Nat} {k : Nat} {v r : Option Nat} (h : ¬ 0 = k) (h0 : g 0 = r) : va_up g k v 0 = r := by unfold va_up; rw [if_neg h]; exact h0
section OWR
variable {p : Program} {l : Launch} {e : Env} {R : Room} {s : State} {m : MethodId} {args : Array Value} {below : List Frame} {meth : Method} {c : Code} {H : Heap} {locs : List Loc} {cells slots : Nat} {Q : State → Prop}
variable {cc : ByteArray} {pc : Nat} {ls : Array Slot} {rest st0 : List Value} {D : va_G} {G : ow_C} {A : Nat → Prop} {ws wc wr : va_W} {H0 : Heap}
/-- what holds at a method's entry -/
def ow_E (D : va_G) (G : ow_C) (y : MethodName) (cc : ByteArray) (maxL : Nat) (ret : Option FieldType) (ws : va_W) (p : Program) (s : State) (m : MethodId) (args : Array Value) (meth : Method) (c : Code) (A : Nat → Prop) : Prop :=
  p.tables.exec = Jvm.exec ∧ c.code = cc ∧ meth.sig.returnType = ret ∧ c.maxLocals = maxL ∧ s.vm.findClass y.cls = some m.cls ∧ meth.locks = false ∧ meth.name = y.name ∧ (∀ w ∈ ow_U, w.before args s = true) ∧ nw_W s ∧ va_K D vwCl (ow_T G) s ∧ va_P D vwCl ws s.heap ∧ va_D A ws ∧ (∀ q, s.heap.size ≤ q → A q) ∧ va_S A s.heap s.heap []
theorem ow_met {y : MethodName} {maxL : Nat} {ret : Option FieldType} {rm : Room} {av : List Value} {Qf : (Nat → Prop) → Array Value → State → Outcome → State → Prop} {mc ms : Nat} (hy : plainName y.cls = true) (hav : (lg_sl av).length ≤ maxL)
    (body : ∀ (p : Program) (e : Env) (s : State) (m : MethodId) (args : Array Value) (below : List Frame) (meth : Method) (c : Code) (A : Nat → Prop) (ls : Array Slot), ow_E D G y cc maxL ret ws p s m args meth c A → lv_has ls maxL (lv_args 0 av) →
      W p l e rm s m args below meth c s.heap [] 0 0 (MQ below (Qf A) args s mc ms A) (F0 m 0 ls [])) : ow_M l D G y cc maxL ret rm av ws Qf mc ms := by
  intro sz
  refine Met.ofW (cc := cc) (maxL := maxL) (ret := ret) hy rfl ?_
  intro p e s m args below meth c s₁ B hml hv
  obtain ⟨rfl, hsz, hN, hP, hK, hD0⟩ := hv
  have hts := atoms_spec (ws := Cond.code y cc maxL ret :: ow_U) B.pre
  subst hsz
  rw [lg_entry_eq]
  exact body p e s m _ below meth c (va_A ws s.heap.size) _ ⟨B.exec, B.bytes, B.returns, hml, findClass_of_methodNamed B.named, B.notSynchronized, (name_of_methodNamed B.named B.method).1, fun w h => hts w (List.mem_cons_of_mem _ h), hN, hK, hP, hD0.self, fun q h => Or.inr h, va_S.rf⟩ (lv_entry av hav)
theorem ow_pre {av : List Value} (hN : nw_W s) (hK : va_K D vwCl (ow_T G) s) (hP : va_P D vwCl ws H) (hD : va_D A ws) (isC : List Nat) (hn : va_nd isC = true) (hC : isC.map (fun i => ws[i]?) = wc.map some) : ∀ U : State, U.heap = H → s.WarmedH U.vm → ow_P D G av H.size wc av.toArray U := fun U hU hW =>
  ⟨rfl, by rw [hU], nw_warm hW hN, by rw [hU]; exact hP.sub isC (ow_fm hC), va_K.moved hW.alike hK, (hD.sub isC hn hC).weaken (fun _ _ _ _ => trivial)⟩
section OWR2
variable {y : MethodName} {bytes : ByteArray} {maxL nL mc ms index n : Nat} {ret : Option FieldType} {rm : Room} {Qf : (Nat → Prop) → Array Value → State → Outcome → State → Prop} {own host C : String} {b : Addr} {As : List Value}
theorem ow_rVN {iN ci : Nat} {fs : List Value} {q : vw_C} (S : CallFix p m c cc nL s args ow_U own) (hM : ow_M l D G y bytes maxL ret rm (.ref b :: As) wc Qf mc ms) (hcode : Cond.code y bytes maxL ret ∈ ow_U) (hl : nw_L[iN]? = some (.methodLinkNest own index y host)) (hini : Cond.initialized y.cls ∈ ow_U) (hinst : Cond.instanceMethod y ∈ ow_U) (hsel : Cond.selects q.1 y y ∈ ow_U)
    (hd : y.cls ≠ "java/lang/invoke/MethodHandle" ∧ y.cls ≠ "java/lang/invoke/VarHandle" ∧ (parseMethodDescriptor y.desc).map (fun d => d.parameters.length) = some n) (hR : rm.frames + 1 ≤ R.frames ∧ 8 + (maxL + 11) + rm.locals ≤ R.locals) (hrc : rm.cells = mc) (hrs : rm.slots = ms)
    (hN : nw_W s) (hK : va_K D vwCl (ow_T G) s) (hP : va_P D vwCl ws H) (hD : va_D A ws) (isC : List Nat) (hn1 : va_nd isC = true) (hC : isC.map (fun i => ws[i]?) = wc.map some) (he : wc[0]? = some (b, .inr (ci, fs))) (hc : vwCl[ci]? = some q)
    (hn : As.length = n) (hsize : ls.size = nL) (hstack : st0 = As.reverse ++ .ref b :: rest) (hW : (rest.map fun v => v.category).sum ≤ 8) (hdg : decode cc pc = .ok (.invokevirtual index, 3)) (hf : cells + mc ≤ R.cells ∧ slots + ms ≤ R.slots) :
    va_Run p l e R s m args below meth c H locs cells slots mc ms (F0 m pc ls st0) rest (Qf (va_A wc H.size) (Value.ref b :: As).toArray) (va_A wc H.size) :=
  va_runVN S (hM H.size) ⟨va_cnB n S.2.2.2.2 (ow_code hcode) rfl hrc hrs (hN.1 iN _ hl) (S.2.2.2.2 _ hini) hd hR, S.2.2.2.2 _ hinst, S.2.2.2.2 _ hsel⟩ ⟨ow_blind, va_recv hK (hP.sub isC (ow_fm hC)) hc he, ow_pre hN hK hP hD isC hn1 hC⟩ rfl hn hsize hstack (lv_room hW) hdg hf
theorem ow_rV {ci : Nat} {fs : List Value} {q : vw_C} (S : CallFix p m c cc nL s args ow_U own) (hM : ow_M l D G y bytes maxL ret rm (.ref b :: As) wc Qf mc ms) (hcode : Cond.code y bytes maxL ret ∈ ow_U) (hl : Cond.methodLink own index y ∈ ow_U) (hini : Cond.initialized y.cls ∈ ow_U) (hinst : Cond.instanceMethod y ∈ ow_U) (hsel : Cond.selects q.1 y y ∈ ow_U)
    (hd : y.cls ≠ "java/lang/invoke/MethodHandle" ∧ y.cls ≠ "java/lang/invoke/VarHandle" ∧ (parseMethodDescriptor y.desc).map (fun d => d.parameters.length) = some n) (hR : rm.frames + 1 ≤ R.frames ∧ 8 + (maxL + 11) + rm.locals ≤ R.locals) (hrc : rm.cells = mc) (hrs : rm.slots = ms)
    (hN : nw_W s) (hK : va_K D vwCl (ow_T G) s) (hP : va_P D vwCl ws H) (hD : va_D A ws) (isC : List Nat) (hn1 : va_nd isC = true) (hC : isC.map (fun i => ws[i]?) = wc.map some) (he : wc[0]? = some (b, .inr (ci, fs))) (hc : vwCl[ci]? = some q)
    (hn : As.length = n) (hsize : ls.size = nL) (hstack : st0 = As.reverse ++ .ref b :: rest) (hW : (rest.map fun v => v.category).sum ≤ 8) (hdg : decode cc pc = .ok (.invokevirtual index, 3)) (hf : cells + mc ≤ R.cells ∧ slots + ms ≤ R.slots) :
    va_Run p l e R s m args below meth c H locs cells slots mc ms (F0 m pc ls st0) rest (Qf (va_A wc H.size) (Value.ref b :: As).toArray) (va_A wc H.size) :=
  va_runV S (hM H.size) ⟨callB_of n S.2.2.2.2 (ow_code hcode) rfl hrc hrs (S.2.2.2.2 _ hini) (S.2.2.2.2 _ hl) hd hR, S.2.2.2.2 _ hinst, S.2.2.2.2 _ hsel⟩ ⟨ow_blind, va_recv hK (hP.sub isC (ow_fm hC)) hc he, ow_pre hN hK hP hD isC hn1 hC⟩ rfl hn hsize hstack (lv_room hW) hdg hf
theorem ow_rS (S : CallFix p m c cc nL s args ow_U own) (hM : ow_M l D G y bytes maxL ret rm As wc Qf mc ms) (hcode : Cond.code y bytes maxL ret ∈ ow_U) (hl : Cond.methodLink own index y ∈ ow_U) (hini : Cond.initialized y.cls ∈ ow_U) (hst : Cond.static y ∈ ow_U)
    (hd : y.cls ≠ "java/lang/invoke/MethodHandle" ∧ y.cls ≠ "java/lang/invoke/VarHandle" ∧ (parseMethodDescriptor y.desc).map (fun d => d.parameters.length) = some n) (hR : rm.frames + 1 ≤ R.frames ∧ 8 + (maxL + 11) + rm.locals ≤ R.locals) (hrc : rm.cells = mc) (hrs : rm.slots = ms)
    (hN : nw_W s) (hK : va_K D vwCl (ow_T G) s) (hP : va_P D vwCl ws H) (hD : va_D A ws) (isC : List Nat) (hn1 : va_nd isC = true) (hC : isC.map (fun i => ws[i]?) = wc.map some)
    (hn : As.length = n) (hsize : ls.size = nL) (hstack : st0 = As.reverse ++ rest) (hW : (rest.map fun v => v.category).sum ≤ 8) (hdg : decode cc pc = .ok (.invokestatic index, 3)) (hf : cells + mc ≤ R.cells ∧ slots + ms ≤ R.slots) :
    va_Run p l e R s m args below meth c H locs cells slots mc ms (F0 m pc ls st0) rest (Qf (va_A wc H.size) As.toArray) (va_A wc H.size) :=
  va_runS S (hM H.size) ⟨callB_of n S.2.2.2.2 (ow_code hcode) rfl hrc hrs (S.2.2.2.2 _ hini) (S.2.2.2.2 _ hl) hd hR, S.2.2.2.2 _ hst⟩ ⟨ow_blind, ow_pre hN hK hP hD isC hn1 hC⟩ rfl hn hsize hstack (lv_room hW) hdg hf
theorem ow_rSN {iN : Nat} (S : CallFix p m c cc nL s args ow_U own) (hM : ow_M l D G y bytes maxL ret rm As wc Qf mc ms) (hcode : Cond.code y bytes maxL ret ∈ ow_U) (hl : nw_L[iN]? = some (.methodLinkNest own index y host)) (hini : Cond.initialized y.cls ∈ ow_U) (hst : Cond.static y ∈ ow_U)
    (hd : y.cls ≠ "java/lang/invoke/MethodHandle" ∧ y.cls ≠ "java/lang/invoke/VarHandle" ∧ (parseMethodDescriptor y.desc).map (fun d => d.parameters.length) = some n) (hR : rm.frames + 1 ≤ R.frames ∧ 8 + (maxL + 11) + rm.locals ≤ R.locals) (hrc : rm.cells = mc) (hrs : rm.slots = ms)
    (hN : nw_W s) (hK : va_K D vwCl (ow_T G) s) (hP : va_P D vwCl ws H) (hD : va_D A ws) (isC : List Nat) (hn1 : va_nd isC = true) (hC : isC.map (fun i => ws[i]?) = wc.map some)
    (hn : As.length = n) (hsize : ls.size = nL) (hstack : st0 = As.reverse ++ rest) (hW : (rest.map fun v => v.category).sum ≤ 8) (hdg : decode cc pc = .ok (.invokestatic index, 3)) (hf : cells + mc ≤ R.cells ∧ slots + ms ≤ R.slots) :
    va_Run p l e R s m args below meth c H locs cells slots mc ms (F0 m pc ls st0) rest (Qf (va_A wc H.size) As.toArray) (va_A wc H.size) :=
  va_runSN S (hM H.size) ⟨va_cnB n S.2.2.2.2 (ow_code hcode) rfl hrc hrs (hN.1 iN _ hl) (S.2.2.2.2 _ hini) hd hR, S.2.2.2.2 _ hst, trivial⟩ ⟨ow_blind, ow_pre hN hK hP hD isC hn1 hC⟩ rfl hn hsize hstack (lv_room hW) hdg hf
theorem ow_rI (S : CallFix p m c cc nL s args ow_U own) (hM : ow_M l D G y bytes maxL none rm (.ref b :: As) wc Qf mc ms) (hcode : Cond.code y bytes maxL none ∈ ow_U) (hl : Cond.methodLink own index y ∈ ow_U) (hini : Cond.initialized y.cls ∈ ow_U) (hinst : Cond.instanceMethod y ∈ ow_U) (hy1 : y.name = "<init>")
    (hd : y.cls ≠ "java/lang/invoke/MethodHandle" ∧ y.cls ≠ "java/lang/invoke/VarHandle" ∧ (parseMethodDescriptor y.desc).map (fun d => d.parameters.length) = some n) (hR : rm.frames + 1 ≤ R.frames ∧ 8 + (maxL + 11) + rm.locals ≤ R.locals) (hrc : rm.cells = mc) (hrs : rm.slots = ms)
    (hN : nw_W s) (hK : va_K D vwCl (ow_T G) s) (hP : va_P D vwCl ws H) (hD : va_D A ws) (isC : List Nat) (hn1 : va_nd isC = true) (hC : isC.map (fun i => ws[i]?) = wc.map some)
    (hn : As.length = n) (hsize : ls.size = nL) (hstack : st0 = As.reverse ++ .ref b :: rest) (hW : (rest.map fun v => v.category).sum ≤ 8) (hdg : decode cc pc = .ok (.invokespecial index, 3)) (hf : cells + mc ≤ R.cells ∧ slots + ms ≤ R.slots) :
    va_Run p l e R s m args below meth c H locs cells slots mc ms (F0 m pc ls st0) rest (Qf (va_A wc H.size) (Value.ref b :: As).toArray) (va_A wc H.size) :=
  va_runI S (hM H.size) ⟨callB_of n S.2.2.2.2 (ow_code hcode) rfl hrc hrs (S.2.2.2.2 _ hini) (S.2.2.2.2 _ hl) hd hR, hy1, S.2.2.2.2 _ hinst⟩ ⟨ow_blind, ow_pre hN hK hP hD isC hn1 hC⟩ rfl hn hsize hstack (lv_room hW) hdg hf
theorem ow_rIN {iN : Nat} (S : CallFix p m c cc nL s args ow_U own) (hM : ow_M l D G y bytes maxL none rm (.ref b :: As) wc Qf mc ms) (hcode : Cond.code y bytes maxL none ∈ ow_U) (hl : nw_L[iN]? = some (.methodLinkNest own index y host)) (hini : Cond.initialized y.cls ∈ ow_U) (hinst : Cond.instanceMethod y ∈ ow_U) (hy1 : y.name = "<init>")
    (hd : y.cls ≠ "java/lang/invoke/MethodHandle" ∧ y.cls ≠ "java/lang/invoke/VarHandle" ∧ (parseMethodDescriptor y.desc).map (fun d => d.parameters.length) = some n) (hR : rm.frames + 1 ≤ R.frames ∧ 8 + (maxL + 11) + rm.locals ≤ R.locals) (hrc : rm.cells = mc) (hrs : rm.slots = ms)
    (hN : nw_W s) (hK : va_K D vwCl (ow_T G) s) (hP : va_P D vwCl ws H) (hD : va_D A ws) (isC : List Nat) (hn1 : va_nd isC = true) (hC : isC.map (fun i => ws[i]?) = wc.map some)
    (hn : As.length = n) (hsize : ls.size = nL) (hstack : st0 = As.reverse ++ .ref b :: rest) (hW : (rest.map fun v => v.category).sum ≤ 8) (hdg : decode cc pc = .ok (.invokespecial index, 3)) (hf : cells + mc ≤ R.cells ∧ slots + ms ≤ R.slots) :
    va_Run p l e R s m args below meth c H locs cells slots mc ms (F0 m pc ls st0) rest (Qf (va_A wc H.size) (Value.ref b :: As).toArray) (va_A wc H.size) :=
  va_runIN S (hM H.size) ⟨va_cnB n S.2.2.2.2 (ow_code hcode) rfl hrc hrs (hN.1 iN _ hl) (S.2.2.2.2 _ hini) hd hR, hy1, S.2.2.2.2 _ hinst⟩ ⟨ow_blind, ow_pre hN hK hP hD isC hn1 hC⟩ rfl hn hsize hstack (lv_room hW) hdg hf
theorem ow_ci {post : Int32 → va_W → Prop} {a : Array Value} (hr : va_Run p l e R s m args below meth c H locs cells slots mc ms (F0 m pc ls st0) rest (ow_I D post (va_A wc H.size) a) (va_A wc H.size))
    (hP : va_P D vwCl ws H) (hD : va_D A ws) (hS : va_S A H0 H locs) (hA : ∀ q, H0.size ≤ q → A q) (isC isR : List Nat) (hC : isC.map (fun i => ws[i]?) = wc.map some) (hR : isR.map (fun i => ws[i]?) = wr.map some) (hn : va_nd isR = true) (hdis : ∀ i ∈ isR, i ∉ isC)
    (kk : ∀ (r : Int32) (u : va_W) (H1 : Heap) (locs1 : List Loc), post r u → va_P D vwCl (wr ++ u) H1 → va_D A (wr ++ u) → va_S A H0 H1 locs1 → W p l e R s m args below meth c H1 locs1 (cells + mc) (slots + ms) Q (F0 m (pc + 3) ls (.int r :: rest))) : W p l e R s m args below meth c H locs cells slots Q (F0 m pc ls st0) := by
  have hF := va_free hD hS hA isC hC
  refine va_calli hr hS (fun q _ h => hF q h) hF (fun r u t H1 locs1 ht hvm hw hB hz hk hS1 => ?_)
  obtain ⟨hP1, hD1⟩ := hB
  rw [ht] at hP1
  obtain ⟨h1, h2⟩ := va_join hP hD isC isR hC hR hn hdis hk hF hP1 hD1
  exact kk r u H1 locs1 hw h1 h2 hS1
theorem ow_cl {post : Int64 → va_W → Prop} {a : Array Value} (hr : va_Run p l e R s m args below meth c H locs cells slots mc ms (F0 m pc ls st0) rest (ow_L D post (va_A wc H.size) a) (va_A wc H.size))
    (hP : va_P D vwCl ws H) (hD : va_D A ws) (hS : va_S A H0 H locs) (hA : ∀ q, H0.size ≤ q → A q) (isC isR : List Nat) (hC : isC.map (fun i => ws[i]?) = wc.map some) (hR : isR.map (fun i => ws[i]?) = wr.map some) (hn : va_nd isR = true) (hdis : ∀ i ∈ isR, i ∉ isC)
    (kk : ∀ (r : Int64) (u : va_W) (H1 : Heap) (locs1 : List Loc), post r u → va_P D vwCl (wr ++ u) H1 → va_D A (wr ++ u) → va_S A H0 H1 locs1 → W p l e R s m args below meth c H1 locs1 (cells + mc) (slots + ms) Q (F0 m (pc + 3) ls (.long r :: rest))) : W p l e R s m args below meth c H locs cells slots Q (F0 m pc ls st0) := by
  have hF := va_free hD hS hA isC hC
  refine va_calll hr hS (fun q _ h => hF q h) hF (fun r u t H1 locs1 ht hvm hw hB hz hk hS1 => ?_)
  obtain ⟨hP1, hD1⟩ := hB
  rw [ht] at hP1
  obtain ⟨h1, h2⟩ := va_join hP hD isC isR hC hR hn hdis hk hF hP1 hD1
  exact kk r u H1 locs1 hw h1 h2 hS1
theorem ow_cv {post : va_W → Prop} {a : Array Value} (hr : va_Run p l e R s m args below meth c H locs cells slots mc ms (F0 m pc ls st0) rest (ow_V D post (va_A wc H.size) a) (va_A wc H.size))
    (hP : va_P D vwCl ws H) (hD : va_D A ws) (hS : va_S A H0 H locs) (hA : ∀ q, H0.size ≤ q → A q) (isC isR : List Nat) (hC : isC.map (fun i => ws[i]?) = wc.map some) (hR : isR.map (fun i => ws[i]?) = wr.map some) (hn : va_nd isR = true) (hdis : ∀ i ∈ isR, i ∉ isC)
    (kk : ∀ (u : va_W) (H1 : Heap) (locs1 : List Loc), post u → va_P D vwCl (wr ++ u) H1 → va_D A (wr ++ u) → va_S A H0 H1 locs1 → W p l e R s m args below meth c H1 locs1 (cells + mc) (slots + ms) Q (F0 m (pc + 3) ls rest)) : W p l e R s m args below meth c H locs cells slots Q (F0 m pc ls st0) := by
  have hF := va_free hD hS hA isC hC
  refine va_callv hr hS (fun q _ h => hF q h) hF (fun u t H1 locs1 ht hvm hw hB hz hk hS1 => ?_)
  obtain ⟨hP1, hD1⟩ := hB
  rw [ht] at hP1
  obtain ⟨h1, h2⟩ := va_join hP hD isC isR hC hR hn hdis hk hF hP1 hD1
  exact kk u H1 locs1 hw h1 h2 hS1
theorem ow_cn {post : va_W → Prop} {a : Array Value} (hr : va_Run p l e R s m args below meth c H locs cells slots mc ms (F0 m pc ls st0) rest (ow_N D post (va_A wc H.size) a) (va_A wc H.size))
    (hP : va_P D vwCl ws H) (hD : va_D A ws) (hS : va_S A H0 H locs) (hA : ∀ q, H0.size ≤ q → A q) (isC isR : List Nat) (hC : isC.map (fun i => ws[i]?) = wc.map some) (hR : isR.map (fun i => ws[i]?) = wr.map some) (hn : va_nd isR = true) (hdis : ∀ i ∈ isR, i ∉ isC)
    (kk : ∀ (u : va_W) (H1 : Heap) (locs1 : List Loc), post u → va_P D vwCl (wr ++ u) H1 → va_D A (wr ++ u) → va_S A H0 H1 locs1 → W p l e R s m args below meth c H1 locs1 (cells + mc) (slots + ms) Q (F0 m (pc + 3) ls (.null :: rest))) : W p l e R s m args below meth c H locs cells slots Q (F0 m pc ls st0) := by
  have hF := va_free hD hS hA isC hC
  intro T hT X
  obtain ⟨v, st₀, t, T', L, h0, X', hL, e1, e2, ⟨⟨u, hv, hw, hP1, hD1⟩, hz, hk⟩, st⟩ := hr T hT X
  cases hv
  rw [h0] at hz hk
  obtain ⟨h1, h2⟩ := va_join hP hD isC isR hC hR hn hdis hk hF hP1 hD1
  obtain ⟨t2, a1, b1⟩ := kk u t.heap (locs ++ L) hw h1 h2 ⟨Nat.le_trans hS.1 hz, fun q hq hnA => (hk q (Nat.lt_of_lt_of_le hq hS.1) (fun h => hnA (hF q h))).trans (hS.2.1 q hq hnA), t_lL hS.2.2 (fun q h => hF _ (hL q h))⟩ T' e1 X'
  exact ⟨t2, st t2 a1, b1⟩
end OWR2
theorem ow_iret {post : Int32 → va_W → Prop} {u : va_W} {v : Int32} {ty : FieldType} (hx : p.tables.exec = Jvm.exec) (hb : c.code = cc) (hr : meth.sig.returnType = some ty) (hlocks : meth.locks = false) (hnar : narrow ty (.int v) = .int v) (hP : va_P D vwCl ws H) (hD : va_D A ws) (hS : va_S A s.heap H locs) (isR : List Nat) (hn : va_nd isR = true) (hR : isR.map (fun i => ws[i]?) = u.map some) (hdg : decode cc pc = .ok (.ireturn, 1)) (hpost : post v u) :
    W p l e R s m args below meth c H locs cells slots (MQ below (ow_I D post A) args s cells slots A) (F0 m pc ls [.int v]) :=
  W.zret (hlocks := hlocks) hx hb hr hnar (fun t ht _ => ⟨⟨v, u, rfl, hpost, by rw [ht]; exact hP.sub isR (ow_fm hR), hD.sub isR hn hR⟩, hS.F ht⟩) hS.2.2 hdg
theorem ow_lret {post : Int64 → va_W → Prop} {u : va_W} {v : Int64} (hx : p.tables.exec = Jvm.exec) (hb : c.code = cc) (hr : meth.sig.returnType = some .long) (hlocks : meth.locks = false) (hP : va_P D vwCl ws H) (hD : va_D A ws) (hS : va_S A s.heap H locs) (isR : List Nat) (hn : va_nd isR = true) (hR : isR.map (fun i => ws[i]?) = u.map some) (hdg : decode cc pc = .ok (.lreturn, 1)) (hpost : post v u) :
    W p l e R s m args below meth c H locs cells slots (MQ below (ow_L D post A) args s cells slots A) (F0 m pc ls [.long v]) :=
  W.lret (hlocks := hlocks) hx hb hr (fun t ht _ => ⟨⟨v, u, rfl, hpost, by rw [ht]; exact hP.sub isR (ow_fm hR), hD.sub isR hn hR⟩, hS.F ht⟩) hS.2.2 hdg
theorem ow_vret {post : va_W → Prop} {u : va_W} (hx : p.tables.exec = Jvm.exec) (hb : c.code = cc) (hr : meth.sig.returnType = none) (hlocks : meth.locks = false) (hP : va_P D vwCl ws H) (hD : va_D A ws) (hS : va_S A s.heap H locs) (isR : List Nat) (hn : va_nd isR = true) (hR : isR.map (fun i => ws[i]?) = u.map some) (hdg : decode cc pc = .ok (.return_, 1)) (hpost : post u) :
    W p l e R s m args below meth c H locs cells slots (MQ below (ow_V D post A) args s cells slots A) (F0 m pc ls []) :=
  W.vret (hlocks := hlocks) hx hb hr (fun t ht _ => ⟨⟨u, rfl, hpost, by rw [ht]; exact hP.sub isR (ow_fm hR), hD.sub isR hn hR⟩, hS.F ht⟩) hS.2.2 hdg
theorem ow_nret {post : va_W → Prop} {u : va_W} {nm : String} (hx : p.tables.exec = Jvm.exec) (hb : c.code = cc) (hr : meth.sig.returnType = some (.object nm)) (hlocks : meth.locks = false) (hP : va_P D vwCl ws H) (hD : va_D A ws) (hS : va_S A s.heap H locs) (isR : List Nat) (hn : va_nd isR = true) (hR : isR.map (fun i => ws[i]?) = u.map some) (hdg : decode cc pc = .ok (.areturn, 1)) (hpost : post u) :
    W p l e R s m args below meth c H locs cells slots (MQ below (ow_N D post A) args s cells slots A) (F0 m pc ls [.null]) := by
  refine W.aret (hlocks := hlocks) (v := .null) hx hb hr (Or.inl ⟨nm, rfl⟩) (Or.inl rfl) (fun t ht _ => ⟨⟨u, rfl, hpost, by rw [ht]; exact hP.sub isR (ow_fm hR), hD.sub isR hn hR⟩, hS.F ht⟩) hS.2.2 hdg
/-- a number by another name -/
theorem ow_i {x y : Int32} (h : x = y) (k : W p l e R s m args below meth c H locs cells slots Q (F0 m pc ls (.int y :: rest))) : W p l e R s m args below meth c H locs cells slots Q (F0 m pc ls (.int x :: rest)) := h ▸ k
theorem ow_l {x y : Int64} (h : x = y) (k : W p l e R s m args below meth c H locs cells slots Q (F0 m pc ls (.long y :: rest))) : W p l e R s m args below meth c H locs cells slots Q (F0 m pc ls (.long x :: rest)) := h ▸ k
theorem ow_ald {q0 t0 : Nat} {a r : Nat} {cA : ClassId} {C : String} {n : Nat} {f : Nat → Option Nat} {i : Int32} (hx : p.tables.exec = Jvm.exec) (hb : c.code = cc) (hK : va_K D vwCl (ow_T G) s) (hP : va_P D vwCl ws H) (ha : ws[q0]? = some (a, .inl (cA, n, .inr (.inr (.inr (.inr f)))))) (ht : (ow_T G)[t0]? = some (cA, .object C)) (hin : vp_in i n) (hv : f i.toNatClampNeg = some r) (hdg : decode cc pc = .ok (.aaload, 1))
    (kk : W p l e R s m args below meth c H locs cells slots Q (F0 m (pc + 1) ls (.ref r :: rest))) : W p l e R s m args below meth c H locs cells slots Q (F0 m pc ls (.int i :: .ref a :: rest)) := by
  refine va_aldq hx hb hK hP q0 t0 ha ht hin hdg ?_
  rw [hv]
  exact kk
theorem ow_uq {tys : List (ClassId × FieldType)} {c1 c2 : ClassId} {ty : FieldType} {i j : Nat} (hK : va_K D vwCl tys s) (h1 : tys[i]? = some (c1, ty)) (h2 : tys[j]? = some (c2, ty)) : c1 = c2 := by
  have r1 := (hK.2 i _ h1).2
  have r2 := (hK.2 j _ h2).2
  cases ty with
  | object C =>
    obtain ⟨k1, p1, -, -, -, e1⟩ := r1
    obtain ⟨k2, p2, -, -, -, e2⟩ := r2
    exact Option.some.inj (e1.symm.trans e2)
  | _ => exact Option.some.inj (r1.symm.trans r2)
theorem ow_newa {n : Int32} {N' : Nat} (hx : p.tables.exec = Jvm.exec) (hb : c.code = cc) (hts : ∀ w ∈ ow_U, w.before args s = true) (harr : Cond.arrayClass .int ∈ ow_U) (hK : va_K D vwCl (ow_T G) s) (hP : va_P D vwCl ws H) (hD : va_D A ws) (hS : va_S A H0 H locs) (hA : ∀ q, H0.size ≤ q → A q)
    (hn : ¬ n < 0) (hN : n.toNatClampNeg = N') (hbytes : N' * 4 ≤ 536870912) (hcells : cells + 1 ≤ R.cells) (hslots : slots + N' ≤ R.slots) (hdg : decode cc pc = .ok (.newarray .int, 2))
    (kk : ∀ (q : Nat) (H1 : Heap), va_P D vwCl (ws ++ [(q, .inl (G.1, N', .inl (fun _ => 0)))]) H1 → va_D A (ws ++ [(q, .inl (G.1, N', .inl (fun _ => 0)))]) → va_S A H0 H1 locs → W p l e R s m args below meth c H1 locs (cells + 1) (slots + N') Q (F0 m (pc + 2) ls (.ref q :: rest))) : W p l e R s m args below meth c H locs cells slots Q (F0 m pc ls (.int n :: rest)) := by
  refine va_newa (atype := .int) (ty := .int) (a0 := (N', .inl (fun _ => 0))) hx hb (hts _ harr) rfl hK hP hD hS hA (fun cA => rfl) hn hN hbytes hcells hslots hdg (fun q cA H1 hK1 hP1 hD1 hS1 => ?_)
  have e1 : cA = G.1 := ow_uq (i := 4) (j := 0) hK1 rfl rfl
  subst e1
  exact kk q H1 hP1 hD1 hS1
theorem ow_newq {n : Int32} {N' index t0 : Nat} {own C : String} {cA0 : ClassId} (hx : p.tables.exec = Jvm.exec) (hb : c.code = cc) (hts : ∀ w ∈ ow_U, w.before args s = true) (hown : s.vm.findClass own = some m.cls) (hcl : Cond.classLink own index C ∈ ow_U) (hao : va_AO C s) (hK : va_K D vwCl (ow_T G) s) (hP : va_P D vwCl ws H) (hD : va_D A ws) (hS : va_S A H0 H locs) (hA : ∀ q, H0.size ≤ q → A q)
    (ht : (ow_T G)[t0]? = some (cA0, .object C)) (hn : ¬ n < 0) (hN : n.toNatClampNeg = N') (hbytes : N' * 4 ≤ 536870912) (hcells : cells + 1 ≤ R.cells) (hslots : slots + N' ≤ R.slots) (hdg : decode cc pc = .ok (.anewarray index, 3))
    (kk : ∀ (q : Nat) (H1 : Heap), va_P D vwCl (ws ++ [(q, .inl (cA0, N', .inr (.inr (.inr (.inr (fun _ => none))))))]) H1 → va_D A (ws ++ [(q, .inl (cA0, N', .inr (.inr (.inr (.inr (fun _ => none))))))]) → va_S A H0 H1 locs → W p l e R s m args below meth c H1 locs (cells + 1) (slots + N') Q (F0 m (pc + 3) ls (.ref q :: rest))) : W p l e R s m args below meth c H locs cells slots Q (F0 m pc ls (.int n :: rest)) := by
  refine va_newq hx hb hown (hts _ hcl) hao hK hP hD hS hA hn hN hbytes hcells hslots hdg (fun q cA H1 hK1 hP1 hD1 hS1 => ?_)
  have e1 : cA = cA0 := ow_uq (i := 4) (j := t0) hK1 rfl (by
    have hl : t0 < (ow_T G).length := (List.getElem?_eq_some_iff.mp ht).1
    rw [List.getElem?_append_left hl]; exact ht)
  subst e1
  exact kk q H1 hP1 hD1 hS1
end OWR
/-! comparisons by whole numbers -/
theorem q_lt {x y : Int32} {a b : Int} (ha : x.toInt = a) (hb : y.toInt = b) (h : x < y) : a < b := by rw [← ha, ← hb]; exact Int32.lt_iff_toInt_lt.mp h
theorem q_nlt {x y : Int32} {a b : Int} (ha : x.toInt = a) (hb : y.toInt = b) (h : ¬ x < y) : b ≤ a := by
  rw [← ha, ← hb]; exact Int.not_lt.mp (fun q => h (Int32.lt_iff_toInt_lt.mpr q))
theorem q_le {x y : Int32} {a b : Int} (ha : x.toInt = a) (hb : y.toInt = b) (h : x ≤ y) : a ≤ b := by rw [← ha, ← hb]; exact Int32.le_iff_toInt_le.mp h
theorem q_nle {x y : Int32} {a b : Int} (ha : x.toInt = a) (hb : y.toInt = b) (h : ¬ x ≤ y) : b < a := by
  rw [← ha, ← hb]; exact Int.not_le.mp (fun q => h (Int32.le_iff_toInt_le.mpr q))
theorem q_eq {x y : Int32} {a b : Int} (ha : x.toInt = a) (hb : y.toInt = b) (h : x = y) : a = b := by rw [← ha, ← hb, h]
theorem q_ne {x y : Int32} {a b : Int} (ha : x.toInt = a) (hb : y.toInt = b) (h : ¬ x = y) : ¬ a = b := fun q => h (Int32.toInt_inj.mp (by rw [ha, hb, q]))
