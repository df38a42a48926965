/-! BASE. One form for all contracts (CMi, CMz, CMl, CMv), their start (st_..), their calls (rn_.., jn_..), arrays by natural places. Own work. -/
def nwAll : List Cond := [.fieldLinkNest RX3 100 "CodedDeltas" "MARK" "[I" "CodedDeltas", .fieldLinkNest RX4 41 "CodedDeltas" "MARK" "[I" "CodedDeltas", .methodLinkNest RX8 34 yX6_init "CodedDeltas", .methodLinkNest RX3 11 yX1_init "CodedDeltas", .methodLinkNest RX3 29 yX0_init "CodedDeltas", .methodLinkNest RX7 28 yX0_init "CodedDeltas", .methodLinkNest RX7 35 yX2_init "CodedDeltas", .methodLinkNest RX0 47 yX8_numberSize "CodedDeltas", .methodLinkNest RX4 33 yX8_numberSize "CodedDeltas", .methodLinkNest RX7 173 yX8_numberSize "CodedDeltas"]
def NW (U : State) : Prop := ∀ w ∈ nwAll, va_Nw w U
theorem nw_tab : ∀ w ∈ nwAll, w.onTables = true := by
  intro w hw
  simp only [nwAll, List.mem_cons, List.not_mem_nil, or_false] at hw
  rcases hw with rfl | rfl | rfl | rfl | rfl | rfl | rfl | rfl | rfl | rfl <;> rfl
theorem NW.same {u U : State} (h : u.vm = U.vm) (hz : NW u) : NW U := fun w hw => va_Nw.same (nw_tab w hw) h (hz w hw)
theorem NW.warm {s U : State} (hW : s.WarmedH U.vm) (hz : NW s) : NW U := by
  intro w hw
  have h1 := hz w hw
  simp only [nwAll, List.mem_cons, List.not_mem_nil, or_false] at hw
  rcases hw with rfl | rfl | rfl | rfl | rfl | rfl | rfl | rfl | rfl | rfl
  · exact va_Nw.warmF hW h1
  · exact va_Nw.warmF hW h1
  all_goals exact va_Nw.warmM hW h1
def mkF : Nat → Value := fun j => .int (if j = 0 then 214 else if j = 1 then 195 else if j = 2 then 196 else 0)
/-- the static array MARK, outside what may change -/
def MK (A : Nat → Prop) (U : State) (H : Heap) : Prop := ∃ t : Nat, va_Z "CodedDeltas" "MARK" "[I" (.ref t) A U H ∧ va_T .int t 4 mkF A U H
theorem MK.moved {A : Nat → Prop} {u U : State} {H : Heap} (hvm : u.vm.Alike U.vm) (h : MK A u H) : MK A U H := by
  obtain ⟨t, h1, h2⟩ := h
  exact ⟨t, h1.moved hvm, h2.moved hvm⟩
theorem MK.call {A0 B : Nat → Prop} {s : State} {H : Heap} {locs : List Loc} (h : MK A0 s s.heap) (hS : va_S A0 s.heap H locs) (hF : ∀ q, B q → A0 q) : MK B s H := by
  obtain ⟨t, h1, h2⟩ := h
  exact ⟨t, (h1.kept (fun a ha hn => hS.2.1 a ha hn)).narrow hF, (h2.kept (fun a ha hn => hS.2.1 a ha hn)).narrow hF⟩
abbrev TY : Type := List (ClassId × FieldType)
def Pw (D : va_G) (tys : TY) (ws : va_W) (sz : Nat) (U : State) : Prop := U.heap.size = sz ∧ va_P D vwCl ws U.heap ∧ va_K D vwCl tys U ∧ va_D (fun _ => True) ws ∧ NW U ∧ MK (va_A ws sz) U U.heap
def Bw (D : va_G) (tys : TY) (A : Nat → Prop) (w1 : va_W) (t : State) : Prop := va_P D vwCl w1 t.heap ∧ va_K D vwCl tys t ∧ va_D A w1
def bI (b : Bool) : Int32 := if b then 1 else 0
/-- a contract: from the cells ws, answering by post, with the cells w1 behind it; mc cells of ms slots are made -/
def CMi {S : Type} (l : Launch) (y : MethodName) (cc : ByteArray) (maxL : Nat) (ret : Option FieldType) (rm : Room) (D : va_G) (tys : TY) (mc ms : Nat) (av : List Value) (ws : va_W) (post : Int32 → S → Prop) (w1 : S → va_W) : Prop :=
  ∀ sz : Nat, Met l y (Cond.code y cc maxL ret :: TT) rm (va_Pc av (Pw D tys ws sz)) (va_Qi post (fun u t => Bw D tys (va_A ws sz) (w1 u) t) (va_A ws sz)) mc ms (va_A ws sz)
def CMl {S : Type} (l : Launch) (y : MethodName) (cc : ByteArray) (maxL : Nat) (ret : Option FieldType) (rm : Room) (D : va_G) (tys : TY) (mc ms : Nat) (av : List Value) (ws : va_W) (post : Int64 → S → Prop) (w1 : S → va_W) : Prop :=
  ∀ sz : Nat, Met l y (Cond.code y cc maxL ret :: TT) rm (va_Pc av (Pw D tys ws sz)) (va_Ql post (fun u t => Bw D tys (va_A ws sz) (w1 u) t) (va_A ws sz)) mc ms (va_A ws sz)
def CMv {S : Type} (l : Launch) (y : MethodName) (cc : ByteArray) (maxL : Nat) (ret : Option FieldType) (rm : Room) (D : va_G) (tys : TY) (mc ms : Nat) (av : List Value) (ws : va_W) (post : S → Prop) (w1 : S → va_W) : Prop :=
  ∀ sz : Nat, Met l y (Cond.code y cc maxL ret :: TT) rm (va_Pc av (Pw D tys ws sz)) (va_Qv post (fun u t => Bw D tys (va_A ws sz) (w1 u) t) (va_A ws sz)) mc ms (va_A ws sz)
abbrev CMz {S : Type} (l : Launch) (y : MethodName) (cc : ByteArray) (maxL : Nat) (ret : Option FieldType) (rm : Room) (D : va_G) (tys : TY) (mc ms : Nat) (av : List Value) (ws : va_W) (post : Bool → S → Prop) (w1 : S → va_W) : Prop :=
  CMi l y cc maxL ret rm D tys mc ms av ws (fun r u => ∃ b, r = bI b ∧ post b u) w1
/-- what a method's body has at hand -/
def BD (p : Program) (s : State) (m : MethodId) (meth : Method) (c : Code) (cc : ByteArray) (maxL : Nat) (y : MethodName) (args : Array Value) (D : va_G) (tys : TY) (A : Nat → Prop) : Prop :=
  p.tables.exec = Jvm.exec ∧ c.code = cc ∧ c.maxLocals = maxL ∧ s.vm.findClass y.cls = some m.cls ∧ (∀ w ∈ TT, w.before args s = true) ∧ meth.name = y.name ∧ va_K D vwCl tys s ∧ NW s ∧ MK A s s.heap ∧ ∀ q, s.heap.size ≤ q → A q
section ST
variable {S : Type} {l : Launch} {y : MethodName} {rm : Room} {D : va_G} {tys : TY} {mc ms : Nat} {av : List Value} {ws : va_W} {w1 : S → va_W} {cc : ByteArray} {maxL : Nat}
theorem st_i {post : Int32 → S → Prop} (hy : plainName y.cls = true) (hlen : (lg_sl av).length ≤ maxL)
    (body : ∀ (p : Program) (e : Env) (s : State) (m : MethodId) (below : List Frame) (meth : Method) (c : Code) (A : Nat → Prop) (Q : State → Prop), BD p s m meth c cc maxL y av.toArray D tys A →
      (∀ (pc : Nat) (ls : Array Slot) (H : Heap) (locs : List Loc) (v : Int32) (u : S), decode cc pc = .ok (.ireturn, 1) → va_P D vwCl (w1 u) H → va_D A (w1 u) → va_S A s.heap H locs → post v u → W p l e rm s m av.toArray below meth c H locs mc ms Q (F0 m pc ls [.int v])) →
      va_P D vwCl ws s.heap → va_D A ws → va_S A s.heap s.heap [] → ∀ ls, lv_has ls maxL (lv_args 0 av) → W p l e rm s m av.toArray below meth c s.heap [] 0 0 Q (F0 m 0 ls [])) :
    CMi l y cc maxL (some .int) rm D tys mc ms av ws post w1 := by
  intro sz
  refine Met.ofW (cc := cc) (maxL := maxL) (ret := some .int) hy rfl ?_
  intro p e s m args below meth c s₁ B hml hv
  obtain ⟨rfl, hsz, hP, hK, hD0, hN, hM⟩ := hv
  subst hsz
  have hlocks := B.notSynchronized
  have hr := B.returns
  rw [lg_entry_eq]
  refine body p e s m below meth c (va_A ws s.heap.size) _ ⟨B.exec, B.bytes, hml, findClass_of_methodNamed B.named, fun w h => atoms_spec (ws := _ :: TT) B.pre w (List.mem_cons_of_mem _ h), (name_of_methodNamed B.named B.method).1, hK, hN, hM, fun q h => Or.inr h⟩ ?_ hP hD0.self va_S.rf _ (lv_entry av hlen)
  intro pc ls H locs v u hd hP hD hS hpost
  exact W.iret B.exec B.bytes hr (fun t ht hW => ⟨⟨v, u, rfl, hpost, by rw [ht]; exact hP, va_K.moved hW.alike hK, hD⟩, hS.F ht⟩) hS.2.2 hd
theorem st_z {post : Bool → S → Prop} (hy : plainName y.cls = true) (hlen : (lg_sl av).length ≤ maxL)
    (body : ∀ (p : Program) (e : Env) (s : State) (m : MethodId) (below : List Frame) (meth : Method) (c : Code) (A : Nat → Prop) (Q : State → Prop), BD p s m meth c cc maxL y av.toArray D tys A →
      (∀ (pc : Nat) (ls : Array Slot) (H : Heap) (locs : List Loc) (v : Bool) (u : S), decode cc pc = .ok (.ireturn, 1) → va_P D vwCl (w1 u) H → va_D A (w1 u) → va_S A s.heap H locs → post v u → W p l e rm s m av.toArray below meth c H locs mc ms Q (F0 m pc ls [.int (bI v)])) →
      va_P D vwCl ws s.heap → va_D A ws → va_S A s.heap s.heap [] → ∀ ls, lv_has ls maxL (lv_args 0 av) → W p l e rm s m av.toArray below meth c s.heap [] 0 0 Q (F0 m 0 ls [])) :
    CMz l y cc maxL (some .boolean) rm D tys mc ms av ws post w1 := by
  intro sz
  refine Met.ofW (cc := cc) (maxL := maxL) (ret := some .boolean) hy rfl ?_
  intro p e s m args below meth c s₁ B hml hv
  obtain ⟨rfl, hsz, hP, hK, hD0, hN, hM⟩ := hv
  subst hsz
  have hlocks := B.notSynchronized
  have hr := B.returns
  rw [lg_entry_eq]
  refine body p e s m below meth c (va_A ws s.heap.size) _ ⟨B.exec, B.bytes, hml, findClass_of_methodNamed B.named, fun w h => atoms_spec (ws := _ :: TT) B.pre w (List.mem_cons_of_mem _ h), (name_of_methodNamed B.named B.method).1, hK, hN, hM, fun q h => Or.inr h⟩ ?_ hP hD0.self va_S.rf _ (lv_entry av hlen)
  intro pc ls H locs v u hd hP hD hS hpost
  exact W.zret B.exec B.bytes hr (by cases v <;> rfl) (fun t ht hW => ⟨⟨bI v, u, rfl, ⟨v, rfl, hpost⟩, by rw [ht]; exact hP, va_K.moved hW.alike hK, hD⟩, hS.F ht⟩) hS.2.2 hd
theorem st_l {post : Int64 → S → Prop} (hy : plainName y.cls = true) (hlen : (lg_sl av).length ≤ maxL)
    (body : ∀ (p : Program) (e : Env) (s : State) (m : MethodId) (below : List Frame) (meth : Method) (c : Code) (A : Nat → Prop) (Q : State → Prop), BD p s m meth c cc maxL y av.toArray D tys A →
      (∀ (pc : Nat) (ls : Array Slot) (H : Heap) (locs : List Loc) (v : Int64) (u : S), decode cc pc = .ok (.lreturn, 1) → va_P D vwCl (w1 u) H → va_D A (w1 u) → va_S A s.heap H locs → post v u → W p l e rm s m av.toArray below meth c H locs mc ms Q (F0 m pc ls [.long v])) →
      va_P D vwCl ws s.heap → va_D A ws → va_S A s.heap s.heap [] → ∀ ls, lv_has ls maxL (lv_args 0 av) → W p l e rm s m av.toArray below meth c s.heap [] 0 0 Q (F0 m 0 ls [])) :
    CMl l y cc maxL (some .long) rm D tys mc ms av ws post w1 := by
  intro sz
  refine Met.ofW (cc := cc) (maxL := maxL) (ret := some .long) hy rfl ?_
  intro p e s m args below meth c s₁ B hml hv
  obtain ⟨rfl, hsz, hP, hK, hD0, hN, hM⟩ := hv
  subst hsz
  have hlocks := B.notSynchronized
  have hr := B.returns
  rw [lg_entry_eq]
  refine body p e s m below meth c (va_A ws s.heap.size) _ ⟨B.exec, B.bytes, hml, findClass_of_methodNamed B.named, fun w h => atoms_spec (ws := _ :: TT) B.pre w (List.mem_cons_of_mem _ h), (name_of_methodNamed B.named B.method).1, hK, hN, hM, fun q h => Or.inr h⟩ ?_ hP hD0.self va_S.rf _ (lv_entry av hlen)
  intro pc ls H locs v u hd hP hD hS hpost
  exact W.lret B.exec B.bytes hr (fun t ht hW => ⟨⟨v, u, rfl, hpost, by rw [ht]; exact hP, va_K.moved hW.alike hK, hD⟩, hS.F ht⟩) hS.2.2 hd
theorem st_v {post : S → Prop} (hy : plainName y.cls = true) (hlen : (lg_sl av).length ≤ maxL)
    (body : ∀ (p : Program) (e : Env) (s : State) (m : MethodId) (below : List Frame) (meth : Method) (c : Code) (A : Nat → Prop) (Q : State → Prop), BD p s m meth c cc maxL y av.toArray D tys A →
      (∀ (pc : Nat) (ls : Array Slot) (H : Heap) (locs : List Loc) (u : S), decode cc pc = .ok (.return_, 1) → va_P D vwCl (w1 u) H → va_D A (w1 u) → va_S A s.heap H locs → post u → W p l e rm s m av.toArray below meth c H locs mc ms Q (F0 m pc ls [])) →
      va_P D vwCl ws s.heap → va_D A ws → va_S A s.heap s.heap [] → ∀ ls, lv_has ls maxL (lv_args 0 av) → W p l e rm s m av.toArray below meth c s.heap [] 0 0 Q (F0 m 0 ls [])) :
    CMv l y cc maxL none rm D tys mc ms av ws post w1 := by
  intro sz
  refine Met.ofW (cc := cc) (maxL := maxL) (ret := none) hy rfl ?_
  intro p e s m args below meth c s₁ B hml hv
  obtain ⟨rfl, hsz, hP, hK, hD0, hN, hM⟩ := hv
  subst hsz
  have hlocks := B.notSynchronized
  have hr := B.returns
  rw [lg_entry_eq]
  refine body p e s m below meth c (va_A ws s.heap.size) _ ⟨B.exec, B.bytes, hml, findClass_of_methodNamed B.named, fun w h => atoms_spec (ws := _ :: TT) B.pre w (List.mem_cons_of_mem _ h), (name_of_methodNamed B.named B.method).1, hK, hN, hM, fun q h => Or.inr h⟩ ?_ hP hD0.self va_S.rf _ (lv_entry av hlen)
  intro pc ls H locs u hd hP hD hS hpost
  exact W.vret B.exec B.bytes hr (fun t ht hW => ⟨⟨u, rfl, hpost, by rw [ht]; exact hP, va_K.moved hW.alike hK, hD⟩, hS.F ht⟩) hS.2.2 hd
end ST
section CW
variable {R : Room} {s : State} {args : Array Value} {own C : String} {index : Nat} {y : MethodName} {bytes : ByteArray} {maxL : Nat} {ret : Option FieldType} {rm : Room} {mc ms : Nat}
theorem tt_cons {w0 : Cond} (h0 : w0 ∈ TT) : ∀ w ∈ (w0 :: TT), w ∈ TT := fun w h => (List.mem_cons.mp h).elim (fun e => e ▸ h0) id
theorem cvB (n : Nat) (ht : ∀ w ∈ TT, w.before args s = true) (hc : Cond.code y bytes maxL ret ∈ TT) (hi : Cond.initialized y.cls ∈ TT) (hl : Cond.methodLink own index y ∈ TT) (hd : y.cls ≠ "java/lang/invoke/MethodHandle" ∧ y.cls ≠ "java/lang/invoke/VarHandle" ∧ (parseMethodDescriptor y.desc).map (fun d => d.parameters.length) = some n) (hrc : rm.cells = mc) (hrs : rm.slots = ms) (hR : rm.frames + 1 ≤ R.frames ∧ 8 + (maxL + 11) + rm.locals ≤ R.locals) : CallB R s args own index y bytes maxL ret (Cond.code y bytes maxL ret :: TT) rm mc ms n :=
  callB_of n ht (tt_good (tt_cons hc)) rfl hrc hrs (ht _ hi) (ht _ hl) hd hR
theorem cvV (n : Nat) (ht : ∀ w ∈ TT, w.before args s = true) (hc : Cond.code y bytes maxL ret ∈ TT) (hi : Cond.initialized y.cls ∈ TT) (hm : Cond.instanceMethod y ∈ TT) (hv : Cond.selects C y y ∈ TT) (hl : Cond.methodLink own index y ∈ TT) (hd : y.cls ≠ "java/lang/invoke/MethodHandle" ∧ y.cls ≠ "java/lang/invoke/VarHandle" ∧ (parseMethodDescriptor y.desc).map (fun d => d.parameters.length) = some n) (hrc : rm.cells = mc) (hrs : rm.slots = ms) (hR : rm.frames + 1 ≤ R.frames ∧ 8 + (maxL + 11) + rm.locals ≤ R.locals) : CallW R s args own C index y bytes maxL ret (Cond.code y bytes maxL ret :: TT) rm mc ms n :=
  ⟨cvB n ht hc hi hl hd hrc hrs hR, ht _ hm, ht _ hv⟩
theorem cvS (n : Nat) (ht : ∀ w ∈ TT, w.before args s = true) (hc : Cond.code y bytes maxL ret ∈ TT) (hi : Cond.initialized y.cls ∈ TT) (hs : Cond.static y ∈ TT) (hl : Cond.methodLink own index y ∈ TT) (hd : y.cls ≠ "java/lang/invoke/MethodHandle" ∧ y.cls ≠ "java/lang/invoke/VarHandle" ∧ (parseMethodDescriptor y.desc).map (fun d => d.parameters.length) = some n) (hrc : rm.cells = mc) (hrs : rm.slots = ms) (hR : rm.frames + 1 ≤ R.frames ∧ 8 + (maxL + 11) + rm.locals ≤ R.locals) : CallB R s args own index y bytes maxL ret (Cond.code y bytes maxL ret :: TT) rm mc ms n ∧ (Cond.static y).before args s = true :=
  ⟨cvB n ht hc hi hl hd hrc hrs hR, ht _ hs⟩
theorem cvI (n : Nat) (ht : ∀ w ∈ TT, w.before args s = true) (hc : Cond.code y bytes maxL none ∈ TT) (hi : Cond.initialized y.cls ∈ TT) (hm : Cond.instanceMethod y ∈ TT) (hl : Cond.methodLink own index y ∈ TT) (hnm : y.name = "<init>") (hd : y.cls ≠ "java/lang/invoke/MethodHandle" ∧ y.cls ≠ "java/lang/invoke/VarHandle" ∧ (parseMethodDescriptor y.desc).map (fun d => d.parameters.length) = some n) (hrc : rm.cells = mc) (hrs : rm.slots = ms) (hR : rm.frames + 1 ≤ R.frames ∧ 8 + (maxL + 11) + rm.locals ≤ R.locals) : CallB R s args own index y bytes maxL none (Cond.code y bytes maxL none :: TT) rm mc ms n ∧ y.name = "<init>" ∧ (Cond.instanceMethod y).before args s = true :=
  ⟨cvB n ht hc hi hl hd hrc hrs hR, hnm, ht _ hm⟩
theorem cvN {host : String} (n : Nat) (ht : ∀ w ∈ TT, w.before args s = true) (hc : Cond.code y bytes maxL ret ∈ TT) (hi : Cond.initialized y.cls ∈ TT) (hl : va_Nw (.methodLinkNest own index y host) s) (hd : y.cls ≠ "java/lang/invoke/MethodHandle" ∧ y.cls ≠ "java/lang/invoke/VarHandle" ∧ (parseMethodDescriptor y.desc).map (fun d => d.parameters.length) = some n) (hrc : rm.cells = mc) (hrs : rm.slots = ms) (hR : rm.frames + 1 ≤ R.frames ∧ 8 + (maxL + 11) + rm.locals ≤ R.locals) : va_CN R s args own index y host bytes maxL ret (Cond.code y bytes maxL ret :: TT) rm mc ms n :=
  va_cnB n ht (tt_good (tt_cons hc)) rfl hrc hrs hl (ht _ hi) hd hR
end CW
theorem pw_blind {D : va_G} {tys : TY} {av : List Value} {ws : va_W} {sz : Nat} : FrameBlind (va_Pc av (Pw D tys ws sz)) := by
  intro a U g mk q
  obtain ⟨q0, q1, qP, qK, qD, qN, qM⟩ := q
  exact ⟨q0, q1, qP, va_K.moved (u := U) (U := U.calling g mk a) (Vm.Alike.refl U.vm) qK, qD, NW.same (u := U) (U := U.calling g mk a) rfl qN, MK.moved (u := U) (U := U.calling g mk a) (Vm.Alike.refl U.vm) qM⟩
theorem pw_pre {D : va_G} {tys : TY} {wc : va_W} {s U : State} {H : Heap} {A0 B : Nat → Prop} {locs : List Loc} (hU : U.heap = H) (hW : s.WarmedH U.vm) (hP : va_P D vwCl wc H) (hK : va_K D vwCl tys s) (hD : va_D B wc) (hN : NW s) (hM : MK A0 s s.heap) (hS : va_S A0 s.heap H locs) (hF : ∀ q, va_A wc H.size q → A0 q) : Pw D tys wc H.size U := by
  subst hU
  exact ⟨rfl, hP, va_K.moved hW.alike hK, hD.weaken (fun _ _ _ _ => trivial), hN.warm hW, (hM.call hS hF).moved hW.alike⟩
section RN
variable {p : Program} {l : Launch} {e : Env} {R : Room} {s : State} {m : MethodId} {args : Array Value} {below : List Frame} {meth : Method} {c : Code} {H : Heap} {locs : List Loc} {cells slots : Nat} {Q : State → Prop}
variable {y : MethodName} {bytes cc : ByteArray} {maxL nL mc ms n index pc : Nat} {ret : Option FieldType} {wd Ts : List Cond} {rm : Room} {Qc : Array Value → State → Outcome → State → Prop} {own C host : String} {b : Nat} {As rest st0 : List Value} {ls : Array Slot} {D : va_G} {tys : TY} {wc ws wr : va_W} {A0 : Nat → Prop} {free : Nat → Prop}
theorem rn_V (S0 : CallFix p m c cc nL s args Ts own) (cw : CallW R s args own C index y bytes maxL ret wd rm mc ms n) (hM : Met l y wd rm (va_Pc (.ref b :: As) (Pw D tys wc H.size)) Qc mc ms free)
    (hK : va_K D vwCl tys s) (hN : NW s) (hMk : MK A0 s s.heap) (hA : ∀ q, s.heap.size ≤ q → A0 q) (hP : va_P D vwCl ws H) (hD : va_D A0 ws) (hS : va_S A0 s.heap H locs) (isC : List Nat) (hC : isC.map (fun i => ws[i]?) = wc.map some) (hCf : isC.filterMap (fun i => ws[i]?) = wc) (hnC : va_nd isC = true)
    (q0 : Nat) {ci : Nat} {fs : List Value} {qc : vw_C} (he : wc[q0]? = some (b, .inr (ci, fs))) (hci : vwCl[ci]? = some qc) (hqc : qc.1 = C) (hn : As.length = n) (hsize : ls.size = nL) (hst : st0 = As.reverse ++ .ref b :: rest) (hW : (rest.map fun v => v.category).sum ≤ 8) (hdg : decode cc pc = .ok (.invokevirtual index, 3)) (hf : cells + mc ≤ R.cells ∧ slots + ms ≤ R.slots) :
    va_Run p l e R s m args below meth c H locs cells slots mc ms (F0 m pc ls st0) rest (Qc (Value.ref b :: As).toArray) free := by
  subst hqc
  have hPc := hP.sub isC hCf
  have hDc := hD.sub isC hnC hC
  have hF := va_free hD hS hA isC hC
  exact va_runV (n := n) S0 hM cw ⟨pw_blind, va_recv hK hPc hci he, fun U hU hWm => ⟨rfl, pw_pre hU hWm hPc hK hDc hN hMk hS hF⟩⟩ rfl hn hsize hst (lv_room hW) hdg hf
theorem rn_S (S0 : CallFix p m c cc nL s args Ts own) (cw : CallB R s args own index y bytes maxL ret wd rm mc ms n ∧ (Cond.static y).before args s = true) (hM : Met l y wd rm (va_Pc As (Pw D tys wc H.size)) Qc mc ms free)
    (hK : va_K D vwCl tys s) (hN : NW s) (hMk : MK A0 s s.heap) (hA : ∀ q, s.heap.size ≤ q → A0 q) (hP : va_P D vwCl ws H) (hD : va_D A0 ws) (hS : va_S A0 s.heap H locs) (isC : List Nat) (hC : isC.map (fun i => ws[i]?) = wc.map some) (hCf : isC.filterMap (fun i => ws[i]?) = wc) (hnC : va_nd isC = true)
    (hn : As.length = n) (hsize : ls.size = nL) (hst : st0 = As.reverse ++ rest) (hW : (rest.map fun v => v.category).sum ≤ 8) (hdg : decode cc pc = .ok (.invokestatic index, 3)) (hf : cells + mc ≤ R.cells ∧ slots + ms ≤ R.slots) :
    va_Run p l e R s m args below meth c H locs cells slots mc ms (F0 m pc ls st0) rest (Qc As.toArray) free := by
  have hPc := hP.sub isC hCf
  have hDc := hD.sub isC hnC hC
  have hF := va_free hD hS hA isC hC
  exact va_runS (n := n) S0 hM cw ⟨pw_blind, fun U hU hWm => ⟨rfl, pw_pre hU hWm hPc hK hDc hN hMk hS hF⟩⟩ rfl hn hsize hst (lv_room hW) hdg hf
theorem rn_SN (S0 : CallFix p m c cc nL s args Ts own) (cw : va_CN R s args own index y host bytes maxL ret wd rm mc ms n ∧ (Cond.static y).before args s = true ∧ True) (hM : Met l y wd rm (va_Pc As (Pw D tys wc H.size)) Qc mc ms free)
    (hK : va_K D vwCl tys s) (hN : NW s) (hMk : MK A0 s s.heap) (hA : ∀ q, s.heap.size ≤ q → A0 q) (hP : va_P D vwCl ws H) (hD : va_D A0 ws) (hS : va_S A0 s.heap H locs) (isC : List Nat) (hC : isC.map (fun i => ws[i]?) = wc.map some) (hCf : isC.filterMap (fun i => ws[i]?) = wc) (hnC : va_nd isC = true)
    (hn : As.length = n) (hsize : ls.size = nL) (hst : st0 = As.reverse ++ rest) (hW : (rest.map fun v => v.category).sum ≤ 8) (hdg : decode cc pc = .ok (.invokestatic index, 3)) (hf : cells + mc ≤ R.cells ∧ slots + ms ≤ R.slots) :
    va_Run p l e R s m args below meth c H locs cells slots mc ms (F0 m pc ls st0) rest (Qc As.toArray) free := by
  have hPc := hP.sub isC hCf
  have hDc := hD.sub isC hnC hC
  have hF := va_free hD hS hA isC hC
  exact va_runSN (n := n) S0 hM cw ⟨pw_blind, fun U hU hWm => ⟨rfl, pw_pre hU hWm hPc hK hDc hN hMk hS hF⟩⟩ rfl hn hsize hst (lv_room hW) hdg hf
theorem rn_I (S0 : CallFix p m c cc nL s args Ts own) (cw : CallB R s args own index y bytes maxL none wd rm mc ms n ∧ y.name = "<init>" ∧ (Cond.instanceMethod y).before args s = true) (hM : Met l y wd rm (va_Pc (.ref b :: As) (Pw D tys wc H.size)) Qc mc ms free)
    (hK : va_K D vwCl tys s) (hN : NW s) (hMk : MK A0 s s.heap) (hA : ∀ q, s.heap.size ≤ q → A0 q) (hP : va_P D vwCl ws H) (hD : va_D A0 ws) (hS : va_S A0 s.heap H locs) (isC : List Nat) (hC : isC.map (fun i => ws[i]?) = wc.map some) (hCf : isC.filterMap (fun i => ws[i]?) = wc) (hnC : va_nd isC = true)
    (hn : As.length = n) (hsize : ls.size = nL) (hst : st0 = As.reverse ++ .ref b :: rest) (hW : (rest.map fun v => v.category).sum ≤ 8) (hdg : decode cc pc = .ok (.invokespecial index, 3)) (hf : cells + mc ≤ R.cells ∧ slots + ms ≤ R.slots) :
    va_Run p l e R s m args below meth c H locs cells slots mc ms (F0 m pc ls st0) rest (Qc (Value.ref b :: As).toArray) free := by
  have hPc := hP.sub isC hCf
  have hDc := hD.sub isC hnC hC
  have hF := va_free hD hS hA isC hC
  exact va_runI (n := n) S0 hM cw ⟨pw_blind, fun U hU hWm => ⟨rfl, pw_pre hU hWm hPc hK hDc hN hMk hS hF⟩⟩ rfl hn hsize hst (lv_room hW) hdg hf
theorem rn_IN (S0 : CallFix p m c cc nL s args Ts own) (cw : va_CN R s args own index y host bytes maxL none wd rm mc ms n ∧ y.name = "<init>" ∧ (Cond.instanceMethod y).before args s = true) (hM : Met l y wd rm (va_Pc (.ref b :: As) (Pw D tys wc H.size)) Qc mc ms free)
    (hK : va_K D vwCl tys s) (hN : NW s) (hMk : MK A0 s s.heap) (hA : ∀ q, s.heap.size ≤ q → A0 q) (hP : va_P D vwCl ws H) (hD : va_D A0 ws) (hS : va_S A0 s.heap H locs) (isC : List Nat) (hC : isC.map (fun i => ws[i]?) = wc.map some) (hCf : isC.filterMap (fun i => ws[i]?) = wc) (hnC : va_nd isC = true)
    (hn : As.length = n) (hsize : ls.size = nL) (hst : st0 = As.reverse ++ .ref b :: rest) (hW : (rest.map fun v => v.category).sum ≤ 8) (hdg : decode cc pc = .ok (.invokespecial index, 3)) (hf : cells + mc ≤ R.cells ∧ slots + ms ≤ R.slots) :
    va_Run p l e R s m args below meth c H locs cells slots mc ms (F0 m pc ls st0) rest (Qc (Value.ref b :: As).toArray) free := by
  have hPc := hP.sub isC hCf
  have hDc := hD.sub isC hnC hC
  have hF := va_free hD hS hA isC hC
  exact va_runIN (n := n) S0 hM cw ⟨pw_blind, fun U hU hWm => ⟨rfl, pw_pre hU hWm hPc hK hDc hN hMk hS hF⟩⟩ rfl hn hsize hst (lv_room hW) hdg hf
theorem jn_i {S : Type} {post : Int32 → S → Prop} {w1 : S → va_W} {a : Array Value} (hA : ∀ q, s.heap.size ≤ q → A0 q) (hP : va_P D vwCl ws H) (hD : va_D A0 ws) (hS : va_S A0 s.heap H locs) (isC isR : List Nat) (hC : isC.map (fun i => ws[i]?) = wc.map some) (hR : isR.map (fun i => ws[i]?) = wr.map some) (hnR : va_nd isR = true) (hdis : ∀ i ∈ isR, i ∉ isC)
    (hr : va_Run p l e R s m args below meth c H locs cells slots mc ms (F0 m pc ls st0) rest (va_Qi post (fun u t => Bw D tys (va_A wc H.size) (w1 u) t) (va_A wc H.size) a) (va_A wc H.size))
    (kk : ∀ (r : Int32) (u : S) (H1 : Heap) (locs1 : List Loc), post r u → va_P D vwCl (wr ++ w1 u) H1 → va_D A0 (wr ++ w1 u) → va_S A0 s.heap H1 locs1 → W p l e R s m args below meth c H1 locs1 (cells + mc) (slots + ms) Q (F0 m (pc + 3) ls (.int r :: rest))) : W p l e R s m args below meth c H locs cells slots Q (F0 m pc ls st0) := by
  have hF := va_free hD hS hA isC hC
  refine va_calli hr hS (fun q _ h => hF q h) hF (fun r u t H1 locs1 ht hvm hw hB hz1 hk1 hS1 => ?_)
  obtain ⟨hP1, hK1, hD1⟩ := hB
  rw [ht] at hP1
  obtain ⟨hP2, hD2⟩ := va_join hP hD isC isR hC hR hnR hdis hk1 hF hP1 hD1
  exact kk r u H1 locs1 hw hP2 hD2 hS1
theorem jn_l {S : Type} {post : Int64 → S → Prop} {w1 : S → va_W} {a : Array Value} (hA : ∀ q, s.heap.size ≤ q → A0 q) (hP : va_P D vwCl ws H) (hD : va_D A0 ws) (hS : va_S A0 s.heap H locs) (isC isR : List Nat) (hC : isC.map (fun i => ws[i]?) = wc.map some) (hR : isR.map (fun i => ws[i]?) = wr.map some) (hnR : va_nd isR = true) (hdis : ∀ i ∈ isR, i ∉ isC)
    (hr : va_Run p l e R s m args below meth c H locs cells slots mc ms (F0 m pc ls st0) rest (va_Ql post (fun u t => Bw D tys (va_A wc H.size) (w1 u) t) (va_A wc H.size) a) (va_A wc H.size))
    (kk : ∀ (r : Int64) (u : S) (H1 : Heap) (locs1 : List Loc), post r u → va_P D vwCl (wr ++ w1 u) H1 → va_D A0 (wr ++ w1 u) → va_S A0 s.heap H1 locs1 → W p l e R s m args below meth c H1 locs1 (cells + mc) (slots + ms) Q (F0 m (pc + 3) ls (.long r :: rest))) : W p l e R s m args below meth c H locs cells slots Q (F0 m pc ls st0) := by
  have hF := va_free hD hS hA isC hC
  refine va_calll hr hS (fun q _ h => hF q h) hF (fun r u t H1 locs1 ht hvm hw hB hz1 hk1 hS1 => ?_)
  obtain ⟨hP1, hK1, hD1⟩ := hB
  rw [ht] at hP1
  obtain ⟨hP2, hD2⟩ := va_join hP hD isC isR hC hR hnR hdis hk1 hF hP1 hD1
  exact kk r u H1 locs1 hw hP2 hD2 hS1
theorem jn_v {S : Type} {post : S → Prop} {w1 : S → va_W} {a : Array Value} (hA : ∀ q, s.heap.size ≤ q → A0 q) (hP : va_P D vwCl ws H) (hD : va_D A0 ws) (hS : va_S A0 s.heap H locs) (isC isR : List Nat) (hC : isC.map (fun i => ws[i]?) = wc.map some) (hR : isR.map (fun i => ws[i]?) = wr.map some) (hnR : va_nd isR = true) (hdis : ∀ i ∈ isR, i ∉ isC)
    (hr : va_Run p l e R s m args below meth c H locs cells slots mc ms (F0 m pc ls st0) rest (va_Qv post (fun u t => Bw D tys (va_A wc H.size) (w1 u) t) (va_A wc H.size) a) (va_A wc H.size))
    (kk : ∀ (u : S) (H1 : Heap) (locs1 : List Loc), post u → va_P D vwCl (wr ++ w1 u) H1 → va_D A0 (wr ++ w1 u) → va_S A0 s.heap H1 locs1 → W p l e R s m args below meth c H1 locs1 (cells + mc) (slots + ms) Q (F0 m (pc + 3) ls rest)) : W p l e R s m args below meth c H locs cells slots Q (F0 m pc ls st0) := by
  have hF := va_free hD hS hA isC hC
  refine va_callv hr hS (fun q _ h => hF q h) hF (fun u t H1 locs1 ht hvm hw hB hz1 hk1 hS1 => ?_)
  obtain ⟨hP1, hK1, hD1⟩ := hB
  rw [ht] at hP1
  obtain ⟨hP2, hD2⟩ := va_join hP hD isC isR hC hR hnR hdis hk1 hF hP1 hD1
  exact kk u H1 locs1 hw hP2 hD2 hS1
end RN
