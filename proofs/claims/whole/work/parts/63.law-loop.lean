/-! THE CLAIM OUT OF ONE WALK OF THE LAW'S BODY. Your part is whole_start (and what it stands on); all else here is the same for every law, but numbers. -/
def R_law : String := "CodedDeltasLaw"
def lw_P (b : Addr) (xs : List Int32) (args : Array Value) (s : State) : Prop := args = #[.ref b] ∧ s.IntsAt b xs ∧ xs.length ≤ 2560 ∧ (Jvm.Cond.and given_1 narrow_1).before args s = true
def lw_Q (_ : Array Value) (s : State) (o : Outcome) (t : State) : Prop := o = .returned (some (.int 1)) ∧ Framed s o t [] 600000 7302250
def lw_Z (below : List Frame) (a : Array Value) (s : State) : State → Prop := fun t => ∃ o, t.status = .running ∧ Ended t below o ∧ lw_Q a s o t
/-- the law's own end, with 1 on the stack, nothing written that was there before, its room as the claim has it -/
theorem lw_ret {p : Program} {l : Launch} {e : Env} {s : State} {m : MethodId} {below : List Frame} {meth : Method} {c : Code} {b : Nat} (hx : p.tables.exec = Jvm.exec) (hb : c.code = code) (hr : meth.sig.returnType = ret) (hlocks : meth.locks = false) {pc : Nat} {H : Heap} {ls : Array Slot} (hdg : decode code pc = .ok (.ireturn, 1)) : W p l e room_1 s m #[Value.ref b] below meth c H [] 600000 7302250 (lw_Z below #[Value.ref b] s) (F0 m pc ls [.int 1]) := by
  intro T hT X
  obtain ⟨fs, hret, hrun, hended, hW, hframe⟩ := X.leave (v := some (.int 1)) (hlocks := hlocks) (fun h => by rw [hr] at h; cases h)
  have hmeth' : T.vm.method? m = some meth := X.method'
  refine ⟨T.setFrames fs, ?_, .returned (some (.int 1)), hrun, hended, rfl, ⟨_, rfl⟩, hW, hframe⟩
  jvm_step X.here [X.here.top, hx, hb, hdg, hmeth', hr, ret, narrow_b1]
  (try refine ⟨rfl, ?_⟩); (try refine ⟨rfl, ?_⟩)
  first | (intro acts; rw [hret _ acts rfl rfl rfl]) | rw [hret _ _ rfl rfl rfl]
  exact Steps.refl _
/-- what holds at the law's entry: the machine, the code, the tables' words (any of lw_tbl by 'hts w (by decide +kernel)'), the script of L ints xs at the cell b, what the Statement gives of the start (any of its parts by flat_of_before) -/
def lw_At (p : Program) (s : State) (m : MethodId) (meth : Method) (c : Code) (b L : Nat) (xs : Nat → Int32) : Prop :=
  p.tables.exec = Jvm.exec ∧ c.code = code ∧ meth.sig.returnType = ret ∧ c.maxLocals = 4 ∧ s.vm.findClass R_law = some m.cls ∧ (∀ w ∈ lw_tbl, w.before #[Value.ref b] s = true) ∧ va_X b L xs s s.heap ∧ b < s.heap.size ∧ meth.locks = false ∧ (Jvm.Cond.and given_1 narrow_1).before #[Value.ref b] s = true
/-! THE LAW'S LOOP -/
theorem and15 (x : Int32) : ∃ c, c < 16 ∧ x &&& 15 = nI c := by
  refine ⟨x.toBitVec.toNat % 16, Nat.mod_lt _ (by decide), ?_⟩
  apply Int32.toBitVec_inj.mp
  apply BitVec.eq_of_toNat_eq
  rw [Int32.toBitVec_and, BitVec.toNat_and, show (15 : Int32).toBitVec.toNat = 2 ^ 4 - 1 from rfl, Nat.and_two_pow_sub_one_eq_mod]
  have h1 : x.toBitVec.toNat % 16 < 16 := Nat.mod_lt _ (by decide)
  show _ = (nI (x.toBitVec.toNat % 16)).toBitVec.toNat
  rw [show (nI (x.toBitVec.toNat % 16)).toBitVec.toNat = x.toBitVec.toNat % 16 from nI_bn (by omega)]
theorem lawL {i L : Nat} (hi : i ≤ 2570) (hL : L ≤ 2560) : nI L - 5 < nI i ↔ L < i + 5 := by
  by_cases q : 5 ≤ L
  · rw [show (5 : Int32) = nI 5 from rfl, pk_sub q, nI_ltI (by omega) (by omega)]; omega
  · have h : ∀ L, L < 5 → (nI L - 5).toInt < 0 := by decide +kernel
    have h9 := h L (by omega)
    rw [Int32.lt_iff_toInt_lt, nI_toInt (show i < 2 ^ 31 by omega)]
    constructor
    · intro; omega
    · intro; omega
theorem ak_prim {ty : FieldType} {args : Array Value} {s : State} (h : (Cond.arrayClass ty).before args s = true) : ∃ cA : ClassId, ArrOfT s cA ty ∧ s.vm.findClass ("[" ++ ty.toString) = some cA := by
  obtain ⟨cA, kA, comp, hf, hk, hkind⟩ := Cond.arrayClass_spec h
  exact ⟨cA, fun n z => ⟨fun k h => (by cases h), kA, hk, comp, hkind⟩, hf⟩
theorem ak_row {C : String} {args : Array Value} {s : State} (h : (Cond.arrayOver (.object C)).before args s = true) : ∃ cA : ClassId, ArrOfT s cA (.object C) ∧ va_RA s cA (.object C) := by
  obtain ⟨comp, c, k, h1, h2, h3, h4, h5⟩ := Cond.arrayOver_spec h
  exact ⟨c, fun n z => ⟨fun k h => (by cases h), k, h3, comp, h4⟩, k, comp, h3, h4, h1, h5⟩
set_option maxHeartbeats 4000000 in
set_option maxRecDepth 100000 in
theorem law_loop (l : Launch) {p0 : Program} {e0 : Env} {s0 : State} {m0 : MethodId} {below : List Frame} {meth : Method} {c0 : Code} {b L : Nat} {xs : Nat → Int32} {D : va_G} {cI cB cJ cR : ClassId} {A0 : Nat → Prop} {cd mm : Nat} (hLX : LX p0 s0 m0 c0 b L xs D cI cB cJ cR A0) (hr : meth.sig.returnType = ret) (hlocks : meth.locks = false) (hAn : ∀ q, A0 q → s0.heap.size ≤ q) : ∀ (k9 i : Nat), i ≤ 2565 → L + 6 - i < k9 → LA D cI cB cJ cR A0 cd mm (fun H => ∀ (locs : List Loc) (ls : Array Slot), va_S A0 s0.heap H locs → lv_has ls 4 [(0, .ref b), (1, .ref cd), (2, .ref mm), (3, .int (nI i))] → W p0 l e0 room_1 s0 m0 ([.ref b] : List Value).toArray below meth c0 H locs 126 388824 (lw_Z below #[Value.ref b] s0) (F0 m0 18 ls [])) := by
  obtain ⟨hx, hb, hml, hown, hts, hK, hNw, hMk, hA, hX, hbl, hbA, hL2⟩ := id hLX
  intro k9
  induction k9 with
  | zero => intro i _ h9; exact absurd h9 (Nat.not_lt_zero _)
  | succ k9 ih =>
    intro i hi hk
    by_cases hiL : i + 5 ≤ L
    · have KE : LA D cI cB cJ cR A0 cd mm (fun H => ∀ (locs : List Loc) (ls : Array Slot), va_S A0 s0.heap H locs → lv_has ls 4 [(0, .ref b), (1, .ref cd), (2, .ref mm), (3, .int (nI i))] → W p0 l e0 room_1 s0 m0 ([.ref b] : List Value).toArray below meth c0 H locs 126 388824 (lw_Z below #[Value.ref b] s0) (F0 m0 669 ls [])) := by
        refine LA_map (fun H hG locs ls hS hl => ?_) (ih (i + 5) (by omega) (by omega))
        refine lv_iinc (v := nI (i + 5)) (lv' := [(3, .int (nI (i + 5))), (0, .ref b), (1, .ref cd), (2, .ref mm)]) hx hb dL_law_669 hl (k := 3) rfl (nI_add i 5) (by decide) rfl (fun ls hl => ?_)
        refine lv_goto (tgt := 18) hx hb dL_law_672 (by decide) ?_
        exact hG locs ls hS (lv_sub hl [1, 2, 3, 0] rfl)
      obtain ⟨c, hc, hce⟩ := and15 (xs (nI i).toNatClampNeg)
      have hgo : ∀ (G : Heap → Prop) (hh : ∀ (H : Heap) (locs : List Loc) (ls : Array Slot), G H → va_S A0 s0.heap H locs → lv_has ls 4 [(0, .ref b), (1, .ref cd), (2, .ref mm), (3, .int (nI i))] → W p0 l e0 room_1 s0 m0 ([.ref b] : List Value).toArray below meth c0 H locs 126 388824 (lw_Z below #[Value.ref b] s0) (F0 m0 32 ls [.int (nI c)])) (k : LA D cI cB cJ cR A0 cd mm G), LA D cI cB cJ cR A0 cd mm (fun H => ∀ (locs : List Loc) (ls : Array Slot), va_S A0 s0.heap H locs → lv_has ls 4 [(0, .ref b), (1, .ref cd), (2, .ref mm), (3, .int (nI i))] → W p0 l e0 room_1 s0 m0 ([.ref b] : List Value).toArray below meth c0 H locs 126 388824 (lw_Z below #[Value.ref b] s0) (F0 m0 18 ls [])) := by
        intro G hh k
        refine LA_map (fun H hG locs ls hS hl => ?_) k
        refine lv_iload_n hx hb dL_law_18 rfl (lv_at hl 3 rfl) ?_
        refine lv_aload_n hx hb dL_law_19 rfl (lv_at hl 0 rfl) ?_
        refine va_slen hx hb hX hbl hbA hS dL_law_20 ?_
        refine ri (y := nI L) rfl ?_
        refine lv_iconst (v := 5) hx hb dL_law_21 (by decide) ?_
        refine lv_isub hx hb dL_law_22 ?_
        refine lv_icmp_gt (tgt := 675) hx hb dL_law_23 (by decide) (fun cg => absurd ((lawL (by omega) hL2).mp cg) (by omega)) (fun cg => ?_)
        refine lv_aload_n hx hb dL_law_26 rfl (lv_at hl 0 rfl) ?_
        refine lv_iload_n hx hb dL_law_27 rfl (lv_at hl 3 rfl) ?_
        refine va_sld hx hb hX hbl hbA hS (vp_in_nI (n := i) (by omega) (by omega)) dL_law_28 ?_
        refine lv_bipush (v := 15) hx hb dL_law_29 (by decide) ?_
        refine lv_iand hx hb dL_law_31 ?_
        refine ri (y := nI c) hce ?_
        exact hh H locs ls hG hS hl
      rcases (show c = 0 ∨ c = 1 ∨ c = 2 ∨ c = 3 ∨ c = 4 ∨ c = 5 ∨ c = 6 ∨ c = 7 ∨ c = 8 ∨ c = 9 ∨ c = 10 ∨ c = 11 ∨ c = 12 ∨ c = 13 ∨ c = 14 ∨ c = 15 by omega) with rfl | rfl | rfl | rfl | rfl | rfl | rfl | rfl | rfl | rfl | rfl | rfl | rfl | rfl | rfl | rfl
      · refine hgo _ (fun H locs ls hG hS hl => ?_) (law_0 l hLX hiL KE)
        refine lv_tableIn (tgt := 108) hx hb dL_law_32 (by decide) (by decide) rfl rfl ?_
        exact hG locs ls hS hl
      · refine hgo _ (fun H locs ls hG hS hl => ?_) (law_1 l hLX hiL KE)
        refine lv_tableIn (tgt := 181) hx hb dL_law_32 (by decide) (by decide) rfl rfl ?_
        exact hG locs ls hS hl
      · refine hgo _ (fun H locs ls hG hS hl => ?_) (law_2 l hLX hiL KE)
        refine lv_tableIn (tgt := 234) hx hb dL_law_32 (by decide) (by decide) rfl rfl ?_
        exact hG locs ls hS hl
      · refine hgo _ (fun H locs ls hG hS hl => ?_) (law_3 l hLX hiL KE)
        refine lv_tableIn (tgt := 287) hx hb dL_law_32 (by decide) (by decide) rfl rfl ?_
        exact hG locs ls hS hl
      · refine hgo _ (fun H locs ls hG hS hl => ?_) (law_4 l hLX hiL KE)
        refine lv_tableIn (tgt := 330) hx hb dL_law_32 (by decide) (by decide) rfl rfl ?_
        exact hG locs ls hS hl
      · refine hgo _ (fun H locs ls hG hS hl => ?_) (law_5 l hLX hiL KE)
        refine lv_tableIn (tgt := 363) hx hb dL_law_32 (by decide) (by decide) rfl rfl ?_
        exact hG locs ls hS hl
      · refine hgo _ (fun H locs ls hG hS hl => ?_) (law_6 l hLX hiL KE)
        refine lv_tableIn (tgt := 386) hx hb dL_law_32 (by decide) (by decide) rfl rfl ?_
        exact hG locs ls hS hl
      · refine hgo _ (fun H locs ls hG hS hl => ?_) (law_7 l hLX hiL KE)
        refine lv_tableIn (tgt := 419) hx hb dL_law_32 (by decide) (by decide) rfl rfl ?_
        exact hG locs ls hS hl
      · refine hgo _ (fun H locs ls hG hS hl => ?_) (law_8 l hLX hiL KE)
        refine lv_tableIn (tgt := 452) hx hb dL_law_32 (by decide) (by decide) rfl rfl ?_
        exact hG locs ls hS hl
      · refine hgo _ (fun H locs ls hG hS hl => ?_) (law_9 l hLX hiL KE)
        refine lv_tableIn (tgt := 485) hx hb dL_law_32 (by decide) (by decide) rfl rfl ?_
        exact hG locs ls hS hl
      · refine hgo _ (fun H locs ls hG hS hl => ?_) (law_10 l hLX hiL KE)
        refine lv_tableIn (tgt := 518) hx hb dL_law_32 (by decide) (by decide) rfl rfl ?_
        exact hG locs ls hS hl
      · refine hgo _ (fun H locs ls hG hS hl => ?_) (law_11 l hLX hiL KE)
        refine lv_tableIn (tgt := 587) hx hb dL_law_32 (by decide) (by decide) rfl rfl ?_
        exact hG locs ls hS hl
      · refine hgo _ (fun H locs ls hG hS hl => ?_) (law_12 l hLX hiL KE)
        refine lv_tableIn (tgt := 600) hx hb dL_law_32 (by decide) (by decide) rfl rfl ?_
        exact hG locs ls hS hl
      · refine hgo _ (fun H locs ls hG hS hl => ?_) (law_13 l hLX hiL KE)
        refine lv_tableIn (tgt := 613) hx hb dL_law_32 (by decide) (by decide) rfl rfl ?_
        exact hG locs ls hS hl
      · refine hgo _ (fun H locs ls hG hS hl => ?_) (law_14 l hLX hiL KE)
        refine lv_tableIn (tgt := 636) hx hb dL_law_32 (by decide) (by decide) rfl rfl ?_
        exact hG locs ls hS hl
      · refine hgo _ (fun H locs ls hG hS hl => ?_) KE
        refine lv_tableOut (tgt := 669) hx hb dL_law_32 (Or.inr (by decide)) rfl ?_
        exact hG locs ls hS hl
    · refine LA_of (fun H locs ls hS hl => ?_)
      refine lv_iload_n hx hb dL_law_18 rfl (lv_at hl 3 rfl) ?_
      refine lv_aload_n hx hb dL_law_19 rfl (lv_at hl 0 rfl) ?_
      refine va_slen hx hb hX hbl hbA hS dL_law_20 ?_
      refine ri (y := nI L) rfl ?_
      refine lv_iconst (v := 5) hx hb dL_law_21 (by decide) ?_
      refine lv_isub hx hb dL_law_22 ?_
      refine lv_icmp_gt (tgt := 675) hx hb dL_law_23 (by decide) (fun cg => ?_) (fun cg => absurd ((lawL (by omega) hL2).mpr (by omega)) cg)
      refine lv_iconst (v := 1) hx hb dL_law_675 (by decide) ?_
      refine va_forget (fun q hq => hAn _ (hS.2.2 q hq)) ?_
      refine W.widen (k := 600000) (n := 7302250) (by omega) (by omega) ?_
      exact lw_ret hx hb hr hlocks dL_law_676
