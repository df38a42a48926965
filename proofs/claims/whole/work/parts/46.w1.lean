/-! WRITING a window: instructions (kind, size, place in U, address); with their MODE; data, addresses, caches -/
abbrev Ins : Type := Nat × Nat × Nat × Nat
abbrev QI : Type := Nat × Nat × Nat × Nat
abbrev WS : Type := List Int32 × List Int32 × Nat × (Nat → Nat) × (Nat → Nat) × List QI
def rgL (f : Nat → Int32) (a : Nat) : Nat → List Int32
  | 0 => []
  | n + 1 => rgL f a n ++ [f (a + n)]
theorem rgL_len (f : Nat → Int32) (a : Nat) : ∀ n, (rgL f a n).length = n
  | 0 => rfl
  | n + 1 => by rw [rgL, List.length_append, rgL_len f a n]; rfl
theorem rgL_congr {f g : Nat → Int32} {a b : Nat} : ∀ n, (∀ i, i < n → f (a + i) = g (b + i)) → rgL f a n = rgL g b n
  | 0 => fun _ => rfl
  | n + 1 => fun h => by rw [rgL, rgL, rgL_congr n (fun i hi => h i (by omega)), h n (by omega)]
def insF (near same : Nat) (T : Nat → Int32) : WS → Ins → WS
  | (D, A, nx, cN, cS, Q), (k, z, p, a) =>
    if k = 3 then (D, A ++ adL near a p (chMode near same a p cN cS) cN, kpX near nx, kpN near nx a cN, kpS same a cS, Q ++ [(3, z, a, chMode near same a p cN cS)])
    else if k = 2 then (D ++ [T p], A, nx, cN, cS, Q ++ [(2, z, 0, 0)])
    else (D ++ rgL T p z, A, nx, cN, cS, Q ++ [(1, z, 0, 0)])
def addI (a b : Nat) : List Ins := if a < b then [(1, b - a, a, 0)] else []
/-- the way to choose: rn how long a run, mt how long a match and where -/
def chW (rn : Nat → Nat) (mt : Nat → Nat × Nat) (way en : Nat) : Nat → Nat → Nat → List Ins
  | 0, ad, _ => addI ad en
  | k + 1, ad, p => if p < en then
      (if 6 ≤ rn p ∧ (mt p).1 ≤ rn p then addI ad p ++ (2, rn p, p, 0) :: chW rn mt way en k (p + rn p) (p + rn p)
       else if (mt p).1 < 4 ∨ (way = 2 ∧ (mt p).1 + 2 ≤ (mt (p + 1)).1) then chW rn mt way en k ad (p + 1)
       else addI ad p ++ (3, (mt p).1, p, (mt p).2) :: chW rn mt way en k (p + (mt p).1) (p + (mt p).1))
    else addI ad en
/-- the instructions of a window as the list of all of them has them; c the code -/
def qst (x : QI) (c w : Nat) : Nat → Int32 := st6 (nI x.1) (nI x.2.1) (nI x.2.2.1) (nI x.2.2.2) (nI c) (nI w)
def wst (g : Nat → Nat → Int32) (fst cnt : Nat) (Q : List QI) (w : Nat) : Prop := cnt = fst + Q.length ∧ ∀ i, i < Q.length → g (fst + i) = qst (Q.getD i (0, 0, 0, 0)) 0 w
theorem gD_l {α : Type} {L M : List α} {i : Nat} {d : α} (h : i < L.length) : (L ++ M).getD i d = L.getD i d := by
  rw [List.getD_eq_getElem?_getD, List.getD_eq_getElem?_getD, List.getElem?_append_left h]
theorem gD_r {α : Type} {L M : List α} {i : Nat} {d : α} (h : L.length ≤ i) : (L ++ M).getD i d = M.getD (i - L.length) d := by
  rw [List.getD_eq_getElem?_getD, List.getD_eq_getElem?_getD, List.getElem?_append_right h]
theorem wst_put {g : Nat → Nat → Int32} {fst cnt : Nat} {Q : List QI} {w k z a m : Nat} (h : wst g fst cnt Q w) : wst (va_up g cnt (st6 (nI k) (nI z) (nI a) (nI m) 0 (nI w))) fst (cnt + 1) (Q ++ [(k, z, a, m)]) w := by
  obtain ⟨h1, h2⟩ := h
  refine ⟨by rw [List.length_append, h1]; rfl, fun i hi => ?_⟩
  rw [List.length_append] at hi
  have hi : i < Q.length + 1 := hi
  by_cases q : i = Q.length
  · subst q
    rw [← h1, va_up_self, gD_r (Nat.le_refl _), Nat.sub_self]
    rfl
  · rw [va_up_ne _ _ (show fst + i ≠ cnt by omega), gD_l (by omega)]
    exact h2 i (by omega)
theorem chMode_lt {near same a here : Nat} {cN cS : Nat → Nat} (h4 : same ≤ 4) : chMode near same a here cN cS < near + 2 + same ∨ chMode near same a here cN cS ≤ near + 1 := by
  unfold chMode
  split
  · rename_i h
    left
    have h1 : a % (256 * same) < 256 * same := Nat.mod_lt _ (by omega)
    have h2 : a % (256 * same) / 256 < same := Nat.div_lt_of_lt_mul h1
    omega
  · right; exact (chM_le a here cN near).2
theorem chM_near {a here : Nat} {cN : Nat → Nat} : ∀ i, 2 ≤ (chM a here cN i).1 → cN ((chM a here cN i).1 - 2) ≤ a ∧ (chM a here cN i).1 < i + 2
  | 0 => fun h => by unfold chM at h; split at h <;> exact absurd h (by simp)
  | i + 1 => fun h => by
    unfold chM at h ⊢
    split at h
    · rename_i q; rw [if_pos q]; exact ⟨by rw [show 2 + i - 2 = i by omega]; exact q.1, by show 2 + i < _; omega⟩
    · rename_i q; rw [if_neg q]; have := chM_near i h; exact ⟨this.1, by omega⟩
theorem chMode_near {near same a here : Nat} {cN cS : Nat → Nat} (h2 : 2 ≤ chMode near same a here cN cS) (h3 : chMode near same a here cN cS < near + 2) : cN (chMode near same a here cN cS - 2) ≤ a := by
  unfold chMode at h2 h3 ⊢
  split at h3
  · omega
  · rename_i q; rw [if_neg q] at h2 ⊢; exact (chM_near near h2).1
set_option maxHeartbeats 4000000 in
set_option maxRecDepth 100000 in
theorem c_Writer_begin (l : Launch) (D : va_G) (cI cB cJ cR : ClassId) (h : Nat) (da : Nat) (co : Nat) (aa : Nat) (nr : Nat) (fi : Nat) (o0 : Nat) (p0x : Nat) (ou : Nat) (sp : Nat) (w0 : Int32) (fx0 : Int32) (sk : Int32) (sz : Int32) (lk0 : Int32)  : CMv l yX7_begin cX7_begin 3 none ({ frames := 0, cells := 0, slots := 0, locals := 0 }) D (tyA cI cB cJ cR) 0 0 [.ref h, .ref ou, .ref sp] [(h, .inr (7, [.ref da, .ref co, .ref aa, .ref nr, .ref fi, .ref o0, .ref p0x, .int w0, .int fx0, .int sk, .int sz, .int lk0]))] (fun (_ : Unit) => True) (fun (_ : Unit) => [(h, .inr (7, [.ref da, .ref co, .ref aa, .ref nr, .ref fi, .ref ou, .ref sp, .int (nI 0), .int fx0, .int sk, .int sz, .int 0]))]) := by
  refine st_v (cc := cX7_begin) (maxL := 3) (by decide) (Nat.le_of_ble_eq_true rfl) ?_
  intro p0 e0 s0 m0 below meth c0 A0 Q0 hBD hret hP hD hS ls hl
  obtain ⟨hx, hb, hml, hown, hts, hnm, hK, hNw, hMk, hA⟩ := hBD
  have hl : lv_has ls 3 [(0, .ref h), (1, .ref ou), (2, .ref sp)] := hl
  have hP : va_P D vwCl [(h, .inr (7, [.ref da, .ref co, .ref aa, .ref nr, .ref fi, .ref o0, .ref p0x, .int w0, .int fx0, .int sk, .int sz, .int lk0]))] s0.heap := hP
  have hD : va_D A0 [(h, .inr (7, [.ref da, .ref co, .ref aa, .ref nr, .ref fi, .ref o0, .ref p0x, .int w0, .int fx0, .int sk, .int sz, .int lk0]))] := hD
  refine lv_aload_n hx hb dX7_begin_0 rfl (lv_at hl 0 rfl) ?_
  refine lv_aload_n hx hb dX7_begin_1 rfl (lv_at hl 1 rfl) ?_
  refine va_put (D := D) (ci := 7) (v := .ref ou) (ty := .object "CodedDeltas$Row") (C := RX7) (T := TX7) (N := 12) hx hb hts in_X7 tyX7 tyX7_ok nmX7 hown hK hP hD hS 0 rfl rfl 5 (by decide) (hts _ kX7_40) (fun _ h9 => h9) rfl (by decide +kernel) rfl rfl (Nat.le_of_ble_eq_true rfl) dX7_begin_2 (fun H locs hP hD hS => ?_)
  have hP : va_P D vwCl [(h, .inr (7, [.ref da, .ref co, .ref aa, .ref nr, .ref fi, .ref ou, .ref p0x, .int w0, .int fx0, .int sk, .int sz, .int lk0]))] H := hP
  have hD : va_D A0 [(h, .inr (7, [.ref da, .ref co, .ref aa, .ref nr, .ref fi, .ref ou, .ref p0x, .int w0, .int fx0, .int sk, .int sz, .int lk0]))] := hD
  refine lv_aload_n hx hb dX7_begin_5 rfl (lv_at hl 0 rfl) ?_
  refine lv_aload_n hx hb dX7_begin_6 rfl (lv_at hl 2 rfl) ?_
  refine va_put (D := D) (ci := 7) (v := .ref sp) (ty := .object "CodedDeltas$Steps") (C := RX7) (T := TX7) (N := 12) hx hb hts in_X7 tyX7 tyX7_ok nmX7 hown hK hP hD hS 0 rfl rfl 6 (by decide) (hts _ kX7_46) (fun _ h9 => h9) rfl (by decide +kernel) rfl rfl (Nat.le_of_ble_eq_true rfl) dX7_begin_7 (fun H locs hP hD hS => ?_)
  have hP : va_P D vwCl [(h, .inr (7, [.ref da, .ref co, .ref aa, .ref nr, .ref fi, .ref ou, .ref sp, .int w0, .int fx0, .int sk, .int sz, .int lk0]))] H := hP
  have hD : va_D A0 [(h, .inr (7, [.ref da, .ref co, .ref aa, .ref nr, .ref fi, .ref ou, .ref sp, .int w0, .int fx0, .int sk, .int sz, .int lk0]))] := hD
  refine lv_aload_n hx hb dX7_begin_10 rfl (lv_at hl 0 rfl) ?_
  refine lv_iconst (v := 0) hx hb dX7_begin_11 (by decide) ?_
  refine ri (y := nI 0) (nI_0.symm) ?_
  refine va_put (D := D) (ci := 7) (v := .int (nI 0)) (ty := .int) (C := RX7) (T := TX7) (N := 12) hx hb hts in_X7 tyX7 tyX7_ok nmX7 hown hK hP hD hS 0 rfl rfl 7 (by decide) (hts _ kX7_50) (fun _ h9 => h9) rfl (by decide +kernel) rfl rfl (Nat.le_of_ble_eq_true rfl) dX7_begin_12 (fun H locs hP hD hS => ?_)
  have hP : va_P D vwCl [(h, .inr (7, [.ref da, .ref co, .ref aa, .ref nr, .ref fi, .ref ou, .ref sp, .int (nI 0), .int fx0, .int sk, .int sz, .int lk0]))] H := hP
  have hD : va_D A0 [(h, .inr (7, [.ref da, .ref co, .ref aa, .ref nr, .ref fi, .ref ou, .ref sp, .int (nI 0), .int fx0, .int sk, .int sz, .int lk0]))] := hD
  refine lv_aload_n hx hb dX7_begin_15 rfl (lv_at hl 0 rfl) ?_
  refine lv_iconst (v := 0) hx hb dX7_begin_16 (by decide) ?_
  refine va_put (D := D) (ci := 7) (v := .int 0) (ty := .boolean) (C := RX7) (T := TX7) (N := 12) hx hb hts in_X7 tyX7 tyX7_ok nmX7 hown hK hP hD hS 0 rfl rfl 11 (by decide) (hts _ kX7_54) (fun _ h9 => h9) rfl (by decide +kernel) rfl rfl (Nat.le_of_ble_eq_true rfl) dX7_begin_17 (fun H locs hP hD hS => ?_)
  have hP : va_P D vwCl [(h, .inr (7, [.ref da, .ref co, .ref aa, .ref nr, .ref fi, .ref ou, .ref sp, .int (nI 0), .int fx0, .int sk, .int sz, .int 0]))] H := hP
  have hD : va_D A0 [(h, .inr (7, [.ref da, .ref co, .ref aa, .ref nr, .ref fi, .ref ou, .ref sp, .int (nI 0), .int fx0, .int sk, .int sz, .int 0]))] := hD
  exact hret 20 ls _ _ () dX7_begin_20 hP hD hS (trivial)

set_option maxHeartbeats 4000000 in
set_option maxRecDepth 100000 in
theorem c_Writer_putAdd (l : Launch) (D : va_G) (cI cB cJ cR : ClassId) (h : Nat) (da : Nat) (co : Nat) (aa : Nat) (nr : Nat) (fi : Nat) (ou : Nat) (sp : Nat) (wi : Nat) (f0 : Nat) (sk : Int32) (sz : Nat) (lk : Int32) (dq : Nat) (n1 : Nat) (f1 : Nat → Int32) (v1 : Int32) (D1 : List Int32) (sc : Nat) (lim : Nat) (cnt : Nat) (g : Nat → Nat → Int32) (tf : Nat → Int32) (rh : Nat) (ro : Nat) (RN : Nat) (rn : Nat) (rf : Nat → Int32) (rv : Int32) (a : Nat) (b : Nat) (hr1 : rowIs 4000 D1 n1 f1 v1) (hlm : lim < 2 ^ 24) (hcn : cnt < 2 ^ 29) (hst : stepsIs lim g cnt tf) (hRN : RN < 2 ^ 24) (hrn : rn ≤ RN) (hbr : b ≤ rn) (ha : a ≤ rn) : CMv l yX7_putAdd cX7_putAdd 5 none ({ frames := 1, cells := 0, slots := 0, locals := 27 }) D (tyA cI cB cJ cR) 0 0 [.ref h, .ref rh, .int (nI a), .int (nI b)] [(h, .inr (7, [.ref da, .ref co, .ref aa, .ref nr, .ref fi, .ref ou, .ref sp, .int (nI wi), .int (nI f0), .int sk, .int (nI sz), .int lk])), (da, .inr (4, [.ref dq, .int (nI n1), .int v1])), (dq, .inl (cI, 4000, .inl f1)), (sp, .inr (5, [.int (nI lim), .ref sc, .int (nI cnt)])), (sc, .inl (cI, (lim * 6), .inl tf)), (rh, .inr (4, [.ref ro, .int (nI rn), .int rv])), (ro, .inl (cI, RN, .inl rf))] (fun (u9 : Nat × (Nat → Int32) × Int32 × Nat × (Nat → Int32)) => match u9 with | (n4, f4, v4, cnt2, tf2) => rowIs 4000 (D1 ++ rgL rf a (b - a)) n4 f4 v4 ∧ cnt2 = (if a < b then cnt + 1 else cnt) ∧ stepsIs lim (if a < b then va_up g cnt (st6 (nI 1) (nI (b - a)) (nI 0) (nI 0) 0 (nI wi)) else g) cnt2 tf2) (fun (u9 : Nat × (Nat → Int32) × Int32 × Nat × (Nat → Int32)) => match u9 with | (n4, f4, v4, cnt2, tf2) => [(h, .inr (7, [.ref da, .ref co, .ref aa, .ref nr, .ref fi, .ref ou, .ref sp, .int (nI wi), .int (nI f0), .int sk, .int (nI sz), .int lk])), (da, .inr (4, [.ref dq, .int (nI n4), .int v4])), (dq, .inl (cI, 4000, .inl f4)), (sp, .inr (5, [.int (nI lim), .ref sc, .int (nI cnt2)])), (sc, .inl (cI, (lim * 6), .inl tf2)), (rh, .inr (4, [.ref ro, .int (nI rn), .int rv])), (ro, .inl (cI, RN, .inl rf))]) := by
  refine st_v (cc := cX7_putAdd) (maxL := 5) (by decide) (Nat.le_of_ble_eq_true rfl) ?_
  intro p0 e0 s0 m0 below meth c0 A0 Q0 hBD hret hP hD hS ls hl
  obtain ⟨hx, hb, hml, hown, hts, hnm, hK, hNw, hMk, hA⟩ := hBD
  have hl : lv_has ls 5 [(0, .ref h), (1, .ref rh), (2, .int (nI a)), (3, .int (nI b))] := hl
  have hP : va_P D vwCl [(h, .inr (7, [.ref da, .ref co, .ref aa, .ref nr, .ref fi, .ref ou, .ref sp, .int (nI wi), .int (nI f0), .int sk, .int (nI sz), .int lk])), (da, .inr (4, [.ref dq, .int (nI n1), .int v1])), (dq, .inl (cI, 4000, .inl f1)), (sp, .inr (5, [.int (nI lim), .ref sc, .int (nI cnt)])), (sc, .inl (cI, (lim * 6), .inl tf)), (rh, .inr (4, [.ref ro, .int (nI rn), .int rv])), (ro, .inl (cI, RN, .inl rf))] s0.heap := hP
  have hD : va_D A0 [(h, .inr (7, [.ref da, .ref co, .ref aa, .ref nr, .ref fi, .ref ou, .ref sp, .int (nI wi), .int (nI f0), .int sk, .int (nI sz), .int lk])), (da, .inr (4, [.ref dq, .int (nI n1), .int v1])), (dq, .inl (cI, 4000, .inl f1)), (sp, .inr (5, [.int (nI lim), .ref sc, .int (nI cnt)])), (sc, .inl (cI, (lim * 6), .inl tf)), (rh, .inr (4, [.ref ro, .int (nI rn), .int rv])), (ro, .inl (cI, RN, .inl rf))] := hD
  refine lv_iload_n hx hb dX7_putAdd_0 rfl (lv_at hl 2 rfl) ?_
  refine lv_iload_n hx hb dX7_putAdd_1 rfl (lv_at hl 3 rfl) ?_
  refine lv_icmp_lt (tgt := 6) hx hb dX7_putAdd_2 (by decide) (fun c_1 => ?_) (fun c_1 => ?_)
  · have hab : a < b := (nI_ltI (by omega) (by omega)).mp c_1
    refine lv_iload_n hx hb dX7_putAdd_6 rfl (lv_at hl 2 rfl) ?_
    refine lv_istore (lv' := [(4, .int (nI a)), (0, .ref h), (1, .ref rh), (2, .int (nI a)), (3, .int (nI b))]) hx hb dX7_putAdd_7 hl (by decide) rfl (fun ls hl => ?_)
    have loop : ∀ (k9 : Nat) (i : Nat) (n4 : Nat) (f4 : Nat → Int32) (v4 : Int32) (H : Heap) (locs : List Loc) (ls : Array Slot), b - a - i < k9 → (i ≤ b - a) → (rowIs 4000 (D1 ++ rgL rf a i) n4 f4 v4) → va_P D vwCl [(h, .inr (7, [.ref da, .ref co, .ref aa, .ref nr, .ref fi, .ref ou, .ref sp, .int (nI wi), .int (nI f0), .int sk, .int (nI sz), .int lk])), (da, .inr (4, [.ref dq, .int (nI n4), .int v4])), (dq, .inl (cI, 4000, .inl f4)), (sp, .inr (5, [.int (nI lim), .ref sc, .int (nI cnt)])), (sc, .inl (cI, (lim * 6), .inl tf)), (rh, .inr (4, [.ref ro, .int (nI rn), .int rv])), (ro, .inl (cI, RN, .inl rf))] H → va_D A0 [(h, .inr (7, [.ref da, .ref co, .ref aa, .ref nr, .ref fi, .ref ou, .ref sp, .int (nI wi), .int (nI f0), .int sk, .int (nI sz), .int lk])), (da, .inr (4, [.ref dq, .int (nI n4), .int v4])), (dq, .inl (cI, 4000, .inl f4)), (sp, .inr (5, [.int (nI lim), .ref sc, .int (nI cnt)])), (sc, .inl (cI, (lim * 6), .inl tf)), (rh, .inr (4, [.ref ro, .int (nI rn), .int rv])), (ro, .inl (cI, RN, .inl rf))] → va_S A0 s0.heap H locs → lv_has ls 5 [(0, .ref h), (1, .ref rh), (2, .int (nI a)), (3, .int (nI b)), (4, .int (nI (a + i)))] → W p0 l e0 ({ frames := 1, cells := 0, slots := 0, locals := 27 }) s0 m0 ([.ref h, .ref rh, .int (nI a), .int (nI b)] : List Value).toArray below meth c0 H locs 0 0 Q0 (F0 m0 9 ls []) := by
      intro k9
      induction k9 with
      | zero => intro i n4 f4 v4 H locs ls hk9; exact absurd hk9 (Nat.not_lt_zero _)
      | succ k9 ih =>
        intro i n4 f4 v4 H locs ls hk9 hi hr4 hP hD hS hl
        refine lv_iload hx hb dX7_putAdd_9 (lv_at hl 4 rfl) ?_
        refine lv_iload_n hx hb dX7_putAdd_11 rfl (lv_at hl 3 rfl) ?_
        refine lv_icmp_ge (tgt := 34) hx hb dX7_putAdd_12 (by decide) (fun c_2 => ?_) (fun c_2 => ?_)
        · have hi9 : i = b - a := by have := (nI_leI (by omega) (by omega)).mp c_2; omega
          refine lv_aload_n hx hb dX7_putAdd_34 rfl (lv_at hl 0 rfl) ?_
          refine va_get (D := D) (ci := 7) (v := .ref sp) (C := RX7) (T := TX7) (N := 12) hx hb hts in_X7 hown hK hP 0 rfl rfl 6 (by decide) (hts _ kX7_46) (fun _ h9 => h9) rfl dX7_putAdd_35 ?_
          refine lv_iconst (v := 1) hx hb dX7_putAdd_38 (by decide) ?_
          refine lv_iload_n hx hb dX7_putAdd_39 rfl (lv_at hl 3 rfl) ?_
          refine lv_iload_n hx hb dX7_putAdd_40 rfl (lv_at hl 2 rfl) ?_
          refine lv_isub hx hb dX7_putAdd_41 ?_
          refine ri (y := nI (b - a)) (pk_sub (by omega)) ?_
          refine lv_iconst (v := 0) hx hb dX7_putAdd_42 (by decide) ?_
          refine lv_iconst (v := 0) hx hb dX7_putAdd_43 (by decide) ?_
          refine lv_iconst (v := 0) hx hb dX7_putAdd_44 (by decide) ?_
          refine lv_aload_n hx hb dX7_putAdd_45 rfl (lv_at hl 0 rfl) ?_
          refine va_get (D := D) (ci := 7) (v := .int (nI wi)) (C := RX7) (T := TX7) (N := 12) hx hb hts in_X7 hown hK hP 0 rfl rfl 7 (by decide) (hts _ kX7_50) (fun _ h9 => h9) rfl dX7_putAdd_46 ?_
          refine jn_v (wr := [(h, .inr (7, [.ref da, .ref co, .ref aa, .ref nr, .ref fi, .ref ou, .ref sp, .int (nI wi), .int (nI f0), .int sk, .int (nI sz), .int lk])), (da, .inr (4, [.ref dq, .int (nI n4), .int v4])), (dq, .inl (cI, 4000, .inl f4)), (rh, .inr (4, [.ref ro, .int (nI rn), .int rv])), (ro, .inl (cI, RN, .inl rf))]) hA hP hD hS [3, 4] [0, 1, 2, 5, 6] rfl rfl (by decide) (by decide) (rn_V (As := [.int 1, .int (nI (b - a)), .int 0, .int 0, .int 0, .int (nI wi)]) (rest := []) ⟨hx, hb, hml, hown, hts⟩ (cvV 6 hts zc_yX5_put zi_X5 zm_yX5_put zv_yX5_put kX7_139 (by decide +kernel) rfl rfl ⟨Nat.le_of_ble_eq_true rfl, Nat.le_of_ble_eq_true rfl⟩) (c_Steps_put l D cI cB cJ cR sp sc lim cnt g tf 1 (nI (b - a)) 0 0 0 (nI wi) (hlm) (by omega) (hst) H.size) hK hNw hMk hA hP hD hS [3, 4] rfl rfl (by decide) 0 rfl rfl rfl rfl hl.1 rfl (Nat.le_of_ble_eq_true rfl) dX7_putAdd_49 ⟨Nat.le_of_ble_eq_true rfl, Nat.le_of_ble_eq_true rfl⟩) (fun u9 H locs w_5 hP hD hS => ?_)
          obtain ⟨f2_3, rfl⟩ : ∃ z9, z9 = u9 := ⟨_, rfl⟩
          try dsimp only at w_5
          have hP : va_P D vwCl [(h, .inr (7, [.ref da, .ref co, .ref aa, .ref nr, .ref fi, .ref ou, .ref sp, .int (nI wi), .int (nI f0), .int sk, .int (nI sz), .int lk])), (da, .inr (4, [.ref dq, .int (nI n4), .int v4])), (dq, .inl (cI, 4000, .inl f4)), (rh, .inr (4, [.ref ro, .int (nI rn), .int rv])), (ro, .inl (cI, RN, .inl rf)), (sp, .inr (5, [.int (nI lim), .ref sc, .int (nI (cnt + 1))])), (sc, .inl (cI, (lim * 6), .inl f2_3))] H := hP
          have hD : va_D A0 [(h, .inr (7, [.ref da, .ref co, .ref aa, .ref nr, .ref fi, .ref ou, .ref sp, .int (nI wi), .int (nI f0), .int sk, .int (nI sz), .int lk])), (da, .inr (4, [.ref dq, .int (nI n4), .int v4])), (dq, .inl (cI, 4000, .inl f4)), (rh, .inr (4, [.ref ro, .int (nI rn), .int rv])), (ro, .inl (cI, RN, .inl rf)), (sp, .inr (5, [.int (nI lim), .ref sc, .int (nI (cnt + 1))])), (sc, .inl (cI, (lim * 6), .inl f2_3))] := hD
          have hP := hP.sub (ws' := [(h, .inr (7, [.ref da, .ref co, .ref aa, .ref nr, .ref fi, .ref ou, .ref sp, .int (nI wi), .int (nI f0), .int sk, .int (nI sz), .int lk])), (da, .inr (4, [.ref dq, .int (nI n4), .int v4])), (dq, .inl (cI, 4000, .inl f4)), (sp, .inr (5, [.int (nI lim), .ref sc, .int (nI (cnt + 1))])), (sc, .inl (cI, (lim * 6), .inl f2_3)), (rh, .inr (4, [.ref ro, .int (nI rn), .int rv])), (ro, .inl (cI, RN, .inl rf))]) [0, 1, 2, 5, 6, 3, 4] rfl
          have hD := hD.sub (ws' := [(h, .inr (7, [.ref da, .ref co, .ref aa, .ref nr, .ref fi, .ref ou, .ref sp, .int (nI wi), .int (nI f0), .int sk, .int (nI sz), .int lk])), (da, .inr (4, [.ref dq, .int (nI n4), .int v4])), (dq, .inl (cI, 4000, .inl f4)), (sp, .inr (5, [.int (nI lim), .ref sc, .int (nI (cnt + 1))])), (sc, .inl (cI, (lim * 6), .inl f2_3)), (rh, .inr (4, [.ref ro, .int (nI rn), .int rv])), (ro, .inl (cI, RN, .inl rf))]) [0, 1, 2, 5, 6, 3, 4] (by decide) rfl
          exact hret 52 ls _ _ (n4, f4, v4, cnt + 1, f2_3) dX7_putAdd_52 hP hD hS (⟨by rw [← hi9]; exact hr4, by rw [if_pos hab], by rw [if_pos hab]; exact w_5⟩)
        · have hi9 : i < b - a := by have := Nat.not_le.mp (fun q => c_2 (nI_le q (by omega))); omega
          refine lv_aload_n hx hb dX7_putAdd_15 rfl (lv_at hl 0 rfl) ?_
          refine va_get (D := D) (ci := 7) (v := .ref da) (C := RX7) (T := TX7) (N := 12) hx hb hts in_X7 hown hK hP 0 rfl rfl 0 (by decide) (hts _ kX7_14) (fun _ h9 => h9) rfl dX7_putAdd_16 ?_
          refine lv_aload_n hx hb dX7_putAdd_19 rfl (lv_at hl 1 rfl) ?_
          refine lv_iload hx hb dX7_putAdd_20 (lv_at hl 4 rfl) ?_
          refine jn_i (wr := [(h, .inr (7, [.ref da, .ref co, .ref aa, .ref nr, .ref fi, .ref ou, .ref sp, .int (nI wi), .int (nI f0), .int sk, .int (nI sz), .int lk])), (da, .inr (4, [.ref dq, .int (nI n4), .int v4])), (dq, .inl (cI, 4000, .inl f4)), (sp, .inr (5, [.int (nI lim), .ref sc, .int (nI cnt)])), (sc, .inl (cI, (lim * 6), .inl tf))]) hA hP hD hS [5, 6] [0, 1, 2, 3, 4] rfl rfl (by decide) (by decide) (rn_V (As := [.int (nI (a + i))]) (rest := [.ref da]) ⟨hx, hb, hml, hown, hts⟩ (cvV 1 hts zc_yX4_at zi_X4 zm_yX4_at zv_yX4_at kX7_129 (by decide +kernel) rfl rfl ⟨Nat.le_of_ble_eq_true rfl, Nat.le_of_ble_eq_true rfl⟩) (c_Row_at l D cI cB cJ cR rh ro RN rn rf rv (nI (a + i)) (by omega) (hrn) H.size) hK hNw hMk hA hP hD hS [5, 6] rfl rfl (by decide) 0 rfl rfl rfl rfl hl.1 rfl (Nat.le_of_ble_eq_true rfl) dX7_putAdd_22 ⟨Nat.le_of_ble_eq_true rfl, Nat.le_of_ble_eq_true rfl⟩) (fun va u9 H locs hva hP hD hS => ?_)
          try dsimp only at hva
          have hP : va_P D vwCl [(h, .inr (7, [.ref da, .ref co, .ref aa, .ref nr, .ref fi, .ref ou, .ref sp, .int (nI wi), .int (nI f0), .int sk, .int (nI sz), .int lk])), (da, .inr (4, [.ref dq, .int (nI n4), .int v4])), (dq, .inl (cI, 4000, .inl f4)), (sp, .inr (5, [.int (nI lim), .ref sc, .int (nI cnt)])), (sc, .inl (cI, (lim * 6), .inl tf)), (rh, .inr (4, [.ref ro, .int (nI rn), .int rv])), (ro, .inl (cI, RN, .inl rf))] H := hP
          have hD : va_D A0 [(h, .inr (7, [.ref da, .ref co, .ref aa, .ref nr, .ref fi, .ref ou, .ref sp, .int (nI wi), .int (nI f0), .int sk, .int (nI sz), .int lk])), (da, .inr (4, [.ref dq, .int (nI n4), .int v4])), (dq, .inl (cI, 4000, .inl f4)), (sp, .inr (5, [.int (nI lim), .ref sc, .int (nI cnt)])), (sc, .inl (cI, (lim * 6), .inl tf)), (rh, .inr (4, [.ref ro, .int (nI rn), .int rv])), (ro, .inl (cI, RN, .inl rf))] := hD
          rw [if_pos (inB_t (by omega) (by omega)), nI_clamp (by omega)] at hva
          subst hva
          refine jn_v (wr := [(h, .inr (7, [.ref da, .ref co, .ref aa, .ref nr, .ref fi, .ref ou, .ref sp, .int (nI wi), .int (nI f0), .int sk, .int (nI sz), .int lk])), (sp, .inr (5, [.int (nI lim), .ref sc, .int (nI cnt)])), (sc, .inl (cI, (lim * 6), .inl tf)), (rh, .inr (4, [.ref ro, .int (nI rn), .int rv])), (ro, .inl (cI, RN, .inl rf))]) hA hP hD hS [1, 2] [0, 3, 4, 5, 6] rfl rfl (by decide) (by decide) (rn_V (As := [.int (rf (a + i))]) (rest := []) ⟨hx, hb, hml, hown, hts⟩ (cvV 1 hts zc_yX4_put zi_X4 zm_yX4_put zv_yX4_put kX7_136 (by decide +kernel) rfl rfl ⟨Nat.le_of_ble_eq_true rfl, Nat.le_of_ble_eq_true rfl⟩) (c_Row_put l D cI cB cJ cR da dq 4000 n4 f4 v4 (D1 ++ rgL rf a i) (rf (a + i)) (by decide) (hr4) H.size) hK hNw hMk hA hP hD hS [1, 2] rfl rfl (by decide) 0 rfl rfl rfl rfl hl.1 rfl (Nat.le_of_ble_eq_true rfl) dX7_putAdd_25 ⟨Nat.le_of_ble_eq_true rfl, Nat.le_of_ble_eq_true rfl⟩) (fun u9 H locs w_10 hP hD hS => ?_)
          obtain ⟨n2_6, f2_7, ov2_8⟩ := u9
          try dsimp only at w_10
          have hP : va_P D vwCl [(h, .inr (7, [.ref da, .ref co, .ref aa, .ref nr, .ref fi, .ref ou, .ref sp, .int (nI wi), .int (nI f0), .int sk, .int (nI sz), .int lk])), (sp, .inr (5, [.int (nI lim), .ref sc, .int (nI cnt)])), (sc, .inl (cI, (lim * 6), .inl tf)), (rh, .inr (4, [.ref ro, .int (nI rn), .int rv])), (ro, .inl (cI, RN, .inl rf)), (da, .inr (4, [.ref dq, .int (nI n2_6), .int ov2_8])), (dq, .inl (cI, 4000, .inl f2_7))] H := hP
          have hD : va_D A0 [(h, .inr (7, [.ref da, .ref co, .ref aa, .ref nr, .ref fi, .ref ou, .ref sp, .int (nI wi), .int (nI f0), .int sk, .int (nI sz), .int lk])), (sp, .inr (5, [.int (nI lim), .ref sc, .int (nI cnt)])), (sc, .inl (cI, (lim * 6), .inl tf)), (rh, .inr (4, [.ref ro, .int (nI rn), .int rv])), (ro, .inl (cI, RN, .inl rf)), (da, .inr (4, [.ref dq, .int (nI n2_6), .int ov2_8])), (dq, .inl (cI, 4000, .inl f2_7))] := hD
          rw [List.append_assoc] at w_10
          refine lv_iinc (v := nI ((a + i) + 1)) (lv' := [(4, .int (nI ((a + i) + 1))), (0, .ref h), (1, .ref rh), (2, .int (nI a)), (3, .int (nI b))]) hx hb dX7_putAdd_28 hl (k := 4) rfl (nI_add (a + i) 1) (by decide) rfl (fun ls hl => ?_)
          refine lv_goto (tgt := 9) hx hb dX7_putAdd_31 (by decide) ?_
          exact ih (i + 1) n2_6 f2_7 ov2_8 _ _ ls (by omega) (by omega) (w_10) (hP.sub [0, 5, 6, 1, 2, 3, 4] rfl) (hD.sub [0, 5, 6, 1, 2, 3, 4] (by decide) rfl) hS (lv_sub hl [1, 2, 3, 4, 0] rfl)
    exact loop _ 0 n1 f1 v1 _ _ ls (Nat.lt_succ_self _) (Nat.zero_le _) (by rw [rgL, List.append_nil]; exact hr1) hP hD hS (lv_sub hl [1, 2, 3, 4, 0] rfl)
  · have hab : ¬ a < b := fun z => c_1 (nI_lt z (by omega))
    exact hret 5 ls _ _ (n1, f1, v1, cnt, tf) dX7_putAdd_5 hP hD hS (⟨by rw [show b - a = 0 by omega, rgL, List.append_nil]; exact hr1, by rw [if_neg hab], by rw [if_neg hab]; exact hst⟩)

set_option maxHeartbeats 4000000 in
set_option maxRecDepth 100000 in
theorem c_Writer_putRun (l : Launch) (D : va_G) (cI cB cJ cR : ClassId) (h : Nat) (da : Nat) (co : Nat) (aa : Nat) (nr : Nat) (fi : Nat) (ou : Nat) (sp : Nat) (wi : Nat) (f0 : Nat) (sk : Int32) (sz : Nat) (lk : Int32) (dq : Nat) (n1 : Nat) (f1 : Nat → Int32) (v1 : Int32) (D1 : List Int32) (sc : Nat) (lim : Nat) (cnt : Nat) (g : Nat → Nat → Int32) (tf : Nat → Int32) (v : Int32) (z : Nat) (hr1 : rowIs 4000 D1 n1 f1 v1) (hlm : lim < 2 ^ 24) (hcn : cnt < 2 ^ 29) (hst : stepsIs lim g cnt tf) : CMv l yX7_putRun cX7_putRun 3 none ({ frames := 1, cells := 0, slots := 0, locals := 27 }) D (tyA cI cB cJ cR) 0 0 [.ref h, .int v, .int (nI z)] [(h, .inr (7, [.ref da, .ref co, .ref aa, .ref nr, .ref fi, .ref ou, .ref sp, .int (nI wi), .int (nI f0), .int sk, .int (nI sz), .int lk])), (da, .inr (4, [.ref dq, .int (nI n1), .int v1])), (dq, .inl (cI, 4000, .inl f1)), (sp, .inr (5, [.int (nI lim), .ref sc, .int (nI cnt)])), (sc, .inl (cI, (lim * 6), .inl tf))] (fun (u9 : Nat × (Nat → Int32) × Int32 × (Nat → Int32)) => match u9 with | (n4, f4, v4, tf2) => rowIs 4000 (D1 ++ [v]) n4 f4 v4 ∧ stepsIs lim (va_up g cnt (st6 (nI 2) (nI z) (nI 0) (nI 0) 0 (nI wi))) (cnt + 1) tf2) (fun (u9 : Nat × (Nat → Int32) × Int32 × (Nat → Int32)) => match u9 with | (n4, f4, v4, tf2) => [(h, .inr (7, [.ref da, .ref co, .ref aa, .ref nr, .ref fi, .ref ou, .ref sp, .int (nI wi), .int (nI f0), .int sk, .int (nI sz), .int lk])), (da, .inr (4, [.ref dq, .int (nI n4), .int v4])), (dq, .inl (cI, 4000, .inl f4)), (sp, .inr (5, [.int (nI lim), .ref sc, .int (nI (cnt + 1))])), (sc, .inl (cI, (lim * 6), .inl tf2))]) := by
  refine st_v (cc := cX7_putRun) (maxL := 3) (by decide) (Nat.le_of_ble_eq_true rfl) ?_
  intro p0 e0 s0 m0 below meth c0 A0 Q0 hBD hret hP hD hS ls hl
  obtain ⟨hx, hb, hml, hown, hts, hnm, hK, hNw, hMk, hA⟩ := hBD
  have hl : lv_has ls 3 [(0, .ref h), (1, .int v), (2, .int (nI z))] := hl
  have hP : va_P D vwCl [(h, .inr (7, [.ref da, .ref co, .ref aa, .ref nr, .ref fi, .ref ou, .ref sp, .int (nI wi), .int (nI f0), .int sk, .int (nI sz), .int lk])), (da, .inr (4, [.ref dq, .int (nI n1), .int v1])), (dq, .inl (cI, 4000, .inl f1)), (sp, .inr (5, [.int (nI lim), .ref sc, .int (nI cnt)])), (sc, .inl (cI, (lim * 6), .inl tf))] s0.heap := hP
  have hD : va_D A0 [(h, .inr (7, [.ref da, .ref co, .ref aa, .ref nr, .ref fi, .ref ou, .ref sp, .int (nI wi), .int (nI f0), .int sk, .int (nI sz), .int lk])), (da, .inr (4, [.ref dq, .int (nI n1), .int v1])), (dq, .inl (cI, 4000, .inl f1)), (sp, .inr (5, [.int (nI lim), .ref sc, .int (nI cnt)])), (sc, .inl (cI, (lim * 6), .inl tf))] := hD
  refine lv_aload_n hx hb dX7_putRun_0 rfl (lv_at hl 0 rfl) ?_
  refine va_get (D := D) (ci := 7) (v := .ref da) (C := RX7) (T := TX7) (N := 12) hx hb hts in_X7 hown hK hP 0 rfl rfl 0 (by decide) (hts _ kX7_14) (fun _ h9 => h9) rfl dX7_putRun_1 ?_
  refine lv_iload_n hx hb dX7_putRun_4 rfl (lv_at hl 1 rfl) ?_
  refine jn_v (wr := [(h, .inr (7, [.ref da, .ref co, .ref aa, .ref nr, .ref fi, .ref ou, .ref sp, .int (nI wi), .int (nI f0), .int sk, .int (nI sz), .int lk])), (sp, .inr (5, [.int (nI lim), .ref sc, .int (nI cnt)])), (sc, .inl (cI, (lim * 6), .inl tf))]) hA hP hD hS [1, 2] [0, 3, 4] rfl rfl (by decide) (by decide) (rn_V (As := [.int v]) (rest := []) ⟨hx, hb, hml, hown, hts⟩ (cvV 1 hts zc_yX4_put zi_X4 zm_yX4_put zv_yX4_put kX7_136 (by decide +kernel) rfl rfl ⟨Nat.le_of_ble_eq_true rfl, Nat.le_of_ble_eq_true rfl⟩) (c_Row_put l D cI cB cJ cR da dq 4000 n1 f1 v1 D1 v (by decide) (hr1) s0.heap.size) hK hNw hMk hA hP hD hS [1, 2] rfl rfl (by decide) 0 rfl rfl rfl rfl hl.1 rfl (Nat.le_of_ble_eq_true rfl) dX7_putRun_5 ⟨Nat.le_of_ble_eq_true rfl, Nat.le_of_ble_eq_true rfl⟩) (fun u9 H locs w_5 hP hD hS => ?_)
  obtain ⟨n2_1, f2_2, ov2_3⟩ := u9
  try dsimp only at w_5
  have hP : va_P D vwCl [(h, .inr (7, [.ref da, .ref co, .ref aa, .ref nr, .ref fi, .ref ou, .ref sp, .int (nI wi), .int (nI f0), .int sk, .int (nI sz), .int lk])), (sp, .inr (5, [.int (nI lim), .ref sc, .int (nI cnt)])), (sc, .inl (cI, (lim * 6), .inl tf)), (da, .inr (4, [.ref dq, .int (nI n2_1), .int ov2_3])), (dq, .inl (cI, 4000, .inl f2_2))] H := hP
  have hD : va_D A0 [(h, .inr (7, [.ref da, .ref co, .ref aa, .ref nr, .ref fi, .ref ou, .ref sp, .int (nI wi), .int (nI f0), .int sk, .int (nI sz), .int lk])), (sp, .inr (5, [.int (nI lim), .ref sc, .int (nI cnt)])), (sc, .inl (cI, (lim * 6), .inl tf)), (da, .inr (4, [.ref dq, .int (nI n2_1), .int ov2_3])), (dq, .inl (cI, 4000, .inl f2_2))] := hD
  refine lv_aload_n hx hb dX7_putRun_8 rfl (lv_at hl 0 rfl) ?_
  refine va_get (D := D) (ci := 7) (v := .ref sp) (C := RX7) (T := TX7) (N := 12) hx hb hts in_X7 hown hK hP 0 rfl rfl 6 (by decide) (hts _ kX7_46) (fun _ h9 => h9) rfl dX7_putRun_9 ?_
  refine lv_iconst (v := 2) hx hb dX7_putRun_12 (by decide) ?_
  refine lv_iload_n hx hb dX7_putRun_13 rfl (lv_at hl 2 rfl) ?_
  refine lv_iconst (v := 0) hx hb dX7_putRun_14 (by decide) ?_
  refine lv_iconst (v := 0) hx hb dX7_putRun_15 (by decide) ?_
  refine lv_iconst (v := 0) hx hb dX7_putRun_16 (by decide) ?_
  refine lv_aload_n hx hb dX7_putRun_17 rfl (lv_at hl 0 rfl) ?_
  refine va_get (D := D) (ci := 7) (v := .int (nI wi)) (C := RX7) (T := TX7) (N := 12) hx hb hts in_X7 hown hK hP 0 rfl rfl 7 (by decide) (hts _ kX7_50) (fun _ h9 => h9) rfl dX7_putRun_18 ?_
  refine jn_v (wr := [(h, .inr (7, [.ref da, .ref co, .ref aa, .ref nr, .ref fi, .ref ou, .ref sp, .int (nI wi), .int (nI f0), .int sk, .int (nI sz), .int lk])), (da, .inr (4, [.ref dq, .int (nI n2_1), .int ov2_3])), (dq, .inl (cI, 4000, .inl f2_2))]) hA hP hD hS [1, 2] [0, 3, 4] rfl rfl (by decide) (by decide) (rn_V (As := [.int 2, .int (nI z), .int 0, .int 0, .int 0, .int (nI wi)]) (rest := []) ⟨hx, hb, hml, hown, hts⟩ (cvV 6 hts zc_yX5_put zi_X5 zm_yX5_put zv_yX5_put kX7_139 (by decide +kernel) rfl rfl ⟨Nat.le_of_ble_eq_true rfl, Nat.le_of_ble_eq_true rfl⟩) (c_Steps_put l D cI cB cJ cR sp sc lim cnt g tf 2 (nI z) 0 0 0 (nI wi) (hlm) (by omega) (hst) H.size) hK hNw hMk hA hP hD hS [1, 2] rfl rfl (by decide) 0 rfl rfl rfl rfl hl.1 rfl (Nat.le_of_ble_eq_true rfl) dX7_putRun_21 ⟨Nat.le_of_ble_eq_true rfl, Nat.le_of_ble_eq_true rfl⟩) (fun u9 H locs w_8 hP hD hS => ?_)
  obtain ⟨f2_6, rfl⟩ : ∃ z9, z9 = u9 := ⟨_, rfl⟩
  try dsimp only at w_8
  have hP : va_P D vwCl [(h, .inr (7, [.ref da, .ref co, .ref aa, .ref nr, .ref fi, .ref ou, .ref sp, .int (nI wi), .int (nI f0), .int sk, .int (nI sz), .int lk])), (da, .inr (4, [.ref dq, .int (nI n2_1), .int ov2_3])), (dq, .inl (cI, 4000, .inl f2_2)), (sp, .inr (5, [.int (nI lim), .ref sc, .int (nI (cnt + 1))])), (sc, .inl (cI, (lim * 6), .inl f2_6))] H := hP
  have hD : va_D A0 [(h, .inr (7, [.ref da, .ref co, .ref aa, .ref nr, .ref fi, .ref ou, .ref sp, .int (nI wi), .int (nI f0), .int sk, .int (nI sz), .int lk])), (da, .inr (4, [.ref dq, .int (nI n2_1), .int ov2_3])), (dq, .inl (cI, 4000, .inl f2_2)), (sp, .inr (5, [.int (nI lim), .ref sc, .int (nI (cnt + 1))])), (sc, .inl (cI, (lim * 6), .inl f2_6))] := hD
  exact hret 24 ls _ _ (n2_1, f2_2, ov2_3, f2_6) dX7_putRun_24 hP hD hS (⟨w_5, w_8⟩)

set_option maxHeartbeats 4000000 in
set_option maxRecDepth 100000 in
theorem c_Writer_putCopy (l : Launch) (D : va_G) (cI cB cJ cR : ClassId) (h : Nat) (da : Nat) (co : Nat) (aa : Nat) (nr : Nat) (fi : Nat) (ou : Nat) (sp : Nat) (wi : Nat) (f0 : Nat) (sk : Int32) (sz : Nat) (lk : Int32) (aq : Nat) (n2 : Nat) (f2 : Nat → Int32) (v2 : Int32) (A1 : List Int32) (on : Nat) (os : Nat) (near : Nat) (same : Nat) (nx : Nat) (fn : Nat → Int32) (fs : Nat → Int32) (cN : Nat → Nat) (cS : Nat → Nat) (sc : Nat) (lim : Nat) (cnt : Nat) (g : Nat → Nat → Int32) (tf : Nat → Int32) (a : Nat) (z : Nat) (hr : Nat) (hr2 : rowIs 4000 A1 n2 f2 v2) (h8 : near ≤ 8) (h4 : same ≤ 4) (hnx : nx < 8 ∧ (0 < near → nx < near)) (hc : chIs fn fs cN cS) (hcN : ∀ j, j < 8 → cN j < 2 ^ 30) (hcS : ∀ j, j < 1024 → cS j < 2 ^ 30) (hlm : lim < 2 ^ 24) (hcn : cnt < 2 ^ 29) (hst : stepsIs lim g cnt tf) (hah : a < hr) (hhr : hr < 2 ^ 24) : CMv l yX7_putCopy cX7_putCopy 5 none ({ frames := 3, cells := 0, slots := 0, locals := 67 }) D (tyA cI cB cJ cR) 0 0 [.ref h, .int (nI a), .int (nI z), .int (nI hr)] [(h, .inr (7, [.ref da, .ref co, .ref aa, .ref nr, .ref fi, .ref ou, .ref sp, .int (nI wi), .int (nI f0), .int sk, .int (nI sz), .int lk])), (aa, .inr (4, [.ref aq, .int (nI n2), .int v2])), (aq, .inl (cI, 4000, .inl f2)), (nr, .inr (0, [.ref on, .ref os, .int (nI near), .int (nI same), .int (nI nx)])), (on, .inl (cI, 8, .inl fn)), (os, .inl (cI, 1024, .inl fs)), (sp, .inr (5, [.int (nI lim), .ref sc, .int (nI cnt)])), (sc, .inl (cI, (lim * 6), .inl tf))] (fun (u9 : Nat × (Nat → Int32) × Int32 × (Nat → Int32) × (Nat → Int32) × (Nat → Int32)) => match u9 with | (n4, f4, v4, fn2, fs2, tf2) => rowIs 4000 (A1 ++ adL near a hr (chMode near same a hr cN cS) cN) n4 f4 v4 ∧ chIs fn2 fs2 (kpN near nx a cN) (kpS same a cS) ∧ stepsIs lim (va_up g cnt (st6 (nI 3) (nI z) (nI a) (nI (chMode near same a hr cN cS)) 0 (nI wi))) (cnt + 1) tf2) (fun (u9 : Nat × (Nat → Int32) × Int32 × (Nat → Int32) × (Nat → Int32) × (Nat → Int32)) => match u9 with | (n4, f4, v4, fn2, fs2, tf2) => [(h, .inr (7, [.ref da, .ref co, .ref aa, .ref nr, .ref fi, .ref ou, .ref sp, .int (nI wi), .int (nI f0), .int sk, .int (nI sz), .int lk])), (aa, .inr (4, [.ref aq, .int (nI n4), .int v4])), (aq, .inl (cI, 4000, .inl f4)), (nr, .inr (0, [.ref on, .ref os, .int (nI near), .int (nI same), .int (nI (kpX near nx))])), (on, .inl (cI, 8, .inl fn2)), (os, .inl (cI, 1024, .inl fs2)), (sp, .inr (5, [.int (nI lim), .ref sc, .int (nI (cnt + 1))])), (sc, .inl (cI, (lim * 6), .inl tf2))]) := by
  refine st_v (cc := cX7_putCopy) (maxL := 5) (by decide) (Nat.le_of_ble_eq_true rfl) ?_
  intro p0 e0 s0 m0 below meth c0 A0 Q0 hBD hret hP hD hS ls hl
  obtain ⟨hx, hb, hml, hown, hts, hnm, hK, hNw, hMk, hA⟩ := hBD
  have hl : lv_has ls 5 [(0, .ref h), (1, .int (nI a)), (2, .int (nI z)), (3, .int (nI hr))] := hl
  have hP : va_P D vwCl [(h, .inr (7, [.ref da, .ref co, .ref aa, .ref nr, .ref fi, .ref ou, .ref sp, .int (nI wi), .int (nI f0), .int sk, .int (nI sz), .int lk])), (aa, .inr (4, [.ref aq, .int (nI n2), .int v2])), (aq, .inl (cI, 4000, .inl f2)), (nr, .inr (0, [.ref on, .ref os, .int (nI near), .int (nI same), .int (nI nx)])), (on, .inl (cI, 8, .inl fn)), (os, .inl (cI, 1024, .inl fs)), (sp, .inr (5, [.int (nI lim), .ref sc, .int (nI cnt)])), (sc, .inl (cI, (lim * 6), .inl tf))] s0.heap := hP
  have hD : va_D A0 [(h, .inr (7, [.ref da, .ref co, .ref aa, .ref nr, .ref fi, .ref ou, .ref sp, .int (nI wi), .int (nI f0), .int sk, .int (nI sz), .int lk])), (aa, .inr (4, [.ref aq, .int (nI n2), .int v2])), (aq, .inl (cI, 4000, .inl f2)), (nr, .inr (0, [.ref on, .ref os, .int (nI near), .int (nI same), .int (nI nx)])), (on, .inl (cI, 8, .inl fn)), (os, .inl (cI, 1024, .inl fs)), (sp, .inr (5, [.int (nI lim), .ref sc, .int (nI cnt)])), (sc, .inl (cI, (lim * 6), .inl tf))] := hD
  refine lv_aload_n hx hb dX7_putCopy_0 rfl (lv_at hl 0 rfl) ?_
  refine va_get (D := D) (ci := 7) (v := .ref nr) (C := RX7) (T := TX7) (N := 12) hx hb hts in_X7 hown hK hP 0 rfl rfl 3 (by decide) (hts _ kX7_29) (fun _ h9 => h9) rfl dX7_putCopy_1 ?_
  refine lv_iload_n hx hb dX7_putCopy_4 rfl (lv_at hl 1 rfl) ?_
  refine lv_iload_n hx hb dX7_putCopy_5 rfl (lv_at hl 3 rfl) ?_
  refine jn_i (wr := [(h, .inr (7, [.ref da, .ref co, .ref aa, .ref nr, .ref fi, .ref ou, .ref sp, .int (nI wi), .int (nI f0), .int sk, .int (nI sz), .int lk])), (aa, .inr (4, [.ref aq, .int (nI n2), .int v2])), (aq, .inl (cI, 4000, .inl f2)), (sp, .inr (5, [.int (nI lim), .ref sc, .int (nI cnt)])), (sc, .inl (cI, (lim * 6), .inl tf))]) hA hP hD hS [3, 4, 5] [0, 1, 2, 6, 7] rfl rfl (by decide) (by decide) (rn_V (As := [.int (nI a), .int (nI hr)]) (rest := []) ⟨hx, hb, hml, hown, hts⟩ (cvV 2 hts zc_yX0_cheapestMode zi_X0 zm_yX0_cheapestMode zv_yX0_cheapestMode kX7_142 (by decide +kernel) rfl rfl ⟨Nat.le_of_ble_eq_true rfl, Nat.le_of_ble_eq_true rfl⟩) (c_Caches_cheapestMode l D cI cB cJ cR nr on os near same nx fn fs cN cS a hr (h8) (h4) (hah) (by omega) (hcN) (fun j hj => by have := hcS j hj; omega) (hc) s0.heap.size) hK hNw hMk hA hP hD hS [3, 4, 5] rfl rfl (by decide) 0 rfl rfl rfl rfl hl.1 rfl (Nat.le_of_ble_eq_true rfl) dX7_putCopy_6 ⟨Nat.le_of_ble_eq_true rfl, Nat.le_of_ble_eq_true rfl⟩) (fun r_1 u9 H locs w_2 hP hD hS => ?_)
  try dsimp only at w_2
  have hP : va_P D vwCl [(h, .inr (7, [.ref da, .ref co, .ref aa, .ref nr, .ref fi, .ref ou, .ref sp, .int (nI wi), .int (nI f0), .int sk, .int (nI sz), .int lk])), (aa, .inr (4, [.ref aq, .int (nI n2), .int v2])), (aq, .inl (cI, 4000, .inl f2)), (sp, .inr (5, [.int (nI lim), .ref sc, .int (nI cnt)])), (sc, .inl (cI, (lim * 6), .inl tf)), (nr, .inr (0, [.ref on, .ref os, .int (nI near), .int (nI same), .int (nI nx)])), (on, .inl (cI, 8, .inl fn)), (os, .inl (cI, 1024, .inl fs))] H := hP
  have hD : va_D A0 [(h, .inr (7, [.ref da, .ref co, .ref aa, .ref nr, .ref fi, .ref ou, .ref sp, .int (nI wi), .int (nI f0), .int sk, .int (nI sz), .int lk])), (aa, .inr (4, [.ref aq, .int (nI n2), .int v2])), (aq, .inl (cI, 4000, .inl f2)), (sp, .inr (5, [.int (nI lim), .ref sc, .int (nI cnt)])), (sc, .inl (cI, (lim * 6), .inl tf)), (nr, .inr (0, [.ref on, .ref os, .int (nI near), .int (nI same), .int (nI nx)])), (on, .inl (cI, 8, .inl fn)), (os, .inl (cI, 1024, .inl fs))] := hD
  subst w_2
  have hmd := chMode_lt (near := near) (same := same) (a := a) (here := hr) (cN := cN) (cS := cS) h4
  refine lv_istore (lv' := [(4, .int (nI (chMode near same a hr cN cS))), (0, .ref h), (1, .int (nI a)), (2, .int (nI z)), (3, .int (nI hr))]) hx hb dX7_putCopy_9 hl (by decide) rfl (fun ls hl => ?_)
  refine lv_aload_n hx hb dX7_putCopy_11 rfl (lv_at hl 1 rfl) ?_
  refine va_get (D := D) (ci := 7) (v := .ref nr) (C := RX7) (T := TX7) (N := 12) hx hb hts in_X7 hown hK hP 0 rfl rfl 3 (by decide) (hts _ kX7_29) (fun _ h9 => h9) rfl dX7_putCopy_12 ?_
  refine lv_aload_n hx hb dX7_putCopy_15 rfl (lv_at hl 1 rfl) ?_
  refine va_get (D := D) (ci := 7) (v := .ref aa) (C := RX7) (T := TX7) (N := 12) hx hb hts in_X7 hown hK hP 0 rfl rfl 2 (by decide) (hts _ kX7_23) (fun _ h9 => h9) rfl dX7_putCopy_16 ?_
  refine lv_iload hx hb dX7_putCopy_19 (lv_at hl 0 rfl) ?_
  refine lv_iload_n hx hb dX7_putCopy_21 rfl (lv_at hl 2 rfl) ?_
  refine lv_iload_n hx hb dX7_putCopy_22 rfl (lv_at hl 4 rfl) ?_
  refine jn_v (wr := [(h, .inr (7, [.ref da, .ref co, .ref aa, .ref nr, .ref fi, .ref ou, .ref sp, .int (nI wi), .int (nI f0), .int sk, .int (nI sz), .int lk])), (sp, .inr (5, [.int (nI lim), .ref sc, .int (nI cnt)])), (sc, .inl (cI, (lim * 6), .inl tf))]) hA hP hD hS [5, 6, 7, 1, 2] [0, 3, 4] rfl rfl (by decide) (by decide) (rn_V (As := [.ref aa, .int (nI (chMode near same a hr cN cS)), .int (nI a), .int (nI hr)]) (rest := []) ⟨hx, hb, hml, hown, hts⟩ (cvV 4 hts zc_yX0_putAddress zi_X0 zm_yX0_putAddress zv_yX0_putAddress kX7_145 (by decide +kernel) rfl rfl ⟨Nat.le_of_ble_eq_true rfl, Nat.le_of_ble_eq_true rfl⟩) (c_Caches_putAddress l D cI cB cJ cR nr on os near same nx fn fs cN cS aa aq 4000 n2 f2 v2 A1 (chMode near same a hr cN cS) a hr (h8) (h4) (hah) (by omega) (by omega) (fun q1 q2 => chMode_near q1 q2) (by decide) (hr2) (hc) H.size) hK hNw hMk hA hP hD hS [5, 6, 7, 1, 2] rfl rfl (by decide) 0 rfl rfl rfl rfl hl.1 rfl (Nat.le_of_ble_eq_true rfl) dX7_putCopy_23 ⟨Nat.le_of_ble_eq_true rfl, Nat.le_of_ble_eq_true rfl⟩) (fun u9 H locs w_7 hP hD hS => ?_)
  obtain ⟨n2_3, f2_4, ov2_5⟩ := u9
  try dsimp only at w_7
  have hP : va_P D vwCl [(h, .inr (7, [.ref da, .ref co, .ref aa, .ref nr, .ref fi, .ref ou, .ref sp, .int (nI wi), .int (nI f0), .int sk, .int (nI sz), .int lk])), (sp, .inr (5, [.int (nI lim), .ref sc, .int (nI cnt)])), (sc, .inl (cI, (lim * 6), .inl tf)), (nr, .inr (0, [.ref on, .ref os, .int (nI near), .int (nI same), .int (nI nx)])), (on, .inl (cI, 8, .inl fn)), (os, .inl (cI, 1024, .inl fs)), (aa, .inr (4, [.ref aq, .int (nI n2_3), .int ov2_5])), (aq, .inl (cI, 4000, .inl f2_4))] H := hP
  have hD : va_D A0 [(h, .inr (7, [.ref da, .ref co, .ref aa, .ref nr, .ref fi, .ref ou, .ref sp, .int (nI wi), .int (nI f0), .int sk, .int (nI sz), .int lk])), (sp, .inr (5, [.int (nI lim), .ref sc, .int (nI cnt)])), (sc, .inl (cI, (lim * 6), .inl tf)), (nr, .inr (0, [.ref on, .ref os, .int (nI near), .int (nI same), .int (nI nx)])), (on, .inl (cI, 8, .inl fn)), (os, .inl (cI, 1024, .inl fs)), (aa, .inr (4, [.ref aq, .int (nI n2_3), .int ov2_5])), (aq, .inl (cI, 4000, .inl f2_4))] := hD
  refine lv_aload_n hx hb dX7_putCopy_26 rfl (lv_at hl 1 rfl) ?_
  refine va_get (D := D) (ci := 7) (v := .ref nr) (C := RX7) (T := TX7) (N := 12) hx hb hts in_X7 hown hK hP 0 rfl rfl 3 (by decide) (hts _ kX7_29) (fun _ h9 => h9) rfl dX7_putCopy_27 ?_
  refine lv_iload_n hx hb dX7_putCopy_30 rfl (lv_at hl 2 rfl) ?_
  refine jn_v (wr := [(h, .inr (7, [.ref da, .ref co, .ref aa, .ref nr, .ref fi, .ref ou, .ref sp, .int (nI wi), .int (nI f0), .int sk, .int (nI sz), .int lk])), (sp, .inr (5, [.int (nI lim), .ref sc, .int (nI cnt)])), (sc, .inl (cI, (lim * 6), .inl tf)), (aa, .inr (4, [.ref aq, .int (nI n2_3), .int ov2_5])), (aq, .inl (cI, 4000, .inl f2_4))]) hA hP hD hS [3, 4, 5] [0, 1, 2, 6, 7] rfl rfl (by decide) (by decide) (rn_V (As := [.int (nI a)]) (rest := []) ⟨hx, hb, hml, hown, hts⟩ (cvV 1 hts zc_yX0_keep zi_X0 zm_yX0_keep zv_yX0_keep kX7_148 (by decide +kernel) rfl rfl ⟨Nat.le_of_ble_eq_true rfl, Nat.le_of_ble_eq_true rfl⟩) (c_Caches_keep l D cI cB cJ cR nr on os near same nx fn fs cN cS a (h8) (h4) (hnx) (by omega) (hc) H.size) hK hNw hMk hA hP hD hS [3, 4, 5] rfl rfl (by decide) 0 rfl rfl rfl rfl hl.1 rfl (Nat.le_of_ble_eq_true rfl) dX7_putCopy_31 ⟨Nat.le_of_ble_eq_true rfl, Nat.le_of_ble_eq_true rfl⟩) (fun u9 H locs w_11 hP hD hS => ?_)
  obtain ⟨fn2_8, fs2_9⟩ := u9
  try dsimp only at w_11
  have hP : va_P D vwCl [(h, .inr (7, [.ref da, .ref co, .ref aa, .ref nr, .ref fi, .ref ou, .ref sp, .int (nI wi), .int (nI f0), .int sk, .int (nI sz), .int lk])), (sp, .inr (5, [.int (nI lim), .ref sc, .int (nI cnt)])), (sc, .inl (cI, (lim * 6), .inl tf)), (aa, .inr (4, [.ref aq, .int (nI n2_3), .int ov2_5])), (aq, .inl (cI, 4000, .inl f2_4)), (nr, .inr (0, [.ref on, .ref os, .int (nI near), .int (nI same), .int (nI (kpX near nx))])), (on, .inl (cI, 8, .inl fn2_8)), (os, .inl (cI, 1024, .inl fs2_9))] H := hP
  have hD : va_D A0 [(h, .inr (7, [.ref da, .ref co, .ref aa, .ref nr, .ref fi, .ref ou, .ref sp, .int (nI wi), .int (nI f0), .int sk, .int (nI sz), .int lk])), (sp, .inr (5, [.int (nI lim), .ref sc, .int (nI cnt)])), (sc, .inl (cI, (lim * 6), .inl tf)), (aa, .inr (4, [.ref aq, .int (nI n2_3), .int ov2_5])), (aq, .inl (cI, 4000, .inl f2_4)), (nr, .inr (0, [.ref on, .ref os, .int (nI near), .int (nI same), .int (nI (kpX near nx))])), (on, .inl (cI, 8, .inl fn2_8)), (os, .inl (cI, 1024, .inl fs2_9))] := hD
  refine lv_aload_n hx hb dX7_putCopy_34 rfl (lv_at hl 1 rfl) ?_
  refine va_get (D := D) (ci := 7) (v := .ref sp) (C := RX7) (T := TX7) (N := 12) hx hb hts in_X7 hown hK hP 0 rfl rfl 6 (by decide) (hts _ kX7_46) (fun _ h9 => h9) rfl dX7_putCopy_35 ?_
  refine lv_iconst (v := 3) hx hb dX7_putCopy_38 (by decide) ?_
  refine lv_iload_n hx hb dX7_putCopy_39 rfl (lv_at hl 3 rfl) ?_
  refine lv_iload_n hx hb dX7_putCopy_40 rfl (lv_at hl 2 rfl) ?_
  refine lv_iload hx hb dX7_putCopy_41 (lv_at hl 0 rfl) ?_
  refine lv_iconst (v := 0) hx hb dX7_putCopy_43 (by decide) ?_
  refine lv_aload_n hx hb dX7_putCopy_44 rfl (lv_at hl 1 rfl) ?_
  refine va_get (D := D) (ci := 7) (v := .int (nI wi)) (C := RX7) (T := TX7) (N := 12) hx hb hts in_X7 hown hK hP 0 rfl rfl 7 (by decide) (hts _ kX7_50) (fun _ h9 => h9) rfl dX7_putCopy_45 ?_
  refine jn_v (wr := [(h, .inr (7, [.ref da, .ref co, .ref aa, .ref nr, .ref fi, .ref ou, .ref sp, .int (nI wi), .int (nI f0), .int sk, .int (nI sz), .int lk])), (aa, .inr (4, [.ref aq, .int (nI n2_3), .int ov2_5])), (aq, .inl (cI, 4000, .inl f2_4)), (nr, .inr (0, [.ref on, .ref os, .int (nI near), .int (nI same), .int (nI (kpX near nx))])), (on, .inl (cI, 8, .inl fn2_8)), (os, .inl (cI, 1024, .inl fs2_9))]) hA hP hD hS [1, 2] [0, 3, 4, 5, 6, 7] rfl rfl (by decide) (by decide) (rn_V (As := [.int 3, .int (nI z), .int (nI a), .int (nI (chMode near same a hr cN cS)), .int 0, .int (nI wi)]) (rest := []) ⟨hx, hb, hml, hown, hts⟩ (cvV 6 hts zc_yX5_put zi_X5 zm_yX5_put zv_yX5_put kX7_139 (by decide +kernel) rfl rfl ⟨Nat.le_of_ble_eq_true rfl, Nat.le_of_ble_eq_true rfl⟩) (c_Steps_put l D cI cB cJ cR sp sc lim cnt g tf 3 (nI z) (nI a) (nI (chMode near same a hr cN cS)) 0 (nI wi) (hlm) (by omega) (hst) H.size) hK hNw hMk hA hP hD hS [1, 2] rfl rfl (by decide) 0 rfl rfl rfl rfl hl.1 rfl (Nat.le_of_ble_eq_true rfl) dX7_putCopy_48 ⟨Nat.le_of_ble_eq_true rfl, Nat.le_of_ble_eq_true rfl⟩) (fun u9 H locs w_14 hP hD hS => ?_)
  obtain ⟨f2_12, rfl⟩ : ∃ z9, z9 = u9 := ⟨_, rfl⟩
  try dsimp only at w_14
  have hP : va_P D vwCl [(h, .inr (7, [.ref da, .ref co, .ref aa, .ref nr, .ref fi, .ref ou, .ref sp, .int (nI wi), .int (nI f0), .int sk, .int (nI sz), .int lk])), (aa, .inr (4, [.ref aq, .int (nI n2_3), .int ov2_5])), (aq, .inl (cI, 4000, .inl f2_4)), (nr, .inr (0, [.ref on, .ref os, .int (nI near), .int (nI same), .int (nI (kpX near nx))])), (on, .inl (cI, 8, .inl fn2_8)), (os, .inl (cI, 1024, .inl fs2_9)), (sp, .inr (5, [.int (nI lim), .ref sc, .int (nI (cnt + 1))])), (sc, .inl (cI, (lim * 6), .inl f2_12))] H := hP
  have hD : va_D A0 [(h, .inr (7, [.ref da, .ref co, .ref aa, .ref nr, .ref fi, .ref ou, .ref sp, .int (nI wi), .int (nI f0), .int sk, .int (nI sz), .int lk])), (aa, .inr (4, [.ref aq, .int (nI n2_3), .int ov2_5])), (aq, .inl (cI, 4000, .inl f2_4)), (nr, .inr (0, [.ref on, .ref os, .int (nI near), .int (nI same), .int (nI (kpX near nx))])), (on, .inl (cI, 8, .inl fn2_8)), (os, .inl (cI, 1024, .inl fs2_9)), (sp, .inr (5, [.int (nI lim), .ref sc, .int (nI (cnt + 1))])), (sc, .inl (cI, (lim * 6), .inl f2_12))] := hD
  exact hret 51 ls _ _ (n2_3, f2_4, ov2_5, fn2_8, fs2_9, f2_12) dX7_putCopy_51 hP hD hS (⟨w_7, w_11, w_14⟩)
