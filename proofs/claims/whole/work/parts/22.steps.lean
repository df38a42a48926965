/-! THE CLASS'S LISTS OF INSTRUCTIONS: k of them, the first lim are told by g -/
def stepsIs (lim : Nat) (g : Nat → Nat → Int32) (k : Nat) (f : Nat → Int32) : Prop := ∀ i, i < k → i < lim → ∀ w, w < 6 → f (i * 6 + w) = g i w
def st6 (a b c d e z : Int32) : Nat → Int32 := fun w => if w = 0 then a else if w = 1 then b else if w = 2 then c else if w = 3 then d else if w = 4 then e else z
theorem steps_nil {lim : Nat} {g : Nat → Nat → Int32} {f : Nat → Int32} : stepsIs lim g 0 f := fun i h => absurd h (Nat.not_lt_zero i)
theorem steps_put {lim : Nat} {g : Nat → Nat → Int32} {k : Nat} {f : Nat → Int32} {a b c d e z : Int32} (h : stepsIs lim g k f) : stepsIs lim (va_up g k (st6 a b c d e z)) (k + 1) (upd (upd (upd (upd (upd (upd f (k * 6 + 0) a) (k * 6 + 1) b) (k * 6 + 2) c) (k * 6 + 3) d) (k * 6 + 4) e) (k * 6 + 5) z) := by
  intro i hi hl w hw
  by_cases hk : i = k
  · subst hk
    rw [va_up_self]
    rcases (show w = 0 ∨ w = 1 ∨ w = 2 ∨ w = 3 ∨ w = 4 ∨ w = 5 by omega) with rfl | rfl | rfl | rfl | rfl | rfl <;> simp [upd, st6]
  · rw [va_up_ne _ _ hk]
    have h1 := h i (by omega) hl w hw
    simp only [upd]
    rw [if_neg (by omega), if_neg (by omega), if_neg (by omega), if_neg (by omega), if_neg (by omega), if_neg (by omega)]
    exact h1
theorem steps_over {lim : Nat} {g : Nat → Nat → Int32} {k : Nat} {f : Nat → Int32} {r : Nat → Int32} (h : stepsIs lim g k f) (hk : lim ≤ k) : stepsIs lim (va_up g k r) (k + 1) f := by
  intro i hi hl w hw
  rw [va_up_ne _ _ (show i ≠ k by omega)]
  exact h i (by omega) hl w hw
theorem steps_code {lim : Nat} {g : Nat → Nat → Int32} {k : Nat} {f : Nat → Int32} {j : Nat} {v : Int32} (h : stepsIs lim g k f) : stepsIs lim (va_up g j (upd (g j) 4 v)) k (upd f (j * 6 + 4) v) := by
  intro i hi hl w hw
  have h1 := h i hi hl w hw
  by_cases hj : i = j
  · subst hj
    rw [va_up_self]
    by_cases h4 : w = 4
    · subst h4; simp [upd]
    · simp only [upd]; rw [if_neg (by omega), if_neg h4]; exact h1
  · rw [va_up_ne _ _ hj]
    simp only [upd]; rw [if_neg (by omega)]; exact h1
theorem inB_min {i : Int32} {k lim : Nat} (hk : k < 2 ^ 31) (hl : lim < 2 ^ 31) (h0 : ¬ i < 0) (h1 : ¬ nI k ≤ i) (h2 : ¬ nI lim ≤ i) : inB i (min k lim) = true := by
  obtain ⟨j, hj, rfl⟩ := nI_of h0
  exact inB_t (by
    have a := (not_congr (nI_leI hk hj)).mp h1
    have b := (not_congr (nI_leI hl hj)).mp h2
    omega) (by omega)
theorem inB_f {i : Int32} {n : Nat} (hn : n < 2 ^ 31) (h : i < 0 ∨ nI n ≤ i) : inB i n = false := by
  simp only [inB, decide_eq_false_iff_not]
  rcases h with h | h
  · exact fun q => q.1 h
  · exact fun q => Int32.not_lt.mpr h q.2
theorem inB_mf {i : Int32} {k lim : Nat} (hk : k < 2 ^ 31) (hl : lim < 2 ^ 31) (h : i < 0 ∨ nI k ≤ i ∨ nI lim ≤ i) : inB i (min k lim) = false := by
  refine inB_f (by omega) ?_
  rcases h with h | h | h
  · exact Or.inl h
  · exact Or.inr (Int32.le_trans (nI_le (Nat.min_le_left _ _) hk) h)
  · exact Or.inr (Int32.le_trans (nI_le (Nat.min_le_right _ _) hl) h)
set_option maxHeartbeats 4000000 in
set_option maxRecDepth 100000 in
theorem c_Steps_makeEmpty (l : Launch) (D : va_G) (cI cB cJ cR : ClassId) (h : Nat) (o : Nat) (lim : Nat) (k : Nat) (g : Nat → Nat → Int32) (f : Nat → Int32)  : CMv l yX5_makeEmpty cX5_makeEmpty 1 none ({ frames := 0, cells := 0, slots := 0, locals := 0 }) D (tyA cI cB cJ cR) 0 0 [.ref h] [(h, .inr (5, [.int (nI lim), .ref o, .int (nI k)])), (o, .inl (cI, (lim * 6), .inl f))] (fun (_ : Unit) => True) (fun (_ : Unit) => [(h, .inr (5, [.int (nI lim), .ref o, .int (nI 0)])), (o, .inl (cI, (lim * 6), .inl f))]) := by
  refine st_v (cc := cX5_makeEmpty) (maxL := 1) (by decide) (Nat.le_of_ble_eq_true rfl) ?_
  intro p0 e0 s0 m0 below meth c0 A0 Q0 hBD hret hP hD hS ls hl
  obtain ⟨hx, hb, hml, hown, hts, hnm, hK, hNw, hMk, hA⟩ := hBD
  have hl : lv_has ls 1 [(0, .ref h)] := hl
  have hP : va_P D vwCl [(h, .inr (5, [.int (nI lim), .ref o, .int (nI k)])), (o, .inl (cI, (lim * 6), .inl f))] s0.heap := hP
  have hD : va_D A0 [(h, .inr (5, [.int (nI lim), .ref o, .int (nI k)])), (o, .inl (cI, (lim * 6), .inl f))] := hD
  refine lv_aload_n hx hb dX5_makeEmpty_0 rfl (lv_at hl 0 rfl) ?_
  refine lv_iconst (v := 0) hx hb dX5_makeEmpty_1 (by decide) ?_
  refine ri (y := nI 0) (nI_0.symm) ?_
  refine va_put (D := D) (ci := 5) (v := .int (nI 0)) (ty := .int) (C := RX5) (T := TX5) (N := 3) hx hb hts in_X5 tyX5 tyX5_ok nmX5 hown hK hP hD hS 0 rfl rfl 2 (by decide) (hts _ kX5_23) (fun _ h9 => h9) rfl (by decide +kernel) rfl rfl (Nat.le_of_ble_eq_true rfl) dX5_makeEmpty_2 (fun H locs hP hD hS => ?_)
  have hP : va_P D vwCl [(h, .inr (5, [.int (nI lim), .ref o, .int (nI 0)])), (o, .inl (cI, (lim * 6), .inl f))] H := hP
  have hD : va_D A0 [(h, .inr (5, [.int (nI lim), .ref o, .int (nI 0)])), (o, .inl (cI, (lim * 6), .inl f))] := hD
  exact hret 5 ls _ _ () dX5_makeEmpty_5 hP hD hS (trivial)

set_option maxHeartbeats 4000000 in
set_option maxRecDepth 100000 in
theorem c_Steps_has (l : Launch) (D : va_G) (cI cB cJ cR : ClassId) (h : Nat) (o : Nat) (lim : Nat) (k : Nat) (g : Nat → Nat → Int32) (f : Nat → Int32) (i : Int32) (hlm : lim < 2 ^ 24) (hk : k < 2 ^ 30) : CMz l yX5_has cX5_has 2 (some .boolean) ({ frames := 0, cells := 0, slots := 0, locals := 0 }) D (tyA cI cB cJ cR) 0 0 [.ref h, .int i] [(h, .inr (5, [.int (nI lim), .ref o, .int (nI k)])), (o, .inl (cI, (lim * 6), .inl f))] (fun (r : Bool) (_ : Unit) => r = inB i (min k lim)) (fun (_ : Unit) => [(h, .inr (5, [.int (nI lim), .ref o, .int (nI k)])), (o, .inl (cI, (lim * 6), .inl f))]) := by
  refine st_z (cc := cX5_has) (maxL := 2) (by decide) (Nat.le_of_ble_eq_true rfl) ?_
  intro p0 e0 s0 m0 below meth c0 A0 Q0 hBD hret hP hD hS ls hl
  obtain ⟨hx, hb, hml, hown, hts, hnm, hK, hNw, hMk, hA⟩ := hBD
  have hl : lv_has ls 2 [(0, .ref h), (1, .int i)] := hl
  have hP : va_P D vwCl [(h, .inr (5, [.int (nI lim), .ref o, .int (nI k)])), (o, .inl (cI, (lim * 6), .inl f))] s0.heap := hP
  have hD : va_D A0 [(h, .inr (5, [.int (nI lim), .ref o, .int (nI k)])), (o, .inl (cI, (lim * 6), .inl f))] := hD
  refine lv_iload_n hx hb dX5_has_0 rfl (lv_at hl 1 rfl) ?_
  refine lv_if_lt (tgt := 24) hx hb dX5_has_1 (by decide) (fun c_1 => ?_) (fun c_1 => ?_)
  · refine lv_iconst (v := 0) hx hb dX5_has_24 (by decide) ?_
    exact hret 25 ls _ _ false () dX5_has_25 hP hD hS ((inB_mf (by omega) (by omega) (Or.inl c_1)).symm)
  · refine lv_iload_n hx hb dX5_has_4 rfl (lv_at hl 1 rfl) ?_
    refine lv_aload_n hx hb dX5_has_5 rfl (lv_at hl 0 rfl) ?_
    refine va_get (D := D) (ci := 5) (v := .int (nI k)) (C := RX5) (T := TX5) (N := 3) hx hb hts in_X5 hown hK hP 0 rfl rfl 2 (by decide) (hts _ kX5_23) (fun _ h9 => h9) rfl dX5_has_6 ?_
    refine lv_icmp_ge (tgt := 24) hx hb dX5_has_9 (by decide) (fun c_2 => ?_) (fun c_2 => ?_)
    · refine lv_iconst (v := 0) hx hb dX5_has_24 (by decide) ?_
      exact hret 25 ls _ _ false () dX5_has_25 hP hD hS ((inB_mf (by omega) (by omega) (Or.inr (Or.inl c_2))).symm)
    · refine lv_iload_n hx hb dX5_has_12 rfl (lv_at hl 1 rfl) ?_
      refine lv_aload_n hx hb dX5_has_13 rfl (lv_at hl 0 rfl) ?_
      refine va_get (D := D) (ci := 5) (v := .int (nI lim)) (C := RX5) (T := TX5) (N := 3) hx hb hts in_X5 hown hK hP 0 rfl rfl 0 (by decide) (hts _ kX5_13) (fun _ h9 => h9) rfl dX5_has_14 ?_
      refine lv_icmp_ge (tgt := 24) hx hb dX5_has_17 (by decide) (fun c_3 => ?_) (fun c_3 => ?_)
      · refine lv_iconst (v := 0) hx hb dX5_has_24 (by decide) ?_
        exact hret 25 ls _ _ false () dX5_has_25 hP hD hS ((inB_mf (by omega) (by omega) (Or.inr (Or.inr c_3))).symm)
      · refine lv_iconst (v := 1) hx hb dX5_has_20 (by decide) ?_
        refine lv_goto (tgt := 25) hx hb dX5_has_21 (by decide) ?_
        exact hret 25 ls _ _ true () dX5_has_25 hP hD hS ((inB_min (by omega) (by omega) c_1 c_2 c_3).symm)

set_option maxHeartbeats 4000000 in
set_option maxRecDepth 100000 in
theorem c_Steps_at (l : Launch) (D : va_G) (cI cB cJ cR : ClassId) (h : Nat) (o : Nat) (lim : Nat) (k : Nat) (g : Nat → Nat → Int32) (f : Nat → Int32) (i : Int32) (q : Int32) (hlm : lim < 2 ^ 24) (hk : k < 2 ^ 30) (hs : stepsIs lim g k f) : CMi l yX5_at cX5_at 3 (some .int) ({ frames := 1, cells := 0, slots := 0, locals := 21 }) D (tyA cI cB cJ cR) 0 0 [.ref h, .int i, .int q] [(h, .inr (5, [.int (nI lim), .ref o, .int (nI k)])), (o, .inl (cI, (lim * 6), .inl f))] (fun (r : Int32) (_ : Unit) => r = if inB i (min k lim) = true ∧ inB q 6 = true then g i.toNatClampNeg q.toNatClampNeg else 0) (fun (_ : Unit) => [(h, .inr (5, [.int (nI lim), .ref o, .int (nI k)])), (o, .inl (cI, (lim * 6), .inl f))]) := by
  refine st_i (cc := cX5_at) (maxL := 3) (by decide) (Nat.le_of_ble_eq_true rfl) ?_
  intro p0 e0 s0 m0 below meth c0 A0 Q0 hBD hret hP hD hS ls hl
  obtain ⟨hx, hb, hml, hown, hts, hnm, hK, hNw, hMk, hA⟩ := hBD
  have hl : lv_has ls 3 [(0, .ref h), (1, .int i), (2, .int q)] := hl
  have hP : va_P D vwCl [(h, .inr (5, [.int (nI lim), .ref o, .int (nI k)])), (o, .inl (cI, (lim * 6), .inl f))] s0.heap := hP
  have hD : va_D A0 [(h, .inr (5, [.int (nI lim), .ref o, .int (nI k)])), (o, .inl (cI, (lim * 6), .inl f))] := hD
  refine lv_aload_n hx hb dX5_at_0 rfl (lv_at hl 0 rfl) ?_
  refine lv_iload_n hx hb dX5_at_1 rfl (lv_at hl 1 rfl) ?_
  refine jn_i (wr := []) hA hP hD hS [0, 1] [] rfl rfl (by decide) (by decide) (rn_V (As := [.int i]) (rest := []) ⟨hx, hb, hml, hown, hts⟩ (cvV 1 hts zc_yX5_has zi_X5 zm_yX5_has zv_yX5_has kX5_26 (by decide +kernel) rfl rfl ⟨Nat.le_of_ble_eq_true rfl, Nat.le_of_ble_eq_true rfl⟩) (c_Steps_has l D cI cB cJ cR h o lim k g f i (hlm) (hk) s0.heap.size) hK hNw hMk hA hP hD hS [0, 1] rfl rfl (by decide) 0 rfl rfl rfl rfl hl.1 rfl (Nat.le_of_ble_eq_true rfl) dX5_at_2 ⟨Nat.le_of_ble_eq_true rfl, Nat.le_of_ble_eq_true rfl⟩) (fun r_1 u9 H locs w_2 hP hD hS => ?_)
  obtain ⟨r_1b, rfl, w_2⟩ := w_2
  try dsimp only at w_2
  have hP : va_P D vwCl [(h, .inr (5, [.int (nI lim), .ref o, .int (nI k)])), (o, .inl (cI, (lim * 6), .inl f))] H := hP
  have hD : va_D A0 [(h, .inr (5, [.int (nI lim), .ref o, .int (nI k)])), (o, .inl (cI, (lim * 6), .inl f))] := hD
  refine bz_eq (tgt := 32) hx hb dX5_at_5 (by decide) (fun c_3 => ?_) (fun c_3 => ?_)
  · refine lv_iconst (v := 0) hx hb dX5_at_32 (by decide) ?_
    exact hret 33 ls _ _ _ () dX5_at_33 hP hD hS (by rw [if_neg (fun z => absurd (w_2.symm.trans c_3) (by rw [z.1]; decide))])
  · have hi1 : inB i (min k lim) = true := w_2.symm.trans c_3
    refine lv_iload_n hx hb dX5_at_8 rfl (lv_at hl 2 rfl) ?_
    refine lv_if_lt (tgt := 32) hx hb dX5_at_9 (by decide) (fun c_4 => ?_) (fun c_4 => ?_)
    · refine lv_iconst (v := 0) hx hb dX5_at_32 (by decide) ?_
      exact hret 33 ls _ _ _ () dX5_at_33 hP hD hS (by rw [if_neg (fun z => absurd (inB_f (n := 6) (by decide) (Or.inl c_4)) (by rw [z.2]; decide))])
    · refine lv_iload_n hx hb dX5_at_12 rfl (lv_at hl 2 rfl) ?_
      refine lv_bipush (v := 6) hx hb dX5_at_13 (by decide) ?_
      refine lv_icmp_ge (tgt := 32) hx hb dX5_at_15 (by decide) (fun c_5 => ?_) (fun c_5 => ?_)
      · refine lv_iconst (v := 0) hx hb dX5_at_32 (by decide) ?_
        exact hret 33 ls _ _ _ () dX5_at_33 hP hD hS (by rw [if_neg (fun z => absurd (inB_f (n := 6) (by decide) (Or.inr c_5)) (by rw [z.2]; decide))])
      · have hq1 : inB q 6 = true := decide_eq_true ⟨c_4, Int32.not_le.mp c_5⟩
        obtain ⟨j, hj, rfl⟩ := inB_of hi1 (by omega)
        obtain ⟨w, hw6, rfl⟩ := inB_of hq1 (by omega)
        refine lv_aload_n hx hb dX5_at_18 rfl (lv_at hl 0 rfl) ?_
        refine va_get (D := D) (ci := 5) (v := .ref o) (C := RX5) (T := TX5) (N := 3) hx hb hts in_X5 hown hK hP 0 rfl rfl 1 (by decide) (hts _ kX5_19) (fun _ h9 => h9) rfl dX5_at_19 ?_
        refine lv_iload_n hx hb dX5_at_22 rfl (lv_at hl 1 rfl) ?_
        refine lv_bipush (v := 6) hx hb dX5_at_23 (by decide) ?_
        refine lv_imul hx hb dX5_at_25 ?_
        refine ri (y := nI (j * 6)) (pk_mul j 6) ?_
        refine lv_iload_n hx hb dX5_at_26 rfl (lv_at hl 2 rfl) ?_
        refine lv_iadd hx hb dX5_at_27 ?_
        refine ri (y := nI ((j * 6) + w)) (nI_add (j * 6) w) ?_
        refine ax_ild hx hb hK hP 1 0 rfl rfl (j * 6 + w) (rfl) (by omega) (by omega) dX5_at_28 ?_
        refine lv_goto (tgt := 33) hx hb dX5_at_29 (by decide) ?_
        exact hret 33 ls _ _ _ () dX5_at_33 hP hD hS (by rw [if_pos ⟨hi1, hq1⟩, nI_clamp (by omega), nI_clamp (by omega)]; exact hs j (by omega) (by omega) w hw6)

set_option maxHeartbeats 4000000 in
set_option maxRecDepth 100000 in
theorem c_Steps_put (l : Launch) (D : va_G) (cI cB cJ cR : ClassId) (h : Nat) (o : Nat) (lim : Nat) (k : Nat) (g : Nat → Nat → Int32) (f : Nat → Int32) (a1 : Int32) (a2 : Int32) (a3 : Int32) (a4 : Int32) (a5 : Int32) (a6 : Int32) (hlm : lim < 2 ^ 24) (hk : k < 2 ^ 30) (hs : stepsIs lim g k f) : CMv l yX5_put cX5_put 8 none ({ frames := 0, cells := 0, slots := 0, locals := 0 }) D (tyA cI cB cJ cR) 0 0 [.ref h, .int a1, .int a2, .int a3, .int a4, .int a5, .int a6] [(h, .inr (5, [.int (nI lim), .ref o, .int (nI k)])), (o, .inl (cI, (lim * 6), .inl f))] (fun (f2 : Nat → Int32) => stepsIs lim (va_up g k (st6 a1 a2 a3 a4 a5 a6)) (k + 1) f2) (fun (f2 : Nat → Int32) => [(h, .inr (5, [.int (nI lim), .ref o, .int (nI (k + 1))])), (o, .inl (cI, (lim * 6), .inl f2))]) := by
  refine st_v (cc := cX5_put) (maxL := 8) (by decide) (Nat.le_of_ble_eq_true rfl) ?_
  intro p0 e0 s0 m0 below meth c0 A0 Q0 hBD hret hP hD hS ls hl
  obtain ⟨hx, hb, hml, hown, hts, hnm, hK, hNw, hMk, hA⟩ := hBD
  have hl : lv_has ls 8 [(0, .ref h), (1, .int a1), (2, .int a2), (3, .int a3), (4, .int a4), (5, .int a5), (6, .int a6)] := hl
  have hP : va_P D vwCl [(h, .inr (5, [.int (nI lim), .ref o, .int (nI k)])), (o, .inl (cI, (lim * 6), .inl f))] s0.heap := hP
  have hD : va_D A0 [(h, .inr (5, [.int (nI lim), .ref o, .int (nI k)])), (o, .inl (cI, (lim * 6), .inl f))] := hD
  refine lv_aload_n hx hb dX5_put_0 rfl (lv_at hl 0 rfl) ?_
  refine va_get (D := D) (ci := 5) (v := .int (nI k)) (C := RX5) (T := TX5) (N := 3) hx hb hts in_X5 hown hK hP 0 rfl rfl 2 (by decide) (hts _ kX5_23) (fun _ h9 => h9) rfl dX5_put_1 ?_
  refine lv_aload_n hx hb dX5_put_4 rfl (lv_at hl 0 rfl) ?_
  refine va_get (D := D) (ci := 5) (v := .int (nI lim)) (C := RX5) (T := TX5) (N := 3) hx hb hts in_X5 hown hK hP 0 rfl rfl 0 (by decide) (hts _ kX5_13) (fun _ h9 => h9) rfl dX5_put_5 ?_
  refine lv_icmp_ge (tgt := 83) hx hb dX5_put_8 (by decide) (fun c_1 => ?_) (fun c_1 => ?_)
  · refine lv_aload_n hx hb dX5_put_83 rfl (lv_at hl 0 rfl) ?_
    refine lv_dup hx hb dX5_put_84 rfl ?_
    refine va_get (D := D) (ci := 5) (v := .int (nI k)) (C := RX5) (T := TX5) (N := 3) hx hb hts in_X5 hown hK hP 0 rfl rfl 2 (by decide) (hts _ kX5_23) (fun _ h9 => h9) rfl dX5_put_85 ?_
    refine lv_iconst (v := 1) hx hb dX5_put_88 (by decide) ?_
    refine lv_iadd hx hb dX5_put_89 ?_
    refine ri (y := nI (k + 1)) (nI_add k 1) ?_
    refine va_put (D := D) (ci := 5) (v := .int (nI (k + 1))) (ty := .int) (C := RX5) (T := TX5) (N := 3) hx hb hts in_X5 tyX5 tyX5_ok nmX5 hown hK hP hD hS 0 rfl rfl 2 (by decide) (hts _ kX5_23) (fun _ h9 => h9) rfl (by decide +kernel) rfl rfl (Nat.le_of_ble_eq_true rfl) dX5_put_90 (fun H locs hP hD hS => ?_)
    have hP : va_P D vwCl [(h, .inr (5, [.int (nI lim), .ref o, .int (nI (k + 1))])), (o, .inl (cI, (lim * 6), .inl f))] H := hP
    have hD : va_D A0 [(h, .inr (5, [.int (nI lim), .ref o, .int (nI (k + 1))])), (o, .inl (cI, (lim * 6), .inl f))] := hD
    exact hret 93 ls _ _ (f) dX5_put_93 hP hD hS (steps_over hs ((nI_leI (by omega) (by omega)).mp c_1))
  · have hlt : k < lim := Nat.not_le.mp (fun z => c_1 (nI_le z (by omega)))
    refine lv_aload_n hx hb dX5_put_11 rfl (lv_at hl 0 rfl) ?_
    refine va_get (D := D) (ci := 5) (v := .int (nI k)) (C := RX5) (T := TX5) (N := 3) hx hb hts in_X5 hown hK hP 0 rfl rfl 2 (by decide) (hts _ kX5_23) (fun _ h9 => h9) rfl dX5_put_12 ?_
    refine lv_bipush (v := 6) hx hb dX5_put_15 (by decide) ?_
    refine lv_imul hx hb dX5_put_17 ?_
    refine ri (y := nI (k * 6)) (pk_mul k 6) ?_
    refine lv_istore (lv' := [(7, .int (nI (k * 6))), (0, .ref h), (1, .int a1), (2, .int a2), (3, .int a3), (4, .int a4), (5, .int a5), (6, .int a6)]) hx hb dX5_put_18 hl (by decide) rfl (fun ls hl => ?_)
    refine lv_aload_n hx hb dX5_put_20 rfl (lv_at hl 1 rfl) ?_
    refine va_get (D := D) (ci := 5) (v := .ref o) (C := RX5) (T := TX5) (N := 3) hx hb hts in_X5 hown hK hP 0 rfl rfl 1 (by decide) (hts _ kX5_19) (fun _ h9 => h9) rfl dX5_put_21 ?_
    refine lv_iload hx hb dX5_put_24 (lv_at hl 0 rfl) ?_
    refine lv_iconst (v := 0) hx hb dX5_put_26 (by decide) ?_
    refine lv_iadd hx hb dX5_put_27 ?_
    refine ri (y := nI ((k * 6) + 0)) (nI_add (k * 6) 0) ?_
    refine lv_iload_n hx hb dX5_put_28 rfl (lv_at hl 2 rfl) ?_
    refine ax_ist hx hb hK hP hD hS 1 0 rfl rfl (k * 6 + 0) (rfl) (by omega) (by omega) dX5_put_29 (fun H locs hP hD hS => ?_)
    have hP : va_P D vwCl [(h, .inr (5, [.int (nI lim), .ref o, .int (nI k)])), (o, .inl (cI, (lim * 6), .inl (upd f (k * 6 + 0) a1)))] H := hP
    have hD : va_D A0 [(h, .inr (5, [.int (nI lim), .ref o, .int (nI k)])), (o, .inl (cI, (lim * 6), .inl (upd f (k * 6 + 0) a1)))] := hD
    refine lv_aload_n hx hb dX5_put_30 rfl (lv_at hl 1 rfl) ?_
    refine va_get (D := D) (ci := 5) (v := .ref o) (C := RX5) (T := TX5) (N := 3) hx hb hts in_X5 hown hK hP 0 rfl rfl 1 (by decide) (hts _ kX5_19) (fun _ h9 => h9) rfl dX5_put_31 ?_
    refine lv_iload hx hb dX5_put_34 (lv_at hl 0 rfl) ?_
    refine lv_iconst (v := 1) hx hb dX5_put_36 (by decide) ?_
    refine lv_iadd hx hb dX5_put_37 ?_
    refine ri (y := nI ((k * 6) + 1)) (nI_add (k * 6) 1) ?_
    refine lv_iload_n hx hb dX5_put_38 rfl (lv_at hl 3 rfl) ?_
    refine ax_ist hx hb hK hP hD hS 1 0 rfl rfl (k * 6 + 1) (rfl) (by omega) (by omega) dX5_put_39 (fun H locs hP hD hS => ?_)
    have hP : va_P D vwCl [(h, .inr (5, [.int (nI lim), .ref o, .int (nI k)])), (o, .inl (cI, (lim * 6), .inl (upd (upd f (k * 6 + 0) a1) (k * 6 + 1) a2)))] H := hP
    have hD : va_D A0 [(h, .inr (5, [.int (nI lim), .ref o, .int (nI k)])), (o, .inl (cI, (lim * 6), .inl (upd (upd f (k * 6 + 0) a1) (k * 6 + 1) a2)))] := hD
    refine lv_aload_n hx hb dX5_put_40 rfl (lv_at hl 1 rfl) ?_
    refine va_get (D := D) (ci := 5) (v := .ref o) (C := RX5) (T := TX5) (N := 3) hx hb hts in_X5 hown hK hP 0 rfl rfl 1 (by decide) (hts _ kX5_19) (fun _ h9 => h9) rfl dX5_put_41 ?_
    refine lv_iload hx hb dX5_put_44 (lv_at hl 0 rfl) ?_
    refine lv_iconst (v := 2) hx hb dX5_put_46 (by decide) ?_
    refine lv_iadd hx hb dX5_put_47 ?_
    refine ri (y := nI ((k * 6) + 2)) (nI_add (k * 6) 2) ?_
    refine lv_iload_n hx hb dX5_put_48 rfl (lv_at hl 4 rfl) ?_
    refine ax_ist hx hb hK hP hD hS 1 0 rfl rfl (k * 6 + 2) (rfl) (by omega) (by omega) dX5_put_49 (fun H locs hP hD hS => ?_)
    have hP : va_P D vwCl [(h, .inr (5, [.int (nI lim), .ref o, .int (nI k)])), (o, .inl (cI, (lim * 6), .inl (upd (upd (upd f (k * 6 + 0) a1) (k * 6 + 1) a2) (k * 6 + 2) a3)))] H := hP
    have hD : va_D A0 [(h, .inr (5, [.int (nI lim), .ref o, .int (nI k)])), (o, .inl (cI, (lim * 6), .inl (upd (upd (upd f (k * 6 + 0) a1) (k * 6 + 1) a2) (k * 6 + 2) a3)))] := hD
    refine lv_aload_n hx hb dX5_put_50 rfl (lv_at hl 1 rfl) ?_
    refine va_get (D := D) (ci := 5) (v := .ref o) (C := RX5) (T := TX5) (N := 3) hx hb hts in_X5 hown hK hP 0 rfl rfl 1 (by decide) (hts _ kX5_19) (fun _ h9 => h9) rfl dX5_put_51 ?_
    refine lv_iload hx hb dX5_put_54 (lv_at hl 0 rfl) ?_
    refine lv_iconst (v := 3) hx hb dX5_put_56 (by decide) ?_
    refine lv_iadd hx hb dX5_put_57 ?_
    refine ri (y := nI ((k * 6) + 3)) (nI_add (k * 6) 3) ?_
    refine lv_iload hx hb dX5_put_58 (lv_at hl 5 rfl) ?_
    refine ax_ist hx hb hK hP hD hS 1 0 rfl rfl (k * 6 + 3) (rfl) (by omega) (by omega) dX5_put_60 (fun H locs hP hD hS => ?_)
    have hP : va_P D vwCl [(h, .inr (5, [.int (nI lim), .ref o, .int (nI k)])), (o, .inl (cI, (lim * 6), .inl (upd (upd (upd (upd f (k * 6 + 0) a1) (k * 6 + 1) a2) (k * 6 + 2) a3) (k * 6 + 3) a4)))] H := hP
    have hD : va_D A0 [(h, .inr (5, [.int (nI lim), .ref o, .int (nI k)])), (o, .inl (cI, (lim * 6), .inl (upd (upd (upd (upd f (k * 6 + 0) a1) (k * 6 + 1) a2) (k * 6 + 2) a3) (k * 6 + 3) a4)))] := hD
    refine lv_aload_n hx hb dX5_put_61 rfl (lv_at hl 1 rfl) ?_
    refine va_get (D := D) (ci := 5) (v := .ref o) (C := RX5) (T := TX5) (N := 3) hx hb hts in_X5 hown hK hP 0 rfl rfl 1 (by decide) (hts _ kX5_19) (fun _ h9 => h9) rfl dX5_put_62 ?_
    refine lv_iload hx hb dX5_put_65 (lv_at hl 0 rfl) ?_
    refine lv_iconst (v := 4) hx hb dX5_put_67 (by decide) ?_
    refine lv_iadd hx hb dX5_put_68 ?_
    refine ri (y := nI ((k * 6) + 4)) (nI_add (k * 6) 4) ?_
    refine lv_iload hx hb dX5_put_69 (lv_at hl 6 rfl) ?_
    refine ax_ist hx hb hK hP hD hS 1 0 rfl rfl (k * 6 + 4) (rfl) (by omega) (by omega) dX5_put_71 (fun H locs hP hD hS => ?_)
    have hP : va_P D vwCl [(h, .inr (5, [.int (nI lim), .ref o, .int (nI k)])), (o, .inl (cI, (lim * 6), .inl (upd (upd (upd (upd (upd f (k * 6 + 0) a1) (k * 6 + 1) a2) (k * 6 + 2) a3) (k * 6 + 3) a4) (k * 6 + 4) a5)))] H := hP
    have hD : va_D A0 [(h, .inr (5, [.int (nI lim), .ref o, .int (nI k)])), (o, .inl (cI, (lim * 6), .inl (upd (upd (upd (upd (upd f (k * 6 + 0) a1) (k * 6 + 1) a2) (k * 6 + 2) a3) (k * 6 + 3) a4) (k * 6 + 4) a5)))] := hD
    refine lv_aload_n hx hb dX5_put_72 rfl (lv_at hl 1 rfl) ?_
    refine va_get (D := D) (ci := 5) (v := .ref o) (C := RX5) (T := TX5) (N := 3) hx hb hts in_X5 hown hK hP 0 rfl rfl 1 (by decide) (hts _ kX5_19) (fun _ h9 => h9) rfl dX5_put_73 ?_
    refine lv_iload hx hb dX5_put_76 (lv_at hl 0 rfl) ?_
    refine lv_iconst (v := 5) hx hb dX5_put_78 (by decide) ?_
    refine lv_iadd hx hb dX5_put_79 ?_
    refine ri (y := nI ((k * 6) + 5)) (nI_add (k * 6) 5) ?_
    refine lv_iload hx hb dX5_put_80 (lv_at hl 7 rfl) ?_
    refine ax_ist hx hb hK hP hD hS 1 0 rfl rfl (k * 6 + 5) (rfl) (by omega) (by omega) dX5_put_82 (fun H locs hP hD hS => ?_)
    have hP : va_P D vwCl [(h, .inr (5, [.int (nI lim), .ref o, .int (nI k)])), (o, .inl (cI, (lim * 6), .inl (upd (upd (upd (upd (upd (upd f (k * 6 + 0) a1) (k * 6 + 1) a2) (k * 6 + 2) a3) (k * 6 + 3) a4) (k * 6 + 4) a5) (k * 6 + 5) a6)))] H := hP
    have hD : va_D A0 [(h, .inr (5, [.int (nI lim), .ref o, .int (nI k)])), (o, .inl (cI, (lim * 6), .inl (upd (upd (upd (upd (upd (upd f (k * 6 + 0) a1) (k * 6 + 1) a2) (k * 6 + 2) a3) (k * 6 + 3) a4) (k * 6 + 4) a5) (k * 6 + 5) a6)))] := hD
    refine lv_aload_n hx hb dX5_put_83 rfl (lv_at hl 1 rfl) ?_
    refine lv_dup hx hb dX5_put_84 rfl ?_
    refine va_get (D := D) (ci := 5) (v := .int (nI k)) (C := RX5) (T := TX5) (N := 3) hx hb hts in_X5 hown hK hP 0 rfl rfl 2 (by decide) (hts _ kX5_23) (fun _ h9 => h9) rfl dX5_put_85 ?_
    refine lv_iconst (v := 1) hx hb dX5_put_88 (by decide) ?_
    refine lv_iadd hx hb dX5_put_89 ?_
    refine ri (y := nI (k + 1)) (nI_add k 1) ?_
    refine va_put (D := D) (ci := 5) (v := .int (nI (k + 1))) (ty := .int) (C := RX5) (T := TX5) (N := 3) hx hb hts in_X5 tyX5 tyX5_ok nmX5 hown hK hP hD hS 0 rfl rfl 2 (by decide) (hts _ kX5_23) (fun _ h9 => h9) rfl (by decide +kernel) rfl rfl (Nat.le_of_ble_eq_true rfl) dX5_put_90 (fun H locs hP hD hS => ?_)
    have hP : va_P D vwCl [(h, .inr (5, [.int (nI lim), .ref o, .int (nI (k + 1))])), (o, .inl (cI, (lim * 6), .inl (upd (upd (upd (upd (upd (upd f (k * 6 + 0) a1) (k * 6 + 1) a2) (k * 6 + 2) a3) (k * 6 + 3) a4) (k * 6 + 4) a5) (k * 6 + 5) a6)))] H := hP
    have hD : va_D A0 [(h, .inr (5, [.int (nI lim), .ref o, .int (nI (k + 1))])), (o, .inl (cI, (lim * 6), .inl (upd (upd (upd (upd (upd (upd f (k * 6 + 0) a1) (k * 6 + 1) a2) (k * 6 + 2) a3) (k * 6 + 3) a4) (k * 6 + 4) a5) (k * 6 + 5) a6)))] := hD
    exact hret 93 ls _ _ (upd (upd (upd (upd (upd (upd f (k * 6 + 0) a1) (k * 6 + 1) a2) (k * 6 + 2) a3) (k * 6 + 3) a4) (k * 6 + 4) a5) (k * 6 + 5) a6) dX5_put_93 hP hD hS (steps_put hs)

set_option maxHeartbeats 4000000 in
set_option maxRecDepth 100000 in
theorem c_Steps_setCode (l : Launch) (D : va_G) (cI cB cJ cR : ClassId) (h : Nat) (o : Nat) (lim : Nat) (k : Nat) (g : Nat → Nat → Int32) (f : Nat → Int32) (i : Int32) (v : Int32) (hlm : lim < 2 ^ 24) (hk : k < 2 ^ 30) (hs : stepsIs lim g k f) : CMv l yX5_setCode cX5_setCode 3 none ({ frames := 1, cells := 0, slots := 0, locals := 21 }) D (tyA cI cB cJ cR) 0 0 [.ref h, .int i, .int v] [(h, .inr (5, [.int (nI lim), .ref o, .int (nI k)])), (o, .inl (cI, (lim * 6), .inl f))] (fun (f2 : Nat → Int32) => stepsIs lim (if inB i (min k lim) = true then va_up g i.toNatClampNeg (upd (g i.toNatClampNeg) 4 v) else g) k f2) (fun (f2 : Nat → Int32) => [(h, .inr (5, [.int (nI lim), .ref o, .int (nI k)])), (o, .inl (cI, (lim * 6), .inl f2))]) := by
  refine st_v (cc := cX5_setCode) (maxL := 3) (by decide) (Nat.le_of_ble_eq_true rfl) ?_
  intro p0 e0 s0 m0 below meth c0 A0 Q0 hBD hret hP hD hS ls hl
  obtain ⟨hx, hb, hml, hown, hts, hnm, hK, hNw, hMk, hA⟩ := hBD
  have hl : lv_has ls 3 [(0, .ref h), (1, .int i), (2, .int v)] := hl
  have hP : va_P D vwCl [(h, .inr (5, [.int (nI lim), .ref o, .int (nI k)])), (o, .inl (cI, (lim * 6), .inl f))] s0.heap := hP
  have hD : va_D A0 [(h, .inr (5, [.int (nI lim), .ref o, .int (nI k)])), (o, .inl (cI, (lim * 6), .inl f))] := hD
  refine lv_aload_n hx hb dX5_setCode_0 rfl (lv_at hl 0 rfl) ?_
  refine lv_iload_n hx hb dX5_setCode_1 rfl (lv_at hl 1 rfl) ?_
  refine jn_i (wr := []) hA hP hD hS [0, 1] [] rfl rfl (by decide) (by decide) (rn_V (As := [.int i]) (rest := []) ⟨hx, hb, hml, hown, hts⟩ (cvV 1 hts zc_yX5_has zi_X5 zm_yX5_has zv_yX5_has kX5_26 (by decide +kernel) rfl rfl ⟨Nat.le_of_ble_eq_true rfl, Nat.le_of_ble_eq_true rfl⟩) (c_Steps_has l D cI cB cJ cR h o lim k g f i (hlm) (hk) s0.heap.size) hK hNw hMk hA hP hD hS [0, 1] rfl rfl (by decide) 0 rfl rfl rfl rfl hl.1 rfl (Nat.le_of_ble_eq_true rfl) dX5_setCode_2 ⟨Nat.le_of_ble_eq_true rfl, Nat.le_of_ble_eq_true rfl⟩) (fun r_1 u9 H locs w_2 hP hD hS => ?_)
  obtain ⟨r_1b, rfl, w_2⟩ := w_2
  try dsimp only at w_2
  have hP : va_P D vwCl [(h, .inr (5, [.int (nI lim), .ref o, .int (nI k)])), (o, .inl (cI, (lim * 6), .inl f))] H := hP
  have hD : va_D A0 [(h, .inr (5, [.int (nI lim), .ref o, .int (nI k)])), (o, .inl (cI, (lim * 6), .inl f))] := hD
  refine bz_eq (tgt := 20) hx hb dX5_setCode_5 (by decide) (fun c_3 => ?_) (fun c_3 => ?_)
  · exact hret 20 ls _ _ (f) dX5_setCode_20 hP hD hS (by rw [if_neg (by rw [← w_2, c_3]; decide)]; exact hs)
  · have hi1 : inB i (min k lim) = true := w_2.symm.trans c_3
    obtain ⟨j, hj, rfl⟩ := inB_of hi1 (by omega)
    refine lv_aload_n hx hb dX5_setCode_8 rfl (lv_at hl 0 rfl) ?_
    refine va_get (D := D) (ci := 5) (v := .ref o) (C := RX5) (T := TX5) (N := 3) hx hb hts in_X5 hown hK hP 0 rfl rfl 1 (by decide) (hts _ kX5_19) (fun _ h9 => h9) rfl dX5_setCode_9 ?_
    refine lv_iload_n hx hb dX5_setCode_12 rfl (lv_at hl 1 rfl) ?_
    refine lv_bipush (v := 6) hx hb dX5_setCode_13 (by decide) ?_
    refine lv_imul hx hb dX5_setCode_15 ?_
    refine ri (y := nI (j * 6)) (pk_mul j 6) ?_
    refine lv_iconst (v := 4) hx hb dX5_setCode_16 (by decide) ?_
    refine lv_iadd hx hb dX5_setCode_17 ?_
    refine ri (y := nI ((j * 6) + 4)) (nI_add (j * 6) 4) ?_
    refine lv_iload_n hx hb dX5_setCode_18 rfl (lv_at hl 2 rfl) ?_
    refine ax_ist hx hb hK hP hD hS 1 0 rfl rfl (j * 6 + 4) (rfl) (by omega) (by omega) dX5_setCode_19 (fun H locs hP hD hS => ?_)
    have hP : va_P D vwCl [(h, .inr (5, [.int (nI lim), .ref o, .int (nI k)])), (o, .inl (cI, (lim * 6), .inl (upd f (j * 6 + 4) v)))] H := hP
    have hD : va_D A0 [(h, .inr (5, [.int (nI lim), .ref o, .int (nI k)])), (o, .inl (cI, (lim * 6), .inl (upd f (j * 6 + 4) v)))] := hD
    exact hret 20 ls _ _ (upd f (j * 6 + 4) v) dX5_setCode_20 hP hD hS (by rw [if_pos hi1, nI_clamp (by omega)]; exact steps_code hs)
