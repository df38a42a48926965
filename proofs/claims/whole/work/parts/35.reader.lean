/-! READING: a state is (FAULT, PLACE, where); behind a fault every taking answers 0 and every further fault is passed over -/
abbrev RS : Type := Nat × Nat × Nat
def flI (c : Prop) [Decidable c] (k w : Nat) (s : RS) : RS := if c ∧ s.1 = 0 then (k, w, s.2.2) else s
def tkO (b : Nat → Nat) (e : Nat) (s : RS) : Nat × RS := if s.1 = 0 then (if s.2.2 < e then (b s.2.2, 0, s.2.1, s.2.2 + 1) else (0, 1, e, s.2.2)) else (0, s)
def tkN (b : Nat → Nat) (e : Nat) (s : RS) : Nat × RS := if s.1 = 0 then (if (rdN b e 5 s.2.2 0).1 = 0 then ((rdN b e 5 s.2.2 0).2.1, 0, s.2.1, (rdN b e 5 s.2.2 0).2.2) else if (rdN b e 5 s.2.2 0).1 = 1 then (0, 1, e, (rdN b e 5 s.2.2 0).2.2) else (0, 4, s.2.2, (rdN b e 5 s.2.2 0).2.2)) else (0, s)
def octs (f : Nat → Int32) (b : Nat → Nat) (n : Nat) : Prop := ∀ j, j < n → f j = nI (b j) ∧ b j < 256
theorem tkO_at {b : Nat → Nat} {e : Nat} {s : RS} : s.2.2 ≤ (tkO b e s).2.2.2 ∧ (tkO b e s).2.2.2 ≤ s.2.2 + 1 ∧ (s.2.2 ≤ e → (tkO b e s).2.2.2 ≤ e) := by
  unfold tkO
  split
  · split <;> exact ⟨by dsimp only; omega, by dsimp only; omega, fun _ => by dsimp only; omega⟩
  · exact ⟨Nat.le_refl _, by dsimp only; omega, id⟩
theorem tkN_at {b : Nat → Nat} {e : Nat} {s : RS} : s.2.2 ≤ (tkN b e s).2.2.2 ∧ (tkN b e s).2.2.2 ≤ s.2.2 + 5 ∧ (s.2.2 ≤ e → (tkN b e s).2.2.2 ≤ e) := by
  have h := rdN_at (b := b) (e := e) 5 s.2.2 0
  unfold tkN
  split
  · split
    · exact h
    · split <;> exact h
  · exact ⟨Nat.le_refl _, by dsimp only; omega, id⟩
theorem tkN_le {b : Nat → Nat} {e : Nat} {s : RS} : (tkN b e s).1 ≤ 2147483647 := by
  unfold tkN
  split
  · split
    · rename_i h; exact rdN_ok 5 s.2.2 0 h
    · split <;> exact Nat.zero_le _
  · exact Nat.zero_le _
theorem tkO_lt {b : Nat → Nat} {e : Nat} {s : RS} (h : ∀ j, j < e → b j < 256) : (tkO b e s).1 < 256 := by
  unfold tkO
  split
  · split
    · rename_i h1; exact h _ h1
    · show 0 < 256; decide
  · show 0 < 256; decide
set_option maxHeartbeats 4000000 in
set_option maxRecDepth 100000 in
theorem c_Cursor_set (l : Launch) (D : va_G) (cI cB cJ cR : ClassId) (h : Nat) (q0 : Nat) (x1 : Int32) (x2 : Int32) (rh : Nat) (ro : Nat) (rn : Nat) (rv : Int32) (a : Nat) (z : Nat) (ha : a < 2 ^ 31) (hz : z < 2 ^ 31) (hrn : rn < 2 ^ 31) : CMv l yX1_set cX1_set 4 none ({ frames := 1, cells := 0, slots := 0, locals := 21 }) D (tyA cI cB cJ cR) 0 0 [.ref h, .ref rh, .int (nI a), .int (nI z)] [(h, .inr (1, [.ref q0, .int x1, .int x2])), (rh, .inr (4, [.ref ro, .int (nI rn), .int rv]))] (fun (_ : Unit) => True) (fun (_ : Unit) => [(h, .inr (1, [.ref ro, .int (nI a), .int (nI (min z rn))])), (rh, .inr (4, [.ref ro, .int (nI rn), .int rv]))]) := by
  refine st_v (cc := cX1_set) (maxL := 4) (by decide) (Nat.le_of_ble_eq_true rfl) ?_
  intro p0 e0 s0 m0 below meth c0 A0 Q0 hBD hret hP hD hS ls hl
  obtain ⟨hx, hb, hml, hown, hts, hnm, hK, hNw, hMk, hA⟩ := hBD
  have hl : lv_has ls 4 [(0, .ref h), (1, .ref rh), (2, .int (nI a)), (3, .int (nI z))] := hl
  have hP : va_P D vwCl [(h, .inr (1, [.ref q0, .int x1, .int x2])), (rh, .inr (4, [.ref ro, .int (nI rn), .int rv]))] s0.heap := hP
  have hD : va_D A0 [(h, .inr (1, [.ref q0, .int x1, .int x2])), (rh, .inr (4, [.ref ro, .int (nI rn), .int rv]))] := hD
  refine lv_aload_n hx hb dX1_set_0 rfl (lv_at hl 0 rfl) ?_
  refine lv_aload_n hx hb dX1_set_1 rfl (lv_at hl 1 rfl) ?_
  refine va_get (D := D) (ci := 4) (v := .ref ro) (C := RX4) (T := TX4) (N := 3) hx hb hts in_X4 hown hK hP 1 rfl rfl 0 (by decide) (hts _ kX1_15) (fun _ h9 => h9) rfl dX1_set_2 ?_
  refine va_put (D := D) (ci := 1) (v := .ref ro) (ty := .array .int) (C := RX1) (T := TX1) (N := 3) hx hb hts in_X1 tyX1 tyX1_ok nmX1 hown hK hP hD hS 0 rfl rfl 0 (by decide) (hts _ kX1_9) (fun _ h9 => h9) rfl (by decide +kernel) rfl rfl (Nat.le_of_ble_eq_true rfl) dX1_set_5 (fun H locs hP hD hS => ?_)
  have hP : va_P D vwCl [(h, .inr (1, [.ref ro, .int x1, .int x2])), (rh, .inr (4, [.ref ro, .int (nI rn), .int rv]))] H := hP
  have hD : va_D A0 [(h, .inr (1, [.ref ro, .int x1, .int x2])), (rh, .inr (4, [.ref ro, .int (nI rn), .int rv]))] := hD
  refine lv_aload_n hx hb dX1_set_8 rfl (lv_at hl 0 rfl) ?_
  refine lv_iload_n hx hb dX1_set_9 rfl (lv_at hl 2 rfl) ?_
  refine lv_iconst (v := 0) hx hb dX1_set_10 (by decide) ?_
  refine va_mmax hx hb (hml.trans hl.1.symm) hown (hts _ kX1_18) (hts _ zs_yJ9_max_7cf53) (hts _ zi_J9) (hts _ zc_yJ9_max_7cf53) (Nat.le_of_ble_eq_true rfl) (Nat.le_of_ble_eq_true rfl) (Nat.zero_le _) (Nat.zero_le _) dX1_set_11 ?_
  refine ri (y := nI a) ((nI_max (a := a) (b := 0) (by omega) (by decide)).trans (by rw [Nat.max_eq_left (Nat.zero_le _)])) ?_
  refine va_put (D := D) (ci := 1) (v := .int (nI a)) (ty := .int) (C := RX1) (T := TX1) (N := 3) hx hb hts in_X1 tyX1 tyX1_ok nmX1 hown hK hP hD hS 0 rfl rfl 1 (by decide) (hts _ kX1_24) (fun _ h9 => h9) rfl (by decide +kernel) rfl rfl (Nat.le_of_ble_eq_true rfl) dX1_set_14 (fun H locs hP hD hS => ?_)
  have hP : va_P D vwCl [(h, .inr (1, [.ref ro, .int (nI a), .int x2])), (rh, .inr (4, [.ref ro, .int (nI rn), .int rv]))] H := hP
  have hD : va_D A0 [(h, .inr (1, [.ref ro, .int (nI a), .int x2])), (rh, .inr (4, [.ref ro, .int (nI rn), .int rv]))] := hD
  refine lv_aload_n hx hb dX1_set_17 rfl (lv_at hl 0 rfl) ?_
  refine lv_iload_n hx hb dX1_set_18 rfl (lv_at hl 3 rfl) ?_
  refine lv_aload_n hx hb dX1_set_19 rfl (lv_at hl 1 rfl) ?_
  refine va_get (D := D) (ci := 4) (v := .int (nI rn)) (C := RX4) (T := TX4) (N := 3) hx hb hts in_X4 hown hK hP 1 rfl rfl 1 (by decide) (hts _ kX1_28) (fun _ h9 => h9) rfl dX1_set_20 ?_
  refine va_mmin hx hb (hml.trans hl.1.symm) hown (hts _ kX1_31) (hts _ zs_yJ9_min_7cf53) (hts _ zi_J9) (hts _ zc_yJ9_min_7cf53) (Nat.le_of_ble_eq_true rfl) (Nat.le_of_ble_eq_true rfl) (Nat.zero_le _) (Nat.zero_le _) dX1_set_23 ?_
  refine ri (y := nI (min z rn)) (nI_min hz hrn) ?_
  refine va_put (D := D) (ci := 1) (v := .int (nI (min z rn))) (ty := .int) (C := RX1) (T := TX1) (N := 3) hx hb hts in_X1 tyX1 tyX1_ok nmX1 hown hK hP hD hS 0 rfl rfl 2 (by decide) (hts _ kX1_34) (fun _ h9 => h9) rfl (by decide +kernel) rfl rfl (Nat.le_of_ble_eq_true rfl) dX1_set_26 (fun H locs hP hD hS => ?_)
  have hP : va_P D vwCl [(h, .inr (1, [.ref ro, .int (nI a), .int (nI (min z rn))])), (rh, .inr (4, [.ref ro, .int (nI rn), .int rv]))] H := hP
  have hD : va_D A0 [(h, .inr (1, [.ref ro, .int (nI a), .int (nI (min z rn))])), (rh, .inr (4, [.ref ro, .int (nI rn), .int rv]))] := hD
  exact hret 29 ls _ _ () dX1_set_29 hP hD hS (trivial)

set_option maxHeartbeats 4000000 in
set_option maxRecDepth 100000 in
theorem c_Reader_fail (l : Launch) (D : va_G) (cI cB cJ cR : ClassId) (h : Nat) (rm : Nat) (rg : Nat) (cf : Nat) (cd : Nat) (ck : Nat) (ca : Nat) (nr : Nat) (sr : Nat) (dl : Nat) (sp : Nat) (wn : Int32) (sk : Int32) (ss : Int32) (sm : Int32) (wf : Int32) (we : Int32) (fl : Nat) (pl : Nat) (k : Nat) (w : Nat) (hfl : fl < 2 ^ 31) : CMv l yX3_fail cX3_fail 3 none ({ frames := 0, cells := 0, slots := 0, locals := 0 }) D (tyA cI cB cJ cR) 0 0 [.ref h, .int (nI k), .int (nI w)] [(h, .inr (3, [.ref rm, .ref rg, .ref cf, .ref cd, .ref ck, .ref ca, .ref nr, .ref sr, .ref dl, .ref sp, .int (nI fl), .int (nI pl), .int wn, .int sk, .int ss, .int sm, .int wf, .int we]))] (fun (u9 : Nat × Nat) => match u9 with | (fl2, pl2) => (fl2, pl2) = if fl = 0 then (k, w) else (fl, pl)) (fun (u9 : Nat × Nat) => match u9 with | (fl2, pl2) => [(h, .inr (3, [.ref rm, .ref rg, .ref cf, .ref cd, .ref ck, .ref ca, .ref nr, .ref sr, .ref dl, .ref sp, .int (nI fl2), .int (nI pl2), .int wn, .int sk, .int ss, .int sm, .int wf, .int we]))]) := by
  refine st_v (cc := cX3_fail) (maxL := 3) (by decide) (Nat.le_of_ble_eq_true rfl) ?_
  intro p0 e0 s0 m0 below meth c0 A0 Q0 hBD hret hP hD hS ls hl
  obtain ⟨hx, hb, hml, hown, hts, hnm, hK, hNw, hMk, hA⟩ := hBD
  have hl : lv_has ls 3 [(0, .ref h), (1, .int (nI k)), (2, .int (nI w))] := hl
  have hP : va_P D vwCl [(h, .inr (3, [.ref rm, .ref rg, .ref cf, .ref cd, .ref ck, .ref ca, .ref nr, .ref sr, .ref dl, .ref sp, .int (nI fl), .int (nI pl), .int wn, .int sk, .int ss, .int sm, .int wf, .int we]))] s0.heap := hP
  have hD : va_D A0 [(h, .inr (3, [.ref rm, .ref rg, .ref cf, .ref cd, .ref ck, .ref ca, .ref nr, .ref sr, .ref dl, .ref sp, .int (nI fl), .int (nI pl), .int wn, .int sk, .int ss, .int sm, .int wf, .int we]))] := hD
  refine lv_aload_n hx hb dX3_fail_0 rfl (lv_at hl 0 rfl) ?_
  refine va_get (D := D) (ci := 3) (v := .int (nI fl)) (C := RX3) (T := TX3) (N := 18) hx hb hts in_X3 hown hK hP 0 rfl rfl 10 (by decide) (hts _ kX3_73) (fun _ h9 => h9) rfl dX3_fail_1 ?_
  refine lv_if_ne (tgt := 17) hx hb dX3_fail_4 (by decide) (fun c_1 => ?_) (fun c_1 => ?_)
  · exact hret 17 ls _ _ (fl, pl) dX3_fail_17 hP hD hS (by rw [if_neg (fun z => c_1 (by rw [z]; decide))])
  · have h0 : fl = 0 := Decidable.byContradiction (fun z => nI_ne0 (Nat.pos_of_ne_zero z) hfl c_1)
    refine lv_aload_n hx hb dX3_fail_7 rfl (lv_at hl 0 rfl) ?_
    refine lv_iload_n hx hb dX3_fail_8 rfl (lv_at hl 1 rfl) ?_
    refine va_put (D := D) (ci := 3) (v := .int (nI k)) (ty := .int) (C := RX3) (T := TX3) (N := 18) hx hb hts in_X3 tyX3 tyX3_ok nmX3 hown hK hP hD hS 0 rfl rfl 10 (by decide) (hts _ kX3_73) (fun _ h9 => h9) rfl (by decide +kernel) rfl rfl (Nat.le_of_ble_eq_true rfl) dX3_fail_9 (fun H locs hP hD hS => ?_)
    have hP : va_P D vwCl [(h, .inr (3, [.ref rm, .ref rg, .ref cf, .ref cd, .ref ck, .ref ca, .ref nr, .ref sr, .ref dl, .ref sp, .int (nI k), .int (nI pl), .int wn, .int sk, .int ss, .int sm, .int wf, .int we]))] H := hP
    have hD : va_D A0 [(h, .inr (3, [.ref rm, .ref rg, .ref cf, .ref cd, .ref ck, .ref ca, .ref nr, .ref sr, .ref dl, .ref sp, .int (nI k), .int (nI pl), .int wn, .int sk, .int ss, .int sm, .int wf, .int we]))] := hD
    refine lv_aload_n hx hb dX3_fail_12 rfl (lv_at hl 0 rfl) ?_
    refine lv_iload_n hx hb dX3_fail_13 rfl (lv_at hl 2 rfl) ?_
    refine va_put (D := D) (ci := 3) (v := .int (nI w)) (ty := .int) (C := RX3) (T := TX3) (N := 18) hx hb hts in_X3 tyX3 tyX3_ok nmX3 hown hK hP hD hS 0 rfl rfl 11 (by decide) (hts _ kX3_77) (fun _ h9 => h9) rfl (by decide +kernel) rfl rfl (Nat.le_of_ble_eq_true rfl) dX3_fail_14 (fun H locs hP hD hS => ?_)
    have hP : va_P D vwCl [(h, .inr (3, [.ref rm, .ref rg, .ref cf, .ref cd, .ref ck, .ref ca, .ref nr, .ref sr, .ref dl, .ref sp, .int (nI k), .int (nI w), .int wn, .int sk, .int ss, .int sm, .int wf, .int we]))] H := hP
    have hD : va_D A0 [(h, .inr (3, [.ref rm, .ref rg, .ref cf, .ref cd, .ref ck, .ref ca, .ref nr, .ref sr, .ref dl, .ref sp, .int (nI k), .int (nI w), .int wn, .int sk, .int ss, .int sm, .int wf, .int we]))] := hD
    exact hret 17 ls _ _ (k, w) dX3_fail_17 hP hD hS (by rw [if_pos h0])

set_option maxHeartbeats 4000000 in
set_option maxRecDepth 100000 in
theorem c_Reader_takeOctet (l : Launch) (D : va_G) (cI cB cJ cR : ClassId) (h : Nat) (rm : Nat) (rg : Nat) (cf : Nat) (cd : Nat) (ck : Nat) (ca : Nat) (nr : Nat) (sr : Nat) (dl : Nat) (sp : Nat) (wn : Int32) (sk : Int32) (ss : Int32) (sm : Int32) (wf : Int32) (we : Int32) (fl : Nat) (pl : Nat) (a : Nat) (e : Nat) (o : Nat) (N : Nat) (f : Nat → Int32) (b : Nat → Nat) (hfl : fl < 2 ^ 31) (hN : N < 2 ^ 24) (he : e ≤ N) (ha : a < 2 ^ 27) (hob : octs f b e) : CMi l yX3_takeOctet cX3_takeOctet 2 (some .int) ({ frames := 1, cells := 0, slots := 0, locals := 22 }) D (tyA cI cB cJ cR) 0 0 [.ref h] [(h, .inr (3, [.ref rm, .ref rg, .ref cf, .ref cd, .ref ck, .ref ca, .ref nr, .ref sr, .ref dl, .ref sp, .int (nI fl), .int (nI pl), .int wn, .int sk, .int ss, .int sm, .int wf, .int we])), (cf, .inr (1, [.ref o, .int (nI a), .int (nI e)])), (o, .inl (cI, N, .inl f))] (fun (r : Int32) (u9 : Nat × Nat × Nat × Nat) => match u9 with | (v, fl2, pl2, a2) => r = nI v ∧ tkO b e (fl, pl, a) = (v, fl2, pl2, a2)) (fun (u9 : Nat × Nat × Nat × Nat) => match u9 with | (v, fl2, pl2, a2) => [(h, .inr (3, [.ref rm, .ref rg, .ref cf, .ref cd, .ref ck, .ref ca, .ref nr, .ref sr, .ref dl, .ref sp, .int (nI fl2), .int (nI pl2), .int wn, .int sk, .int ss, .int sm, .int wf, .int we])), (cf, .inr (1, [.ref o, .int (nI a2), .int (nI e)])), (o, .inl (cI, N, .inl f))]) := by
  refine st_i (cc := cX3_takeOctet) (maxL := 2) (by decide) (Nat.le_of_ble_eq_true rfl) ?_
  intro p0 e0 s0 m0 below meth c0 A0 Q0 hBD hret hP hD hS ls hl
  obtain ⟨hx, hb, hml, hown, hts, hnm, hK, hNw, hMk, hA⟩ := hBD
  have hl : lv_has ls 2 [(0, .ref h)] := hl
  have hP : va_P D vwCl [(h, .inr (3, [.ref rm, .ref rg, .ref cf, .ref cd, .ref ck, .ref ca, .ref nr, .ref sr, .ref dl, .ref sp, .int (nI fl), .int (nI pl), .int wn, .int sk, .int ss, .int sm, .int wf, .int we])), (cf, .inr (1, [.ref o, .int (nI a), .int (nI e)])), (o, .inl (cI, N, .inl f))] s0.heap := hP
  have hD : va_D A0 [(h, .inr (3, [.ref rm, .ref rg, .ref cf, .ref cd, .ref ck, .ref ca, .ref nr, .ref sr, .ref dl, .ref sp, .int (nI fl), .int (nI pl), .int wn, .int sk, .int ss, .int sm, .int wf, .int we])), (cf, .inr (1, [.ref o, .int (nI a), .int (nI e)])), (o, .inl (cI, N, .inl f))] := hD
  refine lv_aload_n hx hb dX3_takeOctet_0 rfl (lv_at hl 0 rfl) ?_
  refine va_get (D := D) (ci := 3) (v := .int (nI fl)) (C := RX3) (T := TX3) (N := 18) hx hb hts in_X3 hown hK hP 0 rfl rfl 10 (by decide) (hts _ kX3_73) (fun _ h9 => h9) rfl dX3_takeOctet_1 ?_
  refine lv_if_ne (tgt := 17) hx hb dX3_takeOctet_4 (by decide) (fun c_1 => ?_) (fun c_1 => ?_)
  · have h0 : ¬ fl = 0 := fun z => c_1 (by rw [z]; decide)
    refine lv_iconst (v := 0) hx hb dX3_takeOctet_17 (by decide) ?_
    refine ri (y := nI 0) (nI_0.symm) ?_
    refine lv_istore_n (lv' := [(1, .int (nI 0)), (0, .ref h)]) hx hb dX3_takeOctet_18 rfl hl (by decide) rfl (fun ls hl => ?_)
    refine lv_iload_n hx hb dX3_takeOctet_19 rfl (lv_at hl 0 rfl) ?_
    refine lv_if_ge (tgt := 35) hx hb dX3_takeOctet_20 (by decide) (fun c_2 => ?_) (fun c_2 => absurd (nI_pos' (by decide)) c_2)
    refine lv_iload_n hx hb dX3_takeOctet_35 rfl (lv_at hl 0 rfl) ?_
    refine lv_iconst (v := 0) hx hb dX3_takeOctet_36 (by decide) ?_
    refine va_mmax hx hb (hml.trans hl.1.symm) hown (hts _ kX3_43) (hts _ zs_yJ9_max_7cf53) (hts _ zi_J9) (hts _ zc_yJ9_max_7cf53) (Nat.le_of_ble_eq_true rfl) (Nat.le_of_ble_eq_true rfl) (Nat.zero_le _) (Nat.zero_le _) dX3_takeOctet_37 ?_
    refine ri (y := nI 0) ((nI_max (a := 0) (b := 0) (by decide) (by decide)).trans (by rw [Nat.max_eq_left (Nat.zero_le _)])) ?_
    exact hret 40 ls _ _ _ (0, fl, pl, a) dX3_takeOctet_40 hP hD hS (⟨rfl, by rw [tkO, if_neg h0]⟩)
  · have h0 : fl = 0 := Decidable.byContradiction (fun z => nI_ne0 (Nat.pos_of_ne_zero z) hfl c_1)
    refine lv_aload_n hx hb dX3_takeOctet_7 rfl (lv_at hl 0 rfl) ?_
    refine va_get (D := D) (ci := 3) (v := .ref cf) (C := RX3) (T := TX3) (N := 18) hx hb hts in_X3 hown hK hP 0 rfl rfl 2 (by decide) (hts _ kX3_12) (fun _ h9 => h9) rfl dX3_takeOctet_8 ?_
    refine jn_i (wr := [(h, .inr (3, [.ref rm, .ref rg, .ref cf, .ref cd, .ref ck, .ref ca, .ref nr, .ref sr, .ref dl, .ref sp, .int (nI fl), .int (nI pl), .int wn, .int sk, .int ss, .int sm, .int wf, .int we]))]) hA hP hD hS [1, 2] [0] rfl rfl (by decide) (by decide) (rn_V (As := []) (rest := []) ⟨hx, hb, hml, hown, hts⟩ (cvV 0 hts zc_yX1_nextOctet zi_X1 zm_yX1_nextOctet zv_yX1_nextOctet kX3_83 (by decide +kernel) rfl rfl ⟨Nat.le_of_ble_eq_true rfl, Nat.le_of_ble_eq_true rfl⟩) (c_Cursor_nextOctet l D cI cB cJ cR cf o N a e f (by omega) (he) (by omega) s0.heap.size) hK hNw hMk hA hP hD hS [1, 2] rfl rfl (by decide) 0 rfl rfl rfl rfl hl.1 rfl (Nat.le_of_ble_eq_true rfl) dX3_takeOctet_11 ⟨Nat.le_of_ble_eq_true rfl, Nat.le_of_ble_eq_true rfl⟩) (fun r1 u9 H locs hw1 hP hD hS => ?_)
    obtain ⟨a1, rfl⟩ : ∃ z9, z9 = u9 := ⟨_, rfl⟩
    try dsimp only at hw1
    have hP : va_P D vwCl [(h, .inr (3, [.ref rm, .ref rg, .ref cf, .ref cd, .ref ck, .ref ca, .ref nr, .ref sr, .ref dl, .ref sp, .int (nI fl), .int (nI pl), .int wn, .int sk, .int ss, .int sm, .int wf, .int we])), (cf, .inr (1, [.ref o, .int (nI a1), .int (nI e)])), (o, .inl (cI, N, .inl f))] H := hP
    have hD : va_D A0 [(h, .inr (3, [.ref rm, .ref rg, .ref cf, .ref cd, .ref ck, .ref ca, .ref nr, .ref sr, .ref dl, .ref sp, .int (nI fl), .int (nI pl), .int wn, .int sk, .int ss, .int sm, .int wf, .int we])), (cf, .inr (1, [.ref o, .int (nI a1), .int (nI e)])), (o, .inl (cI, N, .inl f))] := hD
    refine lv_goto (tgt := 18) hx hb dX3_takeOctet_14 (by decide) ?_
    refine lv_istore_n (lv' := [(1, .int r1), (0, .ref h)]) hx hb dX3_takeOctet_18 rfl hl (by decide) rfl (fun ls hl => ?_)
    refine lv_iload_n hx hb dX3_takeOctet_19 rfl (lv_at hl 0 rfl) ?_
    refine lv_if_ge (tgt := 35) hx hb dX3_takeOctet_20 (by decide) (fun c_3 => ?_) (fun c_3 => ?_)
    · have hae : a < e := Decidable.byContradiction (fun z => by rw [if_neg z] at hw1; rw [hw1.1] at c_3; exact absurd c_3 (by decide))
      rw [if_pos hae, if_pos hae] at hw1
      obtain ⟨e1, e2⟩ := hw1
      rw [(hob a hae).1] at e1
      subst e1
      subst e2
      have hb8 := (hob a hae).2
      refine lv_iload_n hx hb dX3_takeOctet_35 rfl (lv_at hl 0 rfl) ?_
      refine lv_iconst (v := 0) hx hb dX3_takeOctet_36 (by decide) ?_
      refine va_mmax hx hb (hml.trans hl.1.symm) hown (hts _ kX3_43) (hts _ zs_yJ9_max_7cf53) (hts _ zi_J9) (hts _ zc_yJ9_max_7cf53) (Nat.le_of_ble_eq_true rfl) (Nat.le_of_ble_eq_true rfl) (Nat.zero_le _) (Nat.zero_le _) dX3_takeOctet_37 ?_
      refine ri (y := nI (b a)) ((nI_max (a := b a) (b := 0) (by omega) (by decide)).trans (by rw [Nat.max_eq_left (Nat.zero_le _)])) ?_
      exact hret 40 ls _ _ _ (b a, fl, pl, a + 1) dX3_takeOctet_40 hP hD hS (⟨rfl, by rw [tkO, if_pos h0, if_pos hae, h0]⟩)
    · have hae : ¬ a < e := fun z => by rw [if_pos z, if_pos z, (hob a z).1] at hw1; exact c_3 (by rw [hw1.1]; exact nI_pos' (by have := (hob a z).2; omega))
      rw [if_neg hae, if_neg hae] at hw1
      obtain ⟨e1, e2⟩ := hw1
      have e3 := e2.symm
      subst e3
      refine lv_aload_n hx hb dX3_takeOctet_23 rfl (lv_at hl 1 rfl) ?_
      refine lv_iconst (v := 1) hx hb dX3_takeOctet_24 (by decide) ?_
      refine lv_aload_n hx hb dX3_takeOctet_25 rfl (lv_at hl 1 rfl) ?_
      refine va_get (D := D) (ci := 3) (v := .ref cf) (C := RX3) (T := TX3) (N := 18) hx hb hts in_X3 hown hK hP 0 rfl rfl 2 (by decide) (hts _ kX3_12) (fun _ h9 => h9) rfl dX3_takeOctet_26 ?_
      refine va_get (D := D) (ci := 1) (v := .int (nI e)) (C := RX1) (T := TX1) (N := 3) hx hb hts in_X1 hown hK hP 1 rfl rfl 2 (by decide) (hts _ kX3_87) (fun _ h9 => h9) rfl dX3_takeOctet_29 ?_
      refine jn_v (wr := [(cf, .inr (1, [.ref o, .int (nI a), .int (nI e)])), (o, .inl (cI, N, .inl f))]) hA hP hD hS [0] [1, 2] rfl rfl (by decide) (by decide) (rn_V (As := [.int (nI 1), .int (nI e)]) (rest := []) ⟨hx, hb, hml, hown, hts⟩ (cvV 2 hts zc_yX3_fail zi_X3 zm_yX3_fail zv_yX3_fail kX3_90 (by decide +kernel) rfl rfl ⟨Nat.le_of_ble_eq_true rfl, Nat.le_of_ble_eq_true rfl⟩) (c_Reader_fail l D cI cB cJ cR h rm rg cf cd ck ca nr sr dl sp wn sk ss sm wf we fl pl 1 e (hfl) H.size) hK hNw hMk hA hP hD hS [0] rfl rfl (by decide) 0 rfl rfl rfl rfl hl.1 rfl (Nat.le_of_ble_eq_true rfl) dX3_takeOctet_32 ⟨Nat.le_of_ble_eq_true rfl, Nat.le_of_ble_eq_true rfl⟩) (fun u9 H locs w_7 hP hD hS => ?_)
      obtain ⟨fl2_4, pl2_5⟩ := u9
      try dsimp only at w_7
      have hP : va_P D vwCl [(cf, .inr (1, [.ref o, .int (nI a), .int (nI e)])), (o, .inl (cI, N, .inl f)), (h, .inr (3, [.ref rm, .ref rg, .ref cf, .ref cd, .ref ck, .ref ca, .ref nr, .ref sr, .ref dl, .ref sp, .int (nI fl2_4), .int (nI pl2_5), .int wn, .int sk, .int ss, .int sm, .int wf, .int we]))] H := hP
      have hD : va_D A0 [(cf, .inr (1, [.ref o, .int (nI a), .int (nI e)])), (o, .inl (cI, N, .inl f)), (h, .inr (3, [.ref rm, .ref rg, .ref cf, .ref cd, .ref ck, .ref ca, .ref nr, .ref sr, .ref dl, .ref sp, .int (nI fl2_4), .int (nI pl2_5), .int wn, .int sk, .int ss, .int sm, .int wf, .int we]))] := hD
      rw [if_pos h0] at w_7
      obtain ⟨f1, f2⟩ := Prod.mk.inj w_7.symm
      subst f1
      subst f2
      have hP : va_P D vwCl [(cf, .inr (1, [.ref o, .int (nI a), .int (nI e)])), (o, .inl (cI, N, .inl f)), (h, .inr (3, [.ref rm, .ref rg, .ref cf, .ref cd, .ref ck, .ref ca, .ref nr, .ref sr, .ref dl, .ref sp, .int (nI 1), .int (nI e), .int wn, .int sk, .int ss, .int sm, .int wf, .int we]))] H := hP
      have hD : va_D A0 [(cf, .inr (1, [.ref o, .int (nI a), .int (nI e)])), (o, .inl (cI, N, .inl f)), (h, .inr (3, [.ref rm, .ref rg, .ref cf, .ref cd, .ref ck, .ref ca, .ref nr, .ref sr, .ref dl, .ref sp, .int (nI 1), .int (nI e), .int wn, .int sk, .int ss, .int sm, .int wf, .int we]))] := hD
      refine lv_iload_n hx hb dX3_takeOctet_35 rfl (lv_at hl 0 rfl) ?_
      refine lv_iconst (v := 0) hx hb dX3_takeOctet_36 (by decide) ?_
      refine va_mmax hx hb (hml.trans hl.1.symm) hown (hts _ kX3_43) (hts _ zs_yJ9_max_7cf53) (hts _ zi_J9) (hts _ zc_yJ9_max_7cf53) (Nat.le_of_ble_eq_true rfl) (Nat.le_of_ble_eq_true rfl) (Nat.zero_le _) (Nat.zero_le _) dX3_takeOctet_37 ?_
      refine ri (y := nI 0) (by rw [e1]; decide) ?_
      have hP := hP.sub (ws' := [(h, .inr (3, [.ref rm, .ref rg, .ref cf, .ref cd, .ref ck, .ref ca, .ref nr, .ref sr, .ref dl, .ref sp, .int (nI 1), .int (nI e), .int wn, .int sk, .int ss, .int sm, .int wf, .int we])), (cf, .inr (1, [.ref o, .int (nI a), .int (nI e)])), (o, .inl (cI, N, .inl f))]) [2, 0, 1] rfl
      have hD := hD.sub (ws' := [(h, .inr (3, [.ref rm, .ref rg, .ref cf, .ref cd, .ref ck, .ref ca, .ref nr, .ref sr, .ref dl, .ref sp, .int (nI 1), .int (nI e), .int wn, .int sk, .int ss, .int sm, .int wf, .int we])), (cf, .inr (1, [.ref o, .int (nI a), .int (nI e)])), (o, .inl (cI, N, .inl f))]) [2, 0, 1] (by decide) rfl
      exact hret 40 ls _ _ _ (0, 1, e, a) dX3_takeOctet_40 hP hD hS (⟨rfl, by rw [tkO, if_pos h0, if_neg hae]⟩)

set_option maxHeartbeats 4000000 in
set_option maxRecDepth 100000 in
theorem c_Reader_takeNumber (l : Launch) (D : va_G) (cI cB cJ cR : ClassId) (h : Nat) (rm : Nat) (rg : Nat) (cf : Nat) (cd : Nat) (ck : Nat) (ca : Nat) (nr : Nat) (sr : Nat) (dl : Nat) (sp : Nat) (wn : Int32) (sk : Int32) (ss : Int32) (sm : Int32) (wf : Int32) (we : Int32) (fl : Nat) (pl : Nat) (a : Nat) (e : Nat) (o : Nat) (N : Nat) (f : Nat → Int32) (b : Nat → Nat) (hfl : fl < 2 ^ 31) (hN : N < 2 ^ 24) (he : e ≤ N) (ha : a < 2 ^ 27) (hob : octs f b e) : CMi l yX3_takeNumber cX3_takeNumber 3 (some .int) ({ frames := 2, cells := 0, slots := 0, locals := 45 }) D (tyA cI cB cJ cR) 0 0 [.ref h] [(h, .inr (3, [.ref rm, .ref rg, .ref cf, .ref cd, .ref ck, .ref ca, .ref nr, .ref sr, .ref dl, .ref sp, .int (nI fl), .int (nI pl), .int wn, .int sk, .int ss, .int sm, .int wf, .int we])), (cf, .inr (1, [.ref o, .int (nI a), .int (nI e)])), (o, .inl (cI, N, .inl f))] (fun (r : Int32) (u9 : Nat × Nat × Nat × Nat) => match u9 with | (v, fl2, pl2, a2) => r = nI v ∧ tkN b e (fl, pl, a) = (v, fl2, pl2, a2)) (fun (u9 : Nat × Nat × Nat × Nat) => match u9 with | (v, fl2, pl2, a2) => [(h, .inr (3, [.ref rm, .ref rg, .ref cf, .ref cd, .ref ck, .ref ca, .ref nr, .ref sr, .ref dl, .ref sp, .int (nI fl2), .int (nI pl2), .int wn, .int sk, .int ss, .int sm, .int wf, .int we])), (cf, .inr (1, [.ref o, .int (nI a2), .int (nI e)])), (o, .inl (cI, N, .inl f))]) := by
  refine st_i (cc := cX3_takeNumber) (maxL := 3) (by decide) (Nat.le_of_ble_eq_true rfl) ?_
  intro p0 e0 s0 m0 below meth c0 A0 Q0 hBD hret hP hD hS ls hl
  obtain ⟨hx, hb, hml, hown, hts, hnm, hK, hNw, hMk, hA⟩ := hBD
  have hl : lv_has ls 3 [(0, .ref h)] := hl
  have hP : va_P D vwCl [(h, .inr (3, [.ref rm, .ref rg, .ref cf, .ref cd, .ref ck, .ref ca, .ref nr, .ref sr, .ref dl, .ref sp, .int (nI fl), .int (nI pl), .int wn, .int sk, .int ss, .int sm, .int wf, .int we])), (cf, .inr (1, [.ref o, .int (nI a), .int (nI e)])), (o, .inl (cI, N, .inl f))] s0.heap := hP
  have hD : va_D A0 [(h, .inr (3, [.ref rm, .ref rg, .ref cf, .ref cd, .ref ck, .ref ca, .ref nr, .ref sr, .ref dl, .ref sp, .int (nI fl), .int (nI pl), .int wn, .int sk, .int ss, .int sm, .int wf, .int we])), (cf, .inr (1, [.ref o, .int (nI a), .int (nI e)])), (o, .inl (cI, N, .inl f))] := hD
  refine lv_aload_n hx hb dX3_takeNumber_0 rfl (lv_at hl 0 rfl) ?_
  refine va_get (D := D) (ci := 3) (v := .ref cf) (C := RX3) (T := TX3) (N := 18) hx hb hts in_X3 hown hK hP 0 rfl rfl 2 (by decide) (hts _ kX3_12) (fun _ h9 => h9) rfl dX3_takeNumber_1 ?_
  refine va_get (D := D) (ci := 1) (v := .int (nI a)) (C := RX1) (T := TX1) (N := 3) hx hb hts in_X1 hown hK hP 1 rfl rfl 1 (by decide) (hts _ kX3_94) (fun _ h9 => h9) rfl dX3_takeNumber_4 ?_
  refine lv_istore_n (lv' := [(1, .int (nI a)), (0, .ref h)]) hx hb dX3_takeNumber_7 rfl hl (by decide) rfl (fun ls hl => ?_)
  refine lv_aload_n hx hb dX3_takeNumber_8 rfl (lv_at hl 1 rfl) ?_
  refine va_get (D := D) (ci := 3) (v := .int (nI fl)) (C := RX3) (T := TX3) (N := 18) hx hb hts in_X3 hown hK hP 0 rfl rfl 10 (by decide) (hts _ kX3_73) (fun _ h9 => h9) rfl dX3_takeNumber_9 ?_
  refine lv_if_ne (tgt := 25) hx hb dX3_takeNumber_12 (by decide) (fun c_1 => ?_) (fun c_1 => ?_)
  · have h0 : ¬ fl = 0 := fun z => c_1 (by rw [z]; decide)
    refine lv_iconst (v := 0) hx hb dX3_takeNumber_25 (by decide) ?_
    refine ri (y := nI 0) (nI_0.symm) ?_
    refine lv_istore_n (lv' := [(2, .int (nI 0)), (1, .int (nI a)), (0, .ref h)]) hx hb dX3_takeNumber_26 rfl hl (by decide) rfl (fun ls hl => ?_)
    refine lv_iload_n hx hb dX3_takeNumber_27 rfl (lv_at hl 0 rfl) ?_
    refine lv_iconst (v := -1) hx hb dX3_takeNumber_28 (by decide) ?_
    refine lv_icmp_ne (tgt := 47) hx hb dX3_takeNumber_29 (by decide) (fun c_2 => ?_) (fun c_2 => absurd c_2 (by decide))
    refine lv_iload_n hx hb dX3_takeNumber_47 rfl (lv_at hl 0 rfl) ?_
    refine lv_bipush (v := -2) hx hb dX3_takeNumber_48 (by decide) ?_
    refine lv_icmp_ne (tgt := 59) hx hb dX3_takeNumber_50 (by decide) (fun c_3 => ?_) (fun c_3 => absurd c_3 (by decide))
    refine lv_iload_n hx hb dX3_takeNumber_59 rfl (lv_at hl 0 rfl) ?_
    refine lv_iconst (v := 0) hx hb dX3_takeNumber_60 (by decide) ?_
    refine va_mmax hx hb (hml.trans hl.1.symm) hown (hts _ kX3_43) (hts _ zs_yJ9_max_7cf53) (hts _ zi_J9) (hts _ zc_yJ9_max_7cf53) (Nat.le_of_ble_eq_true rfl) (Nat.le_of_ble_eq_true rfl) (Nat.zero_le _) (Nat.zero_le _) dX3_takeNumber_61 ?_
    refine ri (y := nI 0) ((nI_max (a := 0) (b := 0) (by decide) (by decide)).trans (by rw [Nat.max_eq_left (Nat.zero_le _)])) ?_
    exact hret 64 ls _ _ _ (0, fl, pl, a) dX3_takeNumber_64 hP hD hS (⟨rfl, by rw [tkN, if_neg h0]⟩)
  · have h0 : fl = 0 := Decidable.byContradiction (fun z => nI_ne0 (Nat.pos_of_ne_zero z) hfl c_1)
    refine lv_aload_n hx hb dX3_takeNumber_15 rfl (lv_at hl 1 rfl) ?_
    refine va_get (D := D) (ci := 3) (v := .ref cf) (C := RX3) (T := TX3) (N := 18) hx hb hts in_X3 hown hK hP 0 rfl rfl 2 (by decide) (hts _ kX3_12) (fun _ h9 => h9) rfl dX3_takeNumber_16 ?_
    refine jn_i (wr := [(h, .inr (3, [.ref rm, .ref rg, .ref cf, .ref cd, .ref ck, .ref ca, .ref nr, .ref sr, .ref dl, .ref sp, .int (nI fl), .int (nI pl), .int wn, .int sk, .int ss, .int sm, .int wf, .int we]))]) hA hP hD hS [1, 2] [0] rfl rfl (by decide) (by decide) (rn_V (As := []) (rest := []) ⟨hx, hb, hml, hown, hts⟩ (cvV 0 hts zc_yX1_nextNumber zi_X1 zm_yX1_nextNumber zv_yX1_nextNumber kX3_97 (by decide +kernel) rfl rfl ⟨Nat.le_of_ble_eq_true rfl, Nat.le_of_ble_eq_true rfl⟩) (c_Cursor_nextNumber l D cI cB cJ cR cf o N a e f b (by omega) (he) (by omega) (hob) s0.heap.size) hK hNw hMk hA hP hD hS [1, 2] rfl rfl (by decide) 0 rfl rfl rfl rfl hl.1 rfl (Nat.le_of_ble_eq_true rfl) dX3_takeNumber_19 ⟨Nat.le_of_ble_eq_true rfl, Nat.le_of_ble_eq_true rfl⟩) (fun r1 u9 H locs hw1 hP hD hS => ?_)
    obtain ⟨a1, rfl⟩ : ∃ z9, z9 = u9 := ⟨_, rfl⟩
    try dsimp only at hw1
    have hP : va_P D vwCl [(h, .inr (3, [.ref rm, .ref rg, .ref cf, .ref cd, .ref ck, .ref ca, .ref nr, .ref sr, .ref dl, .ref sp, .int (nI fl), .int (nI pl), .int wn, .int sk, .int ss, .int sm, .int wf, .int we])), (cf, .inr (1, [.ref o, .int (nI a1), .int (nI e)])), (o, .inl (cI, N, .inl f))] H := hP
    have hD : va_D A0 [(h, .inr (3, [.ref rm, .ref rg, .ref cf, .ref cd, .ref ck, .ref ca, .ref nr, .ref sr, .ref dl, .ref sp, .int (nI fl), .int (nI pl), .int wn, .int sk, .int ss, .int sm, .int wf, .int we])), (cf, .inr (1, [.ref o, .int (nI a1), .int (nI e)])), (o, .inl (cI, N, .inl f))] := hD
    obtain ⟨e1, e2⟩ := hw1
    subst e2
    have hle2 := rdN_le2 (b := b) (e := e) 5 a 0
    refine lv_goto (tgt := 26) hx hb dX3_takeNumber_22 (by decide) ?_
    refine lv_istore_n (lv' := [(2, .int r1), (1, .int (nI a)), (0, .ref h)]) hx hb dX3_takeNumber_26 rfl hl (by decide) rfl (fun ls hl => ?_)
    refine lv_iload_n hx hb dX3_takeNumber_27 rfl (lv_at hl 0 rfl) ?_
    refine lv_iconst (v := -1) hx hb dX3_takeNumber_28 (by decide) ?_
    refine lv_icmp_ne (tgt := 47) hx hb dX3_takeNumber_29 (by decide) (fun c_4 => ?_) (fun c_4 => ?_)
    · have hc1 : ¬ (rdN b e 5 a 0).1 = 1 := fun z => c_4 (by rw [e1, rdI, z]; rfl)
      refine lv_iload_n hx hb dX3_takeNumber_47 rfl (lv_at hl 0 rfl) ?_
      refine lv_bipush (v := -2) hx hb dX3_takeNumber_48 (by decide) ?_
      refine lv_icmp_ne (tgt := 59) hx hb dX3_takeNumber_50 (by decide) (fun c_5 => ?_) (fun c_5 => ?_)
      · have hc2 : (rdN b e 5 a 0).1 = 0 := by
          have hc3 : ¬ (rdN b e 5 a 0).1 = 2 := fun z => c_5 (by rw [e1, rdI, z]; rfl)
          omega
        have hok := rdN_ok (b := b) (e := e) 5 a 0 hc2
        have e9 : r1 = nI (rdN b e 5 a 0).2.1 := by rw [e1, rdI, if_pos hc2]
        subst e9
        refine lv_iload_n hx hb dX3_takeNumber_59 rfl (lv_at hl 0 rfl) ?_
        refine lv_iconst (v := 0) hx hb dX3_takeNumber_60 (by decide) ?_
        refine va_mmax hx hb (hml.trans hl.1.symm) hown (hts _ kX3_43) (hts _ zs_yJ9_max_7cf53) (hts _ zi_J9) (hts _ zc_yJ9_max_7cf53) (Nat.le_of_ble_eq_true rfl) (Nat.le_of_ble_eq_true rfl) (Nat.zero_le _) (Nat.zero_le _) dX3_takeNumber_61 ?_
        refine ri (y := nI (rdN b e 5 a 0).2.1) ((nI_max (a := (rdN b e 5 a 0).2.1) (b := 0) (by omega) (by decide)).trans (by rw [Nat.max_eq_left (Nat.zero_le _)])) ?_
        exact hret 64 ls _ _ _ ((rdN b e 5 a 0).2.1, fl, pl, (rdN b e 5 a 0).2.2) dX3_takeNumber_64 hP hD hS (⟨rfl, by rw [tkN, if_pos h0, if_pos hc2, h0]⟩)
      · have hc2 : (rdN b e 5 a 0).1 = 2 := Decidable.byContradiction (fun z => by
          have z0 : (rdN b e 5 a 0).1 = 0 := by omega
          have hok := rdN_ok (b := b) (e := e) 5 a 0 z0
          rw [e1, rdI, if_pos z0] at c_5
          exact absurd (show nI (rdN b e 5 a 0).2.1 < 0 by rw [c_5]; decide) (nI_pos (by omega)))
        refine lv_aload_n hx hb dX3_takeNumber_53 rfl (lv_at hl 2 rfl) ?_
        refine lv_iconst (v := 4) hx hb dX3_takeNumber_54 (by decide) ?_
        refine lv_iload_n hx hb dX3_takeNumber_55 rfl (lv_at hl 1 rfl) ?_
        refine jn_v (wr := [(cf, .inr (1, [.ref o, .int (nI (rdN b e 5 a 0).2.2), .int (nI e)])), (o, .inl (cI, N, .inl f))]) hA hP hD hS [0] [1, 2] rfl rfl (by decide) (by decide) (rn_V (As := [.int (nI 4), .int (nI a)]) (rest := []) ⟨hx, hb, hml, hown, hts⟩ (cvV 2 hts zc_yX3_fail zi_X3 zm_yX3_fail zv_yX3_fail kX3_90 (by decide +kernel) rfl rfl ⟨Nat.le_of_ble_eq_true rfl, Nat.le_of_ble_eq_true rfl⟩) (c_Reader_fail l D cI cB cJ cR h rm rg cf cd ck ca nr sr dl sp wn sk ss sm wf we fl pl 4 a (hfl) H.size) hK hNw hMk hA hP hD hS [0] rfl rfl (by decide) 0 rfl rfl rfl rfl hl.1 rfl (Nat.le_of_ble_eq_true rfl) dX3_takeNumber_56 ⟨Nat.le_of_ble_eq_true rfl, Nat.le_of_ble_eq_true rfl⟩) (fun u9 H locs w_9 hP hD hS => ?_)
        obtain ⟨fl2_6, pl2_7⟩ := u9
        try dsimp only at w_9
        have hP : va_P D vwCl [(cf, .inr (1, [.ref o, .int (nI (rdN b e 5 a 0).2.2), .int (nI e)])), (o, .inl (cI, N, .inl f)), (h, .inr (3, [.ref rm, .ref rg, .ref cf, .ref cd, .ref ck, .ref ca, .ref nr, .ref sr, .ref dl, .ref sp, .int (nI fl2_6), .int (nI pl2_7), .int wn, .int sk, .int ss, .int sm, .int wf, .int we]))] H := hP
        have hD : va_D A0 [(cf, .inr (1, [.ref o, .int (nI (rdN b e 5 a 0).2.2), .int (nI e)])), (o, .inl (cI, N, .inl f)), (h, .inr (3, [.ref rm, .ref rg, .ref cf, .ref cd, .ref ck, .ref ca, .ref nr, .ref sr, .ref dl, .ref sp, .int (nI fl2_6), .int (nI pl2_7), .int wn, .int sk, .int ss, .int sm, .int wf, .int we]))] := hD
        rw [if_pos h0] at w_9
        obtain ⟨f1, f2⟩ := Prod.mk.inj w_9.symm
        subst f1
        subst f2
        have hP : va_P D vwCl [(cf, .inr (1, [.ref o, .int (nI (rdN b e 5 a 0).2.2), .int (nI e)])), (o, .inl (cI, N, .inl f)), (h, .inr (3, [.ref rm, .ref rg, .ref cf, .ref cd, .ref ck, .ref ca, .ref nr, .ref sr, .ref dl, .ref sp, .int (nI 4), .int (nI a), .int wn, .int sk, .int ss, .int sm, .int wf, .int we]))] H := hP
        have hD : va_D A0 [(cf, .inr (1, [.ref o, .int (nI (rdN b e 5 a 0).2.2), .int (nI e)])), (o, .inl (cI, N, .inl f)), (h, .inr (3, [.ref rm, .ref rg, .ref cf, .ref cd, .ref ck, .ref ca, .ref nr, .ref sr, .ref dl, .ref sp, .int (nI 4), .int (nI a), .int wn, .int sk, .int ss, .int sm, .int wf, .int we]))] := hD
        refine lv_iload_n hx hb dX3_takeNumber_59 rfl (lv_at hl 0 rfl) ?_
        refine lv_iconst (v := 0) hx hb dX3_takeNumber_60 (by decide) ?_
        refine va_mmax hx hb (hml.trans hl.1.symm) hown (hts _ kX3_43) (hts _ zs_yJ9_max_7cf53) (hts _ zi_J9) (hts _ zc_yJ9_max_7cf53) (Nat.le_of_ble_eq_true rfl) (Nat.le_of_ble_eq_true rfl) (Nat.zero_le _) (Nat.zero_le _) dX3_takeNumber_61 ?_
        refine ri (y := nI 0) (by rw [e1, rdI, hc2]; rfl) ?_
        have hP := hP.sub (ws' := [(h, .inr (3, [.ref rm, .ref rg, .ref cf, .ref cd, .ref ck, .ref ca, .ref nr, .ref sr, .ref dl, .ref sp, .int (nI 4), .int (nI a), .int wn, .int sk, .int ss, .int sm, .int wf, .int we])), (cf, .inr (1, [.ref o, .int (nI (rdN b e 5 a 0).2.2), .int (nI e)])), (o, .inl (cI, N, .inl f))]) [2, 0, 1] rfl
        have hD := hD.sub (ws' := [(h, .inr (3, [.ref rm, .ref rg, .ref cf, .ref cd, .ref ck, .ref ca, .ref nr, .ref sr, .ref dl, .ref sp, .int (nI 4), .int (nI a), .int wn, .int sk, .int ss, .int sm, .int wf, .int we])), (cf, .inr (1, [.ref o, .int (nI (rdN b e 5 a 0).2.2), .int (nI e)])), (o, .inl (cI, N, .inl f))]) [2, 0, 1] (by decide) rfl
        exact hret 64 ls _ _ _ (0, 4, a, (rdN b e 5 a 0).2.2) dX3_takeNumber_64 hP hD hS (⟨rfl, by rw [tkN, if_pos h0, if_neg (show ¬ (rdN b e 5 a 0).1 = 0 by rw [hc2]; decide), if_neg hc1]⟩)
    · have hc1 : (rdN b e 5 a 0).1 = 1 := Decidable.byContradiction (fun z => by
        rw [e1] at c_4
        by_cases z0 : (rdN b e 5 a 0).1 = 0
        · have hok := rdN_ok (b := b) (e := e) 5 a 0 z0
          rw [rdI, if_pos z0] at c_4
          exact absurd (show nI (rdN b e 5 a 0).2.1 < 0 by rw [c_4]; decide) (nI_pos (by omega))
        · rw [rdI, if_neg z0, if_neg z] at c_4; exact absurd c_4 (by decide))
      refine lv_aload_n hx hb dX3_takeNumber_32 rfl (lv_at hl 2 rfl) ?_
      refine lv_iconst (v := 1) hx hb dX3_takeNumber_33 (by decide) ?_
      refine lv_aload_n hx hb dX3_takeNumber_34 rfl (lv_at hl 2 rfl) ?_
      refine va_get (D := D) (ci := 3) (v := .ref cf) (C := RX3) (T := TX3) (N := 18) hx hb hts in_X3 hown hK hP 0 rfl rfl 2 (by decide) (hts _ kX3_12) (fun _ h9 => h9) rfl dX3_takeNumber_35 ?_
      refine va_get (D := D) (ci := 1) (v := .int (nI e)) (C := RX1) (T := TX1) (N := 3) hx hb hts in_X1 hown hK hP 1 rfl rfl 2 (by decide) (hts _ kX3_87) (fun _ h9 => h9) rfl dX3_takeNumber_38 ?_
      refine jn_v (wr := [(cf, .inr (1, [.ref o, .int (nI (rdN b e 5 a 0).2.2), .int (nI e)])), (o, .inl (cI, N, .inl f))]) hA hP hD hS [0] [1, 2] rfl rfl (by decide) (by decide) (rn_V (As := [.int (nI 1), .int (nI e)]) (rest := []) ⟨hx, hb, hml, hown, hts⟩ (cvV 2 hts zc_yX3_fail zi_X3 zm_yX3_fail zv_yX3_fail kX3_90 (by decide +kernel) rfl rfl ⟨Nat.le_of_ble_eq_true rfl, Nat.le_of_ble_eq_true rfl⟩) (c_Reader_fail l D cI cB cJ cR h rm rg cf cd ck ca nr sr dl sp wn sk ss sm wf we fl pl 1 e (hfl) H.size) hK hNw hMk hA hP hD hS [0] rfl rfl (by decide) 0 rfl rfl rfl rfl hl.1 rfl (Nat.le_of_ble_eq_true rfl) dX3_takeNumber_41 ⟨Nat.le_of_ble_eq_true rfl, Nat.le_of_ble_eq_true rfl⟩) (fun u9 H locs w_13 hP hD hS => ?_)
      obtain ⟨fl2_10, pl2_11⟩ := u9
      try dsimp only at w_13
      have hP : va_P D vwCl [(cf, .inr (1, [.ref o, .int (nI (rdN b e 5 a 0).2.2), .int (nI e)])), (o, .inl (cI, N, .inl f)), (h, .inr (3, [.ref rm, .ref rg, .ref cf, .ref cd, .ref ck, .ref ca, .ref nr, .ref sr, .ref dl, .ref sp, .int (nI fl2_10), .int (nI pl2_11), .int wn, .int sk, .int ss, .int sm, .int wf, .int we]))] H := hP
      have hD : va_D A0 [(cf, .inr (1, [.ref o, .int (nI (rdN b e 5 a 0).2.2), .int (nI e)])), (o, .inl (cI, N, .inl f)), (h, .inr (3, [.ref rm, .ref rg, .ref cf, .ref cd, .ref ck, .ref ca, .ref nr, .ref sr, .ref dl, .ref sp, .int (nI fl2_10), .int (nI pl2_11), .int wn, .int sk, .int ss, .int sm, .int wf, .int we]))] := hD
      rw [if_pos h0] at w_13
      obtain ⟨f1, f2⟩ := Prod.mk.inj w_13.symm
      subst f1
      subst f2
      have hP : va_P D vwCl [(cf, .inr (1, [.ref o, .int (nI (rdN b e 5 a 0).2.2), .int (nI e)])), (o, .inl (cI, N, .inl f)), (h, .inr (3, [.ref rm, .ref rg, .ref cf, .ref cd, .ref ck, .ref ca, .ref nr, .ref sr, .ref dl, .ref sp, .int (nI 1), .int (nI e), .int wn, .int sk, .int ss, .int sm, .int wf, .int we]))] H := hP
      have hD : va_D A0 [(cf, .inr (1, [.ref o, .int (nI (rdN b e 5 a 0).2.2), .int (nI e)])), (o, .inl (cI, N, .inl f)), (h, .inr (3, [.ref rm, .ref rg, .ref cf, .ref cd, .ref ck, .ref ca, .ref nr, .ref sr, .ref dl, .ref sp, .int (nI 1), .int (nI e), .int wn, .int sk, .int ss, .int sm, .int wf, .int we]))] := hD
      refine lv_goto (tgt := 59) hx hb dX3_takeNumber_44 (by decide) ?_
      refine lv_iload_n hx hb dX3_takeNumber_59 rfl (lv_at hl 0 rfl) ?_
      refine lv_iconst (v := 0) hx hb dX3_takeNumber_60 (by decide) ?_
      refine va_mmax hx hb (hml.trans hl.1.symm) hown (hts _ kX3_43) (hts _ zs_yJ9_max_7cf53) (hts _ zi_J9) (hts _ zc_yJ9_max_7cf53) (Nat.le_of_ble_eq_true rfl) (Nat.le_of_ble_eq_true rfl) (Nat.zero_le _) (Nat.zero_le _) dX3_takeNumber_61 ?_
      refine ri (y := nI 0) (by rw [e1, rdI, hc1]; rfl) ?_
      have hP := hP.sub (ws' := [(h, .inr (3, [.ref rm, .ref rg, .ref cf, .ref cd, .ref ck, .ref ca, .ref nr, .ref sr, .ref dl, .ref sp, .int (nI 1), .int (nI e), .int wn, .int sk, .int ss, .int sm, .int wf, .int we])), (cf, .inr (1, [.ref o, .int (nI (rdN b e 5 a 0).2.2), .int (nI e)])), (o, .inl (cI, N, .inl f))]) [2, 0, 1] rfl
      have hD := hD.sub (ws' := [(h, .inr (3, [.ref rm, .ref rg, .ref cf, .ref cd, .ref ck, .ref ca, .ref nr, .ref sr, .ref dl, .ref sp, .int (nI 1), .int (nI e), .int wn, .int sk, .int ss, .int sm, .int wf, .int we])), (cf, .inr (1, [.ref o, .int (nI (rdN b e 5 a 0).2.2), .int (nI e)])), (o, .inl (cI, N, .inl f))]) [2, 0, 1] (by decide) rfl
      exact hret 64 ls _ _ _ (0, 1, e, (rdN b e 5 a 0).2.2) dX3_takeNumber_64 hP hD hS (⟨rfl, by rw [tkN, if_pos h0, if_neg (show ¬ (rdN b e 5 a 0).1 = 0 by rw [hc1]; decide), if_pos hc1]⟩)
