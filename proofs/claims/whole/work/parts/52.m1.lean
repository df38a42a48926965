/-! THE REFERENCE: its fields as a function; octets as signed bytes -/
def frm (S : List Nat) (g g2 : Nat → Value) : Prop := ∀ i, i ∉ S → g2 i = g i
theorem frm_refl {S : List Nat} {g : Nat → Value} : frm S g g := fun _ _ => rfl
theorem frm_up {S : List Nat} {g g1 : Nat → Value} {i : Nat} {v : Value} (h : frm S g g1) (hi : i ∈ S) : frm S g (va_up g1 i v) := fun j hj => (va_up_ne _ _ (fun q => hj (by rw [q]; exact hi))).trans (h j hj)
theorem frm_tr {S T : List Nat} {g g1 g2 : Nat → Value} (h : frm S g g1) (h2 : frm T g1 g2) (hs : ∀ i ∈ T, i ∈ S) : frm S g g2 := fun j hj => (h2 j (fun q => hj (hs j q))).trans (h j hj)
def s8 (v : Nat) : Int32 := (nI v).toInt8.toInt32
def bys (f : Nat → Int32) (b : Nat → Nat) (n : Nat) : Prop := ∀ j, j < n → f j = s8 (b j) ∧ b j < 256
theorem s8_and : ∀ v, v < 256 → s8 v &&& 255 = nI v := by decide +kernel
theorem s8_lo : ∀ v, v < 128 → s8 v = nI v := by decide +kernel
theorem s8_hi : ∀ v, v < 256 → 128 ≤ v → s8 v < 0 := by decide +kernel
theorem s8_re : ∀ v, v < 256 → (s8 v).toInt8.toInt32 = s8 v := by decide +kernel
theorem s8_eq : ∀ v, v < 256 → (nI v).toInt8.toInt32 = s8 v := fun _ _ => rfl
theorem s8_inj {a b : Nat} (ha : a < 256) (hb : b < 256) : s8 a = s8 b ↔ a = b := by
  constructor
  · intro h
    have h2 : s8 a &&& 255 = s8 b &&& 255 := by rw [h]
    rw [s8_and a ha, s8_and b hb] at h2
    exact (nI_eq (by omega) (by omega)).mp h2
  · intro h; rw [h]
theorem bys_up {f : Nat → Int32} {b : Nat → Nat} {n k v : Nat} (h : bys f b n) (hv : v < 256) : bys (upd f k (s8 v)) (va_up b k v) n := by
  intro j hj
  by_cases q : j = k
  · subst q; rw [pk_us, va_up_self]; exact ⟨rfl, hv⟩
  · rw [pk_un q, va_up_ne _ _ q]; exact h j hj
set_option maxHeartbeats 4000000 in
set_option maxRecDepth 100000 in
theorem m_in (l : Launch) (D : va_G) (cI cB cJ cR : ClassId) (x : Int64) (lo : Int64) (hi_ : Int64)  : CMz l yX9_in cX9_in 6 (some .boolean) ({ frames := 0, cells := 0, slots := 0, locals := 0 }) D (tyA cI cB cJ cR) 0 0 [.long x, .long lo, .long hi_] [] (fun (r : Bool) (_ : Unit) => r = decide (lo ≤ x ∧ x ≤ hi_)) (fun (_ : Unit) => []) := by
  refine st_z (cc := cX9_in) (maxL := 6) (by decide) (Nat.le_of_ble_eq_true rfl) ?_
  intro p0 e0 s0 m0 below meth c0 A0 Q0 hBD hret hP hD hS ls hl
  obtain ⟨hx, hb, hml, hown, hts, hnm, hK, hNw, hMk, hA⟩ := hBD
  have hl : lv_has ls 6 [(0, .long x), (2, .long lo), (4, .long hi_)] := hl
  have hP : va_P D vwCl [] s0.heap := hP
  have hD : va_D A0 [] := hD
  refine lv_lload_n hx hb dX9_in_0 rfl (lv_at hl 0 rfl) ?_
  refine lv_lload_n hx hb dX9_in_1 rfl (lv_at hl 1 rfl) ?_
  refine W.lcmp hx hb dX9_in_2 ?_
  refine lv_if_lt (tgt := 17) hx hb dX9_in_3 (by decide) (fun c_1 => ?_) (fun c_1 => ?_)
  · refine lv_iconst (v := 0) hx hb dX9_in_17 (by decide) ?_
    exact hret 18 ls _ _ false () dX9_in_18 hP hD hS (by symm; exact decide_eq_false (fun q => Int64.not_lt.mpr q.1 ((lg_cmp_lt _ _).mp c_1)))
  · refine lv_lload_n hx hb dX9_in_6 rfl (lv_at hl 0 rfl) ?_
    refine lv_lload hx hb dX9_in_7 (lv_at hl 2 rfl) ?_
    refine W.lcmp hx hb dX9_in_9 ?_
    refine lv_if_gt (tgt := 17) hx hb dX9_in_10 (by decide) (fun c_2 => ?_) (fun c_2 => ?_)
    · refine lv_iconst (v := 0) hx hb dX9_in_17 (by decide) ?_
      exact hret 18 ls _ _ false () dX9_in_18 hP hD hS (by symm; exact decide_eq_false (fun q => Int64.not_lt.mpr q.2 ((lg_cmp_gt _ _).mp c_2)))
    · refine lv_iconst (v := 1) hx hb dX9_in_13 (by decide) ?_
      refine lv_goto (tgt := 18) hx hb dX9_in_14 (by decide) ?_
      exact hret 18 ls _ _ true () dX9_in_18 hP hD hS (by symm; exact decide_eq_true ⟨Int64.not_lt.mp (fun z => c_1 ((lg_cmp_lt _ _).mpr z)), Int64.not_lt.mp (fun z => c_2 ((lg_cmp_gt _ _).mpr z))⟩)

set_option maxHeartbeats 4000000 in
set_option maxRecDepth 100000 in
theorem m_room (l : Launch) (D : va_G) (cI cB cJ cR : ClassId) (k : Nat) (hk : k < 4) : CMi l yX9_room cX9_room 1 (some .int) ({ frames := 0, cells := 0, slots := 0, locals := 0 }) D (tyA cI cB cJ cR) 0 0 [.int (nI k)] [] (fun (r : Int32) (_ : Unit) => r = nI (rmN k)) (fun (_ : Unit) => []) := by
  refine st_i (cc := cX9_room) (maxL := 1) (by decide) (Nat.le_of_ble_eq_true rfl) ?_
  intro p0 e0 s0 m0 below meth c0 A0 Q0 hBD hret hP hD hS ls hl
  obtain ⟨hx, hb, hml, hown, hts, hnm, hK, hNw, hMk, hA⟩ := hBD
  have hl : lv_has ls 1 [(0, .int (nI k))] := hl
  have hP : va_P D vwCl [] s0.heap := hP
  have hD : va_D A0 [] := hD
  refine lv_iload_n hx hb dX9_room_0 rfl (lv_at hl 0 rfl) ?_
  refine lv_iconst (v := 2) hx hb dX9_room_1 (by decide) ?_
  refine lv_icmp_ge (tgt := 11) hx hb dX9_room_2 (by decide) (fun c_1 => ?_) (fun c_1 => ?_)
  · have h2 : ¬ k < 2 := Nat.not_lt.mpr ((nI_leI (a := 2) (by decide) (by omega)).mp c_1)
    refine lv_sipush (v := 8000) hx hb dX9_room_11 (by decide) ?_
    refine ri (y := nI (rmN k)) (by rw [rmN, if_neg h2]; rfl) ?_
    exact hret 14 ls _ _ _ () dX9_room_14 hP hD hS (rfl)
  · have h2 : k < 2 := Nat.not_le.mp (fun q => c_1 (nI_le (a := 2) q (by omega)))
    refine lv_sipush (v := 4000) hx hb dX9_room_5 (by decide) ?_
    refine lv_goto (tgt := 14) hx hb dX9_room_8 (by decide) ?_
    refine ri (y := nI (rmN k)) (by rw [rmN, if_pos h2]; rfl) ?_
    exact hret 14 ls _ _ _ () dX9_room_14 hP hD hS (rfl)

set_option maxHeartbeats 4000000 in
set_option maxRecDepth 100000 in
theorem m_fail (l : Launch) (D : va_G) (cI cB cJ cR : ClassId) (mm : Nat) (g : Nat → Value) (fu : Nat) (pl : Nat) (k : Nat) (w : Nat) (g_fault : g 36 = .int (nI fu)) (g_place : g 37 = .int (nI pl)) (hfl : fu < 2 ^ 31) : CMv l yX9_fail cX9_fail 3 none ({ frames := 0, cells := 0, slots := 0, locals := 0 }) D (tyA cI cB cJ cR) 0 0 [.ref mm, .int (nI k), .int (nI w)] [(mm, .inr (9, fl 78 g))] (fun (u9 : (Nat → Value) × Nat × Nat) => match u9 with | (g9, fu2, pl2) => frm [36, 37] g g9 ∧ g9 36 = .int (nI fu2) ∧ g9 37 = .int (nI pl2) ∧ (fu2, pl2) = (if fu = 0 then (k, w) else (fu, pl))) (fun (u9 : (Nat → Value) × Nat × Nat) => match u9 with | (g9, fu2, pl2) => [(mm, .inr (9, fl 78 g9))]) := by
  refine st_v (cc := cX9_fail) (maxL := 3) (by decide) (Nat.le_of_ble_eq_true rfl) ?_
  intro p0 e0 s0 m0 below meth c0 A0 Q0 hBD hret hP hD hS ls hl
  obtain ⟨hx, hb, hml, hown, hts, hnm, hK, hNw, hMk, hA⟩ := hBD
  have hl : lv_has ls 3 [(0, .ref mm), (1, .int (nI k)), (2, .int (nI w))] := hl
  have hP : va_P D vwCl [(mm, .inr (9, fl 78 g))] s0.heap := hP
  have hD : va_D A0 [(mm, .inr (9, fl 78 g))] := hD
  refine lv_aload_n hx hb dX9_fail_0 rfl (lv_at hl 0 rfl) ?_
  refine fx_get (D := D) (ci := 9) (v := .int (nI fu)) (C := RX9) (T := TX9) (N := 78) hx hb hts in_X9 hown hK hP 0 rfl rfl 36 (by decide) (hts _ kX9_179) (fun _ h9 => h9) (g_fault) dX9_fail_1 ?_
  refine lv_if_ne (tgt := 17) hx hb dX9_fail_4 (by decide) (fun c_1 => ?_) (fun c_1 => ?_)
  · have h0 : ¬ fu = 0 := fun z => c_1 (by rw [z]; decide)
    exact hret 17 ls _ _ (g, fu, pl) dX9_fail_17 hP hD hS (⟨frm_refl, g_fault, g_place, by rw [if_neg h0]⟩)
  · have h0 : fu = 0 := Decidable.byContradiction (fun z => nI_ne0 (Nat.pos_of_ne_zero z) hfl c_1)
    refine lv_aload_n hx hb dX9_fail_7 rfl (lv_at hl 0 rfl) ?_
    refine lv_iload_n hx hb dX9_fail_8 rfl (lv_at hl 1 rfl) ?_
    refine fx_put (D := D) (ci := 9) (v := .int (nI k)) (ty := .int) (C := RX9) (T := TX9) (N := 78) hx hb hts in_X9 tyX9 tyX9_ok nmX9 hown hK hP hD hS 0 rfl rfl 36 (by decide) (hts _ kX9_179) (fun _ h9 => h9) rfl (by decide +kernel) rfl rfl dX9_fail_9 (fun H locs hP hD hS => ?_)
    have hP : va_P D vwCl [(mm, .inr (9, fl 78 (va_up g 36 (.int (nI k)))))] H := hP
    have hD : va_D A0 [(mm, .inr (9, fl 78 (va_up g 36 (.int (nI k)))))] := hD
    refine lv_aload_n hx hb dX9_fail_12 rfl (lv_at hl 0 rfl) ?_
    refine lv_iload_n hx hb dX9_fail_13 rfl (lv_at hl 2 rfl) ?_
    refine fx_put (D := D) (ci := 9) (v := .int (nI w)) (ty := .int) (C := RX9) (T := TX9) (N := 78) hx hb hts in_X9 tyX9 tyX9_ok nmX9 hown hK hP hD hS 0 rfl rfl 37 (by decide) (hts _ kX9_182) (fun _ h9 => h9) rfl (by decide +kernel) rfl rfl dX9_fail_14 (fun H locs hP hD hS => ?_)
    have hP : va_P D vwCl [(mm, .inr (9, fl 78 (va_up (va_up g 36 (.int (nI k))) 37 (.int (nI w)))))] H := hP
    have hD : va_D A0 [(mm, .inr (9, fl 78 (va_up (va_up g 36 (.int (nI k))) 37 (.int (nI w)))))] := hD
    exact hret 17 ls _ _ ((va_up (va_up g 36 (.int (nI k))) 37 (.int (nI w))), k, w) dX9_fail_17 hP hD hS (⟨(frm_up (frm_up frm_refl (by decide)) (by decide)), rfl, rfl, by rw [if_pos h0]⟩)

set_option maxHeartbeats 4000000 in
set_option maxRecDepth 100000 in
theorem m_take (l : Launch) (D : va_G) (cI cB cJ cR : ClassId) (mm : Nat) (g : Nat → Value) (Mrows : Nat) (mrows : Nat → Int32) (fu : Nat) (pl : Nat) (a : Nat) (e : Nat) (bs : Nat) (b : Nat → Nat) (g_fault : g 36 = .int (nI fu)) (g_place : g 37 = .int (nI pl)) (g_at : g 34 = .int (nI a)) (g_end : g 35 = .int (nI e)) (g_base : g 33 = .int (nI bs)) (g_rows : g 1 = .ref Mrows) (hfl : fu < 2 ^ 31) (he : bs + e ≤ 32000) (hae : a ≤ e) (hob : ∀ j, j < e → mrows (bs + j) = s8 (b j) ∧ b j < 256) : CMi l yX9_take cX9_take 1 (some .int) ({ frames := 1, cells := 0, slots := 0, locals := 22 }) D (tyA cI cB cJ cR) 0 0 [.ref mm] [(mm, .inr (9, fl 78 g)), (Mrows, .inl (cB, 32000, .inl mrows))] (fun (r : Int32) (u9 : (Nat → Value) × Nat × Nat × Nat × Nat) => match u9 with | (g9, v, fu2, pl2, a2) => frm [36, 37, 34] g g9 ∧ g9 36 = .int (nI fu2) ∧ g9 37 = .int (nI pl2) ∧ g9 34 = .int (nI a2) ∧ r = nI v ∧ tkO b e (fu, pl, a) = (v, fu2, pl2, a2) ∧ fu2 < 2 ^ 31 ∧ a ≤ a2 ∧ a2 ≤ e ∧ v < 256) (fun (u9 : (Nat → Value) × Nat × Nat × Nat × Nat) => match u9 with | (g9, v, fu2, pl2, a2) => [(mm, .inr (9, fl 78 g9)), (Mrows, .inl (cB, 32000, .inl mrows))]) := by
  refine st_i (cc := cX9_take) (maxL := 1) (by decide) (Nat.le_of_ble_eq_true rfl) ?_
  intro p0 e0 s0 m0 below meth c0 A0 Q0 hBD hret hP hD hS ls hl
  obtain ⟨hx, hb, hml, hown, hts, hnm, hK, hNw, hMk, hA⟩ := hBD
  have hl : lv_has ls 1 [(0, .ref mm)] := hl
  have hP : va_P D vwCl [(mm, .inr (9, fl 78 g)), (Mrows, .inl (cB, 32000, .inl mrows))] s0.heap := hP
  have hD : va_D A0 [(mm, .inr (9, fl 78 g)), (Mrows, .inl (cB, 32000, .inl mrows))] := hD
  refine lv_aload_n hx hb dX9_take_0 rfl (lv_at hl 0 rfl) ?_
  refine fx_get (D := D) (ci := 9) (v := .int (nI fu)) (C := RX9) (T := TX9) (N := 78) hx hb hts in_X9 hown hK hP 0 rfl rfl 36 (by decide) (hts _ kX9_179) (fun _ h9 => h9) (g_fault) dX9_take_1 ?_
  refine lv_if_le (tgt := 9) hx hb dX9_take_4 (by decide) (fun c_1 => ?_) (fun c_1 => ?_)
  · have h0 : fu = 0 := Decidable.byContradiction (fun z => nI_nle (Nat.pos_of_ne_zero z) hfl c_1)
    refine lv_aload_n hx hb dX9_take_9 rfl (lv_at hl 0 rfl) ?_
    refine fx_get (D := D) (ci := 9) (v := .int (nI a)) (C := RX9) (T := TX9) (N := 78) hx hb hts in_X9 hown hK hP 0 rfl rfl 34 (by decide) (hts _ kX9_185) (fun _ h9 => h9) (g_at) dX9_take_10 ?_
    refine lv_aload_n hx hb dX9_take_13 rfl (lv_at hl 0 rfl) ?_
    refine fx_get (D := D) (ci := 9) (v := .int (nI e)) (C := RX9) (T := TX9) (N := 78) hx hb hts in_X9 hown hK hP 0 rfl rfl 35 (by decide) (hts _ kX9_188) (fun _ h9 => h9) (g_end) dX9_take_14 ?_
    refine lv_icmp_lt (tgt := 31) hx hb dX9_take_17 (by decide) (fun c_2 => ?_) (fun c_2 => ?_)
    · have hlt : a < e := (nI_ltI (by omega) (by omega)).mp c_2
      refine lv_aload_n hx hb dX9_take_31 rfl (lv_at hl 0 rfl) ?_
      refine lv_dup hx hb dX9_take_32 rfl ?_
      refine fx_get (D := D) (ci := 9) (v := .int (nI a)) (C := RX9) (T := TX9) (N := 78) hx hb hts in_X9 hown hK hP 0 rfl rfl 34 (by decide) (hts _ kX9_185) (fun _ h9 => h9) (g_at) dX9_take_33 ?_
      refine lv_iconst (v := 1) hx hb dX9_take_36 (by decide) ?_
      refine lv_iadd hx hb dX9_take_37 ?_
      refine ri (y := nI (a + 1)) (nI_add a 1) ?_
      refine fx_put (D := D) (ci := 9) (v := .int (nI (a + 1))) (ty := .int) (C := RX9) (T := TX9) (N := 78) hx hb hts in_X9 tyX9 tyX9_ok nmX9 hown hK hP hD hS 0 rfl rfl 34 (by decide) (hts _ kX9_185) (fun _ h9 => h9) rfl (by decide +kernel) rfl rfl dX9_take_38 (fun H locs hP hD hS => ?_)
      have hP : va_P D vwCl [(mm, .inr (9, fl 78 (va_up g 34 (.int (nI (a + 1)))))), (Mrows, .inl (cB, 32000, .inl mrows))] H := hP
      have hD : va_D A0 [(mm, .inr (9, fl 78 (va_up g 34 (.int (nI (a + 1)))))), (Mrows, .inl (cB, 32000, .inl mrows))] := hD
      refine lv_aload_n hx hb dX9_take_41 rfl (lv_at hl 0 rfl) ?_
      refine fx_get (D := D) (ci := 9) (v := .ref Mrows) (C := RX9) (T := TX9) (N := 78) hx hb hts in_X9 hown hK hP 0 rfl rfl 1 (by decide) (hts _ kX9_7) (fun _ h9 => h9) (g_rows) dX9_take_42 ?_
      refine lv_aload_n hx hb dX9_take_45 rfl (lv_at hl 0 rfl) ?_
      refine fx_get (D := D) (ci := 9) (v := .int (nI bs)) (C := RX9) (T := TX9) (N := 78) hx hb hts in_X9 hown hK hP 0 rfl rfl 33 (by decide) (hts _ kX9_195) (fun _ h9 => h9) (g_base) dX9_take_46 ?_
      refine lv_aload_n hx hb dX9_take_49 rfl (lv_at hl 0 rfl) ?_
      refine fx_get (D := D) (ci := 9) (v := .int (nI (a + 1))) (C := RX9) (T := TX9) (N := 78) hx hb hts in_X9 hown hK hP 0 rfl rfl 34 (by decide) (hts _ kX9_185) (fun _ h9 => h9) (rfl) dX9_take_50 ?_
      refine lv_iadd hx hb dX9_take_53 ?_
      refine ri (y := nI (bs + (a + 1))) (nI_add bs (a + 1)) ?_
      refine lv_iconst (v := 1) hx hb dX9_take_54 (by decide) ?_
      refine lv_isub hx hb dX9_take_55 ?_
      refine ri (y := nI (bs + a)) ((pk_sub (b := 1) (by omega)).trans (by rw [show bs + (a + 1) - 1 = bs + a by omega])) ?_
      refine ax_bld hx hb hK hP 1 1 rfl rfl (bs + a) (rfl) (by omega) (by omega) dX9_take_56 ?_
      obtain ⟨hv1, hv2⟩ := hob a hlt
      refine lv_sipush (v := 255) hx hb dX9_take_57 (by decide) ?_
      refine lv_iand hx hb dX9_take_60 ?_
      refine ri (y := nI (b a)) (by rw [hv1]; exact s8_and _ hv2) ?_
      exact hret 61 ls _ _ _ ((va_up g 34 (.int (nI (a + 1)))), b a, fu, pl, a + 1) dX9_take_61 hP hD hS (⟨(frm_up frm_refl (by decide)), g_fault, g_place, rfl, ⟨rfl, by rw [tkO, if_pos h0, if_pos hlt, h0], hfl, by omega, by omega, hv2⟩⟩)
    · have hlt : ¬ a < e := fun z => c_2 (nI_lt z (by omega))
      refine lv_aload_n hx hb dX9_take_20 rfl (lv_at hl 0 rfl) ?_
      refine lv_iconst (v := 1) hx hb dX9_take_21 (by decide) ?_
      refine ri (y := nI 1) (rfl) ?_
      refine lv_aload_n hx hb dX9_take_22 rfl (lv_at hl 0 rfl) ?_
      refine fx_get (D := D) (ci := 9) (v := .int (nI e)) (C := RX9) (T := TX9) (N := 78) hx hb hts in_X9 hown hK hP 0 rfl rfl 35 (by decide) (hts _ kX9_188) (fun _ h9 => h9) (g_end) dX9_take_23 ?_
      refine jn_v (wr := [(Mrows, .inl (cB, 32000, .inl mrows))]) hA hP hD hS [0] [1] rfl rfl (by decide) (by decide) (rn_V (As := [.int (nI 1), .int (nI e)]) (rest := []) ⟨hx, hb, hml, hown, hts⟩ (cvV 2 hts zc_yX9_fail zi_X9 zm_yX9_fail zv_yX9_fail kX9_191 (by decide +kernel) rfl rfl ⟨Nat.le_of_ble_eq_true rfl, Nat.le_of_ble_eq_true rfl⟩) (m_fail l D cI cB cJ cR mm g fu pl 1 e (g_fault) (g_place) (hfl) s0.heap.size) hK hNw hMk hA hP hD hS [0] rfl rfl (by decide) 0 rfl rfl rfl rfl hl.1 rfl (Nat.le_of_ble_eq_true rfl) dX9_take_26 ⟨Nat.le_of_ble_eq_true rfl, Nat.le_of_ble_eq_true rfl⟩) (fun u9 H locs w_3 hP hD hS => ?_)
      obtain ⟨g_4, fu2_5, pl2_6⟩ := u9
      try dsimp only at w_3
      have hP : va_P D vwCl [(Mrows, .inl (cB, 32000, .inl mrows)), (mm, .inr (9, fl 78 g_4))] H := hP
      have hD : va_D A0 [(Mrows, .inl (cB, 32000, .inl mrows)), (mm, .inr (9, fl 78 g_4))] := hD
      obtain ⟨f_w_3, fault_w_3, place_w_3, w_3_⟩ := w_3
      have k34_g_4 : g_4 34 = .int (nI a) := (f_w_3 34 (by decide)).trans (g_at)
      have k35_g_4 : g_4 35 = .int (nI e) := (f_w_3 35 (by decide)).trans (g_end)
      have k33_g_4 : g_4 33 = .int (nI bs) := (f_w_3 33 (by decide)).trans (g_base)
      have k1_g_4 : g_4 1 = .ref Mrows := (f_w_3 1 (by decide)).trans (g_rows)
      have fr_g_4 : frm [36, 37, 34] g g_4 := frm_tr frm_refl f_w_3 (by decide)
      rw [if_pos h0] at w_3_
      obtain ⟨e1, e2⟩ := Prod.mk.inj w_3_
      refine lv_iconst (v := 0) hx hb dX9_take_29 (by decide) ?_
      have hP := hP.sub (ws' := [(mm, .inr (9, fl 78 g_4)), (Mrows, .inl (cB, 32000, .inl mrows))]) [1, 0] rfl
      have hD := hD.sub (ws' := [(mm, .inr (9, fl 78 g_4)), (Mrows, .inl (cB, 32000, .inl mrows))]) [1, 0] (by decide) rfl
      exact hret 30 ls _ _ _ (g_4, 0, fu2_5, pl2_6, a) dX9_take_30 hP hD hS (⟨fr_g_4, fault_w_3, place_w_3, k34_g_4, ⟨nI_0.symm, by rw [tkO, if_pos h0, if_neg hlt, e1, e2], by rw [e1]; decide, Nat.le_refl _, hae, by decide⟩⟩)
  · have h0 : ¬ fu = 0 := fun z => c_1 (by rw [z]; decide)
    refine lv_iconst (v := 0) hx hb dX9_take_7 (by decide) ?_
    exact hret 8 ls _ _ _ (g, 0, fu, pl, a) dX9_take_8 hP hD hS (⟨frm_refl, g_fault, g_place, g_at, ⟨nI_0.symm, by rw [tkO, if_neg h0], hfl, Nat.le_refl _, hae, by decide⟩⟩)
