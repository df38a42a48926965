/-! small calls of the reference -/
theorem in32 {x : Int32} {b : Nat} (hb : b < 2 ^ 31) : decide ((0 : Int64) ≤ x.toInt64 ∧ x.toInt64 ≤ lN b) = decide (¬ x < 0 ∧ x ≤ nI b) := by
  apply decide_eq_decide.mpr
  rw [Int64.le_iff_toInt_le, Int64.le_iff_toInt_le, Int32.toInt_toInt64, pk_lT (by omega), Int32.lt_iff_toInt_lt, Int32.le_iff_toInt_le, nI_toInt hb, show (0 : Int64).toInt = 0 from rfl, show (0 : Int32).toInt = 0 from rfl]
  omega
theorem isR_in {x : Int32} : decide (¬ x < 0 ∧ x ≤ nI 3) = isR x := by
  unfold isR
  apply decide_eq_decide.mpr
  rw [Int32.lt_iff_toInt_lt, Int32.le_iff_toInt_le, Int32.lt_iff_toInt_lt, nI_toInt (by decide), show (4 : Int32).toInt = 4 from rfl, show (0 : Int32).toInt = 0 from rfl]
  omega
/-- the four rows, in one array of bytes -/
def rwR (mr ms : Nat → Int32) (RL : Nat → List Int32) : Prop := ∀ k, k < 4 → ms k = nI (RL k).length ∧ (RL k).length ≤ rmN k ∧ ∀ j, j < (RL k).length → mr (8000 * k + j) = ((RL k).getD j 0).toInt8.toInt32
theorem rmN_le (k : Nat) : rmN k ≤ 8000 := by unfold rmN; split <;> decide
theorem isR_ex {x : Int32} (h : isR x = true) : ∃ k, k < 4 ∧ x = nI k := by
  rcases isR_of h with h | h | h | h
  · exact ⟨0, by decide, h⟩
  · exact ⟨1, by decide, h⟩
  · exact ⟨2, by decide, h⟩
  · exact ⟨3, by decide, h⟩
theorem rwR_cut {mr ms : Nat → Int32} {RL : Nat → List Int32} {k m : Nat} (h : rwR mr ms RL) (hk : k < 4) (hm : m ≤ (RL k).length) : rwR mr (upd ms k (nI m)) (va_up RL k ((RL k).take m)) := by
  intro i hi
  by_cases q : i = k
  · subst q
    rw [pk_us, va_up_self]
    have hl : ((RL i).take m).length = m := by rw [List.length_take]; omega
    obtain ⟨h1, h2, h3⟩ := h i hi
    refine ⟨by rw [hl], by rw [hl]; omega, fun j hj => ?_⟩
    rw [hl] at hj
    rw [h3 j (by omega)]
    simp [List.getD, List.getElem?_take, hj]
  · rw [pk_un q, va_up_ne _ _ q]; exact h i hi
set_option maxHeartbeats 4000000 in
set_option maxRecDepth 100000 in
theorem m_told (l : Launch) (D : va_G) (cI cB cJ cR : ClassId) (mm : Nat) (g : Nat → Value) (x : Int32) (t0 : Int32) (t1 : Int32) (t2 : Int32) (t3 : Int32) (g_toldFault : g 52 = .int t0) (g_toldPlace : g 53 = .int t1) (g_toldWindows : g 54 = .int t2) (g_toldInstructions : g 55 = .int t3) : CMi l yX9_told cX9_told 2 (some .int) ({ frames := 0, cells := 0, slots := 0, locals := 0 }) D (tyA cI cB cJ cR) 0 0 [.ref mm, .int x] [(mm, .inr (9, fl 78 g))] (fun (r : Int32) (g9 : (Nat → Value)) => frm [0] g g9 ∧ g9 0 = .int (nI 0) ∧ r = tolP x t0 t1 t2 t3) (fun (g9 : (Nat → Value)) => [(mm, .inr (9, fl 78 g9))]) := by
  refine st_i (cc := cX9_told) (maxL := 2) (by decide) (Nat.le_of_ble_eq_true rfl) ?_
  intro p0 e0 s0 m0 below meth c0 A0 Q0 hBD hret hP hD hS ls hl
  obtain ⟨hx, hb, hml, hown, hts, hnm, hK, hNw, hMk, hA⟩ := hBD
  have hl : lv_has ls 2 [(0, .ref mm), (1, .int x)] := hl
  have hP : va_P D vwCl [(mm, .inr (9, fl 78 g))] s0.heap := hP
  have hD : va_D A0 [(mm, .inr (9, fl 78 g))] := hD
  refine lv_aload_n hx hb dX9_told_0 rfl (lv_at hl 0 rfl) ?_
  refine lv_iconst (v := 0) hx hb dX9_told_1 (by decide) ?_
  refine ri (y := nI 0) (nI_0.symm) ?_
  refine fx_put (D := D) (ci := 9) (v := .int (nI 0)) (ty := .int) (C := RX9) (T := TX9) (N := 78) hx hb hts in_X9 tyX9 tyX9_ok nmX9 hown hK hP hD hS 0 rfl rfl 0 (by decide) (hts _ kX9_131) (fun _ h9 => h9) rfl (by decide +kernel) rfl rfl dX9_told_2 (fun H locs hP hD hS => ?_)
  have hP : va_P D vwCl [(mm, .inr (9, fl 78 (va_up g 0 (.int (nI 0)))))] H := hP
  have hD : va_D A0 [(mm, .inr (9, fl 78 (va_up g 0 (.int (nI 0)))))] := hD
  refine lv_iload_n hx hb dX9_told_5 rfl (lv_at hl 1 rfl) ?_
  refine lv_if_ne (tgt := 16) hx hb dX9_told_6 (by decide) (fun c_1 => ?_) (fun c_1 => ?_)
  · refine lv_iload_n hx hb dX9_told_16 rfl (lv_at hl 1 rfl) ?_
    refine lv_iconst (v := 1) hx hb dX9_told_17 (by decide) ?_
    refine lv_icmp_ne (tgt := 28) hx hb dX9_told_18 (by decide) (fun c_2 => ?_) (fun c_2 => ?_)
    · refine lv_iload_n hx hb dX9_told_28 rfl (lv_at hl 1 rfl) ?_
      refine lv_iconst (v := 2) hx hb dX9_told_29 (by decide) ?_
      refine lv_icmp_ne (tgt := 40) hx hb dX9_told_30 (by decide) (fun c_3 => ?_) (fun c_3 => ?_)
      · refine lv_iload_n hx hb dX9_told_40 rfl (lv_at hl 1 rfl) ?_
        refine lv_iconst (v := 3) hx hb dX9_told_41 (by decide) ?_
        refine lv_icmp_ne (tgt := 52) hx hb dX9_told_42 (by decide) (fun c_4 => ?_) (fun c_4 => ?_)
        · refine lv_bipush (v := -2) hx hb dX9_told_52 (by decide) ?_
          exact hret 54 ls _ _ _ ((va_up g 0 (.int (nI 0)))) dX9_told_54 hP hD hS (⟨(frm_up frm_refl (by decide)), rfl, by rw [tolP, if_neg c_1, if_neg c_2, if_neg c_3, if_neg c_4]⟩)
        · refine lv_aload_n hx hb dX9_told_45 rfl (lv_at hl 0 rfl) ?_
          refine fx_get (D := D) (ci := 9) (v := .int t3) (C := RX9) (T := TX9) (N := 78) hx hb hts in_X9 hown hK hP 0 rfl rfl 55 (by decide) (hts _ kX9_333) (fun _ h9 => h9) (g_toldInstructions) dX9_told_46 ?_
          refine lv_goto (tgt := 54) hx hb dX9_told_49 (by decide) ?_
          exact hret 54 ls _ _ _ ((va_up g 0 (.int (nI 0)))) dX9_told_54 hP hD hS (⟨(frm_up frm_refl (by decide)), rfl, by rw [tolP, if_neg c_1, if_neg c_2, if_neg c_3, if_pos c_4]⟩)
      · refine lv_aload_n hx hb dX9_told_33 rfl (lv_at hl 0 rfl) ?_
        refine fx_get (D := D) (ci := 9) (v := .int t2) (C := RX9) (T := TX9) (N := 78) hx hb hts in_X9 hown hK hP 0 rfl rfl 54 (by decide) (hts _ kX9_330) (fun _ h9 => h9) (g_toldWindows) dX9_told_34 ?_
        refine lv_goto (tgt := 54) hx hb dX9_told_37 (by decide) ?_
        exact hret 54 ls _ _ _ ((va_up g 0 (.int (nI 0)))) dX9_told_54 hP hD hS (⟨(frm_up frm_refl (by decide)), rfl, by rw [tolP, if_neg c_1, if_neg c_2, if_pos c_3]⟩)
    · refine lv_aload_n hx hb dX9_told_21 rfl (lv_at hl 0 rfl) ?_
      refine fx_get (D := D) (ci := 9) (v := .int t1) (C := RX9) (T := TX9) (N := 78) hx hb hts in_X9 hown hK hP 0 rfl rfl 53 (by decide) (hts _ kX9_327) (fun _ h9 => h9) (g_toldPlace) dX9_told_22 ?_
      refine lv_goto (tgt := 54) hx hb dX9_told_25 (by decide) ?_
      exact hret 54 ls _ _ _ ((va_up g 0 (.int (nI 0)))) dX9_told_54 hP hD hS (⟨(frm_up frm_refl (by decide)), rfl, by rw [tolP, if_neg c_1, if_pos c_2]⟩)
  · refine lv_aload_n hx hb dX9_told_9 rfl (lv_at hl 0 rfl) ?_
    refine fx_get (D := D) (ci := 9) (v := .int t0) (C := RX9) (T := TX9) (N := 78) hx hb hts in_X9 hown hK hP 0 rfl rfl 52 (by decide) (hts _ kX9_324) (fun _ h9 => h9) (g_toldFault) dX9_told_10 ?_
    refine lv_goto (tgt := 54) hx hb dX9_told_13 (by decide) ?_
    exact hret 54 ls _ _ _ ((va_up g 0 (.int (nI 0)))) dX9_told_54 hP hD hS (⟨(frm_up frm_refl (by decide)), rfl, by rw [tolP, if_pos c_1]⟩)

set_option maxHeartbeats 4000000 in
set_option maxRecDepth 100000 in
theorem m_caches (l : Launch) (D : va_G) (cI cB cJ cR : ClassId) (mm : Nat) (g : Nat → Value) (near : Nat) (same : Nat) (n : Int32) (s : Int32) (g_ownNear : g 5 = .int (nI near)) (g_ownSame : g 6 = .int (nI same)) : CMi l yX9_caches cX9_caches 3 (some .int) ({ frames := 1, cells := 0, slots := 0, locals := 25 }) D (tyA cI cB cJ cR) 0 0 [.ref mm, .int n, .int s] [(mm, .inr (9, fl 78 g))] (fun (r : Int32) (u9 : (Nat → Value) × Nat × Nat) => match u9 with | (g9, near2, same2) => frm [0, 5, 6] g g9 ∧ g9 0 = .int (nI 0) ∧ g9 5 = .int (nI near2) ∧ g9 6 = .int (nI same2) ∧ chP n s near same = (r, near2, same2)) (fun (u9 : (Nat → Value) × Nat × Nat) => match u9 with | (g9, near2, same2) => [(mm, .inr (9, fl 78 g9))]) := by
  refine st_i (cc := cX9_caches) (maxL := 3) (by decide) (Nat.le_of_ble_eq_true rfl) ?_
  intro p0 e0 s0 m0 below meth c0 A0 Q0 hBD hret hP hD hS ls hl
  obtain ⟨hx, hb, hml, hown, hts, hnm, hK, hNw, hMk, hA⟩ := hBD
  have hl : lv_has ls 3 [(0, .ref mm), (1, .int n), (2, .int s)] := hl
  have hP : va_P D vwCl [(mm, .inr (9, fl 78 g))] s0.heap := hP
  have hD : va_D A0 [(mm, .inr (9, fl 78 g))] := hD
  refine lv_aload_n hx hb dX9_caches_0 rfl (lv_at hl 0 rfl) ?_
  refine lv_iconst (v := 0) hx hb dX9_caches_1 (by decide) ?_
  refine ri (y := nI 0) (nI_0.symm) ?_
  refine fx_put (D := D) (ci := 9) (v := .int (nI 0)) (ty := .int) (C := RX9) (T := TX9) (N := 78) hx hb hts in_X9 tyX9 tyX9_ok nmX9 hown hK hP hD hS 0 rfl rfl 0 (by decide) (hts _ kX9_131) (fun _ h9 => h9) rfl (by decide +kernel) rfl rfl dX9_caches_2 (fun H locs hP hD hS => ?_)
  have hP : va_P D vwCl [(mm, .inr (9, fl 78 (va_up g 0 (.int (nI 0)))))] H := hP
  have hD : va_D A0 [(mm, .inr (9, fl 78 (va_up g 0 (.int (nI 0)))))] := hD
  refine lv_iload_n hx hb dX9_caches_5 rfl (lv_at hl 1 rfl) ?_
  refine lv_i2l hx hb dX9_caches_6 (v := n.toInt64) rfl ?_
  refine lv_lconst (v := 0) hx hb dX9_caches_7 (by decide) ?_
  refine lv_ldc2 hx hb hown (hts _ kX9_140) dX9_caches_8 ?_
  refine rl (y := lN 8) (rfl) ?_
  refine jn_i (wr := [(mm, .inr (9, fl 78 (va_up g 0 (.int (nI 0)))))]) hA hP hD hS [] [0] rfl rfl (by decide) (by decide) (rn_S (As := [.long n.toInt64, .long 0, .long (lN 8)]) (rest := []) ⟨hx, hb, hml, hown, hts⟩ (cvS 3 hts zc_yX9_in zi_X9 zs_yX9_in kX9_136 (by decide +kernel) rfl rfl ⟨Nat.le_of_ble_eq_true rfl, Nat.le_of_ble_eq_true rfl⟩) (m_in l D cI cB cJ cR n.toInt64 0 (lN 8)  H.size) hK hNw hMk hA hP hD hS [] rfl rfl (by decide) rfl hl.1 rfl (Nat.le_of_ble_eq_true rfl) dX9_caches_11 ⟨Nat.le_of_ble_eq_true rfl, Nat.le_of_ble_eq_true rfl⟩) (fun ra u9 H locs hra hP hD hS => ?_)
  obtain ⟨rab, rfl, hra⟩ := hra
  try dsimp only at hra
  have hP : va_P D vwCl [(mm, .inr (9, fl 78 (va_up g 0 (.int (nI 0)))))] H := hP
  have hD : va_D A0 [(mm, .inr (9, fl 78 (va_up g 0 (.int (nI 0)))))] := hD
  rw [in32 (by decide)] at hra
  refine bz_eq (tgt := 29) hx hb dX9_caches_14 (by decide) (fun c_1 => ?_) (fun c_1 => ?_)
  · have hn : ¬ (¬ n < 0 ∧ n ≤ nI 8) := of_decide_eq_false (by rw [← hra]; exact c_1)
    refine lv_bipush (v := -2) hx hb dX9_caches_29 (by decide) ?_
    exact hret 31 ls _ _ _ ((va_up g 0 (.int (nI 0))), near, same) dX9_caches_31 hP hD hS (⟨(frm_up frm_refl (by decide)), rfl, g_ownNear, g_ownSame, by rw [chP, if_pos (by by_cases z : n < 0; exact Or.inl z; exact Or.inr (Or.inl (fun w => hn ⟨z, w⟩)))]⟩)
  · have hn : ¬ n < 0 ∧ n ≤ nI 8 := of_decide_eq_true (by rw [← hra]; exact c_1)
    refine lv_iload_n hx hb dX9_caches_17 rfl (lv_at hl 2 rfl) ?_
    refine lv_i2l hx hb dX9_caches_18 (v := s.toInt64) rfl ?_
    refine lv_lconst (v := 0) hx hb dX9_caches_19 (by decide) ?_
    refine lv_ldc2 hx hb hown (hts _ kX9_156) dX9_caches_20 ?_
    refine rl (y := lN 4) (rfl) ?_
    refine jn_i (wr := [(mm, .inr (9, fl 78 (va_up g 0 (.int (nI 0)))))]) hA hP hD hS [] [0] rfl rfl (by decide) (by decide) (rn_S (As := [.long s.toInt64, .long 0, .long (lN 4)]) (rest := []) ⟨hx, hb, hml, hown, hts⟩ (cvS 3 hts zc_yX9_in zi_X9 zs_yX9_in kX9_136 (by decide +kernel) rfl rfl ⟨Nat.le_of_ble_eq_true rfl, Nat.le_of_ble_eq_true rfl⟩) (m_in l D cI cB cJ cR s.toInt64 0 (lN 4)  H.size) hK hNw hMk hA hP hD hS [] rfl rfl (by decide) rfl hl.1 rfl (Nat.le_of_ble_eq_true rfl) dX9_caches_23 ⟨Nat.le_of_ble_eq_true rfl, Nat.le_of_ble_eq_true rfl⟩) (fun rb u9 H locs hrb hP hD hS => ?_)
    obtain ⟨rbb, rfl, hrb⟩ := hrb
    try dsimp only at hrb
    have hP : va_P D vwCl [(mm, .inr (9, fl 78 (va_up g 0 (.int (nI 0)))))] H := hP
    have hD : va_D A0 [(mm, .inr (9, fl 78 (va_up g 0 (.int (nI 0)))))] := hD
    rw [in32 (by decide)] at hrb
    refine bz_ne (tgt := 32) hx hb dX9_caches_26 (by decide) (fun c_2 => ?_) (fun c_2 => ?_)
    · have hs : ¬ s < 0 ∧ s ≤ nI 4 := of_decide_eq_true (by rw [← hrb]; exact c_2)
      obtain ⟨m1, hm1, he1⟩ := nI_of8 hn.1 hn.2 (by decide)
      obtain ⟨m2, hm2, he2⟩ := nI_of8 hs.1 hs.2 (by decide)
      rw [he1] at hl
      rw [he2] at hl
      refine lv_aload_n hx hb dX9_caches_32 rfl (lv_at hl 0 rfl) ?_
      refine lv_iload_n hx hb dX9_caches_33 rfl (lv_at hl 1 rfl) ?_
      refine fx_put (D := D) (ci := 9) (v := .int (nI m1)) (ty := .int) (C := RX9) (T := TX9) (N := 78) hx hb hts in_X9 tyX9 tyX9_ok nmX9 hown hK hP hD hS 0 rfl rfl 5 (by decide) (hts _ kX9_23) (fun _ h9 => h9) rfl (by decide +kernel) rfl rfl dX9_caches_34 (fun H locs hP hD hS => ?_)
      have hP : va_P D vwCl [(mm, .inr (9, fl 78 (va_up (va_up g 0 (.int (nI 0))) 5 (.int (nI m1)))))] H := hP
      have hD : va_D A0 [(mm, .inr (9, fl 78 (va_up (va_up g 0 (.int (nI 0))) 5 (.int (nI m1)))))] := hD
      refine lv_aload_n hx hb dX9_caches_37 rfl (lv_at hl 0 rfl) ?_
      refine lv_iload_n hx hb dX9_caches_38 rfl (lv_at hl 2 rfl) ?_
      refine fx_put (D := D) (ci := 9) (v := .int (nI m2)) (ty := .int) (C := RX9) (T := TX9) (N := 78) hx hb hts in_X9 tyX9 tyX9_ok nmX9 hown hK hP hD hS 0 rfl rfl 6 (by decide) (hts _ kX9_27) (fun _ h9 => h9) rfl (by decide +kernel) rfl rfl dX9_caches_39 (fun H locs hP hD hS => ?_)
      have hP : va_P D vwCl [(mm, .inr (9, fl 78 (va_up (va_up (va_up g 0 (.int (nI 0))) 5 (.int (nI m1))) 6 (.int (nI m2)))))] H := hP
      have hD : va_D A0 [(mm, .inr (9, fl 78 (va_up (va_up (va_up g 0 (.int (nI 0))) 5 (.int (nI m1))) 6 (.int (nI m2)))))] := hD
      refine lv_iconst (v := 1) hx hb dX9_caches_42 (by decide) ?_
      exact hret 43 ls _ _ _ ((va_up (va_up (va_up g 0 (.int (nI 0))) 5 (.int (nI m1))) 6 (.int (nI m2))), m1, m2) dX9_caches_43 hP hD hS (⟨(frm_up (frm_up (frm_up frm_refl (by decide)) (by decide)) (by decide)), rfl, rfl, rfl, by rw [chP, if_neg (fun z => z.elim hn.1 (fun z => z.elim (fun w => w hn.2) (fun z => z.elim hs.1 (fun w => w hs.2)))), he1, he2, nI_clamp (by omega), nI_clamp (by omega)]⟩)
    · have hs : ¬ (¬ s < 0 ∧ s ≤ nI 4) := of_decide_eq_false (by rw [← hrb]; exact c_2)
      refine lv_bipush (v := -2) hx hb dX9_caches_29 (by decide) ?_
      exact hret 31 ls _ _ _ ((va_up g 0 (.int (nI 0))), near, same) dX9_caches_31 hP hD hS (⟨(frm_up frm_refl (by decide)), rfl, g_ownNear, g_ownSame, by rw [chP, if_pos (by by_cases z : s < 0; exact Or.inr (Or.inr (Or.inl z)); exact Or.inr (Or.inr (Or.inr (fun w => hs ⟨z, w⟩))))]⟩)

set_option maxHeartbeats 4000000 in
set_option maxRecDepth 100000 in
theorem m_tableOctet (l : Launch) (D : va_G) (cI cB cJ cR : ClassId) (mm : Nat) (g : Nat → Value) (Mown : Nat) (mown : Nat → Int32) (i : Int32) (v : Int32) (tt : Nat → Nat) (g_own : g 4 = .ref Mown) (ho : bys mown tt 1536) : CMi l yX9_tableOctet cX9_tableOctet 4 (some .int) ({ frames := 1, cells := 0, slots := 0, locals := 25 }) D (tyA cI cB cJ cR) 0 0 [.ref mm, .int i, .int v] [(mm, .inr (9, fl 78 g)), (Mown, .inl (cB, 1536, .inl mown))] (fun (r : Int32) (u9 : (Nat → Value) × (Nat → Int32)) => match u9 with | (g9, o2) => frm [0] g g9 ∧ g9 0 = .int (nI 0) ∧ (tbP i v tt).1 = r ∧ bys o2 (tbP i v tt).2 1536) (fun (u9 : (Nat → Value) × (Nat → Int32)) => match u9 with | (g9, o2) => [(mm, .inr (9, fl 78 g9)), (Mown, .inl (cB, 1536, .inl o2))]) := by
  refine st_i (cc := cX9_tableOctet) (maxL := 4) (by decide) (Nat.le_of_ble_eq_true rfl) ?_
  intro p0 e0 s0 m0 below meth c0 A0 Q0 hBD hret hP hD hS ls hl
  obtain ⟨hx, hb, hml, hown, hts, hnm, hK, hNw, hMk, hA⟩ := hBD
  have hl : lv_has ls 4 [(0, .ref mm), (1, .int i), (2, .int v)] := hl
  have hP : va_P D vwCl [(mm, .inr (9, fl 78 g)), (Mown, .inl (cB, 1536, .inl mown))] s0.heap := hP
  have hD : va_D A0 [(mm, .inr (9, fl 78 g)), (Mown, .inl (cB, 1536, .inl mown))] := hD
  refine lv_aload_n hx hb dX9_tableOctet_0 rfl (lv_at hl 0 rfl) ?_
  refine lv_iconst (v := 0) hx hb dX9_tableOctet_1 (by decide) ?_
  refine ri (y := nI 0) (nI_0.symm) ?_
  refine fx_put (D := D) (ci := 9) (v := .int (nI 0)) (ty := .int) (C := RX9) (T := TX9) (N := 78) hx hb hts in_X9 tyX9 tyX9_ok nmX9 hown hK hP hD hS 0 rfl rfl 0 (by decide) (hts _ kX9_131) (fun _ h9 => h9) rfl (by decide +kernel) rfl rfl dX9_tableOctet_2 (fun H locs hP hD hS => ?_)
  have hP : va_P D vwCl [(mm, .inr (9, fl 78 (va_up g 0 (.int (nI 0))))), (Mown, .inl (cB, 1536, .inl mown))] H := hP
  have hD : va_D A0 [(mm, .inr (9, fl 78 (va_up g 0 (.int (nI 0))))), (Mown, .inl (cB, 1536, .inl mown))] := hD
  refine lv_iload_n hx hb dX9_tableOctet_5 rfl (lv_at hl 1 rfl) ?_
  refine lv_i2l hx hb dX9_tableOctet_6 (v := i.toInt64) rfl ?_
  refine lv_lconst (v := 0) hx hb dX9_tableOctet_7 (by decide) ?_
  refine lv_ldc2 hx hb hown (hts _ kX9_154) dX9_tableOctet_8 ?_
  refine rl (y := lN 1535) (rfl) ?_
  refine jn_i (wr := [(mm, .inr (9, fl 78 (va_up g 0 (.int (nI 0))))), (Mown, .inl (cB, 1536, .inl mown))]) hA hP hD hS [] [0, 1] rfl rfl (by decide) (by decide) (rn_S (As := [.long i.toInt64, .long 0, .long (lN 1535)]) (rest := []) ⟨hx, hb, hml, hown, hts⟩ (cvS 3 hts zc_yX9_in zi_X9 zs_yX9_in kX9_136 (by decide +kernel) rfl rfl ⟨Nat.le_of_ble_eq_true rfl, Nat.le_of_ble_eq_true rfl⟩) (m_in l D cI cB cJ cR i.toInt64 0 (lN 1535)  H.size) hK hNw hMk hA hP hD hS [] rfl rfl (by decide) rfl hl.1 rfl (Nat.le_of_ble_eq_true rfl) dX9_tableOctet_11 ⟨Nat.le_of_ble_eq_true rfl, Nat.le_of_ble_eq_true rfl⟩) (fun ra u9 H locs hra hP hD hS => ?_)
  obtain ⟨rab, rfl, hra⟩ := hra
  try dsimp only at hra
  have hP : va_P D vwCl [(mm, .inr (9, fl 78 (va_up g 0 (.int (nI 0))))), (Mown, .inl (cB, 1536, .inl mown))] H := hP
  have hD : va_D A0 [(mm, .inr (9, fl 78 (va_up g 0 (.int (nI 0))))), (Mown, .inl (cB, 1536, .inl mown))] := hD
  rw [in32 (by decide)] at hra
  refine bz_ne (tgt := 19) hx hb dX9_tableOctet_14 (by decide) (fun c_1 => ?_) (fun c_1 => ?_)
  · have hn : ¬ i < 0 ∧ i ≤ nI 1535 := of_decide_eq_true (by rw [← hra]; exact c_1)
    obtain ⟨j, hj, hij⟩ := nI_of8 hn.1 hn.2 (by decide)
    have hb9 : inB i 1536 = true := by rw [hij]; exact inB_t (by omega) (by decide)
    have htb : tbP i v tt = if v < 0 ∨ ¬ v ≤ 255 then (-2, tt) else (nI (tt j), va_up tt j v.toNatClampNeg) := by rw [tbP, if_pos hb9, hij, nI_clamp (by omega)]
    refine lv_iload_n hx hb dX9_tableOctet_19 rfl (lv_at hl 2 rfl) ?_
    refine lv_i2l hx hb dX9_tableOctet_20 (v := v.toInt64) rfl ?_
    refine lv_lconst (v := 0) hx hb dX9_tableOctet_21 (by decide) ?_
    refine lv_ldc2 hx hb hown (hts _ kX9_152) dX9_tableOctet_22 ?_
    refine rl (y := lN 255) (rfl) ?_
    refine jn_i (wr := [(mm, .inr (9, fl 78 (va_up g 0 (.int (nI 0))))), (Mown, .inl (cB, 1536, .inl mown))]) hA hP hD hS [] [0, 1] rfl rfl (by decide) (by decide) (rn_S (As := [.long v.toInt64, .long 0, .long (lN 255)]) (rest := []) ⟨hx, hb, hml, hown, hts⟩ (cvS 3 hts zc_yX9_in zi_X9 zs_yX9_in kX9_136 (by decide +kernel) rfl rfl ⟨Nat.le_of_ble_eq_true rfl, Nat.le_of_ble_eq_true rfl⟩) (m_in l D cI cB cJ cR v.toInt64 0 (lN 255)  H.size) hK hNw hMk hA hP hD hS [] rfl rfl (by decide) rfl hl.1 rfl (Nat.le_of_ble_eq_true rfl) dX9_tableOctet_25 ⟨Nat.le_of_ble_eq_true rfl, Nat.le_of_ble_eq_true rfl⟩) (fun rb u9 H locs hrb hP hD hS => ?_)
    obtain ⟨rbb, rfl, hrb⟩ := hrb
    try dsimp only at hrb
    have hP : va_P D vwCl [(mm, .inr (9, fl 78 (va_up g 0 (.int (nI 0))))), (Mown, .inl (cB, 1536, .inl mown))] H := hP
    have hD : va_D A0 [(mm, .inr (9, fl 78 (va_up g 0 (.int (nI 0))))), (Mown, .inl (cB, 1536, .inl mown))] := hD
    rw [in32 (by decide)] at hrb
    refine bz_ne (tgt := 34) hx hb dX9_tableOctet_28 (by decide) (fun c_2 => ?_) (fun c_2 => ?_)
    · have hv : ¬ v < 0 ∧ v ≤ nI 255 := of_decide_eq_true (by rw [← hrb]; exact c_2)
      obtain ⟨w, hw, hvw⟩ := nI_of8 hv.1 hv.2 (by decide)
      obtain ⟨q1, q2⟩ := ho j (by omega)
      rw [hij] at hl
      rw [hvw] at hl
      refine lv_aload_n hx hb dX9_tableOctet_34 rfl (lv_at hl 0 rfl) ?_
      refine fx_get (D := D) (ci := 9) (v := .ref Mown) (C := RX9) (T := TX9) (N := 78) hx hb hts in_X9 hown hK hP 0 rfl rfl 4 (by decide) (hts _ kX9_20) (fun _ h9 => h9) (g_own) dX9_tableOctet_35 ?_
      refine lv_iload_n hx hb dX9_tableOctet_38 rfl (lv_at hl 1 rfl) ?_
      refine ax_bld hx hb hK hP 1 1 rfl rfl j (rfl) (by omega) (by omega) dX9_tableOctet_39 ?_
      refine lv_sipush (v := 255) hx hb dX9_tableOctet_40 (by decide) ?_
      refine lv_iand hx hb dX9_tableOctet_43 ?_
      refine ri (y := nI (tt j)) (by rw [q1]; exact s8_and _ q2) ?_
      refine lv_istore_n (lv' := [(3, .int (nI (tt j))), (0, .ref mm), (1, .int (nI j)), (2, .int (nI w))]) hx hb dX9_tableOctet_44 rfl hl (by decide) rfl (fun ls hl => ?_)
      refine lv_aload_n hx hb dX9_tableOctet_45 rfl (lv_at hl 1 rfl) ?_
      refine fx_get (D := D) (ci := 9) (v := .ref Mown) (C := RX9) (T := TX9) (N := 78) hx hb hts in_X9 hown hK hP 0 rfl rfl 4 (by decide) (hts _ kX9_20) (fun _ h9 => h9) (g_own) dX9_tableOctet_46 ?_
      refine lv_iload_n hx hb dX9_tableOctet_49 rfl (lv_at hl 2 rfl) ?_
      refine lv_iload_n hx hb dX9_tableOctet_50 rfl (lv_at hl 3 rfl) ?_
      refine lv_i2b hx hb dX9_tableOctet_51 (v := (nI w).toInt8.toInt32) rfl ?_
      refine ax_bst hx hb hK hP hD hS 1 1 rfl rfl j (rfl) (by omega) (by omega) (z := s8 w) (s8_re w (by omega)) dX9_tableOctet_52 (fun H locs hP hD hS => ?_)
      have hP : va_P D vwCl [(mm, .inr (9, fl 78 (va_up g 0 (.int (nI 0))))), (Mown, .inl (cB, 1536, .inl (upd mown j (s8 w))))] H := hP
      have hD : va_D A0 [(mm, .inr (9, fl 78 (va_up g 0 (.int (nI 0))))), (Mown, .inl (cB, 1536, .inl (upd mown j (s8 w))))] := hD
      refine lv_iload_n hx hb dX9_tableOctet_53 rfl (lv_at hl 0 rfl) ?_
      exact hret 54 ls _ _ _ ((va_up g 0 (.int (nI 0))), upd mown j (s8 w)) dX9_tableOctet_54 hP hD hS (⟨(frm_up frm_refl (by decide)), rfl, by rw [htb, if_neg (fun z => z.elim hv.1 (fun y => y hv.2)), hvw, nI_clamp (by omega)]; exact ⟨rfl, bys_up ho (by omega)⟩⟩)
    · have hv : ¬ (¬ v < 0 ∧ v ≤ nI 255) := of_decide_eq_false (by rw [← hrb]; exact c_2)
      refine lv_bipush (v := -2) hx hb dX9_tableOctet_31 (by decide) ?_
      exact hret 33 ls _ _ _ ((va_up g 0 (.int (nI 0))), mown) dX9_tableOctet_33 hP hD hS (⟨(frm_up frm_refl (by decide)), rfl, by rw [htb, if_pos (by by_cases z : v < 0; exact Or.inl z; exact Or.inr (fun w => hv ⟨z, w⟩))]; exact ⟨rfl, ho⟩⟩)
  · have hn : ¬ (¬ i < 0 ∧ i ≤ nI 1535) := of_decide_eq_false (by rw [← hra]; exact c_1)
    have hb9 : ¬ inB i 1536 = true := fun z => hn (by obtain ⟨j, hj, hij⟩ := inB_of z (by decide); rw [hij]; exact ⟨nI_pos (by omega), nI_le (by omega) (by decide)⟩)
    refine lv_iconst (v := -1) hx hb dX9_tableOctet_17 (by decide) ?_
    exact hret 18 ls _ _ _ ((va_up g 0 (.int (nI 0))), mown) dX9_tableOctet_18 hP hD hS (⟨(frm_up frm_refl (by decide)), rfl, by rw [tbP, if_neg hb9]; exact ⟨rfl, ho⟩⟩)

set_option maxHeartbeats 4000000 in
set_option maxRecDepth 100000 in
theorem m_length (l : Launch) (D : va_G) (cI cB cJ cR : ClassId) (mm : Nat) (g : Nat → Value) (Msizes : Nat) (Mrows : Nat) (msizes : Nat → Int32) (mrows : Nat → Int32) (x : Int32) (RL : Nat → List Int32) (g_sizes : g 2 = .ref Msizes) (g_rows : g 1 = .ref Mrows) (hrw : rwR mrows msizes RL) : CMi l yX9_length cX9_length 2 (some .int) ({ frames := 1, cells := 0, slots := 0, locals := 25 }) D (tyA cI cB cJ cR) 0 0 [.ref mm, .int x] [(mm, .inr (9, fl 78 g)), (Msizes, .inl (cI, 4, .inl msizes)), (Mrows, .inl (cB, 32000, .inl mrows))] (fun (r : Int32) (g9 : (Nat → Value)) => frm [0] g g9 ∧ g9 0 = .int (nI 0) ∧ r = lenP x RL) (fun (g9 : (Nat → Value)) => [(mm, .inr (9, fl 78 g9)), (Msizes, .inl (cI, 4, .inl msizes)), (Mrows, .inl (cB, 32000, .inl mrows))]) := by
  refine st_i (cc := cX9_length) (maxL := 2) (by decide) (Nat.le_of_ble_eq_true rfl) ?_
  intro p0 e0 s0 m0 below meth c0 A0 Q0 hBD hret hP hD hS ls hl
  obtain ⟨hx, hb, hml, hown, hts, hnm, hK, hNw, hMk, hA⟩ := hBD
  have hl : lv_has ls 2 [(0, .ref mm), (1, .int x)] := hl
  have hP : va_P D vwCl [(mm, .inr (9, fl 78 g)), (Msizes, .inl (cI, 4, .inl msizes)), (Mrows, .inl (cB, 32000, .inl mrows))] s0.heap := hP
  have hD : va_D A0 [(mm, .inr (9, fl 78 g)), (Msizes, .inl (cI, 4, .inl msizes)), (Mrows, .inl (cB, 32000, .inl mrows))] := hD
  refine lv_aload_n hx hb dX9_length_0 rfl (lv_at hl 0 rfl) ?_
  refine lv_iconst (v := 0) hx hb dX9_length_1 (by decide) ?_
  refine ri (y := nI 0) (nI_0.symm) ?_
  refine fx_put (D := D) (ci := 9) (v := .int (nI 0)) (ty := .int) (C := RX9) (T := TX9) (N := 78) hx hb hts in_X9 tyX9 tyX9_ok nmX9 hown hK hP hD hS 0 rfl rfl 0 (by decide) (hts _ kX9_131) (fun _ h9 => h9) rfl (by decide +kernel) rfl rfl dX9_length_2 (fun H locs hP hD hS => ?_)
  have hP : va_P D vwCl [(mm, .inr (9, fl 78 (va_up g 0 (.int (nI 0))))), (Msizes, .inl (cI, 4, .inl msizes)), (Mrows, .inl (cB, 32000, .inl mrows))] H := hP
  have hD : va_D A0 [(mm, .inr (9, fl 78 (va_up g 0 (.int (nI 0))))), (Msizes, .inl (cI, 4, .inl msizes)), (Mrows, .inl (cB, 32000, .inl mrows))] := hD
  refine lv_iload_n hx hb dX9_length_5 rfl (lv_at hl 1 rfl) ?_
  refine lv_i2l hx hb dX9_length_6 (v := x.toInt64) rfl ?_
  refine lv_lconst (v := 0) hx hb dX9_length_7 (by decide) ?_
  refine lv_ldc2 hx hb hown (hts _ kX9_134) dX9_length_8 ?_
  refine rl (y := lN 3) (rfl) ?_
  refine jn_i (wr := [(mm, .inr (9, fl 78 (va_up g 0 (.int (nI 0))))), (Msizes, .inl (cI, 4, .inl msizes)), (Mrows, .inl (cB, 32000, .inl mrows))]) hA hP hD hS [] [0, 1, 2] rfl rfl (by decide) (by decide) (rn_S (As := [.long x.toInt64, .long 0, .long (lN 3)]) (rest := []) ⟨hx, hb, hml, hown, hts⟩ (cvS 3 hts zc_yX9_in zi_X9 zs_yX9_in kX9_136 (by decide +kernel) rfl rfl ⟨Nat.le_of_ble_eq_true rfl, Nat.le_of_ble_eq_true rfl⟩) (m_in l D cI cB cJ cR x.toInt64 0 (lN 3)  H.size) hK hNw hMk hA hP hD hS [] rfl rfl (by decide) rfl hl.1 rfl (Nat.le_of_ble_eq_true rfl) dX9_length_11 ⟨Nat.le_of_ble_eq_true rfl, Nat.le_of_ble_eq_true rfl⟩) (fun ra u9 H locs hra hP hD hS => ?_)
  obtain ⟨rab, rfl, hra⟩ := hra
  try dsimp only at hra
  have hP : va_P D vwCl [(mm, .inr (9, fl 78 (va_up g 0 (.int (nI 0))))), (Msizes, .inl (cI, 4, .inl msizes)), (Mrows, .inl (cB, 32000, .inl mrows))] H := hP
  have hD : va_D A0 [(mm, .inr (9, fl 78 (va_up g 0 (.int (nI 0))))), (Msizes, .inl (cI, 4, .inl msizes)), (Mrows, .inl (cB, 32000, .inl mrows))] := hD
  rw [in32 (by decide)] at hra
  rw [isR_in] at hra
  refine bz_eq (tgt := 26) hx hb dX9_length_14 (by decide) (fun c_1 => ?_) (fun c_1 => ?_)
  · refine lv_iconst (v := -1) hx hb dX9_length_26 (by decide) ?_
    exact hret 27 ls _ _ _ ((va_up g 0 (.int (nI 0)))) dX9_length_27 hP hD hS (⟨(frm_up frm_refl (by decide)), rfl, by rw [lenP, if_pos (by rw [← hra]; exact c_1)]⟩)
  · have hxr : isR x = true := by rw [← hra]; exact c_1
    obtain ⟨k, hk, hx9⟩ := isR_ex hxr
    rw [hx9] at hl
    refine lv_aload_n hx hb dX9_length_17 rfl (lv_at hl 0 rfl) ?_
    refine fx_get (D := D) (ci := 9) (v := .ref Msizes) (C := RX9) (T := TX9) (N := 78) hx hb hts in_X9 hown hK hP 0 rfl rfl 2 (by decide) (hts _ kX9_13) (fun _ h9 => h9) (g_sizes) dX9_length_18 ?_
    refine lv_iload_n hx hb dX9_length_21 rfl (lv_at hl 1 rfl) ?_
    refine ax_ild hx hb hK hP 1 0 rfl rfl k (rfl) (hk) (by omega) dX9_length_22 ?_
    refine ri (y := nI (RL k).length) ((hrw k hk).1) ?_
    refine lv_goto (tgt := 27) hx hb dX9_length_23 (by decide) ?_
    exact hret 27 ls _ _ _ ((va_up g 0 (.int (nI 0)))) dX9_length_27 hP hD hS (⟨(frm_up frm_refl (by decide)), rfl, by rw [lenP, if_neg (by rw [hxr]; decide), hx9, nI_clamp (by omega)]⟩)

set_option maxHeartbeats 4000000 in
set_option maxRecDepth 100000 in
theorem m_cut (l : Launch) (D : va_G) (cI cB cJ cR : ClassId) (mm : Nat) (g : Nat → Value) (Msizes : Nat) (Mrows : Nat) (msizes : Nat → Int32) (mrows : Nat → Int32) (x : Int32) (n : Int32) (RL : Nat → List Int32) (g_sizes : g 2 = .ref Msizes) (g_rows : g 1 = .ref Mrows) (hrw : rwR mrows msizes RL) : CMi l yX9_cut cX9_cut 4 (some .int) ({ frames := 1, cells := 0, slots := 0, locals := 25 }) D (tyA cI cB cJ cR) 0 0 [.ref mm, .int x, .int n] [(mm, .inr (9, fl 78 g)), (Msizes, .inl (cI, 4, .inl msizes)), (Mrows, .inl (cB, 32000, .inl mrows))] (fun (r : Int32) (u9 : (Nat → Value) × (Nat → Int32) × (Nat → List Int32)) => match u9 with | (g9, z2, RL9) => frm [0] g g9 ∧ g9 0 = .int (nI 0) ∧ cutP x n RL = (r, RL9) ∧ rwR mrows z2 RL9) (fun (u9 : (Nat → Value) × (Nat → Int32) × (Nat → List Int32)) => match u9 with | (g9, z2, RL9) => [(mm, .inr (9, fl 78 g9)), (Msizes, .inl (cI, 4, .inl z2)), (Mrows, .inl (cB, 32000, .inl mrows))]) := by
  refine st_i (cc := cX9_cut) (maxL := 4) (by decide) (Nat.le_of_ble_eq_true rfl) ?_
  intro p0 e0 s0 m0 below meth c0 A0 Q0 hBD hret hP hD hS ls hl
  obtain ⟨hx, hb, hml, hown, hts, hnm, hK, hNw, hMk, hA⟩ := hBD
  have hl : lv_has ls 4 [(0, .ref mm), (1, .int x), (2, .int n)] := hl
  have hP : va_P D vwCl [(mm, .inr (9, fl 78 g)), (Msizes, .inl (cI, 4, .inl msizes)), (Mrows, .inl (cB, 32000, .inl mrows))] s0.heap := hP
  have hD : va_D A0 [(mm, .inr (9, fl 78 g)), (Msizes, .inl (cI, 4, .inl msizes)), (Mrows, .inl (cB, 32000, .inl mrows))] := hD
  refine lv_aload_n hx hb dX9_cut_0 rfl (lv_at hl 0 rfl) ?_
  refine lv_iconst (v := 0) hx hb dX9_cut_1 (by decide) ?_
  refine ri (y := nI 0) (nI_0.symm) ?_
  refine fx_put (D := D) (ci := 9) (v := .int (nI 0)) (ty := .int) (C := RX9) (T := TX9) (N := 78) hx hb hts in_X9 tyX9 tyX9_ok nmX9 hown hK hP hD hS 0 rfl rfl 0 (by decide) (hts _ kX9_131) (fun _ h9 => h9) rfl (by decide +kernel) rfl rfl dX9_cut_2 (fun H locs hP hD hS => ?_)
  have hP : va_P D vwCl [(mm, .inr (9, fl 78 (va_up g 0 (.int (nI 0))))), (Msizes, .inl (cI, 4, .inl msizes)), (Mrows, .inl (cB, 32000, .inl mrows))] H := hP
  have hD : va_D A0 [(mm, .inr (9, fl 78 (va_up g 0 (.int (nI 0))))), (Msizes, .inl (cI, 4, .inl msizes)), (Mrows, .inl (cB, 32000, .inl mrows))] := hD
  refine lv_iload_n hx hb dX9_cut_5 rfl (lv_at hl 1 rfl) ?_
  refine lv_i2l hx hb dX9_cut_6 (v := x.toInt64) rfl ?_
  refine lv_lconst (v := 0) hx hb dX9_cut_7 (by decide) ?_
  refine lv_ldc2 hx hb hown (hts _ kX9_134) dX9_cut_8 ?_
  refine rl (y := lN 3) (rfl) ?_
  refine jn_i (wr := [(mm, .inr (9, fl 78 (va_up g 0 (.int (nI 0))))), (Msizes, .inl (cI, 4, .inl msizes)), (Mrows, .inl (cB, 32000, .inl mrows))]) hA hP hD hS [] [0, 1, 2] rfl rfl (by decide) (by decide) (rn_S (As := [.long x.toInt64, .long 0, .long (lN 3)]) (rest := []) ⟨hx, hb, hml, hown, hts⟩ (cvS 3 hts zc_yX9_in zi_X9 zs_yX9_in kX9_136 (by decide +kernel) rfl rfl ⟨Nat.le_of_ble_eq_true rfl, Nat.le_of_ble_eq_true rfl⟩) (m_in l D cI cB cJ cR x.toInt64 0 (lN 3)  H.size) hK hNw hMk hA hP hD hS [] rfl rfl (by decide) rfl hl.1 rfl (Nat.le_of_ble_eq_true rfl) dX9_cut_11 ⟨Nat.le_of_ble_eq_true rfl, Nat.le_of_ble_eq_true rfl⟩) (fun ra u9 H locs hra hP hD hS => ?_)
  obtain ⟨rab, rfl, hra⟩ := hra
  try dsimp only at hra
  have hP : va_P D vwCl [(mm, .inr (9, fl 78 (va_up g 0 (.int (nI 0))))), (Msizes, .inl (cI, 4, .inl msizes)), (Mrows, .inl (cB, 32000, .inl mrows))] H := hP
  have hD : va_D A0 [(mm, .inr (9, fl 78 (va_up g 0 (.int (nI 0))))), (Msizes, .inl (cI, 4, .inl msizes)), (Mrows, .inl (cB, 32000, .inl mrows))] := hD
  rw [in32 (by decide)] at hra
  rw [isR_in] at hra
  refine bz_eq (tgt := 33) hx hb dX9_cut_14 (by decide) (fun c_1 => ?_) (fun c_1 => ?_)
  · refine lv_bipush (v := -2) hx hb dX9_cut_33 (by decide) ?_
    exact hret 35 ls _ _ _ ((va_up g 0 (.int (nI 0))), msizes, RL) dX9_cut_35 hP hD hS (⟨(frm_up frm_refl (by decide)), rfl, ⟨by rw [cutP, if_pos (Or.inl (by rw [← hra]; exact c_1))], hrw⟩⟩)
  · have hxr : isR x = true := by rw [← hra]; exact c_1
    obtain ⟨k, hk, hx9⟩ := isR_ex hxr
    have hkl := (hrw k hk).2.1
    have hk8 := rmN_le k
    rw [hx9] at hl
    refine lv_iload_n hx hb dX9_cut_17 rfl (lv_at hl 2 rfl) ?_
    refine lv_i2l hx hb dX9_cut_18 (v := n.toInt64) rfl ?_
    refine lv_lconst (v := 0) hx hb dX9_cut_19 (by decide) ?_
    refine lv_aload_n hx hb dX9_cut_20 rfl (lv_at hl 0 rfl) ?_
    refine fx_get (D := D) (ci := 9) (v := .ref Msizes) (C := RX9) (T := TX9) (N := 78) hx hb hts in_X9 hown hK hP 0 rfl rfl 2 (by decide) (hts _ kX9_13) (fun _ h9 => h9) (g_sizes) dX9_cut_21 ?_
    refine lv_iload_n hx hb dX9_cut_24 rfl (lv_at hl 1 rfl) ?_
    refine ax_ild hx hb hK hP 1 0 rfl rfl k (rfl) (hk) (by omega) dX9_cut_25 ?_
    refine ri (y := nI (RL k).length) ((hrw k hk).1) ?_
    refine lv_i2l hx hb dX9_cut_26 (v := (nI (RL k).length).toInt64) rfl ?_
    refine rl (y := lN (RL k).length) (nI_l (by omega)) ?_
    refine jn_i (wr := [(mm, .inr (9, fl 78 (va_up g 0 (.int (nI 0))))), (Msizes, .inl (cI, 4, .inl msizes)), (Mrows, .inl (cB, 32000, .inl mrows))]) hA hP hD hS [] [0, 1, 2] rfl rfl (by decide) (by decide) (rn_S (As := [.long n.toInt64, .long 0, .long (lN (RL k).length)]) (rest := []) ⟨hx, hb, hml, hown, hts⟩ (cvS 3 hts zc_yX9_in zi_X9 zs_yX9_in kX9_136 (by decide +kernel) rfl rfl ⟨Nat.le_of_ble_eq_true rfl, Nat.le_of_ble_eq_true rfl⟩) (m_in l D cI cB cJ cR n.toInt64 0 (lN (RL k).length)  H.size) hK hNw hMk hA hP hD hS [] rfl rfl (by decide) rfl hl.1 rfl (Nat.le_of_ble_eq_true rfl) dX9_cut_27 ⟨Nat.le_of_ble_eq_true rfl, Nat.le_of_ble_eq_true rfl⟩) (fun rb u9 H locs hrb hP hD hS => ?_)
    obtain ⟨rbb, rfl, hrb⟩ := hrb
    try dsimp only at hrb
    have hP : va_P D vwCl [(mm, .inr (9, fl 78 (va_up g 0 (.int (nI 0))))), (Msizes, .inl (cI, 4, .inl msizes)), (Mrows, .inl (cB, 32000, .inl mrows))] H := hP
    have hD : va_D A0 [(mm, .inr (9, fl 78 (va_up g 0 (.int (nI 0))))), (Msizes, .inl (cI, 4, .inl msizes)), (Mrows, .inl (cB, 32000, .inl mrows))] := hD
    rw [in32 (by omega)] at hrb
    refine bz_ne (tgt := 36) hx hb dX9_cut_30 (by decide) (fun c_2 => ?_) (fun c_2 => ?_)
    · have hn : ¬ n < 0 ∧ n ≤ nI (RL k).length := of_decide_eq_true (by rw [← hrb]; exact c_2)
      obtain ⟨m, hm, hnm9⟩ := nI_of8 hn.1 hn.2 (by omega)
      rw [hnm9] at hl
      refine lv_aload_n hx hb dX9_cut_36 rfl (lv_at hl 0 rfl) ?_
      refine fx_get (D := D) (ci := 9) (v := .ref Msizes) (C := RX9) (T := TX9) (N := 78) hx hb hts in_X9 hown hK hP 0 rfl rfl 2 (by decide) (hts _ kX9_13) (fun _ h9 => h9) (g_sizes) dX9_cut_37 ?_
      refine lv_iload_n hx hb dX9_cut_40 rfl (lv_at hl 1 rfl) ?_
      refine ax_ild hx hb hK hP 1 0 rfl rfl k (rfl) (hk) (by omega) dX9_cut_41 ?_
      refine ri (y := nI (RL k).length) ((hrw k hk).1) ?_
      refine lv_istore_n (lv' := [(3, .int (nI (RL k).length)), (0, .ref mm), (1, .int (nI k)), (2, .int (nI m))]) hx hb dX9_cut_42 rfl hl (by decide) rfl (fun ls hl => ?_)
      refine lv_aload_n hx hb dX9_cut_43 rfl (lv_at hl 1 rfl) ?_
      refine fx_get (D := D) (ci := 9) (v := .ref Msizes) (C := RX9) (T := TX9) (N := 78) hx hb hts in_X9 hown hK hP 0 rfl rfl 2 (by decide) (hts _ kX9_13) (fun _ h9 => h9) (g_sizes) dX9_cut_44 ?_
      refine lv_iload_n hx hb dX9_cut_47 rfl (lv_at hl 2 rfl) ?_
      refine lv_iload_n hx hb dX9_cut_48 rfl (lv_at hl 3 rfl) ?_
      refine ax_ist hx hb hK hP hD hS 1 0 rfl rfl k (rfl) (hk) (by omega) dX9_cut_49 (fun H locs hP hD hS => ?_)
      have hP : va_P D vwCl [(mm, .inr (9, fl 78 (va_up g 0 (.int (nI 0))))), (Msizes, .inl (cI, 4, .inl (upd msizes k (nI m)))), (Mrows, .inl (cB, 32000, .inl mrows))] H := hP
      have hD : va_D A0 [(mm, .inr (9, fl 78 (va_up g 0 (.int (nI 0))))), (Msizes, .inl (cI, 4, .inl (upd msizes k (nI m)))), (Mrows, .inl (cB, 32000, .inl mrows))] := hD
      refine lv_iload_n hx hb dX9_cut_50 rfl (lv_at hl 0 rfl) ?_
      exact hret 51 ls _ _ _ ((va_up g 0 (.int (nI 0))), upd msizes k (nI m), va_up RL k ((RL k).take m)) dX9_cut_51 hP hD hS (⟨(frm_up frm_refl (by decide)), rfl, ⟨by rw [cutP, if_neg (fun z => z.elim (fun w => absurd (hxr.symm.trans w) (by decide)) (fun w => w.elim hn.1 (fun y => y (by rw [hx9, nI_clamp (by omega)]; exact hn.2)))), hx9, nI_clamp (by omega), hnm9, nI_clamp (by omega)], rwR_cut hrw hk hm⟩⟩)
    · have hn : ¬ (¬ n < 0 ∧ n ≤ nI (RL k).length) := of_decide_eq_false (by rw [← hrb]; exact c_2)
      refine lv_bipush (v := -2) hx hb dX9_cut_33 (by decide) ?_
      exact hret 35 ls _ _ _ ((va_up g 0 (.int (nI 0))), msizes, RL) dX9_cut_35 hP hD hS (⟨(frm_up frm_refl (by decide)), rfl, ⟨by rw [cutP, if_pos (by by_cases z : n < 0; exact Or.inr (Or.inl z); exact Or.inr (Or.inr (by rw [hx9, nI_clamp (by omega)]; exact fun w => hn ⟨z, w⟩)))], hrw⟩⟩)
