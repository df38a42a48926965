set_option maxHeartbeats 4000000 in
set_option maxRecDepth 100000 in
theorem m_use (l : Launch) (D : va_G) (cI cB cJ cR : ClassId) (mm : Nat) (g : Nat → Value) (Mtab : Nat) (mtab : Nat → Int32) (ta : Nat) (TN : Nat) (tf : Nat → Int32) (tt : Nat → Nat) (near : Nat) (same : Nat) (g_tab : g 7 = .ref Mtab) (hTN : 1536 ≤ TN ∧ TN < 2 ^ 24) (ht : bys tf tt 1536) : CMv l yX9_use cX9_use 5 none ({ frames := 0, cells := 0, slots := 0, locals := 0 }) D (tyA cI cB cJ cR) 0 0 [.ref mm, .ref ta, .int (nI near), .int (nI same)] [(mm, .inr (9, fl 78 g)), (Mtab, .inl (cB, 1536, .inl mtab)), (ta, .inl (cB, TN, .inl tf))] (fun (u9 : (Nat → Value) × (Nat → Int32)) => match u9 with | (g9, t2) => frm [8, 9] g g9 ∧ g9 8 = .int (nI near) ∧ g9 9 = .int (nI same) ∧ bys t2 tt 1536) (fun (u9 : (Nat → Value) × (Nat → Int32)) => match u9 with | (g9, t2) => [(mm, .inr (9, fl 78 g9)), (Mtab, .inl (cB, 1536, .inl t2)), (ta, .inl (cB, TN, .inl tf))]) := by
  refine st_v (cc := cX9_use) (maxL := 5) (by decide) (Nat.le_of_ble_eq_true rfl) ?_
  intro p0 e0 s0 m0 below meth c0 A0 Q0 hBD hret hP hD hS ls hl
  obtain ⟨hx, hb, hml, hown, hts, hnm, hK, hNw, hMk, hA⟩ := hBD
  have hl : lv_has ls 5 [(0, .ref mm), (1, .ref ta), (2, .int (nI near)), (3, .int (nI same))] := hl
  have hP : va_P D vwCl [(mm, .inr (9, fl 78 g)), (Mtab, .inl (cB, 1536, .inl mtab)), (ta, .inl (cB, TN, .inl tf))] s0.heap := hP
  have hD : va_D A0 [(mm, .inr (9, fl 78 g)), (Mtab, .inl (cB, 1536, .inl mtab)), (ta, .inl (cB, TN, .inl tf))] := hD
  refine lv_iconst (v := 0) hx hb dX9_use_0 (by decide) ?_
  refine ri (y := nI 0) (nI_0.symm) ?_
  refine lv_istore (lv' := [(4, .int (nI 0)), (0, .ref mm), (1, .ref ta), (2, .int (nI near)), (3, .int (nI same))]) hx hb dX9_use_1 hl (by decide) rfl (fun ls hl => ?_)
  have loop : ∀ (k9 : Nat) (k : Nat) (t7 : Nat → Int32) (H : Heap) (locs : List Loc) (ls : Array Slot), 1536 - k < k9 → (k ≤ 1536) → (bys t7 tt k) → va_P D vwCl [(mm, .inr (9, fl 78 g)), (Mtab, .inl (cB, 1536, .inl t7)), (ta, .inl (cB, TN, .inl tf))] H → va_D A0 [(mm, .inr (9, fl 78 g)), (Mtab, .inl (cB, 1536, .inl t7)), (ta, .inl (cB, TN, .inl tf))] → va_S A0 s0.heap H locs → lv_has ls 5 [(0, .ref mm), (1, .ref ta), (2, .int (nI near)), (3, .int (nI same)), (4, .int (nI k))] → W p0 l e0 ({ frames := 0, cells := 0, slots := 0, locals := 0 }) s0 m0 ([.ref mm, .ref ta, .int (nI near), .int (nI same)] : List Value).toArray below meth c0 H locs 0 0 Q0 (F0 m0 3 ls []) := by
    intro k9
    induction k9 with
    | zero => intro k t7 H locs ls hk9; exact absurd hk9 (Nat.not_lt_zero _)
    | succ k9 ih =>
      intro k t7 H locs ls hk9 hk9 hb7 hP hD hS hl
      refine lv_iload hx hb dX9_use_3 (lv_at hl 4 rfl) ?_
      refine lv_sipush (v := 1536) hx hb dX9_use_5 (by decide) ?_
      refine lv_icmp_ge (tgt := 28) hx hb dX9_use_8 (by decide) (fun c_1 => ?_) (fun c_1 => ?_)
      · have hk : k = 1536 := by have := (nI_leI (a := 1536) (by decide) (by omega)).mp c_1; omega
        subst hk
        refine lv_aload_n hx hb dX9_use_28 rfl (lv_at hl 0 rfl) ?_
        refine lv_iload_n hx hb dX9_use_29 rfl (lv_at hl 2 rfl) ?_
        refine fx_put (D := D) (ci := 9) (v := .int (nI near)) (ty := .int) (C := RX9) (T := TX9) (N := 78) hx hb hts in_X9 tyX9 tyX9_ok nmX9 hown hK hP hD hS 0 rfl rfl 8 (by decide) (hts _ kX9_164) (fun _ h9 => h9) rfl (by decide +kernel) rfl rfl dX9_use_30 (fun H locs hP hD hS => ?_)
        have hP : va_P D vwCl [(mm, .inr (9, fl 78 (va_up g 8 (.int (nI near))))), (Mtab, .inl (cB, 1536, .inl t7)), (ta, .inl (cB, TN, .inl tf))] H := hP
        have hD : va_D A0 [(mm, .inr (9, fl 78 (va_up g 8 (.int (nI near))))), (Mtab, .inl (cB, 1536, .inl t7)), (ta, .inl (cB, TN, .inl tf))] := hD
        refine lv_aload_n hx hb dX9_use_33 rfl (lv_at hl 0 rfl) ?_
        refine lv_iload_n hx hb dX9_use_34 rfl (lv_at hl 3 rfl) ?_
        refine fx_put (D := D) (ci := 9) (v := .int (nI same)) (ty := .int) (C := RX9) (T := TX9) (N := 78) hx hb hts in_X9 tyX9 tyX9_ok nmX9 hown hK hP hD hS 0 rfl rfl 9 (by decide) (hts _ kX9_167) (fun _ h9 => h9) rfl (by decide +kernel) rfl rfl dX9_use_35 (fun H locs hP hD hS => ?_)
        have hP : va_P D vwCl [(mm, .inr (9, fl 78 (va_up (va_up g 8 (.int (nI near))) 9 (.int (nI same))))), (Mtab, .inl (cB, 1536, .inl t7)), (ta, .inl (cB, TN, .inl tf))] H := hP
        have hD : va_D A0 [(mm, .inr (9, fl 78 (va_up (va_up g 8 (.int (nI near))) 9 (.int (nI same))))), (Mtab, .inl (cB, 1536, .inl t7)), (ta, .inl (cB, TN, .inl tf))] := hD
        exact hret 38 ls _ _ ((va_up (va_up g 8 (.int (nI near))) 9 (.int (nI same))), t7) dX9_use_38 hP hD hS (⟨(frm_up (frm_up frm_refl (by decide)) (by decide)), rfl, rfl, hb7⟩)
      · have hk : k < 1536 := Nat.not_le.mp (fun q => c_1 (nI_le (a := 1536) q (by omega)))
        obtain ⟨q1, q2⟩ := ht k hk
        refine lv_aload_n hx hb dX9_use_11 rfl (lv_at hl 0 rfl) ?_
        refine fx_get (D := D) (ci := 9) (v := .ref Mtab) (C := RX9) (T := TX9) (N := 78) hx hb hts in_X9 hown hK hP 0 rfl rfl 7 (by decide) (hts _ kX9_30) (fun _ h9 => h9) (g_tab) dX9_use_12 ?_
        refine lv_iload hx hb dX9_use_15 (lv_at hl 4 rfl) ?_
        refine lv_aload_n hx hb dX9_use_17 rfl (lv_at hl 1 rfl) ?_
        refine lv_iload hx hb dX9_use_18 (lv_at hl 4 rfl) ?_
        refine ax_bld hx hb hK hP 2 1 rfl rfl k (rfl) (by omega) (by omega) dX9_use_20 ?_
        refine ri (y := s8 (tt k)) (q1) ?_
        refine ax_bst hx hb hK hP hD hS 1 1 rfl rfl k (rfl) (hk) (by omega) (z := s8 (tt k)) (s8_re _ q2) dX9_use_21 (fun H locs hP hD hS => ?_)
        have hP : va_P D vwCl [(mm, .inr (9, fl 78 g)), (Mtab, .inl (cB, 1536, .inl (upd t7 k (s8 (tt k))))), (ta, .inl (cB, TN, .inl tf))] H := hP
        have hD : va_D A0 [(mm, .inr (9, fl 78 g)), (Mtab, .inl (cB, 1536, .inl (upd t7 k (s8 (tt k))))), (ta, .inl (cB, TN, .inl tf))] := hD
        refine lv_iinc (v := nI (k + 1)) (lv' := [(4, .int (nI (k + 1))), (0, .ref mm), (1, .ref ta), (2, .int (nI near)), (3, .int (nI same))]) hx hb dX9_use_22 hl (k := 4) rfl (nI_add k 1) (by decide) rfl (fun ls hl => ?_)
        refine lv_goto (tgt := 3) hx hb dX9_use_25 (by decide) ?_
        exact ih (k + 1) (upd t7 k (s8 (tt k))) _ _ ls (by omega) (by omega) (fun j hj => by by_cases q : j = k; subst q; rw [pk_us]; exact ⟨rfl, q2⟩; rw [pk_un q]; exact hb7 j (by omega)) hP hD hS (lv_sub hl [1, 2, 3, 4, 0] rfl)
  exact loop _ 0 mtab _ _ ls (Nat.lt_succ_self _) (Nat.zero_le _) (fun j hj => absurd hj (Nat.not_lt_zero j)) hP hD hS (lv_sub hl [1, 2, 3, 4, 0] rfl)

set_option maxHeartbeats 4000000 in
set_option maxRecDepth 100000 in
theorem m_sourceIs (l : Launch) (D : va_G) (cI cB cJ cR : ClassId) (mm : Nat) (g : Nat → Value) (Msource : Nat) (MsourceFrom : Nat) (msource : Nat → Int32) (msourceFrom : Nat → Int32) (ta : Nat) (TN : Nat) (tf : Nat → Int32) (sB : Nat → Nat) (n : Nat) (pl_ : Bool) (g_source : g 27 = .ref Msource) (g_sourceFrom : g 28 = .ref MsourceFrom) (hTN : n ≤ TN ∧ TN < 2 ^ 24) (hn : n ≤ 4000) (ht : bys tf sB n) : CMv l yX9_sourceIs cX9_sourceIs 6 none ({ frames := 0, cells := 0, slots := 0, locals := 0 }) D (tyA cI cB cJ cR) 0 0 [.ref mm, .ref ta, .int (nI 0), .int (nI n), .int (bI pl_)] [(mm, .inr (9, fl 78 g)), (Msource, .inl (cB, 4000, .inl msource)), (MsourceFrom, .inl (cI, 4000, .inl msourceFrom)), (ta, .inl (cB, TN, .inl tf))] (fun (u9 : (Nat → Value) × (Nat → Int32) × (Nat → Int32)) => match u9 with | (g9, s2, f2) => frm [29] g g9 ∧ g9 29 = .int (nI n) ∧ bys s2 sB n ∧ ∀ i, i < n → f2 i = if pl_ then nI i else -1) (fun (u9 : (Nat → Value) × (Nat → Int32) × (Nat → Int32)) => match u9 with | (g9, s2, f2) => [(mm, .inr (9, fl 78 g9)), (Msource, .inl (cB, 4000, .inl s2)), (MsourceFrom, .inl (cI, 4000, .inl f2)), (ta, .inl (cB, TN, .inl tf))]) := by
  refine st_v (cc := cX9_sourceIs) (maxL := 6) (by decide) (Nat.le_of_ble_eq_true rfl) ?_
  intro p0 e0 s0 m0 below meth c0 A0 Q0 hBD hret hP hD hS ls hl
  obtain ⟨hx, hb, hml, hown, hts, hnm, hK, hNw, hMk, hA⟩ := hBD
  have hl : lv_has ls 6 [(0, .ref mm), (1, .ref ta), (2, .int (nI 0)), (3, .int (nI n)), (4, .int (bI pl_))] := hl
  have hP : va_P D vwCl [(mm, .inr (9, fl 78 g)), (Msource, .inl (cB, 4000, .inl msource)), (MsourceFrom, .inl (cI, 4000, .inl msourceFrom)), (ta, .inl (cB, TN, .inl tf))] s0.heap := hP
  have hD : va_D A0 [(mm, .inr (9, fl 78 g)), (Msource, .inl (cB, 4000, .inl msource)), (MsourceFrom, .inl (cI, 4000, .inl msourceFrom)), (ta, .inl (cB, TN, .inl tf))] := hD
  refine lv_aload_n hx hb dX9_sourceIs_0 rfl (lv_at hl 0 rfl) ?_
  refine lv_iload_n hx hb dX9_sourceIs_1 rfl (lv_at hl 3 rfl) ?_
  refine fx_put (D := D) (ci := 9) (v := .int (nI n)) (ty := .int) (C := RX9) (T := TX9) (N := 78) hx hb hts in_X9 tyX9 tyX9_ok nmX9 hown hK hP hD hS 0 rfl rfl 29 (by decide) (hts _ kX9_204) (fun _ h9 => h9) rfl (by decide +kernel) rfl rfl dX9_sourceIs_2 (fun H locs hP hD hS => ?_)
  have hP : va_P D vwCl [(mm, .inr (9, fl 78 (va_up g 29 (.int (nI n))))), (Msource, .inl (cB, 4000, .inl msource)), (MsourceFrom, .inl (cI, 4000, .inl msourceFrom)), (ta, .inl (cB, TN, .inl tf))] H := hP
  have hD : va_D A0 [(mm, .inr (9, fl 78 (va_up g 29 (.int (nI n))))), (Msource, .inl (cB, 4000, .inl msource)), (MsourceFrom, .inl (cI, 4000, .inl msourceFrom)), (ta, .inl (cB, TN, .inl tf))] := hD
  refine lv_iconst (v := 0) hx hb dX9_sourceIs_5 (by decide) ?_
  refine ri (y := nI 0) (nI_0.symm) ?_
  refine lv_istore (lv' := [(5, .int (nI 0)), (0, .ref mm), (1, .ref ta), (2, .int (nI 0)), (3, .int (nI n)), (4, .int (bI pl_))]) hx hb dX9_sourceIs_6 hl (by decide) rfl (fun ls hl => ?_)
  have loop : ∀ (k9 : Nat) (k : Nat) (s7 : Nat → Int32) (f7 : Nat → Int32) (H : Heap) (locs : List Loc) (ls : Array Slot), n - k < k9 → (k ≤ n) → (bys s7 sB k) → (∀ i, i < k → f7 i = if pl_ then nI i else -1) → va_P D vwCl [(mm, .inr (9, fl 78 (va_up g 29 (.int (nI n))))), (Msource, .inl (cB, 4000, .inl s7)), (MsourceFrom, .inl (cI, 4000, .inl f7)), (ta, .inl (cB, TN, .inl tf))] H → va_D A0 [(mm, .inr (9, fl 78 (va_up g 29 (.int (nI n))))), (Msource, .inl (cB, 4000, .inl s7)), (MsourceFrom, .inl (cI, 4000, .inl f7)), (ta, .inl (cB, TN, .inl tf))] → va_S A0 s0.heap H locs → lv_has ls 6 [(0, .ref mm), (1, .ref ta), (2, .int (nI 0)), (3, .int (nI n)), (4, .int (bI pl_)), (5, .int (nI k))] → W p0 l e0 ({ frames := 0, cells := 0, slots := 0, locals := 0 }) s0 m0 ([.ref mm, .ref ta, .int (nI 0), .int (nI n), .int (bI pl_)] : List Value).toArray below meth c0 H locs 0 0 Q0 (F0 m0 8 ls []) := by
    intro k9
    induction k9 with
    | zero => intro k s7 f7 H locs ls hk9; exact absurd hk9 (Nat.not_lt_zero _)
    | succ k9 ih =>
      intro k s7 f7 H locs ls hk9 hk9 hb7 hf7 hP hD hS hl
      refine lv_iload hx hb dX9_sourceIs_8 (lv_at hl 5 rfl) ?_
      refine lv_iload_n hx hb dX9_sourceIs_10 rfl (lv_at hl 3 rfl) ?_
      refine lv_icmp_ge (tgt := 51) hx hb dX9_sourceIs_11 (by decide) (fun c_1 => ?_) (fun c_1 => ?_)
      · have hk : n = k := by have := (nI_leI (by omega) (by omega)).mp c_1; omega
        subst hk
        exact hret 51 ls _ _ ((va_up g 29 (.int (nI n))), s7, f7) dX9_sourceIs_51 hP hD hS (⟨(frm_up frm_refl (by decide)), rfl, ⟨hb7, hf7⟩⟩)
      · have hk : k < n := Nat.not_le.mp (fun q => c_1 (nI_le q (by omega)))
        obtain ⟨q1, q2⟩ := ht k hk
        refine lv_aload_n hx hb dX9_sourceIs_14 rfl (lv_at hl 0 rfl) ?_
        refine fx_get (D := D) (ci := 9) (v := .ref Msource) (C := RX9) (T := TX9) (N := 78) hx hb hts in_X9 hown hK hP 0 rfl rfl 27 (by decide) (hts _ kX9_76) (fun _ h9 => h9) (g_source) dX9_sourceIs_15 ?_
        refine lv_iload hx hb dX9_sourceIs_18 (lv_at hl 5 rfl) ?_
        refine lv_aload_n hx hb dX9_sourceIs_20 rfl (lv_at hl 1 rfl) ?_
        refine lv_iload_n hx hb dX9_sourceIs_21 rfl (lv_at hl 2 rfl) ?_
        refine lv_iload hx hb dX9_sourceIs_22 (lv_at hl 5 rfl) ?_
        refine lv_iadd hx hb dX9_sourceIs_24 ?_
        refine ri (y := nI (0 + k)) (nI_add 0 k) ?_
        refine ri (y := nI k) (by rw [Nat.zero_add]) ?_
        refine ax_bld hx hb hK hP 3 1 rfl rfl k (rfl) (by omega) (by omega) dX9_sourceIs_25 ?_
        refine ri (y := s8 (sB k)) (q1) ?_
        refine ax_bst hx hb hK hP hD hS 1 1 rfl rfl k (rfl) (by omega) (by omega) (z := s8 (sB k)) (s8_re _ q2) dX9_sourceIs_26 (fun H locs hP hD hS => ?_)
        have hP : va_P D vwCl [(mm, .inr (9, fl 78 (va_up g 29 (.int (nI n))))), (Msource, .inl (cB, 4000, .inl (upd s7 k (s8 (sB k))))), (MsourceFrom, .inl (cI, 4000, .inl f7)), (ta, .inl (cB, TN, .inl tf))] H := hP
        have hD : va_D A0 [(mm, .inr (9, fl 78 (va_up g 29 (.int (nI n))))), (Msource, .inl (cB, 4000, .inl (upd s7 k (s8 (sB k))))), (MsourceFrom, .inl (cI, 4000, .inl f7)), (ta, .inl (cB, TN, .inl tf))] := hD
        refine lv_aload_n hx hb dX9_sourceIs_27 rfl (lv_at hl 0 rfl) ?_
        refine fx_get (D := D) (ci := 9) (v := .ref MsourceFrom) (C := RX9) (T := TX9) (N := 78) hx hb hts in_X9 hown hK hP 0 rfl rfl 28 (by decide) (hts _ kX9_79) (fun _ h9 => h9) (g_sourceFrom) dX9_sourceIs_28 ?_
        refine lv_iload hx hb dX9_sourceIs_31 (lv_at hl 5 rfl) ?_
        refine lv_iload hx hb dX9_sourceIs_33 (lv_at hl 4 rfl) ?_
        refine bz_eq (tgt := 43) hx hb dX9_sourceIs_35 (by decide) (fun c_2 => ?_) (fun c_2 => ?_)
        · refine lv_iconst (v := -1) hx hb dX9_sourceIs_43 (by decide) ?_
          refine ax_ist hx hb hK hP hD hS 2 0 rfl rfl k (rfl) (by omega) (by omega) dX9_sourceIs_44 (fun H locs hP hD hS => ?_)
          have hP : va_P D vwCl [(mm, .inr (9, fl 78 (va_up g 29 (.int (nI n))))), (Msource, .inl (cB, 4000, .inl (upd s7 k (s8 (sB k))))), (MsourceFrom, .inl (cI, 4000, .inl (upd f7 k (-1)))), (ta, .inl (cB, TN, .inl tf))] H := hP
          have hD : va_D A0 [(mm, .inr (9, fl 78 (va_up g 29 (.int (nI n))))), (Msource, .inl (cB, 4000, .inl (upd s7 k (s8 (sB k))))), (MsourceFrom, .inl (cI, 4000, .inl (upd f7 k (-1)))), (ta, .inl (cB, TN, .inl tf))] := hD
          refine lv_iinc (v := nI (k + 1)) (lv' := [(5, .int (nI (k + 1))), (0, .ref mm), (1, .ref ta), (2, .int (nI 0)), (3, .int (nI n)), (4, .int (bI pl_))]) hx hb dX9_sourceIs_45 hl (k := 5) rfl (nI_add k 1) (by decide) rfl (fun ls hl => ?_)
          refine lv_goto (tgt := 8) hx hb dX9_sourceIs_48 (by decide) ?_
          exact ih (k + 1) (upd s7 k (s8 (sB k))) (upd f7 k (-1)) _ _ ls (by omega) (by omega) (fun j hj => by by_cases q : j = k; subst q; rw [pk_us]; exact ⟨rfl, q2⟩; rw [pk_un q]; exact hb7 j (by omega)) (fun j hj => by by_cases q : j = k; subst q; rw [pk_us, c_2]; rfl; rw [pk_un q]; exact hf7 j (by omega)) hP hD hS (lv_sub hl [1, 2, 3, 4, 5, 0] rfl)
        · refine lv_iload hx hb dX9_sourceIs_38 (lv_at hl 5 rfl) ?_
          refine lv_goto (tgt := 44) hx hb dX9_sourceIs_40 (by decide) ?_
          refine ax_ist hx hb hK hP hD hS 2 0 rfl rfl k (rfl) (by omega) (by omega) dX9_sourceIs_44 (fun H locs hP hD hS => ?_)
          have hP : va_P D vwCl [(mm, .inr (9, fl 78 (va_up g 29 (.int (nI n))))), (Msource, .inl (cB, 4000, .inl (upd s7 k (s8 (sB k))))), (MsourceFrom, .inl (cI, 4000, .inl (upd f7 k (nI k)))), (ta, .inl (cB, TN, .inl tf))] H := hP
          have hD : va_D A0 [(mm, .inr (9, fl 78 (va_up g 29 (.int (nI n))))), (Msource, .inl (cB, 4000, .inl (upd s7 k (s8 (sB k))))), (MsourceFrom, .inl (cI, 4000, .inl (upd f7 k (nI k)))), (ta, .inl (cB, TN, .inl tf))] := hD
          refine lv_iinc (v := nI (k + 1)) (lv' := [(5, .int (nI (k + 1))), (0, .ref mm), (1, .ref ta), (2, .int (nI 0)), (3, .int (nI n)), (4, .int (bI pl_))]) hx hb dX9_sourceIs_45 hl (k := 5) rfl (nI_add k 1) (by decide) rfl (fun ls hl => ?_)
          refine lv_goto (tgt := 8) hx hb dX9_sourceIs_48 (by decide) ?_
          exact ih (k + 1) (upd s7 k (s8 (sB k))) (upd f7 k (nI k)) _ _ ls (by omega) (by omega) (fun j hj => by by_cases q : j = k; subst q; rw [pk_us]; exact ⟨rfl, q2⟩; rw [pk_un q]; exact hb7 j (by omega)) (fun j hj => by by_cases q : j = k; subst q; rw [pk_us, c_2]; rfl; rw [pk_un q]; exact hf7 j (by omega)) hP hD hS (lv_sub hl [1, 2, 3, 4, 5, 0] rfl)
  exact loop _ 0 msource msourceFrom _ _ ls (Nat.lt_succ_self _) (Nat.zero_le _) (fun j hj => absurd hj (Nat.not_lt_zero j)) (fun j hj => absurd hj (Nat.not_lt_zero j)) hP hD hS (lv_sub hl [1, 2, 3, 4, 5, 0] rfl)

set_option maxHeartbeats 4000000 in
set_option maxRecDepth 100000 in
theorem m_tellRead (l : Launch) (D : va_G) (cI cB cJ cR : ClassId) (mm : Nat) (g : Nat → Value) (fu : Nat) (pl : Nat) (wr : Nat) (dr : Nat) (g_fault : g 36 = .int (nI fu)) (g_place : g 37 = .int (nI pl)) (g_windows : g 38 = .int (nI wr)) (g_drafts : g 20 = .int (nI dr)) (hfl : fu < 2 ^ 31) : CMi l yX9_tellRead cX9_tellRead 1 (some .int) ({ frames := 0, cells := 0, slots := 0, locals := 0 }) D (tyA cI cB cJ cR) 0 0 [.ref mm] [(mm, .inr (9, fl 78 g))] (fun (r : Int32) (g9 : (Nat → Value)) => frm [52, 53, 54, 55] g g9 ∧ g9 52 = .int (nI fu) ∧ g9 53 = .int (nI (if fu = 0 then 0 else pl)) ∧ g9 54 = .int (nI wr) ∧ g9 55 = .int (nI dr) ∧ r = -10 - nI fu) (fun (g9 : (Nat → Value)) => [(mm, .inr (9, fl 78 g9))]) := by
  refine st_i (cc := cX9_tellRead) (maxL := 1) (by decide) (Nat.le_of_ble_eq_true rfl) ?_
  intro p0 e0 s0 m0 below meth c0 A0 Q0 hBD hret hP hD hS ls hl
  obtain ⟨hx, hb, hml, hown, hts, hnm, hK, hNw, hMk, hA⟩ := hBD
  have hl : lv_has ls 1 [(0, .ref mm)] := hl
  have hP : va_P D vwCl [(mm, .inr (9, fl 78 g))] s0.heap := hP
  have hD : va_D A0 [(mm, .inr (9, fl 78 g))] := hD
  refine lv_aload_n hx hb dX9_tellRead_0 rfl (lv_at hl 0 rfl) ?_
  refine lv_aload_n hx hb dX9_tellRead_1 rfl (lv_at hl 0 rfl) ?_
  refine fx_get (D := D) (ci := 9) (v := .int (nI fu)) (C := RX9) (T := TX9) (N := 78) hx hb hts in_X9 hown hK hP 0 rfl rfl 36 (by decide) (hts _ kX9_179) (fun _ h9 => h9) (g_fault) dX9_tellRead_2 ?_
  refine fx_put (D := D) (ci := 9) (v := .int (nI fu)) (ty := .int) (C := RX9) (T := TX9) (N := 78) hx hb hts in_X9 tyX9 tyX9_ok nmX9 hown hK hP hD hS 0 rfl rfl 52 (by decide) (hts _ kX9_324) (fun _ h9 => h9) rfl (by decide +kernel) rfl rfl dX9_tellRead_5 (fun H locs hP hD hS => ?_)
  have hP : va_P D vwCl [(mm, .inr (9, fl 78 (va_up g 52 (.int (nI fu)))))] H := hP
  have hD : va_D A0 [(mm, .inr (9, fl 78 (va_up g 52 (.int (nI fu)))))] := hD
  refine lv_aload_n hx hb dX9_tellRead_8 rfl (lv_at hl 0 rfl) ?_
  refine lv_aload_n hx hb dX9_tellRead_9 rfl (lv_at hl 0 rfl) ?_
  refine fx_get (D := D) (ci := 9) (v := .int (nI fu)) (C := RX9) (T := TX9) (N := 78) hx hb hts in_X9 hown hK hP 0 rfl rfl 36 (by decide) (hts _ kX9_179) (fun _ h9 => h9) (g_fault) dX9_tellRead_10 ?_
  refine lv_if_le (tgt := 23) hx hb dX9_tellRead_13 (by decide) (fun c_1 => ?_) (fun c_1 => ?_)
  · have h0 : fu = 0 := Decidable.byContradiction (fun w => nI_nle (Nat.pos_of_ne_zero w) hfl c_1)
    refine lv_iconst (v := 0) hx hb dX9_tellRead_23 (by decide) ?_
    refine ri (y := nI (if fu = 0 then 0 else pl)) (by rw [if_pos h0]; exact nI_0.symm) ?_
    refine fx_put (D := D) (ci := 9) (v := .int (nI (if fu = 0 then 0 else pl))) (ty := .int) (C := RX9) (T := TX9) (N := 78) hx hb hts in_X9 tyX9 tyX9_ok nmX9 hown hK hP hD hS 0 rfl rfl 53 (by decide) (hts _ kX9_327) (fun _ h9 => h9) rfl (by decide +kernel) rfl rfl dX9_tellRead_24 (fun H locs hP hD hS => ?_)
    have hP : va_P D vwCl [(mm, .inr (9, fl 78 (va_up (va_up g 52 (.int (nI fu))) 53 (.int (nI (if fu = 0 then 0 else pl))))))] H := hP
    have hD : va_D A0 [(mm, .inr (9, fl 78 (va_up (va_up g 52 (.int (nI fu))) 53 (.int (nI (if fu = 0 then 0 else pl))))))] := hD
    refine lv_aload_n hx hb dX9_tellRead_27 rfl (lv_at hl 0 rfl) ?_
    refine lv_aload_n hx hb dX9_tellRead_28 rfl (lv_at hl 0 rfl) ?_
    refine fx_get (D := D) (ci := 9) (v := .int (nI wr)) (C := RX9) (T := TX9) (N := 78) hx hb hts in_X9 hown hK hP 0 rfl rfl 38 (by decide) (hts _ kX9_234) (fun _ h9 => h9) (g_windows) dX9_tellRead_29 ?_
    refine fx_put (D := D) (ci := 9) (v := .int (nI wr)) (ty := .int) (C := RX9) (T := TX9) (N := 78) hx hb hts in_X9 tyX9 tyX9_ok nmX9 hown hK hP hD hS 0 rfl rfl 54 (by decide) (hts _ kX9_330) (fun _ h9 => h9) rfl (by decide +kernel) rfl rfl dX9_tellRead_32 (fun H locs hP hD hS => ?_)
    have hP : va_P D vwCl [(mm, .inr (9, fl 78 (va_up (va_up (va_up g 52 (.int (nI fu))) 53 (.int (nI (if fu = 0 then 0 else pl)))) 54 (.int (nI wr)))))] H := hP
    have hD : va_D A0 [(mm, .inr (9, fl 78 (va_up (va_up (va_up g 52 (.int (nI fu))) 53 (.int (nI (if fu = 0 then 0 else pl)))) 54 (.int (nI wr)))))] := hD
    refine lv_aload_n hx hb dX9_tellRead_35 rfl (lv_at hl 0 rfl) ?_
    refine lv_aload_n hx hb dX9_tellRead_36 rfl (lv_at hl 0 rfl) ?_
    refine fx_get (D := D) (ci := 9) (v := .int (nI dr)) (C := RX9) (T := TX9) (N := 78) hx hb hts in_X9 hown hK hP 0 rfl rfl 20 (by decide) (hts _ kX9_173) (fun _ h9 => h9) (g_drafts) dX9_tellRead_37 ?_
    refine fx_put (D := D) (ci := 9) (v := .int (nI dr)) (ty := .int) (C := RX9) (T := TX9) (N := 78) hx hb hts in_X9 tyX9 tyX9_ok nmX9 hown hK hP hD hS 0 rfl rfl 55 (by decide) (hts _ kX9_333) (fun _ h9 => h9) rfl (by decide +kernel) rfl rfl dX9_tellRead_40 (fun H locs hP hD hS => ?_)
    have hP : va_P D vwCl [(mm, .inr (9, fl 78 (va_up (va_up (va_up (va_up g 52 (.int (nI fu))) 53 (.int (nI (if fu = 0 then 0 else pl)))) 54 (.int (nI wr))) 55 (.int (nI dr)))))] H := hP
    have hD : va_D A0 [(mm, .inr (9, fl 78 (va_up (va_up (va_up (va_up g 52 (.int (nI fu))) 53 (.int (nI (if fu = 0 then 0 else pl)))) 54 (.int (nI wr))) 55 (.int (nI dr)))))] := hD
    refine lv_bipush (v := -10) hx hb dX9_tellRead_43 (by decide) ?_
    refine lv_aload_n hx hb dX9_tellRead_45 rfl (lv_at hl 0 rfl) ?_
    refine fx_get (D := D) (ci := 9) (v := .int (nI fu)) (C := RX9) (T := TX9) (N := 78) hx hb hts in_X9 hown hK hP 0 rfl rfl 36 (by decide) (hts _ kX9_179) (fun _ h9 => h9) (g_fault) dX9_tellRead_46 ?_
    refine lv_isub hx hb dX9_tellRead_49 ?_
    exact hret 50 ls _ _ _ ((va_up (va_up (va_up (va_up g 52 (.int (nI fu))) 53 (.int (nI (if fu = 0 then 0 else pl)))) 54 (.int (nI wr))) 55 (.int (nI dr)))) dX9_tellRead_50 hP hD hS (⟨(frm_up (frm_up (frm_up (frm_up frm_refl (by decide)) (by decide)) (by decide)) (by decide)), rfl, rfl, rfl, rfl, rfl⟩)
  · have h0 : ¬ fu = 0 := fun w => c_1 (by rw [w]; decide)
    refine lv_aload_n hx hb dX9_tellRead_16 rfl (lv_at hl 0 rfl) ?_
    refine fx_get (D := D) (ci := 9) (v := .int (nI pl)) (C := RX9) (T := TX9) (N := 78) hx hb hts in_X9 hown hK hP 0 rfl rfl 37 (by decide) (hts _ kX9_182) (fun _ h9 => h9) (g_place) dX9_tellRead_17 ?_
    refine lv_goto (tgt := 24) hx hb dX9_tellRead_20 (by decide) ?_
    refine ri (y := nI (if fu = 0 then 0 else pl)) (by rw [if_neg h0]) ?_
    refine fx_put (D := D) (ci := 9) (v := .int (nI (if fu = 0 then 0 else pl))) (ty := .int) (C := RX9) (T := TX9) (N := 78) hx hb hts in_X9 tyX9 tyX9_ok nmX9 hown hK hP hD hS 0 rfl rfl 53 (by decide) (hts _ kX9_327) (fun _ h9 => h9) rfl (by decide +kernel) rfl rfl dX9_tellRead_24 (fun H locs hP hD hS => ?_)
    have hP : va_P D vwCl [(mm, .inr (9, fl 78 (va_up (va_up g 52 (.int (nI fu))) 53 (.int (nI (if fu = 0 then 0 else pl))))))] H := hP
    have hD : va_D A0 [(mm, .inr (9, fl 78 (va_up (va_up g 52 (.int (nI fu))) 53 (.int (nI (if fu = 0 then 0 else pl))))))] := hD
    refine lv_aload_n hx hb dX9_tellRead_27 rfl (lv_at hl 0 rfl) ?_
    refine lv_aload_n hx hb dX9_tellRead_28 rfl (lv_at hl 0 rfl) ?_
    refine fx_get (D := D) (ci := 9) (v := .int (nI wr)) (C := RX9) (T := TX9) (N := 78) hx hb hts in_X9 hown hK hP 0 rfl rfl 38 (by decide) (hts _ kX9_234) (fun _ h9 => h9) (g_windows) dX9_tellRead_29 ?_
    refine fx_put (D := D) (ci := 9) (v := .int (nI wr)) (ty := .int) (C := RX9) (T := TX9) (N := 78) hx hb hts in_X9 tyX9 tyX9_ok nmX9 hown hK hP hD hS 0 rfl rfl 54 (by decide) (hts _ kX9_330) (fun _ h9 => h9) rfl (by decide +kernel) rfl rfl dX9_tellRead_32 (fun H locs hP hD hS => ?_)
    have hP : va_P D vwCl [(mm, .inr (9, fl 78 (va_up (va_up (va_up g 52 (.int (nI fu))) 53 (.int (nI (if fu = 0 then 0 else pl)))) 54 (.int (nI wr)))))] H := hP
    have hD : va_D A0 [(mm, .inr (9, fl 78 (va_up (va_up (va_up g 52 (.int (nI fu))) 53 (.int (nI (if fu = 0 then 0 else pl)))) 54 (.int (nI wr)))))] := hD
    refine lv_aload_n hx hb dX9_tellRead_35 rfl (lv_at hl 0 rfl) ?_
    refine lv_aload_n hx hb dX9_tellRead_36 rfl (lv_at hl 0 rfl) ?_
    refine fx_get (D := D) (ci := 9) (v := .int (nI dr)) (C := RX9) (T := TX9) (N := 78) hx hb hts in_X9 hown hK hP 0 rfl rfl 20 (by decide) (hts _ kX9_173) (fun _ h9 => h9) (g_drafts) dX9_tellRead_37 ?_
    refine fx_put (D := D) (ci := 9) (v := .int (nI dr)) (ty := .int) (C := RX9) (T := TX9) (N := 78) hx hb hts in_X9 tyX9 tyX9_ok nmX9 hown hK hP hD hS 0 rfl rfl 55 (by decide) (hts _ kX9_333) (fun _ h9 => h9) rfl (by decide +kernel) rfl rfl dX9_tellRead_40 (fun H locs hP hD hS => ?_)
    have hP : va_P D vwCl [(mm, .inr (9, fl 78 (va_up (va_up (va_up (va_up g 52 (.int (nI fu))) 53 (.int (nI (if fu = 0 then 0 else pl)))) 54 (.int (nI wr))) 55 (.int (nI dr)))))] H := hP
    have hD : va_D A0 [(mm, .inr (9, fl 78 (va_up (va_up (va_up (va_up g 52 (.int (nI fu))) 53 (.int (nI (if fu = 0 then 0 else pl)))) 54 (.int (nI wr))) 55 (.int (nI dr)))))] := hD
    refine lv_bipush (v := -10) hx hb dX9_tellRead_43 (by decide) ?_
    refine lv_aload_n hx hb dX9_tellRead_45 rfl (lv_at hl 0 rfl) ?_
    refine fx_get (D := D) (ci := 9) (v := .int (nI fu)) (C := RX9) (T := TX9) (N := 78) hx hb hts in_X9 hown hK hP 0 rfl rfl 36 (by decide) (hts _ kX9_179) (fun _ h9 => h9) (g_fault) dX9_tellRead_46 ?_
    refine lv_isub hx hb dX9_tellRead_49 ?_
    exact hret 50 ls _ _ _ ((va_up (va_up (va_up (va_up g 52 (.int (nI fu))) 53 (.int (nI (if fu = 0 then 0 else pl)))) 54 (.int (nI wr))) 55 (.int (nI dr)))) dX9_tellRead_50 hP hD hS (⟨(frm_up (frm_up (frm_up (frm_up frm_refl (by decide)) (by decide)) (by decide)) (by decide)), rfl, rfl, rfl, rfl, rfl⟩)

set_option maxHeartbeats 4000000 in
set_option maxRecDepth 100000 in
theorem m_publish (l : Launch) (D : va_G) (cI cB cJ cR : ClassId) (mm : Nat) (g : Nat → Value) (MiKind : Nat) (MiSize : Nat) (MiAddress : Nat) (MiMode : Nat) (MiCode : Nat) (MiWindow : Nat) (MdKind : Nat) (MdSize : Nat) (MdAddress : Nat) (MdMode : Nat) (MdCode : Nat) (MdWindow : Nat) (miKind : Nat → Int32) (miSize : Nat → Int32) (miAddress : Nat → Int32) (miMode : Nat → Int32) (miCode : Nat → Int32) (miWindow : Nat → Int32) (mdKind : Nat → Int32) (mdSize : Nat → Int32) (mdAddress : Nat → Int32) (mdMode : Nat → Int32) (mdCode : Nat → Int32) (mdWindow : Nat → Int32) (dr : Nat) (gg : Nat → Nat → Int32) (g_drafts : g 20 = .int (nI dr)) (g_iKind : g 14 = .ref MiKind) (g_iSize : g 15 = .ref MiSize) (g_iAddress : g 16 = .ref MiAddress) (g_iMode : g 17 = .ref MiMode) (g_iCode : g 18 = .ref MiCode) (g_iWindow : g 19 = .ref MiWindow) (g_dKind : g 21 = .ref MdKind) (g_dSize : g 22 = .ref MdSize) (g_dAddress : g 23 = .ref MdAddress) (g_dMode : g 24 = .ref MdMode) (g_dCode : g 25 = .ref MdCode) (g_dWindow : g 26 = .ref MdWindow) (hdr : dr < 2 ^ 30) (hd : dRel mdKind mdSize mdAddress mdMode mdCode mdWindow gg dr) : CMv l yX9_publish cX9_publish 2 none ({ frames := 0, cells := 0, slots := 0, locals := 0 }) D (tyA cI cB cJ cR) 0 0 [.ref mm] [(mm, .inr (9, fl 78 g)), (MiKind, .inl (cI, 4000, .inl miKind)), (MiSize, .inl (cI, 4000, .inl miSize)), (MiAddress, .inl (cI, 4000, .inl miAddress)), (MiMode, .inl (cI, 4000, .inl miMode)), (MiCode, .inl (cI, 4000, .inl miCode)), (MiWindow, .inl (cI, 4000, .inl miWindow)), (MdKind, .inl (cI, 4000, .inl mdKind)), (MdSize, .inl (cI, 4000, .inl mdSize)), (MdAddress, .inl (cI, 4000, .inl mdAddress)), (MdMode, .inl (cI, 4000, .inl mdMode)), (MdCode, .inl (cI, 4000, .inl mdCode)), (MdWindow, .inl (cI, 4000, .inl mdWindow))] (fun (u9 : (Nat → Value) × (Nat → Int32) × (Nat → Int32) × (Nat → Int32) × (Nat → Int32) × (Nat → Int32) × (Nat → Int32)) => match u9 with | (g9, iKind2, iSize2, iAddress2, iMode2, iCode2, iWindow2) => frm [13] g g9 ∧ g9 13 = .int (nI (min dr 4000)) ∧ dRel iKind2 iSize2 iAddress2 iMode2 iCode2 iWindow2 gg (min dr 4000)) (fun (u9 : (Nat → Value) × (Nat → Int32) × (Nat → Int32) × (Nat → Int32) × (Nat → Int32) × (Nat → Int32) × (Nat → Int32)) => match u9 with | (g9, iKind2, iSize2, iAddress2, iMode2, iCode2, iWindow2) => [(mm, .inr (9, fl 78 g9)), (MiKind, .inl (cI, 4000, .inl iKind2)), (MiSize, .inl (cI, 4000, .inl iSize2)), (MiAddress, .inl (cI, 4000, .inl iAddress2)), (MiMode, .inl (cI, 4000, .inl iMode2)), (MiCode, .inl (cI, 4000, .inl iCode2)), (MiWindow, .inl (cI, 4000, .inl iWindow2)), (MdKind, .inl (cI, 4000, .inl mdKind)), (MdSize, .inl (cI, 4000, .inl mdSize)), (MdAddress, .inl (cI, 4000, .inl mdAddress)), (MdMode, .inl (cI, 4000, .inl mdMode)), (MdCode, .inl (cI, 4000, .inl mdCode)), (MdWindow, .inl (cI, 4000, .inl mdWindow))]) := by
  refine st_v (cc := cX9_publish) (maxL := 2) (by decide) (Nat.le_of_ble_eq_true rfl) ?_
  intro p0 e0 s0 m0 below meth c0 A0 Q0 hBD hret hP hD hS ls hl
  obtain ⟨hx, hb, hml, hown, hts, hnm, hK, hNw, hMk, hA⟩ := hBD
  have hl : lv_has ls 2 [(0, .ref mm)] := hl
  have hP : va_P D vwCl [(mm, .inr (9, fl 78 g)), (MiKind, .inl (cI, 4000, .inl miKind)), (MiSize, .inl (cI, 4000, .inl miSize)), (MiAddress, .inl (cI, 4000, .inl miAddress)), (MiMode, .inl (cI, 4000, .inl miMode)), (MiCode, .inl (cI, 4000, .inl miCode)), (MiWindow, .inl (cI, 4000, .inl miWindow)), (MdKind, .inl (cI, 4000, .inl mdKind)), (MdSize, .inl (cI, 4000, .inl mdSize)), (MdAddress, .inl (cI, 4000, .inl mdAddress)), (MdMode, .inl (cI, 4000, .inl mdMode)), (MdCode, .inl (cI, 4000, .inl mdCode)), (MdWindow, .inl (cI, 4000, .inl mdWindow))] s0.heap := hP
  have hD : va_D A0 [(mm, .inr (9, fl 78 g)), (MiKind, .inl (cI, 4000, .inl miKind)), (MiSize, .inl (cI, 4000, .inl miSize)), (MiAddress, .inl (cI, 4000, .inl miAddress)), (MiMode, .inl (cI, 4000, .inl miMode)), (MiCode, .inl (cI, 4000, .inl miCode)), (MiWindow, .inl (cI, 4000, .inl miWindow)), (MdKind, .inl (cI, 4000, .inl mdKind)), (MdSize, .inl (cI, 4000, .inl mdSize)), (MdAddress, .inl (cI, 4000, .inl mdAddress)), (MdMode, .inl (cI, 4000, .inl mdMode)), (MdCode, .inl (cI, 4000, .inl mdCode)), (MdWindow, .inl (cI, 4000, .inl mdWindow))] := hD
  refine lv_aload_n hx hb dX9_publish_0 rfl (lv_at hl 0 rfl) ?_
  refine lv_aload_n hx hb dX9_publish_1 rfl (lv_at hl 0 rfl) ?_
  refine fx_get (D := D) (ci := 9) (v := .int (nI dr)) (C := RX9) (T := TX9) (N := 78) hx hb hts in_X9 hown hK hP 0 rfl rfl 20 (by decide) (hts _ kX9_173) (fun _ h9 => h9) (g_drafts) dX9_publish_2 ?_
  refine lv_sipush (v := 4000) hx hb dX9_publish_5 (by decide) ?_
  refine lv_icmp_ge (tgt := 18) hx hb dX9_publish_8 (by decide) (fun c_1 => ?_) (fun c_1 => ?_)
  · have hk : 4000 ≤ dr := (nI_leI (a := 4000) (by decide) (by omega)).mp c_1
    refine lv_sipush (v := 4000) hx hb dX9_publish_18 (by decide) ?_
    refine ri (y := nI (min dr 4000)) (by rw [Nat.min_eq_right hk]; rfl) ?_
    refine fx_put (D := D) (ci := 9) (v := .int (nI (min dr 4000))) (ty := .int) (C := RX9) (T := TX9) (N := 78) hx hb hts in_X9 tyX9 tyX9_ok nmX9 hown hK hP hD hS 0 rfl rfl 13 (by decide) (hts _ kX9_176) (fun _ h9 => h9) rfl (by decide +kernel) rfl rfl dX9_publish_21 (fun H locs hP hD hS => ?_)
    have hP : va_P D vwCl [(mm, .inr (9, fl 78 (va_up g 13 (.int (nI (min dr 4000)))))), (MiKind, .inl (cI, 4000, .inl miKind)), (MiSize, .inl (cI, 4000, .inl miSize)), (MiAddress, .inl (cI, 4000, .inl miAddress)), (MiMode, .inl (cI, 4000, .inl miMode)), (MiCode, .inl (cI, 4000, .inl miCode)), (MiWindow, .inl (cI, 4000, .inl miWindow)), (MdKind, .inl (cI, 4000, .inl mdKind)), (MdSize, .inl (cI, 4000, .inl mdSize)), (MdAddress, .inl (cI, 4000, .inl mdAddress)), (MdMode, .inl (cI, 4000, .inl mdMode)), (MdCode, .inl (cI, 4000, .inl mdCode)), (MdWindow, .inl (cI, 4000, .inl mdWindow))] H := hP
    have hD : va_D A0 [(mm, .inr (9, fl 78 (va_up g 13 (.int (nI (min dr 4000)))))), (MiKind, .inl (cI, 4000, .inl miKind)), (MiSize, .inl (cI, 4000, .inl miSize)), (MiAddress, .inl (cI, 4000, .inl miAddress)), (MiMode, .inl (cI, 4000, .inl miMode)), (MiCode, .inl (cI, 4000, .inl miCode)), (MiWindow, .inl (cI, 4000, .inl miWindow)), (MdKind, .inl (cI, 4000, .inl mdKind)), (MdSize, .inl (cI, 4000, .inl mdSize)), (MdAddress, .inl (cI, 4000, .inl mdAddress)), (MdMode, .inl (cI, 4000, .inl mdMode)), (MdCode, .inl (cI, 4000, .inl mdCode)), (MdWindow, .inl (cI, 4000, .inl mdWindow))] := hD
    refine lv_iconst (v := 0) hx hb dX9_publish_24 (by decide) ?_
    refine ri (y := nI 0) (nI_0.symm) ?_
    refine lv_istore_n (lv' := [(1, .int (nI 0)), (0, .ref mm)]) hx hb dX9_publish_25 rfl hl (by decide) rfl (fun ls hl => ?_)
    have loop : ∀ (k9 : Nat) (k : Nat) (iKind7 : Nat → Int32) (iSize7 : Nat → Int32) (iAddress7 : Nat → Int32) (iMode7 : Nat → Int32) (iCode7 : Nat → Int32) (iWindow7 : Nat → Int32) (H : Heap) (locs : List Loc) (ls : Array Slot), min dr 4000 - k < k9 → (k ≤ min dr 4000) → (dRel iKind7 iSize7 iAddress7 iMode7 iCode7 iWindow7 gg k) → va_P D vwCl [(mm, .inr (9, fl 78 (va_up g 13 (.int (nI (min dr 4000)))))), (MiKind, .inl (cI, 4000, .inl iKind7)), (MiSize, .inl (cI, 4000, .inl iSize7)), (MiAddress, .inl (cI, 4000, .inl iAddress7)), (MiMode, .inl (cI, 4000, .inl iMode7)), (MiCode, .inl (cI, 4000, .inl iCode7)), (MiWindow, .inl (cI, 4000, .inl iWindow7)), (MdKind, .inl (cI, 4000, .inl mdKind)), (MdSize, .inl (cI, 4000, .inl mdSize)), (MdAddress, .inl (cI, 4000, .inl mdAddress)), (MdMode, .inl (cI, 4000, .inl mdMode)), (MdCode, .inl (cI, 4000, .inl mdCode)), (MdWindow, .inl (cI, 4000, .inl mdWindow))] H → va_D A0 [(mm, .inr (9, fl 78 (va_up g 13 (.int (nI (min dr 4000)))))), (MiKind, .inl (cI, 4000, .inl iKind7)), (MiSize, .inl (cI, 4000, .inl iSize7)), (MiAddress, .inl (cI, 4000, .inl iAddress7)), (MiMode, .inl (cI, 4000, .inl iMode7)), (MiCode, .inl (cI, 4000, .inl iCode7)), (MiWindow, .inl (cI, 4000, .inl iWindow7)), (MdKind, .inl (cI, 4000, .inl mdKind)), (MdSize, .inl (cI, 4000, .inl mdSize)), (MdAddress, .inl (cI, 4000, .inl mdAddress)), (MdMode, .inl (cI, 4000, .inl mdMode)), (MdCode, .inl (cI, 4000, .inl mdCode)), (MdWindow, .inl (cI, 4000, .inl mdWindow))] → va_S A0 s0.heap H locs → lv_has ls 2 [(0, .ref mm), (1, .int (nI k))] → W p0 l e0 ({ frames := 0, cells := 0, slots := 0, locals := 0 }) s0 m0 ([.ref mm] : List Value).toArray below meth c0 H locs 0 0 Q0 (F0 m0 26 ls []) := by
      intro k9
      induction k9 with
      | zero => intro k iKind7 iSize7 iAddress7 iMode7 iCode7 iWindow7 H locs ls hk9; exact absurd hk9 (Nat.not_lt_zero _)
      | succ k9 ih =>
        intro k iKind7 iSize7 iAddress7 iMode7 iCode7 iWindow7 H locs ls hk9 hk9 hi7 hP hD hS hl
        refine lv_iload_n hx hb dX9_publish_26 rfl (lv_at hl 1 rfl) ?_
        refine lv_aload_n hx hb dX9_publish_27 rfl (lv_at hl 0 rfl) ?_
        refine fx_get (D := D) (ci := 9) (v := .int (nI (min dr 4000))) (C := RX9) (T := TX9) (N := 78) hx hb hts in_X9 hown hK hP 0 rfl rfl 13 (by decide) (hts _ kX9_176) (fun _ h9 => h9) (rfl) dX9_publish_28 ?_
        refine lv_icmp_ge (tgt := 112) hx hb dX9_publish_31 (by decide) (fun c_2 => ?_) (fun c_2 => ?_)
        · have hk : k = min dr 4000 := by have := (nI_leI (by omega) (by omega)).mp c_2; omega
          subst hk
          exact hret 112 ls _ _ ((va_up g 13 (.int (nI (min dr 4000)))), iKind7, iSize7, iAddress7, iMode7, iCode7, iWindow7) dX9_publish_112 hP hD hS (⟨(frm_up frm_refl (by decide)), rfl, hi7⟩)
        · have hk : k < min dr 4000 := Nat.not_le.mp (fun q => c_2 (nI_le q (by omega)))
          obtain ⟨d1, d2, d3, d4, d5, d6⟩ := hd k (by omega) (by omega)
          refine lv_aload_n hx hb dX9_publish_34 rfl (lv_at hl 0 rfl) ?_
          refine fx_get (D := D) (ci := 9) (v := .ref MiKind) (C := RX9) (T := TX9) (N := 78) hx hb hts in_X9 hown hK hP 0 rfl rfl 14 (by decide) (hts _ kX9_40) (fun _ h9 => h9) (g_iKind) dX9_publish_35 ?_
          refine lv_iload_n hx hb dX9_publish_38 rfl (lv_at hl 1 rfl) ?_
          refine lv_aload_n hx hb dX9_publish_39 rfl (lv_at hl 0 rfl) ?_
          refine fx_get (D := D) (ci := 9) (v := .ref MdKind) (C := RX9) (T := TX9) (N := 78) hx hb hts in_X9 hown hK hP 0 rfl rfl 21 (by decide) (hts _ kX9_58) (fun _ h9 => h9) (g_dKind) dX9_publish_40 ?_
          refine lv_iload_n hx hb dX9_publish_43 rfl (lv_at hl 1 rfl) ?_
          refine ax_ild hx hb hK hP 7 0 rfl rfl k (rfl) (by omega) (by omega) dX9_publish_44 ?_
          refine ri (y := gg k 0) (d1) ?_
          refine ax_ist hx hb hK hP hD hS 1 0 rfl rfl k (rfl) (by omega) (by omega) dX9_publish_45 (fun H locs hP hD hS => ?_)
          have hP : va_P D vwCl [(mm, .inr (9, fl 78 (va_up g 13 (.int (nI (min dr 4000)))))), (MiKind, .inl (cI, 4000, .inl (upd iKind7 k (gg k 0)))), (MiSize, .inl (cI, 4000, .inl iSize7)), (MiAddress, .inl (cI, 4000, .inl iAddress7)), (MiMode, .inl (cI, 4000, .inl iMode7)), (MiCode, .inl (cI, 4000, .inl iCode7)), (MiWindow, .inl (cI, 4000, .inl iWindow7)), (MdKind, .inl (cI, 4000, .inl mdKind)), (MdSize, .inl (cI, 4000, .inl mdSize)), (MdAddress, .inl (cI, 4000, .inl mdAddress)), (MdMode, .inl (cI, 4000, .inl mdMode)), (MdCode, .inl (cI, 4000, .inl mdCode)), (MdWindow, .inl (cI, 4000, .inl mdWindow))] H := hP
          have hD : va_D A0 [(mm, .inr (9, fl 78 (va_up g 13 (.int (nI (min dr 4000)))))), (MiKind, .inl (cI, 4000, .inl (upd iKind7 k (gg k 0)))), (MiSize, .inl (cI, 4000, .inl iSize7)), (MiAddress, .inl (cI, 4000, .inl iAddress7)), (MiMode, .inl (cI, 4000, .inl iMode7)), (MiCode, .inl (cI, 4000, .inl iCode7)), (MiWindow, .inl (cI, 4000, .inl iWindow7)), (MdKind, .inl (cI, 4000, .inl mdKind)), (MdSize, .inl (cI, 4000, .inl mdSize)), (MdAddress, .inl (cI, 4000, .inl mdAddress)), (MdMode, .inl (cI, 4000, .inl mdMode)), (MdCode, .inl (cI, 4000, .inl mdCode)), (MdWindow, .inl (cI, 4000, .inl mdWindow))] := hD
          refine lv_aload_n hx hb dX9_publish_46 rfl (lv_at hl 0 rfl) ?_
          refine fx_get (D := D) (ci := 9) (v := .ref MiSize) (C := RX9) (T := TX9) (N := 78) hx hb hts in_X9 hown hK hP 0 rfl rfl 15 (by decide) (hts _ kX9_43) (fun _ h9 => h9) (g_iSize) dX9_publish_47 ?_
          refine lv_iload_n hx hb dX9_publish_50 rfl (lv_at hl 1 rfl) ?_
          refine lv_aload_n hx hb dX9_publish_51 rfl (lv_at hl 0 rfl) ?_
          refine fx_get (D := D) (ci := 9) (v := .ref MdSize) (C := RX9) (T := TX9) (N := 78) hx hb hts in_X9 hown hK hP 0 rfl rfl 22 (by decide) (hts _ kX9_61) (fun _ h9 => h9) (g_dSize) dX9_publish_52 ?_
          refine lv_iload_n hx hb dX9_publish_55 rfl (lv_at hl 1 rfl) ?_
          refine ax_ild hx hb hK hP 8 0 rfl rfl k (rfl) (by omega) (by omega) dX9_publish_56 ?_
          refine ri (y := gg k 1) (d2) ?_
          refine ax_ist hx hb hK hP hD hS 2 0 rfl rfl k (rfl) (by omega) (by omega) dX9_publish_57 (fun H locs hP hD hS => ?_)
          have hP : va_P D vwCl [(mm, .inr (9, fl 78 (va_up g 13 (.int (nI (min dr 4000)))))), (MiKind, .inl (cI, 4000, .inl (upd iKind7 k (gg k 0)))), (MiSize, .inl (cI, 4000, .inl (upd iSize7 k (gg k 1)))), (MiAddress, .inl (cI, 4000, .inl iAddress7)), (MiMode, .inl (cI, 4000, .inl iMode7)), (MiCode, .inl (cI, 4000, .inl iCode7)), (MiWindow, .inl (cI, 4000, .inl iWindow7)), (MdKind, .inl (cI, 4000, .inl mdKind)), (MdSize, .inl (cI, 4000, .inl mdSize)), (MdAddress, .inl (cI, 4000, .inl mdAddress)), (MdMode, .inl (cI, 4000, .inl mdMode)), (MdCode, .inl (cI, 4000, .inl mdCode)), (MdWindow, .inl (cI, 4000, .inl mdWindow))] H := hP
          have hD : va_D A0 [(mm, .inr (9, fl 78 (va_up g 13 (.int (nI (min dr 4000)))))), (MiKind, .inl (cI, 4000, .inl (upd iKind7 k (gg k 0)))), (MiSize, .inl (cI, 4000, .inl (upd iSize7 k (gg k 1)))), (MiAddress, .inl (cI, 4000, .inl iAddress7)), (MiMode, .inl (cI, 4000, .inl iMode7)), (MiCode, .inl (cI, 4000, .inl iCode7)), (MiWindow, .inl (cI, 4000, .inl iWindow7)), (MdKind, .inl (cI, 4000, .inl mdKind)), (MdSize, .inl (cI, 4000, .inl mdSize)), (MdAddress, .inl (cI, 4000, .inl mdAddress)), (MdMode, .inl (cI, 4000, .inl mdMode)), (MdCode, .inl (cI, 4000, .inl mdCode)), (MdWindow, .inl (cI, 4000, .inl mdWindow))] := hD
          refine lv_aload_n hx hb dX9_publish_58 rfl (lv_at hl 0 rfl) ?_
          refine fx_get (D := D) (ci := 9) (v := .ref MiAddress) (C := RX9) (T := TX9) (N := 78) hx hb hts in_X9 hown hK hP 0 rfl rfl 16 (by decide) (hts _ kX9_46) (fun _ h9 => h9) (g_iAddress) dX9_publish_59 ?_
          refine lv_iload_n hx hb dX9_publish_62 rfl (lv_at hl 1 rfl) ?_
          refine lv_aload_n hx hb dX9_publish_63 rfl (lv_at hl 0 rfl) ?_
          refine fx_get (D := D) (ci := 9) (v := .ref MdAddress) (C := RX9) (T := TX9) (N := 78) hx hb hts in_X9 hown hK hP 0 rfl rfl 23 (by decide) (hts _ kX9_64) (fun _ h9 => h9) (g_dAddress) dX9_publish_64 ?_
          refine lv_iload_n hx hb dX9_publish_67 rfl (lv_at hl 1 rfl) ?_
          refine ax_ild hx hb hK hP 9 0 rfl rfl k (rfl) (by omega) (by omega) dX9_publish_68 ?_
          refine ri (y := gg k 2) (d3) ?_
          refine ax_ist hx hb hK hP hD hS 3 0 rfl rfl k (rfl) (by omega) (by omega) dX9_publish_69 (fun H locs hP hD hS => ?_)
          have hP : va_P D vwCl [(mm, .inr (9, fl 78 (va_up g 13 (.int (nI (min dr 4000)))))), (MiKind, .inl (cI, 4000, .inl (upd iKind7 k (gg k 0)))), (MiSize, .inl (cI, 4000, .inl (upd iSize7 k (gg k 1)))), (MiAddress, .inl (cI, 4000, .inl (upd iAddress7 k (gg k 2)))), (MiMode, .inl (cI, 4000, .inl iMode7)), (MiCode, .inl (cI, 4000, .inl iCode7)), (MiWindow, .inl (cI, 4000, .inl iWindow7)), (MdKind, .inl (cI, 4000, .inl mdKind)), (MdSize, .inl (cI, 4000, .inl mdSize)), (MdAddress, .inl (cI, 4000, .inl mdAddress)), (MdMode, .inl (cI, 4000, .inl mdMode)), (MdCode, .inl (cI, 4000, .inl mdCode)), (MdWindow, .inl (cI, 4000, .inl mdWindow))] H := hP
          have hD : va_D A0 [(mm, .inr (9, fl 78 (va_up g 13 (.int (nI (min dr 4000)))))), (MiKind, .inl (cI, 4000, .inl (upd iKind7 k (gg k 0)))), (MiSize, .inl (cI, 4000, .inl (upd iSize7 k (gg k 1)))), (MiAddress, .inl (cI, 4000, .inl (upd iAddress7 k (gg k 2)))), (MiMode, .inl (cI, 4000, .inl iMode7)), (MiCode, .inl (cI, 4000, .inl iCode7)), (MiWindow, .inl (cI, 4000, .inl iWindow7)), (MdKind, .inl (cI, 4000, .inl mdKind)), (MdSize, .inl (cI, 4000, .inl mdSize)), (MdAddress, .inl (cI, 4000, .inl mdAddress)), (MdMode, .inl (cI, 4000, .inl mdMode)), (MdCode, .inl (cI, 4000, .inl mdCode)), (MdWindow, .inl (cI, 4000, .inl mdWindow))] := hD
          refine lv_aload_n hx hb dX9_publish_70 rfl (lv_at hl 0 rfl) ?_
          refine fx_get (D := D) (ci := 9) (v := .ref MiMode) (C := RX9) (T := TX9) (N := 78) hx hb hts in_X9 hown hK hP 0 rfl rfl 17 (by decide) (hts _ kX9_49) (fun _ h9 => h9) (g_iMode) dX9_publish_71 ?_
          refine lv_iload_n hx hb dX9_publish_74 rfl (lv_at hl 1 rfl) ?_
          refine lv_aload_n hx hb dX9_publish_75 rfl (lv_at hl 0 rfl) ?_
          refine fx_get (D := D) (ci := 9) (v := .ref MdMode) (C := RX9) (T := TX9) (N := 78) hx hb hts in_X9 hown hK hP 0 rfl rfl 24 (by decide) (hts _ kX9_67) (fun _ h9 => h9) (g_dMode) dX9_publish_76 ?_
          refine lv_iload_n hx hb dX9_publish_79 rfl (lv_at hl 1 rfl) ?_
          refine ax_ild hx hb hK hP 10 0 rfl rfl k (rfl) (by omega) (by omega) dX9_publish_80 ?_
          refine ri (y := gg k 3) (d4) ?_
          refine ax_ist hx hb hK hP hD hS 4 0 rfl rfl k (rfl) (by omega) (by omega) dX9_publish_81 (fun H locs hP hD hS => ?_)
          have hP : va_P D vwCl [(mm, .inr (9, fl 78 (va_up g 13 (.int (nI (min dr 4000)))))), (MiKind, .inl (cI, 4000, .inl (upd iKind7 k (gg k 0)))), (MiSize, .inl (cI, 4000, .inl (upd iSize7 k (gg k 1)))), (MiAddress, .inl (cI, 4000, .inl (upd iAddress7 k (gg k 2)))), (MiMode, .inl (cI, 4000, .inl (upd iMode7 k (gg k 3)))), (MiCode, .inl (cI, 4000, .inl iCode7)), (MiWindow, .inl (cI, 4000, .inl iWindow7)), (MdKind, .inl (cI, 4000, .inl mdKind)), (MdSize, .inl (cI, 4000, .inl mdSize)), (MdAddress, .inl (cI, 4000, .inl mdAddress)), (MdMode, .inl (cI, 4000, .inl mdMode)), (MdCode, .inl (cI, 4000, .inl mdCode)), (MdWindow, .inl (cI, 4000, .inl mdWindow))] H := hP
          have hD : va_D A0 [(mm, .inr (9, fl 78 (va_up g 13 (.int (nI (min dr 4000)))))), (MiKind, .inl (cI, 4000, .inl (upd iKind7 k (gg k 0)))), (MiSize, .inl (cI, 4000, .inl (upd iSize7 k (gg k 1)))), (MiAddress, .inl (cI, 4000, .inl (upd iAddress7 k (gg k 2)))), (MiMode, .inl (cI, 4000, .inl (upd iMode7 k (gg k 3)))), (MiCode, .inl (cI, 4000, .inl iCode7)), (MiWindow, .inl (cI, 4000, .inl iWindow7)), (MdKind, .inl (cI, 4000, .inl mdKind)), (MdSize, .inl (cI, 4000, .inl mdSize)), (MdAddress, .inl (cI, 4000, .inl mdAddress)), (MdMode, .inl (cI, 4000, .inl mdMode)), (MdCode, .inl (cI, 4000, .inl mdCode)), (MdWindow, .inl (cI, 4000, .inl mdWindow))] := hD
          refine lv_aload_n hx hb dX9_publish_82 rfl (lv_at hl 0 rfl) ?_
          refine fx_get (D := D) (ci := 9) (v := .ref MiCode) (C := RX9) (T := TX9) (N := 78) hx hb hts in_X9 hown hK hP 0 rfl rfl 18 (by decide) (hts _ kX9_52) (fun _ h9 => h9) (g_iCode) dX9_publish_83 ?_
          refine lv_iload_n hx hb dX9_publish_86 rfl (lv_at hl 1 rfl) ?_
          refine lv_aload_n hx hb dX9_publish_87 rfl (lv_at hl 0 rfl) ?_
          refine fx_get (D := D) (ci := 9) (v := .ref MdCode) (C := RX9) (T := TX9) (N := 78) hx hb hts in_X9 hown hK hP 0 rfl rfl 25 (by decide) (hts _ kX9_70) (fun _ h9 => h9) (g_dCode) dX9_publish_88 ?_
          refine lv_iload_n hx hb dX9_publish_91 rfl (lv_at hl 1 rfl) ?_
          refine ax_ild hx hb hK hP 11 0 rfl rfl k (rfl) (by omega) (by omega) dX9_publish_92 ?_
          refine ri (y := gg k 4) (d5) ?_
          refine ax_ist hx hb hK hP hD hS 5 0 rfl rfl k (rfl) (by omega) (by omega) dX9_publish_93 (fun H locs hP hD hS => ?_)
          have hP : va_P D vwCl [(mm, .inr (9, fl 78 (va_up g 13 (.int (nI (min dr 4000)))))), (MiKind, .inl (cI, 4000, .inl (upd iKind7 k (gg k 0)))), (MiSize, .inl (cI, 4000, .inl (upd iSize7 k (gg k 1)))), (MiAddress, .inl (cI, 4000, .inl (upd iAddress7 k (gg k 2)))), (MiMode, .inl (cI, 4000, .inl (upd iMode7 k (gg k 3)))), (MiCode, .inl (cI, 4000, .inl (upd iCode7 k (gg k 4)))), (MiWindow, .inl (cI, 4000, .inl iWindow7)), (MdKind, .inl (cI, 4000, .inl mdKind)), (MdSize, .inl (cI, 4000, .inl mdSize)), (MdAddress, .inl (cI, 4000, .inl mdAddress)), (MdMode, .inl (cI, 4000, .inl mdMode)), (MdCode, .inl (cI, 4000, .inl mdCode)), (MdWindow, .inl (cI, 4000, .inl mdWindow))] H := hP
          have hD : va_D A0 [(mm, .inr (9, fl 78 (va_up g 13 (.int (nI (min dr 4000)))))), (MiKind, .inl (cI, 4000, .inl (upd iKind7 k (gg k 0)))), (MiSize, .inl (cI, 4000, .inl (upd iSize7 k (gg k 1)))), (MiAddress, .inl (cI, 4000, .inl (upd iAddress7 k (gg k 2)))), (MiMode, .inl (cI, 4000, .inl (upd iMode7 k (gg k 3)))), (MiCode, .inl (cI, 4000, .inl (upd iCode7 k (gg k 4)))), (MiWindow, .inl (cI, 4000, .inl iWindow7)), (MdKind, .inl (cI, 4000, .inl mdKind)), (MdSize, .inl (cI, 4000, .inl mdSize)), (MdAddress, .inl (cI, 4000, .inl mdAddress)), (MdMode, .inl (cI, 4000, .inl mdMode)), (MdCode, .inl (cI, 4000, .inl mdCode)), (MdWindow, .inl (cI, 4000, .inl mdWindow))] := hD
          refine lv_aload_n hx hb dX9_publish_94 rfl (lv_at hl 0 rfl) ?_
          refine fx_get (D := D) (ci := 9) (v := .ref MiWindow) (C := RX9) (T := TX9) (N := 78) hx hb hts in_X9 hown hK hP 0 rfl rfl 19 (by decide) (hts _ kX9_55) (fun _ h9 => h9) (g_iWindow) dX9_publish_95 ?_
          refine lv_iload_n hx hb dX9_publish_98 rfl (lv_at hl 1 rfl) ?_
          refine lv_aload_n hx hb dX9_publish_99 rfl (lv_at hl 0 rfl) ?_
          refine fx_get (D := D) (ci := 9) (v := .ref MdWindow) (C := RX9) (T := TX9) (N := 78) hx hb hts in_X9 hown hK hP 0 rfl rfl 26 (by decide) (hts _ kX9_73) (fun _ h9 => h9) (g_dWindow) dX9_publish_100 ?_
          refine lv_iload_n hx hb dX9_publish_103 rfl (lv_at hl 1 rfl) ?_
          refine ax_ild hx hb hK hP 12 0 rfl rfl k (rfl) (by omega) (by omega) dX9_publish_104 ?_
          refine ri (y := gg k 5) (d6) ?_
          refine ax_ist hx hb hK hP hD hS 6 0 rfl rfl k (rfl) (by omega) (by omega) dX9_publish_105 (fun H locs hP hD hS => ?_)
          have hP : va_P D vwCl [(mm, .inr (9, fl 78 (va_up g 13 (.int (nI (min dr 4000)))))), (MiKind, .inl (cI, 4000, .inl (upd iKind7 k (gg k 0)))), (MiSize, .inl (cI, 4000, .inl (upd iSize7 k (gg k 1)))), (MiAddress, .inl (cI, 4000, .inl (upd iAddress7 k (gg k 2)))), (MiMode, .inl (cI, 4000, .inl (upd iMode7 k (gg k 3)))), (MiCode, .inl (cI, 4000, .inl (upd iCode7 k (gg k 4)))), (MiWindow, .inl (cI, 4000, .inl (upd iWindow7 k (gg k 5)))), (MdKind, .inl (cI, 4000, .inl mdKind)), (MdSize, .inl (cI, 4000, .inl mdSize)), (MdAddress, .inl (cI, 4000, .inl mdAddress)), (MdMode, .inl (cI, 4000, .inl mdMode)), (MdCode, .inl (cI, 4000, .inl mdCode)), (MdWindow, .inl (cI, 4000, .inl mdWindow))] H := hP
          have hD : va_D A0 [(mm, .inr (9, fl 78 (va_up g 13 (.int (nI (min dr 4000)))))), (MiKind, .inl (cI, 4000, .inl (upd iKind7 k (gg k 0)))), (MiSize, .inl (cI, 4000, .inl (upd iSize7 k (gg k 1)))), (MiAddress, .inl (cI, 4000, .inl (upd iAddress7 k (gg k 2)))), (MiMode, .inl (cI, 4000, .inl (upd iMode7 k (gg k 3)))), (MiCode, .inl (cI, 4000, .inl (upd iCode7 k (gg k 4)))), (MiWindow, .inl (cI, 4000, .inl (upd iWindow7 k (gg k 5)))), (MdKind, .inl (cI, 4000, .inl mdKind)), (MdSize, .inl (cI, 4000, .inl mdSize)), (MdAddress, .inl (cI, 4000, .inl mdAddress)), (MdMode, .inl (cI, 4000, .inl mdMode)), (MdCode, .inl (cI, 4000, .inl mdCode)), (MdWindow, .inl (cI, 4000, .inl mdWindow))] := hD
          refine lv_iinc (v := nI (k + 1)) (lv' := [(1, .int (nI (k + 1))), (0, .ref mm)]) hx hb dX9_publish_106 hl (k := 1) rfl (nI_add k 1) (by decide) rfl (fun ls hl => ?_)
          refine lv_goto (tgt := 26) hx hb dX9_publish_109 (by decide) ?_
          exact ih (k + 1) (upd iKind7 k (gg k 0)) (upd iSize7 k (gg k 1)) (upd iAddress7 k (gg k 2)) (upd iMode7 k (gg k 3)) (upd iCode7 k (gg k 4)) (upd iWindow7 k (gg k 5)) _ _ ls (by omega) (by omega) (fun i hi hl => by by_cases q : i = k; subst q; simp only [pk_us]; exact ⟨trivial, trivial, trivial, trivial, trivial, trivial⟩; simp only [pk_un q]; exact hi7 i (by omega) hl) hP hD hS (lv_sub hl [1, 0] rfl)
    exact loop _ 0 miKind miSize miAddress miMode miCode miWindow _ _ ls (Nat.lt_succ_self _) (Nat.zero_le _) (fun i hi => absurd hi (Nat.not_lt_zero i)) hP hD hS (lv_sub hl [1, 0] rfl)
  · have hk : dr < 4000 := Nat.not_le.mp (fun q => c_1 (nI_le (a := 4000) q (by omega)))
    refine lv_aload_n hx hb dX9_publish_11 rfl (lv_at hl 0 rfl) ?_
    refine fx_get (D := D) (ci := 9) (v := .int (nI dr)) (C := RX9) (T := TX9) (N := 78) hx hb hts in_X9 hown hK hP 0 rfl rfl 20 (by decide) (hts _ kX9_173) (fun _ h9 => h9) (g_drafts) dX9_publish_12 ?_
    refine lv_goto (tgt := 21) hx hb dX9_publish_15 (by decide) ?_
    refine ri (y := nI (min dr 4000)) (by rw [Nat.min_eq_left (by omega)]) ?_
    refine fx_put (D := D) (ci := 9) (v := .int (nI (min dr 4000))) (ty := .int) (C := RX9) (T := TX9) (N := 78) hx hb hts in_X9 tyX9 tyX9_ok nmX9 hown hK hP hD hS 0 rfl rfl 13 (by decide) (hts _ kX9_176) (fun _ h9 => h9) rfl (by decide +kernel) rfl rfl dX9_publish_21 (fun H locs hP hD hS => ?_)
    have hP : va_P D vwCl [(mm, .inr (9, fl 78 (va_up g 13 (.int (nI (min dr 4000)))))), (MiKind, .inl (cI, 4000, .inl miKind)), (MiSize, .inl (cI, 4000, .inl miSize)), (MiAddress, .inl (cI, 4000, .inl miAddress)), (MiMode, .inl (cI, 4000, .inl miMode)), (MiCode, .inl (cI, 4000, .inl miCode)), (MiWindow, .inl (cI, 4000, .inl miWindow)), (MdKind, .inl (cI, 4000, .inl mdKind)), (MdSize, .inl (cI, 4000, .inl mdSize)), (MdAddress, .inl (cI, 4000, .inl mdAddress)), (MdMode, .inl (cI, 4000, .inl mdMode)), (MdCode, .inl (cI, 4000, .inl mdCode)), (MdWindow, .inl (cI, 4000, .inl mdWindow))] H := hP
    have hD : va_D A0 [(mm, .inr (9, fl 78 (va_up g 13 (.int (nI (min dr 4000)))))), (MiKind, .inl (cI, 4000, .inl miKind)), (MiSize, .inl (cI, 4000, .inl miSize)), (MiAddress, .inl (cI, 4000, .inl miAddress)), (MiMode, .inl (cI, 4000, .inl miMode)), (MiCode, .inl (cI, 4000, .inl miCode)), (MiWindow, .inl (cI, 4000, .inl miWindow)), (MdKind, .inl (cI, 4000, .inl mdKind)), (MdSize, .inl (cI, 4000, .inl mdSize)), (MdAddress, .inl (cI, 4000, .inl mdAddress)), (MdMode, .inl (cI, 4000, .inl mdMode)), (MdCode, .inl (cI, 4000, .inl mdCode)), (MdWindow, .inl (cI, 4000, .inl mdWindow))] := hD
    refine lv_iconst (v := 0) hx hb dX9_publish_24 (by decide) ?_
    refine ri (y := nI 0) (nI_0.symm) ?_
    refine lv_istore_n (lv' := [(1, .int (nI 0)), (0, .ref mm)]) hx hb dX9_publish_25 rfl hl (by decide) rfl (fun ls hl => ?_)
    have loop : ∀ (k9 : Nat) (k : Nat) (iKind7 : Nat → Int32) (iSize7 : Nat → Int32) (iAddress7 : Nat → Int32) (iMode7 : Nat → Int32) (iCode7 : Nat → Int32) (iWindow7 : Nat → Int32) (H : Heap) (locs : List Loc) (ls : Array Slot), min dr 4000 - k < k9 → (k ≤ min dr 4000) → (dRel iKind7 iSize7 iAddress7 iMode7 iCode7 iWindow7 gg k) → va_P D vwCl [(mm, .inr (9, fl 78 (va_up g 13 (.int (nI (min dr 4000)))))), (MiKind, .inl (cI, 4000, .inl iKind7)), (MiSize, .inl (cI, 4000, .inl iSize7)), (MiAddress, .inl (cI, 4000, .inl iAddress7)), (MiMode, .inl (cI, 4000, .inl iMode7)), (MiCode, .inl (cI, 4000, .inl iCode7)), (MiWindow, .inl (cI, 4000, .inl iWindow7)), (MdKind, .inl (cI, 4000, .inl mdKind)), (MdSize, .inl (cI, 4000, .inl mdSize)), (MdAddress, .inl (cI, 4000, .inl mdAddress)), (MdMode, .inl (cI, 4000, .inl mdMode)), (MdCode, .inl (cI, 4000, .inl mdCode)), (MdWindow, .inl (cI, 4000, .inl mdWindow))] H → va_D A0 [(mm, .inr (9, fl 78 (va_up g 13 (.int (nI (min dr 4000)))))), (MiKind, .inl (cI, 4000, .inl iKind7)), (MiSize, .inl (cI, 4000, .inl iSize7)), (MiAddress, .inl (cI, 4000, .inl iAddress7)), (MiMode, .inl (cI, 4000, .inl iMode7)), (MiCode, .inl (cI, 4000, .inl iCode7)), (MiWindow, .inl (cI, 4000, .inl iWindow7)), (MdKind, .inl (cI, 4000, .inl mdKind)), (MdSize, .inl (cI, 4000, .inl mdSize)), (MdAddress, .inl (cI, 4000, .inl mdAddress)), (MdMode, .inl (cI, 4000, .inl mdMode)), (MdCode, .inl (cI, 4000, .inl mdCode)), (MdWindow, .inl (cI, 4000, .inl mdWindow))] → va_S A0 s0.heap H locs → lv_has ls 2 [(0, .ref mm), (1, .int (nI k))] → W p0 l e0 ({ frames := 0, cells := 0, slots := 0, locals := 0 }) s0 m0 ([.ref mm] : List Value).toArray below meth c0 H locs 0 0 Q0 (F0 m0 26 ls []) := by
      intro k9
      induction k9 with
      | zero => intro k iKind7 iSize7 iAddress7 iMode7 iCode7 iWindow7 H locs ls hk9; exact absurd hk9 (Nat.not_lt_zero _)
      | succ k9 ih =>
        intro k iKind7 iSize7 iAddress7 iMode7 iCode7 iWindow7 H locs ls hk9 hk9 hi7 hP hD hS hl
        refine lv_iload_n hx hb dX9_publish_26 rfl (lv_at hl 1 rfl) ?_
        refine lv_aload_n hx hb dX9_publish_27 rfl (lv_at hl 0 rfl) ?_
        refine fx_get (D := D) (ci := 9) (v := .int (nI (min dr 4000))) (C := RX9) (T := TX9) (N := 78) hx hb hts in_X9 hown hK hP 0 rfl rfl 13 (by decide) (hts _ kX9_176) (fun _ h9 => h9) (rfl) dX9_publish_28 ?_
        refine lv_icmp_ge (tgt := 112) hx hb dX9_publish_31 (by decide) (fun c_3 => ?_) (fun c_3 => ?_)
        · have hk : k = min dr 4000 := by have := (nI_leI (by omega) (by omega)).mp c_3; omega
          subst hk
          exact hret 112 ls _ _ ((va_up g 13 (.int (nI (min dr 4000)))), iKind7, iSize7, iAddress7, iMode7, iCode7, iWindow7) dX9_publish_112 hP hD hS (⟨(frm_up frm_refl (by decide)), rfl, hi7⟩)
        · have hk : k < min dr 4000 := Nat.not_le.mp (fun q => c_3 (nI_le q (by omega)))
          obtain ⟨d1, d2, d3, d4, d5, d6⟩ := hd k (by omega) (by omega)
          refine lv_aload_n hx hb dX9_publish_34 rfl (lv_at hl 0 rfl) ?_
          refine fx_get (D := D) (ci := 9) (v := .ref MiKind) (C := RX9) (T := TX9) (N := 78) hx hb hts in_X9 hown hK hP 0 rfl rfl 14 (by decide) (hts _ kX9_40) (fun _ h9 => h9) (g_iKind) dX9_publish_35 ?_
          refine lv_iload_n hx hb dX9_publish_38 rfl (lv_at hl 1 rfl) ?_
          refine lv_aload_n hx hb dX9_publish_39 rfl (lv_at hl 0 rfl) ?_
          refine fx_get (D := D) (ci := 9) (v := .ref MdKind) (C := RX9) (T := TX9) (N := 78) hx hb hts in_X9 hown hK hP 0 rfl rfl 21 (by decide) (hts _ kX9_58) (fun _ h9 => h9) (g_dKind) dX9_publish_40 ?_
          refine lv_iload_n hx hb dX9_publish_43 rfl (lv_at hl 1 rfl) ?_
          refine ax_ild hx hb hK hP 7 0 rfl rfl k (rfl) (by omega) (by omega) dX9_publish_44 ?_
          refine ri (y := gg k 0) (d1) ?_
          refine ax_ist hx hb hK hP hD hS 1 0 rfl rfl k (rfl) (by omega) (by omega) dX9_publish_45 (fun H locs hP hD hS => ?_)
          have hP : va_P D vwCl [(mm, .inr (9, fl 78 (va_up g 13 (.int (nI (min dr 4000)))))), (MiKind, .inl (cI, 4000, .inl (upd iKind7 k (gg k 0)))), (MiSize, .inl (cI, 4000, .inl iSize7)), (MiAddress, .inl (cI, 4000, .inl iAddress7)), (MiMode, .inl (cI, 4000, .inl iMode7)), (MiCode, .inl (cI, 4000, .inl iCode7)), (MiWindow, .inl (cI, 4000, .inl iWindow7)), (MdKind, .inl (cI, 4000, .inl mdKind)), (MdSize, .inl (cI, 4000, .inl mdSize)), (MdAddress, .inl (cI, 4000, .inl mdAddress)), (MdMode, .inl (cI, 4000, .inl mdMode)), (MdCode, .inl (cI, 4000, .inl mdCode)), (MdWindow, .inl (cI, 4000, .inl mdWindow))] H := hP
          have hD : va_D A0 [(mm, .inr (9, fl 78 (va_up g 13 (.int (nI (min dr 4000)))))), (MiKind, .inl (cI, 4000, .inl (upd iKind7 k (gg k 0)))), (MiSize, .inl (cI, 4000, .inl iSize7)), (MiAddress, .inl (cI, 4000, .inl iAddress7)), (MiMode, .inl (cI, 4000, .inl iMode7)), (MiCode, .inl (cI, 4000, .inl iCode7)), (MiWindow, .inl (cI, 4000, .inl iWindow7)), (MdKind, .inl (cI, 4000, .inl mdKind)), (MdSize, .inl (cI, 4000, .inl mdSize)), (MdAddress, .inl (cI, 4000, .inl mdAddress)), (MdMode, .inl (cI, 4000, .inl mdMode)), (MdCode, .inl (cI, 4000, .inl mdCode)), (MdWindow, .inl (cI, 4000, .inl mdWindow))] := hD
          refine lv_aload_n hx hb dX9_publish_46 rfl (lv_at hl 0 rfl) ?_
          refine fx_get (D := D) (ci := 9) (v := .ref MiSize) (C := RX9) (T := TX9) (N := 78) hx hb hts in_X9 hown hK hP 0 rfl rfl 15 (by decide) (hts _ kX9_43) (fun _ h9 => h9) (g_iSize) dX9_publish_47 ?_
          refine lv_iload_n hx hb dX9_publish_50 rfl (lv_at hl 1 rfl) ?_
          refine lv_aload_n hx hb dX9_publish_51 rfl (lv_at hl 0 rfl) ?_
          refine fx_get (D := D) (ci := 9) (v := .ref MdSize) (C := RX9) (T := TX9) (N := 78) hx hb hts in_X9 hown hK hP 0 rfl rfl 22 (by decide) (hts _ kX9_61) (fun _ h9 => h9) (g_dSize) dX9_publish_52 ?_
          refine lv_iload_n hx hb dX9_publish_55 rfl (lv_at hl 1 rfl) ?_
          refine ax_ild hx hb hK hP 8 0 rfl rfl k (rfl) (by omega) (by omega) dX9_publish_56 ?_
          refine ri (y := gg k 1) (d2) ?_
          refine ax_ist hx hb hK hP hD hS 2 0 rfl rfl k (rfl) (by omega) (by omega) dX9_publish_57 (fun H locs hP hD hS => ?_)
          have hP : va_P D vwCl [(mm, .inr (9, fl 78 (va_up g 13 (.int (nI (min dr 4000)))))), (MiKind, .inl (cI, 4000, .inl (upd iKind7 k (gg k 0)))), (MiSize, .inl (cI, 4000, .inl (upd iSize7 k (gg k 1)))), (MiAddress, .inl (cI, 4000, .inl iAddress7)), (MiMode, .inl (cI, 4000, .inl iMode7)), (MiCode, .inl (cI, 4000, .inl iCode7)), (MiWindow, .inl (cI, 4000, .inl iWindow7)), (MdKind, .inl (cI, 4000, .inl mdKind)), (MdSize, .inl (cI, 4000, .inl mdSize)), (MdAddress, .inl (cI, 4000, .inl mdAddress)), (MdMode, .inl (cI, 4000, .inl mdMode)), (MdCode, .inl (cI, 4000, .inl mdCode)), (MdWindow, .inl (cI, 4000, .inl mdWindow))] H := hP
          have hD : va_D A0 [(mm, .inr (9, fl 78 (va_up g 13 (.int (nI (min dr 4000)))))), (MiKind, .inl (cI, 4000, .inl (upd iKind7 k (gg k 0)))), (MiSize, .inl (cI, 4000, .inl (upd iSize7 k (gg k 1)))), (MiAddress, .inl (cI, 4000, .inl iAddress7)), (MiMode, .inl (cI, 4000, .inl iMode7)), (MiCode, .inl (cI, 4000, .inl iCode7)), (MiWindow, .inl (cI, 4000, .inl iWindow7)), (MdKind, .inl (cI, 4000, .inl mdKind)), (MdSize, .inl (cI, 4000, .inl mdSize)), (MdAddress, .inl (cI, 4000, .inl mdAddress)), (MdMode, .inl (cI, 4000, .inl mdMode)), (MdCode, .inl (cI, 4000, .inl mdCode)), (MdWindow, .inl (cI, 4000, .inl mdWindow))] := hD
          refine lv_aload_n hx hb dX9_publish_58 rfl (lv_at hl 0 rfl) ?_
          refine fx_get (D := D) (ci := 9) (v := .ref MiAddress) (C := RX9) (T := TX9) (N := 78) hx hb hts in_X9 hown hK hP 0 rfl rfl 16 (by decide) (hts _ kX9_46) (fun _ h9 => h9) (g_iAddress) dX9_publish_59 ?_
          refine lv_iload_n hx hb dX9_publish_62 rfl (lv_at hl 1 rfl) ?_
          refine lv_aload_n hx hb dX9_publish_63 rfl (lv_at hl 0 rfl) ?_
          refine fx_get (D := D) (ci := 9) (v := .ref MdAddress) (C := RX9) (T := TX9) (N := 78) hx hb hts in_X9 hown hK hP 0 rfl rfl 23 (by decide) (hts _ kX9_64) (fun _ h9 => h9) (g_dAddress) dX9_publish_64 ?_
          refine lv_iload_n hx hb dX9_publish_67 rfl (lv_at hl 1 rfl) ?_
          refine ax_ild hx hb hK hP 9 0 rfl rfl k (rfl) (by omega) (by omega) dX9_publish_68 ?_
          refine ri (y := gg k 2) (d3) ?_
          refine ax_ist hx hb hK hP hD hS 3 0 rfl rfl k (rfl) (by omega) (by omega) dX9_publish_69 (fun H locs hP hD hS => ?_)
          have hP : va_P D vwCl [(mm, .inr (9, fl 78 (va_up g 13 (.int (nI (min dr 4000)))))), (MiKind, .inl (cI, 4000, .inl (upd iKind7 k (gg k 0)))), (MiSize, .inl (cI, 4000, .inl (upd iSize7 k (gg k 1)))), (MiAddress, .inl (cI, 4000, .inl (upd iAddress7 k (gg k 2)))), (MiMode, .inl (cI, 4000, .inl iMode7)), (MiCode, .inl (cI, 4000, .inl iCode7)), (MiWindow, .inl (cI, 4000, .inl iWindow7)), (MdKind, .inl (cI, 4000, .inl mdKind)), (MdSize, .inl (cI, 4000, .inl mdSize)), (MdAddress, .inl (cI, 4000, .inl mdAddress)), (MdMode, .inl (cI, 4000, .inl mdMode)), (MdCode, .inl (cI, 4000, .inl mdCode)), (MdWindow, .inl (cI, 4000, .inl mdWindow))] H := hP
          have hD : va_D A0 [(mm, .inr (9, fl 78 (va_up g 13 (.int (nI (min dr 4000)))))), (MiKind, .inl (cI, 4000, .inl (upd iKind7 k (gg k 0)))), (MiSize, .inl (cI, 4000, .inl (upd iSize7 k (gg k 1)))), (MiAddress, .inl (cI, 4000, .inl (upd iAddress7 k (gg k 2)))), (MiMode, .inl (cI, 4000, .inl iMode7)), (MiCode, .inl (cI, 4000, .inl iCode7)), (MiWindow, .inl (cI, 4000, .inl iWindow7)), (MdKind, .inl (cI, 4000, .inl mdKind)), (MdSize, .inl (cI, 4000, .inl mdSize)), (MdAddress, .inl (cI, 4000, .inl mdAddress)), (MdMode, .inl (cI, 4000, .inl mdMode)), (MdCode, .inl (cI, 4000, .inl mdCode)), (MdWindow, .inl (cI, 4000, .inl mdWindow))] := hD
          refine lv_aload_n hx hb dX9_publish_70 rfl (lv_at hl 0 rfl) ?_
          refine fx_get (D := D) (ci := 9) (v := .ref MiMode) (C := RX9) (T := TX9) (N := 78) hx hb hts in_X9 hown hK hP 0 rfl rfl 17 (by decide) (hts _ kX9_49) (fun _ h9 => h9) (g_iMode) dX9_publish_71 ?_
          refine lv_iload_n hx hb dX9_publish_74 rfl (lv_at hl 1 rfl) ?_
          refine lv_aload_n hx hb dX9_publish_75 rfl (lv_at hl 0 rfl) ?_
          refine fx_get (D := D) (ci := 9) (v := .ref MdMode) (C := RX9) (T := TX9) (N := 78) hx hb hts in_X9 hown hK hP 0 rfl rfl 24 (by decide) (hts _ kX9_67) (fun _ h9 => h9) (g_dMode) dX9_publish_76 ?_
          refine lv_iload_n hx hb dX9_publish_79 rfl (lv_at hl 1 rfl) ?_
          refine ax_ild hx hb hK hP 10 0 rfl rfl k (rfl) (by omega) (by omega) dX9_publish_80 ?_
          refine ri (y := gg k 3) (d4) ?_
          refine ax_ist hx hb hK hP hD hS 4 0 rfl rfl k (rfl) (by omega) (by omega) dX9_publish_81 (fun H locs hP hD hS => ?_)
          have hP : va_P D vwCl [(mm, .inr (9, fl 78 (va_up g 13 (.int (nI (min dr 4000)))))), (MiKind, .inl (cI, 4000, .inl (upd iKind7 k (gg k 0)))), (MiSize, .inl (cI, 4000, .inl (upd iSize7 k (gg k 1)))), (MiAddress, .inl (cI, 4000, .inl (upd iAddress7 k (gg k 2)))), (MiMode, .inl (cI, 4000, .inl (upd iMode7 k (gg k 3)))), (MiCode, .inl (cI, 4000, .inl iCode7)), (MiWindow, .inl (cI, 4000, .inl iWindow7)), (MdKind, .inl (cI, 4000, .inl mdKind)), (MdSize, .inl (cI, 4000, .inl mdSize)), (MdAddress, .inl (cI, 4000, .inl mdAddress)), (MdMode, .inl (cI, 4000, .inl mdMode)), (MdCode, .inl (cI, 4000, .inl mdCode)), (MdWindow, .inl (cI, 4000, .inl mdWindow))] H := hP
          have hD : va_D A0 [(mm, .inr (9, fl 78 (va_up g 13 (.int (nI (min dr 4000)))))), (MiKind, .inl (cI, 4000, .inl (upd iKind7 k (gg k 0)))), (MiSize, .inl (cI, 4000, .inl (upd iSize7 k (gg k 1)))), (MiAddress, .inl (cI, 4000, .inl (upd iAddress7 k (gg k 2)))), (MiMode, .inl (cI, 4000, .inl (upd iMode7 k (gg k 3)))), (MiCode, .inl (cI, 4000, .inl iCode7)), (MiWindow, .inl (cI, 4000, .inl iWindow7)), (MdKind, .inl (cI, 4000, .inl mdKind)), (MdSize, .inl (cI, 4000, .inl mdSize)), (MdAddress, .inl (cI, 4000, .inl mdAddress)), (MdMode, .inl (cI, 4000, .inl mdMode)), (MdCode, .inl (cI, 4000, .inl mdCode)), (MdWindow, .inl (cI, 4000, .inl mdWindow))] := hD
          refine lv_aload_n hx hb dX9_publish_82 rfl (lv_at hl 0 rfl) ?_
          refine fx_get (D := D) (ci := 9) (v := .ref MiCode) (C := RX9) (T := TX9) (N := 78) hx hb hts in_X9 hown hK hP 0 rfl rfl 18 (by decide) (hts _ kX9_52) (fun _ h9 => h9) (g_iCode) dX9_publish_83 ?_
          refine lv_iload_n hx hb dX9_publish_86 rfl (lv_at hl 1 rfl) ?_
          refine lv_aload_n hx hb dX9_publish_87 rfl (lv_at hl 0 rfl) ?_
          refine fx_get (D := D) (ci := 9) (v := .ref MdCode) (C := RX9) (T := TX9) (N := 78) hx hb hts in_X9 hown hK hP 0 rfl rfl 25 (by decide) (hts _ kX9_70) (fun _ h9 => h9) (g_dCode) dX9_publish_88 ?_
          refine lv_iload_n hx hb dX9_publish_91 rfl (lv_at hl 1 rfl) ?_
          refine ax_ild hx hb hK hP 11 0 rfl rfl k (rfl) (by omega) (by omega) dX9_publish_92 ?_
          refine ri (y := gg k 4) (d5) ?_
          refine ax_ist hx hb hK hP hD hS 5 0 rfl rfl k (rfl) (by omega) (by omega) dX9_publish_93 (fun H locs hP hD hS => ?_)
          have hP : va_P D vwCl [(mm, .inr (9, fl 78 (va_up g 13 (.int (nI (min dr 4000)))))), (MiKind, .inl (cI, 4000, .inl (upd iKind7 k (gg k 0)))), (MiSize, .inl (cI, 4000, .inl (upd iSize7 k (gg k 1)))), (MiAddress, .inl (cI, 4000, .inl (upd iAddress7 k (gg k 2)))), (MiMode, .inl (cI, 4000, .inl (upd iMode7 k (gg k 3)))), (MiCode, .inl (cI, 4000, .inl (upd iCode7 k (gg k 4)))), (MiWindow, .inl (cI, 4000, .inl iWindow7)), (MdKind, .inl (cI, 4000, .inl mdKind)), (MdSize, .inl (cI, 4000, .inl mdSize)), (MdAddress, .inl (cI, 4000, .inl mdAddress)), (MdMode, .inl (cI, 4000, .inl mdMode)), (MdCode, .inl (cI, 4000, .inl mdCode)), (MdWindow, .inl (cI, 4000, .inl mdWindow))] H := hP
          have hD : va_D A0 [(mm, .inr (9, fl 78 (va_up g 13 (.int (nI (min dr 4000)))))), (MiKind, .inl (cI, 4000, .inl (upd iKind7 k (gg k 0)))), (MiSize, .inl (cI, 4000, .inl (upd iSize7 k (gg k 1)))), (MiAddress, .inl (cI, 4000, .inl (upd iAddress7 k (gg k 2)))), (MiMode, .inl (cI, 4000, .inl (upd iMode7 k (gg k 3)))), (MiCode, .inl (cI, 4000, .inl (upd iCode7 k (gg k 4)))), (MiWindow, .inl (cI, 4000, .inl iWindow7)), (MdKind, .inl (cI, 4000, .inl mdKind)), (MdSize, .inl (cI, 4000, .inl mdSize)), (MdAddress, .inl (cI, 4000, .inl mdAddress)), (MdMode, .inl (cI, 4000, .inl mdMode)), (MdCode, .inl (cI, 4000, .inl mdCode)), (MdWindow, .inl (cI, 4000, .inl mdWindow))] := hD
          refine lv_aload_n hx hb dX9_publish_94 rfl (lv_at hl 0 rfl) ?_
          refine fx_get (D := D) (ci := 9) (v := .ref MiWindow) (C := RX9) (T := TX9) (N := 78) hx hb hts in_X9 hown hK hP 0 rfl rfl 19 (by decide) (hts _ kX9_55) (fun _ h9 => h9) (g_iWindow) dX9_publish_95 ?_
          refine lv_iload_n hx hb dX9_publish_98 rfl (lv_at hl 1 rfl) ?_
          refine lv_aload_n hx hb dX9_publish_99 rfl (lv_at hl 0 rfl) ?_
          refine fx_get (D := D) (ci := 9) (v := .ref MdWindow) (C := RX9) (T := TX9) (N := 78) hx hb hts in_X9 hown hK hP 0 rfl rfl 26 (by decide) (hts _ kX9_73) (fun _ h9 => h9) (g_dWindow) dX9_publish_100 ?_
          refine lv_iload_n hx hb dX9_publish_103 rfl (lv_at hl 1 rfl) ?_
          refine ax_ild hx hb hK hP 12 0 rfl rfl k (rfl) (by omega) (by omega) dX9_publish_104 ?_
          refine ri (y := gg k 5) (d6) ?_
          refine ax_ist hx hb hK hP hD hS 6 0 rfl rfl k (rfl) (by omega) (by omega) dX9_publish_105 (fun H locs hP hD hS => ?_)
          have hP : va_P D vwCl [(mm, .inr (9, fl 78 (va_up g 13 (.int (nI (min dr 4000)))))), (MiKind, .inl (cI, 4000, .inl (upd iKind7 k (gg k 0)))), (MiSize, .inl (cI, 4000, .inl (upd iSize7 k (gg k 1)))), (MiAddress, .inl (cI, 4000, .inl (upd iAddress7 k (gg k 2)))), (MiMode, .inl (cI, 4000, .inl (upd iMode7 k (gg k 3)))), (MiCode, .inl (cI, 4000, .inl (upd iCode7 k (gg k 4)))), (MiWindow, .inl (cI, 4000, .inl (upd iWindow7 k (gg k 5)))), (MdKind, .inl (cI, 4000, .inl mdKind)), (MdSize, .inl (cI, 4000, .inl mdSize)), (MdAddress, .inl (cI, 4000, .inl mdAddress)), (MdMode, .inl (cI, 4000, .inl mdMode)), (MdCode, .inl (cI, 4000, .inl mdCode)), (MdWindow, .inl (cI, 4000, .inl mdWindow))] H := hP
          have hD : va_D A0 [(mm, .inr (9, fl 78 (va_up g 13 (.int (nI (min dr 4000)))))), (MiKind, .inl (cI, 4000, .inl (upd iKind7 k (gg k 0)))), (MiSize, .inl (cI, 4000, .inl (upd iSize7 k (gg k 1)))), (MiAddress, .inl (cI, 4000, .inl (upd iAddress7 k (gg k 2)))), (MiMode, .inl (cI, 4000, .inl (upd iMode7 k (gg k 3)))), (MiCode, .inl (cI, 4000, .inl (upd iCode7 k (gg k 4)))), (MiWindow, .inl (cI, 4000, .inl (upd iWindow7 k (gg k 5)))), (MdKind, .inl (cI, 4000, .inl mdKind)), (MdSize, .inl (cI, 4000, .inl mdSize)), (MdAddress, .inl (cI, 4000, .inl mdAddress)), (MdMode, .inl (cI, 4000, .inl mdMode)), (MdCode, .inl (cI, 4000, .inl mdCode)), (MdWindow, .inl (cI, 4000, .inl mdWindow))] := hD
          refine lv_iinc (v := nI (k + 1)) (lv' := [(1, .int (nI (k + 1))), (0, .ref mm)]) hx hb dX9_publish_106 hl (k := 1) rfl (nI_add k 1) (by decide) rfl (fun ls hl => ?_)
          refine lv_goto (tgt := 26) hx hb dX9_publish_109 (by decide) ?_
          exact ih (k + 1) (upd iKind7 k (gg k 0)) (upd iSize7 k (gg k 1)) (upd iAddress7 k (gg k 2)) (upd iMode7 k (gg k 3)) (upd iCode7 k (gg k 4)) (upd iWindow7 k (gg k 5)) _ _ ls (by omega) (by omega) (fun i hi hl => by by_cases q : i = k; subst q; simp only [pk_us]; exact ⟨trivial, trivial, trivial, trivial, trivial, trivial⟩; simp only [pk_un q]; exact hi7 i (by omega) hl) hP hD hS (lv_sub hl [1, 0] rfl)
    exact loop _ 0 miKind miSize miAddress miMode miCode miWindow _ _ ls (Nat.lt_succ_self _) (Nat.zero_le _) (fun i hi => absurd hi (Nat.not_lt_zero i)) hP hD hS (lv_sub hl [1, 0] rfl)
