theorem qR_put {k z w a m : Nat → Int32} {L : List Ins} {x : Ins} (h : qR k z w a m L) : qR (upd k L.length (nI x.1)) (upd z L.length (nI x.2.1)) (upd w L.length (nI x.2.2.1)) (upd a L.length (nI x.2.2.2)) (upd m L.length 0) (L ++ [x]) := by
  intro i hi
  rw [List.length_append] at hi
  have hi : i < L.length + 1 := hi
  by_cases q : i = L.length
  · subst q
    rw [gD_r (Nat.le_refl _), Nat.sub_self]
    rw [pk_us, pk_us, pk_us, pk_us, pk_us]
    exact ⟨rfl, rfl, rfl, rfl, rfl⟩
  · rw [gD_l (by omega)]
    simp only [pk_un q]
    exact h i (by omega)
theorem qR_mrg {k z w a m : Nat → Int32} {L : List Ins} {z0 z1 p0 : Nat} (h : qR k z w a m (L ++ [(1, z0, p0, 0)])) : qR k (upd z L.length (nI (z0 + z1))) w a m (L ++ [(1, z0 + z1, p0, 0)]) := by
  intro i hi
  have hi2 : i < (L ++ [(1, z0, p0, 0)]).length := by rw [List.length_append] at hi ⊢; exact hi
  have h9 := h i hi2
  rw [List.length_append] at hi
  have hi : i < L.length + 1 := hi
  by_cases q : i = L.length
  · subst q
    rw [gD_r (Nat.le_refl _), Nat.sub_self] at h9 ⊢
    rw [pk_us]
    exact ⟨h9.1, rfl, h9.2.2.1, h9.2.2.2.1, h9.2.2.2.2⟩
  · rw [gD_l (by omega)] at h9 ⊢
    rw [pk_un q]
    exact h9
/-- how far u runs alike, counted by itself -/
def rnN (ub : Nat → Nat) (p en : Nat) : Nat := runF (fun j => nI (ub j)) p (en - p) p
def mtN (ub : Nat → Nat) (en p : Nat) : Nat × Nat := bF (eqF (fun j => nI (ub j))) (en - p) p p
def naL (L : List Ins) : Prop := ∀ i, i + 1 = L.length → ¬ (L.getD i (0, 0, 0, 0)).1 = 1
theorem naL_nil : naL [] := fun i hi => absurd hi (by simp)
theorem naL_put {L : List Ins} {x : Ins} (h : ¬ x.1 = 1) : naL (L ++ [x]) := by
  intro i hi
  rw [List.length_append] at hi
  have hi : i + 1 = L.length + 1 := hi
  rw [show i = L.length by omega, gD_r (Nat.le_refl _), Nat.sub_self]
  exact h
set_option maxHeartbeats 4000000 in
set_option maxRecDepth 100000 in
theorem m_instructM (l : Launch) (D : va_G) (cI cB cJ cR : ClassId) (mm : Nat) (g : Nat → Value) (MqKind : Nat) (MqSize : Nat) (MqAt : Nat) (MqAddress : Nat) (MqMode : Nat) (mqKind : Nat → Int32) (mqSize : Nat → Int32) (mqAt : Nat → Int32) (mqAddress : Nat → Int32) (mqMode : Nat → Int32) (L : List Ins) (z0 : Nat) (pq0 : Nat) (z : Nat) (w : Nat) (g_waits : g 67 = .int (nI (L ++ [(1, z0, pq0, 0)] : List Ins).length)) (g_qKind : g 68 = .ref MqKind) (g_qSize : g 69 = .ref MqSize) (g_qAt : g 70 = .ref MqAt) (g_qAddress : g 71 = .ref MqAddress) (g_qMode : g 72 = .ref MqMode) (hlL : L.length < 4000) (hq : qR mqKind mqSize mqAt mqAddress mqMode (L ++ [(1, z0, pq0, 0)])) : CMv l yX9_instruct cX9_instruct 5 none ({ frames := 0, cells := 0, slots := 0, locals := 0 }) D (tyA cI cB cJ cR) 0 0 [.ref mm, .int (nI 1), .int (nI z), .int (nI w), .int (nI 0)] [(mm, .inr (9, fl 78 g)), (MqKind, .inl (cI, 4100, .inl mqKind)), (MqSize, .inl (cI, 4100, .inl mqSize)), (MqAt, .inl (cI, 4100, .inl mqAt)), (MqAddress, .inl (cI, 4100, .inl mqAddress)), (MqMode, .inl (cI, 4100, .inl mqMode))] (fun (u9 : (Nat → Value) × (Nat → Int32)) => match u9 with | (g9, z2) => frm [67] g g9 ∧ g9 67 = .int (nI (L ++ [(1, z0 + z, pq0, 0)] : List Ins).length) ∧ qR mqKind z2 mqAt mqAddress mqMode (L ++ [(1, z0 + z, pq0, 0)])) (fun (u9 : (Nat → Value) × (Nat → Int32)) => match u9 with | (g9, z2) => [(mm, .inr (9, fl 78 g9)), (MqKind, .inl (cI, 4100, .inl mqKind)), (MqSize, .inl (cI, 4100, .inl z2)), (MqAt, .inl (cI, 4100, .inl mqAt)), (MqAddress, .inl (cI, 4100, .inl mqAddress)), (MqMode, .inl (cI, 4100, .inl mqMode))]) := by
  refine st_v (cc := cX9_instruct) (maxL := 5) (by decide) (Nat.le_of_ble_eq_true rfl) ?_
  intro p0 e0 s0 m0 below meth c0 A0 Q0 hBD hret hP hD hS ls hl
  obtain ⟨hx, hb, hml, hown, hts, hnm, hK, hNw, hMk, hA⟩ := hBD
  have hl : lv_has ls 5 [(0, .ref mm), (1, .int (nI 1)), (2, .int (nI z)), (3, .int (nI w)), (4, .int (nI 0))] := hl
  have hP : va_P D vwCl [(mm, .inr (9, fl 78 g)), (MqKind, .inl (cI, 4100, .inl mqKind)), (MqSize, .inl (cI, 4100, .inl mqSize)), (MqAt, .inl (cI, 4100, .inl mqAt)), (MqAddress, .inl (cI, 4100, .inl mqAddress)), (MqMode, .inl (cI, 4100, .inl mqMode))] s0.heap := hP
  have hD : va_D A0 [(mm, .inr (9, fl 78 g)), (MqKind, .inl (cI, 4100, .inl mqKind)), (MqSize, .inl (cI, 4100, .inl mqSize)), (MqAt, .inl (cI, 4100, .inl mqAt)), (MqAddress, .inl (cI, 4100, .inl mqAddress)), (MqMode, .inl (cI, 4100, .inl mqMode))] := hD
  have hlen : (L ++ [(1, z0, pq0, 0)] : List Ins).length = L.length + 1 := by simp
  have hlen2 : (L ++ [(1, z0 + z, pq0, 0)] : List Ins).length = L.length + 1 := by simp
  have kx_1 : g 67 = .int (nI (L.length + 1)) := by have h9 : g 67 = .int (nI (L ++ [(1, z0, pq0, 0)] : List Ins).length) := g_waits; rw [h9]; exact congrArg Value.int (by rw [hlen])
  have hq9 := hq L.length (by rw [hlen]; omega)
  rw [gD_r (Nat.le_refl _), Nat.sub_self] at hq9
  refine lv_iload_n hx hb dX9_instruct_0 rfl (lv_at hl 1 rfl) ?_
  refine lv_iconst (v := 1) hx hb dX9_instruct_1 (by decide) ?_
  refine lv_icmp_ne (tgt := 43) hx hb dX9_instruct_2 (by decide) (fun c_2 => absurd (by decide) c_2) (fun c_2 => ?_)
  refine lv_aload_n hx hb dX9_instruct_5 rfl (lv_at hl 0 rfl) ?_
  refine fx_get (D := D) (ci := 9) (v := .int (nI (L.length + 1))) (C := RX9) (T := TX9) (N := 78) hx hb hts in_X9 hown hK hP 0 rfl rfl 67 (by decide) (hts _ kX9_356) (fun _ h9 => h9) (kx_1) dX9_instruct_6 ?_
  refine lv_if_le (tgt := 43) hx hb dX9_instruct_9 (by decide) (fun c_3 => absurd c_3 (fun w9 => nI_nle (by omega) (by omega) w9)) (fun c_3 => ?_)
  refine lv_aload_n hx hb dX9_instruct_12 rfl (lv_at hl 0 rfl) ?_
  refine fx_get (D := D) (ci := 9) (v := .ref MqKind) (C := RX9) (T := TX9) (N := 78) hx hb hts in_X9 hown hK hP 0 rfl rfl 68 (by decide) (hts _ kX9_103) (fun _ h9 => h9) (g_qKind) dX9_instruct_13 ?_
  refine lv_aload_n hx hb dX9_instruct_16 rfl (lv_at hl 0 rfl) ?_
  refine fx_get (D := D) (ci := 9) (v := .int (nI (L.length + 1))) (C := RX9) (T := TX9) (N := 78) hx hb hts in_X9 hown hK hP 0 rfl rfl 67 (by decide) (hts _ kX9_356) (fun _ h9 => h9) (kx_1) dX9_instruct_17 ?_
  refine lv_iconst (v := 1) hx hb dX9_instruct_20 (by decide) ?_
  refine lv_isub hx hb dX9_instruct_21 ?_
  refine ri (y := nI L.length) (pk_sub (a := L.length + 1) (b := 1) (by omega)) ?_
  refine ax_ild hx hb hK hP 1 0 rfl rfl L.length (rfl) (by omega) (by omega) dX9_instruct_22 ?_
  refine ri (y := nI 1) (hq9.1) ?_
  refine lv_iconst (v := 1) hx hb dX9_instruct_23 (by decide) ?_
  refine lv_icmp_ne (tgt := 43) hx hb dX9_instruct_24 (by decide) (fun c_4 => absurd (by decide) c_4) (fun c_4 => ?_)
  refine lv_aload_n hx hb dX9_instruct_27 rfl (lv_at hl 0 rfl) ?_
  refine fx_get (D := D) (ci := 9) (v := .ref MqSize) (C := RX9) (T := TX9) (N := 78) hx hb hts in_X9 hown hK hP 0 rfl rfl 69 (by decide) (hts _ kX9_106) (fun _ h9 => h9) (g_qSize) dX9_instruct_28 ?_
  refine lv_aload_n hx hb dX9_instruct_31 rfl (lv_at hl 0 rfl) ?_
  refine fx_get (D := D) (ci := 9) (v := .int (nI (L.length + 1))) (C := RX9) (T := TX9) (N := 78) hx hb hts in_X9 hown hK hP 0 rfl rfl 67 (by decide) (hts _ kX9_356) (fun _ h9 => h9) (kx_1) dX9_instruct_32 ?_
  refine lv_iconst (v := 1) hx hb dX9_instruct_35 (by decide) ?_
  refine lv_isub hx hb dX9_instruct_36 ?_
  refine ri (y := nI L.length) (pk_sub (a := L.length + 1) (b := 1) (by omega)) ?_
  refine lv_dup2_11 hx hb dX9_instruct_37 rfl rfl ?_
  refine ax_ild hx hb hK hP 2 0 rfl rfl L.length (rfl) (by omega) (by omega) dX9_instruct_38 ?_
  refine ri (y := nI z0) (hq9.2.1) ?_
  refine lv_iload_n hx hb dX9_instruct_39 rfl (lv_at hl 2 rfl) ?_
  refine lv_iadd hx hb dX9_instruct_40 ?_
  refine ri (y := nI (z0 + z)) (nI_add z0 z) ?_
  refine ax_ist hx hb hK hP hD hS 2 0 rfl rfl L.length (rfl) (by omega) (by omega) dX9_instruct_41 (fun H locs hP hD hS => ?_)
  have hP : va_P D vwCl [(mm, .inr (9, fl 78 g)), (MqKind, .inl (cI, 4100, .inl mqKind)), (MqSize, .inl (cI, 4100, .inl (upd mqSize L.length (nI (z0 + z))))), (MqAt, .inl (cI, 4100, .inl mqAt)), (MqAddress, .inl (cI, 4100, .inl mqAddress)), (MqMode, .inl (cI, 4100, .inl mqMode))] H := hP
  have hD : va_D A0 [(mm, .inr (9, fl 78 g)), (MqKind, .inl (cI, 4100, .inl mqKind)), (MqSize, .inl (cI, 4100, .inl (upd mqSize L.length (nI (z0 + z))))), (MqAt, .inl (cI, 4100, .inl mqAt)), (MqAddress, .inl (cI, 4100, .inl mqAddress)), (MqMode, .inl (cI, 4100, .inl mqMode))] := hD
  have kx_5 : g 67 = .int (nI (L ++ [(1, z0 + z, pq0, 0)] : List Ins).length) := by have h9 : g 67 = .int (nI (L.length + 1)) := kx_1; rw [h9]; exact congrArg Value.int (by rw [hlen2])
  exact hret 42 ls _ _ (g, upd mqSize L.length (nI (z0 + z))) dX9_instruct_42 hP hD hS (⟨frm_refl, kx_5, qR_mrg hq⟩)

set_option maxHeartbeats 4000000 in
set_option maxRecDepth 100000 in
theorem m_instructN (l : Launch) (D : va_G) (cI cB cJ cR : ClassId) (mm : Nat) (g : Nat → Value) (MqKind : Nat) (MqSize : Nat) (MqAt : Nat) (MqAddress : Nat) (MqMode : Nat) (mqKind : Nat → Int32) (mqSize : Nat → Int32) (mqAt : Nat → Int32) (mqAddress : Nat → Int32) (mqMode : Nat → Int32) (L : List Ins) (k : Nat) (z : Nat) (w : Nat) (a : Nat) (g_waits : g 67 = .int (nI L.length)) (g_qKind : g 68 = .ref MqKind) (g_qSize : g 69 = .ref MqSize) (g_qAt : g 70 = .ref MqAt) (g_qAddress : g 71 = .ref MqAddress) (g_qMode : g 72 = .ref MqMode) (hlL : L.length < 4000) (hq : qR mqKind mqSize mqAt mqAddress mqMode L) (hk : k < 4) (hna : k = 1 → naL L) (hql : ∀ i, i < L.length → (L.getD i (0, 0, 0, 0)).1 < 4) : CMv l yX9_instruct cX9_instruct 5 none ({ frames := 0, cells := 0, slots := 0, locals := 0 }) D (tyA cI cB cJ cR) 0 0 [.ref mm, .int (nI k), .int (nI z), .int (nI w), .int (nI a)] [(mm, .inr (9, fl 78 g)), (MqKind, .inl (cI, 4100, .inl mqKind)), (MqSize, .inl (cI, 4100, .inl mqSize)), (MqAt, .inl (cI, 4100, .inl mqAt)), (MqAddress, .inl (cI, 4100, .inl mqAddress)), (MqMode, .inl (cI, 4100, .inl mqMode))] (fun (u9 : (Nat → Value) × (Nat → Int32) × (Nat → Int32) × (Nat → Int32) × (Nat → Int32) × (Nat → Int32)) => match u9 with | (g9, qKind2, qSize2, qAt2, qAddress2, qMode2) => frm [67] g g9 ∧ g9 67 = .int (nI (L ++ [(k, z, w, a)] : List Ins).length) ∧ qR qKind2 qSize2 qAt2 qAddress2 qMode2 (L ++ [(k, z, w, a)])) (fun (u9 : (Nat → Value) × (Nat → Int32) × (Nat → Int32) × (Nat → Int32) × (Nat → Int32) × (Nat → Int32)) => match u9 with | (g9, qKind2, qSize2, qAt2, qAddress2, qMode2) => [(mm, .inr (9, fl 78 g9)), (MqKind, .inl (cI, 4100, .inl qKind2)), (MqSize, .inl (cI, 4100, .inl qSize2)), (MqAt, .inl (cI, 4100, .inl qAt2)), (MqAddress, .inl (cI, 4100, .inl qAddress2)), (MqMode, .inl (cI, 4100, .inl qMode2))]) := by
  refine st_v (cc := cX9_instruct) (maxL := 5) (by decide) (Nat.le_of_ble_eq_true rfl) ?_
  intro p0 e0 s0 m0 below meth c0 A0 Q0 hBD hret hP hD hS ls hl
  obtain ⟨hx, hb, hml, hown, hts, hnm, hK, hNw, hMk, hA⟩ := hBD
  have hl : lv_has ls 5 [(0, .ref mm), (1, .int (nI k)), (2, .int (nI z)), (3, .int (nI w)), (4, .int (nI a))] := hl
  have hP : va_P D vwCl [(mm, .inr (9, fl 78 g)), (MqKind, .inl (cI, 4100, .inl mqKind)), (MqSize, .inl (cI, 4100, .inl mqSize)), (MqAt, .inl (cI, 4100, .inl mqAt)), (MqAddress, .inl (cI, 4100, .inl mqAddress)), (MqMode, .inl (cI, 4100, .inl mqMode))] s0.heap := hP
  have hD : va_D A0 [(mm, .inr (9, fl 78 g)), (MqKind, .inl (cI, 4100, .inl mqKind)), (MqSize, .inl (cI, 4100, .inl mqSize)), (MqAt, .inl (cI, 4100, .inl mqAt)), (MqAddress, .inl (cI, 4100, .inl mqAddress)), (MqMode, .inl (cI, 4100, .inl mqMode))] := hD
  refine lv_iload_n hx hb dX9_instruct_0 rfl (lv_at hl 1 rfl) ?_
  refine lv_iconst (v := 1) hx hb dX9_instruct_1 (by decide) ?_
  refine lv_icmp_ne (tgt := 43) hx hb dX9_instruct_2 (by decide) (fun c_1 => ?_) (fun c_1 => ?_)
  · refine lv_aload_n hx hb dX9_instruct_43 rfl (lv_at hl 0 rfl) ?_
    refine fx_get (D := D) (ci := 9) (v := .ref MqKind) (C := RX9) (T := TX9) (N := 78) hx hb hts in_X9 hown hK hP 0 rfl rfl 68 (by decide) (hts _ kX9_103) (fun _ h9 => h9) (g_qKind) dX9_instruct_44 ?_
    refine lv_aload_n hx hb dX9_instruct_47 rfl (lv_at hl 0 rfl) ?_
    refine fx_get (D := D) (ci := 9) (v := .int (nI L.length)) (C := RX9) (T := TX9) (N := 78) hx hb hts in_X9 hown hK hP 0 rfl rfl 67 (by decide) (hts _ kX9_356) (fun _ h9 => h9) (g_waits) dX9_instruct_48 ?_
    refine lv_iload_n hx hb dX9_instruct_51 rfl (lv_at hl 1 rfl) ?_
    refine ax_ist hx hb hK hP hD hS 1 0 rfl rfl L.length (rfl) (by omega) (by omega) dX9_instruct_52 (fun H locs hP hD hS => ?_)
    have hP : va_P D vwCl [(mm, .inr (9, fl 78 g)), (MqKind, .inl (cI, 4100, .inl (upd mqKind L.length (nI k)))), (MqSize, .inl (cI, 4100, .inl mqSize)), (MqAt, .inl (cI, 4100, .inl mqAt)), (MqAddress, .inl (cI, 4100, .inl mqAddress)), (MqMode, .inl (cI, 4100, .inl mqMode))] H := hP
    have hD : va_D A0 [(mm, .inr (9, fl 78 g)), (MqKind, .inl (cI, 4100, .inl (upd mqKind L.length (nI k)))), (MqSize, .inl (cI, 4100, .inl mqSize)), (MqAt, .inl (cI, 4100, .inl mqAt)), (MqAddress, .inl (cI, 4100, .inl mqAddress)), (MqMode, .inl (cI, 4100, .inl mqMode))] := hD
    refine lv_aload_n hx hb dX9_instruct_53 rfl (lv_at hl 0 rfl) ?_
    refine fx_get (D := D) (ci := 9) (v := .ref MqSize) (C := RX9) (T := TX9) (N := 78) hx hb hts in_X9 hown hK hP 0 rfl rfl 69 (by decide) (hts _ kX9_106) (fun _ h9 => h9) (g_qSize) dX9_instruct_54 ?_
    refine lv_aload_n hx hb dX9_instruct_57 rfl (lv_at hl 0 rfl) ?_
    refine fx_get (D := D) (ci := 9) (v := .int (nI L.length)) (C := RX9) (T := TX9) (N := 78) hx hb hts in_X9 hown hK hP 0 rfl rfl 67 (by decide) (hts _ kX9_356) (fun _ h9 => h9) (g_waits) dX9_instruct_58 ?_
    refine lv_iload_n hx hb dX9_instruct_61 rfl (lv_at hl 2 rfl) ?_
    refine ax_ist hx hb hK hP hD hS 2 0 rfl rfl L.length (rfl) (by omega) (by omega) dX9_instruct_62 (fun H locs hP hD hS => ?_)
    have hP : va_P D vwCl [(mm, .inr (9, fl 78 g)), (MqKind, .inl (cI, 4100, .inl (upd mqKind L.length (nI k)))), (MqSize, .inl (cI, 4100, .inl (upd mqSize L.length (nI z)))), (MqAt, .inl (cI, 4100, .inl mqAt)), (MqAddress, .inl (cI, 4100, .inl mqAddress)), (MqMode, .inl (cI, 4100, .inl mqMode))] H := hP
    have hD : va_D A0 [(mm, .inr (9, fl 78 g)), (MqKind, .inl (cI, 4100, .inl (upd mqKind L.length (nI k)))), (MqSize, .inl (cI, 4100, .inl (upd mqSize L.length (nI z)))), (MqAt, .inl (cI, 4100, .inl mqAt)), (MqAddress, .inl (cI, 4100, .inl mqAddress)), (MqMode, .inl (cI, 4100, .inl mqMode))] := hD
    refine lv_aload_n hx hb dX9_instruct_63 rfl (lv_at hl 0 rfl) ?_
    refine fx_get (D := D) (ci := 9) (v := .ref MqAt) (C := RX9) (T := TX9) (N := 78) hx hb hts in_X9 hown hK hP 0 rfl rfl 70 (by decide) (hts _ kX9_109) (fun _ h9 => h9) (g_qAt) dX9_instruct_64 ?_
    refine lv_aload_n hx hb dX9_instruct_67 rfl (lv_at hl 0 rfl) ?_
    refine fx_get (D := D) (ci := 9) (v := .int (nI L.length)) (C := RX9) (T := TX9) (N := 78) hx hb hts in_X9 hown hK hP 0 rfl rfl 67 (by decide) (hts _ kX9_356) (fun _ h9 => h9) (g_waits) dX9_instruct_68 ?_
    refine lv_iload_n hx hb dX9_instruct_71 rfl (lv_at hl 3 rfl) ?_
    refine ax_ist hx hb hK hP hD hS 3 0 rfl rfl L.length (rfl) (by omega) (by omega) dX9_instruct_72 (fun H locs hP hD hS => ?_)
    have hP : va_P D vwCl [(mm, .inr (9, fl 78 g)), (MqKind, .inl (cI, 4100, .inl (upd mqKind L.length (nI k)))), (MqSize, .inl (cI, 4100, .inl (upd mqSize L.length (nI z)))), (MqAt, .inl (cI, 4100, .inl (upd mqAt L.length (nI w)))), (MqAddress, .inl (cI, 4100, .inl mqAddress)), (MqMode, .inl (cI, 4100, .inl mqMode))] H := hP
    have hD : va_D A0 [(mm, .inr (9, fl 78 g)), (MqKind, .inl (cI, 4100, .inl (upd mqKind L.length (nI k)))), (MqSize, .inl (cI, 4100, .inl (upd mqSize L.length (nI z)))), (MqAt, .inl (cI, 4100, .inl (upd mqAt L.length (nI w)))), (MqAddress, .inl (cI, 4100, .inl mqAddress)), (MqMode, .inl (cI, 4100, .inl mqMode))] := hD
    refine lv_aload_n hx hb dX9_instruct_73 rfl (lv_at hl 0 rfl) ?_
    refine fx_get (D := D) (ci := 9) (v := .ref MqAddress) (C := RX9) (T := TX9) (N := 78) hx hb hts in_X9 hown hK hP 0 rfl rfl 71 (by decide) (hts _ kX9_112) (fun _ h9 => h9) (g_qAddress) dX9_instruct_74 ?_
    refine lv_aload_n hx hb dX9_instruct_77 rfl (lv_at hl 0 rfl) ?_
    refine fx_get (D := D) (ci := 9) (v := .int (nI L.length)) (C := RX9) (T := TX9) (N := 78) hx hb hts in_X9 hown hK hP 0 rfl rfl 67 (by decide) (hts _ kX9_356) (fun _ h9 => h9) (g_waits) dX9_instruct_78 ?_
    refine lv_iload hx hb dX9_instruct_81 (lv_at hl 4 rfl) ?_
    refine ax_ist hx hb hK hP hD hS 4 0 rfl rfl L.length (rfl) (by omega) (by omega) dX9_instruct_83 (fun H locs hP hD hS => ?_)
    have hP : va_P D vwCl [(mm, .inr (9, fl 78 g)), (MqKind, .inl (cI, 4100, .inl (upd mqKind L.length (nI k)))), (MqSize, .inl (cI, 4100, .inl (upd mqSize L.length (nI z)))), (MqAt, .inl (cI, 4100, .inl (upd mqAt L.length (nI w)))), (MqAddress, .inl (cI, 4100, .inl (upd mqAddress L.length (nI a)))), (MqMode, .inl (cI, 4100, .inl mqMode))] H := hP
    have hD : va_D A0 [(mm, .inr (9, fl 78 g)), (MqKind, .inl (cI, 4100, .inl (upd mqKind L.length (nI k)))), (MqSize, .inl (cI, 4100, .inl (upd mqSize L.length (nI z)))), (MqAt, .inl (cI, 4100, .inl (upd mqAt L.length (nI w)))), (MqAddress, .inl (cI, 4100, .inl (upd mqAddress L.length (nI a)))), (MqMode, .inl (cI, 4100, .inl mqMode))] := hD
    refine lv_aload_n hx hb dX9_instruct_84 rfl (lv_at hl 0 rfl) ?_
    refine fx_get (D := D) (ci := 9) (v := .ref MqMode) (C := RX9) (T := TX9) (N := 78) hx hb hts in_X9 hown hK hP 0 rfl rfl 72 (by decide) (hts _ kX9_115) (fun _ h9 => h9) (g_qMode) dX9_instruct_85 ?_
    refine lv_aload_n hx hb dX9_instruct_88 rfl (lv_at hl 0 rfl) ?_
    refine fx_get (D := D) (ci := 9) (v := .int (nI L.length)) (C := RX9) (T := TX9) (N := 78) hx hb hts in_X9 hown hK hP 0 rfl rfl 67 (by decide) (hts _ kX9_356) (fun _ h9 => h9) (g_waits) dX9_instruct_89 ?_
    refine lv_iconst (v := 0) hx hb dX9_instruct_92 (by decide) ?_
    refine ax_ist hx hb hK hP hD hS 5 0 rfl rfl L.length (rfl) (by omega) (by omega) dX9_instruct_93 (fun H locs hP hD hS => ?_)
    have hP : va_P D vwCl [(mm, .inr (9, fl 78 g)), (MqKind, .inl (cI, 4100, .inl (upd mqKind L.length (nI k)))), (MqSize, .inl (cI, 4100, .inl (upd mqSize L.length (nI z)))), (MqAt, .inl (cI, 4100, .inl (upd mqAt L.length (nI w)))), (MqAddress, .inl (cI, 4100, .inl (upd mqAddress L.length (nI a)))), (MqMode, .inl (cI, 4100, .inl (upd mqMode L.length 0)))] H := hP
    have hD : va_D A0 [(mm, .inr (9, fl 78 g)), (MqKind, .inl (cI, 4100, .inl (upd mqKind L.length (nI k)))), (MqSize, .inl (cI, 4100, .inl (upd mqSize L.length (nI z)))), (MqAt, .inl (cI, 4100, .inl (upd mqAt L.length (nI w)))), (MqAddress, .inl (cI, 4100, .inl (upd mqAddress L.length (nI a)))), (MqMode, .inl (cI, 4100, .inl (upd mqMode L.length 0)))] := hD
    refine lv_aload_n hx hb dX9_instruct_94 rfl (lv_at hl 0 rfl) ?_
    refine lv_dup hx hb dX9_instruct_95 rfl ?_
    refine fx_get (D := D) (ci := 9) (v := .int (nI L.length)) (C := RX9) (T := TX9) (N := 78) hx hb hts in_X9 hown hK hP 0 rfl rfl 67 (by decide) (hts _ kX9_356) (fun _ h9 => h9) (g_waits) dX9_instruct_96 ?_
    refine lv_iconst (v := 1) hx hb dX9_instruct_99 (by decide) ?_
    refine lv_iadd hx hb dX9_instruct_100 ?_
    refine ri (y := nI (L.length + 1)) (nI_add L.length 1) ?_
    refine fx_put (D := D) (ci := 9) (v := .int (nI (L.length + 1))) (ty := .int) (C := RX9) (T := TX9) (N := 78) hx hb hts in_X9 tyX9 tyX9_ok nmX9 hown hK hP hD hS 0 rfl rfl 67 (by decide) (hts _ kX9_356) (fun _ h9 => h9) rfl (by decide +kernel) rfl rfl dX9_instruct_101 (fun H locs hP hD hS => ?_)
    have hP : va_P D vwCl [(mm, .inr (9, fl 78 (va_up g 67 (.int (nI (L.length + 1)))))), (MqKind, .inl (cI, 4100, .inl (upd mqKind L.length (nI k)))), (MqSize, .inl (cI, 4100, .inl (upd mqSize L.length (nI z)))), (MqAt, .inl (cI, 4100, .inl (upd mqAt L.length (nI w)))), (MqAddress, .inl (cI, 4100, .inl (upd mqAddress L.length (nI a)))), (MqMode, .inl (cI, 4100, .inl (upd mqMode L.length 0)))] H := hP
    have hD : va_D A0 [(mm, .inr (9, fl 78 (va_up g 67 (.int (nI (L.length + 1)))))), (MqKind, .inl (cI, 4100, .inl (upd mqKind L.length (nI k)))), (MqSize, .inl (cI, 4100, .inl (upd mqSize L.length (nI z)))), (MqAt, .inl (cI, 4100, .inl (upd mqAt L.length (nI w)))), (MqAddress, .inl (cI, 4100, .inl (upd mqAddress L.length (nI a)))), (MqMode, .inl (cI, 4100, .inl (upd mqMode L.length 0)))] := hD
    have kx_2 : (va_up g 67 (.int (nI (L.length + 1)))) 67 = .int (nI (L ++ [(k, z, w, a)] : List Ins).length) := by have h9 : (va_up g 67 (.int (nI (L.length + 1)))) 67 = .int (nI (L.length + 1)) := rfl; rw [h9]; exact congrArg Value.int (by simp)
    exact hret 104 ls _ _ ((va_up g 67 (.int (nI (L.length + 1)))), upd mqKind L.length (nI k), upd mqSize L.length (nI z), upd mqAt L.length (nI w), upd mqAddress L.length (nI a), upd mqMode L.length 0) dX9_instruct_104 hP hD hS (⟨(frm_up frm_refl (by decide)), kx_2, qR_put (x := (k, z, w, a)) hq⟩)
  · have hk1 : k = 1 := (nI_eq (b := 1) (by omega) (by decide)).mp c_1
    refine lv_aload_n hx hb dX9_instruct_5 rfl (lv_at hl 0 rfl) ?_
    refine fx_get (D := D) (ci := 9) (v := .int (nI L.length)) (C := RX9) (T := TX9) (N := 78) hx hb hts in_X9 hown hK hP 0 rfl rfl 67 (by decide) (hts _ kX9_356) (fun _ h9 => h9) (g_waits) dX9_instruct_6 ?_
    refine lv_if_le (tgt := 43) hx hb dX9_instruct_9 (by decide) (fun c_3 => ?_) (fun c_3 => ?_)
    · refine lv_aload_n hx hb dX9_instruct_43 rfl (lv_at hl 0 rfl) ?_
      refine fx_get (D := D) (ci := 9) (v := .ref MqKind) (C := RX9) (T := TX9) (N := 78) hx hb hts in_X9 hown hK hP 0 rfl rfl 68 (by decide) (hts _ kX9_103) (fun _ h9 => h9) (g_qKind) dX9_instruct_44 ?_
      refine lv_aload_n hx hb dX9_instruct_47 rfl (lv_at hl 0 rfl) ?_
      refine fx_get (D := D) (ci := 9) (v := .int (nI L.length)) (C := RX9) (T := TX9) (N := 78) hx hb hts in_X9 hown hK hP 0 rfl rfl 67 (by decide) (hts _ kX9_356) (fun _ h9 => h9) (g_waits) dX9_instruct_48 ?_
      refine lv_iload_n hx hb dX9_instruct_51 rfl (lv_at hl 1 rfl) ?_
      refine ax_ist hx hb hK hP hD hS 1 0 rfl rfl L.length (rfl) (by omega) (by omega) dX9_instruct_52 (fun H locs hP hD hS => ?_)
      have hP : va_P D vwCl [(mm, .inr (9, fl 78 g)), (MqKind, .inl (cI, 4100, .inl (upd mqKind L.length (nI k)))), (MqSize, .inl (cI, 4100, .inl mqSize)), (MqAt, .inl (cI, 4100, .inl mqAt)), (MqAddress, .inl (cI, 4100, .inl mqAddress)), (MqMode, .inl (cI, 4100, .inl mqMode))] H := hP
      have hD : va_D A0 [(mm, .inr (9, fl 78 g)), (MqKind, .inl (cI, 4100, .inl (upd mqKind L.length (nI k)))), (MqSize, .inl (cI, 4100, .inl mqSize)), (MqAt, .inl (cI, 4100, .inl mqAt)), (MqAddress, .inl (cI, 4100, .inl mqAddress)), (MqMode, .inl (cI, 4100, .inl mqMode))] := hD
      refine lv_aload_n hx hb dX9_instruct_53 rfl (lv_at hl 0 rfl) ?_
      refine fx_get (D := D) (ci := 9) (v := .ref MqSize) (C := RX9) (T := TX9) (N := 78) hx hb hts in_X9 hown hK hP 0 rfl rfl 69 (by decide) (hts _ kX9_106) (fun _ h9 => h9) (g_qSize) dX9_instruct_54 ?_
      refine lv_aload_n hx hb dX9_instruct_57 rfl (lv_at hl 0 rfl) ?_
      refine fx_get (D := D) (ci := 9) (v := .int (nI L.length)) (C := RX9) (T := TX9) (N := 78) hx hb hts in_X9 hown hK hP 0 rfl rfl 67 (by decide) (hts _ kX9_356) (fun _ h9 => h9) (g_waits) dX9_instruct_58 ?_
      refine lv_iload_n hx hb dX9_instruct_61 rfl (lv_at hl 2 rfl) ?_
      refine ax_ist hx hb hK hP hD hS 2 0 rfl rfl L.length (rfl) (by omega) (by omega) dX9_instruct_62 (fun H locs hP hD hS => ?_)
      have hP : va_P D vwCl [(mm, .inr (9, fl 78 g)), (MqKind, .inl (cI, 4100, .inl (upd mqKind L.length (nI k)))), (MqSize, .inl (cI, 4100, .inl (upd mqSize L.length (nI z)))), (MqAt, .inl (cI, 4100, .inl mqAt)), (MqAddress, .inl (cI, 4100, .inl mqAddress)), (MqMode, .inl (cI, 4100, .inl mqMode))] H := hP
      have hD : va_D A0 [(mm, .inr (9, fl 78 g)), (MqKind, .inl (cI, 4100, .inl (upd mqKind L.length (nI k)))), (MqSize, .inl (cI, 4100, .inl (upd mqSize L.length (nI z)))), (MqAt, .inl (cI, 4100, .inl mqAt)), (MqAddress, .inl (cI, 4100, .inl mqAddress)), (MqMode, .inl (cI, 4100, .inl mqMode))] := hD
      refine lv_aload_n hx hb dX9_instruct_63 rfl (lv_at hl 0 rfl) ?_
      refine fx_get (D := D) (ci := 9) (v := .ref MqAt) (C := RX9) (T := TX9) (N := 78) hx hb hts in_X9 hown hK hP 0 rfl rfl 70 (by decide) (hts _ kX9_109) (fun _ h9 => h9) (g_qAt) dX9_instruct_64 ?_
      refine lv_aload_n hx hb dX9_instruct_67 rfl (lv_at hl 0 rfl) ?_
      refine fx_get (D := D) (ci := 9) (v := .int (nI L.length)) (C := RX9) (T := TX9) (N := 78) hx hb hts in_X9 hown hK hP 0 rfl rfl 67 (by decide) (hts _ kX9_356) (fun _ h9 => h9) (g_waits) dX9_instruct_68 ?_
      refine lv_iload_n hx hb dX9_instruct_71 rfl (lv_at hl 3 rfl) ?_
      refine ax_ist hx hb hK hP hD hS 3 0 rfl rfl L.length (rfl) (by omega) (by omega) dX9_instruct_72 (fun H locs hP hD hS => ?_)
      have hP : va_P D vwCl [(mm, .inr (9, fl 78 g)), (MqKind, .inl (cI, 4100, .inl (upd mqKind L.length (nI k)))), (MqSize, .inl (cI, 4100, .inl (upd mqSize L.length (nI z)))), (MqAt, .inl (cI, 4100, .inl (upd mqAt L.length (nI w)))), (MqAddress, .inl (cI, 4100, .inl mqAddress)), (MqMode, .inl (cI, 4100, .inl mqMode))] H := hP
      have hD : va_D A0 [(mm, .inr (9, fl 78 g)), (MqKind, .inl (cI, 4100, .inl (upd mqKind L.length (nI k)))), (MqSize, .inl (cI, 4100, .inl (upd mqSize L.length (nI z)))), (MqAt, .inl (cI, 4100, .inl (upd mqAt L.length (nI w)))), (MqAddress, .inl (cI, 4100, .inl mqAddress)), (MqMode, .inl (cI, 4100, .inl mqMode))] := hD
      refine lv_aload_n hx hb dX9_instruct_73 rfl (lv_at hl 0 rfl) ?_
      refine fx_get (D := D) (ci := 9) (v := .ref MqAddress) (C := RX9) (T := TX9) (N := 78) hx hb hts in_X9 hown hK hP 0 rfl rfl 71 (by decide) (hts _ kX9_112) (fun _ h9 => h9) (g_qAddress) dX9_instruct_74 ?_
      refine lv_aload_n hx hb dX9_instruct_77 rfl (lv_at hl 0 rfl) ?_
      refine fx_get (D := D) (ci := 9) (v := .int (nI L.length)) (C := RX9) (T := TX9) (N := 78) hx hb hts in_X9 hown hK hP 0 rfl rfl 67 (by decide) (hts _ kX9_356) (fun _ h9 => h9) (g_waits) dX9_instruct_78 ?_
      refine lv_iload hx hb dX9_instruct_81 (lv_at hl 4 rfl) ?_
      refine ax_ist hx hb hK hP hD hS 4 0 rfl rfl L.length (rfl) (by omega) (by omega) dX9_instruct_83 (fun H locs hP hD hS => ?_)
      have hP : va_P D vwCl [(mm, .inr (9, fl 78 g)), (MqKind, .inl (cI, 4100, .inl (upd mqKind L.length (nI k)))), (MqSize, .inl (cI, 4100, .inl (upd mqSize L.length (nI z)))), (MqAt, .inl (cI, 4100, .inl (upd mqAt L.length (nI w)))), (MqAddress, .inl (cI, 4100, .inl (upd mqAddress L.length (nI a)))), (MqMode, .inl (cI, 4100, .inl mqMode))] H := hP
      have hD : va_D A0 [(mm, .inr (9, fl 78 g)), (MqKind, .inl (cI, 4100, .inl (upd mqKind L.length (nI k)))), (MqSize, .inl (cI, 4100, .inl (upd mqSize L.length (nI z)))), (MqAt, .inl (cI, 4100, .inl (upd mqAt L.length (nI w)))), (MqAddress, .inl (cI, 4100, .inl (upd mqAddress L.length (nI a)))), (MqMode, .inl (cI, 4100, .inl mqMode))] := hD
      refine lv_aload_n hx hb dX9_instruct_84 rfl (lv_at hl 0 rfl) ?_
      refine fx_get (D := D) (ci := 9) (v := .ref MqMode) (C := RX9) (T := TX9) (N := 78) hx hb hts in_X9 hown hK hP 0 rfl rfl 72 (by decide) (hts _ kX9_115) (fun _ h9 => h9) (g_qMode) dX9_instruct_85 ?_
      refine lv_aload_n hx hb dX9_instruct_88 rfl (lv_at hl 0 rfl) ?_
      refine fx_get (D := D) (ci := 9) (v := .int (nI L.length)) (C := RX9) (T := TX9) (N := 78) hx hb hts in_X9 hown hK hP 0 rfl rfl 67 (by decide) (hts _ kX9_356) (fun _ h9 => h9) (g_waits) dX9_instruct_89 ?_
      refine lv_iconst (v := 0) hx hb dX9_instruct_92 (by decide) ?_
      refine ax_ist hx hb hK hP hD hS 5 0 rfl rfl L.length (rfl) (by omega) (by omega) dX9_instruct_93 (fun H locs hP hD hS => ?_)
      have hP : va_P D vwCl [(mm, .inr (9, fl 78 g)), (MqKind, .inl (cI, 4100, .inl (upd mqKind L.length (nI k)))), (MqSize, .inl (cI, 4100, .inl (upd mqSize L.length (nI z)))), (MqAt, .inl (cI, 4100, .inl (upd mqAt L.length (nI w)))), (MqAddress, .inl (cI, 4100, .inl (upd mqAddress L.length (nI a)))), (MqMode, .inl (cI, 4100, .inl (upd mqMode L.length 0)))] H := hP
      have hD : va_D A0 [(mm, .inr (9, fl 78 g)), (MqKind, .inl (cI, 4100, .inl (upd mqKind L.length (nI k)))), (MqSize, .inl (cI, 4100, .inl (upd mqSize L.length (nI z)))), (MqAt, .inl (cI, 4100, .inl (upd mqAt L.length (nI w)))), (MqAddress, .inl (cI, 4100, .inl (upd mqAddress L.length (nI a)))), (MqMode, .inl (cI, 4100, .inl (upd mqMode L.length 0)))] := hD
      refine lv_aload_n hx hb dX9_instruct_94 rfl (lv_at hl 0 rfl) ?_
      refine lv_dup hx hb dX9_instruct_95 rfl ?_
      refine fx_get (D := D) (ci := 9) (v := .int (nI L.length)) (C := RX9) (T := TX9) (N := 78) hx hb hts in_X9 hown hK hP 0 rfl rfl 67 (by decide) (hts _ kX9_356) (fun _ h9 => h9) (g_waits) dX9_instruct_96 ?_
      refine lv_iconst (v := 1) hx hb dX9_instruct_99 (by decide) ?_
      refine lv_iadd hx hb dX9_instruct_100 ?_
      refine ri (y := nI (L.length + 1)) (nI_add L.length 1) ?_
      refine fx_put (D := D) (ci := 9) (v := .int (nI (L.length + 1))) (ty := .int) (C := RX9) (T := TX9) (N := 78) hx hb hts in_X9 tyX9 tyX9_ok nmX9 hown hK hP hD hS 0 rfl rfl 67 (by decide) (hts _ kX9_356) (fun _ h9 => h9) rfl (by decide +kernel) rfl rfl dX9_instruct_101 (fun H locs hP hD hS => ?_)
      have hP : va_P D vwCl [(mm, .inr (9, fl 78 (va_up g 67 (.int (nI (L.length + 1)))))), (MqKind, .inl (cI, 4100, .inl (upd mqKind L.length (nI k)))), (MqSize, .inl (cI, 4100, .inl (upd mqSize L.length (nI z)))), (MqAt, .inl (cI, 4100, .inl (upd mqAt L.length (nI w)))), (MqAddress, .inl (cI, 4100, .inl (upd mqAddress L.length (nI a)))), (MqMode, .inl (cI, 4100, .inl (upd mqMode L.length 0)))] H := hP
      have hD : va_D A0 [(mm, .inr (9, fl 78 (va_up g 67 (.int (nI (L.length + 1)))))), (MqKind, .inl (cI, 4100, .inl (upd mqKind L.length (nI k)))), (MqSize, .inl (cI, 4100, .inl (upd mqSize L.length (nI z)))), (MqAt, .inl (cI, 4100, .inl (upd mqAt L.length (nI w)))), (MqAddress, .inl (cI, 4100, .inl (upd mqAddress L.length (nI a)))), (MqMode, .inl (cI, 4100, .inl (upd mqMode L.length 0)))] := hD
      have kx_4 : (va_up g 67 (.int (nI (L.length + 1)))) 67 = .int (nI (L ++ [(k, z, w, a)] : List Ins).length) := by have h9 : (va_up g 67 (.int (nI (L.length + 1)))) 67 = .int (nI (L.length + 1)) := rfl; rw [h9]; exact congrArg Value.int (by simp)
      exact hret 104 ls _ _ ((va_up g 67 (.int (nI (L.length + 1)))), upd mqKind L.length (nI k), upd mqSize L.length (nI z), upd mqAt L.length (nI w), upd mqAddress L.length (nI a), upd mqMode L.length 0) dX9_instruct_104 hP hD hS (⟨(frm_up frm_refl (by decide)), kx_4, qR_put (x := (k, z, w, a)) hq⟩)
    · have hl0 : 0 < L.length := Nat.pos_of_ne_zero (fun z9 => c_3 (by rw [z9]; decide))
      have hq9 := (hq (L.length - 1) (by omega)).1
      have hn9 := hna hk1 (L.length - 1) (by omega)
      have hn8 := hql (L.length - 1) (by omega)
      refine lv_aload_n hx hb dX9_instruct_12 rfl (lv_at hl 0 rfl) ?_
      refine fx_get (D := D) (ci := 9) (v := .ref MqKind) (C := RX9) (T := TX9) (N := 78) hx hb hts in_X9 hown hK hP 0 rfl rfl 68 (by decide) (hts _ kX9_103) (fun _ h9 => h9) (g_qKind) dX9_instruct_13 ?_
      refine lv_aload_n hx hb dX9_instruct_16 rfl (lv_at hl 0 rfl) ?_
      refine fx_get (D := D) (ci := 9) (v := .int (nI L.length)) (C := RX9) (T := TX9) (N := 78) hx hb hts in_X9 hown hK hP 0 rfl rfl 67 (by decide) (hts _ kX9_356) (fun _ h9 => h9) (g_waits) dX9_instruct_17 ?_
      refine lv_iconst (v := 1) hx hb dX9_instruct_20 (by decide) ?_
      refine lv_isub hx hb dX9_instruct_21 ?_
      refine ri (y := nI (L.length - 1)) (pk_sub (b := 1) (by omega)) ?_
      refine ax_ild hx hb hK hP 1 0 rfl rfl (L.length - 1) (rfl) (by omega) (by omega) dX9_instruct_22 ?_
      refine ri (y := nI (L.getD (L.length - 1) (0, 0, 0, 0)).1) (hq9) ?_
      refine lv_iconst (v := 1) hx hb dX9_instruct_23 (by decide) ?_
      refine lv_icmp_ne (tgt := 43) hx hb dX9_instruct_24 (by decide) (fun c_5 => ?_) (fun c_5 => absurd c_5 (fun w9 => hn9 ((nI_eq (b := 1) (by omega) (by decide)).mp w9)))
      refine lv_aload_n hx hb dX9_instruct_43 rfl (lv_at hl 0 rfl) ?_
      refine fx_get (D := D) (ci := 9) (v := .ref MqKind) (C := RX9) (T := TX9) (N := 78) hx hb hts in_X9 hown hK hP 0 rfl rfl 68 (by decide) (hts _ kX9_103) (fun _ h9 => h9) (g_qKind) dX9_instruct_44 ?_
      refine lv_aload_n hx hb dX9_instruct_47 rfl (lv_at hl 0 rfl) ?_
      refine fx_get (D := D) (ci := 9) (v := .int (nI L.length)) (C := RX9) (T := TX9) (N := 78) hx hb hts in_X9 hown hK hP 0 rfl rfl 67 (by decide) (hts _ kX9_356) (fun _ h9 => h9) (g_waits) dX9_instruct_48 ?_
      refine lv_iload_n hx hb dX9_instruct_51 rfl (lv_at hl 1 rfl) ?_
      refine ax_ist hx hb hK hP hD hS 1 0 rfl rfl L.length (rfl) (by omega) (by omega) dX9_instruct_52 (fun H locs hP hD hS => ?_)
      have hP : va_P D vwCl [(mm, .inr (9, fl 78 g)), (MqKind, .inl (cI, 4100, .inl (upd mqKind L.length (nI k)))), (MqSize, .inl (cI, 4100, .inl mqSize)), (MqAt, .inl (cI, 4100, .inl mqAt)), (MqAddress, .inl (cI, 4100, .inl mqAddress)), (MqMode, .inl (cI, 4100, .inl mqMode))] H := hP
      have hD : va_D A0 [(mm, .inr (9, fl 78 g)), (MqKind, .inl (cI, 4100, .inl (upd mqKind L.length (nI k)))), (MqSize, .inl (cI, 4100, .inl mqSize)), (MqAt, .inl (cI, 4100, .inl mqAt)), (MqAddress, .inl (cI, 4100, .inl mqAddress)), (MqMode, .inl (cI, 4100, .inl mqMode))] := hD
      refine lv_aload_n hx hb dX9_instruct_53 rfl (lv_at hl 0 rfl) ?_
      refine fx_get (D := D) (ci := 9) (v := .ref MqSize) (C := RX9) (T := TX9) (N := 78) hx hb hts in_X9 hown hK hP 0 rfl rfl 69 (by decide) (hts _ kX9_106) (fun _ h9 => h9) (g_qSize) dX9_instruct_54 ?_
      refine lv_aload_n hx hb dX9_instruct_57 rfl (lv_at hl 0 rfl) ?_
      refine fx_get (D := D) (ci := 9) (v := .int (nI L.length)) (C := RX9) (T := TX9) (N := 78) hx hb hts in_X9 hown hK hP 0 rfl rfl 67 (by decide) (hts _ kX9_356) (fun _ h9 => h9) (g_waits) dX9_instruct_58 ?_
      refine lv_iload_n hx hb dX9_instruct_61 rfl (lv_at hl 2 rfl) ?_
      refine ax_ist hx hb hK hP hD hS 2 0 rfl rfl L.length (rfl) (by omega) (by omega) dX9_instruct_62 (fun H locs hP hD hS => ?_)
      have hP : va_P D vwCl [(mm, .inr (9, fl 78 g)), (MqKind, .inl (cI, 4100, .inl (upd mqKind L.length (nI k)))), (MqSize, .inl (cI, 4100, .inl (upd mqSize L.length (nI z)))), (MqAt, .inl (cI, 4100, .inl mqAt)), (MqAddress, .inl (cI, 4100, .inl mqAddress)), (MqMode, .inl (cI, 4100, .inl mqMode))] H := hP
      have hD : va_D A0 [(mm, .inr (9, fl 78 g)), (MqKind, .inl (cI, 4100, .inl (upd mqKind L.length (nI k)))), (MqSize, .inl (cI, 4100, .inl (upd mqSize L.length (nI z)))), (MqAt, .inl (cI, 4100, .inl mqAt)), (MqAddress, .inl (cI, 4100, .inl mqAddress)), (MqMode, .inl (cI, 4100, .inl mqMode))] := hD
      refine lv_aload_n hx hb dX9_instruct_63 rfl (lv_at hl 0 rfl) ?_
      refine fx_get (D := D) (ci := 9) (v := .ref MqAt) (C := RX9) (T := TX9) (N := 78) hx hb hts in_X9 hown hK hP 0 rfl rfl 70 (by decide) (hts _ kX9_109) (fun _ h9 => h9) (g_qAt) dX9_instruct_64 ?_
      refine lv_aload_n hx hb dX9_instruct_67 rfl (lv_at hl 0 rfl) ?_
      refine fx_get (D := D) (ci := 9) (v := .int (nI L.length)) (C := RX9) (T := TX9) (N := 78) hx hb hts in_X9 hown hK hP 0 rfl rfl 67 (by decide) (hts _ kX9_356) (fun _ h9 => h9) (g_waits) dX9_instruct_68 ?_
      refine lv_iload_n hx hb dX9_instruct_71 rfl (lv_at hl 3 rfl) ?_
      refine ax_ist hx hb hK hP hD hS 3 0 rfl rfl L.length (rfl) (by omega) (by omega) dX9_instruct_72 (fun H locs hP hD hS => ?_)
      have hP : va_P D vwCl [(mm, .inr (9, fl 78 g)), (MqKind, .inl (cI, 4100, .inl (upd mqKind L.length (nI k)))), (MqSize, .inl (cI, 4100, .inl (upd mqSize L.length (nI z)))), (MqAt, .inl (cI, 4100, .inl (upd mqAt L.length (nI w)))), (MqAddress, .inl (cI, 4100, .inl mqAddress)), (MqMode, .inl (cI, 4100, .inl mqMode))] H := hP
      have hD : va_D A0 [(mm, .inr (9, fl 78 g)), (MqKind, .inl (cI, 4100, .inl (upd mqKind L.length (nI k)))), (MqSize, .inl (cI, 4100, .inl (upd mqSize L.length (nI z)))), (MqAt, .inl (cI, 4100, .inl (upd mqAt L.length (nI w)))), (MqAddress, .inl (cI, 4100, .inl mqAddress)), (MqMode, .inl (cI, 4100, .inl mqMode))] := hD
      refine lv_aload_n hx hb dX9_instruct_73 rfl (lv_at hl 0 rfl) ?_
      refine fx_get (D := D) (ci := 9) (v := .ref MqAddress) (C := RX9) (T := TX9) (N := 78) hx hb hts in_X9 hown hK hP 0 rfl rfl 71 (by decide) (hts _ kX9_112) (fun _ h9 => h9) (g_qAddress) dX9_instruct_74 ?_
      refine lv_aload_n hx hb dX9_instruct_77 rfl (lv_at hl 0 rfl) ?_
      refine fx_get (D := D) (ci := 9) (v := .int (nI L.length)) (C := RX9) (T := TX9) (N := 78) hx hb hts in_X9 hown hK hP 0 rfl rfl 67 (by decide) (hts _ kX9_356) (fun _ h9 => h9) (g_waits) dX9_instruct_78 ?_
      refine lv_iload hx hb dX9_instruct_81 (lv_at hl 4 rfl) ?_
      refine ax_ist hx hb hK hP hD hS 4 0 rfl rfl L.length (rfl) (by omega) (by omega) dX9_instruct_83 (fun H locs hP hD hS => ?_)
      have hP : va_P D vwCl [(mm, .inr (9, fl 78 g)), (MqKind, .inl (cI, 4100, .inl (upd mqKind L.length (nI k)))), (MqSize, .inl (cI, 4100, .inl (upd mqSize L.length (nI z)))), (MqAt, .inl (cI, 4100, .inl (upd mqAt L.length (nI w)))), (MqAddress, .inl (cI, 4100, .inl (upd mqAddress L.length (nI a)))), (MqMode, .inl (cI, 4100, .inl mqMode))] H := hP
      have hD : va_D A0 [(mm, .inr (9, fl 78 g)), (MqKind, .inl (cI, 4100, .inl (upd mqKind L.length (nI k)))), (MqSize, .inl (cI, 4100, .inl (upd mqSize L.length (nI z)))), (MqAt, .inl (cI, 4100, .inl (upd mqAt L.length (nI w)))), (MqAddress, .inl (cI, 4100, .inl (upd mqAddress L.length (nI a)))), (MqMode, .inl (cI, 4100, .inl mqMode))] := hD
      refine lv_aload_n hx hb dX9_instruct_84 rfl (lv_at hl 0 rfl) ?_
      refine fx_get (D := D) (ci := 9) (v := .ref MqMode) (C := RX9) (T := TX9) (N := 78) hx hb hts in_X9 hown hK hP 0 rfl rfl 72 (by decide) (hts _ kX9_115) (fun _ h9 => h9) (g_qMode) dX9_instruct_85 ?_
      refine lv_aload_n hx hb dX9_instruct_88 rfl (lv_at hl 0 rfl) ?_
      refine fx_get (D := D) (ci := 9) (v := .int (nI L.length)) (C := RX9) (T := TX9) (N := 78) hx hb hts in_X9 hown hK hP 0 rfl rfl 67 (by decide) (hts _ kX9_356) (fun _ h9 => h9) (g_waits) dX9_instruct_89 ?_
      refine lv_iconst (v := 0) hx hb dX9_instruct_92 (by decide) ?_
      refine ax_ist hx hb hK hP hD hS 5 0 rfl rfl L.length (rfl) (by omega) (by omega) dX9_instruct_93 (fun H locs hP hD hS => ?_)
      have hP : va_P D vwCl [(mm, .inr (9, fl 78 g)), (MqKind, .inl (cI, 4100, .inl (upd mqKind L.length (nI k)))), (MqSize, .inl (cI, 4100, .inl (upd mqSize L.length (nI z)))), (MqAt, .inl (cI, 4100, .inl (upd mqAt L.length (nI w)))), (MqAddress, .inl (cI, 4100, .inl (upd mqAddress L.length (nI a)))), (MqMode, .inl (cI, 4100, .inl (upd mqMode L.length 0)))] H := hP
      have hD : va_D A0 [(mm, .inr (9, fl 78 g)), (MqKind, .inl (cI, 4100, .inl (upd mqKind L.length (nI k)))), (MqSize, .inl (cI, 4100, .inl (upd mqSize L.length (nI z)))), (MqAt, .inl (cI, 4100, .inl (upd mqAt L.length (nI w)))), (MqAddress, .inl (cI, 4100, .inl (upd mqAddress L.length (nI a)))), (MqMode, .inl (cI, 4100, .inl (upd mqMode L.length 0)))] := hD
      refine lv_aload_n hx hb dX9_instruct_94 rfl (lv_at hl 0 rfl) ?_
      refine lv_dup hx hb dX9_instruct_95 rfl ?_
      refine fx_get (D := D) (ci := 9) (v := .int (nI L.length)) (C := RX9) (T := TX9) (N := 78) hx hb hts in_X9 hown hK hP 0 rfl rfl 67 (by decide) (hts _ kX9_356) (fun _ h9 => h9) (g_waits) dX9_instruct_96 ?_
      refine lv_iconst (v := 1) hx hb dX9_instruct_99 (by decide) ?_
      refine lv_iadd hx hb dX9_instruct_100 ?_
      refine ri (y := nI (L.length + 1)) (nI_add L.length 1) ?_
      refine fx_put (D := D) (ci := 9) (v := .int (nI (L.length + 1))) (ty := .int) (C := RX9) (T := TX9) (N := 78) hx hb hts in_X9 tyX9 tyX9_ok nmX9 hown hK hP hD hS 0 rfl rfl 67 (by decide) (hts _ kX9_356) (fun _ h9 => h9) rfl (by decide +kernel) rfl rfl dX9_instruct_101 (fun H locs hP hD hS => ?_)
      have hP : va_P D vwCl [(mm, .inr (9, fl 78 (va_up g 67 (.int (nI (L.length + 1)))))), (MqKind, .inl (cI, 4100, .inl (upd mqKind L.length (nI k)))), (MqSize, .inl (cI, 4100, .inl (upd mqSize L.length (nI z)))), (MqAt, .inl (cI, 4100, .inl (upd mqAt L.length (nI w)))), (MqAddress, .inl (cI, 4100, .inl (upd mqAddress L.length (nI a)))), (MqMode, .inl (cI, 4100, .inl (upd mqMode L.length 0)))] H := hP
      have hD : va_D A0 [(mm, .inr (9, fl 78 (va_up g 67 (.int (nI (L.length + 1)))))), (MqKind, .inl (cI, 4100, .inl (upd mqKind L.length (nI k)))), (MqSize, .inl (cI, 4100, .inl (upd mqSize L.length (nI z)))), (MqAt, .inl (cI, 4100, .inl (upd mqAt L.length (nI w)))), (MqAddress, .inl (cI, 4100, .inl (upd mqAddress L.length (nI a)))), (MqMode, .inl (cI, 4100, .inl (upd mqMode L.length 0)))] := hD
      have kx_6 : (va_up g 67 (.int (nI (L.length + 1)))) 67 = .int (nI (L ++ [(k, z, w, a)] : List Ins).length) := by have h9 : (va_up g 67 (.int (nI (L.length + 1)))) 67 = .int (nI (L.length + 1)) := rfl; rw [h9]; exact congrArg Value.int (by simp)
      exact hret 104 ls _ _ ((va_up g 67 (.int (nI (L.length + 1)))), upd mqKind L.length (nI k), upd mqSize L.length (nI z), upd mqAt L.length (nI w), upd mqAddress L.length (nI a), upd mqMode L.length 0) dX9_instruct_104 hP hD hS (⟨(frm_up frm_refl (by decide)), kx_6, qR_put (x := (k, z, w, a)) hq⟩)
