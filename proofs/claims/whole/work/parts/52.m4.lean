def outR (mo mg : Nat → Int32) (m : MS) : Prop := ∀ j, j < m.2.2 → mo j = s8 (m.1 j) ∧ m.1 j < 256 ∧ mg j = m.2.1 j
theorem outR_push {mo mg : Nat → Int32} {m : MS} {v : Nat} {o : Int32} (h : outR mo mg m) (hv : v < 256) : outR (upd mo m.2.2 (s8 v)) (upd mg m.2.2 o) (pushM m v o) := by
  intro j hj
  have hj : j < m.2.2 + 1 := hj
  show _ = s8 (va_up m.1 m.2.2 v j) ∧ va_up m.1 m.2.2 v j < 256 ∧ _ = va_up m.2.1 m.2.2 o j
  by_cases q : j = m.2.2
  · subst q; rw [pk_us, pk_us, va_up_self, va_up_self]; exact ⟨rfl, hv, rfl⟩
  · simp only [pk_un q, va_up_ne _ _ q]; exact h j (by omega)
theorem kpX_mod {near nx : Nat} (h : 0 < near) (hx : nx < near) : (nx + 1) % near = kpX near nx := by
  unfold kpX
  rw [if_pos h]
  split
  · exact Nat.mod_eq_of_lt (by assumption)
  · rw [show nx + 1 = near by omega, Nat.mod_self]
theorem adOk_iff {b : Nat → Nat} {ae near md aa here : Nat} {cN cS : Nat → Nat} {x : Int64} (h0 : (rdA b ae near md aa).1 = 0) (hx : x.toInt = adV near md here (rdA b ae near md aa).2.1 cN cS) (hh : here < 2 ^ 30) : decide ((0 : Int64) ≤ x ∧ x ≤ lN here - 1) = true ↔ adOk b ae near md aa here cN cS := by
  rw [decide_eq_true_iff, Int64.le_iff_toInt_le, Int64.le_iff_toInt_le, show (1 : Int64) = lN 1 from rfl, lsub_toInt (by omega) (by omega), hx, show (0 : Int64).toInt = 0 from rfl]
  unfold adOk
  constructor
  · intro h; exact ⟨h0, h.1, by omega⟩
  · intro h; exact ⟨h.2.1, by have := h.2.2; omega⟩
set_option maxHeartbeats 4000000 in
set_option maxRecDepth 100000 in
theorem m_clearCaches (l : Launch) (D : va_G) (cI cB cJ cR : ClassId) (mm : Nat) (g : Nat → Value) (Mnears : Nat) (Msames : Nat) (mnears : Nat → Int64) (msames : Nat → Int64) (g_nears : g 10 = .ref Mnears) (g_sames : g 12 = .ref Msames) : CMv l yX9_clearCaches cX9_clearCaches 2 none ({ frames := 0, cells := 0, slots := 0, locals := 0 }) D (tyA cI cB cJ cR) 0 0 [.ref mm] [(mm, .inr (9, fl 78 g)), (Mnears, .inl (cJ, 8, .inr (.inl mnears))), (Msames, .inl (cJ, 1024, .inr (.inl msames)))] (fun (u9 : (Nat → Value) × (Nat → Int64) × (Nat → Int64)) => match u9 with | (g9, fn2, fs2) => frm [11] g g9 ∧ g9 11 = .int (nI 0) ∧ chR fn2 fs2 (fun _ => 0) (fun _ => 0)) (fun (u9 : (Nat → Value) × (Nat → Int64) × (Nat → Int64)) => match u9 with | (g9, fn2, fs2) => [(mm, .inr (9, fl 78 g9)), (Mnears, .inl (cJ, 8, .inr (.inl fn2))), (Msames, .inl (cJ, 1024, .inr (.inl fs2)))]) := by
  refine st_v (cc := cX9_clearCaches) (maxL := 2) (by decide) (Nat.le_of_ble_eq_true rfl) ?_
  intro p0 e0 s0 m0 below meth c0 A0 Q0 hBD hret hP hD hS ls hl
  obtain ⟨hx, hb, hml, hown, hts, hnm, hK, hNw, hMk, hA⟩ := hBD
  have hl : lv_has ls 2 [(0, .ref mm)] := hl
  have hP : va_P D vwCl [(mm, .inr (9, fl 78 g)), (Mnears, .inl (cJ, 8, .inr (.inl mnears))), (Msames, .inl (cJ, 1024, .inr (.inl msames)))] s0.heap := hP
  have hD : va_D A0 [(mm, .inr (9, fl 78 g)), (Mnears, .inl (cJ, 8, .inr (.inl mnears))), (Msames, .inl (cJ, 1024, .inr (.inl msames)))] := hD
  refine lv_aload_n hx hb dX9_clearCaches_0 rfl (lv_at hl 0 rfl) ?_
  refine lv_iconst (v := 0) hx hb dX9_clearCaches_1 (by decide) ?_
  refine ri (y := nI 0) (nI_0.symm) ?_
  refine fx_put (D := D) (ci := 9) (v := .int (nI 0)) (ty := .int) (C := RX9) (T := TX9) (N := 78) hx hb hts in_X9 tyX9 tyX9_ok nmX9 hown hK hP hD hS 0 rfl rfl 11 (by decide) (hts _ kX9_170) (fun _ h9 => h9) rfl (by decide +kernel) rfl rfl dX9_clearCaches_2 (fun H locs hP hD hS => ?_)
  have hP : va_P D vwCl [(mm, .inr (9, fl 78 (va_up g 11 (.int (nI 0))))), (Mnears, .inl (cJ, 8, .inr (.inl mnears))), (Msames, .inl (cJ, 1024, .inr (.inl msames)))] H := hP
  have hD : va_D A0 [(mm, .inr (9, fl 78 (va_up g 11 (.int (nI 0))))), (Mnears, .inl (cJ, 8, .inr (.inl mnears))), (Msames, .inl (cJ, 1024, .inr (.inl msames)))] := hD
  refine lv_iconst (v := 0) hx hb dX9_clearCaches_5 (by decide) ?_
  refine ri (y := nI 0) (nI_0.symm) ?_
  refine lv_istore_n (lv' := [(1, .int (nI 0)), (0, .ref mm)]) hx hb dX9_clearCaches_6 rfl hl (by decide) rfl (fun ls hl => ?_)
  have l1 : ∀ (k9 : Nat) (g5_l1 : Nat → Value) (k : Nat) (fn7 : Nat → Int64) (H : Heap) (locs : List Loc) (ls : Array Slot), 8 - k < k9 → (frm [11] g g5_l1) → (g5_l1 11 = .int (nI 0)) → (k ≤ 8) → (∀ j, j < k → fn7 j = lN 0) → va_P D vwCl [(mm, .inr (9, fl 78 g5_l1)), (Mnears, .inl (cJ, 8, .inr (.inl fn7))), (Msames, .inl (cJ, 1024, .inr (.inl msames)))] H → va_D A0 [(mm, .inr (9, fl 78 g5_l1)), (Mnears, .inl (cJ, 8, .inr (.inl fn7))), (Msames, .inl (cJ, 1024, .inr (.inl msames)))] → va_S A0 s0.heap H locs → lv_has ls 2 [(0, .ref mm), (1, .int (nI k))] → W p0 l e0 ({ frames := 0, cells := 0, slots := 0, locals := 0 }) s0 m0 ([.ref mm] : List Value).toArray below meth c0 H locs 0 0 Q0 (F0 m0 7 ls []) := by
    intro k9
    induction k9 with
    | zero => intro g5_l1 k fn7 H locs ls hk9; exact absurd hk9 (Nat.not_lt_zero _)
    | succ k9 ih =>
      intro g5_l1 k fn7 H locs ls hk9 hf_l1 k_nextNear_l1 hk9 hn7 hP hD hS hl
      refine lv_iload_n hx hb dX9_clearCaches_7 rfl (lv_at hl 1 rfl) ?_
      refine lv_bipush (v := 8) hx hb dX9_clearCaches_8 (by decide) ?_
      refine lv_icmp_ge (tgt := 26) hx hb dX9_clearCaches_10 (by decide) (fun c_1 => ?_) (fun c_1 => ?_)
      · have hk : k = 8 := by have := (nI_leI (a := 8) (by decide) (by omega)).mp c_1; omega
        subst hk
        refine lv_iconst (v := 0) hx hb dX9_clearCaches_26 (by decide) ?_
        refine ri (y := nI 0) (nI_0.symm) ?_
        refine lv_istore_n (lv' := [(1, .int (nI 0)), (0, .ref mm)]) hx hb dX9_clearCaches_27 rfl hl (by decide) rfl (fun ls hl => ?_)
        have l2 : ∀ (k9 : Nat) (g5_l2 : Nat → Value) (k : Nat) (fs7 : Nat → Int64) (H : Heap) (locs : List Loc) (ls : Array Slot), 1024 - k < k9 → (frm [11] g g5_l2) → (g5_l2 11 = .int (nI 0)) → (k ≤ 1024) → (∀ j, j < k → fs7 j = lN 0) → va_P D vwCl [(mm, .inr (9, fl 78 g5_l2)), (Mnears, .inl (cJ, 8, .inr (.inl fn7))), (Msames, .inl (cJ, 1024, .inr (.inl fs7)))] H → va_D A0 [(mm, .inr (9, fl 78 g5_l2)), (Mnears, .inl (cJ, 8, .inr (.inl fn7))), (Msames, .inl (cJ, 1024, .inr (.inl fs7)))] → va_S A0 s0.heap H locs → lv_has ls 2 [(0, .ref mm), (1, .int (nI k))] → W p0 l e0 ({ frames := 0, cells := 0, slots := 0, locals := 0 }) s0 m0 ([.ref mm] : List Value).toArray below meth c0 H locs 0 0 Q0 (F0 m0 28 ls []) := by
          intro k9
          induction k9 with
          | zero => intro g5_l2 k fs7 H locs ls hk9; exact absurd hk9 (Nat.not_lt_zero _)
          | succ k9 ih =>
            intro g5_l2 k fs7 H locs ls hk9 hf_l2 k_nextNear_l2 hk9 hs7 hP hD hS hl
            refine lv_iload_n hx hb dX9_clearCaches_28 rfl (lv_at hl 1 rfl) ?_
            refine lv_sipush (v := 1024) hx hb dX9_clearCaches_29 (by decide) ?_
            refine lv_icmp_ge (tgt := 48) hx hb dX9_clearCaches_32 (by decide) (fun c_2 => ?_) (fun c_2 => ?_)
            · have hk : k = 1024 := by have := (nI_leI (a := 1024) (by decide) (by omega)).mp c_2; omega
              subst hk
              exact hret 48 ls _ _ (g5_l2, fn7, fs7) dX9_clearCaches_48 hP hD hS (⟨hf_l2, k_nextNear_l2, ⟨hn7, hs7⟩⟩)
            · have hk : k < 1024 := Nat.not_le.mp (fun q => c_2 (nI_le (a := 1024) q (by omega)))
              refine lv_aload_n hx hb dX9_clearCaches_35 rfl (lv_at hl 0 rfl) ?_
              refine fx_get (D := D) (ci := 9) (v := .ref Msames) (C := RX9) (T := TX9) (N := 78) hx hb hts in_X9 hown hK hP 0 rfl rfl 12 (by decide) (hts _ kX9_37) (fun _ h9 => h9) ((hf_l2 12 (by decide)).trans g_sames) dX9_clearCaches_36 ?_
              refine lv_iload_n hx hb dX9_clearCaches_39 rfl (lv_at hl 1 rfl) ?_
              refine lv_lconst (v := 0) hx hb dX9_clearCaches_40 (by decide) ?_
              refine ax_lst hx hb hK hP hD hS 2 2 rfl rfl k (rfl) (by omega) (by omega) dX9_clearCaches_41 (fun H locs hP hD hS => ?_)
              have hP : va_P D vwCl [(mm, .inr (9, fl 78 g5_l2)), (Mnears, .inl (cJ, 8, .inr (.inl fn7))), (Msames, .inl (cJ, 1024, .inr (.inl (vp_updL fs7 k 0))))] H := hP
              have hD : va_D A0 [(mm, .inr (9, fl 78 g5_l2)), (Mnears, .inl (cJ, 8, .inr (.inl fn7))), (Msames, .inl (cJ, 1024, .inr (.inl (vp_updL fs7 k 0))))] := hD
              refine lv_iinc (v := nI (k + 1)) (lv' := [(1, .int (nI (k + 1))), (0, .ref mm)]) hx hb dX9_clearCaches_42 hl (k := 1) rfl (nI_add k 1) (by decide) rfl (fun ls hl => ?_)
              refine lv_goto (tgt := 28) hx hb dX9_clearCaches_45 (by decide) ?_
              exact ih g5_l2 (k + 1) (vp_updL fs7 k 0) _ _ ls (by omega) (hf_l2) (k_nextNear_l2) (by omega) (fun j hj => by by_cases q : j = k; subst q; exact pk_uLs; exact (pk_uLn q).trans (hs7 j (by omega))) hP hD hS (lv_sub hl [1, 0] rfl)
        exact l2 _ g5_l1 0 msames _ _ ls (Nat.lt_succ_self _) (hf_l1) (k_nextNear_l1) (Nat.zero_le _) (fun j hj => absurd hj (Nat.not_lt_zero j)) hP hD hS (lv_sub hl [1, 0] rfl)
      · have hk : k < 8 := Nat.not_le.mp (fun q => c_1 (nI_le (a := 8) q (by omega)))
        refine lv_aload_n hx hb dX9_clearCaches_13 rfl (lv_at hl 0 rfl) ?_
        refine fx_get (D := D) (ci := 9) (v := .ref Mnears) (C := RX9) (T := TX9) (N := 78) hx hb hts in_X9 hown hK hP 0 rfl rfl 10 (by decide) (hts _ kX9_33) (fun _ h9 => h9) ((hf_l1 10 (by decide)).trans g_nears) dX9_clearCaches_14 ?_
        refine lv_iload_n hx hb dX9_clearCaches_17 rfl (lv_at hl 1 rfl) ?_
        refine lv_lconst (v := 0) hx hb dX9_clearCaches_18 (by decide) ?_
        refine ax_lst hx hb hK hP hD hS 1 2 rfl rfl k (rfl) (by omega) (by omega) dX9_clearCaches_19 (fun H locs hP hD hS => ?_)
        have hP : va_P D vwCl [(mm, .inr (9, fl 78 g5_l1)), (Mnears, .inl (cJ, 8, .inr (.inl (vp_updL fn7 k 0)))), (Msames, .inl (cJ, 1024, .inr (.inl msames)))] H := hP
        have hD : va_D A0 [(mm, .inr (9, fl 78 g5_l1)), (Mnears, .inl (cJ, 8, .inr (.inl (vp_updL fn7 k 0)))), (Msames, .inl (cJ, 1024, .inr (.inl msames)))] := hD
        refine lv_iinc (v := nI (k + 1)) (lv' := [(1, .int (nI (k + 1))), (0, .ref mm)]) hx hb dX9_clearCaches_20 hl (k := 1) rfl (nI_add k 1) (by decide) rfl (fun ls hl => ?_)
        refine lv_goto (tgt := 7) hx hb dX9_clearCaches_23 (by decide) ?_
        exact ih g5_l1 (k + 1) (vp_updL fn7 k 0) _ _ ls (by omega) (hf_l1) (k_nextNear_l1) (by omega) (fun j hj => by by_cases q : j = k; subst q; exact pk_uLs; exact (pk_uLn q).trans (hn7 j (by omega))) hP hD hS (lv_sub hl [1, 0] rfl)
  exact l1 _ (va_up g 11 (.int (nI 0))) 0 mnears _ _ ls (Nat.lt_succ_self _) ((frm_up frm_refl (by decide))) (rfl) (Nat.zero_le _) (fun j hj => absurd hj (Nat.not_lt_zero j)) hP hD hS (lv_sub hl [1, 0] rfl)

set_option maxHeartbeats 4000000 in
set_option maxRecDepth 100000 in
theorem m_remember (l : Launch) (D : va_G) (cI cB cJ cR : ClassId) (mm : Nat) (g : Nat → Value) (Mnears : Nat) (Msames : Nat) (mnears : Nat → Int64) (msames : Nat → Int64) (near : Nat) (same : Nat) (nx : Nat) (a : Nat) (cN : Nat → Nat) (cS : Nat → Nat) (g_near : g 8 = .int (nI near)) (g_same : g 9 = .int (nI same)) (g_nextNear : g 11 = .int (nI nx)) (g_nears : g 10 = .ref Mnears) (g_sames : g 12 = .ref Msames) (h8 : near ≤ 8) (h4 : same ≤ 4) (hnx : nx < 8 ∧ (0 < near → nx < near)) (ha : a < 2 ^ 30) (hc : chR mnears msames cN cS) : CMv l yX9_remember cX9_remember 3 none ({ frames := 0, cells := 0, slots := 0, locals := 0 }) D (tyA cI cB cJ cR) 0 0 [.ref mm, .long (lN a)] [(mm, .inr (9, fl 78 g)), (Mnears, .inl (cJ, 8, .inr (.inl mnears))), (Msames, .inl (cJ, 1024, .inr (.inl msames)))] (fun (u9 : (Nat → Value) × (Nat → Int64) × (Nat → Int64)) => match u9 with | (g9, fn2, fs2) => frm [11] g g9 ∧ g9 11 = .int (nI (kpX near nx)) ∧ chR fn2 fs2 (kpN near nx a cN) (kpS same a cS)) (fun (u9 : (Nat → Value) × (Nat → Int64) × (Nat → Int64)) => match u9 with | (g9, fn2, fs2) => [(mm, .inr (9, fl 78 g9)), (Mnears, .inl (cJ, 8, .inr (.inl fn2))), (Msames, .inl (cJ, 1024, .inr (.inl fs2)))]) := by
  refine st_v (cc := cX9_remember) (maxL := 3) (by decide) (Nat.le_of_ble_eq_true rfl) ?_
  intro p0 e0 s0 m0 below meth c0 A0 Q0 hBD hret hP hD hS ls hl
  obtain ⟨hx, hb, hml, hown, hts, hnm, hK, hNw, hMk, hA⟩ := hBD
  have hl : lv_has ls 3 [(0, .ref mm), (1, .long (lN a))] := hl
  have hP : va_P D vwCl [(mm, .inr (9, fl 78 g)), (Mnears, .inl (cJ, 8, .inr (.inl mnears))), (Msames, .inl (cJ, 1024, .inr (.inl msames)))] s0.heap := hP
  have hD : va_D A0 [(mm, .inr (9, fl 78 g)), (Mnears, .inl (cJ, 8, .inr (.inl mnears))), (Msames, .inl (cJ, 1024, .inr (.inl msames)))] := hD
  refine lv_aload_n hx hb dX9_remember_0 rfl (lv_at hl 0 rfl) ?_
  refine fx_get (D := D) (ci := 9) (v := .int (nI near)) (C := RX9) (T := TX9) (N := 78) hx hb hts in_X9 hown hK hP 0 rfl rfl 8 (by decide) (hts _ kX9_164) (fun _ h9 => h9) (g_near) dX9_remember_1 ?_
  refine lv_if_le (tgt := 32) hx hb dX9_remember_4 (by decide) (fun c_1 => ?_) (fun c_1 => ?_)
  · have hn0 : ¬ 0 < near := fun z => nI_nle z (by omega) c_1
    have hkx : kpX near nx = nx := by rw [kpX, if_neg hn0]
    have kx_2 : g 11 = .int (nI (kpX near nx)) := by have h9 : g 11 = .int (nI nx) := g_nextNear; rw [h9]; exact congrArg Value.int (by rw [hkx])
    refine lv_aload_n hx hb dX9_remember_32 rfl (lv_at hl 0 rfl) ?_
    refine fx_get (D := D) (ci := 9) (v := .int (nI same)) (C := RX9) (T := TX9) (N := 78) hx hb hts in_X9 hown hK hP 0 rfl rfl 9 (by decide) (hts _ kX9_167) (fun _ h9 => h9) (g_same) dX9_remember_33 ?_
    refine lv_if_le (tgt := 57) hx hb dX9_remember_36 (by decide) (fun c_3 => ?_) (fun c_3 => ?_)
    · have hs0 : ¬ 0 < same := fun z => nI_nle z (by omega) c_3
      exact hret 57 ls _ _ (g, mnears, msames) dX9_remember_57 hP hD hS (⟨frm_refl, kx_2, ⟨by rw [kpN, if_neg hn0]; exact hc.1, by rw [kpS, if_neg hs0]; exact hc.2⟩⟩)
    · have hs0 : 0 < same := Nat.pos_of_ne_zero (fun z => c_3 (by rw [z]; decide))
      have hmd : a % (256 * same) < 256 * same := Nat.mod_lt _ (by omega)
      refine lv_aload_n hx hb dX9_remember_39 rfl (lv_at hl 0 rfl) ?_
      refine fx_get (D := D) (ci := 9) (v := .ref Msames) (C := RX9) (T := TX9) (N := 78) hx hb hts in_X9 hown hK hP 0 rfl rfl 12 (by decide) (hts _ kX9_37) (fun _ h9 => h9) (g_sames) dX9_remember_40 ?_
      refine lv_lload_n hx hb dX9_remember_43 rfl (lv_at hl 1 rfl) ?_
      refine lv_sipush (v := 256) hx hb dX9_remember_44 (by decide) ?_
      refine lv_aload_n hx hb dX9_remember_47 rfl (lv_at hl 0 rfl) ?_
      refine fx_get (D := D) (ci := 9) (v := .int (nI same)) (C := RX9) (T := TX9) (N := 78) hx hb hts in_X9 hown hK hP 0 rfl rfl 9 (by decide) (hts _ kX9_167) (fun _ h9 => h9) (g_same) dX9_remember_48 ?_
      refine lv_imul hx hb dX9_remember_51 ?_
      refine ri (y := nI (256 * same)) (pk_mul 256 same) ?_
      refine lv_i2l hx hb dX9_remember_52 (v := (nI (256 * same)).toInt64) rfl ?_
      refine rl (y := lN (256 * same)) (nI_l (by omega)) ?_
      refine lv_lrem hx hb dX9_remember_53 (fun z => by have h9 := (pk_lEQ (a := 256 * same) (b := 0) (by omega) (by decide)).mp z; omega) ?_
      refine rl (y := lN (a % (256 * same))) (pk_lRem (by omega) (by omega) (by omega)) ?_
      refine lv_l2i hx hb dX9_remember_54 (v := (lN (a % (256 * same))).toInt32) rfl ?_
      refine ri (y := nI (a % (256 * same))) (lN_i _) ?_
      refine lv_lload_n hx hb dX9_remember_55 rfl (lv_at hl 1 rfl) ?_
      refine ax_lst hx hb hK hP hD hS 2 2 rfl rfl (a % (256 * same)) (rfl) (by omega) (by omega) dX9_remember_56 (fun H locs hP hD hS => ?_)
      have hP : va_P D vwCl [(mm, .inr (9, fl 78 g)), (Mnears, .inl (cJ, 8, .inr (.inl mnears))), (Msames, .inl (cJ, 1024, .inr (.inl (vp_updL msames (a % (256 * same)) (lN a)))))] H := hP
      have hD : va_D A0 [(mm, .inr (9, fl 78 g)), (Mnears, .inl (cJ, 8, .inr (.inl mnears))), (Msames, .inl (cJ, 1024, .inr (.inl (vp_updL msames (a % (256 * same)) (lN a)))))] := hD
      exact hret 57 ls _ _ (g, mnears, vp_updL msames (a % (256 * same)) (lN a)) dX9_remember_57 hP hD hS (⟨frm_refl, kx_2, ⟨by rw [kpN, if_neg hn0]; exact hc.1, fun j hj => by rw [kpS, if_pos hs0]; by_cases q : j = a % (256 * same); rw [q, pk_uLs, va_up_self]; rw [pk_uLn q, va_up_ne _ _ q]; exact hc.2 j hj⟩⟩)
  · have hn0 : 0 < near := Nat.pos_of_ne_zero (fun z => c_1 (by rw [z]; decide))
    have hxn := hnx.2 hn0
    refine lv_aload_n hx hb dX9_remember_7 rfl (lv_at hl 0 rfl) ?_
    refine fx_get (D := D) (ci := 9) (v := .ref Mnears) (C := RX9) (T := TX9) (N := 78) hx hb hts in_X9 hown hK hP 0 rfl rfl 10 (by decide) (hts _ kX9_33) (fun _ h9 => h9) (g_nears) dX9_remember_8 ?_
    refine lv_aload_n hx hb dX9_remember_11 rfl (lv_at hl 0 rfl) ?_
    refine fx_get (D := D) (ci := 9) (v := .int (nI nx)) (C := RX9) (T := TX9) (N := 78) hx hb hts in_X9 hown hK hP 0 rfl rfl 11 (by decide) (hts _ kX9_170) (fun _ h9 => h9) (g_nextNear) dX9_remember_12 ?_
    refine lv_lload_n hx hb dX9_remember_15 rfl (lv_at hl 1 rfl) ?_
    refine ax_lst hx hb hK hP hD hS 1 2 rfl rfl nx (rfl) (by omega) (by omega) dX9_remember_16 (fun H locs hP hD hS => ?_)
    have hP : va_P D vwCl [(mm, .inr (9, fl 78 g)), (Mnears, .inl (cJ, 8, .inr (.inl (vp_updL mnears nx (lN a))))), (Msames, .inl (cJ, 1024, .inr (.inl msames)))] H := hP
    have hD : va_D A0 [(mm, .inr (9, fl 78 g)), (Mnears, .inl (cJ, 8, .inr (.inl (vp_updL mnears nx (lN a))))), (Msames, .inl (cJ, 1024, .inr (.inl msames)))] := hD
    refine lv_aload_n hx hb dX9_remember_17 rfl (lv_at hl 0 rfl) ?_
    refine lv_aload_n hx hb dX9_remember_18 rfl (lv_at hl 0 rfl) ?_
    refine fx_get (D := D) (ci := 9) (v := .int (nI nx)) (C := RX9) (T := TX9) (N := 78) hx hb hts in_X9 hown hK hP 0 rfl rfl 11 (by decide) (hts _ kX9_170) (fun _ h9 => h9) (g_nextNear) dX9_remember_19 ?_
    refine lv_iconst (v := 1) hx hb dX9_remember_22 (by decide) ?_
    refine lv_iadd hx hb dX9_remember_23 ?_
    refine ri (y := nI (nx + 1)) (nI_add nx 1) ?_
    refine lv_aload_n hx hb dX9_remember_24 rfl (lv_at hl 0 rfl) ?_
    refine fx_get (D := D) (ci := 9) (v := .int (nI near)) (C := RX9) (T := TX9) (N := 78) hx hb hts in_X9 hown hK hP 0 rfl rfl 8 (by decide) (hts _ kX9_164) (fun _ h9 => h9) (g_near) dX9_remember_25 ?_
    refine lv_irem hx hb dX9_remember_28 (nI_ne0 hn0 (by omega)) ?_
    refine ri (y := nI (kpX near nx)) ((pk_rem (by omega) hn0 (by omega)).trans (by rw [kpX_mod hn0 hxn])) ?_
    refine fx_put (D := D) (ci := 9) (v := .int (nI (kpX near nx))) (ty := .int) (C := RX9) (T := TX9) (N := 78) hx hb hts in_X9 tyX9 tyX9_ok nmX9 hown hK hP hD hS 0 rfl rfl 11 (by decide) (hts _ kX9_170) (fun _ h9 => h9) rfl (by decide +kernel) rfl rfl dX9_remember_29 (fun H locs hP hD hS => ?_)
    have hP : va_P D vwCl [(mm, .inr (9, fl 78 (va_up g 11 (.int (nI (kpX near nx)))))), (Mnears, .inl (cJ, 8, .inr (.inl (vp_updL mnears nx (lN a))))), (Msames, .inl (cJ, 1024, .inr (.inl msames)))] H := hP
    have hD : va_D A0 [(mm, .inr (9, fl 78 (va_up g 11 (.int (nI (kpX near nx)))))), (Mnears, .inl (cJ, 8, .inr (.inl (vp_updL mnears nx (lN a))))), (Msames, .inl (cJ, 1024, .inr (.inl msames)))] := hD
    refine lv_aload_n hx hb dX9_remember_32 rfl (lv_at hl 0 rfl) ?_
    refine fx_get (D := D) (ci := 9) (v := .int (nI same)) (C := RX9) (T := TX9) (N := 78) hx hb hts in_X9 hown hK hP 0 rfl rfl 9 (by decide) (hts _ kX9_167) (fun _ h9 => h9) (g_same) dX9_remember_33 ?_
    refine lv_if_le (tgt := 57) hx hb dX9_remember_36 (by decide) (fun c_4 => ?_) (fun c_4 => ?_)
    · have hs0 : ¬ 0 < same := fun z => nI_nle z (by omega) c_4
      exact hret 57 ls _ _ ((va_up g 11 (.int (nI (kpX near nx)))), vp_updL mnears nx (lN a), msames) dX9_remember_57 hP hD hS (⟨(frm_up frm_refl (by decide)), rfl, ⟨fun j hj => by rw [kpN, if_pos hn0]; by_cases q : j = nx; rw [q, pk_uLs, va_up_self]; rw [pk_uLn q, va_up_ne _ _ q]; exact hc.1 j hj, by rw [kpS, if_neg hs0]; exact hc.2⟩⟩)
    · have hs0 : 0 < same := Nat.pos_of_ne_zero (fun z => c_4 (by rw [z]; decide))
      have hmd : a % (256 * same) < 256 * same := Nat.mod_lt _ (by omega)
      refine lv_aload_n hx hb dX9_remember_39 rfl (lv_at hl 0 rfl) ?_
      refine fx_get (D := D) (ci := 9) (v := .ref Msames) (C := RX9) (T := TX9) (N := 78) hx hb hts in_X9 hown hK hP 0 rfl rfl 12 (by decide) (hts _ kX9_37) (fun _ h9 => h9) (g_sames) dX9_remember_40 ?_
      refine lv_lload_n hx hb dX9_remember_43 rfl (lv_at hl 1 rfl) ?_
      refine lv_sipush (v := 256) hx hb dX9_remember_44 (by decide) ?_
      refine lv_aload_n hx hb dX9_remember_47 rfl (lv_at hl 0 rfl) ?_
      refine fx_get (D := D) (ci := 9) (v := .int (nI same)) (C := RX9) (T := TX9) (N := 78) hx hb hts in_X9 hown hK hP 0 rfl rfl 9 (by decide) (hts _ kX9_167) (fun _ h9 => h9) (g_same) dX9_remember_48 ?_
      refine lv_imul hx hb dX9_remember_51 ?_
      refine ri (y := nI (256 * same)) (pk_mul 256 same) ?_
      refine lv_i2l hx hb dX9_remember_52 (v := (nI (256 * same)).toInt64) rfl ?_
      refine rl (y := lN (256 * same)) (nI_l (by omega)) ?_
      refine lv_lrem hx hb dX9_remember_53 (fun z => by have h9 := (pk_lEQ (a := 256 * same) (b := 0) (by omega) (by decide)).mp z; omega) ?_
      refine rl (y := lN (a % (256 * same))) (pk_lRem (by omega) (by omega) (by omega)) ?_
      refine lv_l2i hx hb dX9_remember_54 (v := (lN (a % (256 * same))).toInt32) rfl ?_
      refine ri (y := nI (a % (256 * same))) (lN_i _) ?_
      refine lv_lload_n hx hb dX9_remember_55 rfl (lv_at hl 1 rfl) ?_
      refine ax_lst hx hb hK hP hD hS 2 2 rfl rfl (a % (256 * same)) (rfl) (by omega) (by omega) dX9_remember_56 (fun H locs hP hD hS => ?_)
      have hP : va_P D vwCl [(mm, .inr (9, fl 78 (va_up g 11 (.int (nI (kpX near nx)))))), (Mnears, .inl (cJ, 8, .inr (.inl (vp_updL mnears nx (lN a))))), (Msames, .inl (cJ, 1024, .inr (.inl (vp_updL msames (a % (256 * same)) (lN a)))))] H := hP
      have hD : va_D A0 [(mm, .inr (9, fl 78 (va_up g 11 (.int (nI (kpX near nx)))))), (Mnears, .inl (cJ, 8, .inr (.inl (vp_updL mnears nx (lN a))))), (Msames, .inl (cJ, 1024, .inr (.inl (vp_updL msames (a % (256 * same)) (lN a)))))] := hD
      exact hret 57 ls _ _ ((va_up g 11 (.int (nI (kpX near nx)))), vp_updL mnears nx (lN a), vp_updL msames (a % (256 * same)) (lN a)) dX9_remember_57 hP hD hS (⟨(frm_up frm_refl (by decide)), rfl, ⟨fun j hj => by rw [kpN, if_pos hn0]; by_cases q : j = nx; rw [q, pk_uLs, va_up_self]; rw [pk_uLn q, va_up_ne _ _ q]; exact hc.1 j hj, fun j hj => by rw [kpS, if_pos hs0]; by_cases q : j = a % (256 * same); rw [q, pk_uLs, va_up_self]; rw [pk_uLn q, va_up_ne _ _ q]; exact hc.2 j hj⟩⟩)

set_option maxHeartbeats 4000000 in
set_option maxRecDepth 100000 in
theorem m_list (l : Launch) (D : va_G) (cI cB cJ cR : ClassId) (mm : Nat) (g : Nat → Value) (MdKind : Nat) (MdSize : Nat) (MdAddress : Nat) (MdMode : Nat) (MdCode : Nat) (MdWindow : Nat) (mdKind : Nat → Int32) (mdSize : Nat → Int32) (mdAddress : Nat → Int32) (mdMode : Nat → Int32) (mdCode : Nat → Int32) (mdWindow : Nat → Int32) (cnt : Nat) (gg : Nat → Nat → Int32) (v0 : Int32) (v1 : Int32) (v2 : Int32) (v3 : Int32) (v4 : Int32) (v5 : Int32) (g_drafts : g 20 = .int (nI cnt)) (g_dKind : g 21 = .ref MdKind) (g_dSize : g 22 = .ref MdSize) (g_dAddress : g 23 = .ref MdAddress) (g_dMode : g 24 = .ref MdMode) (g_dCode : g 25 = .ref MdCode) (g_dWindow : g 26 = .ref MdWindow) (hcn : cnt < 2 ^ 29) (hd : dRel mdKind mdSize mdAddress mdMode mdCode mdWindow gg cnt) : CMv l yX9_list cX9_list 7 none ({ frames := 0, cells := 0, slots := 0, locals := 0 }) D (tyA cI cB cJ cR) 0 0 [.ref mm, .int v0, .int v1, .int v2, .int v3, .int v4, .int v5] [(mm, .inr (9, fl 78 g)), (MdKind, .inl (cI, 4000, .inl mdKind)), (MdSize, .inl (cI, 4000, .inl mdSize)), (MdAddress, .inl (cI, 4000, .inl mdAddress)), (MdMode, .inl (cI, 4000, .inl mdMode)), (MdCode, .inl (cI, 4000, .inl mdCode)), (MdWindow, .inl (cI, 4000, .inl mdWindow))] (fun (u9 : (Nat → Value) × (Nat → Int32) × (Nat → Int32) × (Nat → Int32) × (Nat → Int32) × (Nat → Int32) × (Nat → Int32)) => match u9 with | (g9, dKind2, dSize2, dAddress2, dMode2, dCode2, dWindow2) => frm [20] g g9 ∧ g9 20 = .int (nI (cnt + 1)) ∧ dRel dKind2 dSize2 dAddress2 dMode2 dCode2 dWindow2 (va_up gg cnt (st6 v0 v1 v2 v3 v4 v5)) (cnt + 1)) (fun (u9 : (Nat → Value) × (Nat → Int32) × (Nat → Int32) × (Nat → Int32) × (Nat → Int32) × (Nat → Int32) × (Nat → Int32)) => match u9 with | (g9, dKind2, dSize2, dAddress2, dMode2, dCode2, dWindow2) => [(mm, .inr (9, fl 78 g9)), (MdKind, .inl (cI, 4000, .inl dKind2)), (MdSize, .inl (cI, 4000, .inl dSize2)), (MdAddress, .inl (cI, 4000, .inl dAddress2)), (MdMode, .inl (cI, 4000, .inl dMode2)), (MdCode, .inl (cI, 4000, .inl dCode2)), (MdWindow, .inl (cI, 4000, .inl dWindow2))]) := by
  refine st_v (cc := cX9_list) (maxL := 7) (by decide) (Nat.le_of_ble_eq_true rfl) ?_
  intro p0 e0 s0 m0 below meth c0 A0 Q0 hBD hret hP hD hS ls hl
  obtain ⟨hx, hb, hml, hown, hts, hnm, hK, hNw, hMk, hA⟩ := hBD
  have hl : lv_has ls 7 [(0, .ref mm), (1, .int v0), (2, .int v1), (3, .int v2), (4, .int v3), (5, .int v4), (6, .int v5)] := hl
  have hP : va_P D vwCl [(mm, .inr (9, fl 78 g)), (MdKind, .inl (cI, 4000, .inl mdKind)), (MdSize, .inl (cI, 4000, .inl mdSize)), (MdAddress, .inl (cI, 4000, .inl mdAddress)), (MdMode, .inl (cI, 4000, .inl mdMode)), (MdCode, .inl (cI, 4000, .inl mdCode)), (MdWindow, .inl (cI, 4000, .inl mdWindow))] s0.heap := hP
  have hD : va_D A0 [(mm, .inr (9, fl 78 g)), (MdKind, .inl (cI, 4000, .inl mdKind)), (MdSize, .inl (cI, 4000, .inl mdSize)), (MdAddress, .inl (cI, 4000, .inl mdAddress)), (MdMode, .inl (cI, 4000, .inl mdMode)), (MdCode, .inl (cI, 4000, .inl mdCode)), (MdWindow, .inl (cI, 4000, .inl mdWindow))] := hD
  refine lv_aload_n hx hb dX9_list_0 rfl (lv_at hl 0 rfl) ?_
  refine fx_get (D := D) (ci := 9) (v := .int (nI cnt)) (C := RX9) (T := TX9) (N := 78) hx hb hts in_X9 hown hK hP 0 rfl rfl 20 (by decide) (hts _ kX9_173) (fun _ h9 => h9) (g_drafts) dX9_list_1 ?_
  refine lv_sipush (v := 4000) hx hb dX9_list_4 (by decide) ?_
  refine lv_icmp_ge (tgt := 73) hx hb dX9_list_7 (by decide) (fun c_1 => ?_) (fun c_1 => ?_)
  · have hk : 4000 ≤ cnt := (nI_leI (a := 4000) (by decide) (by omega)).mp c_1
    refine lv_aload_n hx hb dX9_list_73 rfl (lv_at hl 0 rfl) ?_
    refine lv_dup hx hb dX9_list_74 rfl ?_
    refine fx_get (D := D) (ci := 9) (v := .int (nI cnt)) (C := RX9) (T := TX9) (N := 78) hx hb hts in_X9 hown hK hP 0 rfl rfl 20 (by decide) (hts _ kX9_173) (fun _ h9 => h9) (g_drafts) dX9_list_75 ?_
    refine lv_iconst (v := 1) hx hb dX9_list_78 (by decide) ?_
    refine lv_iadd hx hb dX9_list_79 ?_
    refine ri (y := nI (cnt + 1)) (nI_add cnt 1) ?_
    refine fx_put (D := D) (ci := 9) (v := .int (nI (cnt + 1))) (ty := .int) (C := RX9) (T := TX9) (N := 78) hx hb hts in_X9 tyX9 tyX9_ok nmX9 hown hK hP hD hS 0 rfl rfl 20 (by decide) (hts _ kX9_173) (fun _ h9 => h9) rfl (by decide +kernel) rfl rfl dX9_list_80 (fun H locs hP hD hS => ?_)
    have hP : va_P D vwCl [(mm, .inr (9, fl 78 (va_up g 20 (.int (nI (cnt + 1)))))), (MdKind, .inl (cI, 4000, .inl mdKind)), (MdSize, .inl (cI, 4000, .inl mdSize)), (MdAddress, .inl (cI, 4000, .inl mdAddress)), (MdMode, .inl (cI, 4000, .inl mdMode)), (MdCode, .inl (cI, 4000, .inl mdCode)), (MdWindow, .inl (cI, 4000, .inl mdWindow))] H := hP
    have hD : va_D A0 [(mm, .inr (9, fl 78 (va_up g 20 (.int (nI (cnt + 1)))))), (MdKind, .inl (cI, 4000, .inl mdKind)), (MdSize, .inl (cI, 4000, .inl mdSize)), (MdAddress, .inl (cI, 4000, .inl mdAddress)), (MdMode, .inl (cI, 4000, .inl mdMode)), (MdCode, .inl (cI, 4000, .inl mdCode)), (MdWindow, .inl (cI, 4000, .inl mdWindow))] := hD
    exact hret 83 ls _ _ ((va_up g 20 (.int (nI (cnt + 1)))), mdKind, mdSize, mdAddress, mdMode, mdCode, mdWindow) dX9_list_83 hP hD hS (⟨(frm_up frm_refl (by decide)), rfl, dRel_skip hd hk⟩)
  · have hk : cnt < 4000 := Nat.not_le.mp (fun q => c_1 (nI_le (a := 4000) q (by omega)))
    refine lv_aload_n hx hb dX9_list_10 rfl (lv_at hl 0 rfl) ?_
    refine fx_get (D := D) (ci := 9) (v := .ref MdKind) (C := RX9) (T := TX9) (N := 78) hx hb hts in_X9 hown hK hP 0 rfl rfl 21 (by decide) (hts _ kX9_58) (fun _ h9 => h9) (g_dKind) dX9_list_11 ?_
    refine lv_aload_n hx hb dX9_list_14 rfl (lv_at hl 0 rfl) ?_
    refine fx_get (D := D) (ci := 9) (v := .int (nI cnt)) (C := RX9) (T := TX9) (N := 78) hx hb hts in_X9 hown hK hP 0 rfl rfl 20 (by decide) (hts _ kX9_173) (fun _ h9 => h9) (g_drafts) dX9_list_15 ?_
    refine lv_iload_n hx hb dX9_list_18 rfl (lv_at hl 1 rfl) ?_
    refine ax_ist hx hb hK hP hD hS 1 0 rfl rfl cnt (rfl) (hk) (by omega) dX9_list_19 (fun H locs hP hD hS => ?_)
    have hP : va_P D vwCl [(mm, .inr (9, fl 78 g)), (MdKind, .inl (cI, 4000, .inl (upd mdKind cnt v0))), (MdSize, .inl (cI, 4000, .inl mdSize)), (MdAddress, .inl (cI, 4000, .inl mdAddress)), (MdMode, .inl (cI, 4000, .inl mdMode)), (MdCode, .inl (cI, 4000, .inl mdCode)), (MdWindow, .inl (cI, 4000, .inl mdWindow))] H := hP
    have hD : va_D A0 [(mm, .inr (9, fl 78 g)), (MdKind, .inl (cI, 4000, .inl (upd mdKind cnt v0))), (MdSize, .inl (cI, 4000, .inl mdSize)), (MdAddress, .inl (cI, 4000, .inl mdAddress)), (MdMode, .inl (cI, 4000, .inl mdMode)), (MdCode, .inl (cI, 4000, .inl mdCode)), (MdWindow, .inl (cI, 4000, .inl mdWindow))] := hD
    refine lv_aload_n hx hb dX9_list_20 rfl (lv_at hl 0 rfl) ?_
    refine fx_get (D := D) (ci := 9) (v := .ref MdSize) (C := RX9) (T := TX9) (N := 78) hx hb hts in_X9 hown hK hP 0 rfl rfl 22 (by decide) (hts _ kX9_61) (fun _ h9 => h9) (g_dSize) dX9_list_21 ?_
    refine lv_aload_n hx hb dX9_list_24 rfl (lv_at hl 0 rfl) ?_
    refine fx_get (D := D) (ci := 9) (v := .int (nI cnt)) (C := RX9) (T := TX9) (N := 78) hx hb hts in_X9 hown hK hP 0 rfl rfl 20 (by decide) (hts _ kX9_173) (fun _ h9 => h9) (g_drafts) dX9_list_25 ?_
    refine lv_iload_n hx hb dX9_list_28 rfl (lv_at hl 2 rfl) ?_
    refine ax_ist hx hb hK hP hD hS 2 0 rfl rfl cnt (rfl) (hk) (by omega) dX9_list_29 (fun H locs hP hD hS => ?_)
    have hP : va_P D vwCl [(mm, .inr (9, fl 78 g)), (MdKind, .inl (cI, 4000, .inl (upd mdKind cnt v0))), (MdSize, .inl (cI, 4000, .inl (upd mdSize cnt v1))), (MdAddress, .inl (cI, 4000, .inl mdAddress)), (MdMode, .inl (cI, 4000, .inl mdMode)), (MdCode, .inl (cI, 4000, .inl mdCode)), (MdWindow, .inl (cI, 4000, .inl mdWindow))] H := hP
    have hD : va_D A0 [(mm, .inr (9, fl 78 g)), (MdKind, .inl (cI, 4000, .inl (upd mdKind cnt v0))), (MdSize, .inl (cI, 4000, .inl (upd mdSize cnt v1))), (MdAddress, .inl (cI, 4000, .inl mdAddress)), (MdMode, .inl (cI, 4000, .inl mdMode)), (MdCode, .inl (cI, 4000, .inl mdCode)), (MdWindow, .inl (cI, 4000, .inl mdWindow))] := hD
    refine lv_aload_n hx hb dX9_list_30 rfl (lv_at hl 0 rfl) ?_
    refine fx_get (D := D) (ci := 9) (v := .ref MdAddress) (C := RX9) (T := TX9) (N := 78) hx hb hts in_X9 hown hK hP 0 rfl rfl 23 (by decide) (hts _ kX9_64) (fun _ h9 => h9) (g_dAddress) dX9_list_31 ?_
    refine lv_aload_n hx hb dX9_list_34 rfl (lv_at hl 0 rfl) ?_
    refine fx_get (D := D) (ci := 9) (v := .int (nI cnt)) (C := RX9) (T := TX9) (N := 78) hx hb hts in_X9 hown hK hP 0 rfl rfl 20 (by decide) (hts _ kX9_173) (fun _ h9 => h9) (g_drafts) dX9_list_35 ?_
    refine lv_iload_n hx hb dX9_list_38 rfl (lv_at hl 3 rfl) ?_
    refine ax_ist hx hb hK hP hD hS 3 0 rfl rfl cnt (rfl) (hk) (by omega) dX9_list_39 (fun H locs hP hD hS => ?_)
    have hP : va_P D vwCl [(mm, .inr (9, fl 78 g)), (MdKind, .inl (cI, 4000, .inl (upd mdKind cnt v0))), (MdSize, .inl (cI, 4000, .inl (upd mdSize cnt v1))), (MdAddress, .inl (cI, 4000, .inl (upd mdAddress cnt v2))), (MdMode, .inl (cI, 4000, .inl mdMode)), (MdCode, .inl (cI, 4000, .inl mdCode)), (MdWindow, .inl (cI, 4000, .inl mdWindow))] H := hP
    have hD : va_D A0 [(mm, .inr (9, fl 78 g)), (MdKind, .inl (cI, 4000, .inl (upd mdKind cnt v0))), (MdSize, .inl (cI, 4000, .inl (upd mdSize cnt v1))), (MdAddress, .inl (cI, 4000, .inl (upd mdAddress cnt v2))), (MdMode, .inl (cI, 4000, .inl mdMode)), (MdCode, .inl (cI, 4000, .inl mdCode)), (MdWindow, .inl (cI, 4000, .inl mdWindow))] := hD
    refine lv_aload_n hx hb dX9_list_40 rfl (lv_at hl 0 rfl) ?_
    refine fx_get (D := D) (ci := 9) (v := .ref MdMode) (C := RX9) (T := TX9) (N := 78) hx hb hts in_X9 hown hK hP 0 rfl rfl 24 (by decide) (hts _ kX9_67) (fun _ h9 => h9) (g_dMode) dX9_list_41 ?_
    refine lv_aload_n hx hb dX9_list_44 rfl (lv_at hl 0 rfl) ?_
    refine fx_get (D := D) (ci := 9) (v := .int (nI cnt)) (C := RX9) (T := TX9) (N := 78) hx hb hts in_X9 hown hK hP 0 rfl rfl 20 (by decide) (hts _ kX9_173) (fun _ h9 => h9) (g_drafts) dX9_list_45 ?_
    refine lv_iload hx hb dX9_list_48 (lv_at hl 4 rfl) ?_
    refine ax_ist hx hb hK hP hD hS 4 0 rfl rfl cnt (rfl) (hk) (by omega) dX9_list_50 (fun H locs hP hD hS => ?_)
    have hP : va_P D vwCl [(mm, .inr (9, fl 78 g)), (MdKind, .inl (cI, 4000, .inl (upd mdKind cnt v0))), (MdSize, .inl (cI, 4000, .inl (upd mdSize cnt v1))), (MdAddress, .inl (cI, 4000, .inl (upd mdAddress cnt v2))), (MdMode, .inl (cI, 4000, .inl (upd mdMode cnt v3))), (MdCode, .inl (cI, 4000, .inl mdCode)), (MdWindow, .inl (cI, 4000, .inl mdWindow))] H := hP
    have hD : va_D A0 [(mm, .inr (9, fl 78 g)), (MdKind, .inl (cI, 4000, .inl (upd mdKind cnt v0))), (MdSize, .inl (cI, 4000, .inl (upd mdSize cnt v1))), (MdAddress, .inl (cI, 4000, .inl (upd mdAddress cnt v2))), (MdMode, .inl (cI, 4000, .inl (upd mdMode cnt v3))), (MdCode, .inl (cI, 4000, .inl mdCode)), (MdWindow, .inl (cI, 4000, .inl mdWindow))] := hD
    refine lv_aload_n hx hb dX9_list_51 rfl (lv_at hl 0 rfl) ?_
    refine fx_get (D := D) (ci := 9) (v := .ref MdCode) (C := RX9) (T := TX9) (N := 78) hx hb hts in_X9 hown hK hP 0 rfl rfl 25 (by decide) (hts _ kX9_70) (fun _ h9 => h9) (g_dCode) dX9_list_52 ?_
    refine lv_aload_n hx hb dX9_list_55 rfl (lv_at hl 0 rfl) ?_
    refine fx_get (D := D) (ci := 9) (v := .int (nI cnt)) (C := RX9) (T := TX9) (N := 78) hx hb hts in_X9 hown hK hP 0 rfl rfl 20 (by decide) (hts _ kX9_173) (fun _ h9 => h9) (g_drafts) dX9_list_56 ?_
    refine lv_iload hx hb dX9_list_59 (lv_at hl 5 rfl) ?_
    refine ax_ist hx hb hK hP hD hS 5 0 rfl rfl cnt (rfl) (hk) (by omega) dX9_list_61 (fun H locs hP hD hS => ?_)
    have hP : va_P D vwCl [(mm, .inr (9, fl 78 g)), (MdKind, .inl (cI, 4000, .inl (upd mdKind cnt v0))), (MdSize, .inl (cI, 4000, .inl (upd mdSize cnt v1))), (MdAddress, .inl (cI, 4000, .inl (upd mdAddress cnt v2))), (MdMode, .inl (cI, 4000, .inl (upd mdMode cnt v3))), (MdCode, .inl (cI, 4000, .inl (upd mdCode cnt v4))), (MdWindow, .inl (cI, 4000, .inl mdWindow))] H := hP
    have hD : va_D A0 [(mm, .inr (9, fl 78 g)), (MdKind, .inl (cI, 4000, .inl (upd mdKind cnt v0))), (MdSize, .inl (cI, 4000, .inl (upd mdSize cnt v1))), (MdAddress, .inl (cI, 4000, .inl (upd mdAddress cnt v2))), (MdMode, .inl (cI, 4000, .inl (upd mdMode cnt v3))), (MdCode, .inl (cI, 4000, .inl (upd mdCode cnt v4))), (MdWindow, .inl (cI, 4000, .inl mdWindow))] := hD
    refine lv_aload_n hx hb dX9_list_62 rfl (lv_at hl 0 rfl) ?_
    refine fx_get (D := D) (ci := 9) (v := .ref MdWindow) (C := RX9) (T := TX9) (N := 78) hx hb hts in_X9 hown hK hP 0 rfl rfl 26 (by decide) (hts _ kX9_73) (fun _ h9 => h9) (g_dWindow) dX9_list_63 ?_
    refine lv_aload_n hx hb dX9_list_66 rfl (lv_at hl 0 rfl) ?_
    refine fx_get (D := D) (ci := 9) (v := .int (nI cnt)) (C := RX9) (T := TX9) (N := 78) hx hb hts in_X9 hown hK hP 0 rfl rfl 20 (by decide) (hts _ kX9_173) (fun _ h9 => h9) (g_drafts) dX9_list_67 ?_
    refine lv_iload hx hb dX9_list_70 (lv_at hl 6 rfl) ?_
    refine ax_ist hx hb hK hP hD hS 6 0 rfl rfl cnt (rfl) (hk) (by omega) dX9_list_72 (fun H locs hP hD hS => ?_)
    have hP : va_P D vwCl [(mm, .inr (9, fl 78 g)), (MdKind, .inl (cI, 4000, .inl (upd mdKind cnt v0))), (MdSize, .inl (cI, 4000, .inl (upd mdSize cnt v1))), (MdAddress, .inl (cI, 4000, .inl (upd mdAddress cnt v2))), (MdMode, .inl (cI, 4000, .inl (upd mdMode cnt v3))), (MdCode, .inl (cI, 4000, .inl (upd mdCode cnt v4))), (MdWindow, .inl (cI, 4000, .inl (upd mdWindow cnt v5)))] H := hP
    have hD : va_D A0 [(mm, .inr (9, fl 78 g)), (MdKind, .inl (cI, 4000, .inl (upd mdKind cnt v0))), (MdSize, .inl (cI, 4000, .inl (upd mdSize cnt v1))), (MdAddress, .inl (cI, 4000, .inl (upd mdAddress cnt v2))), (MdMode, .inl (cI, 4000, .inl (upd mdMode cnt v3))), (MdCode, .inl (cI, 4000, .inl (upd mdCode cnt v4))), (MdWindow, .inl (cI, 4000, .inl (upd mdWindow cnt v5)))] := hD
    refine lv_aload_n hx hb dX9_list_73 rfl (lv_at hl 0 rfl) ?_
    refine lv_dup hx hb dX9_list_74 rfl ?_
    refine fx_get (D := D) (ci := 9) (v := .int (nI cnt)) (C := RX9) (T := TX9) (N := 78) hx hb hts in_X9 hown hK hP 0 rfl rfl 20 (by decide) (hts _ kX9_173) (fun _ h9 => h9) (g_drafts) dX9_list_75 ?_
    refine lv_iconst (v := 1) hx hb dX9_list_78 (by decide) ?_
    refine lv_iadd hx hb dX9_list_79 ?_
    refine ri (y := nI (cnt + 1)) (nI_add cnt 1) ?_
    refine fx_put (D := D) (ci := 9) (v := .int (nI (cnt + 1))) (ty := .int) (C := RX9) (T := TX9) (N := 78) hx hb hts in_X9 tyX9 tyX9_ok nmX9 hown hK hP hD hS 0 rfl rfl 20 (by decide) (hts _ kX9_173) (fun _ h9 => h9) rfl (by decide +kernel) rfl rfl dX9_list_80 (fun H locs hP hD hS => ?_)
    have hP : va_P D vwCl [(mm, .inr (9, fl 78 (va_up g 20 (.int (nI (cnt + 1)))))), (MdKind, .inl (cI, 4000, .inl (upd mdKind cnt v0))), (MdSize, .inl (cI, 4000, .inl (upd mdSize cnt v1))), (MdAddress, .inl (cI, 4000, .inl (upd mdAddress cnt v2))), (MdMode, .inl (cI, 4000, .inl (upd mdMode cnt v3))), (MdCode, .inl (cI, 4000, .inl (upd mdCode cnt v4))), (MdWindow, .inl (cI, 4000, .inl (upd mdWindow cnt v5)))] H := hP
    have hD : va_D A0 [(mm, .inr (9, fl 78 (va_up g 20 (.int (nI (cnt + 1)))))), (MdKind, .inl (cI, 4000, .inl (upd mdKind cnt v0))), (MdSize, .inl (cI, 4000, .inl (upd mdSize cnt v1))), (MdAddress, .inl (cI, 4000, .inl (upd mdAddress cnt v2))), (MdMode, .inl (cI, 4000, .inl (upd mdMode cnt v3))), (MdCode, .inl (cI, 4000, .inl (upd mdCode cnt v4))), (MdWindow, .inl (cI, 4000, .inl (upd mdWindow cnt v5)))] := hD
    exact hret 83 ls _ _ ((va_up g 20 (.int (nI (cnt + 1)))), upd mdKind cnt v0, upd mdSize cnt v1, upd mdAddress cnt v2, upd mdMode cnt v3, upd mdCode cnt v4, upd mdWindow cnt v5) dX9_list_83 hP hD hS (⟨(frm_up frm_refl (by decide)), rfl, dRel_put hd⟩)

set_option maxHeartbeats 4000000 in
set_option maxRecDepth 100000 in
theorem m_copyOne (l : Launch) (D : va_G) (cI cB cJ cR : ClassId) (mm : Nat) (g : Nat → Value) (Mout : Nat) (MoutFrom : Nat) (Msource : Nat) (MsourceFrom : Nat) (mout : Nat → Int32) (moutFrom : Nat → Int32) (msource : Nat → Int32) (msourceFrom : Nat → Int32) (zz : Nat) (ff : Nat) (ww : Nat) (kk : Nat) (n : Nat) (x : Nat) (sn : Nat) (B : Nat → Nat) (G : Nat → Int32) (sB : Nat → Nat) (sG : Nat → Int32) (g_segmentSize : g 41 = .int (nI zz)) (g_segmentAt : g 42 = .int (nI ff)) (g_begun : g 43 = .int (nI ww)) (g_segment : g 40 = .int (nI kk)) (g_outSize : g 32 = .int (nI n)) (g_out : g 30 = .ref Mout) (g_outFrom : g 31 = .ref MoutFrom) (g_source : g 27 = .ref Msource) (g_sourceFrom : g 28 = .ref MsourceFrom) (ho : outR mout moutFrom (B, G, n)) (hsr : bys msource sB sn) (hsf : ∀ i, i < sn → msourceFrom i = sG i) (hsn : sn ≤ 4000) (hk1 : kk = 1 → ff + zz ≤ sn) (hk2 : ¬ kk = 1 → ff + zz ≤ n) (hww : ww ≤ n) (hx9 : x < zz + n - ww) (hn4 : n < 4000) (hzz : zz < 2 ^ 24 ∧ ff < 2 ^ 24) (hk3 : kk < 256) : CMv l yX9_copyOne cX9_copyOne 5 none ({ frames := 0, cells := 0, slots := 0, locals := 0 }) D (tyA cI cB cJ cR) 0 0 [.ref mm, .int (nI x)] [(mm, .inr (9, fl 78 g)), (Mout, .inl (cB, 4000, .inl mout)), (MoutFrom, .inl (cI, 4000, .inl moutFrom)), (Msource, .inl (cB, 4000, .inl msource)), (MsourceFrom, .inl (cI, 4000, .inl msourceFrom))] (fun (u9 : (Nat → Value) × (Nat → Int32) × (Nat → Int32)) => match u9 with | (g9, o2, of2) => frm [32] g g9 ∧ g9 32 = .int (nI (n + 1)) ∧ outR o2 of2 (cpx kk zz ff ww sB sG x (B, G, n))) (fun (u9 : (Nat → Value) × (Nat → Int32) × (Nat → Int32)) => match u9 with | (g9, o2, of2) => [(mm, .inr (9, fl 78 g9)), (Mout, .inl (cB, 4000, .inl o2)), (MoutFrom, .inl (cI, 4000, .inl of2)), (Msource, .inl (cB, 4000, .inl msource)), (MsourceFrom, .inl (cI, 4000, .inl msourceFrom))]) := by
  refine st_v (cc := cX9_copyOne) (maxL := 5) (by decide) (Nat.le_of_ble_eq_true rfl) ?_
  intro p0 e0 s0 m0 below meth c0 A0 Q0 hBD hret hP hD hS ls hl
  obtain ⟨hx, hb, hml, hown, hts, hnm, hK, hNw, hMk, hA⟩ := hBD
  have hl : lv_has ls 5 [(0, .ref mm), (1, .int (nI x))] := hl
  have hP : va_P D vwCl [(mm, .inr (9, fl 78 g)), (Mout, .inl (cB, 4000, .inl mout)), (MoutFrom, .inl (cI, 4000, .inl moutFrom)), (Msource, .inl (cB, 4000, .inl msource)), (MsourceFrom, .inl (cI, 4000, .inl msourceFrom))] s0.heap := hP
  have hD : va_D A0 [(mm, .inr (9, fl 78 g)), (Mout, .inl (cB, 4000, .inl mout)), (MoutFrom, .inl (cI, 4000, .inl moutFrom)), (Msource, .inl (cB, 4000, .inl msource)), (MsourceFrom, .inl (cI, 4000, .inl msourceFrom))] := hD
  refine lv_iload_n hx hb dX9_copyOne_0 rfl (lv_at hl 1 rfl) ?_
  refine lv_aload_n hx hb dX9_copyOne_1 rfl (lv_at hl 0 rfl) ?_
  refine fx_get (D := D) (ci := 9) (v := .int (nI zz)) (C := RX9) (T := TX9) (N := 78) hx hb hts in_X9 hown hK hP 0 rfl rfl 41 (by decide) (hts _ kX9_249) (fun _ h9 => h9) (g_segmentSize) dX9_copyOne_2 ?_
  refine lv_icmp_ge (tgt := 12) hx hb dX9_copyOne_5 (by decide) (fun c_1 => ?_) (fun c_1 => ?_)
  · have hb9 : ¬ x < zz := Nat.not_lt.mpr ((nI_leI (by omega) (by omega)).mp c_1)
    refine lv_iconst (v := 0) hx hb dX9_copyOne_12 (by decide) ?_
    refine lv_istore_n (lv' := [(2, .int 0), (0, .ref mm), (1, .int (nI x))]) hx hb dX9_copyOne_13 rfl hl (by decide) rfl (fun ls hl => ?_)
    refine lv_iload_n hx hb dX9_copyOne_14 rfl (lv_at hl 0 rfl) ?_
    refine lv_if_eq (tgt := 27) hx hb dX9_copyOne_15 (by decide) (fun c_2 => ?_) (fun c_2 => absurd (by decide) c_2)
    refine lv_aload_n hx hb dX9_copyOne_27 rfl (lv_at hl 1 rfl) ?_
    refine fx_get (D := D) (ci := 9) (v := .int (nI ww)) (C := RX9) (T := TX9) (N := 78) hx hb hts in_X9 hown hK hP 0 rfl rfl 43 (by decide) (hts _ kX9_257) (fun _ h9 => h9) (g_begun) dX9_copyOne_28 ?_
    refine lv_iload_n hx hb dX9_copyOne_31 rfl (lv_at hl 2 rfl) ?_
    refine lv_iadd hx hb dX9_copyOne_32 ?_
    refine ri (y := nI (ww + x)) (nI_add ww x) ?_
    refine lv_aload_n hx hb dX9_copyOne_33 rfl (lv_at hl 1 rfl) ?_
    refine fx_get (D := D) (ci := 9) (v := .int (nI zz)) (C := RX9) (T := TX9) (N := 78) hx hb hts in_X9 hown hK hP 0 rfl rfl 41 (by decide) (hts _ kX9_249) (fun _ h9 => h9) (g_segmentSize) dX9_copyOne_34 ?_
    refine lv_isub hx hb dX9_copyOne_37 ?_
    refine ri (y := nI (ww + x - zz)) (pk_sub (by omega)) ?_
    refine lv_istore_n (lv' := [(3, .int (nI (ww + x - zz))), (2, .int 0), (0, .ref mm), (1, .int (nI x))]) hx hb dX9_copyOne_38 rfl hl (by decide) rfl (fun ls hl => ?_)
    refine lv_iload_n hx hb dX9_copyOne_39 rfl (lv_at hl 1 rfl) ?_
    refine lv_if_eq (tgt := 55) hx hb dX9_copyOne_40 (by decide) (fun c_3 => ?_) (fun c_3 => absurd (by decide) c_3)
    refine lv_iconst (v := 0) hx hb dX9_copyOne_55 (by decide) ?_
    refine lv_istore (lv' := [(4, .int 0), (3, .int (nI (ww + x - zz))), (2, .int 0), (0, .ref mm), (1, .int (nI x))]) hx hb dX9_copyOne_56 hl (by decide) rfl (fun ls hl => ?_)
    have hi9 : ww + x - zz < 4000 := by omega
    obtain ⟨q1, hv8, q3⟩ := ho (ww + x - zz) (show ww + x - zz < n by omega)
    obtain ⟨v9, hv_⟩ : ∃ v, v = B (ww + x - zz) := ⟨_, rfl⟩
    obtain ⟨o9, ho_⟩ : ∃ v, v = G (ww + x - zz) := ⟨_, rfl⟩
    have hv9 : mout (ww + x - zz) = s8 v9 := by rw [hv_]; exact q1
    have ho9 : moutFrom (ww + x - zz) = o9 := by rw [ho_]; exact q3
    have hv8 : v9 < 256 := by rw [hv_]; exact hv8
    have hcp : cpx kk zz ff ww sB sG x (B, G, n) = pushM (B, G, n) v9 o9 := by rw [cpx, if_neg (fun q => hb9 q.1), if_neg hb9, hv_, ho_]
    refine lv_aload_n hx hb dX9_copyOne_58 rfl (lv_at hl 3 rfl) ?_
    refine fx_get (D := D) (ci := 9) (v := .ref Mout) (C := RX9) (T := TX9) (N := 78) hx hb hts in_X9 hown hK hP 0 rfl rfl 30 (by decide) (hts _ kX9_82) (fun _ h9 => h9) (g_out) dX9_copyOne_59 ?_
    refine lv_aload_n hx hb dX9_copyOne_62 rfl (lv_at hl 3 rfl) ?_
    refine fx_get (D := D) (ci := 9) (v := .int (nI n)) (C := RX9) (T := TX9) (N := 78) hx hb hts in_X9 hown hK hP 0 rfl rfl 32 (by decide) (hts _ kX9_221) (fun _ h9 => h9) (g_outSize) dX9_copyOne_63 ?_
    refine lv_iload hx hb dX9_copyOne_66 (lv_at hl 0 rfl) ?_
    refine lv_if_eq (tgt := 80) hx hb dX9_copyOne_68 (by decide) (fun c_4 => ?_) (fun c_4 => absurd (by decide) c_4)
    refine lv_aload_n hx hb dX9_copyOne_80 rfl (lv_at hl 3 rfl) ?_
    refine fx_get (D := D) (ci := 9) (v := .ref Mout) (C := RX9) (T := TX9) (N := 78) hx hb hts in_X9 hown hK hP 0 rfl rfl 30 (by decide) (hts _ kX9_82) (fun _ h9 => h9) (g_out) dX9_copyOne_81 ?_
    refine lv_iload_n hx hb dX9_copyOne_84 rfl (lv_at hl 1 rfl) ?_
    refine ax_bld hx hb hK hP 1 1 rfl rfl (ww + x - zz) (rfl) (hi9) (by omega) dX9_copyOne_85 ?_
    refine ri (y := s8 v9) (hv9) ?_
    refine ax_bst hx hb hK hP hD hS 1 1 rfl rfl n (rfl) (hn4) (by omega) (z := s8 v9) (s8_re _ hv8) dX9_copyOne_86 (fun H locs hP hD hS => ?_)
    have hP : va_P D vwCl [(mm, .inr (9, fl 78 g)), (Mout, .inl (cB, 4000, .inl (upd mout n (s8 v9)))), (MoutFrom, .inl (cI, 4000, .inl moutFrom)), (Msource, .inl (cB, 4000, .inl msource)), (MsourceFrom, .inl (cI, 4000, .inl msourceFrom))] H := hP
    have hD : va_D A0 [(mm, .inr (9, fl 78 g)), (Mout, .inl (cB, 4000, .inl (upd mout n (s8 v9)))), (MoutFrom, .inl (cI, 4000, .inl moutFrom)), (Msource, .inl (cB, 4000, .inl msource)), (MsourceFrom, .inl (cI, 4000, .inl msourceFrom))] := hD
    refine lv_aload_n hx hb dX9_copyOne_87 rfl (lv_at hl 3 rfl) ?_
    refine fx_get (D := D) (ci := 9) (v := .ref MoutFrom) (C := RX9) (T := TX9) (N := 78) hx hb hts in_X9 hown hK hP 0 rfl rfl 31 (by decide) (hts _ kX9_85) (fun _ h9 => h9) (g_outFrom) dX9_copyOne_88 ?_
    refine lv_aload_n hx hb dX9_copyOne_91 rfl (lv_at hl 3 rfl) ?_
    refine fx_get (D := D) (ci := 9) (v := .int (nI n)) (C := RX9) (T := TX9) (N := 78) hx hb hts in_X9 hown hK hP 0 rfl rfl 32 (by decide) (hts _ kX9_221) (fun _ h9 => h9) (g_outSize) dX9_copyOne_92 ?_
    refine lv_iload hx hb dX9_copyOne_95 (lv_at hl 0 rfl) ?_
    refine lv_if_eq (tgt := 109) hx hb dX9_copyOne_97 (by decide) (fun c_5 => ?_) (fun c_5 => absurd (by decide) c_5)
    refine lv_aload_n hx hb dX9_copyOne_109 rfl (lv_at hl 3 rfl) ?_
    refine fx_get (D := D) (ci := 9) (v := .ref MoutFrom) (C := RX9) (T := TX9) (N := 78) hx hb hts in_X9 hown hK hP 0 rfl rfl 31 (by decide) (hts _ kX9_85) (fun _ h9 => h9) (g_outFrom) dX9_copyOne_110 ?_
    refine lv_iload_n hx hb dX9_copyOne_113 rfl (lv_at hl 1 rfl) ?_
    refine ax_ild hx hb hK hP 2 0 rfl rfl (ww + x - zz) (rfl) (hi9) (by omega) dX9_copyOne_114 ?_
    refine ri (y := o9) (ho9) ?_
    refine ax_ist hx hb hK hP hD hS 2 0 rfl rfl n (rfl) (hn4) (by omega) dX9_copyOne_115 (fun H locs hP hD hS => ?_)
    have hP : va_P D vwCl [(mm, .inr (9, fl 78 g)), (Mout, .inl (cB, 4000, .inl (upd mout n (s8 v9)))), (MoutFrom, .inl (cI, 4000, .inl (upd moutFrom n o9))), (Msource, .inl (cB, 4000, .inl msource)), (MsourceFrom, .inl (cI, 4000, .inl msourceFrom))] H := hP
    have hD : va_D A0 [(mm, .inr (9, fl 78 g)), (Mout, .inl (cB, 4000, .inl (upd mout n (s8 v9)))), (MoutFrom, .inl (cI, 4000, .inl (upd moutFrom n o9))), (Msource, .inl (cB, 4000, .inl msource)), (MsourceFrom, .inl (cI, 4000, .inl msourceFrom))] := hD
    refine lv_aload_n hx hb dX9_copyOne_116 rfl (lv_at hl 3 rfl) ?_
    refine lv_dup hx hb dX9_copyOne_117 rfl ?_
    refine fx_get (D := D) (ci := 9) (v := .int (nI n)) (C := RX9) (T := TX9) (N := 78) hx hb hts in_X9 hown hK hP 0 rfl rfl 32 (by decide) (hts _ kX9_221) (fun _ h9 => h9) (g_outSize) dX9_copyOne_118 ?_
    refine lv_iconst (v := 1) hx hb dX9_copyOne_121 (by decide) ?_
    refine lv_iadd hx hb dX9_copyOne_122 ?_
    refine ri (y := nI (n + 1)) (nI_add n 1) ?_
    refine fx_put (D := D) (ci := 9) (v := .int (nI (n + 1))) (ty := .int) (C := RX9) (T := TX9) (N := 78) hx hb hts in_X9 tyX9 tyX9_ok nmX9 hown hK hP hD hS 0 rfl rfl 32 (by decide) (hts _ kX9_221) (fun _ h9 => h9) rfl (by decide +kernel) rfl rfl dX9_copyOne_123 (fun H locs hP hD hS => ?_)
    have hP : va_P D vwCl [(mm, .inr (9, fl 78 (va_up g 32 (.int (nI (n + 1)))))), (Mout, .inl (cB, 4000, .inl (upd mout n (s8 v9)))), (MoutFrom, .inl (cI, 4000, .inl (upd moutFrom n o9))), (Msource, .inl (cB, 4000, .inl msource)), (MsourceFrom, .inl (cI, 4000, .inl msourceFrom))] H := hP
    have hD : va_D A0 [(mm, .inr (9, fl 78 (va_up g 32 (.int (nI (n + 1)))))), (Mout, .inl (cB, 4000, .inl (upd mout n (s8 v9)))), (MoutFrom, .inl (cI, 4000, .inl (upd moutFrom n o9))), (Msource, .inl (cB, 4000, .inl msource)), (MsourceFrom, .inl (cI, 4000, .inl msourceFrom))] := hD
    exact hret 126 ls _ _ ((va_up g 32 (.int (nI (n + 1)))), upd mout n (s8 v9), upd moutFrom n o9) dX9_copyOne_126 hP hD hS (⟨(frm_up frm_refl (by decide)), rfl, by rw [hcp]; exact outR_push (m := (B, G, n)) ho hv8⟩)
  · have hb9 : x < zz := Nat.not_le.mp (fun q => c_1 (nI_le q (by omega)))
    refine lv_iconst (v := 1) hx hb dX9_copyOne_8 (by decide) ?_
    refine lv_goto (tgt := 13) hx hb dX9_copyOne_9 (by decide) ?_
    refine lv_istore_n (lv' := [(2, .int 1), (0, .ref mm), (1, .int (nI x))]) hx hb dX9_copyOne_13 rfl hl (by decide) rfl (fun ls hl => ?_)
    refine lv_iload_n hx hb dX9_copyOne_14 rfl (lv_at hl 0 rfl) ?_
    refine lv_if_eq (tgt := 27) hx hb dX9_copyOne_15 (by decide) (fun c_6 => absurd c_6 (by decide)) (fun c_6 => ?_)
    refine lv_aload_n hx hb dX9_copyOne_18 rfl (lv_at hl 1 rfl) ?_
    refine fx_get (D := D) (ci := 9) (v := .int (nI ff)) (C := RX9) (T := TX9) (N := 78) hx hb hts in_X9 hown hK hP 0 rfl rfl 42 (by decide) (hts _ kX9_252) (fun _ h9 => h9) (g_segmentAt) dX9_copyOne_19 ?_
    refine lv_iload_n hx hb dX9_copyOne_22 rfl (lv_at hl 2 rfl) ?_
    refine lv_iadd hx hb dX9_copyOne_23 ?_
    refine ri (y := nI (ff + x)) (nI_add ff x) ?_
    refine lv_goto (tgt := 38) hx hb dX9_copyOne_24 (by decide) ?_
    refine lv_istore_n (lv' := [(3, .int (nI (ff + x))), (2, .int 1), (0, .ref mm), (1, .int (nI x))]) hx hb dX9_copyOne_38 rfl hl (by decide) rfl (fun ls hl => ?_)
    refine lv_iload_n hx hb dX9_copyOne_39 rfl (lv_at hl 1 rfl) ?_
    refine lv_if_eq (tgt := 55) hx hb dX9_copyOne_40 (by decide) (fun c_7 => absurd c_7 (by decide)) (fun c_7 => ?_)
    refine lv_aload_n hx hb dX9_copyOne_43 rfl (lv_at hl 2 rfl) ?_
    refine fx_get (D := D) (ci := 9) (v := .int (nI kk)) (C := RX9) (T := TX9) (N := 78) hx hb hts in_X9 hown hK hP 0 rfl rfl 40 (by decide) (hts _ kX9_246) (fun _ h9 => h9) (g_segment) dX9_copyOne_44 ?_
    refine lv_iconst (v := 1) hx hb dX9_copyOne_47 (by decide) ?_
    refine lv_icmp_ne (tgt := 55) hx hb dX9_copyOne_48 (by decide) (fun c_8 => ?_) (fun c_8 => ?_)
    · have hk : ¬ kk = 1 := fun z => c_8 (by rw [z]; rfl)
      have hlt : ff + x < n := by have := hk2 hk; omega
      refine lv_iconst (v := 0) hx hb dX9_copyOne_55 (by decide) ?_
      refine lv_istore (lv' := [(4, .int 0), (3, .int (nI (ff + x))), (2, .int 1), (0, .ref mm), (1, .int (nI x))]) hx hb dX9_copyOne_56 hl (by decide) rfl (fun ls hl => ?_)
      have hi9 : ff + x < 4000 := by omega
      obtain ⟨q1, hv8, q3⟩ := ho (ff + x) hlt
      obtain ⟨v9, hv_⟩ : ∃ v, v = B (ff + x) := ⟨_, rfl⟩
      obtain ⟨o9, ho_⟩ : ∃ v, v = G (ff + x) := ⟨_, rfl⟩
      have hv9 : mout (ff + x) = s8 v9 := by rw [hv_]; exact q1
      have ho9 : moutFrom (ff + x) = o9 := by rw [ho_]; exact q3
      have hv8 : v9 < 256 := by rw [hv_]; exact hv8
      have hcp : cpx kk zz ff ww sB sG x (B, G, n) = pushM (B, G, n) v9 o9 := by rw [cpx, if_neg (fun q => hk q.2), if_pos hb9, hv_, ho_]
      refine lv_aload_n hx hb dX9_copyOne_58 rfl (lv_at hl 3 rfl) ?_
      refine fx_get (D := D) (ci := 9) (v := .ref Mout) (C := RX9) (T := TX9) (N := 78) hx hb hts in_X9 hown hK hP 0 rfl rfl 30 (by decide) (hts _ kX9_82) (fun _ h9 => h9) (g_out) dX9_copyOne_59 ?_
      refine lv_aload_n hx hb dX9_copyOne_62 rfl (lv_at hl 3 rfl) ?_
      refine fx_get (D := D) (ci := 9) (v := .int (nI n)) (C := RX9) (T := TX9) (N := 78) hx hb hts in_X9 hown hK hP 0 rfl rfl 32 (by decide) (hts _ kX9_221) (fun _ h9 => h9) (g_outSize) dX9_copyOne_63 ?_
      refine lv_iload hx hb dX9_copyOne_66 (lv_at hl 0 rfl) ?_
      refine lv_if_eq (tgt := 80) hx hb dX9_copyOne_68 (by decide) (fun c_9 => ?_) (fun c_9 => absurd (by decide) c_9)
      refine lv_aload_n hx hb dX9_copyOne_80 rfl (lv_at hl 3 rfl) ?_
      refine fx_get (D := D) (ci := 9) (v := .ref Mout) (C := RX9) (T := TX9) (N := 78) hx hb hts in_X9 hown hK hP 0 rfl rfl 30 (by decide) (hts _ kX9_82) (fun _ h9 => h9) (g_out) dX9_copyOne_81 ?_
      refine lv_iload_n hx hb dX9_copyOne_84 rfl (lv_at hl 1 rfl) ?_
      refine ax_bld hx hb hK hP 1 1 rfl rfl (ff + x) (rfl) (hi9) (by omega) dX9_copyOne_85 ?_
      refine ri (y := s8 v9) (hv9) ?_
      refine ax_bst hx hb hK hP hD hS 1 1 rfl rfl n (rfl) (hn4) (by omega) (z := s8 v9) (s8_re _ hv8) dX9_copyOne_86 (fun H locs hP hD hS => ?_)
      have hP : va_P D vwCl [(mm, .inr (9, fl 78 g)), (Mout, .inl (cB, 4000, .inl (upd mout n (s8 v9)))), (MoutFrom, .inl (cI, 4000, .inl moutFrom)), (Msource, .inl (cB, 4000, .inl msource)), (MsourceFrom, .inl (cI, 4000, .inl msourceFrom))] H := hP
      have hD : va_D A0 [(mm, .inr (9, fl 78 g)), (Mout, .inl (cB, 4000, .inl (upd mout n (s8 v9)))), (MoutFrom, .inl (cI, 4000, .inl moutFrom)), (Msource, .inl (cB, 4000, .inl msource)), (MsourceFrom, .inl (cI, 4000, .inl msourceFrom))] := hD
      refine lv_aload_n hx hb dX9_copyOne_87 rfl (lv_at hl 3 rfl) ?_
      refine fx_get (D := D) (ci := 9) (v := .ref MoutFrom) (C := RX9) (T := TX9) (N := 78) hx hb hts in_X9 hown hK hP 0 rfl rfl 31 (by decide) (hts _ kX9_85) (fun _ h9 => h9) (g_outFrom) dX9_copyOne_88 ?_
      refine lv_aload_n hx hb dX9_copyOne_91 rfl (lv_at hl 3 rfl) ?_
      refine fx_get (D := D) (ci := 9) (v := .int (nI n)) (C := RX9) (T := TX9) (N := 78) hx hb hts in_X9 hown hK hP 0 rfl rfl 32 (by decide) (hts _ kX9_221) (fun _ h9 => h9) (g_outSize) dX9_copyOne_92 ?_
      refine lv_iload hx hb dX9_copyOne_95 (lv_at hl 0 rfl) ?_
      refine lv_if_eq (tgt := 109) hx hb dX9_copyOne_97 (by decide) (fun c_10 => ?_) (fun c_10 => absurd (by decide) c_10)
      refine lv_aload_n hx hb dX9_copyOne_109 rfl (lv_at hl 3 rfl) ?_
      refine fx_get (D := D) (ci := 9) (v := .ref MoutFrom) (C := RX9) (T := TX9) (N := 78) hx hb hts in_X9 hown hK hP 0 rfl rfl 31 (by decide) (hts _ kX9_85) (fun _ h9 => h9) (g_outFrom) dX9_copyOne_110 ?_
      refine lv_iload_n hx hb dX9_copyOne_113 rfl (lv_at hl 1 rfl) ?_
      refine ax_ild hx hb hK hP 2 0 rfl rfl (ff + x) (rfl) (hi9) (by omega) dX9_copyOne_114 ?_
      refine ri (y := o9) (ho9) ?_
      refine ax_ist hx hb hK hP hD hS 2 0 rfl rfl n (rfl) (hn4) (by omega) dX9_copyOne_115 (fun H locs hP hD hS => ?_)
      have hP : va_P D vwCl [(mm, .inr (9, fl 78 g)), (Mout, .inl (cB, 4000, .inl (upd mout n (s8 v9)))), (MoutFrom, .inl (cI, 4000, .inl (upd moutFrom n o9))), (Msource, .inl (cB, 4000, .inl msource)), (MsourceFrom, .inl (cI, 4000, .inl msourceFrom))] H := hP
      have hD : va_D A0 [(mm, .inr (9, fl 78 g)), (Mout, .inl (cB, 4000, .inl (upd mout n (s8 v9)))), (MoutFrom, .inl (cI, 4000, .inl (upd moutFrom n o9))), (Msource, .inl (cB, 4000, .inl msource)), (MsourceFrom, .inl (cI, 4000, .inl msourceFrom))] := hD
      refine lv_aload_n hx hb dX9_copyOne_116 rfl (lv_at hl 3 rfl) ?_
      refine lv_dup hx hb dX9_copyOne_117 rfl ?_
      refine fx_get (D := D) (ci := 9) (v := .int (nI n)) (C := RX9) (T := TX9) (N := 78) hx hb hts in_X9 hown hK hP 0 rfl rfl 32 (by decide) (hts _ kX9_221) (fun _ h9 => h9) (g_outSize) dX9_copyOne_118 ?_
      refine lv_iconst (v := 1) hx hb dX9_copyOne_121 (by decide) ?_
      refine lv_iadd hx hb dX9_copyOne_122 ?_
      refine ri (y := nI (n + 1)) (nI_add n 1) ?_
      refine fx_put (D := D) (ci := 9) (v := .int (nI (n + 1))) (ty := .int) (C := RX9) (T := TX9) (N := 78) hx hb hts in_X9 tyX9 tyX9_ok nmX9 hown hK hP hD hS 0 rfl rfl 32 (by decide) (hts _ kX9_221) (fun _ h9 => h9) rfl (by decide +kernel) rfl rfl dX9_copyOne_123 (fun H locs hP hD hS => ?_)
      have hP : va_P D vwCl [(mm, .inr (9, fl 78 (va_up g 32 (.int (nI (n + 1)))))), (Mout, .inl (cB, 4000, .inl (upd mout n (s8 v9)))), (MoutFrom, .inl (cI, 4000, .inl (upd moutFrom n o9))), (Msource, .inl (cB, 4000, .inl msource)), (MsourceFrom, .inl (cI, 4000, .inl msourceFrom))] H := hP
      have hD : va_D A0 [(mm, .inr (9, fl 78 (va_up g 32 (.int (nI (n + 1)))))), (Mout, .inl (cB, 4000, .inl (upd mout n (s8 v9)))), (MoutFrom, .inl (cI, 4000, .inl (upd moutFrom n o9))), (Msource, .inl (cB, 4000, .inl msource)), (MsourceFrom, .inl (cI, 4000, .inl msourceFrom))] := hD
      exact hret 126 ls _ _ ((va_up g 32 (.int (nI (n + 1)))), upd mout n (s8 v9), upd moutFrom n o9) dX9_copyOne_126 hP hD hS (⟨(frm_up frm_refl (by decide)), rfl, by rw [hcp]; exact outR_push (m := (B, G, n)) ho hv8⟩)
    · have hk : kk = 1 := (nI_eq (b := 1) (by omega) (by decide)).mp c_8
      have hlt : ff + x < sn := by have := hk1 hk; omega
      refine lv_iconst (v := 1) hx hb dX9_copyOne_51 (by decide) ?_
      refine lv_goto (tgt := 56) hx hb dX9_copyOne_52 (by decide) ?_
      refine lv_istore (lv' := [(4, .int 1), (3, .int (nI (ff + x))), (2, .int 1), (0, .ref mm), (1, .int (nI x))]) hx hb dX9_copyOne_56 hl (by decide) rfl (fun ls hl => ?_)
      have hi9 : ff + x < 4000 := by omega
      obtain ⟨q1, hv8⟩ := hsr (ff + x) hlt
      obtain ⟨v9, hv_⟩ : ∃ v, v = sB (ff + x) := ⟨_, rfl⟩
      obtain ⟨o9, ho_⟩ : ∃ v, v = sG (ff + x) := ⟨_, rfl⟩
      have hv9 : msource (ff + x) = s8 v9 := by rw [hv_]; exact q1
      have ho9 : msourceFrom (ff + x) = o9 := by rw [ho_]; exact hsf _ hlt
      have hv8 : v9 < 256 := by rw [hv_]; exact hv8
      have hcp : cpx kk zz ff ww sB sG x (B, G, n) = pushM (B, G, n) v9 o9 := by rw [cpx, if_pos ⟨hb9, hk⟩, hv_, ho_]
      refine lv_aload_n hx hb dX9_copyOne_58 rfl (lv_at hl 3 rfl) ?_
      refine fx_get (D := D) (ci := 9) (v := .ref Mout) (C := RX9) (T := TX9) (N := 78) hx hb hts in_X9 hown hK hP 0 rfl rfl 30 (by decide) (hts _ kX9_82) (fun _ h9 => h9) (g_out) dX9_copyOne_59 ?_
      refine lv_aload_n hx hb dX9_copyOne_62 rfl (lv_at hl 3 rfl) ?_
      refine fx_get (D := D) (ci := 9) (v := .int (nI n)) (C := RX9) (T := TX9) (N := 78) hx hb hts in_X9 hown hK hP 0 rfl rfl 32 (by decide) (hts _ kX9_221) (fun _ h9 => h9) (g_outSize) dX9_copyOne_63 ?_
      refine lv_iload hx hb dX9_copyOne_66 (lv_at hl 0 rfl) ?_
      refine lv_if_eq (tgt := 80) hx hb dX9_copyOne_68 (by decide) (fun c_11 => absurd c_11 (by decide)) (fun c_11 => ?_)
      refine lv_aload_n hx hb dX9_copyOne_71 rfl (lv_at hl 3 rfl) ?_
      refine fx_get (D := D) (ci := 9) (v := .ref Msource) (C := RX9) (T := TX9) (N := 78) hx hb hts in_X9 hown hK hP 0 rfl rfl 27 (by decide) (hts _ kX9_76) (fun _ h9 => h9) (g_source) dX9_copyOne_72 ?_
      refine lv_iload_n hx hb dX9_copyOne_75 rfl (lv_at hl 1 rfl) ?_
      refine ax_bld hx hb hK hP 3 1 rfl rfl (ff + x) (rfl) (hi9) (by omega) dX9_copyOne_76 ?_
      refine ri (y := s8 v9) (hv9) ?_
      refine lv_goto (tgt := 86) hx hb dX9_copyOne_77 (by decide) ?_
      refine ax_bst hx hb hK hP hD hS 1 1 rfl rfl n (rfl) (hn4) (by omega) (z := s8 v9) (s8_re _ hv8) dX9_copyOne_86 (fun H locs hP hD hS => ?_)
      have hP : va_P D vwCl [(mm, .inr (9, fl 78 g)), (Mout, .inl (cB, 4000, .inl (upd mout n (s8 v9)))), (MoutFrom, .inl (cI, 4000, .inl moutFrom)), (Msource, .inl (cB, 4000, .inl msource)), (MsourceFrom, .inl (cI, 4000, .inl msourceFrom))] H := hP
      have hD : va_D A0 [(mm, .inr (9, fl 78 g)), (Mout, .inl (cB, 4000, .inl (upd mout n (s8 v9)))), (MoutFrom, .inl (cI, 4000, .inl moutFrom)), (Msource, .inl (cB, 4000, .inl msource)), (MsourceFrom, .inl (cI, 4000, .inl msourceFrom))] := hD
      refine lv_aload_n hx hb dX9_copyOne_87 rfl (lv_at hl 3 rfl) ?_
      refine fx_get (D := D) (ci := 9) (v := .ref MoutFrom) (C := RX9) (T := TX9) (N := 78) hx hb hts in_X9 hown hK hP 0 rfl rfl 31 (by decide) (hts _ kX9_85) (fun _ h9 => h9) (g_outFrom) dX9_copyOne_88 ?_
      refine lv_aload_n hx hb dX9_copyOne_91 rfl (lv_at hl 3 rfl) ?_
      refine fx_get (D := D) (ci := 9) (v := .int (nI n)) (C := RX9) (T := TX9) (N := 78) hx hb hts in_X9 hown hK hP 0 rfl rfl 32 (by decide) (hts _ kX9_221) (fun _ h9 => h9) (g_outSize) dX9_copyOne_92 ?_
      refine lv_iload hx hb dX9_copyOne_95 (lv_at hl 0 rfl) ?_
      refine lv_if_eq (tgt := 109) hx hb dX9_copyOne_97 (by decide) (fun c_12 => absurd c_12 (by decide)) (fun c_12 => ?_)
      refine lv_aload_n hx hb dX9_copyOne_100 rfl (lv_at hl 3 rfl) ?_
      refine fx_get (D := D) (ci := 9) (v := .ref MsourceFrom) (C := RX9) (T := TX9) (N := 78) hx hb hts in_X9 hown hK hP 0 rfl rfl 28 (by decide) (hts _ kX9_79) (fun _ h9 => h9) (g_sourceFrom) dX9_copyOne_101 ?_
      refine lv_iload_n hx hb dX9_copyOne_104 rfl (lv_at hl 1 rfl) ?_
      refine ax_ild hx hb hK hP 4 0 rfl rfl (ff + x) (rfl) (hi9) (by omega) dX9_copyOne_105 ?_
      refine ri (y := o9) (ho9) ?_
      refine lv_goto (tgt := 115) hx hb dX9_copyOne_106 (by decide) ?_
      refine ax_ist hx hb hK hP hD hS 2 0 rfl rfl n (rfl) (hn4) (by omega) dX9_copyOne_115 (fun H locs hP hD hS => ?_)
      have hP : va_P D vwCl [(mm, .inr (9, fl 78 g)), (Mout, .inl (cB, 4000, .inl (upd mout n (s8 v9)))), (MoutFrom, .inl (cI, 4000, .inl (upd moutFrom n o9))), (Msource, .inl (cB, 4000, .inl msource)), (MsourceFrom, .inl (cI, 4000, .inl msourceFrom))] H := hP
      have hD : va_D A0 [(mm, .inr (9, fl 78 g)), (Mout, .inl (cB, 4000, .inl (upd mout n (s8 v9)))), (MoutFrom, .inl (cI, 4000, .inl (upd moutFrom n o9))), (Msource, .inl (cB, 4000, .inl msource)), (MsourceFrom, .inl (cI, 4000, .inl msourceFrom))] := hD
      refine lv_aload_n hx hb dX9_copyOne_116 rfl (lv_at hl 3 rfl) ?_
      refine lv_dup hx hb dX9_copyOne_117 rfl ?_
      refine fx_get (D := D) (ci := 9) (v := .int (nI n)) (C := RX9) (T := TX9) (N := 78) hx hb hts in_X9 hown hK hP 0 rfl rfl 32 (by decide) (hts _ kX9_221) (fun _ h9 => h9) (g_outSize) dX9_copyOne_118 ?_
      refine lv_iconst (v := 1) hx hb dX9_copyOne_121 (by decide) ?_
      refine lv_iadd hx hb dX9_copyOne_122 ?_
      refine ri (y := nI (n + 1)) (nI_add n 1) ?_
      refine fx_put (D := D) (ci := 9) (v := .int (nI (n + 1))) (ty := .int) (C := RX9) (T := TX9) (N := 78) hx hb hts in_X9 tyX9 tyX9_ok nmX9 hown hK hP hD hS 0 rfl rfl 32 (by decide) (hts _ kX9_221) (fun _ h9 => h9) rfl (by decide +kernel) rfl rfl dX9_copyOne_123 (fun H locs hP hD hS => ?_)
      have hP : va_P D vwCl [(mm, .inr (9, fl 78 (va_up g 32 (.int (nI (n + 1)))))), (Mout, .inl (cB, 4000, .inl (upd mout n (s8 v9)))), (MoutFrom, .inl (cI, 4000, .inl (upd moutFrom n o9))), (Msource, .inl (cB, 4000, .inl msource)), (MsourceFrom, .inl (cI, 4000, .inl msourceFrom))] H := hP
      have hD : va_D A0 [(mm, .inr (9, fl 78 (va_up g 32 (.int (nI (n + 1)))))), (Mout, .inl (cB, 4000, .inl (upd mout n (s8 v9)))), (MoutFrom, .inl (cI, 4000, .inl (upd moutFrom n o9))), (Msource, .inl (cB, 4000, .inl msource)), (MsourceFrom, .inl (cI, 4000, .inl msourceFrom))] := hD
      exact hret 126 ls _ _ ((va_up g 32 (.int (nI (n + 1)))), upd mout n (s8 v9), upd moutFrom n o9) dX9_copyOne_126 hP hD hS (⟨(frm_up frm_refl (by decide)), rfl, by rw [hcp]; exact outR_push (m := (B, G, n)) ho hv8⟩)

set_option maxHeartbeats 4000000 in
set_option maxRecDepth 100000 in
theorem m_address (l : Launch) (D : va_G) (cI cB cJ cR : ClassId) (mm : Nat) (g : Nat → Value) (Mrows : Nat) (Mnears : Nat) (Msames : Nat) (mrows : Nat → Int32) (mnears : Nat → Int64) (msames : Nat → Int64) (zz : Nat) (n : Nat) (ww : Nat) (near : Nat) (same : Nat) (aa : Nat) (ae : Nat) (bs : Nat) (md : Nat) (pa : Int32) (b : Nat → Nat) (cN : Nat → Nat) (cS : Nat → Nat) (g_segmentSize : g 41 = .int (nI zz)) (g_outSize : g 32 = .int (nI n)) (g_begun : g 43 = .int (nI ww)) (g_near : g 8 = .int (nI near)) (g_addressAt : g 49 = .int (nI aa)) (g_addressEnd : g 50 = .int (nI ae)) (g_partAt : g 51 = .int pa) (g_base : g 33 = .int (nI bs)) (g_rows : g 1 = .ref Mrows) (g_nears : g 10 = .ref Mnears) (g_sames : g 12 = .ref Msames) (he : bs + ae ≤ 32000) (haa : aa ≤ ae) (hob : ∀ j, j < ae → mrows (bs + j) = s8 (b j) ∧ b j < 256) (h8 : near ≤ 8) (h4 : same ≤ 4) (hmd : md < near + same + 2) (hc : chR mnears msames cN cS) (hcN : ∀ j, j < 8 → cN j < 2 ^ 30) (hcS : ∀ j, j < 1024 → cS j < 2 ^ 30) (hww : ww ≤ n) (hn4 : n ≤ 4000) (hzz : zz < 2 ^ 24) : CMl l yX9_address cX9_address 8 (some .long) ({ frames := 1, cells := 0, slots := 0, locals := 27 }) D (tyA cI cB cJ cR) 0 0 [.ref mm, .int (nI md)] [(mm, .inr (9, fl 78 g)), (Mrows, .inl (cB, 32000, .inl mrows)), (Mnears, .inl (cJ, 8, .inr (.inl mnears))), (Msames, .inl (cJ, 1024, .inr (.inl msames)))] (fun (r : Int64) (u9 : (Nat → Value) × Int32 × Int32) => match u9 with | (g9, aa2, pa2) => frm [49, 51] g g9 ∧ g9 49 = .int aa2 ∧ g9 51 = .int pa2 ∧ (adOk b ae near md aa (zz + n - ww) cN cS → r = lN (adX b ae near md aa (zz + n - ww) cN cS) ∧ aa2 = nI (rdA b ae near md aa).2.2) ∧ (¬ adOk b ae near md aa (zz + n - ww) cN cS → r = -1)) (fun (u9 : (Nat → Value) × Int32 × Int32) => match u9 with | (g9, aa2, pa2) => [(mm, .inr (9, fl 78 g9)), (Mrows, .inl (cB, 32000, .inl mrows)), (Mnears, .inl (cJ, 8, .inr (.inl mnears))), (Msames, .inl (cJ, 1024, .inr (.inl msames)))]) := by
  refine st_l (cc := cX9_address) (maxL := 8) (by decide) (Nat.le_of_ble_eq_true rfl) ?_
  intro p0 e0 s0 m0 below meth c0 A0 Q0 hBD hret hP hD hS ls hl
  obtain ⟨hx, hb, hml, hown, hts, hnm, hK, hNw, hMk, hA⟩ := hBD
  have hl : lv_has ls 8 [(0, .ref mm), (1, .int (nI md))] := hl
  have hP : va_P D vwCl [(mm, .inr (9, fl 78 g)), (Mrows, .inl (cB, 32000, .inl mrows)), (Mnears, .inl (cJ, 8, .inr (.inl mnears))), (Msames, .inl (cJ, 1024, .inr (.inl msames)))] s0.heap := hP
  have hD : va_D A0 [(mm, .inr (9, fl 78 g)), (Mrows, .inl (cB, 32000, .inl mrows)), (Mnears, .inl (cJ, 8, .inr (.inl mnears))), (Msames, .inl (cJ, 1024, .inr (.inl msames)))] := hD
  refine lv_aload_n hx hb dX9_address_0 rfl (lv_at hl 0 rfl) ?_
  refine fx_get (D := D) (ci := 9) (v := .int (nI zz)) (C := RX9) (T := TX9) (N := 78) hx hb hts in_X9 hown hK hP 0 rfl rfl 41 (by decide) (hts _ kX9_249) (fun _ h9 => h9) (g_segmentSize) dX9_address_1 ?_
  refine lv_aload_n hx hb dX9_address_4 rfl (lv_at hl 0 rfl) ?_
  refine fx_get (D := D) (ci := 9) (v := .int (nI n)) (C := RX9) (T := TX9) (N := 78) hx hb hts in_X9 hown hK hP 0 rfl rfl 32 (by decide) (hts _ kX9_221) (fun _ h9 => h9) (g_outSize) dX9_address_5 ?_
  refine lv_iadd hx hb dX9_address_8 ?_
  refine ri (y := nI (zz + n)) (nI_add zz n) ?_
  refine lv_aload_n hx hb dX9_address_9 rfl (lv_at hl 0 rfl) ?_
  refine fx_get (D := D) (ci := 9) (v := .int (nI ww)) (C := RX9) (T := TX9) (N := 78) hx hb hts in_X9 hown hK hP 0 rfl rfl 43 (by decide) (hts _ kX9_257) (fun _ h9 => h9) (g_begun) dX9_address_10 ?_
  refine lv_isub hx hb dX9_address_13 ?_
  refine ri (y := nI (zz + n - ww)) (pk_sub (by omega)) ?_
  refine lv_i2l hx hb dX9_address_14 (v := (nI (zz + n - ww)).toInt64) rfl ?_
  refine rl (y := lN (zz + n - ww)) (nI_l (by omega)) ?_
  refine lv_lstore_n (lv' := [(2, .long (lN (zz + n - ww))), (0, .ref mm), (1, .int (nI md))]) hx hb dX9_address_15 rfl hl (by decide) rfl (fun ls hl => ?_)
  refine lv_iload_n hx hb dX9_address_16 rfl (lv_at hl 2 rfl) ?_
  refine lv_aload_n hx hb dX9_address_17 rfl (lv_at hl 1 rfl) ?_
  refine fx_get (D := D) (ci := 9) (v := .int (nI near)) (C := RX9) (T := TX9) (N := 78) hx hb hts in_X9 hown hK hP 0 rfl rfl 8 (by decide) (hts _ kX9_164) (fun _ h9 => h9) (g_near) dX9_address_18 ?_
  refine lv_iconst (v := 2) hx hb dX9_address_21 (by decide) ?_
  refine lv_iadd hx hb dX9_address_22 ?_
  refine ri (y := nI (near + 2)) (nI_add near 2) ?_
  refine lv_icmp_ge (tgt := 96) hx hb dX9_address_23 (by decide) (fun c_1 => ?_) (fun c_1 => ?_)
  · have hm2 : near + 2 ≤ md := (nI_leI (by omega) (by omega)).mp c_1
    refine lv_aload_n hx hb dX9_address_96 rfl (lv_at hl 1 rfl) ?_
    refine fx_get (D := D) (ci := 9) (v := .int (nI aa)) (C := RX9) (T := TX9) (N := 78) hx hb hts in_X9 hown hK hP 0 rfl rfl 49 (by decide) (hts _ kX9_275) (fun _ h9 => h9) (g_addressAt) dX9_address_97 ?_
    refine lv_aload_n hx hb dX9_address_100 rfl (lv_at hl 1 rfl) ?_
    refine fx_get (D := D) (ci := 9) (v := .int (nI ae)) (C := RX9) (T := TX9) (N := 78) hx hb hts in_X9 hown hK hP 0 rfl rfl 50 (by decide) (hts _ kX9_278) (fun _ h9 => h9) (g_addressEnd) dX9_address_101 ?_
    refine lv_icmp_lt (tgt := 111) hx hb dX9_address_104 (by decide) (fun c_2 => ?_) (fun c_2 => ?_)
    · have hlt : aa < ae := (nI_ltI (by omega) (by omega)).mp c_2
      obtain ⟨hv1, hv2⟩ := hob aa hlt
      refine lv_aload_n hx hb dX9_address_111 rfl (lv_at hl 1 rfl) ?_
      refine fx_get (D := D) (ci := 9) (v := .ref Msames) (C := RX9) (T := TX9) (N := 78) hx hb hts in_X9 hown hK hP 0 rfl rfl 12 (by decide) (hts _ kX9_37) (fun _ h9 => h9) (g_sames) dX9_address_112 ?_
      refine lv_sipush (v := 256) hx hb dX9_address_115 (by decide) ?_
      refine lv_iload_n hx hb dX9_address_118 rfl (lv_at hl 2 rfl) ?_
      refine lv_aload_n hx hb dX9_address_119 rfl (lv_at hl 1 rfl) ?_
      refine fx_get (D := D) (ci := 9) (v := .int (nI near)) (C := RX9) (T := TX9) (N := 78) hx hb hts in_X9 hown hK hP 0 rfl rfl 8 (by decide) (hts _ kX9_164) (fun _ h9 => h9) (g_near) dX9_address_120 ?_
      refine lv_isub hx hb dX9_address_123 ?_
      refine ri (y := nI (md - near)) (pk_sub (by omega)) ?_
      refine lv_iconst (v := 2) hx hb dX9_address_124 (by decide) ?_
      refine lv_isub hx hb dX9_address_125 ?_
      refine ri (y := nI (md - near - 2)) (pk_sub (b := 2) (by omega)) ?_
      refine lv_imul hx hb dX9_address_126 ?_
      refine ri (y := nI (256 * (md - near - 2))) (pk_mul 256 _) ?_
      refine lv_aload_n hx hb dX9_address_127 rfl (lv_at hl 1 rfl) ?_
      refine fx_get (D := D) (ci := 9) (v := .ref Mrows) (C := RX9) (T := TX9) (N := 78) hx hb hts in_X9 hown hK hP 0 rfl rfl 1 (by decide) (hts _ kX9_7) (fun _ h9 => h9) (g_rows) dX9_address_128 ?_
      refine lv_aload_n hx hb dX9_address_131 rfl (lv_at hl 1 rfl) ?_
      refine fx_get (D := D) (ci := 9) (v := .int (nI bs)) (C := RX9) (T := TX9) (N := 78) hx hb hts in_X9 hown hK hP 0 rfl rfl 33 (by decide) (hts _ kX9_195) (fun _ h9 => h9) (g_base) dX9_address_132 ?_
      refine lv_aload_n hx hb dX9_address_135 rfl (lv_at hl 1 rfl) ?_
      refine fx_get (D := D) (ci := 9) (v := .int (nI aa)) (C := RX9) (T := TX9) (N := 78) hx hb hts in_X9 hown hK hP 0 rfl rfl 49 (by decide) (hts _ kX9_275) (fun _ h9 => h9) (g_addressAt) dX9_address_136 ?_
      refine lv_iadd hx hb dX9_address_139 ?_
      refine ri (y := nI (bs + aa)) (nI_add bs aa) ?_
      refine ax_bld hx hb hK hP 1 1 rfl rfl (bs + aa) (rfl) (by omega) (by omega) dX9_address_140 ?_
      refine lv_sipush (v := 255) hx hb dX9_address_141 (by decide) ?_
      refine lv_iand hx hb dX9_address_144 ?_
      refine ri (y := nI (b aa)) (by rw [hv1]; exact s8_and _ hv2) ?_
      refine lv_iadd hx hb dX9_address_145 ?_
      refine ri (y := nI ((256 * (md - near - 2)) + (b aa))) (nI_add (256 * (md - near - 2)) (b aa)) ?_
      refine ax_lld hx hb hK hP 3 2 rfl rfl (256 * (md - near - 2) + b aa) (rfl) (by omega) (by omega) dX9_address_146 ?_
      refine rl (y := lN (cS (256 * (md - near - 2) + b aa))) (hc.2 _ (by omega)) ?_
      refine lv_lstore (lv' := [(4, .long (lN (cS (256 * (md - near - 2) + b aa)))), (2, .long (lN (zz + n - ww))), (0, .ref mm), (1, .int (nI md))]) hx hb dX9_address_147 hl (by decide) rfl (fun ls hl => ?_)
      refine lv_aload_n hx hb dX9_address_149 rfl (lv_at hl 2 rfl) ?_
      refine lv_dup hx hb dX9_address_150 rfl ?_
      refine fx_get (D := D) (ci := 9) (v := .int (nI aa)) (C := RX9) (T := TX9) (N := 78) hx hb hts in_X9 hown hK hP 0 rfl rfl 49 (by decide) (hts _ kX9_275) (fun _ h9 => h9) (g_addressAt) dX9_address_151 ?_
      refine lv_iconst (v := 1) hx hb dX9_address_154 (by decide) ?_
      refine lv_iadd hx hb dX9_address_155 ?_
      refine ri (y := nI (aa + 1)) (nI_add aa 1) ?_
      refine fx_put (D := D) (ci := 9) (v := .int (nI (aa + 1))) (ty := .int) (C := RX9) (T := TX9) (N := 78) hx hb hts in_X9 tyX9 tyX9_ok nmX9 hown hK hP hD hS 0 rfl rfl 49 (by decide) (hts _ kX9_275) (fun _ h9 => h9) rfl (by decide +kernel) rfl rfl dX9_address_156 (fun H locs hP hD hS => ?_)
      have hP : va_P D vwCl [(mm, .inr (9, fl 78 (va_up g 49 (.int (nI (aa + 1)))))), (Mrows, .inl (cB, 32000, .inl mrows)), (Mnears, .inl (cJ, 8, .inr (.inl mnears))), (Msames, .inl (cJ, 1024, .inr (.inl msames)))] H := hP
      have hD : va_D A0 [(mm, .inr (9, fl 78 (va_up g 49 (.int (nI (aa + 1)))))), (Mrows, .inl (cB, 32000, .inl mrows)), (Mnears, .inl (cJ, 8, .inr (.inl mnears))), (Msames, .inl (cJ, 1024, .inr (.inl msames)))] := hD
      have hrA : rdA b ae near md aa = (0, b aa, aa + 1) := by rw [rdA, if_pos hm2, if_pos hlt]
      have hx9 : (lN (cS (256 * (md - near - 2) + b aa))).toInt = adV near md (zz + n - ww) (rdA b ae near md aa).2.1 cN cS := by rw [hrA, adV, if_pos hm2]; exact pk_lT (by have := hcS (256 * (md - near - 2) + b aa) (by omega); omega)
      refine lv_lload hx hb dX9_address_159 (lv_at hl 0 rfl) ?_
      refine lv_lconst (v := 0) hx hb dX9_address_161 (by decide) ?_
      refine lv_lload_n hx hb dX9_address_162 rfl (lv_at hl 1 rfl) ?_
      refine lv_lconst (v := 1) hx hb dX9_address_163 (by decide) ?_
      refine lv_lsub hx hb dX9_address_164 ?_
      refine jn_i (wr := [(mm, .inr (9, fl 78 (va_up g 49 (.int (nI (aa + 1)))))), (Mrows, .inl (cB, 32000, .inl mrows)), (Mnears, .inl (cJ, 8, .inr (.inl mnears))), (Msames, .inl (cJ, 1024, .inr (.inl msames)))]) hA hP hD hS [] [0, 1, 2, 3] rfl rfl (by decide) (by decide) (rn_S (As := [.long (lN (cS (256 * (md - near - 2) + b aa))), .long 0, .long (lN (zz + n - ww) - 1)]) (rest := []) ⟨hx, hb, hml, hown, hts⟩ (cvS 3 hts zc_yX9_in zi_X9 zs_yX9_in kX9_136 (by decide +kernel) rfl rfl ⟨Nat.le_of_ble_eq_true rfl, Nat.le_of_ble_eq_true rfl⟩) (m_in l D cI cB cJ cR (lN (cS (256 * (md - near - 2) + b aa))) 0 (lN (zz + n - ww) - 1)  H.size) hK hNw hMk hA hP hD hS [] rfl rfl (by decide) rfl hl.1 rfl (Nat.le_of_ble_eq_true rfl) dX9_address_165 ⟨Nat.le_of_ble_eq_true rfl, Nat.le_of_ble_eq_true rfl⟩) (fun ri u9 H locs hri hP hD hS => ?_)
      obtain ⟨rib, rfl, hri⟩ := hri
      try dsimp only at hri
      have hP : va_P D vwCl [(mm, .inr (9, fl 78 (va_up g 49 (.int (nI (aa + 1)))))), (Mrows, .inl (cB, 32000, .inl mrows)), (Mnears, .inl (cJ, 8, .inr (.inl mnears))), (Msames, .inl (cJ, 1024, .inr (.inl msames)))] H := hP
      have hD : va_D A0 [(mm, .inr (9, fl 78 (va_up g 49 (.int (nI (aa + 1)))))), (Mrows, .inl (cB, 32000, .inl mrows)), (Mnears, .inl (cJ, 8, .inr (.inl mnears))), (Msames, .inl (cJ, 1024, .inr (.inl msames)))] := hD
      have hif := adOk_iff (cN := cN) (cS := cS) (by rw [hrA]) hx9 (show (zz + n - ww) < 2 ^ 30 by omega)
      rw [← hri] at hif
      refine bz_eq (tgt := 176) hx hb dX9_address_168 (by decide) (fun c_3 => ?_) (fun c_3 => ?_)
      · refine lv_ldc2 hx hb hown (hts _ kX9_158) dX9_address_176 ?_
        exact hret 179 ls _ _ _ ((va_up g 49 (.int (nI (aa + 1)))), (nI (aa + 1)), pa) dX9_address_179 hP hD hS (⟨(frm_up frm_refl (by decide)), rfl, g_partAt, ⟨fun z => absurd (hif.mpr z) (by rw [c_3]; decide), fun _ => rfl⟩⟩)
      · refine lv_lload hx hb dX9_address_171 (lv_at hl 0 rfl) ?_
        refine lv_goto (tgt := 179) hx hb dX9_address_173 (by decide) ?_
        exact hret 179 ls _ _ _ ((va_up g 49 (.int (nI (aa + 1)))), (nI (aa + 1)), pa) dX9_address_179 hP hD hS (⟨(frm_up frm_refl (by decide)), rfl, g_partAt, ⟨fun z => ⟨l_of (by rw [hx9, adX]; have := z.2.1; omega) (by rw [adX]; have := z.2.2; omega), by rw [hrA]⟩, fun z => absurd (hif.mp c_3) z⟩⟩)
    · have hlt : ¬ aa < ae := fun z => c_2 (nI_lt z (by omega))
      have hrA : rdA b ae near md aa = (1, 0, aa) := by rw [rdA, if_pos hm2, if_neg hlt]
      refine lv_ldc2 hx hb hown (hts _ kX9_158) dX9_address_107 ?_
      exact hret 110 ls _ _ _ (g, nI aa, pa) dX9_address_110 hP hD hS (⟨frm_refl, g_addressAt, g_partAt, ⟨fun z => absurd (show (1 : Nat) = 0 by have := z.1; rw [hrA] at this; exact this) (by decide), fun _ => rfl⟩⟩)
  · have hm2 : ¬ near + 2 ≤ md := Nat.not_le.mpr (Nat.not_le.mp (fun q => c_1 (nI_le q (by omega))))
    have hrA : rdA b ae near md aa = rdN b ae 5 aa 0 := by rw [rdA, if_neg hm2]
    refine lv_aload_n hx hb dX9_address_26 rfl (lv_at hl 1 rfl) ?_
    refine lv_aload_n hx hb dX9_address_27 rfl (lv_at hl 1 rfl) ?_
    refine fx_get (D := D) (ci := 9) (v := .int (nI aa)) (C := RX9) (T := TX9) (N := 78) hx hb hts in_X9 hown hK hP 0 rfl rfl 49 (by decide) (hts _ kX9_275) (fun _ h9 => h9) (g_addressAt) dX9_address_28 ?_
    refine lv_aload_n hx hb dX9_address_31 rfl (lv_at hl 1 rfl) ?_
    refine fx_get (D := D) (ci := 9) (v := .int (nI ae)) (C := RX9) (T := TX9) (N := 78) hx hb hts in_X9 hown hK hP 0 rfl rfl 50 (by decide) (hts _ kX9_278) (fun _ h9 => h9) (g_addressEnd) dX9_address_32 ?_
    refine jn_l (wr := [(Mnears, .inl (cJ, 8, .inr (.inl mnears))), (Msames, .inl (cJ, 1024, .inr (.inl msames)))]) hA hP hD hS [0, 1] [2, 3] rfl rfl (by decide) (by decide) (rn_V (As := [.int (nI aa), .int (nI ae)]) (rest := []) ⟨hx, hb, hml, hown, hts⟩ (cvV 2 hts zc_yX9_numberIn zi_X9 zm_yX9_numberIn zv_yX9_numberIn kX9_301 (by decide +kernel) rfl rfl ⟨Nat.le_of_ble_eq_true rfl, Nat.le_of_ble_eq_true rfl⟩) (m_numberIn l D cI cB cJ cR mm g Mrows mrows bs pa aa ae b (g_base) (g_partAt) (g_rows) (he) (haa) (hob) s0.heap.size) hK hNw hMk hA hP hD hS [0, 1] rfl rfl (by decide) 0 rfl rfl rfl rfl hl.1 rfl (Nat.le_of_ble_eq_true rfl) dX9_address_35 ⟨Nat.le_of_ble_eq_true rfl, Nat.le_of_ble_eq_true rfl⟩) (fun rv u9 H locs w_4 hP hD hS => ?_)
    obtain ⟨g_5, pp⟩ := u9
    try dsimp only at w_4
    have hP : va_P D vwCl [(Mnears, .inl (cJ, 8, .inr (.inl mnears))), (Msames, .inl (cJ, 1024, .inr (.inl msames))), (mm, .inr (9, fl 78 g_5)), (Mrows, .inl (cB, 32000, .inl mrows))] H := hP
    have hD : va_D A0 [(Mnears, .inl (cJ, 8, .inr (.inl mnears))), (Msames, .inl (cJ, 1024, .inr (.inl msames))), (mm, .inr (9, fl 78 g_5)), (Mrows, .inl (cB, 32000, .inl mrows))] := hD
    obtain ⟨f_w_4, partAt_w_4, w_4_⟩ := w_4
    have k41_g_5 : g_5 41 = .int (nI zz) := (f_w_4 41 (by decide)).trans (g_segmentSize)
    have k32_g_5 : g_5 32 = .int (nI n) := (f_w_4 32 (by decide)).trans (g_outSize)
    have k43_g_5 : g_5 43 = .int (nI ww) := (f_w_4 43 (by decide)).trans (g_begun)
    have k8_g_5 : g_5 8 = .int (nI near) := (f_w_4 8 (by decide)).trans (g_near)
    have k49_g_5 : g_5 49 = .int (nI aa) := (f_w_4 49 (by decide)).trans (g_addressAt)
    have k50_g_5 : g_5 50 = .int (nI ae) := (f_w_4 50 (by decide)).trans (g_addressEnd)
    have k33_g_5 : g_5 33 = .int (nI bs) := (f_w_4 33 (by decide)).trans (g_base)
    have k1_g_5 : g_5 1 = .ref Mrows := (f_w_4 1 (by decide)).trans (g_rows)
    have k10_g_5 : g_5 10 = .ref Mnears := (f_w_4 10 (by decide)).trans (g_nears)
    have k12_g_5 : g_5 12 = .ref Msames := (f_w_4 12 (by decide)).trans (g_sames)
    have fr_g_5 : frm [49, 51] g g_5 := frm_tr frm_refl f_w_4 (by decide)
    obtain ⟨w1, w2⟩ := w_4_
    by_cases h0 : (rdN b ae 5 aa 0).1 = 0
    · obtain ⟨y1, y2⟩ := w1 h0
      subst y1
      subst y2
      have hvb := rdN_ok (b := b) (e := ae) 5 aa 0 h0
      refine lv_lstore (lv' := [(6, .long (lN (rdN b ae 5 aa 0).2.1)), (2, .long (lN (zz + n - ww))), (0, .ref mm), (1, .int (nI md))]) hx hb dX9_address_38 hl (by decide) rfl (fun ls hl => ?_)
      refine lv_lload hx hb dX9_address_40 (lv_at hl 0 rfl) ?_
      refine lv_lconst (v := 0) hx hb dX9_address_42 (by decide) ?_
      refine W.lcmp hx hb dX9_address_43 ?_
      have hge : ¬ lN (rdN b ae 5 aa 0).2.1 < 0 := fun z => by have := (pk_lLT (a := (rdN b ae 5 aa 0).2.1) (b := 0) (by omega) (by decide)).mp z; omega
      refine lv_if_ge (tgt := 51) hx hb dX9_address_44 (by decide) (fun c_6 => ?_) (fun c_6 => absurd ((lg_cmp_ge _ _).mpr (Int64.not_lt.mp hge)) c_6)
      refine lv_aload_n hx hb dX9_address_51 rfl (lv_at hl 2 rfl) ?_
      refine lv_aload_n hx hb dX9_address_52 rfl (lv_at hl 2 rfl) ?_
      refine fx_get (D := D) (ci := 9) (v := .int (nI (rdN b ae 5 aa 0).2.2)) (C := RX9) (T := TX9) (N := 78) hx hb hts in_X9 hown hK hP 2 rfl rfl 51 (by decide) (hts _ kX9_284) (fun _ h9 => h9) (partAt_w_4) dX9_address_53 ?_
      refine fx_put (D := D) (ci := 9) (v := .int (nI (rdN b ae 5 aa 0).2.2)) (ty := .int) (C := RX9) (T := TX9) (N := 78) hx hb hts in_X9 tyX9 tyX9_ok nmX9 hown hK hP hD hS 2 rfl rfl 49 (by decide) (hts _ kX9_275) (fun _ h9 => h9) rfl (by decide +kernel) rfl rfl dX9_address_56 (fun H locs hP hD hS => ?_)
      have hP : va_P D vwCl [(Mnears, .inl (cJ, 8, .inr (.inl mnears))), (Msames, .inl (cJ, 1024, .inr (.inl msames))), (mm, .inr (9, fl 78 (va_up g_5 49 (.int (nI (rdN b ae 5 aa 0).2.2))))), (Mrows, .inl (cB, 32000, .inl mrows))] H := hP
      have hD : va_D A0 [(Mnears, .inl (cJ, 8, .inr (.inl mnears))), (Msames, .inl (cJ, 1024, .inr (.inl msames))), (mm, .inr (9, fl 78 (va_up g_5 49 (.int (nI (rdN b ae 5 aa 0).2.2))))), (Mrows, .inl (cB, 32000, .inl mrows))] := hD
      refine lv_iload_n hx hb dX9_address_59 rfl (lv_at hl 3 rfl) ?_
      refine lv_if_ne (tgt := 68) hx hb dX9_address_60 (by decide) (fun c_7 => ?_) (fun c_7 => ?_)
      · have hm : ¬ md = 0 := fun z => c_7 (by rw [z]; decide)
        refine lv_iload_n hx hb dX9_address_68 rfl (lv_at hl 3 rfl) ?_
        refine lv_iconst (v := 1) hx hb dX9_address_69 (by decide) ?_
        refine lv_icmp_ne (tgt := 80) hx hb dX9_address_70 (by decide) (fun c_8 => ?_) (fun c_8 => ?_)
        · have hm1 : ¬ md = 1 := fun z => c_8 (by rw [z]; rfl)
          refine lv_aload_n hx hb dX9_address_80 rfl (lv_at hl 2 rfl) ?_
          refine fx_get (D := D) (ci := 9) (v := .ref Mnears) (C := RX9) (T := TX9) (N := 78) hx hb hts in_X9 hown hK hP 2 rfl rfl 10 (by decide) (hts _ kX9_33) (fun _ h9 => h9) (k10_g_5) dX9_address_81 ?_
          refine lv_iload_n hx hb dX9_address_84 rfl (lv_at hl 3 rfl) ?_
          refine lv_iconst (v := 2) hx hb dX9_address_85 (by decide) ?_
          refine lv_isub hx hb dX9_address_86 ?_
          refine ri (y := nI (md - 2)) (pk_sub (b := 2) (by omega)) ?_
          refine ax_lld hx hb hK hP 0 2 rfl rfl (md - 2) (rfl) (by omega) (by omega) dX9_address_87 ?_
          refine rl (y := lN (cN (md - 2))) (hc.1 _ (by omega)) ?_
          refine lv_lload hx hb dX9_address_88 (lv_at hl 0 rfl) ?_
          refine lv_ladd hx hb dX9_address_90 ?_
          refine rl (y := lN (cN (md - 2) + (rdN b ae 5 aa 0).2.1)) (lN_add _ _) ?_
          refine lv_lstore (lv' := [(4, .long (lN (cN (md - 2) + (rdN b ae 5 aa 0).2.1))), (6, .long (lN (rdN b ae 5 aa 0).2.1)), (2, .long (lN (zz + n - ww))), (0, .ref mm), (1, .int (nI md))]) hx hb dX9_address_91 hl (by decide) rfl (fun ls hl => ?_)
          refine lv_goto (tgt := 159) hx hb dX9_address_93 (by decide) ?_
          have hx9 : (lN (cN (md - 2) + (rdN b ae 5 aa 0).2.1)).toInt = adV near md (zz + n - ww) (rdA b ae near md aa).2.1 cN cS := by rw [hrA, adV, if_neg hm2, if_neg hm1, if_pos (by omega)]; exact (pk_lT (by have := hcN (md - 2) (by omega); omega)).trans (by omega)
          refine lv_lload hx hb dX9_address_159 (lv_at hl 0 rfl) ?_
          refine lv_lconst (v := 0) hx hb dX9_address_161 (by decide) ?_
          refine lv_lload_n hx hb dX9_address_162 rfl (lv_at hl 2 rfl) ?_
          refine lv_lconst (v := 1) hx hb dX9_address_163 (by decide) ?_
          refine lv_lsub hx hb dX9_address_164 ?_
          refine jn_i (wr := [(Mnears, .inl (cJ, 8, .inr (.inl mnears))), (Msames, .inl (cJ, 1024, .inr (.inl msames))), (mm, .inr (9, fl 78 (va_up g_5 49 (.int (nI (rdN b ae 5 aa 0).2.2))))), (Mrows, .inl (cB, 32000, .inl mrows))]) hA hP hD hS [] [0, 1, 2, 3] rfl rfl (by decide) (by decide) (rn_S (As := [.long (lN (cN (md - 2) + (rdN b ae 5 aa 0).2.1)), .long 0, .long (lN (zz + n - ww) - 1)]) (rest := []) ⟨hx, hb, hml, hown, hts⟩ (cvS 3 hts zc_yX9_in zi_X9 zs_yX9_in kX9_136 (by decide +kernel) rfl rfl ⟨Nat.le_of_ble_eq_true rfl, Nat.le_of_ble_eq_true rfl⟩) (m_in l D cI cB cJ cR (lN (cN (md - 2) + (rdN b ae 5 aa 0).2.1)) 0 (lN (zz + n - ww) - 1)  H.size) hK hNw hMk hA hP hD hS [] rfl rfl (by decide) rfl hl.1 rfl (Nat.le_of_ble_eq_true rfl) dX9_address_165 ⟨Nat.le_of_ble_eq_true rfl, Nat.le_of_ble_eq_true rfl⟩) (fun ri u9 H locs hri hP hD hS => ?_)
          obtain ⟨rib, rfl, hri⟩ := hri
          try dsimp only at hri
          have hP : va_P D vwCl [(Mnears, .inl (cJ, 8, .inr (.inl mnears))), (Msames, .inl (cJ, 1024, .inr (.inl msames))), (mm, .inr (9, fl 78 (va_up g_5 49 (.int (nI (rdN b ae 5 aa 0).2.2))))), (Mrows, .inl (cB, 32000, .inl mrows))] H := hP
          have hD : va_D A0 [(Mnears, .inl (cJ, 8, .inr (.inl mnears))), (Msames, .inl (cJ, 1024, .inr (.inl msames))), (mm, .inr (9, fl 78 (va_up g_5 49 (.int (nI (rdN b ae 5 aa 0).2.2))))), (Mrows, .inl (cB, 32000, .inl mrows))] := hD
          have hif := adOk_iff (cN := cN) (cS := cS) (by rw [hrA]; exact h0) hx9 (show (zz + n - ww) < 2 ^ 30 by omega)
          rw [← hri] at hif
          refine bz_eq (tgt := 176) hx hb dX9_address_168 (by decide) (fun c_9 => ?_) (fun c_9 => ?_)
          · refine lv_ldc2 hx hb hown (hts _ kX9_158) dX9_address_176 ?_
            have hP := hP.sub (ws' := [(mm, .inr (9, fl 78 (va_up g_5 49 (.int (nI (rdN b ae 5 aa 0).2.2))))), (Mrows, .inl (cB, 32000, .inl mrows)), (Mnears, .inl (cJ, 8, .inr (.inl mnears))), (Msames, .inl (cJ, 1024, .inr (.inl msames)))]) [2, 3, 0, 1] rfl
            have hD := hD.sub (ws' := [(mm, .inr (9, fl 78 (va_up g_5 49 (.int (nI (rdN b ae 5 aa 0).2.2))))), (Mrows, .inl (cB, 32000, .inl mrows)), (Mnears, .inl (cJ, 8, .inr (.inl mnears))), (Msames, .inl (cJ, 1024, .inr (.inl msames)))]) [2, 3, 0, 1] (by decide) rfl
            exact hret 179 ls _ _ _ ((va_up g_5 49 (.int (nI (rdN b ae 5 aa 0).2.2))), (nI (rdN b ae 5 aa 0).2.2), (nI (rdN b ae 5 aa 0).2.2)) dX9_address_179 hP hD hS (⟨(frm_up fr_g_5 (by decide)), rfl, partAt_w_4, ⟨fun z => absurd (hif.mpr z) (by rw [c_9]; decide), fun _ => rfl⟩⟩)
          · refine lv_lload hx hb dX9_address_171 (lv_at hl 0 rfl) ?_
            refine lv_goto (tgt := 179) hx hb dX9_address_173 (by decide) ?_
            have hP := hP.sub (ws' := [(mm, .inr (9, fl 78 (va_up g_5 49 (.int (nI (rdN b ae 5 aa 0).2.2))))), (Mrows, .inl (cB, 32000, .inl mrows)), (Mnears, .inl (cJ, 8, .inr (.inl mnears))), (Msames, .inl (cJ, 1024, .inr (.inl msames)))]) [2, 3, 0, 1] rfl
            have hD := hD.sub (ws' := [(mm, .inr (9, fl 78 (va_up g_5 49 (.int (nI (rdN b ae 5 aa 0).2.2))))), (Mrows, .inl (cB, 32000, .inl mrows)), (Mnears, .inl (cJ, 8, .inr (.inl mnears))), (Msames, .inl (cJ, 1024, .inr (.inl msames)))]) [2, 3, 0, 1] (by decide) rfl
            exact hret 179 ls _ _ _ ((va_up g_5 49 (.int (nI (rdN b ae 5 aa 0).2.2))), (nI (rdN b ae 5 aa 0).2.2), (nI (rdN b ae 5 aa 0).2.2)) dX9_address_179 hP hD hS (⟨(frm_up fr_g_5 (by decide)), rfl, partAt_w_4, ⟨fun z => ⟨l_of (by rw [hx9, adX]; have := z.2.1; omega) (by rw [adX]; have := z.2.2; omega), by rw [hrA]⟩, fun z => absurd (hif.mp c_9) z⟩⟩)
        · have hm1 : md = 1 := (nI_eq (b := 1) (by omega) (by decide)).mp c_8
          refine lv_lload_n hx hb dX9_address_73 rfl (lv_at hl 1 rfl) ?_
          refine lv_lload hx hb dX9_address_74 (lv_at hl 0 rfl) ?_
          refine lv_lsub hx hb dX9_address_76 ?_
          refine lv_goto (tgt := 91) hx hb dX9_address_77 (by decide) ?_
          refine lv_lstore (lv' := [(4, .long ((lN (zz + n - ww)) - (lN (rdN b ae 5 aa 0).2.1))), (6, .long (lN (rdN b ae 5 aa 0).2.1)), (2, .long (lN (zz + n - ww))), (0, .ref mm), (1, .int (nI md))]) hx hb dX9_address_91 hl (by decide) rfl (fun ls hl => ?_)
          refine lv_goto (tgt := 159) hx hb dX9_address_93 (by decide) ?_
          have hx9 : (lN (zz + n - ww) - lN (rdN b ae 5 aa 0).2.1).toInt = adV near md (zz + n - ww) (rdA b ae near md aa).2.1 cN cS := by rw [hrA, adV, if_neg hm2, if_pos hm1]; exact lsub_toInt (by omega) (by omega)
          refine lv_lload hx hb dX9_address_159 (lv_at hl 0 rfl) ?_
          refine lv_lconst (v := 0) hx hb dX9_address_161 (by decide) ?_
          refine lv_lload_n hx hb dX9_address_162 rfl (lv_at hl 2 rfl) ?_
          refine lv_lconst (v := 1) hx hb dX9_address_163 (by decide) ?_
          refine lv_lsub hx hb dX9_address_164 ?_
          refine jn_i (wr := [(Mnears, .inl (cJ, 8, .inr (.inl mnears))), (Msames, .inl (cJ, 1024, .inr (.inl msames))), (mm, .inr (9, fl 78 (va_up g_5 49 (.int (nI (rdN b ae 5 aa 0).2.2))))), (Mrows, .inl (cB, 32000, .inl mrows))]) hA hP hD hS [] [0, 1, 2, 3] rfl rfl (by decide) (by decide) (rn_S (As := [.long (lN (zz + n - ww) - lN (rdN b ae 5 aa 0).2.1), .long 0, .long (lN (zz + n - ww) - 1)]) (rest := []) ⟨hx, hb, hml, hown, hts⟩ (cvS 3 hts zc_yX9_in zi_X9 zs_yX9_in kX9_136 (by decide +kernel) rfl rfl ⟨Nat.le_of_ble_eq_true rfl, Nat.le_of_ble_eq_true rfl⟩) (m_in l D cI cB cJ cR (lN (zz + n - ww) - lN (rdN b ae 5 aa 0).2.1) 0 (lN (zz + n - ww) - 1)  H.size) hK hNw hMk hA hP hD hS [] rfl rfl (by decide) rfl hl.1 rfl (Nat.le_of_ble_eq_true rfl) dX9_address_165 ⟨Nat.le_of_ble_eq_true rfl, Nat.le_of_ble_eq_true rfl⟩) (fun ri u9 H locs hri hP hD hS => ?_)
          obtain ⟨rib, rfl, hri⟩ := hri
          try dsimp only at hri
          have hP : va_P D vwCl [(Mnears, .inl (cJ, 8, .inr (.inl mnears))), (Msames, .inl (cJ, 1024, .inr (.inl msames))), (mm, .inr (9, fl 78 (va_up g_5 49 (.int (nI (rdN b ae 5 aa 0).2.2))))), (Mrows, .inl (cB, 32000, .inl mrows))] H := hP
          have hD : va_D A0 [(Mnears, .inl (cJ, 8, .inr (.inl mnears))), (Msames, .inl (cJ, 1024, .inr (.inl msames))), (mm, .inr (9, fl 78 (va_up g_5 49 (.int (nI (rdN b ae 5 aa 0).2.2))))), (Mrows, .inl (cB, 32000, .inl mrows))] := hD
          have hif := adOk_iff (cN := cN) (cS := cS) (by rw [hrA]; exact h0) hx9 (show (zz + n - ww) < 2 ^ 30 by omega)
          rw [← hri] at hif
          refine bz_eq (tgt := 176) hx hb dX9_address_168 (by decide) (fun c_10 => ?_) (fun c_10 => ?_)
          · refine lv_ldc2 hx hb hown (hts _ kX9_158) dX9_address_176 ?_
            have hP := hP.sub (ws' := [(mm, .inr (9, fl 78 (va_up g_5 49 (.int (nI (rdN b ae 5 aa 0).2.2))))), (Mrows, .inl (cB, 32000, .inl mrows)), (Mnears, .inl (cJ, 8, .inr (.inl mnears))), (Msames, .inl (cJ, 1024, .inr (.inl msames)))]) [2, 3, 0, 1] rfl
            have hD := hD.sub (ws' := [(mm, .inr (9, fl 78 (va_up g_5 49 (.int (nI (rdN b ae 5 aa 0).2.2))))), (Mrows, .inl (cB, 32000, .inl mrows)), (Mnears, .inl (cJ, 8, .inr (.inl mnears))), (Msames, .inl (cJ, 1024, .inr (.inl msames)))]) [2, 3, 0, 1] (by decide) rfl
            exact hret 179 ls _ _ _ ((va_up g_5 49 (.int (nI (rdN b ae 5 aa 0).2.2))), (nI (rdN b ae 5 aa 0).2.2), (nI (rdN b ae 5 aa 0).2.2)) dX9_address_179 hP hD hS (⟨(frm_up fr_g_5 (by decide)), rfl, partAt_w_4, ⟨fun z => absurd (hif.mpr z) (by rw [c_10]; decide), fun _ => rfl⟩⟩)
          · refine lv_lload hx hb dX9_address_171 (lv_at hl 0 rfl) ?_
            refine lv_goto (tgt := 179) hx hb dX9_address_173 (by decide) ?_
            have hP := hP.sub (ws' := [(mm, .inr (9, fl 78 (va_up g_5 49 (.int (nI (rdN b ae 5 aa 0).2.2))))), (Mrows, .inl (cB, 32000, .inl mrows)), (Mnears, .inl (cJ, 8, .inr (.inl mnears))), (Msames, .inl (cJ, 1024, .inr (.inl msames)))]) [2, 3, 0, 1] rfl
            have hD := hD.sub (ws' := [(mm, .inr (9, fl 78 (va_up g_5 49 (.int (nI (rdN b ae 5 aa 0).2.2))))), (Mrows, .inl (cB, 32000, .inl mrows)), (Mnears, .inl (cJ, 8, .inr (.inl mnears))), (Msames, .inl (cJ, 1024, .inr (.inl msames)))]) [2, 3, 0, 1] (by decide) rfl
            exact hret 179 ls _ _ _ ((va_up g_5 49 (.int (nI (rdN b ae 5 aa 0).2.2))), (nI (rdN b ae 5 aa 0).2.2), (nI (rdN b ae 5 aa 0).2.2)) dX9_address_179 hP hD hS (⟨(frm_up fr_g_5 (by decide)), rfl, partAt_w_4, ⟨fun z => ⟨l_of (by rw [hx9, adX]; have := z.2.1; omega) (by rw [adX]; have := z.2.2; omega), by rw [hrA]⟩, fun z => absurd (hif.mp c_10) z⟩⟩)
      · have hm : md = 0 := Decidable.byContradiction (fun z => nI_ne0 (Nat.pos_of_ne_zero z) (by omega) c_7)
        refine lv_lload hx hb dX9_address_63 (lv_at hl 0 rfl) ?_
        refine lv_goto (tgt := 91) hx hb dX9_address_65 (by decide) ?_
        refine lv_lstore (lv' := [(4, .long (lN (rdN b ae 5 aa 0).2.1)), (6, .long (lN (rdN b ae 5 aa 0).2.1)), (2, .long (lN (zz + n - ww))), (0, .ref mm), (1, .int (nI md))]) hx hb dX9_address_91 hl (by decide) rfl (fun ls hl => ?_)
        refine lv_goto (tgt := 159) hx hb dX9_address_93 (by decide) ?_
        have hx9 : (lN (rdN b ae 5 aa 0).2.1).toInt = adV near md (zz + n - ww) (rdA b ae near md aa).2.1 cN cS := by rw [hrA, adV, if_neg hm2, if_neg (by omega), if_neg (by omega)]; exact pk_lT (by omega)
        refine lv_lload hx hb dX9_address_159 (lv_at hl 0 rfl) ?_
        refine lv_lconst (v := 0) hx hb dX9_address_161 (by decide) ?_
        refine lv_lload_n hx hb dX9_address_162 rfl (lv_at hl 2 rfl) ?_
        refine lv_lconst (v := 1) hx hb dX9_address_163 (by decide) ?_
        refine lv_lsub hx hb dX9_address_164 ?_
        refine jn_i (wr := [(Mnears, .inl (cJ, 8, .inr (.inl mnears))), (Msames, .inl (cJ, 1024, .inr (.inl msames))), (mm, .inr (9, fl 78 (va_up g_5 49 (.int (nI (rdN b ae 5 aa 0).2.2))))), (Mrows, .inl (cB, 32000, .inl mrows))]) hA hP hD hS [] [0, 1, 2, 3] rfl rfl (by decide) (by decide) (rn_S (As := [.long (lN (rdN b ae 5 aa 0).2.1), .long 0, .long (lN (zz + n - ww) - 1)]) (rest := []) ⟨hx, hb, hml, hown, hts⟩ (cvS 3 hts zc_yX9_in zi_X9 zs_yX9_in kX9_136 (by decide +kernel) rfl rfl ⟨Nat.le_of_ble_eq_true rfl, Nat.le_of_ble_eq_true rfl⟩) (m_in l D cI cB cJ cR (lN (rdN b ae 5 aa 0).2.1) 0 (lN (zz + n - ww) - 1)  H.size) hK hNw hMk hA hP hD hS [] rfl rfl (by decide) rfl hl.1 rfl (Nat.le_of_ble_eq_true rfl) dX9_address_165 ⟨Nat.le_of_ble_eq_true rfl, Nat.le_of_ble_eq_true rfl⟩) (fun ri u9 H locs hri hP hD hS => ?_)
        obtain ⟨rib, rfl, hri⟩ := hri
        try dsimp only at hri
        have hP : va_P D vwCl [(Mnears, .inl (cJ, 8, .inr (.inl mnears))), (Msames, .inl (cJ, 1024, .inr (.inl msames))), (mm, .inr (9, fl 78 (va_up g_5 49 (.int (nI (rdN b ae 5 aa 0).2.2))))), (Mrows, .inl (cB, 32000, .inl mrows))] H := hP
        have hD : va_D A0 [(Mnears, .inl (cJ, 8, .inr (.inl mnears))), (Msames, .inl (cJ, 1024, .inr (.inl msames))), (mm, .inr (9, fl 78 (va_up g_5 49 (.int (nI (rdN b ae 5 aa 0).2.2))))), (Mrows, .inl (cB, 32000, .inl mrows))] := hD
        have hif := adOk_iff (cN := cN) (cS := cS) (by rw [hrA]; exact h0) hx9 (show (zz + n - ww) < 2 ^ 30 by omega)
        rw [← hri] at hif
        refine bz_eq (tgt := 176) hx hb dX9_address_168 (by decide) (fun c_11 => ?_) (fun c_11 => ?_)
        · refine lv_ldc2 hx hb hown (hts _ kX9_158) dX9_address_176 ?_
          have hP := hP.sub (ws' := [(mm, .inr (9, fl 78 (va_up g_5 49 (.int (nI (rdN b ae 5 aa 0).2.2))))), (Mrows, .inl (cB, 32000, .inl mrows)), (Mnears, .inl (cJ, 8, .inr (.inl mnears))), (Msames, .inl (cJ, 1024, .inr (.inl msames)))]) [2, 3, 0, 1] rfl
          have hD := hD.sub (ws' := [(mm, .inr (9, fl 78 (va_up g_5 49 (.int (nI (rdN b ae 5 aa 0).2.2))))), (Mrows, .inl (cB, 32000, .inl mrows)), (Mnears, .inl (cJ, 8, .inr (.inl mnears))), (Msames, .inl (cJ, 1024, .inr (.inl msames)))]) [2, 3, 0, 1] (by decide) rfl
          exact hret 179 ls _ _ _ ((va_up g_5 49 (.int (nI (rdN b ae 5 aa 0).2.2))), (nI (rdN b ae 5 aa 0).2.2), (nI (rdN b ae 5 aa 0).2.2)) dX9_address_179 hP hD hS (⟨(frm_up fr_g_5 (by decide)), rfl, partAt_w_4, ⟨fun z => absurd (hif.mpr z) (by rw [c_11]; decide), fun _ => rfl⟩⟩)
        · refine lv_lload hx hb dX9_address_171 (lv_at hl 0 rfl) ?_
          refine lv_goto (tgt := 179) hx hb dX9_address_173 (by decide) ?_
          have hP := hP.sub (ws' := [(mm, .inr (9, fl 78 (va_up g_5 49 (.int (nI (rdN b ae 5 aa 0).2.2))))), (Mrows, .inl (cB, 32000, .inl mrows)), (Mnears, .inl (cJ, 8, .inr (.inl mnears))), (Msames, .inl (cJ, 1024, .inr (.inl msames)))]) [2, 3, 0, 1] rfl
          have hD := hD.sub (ws' := [(mm, .inr (9, fl 78 (va_up g_5 49 (.int (nI (rdN b ae 5 aa 0).2.2))))), (Mrows, .inl (cB, 32000, .inl mrows)), (Mnears, .inl (cJ, 8, .inr (.inl mnears))), (Msames, .inl (cJ, 1024, .inr (.inl msames)))]) [2, 3, 0, 1] (by decide) rfl
          exact hret 179 ls _ _ _ ((va_up g_5 49 (.int (nI (rdN b ae 5 aa 0).2.2))), (nI (rdN b ae 5 aa 0).2.2), (nI (rdN b ae 5 aa 0).2.2)) dX9_address_179 hP hD hS (⟨(frm_up fr_g_5 (by decide)), rfl, partAt_w_4, ⟨fun z => ⟨l_of (by rw [hx9, adX]; have := z.2.1; omega) (by rw [adX]; have := z.2.2; omega), by rw [hrA]⟩, fun z => absurd (hif.mp c_11) z⟩⟩)
    · have y1 := w2 h0
      subst y1
      refine lv_lstore (lv' := [(6, .long (-1)), (2, .long (lN (zz + n - ww))), (0, .ref mm), (1, .int (nI md))]) hx hb dX9_address_38 hl (by decide) rfl (fun ls hl => ?_)
      refine lv_lload hx hb dX9_address_40 (lv_at hl 0 rfl) ?_
      refine lv_lconst (v := 0) hx hb dX9_address_42 (by decide) ?_
      refine W.lcmp hx hb dX9_address_43 ?_
      refine lv_if_ge (tgt := 51) hx hb dX9_address_44 (by decide) (fun c_12 => absurd c_12 (by decide)) (fun c_12 => ?_)
      refine lv_ldc2 hx hb hown (hts _ kX9_158) dX9_address_47 ?_
      have hP := hP.sub (ws' := [(mm, .inr (9, fl 78 g_5)), (Mrows, .inl (cB, 32000, .inl mrows)), (Mnears, .inl (cJ, 8, .inr (.inl mnears))), (Msames, .inl (cJ, 1024, .inr (.inl msames)))]) [2, 3, 0, 1] rfl
      have hD := hD.sub (ws' := [(mm, .inr (9, fl 78 g_5)), (Mrows, .inl (cB, 32000, .inl mrows)), (Mnears, .inl (cJ, 8, .inr (.inl mnears))), (Msames, .inl (cJ, 1024, .inr (.inl msames)))]) [2, 3, 0, 1] (by decide) rfl
      exact hret 50 ls _ _ _ (g_5, nI aa, pp) dX9_address_50 hP hD hS (⟨fr_g_5, k49_g_5, partAt_w_4, ⟨fun z => absurd (by have := z.1; rw [hrA] at this; exact this) h0, fun _ => rfl⟩⟩)
