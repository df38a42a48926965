theorem addI_len {a b : Nat} : (addI a b).length ≤ 1 ∧ (a = b → (addI a b).length = 0) := by
  unfold addI
  by_cases q : a < b
  · rw [if_pos q]; exact ⟨Nat.le_refl _, fun z => by omega⟩
  · rw [if_neg q]; exact ⟨Nat.zero_le _, fun _ => rfl⟩
theorem addI_kind {a b : Nat} {L : List Ins} (h : ∀ i, i < L.length → (L.getD i (0, 0, 0, 0)).1 < 4) : ∀ i, i < (L ++ addI a b).length → ((L ++ addI a b).getD i (0, 0, 0, 0)).1 < 4 := by
  intro i hi
  by_cases q : i < L.length
  · rw [gD_l q]; exact h i q
  · rw [gD_r (by omega)]
    unfold addI at hi ⊢
    by_cases z : a < b
    · rw [if_pos z] at hi ⊢
      rw [List.length_append] at hi
      have hi : i < L.length + 1 := hi
      rw [show i - L.length = 0 by omega]; show 1 < 4; decide
    · rw [if_neg z] at hi
      rw [List.append_nil] at hi
      exact absurd hi q
theorem kind_put {L : List Ins} {x : Ins} (h : ∀ i, i < L.length → (L.getD i (0, 0, 0, 0)).1 < 4) (hx : x.1 < 4) : ∀ i, i < (L ++ [x]).length → ((L ++ [x]).getD i (0, 0, 0, 0)).1 < 4 := by
  intro i hi
  rw [List.length_append] at hi
  have hi : i < L.length + 1 := hi
  by_cases q : i < L.length
  · rw [gD_l q]; exact h i q
  · rw [gD_r (by omega), show i - L.length = 0 by omega]; exact hx
set_option maxHeartbeats 4000000 in
set_option maxRecDepth 100000 in
theorem m_choose (l : Launch) (D : va_G) (cI cB cJ cR : ClassId) (mm : Nat) (g : Nat → Value) (Mu : Nat) (MqKind : Nat) (MqSize : Nat) (MqAt : Nat) (MqAddress : Nat) (MqMode : Nat) (mu : Nat → Int32) (mqKind : Nat → Int32) (mqSize : Nat → Int32) (mqAt : Nat → Int32) (mqAddress : Nat → Int32) (mqMode : Nat → Int32) (sg : Nat) (en : Nat) (way : Nat) (ub : Nat → Nat) (g_uBegin : g 65 = .int (nI sg)) (g_uEnd : g 66 = .int (nI en)) (g_u : g 64 = .ref Mu) (g_qKind : g 68 = .ref MqKind) (g_qSize : g 69 = .ref MqSize) (g_qAt : g 70 = .ref MqAt) (g_qAddress : g 71 = .ref MqAddress) (g_qMode : g 72 = .ref MqMode) (hse : sg ≤ en) (he8 : en ≤ 8000) (h4k : en - sg ≤ 4000) (hway : way ≤ 2) (hub : ∀ j, ub j < 256) (hu : ∀ j, j < en → mu j = s8 (ub j)) : CMv l yX9_choose cX9_choose 6 none ({ frames := 1, cells := 0, slots := 0, locals := 25 }) D (tyA cI cB cJ cR) 0 0 [.ref mm, .int (nI way)] [(mm, .inr (9, fl 78 g)), (Mu, .inl (cB, 8000, .inl mu)), (MqKind, .inl (cI, 4100, .inl mqKind)), (MqSize, .inl (cI, 4100, .inl mqSize)), (MqAt, .inl (cI, 4100, .inl mqAt)), (MqAddress, .inl (cI, 4100, .inl mqAddress)), (MqMode, .inl (cI, 4100, .inl mqMode))] (fun (u9 : (Nat → Value) × (List Ins) × (Nat → Int32) × (Nat → Int32) × (Nat → Int32) × (Nat → Int32) × (Nat → Int32)) => match u9 with | (g9, L9, qKind2, qSize2, qAt2, qAddress2, qMode2) => frm [67, 73] g g9 ∧ g9 67 = .int (nI L9.length) ∧ L9 = insW way sg en (fun j => nI (ub j)) ∧ qR qKind2 qSize2 qAt2 qAddress2 qMode2 L9) (fun (u9 : (Nat → Value) × (List Ins) × (Nat → Int32) × (Nat → Int32) × (Nat → Int32) × (Nat → Int32) × (Nat → Int32)) => match u9 with | (g9, L9, qKind2, qSize2, qAt2, qAddress2, qMode2) => [(mm, .inr (9, fl 78 g9)), (Mu, .inl (cB, 8000, .inl mu)), (MqKind, .inl (cI, 4100, .inl qKind2)), (MqSize, .inl (cI, 4100, .inl qSize2)), (MqAt, .inl (cI, 4100, .inl qAt2)), (MqAddress, .inl (cI, 4100, .inl qAddress2)), (MqMode, .inl (cI, 4100, .inl qMode2))]) := by
  refine st_v (cc := cX9_choose) (maxL := 6) (by decide) (Nat.le_of_ble_eq_true rfl) ?_
  intro p0 e0 s0 m0 below meth c0 A0 Q0 hBD hret hP hD hS ls hl
  obtain ⟨hx, hb, hml, hown, hts, hnm, hK, hNw, hMk, hA⟩ := hBD
  have hl : lv_has ls 6 [(0, .ref mm), (1, .int (nI way))] := hl
  have hP : va_P D vwCl [(mm, .inr (9, fl 78 g)), (Mu, .inl (cB, 8000, .inl mu)), (MqKind, .inl (cI, 4100, .inl mqKind)), (MqSize, .inl (cI, 4100, .inl mqSize)), (MqAt, .inl (cI, 4100, .inl mqAt)), (MqAddress, .inl (cI, 4100, .inl mqAddress)), (MqMode, .inl (cI, 4100, .inl mqMode))] s0.heap := hP
  have hD : va_D A0 [(mm, .inr (9, fl 78 g)), (Mu, .inl (cB, 8000, .inl mu)), (MqKind, .inl (cI, 4100, .inl mqKind)), (MqSize, .inl (cI, 4100, .inl mqSize)), (MqAt, .inl (cI, 4100, .inl mqAt)), (MqAddress, .inl (cI, 4100, .inl mqAddress)), (MqMode, .inl (cI, 4100, .inl mqMode))] := hD
  obtain ⟨R9, hR9⟩ : ∃ R9, R9 = insW way sg en (fun j => nI (ub j)) := ⟨_, rfl⟩
  refine lv_aload_n hx hb dX9_choose_0 rfl (lv_at hl 0 rfl) ?_
  refine lv_iconst (v := 0) hx hb dX9_choose_1 (by decide) ?_
  refine ri (y := nI 0) (nI_0.symm) ?_
  refine fx_put (D := D) (ci := 9) (v := .int (nI 0)) (ty := .int) (C := RX9) (T := TX9) (N := 78) hx hb hts in_X9 tyX9 tyX9_ok nmX9 hown hK hP hD hS 0 rfl rfl 67 (by decide) (hts _ kX9_356) (fun _ h9 => h9) rfl (by decide +kernel) rfl rfl dX9_choose_2 (fun H locs hP hD hS => ?_)
  have hP : va_P D vwCl [(mm, .inr (9, fl 78 (va_up g 67 (.int (nI 0))))), (Mu, .inl (cB, 8000, .inl mu)), (MqKind, .inl (cI, 4100, .inl mqKind)), (MqSize, .inl (cI, 4100, .inl mqSize)), (MqAt, .inl (cI, 4100, .inl mqAt)), (MqAddress, .inl (cI, 4100, .inl mqAddress)), (MqMode, .inl (cI, 4100, .inl mqMode))] H := hP
  have hD : va_D A0 [(mm, .inr (9, fl 78 (va_up g 67 (.int (nI 0))))), (Mu, .inl (cB, 8000, .inl mu)), (MqKind, .inl (cI, 4100, .inl mqKind)), (MqSize, .inl (cI, 4100, .inl mqSize)), (MqAt, .inl (cI, 4100, .inl mqAt)), (MqAddress, .inl (cI, 4100, .inl mqAddress)), (MqMode, .inl (cI, 4100, .inl mqMode))] := hD
  refine lv_aload_n hx hb dX9_choose_5 rfl (lv_at hl 0 rfl) ?_
  refine fx_get (D := D) (ci := 9) (v := .int (nI sg)) (C := RX9) (T := TX9) (N := 78) hx hb hts in_X9 hown hK hP 0 rfl rfl 65 (by decide) (hts _ kX9_365) (fun _ h9 => h9) (g_uBegin) dX9_choose_6 ?_
  refine lv_istore_n (lv' := [(2, .int (nI sg)), (0, .ref mm), (1, .int (nI way))]) hx hb dX9_choose_9 rfl hl (by decide) rfl (fun ls hl => ?_)
  have loop : ∀ (k9 : Nat) (g5_loop : Nat → Value) (k : Nat) (ad : Nat) (p_ : Nat) (Ld : List Ins) (qKind7 : Nat → Int32) (qSize7 : Nat → Int32) (qAt7 : Nat → Int32) (qAddress7 : Nat → Int32) (qMode7 : Nat → Int32) (H : Heap) (locs : List Loc) (ls : Array Slot), k < k9 → (frm [67, 73] g g5_loop) → (g5_loop 67 = .int (nI (Ld ++ addI ad p_).length)) → (ad ≤ p_) → (sg ≤ ad) → (p_ ≤ en) → (en ≤ p_ + k) → (way = 0 → p_ = sg ∧ ad = sg ∧ Ld = []) → (¬ way = 0 → R9 = Ld ++ chW (fun p => runF (fun j => nI (ub j)) p (en - p) p) (fun p => bF (eqF (fun j => nI (ub j))) (en - p) p p) way en k ad p_) → (naL Ld) → (∀ i, i < Ld.length → (Ld.getD i (0, 0, 0, 0)).1 < 4) → (Ld.length ≤ ad - sg) → (qR qKind7 qSize7 qAt7 qAddress7 qMode7 (Ld ++ addI ad p_)) → va_P D vwCl [(mm, .inr (9, fl 78 g5_loop)), (Mu, .inl (cB, 8000, .inl mu)), (MqKind, .inl (cI, 4100, .inl qKind7)), (MqSize, .inl (cI, 4100, .inl qSize7)), (MqAt, .inl (cI, 4100, .inl qAt7)), (MqAddress, .inl (cI, 4100, .inl qAddress7)), (MqMode, .inl (cI, 4100, .inl qMode7))] H → va_D A0 [(mm, .inr (9, fl 78 g5_loop)), (Mu, .inl (cB, 8000, .inl mu)), (MqKind, .inl (cI, 4100, .inl qKind7)), (MqSize, .inl (cI, 4100, .inl qSize7)), (MqAt, .inl (cI, 4100, .inl qAt7)), (MqAddress, .inl (cI, 4100, .inl qAddress7)), (MqMode, .inl (cI, 4100, .inl qMode7))] → va_S A0 s0.heap H locs → lv_has ls 6 [(0, .ref mm), (1, .int (nI way)), (2, .int (nI p_))] → W p0 l e0 ({ frames := 1, cells := 0, slots := 0, locals := 25 }) s0 m0 ([.ref mm, .int (nI way)] : List Value).toArray below meth c0 H locs 0 0 Q0 (F0 m0 10 ls []) := by
    intro k9
    induction k9 with
    | zero => intro g5_loop k ad p_ Ld qKind7 qSize7 qAt7 qAddress7 qMode7 H locs ls hk9; exact absurd hk9 (Nat.not_lt_zero _)
    | succ k9 ih =>
      intro g5_loop k ad p_ Ld qKind7 qSize7 qAt7 qAddress7 qMode7 H locs ls hk9 hf_loop k_waits_loop hap hsa hpe hek h0w hR hna hql hlL hq hP hD hS hl
      have hal := addI_len (a := ad) (b := p_)
      have hcl : (Ld ++ addI ad p_).length ≤ p_ - sg := by rw [List.length_append]; by_cases z : ad = p_; have := hal.2 z; omega; omega
      have hqk := addI_kind (a := ad) (b := p_) hql
      refine lv_iload_n hx hb dX9_choose_10 rfl (lv_at hl 2 rfl) ?_
      refine lv_aload_n hx hb dX9_choose_11 rfl (lv_at hl 0 rfl) ?_
      refine fx_get (D := D) (ci := 9) (v := .int (nI en)) (C := RX9) (T := TX9) (N := 78) hx hb hts in_X9 hown hK hP 0 rfl rfl 66 (by decide) (hts _ kX9_362) (fun _ h9 => h9) ((hf_loop 66 (by decide)).trans g_uEnd) dX9_choose_12 ?_
      refine lv_icmp_ge (tgt := 178) hx hb dX9_choose_15 (by decide) (fun c_1 => ?_) (fun c_1 => ?_)
      · have hp9 : p_ = en := by have := (nI_leI (by omega) (by omega)).mp c_1; omega
        have hfin : (Ld ++ addI ad p_) = R9 := by by_cases z : way = 0; obtain ⟨z1, z2, z3⟩ := h0w z; rw [hR9, insW, if_pos z, z3, z2, hp9]; rfl; rw [hR z]; congr 1; cases k with | zero => rw [chW, hp9] | succ k => rw [chW, if_neg (by omega), hp9]
        exact hret 178 ls _ _ (g5_loop, (Ld ++ addI ad p_), qKind7, qSize7, qAt7, qAddress7, qMode7) dX9_choose_178 hP hD hS (⟨hf_loop, k_waits_loop, ⟨hfin.trans hR9, hq⟩⟩)
      · have hp9 : p_ < en := Nat.not_le.mp (fun q => c_1 (nI_le q (by omega)))
        refine lv_iload_n hx hb dX9_choose_18 rfl (lv_at hl 1 rfl) ?_
        refine lv_if_ne (tgt := 36) hx hb dX9_choose_19 (by decide) (fun c_2 => ?_) (fun c_2 => ?_)
        · have hw0 : ¬ way = 0 := fun z => c_2 (by rw [z]; decide)
          have hRk := hR hw0
          obtain ⟨k1, hk1⟩ : ∃ k1, k = k1 + 1 := ⟨k - 1, by omega⟩
          subst hk1
          rw [chW, if_pos hp9] at hRk
          refine lv_iconst (v := 1) hx hb dX9_choose_36 (by decide) ?_
          refine ri (y := nI 1) (rfl) ?_
          refine lv_istore_n (lv' := [(3, .int (nI 1)), (0, .ref mm), (1, .int (nI way)), (2, .int (nI p_))]) hx hb dX9_choose_37 rfl hl (by decide) rfl (fun ls hl => ?_)
          have lr : ∀ (k9 : Nat) (g5_lr : Nat → Value) (r_ : Nat) (H : Heap) (locs : List Loc) (ls : Array Slot), en - p_ - r_ < k9 → (frm [67, 73] g g5_lr) → (g5_lr 67 = .int (nI (Ld ++ addI ad p_).length)) → (1 ≤ r_) → (p_ + r_ ≤ en) → (r_ + runF (fun j => nI (ub j)) p_ (en - p_ - r_) (p_ + r_) = (runF (fun j => nI (ub j)) p_ (en - p_) p_)) → va_P D vwCl [(mm, .inr (9, fl 78 g5_lr)), (Mu, .inl (cB, 8000, .inl mu)), (MqKind, .inl (cI, 4100, .inl qKind7)), (MqSize, .inl (cI, 4100, .inl qSize7)), (MqAt, .inl (cI, 4100, .inl qAt7)), (MqAddress, .inl (cI, 4100, .inl qAddress7)), (MqMode, .inl (cI, 4100, .inl qMode7))] H → va_D A0 [(mm, .inr (9, fl 78 g5_lr)), (Mu, .inl (cB, 8000, .inl mu)), (MqKind, .inl (cI, 4100, .inl qKind7)), (MqSize, .inl (cI, 4100, .inl qSize7)), (MqAt, .inl (cI, 4100, .inl qAt7)), (MqAddress, .inl (cI, 4100, .inl qAddress7)), (MqMode, .inl (cI, 4100, .inl qMode7))] → va_S A0 s0.heap H locs → lv_has ls 6 [(0, .ref mm), (1, .int (nI way)), (2, .int (nI p_)), (3, .int (nI r_))] → W p0 l e0 ({ frames := 1, cells := 0, slots := 0, locals := 25 }) s0 m0 ([.ref mm, .int (nI way)] : List Value).toArray below meth c0 H locs 0 0 Q0 (F0 m0 38 ls []) := by
            intro k9
            induction k9 with
            | zero => intro g5_lr r_ H locs ls hk9; exact absurd hk9 (Nat.not_lt_zero _)
            | succ k9 ih2 =>
              intro g5_lr r_ H locs ls hk9 hf_lr k_waits_lr hr1 hre hrr hP hD hS hl
              have hrl := runF_le (f := (fun j => nI (ub j))) (p := p_) (en - p_ - r_) (p_ + r_)
              refine lv_iload_n hx hb dX9_choose_38 rfl (lv_at hl 2 rfl) ?_
              refine lv_iload_n hx hb dX9_choose_39 rfl (lv_at hl 3 rfl) ?_
              refine lv_iadd hx hb dX9_choose_40 ?_
              refine ri (y := nI (p_ + r_)) (nI_add p_ r_) ?_
              refine lv_aload_n hx hb dX9_choose_41 rfl (lv_at hl 0 rfl) ?_
              refine fx_get (D := D) (ci := 9) (v := .int (nI en)) (C := RX9) (T := TX9) (N := 78) hx hb hts in_X9 hown hK hP 0 rfl rfl 66 (by decide) (hts _ kX9_362) (fun _ h9 => h9) ((hf_lr 66 (by decide)).trans g_uEnd) dX9_choose_42 ?_
              refine lv_icmp_ge (tgt := 71) hx hb dX9_choose_45 (by decide) (fun c_3 => ?_) (fun c_3 => ?_)
              · have hr9 : en - p_ - r_ = 0 := by have := (nI_leI (by omega) (by omega)).mp c_3; omega
                have hru : r_ = (runF (fun j => nI (ub j)) p_ (en - p_) p_) := by rw [← hrr, hr9, runF]; rfl
                refine lv_aload_n hx hb dX9_choose_71 rfl (lv_at hl 0 rfl) ?_
                refine lv_iload_n hx hb dX9_choose_72 rfl (lv_at hl 2 rfl) ?_
                refine jn_i (wr := [(MqKind, .inl (cI, 4100, .inl qKind7)), (MqSize, .inl (cI, 4100, .inl qSize7)), (MqAt, .inl (cI, 4100, .inl qAt7)), (MqAddress, .inl (cI, 4100, .inl qAddress7)), (MqMode, .inl (cI, 4100, .inl qMode7))]) hA hP hD hS [0, 1] [2, 3, 4, 5, 6] rfl rfl (by decide) (by decide) (rn_V (As := [.int (nI p_)]) (rest := []) ⟨hx, hb, hml, hown, hts⟩ (cvV 1 hts zc_yX9_match zi_X9 zm_yX9_match zv_yX9_match kX9_372 (by decide +kernel) rfl rfl ⟨Nat.le_of_ble_eq_true rfl, Nat.le_of_ble_eq_true rfl⟩) (m_match l D cI cB cJ cR mm g5_lr Mu mu en p_ ub ((hf_lr 66 (by decide)).trans g_uEnd) ((hf_lr 64 (by decide)).trans g_u) (he8) (hpe) (hub) (hu) H.size) hK hNw hMk hA hP hD hS [0, 1] rfl rfl (by decide) 0 rfl rfl rfl rfl hl.1 rfl (Nat.le_of_ble_eq_true rfl) dX9_choose_73 ⟨Nat.le_of_ble_eq_true rfl, Nat.le_of_ble_eq_true rfl⟩) (fun rm u9 H locs hmt hP hD hS => ?_)
                obtain ⟨g_4, rfl⟩ : ∃ z9, z9 = u9 := ⟨_, rfl⟩
                try dsimp only at hmt
                have hP : va_P D vwCl [(MqKind, .inl (cI, 4100, .inl qKind7)), (MqSize, .inl (cI, 4100, .inl qSize7)), (MqAt, .inl (cI, 4100, .inl qAt7)), (MqAddress, .inl (cI, 4100, .inl qAddress7)), (MqMode, .inl (cI, 4100, .inl qMode7)), (mm, .inr (9, fl 78 g_4)), (Mu, .inl (cB, 8000, .inl mu))] H := hP
                have hD : va_D A0 [(MqKind, .inl (cI, 4100, .inl qKind7)), (MqSize, .inl (cI, 4100, .inl qSize7)), (MqAt, .inl (cI, 4100, .inl qAt7)), (MqAddress, .inl (cI, 4100, .inl qAddress7)), (MqMode, .inl (cI, 4100, .inl qMode7)), (mm, .inr (9, fl 78 g_4)), (Mu, .inl (cB, 8000, .inl mu))] := hD
                obtain ⟨f_hmt, matchAddress_hmt, hmt_⟩ := hmt
                have k65_g_4 : g_4 65 = .int (nI sg) := (f_hmt 65 (by decide)).trans ((hf_lr 65 (by decide)).trans g_uBegin)
                have k66_g_4 : g_4 66 = .int (nI en) := (f_hmt 66 (by decide)).trans ((hf_lr 66 (by decide)).trans g_uEnd)
                have k64_g_4 : g_4 64 = .ref Mu := (f_hmt 64 (by decide)).trans ((hf_lr 64 (by decide)).trans g_u)
                have k68_g_4 : g_4 68 = .ref MqKind := (f_hmt 68 (by decide)).trans ((hf_lr 68 (by decide)).trans g_qKind)
                have k69_g_4 : g_4 69 = .ref MqSize := (f_hmt 69 (by decide)).trans ((hf_lr 69 (by decide)).trans g_qSize)
                have k70_g_4 : g_4 70 = .ref MqAt := (f_hmt 70 (by decide)).trans ((hf_lr 70 (by decide)).trans g_qAt)
                have k71_g_4 : g_4 71 = .ref MqAddress := (f_hmt 71 (by decide)).trans ((hf_lr 71 (by decide)).trans g_qAddress)
                have k72_g_4 : g_4 72 = .ref MqMode := (f_hmt 72 (by decide)).trans ((hf_lr 72 (by decide)).trans g_qMode)
                have k67_g_4 : g_4 67 = .int (nI (Ld ++ addI ad p_).length) := (f_hmt 67 (by decide)).trans (k_waits_lr)
                have fr_g_4 : frm [67, 73] g g_4 := frm_tr hf_lr f_hmt (by decide)
                subst hmt_
                have hbl := bmA_le (q := eqN ub) (n := en - p_) (p := p_) p_
                have hbf : bF (eqF (fun j => nI (ub j))) (en - p_) p_ p_ = if 4 ≤ (bmA (eqN ub) (en - p_) p_ p_).1 then (bmA (eqN ub) (en - p_) p_ p_) else (0, 0) := by rw [eqF_eqN hub]; exact bF_bm _ _ _ _
                try dsimp only at hRk
                obtain ⟨bm, hbm⟩ : ∃ t, t = (bmA (eqN ub) (en - p_) p_ p_) := ⟨_, rfl⟩
                rw [← hbm] at hbl hbf
                rw [← hru] at hRk
                have km_5 : g_4 73 = .int (nI bm.2) := by have h9 := matchAddress_hmt; rw [hbm]; exact h9
                refine ri (y := nI bm.1) (by rw [hbm]) ?_
                refine lv_istore (lv' := [(4, .int (nI bm.1)), (0, .ref mm), (1, .int (nI way)), (2, .int (nI p_)), (3, .int (nI r_))]) hx hb dX9_choose_76 hl (by decide) rfl (fun ls hl => ?_)
                refine lv_aload_n hx hb dX9_choose_78 rfl (lv_at hl 1 rfl) ?_
                refine fx_get (D := D) (ci := 9) (v := .int (nI bm.2)) (C := RX9) (T := TX9) (N := 78) hx hb hts in_X9 hown hK hP 5 rfl rfl 73 (by decide) (hts _ kX9_359) (fun _ h9 => h9) (km_5) dX9_choose_79 ?_
                refine lv_istore (lv' := [(5, .int (nI bm.2)), (4, .int (nI bm.1)), (0, .ref mm), (1, .int (nI way)), (2, .int (nI p_)), (3, .int (nI r_))]) hx hb dX9_choose_82 hl (by decide) rfl (fun ls hl => ?_)
                refine lv_iload_n hx hb dX9_choose_84 rfl (lv_at hl 5 rfl) ?_
                refine lv_bipush (v := 6) hx hb dX9_choose_85 (by decide) ?_
                have JN : ∀ (gj_JN : Nat → Value) (H : Heap) (locs : List Loc) (ls : Array Slot), (frm [67, 73] g gj_JN) → (gj_JN 67 = .int (nI (Ld ++ addI ad p_).length)) → (gj_JN 73 = .int (nI bm.2)) → (¬ (6 ≤ r_ ∧ bm.1 ≤ r_)) → va_P D vwCl [(mm, .inr (9, fl 78 gj_JN)), (MqKind, .inl (cI, 4100, .inl qKind7)), (MqSize, .inl (cI, 4100, .inl qSize7)), (MqAt, .inl (cI, 4100, .inl qAt7)), (MqAddress, .inl (cI, 4100, .inl qAddress7)), (MqMode, .inl (cI, 4100, .inl qMode7)), (Mu, .inl (cB, 8000, .inl mu))] H → va_D A0 [(mm, .inr (9, fl 78 gj_JN)), (MqKind, .inl (cI, 4100, .inl qKind7)), (MqSize, .inl (cI, 4100, .inl qSize7)), (MqAt, .inl (cI, 4100, .inl qAt7)), (MqAddress, .inl (cI, 4100, .inl qAddress7)), (MqMode, .inl (cI, 4100, .inl qMode7)), (Mu, .inl (cB, 8000, .inl mu))] → va_S A0 s0.heap H locs → lv_has ls 6 [(0, .ref mm), (1, .int (nI way)), (2, .int (nI p_)), (3, .int (nI r_)), (4, .int (nI bm.1)), (5, .int (nI bm.2))] → W p0 l e0 ({ frames := 1, cells := 0, slots := 0, locals := 25 }) s0 m0 ([.ref mm, .int (nI way)] : List Value).toArray below meth c0 H locs 0 0 Q0 (F0 m0 111 ls []) := by
                  intro gj_JN H locs ls hf_JN k_waits_JN k_matchAddress_JN hnr hP hD hS hl
                  rw [if_neg (show ¬ (6 ≤ r_ ∧ (bF (eqF (fun j => nI (ub j))) (en - p_) p_ p_).1 ≤ r_) from fun z => hnr ⟨z.1, by have := z.2; rw [hbf] at this; split at this; exact this; omega⟩)] at hRk
                  refine lv_iload hx hb dX9_choose_111 (lv_at hl 4 rfl) ?_
                  refine lv_iconst (v := 4) hx hb dX9_choose_113 (by decide) ?_
                  refine lv_icmp_lt (tgt := 146) hx hb dX9_choose_114 (by decide) (fun c_6 => ?_) (fun c_6 => ?_)
                  · have hm4 : bm.1 < 4 := (nI_ltI (b := 4) (by omega) (by decide)).mp c_6
                    rw [if_pos (Or.inl (show (bF (eqF (fun j => nI (ub j))) (en - p_) p_ p_).1 < 4 by rw [hbf, if_neg (by omega)]; decide))] at hRk
                    refine lv_aload_n hx hb dX9_choose_146 rfl (lv_at hl 0 rfl) ?_
                    refine lv_iconst (v := 1) hx hb dX9_choose_147 (by decide) ?_
                    refine ri (y := nI 1) (rfl) ?_
                    refine lv_iconst (v := 1) hx hb dX9_choose_148 (by decide) ?_
                    refine ri (y := nI 1) (rfl) ?_
                    refine lv_iload_n hx hb dX9_choose_149 rfl (lv_at hl 2 rfl) ?_
                    refine lv_iconst (v := 0) hx hb dX9_choose_150 (by decide) ?_
                    refine ri (y := nI 0) (nI_0.symm) ?_
                    by_cases hlt : ad < p_
                    · have hcu : (Ld ++ addI ad p_) = Ld ++ [(1, p_ - ad, ad, 0)] := by rw [addI, if_pos hlt]
                      rw [hcu] at hq
                      have kx_7 : gj_JN 67 = .int (nI (Ld ++ [(1, p_ - ad, ad, 0)] : List Ins).length) := by have h9 : gj_JN 67 = .int (nI (Ld ++ addI ad p_).length) := k_waits_JN; rw [h9]; exact congrArg Value.int (by rw [hcu])
                      refine jn_v (wr := [(Mu, .inl (cB, 8000, .inl mu))]) hA hP hD hS [0, 1, 2, 3, 4, 5] [6] rfl rfl (by decide) (by decide) (rn_V (As := [.int (nI 1), .int (nI 1), .int (nI p_), .int (nI 0)]) (rest := []) ⟨hx, hb, hml, hown, hts⟩ (cvV 4 hts zc_yX9_instruct zi_X9 zm_yX9_instruct zv_yX9_instruct kX9_368 (by decide +kernel) rfl rfl ⟨Nat.le_of_ble_eq_true rfl, Nat.le_of_ble_eq_true rfl⟩) (m_instructM l D cI cB cJ cR mm gj_JN MqKind MqSize MqAt MqAddress MqMode qKind7 qSize7 qAt7 qAddress7 qMode7 Ld (p_ - ad) ad 1 p_ (kx_7) ((hf_JN 68 (by decide)).trans g_qKind) ((hf_JN 69 (by decide)).trans g_qSize) ((hf_JN 70 (by decide)).trans g_qAt) ((hf_JN 71 (by decide)).trans g_qAddress) ((hf_JN 72 (by decide)).trans g_qMode) (by omega) (hq) H.size) hK hNw hMk hA hP hD hS [0, 1, 2, 3, 4, 5] rfl rfl (by decide) 0 rfl rfl rfl rfl hl.1 rfl (Nat.le_of_ble_eq_true rfl) dX9_choose_151 ⟨Nat.le_of_ble_eq_true rfl, Nat.le_of_ble_eq_true rfl⟩) (fun u9 H locs hin hP hD hS => ?_)
                      obtain ⟨g_8, z9⟩ := u9
                      try dsimp only at hin
                      have hP : va_P D vwCl [(Mu, .inl (cB, 8000, .inl mu)), (mm, .inr (9, fl 78 g_8)), (MqKind, .inl (cI, 4100, .inl qKind7)), (MqSize, .inl (cI, 4100, .inl z9)), (MqAt, .inl (cI, 4100, .inl qAt7)), (MqAddress, .inl (cI, 4100, .inl qAddress7)), (MqMode, .inl (cI, 4100, .inl qMode7))] H := hP
                      have hD : va_D A0 [(Mu, .inl (cB, 8000, .inl mu)), (mm, .inr (9, fl 78 g_8)), (MqKind, .inl (cI, 4100, .inl qKind7)), (MqSize, .inl (cI, 4100, .inl z9)), (MqAt, .inl (cI, 4100, .inl qAt7)), (MqAddress, .inl (cI, 4100, .inl qAddress7)), (MqMode, .inl (cI, 4100, .inl qMode7))] := hD
                      obtain ⟨f_hin, waits_hin, hin_⟩ := hin
                      have k65_g_8 : g_8 65 = .int (nI sg) := (f_hin 65 (by decide)).trans ((hf_JN 65 (by decide)).trans g_uBegin)
                      have k66_g_8 : g_8 66 = .int (nI en) := (f_hin 66 (by decide)).trans ((hf_JN 66 (by decide)).trans g_uEnd)
                      have k64_g_8 : g_8 64 = .ref Mu := (f_hin 64 (by decide)).trans ((hf_JN 64 (by decide)).trans g_u)
                      have k68_g_8 : g_8 68 = .ref MqKind := (f_hin 68 (by decide)).trans ((hf_JN 68 (by decide)).trans g_qKind)
                      have k69_g_8 : g_8 69 = .ref MqSize := (f_hin 69 (by decide)).trans ((hf_JN 69 (by decide)).trans g_qSize)
                      have k70_g_8 : g_8 70 = .ref MqAt := (f_hin 70 (by decide)).trans ((hf_JN 70 (by decide)).trans g_qAt)
                      have k71_g_8 : g_8 71 = .ref MqAddress := (f_hin 71 (by decide)).trans ((hf_JN 71 (by decide)).trans g_qAddress)
                      have k72_g_8 : g_8 72 = .ref MqMode := (f_hin 72 (by decide)).trans ((hf_JN 72 (by decide)).trans g_qMode)
                      have k73_g_8 : g_8 73 = .int (nI bm.2) := (f_hin 73 (by decide)).trans (k_matchAddress_JN)
                      have fr_g_8 : frm [67, 73] g g_8 := frm_tr hf_JN f_hin (by decide)
                      have hcn : Ld ++ addI ad (p_ + 1) = Ld ++ [(1, p_ - ad + 1, ad, 0)] := by rw [addI, if_pos (by omega), show p_ + 1 - ad = p_ - ad + 1 by omega]
                      have kx_10 : g_8 67 = .int (nI (Ld ++ addI ad (p_ + 1)).length) := by have h9 : g_8 67 = .int (nI (Ld ++ [(1, (p_ - ad) + 1, ad, 0)] : List Ins).length) := waits_hin; rw [h9]; exact congrArg Value.int (by rw [hcn])
                      refine lv_iinc (v := nI (p_ + 1)) (lv' := [(2, .int (nI (p_ + 1))), (0, .ref mm), (1, .int (nI way)), (3, .int (nI r_)), (4, .int (nI bm.1)), (5, .int (nI bm.2))]) hx hb dX9_choose_154 hl (k := 2) rfl (nI_add p_ 1) (by decide) rfl (fun ls hl => ?_)
                      refine lv_goto (tgt := 175) hx hb dX9_choose_157 (by decide) ?_
                      refine lv_goto (tgt := 10) hx hb dX9_choose_175 (by decide) ?_
                      exact ih g_8 k1 ad (p_ + 1) Ld qKind7 z9 qAt7 qAddress7 qMode7 _ _ ls (by omega) (fr_g_8) (kx_10) (by omega) (hsa) (by omega) (by omega) (fun z => absurd z hw0) (fun _ => hRk) (hna) (hql) (hlL) (by rw [hcn]; exact hin_) (hP.sub [1, 0, 2, 3, 4, 5, 6] rfl) (hD.sub [1, 0, 2, 3, 4, 5, 6] (by decide) rfl) hS (lv_sub hl [1, 2, 0] rfl)
                    · have hap2 : ad = p_ := by omega
                      have hcu : (Ld ++ addI ad p_) = Ld := by rw [hap2, addI, if_neg (Nat.lt_irrefl _), List.append_nil]
                      rw [hcu] at hq
                      have kx_11 : gj_JN 67 = .int (nI Ld.length) := by have h9 : gj_JN 67 = .int (nI (Ld ++ addI ad p_).length) := k_waits_JN; rw [h9]; exact congrArg Value.int (by rw [hcu])
                      refine jn_v (wr := [(Mu, .inl (cB, 8000, .inl mu))]) hA hP hD hS [0, 1, 2, 3, 4, 5] [6] rfl rfl (by decide) (by decide) (rn_V (As := [.int (nI 1), .int (nI 1), .int (nI p_), .int (nI 0)]) (rest := []) ⟨hx, hb, hml, hown, hts⟩ (cvV 4 hts zc_yX9_instruct zi_X9 zm_yX9_instruct zv_yX9_instruct kX9_368 (by decide +kernel) rfl rfl ⟨Nat.le_of_ble_eq_true rfl, Nat.le_of_ble_eq_true rfl⟩) (m_instructN l D cI cB cJ cR mm gj_JN MqKind MqSize MqAt MqAddress MqMode qKind7 qSize7 qAt7 qAddress7 qMode7 Ld 1 1 p_ 0 (kx_11) ((hf_JN 68 (by decide)).trans g_qKind) ((hf_JN 69 (by decide)).trans g_qSize) ((hf_JN 70 (by decide)).trans g_qAt) ((hf_JN 71 (by decide)).trans g_qAddress) ((hf_JN 72 (by decide)).trans g_qMode) (by omega) (hq) (by decide) (fun _ => hna) (hql) H.size) hK hNw hMk hA hP hD hS [0, 1, 2, 3, 4, 5] rfl rfl (by decide) 0 rfl rfl rfl rfl hl.1 rfl (Nat.le_of_ble_eq_true rfl) dX9_choose_151 ⟨Nat.le_of_ble_eq_true rfl, Nat.le_of_ble_eq_true rfl⟩) (fun u9 H locs hin hP hD hS => ?_)
                      obtain ⟨g_12, qKind9, qSize9, qAt9, qAddress9, qMode9⟩ := u9
                      try dsimp only at hin
                      have hP : va_P D vwCl [(Mu, .inl (cB, 8000, .inl mu)), (mm, .inr (9, fl 78 g_12)), (MqKind, .inl (cI, 4100, .inl qKind9)), (MqSize, .inl (cI, 4100, .inl qSize9)), (MqAt, .inl (cI, 4100, .inl qAt9)), (MqAddress, .inl (cI, 4100, .inl qAddress9)), (MqMode, .inl (cI, 4100, .inl qMode9))] H := hP
                      have hD : va_D A0 [(Mu, .inl (cB, 8000, .inl mu)), (mm, .inr (9, fl 78 g_12)), (MqKind, .inl (cI, 4100, .inl qKind9)), (MqSize, .inl (cI, 4100, .inl qSize9)), (MqAt, .inl (cI, 4100, .inl qAt9)), (MqAddress, .inl (cI, 4100, .inl qAddress9)), (MqMode, .inl (cI, 4100, .inl qMode9))] := hD
                      obtain ⟨f_hin, waits_hin, hin_⟩ := hin
                      have k65_g_12 : g_12 65 = .int (nI sg) := (f_hin 65 (by decide)).trans ((hf_JN 65 (by decide)).trans g_uBegin)
                      have k66_g_12 : g_12 66 = .int (nI en) := (f_hin 66 (by decide)).trans ((hf_JN 66 (by decide)).trans g_uEnd)
                      have k64_g_12 : g_12 64 = .ref Mu := (f_hin 64 (by decide)).trans ((hf_JN 64 (by decide)).trans g_u)
                      have k68_g_12 : g_12 68 = .ref MqKind := (f_hin 68 (by decide)).trans ((hf_JN 68 (by decide)).trans g_qKind)
                      have k69_g_12 : g_12 69 = .ref MqSize := (f_hin 69 (by decide)).trans ((hf_JN 69 (by decide)).trans g_qSize)
                      have k70_g_12 : g_12 70 = .ref MqAt := (f_hin 70 (by decide)).trans ((hf_JN 70 (by decide)).trans g_qAt)
                      have k71_g_12 : g_12 71 = .ref MqAddress := (f_hin 71 (by decide)).trans ((hf_JN 71 (by decide)).trans g_qAddress)
                      have k72_g_12 : g_12 72 = .ref MqMode := (f_hin 72 (by decide)).trans ((hf_JN 72 (by decide)).trans g_qMode)
                      have k73_g_12 : g_12 73 = .int (nI bm.2) := (f_hin 73 (by decide)).trans (k_matchAddress_JN)
                      have fr_g_12 : frm [67, 73] g g_12 := frm_tr hf_JN f_hin (by decide)
                      have hcn : Ld ++ addI ad (p_ + 1) = Ld ++ [(1, 1, p_, 0)] := by rw [addI, if_pos (by omega), hap2, show p_ + 1 - p_ = 1 by omega]
                      have kx_14 : g_12 67 = .int (nI (Ld ++ addI ad (p_ + 1)).length) := by have h9 : g_12 67 = .int (nI (Ld ++ [(1, 1, p_, 0)] : List Ins).length) := waits_hin; rw [h9]; exact congrArg Value.int (by rw [hcn])
                      refine lv_iinc (v := nI (p_ + 1)) (lv' := [(2, .int (nI (p_ + 1))), (0, .ref mm), (1, .int (nI way)), (3, .int (nI r_)), (4, .int (nI bm.1)), (5, .int (nI bm.2))]) hx hb dX9_choose_154 hl (k := 2) rfl (nI_add p_ 1) (by decide) rfl (fun ls hl => ?_)
                      refine lv_goto (tgt := 175) hx hb dX9_choose_157 (by decide) ?_
                      refine lv_goto (tgt := 10) hx hb dX9_choose_175 (by decide) ?_
                      exact ih g_12 k1 ad (p_ + 1) Ld qKind9 qSize9 qAt9 qAddress9 qMode9 _ _ ls (by omega) (fr_g_12) (kx_14) (by omega) (hsa) (by omega) (by omega) (fun z => absurd z hw0) (fun _ => hRk) (hna) (hql) (hlL) (by rw [hcn]; exact hin_) (hP.sub [1, 0, 2, 3, 4, 5, 6] rfl) (hD.sub [1, 0, 2, 3, 4, 5, 6] (by decide) rfl) hS (lv_sub hl [1, 2, 0] rfl)
                  · have hm4 : 4 ≤ bm.1 := Nat.not_lt.mp (fun q => c_6 (nI_lt (b := 4) q (by decide)))
                    rw [if_pos hm4] at hbf
                    have hb0 := hbl.2.2 (by omega)
                    refine lv_iload_n hx hb dX9_choose_117 rfl (lv_at hl 1 rfl) ?_
                    refine lv_iconst (v := 2) hx hb dX9_choose_118 (by decide) ?_
                    refine lv_icmp_ne (tgt := 160) hx hb dX9_choose_119 (by decide) (fun c_15 => ?_) (fun c_15 => ?_)
                    · have hw2 : ¬ way = 2 := fun z => c_15 (by rw [z]; rfl)
                      rw [if_neg (fun z => z.elim (fun w9 => absurd (show (bF (eqF (fun j => nI (ub j))) (en - p_) p_ p_).1 < 4 from w9) (by rw [hbf]; omega)) (fun w9 => hw2 w9.1)), hbf] at hRk
                      refine lv_aload_n hx hb dX9_choose_160 rfl (lv_at hl 0 rfl) ?_
                      refine lv_iconst (v := 3) hx hb dX9_choose_161 (by decide) ?_
                      refine ri (y := nI 3) (rfl) ?_
                      refine lv_iload hx hb dX9_choose_162 (lv_at hl 4 rfl) ?_
                      refine lv_iload_n hx hb dX9_choose_164 rfl (lv_at hl 2 rfl) ?_
                      refine lv_iload hx hb dX9_choose_165 (lv_at hl 5 rfl) ?_
                      refine jn_v (wr := [(Mu, .inl (cB, 8000, .inl mu))]) hA hP hD hS [0, 1, 2, 3, 4, 5] [6] rfl rfl (by decide) (by decide) (rn_V (As := [.int (nI 3), .int (nI bm.1), .int (nI p_), .int (nI bm.2)]) (rest := []) ⟨hx, hb, hml, hown, hts⟩ (cvV 4 hts zc_yX9_instruct zi_X9 zm_yX9_instruct zv_yX9_instruct kX9_368 (by decide +kernel) rfl rfl ⟨Nat.le_of_ble_eq_true rfl, Nat.le_of_ble_eq_true rfl⟩) (m_instructN l D cI cB cJ cR mm gj_JN MqKind MqSize MqAt MqAddress MqMode qKind7 qSize7 qAt7 qAddress7 qMode7 (Ld ++ addI ad p_) 3 bm.1 p_ bm.2 (k_waits_JN) ((hf_JN 68 (by decide)).trans g_qKind) ((hf_JN 69 (by decide)).trans g_qSize) ((hf_JN 70 (by decide)).trans g_qAt) ((hf_JN 71 (by decide)).trans g_qAddress) ((hf_JN 72 (by decide)).trans g_qMode) (by omega) (hq) (by decide) (fun z9 => absurd z9 (by decide)) (hqk) H.size) hK hNw hMk hA hP hD hS [0, 1, 2, 3, 4, 5] rfl rfl (by decide) 0 rfl rfl rfl rfl hl.1 rfl (Nat.le_of_ble_eq_true rfl) dX9_choose_167 ⟨Nat.le_of_ble_eq_true rfl, Nat.le_of_ble_eq_true rfl⟩) (fun u9 H locs hin hP hD hS => ?_)
                      obtain ⟨g_16, qKind9, qSize9, qAt9, qAddress9, qMode9⟩ := u9
                      try dsimp only at hin
                      have hP : va_P D vwCl [(Mu, .inl (cB, 8000, .inl mu)), (mm, .inr (9, fl 78 g_16)), (MqKind, .inl (cI, 4100, .inl qKind9)), (MqSize, .inl (cI, 4100, .inl qSize9)), (MqAt, .inl (cI, 4100, .inl qAt9)), (MqAddress, .inl (cI, 4100, .inl qAddress9)), (MqMode, .inl (cI, 4100, .inl qMode9))] H := hP
                      have hD : va_D A0 [(Mu, .inl (cB, 8000, .inl mu)), (mm, .inr (9, fl 78 g_16)), (MqKind, .inl (cI, 4100, .inl qKind9)), (MqSize, .inl (cI, 4100, .inl qSize9)), (MqAt, .inl (cI, 4100, .inl qAt9)), (MqAddress, .inl (cI, 4100, .inl qAddress9)), (MqMode, .inl (cI, 4100, .inl qMode9))] := hD
                      obtain ⟨f_hin, waits_hin, hin_⟩ := hin
                      have k65_g_16 : g_16 65 = .int (nI sg) := (f_hin 65 (by decide)).trans ((hf_JN 65 (by decide)).trans g_uBegin)
                      have k66_g_16 : g_16 66 = .int (nI en) := (f_hin 66 (by decide)).trans ((hf_JN 66 (by decide)).trans g_uEnd)
                      have k64_g_16 : g_16 64 = .ref Mu := (f_hin 64 (by decide)).trans ((hf_JN 64 (by decide)).trans g_u)
                      have k68_g_16 : g_16 68 = .ref MqKind := (f_hin 68 (by decide)).trans ((hf_JN 68 (by decide)).trans g_qKind)
                      have k69_g_16 : g_16 69 = .ref MqSize := (f_hin 69 (by decide)).trans ((hf_JN 69 (by decide)).trans g_qSize)
                      have k70_g_16 : g_16 70 = .ref MqAt := (f_hin 70 (by decide)).trans ((hf_JN 70 (by decide)).trans g_qAt)
                      have k71_g_16 : g_16 71 = .ref MqAddress := (f_hin 71 (by decide)).trans ((hf_JN 71 (by decide)).trans g_qAddress)
                      have k72_g_16 : g_16 72 = .ref MqMode := (f_hin 72 (by decide)).trans ((hf_JN 72 (by decide)).trans g_qMode)
                      have k73_g_16 : g_16 73 = .int (nI bm.2) := (f_hin 73 (by decide)).trans (k_matchAddress_JN)
                      have fr_g_16 : frm [67, 73] g g_16 := frm_tr hf_JN f_hin (by decide)
                      have had : addI (p_ + bm.1) (p_ + bm.1) = [] := by rw [addI, if_neg (Nat.lt_irrefl _)]
                      have kx_18 : g_16 67 = .int (nI (((Ld ++ addI ad p_) ++ [(3, bm.1, p_, bm.2)]) ++ addI (p_ + bm.1) (p_ + bm.1)).length) := by have h9 : g_16 67 = .int (nI ((Ld ++ addI ad p_) ++ [(3, bm.1, p_, bm.2)] : List Ins).length) := waits_hin; rw [h9]; exact congrArg Value.int (by rw [had, List.append_nil])
                      refine lv_iload_n hx hb dX9_choose_170 rfl (lv_at hl 2 rfl) ?_
                      refine lv_iload hx hb dX9_choose_171 (lv_at hl 4 rfl) ?_
                      refine lv_iadd hx hb dX9_choose_173 ?_
                      refine ri (y := nI (p_ + bm.1)) (nI_add p_ bm.1) ?_
                      refine lv_istore_n (lv' := [(2, .int (nI (p_ + bm.1))), (0, .ref mm), (1, .int (nI way)), (3, .int (nI r_)), (4, .int (nI bm.1)), (5, .int (nI bm.2))]) hx hb dX9_choose_174 rfl hl (by decide) rfl (fun ls hl => ?_)
                      refine lv_goto (tgt := 10) hx hb dX9_choose_175 (by decide) ?_
                      exact ih g_16 k1 (p_ + bm.1) (p_ + bm.1) ((Ld ++ addI ad p_) ++ [(3, bm.1, p_, bm.2)]) qKind9 qSize9 qAt9 qAddress9 qMode9 _ _ ls (by omega) (fr_g_16) (kx_18) (Nat.le_refl _) (by omega) (by omega) (by omega) (fun z9 => absurd z9 hw0) (fun _ => by rw [hRk]; simp only [List.append_assoc, List.cons_append, List.nil_append]) (naL_put (by show ¬ 3 = 1; decide)) (kind_put hqk (by show 3 < 4; decide)) (by rw [List.length_append]; show _ + 1 ≤ _; omega) (by rw [had, List.append_nil]; exact hin_) (hP.sub [1, 0, 2, 3, 4, 5, 6] rfl) (hD.sub [1, 0, 2, 3, 4, 5, 6] (by decide) rfl) hS (lv_sub hl [1, 2, 0] rfl)
                    · have hw2 : way = 2 := (nI_eq (b := 2) (by omega) (by decide)).mp c_15
                      refine lv_iload_n hx hb dX9_choose_122 rfl (lv_at hl 2 rfl) ?_
                      refine lv_iconst (v := 1) hx hb dX9_choose_123 (by decide) ?_
                      refine lv_iadd hx hb dX9_choose_124 ?_
                      refine ri (y := nI (p_ + 1)) (nI_add p_ 1) ?_
                      refine lv_aload_n hx hb dX9_choose_125 rfl (lv_at hl 0 rfl) ?_
                      refine fx_get (D := D) (ci := 9) (v := .int (nI en)) (C := RX9) (T := TX9) (N := 78) hx hb hts in_X9 hown hK hP 0 rfl rfl 66 (by decide) (hts _ kX9_362) (fun _ h9 => h9) ((hf_JN 66 (by decide)).trans g_uEnd) dX9_choose_126 ?_
                      refine lv_icmp_ge (tgt := 160) hx hb dX9_choose_129 (by decide) (fun c_19 => ?_) (fun c_19 => ?_)
                      · have hpl : en ≤ p_ + 1 := (nI_leI (by omega) (by omega)).mp c_19
                        have hb7 := (bF_le (eqF (fun j => nI (ub j))) (en - (p_ + 1)) (p_ + 1) (p_ + 1)).1
                        rw [if_neg (fun z => z.elim (fun w9 => absurd (show (bF (eqF (fun j => nI (ub j))) (en - p_) p_ p_).1 < 4 from w9) (by rw [hbf]; omega)) (fun w9 => absurd (show (bF (eqF (fun j => nI (ub j))) (en - p_) p_ p_).1 + 2 ≤ (bF (eqF (fun j => nI (ub j))) (en - (p_ + 1)) (p_ + 1) (p_ + 1)).1 from w9.2) (by omega))), hbf] at hRk
                        refine lv_aload_n hx hb dX9_choose_160 rfl (lv_at hl 0 rfl) ?_
                        refine lv_iconst (v := 3) hx hb dX9_choose_161 (by decide) ?_
                        refine ri (y := nI 3) (rfl) ?_
                        refine lv_iload hx hb dX9_choose_162 (lv_at hl 4 rfl) ?_
                        refine lv_iload_n hx hb dX9_choose_164 rfl (lv_at hl 2 rfl) ?_
                        refine lv_iload hx hb dX9_choose_165 (lv_at hl 5 rfl) ?_
                        refine jn_v (wr := [(Mu, .inl (cB, 8000, .inl mu))]) hA hP hD hS [0, 1, 2, 3, 4, 5] [6] rfl rfl (by decide) (by decide) (rn_V (As := [.int (nI 3), .int (nI bm.1), .int (nI p_), .int (nI bm.2)]) (rest := []) ⟨hx, hb, hml, hown, hts⟩ (cvV 4 hts zc_yX9_instruct zi_X9 zm_yX9_instruct zv_yX9_instruct kX9_368 (by decide +kernel) rfl rfl ⟨Nat.le_of_ble_eq_true rfl, Nat.le_of_ble_eq_true rfl⟩) (m_instructN l D cI cB cJ cR mm gj_JN MqKind MqSize MqAt MqAddress MqMode qKind7 qSize7 qAt7 qAddress7 qMode7 (Ld ++ addI ad p_) 3 bm.1 p_ bm.2 (k_waits_JN) ((hf_JN 68 (by decide)).trans g_qKind) ((hf_JN 69 (by decide)).trans g_qSize) ((hf_JN 70 (by decide)).trans g_qAt) ((hf_JN 71 (by decide)).trans g_qAddress) ((hf_JN 72 (by decide)).trans g_qMode) (by omega) (hq) (by decide) (fun z9 => absurd z9 (by decide)) (hqk) H.size) hK hNw hMk hA hP hD hS [0, 1, 2, 3, 4, 5] rfl rfl (by decide) 0 rfl rfl rfl rfl hl.1 rfl (Nat.le_of_ble_eq_true rfl) dX9_choose_167 ⟨Nat.le_of_ble_eq_true rfl, Nat.le_of_ble_eq_true rfl⟩) (fun u9 H locs hin hP hD hS => ?_)
                        obtain ⟨g_20, qKind9, qSize9, qAt9, qAddress9, qMode9⟩ := u9
                        try dsimp only at hin
                        have hP : va_P D vwCl [(Mu, .inl (cB, 8000, .inl mu)), (mm, .inr (9, fl 78 g_20)), (MqKind, .inl (cI, 4100, .inl qKind9)), (MqSize, .inl (cI, 4100, .inl qSize9)), (MqAt, .inl (cI, 4100, .inl qAt9)), (MqAddress, .inl (cI, 4100, .inl qAddress9)), (MqMode, .inl (cI, 4100, .inl qMode9))] H := hP
                        have hD : va_D A0 [(Mu, .inl (cB, 8000, .inl mu)), (mm, .inr (9, fl 78 g_20)), (MqKind, .inl (cI, 4100, .inl qKind9)), (MqSize, .inl (cI, 4100, .inl qSize9)), (MqAt, .inl (cI, 4100, .inl qAt9)), (MqAddress, .inl (cI, 4100, .inl qAddress9)), (MqMode, .inl (cI, 4100, .inl qMode9))] := hD
                        obtain ⟨f_hin, waits_hin, hin_⟩ := hin
                        have k65_g_20 : g_20 65 = .int (nI sg) := (f_hin 65 (by decide)).trans ((hf_JN 65 (by decide)).trans g_uBegin)
                        have k66_g_20 : g_20 66 = .int (nI en) := (f_hin 66 (by decide)).trans ((hf_JN 66 (by decide)).trans g_uEnd)
                        have k64_g_20 : g_20 64 = .ref Mu := (f_hin 64 (by decide)).trans ((hf_JN 64 (by decide)).trans g_u)
                        have k68_g_20 : g_20 68 = .ref MqKind := (f_hin 68 (by decide)).trans ((hf_JN 68 (by decide)).trans g_qKind)
                        have k69_g_20 : g_20 69 = .ref MqSize := (f_hin 69 (by decide)).trans ((hf_JN 69 (by decide)).trans g_qSize)
                        have k70_g_20 : g_20 70 = .ref MqAt := (f_hin 70 (by decide)).trans ((hf_JN 70 (by decide)).trans g_qAt)
                        have k71_g_20 : g_20 71 = .ref MqAddress := (f_hin 71 (by decide)).trans ((hf_JN 71 (by decide)).trans g_qAddress)
                        have k72_g_20 : g_20 72 = .ref MqMode := (f_hin 72 (by decide)).trans ((hf_JN 72 (by decide)).trans g_qMode)
                        have k73_g_20 : g_20 73 = .int (nI bm.2) := (f_hin 73 (by decide)).trans (k_matchAddress_JN)
                        have fr_g_20 : frm [67, 73] g g_20 := frm_tr hf_JN f_hin (by decide)
                        have had : addI (p_ + bm.1) (p_ + bm.1) = [] := by rw [addI, if_neg (Nat.lt_irrefl _)]
                        have kx_22 : g_20 67 = .int (nI (((Ld ++ addI ad p_) ++ [(3, bm.1, p_, bm.2)]) ++ addI (p_ + bm.1) (p_ + bm.1)).length) := by have h9 : g_20 67 = .int (nI ((Ld ++ addI ad p_) ++ [(3, bm.1, p_, bm.2)] : List Ins).length) := waits_hin; rw [h9]; exact congrArg Value.int (by rw [had, List.append_nil])
                        refine lv_iload_n hx hb dX9_choose_170 rfl (lv_at hl 2 rfl) ?_
                        refine lv_iload hx hb dX9_choose_171 (lv_at hl 4 rfl) ?_
                        refine lv_iadd hx hb dX9_choose_173 ?_
                        refine ri (y := nI (p_ + bm.1)) (nI_add p_ bm.1) ?_
                        refine lv_istore_n (lv' := [(2, .int (nI (p_ + bm.1))), (0, .ref mm), (1, .int (nI way)), (3, .int (nI r_)), (4, .int (nI bm.1)), (5, .int (nI bm.2))]) hx hb dX9_choose_174 rfl hl (by decide) rfl (fun ls hl => ?_)
                        refine lv_goto (tgt := 10) hx hb dX9_choose_175 (by decide) ?_
                        exact ih g_20 k1 (p_ + bm.1) (p_ + bm.1) ((Ld ++ addI ad p_) ++ [(3, bm.1, p_, bm.2)]) qKind9 qSize9 qAt9 qAddress9 qMode9 _ _ ls (by omega) (fr_g_20) (kx_22) (Nat.le_refl _) (by omega) (by omega) (by omega) (fun z9 => absurd z9 hw0) (fun _ => by rw [hRk]; simp only [List.append_assoc, List.cons_append, List.nil_append]) (naL_put (by show ¬ 3 = 1; decide)) (kind_put hqk (by show 3 < 4; decide)) (by rw [List.length_append]; show _ + 1 ≤ _; omega) (by rw [had, List.append_nil]; exact hin_) (hP.sub [1, 0, 2, 3, 4, 5, 6] rfl) (hD.sub [1, 0, 2, 3, 4, 5, 6] (by decide) rfl) hS (lv_sub hl [1, 2, 0] rfl)
                      · have hpl : p_ + 1 < en := Nat.not_le.mp (fun q => c_19 (nI_le q (by omega)))
                        refine lv_aload_n hx hb dX9_choose_132 rfl (lv_at hl 0 rfl) ?_
                        refine lv_iload_n hx hb dX9_choose_133 rfl (lv_at hl 2 rfl) ?_
                        refine lv_iconst (v := 1) hx hb dX9_choose_134 (by decide) ?_
                        refine lv_iadd hx hb dX9_choose_135 ?_
                        refine ri (y := nI (p_ + 1)) (nI_add p_ 1) ?_
                        refine jn_i (wr := [(MqKind, .inl (cI, 4100, .inl qKind7)), (MqSize, .inl (cI, 4100, .inl qSize7)), (MqAt, .inl (cI, 4100, .inl qAt7)), (MqAddress, .inl (cI, 4100, .inl qAddress7)), (MqMode, .inl (cI, 4100, .inl qMode7))]) hA hP hD hS [0, 6] [1, 2, 3, 4, 5] rfl rfl (by decide) (by decide) (rn_V (As := [.int (nI (p_ + 1))]) (rest := []) ⟨hx, hb, hml, hown, hts⟩ (cvV 1 hts zc_yX9_match zi_X9 zm_yX9_match zv_yX9_match kX9_372 (by decide +kernel) rfl rfl ⟨Nat.le_of_ble_eq_true rfl, Nat.le_of_ble_eq_true rfl⟩) (m_match l D cI cB cJ cR mm gj_JN Mu mu en (p_ + 1) ub ((hf_JN 66 (by decide)).trans g_uEnd) ((hf_JN 64 (by decide)).trans g_u) (he8) (by omega) (hub) (hu) H.size) hK hNw hMk hA hP hD hS [0, 6] rfl rfl (by decide) 0 rfl rfl rfl rfl hl.1 rfl (Nat.le_of_ble_eq_true rfl) dX9_choose_136 ⟨Nat.le_of_ble_eq_true rfl, Nat.le_of_ble_eq_true rfl⟩) (fun rm1 u9 H locs hmt1 hP hD hS => ?_)
                        obtain ⟨g_23, rfl⟩ : ∃ z9, z9 = u9 := ⟨_, rfl⟩
                        try dsimp only at hmt1
                        have hP : va_P D vwCl [(MqKind, .inl (cI, 4100, .inl qKind7)), (MqSize, .inl (cI, 4100, .inl qSize7)), (MqAt, .inl (cI, 4100, .inl qAt7)), (MqAddress, .inl (cI, 4100, .inl qAddress7)), (MqMode, .inl (cI, 4100, .inl qMode7)), (mm, .inr (9, fl 78 g_23)), (Mu, .inl (cB, 8000, .inl mu))] H := hP
                        have hD : va_D A0 [(MqKind, .inl (cI, 4100, .inl qKind7)), (MqSize, .inl (cI, 4100, .inl qSize7)), (MqAt, .inl (cI, 4100, .inl qAt7)), (MqAddress, .inl (cI, 4100, .inl qAddress7)), (MqMode, .inl (cI, 4100, .inl qMode7)), (mm, .inr (9, fl 78 g_23)), (Mu, .inl (cB, 8000, .inl mu))] := hD
                        obtain ⟨f_hmt1, matchAddress_hmt1, hmt1_⟩ := hmt1
                        have k65_g_23 : g_23 65 = .int (nI sg) := (f_hmt1 65 (by decide)).trans ((hf_JN 65 (by decide)).trans g_uBegin)
                        have k66_g_23 : g_23 66 = .int (nI en) := (f_hmt1 66 (by decide)).trans ((hf_JN 66 (by decide)).trans g_uEnd)
                        have k64_g_23 : g_23 64 = .ref Mu := (f_hmt1 64 (by decide)).trans ((hf_JN 64 (by decide)).trans g_u)
                        have k68_g_23 : g_23 68 = .ref MqKind := (f_hmt1 68 (by decide)).trans ((hf_JN 68 (by decide)).trans g_qKind)
                        have k69_g_23 : g_23 69 = .ref MqSize := (f_hmt1 69 (by decide)).trans ((hf_JN 69 (by decide)).trans g_qSize)
                        have k70_g_23 : g_23 70 = .ref MqAt := (f_hmt1 70 (by decide)).trans ((hf_JN 70 (by decide)).trans g_qAt)
                        have k71_g_23 : g_23 71 = .ref MqAddress := (f_hmt1 71 (by decide)).trans ((hf_JN 71 (by decide)).trans g_qAddress)
                        have k72_g_23 : g_23 72 = .ref MqMode := (f_hmt1 72 (by decide)).trans ((hf_JN 72 (by decide)).trans g_qMode)
                        have k67_g_23 : g_23 67 = .int (nI (Ld ++ addI ad p_).length) := (f_hmt1 67 (by decide)).trans (k_waits_JN)
                        have fr_g_23 : frm [67, 73] g g_23 := frm_tr hf_JN f_hmt1 (by decide)
                        subst hmt1_
                        have hbl1 := (bmA_le (q := eqN ub) (n := en - (p_ + 1)) (p := p_ + 1) (p_ + 1)).1
                        have hbf1 : (bF (eqF (fun j => nI (ub j))) (en - (p_ + 1)) (p_ + 1) (p_ + 1)) = if 4 ≤ (bmA (eqN ub) (en - (p_ + 1)) (p_ + 1) (p_ + 1)).1 then (bmA (eqN ub) (en - (p_ + 1)) (p_ + 1) (p_ + 1)) else (0, 0) := by rw [eqF_eqN hub]; exact bF_bm _ _ _ _
                        refine lv_iload hx hb dX9_choose_139 (lv_at hl 4 rfl) ?_
                        refine lv_iconst (v := 2) hx hb dX9_choose_141 (by decide) ?_
                        refine lv_iadd hx hb dX9_choose_142 ?_
                        refine ri (y := nI (bm.1 + 2)) (nI_add bm.1 2) ?_
                        refine lv_icmp_lt (tgt := 160) hx hb dX9_choose_143 (by decide) (fun c_24 => ?_) (fun c_24 => ?_)
                        · have hlt : (bmA (eqN ub) (en - (p_ + 1)) (p_ + 1) (p_ + 1)).1 < bm.1 + 2 := (nI_ltI (by omega) (by omega)).mp c_24
                          rw [if_neg (fun z => z.elim (fun w9 => absurd (show (bF (eqF (fun j => nI (ub j))) (en - p_) p_ p_).1 < 4 from w9) (by rw [hbf]; omega)) (fun w9 => absurd (show (bF (eqF (fun j => nI (ub j))) (en - p_) p_ p_).1 + 2 ≤ (bF (eqF (fun j => nI (ub j))) (en - (p_ + 1)) (p_ + 1) (p_ + 1)).1 from w9.2) (by rw [hbf, hbf1]; split <;> omega))), hbf] at hRk
                          refine lv_aload_n hx hb dX9_choose_160 rfl (lv_at hl 0 rfl) ?_
                          refine lv_iconst (v := 3) hx hb dX9_choose_161 (by decide) ?_
                          refine ri (y := nI 3) (rfl) ?_
                          refine lv_iload hx hb dX9_choose_162 (lv_at hl 4 rfl) ?_
                          refine lv_iload_n hx hb dX9_choose_164 rfl (lv_at hl 2 rfl) ?_
                          refine lv_iload hx hb dX9_choose_165 (lv_at hl 5 rfl) ?_
                          refine jn_v (wr := [(Mu, .inl (cB, 8000, .inl mu))]) hA hP hD hS [5, 0, 1, 2, 3, 4] [6] rfl rfl (by decide) (by decide) (rn_V (As := [.int (nI 3), .int (nI bm.1), .int (nI p_), .int (nI bm.2)]) (rest := []) ⟨hx, hb, hml, hown, hts⟩ (cvV 4 hts zc_yX9_instruct zi_X9 zm_yX9_instruct zv_yX9_instruct kX9_368 (by decide +kernel) rfl rfl ⟨Nat.le_of_ble_eq_true rfl, Nat.le_of_ble_eq_true rfl⟩) (m_instructN l D cI cB cJ cR mm g_23 MqKind MqSize MqAt MqAddress MqMode qKind7 qSize7 qAt7 qAddress7 qMode7 (Ld ++ addI ad p_) 3 bm.1 p_ bm.2 (k67_g_23) (k68_g_23) (k69_g_23) (k70_g_23) (k71_g_23) (k72_g_23) (by omega) (hq) (by decide) (fun z9 => absurd z9 (by decide)) (hqk) H.size) hK hNw hMk hA hP hD hS [5, 0, 1, 2, 3, 4] rfl rfl (by decide) 0 rfl rfl rfl rfl hl.1 rfl (Nat.le_of_ble_eq_true rfl) dX9_choose_167 ⟨Nat.le_of_ble_eq_true rfl, Nat.le_of_ble_eq_true rfl⟩) (fun u9 H locs hin hP hD hS => ?_)
                          obtain ⟨g_25, qKind9, qSize9, qAt9, qAddress9, qMode9⟩ := u9
                          try dsimp only at hin
                          have hP : va_P D vwCl [(Mu, .inl (cB, 8000, .inl mu)), (mm, .inr (9, fl 78 g_25)), (MqKind, .inl (cI, 4100, .inl qKind9)), (MqSize, .inl (cI, 4100, .inl qSize9)), (MqAt, .inl (cI, 4100, .inl qAt9)), (MqAddress, .inl (cI, 4100, .inl qAddress9)), (MqMode, .inl (cI, 4100, .inl qMode9))] H := hP
                          have hD : va_D A0 [(Mu, .inl (cB, 8000, .inl mu)), (mm, .inr (9, fl 78 g_25)), (MqKind, .inl (cI, 4100, .inl qKind9)), (MqSize, .inl (cI, 4100, .inl qSize9)), (MqAt, .inl (cI, 4100, .inl qAt9)), (MqAddress, .inl (cI, 4100, .inl qAddress9)), (MqMode, .inl (cI, 4100, .inl qMode9))] := hD
                          obtain ⟨f_hin, waits_hin, hin_⟩ := hin
                          have k65_g_25 : g_25 65 = .int (nI sg) := (f_hin 65 (by decide)).trans (k65_g_23)
                          have k66_g_25 : g_25 66 = .int (nI en) := (f_hin 66 (by decide)).trans (k66_g_23)
                          have k64_g_25 : g_25 64 = .ref Mu := (f_hin 64 (by decide)).trans (k64_g_23)
                          have k68_g_25 : g_25 68 = .ref MqKind := (f_hin 68 (by decide)).trans (k68_g_23)
                          have k69_g_25 : g_25 69 = .ref MqSize := (f_hin 69 (by decide)).trans (k69_g_23)
                          have k70_g_25 : g_25 70 = .ref MqAt := (f_hin 70 (by decide)).trans (k70_g_23)
                          have k71_g_25 : g_25 71 = .ref MqAddress := (f_hin 71 (by decide)).trans (k71_g_23)
                          have k72_g_25 : g_25 72 = .ref MqMode := (f_hin 72 (by decide)).trans (k72_g_23)
                          have k73_g_25 : g_25 73 = .int (nI (bmA (eqN ub) (en - (p_ + 1)) (p_ + 1) (p_ + 1)).2) := (f_hin 73 (by decide)).trans (matchAddress_hmt1)
                          have fr_g_25 : frm [67, 73] g g_25 := frm_tr fr_g_23 f_hin (by decide)
                          have had : addI (p_ + bm.1) (p_ + bm.1) = [] := by rw [addI, if_neg (Nat.lt_irrefl _)]
                          have kx_27 : g_25 67 = .int (nI (((Ld ++ addI ad p_) ++ [(3, bm.1, p_, bm.2)]) ++ addI (p_ + bm.1) (p_ + bm.1)).length) := by have h9 : g_25 67 = .int (nI ((Ld ++ addI ad p_) ++ [(3, bm.1, p_, bm.2)] : List Ins).length) := waits_hin; rw [h9]; exact congrArg Value.int (by rw [had, List.append_nil])
                          refine lv_iload_n hx hb dX9_choose_170 rfl (lv_at hl 2 rfl) ?_
                          refine lv_iload hx hb dX9_choose_171 (lv_at hl 4 rfl) ?_
                          refine lv_iadd hx hb dX9_choose_173 ?_
                          refine ri (y := nI (p_ + bm.1)) (nI_add p_ bm.1) ?_
                          refine lv_istore_n (lv' := [(2, .int (nI (p_ + bm.1))), (0, .ref mm), (1, .int (nI way)), (3, .int (nI r_)), (4, .int (nI bm.1)), (5, .int (nI bm.2))]) hx hb dX9_choose_174 rfl hl (by decide) rfl (fun ls hl => ?_)
                          refine lv_goto (tgt := 10) hx hb dX9_choose_175 (by decide) ?_
                          exact ih g_25 k1 (p_ + bm.1) (p_ + bm.1) ((Ld ++ addI ad p_) ++ [(3, bm.1, p_, bm.2)]) qKind9 qSize9 qAt9 qAddress9 qMode9 _ _ ls (by omega) (fr_g_25) (kx_27) (Nat.le_refl _) (by omega) (by omega) (by omega) (fun z9 => absurd z9 hw0) (fun _ => by rw [hRk]; simp only [List.append_assoc, List.cons_append, List.nil_append]) (naL_put (by show ¬ 3 = 1; decide)) (kind_put hqk (by show 3 < 4; decide)) (by rw [List.length_append]; show _ + 1 ≤ _; omega) (by rw [had, List.append_nil]; exact hin_) (hP.sub [1, 0, 2, 3, 4, 5, 6] rfl) (hD.sub [1, 0, 2, 3, 4, 5, 6] (by decide) rfl) hS (lv_sub hl [1, 2, 0] rfl)
                        · have hlt : bm.1 + 2 ≤ (bmA (eqN ub) (en - (p_ + 1)) (p_ + 1) (p_ + 1)).1 := Nat.not_lt.mp (fun q => c_24 (nI_lt q (by omega)))
                          rw [if_pos (Or.inr ⟨hw2, show (bF (eqF (fun j => nI (ub j))) (en - p_) p_ p_).1 + 2 ≤ (bF (eqF (fun j => nI (ub j))) (en - (p_ + 1)) (p_ + 1) (p_ + 1)).1 by rw [hbf, hbf1, if_pos (by omega)]; exact hlt⟩)] at hRk
                          refine lv_aload_n hx hb dX9_choose_146 rfl (lv_at hl 0 rfl) ?_
                          refine lv_iconst (v := 1) hx hb dX9_choose_147 (by decide) ?_
                          refine ri (y := nI 1) (rfl) ?_
                          refine lv_iconst (v := 1) hx hb dX9_choose_148 (by decide) ?_
                          refine ri (y := nI 1) (rfl) ?_
                          refine lv_iload_n hx hb dX9_choose_149 rfl (lv_at hl 2 rfl) ?_
                          refine lv_iconst (v := 0) hx hb dX9_choose_150 (by decide) ?_
                          refine ri (y := nI 0) (nI_0.symm) ?_
                          by_cases hlt : ad < p_
                          · have hcu : (Ld ++ addI ad p_) = Ld ++ [(1, p_ - ad, ad, 0)] := by rw [addI, if_pos hlt]
                            rw [hcu] at hq
                            have kx_28 : g_23 67 = .int (nI (Ld ++ [(1, p_ - ad, ad, 0)] : List Ins).length) := by have h9 : g_23 67 = .int (nI (Ld ++ addI ad p_).length) := k67_g_23; rw [h9]; exact congrArg Value.int (by rw [hcu])
                            refine jn_v (wr := [(Mu, .inl (cB, 8000, .inl mu))]) hA hP hD hS [5, 0, 1, 2, 3, 4] [6] rfl rfl (by decide) (by decide) (rn_V (As := [.int (nI 1), .int (nI 1), .int (nI p_), .int (nI 0)]) (rest := []) ⟨hx, hb, hml, hown, hts⟩ (cvV 4 hts zc_yX9_instruct zi_X9 zm_yX9_instruct zv_yX9_instruct kX9_368 (by decide +kernel) rfl rfl ⟨Nat.le_of_ble_eq_true rfl, Nat.le_of_ble_eq_true rfl⟩) (m_instructM l D cI cB cJ cR mm g_23 MqKind MqSize MqAt MqAddress MqMode qKind7 qSize7 qAt7 qAddress7 qMode7 Ld (p_ - ad) ad 1 p_ (kx_28) (k68_g_23) (k69_g_23) (k70_g_23) (k71_g_23) (k72_g_23) (by omega) (hq) H.size) hK hNw hMk hA hP hD hS [5, 0, 1, 2, 3, 4] rfl rfl (by decide) 0 rfl rfl rfl rfl hl.1 rfl (Nat.le_of_ble_eq_true rfl) dX9_choose_151 ⟨Nat.le_of_ble_eq_true rfl, Nat.le_of_ble_eq_true rfl⟩) (fun u9 H locs hin hP hD hS => ?_)
                            obtain ⟨g_29, z9⟩ := u9
                            try dsimp only at hin
                            have hP : va_P D vwCl [(Mu, .inl (cB, 8000, .inl mu)), (mm, .inr (9, fl 78 g_29)), (MqKind, .inl (cI, 4100, .inl qKind7)), (MqSize, .inl (cI, 4100, .inl z9)), (MqAt, .inl (cI, 4100, .inl qAt7)), (MqAddress, .inl (cI, 4100, .inl qAddress7)), (MqMode, .inl (cI, 4100, .inl qMode7))] H := hP
                            have hD : va_D A0 [(Mu, .inl (cB, 8000, .inl mu)), (mm, .inr (9, fl 78 g_29)), (MqKind, .inl (cI, 4100, .inl qKind7)), (MqSize, .inl (cI, 4100, .inl z9)), (MqAt, .inl (cI, 4100, .inl qAt7)), (MqAddress, .inl (cI, 4100, .inl qAddress7)), (MqMode, .inl (cI, 4100, .inl qMode7))] := hD
                            obtain ⟨f_hin, waits_hin, hin_⟩ := hin
                            have k65_g_29 : g_29 65 = .int (nI sg) := (f_hin 65 (by decide)).trans (k65_g_23)
                            have k66_g_29 : g_29 66 = .int (nI en) := (f_hin 66 (by decide)).trans (k66_g_23)
                            have k64_g_29 : g_29 64 = .ref Mu := (f_hin 64 (by decide)).trans (k64_g_23)
                            have k68_g_29 : g_29 68 = .ref MqKind := (f_hin 68 (by decide)).trans (k68_g_23)
                            have k69_g_29 : g_29 69 = .ref MqSize := (f_hin 69 (by decide)).trans (k69_g_23)
                            have k70_g_29 : g_29 70 = .ref MqAt := (f_hin 70 (by decide)).trans (k70_g_23)
                            have k71_g_29 : g_29 71 = .ref MqAddress := (f_hin 71 (by decide)).trans (k71_g_23)
                            have k72_g_29 : g_29 72 = .ref MqMode := (f_hin 72 (by decide)).trans (k72_g_23)
                            have k73_g_29 : g_29 73 = .int (nI (bmA (eqN ub) (en - (p_ + 1)) (p_ + 1) (p_ + 1)).2) := (f_hin 73 (by decide)).trans (matchAddress_hmt1)
                            have fr_g_29 : frm [67, 73] g g_29 := frm_tr fr_g_23 f_hin (by decide)
                            have hcn : Ld ++ addI ad (p_ + 1) = Ld ++ [(1, p_ - ad + 1, ad, 0)] := by rw [addI, if_pos (by omega), show p_ + 1 - ad = p_ - ad + 1 by omega]
                            have kx_31 : g_29 67 = .int (nI (Ld ++ addI ad (p_ + 1)).length) := by have h9 : g_29 67 = .int (nI (Ld ++ [(1, (p_ - ad) + 1, ad, 0)] : List Ins).length) := waits_hin; rw [h9]; exact congrArg Value.int (by rw [hcn])
                            refine lv_iinc (v := nI (p_ + 1)) (lv' := [(2, .int (nI (p_ + 1))), (0, .ref mm), (1, .int (nI way)), (3, .int (nI r_)), (4, .int (nI bm.1)), (5, .int (nI bm.2))]) hx hb dX9_choose_154 hl (k := 2) rfl (nI_add p_ 1) (by decide) rfl (fun ls hl => ?_)
                            refine lv_goto (tgt := 175) hx hb dX9_choose_157 (by decide) ?_
                            refine lv_goto (tgt := 10) hx hb dX9_choose_175 (by decide) ?_
                            exact ih g_29 k1 ad (p_ + 1) Ld qKind7 z9 qAt7 qAddress7 qMode7 _ _ ls (by omega) (fr_g_29) (kx_31) (by omega) (hsa) (by omega) (by omega) (fun z => absurd z hw0) (fun _ => hRk) (hna) (hql) (hlL) (by rw [hcn]; exact hin_) (hP.sub [1, 0, 2, 3, 4, 5, 6] rfl) (hD.sub [1, 0, 2, 3, 4, 5, 6] (by decide) rfl) hS (lv_sub hl [1, 2, 0] rfl)
                          · have hap2 : ad = p_ := by omega
                            have hcu : (Ld ++ addI ad p_) = Ld := by rw [hap2, addI, if_neg (Nat.lt_irrefl _), List.append_nil]
                            rw [hcu] at hq
                            have kx_32 : g_23 67 = .int (nI Ld.length) := by have h9 : g_23 67 = .int (nI (Ld ++ addI ad p_).length) := k67_g_23; rw [h9]; exact congrArg Value.int (by rw [hcu])
                            refine jn_v (wr := [(Mu, .inl (cB, 8000, .inl mu))]) hA hP hD hS [5, 0, 1, 2, 3, 4] [6] rfl rfl (by decide) (by decide) (rn_V (As := [.int (nI 1), .int (nI 1), .int (nI p_), .int (nI 0)]) (rest := []) ⟨hx, hb, hml, hown, hts⟩ (cvV 4 hts zc_yX9_instruct zi_X9 zm_yX9_instruct zv_yX9_instruct kX9_368 (by decide +kernel) rfl rfl ⟨Nat.le_of_ble_eq_true rfl, Nat.le_of_ble_eq_true rfl⟩) (m_instructN l D cI cB cJ cR mm g_23 MqKind MqSize MqAt MqAddress MqMode qKind7 qSize7 qAt7 qAddress7 qMode7 Ld 1 1 p_ 0 (kx_32) (k68_g_23) (k69_g_23) (k70_g_23) (k71_g_23) (k72_g_23) (by omega) (hq) (by decide) (fun _ => hna) (hql) H.size) hK hNw hMk hA hP hD hS [5, 0, 1, 2, 3, 4] rfl rfl (by decide) 0 rfl rfl rfl rfl hl.1 rfl (Nat.le_of_ble_eq_true rfl) dX9_choose_151 ⟨Nat.le_of_ble_eq_true rfl, Nat.le_of_ble_eq_true rfl⟩) (fun u9 H locs hin hP hD hS => ?_)
                            obtain ⟨g_33, qKind9, qSize9, qAt9, qAddress9, qMode9⟩ := u9
                            try dsimp only at hin
                            have hP : va_P D vwCl [(Mu, .inl (cB, 8000, .inl mu)), (mm, .inr (9, fl 78 g_33)), (MqKind, .inl (cI, 4100, .inl qKind9)), (MqSize, .inl (cI, 4100, .inl qSize9)), (MqAt, .inl (cI, 4100, .inl qAt9)), (MqAddress, .inl (cI, 4100, .inl qAddress9)), (MqMode, .inl (cI, 4100, .inl qMode9))] H := hP
                            have hD : va_D A0 [(Mu, .inl (cB, 8000, .inl mu)), (mm, .inr (9, fl 78 g_33)), (MqKind, .inl (cI, 4100, .inl qKind9)), (MqSize, .inl (cI, 4100, .inl qSize9)), (MqAt, .inl (cI, 4100, .inl qAt9)), (MqAddress, .inl (cI, 4100, .inl qAddress9)), (MqMode, .inl (cI, 4100, .inl qMode9))] := hD
                            obtain ⟨f_hin, waits_hin, hin_⟩ := hin
                            have k65_g_33 : g_33 65 = .int (nI sg) := (f_hin 65 (by decide)).trans (k65_g_23)
                            have k66_g_33 : g_33 66 = .int (nI en) := (f_hin 66 (by decide)).trans (k66_g_23)
                            have k64_g_33 : g_33 64 = .ref Mu := (f_hin 64 (by decide)).trans (k64_g_23)
                            have k68_g_33 : g_33 68 = .ref MqKind := (f_hin 68 (by decide)).trans (k68_g_23)
                            have k69_g_33 : g_33 69 = .ref MqSize := (f_hin 69 (by decide)).trans (k69_g_23)
                            have k70_g_33 : g_33 70 = .ref MqAt := (f_hin 70 (by decide)).trans (k70_g_23)
                            have k71_g_33 : g_33 71 = .ref MqAddress := (f_hin 71 (by decide)).trans (k71_g_23)
                            have k72_g_33 : g_33 72 = .ref MqMode := (f_hin 72 (by decide)).trans (k72_g_23)
                            have k73_g_33 : g_33 73 = .int (nI (bmA (eqN ub) (en - (p_ + 1)) (p_ + 1) (p_ + 1)).2) := (f_hin 73 (by decide)).trans (matchAddress_hmt1)
                            have fr_g_33 : frm [67, 73] g g_33 := frm_tr fr_g_23 f_hin (by decide)
                            have hcn : Ld ++ addI ad (p_ + 1) = Ld ++ [(1, 1, p_, 0)] := by rw [addI, if_pos (by omega), hap2, show p_ + 1 - p_ = 1 by omega]
                            have kx_35 : g_33 67 = .int (nI (Ld ++ addI ad (p_ + 1)).length) := by have h9 : g_33 67 = .int (nI (Ld ++ [(1, 1, p_, 0)] : List Ins).length) := waits_hin; rw [h9]; exact congrArg Value.int (by rw [hcn])
                            refine lv_iinc (v := nI (p_ + 1)) (lv' := [(2, .int (nI (p_ + 1))), (0, .ref mm), (1, .int (nI way)), (3, .int (nI r_)), (4, .int (nI bm.1)), (5, .int (nI bm.2))]) hx hb dX9_choose_154 hl (k := 2) rfl (nI_add p_ 1) (by decide) rfl (fun ls hl => ?_)
                            refine lv_goto (tgt := 175) hx hb dX9_choose_157 (by decide) ?_
                            refine lv_goto (tgt := 10) hx hb dX9_choose_175 (by decide) ?_
                            exact ih g_33 k1 ad (p_ + 1) Ld qKind9 qSize9 qAt9 qAddress9 qMode9 _ _ ls (by omega) (fr_g_33) (kx_35) (by omega) (hsa) (by omega) (by omega) (fun z => absurd z hw0) (fun _ => hRk) (hna) (hql) (hlL) (by rw [hcn]; exact hin_) (hP.sub [1, 0, 2, 3, 4, 5, 6] rfl) (hD.sub [1, 0, 2, 3, 4, 5, 6] (by decide) rfl) hS (lv_sub hl [1, 2, 0] rfl)
                refine lv_icmp_lt (tgt := 111) hx hb dX9_choose_87 (by decide) (fun c_36 => ?_) (fun c_36 => ?_)
                · have hr6 : r_ < 6 := (nI_ltI (b := 6) (by omega) (by decide)).mp c_36
                  exact JN g_4 _ _ ls (fr_g_4) (k67_g_4) (km_5) (fun z => absurd z.1 (by omega)) (hP.sub [5, 0, 1, 2, 3, 4, 6] rfl) (hD.sub [5, 0, 1, 2, 3, 4, 6] (by decide) rfl) hS (lv_sub hl [2, 3, 4, 5, 1, 0] rfl)
                · have hr6 : 6 ≤ r_ := Nat.not_lt.mp (fun q => c_36 (nI_lt (b := 6) q (by decide)))
                  refine lv_iload_n hx hb dX9_choose_90 rfl (lv_at hl 5 rfl) ?_
                  refine lv_iload hx hb dX9_choose_91 (lv_at hl 1 rfl) ?_
                  refine lv_icmp_lt (tgt := 111) hx hb dX9_choose_93 (by decide) (fun c_37 => ?_) (fun c_37 => ?_)
                  · have hrm : r_ < bm.1 := (nI_ltI (by omega) (by omega)).mp c_37
                    exact JN g_4 _ _ ls (fr_g_4) (k67_g_4) (km_5) (fun z => absurd z.2 (by omega)) (hP.sub [5, 0, 1, 2, 3, 4, 6] rfl) (hD.sub [5, 0, 1, 2, 3, 4, 6] (by decide) rfl) hS (lv_sub hl [2, 3, 4, 5, 1, 0] rfl)
                  · have hrm : bm.1 ≤ r_ := Nat.not_lt.mp (fun q => c_37 (nI_lt q (by omega)))
                    rw [if_pos (show 6 ≤ r_ ∧ (bF (eqF (fun j => nI (ub j))) (en - p_) p_ p_).1 ≤ r_ from ⟨hr6, by rw [hbf]; split; exact hrm; exact Nat.zero_le _⟩)] at hRk
                    refine lv_aload_n hx hb dX9_choose_96 rfl (lv_at hl 2 rfl) ?_
                    refine lv_iconst (v := 2) hx hb dX9_choose_97 (by decide) ?_
                    refine ri (y := nI 2) (rfl) ?_
                    refine lv_iload_n hx hb dX9_choose_98 rfl (lv_at hl 5 rfl) ?_
                    refine lv_iload_n hx hb dX9_choose_99 rfl (lv_at hl 4 rfl) ?_
                    refine lv_iconst (v := 0) hx hb dX9_choose_100 (by decide) ?_
                    refine ri (y := nI 0) (nI_0.symm) ?_
                    refine jn_v (wr := [(Mu, .inl (cB, 8000, .inl mu))]) hA hP hD hS [5, 0, 1, 2, 3, 4] [6] rfl rfl (by decide) (by decide) (rn_V (As := [.int (nI 2), .int (nI r_), .int (nI p_), .int (nI 0)]) (rest := []) ⟨hx, hb, hml, hown, hts⟩ (cvV 4 hts zc_yX9_instruct zi_X9 zm_yX9_instruct zv_yX9_instruct kX9_368 (by decide +kernel) rfl rfl ⟨Nat.le_of_ble_eq_true rfl, Nat.le_of_ble_eq_true rfl⟩) (m_instructN l D cI cB cJ cR mm g_4 MqKind MqSize MqAt MqAddress MqMode qKind7 qSize7 qAt7 qAddress7 qMode7 (Ld ++ addI ad p_) 2 r_ p_ 0 (k67_g_4) (k68_g_4) (k69_g_4) (k70_g_4) (k71_g_4) (k72_g_4) (by omega) (hq) (by decide) (fun z9 => absurd z9 (by decide)) (hqk) H.size) hK hNw hMk hA hP hD hS [5, 0, 1, 2, 3, 4] rfl rfl (by decide) 0 rfl rfl rfl rfl hl.1 rfl (Nat.le_of_ble_eq_true rfl) dX9_choose_101 ⟨Nat.le_of_ble_eq_true rfl, Nat.le_of_ble_eq_true rfl⟩) (fun u9 H locs hin hP hD hS => ?_)
                    obtain ⟨g_38, qKind9, qSize9, qAt9, qAddress9, qMode9⟩ := u9
                    try dsimp only at hin
                    have hP : va_P D vwCl [(Mu, .inl (cB, 8000, .inl mu)), (mm, .inr (9, fl 78 g_38)), (MqKind, .inl (cI, 4100, .inl qKind9)), (MqSize, .inl (cI, 4100, .inl qSize9)), (MqAt, .inl (cI, 4100, .inl qAt9)), (MqAddress, .inl (cI, 4100, .inl qAddress9)), (MqMode, .inl (cI, 4100, .inl qMode9))] H := hP
                    have hD : va_D A0 [(Mu, .inl (cB, 8000, .inl mu)), (mm, .inr (9, fl 78 g_38)), (MqKind, .inl (cI, 4100, .inl qKind9)), (MqSize, .inl (cI, 4100, .inl qSize9)), (MqAt, .inl (cI, 4100, .inl qAt9)), (MqAddress, .inl (cI, 4100, .inl qAddress9)), (MqMode, .inl (cI, 4100, .inl qMode9))] := hD
                    obtain ⟨f_hin, waits_hin, hin_⟩ := hin
                    have k65_g_38 : g_38 65 = .int (nI sg) := (f_hin 65 (by decide)).trans (k65_g_4)
                    have k66_g_38 : g_38 66 = .int (nI en) := (f_hin 66 (by decide)).trans (k66_g_4)
                    have k64_g_38 : g_38 64 = .ref Mu := (f_hin 64 (by decide)).trans (k64_g_4)
                    have k68_g_38 : g_38 68 = .ref MqKind := (f_hin 68 (by decide)).trans (k68_g_4)
                    have k69_g_38 : g_38 69 = .ref MqSize := (f_hin 69 (by decide)).trans (k69_g_4)
                    have k70_g_38 : g_38 70 = .ref MqAt := (f_hin 70 (by decide)).trans (k70_g_4)
                    have k71_g_38 : g_38 71 = .ref MqAddress := (f_hin 71 (by decide)).trans (k71_g_4)
                    have k72_g_38 : g_38 72 = .ref MqMode := (f_hin 72 (by decide)).trans (k72_g_4)
                    have k73_g_38 : g_38 73 = .int (nI bm.2) := (f_hin 73 (by decide)).trans (km_5)
                    have fr_g_38 : frm [67, 73] g g_38 := frm_tr fr_g_4 f_hin (by decide)
                    have had : addI (p_ + r_) (p_ + r_) = [] := by rw [addI, if_neg (Nat.lt_irrefl _)]
                    have kx_40 : g_38 67 = .int (nI (((Ld ++ addI ad p_) ++ [(2, r_, p_, 0)]) ++ addI (p_ + r_) (p_ + r_)).length) := by have h9 : g_38 67 = .int (nI ((Ld ++ addI ad p_) ++ [(2, r_, p_, 0)] : List Ins).length) := waits_hin; rw [h9]; exact congrArg Value.int (by rw [had, List.append_nil])
                    refine lv_iload_n hx hb dX9_choose_104 rfl (lv_at hl 4 rfl) ?_
                    refine lv_iload_n hx hb dX9_choose_105 rfl (lv_at hl 5 rfl) ?_
                    refine lv_iadd hx hb dX9_choose_106 ?_
                    refine ri (y := nI (p_ + r_)) (nI_add p_ r_) ?_
                    refine lv_istore_n (lv' := [(2, .int (nI (p_ + r_))), (5, .int (nI bm.2)), (4, .int (nI bm.1)), (0, .ref mm), (1, .int (nI way)), (3, .int (nI r_))]) hx hb dX9_choose_107 rfl hl (by decide) rfl (fun ls hl => ?_)
                    refine lv_goto (tgt := 175) hx hb dX9_choose_108 (by decide) ?_
                    refine lv_goto (tgt := 10) hx hb dX9_choose_175 (by decide) ?_
                    exact ih g_38 k1 (p_ + r_) (p_ + r_) ((Ld ++ addI ad p_) ++ [(2, r_, p_, 0)]) qKind9 qSize9 qAt9 qAddress9 qMode9 _ _ ls (by omega) (fr_g_38) (kx_40) (Nat.le_refl _) (by omega) (by omega) (by omega) (fun z9 => absurd z9 hw0) (fun _ => by rw [hRk]; simp only [List.append_assoc, List.cons_append, List.nil_append]) (naL_put (by show ¬ 2 = 1; decide)) (kind_put hqk (by show 2 < 4; decide)) (by rw [List.length_append]; show _ + 1 ≤ _; omega) (by rw [had, List.append_nil]; exact hin_) (hP.sub [1, 0, 2, 3, 4, 5, 6] rfl) (hD.sub [1, 0, 2, 3, 4, 5, 6] (by decide) rfl) hS (lv_sub hl [3, 4, 0] rfl)
              · have hr9 : p_ + r_ < en := Nat.not_le.mp (fun q => c_3 (nI_le q (by omega)))
                refine lv_aload_n hx hb dX9_choose_48 rfl (lv_at hl 0 rfl) ?_
                refine fx_get (D := D) (ci := 9) (v := .ref Mu) (C := RX9) (T := TX9) (N := 78) hx hb hts in_X9 hown hK hP 0 rfl rfl 64 (by decide) (hts _ kX9_100) (fun _ h9 => h9) ((hf_lr 64 (by decide)).trans g_u) dX9_choose_49 ?_
                refine lv_iload_n hx hb dX9_choose_52 rfl (lv_at hl 2 rfl) ?_
                refine lv_iload_n hx hb dX9_choose_53 rfl (lv_at hl 3 rfl) ?_
                refine lv_iadd hx hb dX9_choose_54 ?_
                refine ri (y := nI (p_ + r_)) (nI_add p_ r_) ?_
                refine ax_bld hx hb hK hP 1 1 rfl rfl (p_ + r_) (rfl) (by omega) (by omega) dX9_choose_55 ?_
                refine ri (y := s8 (ub (p_ + r_))) (hu _ (by omega)) ?_
                refine lv_aload_n hx hb dX9_choose_56 rfl (lv_at hl 0 rfl) ?_
                refine fx_get (D := D) (ci := 9) (v := .ref Mu) (C := RX9) (T := TX9) (N := 78) hx hb hts in_X9 hown hK hP 0 rfl rfl 64 (by decide) (hts _ kX9_100) (fun _ h9 => h9) ((hf_lr 64 (by decide)).trans g_u) dX9_choose_57 ?_
                refine lv_iload_n hx hb dX9_choose_60 rfl (lv_at hl 2 rfl) ?_
                refine ax_bld hx hb hK hP 1 1 rfl rfl p_ (rfl) (by omega) (by omega) dX9_choose_61 ?_
                refine ri (y := s8 (ub p_)) (hu _ (by omega)) ?_
                refine lv_icmp_ne (tgt := 71) hx hb dX9_choose_62 (by decide) (fun c_41 => ?_) (fun c_41 => ?_)
                · have hru : r_ = (runF (fun j => nI (ub j)) p_ (en - p_) p_) := by rw [← hrr, show en - p_ - r_ = en - p_ - (r_ + 1) + 1 by omega, runF, if_neg (fun z => c_41 (by rw [(nI_eq (by have := hub (p_ + r_); omega) (by have := hub p_; omega)).mp z]))]; rfl
                  refine lv_aload_n hx hb dX9_choose_71 rfl (lv_at hl 0 rfl) ?_
                  refine lv_iload_n hx hb dX9_choose_72 rfl (lv_at hl 2 rfl) ?_
                  refine jn_i (wr := [(MqKind, .inl (cI, 4100, .inl qKind7)), (MqSize, .inl (cI, 4100, .inl qSize7)), (MqAt, .inl (cI, 4100, .inl qAt7)), (MqAddress, .inl (cI, 4100, .inl qAddress7)), (MqMode, .inl (cI, 4100, .inl qMode7))]) hA hP hD hS [0, 1] [2, 3, 4, 5, 6] rfl rfl (by decide) (by decide) (rn_V (As := [.int (nI p_)]) (rest := []) ⟨hx, hb, hml, hown, hts⟩ (cvV 1 hts zc_yX9_match zi_X9 zm_yX9_match zv_yX9_match kX9_372 (by decide +kernel) rfl rfl ⟨Nat.le_of_ble_eq_true rfl, Nat.le_of_ble_eq_true rfl⟩) (m_match l D cI cB cJ cR mm g5_lr Mu mu en p_ ub ((hf_lr 66 (by decide)).trans g_uEnd) ((hf_lr 64 (by decide)).trans g_u) (he8) (hpe) (hub) (hu) H.size) hK hNw hMk hA hP hD hS [0, 1] rfl rfl (by decide) 0 rfl rfl rfl rfl hl.1 rfl (Nat.le_of_ble_eq_true rfl) dX9_choose_73 ⟨Nat.le_of_ble_eq_true rfl, Nat.le_of_ble_eq_true rfl⟩) (fun rm u9 H locs hmt hP hD hS => ?_)
                  obtain ⟨g_42, rfl⟩ : ∃ z9, z9 = u9 := ⟨_, rfl⟩
                  try dsimp only at hmt
                  have hP : va_P D vwCl [(MqKind, .inl (cI, 4100, .inl qKind7)), (MqSize, .inl (cI, 4100, .inl qSize7)), (MqAt, .inl (cI, 4100, .inl qAt7)), (MqAddress, .inl (cI, 4100, .inl qAddress7)), (MqMode, .inl (cI, 4100, .inl qMode7)), (mm, .inr (9, fl 78 g_42)), (Mu, .inl (cB, 8000, .inl mu))] H := hP
                  have hD : va_D A0 [(MqKind, .inl (cI, 4100, .inl qKind7)), (MqSize, .inl (cI, 4100, .inl qSize7)), (MqAt, .inl (cI, 4100, .inl qAt7)), (MqAddress, .inl (cI, 4100, .inl qAddress7)), (MqMode, .inl (cI, 4100, .inl qMode7)), (mm, .inr (9, fl 78 g_42)), (Mu, .inl (cB, 8000, .inl mu))] := hD
                  obtain ⟨f_hmt, matchAddress_hmt, hmt_⟩ := hmt
                  have k65_g_42 : g_42 65 = .int (nI sg) := (f_hmt 65 (by decide)).trans ((hf_lr 65 (by decide)).trans g_uBegin)
                  have k66_g_42 : g_42 66 = .int (nI en) := (f_hmt 66 (by decide)).trans ((hf_lr 66 (by decide)).trans g_uEnd)
                  have k64_g_42 : g_42 64 = .ref Mu := (f_hmt 64 (by decide)).trans ((hf_lr 64 (by decide)).trans g_u)
                  have k68_g_42 : g_42 68 = .ref MqKind := (f_hmt 68 (by decide)).trans ((hf_lr 68 (by decide)).trans g_qKind)
                  have k69_g_42 : g_42 69 = .ref MqSize := (f_hmt 69 (by decide)).trans ((hf_lr 69 (by decide)).trans g_qSize)
                  have k70_g_42 : g_42 70 = .ref MqAt := (f_hmt 70 (by decide)).trans ((hf_lr 70 (by decide)).trans g_qAt)
                  have k71_g_42 : g_42 71 = .ref MqAddress := (f_hmt 71 (by decide)).trans ((hf_lr 71 (by decide)).trans g_qAddress)
                  have k72_g_42 : g_42 72 = .ref MqMode := (f_hmt 72 (by decide)).trans ((hf_lr 72 (by decide)).trans g_qMode)
                  have k67_g_42 : g_42 67 = .int (nI (Ld ++ addI ad p_).length) := (f_hmt 67 (by decide)).trans (k_waits_lr)
                  have fr_g_42 : frm [67, 73] g g_42 := frm_tr hf_lr f_hmt (by decide)
                  subst hmt_
                  have hbl := bmA_le (q := eqN ub) (n := en - p_) (p := p_) p_
                  have hbf : bF (eqF (fun j => nI (ub j))) (en - p_) p_ p_ = if 4 ≤ (bmA (eqN ub) (en - p_) p_ p_).1 then (bmA (eqN ub) (en - p_) p_ p_) else (0, 0) := by rw [eqF_eqN hub]; exact bF_bm _ _ _ _
                  try dsimp only at hRk
                  obtain ⟨bm, hbm⟩ : ∃ t, t = (bmA (eqN ub) (en - p_) p_ p_) := ⟨_, rfl⟩
                  rw [← hbm] at hbl hbf
                  rw [← hru] at hRk
                  have km_43 : g_42 73 = .int (nI bm.2) := by have h9 := matchAddress_hmt; rw [hbm]; exact h9
                  refine ri (y := nI bm.1) (by rw [hbm]) ?_
                  refine lv_istore (lv' := [(4, .int (nI bm.1)), (0, .ref mm), (1, .int (nI way)), (2, .int (nI p_)), (3, .int (nI r_))]) hx hb dX9_choose_76 hl (by decide) rfl (fun ls hl => ?_)
                  refine lv_aload_n hx hb dX9_choose_78 rfl (lv_at hl 1 rfl) ?_
                  refine fx_get (D := D) (ci := 9) (v := .int (nI bm.2)) (C := RX9) (T := TX9) (N := 78) hx hb hts in_X9 hown hK hP 5 rfl rfl 73 (by decide) (hts _ kX9_359) (fun _ h9 => h9) (km_43) dX9_choose_79 ?_
                  refine lv_istore (lv' := [(5, .int (nI bm.2)), (4, .int (nI bm.1)), (0, .ref mm), (1, .int (nI way)), (2, .int (nI p_)), (3, .int (nI r_))]) hx hb dX9_choose_82 hl (by decide) rfl (fun ls hl => ?_)
                  refine lv_iload_n hx hb dX9_choose_84 rfl (lv_at hl 5 rfl) ?_
                  refine lv_bipush (v := 6) hx hb dX9_choose_85 (by decide) ?_
                  have JN : ∀ (gj_JN : Nat → Value) (H : Heap) (locs : List Loc) (ls : Array Slot), (frm [67, 73] g gj_JN) → (gj_JN 67 = .int (nI (Ld ++ addI ad p_).length)) → (gj_JN 73 = .int (nI bm.2)) → (¬ (6 ≤ r_ ∧ bm.1 ≤ r_)) → va_P D vwCl [(mm, .inr (9, fl 78 gj_JN)), (MqKind, .inl (cI, 4100, .inl qKind7)), (MqSize, .inl (cI, 4100, .inl qSize7)), (MqAt, .inl (cI, 4100, .inl qAt7)), (MqAddress, .inl (cI, 4100, .inl qAddress7)), (MqMode, .inl (cI, 4100, .inl qMode7)), (Mu, .inl (cB, 8000, .inl mu))] H → va_D A0 [(mm, .inr (9, fl 78 gj_JN)), (MqKind, .inl (cI, 4100, .inl qKind7)), (MqSize, .inl (cI, 4100, .inl qSize7)), (MqAt, .inl (cI, 4100, .inl qAt7)), (MqAddress, .inl (cI, 4100, .inl qAddress7)), (MqMode, .inl (cI, 4100, .inl qMode7)), (Mu, .inl (cB, 8000, .inl mu))] → va_S A0 s0.heap H locs → lv_has ls 6 [(0, .ref mm), (1, .int (nI way)), (2, .int (nI p_)), (3, .int (nI r_)), (4, .int (nI bm.1)), (5, .int (nI bm.2))] → W p0 l e0 ({ frames := 1, cells := 0, slots := 0, locals := 25 }) s0 m0 ([.ref mm, .int (nI way)] : List Value).toArray below meth c0 H locs 0 0 Q0 (F0 m0 111 ls []) := by
                    intro gj_JN H locs ls hf_JN k_waits_JN k_matchAddress_JN hnr hP hD hS hl
                    rw [if_neg (show ¬ (6 ≤ r_ ∧ (bF (eqF (fun j => nI (ub j))) (en - p_) p_ p_).1 ≤ r_) from fun z => hnr ⟨z.1, by have := z.2; rw [hbf] at this; split at this; exact this; omega⟩)] at hRk
                    refine lv_iload hx hb dX9_choose_111 (lv_at hl 4 rfl) ?_
                    refine lv_iconst (v := 4) hx hb dX9_choose_113 (by decide) ?_
                    refine lv_icmp_lt (tgt := 146) hx hb dX9_choose_114 (by decide) (fun c_44 => ?_) (fun c_44 => ?_)
                    · have hm4 : bm.1 < 4 := (nI_ltI (b := 4) (by omega) (by decide)).mp c_44
                      rw [if_pos (Or.inl (show (bF (eqF (fun j => nI (ub j))) (en - p_) p_ p_).1 < 4 by rw [hbf, if_neg (by omega)]; decide))] at hRk
                      refine lv_aload_n hx hb dX9_choose_146 rfl (lv_at hl 0 rfl) ?_
                      refine lv_iconst (v := 1) hx hb dX9_choose_147 (by decide) ?_
                      refine ri (y := nI 1) (rfl) ?_
                      refine lv_iconst (v := 1) hx hb dX9_choose_148 (by decide) ?_
                      refine ri (y := nI 1) (rfl) ?_
                      refine lv_iload_n hx hb dX9_choose_149 rfl (lv_at hl 2 rfl) ?_
                      refine lv_iconst (v := 0) hx hb dX9_choose_150 (by decide) ?_
                      refine ri (y := nI 0) (nI_0.symm) ?_
                      by_cases hlt : ad < p_
                      · have hcu : (Ld ++ addI ad p_) = Ld ++ [(1, p_ - ad, ad, 0)] := by rw [addI, if_pos hlt]
                        rw [hcu] at hq
                        have kx_45 : gj_JN 67 = .int (nI (Ld ++ [(1, p_ - ad, ad, 0)] : List Ins).length) := by have h9 : gj_JN 67 = .int (nI (Ld ++ addI ad p_).length) := k_waits_JN; rw [h9]; exact congrArg Value.int (by rw [hcu])
                        refine jn_v (wr := [(Mu, .inl (cB, 8000, .inl mu))]) hA hP hD hS [0, 1, 2, 3, 4, 5] [6] rfl rfl (by decide) (by decide) (rn_V (As := [.int (nI 1), .int (nI 1), .int (nI p_), .int (nI 0)]) (rest := []) ⟨hx, hb, hml, hown, hts⟩ (cvV 4 hts zc_yX9_instruct zi_X9 zm_yX9_instruct zv_yX9_instruct kX9_368 (by decide +kernel) rfl rfl ⟨Nat.le_of_ble_eq_true rfl, Nat.le_of_ble_eq_true rfl⟩) (m_instructM l D cI cB cJ cR mm gj_JN MqKind MqSize MqAt MqAddress MqMode qKind7 qSize7 qAt7 qAddress7 qMode7 Ld (p_ - ad) ad 1 p_ (kx_45) ((hf_JN 68 (by decide)).trans g_qKind) ((hf_JN 69 (by decide)).trans g_qSize) ((hf_JN 70 (by decide)).trans g_qAt) ((hf_JN 71 (by decide)).trans g_qAddress) ((hf_JN 72 (by decide)).trans g_qMode) (by omega) (hq) H.size) hK hNw hMk hA hP hD hS [0, 1, 2, 3, 4, 5] rfl rfl (by decide) 0 rfl rfl rfl rfl hl.1 rfl (Nat.le_of_ble_eq_true rfl) dX9_choose_151 ⟨Nat.le_of_ble_eq_true rfl, Nat.le_of_ble_eq_true rfl⟩) (fun u9 H locs hin hP hD hS => ?_)
                        obtain ⟨g_46, z9⟩ := u9
                        try dsimp only at hin
                        have hP : va_P D vwCl [(Mu, .inl (cB, 8000, .inl mu)), (mm, .inr (9, fl 78 g_46)), (MqKind, .inl (cI, 4100, .inl qKind7)), (MqSize, .inl (cI, 4100, .inl z9)), (MqAt, .inl (cI, 4100, .inl qAt7)), (MqAddress, .inl (cI, 4100, .inl qAddress7)), (MqMode, .inl (cI, 4100, .inl qMode7))] H := hP
                        have hD : va_D A0 [(Mu, .inl (cB, 8000, .inl mu)), (mm, .inr (9, fl 78 g_46)), (MqKind, .inl (cI, 4100, .inl qKind7)), (MqSize, .inl (cI, 4100, .inl z9)), (MqAt, .inl (cI, 4100, .inl qAt7)), (MqAddress, .inl (cI, 4100, .inl qAddress7)), (MqMode, .inl (cI, 4100, .inl qMode7))] := hD
                        obtain ⟨f_hin, waits_hin, hin_⟩ := hin
                        have k65_g_46 : g_46 65 = .int (nI sg) := (f_hin 65 (by decide)).trans ((hf_JN 65 (by decide)).trans g_uBegin)
                        have k66_g_46 : g_46 66 = .int (nI en) := (f_hin 66 (by decide)).trans ((hf_JN 66 (by decide)).trans g_uEnd)
                        have k64_g_46 : g_46 64 = .ref Mu := (f_hin 64 (by decide)).trans ((hf_JN 64 (by decide)).trans g_u)
                        have k68_g_46 : g_46 68 = .ref MqKind := (f_hin 68 (by decide)).trans ((hf_JN 68 (by decide)).trans g_qKind)
                        have k69_g_46 : g_46 69 = .ref MqSize := (f_hin 69 (by decide)).trans ((hf_JN 69 (by decide)).trans g_qSize)
                        have k70_g_46 : g_46 70 = .ref MqAt := (f_hin 70 (by decide)).trans ((hf_JN 70 (by decide)).trans g_qAt)
                        have k71_g_46 : g_46 71 = .ref MqAddress := (f_hin 71 (by decide)).trans ((hf_JN 71 (by decide)).trans g_qAddress)
                        have k72_g_46 : g_46 72 = .ref MqMode := (f_hin 72 (by decide)).trans ((hf_JN 72 (by decide)).trans g_qMode)
                        have k73_g_46 : g_46 73 = .int (nI bm.2) := (f_hin 73 (by decide)).trans (k_matchAddress_JN)
                        have fr_g_46 : frm [67, 73] g g_46 := frm_tr hf_JN f_hin (by decide)
                        have hcn : Ld ++ addI ad (p_ + 1) = Ld ++ [(1, p_ - ad + 1, ad, 0)] := by rw [addI, if_pos (by omega), show p_ + 1 - ad = p_ - ad + 1 by omega]
                        have kx_48 : g_46 67 = .int (nI (Ld ++ addI ad (p_ + 1)).length) := by have h9 : g_46 67 = .int (nI (Ld ++ [(1, (p_ - ad) + 1, ad, 0)] : List Ins).length) := waits_hin; rw [h9]; exact congrArg Value.int (by rw [hcn])
                        refine lv_iinc (v := nI (p_ + 1)) (lv' := [(2, .int (nI (p_ + 1))), (0, .ref mm), (1, .int (nI way)), (3, .int (nI r_)), (4, .int (nI bm.1)), (5, .int (nI bm.2))]) hx hb dX9_choose_154 hl (k := 2) rfl (nI_add p_ 1) (by decide) rfl (fun ls hl => ?_)
                        refine lv_goto (tgt := 175) hx hb dX9_choose_157 (by decide) ?_
                        refine lv_goto (tgt := 10) hx hb dX9_choose_175 (by decide) ?_
                        exact ih g_46 k1 ad (p_ + 1) Ld qKind7 z9 qAt7 qAddress7 qMode7 _ _ ls (by omega) (fr_g_46) (kx_48) (by omega) (hsa) (by omega) (by omega) (fun z => absurd z hw0) (fun _ => hRk) (hna) (hql) (hlL) (by rw [hcn]; exact hin_) (hP.sub [1, 0, 2, 3, 4, 5, 6] rfl) (hD.sub [1, 0, 2, 3, 4, 5, 6] (by decide) rfl) hS (lv_sub hl [1, 2, 0] rfl)
                      · have hap2 : ad = p_ := by omega
                        have hcu : (Ld ++ addI ad p_) = Ld := by rw [hap2, addI, if_neg (Nat.lt_irrefl _), List.append_nil]
                        rw [hcu] at hq
                        have kx_49 : gj_JN 67 = .int (nI Ld.length) := by have h9 : gj_JN 67 = .int (nI (Ld ++ addI ad p_).length) := k_waits_JN; rw [h9]; exact congrArg Value.int (by rw [hcu])
                        refine jn_v (wr := [(Mu, .inl (cB, 8000, .inl mu))]) hA hP hD hS [0, 1, 2, 3, 4, 5] [6] rfl rfl (by decide) (by decide) (rn_V (As := [.int (nI 1), .int (nI 1), .int (nI p_), .int (nI 0)]) (rest := []) ⟨hx, hb, hml, hown, hts⟩ (cvV 4 hts zc_yX9_instruct zi_X9 zm_yX9_instruct zv_yX9_instruct kX9_368 (by decide +kernel) rfl rfl ⟨Nat.le_of_ble_eq_true rfl, Nat.le_of_ble_eq_true rfl⟩) (m_instructN l D cI cB cJ cR mm gj_JN MqKind MqSize MqAt MqAddress MqMode qKind7 qSize7 qAt7 qAddress7 qMode7 Ld 1 1 p_ 0 (kx_49) ((hf_JN 68 (by decide)).trans g_qKind) ((hf_JN 69 (by decide)).trans g_qSize) ((hf_JN 70 (by decide)).trans g_qAt) ((hf_JN 71 (by decide)).trans g_qAddress) ((hf_JN 72 (by decide)).trans g_qMode) (by omega) (hq) (by decide) (fun _ => hna) (hql) H.size) hK hNw hMk hA hP hD hS [0, 1, 2, 3, 4, 5] rfl rfl (by decide) 0 rfl rfl rfl rfl hl.1 rfl (Nat.le_of_ble_eq_true rfl) dX9_choose_151 ⟨Nat.le_of_ble_eq_true rfl, Nat.le_of_ble_eq_true rfl⟩) (fun u9 H locs hin hP hD hS => ?_)
                        obtain ⟨g_50, qKind9, qSize9, qAt9, qAddress9, qMode9⟩ := u9
                        try dsimp only at hin
                        have hP : va_P D vwCl [(Mu, .inl (cB, 8000, .inl mu)), (mm, .inr (9, fl 78 g_50)), (MqKind, .inl (cI, 4100, .inl qKind9)), (MqSize, .inl (cI, 4100, .inl qSize9)), (MqAt, .inl (cI, 4100, .inl qAt9)), (MqAddress, .inl (cI, 4100, .inl qAddress9)), (MqMode, .inl (cI, 4100, .inl qMode9))] H := hP
                        have hD : va_D A0 [(Mu, .inl (cB, 8000, .inl mu)), (mm, .inr (9, fl 78 g_50)), (MqKind, .inl (cI, 4100, .inl qKind9)), (MqSize, .inl (cI, 4100, .inl qSize9)), (MqAt, .inl (cI, 4100, .inl qAt9)), (MqAddress, .inl (cI, 4100, .inl qAddress9)), (MqMode, .inl (cI, 4100, .inl qMode9))] := hD
                        obtain ⟨f_hin, waits_hin, hin_⟩ := hin
                        have k65_g_50 : g_50 65 = .int (nI sg) := (f_hin 65 (by decide)).trans ((hf_JN 65 (by decide)).trans g_uBegin)
                        have k66_g_50 : g_50 66 = .int (nI en) := (f_hin 66 (by decide)).trans ((hf_JN 66 (by decide)).trans g_uEnd)
                        have k64_g_50 : g_50 64 = .ref Mu := (f_hin 64 (by decide)).trans ((hf_JN 64 (by decide)).trans g_u)
                        have k68_g_50 : g_50 68 = .ref MqKind := (f_hin 68 (by decide)).trans ((hf_JN 68 (by decide)).trans g_qKind)
                        have k69_g_50 : g_50 69 = .ref MqSize := (f_hin 69 (by decide)).trans ((hf_JN 69 (by decide)).trans g_qSize)
                        have k70_g_50 : g_50 70 = .ref MqAt := (f_hin 70 (by decide)).trans ((hf_JN 70 (by decide)).trans g_qAt)
                        have k71_g_50 : g_50 71 = .ref MqAddress := (f_hin 71 (by decide)).trans ((hf_JN 71 (by decide)).trans g_qAddress)
                        have k72_g_50 : g_50 72 = .ref MqMode := (f_hin 72 (by decide)).trans ((hf_JN 72 (by decide)).trans g_qMode)
                        have k73_g_50 : g_50 73 = .int (nI bm.2) := (f_hin 73 (by decide)).trans (k_matchAddress_JN)
                        have fr_g_50 : frm [67, 73] g g_50 := frm_tr hf_JN f_hin (by decide)
                        have hcn : Ld ++ addI ad (p_ + 1) = Ld ++ [(1, 1, p_, 0)] := by rw [addI, if_pos (by omega), hap2, show p_ + 1 - p_ = 1 by omega]
                        have kx_52 : g_50 67 = .int (nI (Ld ++ addI ad (p_ + 1)).length) := by have h9 : g_50 67 = .int (nI (Ld ++ [(1, 1, p_, 0)] : List Ins).length) := waits_hin; rw [h9]; exact congrArg Value.int (by rw [hcn])
                        refine lv_iinc (v := nI (p_ + 1)) (lv' := [(2, .int (nI (p_ + 1))), (0, .ref mm), (1, .int (nI way)), (3, .int (nI r_)), (4, .int (nI bm.1)), (5, .int (nI bm.2))]) hx hb dX9_choose_154 hl (k := 2) rfl (nI_add p_ 1) (by decide) rfl (fun ls hl => ?_)
                        refine lv_goto (tgt := 175) hx hb dX9_choose_157 (by decide) ?_
                        refine lv_goto (tgt := 10) hx hb dX9_choose_175 (by decide) ?_
                        exact ih g_50 k1 ad (p_ + 1) Ld qKind9 qSize9 qAt9 qAddress9 qMode9 _ _ ls (by omega) (fr_g_50) (kx_52) (by omega) (hsa) (by omega) (by omega) (fun z => absurd z hw0) (fun _ => hRk) (hna) (hql) (hlL) (by rw [hcn]; exact hin_) (hP.sub [1, 0, 2, 3, 4, 5, 6] rfl) (hD.sub [1, 0, 2, 3, 4, 5, 6] (by decide) rfl) hS (lv_sub hl [1, 2, 0] rfl)
                    · have hm4 : 4 ≤ bm.1 := Nat.not_lt.mp (fun q => c_44 (nI_lt (b := 4) q (by decide)))
                      rw [if_pos hm4] at hbf
                      have hb0 := hbl.2.2 (by omega)
                      refine lv_iload_n hx hb dX9_choose_117 rfl (lv_at hl 1 rfl) ?_
                      refine lv_iconst (v := 2) hx hb dX9_choose_118 (by decide) ?_
                      refine lv_icmp_ne (tgt := 160) hx hb dX9_choose_119 (by decide) (fun c_53 => ?_) (fun c_53 => ?_)
                      · have hw2 : ¬ way = 2 := fun z => c_53 (by rw [z]; rfl)
                        rw [if_neg (fun z => z.elim (fun w9 => absurd (show (bF (eqF (fun j => nI (ub j))) (en - p_) p_ p_).1 < 4 from w9) (by rw [hbf]; omega)) (fun w9 => hw2 w9.1)), hbf] at hRk
                        refine lv_aload_n hx hb dX9_choose_160 rfl (lv_at hl 0 rfl) ?_
                        refine lv_iconst (v := 3) hx hb dX9_choose_161 (by decide) ?_
                        refine ri (y := nI 3) (rfl) ?_
                        refine lv_iload hx hb dX9_choose_162 (lv_at hl 4 rfl) ?_
                        refine lv_iload_n hx hb dX9_choose_164 rfl (lv_at hl 2 rfl) ?_
                        refine lv_iload hx hb dX9_choose_165 (lv_at hl 5 rfl) ?_
                        refine jn_v (wr := [(Mu, .inl (cB, 8000, .inl mu))]) hA hP hD hS [0, 1, 2, 3, 4, 5] [6] rfl rfl (by decide) (by decide) (rn_V (As := [.int (nI 3), .int (nI bm.1), .int (nI p_), .int (nI bm.2)]) (rest := []) ⟨hx, hb, hml, hown, hts⟩ (cvV 4 hts zc_yX9_instruct zi_X9 zm_yX9_instruct zv_yX9_instruct kX9_368 (by decide +kernel) rfl rfl ⟨Nat.le_of_ble_eq_true rfl, Nat.le_of_ble_eq_true rfl⟩) (m_instructN l D cI cB cJ cR mm gj_JN MqKind MqSize MqAt MqAddress MqMode qKind7 qSize7 qAt7 qAddress7 qMode7 (Ld ++ addI ad p_) 3 bm.1 p_ bm.2 (k_waits_JN) ((hf_JN 68 (by decide)).trans g_qKind) ((hf_JN 69 (by decide)).trans g_qSize) ((hf_JN 70 (by decide)).trans g_qAt) ((hf_JN 71 (by decide)).trans g_qAddress) ((hf_JN 72 (by decide)).trans g_qMode) (by omega) (hq) (by decide) (fun z9 => absurd z9 (by decide)) (hqk) H.size) hK hNw hMk hA hP hD hS [0, 1, 2, 3, 4, 5] rfl rfl (by decide) 0 rfl rfl rfl rfl hl.1 rfl (Nat.le_of_ble_eq_true rfl) dX9_choose_167 ⟨Nat.le_of_ble_eq_true rfl, Nat.le_of_ble_eq_true rfl⟩) (fun u9 H locs hin hP hD hS => ?_)
                        obtain ⟨g_54, qKind9, qSize9, qAt9, qAddress9, qMode9⟩ := u9
                        try dsimp only at hin
                        have hP : va_P D vwCl [(Mu, .inl (cB, 8000, .inl mu)), (mm, .inr (9, fl 78 g_54)), (MqKind, .inl (cI, 4100, .inl qKind9)), (MqSize, .inl (cI, 4100, .inl qSize9)), (MqAt, .inl (cI, 4100, .inl qAt9)), (MqAddress, .inl (cI, 4100, .inl qAddress9)), (MqMode, .inl (cI, 4100, .inl qMode9))] H := hP
                        have hD : va_D A0 [(Mu, .inl (cB, 8000, .inl mu)), (mm, .inr (9, fl 78 g_54)), (MqKind, .inl (cI, 4100, .inl qKind9)), (MqSize, .inl (cI, 4100, .inl qSize9)), (MqAt, .inl (cI, 4100, .inl qAt9)), (MqAddress, .inl (cI, 4100, .inl qAddress9)), (MqMode, .inl (cI, 4100, .inl qMode9))] := hD
                        obtain ⟨f_hin, waits_hin, hin_⟩ := hin
                        have k65_g_54 : g_54 65 = .int (nI sg) := (f_hin 65 (by decide)).trans ((hf_JN 65 (by decide)).trans g_uBegin)
                        have k66_g_54 : g_54 66 = .int (nI en) := (f_hin 66 (by decide)).trans ((hf_JN 66 (by decide)).trans g_uEnd)
                        have k64_g_54 : g_54 64 = .ref Mu := (f_hin 64 (by decide)).trans ((hf_JN 64 (by decide)).trans g_u)
                        have k68_g_54 : g_54 68 = .ref MqKind := (f_hin 68 (by decide)).trans ((hf_JN 68 (by decide)).trans g_qKind)
                        have k69_g_54 : g_54 69 = .ref MqSize := (f_hin 69 (by decide)).trans ((hf_JN 69 (by decide)).trans g_qSize)
                        have k70_g_54 : g_54 70 = .ref MqAt := (f_hin 70 (by decide)).trans ((hf_JN 70 (by decide)).trans g_qAt)
                        have k71_g_54 : g_54 71 = .ref MqAddress := (f_hin 71 (by decide)).trans ((hf_JN 71 (by decide)).trans g_qAddress)
                        have k72_g_54 : g_54 72 = .ref MqMode := (f_hin 72 (by decide)).trans ((hf_JN 72 (by decide)).trans g_qMode)
                        have k73_g_54 : g_54 73 = .int (nI bm.2) := (f_hin 73 (by decide)).trans (k_matchAddress_JN)
                        have fr_g_54 : frm [67, 73] g g_54 := frm_tr hf_JN f_hin (by decide)
                        have had : addI (p_ + bm.1) (p_ + bm.1) = [] := by rw [addI, if_neg (Nat.lt_irrefl _)]
                        have kx_56 : g_54 67 = .int (nI (((Ld ++ addI ad p_) ++ [(3, bm.1, p_, bm.2)]) ++ addI (p_ + bm.1) (p_ + bm.1)).length) := by have h9 : g_54 67 = .int (nI ((Ld ++ addI ad p_) ++ [(3, bm.1, p_, bm.2)] : List Ins).length) := waits_hin; rw [h9]; exact congrArg Value.int (by rw [had, List.append_nil])
                        refine lv_iload_n hx hb dX9_choose_170 rfl (lv_at hl 2 rfl) ?_
                        refine lv_iload hx hb dX9_choose_171 (lv_at hl 4 rfl) ?_
                        refine lv_iadd hx hb dX9_choose_173 ?_
                        refine ri (y := nI (p_ + bm.1)) (nI_add p_ bm.1) ?_
                        refine lv_istore_n (lv' := [(2, .int (nI (p_ + bm.1))), (0, .ref mm), (1, .int (nI way)), (3, .int (nI r_)), (4, .int (nI bm.1)), (5, .int (nI bm.2))]) hx hb dX9_choose_174 rfl hl (by decide) rfl (fun ls hl => ?_)
                        refine lv_goto (tgt := 10) hx hb dX9_choose_175 (by decide) ?_
                        exact ih g_54 k1 (p_ + bm.1) (p_ + bm.1) ((Ld ++ addI ad p_) ++ [(3, bm.1, p_, bm.2)]) qKind9 qSize9 qAt9 qAddress9 qMode9 _ _ ls (by omega) (fr_g_54) (kx_56) (Nat.le_refl _) (by omega) (by omega) (by omega) (fun z9 => absurd z9 hw0) (fun _ => by rw [hRk]; simp only [List.append_assoc, List.cons_append, List.nil_append]) (naL_put (by show ¬ 3 = 1; decide)) (kind_put hqk (by show 3 < 4; decide)) (by rw [List.length_append]; show _ + 1 ≤ _; omega) (by rw [had, List.append_nil]; exact hin_) (hP.sub [1, 0, 2, 3, 4, 5, 6] rfl) (hD.sub [1, 0, 2, 3, 4, 5, 6] (by decide) rfl) hS (lv_sub hl [1, 2, 0] rfl)
                      · have hw2 : way = 2 := (nI_eq (b := 2) (by omega) (by decide)).mp c_53
                        refine lv_iload_n hx hb dX9_choose_122 rfl (lv_at hl 2 rfl) ?_
                        refine lv_iconst (v := 1) hx hb dX9_choose_123 (by decide) ?_
                        refine lv_iadd hx hb dX9_choose_124 ?_
                        refine ri (y := nI (p_ + 1)) (nI_add p_ 1) ?_
                        refine lv_aload_n hx hb dX9_choose_125 rfl (lv_at hl 0 rfl) ?_
                        refine fx_get (D := D) (ci := 9) (v := .int (nI en)) (C := RX9) (T := TX9) (N := 78) hx hb hts in_X9 hown hK hP 0 rfl rfl 66 (by decide) (hts _ kX9_362) (fun _ h9 => h9) ((hf_JN 66 (by decide)).trans g_uEnd) dX9_choose_126 ?_
                        refine lv_icmp_ge (tgt := 160) hx hb dX9_choose_129 (by decide) (fun c_57 => ?_) (fun c_57 => ?_)
                        · have hpl : en ≤ p_ + 1 := (nI_leI (by omega) (by omega)).mp c_57
                          have hb7 := (bF_le (eqF (fun j => nI (ub j))) (en - (p_ + 1)) (p_ + 1) (p_ + 1)).1
                          rw [if_neg (fun z => z.elim (fun w9 => absurd (show (bF (eqF (fun j => nI (ub j))) (en - p_) p_ p_).1 < 4 from w9) (by rw [hbf]; omega)) (fun w9 => absurd (show (bF (eqF (fun j => nI (ub j))) (en - p_) p_ p_).1 + 2 ≤ (bF (eqF (fun j => nI (ub j))) (en - (p_ + 1)) (p_ + 1) (p_ + 1)).1 from w9.2) (by omega))), hbf] at hRk
                          refine lv_aload_n hx hb dX9_choose_160 rfl (lv_at hl 0 rfl) ?_
                          refine lv_iconst (v := 3) hx hb dX9_choose_161 (by decide) ?_
                          refine ri (y := nI 3) (rfl) ?_
                          refine lv_iload hx hb dX9_choose_162 (lv_at hl 4 rfl) ?_
                          refine lv_iload_n hx hb dX9_choose_164 rfl (lv_at hl 2 rfl) ?_
                          refine lv_iload hx hb dX9_choose_165 (lv_at hl 5 rfl) ?_
                          refine jn_v (wr := [(Mu, .inl (cB, 8000, .inl mu))]) hA hP hD hS [0, 1, 2, 3, 4, 5] [6] rfl rfl (by decide) (by decide) (rn_V (As := [.int (nI 3), .int (nI bm.1), .int (nI p_), .int (nI bm.2)]) (rest := []) ⟨hx, hb, hml, hown, hts⟩ (cvV 4 hts zc_yX9_instruct zi_X9 zm_yX9_instruct zv_yX9_instruct kX9_368 (by decide +kernel) rfl rfl ⟨Nat.le_of_ble_eq_true rfl, Nat.le_of_ble_eq_true rfl⟩) (m_instructN l D cI cB cJ cR mm gj_JN MqKind MqSize MqAt MqAddress MqMode qKind7 qSize7 qAt7 qAddress7 qMode7 (Ld ++ addI ad p_) 3 bm.1 p_ bm.2 (k_waits_JN) ((hf_JN 68 (by decide)).trans g_qKind) ((hf_JN 69 (by decide)).trans g_qSize) ((hf_JN 70 (by decide)).trans g_qAt) ((hf_JN 71 (by decide)).trans g_qAddress) ((hf_JN 72 (by decide)).trans g_qMode) (by omega) (hq) (by decide) (fun z9 => absurd z9 (by decide)) (hqk) H.size) hK hNw hMk hA hP hD hS [0, 1, 2, 3, 4, 5] rfl rfl (by decide) 0 rfl rfl rfl rfl hl.1 rfl (Nat.le_of_ble_eq_true rfl) dX9_choose_167 ⟨Nat.le_of_ble_eq_true rfl, Nat.le_of_ble_eq_true rfl⟩) (fun u9 H locs hin hP hD hS => ?_)
                          obtain ⟨g_58, qKind9, qSize9, qAt9, qAddress9, qMode9⟩ := u9
                          try dsimp only at hin
                          have hP : va_P D vwCl [(Mu, .inl (cB, 8000, .inl mu)), (mm, .inr (9, fl 78 g_58)), (MqKind, .inl (cI, 4100, .inl qKind9)), (MqSize, .inl (cI, 4100, .inl qSize9)), (MqAt, .inl (cI, 4100, .inl qAt9)), (MqAddress, .inl (cI, 4100, .inl qAddress9)), (MqMode, .inl (cI, 4100, .inl qMode9))] H := hP
                          have hD : va_D A0 [(Mu, .inl (cB, 8000, .inl mu)), (mm, .inr (9, fl 78 g_58)), (MqKind, .inl (cI, 4100, .inl qKind9)), (MqSize, .inl (cI, 4100, .inl qSize9)), (MqAt, .inl (cI, 4100, .inl qAt9)), (MqAddress, .inl (cI, 4100, .inl qAddress9)), (MqMode, .inl (cI, 4100, .inl qMode9))] := hD
                          obtain ⟨f_hin, waits_hin, hin_⟩ := hin
                          have k65_g_58 : g_58 65 = .int (nI sg) := (f_hin 65 (by decide)).trans ((hf_JN 65 (by decide)).trans g_uBegin)
                          have k66_g_58 : g_58 66 = .int (nI en) := (f_hin 66 (by decide)).trans ((hf_JN 66 (by decide)).trans g_uEnd)
                          have k64_g_58 : g_58 64 = .ref Mu := (f_hin 64 (by decide)).trans ((hf_JN 64 (by decide)).trans g_u)
                          have k68_g_58 : g_58 68 = .ref MqKind := (f_hin 68 (by decide)).trans ((hf_JN 68 (by decide)).trans g_qKind)
                          have k69_g_58 : g_58 69 = .ref MqSize := (f_hin 69 (by decide)).trans ((hf_JN 69 (by decide)).trans g_qSize)
                          have k70_g_58 : g_58 70 = .ref MqAt := (f_hin 70 (by decide)).trans ((hf_JN 70 (by decide)).trans g_qAt)
                          have k71_g_58 : g_58 71 = .ref MqAddress := (f_hin 71 (by decide)).trans ((hf_JN 71 (by decide)).trans g_qAddress)
                          have k72_g_58 : g_58 72 = .ref MqMode := (f_hin 72 (by decide)).trans ((hf_JN 72 (by decide)).trans g_qMode)
                          have k73_g_58 : g_58 73 = .int (nI bm.2) := (f_hin 73 (by decide)).trans (k_matchAddress_JN)
                          have fr_g_58 : frm [67, 73] g g_58 := frm_tr hf_JN f_hin (by decide)
                          have had : addI (p_ + bm.1) (p_ + bm.1) = [] := by rw [addI, if_neg (Nat.lt_irrefl _)]
                          have kx_60 : g_58 67 = .int (nI (((Ld ++ addI ad p_) ++ [(3, bm.1, p_, bm.2)]) ++ addI (p_ + bm.1) (p_ + bm.1)).length) := by have h9 : g_58 67 = .int (nI ((Ld ++ addI ad p_) ++ [(3, bm.1, p_, bm.2)] : List Ins).length) := waits_hin; rw [h9]; exact congrArg Value.int (by rw [had, List.append_nil])
                          refine lv_iload_n hx hb dX9_choose_170 rfl (lv_at hl 2 rfl) ?_
                          refine lv_iload hx hb dX9_choose_171 (lv_at hl 4 rfl) ?_
                          refine lv_iadd hx hb dX9_choose_173 ?_
                          refine ri (y := nI (p_ + bm.1)) (nI_add p_ bm.1) ?_
                          refine lv_istore_n (lv' := [(2, .int (nI (p_ + bm.1))), (0, .ref mm), (1, .int (nI way)), (3, .int (nI r_)), (4, .int (nI bm.1)), (5, .int (nI bm.2))]) hx hb dX9_choose_174 rfl hl (by decide) rfl (fun ls hl => ?_)
                          refine lv_goto (tgt := 10) hx hb dX9_choose_175 (by decide) ?_
                          exact ih g_58 k1 (p_ + bm.1) (p_ + bm.1) ((Ld ++ addI ad p_) ++ [(3, bm.1, p_, bm.2)]) qKind9 qSize9 qAt9 qAddress9 qMode9 _ _ ls (by omega) (fr_g_58) (kx_60) (Nat.le_refl _) (by omega) (by omega) (by omega) (fun z9 => absurd z9 hw0) (fun _ => by rw [hRk]; simp only [List.append_assoc, List.cons_append, List.nil_append]) (naL_put (by show ¬ 3 = 1; decide)) (kind_put hqk (by show 3 < 4; decide)) (by rw [List.length_append]; show _ + 1 ≤ _; omega) (by rw [had, List.append_nil]; exact hin_) (hP.sub [1, 0, 2, 3, 4, 5, 6] rfl) (hD.sub [1, 0, 2, 3, 4, 5, 6] (by decide) rfl) hS (lv_sub hl [1, 2, 0] rfl)
                        · have hpl : p_ + 1 < en := Nat.not_le.mp (fun q => c_57 (nI_le q (by omega)))
                          refine lv_aload_n hx hb dX9_choose_132 rfl (lv_at hl 0 rfl) ?_
                          refine lv_iload_n hx hb dX9_choose_133 rfl (lv_at hl 2 rfl) ?_
                          refine lv_iconst (v := 1) hx hb dX9_choose_134 (by decide) ?_
                          refine lv_iadd hx hb dX9_choose_135 ?_
                          refine ri (y := nI (p_ + 1)) (nI_add p_ 1) ?_
                          refine jn_i (wr := [(MqKind, .inl (cI, 4100, .inl qKind7)), (MqSize, .inl (cI, 4100, .inl qSize7)), (MqAt, .inl (cI, 4100, .inl qAt7)), (MqAddress, .inl (cI, 4100, .inl qAddress7)), (MqMode, .inl (cI, 4100, .inl qMode7))]) hA hP hD hS [0, 6] [1, 2, 3, 4, 5] rfl rfl (by decide) (by decide) (rn_V (As := [.int (nI (p_ + 1))]) (rest := []) ⟨hx, hb, hml, hown, hts⟩ (cvV 1 hts zc_yX9_match zi_X9 zm_yX9_match zv_yX9_match kX9_372 (by decide +kernel) rfl rfl ⟨Nat.le_of_ble_eq_true rfl, Nat.le_of_ble_eq_true rfl⟩) (m_match l D cI cB cJ cR mm gj_JN Mu mu en (p_ + 1) ub ((hf_JN 66 (by decide)).trans g_uEnd) ((hf_JN 64 (by decide)).trans g_u) (he8) (by omega) (hub) (hu) H.size) hK hNw hMk hA hP hD hS [0, 6] rfl rfl (by decide) 0 rfl rfl rfl rfl hl.1 rfl (Nat.le_of_ble_eq_true rfl) dX9_choose_136 ⟨Nat.le_of_ble_eq_true rfl, Nat.le_of_ble_eq_true rfl⟩) (fun rm1 u9 H locs hmt1 hP hD hS => ?_)
                          obtain ⟨g_61, rfl⟩ : ∃ z9, z9 = u9 := ⟨_, rfl⟩
                          try dsimp only at hmt1
                          have hP : va_P D vwCl [(MqKind, .inl (cI, 4100, .inl qKind7)), (MqSize, .inl (cI, 4100, .inl qSize7)), (MqAt, .inl (cI, 4100, .inl qAt7)), (MqAddress, .inl (cI, 4100, .inl qAddress7)), (MqMode, .inl (cI, 4100, .inl qMode7)), (mm, .inr (9, fl 78 g_61)), (Mu, .inl (cB, 8000, .inl mu))] H := hP
                          have hD : va_D A0 [(MqKind, .inl (cI, 4100, .inl qKind7)), (MqSize, .inl (cI, 4100, .inl qSize7)), (MqAt, .inl (cI, 4100, .inl qAt7)), (MqAddress, .inl (cI, 4100, .inl qAddress7)), (MqMode, .inl (cI, 4100, .inl qMode7)), (mm, .inr (9, fl 78 g_61)), (Mu, .inl (cB, 8000, .inl mu))] := hD
                          obtain ⟨f_hmt1, matchAddress_hmt1, hmt1_⟩ := hmt1
                          have k65_g_61 : g_61 65 = .int (nI sg) := (f_hmt1 65 (by decide)).trans ((hf_JN 65 (by decide)).trans g_uBegin)
                          have k66_g_61 : g_61 66 = .int (nI en) := (f_hmt1 66 (by decide)).trans ((hf_JN 66 (by decide)).trans g_uEnd)
                          have k64_g_61 : g_61 64 = .ref Mu := (f_hmt1 64 (by decide)).trans ((hf_JN 64 (by decide)).trans g_u)
                          have k68_g_61 : g_61 68 = .ref MqKind := (f_hmt1 68 (by decide)).trans ((hf_JN 68 (by decide)).trans g_qKind)
                          have k69_g_61 : g_61 69 = .ref MqSize := (f_hmt1 69 (by decide)).trans ((hf_JN 69 (by decide)).trans g_qSize)
                          have k70_g_61 : g_61 70 = .ref MqAt := (f_hmt1 70 (by decide)).trans ((hf_JN 70 (by decide)).trans g_qAt)
                          have k71_g_61 : g_61 71 = .ref MqAddress := (f_hmt1 71 (by decide)).trans ((hf_JN 71 (by decide)).trans g_qAddress)
                          have k72_g_61 : g_61 72 = .ref MqMode := (f_hmt1 72 (by decide)).trans ((hf_JN 72 (by decide)).trans g_qMode)
                          have k67_g_61 : g_61 67 = .int (nI (Ld ++ addI ad p_).length) := (f_hmt1 67 (by decide)).trans (k_waits_JN)
                          have fr_g_61 : frm [67, 73] g g_61 := frm_tr hf_JN f_hmt1 (by decide)
                          subst hmt1_
                          have hbl1 := (bmA_le (q := eqN ub) (n := en - (p_ + 1)) (p := p_ + 1) (p_ + 1)).1
                          have hbf1 : (bF (eqF (fun j => nI (ub j))) (en - (p_ + 1)) (p_ + 1) (p_ + 1)) = if 4 ≤ (bmA (eqN ub) (en - (p_ + 1)) (p_ + 1) (p_ + 1)).1 then (bmA (eqN ub) (en - (p_ + 1)) (p_ + 1) (p_ + 1)) else (0, 0) := by rw [eqF_eqN hub]; exact bF_bm _ _ _ _
                          refine lv_iload hx hb dX9_choose_139 (lv_at hl 4 rfl) ?_
                          refine lv_iconst (v := 2) hx hb dX9_choose_141 (by decide) ?_
                          refine lv_iadd hx hb dX9_choose_142 ?_
                          refine ri (y := nI (bm.1 + 2)) (nI_add bm.1 2) ?_
                          refine lv_icmp_lt (tgt := 160) hx hb dX9_choose_143 (by decide) (fun c_62 => ?_) (fun c_62 => ?_)
                          · have hlt : (bmA (eqN ub) (en - (p_ + 1)) (p_ + 1) (p_ + 1)).1 < bm.1 + 2 := (nI_ltI (by omega) (by omega)).mp c_62
                            rw [if_neg (fun z => z.elim (fun w9 => absurd (show (bF (eqF (fun j => nI (ub j))) (en - p_) p_ p_).1 < 4 from w9) (by rw [hbf]; omega)) (fun w9 => absurd (show (bF (eqF (fun j => nI (ub j))) (en - p_) p_ p_).1 + 2 ≤ (bF (eqF (fun j => nI (ub j))) (en - (p_ + 1)) (p_ + 1) (p_ + 1)).1 from w9.2) (by rw [hbf, hbf1]; split <;> omega))), hbf] at hRk
                            refine lv_aload_n hx hb dX9_choose_160 rfl (lv_at hl 0 rfl) ?_
                            refine lv_iconst (v := 3) hx hb dX9_choose_161 (by decide) ?_
                            refine ri (y := nI 3) (rfl) ?_
                            refine lv_iload hx hb dX9_choose_162 (lv_at hl 4 rfl) ?_
                            refine lv_iload_n hx hb dX9_choose_164 rfl (lv_at hl 2 rfl) ?_
                            refine lv_iload hx hb dX9_choose_165 (lv_at hl 5 rfl) ?_
                            refine jn_v (wr := [(Mu, .inl (cB, 8000, .inl mu))]) hA hP hD hS [5, 0, 1, 2, 3, 4] [6] rfl rfl (by decide) (by decide) (rn_V (As := [.int (nI 3), .int (nI bm.1), .int (nI p_), .int (nI bm.2)]) (rest := []) ⟨hx, hb, hml, hown, hts⟩ (cvV 4 hts zc_yX9_instruct zi_X9 zm_yX9_instruct zv_yX9_instruct kX9_368 (by decide +kernel) rfl rfl ⟨Nat.le_of_ble_eq_true rfl, Nat.le_of_ble_eq_true rfl⟩) (m_instructN l D cI cB cJ cR mm g_61 MqKind MqSize MqAt MqAddress MqMode qKind7 qSize7 qAt7 qAddress7 qMode7 (Ld ++ addI ad p_) 3 bm.1 p_ bm.2 (k67_g_61) (k68_g_61) (k69_g_61) (k70_g_61) (k71_g_61) (k72_g_61) (by omega) (hq) (by decide) (fun z9 => absurd z9 (by decide)) (hqk) H.size) hK hNw hMk hA hP hD hS [5, 0, 1, 2, 3, 4] rfl rfl (by decide) 0 rfl rfl rfl rfl hl.1 rfl (Nat.le_of_ble_eq_true rfl) dX9_choose_167 ⟨Nat.le_of_ble_eq_true rfl, Nat.le_of_ble_eq_true rfl⟩) (fun u9 H locs hin hP hD hS => ?_)
                            obtain ⟨g_63, qKind9, qSize9, qAt9, qAddress9, qMode9⟩ := u9
                            try dsimp only at hin
                            have hP : va_P D vwCl [(Mu, .inl (cB, 8000, .inl mu)), (mm, .inr (9, fl 78 g_63)), (MqKind, .inl (cI, 4100, .inl qKind9)), (MqSize, .inl (cI, 4100, .inl qSize9)), (MqAt, .inl (cI, 4100, .inl qAt9)), (MqAddress, .inl (cI, 4100, .inl qAddress9)), (MqMode, .inl (cI, 4100, .inl qMode9))] H := hP
                            have hD : va_D A0 [(Mu, .inl (cB, 8000, .inl mu)), (mm, .inr (9, fl 78 g_63)), (MqKind, .inl (cI, 4100, .inl qKind9)), (MqSize, .inl (cI, 4100, .inl qSize9)), (MqAt, .inl (cI, 4100, .inl qAt9)), (MqAddress, .inl (cI, 4100, .inl qAddress9)), (MqMode, .inl (cI, 4100, .inl qMode9))] := hD
                            obtain ⟨f_hin, waits_hin, hin_⟩ := hin
                            have k65_g_63 : g_63 65 = .int (nI sg) := (f_hin 65 (by decide)).trans (k65_g_61)
                            have k66_g_63 : g_63 66 = .int (nI en) := (f_hin 66 (by decide)).trans (k66_g_61)
                            have k64_g_63 : g_63 64 = .ref Mu := (f_hin 64 (by decide)).trans (k64_g_61)
                            have k68_g_63 : g_63 68 = .ref MqKind := (f_hin 68 (by decide)).trans (k68_g_61)
                            have k69_g_63 : g_63 69 = .ref MqSize := (f_hin 69 (by decide)).trans (k69_g_61)
                            have k70_g_63 : g_63 70 = .ref MqAt := (f_hin 70 (by decide)).trans (k70_g_61)
                            have k71_g_63 : g_63 71 = .ref MqAddress := (f_hin 71 (by decide)).trans (k71_g_61)
                            have k72_g_63 : g_63 72 = .ref MqMode := (f_hin 72 (by decide)).trans (k72_g_61)
                            have k73_g_63 : g_63 73 = .int (nI (bmA (eqN ub) (en - (p_ + 1)) (p_ + 1) (p_ + 1)).2) := (f_hin 73 (by decide)).trans (matchAddress_hmt1)
                            have fr_g_63 : frm [67, 73] g g_63 := frm_tr fr_g_61 f_hin (by decide)
                            have had : addI (p_ + bm.1) (p_ + bm.1) = [] := by rw [addI, if_neg (Nat.lt_irrefl _)]
                            have kx_65 : g_63 67 = .int (nI (((Ld ++ addI ad p_) ++ [(3, bm.1, p_, bm.2)]) ++ addI (p_ + bm.1) (p_ + bm.1)).length) := by have h9 : g_63 67 = .int (nI ((Ld ++ addI ad p_) ++ [(3, bm.1, p_, bm.2)] : List Ins).length) := waits_hin; rw [h9]; exact congrArg Value.int (by rw [had, List.append_nil])
                            refine lv_iload_n hx hb dX9_choose_170 rfl (lv_at hl 2 rfl) ?_
                            refine lv_iload hx hb dX9_choose_171 (lv_at hl 4 rfl) ?_
                            refine lv_iadd hx hb dX9_choose_173 ?_
                            refine ri (y := nI (p_ + bm.1)) (nI_add p_ bm.1) ?_
                            refine lv_istore_n (lv' := [(2, .int (nI (p_ + bm.1))), (0, .ref mm), (1, .int (nI way)), (3, .int (nI r_)), (4, .int (nI bm.1)), (5, .int (nI bm.2))]) hx hb dX9_choose_174 rfl hl (by decide) rfl (fun ls hl => ?_)
                            refine lv_goto (tgt := 10) hx hb dX9_choose_175 (by decide) ?_
                            exact ih g_63 k1 (p_ + bm.1) (p_ + bm.1) ((Ld ++ addI ad p_) ++ [(3, bm.1, p_, bm.2)]) qKind9 qSize9 qAt9 qAddress9 qMode9 _ _ ls (by omega) (fr_g_63) (kx_65) (Nat.le_refl _) (by omega) (by omega) (by omega) (fun z9 => absurd z9 hw0) (fun _ => by rw [hRk]; simp only [List.append_assoc, List.cons_append, List.nil_append]) (naL_put (by show ¬ 3 = 1; decide)) (kind_put hqk (by show 3 < 4; decide)) (by rw [List.length_append]; show _ + 1 ≤ _; omega) (by rw [had, List.append_nil]; exact hin_) (hP.sub [1, 0, 2, 3, 4, 5, 6] rfl) (hD.sub [1, 0, 2, 3, 4, 5, 6] (by decide) rfl) hS (lv_sub hl [1, 2, 0] rfl)
                          · have hlt : bm.1 + 2 ≤ (bmA (eqN ub) (en - (p_ + 1)) (p_ + 1) (p_ + 1)).1 := Nat.not_lt.mp (fun q => c_62 (nI_lt q (by omega)))
                            rw [if_pos (Or.inr ⟨hw2, show (bF (eqF (fun j => nI (ub j))) (en - p_) p_ p_).1 + 2 ≤ (bF (eqF (fun j => nI (ub j))) (en - (p_ + 1)) (p_ + 1) (p_ + 1)).1 by rw [hbf, hbf1, if_pos (by omega)]; exact hlt⟩)] at hRk
                            refine lv_aload_n hx hb dX9_choose_146 rfl (lv_at hl 0 rfl) ?_
                            refine lv_iconst (v := 1) hx hb dX9_choose_147 (by decide) ?_
                            refine ri (y := nI 1) (rfl) ?_
                            refine lv_iconst (v := 1) hx hb dX9_choose_148 (by decide) ?_
                            refine ri (y := nI 1) (rfl) ?_
                            refine lv_iload_n hx hb dX9_choose_149 rfl (lv_at hl 2 rfl) ?_
                            refine lv_iconst (v := 0) hx hb dX9_choose_150 (by decide) ?_
                            refine ri (y := nI 0) (nI_0.symm) ?_
                            by_cases hlt : ad < p_
                            · have hcu : (Ld ++ addI ad p_) = Ld ++ [(1, p_ - ad, ad, 0)] := by rw [addI, if_pos hlt]
                              rw [hcu] at hq
                              have kx_66 : g_61 67 = .int (nI (Ld ++ [(1, p_ - ad, ad, 0)] : List Ins).length) := by have h9 : g_61 67 = .int (nI (Ld ++ addI ad p_).length) := k67_g_61; rw [h9]; exact congrArg Value.int (by rw [hcu])
                              refine jn_v (wr := [(Mu, .inl (cB, 8000, .inl mu))]) hA hP hD hS [5, 0, 1, 2, 3, 4] [6] rfl rfl (by decide) (by decide) (rn_V (As := [.int (nI 1), .int (nI 1), .int (nI p_), .int (nI 0)]) (rest := []) ⟨hx, hb, hml, hown, hts⟩ (cvV 4 hts zc_yX9_instruct zi_X9 zm_yX9_instruct zv_yX9_instruct kX9_368 (by decide +kernel) rfl rfl ⟨Nat.le_of_ble_eq_true rfl, Nat.le_of_ble_eq_true rfl⟩) (m_instructM l D cI cB cJ cR mm g_61 MqKind MqSize MqAt MqAddress MqMode qKind7 qSize7 qAt7 qAddress7 qMode7 Ld (p_ - ad) ad 1 p_ (kx_66) (k68_g_61) (k69_g_61) (k70_g_61) (k71_g_61) (k72_g_61) (by omega) (hq) H.size) hK hNw hMk hA hP hD hS [5, 0, 1, 2, 3, 4] rfl rfl (by decide) 0 rfl rfl rfl rfl hl.1 rfl (Nat.le_of_ble_eq_true rfl) dX9_choose_151 ⟨Nat.le_of_ble_eq_true rfl, Nat.le_of_ble_eq_true rfl⟩) (fun u9 H locs hin hP hD hS => ?_)
                              obtain ⟨g_67, z9⟩ := u9
                              try dsimp only at hin
                              have hP : va_P D vwCl [(Mu, .inl (cB, 8000, .inl mu)), (mm, .inr (9, fl 78 g_67)), (MqKind, .inl (cI, 4100, .inl qKind7)), (MqSize, .inl (cI, 4100, .inl z9)), (MqAt, .inl (cI, 4100, .inl qAt7)), (MqAddress, .inl (cI, 4100, .inl qAddress7)), (MqMode, .inl (cI, 4100, .inl qMode7))] H := hP
                              have hD : va_D A0 [(Mu, .inl (cB, 8000, .inl mu)), (mm, .inr (9, fl 78 g_67)), (MqKind, .inl (cI, 4100, .inl qKind7)), (MqSize, .inl (cI, 4100, .inl z9)), (MqAt, .inl (cI, 4100, .inl qAt7)), (MqAddress, .inl (cI, 4100, .inl qAddress7)), (MqMode, .inl (cI, 4100, .inl qMode7))] := hD
                              obtain ⟨f_hin, waits_hin, hin_⟩ := hin
                              have k65_g_67 : g_67 65 = .int (nI sg) := (f_hin 65 (by decide)).trans (k65_g_61)
                              have k66_g_67 : g_67 66 = .int (nI en) := (f_hin 66 (by decide)).trans (k66_g_61)
                              have k64_g_67 : g_67 64 = .ref Mu := (f_hin 64 (by decide)).trans (k64_g_61)
                              have k68_g_67 : g_67 68 = .ref MqKind := (f_hin 68 (by decide)).trans (k68_g_61)
                              have k69_g_67 : g_67 69 = .ref MqSize := (f_hin 69 (by decide)).trans (k69_g_61)
                              have k70_g_67 : g_67 70 = .ref MqAt := (f_hin 70 (by decide)).trans (k70_g_61)
                              have k71_g_67 : g_67 71 = .ref MqAddress := (f_hin 71 (by decide)).trans (k71_g_61)
                              have k72_g_67 : g_67 72 = .ref MqMode := (f_hin 72 (by decide)).trans (k72_g_61)
                              have k73_g_67 : g_67 73 = .int (nI (bmA (eqN ub) (en - (p_ + 1)) (p_ + 1) (p_ + 1)).2) := (f_hin 73 (by decide)).trans (matchAddress_hmt1)
                              have fr_g_67 : frm [67, 73] g g_67 := frm_tr fr_g_61 f_hin (by decide)
                              have hcn : Ld ++ addI ad (p_ + 1) = Ld ++ [(1, p_ - ad + 1, ad, 0)] := by rw [addI, if_pos (by omega), show p_ + 1 - ad = p_ - ad + 1 by omega]
                              have kx_69 : g_67 67 = .int (nI (Ld ++ addI ad (p_ + 1)).length) := by have h9 : g_67 67 = .int (nI (Ld ++ [(1, (p_ - ad) + 1, ad, 0)] : List Ins).length) := waits_hin; rw [h9]; exact congrArg Value.int (by rw [hcn])
                              refine lv_iinc (v := nI (p_ + 1)) (lv' := [(2, .int (nI (p_ + 1))), (0, .ref mm), (1, .int (nI way)), (3, .int (nI r_)), (4, .int (nI bm.1)), (5, .int (nI bm.2))]) hx hb dX9_choose_154 hl (k := 2) rfl (nI_add p_ 1) (by decide) rfl (fun ls hl => ?_)
                              refine lv_goto (tgt := 175) hx hb dX9_choose_157 (by decide) ?_
                              refine lv_goto (tgt := 10) hx hb dX9_choose_175 (by decide) ?_
                              exact ih g_67 k1 ad (p_ + 1) Ld qKind7 z9 qAt7 qAddress7 qMode7 _ _ ls (by omega) (fr_g_67) (kx_69) (by omega) (hsa) (by omega) (by omega) (fun z => absurd z hw0) (fun _ => hRk) (hna) (hql) (hlL) (by rw [hcn]; exact hin_) (hP.sub [1, 0, 2, 3, 4, 5, 6] rfl) (hD.sub [1, 0, 2, 3, 4, 5, 6] (by decide) rfl) hS (lv_sub hl [1, 2, 0] rfl)
                            · have hap2 : ad = p_ := by omega
                              have hcu : (Ld ++ addI ad p_) = Ld := by rw [hap2, addI, if_neg (Nat.lt_irrefl _), List.append_nil]
                              rw [hcu] at hq
                              have kx_70 : g_61 67 = .int (nI Ld.length) := by have h9 : g_61 67 = .int (nI (Ld ++ addI ad p_).length) := k67_g_61; rw [h9]; exact congrArg Value.int (by rw [hcu])
                              refine jn_v (wr := [(Mu, .inl (cB, 8000, .inl mu))]) hA hP hD hS [5, 0, 1, 2, 3, 4] [6] rfl rfl (by decide) (by decide) (rn_V (As := [.int (nI 1), .int (nI 1), .int (nI p_), .int (nI 0)]) (rest := []) ⟨hx, hb, hml, hown, hts⟩ (cvV 4 hts zc_yX9_instruct zi_X9 zm_yX9_instruct zv_yX9_instruct kX9_368 (by decide +kernel) rfl rfl ⟨Nat.le_of_ble_eq_true rfl, Nat.le_of_ble_eq_true rfl⟩) (m_instructN l D cI cB cJ cR mm g_61 MqKind MqSize MqAt MqAddress MqMode qKind7 qSize7 qAt7 qAddress7 qMode7 Ld 1 1 p_ 0 (kx_70) (k68_g_61) (k69_g_61) (k70_g_61) (k71_g_61) (k72_g_61) (by omega) (hq) (by decide) (fun _ => hna) (hql) H.size) hK hNw hMk hA hP hD hS [5, 0, 1, 2, 3, 4] rfl rfl (by decide) 0 rfl rfl rfl rfl hl.1 rfl (Nat.le_of_ble_eq_true rfl) dX9_choose_151 ⟨Nat.le_of_ble_eq_true rfl, Nat.le_of_ble_eq_true rfl⟩) (fun u9 H locs hin hP hD hS => ?_)
                              obtain ⟨g_71, qKind9, qSize9, qAt9, qAddress9, qMode9⟩ := u9
                              try dsimp only at hin
                              have hP : va_P D vwCl [(Mu, .inl (cB, 8000, .inl mu)), (mm, .inr (9, fl 78 g_71)), (MqKind, .inl (cI, 4100, .inl qKind9)), (MqSize, .inl (cI, 4100, .inl qSize9)), (MqAt, .inl (cI, 4100, .inl qAt9)), (MqAddress, .inl (cI, 4100, .inl qAddress9)), (MqMode, .inl (cI, 4100, .inl qMode9))] H := hP
                              have hD : va_D A0 [(Mu, .inl (cB, 8000, .inl mu)), (mm, .inr (9, fl 78 g_71)), (MqKind, .inl (cI, 4100, .inl qKind9)), (MqSize, .inl (cI, 4100, .inl qSize9)), (MqAt, .inl (cI, 4100, .inl qAt9)), (MqAddress, .inl (cI, 4100, .inl qAddress9)), (MqMode, .inl (cI, 4100, .inl qMode9))] := hD
                              obtain ⟨f_hin, waits_hin, hin_⟩ := hin
                              have k65_g_71 : g_71 65 = .int (nI sg) := (f_hin 65 (by decide)).trans (k65_g_61)
                              have k66_g_71 : g_71 66 = .int (nI en) := (f_hin 66 (by decide)).trans (k66_g_61)
                              have k64_g_71 : g_71 64 = .ref Mu := (f_hin 64 (by decide)).trans (k64_g_61)
                              have k68_g_71 : g_71 68 = .ref MqKind := (f_hin 68 (by decide)).trans (k68_g_61)
                              have k69_g_71 : g_71 69 = .ref MqSize := (f_hin 69 (by decide)).trans (k69_g_61)
                              have k70_g_71 : g_71 70 = .ref MqAt := (f_hin 70 (by decide)).trans (k70_g_61)
                              have k71_g_71 : g_71 71 = .ref MqAddress := (f_hin 71 (by decide)).trans (k71_g_61)
                              have k72_g_71 : g_71 72 = .ref MqMode := (f_hin 72 (by decide)).trans (k72_g_61)
                              have k73_g_71 : g_71 73 = .int (nI (bmA (eqN ub) (en - (p_ + 1)) (p_ + 1) (p_ + 1)).2) := (f_hin 73 (by decide)).trans (matchAddress_hmt1)
                              have fr_g_71 : frm [67, 73] g g_71 := frm_tr fr_g_61 f_hin (by decide)
                              have hcn : Ld ++ addI ad (p_ + 1) = Ld ++ [(1, 1, p_, 0)] := by rw [addI, if_pos (by omega), hap2, show p_ + 1 - p_ = 1 by omega]
                              have kx_73 : g_71 67 = .int (nI (Ld ++ addI ad (p_ + 1)).length) := by have h9 : g_71 67 = .int (nI (Ld ++ [(1, 1, p_, 0)] : List Ins).length) := waits_hin; rw [h9]; exact congrArg Value.int (by rw [hcn])
                              refine lv_iinc (v := nI (p_ + 1)) (lv' := [(2, .int (nI (p_ + 1))), (0, .ref mm), (1, .int (nI way)), (3, .int (nI r_)), (4, .int (nI bm.1)), (5, .int (nI bm.2))]) hx hb dX9_choose_154 hl (k := 2) rfl (nI_add p_ 1) (by decide) rfl (fun ls hl => ?_)
                              refine lv_goto (tgt := 175) hx hb dX9_choose_157 (by decide) ?_
                              refine lv_goto (tgt := 10) hx hb dX9_choose_175 (by decide) ?_
                              exact ih g_71 k1 ad (p_ + 1) Ld qKind9 qSize9 qAt9 qAddress9 qMode9 _ _ ls (by omega) (fr_g_71) (kx_73) (by omega) (hsa) (by omega) (by omega) (fun z => absurd z hw0) (fun _ => hRk) (hna) (hql) (hlL) (by rw [hcn]; exact hin_) (hP.sub [1, 0, 2, 3, 4, 5, 6] rfl) (hD.sub [1, 0, 2, 3, 4, 5, 6] (by decide) rfl) hS (lv_sub hl [1, 2, 0] rfl)
                  refine lv_icmp_lt (tgt := 111) hx hb dX9_choose_87 (by decide) (fun c_74 => ?_) (fun c_74 => ?_)
                  · have hr6 : r_ < 6 := (nI_ltI (b := 6) (by omega) (by decide)).mp c_74
                    exact JN g_42 _ _ ls (fr_g_42) (k67_g_42) (km_43) (fun z => absurd z.1 (by omega)) (hP.sub [5, 0, 1, 2, 3, 4, 6] rfl) (hD.sub [5, 0, 1, 2, 3, 4, 6] (by decide) rfl) hS (lv_sub hl [2, 3, 4, 5, 1, 0] rfl)
                  · have hr6 : 6 ≤ r_ := Nat.not_lt.mp (fun q => c_74 (nI_lt (b := 6) q (by decide)))
                    refine lv_iload_n hx hb dX9_choose_90 rfl (lv_at hl 5 rfl) ?_
                    refine lv_iload hx hb dX9_choose_91 (lv_at hl 1 rfl) ?_
                    refine lv_icmp_lt (tgt := 111) hx hb dX9_choose_93 (by decide) (fun c_75 => ?_) (fun c_75 => ?_)
                    · have hrm : r_ < bm.1 := (nI_ltI (by omega) (by omega)).mp c_75
                      exact JN g_42 _ _ ls (fr_g_42) (k67_g_42) (km_43) (fun z => absurd z.2 (by omega)) (hP.sub [5, 0, 1, 2, 3, 4, 6] rfl) (hD.sub [5, 0, 1, 2, 3, 4, 6] (by decide) rfl) hS (lv_sub hl [2, 3, 4, 5, 1, 0] rfl)
                    · have hrm : bm.1 ≤ r_ := Nat.not_lt.mp (fun q => c_75 (nI_lt q (by omega)))
                      rw [if_pos (show 6 ≤ r_ ∧ (bF (eqF (fun j => nI (ub j))) (en - p_) p_ p_).1 ≤ r_ from ⟨hr6, by rw [hbf]; split; exact hrm; exact Nat.zero_le _⟩)] at hRk
                      refine lv_aload_n hx hb dX9_choose_96 rfl (lv_at hl 2 rfl) ?_
                      refine lv_iconst (v := 2) hx hb dX9_choose_97 (by decide) ?_
                      refine ri (y := nI 2) (rfl) ?_
                      refine lv_iload_n hx hb dX9_choose_98 rfl (lv_at hl 5 rfl) ?_
                      refine lv_iload_n hx hb dX9_choose_99 rfl (lv_at hl 4 rfl) ?_
                      refine lv_iconst (v := 0) hx hb dX9_choose_100 (by decide) ?_
                      refine ri (y := nI 0) (nI_0.symm) ?_
                      refine jn_v (wr := [(Mu, .inl (cB, 8000, .inl mu))]) hA hP hD hS [5, 0, 1, 2, 3, 4] [6] rfl rfl (by decide) (by decide) (rn_V (As := [.int (nI 2), .int (nI r_), .int (nI p_), .int (nI 0)]) (rest := []) ⟨hx, hb, hml, hown, hts⟩ (cvV 4 hts zc_yX9_instruct zi_X9 zm_yX9_instruct zv_yX9_instruct kX9_368 (by decide +kernel) rfl rfl ⟨Nat.le_of_ble_eq_true rfl, Nat.le_of_ble_eq_true rfl⟩) (m_instructN l D cI cB cJ cR mm g_42 MqKind MqSize MqAt MqAddress MqMode qKind7 qSize7 qAt7 qAddress7 qMode7 (Ld ++ addI ad p_) 2 r_ p_ 0 (k67_g_42) (k68_g_42) (k69_g_42) (k70_g_42) (k71_g_42) (k72_g_42) (by omega) (hq) (by decide) (fun z9 => absurd z9 (by decide)) (hqk) H.size) hK hNw hMk hA hP hD hS [5, 0, 1, 2, 3, 4] rfl rfl (by decide) 0 rfl rfl rfl rfl hl.1 rfl (Nat.le_of_ble_eq_true rfl) dX9_choose_101 ⟨Nat.le_of_ble_eq_true rfl, Nat.le_of_ble_eq_true rfl⟩) (fun u9 H locs hin hP hD hS => ?_)
                      obtain ⟨g_76, qKind9, qSize9, qAt9, qAddress9, qMode9⟩ := u9
                      try dsimp only at hin
                      have hP : va_P D vwCl [(Mu, .inl (cB, 8000, .inl mu)), (mm, .inr (9, fl 78 g_76)), (MqKind, .inl (cI, 4100, .inl qKind9)), (MqSize, .inl (cI, 4100, .inl qSize9)), (MqAt, .inl (cI, 4100, .inl qAt9)), (MqAddress, .inl (cI, 4100, .inl qAddress9)), (MqMode, .inl (cI, 4100, .inl qMode9))] H := hP
                      have hD : va_D A0 [(Mu, .inl (cB, 8000, .inl mu)), (mm, .inr (9, fl 78 g_76)), (MqKind, .inl (cI, 4100, .inl qKind9)), (MqSize, .inl (cI, 4100, .inl qSize9)), (MqAt, .inl (cI, 4100, .inl qAt9)), (MqAddress, .inl (cI, 4100, .inl qAddress9)), (MqMode, .inl (cI, 4100, .inl qMode9))] := hD
                      obtain ⟨f_hin, waits_hin, hin_⟩ := hin
                      have k65_g_76 : g_76 65 = .int (nI sg) := (f_hin 65 (by decide)).trans (k65_g_42)
                      have k66_g_76 : g_76 66 = .int (nI en) := (f_hin 66 (by decide)).trans (k66_g_42)
                      have k64_g_76 : g_76 64 = .ref Mu := (f_hin 64 (by decide)).trans (k64_g_42)
                      have k68_g_76 : g_76 68 = .ref MqKind := (f_hin 68 (by decide)).trans (k68_g_42)
                      have k69_g_76 : g_76 69 = .ref MqSize := (f_hin 69 (by decide)).trans (k69_g_42)
                      have k70_g_76 : g_76 70 = .ref MqAt := (f_hin 70 (by decide)).trans (k70_g_42)
                      have k71_g_76 : g_76 71 = .ref MqAddress := (f_hin 71 (by decide)).trans (k71_g_42)
                      have k72_g_76 : g_76 72 = .ref MqMode := (f_hin 72 (by decide)).trans (k72_g_42)
                      have k73_g_76 : g_76 73 = .int (nI bm.2) := (f_hin 73 (by decide)).trans (km_43)
                      have fr_g_76 : frm [67, 73] g g_76 := frm_tr fr_g_42 f_hin (by decide)
                      have had : addI (p_ + r_) (p_ + r_) = [] := by rw [addI, if_neg (Nat.lt_irrefl _)]
                      have kx_78 : g_76 67 = .int (nI (((Ld ++ addI ad p_) ++ [(2, r_, p_, 0)]) ++ addI (p_ + r_) (p_ + r_)).length) := by have h9 : g_76 67 = .int (nI ((Ld ++ addI ad p_) ++ [(2, r_, p_, 0)] : List Ins).length) := waits_hin; rw [h9]; exact congrArg Value.int (by rw [had, List.append_nil])
                      refine lv_iload_n hx hb dX9_choose_104 rfl (lv_at hl 4 rfl) ?_
                      refine lv_iload_n hx hb dX9_choose_105 rfl (lv_at hl 5 rfl) ?_
                      refine lv_iadd hx hb dX9_choose_106 ?_
                      refine ri (y := nI (p_ + r_)) (nI_add p_ r_) ?_
                      refine lv_istore_n (lv' := [(2, .int (nI (p_ + r_))), (5, .int (nI bm.2)), (4, .int (nI bm.1)), (0, .ref mm), (1, .int (nI way)), (3, .int (nI r_))]) hx hb dX9_choose_107 rfl hl (by decide) rfl (fun ls hl => ?_)
                      refine lv_goto (tgt := 175) hx hb dX9_choose_108 (by decide) ?_
                      refine lv_goto (tgt := 10) hx hb dX9_choose_175 (by decide) ?_
                      exact ih g_76 k1 (p_ + r_) (p_ + r_) ((Ld ++ addI ad p_) ++ [(2, r_, p_, 0)]) qKind9 qSize9 qAt9 qAddress9 qMode9 _ _ ls (by omega) (fr_g_76) (kx_78) (Nat.le_refl _) (by omega) (by omega) (by omega) (fun z9 => absurd z9 hw0) (fun _ => by rw [hRk]; simp only [List.append_assoc, List.cons_append, List.nil_append]) (naL_put (by show ¬ 2 = 1; decide)) (kind_put hqk (by show 2 < 4; decide)) (by rw [List.length_append]; show _ + 1 ≤ _; omega) (by rw [had, List.append_nil]; exact hin_) (hP.sub [1, 0, 2, 3, 4, 5, 6] rfl) (hD.sub [1, 0, 2, 3, 4, 5, 6] (by decide) rfl) hS (lv_sub hl [3, 4, 0] rfl)
                · have heq : nI (ub (p_ + r_)) = nI (ub p_) := by rw [(s8_inj (hub _) (hub _)).mp c_41]
                  refine lv_iinc (v := nI (r_ + 1)) (lv' := [(3, .int (nI (r_ + 1))), (0, .ref mm), (1, .int (nI way)), (2, .int (nI p_))]) hx hb dX9_choose_65 hl (k := 3) rfl (nI_add r_ 1) (by decide) rfl (fun ls hl => ?_)
                  refine lv_goto (tgt := 38) hx hb dX9_choose_68 (by decide) ?_
                  exact ih2 g5_lr (r_ + 1) _ _ ls (by omega) (hf_lr) (k_waits_lr) (by omega) (by omega) (by rw [← hrr, show en - p_ - r_ = en - p_ - (r_ + 1) + 1 by omega, runF, if_pos heq, ← Nat.add_assoc]; omega) hP hD hS (lv_sub hl [1, 2, 3, 0] rfl)
          exact lr _ g5_loop 1 _ _ ls (Nat.lt_succ_self _) (hf_loop) (k_waits_loop) (Nat.le_refl _) (by omega) (by have h9 : runF (fun j => nI (ub j)) p_ (en - p_ - 1 + 1) p_ = runF (fun j => nI (ub j)) p_ (en - p_ - 1) (p_ + 1) + 1 := (by rw [runF, if_pos rfl]); rw [show en - p_ - 1 + 1 = en - p_ by omega] at h9; omega) hP hD hS (lv_sub hl [1, 2, 3, 0] rfl)
        · have hw0 : way = 0 := Decidable.byContradiction (fun z => nI_ne0 (Nat.pos_of_ne_zero z) (by omega) c_2)
          obtain ⟨z1, z2, z3⟩ := h0w hw0
          have hcu : (Ld ++ addI ad p_) = [] := by rw [z3, z2, z1, addI, if_neg (Nat.lt_irrefl _)]; rfl
          have hq0 : qR qKind7 qSize7 qAt7 qAddress7 qMode7 [] := by rw [← hcu]; exact hq
          have kx_79 : g5_loop 67 = .int (nI ([] : List Ins).length) := by have h9 : g5_loop 67 = .int (nI (Ld ++ addI ad p_).length) := k_waits_loop; rw [h9]; exact congrArg Value.int (by rw [hcu])
          refine lv_aload_n hx hb dX9_choose_22 rfl (lv_at hl 0 rfl) ?_
          refine lv_iconst (v := 1) hx hb dX9_choose_23 (by decide) ?_
          refine ri (y := nI 1) (rfl) ?_
          refine lv_aload_n hx hb dX9_choose_24 rfl (lv_at hl 0 rfl) ?_
          refine fx_get (D := D) (ci := 9) (v := .int (nI en)) (C := RX9) (T := TX9) (N := 78) hx hb hts in_X9 hown hK hP 0 rfl rfl 66 (by decide) (hts _ kX9_362) (fun _ h9 => h9) ((hf_loop 66 (by decide)).trans g_uEnd) dX9_choose_25 ?_
          refine lv_iload_n hx hb dX9_choose_28 rfl (lv_at hl 2 rfl) ?_
          refine lv_isub hx hb dX9_choose_29 ?_
          refine ri (y := nI (en - p_)) (pk_sub (by omega)) ?_
          refine lv_iload_n hx hb dX9_choose_30 rfl (lv_at hl 2 rfl) ?_
          refine lv_iconst (v := 0) hx hb dX9_choose_31 (by decide) ?_
          refine ri (y := nI 0) (nI_0.symm) ?_
          refine jn_v (wr := [(Mu, .inl (cB, 8000, .inl mu))]) hA hP hD hS [0, 2, 3, 4, 5, 6] [1] rfl rfl (by decide) (by decide) (rn_V (As := [.int (nI 1), .int (nI (en - p_)), .int (nI p_), .int (nI 0)]) (rest := []) ⟨hx, hb, hml, hown, hts⟩ (cvV 4 hts zc_yX9_instruct zi_X9 zm_yX9_instruct zv_yX9_instruct kX9_368 (by decide +kernel) rfl rfl ⟨Nat.le_of_ble_eq_true rfl, Nat.le_of_ble_eq_true rfl⟩) (m_instructN l D cI cB cJ cR mm g5_loop MqKind MqSize MqAt MqAddress MqMode qKind7 qSize7 qAt7 qAddress7 qMode7 ([]) 1 (en - p_) p_ 0 (kx_79) ((hf_loop 68 (by decide)).trans g_qKind) ((hf_loop 69 (by decide)).trans g_qSize) ((hf_loop 70 (by decide)).trans g_qAt) ((hf_loop 71 (by decide)).trans g_qAddress) ((hf_loop 72 (by decide)).trans g_qMode) (by simp) (hq0) (by decide) (fun _ => naL_nil) (fun i hi => absurd hi (Nat.not_lt_zero i)) H.size) hK hNw hMk hA hP hD hS [0, 2, 3, 4, 5, 6] rfl rfl (by decide) 0 rfl rfl rfl rfl hl.1 rfl (Nat.le_of_ble_eq_true rfl) dX9_choose_32 ⟨Nat.le_of_ble_eq_true rfl, Nat.le_of_ble_eq_true rfl⟩) (fun u9 H locs hin hP hD hS => ?_)
          obtain ⟨g_80, qKind9, qSize9, qAt9, qAddress9, qMode9⟩ := u9
          try dsimp only at hin
          have hP : va_P D vwCl [(Mu, .inl (cB, 8000, .inl mu)), (mm, .inr (9, fl 78 g_80)), (MqKind, .inl (cI, 4100, .inl qKind9)), (MqSize, .inl (cI, 4100, .inl qSize9)), (MqAt, .inl (cI, 4100, .inl qAt9)), (MqAddress, .inl (cI, 4100, .inl qAddress9)), (MqMode, .inl (cI, 4100, .inl qMode9))] H := hP
          have hD : va_D A0 [(Mu, .inl (cB, 8000, .inl mu)), (mm, .inr (9, fl 78 g_80)), (MqKind, .inl (cI, 4100, .inl qKind9)), (MqSize, .inl (cI, 4100, .inl qSize9)), (MqAt, .inl (cI, 4100, .inl qAt9)), (MqAddress, .inl (cI, 4100, .inl qAddress9)), (MqMode, .inl (cI, 4100, .inl qMode9))] := hD
          obtain ⟨f_hin, waits_hin, hin_⟩ := hin
          have k65_g_80 : g_80 65 = .int (nI sg) := (f_hin 65 (by decide)).trans ((hf_loop 65 (by decide)).trans g_uBegin)
          have k66_g_80 : g_80 66 = .int (nI en) := (f_hin 66 (by decide)).trans ((hf_loop 66 (by decide)).trans g_uEnd)
          have k64_g_80 : g_80 64 = .ref Mu := (f_hin 64 (by decide)).trans ((hf_loop 64 (by decide)).trans g_u)
          have k68_g_80 : g_80 68 = .ref MqKind := (f_hin 68 (by decide)).trans ((hf_loop 68 (by decide)).trans g_qKind)
          have k69_g_80 : g_80 69 = .ref MqSize := (f_hin 69 (by decide)).trans ((hf_loop 69 (by decide)).trans g_qSize)
          have k70_g_80 : g_80 70 = .ref MqAt := (f_hin 70 (by decide)).trans ((hf_loop 70 (by decide)).trans g_qAt)
          have k71_g_80 : g_80 71 = .ref MqAddress := (f_hin 71 (by decide)).trans ((hf_loop 71 (by decide)).trans g_qAddress)
          have k72_g_80 : g_80 72 = .ref MqMode := (f_hin 72 (by decide)).trans ((hf_loop 72 (by decide)).trans g_qMode)
          have fr_g_80 : frm [67, 73] g g_80 := frm_tr hf_loop f_hin (by decide)
          have hP := hP.sub (ws' := [(mm, .inr (9, fl 78 g_80)), (Mu, .inl (cB, 8000, .inl mu)), (MqKind, .inl (cI, 4100, .inl qKind9)), (MqSize, .inl (cI, 4100, .inl qSize9)), (MqAt, .inl (cI, 4100, .inl qAt9)), (MqAddress, .inl (cI, 4100, .inl qAddress9)), (MqMode, .inl (cI, 4100, .inl qMode9))]) [1, 0, 2, 3, 4, 5, 6] rfl
          have hD := hD.sub (ws' := [(mm, .inr (9, fl 78 g_80)), (Mu, .inl (cB, 8000, .inl mu)), (MqKind, .inl (cI, 4100, .inl qKind9)), (MqSize, .inl (cI, 4100, .inl qSize9)), (MqAt, .inl (cI, 4100, .inl qAt9)), (MqAddress, .inl (cI, 4100, .inl qAddress9)), (MqMode, .inl (cI, 4100, .inl qMode9))]) [1, 0, 2, 3, 4, 5, 6] (by decide) rfl
          exact hret 35 ls _ _ (g_80, [(1, en - p_, p_, 0)], qKind9, qSize9, qAt9, qAddress9, qMode9) dX9_choose_35 hP hD hS (⟨fr_g_80, waits_hin, ⟨by rw [insW, if_pos hw0, z1, addI, if_pos (by omega)], hin_⟩⟩)
  have hai : addI sg sg = [] := by rw [addI, if_neg (Nat.lt_irrefl _)]
  have kx_82 : (va_up g 67 (.int (nI 0))) 67 = .int (nI (([] : List Ins) ++ addI sg sg).length) := by have h9 : (va_up g 67 (.int (nI 0))) 67 = .int (nI 0) := rfl; rw [h9]; exact congrArg Value.int (by rw [hai]; rfl)
  exact loop _ (va_up g 67 (.int (nI 0))) (en - sg) sg sg ([]) mqKind mqSize mqAt mqAddress mqMode _ _ ls (Nat.lt_succ_self _) ((frm_up frm_refl (by decide))) (kx_82) (Nat.le_refl _) (Nat.le_refl _) (hse) (by omega) (fun _ => ⟨rfl, rfl, rfl⟩) (fun z => by rw [hR9, insW, if_neg z]; rfl) (naL_nil) (fun i hi => absurd hi (Nat.not_lt_zero i)) (Nat.zero_le _) (by rw [hai]; exact fun i hi => absurd hi (Nat.not_lt_zero i)) hP hD hS (lv_sub hl [1, 2, 0] rfl)
