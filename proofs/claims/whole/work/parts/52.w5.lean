def chV (a here : Nat) (cN : Nat → Nat) (b : Nat) : Nat := if b = 0 then a else if b = 1 then here - a else a - cN (b - 2)
theorem s8_mod : ∀ i, i < 1024 → (nI i).toInt8.toInt32 = (nI (i % 256)).toInt8.toInt32 := by decide +kernel
theorem wL_put2 {N : Nat} {f : Nat → Int32} {L : List Int32} {v w : Int32} (h : wL N f L) (hv : w = v.toInt8.toInt32) : wL N (upd f L.length w) (L ++ [v]) := by
  rw [hv]; exact wL_put h
theorem adL_num {near a here md : Nat} {cN : Nat → Nat} (h : md ≤ near + 1) : adL near a here md cN = numL (chV a here cN md) := by
  unfold adL chV
  by_cases h0 : md = 0
  · rw [if_pos h0, if_pos h0]
  rw [if_neg h0, if_neg h0]
  by_cases h1 : md = 1
  · rw [if_pos h1, if_pos h1]
  rw [if_neg h1, if_neg h1, if_neg (by omega)]
set_option maxHeartbeats 4000000 in
set_option maxRecDepth 100000 in
theorem m_addressNumber (l : Launch) (D : va_G) (cI cB cJ cR : ClassId) (mm : Nat) (g : Nat → Value) (MsAddresses : Nat) (msAddresses : Nat → Int32) (OL : List Int32) (a : Nat) (g_sAddress : g 63 = .int (nI OL.length)) (g_sAddresses : g 62 = .ref MsAddresses) (hln : OL.length < 29000) (hw : wL 30000 msAddresses OL) (ha : a < 2 ^ 31) : CMv l yX9_addressNumber cX9_addressNumber 4 none ({ frames := 1, cells := 0, slots := 0, locals := 22 }) D (tyA cI cB cJ cR) 0 0 [.ref mm, .long (lN a)] [(mm, .inr (9, fl 78 g)), (MsAddresses, .inl (cB, 30000, .inl msAddresses))] (fun (u9 : (Nat → Value) × (Nat → Int32)) => match u9 with | (g9, w2) => frm [63] g g9 ∧ g9 63 = .int (nI (OL ++ numL a).length) ∧ wL 30000 w2 (OL ++ numL a)) (fun (u9 : (Nat → Value) × (Nat → Int32)) => match u9 with | (g9, w2) => [(mm, .inr (9, fl 78 g9)), (MsAddresses, .inl (cB, 30000, .inl w2))]) := by
  refine st_v (cc := cX9_addressNumber) (maxL := 4) (by decide) (Nat.le_of_ble_eq_true rfl) ?_
  intro p0 e0 s0 m0 below meth c0 A0 Q0 hBD hret hP hD hS ls hl
  obtain ⟨hx, hb, hml, hown, hts, hnm, hK, hNw, hMk, hA⟩ := hBD
  have hl : lv_has ls 4 [(0, .ref mm), (1, .long (lN a))] := hl
  have hP : va_P D vwCl [(mm, .inr (9, fl 78 g)), (MsAddresses, .inl (cB, 30000, .inl msAddresses))] s0.heap := hP
  have hD : va_D A0 [(mm, .inr (9, fl 78 g)), (MsAddresses, .inl (cB, 30000, .inl msAddresses))] := hD
  have h5 := nsz_le a
  have h1 := nsz_pos a
  refine lv_lload_n hx hb dX9_addressNumber_0 rfl (lv_at hl 1 rfl) ?_
  refine jn_i (wr := [(mm, .inr (9, fl 78 g)), (MsAddresses, .inl (cB, 30000, .inl msAddresses))]) hA hP hD hS [] [0, 1] rfl rfl (by decide) (by decide) (rn_S (As := [.long (lN a)]) (rest := []) ⟨hx, hb, hml, hown, hts⟩ (cvS 1 hts zc_yX9_numberSize zi_X9 zs_yX9_numberSize kX9_349 (by decide +kernel) rfl rfl ⟨Nat.le_of_ble_eq_true rfl, Nat.le_of_ble_eq_true rfl⟩) (m_numberSize l D cI cB cJ cR a (ha) s0.heap.size) hK hNw hMk hA hP hD hS [] rfl rfl (by decide) rfl hl.1 rfl (Nat.le_of_ble_eq_true rfl) dX9_addressNumber_1 ⟨Nat.le_of_ble_eq_true rfl, Nat.le_of_ble_eq_true rfl⟩) (fun r_1 u9 H locs w_2 hP hD hS => ?_)
  try dsimp only at w_2
  have hP : va_P D vwCl [(mm, .inr (9, fl 78 g)), (MsAddresses, .inl (cB, 30000, .inl msAddresses))] H := hP
  have hD : va_D A0 [(mm, .inr (9, fl 78 g)), (MsAddresses, .inl (cB, 30000, .inl msAddresses))] := hD
  subst w_2
  refine lv_iconst (v := 1) hx hb dX9_addressNumber_4 (by decide) ?_
  refine lv_isub hx hb dX9_addressNumber_5 ?_
  refine lv_istore_n (lv' := [(3, .int ((nI (nsz a)) - 1)), (0, .ref mm), (1, .long (lN a))]) hx hb dX9_addressNumber_6 rfl hl (by decide) rfl (fun ls hl => ?_)
  have loop : ∀ (k9 : Nat) (g5_loop : Nat → Value) (k : Nat) (Lc : List Int32) (w7 : Nat → Int32) (H : Heap) (locs : List Loc) (ls : Array Slot), k < k9 → (frm [63] g g5_loop) → (g5_loop 63 = .int (nI Lc.length)) → (k ≤ nsz a) → (Lc ++ numT a k = OL ++ numL a) → (wL 30000 w7 Lc) → va_P D vwCl [(mm, .inr (9, fl 78 g5_loop)), (MsAddresses, .inl (cB, 30000, .inl w7))] H → va_D A0 [(mm, .inr (9, fl 78 g5_loop)), (MsAddresses, .inl (cB, 30000, .inl w7))] → va_S A0 s0.heap H locs → lv_has ls 4 [(0, .ref mm), (1, .long (lN a)), (3, .int (nI k - 1))] → W p0 l e0 ({ frames := 1, cells := 0, slots := 0, locals := 22 }) s0 m0 ([.ref mm, .long (lN a)] : List Value).toArray below meth c0 H locs 0 0 Q0 (F0 m0 7 ls []) := by
    intro k9
    induction k9 with
    | zero => intro g5_loop k Lc w7 H locs ls hk9; exact absurd hk9 (Nat.not_lt_zero _)
    | succ k9 ih =>
      intro g5_loop k Lc w7 H locs ls hk9 hf_loop k_sAddress_loop hk5 hLc hw7 hP hD hS hl
      refine lv_iload_n hx hb dX9_addressNumber_7 rfl (lv_at hl 2 rfl) ?_
      refine lv_if_lt (tgt := 59) hx hb dX9_addressNumber_8 (by decide) (fun c_3 => ?_) (fun c_3 => ?_)
      · have hk0 : k = 0 := Decidable.byContradiction (fun z => by rw [show (1 : Int32) = nI 1 from rfl, pk_sub (by omega)] at c_3; exact nI_pos (by omega) c_3)
        rw [hk0, numT, List.append_nil] at hLc
        subst hLc
        exact hret 59 ls _ _ (g5_loop, w7) dX9_addressNumber_59 hP hD hS (⟨hf_loop, k_sAddress_loop, hw7⟩)
      · obtain ⟨j, hkj⟩ : ∃ j, k = j + 1 := ⟨k - 1, by have : ¬ k = 0 := fun z => c_3 (by rw [z]; decide); omega⟩
        subst hkj
        rw [show nI (j + 1) - 1 = nI j from pk_sub (a := j + 1) (b := 1) (by omega)] at hl
        have hq := Nat.div_le_self a (128 ^ j)
        have hlc : Lc.length < 29010 := by have := congrArg List.length hLc; rw [List.length_append, List.length_append, numL_len] at this; omega
        refine lv_aload_n hx hb dX9_addressNumber_11 rfl (lv_at hl 0 rfl) ?_
        refine fx_get (D := D) (ci := 9) (v := .ref MsAddresses) (C := RX9) (T := TX9) (N := 78) hx hb hts in_X9 hown hK hP 0 rfl rfl 62 (by decide) (hts _ kX9_97) (fun _ h9 => h9) ((hf_loop 62 (by decide)).trans g_sAddresses) dX9_addressNumber_12 ?_
        refine lv_aload_n hx hb dX9_addressNumber_15 rfl (lv_at hl 0 rfl) ?_
        refine fx_get (D := D) (ci := 9) (v := .int (nI Lc.length)) (C := RX9) (T := TX9) (N := 78) hx hb hts in_X9 hown hK hP 0 rfl rfl 63 (by decide) (hts _ kX9_375) (fun _ h9 => h9) (k_sAddress_loop) dX9_addressNumber_16 ?_
        refine lv_lload_n hx hb dX9_addressNumber_19 rfl (lv_at hl 1 rfl) ?_
        refine lv_bipush (v := 7) hx hb dX9_addressNumber_20 (by decide) ?_
        refine lv_iload_n hx hb dX9_addressNumber_22 rfl (lv_at hl 2 rfl) ?_
        refine lv_imul hx hb dX9_addressNumber_23 ?_
        refine lv_lshr hx hb dX9_addressNumber_24 (v := (lN a) >>> ((7 * (nI j)).toInt64 &&& 63)) rfl ?_
        refine rl (y := lN (a / 128 ^ j)) (lsr7 (by omega) (by omega)) ?_
        refine lv_l2i hx hb dX9_addressNumber_25 (v := (lN (a / 128 ^ j)).toInt32) rfl ?_
        refine ri (y := nI (a / 128 ^ j)) (lN_i _) ?_
        refine lv_bipush (v := 127) hx hb dX9_addressNumber_26 (by decide) ?_
        refine lv_iand hx hb dX9_addressNumber_28 ?_
        refine ri (y := nI (a / 128 ^ j % 128)) (pk_andN (by omega) 7 (by decide)) ?_
        refine lv_iload_n hx hb dX9_addressNumber_29 rfl (lv_at hl 2 rfl) ?_
        refine lv_if_le (tgt := 39) hx hb dX9_addressNumber_30 (by decide) (fun c_4 => ?_) (fun c_4 => ?_)
        · have hj0 : j = 0 := Decidable.byContradiction (fun z => nI_nle (Nat.pos_of_ne_zero z) (by omega) c_4)
          refine lv_iconst (v := 0) hx hb dX9_addressNumber_39 (by decide) ?_
          refine lv_ior hx hb dX9_addressNumber_40 ?_
          refine ri (y := nI (numOct a j)) (by rw [num_o0, numOct, if_neg (by omega), Nat.add_zero]) ?_
          refine lv_i2b hx hb dX9_addressNumber_41 (v := (nI (numOct a j)).toInt8.toInt32) rfl ?_
          refine ax_bst hx hb hK hP hD hS 1 1 rfl rfl Lc.length (rfl) (by omega) (by omega) (z := (nI (numOct a j)).toInt8.toInt32) (i8_i8 _) dX9_addressNumber_42 (fun H locs hP hD hS => ?_)
          have hP : va_P D vwCl [(mm, .inr (9, fl 78 g5_loop)), (MsAddresses, .inl (cB, 30000, .inl (upd w7 Lc.length ((nI (numOct a j)).toInt8.toInt32))))] H := hP
          have hD : va_D A0 [(mm, .inr (9, fl 78 g5_loop)), (MsAddresses, .inl (cB, 30000, .inl (upd w7 Lc.length ((nI (numOct a j)).toInt8.toInt32))))] := hD
          refine lv_aload_n hx hb dX9_addressNumber_43 rfl (lv_at hl 0 rfl) ?_
          refine lv_dup hx hb dX9_addressNumber_44 rfl ?_
          refine fx_get (D := D) (ci := 9) (v := .int (nI Lc.length)) (C := RX9) (T := TX9) (N := 78) hx hb hts in_X9 hown hK hP 0 rfl rfl 63 (by decide) (hts _ kX9_375) (fun _ h9 => h9) (k_sAddress_loop) dX9_addressNumber_45 ?_
          refine lv_iconst (v := 1) hx hb dX9_addressNumber_48 (by decide) ?_
          refine lv_iadd hx hb dX9_addressNumber_49 ?_
          refine ri (y := nI (Lc.length + 1)) (nI_add Lc.length 1) ?_
          refine fx_put (D := D) (ci := 9) (v := .int (nI (Lc.length + 1))) (ty := .int) (C := RX9) (T := TX9) (N := 78) hx hb hts in_X9 tyX9 tyX9_ok nmX9 hown hK hP hD hS 0 rfl rfl 63 (by decide) (hts _ kX9_375) (fun _ h9 => h9) rfl (by decide +kernel) rfl rfl dX9_addressNumber_50 (fun H locs hP hD hS => ?_)
          have hP : va_P D vwCl [(mm, .inr (9, fl 78 (va_up g5_loop 63 (.int (nI (Lc.length + 1)))))), (MsAddresses, .inl (cB, 30000, .inl (upd w7 Lc.length ((nI (numOct a j)).toInt8.toInt32))))] H := hP
          have hD : va_D A0 [(mm, .inr (9, fl 78 (va_up g5_loop 63 (.int (nI (Lc.length + 1)))))), (MsAddresses, .inl (cB, 30000, .inl (upd w7 Lc.length ((nI (numOct a j)).toInt8.toInt32))))] := hD
          refine lv_iinc (v := (nI j) + (-1)) (lv' := [(3, .int ((nI j) + (-1))), (0, .ref mm), (1, .long (lN a))]) hx hb dX9_addressNumber_53 hl (k := 2) rfl (rfl) (by decide) rfl (fun ls hl => ?_)
          refine lv_goto (tgt := 7) hx hb dX9_addressNumber_56 (by decide) ?_
          have kx_5 : (va_up g5_loop 63 (.int (nI (Lc.length + 1)))) 63 = .int (nI (Lc ++ [nI (numOct a j)]).length) := by have h9 : (va_up g5_loop 63 (.int (nI (Lc.length + 1)))) 63 = .int (nI (Lc.length + 1)) := rfl; rw [h9]; exact congrArg Value.int (by simp)
          rw [show nI j + (-1) = nI j - 1 from (Int32.sub_eq_add_neg ..).symm] at hl
          exact ih (va_up g5_loop 63 (.int (nI (Lc.length + 1)))) j (Lc ++ [nI (numOct a j)]) (upd w7 Lc.length (nI (numOct a j)).toInt8.toInt32) _ _ ls (by omega) ((frm_up hf_loop (by decide))) (kx_5) (by omega) (by rw [← hLc, numT, List.append_assoc]; rfl) (wL_put hw7) hP hD hS (lv_sub hl [1, 2, 0] rfl)
        · have hj0 : 0 < j := Nat.pos_of_ne_zero (fun z => c_4 (by rw [z]; decide))
          refine lv_sipush (v := 128) hx hb dX9_addressNumber_33 (by decide) ?_
          refine lv_goto (tgt := 40) hx hb dX9_addressNumber_36 (by decide) ?_
          refine lv_ior hx hb dX9_addressNumber_40 ?_
          refine ri (y := nI (numOct a j)) (by rw [num_o1 (Nat.mod_lt _ (by decide)), numOct, if_pos hj0]) ?_
          refine lv_i2b hx hb dX9_addressNumber_41 (v := (nI (numOct a j)).toInt8.toInt32) rfl ?_
          refine ax_bst hx hb hK hP hD hS 1 1 rfl rfl Lc.length (rfl) (by omega) (by omega) (z := (nI (numOct a j)).toInt8.toInt32) (i8_i8 _) dX9_addressNumber_42 (fun H locs hP hD hS => ?_)
          have hP : va_P D vwCl [(mm, .inr (9, fl 78 g5_loop)), (MsAddresses, .inl (cB, 30000, .inl (upd w7 Lc.length ((nI (numOct a j)).toInt8.toInt32))))] H := hP
          have hD : va_D A0 [(mm, .inr (9, fl 78 g5_loop)), (MsAddresses, .inl (cB, 30000, .inl (upd w7 Lc.length ((nI (numOct a j)).toInt8.toInt32))))] := hD
          refine lv_aload_n hx hb dX9_addressNumber_43 rfl (lv_at hl 0 rfl) ?_
          refine lv_dup hx hb dX9_addressNumber_44 rfl ?_
          refine fx_get (D := D) (ci := 9) (v := .int (nI Lc.length)) (C := RX9) (T := TX9) (N := 78) hx hb hts in_X9 hown hK hP 0 rfl rfl 63 (by decide) (hts _ kX9_375) (fun _ h9 => h9) (k_sAddress_loop) dX9_addressNumber_45 ?_
          refine lv_iconst (v := 1) hx hb dX9_addressNumber_48 (by decide) ?_
          refine lv_iadd hx hb dX9_addressNumber_49 ?_
          refine ri (y := nI (Lc.length + 1)) (nI_add Lc.length 1) ?_
          refine fx_put (D := D) (ci := 9) (v := .int (nI (Lc.length + 1))) (ty := .int) (C := RX9) (T := TX9) (N := 78) hx hb hts in_X9 tyX9 tyX9_ok nmX9 hown hK hP hD hS 0 rfl rfl 63 (by decide) (hts _ kX9_375) (fun _ h9 => h9) rfl (by decide +kernel) rfl rfl dX9_addressNumber_50 (fun H locs hP hD hS => ?_)
          have hP : va_P D vwCl [(mm, .inr (9, fl 78 (va_up g5_loop 63 (.int (nI (Lc.length + 1)))))), (MsAddresses, .inl (cB, 30000, .inl (upd w7 Lc.length ((nI (numOct a j)).toInt8.toInt32))))] H := hP
          have hD : va_D A0 [(mm, .inr (9, fl 78 (va_up g5_loop 63 (.int (nI (Lc.length + 1)))))), (MsAddresses, .inl (cB, 30000, .inl (upd w7 Lc.length ((nI (numOct a j)).toInt8.toInt32))))] := hD
          refine lv_iinc (v := (nI j) + (-1)) (lv' := [(3, .int ((nI j) + (-1))), (0, .ref mm), (1, .long (lN a))]) hx hb dX9_addressNumber_53 hl (k := 2) rfl (rfl) (by decide) rfl (fun ls hl => ?_)
          refine lv_goto (tgt := 7) hx hb dX9_addressNumber_56 (by decide) ?_
          have kx_6 : (va_up g5_loop 63 (.int (nI (Lc.length + 1)))) 63 = .int (nI (Lc ++ [nI (numOct a j)]).length) := by have h9 : (va_up g5_loop 63 (.int (nI (Lc.length + 1)))) 63 = .int (nI (Lc.length + 1)) := rfl; rw [h9]; exact congrArg Value.int (by simp)
          rw [show nI j + (-1) = nI j - 1 from (Int32.sub_eq_add_neg ..).symm] at hl
          exact ih (va_up g5_loop 63 (.int (nI (Lc.length + 1)))) j (Lc ++ [nI (numOct a j)]) (upd w7 Lc.length (nI (numOct a j)).toInt8.toInt32) _ _ ls (by omega) ((frm_up hf_loop (by decide))) (kx_6) (by omega) (by rw [← hLc, numT, List.append_assoc]; rfl) (wL_put hw7) hP hD hS (lv_sub hl [1, 2, 0] rfl)
  exact loop _ g (nsz a) OL msAddresses _ _ ls (Nat.lt_succ_self _) (frm_refl) (g_sAddress) (Nat.le_refl _) (rfl) (hw) hP hD hS (lv_sub hl [1, 2, 0] rfl)

set_option maxHeartbeats 4000000 in
set_option maxRecDepth 100000 in
theorem m_codeOctet (l : Launch) (D : va_G) (cI cB cJ cR : ClassId) (mm : Nat) (g : Nat → Value) (MsCodes : Nat) (msCodes : Nat → Int32) (OL : List Int32) (v : Int32) (g_sCode : g 61 = .int (nI OL.length)) (g_sCodes : g 60 = .ref MsCodes) (hln : OL.length < 30000) (hw : wL 30000 msCodes OL) : CMv l yX9_codeOctet cX9_codeOctet 2 none ({ frames := 0, cells := 0, slots := 0, locals := 0 }) D (tyA cI cB cJ cR) 0 0 [.ref mm, .int v] [(mm, .inr (9, fl 78 g)), (MsCodes, .inl (cB, 30000, .inl msCodes))] (fun (u9 : (Nat → Value) × (Nat → Int32)) => match u9 with | (g9, w2) => frm [61] g g9 ∧ g9 61 = .int (nI (OL ++ [v]).length) ∧ wL 30000 w2 (OL ++ [v])) (fun (u9 : (Nat → Value) × (Nat → Int32)) => match u9 with | (g9, w2) => [(mm, .inr (9, fl 78 g9)), (MsCodes, .inl (cB, 30000, .inl w2))]) := by
  refine st_v (cc := cX9_codeOctet) (maxL := 2) (by decide) (Nat.le_of_ble_eq_true rfl) ?_
  intro p0 e0 s0 m0 below meth c0 A0 Q0 hBD hret hP hD hS ls hl
  obtain ⟨hx, hb, hml, hown, hts, hnm, hK, hNw, hMk, hA⟩ := hBD
  have hl : lv_has ls 2 [(0, .ref mm), (1, .int v)] := hl
  have hP : va_P D vwCl [(mm, .inr (9, fl 78 g)), (MsCodes, .inl (cB, 30000, .inl msCodes))] s0.heap := hP
  have hD : va_D A0 [(mm, .inr (9, fl 78 g)), (MsCodes, .inl (cB, 30000, .inl msCodes))] := hD
  refine lv_aload_n hx hb dX9_codeOctet_0 rfl (lv_at hl 0 rfl) ?_
  refine fx_get (D := D) (ci := 9) (v := .ref MsCodes) (C := RX9) (T := TX9) (N := 78) hx hb hts in_X9 hown hK hP 0 rfl rfl 60 (by decide) (hts _ kX9_94) (fun _ h9 => h9) (g_sCodes) dX9_codeOctet_1 ?_
  refine lv_aload_n hx hb dX9_codeOctet_4 rfl (lv_at hl 0 rfl) ?_
  refine fx_get (D := D) (ci := 9) (v := .int (nI OL.length)) (C := RX9) (T := TX9) (N := 78) hx hb hts in_X9 hown hK hP 0 rfl rfl 61 (by decide) (hts _ kX9_385) (fun _ h9 => h9) (g_sCode) dX9_codeOctet_5 ?_
  refine lv_iload_n hx hb dX9_codeOctet_8 rfl (lv_at hl 1 rfl) ?_
  refine lv_i2b hx hb dX9_codeOctet_9 (v := v.toInt8.toInt32) rfl ?_
  refine ax_bst hx hb hK hP hD hS 1 1 rfl rfl OL.length (rfl) (hln) (by omega) (z := v.toInt8.toInt32) (i8_i8 v) dX9_codeOctet_10 (fun H locs hP hD hS => ?_)
  have hP : va_P D vwCl [(mm, .inr (9, fl 78 g)), (MsCodes, .inl (cB, 30000, .inl (upd msCodes OL.length v.toInt8.toInt32)))] H := hP
  have hD : va_D A0 [(mm, .inr (9, fl 78 g)), (MsCodes, .inl (cB, 30000, .inl (upd msCodes OL.length v.toInt8.toInt32)))] := hD
  refine lv_aload_n hx hb dX9_codeOctet_11 rfl (lv_at hl 0 rfl) ?_
  refine lv_dup hx hb dX9_codeOctet_12 rfl ?_
  refine fx_get (D := D) (ci := 9) (v := .int (nI OL.length)) (C := RX9) (T := TX9) (N := 78) hx hb hts in_X9 hown hK hP 0 rfl rfl 61 (by decide) (hts _ kX9_385) (fun _ h9 => h9) (g_sCode) dX9_codeOctet_13 ?_
  refine lv_iconst (v := 1) hx hb dX9_codeOctet_16 (by decide) ?_
  refine lv_iadd hx hb dX9_codeOctet_17 ?_
  refine ri (y := nI (OL.length + 1)) (nI_add OL.length 1) ?_
  refine fx_put (D := D) (ci := 9) (v := .int (nI (OL.length + 1))) (ty := .int) (C := RX9) (T := TX9) (N := 78) hx hb hts in_X9 tyX9 tyX9_ok nmX9 hown hK hP hD hS 0 rfl rfl 61 (by decide) (hts _ kX9_385) (fun _ h9 => h9) rfl (by decide +kernel) rfl rfl dX9_codeOctet_18 (fun H locs hP hD hS => ?_)
  have hP : va_P D vwCl [(mm, .inr (9, fl 78 (va_up g 61 (.int (nI (OL.length + 1)))))), (MsCodes, .inl (cB, 30000, .inl (upd msCodes OL.length v.toInt8.toInt32)))] H := hP
  have hD : va_D A0 [(mm, .inr (9, fl 78 (va_up g 61 (.int (nI (OL.length + 1)))))), (MsCodes, .inl (cB, 30000, .inl (upd msCodes OL.length v.toInt8.toInt32)))] := hD
  have kx_1 : (va_up g 61 (.int (nI (OL.length + 1)))) 61 = .int (nI (OL ++ [v]).length) := by have h9 : (va_up g 61 (.int (nI (OL.length + 1)))) 61 = .int (nI (OL.length + 1)) := rfl; rw [h9]; exact congrArg Value.int (by simp)
  exact hret 21 ls _ _ ((va_up g 61 (.int (nI (OL.length + 1)))), upd msCodes OL.length v.toInt8.toInt32) dX9_codeOctet_21 hP hD hS (⟨(frm_up frm_refl (by decide)), kx_1, wL_put hw⟩)

set_option maxHeartbeats 4000000 in
set_option maxRecDepth 100000 in
theorem m_modeFor (l : Launch) (D : va_G) (cI cB cJ cR : ClassId) (mm : Nat) (g : Nat → Value) (Mnears : Nat) (Msames : Nat) (MsAddresses : Nat) (mnears : Nat → Int64) (msames : Nat → Int64) (msAddresses : Nat → Int32) (near : Nat) (same : Nat) (a : Nat) (hr : Nat) (AL : List Int32) (cN : Nat → Nat) (cS : Nat → Nat) (g_near : g 8 = .int (nI near)) (g_same : g 9 = .int (nI same)) (g_sAddress : g 63 = .int (nI AL.length)) (g_nears : g 10 = .ref Mnears) (g_sames : g 12 = .ref Msames) (g_sAddresses : g 62 = .ref MsAddresses) (h8 : near ≤ 8) (h4 : same ≤ 4) (hah : a < hr) (hhr : hr < 2 ^ 24) (hln : AL.length < 29000) (hw : wL 30000 msAddresses AL) (hc : chR mnears msames cN cS) (hcN : ∀ j, j < 8 → cN j < 2 ^ 30) (hcS : ∀ j, j < 1024 → cS j < 2 ^ 30) : CMi l yX9_modeFor cX9_modeFor 10 (some .int) ({ frames := 2, cells := 0, slots := 0, locals := 45 }) D (tyA cI cB cJ cR) 0 0 [.ref mm, .int (nI a), .int (nI hr)] [(mm, .inr (9, fl 78 g)), (Mnears, .inl (cJ, 8, .inr (.inl mnears))), (Msames, .inl (cJ, 1024, .inr (.inl msames))), (MsAddresses, .inl (cB, 30000, .inl msAddresses))] (fun (r : Int32) (u9 : (Nat → Value) × (Nat → Int32)) => match u9 with | (g9, w2) => frm [63] g g9 ∧ g9 63 = .int (nI (AL ++ adL near a hr (chMode near same a hr cN cS) cN).length) ∧ r = nI (chMode near same a hr cN cS) ∧ wL 30000 w2 (AL ++ adL near a hr (chMode near same a hr cN cS) cN)) (fun (u9 : (Nat → Value) × (Nat → Int32)) => match u9 with | (g9, w2) => [(mm, .inr (9, fl 78 g9)), (Mnears, .inl (cJ, 8, .inr (.inl mnears))), (Msames, .inl (cJ, 1024, .inr (.inl msames))), (MsAddresses, .inl (cB, 30000, .inl w2))]) := by
  refine st_i (cc := cX9_modeFor) (maxL := 10) (by decide) (Nat.le_of_ble_eq_true rfl) ?_
  intro p0 e0 s0 m0 below meth c0 A0 Q0 hBD hret hP hD hS ls hl
  obtain ⟨hx, hb, hml, hown, hts, hnm, hK, hNw, hMk, hA⟩ := hBD
  have hl : lv_has ls 10 [(0, .ref mm), (1, .int (nI a)), (2, .int (nI hr))] := hl
  have hP : va_P D vwCl [(mm, .inr (9, fl 78 g)), (Mnears, .inl (cJ, 8, .inr (.inl mnears))), (Msames, .inl (cJ, 1024, .inr (.inl msames))), (MsAddresses, .inl (cB, 30000, .inl msAddresses))] s0.heap := hP
  have hD : va_D A0 [(mm, .inr (9, fl 78 g)), (Mnears, .inl (cJ, 8, .inr (.inl mnears))), (Msames, .inl (cJ, 1024, .inr (.inl msames))), (MsAddresses, .inl (cB, 30000, .inl msAddresses))] := hD
  refine lv_iconst (v := 0) hx hb dX9_modeFor_0 (by decide) ?_
  refine ri (y := nI 0) (nI_0.symm) ?_
  refine lv_istore_n (lv' := [(3, .int (nI 0)), (0, .ref mm), (1, .int (nI a)), (2, .int (nI hr))]) hx hb dX9_modeFor_1 rfl hl (by decide) rfl (fun ls hl => ?_)
  refine lv_iload_n hx hb dX9_modeFor_2 rfl (lv_at hl 2 rfl) ?_
  refine lv_i2l hx hb dX9_modeFor_3 (v := (nI a).toInt64) rfl ?_
  refine rl (y := lN a) (nI_l (by omega)) ?_
  refine lv_lstore (lv' := [(4, .long (lN a)), (3, .int (nI 0)), (0, .ref mm), (1, .int (nI a)), (2, .int (nI hr))]) hx hb dX9_modeFor_4 hl (by decide) rfl (fun ls hl => ?_)
  refine lv_iload_n hx hb dX9_modeFor_6 rfl (lv_at hl 3 rfl) ?_
  refine lv_i2l hx hb dX9_modeFor_7 (v := (nI a).toInt64) rfl ?_
  refine rl (y := lN a) (nI_l (by omega)) ?_
  refine jn_i (wr := [(mm, .inr (9, fl 78 g)), (Mnears, .inl (cJ, 8, .inr (.inl mnears))), (Msames, .inl (cJ, 1024, .inr (.inl msames))), (MsAddresses, .inl (cB, 30000, .inl msAddresses))]) hA hP hD hS [] [0, 1, 2, 3] rfl rfl (by decide) (by decide) (rn_S (As := [.long (lN a)]) (rest := []) ⟨hx, hb, hml, hown, hts⟩ (cvS 1 hts zc_yX9_numberSize zi_X9 zs_yX9_numberSize kX9_349 (by decide +kernel) rfl rfl ⟨Nat.le_of_ble_eq_true rfl, Nat.le_of_ble_eq_true rfl⟩) (m_numberSize l D cI cB cJ cR a (by omega) s0.heap.size) hK hNw hMk hA hP hD hS [] rfl rfl (by decide) rfl hl.1 rfl (Nat.le_of_ble_eq_true rfl) dX9_modeFor_8 ⟨Nat.le_of_ble_eq_true rfl, Nat.le_of_ble_eq_true rfl⟩) (fun r_1 u9 H locs w_2 hP hD hS => ?_)
  try dsimp only at w_2
  have hP : va_P D vwCl [(mm, .inr (9, fl 78 g)), (Mnears, .inl (cJ, 8, .inr (.inl mnears))), (Msames, .inl (cJ, 1024, .inr (.inl msames))), (MsAddresses, .inl (cB, 30000, .inl msAddresses))] H := hP
  have hD : va_D A0 [(mm, .inr (9, fl 78 g)), (Mnears, .inl (cJ, 8, .inr (.inl mnears))), (Msames, .inl (cJ, 1024, .inr (.inl msames))), (MsAddresses, .inl (cB, 30000, .inl msAddresses))] := hD
  subst w_2
  refine lv_istore (lv' := [(6, .int (nI (nsz a))), (4, .long (lN a)), (3, .int (nI 0)), (0, .ref mm), (1, .int (nI a)), (2, .int (nI hr))]) hx hb dX9_modeFor_11 hl (by decide) rfl (fun ls hl => ?_)
  refine lv_iload_n hx hb dX9_modeFor_13 rfl (lv_at hl 5 rfl) ?_
  refine lv_iload_n hx hb dX9_modeFor_14 rfl (lv_at hl 4 rfl) ?_
  refine lv_isub hx hb dX9_modeFor_15 ?_
  refine ri (y := nI (hr - a)) (pk_sub (by omega)) ?_
  refine lv_i2l hx hb dX9_modeFor_16 (v := (nI (hr - a)).toInt64) rfl ?_
  refine rl (y := lN (hr - a)) (nI_l (by omega)) ?_
  refine jn_i (wr := [(mm, .inr (9, fl 78 g)), (Mnears, .inl (cJ, 8, .inr (.inl mnears))), (Msames, .inl (cJ, 1024, .inr (.inl msames))), (MsAddresses, .inl (cB, 30000, .inl msAddresses))]) hA hP hD hS [] [0, 1, 2, 3] rfl rfl (by decide) (by decide) (rn_S (As := [.long (lN (hr - a))]) (rest := []) ⟨hx, hb, hml, hown, hts⟩ (cvS 1 hts zc_yX9_numberSize zi_X9 zs_yX9_numberSize kX9_349 (by decide +kernel) rfl rfl ⟨Nat.le_of_ble_eq_true rfl, Nat.le_of_ble_eq_true rfl⟩) (m_numberSize l D cI cB cJ cR (hr - a) (by omega) H.size) hK hNw hMk hA hP hD hS [] rfl rfl (by decide) rfl hl.1 rfl (Nat.le_of_ble_eq_true rfl) dX9_modeFor_17 ⟨Nat.le_of_ble_eq_true rfl, Nat.le_of_ble_eq_true rfl⟩) (fun r_3 u9 H locs w_4 hP hD hS => ?_)
  try dsimp only at w_4
  have hP : va_P D vwCl [(mm, .inr (9, fl 78 g)), (Mnears, .inl (cJ, 8, .inr (.inl mnears))), (Msames, .inl (cJ, 1024, .inr (.inl msames))), (MsAddresses, .inl (cB, 30000, .inl msAddresses))] H := hP
  have hD : va_D A0 [(mm, .inr (9, fl 78 g)), (Mnears, .inl (cJ, 8, .inr (.inl mnears))), (Msames, .inl (cJ, 1024, .inr (.inl msames))), (MsAddresses, .inl (cB, 30000, .inl msAddresses))] := hD
  subst w_4
  have s1 := nsz_le a
  have s2 := nsz_le (hr - a)
  refine lv_iload hx hb dX9_modeFor_20 (lv_at hl 0 rfl) ?_
  have loop : ∀ (k9 : Nat) (i : Nat) (bt : Nat) (nb : Nat) (sz : Nat) (H : Heap) (locs : List Loc) (ls : Array Slot), near - i < k9 → (i ≤ near) → (chM a hr cN i = (bt, sz)) → (nb = chV a hr cN bt) → (nb < 2 ^ 30 ∧ sz ≤ 5) → va_P D vwCl [(mm, .inr (9, fl 78 g)), (Mnears, .inl (cJ, 8, .inr (.inl mnears))), (Msames, .inl (cJ, 1024, .inr (.inl msames))), (MsAddresses, .inl (cB, 30000, .inl msAddresses))] H → va_D A0 [(mm, .inr (9, fl 78 g)), (Mnears, .inl (cJ, 8, .inr (.inl mnears))), (Msames, .inl (cJ, 1024, .inr (.inl msames))), (MsAddresses, .inl (cB, 30000, .inl msAddresses))] → va_S A0 s0.heap H locs → lv_has ls 10 [(0, .ref mm), (1, .int (nI a)), (2, .int (nI hr)), (3, .int (nI bt)), (4, .long (lN nb)), (6, .int (nI sz)), (7, .int (nI i))] → W p0 l e0 ({ frames := 2, cells := 0, slots := 0, locals := 45 }) s0 m0 ([.ref mm, .int (nI a), .int (nI hr)] : List Value).toArray below meth c0 H locs 0 0 Q0 (F0 m0 43 ls []) := by
    intro k9
    induction k9 with
    | zero => intro i bt nb sz H locs ls hk9; exact absurd hk9 (Nat.not_lt_zero _)
    | succ k9 ih =>
      intro i bt nb sz H locs ls hk9 hin hcm hnb hsz hP hD hS hl
      have hcl := chM_le a hr cN i
      rw [hcm] at hcl
      refine lv_iload hx hb dX9_modeFor_43 (lv_at hl 6 rfl) ?_
      refine lv_aload_n hx hb dX9_modeFor_45 rfl (lv_at hl 0 rfl) ?_
      refine fx_get (D := D) (ci := 9) (v := .int (nI near)) (C := RX9) (T := TX9) (N := 78) hx hb hts in_X9 hown hK hP 0 rfl rfl 8 (by decide) (hts _ kX9_164) (fun _ h9 => h9) (g_near) dX9_modeFor_46 ?_
      refine lv_icmp_ge (tgt := 103) hx hb dX9_modeFor_49 (by decide) (fun c_5 => ?_) (fun c_5 => ?_)
      · have hi9 : i = near := by have := (nI_leI (by omega) (by omega)).mp c_5; omega
        have hcm9 : chM a hr cN near = (bt, sz) := by rw [← hi9]; exact hcm
        have hbn : bt ≤ near + 1 := by have := hcl.2; omega
        refine lv_aload_n hx hb dX9_modeFor_103 rfl (lv_at hl 0 rfl) ?_
        refine fx_get (D := D) (ci := 9) (v := .int (nI same)) (C := RX9) (T := TX9) (N := 78) hx hb hts in_X9 hown hK hP 0 rfl rfl 9 (by decide) (hts _ kX9_167) (fun _ h9 => h9) (g_same) dX9_modeFor_104 ?_
        refine lv_if_le (tgt := 123) hx hb dX9_modeFor_107 (by decide) (fun c_6 => ?_) (fun c_6 => ?_)
        · have hs0 : ¬ 0 < same := fun z => nI_nle z (by omega) c_6
          refine lv_iconst (v := 0) hx hb dX9_modeFor_123 (by decide) ?_
          refine ri (y := nI 0) (nI_0.symm) ?_
          refine lv_istore (lv' := [(7, .int (nI 0)), (0, .ref mm), (1, .int (nI a)), (2, .int (nI hr)), (3, .int (nI bt)), (4, .long (lN nb)), (6, .int (nI sz))]) hx hb dX9_modeFor_124 hl (by decide) rfl (fun ls hl => ?_)
          refine lv_aload_n hx hb dX9_modeFor_126 rfl (lv_at hl 1 rfl) ?_
          refine fx_get (D := D) (ci := 9) (v := .int (nI same)) (C := RX9) (T := TX9) (N := 78) hx hb hts in_X9 hown hK hP 0 rfl rfl 9 (by decide) (hts _ kX9_167) (fun _ h9 => h9) (g_same) dX9_modeFor_127 ?_
          refine lv_if_le (tgt := 190) hx hb dX9_modeFor_130 (by decide) (fun c_7 => ?_) (fun c_7 => absurd (by rw [show same = 0 by omega]; decide) c_7)
          have hmd : (chMode near same a hr cN cS) = bt := by rw [chMode, hcm9, if_neg (fun z => hs0 z.2.1)]
          refine lv_aload_n hx hb dX9_modeFor_190 rfl (lv_at hl 1 rfl) ?_
          refine lv_lload hx hb dX9_modeFor_191 (lv_at hl 5 rfl) ?_
          refine jn_v (wr := [(Mnears, .inl (cJ, 8, .inr (.inl mnears))), (Msames, .inl (cJ, 1024, .inr (.inl msames)))]) hA hP hD hS [0, 3] [1, 2] rfl rfl (by decide) (by decide) (rn_V (As := [.long (lN nb)]) (rest := []) ⟨hx, hb, hml, hown, hts⟩ (cvV 1 hts zc_yX9_addressNumber zi_X9 zm_yX9_addressNumber zv_yX9_addressNumber kX9_378 (by decide +kernel) rfl rfl ⟨Nat.le_of_ble_eq_true rfl, Nat.le_of_ble_eq_true rfl⟩) (m_addressNumber l D cI cB cJ cR mm g MsAddresses msAddresses AL nb (g_sAddress) (g_sAddresses) (hln) (hw) (by omega) H.size) hK hNw hMk hA hP hD hS [0, 3] rfl rfl (by decide) 0 rfl rfl rfl rfl hl.1 rfl (Nat.le_of_ble_eq_true rfl) dX9_modeFor_193 ⟨Nat.le_of_ble_eq_true rfl, Nat.le_of_ble_eq_true rfl⟩) (fun u9 H locs han hP hD hS => ?_)
          obtain ⟨g_8, w8⟩ := u9
          try dsimp only at han
          have hP : va_P D vwCl [(Mnears, .inl (cJ, 8, .inr (.inl mnears))), (Msames, .inl (cJ, 1024, .inr (.inl msames))), (mm, .inr (9, fl 78 g_8)), (MsAddresses, .inl (cB, 30000, .inl w8))] H := hP
          have hD : va_D A0 [(Mnears, .inl (cJ, 8, .inr (.inl mnears))), (Msames, .inl (cJ, 1024, .inr (.inl msames))), (mm, .inr (9, fl 78 g_8)), (MsAddresses, .inl (cB, 30000, .inl w8))] := hD
          obtain ⟨f_han, sAddress_han, han_⟩ := han
          have k8_g_8 : g_8 8 = .int (nI near) := (f_han 8 (by decide)).trans (g_near)
          have k9_g_8 : g_8 9 = .int (nI same) := (f_han 9 (by decide)).trans (g_same)
          have k10_g_8 : g_8 10 = .ref Mnears := (f_han 10 (by decide)).trans (g_nears)
          have k12_g_8 : g_8 12 = .ref Msames := (f_han 12 (by decide)).trans (g_sames)
          have k62_g_8 : g_8 62 = .ref MsAddresses := (f_han 62 (by decide)).trans (g_sAddresses)
          have fr_g_8 : frm [63] g g_8 := frm_tr frm_refl f_han (by decide)
          have had : adL near a hr (chMode near same a hr cN cS) cN = numL nb := by rw [hmd, adL_num hbn, hnb]
          have kx_10 : g_8 63 = .int (nI (AL ++ adL near a hr (chMode near same a hr cN cS) cN).length) := by have h9 : g_8 63 = .int (nI (AL ++ numL nb).length) := sAddress_han; rw [h9]; exact congrArg Value.int (by rw [had])
          refine lv_iload_n hx hb dX9_modeFor_196 rfl (lv_at hl 4 rfl) ?_
          have hP := hP.sub (ws' := [(mm, .inr (9, fl 78 g_8)), (Mnears, .inl (cJ, 8, .inr (.inl mnears))), (Msames, .inl (cJ, 1024, .inr (.inl msames))), (MsAddresses, .inl (cB, 30000, .inl w8))]) [2, 0, 1, 3] rfl
          have hD := hD.sub (ws' := [(mm, .inr (9, fl 78 g_8)), (Mnears, .inl (cJ, 8, .inr (.inl mnears))), (Msames, .inl (cJ, 1024, .inr (.inl msames))), (MsAddresses, .inl (cB, 30000, .inl w8))]) [2, 0, 1, 3] (by decide) rfl
          exact hret 197 ls _ _ _ (g_8, w8) dX9_modeFor_197 hP hD hS (⟨fr_g_8, kx_10, ⟨by rw [hmd], by rw [had]; exact han_⟩⟩)
        · have hs0 : 0 < same := Nat.pos_of_ne_zero (fun z => c_6 (by rw [z]; decide))
          have hmo : a % (256 * same) < 256 * same := Nat.mod_lt _ (by omega)
          refine lv_iload_n hx hb dX9_modeFor_110 rfl (lv_at hl 1 rfl) ?_
          refine lv_sipush (v := 256) hx hb dX9_modeFor_111 (by decide) ?_
          refine lv_aload_n hx hb dX9_modeFor_114 rfl (lv_at hl 0 rfl) ?_
          refine fx_get (D := D) (ci := 9) (v := .int (nI same)) (C := RX9) (T := TX9) (N := 78) hx hb hts in_X9 hown hK hP 0 rfl rfl 9 (by decide) (hts _ kX9_167) (fun _ h9 => h9) (g_same) dX9_modeFor_115 ?_
          refine lv_imul hx hb dX9_modeFor_118 ?_
          refine ri (y := nI (256 * same)) (pk_mul 256 same) ?_
          refine lv_irem hx hb dX9_modeFor_119 (nI_ne0 (by omega) (by omega)) ?_
          refine ri (y := nI (a % (256 * same))) (pk_rem (by omega) (by omega) (by omega)) ?_
          refine lv_goto (tgt := 124) hx hb dX9_modeFor_120 (by decide) ?_
          refine lv_istore (lv' := [(7, .int (nI (a % (256 * same)))), (0, .ref mm), (1, .int (nI a)), (2, .int (nI hr)), (3, .int (nI bt)), (4, .long (lN nb)), (6, .int (nI sz))]) hx hb dX9_modeFor_124 hl (by decide) rfl (fun ls hl => ?_)
          refine lv_aload_n hx hb dX9_modeFor_126 rfl (lv_at hl 1 rfl) ?_
          refine fx_get (D := D) (ci := 9) (v := .int (nI same)) (C := RX9) (T := TX9) (N := 78) hx hb hts in_X9 hown hK hP 0 rfl rfl 9 (by decide) (hts _ kX9_167) (fun _ h9 => h9) (g_same) dX9_modeFor_127 ?_
          refine lv_if_le (tgt := 190) hx hb dX9_modeFor_130 (by decide) (fun c_11 => absurd c_11 (fun w9 => nI_nle hs0 (by omega) w9)) (fun c_11 => ?_)
          refine lv_iload hx hb dX9_modeFor_133 (lv_at hl 6 rfl) ?_
          refine lv_iconst (v := 1) hx hb dX9_modeFor_135 (by decide) ?_
          refine lv_icmp_le (tgt := 190) hx hb dX9_modeFor_136 (by decide) (fun c_12 => ?_) (fun c_12 => ?_)
          · have hz1 : sz ≤ 1 := (nI_leI (b := 1) (by omega) (by decide)).mp c_12
            have hmd : (chMode near same a hr cN cS) = bt := by rw [chMode, hcm9, if_neg (fun z => absurd z.1 (by show ¬ 1 < sz; omega))]
            refine lv_aload_n hx hb dX9_modeFor_190 rfl (lv_at hl 1 rfl) ?_
            refine lv_lload hx hb dX9_modeFor_191 (lv_at hl 5 rfl) ?_
            refine jn_v (wr := [(Mnears, .inl (cJ, 8, .inr (.inl mnears))), (Msames, .inl (cJ, 1024, .inr (.inl msames)))]) hA hP hD hS [0, 3] [1, 2] rfl rfl (by decide) (by decide) (rn_V (As := [.long (lN nb)]) (rest := []) ⟨hx, hb, hml, hown, hts⟩ (cvV 1 hts zc_yX9_addressNumber zi_X9 zm_yX9_addressNumber zv_yX9_addressNumber kX9_378 (by decide +kernel) rfl rfl ⟨Nat.le_of_ble_eq_true rfl, Nat.le_of_ble_eq_true rfl⟩) (m_addressNumber l D cI cB cJ cR mm g MsAddresses msAddresses AL nb (g_sAddress) (g_sAddresses) (hln) (hw) (by omega) H.size) hK hNw hMk hA hP hD hS [0, 3] rfl rfl (by decide) 0 rfl rfl rfl rfl hl.1 rfl (Nat.le_of_ble_eq_true rfl) dX9_modeFor_193 ⟨Nat.le_of_ble_eq_true rfl, Nat.le_of_ble_eq_true rfl⟩) (fun u9 H locs han hP hD hS => ?_)
            obtain ⟨g_13, w8⟩ := u9
            try dsimp only at han
            have hP : va_P D vwCl [(Mnears, .inl (cJ, 8, .inr (.inl mnears))), (Msames, .inl (cJ, 1024, .inr (.inl msames))), (mm, .inr (9, fl 78 g_13)), (MsAddresses, .inl (cB, 30000, .inl w8))] H := hP
            have hD : va_D A0 [(Mnears, .inl (cJ, 8, .inr (.inl mnears))), (Msames, .inl (cJ, 1024, .inr (.inl msames))), (mm, .inr (9, fl 78 g_13)), (MsAddresses, .inl (cB, 30000, .inl w8))] := hD
            obtain ⟨f_han, sAddress_han, han_⟩ := han
            have k8_g_13 : g_13 8 = .int (nI near) := (f_han 8 (by decide)).trans (g_near)
            have k9_g_13 : g_13 9 = .int (nI same) := (f_han 9 (by decide)).trans (g_same)
            have k10_g_13 : g_13 10 = .ref Mnears := (f_han 10 (by decide)).trans (g_nears)
            have k12_g_13 : g_13 12 = .ref Msames := (f_han 12 (by decide)).trans (g_sames)
            have k62_g_13 : g_13 62 = .ref MsAddresses := (f_han 62 (by decide)).trans (g_sAddresses)
            have fr_g_13 : frm [63] g g_13 := frm_tr frm_refl f_han (by decide)
            have had : adL near a hr (chMode near same a hr cN cS) cN = numL nb := by rw [hmd, adL_num hbn, hnb]
            have kx_15 : g_13 63 = .int (nI (AL ++ adL near a hr (chMode near same a hr cN cS) cN).length) := by have h9 : g_13 63 = .int (nI (AL ++ numL nb).length) := sAddress_han; rw [h9]; exact congrArg Value.int (by rw [had])
            refine lv_iload_n hx hb dX9_modeFor_196 rfl (lv_at hl 4 rfl) ?_
            have hP := hP.sub (ws' := [(mm, .inr (9, fl 78 g_13)), (Mnears, .inl (cJ, 8, .inr (.inl mnears))), (Msames, .inl (cJ, 1024, .inr (.inl msames))), (MsAddresses, .inl (cB, 30000, .inl w8))]) [2, 0, 1, 3] rfl
            have hD := hD.sub (ws' := [(mm, .inr (9, fl 78 g_13)), (Mnears, .inl (cJ, 8, .inr (.inl mnears))), (Msames, .inl (cJ, 1024, .inr (.inl msames))), (MsAddresses, .inl (cB, 30000, .inl w8))]) [2, 0, 1, 3] (by decide) rfl
            exact hret 197 ls _ _ _ (g_13, w8) dX9_modeFor_197 hP hD hS (⟨fr_g_13, kx_15, ⟨by rw [hmd], by rw [had]; exact han_⟩⟩)
          · have hz1 : 1 < sz := Nat.not_le.mp (fun q => c_12 (nI_le (b := 1) q (by decide)))
            have hcs9 := hcS (a % (256 * same)) (by omega)
            refine lv_aload_n hx hb dX9_modeFor_139 rfl (lv_at hl 1 rfl) ?_
            refine fx_get (D := D) (ci := 9) (v := .ref Msames) (C := RX9) (T := TX9) (N := 78) hx hb hts in_X9 hown hK hP 0 rfl rfl 12 (by decide) (hts _ kX9_37) (fun _ h9 => h9) (g_sames) dX9_modeFor_140 ?_
            refine lv_iload hx hb dX9_modeFor_143 (lv_at hl 0 rfl) ?_
            refine ax_lld hx hb hK hP 2 2 rfl rfl (a % (256 * same)) (rfl) (by omega) (by omega) dX9_modeFor_145 ?_
            refine rl (y := lN (cS (a % (256 * same)))) (hc.2 _ (by omega)) ?_
            refine lv_iload_n hx hb dX9_modeFor_146 rfl (lv_at hl 2 rfl) ?_
            refine lv_i2l hx hb dX9_modeFor_147 (v := (nI a).toInt64) rfl ?_
            refine rl (y := lN a) (nI_l (by omega)) ?_
            refine W.lcmp hx hb dX9_modeFor_148 ?_
            refine lv_if_ne (tgt := 190) hx hb dX9_modeFor_149 (by decide) (fun c_16 => ?_) (fun c_16 => ?_)
            · have hne : ¬ cS (a % (256 * same)) = a := fun z => c_16 ((lg_cmp_eq _ _).mpr (by rw [z]))
              have hmd : (chMode near same a hr cN cS) = bt := by rw [chMode, hcm9, if_neg (fun z => hne z.2.2)]
              refine lv_aload_n hx hb dX9_modeFor_190 rfl (lv_at hl 1 rfl) ?_
              refine lv_lload hx hb dX9_modeFor_191 (lv_at hl 5 rfl) ?_
              refine jn_v (wr := [(Mnears, .inl (cJ, 8, .inr (.inl mnears))), (Msames, .inl (cJ, 1024, .inr (.inl msames)))]) hA hP hD hS [0, 3] [1, 2] rfl rfl (by decide) (by decide) (rn_V (As := [.long (lN nb)]) (rest := []) ⟨hx, hb, hml, hown, hts⟩ (cvV 1 hts zc_yX9_addressNumber zi_X9 zm_yX9_addressNumber zv_yX9_addressNumber kX9_378 (by decide +kernel) rfl rfl ⟨Nat.le_of_ble_eq_true rfl, Nat.le_of_ble_eq_true rfl⟩) (m_addressNumber l D cI cB cJ cR mm g MsAddresses msAddresses AL nb (g_sAddress) (g_sAddresses) (hln) (hw) (by omega) H.size) hK hNw hMk hA hP hD hS [0, 3] rfl rfl (by decide) 0 rfl rfl rfl rfl hl.1 rfl (Nat.le_of_ble_eq_true rfl) dX9_modeFor_193 ⟨Nat.le_of_ble_eq_true rfl, Nat.le_of_ble_eq_true rfl⟩) (fun u9 H locs han hP hD hS => ?_)
              obtain ⟨g_17, w8⟩ := u9
              try dsimp only at han
              have hP : va_P D vwCl [(Mnears, .inl (cJ, 8, .inr (.inl mnears))), (Msames, .inl (cJ, 1024, .inr (.inl msames))), (mm, .inr (9, fl 78 g_17)), (MsAddresses, .inl (cB, 30000, .inl w8))] H := hP
              have hD : va_D A0 [(Mnears, .inl (cJ, 8, .inr (.inl mnears))), (Msames, .inl (cJ, 1024, .inr (.inl msames))), (mm, .inr (9, fl 78 g_17)), (MsAddresses, .inl (cB, 30000, .inl w8))] := hD
              obtain ⟨f_han, sAddress_han, han_⟩ := han
              have k8_g_17 : g_17 8 = .int (nI near) := (f_han 8 (by decide)).trans (g_near)
              have k9_g_17 : g_17 9 = .int (nI same) := (f_han 9 (by decide)).trans (g_same)
              have k10_g_17 : g_17 10 = .ref Mnears := (f_han 10 (by decide)).trans (g_nears)
              have k12_g_17 : g_17 12 = .ref Msames := (f_han 12 (by decide)).trans (g_sames)
              have k62_g_17 : g_17 62 = .ref MsAddresses := (f_han 62 (by decide)).trans (g_sAddresses)
              have fr_g_17 : frm [63] g g_17 := frm_tr frm_refl f_han (by decide)
              have had : adL near a hr (chMode near same a hr cN cS) cN = numL nb := by rw [hmd, adL_num hbn, hnb]
              have kx_19 : g_17 63 = .int (nI (AL ++ adL near a hr (chMode near same a hr cN cS) cN).length) := by have h9 : g_17 63 = .int (nI (AL ++ numL nb).length) := sAddress_han; rw [h9]; exact congrArg Value.int (by rw [had])
              refine lv_iload_n hx hb dX9_modeFor_196 rfl (lv_at hl 4 rfl) ?_
              have hP := hP.sub (ws' := [(mm, .inr (9, fl 78 g_17)), (Mnears, .inl (cJ, 8, .inr (.inl mnears))), (Msames, .inl (cJ, 1024, .inr (.inl msames))), (MsAddresses, .inl (cB, 30000, .inl w8))]) [2, 0, 1, 3] rfl
              have hD := hD.sub (ws' := [(mm, .inr (9, fl 78 g_17)), (Mnears, .inl (cJ, 8, .inr (.inl mnears))), (Msames, .inl (cJ, 1024, .inr (.inl msames))), (MsAddresses, .inl (cB, 30000, .inl w8))]) [2, 0, 1, 3] (by decide) rfl
              exact hret 197 ls _ _ _ (g_17, w8) dX9_modeFor_197 hP hD hS (⟨fr_g_17, kx_19, ⟨by rw [hmd], by rw [had]; exact han_⟩⟩)
            · have heq : cS (a % (256 * same)) = a := (pk_lEQ (by omega) (by omega)).mp ((lg_cmp_eq _ _).mp c_16)
              have hmd : (chMode near same a hr cN cS) = near + 2 + a % (256 * same) / 256 := by rw [chMode, hcm9, if_pos ⟨hz1, hs0, heq⟩]
              have hmod : a % (256 * same) % 256 = a % 256 := Nat.mod_mul_right_mod a 256 same
              have had : adL near a hr (chMode near same a hr cN cS) cN = [nI (a % 256)] := by rw [hmd, adL, if_neg (by omega), if_neg (by omega), if_pos (by omega)]
              refine lv_aload_n hx hb dX9_modeFor_152 rfl (lv_at hl 1 rfl) ?_
              refine fx_get (D := D) (ci := 9) (v := .int (nI near)) (C := RX9) (T := TX9) (N := 78) hx hb hts in_X9 hown hK hP 0 rfl rfl 8 (by decide) (hts _ kX9_164) (fun _ h9 => h9) (g_near) dX9_modeFor_153 ?_
              refine lv_iconst (v := 2) hx hb dX9_modeFor_156 (by decide) ?_
              refine lv_iadd hx hb dX9_modeFor_157 ?_
              refine ri (y := nI (near + 2)) (nI_add near 2) ?_
              refine lv_iload hx hb dX9_modeFor_158 (lv_at hl 0 rfl) ?_
              refine lv_sipush (v := 256) hx hb dX9_modeFor_160 (by decide) ?_
              refine lv_idiv hx hb dX9_modeFor_163 (by decide) ?_
              refine ri (y := nI (a % (256 * same) / 256)) (pk_div (d := 256) (by omega) (by decide) (by decide)) ?_
              refine lv_iadd hx hb dX9_modeFor_164 ?_
              refine ri (y := nI ((near + 2) + (a % (256 * same) / 256))) (nI_add (near + 2) (a % (256 * same) / 256)) ?_
              refine lv_istore_n (lv' := [(3, .int (nI ((near + 2) + (a % (256 * same) / 256)))), (7, .int (nI (a % (256 * same)))), (0, .ref mm), (1, .int (nI a)), (2, .int (nI hr)), (4, .long (lN nb)), (6, .int (nI sz))]) hx hb dX9_modeFor_165 rfl hl (by decide) rfl (fun ls hl => ?_)
              refine lv_aload_n hx hb dX9_modeFor_166 rfl (lv_at hl 2 rfl) ?_
              refine fx_get (D := D) (ci := 9) (v := .ref MsAddresses) (C := RX9) (T := TX9) (N := 78) hx hb hts in_X9 hown hK hP 0 rfl rfl 62 (by decide) (hts _ kX9_97) (fun _ h9 => h9) (g_sAddresses) dX9_modeFor_167 ?_
              refine lv_aload_n hx hb dX9_modeFor_170 rfl (lv_at hl 2 rfl) ?_
              refine fx_get (D := D) (ci := 9) (v := .int (nI AL.length)) (C := RX9) (T := TX9) (N := 78) hx hb hts in_X9 hown hK hP 0 rfl rfl 63 (by decide) (hts _ kX9_375) (fun _ h9 => h9) (g_sAddress) dX9_modeFor_171 ?_
              refine lv_iload hx hb dX9_modeFor_174 (lv_at hl 1 rfl) ?_
              refine lv_i2b hx hb dX9_modeFor_176 (v := (nI (a % (256 * same))).toInt8.toInt32) rfl ?_
              refine ax_bst hx hb hK hP hD hS 3 1 rfl rfl AL.length (rfl) (by omega) (by omega) (z := (nI (a % (256 * same))).toInt8.toInt32) (i8_i8 _) dX9_modeFor_177 (fun H locs hP hD hS => ?_)
              have hP : va_P D vwCl [(mm, .inr (9, fl 78 g)), (Mnears, .inl (cJ, 8, .inr (.inl mnears))), (Msames, .inl (cJ, 1024, .inr (.inl msames))), (MsAddresses, .inl (cB, 30000, .inl (upd msAddresses AL.length ((nI (a % (256 * same))).toInt8.toInt32))))] H := hP
              have hD : va_D A0 [(mm, .inr (9, fl 78 g)), (Mnears, .inl (cJ, 8, .inr (.inl mnears))), (Msames, .inl (cJ, 1024, .inr (.inl msames))), (MsAddresses, .inl (cB, 30000, .inl (upd msAddresses AL.length ((nI (a % (256 * same))).toInt8.toInt32))))] := hD
              refine lv_aload_n hx hb dX9_modeFor_178 rfl (lv_at hl 2 rfl) ?_
              refine lv_dup hx hb dX9_modeFor_179 rfl ?_
              refine fx_get (D := D) (ci := 9) (v := .int (nI AL.length)) (C := RX9) (T := TX9) (N := 78) hx hb hts in_X9 hown hK hP 0 rfl rfl 63 (by decide) (hts _ kX9_375) (fun _ h9 => h9) (g_sAddress) dX9_modeFor_180 ?_
              refine lv_iconst (v := 1) hx hb dX9_modeFor_183 (by decide) ?_
              refine lv_iadd hx hb dX9_modeFor_184 ?_
              refine ri (y := nI (AL.length + 1)) (nI_add AL.length 1) ?_
              refine fx_put (D := D) (ci := 9) (v := .int (nI (AL.length + 1))) (ty := .int) (C := RX9) (T := TX9) (N := 78) hx hb hts in_X9 tyX9 tyX9_ok nmX9 hown hK hP hD hS 0 rfl rfl 63 (by decide) (hts _ kX9_375) (fun _ h9 => h9) rfl (by decide +kernel) rfl rfl dX9_modeFor_185 (fun H locs hP hD hS => ?_)
              have hP : va_P D vwCl [(mm, .inr (9, fl 78 (va_up g 63 (.int (nI (AL.length + 1)))))), (Mnears, .inl (cJ, 8, .inr (.inl mnears))), (Msames, .inl (cJ, 1024, .inr (.inl msames))), (MsAddresses, .inl (cB, 30000, .inl (upd msAddresses AL.length ((nI (a % (256 * same))).toInt8.toInt32))))] H := hP
              have hD : va_D A0 [(mm, .inr (9, fl 78 (va_up g 63 (.int (nI (AL.length + 1)))))), (Mnears, .inl (cJ, 8, .inr (.inl mnears))), (Msames, .inl (cJ, 1024, .inr (.inl msames))), (MsAddresses, .inl (cB, 30000, .inl (upd msAddresses AL.length ((nI (a % (256 * same))).toInt8.toInt32))))] := hD
              refine lv_iload_n hx hb dX9_modeFor_188 rfl (lv_at hl 0 rfl) ?_
              have kx_20 : (va_up g 63 (.int (nI (AL.length + 1)))) 63 = .int (nI (AL ++ adL near a hr (chMode near same a hr cN cS) cN).length) := by have h9 : (va_up g 63 (.int (nI (AL.length + 1)))) 63 = .int (nI (AL.length + 1)) := rfl; rw [h9]; exact congrArg Value.int (by rw [had]; simp)
              exact hret 189 ls _ _ _ ((va_up g 63 (.int (nI (AL.length + 1)))), upd msAddresses AL.length (nI (a % (256 * same))).toInt8.toInt32) dX9_modeFor_189 hP hD hS (⟨(frm_up frm_refl (by decide)), kx_20, ⟨by rw [hmd], by rw [had]; exact wL_put2 hw (by rw [s8_mod _ (by omega), hmod])⟩⟩)
      · have hi9 : i < near := Nat.not_le.mp (fun q => c_5 (nI_le q (by omega)))
        have hcn9 := hcN i (by omega)
        refine lv_iload_n hx hb dX9_modeFor_52 rfl (lv_at hl 1 rfl) ?_
        refine lv_i2l hx hb dX9_modeFor_53 (v := (nI a).toInt64) rfl ?_
        refine rl (y := lN a) (nI_l (by omega)) ?_
        refine lv_aload_n hx hb dX9_modeFor_54 rfl (lv_at hl 0 rfl) ?_
        refine fx_get (D := D) (ci := 9) (v := .ref Mnears) (C := RX9) (T := TX9) (N := 78) hx hb hts in_X9 hown hK hP 0 rfl rfl 10 (by decide) (hts _ kX9_33) (fun _ h9 => h9) (g_nears) dX9_modeFor_55 ?_
        refine lv_iload hx hb dX9_modeFor_58 (lv_at hl 6 rfl) ?_
        refine ax_lld hx hb hK hP 1 2 rfl rfl i (rfl) (by omega) (by omega) dX9_modeFor_60 ?_
        refine rl (y := lN (cN i)) (hc.1 _ (by omega)) ?_
        refine lv_lsub hx hb dX9_modeFor_61 ?_
        refine lv_lstore (lv' := [(8, .long ((lN a) - (lN (cN i)))), (0, .ref mm), (1, .int (nI a)), (2, .int (nI hr)), (3, .int (nI bt)), (4, .long (lN nb)), (6, .int (nI sz)), (7, .int (nI i))]) hx hb dX9_modeFor_62 hl (by decide) rfl (fun ls hl => ?_)
        refine lv_lload hx hb dX9_modeFor_64 (lv_at hl 0 rfl) ?_
        refine lv_lconst (v := 0) hx hb dX9_modeFor_66 (by decide) ?_
        refine W.lcmp hx hb dX9_modeFor_67 ?_
        refine lv_if_lt (tgt := 97) hx hb dX9_modeFor_68 (by decide) (fun c_21 => ?_) (fun c_21 => ?_)
        · have hlt : ¬ cN i ≤ a := fun z => by have h9 := (lg_cmp_lt _ _).mp c_21; rw [lN_sub z] at h9; have := (pk_lLT (b := 0) (by omega) (by decide)).mp h9; omega
          refine lv_iinc (v := nI (i + 1)) (lv' := [(7, .int (nI (i + 1))), (8, .long ((lN a) - (lN (cN i)))), (0, .ref mm), (1, .int (nI a)), (2, .int (nI hr)), (3, .int (nI bt)), (4, .long (lN nb)), (6, .int (nI sz))]) hx hb dX9_modeFor_97 hl (k := 7) rfl (nI_add i 1) (by decide) rfl (fun ls hl => ?_)
          refine lv_goto (tgt := 43) hx hb dX9_modeFor_100 (by decide) ?_
          exact ih (i + 1) bt nb sz _ _ ls (by omega) (by omega) (by rw [chM, if_neg (fun z => hlt z.1)]; exact hcm) (hnb) (hsz) hP hD hS (lv_sub hl [2, 3, 4, 5, 6, 7, 0] rfl)
        · have hle : cN i ≤ a := Decidable.byContradiction (fun z => c_21 ((lg_cmp_lt _ _).mpr (Int64.lt_iff_toInt_lt.mpr (by rw [lsub_toInt (by omega) (by omega), show (0 : Int64).toInt = 0 from rfl]; omega))))
          rw [lN_sub hle] at hl
          have s3 := nsz_le (a - cN i)
          refine lv_lload hx hb dX9_modeFor_71 (lv_at hl 0 rfl) ?_
          refine jn_i (wr := [(mm, .inr (9, fl 78 g)), (Mnears, .inl (cJ, 8, .inr (.inl mnears))), (Msames, .inl (cJ, 1024, .inr (.inl msames))), (MsAddresses, .inl (cB, 30000, .inl msAddresses))]) hA hP hD hS [] [0, 1, 2, 3] rfl rfl (by decide) (by decide) (rn_S (As := [.long (lN (a - cN i))]) (rest := []) ⟨hx, hb, hml, hown, hts⟩ (cvS 1 hts zc_yX9_numberSize zi_X9 zs_yX9_numberSize kX9_349 (by decide +kernel) rfl rfl ⟨Nat.le_of_ble_eq_true rfl, Nat.le_of_ble_eq_true rfl⟩) (m_numberSize l D cI cB cJ cR (a - cN i) (by omega) H.size) hK hNw hMk hA hP hD hS [] rfl rfl (by decide) rfl hl.1 rfl (Nat.le_of_ble_eq_true rfl) dX9_modeFor_73 ⟨Nat.le_of_ble_eq_true rfl, Nat.le_of_ble_eq_true rfl⟩) (fun r_22 u9 H locs w_23 hP hD hS => ?_)
          try dsimp only at w_23
          have hP : va_P D vwCl [(mm, .inr (9, fl 78 g)), (Mnears, .inl (cJ, 8, .inr (.inl mnears))), (Msames, .inl (cJ, 1024, .inr (.inl msames))), (MsAddresses, .inl (cB, 30000, .inl msAddresses))] H := hP
          have hD : va_D A0 [(mm, .inr (9, fl 78 g)), (Mnears, .inl (cJ, 8, .inr (.inl mnears))), (Msames, .inl (cJ, 1024, .inr (.inl msames))), (MsAddresses, .inl (cB, 30000, .inl msAddresses))] := hD
          subst w_23
          refine lv_iload hx hb dX9_modeFor_76 (lv_at hl 6 rfl) ?_
          refine lv_icmp_ge (tgt := 97) hx hb dX9_modeFor_78 (by decide) (fun c_24 => ?_) (fun c_24 => ?_)
          · have hge : ¬ nsz (a - cN i) < sz := Nat.not_lt.mpr ((nI_leI (by omega) (by omega)).mp c_24)
            refine lv_iinc (v := nI (i + 1)) (lv' := [(7, .int (nI (i + 1))), (8, .long (lN (a - cN i))), (0, .ref mm), (1, .int (nI a)), (2, .int (nI hr)), (3, .int (nI bt)), (4, .long (lN nb)), (6, .int (nI sz))]) hx hb dX9_modeFor_97 hl (k := 7) rfl (nI_add i 1) (by decide) rfl (fun ls hl => ?_)
            refine lv_goto (tgt := 43) hx hb dX9_modeFor_100 (by decide) ?_
            exact ih (i + 1) bt nb sz _ _ ls (by omega) (by omega) (by rw [chM, hcm, if_neg (fun z => hge z.2)]) (hnb) (hsz) hP hD hS (lv_sub hl [2, 3, 4, 5, 6, 7, 0] rfl)
          · have hge : nsz (a - cN i) < sz := Nat.not_le.mp (fun q => c_24 (nI_le q (by omega)))
            refine lv_iconst (v := 2) hx hb dX9_modeFor_81 (by decide) ?_
            refine lv_iload hx hb dX9_modeFor_82 (lv_at hl 7 rfl) ?_
            refine lv_iadd hx hb dX9_modeFor_84 ?_
            refine ri (y := nI (2 + i)) (nI_add 2 i) ?_
            refine lv_istore_n (lv' := [(3, .int (nI (2 + i))), (8, .long (lN (a - cN i))), (0, .ref mm), (1, .int (nI a)), (2, .int (nI hr)), (4, .long (lN nb)), (6, .int (nI sz)), (7, .int (nI i))]) hx hb dX9_modeFor_85 rfl hl (by decide) rfl (fun ls hl => ?_)
            refine lv_lload hx hb dX9_modeFor_86 (lv_at hl 1 rfl) ?_
            refine lv_lstore (lv' := [(4, .long (lN (a - cN i))), (3, .int (nI (2 + i))), (8, .long (lN (a - cN i))), (0, .ref mm), (1, .int (nI a)), (2, .int (nI hr)), (6, .int (nI sz)), (7, .int (nI i))]) hx hb dX9_modeFor_88 hl (by decide) rfl (fun ls hl => ?_)
            refine lv_lload hx hb dX9_modeFor_90 (lv_at hl 2 rfl) ?_
            refine jn_i (wr := [(mm, .inr (9, fl 78 g)), (Mnears, .inl (cJ, 8, .inr (.inl mnears))), (Msames, .inl (cJ, 1024, .inr (.inl msames))), (MsAddresses, .inl (cB, 30000, .inl msAddresses))]) hA hP hD hS [] [0, 1, 2, 3] rfl rfl (by decide) (by decide) (rn_S (As := [.long (lN (a - cN i))]) (rest := []) ⟨hx, hb, hml, hown, hts⟩ (cvS 1 hts zc_yX9_numberSize zi_X9 zs_yX9_numberSize kX9_349 (by decide +kernel) rfl rfl ⟨Nat.le_of_ble_eq_true rfl, Nat.le_of_ble_eq_true rfl⟩) (m_numberSize l D cI cB cJ cR (a - cN i) (by omega) H.size) hK hNw hMk hA hP hD hS [] rfl rfl (by decide) rfl hl.1 rfl (Nat.le_of_ble_eq_true rfl) dX9_modeFor_92 ⟨Nat.le_of_ble_eq_true rfl, Nat.le_of_ble_eq_true rfl⟩) (fun r_25 u9 H locs w_26 hP hD hS => ?_)
            try dsimp only at w_26
            have hP : va_P D vwCl [(mm, .inr (9, fl 78 g)), (Mnears, .inl (cJ, 8, .inr (.inl mnears))), (Msames, .inl (cJ, 1024, .inr (.inl msames))), (MsAddresses, .inl (cB, 30000, .inl msAddresses))] H := hP
            have hD : va_D A0 [(mm, .inr (9, fl 78 g)), (Mnears, .inl (cJ, 8, .inr (.inl mnears))), (Msames, .inl (cJ, 1024, .inr (.inl msames))), (MsAddresses, .inl (cB, 30000, .inl msAddresses))] := hD
            subst w_26
            refine lv_istore (lv' := [(6, .int (nI (nsz (a - cN i)))), (4, .long (lN (a - cN i))), (3, .int (nI (2 + i))), (8, .long (lN (a - cN i))), (0, .ref mm), (1, .int (nI a)), (2, .int (nI hr)), (7, .int (nI i))]) hx hb dX9_modeFor_95 hl (by decide) rfl (fun ls hl => ?_)
            refine lv_iinc (v := nI (i + 1)) (lv' := [(7, .int (nI (i + 1))), (6, .int (nI (nsz (a - cN i)))), (4, .long (lN (a - cN i))), (3, .int (nI (2 + i))), (8, .long (lN (a - cN i))), (0, .ref mm), (1, .int (nI a)), (2, .int (nI hr))]) hx hb dX9_modeFor_97 hl (k := 7) rfl (nI_add i 1) (by decide) rfl (fun ls hl => ?_)
            refine lv_goto (tgt := 43) hx hb dX9_modeFor_100 (by decide) ?_
            exact ih (i + 1) (2 + i) (a - cN i) (nsz (a - cN i)) _ _ ls (by omega) (by omega) (by rw [chM, hcm, if_pos ⟨hle, hge⟩]) (by rw [chV, if_neg (by omega), if_neg (by omega), show 2 + i - 2 = i by omega]) (by omega) hP hD hS (lv_sub hl [5, 6, 7, 3, 2, 1, 0] rfl)
  refine lv_icmp_ge (tgt := 40) hx hb dX9_modeFor_22 (by decide) (fun c_27 => ?_) (fun c_27 => ?_)
  · have hge : ¬ nsz (hr - a) < nsz a := Nat.not_lt.mpr ((nI_leI (by omega) (by omega)).mp c_27)
    refine lv_iconst (v := 0) hx hb dX9_modeFor_40 (by decide) ?_
    refine ri (y := nI 0) (nI_0.symm) ?_
    refine lv_istore (lv' := [(7, .int (nI 0)), (6, .int (nI (nsz a))), (4, .long (lN a)), (3, .int (nI 0)), (0, .ref mm), (1, .int (nI a)), (2, .int (nI hr))]) hx hb dX9_modeFor_41 hl (by decide) rfl (fun ls hl => ?_)
    exact loop _ 0 0 a (nsz a) _ _ ls (Nat.lt_succ_self _) (Nat.zero_le _) (by rw [chM, if_neg hge]) (by rw [chV, if_pos rfl]) (by omega) hP hD hS (lv_sub hl [4, 5, 6, 3, 2, 1, 0] rfl)
  · have hge : nsz (hr - a) < nsz a := Nat.not_le.mp (fun q => c_27 (nI_le q (by omega)))
    refine lv_iconst (v := 1) hx hb dX9_modeFor_25 (by decide) ?_
    refine ri (y := nI 1) (rfl) ?_
    refine lv_istore_n (lv' := [(3, .int (nI 1)), (6, .int (nI (nsz a))), (4, .long (lN a)), (0, .ref mm), (1, .int (nI a)), (2, .int (nI hr))]) hx hb dX9_modeFor_26 rfl hl (by decide) rfl (fun ls hl => ?_)
    refine lv_iload_n hx hb dX9_modeFor_27 rfl (lv_at hl 5 rfl) ?_
    refine lv_iload_n hx hb dX9_modeFor_28 rfl (lv_at hl 4 rfl) ?_
    refine lv_isub hx hb dX9_modeFor_29 ?_
    refine ri (y := nI (hr - a)) (pk_sub (by omega)) ?_
    refine lv_i2l hx hb dX9_modeFor_30 (v := (nI (hr - a)).toInt64) rfl ?_
    refine rl (y := lN (hr - a)) (nI_l (by omega)) ?_
    refine lv_lstore (lv' := [(4, .long (lN (hr - a))), (3, .int (nI 1)), (6, .int (nI (nsz a))), (0, .ref mm), (1, .int (nI a)), (2, .int (nI hr))]) hx hb dX9_modeFor_31 hl (by decide) rfl (fun ls hl => ?_)
    refine lv_lload hx hb dX9_modeFor_33 (lv_at hl 0 rfl) ?_
    refine jn_i (wr := [(mm, .inr (9, fl 78 g)), (Mnears, .inl (cJ, 8, .inr (.inl mnears))), (Msames, .inl (cJ, 1024, .inr (.inl msames))), (MsAddresses, .inl (cB, 30000, .inl msAddresses))]) hA hP hD hS [] [0, 1, 2, 3] rfl rfl (by decide) (by decide) (rn_S (As := [.long (lN (hr - a))]) (rest := []) ⟨hx, hb, hml, hown, hts⟩ (cvS 1 hts zc_yX9_numberSize zi_X9 zs_yX9_numberSize kX9_349 (by decide +kernel) rfl rfl ⟨Nat.le_of_ble_eq_true rfl, Nat.le_of_ble_eq_true rfl⟩) (m_numberSize l D cI cB cJ cR (hr - a) (by omega) H.size) hK hNw hMk hA hP hD hS [] rfl rfl (by decide) rfl hl.1 rfl (Nat.le_of_ble_eq_true rfl) dX9_modeFor_35 ⟨Nat.le_of_ble_eq_true rfl, Nat.le_of_ble_eq_true rfl⟩) (fun r_28 u9 H locs w_29 hP hD hS => ?_)
    try dsimp only at w_29
    have hP : va_P D vwCl [(mm, .inr (9, fl 78 g)), (Mnears, .inl (cJ, 8, .inr (.inl mnears))), (Msames, .inl (cJ, 1024, .inr (.inl msames))), (MsAddresses, .inl (cB, 30000, .inl msAddresses))] H := hP
    have hD : va_D A0 [(mm, .inr (9, fl 78 g)), (Mnears, .inl (cJ, 8, .inr (.inl mnears))), (Msames, .inl (cJ, 1024, .inr (.inl msames))), (MsAddresses, .inl (cB, 30000, .inl msAddresses))] := hD
    subst w_29
    refine lv_istore (lv' := [(6, .int (nI (nsz (hr - a)))), (4, .long (lN (hr - a))), (3, .int (nI 1)), (0, .ref mm), (1, .int (nI a)), (2, .int (nI hr))]) hx hb dX9_modeFor_38 hl (by decide) rfl (fun ls hl => ?_)
    refine lv_iconst (v := 0) hx hb dX9_modeFor_40 (by decide) ?_
    refine ri (y := nI 0) (nI_0.symm) ?_
    refine lv_istore (lv' := [(7, .int (nI 0)), (6, .int (nI (nsz (hr - a)))), (4, .long (lN (hr - a))), (3, .int (nI 1)), (0, .ref mm), (1, .int (nI a)), (2, .int (nI hr))]) hx hb dX9_modeFor_41 hl (by decide) rfl (fun ls hl => ?_)
    exact loop _ 0 1 (hr - a) (nsz (hr - a)) _ _ ls (Nat.lt_succ_self _) (Nat.zero_le _) (by rw [chM, if_pos hge]) (by rw [chV, if_neg (by decide), if_pos rfl]) (by omega) hP hD hS (lv_sub hl [4, 5, 6, 3, 2, 1, 0] rfl)
