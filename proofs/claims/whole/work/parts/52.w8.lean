theorem len1 {L : List Int32} {v : Int32} : L.length + 1 = (L ++ [v]).length := by simp
theorem clL_len {kd sz mk : Nat} {D Cc A : List Int32} : (clL kd sz mk D Cc A).length ≤ 40 + D.length + Cc.length + A.length := by
  unfold clL clS
  simp only [List.length_append, numL_len, List.length_cons, List.length_nil]
  have s1 := nsz_le (nsz mk + 1 + (nsz D.length + nsz Cc.length + nsz A.length) + (D.length + Cc.length + A.length))
  have s2 := nsz_le mk
  have s3 := nsz_le D.length
  have s4 := nsz_le Cc.length
  have s5 := nsz_le A.length
  have s6 := nsz_le sz
  have s7 := nsz_le 0
  split
  · simp only [List.length_nil]; omega
  · simp only [List.length_append, numL_len]; omega
theorem wL_re {N : Nat} {f : Nat → Int32} {L : List Int32} {v : Int32} (h : wL N f (L ++ [v.toInt8.toInt32])) : wL N f (L ++ [v]) := by
  intro j hj hn
  have h9 := h j (by rw [List.length_append] at hj ⊢; exact hj) hn
  rw [List.length_append] at hj
  have hj : j < L.length + 1 := hj
  by_cases q : j = L.length
  · subst q
    rw [h9]
    simp
  · rw [h9]; simp [List.getD, List.getElem?_append_left (show j < L.length by omega)]
set_option maxHeartbeats 4000000 in
set_option maxRecDepth 100000 in
theorem m_putWindow (l : Launch) (D : va_G) (cI cB cJ cR : ClassId) (mm : Nat) (g : Nat → Value) (Mw : Nat) (MsData : Nat) (MsCodes : Nat) (MsAddresses : Nat) (mw : Nat → Int32) (msData : Nat → Int32) (msCodes : Nat → Int32) (msAddresses : Nat → Int32) (sg : Nat) (en : Nat) (kd : Nat) (Dl : List Int32) (Cl : List Int32) (Al : List Int32) (OL : List Int32) (g_uBegin : g 65 = .int (nI sg)) (g_uEnd : g 66 = .int (nI en)) (g_sDatas : g 59 = .int (nI Dl.length)) (g_sCode : g 61 = .int (nI Cl.length)) (g_sAddress : g 63 = .int (nI Al.length)) (g_wrote : g 57 = .int (nI OL.length)) (g_w : g 56 = .ref Mw) (g_sData : g 58 = .ref MsData) (g_sCodes : g 60 = .ref MsCodes) (g_sAddresses : g 62 = .ref MsAddresses) (hse : sg ≤ en ∧ en ≤ 8000) (hkd : kd < 256) (hln : OL.length < 2 ^ 20) (hw : wL 30000 mw OL) (hD_ : wL 8000 msData Dl) (hC : wL 30000 msCodes Cl) (hA_ : wL 30000 msAddresses Al) (hDl : Dl.length ≤ 4000) (hCl : Cl.length ≤ 29000) (hAl : Al.length ≤ 29000) : CMv l yX9_putWindow cX9_putWindow 4 none ({ frames := 2, cells := 0, slots := 0, locals := 45 }) D (tyA cI cB cJ cR) 0 0 [.ref mm, .int (nI kd)] [(mm, .inr (9, fl 78 g)), (Mw, .inl (cB, 30000, .inl mw)), (MsData, .inl (cB, 8000, .inl msData)), (MsCodes, .inl (cB, 30000, .inl msCodes)), (MsAddresses, .inl (cB, 30000, .inl msAddresses))] (fun (u9 : (Nat → Value) × (Nat → Int32)) => match u9 with | (g9, w2) => frm [57] g g9 ∧ g9 57 = .int (nI (OL ++ clL kd sg (en - sg) Dl Cl Al).length) ∧ wL 30000 w2 (OL ++ clL kd sg (en - sg) Dl Cl Al)) (fun (u9 : (Nat → Value) × (Nat → Int32)) => match u9 with | (g9, w2) => [(mm, .inr (9, fl 78 g9)), (Mw, .inl (cB, 30000, .inl w2)), (MsData, .inl (cB, 8000, .inl msData)), (MsCodes, .inl (cB, 30000, .inl msCodes)), (MsAddresses, .inl (cB, 30000, .inl msAddresses))]) := by
  refine st_v (cc := cX9_putWindow) (maxL := 4) (by decide) (Nat.le_of_ble_eq_true rfl) ?_
  intro p0 e0 s0 m0 below meth c0 A0 Q0 hBD hret hP hD hS ls hl
  obtain ⟨hx, hb, hml, hown, hts, hnm, hK, hNw, hMk, hA⟩ := hBD
  have hl : lv_has ls 4 [(0, .ref mm), (1, .int (nI kd))] := hl
  have hP : va_P D vwCl [(mm, .inr (9, fl 78 g)), (Mw, .inl (cB, 30000, .inl mw)), (MsData, .inl (cB, 8000, .inl msData)), (MsCodes, .inl (cB, 30000, .inl msCodes)), (MsAddresses, .inl (cB, 30000, .inl msAddresses))] s0.heap := hP
  have hD : va_D A0 [(mm, .inr (9, fl 78 g)), (Mw, .inl (cB, 30000, .inl mw)), (MsData, .inl (cB, 8000, .inl msData)), (MsCodes, .inl (cB, 30000, .inl msCodes)), (MsAddresses, .inl (cB, 30000, .inl msAddresses))] := hD
  have z1 := nsz_le Dl.length
  have z2 := nsz_le Cl.length
  have z3 := nsz_le Al.length
  have z4 := nsz_le (en - sg)
  refine lv_aload_n hx hb dX9_putWindow_0 rfl (lv_at hl 0 rfl) ?_
  refine lv_iload_n hx hb dX9_putWindow_1 rfl (lv_at hl 1 rfl) ?_
  refine jn_v (wr := [(MsData, .inl (cB, 8000, .inl msData)), (MsCodes, .inl (cB, 30000, .inl msCodes)), (MsAddresses, .inl (cB, 30000, .inl msAddresses))]) hA hP hD hS [0, 1] [2, 3, 4] rfl rfl (by decide) (by decide) (rn_V (As := [.int (nI kd)]) (rest := []) ⟨hx, hb, hml, hown, hts⟩ (cvV 1 hts zc_yX9_put zi_X9 zm_yX9_put zv_yX9_put kX9_353 (by decide +kernel) rfl rfl ⟨Nat.le_of_ble_eq_true rfl, Nat.le_of_ble_eq_true rfl⟩) (m_put l D cI cB cJ cR mm g Mw mw OL (nI kd) (g_wrote) (g_w) (by omega) (hw) s0.heap.size) hK hNw hMk hA hP hD hS [0, 1] rfl rfl (by decide) 0 rfl rfl rfl rfl hl.1 rfl (Nat.le_of_ble_eq_true rfl) dX9_putWindow_2 ⟨Nat.le_of_ble_eq_true rfl, Nat.le_of_ble_eq_true rfl⟩) (fun u9 H locs hx_wa hP hD hS => ?_)
  obtain ⟨g_1, wa⟩ := u9
  try dsimp only at hx_wa
  have hP : va_P D vwCl [(MsData, .inl (cB, 8000, .inl msData)), (MsCodes, .inl (cB, 30000, .inl msCodes)), (MsAddresses, .inl (cB, 30000, .inl msAddresses)), (mm, .inr (9, fl 78 g_1)), (Mw, .inl (cB, 30000, .inl wa))] H := hP
  have hD : va_D A0 [(MsData, .inl (cB, 8000, .inl msData)), (MsCodes, .inl (cB, 30000, .inl msCodes)), (MsAddresses, .inl (cB, 30000, .inl msAddresses)), (mm, .inr (9, fl 78 g_1)), (Mw, .inl (cB, 30000, .inl wa))] := hD
  obtain ⟨f_hx_wa, wrote_hx_wa, hx_wa_⟩ := hx_wa
  have k65_g_1 : g_1 65 = .int (nI sg) := (f_hx_wa 65 (by decide)).trans (g_uBegin)
  have k66_g_1 : g_1 66 = .int (nI en) := (f_hx_wa 66 (by decide)).trans (g_uEnd)
  have k59_g_1 : g_1 59 = .int (nI Dl.length) := (f_hx_wa 59 (by decide)).trans (g_sDatas)
  have k61_g_1 : g_1 61 = .int (nI Cl.length) := (f_hx_wa 61 (by decide)).trans (g_sCode)
  have k63_g_1 : g_1 63 = .int (nI Al.length) := (f_hx_wa 63 (by decide)).trans (g_sAddress)
  have k56_g_1 : g_1 56 = .ref Mw := (f_hx_wa 56 (by decide)).trans (g_w)
  have k58_g_1 : g_1 58 = .ref MsData := (f_hx_wa 58 (by decide)).trans (g_sData)
  have k60_g_1 : g_1 60 = .ref MsCodes := (f_hx_wa 60 (by decide)).trans (g_sCodes)
  have k62_g_1 : g_1 62 = .ref MsAddresses := (f_hx_wa 62 (by decide)).trans (g_sAddresses)
  have fr_g_1 : frm [57] g g_1 := frm_tr frm_refl f_hx_wa (by decide)
  have kx_3 : g_1 57 = .int (nI (OL ++ [nI kd]).length) := by have h9 : g_1 57 = .int (nI (OL.length + 1)) := wrote_hx_wa; rw [h9]; exact congrArg Value.int (congrArg nI len1)
  refine lv_iload_n hx hb dX9_putWindow_5 rfl (lv_at hl 1 rfl) ?_
  have JR : ∀ (gj_JR : Nat → Value) (w5 : Nat → Int32) (H : Heap) (locs : List Loc) (ls : Array Slot), (frm [57] g gj_JR) → (gj_JR 57 = .int (nI (OL ++ clS kd sg).length)) → (wL 30000 w5 (OL ++ clS kd sg)) → va_P D vwCl [(mm, .inr (9, fl 78 gj_JR)), (MsData, .inl (cB, 8000, .inl msData)), (MsCodes, .inl (cB, 30000, .inl msCodes)), (MsAddresses, .inl (cB, 30000, .inl msAddresses)), (Mw, .inl (cB, 30000, .inl w5))] H → va_D A0 [(mm, .inr (9, fl 78 gj_JR)), (MsData, .inl (cB, 8000, .inl msData)), (MsCodes, .inl (cB, 30000, .inl msCodes)), (MsAddresses, .inl (cB, 30000, .inl msAddresses)), (Mw, .inl (cB, 30000, .inl w5))] → va_S A0 s0.heap H locs → lv_has ls 4 [(0, .ref mm), (1, .int (nI kd))] → W p0 l e0 ({ frames := 2, cells := 0, slots := 0, locals := 45 }) s0 m0 ([.ref mm, .int (nI kd)] : List Value).toArray below meth c0 H locs 0 0 Q0 (F0 m0 23 ls []) := by
    intro gj_JR w5 H locs ls hf_JR k_wrote_JR hr5 hP hD hS hl
    have s6 := nsz_le sg
    have s7 := nsz_le 0
    have hcs : (clS kd sg).length ≤ 20 := by unfold clS; split <;> simp [numL_len] <;> omega
    refine lv_aload_n hx hb dX9_putWindow_23 rfl (lv_at hl 0 rfl) ?_
    refine fx_get (D := D) (ci := 9) (v := .int (nI en)) (C := RX9) (T := TX9) (N := 78) hx hb hts in_X9 hown hK hP 0 rfl rfl 66 (by decide) (hts _ kX9_362) (fun _ h9 => h9) ((hf_JR 66 (by decide)).trans g_uEnd) dX9_putWindow_24 ?_
    refine lv_aload_n hx hb dX9_putWindow_27 rfl (lv_at hl 0 rfl) ?_
    refine fx_get (D := D) (ci := 9) (v := .int (nI sg)) (C := RX9) (T := TX9) (N := 78) hx hb hts in_X9 hown hK hP 0 rfl rfl 65 (by decide) (hts _ kX9_365) (fun _ h9 => h9) ((hf_JR 65 (by decide)).trans g_uBegin) dX9_putWindow_28 ?_
    refine lv_isub hx hb dX9_putWindow_31 ?_
    refine ri (y := nI (en - sg)) (pk_sub hse.1) ?_
    refine lv_istore_n (lv' := [(2, .int (nI (en - sg))), (0, .ref mm), (1, .int (nI kd))]) hx hb dX9_putWindow_32 rfl hl (by decide) rfl (fun ls hl => ?_)
    refine lv_aload_n hx hb dX9_putWindow_33 rfl (lv_at hl 1 rfl) ?_
    refine lv_iload_n hx hb dX9_putWindow_34 rfl (lv_at hl 0 rfl) ?_
    refine lv_i2l hx hb dX9_putWindow_35 (v := (nI (en - sg)).toInt64) rfl ?_
    refine rl (y := lN (en - sg)) (nI_l (by omega)) ?_
    refine jn_i (wr := [(mm, .inr (9, fl 78 gj_JR)), (MsData, .inl (cB, 8000, .inl msData)), (MsCodes, .inl (cB, 30000, .inl msCodes)), (MsAddresses, .inl (cB, 30000, .inl msAddresses)), (Mw, .inl (cB, 30000, .inl w5))]) hA hP hD hS [] [0, 1, 2, 3, 4] rfl rfl (by decide) (by decide) (rn_S (As := [.long (lN (en - sg))]) (rest := [.ref mm]) ⟨hx, hb, hml, hown, hts⟩ (cvS 1 hts zc_yX9_numberSize zi_X9 zs_yX9_numberSize kX9_349 (by decide +kernel) rfl rfl ⟨Nat.le_of_ble_eq_true rfl, Nat.le_of_ble_eq_true rfl⟩) (m_numberSize l D cI cB cJ cR (en - sg) (by omega) H.size) hK hNw hMk hA hP hD hS [] rfl rfl (by decide) rfl hl.1 rfl (Nat.le_of_ble_eq_true rfl) dX9_putWindow_36 ⟨Nat.le_of_ble_eq_true rfl, Nat.le_of_ble_eq_true rfl⟩) (fun r_4 u9 H locs w_5 hP hD hS => ?_)
    try dsimp only at w_5
    have hP : va_P D vwCl [(mm, .inr (9, fl 78 gj_JR)), (MsData, .inl (cB, 8000, .inl msData)), (MsCodes, .inl (cB, 30000, .inl msCodes)), (MsAddresses, .inl (cB, 30000, .inl msAddresses)), (Mw, .inl (cB, 30000, .inl w5))] H := hP
    have hD : va_D A0 [(mm, .inr (9, fl 78 gj_JR)), (MsData, .inl (cB, 8000, .inl msData)), (MsCodes, .inl (cB, 30000, .inl msCodes)), (MsAddresses, .inl (cB, 30000, .inl msAddresses)), (Mw, .inl (cB, 30000, .inl w5))] := hD
    subst w_5
    refine lv_iconst (v := 1) hx hb dX9_putWindow_39 (by decide) ?_
    refine lv_iadd hx hb dX9_putWindow_40 ?_
    refine ri (y := nI ((nsz (en - sg)) + 1)) (nI_add (nsz (en - sg)) 1) ?_
    refine lv_aload_n hx hb dX9_putWindow_41 rfl (lv_at hl 1 rfl) ?_
    refine fx_get (D := D) (ci := 9) (v := .int (nI Dl.length)) (C := RX9) (T := TX9) (N := 78) hx hb hts in_X9 hown hK hP 0 rfl rfl 59 (by decide) (hts _ kX9_388) (fun _ h9 => h9) ((hf_JR 59 (by decide)).trans g_sDatas) dX9_putWindow_42 ?_
    refine lv_i2l hx hb dX9_putWindow_45 (v := (nI Dl.length).toInt64) rfl ?_
    refine rl (y := lN Dl.length) (nI_l (by omega)) ?_
    refine jn_i (wr := [(mm, .inr (9, fl 78 gj_JR)), (MsData, .inl (cB, 8000, .inl msData)), (MsCodes, .inl (cB, 30000, .inl msCodes)), (MsAddresses, .inl (cB, 30000, .inl msAddresses)), (Mw, .inl (cB, 30000, .inl w5))]) hA hP hD hS [] [0, 1, 2, 3, 4] rfl rfl (by decide) (by decide) (rn_S (As := [.long (lN Dl.length)]) (rest := [.int (nI ((nsz (en - sg)) + 1)), .ref mm]) ⟨hx, hb, hml, hown, hts⟩ (cvS 1 hts zc_yX9_numberSize zi_X9 zs_yX9_numberSize kX9_349 (by decide +kernel) rfl rfl ⟨Nat.le_of_ble_eq_true rfl, Nat.le_of_ble_eq_true rfl⟩) (m_numberSize l D cI cB cJ cR Dl.length (by omega) H.size) hK hNw hMk hA hP hD hS [] rfl rfl (by decide) rfl hl.1 rfl (Nat.le_of_ble_eq_true rfl) dX9_putWindow_46 ⟨Nat.le_of_ble_eq_true rfl, Nat.le_of_ble_eq_true rfl⟩) (fun r_6 u9 H locs w_7 hP hD hS => ?_)
    try dsimp only at w_7
    have hP : va_P D vwCl [(mm, .inr (9, fl 78 gj_JR)), (MsData, .inl (cB, 8000, .inl msData)), (MsCodes, .inl (cB, 30000, .inl msCodes)), (MsAddresses, .inl (cB, 30000, .inl msAddresses)), (Mw, .inl (cB, 30000, .inl w5))] H := hP
    have hD : va_D A0 [(mm, .inr (9, fl 78 gj_JR)), (MsData, .inl (cB, 8000, .inl msData)), (MsCodes, .inl (cB, 30000, .inl msCodes)), (MsAddresses, .inl (cB, 30000, .inl msAddresses)), (Mw, .inl (cB, 30000, .inl w5))] := hD
    subst w_7
    refine lv_iadd hx hb dX9_putWindow_49 ?_
    refine ri (y := nI (((nsz (en - sg)) + 1) + (nsz Dl.length))) (nI_add ((nsz (en - sg)) + 1) (nsz Dl.length)) ?_
    refine lv_aload_n hx hb dX9_putWindow_50 rfl (lv_at hl 1 rfl) ?_
    refine fx_get (D := D) (ci := 9) (v := .int (nI Cl.length)) (C := RX9) (T := TX9) (N := 78) hx hb hts in_X9 hown hK hP 0 rfl rfl 61 (by decide) (hts _ kX9_385) (fun _ h9 => h9) ((hf_JR 61 (by decide)).trans g_sCode) dX9_putWindow_51 ?_
    refine lv_i2l hx hb dX9_putWindow_54 (v := (nI Cl.length).toInt64) rfl ?_
    refine rl (y := lN Cl.length) (nI_l (by omega)) ?_
    refine jn_i (wr := [(mm, .inr (9, fl 78 gj_JR)), (MsData, .inl (cB, 8000, .inl msData)), (MsCodes, .inl (cB, 30000, .inl msCodes)), (MsAddresses, .inl (cB, 30000, .inl msAddresses)), (Mw, .inl (cB, 30000, .inl w5))]) hA hP hD hS [] [0, 1, 2, 3, 4] rfl rfl (by decide) (by decide) (rn_S (As := [.long (lN Cl.length)]) (rest := [.int (nI (((nsz (en - sg)) + 1) + (nsz Dl.length))), .ref mm]) ⟨hx, hb, hml, hown, hts⟩ (cvS 1 hts zc_yX9_numberSize zi_X9 zs_yX9_numberSize kX9_349 (by decide +kernel) rfl rfl ⟨Nat.le_of_ble_eq_true rfl, Nat.le_of_ble_eq_true rfl⟩) (m_numberSize l D cI cB cJ cR Cl.length (by omega) H.size) hK hNw hMk hA hP hD hS [] rfl rfl (by decide) rfl hl.1 rfl (Nat.le_of_ble_eq_true rfl) dX9_putWindow_55 ⟨Nat.le_of_ble_eq_true rfl, Nat.le_of_ble_eq_true rfl⟩) (fun r_8 u9 H locs w_9 hP hD hS => ?_)
    try dsimp only at w_9
    have hP : va_P D vwCl [(mm, .inr (9, fl 78 gj_JR)), (MsData, .inl (cB, 8000, .inl msData)), (MsCodes, .inl (cB, 30000, .inl msCodes)), (MsAddresses, .inl (cB, 30000, .inl msAddresses)), (Mw, .inl (cB, 30000, .inl w5))] H := hP
    have hD : va_D A0 [(mm, .inr (9, fl 78 gj_JR)), (MsData, .inl (cB, 8000, .inl msData)), (MsCodes, .inl (cB, 30000, .inl msCodes)), (MsAddresses, .inl (cB, 30000, .inl msAddresses)), (Mw, .inl (cB, 30000, .inl w5))] := hD
    subst w_9
    refine lv_iadd hx hb dX9_putWindow_58 ?_
    refine ri (y := nI ((((nsz (en - sg)) + 1) + (nsz Dl.length)) + (nsz Cl.length))) (nI_add (((nsz (en - sg)) + 1) + (nsz Dl.length)) (nsz Cl.length)) ?_
    refine lv_aload_n hx hb dX9_putWindow_59 rfl (lv_at hl 1 rfl) ?_
    refine fx_get (D := D) (ci := 9) (v := .int (nI Al.length)) (C := RX9) (T := TX9) (N := 78) hx hb hts in_X9 hown hK hP 0 rfl rfl 63 (by decide) (hts _ kX9_375) (fun _ h9 => h9) ((hf_JR 63 (by decide)).trans g_sAddress) dX9_putWindow_60 ?_
    refine lv_i2l hx hb dX9_putWindow_63 (v := (nI Al.length).toInt64) rfl ?_
    refine rl (y := lN Al.length) (nI_l (by omega)) ?_
    refine jn_i (wr := [(mm, .inr (9, fl 78 gj_JR)), (MsData, .inl (cB, 8000, .inl msData)), (MsCodes, .inl (cB, 30000, .inl msCodes)), (MsAddresses, .inl (cB, 30000, .inl msAddresses)), (Mw, .inl (cB, 30000, .inl w5))]) hA hP hD hS [] [0, 1, 2, 3, 4] rfl rfl (by decide) (by decide) (rn_S (As := [.long (lN Al.length)]) (rest := [.int (nI ((((nsz (en - sg)) + 1) + (nsz Dl.length)) + (nsz Cl.length))), .ref mm]) ⟨hx, hb, hml, hown, hts⟩ (cvS 1 hts zc_yX9_numberSize zi_X9 zs_yX9_numberSize kX9_349 (by decide +kernel) rfl rfl ⟨Nat.le_of_ble_eq_true rfl, Nat.le_of_ble_eq_true rfl⟩) (m_numberSize l D cI cB cJ cR Al.length (by omega) H.size) hK hNw hMk hA hP hD hS [] rfl rfl (by decide) rfl hl.1 rfl (Nat.le_of_ble_eq_true rfl) dX9_putWindow_64 ⟨Nat.le_of_ble_eq_true rfl, Nat.le_of_ble_eq_true rfl⟩) (fun r_10 u9 H locs w_11 hP hD hS => ?_)
    try dsimp only at w_11
    have hP : va_P D vwCl [(mm, .inr (9, fl 78 gj_JR)), (MsData, .inl (cB, 8000, .inl msData)), (MsCodes, .inl (cB, 30000, .inl msCodes)), (MsAddresses, .inl (cB, 30000, .inl msAddresses)), (Mw, .inl (cB, 30000, .inl w5))] H := hP
    have hD : va_D A0 [(mm, .inr (9, fl 78 gj_JR)), (MsData, .inl (cB, 8000, .inl msData)), (MsCodes, .inl (cB, 30000, .inl msCodes)), (MsAddresses, .inl (cB, 30000, .inl msAddresses)), (Mw, .inl (cB, 30000, .inl w5))] := hD
    subst w_11
    refine lv_iadd hx hb dX9_putWindow_67 ?_
    refine ri (y := nI (((((nsz (en - sg)) + 1) + (nsz Dl.length)) + (nsz Cl.length)) + (nsz Al.length))) (nI_add ((((nsz (en - sg)) + 1) + (nsz Dl.length)) + (nsz Cl.length)) (nsz Al.length)) ?_
    refine lv_aload_n hx hb dX9_putWindow_68 rfl (lv_at hl 1 rfl) ?_
    refine fx_get (D := D) (ci := 9) (v := .int (nI Dl.length)) (C := RX9) (T := TX9) (N := 78) hx hb hts in_X9 hown hK hP 0 rfl rfl 59 (by decide) (hts _ kX9_388) (fun _ h9 => h9) ((hf_JR 59 (by decide)).trans g_sDatas) dX9_putWindow_69 ?_
    refine lv_iadd hx hb dX9_putWindow_72 ?_
    refine ri (y := nI ((((((nsz (en - sg)) + 1) + (nsz Dl.length)) + (nsz Cl.length)) + (nsz Al.length)) + Dl.length)) (nI_add (((((nsz (en - sg)) + 1) + (nsz Dl.length)) + (nsz Cl.length)) + (nsz Al.length)) Dl.length) ?_
    refine lv_aload_n hx hb dX9_putWindow_73 rfl (lv_at hl 1 rfl) ?_
    refine fx_get (D := D) (ci := 9) (v := .int (nI Cl.length)) (C := RX9) (T := TX9) (N := 78) hx hb hts in_X9 hown hK hP 0 rfl rfl 61 (by decide) (hts _ kX9_385) (fun _ h9 => h9) ((hf_JR 61 (by decide)).trans g_sCode) dX9_putWindow_74 ?_
    refine lv_iadd hx hb dX9_putWindow_77 ?_
    refine ri (y := nI (((((((nsz (en - sg)) + 1) + (nsz Dl.length)) + (nsz Cl.length)) + (nsz Al.length)) + Dl.length) + Cl.length)) (nI_add ((((((nsz (en - sg)) + 1) + (nsz Dl.length)) + (nsz Cl.length)) + (nsz Al.length)) + Dl.length) Cl.length) ?_
    refine lv_aload_n hx hb dX9_putWindow_78 rfl (lv_at hl 1 rfl) ?_
    refine fx_get (D := D) (ci := 9) (v := .int (nI Al.length)) (C := RX9) (T := TX9) (N := 78) hx hb hts in_X9 hown hK hP 0 rfl rfl 63 (by decide) (hts _ kX9_375) (fun _ h9 => h9) ((hf_JR 63 (by decide)).trans g_sAddress) dX9_putWindow_79 ?_
    refine lv_iadd hx hb dX9_putWindow_82 ?_
    refine ri (y := nI ((((((((nsz (en - sg)) + 1) + (nsz Dl.length)) + (nsz Cl.length)) + (nsz Al.length)) + Dl.length) + Cl.length) + Al.length)) (nI_add (((((((nsz (en - sg)) + 1) + (nsz Dl.length)) + (nsz Cl.length)) + (nsz Al.length)) + Dl.length) + Cl.length) Al.length) ?_
    have z9 := nsz_le (nsz (en - sg) + 1 + (nsz Dl.length + nsz Cl.length + nsz Al.length) + (Dl.length + Cl.length + Al.length))
    refine ri (y := nI (nsz (en - sg) + 1 + (nsz Dl.length + nsz Cl.length + nsz Al.length) + (Dl.length + Cl.length + Al.length))) (by first | (congr 1; omega) | (simp only [nI_add]; congr 1; omega)) ?_
    refine lv_i2l hx hb dX9_putWindow_83 (v := (nI (nsz (en - sg) + 1 + (nsz Dl.length + nsz Cl.length + nsz Al.length) + (Dl.length + Cl.length + Al.length))).toInt64) rfl ?_
    refine rl (y := lN (nsz (en - sg) + 1 + (nsz Dl.length + nsz Cl.length + nsz Al.length) + (Dl.length + Cl.length + Al.length))) (nI_l (by omega)) ?_
    refine jn_v (wr := [(MsData, .inl (cB, 8000, .inl msData)), (MsCodes, .inl (cB, 30000, .inl msCodes)), (MsAddresses, .inl (cB, 30000, .inl msAddresses))]) hA hP hD hS [0, 4] [1, 2, 3] rfl rfl (by decide) (by decide) (rn_V (As := [.long (lN (nsz (en - sg) + 1 + (nsz Dl.length + nsz Cl.length + nsz Al.length) + (Dl.length + Cl.length + Al.length)))]) (rest := []) ⟨hx, hb, hml, hown, hts⟩ (cvV 1 hts zc_yX9_putNumber zi_X9 zm_yX9_putNumber zv_yX9_putNumber kX9_400 (by decide +kernel) rfl rfl ⟨Nat.le_of_ble_eq_true rfl, Nat.le_of_ble_eq_true rfl⟩) (m_putNumber l D cI cB cJ cR mm gj_JR Mw w5 (OL ++ clS kd sg) (nsz (en - sg) + 1 + (nsz Dl.length + nsz Cl.length + nsz Al.length) + (Dl.length + Cl.length + Al.length)) (k_wrote_JR) ((hf_JR 56 (by decide)).trans g_w) (by simp [numL_len]; omega) (hr5) (by omega) H.size) hK hNw hMk hA hP hD hS [0, 4] rfl rfl (by decide) 0 rfl rfl rfl rfl hl.1 rfl (Nat.le_of_ble_eq_true rfl) dX9_putWindow_84 ⟨Nat.le_of_ble_eq_true rfl, Nat.le_of_ble_eq_true rfl⟩) (fun u9 H locs hx_wb hP hD hS => ?_)
    obtain ⟨g_12, wb⟩ := u9
    try dsimp only at hx_wb
    have hP : va_P D vwCl [(MsData, .inl (cB, 8000, .inl msData)), (MsCodes, .inl (cB, 30000, .inl msCodes)), (MsAddresses, .inl (cB, 30000, .inl msAddresses)), (mm, .inr (9, fl 78 g_12)), (Mw, .inl (cB, 30000, .inl wb))] H := hP
    have hD : va_D A0 [(MsData, .inl (cB, 8000, .inl msData)), (MsCodes, .inl (cB, 30000, .inl msCodes)), (MsAddresses, .inl (cB, 30000, .inl msAddresses)), (mm, .inr (9, fl 78 g_12)), (Mw, .inl (cB, 30000, .inl wb))] := hD
    obtain ⟨f_hx_wb, wrote_hx_wb, hx_wb_⟩ := hx_wb
    have k65_g_12 : g_12 65 = .int (nI sg) := (f_hx_wb 65 (by decide)).trans ((hf_JR 65 (by decide)).trans g_uBegin)
    have k66_g_12 : g_12 66 = .int (nI en) := (f_hx_wb 66 (by decide)).trans ((hf_JR 66 (by decide)).trans g_uEnd)
    have k59_g_12 : g_12 59 = .int (nI Dl.length) := (f_hx_wb 59 (by decide)).trans ((hf_JR 59 (by decide)).trans g_sDatas)
    have k61_g_12 : g_12 61 = .int (nI Cl.length) := (f_hx_wb 61 (by decide)).trans ((hf_JR 61 (by decide)).trans g_sCode)
    have k63_g_12 : g_12 63 = .int (nI Al.length) := (f_hx_wb 63 (by decide)).trans ((hf_JR 63 (by decide)).trans g_sAddress)
    have k56_g_12 : g_12 56 = .ref Mw := (f_hx_wb 56 (by decide)).trans ((hf_JR 56 (by decide)).trans g_w)
    have k58_g_12 : g_12 58 = .ref MsData := (f_hx_wb 58 (by decide)).trans ((hf_JR 58 (by decide)).trans g_sData)
    have k60_g_12 : g_12 60 = .ref MsCodes := (f_hx_wb 60 (by decide)).trans ((hf_JR 60 (by decide)).trans g_sCodes)
    have k62_g_12 : g_12 62 = .ref MsAddresses := (f_hx_wb 62 (by decide)).trans ((hf_JR 62 (by decide)).trans g_sAddresses)
    have fr_g_12 : frm [57] g g_12 := frm_tr hf_JR f_hx_wb (by decide)
    refine lv_aload_n hx hb dX9_putWindow_87 rfl (lv_at hl 1 rfl) ?_
    refine lv_iload_n hx hb dX9_putWindow_88 rfl (lv_at hl 0 rfl) ?_
    refine lv_i2l hx hb dX9_putWindow_89 (v := (nI (en - sg)).toInt64) rfl ?_
    refine rl (y := lN (en - sg)) (nI_l (by omega)) ?_
    refine jn_v (wr := [(MsData, .inl (cB, 8000, .inl msData)), (MsCodes, .inl (cB, 30000, .inl msCodes)), (MsAddresses, .inl (cB, 30000, .inl msAddresses))]) hA hP hD hS [3, 4] [0, 1, 2] rfl rfl (by decide) (by decide) (rn_V (As := [.long (lN (en - sg))]) (rest := []) ⟨hx, hb, hml, hown, hts⟩ (cvV 1 hts zc_yX9_putNumber zi_X9 zm_yX9_putNumber zv_yX9_putNumber kX9_400 (by decide +kernel) rfl rfl ⟨Nat.le_of_ble_eq_true rfl, Nat.le_of_ble_eq_true rfl⟩) (m_putNumber l D cI cB cJ cR mm g_12 Mw wb ((OL ++ clS kd sg) ++ numL (nsz (en - sg) + 1 + (nsz Dl.length + nsz Cl.length + nsz Al.length) + (Dl.length + Cl.length + Al.length))) (en - sg) (wrote_hx_wb) (k56_g_12) (by simp [numL_len]; omega) (hx_wb_) (by omega) H.size) hK hNw hMk hA hP hD hS [3, 4] rfl rfl (by decide) 0 rfl rfl rfl rfl hl.1 rfl (Nat.le_of_ble_eq_true rfl) dX9_putWindow_90 ⟨Nat.le_of_ble_eq_true rfl, Nat.le_of_ble_eq_true rfl⟩) (fun u9 H locs hx_wc hP hD hS => ?_)
    obtain ⟨g_14, wc⟩ := u9
    try dsimp only at hx_wc
    have hP : va_P D vwCl [(MsData, .inl (cB, 8000, .inl msData)), (MsCodes, .inl (cB, 30000, .inl msCodes)), (MsAddresses, .inl (cB, 30000, .inl msAddresses)), (mm, .inr (9, fl 78 g_14)), (Mw, .inl (cB, 30000, .inl wc))] H := hP
    have hD : va_D A0 [(MsData, .inl (cB, 8000, .inl msData)), (MsCodes, .inl (cB, 30000, .inl msCodes)), (MsAddresses, .inl (cB, 30000, .inl msAddresses)), (mm, .inr (9, fl 78 g_14)), (Mw, .inl (cB, 30000, .inl wc))] := hD
    obtain ⟨f_hx_wc, wrote_hx_wc, hx_wc_⟩ := hx_wc
    have k65_g_14 : g_14 65 = .int (nI sg) := (f_hx_wc 65 (by decide)).trans (k65_g_12)
    have k66_g_14 : g_14 66 = .int (nI en) := (f_hx_wc 66 (by decide)).trans (k66_g_12)
    have k59_g_14 : g_14 59 = .int (nI Dl.length) := (f_hx_wc 59 (by decide)).trans (k59_g_12)
    have k61_g_14 : g_14 61 = .int (nI Cl.length) := (f_hx_wc 61 (by decide)).trans (k61_g_12)
    have k63_g_14 : g_14 63 = .int (nI Al.length) := (f_hx_wc 63 (by decide)).trans (k63_g_12)
    have k56_g_14 : g_14 56 = .ref Mw := (f_hx_wc 56 (by decide)).trans (k56_g_12)
    have k58_g_14 : g_14 58 = .ref MsData := (f_hx_wc 58 (by decide)).trans (k58_g_12)
    have k60_g_14 : g_14 60 = .ref MsCodes := (f_hx_wc 60 (by decide)).trans (k60_g_12)
    have k62_g_14 : g_14 62 = .ref MsAddresses := (f_hx_wc 62 (by decide)).trans (k62_g_12)
    have fr_g_14 : frm [57] g g_14 := frm_tr fr_g_12 f_hx_wc (by decide)
    refine lv_aload_n hx hb dX9_putWindow_93 rfl (lv_at hl 1 rfl) ?_
    refine lv_iconst (v := 0) hx hb dX9_putWindow_94 (by decide) ?_
    refine jn_v (wr := [(MsData, .inl (cB, 8000, .inl msData)), (MsCodes, .inl (cB, 30000, .inl msCodes)), (MsAddresses, .inl (cB, 30000, .inl msAddresses))]) hA hP hD hS [3, 4] [0, 1, 2] rfl rfl (by decide) (by decide) (rn_V (As := [.int 0]) (rest := []) ⟨hx, hb, hml, hown, hts⟩ (cvV 1 hts zc_yX9_put zi_X9 zm_yX9_put zv_yX9_put kX9_353 (by decide +kernel) rfl rfl ⟨Nat.le_of_ble_eq_true rfl, Nat.le_of_ble_eq_true rfl⟩) (m_put l D cI cB cJ cR mm g_14 Mw wc (((OL ++ clS kd sg) ++ numL (nsz (en - sg) + 1 + (nsz Dl.length + nsz Cl.length + nsz Al.length) + (Dl.length + Cl.length + Al.length))) ++ numL (en - sg)) 0 (wrote_hx_wc) (k56_g_14) (by simp [numL_len]; omega) (hx_wc_) H.size) hK hNw hMk hA hP hD hS [3, 4] rfl rfl (by decide) 0 rfl rfl rfl rfl hl.1 rfl (Nat.le_of_ble_eq_true rfl) dX9_putWindow_95 ⟨Nat.le_of_ble_eq_true rfl, Nat.le_of_ble_eq_true rfl⟩) (fun u9 H locs hx_wd_ hP hD hS => ?_)
    obtain ⟨g_16, wd_⟩ := u9
    try dsimp only at hx_wd_
    have hP : va_P D vwCl [(MsData, .inl (cB, 8000, .inl msData)), (MsCodes, .inl (cB, 30000, .inl msCodes)), (MsAddresses, .inl (cB, 30000, .inl msAddresses)), (mm, .inr (9, fl 78 g_16)), (Mw, .inl (cB, 30000, .inl wd_))] H := hP
    have hD : va_D A0 [(MsData, .inl (cB, 8000, .inl msData)), (MsCodes, .inl (cB, 30000, .inl msCodes)), (MsAddresses, .inl (cB, 30000, .inl msAddresses)), (mm, .inr (9, fl 78 g_16)), (Mw, .inl (cB, 30000, .inl wd_))] := hD
    obtain ⟨f_hx_wd_, wrote_hx_wd_, hx_wd__⟩ := hx_wd_
    have k65_g_16 : g_16 65 = .int (nI sg) := (f_hx_wd_ 65 (by decide)).trans (k65_g_14)
    have k66_g_16 : g_16 66 = .int (nI en) := (f_hx_wd_ 66 (by decide)).trans (k66_g_14)
    have k59_g_16 : g_16 59 = .int (nI Dl.length) := (f_hx_wd_ 59 (by decide)).trans (k59_g_14)
    have k61_g_16 : g_16 61 = .int (nI Cl.length) := (f_hx_wd_ 61 (by decide)).trans (k61_g_14)
    have k63_g_16 : g_16 63 = .int (nI Al.length) := (f_hx_wd_ 63 (by decide)).trans (k63_g_14)
    have k56_g_16 : g_16 56 = .ref Mw := (f_hx_wd_ 56 (by decide)).trans (k56_g_14)
    have k58_g_16 : g_16 58 = .ref MsData := (f_hx_wd_ 58 (by decide)).trans (k58_g_14)
    have k60_g_16 : g_16 60 = .ref MsCodes := (f_hx_wd_ 60 (by decide)).trans (k60_g_14)
    have k62_g_16 : g_16 62 = .ref MsAddresses := (f_hx_wd_ 62 (by decide)).trans (k62_g_14)
    have fr_g_16 : frm [57] g g_16 := frm_tr fr_g_14 f_hx_wd_ (by decide)
    have kx_18 : g_16 57 = .int (nI ((((OL ++ clS kd sg) ++ numL (nsz (en - sg) + 1 + (nsz Dl.length + nsz Cl.length + nsz Al.length) + (Dl.length + Cl.length + Al.length))) ++ numL (en - sg)) ++ [0]).length) := by have h9 : g_16 57 = .int (nI ((((OL ++ clS kd sg) ++ numL (nsz (en - sg) + 1 + (nsz Dl.length + nsz Cl.length + nsz Al.length) + (Dl.length + Cl.length + Al.length))) ++ numL (en - sg)).length + 1)) := wrote_hx_wd_; rw [h9]; exact congrArg Value.int (congrArg nI len1)
    refine lv_aload_n hx hb dX9_putWindow_98 rfl (lv_at hl 1 rfl) ?_
    refine lv_aload_n hx hb dX9_putWindow_99 rfl (lv_at hl 1 rfl) ?_
    refine fx_get (D := D) (ci := 9) (v := .int (nI Dl.length)) (C := RX9) (T := TX9) (N := 78) hx hb hts in_X9 hown hK hP 3 rfl rfl 59 (by decide) (hts _ kX9_388) (fun _ h9 => h9) (k59_g_16) dX9_putWindow_100 ?_
    refine lv_i2l hx hb dX9_putWindow_103 (v := (nI Dl.length).toInt64) rfl ?_
    refine rl (y := lN Dl.length) (nI_l (by omega)) ?_
    refine jn_v (wr := [(MsData, .inl (cB, 8000, .inl msData)), (MsCodes, .inl (cB, 30000, .inl msCodes)), (MsAddresses, .inl (cB, 30000, .inl msAddresses))]) hA hP hD hS [3, 4] [0, 1, 2] rfl rfl (by decide) (by decide) (rn_V (As := [.long (lN Dl.length)]) (rest := []) ⟨hx, hb, hml, hown, hts⟩ (cvV 1 hts zc_yX9_putNumber zi_X9 zm_yX9_putNumber zv_yX9_putNumber kX9_400 (by decide +kernel) rfl rfl ⟨Nat.le_of_ble_eq_true rfl, Nat.le_of_ble_eq_true rfl⟩) (m_putNumber l D cI cB cJ cR mm g_16 Mw wd_ ((((OL ++ clS kd sg) ++ numL (nsz (en - sg) + 1 + (nsz Dl.length + nsz Cl.length + nsz Al.length) + (Dl.length + Cl.length + Al.length))) ++ numL (en - sg)) ++ [0]) Dl.length (kx_18) (k56_g_16) (by simp [numL_len]; omega) (hx_wd__) (by omega) H.size) hK hNw hMk hA hP hD hS [3, 4] rfl rfl (by decide) 0 rfl rfl rfl rfl hl.1 rfl (Nat.le_of_ble_eq_true rfl) dX9_putWindow_104 ⟨Nat.le_of_ble_eq_true rfl, Nat.le_of_ble_eq_true rfl⟩) (fun u9 H locs hx_we hP hD hS => ?_)
    obtain ⟨g_19, we⟩ := u9
    try dsimp only at hx_we
    have hP : va_P D vwCl [(MsData, .inl (cB, 8000, .inl msData)), (MsCodes, .inl (cB, 30000, .inl msCodes)), (MsAddresses, .inl (cB, 30000, .inl msAddresses)), (mm, .inr (9, fl 78 g_19)), (Mw, .inl (cB, 30000, .inl we))] H := hP
    have hD : va_D A0 [(MsData, .inl (cB, 8000, .inl msData)), (MsCodes, .inl (cB, 30000, .inl msCodes)), (MsAddresses, .inl (cB, 30000, .inl msAddresses)), (mm, .inr (9, fl 78 g_19)), (Mw, .inl (cB, 30000, .inl we))] := hD
    obtain ⟨f_hx_we, wrote_hx_we, hx_we_⟩ := hx_we
    have k65_g_19 : g_19 65 = .int (nI sg) := (f_hx_we 65 (by decide)).trans (k65_g_16)
    have k66_g_19 : g_19 66 = .int (nI en) := (f_hx_we 66 (by decide)).trans (k66_g_16)
    have k59_g_19 : g_19 59 = .int (nI Dl.length) := (f_hx_we 59 (by decide)).trans (k59_g_16)
    have k61_g_19 : g_19 61 = .int (nI Cl.length) := (f_hx_we 61 (by decide)).trans (k61_g_16)
    have k63_g_19 : g_19 63 = .int (nI Al.length) := (f_hx_we 63 (by decide)).trans (k63_g_16)
    have k56_g_19 : g_19 56 = .ref Mw := (f_hx_we 56 (by decide)).trans (k56_g_16)
    have k58_g_19 : g_19 58 = .ref MsData := (f_hx_we 58 (by decide)).trans (k58_g_16)
    have k60_g_19 : g_19 60 = .ref MsCodes := (f_hx_we 60 (by decide)).trans (k60_g_16)
    have k62_g_19 : g_19 62 = .ref MsAddresses := (f_hx_we 62 (by decide)).trans (k62_g_16)
    have fr_g_19 : frm [57] g g_19 := frm_tr fr_g_16 f_hx_we (by decide)
    refine lv_aload_n hx hb dX9_putWindow_107 rfl (lv_at hl 1 rfl) ?_
    refine lv_aload_n hx hb dX9_putWindow_108 rfl (lv_at hl 1 rfl) ?_
    refine fx_get (D := D) (ci := 9) (v := .int (nI Cl.length)) (C := RX9) (T := TX9) (N := 78) hx hb hts in_X9 hown hK hP 3 rfl rfl 61 (by decide) (hts _ kX9_385) (fun _ h9 => h9) (k61_g_19) dX9_putWindow_109 ?_
    refine lv_i2l hx hb dX9_putWindow_112 (v := (nI Cl.length).toInt64) rfl ?_
    refine rl (y := lN Cl.length) (nI_l (by omega)) ?_
    refine jn_v (wr := [(MsData, .inl (cB, 8000, .inl msData)), (MsCodes, .inl (cB, 30000, .inl msCodes)), (MsAddresses, .inl (cB, 30000, .inl msAddresses))]) hA hP hD hS [3, 4] [0, 1, 2] rfl rfl (by decide) (by decide) (rn_V (As := [.long (lN Cl.length)]) (rest := []) ⟨hx, hb, hml, hown, hts⟩ (cvV 1 hts zc_yX9_putNumber zi_X9 zm_yX9_putNumber zv_yX9_putNumber kX9_400 (by decide +kernel) rfl rfl ⟨Nat.le_of_ble_eq_true rfl, Nat.le_of_ble_eq_true rfl⟩) (m_putNumber l D cI cB cJ cR mm g_19 Mw we (((((OL ++ clS kd sg) ++ numL (nsz (en - sg) + 1 + (nsz Dl.length + nsz Cl.length + nsz Al.length) + (Dl.length + Cl.length + Al.length))) ++ numL (en - sg)) ++ [0]) ++ numL Dl.length) Cl.length (wrote_hx_we) (k56_g_19) (by simp [numL_len]; omega) (hx_we_) (by omega) H.size) hK hNw hMk hA hP hD hS [3, 4] rfl rfl (by decide) 0 rfl rfl rfl rfl hl.1 rfl (Nat.le_of_ble_eq_true rfl) dX9_putWindow_113 ⟨Nat.le_of_ble_eq_true rfl, Nat.le_of_ble_eq_true rfl⟩) (fun u9 H locs hx_wf hP hD hS => ?_)
    obtain ⟨g_21, wf⟩ := u9
    try dsimp only at hx_wf
    have hP : va_P D vwCl [(MsData, .inl (cB, 8000, .inl msData)), (MsCodes, .inl (cB, 30000, .inl msCodes)), (MsAddresses, .inl (cB, 30000, .inl msAddresses)), (mm, .inr (9, fl 78 g_21)), (Mw, .inl (cB, 30000, .inl wf))] H := hP
    have hD : va_D A0 [(MsData, .inl (cB, 8000, .inl msData)), (MsCodes, .inl (cB, 30000, .inl msCodes)), (MsAddresses, .inl (cB, 30000, .inl msAddresses)), (mm, .inr (9, fl 78 g_21)), (Mw, .inl (cB, 30000, .inl wf))] := hD
    obtain ⟨f_hx_wf, wrote_hx_wf, hx_wf_⟩ := hx_wf
    have k65_g_21 : g_21 65 = .int (nI sg) := (f_hx_wf 65 (by decide)).trans (k65_g_19)
    have k66_g_21 : g_21 66 = .int (nI en) := (f_hx_wf 66 (by decide)).trans (k66_g_19)
    have k59_g_21 : g_21 59 = .int (nI Dl.length) := (f_hx_wf 59 (by decide)).trans (k59_g_19)
    have k61_g_21 : g_21 61 = .int (nI Cl.length) := (f_hx_wf 61 (by decide)).trans (k61_g_19)
    have k63_g_21 : g_21 63 = .int (nI Al.length) := (f_hx_wf 63 (by decide)).trans (k63_g_19)
    have k56_g_21 : g_21 56 = .ref Mw := (f_hx_wf 56 (by decide)).trans (k56_g_19)
    have k58_g_21 : g_21 58 = .ref MsData := (f_hx_wf 58 (by decide)).trans (k58_g_19)
    have k60_g_21 : g_21 60 = .ref MsCodes := (f_hx_wf 60 (by decide)).trans (k60_g_19)
    have k62_g_21 : g_21 62 = .ref MsAddresses := (f_hx_wf 62 (by decide)).trans (k62_g_19)
    have fr_g_21 : frm [57] g g_21 := frm_tr fr_g_19 f_hx_wf (by decide)
    refine lv_aload_n hx hb dX9_putWindow_116 rfl (lv_at hl 1 rfl) ?_
    refine lv_aload_n hx hb dX9_putWindow_117 rfl (lv_at hl 1 rfl) ?_
    refine fx_get (D := D) (ci := 9) (v := .int (nI Al.length)) (C := RX9) (T := TX9) (N := 78) hx hb hts in_X9 hown hK hP 3 rfl rfl 63 (by decide) (hts _ kX9_375) (fun _ h9 => h9) (k63_g_21) dX9_putWindow_118 ?_
    refine lv_i2l hx hb dX9_putWindow_121 (v := (nI Al.length).toInt64) rfl ?_
    refine rl (y := lN Al.length) (nI_l (by omega)) ?_
    refine jn_v (wr := [(MsData, .inl (cB, 8000, .inl msData)), (MsCodes, .inl (cB, 30000, .inl msCodes)), (MsAddresses, .inl (cB, 30000, .inl msAddresses))]) hA hP hD hS [3, 4] [0, 1, 2] rfl rfl (by decide) (by decide) (rn_V (As := [.long (lN Al.length)]) (rest := []) ⟨hx, hb, hml, hown, hts⟩ (cvV 1 hts zc_yX9_putNumber zi_X9 zm_yX9_putNumber zv_yX9_putNumber kX9_400 (by decide +kernel) rfl rfl ⟨Nat.le_of_ble_eq_true rfl, Nat.le_of_ble_eq_true rfl⟩) (m_putNumber l D cI cB cJ cR mm g_21 Mw wf ((((((OL ++ clS kd sg) ++ numL (nsz (en - sg) + 1 + (nsz Dl.length + nsz Cl.length + nsz Al.length) + (Dl.length + Cl.length + Al.length))) ++ numL (en - sg)) ++ [0]) ++ numL Dl.length) ++ numL Cl.length) Al.length (wrote_hx_wf) (k56_g_21) (by simp [numL_len]; omega) (hx_wf_) (by omega) H.size) hK hNw hMk hA hP hD hS [3, 4] rfl rfl (by decide) 0 rfl rfl rfl rfl hl.1 rfl (Nat.le_of_ble_eq_true rfl) dX9_putWindow_122 ⟨Nat.le_of_ble_eq_true rfl, Nat.le_of_ble_eq_true rfl⟩) (fun u9 H locs hx_wg hP hD hS => ?_)
    obtain ⟨g_23, wg⟩ := u9
    try dsimp only at hx_wg
    have hP : va_P D vwCl [(MsData, .inl (cB, 8000, .inl msData)), (MsCodes, .inl (cB, 30000, .inl msCodes)), (MsAddresses, .inl (cB, 30000, .inl msAddresses)), (mm, .inr (9, fl 78 g_23)), (Mw, .inl (cB, 30000, .inl wg))] H := hP
    have hD : va_D A0 [(MsData, .inl (cB, 8000, .inl msData)), (MsCodes, .inl (cB, 30000, .inl msCodes)), (MsAddresses, .inl (cB, 30000, .inl msAddresses)), (mm, .inr (9, fl 78 g_23)), (Mw, .inl (cB, 30000, .inl wg))] := hD
    obtain ⟨f_hx_wg, wrote_hx_wg, hx_wg_⟩ := hx_wg
    have k65_g_23 : g_23 65 = .int (nI sg) := (f_hx_wg 65 (by decide)).trans (k65_g_21)
    have k66_g_23 : g_23 66 = .int (nI en) := (f_hx_wg 66 (by decide)).trans (k66_g_21)
    have k59_g_23 : g_23 59 = .int (nI Dl.length) := (f_hx_wg 59 (by decide)).trans (k59_g_21)
    have k61_g_23 : g_23 61 = .int (nI Cl.length) := (f_hx_wg 61 (by decide)).trans (k61_g_21)
    have k63_g_23 : g_23 63 = .int (nI Al.length) := (f_hx_wg 63 (by decide)).trans (k63_g_21)
    have k56_g_23 : g_23 56 = .ref Mw := (f_hx_wg 56 (by decide)).trans (k56_g_21)
    have k58_g_23 : g_23 58 = .ref MsData := (f_hx_wg 58 (by decide)).trans (k58_g_21)
    have k60_g_23 : g_23 60 = .ref MsCodes := (f_hx_wg 60 (by decide)).trans (k60_g_21)
    have k62_g_23 : g_23 62 = .ref MsAddresses := (f_hx_wg 62 (by decide)).trans (k62_g_21)
    have fr_g_23 : frm [57] g g_23 := frm_tr fr_g_21 f_hx_wg (by decide)
    obtain ⟨OB, hOB⟩ : ∃ OB, OB = (((((((OL ++ clS kd sg) ++ numL (nsz (en - sg) + 1 + (nsz Dl.length + nsz Cl.length + nsz Al.length) + (Dl.length + Cl.length + Al.length))) ++ numL (en - sg)) ++ [0]) ++ numL Dl.length) ++ numL Cl.length) ++ numL Al.length) := ⟨_, rfl⟩
    have hOl : OB.length < 2 ^ 20 + 100 := by rw [hOB]; simp [numL_len]; omega
    rw [← hOB] at hx_wg_
    have kx_25 : g_23 57 = .int (nI OB.length) := by have h9 : g_23 57 = .int (nI (((((((OL ++ clS kd sg) ++ numL (nsz (en - sg) + 1 + (nsz Dl.length + nsz Cl.length + nsz Al.length) + (Dl.length + Cl.length + Al.length))) ++ numL (en - sg)) ++ [0]) ++ numL Dl.length) ++ numL Cl.length) ++ numL Al.length).length) := wrote_hx_wg; rw [h9]; exact congrArg Value.int (by rw [hOB])
    refine lv_iconst (v := 0) hx hb dX9_putWindow_125 (by decide) ?_
    refine ri (y := nI 0) (nI_0.symm) ?_
    refine lv_istore_n (lv' := [(3, .int (nI 0)), (2, .int (nI (en - sg))), (0, .ref mm), (1, .int (nI kd))]) hx hb dX9_putWindow_126 rfl hl (by decide) rfl (fun ls hl => ?_)
    have lx : ∀ (k9 : Nat) (g5_lx : Nat → Value) (i : Nat) (w7 : Nat → Int32) (H : Heap) (locs : List Loc) (ls : Array Slot), Dl.length - i < k9 → (frm [57] g g5_lx) → (g5_lx 57 = .int (nI (OB ++ Dl.take i).length)) → (i ≤ Dl.length) → (wL 30000 w7 (OB ++ Dl.take i)) → va_P D vwCl [(mm, .inr (9, fl 78 g5_lx)), (MsData, .inl (cB, 8000, .inl msData)), (MsCodes, .inl (cB, 30000, .inl msCodes)), (MsAddresses, .inl (cB, 30000, .inl msAddresses)), (Mw, .inl (cB, 30000, .inl w7))] H → va_D A0 [(mm, .inr (9, fl 78 g5_lx)), (MsData, .inl (cB, 8000, .inl msData)), (MsCodes, .inl (cB, 30000, .inl msCodes)), (MsAddresses, .inl (cB, 30000, .inl msAddresses)), (Mw, .inl (cB, 30000, .inl w7))] → va_S A0 s0.heap H locs → lv_has ls 4 [(0, .ref mm), (1, .int (nI kd)), (2, .int (nI (en - sg))), (3, .int (nI i))] → W p0 l e0 ({ frames := 2, cells := 0, slots := 0, locals := 45 }) s0 m0 ([.ref mm, .int (nI kd)] : List Value).toArray below meth c0 H locs 0 0 Q0 (F0 m0 127 ls []) := by
      intro k9
      induction k9 with
      | zero => intro g5_lx i w7 H locs ls hk9; exact absurd hk9 (Nat.not_lt_zero _)
      | succ k9 ih =>
        intro g5_lx i w7 H locs ls hk9 hf_lx k_wrote_lx hin hw7 hP hD hS hl
        refine lv_iload_n hx hb dX9_putWindow_127 rfl (lv_at hl 3 rfl) ?_
        refine lv_aload_n hx hb dX9_putWindow_128 rfl (lv_at hl 0 rfl) ?_
        refine fx_get (D := D) (ci := 9) (v := .int (nI Dl.length)) (C := RX9) (T := TX9) (N := 78) hx hb hts in_X9 hown hK hP 0 rfl rfl 59 (by decide) (hts _ kX9_388) (fun _ h9 => h9) ((hf_lx 59 (by decide)).trans g_sDatas) dX9_putWindow_129 ?_
        refine lv_icmp_ge (tgt := 151) hx hb dX9_putWindow_132 (by decide) (fun c_26 => ?_) (fun c_26 => ?_)
        · have hi9 : i = Dl.length := by have := (nI_leI (by omega) (by omega)).mp c_26; omega
          rw [hi9, List.take_length] at hw7
          have kx_27 : g5_lx 57 = .int (nI (OB ++ Dl).length) := by have h9 : g5_lx 57 = .int (nI (OB ++ Dl.take i).length) := k_wrote_lx; rw [h9]; exact congrArg Value.int (by rw [hi9, List.take_length])
          refine lv_iconst (v := 0) hx hb dX9_putWindow_151 (by decide) ?_
          refine ri (y := nI 0) (nI_0.symm) ?_
          refine lv_istore_n (lv' := [(3, .int (nI 0)), (0, .ref mm), (1, .int (nI kd)), (2, .int (nI (en - sg)))]) hx hb dX9_putWindow_152 rfl hl (by decide) rfl (fun ls hl => ?_)
          have ly : ∀ (k9 : Nat) (g5_ly : Nat → Value) (i : Nat) (w7 : Nat → Int32) (H : Heap) (locs : List Loc) (ls : Array Slot), Cl.length - i < k9 → (frm [57] g g5_ly) → (g5_ly 57 = .int (nI ((OB ++ Dl) ++ Cl.take i).length)) → (i ≤ Cl.length) → (wL 30000 w7 ((OB ++ Dl) ++ Cl.take i)) → va_P D vwCl [(mm, .inr (9, fl 78 g5_ly)), (MsData, .inl (cB, 8000, .inl msData)), (MsCodes, .inl (cB, 30000, .inl msCodes)), (MsAddresses, .inl (cB, 30000, .inl msAddresses)), (Mw, .inl (cB, 30000, .inl w7))] H → va_D A0 [(mm, .inr (9, fl 78 g5_ly)), (MsData, .inl (cB, 8000, .inl msData)), (MsCodes, .inl (cB, 30000, .inl msCodes)), (MsAddresses, .inl (cB, 30000, .inl msAddresses)), (Mw, .inl (cB, 30000, .inl w7))] → va_S A0 s0.heap H locs → lv_has ls 4 [(0, .ref mm), (1, .int (nI kd)), (2, .int (nI (en - sg))), (3, .int (nI i))] → W p0 l e0 ({ frames := 2, cells := 0, slots := 0, locals := 45 }) s0 m0 ([.ref mm, .int (nI kd)] : List Value).toArray below meth c0 H locs 0 0 Q0 (F0 m0 153 ls []) := by
            intro k9
            induction k9 with
            | zero => intro g5_ly i w7 H locs ls hk9; exact absurd hk9 (Nat.not_lt_zero _)
            | succ k9 ih =>
              intro g5_ly i w7 H locs ls hk9 hf_ly k_wrote_ly hin hw7 hP hD hS hl
              refine lv_iload_n hx hb dX9_putWindow_153 rfl (lv_at hl 3 rfl) ?_
              refine lv_aload_n hx hb dX9_putWindow_154 rfl (lv_at hl 0 rfl) ?_
              refine fx_get (D := D) (ci := 9) (v := .int (nI Cl.length)) (C := RX9) (T := TX9) (N := 78) hx hb hts in_X9 hown hK hP 0 rfl rfl 61 (by decide) (hts _ kX9_385) (fun _ h9 => h9) ((hf_ly 61 (by decide)).trans g_sCode) dX9_putWindow_155 ?_
              refine lv_icmp_ge (tgt := 177) hx hb dX9_putWindow_158 (by decide) (fun c_28 => ?_) (fun c_28 => ?_)
              · have hi9 : i = Cl.length := by have := (nI_leI (by omega) (by omega)).mp c_28; omega
                rw [hi9, List.take_length] at hw7
                have kx_29 : g5_ly 57 = .int (nI ((OB ++ Dl) ++ Cl).length) := by have h9 : g5_ly 57 = .int (nI ((OB ++ Dl) ++ Cl.take i).length) := k_wrote_ly; rw [h9]; exact congrArg Value.int (by rw [hi9, List.take_length])
                have hw72 := hw7
                refine lv_iconst (v := 0) hx hb dX9_putWindow_177 (by decide) ?_
                refine ri (y := nI 0) (nI_0.symm) ?_
                refine lv_istore_n (lv' := [(3, .int (nI 0)), (0, .ref mm), (1, .int (nI kd)), (2, .int (nI (en - sg)))]) hx hb dX9_putWindow_178 rfl hl (by decide) rfl (fun ls hl => ?_)
                have lz : ∀ (k9 : Nat) (g5_lz : Nat → Value) (i : Nat) (w7 : Nat → Int32) (H : Heap) (locs : List Loc) (ls : Array Slot), Al.length - i < k9 → (frm [57] g g5_lz) → (g5_lz 57 = .int (nI (((OB ++ Dl) ++ Cl) ++ Al.take i).length)) → (i ≤ Al.length) → (wL 30000 w7 (((OB ++ Dl) ++ Cl) ++ Al.take i)) → va_P D vwCl [(mm, .inr (9, fl 78 g5_lz)), (MsData, .inl (cB, 8000, .inl msData)), (MsCodes, .inl (cB, 30000, .inl msCodes)), (MsAddresses, .inl (cB, 30000, .inl msAddresses)), (Mw, .inl (cB, 30000, .inl w7))] H → va_D A0 [(mm, .inr (9, fl 78 g5_lz)), (MsData, .inl (cB, 8000, .inl msData)), (MsCodes, .inl (cB, 30000, .inl msCodes)), (MsAddresses, .inl (cB, 30000, .inl msAddresses)), (Mw, .inl (cB, 30000, .inl w7))] → va_S A0 s0.heap H locs → lv_has ls 4 [(0, .ref mm), (1, .int (nI kd)), (2, .int (nI (en - sg))), (3, .int (nI i))] → W p0 l e0 ({ frames := 2, cells := 0, slots := 0, locals := 45 }) s0 m0 ([.ref mm, .int (nI kd)] : List Value).toArray below meth c0 H locs 0 0 Q0 (F0 m0 179 ls []) := by
                  intro k9
                  induction k9 with
                  | zero => intro g5_lz i w7 H locs ls hk9; exact absurd hk9 (Nat.not_lt_zero _)
                  | succ k9 ih =>
                    intro g5_lz i w7 H locs ls hk9 hf_lz k_wrote_lz hin hw7 hP hD hS hl
                    refine lv_iload_n hx hb dX9_putWindow_179 rfl (lv_at hl 3 rfl) ?_
                    refine lv_aload_n hx hb dX9_putWindow_180 rfl (lv_at hl 0 rfl) ?_
                    refine fx_get (D := D) (ci := 9) (v := .int (nI Al.length)) (C := RX9) (T := TX9) (N := 78) hx hb hts in_X9 hown hK hP 0 rfl rfl 63 (by decide) (hts _ kX9_375) (fun _ h9 => h9) ((hf_lz 63 (by decide)).trans g_sAddress) dX9_putWindow_181 ?_
                    refine lv_icmp_ge (tgt := 203) hx hb dX9_putWindow_184 (by decide) (fun c_30 => ?_) (fun c_30 => ?_)
                    · have hi9 : i = Al.length := by have := (nI_leI (by omega) (by omega)).mp c_30; omega
                      rw [hi9, List.take_length] at hw7
                      have kx_31 : g5_lz 57 = .int (nI (((OB ++ Dl) ++ Cl) ++ Al).length) := by have h9 : g5_lz 57 = .int (nI (((OB ++ Dl) ++ Cl) ++ Al.take i).length) := k_wrote_lz; rw [h9]; exact congrArg Value.int (by rw [hi9, List.take_length])
                      have hfin : (((OB ++ Dl) ++ Cl) ++ Al) = OL ++ clL kd sg (en - sg) Dl Cl Al := by rw [hOB]; simp only [clL, List.append_assoc]
                      have kx_32 : g5_lz 57 = .int (nI (OL ++ clL kd sg (en - sg) Dl Cl Al).length) := by have h9 : g5_lz 57 = .int (nI (((OB ++ Dl) ++ Cl) ++ Al).length) := kx_31; rw [h9]; exact congrArg Value.int (by rw [hfin])
                      have hP := hP.sub (ws' := [(mm, .inr (9, fl 78 g5_lz)), (Mw, .inl (cB, 30000, .inl w7)), (MsData, .inl (cB, 8000, .inl msData)), (MsCodes, .inl (cB, 30000, .inl msCodes)), (MsAddresses, .inl (cB, 30000, .inl msAddresses))]) [0, 4, 1, 2, 3] rfl
                      have hD := hD.sub (ws' := [(mm, .inr (9, fl 78 g5_lz)), (Mw, .inl (cB, 30000, .inl w7)), (MsData, .inl (cB, 8000, .inl msData)), (MsCodes, .inl (cB, 30000, .inl msCodes)), (MsAddresses, .inl (cB, 30000, .inl msAddresses))]) [0, 4, 1, 2, 3] (by decide) rfl
                      exact hret 203 ls _ _ (g5_lz, w7) dX9_putWindow_203 hP hD hS (⟨hf_lz, kx_32, by rw [← hfin]; exact hw7⟩)
                    · have hi9 : i < Al.length := Nat.not_le.mp (fun q => c_30 (nI_le q (by omega)))
                      have hb9 := hA_ i hi9 (by omega)
                      refine lv_aload_n hx hb dX9_putWindow_187 rfl (lv_at hl 0 rfl) ?_
                      refine lv_aload_n hx hb dX9_putWindow_188 rfl (lv_at hl 0 rfl) ?_
                      refine fx_get (D := D) (ci := 9) (v := .ref MsAddresses) (C := RX9) (T := TX9) (N := 78) hx hb hts in_X9 hown hK hP 0 rfl rfl 62 (by decide) (hts _ kX9_97) (fun _ h9 => h9) ((hf_lz 62 (by decide)).trans g_sAddresses) dX9_putWindow_189 ?_
                      refine lv_iload_n hx hb dX9_putWindow_192 rfl (lv_at hl 3 rfl) ?_
                      refine ax_bld hx hb hK hP 3 1 rfl rfl i (rfl) (by omega) (by omega) dX9_putWindow_193 ?_
                      refine ri (y := (Al.getD i 0).toInt8.toInt32) (hb9) ?_
                      refine jn_v (wr := [(MsData, .inl (cB, 8000, .inl msData)), (MsCodes, .inl (cB, 30000, .inl msCodes)), (MsAddresses, .inl (cB, 30000, .inl msAddresses))]) hA hP hD hS [0, 4] [1, 2, 3] rfl rfl (by decide) (by decide) (rn_V (As := [.int ((Al.getD i 0).toInt8.toInt32)]) (rest := []) ⟨hx, hb, hml, hown, hts⟩ (cvV 1 hts zc_yX9_put zi_X9 zm_yX9_put zv_yX9_put kX9_353 (by decide +kernel) rfl rfl ⟨Nat.le_of_ble_eq_true rfl, Nat.le_of_ble_eq_true rfl⟩) (m_put l D cI cB cJ cR mm g5_lz Mw w7 (((OB ++ Dl) ++ Cl) ++ Al.take i) ((Al.getD i 0).toInt8.toInt32) (k_wrote_lz) ((hf_lz 56 (by decide)).trans g_w) (by rw [List.length_append, List.length_take]; simp; omega) (hw7) H.size) hK hNw hMk hA hP hD hS [0, 4] rfl rfl (by decide) 0 rfl rfl rfl rfl hl.1 rfl (Nat.le_of_ble_eq_true rfl) dX9_putWindow_194 ⟨Nat.le_of_ble_eq_true rfl, Nat.le_of_ble_eq_true rfl⟩) (fun u9 H locs hpx hP hD hS => ?_)
                      obtain ⟨g_33, w8⟩ := u9
                      try dsimp only at hpx
                      have hP : va_P D vwCl [(MsData, .inl (cB, 8000, .inl msData)), (MsCodes, .inl (cB, 30000, .inl msCodes)), (MsAddresses, .inl (cB, 30000, .inl msAddresses)), (mm, .inr (9, fl 78 g_33)), (Mw, .inl (cB, 30000, .inl w8))] H := hP
                      have hD : va_D A0 [(MsData, .inl (cB, 8000, .inl msData)), (MsCodes, .inl (cB, 30000, .inl msCodes)), (MsAddresses, .inl (cB, 30000, .inl msAddresses)), (mm, .inr (9, fl 78 g_33)), (Mw, .inl (cB, 30000, .inl w8))] := hD
                      obtain ⟨f_hpx, wrote_hpx, hpx_⟩ := hpx
                      have k65_g_33 : g_33 65 = .int (nI sg) := (f_hpx 65 (by decide)).trans ((hf_lz 65 (by decide)).trans g_uBegin)
                      have k66_g_33 : g_33 66 = .int (nI en) := (f_hpx 66 (by decide)).trans ((hf_lz 66 (by decide)).trans g_uEnd)
                      have k59_g_33 : g_33 59 = .int (nI Dl.length) := (f_hpx 59 (by decide)).trans ((hf_lz 59 (by decide)).trans g_sDatas)
                      have k61_g_33 : g_33 61 = .int (nI Cl.length) := (f_hpx 61 (by decide)).trans ((hf_lz 61 (by decide)).trans g_sCode)
                      have k63_g_33 : g_33 63 = .int (nI Al.length) := (f_hpx 63 (by decide)).trans ((hf_lz 63 (by decide)).trans g_sAddress)
                      have k56_g_33 : g_33 56 = .ref Mw := (f_hpx 56 (by decide)).trans ((hf_lz 56 (by decide)).trans g_w)
                      have k58_g_33 : g_33 58 = .ref MsData := (f_hpx 58 (by decide)).trans ((hf_lz 58 (by decide)).trans g_sData)
                      have k60_g_33 : g_33 60 = .ref MsCodes := (f_hpx 60 (by decide)).trans ((hf_lz 60 (by decide)).trans g_sCodes)
                      have k62_g_33 : g_33 62 = .ref MsAddresses := (f_hpx 62 (by decide)).trans ((hf_lz 62 (by decide)).trans g_sAddresses)
                      have fr_g_33 : frm [57] g g_33 := frm_tr hf_lz f_hpx (by decide)
                      have htk : Al.take (i + 1) = Al.take i ++ [Al.getD i 0] := by rw [List.take_succ]; congr 1; simp [List.getD, hi9]
                      have kx_35 : g_33 57 = .int (nI (((OB ++ Dl) ++ Cl) ++ Al.take (i + 1)).length) := by have h9 : g_33 57 = .int (nI ((((OB ++ Dl) ++ Cl) ++ Al.take i).length + 1)) := wrote_hpx; rw [h9]; exact congrArg Value.int (by rw [htk, ← List.append_assoc]; exact congrArg nI len1)
                      refine lv_iinc (v := nI (i + 1)) (lv' := [(3, .int (nI (i + 1))), (0, .ref mm), (1, .int (nI kd)), (2, .int (nI (en - sg)))]) hx hb dX9_putWindow_197 hl (k := 3) rfl (nI_add i 1) (by decide) rfl (fun ls hl => ?_)
                      refine lv_goto (tgt := 179) hx hb dX9_putWindow_200 (by decide) ?_
                      exact ih g_33 (i + 1) w8 _ _ ls (by omega) (fr_g_33) (kx_35) (by omega) (by rw [htk, ← List.append_assoc]; exact wL_re hpx_) (hP.sub [3, 0, 1, 2, 4] rfl) (hD.sub [3, 0, 1, 2, 4] (by decide) rfl) hS (lv_sub hl [1, 2, 3, 0] rfl)
                have kx_36 : g5_ly 57 = .int (nI (((OB ++ Dl) ++ Cl) ++ Al.take 0).length) := by have h9 : g5_ly 57 = .int (nI ((OB ++ Dl) ++ Cl).length) := kx_29; rw [h9]; exact congrArg Value.int (by simp)
                exact lz _ g5_ly 0 w7 _ _ ls (Nat.lt_succ_self _) (hf_ly) (kx_36) (Nat.zero_le _) (by rw [List.take_zero, List.append_nil]; exact hw72) hP hD hS (lv_sub hl [1, 2, 3, 0] rfl)
              · have hi9 : i < Cl.length := Nat.not_le.mp (fun q => c_28 (nI_le q (by omega)))
                have hb9 := hC i hi9 (by omega)
                refine lv_aload_n hx hb dX9_putWindow_161 rfl (lv_at hl 0 rfl) ?_
                refine lv_aload_n hx hb dX9_putWindow_162 rfl (lv_at hl 0 rfl) ?_
                refine fx_get (D := D) (ci := 9) (v := .ref MsCodes) (C := RX9) (T := TX9) (N := 78) hx hb hts in_X9 hown hK hP 0 rfl rfl 60 (by decide) (hts _ kX9_94) (fun _ h9 => h9) ((hf_ly 60 (by decide)).trans g_sCodes) dX9_putWindow_163 ?_
                refine lv_iload_n hx hb dX9_putWindow_166 rfl (lv_at hl 3 rfl) ?_
                refine ax_bld hx hb hK hP 2 1 rfl rfl i (rfl) (by omega) (by omega) dX9_putWindow_167 ?_
                refine ri (y := (Cl.getD i 0).toInt8.toInt32) (hb9) ?_
                refine jn_v (wr := [(MsData, .inl (cB, 8000, .inl msData)), (MsCodes, .inl (cB, 30000, .inl msCodes)), (MsAddresses, .inl (cB, 30000, .inl msAddresses))]) hA hP hD hS [0, 4] [1, 2, 3] rfl rfl (by decide) (by decide) (rn_V (As := [.int ((Cl.getD i 0).toInt8.toInt32)]) (rest := []) ⟨hx, hb, hml, hown, hts⟩ (cvV 1 hts zc_yX9_put zi_X9 zm_yX9_put zv_yX9_put kX9_353 (by decide +kernel) rfl rfl ⟨Nat.le_of_ble_eq_true rfl, Nat.le_of_ble_eq_true rfl⟩) (m_put l D cI cB cJ cR mm g5_ly Mw w7 ((OB ++ Dl) ++ Cl.take i) ((Cl.getD i 0).toInt8.toInt32) (k_wrote_ly) ((hf_ly 56 (by decide)).trans g_w) (by rw [List.length_append, List.length_take]; simp; omega) (hw7) H.size) hK hNw hMk hA hP hD hS [0, 4] rfl rfl (by decide) 0 rfl rfl rfl rfl hl.1 rfl (Nat.le_of_ble_eq_true rfl) dX9_putWindow_168 ⟨Nat.le_of_ble_eq_true rfl, Nat.le_of_ble_eq_true rfl⟩) (fun u9 H locs hpx hP hD hS => ?_)
                obtain ⟨g_37, w8⟩ := u9
                try dsimp only at hpx
                have hP : va_P D vwCl [(MsData, .inl (cB, 8000, .inl msData)), (MsCodes, .inl (cB, 30000, .inl msCodes)), (MsAddresses, .inl (cB, 30000, .inl msAddresses)), (mm, .inr (9, fl 78 g_37)), (Mw, .inl (cB, 30000, .inl w8))] H := hP
                have hD : va_D A0 [(MsData, .inl (cB, 8000, .inl msData)), (MsCodes, .inl (cB, 30000, .inl msCodes)), (MsAddresses, .inl (cB, 30000, .inl msAddresses)), (mm, .inr (9, fl 78 g_37)), (Mw, .inl (cB, 30000, .inl w8))] := hD
                obtain ⟨f_hpx, wrote_hpx, hpx_⟩ := hpx
                have k65_g_37 : g_37 65 = .int (nI sg) := (f_hpx 65 (by decide)).trans ((hf_ly 65 (by decide)).trans g_uBegin)
                have k66_g_37 : g_37 66 = .int (nI en) := (f_hpx 66 (by decide)).trans ((hf_ly 66 (by decide)).trans g_uEnd)
                have k59_g_37 : g_37 59 = .int (nI Dl.length) := (f_hpx 59 (by decide)).trans ((hf_ly 59 (by decide)).trans g_sDatas)
                have k61_g_37 : g_37 61 = .int (nI Cl.length) := (f_hpx 61 (by decide)).trans ((hf_ly 61 (by decide)).trans g_sCode)
                have k63_g_37 : g_37 63 = .int (nI Al.length) := (f_hpx 63 (by decide)).trans ((hf_ly 63 (by decide)).trans g_sAddress)
                have k56_g_37 : g_37 56 = .ref Mw := (f_hpx 56 (by decide)).trans ((hf_ly 56 (by decide)).trans g_w)
                have k58_g_37 : g_37 58 = .ref MsData := (f_hpx 58 (by decide)).trans ((hf_ly 58 (by decide)).trans g_sData)
                have k60_g_37 : g_37 60 = .ref MsCodes := (f_hpx 60 (by decide)).trans ((hf_ly 60 (by decide)).trans g_sCodes)
                have k62_g_37 : g_37 62 = .ref MsAddresses := (f_hpx 62 (by decide)).trans ((hf_ly 62 (by decide)).trans g_sAddresses)
                have fr_g_37 : frm [57] g g_37 := frm_tr hf_ly f_hpx (by decide)
                have htk : Cl.take (i + 1) = Cl.take i ++ [Cl.getD i 0] := by rw [List.take_succ]; congr 1; simp [List.getD, hi9]
                have kx_39 : g_37 57 = .int (nI ((OB ++ Dl) ++ Cl.take (i + 1)).length) := by have h9 : g_37 57 = .int (nI (((OB ++ Dl) ++ Cl.take i).length + 1)) := wrote_hpx; rw [h9]; exact congrArg Value.int (by rw [htk, ← List.append_assoc]; exact congrArg nI len1)
                refine lv_iinc (v := nI (i + 1)) (lv' := [(3, .int (nI (i + 1))), (0, .ref mm), (1, .int (nI kd)), (2, .int (nI (en - sg)))]) hx hb dX9_putWindow_171 hl (k := 3) rfl (nI_add i 1) (by decide) rfl (fun ls hl => ?_)
                refine lv_goto (tgt := 153) hx hb dX9_putWindow_174 (by decide) ?_
                exact ih g_37 (i + 1) w8 _ _ ls (by omega) (fr_g_37) (kx_39) (by omega) (by rw [htk, ← List.append_assoc]; exact wL_re hpx_) (hP.sub [3, 0, 1, 2, 4] rfl) (hD.sub [3, 0, 1, 2, 4] (by decide) rfl) hS (lv_sub hl [1, 2, 3, 0] rfl)
          have kx_40 : g5_lx 57 = .int (nI ((OB ++ Dl) ++ Cl.take 0).length) := by have h9 : g5_lx 57 = .int (nI (OB ++ Dl).length) := kx_27; rw [h9]; exact congrArg Value.int (by simp)
          exact ly _ g5_lx 0 w7 _ _ ls (Nat.lt_succ_self _) (hf_lx) (kx_40) (Nat.zero_le _) (by rw [List.take_zero, List.append_nil]; exact hw7) hP hD hS (lv_sub hl [1, 2, 3, 0] rfl)
        · have hi9 : i < Dl.length := Nat.not_le.mp (fun q => c_26 (nI_le q (by omega)))
          have hb9 := hD_ i hi9 (by omega)
          refine lv_aload_n hx hb dX9_putWindow_135 rfl (lv_at hl 0 rfl) ?_
          refine lv_aload_n hx hb dX9_putWindow_136 rfl (lv_at hl 0 rfl) ?_
          refine fx_get (D := D) (ci := 9) (v := .ref MsData) (C := RX9) (T := TX9) (N := 78) hx hb hts in_X9 hown hK hP 0 rfl rfl 58 (by decide) (hts _ kX9_91) (fun _ h9 => h9) ((hf_lx 58 (by decide)).trans g_sData) dX9_putWindow_137 ?_
          refine lv_iload_n hx hb dX9_putWindow_140 rfl (lv_at hl 3 rfl) ?_
          refine ax_bld hx hb hK hP 1 1 rfl rfl i (rfl) (by omega) (by omega) dX9_putWindow_141 ?_
          refine ri (y := (Dl.getD i 0).toInt8.toInt32) (hb9) ?_
          refine jn_v (wr := [(MsData, .inl (cB, 8000, .inl msData)), (MsCodes, .inl (cB, 30000, .inl msCodes)), (MsAddresses, .inl (cB, 30000, .inl msAddresses))]) hA hP hD hS [0, 4] [1, 2, 3] rfl rfl (by decide) (by decide) (rn_V (As := [.int ((Dl.getD i 0).toInt8.toInt32)]) (rest := []) ⟨hx, hb, hml, hown, hts⟩ (cvV 1 hts zc_yX9_put zi_X9 zm_yX9_put zv_yX9_put kX9_353 (by decide +kernel) rfl rfl ⟨Nat.le_of_ble_eq_true rfl, Nat.le_of_ble_eq_true rfl⟩) (m_put l D cI cB cJ cR mm g5_lx Mw w7 (OB ++ Dl.take i) ((Dl.getD i 0).toInt8.toInt32) (k_wrote_lx) ((hf_lx 56 (by decide)).trans g_w) (by rw [List.length_append, List.length_take]; simp; omega) (hw7) H.size) hK hNw hMk hA hP hD hS [0, 4] rfl rfl (by decide) 0 rfl rfl rfl rfl hl.1 rfl (Nat.le_of_ble_eq_true rfl) dX9_putWindow_142 ⟨Nat.le_of_ble_eq_true rfl, Nat.le_of_ble_eq_true rfl⟩) (fun u9 H locs hpx hP hD hS => ?_)
          obtain ⟨g_41, w8⟩ := u9
          try dsimp only at hpx
          have hP : va_P D vwCl [(MsData, .inl (cB, 8000, .inl msData)), (MsCodes, .inl (cB, 30000, .inl msCodes)), (MsAddresses, .inl (cB, 30000, .inl msAddresses)), (mm, .inr (9, fl 78 g_41)), (Mw, .inl (cB, 30000, .inl w8))] H := hP
          have hD : va_D A0 [(MsData, .inl (cB, 8000, .inl msData)), (MsCodes, .inl (cB, 30000, .inl msCodes)), (MsAddresses, .inl (cB, 30000, .inl msAddresses)), (mm, .inr (9, fl 78 g_41)), (Mw, .inl (cB, 30000, .inl w8))] := hD
          obtain ⟨f_hpx, wrote_hpx, hpx_⟩ := hpx
          have k65_g_41 : g_41 65 = .int (nI sg) := (f_hpx 65 (by decide)).trans ((hf_lx 65 (by decide)).trans g_uBegin)
          have k66_g_41 : g_41 66 = .int (nI en) := (f_hpx 66 (by decide)).trans ((hf_lx 66 (by decide)).trans g_uEnd)
          have k59_g_41 : g_41 59 = .int (nI Dl.length) := (f_hpx 59 (by decide)).trans ((hf_lx 59 (by decide)).trans g_sDatas)
          have k61_g_41 : g_41 61 = .int (nI Cl.length) := (f_hpx 61 (by decide)).trans ((hf_lx 61 (by decide)).trans g_sCode)
          have k63_g_41 : g_41 63 = .int (nI Al.length) := (f_hpx 63 (by decide)).trans ((hf_lx 63 (by decide)).trans g_sAddress)
          have k56_g_41 : g_41 56 = .ref Mw := (f_hpx 56 (by decide)).trans ((hf_lx 56 (by decide)).trans g_w)
          have k58_g_41 : g_41 58 = .ref MsData := (f_hpx 58 (by decide)).trans ((hf_lx 58 (by decide)).trans g_sData)
          have k60_g_41 : g_41 60 = .ref MsCodes := (f_hpx 60 (by decide)).trans ((hf_lx 60 (by decide)).trans g_sCodes)
          have k62_g_41 : g_41 62 = .ref MsAddresses := (f_hpx 62 (by decide)).trans ((hf_lx 62 (by decide)).trans g_sAddresses)
          have fr_g_41 : frm [57] g g_41 := frm_tr hf_lx f_hpx (by decide)
          have htk : Dl.take (i + 1) = Dl.take i ++ [Dl.getD i 0] := by rw [List.take_succ]; congr 1; simp [List.getD, hi9]
          have kx_43 : g_41 57 = .int (nI (OB ++ Dl.take (i + 1)).length) := by have h9 : g_41 57 = .int (nI ((OB ++ Dl.take i).length + 1)) := wrote_hpx; rw [h9]; exact congrArg Value.int (by rw [htk, ← List.append_assoc]; exact congrArg nI len1)
          refine lv_iinc (v := nI (i + 1)) (lv' := [(3, .int (nI (i + 1))), (0, .ref mm), (1, .int (nI kd)), (2, .int (nI (en - sg)))]) hx hb dX9_putWindow_145 hl (k := 3) rfl (nI_add i 1) (by decide) rfl (fun ls hl => ?_)
          refine lv_goto (tgt := 127) hx hb dX9_putWindow_148 (by decide) ?_
          exact ih g_41 (i + 1) w8 _ _ ls (by omega) (fr_g_41) (kx_43) (by omega) (by rw [htk, ← List.append_assoc]; exact wL_re hpx_) (hP.sub [3, 0, 1, 2, 4] rfl) (hD.sub [3, 0, 1, 2, 4] (by decide) rfl) hS (lv_sub hl [1, 2, 3, 0] rfl)
    have kx_44 : g_23 57 = .int (nI (OB ++ Dl.take 0).length) := by have h9 : g_23 57 = .int (nI OB.length) := kx_25; rw [h9]; exact congrArg Value.int (by simp)
    exact lx _ g_23 0 wg _ _ ls (Nat.lt_succ_self _) (fr_g_23) (kx_44) (Nat.zero_le _) (by rw [List.take_zero, List.append_nil]; exact hx_wg_) (hP.sub [3, 0, 1, 2, 4] rfl) (hD.sub [3, 0, 1, 2, 4] (by decide) rfl) hS (lv_sub hl [2, 3, 1, 0] rfl)
  refine lv_if_le (tgt := 23) hx hb dX9_putWindow_6 (by decide) (fun c_45 => ?_) (fun c_45 => ?_)
  · have hk0 : kd = 0 := Decidable.byContradiction (fun z => nI_nle (Nat.pos_of_ne_zero z) (by omega) c_45)
    have hcl : OL ++ clS kd sg = (OL ++ [nI kd]) := by rw [clS, if_pos hk0, List.append_nil]
    have kx_46 : g_1 57 = .int (nI (OL ++ clS kd sg).length) := by have h9 : g_1 57 = .int (nI (OL ++ [nI kd]).length) := kx_3; rw [h9]; exact congrArg Value.int (by rw [hcl])
    exact JR g_1 wa _ _ ls (fr_g_1) (kx_46) (by rw [hcl]; exact hx_wa_) (hP.sub [3, 0, 1, 2, 4] rfl) (hD.sub [3, 0, 1, 2, 4] (by decide) rfl) hS (lv_sub hl [0, 1] rfl)
  · have s6 := nsz_le sg
    have s7 := nsz_le 0
    have hk0 : ¬ kd = 0 := fun z => c_45 (by rw [z]; decide)
    refine lv_aload_n hx hb dX9_putWindow_9 rfl (lv_at hl 0 rfl) ?_
    refine lv_aload_n hx hb dX9_putWindow_10 rfl (lv_at hl 0 rfl) ?_
    refine fx_get (D := D) (ci := 9) (v := .int (nI sg)) (C := RX9) (T := TX9) (N := 78) hx hb hts in_X9 hown hK hP 3 rfl rfl 65 (by decide) (hts _ kX9_365) (fun _ h9 => h9) (k65_g_1) dX9_putWindow_11 ?_
    refine lv_i2l hx hb dX9_putWindow_14 (v := (nI sg).toInt64) rfl ?_
    refine rl (y := lN sg) (nI_l (by omega)) ?_
    refine jn_v (wr := [(MsData, .inl (cB, 8000, .inl msData)), (MsCodes, .inl (cB, 30000, .inl msCodes)), (MsAddresses, .inl (cB, 30000, .inl msAddresses))]) hA hP hD hS [3, 4] [0, 1, 2] rfl rfl (by decide) (by decide) (rn_V (As := [.long (lN sg)]) (rest := []) ⟨hx, hb, hml, hown, hts⟩ (cvV 1 hts zc_yX9_putNumber zi_X9 zm_yX9_putNumber zv_yX9_putNumber kX9_400 (by decide +kernel) rfl rfl ⟨Nat.le_of_ble_eq_true rfl, Nat.le_of_ble_eq_true rfl⟩) (m_putNumber l D cI cB cJ cR mm g_1 Mw wa (OL ++ [nI kd]) sg (kx_3) (k56_g_1) (by simp [numL_len]; omega) (hx_wa_) (by omega) H.size) hK hNw hMk hA hP hD hS [3, 4] rfl rfl (by decide) 0 rfl rfl rfl rfl hl.1 rfl (Nat.le_of_ble_eq_true rfl) dX9_putWindow_15 ⟨Nat.le_of_ble_eq_true rfl, Nat.le_of_ble_eq_true rfl⟩) (fun u9 H locs hx_wy hP hD hS => ?_)
    obtain ⟨g_47, wy⟩ := u9
    try dsimp only at hx_wy
    have hP : va_P D vwCl [(MsData, .inl (cB, 8000, .inl msData)), (MsCodes, .inl (cB, 30000, .inl msCodes)), (MsAddresses, .inl (cB, 30000, .inl msAddresses)), (mm, .inr (9, fl 78 g_47)), (Mw, .inl (cB, 30000, .inl wy))] H := hP
    have hD : va_D A0 [(MsData, .inl (cB, 8000, .inl msData)), (MsCodes, .inl (cB, 30000, .inl msCodes)), (MsAddresses, .inl (cB, 30000, .inl msAddresses)), (mm, .inr (9, fl 78 g_47)), (Mw, .inl (cB, 30000, .inl wy))] := hD
    obtain ⟨f_hx_wy, wrote_hx_wy, hx_wy_⟩ := hx_wy
    have k65_g_47 : g_47 65 = .int (nI sg) := (f_hx_wy 65 (by decide)).trans (k65_g_1)
    have k66_g_47 : g_47 66 = .int (nI en) := (f_hx_wy 66 (by decide)).trans (k66_g_1)
    have k59_g_47 : g_47 59 = .int (nI Dl.length) := (f_hx_wy 59 (by decide)).trans (k59_g_1)
    have k61_g_47 : g_47 61 = .int (nI Cl.length) := (f_hx_wy 61 (by decide)).trans (k61_g_1)
    have k63_g_47 : g_47 63 = .int (nI Al.length) := (f_hx_wy 63 (by decide)).trans (k63_g_1)
    have k56_g_47 : g_47 56 = .ref Mw := (f_hx_wy 56 (by decide)).trans (k56_g_1)
    have k58_g_47 : g_47 58 = .ref MsData := (f_hx_wy 58 (by decide)).trans (k58_g_1)
    have k60_g_47 : g_47 60 = .ref MsCodes := (f_hx_wy 60 (by decide)).trans (k60_g_1)
    have k62_g_47 : g_47 62 = .ref MsAddresses := (f_hx_wy 62 (by decide)).trans (k62_g_1)
    have fr_g_47 : frm [57] g g_47 := frm_tr fr_g_1 f_hx_wy (by decide)
    refine lv_aload_n hx hb dX9_putWindow_18 rfl (lv_at hl 0 rfl) ?_
    refine lv_lconst (v := 0) hx hb dX9_putWindow_19 (by decide) ?_
    refine rl (y := lN 0) (rfl) ?_
    refine jn_v (wr := [(MsData, .inl (cB, 8000, .inl msData)), (MsCodes, .inl (cB, 30000, .inl msCodes)), (MsAddresses, .inl (cB, 30000, .inl msAddresses))]) hA hP hD hS [3, 4] [0, 1, 2] rfl rfl (by decide) (by decide) (rn_V (As := [.long (lN 0)]) (rest := []) ⟨hx, hb, hml, hown, hts⟩ (cvV 1 hts zc_yX9_putNumber zi_X9 zm_yX9_putNumber zv_yX9_putNumber kX9_400 (by decide +kernel) rfl rfl ⟨Nat.le_of_ble_eq_true rfl, Nat.le_of_ble_eq_true rfl⟩) (m_putNumber l D cI cB cJ cR mm g_47 Mw wy ((OL ++ [nI kd]) ++ numL sg) 0 (wrote_hx_wy) (k56_g_47) (by simp [numL_len]; omega) (hx_wy_) (by omega) H.size) hK hNw hMk hA hP hD hS [3, 4] rfl rfl (by decide) 0 rfl rfl rfl rfl hl.1 rfl (Nat.le_of_ble_eq_true rfl) dX9_putWindow_20 ⟨Nat.le_of_ble_eq_true rfl, Nat.le_of_ble_eq_true rfl⟩) (fun u9 H locs hx_wz hP hD hS => ?_)
    obtain ⟨g_49, wz⟩ := u9
    try dsimp only at hx_wz
    have hP : va_P D vwCl [(MsData, .inl (cB, 8000, .inl msData)), (MsCodes, .inl (cB, 30000, .inl msCodes)), (MsAddresses, .inl (cB, 30000, .inl msAddresses)), (mm, .inr (9, fl 78 g_49)), (Mw, .inl (cB, 30000, .inl wz))] H := hP
    have hD : va_D A0 [(MsData, .inl (cB, 8000, .inl msData)), (MsCodes, .inl (cB, 30000, .inl msCodes)), (MsAddresses, .inl (cB, 30000, .inl msAddresses)), (mm, .inr (9, fl 78 g_49)), (Mw, .inl (cB, 30000, .inl wz))] := hD
    obtain ⟨f_hx_wz, wrote_hx_wz, hx_wz_⟩ := hx_wz
    have k65_g_49 : g_49 65 = .int (nI sg) := (f_hx_wz 65 (by decide)).trans (k65_g_47)
    have k66_g_49 : g_49 66 = .int (nI en) := (f_hx_wz 66 (by decide)).trans (k66_g_47)
    have k59_g_49 : g_49 59 = .int (nI Dl.length) := (f_hx_wz 59 (by decide)).trans (k59_g_47)
    have k61_g_49 : g_49 61 = .int (nI Cl.length) := (f_hx_wz 61 (by decide)).trans (k61_g_47)
    have k63_g_49 : g_49 63 = .int (nI Al.length) := (f_hx_wz 63 (by decide)).trans (k63_g_47)
    have k56_g_49 : g_49 56 = .ref Mw := (f_hx_wz 56 (by decide)).trans (k56_g_47)
    have k58_g_49 : g_49 58 = .ref MsData := (f_hx_wz 58 (by decide)).trans (k58_g_47)
    have k60_g_49 : g_49 60 = .ref MsCodes := (f_hx_wz 60 (by decide)).trans (k60_g_47)
    have k62_g_49 : g_49 62 = .ref MsAddresses := (f_hx_wz 62 (by decide)).trans (k62_g_47)
    have fr_g_49 : frm [57] g g_49 := frm_tr fr_g_47 f_hx_wz (by decide)
    have hcl : OL ++ clS kd sg = (((OL ++ [nI kd]) ++ numL sg) ++ numL 0) := by rw [clS, if_neg hk0]; simp only [List.append_assoc]
    have kx_51 : g_49 57 = .int (nI (OL ++ clS kd sg).length) := by have h9 : g_49 57 = .int (nI (((OL ++ [nI kd]) ++ numL sg) ++ numL 0).length) := wrote_hx_wz; rw [h9]; exact congrArg Value.int (by rw [hcl])
    exact JR g_49 wz _ _ ls (fr_g_49) (kx_51) (by rw [hcl]; exact hx_wz_) (hP.sub [3, 0, 1, 2, 4] rfl) (hD.sub [3, 0, 1, 2, 4] (by decide) rfl) hS (lv_sub hl [0, 1] rfl)
