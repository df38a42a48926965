/-! CODES, by the reference: those that wait as (kind, size, address, MODE) -/
def qM (k z a m : Nat → Int32) (Q : List QI) : Prop := ∀ i, i < Q.length → k i = nI (Q.getD i (0, 0, 0, 0)).1 ∧ z i = nI (Q.getD i (0, 0, 0, 0)).2.1 ∧ a i = nI (Q.getD i (0, 0, 0, 0)).2.2.1 ∧ m i = nI (Q.getD i (0, 0, 0, 0)).2.2.2
theorem fst_step {P : Nat → Bool} {c : Nat} (h : c < 256) (hp : P c = false) : fstC P (256 - c) c = fstC P (256 - (c + 1)) (c + 1) := by
  rw [show 256 - c = 256 - (c + 1) + 1 by omega, fstC, hp]; rfl
theorem fst_hit {P : Nat → Bool} {c : Nat} (h : c < 256) (hp : P c = true) : fstC P (256 - c) c = nI c := by
  rw [show 256 - c = 256 - (c + 1) + 1 by omega, fstC, hp]; rfl
set_option maxHeartbeats 4000000 in
set_option maxRecDepth 100000 in
theorem m_fits (l : Launch) (D : va_G) (cI cB cJ cR : ClassId) (mm : Nat) (g : Nat → Value) (Mtab : Nat) (MqKind : Nat) (MqSize : Nat) (MqMode : Nat) (mtab : Nat → Int32) (mqKind : Nat → Int32) (mqSize : Nat → Int32) (mqMode : Nat → Int32) (tt : Nat → Nat) (rm_ : Nat) (c : Nat) (pt : Nat) (q : Nat) (ws : Bool) (k : Nat) (s : Nat) (m : Nat) (g_tab : g 7 = .ref Mtab) (g_qKind : g 68 = .ref MqKind) (g_qSize : g 69 = .ref MqSize) (g_qMode : g 72 = .ref MqMode) (ht : bys mtab tt 1536) (hrt : rightP tt rm_ 512) (hc : c < 256) (hpt : pt < 2) (hq : q < 4100) (hk : mqKind q = nI k) (hs : mqSize q = nI s) (hm : mqMode q = nI m) (hkb : k < 2 ^ 20 ∧ s < 2 ^ 20 ∧ m < 2 ^ 20) : CMz l yX9_fits cX9_fits 5 (some .boolean) ({ frames := 1, cells := 0, slots := 0, locals := 22 }) D (tyA cI cB cJ cR) 0 0 [.ref mm, .int (nI c), .int (nI pt), .int (nI q), .int (bI ws)] [(mm, .inr (9, fl 78 g)), (Mtab, .inl (cB, 1536, .inl mtab)), (MqKind, .inl (cI, 4100, .inl mqKind)), (MqSize, .inl (cI, 4100, .inl mqSize)), (MqMode, .inl (cI, 4100, .inl mqMode))] (fun (r : Bool) (_ : Unit) => r = fitB tt c pt k (if ws then s else 0) m) (fun (_ : Unit) => [(mm, .inr (9, fl 78 g)), (Mtab, .inl (cB, 1536, .inl mtab)), (MqKind, .inl (cI, 4100, .inl mqKind)), (MqSize, .inl (cI, 4100, .inl mqSize)), (MqMode, .inl (cI, 4100, .inl mqMode))]) := by
  refine st_z (cc := cX9_fits) (maxL := 5) (by decide) (Nat.le_of_ble_eq_true rfl) ?_
  intro p0 e0 s0 m0 below meth c0 A0 Q0 hBD hret hP hD hS ls hl
  obtain ⟨hx, hb, hml, hown, hts, hnm, hK, hNw, hMk, hA⟩ := hBD
  have hl : lv_has ls 5 [(0, .ref mm), (1, .int (nI c)), (2, .int (nI pt)), (3, .int (nI q)), (4, .int (bI ws))] := hl
  have hP : va_P D vwCl [(mm, .inr (9, fl 78 g)), (Mtab, .inl (cB, 1536, .inl mtab)), (MqKind, .inl (cI, 4100, .inl mqKind)), (MqSize, .inl (cI, 4100, .inl mqSize)), (MqMode, .inl (cI, 4100, .inl mqMode))] s0.heap := hP
  have hD : va_D A0 [(mm, .inr (9, fl 78 g)), (Mtab, .inl (cB, 1536, .inl mtab)), (MqKind, .inl (cI, 4100, .inl mqKind)), (MqSize, .inl (cI, 4100, .inl mqSize)), (MqMode, .inl (cI, 4100, .inl mqMode))] := hD
  have hkd := (hrt (pt * 256 + c) (by omega)).1
  have hsd := (ht (512 + pt * 256 + c) (by omega)).2
  have hmd := (ht (1024 + pt * 256 + c) (by omega)).2
  refine lv_aload_n hx hb dX9_fits_0 rfl (lv_at hl 0 rfl) ?_
  refine lv_iload_n hx hb dX9_fits_1 rfl (lv_at hl 1 rfl) ?_
  refine lv_iload_n hx hb dX9_fits_2 rfl (lv_at hl 2 rfl) ?_
  refine jn_i (wr := [(MqKind, .inl (cI, 4100, .inl mqKind)), (MqSize, .inl (cI, 4100, .inl mqSize)), (MqMode, .inl (cI, 4100, .inl mqMode))]) hA hP hD hS [0, 1] [2, 3, 4] rfl rfl (by decide) (by decide) (rn_V (As := [.int (nI c), .int (nI pt)]) (rest := []) ⟨hx, hb, hml, hown, hts⟩ (cvV 2 hts zc_yX9_kindOf zi_X9 zm_yX9_kindOf zv_yX9_kindOf kX9_290 (by decide +kernel) rfl rfl ⟨Nat.le_of_ble_eq_true rfl, Nat.le_of_ble_eq_true rfl⟩) (m_kindOf l D cI cB cJ cR mm g Mtab mtab tt c pt (g_tab) (ht) (hc) (hpt) s0.heap.size) hK hNw hMk hA hP hD hS [0, 1] rfl rfl (by decide) 0 rfl rfl rfl rfl hl.1 rfl (Nat.le_of_ble_eq_true rfl) dX9_fits_3 ⟨Nat.le_of_ble_eq_true rfl, Nat.le_of_ble_eq_true rfl⟩) (fun r_3 u9 H locs w_1 hP hD hS => ?_)
  try dsimp only at w_1
  have hP : va_P D vwCl [(MqKind, .inl (cI, 4100, .inl mqKind)), (MqSize, .inl (cI, 4100, .inl mqSize)), (MqMode, .inl (cI, 4100, .inl mqMode)), (mm, .inr (9, fl 78 g)), (Mtab, .inl (cB, 1536, .inl mtab))] H := hP
  have hD : va_D A0 [(MqKind, .inl (cI, 4100, .inl mqKind)), (MqSize, .inl (cI, 4100, .inl mqSize)), (MqMode, .inl (cI, 4100, .inl mqMode)), (mm, .inr (9, fl 78 g)), (Mtab, .inl (cB, 1536, .inl mtab))] := hD
  rw [s8_lo _ (show tt (pt * 256 + c) < 128 by omega)] at w_1
  subst w_1
  refine lv_aload_n hx hb dX9_fits_6 rfl (lv_at hl 0 rfl) ?_
  refine fx_get (D := D) (ci := 9) (v := .ref MqKind) (C := RX9) (T := TX9) (N := 78) hx hb hts in_X9 hown hK hP 3 rfl rfl 68 (by decide) (hts _ kX9_103) (fun _ h9 => h9) (g_qKind) dX9_fits_7 ?_
  refine lv_iload_n hx hb dX9_fits_10 rfl (lv_at hl 3 rfl) ?_
  refine ax_ild hx hb hK hP 0 0 rfl rfl q (rfl) (hq) (by omega) dX9_fits_11 ?_
  refine ri (y := nI k) (hk) ?_
  refine lv_icmp_ne (tgt := 68) hx hb dX9_fits_12 (by decide) (fun c_4 => ?_) (fun c_4 => ?_)
  · refine lv_iconst (v := 0) hx hb dX9_fits_68 (by decide) ?_
    have hP := hP.sub (ws' := [(mm, .inr (9, fl 78 g)), (Mtab, .inl (cB, 1536, .inl mtab)), (MqKind, .inl (cI, 4100, .inl mqKind)), (MqSize, .inl (cI, 4100, .inl mqSize)), (MqMode, .inl (cI, 4100, .inl mqMode))]) [3, 4, 0, 1, 2] rfl
    have hD := hD.sub (ws' := [(mm, .inr (9, fl 78 g)), (Mtab, .inl (cB, 1536, .inl mtab)), (MqKind, .inl (cI, 4100, .inl mqKind)), (MqSize, .inl (cI, 4100, .inl mqSize)), (MqMode, .inl (cI, 4100, .inl mqMode))]) [3, 4, 0, 1, 2] (by decide) rfl
    exact hret 69 ls _ _ false () dX9_fits_69 hP hD hS (by symm; exact decide_eq_false (fun z => c_4 (by rw [z.1])))
  · have e1 : tt (pt * 256 + c) = k := (nI_eq (by omega) (by omega)).mp c_4
    refine lv_aload_n hx hb dX9_fits_15 rfl (lv_at hl 0 rfl) ?_
    refine lv_iload_n hx hb dX9_fits_16 rfl (lv_at hl 1 rfl) ?_
    refine lv_iload_n hx hb dX9_fits_17 rfl (lv_at hl 2 rfl) ?_
    refine jn_i (wr := [(MqKind, .inl (cI, 4100, .inl mqKind)), (MqSize, .inl (cI, 4100, .inl mqSize)), (MqMode, .inl (cI, 4100, .inl mqMode))]) hA hP hD hS [3, 4] [0, 1, 2] rfl rfl (by decide) (by decide) (rn_V (As := [.int (nI c), .int (nI pt)]) (rest := []) ⟨hx, hb, hml, hown, hts⟩ (cvV 2 hts zc_yX9_sizeOf zi_X9 zm_yX9_sizeOf zv_yX9_sizeOf kX9_298 (by decide +kernel) rfl rfl ⟨Nat.le_of_ble_eq_true rfl, Nat.le_of_ble_eq_true rfl⟩) (m_sizeOf l D cI cB cJ cR mm g Mtab mtab tt c pt (g_tab) (ht) (hc) (hpt) H.size) hK hNw hMk hA hP hD hS [3, 4] rfl rfl (by decide) 0 rfl rfl rfl rfl hl.1 rfl (Nat.le_of_ble_eq_true rfl) dX9_fits_18 ⟨Nat.le_of_ble_eq_true rfl, Nat.le_of_ble_eq_true rfl⟩) (fun r_7 u9 H locs w_5 hP hD hS => ?_)
    try dsimp only at w_5
    have hP : va_P D vwCl [(MqKind, .inl (cI, 4100, .inl mqKind)), (MqSize, .inl (cI, 4100, .inl mqSize)), (MqMode, .inl (cI, 4100, .inl mqMode)), (mm, .inr (9, fl 78 g)), (Mtab, .inl (cB, 1536, .inl mtab))] H := hP
    have hD : va_D A0 [(MqKind, .inl (cI, 4100, .inl mqKind)), (MqSize, .inl (cI, 4100, .inl mqSize)), (MqMode, .inl (cI, 4100, .inl mqMode)), (mm, .inr (9, fl 78 g)), (Mtab, .inl (cB, 1536, .inl mtab))] := hD
    subst w_5
    refine lv_iload hx hb dX9_fits_21 (lv_at hl 4 rfl) ?_
    refine bz_eq (tgt := 35) hx hb dX9_fits_23 (by decide) (fun c_8 => ?_) (fun c_8 => ?_)
    · refine lv_iconst (v := 0) hx hb dX9_fits_35 (by decide) ?_
      refine ri (y := nI 0) (nI_0.symm) ?_
      have hws9 : (if ws then s else 0) = 0 := by rw [c_8]; rfl
      refine lv_icmp_ne (tgt := 68) hx hb dX9_fits_36 (by decide) (fun c_9 => ?_) (fun c_9 => ?_)
      · refine lv_iconst (v := 0) hx hb dX9_fits_68 (by decide) ?_
        have hP := hP.sub (ws' := [(mm, .inr (9, fl 78 g)), (Mtab, .inl (cB, 1536, .inl mtab)), (MqKind, .inl (cI, 4100, .inl mqKind)), (MqSize, .inl (cI, 4100, .inl mqSize)), (MqMode, .inl (cI, 4100, .inl mqMode))]) [3, 4, 0, 1, 2] rfl
        have hD := hD.sub (ws' := [(mm, .inr (9, fl 78 g)), (Mtab, .inl (cB, 1536, .inl mtab)), (MqKind, .inl (cI, 4100, .inl mqKind)), (MqSize, .inl (cI, 4100, .inl mqSize)), (MqMode, .inl (cI, 4100, .inl mqMode))]) [3, 4, 0, 1, 2] (by decide) rfl
        exact hret 69 ls _ _ false () dX9_fits_69 hP hD hS (by symm; exact decide_eq_false (fun z => c_9 (by rw [z.2.1, hws9])))
      · have e2 : tt (512 + pt * 256 + c) = 0 := (nI_eq (by omega) (by omega)).mp c_9
        refine lv_aload_n hx hb dX9_fits_39 rfl (lv_at hl 0 rfl) ?_
        refine fx_get (D := D) (ci := 9) (v := .ref MqKind) (C := RX9) (T := TX9) (N := 78) hx hb hts in_X9 hown hK hP 3 rfl rfl 68 (by decide) (hts _ kX9_103) (fun _ h9 => h9) (g_qKind) dX9_fits_40 ?_
        refine lv_iload_n hx hb dX9_fits_43 rfl (lv_at hl 3 rfl) ?_
        refine ax_ild hx hb hK hP 0 0 rfl rfl q (rfl) (hq) (by omega) dX9_fits_44 ?_
        refine ri (y := nI k) (hk) ?_
        refine lv_iconst (v := 3) hx hb dX9_fits_45 (by decide) ?_
        refine lv_icmp_ne (tgt := 64) hx hb dX9_fits_46 (by decide) (fun c_10 => ?_) (fun c_10 => ?_)
        · refine lv_iconst (v := 1) hx hb dX9_fits_64 (by decide) ?_
          refine lv_goto (tgt := 69) hx hb dX9_fits_65 (by decide) ?_
          have hP := hP.sub (ws' := [(mm, .inr (9, fl 78 g)), (Mtab, .inl (cB, 1536, .inl mtab)), (MqKind, .inl (cI, 4100, .inl mqKind)), (MqSize, .inl (cI, 4100, .inl mqSize)), (MqMode, .inl (cI, 4100, .inl mqMode))]) [3, 4, 0, 1, 2] rfl
          have hD := hD.sub (ws' := [(mm, .inr (9, fl 78 g)), (Mtab, .inl (cB, 1536, .inl mtab)), (MqKind, .inl (cI, 4100, .inl mqKind)), (MqSize, .inl (cI, 4100, .inl mqSize)), (MqMode, .inl (cI, 4100, .inl mqMode))]) [3, 4, 0, 1, 2] (by decide) rfl
          exact hret 69 ls _ _ true () dX9_fits_69 hP hD hS (by symm; exact decide_eq_true ⟨e1, by rw [hws9]; exact e2, fun z => absurd (by rw [z]; rfl) c_10⟩)
        · have hk3 : k = 3 := (nI_eq (b := 3) (by omega) (by decide)).mp c_10
          refine lv_aload_n hx hb dX9_fits_49 rfl (lv_at hl 0 rfl) ?_
          refine lv_iload_n hx hb dX9_fits_50 rfl (lv_at hl 1 rfl) ?_
          refine lv_iload_n hx hb dX9_fits_51 rfl (lv_at hl 2 rfl) ?_
          refine jn_i (wr := [(MqKind, .inl (cI, 4100, .inl mqKind)), (MqSize, .inl (cI, 4100, .inl mqSize)), (MqMode, .inl (cI, 4100, .inl mqMode))]) hA hP hD hS [3, 4] [0, 1, 2] rfl rfl (by decide) (by decide) (rn_V (As := [.int (nI c), .int (nI pt)]) (rest := []) ⟨hx, hb, hml, hown, hts⟩ (cvV 2 hts zc_yX9_modeOf zi_X9 zm_yX9_modeOf zv_yX9_modeOf kX9_305 (by decide +kernel) rfl rfl ⟨Nat.le_of_ble_eq_true rfl, Nat.le_of_ble_eq_true rfl⟩) (m_modeOf l D cI cB cJ cR mm g Mtab mtab tt c pt (g_tab) (ht) (hc) (hpt) H.size) hK hNw hMk hA hP hD hS [3, 4] rfl rfl (by decide) 0 rfl rfl rfl rfl hl.1 rfl (Nat.le_of_ble_eq_true rfl) dX9_fits_52 ⟨Nat.le_of_ble_eq_true rfl, Nat.le_of_ble_eq_true rfl⟩) (fun r_13 u9 H locs w_11 hP hD hS => ?_)
          try dsimp only at w_11
          have hP : va_P D vwCl [(MqKind, .inl (cI, 4100, .inl mqKind)), (MqSize, .inl (cI, 4100, .inl mqSize)), (MqMode, .inl (cI, 4100, .inl mqMode)), (mm, .inr (9, fl 78 g)), (Mtab, .inl (cB, 1536, .inl mtab))] H := hP
          have hD : va_D A0 [(MqKind, .inl (cI, 4100, .inl mqKind)), (MqSize, .inl (cI, 4100, .inl mqSize)), (MqMode, .inl (cI, 4100, .inl mqMode)), (mm, .inr (9, fl 78 g)), (Mtab, .inl (cB, 1536, .inl mtab))] := hD
          subst w_11
          refine lv_aload_n hx hb dX9_fits_55 rfl (lv_at hl 0 rfl) ?_
          refine fx_get (D := D) (ci := 9) (v := .ref MqMode) (C := RX9) (T := TX9) (N := 78) hx hb hts in_X9 hown hK hP 3 rfl rfl 72 (by decide) (hts _ kX9_115) (fun _ h9 => h9) (g_qMode) dX9_fits_56 ?_
          refine lv_iload_n hx hb dX9_fits_59 rfl (lv_at hl 3 rfl) ?_
          refine ax_ild hx hb hK hP 2 0 rfl rfl q (rfl) (hq) (by omega) dX9_fits_60 ?_
          refine ri (y := nI m) (hm) ?_
          refine lv_icmp_ne (tgt := 68) hx hb dX9_fits_61 (by decide) (fun c_14 => ?_) (fun c_14 => ?_)
          · refine lv_iconst (v := 0) hx hb dX9_fits_68 (by decide) ?_
            have hP := hP.sub (ws' := [(mm, .inr (9, fl 78 g)), (Mtab, .inl (cB, 1536, .inl mtab)), (MqKind, .inl (cI, 4100, .inl mqKind)), (MqSize, .inl (cI, 4100, .inl mqSize)), (MqMode, .inl (cI, 4100, .inl mqMode))]) [3, 4, 0, 1, 2] rfl
            have hD := hD.sub (ws' := [(mm, .inr (9, fl 78 g)), (Mtab, .inl (cB, 1536, .inl mtab)), (MqKind, .inl (cI, 4100, .inl mqKind)), (MqSize, .inl (cI, 4100, .inl mqSize)), (MqMode, .inl (cI, 4100, .inl mqMode))]) [3, 4, 0, 1, 2] (by decide) rfl
            exact hret 69 ls _ _ false () dX9_fits_69 hP hD hS (by symm; exact decide_eq_false (fun z => c_14 (by rw [z.2.2 hk3])))
          · refine lv_iconst (v := 1) hx hb dX9_fits_64 (by decide) ?_
            refine lv_goto (tgt := 69) hx hb dX9_fits_65 (by decide) ?_
            have hP := hP.sub (ws' := [(mm, .inr (9, fl 78 g)), (Mtab, .inl (cB, 1536, .inl mtab)), (MqKind, .inl (cI, 4100, .inl mqKind)), (MqSize, .inl (cI, 4100, .inl mqSize)), (MqMode, .inl (cI, 4100, .inl mqMode))]) [3, 4, 0, 1, 2] rfl
            have hD := hD.sub (ws' := [(mm, .inr (9, fl 78 g)), (Mtab, .inl (cB, 1536, .inl mtab)), (MqKind, .inl (cI, 4100, .inl mqKind)), (MqSize, .inl (cI, 4100, .inl mqSize)), (MqMode, .inl (cI, 4100, .inl mqMode))]) [3, 4, 0, 1, 2] (by decide) rfl
            exact hret 69 ls _ _ true () dX9_fits_69 hP hD hS (by symm; exact decide_eq_true ⟨e1, by rw [hws9]; exact e2, fun _ => (nI_eq (by omega) (by omega)).mp c_14⟩)
    · refine lv_aload_n hx hb dX9_fits_26 rfl (lv_at hl 0 rfl) ?_
      refine fx_get (D := D) (ci := 9) (v := .ref MqSize) (C := RX9) (T := TX9) (N := 78) hx hb hts in_X9 hown hK hP 3 rfl rfl 69 (by decide) (hts _ kX9_106) (fun _ h9 => h9) (g_qSize) dX9_fits_27 ?_
      refine lv_iload_n hx hb dX9_fits_30 rfl (lv_at hl 3 rfl) ?_
      refine ax_ild hx hb hK hP 1 0 rfl rfl q (rfl) (hq) (by omega) dX9_fits_31 ?_
      refine ri (y := nI s) (hs) ?_
      refine lv_goto (tgt := 36) hx hb dX9_fits_32 (by decide) ?_
      have hws9 : (if ws then s else 0) = s := by rw [c_8]; rfl
      refine lv_icmp_ne (tgt := 68) hx hb dX9_fits_36 (by decide) (fun c_15 => ?_) (fun c_15 => ?_)
      · refine lv_iconst (v := 0) hx hb dX9_fits_68 (by decide) ?_
        have hP := hP.sub (ws' := [(mm, .inr (9, fl 78 g)), (Mtab, .inl (cB, 1536, .inl mtab)), (MqKind, .inl (cI, 4100, .inl mqKind)), (MqSize, .inl (cI, 4100, .inl mqSize)), (MqMode, .inl (cI, 4100, .inl mqMode))]) [3, 4, 0, 1, 2] rfl
        have hD := hD.sub (ws' := [(mm, .inr (9, fl 78 g)), (Mtab, .inl (cB, 1536, .inl mtab)), (MqKind, .inl (cI, 4100, .inl mqKind)), (MqSize, .inl (cI, 4100, .inl mqSize)), (MqMode, .inl (cI, 4100, .inl mqMode))]) [3, 4, 0, 1, 2] (by decide) rfl
        exact hret 69 ls _ _ false () dX9_fits_69 hP hD hS (by symm; exact decide_eq_false (fun z => c_15 (by rw [z.2.1, hws9])))
      · have e2 : tt (512 + pt * 256 + c) = s := (nI_eq (by omega) (by omega)).mp c_15
        refine lv_aload_n hx hb dX9_fits_39 rfl (lv_at hl 0 rfl) ?_
        refine fx_get (D := D) (ci := 9) (v := .ref MqKind) (C := RX9) (T := TX9) (N := 78) hx hb hts in_X9 hown hK hP 3 rfl rfl 68 (by decide) (hts _ kX9_103) (fun _ h9 => h9) (g_qKind) dX9_fits_40 ?_
        refine lv_iload_n hx hb dX9_fits_43 rfl (lv_at hl 3 rfl) ?_
        refine ax_ild hx hb hK hP 0 0 rfl rfl q (rfl) (hq) (by omega) dX9_fits_44 ?_
        refine ri (y := nI k) (hk) ?_
        refine lv_iconst (v := 3) hx hb dX9_fits_45 (by decide) ?_
        refine lv_icmp_ne (tgt := 64) hx hb dX9_fits_46 (by decide) (fun c_16 => ?_) (fun c_16 => ?_)
        · refine lv_iconst (v := 1) hx hb dX9_fits_64 (by decide) ?_
          refine lv_goto (tgt := 69) hx hb dX9_fits_65 (by decide) ?_
          have hP := hP.sub (ws' := [(mm, .inr (9, fl 78 g)), (Mtab, .inl (cB, 1536, .inl mtab)), (MqKind, .inl (cI, 4100, .inl mqKind)), (MqSize, .inl (cI, 4100, .inl mqSize)), (MqMode, .inl (cI, 4100, .inl mqMode))]) [3, 4, 0, 1, 2] rfl
          have hD := hD.sub (ws' := [(mm, .inr (9, fl 78 g)), (Mtab, .inl (cB, 1536, .inl mtab)), (MqKind, .inl (cI, 4100, .inl mqKind)), (MqSize, .inl (cI, 4100, .inl mqSize)), (MqMode, .inl (cI, 4100, .inl mqMode))]) [3, 4, 0, 1, 2] (by decide) rfl
          exact hret 69 ls _ _ true () dX9_fits_69 hP hD hS (by symm; exact decide_eq_true ⟨e1, by rw [hws9]; exact e2, fun z => absurd (by rw [z]; rfl) c_16⟩)
        · have hk3 : k = 3 := (nI_eq (b := 3) (by omega) (by decide)).mp c_16
          refine lv_aload_n hx hb dX9_fits_49 rfl (lv_at hl 0 rfl) ?_
          refine lv_iload_n hx hb dX9_fits_50 rfl (lv_at hl 1 rfl) ?_
          refine lv_iload_n hx hb dX9_fits_51 rfl (lv_at hl 2 rfl) ?_
          refine jn_i (wr := [(MqKind, .inl (cI, 4100, .inl mqKind)), (MqSize, .inl (cI, 4100, .inl mqSize)), (MqMode, .inl (cI, 4100, .inl mqMode))]) hA hP hD hS [3, 4] [0, 1, 2] rfl rfl (by decide) (by decide) (rn_V (As := [.int (nI c), .int (nI pt)]) (rest := []) ⟨hx, hb, hml, hown, hts⟩ (cvV 2 hts zc_yX9_modeOf zi_X9 zm_yX9_modeOf zv_yX9_modeOf kX9_305 (by decide +kernel) rfl rfl ⟨Nat.le_of_ble_eq_true rfl, Nat.le_of_ble_eq_true rfl⟩) (m_modeOf l D cI cB cJ cR mm g Mtab mtab tt c pt (g_tab) (ht) (hc) (hpt) H.size) hK hNw hMk hA hP hD hS [3, 4] rfl rfl (by decide) 0 rfl rfl rfl rfl hl.1 rfl (Nat.le_of_ble_eq_true rfl) dX9_fits_52 ⟨Nat.le_of_ble_eq_true rfl, Nat.le_of_ble_eq_true rfl⟩) (fun r_19 u9 H locs w_17 hP hD hS => ?_)
          try dsimp only at w_17
          have hP : va_P D vwCl [(MqKind, .inl (cI, 4100, .inl mqKind)), (MqSize, .inl (cI, 4100, .inl mqSize)), (MqMode, .inl (cI, 4100, .inl mqMode)), (mm, .inr (9, fl 78 g)), (Mtab, .inl (cB, 1536, .inl mtab))] H := hP
          have hD : va_D A0 [(MqKind, .inl (cI, 4100, .inl mqKind)), (MqSize, .inl (cI, 4100, .inl mqSize)), (MqMode, .inl (cI, 4100, .inl mqMode)), (mm, .inr (9, fl 78 g)), (Mtab, .inl (cB, 1536, .inl mtab))] := hD
          subst w_17
          refine lv_aload_n hx hb dX9_fits_55 rfl (lv_at hl 0 rfl) ?_
          refine fx_get (D := D) (ci := 9) (v := .ref MqMode) (C := RX9) (T := TX9) (N := 78) hx hb hts in_X9 hown hK hP 3 rfl rfl 72 (by decide) (hts _ kX9_115) (fun _ h9 => h9) (g_qMode) dX9_fits_56 ?_
          refine lv_iload_n hx hb dX9_fits_59 rfl (lv_at hl 3 rfl) ?_
          refine ax_ild hx hb hK hP 2 0 rfl rfl q (rfl) (hq) (by omega) dX9_fits_60 ?_
          refine ri (y := nI m) (hm) ?_
          refine lv_icmp_ne (tgt := 68) hx hb dX9_fits_61 (by decide) (fun c_20 => ?_) (fun c_20 => ?_)
          · refine lv_iconst (v := 0) hx hb dX9_fits_68 (by decide) ?_
            have hP := hP.sub (ws' := [(mm, .inr (9, fl 78 g)), (Mtab, .inl (cB, 1536, .inl mtab)), (MqKind, .inl (cI, 4100, .inl mqKind)), (MqSize, .inl (cI, 4100, .inl mqSize)), (MqMode, .inl (cI, 4100, .inl mqMode))]) [3, 4, 0, 1, 2] rfl
            have hD := hD.sub (ws' := [(mm, .inr (9, fl 78 g)), (Mtab, .inl (cB, 1536, .inl mtab)), (MqKind, .inl (cI, 4100, .inl mqKind)), (MqSize, .inl (cI, 4100, .inl mqSize)), (MqMode, .inl (cI, 4100, .inl mqMode))]) [3, 4, 0, 1, 2] (by decide) rfl
            exact hret 69 ls _ _ false () dX9_fits_69 hP hD hS (by symm; exact decide_eq_false (fun z => c_20 (by rw [z.2.2 hk3])))
          · refine lv_iconst (v := 1) hx hb dX9_fits_64 (by decide) ?_
            refine lv_goto (tgt := 69) hx hb dX9_fits_65 (by decide) ?_
            have hP := hP.sub (ws' := [(mm, .inr (9, fl 78 g)), (Mtab, .inl (cB, 1536, .inl mtab)), (MqKind, .inl (cI, 4100, .inl mqKind)), (MqSize, .inl (cI, 4100, .inl mqSize)), (MqMode, .inl (cI, 4100, .inl mqMode))]) [3, 4, 0, 1, 2] rfl
            have hD := hD.sub (ws' := [(mm, .inr (9, fl 78 g)), (Mtab, .inl (cB, 1536, .inl mtab)), (MqKind, .inl (cI, 4100, .inl mqKind)), (MqSize, .inl (cI, 4100, .inl mqSize)), (MqMode, .inl (cI, 4100, .inl mqMode))]) [3, 4, 0, 1, 2] (by decide) rfl
            exact hret 69 ls _ _ true () dX9_fits_69 hP hD hS (by symm; exact decide_eq_true ⟨e1, by rw [hws9]; exact e2, fun _ => (nI_eq (by omega) (by omega)).mp c_20⟩)

set_option maxHeartbeats 4000000 in
set_option maxRecDepth 100000 in
theorem m_codeFor (l : Launch) (D : va_G) (cI cB cJ cR : ClassId) (mm : Nat) (g : Nat → Value) (Mtab : Nat) (MqKind : Nat) (MqSize : Nat) (MqAddress : Nat) (MqMode : Nat) (mtab : Nat → Int32) (mqKind : Nat → Int32) (mqSize : Nat → Int32) (mqAddress : Nat → Int32) (mqMode : Nat → Int32) (tt : Nat → Nat) (rm_ : Nat) (Q : List QI) (q : Nat) (g_waits : g 67 = .int (nI Q.length)) (g_tab : g 7 = .ref Mtab) (g_qKind : g 68 = .ref MqKind) (g_qSize : g 69 = .ref MqSize) (g_qAddress : g 71 = .ref MqAddress) (g_qMode : g 72 = .ref MqMode) (ht : bys mtab tt 1536) (hrt : rightP tt rm_ 512) (hq4 : Q.length ≤ 4000) (hqn : q < Q.length) (hqm : qM mqKind mqSize mqAddress mqMode Q) (hqo : qOk Q) : CMi l yX9_codeFor cX9_codeFor 3 (some .int) ({ frames := 2, cells := 0, slots := 0, locals := 46 }) D (tyA cI cB cJ cR) 0 0 [.ref mm, .int (nI q)] [(mm, .inr (9, fl 78 g)), (Mtab, .inl (cB, 1536, .inl mtab)), (MqKind, .inl (cI, 4100, .inl mqKind)), (MqSize, .inl (cI, 4100, .inl mqSize)), (MqAddress, .inl (cI, 4100, .inl mqAddress)), (MqMode, .inl (cI, 4100, .inl mqMode))] (fun (r : Int32) (_ : Unit) => (q + 1 < Q.length → ¬ (pr1 tt (Q.getD q (0, 0, 0, 0)) (Q.getD (q + 1) (0, 0, 0, 0))) < 0 → r = 1000 + (pr1 tt (Q.getD q (0, 0, 0, 0)) (Q.getD (q + 1) (0, 0, 0, 0)))) ∧ ((q + 1 < Q.length → (pr1 tt (Q.getD q (0, 0, 0, 0)) (Q.getD (q + 1) (0, 0, 0, 0))) < 0) → (¬ (fstC (sngP tt (Q.getD q (0, 0, 0, 0)).1 (Q.getD q (0, 0, 0, 0)).2.1 (Q.getD q (0, 0, 0, 0)).2.2.2) 256 0) < 0 → r = (fstC (sngP tt (Q.getD q (0, 0, 0, 0)).1 (Q.getD q (0, 0, 0, 0)).2.1 (Q.getD q (0, 0, 0, 0)).2.2.2) 256 0)) ∧ ((fstC (sngP tt (Q.getD q (0, 0, 0, 0)).1 (Q.getD q (0, 0, 0, 0)).2.1 (Q.getD q (0, 0, 0, 0)).2.2.2) 256 0) < 0 → r = (fstC (sngP tt (Q.getD q (0, 0, 0, 0)).1 0 (Q.getD q (0, 0, 0, 0)).2.2.2) 256 0)))) (fun (_ : Unit) => [(mm, .inr (9, fl 78 g)), (Mtab, .inl (cB, 1536, .inl mtab)), (MqKind, .inl (cI, 4100, .inl mqKind)), (MqSize, .inl (cI, 4100, .inl mqSize)), (MqAddress, .inl (cI, 4100, .inl mqAddress)), (MqMode, .inl (cI, 4100, .inl mqMode))]) := by
  refine st_i (cc := cX9_codeFor) (maxL := 3) (by decide) (Nat.le_of_ble_eq_true rfl) ?_
  intro p0 e0 s0 m0 below meth c0 A0 Q0 hBD hret hP hD hS ls hl
  obtain ⟨hx, hb, hml, hown, hts, hnm, hK, hNw, hMk, hA⟩ := hBD
  have hl : lv_has ls 3 [(0, .ref mm), (1, .int (nI q))] := hl
  have hP : va_P D vwCl [(mm, .inr (9, fl 78 g)), (Mtab, .inl (cB, 1536, .inl mtab)), (MqKind, .inl (cI, 4100, .inl mqKind)), (MqSize, .inl (cI, 4100, .inl mqSize)), (MqAddress, .inl (cI, 4100, .inl mqAddress)), (MqMode, .inl (cI, 4100, .inl mqMode))] s0.heap := hP
  have hD : va_D A0 [(mm, .inr (9, fl 78 g)), (Mtab, .inl (cB, 1536, .inl mtab)), (MqKind, .inl (cI, 4100, .inl mqKind)), (MqSize, .inl (cI, 4100, .inl mqSize)), (MqAddress, .inl (cI, 4100, .inl mqAddress)), (MqMode, .inl (cI, 4100, .inl mqMode))] := hD
  have hx9 := hqm q hqn
  have hxm : (Q.getD q (0, 0, 0, 0)) ∈ Q := by rw [List.getD_eq_getElem?_getD, List.getElem?_eq_getElem hqn]; exact List.getElem_mem hqn
  have hxo := hqo _ hxm
  refine lv_iconst (v := 0) hx hb dX9_codeFor_0 (by decide) ?_
  refine ri (y := nI 0) (nI_0.symm) ?_
  refine lv_istore_n (lv' := [(2, .int (nI 0)), (0, .ref mm), (1, .int (nI q))]) hx hb dX9_codeFor_1 rfl hl (by decide) rfl (fun ls hl => ?_)
  have J2 : ∀ (c : Nat) (H : Heap) (locs : List Loc) (ls : Array Slot), (q + 1 < Q.length → (pr1 tt (Q.getD q (0, 0, 0, 0)) (Q.getD (q + 1) (0, 0, 0, 0))) < 0) → va_P D vwCl [(mm, .inr (9, fl 78 g)), (Mtab, .inl (cB, 1536, .inl mtab)), (MqKind, .inl (cI, 4100, .inl mqKind)), (MqSize, .inl (cI, 4100, .inl mqSize)), (MqAddress, .inl (cI, 4100, .inl mqAddress)), (MqMode, .inl (cI, 4100, .inl mqMode))] H → va_D A0 [(mm, .inr (9, fl 78 g)), (Mtab, .inl (cB, 1536, .inl mtab)), (MqKind, .inl (cI, 4100, .inl mqKind)), (MqSize, .inl (cI, 4100, .inl mqSize)), (MqAddress, .inl (cI, 4100, .inl mqAddress)), (MqMode, .inl (cI, 4100, .inl mqMode))] → va_S A0 s0.heap H locs → lv_has ls 3 [(0, .ref mm), (1, .int (nI q)), (2, .int (nI c))] → W p0 l e0 ({ frames := 2, cells := 0, slots := 0, locals := 46 }) s0 m0 ([.ref mm, .int (nI q)] : List Value).toArray below meth c0 H locs 0 0 Q0 (F0 m0 55 ls []) := by
    intro c H locs ls hpr hP hD hS hl
    refine lv_iconst (v := 0) hx hb dX9_codeFor_55 (by decide) ?_
    refine ri (y := nI 0) (nI_0.symm) ?_
    refine lv_istore_n (lv' := [(2, .int (nI 0)), (0, .ref mm), (1, .int (nI q))]) hx hb dX9_codeFor_56 rfl hl (by decide) rfl (fun ls hl => ?_)
    have l2 : ∀ (k9 : Nat) (c : Nat) (H : Heap) (locs : List Loc) (ls : Array Slot), 256 - c < k9 → (c ≤ 256) → ((fstC (sngP tt (Q.getD q (0, 0, 0, 0)).1 (Q.getD q (0, 0, 0, 0)).2.1 (Q.getD q (0, 0, 0, 0)).2.2.2) 256 0) = fstC (sngP tt (Q.getD q (0, 0, 0, 0)).1 (Q.getD q (0, 0, 0, 0)).2.1 (Q.getD q (0, 0, 0, 0)).2.2.2) (256 - c) c) → va_P D vwCl [(mm, .inr (9, fl 78 g)), (Mtab, .inl (cB, 1536, .inl mtab)), (MqKind, .inl (cI, 4100, .inl mqKind)), (MqSize, .inl (cI, 4100, .inl mqSize)), (MqAddress, .inl (cI, 4100, .inl mqAddress)), (MqMode, .inl (cI, 4100, .inl mqMode))] H → va_D A0 [(mm, .inr (9, fl 78 g)), (Mtab, .inl (cB, 1536, .inl mtab)), (MqKind, .inl (cI, 4100, .inl mqKind)), (MqSize, .inl (cI, 4100, .inl mqSize)), (MqAddress, .inl (cI, 4100, .inl mqAddress)), (MqMode, .inl (cI, 4100, .inl mqMode))] → va_S A0 s0.heap H locs → lv_has ls 3 [(0, .ref mm), (1, .int (nI q)), (2, .int (nI c))] → W p0 l e0 ({ frames := 2, cells := 0, slots := 0, locals := 46 }) s0 m0 ([.ref mm, .int (nI q)] : List Value).toArray below meth c0 H locs 0 0 Q0 (F0 m0 57 ls []) := by
      intro k9
      induction k9 with
      | zero => intro c H locs ls hk9; exact absurd hk9 (Nat.not_lt_zero _)
      | succ k9 ih =>
        intro c H locs ls hk9 hcl hsc hP hD hS hl
        refine lv_iload_n hx hb dX9_codeFor_57 rfl (lv_at hl 2 rfl) ?_
        refine lv_sipush (v := 256) hx hb dX9_codeFor_58 (by decide) ?_
        refine lv_icmp_ge (tgt := 92) hx hb dX9_codeFor_61 (by decide) (fun c_1 => ?_) (fun c_1 => ?_)
        · have hc9 : c = 256 := by have := (nI_leI (a := 256) (by decide) (by omega)).mp c_1; omega
          have hno : (fstC (sngP tt (Q.getD q (0, 0, 0, 0)).1 (Q.getD q (0, 0, 0, 0)).2.1 (Q.getD q (0, 0, 0, 0)).2.2.2) 256 0) = -1 := by rw [hsc, hc9]; rfl
          have hno1 := hno
          refine lv_iconst (v := 0) hx hb dX9_codeFor_92 (by decide) ?_
          refine ri (y := nI 0) (nI_0.symm) ?_
          refine lv_istore_n (lv' := [(2, .int (nI 0)), (0, .ref mm), (1, .int (nI q))]) hx hb dX9_codeFor_93 rfl hl (by decide) rfl (fun ls hl => ?_)
          have l3 : ∀ (k9 : Nat) (c : Nat) (H : Heap) (locs : List Loc) (ls : Array Slot), 256 - c < k9 → (c ≤ 256) → ((fstC (sngP tt (Q.getD q (0, 0, 0, 0)).1 0 (Q.getD q (0, 0, 0, 0)).2.2.2) 256 0) = fstC (sngP tt (Q.getD q (0, 0, 0, 0)).1 0 (Q.getD q (0, 0, 0, 0)).2.2.2) (256 - c) c) → va_P D vwCl [(mm, .inr (9, fl 78 g)), (Mtab, .inl (cB, 1536, .inl mtab)), (MqKind, .inl (cI, 4100, .inl mqKind)), (MqSize, .inl (cI, 4100, .inl mqSize)), (MqAddress, .inl (cI, 4100, .inl mqAddress)), (MqMode, .inl (cI, 4100, .inl mqMode))] H → va_D A0 [(mm, .inr (9, fl 78 g)), (Mtab, .inl (cB, 1536, .inl mtab)), (MqKind, .inl (cI, 4100, .inl mqKind)), (MqSize, .inl (cI, 4100, .inl mqSize)), (MqAddress, .inl (cI, 4100, .inl mqAddress)), (MqMode, .inl (cI, 4100, .inl mqMode))] → va_S A0 s0.heap H locs → lv_has ls 3 [(0, .ref mm), (1, .int (nI q)), (2, .int (nI c))] → W p0 l e0 ({ frames := 2, cells := 0, slots := 0, locals := 46 }) s0 m0 ([.ref mm, .int (nI q)] : List Value).toArray below meth c0 H locs 0 0 Q0 (F0 m0 94 ls []) := by
            intro k9
            induction k9 with
            | zero => intro c H locs ls hk9; exact absurd hk9 (Nat.not_lt_zero _)
            | succ k9 ih =>
              intro c H locs ls hk9 hcl hsc hP hD hS hl
              refine lv_iload_n hx hb dX9_codeFor_94 rfl (lv_at hl 2 rfl) ?_
              refine lv_sipush (v := 256) hx hb dX9_codeFor_95 (by decide) ?_
              refine lv_icmp_ge (tgt := 129) hx hb dX9_codeFor_98 (by decide) (fun c_2 => ?_) (fun c_2 => ?_)
              · have hc9 : c = 256 := by have := (nI_leI (a := 256) (by decide) (by omega)).mp c_2; omega
                have hno : (fstC (sngP tt (Q.getD q (0, 0, 0, 0)).1 0 (Q.getD q (0, 0, 0, 0)).2.2.2) 256 0) = -1 := by rw [hsc, hc9]; rfl
                refine lv_iconst (v := -1) hx hb dX9_codeFor_129 (by decide) ?_
                exact hret 130 ls _ _ _ () dX9_codeFor_130 hP hD hS (⟨fun a b => absurd (hpr a) b, fun _ => ⟨fun z => absurd (by rw [hno1]; decide) z, fun _ => hno.symm⟩⟩)
              · have hc9 : c < 256 := Nat.not_le.mp (fun z => c_2 (nI_le (a := 256) z (by omega)))
                refine lv_aload_n hx hb dX9_codeFor_101 rfl (lv_at hl 0 rfl) ?_
                refine lv_iload_n hx hb dX9_codeFor_102 rfl (lv_at hl 2 rfl) ?_
                refine lv_iconst (v := 0) hx hb dX9_codeFor_103 (by decide) ?_
                refine ri (y := nI 0) nI_0.symm ?_
                refine lv_iload_n hx hb dX9_codeFor_104 rfl (lv_at hl 1 rfl) ?_
                refine lv_iconst (v := 0) hx hb dX9_codeFor_105 (by decide) ?_
                refine ri (y := bI false) rfl ?_
                refine jn_i (wr := [(MqAddress, .inl (cI, 4100, .inl mqAddress))]) hA hP hD hS [0, 1, 2, 3, 5] [4] rfl rfl (by decide) (by decide) (rn_V (As := [.int (nI c), .int (nI 0), .int (nI q), .int (bI false)]) (rest := []) ⟨hx, hb, hml, hown, hts⟩ (cvV 4 hts zc_yX9_fits zi_X9 zm_yX9_fits zv_yX9_fits kX9_381 (by decide +kernel) rfl rfl ⟨Nat.le_of_ble_eq_true rfl, Nat.le_of_ble_eq_true rfl⟩) (m_fits l D cI cB cJ cR mm g Mtab MqKind MqSize MqMode mtab mqKind mqSize mqMode tt rm_ c 0 q false (Q.getD q (0, 0, 0, 0)).1 (Q.getD q (0, 0, 0, 0)).2.1 (Q.getD q (0, 0, 0, 0)).2.2.2 (g_tab) (g_qKind) (g_qSize) (g_qMode) (ht) (hrt) (hc9) (by decide) (by omega) (hx9.1) (hx9.2.1) (hx9.2.2.2) (hxo) H.size) hK hNw hMk hA hP hD hS [0, 1, 2, 3, 5] rfl rfl (by decide) 0 rfl rfl rfl rfl hl.1 rfl (Nat.le_of_ble_eq_true rfl) dX9_codeFor_106 ⟨Nat.le_of_ble_eq_true rfl, Nat.le_of_ble_eq_true rfl⟩) (fun rf u9 H locs hrf hP hD hS => ?_)
                obtain ⟨rfb, rfl, hrf⟩ := hrf
                try dsimp only at hrf
                have hP : va_P D vwCl [(MqAddress, .inl (cI, 4100, .inl mqAddress)), (mm, .inr (9, fl 78 g)), (Mtab, .inl (cB, 1536, .inl mtab)), (MqKind, .inl (cI, 4100, .inl mqKind)), (MqSize, .inl (cI, 4100, .inl mqSize)), (MqMode, .inl (cI, 4100, .inl mqMode))] H := hP
                have hD : va_D A0 [(MqAddress, .inl (cI, 4100, .inl mqAddress)), (mm, .inr (9, fl 78 g)), (Mtab, .inl (cB, 1536, .inl mtab)), (MqKind, .inl (cI, 4100, .inl mqKind)), (MqSize, .inl (cI, 4100, .inl mqSize)), (MqMode, .inl (cI, 4100, .inl mqMode))] := hD
                refine bz_eq (tgt := 123) hx hb dX9_codeFor_109 (by decide) (fun c_4 => ?_) (fun c_4 => ?_)
                · refine lv_iinc (v := nI (c + 1)) (lv' := [(2, .int (nI (c + 1))), (0, .ref mm), (1, .int (nI q))]) hx hb dX9_codeFor_123 hl (k := 2) rfl (nI_add c 1) (by decide) rfl (fun ls hl => ?_)
                  refine lv_goto (tgt := 94) hx hb dX9_codeFor_126 (by decide) ?_
                  exact ih (c + 1) _ _ ls (by omega) (by omega) (by rw [hsc, fst_step hc9 (by rw [sngP, show fitB tt c 0 (Q.getD q (0, 0, 0, 0)).1 0 (Q.getD q (0, 0, 0, 0)).2.2.2 = false from hrf.symm.trans c_4, Bool.and_false])]) (hP.sub [1, 2, 3, 4, 0, 5] rfl) (hD.sub [1, 2, 3, 4, 0, 5] (by decide) rfl) hS (lv_sub hl [1, 2, 0] rfl)
                · refine lv_aload_n hx hb dX9_codeFor_112 rfl (lv_at hl 0 rfl) ?_
                  refine lv_iload_n hx hb dX9_codeFor_113 rfl (lv_at hl 2 rfl) ?_
                  refine lv_iconst (v := 1) hx hb dX9_codeFor_114 (by decide) ?_
                  refine ri (y := nI 1) (rfl) ?_
                  refine jn_i (wr := [(MqAddress, .inl (cI, 4100, .inl mqAddress)), (MqKind, .inl (cI, 4100, .inl mqKind)), (MqSize, .inl (cI, 4100, .inl mqSize)), (MqMode, .inl (cI, 4100, .inl mqMode))]) hA hP hD hS [1, 2] [0, 3, 4, 5] rfl rfl (by decide) (by decide) (rn_V (As := [.int (nI c), .int (nI 1)]) (rest := []) ⟨hx, hb, hml, hown, hts⟩ (cvV 2 hts zc_yX9_kindOf zi_X9 zm_yX9_kindOf zv_yX9_kindOf kX9_290 (by decide +kernel) rfl rfl ⟨Nat.le_of_ble_eq_true rfl, Nat.le_of_ble_eq_true rfl⟩) (m_kindOf l D cI cB cJ cR mm g Mtab mtab tt c 1 (g_tab) (ht) (hc9) (by decide) H.size) hK hNw hMk hA hP hD hS [1, 2] rfl rfl (by decide) 0 rfl rfl rfl rfl hl.1 rfl (Nat.le_of_ble_eq_true rfl) dX9_codeFor_115 ⟨Nat.le_of_ble_eq_true rfl, Nat.le_of_ble_eq_true rfl⟩) (fun r_7 u9 H locs w_5 hP hD hS => ?_)
                  try dsimp only at w_5
                  have hP : va_P D vwCl [(MqAddress, .inl (cI, 4100, .inl mqAddress)), (MqKind, .inl (cI, 4100, .inl mqKind)), (MqSize, .inl (cI, 4100, .inl mqSize)), (MqMode, .inl (cI, 4100, .inl mqMode)), (mm, .inr (9, fl 78 g)), (Mtab, .inl (cB, 1536, .inl mtab))] H := hP
                  have hD : va_D A0 [(MqAddress, .inl (cI, 4100, .inl mqAddress)), (MqKind, .inl (cI, 4100, .inl mqKind)), (MqSize, .inl (cI, 4100, .inl mqSize)), (MqMode, .inl (cI, 4100, .inl mqMode)), (mm, .inr (9, fl 78 g)), (Mtab, .inl (cB, 1536, .inl mtab))] := hD
                  have hk1 := (hrt (1 * 256 + c) (by omega)).1
                  rw [s8_lo _ (show tt (1 * 256 + c) < 128 by omega)] at w_5
                  subst w_5
                  refine lv_if_ne (tgt := 123) hx hb dX9_codeFor_118 (by decide) (fun c_8 => ?_) (fun c_8 => ?_)
                  · have hk0 : ¬ tt (256 + c) = 0 := fun z => c_8 (by rw [Nat.one_mul, z]; decide)
                    refine lv_iinc (v := nI (c + 1)) (lv' := [(2, .int (nI (c + 1))), (0, .ref mm), (1, .int (nI q))]) hx hb dX9_codeFor_123 hl (k := 2) rfl (nI_add c 1) (by decide) rfl (fun ls hl => ?_)
                    refine lv_goto (tgt := 94) hx hb dX9_codeFor_126 (by decide) ?_
                    exact ih (c + 1) _ _ ls (by omega) (by omega) (by rw [hsc, fst_step hc9 (by rw [sngP, decide_eq_false hk0, Bool.false_and])]) (hP.sub [4, 5, 1, 2, 0, 3] rfl) (hD.sub [4, 5, 1, 2, 0, 3] (by decide) rfl) hS (lv_sub hl [1, 2, 0] rfl)
                  · have hk0 : tt (256 + c) = 0 := Decidable.byContradiction (fun z => nI_ne0 (Nat.pos_of_ne_zero z) (by rw [Nat.one_mul] at hk1; omega) (by rw [Nat.one_mul] at c_8; exact c_8))
                    refine lv_iload_n hx hb dX9_codeFor_121 rfl (lv_at hl 2 rfl) ?_
                    have hP := hP.sub (ws' := [(mm, .inr (9, fl 78 g)), (Mtab, .inl (cB, 1536, .inl mtab)), (MqKind, .inl (cI, 4100, .inl mqKind)), (MqSize, .inl (cI, 4100, .inl mqSize)), (MqAddress, .inl (cI, 4100, .inl mqAddress)), (MqMode, .inl (cI, 4100, .inl mqMode))]) [4, 5, 1, 2, 0, 3] rfl
                    have hD := hD.sub (ws' := [(mm, .inr (9, fl 78 g)), (Mtab, .inl (cB, 1536, .inl mtab)), (MqKind, .inl (cI, 4100, .inl mqKind)), (MqSize, .inl (cI, 4100, .inl mqSize)), (MqAddress, .inl (cI, 4100, .inl mqAddress)), (MqMode, .inl (cI, 4100, .inl mqMode))]) [4, 5, 1, 2, 0, 3] (by decide) rfl
                    exact hret 122 ls _ _ _ () dX9_codeFor_122 hP hD hS (⟨fun a b => absurd (hpr a) b, fun _ => ⟨fun z => absurd (by rw [hno1]; decide) z, fun _ => by rw [hsc, fst_hit hc9 (by rw [sngP, show fitB tt c 0 (Q.getD q (0, 0, 0, 0)).1 0 (Q.getD q (0, 0, 0, 0)).2.2.2 = true from hrf.symm.trans c_4, decide_eq_true hk0]; rfl)]⟩⟩)
          exact l3 _ 0 _ _ ls (Nat.lt_succ_self _) (by decide) (rfl) hP hD hS (lv_sub hl [1, 2, 0] rfl)
        · have hc9 : c < 256 := Nat.not_le.mp (fun z => c_1 (nI_le (a := 256) z (by omega)))
          refine lv_aload_n hx hb dX9_codeFor_64 rfl (lv_at hl 0 rfl) ?_
          refine lv_iload_n hx hb dX9_codeFor_65 rfl (lv_at hl 2 rfl) ?_
          refine lv_iconst (v := 0) hx hb dX9_codeFor_66 (by decide) ?_
          refine ri (y := nI 0) nI_0.symm ?_
          refine lv_iload_n hx hb dX9_codeFor_67 rfl (lv_at hl 1 rfl) ?_
          refine lv_iconst (v := 1) hx hb dX9_codeFor_68 (by decide) ?_
          refine ri (y := bI true) rfl ?_
          refine jn_i (wr := [(MqAddress, .inl (cI, 4100, .inl mqAddress))]) hA hP hD hS [0, 1, 2, 3, 5] [4] rfl rfl (by decide) (by decide) (rn_V (As := [.int (nI c), .int (nI 0), .int (nI q), .int (bI true)]) (rest := []) ⟨hx, hb, hml, hown, hts⟩ (cvV 4 hts zc_yX9_fits zi_X9 zm_yX9_fits zv_yX9_fits kX9_381 (by decide +kernel) rfl rfl ⟨Nat.le_of_ble_eq_true rfl, Nat.le_of_ble_eq_true rfl⟩) (m_fits l D cI cB cJ cR mm g Mtab MqKind MqSize MqMode mtab mqKind mqSize mqMode tt rm_ c 0 q true (Q.getD q (0, 0, 0, 0)).1 (Q.getD q (0, 0, 0, 0)).2.1 (Q.getD q (0, 0, 0, 0)).2.2.2 (g_tab) (g_qKind) (g_qSize) (g_qMode) (ht) (hrt) (hc9) (by decide) (by omega) (hx9.1) (hx9.2.1) (hx9.2.2.2) (hxo) H.size) hK hNw hMk hA hP hD hS [0, 1, 2, 3, 5] rfl rfl (by decide) 0 rfl rfl rfl rfl hl.1 rfl (Nat.le_of_ble_eq_true rfl) dX9_codeFor_69 ⟨Nat.le_of_ble_eq_true rfl, Nat.le_of_ble_eq_true rfl⟩) (fun rf u9 H locs hrf hP hD hS => ?_)
          obtain ⟨rfb, rfl, hrf⟩ := hrf
          try dsimp only at hrf
          have hP : va_P D vwCl [(MqAddress, .inl (cI, 4100, .inl mqAddress)), (mm, .inr (9, fl 78 g)), (Mtab, .inl (cB, 1536, .inl mtab)), (MqKind, .inl (cI, 4100, .inl mqKind)), (MqSize, .inl (cI, 4100, .inl mqSize)), (MqMode, .inl (cI, 4100, .inl mqMode))] H := hP
          have hD : va_D A0 [(MqAddress, .inl (cI, 4100, .inl mqAddress)), (mm, .inr (9, fl 78 g)), (Mtab, .inl (cB, 1536, .inl mtab)), (MqKind, .inl (cI, 4100, .inl mqKind)), (MqSize, .inl (cI, 4100, .inl mqSize)), (MqMode, .inl (cI, 4100, .inl mqMode))] := hD
          refine bz_eq (tgt := 86) hx hb dX9_codeFor_72 (by decide) (fun c_10 => ?_) (fun c_10 => ?_)
          · refine lv_iinc (v := nI (c + 1)) (lv' := [(2, .int (nI (c + 1))), (0, .ref mm), (1, .int (nI q))]) hx hb dX9_codeFor_86 hl (k := 2) rfl (nI_add c 1) (by decide) rfl (fun ls hl => ?_)
            refine lv_goto (tgt := 57) hx hb dX9_codeFor_89 (by decide) ?_
            exact ih (c + 1) _ _ ls (by omega) (by omega) (by rw [hsc, fst_step hc9 (by rw [sngP]; rw [show fitB tt c 0 (Q.getD q (0, 0, 0, 0)).1 (Q.getD q (0, 0, 0, 0)).2.1 (Q.getD q (0, 0, 0, 0)).2.2.2 = false from hrf.symm.trans c_10, Bool.and_false])]) (hP.sub [1, 2, 3, 4, 0, 5] rfl) (hD.sub [1, 2, 3, 4, 0, 5] (by decide) rfl) hS (lv_sub hl [1, 2, 0] rfl)
          · have hf9 : fitB tt c 0 (Q.getD q (0, 0, 0, 0)).1 (Q.getD q (0, 0, 0, 0)).2.1 (Q.getD q (0, 0, 0, 0)).2.2.2 = true := hrf.symm.trans c_10
            refine lv_aload_n hx hb dX9_codeFor_75 rfl (lv_at hl 0 rfl) ?_
            refine lv_iload_n hx hb dX9_codeFor_76 rfl (lv_at hl 2 rfl) ?_
            refine lv_iconst (v := 1) hx hb dX9_codeFor_77 (by decide) ?_
            refine ri (y := nI 1) (rfl) ?_
            refine jn_i (wr := [(MqAddress, .inl (cI, 4100, .inl mqAddress)), (MqKind, .inl (cI, 4100, .inl mqKind)), (MqSize, .inl (cI, 4100, .inl mqSize)), (MqMode, .inl (cI, 4100, .inl mqMode))]) hA hP hD hS [1, 2] [0, 3, 4, 5] rfl rfl (by decide) (by decide) (rn_V (As := [.int (nI c), .int (nI 1)]) (rest := []) ⟨hx, hb, hml, hown, hts⟩ (cvV 2 hts zc_yX9_kindOf zi_X9 zm_yX9_kindOf zv_yX9_kindOf kX9_290 (by decide +kernel) rfl rfl ⟨Nat.le_of_ble_eq_true rfl, Nat.le_of_ble_eq_true rfl⟩) (m_kindOf l D cI cB cJ cR mm g Mtab mtab tt c 1 (g_tab) (ht) (hc9) (by decide) H.size) hK hNw hMk hA hP hD hS [1, 2] rfl rfl (by decide) 0 rfl rfl rfl rfl hl.1 rfl (Nat.le_of_ble_eq_true rfl) dX9_codeFor_78 ⟨Nat.le_of_ble_eq_true rfl, Nat.le_of_ble_eq_true rfl⟩) (fun r_13 u9 H locs w_11 hP hD hS => ?_)
            try dsimp only at w_11
            have hP : va_P D vwCl [(MqAddress, .inl (cI, 4100, .inl mqAddress)), (MqKind, .inl (cI, 4100, .inl mqKind)), (MqSize, .inl (cI, 4100, .inl mqSize)), (MqMode, .inl (cI, 4100, .inl mqMode)), (mm, .inr (9, fl 78 g)), (Mtab, .inl (cB, 1536, .inl mtab))] H := hP
            have hD : va_D A0 [(MqAddress, .inl (cI, 4100, .inl mqAddress)), (MqKind, .inl (cI, 4100, .inl mqKind)), (MqSize, .inl (cI, 4100, .inl mqSize)), (MqMode, .inl (cI, 4100, .inl mqMode)), (mm, .inr (9, fl 78 g)), (Mtab, .inl (cB, 1536, .inl mtab))] := hD
            have hk1 := (hrt (1 * 256 + c) (by omega)).1
            rw [s8_lo _ (show tt (1 * 256 + c) < 128 by omega)] at w_11
            subst w_11
            refine lv_if_ne (tgt := 86) hx hb dX9_codeFor_81 (by decide) (fun c_14 => ?_) (fun c_14 => ?_)
            · have hk0 : ¬ tt (256 + c) = 0 := fun z => c_14 (by rw [Nat.one_mul, z]; decide)
              refine lv_iinc (v := nI (c + 1)) (lv' := [(2, .int (nI (c + 1))), (0, .ref mm), (1, .int (nI q))]) hx hb dX9_codeFor_86 hl (k := 2) rfl (nI_add c 1) (by decide) rfl (fun ls hl => ?_)
              refine lv_goto (tgt := 57) hx hb dX9_codeFor_89 (by decide) ?_
              exact ih (c + 1) _ _ ls (by omega) (by omega) (by rw [hsc, fst_step hc9 (by rw [sngP, decide_eq_false hk0, Bool.false_and])]) (hP.sub [4, 5, 1, 2, 0, 3] rfl) (hD.sub [4, 5, 1, 2, 0, 3] (by decide) rfl) hS (lv_sub hl [1, 2, 0] rfl)
            · have hk0 : tt (256 + c) = 0 := Decidable.byContradiction (fun z => nI_ne0 (Nat.pos_of_ne_zero z) (by rw [Nat.one_mul] at hk1; omega) (by rw [Nat.one_mul] at c_14; exact c_14))
              have hh := fst_hit (P := sngP tt (Q.getD q (0, 0, 0, 0)).1 (Q.getD q (0, 0, 0, 0)).2.1 (Q.getD q (0, 0, 0, 0)).2.2.2) hc9 (by rw [sngP, hf9, decide_eq_true hk0]; rfl)
              refine lv_iload_n hx hb dX9_codeFor_84 rfl (lv_at hl 2 rfl) ?_
              have hP := hP.sub (ws' := [(mm, .inr (9, fl 78 g)), (Mtab, .inl (cB, 1536, .inl mtab)), (MqKind, .inl (cI, 4100, .inl mqKind)), (MqSize, .inl (cI, 4100, .inl mqSize)), (MqAddress, .inl (cI, 4100, .inl mqAddress)), (MqMode, .inl (cI, 4100, .inl mqMode))]) [4, 5, 1, 2, 0, 3] rfl
              have hD := hD.sub (ws' := [(mm, .inr (9, fl 78 g)), (Mtab, .inl (cB, 1536, .inl mtab)), (MqKind, .inl (cI, 4100, .inl mqKind)), (MqSize, .inl (cI, 4100, .inl mqSize)), (MqAddress, .inl (cI, 4100, .inl mqAddress)), (MqMode, .inl (cI, 4100, .inl mqMode))]) [4, 5, 1, 2, 0, 3] (by decide) rfl
              exact hret 85 ls _ _ _ () dX9_codeFor_85 hP hD hS (⟨fun a b => absurd (hpr a) b, fun _ => ⟨fun _ => by rw [hsc, hh], fun z => absurd z (by rw [hsc, hh]; exact nI_pos (by omega))⟩⟩)
    exact l2 _ 0 _ _ ls (Nat.lt_succ_self _) (by decide) (rfl) hP hD hS (lv_sub hl [1, 2, 0] rfl)
  have l1 : ∀ (k9 : Nat) (c : Nat) (H : Heap) (locs : List Loc) (ls : Array Slot), 256 - c < k9 → (c ≤ 256) → ((pr1 tt (Q.getD q (0, 0, 0, 0)) (Q.getD (q + 1) (0, 0, 0, 0))) = fstC (prP tt (Q.getD q (0, 0, 0, 0)).1 (Q.getD q (0, 0, 0, 0)).2.1 (Q.getD q (0, 0, 0, 0)).2.2.2 (Q.getD (q + 1) (0, 0, 0, 0)).1 (Q.getD (q + 1) (0, 0, 0, 0)).2.1 (Q.getD (q + 1) (0, 0, 0, 0)).2.2.2) (256 - c) c) → va_P D vwCl [(mm, .inr (9, fl 78 g)), (Mtab, .inl (cB, 1536, .inl mtab)), (MqKind, .inl (cI, 4100, .inl mqKind)), (MqSize, .inl (cI, 4100, .inl mqSize)), (MqAddress, .inl (cI, 4100, .inl mqAddress)), (MqMode, .inl (cI, 4100, .inl mqMode))] H → va_D A0 [(mm, .inr (9, fl 78 g)), (Mtab, .inl (cB, 1536, .inl mtab)), (MqKind, .inl (cI, 4100, .inl mqKind)), (MqSize, .inl (cI, 4100, .inl mqSize)), (MqAddress, .inl (cI, 4100, .inl mqAddress)), (MqMode, .inl (cI, 4100, .inl mqMode))] → va_S A0 s0.heap H locs → lv_has ls 3 [(0, .ref mm), (1, .int (nI q)), (2, .int (nI c))] → W p0 l e0 ({ frames := 2, cells := 0, slots := 0, locals := 46 }) s0 m0 ([.ref mm, .int (nI q)] : List Value).toArray below meth c0 H locs 0 0 Q0 (F0 m0 2 ls []) := by
    intro k9
    induction k9 with
    | zero => intro c H locs ls hk9; exact absurd hk9 (Nat.not_lt_zero _)
    | succ k9 ih =>
      intro c H locs ls hk9 hcl hsc hP hD hS hl
      refine lv_iload_n hx hb dX9_codeFor_2 rfl (lv_at hl 2 rfl) ?_
      refine lv_sipush (v := 256) hx hb dX9_codeFor_3 (by decide) ?_
      refine lv_icmp_ge (tgt := 55) hx hb dX9_codeFor_6 (by decide) (fun c_15 => ?_) (fun c_15 => ?_)
      · have hc9 : c = 256 := by have := (nI_leI (a := 256) (by decide) (by omega)).mp c_15; omega
        have hno : (pr1 tt (Q.getD q (0, 0, 0, 0)) (Q.getD (q + 1) (0, 0, 0, 0))) = -1 := by rw [hsc, hc9]; rfl
        exact J2 c _ _ ls (fun _ => by rw [hno]; decide) hP hD hS (lv_sub hl [0, 1, 2] rfl)
      · have hc9 : c < 256 := Nat.not_le.mp (fun z => c_15 (nI_le (a := 256) z (by omega)))
        refine lv_iload_n hx hb dX9_codeFor_9 rfl (lv_at hl 1 rfl) ?_
        refine lv_iconst (v := 1) hx hb dX9_codeFor_10 (by decide) ?_
        refine lv_iadd hx hb dX9_codeFor_11 ?_
        refine ri (y := nI (q + 1)) (nI_add q 1) ?_
        refine lv_aload_n hx hb dX9_codeFor_12 rfl (lv_at hl 0 rfl) ?_
        refine fx_get (D := D) (ci := 9) (v := .int (nI Q.length)) (C := RX9) (T := TX9) (N := 78) hx hb hts in_X9 hown hK hP 0 rfl rfl 67 (by decide) (hts _ kX9_356) (fun _ h9 => h9) (g_waits) dX9_codeFor_13 ?_
        refine lv_icmp_ge (tgt := 55) hx hb dX9_codeFor_16 (by decide) (fun c_16 => ?_) (fun c_16 => ?_)
        · have hl9 : Q.length ≤ q + 1 := (nI_leI (by omega) (by omega)).mp c_16
          exact J2 c _ _ ls (fun z => absurd z (by omega)) hP hD hS (lv_sub hl [0, 1, 2] rfl)
        · have hl9 : q + 1 < Q.length := Nat.not_le.mp (fun z => c_16 (nI_le z (by omega)))
          have hy9 := hqm (q + 1) hl9
          have hym : (Q.getD (q + 1) (0, 0, 0, 0)) ∈ Q := by rw [List.getD_eq_getElem?_getD, List.getElem?_eq_getElem hl9]; exact List.getElem_mem hl9
          have hyo := hqo _ hym
          refine lv_aload_n hx hb dX9_codeFor_19 rfl (lv_at hl 0 rfl) ?_
          refine lv_iload_n hx hb dX9_codeFor_20 rfl (lv_at hl 2 rfl) ?_
          refine lv_iconst (v := 0) hx hb dX9_codeFor_21 (by decide) ?_
          refine ri (y := nI 0) nI_0.symm ?_
          refine lv_iload_n hx hb dX9_codeFor_22 rfl (lv_at hl 1 rfl) ?_
          refine lv_iconst (v := 1) hx hb dX9_codeFor_23 (by decide) ?_
          refine ri (y := bI true) rfl ?_
          refine jn_i (wr := [(MqAddress, .inl (cI, 4100, .inl mqAddress))]) hA hP hD hS [0, 1, 2, 3, 5] [4] rfl rfl (by decide) (by decide) (rn_V (As := [.int (nI c), .int (nI 0), .int (nI q), .int (bI true)]) (rest := []) ⟨hx, hb, hml, hown, hts⟩ (cvV 4 hts zc_yX9_fits zi_X9 zm_yX9_fits zv_yX9_fits kX9_381 (by decide +kernel) rfl rfl ⟨Nat.le_of_ble_eq_true rfl, Nat.le_of_ble_eq_true rfl⟩) (m_fits l D cI cB cJ cR mm g Mtab MqKind MqSize MqMode mtab mqKind mqSize mqMode tt rm_ c 0 q true (Q.getD q (0, 0, 0, 0)).1 (Q.getD q (0, 0, 0, 0)).2.1 (Q.getD q (0, 0, 0, 0)).2.2.2 (g_tab) (g_qKind) (g_qSize) (g_qMode) (ht) (hrt) (hc9) (by decide) (by omega) (hx9.1) (hx9.2.1) (hx9.2.2.2) (hxo) H.size) hK hNw hMk hA hP hD hS [0, 1, 2, 3, 5] rfl rfl (by decide) 0 rfl rfl rfl rfl hl.1 rfl (Nat.le_of_ble_eq_true rfl) dX9_codeFor_24 ⟨Nat.le_of_ble_eq_true rfl, Nat.le_of_ble_eq_true rfl⟩) (fun rf u9 H locs hrf hP hD hS => ?_)
          obtain ⟨rfb, rfl, hrf⟩ := hrf
          try dsimp only at hrf
          have hP : va_P D vwCl [(MqAddress, .inl (cI, 4100, .inl mqAddress)), (mm, .inr (9, fl 78 g)), (Mtab, .inl (cB, 1536, .inl mtab)), (MqKind, .inl (cI, 4100, .inl mqKind)), (MqSize, .inl (cI, 4100, .inl mqSize)), (MqMode, .inl (cI, 4100, .inl mqMode))] H := hP
          have hD : va_D A0 [(MqAddress, .inl (cI, 4100, .inl mqAddress)), (mm, .inr (9, fl 78 g)), (Mtab, .inl (cB, 1536, .inl mtab)), (MqKind, .inl (cI, 4100, .inl mqKind)), (MqSize, .inl (cI, 4100, .inl mqSize)), (MqMode, .inl (cI, 4100, .inl mqMode))] := hD
          refine bz_eq (tgt := 49) hx hb dX9_codeFor_27 (by decide) (fun c_18 => ?_) (fun c_18 => ?_)
          · refine lv_iinc (v := nI (c + 1)) (lv' := [(2, .int (nI (c + 1))), (0, .ref mm), (1, .int (nI q))]) hx hb dX9_codeFor_49 hl (k := 2) rfl (nI_add c 1) (by decide) rfl (fun ls hl => ?_)
            refine lv_goto (tgt := 2) hx hb dX9_codeFor_52 (by decide) ?_
            exact ih (c + 1) _ _ ls (by omega) (by omega) (by rw [hsc, fst_step hc9 (by rw [prP, show fitB tt c 0 (Q.getD q (0, 0, 0, 0)).1 (Q.getD q (0, 0, 0, 0)).2.1 (Q.getD q (0, 0, 0, 0)).2.2.2 = false from hrf.symm.trans c_18, Bool.and_false])]) (hP.sub [1, 2, 3, 4, 0, 5] rfl) (hD.sub [1, 2, 3, 4, 0, 5] (by decide) rfl) hS (lv_sub hl [1, 2, 0] rfl)
          · have hf9 : fitB tt c 0 (Q.getD q (0, 0, 0, 0)).1 (Q.getD q (0, 0, 0, 0)).2.1 (Q.getD q (0, 0, 0, 0)).2.2.2 = true := hrf.symm.trans c_18
            refine lv_aload_n hx hb dX9_codeFor_30 rfl (lv_at hl 0 rfl) ?_
            refine lv_iload_n hx hb dX9_codeFor_31 rfl (lv_at hl 2 rfl) ?_
            refine lv_iconst (v := 1) hx hb dX9_codeFor_32 (by decide) ?_
            refine ri (y := nI 1) rfl ?_
            refine lv_iload_n hx hb dX9_codeFor_33 rfl (lv_at hl 1 rfl) ?_
            refine lv_iconst (v := 1) hx hb dX9_codeFor_34 (by decide) ?_
            refine lv_iadd hx hb dX9_codeFor_35 ?_
            refine ri (y := nI (q + 1)) (nI_add q 1) ?_
            refine lv_iconst (v := 1) hx hb dX9_codeFor_36 (by decide) ?_
            refine ri (y := bI true) rfl ?_
            refine jn_i (wr := [(MqAddress, .inl (cI, 4100, .inl mqAddress))]) hA hP hD hS [1, 2, 3, 4, 5] [0] rfl rfl (by decide) (by decide) (rn_V (As := [.int (nI c), .int (nI 1), .int (nI (q + 1)), .int (bI true)]) (rest := []) ⟨hx, hb, hml, hown, hts⟩ (cvV 4 hts zc_yX9_fits zi_X9 zm_yX9_fits zv_yX9_fits kX9_381 (by decide +kernel) rfl rfl ⟨Nat.le_of_ble_eq_true rfl, Nat.le_of_ble_eq_true rfl⟩) (m_fits l D cI cB cJ cR mm g Mtab MqKind MqSize MqMode mtab mqKind mqSize mqMode tt rm_ c 1 (q + 1) true (Q.getD (q + 1) (0, 0, 0, 0)).1 (Q.getD (q + 1) (0, 0, 0, 0)).2.1 (Q.getD (q + 1) (0, 0, 0, 0)).2.2.2 (g_tab) (g_qKind) (g_qSize) (g_qMode) (ht) (hrt) (hc9) (by decide) (by omega) (hy9.1) (hy9.2.1) (hy9.2.2.2) (hyo) H.size) hK hNw hMk hA hP hD hS [1, 2, 3, 4, 5] rfl rfl (by decide) 0 rfl rfl rfl rfl hl.1 rfl (Nat.le_of_ble_eq_true rfl) dX9_codeFor_37 ⟨Nat.le_of_ble_eq_true rfl, Nat.le_of_ble_eq_true rfl⟩) (fun rg u9 H locs hrg hP hD hS => ?_)
            obtain ⟨rgb, rfl, hrg⟩ := hrg
            try dsimp only at hrg
            have hP : va_P D vwCl [(MqAddress, .inl (cI, 4100, .inl mqAddress)), (mm, .inr (9, fl 78 g)), (Mtab, .inl (cB, 1536, .inl mtab)), (MqKind, .inl (cI, 4100, .inl mqKind)), (MqSize, .inl (cI, 4100, .inl mqSize)), (MqMode, .inl (cI, 4100, .inl mqMode))] H := hP
            have hD : va_D A0 [(MqAddress, .inl (cI, 4100, .inl mqAddress)), (mm, .inr (9, fl 78 g)), (Mtab, .inl (cB, 1536, .inl mtab)), (MqKind, .inl (cI, 4100, .inl mqKind)), (MqSize, .inl (cI, 4100, .inl mqSize)), (MqMode, .inl (cI, 4100, .inl mqMode))] := hD
            refine bz_eq (tgt := 49) hx hb dX9_codeFor_40 (by decide) (fun c_20 => ?_) (fun c_20 => ?_)
            · refine lv_iinc (v := nI (c + 1)) (lv' := [(2, .int (nI (c + 1))), (0, .ref mm), (1, .int (nI q))]) hx hb dX9_codeFor_49 hl (k := 2) rfl (nI_add c 1) (by decide) rfl (fun ls hl => ?_)
              refine lv_goto (tgt := 2) hx hb dX9_codeFor_52 (by decide) ?_
              exact ih (c + 1) _ _ ls (by omega) (by omega) (by rw [hsc, fst_step hc9 (by rw [prP, show fitB tt c 1 (Q.getD (q + 1) (0, 0, 0, 0)).1 (Q.getD (q + 1) (0, 0, 0, 0)).2.1 (Q.getD (q + 1) (0, 0, 0, 0)).2.2.2 = false from hrg.symm.trans c_20, Bool.false_and])]) (hP.sub [1, 2, 3, 4, 0, 5] rfl) (hD.sub [1, 2, 3, 4, 0, 5] (by decide) rfl) hS (lv_sub hl [1, 2, 0] rfl)
            · have hg9 : fitB tt c 1 (Q.getD (q + 1) (0, 0, 0, 0)).1 (Q.getD (q + 1) (0, 0, 0, 0)).2.1 (Q.getD (q + 1) (0, 0, 0, 0)).2.2.2 = true := hrg.symm.trans c_20
              have hh := fst_hit (P := prP tt (Q.getD q (0, 0, 0, 0)).1 (Q.getD q (0, 0, 0, 0)).2.1 (Q.getD q (0, 0, 0, 0)).2.2.2 (Q.getD (q + 1) (0, 0, 0, 0)).1 (Q.getD (q + 1) (0, 0, 0, 0)).2.1 (Q.getD (q + 1) (0, 0, 0, 0)).2.2.2) hc9 (by rw [prP, hg9, hf9]; rfl)
              have hpe : (pr1 tt (Q.getD q (0, 0, 0, 0)) (Q.getD (q + 1) (0, 0, 0, 0))) = nI c := by rw [hsc, hh]
              refine lv_sipush (v := 1000) hx hb dX9_codeFor_43 (by decide) ?_
              refine lv_iload_n hx hb dX9_codeFor_46 rfl (lv_at hl 2 rfl) ?_
              refine lv_iadd hx hb dX9_codeFor_47 ?_
              refine ri (y := nI (1000 + c)) (nI_add 1000 c) ?_
              have hP := hP.sub (ws' := [(mm, .inr (9, fl 78 g)), (Mtab, .inl (cB, 1536, .inl mtab)), (MqKind, .inl (cI, 4100, .inl mqKind)), (MqSize, .inl (cI, 4100, .inl mqSize)), (MqAddress, .inl (cI, 4100, .inl mqAddress)), (MqMode, .inl (cI, 4100, .inl mqMode))]) [1, 2, 3, 4, 0, 5] rfl
              have hD := hD.sub (ws' := [(mm, .inr (9, fl 78 g)), (Mtab, .inl (cB, 1536, .inl mtab)), (MqKind, .inl (cI, 4100, .inl mqKind)), (MqSize, .inl (cI, 4100, .inl mqSize)), (MqAddress, .inl (cI, 4100, .inl mqAddress)), (MqMode, .inl (cI, 4100, .inl mqMode))]) [1, 2, 3, 4, 0, 5] (by decide) rfl
              exact hret 48 ls _ _ _ () dX9_codeFor_48 hP hD hS (⟨fun _ _ => by rw [hpe]; exact (nI_add 1000 c).symm, fun z => absurd (z hl9) (by rw [hpe]; exact nI_pos (by omega))⟩)
  exact l1 _ 0 _ _ ls (Nat.lt_succ_self _) (by decide) (rfl) hP hD hS (lv_sub hl [1, 2, 0] rfl)
