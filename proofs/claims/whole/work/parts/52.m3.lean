set_option maxHeartbeats 4000000 in
set_option maxRecDepth 100000 in
theorem m_fourOctets (l : Launch) (D : va_G) (cI cB cJ cR : ClassId) (mm : Nat) (g : Nat → Value) (Mrows : Nat) (mrows : Nat → Int32) (fu : Nat) (pl : Nat) (a : Nat) (e : Nat) (bs : Nat) (b : Nat → Nat) (g_fault : g 36 = .int (nI fu)) (g_place : g 37 = .int (nI pl)) (g_at : g 34 = .int (nI a)) (g_end : g 35 = .int (nI e)) (g_base : g 33 = .int (nI bs)) (g_rows : g 1 = .ref Mrows) (hfl : fu < 2 ^ 31) (he : bs + e ≤ 32000) (hae : a ≤ e) (hob : ∀ j, j < e → mrows (bs + j) = s8 (b j) ∧ b j < 256) : CMv l yX9_fourOctets cX9_fourOctets 4 none ({ frames := 2, cells := 0, slots := 0, locals := 42 }) D (tyA cI cB cJ cR) 0 0 [.ref mm] [(mm, .inr (9, fl 78 g)), (Mrows, .inl (cB, 32000, .inl mrows))] (fun (u9 : (Nat → Value) × Nat × Nat × Nat) => match u9 with | (g9, fu2, pl2, a2) => frm [36, 37, 34] g g9 ∧ g9 36 = .int (nI fu2) ∧ g9 37 = .int (nI pl2) ∧ g9 34 = .int (nI a2) ∧ tkMark b e (fu, pl, a) = (fu2, pl2, a2) ∧ fu2 < 2 ^ 31 ∧ a ≤ a2 ∧ a2 ≤ e) (fun (u9 : (Nat → Value) × Nat × Nat × Nat) => match u9 with | (g9, fu2, pl2, a2) => [(mm, .inr (9, fl 78 g9)), (Mrows, .inl (cB, 32000, .inl mrows))]) := by
  refine st_v (cc := cX9_fourOctets) (maxL := 4) (by decide) (Nat.le_of_ble_eq_true rfl) ?_
  intro p0 e0 s0 m0 below meth c0 A0 Q0 hBD hret hP hD hS ls hl
  obtain ⟨hx, hb, hml, hown, hts, hnm, hK, hNw, hMk, hA⟩ := hBD
  have hl : lv_has ls 4 [(0, .ref mm)] := hl
  have hP : va_P D vwCl [(mm, .inr (9, fl 78 g)), (Mrows, .inl (cB, 32000, .inl mrows))] s0.heap := hP
  have hD : va_D A0 [(mm, .inr (9, fl 78 g)), (Mrows, .inl (cB, 32000, .inl mrows))] := hD
  refine lv_iconst (v := 0) hx hb dX9_fourOctets_0 (by decide) ?_
  refine ri (y := nI 0) (nI_0.symm) ?_
  refine lv_istore_n (lv' := [(1, .int (nI 0)), (0, .ref mm)]) hx hb dX9_fourOctets_1 rfl hl (by decide) rfl (fun ls hl => ?_)
  have hf0 := hfl
  have hb0 := hae
  refine lv_iload_n hx hb dX9_fourOctets_2 rfl (lv_at hl 0 rfl) ?_
  refine lv_iconst (v := 4) hx hb dX9_fourOctets_3 (by decide) ?_
  refine lv_icmp_ge (tgt := 73) hx hb dX9_fourOctets_4 (by decide) (fun c_1 => absurd c_1 (by decide)) (fun c_1 => ?_)
  refine lv_aload_n hx hb dX9_fourOctets_7 rfl (lv_at hl 1 rfl) ?_
  refine fx_get (D := D) (ci := 9) (v := .int (nI a)) (C := RX9) (T := TX9) (N := 78) hx hb hts in_X9 hown hK hP 0 rfl rfl 34 (by decide) (hts _ kX9_185) (fun _ h9 => h9) (g_at) dX9_fourOctets_8 ?_
  refine lv_istore_n (lv' := [(2, .int (nI a)), (1, .int (nI 0)), (0, .ref mm)]) hx hb dX9_fourOctets_11 rfl hl (by decide) rfl (fun ls hl => ?_)
  refine lv_aload_n hx hb dX9_fourOctets_12 rfl (lv_at hl 2 rfl) ?_
  refine jn_i (wr := []) hA hP hD hS [0, 1] [] rfl rfl (by decide) (by decide) (rn_V (As := []) (rest := []) ⟨hx, hb, hml, hown, hts⟩ (cvV 0 hts zc_yX9_take zi_X9 zm_yX9_take zv_yX9_take kX9_198 (by decide +kernel) rfl rfl ⟨Nat.le_of_ble_eq_true rfl, Nat.le_of_ble_eq_true rfl⟩) (m_take l D cI cB cJ cR mm g Mrows mrows fu pl a e bs b (g_fault) (g_place) (g_at) (g_end) (g_base) (g_rows) (hf0) (he) (hb0) (hob) s0.heap.size) hK hNw hMk hA hP hD hS [0, 1] rfl rfl (by decide) 0 rfl rfl rfl rfl hl.1 rfl (Nat.le_of_ble_eq_true rfl) dX9_fourOctets_13 ⟨Nat.le_of_ble_eq_true rfl, Nat.le_of_ble_eq_true rfl⟩) (fun rt0 u9 H locs w_2 hP hD hS => ?_)
  obtain ⟨g_3, v0, fa0, pa0, aa0⟩ := u9
  try dsimp only at w_2
  have hP : va_P D vwCl [(mm, .inr (9, fl 78 g_3)), (Mrows, .inl (cB, 32000, .inl mrows))] H := hP
  have hD : va_D A0 [(mm, .inr (9, fl 78 g_3)), (Mrows, .inl (cB, 32000, .inl mrows))] := hD
  obtain ⟨f_w_2, fault_w_2, place_w_2, at_w_2, w_2_⟩ := w_2
  have k35_g_3 : g_3 35 = .int (nI e) := (f_w_2 35 (by decide)).trans (g_end)
  have k33_g_3 : g_3 33 = .int (nI bs) := (f_w_2 33 (by decide)).trans (g_base)
  have k1_g_3 : g_3 1 = .ref Mrows := (f_w_2 1 (by decide)).trans (g_rows)
  have fr_g_3 : frm [36, 37, 34] g g_3 := frm_tr frm_refl f_w_2 (by decide)
  obtain ⟨x1, t0, y0, z0, w0, q0⟩ := w_2_
  subst x1
  refine lv_istore_n (lv' := [(3, .int (nI v0)), (2, .int (nI a)), (1, .int (nI 0)), (0, .ref mm)]) hx hb dX9_fourOctets_16 rfl hl (by decide) rfl (fun ls hl => ?_)
  refine lv_aload_n hx hb dX9_fourOctets_17 rfl (lv_at hl 3 rfl) ?_
  refine fx_get (D := D) (ci := 9) (v := .int (nI fa0)) (C := RX9) (T := TX9) (N := 78) hx hb hts in_X9 hown hK hP 0 rfl rfl 36 (by decide) (hts _ kX9_179) (fun _ h9 => h9) (fault_w_2) dX9_fourOctets_18 ?_
  have J0 : ∀ (gj0 : Nat → Value) (fb0 : Nat) (pb0 : Nat) (H : Heap) (locs : List Loc) (ls : Array Slot), (frm [36, 37, 34] g gj0) → (gj0 36 = .int (nI fb0)) → (gj0 37 = .int (nI pb0)) → (gj0 34 = .int (nI aa0)) → (mk1 b e 214 (fu, pl, a) = (fb0, pb0, aa0)) → (fb0 < 2 ^ 31) → va_P D vwCl [(mm, .inr (9, fl 78 gj0)), (Mrows, .inl (cB, 32000, .inl mrows))] H → va_D A0 [(mm, .inr (9, fl 78 gj0)), (Mrows, .inl (cB, 32000, .inl mrows))] → va_S A0 s0.heap H locs → lv_has ls 4 [(0, .ref mm), (1, .int (nI 0)), (2, .int (nI a)), (3, .int (nI v0))] → W p0 l e0 ({ frames := 2, cells := 0, slots := 0, locals := 42 }) s0 m0 ([.ref mm] : List Value).toArray below meth c0 H locs 0 0 Q0 (F0 m0 67 ls []) := by
    intro gj0 fb0 pb0 H locs ls fj0 kj0_fault kj0_place kj0_at hmk0 hfb0 hP hD hS hl
    have hf1 : fb0 < 2 ^ 31 := hfb0
    have hb1 : aa0 ≤ e := w0
    have hm0 : mk1 b e 214 (fu, pl, a) = (fb0, pb0, aa0) := hmk0
    refine lv_iinc (v := nI (0 + 1)) (lv' := [(1, .int (nI (0 + 1))), (0, .ref mm), (2, .int (nI a)), (3, .int (nI v0))]) hx hb dX9_fourOctets_67 hl (k := 1) rfl (nI_add 0 1) (by decide) rfl (fun ls hl => ?_)
    refine lv_goto (tgt := 2) hx hb dX9_fourOctets_70 (by decide) ?_
    refine lv_iload_n hx hb dX9_fourOctets_2 rfl (lv_at hl 0 rfl) ?_
    refine lv_iconst (v := 4) hx hb dX9_fourOctets_3 (by decide) ?_
    refine lv_icmp_ge (tgt := 73) hx hb dX9_fourOctets_4 (by decide) (fun c_4 => absurd c_4 (by decide)) (fun c_4 => ?_)
    refine lv_aload_n hx hb dX9_fourOctets_7 rfl (lv_at hl 1 rfl) ?_
    refine fx_get (D := D) (ci := 9) (v := .int (nI aa0)) (C := RX9) (T := TX9) (N := 78) hx hb hts in_X9 hown hK hP 0 rfl rfl 34 (by decide) (hts _ kX9_185) (fun _ h9 => h9) (kj0_at) dX9_fourOctets_8 ?_
    refine lv_istore_n (lv' := [(2, .int (nI aa0)), (1, .int (nI (0 + 1))), (0, .ref mm), (3, .int (nI v0))]) hx hb dX9_fourOctets_11 rfl hl (by decide) rfl (fun ls hl => ?_)
    refine lv_aload_n hx hb dX9_fourOctets_12 rfl (lv_at hl 2 rfl) ?_
    refine jn_i (wr := []) hA hP hD hS [0, 1] [] rfl rfl (by decide) (by decide) (rn_V (As := []) (rest := []) ⟨hx, hb, hml, hown, hts⟩ (cvV 0 hts zc_yX9_take zi_X9 zm_yX9_take zv_yX9_take kX9_198 (by decide +kernel) rfl rfl ⟨Nat.le_of_ble_eq_true rfl, Nat.le_of_ble_eq_true rfl⟩) (m_take l D cI cB cJ cR mm gj0 Mrows mrows fb0 pb0 aa0 e bs b (kj0_fault) (kj0_place) (kj0_at) ((fj0 35 (by decide)).trans g_end) ((fj0 33 (by decide)).trans g_base) ((fj0 1 (by decide)).trans g_rows) (hf1) (he) (hb1) (hob) H.size) hK hNw hMk hA hP hD hS [0, 1] rfl rfl (by decide) 0 rfl rfl rfl rfl hl.1 rfl (Nat.le_of_ble_eq_true rfl) dX9_fourOctets_13 ⟨Nat.le_of_ble_eq_true rfl, Nat.le_of_ble_eq_true rfl⟩) (fun rt1 u9 H locs w_5 hP hD hS => ?_)
    obtain ⟨g_6, v1, fa1, pa1, aa1⟩ := u9
    try dsimp only at w_5
    have hP : va_P D vwCl [(mm, .inr (9, fl 78 g_6)), (Mrows, .inl (cB, 32000, .inl mrows))] H := hP
    have hD : va_D A0 [(mm, .inr (9, fl 78 g_6)), (Mrows, .inl (cB, 32000, .inl mrows))] := hD
    obtain ⟨f_w_5, fault_w_5, place_w_5, at_w_5, w_5_⟩ := w_5
    have k35_g_6 : g_6 35 = .int (nI e) := (f_w_5 35 (by decide)).trans ((fj0 35 (by decide)).trans g_end)
    have k33_g_6 : g_6 33 = .int (nI bs) := (f_w_5 33 (by decide)).trans ((fj0 33 (by decide)).trans g_base)
    have k1_g_6 : g_6 1 = .ref Mrows := (f_w_5 1 (by decide)).trans ((fj0 1 (by decide)).trans g_rows)
    have fr_g_6 : frm [36, 37, 34] g g_6 := frm_tr fj0 f_w_5 (by decide)
    obtain ⟨x1, t1, y1, z1, w1, q1⟩ := w_5_
    subst x1
    refine lv_istore_n (lv' := [(3, .int (nI v1)), (2, .int (nI aa0)), (1, .int (nI (0 + 1))), (0, .ref mm)]) hx hb dX9_fourOctets_16 rfl hl (by decide) rfl (fun ls hl => ?_)
    refine lv_aload_n hx hb dX9_fourOctets_17 rfl (lv_at hl 3 rfl) ?_
    refine fx_get (D := D) (ci := 9) (v := .int (nI fa1)) (C := RX9) (T := TX9) (N := 78) hx hb hts in_X9 hown hK hP 0 rfl rfl 36 (by decide) (hts _ kX9_179) (fun _ h9 => h9) (fault_w_5) dX9_fourOctets_18 ?_
    have J1 : ∀ (gj1 : Nat → Value) (fb1 : Nat) (pb1 : Nat) (H : Heap) (locs : List Loc) (ls : Array Slot), (frm [36, 37, 34] g gj1) → (gj1 36 = .int (nI fb1)) → (gj1 37 = .int (nI pb1)) → (gj1 34 = .int (nI aa1)) → (mk1 b e 195 (fb0, pb0, aa0) = (fb1, pb1, aa1)) → (fb1 < 2 ^ 31) → va_P D vwCl [(mm, .inr (9, fl 78 gj1)), (Mrows, .inl (cB, 32000, .inl mrows))] H → va_D A0 [(mm, .inr (9, fl 78 gj1)), (Mrows, .inl (cB, 32000, .inl mrows))] → va_S A0 s0.heap H locs → lv_has ls 4 [(0, .ref mm), (1, .int (nI 1)), (2, .int (nI aa0)), (3, .int (nI v1))] → W p0 l e0 ({ frames := 2, cells := 0, slots := 0, locals := 42 }) s0 m0 ([.ref mm] : List Value).toArray below meth c0 H locs 0 0 Q0 (F0 m0 67 ls []) := by
      intro gj1 fb1 pb1 H locs ls fj1 kj1_fault kj1_place kj1_at hmk1 hfb1 hP hD hS hl
      have hf2 : fb1 < 2 ^ 31 := hfb1
      have hb2 : aa1 ≤ e := w1
      have hm1 : mk1 b e 195 (fb0, pb0, aa0) = (fb1, pb1, aa1) := hmk1
      refine lv_iinc (v := nI (1 + 1)) (lv' := [(1, .int (nI (1 + 1))), (0, .ref mm), (2, .int (nI aa0)), (3, .int (nI v1))]) hx hb dX9_fourOctets_67 hl (k := 1) rfl (nI_add 1 1) (by decide) rfl (fun ls hl => ?_)
      refine lv_goto (tgt := 2) hx hb dX9_fourOctets_70 (by decide) ?_
      refine lv_iload_n hx hb dX9_fourOctets_2 rfl (lv_at hl 0 rfl) ?_
      refine lv_iconst (v := 4) hx hb dX9_fourOctets_3 (by decide) ?_
      refine lv_icmp_ge (tgt := 73) hx hb dX9_fourOctets_4 (by decide) (fun c_7 => absurd c_7 (by decide)) (fun c_7 => ?_)
      refine lv_aload_n hx hb dX9_fourOctets_7 rfl (lv_at hl 1 rfl) ?_
      refine fx_get (D := D) (ci := 9) (v := .int (nI aa1)) (C := RX9) (T := TX9) (N := 78) hx hb hts in_X9 hown hK hP 0 rfl rfl 34 (by decide) (hts _ kX9_185) (fun _ h9 => h9) (kj1_at) dX9_fourOctets_8 ?_
      refine lv_istore_n (lv' := [(2, .int (nI aa1)), (1, .int (nI (1 + 1))), (0, .ref mm), (3, .int (nI v1))]) hx hb dX9_fourOctets_11 rfl hl (by decide) rfl (fun ls hl => ?_)
      refine lv_aload_n hx hb dX9_fourOctets_12 rfl (lv_at hl 2 rfl) ?_
      refine jn_i (wr := []) hA hP hD hS [0, 1] [] rfl rfl (by decide) (by decide) (rn_V (As := []) (rest := []) ⟨hx, hb, hml, hown, hts⟩ (cvV 0 hts zc_yX9_take zi_X9 zm_yX9_take zv_yX9_take kX9_198 (by decide +kernel) rfl rfl ⟨Nat.le_of_ble_eq_true rfl, Nat.le_of_ble_eq_true rfl⟩) (m_take l D cI cB cJ cR mm gj1 Mrows mrows fb1 pb1 aa1 e bs b (kj1_fault) (kj1_place) (kj1_at) ((fj1 35 (by decide)).trans g_end) ((fj1 33 (by decide)).trans g_base) ((fj1 1 (by decide)).trans g_rows) (hf2) (he) (hb2) (hob) H.size) hK hNw hMk hA hP hD hS [0, 1] rfl rfl (by decide) 0 rfl rfl rfl rfl hl.1 rfl (Nat.le_of_ble_eq_true rfl) dX9_fourOctets_13 ⟨Nat.le_of_ble_eq_true rfl, Nat.le_of_ble_eq_true rfl⟩) (fun rt2 u9 H locs w_8 hP hD hS => ?_)
      obtain ⟨g_9, v2, fa2, pa2, aa2⟩ := u9
      try dsimp only at w_8
      have hP : va_P D vwCl [(mm, .inr (9, fl 78 g_9)), (Mrows, .inl (cB, 32000, .inl mrows))] H := hP
      have hD : va_D A0 [(mm, .inr (9, fl 78 g_9)), (Mrows, .inl (cB, 32000, .inl mrows))] := hD
      obtain ⟨f_w_8, fault_w_8, place_w_8, at_w_8, w_8_⟩ := w_8
      have k35_g_9 : g_9 35 = .int (nI e) := (f_w_8 35 (by decide)).trans ((fj1 35 (by decide)).trans g_end)
      have k33_g_9 : g_9 33 = .int (nI bs) := (f_w_8 33 (by decide)).trans ((fj1 33 (by decide)).trans g_base)
      have k1_g_9 : g_9 1 = .ref Mrows := (f_w_8 1 (by decide)).trans ((fj1 1 (by decide)).trans g_rows)
      have fr_g_9 : frm [36, 37, 34] g g_9 := frm_tr fj1 f_w_8 (by decide)
      obtain ⟨x1, t2, y2, z2, w2, q2⟩ := w_8_
      subst x1
      refine lv_istore_n (lv' := [(3, .int (nI v2)), (2, .int (nI aa1)), (1, .int (nI (1 + 1))), (0, .ref mm)]) hx hb dX9_fourOctets_16 rfl hl (by decide) rfl (fun ls hl => ?_)
      refine lv_aload_n hx hb dX9_fourOctets_17 rfl (lv_at hl 3 rfl) ?_
      refine fx_get (D := D) (ci := 9) (v := .int (nI fa2)) (C := RX9) (T := TX9) (N := 78) hx hb hts in_X9 hown hK hP 0 rfl rfl 36 (by decide) (hts _ kX9_179) (fun _ h9 => h9) (fault_w_8) dX9_fourOctets_18 ?_
      have J2 : ∀ (gj2 : Nat → Value) (fb2 : Nat) (pb2 : Nat) (H : Heap) (locs : List Loc) (ls : Array Slot), (frm [36, 37, 34] g gj2) → (gj2 36 = .int (nI fb2)) → (gj2 37 = .int (nI pb2)) → (gj2 34 = .int (nI aa2)) → (mk1 b e 196 (fb1, pb1, aa1) = (fb2, pb2, aa2)) → (fb2 < 2 ^ 31) → va_P D vwCl [(mm, .inr (9, fl 78 gj2)), (Mrows, .inl (cB, 32000, .inl mrows))] H → va_D A0 [(mm, .inr (9, fl 78 gj2)), (Mrows, .inl (cB, 32000, .inl mrows))] → va_S A0 s0.heap H locs → lv_has ls 4 [(0, .ref mm), (1, .int (nI 2)), (2, .int (nI aa1)), (3, .int (nI v2))] → W p0 l e0 ({ frames := 2, cells := 0, slots := 0, locals := 42 }) s0 m0 ([.ref mm] : List Value).toArray below meth c0 H locs 0 0 Q0 (F0 m0 67 ls []) := by
        intro gj2 fb2 pb2 H locs ls fj2 kj2_fault kj2_place kj2_at hmk2 hfb2 hP hD hS hl
        have hf3 : fb2 < 2 ^ 31 := hfb2
        have hb3 : aa2 ≤ e := w2
        have hm2 : mk1 b e 196 (fb1, pb1, aa1) = (fb2, pb2, aa2) := hmk2
        refine lv_iinc (v := nI (2 + 1)) (lv' := [(1, .int (nI (2 + 1))), (0, .ref mm), (2, .int (nI aa1)), (3, .int (nI v2))]) hx hb dX9_fourOctets_67 hl (k := 1) rfl (nI_add 2 1) (by decide) rfl (fun ls hl => ?_)
        refine lv_goto (tgt := 2) hx hb dX9_fourOctets_70 (by decide) ?_
        refine lv_iload_n hx hb dX9_fourOctets_2 rfl (lv_at hl 0 rfl) ?_
        refine lv_iconst (v := 4) hx hb dX9_fourOctets_3 (by decide) ?_
        refine lv_icmp_ge (tgt := 73) hx hb dX9_fourOctets_4 (by decide) (fun c_10 => absurd c_10 (by decide)) (fun c_10 => ?_)
        refine lv_aload_n hx hb dX9_fourOctets_7 rfl (lv_at hl 1 rfl) ?_
        refine fx_get (D := D) (ci := 9) (v := .int (nI aa2)) (C := RX9) (T := TX9) (N := 78) hx hb hts in_X9 hown hK hP 0 rfl rfl 34 (by decide) (hts _ kX9_185) (fun _ h9 => h9) (kj2_at) dX9_fourOctets_8 ?_
        refine lv_istore_n (lv' := [(2, .int (nI aa2)), (1, .int (nI (2 + 1))), (0, .ref mm), (3, .int (nI v2))]) hx hb dX9_fourOctets_11 rfl hl (by decide) rfl (fun ls hl => ?_)
        refine lv_aload_n hx hb dX9_fourOctets_12 rfl (lv_at hl 2 rfl) ?_
        refine jn_i (wr := []) hA hP hD hS [0, 1] [] rfl rfl (by decide) (by decide) (rn_V (As := []) (rest := []) ⟨hx, hb, hml, hown, hts⟩ (cvV 0 hts zc_yX9_take zi_X9 zm_yX9_take zv_yX9_take kX9_198 (by decide +kernel) rfl rfl ⟨Nat.le_of_ble_eq_true rfl, Nat.le_of_ble_eq_true rfl⟩) (m_take l D cI cB cJ cR mm gj2 Mrows mrows fb2 pb2 aa2 e bs b (kj2_fault) (kj2_place) (kj2_at) ((fj2 35 (by decide)).trans g_end) ((fj2 33 (by decide)).trans g_base) ((fj2 1 (by decide)).trans g_rows) (hf3) (he) (hb3) (hob) H.size) hK hNw hMk hA hP hD hS [0, 1] rfl rfl (by decide) 0 rfl rfl rfl rfl hl.1 rfl (Nat.le_of_ble_eq_true rfl) dX9_fourOctets_13 ⟨Nat.le_of_ble_eq_true rfl, Nat.le_of_ble_eq_true rfl⟩) (fun rt3 u9 H locs w_11 hP hD hS => ?_)
        obtain ⟨g_12, v3, fa3, pa3, aa3⟩ := u9
        try dsimp only at w_11
        have hP : va_P D vwCl [(mm, .inr (9, fl 78 g_12)), (Mrows, .inl (cB, 32000, .inl mrows))] H := hP
        have hD : va_D A0 [(mm, .inr (9, fl 78 g_12)), (Mrows, .inl (cB, 32000, .inl mrows))] := hD
        obtain ⟨f_w_11, fault_w_11, place_w_11, at_w_11, w_11_⟩ := w_11
        have k35_g_12 : g_12 35 = .int (nI e) := (f_w_11 35 (by decide)).trans ((fj2 35 (by decide)).trans g_end)
        have k33_g_12 : g_12 33 = .int (nI bs) := (f_w_11 33 (by decide)).trans ((fj2 33 (by decide)).trans g_base)
        have k1_g_12 : g_12 1 = .ref Mrows := (f_w_11 1 (by decide)).trans ((fj2 1 (by decide)).trans g_rows)
        have fr_g_12 : frm [36, 37, 34] g g_12 := frm_tr fj2 f_w_11 (by decide)
        obtain ⟨x1, t3, y3, z3, w3, q3⟩ := w_11_
        subst x1
        refine lv_istore_n (lv' := [(3, .int (nI v3)), (2, .int (nI aa2)), (1, .int (nI (2 + 1))), (0, .ref mm)]) hx hb dX9_fourOctets_16 rfl hl (by decide) rfl (fun ls hl => ?_)
        refine lv_aload_n hx hb dX9_fourOctets_17 rfl (lv_at hl 3 rfl) ?_
        refine fx_get (D := D) (ci := 9) (v := .int (nI fa3)) (C := RX9) (T := TX9) (N := 78) hx hb hts in_X9 hown hK hP 0 rfl rfl 36 (by decide) (hts _ kX9_179) (fun _ h9 => h9) (fault_w_11) dX9_fourOctets_18 ?_
        have J3 : ∀ (gj3 : Nat → Value) (fb3 : Nat) (pb3 : Nat) (H : Heap) (locs : List Loc) (ls : Array Slot), (frm [36, 37, 34] g gj3) → (gj3 36 = .int (nI fb3)) → (gj3 37 = .int (nI pb3)) → (gj3 34 = .int (nI aa3)) → (mk1 b e 0 (fb2, pb2, aa2) = (fb3, pb3, aa3)) → (fb3 < 2 ^ 31) → va_P D vwCl [(mm, .inr (9, fl 78 gj3)), (Mrows, .inl (cB, 32000, .inl mrows))] H → va_D A0 [(mm, .inr (9, fl 78 gj3)), (Mrows, .inl (cB, 32000, .inl mrows))] → va_S A0 s0.heap H locs → lv_has ls 4 [(0, .ref mm), (1, .int (nI 3)), (2, .int (nI aa2)), (3, .int (nI v3))] → W p0 l e0 ({ frames := 2, cells := 0, slots := 0, locals := 42 }) s0 m0 ([.ref mm] : List Value).toArray below meth c0 H locs 0 0 Q0 (F0 m0 67 ls []) := by
          intro gj3 fb3 pb3 H locs ls fj3 kj3_fault kj3_place kj3_at hmk3 hfb3 hP hD hS hl
          have hf4 : fb3 < 2 ^ 31 := hfb3
          have hb4 : aa3 ≤ e := w3
          have hm3 : mk1 b e 0 (fb2, pb2, aa2) = (fb3, pb3, aa3) := hmk3
          refine lv_iinc (v := nI (3 + 1)) (lv' := [(1, .int (nI (3 + 1))), (0, .ref mm), (2, .int (nI aa2)), (3, .int (nI v3))]) hx hb dX9_fourOctets_67 hl (k := 1) rfl (nI_add 3 1) (by decide) rfl (fun ls hl => ?_)
          refine lv_goto (tgt := 2) hx hb dX9_fourOctets_70 (by decide) ?_
          refine lv_iload_n hx hb dX9_fourOctets_2 rfl (lv_at hl 0 rfl) ?_
          refine lv_iconst (v := 4) hx hb dX9_fourOctets_3 (by decide) ?_
          refine lv_icmp_ge (tgt := 73) hx hb dX9_fourOctets_4 (by decide) (fun c_13 => ?_) (fun c_13 => absurd (by decide) c_13)
          exact hret 73 ls _ _ (gj3, fb3, pb3, aa3) dX9_fourOctets_73 hP hD hS (⟨fj3, kj3_fault, kj3_place, kj3_at, ⟨by rw [tkMark, hm0, hm1, hm2, hm3], hf4, by omega, hb4⟩⟩)
        refine lv_if_ne (tgt := 67) hx hb dX9_fourOctets_21 (by decide) (fun c_14 => ?_) (fun c_14 => ?_)
        · have hz : ¬ fa3 = 0 := fun z => c_14 (by rw [z]; decide)
          exact J3 g_12 fa3 pa3 _ _ ls (fr_g_12) (fault_w_11) (place_w_11) (at_w_11) (by rw [mk1, t3]; exact flI_st hz) (y3) hP hD hS (lv_sub hl [3, 2, 1, 0] rfl)
        · have hz : fa3 = 0 := Decidable.byContradiction (fun z => nI_ne0 (Nat.pos_of_ne_zero z) y3 c_14)
          refine lv_iload_n hx hb dX9_fourOctets_24 rfl (lv_at hl 0 rfl) ?_
          refine lv_iload_n hx hb dX9_fourOctets_25 rfl (lv_at hl 2 rfl) ?_
          refine lv_if_ne (tgt := 35) hx hb dX9_fourOctets_26 (by decide) (fun c_15 => ?_) (fun c_15 => absurd c_15 (by decide))
          refine lv_iload_n hx hb dX9_fourOctets_35 rfl (lv_at hl 2 rfl) ?_
          refine lv_iconst (v := 1) hx hb dX9_fourOctets_36 (by decide) ?_
          refine lv_icmp_ne (tgt := 46) hx hb dX9_fourOctets_37 (by decide) (fun c_16 => ?_) (fun c_16 => absurd c_16 (by decide))
          refine lv_iload_n hx hb dX9_fourOctets_46 rfl (lv_at hl 2 rfl) ?_
          refine lv_iconst (v := 2) hx hb dX9_fourOctets_47 (by decide) ?_
          refine lv_icmp_ne (tgt := 57) hx hb dX9_fourOctets_48 (by decide) (fun c_17 => ?_) (fun c_17 => absurd c_17 (by decide))
          refine lv_iconst (v := 0) hx hb dX9_fourOctets_57 (by decide) ?_
          refine lv_icmp_eq (tgt := 67) hx hb dX9_fourOctets_58 (by decide) (fun c_18 => ?_) (fun c_18 => ?_)
          · have hv : v3 = 0 := (nI_eq (b := 0) (by omega) (by decide)).mp c_18
            exact J3 g_12 fa3 pa3 _ _ ls (fr_g_12) (fault_w_11) (place_w_11) (at_w_11) (by rw [mk1, t3, flI, if_neg (fun w => w.1 hv)]) (y3) hP hD hS (lv_sub hl [3, 2, 1, 0] rfl)
          · have hv : ¬ v3 = 0 := fun z => c_18 (by rw [z]; rfl)
            refine lv_aload_n hx hb dX9_fourOctets_61 rfl (lv_at hl 3 rfl) ?_
            refine lv_iconst (v := 2) hx hb dX9_fourOctets_62 (by decide) ?_
            refine ri (y := nI 2) (rfl) ?_
            refine lv_iload_n hx hb dX9_fourOctets_63 rfl (lv_at hl 1 rfl) ?_
            refine jn_v (wr := [(Mrows, .inl (cB, 32000, .inl mrows))]) hA hP hD hS [0] [1] rfl rfl (by decide) (by decide) (rn_V (As := [.int (nI 2), .int (nI aa2)]) (rest := []) ⟨hx, hb, hml, hown, hts⟩ (cvV 2 hts zc_yX9_fail zi_X9 zm_yX9_fail zv_yX9_fail kX9_191 (by decide +kernel) rfl rfl ⟨Nat.le_of_ble_eq_true rfl, Nat.le_of_ble_eq_true rfl⟩) (m_fail l D cI cB cJ cR mm g_12 fa3 pa3 2 aa2 (fault_w_11) (place_w_11) (y3) H.size) hK hNw hMk hA hP hD hS [0] rfl rfl (by decide) 0 rfl rfl rfl rfl hl.1 rfl (Nat.le_of_ble_eq_true rfl) dX9_fourOctets_64 ⟨Nat.le_of_ble_eq_true rfl, Nat.le_of_ble_eq_true rfl⟩) (fun u9 H locs w_19 hP hD hS => ?_)
            obtain ⟨g_20, fu2_21, pl2_22⟩ := u9
            try dsimp only at w_19
            have hP : va_P D vwCl [(Mrows, .inl (cB, 32000, .inl mrows)), (mm, .inr (9, fl 78 g_20))] H := hP
            have hD : va_D A0 [(Mrows, .inl (cB, 32000, .inl mrows)), (mm, .inr (9, fl 78 g_20))] := hD
            obtain ⟨f_w_19, fault_w_19, place_w_19, w_19_⟩ := w_19
            have k35_g_20 : g_20 35 = .int (nI e) := (f_w_19 35 (by decide)).trans (k35_g_12)
            have k33_g_20 : g_20 33 = .int (nI bs) := (f_w_19 33 (by decide)).trans (k33_g_12)
            have k1_g_20 : g_20 1 = .ref Mrows := (f_w_19 1 (by decide)).trans (k1_g_12)
            have k34_g_20 : g_20 34 = .int (nI aa3) := (f_w_19 34 (by decide)).trans (at_w_11)
            have fr_g_20 : frm [36, 37, 34] g g_20 := frm_tr fr_g_12 f_w_19 (by decide)
            rw [if_pos hz] at w_19_
            obtain ⟨e1, e2⟩ := Prod.mk.inj w_19_
            exact J3 g_20 fu2_21 pl2_22 _ _ ls (fr_g_20) (fault_w_19) (place_w_19) (k34_g_20) (by rw [mk1, t3, flI, if_pos ⟨hv, hz⟩, e1, e2]) (by rw [e1]; decide) (hP.sub [1, 0] rfl) (hD.sub [1, 0] (by decide) rfl) hS (lv_sub hl [3, 2, 1, 0] rfl)
      refine lv_if_ne (tgt := 67) hx hb dX9_fourOctets_21 (by decide) (fun c_24 => ?_) (fun c_24 => ?_)
      · have hz : ¬ fa2 = 0 := fun z => c_24 (by rw [z]; decide)
        exact J2 g_9 fa2 pa2 _ _ ls (fr_g_9) (fault_w_8) (place_w_8) (at_w_8) (by rw [mk1, t2]; exact flI_st hz) (y2) hP hD hS (lv_sub hl [3, 2, 1, 0] rfl)
      · have hz : fa2 = 0 := Decidable.byContradiction (fun z => nI_ne0 (Nat.pos_of_ne_zero z) y2 c_24)
        refine lv_iload_n hx hb dX9_fourOctets_24 rfl (lv_at hl 0 rfl) ?_
        refine lv_iload_n hx hb dX9_fourOctets_25 rfl (lv_at hl 2 rfl) ?_
        refine lv_if_ne (tgt := 35) hx hb dX9_fourOctets_26 (by decide) (fun c_25 => ?_) (fun c_25 => absurd c_25 (by decide))
        refine lv_iload_n hx hb dX9_fourOctets_35 rfl (lv_at hl 2 rfl) ?_
        refine lv_iconst (v := 1) hx hb dX9_fourOctets_36 (by decide) ?_
        refine lv_icmp_ne (tgt := 46) hx hb dX9_fourOctets_37 (by decide) (fun c_26 => ?_) (fun c_26 => absurd c_26 (by decide))
        refine lv_iload_n hx hb dX9_fourOctets_46 rfl (lv_at hl 2 rfl) ?_
        refine lv_iconst (v := 2) hx hb dX9_fourOctets_47 (by decide) ?_
        refine lv_icmp_ne (tgt := 57) hx hb dX9_fourOctets_48 (by decide) (fun c_27 => absurd (by decide) c_27) (fun c_27 => ?_)
        refine lv_sipush (v := 196) hx hb dX9_fourOctets_51 (by decide) ?_
        refine lv_goto (tgt := 58) hx hb dX9_fourOctets_54 (by decide) ?_
        refine lv_icmp_eq (tgt := 67) hx hb dX9_fourOctets_58 (by decide) (fun c_28 => ?_) (fun c_28 => ?_)
        · have hv : v2 = 196 := (nI_eq (b := 196) (by omega) (by decide)).mp c_28
          exact J2 g_9 fa2 pa2 _ _ ls (fr_g_9) (fault_w_8) (place_w_8) (at_w_8) (by rw [mk1, t2, flI, if_neg (fun w => w.1 hv)]) (y2) hP hD hS (lv_sub hl [3, 2, 1, 0] rfl)
        · have hv : ¬ v2 = 196 := fun z => c_28 (by rw [z]; rfl)
          refine lv_aload_n hx hb dX9_fourOctets_61 rfl (lv_at hl 3 rfl) ?_
          refine lv_iconst (v := 2) hx hb dX9_fourOctets_62 (by decide) ?_
          refine ri (y := nI 2) (rfl) ?_
          refine lv_iload_n hx hb dX9_fourOctets_63 rfl (lv_at hl 1 rfl) ?_
          refine jn_v (wr := [(Mrows, .inl (cB, 32000, .inl mrows))]) hA hP hD hS [0] [1] rfl rfl (by decide) (by decide) (rn_V (As := [.int (nI 2), .int (nI aa1)]) (rest := []) ⟨hx, hb, hml, hown, hts⟩ (cvV 2 hts zc_yX9_fail zi_X9 zm_yX9_fail zv_yX9_fail kX9_191 (by decide +kernel) rfl rfl ⟨Nat.le_of_ble_eq_true rfl, Nat.le_of_ble_eq_true rfl⟩) (m_fail l D cI cB cJ cR mm g_9 fa2 pa2 2 aa1 (fault_w_8) (place_w_8) (y2) H.size) hK hNw hMk hA hP hD hS [0] rfl rfl (by decide) 0 rfl rfl rfl rfl hl.1 rfl (Nat.le_of_ble_eq_true rfl) dX9_fourOctets_64 ⟨Nat.le_of_ble_eq_true rfl, Nat.le_of_ble_eq_true rfl⟩) (fun u9 H locs w_29 hP hD hS => ?_)
          obtain ⟨g_30, fu2_31, pl2_32⟩ := u9
          try dsimp only at w_29
          have hP : va_P D vwCl [(Mrows, .inl (cB, 32000, .inl mrows)), (mm, .inr (9, fl 78 g_30))] H := hP
          have hD : va_D A0 [(Mrows, .inl (cB, 32000, .inl mrows)), (mm, .inr (9, fl 78 g_30))] := hD
          obtain ⟨f_w_29, fault_w_29, place_w_29, w_29_⟩ := w_29
          have k35_g_30 : g_30 35 = .int (nI e) := (f_w_29 35 (by decide)).trans (k35_g_9)
          have k33_g_30 : g_30 33 = .int (nI bs) := (f_w_29 33 (by decide)).trans (k33_g_9)
          have k1_g_30 : g_30 1 = .ref Mrows := (f_w_29 1 (by decide)).trans (k1_g_9)
          have k34_g_30 : g_30 34 = .int (nI aa2) := (f_w_29 34 (by decide)).trans (at_w_8)
          have fr_g_30 : frm [36, 37, 34] g g_30 := frm_tr fr_g_9 f_w_29 (by decide)
          rw [if_pos hz] at w_29_
          obtain ⟨e1, e2⟩ := Prod.mk.inj w_29_
          exact J2 g_30 fu2_31 pl2_32 _ _ ls (fr_g_30) (fault_w_29) (place_w_29) (k34_g_30) (by rw [mk1, t2, flI, if_pos ⟨hv, hz⟩, e1, e2]) (by rw [e1]; decide) (hP.sub [1, 0] rfl) (hD.sub [1, 0] (by decide) rfl) hS (lv_sub hl [3, 2, 1, 0] rfl)
    refine lv_if_ne (tgt := 67) hx hb dX9_fourOctets_21 (by decide) (fun c_34 => ?_) (fun c_34 => ?_)
    · have hz : ¬ fa1 = 0 := fun z => c_34 (by rw [z]; decide)
      exact J1 g_6 fa1 pa1 _ _ ls (fr_g_6) (fault_w_5) (place_w_5) (at_w_5) (by rw [mk1, t1]; exact flI_st hz) (y1) hP hD hS (lv_sub hl [3, 2, 1, 0] rfl)
    · have hz : fa1 = 0 := Decidable.byContradiction (fun z => nI_ne0 (Nat.pos_of_ne_zero z) y1 c_34)
      refine lv_iload_n hx hb dX9_fourOctets_24 rfl (lv_at hl 0 rfl) ?_
      refine lv_iload_n hx hb dX9_fourOctets_25 rfl (lv_at hl 2 rfl) ?_
      refine lv_if_ne (tgt := 35) hx hb dX9_fourOctets_26 (by decide) (fun c_35 => ?_) (fun c_35 => absurd c_35 (by decide))
      refine lv_iload_n hx hb dX9_fourOctets_35 rfl (lv_at hl 2 rfl) ?_
      refine lv_iconst (v := 1) hx hb dX9_fourOctets_36 (by decide) ?_
      refine lv_icmp_ne (tgt := 46) hx hb dX9_fourOctets_37 (by decide) (fun c_36 => absurd (by decide) c_36) (fun c_36 => ?_)
      refine lv_sipush (v := 195) hx hb dX9_fourOctets_40 (by decide) ?_
      refine lv_goto (tgt := 58) hx hb dX9_fourOctets_43 (by decide) ?_
      refine lv_icmp_eq (tgt := 67) hx hb dX9_fourOctets_58 (by decide) (fun c_37 => ?_) (fun c_37 => ?_)
      · have hv : v1 = 195 := (nI_eq (b := 195) (by omega) (by decide)).mp c_37
        exact J1 g_6 fa1 pa1 _ _ ls (fr_g_6) (fault_w_5) (place_w_5) (at_w_5) (by rw [mk1, t1, flI, if_neg (fun w => w.1 hv)]) (y1) hP hD hS (lv_sub hl [3, 2, 1, 0] rfl)
      · have hv : ¬ v1 = 195 := fun z => c_37 (by rw [z]; rfl)
        refine lv_aload_n hx hb dX9_fourOctets_61 rfl (lv_at hl 3 rfl) ?_
        refine lv_iconst (v := 2) hx hb dX9_fourOctets_62 (by decide) ?_
        refine ri (y := nI 2) (rfl) ?_
        refine lv_iload_n hx hb dX9_fourOctets_63 rfl (lv_at hl 1 rfl) ?_
        refine jn_v (wr := [(Mrows, .inl (cB, 32000, .inl mrows))]) hA hP hD hS [0] [1] rfl rfl (by decide) (by decide) (rn_V (As := [.int (nI 2), .int (nI aa0)]) (rest := []) ⟨hx, hb, hml, hown, hts⟩ (cvV 2 hts zc_yX9_fail zi_X9 zm_yX9_fail zv_yX9_fail kX9_191 (by decide +kernel) rfl rfl ⟨Nat.le_of_ble_eq_true rfl, Nat.le_of_ble_eq_true rfl⟩) (m_fail l D cI cB cJ cR mm g_6 fa1 pa1 2 aa0 (fault_w_5) (place_w_5) (y1) H.size) hK hNw hMk hA hP hD hS [0] rfl rfl (by decide) 0 rfl rfl rfl rfl hl.1 rfl (Nat.le_of_ble_eq_true rfl) dX9_fourOctets_64 ⟨Nat.le_of_ble_eq_true rfl, Nat.le_of_ble_eq_true rfl⟩) (fun u9 H locs w_38 hP hD hS => ?_)
        obtain ⟨g_39, fu2_40, pl2_41⟩ := u9
        try dsimp only at w_38
        have hP : va_P D vwCl [(Mrows, .inl (cB, 32000, .inl mrows)), (mm, .inr (9, fl 78 g_39))] H := hP
        have hD : va_D A0 [(Mrows, .inl (cB, 32000, .inl mrows)), (mm, .inr (9, fl 78 g_39))] := hD
        obtain ⟨f_w_38, fault_w_38, place_w_38, w_38_⟩ := w_38
        have k35_g_39 : g_39 35 = .int (nI e) := (f_w_38 35 (by decide)).trans (k35_g_6)
        have k33_g_39 : g_39 33 = .int (nI bs) := (f_w_38 33 (by decide)).trans (k33_g_6)
        have k1_g_39 : g_39 1 = .ref Mrows := (f_w_38 1 (by decide)).trans (k1_g_6)
        have k34_g_39 : g_39 34 = .int (nI aa1) := (f_w_38 34 (by decide)).trans (at_w_5)
        have fr_g_39 : frm [36, 37, 34] g g_39 := frm_tr fr_g_6 f_w_38 (by decide)
        rw [if_pos hz] at w_38_
        obtain ⟨e1, e2⟩ := Prod.mk.inj w_38_
        exact J1 g_39 fu2_40 pl2_41 _ _ ls (fr_g_39) (fault_w_38) (place_w_38) (k34_g_39) (by rw [mk1, t1, flI, if_pos ⟨hv, hz⟩, e1, e2]) (by rw [e1]; decide) (hP.sub [1, 0] rfl) (hD.sub [1, 0] (by decide) rfl) hS (lv_sub hl [3, 2, 1, 0] rfl)
  refine lv_if_ne (tgt := 67) hx hb dX9_fourOctets_21 (by decide) (fun c_43 => ?_) (fun c_43 => ?_)
  · have hz : ¬ fa0 = 0 := fun z => c_43 (by rw [z]; decide)
    exact J0 g_3 fa0 pa0 _ _ ls (fr_g_3) (fault_w_2) (place_w_2) (at_w_2) (by rw [mk1, t0]; exact flI_st hz) (y0) hP hD hS (lv_sub hl [3, 2, 1, 0] rfl)
  · have hz : fa0 = 0 := Decidable.byContradiction (fun z => nI_ne0 (Nat.pos_of_ne_zero z) y0 c_43)
    refine lv_iload_n hx hb dX9_fourOctets_24 rfl (lv_at hl 0 rfl) ?_
    refine lv_iload_n hx hb dX9_fourOctets_25 rfl (lv_at hl 2 rfl) ?_
    refine lv_if_ne (tgt := 35) hx hb dX9_fourOctets_26 (by decide) (fun c_44 => absurd (by decide) c_44) (fun c_44 => ?_)
    refine lv_sipush (v := 214) hx hb dX9_fourOctets_29 (by decide) ?_
    refine lv_goto (tgt := 58) hx hb dX9_fourOctets_32 (by decide) ?_
    refine lv_icmp_eq (tgt := 67) hx hb dX9_fourOctets_58 (by decide) (fun c_45 => ?_) (fun c_45 => ?_)
    · have hv : v0 = 214 := (nI_eq (b := 214) (by omega) (by decide)).mp c_45
      exact J0 g_3 fa0 pa0 _ _ ls (fr_g_3) (fault_w_2) (place_w_2) (at_w_2) (by rw [mk1, t0, flI, if_neg (fun w => w.1 hv)]) (y0) hP hD hS (lv_sub hl [3, 2, 1, 0] rfl)
    · have hv : ¬ v0 = 214 := fun z => c_45 (by rw [z]; rfl)
      refine lv_aload_n hx hb dX9_fourOctets_61 rfl (lv_at hl 3 rfl) ?_
      refine lv_iconst (v := 2) hx hb dX9_fourOctets_62 (by decide) ?_
      refine ri (y := nI 2) (rfl) ?_
      refine lv_iload_n hx hb dX9_fourOctets_63 rfl (lv_at hl 1 rfl) ?_
      refine jn_v (wr := [(Mrows, .inl (cB, 32000, .inl mrows))]) hA hP hD hS [0] [1] rfl rfl (by decide) (by decide) (rn_V (As := [.int (nI 2), .int (nI a)]) (rest := []) ⟨hx, hb, hml, hown, hts⟩ (cvV 2 hts zc_yX9_fail zi_X9 zm_yX9_fail zv_yX9_fail kX9_191 (by decide +kernel) rfl rfl ⟨Nat.le_of_ble_eq_true rfl, Nat.le_of_ble_eq_true rfl⟩) (m_fail l D cI cB cJ cR mm g_3 fa0 pa0 2 a (fault_w_2) (place_w_2) (y0) H.size) hK hNw hMk hA hP hD hS [0] rfl rfl (by decide) 0 rfl rfl rfl rfl hl.1 rfl (Nat.le_of_ble_eq_true rfl) dX9_fourOctets_64 ⟨Nat.le_of_ble_eq_true rfl, Nat.le_of_ble_eq_true rfl⟩) (fun u9 H locs w_46 hP hD hS => ?_)
      obtain ⟨g_47, fu2_48, pl2_49⟩ := u9
      try dsimp only at w_46
      have hP : va_P D vwCl [(Mrows, .inl (cB, 32000, .inl mrows)), (mm, .inr (9, fl 78 g_47))] H := hP
      have hD : va_D A0 [(Mrows, .inl (cB, 32000, .inl mrows)), (mm, .inr (9, fl 78 g_47))] := hD
      obtain ⟨f_w_46, fault_w_46, place_w_46, w_46_⟩ := w_46
      have k35_g_47 : g_47 35 = .int (nI e) := (f_w_46 35 (by decide)).trans (k35_g_3)
      have k33_g_47 : g_47 33 = .int (nI bs) := (f_w_46 33 (by decide)).trans (k33_g_3)
      have k1_g_47 : g_47 1 = .ref Mrows := (f_w_46 1 (by decide)).trans (k1_g_3)
      have k34_g_47 : g_47 34 = .int (nI aa0) := (f_w_46 34 (by decide)).trans (at_w_2)
      have fr_g_47 : frm [36, 37, 34] g g_47 := frm_tr fr_g_3 f_w_46 (by decide)
      rw [if_pos hz] at w_46_
      obtain ⟨e1, e2⟩ := Prod.mk.inj w_46_
      exact J0 g_47 fu2_48 pl2_49 _ _ ls (fr_g_47) (fault_w_46) (place_w_46) (k34_g_47) (by rw [mk1, t0, flI, if_pos ⟨hv, hz⟩, e1, e2]) (by rw [e1]; decide) (hP.sub [1, 0] rfl) (hD.sub [1, 0] (by decide) rfl) hS (lv_sub hl [3, 2, 1, 0] rfl)

set_option maxHeartbeats 4000000 in
set_option maxRecDepth 100000 in
theorem m_numberIn (l : Launch) (D : va_G) (cI cB cJ cR : ClassId) (mm : Nat) (g : Nat → Value) (Mrows : Nat) (mrows : Nat → Int32) (bs : Nat) (pa : Int32) (f : Nat) (t : Nat) (b : Nat → Nat) (g_base : g 33 = .int (nI bs)) (g_partAt : g 51 = .int pa) (g_rows : g 1 = .ref Mrows) (he : bs + t ≤ 32000) (hft : f ≤ t) (hob : ∀ j, j < t → mrows (bs + j) = s8 (b j) ∧ b j < 256) : CMl l yX9_numberIn cX9_numberIn 8 (some .long) ({ frames := 0, cells := 0, slots := 0, locals := 0 }) D (tyA cI cB cJ cR) 0 0 [.ref mm, .int (nI f), .int (nI t)] [(mm, .inr (9, fl 78 g)), (Mrows, .inl (cB, 32000, .inl mrows))] (fun (r : Int64) (u9 : (Nat → Value) × Int32) => match u9 with | (g9, pa2) => frm [51] g g9 ∧ g9 51 = .int pa2 ∧ ((rdN b t 5 f 0).1 = 0 → r = lN (rdN b t 5 f 0).2.1 ∧ pa2 = nI (rdN b t 5 f 0).2.2) ∧ (¬ (rdN b t 5 f 0).1 = 0 → r = -1)) (fun (u9 : (Nat → Value) × Int32) => match u9 with | (g9, pa2) => [(mm, .inr (9, fl 78 g9)), (Mrows, .inl (cB, 32000, .inl mrows))]) := by
  refine st_l (cc := cX9_numberIn) (maxL := 8) (by decide) (Nat.le_of_ble_eq_true rfl) ?_
  intro p0 e0 s0 m0 below meth c0 A0 Q0 hBD hret hP hD hS ls hl
  obtain ⟨hx, hb, hml, hown, hts, hnm, hK, hNw, hMk, hA⟩ := hBD
  have hl : lv_has ls 8 [(0, .ref mm), (1, .int (nI f)), (2, .int (nI t))] := hl
  have hP : va_P D vwCl [(mm, .inr (9, fl 78 g)), (Mrows, .inl (cB, 32000, .inl mrows))] s0.heap := hP
  have hD : va_D A0 [(mm, .inr (9, fl 78 g)), (Mrows, .inl (cB, 32000, .inl mrows))] := hD
  refine lv_lconst (v := 0) hx hb dX9_numberIn_0 (by decide) ?_
  refine rl (y := lN 0) (rfl) ?_
  refine lv_lstore_n (lv' := [(3, .long (lN 0)), (0, .ref mm), (1, .int (nI f)), (2, .int (nI t))]) hx hb dX9_numberIn_1 rfl hl (by decide) rfl (fun ls hl => ?_)
  refine lv_iload_n hx hb dX9_numberIn_2 rfl (lv_at hl 2 rfl) ?_
  refine lv_istore (lv' := [(5, .int (nI f)), (3, .long (lN 0)), (0, .ref mm), (1, .int (nI f)), (2, .int (nI t))]) hx hb dX9_numberIn_3 hl (by decide) rfl (fun ls hl => ?_)
  refine lv_sipush (v := 128) hx hb dX9_numberIn_5 (by decide) ?_
  refine ri (y := nI 128) (rfl) ?_
  refine lv_istore (lv' := [(6, .int (nI 128)), (5, .int (nI f)), (3, .long (lN 0)), (0, .ref mm), (1, .int (nI f)), (2, .int (nI t))]) hx hb dX9_numberIn_8 hl (by decide) rfl (fun ls hl => ?_)
  refine lv_iconst (v := 0) hx hb dX9_numberIn_10 (by decide) ?_
  refine ri (y := nI 0) (nI_0.symm) ?_
  refine lv_istore (lv' := [(7, .int (nI 0)), (6, .int (nI 128)), (5, .int (nI f)), (3, .long (lN 0)), (0, .ref mm), (1, .int (nI f)), (2, .int (nI t))]) hx hb dX9_numberIn_11 hl (by decide) rfl (fun ls hl => ?_)
  have JE : ∀ (a7 : Nat) (c7 : Nat) (v7 : Nat) (k7 : Nat) (H : Heap) (locs : List Loc) (ls : Array Slot), (((128 ≤ c7 ∨ 2147483647 < v7) ∧ (rdN b t 5 f 0).1 = 2) ∨ ((c7 < 128 ∧ v7 ≤ 2147483647) ∧ (rdN b t 5 f 0).1 = 0 ∧ (rdN b t 5 f 0).2.1 = v7 ∧ (rdN b t 5 f 0).2.2 = a7)) → (c7 < 256) → (v7 < 2 ^ 40) → va_P D vwCl [(mm, .inr (9, fl 78 g)), (Mrows, .inl (cB, 32000, .inl mrows))] H → va_D A0 [(mm, .inr (9, fl 78 g)), (Mrows, .inl (cB, 32000, .inl mrows))] → va_S A0 s0.heap H locs → lv_has ls 8 [(0, .ref mm), (1, .int (nI f)), (2, .int (nI t)), (3, .long (lN v7)), (5, .int (nI a7)), (6, .int (nI c7)), (7, .int (nI k7))] → W p0 l e0 ({ frames := 0, cells := 0, slots := 0, locals := 0 }) s0 m0 ([.ref mm, .int (nI f), .int (nI t)] : List Value).toArray below meth c0 H locs 0 0 Q0 (F0 m0 76 ls []) := by
    intro a7 c7 v7 k7 H locs ls hAx hc7 hv7 hP hD hS hl
    refine lv_aload_n hx hb dX9_numberIn_76 rfl (lv_at hl 0 rfl) ?_
    refine lv_iload hx hb dX9_numberIn_77 (lv_at hl 4 rfl) ?_
    refine fx_put (D := D) (ci := 9) (v := .int (nI a7)) (ty := .int) (C := RX9) (T := TX9) (N := 78) hx hb hts in_X9 tyX9 tyX9_ok nmX9 hown hK hP hD hS 0 rfl rfl 51 (by decide) (hts _ kX9_284) (fun _ h9 => h9) rfl (by decide +kernel) rfl rfl dX9_numberIn_79 (fun H locs hP hD hS => ?_)
    have hP : va_P D vwCl [(mm, .inr (9, fl 78 (va_up g 51 (.int (nI a7))))), (Mrows, .inl (cB, 32000, .inl mrows))] H := hP
    have hD : va_D A0 [(mm, .inr (9, fl 78 (va_up g 51 (.int (nI a7))))), (Mrows, .inl (cB, 32000, .inl mrows))] := hD
    refine lv_iload hx hb dX9_numberIn_82 (lv_at hl 5 rfl) ?_
    refine lv_sipush (v := 128) hx hb dX9_numberIn_84 (by decide) ?_
    refine lv_icmp_ge (tgt := 98) hx hb dX9_numberIn_87 (by decide) (fun c_1 => ?_) (fun c_1 => ?_)
    · have hcv : 128 ≤ c7 ∨ 2147483647 < v7 := Or.inl ((nI_leI (a := 128) (by decide) (by omega)).mp c_1)
      have hr2 : (rdN b t 5 f 0).1 = 2 := hAx.elim (fun w => w.2) (fun w => absurd hcv (fun q => by have := w.1; omega))
      refine lv_ldc2 hx hb hown (hts _ kX9_158) dX9_numberIn_98 ?_
      refine lv_goto (tgt := 105) hx hb dX9_numberIn_101 (by decide) ?_
      exact hret 105 ls _ _ _ ((va_up g 51 (.int (nI a7))), nI a7) dX9_numberIn_105 hP hD hS (⟨(frm_up frm_refl (by decide)), rfl, ⟨fun z => absurd (hr2.symm.trans z) (by decide), fun _ => rfl⟩⟩)
    · have hc8 : c7 < 128 := Nat.not_le.mp (fun q => c_1 (nI_le (a := 128) q (by omega)))
      refine lv_lload_n hx hb dX9_numberIn_90 rfl (lv_at hl 3 rfl) ?_
      refine lv_ldc2 hx hb hown (hts _ kX9_202) dX9_numberIn_91 ?_
      refine rl (y := lN 2147483647) (rfl) ?_
      refine W.lcmp hx hb dX9_numberIn_94 ?_
      refine lv_if_le (tgt := 104) hx hb dX9_numberIn_95 (by decide) (fun c_2 => ?_) (fun c_2 => ?_)
      · have hv9 : v7 ≤ 2147483647 := (pk_lLE (by omega) (by decide)).mp ((lg_cmp_le _ _).mp c_2)
        have t7 := hAx.elim (fun w => absurd w.1 (by omega)) (fun w => w.2)
        refine lv_lload_n hx hb dX9_numberIn_104 rfl (lv_at hl 3 rfl) ?_
        exact hret 105 ls _ _ _ ((va_up g 51 (.int (nI a7))), nI a7) dX9_numberIn_105 hP hD hS (⟨(frm_up frm_refl (by decide)), rfl, ⟨fun _ => ⟨by rw [t7.2.1], by rw [t7.2.2]⟩, fun z => absurd t7.1 z⟩⟩)
      · have hcv : 128 ≤ c7 ∨ 2147483647 < v7 := Or.inr (Nat.not_le.mp (fun z => c_2 ((lg_cmp_le _ _).mpr ((pk_lLE (by omega) (by decide)).mpr z))))
        have hr2 : (rdN b t 5 f 0).1 = 2 := hAx.elim (fun w => w.2) (fun w => absurd hcv (fun q => by have := w.1; omega))
        refine lv_ldc2 hx hb hown (hts _ kX9_158) dX9_numberIn_98 ?_
        refine lv_goto (tgt := 105) hx hb dX9_numberIn_101 (by decide) ?_
        exact hret 105 ls _ _ _ ((va_up g 51 (.int (nI a7))), nI a7) dX9_numberIn_105 hP hD hS (⟨(frm_up frm_refl (by decide)), rfl, ⟨fun z => absurd (hr2.symm.trans z) (by decide), fun _ => rfl⟩⟩)
  have loop : ∀ (k9 : Nat) (a7 : Nat) (c7 : Nat) (v7 : Nat) (k7 : Nat) (H : Heap) (locs : List Loc) (ls : Array Slot), 5 - k7 < k9 → (k7 ≤ 5) → (128 ≤ c7) → (c7 < 256) → (a7 ≤ t) → ((rdN b t 5 f 0) = rdN b t (5 - k7) a7 v7) → (v7 < 128 ^ k7) → va_P D vwCl [(mm, .inr (9, fl 78 g)), (Mrows, .inl (cB, 32000, .inl mrows))] H → va_D A0 [(mm, .inr (9, fl 78 g)), (Mrows, .inl (cB, 32000, .inl mrows))] → va_S A0 s0.heap H locs → lv_has ls 8 [(0, .ref mm), (1, .int (nI f)), (2, .int (nI t)), (3, .long (lN v7)), (5, .int (nI a7)), (6, .int (nI c7)), (7, .int (nI k7))] → W p0 l e0 ({ frames := 0, cells := 0, slots := 0, locals := 0 }) s0 m0 ([.ref mm, .int (nI f), .int (nI t)] : List Value).toArray below meth c0 H locs 0 0 Q0 (F0 m0 13 ls []) := by
    intro k9
    induction k9 with
    | zero => intro a7 c7 v7 k7 H locs ls hk9; exact absurd hk9 (Nat.not_lt_zero _)
    | succ k9 ih =>
      intro a7 c7 v7 k7 H locs ls hk9 hk7 hc128 hc7 ha7 hrun hvk hP hD hS hl
      refine lv_iload hx hb dX9_numberIn_13 (lv_at hl 6 rfl) ?_
      refine lv_iconst (v := 5) hx hb dX9_numberIn_15 (by decide) ?_
      refine lv_icmp_ge (tgt := 76) hx hb dX9_numberIn_16 (by decide) (fun c_3 => ?_) (fun c_3 => ?_)
      · have hk5 : k7 = 5 := by have := (nI_leI (a := 5) (by decide) (by omega)).mp c_3; omega
        subst hk5
        rw [show 5 - 5 = 0 from rfl] at hrun
        have hr0 : (rdN b t 5 f 0) = (2, v7, a7) := hrun
        exact JE a7 c7 v7 5 _ _ ls (Or.inl ⟨Or.inl hc128, by rw [hr0]⟩) (hc7) (by omega) hP hD hS (lv_sub hl [0, 1, 2, 3, 4, 5, 6] rfl)
      · have hk5 : k7 < 5 := Nat.not_le.mp (fun q => c_3 (nI_le (a := 5) q (by omega)))
        refine lv_iload hx hb dX9_numberIn_19 (lv_at hl 5 rfl) ?_
        refine lv_sipush (v := 128) hx hb dX9_numberIn_21 (by decide) ?_
        refine lv_icmp_lt (tgt := 76) hx hb dX9_numberIn_24 (by decide) (fun c_4 => absurd c_4 (fun z => absurd ((nI_ltI (b := 128) (by omega) (by decide)).mp z) (by omega))) (fun c_4 => ?_)
        refine lv_iload hx hb dX9_numberIn_27 (lv_at hl 4 rfl) ?_
        refine lv_iload_n hx hb dX9_numberIn_29 rfl (lv_at hl 2 rfl) ?_
        have y1 := hrun.trans (show rdN b t (5 - k7) a7 v7 = _ by rw [show 5 - k7 = 5 - (k7 + 1) + 1 by omega, rdN])
        have hp4 : 128 ^ k7 ≤ 268435456 := Nat.le_trans (Nat.pow_le_pow_right (by decide) (show k7 ≤ 4 by omega)) (by decide)
        refine lv_icmp_lt (tgt := 37) hx hb dX9_numberIn_30 (by decide) (fun c_5 => ?_) (fun c_5 => ?_)
        · have hlt : a7 < t := (nI_ltI (by omega) (by omega)).mp c_5
          rw [if_pos hlt] at y1
          obtain ⟨hv1, hv2⟩ := hob a7 hlt
          refine lv_aload_n hx hb dX9_numberIn_37 rfl (lv_at hl 0 rfl) ?_
          refine fx_get (D := D) (ci := 9) (v := .ref Mrows) (C := RX9) (T := TX9) (N := 78) hx hb hts in_X9 hown hK hP 0 rfl rfl 1 (by decide) (hts _ kX9_7) (fun _ h9 => h9) (g_rows) dX9_numberIn_38 ?_
          refine lv_aload_n hx hb dX9_numberIn_41 rfl (lv_at hl 0 rfl) ?_
          refine fx_get (D := D) (ci := 9) (v := .int (nI bs)) (C := RX9) (T := TX9) (N := 78) hx hb hts in_X9 hown hK hP 0 rfl rfl 33 (by decide) (hts _ kX9_195) (fun _ h9 => h9) (g_base) dX9_numberIn_42 ?_
          refine lv_iload hx hb dX9_numberIn_45 (lv_at hl 4 rfl) ?_
          refine lv_iadd hx hb dX9_numberIn_47 ?_
          refine ri (y := nI (bs + a7)) (nI_add bs a7) ?_
          refine ax_bld hx hb hK hP 1 1 rfl rfl (bs + a7) (rfl) (by omega) (by omega) dX9_numberIn_48 ?_
          refine lv_sipush (v := 255) hx hb dX9_numberIn_49 (by decide) ?_
          refine lv_iand hx hb dX9_numberIn_52 ?_
          refine ri (y := nI (b a7)) (by rw [hv1]; exact s8_and _ hv2) ?_
          refine lv_istore (lv' := [(6, .int (nI (b a7))), (0, .ref mm), (1, .int (nI f)), (2, .int (nI t)), (3, .long (lN v7)), (5, .int (nI a7)), (7, .int (nI k7))]) hx hb dX9_numberIn_53 hl (by decide) rfl (fun ls hl => ?_)
          refine lv_iinc (v := nI (a7 + 1)) (lv' := [(5, .int (nI (a7 + 1))), (6, .int (nI (b a7))), (0, .ref mm), (1, .int (nI f)), (2, .int (nI t)), (3, .long (lN v7)), (7, .int (nI k7))]) hx hb dX9_numberIn_55 hl (k := 5) rfl (nI_add a7 1) (by decide) rfl (fun ls hl => ?_)
          refine lv_lload_n hx hb dX9_numberIn_58 rfl (lv_at hl 5 rfl) ?_
          refine lv_bipush (v := 7) hx hb dX9_numberIn_59 (by decide) ?_
          refine lv_lshl hx hb dX9_numberIn_61 (v := (lN v7) <<< ((7 : Int32).toInt64 &&& 63)) rfl ?_
          refine lv_iload hx hb dX9_numberIn_62 (lv_at hl 1 rfl) ?_
          refine lv_bipush (v := 127) hx hb dX9_numberIn_64 (by decide) ?_
          refine lv_iand hx hb dX9_numberIn_66 ?_
          refine ri (y := nI (b a7 % 128)) (and127 hv2) ?_
          refine lv_i2l hx hb dX9_numberIn_67 (v := (nI (b a7 % 128)).toInt64) rfl ?_
          refine rl (y := lN (b a7 % 128)) (nI_l (by omega)) ?_
          refine lv_lor hx hb dX9_numberIn_68 ?_
          refine rl (y := lN (v7 * 128 + b a7 % 128)) (lsh7 (by omega) (by omega)) ?_
          refine lv_lstore_n (lv' := [(3, .long (lN (v7 * 128 + b a7 % 128))), (5, .int (nI (a7 + 1))), (6, .int (nI (b a7))), (0, .ref mm), (1, .int (nI f)), (2, .int (nI t)), (7, .int (nI k7))]) hx hb dX9_numberIn_69 rfl hl (by decide) rfl (fun ls hl => ?_)
          refine lv_iinc (v := nI (k7 + 1)) (lv' := [(7, .int (nI (k7 + 1))), (3, .long (lN (v7 * 128 + b a7 % 128))), (5, .int (nI (a7 + 1))), (6, .int (nI (b a7))), (0, .ref mm), (1, .int (nI f)), (2, .int (nI t))]) hx hb dX9_numberIn_70 hl (k := 6) rfl (nI_add k7 1) (by decide) rfl (fun ls hl => ?_)
          refine lv_goto (tgt := 13) hx hb dX9_numberIn_73 (by decide) ?_
          by_cases hc8 : b a7 < 128
          · rw [if_pos hc8] at y1
            refine lv_iload hx hb dX9_numberIn_13 (lv_at hl 0 rfl) ?_
            refine lv_iconst (v := 5) hx hb dX9_numberIn_15 (by decide) ?_
            refine lv_icmp_ge (tgt := 76) hx hb dX9_numberIn_16 (by decide) (fun c_6 => ?_) (fun c_6 => ?_)
            · exact JE (a7 + 1) (b a7) (v7 * 128 + b a7 % 128) (k7 + 1) _ _ ls (by rw [y1]; by_cases z : v7 * 128 + b a7 % 128 ≤ 2147483647; rw [if_pos z]; exact Or.inr ⟨⟨hc8, z⟩, rfl, rfl, rfl⟩; rw [if_neg z]; exact Or.inl ⟨Or.inr (by omega), rfl⟩) (hv2) (by omega) hP hD hS (lv_sub hl [4, 5, 6, 1, 2, 3, 0] rfl)
            · refine lv_iload hx hb dX9_numberIn_19 (lv_at hl 3 rfl) ?_
              refine lv_sipush (v := 128) hx hb dX9_numberIn_21 (by decide) ?_
              refine lv_icmp_lt (tgt := 76) hx hb dX9_numberIn_24 (by decide) (fun c_7 => ?_) (fun c_7 => absurd (nI_lt (b := 128) hc8 (by decide)) c_7)
              exact JE (a7 + 1) (b a7) (v7 * 128 + b a7 % 128) (k7 + 1) _ _ ls (by rw [y1]; by_cases z : v7 * 128 + b a7 % 128 ≤ 2147483647; rw [if_pos z]; exact Or.inr ⟨⟨hc8, z⟩, rfl, rfl, rfl⟩; rw [if_neg z]; exact Or.inl ⟨Or.inr (by omega), rfl⟩) (hv2) (by omega) hP hD hS (lv_sub hl [4, 5, 6, 1, 2, 3, 0] rfl)
          · rw [if_neg hc8] at y1
            have hp8 : 128 ^ (k7 + 1) = 128 ^ k7 * 128 := Nat.pow_succ ..
            exact ih (a7 + 1) (b a7) (v7 * 128 + b a7 % 128) (k7 + 1) _ _ ls (by omega) (by omega) (by omega) (hv2) (by omega) (y1) (by rw [hp8]; omega) hP hD hS (lv_sub hl [4, 5, 6, 1, 2, 3, 0] rfl)
        · have hlt : ¬ a7 < t := fun z => c_5 (nI_lt z (by omega))
          rw [if_neg hlt] at y1
          refine lv_ldc2 hx hb hown (hts _ kX9_158) dX9_numberIn_33 ?_
          exact hret 36 ls _ _ _ (g, pa) dX9_numberIn_36 hP hD hS (⟨frm_refl, g_partAt, ⟨fun z => absurd (by rw [y1] at z; exact z) (show ¬ (1 : Nat) = 0 by decide), fun _ => rfl⟩⟩)
  exact loop _ f 128 0 0 _ _ ls (Nat.lt_succ_self _) (by decide) (by decide) (by decide) (hft) (rfl) (by decide) hP hD hS (lv_sub hl [4, 5, 6, 3, 2, 1, 0] rfl)

set_option maxHeartbeats 4000000 in
set_option maxRecDepth 100000 in
theorem m_kindOf (l : Launch) (D : va_G) (cI cB cJ cR : ClassId) (mm : Nat) (g : Nat → Value) (Mtab : Nat) (mtab : Nat → Int32) (tt : Nat → Nat) (c : Nat) (q : Nat) (g_tab : g 7 = .ref Mtab) (ht : bys mtab tt 1536) (hc : c < 256) (hq : q < 2) : CMi l yX9_kindOf cX9_kindOf 3 (some .int) ({ frames := 0, cells := 0, slots := 0, locals := 0 }) D (tyA cI cB cJ cR) 0 0 [.ref mm, .int (nI c), .int (nI q)] [(mm, .inr (9, fl 78 g)), (Mtab, .inl (cB, 1536, .inl mtab))] (fun (r : Int32) (_ : Unit) => r = s8 (tt (q * 256 + c))) (fun (_ : Unit) => [(mm, .inr (9, fl 78 g)), (Mtab, .inl (cB, 1536, .inl mtab))]) := by
  refine st_i (cc := cX9_kindOf) (maxL := 3) (by decide) (Nat.le_of_ble_eq_true rfl) ?_
  intro p0 e0 s0 m0 below meth c0 A0 Q0 hBD hret hP hD hS ls hl
  obtain ⟨hx, hb, hml, hown, hts, hnm, hK, hNw, hMk, hA⟩ := hBD
  have hl : lv_has ls 3 [(0, .ref mm), (1, .int (nI c)), (2, .int (nI q))] := hl
  have hP : va_P D vwCl [(mm, .inr (9, fl 78 g)), (Mtab, .inl (cB, 1536, .inl mtab))] s0.heap := hP
  have hD : va_D A0 [(mm, .inr (9, fl 78 g)), (Mtab, .inl (cB, 1536, .inl mtab))] := hD
  refine lv_aload_n hx hb dX9_kindOf_0 rfl (lv_at hl 0 rfl) ?_
  refine fx_get (D := D) (ci := 9) (v := .ref Mtab) (C := RX9) (T := TX9) (N := 78) hx hb hts in_X9 hown hK hP 0 rfl rfl 7 (by decide) (hts _ kX9_30) (fun _ h9 => h9) (g_tab) dX9_kindOf_1 ?_
  refine lv_sipush (v := 256) hx hb dX9_kindOf_4 (by decide) ?_
  refine lv_iload_n hx hb dX9_kindOf_7 rfl (lv_at hl 2 rfl) ?_
  refine lv_imul hx hb dX9_kindOf_8 ?_
  refine ri (y := nI (256 * q)) (pk_mul 256 q) ?_
  refine lv_iload_n hx hb dX9_kindOf_9 rfl (lv_at hl 1 rfl) ?_
  refine lv_iadd hx hb dX9_kindOf_10 ?_
  refine ri (y := nI ((256 * q) + c)) (nI_add (256 * q) c) ?_
  refine ax_bld hx hb hK hP 1 1 rfl rfl (256 * q + c) (rfl) (by omega) (by omega) dX9_kindOf_11 ?_
  have hi : 256 * q + c = q * 256 + c := by omega
  obtain ⟨h1, h2⟩ := ht (q * 256 + c) (by omega)
  exact hret 12 ls _ _ _ () dX9_kindOf_12 hP hD hS (by rw [hi, h1])

set_option maxHeartbeats 4000000 in
set_option maxRecDepth 100000 in
theorem m_sizeOf (l : Launch) (D : va_G) (cI cB cJ cR : ClassId) (mm : Nat) (g : Nat → Value) (Mtab : Nat) (mtab : Nat → Int32) (tt : Nat → Nat) (c : Nat) (q : Nat) (g_tab : g 7 = .ref Mtab) (ht : bys mtab tt 1536) (hc : c < 256) (hq : q < 2) : CMi l yX9_sizeOf cX9_sizeOf 3 (some .int) ({ frames := 0, cells := 0, slots := 0, locals := 0 }) D (tyA cI cB cJ cR) 0 0 [.ref mm, .int (nI c), .int (nI q)] [(mm, .inr (9, fl 78 g)), (Mtab, .inl (cB, 1536, .inl mtab))] (fun (r : Int32) (_ : Unit) => r = nI (tt (512 + q * 256 + c))) (fun (_ : Unit) => [(mm, .inr (9, fl 78 g)), (Mtab, .inl (cB, 1536, .inl mtab))]) := by
  refine st_i (cc := cX9_sizeOf) (maxL := 3) (by decide) (Nat.le_of_ble_eq_true rfl) ?_
  intro p0 e0 s0 m0 below meth c0 A0 Q0 hBD hret hP hD hS ls hl
  obtain ⟨hx, hb, hml, hown, hts, hnm, hK, hNw, hMk, hA⟩ := hBD
  have hl : lv_has ls 3 [(0, .ref mm), (1, .int (nI c)), (2, .int (nI q))] := hl
  have hP : va_P D vwCl [(mm, .inr (9, fl 78 g)), (Mtab, .inl (cB, 1536, .inl mtab))] s0.heap := hP
  have hD : va_D A0 [(mm, .inr (9, fl 78 g)), (Mtab, .inl (cB, 1536, .inl mtab))] := hD
  refine lv_aload_n hx hb dX9_sizeOf_0 rfl (lv_at hl 0 rfl) ?_
  refine fx_get (D := D) (ci := 9) (v := .ref Mtab) (C := RX9) (T := TX9) (N := 78) hx hb hts in_X9 hown hK hP 0 rfl rfl 7 (by decide) (hts _ kX9_30) (fun _ h9 => h9) (g_tab) dX9_sizeOf_1 ?_
  refine lv_sipush (v := 512) hx hb dX9_sizeOf_4 (by decide) ?_
  refine lv_sipush (v := 256) hx hb dX9_sizeOf_7 (by decide) ?_
  refine lv_iload_n hx hb dX9_sizeOf_10 rfl (lv_at hl 2 rfl) ?_
  refine lv_imul hx hb dX9_sizeOf_11 ?_
  refine ri (y := nI (256 * q)) (pk_mul 256 q) ?_
  refine lv_iadd hx hb dX9_sizeOf_12 ?_
  refine ri (y := nI (512 + (256 * q))) (nI_add 512 (256 * q)) ?_
  refine lv_iload_n hx hb dX9_sizeOf_13 rfl (lv_at hl 1 rfl) ?_
  refine lv_iadd hx hb dX9_sizeOf_14 ?_
  refine ri (y := nI ((512 + (256 * q)) + c)) (nI_add (512 + (256 * q)) c) ?_
  refine ax_bld hx hb hK hP 1 1 rfl rfl (512 + 256 * q + c) (rfl) (by omega) (by omega) dX9_sizeOf_15 ?_
  have hi : 512 + 256 * q + c = 512 + q * 256 + c := by omega
  obtain ⟨h1, h2⟩ := ht (512 + q * 256 + c) (by omega)
  refine lv_sipush (v := 255) hx hb dX9_sizeOf_16 (by decide) ?_
  refine lv_iand hx hb dX9_sizeOf_19 ?_
  refine ri (y := nI (tt (512 + q * 256 + c))) (by rw [hi, h1]; exact s8_and _ h2) ?_
  exact hret 20 ls _ _ _ () dX9_sizeOf_20 hP hD hS (rfl)

set_option maxHeartbeats 4000000 in
set_option maxRecDepth 100000 in
theorem m_modeOf (l : Launch) (D : va_G) (cI cB cJ cR : ClassId) (mm : Nat) (g : Nat → Value) (Mtab : Nat) (mtab : Nat → Int32) (tt : Nat → Nat) (c : Nat) (q : Nat) (g_tab : g 7 = .ref Mtab) (ht : bys mtab tt 1536) (hc : c < 256) (hq : q < 2) : CMi l yX9_modeOf cX9_modeOf 3 (some .int) ({ frames := 0, cells := 0, slots := 0, locals := 0 }) D (tyA cI cB cJ cR) 0 0 [.ref mm, .int (nI c), .int (nI q)] [(mm, .inr (9, fl 78 g)), (Mtab, .inl (cB, 1536, .inl mtab))] (fun (r : Int32) (_ : Unit) => r = nI (tt (1024 + q * 256 + c))) (fun (_ : Unit) => [(mm, .inr (9, fl 78 g)), (Mtab, .inl (cB, 1536, .inl mtab))]) := by
  refine st_i (cc := cX9_modeOf) (maxL := 3) (by decide) (Nat.le_of_ble_eq_true rfl) ?_
  intro p0 e0 s0 m0 below meth c0 A0 Q0 hBD hret hP hD hS ls hl
  obtain ⟨hx, hb, hml, hown, hts, hnm, hK, hNw, hMk, hA⟩ := hBD
  have hl : lv_has ls 3 [(0, .ref mm), (1, .int (nI c)), (2, .int (nI q))] := hl
  have hP : va_P D vwCl [(mm, .inr (9, fl 78 g)), (Mtab, .inl (cB, 1536, .inl mtab))] s0.heap := hP
  have hD : va_D A0 [(mm, .inr (9, fl 78 g)), (Mtab, .inl (cB, 1536, .inl mtab))] := hD
  refine lv_aload_n hx hb dX9_modeOf_0 rfl (lv_at hl 0 rfl) ?_
  refine fx_get (D := D) (ci := 9) (v := .ref Mtab) (C := RX9) (T := TX9) (N := 78) hx hb hts in_X9 hown hK hP 0 rfl rfl 7 (by decide) (hts _ kX9_30) (fun _ h9 => h9) (g_tab) dX9_modeOf_1 ?_
  refine lv_sipush (v := 1024) hx hb dX9_modeOf_4 (by decide) ?_
  refine lv_sipush (v := 256) hx hb dX9_modeOf_7 (by decide) ?_
  refine lv_iload_n hx hb dX9_modeOf_10 rfl (lv_at hl 2 rfl) ?_
  refine lv_imul hx hb dX9_modeOf_11 ?_
  refine ri (y := nI (256 * q)) (pk_mul 256 q) ?_
  refine lv_iadd hx hb dX9_modeOf_12 ?_
  refine ri (y := nI (1024 + (256 * q))) (nI_add 1024 (256 * q)) ?_
  refine lv_iload_n hx hb dX9_modeOf_13 rfl (lv_at hl 1 rfl) ?_
  refine lv_iadd hx hb dX9_modeOf_14 ?_
  refine ri (y := nI ((1024 + (256 * q)) + c)) (nI_add (1024 + (256 * q)) c) ?_
  refine ax_bld hx hb hK hP 1 1 rfl rfl (1024 + 256 * q + c) (rfl) (by omega) (by omega) dX9_modeOf_15 ?_
  have hi : 1024 + 256 * q + c = 1024 + q * 256 + c := by omega
  obtain ⟨h1, h2⟩ := ht (1024 + q * 256 + c) (by omega)
  refine lv_sipush (v := 255) hx hb dX9_modeOf_16 (by decide) ?_
  refine lv_iand hx hb dX9_modeOf_19 ?_
  refine ri (y := nI (tt (1024 + q * 256 + c))) (by rw [hi, h1]; exact s8_and _ h2) ?_
  exact hret 20 ls _ _ _ () dX9_modeOf_20 hP hD hS (rfl)
