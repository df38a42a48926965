set_option maxHeartbeats 4000000 in
set_option maxRecDepth 100000 in
theorem m_readWindow (l : Launch) (D : va_G) (cI cB cJ cR : ClassId) (mm : Nat) (g : Nat → Value) (Mrows : Nat) (Mtab : Nat) (Mnears : Nat) (Msames : Nat) (Mout : Nat) (MoutFrom : Nat) (Msource : Nat) (MsourceFrom : Nat) (MdKind : Nat) (MdSize : Nat) (MdAddress : Nat) (MdMode : Nat) (MdCode : Nat) (MdWindow : Nat) (mrows : Nat → Int32) (mtab : Nat → Int32) (mnears : Nat → Int64) (msames : Nat → Int64) (mout : Nat → Int32) (moutFrom : Nat → Int32) (msource : Nat → Int32) (msourceFrom : Nat → Int32) (mdKind : Nat → Int32) (mdSize : Nat → Int32) (mdAddress : Nat → Int32) (mdMode : Nat → Int32) (mdCode : Nat → Int32) (mdWindow : Nat → Int32) (bs : Nat) (e : Nat) (a : Nat) (n : Nat) (near : Nat) (same : Nat) (wr : Nat) (dr : Nat) (fu : Nat) (pl : Nat) (sn : Nat) (cnt : Nat) (wn : Nat) (pa : Int32) (b : Nat → Nat) (tt : Nat → Nat) (sB : Nat → Nat) (B : Nat → Nat) (G : Nat → Int32) (sG : Nat → Int32) (gg : Nat → Nat → Int32) (ct : Bool) (g_at : g 34 = .int (nI a)) (g_end : g 35 = .int (nI e)) (g_base : g 33 = .int (nI bs)) (g_outSize : g 32 = .int (nI n)) (g_sourceSize : g 29 = .int (nI sn)) (g_near : g 8 = .int (nI near)) (g_same : g 9 = .int (nI same)) (g_counts : g 39 = .int (bI ct)) (g_windows : g 38 = .int (nI wr)) (g_drafts : g 20 = .int (nI dr)) (g_fault : g 36 = .int (nI fu)) (g_place : g 37 = .int (nI pl)) (g_partAt : g 51 = .int pa) (g_rows : g 1 = .ref Mrows) (g_tab : g 7 = .ref Mtab) (g_nears : g 10 = .ref Mnears) (g_sames : g 12 = .ref Msames) (g_out : g 30 = .ref Mout) (g_outFrom : g 31 = .ref MoutFrom) (g_source : g 27 = .ref Msource) (g_sourceFrom : g 28 = .ref MsourceFrom) (g_dKind : g 21 = .ref MdKind) (g_dSize : g 22 = .ref MdSize) (g_dAddress : g 23 = .ref MdAddress) (g_dMode : g 24 = .ref MdMode) (g_dCode : g 25 = .ref MdCode) (g_dWindow : g 26 = .ref MdWindow) (he9 : bs + e ≤ 32000) (hae : a ≤ e) (hob : ∀ j, j < e → mrows (bs + j) = s8 (b j) ∧ b j < 256) (ht : bys mtab tt 1536) (hrt : rightP tt (near + same + 2) 512) (h8 : near ≤ 8) (h4 : same ≤ 4) (ho : outR mout moutFrom (B, G, n)) (hn4 : n ≤ 4000) (hsr : bys msource sB sn) (hsf : ∀ i, i < sn → msourceFrom i = sG i) (hsn : sn ≤ 4000) (hcn : cnt < 2 ^ 26) (hct : ct = true → dr = cnt ∧ wr = wn ∧ dRel mdKind mdSize mdAddress mdMode mdCode mdWindow gg cnt) (h0 : fu = 0) : CMv l yX9_readWindow cX9_readWindow 15 none ({ frames := 4, cells := 0, slots := 0, locals := 107 }) D (tyA cI cB cJ cR) 0 0 [.ref mm] [(mm, .inr (9, fl 78 g)), (Mrows, .inl (cB, 32000, .inl mrows)), (Mtab, .inl (cB, 1536, .inl mtab)), (Mnears, .inl (cJ, 8, .inr (.inl mnears))), (Msames, .inl (cJ, 1024, .inr (.inl msames))), (Mout, .inl (cB, 4000, .inl mout)), (MoutFrom, .inl (cI, 4000, .inl moutFrom)), (Msource, .inl (cB, 4000, .inl msource)), (MsourceFrom, .inl (cI, 4000, .inl msourceFrom)), (MdKind, .inl (cI, 4000, .inl mdKind)), (MdSize, .inl (cI, 4000, .inl mdSize)), (MdAddress, .inl (cI, 4000, .inl mdAddress)), (MdMode, .inl (cI, 4000, .inl mdMode)), (MdCode, .inl (cI, 4000, .inl mdCode)), (MdWindow, .inl (cI, 4000, .inl mdWindow))] (fun (u9 : (Nat → Value) × Nat × Nat × Nat × Nat × Nat × Int32 × Nat × Nat × Nat × Nat × (Nat → Nat) × (Nat → Int32) × (Nat → Nat → Int32) × (Nat → Int64) × (Nat → Int64) × (Nat → Int32) × (Nat → Int32) × (Nat → Int32) × (Nat → Int32) × (Nat → Int32) × (Nat → Int32) × (Nat → Int32) × (Nat → Int32)) => match u9 with | (g9, a2, n2, dr2, fu2, pl2, pa2, cnt2, xa, xw, xn, B2, G2, gg2, fn2, fs2, o2, of2, dKind2, dSize2, dAddress2, dMode2, dCode2, dWindow2) => frm [34, 32, 20, 36, 37, 51, 40, 41, 42, 43, 44, 45, 46, 47, 48, 49, 50, 11] g g9 ∧ g9 34 = .int (nI a2) ∧ g9 32 = .int (nI n2) ∧ g9 20 = .int (nI dr2) ∧ g9 36 = .int (nI fu2) ∧ g9 37 = .int (nI pl2) ∧ g9 51 = .int pa2 ∧ wdF b e sn 4000 near same tt sB sG (0, pl, a, wn, (B, G, n), gg, cnt) = (fu2, pl2, xa, xw, (B2, G2, xn), gg2, cnt2) ∧ (fu2 = 0 → a2 = xa ∧ n2 = xn ∧ outR o2 of2 (B2, G2, xn) ∧ xw = wn + 1 ∧ cnt2 ≤ cnt + 2 * (xa - a)) ∧ (a < e → a < a2 ∨ ¬ fu2 = 0) ∧ (ct = true → dr2 = cnt2 ∧ dRel dKind2 dSize2 dAddress2 dMode2 dCode2 dWindow2 gg2 cnt2) ∧ (ct = false → dr2 = dr) ∧ n2 ≤ 4000 ∧ fu2 < 2 ^ 31 ∧ a2 ≤ e ∧ cnt2 ≤ cnt + 2 * e) (fun (u9 : (Nat → Value) × Nat × Nat × Nat × Nat × Nat × Int32 × Nat × Nat × Nat × Nat × (Nat → Nat) × (Nat → Int32) × (Nat → Nat → Int32) × (Nat → Int64) × (Nat → Int64) × (Nat → Int32) × (Nat → Int32) × (Nat → Int32) × (Nat → Int32) × (Nat → Int32) × (Nat → Int32) × (Nat → Int32) × (Nat → Int32)) => match u9 with | (g9, a2, n2, dr2, fu2, pl2, pa2, cnt2, xa, xw, xn, B2, G2, gg2, fn2, fs2, o2, of2, dKind2, dSize2, dAddress2, dMode2, dCode2, dWindow2) => [(mm, .inr (9, fl 78 g9)), (Mrows, .inl (cB, 32000, .inl mrows)), (Mtab, .inl (cB, 1536, .inl mtab)), (Mnears, .inl (cJ, 8, .inr (.inl fn2))), (Msames, .inl (cJ, 1024, .inr (.inl fs2))), (Mout, .inl (cB, 4000, .inl o2)), (MoutFrom, .inl (cI, 4000, .inl of2)), (Msource, .inl (cB, 4000, .inl msource)), (MsourceFrom, .inl (cI, 4000, .inl msourceFrom)), (MdKind, .inl (cI, 4000, .inl dKind2)), (MdSize, .inl (cI, 4000, .inl dSize2)), (MdAddress, .inl (cI, 4000, .inl dAddress2)), (MdMode, .inl (cI, 4000, .inl dMode2)), (MdCode, .inl (cI, 4000, .inl dCode2)), (MdWindow, .inl (cI, 4000, .inl dWindow2))]) := by
  refine st_v (cc := cX9_readWindow) (maxL := 15) (by decide) (Nat.le_of_ble_eq_true rfl) ?_
  intro p0 e0 s0 m0 below meth c0 A0 Q0 hBD hret hP hD hS ls hl
  obtain ⟨hx, hb, hml, hown, hts, hnm, hK, hNw, hMk, hA⟩ := hBD
  have hl : lv_has ls 15 [(0, .ref mm)] := hl
  have hP : va_P D vwCl [(mm, .inr (9, fl 78 g)), (Mrows, .inl (cB, 32000, .inl mrows)), (Mtab, .inl (cB, 1536, .inl mtab)), (Mnears, .inl (cJ, 8, .inr (.inl mnears))), (Msames, .inl (cJ, 1024, .inr (.inl msames))), (Mout, .inl (cB, 4000, .inl mout)), (MoutFrom, .inl (cI, 4000, .inl moutFrom)), (Msource, .inl (cB, 4000, .inl msource)), (MsourceFrom, .inl (cI, 4000, .inl msourceFrom)), (MdKind, .inl (cI, 4000, .inl mdKind)), (MdSize, .inl (cI, 4000, .inl mdSize)), (MdAddress, .inl (cI, 4000, .inl mdAddress)), (MdMode, .inl (cI, 4000, .inl mdMode)), (MdCode, .inl (cI, 4000, .inl mdCode)), (MdWindow, .inl (cI, 4000, .inl mdWindow))] s0.heap := hP
  have hD : va_D A0 [(mm, .inr (9, fl 78 g)), (Mrows, .inl (cB, 32000, .inl mrows)), (Mtab, .inl (cB, 1536, .inl mtab)), (Mnears, .inl (cJ, 8, .inr (.inl mnears))), (Msames, .inl (cJ, 1024, .inr (.inl msames))), (Mout, .inl (cB, 4000, .inl mout)), (MoutFrom, .inl (cI, 4000, .inl moutFrom)), (Msource, .inl (cB, 4000, .inl msource)), (MsourceFrom, .inl (cI, 4000, .inl msourceFrom)), (MdKind, .inl (cI, 4000, .inl mdKind)), (MdSize, .inl (cI, 4000, .inl mdSize)), (MdAddress, .inl (cI, 4000, .inl mdAddress)), (MdMode, .inl (cI, 4000, .inl mdMode)), (MdCode, .inl (cI, 4000, .inl mdCode)), (MdWindow, .inl (cI, 4000, .inl mdWindow))] := hD
  have hfl : fu < 2 ^ 31 := by omega
  have hb9 : ∀ j, j < e → b j < 256 := fun j hj => (hob j hj).2
  refine lv_aload_n hx hb dX9_readWindow_0 rfl (lv_at hl 0 rfl) ?_
  refine fx_get (D := D) (ci := 9) (v := .int (nI a)) (C := RX9) (T := TX9) (N := 78) hx hb hts in_X9 hown hK hP 0 rfl rfl 34 (by decide) (hts _ kX9_185) (fun _ h9 => h9) (g_at) dX9_readWindow_1 ?_
  refine lv_istore_n (lv' := [(1, .int (nI a)), (0, .ref mm)]) hx hb dX9_readWindow_4 rfl hl (by decide) rfl (fun ls hl => ?_)
  refine lv_aload_n hx hb dX9_readWindow_5 rfl (lv_at hl 1 rfl) ?_
  refine lv_aload_n hx hb dX9_readWindow_6 rfl (lv_at hl 1 rfl) ?_
  refine jn_i (wr := [(Mtab, .inl (cB, 1536, .inl mtab)), (Mnears, .inl (cJ, 8, .inr (.inl mnears))), (Msames, .inl (cJ, 1024, .inr (.inl msames))), (Mout, .inl (cB, 4000, .inl mout)), (MoutFrom, .inl (cI, 4000, .inl moutFrom)), (Msource, .inl (cB, 4000, .inl msource)), (MsourceFrom, .inl (cI, 4000, .inl msourceFrom)), (MdKind, .inl (cI, 4000, .inl mdKind)), (MdSize, .inl (cI, 4000, .inl mdSize)), (MdAddress, .inl (cI, 4000, .inl mdAddress)), (MdMode, .inl (cI, 4000, .inl mdMode)), (MdCode, .inl (cI, 4000, .inl mdCode)), (MdWindow, .inl (cI, 4000, .inl mdWindow))]) hA hP hD hS [0, 1] [2, 3, 4, 5, 6, 7, 8, 9, 10, 11, 12, 13, 14] rfl rfl (by decide) (by decide) (rn_V (As := []) (rest := [.ref mm]) ⟨hx, hb, hml, hown, hts⟩ (cvV 0 hts zc_yX9_take zi_X9 zm_yX9_take zv_yX9_take kX9_198 (by decide +kernel) rfl rfl ⟨Nat.le_of_ble_eq_true rfl, Nat.le_of_ble_eq_true rfl⟩) (m_take l D cI cB cJ cR mm g Mrows mrows fu pl a e bs b (g_fault) (g_place) (g_at) (g_end) (g_base) (g_rows) (hfl) (he9) (hae) (hob) s0.heap.size) hK hNw hMk hA hP hD hS [0, 1] rfl rfl (by decide) 0 rfl rfl rfl rfl hl.1 rfl (Nat.le_of_ble_eq_true rfl) dX9_readWindow_7 ⟨Nat.le_of_ble_eq_true rfl, Nat.le_of_ble_eq_true rfl⟩) (fun rt_1 u9 H locs ht_1 hP hD hS => ?_)
  obtain ⟨g_1, v_1, fu_1, pl_1, a_1⟩ := u9
  try dsimp only at ht_1
  have hP : va_P D vwCl [(Mtab, .inl (cB, 1536, .inl mtab)), (Mnears, .inl (cJ, 8, .inr (.inl mnears))), (Msames, .inl (cJ, 1024, .inr (.inl msames))), (Mout, .inl (cB, 4000, .inl mout)), (MoutFrom, .inl (cI, 4000, .inl moutFrom)), (Msource, .inl (cB, 4000, .inl msource)), (MsourceFrom, .inl (cI, 4000, .inl msourceFrom)), (MdKind, .inl (cI, 4000, .inl mdKind)), (MdSize, .inl (cI, 4000, .inl mdSize)), (MdAddress, .inl (cI, 4000, .inl mdAddress)), (MdMode, .inl (cI, 4000, .inl mdMode)), (MdCode, .inl (cI, 4000, .inl mdCode)), (MdWindow, .inl (cI, 4000, .inl mdWindow)), (mm, .inr (9, fl 78 g_1)), (Mrows, .inl (cB, 32000, .inl mrows))] H := hP
  have hD : va_D A0 [(Mtab, .inl (cB, 1536, .inl mtab)), (Mnears, .inl (cJ, 8, .inr (.inl mnears))), (Msames, .inl (cJ, 1024, .inr (.inl msames))), (Mout, .inl (cB, 4000, .inl mout)), (MoutFrom, .inl (cI, 4000, .inl moutFrom)), (Msource, .inl (cB, 4000, .inl msource)), (MsourceFrom, .inl (cI, 4000, .inl msourceFrom)), (MdKind, .inl (cI, 4000, .inl mdKind)), (MdSize, .inl (cI, 4000, .inl mdSize)), (MdAddress, .inl (cI, 4000, .inl mdAddress)), (MdMode, .inl (cI, 4000, .inl mdMode)), (MdCode, .inl (cI, 4000, .inl mdCode)), (MdWindow, .inl (cI, 4000, .inl mdWindow)), (mm, .inr (9, fl 78 g_1)), (Mrows, .inl (cB, 32000, .inl mrows))] := hD
  obtain ⟨f_ht_1, fault_ht_1, place_ht_1, at_ht_1, ht_1_⟩ := ht_1
  have k35_g_1 : g_1 35 = .int (nI e) := (f_ht_1 35 (by decide)).trans (g_end)
  have k33_g_1 : g_1 33 = .int (nI bs) := (f_ht_1 33 (by decide)).trans (g_base)
  have k32_g_1 : g_1 32 = .int (nI n) := (f_ht_1 32 (by decide)).trans (g_outSize)
  have k29_g_1 : g_1 29 = .int (nI sn) := (f_ht_1 29 (by decide)).trans (g_sourceSize)
  have k8_g_1 : g_1 8 = .int (nI near) := (f_ht_1 8 (by decide)).trans (g_near)
  have k9_g_1 : g_1 9 = .int (nI same) := (f_ht_1 9 (by decide)).trans (g_same)
  have k39_g_1 : g_1 39 = .int (bI ct) := (f_ht_1 39 (by decide)).trans (g_counts)
  have k38_g_1 : g_1 38 = .int (nI wr) := (f_ht_1 38 (by decide)).trans (g_windows)
  have k20_g_1 : g_1 20 = .int (nI dr) := (f_ht_1 20 (by decide)).trans (g_drafts)
  have k51_g_1 : g_1 51 = .int pa := (f_ht_1 51 (by decide)).trans (g_partAt)
  have k1_g_1 : g_1 1 = .ref Mrows := (f_ht_1 1 (by decide)).trans (g_rows)
  have k7_g_1 : g_1 7 = .ref Mtab := (f_ht_1 7 (by decide)).trans (g_tab)
  have k10_g_1 : g_1 10 = .ref Mnears := (f_ht_1 10 (by decide)).trans (g_nears)
  have k12_g_1 : g_1 12 = .ref Msames := (f_ht_1 12 (by decide)).trans (g_sames)
  have k30_g_1 : g_1 30 = .ref Mout := (f_ht_1 30 (by decide)).trans (g_out)
  have k31_g_1 : g_1 31 = .ref MoutFrom := (f_ht_1 31 (by decide)).trans (g_outFrom)
  have k27_g_1 : g_1 27 = .ref Msource := (f_ht_1 27 (by decide)).trans (g_source)
  have k28_g_1 : g_1 28 = .ref MsourceFrom := (f_ht_1 28 (by decide)).trans (g_sourceFrom)
  have k21_g_1 : g_1 21 = .ref MdKind := (f_ht_1 21 (by decide)).trans (g_dKind)
  have k22_g_1 : g_1 22 = .ref MdSize := (f_ht_1 22 (by decide)).trans (g_dSize)
  have k23_g_1 : g_1 23 = .ref MdAddress := (f_ht_1 23 (by decide)).trans (g_dAddress)
  have k24_g_1 : g_1 24 = .ref MdMode := (f_ht_1 24 (by decide)).trans (g_dMode)
  have k25_g_1 : g_1 25 = .ref MdCode := (f_ht_1 25 (by decide)).trans (g_dCode)
  have k26_g_1 : g_1 26 = .ref MdWindow := (f_ht_1 26 (by decide)).trans (g_dWindow)
  have fr_g_1 : frm [34, 32, 20, 36, 37, 51, 40, 41, 42, 43, 44, 45, 46, 47, 48, 49, 50, 11] g g_1 := frm_tr frm_refl f_ht_1 (by decide)
  obtain ⟨hr_1, hq_1, hf_1, hg_1, ha_1, hv_1⟩ := ht_1_
  subst hr_1
  have bk_1 : fu_1 = 0 → fu = 0 := fun z => ((okR_O (b := b) (e := e) (s := (fu, pl, a))) (by rw [hq_1]; exact z)).1
  refine fx_put (D := D) (ci := 9) (v := .int (nI v_1)) (ty := .int) (C := RX9) (T := TX9) (N := 78) hx hb hts in_X9 tyX9 tyX9_ok nmX9 hown hK hP hD hS 13 rfl rfl 40 (by decide) (hts _ kX9_246) (fun _ h9 => h9) rfl (by decide +kernel) rfl rfl dX9_readWindow_10 (fun H locs hP hD hS => ?_)
  have hP : va_P D vwCl [(Mtab, .inl (cB, 1536, .inl mtab)), (Mnears, .inl (cJ, 8, .inr (.inl mnears))), (Msames, .inl (cJ, 1024, .inr (.inl msames))), (Mout, .inl (cB, 4000, .inl mout)), (MoutFrom, .inl (cI, 4000, .inl moutFrom)), (Msource, .inl (cB, 4000, .inl msource)), (MsourceFrom, .inl (cI, 4000, .inl msourceFrom)), (MdKind, .inl (cI, 4000, .inl mdKind)), (MdSize, .inl (cI, 4000, .inl mdSize)), (MdAddress, .inl (cI, 4000, .inl mdAddress)), (MdMode, .inl (cI, 4000, .inl mdMode)), (MdCode, .inl (cI, 4000, .inl mdCode)), (MdWindow, .inl (cI, 4000, .inl mdWindow)), (mm, .inr (9, fl 78 (va_up g_1 40 (.int (nI v_1))))), (Mrows, .inl (cB, 32000, .inl mrows))] H := hP
  have hD : va_D A0 [(Mtab, .inl (cB, 1536, .inl mtab)), (Mnears, .inl (cJ, 8, .inr (.inl mnears))), (Msames, .inl (cJ, 1024, .inr (.inl msames))), (Mout, .inl (cB, 4000, .inl mout)), (MoutFrom, .inl (cI, 4000, .inl moutFrom)), (Msource, .inl (cB, 4000, .inl msource)), (MsourceFrom, .inl (cI, 4000, .inl msourceFrom)), (MdKind, .inl (cI, 4000, .inl mdKind)), (MdSize, .inl (cI, 4000, .inl mdSize)), (MdAddress, .inl (cI, 4000, .inl mdAddress)), (MdMode, .inl (cI, 4000, .inl mdMode)), (MdCode, .inl (cI, 4000, .inl mdCode)), (MdWindow, .inl (cI, 4000, .inl mdWindow)), (mm, .inr (9, fl 78 (va_up g_1 40 (.int (nI v_1))))), (Mrows, .inl (cB, 32000, .inl mrows))] := hD
  refine lv_aload_n hx hb dX9_readWindow_13 rfl (lv_at hl 1 rfl) ?_
  refine lv_iconst (v := 0) hx hb dX9_readWindow_14 (by decide) ?_
  refine ri (y := nI 0) nI_0.symm ?_
  refine fx_put (D := D) (ci := 9) (v := .int (nI 0)) (ty := .int) (C := RX9) (T := TX9) (N := 78) hx hb hts in_X9 tyX9 tyX9_ok nmX9 hown hK hP hD hS 13 rfl rfl 41 (by decide) (hts _ kX9_249) (fun _ h9 => h9) rfl (by decide +kernel) rfl rfl dX9_readWindow_15 (fun H locs hP hD hS => ?_)
  have hP : va_P D vwCl [(Mtab, .inl (cB, 1536, .inl mtab)), (Mnears, .inl (cJ, 8, .inr (.inl mnears))), (Msames, .inl (cJ, 1024, .inr (.inl msames))), (Mout, .inl (cB, 4000, .inl mout)), (MoutFrom, .inl (cI, 4000, .inl moutFrom)), (Msource, .inl (cB, 4000, .inl msource)), (MsourceFrom, .inl (cI, 4000, .inl msourceFrom)), (MdKind, .inl (cI, 4000, .inl mdKind)), (MdSize, .inl (cI, 4000, .inl mdSize)), (MdAddress, .inl (cI, 4000, .inl mdAddress)), (MdMode, .inl (cI, 4000, .inl mdMode)), (MdCode, .inl (cI, 4000, .inl mdCode)), (MdWindow, .inl (cI, 4000, .inl mdWindow)), (mm, .inr (9, fl 78 (va_up (va_up g_1 40 (.int (nI v_1))) 41 (.int (nI 0))))), (Mrows, .inl (cB, 32000, .inl mrows))] H := hP
  have hD : va_D A0 [(Mtab, .inl (cB, 1536, .inl mtab)), (Mnears, .inl (cJ, 8, .inr (.inl mnears))), (Msames, .inl (cJ, 1024, .inr (.inl msames))), (Mout, .inl (cB, 4000, .inl mout)), (MoutFrom, .inl (cI, 4000, .inl moutFrom)), (Msource, .inl (cB, 4000, .inl msource)), (MsourceFrom, .inl (cI, 4000, .inl msourceFrom)), (MdKind, .inl (cI, 4000, .inl mdKind)), (MdSize, .inl (cI, 4000, .inl mdSize)), (MdAddress, .inl (cI, 4000, .inl mdAddress)), (MdMode, .inl (cI, 4000, .inl mdMode)), (MdCode, .inl (cI, 4000, .inl mdCode)), (MdWindow, .inl (cI, 4000, .inl mdWindow)), (mm, .inr (9, fl 78 (va_up (va_up g_1 40 (.int (nI v_1))) 41 (.int (nI 0))))), (Mrows, .inl (cB, 32000, .inl mrows))] := hD
  refine lv_aload_n hx hb dX9_readWindow_18 rfl (lv_at hl 1 rfl) ?_
  refine lv_iconst (v := 0) hx hb dX9_readWindow_19 (by decide) ?_
  refine ri (y := nI 0) nI_0.symm ?_
  refine fx_put (D := D) (ci := 9) (v := .int (nI 0)) (ty := .int) (C := RX9) (T := TX9) (N := 78) hx hb hts in_X9 tyX9 tyX9_ok nmX9 hown hK hP hD hS 13 rfl rfl 42 (by decide) (hts _ kX9_252) (fun _ h9 => h9) rfl (by decide +kernel) rfl rfl dX9_readWindow_20 (fun H locs hP hD hS => ?_)
  have hP : va_P D vwCl [(Mtab, .inl (cB, 1536, .inl mtab)), (Mnears, .inl (cJ, 8, .inr (.inl mnears))), (Msames, .inl (cJ, 1024, .inr (.inl msames))), (Mout, .inl (cB, 4000, .inl mout)), (MoutFrom, .inl (cI, 4000, .inl moutFrom)), (Msource, .inl (cB, 4000, .inl msource)), (MsourceFrom, .inl (cI, 4000, .inl msourceFrom)), (MdKind, .inl (cI, 4000, .inl mdKind)), (MdSize, .inl (cI, 4000, .inl mdSize)), (MdAddress, .inl (cI, 4000, .inl mdAddress)), (MdMode, .inl (cI, 4000, .inl mdMode)), (MdCode, .inl (cI, 4000, .inl mdCode)), (MdWindow, .inl (cI, 4000, .inl mdWindow)), (mm, .inr (9, fl 78 (va_up (va_up (va_up g_1 40 (.int (nI v_1))) 41 (.int (nI 0))) 42 (.int (nI 0))))), (Mrows, .inl (cB, 32000, .inl mrows))] H := hP
  have hD : va_D A0 [(Mtab, .inl (cB, 1536, .inl mtab)), (Mnears, .inl (cJ, 8, .inr (.inl mnears))), (Msames, .inl (cJ, 1024, .inr (.inl msames))), (Mout, .inl (cB, 4000, .inl mout)), (MoutFrom, .inl (cI, 4000, .inl moutFrom)), (Msource, .inl (cB, 4000, .inl msource)), (MsourceFrom, .inl (cI, 4000, .inl msourceFrom)), (MdKind, .inl (cI, 4000, .inl mdKind)), (MdSize, .inl (cI, 4000, .inl mdSize)), (MdAddress, .inl (cI, 4000, .inl mdAddress)), (MdMode, .inl (cI, 4000, .inl mdMode)), (MdCode, .inl (cI, 4000, .inl mdCode)), (MdWindow, .inl (cI, 4000, .inl mdWindow)), (mm, .inr (9, fl 78 (va_up (va_up (va_up g_1 40 (.int (nI v_1))) 41 (.int (nI 0))) 42 (.int (nI 0))))), (Mrows, .inl (cB, 32000, .inl mrows))] := hD
  have G2 : ∀ (gj_G2 : Nat → Value) (fu_2 : Nat) (pl_2 : Nat) (H : Heap) (locs : List Loc) (ls : Array Slot), (frm [34, 32, 20, 36, 37, 51, 40, 41, 42, 43, 44, 45, 46, 47, 48, 49, 50, 11] g gj_G2) → (gj_G2 32 = .int (nI n)) → (gj_G2 20 = .int (nI dr)) → (gj_G2 51 = .int pa) → (gj_G2 36 = .int (nI fu_2)) → (gj_G2 37 = .int (nI pl_2)) → (gj_G2 34 = .int (nI a_1)) → (gj_G2 40 = .int (nI v_1)) → (gj_G2 41 = .int (nI 0)) → (gj_G2 42 = .int (nI 0)) → (flI (2 < v_1) 5 a (fu_1, pl_1, a_1) = (fu_2, pl_2, a_1)) → (fu_2 < 2 ^ 31) → va_P D vwCl [(mm, .inr (9, fl 78 gj_G2)), (Mtab, .inl (cB, 1536, .inl mtab)), (Mnears, .inl (cJ, 8, .inr (.inl mnears))), (Msames, .inl (cJ, 1024, .inr (.inl msames))), (Mout, .inl (cB, 4000, .inl mout)), (MoutFrom, .inl (cI, 4000, .inl moutFrom)), (Msource, .inl (cB, 4000, .inl msource)), (MsourceFrom, .inl (cI, 4000, .inl msourceFrom)), (MdKind, .inl (cI, 4000, .inl mdKind)), (MdSize, .inl (cI, 4000, .inl mdSize)), (MdAddress, .inl (cI, 4000, .inl mdAddress)), (MdMode, .inl (cI, 4000, .inl mdMode)), (MdCode, .inl (cI, 4000, .inl mdCode)), (MdWindow, .inl (cI, 4000, .inl mdWindow)), (Mrows, .inl (cB, 32000, .inl mrows))] H → va_D A0 [(mm, .inr (9, fl 78 gj_G2)), (Mtab, .inl (cB, 1536, .inl mtab)), (Mnears, .inl (cJ, 8, .inr (.inl mnears))), (Msames, .inl (cJ, 1024, .inr (.inl msames))), (Mout, .inl (cB, 4000, .inl mout)), (MoutFrom, .inl (cI, 4000, .inl moutFrom)), (Msource, .inl (cB, 4000, .inl msource)), (MsourceFrom, .inl (cI, 4000, .inl msourceFrom)), (MdKind, .inl (cI, 4000, .inl mdKind)), (MdSize, .inl (cI, 4000, .inl mdSize)), (MdAddress, .inl (cI, 4000, .inl mdAddress)), (MdMode, .inl (cI, 4000, .inl mdMode)), (MdCode, .inl (cI, 4000, .inl mdCode)), (MdWindow, .inl (cI, 4000, .inl mdWindow)), (Mrows, .inl (cB, 32000, .inl mrows))] → va_S A0 s0.heap H locs → lv_has ls 15 [(1, .int (nI a)), (0, .ref mm)] → W p0 l e0 ({ frames := 4, cells := 0, slots := 0, locals := 107 }) s0 m0 ([.ref mm] : List Value).toArray below meth c0 H locs 0 0 Q0 (F0 m0 44 ls []) := by
    intro gj_G2 fu_2 pl_2 H locs ls hf_G2 k_outSize_G2 k_drafts_G2 k_partAt_G2 k_fault_G2 k_place_G2 k_at_G2 k_segment_G2 k_segmentSize_G2 k_segmentAt_G2 hq_2 hf_2 hP hD hS hl
    have bk_2 : fu_2 = 0 → fu_1 = 0 := fun z => ((okR_F (c := 2 < v_1) (k := 5) (w := a) (s := (fu_1, pl_1, a_1)) (by decide)) (by rw [hq_2]; exact z)).1
    have hS1 : tkS1 b e (fu, pl, a) = (fu_2, pl_2, a_1) := by rw [tkS1, hq_1]; exact hq_2
    have JM : ∀ (gj_JM : Nat → Value) (kk : Nat) (zz : Nat) (ff : Nat) (fm : Nat) (pm : Nat) (am : Nat) (zv : Int32) (fv : Int32) (H : Heap) (locs : List Loc) (ls : Array Slot), (frm [34, 32, 20, 36, 37, 51, 40, 41, 42, 43, 44, 45, 46, 47, 48, 49, 50, 11] g gj_JM) → (gj_JM 40 = .int (nI v_1)) → (gj_JM 41 = .int zv) → (gj_JM 42 = .int fv) → (gj_JM 34 = .int (nI am)) → (gj_JM 32 = .int (nI n)) → (gj_JM 20 = .int (nI dr)) → (gj_JM 36 = .int (nI fm)) → (gj_JM 37 = .int (nI pm)) → (gj_JM 51 = .int pa) → (tkSeg b e sn n (fu, pl, a) = ((kk, zz, ff), (fm, pm, am))) → (fm < 2 ^ 31) → (am ≤ e) → (a ≤ am) → (fm = 0 → zv = nI zz ∧ fv = nI ff ∧ kk = v_1 ∧ a < am) → va_P D vwCl [(mm, .inr (9, fl 78 gj_JM)), (Mtab, .inl (cB, 1536, .inl mtab)), (Mnears, .inl (cJ, 8, .inr (.inl mnears))), (Msames, .inl (cJ, 1024, .inr (.inl msames))), (Mout, .inl (cB, 4000, .inl mout)), (MoutFrom, .inl (cI, 4000, .inl moutFrom)), (Msource, .inl (cB, 4000, .inl msource)), (MsourceFrom, .inl (cI, 4000, .inl msourceFrom)), (MdKind, .inl (cI, 4000, .inl mdKind)), (MdSize, .inl (cI, 4000, .inl mdSize)), (MdAddress, .inl (cI, 4000, .inl mdAddress)), (MdMode, .inl (cI, 4000, .inl mdMode)), (MdCode, .inl (cI, 4000, .inl mdCode)), (MdWindow, .inl (cI, 4000, .inl mdWindow)), (Mrows, .inl (cB, 32000, .inl mrows))] H → va_D A0 [(mm, .inr (9, fl 78 gj_JM)), (Mtab, .inl (cB, 1536, .inl mtab)), (Mnears, .inl (cJ, 8, .inr (.inl mnears))), (Msames, .inl (cJ, 1024, .inr (.inl msames))), (Mout, .inl (cB, 4000, .inl mout)), (MoutFrom, .inl (cI, 4000, .inl moutFrom)), (Msource, .inl (cB, 4000, .inl msource)), (MsourceFrom, .inl (cI, 4000, .inl msourceFrom)), (MdKind, .inl (cI, 4000, .inl mdKind)), (MdSize, .inl (cI, 4000, .inl mdSize)), (MdAddress, .inl (cI, 4000, .inl mdAddress)), (MdMode, .inl (cI, 4000, .inl mdMode)), (MdCode, .inl (cI, 4000, .inl mdCode)), (MdWindow, .inl (cI, 4000, .inl mdWindow)), (Mrows, .inl (cB, 32000, .inl mrows))] → va_S A0 s0.heap H locs → lv_has ls 15 [(0, .ref mm)] → W p0 l e0 ({ frames := 4, cells := 0, slots := 0, locals := 107 }) s0 m0 ([.ref mm] : List Value).toArray below meth c0 H locs 0 0 Q0 (F0 m0 129 ls []) := by
      intro gj_JM kk zz ff fm pm am zv fv H locs ls hf_JM k_segment_JM k_segmentSize_JM k_segmentAt_JM k_at_JM k_outSize_JM k_drafts_JM k_fault_JM k_place_JM k_partAt_JM hsg hfm ham ham2 hzf hP hD hS hl
      refine lv_aload_n hx hb dX9_readWindow_129 rfl (lv_at hl 0 rfl) ?_
      refine fx_get (D := D) (ci := 9) (v := .int (nI am)) (C := RX9) (T := TX9) (N := 78) hx hb hts in_X9 hown hK hP 0 rfl rfl 34 (by decide) (hts _ kX9_185) (fun _ h9 => h9) (k_at_JM) dX9_readWindow_130 ?_
      refine lv_istore_n (lv' := [(2, .int (nI am)), (0, .ref mm)]) hx hb dX9_readWindow_133 rfl hl (by decide) rfl (fun ls hl => ?_)
      refine lv_aload_n hx hb dX9_readWindow_134 rfl (lv_at hl 1 rfl) ?_
      refine jn_l (wr := [(Mtab, .inl (cB, 1536, .inl mtab)), (Mnears, .inl (cJ, 8, .inr (.inl mnears))), (Msames, .inl (cJ, 1024, .inr (.inl msames))), (Mout, .inl (cB, 4000, .inl mout)), (MoutFrom, .inl (cI, 4000, .inl moutFrom)), (Msource, .inl (cB, 4000, .inl msource)), (MsourceFrom, .inl (cI, 4000, .inl msourceFrom)), (MdKind, .inl (cI, 4000, .inl mdKind)), (MdSize, .inl (cI, 4000, .inl mdSize)), (MdAddress, .inl (cI, 4000, .inl mdAddress)), (MdMode, .inl (cI, 4000, .inl mdMode)), (MdCode, .inl (cI, 4000, .inl mdCode)), (MdWindow, .inl (cI, 4000, .inl mdWindow))]) hA hP hD hS [0, 14] [1, 2, 3, 4, 5, 6, 7, 8, 9, 10, 11, 12, 13] rfl rfl (by decide) (by decide) (rn_V (As := []) (rest := []) ⟨hx, hb, hml, hown, hts⟩ (cvV 0 hts zc_yX9_number zi_X9 zm_yX9_number zv_yX9_number kX9_207 (by decide +kernel) rfl rfl ⟨Nat.le_of_ble_eq_true rfl, Nat.le_of_ble_eq_true rfl⟩) (m_number l D cI cB cJ cR mm gj_JM Mrows mrows fm pm am e bs b (k_fault_JM) (k_place_JM) (k_at_JM) ((hf_JM 35 (by decide)).trans g_end) ((hf_JM 33 (by decide)).trans g_base) ((hf_JM 1 (by decide)).trans g_rows) (hfm) (he9) (ham) (hob) H.size) hK hNw hMk hA hP hD hS [0, 14] rfl rfl (by decide) 0 rfl rfl rfl rfl hl.1 rfl (Nat.le_of_ble_eq_true rfl) dX9_readWindow_135 ⟨Nat.le_of_ble_eq_true rfl, Nat.le_of_ble_eq_true rfl⟩) (fun r_3 u9 H locs ht_3 hP hD hS => ?_)
      obtain ⟨g_2, v_3, fu_3, pl_3, a_3⟩ := u9
      try dsimp only at ht_3
      have hP : va_P D vwCl [(Mtab, .inl (cB, 1536, .inl mtab)), (Mnears, .inl (cJ, 8, .inr (.inl mnears))), (Msames, .inl (cJ, 1024, .inr (.inl msames))), (Mout, .inl (cB, 4000, .inl mout)), (MoutFrom, .inl (cI, 4000, .inl moutFrom)), (Msource, .inl (cB, 4000, .inl msource)), (MsourceFrom, .inl (cI, 4000, .inl msourceFrom)), (MdKind, .inl (cI, 4000, .inl mdKind)), (MdSize, .inl (cI, 4000, .inl mdSize)), (MdAddress, .inl (cI, 4000, .inl mdAddress)), (MdMode, .inl (cI, 4000, .inl mdMode)), (MdCode, .inl (cI, 4000, .inl mdCode)), (MdWindow, .inl (cI, 4000, .inl mdWindow)), (mm, .inr (9, fl 78 g_2)), (Mrows, .inl (cB, 32000, .inl mrows))] H := hP
      have hD : va_D A0 [(Mtab, .inl (cB, 1536, .inl mtab)), (Mnears, .inl (cJ, 8, .inr (.inl mnears))), (Msames, .inl (cJ, 1024, .inr (.inl msames))), (Mout, .inl (cB, 4000, .inl mout)), (MoutFrom, .inl (cI, 4000, .inl moutFrom)), (Msource, .inl (cB, 4000, .inl msource)), (MsourceFrom, .inl (cI, 4000, .inl msourceFrom)), (MdKind, .inl (cI, 4000, .inl mdKind)), (MdSize, .inl (cI, 4000, .inl mdSize)), (MdAddress, .inl (cI, 4000, .inl mdAddress)), (MdMode, .inl (cI, 4000, .inl mdMode)), (MdCode, .inl (cI, 4000, .inl mdCode)), (MdWindow, .inl (cI, 4000, .inl mdWindow)), (mm, .inr (9, fl 78 g_2)), (Mrows, .inl (cB, 32000, .inl mrows))] := hD
      obtain ⟨f_ht_3, fault_ht_3, place_ht_3, at_ht_3, ht_3_⟩ := ht_3
      have k35_g_2 : g_2 35 = .int (nI e) := (f_ht_3 35 (by decide)).trans ((hf_JM 35 (by decide)).trans g_end)
      have k33_g_2 : g_2 33 = .int (nI bs) := (f_ht_3 33 (by decide)).trans ((hf_JM 33 (by decide)).trans g_base)
      have k29_g_2 : g_2 29 = .int (nI sn) := (f_ht_3 29 (by decide)).trans ((hf_JM 29 (by decide)).trans g_sourceSize)
      have k8_g_2 : g_2 8 = .int (nI near) := (f_ht_3 8 (by decide)).trans ((hf_JM 8 (by decide)).trans g_near)
      have k9_g_2 : g_2 9 = .int (nI same) := (f_ht_3 9 (by decide)).trans ((hf_JM 9 (by decide)).trans g_same)
      have k39_g_2 : g_2 39 = .int (bI ct) := (f_ht_3 39 (by decide)).trans ((hf_JM 39 (by decide)).trans g_counts)
      have k38_g_2 : g_2 38 = .int (nI wr) := (f_ht_3 38 (by decide)).trans ((hf_JM 38 (by decide)).trans g_windows)
      have k1_g_2 : g_2 1 = .ref Mrows := (f_ht_3 1 (by decide)).trans ((hf_JM 1 (by decide)).trans g_rows)
      have k7_g_2 : g_2 7 = .ref Mtab := (f_ht_3 7 (by decide)).trans ((hf_JM 7 (by decide)).trans g_tab)
      have k10_g_2 : g_2 10 = .ref Mnears := (f_ht_3 10 (by decide)).trans ((hf_JM 10 (by decide)).trans g_nears)
      have k12_g_2 : g_2 12 = .ref Msames := (f_ht_3 12 (by decide)).trans ((hf_JM 12 (by decide)).trans g_sames)
      have k30_g_2 : g_2 30 = .ref Mout := (f_ht_3 30 (by decide)).trans ((hf_JM 30 (by decide)).trans g_out)
      have k31_g_2 : g_2 31 = .ref MoutFrom := (f_ht_3 31 (by decide)).trans ((hf_JM 31 (by decide)).trans g_outFrom)
      have k27_g_2 : g_2 27 = .ref Msource := (f_ht_3 27 (by decide)).trans ((hf_JM 27 (by decide)).trans g_source)
      have k28_g_2 : g_2 28 = .ref MsourceFrom := (f_ht_3 28 (by decide)).trans ((hf_JM 28 (by decide)).trans g_sourceFrom)
      have k21_g_2 : g_2 21 = .ref MdKind := (f_ht_3 21 (by decide)).trans ((hf_JM 21 (by decide)).trans g_dKind)
      have k22_g_2 : g_2 22 = .ref MdSize := (f_ht_3 22 (by decide)).trans ((hf_JM 22 (by decide)).trans g_dSize)
      have k23_g_2 : g_2 23 = .ref MdAddress := (f_ht_3 23 (by decide)).trans ((hf_JM 23 (by decide)).trans g_dAddress)
      have k24_g_2 : g_2 24 = .ref MdMode := (f_ht_3 24 (by decide)).trans ((hf_JM 24 (by decide)).trans g_dMode)
      have k25_g_2 : g_2 25 = .ref MdCode := (f_ht_3 25 (by decide)).trans ((hf_JM 25 (by decide)).trans g_dCode)
      have k26_g_2 : g_2 26 = .ref MdWindow := (f_ht_3 26 (by decide)).trans ((hf_JM 26 (by decide)).trans g_dWindow)
      have k40_g_2 : g_2 40 = .int (nI v_1) := (f_ht_3 40 (by decide)).trans (k_segment_JM)
      have k41_g_2 : g_2 41 = .int zv := (f_ht_3 41 (by decide)).trans (k_segmentSize_JM)
      have k42_g_2 : g_2 42 = .int fv := (f_ht_3 42 (by decide)).trans (k_segmentAt_JM)
      have k32_g_2 : g_2 32 = .int (nI n) := (f_ht_3 32 (by decide)).trans (k_outSize_JM)
      have k20_g_2 : g_2 20 = .int (nI dr) := (f_ht_3 20 (by decide)).trans (k_drafts_JM)
      have k51_g_2 : g_2 51 = .int pa := (f_ht_3 51 (by decide)).trans (k_partAt_JM)
      have fr_g_2 : frm [34, 32, 20, 36, 37, 51, 40, 41, 42, 43, 44, 45, 46, 47, 48, 49, 50, 11] g g_2 := frm_tr hf_JM f_ht_3 (by decide)
      obtain ⟨hq_3, hr_3, hf_3, hg_3, ha_3, hv_3⟩ := ht_3_
      have bk_3 : fu_3 = 0 → fm = 0 := fun z => ((okR_N (b := b) (e := e) (s := (fm, pm, am))) (by rw [hq_3]; exact z)).1
      refine lv_lstore_n (lv' := [(3, .long r_3), (2, .int (nI am)), (0, .ref mm)]) hx hb dX9_readWindow_138 rfl hl (by decide) rfl (fun ls hl => ?_)
      refine lv_aload_n hx hb dX9_readWindow_139 rfl (lv_at hl 2 rfl) ?_
      refine fx_get (D := D) (ci := 9) (v := .int (nI a_3)) (C := RX9) (T := TX9) (N := 78) hx hb hts in_X9 hown hK hP 13 rfl rfl 34 (by decide) (hts _ kX9_185) (fun _ h9 => h9) (at_ht_3) dX9_readWindow_140 ?_
      refine lv_istore (lv' := [(5, .int (nI a_3)), (3, .long r_3), (2, .int (nI am)), (0, .ref mm)]) hx hb dX9_readWindow_143 hl (by decide) rfl (fun ls hl => ?_)
      refine lv_aload_n hx hb dX9_readWindow_145 rfl (lv_at hl 3 rfl) ?_
      refine jn_l (wr := [(Mtab, .inl (cB, 1536, .inl mtab)), (Mnears, .inl (cJ, 8, .inr (.inl mnears))), (Msames, .inl (cJ, 1024, .inr (.inl msames))), (Mout, .inl (cB, 4000, .inl mout)), (MoutFrom, .inl (cI, 4000, .inl moutFrom)), (Msource, .inl (cB, 4000, .inl msource)), (MsourceFrom, .inl (cI, 4000, .inl msourceFrom)), (MdKind, .inl (cI, 4000, .inl mdKind)), (MdSize, .inl (cI, 4000, .inl mdSize)), (MdAddress, .inl (cI, 4000, .inl mdAddress)), (MdMode, .inl (cI, 4000, .inl mdMode)), (MdCode, .inl (cI, 4000, .inl mdCode)), (MdWindow, .inl (cI, 4000, .inl mdWindow))]) hA hP hD hS [13, 14] [0, 1, 2, 3, 4, 5, 6, 7, 8, 9, 10, 11, 12] rfl rfl (by decide) (by decide) (rn_V (As := []) (rest := []) ⟨hx, hb, hml, hown, hts⟩ (cvV 0 hts zc_yX9_number zi_X9 zm_yX9_number zv_yX9_number kX9_207 (by decide +kernel) rfl rfl ⟨Nat.le_of_ble_eq_true rfl, Nat.le_of_ble_eq_true rfl⟩) (m_number l D cI cB cJ cR mm g_2 Mrows mrows fu_3 pl_3 a_3 e bs b (fault_ht_3) (place_ht_3) (at_ht_3) (k35_g_2) (k33_g_2) (k1_g_2) (hf_3) (he9) (ha_3) (hob) H.size) hK hNw hMk hA hP hD hS [13, 14] rfl rfl (by decide) 0 rfl rfl rfl rfl hl.1 rfl (Nat.le_of_ble_eq_true rfl) dX9_readWindow_146 ⟨Nat.le_of_ble_eq_true rfl, Nat.le_of_ble_eq_true rfl⟩) (fun r_4 u9 H locs ht_4 hP hD hS => ?_)
      obtain ⟨g_3, v_4, fu_4, pl_4, a_4⟩ := u9
      try dsimp only at ht_4
      have hP : va_P D vwCl [(Mtab, .inl (cB, 1536, .inl mtab)), (Mnears, .inl (cJ, 8, .inr (.inl mnears))), (Msames, .inl (cJ, 1024, .inr (.inl msames))), (Mout, .inl (cB, 4000, .inl mout)), (MoutFrom, .inl (cI, 4000, .inl moutFrom)), (Msource, .inl (cB, 4000, .inl msource)), (MsourceFrom, .inl (cI, 4000, .inl msourceFrom)), (MdKind, .inl (cI, 4000, .inl mdKind)), (MdSize, .inl (cI, 4000, .inl mdSize)), (MdAddress, .inl (cI, 4000, .inl mdAddress)), (MdMode, .inl (cI, 4000, .inl mdMode)), (MdCode, .inl (cI, 4000, .inl mdCode)), (MdWindow, .inl (cI, 4000, .inl mdWindow)), (mm, .inr (9, fl 78 g_3)), (Mrows, .inl (cB, 32000, .inl mrows))] H := hP
      have hD : va_D A0 [(Mtab, .inl (cB, 1536, .inl mtab)), (Mnears, .inl (cJ, 8, .inr (.inl mnears))), (Msames, .inl (cJ, 1024, .inr (.inl msames))), (Mout, .inl (cB, 4000, .inl mout)), (MoutFrom, .inl (cI, 4000, .inl moutFrom)), (Msource, .inl (cB, 4000, .inl msource)), (MsourceFrom, .inl (cI, 4000, .inl msourceFrom)), (MdKind, .inl (cI, 4000, .inl mdKind)), (MdSize, .inl (cI, 4000, .inl mdSize)), (MdAddress, .inl (cI, 4000, .inl mdAddress)), (MdMode, .inl (cI, 4000, .inl mdMode)), (MdCode, .inl (cI, 4000, .inl mdCode)), (MdWindow, .inl (cI, 4000, .inl mdWindow)), (mm, .inr (9, fl 78 g_3)), (Mrows, .inl (cB, 32000, .inl mrows))] := hD
      obtain ⟨f_ht_4, fault_ht_4, place_ht_4, at_ht_4, ht_4_⟩ := ht_4
      have k35_g_3 : g_3 35 = .int (nI e) := (f_ht_4 35 (by decide)).trans (k35_g_2)
      have k33_g_3 : g_3 33 = .int (nI bs) := (f_ht_4 33 (by decide)).trans (k33_g_2)
      have k29_g_3 : g_3 29 = .int (nI sn) := (f_ht_4 29 (by decide)).trans (k29_g_2)
      have k8_g_3 : g_3 8 = .int (nI near) := (f_ht_4 8 (by decide)).trans (k8_g_2)
      have k9_g_3 : g_3 9 = .int (nI same) := (f_ht_4 9 (by decide)).trans (k9_g_2)
      have k39_g_3 : g_3 39 = .int (bI ct) := (f_ht_4 39 (by decide)).trans (k39_g_2)
      have k38_g_3 : g_3 38 = .int (nI wr) := (f_ht_4 38 (by decide)).trans (k38_g_2)
      have k1_g_3 : g_3 1 = .ref Mrows := (f_ht_4 1 (by decide)).trans (k1_g_2)
      have k7_g_3 : g_3 7 = .ref Mtab := (f_ht_4 7 (by decide)).trans (k7_g_2)
      have k10_g_3 : g_3 10 = .ref Mnears := (f_ht_4 10 (by decide)).trans (k10_g_2)
      have k12_g_3 : g_3 12 = .ref Msames := (f_ht_4 12 (by decide)).trans (k12_g_2)
      have k30_g_3 : g_3 30 = .ref Mout := (f_ht_4 30 (by decide)).trans (k30_g_2)
      have k31_g_3 : g_3 31 = .ref MoutFrom := (f_ht_4 31 (by decide)).trans (k31_g_2)
      have k27_g_3 : g_3 27 = .ref Msource := (f_ht_4 27 (by decide)).trans (k27_g_2)
      have k28_g_3 : g_3 28 = .ref MsourceFrom := (f_ht_4 28 (by decide)).trans (k28_g_2)
      have k21_g_3 : g_3 21 = .ref MdKind := (f_ht_4 21 (by decide)).trans (k21_g_2)
      have k22_g_3 : g_3 22 = .ref MdSize := (f_ht_4 22 (by decide)).trans (k22_g_2)
      have k23_g_3 : g_3 23 = .ref MdAddress := (f_ht_4 23 (by decide)).trans (k23_g_2)
      have k24_g_3 : g_3 24 = .ref MdMode := (f_ht_4 24 (by decide)).trans (k24_g_2)
      have k25_g_3 : g_3 25 = .ref MdCode := (f_ht_4 25 (by decide)).trans (k25_g_2)
      have k26_g_3 : g_3 26 = .ref MdWindow := (f_ht_4 26 (by decide)).trans (k26_g_2)
      have k40_g_3 : g_3 40 = .int (nI v_1) := (f_ht_4 40 (by decide)).trans (k40_g_2)
      have k41_g_3 : g_3 41 = .int zv := (f_ht_4 41 (by decide)).trans (k41_g_2)
      have k42_g_3 : g_3 42 = .int fv := (f_ht_4 42 (by decide)).trans (k42_g_2)
      have k32_g_3 : g_3 32 = .int (nI n) := (f_ht_4 32 (by decide)).trans (k32_g_2)
      have k20_g_3 : g_3 20 = .int (nI dr) := (f_ht_4 20 (by decide)).trans (k20_g_2)
      have k51_g_3 : g_3 51 = .int pa := (f_ht_4 51 (by decide)).trans (k51_g_2)
      have fr_g_3 : frm [34, 32, 20, 36, 37, 51, 40, 41, 42, 43, 44, 45, 46, 47, 48, 49, 50, 11] g g_3 := frm_tr fr_g_2 f_ht_4 (by decide)
      obtain ⟨hq_4, hr_4, hf_4, hg_4, ha_4, hv_4⟩ := ht_4_
      have bk_4 : fu_4 = 0 → fu_3 = 0 := fun z => ((okR_N (b := b) (e := e) (s := (fu_3, pl_3, a_3))) (by rw [hq_4]; exact z)).1
      refine lv_lstore (lv' := [(6, .long r_4), (5, .int (nI a_3)), (3, .long r_3), (2, .int (nI am)), (0, .ref mm)]) hx hb dX9_readWindow_149 hl (by decide) rfl (fun ls hl => ?_)
      have G5 : ∀ (gj_G5 : Nat → Value) (fu_5 : Nat) (pl_5 : Nat) (H : Heap) (locs : List Loc) (ls : Array Slot), (frm [34, 32, 20, 36, 37, 51, 40, 41, 42, 43, 44, 45, 46, 47, 48, 49, 50, 11] g gj_G5) → (gj_G5 40 = .int (nI v_1)) → (gj_G5 41 = .int zv) → (gj_G5 42 = .int fv) → (gj_G5 32 = .int (nI n)) → (gj_G5 20 = .int (nI dr)) → (gj_G5 51 = .int pa) → (gj_G5 36 = .int (nI fu_5)) → (gj_G5 37 = .int (nI pl_5)) → (gj_G5 34 = .int (nI a_4)) → (flI (4000 - n < v_4) 7 a_3 (fu_4, pl_4, a_4) = (fu_5, pl_5, a_4)) → (fu_5 < 2 ^ 31) → va_P D vwCl [(mm, .inr (9, fl 78 gj_G5)), (Mtab, .inl (cB, 1536, .inl mtab)), (Mnears, .inl (cJ, 8, .inr (.inl mnears))), (Msames, .inl (cJ, 1024, .inr (.inl msames))), (Mout, .inl (cB, 4000, .inl mout)), (MoutFrom, .inl (cI, 4000, .inl moutFrom)), (Msource, .inl (cB, 4000, .inl msource)), (MsourceFrom, .inl (cI, 4000, .inl msourceFrom)), (MdKind, .inl (cI, 4000, .inl mdKind)), (MdSize, .inl (cI, 4000, .inl mdSize)), (MdAddress, .inl (cI, 4000, .inl mdAddress)), (MdMode, .inl (cI, 4000, .inl mdMode)), (MdCode, .inl (cI, 4000, .inl mdCode)), (MdWindow, .inl (cI, 4000, .inl mdWindow)), (Mrows, .inl (cB, 32000, .inl mrows))] H → va_D A0 [(mm, .inr (9, fl 78 gj_G5)), (Mtab, .inl (cB, 1536, .inl mtab)), (Mnears, .inl (cJ, 8, .inr (.inl mnears))), (Msames, .inl (cJ, 1024, .inr (.inl msames))), (Mout, .inl (cB, 4000, .inl mout)), (MoutFrom, .inl (cI, 4000, .inl moutFrom)), (Msource, .inl (cB, 4000, .inl msource)), (MsourceFrom, .inl (cI, 4000, .inl msourceFrom)), (MdKind, .inl (cI, 4000, .inl mdKind)), (MdSize, .inl (cI, 4000, .inl mdSize)), (MdAddress, .inl (cI, 4000, .inl mdAddress)), (MdMode, .inl (cI, 4000, .inl mdMode)), (MdCode, .inl (cI, 4000, .inl mdCode)), (MdWindow, .inl (cI, 4000, .inl mdWindow)), (Mrows, .inl (cB, 32000, .inl mrows))] → va_S A0 s0.heap H locs → lv_has ls 15 [(6, .long r_4), (5, .int (nI a_3)), (3, .long r_3), (2, .int (nI am)), (0, .ref mm)] → W p0 l e0 ({ frames := 4, cells := 0, slots := 0, locals := 107 }) s0 m0 ([.ref mm] : List Value).toArray below meth c0 H locs 0 0 Q0 (F0 m0 181 ls []) := by
        intro gj_G5 fu_5 pl_5 H locs ls hf_G5 k_segment_G5 k_segmentSize_G5 k_segmentAt_G5 k_outSize_G5 k_drafts_G5 k_partAt_G5 k_fault_G5 k_place_G5 k_at_G5 hq_5 hf_5 hP hD hS hl
        have bk_5 : fu_5 = 0 → fu_4 = 0 := fun z => ((okR_F (c := 4000 - n < v_4) (k := 7) (w := a_3) (s := (fu_4, pl_4, a_4)) (by decide)) (by rw [hq_5]; exact z)).1
        have hZ2 : tkZ2 b e (4000 - n) (fm, pm, am) = (fu_5, pl_5, a_4) := by rw [tkZ2, hq_3]; dsimp only; rw [hq_4]; exact hq_5
        refine lv_aload_n hx hb dX9_readWindow_181 rfl (lv_at hl 4 rfl) ?_
        refine fx_get (D := D) (ci := 9) (v := .int (nI a_4)) (C := RX9) (T := TX9) (N := 78) hx hb hts in_X9 hown hK hP 0 rfl rfl 34 (by decide) (hts _ kX9_185) (fun _ h9 => h9) (k_at_G5) dX9_readWindow_182 ?_
        refine lv_istore_n (lv' := [(1, .int (nI a_4)), (6, .long r_4), (5, .int (nI a_3)), (3, .long r_3), (2, .int (nI am)), (0, .ref mm)]) hx hb dX9_readWindow_185 rfl hl (by decide) rfl (fun ls hl => ?_)
        refine lv_aload_n hx hb dX9_readWindow_186 rfl (lv_at hl 5 rfl) ?_
        refine jn_i (wr := [(Mtab, .inl (cB, 1536, .inl mtab)), (Mnears, .inl (cJ, 8, .inr (.inl mnears))), (Msames, .inl (cJ, 1024, .inr (.inl msames))), (Mout, .inl (cB, 4000, .inl mout)), (MoutFrom, .inl (cI, 4000, .inl moutFrom)), (Msource, .inl (cB, 4000, .inl msource)), (MsourceFrom, .inl (cI, 4000, .inl msourceFrom)), (MdKind, .inl (cI, 4000, .inl mdKind)), (MdSize, .inl (cI, 4000, .inl mdSize)), (MdAddress, .inl (cI, 4000, .inl mdAddress)), (MdMode, .inl (cI, 4000, .inl mdMode)), (MdCode, .inl (cI, 4000, .inl mdCode)), (MdWindow, .inl (cI, 4000, .inl mdWindow))]) hA hP hD hS [0, 14] [1, 2, 3, 4, 5, 6, 7, 8, 9, 10, 11, 12, 13] rfl rfl (by decide) (by decide) (rn_V (As := []) (rest := []) ⟨hx, hb, hml, hown, hts⟩ (cvV 0 hts zc_yX9_take zi_X9 zm_yX9_take zv_yX9_take kX9_198 (by decide +kernel) rfl rfl ⟨Nat.le_of_ble_eq_true rfl, Nat.le_of_ble_eq_true rfl⟩) (m_take l D cI cB cJ cR mm gj_G5 Mrows mrows fu_5 pl_5 a_4 e bs b (k_fault_G5) (k_place_G5) (k_at_G5) ((hf_G5 35 (by decide)).trans g_end) ((hf_G5 33 (by decide)).trans g_base) ((hf_G5 1 (by decide)).trans g_rows) (hf_5) (he9) (ha_4) (hob) H.size) hK hNw hMk hA hP hD hS [0, 14] rfl rfl (by decide) 0 rfl rfl rfl rfl hl.1 rfl (Nat.le_of_ble_eq_true rfl) dX9_readWindow_187 ⟨Nat.le_of_ble_eq_true rfl, Nat.le_of_ble_eq_true rfl⟩) (fun rt_6 u9 H locs ht_6 hP hD hS => ?_)
        obtain ⟨g_4, v_6, fu_6, pl_6, a_6⟩ := u9
        try dsimp only at ht_6
        have hP : va_P D vwCl [(Mtab, .inl (cB, 1536, .inl mtab)), (Mnears, .inl (cJ, 8, .inr (.inl mnears))), (Msames, .inl (cJ, 1024, .inr (.inl msames))), (Mout, .inl (cB, 4000, .inl mout)), (MoutFrom, .inl (cI, 4000, .inl moutFrom)), (Msource, .inl (cB, 4000, .inl msource)), (MsourceFrom, .inl (cI, 4000, .inl msourceFrom)), (MdKind, .inl (cI, 4000, .inl mdKind)), (MdSize, .inl (cI, 4000, .inl mdSize)), (MdAddress, .inl (cI, 4000, .inl mdAddress)), (MdMode, .inl (cI, 4000, .inl mdMode)), (MdCode, .inl (cI, 4000, .inl mdCode)), (MdWindow, .inl (cI, 4000, .inl mdWindow)), (mm, .inr (9, fl 78 g_4)), (Mrows, .inl (cB, 32000, .inl mrows))] H := hP
        have hD : va_D A0 [(Mtab, .inl (cB, 1536, .inl mtab)), (Mnears, .inl (cJ, 8, .inr (.inl mnears))), (Msames, .inl (cJ, 1024, .inr (.inl msames))), (Mout, .inl (cB, 4000, .inl mout)), (MoutFrom, .inl (cI, 4000, .inl moutFrom)), (Msource, .inl (cB, 4000, .inl msource)), (MsourceFrom, .inl (cI, 4000, .inl msourceFrom)), (MdKind, .inl (cI, 4000, .inl mdKind)), (MdSize, .inl (cI, 4000, .inl mdSize)), (MdAddress, .inl (cI, 4000, .inl mdAddress)), (MdMode, .inl (cI, 4000, .inl mdMode)), (MdCode, .inl (cI, 4000, .inl mdCode)), (MdWindow, .inl (cI, 4000, .inl mdWindow)), (mm, .inr (9, fl 78 g_4)), (Mrows, .inl (cB, 32000, .inl mrows))] := hD
        obtain ⟨f_ht_6, fault_ht_6, place_ht_6, at_ht_6, ht_6_⟩ := ht_6
        have k35_g_4 : g_4 35 = .int (nI e) := (f_ht_6 35 (by decide)).trans ((hf_G5 35 (by decide)).trans g_end)
        have k33_g_4 : g_4 33 = .int (nI bs) := (f_ht_6 33 (by decide)).trans ((hf_G5 33 (by decide)).trans g_base)
        have k29_g_4 : g_4 29 = .int (nI sn) := (f_ht_6 29 (by decide)).trans ((hf_G5 29 (by decide)).trans g_sourceSize)
        have k8_g_4 : g_4 8 = .int (nI near) := (f_ht_6 8 (by decide)).trans ((hf_G5 8 (by decide)).trans g_near)
        have k9_g_4 : g_4 9 = .int (nI same) := (f_ht_6 9 (by decide)).trans ((hf_G5 9 (by decide)).trans g_same)
        have k39_g_4 : g_4 39 = .int (bI ct) := (f_ht_6 39 (by decide)).trans ((hf_G5 39 (by decide)).trans g_counts)
        have k38_g_4 : g_4 38 = .int (nI wr) := (f_ht_6 38 (by decide)).trans ((hf_G5 38 (by decide)).trans g_windows)
        have k1_g_4 : g_4 1 = .ref Mrows := (f_ht_6 1 (by decide)).trans ((hf_G5 1 (by decide)).trans g_rows)
        have k7_g_4 : g_4 7 = .ref Mtab := (f_ht_6 7 (by decide)).trans ((hf_G5 7 (by decide)).trans g_tab)
        have k10_g_4 : g_4 10 = .ref Mnears := (f_ht_6 10 (by decide)).trans ((hf_G5 10 (by decide)).trans g_nears)
        have k12_g_4 : g_4 12 = .ref Msames := (f_ht_6 12 (by decide)).trans ((hf_G5 12 (by decide)).trans g_sames)
        have k30_g_4 : g_4 30 = .ref Mout := (f_ht_6 30 (by decide)).trans ((hf_G5 30 (by decide)).trans g_out)
        have k31_g_4 : g_4 31 = .ref MoutFrom := (f_ht_6 31 (by decide)).trans ((hf_G5 31 (by decide)).trans g_outFrom)
        have k27_g_4 : g_4 27 = .ref Msource := (f_ht_6 27 (by decide)).trans ((hf_G5 27 (by decide)).trans g_source)
        have k28_g_4 : g_4 28 = .ref MsourceFrom := (f_ht_6 28 (by decide)).trans ((hf_G5 28 (by decide)).trans g_sourceFrom)
        have k21_g_4 : g_4 21 = .ref MdKind := (f_ht_6 21 (by decide)).trans ((hf_G5 21 (by decide)).trans g_dKind)
        have k22_g_4 : g_4 22 = .ref MdSize := (f_ht_6 22 (by decide)).trans ((hf_G5 22 (by decide)).trans g_dSize)
        have k23_g_4 : g_4 23 = .ref MdAddress := (f_ht_6 23 (by decide)).trans ((hf_G5 23 (by decide)).trans g_dAddress)
        have k24_g_4 : g_4 24 = .ref MdMode := (f_ht_6 24 (by decide)).trans ((hf_G5 24 (by decide)).trans g_dMode)
        have k25_g_4 : g_4 25 = .ref MdCode := (f_ht_6 25 (by decide)).trans ((hf_G5 25 (by decide)).trans g_dCode)
        have k26_g_4 : g_4 26 = .ref MdWindow := (f_ht_6 26 (by decide)).trans ((hf_G5 26 (by decide)).trans g_dWindow)
        have k40_g_4 : g_4 40 = .int (nI v_1) := (f_ht_6 40 (by decide)).trans (k_segment_G5)
        have k41_g_4 : g_4 41 = .int zv := (f_ht_6 41 (by decide)).trans (k_segmentSize_G5)
        have k42_g_4 : g_4 42 = .int fv := (f_ht_6 42 (by decide)).trans (k_segmentAt_G5)
        have k32_g_4 : g_4 32 = .int (nI n) := (f_ht_6 32 (by decide)).trans (k_outSize_G5)
        have k20_g_4 : g_4 20 = .int (nI dr) := (f_ht_6 20 (by decide)).trans (k_drafts_G5)
        have k51_g_4 : g_4 51 = .int pa := (f_ht_6 51 (by decide)).trans (k_partAt_G5)
        have fr_g_4 : frm [34, 32, 20, 36, 37, 51, 40, 41, 42, 43, 44, 45, 46, 47, 48, 49, 50, 11] g g_4 := frm_tr hf_G5 f_ht_6 (by decide)
        obtain ⟨hr_6, hq_6, hf_6, hg_6, ha_6, hv_6⟩ := ht_6_
        subst hr_6
        have bk_6 : fu_6 = 0 → fu_5 = 0 := fun z => ((okR_O (b := b) (e := e) (s := (fu_5, pl_5, a_4))) (by rw [hq_6]; exact z)).1
        refine lv_istore (lv' := [(8, .int (nI v_6)), (1, .int (nI a_4)), (6, .long r_4), (5, .int (nI a_3)), (3, .long r_3), (2, .int (nI am)), (0, .ref mm)]) hx hb dX9_readWindow_190 hl (by decide) rfl (fun ls hl => ?_)
        have G7 : ∀ (gj_G7 : Nat → Value) (fu_7 : Nat) (pl_7 : Nat) (H : Heap) (locs : List Loc) (ls : Array Slot), (frm [34, 32, 20, 36, 37, 51, 40, 41, 42, 43, 44, 45, 46, 47, 48, 49, 50, 11] g gj_G7) → (gj_G7 40 = .int (nI v_1)) → (gj_G7 41 = .int zv) → (gj_G7 42 = .int fv) → (gj_G7 32 = .int (nI n)) → (gj_G7 20 = .int (nI dr)) → (gj_G7 51 = .int pa) → (gj_G7 36 = .int (nI fu_7)) → (gj_G7 37 = .int (nI pl_7)) → (gj_G7 34 = .int (nI a_6)) → (flI (¬ v_6 = 0) 9 a_4 (fu_6, pl_6, a_6) = (fu_7, pl_7, a_6)) → (fu_7 < 2 ^ 31) → va_P D vwCl [(mm, .inr (9, fl 78 gj_G7)), (Mtab, .inl (cB, 1536, .inl mtab)), (Mnears, .inl (cJ, 8, .inr (.inl mnears))), (Msames, .inl (cJ, 1024, .inr (.inl msames))), (Mout, .inl (cB, 4000, .inl mout)), (MoutFrom, .inl (cI, 4000, .inl moutFrom)), (Msource, .inl (cB, 4000, .inl msource)), (MsourceFrom, .inl (cI, 4000, .inl msourceFrom)), (MdKind, .inl (cI, 4000, .inl mdKind)), (MdSize, .inl (cI, 4000, .inl mdSize)), (MdAddress, .inl (cI, 4000, .inl mdAddress)), (MdMode, .inl (cI, 4000, .inl mdMode)), (MdCode, .inl (cI, 4000, .inl mdCode)), (MdWindow, .inl (cI, 4000, .inl mdWindow)), (Mrows, .inl (cB, 32000, .inl mrows))] H → va_D A0 [(mm, .inr (9, fl 78 gj_G7)), (Mtab, .inl (cB, 1536, .inl mtab)), (Mnears, .inl (cJ, 8, .inr (.inl mnears))), (Msames, .inl (cJ, 1024, .inr (.inl msames))), (Mout, .inl (cB, 4000, .inl mout)), (MoutFrom, .inl (cI, 4000, .inl moutFrom)), (Msource, .inl (cB, 4000, .inl msource)), (MsourceFrom, .inl (cI, 4000, .inl msourceFrom)), (MdKind, .inl (cI, 4000, .inl mdKind)), (MdSize, .inl (cI, 4000, .inl mdSize)), (MdAddress, .inl (cI, 4000, .inl mdAddress)), (MdMode, .inl (cI, 4000, .inl mdMode)), (MdCode, .inl (cI, 4000, .inl mdCode)), (MdWindow, .inl (cI, 4000, .inl mdWindow)), (Mrows, .inl (cB, 32000, .inl mrows))] → va_S A0 s0.heap H locs → lv_has ls 15 [(8, .int (nI v_6)), (1, .int (nI a_4)), (6, .long r_4), (5, .int (nI a_3)), (3, .long r_3), (2, .int (nI am)), (0, .ref mm)] → W p0 l e0 ({ frames := 4, cells := 0, slots := 0, locals := 107 }) s0 m0 ([.ref mm] : List Value).toArray below meth c0 H locs 0 0 Q0 (F0 m0 211 ls []) := by
          intro gj_G7 fu_7 pl_7 H locs ls hf_G7 k_segment_G7 k_segmentSize_G7 k_segmentAt_G7 k_outSize_G7 k_drafts_G7 k_partAt_G7 k_fault_G7 k_place_G7 k_at_G7 hq_7 hf_7 hP hD hS hl
          have bk_7 : fu_7 = 0 → fu_6 = 0 := fun z => ((okR_F (c := ¬ v_6 = 0) (k := 9) (w := a_4) (s := (fu_6, pl_6, a_6)) (by decide)) (by rw [hq_7]; exact z)).1
          have hZ3 : tkZ3 b e (fu_5, pl_5, a_4) = (fu_7, pl_7, a_6) := by rw [tkZ3, hq_6]; exact hq_7
          refine lv_aload_n hx hb dX9_readWindow_211 rfl (lv_at hl 6 rfl) ?_
          refine jn_l (wr := [(Mtab, .inl (cB, 1536, .inl mtab)), (Mnears, .inl (cJ, 8, .inr (.inl mnears))), (Msames, .inl (cJ, 1024, .inr (.inl msames))), (Mout, .inl (cB, 4000, .inl mout)), (MoutFrom, .inl (cI, 4000, .inl moutFrom)), (Msource, .inl (cB, 4000, .inl msource)), (MsourceFrom, .inl (cI, 4000, .inl msourceFrom)), (MdKind, .inl (cI, 4000, .inl mdKind)), (MdSize, .inl (cI, 4000, .inl mdSize)), (MdAddress, .inl (cI, 4000, .inl mdAddress)), (MdMode, .inl (cI, 4000, .inl mdMode)), (MdCode, .inl (cI, 4000, .inl mdCode)), (MdWindow, .inl (cI, 4000, .inl mdWindow))]) hA hP hD hS [0, 14] [1, 2, 3, 4, 5, 6, 7, 8, 9, 10, 11, 12, 13] rfl rfl (by decide) (by decide) (rn_V (As := []) (rest := []) ⟨hx, hb, hml, hown, hts⟩ (cvV 0 hts zc_yX9_number zi_X9 zm_yX9_number zv_yX9_number kX9_207 (by decide +kernel) rfl rfl ⟨Nat.le_of_ble_eq_true rfl, Nat.le_of_ble_eq_true rfl⟩) (m_number l D cI cB cJ cR mm gj_G7 Mrows mrows fu_7 pl_7 a_6 e bs b (k_fault_G7) (k_place_G7) (k_at_G7) ((hf_G7 35 (by decide)).trans g_end) ((hf_G7 33 (by decide)).trans g_base) ((hf_G7 1 (by decide)).trans g_rows) (hf_7) (he9) (ha_6) (hob) H.size) hK hNw hMk hA hP hD hS [0, 14] rfl rfl (by decide) 0 rfl rfl rfl rfl hl.1 rfl (Nat.le_of_ble_eq_true rfl) dX9_readWindow_212 ⟨Nat.le_of_ble_eq_true rfl, Nat.le_of_ble_eq_true rfl⟩) (fun r_8 u9 H locs ht_8 hP hD hS => ?_)
          obtain ⟨g_5, v_8, fu_8, pl_8, a_8⟩ := u9
          try dsimp only at ht_8
          have hP : va_P D vwCl [(Mtab, .inl (cB, 1536, .inl mtab)), (Mnears, .inl (cJ, 8, .inr (.inl mnears))), (Msames, .inl (cJ, 1024, .inr (.inl msames))), (Mout, .inl (cB, 4000, .inl mout)), (MoutFrom, .inl (cI, 4000, .inl moutFrom)), (Msource, .inl (cB, 4000, .inl msource)), (MsourceFrom, .inl (cI, 4000, .inl msourceFrom)), (MdKind, .inl (cI, 4000, .inl mdKind)), (MdSize, .inl (cI, 4000, .inl mdSize)), (MdAddress, .inl (cI, 4000, .inl mdAddress)), (MdMode, .inl (cI, 4000, .inl mdMode)), (MdCode, .inl (cI, 4000, .inl mdCode)), (MdWindow, .inl (cI, 4000, .inl mdWindow)), (mm, .inr (9, fl 78 g_5)), (Mrows, .inl (cB, 32000, .inl mrows))] H := hP
          have hD : va_D A0 [(Mtab, .inl (cB, 1536, .inl mtab)), (Mnears, .inl (cJ, 8, .inr (.inl mnears))), (Msames, .inl (cJ, 1024, .inr (.inl msames))), (Mout, .inl (cB, 4000, .inl mout)), (MoutFrom, .inl (cI, 4000, .inl moutFrom)), (Msource, .inl (cB, 4000, .inl msource)), (MsourceFrom, .inl (cI, 4000, .inl msourceFrom)), (MdKind, .inl (cI, 4000, .inl mdKind)), (MdSize, .inl (cI, 4000, .inl mdSize)), (MdAddress, .inl (cI, 4000, .inl mdAddress)), (MdMode, .inl (cI, 4000, .inl mdMode)), (MdCode, .inl (cI, 4000, .inl mdCode)), (MdWindow, .inl (cI, 4000, .inl mdWindow)), (mm, .inr (9, fl 78 g_5)), (Mrows, .inl (cB, 32000, .inl mrows))] := hD
          obtain ⟨f_ht_8, fault_ht_8, place_ht_8, at_ht_8, ht_8_⟩ := ht_8
          have k35_g_5 : g_5 35 = .int (nI e) := (f_ht_8 35 (by decide)).trans ((hf_G7 35 (by decide)).trans g_end)
          have k33_g_5 : g_5 33 = .int (nI bs) := (f_ht_8 33 (by decide)).trans ((hf_G7 33 (by decide)).trans g_base)
          have k29_g_5 : g_5 29 = .int (nI sn) := (f_ht_8 29 (by decide)).trans ((hf_G7 29 (by decide)).trans g_sourceSize)
          have k8_g_5 : g_5 8 = .int (nI near) := (f_ht_8 8 (by decide)).trans ((hf_G7 8 (by decide)).trans g_near)
          have k9_g_5 : g_5 9 = .int (nI same) := (f_ht_8 9 (by decide)).trans ((hf_G7 9 (by decide)).trans g_same)
          have k39_g_5 : g_5 39 = .int (bI ct) := (f_ht_8 39 (by decide)).trans ((hf_G7 39 (by decide)).trans g_counts)
          have k38_g_5 : g_5 38 = .int (nI wr) := (f_ht_8 38 (by decide)).trans ((hf_G7 38 (by decide)).trans g_windows)
          have k1_g_5 : g_5 1 = .ref Mrows := (f_ht_8 1 (by decide)).trans ((hf_G7 1 (by decide)).trans g_rows)
          have k7_g_5 : g_5 7 = .ref Mtab := (f_ht_8 7 (by decide)).trans ((hf_G7 7 (by decide)).trans g_tab)
          have k10_g_5 : g_5 10 = .ref Mnears := (f_ht_8 10 (by decide)).trans ((hf_G7 10 (by decide)).trans g_nears)
          have k12_g_5 : g_5 12 = .ref Msames := (f_ht_8 12 (by decide)).trans ((hf_G7 12 (by decide)).trans g_sames)
          have k30_g_5 : g_5 30 = .ref Mout := (f_ht_8 30 (by decide)).trans ((hf_G7 30 (by decide)).trans g_out)
          have k31_g_5 : g_5 31 = .ref MoutFrom := (f_ht_8 31 (by decide)).trans ((hf_G7 31 (by decide)).trans g_outFrom)
          have k27_g_5 : g_5 27 = .ref Msource := (f_ht_8 27 (by decide)).trans ((hf_G7 27 (by decide)).trans g_source)
          have k28_g_5 : g_5 28 = .ref MsourceFrom := (f_ht_8 28 (by decide)).trans ((hf_G7 28 (by decide)).trans g_sourceFrom)
          have k21_g_5 : g_5 21 = .ref MdKind := (f_ht_8 21 (by decide)).trans ((hf_G7 21 (by decide)).trans g_dKind)
          have k22_g_5 : g_5 22 = .ref MdSize := (f_ht_8 22 (by decide)).trans ((hf_G7 22 (by decide)).trans g_dSize)
          have k23_g_5 : g_5 23 = .ref MdAddress := (f_ht_8 23 (by decide)).trans ((hf_G7 23 (by decide)).trans g_dAddress)
          have k24_g_5 : g_5 24 = .ref MdMode := (f_ht_8 24 (by decide)).trans ((hf_G7 24 (by decide)).trans g_dMode)
          have k25_g_5 : g_5 25 = .ref MdCode := (f_ht_8 25 (by decide)).trans ((hf_G7 25 (by decide)).trans g_dCode)
          have k26_g_5 : g_5 26 = .ref MdWindow := (f_ht_8 26 (by decide)).trans ((hf_G7 26 (by decide)).trans g_dWindow)
          have k40_g_5 : g_5 40 = .int (nI v_1) := (f_ht_8 40 (by decide)).trans (k_segment_G7)
          have k41_g_5 : g_5 41 = .int zv := (f_ht_8 41 (by decide)).trans (k_segmentSize_G7)
          have k42_g_5 : g_5 42 = .int fv := (f_ht_8 42 (by decide)).trans (k_segmentAt_G7)
          have k32_g_5 : g_5 32 = .int (nI n) := (f_ht_8 32 (by decide)).trans (k_outSize_G7)
          have k20_g_5 : g_5 20 = .int (nI dr) := (f_ht_8 20 (by decide)).trans (k_drafts_G7)
          have k51_g_5 : g_5 51 = .int pa := (f_ht_8 51 (by decide)).trans (k_partAt_G7)
          have fr_g_5 : frm [34, 32, 20, 36, 37, 51, 40, 41, 42, 43, 44, 45, 46, 47, 48, 49, 50, 11] g g_5 := frm_tr hf_G7 f_ht_8 (by decide)
          obtain ⟨hq_8, hr_8, hf_8, hg_8, ha_8, hv_8⟩ := ht_8_
          have bk_8 : fu_8 = 0 → fu_7 = 0 := fun z => ((okR_N (b := b) (e := e) (s := (fu_7, pl_7, a_6))) (by rw [hq_8]; exact z)).1
          refine lv_lstore (lv' := [(9, .long r_8), (8, .int (nI v_6)), (1, .int (nI a_4)), (6, .long r_4), (5, .int (nI a_3)), (3, .long r_3), (2, .int (nI am)), (0, .ref mm)]) hx hb dX9_readWindow_215 hl (by decide) rfl (fun ls hl => ?_)
          refine lv_aload_n hx hb dX9_readWindow_217 rfl (lv_at hl 7 rfl) ?_
          refine jn_l (wr := [(Mtab, .inl (cB, 1536, .inl mtab)), (Mnears, .inl (cJ, 8, .inr (.inl mnears))), (Msames, .inl (cJ, 1024, .inr (.inl msames))), (Mout, .inl (cB, 4000, .inl mout)), (MoutFrom, .inl (cI, 4000, .inl moutFrom)), (Msource, .inl (cB, 4000, .inl msource)), (MsourceFrom, .inl (cI, 4000, .inl msourceFrom)), (MdKind, .inl (cI, 4000, .inl mdKind)), (MdSize, .inl (cI, 4000, .inl mdSize)), (MdAddress, .inl (cI, 4000, .inl mdAddress)), (MdMode, .inl (cI, 4000, .inl mdMode)), (MdCode, .inl (cI, 4000, .inl mdCode)), (MdWindow, .inl (cI, 4000, .inl mdWindow))]) hA hP hD hS [13, 14] [0, 1, 2, 3, 4, 5, 6, 7, 8, 9, 10, 11, 12] rfl rfl (by decide) (by decide) (rn_V (As := []) (rest := []) ⟨hx, hb, hml, hown, hts⟩ (cvV 0 hts zc_yX9_number zi_X9 zm_yX9_number zv_yX9_number kX9_207 (by decide +kernel) rfl rfl ⟨Nat.le_of_ble_eq_true rfl, Nat.le_of_ble_eq_true rfl⟩) (m_number l D cI cB cJ cR mm g_5 Mrows mrows fu_8 pl_8 a_8 e bs b (fault_ht_8) (place_ht_8) (at_ht_8) (k35_g_5) (k33_g_5) (k1_g_5) (hf_8) (he9) (ha_8) (hob) H.size) hK hNw hMk hA hP hD hS [13, 14] rfl rfl (by decide) 0 rfl rfl rfl rfl hl.1 rfl (Nat.le_of_ble_eq_true rfl) dX9_readWindow_218 ⟨Nat.le_of_ble_eq_true rfl, Nat.le_of_ble_eq_true rfl⟩) (fun r_9 u9 H locs ht_9 hP hD hS => ?_)
          obtain ⟨g_6, v_9, fu_9, pl_9, a_9⟩ := u9
          try dsimp only at ht_9
          have hP : va_P D vwCl [(Mtab, .inl (cB, 1536, .inl mtab)), (Mnears, .inl (cJ, 8, .inr (.inl mnears))), (Msames, .inl (cJ, 1024, .inr (.inl msames))), (Mout, .inl (cB, 4000, .inl mout)), (MoutFrom, .inl (cI, 4000, .inl moutFrom)), (Msource, .inl (cB, 4000, .inl msource)), (MsourceFrom, .inl (cI, 4000, .inl msourceFrom)), (MdKind, .inl (cI, 4000, .inl mdKind)), (MdSize, .inl (cI, 4000, .inl mdSize)), (MdAddress, .inl (cI, 4000, .inl mdAddress)), (MdMode, .inl (cI, 4000, .inl mdMode)), (MdCode, .inl (cI, 4000, .inl mdCode)), (MdWindow, .inl (cI, 4000, .inl mdWindow)), (mm, .inr (9, fl 78 g_6)), (Mrows, .inl (cB, 32000, .inl mrows))] H := hP
          have hD : va_D A0 [(Mtab, .inl (cB, 1536, .inl mtab)), (Mnears, .inl (cJ, 8, .inr (.inl mnears))), (Msames, .inl (cJ, 1024, .inr (.inl msames))), (Mout, .inl (cB, 4000, .inl mout)), (MoutFrom, .inl (cI, 4000, .inl moutFrom)), (Msource, .inl (cB, 4000, .inl msource)), (MsourceFrom, .inl (cI, 4000, .inl msourceFrom)), (MdKind, .inl (cI, 4000, .inl mdKind)), (MdSize, .inl (cI, 4000, .inl mdSize)), (MdAddress, .inl (cI, 4000, .inl mdAddress)), (MdMode, .inl (cI, 4000, .inl mdMode)), (MdCode, .inl (cI, 4000, .inl mdCode)), (MdWindow, .inl (cI, 4000, .inl mdWindow)), (mm, .inr (9, fl 78 g_6)), (Mrows, .inl (cB, 32000, .inl mrows))] := hD
          obtain ⟨f_ht_9, fault_ht_9, place_ht_9, at_ht_9, ht_9_⟩ := ht_9
          have k35_g_6 : g_6 35 = .int (nI e) := (f_ht_9 35 (by decide)).trans (k35_g_5)
          have k33_g_6 : g_6 33 = .int (nI bs) := (f_ht_9 33 (by decide)).trans (k33_g_5)
          have k29_g_6 : g_6 29 = .int (nI sn) := (f_ht_9 29 (by decide)).trans (k29_g_5)
          have k8_g_6 : g_6 8 = .int (nI near) := (f_ht_9 8 (by decide)).trans (k8_g_5)
          have k9_g_6 : g_6 9 = .int (nI same) := (f_ht_9 9 (by decide)).trans (k9_g_5)
          have k39_g_6 : g_6 39 = .int (bI ct) := (f_ht_9 39 (by decide)).trans (k39_g_5)
          have k38_g_6 : g_6 38 = .int (nI wr) := (f_ht_9 38 (by decide)).trans (k38_g_5)
          have k1_g_6 : g_6 1 = .ref Mrows := (f_ht_9 1 (by decide)).trans (k1_g_5)
          have k7_g_6 : g_6 7 = .ref Mtab := (f_ht_9 7 (by decide)).trans (k7_g_5)
          have k10_g_6 : g_6 10 = .ref Mnears := (f_ht_9 10 (by decide)).trans (k10_g_5)
          have k12_g_6 : g_6 12 = .ref Msames := (f_ht_9 12 (by decide)).trans (k12_g_5)
          have k30_g_6 : g_6 30 = .ref Mout := (f_ht_9 30 (by decide)).trans (k30_g_5)
          have k31_g_6 : g_6 31 = .ref MoutFrom := (f_ht_9 31 (by decide)).trans (k31_g_5)
          have k27_g_6 : g_6 27 = .ref Msource := (f_ht_9 27 (by decide)).trans (k27_g_5)
          have k28_g_6 : g_6 28 = .ref MsourceFrom := (f_ht_9 28 (by decide)).trans (k28_g_5)
          have k21_g_6 : g_6 21 = .ref MdKind := (f_ht_9 21 (by decide)).trans (k21_g_5)
          have k22_g_6 : g_6 22 = .ref MdSize := (f_ht_9 22 (by decide)).trans (k22_g_5)
          have k23_g_6 : g_6 23 = .ref MdAddress := (f_ht_9 23 (by decide)).trans (k23_g_5)
          have k24_g_6 : g_6 24 = .ref MdMode := (f_ht_9 24 (by decide)).trans (k24_g_5)
          have k25_g_6 : g_6 25 = .ref MdCode := (f_ht_9 25 (by decide)).trans (k25_g_5)
          have k26_g_6 : g_6 26 = .ref MdWindow := (f_ht_9 26 (by decide)).trans (k26_g_5)
          have k40_g_6 : g_6 40 = .int (nI v_1) := (f_ht_9 40 (by decide)).trans (k40_g_5)
          have k41_g_6 : g_6 41 = .int zv := (f_ht_9 41 (by decide)).trans (k41_g_5)
          have k42_g_6 : g_6 42 = .int fv := (f_ht_9 42 (by decide)).trans (k42_g_5)
          have k32_g_6 : g_6 32 = .int (nI n) := (f_ht_9 32 (by decide)).trans (k32_g_5)
          have k20_g_6 : g_6 20 = .int (nI dr) := (f_ht_9 20 (by decide)).trans (k20_g_5)
          have k51_g_6 : g_6 51 = .int pa := (f_ht_9 51 (by decide)).trans (k51_g_5)
          have fr_g_6 : frm [34, 32, 20, 36, 37, 51, 40, 41, 42, 43, 44, 45, 46, 47, 48, 49, 50, 11] g g_6 := frm_tr fr_g_5 f_ht_9 (by decide)
          obtain ⟨hq_9, hr_9, hf_9, hg_9, ha_9, hv_9⟩ := ht_9_
          have bk_9 : fu_9 = 0 → fu_8 = 0 := fun z => ((okR_N (b := b) (e := e) (s := (fu_8, pl_8, a_8))) (by rw [hq_9]; exact z)).1
          refine lv_lstore (lv' := [(11, .long r_9), (9, .long r_8), (8, .int (nI v_6)), (1, .int (nI a_4)), (6, .long r_4), (5, .int (nI a_3)), (3, .long r_3), (2, .int (nI am)), (0, .ref mm)]) hx hb dX9_readWindow_221 hl (by decide) rfl (fun ls hl => ?_)
          refine lv_aload_n hx hb dX9_readWindow_223 rfl (lv_at hl 8 rfl) ?_
          refine jn_l (wr := [(Mtab, .inl (cB, 1536, .inl mtab)), (Mnears, .inl (cJ, 8, .inr (.inl mnears))), (Msames, .inl (cJ, 1024, .inr (.inl msames))), (Mout, .inl (cB, 4000, .inl mout)), (MoutFrom, .inl (cI, 4000, .inl moutFrom)), (Msource, .inl (cB, 4000, .inl msource)), (MsourceFrom, .inl (cI, 4000, .inl msourceFrom)), (MdKind, .inl (cI, 4000, .inl mdKind)), (MdSize, .inl (cI, 4000, .inl mdSize)), (MdAddress, .inl (cI, 4000, .inl mdAddress)), (MdMode, .inl (cI, 4000, .inl mdMode)), (MdCode, .inl (cI, 4000, .inl mdCode)), (MdWindow, .inl (cI, 4000, .inl mdWindow))]) hA hP hD hS [13, 14] [0, 1, 2, 3, 4, 5, 6, 7, 8, 9, 10, 11, 12] rfl rfl (by decide) (by decide) (rn_V (As := []) (rest := []) ⟨hx, hb, hml, hown, hts⟩ (cvV 0 hts zc_yX9_number zi_X9 zm_yX9_number zv_yX9_number kX9_207 (by decide +kernel) rfl rfl ⟨Nat.le_of_ble_eq_true rfl, Nat.le_of_ble_eq_true rfl⟩) (m_number l D cI cB cJ cR mm g_6 Mrows mrows fu_9 pl_9 a_9 e bs b (fault_ht_9) (place_ht_9) (at_ht_9) (k35_g_6) (k33_g_6) (k1_g_6) (hf_9) (he9) (ha_9) (hob) H.size) hK hNw hMk hA hP hD hS [13, 14] rfl rfl (by decide) 0 rfl rfl rfl rfl hl.1 rfl (Nat.le_of_ble_eq_true rfl) dX9_readWindow_224 ⟨Nat.le_of_ble_eq_true rfl, Nat.le_of_ble_eq_true rfl⟩) (fun r_10 u9 H locs ht_10 hP hD hS => ?_)
          obtain ⟨g_7, v_10, fu_10, pl_10, a_10⟩ := u9
          try dsimp only at ht_10
          have hP : va_P D vwCl [(Mtab, .inl (cB, 1536, .inl mtab)), (Mnears, .inl (cJ, 8, .inr (.inl mnears))), (Msames, .inl (cJ, 1024, .inr (.inl msames))), (Mout, .inl (cB, 4000, .inl mout)), (MoutFrom, .inl (cI, 4000, .inl moutFrom)), (Msource, .inl (cB, 4000, .inl msource)), (MsourceFrom, .inl (cI, 4000, .inl msourceFrom)), (MdKind, .inl (cI, 4000, .inl mdKind)), (MdSize, .inl (cI, 4000, .inl mdSize)), (MdAddress, .inl (cI, 4000, .inl mdAddress)), (MdMode, .inl (cI, 4000, .inl mdMode)), (MdCode, .inl (cI, 4000, .inl mdCode)), (MdWindow, .inl (cI, 4000, .inl mdWindow)), (mm, .inr (9, fl 78 g_7)), (Mrows, .inl (cB, 32000, .inl mrows))] H := hP
          have hD : va_D A0 [(Mtab, .inl (cB, 1536, .inl mtab)), (Mnears, .inl (cJ, 8, .inr (.inl mnears))), (Msames, .inl (cJ, 1024, .inr (.inl msames))), (Mout, .inl (cB, 4000, .inl mout)), (MoutFrom, .inl (cI, 4000, .inl moutFrom)), (Msource, .inl (cB, 4000, .inl msource)), (MsourceFrom, .inl (cI, 4000, .inl msourceFrom)), (MdKind, .inl (cI, 4000, .inl mdKind)), (MdSize, .inl (cI, 4000, .inl mdSize)), (MdAddress, .inl (cI, 4000, .inl mdAddress)), (MdMode, .inl (cI, 4000, .inl mdMode)), (MdCode, .inl (cI, 4000, .inl mdCode)), (MdWindow, .inl (cI, 4000, .inl mdWindow)), (mm, .inr (9, fl 78 g_7)), (Mrows, .inl (cB, 32000, .inl mrows))] := hD
          obtain ⟨f_ht_10, fault_ht_10, place_ht_10, at_ht_10, ht_10_⟩ := ht_10
          have k35_g_7 : g_7 35 = .int (nI e) := (f_ht_10 35 (by decide)).trans (k35_g_6)
          have k33_g_7 : g_7 33 = .int (nI bs) := (f_ht_10 33 (by decide)).trans (k33_g_6)
          have k29_g_7 : g_7 29 = .int (nI sn) := (f_ht_10 29 (by decide)).trans (k29_g_6)
          have k8_g_7 : g_7 8 = .int (nI near) := (f_ht_10 8 (by decide)).trans (k8_g_6)
          have k9_g_7 : g_7 9 = .int (nI same) := (f_ht_10 9 (by decide)).trans (k9_g_6)
          have k39_g_7 : g_7 39 = .int (bI ct) := (f_ht_10 39 (by decide)).trans (k39_g_6)
          have k38_g_7 : g_7 38 = .int (nI wr) := (f_ht_10 38 (by decide)).trans (k38_g_6)
          have k1_g_7 : g_7 1 = .ref Mrows := (f_ht_10 1 (by decide)).trans (k1_g_6)
          have k7_g_7 : g_7 7 = .ref Mtab := (f_ht_10 7 (by decide)).trans (k7_g_6)
          have k10_g_7 : g_7 10 = .ref Mnears := (f_ht_10 10 (by decide)).trans (k10_g_6)
          have k12_g_7 : g_7 12 = .ref Msames := (f_ht_10 12 (by decide)).trans (k12_g_6)
          have k30_g_7 : g_7 30 = .ref Mout := (f_ht_10 30 (by decide)).trans (k30_g_6)
          have k31_g_7 : g_7 31 = .ref MoutFrom := (f_ht_10 31 (by decide)).trans (k31_g_6)
          have k27_g_7 : g_7 27 = .ref Msource := (f_ht_10 27 (by decide)).trans (k27_g_6)
          have k28_g_7 : g_7 28 = .ref MsourceFrom := (f_ht_10 28 (by decide)).trans (k28_g_6)
          have k21_g_7 : g_7 21 = .ref MdKind := (f_ht_10 21 (by decide)).trans (k21_g_6)
          have k22_g_7 : g_7 22 = .ref MdSize := (f_ht_10 22 (by decide)).trans (k22_g_6)
          have k23_g_7 : g_7 23 = .ref MdAddress := (f_ht_10 23 (by decide)).trans (k23_g_6)
          have k24_g_7 : g_7 24 = .ref MdMode := (f_ht_10 24 (by decide)).trans (k24_g_6)
          have k25_g_7 : g_7 25 = .ref MdCode := (f_ht_10 25 (by decide)).trans (k25_g_6)
          have k26_g_7 : g_7 26 = .ref MdWindow := (f_ht_10 26 (by decide)).trans (k26_g_6)
          have k40_g_7 : g_7 40 = .int (nI v_1) := (f_ht_10 40 (by decide)).trans (k40_g_6)
          have k41_g_7 : g_7 41 = .int zv := (f_ht_10 41 (by decide)).trans (k41_g_6)
          have k42_g_7 : g_7 42 = .int fv := (f_ht_10 42 (by decide)).trans (k42_g_6)
          have k32_g_7 : g_7 32 = .int (nI n) := (f_ht_10 32 (by decide)).trans (k32_g_6)
          have k20_g_7 : g_7 20 = .int (nI dr) := (f_ht_10 20 (by decide)).trans (k20_g_6)
          have k51_g_7 : g_7 51 = .int pa := (f_ht_10 51 (by decide)).trans (k51_g_6)
          have fr_g_7 : frm [34, 32, 20, 36, 37, 51, 40, 41, 42, 43, 44, 45, 46, 47, 48, 49, 50, 11] g g_7 := frm_tr fr_g_6 f_ht_10 (by decide)
          obtain ⟨hq_10, hr_10, hf_10, hg_10, ha_10, hv_10⟩ := ht_10_
          have bk_10 : fu_10 = 0 → fu_9 = 0 := fun z => ((okR_N (b := b) (e := e) (s := (fu_9, pl_9, a_9))) (by rw [hq_10]; exact z)).1
          refine lv_lstore (lv' := [(13, .long r_10), (11, .long r_9), (9, .long r_8), (8, .int (nI v_6)), (1, .int (nI a_4)), (6, .long r_4), (5, .int (nI a_3)), (3, .long r_3), (2, .int (nI am)), (0, .ref mm)]) hx hb dX9_readWindow_227 hl (by decide) rfl (fun ls hl => ?_)
          have hZ4 : tkZ4 b e (fu_7, pl_7, a_6) = ((v_8, v_9, v_10), (fu_10, pl_10, a_10)) := by rw [tkZ4, hq_8]; dsimp only; rw [hq_9]; dsimp only; rw [hq_10]
          have G11 : ∀ (gj_G11 : Nat → Value) (fu_11 : Nat) (pl_11 : Nat) (H : Heap) (locs : List Loc) (ls : Array Slot), (frm [34, 32, 20, 36, 37, 51, 40, 41, 42, 43, 44, 45, 46, 47, 48, 49, 50, 11] g gj_G11) → (gj_G11 40 = .int (nI v_1)) → (gj_G11 41 = .int zv) → (gj_G11 42 = .int fv) → (gj_G11 32 = .int (nI n)) → (gj_G11 20 = .int (nI dr)) → (gj_G11 51 = .int pa) → (gj_G11 36 = .int (nI fu_11)) → (gj_G11 37 = .int (nI pl_11)) → (gj_G11 34 = .int (nI a_10)) → (flI (¬ v_3 = a_10 - a_3 + (v_8 + v_9 + v_10)) 8 am (fu_10, pl_10, a_10) = (fu_11, pl_11, a_10)) → (fu_11 < 2 ^ 31) → va_P D vwCl [(mm, .inr (9, fl 78 gj_G11)), (Mtab, .inl (cB, 1536, .inl mtab)), (Mnears, .inl (cJ, 8, .inr (.inl mnears))), (Msames, .inl (cJ, 1024, .inr (.inl msames))), (Mout, .inl (cB, 4000, .inl mout)), (MoutFrom, .inl (cI, 4000, .inl moutFrom)), (Msource, .inl (cB, 4000, .inl msource)), (MsourceFrom, .inl (cI, 4000, .inl msourceFrom)), (MdKind, .inl (cI, 4000, .inl mdKind)), (MdSize, .inl (cI, 4000, .inl mdSize)), (MdAddress, .inl (cI, 4000, .inl mdAddress)), (MdMode, .inl (cI, 4000, .inl mdMode)), (MdCode, .inl (cI, 4000, .inl mdCode)), (MdWindow, .inl (cI, 4000, .inl mdWindow)), (Mrows, .inl (cB, 32000, .inl mrows))] H → va_D A0 [(mm, .inr (9, fl 78 gj_G11)), (Mtab, .inl (cB, 1536, .inl mtab)), (Mnears, .inl (cJ, 8, .inr (.inl mnears))), (Msames, .inl (cJ, 1024, .inr (.inl msames))), (Mout, .inl (cB, 4000, .inl mout)), (MoutFrom, .inl (cI, 4000, .inl moutFrom)), (Msource, .inl (cB, 4000, .inl msource)), (MsourceFrom, .inl (cI, 4000, .inl msourceFrom)), (MdKind, .inl (cI, 4000, .inl mdKind)), (MdSize, .inl (cI, 4000, .inl mdSize)), (MdAddress, .inl (cI, 4000, .inl mdAddress)), (MdMode, .inl (cI, 4000, .inl mdMode)), (MdCode, .inl (cI, 4000, .inl mdCode)), (MdWindow, .inl (cI, 4000, .inl mdWindow)), (Mrows, .inl (cB, 32000, .inl mrows))] → va_S A0 s0.heap H locs → lv_has ls 15 [(13, .long r_10), (11, .long r_9), (9, .long r_8), (8, .int (nI v_6)), (1, .int (nI a_4)), (6, .long r_4), (5, .int (nI a_3)), (3, .long r_3), (2, .int (nI am)), (0, .ref mm)] → W p0 l e0 ({ frames := 4, cells := 0, slots := 0, locals := 107 }) s0 m0 ([.ref mm] : List Value).toArray below meth c0 H locs 0 0 Q0 (F0 m0 265 ls []) := by
            intro gj_G11 fu_11 pl_11 H locs ls hf_G11 k_segment_G11 k_segmentSize_G11 k_segmentAt_G11 k_outSize_G11 k_drafts_G11 k_partAt_G11 k_fault_G11 k_place_G11 k_at_G11 hq_11 hf_11 hP hD hS hl
            have bk_11 : fu_11 = 0 → fu_10 = 0 := fun z => ((okR_F (c := ¬ v_3 = a_10 - a_3 + (v_8 + v_9 + v_10)) (k := 8) (w := am) (s := (fu_10, pl_10, a_10)) (by decide)) (by rw [hq_11]; exact z)).1
            have G12 : ∀ (gj_G12 : Nat → Value) (fu_12 : Nat) (pl_12 : Nat) (H : Heap) (locs : List Loc) (ls : Array Slot), (frm [34, 32, 20, 36, 37, 51, 40, 41, 42, 43, 44, 45, 46, 47, 48, 49, 50, 11] g gj_G12) → (gj_G12 40 = .int (nI v_1)) → (gj_G12 41 = .int zv) → (gj_G12 42 = .int fv) → (gj_G12 32 = .int (nI n)) → (gj_G12 20 = .int (nI dr)) → (gj_G12 51 = .int pa) → (gj_G12 36 = .int (nI fu_12)) → (gj_G12 37 = .int (nI pl_12)) → (gj_G12 34 = .int (nI a_10)) → (flI (e - a_10 < (v_8 + v_9 + v_10)) 1 e (fu_11, pl_11, a_10) = (fu_12, pl_12, a_10)) → (fu_12 < 2 ^ 31) → va_P D vwCl [(mm, .inr (9, fl 78 gj_G12)), (Mtab, .inl (cB, 1536, .inl mtab)), (Mnears, .inl (cJ, 8, .inr (.inl mnears))), (Msames, .inl (cJ, 1024, .inr (.inl msames))), (Mout, .inl (cB, 4000, .inl mout)), (MoutFrom, .inl (cI, 4000, .inl moutFrom)), (Msource, .inl (cB, 4000, .inl msource)), (MsourceFrom, .inl (cI, 4000, .inl msourceFrom)), (MdKind, .inl (cI, 4000, .inl mdKind)), (MdSize, .inl (cI, 4000, .inl mdSize)), (MdAddress, .inl (cI, 4000, .inl mdAddress)), (MdMode, .inl (cI, 4000, .inl mdMode)), (MdCode, .inl (cI, 4000, .inl mdCode)), (MdWindow, .inl (cI, 4000, .inl mdWindow)), (Mrows, .inl (cB, 32000, .inl mrows))] H → va_D A0 [(mm, .inr (9, fl 78 gj_G12)), (Mtab, .inl (cB, 1536, .inl mtab)), (Mnears, .inl (cJ, 8, .inr (.inl mnears))), (Msames, .inl (cJ, 1024, .inr (.inl msames))), (Mout, .inl (cB, 4000, .inl mout)), (MoutFrom, .inl (cI, 4000, .inl moutFrom)), (Msource, .inl (cB, 4000, .inl msource)), (MsourceFrom, .inl (cI, 4000, .inl msourceFrom)), (MdKind, .inl (cI, 4000, .inl mdKind)), (MdSize, .inl (cI, 4000, .inl mdSize)), (MdAddress, .inl (cI, 4000, .inl mdAddress)), (MdMode, .inl (cI, 4000, .inl mdMode)), (MdCode, .inl (cI, 4000, .inl mdCode)), (MdWindow, .inl (cI, 4000, .inl mdWindow)), (Mrows, .inl (cB, 32000, .inl mrows))] → va_S A0 s0.heap H locs → lv_has ls 15 [(13, .long r_10), (11, .long r_9), (9, .long r_8), (8, .int (nI v_6)), (1, .int (nI a_4)), (6, .long r_4), (5, .int (nI a_3)), (3, .long r_3), (2, .int (nI am)), (0, .ref mm)] → W p0 l e0 ({ frames := 4, cells := 0, slots := 0, locals := 107 }) s0 m0 ([.ref mm] : List Value).toArray below meth c0 H locs 0 0 Q0 (F0 m0 303 ls []) := by
              intro gj_G12 fu_12 pl_12 H locs ls hf_G12 k_segment_G12 k_segmentSize_G12 k_segmentAt_G12 k_outSize_G12 k_drafts_G12 k_partAt_G12 k_fault_G12 k_place_G12 k_at_G12 hq_12 hf_12 hP hD hS hl
              have bk_12 : fu_12 = 0 → fu_11 = 0 := fun z => ((okR_F (c := e - a_10 < (v_8 + v_9 + v_10)) (k := 1) (w := e) (s := (fu_11, pl_11, a_10)) (by decide)) (by rw [hq_12]; exact z)).1
              have hSz : tkSiz b e (4000 - n) (fm, pm, am) = ((v_4, v_8, v_9, v_10), (fu_12, pl_12, a_10)) := by unfold tkSiz; rw [hZ2, hZ3, hZ4, hq_3]; dsimp only; rw [hq_4]; dsimp only; unfold tkZ6 tkZ5; rw [hq_11]; dsimp only; rw [hq_12]
              have hwd : wdF b e sn 4000 near same tt sB sG (0, pl, a, wn, (B, G, n), gg, cnt) = if ¬ fu_12 = 0 then (fu_12, pl_12, a, wn, (B, G, n), gg, cnt) else wdS b near same tt sB sG pl a wn (B, G, n) gg cnt kk zz ff v_4 v_8 v_9 v_10 a_10 := by unfold wdF; dsimp only; rw [← h0, hsg]; dsimp only; rw [hSz]
              refine lv_aload_n hx hb dX9_readWindow_303 rfl (lv_at hl 9 rfl) ?_
              refine fx_get (D := D) (ci := 9) (v := .int (nI fu_12)) (C := RX9) (T := TX9) (N := 78) hx hb hts in_X9 hown hK hP 0 rfl rfl 36 (by decide) (hts _ kX9_179) (fun _ h9 => h9) (k_fault_G12) dX9_readWindow_304 ?_
              refine lv_if_le (tgt := 311) hx hb dX9_readWindow_307 (by decide) (fun c_8 => ?_) (fun c_8 => ?_)
              · have hz : fu_12 = 0 := Decidable.byContradiction (fun z => nI_nle (Nat.pos_of_ne_zero z) hf_12 c_8)
                rw [if_neg (fun w => w hz)] at hwd
                have hzm : fm = 0 := (bk_3 (bk_4 (bk_5 (bk_6 (bk_7 (bk_8 (bk_9 (bk_10 (bk_11 (bk_12 hz))))))))))
                obtain ⟨y1, y2, y3, y4⟩ := hzf hzm
                have e6 := hr_4 (bk_5 (bk_6 (bk_7 (bk_8 (bk_9 (bk_10 (bk_11 (bk_12 hz))))))))
                have e9 := hr_8 (bk_9 (bk_10 (bk_11 (bk_12 hz))))
                have e11 := hr_9 (bk_10 (bk_11 (bk_12 hz)))
                have e13 := hr_10 (bk_11 (bk_12 hz))
                subst e6
                subst e9
                subst e11
                subst e13
                subst y1
                subst y2
                have kx_9 : gj_G12 40 = .int (nI kk) := by have h9 : gj_G12 40 = .int (nI v_1) := k_segment_G12; rw [h9]; exact congrArg Value.int (by rw [y3])
                obtain ⟨t1, t2, t3⟩ := tkSeg_ok hb9 hsg hzm
                have hZ6 : ¬ e - a_10 < (v_8 + v_9 + v_10) := by have h9 := hq_12; exact (flI_0 h9 hz (by decide)).1
                have hZ7 : ¬ 4000 - n < v_4 := (flI_0 hq_5 (bk_6 (bk_7 (bk_8 (bk_9 (bk_10 (bk_11 (bk_12 hz))))))) (by decide)).1
                refine lv_aload_n hx hb dX9_readWindow_311 rfl (lv_at hl 9 rfl) ?_
                refine lv_aload_n hx hb dX9_readWindow_312 rfl (lv_at hl 9 rfl) ?_
                refine fx_get (D := D) (ci := 9) (v := .int (nI n)) (C := RX9) (T := TX9) (N := 78) hx hb hts in_X9 hown hK hP 0 rfl rfl 32 (by decide) (hts _ kX9_221) (fun _ h9 => h9) (k_outSize_G12) dX9_readWindow_313 ?_
                refine fx_put (D := D) (ci := 9) (v := .int (nI n)) (ty := .int) (C := RX9) (T := TX9) (N := 78) hx hb hts in_X9 tyX9 tyX9_ok nmX9 hown hK hP hD hS 0 rfl rfl 43 (by decide) (hts _ kX9_257) (fun _ h9 => h9) rfl (by decide +kernel) rfl rfl dX9_readWindow_316 (fun H locs hP hD hS => ?_)
                have hP : va_P D vwCl [(mm, .inr (9, fl 78 (va_up gj_G12 43 (.int (nI n))))), (Mtab, .inl (cB, 1536, .inl mtab)), (Mnears, .inl (cJ, 8, .inr (.inl mnears))), (Msames, .inl (cJ, 1024, .inr (.inl msames))), (Mout, .inl (cB, 4000, .inl mout)), (MoutFrom, .inl (cI, 4000, .inl moutFrom)), (Msource, .inl (cB, 4000, .inl msource)), (MsourceFrom, .inl (cI, 4000, .inl msourceFrom)), (MdKind, .inl (cI, 4000, .inl mdKind)), (MdSize, .inl (cI, 4000, .inl mdSize)), (MdAddress, .inl (cI, 4000, .inl mdAddress)), (MdMode, .inl (cI, 4000, .inl mdMode)), (MdCode, .inl (cI, 4000, .inl mdCode)), (MdWindow, .inl (cI, 4000, .inl mdWindow)), (Mrows, .inl (cB, 32000, .inl mrows))] H := hP
                have hD : va_D A0 [(mm, .inr (9, fl 78 (va_up gj_G12 43 (.int (nI n))))), (Mtab, .inl (cB, 1536, .inl mtab)), (Mnears, .inl (cJ, 8, .inr (.inl mnears))), (Msames, .inl (cJ, 1024, .inr (.inl msames))), (Mout, .inl (cB, 4000, .inl mout)), (MoutFrom, .inl (cI, 4000, .inl moutFrom)), (Msource, .inl (cB, 4000, .inl msource)), (MsourceFrom, .inl (cI, 4000, .inl msourceFrom)), (MdKind, .inl (cI, 4000, .inl mdKind)), (MdSize, .inl (cI, 4000, .inl mdSize)), (MdAddress, .inl (cI, 4000, .inl mdAddress)), (MdMode, .inl (cI, 4000, .inl mdMode)), (MdCode, .inl (cI, 4000, .inl mdCode)), (MdWindow, .inl (cI, 4000, .inl mdWindow)), (Mrows, .inl (cB, 32000, .inl mrows))] := hD
                refine lv_aload_n hx hb dX9_readWindow_319 rfl (lv_at hl 9 rfl) ?_
                refine lv_lload hx hb dX9_readWindow_320 (lv_at hl 5 rfl) ?_
                refine lv_l2i hx hb dX9_readWindow_322 (v := (lN v_4).toInt32) rfl ?_
                refine ri (y := nI v_4) (lN_i _) ?_
                refine fx_put (D := D) (ci := 9) (v := .int (nI v_4)) (ty := .int) (C := RX9) (T := TX9) (N := 78) hx hb hts in_X9 tyX9 tyX9_ok nmX9 hown hK hP hD hS 0 rfl rfl 44 (by decide) (hts _ kX9_260) (fun _ h9 => h9) rfl (by decide +kernel) rfl rfl dX9_readWindow_323 (fun H locs hP hD hS => ?_)
                have hP : va_P D vwCl [(mm, .inr (9, fl 78 (va_up (va_up gj_G12 43 (.int (nI n))) 44 (.int (nI v_4))))), (Mtab, .inl (cB, 1536, .inl mtab)), (Mnears, .inl (cJ, 8, .inr (.inl mnears))), (Msames, .inl (cJ, 1024, .inr (.inl msames))), (Mout, .inl (cB, 4000, .inl mout)), (MoutFrom, .inl (cI, 4000, .inl moutFrom)), (Msource, .inl (cB, 4000, .inl msource)), (MsourceFrom, .inl (cI, 4000, .inl msourceFrom)), (MdKind, .inl (cI, 4000, .inl mdKind)), (MdSize, .inl (cI, 4000, .inl mdSize)), (MdAddress, .inl (cI, 4000, .inl mdAddress)), (MdMode, .inl (cI, 4000, .inl mdMode)), (MdCode, .inl (cI, 4000, .inl mdCode)), (MdWindow, .inl (cI, 4000, .inl mdWindow)), (Mrows, .inl (cB, 32000, .inl mrows))] H := hP
                have hD : va_D A0 [(mm, .inr (9, fl 78 (va_up (va_up gj_G12 43 (.int (nI n))) 44 (.int (nI v_4))))), (Mtab, .inl (cB, 1536, .inl mtab)), (Mnears, .inl (cJ, 8, .inr (.inl mnears))), (Msames, .inl (cJ, 1024, .inr (.inl msames))), (Mout, .inl (cB, 4000, .inl mout)), (MoutFrom, .inl (cI, 4000, .inl moutFrom)), (Msource, .inl (cB, 4000, .inl msource)), (MsourceFrom, .inl (cI, 4000, .inl msourceFrom)), (MdKind, .inl (cI, 4000, .inl mdKind)), (MdSize, .inl (cI, 4000, .inl mdSize)), (MdAddress, .inl (cI, 4000, .inl mdAddress)), (MdMode, .inl (cI, 4000, .inl mdMode)), (MdCode, .inl (cI, 4000, .inl mdCode)), (MdWindow, .inl (cI, 4000, .inl mdWindow)), (Mrows, .inl (cB, 32000, .inl mrows))] := hD
                refine lv_aload_n hx hb dX9_readWindow_326 rfl (lv_at hl 9 rfl) ?_
                refine lv_aload_n hx hb dX9_readWindow_327 rfl (lv_at hl 9 rfl) ?_
                refine fx_get (D := D) (ci := 9) (v := .int (nI a_10)) (C := RX9) (T := TX9) (N := 78) hx hb hts in_X9 hown hK hP 0 rfl rfl 34 (by decide) (hts _ kX9_185) (fun _ h9 => h9) (k_at_G12) dX9_readWindow_328 ?_
                refine fx_put (D := D) (ci := 9) (v := .int (nI a_10)) (ty := .int) (C := RX9) (T := TX9) (N := 78) hx hb hts in_X9 tyX9 tyX9_ok nmX9 hown hK hP hD hS 0 rfl rfl 45 (by decide) (hts _ kX9_263) (fun _ h9 => h9) rfl (by decide +kernel) rfl rfl dX9_readWindow_331 (fun H locs hP hD hS => ?_)
                have hP : va_P D vwCl [(mm, .inr (9, fl 78 (va_up (va_up (va_up gj_G12 43 (.int (nI n))) 44 (.int (nI v_4))) 45 (.int (nI a_10))))), (Mtab, .inl (cB, 1536, .inl mtab)), (Mnears, .inl (cJ, 8, .inr (.inl mnears))), (Msames, .inl (cJ, 1024, .inr (.inl msames))), (Mout, .inl (cB, 4000, .inl mout)), (MoutFrom, .inl (cI, 4000, .inl moutFrom)), (Msource, .inl (cB, 4000, .inl msource)), (MsourceFrom, .inl (cI, 4000, .inl msourceFrom)), (MdKind, .inl (cI, 4000, .inl mdKind)), (MdSize, .inl (cI, 4000, .inl mdSize)), (MdAddress, .inl (cI, 4000, .inl mdAddress)), (MdMode, .inl (cI, 4000, .inl mdMode)), (MdCode, .inl (cI, 4000, .inl mdCode)), (MdWindow, .inl (cI, 4000, .inl mdWindow)), (Mrows, .inl (cB, 32000, .inl mrows))] H := hP
                have hD : va_D A0 [(mm, .inr (9, fl 78 (va_up (va_up (va_up gj_G12 43 (.int (nI n))) 44 (.int (nI v_4))) 45 (.int (nI a_10))))), (Mtab, .inl (cB, 1536, .inl mtab)), (Mnears, .inl (cJ, 8, .inr (.inl mnears))), (Msames, .inl (cJ, 1024, .inr (.inl msames))), (Mout, .inl (cB, 4000, .inl mout)), (MoutFrom, .inl (cI, 4000, .inl moutFrom)), (Msource, .inl (cB, 4000, .inl msource)), (MsourceFrom, .inl (cI, 4000, .inl msourceFrom)), (MdKind, .inl (cI, 4000, .inl mdKind)), (MdSize, .inl (cI, 4000, .inl mdSize)), (MdAddress, .inl (cI, 4000, .inl mdAddress)), (MdMode, .inl (cI, 4000, .inl mdMode)), (MdCode, .inl (cI, 4000, .inl mdCode)), (MdWindow, .inl (cI, 4000, .inl mdWindow)), (Mrows, .inl (cB, 32000, .inl mrows))] := hD
                refine lv_aload_n hx hb dX9_readWindow_334 rfl (lv_at hl 9 rfl) ?_
                refine lv_aload_n hx hb dX9_readWindow_335 rfl (lv_at hl 9 rfl) ?_
                refine fx_get (D := D) (ci := 9) (v := .int (nI a_10)) (C := RX9) (T := TX9) (N := 78) hx hb hts in_X9 hown hK hP 0 rfl rfl 34 (by decide) (hts _ kX9_185) (fun _ h9 => h9) (k_at_G12) dX9_readWindow_336 ?_
                refine lv_lload hx hb dX9_readWindow_339 (lv_at hl 2 rfl) ?_
                refine lv_l2i hx hb dX9_readWindow_341 (v := (lN v_8).toInt32) rfl ?_
                refine ri (y := nI v_8) (lN_i _) ?_
                refine lv_iadd hx hb dX9_readWindow_342 ?_
                refine ri (y := nI (a_10 + v_8)) (nI_add a_10 v_8) ?_
                refine fx_put (D := D) (ci := 9) (v := .int (nI (a_10 + v_8))) (ty := .int) (C := RX9) (T := TX9) (N := 78) hx hb hts in_X9 tyX9 tyX9_ok nmX9 hown hK hP hD hS 0 rfl rfl 46 (by decide) (hts _ kX9_266) (fun _ h9 => h9) rfl (by decide +kernel) rfl rfl dX9_readWindow_343 (fun H locs hP hD hS => ?_)
                have hP : va_P D vwCl [(mm, .inr (9, fl 78 (va_up (va_up (va_up (va_up gj_G12 43 (.int (nI n))) 44 (.int (nI v_4))) 45 (.int (nI a_10))) 46 (.int (nI (a_10 + v_8)))))), (Mtab, .inl (cB, 1536, .inl mtab)), (Mnears, .inl (cJ, 8, .inr (.inl mnears))), (Msames, .inl (cJ, 1024, .inr (.inl msames))), (Mout, .inl (cB, 4000, .inl mout)), (MoutFrom, .inl (cI, 4000, .inl moutFrom)), (Msource, .inl (cB, 4000, .inl msource)), (MsourceFrom, .inl (cI, 4000, .inl msourceFrom)), (MdKind, .inl (cI, 4000, .inl mdKind)), (MdSize, .inl (cI, 4000, .inl mdSize)), (MdAddress, .inl (cI, 4000, .inl mdAddress)), (MdMode, .inl (cI, 4000, .inl mdMode)), (MdCode, .inl (cI, 4000, .inl mdCode)), (MdWindow, .inl (cI, 4000, .inl mdWindow)), (Mrows, .inl (cB, 32000, .inl mrows))] H := hP
                have hD : va_D A0 [(mm, .inr (9, fl 78 (va_up (va_up (va_up (va_up gj_G12 43 (.int (nI n))) 44 (.int (nI v_4))) 45 (.int (nI a_10))) 46 (.int (nI (a_10 + v_8)))))), (Mtab, .inl (cB, 1536, .inl mtab)), (Mnears, .inl (cJ, 8, .inr (.inl mnears))), (Msames, .inl (cJ, 1024, .inr (.inl msames))), (Mout, .inl (cB, 4000, .inl mout)), (MoutFrom, .inl (cI, 4000, .inl moutFrom)), (Msource, .inl (cB, 4000, .inl msource)), (MsourceFrom, .inl (cI, 4000, .inl msourceFrom)), (MdKind, .inl (cI, 4000, .inl mdKind)), (MdSize, .inl (cI, 4000, .inl mdSize)), (MdAddress, .inl (cI, 4000, .inl mdAddress)), (MdMode, .inl (cI, 4000, .inl mdMode)), (MdCode, .inl (cI, 4000, .inl mdCode)), (MdWindow, .inl (cI, 4000, .inl mdWindow)), (Mrows, .inl (cB, 32000, .inl mrows))] := hD
                refine lv_aload_n hx hb dX9_readWindow_346 rfl (lv_at hl 9 rfl) ?_
                refine lv_aload_n hx hb dX9_readWindow_347 rfl (lv_at hl 9 rfl) ?_
                refine fx_get (D := D) (ci := 9) (v := .int (nI (a_10 + v_8))) (C := RX9) (T := TX9) (N := 78) hx hb hts in_X9 hown hK hP 0 rfl rfl 46 (by decide) (hts _ kX9_266) (fun _ h9 => h9) (rfl) dX9_readWindow_348 ?_
                refine fx_put (D := D) (ci := 9) (v := .int (nI (a_10 + v_8))) (ty := .int) (C := RX9) (T := TX9) (N := 78) hx hb hts in_X9 tyX9 tyX9_ok nmX9 hown hK hP hD hS 0 rfl rfl 47 (by decide) (hts _ kX9_269) (fun _ h9 => h9) rfl (by decide +kernel) rfl rfl dX9_readWindow_351 (fun H locs hP hD hS => ?_)
                have hP : va_P D vwCl [(mm, .inr (9, fl 78 (va_up (va_up (va_up (va_up (va_up gj_G12 43 (.int (nI n))) 44 (.int (nI v_4))) 45 (.int (nI a_10))) 46 (.int (nI (a_10 + v_8)))) 47 (.int (nI (a_10 + v_8)))))), (Mtab, .inl (cB, 1536, .inl mtab)), (Mnears, .inl (cJ, 8, .inr (.inl mnears))), (Msames, .inl (cJ, 1024, .inr (.inl msames))), (Mout, .inl (cB, 4000, .inl mout)), (MoutFrom, .inl (cI, 4000, .inl moutFrom)), (Msource, .inl (cB, 4000, .inl msource)), (MsourceFrom, .inl (cI, 4000, .inl msourceFrom)), (MdKind, .inl (cI, 4000, .inl mdKind)), (MdSize, .inl (cI, 4000, .inl mdSize)), (MdAddress, .inl (cI, 4000, .inl mdAddress)), (MdMode, .inl (cI, 4000, .inl mdMode)), (MdCode, .inl (cI, 4000, .inl mdCode)), (MdWindow, .inl (cI, 4000, .inl mdWindow)), (Mrows, .inl (cB, 32000, .inl mrows))] H := hP
                have hD : va_D A0 [(mm, .inr (9, fl 78 (va_up (va_up (va_up (va_up (va_up gj_G12 43 (.int (nI n))) 44 (.int (nI v_4))) 45 (.int (nI a_10))) 46 (.int (nI (a_10 + v_8)))) 47 (.int (nI (a_10 + v_8)))))), (Mtab, .inl (cB, 1536, .inl mtab)), (Mnears, .inl (cJ, 8, .inr (.inl mnears))), (Msames, .inl (cJ, 1024, .inr (.inl msames))), (Mout, .inl (cB, 4000, .inl mout)), (MoutFrom, .inl (cI, 4000, .inl moutFrom)), (Msource, .inl (cB, 4000, .inl msource)), (MsourceFrom, .inl (cI, 4000, .inl msourceFrom)), (MdKind, .inl (cI, 4000, .inl mdKind)), (MdSize, .inl (cI, 4000, .inl mdSize)), (MdAddress, .inl (cI, 4000, .inl mdAddress)), (MdMode, .inl (cI, 4000, .inl mdMode)), (MdCode, .inl (cI, 4000, .inl mdCode)), (MdWindow, .inl (cI, 4000, .inl mdWindow)), (Mrows, .inl (cB, 32000, .inl mrows))] := hD
                refine lv_aload_n hx hb dX9_readWindow_354 rfl (lv_at hl 9 rfl) ?_
                refine lv_aload_n hx hb dX9_readWindow_355 rfl (lv_at hl 9 rfl) ?_
                refine fx_get (D := D) (ci := 9) (v := .int (nI (a_10 + v_8))) (C := RX9) (T := TX9) (N := 78) hx hb hts in_X9 hown hK hP 0 rfl rfl 47 (by decide) (hts _ kX9_269) (fun _ h9 => h9) (rfl) dX9_readWindow_356 ?_
                refine lv_lload hx hb dX9_readWindow_359 (lv_at hl 1 rfl) ?_
                refine lv_l2i hx hb dX9_readWindow_361 (v := (lN v_9).toInt32) rfl ?_
                refine ri (y := nI v_9) (lN_i _) ?_
                refine lv_iadd hx hb dX9_readWindow_362 ?_
                refine ri (y := nI ((a_10 + v_8) + v_9)) (nI_add (a_10 + v_8) v_9) ?_
                refine fx_put (D := D) (ci := 9) (v := .int (nI ((a_10 + v_8) + v_9))) (ty := .int) (C := RX9) (T := TX9) (N := 78) hx hb hts in_X9 tyX9 tyX9_ok nmX9 hown hK hP hD hS 0 rfl rfl 48 (by decide) (hts _ kX9_272) (fun _ h9 => h9) rfl (by decide +kernel) rfl rfl dX9_readWindow_363 (fun H locs hP hD hS => ?_)
                have hP : va_P D vwCl [(mm, .inr (9, fl 78 (va_up (va_up (va_up (va_up (va_up (va_up gj_G12 43 (.int (nI n))) 44 (.int (nI v_4))) 45 (.int (nI a_10))) 46 (.int (nI (a_10 + v_8)))) 47 (.int (nI (a_10 + v_8)))) 48 (.int (nI ((a_10 + v_8) + v_9)))))), (Mtab, .inl (cB, 1536, .inl mtab)), (Mnears, .inl (cJ, 8, .inr (.inl mnears))), (Msames, .inl (cJ, 1024, .inr (.inl msames))), (Mout, .inl (cB, 4000, .inl mout)), (MoutFrom, .inl (cI, 4000, .inl moutFrom)), (Msource, .inl (cB, 4000, .inl msource)), (MsourceFrom, .inl (cI, 4000, .inl msourceFrom)), (MdKind, .inl (cI, 4000, .inl mdKind)), (MdSize, .inl (cI, 4000, .inl mdSize)), (MdAddress, .inl (cI, 4000, .inl mdAddress)), (MdMode, .inl (cI, 4000, .inl mdMode)), (MdCode, .inl (cI, 4000, .inl mdCode)), (MdWindow, .inl (cI, 4000, .inl mdWindow)), (Mrows, .inl (cB, 32000, .inl mrows))] H := hP
                have hD : va_D A0 [(mm, .inr (9, fl 78 (va_up (va_up (va_up (va_up (va_up (va_up gj_G12 43 (.int (nI n))) 44 (.int (nI v_4))) 45 (.int (nI a_10))) 46 (.int (nI (a_10 + v_8)))) 47 (.int (nI (a_10 + v_8)))) 48 (.int (nI ((a_10 + v_8) + v_9)))))), (Mtab, .inl (cB, 1536, .inl mtab)), (Mnears, .inl (cJ, 8, .inr (.inl mnears))), (Msames, .inl (cJ, 1024, .inr (.inl msames))), (Mout, .inl (cB, 4000, .inl mout)), (MoutFrom, .inl (cI, 4000, .inl moutFrom)), (Msource, .inl (cB, 4000, .inl msource)), (MsourceFrom, .inl (cI, 4000, .inl msourceFrom)), (MdKind, .inl (cI, 4000, .inl mdKind)), (MdSize, .inl (cI, 4000, .inl mdSize)), (MdAddress, .inl (cI, 4000, .inl mdAddress)), (MdMode, .inl (cI, 4000, .inl mdMode)), (MdCode, .inl (cI, 4000, .inl mdCode)), (MdWindow, .inl (cI, 4000, .inl mdWindow)), (Mrows, .inl (cB, 32000, .inl mrows))] := hD
                refine lv_aload_n hx hb dX9_readWindow_366 rfl (lv_at hl 9 rfl) ?_
                refine lv_aload_n hx hb dX9_readWindow_367 rfl (lv_at hl 9 rfl) ?_
                refine fx_get (D := D) (ci := 9) (v := .int (nI ((a_10 + v_8) + v_9))) (C := RX9) (T := TX9) (N := 78) hx hb hts in_X9 hown hK hP 0 rfl rfl 48 (by decide) (hts _ kX9_272) (fun _ h9 => h9) (rfl) dX9_readWindow_368 ?_
                refine fx_put (D := D) (ci := 9) (v := .int (nI ((a_10 + v_8) + v_9))) (ty := .int) (C := RX9) (T := TX9) (N := 78) hx hb hts in_X9 tyX9 tyX9_ok nmX9 hown hK hP hD hS 0 rfl rfl 49 (by decide) (hts _ kX9_275) (fun _ h9 => h9) rfl (by decide +kernel) rfl rfl dX9_readWindow_371 (fun H locs hP hD hS => ?_)
                have hP : va_P D vwCl [(mm, .inr (9, fl 78 (va_up (va_up (va_up (va_up (va_up (va_up (va_up gj_G12 43 (.int (nI n))) 44 (.int (nI v_4))) 45 (.int (nI a_10))) 46 (.int (nI (a_10 + v_8)))) 47 (.int (nI (a_10 + v_8)))) 48 (.int (nI ((a_10 + v_8) + v_9)))) 49 (.int (nI ((a_10 + v_8) + v_9)))))), (Mtab, .inl (cB, 1536, .inl mtab)), (Mnears, .inl (cJ, 8, .inr (.inl mnears))), (Msames, .inl (cJ, 1024, .inr (.inl msames))), (Mout, .inl (cB, 4000, .inl mout)), (MoutFrom, .inl (cI, 4000, .inl moutFrom)), (Msource, .inl (cB, 4000, .inl msource)), (MsourceFrom, .inl (cI, 4000, .inl msourceFrom)), (MdKind, .inl (cI, 4000, .inl mdKind)), (MdSize, .inl (cI, 4000, .inl mdSize)), (MdAddress, .inl (cI, 4000, .inl mdAddress)), (MdMode, .inl (cI, 4000, .inl mdMode)), (MdCode, .inl (cI, 4000, .inl mdCode)), (MdWindow, .inl (cI, 4000, .inl mdWindow)), (Mrows, .inl (cB, 32000, .inl mrows))] H := hP
                have hD : va_D A0 [(mm, .inr (9, fl 78 (va_up (va_up (va_up (va_up (va_up (va_up (va_up gj_G12 43 (.int (nI n))) 44 (.int (nI v_4))) 45 (.int (nI a_10))) 46 (.int (nI (a_10 + v_8)))) 47 (.int (nI (a_10 + v_8)))) 48 (.int (nI ((a_10 + v_8) + v_9)))) 49 (.int (nI ((a_10 + v_8) + v_9)))))), (Mtab, .inl (cB, 1536, .inl mtab)), (Mnears, .inl (cJ, 8, .inr (.inl mnears))), (Msames, .inl (cJ, 1024, .inr (.inl msames))), (Mout, .inl (cB, 4000, .inl mout)), (MoutFrom, .inl (cI, 4000, .inl moutFrom)), (Msource, .inl (cB, 4000, .inl msource)), (MsourceFrom, .inl (cI, 4000, .inl msourceFrom)), (MdKind, .inl (cI, 4000, .inl mdKind)), (MdSize, .inl (cI, 4000, .inl mdSize)), (MdAddress, .inl (cI, 4000, .inl mdAddress)), (MdMode, .inl (cI, 4000, .inl mdMode)), (MdCode, .inl (cI, 4000, .inl mdCode)), (MdWindow, .inl (cI, 4000, .inl mdWindow)), (Mrows, .inl (cB, 32000, .inl mrows))] := hD
                refine lv_aload_n hx hb dX9_readWindow_374 rfl (lv_at hl 9 rfl) ?_
                refine lv_aload_n hx hb dX9_readWindow_375 rfl (lv_at hl 9 rfl) ?_
                refine fx_get (D := D) (ci := 9) (v := .int (nI ((a_10 + v_8) + v_9))) (C := RX9) (T := TX9) (N := 78) hx hb hts in_X9 hown hK hP 0 rfl rfl 49 (by decide) (hts _ kX9_275) (fun _ h9 => h9) (rfl) dX9_readWindow_376 ?_
                refine lv_lload hx hb dX9_readWindow_379 (lv_at hl 0 rfl) ?_
                refine lv_l2i hx hb dX9_readWindow_381 (v := (lN v_10).toInt32) rfl ?_
                refine ri (y := nI v_10) (lN_i _) ?_
                refine lv_iadd hx hb dX9_readWindow_382 ?_
                refine ri (y := nI (((a_10 + v_8) + v_9) + v_10)) (nI_add ((a_10 + v_8) + v_9) v_10) ?_
                refine fx_put (D := D) (ci := 9) (v := .int (nI (((a_10 + v_8) + v_9) + v_10))) (ty := .int) (C := RX9) (T := TX9) (N := 78) hx hb hts in_X9 tyX9 tyX9_ok nmX9 hown hK hP hD hS 0 rfl rfl 50 (by decide) (hts _ kX9_278) (fun _ h9 => h9) rfl (by decide +kernel) rfl rfl dX9_readWindow_383 (fun H locs hP hD hS => ?_)
                have hP : va_P D vwCl [(mm, .inr (9, fl 78 (va_up (va_up (va_up (va_up (va_up (va_up (va_up (va_up gj_G12 43 (.int (nI n))) 44 (.int (nI v_4))) 45 (.int (nI a_10))) 46 (.int (nI (a_10 + v_8)))) 47 (.int (nI (a_10 + v_8)))) 48 (.int (nI ((a_10 + v_8) + v_9)))) 49 (.int (nI ((a_10 + v_8) + v_9)))) 50 (.int (nI (((a_10 + v_8) + v_9) + v_10)))))), (Mtab, .inl (cB, 1536, .inl mtab)), (Mnears, .inl (cJ, 8, .inr (.inl mnears))), (Msames, .inl (cJ, 1024, .inr (.inl msames))), (Mout, .inl (cB, 4000, .inl mout)), (MoutFrom, .inl (cI, 4000, .inl moutFrom)), (Msource, .inl (cB, 4000, .inl msource)), (MsourceFrom, .inl (cI, 4000, .inl msourceFrom)), (MdKind, .inl (cI, 4000, .inl mdKind)), (MdSize, .inl (cI, 4000, .inl mdSize)), (MdAddress, .inl (cI, 4000, .inl mdAddress)), (MdMode, .inl (cI, 4000, .inl mdMode)), (MdCode, .inl (cI, 4000, .inl mdCode)), (MdWindow, .inl (cI, 4000, .inl mdWindow)), (Mrows, .inl (cB, 32000, .inl mrows))] H := hP
                have hD : va_D A0 [(mm, .inr (9, fl 78 (va_up (va_up (va_up (va_up (va_up (va_up (va_up (va_up gj_G12 43 (.int (nI n))) 44 (.int (nI v_4))) 45 (.int (nI a_10))) 46 (.int (nI (a_10 + v_8)))) 47 (.int (nI (a_10 + v_8)))) 48 (.int (nI ((a_10 + v_8) + v_9)))) 49 (.int (nI ((a_10 + v_8) + v_9)))) 50 (.int (nI (((a_10 + v_8) + v_9) + v_10)))))), (Mtab, .inl (cB, 1536, .inl mtab)), (Mnears, .inl (cJ, 8, .inr (.inl mnears))), (Msames, .inl (cJ, 1024, .inr (.inl msames))), (Mout, .inl (cB, 4000, .inl mout)), (MoutFrom, .inl (cI, 4000, .inl moutFrom)), (Msource, .inl (cB, 4000, .inl msource)), (MsourceFrom, .inl (cI, 4000, .inl msourceFrom)), (MdKind, .inl (cI, 4000, .inl mdKind)), (MdSize, .inl (cI, 4000, .inl mdSize)), (MdAddress, .inl (cI, 4000, .inl mdAddress)), (MdMode, .inl (cI, 4000, .inl mdMode)), (MdCode, .inl (cI, 4000, .inl mdCode)), (MdWindow, .inl (cI, 4000, .inl mdWindow)), (Mrows, .inl (cB, 32000, .inl mrows))] := hD
                refine lv_aload_n hx hb dX9_readWindow_386 rfl (lv_at hl 9 rfl) ?_
                refine lv_aload_n hx hb dX9_readWindow_387 rfl (lv_at hl 9 rfl) ?_
                refine fx_get (D := D) (ci := 9) (v := .int (nI (((a_10 + v_8) + v_9) + v_10))) (C := RX9) (T := TX9) (N := 78) hx hb hts in_X9 hown hK hP 0 rfl rfl 50 (by decide) (hts _ kX9_278) (fun _ h9 => h9) (rfl) dX9_readWindow_388 ?_
                refine fx_put (D := D) (ci := 9) (v := .int (nI (((a_10 + v_8) + v_9) + v_10))) (ty := .int) (C := RX9) (T := TX9) (N := 78) hx hb hts in_X9 tyX9 tyX9_ok nmX9 hown hK hP hD hS 0 rfl rfl 34 (by decide) (hts _ kX9_185) (fun _ h9 => h9) rfl (by decide +kernel) rfl rfl dX9_readWindow_391 (fun H locs hP hD hS => ?_)
                have hP : va_P D vwCl [(mm, .inr (9, fl 78 (va_up (va_up (va_up (va_up (va_up (va_up (va_up (va_up (va_up gj_G12 43 (.int (nI n))) 44 (.int (nI v_4))) 45 (.int (nI a_10))) 46 (.int (nI (a_10 + v_8)))) 47 (.int (nI (a_10 + v_8)))) 48 (.int (nI ((a_10 + v_8) + v_9)))) 49 (.int (nI ((a_10 + v_8) + v_9)))) 50 (.int (nI (((a_10 + v_8) + v_9) + v_10)))) 34 (.int (nI (((a_10 + v_8) + v_9) + v_10)))))), (Mtab, .inl (cB, 1536, .inl mtab)), (Mnears, .inl (cJ, 8, .inr (.inl mnears))), (Msames, .inl (cJ, 1024, .inr (.inl msames))), (Mout, .inl (cB, 4000, .inl mout)), (MoutFrom, .inl (cI, 4000, .inl moutFrom)), (Msource, .inl (cB, 4000, .inl msource)), (MsourceFrom, .inl (cI, 4000, .inl msourceFrom)), (MdKind, .inl (cI, 4000, .inl mdKind)), (MdSize, .inl (cI, 4000, .inl mdSize)), (MdAddress, .inl (cI, 4000, .inl mdAddress)), (MdMode, .inl (cI, 4000, .inl mdMode)), (MdCode, .inl (cI, 4000, .inl mdCode)), (MdWindow, .inl (cI, 4000, .inl mdWindow)), (Mrows, .inl (cB, 32000, .inl mrows))] H := hP
                have hD : va_D A0 [(mm, .inr (9, fl 78 (va_up (va_up (va_up (va_up (va_up (va_up (va_up (va_up (va_up gj_G12 43 (.int (nI n))) 44 (.int (nI v_4))) 45 (.int (nI a_10))) 46 (.int (nI (a_10 + v_8)))) 47 (.int (nI (a_10 + v_8)))) 48 (.int (nI ((a_10 + v_8) + v_9)))) 49 (.int (nI ((a_10 + v_8) + v_9)))) 50 (.int (nI (((a_10 + v_8) + v_9) + v_10)))) 34 (.int (nI (((a_10 + v_8) + v_9) + v_10)))))), (Mtab, .inl (cB, 1536, .inl mtab)), (Mnears, .inl (cJ, 8, .inr (.inl mnears))), (Msames, .inl (cJ, 1024, .inr (.inl msames))), (Mout, .inl (cB, 4000, .inl mout)), (MoutFrom, .inl (cI, 4000, .inl moutFrom)), (Msource, .inl (cB, 4000, .inl msource)), (MsourceFrom, .inl (cI, 4000, .inl msourceFrom)), (MdKind, .inl (cI, 4000, .inl mdKind)), (MdSize, .inl (cI, 4000, .inl mdSize)), (MdAddress, .inl (cI, 4000, .inl mdAddress)), (MdMode, .inl (cI, 4000, .inl mdMode)), (MdCode, .inl (cI, 4000, .inl mdCode)), (MdWindow, .inl (cI, 4000, .inl mdWindow)), (Mrows, .inl (cB, 32000, .inl mrows))] := hD
                refine lv_aload_n hx hb dX9_readWindow_394 rfl (lv_at hl 9 rfl) ?_
                refine jn_v (wr := []) hA hP hD hS [0, 14, 1, 2, 3, 4, 5, 6, 7, 8, 9, 10, 11, 12, 13] [] rfl rfl (by decide) (by decide) (rn_V (As := []) (rest := []) ⟨hx, hb, hml, hown, hts⟩ (cvV 0 hts zc_yX9_sections zi_X9 zm_yX9_sections zv_yX9_sections kX9_281 (by decide +kernel) rfl rfl ⟨Nat.le_of_ble_eq_true rfl, Nat.le_of_ble_eq_true rfl⟩) (m_sections l D cI cB cJ cR mm (va_up (va_up (va_up (va_up (va_up (va_up (va_up (va_up (va_up gj_G12 43 (.int (nI n))) 44 (.int (nI v_4))) 45 (.int (nI a_10))) 46 (.int (nI (a_10 + v_8)))) 47 (.int (nI (a_10 + v_8)))) 48 (.int (nI ((a_10 + v_8) + v_9)))) 49 (.int (nI ((a_10 + v_8) + v_9)))) 50 (.int (nI (((a_10 + v_8) + v_9) + v_10)))) 34 (.int (nI (((a_10 + v_8) + v_9) + v_10)))) Mrows Mtab Mnears Msames Mout MoutFrom Msource MsourceFrom MdKind MdSize MdAddress MdMode MdCode MdWindow mrows mtab mnears msames mout moutFrom msource msourceFrom mdKind mdSize mdAddress mdMode mdCode mdWindow bs e (a_10 + v_8) ((a_10 + v_8) + v_9) n n v_4 a_10 (a_10 + v_8) ((a_10 + v_8) + v_9) (((a_10 + v_8) + v_9) + v_10) near same kk zz ff wr dr fu_12 pl_12 sn cnt wn pa b tt sB B G sG gg ct (((a_10 + v_8) + v_9) + v_10) a (rfl) (rfl) (k_partAt_G12) ((hf_G12 33 (by decide)).trans g_base) (k_outSize_G12) (rfl) (rfl) (rfl) (rfl) (rfl) (rfl) ((hf_G12 8 (by decide)).trans g_near) ((hf_G12 9 (by decide)).trans g_same) (kx_9) (k_segmentSize_G12) (k_segmentAt_G12) ((hf_G12 39 (by decide)).trans g_counts) ((hf_G12 38 (by decide)).trans g_windows) (k_drafts_G12) (k_fault_G12) (k_place_G12) (rfl) ((hf_G12 1 (by decide)).trans g_rows) ((hf_G12 7 (by decide)).trans g_tab) ((hf_G12 10 (by decide)).trans g_nears) ((hf_G12 12 (by decide)).trans g_sames) ((hf_G12 30 (by decide)).trans g_out) ((hf_G12 31 (by decide)).trans g_outFrom) ((hf_G12 27 (by decide)).trans g_source) ((hf_G12 28 (by decide)).trans g_sourceFrom) ((hf_G12 21 (by decide)).trans g_dKind) ((hf_G12 22 (by decide)).trans g_dSize) ((hf_G12 23 (by decide)).trans g_dAddress) ((hf_G12 24 (by decide)).trans g_dMode) ((hf_G12 25 (by decide)).trans g_dCode) ((hf_G12 26 (by decide)).trans g_dWindow) (⟨he9, by omega, by omega, by omega⟩) (⟨by omega, by omega, by omega⟩) (hob) (ht) (hrt) (h8) (h4) (ho) (hsr) (hsf) (hsn) (t1) (t2) (Nat.le_refl _) (⟨by omega, by omega⟩) (⟨by rcases Decidable.em (kk = 1) with z | z; have := t1 z; omega; have := t2 z; omega, by rcases Decidable.em (kk = 1) with z | z; have := t1 z; omega; have := t2 z; omega⟩) (t3) (by omega) (hct) (hz) (by omega) H.size) hK hNw hMk hA hP hD hS [0, 14, 1, 2, 3, 4, 5, 6, 7, 8, 9, 10, 11, 12, 13] rfl rfl (by decide) 0 rfl rfl rfl rfl hl.1 rfl (Nat.le_of_ble_eq_true rfl) dX9_readWindow_395 ⟨Nat.le_of_ble_eq_true rfl, Nat.le_of_ble_eq_true rfl⟩) (fun u9 H locs hsec hP hD hS => ?_)
                obtain ⟨g_10, cc9, pa9, n9, da9, av9, nv9, dr9, fu9, pl9, cnt9, xa9, xw9, xn9, B9, G9, gg9, fn9, fs9, o9, of9, dKind9, dSize9, dAddress9, dMode9, dCode9, dWindow9⟩ := u9
                try dsimp only at hsec
                have hP : va_P D vwCl [(mm, .inr (9, fl 78 g_10)), (Mrows, .inl (cB, 32000, .inl mrows)), (Mtab, .inl (cB, 1536, .inl mtab)), (Mnears, .inl (cJ, 8, .inr (.inl fn9))), (Msames, .inl (cJ, 1024, .inr (.inl fs9))), (Mout, .inl (cB, 4000, .inl o9)), (MoutFrom, .inl (cI, 4000, .inl of9)), (Msource, .inl (cB, 4000, .inl msource)), (MsourceFrom, .inl (cI, 4000, .inl msourceFrom)), (MdKind, .inl (cI, 4000, .inl dKind9)), (MdSize, .inl (cI, 4000, .inl dSize9)), (MdAddress, .inl (cI, 4000, .inl dAddress9)), (MdMode, .inl (cI, 4000, .inl dMode9)), (MdCode, .inl (cI, 4000, .inl dCode9)), (MdWindow, .inl (cI, 4000, .inl dWindow9))] H := hP
                have hD : va_D A0 [(mm, .inr (9, fl 78 g_10)), (Mrows, .inl (cB, 32000, .inl mrows)), (Mtab, .inl (cB, 1536, .inl mtab)), (Mnears, .inl (cJ, 8, .inr (.inl fn9))), (Msames, .inl (cJ, 1024, .inr (.inl fs9))), (Mout, .inl (cB, 4000, .inl o9)), (MoutFrom, .inl (cI, 4000, .inl of9)), (Msource, .inl (cB, 4000, .inl msource)), (MsourceFrom, .inl (cI, 4000, .inl msourceFrom)), (MdKind, .inl (cI, 4000, .inl dKind9)), (MdSize, .inl (cI, 4000, .inl dSize9)), (MdAddress, .inl (cI, 4000, .inl dAddress9)), (MdMode, .inl (cI, 4000, .inl dMode9)), (MdCode, .inl (cI, 4000, .inl dCode9)), (MdWindow, .inl (cI, 4000, .inl dWindow9))] := hD
                obtain ⟨f_hsec, codeAt_hsec, partAt_hsec, outSize_hsec, dataAt_hsec, addressAt_hsec, nextNear_hsec, drafts_hsec, fault_hsec, place_hsec, hsec_⟩ := hsec
                have k35_g_10 : g_10 35 = .int (nI e) := (f_hsec 35 (by decide)).trans ((hf_G12 35 (by decide)).trans g_end)
                have k33_g_10 : g_10 33 = .int (nI bs) := (f_hsec 33 (by decide)).trans ((hf_G12 33 (by decide)).trans g_base)
                have k29_g_10 : g_10 29 = .int (nI sn) := (f_hsec 29 (by decide)).trans ((hf_G12 29 (by decide)).trans g_sourceSize)
                have k8_g_10 : g_10 8 = .int (nI near) := (f_hsec 8 (by decide)).trans ((hf_G12 8 (by decide)).trans g_near)
                have k9_g_10 : g_10 9 = .int (nI same) := (f_hsec 9 (by decide)).trans ((hf_G12 9 (by decide)).trans g_same)
                have k39_g_10 : g_10 39 = .int (bI ct) := (f_hsec 39 (by decide)).trans ((hf_G12 39 (by decide)).trans g_counts)
                have k38_g_10 : g_10 38 = .int (nI wr) := (f_hsec 38 (by decide)).trans ((hf_G12 38 (by decide)).trans g_windows)
                have k1_g_10 : g_10 1 = .ref Mrows := (f_hsec 1 (by decide)).trans ((hf_G12 1 (by decide)).trans g_rows)
                have k7_g_10 : g_10 7 = .ref Mtab := (f_hsec 7 (by decide)).trans ((hf_G12 7 (by decide)).trans g_tab)
                have k10_g_10 : g_10 10 = .ref Mnears := (f_hsec 10 (by decide)).trans ((hf_G12 10 (by decide)).trans g_nears)
                have k12_g_10 : g_10 12 = .ref Msames := (f_hsec 12 (by decide)).trans ((hf_G12 12 (by decide)).trans g_sames)
                have k30_g_10 : g_10 30 = .ref Mout := (f_hsec 30 (by decide)).trans ((hf_G12 30 (by decide)).trans g_out)
                have k31_g_10 : g_10 31 = .ref MoutFrom := (f_hsec 31 (by decide)).trans ((hf_G12 31 (by decide)).trans g_outFrom)
                have k27_g_10 : g_10 27 = .ref Msource := (f_hsec 27 (by decide)).trans ((hf_G12 27 (by decide)).trans g_source)
                have k28_g_10 : g_10 28 = .ref MsourceFrom := (f_hsec 28 (by decide)).trans ((hf_G12 28 (by decide)).trans g_sourceFrom)
                have k21_g_10 : g_10 21 = .ref MdKind := (f_hsec 21 (by decide)).trans ((hf_G12 21 (by decide)).trans g_dKind)
                have k22_g_10 : g_10 22 = .ref MdSize := (f_hsec 22 (by decide)).trans ((hf_G12 22 (by decide)).trans g_dSize)
                have k23_g_10 : g_10 23 = .ref MdAddress := (f_hsec 23 (by decide)).trans ((hf_G12 23 (by decide)).trans g_dAddress)
                have k24_g_10 : g_10 24 = .ref MdMode := (f_hsec 24 (by decide)).trans ((hf_G12 24 (by decide)).trans g_dMode)
                have k25_g_10 : g_10 25 = .ref MdCode := (f_hsec 25 (by decide)).trans ((hf_G12 25 (by decide)).trans g_dCode)
                have k26_g_10 : g_10 26 = .ref MdWindow := (f_hsec 26 (by decide)).trans ((hf_G12 26 (by decide)).trans g_dWindow)
                have k40_g_10 : g_10 40 = .int (nI kk) := (f_hsec 40 (by decide)).trans (kx_9)
                have k41_g_10 : g_10 41 = .int (nI zz) := (f_hsec 41 (by decide)).trans (k_segmentSize_G12)
                have k42_g_10 : g_10 42 = .int (nI ff) := (f_hsec 42 (by decide)).trans (k_segmentAt_G12)
                have k34_g_10 : g_10 34 = .int (nI (((a_10 + v_8) + v_9) + v_10)) := (f_hsec 34 (by decide)).trans (rfl)
                have k43_g_10 : g_10 43 = .int (nI n) := (f_hsec 43 (by decide)).trans (rfl)
                have k44_g_10 : g_10 44 = .int (nI v_4) := (f_hsec 44 (by decide)).trans (rfl)
                have k46_g_10 : g_10 46 = .int (nI (a_10 + v_8)) := (f_hsec 46 (by decide)).trans (rfl)
                have k48_g_10 : g_10 48 = .int (nI ((a_10 + v_8) + v_9)) := (f_hsec 48 (by decide)).trans (rfl)
                have k50_g_10 : g_10 50 = .int (nI (((a_10 + v_8) + v_9) + v_10)) := (f_hsec 50 (by decide)).trans (rfl)
                have fr_g_10 : frm [34, 32, 20, 36, 37, 51, 40, 41, 42, 43, 44, 45, 46, 47, 48, 49, 50, 11] g g_10 := frm_tr (frm_up (frm_up (frm_up (frm_up (frm_up (frm_up (frm_up (frm_up (frm_up hf_G12 (by decide)) (by decide)) (by decide)) (by decide)) (by decide)) (by decide)) (by decide)) (by decide)) (by decide)) f_hsec (by decide)
                obtain ⟨c1, c2, c3, c4, c5, c6, c7⟩ := hsec_
                have hplz : pl_12 = pl := by have q1 := okR_Siz (b := b) (e := e) (rm := 4000 - n) (s := (fm, pm, am)); rw [hSz] at q1; have q2 := okR_Seg (b := b) (e := e) (sn := sn) (mn := n) (s := (fu, pl, a)); rw [hsg] at q2; exact (q1 hz).2.trans (q2 hzm).2
                have hdif : a_10 + v_8 + v_9 - (a_10 + v_8) = v_9 := by omega
                rw [hdif, hplz] at c1
                rw [hdif] at c7
                exact hret 398 ls _ _ (g_10, a_10 + v_8 + v_9 + v_10, n9, dr9, fu9, pl9, pa9, cnt9, xa9, xw9, xn9, B9, G9, gg9, fn9, fs9, o9, of9, dKind9, dSize9, dAddress9, dMode9, dCode9, dWindow9) dX9_readWindow_398 hP hD hS (⟨fr_g_10, k34_g_10, outSize_hsec, drafts_hsec, fault_hsec, place_hsec, partAt_hsec, ⟨by rw [hwd]; exact c1, fun z => ⟨(c2 z).2.2.1.symm, (c2 z).1, (c2 z).2.1, (c2 z).2.2.2, by have := (c2 z).2.2.1; omega⟩, fun _ => Or.inl (by omega), c3, c4, c5, c6, by omega, by omega⟩⟩)
              · have hz : ¬ fu_12 = 0 := fun z => c_8 (by rw [z]; decide)
                rw [if_pos hz] at hwd
                have hP := hP.sub (ws' := [(mm, .inr (9, fl 78 gj_G12)), (Mrows, .inl (cB, 32000, .inl mrows)), (Mtab, .inl (cB, 1536, .inl mtab)), (Mnears, .inl (cJ, 8, .inr (.inl mnears))), (Msames, .inl (cJ, 1024, .inr (.inl msames))), (Mout, .inl (cB, 4000, .inl mout)), (MoutFrom, .inl (cI, 4000, .inl moutFrom)), (Msource, .inl (cB, 4000, .inl msource)), (MsourceFrom, .inl (cI, 4000, .inl msourceFrom)), (MdKind, .inl (cI, 4000, .inl mdKind)), (MdSize, .inl (cI, 4000, .inl mdSize)), (MdAddress, .inl (cI, 4000, .inl mdAddress)), (MdMode, .inl (cI, 4000, .inl mdMode)), (MdCode, .inl (cI, 4000, .inl mdCode)), (MdWindow, .inl (cI, 4000, .inl mdWindow))]) [0, 14, 1, 2, 3, 4, 5, 6, 7, 8, 9, 10, 11, 12, 13] rfl
                have hD := hD.sub (ws' := [(mm, .inr (9, fl 78 gj_G12)), (Mrows, .inl (cB, 32000, .inl mrows)), (Mtab, .inl (cB, 1536, .inl mtab)), (Mnears, .inl (cJ, 8, .inr (.inl mnears))), (Msames, .inl (cJ, 1024, .inr (.inl msames))), (Mout, .inl (cB, 4000, .inl mout)), (MoutFrom, .inl (cI, 4000, .inl moutFrom)), (Msource, .inl (cB, 4000, .inl msource)), (MsourceFrom, .inl (cI, 4000, .inl msourceFrom)), (MdKind, .inl (cI, 4000, .inl mdKind)), (MdSize, .inl (cI, 4000, .inl mdSize)), (MdAddress, .inl (cI, 4000, .inl mdAddress)), (MdMode, .inl (cI, 4000, .inl mdMode)), (MdCode, .inl (cI, 4000, .inl mdCode)), (MdWindow, .inl (cI, 4000, .inl mdWindow))]) [0, 14, 1, 2, 3, 4, 5, 6, 7, 8, 9, 10, 11, 12, 13] (by decide) rfl
                exact hret 310 ls _ _ (gj_G12, a_10, n, dr, fu_12, pl_12, pa, cnt, a, wn, n, B, G, gg, mnears, msames, mout, moutFrom, mdKind, mdSize, mdAddress, mdMode, mdCode, mdWindow) dX9_readWindow_310 hP hD hS (⟨hf_G12, k_at_G12, k_outSize_G12, k_drafts_G12, k_fault_G12, k_place_G12, k_partAt_G12, ⟨hwd, fun z => absurd z hz, fun _ => Or.inr hz, fun z => ⟨(hct z).1, (hct z).2.2⟩, fun _ => rfl, hn4, hf_12, ha_10, by omega⟩⟩)
            refine lv_aload_n hx hb dX9_readWindow_265 rfl (lv_at hl 9 rfl) ?_
            refine fx_get (D := D) (ci := 9) (v := .int (nI fu_11)) (C := RX9) (T := TX9) (N := 78) hx hb hts in_X9 hown hK hP 0 rfl rfl 36 (by decide) (hts _ kX9_179) (fun _ h9 => h9) (k_fault_G11) dX9_readWindow_266 ?_
            refine lv_if_ne (tgt := 303) hx hb dX9_readWindow_269 (by decide) (fun c_12 => ?_) (fun c_12 => ?_)
            · have hz : ¬ fu_11 = 0 := fun z => c_12 (by rw [z]; decide)
              exact G12 gj_G11 fu_11 pl_11 _ _ ls (hf_G11) (k_segment_G11) (k_segmentSize_G11) (k_segmentAt_G11) (k_outSize_G11) (k_drafts_G11) (k_partAt_G11) (k_fault_G11) (k_place_G11) (k_at_G11) (flI_st hz) (hf_11) hP hD hS (lv_sub hl [0, 1, 2, 3, 4, 5, 6, 7, 8, 9] rfl)
            · have hz_12 : fu_11 = 0 := Decidable.byContradiction (fun z => nI_ne0 (Nat.pos_of_ne_zero z) hf_11 c_12)
              have e9 := hr_8 (bk_9 (bk_10 (bk_11 hz_12)))
              have e11 := hr_9 (bk_10 (bk_11 hz_12))
              have e13 := hr_10 (bk_11 hz_12)
              subst e9
              subst e11
              subst e13
              refine lv_lload hx hb dX9_readWindow_272 (lv_at hl 2 rfl) ?_
              refine lv_lload hx hb dX9_readWindow_274 (lv_at hl 1 rfl) ?_
              refine lv_ladd hx hb dX9_readWindow_276 ?_
              refine rl (y := lN (v_8 + v_9)) (lN_add _ _) ?_
              refine lv_lload hx hb dX9_readWindow_277 (lv_at hl 0 rfl) ?_
              refine lv_ladd hx hb dX9_readWindow_279 ?_
              refine rl (y := lN (v_8 + v_9 + v_10)) (lN_add _ _) ?_
              refine lv_aload_n hx hb dX9_readWindow_280 rfl (lv_at hl 9 rfl) ?_
              refine fx_get (D := D) (ci := 9) (v := .int (nI e)) (C := RX9) (T := TX9) (N := 78) hx hb hts in_X9 hown hK hP 0 rfl rfl 35 (by decide) (hts _ kX9_188) (fun _ h9 => h9) ((hf_G11 35 (by decide)).trans g_end) dX9_readWindow_281 ?_
              refine lv_aload_n hx hb dX9_readWindow_284 rfl (lv_at hl 9 rfl) ?_
              refine fx_get (D := D) (ci := 9) (v := .int (nI a_10)) (C := RX9) (T := TX9) (N := 78) hx hb hts in_X9 hown hK hP 0 rfl rfl 34 (by decide) (hts _ kX9_185) (fun _ h9 => h9) (k_at_G11) dX9_readWindow_285 ?_
              refine lv_isub hx hb dX9_readWindow_288 ?_
              refine ri (y := nI (e - a_10)) (pk_sub (by omega)) ?_
              refine lv_i2l hx hb dX9_readWindow_289 (v := (nI (e - a_10)).toInt64) rfl ?_
              refine rl (y := lN (e - a_10)) (nI_l (by omega)) ?_
              refine W.lcmp hx hb dX9_readWindow_290 ?_
              refine lv_if_le (tgt := 303) hx hb dX9_readWindow_291 (by decide) (fun c_13 => ?_) (fun c_13 => ?_)
              · exact G12 gj_G11 fu_11 pl_11 _ _ ls (hf_G11) (k_segment_G11) (k_segmentSize_G11) (k_segmentAt_G11) (k_outSize_G11) (k_drafts_G11) (k_partAt_G11) (k_fault_G11) (k_place_G11) (k_at_G11) (by rw [flI, if_neg (fun z => absurd z.1 (Nat.not_lt.mpr ((pk_lLE (by omega) (by omega)).mp ((lg_cmp_le _ _).mp c_13))))]) (hf_11) hP hD hS (lv_sub hl [0, 1, 2, 3, 4, 5, 6, 7, 8, 9] rfl)
              · have hcd_12 : e - a_10 < (v_8 + v_9 + v_10) := Nat.not_le.mp (fun w => c_13 ((lg_cmp_le _ _).mpr ((pk_lLE (by omega) (by omega)).mpr w)))
                refine lv_aload_n hx hb dX9_readWindow_294 rfl (lv_at hl 9 rfl) ?_
                refine lv_iconst (v := 1) hx hb dX9_readWindow_295 (by decide) ?_
                refine ri (y := nI 1) (rfl) ?_
                refine lv_aload_n hx hb dX9_readWindow_296 rfl (lv_at hl 9 rfl) ?_
                refine fx_get (D := D) (ci := 9) (v := .int (nI e)) (C := RX9) (T := TX9) (N := 78) hx hb hts in_X9 hown hK hP 0 rfl rfl 35 (by decide) (hts _ kX9_188) (fun _ h9 => h9) ((hf_G11 35 (by decide)).trans g_end) dX9_readWindow_297 ?_
                refine jn_v (wr := [(Mtab, .inl (cB, 1536, .inl mtab)), (Mnears, .inl (cJ, 8, .inr (.inl mnears))), (Msames, .inl (cJ, 1024, .inr (.inl msames))), (Mout, .inl (cB, 4000, .inl mout)), (MoutFrom, .inl (cI, 4000, .inl moutFrom)), (Msource, .inl (cB, 4000, .inl msource)), (MsourceFrom, .inl (cI, 4000, .inl msourceFrom)), (MdKind, .inl (cI, 4000, .inl mdKind)), (MdSize, .inl (cI, 4000, .inl mdSize)), (MdAddress, .inl (cI, 4000, .inl mdAddress)), (MdMode, .inl (cI, 4000, .inl mdMode)), (MdCode, .inl (cI, 4000, .inl mdCode)), (MdWindow, .inl (cI, 4000, .inl mdWindow)), (Mrows, .inl (cB, 32000, .inl mrows))]) hA hP hD hS [0] [1, 2, 3, 4, 5, 6, 7, 8, 9, 10, 11, 12, 13, 14] rfl rfl (by decide) (by decide) (rn_V (As := [.int (nI 1), .int (nI e)]) (rest := []) ⟨hx, hb, hml, hown, hts⟩ (cvV 2 hts zc_yX9_fail zi_X9 zm_yX9_fail zv_yX9_fail kX9_191 (by decide +kernel) rfl rfl ⟨Nat.le_of_ble_eq_true rfl, Nat.le_of_ble_eq_true rfl⟩) (m_fail l D cI cB cJ cR mm gj_G11 fu_11 pl_11 1 e (k_fault_G11) (k_place_G11) (hf_11) H.size) hK hNw hMk hA hP hD hS [0] rfl rfl (by decide) 0 rfl rfl rfl rfl hl.1 rfl (Nat.le_of_ble_eq_true rfl) dX9_readWindow_300 ⟨Nat.le_of_ble_eq_true rfl, Nat.le_of_ble_eq_true rfl⟩) (fun u9 H locs w_14 hP hD hS => ?_)
                obtain ⟨g_15, fu2_16, pl2_17⟩ := u9
                try dsimp only at w_14
                have hP : va_P D vwCl [(Mtab, .inl (cB, 1536, .inl mtab)), (Mnears, .inl (cJ, 8, .inr (.inl mnears))), (Msames, .inl (cJ, 1024, .inr (.inl msames))), (Mout, .inl (cB, 4000, .inl mout)), (MoutFrom, .inl (cI, 4000, .inl moutFrom)), (Msource, .inl (cB, 4000, .inl msource)), (MsourceFrom, .inl (cI, 4000, .inl msourceFrom)), (MdKind, .inl (cI, 4000, .inl mdKind)), (MdSize, .inl (cI, 4000, .inl mdSize)), (MdAddress, .inl (cI, 4000, .inl mdAddress)), (MdMode, .inl (cI, 4000, .inl mdMode)), (MdCode, .inl (cI, 4000, .inl mdCode)), (MdWindow, .inl (cI, 4000, .inl mdWindow)), (Mrows, .inl (cB, 32000, .inl mrows)), (mm, .inr (9, fl 78 g_15))] H := hP
                have hD : va_D A0 [(Mtab, .inl (cB, 1536, .inl mtab)), (Mnears, .inl (cJ, 8, .inr (.inl mnears))), (Msames, .inl (cJ, 1024, .inr (.inl msames))), (Mout, .inl (cB, 4000, .inl mout)), (MoutFrom, .inl (cI, 4000, .inl moutFrom)), (Msource, .inl (cB, 4000, .inl msource)), (MsourceFrom, .inl (cI, 4000, .inl msourceFrom)), (MdKind, .inl (cI, 4000, .inl mdKind)), (MdSize, .inl (cI, 4000, .inl mdSize)), (MdAddress, .inl (cI, 4000, .inl mdAddress)), (MdMode, .inl (cI, 4000, .inl mdMode)), (MdCode, .inl (cI, 4000, .inl mdCode)), (MdWindow, .inl (cI, 4000, .inl mdWindow)), (Mrows, .inl (cB, 32000, .inl mrows)), (mm, .inr (9, fl 78 g_15))] := hD
                obtain ⟨f_w_14, fault_w_14, place_w_14, w_14_⟩ := w_14
                have k35_g_15 : g_15 35 = .int (nI e) := (f_w_14 35 (by decide)).trans ((hf_G11 35 (by decide)).trans g_end)
                have k33_g_15 : g_15 33 = .int (nI bs) := (f_w_14 33 (by decide)).trans ((hf_G11 33 (by decide)).trans g_base)
                have k29_g_15 : g_15 29 = .int (nI sn) := (f_w_14 29 (by decide)).trans ((hf_G11 29 (by decide)).trans g_sourceSize)
                have k8_g_15 : g_15 8 = .int (nI near) := (f_w_14 8 (by decide)).trans ((hf_G11 8 (by decide)).trans g_near)
                have k9_g_15 : g_15 9 = .int (nI same) := (f_w_14 9 (by decide)).trans ((hf_G11 9 (by decide)).trans g_same)
                have k39_g_15 : g_15 39 = .int (bI ct) := (f_w_14 39 (by decide)).trans ((hf_G11 39 (by decide)).trans g_counts)
                have k38_g_15 : g_15 38 = .int (nI wr) := (f_w_14 38 (by decide)).trans ((hf_G11 38 (by decide)).trans g_windows)
                have k1_g_15 : g_15 1 = .ref Mrows := (f_w_14 1 (by decide)).trans ((hf_G11 1 (by decide)).trans g_rows)
                have k7_g_15 : g_15 7 = .ref Mtab := (f_w_14 7 (by decide)).trans ((hf_G11 7 (by decide)).trans g_tab)
                have k10_g_15 : g_15 10 = .ref Mnears := (f_w_14 10 (by decide)).trans ((hf_G11 10 (by decide)).trans g_nears)
                have k12_g_15 : g_15 12 = .ref Msames := (f_w_14 12 (by decide)).trans ((hf_G11 12 (by decide)).trans g_sames)
                have k30_g_15 : g_15 30 = .ref Mout := (f_w_14 30 (by decide)).trans ((hf_G11 30 (by decide)).trans g_out)
                have k31_g_15 : g_15 31 = .ref MoutFrom := (f_w_14 31 (by decide)).trans ((hf_G11 31 (by decide)).trans g_outFrom)
                have k27_g_15 : g_15 27 = .ref Msource := (f_w_14 27 (by decide)).trans ((hf_G11 27 (by decide)).trans g_source)
                have k28_g_15 : g_15 28 = .ref MsourceFrom := (f_w_14 28 (by decide)).trans ((hf_G11 28 (by decide)).trans g_sourceFrom)
                have k21_g_15 : g_15 21 = .ref MdKind := (f_w_14 21 (by decide)).trans ((hf_G11 21 (by decide)).trans g_dKind)
                have k22_g_15 : g_15 22 = .ref MdSize := (f_w_14 22 (by decide)).trans ((hf_G11 22 (by decide)).trans g_dSize)
                have k23_g_15 : g_15 23 = .ref MdAddress := (f_w_14 23 (by decide)).trans ((hf_G11 23 (by decide)).trans g_dAddress)
                have k24_g_15 : g_15 24 = .ref MdMode := (f_w_14 24 (by decide)).trans ((hf_G11 24 (by decide)).trans g_dMode)
                have k25_g_15 : g_15 25 = .ref MdCode := (f_w_14 25 (by decide)).trans ((hf_G11 25 (by decide)).trans g_dCode)
                have k26_g_15 : g_15 26 = .ref MdWindow := (f_w_14 26 (by decide)).trans ((hf_G11 26 (by decide)).trans g_dWindow)
                have k40_g_15 : g_15 40 = .int (nI v_1) := (f_w_14 40 (by decide)).trans (k_segment_G11)
                have k41_g_15 : g_15 41 = .int zv := (f_w_14 41 (by decide)).trans (k_segmentSize_G11)
                have k42_g_15 : g_15 42 = .int fv := (f_w_14 42 (by decide)).trans (k_segmentAt_G11)
                have k32_g_15 : g_15 32 = .int (nI n) := (f_w_14 32 (by decide)).trans (k_outSize_G11)
                have k20_g_15 : g_15 20 = .int (nI dr) := (f_w_14 20 (by decide)).trans (k_drafts_G11)
                have k51_g_15 : g_15 51 = .int pa := (f_w_14 51 (by decide)).trans (k_partAt_G11)
                have k34_g_15 : g_15 34 = .int (nI a_10) := (f_w_14 34 (by decide)).trans (k_at_G11)
                have fr_g_15 : frm [34, 32, 20, 36, 37, 51, 40, 41, 42, 43, 44, 45, 46, 47, 48, 49, 50, 11] g g_15 := frm_tr hf_G11 f_w_14 (by decide)
                rw [if_pos hz_12] at w_14_
                obtain ⟨x1, x2⟩ := Prod.mk.inj w_14_
                exact G12 g_15 fu2_16 pl2_17 _ _ ls (fr_g_15) (k40_g_15) (k41_g_15) (k42_g_15) (k32_g_15) (k20_g_15) (k51_g_15) (fault_w_14) (place_w_14) (k34_g_15) (by rw [flI, if_pos ⟨hcd_12, hz_12⟩, x1, x2]) (by rw [x1]; decide) (hP.sub [14, 0, 1, 2, 3, 4, 5, 6, 7, 8, 9, 10, 11, 12, 13] rfl) (hD.sub [14, 0, 1, 2, 3, 4, 5, 6, 7, 8, 9, 10, 11, 12, 13] (by decide) rfl) hS (lv_sub hl [0, 1, 2, 3, 4, 5, 6, 7, 8, 9] rfl)
          refine lv_aload_n hx hb dX9_readWindow_229 rfl (lv_at hl 9 rfl) ?_
          refine fx_get (D := D) (ci := 9) (v := .int (nI fu_10)) (C := RX9) (T := TX9) (N := 78) hx hb hts in_X9 hown hK hP 13 rfl rfl 36 (by decide) (hts _ kX9_179) (fun _ h9 => h9) (fault_ht_10) dX9_readWindow_230 ?_
          refine lv_if_ne (tgt := 265) hx hb dX9_readWindow_233 (by decide) (fun c_19 => ?_) (fun c_19 => ?_)
          · have hz : ¬ fu_10 = 0 := fun z => c_19 (by rw [z]; decide)
            exact G11 g_7 fu_10 pl_10 _ _ ls (fr_g_7) (k40_g_7) (k41_g_7) (k42_g_7) (k32_g_7) (k20_g_7) (k51_g_7) (fault_ht_10) (place_ht_10) (at_ht_10) (flI_st hz) (hf_10) (hP.sub [13, 0, 1, 2, 3, 4, 5, 6, 7, 8, 9, 10, 11, 12, 14] rfl) (hD.sub [13, 0, 1, 2, 3, 4, 5, 6, 7, 8, 9, 10, 11, 12, 14] (by decide) rfl) hS (lv_sub hl [0, 1, 2, 3, 4, 5, 6, 7, 8, 9] rfl)
          · have hz_11 : fu_10 = 0 := Decidable.byContradiction (fun z => nI_ne0 (Nat.pos_of_ne_zero z) hf_10 c_19)
            have e3 := hr_3 (bk_4 (bk_5 (bk_6 (bk_7 (bk_8 (bk_9 (bk_10 hz_11)))))))
            have e9 := hr_8 (bk_9 (bk_10 hz_11))
            have e11 := hr_9 (bk_10 hz_11)
            have e13 := hr_10 hz_11
            subst e3
            subst e9
            subst e11
            subst e13
            refine lv_lload_n hx hb dX9_readWindow_236 rfl (lv_at hl 7 rfl) ?_
            refine lv_aload_n hx hb dX9_readWindow_237 rfl (lv_at hl 9 rfl) ?_
            refine fx_get (D := D) (ci := 9) (v := .int (nI a_10)) (C := RX9) (T := TX9) (N := 78) hx hb hts in_X9 hown hK hP 13 rfl rfl 34 (by decide) (hts _ kX9_185) (fun _ h9 => h9) (at_ht_10) dX9_readWindow_238 ?_
            refine lv_iload hx hb dX9_readWindow_241 (lv_at hl 6 rfl) ?_
            refine lv_isub hx hb dX9_readWindow_243 ?_
            refine ri (y := nI (a_10 - a_3)) (pk_sub (by omega)) ?_
            refine lv_i2l hx hb dX9_readWindow_244 (v := (nI (a_10 - a_3)).toInt64) rfl ?_
            refine rl (y := lN (a_10 - a_3)) (nI_l (by omega)) ?_
            refine lv_lload hx hb dX9_readWindow_245 (lv_at hl 2 rfl) ?_
            refine lv_ladd hx hb dX9_readWindow_247 ?_
            refine rl (y := lN (a_10 - a_3 + v_8)) (lN_add _ _) ?_
            refine lv_lload hx hb dX9_readWindow_248 (lv_at hl 1 rfl) ?_
            refine lv_ladd hx hb dX9_readWindow_250 ?_
            refine rl (y := lN (a_10 - a_3 + v_8 + v_9)) (lN_add _ _) ?_
            refine lv_lload hx hb dX9_readWindow_251 (lv_at hl 0 rfl) ?_
            refine lv_ladd hx hb dX9_readWindow_253 ?_
            refine rl (y := lN (a_10 - a_3 + v_8 + v_9 + v_10)) (lN_add _ _) ?_
            refine W.lcmp hx hb dX9_readWindow_254 ?_
            refine lv_if_eq (tgt := 265) hx hb dX9_readWindow_255 (by decide) (fun c_20 => ?_) (fun c_20 => ?_)
            · exact G11 g_7 fu_10 pl_10 _ _ ls (fr_g_7) (k40_g_7) (k41_g_7) (k42_g_7) (k32_g_7) (k20_g_7) (k51_g_7) (fault_ht_10) (place_ht_10) (at_ht_10) (by rw [flI, if_neg (fun z => absurd z.1 (fun z => z (by have := (pk_lEQ (by omega) (by omega)).mp ((lg_cmp_eq _ _).mp c_20); omega)))]) (hf_10) (hP.sub [13, 0, 1, 2, 3, 4, 5, 6, 7, 8, 9, 10, 11, 12, 14] rfl) (hD.sub [13, 0, 1, 2, 3, 4, 5, 6, 7, 8, 9, 10, 11, 12, 14] (by decide) rfl) hS (lv_sub hl [0, 1, 2, 3, 4, 5, 6, 7, 8, 9] rfl)
            · have hcd_11 : ¬ v_3 = a_10 - a_3 + (v_8 + v_9 + v_10) := fun z => c_20 ((lg_cmp_eq _ _).mpr ((pk_lEQ (by omega) (by omega)).mpr (by omega)))
              refine lv_aload_n hx hb dX9_readWindow_258 rfl (lv_at hl 9 rfl) ?_
              refine lv_bipush (v := 8) hx hb dX9_readWindow_259 (by decide) ?_
              refine ri (y := nI 8) (rfl) ?_
              refine lv_iload_n hx hb dX9_readWindow_261 rfl (lv_at hl 8 rfl) ?_
              refine jn_v (wr := [(Mtab, .inl (cB, 1536, .inl mtab)), (Mnears, .inl (cJ, 8, .inr (.inl mnears))), (Msames, .inl (cJ, 1024, .inr (.inl msames))), (Mout, .inl (cB, 4000, .inl mout)), (MoutFrom, .inl (cI, 4000, .inl moutFrom)), (Msource, .inl (cB, 4000, .inl msource)), (MsourceFrom, .inl (cI, 4000, .inl msourceFrom)), (MdKind, .inl (cI, 4000, .inl mdKind)), (MdSize, .inl (cI, 4000, .inl mdSize)), (MdAddress, .inl (cI, 4000, .inl mdAddress)), (MdMode, .inl (cI, 4000, .inl mdMode)), (MdCode, .inl (cI, 4000, .inl mdCode)), (MdWindow, .inl (cI, 4000, .inl mdWindow)), (Mrows, .inl (cB, 32000, .inl mrows))]) hA hP hD hS [13] [0, 1, 2, 3, 4, 5, 6, 7, 8, 9, 10, 11, 12, 14] rfl rfl (by decide) (by decide) (rn_V (As := [.int (nI 8), .int (nI am)]) (rest := []) ⟨hx, hb, hml, hown, hts⟩ (cvV 2 hts zc_yX9_fail zi_X9 zm_yX9_fail zv_yX9_fail kX9_191 (by decide +kernel) rfl rfl ⟨Nat.le_of_ble_eq_true rfl, Nat.le_of_ble_eq_true rfl⟩) (m_fail l D cI cB cJ cR mm g_7 fu_10 pl_10 8 am (fault_ht_10) (place_ht_10) (hf_10) H.size) hK hNw hMk hA hP hD hS [13] rfl rfl (by decide) 0 rfl rfl rfl rfl hl.1 rfl (Nat.le_of_ble_eq_true rfl) dX9_readWindow_262 ⟨Nat.le_of_ble_eq_true rfl, Nat.le_of_ble_eq_true rfl⟩) (fun u9 H locs w_21 hP hD hS => ?_)
              obtain ⟨g_22, fu2_23, pl2_24⟩ := u9
              try dsimp only at w_21
              have hP : va_P D vwCl [(Mtab, .inl (cB, 1536, .inl mtab)), (Mnears, .inl (cJ, 8, .inr (.inl mnears))), (Msames, .inl (cJ, 1024, .inr (.inl msames))), (Mout, .inl (cB, 4000, .inl mout)), (MoutFrom, .inl (cI, 4000, .inl moutFrom)), (Msource, .inl (cB, 4000, .inl msource)), (MsourceFrom, .inl (cI, 4000, .inl msourceFrom)), (MdKind, .inl (cI, 4000, .inl mdKind)), (MdSize, .inl (cI, 4000, .inl mdSize)), (MdAddress, .inl (cI, 4000, .inl mdAddress)), (MdMode, .inl (cI, 4000, .inl mdMode)), (MdCode, .inl (cI, 4000, .inl mdCode)), (MdWindow, .inl (cI, 4000, .inl mdWindow)), (Mrows, .inl (cB, 32000, .inl mrows)), (mm, .inr (9, fl 78 g_22))] H := hP
              have hD : va_D A0 [(Mtab, .inl (cB, 1536, .inl mtab)), (Mnears, .inl (cJ, 8, .inr (.inl mnears))), (Msames, .inl (cJ, 1024, .inr (.inl msames))), (Mout, .inl (cB, 4000, .inl mout)), (MoutFrom, .inl (cI, 4000, .inl moutFrom)), (Msource, .inl (cB, 4000, .inl msource)), (MsourceFrom, .inl (cI, 4000, .inl msourceFrom)), (MdKind, .inl (cI, 4000, .inl mdKind)), (MdSize, .inl (cI, 4000, .inl mdSize)), (MdAddress, .inl (cI, 4000, .inl mdAddress)), (MdMode, .inl (cI, 4000, .inl mdMode)), (MdCode, .inl (cI, 4000, .inl mdCode)), (MdWindow, .inl (cI, 4000, .inl mdWindow)), (Mrows, .inl (cB, 32000, .inl mrows)), (mm, .inr (9, fl 78 g_22))] := hD
              obtain ⟨f_w_21, fault_w_21, place_w_21, w_21_⟩ := w_21
              have k35_g_22 : g_22 35 = .int (nI e) := (f_w_21 35 (by decide)).trans (k35_g_7)
              have k33_g_22 : g_22 33 = .int (nI bs) := (f_w_21 33 (by decide)).trans (k33_g_7)
              have k29_g_22 : g_22 29 = .int (nI sn) := (f_w_21 29 (by decide)).trans (k29_g_7)
              have k8_g_22 : g_22 8 = .int (nI near) := (f_w_21 8 (by decide)).trans (k8_g_7)
              have k9_g_22 : g_22 9 = .int (nI same) := (f_w_21 9 (by decide)).trans (k9_g_7)
              have k39_g_22 : g_22 39 = .int (bI ct) := (f_w_21 39 (by decide)).trans (k39_g_7)
              have k38_g_22 : g_22 38 = .int (nI wr) := (f_w_21 38 (by decide)).trans (k38_g_7)
              have k1_g_22 : g_22 1 = .ref Mrows := (f_w_21 1 (by decide)).trans (k1_g_7)
              have k7_g_22 : g_22 7 = .ref Mtab := (f_w_21 7 (by decide)).trans (k7_g_7)
              have k10_g_22 : g_22 10 = .ref Mnears := (f_w_21 10 (by decide)).trans (k10_g_7)
              have k12_g_22 : g_22 12 = .ref Msames := (f_w_21 12 (by decide)).trans (k12_g_7)
              have k30_g_22 : g_22 30 = .ref Mout := (f_w_21 30 (by decide)).trans (k30_g_7)
              have k31_g_22 : g_22 31 = .ref MoutFrom := (f_w_21 31 (by decide)).trans (k31_g_7)
              have k27_g_22 : g_22 27 = .ref Msource := (f_w_21 27 (by decide)).trans (k27_g_7)
              have k28_g_22 : g_22 28 = .ref MsourceFrom := (f_w_21 28 (by decide)).trans (k28_g_7)
              have k21_g_22 : g_22 21 = .ref MdKind := (f_w_21 21 (by decide)).trans (k21_g_7)
              have k22_g_22 : g_22 22 = .ref MdSize := (f_w_21 22 (by decide)).trans (k22_g_7)
              have k23_g_22 : g_22 23 = .ref MdAddress := (f_w_21 23 (by decide)).trans (k23_g_7)
              have k24_g_22 : g_22 24 = .ref MdMode := (f_w_21 24 (by decide)).trans (k24_g_7)
              have k25_g_22 : g_22 25 = .ref MdCode := (f_w_21 25 (by decide)).trans (k25_g_7)
              have k26_g_22 : g_22 26 = .ref MdWindow := (f_w_21 26 (by decide)).trans (k26_g_7)
              have k40_g_22 : g_22 40 = .int (nI v_1) := (f_w_21 40 (by decide)).trans (k40_g_7)
              have k41_g_22 : g_22 41 = .int zv := (f_w_21 41 (by decide)).trans (k41_g_7)
              have k42_g_22 : g_22 42 = .int fv := (f_w_21 42 (by decide)).trans (k42_g_7)
              have k32_g_22 : g_22 32 = .int (nI n) := (f_w_21 32 (by decide)).trans (k32_g_7)
              have k20_g_22 : g_22 20 = .int (nI dr) := (f_w_21 20 (by decide)).trans (k20_g_7)
              have k51_g_22 : g_22 51 = .int pa := (f_w_21 51 (by decide)).trans (k51_g_7)
              have k34_g_22 : g_22 34 = .int (nI a_10) := (f_w_21 34 (by decide)).trans (at_ht_10)
              have fr_g_22 : frm [34, 32, 20, 36, 37, 51, 40, 41, 42, 43, 44, 45, 46, 47, 48, 49, 50, 11] g g_22 := frm_tr fr_g_7 f_w_21 (by decide)
              rw [if_pos hz_11] at w_21_
              obtain ⟨x1, x2⟩ := Prod.mk.inj w_21_
              exact G11 g_22 fu2_23 pl2_24 _ _ ls (fr_g_22) (k40_g_22) (k41_g_22) (k42_g_22) (k32_g_22) (k20_g_22) (k51_g_22) (fault_w_21) (place_w_21) (k34_g_22) (by rw [flI, if_pos ⟨hcd_11, hz_11⟩, x1, x2]) (by rw [x1]; decide) (hP.sub [14, 0, 1, 2, 3, 4, 5, 6, 7, 8, 9, 10, 11, 12, 13] rfl) (hD.sub [14, 0, 1, 2, 3, 4, 5, 6, 7, 8, 9, 10, 11, 12, 13] (by decide) rfl) hS (lv_sub hl [0, 1, 2, 3, 4, 5, 6, 7, 8, 9] rfl)
        refine lv_aload_n hx hb dX9_readWindow_192 rfl (lv_at hl 6 rfl) ?_
        refine fx_get (D := D) (ci := 9) (v := .int (nI fu_6)) (C := RX9) (T := TX9) (N := 78) hx hb hts in_X9 hown hK hP 13 rfl rfl 36 (by decide) (hts _ kX9_179) (fun _ h9 => h9) (fault_ht_6) dX9_readWindow_193 ?_
        refine lv_if_ne (tgt := 211) hx hb dX9_readWindow_196 (by decide) (fun c_26 => ?_) (fun c_26 => ?_)
        · have hz : ¬ fu_6 = 0 := fun z => c_26 (by rw [z]; decide)
          exact G7 g_4 fu_6 pl_6 _ _ ls (fr_g_4) (k40_g_4) (k41_g_4) (k42_g_4) (k32_g_4) (k20_g_4) (k51_g_4) (fault_ht_6) (place_ht_6) (at_ht_6) (flI_st hz) (hf_6) (hP.sub [13, 0, 1, 2, 3, 4, 5, 6, 7, 8, 9, 10, 11, 12, 14] rfl) (hD.sub [13, 0, 1, 2, 3, 4, 5, 6, 7, 8, 9, 10, 11, 12, 14] (by decide) rfl) hS (lv_sub hl [0, 1, 2, 3, 4, 5, 6] rfl)
        · have hz_7 : fu_6 = 0 := Decidable.byContradiction (fun z => nI_ne0 (Nat.pos_of_ne_zero z) hf_6 c_26)
          refine lv_iload hx hb dX9_readWindow_199 (lv_at hl 0 rfl) ?_
          refine lv_if_eq (tgt := 211) hx hb dX9_readWindow_201 (by decide) (fun c_27 => ?_) (fun c_27 => ?_)
          · exact G7 g_4 fu_6 pl_6 _ _ ls (fr_g_4) (k40_g_4) (k41_g_4) (k42_g_4) (k32_g_4) (k20_g_4) (k51_g_4) (fault_ht_6) (place_ht_6) (at_ht_6) (by rw [flI, if_neg (fun z => absurd z.1 (fun z => z (Decidable.byContradiction (fun w => nI_ne0 (Nat.pos_of_ne_zero w) (by omega) c_27))))]) (hf_6) (hP.sub [13, 0, 1, 2, 3, 4, 5, 6, 7, 8, 9, 10, 11, 12, 14] rfl) (hD.sub [13, 0, 1, 2, 3, 4, 5, 6, 7, 8, 9, 10, 11, 12, 14] (by decide) rfl) hS (lv_sub hl [0, 1, 2, 3, 4, 5, 6] rfl)
          · have hcd_7 : ¬ v_6 = 0 := fun z => c_27 (by rw [z]; decide)
            refine lv_aload_n hx hb dX9_readWindow_204 rfl (lv_at hl 6 rfl) ?_
            refine lv_bipush (v := 9) hx hb dX9_readWindow_205 (by decide) ?_
            refine ri (y := nI 9) (rfl) ?_
            refine lv_iload_n hx hb dX9_readWindow_207 rfl (lv_at hl 1 rfl) ?_
            refine jn_v (wr := [(Mtab, .inl (cB, 1536, .inl mtab)), (Mnears, .inl (cJ, 8, .inr (.inl mnears))), (Msames, .inl (cJ, 1024, .inr (.inl msames))), (Mout, .inl (cB, 4000, .inl mout)), (MoutFrom, .inl (cI, 4000, .inl moutFrom)), (Msource, .inl (cB, 4000, .inl msource)), (MsourceFrom, .inl (cI, 4000, .inl msourceFrom)), (MdKind, .inl (cI, 4000, .inl mdKind)), (MdSize, .inl (cI, 4000, .inl mdSize)), (MdAddress, .inl (cI, 4000, .inl mdAddress)), (MdMode, .inl (cI, 4000, .inl mdMode)), (MdCode, .inl (cI, 4000, .inl mdCode)), (MdWindow, .inl (cI, 4000, .inl mdWindow)), (Mrows, .inl (cB, 32000, .inl mrows))]) hA hP hD hS [13] [0, 1, 2, 3, 4, 5, 6, 7, 8, 9, 10, 11, 12, 14] rfl rfl (by decide) (by decide) (rn_V (As := [.int (nI 9), .int (nI a_4)]) (rest := []) ⟨hx, hb, hml, hown, hts⟩ (cvV 2 hts zc_yX9_fail zi_X9 zm_yX9_fail zv_yX9_fail kX9_191 (by decide +kernel) rfl rfl ⟨Nat.le_of_ble_eq_true rfl, Nat.le_of_ble_eq_true rfl⟩) (m_fail l D cI cB cJ cR mm g_4 fu_6 pl_6 9 a_4 (fault_ht_6) (place_ht_6) (hf_6) H.size) hK hNw hMk hA hP hD hS [13] rfl rfl (by decide) 0 rfl rfl rfl rfl hl.1 rfl (Nat.le_of_ble_eq_true rfl) dX9_readWindow_208 ⟨Nat.le_of_ble_eq_true rfl, Nat.le_of_ble_eq_true rfl⟩) (fun u9 H locs w_28 hP hD hS => ?_)
            obtain ⟨g_29, fu2_30, pl2_31⟩ := u9
            try dsimp only at w_28
            have hP : va_P D vwCl [(Mtab, .inl (cB, 1536, .inl mtab)), (Mnears, .inl (cJ, 8, .inr (.inl mnears))), (Msames, .inl (cJ, 1024, .inr (.inl msames))), (Mout, .inl (cB, 4000, .inl mout)), (MoutFrom, .inl (cI, 4000, .inl moutFrom)), (Msource, .inl (cB, 4000, .inl msource)), (MsourceFrom, .inl (cI, 4000, .inl msourceFrom)), (MdKind, .inl (cI, 4000, .inl mdKind)), (MdSize, .inl (cI, 4000, .inl mdSize)), (MdAddress, .inl (cI, 4000, .inl mdAddress)), (MdMode, .inl (cI, 4000, .inl mdMode)), (MdCode, .inl (cI, 4000, .inl mdCode)), (MdWindow, .inl (cI, 4000, .inl mdWindow)), (Mrows, .inl (cB, 32000, .inl mrows)), (mm, .inr (9, fl 78 g_29))] H := hP
            have hD : va_D A0 [(Mtab, .inl (cB, 1536, .inl mtab)), (Mnears, .inl (cJ, 8, .inr (.inl mnears))), (Msames, .inl (cJ, 1024, .inr (.inl msames))), (Mout, .inl (cB, 4000, .inl mout)), (MoutFrom, .inl (cI, 4000, .inl moutFrom)), (Msource, .inl (cB, 4000, .inl msource)), (MsourceFrom, .inl (cI, 4000, .inl msourceFrom)), (MdKind, .inl (cI, 4000, .inl mdKind)), (MdSize, .inl (cI, 4000, .inl mdSize)), (MdAddress, .inl (cI, 4000, .inl mdAddress)), (MdMode, .inl (cI, 4000, .inl mdMode)), (MdCode, .inl (cI, 4000, .inl mdCode)), (MdWindow, .inl (cI, 4000, .inl mdWindow)), (Mrows, .inl (cB, 32000, .inl mrows)), (mm, .inr (9, fl 78 g_29))] := hD
            obtain ⟨f_w_28, fault_w_28, place_w_28, w_28_⟩ := w_28
            have k35_g_29 : g_29 35 = .int (nI e) := (f_w_28 35 (by decide)).trans (k35_g_4)
            have k33_g_29 : g_29 33 = .int (nI bs) := (f_w_28 33 (by decide)).trans (k33_g_4)
            have k29_g_29 : g_29 29 = .int (nI sn) := (f_w_28 29 (by decide)).trans (k29_g_4)
            have k8_g_29 : g_29 8 = .int (nI near) := (f_w_28 8 (by decide)).trans (k8_g_4)
            have k9_g_29 : g_29 9 = .int (nI same) := (f_w_28 9 (by decide)).trans (k9_g_4)
            have k39_g_29 : g_29 39 = .int (bI ct) := (f_w_28 39 (by decide)).trans (k39_g_4)
            have k38_g_29 : g_29 38 = .int (nI wr) := (f_w_28 38 (by decide)).trans (k38_g_4)
            have k1_g_29 : g_29 1 = .ref Mrows := (f_w_28 1 (by decide)).trans (k1_g_4)
            have k7_g_29 : g_29 7 = .ref Mtab := (f_w_28 7 (by decide)).trans (k7_g_4)
            have k10_g_29 : g_29 10 = .ref Mnears := (f_w_28 10 (by decide)).trans (k10_g_4)
            have k12_g_29 : g_29 12 = .ref Msames := (f_w_28 12 (by decide)).trans (k12_g_4)
            have k30_g_29 : g_29 30 = .ref Mout := (f_w_28 30 (by decide)).trans (k30_g_4)
            have k31_g_29 : g_29 31 = .ref MoutFrom := (f_w_28 31 (by decide)).trans (k31_g_4)
            have k27_g_29 : g_29 27 = .ref Msource := (f_w_28 27 (by decide)).trans (k27_g_4)
            have k28_g_29 : g_29 28 = .ref MsourceFrom := (f_w_28 28 (by decide)).trans (k28_g_4)
            have k21_g_29 : g_29 21 = .ref MdKind := (f_w_28 21 (by decide)).trans (k21_g_4)
            have k22_g_29 : g_29 22 = .ref MdSize := (f_w_28 22 (by decide)).trans (k22_g_4)
            have k23_g_29 : g_29 23 = .ref MdAddress := (f_w_28 23 (by decide)).trans (k23_g_4)
            have k24_g_29 : g_29 24 = .ref MdMode := (f_w_28 24 (by decide)).trans (k24_g_4)
            have k25_g_29 : g_29 25 = .ref MdCode := (f_w_28 25 (by decide)).trans (k25_g_4)
            have k26_g_29 : g_29 26 = .ref MdWindow := (f_w_28 26 (by decide)).trans (k26_g_4)
            have k40_g_29 : g_29 40 = .int (nI v_1) := (f_w_28 40 (by decide)).trans (k40_g_4)
            have k41_g_29 : g_29 41 = .int zv := (f_w_28 41 (by decide)).trans (k41_g_4)
            have k42_g_29 : g_29 42 = .int fv := (f_w_28 42 (by decide)).trans (k42_g_4)
            have k32_g_29 : g_29 32 = .int (nI n) := (f_w_28 32 (by decide)).trans (k32_g_4)
            have k20_g_29 : g_29 20 = .int (nI dr) := (f_w_28 20 (by decide)).trans (k20_g_4)
            have k51_g_29 : g_29 51 = .int pa := (f_w_28 51 (by decide)).trans (k51_g_4)
            have k34_g_29 : g_29 34 = .int (nI a_6) := (f_w_28 34 (by decide)).trans (at_ht_6)
            have fr_g_29 : frm [34, 32, 20, 36, 37, 51, 40, 41, 42, 43, 44, 45, 46, 47, 48, 49, 50, 11] g g_29 := frm_tr fr_g_4 f_w_28 (by decide)
            rw [if_pos hz_7] at w_28_
            obtain ⟨x1, x2⟩ := Prod.mk.inj w_28_
            exact G7 g_29 fu2_30 pl2_31 _ _ ls (fr_g_29) (k40_g_29) (k41_g_29) (k42_g_29) (k32_g_29) (k20_g_29) (k51_g_29) (fault_w_28) (place_w_28) (k34_g_29) (by rw [flI, if_pos ⟨hcd_7, hz_7⟩, x1, x2]) (by rw [x1]; decide) (hP.sub [14, 0, 1, 2, 3, 4, 5, 6, 7, 8, 9, 10, 11, 12, 13] rfl) (hD.sub [14, 0, 1, 2, 3, 4, 5, 6, 7, 8, 9, 10, 11, 12, 13] (by decide) rfl) hS (lv_sub hl [0, 1, 2, 3, 4, 5, 6] rfl)
      refine lv_aload_n hx hb dX9_readWindow_151 rfl (lv_at hl 4 rfl) ?_
      refine fx_get (D := D) (ci := 9) (v := .int (nI fu_4)) (C := RX9) (T := TX9) (N := 78) hx hb hts in_X9 hown hK hP 13 rfl rfl 36 (by decide) (hts _ kX9_179) (fun _ h9 => h9) (fault_ht_4) dX9_readWindow_152 ?_
      refine lv_if_ne (tgt := 181) hx hb dX9_readWindow_155 (by decide) (fun c_33 => ?_) (fun c_33 => ?_)
      · have hz : ¬ fu_4 = 0 := fun z => c_33 (by rw [z]; decide)
        exact G5 g_3 fu_4 pl_4 _ _ ls (fr_g_3) (k40_g_3) (k41_g_3) (k42_g_3) (k32_g_3) (k20_g_3) (k51_g_3) (fault_ht_4) (place_ht_4) (at_ht_4) (flI_st hz) (hf_4) (hP.sub [13, 0, 1, 2, 3, 4, 5, 6, 7, 8, 9, 10, 11, 12, 14] rfl) (hD.sub [13, 0, 1, 2, 3, 4, 5, 6, 7, 8, 9, 10, 11, 12, 14] (by decide) rfl) hS (lv_sub hl [0, 1, 2, 3, 4] rfl)
      · have hz_5 : fu_4 = 0 := Decidable.byContradiction (fun z => nI_ne0 (Nat.pos_of_ne_zero z) hf_4 c_33)
        have e2 := hr_4 hz_5
        subst e2
        refine lv_aload_n hx hb dX9_readWindow_158 rfl (lv_at hl 4 rfl) ?_
        refine fx_get (D := D) (ci := 9) (v := .int (nI n)) (C := RX9) (T := TX9) (N := 78) hx hb hts in_X9 hown hK hP 13 rfl rfl 32 (by decide) (hts _ kX9_221) (fun _ h9 => h9) (k32_g_3) dX9_readWindow_159 ?_
        refine lv_i2l hx hb dX9_readWindow_162 (v := (nI n).toInt64) rfl ?_
        refine rl (y := lN n) (nI_l (by omega)) ?_
        refine lv_lload hx hb dX9_readWindow_163 (lv_at hl 0 rfl) ?_
        refine lv_ladd hx hb dX9_readWindow_165 ?_
        refine rl (y := lN (n + v_4)) (lN_add _ _) ?_
        refine lv_ldc2 hx hb hown (hts _ kX9_255) dX9_readWindow_166 ?_
        refine rl (y := lN 4000) (rfl) ?_
        refine W.lcmp hx hb dX9_readWindow_169 ?_
        refine lv_if_le (tgt := 181) hx hb dX9_readWindow_170 (by decide) (fun c_34 => ?_) (fun c_34 => ?_)
        · exact G5 g_3 fu_4 pl_4 _ _ ls (fr_g_3) (k40_g_3) (k41_g_3) (k42_g_3) (k32_g_3) (k20_g_3) (k51_g_3) (fault_ht_4) (place_ht_4) (at_ht_4) (by rw [flI, if_neg (fun z => absurd z.1 (by have := (pk_lLE (by omega) (by decide)).mp ((lg_cmp_le _ _).mp c_34); omega))]) (hf_4) (hP.sub [13, 0, 1, 2, 3, 4, 5, 6, 7, 8, 9, 10, 11, 12, 14] rfl) (hD.sub [13, 0, 1, 2, 3, 4, 5, 6, 7, 8, 9, 10, 11, 12, 14] (by decide) rfl) hS (lv_sub hl [0, 1, 2, 3, 4] rfl)
        · have hcd_5 : 4000 - n < v_4 := by have := Nat.not_le.mp (fun w => c_34 ((lg_cmp_le _ _).mpr ((pk_lLE (by omega) (by decide)).mpr w))); omega
          refine lv_aload_n hx hb dX9_readWindow_173 rfl (lv_at hl 4 rfl) ?_
          refine lv_bipush (v := 7) hx hb dX9_readWindow_174 (by decide) ?_
          refine ri (y := nI 7) (rfl) ?_
          refine lv_iload hx hb dX9_readWindow_176 (lv_at hl 1 rfl) ?_
          refine jn_v (wr := [(Mtab, .inl (cB, 1536, .inl mtab)), (Mnears, .inl (cJ, 8, .inr (.inl mnears))), (Msames, .inl (cJ, 1024, .inr (.inl msames))), (Mout, .inl (cB, 4000, .inl mout)), (MoutFrom, .inl (cI, 4000, .inl moutFrom)), (Msource, .inl (cB, 4000, .inl msource)), (MsourceFrom, .inl (cI, 4000, .inl msourceFrom)), (MdKind, .inl (cI, 4000, .inl mdKind)), (MdSize, .inl (cI, 4000, .inl mdSize)), (MdAddress, .inl (cI, 4000, .inl mdAddress)), (MdMode, .inl (cI, 4000, .inl mdMode)), (MdCode, .inl (cI, 4000, .inl mdCode)), (MdWindow, .inl (cI, 4000, .inl mdWindow)), (Mrows, .inl (cB, 32000, .inl mrows))]) hA hP hD hS [13] [0, 1, 2, 3, 4, 5, 6, 7, 8, 9, 10, 11, 12, 14] rfl rfl (by decide) (by decide) (rn_V (As := [.int (nI 7), .int (nI a_3)]) (rest := []) ⟨hx, hb, hml, hown, hts⟩ (cvV 2 hts zc_yX9_fail zi_X9 zm_yX9_fail zv_yX9_fail kX9_191 (by decide +kernel) rfl rfl ⟨Nat.le_of_ble_eq_true rfl, Nat.le_of_ble_eq_true rfl⟩) (m_fail l D cI cB cJ cR mm g_3 fu_4 pl_4 7 a_3 (fault_ht_4) (place_ht_4) (hf_4) H.size) hK hNw hMk hA hP hD hS [13] rfl rfl (by decide) 0 rfl rfl rfl rfl hl.1 rfl (Nat.le_of_ble_eq_true rfl) dX9_readWindow_178 ⟨Nat.le_of_ble_eq_true rfl, Nat.le_of_ble_eq_true rfl⟩) (fun u9 H locs w_35 hP hD hS => ?_)
          obtain ⟨g_36, fu2_37, pl2_38⟩ := u9
          try dsimp only at w_35
          have hP : va_P D vwCl [(Mtab, .inl (cB, 1536, .inl mtab)), (Mnears, .inl (cJ, 8, .inr (.inl mnears))), (Msames, .inl (cJ, 1024, .inr (.inl msames))), (Mout, .inl (cB, 4000, .inl mout)), (MoutFrom, .inl (cI, 4000, .inl moutFrom)), (Msource, .inl (cB, 4000, .inl msource)), (MsourceFrom, .inl (cI, 4000, .inl msourceFrom)), (MdKind, .inl (cI, 4000, .inl mdKind)), (MdSize, .inl (cI, 4000, .inl mdSize)), (MdAddress, .inl (cI, 4000, .inl mdAddress)), (MdMode, .inl (cI, 4000, .inl mdMode)), (MdCode, .inl (cI, 4000, .inl mdCode)), (MdWindow, .inl (cI, 4000, .inl mdWindow)), (Mrows, .inl (cB, 32000, .inl mrows)), (mm, .inr (9, fl 78 g_36))] H := hP
          have hD : va_D A0 [(Mtab, .inl (cB, 1536, .inl mtab)), (Mnears, .inl (cJ, 8, .inr (.inl mnears))), (Msames, .inl (cJ, 1024, .inr (.inl msames))), (Mout, .inl (cB, 4000, .inl mout)), (MoutFrom, .inl (cI, 4000, .inl moutFrom)), (Msource, .inl (cB, 4000, .inl msource)), (MsourceFrom, .inl (cI, 4000, .inl msourceFrom)), (MdKind, .inl (cI, 4000, .inl mdKind)), (MdSize, .inl (cI, 4000, .inl mdSize)), (MdAddress, .inl (cI, 4000, .inl mdAddress)), (MdMode, .inl (cI, 4000, .inl mdMode)), (MdCode, .inl (cI, 4000, .inl mdCode)), (MdWindow, .inl (cI, 4000, .inl mdWindow)), (Mrows, .inl (cB, 32000, .inl mrows)), (mm, .inr (9, fl 78 g_36))] := hD
          obtain ⟨f_w_35, fault_w_35, place_w_35, w_35_⟩ := w_35
          have k35_g_36 : g_36 35 = .int (nI e) := (f_w_35 35 (by decide)).trans (k35_g_3)
          have k33_g_36 : g_36 33 = .int (nI bs) := (f_w_35 33 (by decide)).trans (k33_g_3)
          have k29_g_36 : g_36 29 = .int (nI sn) := (f_w_35 29 (by decide)).trans (k29_g_3)
          have k8_g_36 : g_36 8 = .int (nI near) := (f_w_35 8 (by decide)).trans (k8_g_3)
          have k9_g_36 : g_36 9 = .int (nI same) := (f_w_35 9 (by decide)).trans (k9_g_3)
          have k39_g_36 : g_36 39 = .int (bI ct) := (f_w_35 39 (by decide)).trans (k39_g_3)
          have k38_g_36 : g_36 38 = .int (nI wr) := (f_w_35 38 (by decide)).trans (k38_g_3)
          have k1_g_36 : g_36 1 = .ref Mrows := (f_w_35 1 (by decide)).trans (k1_g_3)
          have k7_g_36 : g_36 7 = .ref Mtab := (f_w_35 7 (by decide)).trans (k7_g_3)
          have k10_g_36 : g_36 10 = .ref Mnears := (f_w_35 10 (by decide)).trans (k10_g_3)
          have k12_g_36 : g_36 12 = .ref Msames := (f_w_35 12 (by decide)).trans (k12_g_3)
          have k30_g_36 : g_36 30 = .ref Mout := (f_w_35 30 (by decide)).trans (k30_g_3)
          have k31_g_36 : g_36 31 = .ref MoutFrom := (f_w_35 31 (by decide)).trans (k31_g_3)
          have k27_g_36 : g_36 27 = .ref Msource := (f_w_35 27 (by decide)).trans (k27_g_3)
          have k28_g_36 : g_36 28 = .ref MsourceFrom := (f_w_35 28 (by decide)).trans (k28_g_3)
          have k21_g_36 : g_36 21 = .ref MdKind := (f_w_35 21 (by decide)).trans (k21_g_3)
          have k22_g_36 : g_36 22 = .ref MdSize := (f_w_35 22 (by decide)).trans (k22_g_3)
          have k23_g_36 : g_36 23 = .ref MdAddress := (f_w_35 23 (by decide)).trans (k23_g_3)
          have k24_g_36 : g_36 24 = .ref MdMode := (f_w_35 24 (by decide)).trans (k24_g_3)
          have k25_g_36 : g_36 25 = .ref MdCode := (f_w_35 25 (by decide)).trans (k25_g_3)
          have k26_g_36 : g_36 26 = .ref MdWindow := (f_w_35 26 (by decide)).trans (k26_g_3)
          have k40_g_36 : g_36 40 = .int (nI v_1) := (f_w_35 40 (by decide)).trans (k40_g_3)
          have k41_g_36 : g_36 41 = .int zv := (f_w_35 41 (by decide)).trans (k41_g_3)
          have k42_g_36 : g_36 42 = .int fv := (f_w_35 42 (by decide)).trans (k42_g_3)
          have k32_g_36 : g_36 32 = .int (nI n) := (f_w_35 32 (by decide)).trans (k32_g_3)
          have k20_g_36 : g_36 20 = .int (nI dr) := (f_w_35 20 (by decide)).trans (k20_g_3)
          have k51_g_36 : g_36 51 = .int pa := (f_w_35 51 (by decide)).trans (k51_g_3)
          have k34_g_36 : g_36 34 = .int (nI a_4) := (f_w_35 34 (by decide)).trans (at_ht_4)
          have fr_g_36 : frm [34, 32, 20, 36, 37, 51, 40, 41, 42, 43, 44, 45, 46, 47, 48, 49, 50, 11] g g_36 := frm_tr fr_g_3 f_w_35 (by decide)
          rw [if_pos hz_5] at w_35_
          obtain ⟨x1, x2⟩ := Prod.mk.inj w_35_
          exact G5 g_36 fu2_37 pl2_38 _ _ ls (fr_g_36) (k40_g_36) (k41_g_36) (k42_g_36) (k32_g_36) (k20_g_36) (k51_g_36) (fault_w_35) (place_w_35) (k34_g_36) (by rw [flI, if_pos ⟨hcd_5, hz_5⟩, x1, x2]) (by rw [x1]; decide) (hP.sub [14, 0, 1, 2, 3, 4, 5, 6, 7, 8, 9, 10, 11, 12, 13] rfl) (hD.sub [14, 0, 1, 2, 3, 4, 5, 6, 7, 8, 9, 10, 11, 12, 13] (by decide) rfl) hS (lv_sub hl [0, 1, 2, 3, 4] rfl)
    refine lv_aload_n hx hb dX9_readWindow_44 rfl (lv_at hl 1 rfl) ?_
    refine fx_get (D := D) (ci := 9) (v := .int (nI fu_2)) (C := RX9) (T := TX9) (N := 78) hx hb hts in_X9 hown hK hP 0 rfl rfl 36 (by decide) (hts _ kX9_179) (fun _ h9 => h9) (k_fault_G2) dX9_readWindow_45 ?_
    refine lv_if_ne (tgt := 129) hx hb dX9_readWindow_48 (by decide) (fun c_40 => ?_) (fun c_40 => ?_)
    · have hz : ¬ fu_2 = 0 := fun z => c_40 (by rw [z]; decide)
      by_cases hv0 : v_1 = 0
      · exact JM gj_G2 0 0 0 fu_2 pl_2 a_1 (nI 0) (nI 0) _ _ ls (hf_G2) (k_segment_G2) (k_segmentSize_G2) (k_segmentAt_G2) (k_at_G2) (k_outSize_G2) (k_drafts_G2) (k_fault_G2) (k_place_G2) (k_partAt_G2) (by rw [tkSeg, hq_1, if_pos hv0, hS1]) (hf_2) (ha_1) (hg_1) (fun z => absurd z hz) hP hD hS (lv_sub hl [1] rfl)
      · exact JM gj_G2 v_1 0 0 fu_2 pl_2 a_1 (nI 0) (nI 0) _ _ ls (hf_G2) (k_segment_G2) (k_segmentSize_G2) (k_segmentAt_G2) (k_at_G2) (k_outSize_G2) (k_drafts_G2) (k_fault_G2) (k_place_G2) (k_partAt_G2) (by rw [tkSeg, hq_1, if_neg hv0, hS1, tkS2, tkN_st hz]; dsimp only; rw [tkN_st hz]; dsimp only; rw [flI_st hz]) (hf_2) (ha_1) (hg_1) (fun z => absurd z hz) hP hD hS (lv_sub hl [1] rfl)
    · have hz : fu_2 = 0 := Decidable.byContradiction (fun z => nI_ne0 (Nat.pos_of_ne_zero z) hf_2 c_40)
      refine lv_aload_n hx hb dX9_readWindow_51 rfl (lv_at hl 1 rfl) ?_
      refine fx_get (D := D) (ci := 9) (v := .int (nI v_1)) (C := RX9) (T := TX9) (N := 78) hx hb hts in_X9 hown hK hP 0 rfl rfl 40 (by decide) (hts _ kX9_246) (fun _ h9 => h9) (k_segment_G2) dX9_readWindow_52 ?_
      have hlt0 : a < a_1 := by have h9 := hq_1; rw [tkO, if_pos h0] at h9; by_cases q : a < e; rw [if_pos q] at h9; have := (Prod.mk.inj (Prod.mk.inj (Prod.mk.inj h9).2).2).2; dsimp only at this; omega; rw [if_neg q] at h9; exact absurd ((Prod.mk.inj (Prod.mk.inj h9).2).1.trans (bk_2 hz)) (by decide)
      refine lv_if_le (tgt := 129) hx hb dX9_readWindow_55 (by decide) (fun c_41 => ?_) (fun c_41 => ?_)
      · have hv0 : v_1 = 0 := Decidable.byContradiction (fun z => nI_nle (Nat.pos_of_ne_zero z) (by omega) c_41)
        exact JM gj_G2 0 0 0 fu_2 pl_2 a_1 (nI 0) (nI 0) _ _ ls (hf_G2) (k_segment_G2) (k_segmentSize_G2) (k_segmentAt_G2) (k_at_G2) (k_outSize_G2) (k_drafts_G2) (k_fault_G2) (k_place_G2) (k_partAt_G2) (by rw [tkSeg, hq_1, if_pos hv0, hS1]) (hf_2) (ha_1) (hg_1) (fun _ => ⟨rfl, rfl, hv0.symm, hlt0⟩) hP hD hS (lv_sub hl [1] rfl)
      · have hv0 : ¬ v_1 = 0 := fun z => c_41 (by rw [z]; decide)
        refine lv_aload_n hx hb dX9_readWindow_58 rfl (lv_at hl 1 rfl) ?_
        refine jn_l (wr := [(Mtab, .inl (cB, 1536, .inl mtab)), (Mnears, .inl (cJ, 8, .inr (.inl mnears))), (Msames, .inl (cJ, 1024, .inr (.inl msames))), (Mout, .inl (cB, 4000, .inl mout)), (MoutFrom, .inl (cI, 4000, .inl moutFrom)), (Msource, .inl (cB, 4000, .inl msource)), (MsourceFrom, .inl (cI, 4000, .inl msourceFrom)), (MdKind, .inl (cI, 4000, .inl mdKind)), (MdSize, .inl (cI, 4000, .inl mdSize)), (MdAddress, .inl (cI, 4000, .inl mdAddress)), (MdMode, .inl (cI, 4000, .inl mdMode)), (MdCode, .inl (cI, 4000, .inl mdCode)), (MdWindow, .inl (cI, 4000, .inl mdWindow))]) hA hP hD hS [0, 14] [1, 2, 3, 4, 5, 6, 7, 8, 9, 10, 11, 12, 13] rfl rfl (by decide) (by decide) (rn_V (As := []) (rest := []) ⟨hx, hb, hml, hown, hts⟩ (cvV 0 hts zc_yX9_number zi_X9 zm_yX9_number zv_yX9_number kX9_207 (by decide +kernel) rfl rfl ⟨Nat.le_of_ble_eq_true rfl, Nat.le_of_ble_eq_true rfl⟩) (m_number l D cI cB cJ cR mm gj_G2 Mrows mrows fu_2 pl_2 a_1 e bs b (k_fault_G2) (k_place_G2) (k_at_G2) ((hf_G2 35 (by decide)).trans g_end) ((hf_G2 33 (by decide)).trans g_base) ((hf_G2 1 (by decide)).trans g_rows) (hf_2) (he9) (ha_1) (hob) H.size) hK hNw hMk hA hP hD hS [0, 14] rfl rfl (by decide) 0 rfl rfl rfl rfl hl.1 rfl (Nat.le_of_ble_eq_true rfl) dX9_readWindow_59 ⟨Nat.le_of_ble_eq_true rfl, Nat.le_of_ble_eq_true rfl⟩) (fun r_13 u9 H locs ht_13 hP hD hS => ?_)
        obtain ⟨g_42, v_13, fu_13, pl_13, a_13⟩ := u9
        try dsimp only at ht_13
        have hP : va_P D vwCl [(Mtab, .inl (cB, 1536, .inl mtab)), (Mnears, .inl (cJ, 8, .inr (.inl mnears))), (Msames, .inl (cJ, 1024, .inr (.inl msames))), (Mout, .inl (cB, 4000, .inl mout)), (MoutFrom, .inl (cI, 4000, .inl moutFrom)), (Msource, .inl (cB, 4000, .inl msource)), (MsourceFrom, .inl (cI, 4000, .inl msourceFrom)), (MdKind, .inl (cI, 4000, .inl mdKind)), (MdSize, .inl (cI, 4000, .inl mdSize)), (MdAddress, .inl (cI, 4000, .inl mdAddress)), (MdMode, .inl (cI, 4000, .inl mdMode)), (MdCode, .inl (cI, 4000, .inl mdCode)), (MdWindow, .inl (cI, 4000, .inl mdWindow)), (mm, .inr (9, fl 78 g_42)), (Mrows, .inl (cB, 32000, .inl mrows))] H := hP
        have hD : va_D A0 [(Mtab, .inl (cB, 1536, .inl mtab)), (Mnears, .inl (cJ, 8, .inr (.inl mnears))), (Msames, .inl (cJ, 1024, .inr (.inl msames))), (Mout, .inl (cB, 4000, .inl mout)), (MoutFrom, .inl (cI, 4000, .inl moutFrom)), (Msource, .inl (cB, 4000, .inl msource)), (MsourceFrom, .inl (cI, 4000, .inl msourceFrom)), (MdKind, .inl (cI, 4000, .inl mdKind)), (MdSize, .inl (cI, 4000, .inl mdSize)), (MdAddress, .inl (cI, 4000, .inl mdAddress)), (MdMode, .inl (cI, 4000, .inl mdMode)), (MdCode, .inl (cI, 4000, .inl mdCode)), (MdWindow, .inl (cI, 4000, .inl mdWindow)), (mm, .inr (9, fl 78 g_42)), (Mrows, .inl (cB, 32000, .inl mrows))] := hD
        obtain ⟨f_ht_13, fault_ht_13, place_ht_13, at_ht_13, ht_13_⟩ := ht_13
        have k35_g_42 : g_42 35 = .int (nI e) := (f_ht_13 35 (by decide)).trans ((hf_G2 35 (by decide)).trans g_end)
        have k33_g_42 : g_42 33 = .int (nI bs) := (f_ht_13 33 (by decide)).trans ((hf_G2 33 (by decide)).trans g_base)
        have k29_g_42 : g_42 29 = .int (nI sn) := (f_ht_13 29 (by decide)).trans ((hf_G2 29 (by decide)).trans g_sourceSize)
        have k8_g_42 : g_42 8 = .int (nI near) := (f_ht_13 8 (by decide)).trans ((hf_G2 8 (by decide)).trans g_near)
        have k9_g_42 : g_42 9 = .int (nI same) := (f_ht_13 9 (by decide)).trans ((hf_G2 9 (by decide)).trans g_same)
        have k39_g_42 : g_42 39 = .int (bI ct) := (f_ht_13 39 (by decide)).trans ((hf_G2 39 (by decide)).trans g_counts)
        have k38_g_42 : g_42 38 = .int (nI wr) := (f_ht_13 38 (by decide)).trans ((hf_G2 38 (by decide)).trans g_windows)
        have k1_g_42 : g_42 1 = .ref Mrows := (f_ht_13 1 (by decide)).trans ((hf_G2 1 (by decide)).trans g_rows)
        have k7_g_42 : g_42 7 = .ref Mtab := (f_ht_13 7 (by decide)).trans ((hf_G2 7 (by decide)).trans g_tab)
        have k10_g_42 : g_42 10 = .ref Mnears := (f_ht_13 10 (by decide)).trans ((hf_G2 10 (by decide)).trans g_nears)
        have k12_g_42 : g_42 12 = .ref Msames := (f_ht_13 12 (by decide)).trans ((hf_G2 12 (by decide)).trans g_sames)
        have k30_g_42 : g_42 30 = .ref Mout := (f_ht_13 30 (by decide)).trans ((hf_G2 30 (by decide)).trans g_out)
        have k31_g_42 : g_42 31 = .ref MoutFrom := (f_ht_13 31 (by decide)).trans ((hf_G2 31 (by decide)).trans g_outFrom)
        have k27_g_42 : g_42 27 = .ref Msource := (f_ht_13 27 (by decide)).trans ((hf_G2 27 (by decide)).trans g_source)
        have k28_g_42 : g_42 28 = .ref MsourceFrom := (f_ht_13 28 (by decide)).trans ((hf_G2 28 (by decide)).trans g_sourceFrom)
        have k21_g_42 : g_42 21 = .ref MdKind := (f_ht_13 21 (by decide)).trans ((hf_G2 21 (by decide)).trans g_dKind)
        have k22_g_42 : g_42 22 = .ref MdSize := (f_ht_13 22 (by decide)).trans ((hf_G2 22 (by decide)).trans g_dSize)
        have k23_g_42 : g_42 23 = .ref MdAddress := (f_ht_13 23 (by decide)).trans ((hf_G2 23 (by decide)).trans g_dAddress)
        have k24_g_42 : g_42 24 = .ref MdMode := (f_ht_13 24 (by decide)).trans ((hf_G2 24 (by decide)).trans g_dMode)
        have k25_g_42 : g_42 25 = .ref MdCode := (f_ht_13 25 (by decide)).trans ((hf_G2 25 (by decide)).trans g_dCode)
        have k26_g_42 : g_42 26 = .ref MdWindow := (f_ht_13 26 (by decide)).trans ((hf_G2 26 (by decide)).trans g_dWindow)
        have k32_g_42 : g_42 32 = .int (nI n) := (f_ht_13 32 (by decide)).trans (k_outSize_G2)
        have k20_g_42 : g_42 20 = .int (nI dr) := (f_ht_13 20 (by decide)).trans (k_drafts_G2)
        have k51_g_42 : g_42 51 = .int pa := (f_ht_13 51 (by decide)).trans (k_partAt_G2)
        have k40_g_42 : g_42 40 = .int (nI v_1) := (f_ht_13 40 (by decide)).trans (k_segment_G2)
        have k41_g_42 : g_42 41 = .int (nI 0) := (f_ht_13 41 (by decide)).trans (k_segmentSize_G2)
        have k42_g_42 : g_42 42 = .int (nI 0) := (f_ht_13 42 (by decide)).trans (k_segmentAt_G2)
        have fr_g_42 : frm [34, 32, 20, 36, 37, 51, 40, 41, 42, 43, 44, 45, 46, 47, 48, 49, 50, 11] g g_42 := frm_tr hf_G2 f_ht_13 (by decide)
        obtain ⟨hq_13, hr_13, hf_13, hg_13, ha_13, hv_13⟩ := ht_13_
        have bk_13 : fu_13 = 0 → fu_2 = 0 := fun z => ((okR_N (b := b) (e := e) (s := (fu_2, pl_2, a_1))) (by rw [hq_13]; exact z)).1
        refine lv_lstore_n (lv' := [(2, .long r_13), (1, .int (nI a)), (0, .ref mm)]) hx hb dX9_readWindow_62 rfl hl (by decide) rfl (fun ls hl => ?_)
        refine lv_aload_n hx hb dX9_readWindow_63 rfl (lv_at hl 2 rfl) ?_
        refine fx_get (D := D) (ci := 9) (v := .int (nI a_13)) (C := RX9) (T := TX9) (N := 78) hx hb hts in_X9 hown hK hP 13 rfl rfl 34 (by decide) (hts _ kX9_185) (fun _ h9 => h9) (at_ht_13) dX9_readWindow_64 ?_
        refine lv_istore_n (lv' := [(1, .int (nI a_13)), (2, .long r_13), (0, .ref mm)]) hx hb dX9_readWindow_67 rfl hl (by decide) rfl (fun ls hl => ?_)
        refine lv_aload_n hx hb dX9_readWindow_68 rfl (lv_at hl 2 rfl) ?_
        refine jn_l (wr := [(Mtab, .inl (cB, 1536, .inl mtab)), (Mnears, .inl (cJ, 8, .inr (.inl mnears))), (Msames, .inl (cJ, 1024, .inr (.inl msames))), (Mout, .inl (cB, 4000, .inl mout)), (MoutFrom, .inl (cI, 4000, .inl moutFrom)), (Msource, .inl (cB, 4000, .inl msource)), (MsourceFrom, .inl (cI, 4000, .inl msourceFrom)), (MdKind, .inl (cI, 4000, .inl mdKind)), (MdSize, .inl (cI, 4000, .inl mdSize)), (MdAddress, .inl (cI, 4000, .inl mdAddress)), (MdMode, .inl (cI, 4000, .inl mdMode)), (MdCode, .inl (cI, 4000, .inl mdCode)), (MdWindow, .inl (cI, 4000, .inl mdWindow))]) hA hP hD hS [13, 14] [0, 1, 2, 3, 4, 5, 6, 7, 8, 9, 10, 11, 12] rfl rfl (by decide) (by decide) (rn_V (As := []) (rest := []) ⟨hx, hb, hml, hown, hts⟩ (cvV 0 hts zc_yX9_number zi_X9 zm_yX9_number zv_yX9_number kX9_207 (by decide +kernel) rfl rfl ⟨Nat.le_of_ble_eq_true rfl, Nat.le_of_ble_eq_true rfl⟩) (m_number l D cI cB cJ cR mm g_42 Mrows mrows fu_13 pl_13 a_13 e bs b (fault_ht_13) (place_ht_13) (at_ht_13) (k35_g_42) (k33_g_42) (k1_g_42) (hf_13) (he9) (ha_13) (hob) H.size) hK hNw hMk hA hP hD hS [13, 14] rfl rfl (by decide) 0 rfl rfl rfl rfl hl.1 rfl (Nat.le_of_ble_eq_true rfl) dX9_readWindow_69 ⟨Nat.le_of_ble_eq_true rfl, Nat.le_of_ble_eq_true rfl⟩) (fun r_14 u9 H locs ht_14 hP hD hS => ?_)
        obtain ⟨g_43, v_14, fu_14, pl_14, a_14⟩ := u9
        try dsimp only at ht_14
        have hP : va_P D vwCl [(Mtab, .inl (cB, 1536, .inl mtab)), (Mnears, .inl (cJ, 8, .inr (.inl mnears))), (Msames, .inl (cJ, 1024, .inr (.inl msames))), (Mout, .inl (cB, 4000, .inl mout)), (MoutFrom, .inl (cI, 4000, .inl moutFrom)), (Msource, .inl (cB, 4000, .inl msource)), (MsourceFrom, .inl (cI, 4000, .inl msourceFrom)), (MdKind, .inl (cI, 4000, .inl mdKind)), (MdSize, .inl (cI, 4000, .inl mdSize)), (MdAddress, .inl (cI, 4000, .inl mdAddress)), (MdMode, .inl (cI, 4000, .inl mdMode)), (MdCode, .inl (cI, 4000, .inl mdCode)), (MdWindow, .inl (cI, 4000, .inl mdWindow)), (mm, .inr (9, fl 78 g_43)), (Mrows, .inl (cB, 32000, .inl mrows))] H := hP
        have hD : va_D A0 [(Mtab, .inl (cB, 1536, .inl mtab)), (Mnears, .inl (cJ, 8, .inr (.inl mnears))), (Msames, .inl (cJ, 1024, .inr (.inl msames))), (Mout, .inl (cB, 4000, .inl mout)), (MoutFrom, .inl (cI, 4000, .inl moutFrom)), (Msource, .inl (cB, 4000, .inl msource)), (MsourceFrom, .inl (cI, 4000, .inl msourceFrom)), (MdKind, .inl (cI, 4000, .inl mdKind)), (MdSize, .inl (cI, 4000, .inl mdSize)), (MdAddress, .inl (cI, 4000, .inl mdAddress)), (MdMode, .inl (cI, 4000, .inl mdMode)), (MdCode, .inl (cI, 4000, .inl mdCode)), (MdWindow, .inl (cI, 4000, .inl mdWindow)), (mm, .inr (9, fl 78 g_43)), (Mrows, .inl (cB, 32000, .inl mrows))] := hD
        obtain ⟨f_ht_14, fault_ht_14, place_ht_14, at_ht_14, ht_14_⟩ := ht_14
        have k35_g_43 : g_43 35 = .int (nI e) := (f_ht_14 35 (by decide)).trans (k35_g_42)
        have k33_g_43 : g_43 33 = .int (nI bs) := (f_ht_14 33 (by decide)).trans (k33_g_42)
        have k29_g_43 : g_43 29 = .int (nI sn) := (f_ht_14 29 (by decide)).trans (k29_g_42)
        have k8_g_43 : g_43 8 = .int (nI near) := (f_ht_14 8 (by decide)).trans (k8_g_42)
        have k9_g_43 : g_43 9 = .int (nI same) := (f_ht_14 9 (by decide)).trans (k9_g_42)
        have k39_g_43 : g_43 39 = .int (bI ct) := (f_ht_14 39 (by decide)).trans (k39_g_42)
        have k38_g_43 : g_43 38 = .int (nI wr) := (f_ht_14 38 (by decide)).trans (k38_g_42)
        have k1_g_43 : g_43 1 = .ref Mrows := (f_ht_14 1 (by decide)).trans (k1_g_42)
        have k7_g_43 : g_43 7 = .ref Mtab := (f_ht_14 7 (by decide)).trans (k7_g_42)
        have k10_g_43 : g_43 10 = .ref Mnears := (f_ht_14 10 (by decide)).trans (k10_g_42)
        have k12_g_43 : g_43 12 = .ref Msames := (f_ht_14 12 (by decide)).trans (k12_g_42)
        have k30_g_43 : g_43 30 = .ref Mout := (f_ht_14 30 (by decide)).trans (k30_g_42)
        have k31_g_43 : g_43 31 = .ref MoutFrom := (f_ht_14 31 (by decide)).trans (k31_g_42)
        have k27_g_43 : g_43 27 = .ref Msource := (f_ht_14 27 (by decide)).trans (k27_g_42)
        have k28_g_43 : g_43 28 = .ref MsourceFrom := (f_ht_14 28 (by decide)).trans (k28_g_42)
        have k21_g_43 : g_43 21 = .ref MdKind := (f_ht_14 21 (by decide)).trans (k21_g_42)
        have k22_g_43 : g_43 22 = .ref MdSize := (f_ht_14 22 (by decide)).trans (k22_g_42)
        have k23_g_43 : g_43 23 = .ref MdAddress := (f_ht_14 23 (by decide)).trans (k23_g_42)
        have k24_g_43 : g_43 24 = .ref MdMode := (f_ht_14 24 (by decide)).trans (k24_g_42)
        have k25_g_43 : g_43 25 = .ref MdCode := (f_ht_14 25 (by decide)).trans (k25_g_42)
        have k26_g_43 : g_43 26 = .ref MdWindow := (f_ht_14 26 (by decide)).trans (k26_g_42)
        have k32_g_43 : g_43 32 = .int (nI n) := (f_ht_14 32 (by decide)).trans (k32_g_42)
        have k20_g_43 : g_43 20 = .int (nI dr) := (f_ht_14 20 (by decide)).trans (k20_g_42)
        have k51_g_43 : g_43 51 = .int pa := (f_ht_14 51 (by decide)).trans (k51_g_42)
        have k40_g_43 : g_43 40 = .int (nI v_1) := (f_ht_14 40 (by decide)).trans (k40_g_42)
        have k41_g_43 : g_43 41 = .int (nI 0) := (f_ht_14 41 (by decide)).trans (k41_g_42)
        have k42_g_43 : g_43 42 = .int (nI 0) := (f_ht_14 42 (by decide)).trans (k42_g_42)
        have fr_g_43 : frm [34, 32, 20, 36, 37, 51, 40, 41, 42, 43, 44, 45, 46, 47, 48, 49, 50, 11] g g_43 := frm_tr fr_g_42 f_ht_14 (by decide)
        obtain ⟨hq_14, hr_14, hf_14, hg_14, ha_14, hv_14⟩ := ht_14_
        have bk_14 : fu_14 = 0 → fu_13 = 0 := fun z => ((okR_N (b := b) (e := e) (s := (fu_13, pl_13, a_13))) (by rw [hq_14]; exact z)).1
        refine lv_lstore (lv' := [(4, .long r_14), (1, .int (nI a_13)), (2, .long r_13), (0, .ref mm)]) hx hb dX9_readWindow_72 hl (by decide) rfl (fun ls hl => ?_)
        have G15 : ∀ (gj_G15 : Nat → Value) (fu_15 : Nat) (pl_15 : Nat) (H : Heap) (locs : List Loc) (ls : Array Slot), (frm [34, 32, 20, 36, 37, 51, 40, 41, 42, 43, 44, 45, 46, 47, 48, 49, 50, 11] g gj_G15) → (gj_G15 32 = .int (nI n)) → (gj_G15 20 = .int (nI dr)) → (gj_G15 51 = .int pa) → (gj_G15 40 = .int (nI v_1)) → (gj_G15 41 = .int (nI 0)) → (gj_G15 42 = .int (nI 0)) → (gj_G15 36 = .int (nI fu_15)) → (gj_G15 37 = .int (nI pl_15)) → (gj_G15 34 = .int (nI a_14)) → (flI ((if v_1 = 1 then sn else n) < v_14 + v_13) 6 a_13 (fu_14, pl_14, a_14) = (fu_15, pl_15, a_14)) → (fu_15 < 2 ^ 31) → va_P D vwCl [(mm, .inr (9, fl 78 gj_G15)), (Mtab, .inl (cB, 1536, .inl mtab)), (Mnears, .inl (cJ, 8, .inr (.inl mnears))), (Msames, .inl (cJ, 1024, .inr (.inl msames))), (Mout, .inl (cB, 4000, .inl mout)), (MoutFrom, .inl (cI, 4000, .inl moutFrom)), (Msource, .inl (cB, 4000, .inl msource)), (MsourceFrom, .inl (cI, 4000, .inl msourceFrom)), (MdKind, .inl (cI, 4000, .inl mdKind)), (MdSize, .inl (cI, 4000, .inl mdSize)), (MdAddress, .inl (cI, 4000, .inl mdAddress)), (MdMode, .inl (cI, 4000, .inl mdMode)), (MdCode, .inl (cI, 4000, .inl mdCode)), (MdWindow, .inl (cI, 4000, .inl mdWindow)), (Mrows, .inl (cB, 32000, .inl mrows))] H → va_D A0 [(mm, .inr (9, fl 78 gj_G15)), (Mtab, .inl (cB, 1536, .inl mtab)), (Mnears, .inl (cJ, 8, .inr (.inl mnears))), (Msames, .inl (cJ, 1024, .inr (.inl msames))), (Mout, .inl (cB, 4000, .inl mout)), (MoutFrom, .inl (cI, 4000, .inl moutFrom)), (Msource, .inl (cB, 4000, .inl msource)), (MsourceFrom, .inl (cI, 4000, .inl msourceFrom)), (MdKind, .inl (cI, 4000, .inl mdKind)), (MdSize, .inl (cI, 4000, .inl mdSize)), (MdAddress, .inl (cI, 4000, .inl mdAddress)), (MdMode, .inl (cI, 4000, .inl mdMode)), (MdCode, .inl (cI, 4000, .inl mdCode)), (MdWindow, .inl (cI, 4000, .inl mdWindow)), (Mrows, .inl (cB, 32000, .inl mrows))] → va_S A0 s0.heap H locs → lv_has ls 15 [(4, .long r_14), (1, .int (nI a_13)), (2, .long r_13), (0, .ref mm)] → W p0 l e0 ({ frames := 4, cells := 0, slots := 0, locals := 107 }) s0 m0 ([.ref mm] : List Value).toArray below meth c0 H locs 0 0 Q0 (F0 m0 116 ls []) := by
          intro gj_G15 fu_15 pl_15 H locs ls hf_G15 k_outSize_G15 k_drafts_G15 k_partAt_G15 k_segment_G15 k_segmentSize_G15 k_segmentAt_G15 k_fault_G15 k_place_G15 k_at_G15 hq_15 hf_15 hP hD hS hl
          have bk_15 : fu_15 = 0 → fu_14 = 0 := fun z => ((okR_F (c := (if v_1 = 1 then sn else n) < v_14 + v_13) (k := 6) (w := a_13) (s := (fu_14, pl_14, a_14)) (by decide)) (by rw [hq_15]; exact z)).1
          refine lv_aload_n hx hb dX9_readWindow_116 rfl (lv_at hl 3 rfl) ?_
          refine lv_lload_n hx hb dX9_readWindow_117 rfl (lv_at hl 2 rfl) ?_
          refine lv_l2i hx hb dX9_readWindow_118 (v := r_13.toInt32) rfl ?_
          refine fx_put (D := D) (ci := 9) (v := .int r_13.toInt32) (ty := .int) (C := RX9) (T := TX9) (N := 78) hx hb hts in_X9 tyX9 tyX9_ok nmX9 hown hK hP hD hS 0 rfl rfl 41 (by decide) (hts _ kX9_249) (fun _ h9 => h9) rfl (by decide +kernel) rfl rfl dX9_readWindow_119 (fun H locs hP hD hS => ?_)
          have hP : va_P D vwCl [(mm, .inr (9, fl 78 (va_up gj_G15 41 (.int r_13.toInt32)))), (Mtab, .inl (cB, 1536, .inl mtab)), (Mnears, .inl (cJ, 8, .inr (.inl mnears))), (Msames, .inl (cJ, 1024, .inr (.inl msames))), (Mout, .inl (cB, 4000, .inl mout)), (MoutFrom, .inl (cI, 4000, .inl moutFrom)), (Msource, .inl (cB, 4000, .inl msource)), (MsourceFrom, .inl (cI, 4000, .inl msourceFrom)), (MdKind, .inl (cI, 4000, .inl mdKind)), (MdSize, .inl (cI, 4000, .inl mdSize)), (MdAddress, .inl (cI, 4000, .inl mdAddress)), (MdMode, .inl (cI, 4000, .inl mdMode)), (MdCode, .inl (cI, 4000, .inl mdCode)), (MdWindow, .inl (cI, 4000, .inl mdWindow)), (Mrows, .inl (cB, 32000, .inl mrows))] H := hP
          have hD : va_D A0 [(mm, .inr (9, fl 78 (va_up gj_G15 41 (.int r_13.toInt32)))), (Mtab, .inl (cB, 1536, .inl mtab)), (Mnears, .inl (cJ, 8, .inr (.inl mnears))), (Msames, .inl (cJ, 1024, .inr (.inl msames))), (Mout, .inl (cB, 4000, .inl mout)), (MoutFrom, .inl (cI, 4000, .inl moutFrom)), (Msource, .inl (cB, 4000, .inl msource)), (MsourceFrom, .inl (cI, 4000, .inl msourceFrom)), (MdKind, .inl (cI, 4000, .inl mdKind)), (MdSize, .inl (cI, 4000, .inl mdSize)), (MdAddress, .inl (cI, 4000, .inl mdAddress)), (MdMode, .inl (cI, 4000, .inl mdMode)), (MdCode, .inl (cI, 4000, .inl mdCode)), (MdWindow, .inl (cI, 4000, .inl mdWindow)), (Mrows, .inl (cB, 32000, .inl mrows))] := hD
          refine lv_aload_n hx hb dX9_readWindow_122 rfl (lv_at hl 3 rfl) ?_
          refine lv_lload hx hb dX9_readWindow_123 (lv_at hl 0 rfl) ?_
          refine lv_l2i hx hb dX9_readWindow_125 (v := r_14.toInt32) rfl ?_
          refine fx_put (D := D) (ci := 9) (v := .int r_14.toInt32) (ty := .int) (C := RX9) (T := TX9) (N := 78) hx hb hts in_X9 tyX9 tyX9_ok nmX9 hown hK hP hD hS 0 rfl rfl 42 (by decide) (hts _ kX9_252) (fun _ h9 => h9) rfl (by decide +kernel) rfl rfl dX9_readWindow_126 (fun H locs hP hD hS => ?_)
          have hP : va_P D vwCl [(mm, .inr (9, fl 78 (va_up (va_up gj_G15 41 (.int r_13.toInt32)) 42 (.int r_14.toInt32)))), (Mtab, .inl (cB, 1536, .inl mtab)), (Mnears, .inl (cJ, 8, .inr (.inl mnears))), (Msames, .inl (cJ, 1024, .inr (.inl msames))), (Mout, .inl (cB, 4000, .inl mout)), (MoutFrom, .inl (cI, 4000, .inl moutFrom)), (Msource, .inl (cB, 4000, .inl msource)), (MsourceFrom, .inl (cI, 4000, .inl msourceFrom)), (MdKind, .inl (cI, 4000, .inl mdKind)), (MdSize, .inl (cI, 4000, .inl mdSize)), (MdAddress, .inl (cI, 4000, .inl mdAddress)), (MdMode, .inl (cI, 4000, .inl mdMode)), (MdCode, .inl (cI, 4000, .inl mdCode)), (MdWindow, .inl (cI, 4000, .inl mdWindow)), (Mrows, .inl (cB, 32000, .inl mrows))] H := hP
          have hD : va_D A0 [(mm, .inr (9, fl 78 (va_up (va_up gj_G15 41 (.int r_13.toInt32)) 42 (.int r_14.toInt32)))), (Mtab, .inl (cB, 1536, .inl mtab)), (Mnears, .inl (cJ, 8, .inr (.inl mnears))), (Msames, .inl (cJ, 1024, .inr (.inl msames))), (Mout, .inl (cB, 4000, .inl mout)), (MoutFrom, .inl (cI, 4000, .inl moutFrom)), (Msource, .inl (cB, 4000, .inl msource)), (MsourceFrom, .inl (cI, 4000, .inl msourceFrom)), (MdKind, .inl (cI, 4000, .inl mdKind)), (MdSize, .inl (cI, 4000, .inl mdSize)), (MdAddress, .inl (cI, 4000, .inl mdAddress)), (MdMode, .inl (cI, 4000, .inl mdMode)), (MdCode, .inl (cI, 4000, .inl mdCode)), (MdWindow, .inl (cI, 4000, .inl mdWindow)), (Mrows, .inl (cB, 32000, .inl mrows))] := hD
          exact JM (va_up (va_up gj_G15 41 (.int r_13.toInt32)) 42 (.int r_14.toInt32)) v_1 v_13 v_14 fu_15 pl_15 a_14 r_13.toInt32 r_14.toInt32 _ _ ls ((frm_up (frm_up hf_G15 (by decide)) (by decide))) (k_segment_G15) (rfl) (rfl) (k_at_G15) (k_outSize_G15) (k_drafts_G15) (k_fault_G15) (k_place_G15) (k_partAt_G15) (by rw [tkSeg, hq_1, if_neg hv0, hS1, tkS2, hq_13]; dsimp only; rw [hq_14]; dsimp only; rw [hq_15]) (hf_15) (ha_14) (by omega) (fun z => ⟨by rw [hr_13 (bk_14 (bk_15 z))]; exact lN_i _, by rw [hr_14 (bk_15 z)]; exact lN_i _, rfl, by omega⟩) hP hD hS (lv_sub hl [3] rfl)
        refine lv_aload_n hx hb dX9_readWindow_74 rfl (lv_at hl 3 rfl) ?_
        refine fx_get (D := D) (ci := 9) (v := .int (nI fu_14)) (C := RX9) (T := TX9) (N := 78) hx hb hts in_X9 hown hK hP 13 rfl rfl 36 (by decide) (hts _ kX9_179) (fun _ h9 => h9) (fault_ht_14) dX9_readWindow_75 ?_
        refine lv_if_ne (tgt := 116) hx hb dX9_readWindow_78 (by decide) (fun c_44 => ?_) (fun c_44 => ?_)
        · have hz : ¬ fu_14 = 0 := fun z => c_44 (by rw [z]; decide)
          exact G15 g_43 fu_14 pl_14 _ _ ls (fr_g_43) (k32_g_43) (k20_g_43) (k51_g_43) (k40_g_43) (k41_g_43) (k42_g_43) (fault_ht_14) (place_ht_14) (at_ht_14) (flI_st hz) (hf_14) (hP.sub [13, 0, 1, 2, 3, 4, 5, 6, 7, 8, 9, 10, 11, 12, 14] rfl) (hD.sub [13, 0, 1, 2, 3, 4, 5, 6, 7, 8, 9, 10, 11, 12, 14] (by decide) rfl) hS (lv_sub hl [0, 1, 2, 3] rfl)
        · have hz_15 : fu_14 = 0 := Decidable.byContradiction (fun z => nI_ne0 (Nat.pos_of_ne_zero z) hf_14 c_44)
          have e1 := hr_13 (bk_14 hz_15)
          have e2 := hr_14 hz_15
          subst e1
          subst e2
          refine lv_lload_n hx hb dX9_readWindow_81 rfl (lv_at hl 2 rfl) ?_
          refine lv_lload hx hb dX9_readWindow_82 (lv_at hl 0 rfl) ?_
          refine lv_ladd hx hb dX9_readWindow_84 ?_
          refine rl (y := lN (v_13 + v_14)) (lN_add _ _) ?_
          refine lv_aload_n hx hb dX9_readWindow_85 rfl (lv_at hl 3 rfl) ?_
          refine fx_get (D := D) (ci := 9) (v := .int (nI v_1)) (C := RX9) (T := TX9) (N := 78) hx hb hts in_X9 hown hK hP 13 rfl rfl 40 (by decide) (hts _ kX9_246) (fun _ h9 => h9) (k40_g_43) dX9_readWindow_86 ?_
          refine lv_iconst (v := 1) hx hb dX9_readWindow_89 (by decide) ?_
          refine lv_icmp_ne (tgt := 100) hx hb dX9_readWindow_90 (by decide) (fun c_45 => ?_) (fun c_45 => ?_)
          · refine lv_aload_n hx hb dX9_readWindow_100 rfl (lv_at hl 3 rfl) ?_
            refine fx_get (D := D) (ci := 9) (v := .int (nI n)) (C := RX9) (T := TX9) (N := 78) hx hb hts in_X9 hown hK hP 13 rfl rfl 32 (by decide) (hts _ kX9_221) (fun _ h9 => h9) (k32_g_43) dX9_readWindow_101 ?_
            refine lv_i2l hx hb dX9_readWindow_104 (v := (nI n).toInt64) rfl ?_
            refine rl (y := lN n) (nI_l (by omega)) ?_
            refine W.lcmp hx hb dX9_readWindow_105 ?_
            refine lv_if_le (tgt := 116) hx hb dX9_readWindow_106 (by decide) (fun c_46 => ?_) (fun c_46 => ?_)
            · exact G15 g_43 fu_14 pl_14 _ _ ls (fr_g_43) (k32_g_43) (k20_g_43) (k51_g_43) (k40_g_43) (k41_g_43) (k42_g_43) (fault_ht_14) (place_ht_14) (at_ht_14) (by rw [flI, if_neg (fun z => absurd z.1 (by rw [if_neg (fun z => c_45 (by rw [z]; rfl))]; have := (pk_lLE (by omega) (by omega)).mp ((lg_cmp_le _ _).mp c_46); omega))]) (hf_14) (hP.sub [13, 0, 1, 2, 3, 4, 5, 6, 7, 8, 9, 10, 11, 12, 14] rfl) (hD.sub [13, 0, 1, 2, 3, 4, 5, 6, 7, 8, 9, 10, 11, 12, 14] (by decide) rfl) hS (lv_sub hl [0, 1, 2, 3] rfl)
            · have hcd_15 : (if v_1 = 1 then sn else n) < v_14 + v_13 := by rw [if_neg (fun z => c_45 (by rw [z]; rfl))]; have := Nat.not_le.mp (fun w => c_46 ((lg_cmp_le _ _).mpr ((pk_lLE (by omega) (by omega)).mpr w))); omega
              refine lv_aload_n hx hb dX9_readWindow_109 rfl (lv_at hl 3 rfl) ?_
              refine lv_bipush (v := 6) hx hb dX9_readWindow_110 (by decide) ?_
              refine ri (y := nI 6) (rfl) ?_
              refine lv_iload_n hx hb dX9_readWindow_112 rfl (lv_at hl 1 rfl) ?_
              refine jn_v (wr := [(Mtab, .inl (cB, 1536, .inl mtab)), (Mnears, .inl (cJ, 8, .inr (.inl mnears))), (Msames, .inl (cJ, 1024, .inr (.inl msames))), (Mout, .inl (cB, 4000, .inl mout)), (MoutFrom, .inl (cI, 4000, .inl moutFrom)), (Msource, .inl (cB, 4000, .inl msource)), (MsourceFrom, .inl (cI, 4000, .inl msourceFrom)), (MdKind, .inl (cI, 4000, .inl mdKind)), (MdSize, .inl (cI, 4000, .inl mdSize)), (MdAddress, .inl (cI, 4000, .inl mdAddress)), (MdMode, .inl (cI, 4000, .inl mdMode)), (MdCode, .inl (cI, 4000, .inl mdCode)), (MdWindow, .inl (cI, 4000, .inl mdWindow)), (Mrows, .inl (cB, 32000, .inl mrows))]) hA hP hD hS [13] [0, 1, 2, 3, 4, 5, 6, 7, 8, 9, 10, 11, 12, 14] rfl rfl (by decide) (by decide) (rn_V (As := [.int (nI 6), .int (nI a_13)]) (rest := []) ⟨hx, hb, hml, hown, hts⟩ (cvV 2 hts zc_yX9_fail zi_X9 zm_yX9_fail zv_yX9_fail kX9_191 (by decide +kernel) rfl rfl ⟨Nat.le_of_ble_eq_true rfl, Nat.le_of_ble_eq_true rfl⟩) (m_fail l D cI cB cJ cR mm g_43 fu_14 pl_14 6 a_13 (fault_ht_14) (place_ht_14) (hf_14) H.size) hK hNw hMk hA hP hD hS [13] rfl rfl (by decide) 0 rfl rfl rfl rfl hl.1 rfl (Nat.le_of_ble_eq_true rfl) dX9_readWindow_113 ⟨Nat.le_of_ble_eq_true rfl, Nat.le_of_ble_eq_true rfl⟩) (fun u9 H locs w_47 hP hD hS => ?_)
              obtain ⟨g_48, fu2_49, pl2_50⟩ := u9
              try dsimp only at w_47
              have hP : va_P D vwCl [(Mtab, .inl (cB, 1536, .inl mtab)), (Mnears, .inl (cJ, 8, .inr (.inl mnears))), (Msames, .inl (cJ, 1024, .inr (.inl msames))), (Mout, .inl (cB, 4000, .inl mout)), (MoutFrom, .inl (cI, 4000, .inl moutFrom)), (Msource, .inl (cB, 4000, .inl msource)), (MsourceFrom, .inl (cI, 4000, .inl msourceFrom)), (MdKind, .inl (cI, 4000, .inl mdKind)), (MdSize, .inl (cI, 4000, .inl mdSize)), (MdAddress, .inl (cI, 4000, .inl mdAddress)), (MdMode, .inl (cI, 4000, .inl mdMode)), (MdCode, .inl (cI, 4000, .inl mdCode)), (MdWindow, .inl (cI, 4000, .inl mdWindow)), (Mrows, .inl (cB, 32000, .inl mrows)), (mm, .inr (9, fl 78 g_48))] H := hP
              have hD : va_D A0 [(Mtab, .inl (cB, 1536, .inl mtab)), (Mnears, .inl (cJ, 8, .inr (.inl mnears))), (Msames, .inl (cJ, 1024, .inr (.inl msames))), (Mout, .inl (cB, 4000, .inl mout)), (MoutFrom, .inl (cI, 4000, .inl moutFrom)), (Msource, .inl (cB, 4000, .inl msource)), (MsourceFrom, .inl (cI, 4000, .inl msourceFrom)), (MdKind, .inl (cI, 4000, .inl mdKind)), (MdSize, .inl (cI, 4000, .inl mdSize)), (MdAddress, .inl (cI, 4000, .inl mdAddress)), (MdMode, .inl (cI, 4000, .inl mdMode)), (MdCode, .inl (cI, 4000, .inl mdCode)), (MdWindow, .inl (cI, 4000, .inl mdWindow)), (Mrows, .inl (cB, 32000, .inl mrows)), (mm, .inr (9, fl 78 g_48))] := hD
              obtain ⟨f_w_47, fault_w_47, place_w_47, w_47_⟩ := w_47
              have k35_g_48 : g_48 35 = .int (nI e) := (f_w_47 35 (by decide)).trans (k35_g_43)
              have k33_g_48 : g_48 33 = .int (nI bs) := (f_w_47 33 (by decide)).trans (k33_g_43)
              have k29_g_48 : g_48 29 = .int (nI sn) := (f_w_47 29 (by decide)).trans (k29_g_43)
              have k8_g_48 : g_48 8 = .int (nI near) := (f_w_47 8 (by decide)).trans (k8_g_43)
              have k9_g_48 : g_48 9 = .int (nI same) := (f_w_47 9 (by decide)).trans (k9_g_43)
              have k39_g_48 : g_48 39 = .int (bI ct) := (f_w_47 39 (by decide)).trans (k39_g_43)
              have k38_g_48 : g_48 38 = .int (nI wr) := (f_w_47 38 (by decide)).trans (k38_g_43)
              have k1_g_48 : g_48 1 = .ref Mrows := (f_w_47 1 (by decide)).trans (k1_g_43)
              have k7_g_48 : g_48 7 = .ref Mtab := (f_w_47 7 (by decide)).trans (k7_g_43)
              have k10_g_48 : g_48 10 = .ref Mnears := (f_w_47 10 (by decide)).trans (k10_g_43)
              have k12_g_48 : g_48 12 = .ref Msames := (f_w_47 12 (by decide)).trans (k12_g_43)
              have k30_g_48 : g_48 30 = .ref Mout := (f_w_47 30 (by decide)).trans (k30_g_43)
              have k31_g_48 : g_48 31 = .ref MoutFrom := (f_w_47 31 (by decide)).trans (k31_g_43)
              have k27_g_48 : g_48 27 = .ref Msource := (f_w_47 27 (by decide)).trans (k27_g_43)
              have k28_g_48 : g_48 28 = .ref MsourceFrom := (f_w_47 28 (by decide)).trans (k28_g_43)
              have k21_g_48 : g_48 21 = .ref MdKind := (f_w_47 21 (by decide)).trans (k21_g_43)
              have k22_g_48 : g_48 22 = .ref MdSize := (f_w_47 22 (by decide)).trans (k22_g_43)
              have k23_g_48 : g_48 23 = .ref MdAddress := (f_w_47 23 (by decide)).trans (k23_g_43)
              have k24_g_48 : g_48 24 = .ref MdMode := (f_w_47 24 (by decide)).trans (k24_g_43)
              have k25_g_48 : g_48 25 = .ref MdCode := (f_w_47 25 (by decide)).trans (k25_g_43)
              have k26_g_48 : g_48 26 = .ref MdWindow := (f_w_47 26 (by decide)).trans (k26_g_43)
              have k32_g_48 : g_48 32 = .int (nI n) := (f_w_47 32 (by decide)).trans (k32_g_43)
              have k20_g_48 : g_48 20 = .int (nI dr) := (f_w_47 20 (by decide)).trans (k20_g_43)
              have k51_g_48 : g_48 51 = .int pa := (f_w_47 51 (by decide)).trans (k51_g_43)
              have k40_g_48 : g_48 40 = .int (nI v_1) := (f_w_47 40 (by decide)).trans (k40_g_43)
              have k41_g_48 : g_48 41 = .int (nI 0) := (f_w_47 41 (by decide)).trans (k41_g_43)
              have k42_g_48 : g_48 42 = .int (nI 0) := (f_w_47 42 (by decide)).trans (k42_g_43)
              have k34_g_48 : g_48 34 = .int (nI a_14) := (f_w_47 34 (by decide)).trans (at_ht_14)
              have fr_g_48 : frm [34, 32, 20, 36, 37, 51, 40, 41, 42, 43, 44, 45, 46, 47, 48, 49, 50, 11] g g_48 := frm_tr fr_g_43 f_w_47 (by decide)
              rw [if_pos hz_15] at w_47_
              obtain ⟨x1, x2⟩ := Prod.mk.inj w_47_
              exact G15 g_48 fu2_49 pl2_50 _ _ ls (fr_g_48) (k32_g_48) (k20_g_48) (k51_g_48) (k40_g_48) (k41_g_48) (k42_g_48) (fault_w_47) (place_w_47) (k34_g_48) (by rw [flI, if_pos ⟨hcd_15, hz_15⟩, x1, x2]) (by rw [x1]; decide) (hP.sub [14, 0, 1, 2, 3, 4, 5, 6, 7, 8, 9, 10, 11, 12, 13] rfl) (hD.sub [14, 0, 1, 2, 3, 4, 5, 6, 7, 8, 9, 10, 11, 12, 13] (by decide) rfl) hS (lv_sub hl [0, 1, 2, 3] rfl)
          · refine lv_aload_n hx hb dX9_readWindow_93 rfl (lv_at hl 3 rfl) ?_
            refine fx_get (D := D) (ci := 9) (v := .int (nI sn)) (C := RX9) (T := TX9) (N := 78) hx hb hts in_X9 hown hK hP 13 rfl rfl 29 (by decide) (hts _ kX9_204) (fun _ h9 => h9) (k29_g_43) dX9_readWindow_94 ?_
            refine lv_goto (tgt := 104) hx hb dX9_readWindow_97 (by decide) ?_
            refine lv_i2l hx hb dX9_readWindow_104 (v := (nI sn).toInt64) rfl ?_
            refine rl (y := lN sn) (nI_l (by omega)) ?_
            refine W.lcmp hx hb dX9_readWindow_105 ?_
            refine lv_if_le (tgt := 116) hx hb dX9_readWindow_106 (by decide) (fun c_52 => ?_) (fun c_52 => ?_)
            · exact G15 g_43 fu_14 pl_14 _ _ ls (fr_g_43) (k32_g_43) (k20_g_43) (k51_g_43) (k40_g_43) (k41_g_43) (k42_g_43) (fault_ht_14) (place_ht_14) (at_ht_14) (by rw [flI, if_neg (fun z => absurd z.1 (by rw [if_pos ((nI_eq (b := 1) (by omega) (by decide)).mp c_45)]; have := (pk_lLE (by omega) (by omega)).mp ((lg_cmp_le _ _).mp c_52); omega))]) (hf_14) (hP.sub [13, 0, 1, 2, 3, 4, 5, 6, 7, 8, 9, 10, 11, 12, 14] rfl) (hD.sub [13, 0, 1, 2, 3, 4, 5, 6, 7, 8, 9, 10, 11, 12, 14] (by decide) rfl) hS (lv_sub hl [0, 1, 2, 3] rfl)
            · have hcd_15 : (if v_1 = 1 then sn else n) < v_14 + v_13 := by rw [if_pos ((nI_eq (b := 1) (by omega) (by decide)).mp c_45)]; have := Nat.not_le.mp (fun w => c_52 ((lg_cmp_le _ _).mpr ((pk_lLE (by omega) (by omega)).mpr w))); omega
              refine lv_aload_n hx hb dX9_readWindow_109 rfl (lv_at hl 3 rfl) ?_
              refine lv_bipush (v := 6) hx hb dX9_readWindow_110 (by decide) ?_
              refine ri (y := nI 6) (rfl) ?_
              refine lv_iload_n hx hb dX9_readWindow_112 rfl (lv_at hl 1 rfl) ?_
              refine jn_v (wr := [(Mtab, .inl (cB, 1536, .inl mtab)), (Mnears, .inl (cJ, 8, .inr (.inl mnears))), (Msames, .inl (cJ, 1024, .inr (.inl msames))), (Mout, .inl (cB, 4000, .inl mout)), (MoutFrom, .inl (cI, 4000, .inl moutFrom)), (Msource, .inl (cB, 4000, .inl msource)), (MsourceFrom, .inl (cI, 4000, .inl msourceFrom)), (MdKind, .inl (cI, 4000, .inl mdKind)), (MdSize, .inl (cI, 4000, .inl mdSize)), (MdAddress, .inl (cI, 4000, .inl mdAddress)), (MdMode, .inl (cI, 4000, .inl mdMode)), (MdCode, .inl (cI, 4000, .inl mdCode)), (MdWindow, .inl (cI, 4000, .inl mdWindow)), (Mrows, .inl (cB, 32000, .inl mrows))]) hA hP hD hS [13] [0, 1, 2, 3, 4, 5, 6, 7, 8, 9, 10, 11, 12, 14] rfl rfl (by decide) (by decide) (rn_V (As := [.int (nI 6), .int (nI a_13)]) (rest := []) ⟨hx, hb, hml, hown, hts⟩ (cvV 2 hts zc_yX9_fail zi_X9 zm_yX9_fail zv_yX9_fail kX9_191 (by decide +kernel) rfl rfl ⟨Nat.le_of_ble_eq_true rfl, Nat.le_of_ble_eq_true rfl⟩) (m_fail l D cI cB cJ cR mm g_43 fu_14 pl_14 6 a_13 (fault_ht_14) (place_ht_14) (hf_14) H.size) hK hNw hMk hA hP hD hS [13] rfl rfl (by decide) 0 rfl rfl rfl rfl hl.1 rfl (Nat.le_of_ble_eq_true rfl) dX9_readWindow_113 ⟨Nat.le_of_ble_eq_true rfl, Nat.le_of_ble_eq_true rfl⟩) (fun u9 H locs w_53 hP hD hS => ?_)
              obtain ⟨g_54, fu2_55, pl2_56⟩ := u9
              try dsimp only at w_53
              have hP : va_P D vwCl [(Mtab, .inl (cB, 1536, .inl mtab)), (Mnears, .inl (cJ, 8, .inr (.inl mnears))), (Msames, .inl (cJ, 1024, .inr (.inl msames))), (Mout, .inl (cB, 4000, .inl mout)), (MoutFrom, .inl (cI, 4000, .inl moutFrom)), (Msource, .inl (cB, 4000, .inl msource)), (MsourceFrom, .inl (cI, 4000, .inl msourceFrom)), (MdKind, .inl (cI, 4000, .inl mdKind)), (MdSize, .inl (cI, 4000, .inl mdSize)), (MdAddress, .inl (cI, 4000, .inl mdAddress)), (MdMode, .inl (cI, 4000, .inl mdMode)), (MdCode, .inl (cI, 4000, .inl mdCode)), (MdWindow, .inl (cI, 4000, .inl mdWindow)), (Mrows, .inl (cB, 32000, .inl mrows)), (mm, .inr (9, fl 78 g_54))] H := hP
              have hD : va_D A0 [(Mtab, .inl (cB, 1536, .inl mtab)), (Mnears, .inl (cJ, 8, .inr (.inl mnears))), (Msames, .inl (cJ, 1024, .inr (.inl msames))), (Mout, .inl (cB, 4000, .inl mout)), (MoutFrom, .inl (cI, 4000, .inl moutFrom)), (Msource, .inl (cB, 4000, .inl msource)), (MsourceFrom, .inl (cI, 4000, .inl msourceFrom)), (MdKind, .inl (cI, 4000, .inl mdKind)), (MdSize, .inl (cI, 4000, .inl mdSize)), (MdAddress, .inl (cI, 4000, .inl mdAddress)), (MdMode, .inl (cI, 4000, .inl mdMode)), (MdCode, .inl (cI, 4000, .inl mdCode)), (MdWindow, .inl (cI, 4000, .inl mdWindow)), (Mrows, .inl (cB, 32000, .inl mrows)), (mm, .inr (9, fl 78 g_54))] := hD
              obtain ⟨f_w_53, fault_w_53, place_w_53, w_53_⟩ := w_53
              have k35_g_54 : g_54 35 = .int (nI e) := (f_w_53 35 (by decide)).trans (k35_g_43)
              have k33_g_54 : g_54 33 = .int (nI bs) := (f_w_53 33 (by decide)).trans (k33_g_43)
              have k29_g_54 : g_54 29 = .int (nI sn) := (f_w_53 29 (by decide)).trans (k29_g_43)
              have k8_g_54 : g_54 8 = .int (nI near) := (f_w_53 8 (by decide)).trans (k8_g_43)
              have k9_g_54 : g_54 9 = .int (nI same) := (f_w_53 9 (by decide)).trans (k9_g_43)
              have k39_g_54 : g_54 39 = .int (bI ct) := (f_w_53 39 (by decide)).trans (k39_g_43)
              have k38_g_54 : g_54 38 = .int (nI wr) := (f_w_53 38 (by decide)).trans (k38_g_43)
              have k1_g_54 : g_54 1 = .ref Mrows := (f_w_53 1 (by decide)).trans (k1_g_43)
              have k7_g_54 : g_54 7 = .ref Mtab := (f_w_53 7 (by decide)).trans (k7_g_43)
              have k10_g_54 : g_54 10 = .ref Mnears := (f_w_53 10 (by decide)).trans (k10_g_43)
              have k12_g_54 : g_54 12 = .ref Msames := (f_w_53 12 (by decide)).trans (k12_g_43)
              have k30_g_54 : g_54 30 = .ref Mout := (f_w_53 30 (by decide)).trans (k30_g_43)
              have k31_g_54 : g_54 31 = .ref MoutFrom := (f_w_53 31 (by decide)).trans (k31_g_43)
              have k27_g_54 : g_54 27 = .ref Msource := (f_w_53 27 (by decide)).trans (k27_g_43)
              have k28_g_54 : g_54 28 = .ref MsourceFrom := (f_w_53 28 (by decide)).trans (k28_g_43)
              have k21_g_54 : g_54 21 = .ref MdKind := (f_w_53 21 (by decide)).trans (k21_g_43)
              have k22_g_54 : g_54 22 = .ref MdSize := (f_w_53 22 (by decide)).trans (k22_g_43)
              have k23_g_54 : g_54 23 = .ref MdAddress := (f_w_53 23 (by decide)).trans (k23_g_43)
              have k24_g_54 : g_54 24 = .ref MdMode := (f_w_53 24 (by decide)).trans (k24_g_43)
              have k25_g_54 : g_54 25 = .ref MdCode := (f_w_53 25 (by decide)).trans (k25_g_43)
              have k26_g_54 : g_54 26 = .ref MdWindow := (f_w_53 26 (by decide)).trans (k26_g_43)
              have k32_g_54 : g_54 32 = .int (nI n) := (f_w_53 32 (by decide)).trans (k32_g_43)
              have k20_g_54 : g_54 20 = .int (nI dr) := (f_w_53 20 (by decide)).trans (k20_g_43)
              have k51_g_54 : g_54 51 = .int pa := (f_w_53 51 (by decide)).trans (k51_g_43)
              have k40_g_54 : g_54 40 = .int (nI v_1) := (f_w_53 40 (by decide)).trans (k40_g_43)
              have k41_g_54 : g_54 41 = .int (nI 0) := (f_w_53 41 (by decide)).trans (k41_g_43)
              have k42_g_54 : g_54 42 = .int (nI 0) := (f_w_53 42 (by decide)).trans (k42_g_43)
              have k34_g_54 : g_54 34 = .int (nI a_14) := (f_w_53 34 (by decide)).trans (at_ht_14)
              have fr_g_54 : frm [34, 32, 20, 36, 37, 51, 40, 41, 42, 43, 44, 45, 46, 47, 48, 49, 50, 11] g g_54 := frm_tr fr_g_43 f_w_53 (by decide)
              rw [if_pos hz_15] at w_53_
              obtain ⟨x1, x2⟩ := Prod.mk.inj w_53_
              exact G15 g_54 fu2_55 pl2_56 _ _ ls (fr_g_54) (k32_g_54) (k20_g_54) (k51_g_54) (k40_g_54) (k41_g_54) (k42_g_54) (fault_w_53) (place_w_53) (k34_g_54) (by rw [flI, if_pos ⟨hcd_15, hz_15⟩, x1, x2]) (by rw [x1]; decide) (hP.sub [14, 0, 1, 2, 3, 4, 5, 6, 7, 8, 9, 10, 11, 12, 13] rfl) (hD.sub [14, 0, 1, 2, 3, 4, 5, 6, 7, 8, 9, 10, 11, 12, 13] (by decide) rfl) hS (lv_sub hl [0, 1, 2, 3] rfl)
  refine lv_aload_n hx hb dX9_readWindow_23 rfl (lv_at hl 1 rfl) ?_
  refine fx_get (D := D) (ci := 9) (v := .int (nI fu_1)) (C := RX9) (T := TX9) (N := 78) hx hb hts in_X9 hown hK hP 13 rfl rfl 36 (by decide) (hts _ kX9_179) (fun _ h9 => h9) (fault_ht_1) dX9_readWindow_24 ?_
  refine lv_if_ne (tgt := 44) hx hb dX9_readWindow_27 (by decide) (fun c_58 => ?_) (fun c_58 => ?_)
  · have hz : ¬ fu_1 = 0 := fun z => c_58 (by rw [z]; decide)
    exact G2 (va_up (va_up (va_up g_1 40 (.int (nI v_1))) 41 (.int (nI 0))) 42 (.int (nI 0))) fu_1 pl_1 _ _ ls ((frm_up (frm_up (frm_up fr_g_1 (by decide)) (by decide)) (by decide))) (k32_g_1) (k20_g_1) (k51_g_1) (fault_ht_1) (place_ht_1) (at_ht_1) (rfl) (rfl) (rfl) (flI_st hz) (hf_1) (hP.sub [13, 0, 1, 2, 3, 4, 5, 6, 7, 8, 9, 10, 11, 12, 14] rfl) (hD.sub [13, 0, 1, 2, 3, 4, 5, 6, 7, 8, 9, 10, 11, 12, 14] (by decide) rfl) hS (lv_sub hl [0, 1] rfl)
  · have hz_2 : fu_1 = 0 := Decidable.byContradiction (fun z => nI_ne0 (Nat.pos_of_ne_zero z) hf_1 c_58)
    refine lv_aload_n hx hb dX9_readWindow_30 rfl (lv_at hl 1 rfl) ?_
    refine fx_get (D := D) (ci := 9) (v := .int (nI v_1)) (C := RX9) (T := TX9) (N := 78) hx hb hts in_X9 hown hK hP 13 rfl rfl 40 (by decide) (hts _ kX9_246) (fun _ h9 => h9) (rfl) dX9_readWindow_31 ?_
    refine lv_iconst (v := 2) hx hb dX9_readWindow_34 (by decide) ?_
    refine lv_icmp_le (tgt := 44) hx hb dX9_readWindow_35 (by decide) (fun c_59 => ?_) (fun c_59 => ?_)
    · exact G2 (va_up (va_up (va_up g_1 40 (.int (nI v_1))) 41 (.int (nI 0))) 42 (.int (nI 0))) fu_1 pl_1 _ _ ls ((frm_up (frm_up (frm_up fr_g_1 (by decide)) (by decide)) (by decide))) (k32_g_1) (k20_g_1) (k51_g_1) (fault_ht_1) (place_ht_1) (at_ht_1) (rfl) (rfl) (rfl) (by rw [flI, if_neg (fun z => absurd z.1 (Nat.not_lt.mpr ((nI_leI (b := 2) (by omega) (by decide)).mp c_59)))]) (hf_1) (hP.sub [13, 0, 1, 2, 3, 4, 5, 6, 7, 8, 9, 10, 11, 12, 14] rfl) (hD.sub [13, 0, 1, 2, 3, 4, 5, 6, 7, 8, 9, 10, 11, 12, 14] (by decide) rfl) hS (lv_sub hl [0, 1] rfl)
    · have hcd_2 : 2 < v_1 := Nat.not_le.mp (fun q => c_59 (nI_le (b := 2) q (by decide)))
      refine lv_aload_n hx hb dX9_readWindow_38 rfl (lv_at hl 1 rfl) ?_
      refine lv_iconst (v := 5) hx hb dX9_readWindow_39 (by decide) ?_
      refine ri (y := nI 5) (rfl) ?_
      refine lv_iload_n hx hb dX9_readWindow_40 rfl (lv_at hl 0 rfl) ?_
      refine jn_v (wr := [(Mtab, .inl (cB, 1536, .inl mtab)), (Mnears, .inl (cJ, 8, .inr (.inl mnears))), (Msames, .inl (cJ, 1024, .inr (.inl msames))), (Mout, .inl (cB, 4000, .inl mout)), (MoutFrom, .inl (cI, 4000, .inl moutFrom)), (Msource, .inl (cB, 4000, .inl msource)), (MsourceFrom, .inl (cI, 4000, .inl msourceFrom)), (MdKind, .inl (cI, 4000, .inl mdKind)), (MdSize, .inl (cI, 4000, .inl mdSize)), (MdAddress, .inl (cI, 4000, .inl mdAddress)), (MdMode, .inl (cI, 4000, .inl mdMode)), (MdCode, .inl (cI, 4000, .inl mdCode)), (MdWindow, .inl (cI, 4000, .inl mdWindow)), (Mrows, .inl (cB, 32000, .inl mrows))]) hA hP hD hS [13] [0, 1, 2, 3, 4, 5, 6, 7, 8, 9, 10, 11, 12, 14] rfl rfl (by decide) (by decide) (rn_V (As := [.int (nI 5), .int (nI a)]) (rest := []) ⟨hx, hb, hml, hown, hts⟩ (cvV 2 hts zc_yX9_fail zi_X9 zm_yX9_fail zv_yX9_fail kX9_191 (by decide +kernel) rfl rfl ⟨Nat.le_of_ble_eq_true rfl, Nat.le_of_ble_eq_true rfl⟩) (m_fail l D cI cB cJ cR mm (va_up (va_up (va_up g_1 40 (.int (nI v_1))) 41 (.int (nI 0))) 42 (.int (nI 0))) fu_1 pl_1 5 a (fault_ht_1) (place_ht_1) (hf_1) H.size) hK hNw hMk hA hP hD hS [13] rfl rfl (by decide) 0 rfl rfl rfl rfl hl.1 rfl (Nat.le_of_ble_eq_true rfl) dX9_readWindow_41 ⟨Nat.le_of_ble_eq_true rfl, Nat.le_of_ble_eq_true rfl⟩) (fun u9 H locs w_60 hP hD hS => ?_)
      obtain ⟨g_61, fu2_62, pl2_63⟩ := u9
      try dsimp only at w_60
      have hP : va_P D vwCl [(Mtab, .inl (cB, 1536, .inl mtab)), (Mnears, .inl (cJ, 8, .inr (.inl mnears))), (Msames, .inl (cJ, 1024, .inr (.inl msames))), (Mout, .inl (cB, 4000, .inl mout)), (MoutFrom, .inl (cI, 4000, .inl moutFrom)), (Msource, .inl (cB, 4000, .inl msource)), (MsourceFrom, .inl (cI, 4000, .inl msourceFrom)), (MdKind, .inl (cI, 4000, .inl mdKind)), (MdSize, .inl (cI, 4000, .inl mdSize)), (MdAddress, .inl (cI, 4000, .inl mdAddress)), (MdMode, .inl (cI, 4000, .inl mdMode)), (MdCode, .inl (cI, 4000, .inl mdCode)), (MdWindow, .inl (cI, 4000, .inl mdWindow)), (Mrows, .inl (cB, 32000, .inl mrows)), (mm, .inr (9, fl 78 g_61))] H := hP
      have hD : va_D A0 [(Mtab, .inl (cB, 1536, .inl mtab)), (Mnears, .inl (cJ, 8, .inr (.inl mnears))), (Msames, .inl (cJ, 1024, .inr (.inl msames))), (Mout, .inl (cB, 4000, .inl mout)), (MoutFrom, .inl (cI, 4000, .inl moutFrom)), (Msource, .inl (cB, 4000, .inl msource)), (MsourceFrom, .inl (cI, 4000, .inl msourceFrom)), (MdKind, .inl (cI, 4000, .inl mdKind)), (MdSize, .inl (cI, 4000, .inl mdSize)), (MdAddress, .inl (cI, 4000, .inl mdAddress)), (MdMode, .inl (cI, 4000, .inl mdMode)), (MdCode, .inl (cI, 4000, .inl mdCode)), (MdWindow, .inl (cI, 4000, .inl mdWindow)), (Mrows, .inl (cB, 32000, .inl mrows)), (mm, .inr (9, fl 78 g_61))] := hD
      obtain ⟨f_w_60, fault_w_60, place_w_60, w_60_⟩ := w_60
      have k35_g_61 : g_61 35 = .int (nI e) := (f_w_60 35 (by decide)).trans (k35_g_1)
      have k33_g_61 : g_61 33 = .int (nI bs) := (f_w_60 33 (by decide)).trans (k33_g_1)
      have k32_g_61 : g_61 32 = .int (nI n) := (f_w_60 32 (by decide)).trans (k32_g_1)
      have k29_g_61 : g_61 29 = .int (nI sn) := (f_w_60 29 (by decide)).trans (k29_g_1)
      have k8_g_61 : g_61 8 = .int (nI near) := (f_w_60 8 (by decide)).trans (k8_g_1)
      have k9_g_61 : g_61 9 = .int (nI same) := (f_w_60 9 (by decide)).trans (k9_g_1)
      have k39_g_61 : g_61 39 = .int (bI ct) := (f_w_60 39 (by decide)).trans (k39_g_1)
      have k38_g_61 : g_61 38 = .int (nI wr) := (f_w_60 38 (by decide)).trans (k38_g_1)
      have k20_g_61 : g_61 20 = .int (nI dr) := (f_w_60 20 (by decide)).trans (k20_g_1)
      have k51_g_61 : g_61 51 = .int pa := (f_w_60 51 (by decide)).trans (k51_g_1)
      have k1_g_61 : g_61 1 = .ref Mrows := (f_w_60 1 (by decide)).trans (k1_g_1)
      have k7_g_61 : g_61 7 = .ref Mtab := (f_w_60 7 (by decide)).trans (k7_g_1)
      have k10_g_61 : g_61 10 = .ref Mnears := (f_w_60 10 (by decide)).trans (k10_g_1)
      have k12_g_61 : g_61 12 = .ref Msames := (f_w_60 12 (by decide)).trans (k12_g_1)
      have k30_g_61 : g_61 30 = .ref Mout := (f_w_60 30 (by decide)).trans (k30_g_1)
      have k31_g_61 : g_61 31 = .ref MoutFrom := (f_w_60 31 (by decide)).trans (k31_g_1)
      have k27_g_61 : g_61 27 = .ref Msource := (f_w_60 27 (by decide)).trans (k27_g_1)
      have k28_g_61 : g_61 28 = .ref MsourceFrom := (f_w_60 28 (by decide)).trans (k28_g_1)
      have k21_g_61 : g_61 21 = .ref MdKind := (f_w_60 21 (by decide)).trans (k21_g_1)
      have k22_g_61 : g_61 22 = .ref MdSize := (f_w_60 22 (by decide)).trans (k22_g_1)
      have k23_g_61 : g_61 23 = .ref MdAddress := (f_w_60 23 (by decide)).trans (k23_g_1)
      have k24_g_61 : g_61 24 = .ref MdMode := (f_w_60 24 (by decide)).trans (k24_g_1)
      have k25_g_61 : g_61 25 = .ref MdCode := (f_w_60 25 (by decide)).trans (k25_g_1)
      have k26_g_61 : g_61 26 = .ref MdWindow := (f_w_60 26 (by decide)).trans (k26_g_1)
      have k34_g_61 : g_61 34 = .int (nI a_1) := (f_w_60 34 (by decide)).trans (at_ht_1)
      have k40_g_61 : g_61 40 = .int (nI v_1) := (f_w_60 40 (by decide)).trans (rfl)
      have k41_g_61 : g_61 41 = .int (nI 0) := (f_w_60 41 (by decide)).trans (rfl)
      have k42_g_61 : g_61 42 = .int (nI 0) := (f_w_60 42 (by decide)).trans (rfl)
      have fr_g_61 : frm [34, 32, 20, 36, 37, 51, 40, 41, 42, 43, 44, 45, 46, 47, 48, 49, 50, 11] g g_61 := frm_tr (frm_up (frm_up (frm_up fr_g_1 (by decide)) (by decide)) (by decide)) f_w_60 (by decide)
      rw [if_pos hz_2] at w_60_
      obtain ⟨x1, x2⟩ := Prod.mk.inj w_60_
      exact G2 g_61 fu2_62 pl2_63 _ _ ls (fr_g_61) (k32_g_61) (k20_g_61) (k51_g_61) (fault_w_60) (place_w_60) (k34_g_61) (k40_g_61) (k41_g_61) (k42_g_61) (by rw [flI, if_pos ⟨hcd_2, hz_2⟩, x1, x2]) (by rw [x1]; decide) (hP.sub [14, 0, 1, 2, 3, 4, 5, 6, 7, 8, 9, 10, 11, 12, 13] rfl) (hD.sub [14, 0, 1, 2, 3, 4, 5, 6, 7, 8, 9, 10, 11, 12, 13] (by decide) rfl) hS (lv_sub hl [0, 1] rfl)
