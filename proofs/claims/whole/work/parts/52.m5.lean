theorem rdA_le {b : Nat → Nat} {ae near md aa : Nat} (h : aa ≤ ae) : (rdA b ae near md aa).2.2 ≤ ae := by
  unfold rdA
  split
  · split
    · show aa + 1 ≤ ae; omega
    · exact h
  · exact (rdN_at 5 aa 0).2.2 h
set_option maxHeartbeats 4000000 in
set_option maxRecDepth 100000 in
theorem m_part (l : Launch) (D : va_G) (cI cB cJ cR : ClassId) (mm : Nat) (g : Nat → Value) (Mrows : Nat) (Mtab : Nat) (Mnears : Nat) (Msames : Nat) (Mout : Nat) (MoutFrom : Nat) (Msource : Nat) (MsourceFrom : Nat) (MdKind : Nat) (MdSize : Nat) (MdAddress : Nat) (MdMode : Nat) (MdCode : Nat) (MdWindow : Nat) (mrows : Nat → Int32) (mtab : Nat → Int32) (mnears : Nat → Int64) (msames : Nat → Int64) (mout : Nat → Int32) (moutFrom : Nat → Int32) (msource : Nat → Int32) (msourceFrom : Nat → Int32) (mdKind : Nat → Int32) (mdSize : Nat → Int32) (mdAddress : Nat → Int32) (mdMode : Nat → Int32) (mdCode : Nat → Int32) (mdWindow : Nat → Int32) (bs : Nat) (eD : Nat) (cc : Nat) (ce : Nat) (n : Nat) (ww : Nat) (wl : Nat) (da : Nat) (de : Nat) (aa : Nat) (ae : Nat) (near : Nat) (same : Nat) (nx : Nat) (kk : Nat) (zz : Nat) (ff : Nat) (wr : Nat) (dr : Nat) (fu : Nat) (pl : Nat) (sn : Nat) (cnt : Nat) (wn : Nat) (pa : Int32) (b : Nat → Nat) (tt : Nat → Nat) (sB : Nat → Nat) (cN : Nat → Nat) (cS : Nat → Nat) (B : Nat → Nat) (G : Nat → Int32) (sG : Nat → Int32) (gg : Nat → Nat → Int32) (ct : Bool) (c : Nat) (q : Nat) (wh : Nat) (g_codeAt : g 47 = .int (nI cc)) (g_codeEnd : g 48 = .int (nI ce)) (g_partAt : g 51 = .int pa) (g_base : g 33 = .int (nI bs)) (g_outSize : g 32 = .int (nI n)) (g_begun : g 43 = .int (nI ww)) (g_will : g 44 = .int (nI wl)) (g_dataAt : g 45 = .int (nI da)) (g_dataEnd : g 46 = .int (nI de)) (g_addressAt : g 49 = .int (nI aa)) (g_addressEnd : g 50 = .int (nI ae)) (g_near : g 8 = .int (nI near)) (g_same : g 9 = .int (nI same)) (g_nextNear : g 11 = .int (nI nx)) (g_segment : g 40 = .int (nI kk)) (g_segmentSize : g 41 = .int (nI zz)) (g_segmentAt : g 42 = .int (nI ff)) (g_counts : g 39 = .int (bI ct)) (g_windows : g 38 = .int (nI wr)) (g_drafts : g 20 = .int (nI dr)) (g_fault : g 36 = .int (nI fu)) (g_place : g 37 = .int (nI pl)) (g_rows : g 1 = .ref Mrows) (g_tab : g 7 = .ref Mtab) (g_nears : g 10 = .ref Mnears) (g_sames : g 12 = .ref Msames) (g_out : g 30 = .ref Mout) (g_outFrom : g 31 = .ref MoutFrom) (g_source : g 27 = .ref Msource) (g_sourceFrom : g 28 = .ref MsourceFrom) (g_dKind : g 21 = .ref MdKind) (g_dSize : g 22 = .ref MdSize) (g_dAddress : g 23 = .ref MdAddress) (g_dMode : g 24 = .ref MdMode) (g_dCode : g 25 = .ref MdCode) (g_dWindow : g 26 = .ref MdWindow) (heD : bs + eD ≤ 32000 ∧ de ≤ eD ∧ ce ≤ eD ∧ ae ≤ eD) (hps : da ≤ de ∧ cc ≤ ce ∧ aa ≤ ae) (hob : ∀ j, j < eD → mrows (bs + j) = s8 (b j) ∧ b j < 256) (ht : bys mtab tt 1536) (hrt : rightP tt (near + same + 2) 512) (h8 : near ≤ 8) (h4 : same ≤ 4) (hnx : nx < 8 ∧ (0 < near → nx < near)) (hc : chR mnears msames cN cS) (hcN : ∀ j, j < 8 → cN j < 2 ^ 30) (hcS : ∀ j, j < 1024 → cS j < 2 ^ 30) (ho : outR mout moutFrom (B, G, n)) (hsr : bys msource sB sn) (hsf : ∀ i, i < sn → msourceFrom i = sG i) (hsn : sn ≤ 4000) (hk1 : kk = 1 → ff + zz ≤ sn) (hk2 : ¬ kk = 1 → ff + zz ≤ n) (hww : ww ≤ n) (hwe : n ≤ ww + wl ∧ ww + wl ≤ 4000) (hzz : zz < 2 ^ 24 ∧ ff < 2 ^ 24) (hk3 : kk < 256) (hcn : cnt < 2 ^ 28) (hct : ct = true → dr = cnt ∧ wr = wn ∧ dRel mdKind mdSize mdAddress mdMode mdCode mdWindow gg cnt) (h0 : fu = 0) (hcc : c < 256) (hqq : q < 2) (hk0 : ¬ tt (q * 256 + c) = 0) : CMv l yX9_part cX9_part 11 none ({ frames := 2, cells := 0, slots := 0, locals := 54 }) D (tyA cI cB cJ cR) 0 0 [.ref mm, .int (nI c), .int (nI q), .int (nI wh)] [(mm, .inr (9, fl 78 g)), (Mrows, .inl (cB, 32000, .inl mrows)), (Mtab, .inl (cB, 1536, .inl mtab)), (Mnears, .inl (cJ, 8, .inr (.inl mnears))), (Msames, .inl (cJ, 1024, .inr (.inl msames))), (Mout, .inl (cB, 4000, .inl mout)), (MoutFrom, .inl (cI, 4000, .inl moutFrom)), (Msource, .inl (cB, 4000, .inl msource)), (MsourceFrom, .inl (cI, 4000, .inl msourceFrom)), (MdKind, .inl (cI, 4000, .inl mdKind)), (MdSize, .inl (cI, 4000, .inl mdSize)), (MdAddress, .inl (cI, 4000, .inl mdAddress)), (MdMode, .inl (cI, 4000, .inl mdMode)), (MdCode, .inl (cI, 4000, .inl mdCode)), (MdWindow, .inl (cI, 4000, .inl mdWindow))] (fun (u9 : (Nat → Value) × Nat × Int32 × Nat × Nat × Int32 × Nat × Nat × Nat × Nat × Nat × Nat × (Nat → Nat) × (Nat → Nat) × (Nat → Nat) × (Nat → Int32) × (Nat → Nat → Int32) × (Nat → Int64) × (Nat → Int64) × (Nat → Int32) × (Nat → Int32) × (Nat → Int32) × (Nat → Int32) × (Nat → Int32) × (Nat → Int32) × (Nat → Int32) × (Nat → Int32)) => match u9 with | (g9, cc2, pa2, n2, da2, av2, aa2, nx2, dr2, fu2, pl2, cnt2, cN2, cS2, B2, G2, gg2, fn2, fs2, o2, of2, dKind2, dSize2, dAddress2, dMode2, dCode2, dWindow2) => frm [47, 51, 32, 45, 49, 11, 20, 36, 37] g g9 ∧ g9 47 = .int (nI cc2) ∧ g9 51 = .int pa2 ∧ g9 32 = .int (nI n2) ∧ g9 45 = .int (nI da2) ∧ g9 49 = .int av2 ∧ g9 11 = .int (nI nx2) ∧ g9 20 = .int (nI dr2) ∧ g9 36 = .int (nI fu2) ∧ g9 37 = .int (nI pl2) ∧ (¬ fu2 = 0 → ptF b ce de ae near same kk zz ff ww (ww + wl) wn tt sB sG c q (cc, da, aa, nx, cN, cS, (B, G, n), gg, cnt) = (fu2, (cc, da, aa, nx, cN, cS, (B, G, n), gg, cnt)) ∧ pl2 = wh ∧ n2 = n ∧ dr2 = dr ∧ (ct = true → dRel dKind2 dSize2 dAddress2 dMode2 dCode2 dWindow2 gg cnt)) ∧ (fu2 = 0 → pl2 = pl ∧ av2 = nI aa2 ∧ ptF b ce de ae near same kk zz ff ww (ww + wl) wn tt sB sG c q (cc, da, aa, nx, cN, cS, (B, G, n), gg, cnt) = (0, cc2, da2, aa2, nx2, cN2, cS2, (B2, G2, n2), gg2, cnt2) ∧ da2 ≤ de ∧ cc2 ≤ ce ∧ aa2 ≤ ae ∧ cc ≤ cc2 ∧ n ≤ n2 ∧ n2 ≤ ww + wl ∧ outR o2 of2 (B2, G2, n2) ∧ cnt2 ≤ cnt + 1 ∧ (ct = true → dr2 = cnt2 ∧ dRel dKind2 dSize2 dAddress2 dMode2 dCode2 dWindow2 gg2 cnt2) ∧ (nx2 < 8 ∧ (0 < near → nx2 < near)) ∧ chR fn2 fs2 cN2 cS2 ∧ (∀ j, j < 8 → cN2 j < 2 ^ 30) ∧ ∀ j, j < 1024 → cS2 j < 2 ^ 30) ∧ fu2 < 2 ^ 31 ∧ (ct = false → dr2 = dr)) (fun (u9 : (Nat → Value) × Nat × Int32 × Nat × Nat × Int32 × Nat × Nat × Nat × Nat × Nat × Nat × (Nat → Nat) × (Nat → Nat) × (Nat → Nat) × (Nat → Int32) × (Nat → Nat → Int32) × (Nat → Int64) × (Nat → Int64) × (Nat → Int32) × (Nat → Int32) × (Nat → Int32) × (Nat → Int32) × (Nat → Int32) × (Nat → Int32) × (Nat → Int32) × (Nat → Int32)) => match u9 with | (g9, cc2, pa2, n2, da2, av2, aa2, nx2, dr2, fu2, pl2, cnt2, cN2, cS2, B2, G2, gg2, fn2, fs2, o2, of2, dKind2, dSize2, dAddress2, dMode2, dCode2, dWindow2) => [(mm, .inr (9, fl 78 g9)), (Mrows, .inl (cB, 32000, .inl mrows)), (Mtab, .inl (cB, 1536, .inl mtab)), (Mnears, .inl (cJ, 8, .inr (.inl fn2))), (Msames, .inl (cJ, 1024, .inr (.inl fs2))), (Mout, .inl (cB, 4000, .inl o2)), (MoutFrom, .inl (cI, 4000, .inl of2)), (Msource, .inl (cB, 4000, .inl msource)), (MsourceFrom, .inl (cI, 4000, .inl msourceFrom)), (MdKind, .inl (cI, 4000, .inl dKind2)), (MdSize, .inl (cI, 4000, .inl dSize2)), (MdAddress, .inl (cI, 4000, .inl dAddress2)), (MdMode, .inl (cI, 4000, .inl dMode2)), (MdCode, .inl (cI, 4000, .inl dCode2)), (MdWindow, .inl (cI, 4000, .inl dWindow2))]) := by
  refine st_v (cc := cX9_part) (maxL := 11) (by decide) (Nat.le_of_ble_eq_true rfl) ?_
  intro p0 e0 s0 m0 below meth c0 A0 Q0 hBD hret hP hD hS ls hl
  obtain ⟨hx, hb, hml, hown, hts, hnm, hK, hNw, hMk, hA⟩ := hBD
  have hl : lv_has ls 11 [(0, .ref mm), (1, .int (nI c)), (2, .int (nI q)), (3, .int (nI wh))] := hl
  have hP : va_P D vwCl [(mm, .inr (9, fl 78 g)), (Mrows, .inl (cB, 32000, .inl mrows)), (Mtab, .inl (cB, 1536, .inl mtab)), (Mnears, .inl (cJ, 8, .inr (.inl mnears))), (Msames, .inl (cJ, 1024, .inr (.inl msames))), (Mout, .inl (cB, 4000, .inl mout)), (MoutFrom, .inl (cI, 4000, .inl moutFrom)), (Msource, .inl (cB, 4000, .inl msource)), (MsourceFrom, .inl (cI, 4000, .inl msourceFrom)), (MdKind, .inl (cI, 4000, .inl mdKind)), (MdSize, .inl (cI, 4000, .inl mdSize)), (MdAddress, .inl (cI, 4000, .inl mdAddress)), (MdMode, .inl (cI, 4000, .inl mdMode)), (MdCode, .inl (cI, 4000, .inl mdCode)), (MdWindow, .inl (cI, 4000, .inl mdWindow))] s0.heap := hP
  have hD : va_D A0 [(mm, .inr (9, fl 78 g)), (Mrows, .inl (cB, 32000, .inl mrows)), (Mtab, .inl (cB, 1536, .inl mtab)), (Mnears, .inl (cJ, 8, .inr (.inl mnears))), (Msames, .inl (cJ, 1024, .inr (.inl msames))), (Mout, .inl (cB, 4000, .inl mout)), (MoutFrom, .inl (cI, 4000, .inl moutFrom)), (Msource, .inl (cB, 4000, .inl msource)), (MsourceFrom, .inl (cI, 4000, .inl msourceFrom)), (MdKind, .inl (cI, 4000, .inl mdKind)), (MdSize, .inl (cI, 4000, .inl mdSize)), (MdAddress, .inl (cI, 4000, .inl mdAddress)), (MdMode, .inl (cI, 4000, .inl mdMode)), (MdCode, .inl (cI, 4000, .inl mdCode)), (MdWindow, .inl (cI, 4000, .inl mdWindow))] := hD
  obtain ⟨heD1, hdD, hcD, haD⟩ := heD
  obtain ⟨hda, hca, haa⟩ := hps
  have e1 := (ht (q * 256 + c) (by omega)).2
  have e2 := (ht (512 + q * 256 + c) (by omega)).2
  have e3 := (ht (1024 + q * 256 + c) (by omega)).2
  have hrt1 := hrt (q * 256 + c) (by omega)
  rw [show 1024 + (q * 256 + c) = 1024 + q * 256 + c by omega] at hrt1
  have hfl : fu < 2 ^ 31 := by omega
  refine lv_aload_n hx hb dX9_part_0 rfl (lv_at hl 0 rfl) ?_
  refine lv_iload_n hx hb dX9_part_1 rfl (lv_at hl 1 rfl) ?_
  refine lv_iload_n hx hb dX9_part_2 rfl (lv_at hl 2 rfl) ?_
  refine jn_i (wr := [(Mrows, .inl (cB, 32000, .inl mrows)), (Mnears, .inl (cJ, 8, .inr (.inl mnears))), (Msames, .inl (cJ, 1024, .inr (.inl msames))), (Mout, .inl (cB, 4000, .inl mout)), (MoutFrom, .inl (cI, 4000, .inl moutFrom)), (Msource, .inl (cB, 4000, .inl msource)), (MsourceFrom, .inl (cI, 4000, .inl msourceFrom)), (MdKind, .inl (cI, 4000, .inl mdKind)), (MdSize, .inl (cI, 4000, .inl mdSize)), (MdAddress, .inl (cI, 4000, .inl mdAddress)), (MdMode, .inl (cI, 4000, .inl mdMode)), (MdCode, .inl (cI, 4000, .inl mdCode)), (MdWindow, .inl (cI, 4000, .inl mdWindow))]) hA hP hD hS [0, 2] [1, 3, 4, 5, 6, 7, 8, 9, 10, 11, 12, 13, 14] rfl rfl (by decide) (by decide) (rn_V (As := [.int (nI c), .int (nI q)]) (rest := []) ⟨hx, hb, hml, hown, hts⟩ (cvV 2 hts zc_yX9_sizeOf zi_X9 zm_yX9_sizeOf zv_yX9_sizeOf kX9_298 (by decide +kernel) rfl rfl ⟨Nat.le_of_ble_eq_true rfl, Nat.le_of_ble_eq_true rfl⟩) (m_sizeOf l D cI cB cJ cR mm g Mtab mtab tt c q (g_tab) (ht) (hcc) (hqq) s0.heap.size) hK hNw hMk hA hP hD hS [0, 2] rfl rfl (by decide) 0 rfl rfl rfl rfl hl.1 rfl (Nat.le_of_ble_eq_true rfl) dX9_part_3 ⟨Nat.le_of_ble_eq_true rfl, Nat.le_of_ble_eq_true rfl⟩) (fun r_3 u9 H locs w_1 hP hD hS => ?_)
  try dsimp only at w_1
  have hP : va_P D vwCl [(Mrows, .inl (cB, 32000, .inl mrows)), (Mnears, .inl (cJ, 8, .inr (.inl mnears))), (Msames, .inl (cJ, 1024, .inr (.inl msames))), (Mout, .inl (cB, 4000, .inl mout)), (MoutFrom, .inl (cI, 4000, .inl moutFrom)), (Msource, .inl (cB, 4000, .inl msource)), (MsourceFrom, .inl (cI, 4000, .inl msourceFrom)), (MdKind, .inl (cI, 4000, .inl mdKind)), (MdSize, .inl (cI, 4000, .inl mdSize)), (MdAddress, .inl (cI, 4000, .inl mdAddress)), (MdMode, .inl (cI, 4000, .inl mdMode)), (MdCode, .inl (cI, 4000, .inl mdCode)), (MdWindow, .inl (cI, 4000, .inl mdWindow)), (mm, .inr (9, fl 78 g)), (Mtab, .inl (cB, 1536, .inl mtab))] H := hP
  have hD : va_D A0 [(Mrows, .inl (cB, 32000, .inl mrows)), (Mnears, .inl (cJ, 8, .inr (.inl mnears))), (Msames, .inl (cJ, 1024, .inr (.inl msames))), (Mout, .inl (cB, 4000, .inl mout)), (MoutFrom, .inl (cI, 4000, .inl moutFrom)), (Msource, .inl (cB, 4000, .inl msource)), (MsourceFrom, .inl (cI, 4000, .inl msourceFrom)), (MdKind, .inl (cI, 4000, .inl mdKind)), (MdSize, .inl (cI, 4000, .inl mdSize)), (MdAddress, .inl (cI, 4000, .inl mdAddress)), (MdMode, .inl (cI, 4000, .inl mdMode)), (MdCode, .inl (cI, 4000, .inl mdCode)), (MdWindow, .inl (cI, 4000, .inl mdWindow)), (mm, .inr (9, fl 78 g)), (Mtab, .inl (cB, 1536, .inl mtab))] := hD
  subst w_1
  refine lv_i2l hx hb dX9_part_6 (v := (nI (tt (512 + q * 256 + c))).toInt64) rfl ?_
  refine rl (y := lN (tt (512 + q * 256 + c))) (nI_l (by omega)) ?_
  refine lv_lstore (lv' := [(4, .long (lN (tt (512 + q * 256 + c)))), (0, .ref mm), (1, .int (nI c)), (2, .int (nI q)), (3, .int (nI wh))]) hx hb dX9_part_7 hl (by decide) rfl (fun ls hl => ?_)
  refine lv_lload hx hb dX9_part_9 (lv_at hl 0 rfl) ?_
  refine lv_lconst (v := 0) hx hb dX9_part_11 (by decide) ?_
  refine W.lcmp hx hb dX9_part_12 ?_
  have JS : ∀ (gj_JS : Nat → Value) (z : Nat) (c2 : Nat) (pb : Int32) (H : Heap) (locs : List Loc) (ls : Array Slot), (frm [47, 51, 32, 45, 49, 11, 20, 36, 37] g gj_JS) → (gj_JS 47 = .int (nI c2)) → (gj_JS 51 = .int pb) → (gj_JS 32 = .int (nI n)) → (gj_JS 45 = .int (nI da)) → (gj_JS 49 = .int (nI aa)) → (gj_JS 11 = .int (nI nx)) → (gj_JS 20 = .int (nI dr)) → (gj_JS 36 = .int (nI fu)) → (gj_JS 37 = .int (nI pl)) → (rdZ b ce (tt (512 + q * 256 + c)) cc = (0, z, c2)) → (c2 ≤ ce) → (cc ≤ c2) → (z ≤ 2147483647) → va_P D vwCl [(mm, .inr (9, fl 78 gj_JS)), (Mrows, .inl (cB, 32000, .inl mrows)), (Mnears, .inl (cJ, 8, .inr (.inl mnears))), (Msames, .inl (cJ, 1024, .inr (.inl msames))), (Mout, .inl (cB, 4000, .inl mout)), (MoutFrom, .inl (cI, 4000, .inl moutFrom)), (Msource, .inl (cB, 4000, .inl msource)), (MsourceFrom, .inl (cI, 4000, .inl msourceFrom)), (MdKind, .inl (cI, 4000, .inl mdKind)), (MdSize, .inl (cI, 4000, .inl mdSize)), (MdAddress, .inl (cI, 4000, .inl mdAddress)), (MdMode, .inl (cI, 4000, .inl mdMode)), (MdCode, .inl (cI, 4000, .inl mdCode)), (MdWindow, .inl (cI, 4000, .inl mdWindow)), (Mtab, .inl (cB, 1536, .inl mtab))] H → va_D A0 [(mm, .inr (9, fl 78 gj_JS)), (Mrows, .inl (cB, 32000, .inl mrows)), (Mnears, .inl (cJ, 8, .inr (.inl mnears))), (Msames, .inl (cJ, 1024, .inr (.inl msames))), (Mout, .inl (cB, 4000, .inl mout)), (MoutFrom, .inl (cI, 4000, .inl moutFrom)), (Msource, .inl (cB, 4000, .inl msource)), (MsourceFrom, .inl (cI, 4000, .inl msourceFrom)), (MdKind, .inl (cI, 4000, .inl mdKind)), (MdSize, .inl (cI, 4000, .inl mdSize)), (MdAddress, .inl (cI, 4000, .inl mdAddress)), (MdMode, .inl (cI, 4000, .inl mdMode)), (MdCode, .inl (cI, 4000, .inl mdCode)), (MdWindow, .inl (cI, 4000, .inl mdWindow)), (Mtab, .inl (cB, 1536, .inl mtab))] → va_S A0 s0.heap H locs → lv_has ls 11 [(0, .ref mm), (1, .int (nI c)), (2, .int (nI q)), (3, .int (nI wh)), (4, .long (lN z))] → W p0 l e0 ({ frames := 2, cells := 0, slots := 0, locals := 54 }) s0 m0 ([.ref mm, .int (nI c), .int (nI q), .int (nI wh)] : List Value).toArray below meth c0 H locs 0 0 Q0 (F0 m0 53 ls []) := by
    intro gj_JS z c2 pb H locs ls hf_JS k_codeAt_JS k_partAt_JS k_outSize_JS k_dataAt_JS k_addressAt_JS k_nextNear_JS k_drafts_JS k_fault_JS k_place_JS hrz hc2 hc1 hzz9 hP hD hS hl
    have hz1 : (rdZ b ce (tt (512 + q * 256 + c)) cc).1 = 0 := by rw [hrz]
    have hz2 : (rdZ b ce (tt (512 + q * 256 + c)) cc).2.1 = z := by rw [hrz]
    have hz3 : (rdZ b ce (tt (512 + q * 256 + c)) cc).2.2 = c2 := by rw [hrz]
    refine lv_aload_n hx hb dX9_part_53 rfl (lv_at hl 0 rfl) ?_
    refine fx_get (D := D) (ci := 9) (v := .int (nI n)) (C := RX9) (T := TX9) (N := 78) hx hb hts in_X9 hown hK hP 0 rfl rfl 32 (by decide) (hts _ kX9_221) (fun _ h9 => h9) (k_outSize_JS) dX9_part_54 ?_
    refine lv_aload_n hx hb dX9_part_57 rfl (lv_at hl 0 rfl) ?_
    refine fx_get (D := D) (ci := 9) (v := .int (nI ww)) (C := RX9) (T := TX9) (N := 78) hx hb hts in_X9 hown hK hP 0 rfl rfl 43 (by decide) (hts _ kX9_257) (fun _ h9 => h9) ((hf_JS 43 (by decide)).trans g_begun) dX9_part_58 ?_
    refine lv_isub hx hb dX9_part_61 ?_
    refine ri (y := nI (n - ww)) (pk_sub hww) ?_
    refine lv_i2l hx hb dX9_part_62 (v := (nI (n - ww)).toInt64) rfl ?_
    refine rl (y := lN (n - ww)) (nI_l (by omega)) ?_
    refine lv_lload hx hb dX9_part_63 (lv_at hl 4 rfl) ?_
    refine lv_ladd hx hb dX9_part_65 ?_
    refine rl (y := lN (n - ww + z)) (lN_add _ _) ?_
    refine lv_aload_n hx hb dX9_part_66 rfl (lv_at hl 0 rfl) ?_
    refine fx_get (D := D) (ci := 9) (v := .int (nI wl)) (C := RX9) (T := TX9) (N := 78) hx hb hts in_X9 hown hK hP 0 rfl rfl 44 (by decide) (hts _ kX9_260) (fun _ h9 => h9) ((hf_JS 44 (by decide)).trans g_will) dX9_part_67 ?_
    refine lv_i2l hx hb dX9_part_70 (v := (nI wl).toInt64) rfl ?_
    refine rl (y := lN wl) (nI_l (by omega)) ?_
    refine W.lcmp hx hb dX9_part_71 ?_
    refine lv_if_le (tgt := 83) hx hb dX9_part_72 (by decide) (fun c_4 => ?_) (fun c_4 => ?_)
    · have hfit : n + z ≤ ww + wl := by have := (pk_lLE (by omega) (by omega)).mp ((lg_cmp_le _ _).mp c_4); omega
      have hpt0 : ptF b ce de ae near same kk zz ff ww (ww + wl) wn tt sB sG c q (cc, da, aa, nx, cN, cS, (B, G, n), gg, cnt) = if tt (q * 256 + c) = 3 then ptC b ae near same kk zz ff ww wn sB sG z (tt (1024 + q * 256 + c)) c c2 (cc, da, aa, nx, cN, cS, (B, G, n), gg, cnt) else ptD b de wn (tt (q * 256 + c)) z c c2 (cc, da, aa, nx, cN, cS, (B, G, n), gg, cnt) := by rw [ptF, if_neg hk0, if_neg (fun w => w hz1), if_neg (by rw [hz2]; exact Nat.not_lt.mpr hfit), hz2, hz3]
      refine lv_aload_n hx hb dX9_part_83 rfl (lv_at hl 0 rfl) ?_
      refine lv_iload_n hx hb dX9_part_84 rfl (lv_at hl 1 rfl) ?_
      refine lv_iload_n hx hb dX9_part_85 rfl (lv_at hl 2 rfl) ?_
      refine jn_i (wr := [(Mrows, .inl (cB, 32000, .inl mrows)), (Mnears, .inl (cJ, 8, .inr (.inl mnears))), (Msames, .inl (cJ, 1024, .inr (.inl msames))), (Mout, .inl (cB, 4000, .inl mout)), (MoutFrom, .inl (cI, 4000, .inl moutFrom)), (Msource, .inl (cB, 4000, .inl msource)), (MsourceFrom, .inl (cI, 4000, .inl msourceFrom)), (MdKind, .inl (cI, 4000, .inl mdKind)), (MdSize, .inl (cI, 4000, .inl mdSize)), (MdAddress, .inl (cI, 4000, .inl mdAddress)), (MdMode, .inl (cI, 4000, .inl mdMode)), (MdCode, .inl (cI, 4000, .inl mdCode)), (MdWindow, .inl (cI, 4000, .inl mdWindow))]) hA hP hD hS [0, 14] [1, 2, 3, 4, 5, 6, 7, 8, 9, 10, 11, 12, 13] rfl rfl (by decide) (by decide) (rn_V (As := [.int (nI c), .int (nI q)]) (rest := []) ⟨hx, hb, hml, hown, hts⟩ (cvV 2 hts zc_yX9_kindOf zi_X9 zm_yX9_kindOf zv_yX9_kindOf kX9_290 (by decide +kernel) rfl rfl ⟨Nat.le_of_ble_eq_true rfl, Nat.le_of_ble_eq_true rfl⟩) (m_kindOf l D cI cB cJ cR mm gj_JS Mtab mtab tt c q ((hf_JS 7 (by decide)).trans g_tab) (ht) (hcc) (hqq) H.size) hK hNw hMk hA hP hD hS [0, 14] rfl rfl (by decide) 0 rfl rfl rfl rfl hl.1 rfl (Nat.le_of_ble_eq_true rfl) dX9_part_86 ⟨Nat.le_of_ble_eq_true rfl, Nat.le_of_ble_eq_true rfl⟩) (fun r_7 u9 H locs w_5 hP hD hS => ?_)
      try dsimp only at w_5
      have hP : va_P D vwCl [(Mrows, .inl (cB, 32000, .inl mrows)), (Mnears, .inl (cJ, 8, .inr (.inl mnears))), (Msames, .inl (cJ, 1024, .inr (.inl msames))), (Mout, .inl (cB, 4000, .inl mout)), (MoutFrom, .inl (cI, 4000, .inl moutFrom)), (Msource, .inl (cB, 4000, .inl msource)), (MsourceFrom, .inl (cI, 4000, .inl msourceFrom)), (MdKind, .inl (cI, 4000, .inl mdKind)), (MdSize, .inl (cI, 4000, .inl mdSize)), (MdAddress, .inl (cI, 4000, .inl mdAddress)), (MdMode, .inl (cI, 4000, .inl mdMode)), (MdCode, .inl (cI, 4000, .inl mdCode)), (MdWindow, .inl (cI, 4000, .inl mdWindow)), (mm, .inr (9, fl 78 gj_JS)), (Mtab, .inl (cB, 1536, .inl mtab))] H := hP
      have hD : va_D A0 [(Mrows, .inl (cB, 32000, .inl mrows)), (Mnears, .inl (cJ, 8, .inr (.inl mnears))), (Msames, .inl (cJ, 1024, .inr (.inl msames))), (Mout, .inl (cB, 4000, .inl mout)), (MoutFrom, .inl (cI, 4000, .inl moutFrom)), (Msource, .inl (cB, 4000, .inl msource)), (MsourceFrom, .inl (cI, 4000, .inl msourceFrom)), (MdKind, .inl (cI, 4000, .inl mdKind)), (MdSize, .inl (cI, 4000, .inl mdSize)), (MdAddress, .inl (cI, 4000, .inl mdAddress)), (MdMode, .inl (cI, 4000, .inl mdMode)), (MdCode, .inl (cI, 4000, .inl mdCode)), (MdWindow, .inl (cI, 4000, .inl mdWindow)), (mm, .inr (9, fl 78 gj_JS)), (Mtab, .inl (cB, 1536, .inl mtab))] := hD
      rw [s8_lo _ (show tt (q * 256 + c) < 128 by have := hrt1.1; omega)] at w_5
      subst w_5
      refine lv_istore (lv' := [(6, .int (nI (tt (q * 256 + c)))), (0, .ref mm), (1, .int (nI c)), (2, .int (nI q)), (3, .int (nI wh)), (4, .long (lN z))]) hx hb dX9_part_89 hl (by decide) rfl (fun ls hl => ?_)
      refine lv_lconst (v := 0) hx hb dX9_part_91 (by decide) ?_
      refine rl (y := lN 0) (rfl) ?_
      refine lv_lstore (lv' := [(7, .long (lN 0)), (6, .int (nI (tt (q * 256 + c)))), (0, .ref mm), (1, .int (nI c)), (2, .int (nI q)), (3, .int (nI wh)), (4, .long (lN z))]) hx hb dX9_part_92 hl (by decide) rfl (fun ls hl => ?_)
      refine lv_iconst (v := 0) hx hb dX9_part_94 (by decide) ?_
      refine ri (y := nI 0) (nI_0.symm) ?_
      refine lv_istore (lv' := [(9, .int (nI 0)), (7, .long (lN 0)), (6, .int (nI (tt (q * 256 + c)))), (0, .ref mm), (1, .int (nI c)), (2, .int (nI q)), (3, .int (nI wh)), (4, .long (lN z))]) hx hb dX9_part_95 hl (by decide) rfl (fun ls hl => ?_)
      refine lv_iload hx hb dX9_part_97 (lv_at hl 2 rfl) ?_
      refine lv_iconst (v := 3) hx hb dX9_part_99 (by decide) ?_
      have JL : ∀ (gj_JL : Nat → Value) (ad : Nat) (md : Nat) (n3 : Nat) (d3 : Nat) (a3 : Nat) (x3 : Nat) (pe : Int32) (cN3 : Nat → Nat) (cS3 : Nat → Nat) (B3 : Nat → Nat) (G3 : Nat → Int32) (fn3 : Nat → Int64) (fs3 : Nat → Int64) (o3 : Nat → Int32) (of3 : Nat → Int32) (H : Heap) (locs : List Loc) (ls : Array Slot), (frm [47, 51, 32, 45, 49, 11, 20, 36, 37] g gj_JL) → (gj_JL 47 = .int (nI c2)) → (gj_JL 51 = .int pe) → (gj_JL 32 = .int (nI n3)) → (gj_JL 45 = .int (nI d3)) → (gj_JL 49 = .int (nI a3)) → (gj_JL 11 = .int (nI x3)) → (gj_JL 20 = .int (nI dr)) → (gj_JL 36 = .int (nI fu)) → (gj_JL 37 = .int (nI pl)) → (ptF b ce de ae near same kk zz ff ww (ww + wl) wn tt sB sG c q (cc, da, aa, nx, cN, cS, (B, G, n), gg, cnt) = (0, c2, d3, a3, x3, cN3, cS3, (B3, G3, n3), (va_up gg cnt (st6 (nI (tt (q * 256 + c))) (nI z) (nI ad) (nI md) (nI c) (nI wn))), cnt + 1)) → (d3 ≤ de) → (a3 ≤ ae) → (n ≤ n3) → (n3 ≤ ww + wl) → (outR o3 of3 (B3, G3, n3)) → (x3 < 8 ∧ (0 < near → x3 < near)) → (chR fn3 fs3 cN3 cS3) → (∀ j, j < 8 → cN3 j < 2 ^ 30) → (∀ j, j < 1024 → cS3 j < 2 ^ 30) → va_P D vwCl [(mm, .inr (9, fl 78 gj_JL)), (Mrows, .inl (cB, 32000, .inl mrows)), (Mnears, .inl (cJ, 8, .inr (.inl fn3))), (Msames, .inl (cJ, 1024, .inr (.inl fs3))), (Mout, .inl (cB, 4000, .inl o3)), (MoutFrom, .inl (cI, 4000, .inl of3)), (Msource, .inl (cB, 4000, .inl msource)), (MsourceFrom, .inl (cI, 4000, .inl msourceFrom)), (MdKind, .inl (cI, 4000, .inl mdKind)), (MdSize, .inl (cI, 4000, .inl mdSize)), (MdAddress, .inl (cI, 4000, .inl mdAddress)), (MdMode, .inl (cI, 4000, .inl mdMode)), (MdCode, .inl (cI, 4000, .inl mdCode)), (MdWindow, .inl (cI, 4000, .inl mdWindow)), (Mtab, .inl (cB, 1536, .inl mtab))] H → va_D A0 [(mm, .inr (9, fl 78 gj_JL)), (Mrows, .inl (cB, 32000, .inl mrows)), (Mnears, .inl (cJ, 8, .inr (.inl fn3))), (Msames, .inl (cJ, 1024, .inr (.inl fs3))), (Mout, .inl (cB, 4000, .inl o3)), (MoutFrom, .inl (cI, 4000, .inl of3)), (Msource, .inl (cB, 4000, .inl msource)), (MsourceFrom, .inl (cI, 4000, .inl msourceFrom)), (MdKind, .inl (cI, 4000, .inl mdKind)), (MdSize, .inl (cI, 4000, .inl mdSize)), (MdAddress, .inl (cI, 4000, .inl mdAddress)), (MdMode, .inl (cI, 4000, .inl mdMode)), (MdCode, .inl (cI, 4000, .inl mdCode)), (MdWindow, .inl (cI, 4000, .inl mdWindow)), (Mtab, .inl (cB, 1536, .inl mtab))] → va_S A0 s0.heap H locs → lv_has ls 11 [(0, .ref mm), (1, .int (nI c)), (2, .int (nI q)), (3, .int (nI wh)), (4, .long (lN z)), (6, .int (nI (tt (q * 256 + c)))), (7, .long (lN ad)), (9, .int (nI md))] → W p0 l e0 ({ frames := 2, cells := 0, slots := 0, locals := 54 }) s0 m0 ([.ref mm, .int (nI c), .int (nI q), .int (nI wh)] : List Value).toArray below meth c0 H locs 0 0 Q0 (F0 m0 301 ls []) := by
        intro gj_JL ad md n3 d3 a3 x3 pe cN3 cS3 B3 G3 fn3 fs3 o3 of3 H locs ls hf_JL k_codeAt_JL k_partAt_JL k_outSize_JL k_dataAt_JL k_addressAt_JL k_nextNear_JL k_drafts_JL k_fault_JL k_place_JL hk3f i1 i3 i5 i6 i7 i8 i9 i10 i11 hP hD hS hl
        refine lv_aload_n hx hb dX9_part_301 rfl (lv_at hl 0 rfl) ?_
        refine fx_get (D := D) (ci := 9) (v := .int (bI ct)) (C := RX9) (T := TX9) (N := 78) hx hb hts in_X9 hown hK hP 0 rfl rfl 39 (by decide) (hts _ kX9_224) (fun _ h9 => h9) ((hf_JL 39 (by decide)).trans g_counts) dX9_part_302 ?_
        refine bz_eq (tgt := 327) hx hb dX9_part_305 (by decide) (fun c_8 => ?_) (fun c_8 => ?_)
        · have hcf : ct = false := c_8
          have hP := hP.sub (ws' := [(mm, .inr (9, fl 78 gj_JL)), (Mrows, .inl (cB, 32000, .inl mrows)), (Mtab, .inl (cB, 1536, .inl mtab)), (Mnears, .inl (cJ, 8, .inr (.inl fn3))), (Msames, .inl (cJ, 1024, .inr (.inl fs3))), (Mout, .inl (cB, 4000, .inl o3)), (MoutFrom, .inl (cI, 4000, .inl of3)), (Msource, .inl (cB, 4000, .inl msource)), (MsourceFrom, .inl (cI, 4000, .inl msourceFrom)), (MdKind, .inl (cI, 4000, .inl mdKind)), (MdSize, .inl (cI, 4000, .inl mdSize)), (MdAddress, .inl (cI, 4000, .inl mdAddress)), (MdMode, .inl (cI, 4000, .inl mdMode)), (MdCode, .inl (cI, 4000, .inl mdCode)), (MdWindow, .inl (cI, 4000, .inl mdWindow))]) [0, 1, 14, 2, 3, 4, 5, 6, 7, 8, 9, 10, 11, 12, 13] rfl
          have hD := hD.sub (ws' := [(mm, .inr (9, fl 78 gj_JL)), (Mrows, .inl (cB, 32000, .inl mrows)), (Mtab, .inl (cB, 1536, .inl mtab)), (Mnears, .inl (cJ, 8, .inr (.inl fn3))), (Msames, .inl (cJ, 1024, .inr (.inl fs3))), (Mout, .inl (cB, 4000, .inl o3)), (MoutFrom, .inl (cI, 4000, .inl of3)), (Msource, .inl (cB, 4000, .inl msource)), (MsourceFrom, .inl (cI, 4000, .inl msourceFrom)), (MdKind, .inl (cI, 4000, .inl mdKind)), (MdSize, .inl (cI, 4000, .inl mdSize)), (MdAddress, .inl (cI, 4000, .inl mdAddress)), (MdMode, .inl (cI, 4000, .inl mdMode)), (MdCode, .inl (cI, 4000, .inl mdCode)), (MdWindow, .inl (cI, 4000, .inl mdWindow))]) [0, 1, 14, 2, 3, 4, 5, 6, 7, 8, 9, 10, 11, 12, 13] (by decide) rfl
          exact hret 327 ls _ _ (gj_JL, c2, pe, n3, d3, nI a3, a3, x3, dr, fu, pl, cnt + 1, cN3, cS3, B3, G3, (va_up gg cnt (st6 (nI (tt (q * 256 + c))) (nI z) (nI ad) (nI md) (nI c) (nI wn))), fn3, fs3, o3, of3, mdKind, mdSize, mdAddress, mdMode, mdCode, mdWindow) dX9_part_327 hP hD hS (⟨hf_JL, k_codeAt_JL, k_partAt_JL, k_outSize_JL, k_dataAt_JL, k_addressAt_JL, k_nextNear_JL, k_drafts_JL, k_fault_JL, k_place_JL, ⟨fun z => absurd h0 z, fun _ => ⟨rfl, rfl, hk3f, i1, hc2, i3, hc1, i5, i6, i7, by omega, fun z => absurd (hcf.symm.trans z) (by decide), i8, i9, i10, i11⟩, hfl, fun _ => rfl⟩⟩)
        · have hcf : ct = true := c_8
          obtain ⟨y1, y2, y3⟩ := hct hcf
          refine lv_aload_n hx hb dX9_part_308 rfl (lv_at hl 0 rfl) ?_
          refine lv_iload hx hb dX9_part_309 (lv_at hl 5 rfl) ?_
          refine lv_lload hx hb dX9_part_311 (lv_at hl 4 rfl) ?_
          refine lv_l2i hx hb dX9_part_313 (v := (lN z).toInt32) rfl ?_
          refine ri (y := nI z) (lN_i z) ?_
          refine lv_lload hx hb dX9_part_314 (lv_at hl 6 rfl) ?_
          refine lv_l2i hx hb dX9_part_316 (v := (lN ad).toInt32) rfl ?_
          refine ri (y := nI ad) (lN_i ad) ?_
          refine lv_iload hx hb dX9_part_317 (lv_at hl 7 rfl) ?_
          refine lv_iload_n hx hb dX9_part_319 rfl (lv_at hl 1 rfl) ?_
          refine lv_aload_n hx hb dX9_part_320 rfl (lv_at hl 0 rfl) ?_
          refine fx_get (D := D) (ci := 9) (v := .int (nI wr)) (C := RX9) (T := TX9) (N := 78) hx hb hts in_X9 hown hK hP 0 rfl rfl 38 (by decide) (hts _ kX9_234) (fun _ h9 => h9) ((hf_JL 38 (by decide)).trans g_windows) dX9_part_321 ?_
          refine jn_v (wr := [(Mrows, .inl (cB, 32000, .inl mrows)), (Mnears, .inl (cJ, 8, .inr (.inl fn3))), (Msames, .inl (cJ, 1024, .inr (.inl fs3))), (Mout, .inl (cB, 4000, .inl o3)), (MoutFrom, .inl (cI, 4000, .inl of3)), (Msource, .inl (cB, 4000, .inl msource)), (MsourceFrom, .inl (cI, 4000, .inl msourceFrom)), (Mtab, .inl (cB, 1536, .inl mtab))]) hA hP hD hS [0, 8, 9, 10, 11, 12, 13] [1, 2, 3, 4, 5, 6, 7, 14] rfl rfl (by decide) (by decide) (rn_V (As := [.int (nI (tt (q * 256 + c))), .int (nI z), .int (nI ad), .int (nI md), .int (nI c), .int (nI wr)]) (rest := []) ⟨hx, hb, hml, hown, hts⟩ (cvV 6 hts zc_yX9_list zi_X9 zm_yX9_list zv_yX9_list kX9_320 (by decide +kernel) rfl rfl ⟨Nat.le_of_ble_eq_true rfl, Nat.le_of_ble_eq_true rfl⟩) (m_list l D cI cB cJ cR mm gj_JL MdKind MdSize MdAddress MdMode MdCode MdWindow mdKind mdSize mdAddress mdMode mdCode mdWindow dr gg (nI (tt (q * 256 + c))) (nI z) (nI ad) (nI md) (nI c) (nI wr) (k_drafts_JL) ((hf_JL 21 (by decide)).trans g_dKind) ((hf_JL 22 (by decide)).trans g_dSize) ((hf_JL 23 (by decide)).trans g_dAddress) ((hf_JL 24 (by decide)).trans g_dMode) ((hf_JL 25 (by decide)).trans g_dCode) ((hf_JL 26 (by decide)).trans g_dWindow) (by omega) (by rw [y1]; exact y3) H.size) hK hNw hMk hA hP hD hS [0, 8, 9, 10, 11, 12, 13] rfl rfl (by decide) 0 rfl rfl rfl rfl hl.1 rfl (Nat.le_of_ble_eq_true rfl) dX9_part_324 ⟨Nat.le_of_ble_eq_true rfl, Nat.le_of_ble_eq_true rfl⟩) (fun u9 H locs w_9 hP hD hS => ?_)
          obtain ⟨g_10, dKind8, dSize8, dAddress8, dMode8, dCode8, dWindow8⟩ := u9
          try dsimp only at w_9
          have hP : va_P D vwCl [(Mrows, .inl (cB, 32000, .inl mrows)), (Mnears, .inl (cJ, 8, .inr (.inl fn3))), (Msames, .inl (cJ, 1024, .inr (.inl fs3))), (Mout, .inl (cB, 4000, .inl o3)), (MoutFrom, .inl (cI, 4000, .inl of3)), (Msource, .inl (cB, 4000, .inl msource)), (MsourceFrom, .inl (cI, 4000, .inl msourceFrom)), (Mtab, .inl (cB, 1536, .inl mtab)), (mm, .inr (9, fl 78 g_10)), (MdKind, .inl (cI, 4000, .inl dKind8)), (MdSize, .inl (cI, 4000, .inl dSize8)), (MdAddress, .inl (cI, 4000, .inl dAddress8)), (MdMode, .inl (cI, 4000, .inl dMode8)), (MdCode, .inl (cI, 4000, .inl dCode8)), (MdWindow, .inl (cI, 4000, .inl dWindow8))] H := hP
          have hD : va_D A0 [(Mrows, .inl (cB, 32000, .inl mrows)), (Mnears, .inl (cJ, 8, .inr (.inl fn3))), (Msames, .inl (cJ, 1024, .inr (.inl fs3))), (Mout, .inl (cB, 4000, .inl o3)), (MoutFrom, .inl (cI, 4000, .inl of3)), (Msource, .inl (cB, 4000, .inl msource)), (MsourceFrom, .inl (cI, 4000, .inl msourceFrom)), (Mtab, .inl (cB, 1536, .inl mtab)), (mm, .inr (9, fl 78 g_10)), (MdKind, .inl (cI, 4000, .inl dKind8)), (MdSize, .inl (cI, 4000, .inl dSize8)), (MdAddress, .inl (cI, 4000, .inl dAddress8)), (MdMode, .inl (cI, 4000, .inl dMode8)), (MdCode, .inl (cI, 4000, .inl dCode8)), (MdWindow, .inl (cI, 4000, .inl dWindow8))] := hD
          obtain ⟨f_w_9, drafts_w_9, w_9_⟩ := w_9
          have k48_g_10 : g_10 48 = .int (nI ce) := (f_w_9 48 (by decide)).trans ((hf_JL 48 (by decide)).trans g_codeEnd)
          have k33_g_10 : g_10 33 = .int (nI bs) := (f_w_9 33 (by decide)).trans ((hf_JL 33 (by decide)).trans g_base)
          have k43_g_10 : g_10 43 = .int (nI ww) := (f_w_9 43 (by decide)).trans ((hf_JL 43 (by decide)).trans g_begun)
          have k44_g_10 : g_10 44 = .int (nI wl) := (f_w_9 44 (by decide)).trans ((hf_JL 44 (by decide)).trans g_will)
          have k46_g_10 : g_10 46 = .int (nI de) := (f_w_9 46 (by decide)).trans ((hf_JL 46 (by decide)).trans g_dataEnd)
          have k50_g_10 : g_10 50 = .int (nI ae) := (f_w_9 50 (by decide)).trans ((hf_JL 50 (by decide)).trans g_addressEnd)
          have k8_g_10 : g_10 8 = .int (nI near) := (f_w_9 8 (by decide)).trans ((hf_JL 8 (by decide)).trans g_near)
          have k9_g_10 : g_10 9 = .int (nI same) := (f_w_9 9 (by decide)).trans ((hf_JL 9 (by decide)).trans g_same)
          have k40_g_10 : g_10 40 = .int (nI kk) := (f_w_9 40 (by decide)).trans ((hf_JL 40 (by decide)).trans g_segment)
          have k41_g_10 : g_10 41 = .int (nI zz) := (f_w_9 41 (by decide)).trans ((hf_JL 41 (by decide)).trans g_segmentSize)
          have k42_g_10 : g_10 42 = .int (nI ff) := (f_w_9 42 (by decide)).trans ((hf_JL 42 (by decide)).trans g_segmentAt)
          have k39_g_10 : g_10 39 = .int (bI ct) := (f_w_9 39 (by decide)).trans ((hf_JL 39 (by decide)).trans g_counts)
          have k38_g_10 : g_10 38 = .int (nI wr) := (f_w_9 38 (by decide)).trans ((hf_JL 38 (by decide)).trans g_windows)
          have k1_g_10 : g_10 1 = .ref Mrows := (f_w_9 1 (by decide)).trans ((hf_JL 1 (by decide)).trans g_rows)
          have k7_g_10 : g_10 7 = .ref Mtab := (f_w_9 7 (by decide)).trans ((hf_JL 7 (by decide)).trans g_tab)
          have k10_g_10 : g_10 10 = .ref Mnears := (f_w_9 10 (by decide)).trans ((hf_JL 10 (by decide)).trans g_nears)
          have k12_g_10 : g_10 12 = .ref Msames := (f_w_9 12 (by decide)).trans ((hf_JL 12 (by decide)).trans g_sames)
          have k30_g_10 : g_10 30 = .ref Mout := (f_w_9 30 (by decide)).trans ((hf_JL 30 (by decide)).trans g_out)
          have k31_g_10 : g_10 31 = .ref MoutFrom := (f_w_9 31 (by decide)).trans ((hf_JL 31 (by decide)).trans g_outFrom)
          have k27_g_10 : g_10 27 = .ref Msource := (f_w_9 27 (by decide)).trans ((hf_JL 27 (by decide)).trans g_source)
          have k28_g_10 : g_10 28 = .ref MsourceFrom := (f_w_9 28 (by decide)).trans ((hf_JL 28 (by decide)).trans g_sourceFrom)
          have k21_g_10 : g_10 21 = .ref MdKind := (f_w_9 21 (by decide)).trans ((hf_JL 21 (by decide)).trans g_dKind)
          have k22_g_10 : g_10 22 = .ref MdSize := (f_w_9 22 (by decide)).trans ((hf_JL 22 (by decide)).trans g_dSize)
          have k23_g_10 : g_10 23 = .ref MdAddress := (f_w_9 23 (by decide)).trans ((hf_JL 23 (by decide)).trans g_dAddress)
          have k24_g_10 : g_10 24 = .ref MdMode := (f_w_9 24 (by decide)).trans ((hf_JL 24 (by decide)).trans g_dMode)
          have k25_g_10 : g_10 25 = .ref MdCode := (f_w_9 25 (by decide)).trans ((hf_JL 25 (by decide)).trans g_dCode)
          have k26_g_10 : g_10 26 = .ref MdWindow := (f_w_9 26 (by decide)).trans ((hf_JL 26 (by decide)).trans g_dWindow)
          have k47_g_10 : g_10 47 = .int (nI c2) := (f_w_9 47 (by decide)).trans (k_codeAt_JL)
          have k51_g_10 : g_10 51 = .int pe := (f_w_9 51 (by decide)).trans (k_partAt_JL)
          have k32_g_10 : g_10 32 = .int (nI n3) := (f_w_9 32 (by decide)).trans (k_outSize_JL)
          have k45_g_10 : g_10 45 = .int (nI d3) := (f_w_9 45 (by decide)).trans (k_dataAt_JL)
          have k49_g_10 : g_10 49 = .int (nI a3) := (f_w_9 49 (by decide)).trans (k_addressAt_JL)
          have k11_g_10 : g_10 11 = .int (nI x3) := (f_w_9 11 (by decide)).trans (k_nextNear_JL)
          have k36_g_10 : g_10 36 = .int (nI fu) := (f_w_9 36 (by decide)).trans (k_fault_JL)
          have k37_g_10 : g_10 37 = .int (nI pl) := (f_w_9 37 (by decide)).trans (k_place_JL)
          have fr_g_10 : frm [47, 51, 32, 45, 49, 11, 20, 36, 37] g g_10 := frm_tr hf_JL f_w_9 (by decide)
          rw [y1, y2] at w_9_
          have hP := hP.sub (ws' := [(mm, .inr (9, fl 78 g_10)), (Mrows, .inl (cB, 32000, .inl mrows)), (Mtab, .inl (cB, 1536, .inl mtab)), (Mnears, .inl (cJ, 8, .inr (.inl fn3))), (Msames, .inl (cJ, 1024, .inr (.inl fs3))), (Mout, .inl (cB, 4000, .inl o3)), (MoutFrom, .inl (cI, 4000, .inl of3)), (Msource, .inl (cB, 4000, .inl msource)), (MsourceFrom, .inl (cI, 4000, .inl msourceFrom)), (MdKind, .inl (cI, 4000, .inl dKind8)), (MdSize, .inl (cI, 4000, .inl dSize8)), (MdAddress, .inl (cI, 4000, .inl dAddress8)), (MdMode, .inl (cI, 4000, .inl dMode8)), (MdCode, .inl (cI, 4000, .inl dCode8)), (MdWindow, .inl (cI, 4000, .inl dWindow8))]) [8, 0, 7, 1, 2, 3, 4, 5, 6, 9, 10, 11, 12, 13, 14] rfl
          have hD := hD.sub (ws' := [(mm, .inr (9, fl 78 g_10)), (Mrows, .inl (cB, 32000, .inl mrows)), (Mtab, .inl (cB, 1536, .inl mtab)), (Mnears, .inl (cJ, 8, .inr (.inl fn3))), (Msames, .inl (cJ, 1024, .inr (.inl fs3))), (Mout, .inl (cB, 4000, .inl o3)), (MoutFrom, .inl (cI, 4000, .inl of3)), (Msource, .inl (cB, 4000, .inl msource)), (MsourceFrom, .inl (cI, 4000, .inl msourceFrom)), (MdKind, .inl (cI, 4000, .inl dKind8)), (MdSize, .inl (cI, 4000, .inl dSize8)), (MdAddress, .inl (cI, 4000, .inl dAddress8)), (MdMode, .inl (cI, 4000, .inl dMode8)), (MdCode, .inl (cI, 4000, .inl dCode8)), (MdWindow, .inl (cI, 4000, .inl dWindow8))]) [8, 0, 7, 1, 2, 3, 4, 5, 6, 9, 10, 11, 12, 13, 14] (by decide) rfl
          exact hret 327 ls _ _ (g_10, c2, pe, n3, d3, nI a3, a3, x3, dr + 1, fu, pl, cnt + 1, cN3, cS3, B3, G3, (va_up gg cnt (st6 (nI (tt (q * 256 + c))) (nI z) (nI ad) (nI md) (nI c) (nI wn))), fn3, fs3, o3, of3, dKind8, dSize8, dAddress8, dMode8, dCode8, dWindow8) dX9_part_327 hP hD hS (⟨fr_g_10, k47_g_10, k51_g_10, k32_g_10, k45_g_10, k49_g_10, k11_g_10, drafts_w_9, k36_g_10, k37_g_10, ⟨fun z => absurd h0 z, fun _ => ⟨rfl, rfl, hk3f, i1, hc2, i3, hc1, i5, i6, i7, by omega, fun _ => ⟨by omega, w_9_⟩, i8, i9, i10, i11⟩, hfl, fun z => absurd (hcf.symm.trans z) (by decide)⟩⟩)
      refine lv_icmp_ne (tgt := 171) hx hb dX9_part_100 (by decide) (fun c_12 => ?_) (fun c_12 => ?_)
      · have hk3x : ¬ tt (q * 256 + c) = 3 := fun w => c_12 (by rw [w]; rfl)
        rw [if_neg hk3x, ptD] at hpt0
        have hkd : tt (q * 256 + c) = 1 ∨ tt (q * 256 + c) = 2 := by have := hrt1.1; omega
        refine lv_aload_n hx hb dX9_part_171 rfl (lv_at hl 3 rfl) ?_
        refine fx_get (D := D) (ci := 9) (v := .int (nI de)) (C := RX9) (T := TX9) (N := 78) hx hb hts in_X9 hown hK hP 13 rfl rfl 46 (by decide) (hts _ kX9_266) (fun _ h9 => h9) ((hf_JS 46 (by decide)).trans g_dataEnd) dX9_part_172 ?_
        refine lv_aload_n hx hb dX9_part_175 rfl (lv_at hl 3 rfl) ?_
        refine fx_get (D := D) (ci := 9) (v := .int (nI da)) (C := RX9) (T := TX9) (N := 78) hx hb hts in_X9 hown hK hP 13 rfl rfl 45 (by decide) (hts _ kX9_263) (fun _ h9 => h9) (k_dataAt_JS) dX9_part_176 ?_
        refine lv_isub hx hb dX9_part_179 ?_
        refine ri (y := nI (de - da)) (pk_sub hda) ?_
        refine lv_i2l hx hb dX9_part_180 (v := (nI (de - da)).toInt64) rfl ?_
        refine rl (y := lN (de - da)) (nI_l (by omega)) ?_
        refine lv_iload hx hb dX9_part_181 (lv_at hl 2 rfl) ?_
        refine lv_iconst (v := 1) hx hb dX9_part_183 (by decide) ?_
        refine lv_icmp_ne (tgt := 192) hx hb dX9_part_184 (by decide) (fun c_13 => ?_) (fun c_13 => ?_)
        · have hk1n : ¬ tt (q * 256 + c) = 1 := fun w => c_13 (by rw [w]; rfl)
          have hk1x : tt (q * 256 + c) = 2 := by omega
          have hnd : needD (tt (q * 256 + c)) z = 1 := by rw [needD, if_pos hk1x]
          refine lv_lconst (v := 1) hx hb dX9_part_192 (by decide) ?_
          refine rl (y := lN 1) (rfl) ?_
          rw [hnd] at hpt0
          refine W.lcmp hx hb dX9_part_193 ?_
          refine lv_if_ge (tgt := 205) hx hb dX9_part_194 (by decide) (fun c_14 => ?_) (fun c_14 => ?_)
          · have hlk : ¬ de - da < 1 := Nat.not_lt.mpr ((pk_lLE (by omega) (by omega)).mp ((lg_cmp_ge _ _).mp c_14))
            rw [if_neg hlk] at hpt0
            refine lv_iconst (v := 0) hx hb dX9_part_205 (by decide) ?_
            refine ri (y := nI 0) (nI_0.symm) ?_
            refine lv_istore (lv' := [(10, .int (nI 0)), (9, .int (nI 0)), (7, .long (lN 0)), (6, .int (nI (tt (q * 256 + c)))), (0, .ref mm), (1, .int (nI c)), (2, .int (nI q)), (3, .int (nI wh)), (4, .long (lN z))]) hx hb dX9_part_206 hl (by decide) rfl (fun ls hl => ?_)
            have ld : ∀ (k9 : Nat) (g5_ld : Nat → Value) (i : Nat) (o7 : Nat → Int32) (of7 : Nat → Int32) (H : Heap) (locs : List Loc) (ls : Array Slot), z - i < k9 → (frm [47, 51, 32, 45, 49, 11, 20, 36, 37] g g5_ld) → (g5_ld 47 = .int (nI c2)) → (g5_ld 51 = .int pb) → (g5_ld 32 = .int (nI (n + i))) → (g5_ld 45 = .int (nI da)) → (g5_ld 49 = .int (nI aa)) → (g5_ld 11 = .int (nI nx)) → (g5_ld 20 = .int (nI dr)) → (g5_ld 36 = .int (nI fu)) → (g5_ld 37 = .int (nI pl)) → (i ≤ z) → (outR o7 of7 (runM (b da) i (B, G, n))) → va_P D vwCl [(mm, .inr (9, fl 78 g5_ld)), (Mrows, .inl (cB, 32000, .inl mrows)), (Mnears, .inl (cJ, 8, .inr (.inl mnears))), (Msames, .inl (cJ, 1024, .inr (.inl msames))), (Mout, .inl (cB, 4000, .inl o7)), (MoutFrom, .inl (cI, 4000, .inl of7)), (Msource, .inl (cB, 4000, .inl msource)), (MsourceFrom, .inl (cI, 4000, .inl msourceFrom)), (MdKind, .inl (cI, 4000, .inl mdKind)), (MdSize, .inl (cI, 4000, .inl mdSize)), (MdAddress, .inl (cI, 4000, .inl mdAddress)), (MdMode, .inl (cI, 4000, .inl mdMode)), (MdCode, .inl (cI, 4000, .inl mdCode)), (MdWindow, .inl (cI, 4000, .inl mdWindow)), (Mtab, .inl (cB, 1536, .inl mtab))] H → va_D A0 [(mm, .inr (9, fl 78 g5_ld)), (Mrows, .inl (cB, 32000, .inl mrows)), (Mnears, .inl (cJ, 8, .inr (.inl mnears))), (Msames, .inl (cJ, 1024, .inr (.inl msames))), (Mout, .inl (cB, 4000, .inl o7)), (MoutFrom, .inl (cI, 4000, .inl of7)), (Msource, .inl (cB, 4000, .inl msource)), (MsourceFrom, .inl (cI, 4000, .inl msourceFrom)), (MdKind, .inl (cI, 4000, .inl mdKind)), (MdSize, .inl (cI, 4000, .inl mdSize)), (MdAddress, .inl (cI, 4000, .inl mdAddress)), (MdMode, .inl (cI, 4000, .inl mdMode)), (MdCode, .inl (cI, 4000, .inl mdCode)), (MdWindow, .inl (cI, 4000, .inl mdWindow)), (Mtab, .inl (cB, 1536, .inl mtab))] → va_S A0 s0.heap H locs → lv_has ls 11 [(0, .ref mm), (1, .int (nI c)), (2, .int (nI q)), (3, .int (nI wh)), (4, .long (lN z)), (6, .int (nI (tt (q * 256 + c)))), (7, .long (lN 0)), (9, .int (nI 0)), (10, .int (nI i))] → W p0 l e0 ({ frames := 2, cells := 0, slots := 0, locals := 54 }) s0 m0 ([.ref mm, .int (nI c), .int (nI q), .int (nI wh)] : List Value).toArray below meth c0 H locs 0 0 Q0 (F0 m0 208 ls []) := by
              intro k9
              induction k9 with
              | zero => intro g5_ld i o7 of7 H locs ls hk9; exact absurd hk9 (Nat.not_lt_zero _)
              | succ k9 ih =>
                intro g5_ld i o7 of7 H locs ls hk9 hf_ld k_codeAt_ld k_partAt_ld k_outSize_ld k_dataAt_ld k_addressAt_ld k_nextNear_ld k_drafts_ld k_fault_ld k_place_ld hiz hor hP hD hS hl
                have hmn : (runM (b da) i (B, G, n)).2.2 = n + i := runM_n _ _
                refine lv_iload hx hb dX9_part_208 (lv_at hl 8 rfl) ?_
                refine lv_i2l hx hb dX9_part_210 (v := (nI i).toInt64) rfl ?_
                refine rl (y := lN i) (nI_l (by omega)) ?_
                refine lv_lload hx hb dX9_part_211 (lv_at hl 4 rfl) ?_
                refine W.lcmp hx hb dX9_part_213 ?_
                refine lv_if_ge (tgt := 279) hx hb dX9_part_214 (by decide) (fun c_15 => ?_) (fun c_15 => ?_)
                · have hi9 : i = z := by have := (pk_lLE (by omega) (by omega)).mp ((lg_cmp_ge _ _).mp c_15); omega
                  subst hi9
                  have hdm : datM b (tt (q * 256 + c)) i da (B, G, n) = (runM (b da) i (B, G, n)) := by rw [datM, if_pos hk1x]
                  rw [hdm] at hpt0
                  obtain ⟨⟨B3, G3, n3⟩, hB3⟩ : ∃ t9, t9 = (runM (b da) i (B, G, n)) := ⟨_, rfl⟩
                  rw [← hB3] at hpt0 hmn hor
                  have hn3 : n3 = n + i := hmn
                  subst hn3
                  refine lv_aload_n hx hb dX9_part_279 rfl (lv_at hl 0 rfl) ?_
                  refine lv_dup hx hb dX9_part_280 rfl ?_
                  refine fx_get (D := D) (ci := 9) (v := .int (nI da)) (C := RX9) (T := TX9) (N := 78) hx hb hts in_X9 hown hK hP 0 rfl rfl 45 (by decide) (hts _ kX9_263) (fun _ h9 => h9) (k_dataAt_ld) dX9_part_281 ?_
                  refine lv_iload hx hb dX9_part_284 (lv_at hl 5 rfl) ?_
                  refine lv_iconst (v := 1) hx hb dX9_part_286 (by decide) ?_
                  refine lv_icmp_ne (tgt := 296) hx hb dX9_part_287 (by decide) (fun c_16 => ?_) (fun c_16 => absurd c_16 (fun w => hk1n ((nI_eq (b := 1) (by omega) (by decide)).mp w)))
                  refine lv_iconst (v := 1) hx hb dX9_part_296 (by decide) ?_
                  refine lv_iadd hx hb dX9_part_297 ?_
                  refine ri (y := nI (da + 1)) (nI_add da 1) ?_
                  refine fx_put (D := D) (ci := 9) (v := .int (nI (da + 1))) (ty := .int) (C := RX9) (T := TX9) (N := 78) hx hb hts in_X9 tyX9 tyX9_ok nmX9 hown hK hP hD hS 0 rfl rfl 45 (by decide) (hts _ kX9_263) (fun _ h9 => h9) rfl (by decide +kernel) rfl rfl dX9_part_298 (fun H locs hP hD hS => ?_)
                  have hP : va_P D vwCl [(mm, .inr (9, fl 78 (va_up g5_ld 45 (.int (nI (da + 1)))))), (Mrows, .inl (cB, 32000, .inl mrows)), (Mnears, .inl (cJ, 8, .inr (.inl mnears))), (Msames, .inl (cJ, 1024, .inr (.inl msames))), (Mout, .inl (cB, 4000, .inl o7)), (MoutFrom, .inl (cI, 4000, .inl of7)), (Msource, .inl (cB, 4000, .inl msource)), (MsourceFrom, .inl (cI, 4000, .inl msourceFrom)), (MdKind, .inl (cI, 4000, .inl mdKind)), (MdSize, .inl (cI, 4000, .inl mdSize)), (MdAddress, .inl (cI, 4000, .inl mdAddress)), (MdMode, .inl (cI, 4000, .inl mdMode)), (MdCode, .inl (cI, 4000, .inl mdCode)), (MdWindow, .inl (cI, 4000, .inl mdWindow)), (Mtab, .inl (cB, 1536, .inl mtab))] H := hP
                  have hD : va_D A0 [(mm, .inr (9, fl 78 (va_up g5_ld 45 (.int (nI (da + 1)))))), (Mrows, .inl (cB, 32000, .inl mrows)), (Mnears, .inl (cJ, 8, .inr (.inl mnears))), (Msames, .inl (cJ, 1024, .inr (.inl msames))), (Mout, .inl (cB, 4000, .inl o7)), (MoutFrom, .inl (cI, 4000, .inl of7)), (Msource, .inl (cB, 4000, .inl msource)), (MsourceFrom, .inl (cI, 4000, .inl msourceFrom)), (MdKind, .inl (cI, 4000, .inl mdKind)), (MdSize, .inl (cI, 4000, .inl mdSize)), (MdAddress, .inl (cI, 4000, .inl mdAddress)), (MdMode, .inl (cI, 4000, .inl mdMode)), (MdCode, .inl (cI, 4000, .inl mdCode)), (MdWindow, .inl (cI, 4000, .inl mdWindow)), (Mtab, .inl (cB, 1536, .inl mtab))] := hD
                  exact JL (va_up g5_ld 45 (.int (nI (da + 1)))) 0 0 (n + i) (da + 1) aa nx pb cN cS B3 G3 mnears msames o7 of7 _ _ ls ((frm_up hf_ld (by decide))) (k_codeAt_ld) (k_partAt_ld) (k_outSize_ld) (rfl) (k_addressAt_ld) (k_nextNear_ld) (k_drafts_ld) (k_fault_ld) (k_place_ld) (by rw [hpt0, nI_0]) (by omega) (haa) (by omega) (by omega) (hor) (hnx) (hc) (hcN) (hcS) hP hD hS (lv_sub hl [0, 1, 2, 3, 4, 5, 6, 7] rfl)
                · have hi9 : i < z := Nat.not_le.mp (fun w => c_15 ((lg_cmp_ge _ _).mpr ((pk_lLE (by omega) (by omega)).mpr w)))
                  refine lv_aload_n hx hb dX9_part_217 rfl (lv_at hl 0 rfl) ?_
                  refine fx_get (D := D) (ci := 9) (v := .ref Mout) (C := RX9) (T := TX9) (N := 78) hx hb hts in_X9 hown hK hP 0 rfl rfl 30 (by decide) (hts _ kX9_82) (fun _ h9 => h9) ((hf_ld 30 (by decide)).trans g_out) dX9_part_218 ?_
                  refine lv_aload_n hx hb dX9_part_221 rfl (lv_at hl 0 rfl) ?_
                  refine fx_get (D := D) (ci := 9) (v := .int (nI (n + i))) (C := RX9) (T := TX9) (N := 78) hx hb hts in_X9 hown hK hP 0 rfl rfl 32 (by decide) (hts _ kX9_221) (fun _ h9 => h9) (k_outSize_ld) dX9_part_222 ?_
                  refine lv_aload_n hx hb dX9_part_225 rfl (lv_at hl 0 rfl) ?_
                  refine fx_get (D := D) (ci := 9) (v := .ref Mrows) (C := RX9) (T := TX9) (N := 78) hx hb hts in_X9 hown hK hP 0 rfl rfl 1 (by decide) (hts _ kX9_7) (fun _ h9 => h9) ((hf_ld 1 (by decide)).trans g_rows) dX9_part_226 ?_
                  refine lv_aload_n hx hb dX9_part_229 rfl (lv_at hl 0 rfl) ?_
                  refine fx_get (D := D) (ci := 9) (v := .int (nI bs)) (C := RX9) (T := TX9) (N := 78) hx hb hts in_X9 hown hK hP 0 rfl rfl 33 (by decide) (hts _ kX9_195) (fun _ h9 => h9) ((hf_ld 33 (by decide)).trans g_base) dX9_part_230 ?_
                  refine lv_aload_n hx hb dX9_part_233 rfl (lv_at hl 0 rfl) ?_
                  refine fx_get (D := D) (ci := 9) (v := .int (nI da)) (C := RX9) (T := TX9) (N := 78) hx hb hts in_X9 hown hK hP 0 rfl rfl 45 (by decide) (hts _ kX9_263) (fun _ h9 => h9) (k_dataAt_ld) dX9_part_234 ?_
                  refine lv_iadd hx hb dX9_part_237 ?_
                  refine ri (y := nI (bs + da)) (nI_add bs da) ?_
                  refine lv_iload hx hb dX9_part_238 (lv_at hl 5 rfl) ?_
                  refine lv_iconst (v := 1) hx hb dX9_part_240 (by decide) ?_
                  refine lv_icmp_ne (tgt := 249) hx hb dX9_part_241 (by decide) (fun c_17 => ?_) (fun c_17 => absurd c_17 (fun w => hk1n ((nI_eq (b := 1) (by omega) (by decide)).mp w)))
                  refine lv_iconst (v := 0) hx hb dX9_part_249 (by decide) ?_
                  refine ri (y := nI 0) (nI_0.symm) ?_
                  refine lv_iadd hx hb dX9_part_250 ?_
                  refine ri (y := nI ((bs + da) + 0)) (nI_add (bs + da) 0) ?_
                  obtain ⟨v1, v2⟩ := hob da (by omega)
                  rw [← Nat.add_zero (bs + da)] at v1
                  refine ax_bld hx hb hK hP 1 1 rfl rfl (bs + da + 0) (rfl) (by omega) (by omega) dX9_part_251 ?_
                  refine ri (y := s8 (b da)) (v1) ?_
                  refine ax_bst hx hb hK hP hD hS 4 1 rfl rfl (n + i) (rfl) (by omega) (by omega) (z := s8 (b da)) (s8_re _ v2) dX9_part_252 (fun H locs hP hD hS => ?_)
                  have hP : va_P D vwCl [(mm, .inr (9, fl 78 g5_ld)), (Mrows, .inl (cB, 32000, .inl mrows)), (Mnears, .inl (cJ, 8, .inr (.inl mnears))), (Msames, .inl (cJ, 1024, .inr (.inl msames))), (Mout, .inl (cB, 4000, .inl (upd o7 (n + i) (s8 (b da))))), (MoutFrom, .inl (cI, 4000, .inl of7)), (Msource, .inl (cB, 4000, .inl msource)), (MsourceFrom, .inl (cI, 4000, .inl msourceFrom)), (MdKind, .inl (cI, 4000, .inl mdKind)), (MdSize, .inl (cI, 4000, .inl mdSize)), (MdAddress, .inl (cI, 4000, .inl mdAddress)), (MdMode, .inl (cI, 4000, .inl mdMode)), (MdCode, .inl (cI, 4000, .inl mdCode)), (MdWindow, .inl (cI, 4000, .inl mdWindow)), (Mtab, .inl (cB, 1536, .inl mtab))] H := hP
                  have hD : va_D A0 [(mm, .inr (9, fl 78 g5_ld)), (Mrows, .inl (cB, 32000, .inl mrows)), (Mnears, .inl (cJ, 8, .inr (.inl mnears))), (Msames, .inl (cJ, 1024, .inr (.inl msames))), (Mout, .inl (cB, 4000, .inl (upd o7 (n + i) (s8 (b da))))), (MoutFrom, .inl (cI, 4000, .inl of7)), (Msource, .inl (cB, 4000, .inl msource)), (MsourceFrom, .inl (cI, 4000, .inl msourceFrom)), (MdKind, .inl (cI, 4000, .inl mdKind)), (MdSize, .inl (cI, 4000, .inl mdSize)), (MdAddress, .inl (cI, 4000, .inl mdAddress)), (MdMode, .inl (cI, 4000, .inl mdMode)), (MdCode, .inl (cI, 4000, .inl mdCode)), (MdWindow, .inl (cI, 4000, .inl mdWindow)), (Mtab, .inl (cB, 1536, .inl mtab))] := hD
                  refine lv_aload_n hx hb dX9_part_253 rfl (lv_at hl 0 rfl) ?_
                  refine fx_get (D := D) (ci := 9) (v := .ref MoutFrom) (C := RX9) (T := TX9) (N := 78) hx hb hts in_X9 hown hK hP 0 rfl rfl 31 (by decide) (hts _ kX9_85) (fun _ h9 => h9) ((hf_ld 31 (by decide)).trans g_outFrom) dX9_part_254 ?_
                  refine lv_aload_n hx hb dX9_part_257 rfl (lv_at hl 0 rfl) ?_
                  refine fx_get (D := D) (ci := 9) (v := .int (nI (n + i))) (C := RX9) (T := TX9) (N := 78) hx hb hts in_X9 hown hK hP 0 rfl rfl 32 (by decide) (hts _ kX9_221) (fun _ h9 => h9) (k_outSize_ld) dX9_part_258 ?_
                  refine lv_iconst (v := -1) hx hb dX9_part_261 (by decide) ?_
                  refine ax_ist hx hb hK hP hD hS 5 0 rfl rfl (n + i) (rfl) (by omega) (by omega) dX9_part_262 (fun H locs hP hD hS => ?_)
                  have hP : va_P D vwCl [(mm, .inr (9, fl 78 g5_ld)), (Mrows, .inl (cB, 32000, .inl mrows)), (Mnears, .inl (cJ, 8, .inr (.inl mnears))), (Msames, .inl (cJ, 1024, .inr (.inl msames))), (Mout, .inl (cB, 4000, .inl (upd o7 (n + i) (s8 (b da))))), (MoutFrom, .inl (cI, 4000, .inl (upd of7 (n + i) (-1)))), (Msource, .inl (cB, 4000, .inl msource)), (MsourceFrom, .inl (cI, 4000, .inl msourceFrom)), (MdKind, .inl (cI, 4000, .inl mdKind)), (MdSize, .inl (cI, 4000, .inl mdSize)), (MdAddress, .inl (cI, 4000, .inl mdAddress)), (MdMode, .inl (cI, 4000, .inl mdMode)), (MdCode, .inl (cI, 4000, .inl mdCode)), (MdWindow, .inl (cI, 4000, .inl mdWindow)), (Mtab, .inl (cB, 1536, .inl mtab))] H := hP
                  have hD : va_D A0 [(mm, .inr (9, fl 78 g5_ld)), (Mrows, .inl (cB, 32000, .inl mrows)), (Mnears, .inl (cJ, 8, .inr (.inl mnears))), (Msames, .inl (cJ, 1024, .inr (.inl msames))), (Mout, .inl (cB, 4000, .inl (upd o7 (n + i) (s8 (b da))))), (MoutFrom, .inl (cI, 4000, .inl (upd of7 (n + i) (-1)))), (Msource, .inl (cB, 4000, .inl msource)), (MsourceFrom, .inl (cI, 4000, .inl msourceFrom)), (MdKind, .inl (cI, 4000, .inl mdKind)), (MdSize, .inl (cI, 4000, .inl mdSize)), (MdAddress, .inl (cI, 4000, .inl mdAddress)), (MdMode, .inl (cI, 4000, .inl mdMode)), (MdCode, .inl (cI, 4000, .inl mdCode)), (MdWindow, .inl (cI, 4000, .inl mdWindow)), (Mtab, .inl (cB, 1536, .inl mtab))] := hD
                  refine lv_aload_n hx hb dX9_part_263 rfl (lv_at hl 0 rfl) ?_
                  refine lv_dup hx hb dX9_part_264 rfl ?_
                  refine fx_get (D := D) (ci := 9) (v := .int (nI (n + i))) (C := RX9) (T := TX9) (N := 78) hx hb hts in_X9 hown hK hP 0 rfl rfl 32 (by decide) (hts _ kX9_221) (fun _ h9 => h9) (k_outSize_ld) dX9_part_265 ?_
                  refine lv_iconst (v := 1) hx hb dX9_part_268 (by decide) ?_
                  refine lv_iadd hx hb dX9_part_269 ?_
                  refine ri (y := nI ((n + i) + 1)) (nI_add (n + i) 1) ?_
                  refine fx_put (D := D) (ci := 9) (v := .int (nI ((n + i) + 1))) (ty := .int) (C := RX9) (T := TX9) (N := 78) hx hb hts in_X9 tyX9 tyX9_ok nmX9 hown hK hP hD hS 0 rfl rfl 32 (by decide) (hts _ kX9_221) (fun _ h9 => h9) rfl (by decide +kernel) rfl rfl dX9_part_270 (fun H locs hP hD hS => ?_)
                  have hP : va_P D vwCl [(mm, .inr (9, fl 78 (va_up g5_ld 32 (.int (nI ((n + i) + 1)))))), (Mrows, .inl (cB, 32000, .inl mrows)), (Mnears, .inl (cJ, 8, .inr (.inl mnears))), (Msames, .inl (cJ, 1024, .inr (.inl msames))), (Mout, .inl (cB, 4000, .inl (upd o7 (n + i) (s8 (b da))))), (MoutFrom, .inl (cI, 4000, .inl (upd of7 (n + i) (-1)))), (Msource, .inl (cB, 4000, .inl msource)), (MsourceFrom, .inl (cI, 4000, .inl msourceFrom)), (MdKind, .inl (cI, 4000, .inl mdKind)), (MdSize, .inl (cI, 4000, .inl mdSize)), (MdAddress, .inl (cI, 4000, .inl mdAddress)), (MdMode, .inl (cI, 4000, .inl mdMode)), (MdCode, .inl (cI, 4000, .inl mdCode)), (MdWindow, .inl (cI, 4000, .inl mdWindow)), (Mtab, .inl (cB, 1536, .inl mtab))] H := hP
                  have hD : va_D A0 [(mm, .inr (9, fl 78 (va_up g5_ld 32 (.int (nI ((n + i) + 1)))))), (Mrows, .inl (cB, 32000, .inl mrows)), (Mnears, .inl (cJ, 8, .inr (.inl mnears))), (Msames, .inl (cJ, 1024, .inr (.inl msames))), (Mout, .inl (cB, 4000, .inl (upd o7 (n + i) (s8 (b da))))), (MoutFrom, .inl (cI, 4000, .inl (upd of7 (n + i) (-1)))), (Msource, .inl (cB, 4000, .inl msource)), (MsourceFrom, .inl (cI, 4000, .inl msourceFrom)), (MdKind, .inl (cI, 4000, .inl mdKind)), (MdSize, .inl (cI, 4000, .inl mdSize)), (MdAddress, .inl (cI, 4000, .inl mdAddress)), (MdMode, .inl (cI, 4000, .inl mdMode)), (MdCode, .inl (cI, 4000, .inl mdCode)), (MdWindow, .inl (cI, 4000, .inl mdWindow)), (Mtab, .inl (cB, 1536, .inl mtab))] := hD
                  refine lv_iinc (v := nI (i + 1)) (lv' := [(10, .int (nI (i + 1))), (0, .ref mm), (1, .int (nI c)), (2, .int (nI q)), (3, .int (nI wh)), (4, .long (lN z)), (6, .int (nI (tt (q * 256 + c)))), (7, .long (lN 0)), (9, .int (nI 0))]) hx hb dX9_part_273 hl (k := 8) rfl (nI_add i 1) (by decide) rfl (fun ls hl => ?_)
                  refine lv_goto (tgt := 208) hx hb dX9_part_276 (by decide) ?_
                  have hps := outR_push (o := -1) hor v2
                  rw [hmn] at hps
                  have hsx : (runM (b da) (i + 1) (B, G, n)) = pushM (runM (b da) i (B, G, n)) (b da) (-1) := runM_s _ _
                  exact ih (va_up g5_ld 32 (.int (nI ((n + i) + 1)))) (i + 1) (upd o7 (n + i) (s8 (b da))) (upd of7 (n + i) (-1)) _ _ ls (by omega) ((frm_up hf_ld (by decide))) (k_codeAt_ld) (k_partAt_ld) (rfl) (k_dataAt_ld) (k_addressAt_ld) (k_nextNear_ld) (k_drafts_ld) (k_fault_ld) (k_place_ld) (by omega) (by rw [hsx]; exact hps) hP hD hS (lv_sub hl [1, 2, 3, 4, 5, 6, 7, 8, 0] rfl)
            exact ld _ gj_JS 0 mout moutFrom _ _ ls (Nat.lt_succ_self _) (hf_JS) (k_codeAt_JS) (k_partAt_JS) (k_outSize_JS) (k_dataAt_JS) (k_addressAt_JS) (k_nextNear_JS) (k_drafts_JS) (k_fault_JS) (k_place_JS) (Nat.zero_le _) (ho) (hP.sub [13, 0, 1, 2, 3, 4, 5, 6, 7, 8, 9, 10, 11, 12, 14] rfl) (hD.sub [13, 0, 1, 2, 3, 4, 5, 6, 7, 8, 9, 10, 11, 12, 14] (by decide) rfl) hS (lv_sub hl [4, 5, 6, 7, 8, 3, 2, 1, 0] rfl)
          · have hlk : de - da < 1 := Nat.not_le.mp (fun w => c_14 ((lg_cmp_ge _ _).mpr ((pk_lLE (by omega) (by omega)).mpr w)))
            rw [if_pos hlk] at hpt0
            refine lv_aload_n hx hb dX9_part_197 rfl (lv_at hl 3 rfl) ?_
            refine lv_bipush (v := 12) hx hb dX9_part_198 (by decide) ?_
            refine ri (y := nI 12) (rfl) ?_
            refine lv_iload_n hx hb dX9_part_200 rfl (lv_at hl 6 rfl) ?_
            refine jn_v (wr := [(Mrows, .inl (cB, 32000, .inl mrows)), (Mnears, .inl (cJ, 8, .inr (.inl mnears))), (Msames, .inl (cJ, 1024, .inr (.inl msames))), (Mout, .inl (cB, 4000, .inl mout)), (MoutFrom, .inl (cI, 4000, .inl moutFrom)), (Msource, .inl (cB, 4000, .inl msource)), (MsourceFrom, .inl (cI, 4000, .inl msourceFrom)), (MdKind, .inl (cI, 4000, .inl mdKind)), (MdSize, .inl (cI, 4000, .inl mdSize)), (MdAddress, .inl (cI, 4000, .inl mdAddress)), (MdMode, .inl (cI, 4000, .inl mdMode)), (MdCode, .inl (cI, 4000, .inl mdCode)), (MdWindow, .inl (cI, 4000, .inl mdWindow)), (Mtab, .inl (cB, 1536, .inl mtab))]) hA hP hD hS [13] [0, 1, 2, 3, 4, 5, 6, 7, 8, 9, 10, 11, 12, 14] rfl rfl (by decide) (by decide) (rn_V (As := [.int (nI 12), .int (nI wh)]) (rest := []) ⟨hx, hb, hml, hown, hts⟩ (cvV 2 hts zc_yX9_fail zi_X9 zm_yX9_fail zv_yX9_fail kX9_191 (by decide +kernel) rfl rfl ⟨Nat.le_of_ble_eq_true rfl, Nat.le_of_ble_eq_true rfl⟩) (m_fail l D cI cB cJ cR mm gj_JS fu pl 12 wh (k_fault_JS) (k_place_JS) (hfl) H.size) hK hNw hMk hA hP hD hS [13] rfl rfl (by decide) 0 rfl rfl rfl rfl hl.1 rfl (Nat.le_of_ble_eq_true rfl) dX9_part_201 ⟨Nat.le_of_ble_eq_true rfl, Nat.le_of_ble_eq_true rfl⟩) (fun u9 H locs w_18 hP hD hS => ?_)
            obtain ⟨g_19, fu2_20, pl2_21⟩ := u9
            try dsimp only at w_18
            have hP : va_P D vwCl [(Mrows, .inl (cB, 32000, .inl mrows)), (Mnears, .inl (cJ, 8, .inr (.inl mnears))), (Msames, .inl (cJ, 1024, .inr (.inl msames))), (Mout, .inl (cB, 4000, .inl mout)), (MoutFrom, .inl (cI, 4000, .inl moutFrom)), (Msource, .inl (cB, 4000, .inl msource)), (MsourceFrom, .inl (cI, 4000, .inl msourceFrom)), (MdKind, .inl (cI, 4000, .inl mdKind)), (MdSize, .inl (cI, 4000, .inl mdSize)), (MdAddress, .inl (cI, 4000, .inl mdAddress)), (MdMode, .inl (cI, 4000, .inl mdMode)), (MdCode, .inl (cI, 4000, .inl mdCode)), (MdWindow, .inl (cI, 4000, .inl mdWindow)), (Mtab, .inl (cB, 1536, .inl mtab)), (mm, .inr (9, fl 78 g_19))] H := hP
            have hD : va_D A0 [(Mrows, .inl (cB, 32000, .inl mrows)), (Mnears, .inl (cJ, 8, .inr (.inl mnears))), (Msames, .inl (cJ, 1024, .inr (.inl msames))), (Mout, .inl (cB, 4000, .inl mout)), (MoutFrom, .inl (cI, 4000, .inl moutFrom)), (Msource, .inl (cB, 4000, .inl msource)), (MsourceFrom, .inl (cI, 4000, .inl msourceFrom)), (MdKind, .inl (cI, 4000, .inl mdKind)), (MdSize, .inl (cI, 4000, .inl mdSize)), (MdAddress, .inl (cI, 4000, .inl mdAddress)), (MdMode, .inl (cI, 4000, .inl mdMode)), (MdCode, .inl (cI, 4000, .inl mdCode)), (MdWindow, .inl (cI, 4000, .inl mdWindow)), (Mtab, .inl (cB, 1536, .inl mtab)), (mm, .inr (9, fl 78 g_19))] := hD
            obtain ⟨f_w_18, fault_w_18, place_w_18, w_18_⟩ := w_18
            have k48_g_19 : g_19 48 = .int (nI ce) := (f_w_18 48 (by decide)).trans ((hf_JS 48 (by decide)).trans g_codeEnd)
            have k33_g_19 : g_19 33 = .int (nI bs) := (f_w_18 33 (by decide)).trans ((hf_JS 33 (by decide)).trans g_base)
            have k43_g_19 : g_19 43 = .int (nI ww) := (f_w_18 43 (by decide)).trans ((hf_JS 43 (by decide)).trans g_begun)
            have k44_g_19 : g_19 44 = .int (nI wl) := (f_w_18 44 (by decide)).trans ((hf_JS 44 (by decide)).trans g_will)
            have k46_g_19 : g_19 46 = .int (nI de) := (f_w_18 46 (by decide)).trans ((hf_JS 46 (by decide)).trans g_dataEnd)
            have k50_g_19 : g_19 50 = .int (nI ae) := (f_w_18 50 (by decide)).trans ((hf_JS 50 (by decide)).trans g_addressEnd)
            have k8_g_19 : g_19 8 = .int (nI near) := (f_w_18 8 (by decide)).trans ((hf_JS 8 (by decide)).trans g_near)
            have k9_g_19 : g_19 9 = .int (nI same) := (f_w_18 9 (by decide)).trans ((hf_JS 9 (by decide)).trans g_same)
            have k40_g_19 : g_19 40 = .int (nI kk) := (f_w_18 40 (by decide)).trans ((hf_JS 40 (by decide)).trans g_segment)
            have k41_g_19 : g_19 41 = .int (nI zz) := (f_w_18 41 (by decide)).trans ((hf_JS 41 (by decide)).trans g_segmentSize)
            have k42_g_19 : g_19 42 = .int (nI ff) := (f_w_18 42 (by decide)).trans ((hf_JS 42 (by decide)).trans g_segmentAt)
            have k39_g_19 : g_19 39 = .int (bI ct) := (f_w_18 39 (by decide)).trans ((hf_JS 39 (by decide)).trans g_counts)
            have k38_g_19 : g_19 38 = .int (nI wr) := (f_w_18 38 (by decide)).trans ((hf_JS 38 (by decide)).trans g_windows)
            have k1_g_19 : g_19 1 = .ref Mrows := (f_w_18 1 (by decide)).trans ((hf_JS 1 (by decide)).trans g_rows)
            have k7_g_19 : g_19 7 = .ref Mtab := (f_w_18 7 (by decide)).trans ((hf_JS 7 (by decide)).trans g_tab)
            have k10_g_19 : g_19 10 = .ref Mnears := (f_w_18 10 (by decide)).trans ((hf_JS 10 (by decide)).trans g_nears)
            have k12_g_19 : g_19 12 = .ref Msames := (f_w_18 12 (by decide)).trans ((hf_JS 12 (by decide)).trans g_sames)
            have k30_g_19 : g_19 30 = .ref Mout := (f_w_18 30 (by decide)).trans ((hf_JS 30 (by decide)).trans g_out)
            have k31_g_19 : g_19 31 = .ref MoutFrom := (f_w_18 31 (by decide)).trans ((hf_JS 31 (by decide)).trans g_outFrom)
            have k27_g_19 : g_19 27 = .ref Msource := (f_w_18 27 (by decide)).trans ((hf_JS 27 (by decide)).trans g_source)
            have k28_g_19 : g_19 28 = .ref MsourceFrom := (f_w_18 28 (by decide)).trans ((hf_JS 28 (by decide)).trans g_sourceFrom)
            have k21_g_19 : g_19 21 = .ref MdKind := (f_w_18 21 (by decide)).trans ((hf_JS 21 (by decide)).trans g_dKind)
            have k22_g_19 : g_19 22 = .ref MdSize := (f_w_18 22 (by decide)).trans ((hf_JS 22 (by decide)).trans g_dSize)
            have k23_g_19 : g_19 23 = .ref MdAddress := (f_w_18 23 (by decide)).trans ((hf_JS 23 (by decide)).trans g_dAddress)
            have k24_g_19 : g_19 24 = .ref MdMode := (f_w_18 24 (by decide)).trans ((hf_JS 24 (by decide)).trans g_dMode)
            have k25_g_19 : g_19 25 = .ref MdCode := (f_w_18 25 (by decide)).trans ((hf_JS 25 (by decide)).trans g_dCode)
            have k26_g_19 : g_19 26 = .ref MdWindow := (f_w_18 26 (by decide)).trans ((hf_JS 26 (by decide)).trans g_dWindow)
            have k47_g_19 : g_19 47 = .int (nI c2) := (f_w_18 47 (by decide)).trans (k_codeAt_JS)
            have k51_g_19 : g_19 51 = .int pb := (f_w_18 51 (by decide)).trans (k_partAt_JS)
            have k32_g_19 : g_19 32 = .int (nI n) := (f_w_18 32 (by decide)).trans (k_outSize_JS)
            have k45_g_19 : g_19 45 = .int (nI da) := (f_w_18 45 (by decide)).trans (k_dataAt_JS)
            have k49_g_19 : g_19 49 = .int (nI aa) := (f_w_18 49 (by decide)).trans (k_addressAt_JS)
            have k11_g_19 : g_19 11 = .int (nI nx) := (f_w_18 11 (by decide)).trans (k_nextNear_JS)
            have k20_g_19 : g_19 20 = .int (nI dr) := (f_w_18 20 (by decide)).trans (k_drafts_JS)
            have fr_g_19 : frm [47, 51, 32, 45, 49, 11, 20, 36, 37] g g_19 := frm_tr hf_JS f_w_18 (by decide)
            rw [if_pos h0] at w_18_
            obtain ⟨x1, x2⟩ := Prod.mk.inj w_18_
            have hP := hP.sub (ws' := [(mm, .inr (9, fl 78 g_19)), (Mrows, .inl (cB, 32000, .inl mrows)), (Mtab, .inl (cB, 1536, .inl mtab)), (Mnears, .inl (cJ, 8, .inr (.inl mnears))), (Msames, .inl (cJ, 1024, .inr (.inl msames))), (Mout, .inl (cB, 4000, .inl mout)), (MoutFrom, .inl (cI, 4000, .inl moutFrom)), (Msource, .inl (cB, 4000, .inl msource)), (MsourceFrom, .inl (cI, 4000, .inl msourceFrom)), (MdKind, .inl (cI, 4000, .inl mdKind)), (MdSize, .inl (cI, 4000, .inl mdSize)), (MdAddress, .inl (cI, 4000, .inl mdAddress)), (MdMode, .inl (cI, 4000, .inl mdMode)), (MdCode, .inl (cI, 4000, .inl mdCode)), (MdWindow, .inl (cI, 4000, .inl mdWindow))]) [14, 0, 13, 1, 2, 3, 4, 5, 6, 7, 8, 9, 10, 11, 12] rfl
            have hD := hD.sub (ws' := [(mm, .inr (9, fl 78 g_19)), (Mrows, .inl (cB, 32000, .inl mrows)), (Mtab, .inl (cB, 1536, .inl mtab)), (Mnears, .inl (cJ, 8, .inr (.inl mnears))), (Msames, .inl (cJ, 1024, .inr (.inl msames))), (Mout, .inl (cB, 4000, .inl mout)), (MoutFrom, .inl (cI, 4000, .inl moutFrom)), (Msource, .inl (cB, 4000, .inl msource)), (MsourceFrom, .inl (cI, 4000, .inl msourceFrom)), (MdKind, .inl (cI, 4000, .inl mdKind)), (MdSize, .inl (cI, 4000, .inl mdSize)), (MdAddress, .inl (cI, 4000, .inl mdAddress)), (MdMode, .inl (cI, 4000, .inl mdMode)), (MdCode, .inl (cI, 4000, .inl mdCode)), (MdWindow, .inl (cI, 4000, .inl mdWindow))]) [14, 0, 13, 1, 2, 3, 4, 5, 6, 7, 8, 9, 10, 11, 12] (by decide) rfl
            exact hret 204 ls _ _ (g_19, c2, pb, n, da, (nI aa), aa, nx, dr, fu2_20, pl2_21, cnt, cN, cS, B, G, gg, mnears, msames, mout, moutFrom, mdKind, mdSize, mdAddress, mdMode, mdCode, mdWindow) dX9_part_204 hP hD hS (⟨fr_g_19, k47_g_19, k51_g_19, k32_g_19, k45_g_19, k49_g_19, k11_g_19, k20_g_19, fault_w_18, place_w_18, ⟨fun _ => ⟨by rw [x1]; exact hpt0, x2, rfl, rfl, fun z => (hct z).2.2⟩, fun z => absurd (x1.symm.trans z) (by decide), by rw [x1]; decide, fun _ => rfl⟩⟩)
        · have hk1x : tt (q * 256 + c) = 1 := (nI_eq (b := 1) (by omega) (by decide)).mp c_13
          have hnd : needD (tt (q * 256 + c)) z = z := by rw [needD, if_neg (by omega)]
          refine lv_lload hx hb dX9_part_187 (lv_at hl 7 rfl) ?_
          refine lv_goto (tgt := 193) hx hb dX9_part_189 (by decide) ?_
          rw [hnd] at hpt0
          refine W.lcmp hx hb dX9_part_193 ?_
          refine lv_if_ge (tgt := 205) hx hb dX9_part_194 (by decide) (fun c_23 => ?_) (fun c_23 => ?_)
          · have hlk : ¬ de - da < z := Nat.not_lt.mpr ((pk_lLE (by omega) (by omega)).mp ((lg_cmp_ge _ _).mp c_23))
            rw [if_neg hlk] at hpt0
            refine lv_iconst (v := 0) hx hb dX9_part_205 (by decide) ?_
            refine ri (y := nI 0) (nI_0.symm) ?_
            refine lv_istore (lv' := [(10, .int (nI 0)), (9, .int (nI 0)), (7, .long (lN 0)), (6, .int (nI (tt (q * 256 + c)))), (0, .ref mm), (1, .int (nI c)), (2, .int (nI q)), (3, .int (nI wh)), (4, .long (lN z))]) hx hb dX9_part_206 hl (by decide) rfl (fun ls hl => ?_)
            have ld : ∀ (k9 : Nat) (g5_ld : Nat → Value) (i : Nat) (o7 : Nat → Int32) (of7 : Nat → Int32) (H : Heap) (locs : List Loc) (ls : Array Slot), z - i < k9 → (frm [47, 51, 32, 45, 49, 11, 20, 36, 37] g g5_ld) → (g5_ld 47 = .int (nI c2)) → (g5_ld 51 = .int pb) → (g5_ld 32 = .int (nI (n + i))) → (g5_ld 45 = .int (nI da)) → (g5_ld 49 = .int (nI aa)) → (g5_ld 11 = .int (nI nx)) → (g5_ld 20 = .int (nI dr)) → (g5_ld 36 = .int (nI fu)) → (g5_ld 37 = .int (nI pl)) → (i ≤ z) → (outR o7 of7 (addM b i da (B, G, n))) → va_P D vwCl [(mm, .inr (9, fl 78 g5_ld)), (Mrows, .inl (cB, 32000, .inl mrows)), (Mnears, .inl (cJ, 8, .inr (.inl mnears))), (Msames, .inl (cJ, 1024, .inr (.inl msames))), (Mout, .inl (cB, 4000, .inl o7)), (MoutFrom, .inl (cI, 4000, .inl of7)), (Msource, .inl (cB, 4000, .inl msource)), (MsourceFrom, .inl (cI, 4000, .inl msourceFrom)), (MdKind, .inl (cI, 4000, .inl mdKind)), (MdSize, .inl (cI, 4000, .inl mdSize)), (MdAddress, .inl (cI, 4000, .inl mdAddress)), (MdMode, .inl (cI, 4000, .inl mdMode)), (MdCode, .inl (cI, 4000, .inl mdCode)), (MdWindow, .inl (cI, 4000, .inl mdWindow)), (Mtab, .inl (cB, 1536, .inl mtab))] H → va_D A0 [(mm, .inr (9, fl 78 g5_ld)), (Mrows, .inl (cB, 32000, .inl mrows)), (Mnears, .inl (cJ, 8, .inr (.inl mnears))), (Msames, .inl (cJ, 1024, .inr (.inl msames))), (Mout, .inl (cB, 4000, .inl o7)), (MoutFrom, .inl (cI, 4000, .inl of7)), (Msource, .inl (cB, 4000, .inl msource)), (MsourceFrom, .inl (cI, 4000, .inl msourceFrom)), (MdKind, .inl (cI, 4000, .inl mdKind)), (MdSize, .inl (cI, 4000, .inl mdSize)), (MdAddress, .inl (cI, 4000, .inl mdAddress)), (MdMode, .inl (cI, 4000, .inl mdMode)), (MdCode, .inl (cI, 4000, .inl mdCode)), (MdWindow, .inl (cI, 4000, .inl mdWindow)), (Mtab, .inl (cB, 1536, .inl mtab))] → va_S A0 s0.heap H locs → lv_has ls 11 [(0, .ref mm), (1, .int (nI c)), (2, .int (nI q)), (3, .int (nI wh)), (4, .long (lN z)), (6, .int (nI (tt (q * 256 + c)))), (7, .long (lN 0)), (9, .int (nI 0)), (10, .int (nI i))] → W p0 l e0 ({ frames := 2, cells := 0, slots := 0, locals := 54 }) s0 m0 ([.ref mm, .int (nI c), .int (nI q), .int (nI wh)] : List Value).toArray below meth c0 H locs 0 0 Q0 (F0 m0 208 ls []) := by
              intro k9
              induction k9 with
              | zero => intro g5_ld i o7 of7 H locs ls hk9; exact absurd hk9 (Nat.not_lt_zero _)
              | succ k9 ih =>
                intro g5_ld i o7 of7 H locs ls hk9 hf_ld k_codeAt_ld k_partAt_ld k_outSize_ld k_dataAt_ld k_addressAt_ld k_nextNear_ld k_drafts_ld k_fault_ld k_place_ld hiz hor hP hD hS hl
                have hmn : (addM b i da (B, G, n)).2.2 = n + i := addM_n _ _ _
                refine lv_iload hx hb dX9_part_208 (lv_at hl 8 rfl) ?_
                refine lv_i2l hx hb dX9_part_210 (v := (nI i).toInt64) rfl ?_
                refine rl (y := lN i) (nI_l (by omega)) ?_
                refine lv_lload hx hb dX9_part_211 (lv_at hl 4 rfl) ?_
                refine W.lcmp hx hb dX9_part_213 ?_
                refine lv_if_ge (tgt := 279) hx hb dX9_part_214 (by decide) (fun c_24 => ?_) (fun c_24 => ?_)
                · have hi9 : i = z := by have := (pk_lLE (by omega) (by omega)).mp ((lg_cmp_ge _ _).mp c_24); omega
                  subst hi9
                  have hdm : datM b (tt (q * 256 + c)) i da (B, G, n) = (addM b i da (B, G, n)) := by rw [datM, if_neg (by omega)]
                  rw [hdm] at hpt0
                  obtain ⟨⟨B3, G3, n3⟩, hB3⟩ : ∃ t9, t9 = (addM b i da (B, G, n)) := ⟨_, rfl⟩
                  rw [← hB3] at hpt0 hmn hor
                  have hn3 : n3 = n + i := hmn
                  subst hn3
                  refine lv_aload_n hx hb dX9_part_279 rfl (lv_at hl 0 rfl) ?_
                  refine lv_dup hx hb dX9_part_280 rfl ?_
                  refine fx_get (D := D) (ci := 9) (v := .int (nI da)) (C := RX9) (T := TX9) (N := 78) hx hb hts in_X9 hown hK hP 0 rfl rfl 45 (by decide) (hts _ kX9_263) (fun _ h9 => h9) (k_dataAt_ld) dX9_part_281 ?_
                  refine lv_iload hx hb dX9_part_284 (lv_at hl 5 rfl) ?_
                  refine lv_iconst (v := 1) hx hb dX9_part_286 (by decide) ?_
                  refine lv_icmp_ne (tgt := 296) hx hb dX9_part_287 (by decide) (fun c_25 => absurd (by rw [hk1x]; rfl) c_25) (fun c_25 => ?_)
                  refine lv_lload hx hb dX9_part_290 (lv_at hl 4 rfl) ?_
                  refine lv_l2i hx hb dX9_part_292 (v := (lN i).toInt32) rfl ?_
                  refine ri (y := nI i) (lN_i i) ?_
                  refine lv_goto (tgt := 297) hx hb dX9_part_293 (by decide) ?_
                  refine lv_iadd hx hb dX9_part_297 ?_
                  refine ri (y := nI (da + i)) (nI_add da i) ?_
                  refine fx_put (D := D) (ci := 9) (v := .int (nI (da + i))) (ty := .int) (C := RX9) (T := TX9) (N := 78) hx hb hts in_X9 tyX9 tyX9_ok nmX9 hown hK hP hD hS 0 rfl rfl 45 (by decide) (hts _ kX9_263) (fun _ h9 => h9) rfl (by decide +kernel) rfl rfl dX9_part_298 (fun H locs hP hD hS => ?_)
                  have hP : va_P D vwCl [(mm, .inr (9, fl 78 (va_up g5_ld 45 (.int (nI (da + i)))))), (Mrows, .inl (cB, 32000, .inl mrows)), (Mnears, .inl (cJ, 8, .inr (.inl mnears))), (Msames, .inl (cJ, 1024, .inr (.inl msames))), (Mout, .inl (cB, 4000, .inl o7)), (MoutFrom, .inl (cI, 4000, .inl of7)), (Msource, .inl (cB, 4000, .inl msource)), (MsourceFrom, .inl (cI, 4000, .inl msourceFrom)), (MdKind, .inl (cI, 4000, .inl mdKind)), (MdSize, .inl (cI, 4000, .inl mdSize)), (MdAddress, .inl (cI, 4000, .inl mdAddress)), (MdMode, .inl (cI, 4000, .inl mdMode)), (MdCode, .inl (cI, 4000, .inl mdCode)), (MdWindow, .inl (cI, 4000, .inl mdWindow)), (Mtab, .inl (cB, 1536, .inl mtab))] H := hP
                  have hD : va_D A0 [(mm, .inr (9, fl 78 (va_up g5_ld 45 (.int (nI (da + i)))))), (Mrows, .inl (cB, 32000, .inl mrows)), (Mnears, .inl (cJ, 8, .inr (.inl mnears))), (Msames, .inl (cJ, 1024, .inr (.inl msames))), (Mout, .inl (cB, 4000, .inl o7)), (MoutFrom, .inl (cI, 4000, .inl of7)), (Msource, .inl (cB, 4000, .inl msource)), (MsourceFrom, .inl (cI, 4000, .inl msourceFrom)), (MdKind, .inl (cI, 4000, .inl mdKind)), (MdSize, .inl (cI, 4000, .inl mdSize)), (MdAddress, .inl (cI, 4000, .inl mdAddress)), (MdMode, .inl (cI, 4000, .inl mdMode)), (MdCode, .inl (cI, 4000, .inl mdCode)), (MdWindow, .inl (cI, 4000, .inl mdWindow)), (Mtab, .inl (cB, 1536, .inl mtab))] := hD
                  exact JL (va_up g5_ld 45 (.int (nI (da + i)))) 0 0 (n + i) (da + i) aa nx pb cN cS B3 G3 mnears msames o7 of7 _ _ ls ((frm_up hf_ld (by decide))) (k_codeAt_ld) (k_partAt_ld) (k_outSize_ld) (rfl) (k_addressAt_ld) (k_nextNear_ld) (k_drafts_ld) (k_fault_ld) (k_place_ld) (by rw [hpt0, nI_0]) (by omega) (haa) (by omega) (by omega) (hor) (hnx) (hc) (hcN) (hcS) hP hD hS (lv_sub hl [0, 1, 2, 3, 4, 5, 6, 7] rfl)
                · have hi9 : i < z := Nat.not_le.mp (fun w => c_24 ((lg_cmp_ge _ _).mpr ((pk_lLE (by omega) (by omega)).mpr w)))
                  refine lv_aload_n hx hb dX9_part_217 rfl (lv_at hl 0 rfl) ?_
                  refine fx_get (D := D) (ci := 9) (v := .ref Mout) (C := RX9) (T := TX9) (N := 78) hx hb hts in_X9 hown hK hP 0 rfl rfl 30 (by decide) (hts _ kX9_82) (fun _ h9 => h9) ((hf_ld 30 (by decide)).trans g_out) dX9_part_218 ?_
                  refine lv_aload_n hx hb dX9_part_221 rfl (lv_at hl 0 rfl) ?_
                  refine fx_get (D := D) (ci := 9) (v := .int (nI (n + i))) (C := RX9) (T := TX9) (N := 78) hx hb hts in_X9 hown hK hP 0 rfl rfl 32 (by decide) (hts _ kX9_221) (fun _ h9 => h9) (k_outSize_ld) dX9_part_222 ?_
                  refine lv_aload_n hx hb dX9_part_225 rfl (lv_at hl 0 rfl) ?_
                  refine fx_get (D := D) (ci := 9) (v := .ref Mrows) (C := RX9) (T := TX9) (N := 78) hx hb hts in_X9 hown hK hP 0 rfl rfl 1 (by decide) (hts _ kX9_7) (fun _ h9 => h9) ((hf_ld 1 (by decide)).trans g_rows) dX9_part_226 ?_
                  refine lv_aload_n hx hb dX9_part_229 rfl (lv_at hl 0 rfl) ?_
                  refine fx_get (D := D) (ci := 9) (v := .int (nI bs)) (C := RX9) (T := TX9) (N := 78) hx hb hts in_X9 hown hK hP 0 rfl rfl 33 (by decide) (hts _ kX9_195) (fun _ h9 => h9) ((hf_ld 33 (by decide)).trans g_base) dX9_part_230 ?_
                  refine lv_aload_n hx hb dX9_part_233 rfl (lv_at hl 0 rfl) ?_
                  refine fx_get (D := D) (ci := 9) (v := .int (nI da)) (C := RX9) (T := TX9) (N := 78) hx hb hts in_X9 hown hK hP 0 rfl rfl 45 (by decide) (hts _ kX9_263) (fun _ h9 => h9) (k_dataAt_ld) dX9_part_234 ?_
                  refine lv_iadd hx hb dX9_part_237 ?_
                  refine ri (y := nI (bs + da)) (nI_add bs da) ?_
                  refine lv_iload hx hb dX9_part_238 (lv_at hl 5 rfl) ?_
                  refine lv_iconst (v := 1) hx hb dX9_part_240 (by decide) ?_
                  refine lv_icmp_ne (tgt := 249) hx hb dX9_part_241 (by decide) (fun c_26 => absurd (by rw [hk1x]; rfl) c_26) (fun c_26 => ?_)
                  refine lv_iload hx hb dX9_part_244 (lv_at hl 8 rfl) ?_
                  refine lv_goto (tgt := 250) hx hb dX9_part_246 (by decide) ?_
                  refine lv_iadd hx hb dX9_part_250 ?_
                  refine ri (y := nI ((bs + da) + i)) (nI_add (bs + da) i) ?_
                  obtain ⟨v1, v2⟩ := hob (da + i) (by omega)
                  rw [← Nat.add_assoc] at v1
                  refine ax_bld hx hb hK hP 1 1 rfl rfl (bs + da + i) (rfl) (by omega) (by omega) dX9_part_251 ?_
                  refine ri (y := s8 (b (da + i))) (v1) ?_
                  refine ax_bst hx hb hK hP hD hS 4 1 rfl rfl (n + i) (rfl) (by omega) (by omega) (z := s8 (b (da + i))) (s8_re _ v2) dX9_part_252 (fun H locs hP hD hS => ?_)
                  have hP : va_P D vwCl [(mm, .inr (9, fl 78 g5_ld)), (Mrows, .inl (cB, 32000, .inl mrows)), (Mnears, .inl (cJ, 8, .inr (.inl mnears))), (Msames, .inl (cJ, 1024, .inr (.inl msames))), (Mout, .inl (cB, 4000, .inl (upd o7 (n + i) (s8 (b (da + i)))))), (MoutFrom, .inl (cI, 4000, .inl of7)), (Msource, .inl (cB, 4000, .inl msource)), (MsourceFrom, .inl (cI, 4000, .inl msourceFrom)), (MdKind, .inl (cI, 4000, .inl mdKind)), (MdSize, .inl (cI, 4000, .inl mdSize)), (MdAddress, .inl (cI, 4000, .inl mdAddress)), (MdMode, .inl (cI, 4000, .inl mdMode)), (MdCode, .inl (cI, 4000, .inl mdCode)), (MdWindow, .inl (cI, 4000, .inl mdWindow)), (Mtab, .inl (cB, 1536, .inl mtab))] H := hP
                  have hD : va_D A0 [(mm, .inr (9, fl 78 g5_ld)), (Mrows, .inl (cB, 32000, .inl mrows)), (Mnears, .inl (cJ, 8, .inr (.inl mnears))), (Msames, .inl (cJ, 1024, .inr (.inl msames))), (Mout, .inl (cB, 4000, .inl (upd o7 (n + i) (s8 (b (da + i)))))), (MoutFrom, .inl (cI, 4000, .inl of7)), (Msource, .inl (cB, 4000, .inl msource)), (MsourceFrom, .inl (cI, 4000, .inl msourceFrom)), (MdKind, .inl (cI, 4000, .inl mdKind)), (MdSize, .inl (cI, 4000, .inl mdSize)), (MdAddress, .inl (cI, 4000, .inl mdAddress)), (MdMode, .inl (cI, 4000, .inl mdMode)), (MdCode, .inl (cI, 4000, .inl mdCode)), (MdWindow, .inl (cI, 4000, .inl mdWindow)), (Mtab, .inl (cB, 1536, .inl mtab))] := hD
                  refine lv_aload_n hx hb dX9_part_253 rfl (lv_at hl 0 rfl) ?_
                  refine fx_get (D := D) (ci := 9) (v := .ref MoutFrom) (C := RX9) (T := TX9) (N := 78) hx hb hts in_X9 hown hK hP 0 rfl rfl 31 (by decide) (hts _ kX9_85) (fun _ h9 => h9) ((hf_ld 31 (by decide)).trans g_outFrom) dX9_part_254 ?_
                  refine lv_aload_n hx hb dX9_part_257 rfl (lv_at hl 0 rfl) ?_
                  refine fx_get (D := D) (ci := 9) (v := .int (nI (n + i))) (C := RX9) (T := TX9) (N := 78) hx hb hts in_X9 hown hK hP 0 rfl rfl 32 (by decide) (hts _ kX9_221) (fun _ h9 => h9) (k_outSize_ld) dX9_part_258 ?_
                  refine lv_iconst (v := -1) hx hb dX9_part_261 (by decide) ?_
                  refine ax_ist hx hb hK hP hD hS 5 0 rfl rfl (n + i) (rfl) (by omega) (by omega) dX9_part_262 (fun H locs hP hD hS => ?_)
                  have hP : va_P D vwCl [(mm, .inr (9, fl 78 g5_ld)), (Mrows, .inl (cB, 32000, .inl mrows)), (Mnears, .inl (cJ, 8, .inr (.inl mnears))), (Msames, .inl (cJ, 1024, .inr (.inl msames))), (Mout, .inl (cB, 4000, .inl (upd o7 (n + i) (s8 (b (da + i)))))), (MoutFrom, .inl (cI, 4000, .inl (upd of7 (n + i) (-1)))), (Msource, .inl (cB, 4000, .inl msource)), (MsourceFrom, .inl (cI, 4000, .inl msourceFrom)), (MdKind, .inl (cI, 4000, .inl mdKind)), (MdSize, .inl (cI, 4000, .inl mdSize)), (MdAddress, .inl (cI, 4000, .inl mdAddress)), (MdMode, .inl (cI, 4000, .inl mdMode)), (MdCode, .inl (cI, 4000, .inl mdCode)), (MdWindow, .inl (cI, 4000, .inl mdWindow)), (Mtab, .inl (cB, 1536, .inl mtab))] H := hP
                  have hD : va_D A0 [(mm, .inr (9, fl 78 g5_ld)), (Mrows, .inl (cB, 32000, .inl mrows)), (Mnears, .inl (cJ, 8, .inr (.inl mnears))), (Msames, .inl (cJ, 1024, .inr (.inl msames))), (Mout, .inl (cB, 4000, .inl (upd o7 (n + i) (s8 (b (da + i)))))), (MoutFrom, .inl (cI, 4000, .inl (upd of7 (n + i) (-1)))), (Msource, .inl (cB, 4000, .inl msource)), (MsourceFrom, .inl (cI, 4000, .inl msourceFrom)), (MdKind, .inl (cI, 4000, .inl mdKind)), (MdSize, .inl (cI, 4000, .inl mdSize)), (MdAddress, .inl (cI, 4000, .inl mdAddress)), (MdMode, .inl (cI, 4000, .inl mdMode)), (MdCode, .inl (cI, 4000, .inl mdCode)), (MdWindow, .inl (cI, 4000, .inl mdWindow)), (Mtab, .inl (cB, 1536, .inl mtab))] := hD
                  refine lv_aload_n hx hb dX9_part_263 rfl (lv_at hl 0 rfl) ?_
                  refine lv_dup hx hb dX9_part_264 rfl ?_
                  refine fx_get (D := D) (ci := 9) (v := .int (nI (n + i))) (C := RX9) (T := TX9) (N := 78) hx hb hts in_X9 hown hK hP 0 rfl rfl 32 (by decide) (hts _ kX9_221) (fun _ h9 => h9) (k_outSize_ld) dX9_part_265 ?_
                  refine lv_iconst (v := 1) hx hb dX9_part_268 (by decide) ?_
                  refine lv_iadd hx hb dX9_part_269 ?_
                  refine ri (y := nI ((n + i) + 1)) (nI_add (n + i) 1) ?_
                  refine fx_put (D := D) (ci := 9) (v := .int (nI ((n + i) + 1))) (ty := .int) (C := RX9) (T := TX9) (N := 78) hx hb hts in_X9 tyX9 tyX9_ok nmX9 hown hK hP hD hS 0 rfl rfl 32 (by decide) (hts _ kX9_221) (fun _ h9 => h9) rfl (by decide +kernel) rfl rfl dX9_part_270 (fun H locs hP hD hS => ?_)
                  have hP : va_P D vwCl [(mm, .inr (9, fl 78 (va_up g5_ld 32 (.int (nI ((n + i) + 1)))))), (Mrows, .inl (cB, 32000, .inl mrows)), (Mnears, .inl (cJ, 8, .inr (.inl mnears))), (Msames, .inl (cJ, 1024, .inr (.inl msames))), (Mout, .inl (cB, 4000, .inl (upd o7 (n + i) (s8 (b (da + i)))))), (MoutFrom, .inl (cI, 4000, .inl (upd of7 (n + i) (-1)))), (Msource, .inl (cB, 4000, .inl msource)), (MsourceFrom, .inl (cI, 4000, .inl msourceFrom)), (MdKind, .inl (cI, 4000, .inl mdKind)), (MdSize, .inl (cI, 4000, .inl mdSize)), (MdAddress, .inl (cI, 4000, .inl mdAddress)), (MdMode, .inl (cI, 4000, .inl mdMode)), (MdCode, .inl (cI, 4000, .inl mdCode)), (MdWindow, .inl (cI, 4000, .inl mdWindow)), (Mtab, .inl (cB, 1536, .inl mtab))] H := hP
                  have hD : va_D A0 [(mm, .inr (9, fl 78 (va_up g5_ld 32 (.int (nI ((n + i) + 1)))))), (Mrows, .inl (cB, 32000, .inl mrows)), (Mnears, .inl (cJ, 8, .inr (.inl mnears))), (Msames, .inl (cJ, 1024, .inr (.inl msames))), (Mout, .inl (cB, 4000, .inl (upd o7 (n + i) (s8 (b (da + i)))))), (MoutFrom, .inl (cI, 4000, .inl (upd of7 (n + i) (-1)))), (Msource, .inl (cB, 4000, .inl msource)), (MsourceFrom, .inl (cI, 4000, .inl msourceFrom)), (MdKind, .inl (cI, 4000, .inl mdKind)), (MdSize, .inl (cI, 4000, .inl mdSize)), (MdAddress, .inl (cI, 4000, .inl mdAddress)), (MdMode, .inl (cI, 4000, .inl mdMode)), (MdCode, .inl (cI, 4000, .inl mdCode)), (MdWindow, .inl (cI, 4000, .inl mdWindow)), (Mtab, .inl (cB, 1536, .inl mtab))] := hD
                  refine lv_iinc (v := nI (i + 1)) (lv' := [(10, .int (nI (i + 1))), (0, .ref mm), (1, .int (nI c)), (2, .int (nI q)), (3, .int (nI wh)), (4, .long (lN z)), (6, .int (nI (tt (q * 256 + c)))), (7, .long (lN 0)), (9, .int (nI 0))]) hx hb dX9_part_273 hl (k := 8) rfl (nI_add i 1) (by decide) rfl (fun ls hl => ?_)
                  refine lv_goto (tgt := 208) hx hb dX9_part_276 (by decide) ?_
                  have hps := outR_push (o := -1) hor v2
                  rw [hmn] at hps
                  have hsx : (addM b (i + 1) da (B, G, n)) = pushM (addM b i da (B, G, n)) (b (da + i)) (-1) := addM_s _ _ _
                  exact ih (va_up g5_ld 32 (.int (nI ((n + i) + 1)))) (i + 1) (upd o7 (n + i) (s8 (b (da + i)))) (upd of7 (n + i) (-1)) _ _ ls (by omega) ((frm_up hf_ld (by decide))) (k_codeAt_ld) (k_partAt_ld) (rfl) (k_dataAt_ld) (k_addressAt_ld) (k_nextNear_ld) (k_drafts_ld) (k_fault_ld) (k_place_ld) (by omega) (by rw [hsx]; exact hps) hP hD hS (lv_sub hl [1, 2, 3, 4, 5, 6, 7, 8, 0] rfl)
            exact ld _ gj_JS 0 mout moutFrom _ _ ls (Nat.lt_succ_self _) (hf_JS) (k_codeAt_JS) (k_partAt_JS) (k_outSize_JS) (k_dataAt_JS) (k_addressAt_JS) (k_nextNear_JS) (k_drafts_JS) (k_fault_JS) (k_place_JS) (Nat.zero_le _) (ho) (hP.sub [13, 0, 1, 2, 3, 4, 5, 6, 7, 8, 9, 10, 11, 12, 14] rfl) (hD.sub [13, 0, 1, 2, 3, 4, 5, 6, 7, 8, 9, 10, 11, 12, 14] (by decide) rfl) hS (lv_sub hl [4, 5, 6, 7, 8, 3, 2, 1, 0] rfl)
          · have hlk : de - da < z := Nat.not_le.mp (fun w => c_23 ((lg_cmp_ge _ _).mpr ((pk_lLE (by omega) (by omega)).mpr w)))
            rw [if_pos hlk] at hpt0
            refine lv_aload_n hx hb dX9_part_197 rfl (lv_at hl 3 rfl) ?_
            refine lv_bipush (v := 12) hx hb dX9_part_198 (by decide) ?_
            refine ri (y := nI 12) (rfl) ?_
            refine lv_iload_n hx hb dX9_part_200 rfl (lv_at hl 6 rfl) ?_
            refine jn_v (wr := [(Mrows, .inl (cB, 32000, .inl mrows)), (Mnears, .inl (cJ, 8, .inr (.inl mnears))), (Msames, .inl (cJ, 1024, .inr (.inl msames))), (Mout, .inl (cB, 4000, .inl mout)), (MoutFrom, .inl (cI, 4000, .inl moutFrom)), (Msource, .inl (cB, 4000, .inl msource)), (MsourceFrom, .inl (cI, 4000, .inl msourceFrom)), (MdKind, .inl (cI, 4000, .inl mdKind)), (MdSize, .inl (cI, 4000, .inl mdSize)), (MdAddress, .inl (cI, 4000, .inl mdAddress)), (MdMode, .inl (cI, 4000, .inl mdMode)), (MdCode, .inl (cI, 4000, .inl mdCode)), (MdWindow, .inl (cI, 4000, .inl mdWindow)), (Mtab, .inl (cB, 1536, .inl mtab))]) hA hP hD hS [13] [0, 1, 2, 3, 4, 5, 6, 7, 8, 9, 10, 11, 12, 14] rfl rfl (by decide) (by decide) (rn_V (As := [.int (nI 12), .int (nI wh)]) (rest := []) ⟨hx, hb, hml, hown, hts⟩ (cvV 2 hts zc_yX9_fail zi_X9 zm_yX9_fail zv_yX9_fail kX9_191 (by decide +kernel) rfl rfl ⟨Nat.le_of_ble_eq_true rfl, Nat.le_of_ble_eq_true rfl⟩) (m_fail l D cI cB cJ cR mm gj_JS fu pl 12 wh (k_fault_JS) (k_place_JS) (hfl) H.size) hK hNw hMk hA hP hD hS [13] rfl rfl (by decide) 0 rfl rfl rfl rfl hl.1 rfl (Nat.le_of_ble_eq_true rfl) dX9_part_201 ⟨Nat.le_of_ble_eq_true rfl, Nat.le_of_ble_eq_true rfl⟩) (fun u9 H locs w_27 hP hD hS => ?_)
            obtain ⟨g_28, fu2_29, pl2_30⟩ := u9
            try dsimp only at w_27
            have hP : va_P D vwCl [(Mrows, .inl (cB, 32000, .inl mrows)), (Mnears, .inl (cJ, 8, .inr (.inl mnears))), (Msames, .inl (cJ, 1024, .inr (.inl msames))), (Mout, .inl (cB, 4000, .inl mout)), (MoutFrom, .inl (cI, 4000, .inl moutFrom)), (Msource, .inl (cB, 4000, .inl msource)), (MsourceFrom, .inl (cI, 4000, .inl msourceFrom)), (MdKind, .inl (cI, 4000, .inl mdKind)), (MdSize, .inl (cI, 4000, .inl mdSize)), (MdAddress, .inl (cI, 4000, .inl mdAddress)), (MdMode, .inl (cI, 4000, .inl mdMode)), (MdCode, .inl (cI, 4000, .inl mdCode)), (MdWindow, .inl (cI, 4000, .inl mdWindow)), (Mtab, .inl (cB, 1536, .inl mtab)), (mm, .inr (9, fl 78 g_28))] H := hP
            have hD : va_D A0 [(Mrows, .inl (cB, 32000, .inl mrows)), (Mnears, .inl (cJ, 8, .inr (.inl mnears))), (Msames, .inl (cJ, 1024, .inr (.inl msames))), (Mout, .inl (cB, 4000, .inl mout)), (MoutFrom, .inl (cI, 4000, .inl moutFrom)), (Msource, .inl (cB, 4000, .inl msource)), (MsourceFrom, .inl (cI, 4000, .inl msourceFrom)), (MdKind, .inl (cI, 4000, .inl mdKind)), (MdSize, .inl (cI, 4000, .inl mdSize)), (MdAddress, .inl (cI, 4000, .inl mdAddress)), (MdMode, .inl (cI, 4000, .inl mdMode)), (MdCode, .inl (cI, 4000, .inl mdCode)), (MdWindow, .inl (cI, 4000, .inl mdWindow)), (Mtab, .inl (cB, 1536, .inl mtab)), (mm, .inr (9, fl 78 g_28))] := hD
            obtain ⟨f_w_27, fault_w_27, place_w_27, w_27_⟩ := w_27
            have k48_g_28 : g_28 48 = .int (nI ce) := (f_w_27 48 (by decide)).trans ((hf_JS 48 (by decide)).trans g_codeEnd)
            have k33_g_28 : g_28 33 = .int (nI bs) := (f_w_27 33 (by decide)).trans ((hf_JS 33 (by decide)).trans g_base)
            have k43_g_28 : g_28 43 = .int (nI ww) := (f_w_27 43 (by decide)).trans ((hf_JS 43 (by decide)).trans g_begun)
            have k44_g_28 : g_28 44 = .int (nI wl) := (f_w_27 44 (by decide)).trans ((hf_JS 44 (by decide)).trans g_will)
            have k46_g_28 : g_28 46 = .int (nI de) := (f_w_27 46 (by decide)).trans ((hf_JS 46 (by decide)).trans g_dataEnd)
            have k50_g_28 : g_28 50 = .int (nI ae) := (f_w_27 50 (by decide)).trans ((hf_JS 50 (by decide)).trans g_addressEnd)
            have k8_g_28 : g_28 8 = .int (nI near) := (f_w_27 8 (by decide)).trans ((hf_JS 8 (by decide)).trans g_near)
            have k9_g_28 : g_28 9 = .int (nI same) := (f_w_27 9 (by decide)).trans ((hf_JS 9 (by decide)).trans g_same)
            have k40_g_28 : g_28 40 = .int (nI kk) := (f_w_27 40 (by decide)).trans ((hf_JS 40 (by decide)).trans g_segment)
            have k41_g_28 : g_28 41 = .int (nI zz) := (f_w_27 41 (by decide)).trans ((hf_JS 41 (by decide)).trans g_segmentSize)
            have k42_g_28 : g_28 42 = .int (nI ff) := (f_w_27 42 (by decide)).trans ((hf_JS 42 (by decide)).trans g_segmentAt)
            have k39_g_28 : g_28 39 = .int (bI ct) := (f_w_27 39 (by decide)).trans ((hf_JS 39 (by decide)).trans g_counts)
            have k38_g_28 : g_28 38 = .int (nI wr) := (f_w_27 38 (by decide)).trans ((hf_JS 38 (by decide)).trans g_windows)
            have k1_g_28 : g_28 1 = .ref Mrows := (f_w_27 1 (by decide)).trans ((hf_JS 1 (by decide)).trans g_rows)
            have k7_g_28 : g_28 7 = .ref Mtab := (f_w_27 7 (by decide)).trans ((hf_JS 7 (by decide)).trans g_tab)
            have k10_g_28 : g_28 10 = .ref Mnears := (f_w_27 10 (by decide)).trans ((hf_JS 10 (by decide)).trans g_nears)
            have k12_g_28 : g_28 12 = .ref Msames := (f_w_27 12 (by decide)).trans ((hf_JS 12 (by decide)).trans g_sames)
            have k30_g_28 : g_28 30 = .ref Mout := (f_w_27 30 (by decide)).trans ((hf_JS 30 (by decide)).trans g_out)
            have k31_g_28 : g_28 31 = .ref MoutFrom := (f_w_27 31 (by decide)).trans ((hf_JS 31 (by decide)).trans g_outFrom)
            have k27_g_28 : g_28 27 = .ref Msource := (f_w_27 27 (by decide)).trans ((hf_JS 27 (by decide)).trans g_source)
            have k28_g_28 : g_28 28 = .ref MsourceFrom := (f_w_27 28 (by decide)).trans ((hf_JS 28 (by decide)).trans g_sourceFrom)
            have k21_g_28 : g_28 21 = .ref MdKind := (f_w_27 21 (by decide)).trans ((hf_JS 21 (by decide)).trans g_dKind)
            have k22_g_28 : g_28 22 = .ref MdSize := (f_w_27 22 (by decide)).trans ((hf_JS 22 (by decide)).trans g_dSize)
            have k23_g_28 : g_28 23 = .ref MdAddress := (f_w_27 23 (by decide)).trans ((hf_JS 23 (by decide)).trans g_dAddress)
            have k24_g_28 : g_28 24 = .ref MdMode := (f_w_27 24 (by decide)).trans ((hf_JS 24 (by decide)).trans g_dMode)
            have k25_g_28 : g_28 25 = .ref MdCode := (f_w_27 25 (by decide)).trans ((hf_JS 25 (by decide)).trans g_dCode)
            have k26_g_28 : g_28 26 = .ref MdWindow := (f_w_27 26 (by decide)).trans ((hf_JS 26 (by decide)).trans g_dWindow)
            have k47_g_28 : g_28 47 = .int (nI c2) := (f_w_27 47 (by decide)).trans (k_codeAt_JS)
            have k51_g_28 : g_28 51 = .int pb := (f_w_27 51 (by decide)).trans (k_partAt_JS)
            have k32_g_28 : g_28 32 = .int (nI n) := (f_w_27 32 (by decide)).trans (k_outSize_JS)
            have k45_g_28 : g_28 45 = .int (nI da) := (f_w_27 45 (by decide)).trans (k_dataAt_JS)
            have k49_g_28 : g_28 49 = .int (nI aa) := (f_w_27 49 (by decide)).trans (k_addressAt_JS)
            have k11_g_28 : g_28 11 = .int (nI nx) := (f_w_27 11 (by decide)).trans (k_nextNear_JS)
            have k20_g_28 : g_28 20 = .int (nI dr) := (f_w_27 20 (by decide)).trans (k_drafts_JS)
            have fr_g_28 : frm [47, 51, 32, 45, 49, 11, 20, 36, 37] g g_28 := frm_tr hf_JS f_w_27 (by decide)
            rw [if_pos h0] at w_27_
            obtain ⟨x1, x2⟩ := Prod.mk.inj w_27_
            have hP := hP.sub (ws' := [(mm, .inr (9, fl 78 g_28)), (Mrows, .inl (cB, 32000, .inl mrows)), (Mtab, .inl (cB, 1536, .inl mtab)), (Mnears, .inl (cJ, 8, .inr (.inl mnears))), (Msames, .inl (cJ, 1024, .inr (.inl msames))), (Mout, .inl (cB, 4000, .inl mout)), (MoutFrom, .inl (cI, 4000, .inl moutFrom)), (Msource, .inl (cB, 4000, .inl msource)), (MsourceFrom, .inl (cI, 4000, .inl msourceFrom)), (MdKind, .inl (cI, 4000, .inl mdKind)), (MdSize, .inl (cI, 4000, .inl mdSize)), (MdAddress, .inl (cI, 4000, .inl mdAddress)), (MdMode, .inl (cI, 4000, .inl mdMode)), (MdCode, .inl (cI, 4000, .inl mdCode)), (MdWindow, .inl (cI, 4000, .inl mdWindow))]) [14, 0, 13, 1, 2, 3, 4, 5, 6, 7, 8, 9, 10, 11, 12] rfl
            have hD := hD.sub (ws' := [(mm, .inr (9, fl 78 g_28)), (Mrows, .inl (cB, 32000, .inl mrows)), (Mtab, .inl (cB, 1536, .inl mtab)), (Mnears, .inl (cJ, 8, .inr (.inl mnears))), (Msames, .inl (cJ, 1024, .inr (.inl msames))), (Mout, .inl (cB, 4000, .inl mout)), (MoutFrom, .inl (cI, 4000, .inl moutFrom)), (Msource, .inl (cB, 4000, .inl msource)), (MsourceFrom, .inl (cI, 4000, .inl msourceFrom)), (MdKind, .inl (cI, 4000, .inl mdKind)), (MdSize, .inl (cI, 4000, .inl mdSize)), (MdAddress, .inl (cI, 4000, .inl mdAddress)), (MdMode, .inl (cI, 4000, .inl mdMode)), (MdCode, .inl (cI, 4000, .inl mdCode)), (MdWindow, .inl (cI, 4000, .inl mdWindow))]) [14, 0, 13, 1, 2, 3, 4, 5, 6, 7, 8, 9, 10, 11, 12] (by decide) rfl
            exact hret 204 ls _ _ (g_28, c2, pb, n, da, (nI aa), aa, nx, dr, fu2_29, pl2_30, cnt, cN, cS, B, G, gg, mnears, msames, mout, moutFrom, mdKind, mdSize, mdAddress, mdMode, mdCode, mdWindow) dX9_part_204 hP hD hS (⟨fr_g_28, k47_g_28, k51_g_28, k32_g_28, k45_g_28, k49_g_28, k11_g_28, k20_g_28, fault_w_27, place_w_27, ⟨fun _ => ⟨by rw [x1]; exact hpt0, x2, rfl, rfl, fun z => (hct z).2.2⟩, fun z => absurd (x1.symm.trans z) (by decide), by rw [x1]; decide, fun _ => rfl⟩⟩)
      · have hk3x : tt (q * 256 + c) = 3 := (nI_eq (b := 3) (by omega) (by decide)).mp c_12
        rw [if_pos hk3x, ptC] at hpt0
        have hmd := hrt1.2 hk3x
        refine lv_aload_n hx hb dX9_part_103 rfl (lv_at hl 3 rfl) ?_
        refine lv_iload_n hx hb dX9_part_104 rfl (lv_at hl 4 rfl) ?_
        refine lv_iload_n hx hb dX9_part_105 rfl (lv_at hl 5 rfl) ?_
        refine jn_i (wr := [(Mrows, .inl (cB, 32000, .inl mrows)), (Mnears, .inl (cJ, 8, .inr (.inl mnears))), (Msames, .inl (cJ, 1024, .inr (.inl msames))), (Mout, .inl (cB, 4000, .inl mout)), (MoutFrom, .inl (cI, 4000, .inl moutFrom)), (Msource, .inl (cB, 4000, .inl msource)), (MsourceFrom, .inl (cI, 4000, .inl msourceFrom)), (MdKind, .inl (cI, 4000, .inl mdKind)), (MdSize, .inl (cI, 4000, .inl mdSize)), (MdAddress, .inl (cI, 4000, .inl mdAddress)), (MdMode, .inl (cI, 4000, .inl mdMode)), (MdCode, .inl (cI, 4000, .inl mdCode)), (MdWindow, .inl (cI, 4000, .inl mdWindow))]) hA hP hD hS [13, 14] [0, 1, 2, 3, 4, 5, 6, 7, 8, 9, 10, 11, 12] rfl rfl (by decide) (by decide) (rn_V (As := [.int (nI c), .int (nI q)]) (rest := []) ⟨hx, hb, hml, hown, hts⟩ (cvV 2 hts zc_yX9_modeOf zi_X9 zm_yX9_modeOf zv_yX9_modeOf kX9_305 (by decide +kernel) rfl rfl ⟨Nat.le_of_ble_eq_true rfl, Nat.le_of_ble_eq_true rfl⟩) (m_modeOf l D cI cB cJ cR mm gj_JS Mtab mtab tt c q ((hf_JS 7 (by decide)).trans g_tab) (ht) (hcc) (hqq) H.size) hK hNw hMk hA hP hD hS [13, 14] rfl rfl (by decide) 0 rfl rfl rfl rfl hl.1 rfl (Nat.le_of_ble_eq_true rfl) dX9_part_106 ⟨Nat.le_of_ble_eq_true rfl, Nat.le_of_ble_eq_true rfl⟩) (fun r_34 u9 H locs w_32 hP hD hS => ?_)
        try dsimp only at w_32
        have hP : va_P D vwCl [(Mrows, .inl (cB, 32000, .inl mrows)), (Mnears, .inl (cJ, 8, .inr (.inl mnears))), (Msames, .inl (cJ, 1024, .inr (.inl msames))), (Mout, .inl (cB, 4000, .inl mout)), (MoutFrom, .inl (cI, 4000, .inl moutFrom)), (Msource, .inl (cB, 4000, .inl msource)), (MsourceFrom, .inl (cI, 4000, .inl msourceFrom)), (MdKind, .inl (cI, 4000, .inl mdKind)), (MdSize, .inl (cI, 4000, .inl mdSize)), (MdAddress, .inl (cI, 4000, .inl mdAddress)), (MdMode, .inl (cI, 4000, .inl mdMode)), (MdCode, .inl (cI, 4000, .inl mdCode)), (MdWindow, .inl (cI, 4000, .inl mdWindow)), (mm, .inr (9, fl 78 gj_JS)), (Mtab, .inl (cB, 1536, .inl mtab))] H := hP
        have hD : va_D A0 [(Mrows, .inl (cB, 32000, .inl mrows)), (Mnears, .inl (cJ, 8, .inr (.inl mnears))), (Msames, .inl (cJ, 1024, .inr (.inl msames))), (Mout, .inl (cB, 4000, .inl mout)), (MoutFrom, .inl (cI, 4000, .inl moutFrom)), (Msource, .inl (cB, 4000, .inl msource)), (MsourceFrom, .inl (cI, 4000, .inl msourceFrom)), (MdKind, .inl (cI, 4000, .inl mdKind)), (MdSize, .inl (cI, 4000, .inl mdSize)), (MdAddress, .inl (cI, 4000, .inl mdAddress)), (MdMode, .inl (cI, 4000, .inl mdMode)), (MdCode, .inl (cI, 4000, .inl mdCode)), (MdWindow, .inl (cI, 4000, .inl mdWindow)), (mm, .inr (9, fl 78 gj_JS)), (Mtab, .inl (cB, 1536, .inl mtab))] := hD
        subst w_32
        refine lv_istore (lv' := [(9, .int (nI (tt (1024 + q * 256 + c)))), (7, .long (lN 0)), (6, .int (nI (tt (q * 256 + c)))), (0, .ref mm), (1, .int (nI c)), (2, .int (nI q)), (3, .int (nI wh)), (4, .long (lN z))]) hx hb dX9_part_109 hl (by decide) rfl (fun ls hl => ?_)
        refine lv_aload_n hx hb dX9_part_111 rfl (lv_at hl 3 rfl) ?_
        refine lv_iload hx hb dX9_part_112 (lv_at hl 0 rfl) ?_
        refine jn_l (wr := [(Mout, .inl (cB, 4000, .inl mout)), (MoutFrom, .inl (cI, 4000, .inl moutFrom)), (Msource, .inl (cB, 4000, .inl msource)), (MsourceFrom, .inl (cI, 4000, .inl msourceFrom)), (MdKind, .inl (cI, 4000, .inl mdKind)), (MdSize, .inl (cI, 4000, .inl mdSize)), (MdAddress, .inl (cI, 4000, .inl mdAddress)), (MdMode, .inl (cI, 4000, .inl mdMode)), (MdCode, .inl (cI, 4000, .inl mdCode)), (MdWindow, .inl (cI, 4000, .inl mdWindow)), (Mtab, .inl (cB, 1536, .inl mtab))]) hA hP hD hS [13, 0, 1, 2] [3, 4, 5, 6, 7, 8, 9, 10, 11, 12, 14] rfl rfl (by decide) (by decide) (rn_V (As := [.int (nI (tt (1024 + q * 256 + c)))]) (rest := []) ⟨hx, hb, hml, hown, hts⟩ (cvV 1 hts zc_yX9_address zi_X9 zm_yX9_address zv_yX9_address kX9_308 (by decide +kernel) rfl rfl ⟨Nat.le_of_ble_eq_true rfl, Nat.le_of_ble_eq_true rfl⟩) (m_address l D cI cB cJ cR mm gj_JS Mrows Mnears Msames mrows mnears msames zz n ww near same aa ae bs (tt (1024 + q * 256 + c)) pb b cN cS ((hf_JS 41 (by decide)).trans g_segmentSize) (k_outSize_JS) ((hf_JS 43 (by decide)).trans g_begun) ((hf_JS 8 (by decide)).trans g_near) (k_addressAt_JS) ((hf_JS 50 (by decide)).trans g_addressEnd) (k_partAt_JS) ((hf_JS 33 (by decide)).trans g_base) ((hf_JS 1 (by decide)).trans g_rows) ((hf_JS 10 (by decide)).trans g_nears) ((hf_JS 12 (by decide)).trans g_sames) (by omega) (haa) (fun j hj => hob j (by omega)) (h8) (h4) (by omega) (hc) (hcN) (hcS) (hww) (by omega) (hzz.1) H.size) hK hNw hMk hA hP hD hS [13, 0, 1, 2] rfl rfl (by decide) 0 rfl rfl rfl rfl hl.1 rfl (Nat.le_of_ble_eq_true rfl) dX9_part_114 ⟨Nat.le_of_ble_eq_true rfl, Nat.le_of_ble_eq_true rfl⟩) (fun ra u9 H locs w_35 hP hD hS => ?_)
        obtain ⟨g_36, av, pv⟩ := u9
        try dsimp only at w_35
        have hP : va_P D vwCl [(Mout, .inl (cB, 4000, .inl mout)), (MoutFrom, .inl (cI, 4000, .inl moutFrom)), (Msource, .inl (cB, 4000, .inl msource)), (MsourceFrom, .inl (cI, 4000, .inl msourceFrom)), (MdKind, .inl (cI, 4000, .inl mdKind)), (MdSize, .inl (cI, 4000, .inl mdSize)), (MdAddress, .inl (cI, 4000, .inl mdAddress)), (MdMode, .inl (cI, 4000, .inl mdMode)), (MdCode, .inl (cI, 4000, .inl mdCode)), (MdWindow, .inl (cI, 4000, .inl mdWindow)), (Mtab, .inl (cB, 1536, .inl mtab)), (mm, .inr (9, fl 78 g_36)), (Mrows, .inl (cB, 32000, .inl mrows)), (Mnears, .inl (cJ, 8, .inr (.inl mnears))), (Msames, .inl (cJ, 1024, .inr (.inl msames)))] H := hP
        have hD : va_D A0 [(Mout, .inl (cB, 4000, .inl mout)), (MoutFrom, .inl (cI, 4000, .inl moutFrom)), (Msource, .inl (cB, 4000, .inl msource)), (MsourceFrom, .inl (cI, 4000, .inl msourceFrom)), (MdKind, .inl (cI, 4000, .inl mdKind)), (MdSize, .inl (cI, 4000, .inl mdSize)), (MdAddress, .inl (cI, 4000, .inl mdAddress)), (MdMode, .inl (cI, 4000, .inl mdMode)), (MdCode, .inl (cI, 4000, .inl mdCode)), (MdWindow, .inl (cI, 4000, .inl mdWindow)), (Mtab, .inl (cB, 1536, .inl mtab)), (mm, .inr (9, fl 78 g_36)), (Mrows, .inl (cB, 32000, .inl mrows)), (Mnears, .inl (cJ, 8, .inr (.inl mnears))), (Msames, .inl (cJ, 1024, .inr (.inl msames)))] := hD
        obtain ⟨f_w_35, addressAt_w_35, partAt_w_35, w_35_⟩ := w_35
        have k48_g_36 : g_36 48 = .int (nI ce) := (f_w_35 48 (by decide)).trans ((hf_JS 48 (by decide)).trans g_codeEnd)
        have k33_g_36 : g_36 33 = .int (nI bs) := (f_w_35 33 (by decide)).trans ((hf_JS 33 (by decide)).trans g_base)
        have k43_g_36 : g_36 43 = .int (nI ww) := (f_w_35 43 (by decide)).trans ((hf_JS 43 (by decide)).trans g_begun)
        have k44_g_36 : g_36 44 = .int (nI wl) := (f_w_35 44 (by decide)).trans ((hf_JS 44 (by decide)).trans g_will)
        have k46_g_36 : g_36 46 = .int (nI de) := (f_w_35 46 (by decide)).trans ((hf_JS 46 (by decide)).trans g_dataEnd)
        have k50_g_36 : g_36 50 = .int (nI ae) := (f_w_35 50 (by decide)).trans ((hf_JS 50 (by decide)).trans g_addressEnd)
        have k8_g_36 : g_36 8 = .int (nI near) := (f_w_35 8 (by decide)).trans ((hf_JS 8 (by decide)).trans g_near)
        have k9_g_36 : g_36 9 = .int (nI same) := (f_w_35 9 (by decide)).trans ((hf_JS 9 (by decide)).trans g_same)
        have k40_g_36 : g_36 40 = .int (nI kk) := (f_w_35 40 (by decide)).trans ((hf_JS 40 (by decide)).trans g_segment)
        have k41_g_36 : g_36 41 = .int (nI zz) := (f_w_35 41 (by decide)).trans ((hf_JS 41 (by decide)).trans g_segmentSize)
        have k42_g_36 : g_36 42 = .int (nI ff) := (f_w_35 42 (by decide)).trans ((hf_JS 42 (by decide)).trans g_segmentAt)
        have k39_g_36 : g_36 39 = .int (bI ct) := (f_w_35 39 (by decide)).trans ((hf_JS 39 (by decide)).trans g_counts)
        have k38_g_36 : g_36 38 = .int (nI wr) := (f_w_35 38 (by decide)).trans ((hf_JS 38 (by decide)).trans g_windows)
        have k1_g_36 : g_36 1 = .ref Mrows := (f_w_35 1 (by decide)).trans ((hf_JS 1 (by decide)).trans g_rows)
        have k7_g_36 : g_36 7 = .ref Mtab := (f_w_35 7 (by decide)).trans ((hf_JS 7 (by decide)).trans g_tab)
        have k10_g_36 : g_36 10 = .ref Mnears := (f_w_35 10 (by decide)).trans ((hf_JS 10 (by decide)).trans g_nears)
        have k12_g_36 : g_36 12 = .ref Msames := (f_w_35 12 (by decide)).trans ((hf_JS 12 (by decide)).trans g_sames)
        have k30_g_36 : g_36 30 = .ref Mout := (f_w_35 30 (by decide)).trans ((hf_JS 30 (by decide)).trans g_out)
        have k31_g_36 : g_36 31 = .ref MoutFrom := (f_w_35 31 (by decide)).trans ((hf_JS 31 (by decide)).trans g_outFrom)
        have k27_g_36 : g_36 27 = .ref Msource := (f_w_35 27 (by decide)).trans ((hf_JS 27 (by decide)).trans g_source)
        have k28_g_36 : g_36 28 = .ref MsourceFrom := (f_w_35 28 (by decide)).trans ((hf_JS 28 (by decide)).trans g_sourceFrom)
        have k21_g_36 : g_36 21 = .ref MdKind := (f_w_35 21 (by decide)).trans ((hf_JS 21 (by decide)).trans g_dKind)
        have k22_g_36 : g_36 22 = .ref MdSize := (f_w_35 22 (by decide)).trans ((hf_JS 22 (by decide)).trans g_dSize)
        have k23_g_36 : g_36 23 = .ref MdAddress := (f_w_35 23 (by decide)).trans ((hf_JS 23 (by decide)).trans g_dAddress)
        have k24_g_36 : g_36 24 = .ref MdMode := (f_w_35 24 (by decide)).trans ((hf_JS 24 (by decide)).trans g_dMode)
        have k25_g_36 : g_36 25 = .ref MdCode := (f_w_35 25 (by decide)).trans ((hf_JS 25 (by decide)).trans g_dCode)
        have k26_g_36 : g_36 26 = .ref MdWindow := (f_w_35 26 (by decide)).trans ((hf_JS 26 (by decide)).trans g_dWindow)
        have k47_g_36 : g_36 47 = .int (nI c2) := (f_w_35 47 (by decide)).trans (k_codeAt_JS)
        have k32_g_36 : g_36 32 = .int (nI n) := (f_w_35 32 (by decide)).trans (k_outSize_JS)
        have k45_g_36 : g_36 45 = .int (nI da) := (f_w_35 45 (by decide)).trans (k_dataAt_JS)
        have k11_g_36 : g_36 11 = .int (nI nx) := (f_w_35 11 (by decide)).trans (k_nextNear_JS)
        have k20_g_36 : g_36 20 = .int (nI dr) := (f_w_35 20 (by decide)).trans (k_drafts_JS)
        have k36_g_36 : g_36 36 = .int (nI fu) := (f_w_35 36 (by decide)).trans (k_fault_JS)
        have k37_g_36 : g_36 37 = .int (nI pl) := (f_w_35 37 (by decide)).trans (k_place_JS)
        have fr_g_36 : frm [47, 51, 32, 45, 49, 11, 20, 36, 37] g g_36 := frm_tr hf_JS f_w_35 (by decide)
        obtain ⟨w1, w2⟩ := w_35_
        by_cases hok : adOk b ae near (tt (1024 + q * 256 + c)) aa (zz + n - ww) cN cS
        · have hpt0 := hpt0.trans (if_pos hok)
          obtain ⟨y1, y2⟩ := w1 hok
          obtain ⟨x, hx9⟩ : ∃ x, x = (adX b ae near (tt (1024 + q * 256 + c)) aa (zz + n - ww) cN cS) := ⟨_, rfl⟩
          have hxh : x < (zz + n - ww) := by rw [hx9, adX]; have := hok.2.1; have := hok.2.2; omega
          dsimp only at hpt0
          rw [← hx9] at y1 hpt0
          subst y1
          subst y2
          refine lv_lstore (lv' := [(7, .long (lN x)), (9, .int (nI (tt (1024 + q * 256 + c)))), (6, .int (nI (tt (q * 256 + c)))), (0, .ref mm), (1, .int (nI c)), (2, .int (nI q)), (3, .int (nI wh)), (4, .long (lN z))]) hx hb dX9_part_117 hl (by decide) rfl (fun ls hl => ?_)
          refine lv_lload hx hb dX9_part_119 (lv_at hl 0 rfl) ?_
          refine lv_lconst (v := 0) hx hb dX9_part_121 (by decide) ?_
          refine W.lcmp hx hb dX9_part_122 ?_
          refine lv_if_ge (tgt := 134) hx hb dX9_part_123 (by decide) (fun c_37 => ?_) (fun c_37 => absurd ((lg_cmp_ge _ _).mpr ((pk_lLE (a := 0) (by decide) (by omega)).mpr (Nat.zero_le _))) c_37)
          refine lv_aload_n hx hb dX9_part_134 rfl (lv_at hl 3 rfl) ?_
          refine lv_lload hx hb dX9_part_135 (lv_at hl 0 rfl) ?_
          refine jn_v (wr := [(Mout, .inl (cB, 4000, .inl mout)), (MoutFrom, .inl (cI, 4000, .inl moutFrom)), (Msource, .inl (cB, 4000, .inl msource)), (MsourceFrom, .inl (cI, 4000, .inl msourceFrom)), (MdKind, .inl (cI, 4000, .inl mdKind)), (MdSize, .inl (cI, 4000, .inl mdSize)), (MdAddress, .inl (cI, 4000, .inl mdAddress)), (MdMode, .inl (cI, 4000, .inl mdMode)), (MdCode, .inl (cI, 4000, .inl mdCode)), (MdWindow, .inl (cI, 4000, .inl mdWindow)), (Mtab, .inl (cB, 1536, .inl mtab)), (Mrows, .inl (cB, 32000, .inl mrows))]) hA hP hD hS [11, 13, 14] [0, 1, 2, 3, 4, 5, 6, 7, 8, 9, 10, 12] rfl rfl (by decide) (by decide) (rn_V (As := [.long (lN x)]) (rest := []) ⟨hx, hb, hml, hown, hts⟩ (cvV 1 hts zc_yX9_remember zi_X9 zm_yX9_remember zv_yX9_remember kX9_312 (by decide +kernel) rfl rfl ⟨Nat.le_of_ble_eq_true rfl, Nat.le_of_ble_eq_true rfl⟩) (m_remember l D cI cB cJ cR mm g_36 Mnears Msames mnears msames near same nx x cN cS (k8_g_36) (k9_g_36) (k11_g_36) (k10_g_36) (k12_g_36) (h8) (h4) (hnx) (by omega) (hc) H.size) hK hNw hMk hA hP hD hS [11, 13, 14] rfl rfl (by decide) 0 rfl rfl rfl rfl hl.1 rfl (Nat.le_of_ble_eq_true rfl) dX9_part_137 ⟨Nat.le_of_ble_eq_true rfl, Nat.le_of_ble_eq_true rfl⟩) (fun u9 H locs hrm hP hD hS => ?_)
          obtain ⟨g_38, fn3, fs3⟩ := u9
          try dsimp only at hrm
          have hP : va_P D vwCl [(Mout, .inl (cB, 4000, .inl mout)), (MoutFrom, .inl (cI, 4000, .inl moutFrom)), (Msource, .inl (cB, 4000, .inl msource)), (MsourceFrom, .inl (cI, 4000, .inl msourceFrom)), (MdKind, .inl (cI, 4000, .inl mdKind)), (MdSize, .inl (cI, 4000, .inl mdSize)), (MdAddress, .inl (cI, 4000, .inl mdAddress)), (MdMode, .inl (cI, 4000, .inl mdMode)), (MdCode, .inl (cI, 4000, .inl mdCode)), (MdWindow, .inl (cI, 4000, .inl mdWindow)), (Mtab, .inl (cB, 1536, .inl mtab)), (Mrows, .inl (cB, 32000, .inl mrows)), (mm, .inr (9, fl 78 g_38)), (Mnears, .inl (cJ, 8, .inr (.inl fn3))), (Msames, .inl (cJ, 1024, .inr (.inl fs3)))] H := hP
          have hD : va_D A0 [(Mout, .inl (cB, 4000, .inl mout)), (MoutFrom, .inl (cI, 4000, .inl moutFrom)), (Msource, .inl (cB, 4000, .inl msource)), (MsourceFrom, .inl (cI, 4000, .inl msourceFrom)), (MdKind, .inl (cI, 4000, .inl mdKind)), (MdSize, .inl (cI, 4000, .inl mdSize)), (MdAddress, .inl (cI, 4000, .inl mdAddress)), (MdMode, .inl (cI, 4000, .inl mdMode)), (MdCode, .inl (cI, 4000, .inl mdCode)), (MdWindow, .inl (cI, 4000, .inl mdWindow)), (Mtab, .inl (cB, 1536, .inl mtab)), (Mrows, .inl (cB, 32000, .inl mrows)), (mm, .inr (9, fl 78 g_38)), (Mnears, .inl (cJ, 8, .inr (.inl fn3))), (Msames, .inl (cJ, 1024, .inr (.inl fs3)))] := hD
          obtain ⟨f_hrm, nextNear_hrm, hrm_⟩ := hrm
          have k48_g_38 : g_38 48 = .int (nI ce) := (f_hrm 48 (by decide)).trans (k48_g_36)
          have k33_g_38 : g_38 33 = .int (nI bs) := (f_hrm 33 (by decide)).trans (k33_g_36)
          have k43_g_38 : g_38 43 = .int (nI ww) := (f_hrm 43 (by decide)).trans (k43_g_36)
          have k44_g_38 : g_38 44 = .int (nI wl) := (f_hrm 44 (by decide)).trans (k44_g_36)
          have k46_g_38 : g_38 46 = .int (nI de) := (f_hrm 46 (by decide)).trans (k46_g_36)
          have k50_g_38 : g_38 50 = .int (nI ae) := (f_hrm 50 (by decide)).trans (k50_g_36)
          have k8_g_38 : g_38 8 = .int (nI near) := (f_hrm 8 (by decide)).trans (k8_g_36)
          have k9_g_38 : g_38 9 = .int (nI same) := (f_hrm 9 (by decide)).trans (k9_g_36)
          have k40_g_38 : g_38 40 = .int (nI kk) := (f_hrm 40 (by decide)).trans (k40_g_36)
          have k41_g_38 : g_38 41 = .int (nI zz) := (f_hrm 41 (by decide)).trans (k41_g_36)
          have k42_g_38 : g_38 42 = .int (nI ff) := (f_hrm 42 (by decide)).trans (k42_g_36)
          have k39_g_38 : g_38 39 = .int (bI ct) := (f_hrm 39 (by decide)).trans (k39_g_36)
          have k38_g_38 : g_38 38 = .int (nI wr) := (f_hrm 38 (by decide)).trans (k38_g_36)
          have k1_g_38 : g_38 1 = .ref Mrows := (f_hrm 1 (by decide)).trans (k1_g_36)
          have k7_g_38 : g_38 7 = .ref Mtab := (f_hrm 7 (by decide)).trans (k7_g_36)
          have k10_g_38 : g_38 10 = .ref Mnears := (f_hrm 10 (by decide)).trans (k10_g_36)
          have k12_g_38 : g_38 12 = .ref Msames := (f_hrm 12 (by decide)).trans (k12_g_36)
          have k30_g_38 : g_38 30 = .ref Mout := (f_hrm 30 (by decide)).trans (k30_g_36)
          have k31_g_38 : g_38 31 = .ref MoutFrom := (f_hrm 31 (by decide)).trans (k31_g_36)
          have k27_g_38 : g_38 27 = .ref Msource := (f_hrm 27 (by decide)).trans (k27_g_36)
          have k28_g_38 : g_38 28 = .ref MsourceFrom := (f_hrm 28 (by decide)).trans (k28_g_36)
          have k21_g_38 : g_38 21 = .ref MdKind := (f_hrm 21 (by decide)).trans (k21_g_36)
          have k22_g_38 : g_38 22 = .ref MdSize := (f_hrm 22 (by decide)).trans (k22_g_36)
          have k23_g_38 : g_38 23 = .ref MdAddress := (f_hrm 23 (by decide)).trans (k23_g_36)
          have k24_g_38 : g_38 24 = .ref MdMode := (f_hrm 24 (by decide)).trans (k24_g_36)
          have k25_g_38 : g_38 25 = .ref MdCode := (f_hrm 25 (by decide)).trans (k25_g_36)
          have k26_g_38 : g_38 26 = .ref MdWindow := (f_hrm 26 (by decide)).trans (k26_g_36)
          have k47_g_38 : g_38 47 = .int (nI c2) := (f_hrm 47 (by decide)).trans (k47_g_36)
          have k32_g_38 : g_38 32 = .int (nI n) := (f_hrm 32 (by decide)).trans (k32_g_36)
          have k45_g_38 : g_38 45 = .int (nI da) := (f_hrm 45 (by decide)).trans (k45_g_36)
          have k20_g_38 : g_38 20 = .int (nI dr) := (f_hrm 20 (by decide)).trans (k20_g_36)
          have k36_g_38 : g_38 36 = .int (nI fu) := (f_hrm 36 (by decide)).trans (k36_g_36)
          have k37_g_38 : g_38 37 = .int (nI pl) := (f_hrm 37 (by decide)).trans (k37_g_36)
          have k49_g_38 : g_38 49 = .int (nI (rdA b ae near (tt (1024 + q * 256 + c)) aa).2.2) := (f_hrm 49 (by decide)).trans (addressAt_w_35)
          have k51_g_38 : g_38 51 = .int pv := (f_hrm 51 (by decide)).trans (partAt_w_35)
          have fr_g_38 : frm [47, 51, 32, 45, 49, 11, 20, 36, 37] g g_38 := frm_tr fr_g_36 f_hrm (by decide)
          refine lv_iconst (v := 0) hx hb dX9_part_140 (by decide) ?_
          refine ri (y := nI 0) (nI_0.symm) ?_
          refine lv_istore (lv' := [(10, .int (nI 0)), (7, .long (lN x)), (9, .int (nI (tt (1024 + q * 256 + c)))), (6, .int (nI (tt (q * 256 + c)))), (0, .ref mm), (1, .int (nI c)), (2, .int (nI q)), (3, .int (nI wh)), (4, .long (lN z))]) hx hb dX9_part_141 hl (by decide) rfl (fun ls hl => ?_)
          have lc : ∀ (k9 : Nat) (g5_lc : Nat → Value) (i : Nat) (o7 : Nat → Int32) (of7 : Nat → Int32) (H : Heap) (locs : List Loc) (ls : Array Slot), z - i < k9 → (frm [47, 51, 32, 45, 49, 11, 20, 36, 37] g g5_lc) → (g5_lc 47 = .int (nI c2)) → (g5_lc 51 = .int pv) → (g5_lc 32 = .int (nI (n + i))) → (g5_lc 45 = .int (nI da)) → (g5_lc 49 = .int (nI (rdA b ae near (tt (1024 + q * 256 + c)) aa).2.2)) → (g5_lc 11 = .int (nI (kpX near nx))) → (g5_lc 20 = .int (nI dr)) → (g5_lc 36 = .int (nI fu)) → (g5_lc 37 = .int (nI pl)) → (i ≤ z) → (outR o7 of7 (cpM kk zz ff ww sB sG i x (B, G, n))) → va_P D vwCl [(mm, .inr (9, fl 78 g5_lc)), (Mout, .inl (cB, 4000, .inl o7)), (MoutFrom, .inl (cI, 4000, .inl of7)), (Msource, .inl (cB, 4000, .inl msource)), (MsourceFrom, .inl (cI, 4000, .inl msourceFrom)), (MdKind, .inl (cI, 4000, .inl mdKind)), (MdSize, .inl (cI, 4000, .inl mdSize)), (MdAddress, .inl (cI, 4000, .inl mdAddress)), (MdMode, .inl (cI, 4000, .inl mdMode)), (MdCode, .inl (cI, 4000, .inl mdCode)), (MdWindow, .inl (cI, 4000, .inl mdWindow)), (Mtab, .inl (cB, 1536, .inl mtab)), (Mrows, .inl (cB, 32000, .inl mrows)), (Mnears, .inl (cJ, 8, .inr (.inl fn3))), (Msames, .inl (cJ, 1024, .inr (.inl fs3)))] H → va_D A0 [(mm, .inr (9, fl 78 g5_lc)), (Mout, .inl (cB, 4000, .inl o7)), (MoutFrom, .inl (cI, 4000, .inl of7)), (Msource, .inl (cB, 4000, .inl msource)), (MsourceFrom, .inl (cI, 4000, .inl msourceFrom)), (MdKind, .inl (cI, 4000, .inl mdKind)), (MdSize, .inl (cI, 4000, .inl mdSize)), (MdAddress, .inl (cI, 4000, .inl mdAddress)), (MdMode, .inl (cI, 4000, .inl mdMode)), (MdCode, .inl (cI, 4000, .inl mdCode)), (MdWindow, .inl (cI, 4000, .inl mdWindow)), (Mtab, .inl (cB, 1536, .inl mtab)), (Mrows, .inl (cB, 32000, .inl mrows)), (Mnears, .inl (cJ, 8, .inr (.inl fn3))), (Msames, .inl (cJ, 1024, .inr (.inl fs3)))] → va_S A0 s0.heap H locs → lv_has ls 11 [(0, .ref mm), (1, .int (nI c)), (2, .int (nI q)), (3, .int (nI wh)), (4, .long (lN z)), (6, .int (nI (tt (q * 256 + c)))), (7, .long (lN x)), (9, .int (nI (tt (1024 + q * 256 + c)))), (10, .int (nI i))] → W p0 l e0 ({ frames := 2, cells := 0, slots := 0, locals := 54 }) s0 m0 ([.ref mm, .int (nI c), .int (nI q), .int (nI wh)] : List Value).toArray below meth c0 H locs 0 0 Q0 (F0 m0 143 ls []) := by
            intro k9
            induction k9 with
            | zero => intro g5_lc i o7 of7 H locs ls hk9; exact absurd hk9 (Nat.not_lt_zero _)
            | succ k9 ih =>
              intro g5_lc i o7 of7 H locs ls hk9 hf_lc k_codeAt_lc k_partAt_lc k_outSize_lc k_dataAt_lc k_addressAt_lc k_nextNear_lc k_drafts_lc k_fault_lc k_place_lc hiz hor hP hD hS hl
              have hmn : (cpM kk zz ff ww sB sG i x (B, G, n)).2.2 = n + i := cpM_n _ _ _
              refine lv_iload hx hb dX9_part_143 (lv_at hl 8 rfl) ?_
              refine lv_i2l hx hb dX9_part_145 (v := (nI i).toInt64) rfl ?_
              refine rl (y := lN i) (nI_l (by omega)) ?_
              refine lv_lload hx hb dX9_part_146 (lv_at hl 4 rfl) ?_
              refine W.lcmp hx hb dX9_part_148 ?_
              refine lv_if_ge (tgt := 168) hx hb dX9_part_149 (by decide) (fun c_40 => ?_) (fun c_40 => ?_)
              · have hi9 : i = z := by have := (pk_lLE (by omega) (by omega)).mp ((lg_cmp_ge _ _).mp c_40); omega
                subst hi9
                obtain ⟨⟨B3, G3, n3⟩, hB3⟩ : ∃ t9, t9 = (cpM kk zz ff ww sB sG i x (B, G, n)) := ⟨_, rfl⟩
                rw [← hB3] at hpt0 hmn hor
                have hn3 : n3 = n + i := hmn
                subst hn3
                refine lv_goto (tgt := 301) hx hb dX9_part_168 (by decide) ?_
                exact JL g5_lc x (tt (1024 + q * 256 + c)) (n + i) da (rdA b ae near (tt (1024 + q * 256 + c)) aa).2.2 (kpX near nx) pv (kpN near nx x cN) (kpS same x cS) B3 G3 fn3 fs3 o7 of7 _ _ ls (hf_lc) (k_codeAt_lc) (k_partAt_lc) (k_outSize_lc) (k_dataAt_lc) (k_addressAt_lc) (k_nextNear_lc) (k_drafts_lc) (k_fault_lc) (k_place_lc) (by rw [hpt0, hk3x]; rfl) (hda) (rdA_le haa) (by omega) (by omega) (hor) (kpX_ok h8 hnx) (hrm_) (fun j hj => kpN_lt (by omega) hcN j hj) (fun j hj => kpS_lt (by omega) hcS j hj) (hP.sub [0, 12, 13, 14, 1, 2, 3, 4, 5, 6, 7, 8, 9, 10, 11] rfl) (hD.sub [0, 12, 13, 14, 1, 2, 3, 4, 5, 6, 7, 8, 9, 10, 11] (by decide) rfl) hS (lv_sub hl [0, 1, 2, 3, 4, 5, 6, 7] rfl)
              · have hi9 : i < z := Nat.not_le.mp (fun w => c_40 ((lg_cmp_ge _ _).mpr ((pk_lLE (by omega) (by omega)).mpr w)))
                obtain ⟨B7, G7, hB7⟩ : ∃ B7 G7, (cpM kk zz ff ww sB sG i x (B, G, n)) = (B7, G7, n + i) := ⟨_, _, Prod.ext rfl (Prod.ext rfl hmn)⟩
                refine lv_aload_n hx hb dX9_part_152 rfl (lv_at hl 0 rfl) ?_
                refine lv_lload hx hb dX9_part_153 (lv_at hl 6 rfl) ?_
                refine lv_l2i hx hb dX9_part_155 (v := (lN x).toInt32) rfl ?_
                refine ri (y := nI x) (lN_i x) ?_
                refine lv_iload hx hb dX9_part_156 (lv_at hl 8 rfl) ?_
                refine lv_iadd hx hb dX9_part_158 ?_
                refine ri (y := nI (x + i)) (nI_add x i) ?_
                refine jn_v (wr := [(MdKind, .inl (cI, 4000, .inl mdKind)), (MdSize, .inl (cI, 4000, .inl mdSize)), (MdAddress, .inl (cI, 4000, .inl mdAddress)), (MdMode, .inl (cI, 4000, .inl mdMode)), (MdCode, .inl (cI, 4000, .inl mdCode)), (MdWindow, .inl (cI, 4000, .inl mdWindow)), (Mtab, .inl (cB, 1536, .inl mtab)), (Mrows, .inl (cB, 32000, .inl mrows)), (Mnears, .inl (cJ, 8, .inr (.inl fn3))), (Msames, .inl (cJ, 1024, .inr (.inl fs3)))]) hA hP hD hS [0, 1, 2, 3, 4] [5, 6, 7, 8, 9, 10, 11, 12, 13, 14] rfl rfl (by decide) (by decide) (rn_V (As := [.int (nI (x + i))]) (rest := []) ⟨hx, hb, hml, hown, hts⟩ (cvV 1 hts zc_yX9_copyOne zi_X9 zm_yX9_copyOne zv_yX9_copyOne kX9_316 (by decide +kernel) rfl rfl ⟨Nat.le_of_ble_eq_true rfl, Nat.le_of_ble_eq_true rfl⟩) (m_copyOne l D cI cB cJ cR mm g5_lc Mout MoutFrom Msource MsourceFrom o7 of7 msource msourceFrom zz ff ww kk (n + i) (x + i) sn B7 G7 sB sG ((hf_lc 41 (by decide)).trans g_segmentSize) ((hf_lc 42 (by decide)).trans g_segmentAt) ((hf_lc 43 (by decide)).trans g_begun) ((hf_lc 40 (by decide)).trans g_segment) (k_outSize_lc) ((hf_lc 30 (by decide)).trans g_out) ((hf_lc 31 (by decide)).trans g_outFrom) ((hf_lc 27 (by decide)).trans g_source) ((hf_lc 28 (by decide)).trans g_sourceFrom) (by rw [← hB7]; exact hor) (hsr) (hsf) (hsn) (hk1) (fun w => by have := hk2 w; omega) (by omega) (by omega) (by omega) (hzz) (hk3) H.size) hK hNw hMk hA hP hD hS [0, 1, 2, 3, 4] rfl rfl (by decide) 0 rfl rfl rfl rfl hl.1 rfl (Nat.le_of_ble_eq_true rfl) dX9_part_159 ⟨Nat.le_of_ble_eq_true rfl, Nat.le_of_ble_eq_true rfl⟩) (fun u9 H locs hcp1 hP hD hS => ?_)
                obtain ⟨g_41, o8, of8⟩ := u9
                try dsimp only at hcp1
                have hP : va_P D vwCl [(MdKind, .inl (cI, 4000, .inl mdKind)), (MdSize, .inl (cI, 4000, .inl mdSize)), (MdAddress, .inl (cI, 4000, .inl mdAddress)), (MdMode, .inl (cI, 4000, .inl mdMode)), (MdCode, .inl (cI, 4000, .inl mdCode)), (MdWindow, .inl (cI, 4000, .inl mdWindow)), (Mtab, .inl (cB, 1536, .inl mtab)), (Mrows, .inl (cB, 32000, .inl mrows)), (Mnears, .inl (cJ, 8, .inr (.inl fn3))), (Msames, .inl (cJ, 1024, .inr (.inl fs3))), (mm, .inr (9, fl 78 g_41)), (Mout, .inl (cB, 4000, .inl o8)), (MoutFrom, .inl (cI, 4000, .inl of8)), (Msource, .inl (cB, 4000, .inl msource)), (MsourceFrom, .inl (cI, 4000, .inl msourceFrom))] H := hP
                have hD : va_D A0 [(MdKind, .inl (cI, 4000, .inl mdKind)), (MdSize, .inl (cI, 4000, .inl mdSize)), (MdAddress, .inl (cI, 4000, .inl mdAddress)), (MdMode, .inl (cI, 4000, .inl mdMode)), (MdCode, .inl (cI, 4000, .inl mdCode)), (MdWindow, .inl (cI, 4000, .inl mdWindow)), (Mtab, .inl (cB, 1536, .inl mtab)), (Mrows, .inl (cB, 32000, .inl mrows)), (Mnears, .inl (cJ, 8, .inr (.inl fn3))), (Msames, .inl (cJ, 1024, .inr (.inl fs3))), (mm, .inr (9, fl 78 g_41)), (Mout, .inl (cB, 4000, .inl o8)), (MoutFrom, .inl (cI, 4000, .inl of8)), (Msource, .inl (cB, 4000, .inl msource)), (MsourceFrom, .inl (cI, 4000, .inl msourceFrom))] := hD
                obtain ⟨f_hcp1, outSize_hcp1, hcp1_⟩ := hcp1
                have k48_g_41 : g_41 48 = .int (nI ce) := (f_hcp1 48 (by decide)).trans ((hf_lc 48 (by decide)).trans g_codeEnd)
                have k33_g_41 : g_41 33 = .int (nI bs) := (f_hcp1 33 (by decide)).trans ((hf_lc 33 (by decide)).trans g_base)
                have k43_g_41 : g_41 43 = .int (nI ww) := (f_hcp1 43 (by decide)).trans ((hf_lc 43 (by decide)).trans g_begun)
                have k44_g_41 : g_41 44 = .int (nI wl) := (f_hcp1 44 (by decide)).trans ((hf_lc 44 (by decide)).trans g_will)
                have k46_g_41 : g_41 46 = .int (nI de) := (f_hcp1 46 (by decide)).trans ((hf_lc 46 (by decide)).trans g_dataEnd)
                have k50_g_41 : g_41 50 = .int (nI ae) := (f_hcp1 50 (by decide)).trans ((hf_lc 50 (by decide)).trans g_addressEnd)
                have k8_g_41 : g_41 8 = .int (nI near) := (f_hcp1 8 (by decide)).trans ((hf_lc 8 (by decide)).trans g_near)
                have k9_g_41 : g_41 9 = .int (nI same) := (f_hcp1 9 (by decide)).trans ((hf_lc 9 (by decide)).trans g_same)
                have k40_g_41 : g_41 40 = .int (nI kk) := (f_hcp1 40 (by decide)).trans ((hf_lc 40 (by decide)).trans g_segment)
                have k41_g_41 : g_41 41 = .int (nI zz) := (f_hcp1 41 (by decide)).trans ((hf_lc 41 (by decide)).trans g_segmentSize)
                have k42_g_41 : g_41 42 = .int (nI ff) := (f_hcp1 42 (by decide)).trans ((hf_lc 42 (by decide)).trans g_segmentAt)
                have k39_g_41 : g_41 39 = .int (bI ct) := (f_hcp1 39 (by decide)).trans ((hf_lc 39 (by decide)).trans g_counts)
                have k38_g_41 : g_41 38 = .int (nI wr) := (f_hcp1 38 (by decide)).trans ((hf_lc 38 (by decide)).trans g_windows)
                have k1_g_41 : g_41 1 = .ref Mrows := (f_hcp1 1 (by decide)).trans ((hf_lc 1 (by decide)).trans g_rows)
                have k7_g_41 : g_41 7 = .ref Mtab := (f_hcp1 7 (by decide)).trans ((hf_lc 7 (by decide)).trans g_tab)
                have k10_g_41 : g_41 10 = .ref Mnears := (f_hcp1 10 (by decide)).trans ((hf_lc 10 (by decide)).trans g_nears)
                have k12_g_41 : g_41 12 = .ref Msames := (f_hcp1 12 (by decide)).trans ((hf_lc 12 (by decide)).trans g_sames)
                have k30_g_41 : g_41 30 = .ref Mout := (f_hcp1 30 (by decide)).trans ((hf_lc 30 (by decide)).trans g_out)
                have k31_g_41 : g_41 31 = .ref MoutFrom := (f_hcp1 31 (by decide)).trans ((hf_lc 31 (by decide)).trans g_outFrom)
                have k27_g_41 : g_41 27 = .ref Msource := (f_hcp1 27 (by decide)).trans ((hf_lc 27 (by decide)).trans g_source)
                have k28_g_41 : g_41 28 = .ref MsourceFrom := (f_hcp1 28 (by decide)).trans ((hf_lc 28 (by decide)).trans g_sourceFrom)
                have k21_g_41 : g_41 21 = .ref MdKind := (f_hcp1 21 (by decide)).trans ((hf_lc 21 (by decide)).trans g_dKind)
                have k22_g_41 : g_41 22 = .ref MdSize := (f_hcp1 22 (by decide)).trans ((hf_lc 22 (by decide)).trans g_dSize)
                have k23_g_41 : g_41 23 = .ref MdAddress := (f_hcp1 23 (by decide)).trans ((hf_lc 23 (by decide)).trans g_dAddress)
                have k24_g_41 : g_41 24 = .ref MdMode := (f_hcp1 24 (by decide)).trans ((hf_lc 24 (by decide)).trans g_dMode)
                have k25_g_41 : g_41 25 = .ref MdCode := (f_hcp1 25 (by decide)).trans ((hf_lc 25 (by decide)).trans g_dCode)
                have k26_g_41 : g_41 26 = .ref MdWindow := (f_hcp1 26 (by decide)).trans ((hf_lc 26 (by decide)).trans g_dWindow)
                have k47_g_41 : g_41 47 = .int (nI c2) := (f_hcp1 47 (by decide)).trans (k_codeAt_lc)
                have k51_g_41 : g_41 51 = .int pv := (f_hcp1 51 (by decide)).trans (k_partAt_lc)
                have k45_g_41 : g_41 45 = .int (nI da) := (f_hcp1 45 (by decide)).trans (k_dataAt_lc)
                have k49_g_41 : g_41 49 = .int (nI (rdA b ae near (tt (1024 + q * 256 + c)) aa).2.2) := (f_hcp1 49 (by decide)).trans (k_addressAt_lc)
                have k11_g_41 : g_41 11 = .int (nI (kpX near nx)) := (f_hcp1 11 (by decide)).trans (k_nextNear_lc)
                have k20_g_41 : g_41 20 = .int (nI dr) := (f_hcp1 20 (by decide)).trans (k_drafts_lc)
                have k36_g_41 : g_41 36 = .int (nI fu) := (f_hcp1 36 (by decide)).trans (k_fault_lc)
                have k37_g_41 : g_41 37 = .int (nI pl) := (f_hcp1 37 (by decide)).trans (k_place_lc)
                have fr_g_41 : frm [47, 51, 32, 45, 49, 11, 20, 36, 37] g g_41 := frm_tr hf_lc f_hcp1 (by decide)
                have kx_43 : g_41 32 = .int (nI (n + (i + 1))) := by have h9 : g_41 32 = .int (nI ((n + i) + 1)) := outSize_hcp1; rw [h9]; exact congrArg Value.int (by rw [Nat.add_assoc])
                refine lv_iinc (v := nI (i + 1)) (lv' := [(10, .int (nI (i + 1))), (0, .ref mm), (1, .int (nI c)), (2, .int (nI q)), (3, .int (nI wh)), (4, .long (lN z)), (6, .int (nI (tt (q * 256 + c)))), (7, .long (lN x)), (9, .int (nI (tt (1024 + q * 256 + c))))]) hx hb dX9_part_162 hl (k := 8) rfl (nI_add i 1) (by decide) rfl (fun ls hl => ?_)
                refine lv_goto (tgt := 143) hx hb dX9_part_165 (by decide) ?_
                exact ih g_41 (i + 1) o8 of8 _ _ ls (by omega) (fr_g_41) (k47_g_41) (k51_g_41) (kx_43) (k45_g_41) (k49_g_41) (k11_g_41) (k20_g_41) (k36_g_41) (k37_g_41) (by omega) (by rw [cpM_s, hB7]; exact hcp1_) (hP.sub [10, 11, 12, 13, 14, 0, 1, 2, 3, 4, 5, 6, 7, 8, 9] rfl) (hD.sub [10, 11, 12, 13, 14, 0, 1, 2, 3, 4, 5, 6, 7, 8, 9] (by decide) rfl) hS (lv_sub hl [1, 2, 3, 4, 5, 6, 7, 8, 0] rfl)
          exact lc _ g_38 0 mout moutFrom _ _ ls (Nat.lt_succ_self _) (fr_g_38) (k47_g_38) (k51_g_38) (k32_g_38) (k45_g_38) (k49_g_38) (nextNear_hrm) (k20_g_38) (k36_g_38) (k37_g_38) (Nat.zero_le _) (ho) (hP.sub [12, 0, 1, 2, 3, 4, 5, 6, 7, 8, 9, 10, 11, 13, 14] rfl) (hD.sub [12, 0, 1, 2, 3, 4, 5, 6, 7, 8, 9, 10, 11, 13, 14] (by decide) rfl) hS (lv_sub hl [4, 5, 6, 7, 8, 3, 1, 2, 0] rfl)
        · have hpt0 := hpt0.trans (if_neg hok)
          have y1 := w2 hok
          subst y1
          refine lv_lstore (lv' := [(7, .long (-1)), (9, .int (nI (tt (1024 + q * 256 + c)))), (6, .int (nI (tt (q * 256 + c)))), (0, .ref mm), (1, .int (nI c)), (2, .int (nI q)), (3, .int (nI wh)), (4, .long (lN z))]) hx hb dX9_part_117 hl (by decide) rfl (fun ls hl => ?_)
          refine lv_lload hx hb dX9_part_119 (lv_at hl 0 rfl) ?_
          refine lv_lconst (v := 0) hx hb dX9_part_121 (by decide) ?_
          refine W.lcmp hx hb dX9_part_122 ?_
          refine lv_if_ge (tgt := 134) hx hb dX9_part_123 (by decide) (fun c_44 => absurd c_44 (by decide)) (fun c_44 => ?_)
          refine lv_aload_n hx hb dX9_part_126 rfl (lv_at hl 3 rfl) ?_
          refine lv_bipush (v := 13) hx hb dX9_part_127 (by decide) ?_
          refine ri (y := nI 13) (rfl) ?_
          refine lv_iload_n hx hb dX9_part_129 rfl (lv_at hl 6 rfl) ?_
          refine jn_v (wr := [(Mout, .inl (cB, 4000, .inl mout)), (MoutFrom, .inl (cI, 4000, .inl moutFrom)), (Msource, .inl (cB, 4000, .inl msource)), (MsourceFrom, .inl (cI, 4000, .inl msourceFrom)), (MdKind, .inl (cI, 4000, .inl mdKind)), (MdSize, .inl (cI, 4000, .inl mdSize)), (MdAddress, .inl (cI, 4000, .inl mdAddress)), (MdMode, .inl (cI, 4000, .inl mdMode)), (MdCode, .inl (cI, 4000, .inl mdCode)), (MdWindow, .inl (cI, 4000, .inl mdWindow)), (Mtab, .inl (cB, 1536, .inl mtab)), (Mrows, .inl (cB, 32000, .inl mrows)), (Mnears, .inl (cJ, 8, .inr (.inl mnears))), (Msames, .inl (cJ, 1024, .inr (.inl msames)))]) hA hP hD hS [11] [0, 1, 2, 3, 4, 5, 6, 7, 8, 9, 10, 12, 13, 14] rfl rfl (by decide) (by decide) (rn_V (As := [.int (nI 13), .int (nI wh)]) (rest := []) ⟨hx, hb, hml, hown, hts⟩ (cvV 2 hts zc_yX9_fail zi_X9 zm_yX9_fail zv_yX9_fail kX9_191 (by decide +kernel) rfl rfl ⟨Nat.le_of_ble_eq_true rfl, Nat.le_of_ble_eq_true rfl⟩) (m_fail l D cI cB cJ cR mm g_36 fu pl 13 wh (k36_g_36) (k37_g_36) (hfl) H.size) hK hNw hMk hA hP hD hS [11] rfl rfl (by decide) 0 rfl rfl rfl rfl hl.1 rfl (Nat.le_of_ble_eq_true rfl) dX9_part_130 ⟨Nat.le_of_ble_eq_true rfl, Nat.le_of_ble_eq_true rfl⟩) (fun u9 H locs w_45 hP hD hS => ?_)
          obtain ⟨g_46, fu2_47, pl2_48⟩ := u9
          try dsimp only at w_45
          have hP : va_P D vwCl [(Mout, .inl (cB, 4000, .inl mout)), (MoutFrom, .inl (cI, 4000, .inl moutFrom)), (Msource, .inl (cB, 4000, .inl msource)), (MsourceFrom, .inl (cI, 4000, .inl msourceFrom)), (MdKind, .inl (cI, 4000, .inl mdKind)), (MdSize, .inl (cI, 4000, .inl mdSize)), (MdAddress, .inl (cI, 4000, .inl mdAddress)), (MdMode, .inl (cI, 4000, .inl mdMode)), (MdCode, .inl (cI, 4000, .inl mdCode)), (MdWindow, .inl (cI, 4000, .inl mdWindow)), (Mtab, .inl (cB, 1536, .inl mtab)), (Mrows, .inl (cB, 32000, .inl mrows)), (Mnears, .inl (cJ, 8, .inr (.inl mnears))), (Msames, .inl (cJ, 1024, .inr (.inl msames))), (mm, .inr (9, fl 78 g_46))] H := hP
          have hD : va_D A0 [(Mout, .inl (cB, 4000, .inl mout)), (MoutFrom, .inl (cI, 4000, .inl moutFrom)), (Msource, .inl (cB, 4000, .inl msource)), (MsourceFrom, .inl (cI, 4000, .inl msourceFrom)), (MdKind, .inl (cI, 4000, .inl mdKind)), (MdSize, .inl (cI, 4000, .inl mdSize)), (MdAddress, .inl (cI, 4000, .inl mdAddress)), (MdMode, .inl (cI, 4000, .inl mdMode)), (MdCode, .inl (cI, 4000, .inl mdCode)), (MdWindow, .inl (cI, 4000, .inl mdWindow)), (Mtab, .inl (cB, 1536, .inl mtab)), (Mrows, .inl (cB, 32000, .inl mrows)), (Mnears, .inl (cJ, 8, .inr (.inl mnears))), (Msames, .inl (cJ, 1024, .inr (.inl msames))), (mm, .inr (9, fl 78 g_46))] := hD
          obtain ⟨f_w_45, fault_w_45, place_w_45, w_45_⟩ := w_45
          have k48_g_46 : g_46 48 = .int (nI ce) := (f_w_45 48 (by decide)).trans (k48_g_36)
          have k33_g_46 : g_46 33 = .int (nI bs) := (f_w_45 33 (by decide)).trans (k33_g_36)
          have k43_g_46 : g_46 43 = .int (nI ww) := (f_w_45 43 (by decide)).trans (k43_g_36)
          have k44_g_46 : g_46 44 = .int (nI wl) := (f_w_45 44 (by decide)).trans (k44_g_36)
          have k46_g_46 : g_46 46 = .int (nI de) := (f_w_45 46 (by decide)).trans (k46_g_36)
          have k50_g_46 : g_46 50 = .int (nI ae) := (f_w_45 50 (by decide)).trans (k50_g_36)
          have k8_g_46 : g_46 8 = .int (nI near) := (f_w_45 8 (by decide)).trans (k8_g_36)
          have k9_g_46 : g_46 9 = .int (nI same) := (f_w_45 9 (by decide)).trans (k9_g_36)
          have k40_g_46 : g_46 40 = .int (nI kk) := (f_w_45 40 (by decide)).trans (k40_g_36)
          have k41_g_46 : g_46 41 = .int (nI zz) := (f_w_45 41 (by decide)).trans (k41_g_36)
          have k42_g_46 : g_46 42 = .int (nI ff) := (f_w_45 42 (by decide)).trans (k42_g_36)
          have k39_g_46 : g_46 39 = .int (bI ct) := (f_w_45 39 (by decide)).trans (k39_g_36)
          have k38_g_46 : g_46 38 = .int (nI wr) := (f_w_45 38 (by decide)).trans (k38_g_36)
          have k1_g_46 : g_46 1 = .ref Mrows := (f_w_45 1 (by decide)).trans (k1_g_36)
          have k7_g_46 : g_46 7 = .ref Mtab := (f_w_45 7 (by decide)).trans (k7_g_36)
          have k10_g_46 : g_46 10 = .ref Mnears := (f_w_45 10 (by decide)).trans (k10_g_36)
          have k12_g_46 : g_46 12 = .ref Msames := (f_w_45 12 (by decide)).trans (k12_g_36)
          have k30_g_46 : g_46 30 = .ref Mout := (f_w_45 30 (by decide)).trans (k30_g_36)
          have k31_g_46 : g_46 31 = .ref MoutFrom := (f_w_45 31 (by decide)).trans (k31_g_36)
          have k27_g_46 : g_46 27 = .ref Msource := (f_w_45 27 (by decide)).trans (k27_g_36)
          have k28_g_46 : g_46 28 = .ref MsourceFrom := (f_w_45 28 (by decide)).trans (k28_g_36)
          have k21_g_46 : g_46 21 = .ref MdKind := (f_w_45 21 (by decide)).trans (k21_g_36)
          have k22_g_46 : g_46 22 = .ref MdSize := (f_w_45 22 (by decide)).trans (k22_g_36)
          have k23_g_46 : g_46 23 = .ref MdAddress := (f_w_45 23 (by decide)).trans (k23_g_36)
          have k24_g_46 : g_46 24 = .ref MdMode := (f_w_45 24 (by decide)).trans (k24_g_36)
          have k25_g_46 : g_46 25 = .ref MdCode := (f_w_45 25 (by decide)).trans (k25_g_36)
          have k26_g_46 : g_46 26 = .ref MdWindow := (f_w_45 26 (by decide)).trans (k26_g_36)
          have k47_g_46 : g_46 47 = .int (nI c2) := (f_w_45 47 (by decide)).trans (k47_g_36)
          have k32_g_46 : g_46 32 = .int (nI n) := (f_w_45 32 (by decide)).trans (k32_g_36)
          have k45_g_46 : g_46 45 = .int (nI da) := (f_w_45 45 (by decide)).trans (k45_g_36)
          have k11_g_46 : g_46 11 = .int (nI nx) := (f_w_45 11 (by decide)).trans (k11_g_36)
          have k20_g_46 : g_46 20 = .int (nI dr) := (f_w_45 20 (by decide)).trans (k20_g_36)
          have k49_g_46 : g_46 49 = .int av := (f_w_45 49 (by decide)).trans (addressAt_w_35)
          have k51_g_46 : g_46 51 = .int pv := (f_w_45 51 (by decide)).trans (partAt_w_35)
          have fr_g_46 : frm [47, 51, 32, 45, 49, 11, 20, 36, 37] g g_46 := frm_tr fr_g_36 f_w_45 (by decide)
          rw [if_pos h0] at w_45_
          obtain ⟨x1, x2⟩ := Prod.mk.inj w_45_
          have hP := hP.sub (ws' := [(mm, .inr (9, fl 78 g_46)), (Mrows, .inl (cB, 32000, .inl mrows)), (Mtab, .inl (cB, 1536, .inl mtab)), (Mnears, .inl (cJ, 8, .inr (.inl mnears))), (Msames, .inl (cJ, 1024, .inr (.inl msames))), (Mout, .inl (cB, 4000, .inl mout)), (MoutFrom, .inl (cI, 4000, .inl moutFrom)), (Msource, .inl (cB, 4000, .inl msource)), (MsourceFrom, .inl (cI, 4000, .inl msourceFrom)), (MdKind, .inl (cI, 4000, .inl mdKind)), (MdSize, .inl (cI, 4000, .inl mdSize)), (MdAddress, .inl (cI, 4000, .inl mdAddress)), (MdMode, .inl (cI, 4000, .inl mdMode)), (MdCode, .inl (cI, 4000, .inl mdCode)), (MdWindow, .inl (cI, 4000, .inl mdWindow))]) [14, 11, 10, 12, 13, 0, 1, 2, 3, 4, 5, 6, 7, 8, 9] rfl
          have hD := hD.sub (ws' := [(mm, .inr (9, fl 78 g_46)), (Mrows, .inl (cB, 32000, .inl mrows)), (Mtab, .inl (cB, 1536, .inl mtab)), (Mnears, .inl (cJ, 8, .inr (.inl mnears))), (Msames, .inl (cJ, 1024, .inr (.inl msames))), (Mout, .inl (cB, 4000, .inl mout)), (MoutFrom, .inl (cI, 4000, .inl moutFrom)), (Msource, .inl (cB, 4000, .inl msource)), (MsourceFrom, .inl (cI, 4000, .inl msourceFrom)), (MdKind, .inl (cI, 4000, .inl mdKind)), (MdSize, .inl (cI, 4000, .inl mdSize)), (MdAddress, .inl (cI, 4000, .inl mdAddress)), (MdMode, .inl (cI, 4000, .inl mdMode)), (MdCode, .inl (cI, 4000, .inl mdCode)), (MdWindow, .inl (cI, 4000, .inl mdWindow))]) [14, 11, 10, 12, 13, 0, 1, 2, 3, 4, 5, 6, 7, 8, 9] (by decide) rfl
          exact hret 133 ls _ _ (g_46, c2, pv, n, da, av, aa, nx, dr, fu2_47, pl2_48, cnt, cN, cS, B, G, gg, mnears, msames, mout, moutFrom, mdKind, mdSize, mdAddress, mdMode, mdCode, mdWindow) dX9_part_133 hP hD hS (⟨fr_g_46, k47_g_46, k51_g_46, k32_g_46, k45_g_46, k49_g_46, k11_g_46, k20_g_46, fault_w_45, place_w_45, ⟨fun _ => ⟨by rw [x1]; exact hpt0, x2, rfl, rfl, fun z => (hct z).2.2⟩, fun z => absurd (x1.symm.trans z) (by decide), by rw [x1]; decide, fun _ => rfl⟩⟩)
    · have hbig : ww + wl < n + z := by have := Nat.not_le.mp (fun w => c_4 ((lg_cmp_le _ _).mpr ((pk_lLE (by omega) (by omega)).mpr w))); omega
      refine lv_aload_n hx hb dX9_part_75 rfl (lv_at hl 0 rfl) ?_
      refine lv_bipush (v := 15) hx hb dX9_part_76 (by decide) ?_
      refine ri (y := nI 15) (rfl) ?_
      refine lv_iload_n hx hb dX9_part_78 rfl (lv_at hl 3 rfl) ?_
      refine jn_v (wr := [(Mrows, .inl (cB, 32000, .inl mrows)), (Mnears, .inl (cJ, 8, .inr (.inl mnears))), (Msames, .inl (cJ, 1024, .inr (.inl msames))), (Mout, .inl (cB, 4000, .inl mout)), (MoutFrom, .inl (cI, 4000, .inl moutFrom)), (Msource, .inl (cB, 4000, .inl msource)), (MsourceFrom, .inl (cI, 4000, .inl msourceFrom)), (MdKind, .inl (cI, 4000, .inl mdKind)), (MdSize, .inl (cI, 4000, .inl mdSize)), (MdAddress, .inl (cI, 4000, .inl mdAddress)), (MdMode, .inl (cI, 4000, .inl mdMode)), (MdCode, .inl (cI, 4000, .inl mdCode)), (MdWindow, .inl (cI, 4000, .inl mdWindow)), (Mtab, .inl (cB, 1536, .inl mtab))]) hA hP hD hS [0] [1, 2, 3, 4, 5, 6, 7, 8, 9, 10, 11, 12, 13, 14] rfl rfl (by decide) (by decide) (rn_V (As := [.int (nI 15), .int (nI wh)]) (rest := []) ⟨hx, hb, hml, hown, hts⟩ (cvV 2 hts zc_yX9_fail zi_X9 zm_yX9_fail zv_yX9_fail kX9_191 (by decide +kernel) rfl rfl ⟨Nat.le_of_ble_eq_true rfl, Nat.le_of_ble_eq_true rfl⟩) (m_fail l D cI cB cJ cR mm gj_JS fu pl 15 wh (k_fault_JS) (k_place_JS) (hfl) H.size) hK hNw hMk hA hP hD hS [0] rfl rfl (by decide) 0 rfl rfl rfl rfl hl.1 rfl (Nat.le_of_ble_eq_true rfl) dX9_part_79 ⟨Nat.le_of_ble_eq_true rfl, Nat.le_of_ble_eq_true rfl⟩) (fun u9 H locs w_50 hP hD hS => ?_)
      obtain ⟨g_51, fu2_52, pl2_53⟩ := u9
      try dsimp only at w_50
      have hP : va_P D vwCl [(Mrows, .inl (cB, 32000, .inl mrows)), (Mnears, .inl (cJ, 8, .inr (.inl mnears))), (Msames, .inl (cJ, 1024, .inr (.inl msames))), (Mout, .inl (cB, 4000, .inl mout)), (MoutFrom, .inl (cI, 4000, .inl moutFrom)), (Msource, .inl (cB, 4000, .inl msource)), (MsourceFrom, .inl (cI, 4000, .inl msourceFrom)), (MdKind, .inl (cI, 4000, .inl mdKind)), (MdSize, .inl (cI, 4000, .inl mdSize)), (MdAddress, .inl (cI, 4000, .inl mdAddress)), (MdMode, .inl (cI, 4000, .inl mdMode)), (MdCode, .inl (cI, 4000, .inl mdCode)), (MdWindow, .inl (cI, 4000, .inl mdWindow)), (Mtab, .inl (cB, 1536, .inl mtab)), (mm, .inr (9, fl 78 g_51))] H := hP
      have hD : va_D A0 [(Mrows, .inl (cB, 32000, .inl mrows)), (Mnears, .inl (cJ, 8, .inr (.inl mnears))), (Msames, .inl (cJ, 1024, .inr (.inl msames))), (Mout, .inl (cB, 4000, .inl mout)), (MoutFrom, .inl (cI, 4000, .inl moutFrom)), (Msource, .inl (cB, 4000, .inl msource)), (MsourceFrom, .inl (cI, 4000, .inl msourceFrom)), (MdKind, .inl (cI, 4000, .inl mdKind)), (MdSize, .inl (cI, 4000, .inl mdSize)), (MdAddress, .inl (cI, 4000, .inl mdAddress)), (MdMode, .inl (cI, 4000, .inl mdMode)), (MdCode, .inl (cI, 4000, .inl mdCode)), (MdWindow, .inl (cI, 4000, .inl mdWindow)), (Mtab, .inl (cB, 1536, .inl mtab)), (mm, .inr (9, fl 78 g_51))] := hD
      obtain ⟨f_w_50, fault_w_50, place_w_50, w_50_⟩ := w_50
      have k48_g_51 : g_51 48 = .int (nI ce) := (f_w_50 48 (by decide)).trans ((hf_JS 48 (by decide)).trans g_codeEnd)
      have k33_g_51 : g_51 33 = .int (nI bs) := (f_w_50 33 (by decide)).trans ((hf_JS 33 (by decide)).trans g_base)
      have k43_g_51 : g_51 43 = .int (nI ww) := (f_w_50 43 (by decide)).trans ((hf_JS 43 (by decide)).trans g_begun)
      have k44_g_51 : g_51 44 = .int (nI wl) := (f_w_50 44 (by decide)).trans ((hf_JS 44 (by decide)).trans g_will)
      have k46_g_51 : g_51 46 = .int (nI de) := (f_w_50 46 (by decide)).trans ((hf_JS 46 (by decide)).trans g_dataEnd)
      have k50_g_51 : g_51 50 = .int (nI ae) := (f_w_50 50 (by decide)).trans ((hf_JS 50 (by decide)).trans g_addressEnd)
      have k8_g_51 : g_51 8 = .int (nI near) := (f_w_50 8 (by decide)).trans ((hf_JS 8 (by decide)).trans g_near)
      have k9_g_51 : g_51 9 = .int (nI same) := (f_w_50 9 (by decide)).trans ((hf_JS 9 (by decide)).trans g_same)
      have k40_g_51 : g_51 40 = .int (nI kk) := (f_w_50 40 (by decide)).trans ((hf_JS 40 (by decide)).trans g_segment)
      have k41_g_51 : g_51 41 = .int (nI zz) := (f_w_50 41 (by decide)).trans ((hf_JS 41 (by decide)).trans g_segmentSize)
      have k42_g_51 : g_51 42 = .int (nI ff) := (f_w_50 42 (by decide)).trans ((hf_JS 42 (by decide)).trans g_segmentAt)
      have k39_g_51 : g_51 39 = .int (bI ct) := (f_w_50 39 (by decide)).trans ((hf_JS 39 (by decide)).trans g_counts)
      have k38_g_51 : g_51 38 = .int (nI wr) := (f_w_50 38 (by decide)).trans ((hf_JS 38 (by decide)).trans g_windows)
      have k1_g_51 : g_51 1 = .ref Mrows := (f_w_50 1 (by decide)).trans ((hf_JS 1 (by decide)).trans g_rows)
      have k7_g_51 : g_51 7 = .ref Mtab := (f_w_50 7 (by decide)).trans ((hf_JS 7 (by decide)).trans g_tab)
      have k10_g_51 : g_51 10 = .ref Mnears := (f_w_50 10 (by decide)).trans ((hf_JS 10 (by decide)).trans g_nears)
      have k12_g_51 : g_51 12 = .ref Msames := (f_w_50 12 (by decide)).trans ((hf_JS 12 (by decide)).trans g_sames)
      have k30_g_51 : g_51 30 = .ref Mout := (f_w_50 30 (by decide)).trans ((hf_JS 30 (by decide)).trans g_out)
      have k31_g_51 : g_51 31 = .ref MoutFrom := (f_w_50 31 (by decide)).trans ((hf_JS 31 (by decide)).trans g_outFrom)
      have k27_g_51 : g_51 27 = .ref Msource := (f_w_50 27 (by decide)).trans ((hf_JS 27 (by decide)).trans g_source)
      have k28_g_51 : g_51 28 = .ref MsourceFrom := (f_w_50 28 (by decide)).trans ((hf_JS 28 (by decide)).trans g_sourceFrom)
      have k21_g_51 : g_51 21 = .ref MdKind := (f_w_50 21 (by decide)).trans ((hf_JS 21 (by decide)).trans g_dKind)
      have k22_g_51 : g_51 22 = .ref MdSize := (f_w_50 22 (by decide)).trans ((hf_JS 22 (by decide)).trans g_dSize)
      have k23_g_51 : g_51 23 = .ref MdAddress := (f_w_50 23 (by decide)).trans ((hf_JS 23 (by decide)).trans g_dAddress)
      have k24_g_51 : g_51 24 = .ref MdMode := (f_w_50 24 (by decide)).trans ((hf_JS 24 (by decide)).trans g_dMode)
      have k25_g_51 : g_51 25 = .ref MdCode := (f_w_50 25 (by decide)).trans ((hf_JS 25 (by decide)).trans g_dCode)
      have k26_g_51 : g_51 26 = .ref MdWindow := (f_w_50 26 (by decide)).trans ((hf_JS 26 (by decide)).trans g_dWindow)
      have k47_g_51 : g_51 47 = .int (nI c2) := (f_w_50 47 (by decide)).trans (k_codeAt_JS)
      have k51_g_51 : g_51 51 = .int pb := (f_w_50 51 (by decide)).trans (k_partAt_JS)
      have k32_g_51 : g_51 32 = .int (nI n) := (f_w_50 32 (by decide)).trans (k_outSize_JS)
      have k45_g_51 : g_51 45 = .int (nI da) := (f_w_50 45 (by decide)).trans (k_dataAt_JS)
      have k49_g_51 : g_51 49 = .int (nI aa) := (f_w_50 49 (by decide)).trans (k_addressAt_JS)
      have k11_g_51 : g_51 11 = .int (nI nx) := (f_w_50 11 (by decide)).trans (k_nextNear_JS)
      have k20_g_51 : g_51 20 = .int (nI dr) := (f_w_50 20 (by decide)).trans (k_drafts_JS)
      have fr_g_51 : frm [47, 51, 32, 45, 49, 11, 20, 36, 37] g g_51 := frm_tr hf_JS f_w_50 (by decide)
      rw [if_pos h0] at w_50_
      obtain ⟨x1, x2⟩ := Prod.mk.inj w_50_
      have hP := hP.sub (ws' := [(mm, .inr (9, fl 78 g_51)), (Mrows, .inl (cB, 32000, .inl mrows)), (Mtab, .inl (cB, 1536, .inl mtab)), (Mnears, .inl (cJ, 8, .inr (.inl mnears))), (Msames, .inl (cJ, 1024, .inr (.inl msames))), (Mout, .inl (cB, 4000, .inl mout)), (MoutFrom, .inl (cI, 4000, .inl moutFrom)), (Msource, .inl (cB, 4000, .inl msource)), (MsourceFrom, .inl (cI, 4000, .inl msourceFrom)), (MdKind, .inl (cI, 4000, .inl mdKind)), (MdSize, .inl (cI, 4000, .inl mdSize)), (MdAddress, .inl (cI, 4000, .inl mdAddress)), (MdMode, .inl (cI, 4000, .inl mdMode)), (MdCode, .inl (cI, 4000, .inl mdCode)), (MdWindow, .inl (cI, 4000, .inl mdWindow))]) [14, 0, 13, 1, 2, 3, 4, 5, 6, 7, 8, 9, 10, 11, 12] rfl
      have hD := hD.sub (ws' := [(mm, .inr (9, fl 78 g_51)), (Mrows, .inl (cB, 32000, .inl mrows)), (Mtab, .inl (cB, 1536, .inl mtab)), (Mnears, .inl (cJ, 8, .inr (.inl mnears))), (Msames, .inl (cJ, 1024, .inr (.inl msames))), (Mout, .inl (cB, 4000, .inl mout)), (MoutFrom, .inl (cI, 4000, .inl moutFrom)), (Msource, .inl (cB, 4000, .inl msource)), (MsourceFrom, .inl (cI, 4000, .inl msourceFrom)), (MdKind, .inl (cI, 4000, .inl mdKind)), (MdSize, .inl (cI, 4000, .inl mdSize)), (MdAddress, .inl (cI, 4000, .inl mdAddress)), (MdMode, .inl (cI, 4000, .inl mdMode)), (MdCode, .inl (cI, 4000, .inl mdCode)), (MdWindow, .inl (cI, 4000, .inl mdWindow))]) [14, 0, 13, 1, 2, 3, 4, 5, 6, 7, 8, 9, 10, 11, 12] (by decide) rfl
      exact hret 82 ls _ _ (g_51, c2, pb, n, da, (nI aa), aa, nx, dr, fu2_52, pl2_53, cnt, cN, cS, B, G, gg, mnears, msames, mout, moutFrom, mdKind, mdSize, mdAddress, mdMode, mdCode, mdWindow) dX9_part_82 hP hD hS (⟨fr_g_51, k47_g_51, k51_g_51, k32_g_51, k45_g_51, k49_g_51, k11_g_51, k20_g_51, fault_w_50, place_w_50, ⟨fun _ => ⟨by rw [x1]; exact by rw [ptF, if_neg hk0, if_neg (fun w => w hz1), if_pos (by rw [hz2]; exact hbig)], x2, rfl, rfl, fun z => (hct z).2.2⟩, fun z => absurd (x1.symm.trans z) (by decide), by rw [x1]; decide, fun _ => rfl⟩⟩)
  refine lv_if_ne (tgt := 53) hx hb dX9_part_13 (by decide) (fun c_55 => ?_) (fun c_55 => ?_)
  · have hz0 : ¬ tt (512 + q * 256 + c) = 0 := fun w => c_55 (by rw [w]; decide)
    exact JS g (tt (512 + q * 256 + c)) cc pa _ _ ls (frm_refl) (g_codeAt) (g_partAt) (g_outSize) (g_dataAt) (g_addressAt) (g_nextNear) (g_drafts) (g_fault) (g_place) (by rw [rdZ, if_neg hz0]) (hca) (Nat.le_refl _) (by omega) (hP.sub [13, 0, 1, 2, 3, 4, 5, 6, 7, 8, 9, 10, 11, 12, 14] rfl) (hD.sub [13, 0, 1, 2, 3, 4, 5, 6, 7, 8, 9, 10, 11, 12, 14] (by decide) rfl) hS (lv_sub hl [1, 2, 3, 4, 0] rfl)
  · have hz0 : tt (512 + q * 256 + c) = 0 := (pk_lEQ (b := 0) (by omega) (by decide)).mp ((lg_cmp_eq _ _).mp c_55)
    refine lv_aload_n hx hb dX9_part_16 rfl (lv_at hl 1 rfl) ?_
    refine lv_aload_n hx hb dX9_part_17 rfl (lv_at hl 1 rfl) ?_
    refine fx_get (D := D) (ci := 9) (v := .int (nI cc)) (C := RX9) (T := TX9) (N := 78) hx hb hts in_X9 hown hK hP 13 rfl rfl 47 (by decide) (hts _ kX9_269) (fun _ h9 => h9) (g_codeAt) dX9_part_18 ?_
    refine lv_aload_n hx hb dX9_part_21 rfl (lv_at hl 1 rfl) ?_
    refine fx_get (D := D) (ci := 9) (v := .int (nI ce)) (C := RX9) (T := TX9) (N := 78) hx hb hts in_X9 hown hK hP 13 rfl rfl 48 (by decide) (hts _ kX9_272) (fun _ h9 => h9) (g_codeEnd) dX9_part_22 ?_
    refine jn_l (wr := [(Mnears, .inl (cJ, 8, .inr (.inl mnears))), (Msames, .inl (cJ, 1024, .inr (.inl msames))), (Mout, .inl (cB, 4000, .inl mout)), (MoutFrom, .inl (cI, 4000, .inl moutFrom)), (Msource, .inl (cB, 4000, .inl msource)), (MsourceFrom, .inl (cI, 4000, .inl msourceFrom)), (MdKind, .inl (cI, 4000, .inl mdKind)), (MdSize, .inl (cI, 4000, .inl mdSize)), (MdAddress, .inl (cI, 4000, .inl mdAddress)), (MdMode, .inl (cI, 4000, .inl mdMode)), (MdCode, .inl (cI, 4000, .inl mdCode)), (MdWindow, .inl (cI, 4000, .inl mdWindow)), (Mtab, .inl (cB, 1536, .inl mtab))]) hA hP hD hS [13, 0] [1, 2, 3, 4, 5, 6, 7, 8, 9, 10, 11, 12, 14] rfl rfl (by decide) (by decide) (rn_V (As := [.int (nI cc), .int (nI ce)]) (rest := []) ⟨hx, hb, hml, hown, hts⟩ (cvV 2 hts zc_yX9_numberIn zi_X9 zm_yX9_numberIn zv_yX9_numberIn kX9_301 (by decide +kernel) rfl rfl ⟨Nat.le_of_ble_eq_true rfl, Nat.le_of_ble_eq_true rfl⟩) (m_numberIn l D cI cB cJ cR mm g Mrows mrows bs pa cc ce b (g_base) (g_partAt) (g_rows) (by omega) (hca) (fun j hj => hob j (by omega)) H.size) hK hNw hMk hA hP hD hS [13, 0] rfl rfl (by decide) 0 rfl rfl rfl rfl hl.1 rfl (Nat.le_of_ble_eq_true rfl) dX9_part_25 ⟨Nat.le_of_ble_eq_true rfl, Nat.le_of_ble_eq_true rfl⟩) (fun rv u9 H locs w_56 hP hD hS => ?_)
    obtain ⟨g_57, pp⟩ := u9
    try dsimp only at w_56
    have hP : va_P D vwCl [(Mnears, .inl (cJ, 8, .inr (.inl mnears))), (Msames, .inl (cJ, 1024, .inr (.inl msames))), (Mout, .inl (cB, 4000, .inl mout)), (MoutFrom, .inl (cI, 4000, .inl moutFrom)), (Msource, .inl (cB, 4000, .inl msource)), (MsourceFrom, .inl (cI, 4000, .inl msourceFrom)), (MdKind, .inl (cI, 4000, .inl mdKind)), (MdSize, .inl (cI, 4000, .inl mdSize)), (MdAddress, .inl (cI, 4000, .inl mdAddress)), (MdMode, .inl (cI, 4000, .inl mdMode)), (MdCode, .inl (cI, 4000, .inl mdCode)), (MdWindow, .inl (cI, 4000, .inl mdWindow)), (Mtab, .inl (cB, 1536, .inl mtab)), (mm, .inr (9, fl 78 g_57)), (Mrows, .inl (cB, 32000, .inl mrows))] H := hP
    have hD : va_D A0 [(Mnears, .inl (cJ, 8, .inr (.inl mnears))), (Msames, .inl (cJ, 1024, .inr (.inl msames))), (Mout, .inl (cB, 4000, .inl mout)), (MoutFrom, .inl (cI, 4000, .inl moutFrom)), (Msource, .inl (cB, 4000, .inl msource)), (MsourceFrom, .inl (cI, 4000, .inl msourceFrom)), (MdKind, .inl (cI, 4000, .inl mdKind)), (MdSize, .inl (cI, 4000, .inl mdSize)), (MdAddress, .inl (cI, 4000, .inl mdAddress)), (MdMode, .inl (cI, 4000, .inl mdMode)), (MdCode, .inl (cI, 4000, .inl mdCode)), (MdWindow, .inl (cI, 4000, .inl mdWindow)), (Mtab, .inl (cB, 1536, .inl mtab)), (mm, .inr (9, fl 78 g_57)), (Mrows, .inl (cB, 32000, .inl mrows))] := hD
    obtain ⟨f_w_56, partAt_w_56, w_56_⟩ := w_56
    have k47_g_57 : g_57 47 = .int (nI cc) := (f_w_56 47 (by decide)).trans (g_codeAt)
    have k48_g_57 : g_57 48 = .int (nI ce) := (f_w_56 48 (by decide)).trans (g_codeEnd)
    have k33_g_57 : g_57 33 = .int (nI bs) := (f_w_56 33 (by decide)).trans (g_base)
    have k32_g_57 : g_57 32 = .int (nI n) := (f_w_56 32 (by decide)).trans (g_outSize)
    have k43_g_57 : g_57 43 = .int (nI ww) := (f_w_56 43 (by decide)).trans (g_begun)
    have k44_g_57 : g_57 44 = .int (nI wl) := (f_w_56 44 (by decide)).trans (g_will)
    have k45_g_57 : g_57 45 = .int (nI da) := (f_w_56 45 (by decide)).trans (g_dataAt)
    have k46_g_57 : g_57 46 = .int (nI de) := (f_w_56 46 (by decide)).trans (g_dataEnd)
    have k49_g_57 : g_57 49 = .int (nI aa) := (f_w_56 49 (by decide)).trans (g_addressAt)
    have k50_g_57 : g_57 50 = .int (nI ae) := (f_w_56 50 (by decide)).trans (g_addressEnd)
    have k8_g_57 : g_57 8 = .int (nI near) := (f_w_56 8 (by decide)).trans (g_near)
    have k9_g_57 : g_57 9 = .int (nI same) := (f_w_56 9 (by decide)).trans (g_same)
    have k11_g_57 : g_57 11 = .int (nI nx) := (f_w_56 11 (by decide)).trans (g_nextNear)
    have k40_g_57 : g_57 40 = .int (nI kk) := (f_w_56 40 (by decide)).trans (g_segment)
    have k41_g_57 : g_57 41 = .int (nI zz) := (f_w_56 41 (by decide)).trans (g_segmentSize)
    have k42_g_57 : g_57 42 = .int (nI ff) := (f_w_56 42 (by decide)).trans (g_segmentAt)
    have k39_g_57 : g_57 39 = .int (bI ct) := (f_w_56 39 (by decide)).trans (g_counts)
    have k38_g_57 : g_57 38 = .int (nI wr) := (f_w_56 38 (by decide)).trans (g_windows)
    have k20_g_57 : g_57 20 = .int (nI dr) := (f_w_56 20 (by decide)).trans (g_drafts)
    have k36_g_57 : g_57 36 = .int (nI fu) := (f_w_56 36 (by decide)).trans (g_fault)
    have k37_g_57 : g_57 37 = .int (nI pl) := (f_w_56 37 (by decide)).trans (g_place)
    have k1_g_57 : g_57 1 = .ref Mrows := (f_w_56 1 (by decide)).trans (g_rows)
    have k7_g_57 : g_57 7 = .ref Mtab := (f_w_56 7 (by decide)).trans (g_tab)
    have k10_g_57 : g_57 10 = .ref Mnears := (f_w_56 10 (by decide)).trans (g_nears)
    have k12_g_57 : g_57 12 = .ref Msames := (f_w_56 12 (by decide)).trans (g_sames)
    have k30_g_57 : g_57 30 = .ref Mout := (f_w_56 30 (by decide)).trans (g_out)
    have k31_g_57 : g_57 31 = .ref MoutFrom := (f_w_56 31 (by decide)).trans (g_outFrom)
    have k27_g_57 : g_57 27 = .ref Msource := (f_w_56 27 (by decide)).trans (g_source)
    have k28_g_57 : g_57 28 = .ref MsourceFrom := (f_w_56 28 (by decide)).trans (g_sourceFrom)
    have k21_g_57 : g_57 21 = .ref MdKind := (f_w_56 21 (by decide)).trans (g_dKind)
    have k22_g_57 : g_57 22 = .ref MdSize := (f_w_56 22 (by decide)).trans (g_dSize)
    have k23_g_57 : g_57 23 = .ref MdAddress := (f_w_56 23 (by decide)).trans (g_dAddress)
    have k24_g_57 : g_57 24 = .ref MdMode := (f_w_56 24 (by decide)).trans (g_dMode)
    have k25_g_57 : g_57 25 = .ref MdCode := (f_w_56 25 (by decide)).trans (g_dCode)
    have k26_g_57 : g_57 26 = .ref MdWindow := (f_w_56 26 (by decide)).trans (g_dWindow)
    have fr_g_57 : frm [47, 51, 32, 45, 49, 11, 20, 36, 37] g g_57 := frm_tr frm_refl f_w_56 (by decide)
    obtain ⟨w1, w2⟩ := w_56_
    by_cases hr0 : (rdN b ce 5 cc 0).1 = 0
    · obtain ⟨y1, y2⟩ := w1 hr0
      subst y1
      subst y2
      have hvb := rdN_ok (b := b) (e := ce) 5 cc 0 hr0
      have hat := rdN_at (b := b) (e := ce) 5 cc 0
      refine lv_lstore (lv' := [(4, .long (lN (rdN b ce 5 cc 0).2.1)), (0, .ref mm), (1, .int (nI c)), (2, .int (nI q)), (3, .int (nI wh))]) hx hb dX9_part_28 hl (by decide) rfl (fun ls hl => ?_)
      refine lv_lload hx hb dX9_part_30 (lv_at hl 0 rfl) ?_
      refine lv_lconst (v := 0) hx hb dX9_part_32 (by decide) ?_
      refine W.lcmp hx hb dX9_part_33 ?_
      refine lv_if_ge (tgt := 45) hx hb dX9_part_34 (by decide) (fun c_58 => ?_) (fun c_58 => absurd ((lg_cmp_ge _ _).mpr ((pk_lLE (a := 0) (by decide) (by omega)).mpr (Nat.zero_le _))) c_58)
      refine lv_aload_n hx hb dX9_part_45 rfl (lv_at hl 1 rfl) ?_
      refine lv_aload_n hx hb dX9_part_46 rfl (lv_at hl 1 rfl) ?_
      refine fx_get (D := D) (ci := 9) (v := .int (nI (rdN b ce 5 cc 0).2.2)) (C := RX9) (T := TX9) (N := 78) hx hb hts in_X9 hown hK hP 13 rfl rfl 51 (by decide) (hts _ kX9_284) (fun _ h9 => h9) (partAt_w_56) dX9_part_47 ?_
      refine fx_put (D := D) (ci := 9) (v := .int (nI (rdN b ce 5 cc 0).2.2)) (ty := .int) (C := RX9) (T := TX9) (N := 78) hx hb hts in_X9 tyX9 tyX9_ok nmX9 hown hK hP hD hS 13 rfl rfl 47 (by decide) (hts _ kX9_269) (fun _ h9 => h9) rfl (by decide +kernel) rfl rfl dX9_part_50 (fun H locs hP hD hS => ?_)
      have hP : va_P D vwCl [(Mnears, .inl (cJ, 8, .inr (.inl mnears))), (Msames, .inl (cJ, 1024, .inr (.inl msames))), (Mout, .inl (cB, 4000, .inl mout)), (MoutFrom, .inl (cI, 4000, .inl moutFrom)), (Msource, .inl (cB, 4000, .inl msource)), (MsourceFrom, .inl (cI, 4000, .inl msourceFrom)), (MdKind, .inl (cI, 4000, .inl mdKind)), (MdSize, .inl (cI, 4000, .inl mdSize)), (MdAddress, .inl (cI, 4000, .inl mdAddress)), (MdMode, .inl (cI, 4000, .inl mdMode)), (MdCode, .inl (cI, 4000, .inl mdCode)), (MdWindow, .inl (cI, 4000, .inl mdWindow)), (Mtab, .inl (cB, 1536, .inl mtab)), (mm, .inr (9, fl 78 (va_up g_57 47 (.int (nI (rdN b ce 5 cc 0).2.2))))), (Mrows, .inl (cB, 32000, .inl mrows))] H := hP
      have hD : va_D A0 [(Mnears, .inl (cJ, 8, .inr (.inl mnears))), (Msames, .inl (cJ, 1024, .inr (.inl msames))), (Mout, .inl (cB, 4000, .inl mout)), (MoutFrom, .inl (cI, 4000, .inl moutFrom)), (Msource, .inl (cB, 4000, .inl msource)), (MsourceFrom, .inl (cI, 4000, .inl msourceFrom)), (MdKind, .inl (cI, 4000, .inl mdKind)), (MdSize, .inl (cI, 4000, .inl mdSize)), (MdAddress, .inl (cI, 4000, .inl mdAddress)), (MdMode, .inl (cI, 4000, .inl mdMode)), (MdCode, .inl (cI, 4000, .inl mdCode)), (MdWindow, .inl (cI, 4000, .inl mdWindow)), (Mtab, .inl (cB, 1536, .inl mtab)), (mm, .inr (9, fl 78 (va_up g_57 47 (.int (nI (rdN b ce 5 cc 0).2.2))))), (Mrows, .inl (cB, 32000, .inl mrows))] := hD
      exact JS (va_up g_57 47 (.int (nI (rdN b ce 5 cc 0).2.2))) (rdN b ce 5 cc 0).2.1 (rdN b ce 5 cc 0).2.2 (nI (rdN b ce 5 cc 0).2.2) _ _ ls ((frm_up fr_g_57 (by decide))) (rfl) (partAt_w_56) (k32_g_57) (k45_g_57) (k49_g_57) (k11_g_57) (k20_g_57) (k36_g_57) (k37_g_57) (by rw [rdZ, if_pos hz0]; exact Prod.ext hr0 rfl) (hat.2.2 hca) (hat.1) (hvb) (hP.sub [13, 14, 0, 1, 2, 3, 4, 5, 6, 7, 8, 9, 10, 11, 12] rfl) (hD.sub [13, 14, 0, 1, 2, 3, 4, 5, 6, 7, 8, 9, 10, 11, 12] (by decide) rfl) hS (lv_sub hl [1, 2, 3, 4, 0] rfl)
    · have y1 := w2 hr0
      subst y1
      refine lv_lstore (lv' := [(4, .long (-1)), (0, .ref mm), (1, .int (nI c)), (2, .int (nI q)), (3, .int (nI wh))]) hx hb dX9_part_28 hl (by decide) rfl (fun ls hl => ?_)
      refine lv_lload hx hb dX9_part_30 (lv_at hl 0 rfl) ?_
      refine lv_lconst (v := 0) hx hb dX9_part_32 (by decide) ?_
      refine W.lcmp hx hb dX9_part_33 ?_
      refine lv_if_ge (tgt := 45) hx hb dX9_part_34 (by decide) (fun c_59 => absurd c_59 (by decide)) (fun c_59 => ?_)
      refine lv_aload_n hx hb dX9_part_37 rfl (lv_at hl 1 rfl) ?_
      refine lv_bipush (v := 11) hx hb dX9_part_38 (by decide) ?_
      refine ri (y := nI 11) (rfl) ?_
      refine lv_iload_n hx hb dX9_part_40 rfl (lv_at hl 4 rfl) ?_
      refine jn_v (wr := [(Mnears, .inl (cJ, 8, .inr (.inl mnears))), (Msames, .inl (cJ, 1024, .inr (.inl msames))), (Mout, .inl (cB, 4000, .inl mout)), (MoutFrom, .inl (cI, 4000, .inl moutFrom)), (Msource, .inl (cB, 4000, .inl msource)), (MsourceFrom, .inl (cI, 4000, .inl msourceFrom)), (MdKind, .inl (cI, 4000, .inl mdKind)), (MdSize, .inl (cI, 4000, .inl mdSize)), (MdAddress, .inl (cI, 4000, .inl mdAddress)), (MdMode, .inl (cI, 4000, .inl mdMode)), (MdCode, .inl (cI, 4000, .inl mdCode)), (MdWindow, .inl (cI, 4000, .inl mdWindow)), (Mtab, .inl (cB, 1536, .inl mtab)), (Mrows, .inl (cB, 32000, .inl mrows))]) hA hP hD hS [13] [0, 1, 2, 3, 4, 5, 6, 7, 8, 9, 10, 11, 12, 14] rfl rfl (by decide) (by decide) (rn_V (As := [.int (nI 11), .int (nI wh)]) (rest := []) ⟨hx, hb, hml, hown, hts⟩ (cvV 2 hts zc_yX9_fail zi_X9 zm_yX9_fail zv_yX9_fail kX9_191 (by decide +kernel) rfl rfl ⟨Nat.le_of_ble_eq_true rfl, Nat.le_of_ble_eq_true rfl⟩) (m_fail l D cI cB cJ cR mm g_57 fu pl 11 wh (k36_g_57) (k37_g_57) (hfl) H.size) hK hNw hMk hA hP hD hS [13] rfl rfl (by decide) 0 rfl rfl rfl rfl hl.1 rfl (Nat.le_of_ble_eq_true rfl) dX9_part_41 ⟨Nat.le_of_ble_eq_true rfl, Nat.le_of_ble_eq_true rfl⟩) (fun u9 H locs w_60 hP hD hS => ?_)
      obtain ⟨g_61, fu2_62, pl2_63⟩ := u9
      try dsimp only at w_60
      have hP : va_P D vwCl [(Mnears, .inl (cJ, 8, .inr (.inl mnears))), (Msames, .inl (cJ, 1024, .inr (.inl msames))), (Mout, .inl (cB, 4000, .inl mout)), (MoutFrom, .inl (cI, 4000, .inl moutFrom)), (Msource, .inl (cB, 4000, .inl msource)), (MsourceFrom, .inl (cI, 4000, .inl msourceFrom)), (MdKind, .inl (cI, 4000, .inl mdKind)), (MdSize, .inl (cI, 4000, .inl mdSize)), (MdAddress, .inl (cI, 4000, .inl mdAddress)), (MdMode, .inl (cI, 4000, .inl mdMode)), (MdCode, .inl (cI, 4000, .inl mdCode)), (MdWindow, .inl (cI, 4000, .inl mdWindow)), (Mtab, .inl (cB, 1536, .inl mtab)), (Mrows, .inl (cB, 32000, .inl mrows)), (mm, .inr (9, fl 78 g_61))] H := hP
      have hD : va_D A0 [(Mnears, .inl (cJ, 8, .inr (.inl mnears))), (Msames, .inl (cJ, 1024, .inr (.inl msames))), (Mout, .inl (cB, 4000, .inl mout)), (MoutFrom, .inl (cI, 4000, .inl moutFrom)), (Msource, .inl (cB, 4000, .inl msource)), (MsourceFrom, .inl (cI, 4000, .inl msourceFrom)), (MdKind, .inl (cI, 4000, .inl mdKind)), (MdSize, .inl (cI, 4000, .inl mdSize)), (MdAddress, .inl (cI, 4000, .inl mdAddress)), (MdMode, .inl (cI, 4000, .inl mdMode)), (MdCode, .inl (cI, 4000, .inl mdCode)), (MdWindow, .inl (cI, 4000, .inl mdWindow)), (Mtab, .inl (cB, 1536, .inl mtab)), (Mrows, .inl (cB, 32000, .inl mrows)), (mm, .inr (9, fl 78 g_61))] := hD
      obtain ⟨f_w_60, fault_w_60, place_w_60, w_60_⟩ := w_60
      have k47_g_61 : g_61 47 = .int (nI cc) := (f_w_60 47 (by decide)).trans (k47_g_57)
      have k48_g_61 : g_61 48 = .int (nI ce) := (f_w_60 48 (by decide)).trans (k48_g_57)
      have k33_g_61 : g_61 33 = .int (nI bs) := (f_w_60 33 (by decide)).trans (k33_g_57)
      have k32_g_61 : g_61 32 = .int (nI n) := (f_w_60 32 (by decide)).trans (k32_g_57)
      have k43_g_61 : g_61 43 = .int (nI ww) := (f_w_60 43 (by decide)).trans (k43_g_57)
      have k44_g_61 : g_61 44 = .int (nI wl) := (f_w_60 44 (by decide)).trans (k44_g_57)
      have k45_g_61 : g_61 45 = .int (nI da) := (f_w_60 45 (by decide)).trans (k45_g_57)
      have k46_g_61 : g_61 46 = .int (nI de) := (f_w_60 46 (by decide)).trans (k46_g_57)
      have k49_g_61 : g_61 49 = .int (nI aa) := (f_w_60 49 (by decide)).trans (k49_g_57)
      have k50_g_61 : g_61 50 = .int (nI ae) := (f_w_60 50 (by decide)).trans (k50_g_57)
      have k8_g_61 : g_61 8 = .int (nI near) := (f_w_60 8 (by decide)).trans (k8_g_57)
      have k9_g_61 : g_61 9 = .int (nI same) := (f_w_60 9 (by decide)).trans (k9_g_57)
      have k11_g_61 : g_61 11 = .int (nI nx) := (f_w_60 11 (by decide)).trans (k11_g_57)
      have k40_g_61 : g_61 40 = .int (nI kk) := (f_w_60 40 (by decide)).trans (k40_g_57)
      have k41_g_61 : g_61 41 = .int (nI zz) := (f_w_60 41 (by decide)).trans (k41_g_57)
      have k42_g_61 : g_61 42 = .int (nI ff) := (f_w_60 42 (by decide)).trans (k42_g_57)
      have k39_g_61 : g_61 39 = .int (bI ct) := (f_w_60 39 (by decide)).trans (k39_g_57)
      have k38_g_61 : g_61 38 = .int (nI wr) := (f_w_60 38 (by decide)).trans (k38_g_57)
      have k20_g_61 : g_61 20 = .int (nI dr) := (f_w_60 20 (by decide)).trans (k20_g_57)
      have k1_g_61 : g_61 1 = .ref Mrows := (f_w_60 1 (by decide)).trans (k1_g_57)
      have k7_g_61 : g_61 7 = .ref Mtab := (f_w_60 7 (by decide)).trans (k7_g_57)
      have k10_g_61 : g_61 10 = .ref Mnears := (f_w_60 10 (by decide)).trans (k10_g_57)
      have k12_g_61 : g_61 12 = .ref Msames := (f_w_60 12 (by decide)).trans (k12_g_57)
      have k30_g_61 : g_61 30 = .ref Mout := (f_w_60 30 (by decide)).trans (k30_g_57)
      have k31_g_61 : g_61 31 = .ref MoutFrom := (f_w_60 31 (by decide)).trans (k31_g_57)
      have k27_g_61 : g_61 27 = .ref Msource := (f_w_60 27 (by decide)).trans (k27_g_57)
      have k28_g_61 : g_61 28 = .ref MsourceFrom := (f_w_60 28 (by decide)).trans (k28_g_57)
      have k21_g_61 : g_61 21 = .ref MdKind := (f_w_60 21 (by decide)).trans (k21_g_57)
      have k22_g_61 : g_61 22 = .ref MdSize := (f_w_60 22 (by decide)).trans (k22_g_57)
      have k23_g_61 : g_61 23 = .ref MdAddress := (f_w_60 23 (by decide)).trans (k23_g_57)
      have k24_g_61 : g_61 24 = .ref MdMode := (f_w_60 24 (by decide)).trans (k24_g_57)
      have k25_g_61 : g_61 25 = .ref MdCode := (f_w_60 25 (by decide)).trans (k25_g_57)
      have k26_g_61 : g_61 26 = .ref MdWindow := (f_w_60 26 (by decide)).trans (k26_g_57)
      have k51_g_61 : g_61 51 = .int pp := (f_w_60 51 (by decide)).trans (partAt_w_56)
      have fr_g_61 : frm [47, 51, 32, 45, 49, 11, 20, 36, 37] g g_61 := frm_tr fr_g_57 f_w_60 (by decide)
      rw [if_pos h0] at w_60_
      obtain ⟨x1, x2⟩ := Prod.mk.inj w_60_
      have hP := hP.sub (ws' := [(mm, .inr (9, fl 78 g_61)), (Mrows, .inl (cB, 32000, .inl mrows)), (Mtab, .inl (cB, 1536, .inl mtab)), (Mnears, .inl (cJ, 8, .inr (.inl mnears))), (Msames, .inl (cJ, 1024, .inr (.inl msames))), (Mout, .inl (cB, 4000, .inl mout)), (MoutFrom, .inl (cI, 4000, .inl moutFrom)), (Msource, .inl (cB, 4000, .inl msource)), (MsourceFrom, .inl (cI, 4000, .inl msourceFrom)), (MdKind, .inl (cI, 4000, .inl mdKind)), (MdSize, .inl (cI, 4000, .inl mdSize)), (MdAddress, .inl (cI, 4000, .inl mdAddress)), (MdMode, .inl (cI, 4000, .inl mdMode)), (MdCode, .inl (cI, 4000, .inl mdCode)), (MdWindow, .inl (cI, 4000, .inl mdWindow))]) [14, 13, 12, 0, 1, 2, 3, 4, 5, 6, 7, 8, 9, 10, 11] rfl
      have hD := hD.sub (ws' := [(mm, .inr (9, fl 78 g_61)), (Mrows, .inl (cB, 32000, .inl mrows)), (Mtab, .inl (cB, 1536, .inl mtab)), (Mnears, .inl (cJ, 8, .inr (.inl mnears))), (Msames, .inl (cJ, 1024, .inr (.inl msames))), (Mout, .inl (cB, 4000, .inl mout)), (MoutFrom, .inl (cI, 4000, .inl moutFrom)), (Msource, .inl (cB, 4000, .inl msource)), (MsourceFrom, .inl (cI, 4000, .inl msourceFrom)), (MdKind, .inl (cI, 4000, .inl mdKind)), (MdSize, .inl (cI, 4000, .inl mdSize)), (MdAddress, .inl (cI, 4000, .inl mdAddress)), (MdMode, .inl (cI, 4000, .inl mdMode)), (MdCode, .inl (cI, 4000, .inl mdCode)), (MdWindow, .inl (cI, 4000, .inl mdWindow))]) [14, 13, 12, 0, 1, 2, 3, 4, 5, 6, 7, 8, 9, 10, 11] (by decide) rfl
      exact hret 44 ls _ _ (g_61, cc, pp, n, da, (nI aa), aa, nx, dr, fu2_62, pl2_63, cnt, cN, cS, B, G, gg, mnears, msames, mout, moutFrom, mdKind, mdSize, mdAddress, mdMode, mdCode, mdWindow) dX9_part_44 hP hD hS (⟨fr_g_61, k47_g_61, k51_g_61, k32_g_61, k45_g_61, k49_g_61, k11_g_61, k20_g_61, fault_w_60, place_w_60, ⟨fun _ => ⟨by rw [x1]; exact by rw [ptF, if_neg hk0, if_pos (by rw [rdZ, if_pos hz0]; exact hr0)], x2, rfl, rfl, fun z => (hct z).2.2⟩, fun z => absurd (x1.symm.trans z) (by decide), by rw [x1]; decide, fun _ => rfl⟩⟩)
