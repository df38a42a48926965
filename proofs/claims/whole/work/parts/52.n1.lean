theorem okR_tbS {b : Nat → Nat} {e : Nat} {s : RS} : okR s (tbS b e s) := by
  have z1 : ∀ s, okR s (tkT1 b e s) := fun s => okR_N.trans (okR_F (by decide))
  have z2 : ∀ s, okR s (tkT2 b e s) := fun s => okR_O.trans (okR_F (by decide))
  have z3 : ∀ s, okR s (tkT3 b e s) := fun s => okR_O.trans (okR_F (by decide))
  have z4 : ∀ n s, okR s (tkT4 e n s) := fun _ s => okR_F (by decide)
  unfold tbS
  exact (((z1 s).trans (z2 _)).trans (z3 _)).trans (z4 _ _)
theorem tbI_pl {b : Nat → Nat} {e a : Nat} (h : (tbI b e a).1 = 0) : (tbI b e a).2.1 = 0 := by
  have hm : ∀ v s, okR s (mk1 b e v s) := fun v s => okR_O.trans (okR_F (by decide))
  have hZ : ∀ s, okR s (tkZ b e s) := fun s => okR_O.trans (okR_F (by decide))
  unfold tbI tkMark at h ⊢
  have h1 := hZ _ h
  have h2 := hm _ _ h1.1
  have h3 := hm _ _ h2.1
  have h4 := hm _ _ h3.1
  have h5 := hm _ _ h4.1
  rw [h1.2, h2.2, h3.2, h4.2, h5.2]
section PL
variable {b : Nat → Nat} {e sn near same M1 : Nat} {tt sB : Nat → Nat} {sG : Nat → Int32}
theorem wdE_pl {pl a wn a4 we de ae : Nat} {m : MS} {R : (Nat × Nat) × YS} (h : (wdE pl a wn m a4 we de ae R).1 = 0) : (wdE pl a wn m a4 we de ae R).2.1 = pl := by
  obtain ⟨⟨f1, p1⟩, ca, da, aa, nx, cN, cS, m3, g3, cnt3⟩ := R
  unfold wdE at h ⊢
  dsimp only at h ⊢
  by_cases q1 : ¬ f1 = 0
  · rw [if_pos q1] at h; exact absurd h q1
  rw [if_neg q1] at h ⊢
  by_cases q2 : m3.2.2 < we
  · rw [if_pos q2] at h; exact absurd (show (16 : Nat) = 0 from h) (by decide)
  rw [if_neg q2] at h ⊢
  by_cases q3 : da < de ∨ aa < ae
  · rw [if_pos q3] at h; exact absurd (show (17 : Nat) = 0 from h) (by decide)
  rw [if_neg q3]
theorem wdF_pl {x : XS} (h : (wdF b e sn M1 near same tt sB sG x).1 = 0) : (wdF b e sn M1 near same tt sB sG x).2.1 = x.2.1 := by
  obtain ⟨fl, pl, a, wn, m, g, cnt⟩ := x
  unfold wdF at h ⊢
  dsimp only at h ⊢
  rcases hS : tkSeg b e sn m.2.2 (0, pl, a) with ⟨⟨k, z, ff⟩, s1⟩
  rw [hS] at h
  dsimp only at h ⊢
  rcases hZ : tkSiz b e (M1 - m.2.2) s1 with ⟨⟨mks, ds, cs, az⟩, fl2, p2, a3⟩
  rw [hZ] at h
  dsimp only at h ⊢
  by_cases q : ¬ fl2 = 0
  · rw [if_pos q] at h; exact absurd h q
  · rw [if_neg q] at h ⊢
    exact wdE_pl h
theorem wdL_pl : ∀ (k : Nat) (x : XS), (wdL b e sn M1 near same tt sB sG k x).1 = 0 → (wdL b e sn M1 near same tt sB sG k x).2.1 = x.2.1
  | 0, _ => fun _ => rfl
  | k + 1, x => fun h => by
    rw [wdL] at h ⊢
    by_cases q : x.1 = 0 ∧ x.2.2.1 < e
    · rw [if_pos q] at h ⊢
      by_cases q2 : (wdF b e sn M1 near same tt sB sG x).1 = 0
      · exact (wdL_pl k _ h).trans (wdF_pl q2)
      · rw [wdL_no (fun z => q2 z.1)] at h; exact absurd h q2
    · rw [if_neg q]
end PL
set_option maxHeartbeats 4000000 in
set_option maxRecDepth 100000 in
theorem m_readTable (l : Launch) (D : va_G) (cI cB cJ cR : ClassId) (mm : Nat) (g : Nat → Value) (Mrows : Nat) (Mtab : Nat) (Mnears : Nat) (Msames : Nat) (Mout : Nat) (MoutFrom : Nat) (Msource : Nat) (MsourceFrom : Nat) (MdKind : Nat) (MdSize : Nat) (MdAddress : Nat) (MdMode : Nat) (MdCode : Nat) (MdWindow : Nat) (Mfirst : Nat) (mrows : Nat → Int32) (mtab : Nat → Int32) (mnears : Nat → Int64) (msames : Nat → Int64) (mout : Nat → Int32) (moutFrom : Nat → Int32) (msource : Nat → Int32) (msourceFrom : Nat → Int32) (mdKind : Nat → Int32) (mdSize : Nat → Int32) (mdAddress : Nat → Int32) (mdMode : Nat → Int32) (mdCode : Nat → Int32) (mdWindow : Nat → Int32) (mfirst : Nat → Int32) (a : Nat) (e : Nat) (bs : Nat) (fu : Nat) (pl : Nat) (wr : Nat) (dr : Nat) (n0 : Nat) (m0_ : Nat) (pa : Int32) (b : Nat → Nat) (g_at : g 34 = .int (nI a)) (g_end : g 35 = .int (nI e)) (g_base : g 33 = .int (nI bs)) (g_fault : g 36 = .int (nI fu)) (g_place : g 37 = .int (nI pl)) (g_windows : g 38 = .int (nI wr)) (g_drafts : g 20 = .int (nI dr)) (g_counts : g 39 = .int (bI true)) (g_partAt : g 51 = .int pa) (g_near : g 8 = .int (nI n0)) (g_same : g 9 = .int (nI m0_)) (g_rows : g 1 = .ref Mrows) (g_tab : g 7 = .ref Mtab) (g_nears : g 10 = .ref Mnears) (g_sames : g 12 = .ref Msames) (g_out : g 30 = .ref Mout) (g_outFrom : g 31 = .ref MoutFrom) (g_source : g 27 = .ref Msource) (g_sourceFrom : g 28 = .ref MsourceFrom) (g_dKind : g 21 = .ref MdKind) (g_dSize : g 22 = .ref MdSize) (g_dAddress : g 23 = .ref MdAddress) (g_dMode : g 24 = .ref MdMode) (g_dCode : g 25 = .ref MdCode) (g_dWindow : g 26 = .ref MdWindow) (g_first : g 3 = .ref Mfirst) (he9 : bs + e ≤ 32000) (he8 : e ≤ 8000) (hae : a ≤ e) (hob : ∀ j, j < e → mrows (bs + j) = s8 (b j) ∧ b j < 256) (h0 : fu = 0) (hpl : pl = 0) (hft : bys mfirst firstT 1536) (hwr : wr < 2 ^ 25) : CMv l yX9_readTable cX9_readTable 10 none ({ frames := 6, cells := 0, slots := 0, locals := 161 }) D (tyA cI cB cJ cR) 0 0 [.ref mm] [(mm, .inr (9, fl 78 g)), (Mrows, .inl (cB, 32000, .inl mrows)), (Mtab, .inl (cB, 1536, .inl mtab)), (Mnears, .inl (cJ, 8, .inr (.inl mnears))), (Msames, .inl (cJ, 1024, .inr (.inl msames))), (Mout, .inl (cB, 4000, .inl mout)), (MoutFrom, .inl (cI, 4000, .inl moutFrom)), (Msource, .inl (cB, 4000, .inl msource)), (MsourceFrom, .inl (cI, 4000, .inl msourceFrom)), (MdKind, .inl (cI, 4000, .inl mdKind)), (MdSize, .inl (cI, 4000, .inl mdSize)), (MdAddress, .inl (cI, 4000, .inl mdAddress)), (MdMode, .inl (cI, 4000, .inl mdMode)), (MdCode, .inl (cI, 4000, .inl mdCode)), (MdWindow, .inl (cI, 4000, .inl mdWindow)), (Mfirst, .inl (cB, 1536, .inl mfirst))] (fun (u9 : (Nat → Value) × Nat × Nat × Nat × Nat × Int32 × Nat × Nat × Nat × (Nat → Int32) × (Nat → Int64) × (Nat → Int64) × (Nat → Int32) × (Nat → Int32) × (Nat → Int32) × (Nat → Int32) × (Nat → Int32) × (Nat → Int32) × (Nat → Int32) × (Nat → Int32) × (Nat → Int32) × (Nat → Int32)) => match u9 with | (g9, a2, e2, fu2, pl2, pa2, nr2, sm2, ax, t2, fn2, fs2, o2, of2, s2, sf2, dKind2, dSize2, dAddress2, dMode2, dCode2, dWindow2) => frm [34, 35, 36, 37, 51, 8, 9, 39, 38, 20, 32, 29, 40, 41, 42, 43, 44, 45, 46, 47, 48, 49, 50, 11] g g9 ∧ g9 34 = .int (nI a2) ∧ g9 35 = .int (nI e2) ∧ g9 36 = .int (nI fu2) ∧ g9 37 = .int (nI pl2) ∧ g9 51 = .int pa2 ∧ g9 8 = .int (nI nr2) ∧ g9 9 = .int (nI sm2) ∧ g9 39 = .int (bI true) ∧ g9 38 = .int (nI wr) ∧ g9 20 = .int (nI dr) ∧ tbE b e (fu, pl, a) = (fu2, pl2, ax) ∧ fu2 < 2 ^ 31 ∧ (fu2 = 0 → a2 = ax ∧ e2 = e ∧ ax ≤ e ∧ nr2 = tbN b e (fu, pl, a) ∧ sm2 = tbM b e (fu, pl, a) ∧ nr2 ≤ 8 ∧ sm2 ≤ 4 ∧ bys t2 (tbR b e (fu, pl, a)).2.2.2.2.1.1 1536 ∧ rightP (tbR b e (fu, pl, a)).2.2.2.2.1.1 (nr2 + sm2 + 2) 512)) (fun (u9 : (Nat → Value) × Nat × Nat × Nat × Nat × Int32 × Nat × Nat × Nat × (Nat → Int32) × (Nat → Int64) × (Nat → Int64) × (Nat → Int32) × (Nat → Int32) × (Nat → Int32) × (Nat → Int32) × (Nat → Int32) × (Nat → Int32) × (Nat → Int32) × (Nat → Int32) × (Nat → Int32) × (Nat → Int32)) => match u9 with | (g9, a2, e2, fu2, pl2, pa2, nr2, sm2, ax, t2, fn2, fs2, o2, of2, s2, sf2, dKind2, dSize2, dAddress2, dMode2, dCode2, dWindow2) => [(mm, .inr (9, fl 78 g9)), (Mrows, .inl (cB, 32000, .inl mrows)), (Mtab, .inl (cB, 1536, .inl t2)), (Mnears, .inl (cJ, 8, .inr (.inl fn2))), (Msames, .inl (cJ, 1024, .inr (.inl fs2))), (Mout, .inl (cB, 4000, .inl o2)), (MoutFrom, .inl (cI, 4000, .inl of2)), (Msource, .inl (cB, 4000, .inl s2)), (MsourceFrom, .inl (cI, 4000, .inl sf2)), (MdKind, .inl (cI, 4000, .inl dKind2)), (MdSize, .inl (cI, 4000, .inl dSize2)), (MdAddress, .inl (cI, 4000, .inl dAddress2)), (MdMode, .inl (cI, 4000, .inl dMode2)), (MdCode, .inl (cI, 4000, .inl dCode2)), (MdWindow, .inl (cI, 4000, .inl dWindow2)), (Mfirst, .inl (cB, 1536, .inl mfirst))]) := by
  refine st_v (cc := cX9_readTable) (maxL := 10) (by decide) (Nat.le_of_ble_eq_true rfl) ?_
  intro p0 e0 s0 m0 below meth c0 A0 Q0 hBD hret hP hD hS ls hl
  obtain ⟨hx, hb, hml, hown, hts, hnm, hK, hNw, hMk, hA⟩ := hBD
  have hl : lv_has ls 10 [(0, .ref mm)] := hl
  have hP : va_P D vwCl [(mm, .inr (9, fl 78 g)), (Mrows, .inl (cB, 32000, .inl mrows)), (Mtab, .inl (cB, 1536, .inl mtab)), (Mnears, .inl (cJ, 8, .inr (.inl mnears))), (Msames, .inl (cJ, 1024, .inr (.inl msames))), (Mout, .inl (cB, 4000, .inl mout)), (MoutFrom, .inl (cI, 4000, .inl moutFrom)), (Msource, .inl (cB, 4000, .inl msource)), (MsourceFrom, .inl (cI, 4000, .inl msourceFrom)), (MdKind, .inl (cI, 4000, .inl mdKind)), (MdSize, .inl (cI, 4000, .inl mdSize)), (MdAddress, .inl (cI, 4000, .inl mdAddress)), (MdMode, .inl (cI, 4000, .inl mdMode)), (MdCode, .inl (cI, 4000, .inl mdCode)), (MdWindow, .inl (cI, 4000, .inl mdWindow)), (Mfirst, .inl (cB, 1536, .inl mfirst))] s0.heap := hP
  have hD : va_D A0 [(mm, .inr (9, fl 78 g)), (Mrows, .inl (cB, 32000, .inl mrows)), (Mtab, .inl (cB, 1536, .inl mtab)), (Mnears, .inl (cJ, 8, .inr (.inl mnears))), (Msames, .inl (cJ, 1024, .inr (.inl msames))), (Mout, .inl (cB, 4000, .inl mout)), (MoutFrom, .inl (cI, 4000, .inl moutFrom)), (Msource, .inl (cB, 4000, .inl msource)), (MsourceFrom, .inl (cI, 4000, .inl msourceFrom)), (MdKind, .inl (cI, 4000, .inl mdKind)), (MdSize, .inl (cI, 4000, .inl mdSize)), (MdAddress, .inl (cI, 4000, .inl mdAddress)), (MdMode, .inl (cI, 4000, .inl mdMode)), (MdCode, .inl (cI, 4000, .inl mdCode)), (MdWindow, .inl (cI, 4000, .inl mdWindow)), (Mfirst, .inl (cB, 1536, .inl mfirst))] := hD
  have hfl : fu < 2 ^ 31 := by omega
  have hb9 : ∀ j, j < e → b j < 256 := fun j hj => (hob j hj).2
  refine lv_aload_n hx hb dX9_readTable_0 rfl (lv_at hl 0 rfl) ?_
  refine fx_get (D := D) (ci := 9) (v := .int (nI a)) (C := RX9) (T := TX9) (N := 78) hx hb hts in_X9 hown hK hP 0 rfl rfl 34 (by decide) (hts _ kX9_185) (fun _ h9 => h9) (g_at) dX9_readTable_1 ?_
  refine lv_istore_n (lv' := [(1, .int (nI a)), (0, .ref mm)]) hx hb dX9_readTable_4 rfl hl (by decide) rfl (fun ls hl => ?_)
  refine lv_aload_n hx hb dX9_readTable_5 rfl (lv_at hl 1 rfl) ?_
  refine jn_l (wr := [(Mtab, .inl (cB, 1536, .inl mtab)), (Mnears, .inl (cJ, 8, .inr (.inl mnears))), (Msames, .inl (cJ, 1024, .inr (.inl msames))), (Mout, .inl (cB, 4000, .inl mout)), (MoutFrom, .inl (cI, 4000, .inl moutFrom)), (Msource, .inl (cB, 4000, .inl msource)), (MsourceFrom, .inl (cI, 4000, .inl msourceFrom)), (MdKind, .inl (cI, 4000, .inl mdKind)), (MdSize, .inl (cI, 4000, .inl mdSize)), (MdAddress, .inl (cI, 4000, .inl mdAddress)), (MdMode, .inl (cI, 4000, .inl mdMode)), (MdCode, .inl (cI, 4000, .inl mdCode)), (MdWindow, .inl (cI, 4000, .inl mdWindow)), (Mfirst, .inl (cB, 1536, .inl mfirst))]) hA hP hD hS [0, 1] [2, 3, 4, 5, 6, 7, 8, 9, 10, 11, 12, 13, 14, 15] rfl rfl (by decide) (by decide) (rn_V (As := []) (rest := []) ⟨hx, hb, hml, hown, hts⟩ (cvV 0 hts zc_yX9_number zi_X9 zm_yX9_number zv_yX9_number kX9_207 (by decide +kernel) rfl rfl ⟨Nat.le_of_ble_eq_true rfl, Nat.le_of_ble_eq_true rfl⟩) (m_number l D cI cB cJ cR mm g Mrows mrows fu pl a e bs b (g_fault) (g_place) (g_at) (g_end) (g_base) (g_rows) (hfl) (he9) (hae) (hob) s0.heap.size) hK hNw hMk hA hP hD hS [0, 1] rfl rfl (by decide) 0 rfl rfl rfl rfl hl.1 rfl (Nat.le_of_ble_eq_true rfl) dX9_readTable_6 ⟨Nat.le_of_ble_eq_true rfl, Nat.le_of_ble_eq_true rfl⟩) (fun r_1 u9 H locs ht_1 hP hD hS => ?_)
  obtain ⟨g_1, v_1, fu_1, pl_1, a_1⟩ := u9
  try dsimp only at ht_1
  have hP : va_P D vwCl [(Mtab, .inl (cB, 1536, .inl mtab)), (Mnears, .inl (cJ, 8, .inr (.inl mnears))), (Msames, .inl (cJ, 1024, .inr (.inl msames))), (Mout, .inl (cB, 4000, .inl mout)), (MoutFrom, .inl (cI, 4000, .inl moutFrom)), (Msource, .inl (cB, 4000, .inl msource)), (MsourceFrom, .inl (cI, 4000, .inl msourceFrom)), (MdKind, .inl (cI, 4000, .inl mdKind)), (MdSize, .inl (cI, 4000, .inl mdSize)), (MdAddress, .inl (cI, 4000, .inl mdAddress)), (MdMode, .inl (cI, 4000, .inl mdMode)), (MdCode, .inl (cI, 4000, .inl mdCode)), (MdWindow, .inl (cI, 4000, .inl mdWindow)), (Mfirst, .inl (cB, 1536, .inl mfirst)), (mm, .inr (9, fl 78 g_1)), (Mrows, .inl (cB, 32000, .inl mrows))] H := hP
  have hD : va_D A0 [(Mtab, .inl (cB, 1536, .inl mtab)), (Mnears, .inl (cJ, 8, .inr (.inl mnears))), (Msames, .inl (cJ, 1024, .inr (.inl msames))), (Mout, .inl (cB, 4000, .inl mout)), (MoutFrom, .inl (cI, 4000, .inl moutFrom)), (Msource, .inl (cB, 4000, .inl msource)), (MsourceFrom, .inl (cI, 4000, .inl msourceFrom)), (MdKind, .inl (cI, 4000, .inl mdKind)), (MdSize, .inl (cI, 4000, .inl mdSize)), (MdAddress, .inl (cI, 4000, .inl mdAddress)), (MdMode, .inl (cI, 4000, .inl mdMode)), (MdCode, .inl (cI, 4000, .inl mdCode)), (MdWindow, .inl (cI, 4000, .inl mdWindow)), (Mfirst, .inl (cB, 1536, .inl mfirst)), (mm, .inr (9, fl 78 g_1)), (Mrows, .inl (cB, 32000, .inl mrows))] := hD
  obtain ⟨f_ht_1, fault_ht_1, place_ht_1, at_ht_1, ht_1_⟩ := ht_1
  have k35_g_1 : g_1 35 = .int (nI e) := (f_ht_1 35 (by decide)).trans (g_end)
  have k33_g_1 : g_1 33 = .int (nI bs) := (f_ht_1 33 (by decide)).trans (g_base)
  have k38_g_1 : g_1 38 = .int (nI wr) := (f_ht_1 38 (by decide)).trans (g_windows)
  have k20_g_1 : g_1 20 = .int (nI dr) := (f_ht_1 20 (by decide)).trans (g_drafts)
  have k39_g_1 : g_1 39 = .int (bI true) := (f_ht_1 39 (by decide)).trans (g_counts)
  have k51_g_1 : g_1 51 = .int pa := (f_ht_1 51 (by decide)).trans (g_partAt)
  have k8_g_1 : g_1 8 = .int (nI n0) := (f_ht_1 8 (by decide)).trans (g_near)
  have k9_g_1 : g_1 9 = .int (nI m0_) := (f_ht_1 9 (by decide)).trans (g_same)
  have k1_g_1 : g_1 1 = .ref Mrows := (f_ht_1 1 (by decide)).trans (g_rows)
  have k7_g_1 : g_1 7 = .ref Mtab := (f_ht_1 7 (by decide)).trans (g_tab)
  have k10_g_1 : g_1 10 = .ref Mnears := (f_ht_1 10 (by decide)).trans (g_nears)
  have k12_g_1 : g_1 12 = .ref Msames := (f_ht_1 12 (by decide)).trans (g_sames)
  have k30_g_1 : g_1 30 = .ref Mout := (f_ht_1 30 (by decide)).trans (g_out)
  have k31_g_1 : g_1 31 = .ref MoutFrom := (f_ht_1 31 (by decide)).trans (g_outFrom)
  have k27_g_1 : g_1 27 = .ref Msource := (f_ht_1 27 (by decide)).trans (g_source)
  have k28_g_1 : g_1 28 = .ref MsourceFrom := (f_ht_1 28 (by decide)).trans (g_sourceFrom)
  have k21_g_1 : g_1 21 = .ref MdKind := (f_ht_1 21 (by decide)).trans (g_dKind)
  have k22_g_1 : g_1 22 = .ref MdSize := (f_ht_1 22 (by decide)).trans (g_dSize)
  have k23_g_1 : g_1 23 = .ref MdAddress := (f_ht_1 23 (by decide)).trans (g_dAddress)
  have k24_g_1 : g_1 24 = .ref MdMode := (f_ht_1 24 (by decide)).trans (g_dMode)
  have k25_g_1 : g_1 25 = .ref MdCode := (f_ht_1 25 (by decide)).trans (g_dCode)
  have k26_g_1 : g_1 26 = .ref MdWindow := (f_ht_1 26 (by decide)).trans (g_dWindow)
  have k3_g_1 : g_1 3 = .ref Mfirst := (f_ht_1 3 (by decide)).trans (g_first)
  have fr_g_1 : frm [34, 35, 36, 37, 51, 8, 9, 39, 38, 20, 32, 29, 40, 41, 42, 43, 44, 45, 46, 47, 48, 49, 50, 11] g g_1 := frm_tr frm_refl f_ht_1 (by decide)
  obtain ⟨hq_1, hr_1, hf_1, hg_1, ha_1, hv_1⟩ := ht_1_
  have bk_1 : fu_1 = 0 → fu = 0 := fun z => ((okR_N (b := b) (e := e) (s := (fu, pl, a))) (by rw [hq_1]; exact z)).1
  refine lv_lstore_n (lv' := [(2, .long r_1), (1, .int (nI a)), (0, .ref mm)]) hx hb dX9_readTable_9 rfl hl (by decide) rfl (fun ls hl => ?_)
  have G2 : ∀ (gj_G2 : Nat → Value) (fu_2 : Nat) (pl_2 : Nat) (H : Heap) (locs : List Loc) (ls : Array Slot), (frm [34, 35, 36, 37, 51, 8, 9, 39, 38, 20, 32, 29, 40, 41, 42, 43, 44, 45, 46, 47, 48, 49, 50, 11] g gj_G2) → (gj_G2 35 = .int (nI e)) → (gj_G2 38 = .int (nI wr)) → (gj_G2 20 = .int (nI dr)) → (gj_G2 39 = .int (bI true)) → (gj_G2 51 = .int pa) → (gj_G2 8 = .int (nI n0)) → (gj_G2 9 = .int (nI m0_)) → (gj_G2 36 = .int (nI fu_2)) → (gj_G2 37 = .int (nI pl_2)) → (gj_G2 34 = .int (nI a_1)) → (flI (v_1 < 2) 18 a (fu_1, pl_1, a_1) = (fu_2, pl_2, a_1)) → (fu_2 < 2 ^ 31) → va_P D vwCl [(mm, .inr (9, fl 78 gj_G2)), (Mtab, .inl (cB, 1536, .inl mtab)), (Mnears, .inl (cJ, 8, .inr (.inl mnears))), (Msames, .inl (cJ, 1024, .inr (.inl msames))), (Mout, .inl (cB, 4000, .inl mout)), (MoutFrom, .inl (cI, 4000, .inl moutFrom)), (Msource, .inl (cB, 4000, .inl msource)), (MsourceFrom, .inl (cI, 4000, .inl msourceFrom)), (MdKind, .inl (cI, 4000, .inl mdKind)), (MdSize, .inl (cI, 4000, .inl mdSize)), (MdAddress, .inl (cI, 4000, .inl mdAddress)), (MdMode, .inl (cI, 4000, .inl mdMode)), (MdCode, .inl (cI, 4000, .inl mdCode)), (MdWindow, .inl (cI, 4000, .inl mdWindow)), (Mfirst, .inl (cB, 1536, .inl mfirst)), (Mrows, .inl (cB, 32000, .inl mrows))] H → va_D A0 [(mm, .inr (9, fl 78 gj_G2)), (Mtab, .inl (cB, 1536, .inl mtab)), (Mnears, .inl (cJ, 8, .inr (.inl mnears))), (Msames, .inl (cJ, 1024, .inr (.inl msames))), (Mout, .inl (cB, 4000, .inl mout)), (MoutFrom, .inl (cI, 4000, .inl moutFrom)), (Msource, .inl (cB, 4000, .inl msource)), (MsourceFrom, .inl (cI, 4000, .inl msourceFrom)), (MdKind, .inl (cI, 4000, .inl mdKind)), (MdSize, .inl (cI, 4000, .inl mdSize)), (MdAddress, .inl (cI, 4000, .inl mdAddress)), (MdMode, .inl (cI, 4000, .inl mdMode)), (MdCode, .inl (cI, 4000, .inl mdCode)), (MdWindow, .inl (cI, 4000, .inl mdWindow)), (Mfirst, .inl (cB, 1536, .inl mfirst)), (Mrows, .inl (cB, 32000, .inl mrows))] → va_S A0 s0.heap H locs → lv_has ls 10 [(2, .long r_1), (1, .int (nI a)), (0, .ref mm)] → W p0 l e0 ({ frames := 6, cells := 0, slots := 0, locals := 161 }) s0 m0 ([.ref mm] : List Value).toArray below meth c0 H locs 0 0 Q0 (F0 m0 32 ls []) := by
    intro gj_G2 fu_2 pl_2 H locs ls hf_G2 k_end_G2 k_windows_G2 k_drafts_G2 k_counts_G2 k_partAt_G2 k_near_G2 k_same_G2 k_fault_G2 k_place_G2 k_at_G2 hq_2 hf_2 hP hD hS hl
    have bk_2 : fu_2 = 0 → fu_1 = 0 := fun z => ((okR_F (c := v_1 < 2) (k := 18) (w := a) (s := (fu_1, pl_1, a_1)) (by decide)) (by rw [hq_2]; exact z)).1
    have hT1 : tkT1 b e (fu, pl, a) = (fu_2, pl_2, a_1) := by rw [tkT1, hq_1]; exact hq_2
    refine lv_aload_n hx hb dX9_readTable_32 rfl (lv_at hl 2 rfl) ?_
    refine fx_get (D := D) (ci := 9) (v := .int (nI a_1)) (C := RX9) (T := TX9) (N := 78) hx hb hts in_X9 hown hK hP 0 rfl rfl 34 (by decide) (hts _ kX9_185) (fun _ h9 => h9) (k_at_G2) dX9_readTable_33 ?_
    refine lv_istore_n (lv' := [(1, .int (nI a_1)), (2, .long r_1), (0, .ref mm)]) hx hb dX9_readTable_36 rfl hl (by decide) rfl (fun ls hl => ?_)
    refine lv_aload_n hx hb dX9_readTable_37 rfl (lv_at hl 2 rfl) ?_
    refine jn_i (wr := [(Mtab, .inl (cB, 1536, .inl mtab)), (Mnears, .inl (cJ, 8, .inr (.inl mnears))), (Msames, .inl (cJ, 1024, .inr (.inl msames))), (Mout, .inl (cB, 4000, .inl mout)), (MoutFrom, .inl (cI, 4000, .inl moutFrom)), (Msource, .inl (cB, 4000, .inl msource)), (MsourceFrom, .inl (cI, 4000, .inl msourceFrom)), (MdKind, .inl (cI, 4000, .inl mdKind)), (MdSize, .inl (cI, 4000, .inl mdSize)), (MdAddress, .inl (cI, 4000, .inl mdAddress)), (MdMode, .inl (cI, 4000, .inl mdMode)), (MdCode, .inl (cI, 4000, .inl mdCode)), (MdWindow, .inl (cI, 4000, .inl mdWindow)), (Mfirst, .inl (cB, 1536, .inl mfirst))]) hA hP hD hS [0, 15] [1, 2, 3, 4, 5, 6, 7, 8, 9, 10, 11, 12, 13, 14] rfl rfl (by decide) (by decide) (rn_V (As := []) (rest := []) ⟨hx, hb, hml, hown, hts⟩ (cvV 0 hts zc_yX9_take zi_X9 zm_yX9_take zv_yX9_take kX9_198 (by decide +kernel) rfl rfl ⟨Nat.le_of_ble_eq_true rfl, Nat.le_of_ble_eq_true rfl⟩) (m_take l D cI cB cJ cR mm gj_G2 Mrows mrows fu_2 pl_2 a_1 e bs b (k_fault_G2) (k_place_G2) (k_at_G2) (k_end_G2) ((hf_G2 33 (by decide)).trans g_base) ((hf_G2 1 (by decide)).trans g_rows) (hf_2) (he9) (ha_1) (hob) H.size) hK hNw hMk hA hP hD hS [0, 15] rfl rfl (by decide) 0 rfl rfl rfl rfl hl.1 rfl (Nat.le_of_ble_eq_true rfl) dX9_readTable_38 ⟨Nat.le_of_ble_eq_true rfl, Nat.le_of_ble_eq_true rfl⟩) (fun rt_3 u9 H locs ht_3 hP hD hS => ?_)
    obtain ⟨g_2, v_3, fu_3, pl_3, a_3⟩ := u9
    try dsimp only at ht_3
    have hP : va_P D vwCl [(Mtab, .inl (cB, 1536, .inl mtab)), (Mnears, .inl (cJ, 8, .inr (.inl mnears))), (Msames, .inl (cJ, 1024, .inr (.inl msames))), (Mout, .inl (cB, 4000, .inl mout)), (MoutFrom, .inl (cI, 4000, .inl moutFrom)), (Msource, .inl (cB, 4000, .inl msource)), (MsourceFrom, .inl (cI, 4000, .inl msourceFrom)), (MdKind, .inl (cI, 4000, .inl mdKind)), (MdSize, .inl (cI, 4000, .inl mdSize)), (MdAddress, .inl (cI, 4000, .inl mdAddress)), (MdMode, .inl (cI, 4000, .inl mdMode)), (MdCode, .inl (cI, 4000, .inl mdCode)), (MdWindow, .inl (cI, 4000, .inl mdWindow)), (Mfirst, .inl (cB, 1536, .inl mfirst)), (mm, .inr (9, fl 78 g_2)), (Mrows, .inl (cB, 32000, .inl mrows))] H := hP
    have hD : va_D A0 [(Mtab, .inl (cB, 1536, .inl mtab)), (Mnears, .inl (cJ, 8, .inr (.inl mnears))), (Msames, .inl (cJ, 1024, .inr (.inl msames))), (Mout, .inl (cB, 4000, .inl mout)), (MoutFrom, .inl (cI, 4000, .inl moutFrom)), (Msource, .inl (cB, 4000, .inl msource)), (MsourceFrom, .inl (cI, 4000, .inl msourceFrom)), (MdKind, .inl (cI, 4000, .inl mdKind)), (MdSize, .inl (cI, 4000, .inl mdSize)), (MdAddress, .inl (cI, 4000, .inl mdAddress)), (MdMode, .inl (cI, 4000, .inl mdMode)), (MdCode, .inl (cI, 4000, .inl mdCode)), (MdWindow, .inl (cI, 4000, .inl mdWindow)), (Mfirst, .inl (cB, 1536, .inl mfirst)), (mm, .inr (9, fl 78 g_2)), (Mrows, .inl (cB, 32000, .inl mrows))] := hD
    obtain ⟨f_ht_3, fault_ht_3, place_ht_3, at_ht_3, ht_3_⟩ := ht_3
    have k33_g_2 : g_2 33 = .int (nI bs) := (f_ht_3 33 (by decide)).trans ((hf_G2 33 (by decide)).trans g_base)
    have k1_g_2 : g_2 1 = .ref Mrows := (f_ht_3 1 (by decide)).trans ((hf_G2 1 (by decide)).trans g_rows)
    have k7_g_2 : g_2 7 = .ref Mtab := (f_ht_3 7 (by decide)).trans ((hf_G2 7 (by decide)).trans g_tab)
    have k10_g_2 : g_2 10 = .ref Mnears := (f_ht_3 10 (by decide)).trans ((hf_G2 10 (by decide)).trans g_nears)
    have k12_g_2 : g_2 12 = .ref Msames := (f_ht_3 12 (by decide)).trans ((hf_G2 12 (by decide)).trans g_sames)
    have k30_g_2 : g_2 30 = .ref Mout := (f_ht_3 30 (by decide)).trans ((hf_G2 30 (by decide)).trans g_out)
    have k31_g_2 : g_2 31 = .ref MoutFrom := (f_ht_3 31 (by decide)).trans ((hf_G2 31 (by decide)).trans g_outFrom)
    have k27_g_2 : g_2 27 = .ref Msource := (f_ht_3 27 (by decide)).trans ((hf_G2 27 (by decide)).trans g_source)
    have k28_g_2 : g_2 28 = .ref MsourceFrom := (f_ht_3 28 (by decide)).trans ((hf_G2 28 (by decide)).trans g_sourceFrom)
    have k21_g_2 : g_2 21 = .ref MdKind := (f_ht_3 21 (by decide)).trans ((hf_G2 21 (by decide)).trans g_dKind)
    have k22_g_2 : g_2 22 = .ref MdSize := (f_ht_3 22 (by decide)).trans ((hf_G2 22 (by decide)).trans g_dSize)
    have k23_g_2 : g_2 23 = .ref MdAddress := (f_ht_3 23 (by decide)).trans ((hf_G2 23 (by decide)).trans g_dAddress)
    have k24_g_2 : g_2 24 = .ref MdMode := (f_ht_3 24 (by decide)).trans ((hf_G2 24 (by decide)).trans g_dMode)
    have k25_g_2 : g_2 25 = .ref MdCode := (f_ht_3 25 (by decide)).trans ((hf_G2 25 (by decide)).trans g_dCode)
    have k26_g_2 : g_2 26 = .ref MdWindow := (f_ht_3 26 (by decide)).trans ((hf_G2 26 (by decide)).trans g_dWindow)
    have k3_g_2 : g_2 3 = .ref Mfirst := (f_ht_3 3 (by decide)).trans ((hf_G2 3 (by decide)).trans g_first)
    have k35_g_2 : g_2 35 = .int (nI e) := (f_ht_3 35 (by decide)).trans (k_end_G2)
    have k38_g_2 : g_2 38 = .int (nI wr) := (f_ht_3 38 (by decide)).trans (k_windows_G2)
    have k20_g_2 : g_2 20 = .int (nI dr) := (f_ht_3 20 (by decide)).trans (k_drafts_G2)
    have k39_g_2 : g_2 39 = .int (bI true) := (f_ht_3 39 (by decide)).trans (k_counts_G2)
    have k51_g_2 : g_2 51 = .int pa := (f_ht_3 51 (by decide)).trans (k_partAt_G2)
    have k8_g_2 : g_2 8 = .int (nI n0) := (f_ht_3 8 (by decide)).trans (k_near_G2)
    have k9_g_2 : g_2 9 = .int (nI m0_) := (f_ht_3 9 (by decide)).trans (k_same_G2)
    have fr_g_2 : frm [34, 35, 36, 37, 51, 8, 9, 39, 38, 20, 32, 29, 40, 41, 42, 43, 44, 45, 46, 47, 48, 49, 50, 11] g g_2 := frm_tr hf_G2 f_ht_3 (by decide)
    obtain ⟨hr_3, hq_3, hf_3, hg_3, ha_3, hv_3⟩ := ht_3_
    subst hr_3
    have bk_3 : fu_3 = 0 → fu_2 = 0 := fun z => ((okR_O (b := b) (e := e) (s := (fu_2, pl_2, a_1))) (by rw [hq_3]; exact z)).1
    refine lv_istore (lv' := [(4, .int (nI v_3)), (1, .int (nI a_1)), (2, .long r_1), (0, .ref mm)]) hx hb dX9_readTable_41 hl (by decide) rfl (fun ls hl => ?_)
    have G4 : ∀ (gj_G4 : Nat → Value) (fu_4 : Nat) (pl_4 : Nat) (H : Heap) (locs : List Loc) (ls : Array Slot), (frm [34, 35, 36, 37, 51, 8, 9, 39, 38, 20, 32, 29, 40, 41, 42, 43, 44, 45, 46, 47, 48, 49, 50, 11] g gj_G4) → (gj_G4 35 = .int (nI e)) → (gj_G4 38 = .int (nI wr)) → (gj_G4 20 = .int (nI dr)) → (gj_G4 39 = .int (bI true)) → (gj_G4 51 = .int pa) → (gj_G4 8 = .int (nI n0)) → (gj_G4 9 = .int (nI m0_)) → (gj_G4 36 = .int (nI fu_4)) → (gj_G4 37 = .int (nI pl_4)) → (gj_G4 34 = .int (nI a_3)) → (flI (8 < v_3) 18 a_1 (fu_3, pl_3, a_3) = (fu_4, pl_4, a_3)) → (fu_4 < 2 ^ 31) → va_P D vwCl [(mm, .inr (9, fl 78 gj_G4)), (Mtab, .inl (cB, 1536, .inl mtab)), (Mnears, .inl (cJ, 8, .inr (.inl mnears))), (Msames, .inl (cJ, 1024, .inr (.inl msames))), (Mout, .inl (cB, 4000, .inl mout)), (MoutFrom, .inl (cI, 4000, .inl moutFrom)), (Msource, .inl (cB, 4000, .inl msource)), (MsourceFrom, .inl (cI, 4000, .inl msourceFrom)), (MdKind, .inl (cI, 4000, .inl mdKind)), (MdSize, .inl (cI, 4000, .inl mdSize)), (MdAddress, .inl (cI, 4000, .inl mdAddress)), (MdMode, .inl (cI, 4000, .inl mdMode)), (MdCode, .inl (cI, 4000, .inl mdCode)), (MdWindow, .inl (cI, 4000, .inl mdWindow)), (Mfirst, .inl (cB, 1536, .inl mfirst)), (Mrows, .inl (cB, 32000, .inl mrows))] H → va_D A0 [(mm, .inr (9, fl 78 gj_G4)), (Mtab, .inl (cB, 1536, .inl mtab)), (Mnears, .inl (cJ, 8, .inr (.inl mnears))), (Msames, .inl (cJ, 1024, .inr (.inl msames))), (Mout, .inl (cB, 4000, .inl mout)), (MoutFrom, .inl (cI, 4000, .inl moutFrom)), (Msource, .inl (cB, 4000, .inl msource)), (MsourceFrom, .inl (cI, 4000, .inl msourceFrom)), (MdKind, .inl (cI, 4000, .inl mdKind)), (MdSize, .inl (cI, 4000, .inl mdSize)), (MdAddress, .inl (cI, 4000, .inl mdAddress)), (MdMode, .inl (cI, 4000, .inl mdMode)), (MdCode, .inl (cI, 4000, .inl mdCode)), (MdWindow, .inl (cI, 4000, .inl mdWindow)), (Mfirst, .inl (cB, 1536, .inl mfirst)), (Mrows, .inl (cB, 32000, .inl mrows))] → va_S A0 s0.heap H locs → lv_has ls 10 [(4, .int (nI v_3)), (1, .int (nI a_1)), (2, .long r_1), (0, .ref mm)] → W p0 l e0 ({ frames := 6, cells := 0, slots := 0, locals := 161 }) s0 m0 ([.ref mm] : List Value).toArray below meth c0 H locs 0 0 Q0 (F0 m0 64 ls []) := by
      intro gj_G4 fu_4 pl_4 H locs ls hf_G4 k_end_G4 k_windows_G4 k_drafts_G4 k_counts_G4 k_partAt_G4 k_near_G4 k_same_G4 k_fault_G4 k_place_G4 k_at_G4 hq_4 hf_4 hP hD hS hl
      have bk_4 : fu_4 = 0 → fu_3 = 0 := fun z => ((okR_F (c := 8 < v_3) (k := 18) (w := a_1) (s := (fu_3, pl_3, a_3)) (by decide)) (by rw [hq_4]; exact z)).1
      have hT2 : tkT2 b e (fu_2, pl_2, a_1) = (fu_4, pl_4, a_3) := by rw [tkT2, hq_3]; exact hq_4
      refine lv_aload_n hx hb dX9_readTable_64 rfl (lv_at hl 3 rfl) ?_
      refine fx_get (D := D) (ci := 9) (v := .int (nI a_3)) (C := RX9) (T := TX9) (N := 78) hx hb hts in_X9 hown hK hP 0 rfl rfl 34 (by decide) (hts _ kX9_185) (fun _ h9 => h9) (k_at_G4) dX9_readTable_65 ?_
      refine lv_istore_n (lv' := [(1, .int (nI a_3)), (4, .int (nI v_3)), (2, .long r_1), (0, .ref mm)]) hx hb dX9_readTable_68 rfl hl (by decide) rfl (fun ls hl => ?_)
      refine lv_aload_n hx hb dX9_readTable_69 rfl (lv_at hl 3 rfl) ?_
      refine jn_i (wr := [(Mtab, .inl (cB, 1536, .inl mtab)), (Mnears, .inl (cJ, 8, .inr (.inl mnears))), (Msames, .inl (cJ, 1024, .inr (.inl msames))), (Mout, .inl (cB, 4000, .inl mout)), (MoutFrom, .inl (cI, 4000, .inl moutFrom)), (Msource, .inl (cB, 4000, .inl msource)), (MsourceFrom, .inl (cI, 4000, .inl msourceFrom)), (MdKind, .inl (cI, 4000, .inl mdKind)), (MdSize, .inl (cI, 4000, .inl mdSize)), (MdAddress, .inl (cI, 4000, .inl mdAddress)), (MdMode, .inl (cI, 4000, .inl mdMode)), (MdCode, .inl (cI, 4000, .inl mdCode)), (MdWindow, .inl (cI, 4000, .inl mdWindow)), (Mfirst, .inl (cB, 1536, .inl mfirst))]) hA hP hD hS [0, 15] [1, 2, 3, 4, 5, 6, 7, 8, 9, 10, 11, 12, 13, 14] rfl rfl (by decide) (by decide) (rn_V (As := []) (rest := []) ⟨hx, hb, hml, hown, hts⟩ (cvV 0 hts zc_yX9_take zi_X9 zm_yX9_take zv_yX9_take kX9_198 (by decide +kernel) rfl rfl ⟨Nat.le_of_ble_eq_true rfl, Nat.le_of_ble_eq_true rfl⟩) (m_take l D cI cB cJ cR mm gj_G4 Mrows mrows fu_4 pl_4 a_3 e bs b (k_fault_G4) (k_place_G4) (k_at_G4) (k_end_G4) ((hf_G4 33 (by decide)).trans g_base) ((hf_G4 1 (by decide)).trans g_rows) (hf_4) (he9) (ha_3) (hob) H.size) hK hNw hMk hA hP hD hS [0, 15] rfl rfl (by decide) 0 rfl rfl rfl rfl hl.1 rfl (Nat.le_of_ble_eq_true rfl) dX9_readTable_70 ⟨Nat.le_of_ble_eq_true rfl, Nat.le_of_ble_eq_true rfl⟩) (fun rt_5 u9 H locs ht_5 hP hD hS => ?_)
      obtain ⟨g_3, v_5, fu_5, pl_5, a_5⟩ := u9
      try dsimp only at ht_5
      have hP : va_P D vwCl [(Mtab, .inl (cB, 1536, .inl mtab)), (Mnears, .inl (cJ, 8, .inr (.inl mnears))), (Msames, .inl (cJ, 1024, .inr (.inl msames))), (Mout, .inl (cB, 4000, .inl mout)), (MoutFrom, .inl (cI, 4000, .inl moutFrom)), (Msource, .inl (cB, 4000, .inl msource)), (MsourceFrom, .inl (cI, 4000, .inl msourceFrom)), (MdKind, .inl (cI, 4000, .inl mdKind)), (MdSize, .inl (cI, 4000, .inl mdSize)), (MdAddress, .inl (cI, 4000, .inl mdAddress)), (MdMode, .inl (cI, 4000, .inl mdMode)), (MdCode, .inl (cI, 4000, .inl mdCode)), (MdWindow, .inl (cI, 4000, .inl mdWindow)), (Mfirst, .inl (cB, 1536, .inl mfirst)), (mm, .inr (9, fl 78 g_3)), (Mrows, .inl (cB, 32000, .inl mrows))] H := hP
      have hD : va_D A0 [(Mtab, .inl (cB, 1536, .inl mtab)), (Mnears, .inl (cJ, 8, .inr (.inl mnears))), (Msames, .inl (cJ, 1024, .inr (.inl msames))), (Mout, .inl (cB, 4000, .inl mout)), (MoutFrom, .inl (cI, 4000, .inl moutFrom)), (Msource, .inl (cB, 4000, .inl msource)), (MsourceFrom, .inl (cI, 4000, .inl msourceFrom)), (MdKind, .inl (cI, 4000, .inl mdKind)), (MdSize, .inl (cI, 4000, .inl mdSize)), (MdAddress, .inl (cI, 4000, .inl mdAddress)), (MdMode, .inl (cI, 4000, .inl mdMode)), (MdCode, .inl (cI, 4000, .inl mdCode)), (MdWindow, .inl (cI, 4000, .inl mdWindow)), (Mfirst, .inl (cB, 1536, .inl mfirst)), (mm, .inr (9, fl 78 g_3)), (Mrows, .inl (cB, 32000, .inl mrows))] := hD
      obtain ⟨f_ht_5, fault_ht_5, place_ht_5, at_ht_5, ht_5_⟩ := ht_5
      have k33_g_3 : g_3 33 = .int (nI bs) := (f_ht_5 33 (by decide)).trans ((hf_G4 33 (by decide)).trans g_base)
      have k1_g_3 : g_3 1 = .ref Mrows := (f_ht_5 1 (by decide)).trans ((hf_G4 1 (by decide)).trans g_rows)
      have k7_g_3 : g_3 7 = .ref Mtab := (f_ht_5 7 (by decide)).trans ((hf_G4 7 (by decide)).trans g_tab)
      have k10_g_3 : g_3 10 = .ref Mnears := (f_ht_5 10 (by decide)).trans ((hf_G4 10 (by decide)).trans g_nears)
      have k12_g_3 : g_3 12 = .ref Msames := (f_ht_5 12 (by decide)).trans ((hf_G4 12 (by decide)).trans g_sames)
      have k30_g_3 : g_3 30 = .ref Mout := (f_ht_5 30 (by decide)).trans ((hf_G4 30 (by decide)).trans g_out)
      have k31_g_3 : g_3 31 = .ref MoutFrom := (f_ht_5 31 (by decide)).trans ((hf_G4 31 (by decide)).trans g_outFrom)
      have k27_g_3 : g_3 27 = .ref Msource := (f_ht_5 27 (by decide)).trans ((hf_G4 27 (by decide)).trans g_source)
      have k28_g_3 : g_3 28 = .ref MsourceFrom := (f_ht_5 28 (by decide)).trans ((hf_G4 28 (by decide)).trans g_sourceFrom)
      have k21_g_3 : g_3 21 = .ref MdKind := (f_ht_5 21 (by decide)).trans ((hf_G4 21 (by decide)).trans g_dKind)
      have k22_g_3 : g_3 22 = .ref MdSize := (f_ht_5 22 (by decide)).trans ((hf_G4 22 (by decide)).trans g_dSize)
      have k23_g_3 : g_3 23 = .ref MdAddress := (f_ht_5 23 (by decide)).trans ((hf_G4 23 (by decide)).trans g_dAddress)
      have k24_g_3 : g_3 24 = .ref MdMode := (f_ht_5 24 (by decide)).trans ((hf_G4 24 (by decide)).trans g_dMode)
      have k25_g_3 : g_3 25 = .ref MdCode := (f_ht_5 25 (by decide)).trans ((hf_G4 25 (by decide)).trans g_dCode)
      have k26_g_3 : g_3 26 = .ref MdWindow := (f_ht_5 26 (by decide)).trans ((hf_G4 26 (by decide)).trans g_dWindow)
      have k3_g_3 : g_3 3 = .ref Mfirst := (f_ht_5 3 (by decide)).trans ((hf_G4 3 (by decide)).trans g_first)
      have k35_g_3 : g_3 35 = .int (nI e) := (f_ht_5 35 (by decide)).trans (k_end_G4)
      have k38_g_3 : g_3 38 = .int (nI wr) := (f_ht_5 38 (by decide)).trans (k_windows_G4)
      have k20_g_3 : g_3 20 = .int (nI dr) := (f_ht_5 20 (by decide)).trans (k_drafts_G4)
      have k39_g_3 : g_3 39 = .int (bI true) := (f_ht_5 39 (by decide)).trans (k_counts_G4)
      have k51_g_3 : g_3 51 = .int pa := (f_ht_5 51 (by decide)).trans (k_partAt_G4)
      have k8_g_3 : g_3 8 = .int (nI n0) := (f_ht_5 8 (by decide)).trans (k_near_G4)
      have k9_g_3 : g_3 9 = .int (nI m0_) := (f_ht_5 9 (by decide)).trans (k_same_G4)
      have fr_g_3 : frm [34, 35, 36, 37, 51, 8, 9, 39, 38, 20, 32, 29, 40, 41, 42, 43, 44, 45, 46, 47, 48, 49, 50, 11] g g_3 := frm_tr hf_G4 f_ht_5 (by decide)
      obtain ⟨hr_5, hq_5, hf_5, hg_5, ha_5, hv_5⟩ := ht_5_
      subst hr_5
      have bk_5 : fu_5 = 0 → fu_4 = 0 := fun z => ((okR_O (b := b) (e := e) (s := (fu_4, pl_4, a_3))) (by rw [hq_5]; exact z)).1
      refine lv_istore (lv' := [(5, .int (nI v_5)), (1, .int (nI a_3)), (4, .int (nI v_3)), (2, .long r_1), (0, .ref mm)]) hx hb dX9_readTable_73 hl (by decide) rfl (fun ls hl => ?_)
      have G6 : ∀ (gj_G6 : Nat → Value) (fu_6 : Nat) (pl_6 : Nat) (H : Heap) (locs : List Loc) (ls : Array Slot), (frm [34, 35, 36, 37, 51, 8, 9, 39, 38, 20, 32, 29, 40, 41, 42, 43, 44, 45, 46, 47, 48, 49, 50, 11] g gj_G6) → (gj_G6 35 = .int (nI e)) → (gj_G6 38 = .int (nI wr)) → (gj_G6 20 = .int (nI dr)) → (gj_G6 39 = .int (bI true)) → (gj_G6 51 = .int pa) → (gj_G6 8 = .int (nI n0)) → (gj_G6 9 = .int (nI m0_)) → (gj_G6 36 = .int (nI fu_6)) → (gj_G6 37 = .int (nI pl_6)) → (gj_G6 34 = .int (nI a_5)) → (flI (4 < v_5) 18 a_3 (fu_5, pl_5, a_5) = (fu_6, pl_6, a_5)) → (fu_6 < 2 ^ 31) → va_P D vwCl [(mm, .inr (9, fl 78 gj_G6)), (Mtab, .inl (cB, 1536, .inl mtab)), (Mnears, .inl (cJ, 8, .inr (.inl mnears))), (Msames, .inl (cJ, 1024, .inr (.inl msames))), (Mout, .inl (cB, 4000, .inl mout)), (MoutFrom, .inl (cI, 4000, .inl moutFrom)), (Msource, .inl (cB, 4000, .inl msource)), (MsourceFrom, .inl (cI, 4000, .inl msourceFrom)), (MdKind, .inl (cI, 4000, .inl mdKind)), (MdSize, .inl (cI, 4000, .inl mdSize)), (MdAddress, .inl (cI, 4000, .inl mdAddress)), (MdMode, .inl (cI, 4000, .inl mdMode)), (MdCode, .inl (cI, 4000, .inl mdCode)), (MdWindow, .inl (cI, 4000, .inl mdWindow)), (Mfirst, .inl (cB, 1536, .inl mfirst)), (Mrows, .inl (cB, 32000, .inl mrows))] H → va_D A0 [(mm, .inr (9, fl 78 gj_G6)), (Mtab, .inl (cB, 1536, .inl mtab)), (Mnears, .inl (cJ, 8, .inr (.inl mnears))), (Msames, .inl (cJ, 1024, .inr (.inl msames))), (Mout, .inl (cB, 4000, .inl mout)), (MoutFrom, .inl (cI, 4000, .inl moutFrom)), (Msource, .inl (cB, 4000, .inl msource)), (MsourceFrom, .inl (cI, 4000, .inl msourceFrom)), (MdKind, .inl (cI, 4000, .inl mdKind)), (MdSize, .inl (cI, 4000, .inl mdSize)), (MdAddress, .inl (cI, 4000, .inl mdAddress)), (MdMode, .inl (cI, 4000, .inl mdMode)), (MdCode, .inl (cI, 4000, .inl mdCode)), (MdWindow, .inl (cI, 4000, .inl mdWindow)), (Mfirst, .inl (cB, 1536, .inl mfirst)), (Mrows, .inl (cB, 32000, .inl mrows))] → va_S A0 s0.heap H locs → lv_has ls 10 [(5, .int (nI v_5)), (1, .int (nI a_3)), (4, .int (nI v_3)), (2, .long r_1), (0, .ref mm)] → W p0 l e0 ({ frames := 6, cells := 0, slots := 0, locals := 161 }) s0 m0 ([.ref mm] : List Value).toArray below meth c0 H locs 0 0 Q0 (F0 m0 95 ls []) := by
        intro gj_G6 fu_6 pl_6 H locs ls hf_G6 k_end_G6 k_windows_G6 k_drafts_G6 k_counts_G6 k_partAt_G6 k_near_G6 k_same_G6 k_fault_G6 k_place_G6 k_at_G6 hq_6 hf_6 hP hD hS hl
        have bk_6 : fu_6 = 0 → fu_5 = 0 := fun z => ((okR_F (c := 4 < v_5) (k := 18) (w := a_3) (s := (fu_5, pl_5, a_5)) (by decide)) (by rw [hq_6]; exact z)).1
        have hT3 : tkT3 b e (fu_4, pl_4, a_3) = (fu_6, pl_6, a_5) := by rw [tkT3, hq_5]; exact hq_6
        have G7 : ∀ (gj_G7 : Nat → Value) (fu_7 : Nat) (pl_7 : Nat) (H : Heap) (locs : List Loc) (ls : Array Slot), (frm [34, 35, 36, 37, 51, 8, 9, 39, 38, 20, 32, 29, 40, 41, 42, 43, 44, 45, 46, 47, 48, 49, 50, 11] g gj_G7) → (gj_G7 35 = .int (nI e)) → (gj_G7 38 = .int (nI wr)) → (gj_G7 20 = .int (nI dr)) → (gj_G7 39 = .int (bI true)) → (gj_G7 51 = .int pa) → (gj_G7 8 = .int (nI n0)) → (gj_G7 9 = .int (nI m0_)) → (gj_G7 36 = .int (nI fu_7)) → (gj_G7 37 = .int (nI pl_7)) → (gj_G7 34 = .int (nI a_5)) → (flI (e + 2 < v_1 + a_5) 1 e (fu_6, pl_6, a_5) = (fu_7, pl_7, a_5)) → (fu_7 < 2 ^ 31) → va_P D vwCl [(mm, .inr (9, fl 78 gj_G7)), (Mtab, .inl (cB, 1536, .inl mtab)), (Mnears, .inl (cJ, 8, .inr (.inl mnears))), (Msames, .inl (cJ, 1024, .inr (.inl msames))), (Mout, .inl (cB, 4000, .inl mout)), (MoutFrom, .inl (cI, 4000, .inl moutFrom)), (Msource, .inl (cB, 4000, .inl msource)), (MsourceFrom, .inl (cI, 4000, .inl msourceFrom)), (MdKind, .inl (cI, 4000, .inl mdKind)), (MdSize, .inl (cI, 4000, .inl mdSize)), (MdAddress, .inl (cI, 4000, .inl mdAddress)), (MdMode, .inl (cI, 4000, .inl mdMode)), (MdCode, .inl (cI, 4000, .inl mdCode)), (MdWindow, .inl (cI, 4000, .inl mdWindow)), (Mfirst, .inl (cB, 1536, .inl mfirst)), (Mrows, .inl (cB, 32000, .inl mrows))] H → va_D A0 [(mm, .inr (9, fl 78 gj_G7)), (Mtab, .inl (cB, 1536, .inl mtab)), (Mnears, .inl (cJ, 8, .inr (.inl mnears))), (Msames, .inl (cJ, 1024, .inr (.inl msames))), (Mout, .inl (cB, 4000, .inl mout)), (MoutFrom, .inl (cI, 4000, .inl moutFrom)), (Msource, .inl (cB, 4000, .inl msource)), (MsourceFrom, .inl (cI, 4000, .inl msourceFrom)), (MdKind, .inl (cI, 4000, .inl mdKind)), (MdSize, .inl (cI, 4000, .inl mdSize)), (MdAddress, .inl (cI, 4000, .inl mdAddress)), (MdMode, .inl (cI, 4000, .inl mdMode)), (MdCode, .inl (cI, 4000, .inl mdCode)), (MdWindow, .inl (cI, 4000, .inl mdWindow)), (Mfirst, .inl (cB, 1536, .inl mfirst)), (Mrows, .inl (cB, 32000, .inl mrows))] → va_S A0 s0.heap H locs → lv_has ls 10 [(5, .int (nI v_5)), (1, .int (nI a_3)), (4, .int (nI v_3)), (2, .long r_1), (0, .ref mm)] → W p0 l e0 ({ frames := 6, cells := 0, slots := 0, locals := 161 }) s0 m0 ([.ref mm] : List Value).toArray below meth c0 H locs 0 0 Q0 (F0 m0 130 ls []) := by
          intro gj_G7 fu_7 pl_7 H locs ls hf_G7 k_end_G7 k_windows_G7 k_drafts_G7 k_counts_G7 k_partAt_G7 k_near_G7 k_same_G7 k_fault_G7 k_place_G7 k_at_G7 hq_7 hf_7 hP hD hS hl
          have bk_7 : fu_7 = 0 → fu_6 = 0 := fun z => ((okR_F (c := e + 2 < v_1 + a_5) (k := 1) (w := e) (s := (fu_6, pl_6, a_5)) (by decide)) (by rw [hq_7]; exact z)).1
          refine lv_aload_n hx hb dX9_readTable_130 rfl (lv_at hl 4 rfl) ?_
          refine fx_get (D := D) (ci := 9) (v := .int (nI fu_7)) (C := RX9) (T := TX9) (N := 78) hx hb hts in_X9 hown hK hP 0 rfl rfl 36 (by decide) (hts _ kX9_179) (fun _ h9 => h9) (k_fault_G7) dX9_readTable_131 ?_
          have hTS : tbS b e (fu, pl, a) = (fu_7, pl_7, a_5) := by rw [tbS, hq_1, hT1, hT2, hT3, tkT4]; exact hq_7
          have hTN : tbN b e (fu, pl, a) = v_3 := by rw [tbN, hT1, hq_3]
          have hTM : tbM b e (fu, pl, a) = v_5 := by rw [tbM, hT1, hT2, hq_5]
          refine lv_if_le (tgt := 138) hx hb dX9_readTable_134 (by decide) (fun c_4 => ?_) (fun c_4 => ?_)
          · have hz : fu_7 = 0 := Decidable.byContradiction (fun z => nI_nle (Nat.pos_of_ne_zero z) hf_7 c_4)
            have e1 := hr_1 (bk_2 (bk_3 (bk_4 (bk_5 (bk_6 (bk_7 hz))))))
            have hv2 : ¬ v_1 < 2 := (flI_0 hq_2 (bk_3 (bk_4 (bk_5 (bk_6 (bk_7 hz))))) (by decide)).1
            have hv8 : ¬ 8 < v_3 := (flI_0 hq_4 (bk_5 (bk_6 (bk_7 hz))) (by decide)).1
            have hv4 : ¬ 4 < v_5 := (flI_0 hq_6 (bk_7 hz) (by decide)).1
            have hve : ¬ e + 2 < v_1 + a_5 := (flI_0 hq_7 hz (by decide)).1
            subst e1
            obtain ⟨z, hzz⟩ : ∃ z, z = v_1 - 2 := ⟨_, rfl⟩
            have hTZ : tbZ b e (fu, pl, a) = z := by rw [tbZ, hTS, if_pos hz, hq_1, hzz]
            have hpl3 : pl_7 = 0 := by have q9 := okR_tbS (b := b) (e := e) (s := (fu, pl, a)); rw [hTS] at q9; exact ((q9 hz).2).trans hpl
            refine lv_aload_n hx hb dX9_readTable_138 rfl (lv_at hl 4 rfl) ?_
            refine fx_get (D := D) (ci := 9) (v := .int (nI a_5)) (C := RX9) (T := TX9) (N := 78) hx hb hts in_X9 hown hK hP 0 rfl rfl 34 (by decide) (hts _ kX9_185) (fun _ h9 => h9) (k_at_G7) dX9_readTable_139 ?_
            refine lv_istore (lv' := [(6, .int (nI a_5)), (5, .int (nI v_5)), (1, .int (nI a_3)), (4, .int (nI v_3)), (2, .long (lN v_1)), (0, .ref mm)]) hx hb dX9_readTable_142 hl (by decide) rfl (fun ls hl => ?_)
            refine lv_aload_n hx hb dX9_readTable_144 rfl (lv_at hl 5 rfl) ?_
            refine fx_get (D := D) (ci := 9) (v := .int (nI e)) (C := RX9) (T := TX9) (N := 78) hx hb hts in_X9 hown hK hP 0 rfl rfl 35 (by decide) (hts _ kX9_188) (fun _ h9 => h9) (k_end_G7) dX9_readTable_145 ?_
            refine lv_istore (lv' := [(7, .int (nI e)), (6, .int (nI a_5)), (5, .int (nI v_5)), (1, .int (nI a_3)), (4, .int (nI v_3)), (2, .long (lN v_1)), (0, .ref mm)]) hx hb dX9_readTable_148 hl (by decide) rfl (fun ls hl => ?_)
            refine lv_aload_n hx hb dX9_readTable_150 rfl (lv_at hl 6 rfl) ?_
            refine lv_aload_n hx hb dX9_readTable_151 rfl (lv_at hl 6 rfl) ?_
            refine fx_get (D := D) (ci := 9) (v := .int (nI a_5)) (C := RX9) (T := TX9) (N := 78) hx hb hts in_X9 hown hK hP 0 rfl rfl 34 (by decide) (hts _ kX9_185) (fun _ h9 => h9) (k_at_G7) dX9_readTable_152 ?_
            refine lv_lload_n hx hb dX9_readTable_155 rfl (lv_at hl 5 rfl) ?_
            refine lv_l2i hx hb dX9_readTable_156 (v := (lN v_1).toInt32) rfl ?_
            refine ri (y := nI v_1) (lN_i _) ?_
            refine lv_iadd hx hb dX9_readTable_157 ?_
            refine ri (y := nI (a_5 + v_1)) (nI_add a_5 v_1) ?_
            refine lv_iconst (v := 2) hx hb dX9_readTable_158 (by decide) ?_
            refine lv_isub hx hb dX9_readTable_159 ?_
            refine ri (y := nI (a_5 + z)) ((pk_sub (b := 2) (by omega)).trans (by rw [hzz, show a_5 + v_1 - 2 = a_5 + (v_1 - 2) by omega])) ?_
            refine fx_put (D := D) (ci := 9) (v := .int (nI (a_5 + z))) (ty := .int) (C := RX9) (T := TX9) (N := 78) hx hb hts in_X9 tyX9 tyX9_ok nmX9 hown hK hP hD hS 0 rfl rfl 35 (by decide) (hts _ kX9_188) (fun _ h9 => h9) rfl (by decide +kernel) rfl rfl dX9_readTable_160 (fun H locs hP hD hS => ?_)
            have hP : va_P D vwCl [(mm, .inr (9, fl 78 (va_up gj_G7 35 (.int (nI (a_5 + z)))))), (Mtab, .inl (cB, 1536, .inl mtab)), (Mnears, .inl (cJ, 8, .inr (.inl mnears))), (Msames, .inl (cJ, 1024, .inr (.inl msames))), (Mout, .inl (cB, 4000, .inl mout)), (MoutFrom, .inl (cI, 4000, .inl moutFrom)), (Msource, .inl (cB, 4000, .inl msource)), (MsourceFrom, .inl (cI, 4000, .inl msourceFrom)), (MdKind, .inl (cI, 4000, .inl mdKind)), (MdSize, .inl (cI, 4000, .inl mdSize)), (MdAddress, .inl (cI, 4000, .inl mdAddress)), (MdMode, .inl (cI, 4000, .inl mdMode)), (MdCode, .inl (cI, 4000, .inl mdCode)), (MdWindow, .inl (cI, 4000, .inl mdWindow)), (Mfirst, .inl (cB, 1536, .inl mfirst)), (Mrows, .inl (cB, 32000, .inl mrows))] H := hP
            have hD : va_D A0 [(mm, .inr (9, fl 78 (va_up gj_G7 35 (.int (nI (a_5 + z)))))), (Mtab, .inl (cB, 1536, .inl mtab)), (Mnears, .inl (cJ, 8, .inr (.inl mnears))), (Msames, .inl (cJ, 1024, .inr (.inl msames))), (Mout, .inl (cB, 4000, .inl mout)), (MoutFrom, .inl (cI, 4000, .inl moutFrom)), (Msource, .inl (cB, 4000, .inl msource)), (MsourceFrom, .inl (cI, 4000, .inl msourceFrom)), (MdKind, .inl (cI, 4000, .inl mdKind)), (MdSize, .inl (cI, 4000, .inl mdSize)), (MdAddress, .inl (cI, 4000, .inl mdAddress)), (MdMode, .inl (cI, 4000, .inl mdMode)), (MdCode, .inl (cI, 4000, .inl mdCode)), (MdWindow, .inl (cI, 4000, .inl mdWindow)), (Mfirst, .inl (cB, 1536, .inl mfirst)), (Mrows, .inl (cB, 32000, .inl mrows))] := hD
            refine lv_aload_n hx hb dX9_readTable_163 rfl (lv_at hl 6 rfl) ?_
            refine lv_aload_n hx hb dX9_readTable_164 rfl (lv_at hl 6 rfl) ?_
            refine fx_get (D := D) (ci := 9) (v := .ref Mfirst) (C := RX9) (T := TX9) (N := 78) hx hb hts in_X9 hown hK hP 0 rfl rfl 3 (by decide) (hts _ kX9_17) (fun _ h9 => h9) ((hf_G7 3 (by decide)).trans g_first) dX9_readTable_165 ?_
            refine lv_iconst (v := 4) hx hb dX9_readTable_168 (by decide) ?_
            refine ri (y := nI 4) (rfl) ?_
            refine lv_iconst (v := 3) hx hb dX9_readTable_169 (by decide) ?_
            refine ri (y := nI 3) (rfl) ?_
            refine jn_v (wr := [(Mnears, .inl (cJ, 8, .inr (.inl mnears))), (Msames, .inl (cJ, 1024, .inr (.inl msames))), (Mout, .inl (cB, 4000, .inl mout)), (MoutFrom, .inl (cI, 4000, .inl moutFrom)), (Msource, .inl (cB, 4000, .inl msource)), (MsourceFrom, .inl (cI, 4000, .inl msourceFrom)), (MdKind, .inl (cI, 4000, .inl mdKind)), (MdSize, .inl (cI, 4000, .inl mdSize)), (MdAddress, .inl (cI, 4000, .inl mdAddress)), (MdMode, .inl (cI, 4000, .inl mdMode)), (MdCode, .inl (cI, 4000, .inl mdCode)), (MdWindow, .inl (cI, 4000, .inl mdWindow)), (Mrows, .inl (cB, 32000, .inl mrows))]) hA hP hD hS [0, 1, 14] [2, 3, 4, 5, 6, 7, 8, 9, 10, 11, 12, 13, 15] rfl rfl (by decide) (by decide) (rn_V (As := [.ref Mfirst, .int (nI 4), .int (nI 3)]) (rest := []) ⟨hx, hb, hml, hown, hts⟩ (cvV 3 hts zc_yX9_use zi_X9 zm_yX9_use zv_yX9_use kX9_213 (by decide +kernel) rfl rfl ⟨Nat.le_of_ble_eq_true rfl, Nat.le_of_ble_eq_true rfl⟩) (m_use l D cI cB cJ cR mm (va_up gj_G7 35 (.int (nI (a_5 + z)))) Mtab mtab Mfirst 1536 mfirst firstT 4 3 ((hf_G7 7 (by decide)).trans g_tab) (by decide) (hft) H.size) hK hNw hMk hA hP hD hS [0, 1, 14] rfl rfl (by decide) 0 rfl rfl rfl rfl hl.1 rfl (Nat.le_of_ble_eq_true rfl) dX9_readTable_170 ⟨Nat.le_of_ble_eq_true rfl, Nat.le_of_ble_eq_true rfl⟩) (fun u9 H locs hus hP hD hS => ?_)
            obtain ⟨g_5, t7⟩ := u9
            try dsimp only at hus
            have hP : va_P D vwCl [(Mnears, .inl (cJ, 8, .inr (.inl mnears))), (Msames, .inl (cJ, 1024, .inr (.inl msames))), (Mout, .inl (cB, 4000, .inl mout)), (MoutFrom, .inl (cI, 4000, .inl moutFrom)), (Msource, .inl (cB, 4000, .inl msource)), (MsourceFrom, .inl (cI, 4000, .inl msourceFrom)), (MdKind, .inl (cI, 4000, .inl mdKind)), (MdSize, .inl (cI, 4000, .inl mdSize)), (MdAddress, .inl (cI, 4000, .inl mdAddress)), (MdMode, .inl (cI, 4000, .inl mdMode)), (MdCode, .inl (cI, 4000, .inl mdCode)), (MdWindow, .inl (cI, 4000, .inl mdWindow)), (Mrows, .inl (cB, 32000, .inl mrows)), (mm, .inr (9, fl 78 g_5)), (Mtab, .inl (cB, 1536, .inl t7)), (Mfirst, .inl (cB, 1536, .inl mfirst))] H := hP
            have hD : va_D A0 [(Mnears, .inl (cJ, 8, .inr (.inl mnears))), (Msames, .inl (cJ, 1024, .inr (.inl msames))), (Mout, .inl (cB, 4000, .inl mout)), (MoutFrom, .inl (cI, 4000, .inl moutFrom)), (Msource, .inl (cB, 4000, .inl msource)), (MsourceFrom, .inl (cI, 4000, .inl msourceFrom)), (MdKind, .inl (cI, 4000, .inl mdKind)), (MdSize, .inl (cI, 4000, .inl mdSize)), (MdAddress, .inl (cI, 4000, .inl mdAddress)), (MdMode, .inl (cI, 4000, .inl mdMode)), (MdCode, .inl (cI, 4000, .inl mdCode)), (MdWindow, .inl (cI, 4000, .inl mdWindow)), (Mrows, .inl (cB, 32000, .inl mrows)), (mm, .inr (9, fl 78 g_5)), (Mtab, .inl (cB, 1536, .inl t7)), (Mfirst, .inl (cB, 1536, .inl mfirst))] := hD
            obtain ⟨f_hus, near_hus, same_hus, hus_⟩ := hus
            have k33_g_5 : g_5 33 = .int (nI bs) := (f_hus 33 (by decide)).trans ((hf_G7 33 (by decide)).trans g_base)
            have k1_g_5 : g_5 1 = .ref Mrows := (f_hus 1 (by decide)).trans ((hf_G7 1 (by decide)).trans g_rows)
            have k7_g_5 : g_5 7 = .ref Mtab := (f_hus 7 (by decide)).trans ((hf_G7 7 (by decide)).trans g_tab)
            have k10_g_5 : g_5 10 = .ref Mnears := (f_hus 10 (by decide)).trans ((hf_G7 10 (by decide)).trans g_nears)
            have k12_g_5 : g_5 12 = .ref Msames := (f_hus 12 (by decide)).trans ((hf_G7 12 (by decide)).trans g_sames)
            have k30_g_5 : g_5 30 = .ref Mout := (f_hus 30 (by decide)).trans ((hf_G7 30 (by decide)).trans g_out)
            have k31_g_5 : g_5 31 = .ref MoutFrom := (f_hus 31 (by decide)).trans ((hf_G7 31 (by decide)).trans g_outFrom)
            have k27_g_5 : g_5 27 = .ref Msource := (f_hus 27 (by decide)).trans ((hf_G7 27 (by decide)).trans g_source)
            have k28_g_5 : g_5 28 = .ref MsourceFrom := (f_hus 28 (by decide)).trans ((hf_G7 28 (by decide)).trans g_sourceFrom)
            have k21_g_5 : g_5 21 = .ref MdKind := (f_hus 21 (by decide)).trans ((hf_G7 21 (by decide)).trans g_dKind)
            have k22_g_5 : g_5 22 = .ref MdSize := (f_hus 22 (by decide)).trans ((hf_G7 22 (by decide)).trans g_dSize)
            have k23_g_5 : g_5 23 = .ref MdAddress := (f_hus 23 (by decide)).trans ((hf_G7 23 (by decide)).trans g_dAddress)
            have k24_g_5 : g_5 24 = .ref MdMode := (f_hus 24 (by decide)).trans ((hf_G7 24 (by decide)).trans g_dMode)
            have k25_g_5 : g_5 25 = .ref MdCode := (f_hus 25 (by decide)).trans ((hf_G7 25 (by decide)).trans g_dCode)
            have k26_g_5 : g_5 26 = .ref MdWindow := (f_hus 26 (by decide)).trans ((hf_G7 26 (by decide)).trans g_dWindow)
            have k3_g_5 : g_5 3 = .ref Mfirst := (f_hus 3 (by decide)).trans ((hf_G7 3 (by decide)).trans g_first)
            have k35_g_5 : g_5 35 = .int (nI (a_5 + z)) := (f_hus 35 (by decide)).trans (rfl)
            have k38_g_5 : g_5 38 = .int (nI wr) := (f_hus 38 (by decide)).trans (k_windows_G7)
            have k20_g_5 : g_5 20 = .int (nI dr) := (f_hus 20 (by decide)).trans (k_drafts_G7)
            have k39_g_5 : g_5 39 = .int (bI true) := (f_hus 39 (by decide)).trans (k_counts_G7)
            have k51_g_5 : g_5 51 = .int pa := (f_hus 51 (by decide)).trans (k_partAt_G7)
            have k36_g_5 : g_5 36 = .int (nI fu_7) := (f_hus 36 (by decide)).trans (k_fault_G7)
            have k37_g_5 : g_5 37 = .int (nI pl_7) := (f_hus 37 (by decide)).trans (k_place_G7)
            have k34_g_5 : g_5 34 = .int (nI a_5) := (f_hus 34 (by decide)).trans (k_at_G7)
            have fr_g_5 : frm [34, 35, 36, 37, 51, 8, 9, 39, 38, 20, 32, 29, 40, 41, 42, 43, 44, 45, 46, 47, 48, 49, 50, 11] g g_5 := frm_tr (frm_up hf_G7 (by decide)) f_hus (by decide)
            refine lv_aload_n hx hb dX9_readTable_173 rfl (lv_at hl 6 rfl) ?_
            refine lv_aload_n hx hb dX9_readTable_174 rfl (lv_at hl 6 rfl) ?_
            refine fx_get (D := D) (ci := 9) (v := .ref Mfirst) (C := RX9) (T := TX9) (N := 78) hx hb hts in_X9 hown hK hP 13 rfl rfl 3 (by decide) (hts _ kX9_17) (fun _ h9 => h9) (k3_g_5) dX9_readTable_175 ?_
            refine lv_iconst (v := 0) hx hb dX9_readTable_178 (by decide) ?_
            refine ri (y := nI 0) (nI_0.symm) ?_
            refine lv_sipush (v := 1536) hx hb dX9_readTable_179 (by decide) ?_
            refine ri (y := nI 1536) (rfl) ?_
            refine lv_iconst (v := 0) hx hb dX9_readTable_182 (by decide) ?_
            refine ri (y := bI false) (rfl) ?_
            refine jn_v (wr := [(Mnears, .inl (cJ, 8, .inr (.inl mnears))), (Msames, .inl (cJ, 1024, .inr (.inl msames))), (Mout, .inl (cB, 4000, .inl mout)), (MoutFrom, .inl (cI, 4000, .inl moutFrom)), (MdKind, .inl (cI, 4000, .inl mdKind)), (MdSize, .inl (cI, 4000, .inl mdSize)), (MdAddress, .inl (cI, 4000, .inl mdAddress)), (MdMode, .inl (cI, 4000, .inl mdMode)), (MdCode, .inl (cI, 4000, .inl mdCode)), (MdWindow, .inl (cI, 4000, .inl mdWindow)), (Mrows, .inl (cB, 32000, .inl mrows)), (Mtab, .inl (cB, 1536, .inl t7))]) hA hP hD hS [13, 4, 5, 15] [0, 1, 2, 3, 6, 7, 8, 9, 10, 11, 12, 14] rfl rfl (by decide) (by decide) (rn_V (As := [.ref Mfirst, .int (nI 0), .int (nI 1536), .int (bI false)]) (rest := []) ⟨hx, hb, hml, hown, hts⟩ (cvV 4 hts zc_yX9_sourceIs zi_X9 zm_yX9_sourceIs zv_yX9_sourceIs kX9_217 (by decide +kernel) rfl rfl ⟨Nat.le_of_ble_eq_true rfl, Nat.le_of_ble_eq_true rfl⟩) (m_sourceIs l D cI cB cJ cR mm g_5 Msource MsourceFrom msource msourceFrom Mfirst 1536 mfirst firstT 1536 false (k27_g_5) (k28_g_5) (by decide) (by decide) (hft) H.size) hK hNw hMk hA hP hD hS [13, 4, 5, 15] rfl rfl (by decide) 0 rfl rfl rfl rfl hl.1 rfl (Nat.le_of_ble_eq_true rfl) dX9_readTable_183 ⟨Nat.le_of_ble_eq_true rfl, Nat.le_of_ble_eq_true rfl⟩) (fun u9 H locs hsi hP hD hS => ?_)
            obtain ⟨g_7, s7, f7⟩ := u9
            try dsimp only at hsi
            have hP : va_P D vwCl [(Mnears, .inl (cJ, 8, .inr (.inl mnears))), (Msames, .inl (cJ, 1024, .inr (.inl msames))), (Mout, .inl (cB, 4000, .inl mout)), (MoutFrom, .inl (cI, 4000, .inl moutFrom)), (MdKind, .inl (cI, 4000, .inl mdKind)), (MdSize, .inl (cI, 4000, .inl mdSize)), (MdAddress, .inl (cI, 4000, .inl mdAddress)), (MdMode, .inl (cI, 4000, .inl mdMode)), (MdCode, .inl (cI, 4000, .inl mdCode)), (MdWindow, .inl (cI, 4000, .inl mdWindow)), (Mrows, .inl (cB, 32000, .inl mrows)), (Mtab, .inl (cB, 1536, .inl t7)), (mm, .inr (9, fl 78 g_7)), (Msource, .inl (cB, 4000, .inl s7)), (MsourceFrom, .inl (cI, 4000, .inl f7)), (Mfirst, .inl (cB, 1536, .inl mfirst))] H := hP
            have hD : va_D A0 [(Mnears, .inl (cJ, 8, .inr (.inl mnears))), (Msames, .inl (cJ, 1024, .inr (.inl msames))), (Mout, .inl (cB, 4000, .inl mout)), (MoutFrom, .inl (cI, 4000, .inl moutFrom)), (MdKind, .inl (cI, 4000, .inl mdKind)), (MdSize, .inl (cI, 4000, .inl mdSize)), (MdAddress, .inl (cI, 4000, .inl mdAddress)), (MdMode, .inl (cI, 4000, .inl mdMode)), (MdCode, .inl (cI, 4000, .inl mdCode)), (MdWindow, .inl (cI, 4000, .inl mdWindow)), (Mrows, .inl (cB, 32000, .inl mrows)), (Mtab, .inl (cB, 1536, .inl t7)), (mm, .inr (9, fl 78 g_7)), (Msource, .inl (cB, 4000, .inl s7)), (MsourceFrom, .inl (cI, 4000, .inl f7)), (Mfirst, .inl (cB, 1536, .inl mfirst))] := hD
            obtain ⟨f_hsi, sourceSize_hsi, hsi_⟩ := hsi
            have k33_g_7 : g_7 33 = .int (nI bs) := (f_hsi 33 (by decide)).trans (k33_g_5)
            have k1_g_7 : g_7 1 = .ref Mrows := (f_hsi 1 (by decide)).trans (k1_g_5)
            have k7_g_7 : g_7 7 = .ref Mtab := (f_hsi 7 (by decide)).trans (k7_g_5)
            have k10_g_7 : g_7 10 = .ref Mnears := (f_hsi 10 (by decide)).trans (k10_g_5)
            have k12_g_7 : g_7 12 = .ref Msames := (f_hsi 12 (by decide)).trans (k12_g_5)
            have k30_g_7 : g_7 30 = .ref Mout := (f_hsi 30 (by decide)).trans (k30_g_5)
            have k31_g_7 : g_7 31 = .ref MoutFrom := (f_hsi 31 (by decide)).trans (k31_g_5)
            have k27_g_7 : g_7 27 = .ref Msource := (f_hsi 27 (by decide)).trans (k27_g_5)
            have k28_g_7 : g_7 28 = .ref MsourceFrom := (f_hsi 28 (by decide)).trans (k28_g_5)
            have k21_g_7 : g_7 21 = .ref MdKind := (f_hsi 21 (by decide)).trans (k21_g_5)
            have k22_g_7 : g_7 22 = .ref MdSize := (f_hsi 22 (by decide)).trans (k22_g_5)
            have k23_g_7 : g_7 23 = .ref MdAddress := (f_hsi 23 (by decide)).trans (k23_g_5)
            have k24_g_7 : g_7 24 = .ref MdMode := (f_hsi 24 (by decide)).trans (k24_g_5)
            have k25_g_7 : g_7 25 = .ref MdCode := (f_hsi 25 (by decide)).trans (k25_g_5)
            have k26_g_7 : g_7 26 = .ref MdWindow := (f_hsi 26 (by decide)).trans (k26_g_5)
            have k3_g_7 : g_7 3 = .ref Mfirst := (f_hsi 3 (by decide)).trans (k3_g_5)
            have k35_g_7 : g_7 35 = .int (nI (a_5 + z)) := (f_hsi 35 (by decide)).trans (k35_g_5)
            have k38_g_7 : g_7 38 = .int (nI wr) := (f_hsi 38 (by decide)).trans (k38_g_5)
            have k20_g_7 : g_7 20 = .int (nI dr) := (f_hsi 20 (by decide)).trans (k20_g_5)
            have k39_g_7 : g_7 39 = .int (bI true) := (f_hsi 39 (by decide)).trans (k39_g_5)
            have k51_g_7 : g_7 51 = .int pa := (f_hsi 51 (by decide)).trans (k51_g_5)
            have k36_g_7 : g_7 36 = .int (nI fu_7) := (f_hsi 36 (by decide)).trans (k36_g_5)
            have k37_g_7 : g_7 37 = .int (nI pl_7) := (f_hsi 37 (by decide)).trans (k37_g_5)
            have k34_g_7 : g_7 34 = .int (nI a_5) := (f_hsi 34 (by decide)).trans (k34_g_5)
            have k8_g_7 : g_7 8 = .int (nI 4) := (f_hsi 8 (by decide)).trans (near_hus)
            have k9_g_7 : g_7 9 = .int (nI 3) := (f_hsi 9 (by decide)).trans (same_hus)
            have fr_g_7 : frm [34, 35, 36, 37, 51, 8, 9, 39, 38, 20, 32, 29, 40, 41, 42, 43, 44, 45, 46, 47, 48, 49, 50, 11] g g_7 := frm_tr fr_g_5 f_hsi (by decide)
            obtain ⟨si1, si2⟩ := hsi_
            refine lv_aload_n hx hb dX9_readTable_186 rfl (lv_at hl 6 rfl) ?_
            refine lv_iconst (v := 0) hx hb dX9_readTable_187 (by decide) ?_
            refine ri (y := nI 0) nI_0.symm ?_
            refine fx_put (D := D) (ci := 9) (v := .int (nI 0)) (ty := .int) (C := RX9) (T := TX9) (N := 78) hx hb hts in_X9 tyX9 tyX9_ok nmX9 hown hK hP hD hS 12 rfl rfl 32 (by decide) (hts _ kX9_221) (fun _ h9 => h9) rfl (by decide +kernel) rfl rfl dX9_readTable_188 (fun H locs hP hD hS => ?_)
            have hP : va_P D vwCl [(Mnears, .inl (cJ, 8, .inr (.inl mnears))), (Msames, .inl (cJ, 1024, .inr (.inl msames))), (Mout, .inl (cB, 4000, .inl mout)), (MoutFrom, .inl (cI, 4000, .inl moutFrom)), (MdKind, .inl (cI, 4000, .inl mdKind)), (MdSize, .inl (cI, 4000, .inl mdSize)), (MdAddress, .inl (cI, 4000, .inl mdAddress)), (MdMode, .inl (cI, 4000, .inl mdMode)), (MdCode, .inl (cI, 4000, .inl mdCode)), (MdWindow, .inl (cI, 4000, .inl mdWindow)), (Mrows, .inl (cB, 32000, .inl mrows)), (Mtab, .inl (cB, 1536, .inl t7)), (mm, .inr (9, fl 78 (va_up g_7 32 (.int (nI 0))))), (Msource, .inl (cB, 4000, .inl s7)), (MsourceFrom, .inl (cI, 4000, .inl f7)), (Mfirst, .inl (cB, 1536, .inl mfirst))] H := hP
            have hD : va_D A0 [(Mnears, .inl (cJ, 8, .inr (.inl mnears))), (Msames, .inl (cJ, 1024, .inr (.inl msames))), (Mout, .inl (cB, 4000, .inl mout)), (MoutFrom, .inl (cI, 4000, .inl moutFrom)), (MdKind, .inl (cI, 4000, .inl mdKind)), (MdSize, .inl (cI, 4000, .inl mdSize)), (MdAddress, .inl (cI, 4000, .inl mdAddress)), (MdMode, .inl (cI, 4000, .inl mdMode)), (MdCode, .inl (cI, 4000, .inl mdCode)), (MdWindow, .inl (cI, 4000, .inl mdWindow)), (Mrows, .inl (cB, 32000, .inl mrows)), (Mtab, .inl (cB, 1536, .inl t7)), (mm, .inr (9, fl 78 (va_up g_7 32 (.int (nI 0))))), (Msource, .inl (cB, 4000, .inl s7)), (MsourceFrom, .inl (cI, 4000, .inl f7)), (Mfirst, .inl (cB, 1536, .inl mfirst))] := hD
            refine lv_aload_n hx hb dX9_readTable_191 rfl (lv_at hl 6 rfl) ?_
            refine lv_iconst (v := 0) hx hb dX9_readTable_192 (by decide) ?_
            refine ri (y := bI false) rfl ?_
            refine fx_put (D := D) (ci := 9) (v := .int (bI false)) (ty := .boolean) (C := RX9) (T := TX9) (N := 78) hx hb hts in_X9 tyX9 tyX9_ok nmX9 hown hK hP hD hS 12 rfl rfl 39 (by decide) (hts _ kX9_224) (fun _ h9 => h9) rfl (by decide +kernel) (by cases false <;> rfl) rfl dX9_readTable_193 (fun H locs hP hD hS => ?_)
            have hP : va_P D vwCl [(Mnears, .inl (cJ, 8, .inr (.inl mnears))), (Msames, .inl (cJ, 1024, .inr (.inl msames))), (Mout, .inl (cB, 4000, .inl mout)), (MoutFrom, .inl (cI, 4000, .inl moutFrom)), (MdKind, .inl (cI, 4000, .inl mdKind)), (MdSize, .inl (cI, 4000, .inl mdSize)), (MdAddress, .inl (cI, 4000, .inl mdAddress)), (MdMode, .inl (cI, 4000, .inl mdMode)), (MdCode, .inl (cI, 4000, .inl mdCode)), (MdWindow, .inl (cI, 4000, .inl mdWindow)), (Mrows, .inl (cB, 32000, .inl mrows)), (Mtab, .inl (cB, 1536, .inl t7)), (mm, .inr (9, fl 78 (va_up (va_up g_7 32 (.int (nI 0))) 39 (.int (bI false))))), (Msource, .inl (cB, 4000, .inl s7)), (MsourceFrom, .inl (cI, 4000, .inl f7)), (Mfirst, .inl (cB, 1536, .inl mfirst))] H := hP
            have hD : va_D A0 [(Mnears, .inl (cJ, 8, .inr (.inl mnears))), (Msames, .inl (cJ, 1024, .inr (.inl msames))), (Mout, .inl (cB, 4000, .inl mout)), (MoutFrom, .inl (cI, 4000, .inl moutFrom)), (MdKind, .inl (cI, 4000, .inl mdKind)), (MdSize, .inl (cI, 4000, .inl mdSize)), (MdAddress, .inl (cI, 4000, .inl mdAddress)), (MdMode, .inl (cI, 4000, .inl mdMode)), (MdCode, .inl (cI, 4000, .inl mdCode)), (MdWindow, .inl (cI, 4000, .inl mdWindow)), (Mrows, .inl (cB, 32000, .inl mrows)), (Mtab, .inl (cB, 1536, .inl t7)), (mm, .inr (9, fl 78 (va_up (va_up g_7 32 (.int (nI 0))) 39 (.int (bI false))))), (Msource, .inl (cB, 4000, .inl s7)), (MsourceFrom, .inl (cI, 4000, .inl f7)), (Mfirst, .inl (cB, 1536, .inl mfirst))] := hD
            refine lv_aload_n hx hb dX9_readTable_196 rfl (lv_at hl 6 rfl) ?_
            refine jn_v (wr := [(Mnears, .inl (cJ, 8, .inr (.inl mnears))), (Msames, .inl (cJ, 1024, .inr (.inl msames))), (Mout, .inl (cB, 4000, .inl mout)), (MoutFrom, .inl (cI, 4000, .inl moutFrom)), (MdKind, .inl (cI, 4000, .inl mdKind)), (MdSize, .inl (cI, 4000, .inl mdSize)), (MdAddress, .inl (cI, 4000, .inl mdAddress)), (MdMode, .inl (cI, 4000, .inl mdMode)), (MdCode, .inl (cI, 4000, .inl mdCode)), (MdWindow, .inl (cI, 4000, .inl mdWindow)), (Mtab, .inl (cB, 1536, .inl t7)), (Msource, .inl (cB, 4000, .inl s7)), (MsourceFrom, .inl (cI, 4000, .inl f7)), (Mfirst, .inl (cB, 1536, .inl mfirst))]) hA hP hD hS [12, 10] [0, 1, 2, 3, 4, 5, 6, 7, 8, 9, 11, 13, 14, 15] rfl rfl (by decide) (by decide) (rn_V (As := []) (rest := []) ⟨hx, hb, hml, hown, hts⟩ (cvV 0 hts zc_yX9_fourOctets zi_X9 zm_yX9_fourOctets zv_yX9_fourOctets kX9_228 (by decide +kernel) rfl rfl ⟨Nat.le_of_ble_eq_true rfl, Nat.le_of_ble_eq_true rfl⟩) (m_fourOctets l D cI cB cJ cR mm (va_up (va_up g_7 32 (.int (nI 0))) 39 (.int (bI false))) Mrows mrows fu_7 pl_7 a_5 (a_5 + z) bs b (k36_g_7) (k37_g_7) (k34_g_7) (k35_g_7) (k33_g_7) (k1_g_7) (hf_7) (by omega) (by omega) (fun j hj => hob j (by omega)) H.size) hK hNw hMk hA hP hD hS [12, 10] rfl rfl (by decide) 0 rfl rfl rfl rfl hl.1 rfl (Nat.le_of_ble_eq_true rfl) dX9_readTable_197 ⟨Nat.le_of_ble_eq_true rfl, Nat.le_of_ble_eq_true rfl⟩) (fun u9 H locs hfo hP hD hS => ?_)
            obtain ⟨g_9, fp, pp, ap⟩ := u9
            try dsimp only at hfo
            have hP : va_P D vwCl [(Mnears, .inl (cJ, 8, .inr (.inl mnears))), (Msames, .inl (cJ, 1024, .inr (.inl msames))), (Mout, .inl (cB, 4000, .inl mout)), (MoutFrom, .inl (cI, 4000, .inl moutFrom)), (MdKind, .inl (cI, 4000, .inl mdKind)), (MdSize, .inl (cI, 4000, .inl mdSize)), (MdAddress, .inl (cI, 4000, .inl mdAddress)), (MdMode, .inl (cI, 4000, .inl mdMode)), (MdCode, .inl (cI, 4000, .inl mdCode)), (MdWindow, .inl (cI, 4000, .inl mdWindow)), (Mtab, .inl (cB, 1536, .inl t7)), (Msource, .inl (cB, 4000, .inl s7)), (MsourceFrom, .inl (cI, 4000, .inl f7)), (Mfirst, .inl (cB, 1536, .inl mfirst)), (mm, .inr (9, fl 78 g_9)), (Mrows, .inl (cB, 32000, .inl mrows))] H := hP
            have hD : va_D A0 [(Mnears, .inl (cJ, 8, .inr (.inl mnears))), (Msames, .inl (cJ, 1024, .inr (.inl msames))), (Mout, .inl (cB, 4000, .inl mout)), (MoutFrom, .inl (cI, 4000, .inl moutFrom)), (MdKind, .inl (cI, 4000, .inl mdKind)), (MdSize, .inl (cI, 4000, .inl mdSize)), (MdAddress, .inl (cI, 4000, .inl mdAddress)), (MdMode, .inl (cI, 4000, .inl mdMode)), (MdCode, .inl (cI, 4000, .inl mdCode)), (MdWindow, .inl (cI, 4000, .inl mdWindow)), (Mtab, .inl (cB, 1536, .inl t7)), (Msource, .inl (cB, 4000, .inl s7)), (MsourceFrom, .inl (cI, 4000, .inl f7)), (Mfirst, .inl (cB, 1536, .inl mfirst)), (mm, .inr (9, fl 78 g_9)), (Mrows, .inl (cB, 32000, .inl mrows))] := hD
            obtain ⟨f_hfo, fault_hfo, place_hfo, at_hfo, hfo_⟩ := hfo
            have k33_g_9 : g_9 33 = .int (nI bs) := (f_hfo 33 (by decide)).trans (k33_g_7)
            have k1_g_9 : g_9 1 = .ref Mrows := (f_hfo 1 (by decide)).trans (k1_g_7)
            have k7_g_9 : g_9 7 = .ref Mtab := (f_hfo 7 (by decide)).trans (k7_g_7)
            have k10_g_9 : g_9 10 = .ref Mnears := (f_hfo 10 (by decide)).trans (k10_g_7)
            have k12_g_9 : g_9 12 = .ref Msames := (f_hfo 12 (by decide)).trans (k12_g_7)
            have k30_g_9 : g_9 30 = .ref Mout := (f_hfo 30 (by decide)).trans (k30_g_7)
            have k31_g_9 : g_9 31 = .ref MoutFrom := (f_hfo 31 (by decide)).trans (k31_g_7)
            have k27_g_9 : g_9 27 = .ref Msource := (f_hfo 27 (by decide)).trans (k27_g_7)
            have k28_g_9 : g_9 28 = .ref MsourceFrom := (f_hfo 28 (by decide)).trans (k28_g_7)
            have k21_g_9 : g_9 21 = .ref MdKind := (f_hfo 21 (by decide)).trans (k21_g_7)
            have k22_g_9 : g_9 22 = .ref MdSize := (f_hfo 22 (by decide)).trans (k22_g_7)
            have k23_g_9 : g_9 23 = .ref MdAddress := (f_hfo 23 (by decide)).trans (k23_g_7)
            have k24_g_9 : g_9 24 = .ref MdMode := (f_hfo 24 (by decide)).trans (k24_g_7)
            have k25_g_9 : g_9 25 = .ref MdCode := (f_hfo 25 (by decide)).trans (k25_g_7)
            have k26_g_9 : g_9 26 = .ref MdWindow := (f_hfo 26 (by decide)).trans (k26_g_7)
            have k3_g_9 : g_9 3 = .ref Mfirst := (f_hfo 3 (by decide)).trans (k3_g_7)
            have k35_g_9 : g_9 35 = .int (nI (a_5 + z)) := (f_hfo 35 (by decide)).trans (k35_g_7)
            have k38_g_9 : g_9 38 = .int (nI wr) := (f_hfo 38 (by decide)).trans (k38_g_7)
            have k20_g_9 : g_9 20 = .int (nI dr) := (f_hfo 20 (by decide)).trans (k20_g_7)
            have k39_g_9 : g_9 39 = .int (bI false) := (f_hfo 39 (by decide)).trans (rfl)
            have k51_g_9 : g_9 51 = .int pa := (f_hfo 51 (by decide)).trans (k51_g_7)
            have k8_g_9 : g_9 8 = .int (nI 4) := (f_hfo 8 (by decide)).trans (k8_g_7)
            have k9_g_9 : g_9 9 = .int (nI 3) := (f_hfo 9 (by decide)).trans (k9_g_7)
            have k29_g_9 : g_9 29 = .int (nI 1536) := (f_hfo 29 (by decide)).trans (sourceSize_hsi)
            have k32_g_9 : g_9 32 = .int (nI 0) := (f_hfo 32 (by decide)).trans (rfl)
            have fr_g_9 : frm [34, 35, 36, 37, 51, 8, 9, 39, 38, 20, 32, 29, 40, 41, 42, 43, 44, 45, 46, 47, 48, 49, 50, 11] g g_9 := frm_tr (frm_up (frm_up fr_g_7 (by decide)) (by decide)) f_hfo (by decide)
            obtain ⟨fo1, fo2, fo3, fo4⟩ := hfo_
            refine lv_aload_n hx hb dX9_readTable_200 rfl (lv_at hl 6 rfl) ?_
            refine jn_i (wr := [(Mnears, .inl (cJ, 8, .inr (.inl mnears))), (Msames, .inl (cJ, 1024, .inr (.inl msames))), (Mout, .inl (cB, 4000, .inl mout)), (MoutFrom, .inl (cI, 4000, .inl moutFrom)), (MdKind, .inl (cI, 4000, .inl mdKind)), (MdSize, .inl (cI, 4000, .inl mdSize)), (MdAddress, .inl (cI, 4000, .inl mdAddress)), (MdMode, .inl (cI, 4000, .inl mdMode)), (MdCode, .inl (cI, 4000, .inl mdCode)), (MdWindow, .inl (cI, 4000, .inl mdWindow)), (Mtab, .inl (cB, 1536, .inl t7)), (Msource, .inl (cB, 4000, .inl s7)), (MsourceFrom, .inl (cI, 4000, .inl f7)), (Mfirst, .inl (cB, 1536, .inl mfirst))]) hA hP hD hS [14, 15] [0, 1, 2, 3, 4, 5, 6, 7, 8, 9, 10, 11, 12, 13] rfl rfl (by decide) (by decide) (rn_V (As := []) (rest := []) ⟨hx, hb, hml, hown, hts⟩ (cvV 0 hts zc_yX9_take zi_X9 zm_yX9_take zv_yX9_take kX9_198 (by decide +kernel) rfl rfl ⟨Nat.le_of_ble_eq_true rfl, Nat.le_of_ble_eq_true rfl⟩) (m_take l D cI cB cJ cR mm g_9 Mrows mrows fp pp ap (a_5 + z) bs b (fault_hfo) (place_hfo) (at_hfo) (k35_g_9) (k33_g_9) (k1_g_9) (fo2) (by omega) (fo4) (fun j hj => hob j (by omega)) H.size) hK hNw hMk hA hP hD hS [14, 15] rfl rfl (by decide) 0 rfl rfl rfl rfl hl.1 rfl (Nat.le_of_ble_eq_true rfl) dX9_readTable_201 ⟨Nat.le_of_ble_eq_true rfl, Nat.le_of_ble_eq_true rfl⟩) (fun rk u9 H locs htk hP hD hS => ?_)
            obtain ⟨g_11, vk, fq, pq, aq⟩ := u9
            try dsimp only at htk
            have hP : va_P D vwCl [(Mnears, .inl (cJ, 8, .inr (.inl mnears))), (Msames, .inl (cJ, 1024, .inr (.inl msames))), (Mout, .inl (cB, 4000, .inl mout)), (MoutFrom, .inl (cI, 4000, .inl moutFrom)), (MdKind, .inl (cI, 4000, .inl mdKind)), (MdSize, .inl (cI, 4000, .inl mdSize)), (MdAddress, .inl (cI, 4000, .inl mdAddress)), (MdMode, .inl (cI, 4000, .inl mdMode)), (MdCode, .inl (cI, 4000, .inl mdCode)), (MdWindow, .inl (cI, 4000, .inl mdWindow)), (Mtab, .inl (cB, 1536, .inl t7)), (Msource, .inl (cB, 4000, .inl s7)), (MsourceFrom, .inl (cI, 4000, .inl f7)), (Mfirst, .inl (cB, 1536, .inl mfirst)), (mm, .inr (9, fl 78 g_11)), (Mrows, .inl (cB, 32000, .inl mrows))] H := hP
            have hD : va_D A0 [(Mnears, .inl (cJ, 8, .inr (.inl mnears))), (Msames, .inl (cJ, 1024, .inr (.inl msames))), (Mout, .inl (cB, 4000, .inl mout)), (MoutFrom, .inl (cI, 4000, .inl moutFrom)), (MdKind, .inl (cI, 4000, .inl mdKind)), (MdSize, .inl (cI, 4000, .inl mdSize)), (MdAddress, .inl (cI, 4000, .inl mdAddress)), (MdMode, .inl (cI, 4000, .inl mdMode)), (MdCode, .inl (cI, 4000, .inl mdCode)), (MdWindow, .inl (cI, 4000, .inl mdWindow)), (Mtab, .inl (cB, 1536, .inl t7)), (Msource, .inl (cB, 4000, .inl s7)), (MsourceFrom, .inl (cI, 4000, .inl f7)), (Mfirst, .inl (cB, 1536, .inl mfirst)), (mm, .inr (9, fl 78 g_11)), (Mrows, .inl (cB, 32000, .inl mrows))] := hD
            obtain ⟨f_htk, fault_htk, place_htk, at_htk, htk_⟩ := htk
            have k33_g_11 : g_11 33 = .int (nI bs) := (f_htk 33 (by decide)).trans (k33_g_9)
            have k1_g_11 : g_11 1 = .ref Mrows := (f_htk 1 (by decide)).trans (k1_g_9)
            have k7_g_11 : g_11 7 = .ref Mtab := (f_htk 7 (by decide)).trans (k7_g_9)
            have k10_g_11 : g_11 10 = .ref Mnears := (f_htk 10 (by decide)).trans (k10_g_9)
            have k12_g_11 : g_11 12 = .ref Msames := (f_htk 12 (by decide)).trans (k12_g_9)
            have k30_g_11 : g_11 30 = .ref Mout := (f_htk 30 (by decide)).trans (k30_g_9)
            have k31_g_11 : g_11 31 = .ref MoutFrom := (f_htk 31 (by decide)).trans (k31_g_9)
            have k27_g_11 : g_11 27 = .ref Msource := (f_htk 27 (by decide)).trans (k27_g_9)
            have k28_g_11 : g_11 28 = .ref MsourceFrom := (f_htk 28 (by decide)).trans (k28_g_9)
            have k21_g_11 : g_11 21 = .ref MdKind := (f_htk 21 (by decide)).trans (k21_g_9)
            have k22_g_11 : g_11 22 = .ref MdSize := (f_htk 22 (by decide)).trans (k22_g_9)
            have k23_g_11 : g_11 23 = .ref MdAddress := (f_htk 23 (by decide)).trans (k23_g_9)
            have k24_g_11 : g_11 24 = .ref MdMode := (f_htk 24 (by decide)).trans (k24_g_9)
            have k25_g_11 : g_11 25 = .ref MdCode := (f_htk 25 (by decide)).trans (k25_g_9)
            have k26_g_11 : g_11 26 = .ref MdWindow := (f_htk 26 (by decide)).trans (k26_g_9)
            have k3_g_11 : g_11 3 = .ref Mfirst := (f_htk 3 (by decide)).trans (k3_g_9)
            have k35_g_11 : g_11 35 = .int (nI (a_5 + z)) := (f_htk 35 (by decide)).trans (k35_g_9)
            have k38_g_11 : g_11 38 = .int (nI wr) := (f_htk 38 (by decide)).trans (k38_g_9)
            have k20_g_11 : g_11 20 = .int (nI dr) := (f_htk 20 (by decide)).trans (k20_g_9)
            have k39_g_11 : g_11 39 = .int (bI false) := (f_htk 39 (by decide)).trans (k39_g_9)
            have k51_g_11 : g_11 51 = .int pa := (f_htk 51 (by decide)).trans (k51_g_9)
            have k8_g_11 : g_11 8 = .int (nI 4) := (f_htk 8 (by decide)).trans (k8_g_9)
            have k9_g_11 : g_11 9 = .int (nI 3) := (f_htk 9 (by decide)).trans (k9_g_9)
            have k29_g_11 : g_11 29 = .int (nI 1536) := (f_htk 29 (by decide)).trans (k29_g_9)
            have k32_g_11 : g_11 32 = .int (nI 0) := (f_htk 32 (by decide)).trans (k32_g_9)
            have fr_g_11 : frm [34, 35, 36, 37, 51, 8, 9, 39, 38, 20, 32, 29, 40, 41, 42, 43, 44, 45, 46, 47, 48, 49, 50, 11] g g_11 := frm_tr fr_g_9 f_htk (by decide)
            obtain ⟨tk0, tk1, tk2, tk3, tk4, tk5⟩ := htk_
            subst tk0
            refine lv_istore (lv' := [(8, .int (nI vk)), (7, .int (nI e)), (6, .int (nI a_5)), (5, .int (nI v_5)), (1, .int (nI a_3)), (4, .int (nI v_3)), (2, .long (lN v_1)), (0, .ref mm)]) hx hb dX9_readTable_204 hl (by decide) rfl (fun ls hl => ?_)
            have JK : ∀ (gj_JK : Nat → Value) (fr : Nat) (pr : Nat) (H : Heap) (locs : List Loc) (ls : Array Slot), (frm [34, 35, 36, 37, 51, 8, 9, 39, 38, 20, 32, 29, 40, 41, 42, 43, 44, 45, 46, 47, 48, 49, 50, 11] g gj_JK) → (gj_JK 35 = .int (nI (a_5 + z))) → (gj_JK 38 = .int (nI wr)) → (gj_JK 20 = .int (nI dr)) → (gj_JK 39 = .int (bI false)) → (gj_JK 51 = .int pa) → (gj_JK 8 = .int (nI 4)) → (gj_JK 9 = .int (nI 3)) → (gj_JK 29 = .int (nI 1536)) → (gj_JK 32 = .int (nI 0)) → (gj_JK 36 = .int (nI fr)) → (gj_JK 37 = .int (nI pr)) → (gj_JK 34 = .int (nI aq)) → (fr = (tbI b (a_5 + z) a_5).1) → (aq = (tbI b (a_5 + z) a_5).2.2) → (fr = 0 → pr = (tbI b (a_5 + z) a_5).2.1) → (fr < 2 ^ 31) → va_P D vwCl [(mm, .inr (9, fl 78 gj_JK)), (Mnears, .inl (cJ, 8, .inr (.inl mnears))), (Msames, .inl (cJ, 1024, .inr (.inl msames))), (Mout, .inl (cB, 4000, .inl mout)), (MoutFrom, .inl (cI, 4000, .inl moutFrom)), (MdKind, .inl (cI, 4000, .inl mdKind)), (MdSize, .inl (cI, 4000, .inl mdSize)), (MdAddress, .inl (cI, 4000, .inl mdAddress)), (MdMode, .inl (cI, 4000, .inl mdMode)), (MdCode, .inl (cI, 4000, .inl mdCode)), (MdWindow, .inl (cI, 4000, .inl mdWindow)), (Mtab, .inl (cB, 1536, .inl t7)), (Msource, .inl (cB, 4000, .inl s7)), (MsourceFrom, .inl (cI, 4000, .inl f7)), (Mfirst, .inl (cB, 1536, .inl mfirst)), (Mrows, .inl (cB, 32000, .inl mrows))] H → va_D A0 [(mm, .inr (9, fl 78 gj_JK)), (Mnears, .inl (cJ, 8, .inr (.inl mnears))), (Msames, .inl (cJ, 1024, .inr (.inl msames))), (Mout, .inl (cB, 4000, .inl mout)), (MoutFrom, .inl (cI, 4000, .inl moutFrom)), (MdKind, .inl (cI, 4000, .inl mdKind)), (MdSize, .inl (cI, 4000, .inl mdSize)), (MdAddress, .inl (cI, 4000, .inl mdAddress)), (MdMode, .inl (cI, 4000, .inl mdMode)), (MdCode, .inl (cI, 4000, .inl mdCode)), (MdWindow, .inl (cI, 4000, .inl mdWindow)), (Mtab, .inl (cB, 1536, .inl t7)), (Msource, .inl (cB, 4000, .inl s7)), (MsourceFrom, .inl (cI, 4000, .inl f7)), (Mfirst, .inl (cB, 1536, .inl mfirst)), (Mrows, .inl (cB, 32000, .inl mrows))] → va_S A0 s0.heap H locs → lv_has ls 10 [(8, .int (nI vk)), (7, .int (nI e)), (6, .int (nI a_5)), (5, .int (nI v_5)), (1, .int (nI a_3)), (4, .int (nI v_3)), (2, .long (lN v_1)), (0, .ref mm)] → W p0 l e0 ({ frames := 6, cells := 0, slots := 0, locals := 161 }) s0 m0 ([.ref mm] : List Value).toArray below meth c0 H locs 0 0 Q0 (F0 m0 225 ls []) := by
              intro gj_JK fr pr H locs ls hf_JK k_end_JK k_windows_JK k_drafts_JK k_counts_JK k_partAt_JK k_near_JK k_same_JK k_sourceSize_JK k_outSize_JK k_fault_JK k_place_JK k_at_JK hi1 hi2 hi3 hfr hP hD hS hl
              refine lv_aload_n hx hb dX9_readTable_225 rfl (lv_at hl 7 rfl) ?_
              refine jn_v (wr := [(Mfirst, .inl (cB, 1536, .inl mfirst))]) hA hP hD hS [0, 15, 11, 1, 2, 3, 4, 12, 13, 5, 6, 7, 8, 9, 10] [14] rfl rfl (by decide) (by decide) (rn_V (As := []) (rest := []) ⟨hx, hb, hml, hown, hts⟩ (cvV 0 hts zc_yX9_readWindows zi_X9 zm_yX9_readWindows zv_yX9_readWindows kX9_231 (by decide +kernel) rfl rfl ⟨Nat.le_of_ble_eq_true rfl, Nat.le_of_ble_eq_true rfl⟩) (m_readWindows l D cI cB cJ cR mm gj_JK Mrows Mtab Mnears Msames Mout MoutFrom Msource MsourceFrom MdKind MdSize MdAddress MdMode MdCode MdWindow mrows t7 mnears msames mout moutFrom s7 f7 mdKind mdSize mdAddress mdMode mdCode mdWindow bs (a_5 + z) aq 0 4 3 wr dr fr pr 1536 0 0 pa b firstT firstT (fun _ => 0) (fun _ => 0) (fun _ => -1) g00 false (k_at_JK) (k_end_JK) ((hf_JK 33 (by decide)).trans g_base) (k_outSize_JK) (k_sourceSize_JK) (k_near_JK) (k_same_JK) (k_counts_JK) (k_windows_JK) (k_drafts_JK) (k_fault_JK) (k_place_JK) (k_partAt_JK) ((hf_JK 1 (by decide)).trans g_rows) ((hf_JK 7 (by decide)).trans g_tab) ((hf_JK 10 (by decide)).trans g_nears) ((hf_JK 12 (by decide)).trans g_sames) ((hf_JK 30 (by decide)).trans g_out) ((hf_JK 31 (by decide)).trans g_outFrom) ((hf_JK 27 (by decide)).trans g_source) ((hf_JK 28 (by decide)).trans g_sourceFrom) ((hf_JK 21 (by decide)).trans g_dKind) ((hf_JK 22 (by decide)).trans g_dSize) ((hf_JK 23 (by decide)).trans g_dAddress) ((hf_JK 24 (by decide)).trans g_dMode) ((hf_JK 25 (by decide)).trans g_dCode) ((hf_JK 26 (by decide)).trans g_dWindow) (by omega) (tk4) (fun j hj => hob j (by omega)) (hus_) (first_right) (by decide) (by decide) (fun j hj => absurd hj (Nat.not_lt_zero j)) (by decide) (si1) (fun i hi => by rw [si2 i hi]; rfl) (by decide) (by decide) (fun z => absurd z (by decide)) (hfr) (by omega) (hwr) H.size) hK hNw hMk hA hP hD hS [0, 15, 11, 1, 2, 3, 4, 12, 13, 5, 6, 7, 8, 9, 10] rfl rfl (by decide) 0 rfl rfl rfl rfl hl.1 rfl (Nat.le_of_ble_eq_true rfl) dX9_readTable_226 ⟨Nat.le_of_ble_eq_true rfl, Nat.le_of_ble_eq_true rfl⟩) (fun u9 H locs hrw hP hD hS => ?_)
              obtain ⟨g_12, a9, n9, dr9, fu9, pl9, pa9, wr9, cnt9, xa9, xw9, xn9, B9, G9, gg9, fn9, fs9, o9, of9, dKind9, dSize9, dAddress9, dMode9, dCode9, dWindow9⟩ := u9
              try dsimp only at hrw
              have hP : va_P D vwCl [(Mfirst, .inl (cB, 1536, .inl mfirst)), (mm, .inr (9, fl 78 g_12)), (Mrows, .inl (cB, 32000, .inl mrows)), (Mtab, .inl (cB, 1536, .inl t7)), (Mnears, .inl (cJ, 8, .inr (.inl fn9))), (Msames, .inl (cJ, 1024, .inr (.inl fs9))), (Mout, .inl (cB, 4000, .inl o9)), (MoutFrom, .inl (cI, 4000, .inl of9)), (Msource, .inl (cB, 4000, .inl s7)), (MsourceFrom, .inl (cI, 4000, .inl f7)), (MdKind, .inl (cI, 4000, .inl dKind9)), (MdSize, .inl (cI, 4000, .inl dSize9)), (MdAddress, .inl (cI, 4000, .inl dAddress9)), (MdMode, .inl (cI, 4000, .inl dMode9)), (MdCode, .inl (cI, 4000, .inl dCode9)), (MdWindow, .inl (cI, 4000, .inl dWindow9))] H := hP
              have hD : va_D A0 [(Mfirst, .inl (cB, 1536, .inl mfirst)), (mm, .inr (9, fl 78 g_12)), (Mrows, .inl (cB, 32000, .inl mrows)), (Mtab, .inl (cB, 1536, .inl t7)), (Mnears, .inl (cJ, 8, .inr (.inl fn9))), (Msames, .inl (cJ, 1024, .inr (.inl fs9))), (Mout, .inl (cB, 4000, .inl o9)), (MoutFrom, .inl (cI, 4000, .inl of9)), (Msource, .inl (cB, 4000, .inl s7)), (MsourceFrom, .inl (cI, 4000, .inl f7)), (MdKind, .inl (cI, 4000, .inl dKind9)), (MdSize, .inl (cI, 4000, .inl dSize9)), (MdAddress, .inl (cI, 4000, .inl dAddress9)), (MdMode, .inl (cI, 4000, .inl dMode9)), (MdCode, .inl (cI, 4000, .inl dCode9)), (MdWindow, .inl (cI, 4000, .inl dWindow9))] := hD
              obtain ⟨f_hrw, at_hrw, outSize_hrw, drafts_hrw, fault_hrw, place_hrw, partAt_hrw, windows_hrw, hrw_⟩ := hrw
              have k33_g_12 : g_12 33 = .int (nI bs) := (f_hrw 33 (by decide)).trans ((hf_JK 33 (by decide)).trans g_base)
              have k1_g_12 : g_12 1 = .ref Mrows := (f_hrw 1 (by decide)).trans ((hf_JK 1 (by decide)).trans g_rows)
              have k7_g_12 : g_12 7 = .ref Mtab := (f_hrw 7 (by decide)).trans ((hf_JK 7 (by decide)).trans g_tab)
              have k10_g_12 : g_12 10 = .ref Mnears := (f_hrw 10 (by decide)).trans ((hf_JK 10 (by decide)).trans g_nears)
              have k12_g_12 : g_12 12 = .ref Msames := (f_hrw 12 (by decide)).trans ((hf_JK 12 (by decide)).trans g_sames)
              have k30_g_12 : g_12 30 = .ref Mout := (f_hrw 30 (by decide)).trans ((hf_JK 30 (by decide)).trans g_out)
              have k31_g_12 : g_12 31 = .ref MoutFrom := (f_hrw 31 (by decide)).trans ((hf_JK 31 (by decide)).trans g_outFrom)
              have k27_g_12 : g_12 27 = .ref Msource := (f_hrw 27 (by decide)).trans ((hf_JK 27 (by decide)).trans g_source)
              have k28_g_12 : g_12 28 = .ref MsourceFrom := (f_hrw 28 (by decide)).trans ((hf_JK 28 (by decide)).trans g_sourceFrom)
              have k21_g_12 : g_12 21 = .ref MdKind := (f_hrw 21 (by decide)).trans ((hf_JK 21 (by decide)).trans g_dKind)
              have k22_g_12 : g_12 22 = .ref MdSize := (f_hrw 22 (by decide)).trans ((hf_JK 22 (by decide)).trans g_dSize)
              have k23_g_12 : g_12 23 = .ref MdAddress := (f_hrw 23 (by decide)).trans ((hf_JK 23 (by decide)).trans g_dAddress)
              have k24_g_12 : g_12 24 = .ref MdMode := (f_hrw 24 (by decide)).trans ((hf_JK 24 (by decide)).trans g_dMode)
              have k25_g_12 : g_12 25 = .ref MdCode := (f_hrw 25 (by decide)).trans ((hf_JK 25 (by decide)).trans g_dCode)
              have k26_g_12 : g_12 26 = .ref MdWindow := (f_hrw 26 (by decide)).trans ((hf_JK 26 (by decide)).trans g_dWindow)
              have k3_g_12 : g_12 3 = .ref Mfirst := (f_hrw 3 (by decide)).trans ((hf_JK 3 (by decide)).trans g_first)
              have k35_g_12 : g_12 35 = .int (nI (a_5 + z)) := (f_hrw 35 (by decide)).trans (k_end_JK)
              have k39_g_12 : g_12 39 = .int (bI false) := (f_hrw 39 (by decide)).trans (k_counts_JK)
              have k8_g_12 : g_12 8 = .int (nI 4) := (f_hrw 8 (by decide)).trans (k_near_JK)
              have k9_g_12 : g_12 9 = .int (nI 3) := (f_hrw 9 (by decide)).trans (k_same_JK)
              have k29_g_12 : g_12 29 = .int (nI 1536) := (f_hrw 29 (by decide)).trans (k_sourceSize_JK)
              have fr_g_12 : frm [34, 35, 36, 37, 51, 8, 9, 39, 38, 20, 32, 29, 40, 41, 42, 43, 44, 45, 46, 47, 48, 49, 50, 11] g g_12 := frm_tr hf_JK f_hrw (by decide)
              obtain ⟨c1, c2, c3, c4, c5, c6, c7, c8⟩ := hrw_
              obtain ⟨d1, d2⟩ := c4 rfl
              have d1 := d1.symm; subst d1
              have d2 := d2.symm; subst d2
              have htg := tb_good (b := b) (e := (a_5 + z)) (s := (fr, pr, aq)) (a := a_5) (fun j hj => hb9 j (by omega)) hi1 hi2 hi3 c1
              have hTR : tbR b e (fu, pl, a) = tbX b (a_5 + z) a_5 := by rw [tbR, hTS, hTZ]
              refine lv_aload_n hx hb dX9_readTable_229 rfl (lv_at hl 7 rfl) ?_
              refine lv_iconst (v := 1) hx hb dX9_readTable_230 (by decide) ?_
              refine ri (y := bI true) rfl ?_
              refine fx_put (D := D) (ci := 9) (v := .int (bI true)) (ty := .boolean) (C := RX9) (T := TX9) (N := 78) hx hb hts in_X9 tyX9 tyX9_ok nmX9 hown hK hP hD hS 1 rfl rfl 39 (by decide) (hts _ kX9_224) (fun _ h9 => h9) rfl (by decide +kernel) (by cases true <;> rfl) rfl dX9_readTable_231 (fun H locs hP hD hS => ?_)
              have hP : va_P D vwCl [(Mfirst, .inl (cB, 1536, .inl mfirst)), (mm, .inr (9, fl 78 (va_up g_12 39 (.int (bI true))))), (Mrows, .inl (cB, 32000, .inl mrows)), (Mtab, .inl (cB, 1536, .inl t7)), (Mnears, .inl (cJ, 8, .inr (.inl fn9))), (Msames, .inl (cJ, 1024, .inr (.inl fs9))), (Mout, .inl (cB, 4000, .inl o9)), (MoutFrom, .inl (cI, 4000, .inl of9)), (Msource, .inl (cB, 4000, .inl s7)), (MsourceFrom, .inl (cI, 4000, .inl f7)), (MdKind, .inl (cI, 4000, .inl dKind9)), (MdSize, .inl (cI, 4000, .inl dSize9)), (MdAddress, .inl (cI, 4000, .inl dAddress9)), (MdMode, .inl (cI, 4000, .inl dMode9)), (MdCode, .inl (cI, 4000, .inl dCode9)), (MdWindow, .inl (cI, 4000, .inl dWindow9))] H := hP
              have hD : va_D A0 [(Mfirst, .inl (cB, 1536, .inl mfirst)), (mm, .inr (9, fl 78 (va_up g_12 39 (.int (bI true))))), (Mrows, .inl (cB, 32000, .inl mrows)), (Mtab, .inl (cB, 1536, .inl t7)), (Mnears, .inl (cJ, 8, .inr (.inl fn9))), (Msames, .inl (cJ, 1024, .inr (.inl fs9))), (Mout, .inl (cB, 4000, .inl o9)), (MoutFrom, .inl (cI, 4000, .inl of9)), (Msource, .inl (cB, 4000, .inl s7)), (MsourceFrom, .inl (cI, 4000, .inl f7)), (MdKind, .inl (cI, 4000, .inl dKind9)), (MdSize, .inl (cI, 4000, .inl dSize9)), (MdAddress, .inl (cI, 4000, .inl dAddress9)), (MdMode, .inl (cI, 4000, .inl dMode9)), (MdCode, .inl (cI, 4000, .inl dCode9)), (MdWindow, .inl (cI, 4000, .inl dWindow9))] := hD
              refine lv_aload_n hx hb dX9_readTable_234 rfl (lv_at hl 7 rfl) ?_
              refine fx_get (D := D) (ci := 9) (v := .int (nI fu9)) (C := RX9) (T := TX9) (N := 78) hx hb hts in_X9 hown hK hP 1 rfl rfl 36 (by decide) (hts _ kX9_179) (fun _ h9 => h9) (fault_hrw) dX9_readTable_235 ?_
              refine lv_if_ne (tgt := 272) hx hb dX9_readTable_238 (by decide) (fun c_14 => ?_) (fun c_14 => ?_)
              · have hz9 : ¬ fu9 = 0 := fun z => c_14 (by rw [z]; decide)
                have hng : tbG (tbR b e (fu, pl, a)) (v_3 + v_5 + 2) = false := by rw [hTR]; exact decide_eq_false (fun w => hz9 ((htg.1.mpr ⟨w.1, w.2.1⟩).1))
                refine lv_iconst (v := 0) hx hb dX9_readTable_272 (by decide) ?_
                refine lv_istore (lv' := [(9, .int 0), (8, .int (nI vk)), (7, .int (nI e)), (6, .int (nI a_5)), (5, .int (nI v_5)), (1, .int (nI a_3)), (4, .int (nI v_3)), (2, .long (lN v_1)), (0, .ref mm)]) hx hb dX9_readTable_273 hl (by decide) rfl (fun ls hl => ?_)
                refine lv_iload hx hb dX9_readTable_275 (lv_at hl 0 rfl) ?_
                refine lv_if_ne (tgt := 293) hx hb dX9_readTable_277 (by decide) (fun c_15 => absurd (by decide) c_15) (fun c_15 => ?_)
                refine lv_aload_n hx hb dX9_readTable_280 rfl (lv_at hl 8 rfl) ?_
                refine lv_bipush (v := 18) hx hb dX9_readTable_281 (by decide) ?_
                refine ri (y := nI 18) rfl ?_
                refine fx_put (D := D) (ci := 9) (v := .int (nI 18)) (ty := .int) (C := RX9) (T := TX9) (N := 78) hx hb hts in_X9 tyX9 tyX9_ok nmX9 hown hK hP hD hS 1 rfl rfl 36 (by decide) (hts _ kX9_179) (fun _ h9 => h9) rfl (by decide +kernel) rfl rfl dX9_readTable_283 (fun H locs hP hD hS => ?_)
                have hP : va_P D vwCl [(Mfirst, .inl (cB, 1536, .inl mfirst)), (mm, .inr (9, fl 78 (va_up (va_up g_12 39 (.int (bI true))) 36 (.int (nI 18))))), (Mrows, .inl (cB, 32000, .inl mrows)), (Mtab, .inl (cB, 1536, .inl t7)), (Mnears, .inl (cJ, 8, .inr (.inl fn9))), (Msames, .inl (cJ, 1024, .inr (.inl fs9))), (Mout, .inl (cB, 4000, .inl o9)), (MoutFrom, .inl (cI, 4000, .inl of9)), (Msource, .inl (cB, 4000, .inl s7)), (MsourceFrom, .inl (cI, 4000, .inl f7)), (MdKind, .inl (cI, 4000, .inl dKind9)), (MdSize, .inl (cI, 4000, .inl dSize9)), (MdAddress, .inl (cI, 4000, .inl dAddress9)), (MdMode, .inl (cI, 4000, .inl dMode9)), (MdCode, .inl (cI, 4000, .inl dCode9)), (MdWindow, .inl (cI, 4000, .inl dWindow9))] H := hP
                have hD : va_D A0 [(Mfirst, .inl (cB, 1536, .inl mfirst)), (mm, .inr (9, fl 78 (va_up (va_up g_12 39 (.int (bI true))) 36 (.int (nI 18))))), (Mrows, .inl (cB, 32000, .inl mrows)), (Mtab, .inl (cB, 1536, .inl t7)), (Mnears, .inl (cJ, 8, .inr (.inl fn9))), (Msames, .inl (cJ, 1024, .inr (.inl fs9))), (Mout, .inl (cB, 4000, .inl o9)), (MoutFrom, .inl (cI, 4000, .inl of9)), (Msource, .inl (cB, 4000, .inl s7)), (MsourceFrom, .inl (cI, 4000, .inl f7)), (MdKind, .inl (cI, 4000, .inl dKind9)), (MdSize, .inl (cI, 4000, .inl dSize9)), (MdAddress, .inl (cI, 4000, .inl dAddress9)), (MdMode, .inl (cI, 4000, .inl dMode9)), (MdCode, .inl (cI, 4000, .inl dCode9)), (MdWindow, .inl (cI, 4000, .inl dWindow9))] := hD
                refine lv_aload_n hx hb dX9_readTable_286 rfl (lv_at hl 8 rfl) ?_
                refine lv_iload hx hb dX9_readTable_287 (lv_at hl 3 rfl) ?_
                refine fx_put (D := D) (ci := 9) (v := .int (nI a_5)) (ty := .int) (C := RX9) (T := TX9) (N := 78) hx hb hts in_X9 tyX9 tyX9_ok nmX9 hown hK hP hD hS 1 rfl rfl 37 (by decide) (hts _ kX9_182) (fun _ h9 => h9) rfl (by decide +kernel) rfl rfl dX9_readTable_289 (fun H locs hP hD hS => ?_)
                have hP : va_P D vwCl [(Mfirst, .inl (cB, 1536, .inl mfirst)), (mm, .inr (9, fl 78 (va_up (va_up (va_up g_12 39 (.int (bI true))) 36 (.int (nI 18))) 37 (.int (nI a_5))))), (Mrows, .inl (cB, 32000, .inl mrows)), (Mtab, .inl (cB, 1536, .inl t7)), (Mnears, .inl (cJ, 8, .inr (.inl fn9))), (Msames, .inl (cJ, 1024, .inr (.inl fs9))), (Mout, .inl (cB, 4000, .inl o9)), (MoutFrom, .inl (cI, 4000, .inl of9)), (Msource, .inl (cB, 4000, .inl s7)), (MsourceFrom, .inl (cI, 4000, .inl f7)), (MdKind, .inl (cI, 4000, .inl dKind9)), (MdSize, .inl (cI, 4000, .inl dSize9)), (MdAddress, .inl (cI, 4000, .inl dAddress9)), (MdMode, .inl (cI, 4000, .inl dMode9)), (MdCode, .inl (cI, 4000, .inl dCode9)), (MdWindow, .inl (cI, 4000, .inl dWindow9))] H := hP
                have hD : va_D A0 [(Mfirst, .inl (cB, 1536, .inl mfirst)), (mm, .inr (9, fl 78 (va_up (va_up (va_up g_12 39 (.int (bI true))) 36 (.int (nI 18))) 37 (.int (nI a_5))))), (Mrows, .inl (cB, 32000, .inl mrows)), (Mtab, .inl (cB, 1536, .inl t7)), (Mnears, .inl (cJ, 8, .inr (.inl fn9))), (Msames, .inl (cJ, 1024, .inr (.inl fs9))), (Mout, .inl (cB, 4000, .inl o9)), (MoutFrom, .inl (cI, 4000, .inl of9)), (Msource, .inl (cB, 4000, .inl s7)), (MsourceFrom, .inl (cI, 4000, .inl f7)), (MdKind, .inl (cI, 4000, .inl dKind9)), (MdSize, .inl (cI, 4000, .inl dSize9)), (MdAddress, .inl (cI, 4000, .inl dAddress9)), (MdMode, .inl (cI, 4000, .inl dMode9)), (MdCode, .inl (cI, 4000, .inl dCode9)), (MdWindow, .inl (cI, 4000, .inl dWindow9))] := hD
                have hP := hP.sub (ws' := [(mm, .inr (9, fl 78 (va_up (va_up (va_up g_12 39 (.int (bI true))) 36 (.int (nI 18))) 37 (.int (nI a_5))))), (Mrows, .inl (cB, 32000, .inl mrows)), (Mtab, .inl (cB, 1536, .inl t7)), (Mnears, .inl (cJ, 8, .inr (.inl fn9))), (Msames, .inl (cJ, 1024, .inr (.inl fs9))), (Mout, .inl (cB, 4000, .inl o9)), (MoutFrom, .inl (cI, 4000, .inl of9)), (Msource, .inl (cB, 4000, .inl s7)), (MsourceFrom, .inl (cI, 4000, .inl f7)), (MdKind, .inl (cI, 4000, .inl dKind9)), (MdSize, .inl (cI, 4000, .inl dSize9)), (MdAddress, .inl (cI, 4000, .inl dAddress9)), (MdMode, .inl (cI, 4000, .inl dMode9)), (MdCode, .inl (cI, 4000, .inl dCode9)), (MdWindow, .inl (cI, 4000, .inl dWindow9)), (Mfirst, .inl (cB, 1536, .inl mfirst))]) [1, 2, 3, 4, 5, 6, 7, 8, 9, 10, 11, 12, 13, 14, 15, 0] rfl
                have hD := hD.sub (ws' := [(mm, .inr (9, fl 78 (va_up (va_up (va_up g_12 39 (.int (bI true))) 36 (.int (nI 18))) 37 (.int (nI a_5))))), (Mrows, .inl (cB, 32000, .inl mrows)), (Mtab, .inl (cB, 1536, .inl t7)), (Mnears, .inl (cJ, 8, .inr (.inl fn9))), (Msames, .inl (cJ, 1024, .inr (.inl fs9))), (Mout, .inl (cB, 4000, .inl o9)), (MoutFrom, .inl (cI, 4000, .inl of9)), (Msource, .inl (cB, 4000, .inl s7)), (MsourceFrom, .inl (cI, 4000, .inl f7)), (MdKind, .inl (cI, 4000, .inl dKind9)), (MdSize, .inl (cI, 4000, .inl dSize9)), (MdAddress, .inl (cI, 4000, .inl dAddress9)), (MdMode, .inl (cI, 4000, .inl dMode9)), (MdCode, .inl (cI, 4000, .inl dCode9)), (MdWindow, .inl (cI, 4000, .inl dWindow9)), (Mfirst, .inl (cB, 1536, .inl mfirst))]) [1, 2, 3, 4, 5, 6, 7, 8, 9, 10, 11, 12, 13, 14, 15, 0] (by decide) rfl
                exact hret 292 ls _ _ ((va_up (va_up (va_up g_12 39 (.int (bI true))) 36 (.int (nI 18))) 37 (.int (nI a_5))), a9, (a_5 + z), 18, a_5, pa9, 4, 3, (a_5 + z), t7, fn9, fs9, o9, of9, s7, f7, dKind9, dSize9, dAddress9, dMode9, dCode9, dWindow9) dX9_readTable_292 hP hD hS (⟨(frm_up (frm_up (frm_up fr_g_12 (by decide)) (by decide)) (by decide)), at_hrw, k35_g_12, rfl, rfl, partAt_hrw, k8_g_12, k9_g_12, rfl, windows_hrw, drafts_hrw, ⟨by rw [tbE, hTN, hTM, hng, hTZ, hTS, skS, if_pos rfl, if_pos hz], by decide, fun z => absurd z (by decide)⟩⟩)
              · have hz9 : fu9 = 0 := Decidable.byContradiction (fun z => nI_ne0 (Nat.pos_of_ne_zero z) c6 c_14)
                obtain ⟨f1, f2, f3⟩ := c2 hz9
                refine lv_aload_n hx hb dX9_readTable_241 rfl (lv_at hl 7 rfl) ?_
                refine fx_get (D := D) (ci := 9) (v := .int (nI n9)) (C := RX9) (T := TX9) (N := 78) hx hb hts in_X9 hown hK hP 1 rfl rfl 32 (by decide) (hts _ kX9_221) (fun _ h9 => h9) (outSize_hrw) dX9_readTable_242 ?_
                refine lv_sipush (v := 1536) hx hb dX9_readTable_245 (by decide) ?_
                refine lv_icmp_ne (tgt := 272) hx hb dX9_readTable_248 (by decide) (fun c_16 => ?_) (fun c_16 => ?_)
                · have hn9 : ¬ xn9 = 1536 := fun z => c_16 (by rw [f2, z]; rfl)
                  have hng : tbG (tbR b e (fu, pl, a)) (v_3 + v_5 + 2) = false := by rw [hTR]; exact decide_eq_false (fun w => hn9 ((htg.1.mpr ⟨w.1, w.2.1⟩).2))
                  refine lv_iconst (v := 0) hx hb dX9_readTable_272 (by decide) ?_
                  refine lv_istore (lv' := [(9, .int 0), (8, .int (nI vk)), (7, .int (nI e)), (6, .int (nI a_5)), (5, .int (nI v_5)), (1, .int (nI a_3)), (4, .int (nI v_3)), (2, .long (lN v_1)), (0, .ref mm)]) hx hb dX9_readTable_273 hl (by decide) rfl (fun ls hl => ?_)
                  refine lv_iload hx hb dX9_readTable_275 (lv_at hl 0 rfl) ?_
                  refine lv_if_ne (tgt := 293) hx hb dX9_readTable_277 (by decide) (fun c_17 => absurd (by decide) c_17) (fun c_17 => ?_)
                  refine lv_aload_n hx hb dX9_readTable_280 rfl (lv_at hl 8 rfl) ?_
                  refine lv_bipush (v := 18) hx hb dX9_readTable_281 (by decide) ?_
                  refine ri (y := nI 18) rfl ?_
                  refine fx_put (D := D) (ci := 9) (v := .int (nI 18)) (ty := .int) (C := RX9) (T := TX9) (N := 78) hx hb hts in_X9 tyX9 tyX9_ok nmX9 hown hK hP hD hS 1 rfl rfl 36 (by decide) (hts _ kX9_179) (fun _ h9 => h9) rfl (by decide +kernel) rfl rfl dX9_readTable_283 (fun H locs hP hD hS => ?_)
                  have hP : va_P D vwCl [(Mfirst, .inl (cB, 1536, .inl mfirst)), (mm, .inr (9, fl 78 (va_up (va_up g_12 39 (.int (bI true))) 36 (.int (nI 18))))), (Mrows, .inl (cB, 32000, .inl mrows)), (Mtab, .inl (cB, 1536, .inl t7)), (Mnears, .inl (cJ, 8, .inr (.inl fn9))), (Msames, .inl (cJ, 1024, .inr (.inl fs9))), (Mout, .inl (cB, 4000, .inl o9)), (MoutFrom, .inl (cI, 4000, .inl of9)), (Msource, .inl (cB, 4000, .inl s7)), (MsourceFrom, .inl (cI, 4000, .inl f7)), (MdKind, .inl (cI, 4000, .inl dKind9)), (MdSize, .inl (cI, 4000, .inl dSize9)), (MdAddress, .inl (cI, 4000, .inl dAddress9)), (MdMode, .inl (cI, 4000, .inl dMode9)), (MdCode, .inl (cI, 4000, .inl dCode9)), (MdWindow, .inl (cI, 4000, .inl dWindow9))] H := hP
                  have hD : va_D A0 [(Mfirst, .inl (cB, 1536, .inl mfirst)), (mm, .inr (9, fl 78 (va_up (va_up g_12 39 (.int (bI true))) 36 (.int (nI 18))))), (Mrows, .inl (cB, 32000, .inl mrows)), (Mtab, .inl (cB, 1536, .inl t7)), (Mnears, .inl (cJ, 8, .inr (.inl fn9))), (Msames, .inl (cJ, 1024, .inr (.inl fs9))), (Mout, .inl (cB, 4000, .inl o9)), (MoutFrom, .inl (cI, 4000, .inl of9)), (Msource, .inl (cB, 4000, .inl s7)), (MsourceFrom, .inl (cI, 4000, .inl f7)), (MdKind, .inl (cI, 4000, .inl dKind9)), (MdSize, .inl (cI, 4000, .inl dSize9)), (MdAddress, .inl (cI, 4000, .inl dAddress9)), (MdMode, .inl (cI, 4000, .inl dMode9)), (MdCode, .inl (cI, 4000, .inl dCode9)), (MdWindow, .inl (cI, 4000, .inl dWindow9))] := hD
                  refine lv_aload_n hx hb dX9_readTable_286 rfl (lv_at hl 8 rfl) ?_
                  refine lv_iload hx hb dX9_readTable_287 (lv_at hl 3 rfl) ?_
                  refine fx_put (D := D) (ci := 9) (v := .int (nI a_5)) (ty := .int) (C := RX9) (T := TX9) (N := 78) hx hb hts in_X9 tyX9 tyX9_ok nmX9 hown hK hP hD hS 1 rfl rfl 37 (by decide) (hts _ kX9_182) (fun _ h9 => h9) rfl (by decide +kernel) rfl rfl dX9_readTable_289 (fun H locs hP hD hS => ?_)
                  have hP : va_P D vwCl [(Mfirst, .inl (cB, 1536, .inl mfirst)), (mm, .inr (9, fl 78 (va_up (va_up (va_up g_12 39 (.int (bI true))) 36 (.int (nI 18))) 37 (.int (nI a_5))))), (Mrows, .inl (cB, 32000, .inl mrows)), (Mtab, .inl (cB, 1536, .inl t7)), (Mnears, .inl (cJ, 8, .inr (.inl fn9))), (Msames, .inl (cJ, 1024, .inr (.inl fs9))), (Mout, .inl (cB, 4000, .inl o9)), (MoutFrom, .inl (cI, 4000, .inl of9)), (Msource, .inl (cB, 4000, .inl s7)), (MsourceFrom, .inl (cI, 4000, .inl f7)), (MdKind, .inl (cI, 4000, .inl dKind9)), (MdSize, .inl (cI, 4000, .inl dSize9)), (MdAddress, .inl (cI, 4000, .inl dAddress9)), (MdMode, .inl (cI, 4000, .inl dMode9)), (MdCode, .inl (cI, 4000, .inl dCode9)), (MdWindow, .inl (cI, 4000, .inl dWindow9))] H := hP
                  have hD : va_D A0 [(Mfirst, .inl (cB, 1536, .inl mfirst)), (mm, .inr (9, fl 78 (va_up (va_up (va_up g_12 39 (.int (bI true))) 36 (.int (nI 18))) 37 (.int (nI a_5))))), (Mrows, .inl (cB, 32000, .inl mrows)), (Mtab, .inl (cB, 1536, .inl t7)), (Mnears, .inl (cJ, 8, .inr (.inl fn9))), (Msames, .inl (cJ, 1024, .inr (.inl fs9))), (Mout, .inl (cB, 4000, .inl o9)), (MoutFrom, .inl (cI, 4000, .inl of9)), (Msource, .inl (cB, 4000, .inl s7)), (MsourceFrom, .inl (cI, 4000, .inl f7)), (MdKind, .inl (cI, 4000, .inl dKind9)), (MdSize, .inl (cI, 4000, .inl dSize9)), (MdAddress, .inl (cI, 4000, .inl dAddress9)), (MdMode, .inl (cI, 4000, .inl dMode9)), (MdCode, .inl (cI, 4000, .inl dCode9)), (MdWindow, .inl (cI, 4000, .inl dWindow9))] := hD
                  have hP := hP.sub (ws' := [(mm, .inr (9, fl 78 (va_up (va_up (va_up g_12 39 (.int (bI true))) 36 (.int (nI 18))) 37 (.int (nI a_5))))), (Mrows, .inl (cB, 32000, .inl mrows)), (Mtab, .inl (cB, 1536, .inl t7)), (Mnears, .inl (cJ, 8, .inr (.inl fn9))), (Msames, .inl (cJ, 1024, .inr (.inl fs9))), (Mout, .inl (cB, 4000, .inl o9)), (MoutFrom, .inl (cI, 4000, .inl of9)), (Msource, .inl (cB, 4000, .inl s7)), (MsourceFrom, .inl (cI, 4000, .inl f7)), (MdKind, .inl (cI, 4000, .inl dKind9)), (MdSize, .inl (cI, 4000, .inl dSize9)), (MdAddress, .inl (cI, 4000, .inl dAddress9)), (MdMode, .inl (cI, 4000, .inl dMode9)), (MdCode, .inl (cI, 4000, .inl dCode9)), (MdWindow, .inl (cI, 4000, .inl dWindow9)), (Mfirst, .inl (cB, 1536, .inl mfirst))]) [1, 2, 3, 4, 5, 6, 7, 8, 9, 10, 11, 12, 13, 14, 15, 0] rfl
                  have hD := hD.sub (ws' := [(mm, .inr (9, fl 78 (va_up (va_up (va_up g_12 39 (.int (bI true))) 36 (.int (nI 18))) 37 (.int (nI a_5))))), (Mrows, .inl (cB, 32000, .inl mrows)), (Mtab, .inl (cB, 1536, .inl t7)), (Mnears, .inl (cJ, 8, .inr (.inl fn9))), (Msames, .inl (cJ, 1024, .inr (.inl fs9))), (Mout, .inl (cB, 4000, .inl o9)), (MoutFrom, .inl (cI, 4000, .inl of9)), (Msource, .inl (cB, 4000, .inl s7)), (MsourceFrom, .inl (cI, 4000, .inl f7)), (MdKind, .inl (cI, 4000, .inl dKind9)), (MdSize, .inl (cI, 4000, .inl dSize9)), (MdAddress, .inl (cI, 4000, .inl dAddress9)), (MdMode, .inl (cI, 4000, .inl dMode9)), (MdCode, .inl (cI, 4000, .inl dCode9)), (MdWindow, .inl (cI, 4000, .inl dWindow9)), (Mfirst, .inl (cB, 1536, .inl mfirst))]) [1, 2, 3, 4, 5, 6, 7, 8, 9, 10, 11, 12, 13, 14, 15, 0] (by decide) rfl
                  exact hret 292 ls _ _ ((va_up (va_up (va_up g_12 39 (.int (bI true))) 36 (.int (nI 18))) 37 (.int (nI a_5))), a9, (a_5 + z), 18, a_5, pa9, 4, 3, (a_5 + z), t7, fn9, fs9, o9, of9, s7, f7, dKind9, dSize9, dAddress9, dMode9, dCode9, dWindow9) dX9_readTable_292 hP hD hS (⟨(frm_up (frm_up (frm_up fr_g_12 (by decide)) (by decide)) (by decide)), at_hrw, k35_g_12, rfl, rfl, partAt_hrw, k8_g_12, k9_g_12, rfl, windows_hrw, drafts_hrw, ⟨by rw [tbE, hTN, hTM, hng, hTZ, hTS, skS, if_pos rfl, if_pos hz], by decide, fun z => absurd z (by decide)⟩⟩)
                · have hn9 : xn9 = 1536 := f2.symm.trans ((nI_eq (b := 1536) (by omega) (by decide)).mp c_16)
                  have hBe : B9 = (tbX b (a_5 + z) a_5).2.2.2.2.1.1 := htg.2 hz9 hn9
                  have hby : bys o9 B9 1536 := fun j hj => ⟨(f3 j (by show j < xn9; omega)).1, (f3 j (by show j < xn9; omega)).2.1⟩
                  refine lv_aload_n hx hb dX9_readTable_251 rfl (lv_at hl 7 rfl) ?_
                  refine fx_get (D := D) (ci := 9) (v := .ref Mout) (C := RX9) (T := TX9) (N := 78) hx hb hts in_X9 hown hK hP 1 rfl rfl 30 (by decide) (hts _ kX9_82) (fun _ h9 => h9) (k30_g_12) dX9_readTable_252 ?_
                  refine lv_iload hx hb dX9_readTable_255 (lv_at hl 5 rfl) ?_
                  refine lv_iload hx hb dX9_readTable_257 (lv_at hl 3 rfl) ?_
                  refine lv_iadd hx hb dX9_readTable_259 ?_
                  refine ri (y := nI (v_3 + v_5)) (nI_add v_3 v_5) ?_
                  refine lv_iconst (v := 2) hx hb dX9_readTable_260 (by decide) ?_
                  refine lv_iadd hx hb dX9_readTable_261 ?_
                  refine ri (y := nI ((v_3 + v_5) + 2)) (nI_add (v_3 + v_5) 2) ?_
                  refine ri (y := nI (v_3 + v_5 + 2)) rfl ?_
                  refine jn_i (wr := [(Mfirst, .inl (cB, 1536, .inl mfirst)), (mm, .inr (9, fl 78 (va_up g_12 39 (.int (bI true))))), (Mrows, .inl (cB, 32000, .inl mrows)), (Mtab, .inl (cB, 1536, .inl t7)), (Mnears, .inl (cJ, 8, .inr (.inl fn9))), (Msames, .inl (cJ, 1024, .inr (.inl fs9))), (MoutFrom, .inl (cI, 4000, .inl of9)), (Msource, .inl (cB, 4000, .inl s7)), (MsourceFrom, .inl (cI, 4000, .inl f7)), (MdKind, .inl (cI, 4000, .inl dKind9)), (MdSize, .inl (cI, 4000, .inl dSize9)), (MdAddress, .inl (cI, 4000, .inl dAddress9)), (MdMode, .inl (cI, 4000, .inl dMode9)), (MdCode, .inl (cI, 4000, .inl dCode9)), (MdWindow, .inl (cI, 4000, .inl dWindow9))]) hA hP hD hS [6] [0, 1, 2, 3, 4, 5, 7, 8, 9, 10, 11, 12, 13, 14, 15] rfl rfl (by decide) (by decide) (rn_S (As := [.ref Mout, .int (nI (v_3 + v_5 + 2))]) (rest := []) ⟨hx, hb, hml, hown, hts⟩ (cvS 2 hts zc_yX9_isRight zi_X9 zs_yX9_isRight kX9_160 (by decide +kernel) rfl rfl ⟨Nat.le_of_ble_eq_true rfl, Nat.le_of_ble_eq_true rfl⟩) (m_isRight l D cI cB cJ cR Mout 4000 o9 B9 (v_3 + v_5 + 2) (by decide) (hby) (by omega) H.size) hK hNw hMk hA hP hD hS [6] rfl rfl (by decide) rfl hl.1 rfl (Nat.le_of_ble_eq_true rfl) dX9_readTable_262 ⟨Nat.le_of_ble_eq_true rfl, Nat.le_of_ble_eq_true rfl⟩) (fun rr u9 H locs hrr hP hD hS => ?_)
                  obtain ⟨rrb, rfl, hrr⟩ := hrr
                  try dsimp only at hrr
                  have hP : va_P D vwCl [(Mfirst, .inl (cB, 1536, .inl mfirst)), (mm, .inr (9, fl 78 (va_up g_12 39 (.int (bI true))))), (Mrows, .inl (cB, 32000, .inl mrows)), (Mtab, .inl (cB, 1536, .inl t7)), (Mnears, .inl (cJ, 8, .inr (.inl fn9))), (Msames, .inl (cJ, 1024, .inr (.inl fs9))), (MoutFrom, .inl (cI, 4000, .inl of9)), (Msource, .inl (cB, 4000, .inl s7)), (MsourceFrom, .inl (cI, 4000, .inl f7)), (MdKind, .inl (cI, 4000, .inl dKind9)), (MdSize, .inl (cI, 4000, .inl dSize9)), (MdAddress, .inl (cI, 4000, .inl dAddress9)), (MdMode, .inl (cI, 4000, .inl dMode9)), (MdCode, .inl (cI, 4000, .inl dCode9)), (MdWindow, .inl (cI, 4000, .inl dWindow9)), (Mout, .inl (cB, 4000, .inl o9))] H := hP
                  have hD : va_D A0 [(Mfirst, .inl (cB, 1536, .inl mfirst)), (mm, .inr (9, fl 78 (va_up g_12 39 (.int (bI true))))), (Mrows, .inl (cB, 32000, .inl mrows)), (Mtab, .inl (cB, 1536, .inl t7)), (Mnears, .inl (cJ, 8, .inr (.inl fn9))), (Msames, .inl (cJ, 1024, .inr (.inl fs9))), (MoutFrom, .inl (cI, 4000, .inl of9)), (Msource, .inl (cB, 4000, .inl s7)), (MsourceFrom, .inl (cI, 4000, .inl f7)), (MdKind, .inl (cI, 4000, .inl dKind9)), (MdSize, .inl (cI, 4000, .inl dSize9)), (MdAddress, .inl (cI, 4000, .inl dAddress9)), (MdMode, .inl (cI, 4000, .inl dMode9)), (MdCode, .inl (cI, 4000, .inl dCode9)), (MdWindow, .inl (cI, 4000, .inl dWindow9)), (Mout, .inl (cB, 4000, .inl o9))] := hD
                  refine bz_eq (tgt := 272) hx hb dX9_readTable_265 (by decide) (fun c_18 => ?_) (fun c_18 => ?_)
                  · have hng : tbG (tbR b e (fu, pl, a)) (v_3 + v_5 + 2) = false := by rw [hTR]; exact decide_eq_false (fun w => absurd (hrr.mpr (by rw [hBe]; exact rgB_iff.mp w.2.2)) (by rw [c_18]; decide))
                    refine lv_iconst (v := 0) hx hb dX9_readTable_272 (by decide) ?_
                    refine lv_istore (lv' := [(9, .int 0), (8, .int (nI vk)), (7, .int (nI e)), (6, .int (nI a_5)), (5, .int (nI v_5)), (1, .int (nI a_3)), (4, .int (nI v_3)), (2, .long (lN v_1)), (0, .ref mm)]) hx hb dX9_readTable_273 hl (by decide) rfl (fun ls hl => ?_)
                    refine lv_iload hx hb dX9_readTable_275 (lv_at hl 0 rfl) ?_
                    refine lv_if_ne (tgt := 293) hx hb dX9_readTable_277 (by decide) (fun c_19 => absurd (by decide) c_19) (fun c_19 => ?_)
                    refine lv_aload_n hx hb dX9_readTable_280 rfl (lv_at hl 8 rfl) ?_
                    refine lv_bipush (v := 18) hx hb dX9_readTable_281 (by decide) ?_
                    refine ri (y := nI 18) rfl ?_
                    refine fx_put (D := D) (ci := 9) (v := .int (nI 18)) (ty := .int) (C := RX9) (T := TX9) (N := 78) hx hb hts in_X9 tyX9 tyX9_ok nmX9 hown hK hP hD hS 1 rfl rfl 36 (by decide) (hts _ kX9_179) (fun _ h9 => h9) rfl (by decide +kernel) rfl rfl dX9_readTable_283 (fun H locs hP hD hS => ?_)
                    have hP : va_P D vwCl [(Mfirst, .inl (cB, 1536, .inl mfirst)), (mm, .inr (9, fl 78 (va_up (va_up g_12 39 (.int (bI true))) 36 (.int (nI 18))))), (Mrows, .inl (cB, 32000, .inl mrows)), (Mtab, .inl (cB, 1536, .inl t7)), (Mnears, .inl (cJ, 8, .inr (.inl fn9))), (Msames, .inl (cJ, 1024, .inr (.inl fs9))), (MoutFrom, .inl (cI, 4000, .inl of9)), (Msource, .inl (cB, 4000, .inl s7)), (MsourceFrom, .inl (cI, 4000, .inl f7)), (MdKind, .inl (cI, 4000, .inl dKind9)), (MdSize, .inl (cI, 4000, .inl dSize9)), (MdAddress, .inl (cI, 4000, .inl dAddress9)), (MdMode, .inl (cI, 4000, .inl dMode9)), (MdCode, .inl (cI, 4000, .inl dCode9)), (MdWindow, .inl (cI, 4000, .inl dWindow9)), (Mout, .inl (cB, 4000, .inl o9))] H := hP
                    have hD : va_D A0 [(Mfirst, .inl (cB, 1536, .inl mfirst)), (mm, .inr (9, fl 78 (va_up (va_up g_12 39 (.int (bI true))) 36 (.int (nI 18))))), (Mrows, .inl (cB, 32000, .inl mrows)), (Mtab, .inl (cB, 1536, .inl t7)), (Mnears, .inl (cJ, 8, .inr (.inl fn9))), (Msames, .inl (cJ, 1024, .inr (.inl fs9))), (MoutFrom, .inl (cI, 4000, .inl of9)), (Msource, .inl (cB, 4000, .inl s7)), (MsourceFrom, .inl (cI, 4000, .inl f7)), (MdKind, .inl (cI, 4000, .inl dKind9)), (MdSize, .inl (cI, 4000, .inl dSize9)), (MdAddress, .inl (cI, 4000, .inl dAddress9)), (MdMode, .inl (cI, 4000, .inl dMode9)), (MdCode, .inl (cI, 4000, .inl dCode9)), (MdWindow, .inl (cI, 4000, .inl dWindow9)), (Mout, .inl (cB, 4000, .inl o9))] := hD
                    refine lv_aload_n hx hb dX9_readTable_286 rfl (lv_at hl 8 rfl) ?_
                    refine lv_iload hx hb dX9_readTable_287 (lv_at hl 3 rfl) ?_
                    refine fx_put (D := D) (ci := 9) (v := .int (nI a_5)) (ty := .int) (C := RX9) (T := TX9) (N := 78) hx hb hts in_X9 tyX9 tyX9_ok nmX9 hown hK hP hD hS 1 rfl rfl 37 (by decide) (hts _ kX9_182) (fun _ h9 => h9) rfl (by decide +kernel) rfl rfl dX9_readTable_289 (fun H locs hP hD hS => ?_)
                    have hP : va_P D vwCl [(Mfirst, .inl (cB, 1536, .inl mfirst)), (mm, .inr (9, fl 78 (va_up (va_up (va_up g_12 39 (.int (bI true))) 36 (.int (nI 18))) 37 (.int (nI a_5))))), (Mrows, .inl (cB, 32000, .inl mrows)), (Mtab, .inl (cB, 1536, .inl t7)), (Mnears, .inl (cJ, 8, .inr (.inl fn9))), (Msames, .inl (cJ, 1024, .inr (.inl fs9))), (MoutFrom, .inl (cI, 4000, .inl of9)), (Msource, .inl (cB, 4000, .inl s7)), (MsourceFrom, .inl (cI, 4000, .inl f7)), (MdKind, .inl (cI, 4000, .inl dKind9)), (MdSize, .inl (cI, 4000, .inl dSize9)), (MdAddress, .inl (cI, 4000, .inl dAddress9)), (MdMode, .inl (cI, 4000, .inl dMode9)), (MdCode, .inl (cI, 4000, .inl dCode9)), (MdWindow, .inl (cI, 4000, .inl dWindow9)), (Mout, .inl (cB, 4000, .inl o9))] H := hP
                    have hD : va_D A0 [(Mfirst, .inl (cB, 1536, .inl mfirst)), (mm, .inr (9, fl 78 (va_up (va_up (va_up g_12 39 (.int (bI true))) 36 (.int (nI 18))) 37 (.int (nI a_5))))), (Mrows, .inl (cB, 32000, .inl mrows)), (Mtab, .inl (cB, 1536, .inl t7)), (Mnears, .inl (cJ, 8, .inr (.inl fn9))), (Msames, .inl (cJ, 1024, .inr (.inl fs9))), (MoutFrom, .inl (cI, 4000, .inl of9)), (Msource, .inl (cB, 4000, .inl s7)), (MsourceFrom, .inl (cI, 4000, .inl f7)), (MdKind, .inl (cI, 4000, .inl dKind9)), (MdSize, .inl (cI, 4000, .inl dSize9)), (MdAddress, .inl (cI, 4000, .inl dAddress9)), (MdMode, .inl (cI, 4000, .inl dMode9)), (MdCode, .inl (cI, 4000, .inl dCode9)), (MdWindow, .inl (cI, 4000, .inl dWindow9)), (Mout, .inl (cB, 4000, .inl o9))] := hD
                    have hP := hP.sub (ws' := [(mm, .inr (9, fl 78 (va_up (va_up (va_up g_12 39 (.int (bI true))) 36 (.int (nI 18))) 37 (.int (nI a_5))))), (Mrows, .inl (cB, 32000, .inl mrows)), (Mtab, .inl (cB, 1536, .inl t7)), (Mnears, .inl (cJ, 8, .inr (.inl fn9))), (Msames, .inl (cJ, 1024, .inr (.inl fs9))), (Mout, .inl (cB, 4000, .inl o9)), (MoutFrom, .inl (cI, 4000, .inl of9)), (Msource, .inl (cB, 4000, .inl s7)), (MsourceFrom, .inl (cI, 4000, .inl f7)), (MdKind, .inl (cI, 4000, .inl dKind9)), (MdSize, .inl (cI, 4000, .inl dSize9)), (MdAddress, .inl (cI, 4000, .inl dAddress9)), (MdMode, .inl (cI, 4000, .inl dMode9)), (MdCode, .inl (cI, 4000, .inl dCode9)), (MdWindow, .inl (cI, 4000, .inl dWindow9)), (Mfirst, .inl (cB, 1536, .inl mfirst))]) [1, 2, 3, 4, 5, 15, 6, 7, 8, 9, 10, 11, 12, 13, 14, 0] rfl
                    have hD := hD.sub (ws' := [(mm, .inr (9, fl 78 (va_up (va_up (va_up g_12 39 (.int (bI true))) 36 (.int (nI 18))) 37 (.int (nI a_5))))), (Mrows, .inl (cB, 32000, .inl mrows)), (Mtab, .inl (cB, 1536, .inl t7)), (Mnears, .inl (cJ, 8, .inr (.inl fn9))), (Msames, .inl (cJ, 1024, .inr (.inl fs9))), (Mout, .inl (cB, 4000, .inl o9)), (MoutFrom, .inl (cI, 4000, .inl of9)), (Msource, .inl (cB, 4000, .inl s7)), (MsourceFrom, .inl (cI, 4000, .inl f7)), (MdKind, .inl (cI, 4000, .inl dKind9)), (MdSize, .inl (cI, 4000, .inl dSize9)), (MdAddress, .inl (cI, 4000, .inl dAddress9)), (MdMode, .inl (cI, 4000, .inl dMode9)), (MdCode, .inl (cI, 4000, .inl dCode9)), (MdWindow, .inl (cI, 4000, .inl dWindow9)), (Mfirst, .inl (cB, 1536, .inl mfirst))]) [1, 2, 3, 4, 5, 15, 6, 7, 8, 9, 10, 11, 12, 13, 14, 0] (by decide) rfl
                    exact hret 292 ls _ _ ((va_up (va_up (va_up g_12 39 (.int (bI true))) 36 (.int (nI 18))) 37 (.int (nI a_5))), a9, (a_5 + z), 18, a_5, pa9, 4, 3, (a_5 + z), t7, fn9, fs9, o9, of9, s7, f7, dKind9, dSize9, dAddress9, dMode9, dCode9, dWindow9) dX9_readTable_292 hP hD hS (⟨(frm_up (frm_up (frm_up fr_g_12 (by decide)) (by decide)) (by decide)), at_hrw, k35_g_12, rfl, rfl, partAt_hrw, k8_g_12, k9_g_12, rfl, windows_hrw, drafts_hrw, ⟨by rw [tbE, hTN, hTM, hng, hTZ, hTS, skS, if_pos rfl, if_pos hz], by decide, fun z => absurd z (by decide)⟩⟩)
                  · have hrg := hrr.mp c_18
                    rw [hBe] at hrg hby
                    have h1g := htg.1.mp ⟨hz9, hn9⟩
                    have hfr0 : fr = 0 := Decidable.byContradiction (fun w => by rw [wdL_no (fun y => w y.1)] at c1; exact w ((Prod.mk.inj c1).1.trans hz9))
                    have plz9 : pl9 = pl_7 := by have q9 := wdL_pl (b := b) (e := (a_5 + z)) (sn := 1536) (M1 := 4000) (near := 4) (same := 3) (tt := firstT) (sB := firstT) (sG := fun _ => -1) 8000 (fr, pr, aq, 0, m00, g00, 0) (by rw [c1]; exact hz9); rw [c1] at q9; exact (show pl9 = pr from q9).trans ((hi3 hfr0).trans ((tbI_pl (hi1.symm.trans hfr0)).trans hpl3.symm))
                    have hng : tbG (tbR b e (fu, pl, a)) (v_3 + v_5 + 2) = true := by rw [hTR]; exact decide_eq_true ⟨h1g.1, h1g.2, rgB_iff.mpr hrg⟩
                    refine lv_iconst (v := 1) hx hb dX9_readTable_268 (by decide) ?_
                    refine lv_goto (tgt := 273) hx hb dX9_readTable_269 (by decide) ?_
                    refine lv_istore (lv' := [(9, .int 1), (8, .int (nI vk)), (7, .int (nI e)), (6, .int (nI a_5)), (5, .int (nI v_5)), (1, .int (nI a_3)), (4, .int (nI v_3)), (2, .long (lN v_1)), (0, .ref mm)]) hx hb dX9_readTable_273 hl (by decide) rfl (fun ls hl => ?_)
                    refine lv_iload hx hb dX9_readTable_275 (lv_at hl 0 rfl) ?_
                    refine lv_if_ne (tgt := 293) hx hb dX9_readTable_277 (by decide) (fun c_20 => ?_) (fun c_20 => absurd c_20 (by decide))
                    refine lv_aload_n hx hb dX9_readTable_293 rfl (lv_at hl 8 rfl) ?_
                    refine lv_aload_n hx hb dX9_readTable_294 rfl (lv_at hl 8 rfl) ?_
                    refine fx_get (D := D) (ci := 9) (v := .int (nI (a_5 + z))) (C := RX9) (T := TX9) (N := 78) hx hb hts in_X9 hown hK hP 1 rfl rfl 35 (by decide) (hts _ kX9_188) (fun _ h9 => h9) (k35_g_12) dX9_readTable_295 ?_
                    refine fx_put (D := D) (ci := 9) (v := .int (nI (a_5 + z))) (ty := .int) (C := RX9) (T := TX9) (N := 78) hx hb hts in_X9 tyX9 tyX9_ok nmX9 hown hK hP hD hS 1 rfl rfl 34 (by decide) (hts _ kX9_185) (fun _ h9 => h9) rfl (by decide +kernel) rfl rfl dX9_readTable_298 (fun H locs hP hD hS => ?_)
                    have hP : va_P D vwCl [(Mfirst, .inl (cB, 1536, .inl mfirst)), (mm, .inr (9, fl 78 (va_up (va_up g_12 39 (.int (bI true))) 34 (.int (nI (a_5 + z)))))), (Mrows, .inl (cB, 32000, .inl mrows)), (Mtab, .inl (cB, 1536, .inl t7)), (Mnears, .inl (cJ, 8, .inr (.inl fn9))), (Msames, .inl (cJ, 1024, .inr (.inl fs9))), (MoutFrom, .inl (cI, 4000, .inl of9)), (Msource, .inl (cB, 4000, .inl s7)), (MsourceFrom, .inl (cI, 4000, .inl f7)), (MdKind, .inl (cI, 4000, .inl dKind9)), (MdSize, .inl (cI, 4000, .inl dSize9)), (MdAddress, .inl (cI, 4000, .inl dAddress9)), (MdMode, .inl (cI, 4000, .inl dMode9)), (MdCode, .inl (cI, 4000, .inl dCode9)), (MdWindow, .inl (cI, 4000, .inl dWindow9)), (Mout, .inl (cB, 4000, .inl o9))] H := hP
                    have hD : va_D A0 [(Mfirst, .inl (cB, 1536, .inl mfirst)), (mm, .inr (9, fl 78 (va_up (va_up g_12 39 (.int (bI true))) 34 (.int (nI (a_5 + z)))))), (Mrows, .inl (cB, 32000, .inl mrows)), (Mtab, .inl (cB, 1536, .inl t7)), (Mnears, .inl (cJ, 8, .inr (.inl fn9))), (Msames, .inl (cJ, 1024, .inr (.inl fs9))), (MoutFrom, .inl (cI, 4000, .inl of9)), (Msource, .inl (cB, 4000, .inl s7)), (MsourceFrom, .inl (cI, 4000, .inl f7)), (MdKind, .inl (cI, 4000, .inl dKind9)), (MdSize, .inl (cI, 4000, .inl dSize9)), (MdAddress, .inl (cI, 4000, .inl dAddress9)), (MdMode, .inl (cI, 4000, .inl dMode9)), (MdCode, .inl (cI, 4000, .inl dCode9)), (MdWindow, .inl (cI, 4000, .inl dWindow9)), (Mout, .inl (cB, 4000, .inl o9))] := hD
                    refine lv_aload_n hx hb dX9_readTable_301 rfl (lv_at hl 8 rfl) ?_
                    refine lv_iload hx hb dX9_readTable_302 (lv_at hl 2 rfl) ?_
                    refine fx_put (D := D) (ci := 9) (v := .int (nI e)) (ty := .int) (C := RX9) (T := TX9) (N := 78) hx hb hts in_X9 tyX9 tyX9_ok nmX9 hown hK hP hD hS 1 rfl rfl 35 (by decide) (hts _ kX9_188) (fun _ h9 => h9) rfl (by decide +kernel) rfl rfl dX9_readTable_304 (fun H locs hP hD hS => ?_)
                    have hP : va_P D vwCl [(Mfirst, .inl (cB, 1536, .inl mfirst)), (mm, .inr (9, fl 78 (va_up (va_up (va_up g_12 39 (.int (bI true))) 34 (.int (nI (a_5 + z)))) 35 (.int (nI e))))), (Mrows, .inl (cB, 32000, .inl mrows)), (Mtab, .inl (cB, 1536, .inl t7)), (Mnears, .inl (cJ, 8, .inr (.inl fn9))), (Msames, .inl (cJ, 1024, .inr (.inl fs9))), (MoutFrom, .inl (cI, 4000, .inl of9)), (Msource, .inl (cB, 4000, .inl s7)), (MsourceFrom, .inl (cI, 4000, .inl f7)), (MdKind, .inl (cI, 4000, .inl dKind9)), (MdSize, .inl (cI, 4000, .inl dSize9)), (MdAddress, .inl (cI, 4000, .inl dAddress9)), (MdMode, .inl (cI, 4000, .inl dMode9)), (MdCode, .inl (cI, 4000, .inl dCode9)), (MdWindow, .inl (cI, 4000, .inl dWindow9)), (Mout, .inl (cB, 4000, .inl o9))] H := hP
                    have hD : va_D A0 [(Mfirst, .inl (cB, 1536, .inl mfirst)), (mm, .inr (9, fl 78 (va_up (va_up (va_up g_12 39 (.int (bI true))) 34 (.int (nI (a_5 + z)))) 35 (.int (nI e))))), (Mrows, .inl (cB, 32000, .inl mrows)), (Mtab, .inl (cB, 1536, .inl t7)), (Mnears, .inl (cJ, 8, .inr (.inl fn9))), (Msames, .inl (cJ, 1024, .inr (.inl fs9))), (MoutFrom, .inl (cI, 4000, .inl of9)), (Msource, .inl (cB, 4000, .inl s7)), (MsourceFrom, .inl (cI, 4000, .inl f7)), (MdKind, .inl (cI, 4000, .inl dKind9)), (MdSize, .inl (cI, 4000, .inl dSize9)), (MdAddress, .inl (cI, 4000, .inl dAddress9)), (MdMode, .inl (cI, 4000, .inl dMode9)), (MdCode, .inl (cI, 4000, .inl dCode9)), (MdWindow, .inl (cI, 4000, .inl dWindow9)), (Mout, .inl (cB, 4000, .inl o9))] := hD
                    refine lv_aload_n hx hb dX9_readTable_307 rfl (lv_at hl 8 rfl) ?_
                    refine lv_aload_n hx hb dX9_readTable_308 rfl (lv_at hl 8 rfl) ?_
                    refine fx_get (D := D) (ci := 9) (v := .ref Mout) (C := RX9) (T := TX9) (N := 78) hx hb hts in_X9 hown hK hP 1 rfl rfl 30 (by decide) (hts _ kX9_82) (fun _ h9 => h9) (k30_g_12) dX9_readTable_309 ?_
                    refine lv_iload hx hb dX9_readTable_312 (lv_at hl 6 rfl) ?_
                    refine lv_iload hx hb dX9_readTable_314 (lv_at hl 4 rfl) ?_
                    refine jn_v (wr := [(Mfirst, .inl (cB, 1536, .inl mfirst)), (Mrows, .inl (cB, 32000, .inl mrows)), (Mnears, .inl (cJ, 8, .inr (.inl fn9))), (Msames, .inl (cJ, 1024, .inr (.inl fs9))), (MoutFrom, .inl (cI, 4000, .inl of9)), (Msource, .inl (cB, 4000, .inl s7)), (MsourceFrom, .inl (cI, 4000, .inl f7)), (MdKind, .inl (cI, 4000, .inl dKind9)), (MdSize, .inl (cI, 4000, .inl dSize9)), (MdAddress, .inl (cI, 4000, .inl dAddress9)), (MdMode, .inl (cI, 4000, .inl dMode9)), (MdCode, .inl (cI, 4000, .inl dCode9)), (MdWindow, .inl (cI, 4000, .inl dWindow9))]) hA hP hD hS [1, 3, 15] [0, 2, 4, 5, 6, 7, 8, 9, 10, 11, 12, 13, 14] rfl rfl (by decide) (by decide) (rn_V (As := [.ref Mout, .int (nI v_3), .int (nI v_5)]) (rest := []) ⟨hx, hb, hml, hown, hts⟩ (cvV 3 hts zc_yX9_use zi_X9 zm_yX9_use zv_yX9_use kX9_213 (by decide +kernel) rfl rfl ⟨Nat.le_of_ble_eq_true rfl, Nat.le_of_ble_eq_true rfl⟩) (m_use l D cI cB cJ cR mm (va_up (va_up (va_up g_12 39 (.int (bI true))) 34 (.int (nI (a_5 + z)))) 35 (.int (nI e))) Mtab t7 Mout 4000 o9 (tbX b (a_5 + z) a_5).2.2.2.2.1.1 v_3 v_5 (k7_g_12) (by decide) (hby) H.size) hK hNw hMk hA hP hD hS [1, 3, 15] rfl rfl (by decide) 0 rfl rfl rfl rfl hl.1 rfl (Nat.le_of_ble_eq_true rfl) dX9_readTable_316 ⟨Nat.le_of_ble_eq_true rfl, Nat.le_of_ble_eq_true rfl⟩) (fun u9 H locs hus2 hP hD hS => ?_)
                    obtain ⟨g_21, t8⟩ := u9
                    try dsimp only at hus2
                    have hP : va_P D vwCl [(Mfirst, .inl (cB, 1536, .inl mfirst)), (Mrows, .inl (cB, 32000, .inl mrows)), (Mnears, .inl (cJ, 8, .inr (.inl fn9))), (Msames, .inl (cJ, 1024, .inr (.inl fs9))), (MoutFrom, .inl (cI, 4000, .inl of9)), (Msource, .inl (cB, 4000, .inl s7)), (MsourceFrom, .inl (cI, 4000, .inl f7)), (MdKind, .inl (cI, 4000, .inl dKind9)), (MdSize, .inl (cI, 4000, .inl dSize9)), (MdAddress, .inl (cI, 4000, .inl dAddress9)), (MdMode, .inl (cI, 4000, .inl dMode9)), (MdCode, .inl (cI, 4000, .inl dCode9)), (MdWindow, .inl (cI, 4000, .inl dWindow9)), (mm, .inr (9, fl 78 g_21)), (Mtab, .inl (cB, 1536, .inl t8)), (Mout, .inl (cB, 4000, .inl o9))] H := hP
                    have hD : va_D A0 [(Mfirst, .inl (cB, 1536, .inl mfirst)), (Mrows, .inl (cB, 32000, .inl mrows)), (Mnears, .inl (cJ, 8, .inr (.inl fn9))), (Msames, .inl (cJ, 1024, .inr (.inl fs9))), (MoutFrom, .inl (cI, 4000, .inl of9)), (Msource, .inl (cB, 4000, .inl s7)), (MsourceFrom, .inl (cI, 4000, .inl f7)), (MdKind, .inl (cI, 4000, .inl dKind9)), (MdSize, .inl (cI, 4000, .inl dSize9)), (MdAddress, .inl (cI, 4000, .inl dAddress9)), (MdMode, .inl (cI, 4000, .inl dMode9)), (MdCode, .inl (cI, 4000, .inl dCode9)), (MdWindow, .inl (cI, 4000, .inl dWindow9)), (mm, .inr (9, fl 78 g_21)), (Mtab, .inl (cB, 1536, .inl t8)), (Mout, .inl (cB, 4000, .inl o9))] := hD
                    obtain ⟨f_hus2, near_hus2, same_hus2, hus2_⟩ := hus2
                    have k33_g_21 : g_21 33 = .int (nI bs) := (f_hus2 33 (by decide)).trans (k33_g_12)
                    have k1_g_21 : g_21 1 = .ref Mrows := (f_hus2 1 (by decide)).trans (k1_g_12)
                    have k7_g_21 : g_21 7 = .ref Mtab := (f_hus2 7 (by decide)).trans (k7_g_12)
                    have k10_g_21 : g_21 10 = .ref Mnears := (f_hus2 10 (by decide)).trans (k10_g_12)
                    have k12_g_21 : g_21 12 = .ref Msames := (f_hus2 12 (by decide)).trans (k12_g_12)
                    have k30_g_21 : g_21 30 = .ref Mout := (f_hus2 30 (by decide)).trans (k30_g_12)
                    have k31_g_21 : g_21 31 = .ref MoutFrom := (f_hus2 31 (by decide)).trans (k31_g_12)
                    have k27_g_21 : g_21 27 = .ref Msource := (f_hus2 27 (by decide)).trans (k27_g_12)
                    have k28_g_21 : g_21 28 = .ref MsourceFrom := (f_hus2 28 (by decide)).trans (k28_g_12)
                    have k21_g_21 : g_21 21 = .ref MdKind := (f_hus2 21 (by decide)).trans (k21_g_12)
                    have k22_g_21 : g_21 22 = .ref MdSize := (f_hus2 22 (by decide)).trans (k22_g_12)
                    have k23_g_21 : g_21 23 = .ref MdAddress := (f_hus2 23 (by decide)).trans (k23_g_12)
                    have k24_g_21 : g_21 24 = .ref MdMode := (f_hus2 24 (by decide)).trans (k24_g_12)
                    have k25_g_21 : g_21 25 = .ref MdCode := (f_hus2 25 (by decide)).trans (k25_g_12)
                    have k26_g_21 : g_21 26 = .ref MdWindow := (f_hus2 26 (by decide)).trans (k26_g_12)
                    have k3_g_21 : g_21 3 = .ref Mfirst := (f_hus2 3 (by decide)).trans (k3_g_12)
                    have k35_g_21 : g_21 35 = .int (nI e) := (f_hus2 35 (by decide)).trans (rfl)
                    have k39_g_21 : g_21 39 = .int (bI true) := (f_hus2 39 (by decide)).trans (rfl)
                    have k29_g_21 : g_21 29 = .int (nI 1536) := (f_hus2 29 (by decide)).trans (k29_g_12)
                    have k34_g_21 : g_21 34 = .int (nI (a_5 + z)) := (f_hus2 34 (by decide)).trans (rfl)
                    have k32_g_21 : g_21 32 = .int (nI n9) := (f_hus2 32 (by decide)).trans (outSize_hrw)
                    have k20_g_21 : g_21 20 = .int (nI dr) := (f_hus2 20 (by decide)).trans (drafts_hrw)
                    have k36_g_21 : g_21 36 = .int (nI fu9) := (f_hus2 36 (by decide)).trans (fault_hrw)
                    have k37_g_21 : g_21 37 = .int (nI pl9) := (f_hus2 37 (by decide)).trans (place_hrw)
                    have k51_g_21 : g_21 51 = .int pa9 := (f_hus2 51 (by decide)).trans (partAt_hrw)
                    have k38_g_21 : g_21 38 = .int (nI wr) := (f_hus2 38 (by decide)).trans (windows_hrw)
                    have fr_g_21 : frm [34, 35, 36, 37, 51, 8, 9, 39, 38, 20, 32, 29, 40, 41, 42, 43, 44, 45, 46, 47, 48, 49, 50, 11] g g_21 := frm_tr (frm_up (frm_up (frm_up fr_g_12 (by decide)) (by decide)) (by decide)) f_hus2 (by decide)
                    have hP := hP.sub (ws' := [(mm, .inr (9, fl 78 g_21)), (Mrows, .inl (cB, 32000, .inl mrows)), (Mtab, .inl (cB, 1536, .inl t8)), (Mnears, .inl (cJ, 8, .inr (.inl fn9))), (Msames, .inl (cJ, 1024, .inr (.inl fs9))), (Mout, .inl (cB, 4000, .inl o9)), (MoutFrom, .inl (cI, 4000, .inl of9)), (Msource, .inl (cB, 4000, .inl s7)), (MsourceFrom, .inl (cI, 4000, .inl f7)), (MdKind, .inl (cI, 4000, .inl dKind9)), (MdSize, .inl (cI, 4000, .inl dSize9)), (MdAddress, .inl (cI, 4000, .inl dAddress9)), (MdMode, .inl (cI, 4000, .inl dMode9)), (MdCode, .inl (cI, 4000, .inl dCode9)), (MdWindow, .inl (cI, 4000, .inl dWindow9)), (Mfirst, .inl (cB, 1536, .inl mfirst))]) [13, 1, 14, 2, 3, 15, 4, 5, 6, 7, 8, 9, 10, 11, 12, 0] rfl
                    have hD := hD.sub (ws' := [(mm, .inr (9, fl 78 g_21)), (Mrows, .inl (cB, 32000, .inl mrows)), (Mtab, .inl (cB, 1536, .inl t8)), (Mnears, .inl (cJ, 8, .inr (.inl fn9))), (Msames, .inl (cJ, 1024, .inr (.inl fs9))), (Mout, .inl (cB, 4000, .inl o9)), (MoutFrom, .inl (cI, 4000, .inl of9)), (Msource, .inl (cB, 4000, .inl s7)), (MsourceFrom, .inl (cI, 4000, .inl f7)), (MdKind, .inl (cI, 4000, .inl dKind9)), (MdSize, .inl (cI, 4000, .inl dSize9)), (MdAddress, .inl (cI, 4000, .inl dAddress9)), (MdMode, .inl (cI, 4000, .inl dMode9)), (MdCode, .inl (cI, 4000, .inl dCode9)), (MdWindow, .inl (cI, 4000, .inl dWindow9)), (Mfirst, .inl (cB, 1536, .inl mfirst))]) [13, 1, 14, 2, 3, 15, 4, 5, 6, 7, 8, 9, 10, 11, 12, 0] (by decide) rfl
                    exact hret 319 ls _ _ (g_21, (a_5 + z), e, fu9, pl9, pa9, v_3, v_5, (a_5 + z), t8, fn9, fs9, o9, of9, s7, f7, dKind9, dSize9, dAddress9, dMode9, dCode9, dWindow9) dX9_readTable_319 hP hD hS (⟨fr_g_21, k34_g_21, k35_g_21, k36_g_21, k37_g_21, k51_g_21, near_hus2, same_hus2, k39_g_21, k38_g_21, k20_g_21, ⟨by rw [tbE, hTN, hTM, hng, hTZ, hTS, skS, if_neg (by decide), hz, hz9, plz9], c6, fun _ => ⟨rfl, rfl, by omega, hTN.symm, hTM.symm, by omega, by omega, by rw [hTR]; exact hus2_, by rw [hTR]; exact hrg⟩⟩⟩)
            have hTI : tbI b (a_5 + z) a_5 = flI (¬ vk = 0) 3 ap (fq, pq, aq) := by rw [hz, hpl3] at fo1; rw [tbI, fo1, tkZ, tk1]
            have ti2 : aq = (tbI b (a_5 + z) a_5).2.2 := by rw [hTI]; unfold flI; split <;> rfl
            refine lv_aload_n hx hb dX9_readTable_206 rfl (lv_at hl 7 rfl) ?_
            refine fx_get (D := D) (ci := 9) (v := .int (nI fq)) (C := RX9) (T := TX9) (N := 78) hx hb hts in_X9 hown hK hP 14 rfl rfl 36 (by decide) (hts _ kX9_179) (fun _ h9 => h9) (fault_htk) dX9_readTable_207 ?_
            refine lv_if_ne (tgt := 225) hx hb dX9_readTable_210 (by decide) (fun c_23 => ?_) (fun c_23 => ?_)
            · have hzq : ¬ fq = 0 := fun z => c_23 (by rw [z]; decide)
              exact JK g_11 fq pq _ _ ls (fr_g_11) (k35_g_11) (k38_g_11) (k20_g_11) (k39_g_11) (k51_g_11) (k8_g_11) (k9_g_11) (k29_g_11) (k32_g_11) (fault_htk) (place_htk) (at_htk) (by rw [hTI, flI_st hzq]) (ti2) (fun z => absurd z hzq) (tk2) (hP.sub [14, 0, 1, 2, 3, 4, 5, 6, 7, 8, 9, 10, 11, 12, 13, 15] rfl) (hD.sub [14, 0, 1, 2, 3, 4, 5, 6, 7, 8, 9, 10, 11, 12, 13, 15] (by decide) rfl) hS (lv_sub hl [0, 1, 2, 3, 4, 5, 6, 7] rfl)
            · have hzq : fq = 0 := Decidable.byContradiction (fun z => nI_ne0 (Nat.pos_of_ne_zero z) tk2 c_23)
              refine lv_iload hx hb dX9_readTable_213 (lv_at hl 0 rfl) ?_
              refine lv_if_eq (tgt := 225) hx hb dX9_readTable_215 (by decide) (fun c_24 => ?_) (fun c_24 => ?_)
              · have hvk : vk = 0 := Decidable.byContradiction (fun z => nI_ne0 (Nat.pos_of_ne_zero z) (by omega) c_24)
                exact JK g_11 fq pq _ _ ls (fr_g_11) (k35_g_11) (k38_g_11) (k20_g_11) (k39_g_11) (k51_g_11) (k8_g_11) (k9_g_11) (k29_g_11) (k32_g_11) (fault_htk) (place_htk) (at_htk) (by rw [hTI, flI, if_neg (fun w => w.1 hvk)]) (ti2) (fun _ => by rw [hTI, flI, if_neg (fun w => w.1 hvk)]) (tk2) (hP.sub [14, 0, 1, 2, 3, 4, 5, 6, 7, 8, 9, 10, 11, 12, 13, 15] rfl) (hD.sub [14, 0, 1, 2, 3, 4, 5, 6, 7, 8, 9, 10, 11, 12, 13, 15] (by decide) rfl) hS (lv_sub hl [0, 1, 2, 3, 4, 5, 6, 7] rfl)
              · have hvk : ¬ vk = 0 := fun z => c_24 (by rw [z]; decide)
                refine lv_aload_n hx hb dX9_readTable_218 rfl (lv_at hl 7 rfl) ?_
                refine lv_iconst (v := 3) hx hb dX9_readTable_219 (by decide) ?_
                refine ri (y := nI 3) (rfl) ?_
                refine lv_iload hx hb dX9_readTable_220 (lv_at hl 2 rfl) ?_
                refine jn_v (wr := [(Mnears, .inl (cJ, 8, .inr (.inl mnears))), (Msames, .inl (cJ, 1024, .inr (.inl msames))), (Mout, .inl (cB, 4000, .inl mout)), (MoutFrom, .inl (cI, 4000, .inl moutFrom)), (MdKind, .inl (cI, 4000, .inl mdKind)), (MdSize, .inl (cI, 4000, .inl mdSize)), (MdAddress, .inl (cI, 4000, .inl mdAddress)), (MdMode, .inl (cI, 4000, .inl mdMode)), (MdCode, .inl (cI, 4000, .inl mdCode)), (MdWindow, .inl (cI, 4000, .inl mdWindow)), (Mtab, .inl (cB, 1536, .inl t7)), (Msource, .inl (cB, 4000, .inl s7)), (MsourceFrom, .inl (cI, 4000, .inl f7)), (Mfirst, .inl (cB, 1536, .inl mfirst)), (Mrows, .inl (cB, 32000, .inl mrows))]) hA hP hD hS [14] [0, 1, 2, 3, 4, 5, 6, 7, 8, 9, 10, 11, 12, 13, 15] rfl rfl (by decide) (by decide) (rn_V (As := [.int (nI 3), .int (nI a_5)]) (rest := []) ⟨hx, hb, hml, hown, hts⟩ (cvV 2 hts zc_yX9_fail zi_X9 zm_yX9_fail zv_yX9_fail kX9_191 (by decide +kernel) rfl rfl ⟨Nat.le_of_ble_eq_true rfl, Nat.le_of_ble_eq_true rfl⟩) (m_fail l D cI cB cJ cR mm g_11 fq pq 3 a_5 (fault_htk) (place_htk) (tk2) H.size) hK hNw hMk hA hP hD hS [14] rfl rfl (by decide) 0 rfl rfl rfl rfl hl.1 rfl (Nat.le_of_ble_eq_true rfl) dX9_readTable_222 ⟨Nat.le_of_ble_eq_true rfl, Nat.le_of_ble_eq_true rfl⟩) (fun u9 H locs w_25 hP hD hS => ?_)
                obtain ⟨g_26, fu2_27, pl2_28⟩ := u9
                try dsimp only at w_25
                have hP : va_P D vwCl [(Mnears, .inl (cJ, 8, .inr (.inl mnears))), (Msames, .inl (cJ, 1024, .inr (.inl msames))), (Mout, .inl (cB, 4000, .inl mout)), (MoutFrom, .inl (cI, 4000, .inl moutFrom)), (MdKind, .inl (cI, 4000, .inl mdKind)), (MdSize, .inl (cI, 4000, .inl mdSize)), (MdAddress, .inl (cI, 4000, .inl mdAddress)), (MdMode, .inl (cI, 4000, .inl mdMode)), (MdCode, .inl (cI, 4000, .inl mdCode)), (MdWindow, .inl (cI, 4000, .inl mdWindow)), (Mtab, .inl (cB, 1536, .inl t7)), (Msource, .inl (cB, 4000, .inl s7)), (MsourceFrom, .inl (cI, 4000, .inl f7)), (Mfirst, .inl (cB, 1536, .inl mfirst)), (Mrows, .inl (cB, 32000, .inl mrows)), (mm, .inr (9, fl 78 g_26))] H := hP
                have hD : va_D A0 [(Mnears, .inl (cJ, 8, .inr (.inl mnears))), (Msames, .inl (cJ, 1024, .inr (.inl msames))), (Mout, .inl (cB, 4000, .inl mout)), (MoutFrom, .inl (cI, 4000, .inl moutFrom)), (MdKind, .inl (cI, 4000, .inl mdKind)), (MdSize, .inl (cI, 4000, .inl mdSize)), (MdAddress, .inl (cI, 4000, .inl mdAddress)), (MdMode, .inl (cI, 4000, .inl mdMode)), (MdCode, .inl (cI, 4000, .inl mdCode)), (MdWindow, .inl (cI, 4000, .inl mdWindow)), (Mtab, .inl (cB, 1536, .inl t7)), (Msource, .inl (cB, 4000, .inl s7)), (MsourceFrom, .inl (cI, 4000, .inl f7)), (Mfirst, .inl (cB, 1536, .inl mfirst)), (Mrows, .inl (cB, 32000, .inl mrows)), (mm, .inr (9, fl 78 g_26))] := hD
                obtain ⟨f_w_25, fault_w_25, place_w_25, w_25_⟩ := w_25
                have k33_g_26 : g_26 33 = .int (nI bs) := (f_w_25 33 (by decide)).trans (k33_g_11)
                have k1_g_26 : g_26 1 = .ref Mrows := (f_w_25 1 (by decide)).trans (k1_g_11)
                have k7_g_26 : g_26 7 = .ref Mtab := (f_w_25 7 (by decide)).trans (k7_g_11)
                have k10_g_26 : g_26 10 = .ref Mnears := (f_w_25 10 (by decide)).trans (k10_g_11)
                have k12_g_26 : g_26 12 = .ref Msames := (f_w_25 12 (by decide)).trans (k12_g_11)
                have k30_g_26 : g_26 30 = .ref Mout := (f_w_25 30 (by decide)).trans (k30_g_11)
                have k31_g_26 : g_26 31 = .ref MoutFrom := (f_w_25 31 (by decide)).trans (k31_g_11)
                have k27_g_26 : g_26 27 = .ref Msource := (f_w_25 27 (by decide)).trans (k27_g_11)
                have k28_g_26 : g_26 28 = .ref MsourceFrom := (f_w_25 28 (by decide)).trans (k28_g_11)
                have k21_g_26 : g_26 21 = .ref MdKind := (f_w_25 21 (by decide)).trans (k21_g_11)
                have k22_g_26 : g_26 22 = .ref MdSize := (f_w_25 22 (by decide)).trans (k22_g_11)
                have k23_g_26 : g_26 23 = .ref MdAddress := (f_w_25 23 (by decide)).trans (k23_g_11)
                have k24_g_26 : g_26 24 = .ref MdMode := (f_w_25 24 (by decide)).trans (k24_g_11)
                have k25_g_26 : g_26 25 = .ref MdCode := (f_w_25 25 (by decide)).trans (k25_g_11)
                have k26_g_26 : g_26 26 = .ref MdWindow := (f_w_25 26 (by decide)).trans (k26_g_11)
                have k3_g_26 : g_26 3 = .ref Mfirst := (f_w_25 3 (by decide)).trans (k3_g_11)
                have k35_g_26 : g_26 35 = .int (nI (a_5 + z)) := (f_w_25 35 (by decide)).trans (k35_g_11)
                have k38_g_26 : g_26 38 = .int (nI wr) := (f_w_25 38 (by decide)).trans (k38_g_11)
                have k20_g_26 : g_26 20 = .int (nI dr) := (f_w_25 20 (by decide)).trans (k20_g_11)
                have k39_g_26 : g_26 39 = .int (bI false) := (f_w_25 39 (by decide)).trans (k39_g_11)
                have k51_g_26 : g_26 51 = .int pa := (f_w_25 51 (by decide)).trans (k51_g_11)
                have k8_g_26 : g_26 8 = .int (nI 4) := (f_w_25 8 (by decide)).trans (k8_g_11)
                have k9_g_26 : g_26 9 = .int (nI 3) := (f_w_25 9 (by decide)).trans (k9_g_11)
                have k29_g_26 : g_26 29 = .int (nI 1536) := (f_w_25 29 (by decide)).trans (k29_g_11)
                have k32_g_26 : g_26 32 = .int (nI 0) := (f_w_25 32 (by decide)).trans (k32_g_11)
                have k34_g_26 : g_26 34 = .int (nI aq) := (f_w_25 34 (by decide)).trans (at_htk)
                have fr_g_26 : frm [34, 35, 36, 37, 51, 8, 9, 39, 38, 20, 32, 29, 40, 41, 42, 43, 44, 45, 46, 47, 48, 49, 50, 11] g g_26 := frm_tr fr_g_11 f_w_25 (by decide)
                rw [if_pos hzq] at w_25_
                obtain ⟨x1, x2⟩ := Prod.mk.inj w_25_
                exact JK g_26 fu2_27 pl2_28 _ _ ls (fr_g_26) (k35_g_26) (k38_g_26) (k20_g_26) (k39_g_26) (k51_g_26) (k8_g_26) (k9_g_26) (k29_g_26) (k32_g_26) (fault_w_25) (place_w_25) (k34_g_26) (by rw [hTI, flI, if_pos ⟨hvk, hzq⟩]; exact x1) (ti2) (fun z => absurd (x1.symm.trans z) (by decide)) (by rw [x1]; decide) (hP.sub [15, 0, 1, 2, 3, 4, 5, 6, 7, 8, 9, 10, 11, 12, 13, 14] rfl) (hD.sub [15, 0, 1, 2, 3, 4, 5, 6, 7, 8, 9, 10, 11, 12, 13, 14] (by decide) rfl) hS (lv_sub hl [0, 1, 2, 3, 4, 5, 6, 7] rfl)
          · have hz : ¬ fu_7 = 0 := fun z => c_4 (by rw [z]; decide)
            have hTZ : tbZ b e (fu, pl, a) = 0 := by rw [tbZ, hTS, if_neg hz]
            have hng : tbG (tbR b e (fu, pl, a)) (v_3 + v_5 + 2) = false := by rw [tbR, hTS, hTZ]; exact decide_eq_false (fun w => absurd w.1 (fun y => by have hx := y; rw [tbX] at hx; by_cases q : (tbI b (a_5 + 0) a_5).1 = 0; exact absurd (tbI_lt q) (by omega); rw [wd0_bad q] at hx; exact q hx))
            have hP := hP.sub (ws' := [(mm, .inr (9, fl 78 gj_G7)), (Mrows, .inl (cB, 32000, .inl mrows)), (Mtab, .inl (cB, 1536, .inl mtab)), (Mnears, .inl (cJ, 8, .inr (.inl mnears))), (Msames, .inl (cJ, 1024, .inr (.inl msames))), (Mout, .inl (cB, 4000, .inl mout)), (MoutFrom, .inl (cI, 4000, .inl moutFrom)), (Msource, .inl (cB, 4000, .inl msource)), (MsourceFrom, .inl (cI, 4000, .inl msourceFrom)), (MdKind, .inl (cI, 4000, .inl mdKind)), (MdSize, .inl (cI, 4000, .inl mdSize)), (MdAddress, .inl (cI, 4000, .inl mdAddress)), (MdMode, .inl (cI, 4000, .inl mdMode)), (MdCode, .inl (cI, 4000, .inl mdCode)), (MdWindow, .inl (cI, 4000, .inl mdWindow)), (Mfirst, .inl (cB, 1536, .inl mfirst))]) [0, 15, 1, 2, 3, 4, 5, 6, 7, 8, 9, 10, 11, 12, 13, 14] rfl
            have hD := hD.sub (ws' := [(mm, .inr (9, fl 78 gj_G7)), (Mrows, .inl (cB, 32000, .inl mrows)), (Mtab, .inl (cB, 1536, .inl mtab)), (Mnears, .inl (cJ, 8, .inr (.inl mnears))), (Msames, .inl (cJ, 1024, .inr (.inl msames))), (Mout, .inl (cB, 4000, .inl mout)), (MoutFrom, .inl (cI, 4000, .inl moutFrom)), (Msource, .inl (cB, 4000, .inl msource)), (MsourceFrom, .inl (cI, 4000, .inl msourceFrom)), (MdKind, .inl (cI, 4000, .inl mdKind)), (MdSize, .inl (cI, 4000, .inl mdSize)), (MdAddress, .inl (cI, 4000, .inl mdAddress)), (MdMode, .inl (cI, 4000, .inl mdMode)), (MdCode, .inl (cI, 4000, .inl mdCode)), (MdWindow, .inl (cI, 4000, .inl mdWindow)), (Mfirst, .inl (cB, 1536, .inl mfirst))]) [0, 15, 1, 2, 3, 4, 5, 6, 7, 8, 9, 10, 11, 12, 13, 14] (by decide) rfl
            exact hret 137 ls _ _ (gj_G7, a_5, e, fu_7, pl_7, pa, n0, m0_, a_5, mtab, mnears, msames, mout, moutFrom, msource, msourceFrom, mdKind, mdSize, mdAddress, mdMode, mdCode, mdWindow) dX9_readTable_137 hP hD hS (⟨hf_G7, k_at_G7, k_end_G7, k_fault_G7, k_place_G7, k_partAt_G7, k_near_G7, k_same_G7, k_counts_G7, k_windows_G7, k_drafts_G7, ⟨by rw [tbE, hTN, hTM, hng, hTZ, hTS, skS, if_pos rfl, if_neg hz]; rfl, hf_7, fun z => absurd z hz⟩⟩)
        refine lv_aload_n hx hb dX9_readTable_95 rfl (lv_at hl 4 rfl) ?_
        refine fx_get (D := D) (ci := 9) (v := .int (nI fu_6)) (C := RX9) (T := TX9) (N := 78) hx hb hts in_X9 hown hK hP 0 rfl rfl 36 (by decide) (hts _ kX9_179) (fun _ h9 => h9) (k_fault_G6) dX9_readTable_96 ?_
        refine lv_if_ne (tgt := 130) hx hb dX9_readTable_99 (by decide) (fun c_30 => ?_) (fun c_30 => ?_)
        · have hz : ¬ fu_6 = 0 := fun z => c_30 (by rw [z]; decide)
          exact G7 gj_G6 fu_6 pl_6 _ _ ls (hf_G6) (k_end_G6) (k_windows_G6) (k_drafts_G6) (k_counts_G6) (k_partAt_G6) (k_near_G6) (k_same_G6) (k_fault_G6) (k_place_G6) (k_at_G6) (flI_st hz) (hf_6) hP hD hS (lv_sub hl [0, 1, 2, 3, 4] rfl)
        · have hz_7 : fu_6 = 0 := Decidable.byContradiction (fun z => nI_ne0 (Nat.pos_of_ne_zero z) hf_6 c_30)
          have e1 := hr_1 (bk_2 (bk_3 (bk_4 (bk_5 (bk_6 hz_7)))))
          have hv2 : ¬ v_1 < 2 := (flI_0 hq_2 (bk_3 (bk_4 (bk_5 (bk_6 hz_7)))) (by decide)).1
          subst e1
          refine lv_lload_n hx hb dX9_readTable_102 rfl (lv_at hl 3 rfl) ?_
          refine lv_ldc2 hx hb hown (hts _ kX9_211) dX9_readTable_103 ?_
          refine rl (y := lN 2) (rfl) ?_
          refine lv_lsub hx hb dX9_readTable_106 ?_
          refine rl (y := lN (v_1 - 2)) (lN_sub (by omega)) ?_
          refine lv_aload_n hx hb dX9_readTable_107 rfl (lv_at hl 4 rfl) ?_
          refine fx_get (D := D) (ci := 9) (v := .int (nI e)) (C := RX9) (T := TX9) (N := 78) hx hb hts in_X9 hown hK hP 0 rfl rfl 35 (by decide) (hts _ kX9_188) (fun _ h9 => h9) (k_end_G6) dX9_readTable_108 ?_
          refine lv_aload_n hx hb dX9_readTable_111 rfl (lv_at hl 4 rfl) ?_
          refine fx_get (D := D) (ci := 9) (v := .int (nI a_5)) (C := RX9) (T := TX9) (N := 78) hx hb hts in_X9 hown hK hP 0 rfl rfl 34 (by decide) (hts _ kX9_185) (fun _ h9 => h9) (k_at_G6) dX9_readTable_112 ?_
          refine lv_isub hx hb dX9_readTable_115 ?_
          refine ri (y := nI (e - a_5)) (pk_sub (by omega)) ?_
          refine lv_i2l hx hb dX9_readTable_116 (v := (nI (e - a_5)).toInt64) rfl ?_
          refine rl (y := lN (e - a_5)) (nI_l (by omega)) ?_
          refine W.lcmp hx hb dX9_readTable_117 ?_
          refine lv_if_le (tgt := 130) hx hb dX9_readTable_118 (by decide) (fun c_31 => ?_) (fun c_31 => ?_)
          · exact G7 gj_G6 fu_6 pl_6 _ _ ls (hf_G6) (k_end_G6) (k_windows_G6) (k_drafts_G6) (k_counts_G6) (k_partAt_G6) (k_near_G6) (k_same_G6) (k_fault_G6) (k_place_G6) (k_at_G6) (by rw [flI, if_neg (fun z => absurd z.1 (by have := (pk_lLE (by omega) (by omega)).mp ((lg_cmp_le _ _).mp c_31); omega))]) (hf_6) hP hD hS (lv_sub hl [0, 1, 2, 3, 4] rfl)
          · have hcd_7 : e + 2 < v_1 + a_5 := by have := Nat.not_le.mp (fun w => c_31 ((lg_cmp_le _ _).mpr ((pk_lLE (by omega) (by omega)).mpr w))); omega
            refine lv_aload_n hx hb dX9_readTable_121 rfl (lv_at hl 4 rfl) ?_
            refine lv_iconst (v := 1) hx hb dX9_readTable_122 (by decide) ?_
            refine ri (y := nI 1) (rfl) ?_
            refine lv_aload_n hx hb dX9_readTable_123 rfl (lv_at hl 4 rfl) ?_
            refine fx_get (D := D) (ci := 9) (v := .int (nI e)) (C := RX9) (T := TX9) (N := 78) hx hb hts in_X9 hown hK hP 0 rfl rfl 35 (by decide) (hts _ kX9_188) (fun _ h9 => h9) (k_end_G6) dX9_readTable_124 ?_
            refine jn_v (wr := [(Mtab, .inl (cB, 1536, .inl mtab)), (Mnears, .inl (cJ, 8, .inr (.inl mnears))), (Msames, .inl (cJ, 1024, .inr (.inl msames))), (Mout, .inl (cB, 4000, .inl mout)), (MoutFrom, .inl (cI, 4000, .inl moutFrom)), (Msource, .inl (cB, 4000, .inl msource)), (MsourceFrom, .inl (cI, 4000, .inl msourceFrom)), (MdKind, .inl (cI, 4000, .inl mdKind)), (MdSize, .inl (cI, 4000, .inl mdSize)), (MdAddress, .inl (cI, 4000, .inl mdAddress)), (MdMode, .inl (cI, 4000, .inl mdMode)), (MdCode, .inl (cI, 4000, .inl mdCode)), (MdWindow, .inl (cI, 4000, .inl mdWindow)), (Mfirst, .inl (cB, 1536, .inl mfirst)), (Mrows, .inl (cB, 32000, .inl mrows))]) hA hP hD hS [0] [1, 2, 3, 4, 5, 6, 7, 8, 9, 10, 11, 12, 13, 14, 15] rfl rfl (by decide) (by decide) (rn_V (As := [.int (nI 1), .int (nI e)]) (rest := []) ⟨hx, hb, hml, hown, hts⟩ (cvV 2 hts zc_yX9_fail zi_X9 zm_yX9_fail zv_yX9_fail kX9_191 (by decide +kernel) rfl rfl ⟨Nat.le_of_ble_eq_true rfl, Nat.le_of_ble_eq_true rfl⟩) (m_fail l D cI cB cJ cR mm gj_G6 fu_6 pl_6 1 e (k_fault_G6) (k_place_G6) (hf_6) H.size) hK hNw hMk hA hP hD hS [0] rfl rfl (by decide) 0 rfl rfl rfl rfl hl.1 rfl (Nat.le_of_ble_eq_true rfl) dX9_readTable_127 ⟨Nat.le_of_ble_eq_true rfl, Nat.le_of_ble_eq_true rfl⟩) (fun u9 H locs w_32 hP hD hS => ?_)
            obtain ⟨g_33, fu2_34, pl2_35⟩ := u9
            try dsimp only at w_32
            have hP : va_P D vwCl [(Mtab, .inl (cB, 1536, .inl mtab)), (Mnears, .inl (cJ, 8, .inr (.inl mnears))), (Msames, .inl (cJ, 1024, .inr (.inl msames))), (Mout, .inl (cB, 4000, .inl mout)), (MoutFrom, .inl (cI, 4000, .inl moutFrom)), (Msource, .inl (cB, 4000, .inl msource)), (MsourceFrom, .inl (cI, 4000, .inl msourceFrom)), (MdKind, .inl (cI, 4000, .inl mdKind)), (MdSize, .inl (cI, 4000, .inl mdSize)), (MdAddress, .inl (cI, 4000, .inl mdAddress)), (MdMode, .inl (cI, 4000, .inl mdMode)), (MdCode, .inl (cI, 4000, .inl mdCode)), (MdWindow, .inl (cI, 4000, .inl mdWindow)), (Mfirst, .inl (cB, 1536, .inl mfirst)), (Mrows, .inl (cB, 32000, .inl mrows)), (mm, .inr (9, fl 78 g_33))] H := hP
            have hD : va_D A0 [(Mtab, .inl (cB, 1536, .inl mtab)), (Mnears, .inl (cJ, 8, .inr (.inl mnears))), (Msames, .inl (cJ, 1024, .inr (.inl msames))), (Mout, .inl (cB, 4000, .inl mout)), (MoutFrom, .inl (cI, 4000, .inl moutFrom)), (Msource, .inl (cB, 4000, .inl msource)), (MsourceFrom, .inl (cI, 4000, .inl msourceFrom)), (MdKind, .inl (cI, 4000, .inl mdKind)), (MdSize, .inl (cI, 4000, .inl mdSize)), (MdAddress, .inl (cI, 4000, .inl mdAddress)), (MdMode, .inl (cI, 4000, .inl mdMode)), (MdCode, .inl (cI, 4000, .inl mdCode)), (MdWindow, .inl (cI, 4000, .inl mdWindow)), (Mfirst, .inl (cB, 1536, .inl mfirst)), (Mrows, .inl (cB, 32000, .inl mrows)), (mm, .inr (9, fl 78 g_33))] := hD
            obtain ⟨f_w_32, fault_w_32, place_w_32, w_32_⟩ := w_32
            have k33_g_33 : g_33 33 = .int (nI bs) := (f_w_32 33 (by decide)).trans ((hf_G6 33 (by decide)).trans g_base)
            have k1_g_33 : g_33 1 = .ref Mrows := (f_w_32 1 (by decide)).trans ((hf_G6 1 (by decide)).trans g_rows)
            have k7_g_33 : g_33 7 = .ref Mtab := (f_w_32 7 (by decide)).trans ((hf_G6 7 (by decide)).trans g_tab)
            have k10_g_33 : g_33 10 = .ref Mnears := (f_w_32 10 (by decide)).trans ((hf_G6 10 (by decide)).trans g_nears)
            have k12_g_33 : g_33 12 = .ref Msames := (f_w_32 12 (by decide)).trans ((hf_G6 12 (by decide)).trans g_sames)
            have k30_g_33 : g_33 30 = .ref Mout := (f_w_32 30 (by decide)).trans ((hf_G6 30 (by decide)).trans g_out)
            have k31_g_33 : g_33 31 = .ref MoutFrom := (f_w_32 31 (by decide)).trans ((hf_G6 31 (by decide)).trans g_outFrom)
            have k27_g_33 : g_33 27 = .ref Msource := (f_w_32 27 (by decide)).trans ((hf_G6 27 (by decide)).trans g_source)
            have k28_g_33 : g_33 28 = .ref MsourceFrom := (f_w_32 28 (by decide)).trans ((hf_G6 28 (by decide)).trans g_sourceFrom)
            have k21_g_33 : g_33 21 = .ref MdKind := (f_w_32 21 (by decide)).trans ((hf_G6 21 (by decide)).trans g_dKind)
            have k22_g_33 : g_33 22 = .ref MdSize := (f_w_32 22 (by decide)).trans ((hf_G6 22 (by decide)).trans g_dSize)
            have k23_g_33 : g_33 23 = .ref MdAddress := (f_w_32 23 (by decide)).trans ((hf_G6 23 (by decide)).trans g_dAddress)
            have k24_g_33 : g_33 24 = .ref MdMode := (f_w_32 24 (by decide)).trans ((hf_G6 24 (by decide)).trans g_dMode)
            have k25_g_33 : g_33 25 = .ref MdCode := (f_w_32 25 (by decide)).trans ((hf_G6 25 (by decide)).trans g_dCode)
            have k26_g_33 : g_33 26 = .ref MdWindow := (f_w_32 26 (by decide)).trans ((hf_G6 26 (by decide)).trans g_dWindow)
            have k3_g_33 : g_33 3 = .ref Mfirst := (f_w_32 3 (by decide)).trans ((hf_G6 3 (by decide)).trans g_first)
            have k35_g_33 : g_33 35 = .int (nI e) := (f_w_32 35 (by decide)).trans (k_end_G6)
            have k38_g_33 : g_33 38 = .int (nI wr) := (f_w_32 38 (by decide)).trans (k_windows_G6)
            have k20_g_33 : g_33 20 = .int (nI dr) := (f_w_32 20 (by decide)).trans (k_drafts_G6)
            have k39_g_33 : g_33 39 = .int (bI true) := (f_w_32 39 (by decide)).trans (k_counts_G6)
            have k51_g_33 : g_33 51 = .int pa := (f_w_32 51 (by decide)).trans (k_partAt_G6)
            have k8_g_33 : g_33 8 = .int (nI n0) := (f_w_32 8 (by decide)).trans (k_near_G6)
            have k9_g_33 : g_33 9 = .int (nI m0_) := (f_w_32 9 (by decide)).trans (k_same_G6)
            have k34_g_33 : g_33 34 = .int (nI a_5) := (f_w_32 34 (by decide)).trans (k_at_G6)
            have fr_g_33 : frm [34, 35, 36, 37, 51, 8, 9, 39, 38, 20, 32, 29, 40, 41, 42, 43, 44, 45, 46, 47, 48, 49, 50, 11] g g_33 := frm_tr hf_G6 f_w_32 (by decide)
            rw [if_pos hz_7] at w_32_
            obtain ⟨x1, x2⟩ := Prod.mk.inj w_32_
            exact G7 g_33 fu2_34 pl2_35 _ _ ls (fr_g_33) (k35_g_33) (k38_g_33) (k20_g_33) (k39_g_33) (k51_g_33) (k8_g_33) (k9_g_33) (fault_w_32) (place_w_32) (k34_g_33) (by rw [flI, if_pos ⟨hcd_7, hz_7⟩, x1, x2]) (by rw [x1]; decide) (hP.sub [15, 0, 1, 2, 3, 4, 5, 6, 7, 8, 9, 10, 11, 12, 13, 14] rfl) (hD.sub [15, 0, 1, 2, 3, 4, 5, 6, 7, 8, 9, 10, 11, 12, 13, 14] (by decide) rfl) hS (lv_sub hl [0, 1, 2, 3, 4] rfl)
      refine lv_aload_n hx hb dX9_readTable_75 rfl (lv_at hl 4 rfl) ?_
      refine fx_get (D := D) (ci := 9) (v := .int (nI fu_5)) (C := RX9) (T := TX9) (N := 78) hx hb hts in_X9 hown hK hP 14 rfl rfl 36 (by decide) (hts _ kX9_179) (fun _ h9 => h9) (fault_ht_5) dX9_readTable_76 ?_
      refine lv_if_ne (tgt := 95) hx hb dX9_readTable_79 (by decide) (fun c_37 => ?_) (fun c_37 => ?_)
      · have hz : ¬ fu_5 = 0 := fun z => c_37 (by rw [z]; decide)
        exact G6 g_3 fu_5 pl_5 _ _ ls (fr_g_3) (k35_g_3) (k38_g_3) (k20_g_3) (k39_g_3) (k51_g_3) (k8_g_3) (k9_g_3) (fault_ht_5) (place_ht_5) (at_ht_5) (flI_st hz) (hf_5) (hP.sub [14, 0, 1, 2, 3, 4, 5, 6, 7, 8, 9, 10, 11, 12, 13, 15] rfl) (hD.sub [14, 0, 1, 2, 3, 4, 5, 6, 7, 8, 9, 10, 11, 12, 13, 15] (by decide) rfl) hS (lv_sub hl [0, 1, 2, 3, 4] rfl)
      · have hz_6 : fu_5 = 0 := Decidable.byContradiction (fun z => nI_ne0 (Nat.pos_of_ne_zero z) hf_5 c_37)
        refine lv_iload hx hb dX9_readTable_82 (lv_at hl 0 rfl) ?_
        refine lv_iconst (v := 4) hx hb dX9_readTable_84 (by decide) ?_
        refine lv_icmp_le (tgt := 95) hx hb dX9_readTable_85 (by decide) (fun c_38 => ?_) (fun c_38 => ?_)
        · exact G6 g_3 fu_5 pl_5 _ _ ls (fr_g_3) (k35_g_3) (k38_g_3) (k20_g_3) (k39_g_3) (k51_g_3) (k8_g_3) (k9_g_3) (fault_ht_5) (place_ht_5) (at_ht_5) (by rw [flI, if_neg (fun z => absurd z.1 (Nat.not_lt.mpr ((nI_leI (b := 4) (by omega) (by decide)).mp c_38)))]) (hf_5) (hP.sub [14, 0, 1, 2, 3, 4, 5, 6, 7, 8, 9, 10, 11, 12, 13, 15] rfl) (hD.sub [14, 0, 1, 2, 3, 4, 5, 6, 7, 8, 9, 10, 11, 12, 13, 15] (by decide) rfl) hS (lv_sub hl [0, 1, 2, 3, 4] rfl)
        · have hcd_6 : 4 < v_5 := Nat.not_le.mp (fun q => c_38 (nI_le (b := 4) q (by decide)))
          refine lv_aload_n hx hb dX9_readTable_88 rfl (lv_at hl 4 rfl) ?_
          refine lv_bipush (v := 18) hx hb dX9_readTable_89 (by decide) ?_
          refine ri (y := nI 18) (rfl) ?_
          refine lv_iload_n hx hb dX9_readTable_91 rfl (lv_at hl 1 rfl) ?_
          refine jn_v (wr := [(Mtab, .inl (cB, 1536, .inl mtab)), (Mnears, .inl (cJ, 8, .inr (.inl mnears))), (Msames, .inl (cJ, 1024, .inr (.inl msames))), (Mout, .inl (cB, 4000, .inl mout)), (MoutFrom, .inl (cI, 4000, .inl moutFrom)), (Msource, .inl (cB, 4000, .inl msource)), (MsourceFrom, .inl (cI, 4000, .inl msourceFrom)), (MdKind, .inl (cI, 4000, .inl mdKind)), (MdSize, .inl (cI, 4000, .inl mdSize)), (MdAddress, .inl (cI, 4000, .inl mdAddress)), (MdMode, .inl (cI, 4000, .inl mdMode)), (MdCode, .inl (cI, 4000, .inl mdCode)), (MdWindow, .inl (cI, 4000, .inl mdWindow)), (Mfirst, .inl (cB, 1536, .inl mfirst)), (Mrows, .inl (cB, 32000, .inl mrows))]) hA hP hD hS [14] [0, 1, 2, 3, 4, 5, 6, 7, 8, 9, 10, 11, 12, 13, 15] rfl rfl (by decide) (by decide) (rn_V (As := [.int (nI 18), .int (nI a_3)]) (rest := []) ⟨hx, hb, hml, hown, hts⟩ (cvV 2 hts zc_yX9_fail zi_X9 zm_yX9_fail zv_yX9_fail kX9_191 (by decide +kernel) rfl rfl ⟨Nat.le_of_ble_eq_true rfl, Nat.le_of_ble_eq_true rfl⟩) (m_fail l D cI cB cJ cR mm g_3 fu_5 pl_5 18 a_3 (fault_ht_5) (place_ht_5) (hf_5) H.size) hK hNw hMk hA hP hD hS [14] rfl rfl (by decide) 0 rfl rfl rfl rfl hl.1 rfl (Nat.le_of_ble_eq_true rfl) dX9_readTable_92 ⟨Nat.le_of_ble_eq_true rfl, Nat.le_of_ble_eq_true rfl⟩) (fun u9 H locs w_39 hP hD hS => ?_)
          obtain ⟨g_40, fu2_41, pl2_42⟩ := u9
          try dsimp only at w_39
          have hP : va_P D vwCl [(Mtab, .inl (cB, 1536, .inl mtab)), (Mnears, .inl (cJ, 8, .inr (.inl mnears))), (Msames, .inl (cJ, 1024, .inr (.inl msames))), (Mout, .inl (cB, 4000, .inl mout)), (MoutFrom, .inl (cI, 4000, .inl moutFrom)), (Msource, .inl (cB, 4000, .inl msource)), (MsourceFrom, .inl (cI, 4000, .inl msourceFrom)), (MdKind, .inl (cI, 4000, .inl mdKind)), (MdSize, .inl (cI, 4000, .inl mdSize)), (MdAddress, .inl (cI, 4000, .inl mdAddress)), (MdMode, .inl (cI, 4000, .inl mdMode)), (MdCode, .inl (cI, 4000, .inl mdCode)), (MdWindow, .inl (cI, 4000, .inl mdWindow)), (Mfirst, .inl (cB, 1536, .inl mfirst)), (Mrows, .inl (cB, 32000, .inl mrows)), (mm, .inr (9, fl 78 g_40))] H := hP
          have hD : va_D A0 [(Mtab, .inl (cB, 1536, .inl mtab)), (Mnears, .inl (cJ, 8, .inr (.inl mnears))), (Msames, .inl (cJ, 1024, .inr (.inl msames))), (Mout, .inl (cB, 4000, .inl mout)), (MoutFrom, .inl (cI, 4000, .inl moutFrom)), (Msource, .inl (cB, 4000, .inl msource)), (MsourceFrom, .inl (cI, 4000, .inl msourceFrom)), (MdKind, .inl (cI, 4000, .inl mdKind)), (MdSize, .inl (cI, 4000, .inl mdSize)), (MdAddress, .inl (cI, 4000, .inl mdAddress)), (MdMode, .inl (cI, 4000, .inl mdMode)), (MdCode, .inl (cI, 4000, .inl mdCode)), (MdWindow, .inl (cI, 4000, .inl mdWindow)), (Mfirst, .inl (cB, 1536, .inl mfirst)), (Mrows, .inl (cB, 32000, .inl mrows)), (mm, .inr (9, fl 78 g_40))] := hD
          obtain ⟨f_w_39, fault_w_39, place_w_39, w_39_⟩ := w_39
          have k33_g_40 : g_40 33 = .int (nI bs) := (f_w_39 33 (by decide)).trans (k33_g_3)
          have k1_g_40 : g_40 1 = .ref Mrows := (f_w_39 1 (by decide)).trans (k1_g_3)
          have k7_g_40 : g_40 7 = .ref Mtab := (f_w_39 7 (by decide)).trans (k7_g_3)
          have k10_g_40 : g_40 10 = .ref Mnears := (f_w_39 10 (by decide)).trans (k10_g_3)
          have k12_g_40 : g_40 12 = .ref Msames := (f_w_39 12 (by decide)).trans (k12_g_3)
          have k30_g_40 : g_40 30 = .ref Mout := (f_w_39 30 (by decide)).trans (k30_g_3)
          have k31_g_40 : g_40 31 = .ref MoutFrom := (f_w_39 31 (by decide)).trans (k31_g_3)
          have k27_g_40 : g_40 27 = .ref Msource := (f_w_39 27 (by decide)).trans (k27_g_3)
          have k28_g_40 : g_40 28 = .ref MsourceFrom := (f_w_39 28 (by decide)).trans (k28_g_3)
          have k21_g_40 : g_40 21 = .ref MdKind := (f_w_39 21 (by decide)).trans (k21_g_3)
          have k22_g_40 : g_40 22 = .ref MdSize := (f_w_39 22 (by decide)).trans (k22_g_3)
          have k23_g_40 : g_40 23 = .ref MdAddress := (f_w_39 23 (by decide)).trans (k23_g_3)
          have k24_g_40 : g_40 24 = .ref MdMode := (f_w_39 24 (by decide)).trans (k24_g_3)
          have k25_g_40 : g_40 25 = .ref MdCode := (f_w_39 25 (by decide)).trans (k25_g_3)
          have k26_g_40 : g_40 26 = .ref MdWindow := (f_w_39 26 (by decide)).trans (k26_g_3)
          have k3_g_40 : g_40 3 = .ref Mfirst := (f_w_39 3 (by decide)).trans (k3_g_3)
          have k35_g_40 : g_40 35 = .int (nI e) := (f_w_39 35 (by decide)).trans (k35_g_3)
          have k38_g_40 : g_40 38 = .int (nI wr) := (f_w_39 38 (by decide)).trans (k38_g_3)
          have k20_g_40 : g_40 20 = .int (nI dr) := (f_w_39 20 (by decide)).trans (k20_g_3)
          have k39_g_40 : g_40 39 = .int (bI true) := (f_w_39 39 (by decide)).trans (k39_g_3)
          have k51_g_40 : g_40 51 = .int pa := (f_w_39 51 (by decide)).trans (k51_g_3)
          have k8_g_40 : g_40 8 = .int (nI n0) := (f_w_39 8 (by decide)).trans (k8_g_3)
          have k9_g_40 : g_40 9 = .int (nI m0_) := (f_w_39 9 (by decide)).trans (k9_g_3)
          have k34_g_40 : g_40 34 = .int (nI a_5) := (f_w_39 34 (by decide)).trans (at_ht_5)
          have fr_g_40 : frm [34, 35, 36, 37, 51, 8, 9, 39, 38, 20, 32, 29, 40, 41, 42, 43, 44, 45, 46, 47, 48, 49, 50, 11] g g_40 := frm_tr fr_g_3 f_w_39 (by decide)
          rw [if_pos hz_6] at w_39_
          obtain ⟨x1, x2⟩ := Prod.mk.inj w_39_
          exact G6 g_40 fu2_41 pl2_42 _ _ ls (fr_g_40) (k35_g_40) (k38_g_40) (k20_g_40) (k39_g_40) (k51_g_40) (k8_g_40) (k9_g_40) (fault_w_39) (place_w_39) (k34_g_40) (by rw [flI, if_pos ⟨hcd_6, hz_6⟩, x1, x2]) (by rw [x1]; decide) (hP.sub [15, 0, 1, 2, 3, 4, 5, 6, 7, 8, 9, 10, 11, 12, 13, 14] rfl) (hD.sub [15, 0, 1, 2, 3, 4, 5, 6, 7, 8, 9, 10, 11, 12, 13, 14] (by decide) rfl) hS (lv_sub hl [0, 1, 2, 3, 4] rfl)
    refine lv_aload_n hx hb dX9_readTable_43 rfl (lv_at hl 3 rfl) ?_
    refine fx_get (D := D) (ci := 9) (v := .int (nI fu_3)) (C := RX9) (T := TX9) (N := 78) hx hb hts in_X9 hown hK hP 14 rfl rfl 36 (by decide) (hts _ kX9_179) (fun _ h9 => h9) (fault_ht_3) dX9_readTable_44 ?_
    refine lv_if_ne (tgt := 64) hx hb dX9_readTable_47 (by decide) (fun c_44 => ?_) (fun c_44 => ?_)
    · have hz : ¬ fu_3 = 0 := fun z => c_44 (by rw [z]; decide)
      exact G4 g_2 fu_3 pl_3 _ _ ls (fr_g_2) (k35_g_2) (k38_g_2) (k20_g_2) (k39_g_2) (k51_g_2) (k8_g_2) (k9_g_2) (fault_ht_3) (place_ht_3) (at_ht_3) (flI_st hz) (hf_3) (hP.sub [14, 0, 1, 2, 3, 4, 5, 6, 7, 8, 9, 10, 11, 12, 13, 15] rfl) (hD.sub [14, 0, 1, 2, 3, 4, 5, 6, 7, 8, 9, 10, 11, 12, 13, 15] (by decide) rfl) hS (lv_sub hl [0, 1, 2, 3] rfl)
    · have hz_4 : fu_3 = 0 := Decidable.byContradiction (fun z => nI_ne0 (Nat.pos_of_ne_zero z) hf_3 c_44)
      refine lv_iload hx hb dX9_readTable_50 (lv_at hl 0 rfl) ?_
      refine lv_bipush (v := 8) hx hb dX9_readTable_52 (by decide) ?_
      refine lv_icmp_le (tgt := 64) hx hb dX9_readTable_54 (by decide) (fun c_45 => ?_) (fun c_45 => ?_)
      · exact G4 g_2 fu_3 pl_3 _ _ ls (fr_g_2) (k35_g_2) (k38_g_2) (k20_g_2) (k39_g_2) (k51_g_2) (k8_g_2) (k9_g_2) (fault_ht_3) (place_ht_3) (at_ht_3) (by rw [flI, if_neg (fun z => absurd z.1 (Nat.not_lt.mpr ((nI_leI (b := 8) (by omega) (by decide)).mp c_45)))]) (hf_3) (hP.sub [14, 0, 1, 2, 3, 4, 5, 6, 7, 8, 9, 10, 11, 12, 13, 15] rfl) (hD.sub [14, 0, 1, 2, 3, 4, 5, 6, 7, 8, 9, 10, 11, 12, 13, 15] (by decide) rfl) hS (lv_sub hl [0, 1, 2, 3] rfl)
      · have hcd_4 : 8 < v_3 := Nat.not_le.mp (fun q => c_45 (nI_le (b := 8) q (by decide)))
        refine lv_aload_n hx hb dX9_readTable_57 rfl (lv_at hl 3 rfl) ?_
        refine lv_bipush (v := 18) hx hb dX9_readTable_58 (by decide) ?_
        refine ri (y := nI 18) (rfl) ?_
        refine lv_iload_n hx hb dX9_readTable_60 rfl (lv_at hl 1 rfl) ?_
        refine jn_v (wr := [(Mtab, .inl (cB, 1536, .inl mtab)), (Mnears, .inl (cJ, 8, .inr (.inl mnears))), (Msames, .inl (cJ, 1024, .inr (.inl msames))), (Mout, .inl (cB, 4000, .inl mout)), (MoutFrom, .inl (cI, 4000, .inl moutFrom)), (Msource, .inl (cB, 4000, .inl msource)), (MsourceFrom, .inl (cI, 4000, .inl msourceFrom)), (MdKind, .inl (cI, 4000, .inl mdKind)), (MdSize, .inl (cI, 4000, .inl mdSize)), (MdAddress, .inl (cI, 4000, .inl mdAddress)), (MdMode, .inl (cI, 4000, .inl mdMode)), (MdCode, .inl (cI, 4000, .inl mdCode)), (MdWindow, .inl (cI, 4000, .inl mdWindow)), (Mfirst, .inl (cB, 1536, .inl mfirst)), (Mrows, .inl (cB, 32000, .inl mrows))]) hA hP hD hS [14] [0, 1, 2, 3, 4, 5, 6, 7, 8, 9, 10, 11, 12, 13, 15] rfl rfl (by decide) (by decide) (rn_V (As := [.int (nI 18), .int (nI a_1)]) (rest := []) ⟨hx, hb, hml, hown, hts⟩ (cvV 2 hts zc_yX9_fail zi_X9 zm_yX9_fail zv_yX9_fail kX9_191 (by decide +kernel) rfl rfl ⟨Nat.le_of_ble_eq_true rfl, Nat.le_of_ble_eq_true rfl⟩) (m_fail l D cI cB cJ cR mm g_2 fu_3 pl_3 18 a_1 (fault_ht_3) (place_ht_3) (hf_3) H.size) hK hNw hMk hA hP hD hS [14] rfl rfl (by decide) 0 rfl rfl rfl rfl hl.1 rfl (Nat.le_of_ble_eq_true rfl) dX9_readTable_61 ⟨Nat.le_of_ble_eq_true rfl, Nat.le_of_ble_eq_true rfl⟩) (fun u9 H locs w_46 hP hD hS => ?_)
        obtain ⟨g_47, fu2_48, pl2_49⟩ := u9
        try dsimp only at w_46
        have hP : va_P D vwCl [(Mtab, .inl (cB, 1536, .inl mtab)), (Mnears, .inl (cJ, 8, .inr (.inl mnears))), (Msames, .inl (cJ, 1024, .inr (.inl msames))), (Mout, .inl (cB, 4000, .inl mout)), (MoutFrom, .inl (cI, 4000, .inl moutFrom)), (Msource, .inl (cB, 4000, .inl msource)), (MsourceFrom, .inl (cI, 4000, .inl msourceFrom)), (MdKind, .inl (cI, 4000, .inl mdKind)), (MdSize, .inl (cI, 4000, .inl mdSize)), (MdAddress, .inl (cI, 4000, .inl mdAddress)), (MdMode, .inl (cI, 4000, .inl mdMode)), (MdCode, .inl (cI, 4000, .inl mdCode)), (MdWindow, .inl (cI, 4000, .inl mdWindow)), (Mfirst, .inl (cB, 1536, .inl mfirst)), (Mrows, .inl (cB, 32000, .inl mrows)), (mm, .inr (9, fl 78 g_47))] H := hP
        have hD : va_D A0 [(Mtab, .inl (cB, 1536, .inl mtab)), (Mnears, .inl (cJ, 8, .inr (.inl mnears))), (Msames, .inl (cJ, 1024, .inr (.inl msames))), (Mout, .inl (cB, 4000, .inl mout)), (MoutFrom, .inl (cI, 4000, .inl moutFrom)), (Msource, .inl (cB, 4000, .inl msource)), (MsourceFrom, .inl (cI, 4000, .inl msourceFrom)), (MdKind, .inl (cI, 4000, .inl mdKind)), (MdSize, .inl (cI, 4000, .inl mdSize)), (MdAddress, .inl (cI, 4000, .inl mdAddress)), (MdMode, .inl (cI, 4000, .inl mdMode)), (MdCode, .inl (cI, 4000, .inl mdCode)), (MdWindow, .inl (cI, 4000, .inl mdWindow)), (Mfirst, .inl (cB, 1536, .inl mfirst)), (Mrows, .inl (cB, 32000, .inl mrows)), (mm, .inr (9, fl 78 g_47))] := hD
        obtain ⟨f_w_46, fault_w_46, place_w_46, w_46_⟩ := w_46
        have k33_g_47 : g_47 33 = .int (nI bs) := (f_w_46 33 (by decide)).trans (k33_g_2)
        have k1_g_47 : g_47 1 = .ref Mrows := (f_w_46 1 (by decide)).trans (k1_g_2)
        have k7_g_47 : g_47 7 = .ref Mtab := (f_w_46 7 (by decide)).trans (k7_g_2)
        have k10_g_47 : g_47 10 = .ref Mnears := (f_w_46 10 (by decide)).trans (k10_g_2)
        have k12_g_47 : g_47 12 = .ref Msames := (f_w_46 12 (by decide)).trans (k12_g_2)
        have k30_g_47 : g_47 30 = .ref Mout := (f_w_46 30 (by decide)).trans (k30_g_2)
        have k31_g_47 : g_47 31 = .ref MoutFrom := (f_w_46 31 (by decide)).trans (k31_g_2)
        have k27_g_47 : g_47 27 = .ref Msource := (f_w_46 27 (by decide)).trans (k27_g_2)
        have k28_g_47 : g_47 28 = .ref MsourceFrom := (f_w_46 28 (by decide)).trans (k28_g_2)
        have k21_g_47 : g_47 21 = .ref MdKind := (f_w_46 21 (by decide)).trans (k21_g_2)
        have k22_g_47 : g_47 22 = .ref MdSize := (f_w_46 22 (by decide)).trans (k22_g_2)
        have k23_g_47 : g_47 23 = .ref MdAddress := (f_w_46 23 (by decide)).trans (k23_g_2)
        have k24_g_47 : g_47 24 = .ref MdMode := (f_w_46 24 (by decide)).trans (k24_g_2)
        have k25_g_47 : g_47 25 = .ref MdCode := (f_w_46 25 (by decide)).trans (k25_g_2)
        have k26_g_47 : g_47 26 = .ref MdWindow := (f_w_46 26 (by decide)).trans (k26_g_2)
        have k3_g_47 : g_47 3 = .ref Mfirst := (f_w_46 3 (by decide)).trans (k3_g_2)
        have k35_g_47 : g_47 35 = .int (nI e) := (f_w_46 35 (by decide)).trans (k35_g_2)
        have k38_g_47 : g_47 38 = .int (nI wr) := (f_w_46 38 (by decide)).trans (k38_g_2)
        have k20_g_47 : g_47 20 = .int (nI dr) := (f_w_46 20 (by decide)).trans (k20_g_2)
        have k39_g_47 : g_47 39 = .int (bI true) := (f_w_46 39 (by decide)).trans (k39_g_2)
        have k51_g_47 : g_47 51 = .int pa := (f_w_46 51 (by decide)).trans (k51_g_2)
        have k8_g_47 : g_47 8 = .int (nI n0) := (f_w_46 8 (by decide)).trans (k8_g_2)
        have k9_g_47 : g_47 9 = .int (nI m0_) := (f_w_46 9 (by decide)).trans (k9_g_2)
        have k34_g_47 : g_47 34 = .int (nI a_3) := (f_w_46 34 (by decide)).trans (at_ht_3)
        have fr_g_47 : frm [34, 35, 36, 37, 51, 8, 9, 39, 38, 20, 32, 29, 40, 41, 42, 43, 44, 45, 46, 47, 48, 49, 50, 11] g g_47 := frm_tr fr_g_2 f_w_46 (by decide)
        rw [if_pos hz_4] at w_46_
        obtain ⟨x1, x2⟩ := Prod.mk.inj w_46_
        exact G4 g_47 fu2_48 pl2_49 _ _ ls (fr_g_47) (k35_g_47) (k38_g_47) (k20_g_47) (k39_g_47) (k51_g_47) (k8_g_47) (k9_g_47) (fault_w_46) (place_w_46) (k34_g_47) (by rw [flI, if_pos ⟨hcd_4, hz_4⟩, x1, x2]) (by rw [x1]; decide) (hP.sub [15, 0, 1, 2, 3, 4, 5, 6, 7, 8, 9, 10, 11, 12, 13, 14] rfl) (hD.sub [15, 0, 1, 2, 3, 4, 5, 6, 7, 8, 9, 10, 11, 12, 13, 14] (by decide) rfl) hS (lv_sub hl [0, 1, 2, 3] rfl)
  refine lv_aload_n hx hb dX9_readTable_10 rfl (lv_at hl 2 rfl) ?_
  refine fx_get (D := D) (ci := 9) (v := .int (nI fu_1)) (C := RX9) (T := TX9) (N := 78) hx hb hts in_X9 hown hK hP 14 rfl rfl 36 (by decide) (hts _ kX9_179) (fun _ h9 => h9) (fault_ht_1) dX9_readTable_11 ?_
  refine lv_if_ne (tgt := 32) hx hb dX9_readTable_14 (by decide) (fun c_51 => ?_) (fun c_51 => ?_)
  · have hz : ¬ fu_1 = 0 := fun z => c_51 (by rw [z]; decide)
    exact G2 g_1 fu_1 pl_1 _ _ ls (fr_g_1) (k35_g_1) (k38_g_1) (k20_g_1) (k39_g_1) (k51_g_1) (k8_g_1) (k9_g_1) (fault_ht_1) (place_ht_1) (at_ht_1) (flI_st hz) (hf_1) (hP.sub [14, 0, 1, 2, 3, 4, 5, 6, 7, 8, 9, 10, 11, 12, 13, 15] rfl) (hD.sub [14, 0, 1, 2, 3, 4, 5, 6, 7, 8, 9, 10, 11, 12, 13, 15] (by decide) rfl) hS (lv_sub hl [0, 1, 2] rfl)
  · have hz_2 : fu_1 = 0 := Decidable.byContradiction (fun z => nI_ne0 (Nat.pos_of_ne_zero z) hf_1 c_51)
    have e1 := hr_1 hz_2
    subst e1
    refine lv_lload_n hx hb dX9_readTable_17 rfl (lv_at hl 0 rfl) ?_
    refine lv_ldc2 hx hb hown (hts _ kX9_211) dX9_readTable_18 ?_
    refine rl (y := lN 2) (rfl) ?_
    refine W.lcmp hx hb dX9_readTable_21 ?_
    refine lv_if_ge (tgt := 32) hx hb dX9_readTable_22 (by decide) (fun c_52 => ?_) (fun c_52 => ?_)
    · exact G2 g_1 fu_1 pl_1 _ _ ls (fr_g_1) (k35_g_1) (k38_g_1) (k20_g_1) (k39_g_1) (k51_g_1) (k8_g_1) (k9_g_1) (fault_ht_1) (place_ht_1) (at_ht_1) (by rw [flI, if_neg (fun z => absurd z.1 (Nat.not_lt.mpr ((pk_lLE (by decide) (by omega)).mp ((lg_cmp_ge _ _).mp c_52))))]) (hf_1) (hP.sub [14, 0, 1, 2, 3, 4, 5, 6, 7, 8, 9, 10, 11, 12, 13, 15] rfl) (hD.sub [14, 0, 1, 2, 3, 4, 5, 6, 7, 8, 9, 10, 11, 12, 13, 15] (by decide) rfl) hS (lv_sub hl [0, 1, 2] rfl)
    · have hcd_2 : v_1 < 2 := Nat.not_le.mp (fun w => c_52 ((lg_cmp_ge _ _).mpr ((pk_lLE (by decide) (by omega)).mpr w)))
      refine lv_aload_n hx hb dX9_readTable_25 rfl (lv_at hl 2 rfl) ?_
      refine lv_bipush (v := 18) hx hb dX9_readTable_26 (by decide) ?_
      refine ri (y := nI 18) (rfl) ?_
      refine lv_iload_n hx hb dX9_readTable_28 rfl (lv_at hl 1 rfl) ?_
      refine jn_v (wr := [(Mtab, .inl (cB, 1536, .inl mtab)), (Mnears, .inl (cJ, 8, .inr (.inl mnears))), (Msames, .inl (cJ, 1024, .inr (.inl msames))), (Mout, .inl (cB, 4000, .inl mout)), (MoutFrom, .inl (cI, 4000, .inl moutFrom)), (Msource, .inl (cB, 4000, .inl msource)), (MsourceFrom, .inl (cI, 4000, .inl msourceFrom)), (MdKind, .inl (cI, 4000, .inl mdKind)), (MdSize, .inl (cI, 4000, .inl mdSize)), (MdAddress, .inl (cI, 4000, .inl mdAddress)), (MdMode, .inl (cI, 4000, .inl mdMode)), (MdCode, .inl (cI, 4000, .inl mdCode)), (MdWindow, .inl (cI, 4000, .inl mdWindow)), (Mfirst, .inl (cB, 1536, .inl mfirst)), (Mrows, .inl (cB, 32000, .inl mrows))]) hA hP hD hS [14] [0, 1, 2, 3, 4, 5, 6, 7, 8, 9, 10, 11, 12, 13, 15] rfl rfl (by decide) (by decide) (rn_V (As := [.int (nI 18), .int (nI a)]) (rest := []) ⟨hx, hb, hml, hown, hts⟩ (cvV 2 hts zc_yX9_fail zi_X9 zm_yX9_fail zv_yX9_fail kX9_191 (by decide +kernel) rfl rfl ⟨Nat.le_of_ble_eq_true rfl, Nat.le_of_ble_eq_true rfl⟩) (m_fail l D cI cB cJ cR mm g_1 fu_1 pl_1 18 a (fault_ht_1) (place_ht_1) (hf_1) H.size) hK hNw hMk hA hP hD hS [14] rfl rfl (by decide) 0 rfl rfl rfl rfl hl.1 rfl (Nat.le_of_ble_eq_true rfl) dX9_readTable_29 ⟨Nat.le_of_ble_eq_true rfl, Nat.le_of_ble_eq_true rfl⟩) (fun u9 H locs w_53 hP hD hS => ?_)
      obtain ⟨g_54, fu2_55, pl2_56⟩ := u9
      try dsimp only at w_53
      have hP : va_P D vwCl [(Mtab, .inl (cB, 1536, .inl mtab)), (Mnears, .inl (cJ, 8, .inr (.inl mnears))), (Msames, .inl (cJ, 1024, .inr (.inl msames))), (Mout, .inl (cB, 4000, .inl mout)), (MoutFrom, .inl (cI, 4000, .inl moutFrom)), (Msource, .inl (cB, 4000, .inl msource)), (MsourceFrom, .inl (cI, 4000, .inl msourceFrom)), (MdKind, .inl (cI, 4000, .inl mdKind)), (MdSize, .inl (cI, 4000, .inl mdSize)), (MdAddress, .inl (cI, 4000, .inl mdAddress)), (MdMode, .inl (cI, 4000, .inl mdMode)), (MdCode, .inl (cI, 4000, .inl mdCode)), (MdWindow, .inl (cI, 4000, .inl mdWindow)), (Mfirst, .inl (cB, 1536, .inl mfirst)), (Mrows, .inl (cB, 32000, .inl mrows)), (mm, .inr (9, fl 78 g_54))] H := hP
      have hD : va_D A0 [(Mtab, .inl (cB, 1536, .inl mtab)), (Mnears, .inl (cJ, 8, .inr (.inl mnears))), (Msames, .inl (cJ, 1024, .inr (.inl msames))), (Mout, .inl (cB, 4000, .inl mout)), (MoutFrom, .inl (cI, 4000, .inl moutFrom)), (Msource, .inl (cB, 4000, .inl msource)), (MsourceFrom, .inl (cI, 4000, .inl msourceFrom)), (MdKind, .inl (cI, 4000, .inl mdKind)), (MdSize, .inl (cI, 4000, .inl mdSize)), (MdAddress, .inl (cI, 4000, .inl mdAddress)), (MdMode, .inl (cI, 4000, .inl mdMode)), (MdCode, .inl (cI, 4000, .inl mdCode)), (MdWindow, .inl (cI, 4000, .inl mdWindow)), (Mfirst, .inl (cB, 1536, .inl mfirst)), (Mrows, .inl (cB, 32000, .inl mrows)), (mm, .inr (9, fl 78 g_54))] := hD
      obtain ⟨f_w_53, fault_w_53, place_w_53, w_53_⟩ := w_53
      have k35_g_54 : g_54 35 = .int (nI e) := (f_w_53 35 (by decide)).trans (k35_g_1)
      have k33_g_54 : g_54 33 = .int (nI bs) := (f_w_53 33 (by decide)).trans (k33_g_1)
      have k38_g_54 : g_54 38 = .int (nI wr) := (f_w_53 38 (by decide)).trans (k38_g_1)
      have k20_g_54 : g_54 20 = .int (nI dr) := (f_w_53 20 (by decide)).trans (k20_g_1)
      have k39_g_54 : g_54 39 = .int (bI true) := (f_w_53 39 (by decide)).trans (k39_g_1)
      have k51_g_54 : g_54 51 = .int pa := (f_w_53 51 (by decide)).trans (k51_g_1)
      have k8_g_54 : g_54 8 = .int (nI n0) := (f_w_53 8 (by decide)).trans (k8_g_1)
      have k9_g_54 : g_54 9 = .int (nI m0_) := (f_w_53 9 (by decide)).trans (k9_g_1)
      have k1_g_54 : g_54 1 = .ref Mrows := (f_w_53 1 (by decide)).trans (k1_g_1)
      have k7_g_54 : g_54 7 = .ref Mtab := (f_w_53 7 (by decide)).trans (k7_g_1)
      have k10_g_54 : g_54 10 = .ref Mnears := (f_w_53 10 (by decide)).trans (k10_g_1)
      have k12_g_54 : g_54 12 = .ref Msames := (f_w_53 12 (by decide)).trans (k12_g_1)
      have k30_g_54 : g_54 30 = .ref Mout := (f_w_53 30 (by decide)).trans (k30_g_1)
      have k31_g_54 : g_54 31 = .ref MoutFrom := (f_w_53 31 (by decide)).trans (k31_g_1)
      have k27_g_54 : g_54 27 = .ref Msource := (f_w_53 27 (by decide)).trans (k27_g_1)
      have k28_g_54 : g_54 28 = .ref MsourceFrom := (f_w_53 28 (by decide)).trans (k28_g_1)
      have k21_g_54 : g_54 21 = .ref MdKind := (f_w_53 21 (by decide)).trans (k21_g_1)
      have k22_g_54 : g_54 22 = .ref MdSize := (f_w_53 22 (by decide)).trans (k22_g_1)
      have k23_g_54 : g_54 23 = .ref MdAddress := (f_w_53 23 (by decide)).trans (k23_g_1)
      have k24_g_54 : g_54 24 = .ref MdMode := (f_w_53 24 (by decide)).trans (k24_g_1)
      have k25_g_54 : g_54 25 = .ref MdCode := (f_w_53 25 (by decide)).trans (k25_g_1)
      have k26_g_54 : g_54 26 = .ref MdWindow := (f_w_53 26 (by decide)).trans (k26_g_1)
      have k3_g_54 : g_54 3 = .ref Mfirst := (f_w_53 3 (by decide)).trans (k3_g_1)
      have k34_g_54 : g_54 34 = .int (nI a_1) := (f_w_53 34 (by decide)).trans (at_ht_1)
      have fr_g_54 : frm [34, 35, 36, 37, 51, 8, 9, 39, 38, 20, 32, 29, 40, 41, 42, 43, 44, 45, 46, 47, 48, 49, 50, 11] g g_54 := frm_tr fr_g_1 f_w_53 (by decide)
      rw [if_pos hz_2] at w_53_
      obtain ⟨x1, x2⟩ := Prod.mk.inj w_53_
      exact G2 g_54 fu2_55 pl2_56 _ _ ls (fr_g_54) (k35_g_54) (k38_g_54) (k20_g_54) (k39_g_54) (k51_g_54) (k8_g_54) (k9_g_54) (fault_w_53) (place_w_53) (k34_g_54) (by rw [flI, if_pos ⟨hcd_2, hz_2⟩, x1, x2]) (by rw [x1]; decide) (hP.sub [15, 0, 1, 2, 3, 4, 5, 6, 7, 8, 9, 10, 11, 12, 13, 14] rfl) (hD.sub [15, 0, 1, 2, 3, 4, 5, 6, 7, 8, 9, 10, 11, 12, 13, 14] (by decide) rfl) hS (lv_sub hl [0, 1, 2] rfl)
