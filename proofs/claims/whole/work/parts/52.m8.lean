theorem s8_in : ∀ v, v < 256 → decide ((0 : Int64) ≤ (s8 v).toInt64 ∧ (s8 v).toInt64 ≤ 3) = decide (v ≤ 3) := by decide +kernel
theorem right_succ {t : Nat → Nat} {m k : Nat} : rightP t m (k + 1) ↔ rightP t m k ∧ (t k ≤ 3 ∧ (t k = 3 → t (1024 + k) < m)) := by
  constructor
  · intro h; exact ⟨fun i hi => h i (by omega), h k (by omega)⟩
  · intro h i hi
    by_cases q : i = k
    · subst q; exact h.2
    · exact h.1 i (by omega)
theorem wdF_wn {b : Nat → Nat} {e sn MN near same : Nat} {tt sB : Nat → Nat} {sG : Nat → Int32} {f0 pl a wn : Nat} {m m2 : MS} {g g2 : Nat → Nat → Int32} {cnt c2 f p xa xw : Nat} (h : wdF b e sn MN near same tt sB sG (f0, pl, a, wn, m, g, cnt) = (f, p, xa, xw, m2, g2, c2)) (hf : ¬ f = 0) : xw = wn := by
  unfold wdF at h
  dsimp only at h
  rcases hS : tkSeg b e sn m.2.2 (0, pl, a) with ⟨⟨k, z, ff⟩, s1⟩
  rw [hS] at h
  dsimp only at h
  rcases hZ : tkSiz b e (MN - m.2.2) s1 with ⟨⟨mks, ds, cs, az⟩, fl, p2, a3⟩
  rw [hZ] at h
  dsimp only at h
  have key : ∀ {q1 q2 q3 : Nat} {q5 : MS} {q6 : Nat → Nat → Int32} {q7 : Nat}, (q1, q2, q3, wn, q5, q6, q7) = (f, p, xa, xw, m2, g2, c2) → xw = wn := fun h9 => ((Prod.mk.inj (Prod.mk.inj (Prod.mk.inj (Prod.mk.inj h9).2).2).2).1).symm
  by_cases q : ¬ fl = 0
  · rw [if_pos q] at h; exact key h
  · rw [if_neg q] at h
    unfold wdS at h
    obtain ⟨R, hR⟩ : ∃ R, R = cdL b (a3 + ds + cs) (a3 + ds) (a3 + ds + cs + az) near same k z ff m.2.2 (m.2.2 + mks) wn tt sB sG cs (a3 + ds, a3, a3 + ds + cs, 0, fun _ => 0, fun _ => 0, m, g, cnt) := ⟨_, rfl⟩
    rw [← hR] at h
    obtain ⟨⟨f1, p1⟩, ca, da, aa, nx, cN, cS, m3, g3, cnt3⟩ := R
    unfold wdE at h
    dsimp only at h
    split at h
    · exact key h
    · split at h
      · exact key h
      · split at h
        · exact key h
        · exact absurd (Prod.mk.inj h).1.symm hf
set_option maxHeartbeats 4000000 in
set_option maxRecDepth 100000 in
theorem m_readWindows (l : Launch) (D : va_G) (cI cB cJ cR : ClassId) (mm : Nat) (g : Nat → Value) (Mrows : Nat) (Mtab : Nat) (Mnears : Nat) (Msames : Nat) (Mout : Nat) (MoutFrom : Nat) (Msource : Nat) (MsourceFrom : Nat) (MdKind : Nat) (MdSize : Nat) (MdAddress : Nat) (MdMode : Nat) (MdCode : Nat) (MdWindow : Nat) (mrows : Nat → Int32) (mtab : Nat → Int32) (mnears : Nat → Int64) (msames : Nat → Int64) (mout : Nat → Int32) (moutFrom : Nat → Int32) (msource : Nat → Int32) (msourceFrom : Nat → Int32) (mdKind : Nat → Int32) (mdSize : Nat → Int32) (mdAddress : Nat → Int32) (mdMode : Nat → Int32) (mdCode : Nat → Int32) (mdWindow : Nat → Int32) (bs : Nat) (e : Nat) (a : Nat) (n : Nat) (near : Nat) (same : Nat) (wr : Nat) (dr : Nat) (fu : Nat) (pl : Nat) (sn : Nat) (cnt : Nat) (wn : Nat) (pa : Int32) (b : Nat → Nat) (tt : Nat → Nat) (sB : Nat → Nat) (B : Nat → Nat) (G : Nat → Int32) (sG : Nat → Int32) (gg : Nat → Nat → Int32) (ct : Bool) (g_at : g 34 = .int (nI a)) (g_end : g 35 = .int (nI e)) (g_base : g 33 = .int (nI bs)) (g_outSize : g 32 = .int (nI n)) (g_sourceSize : g 29 = .int (nI sn)) (g_near : g 8 = .int (nI near)) (g_same : g 9 = .int (nI same)) (g_counts : g 39 = .int (bI ct)) (g_windows : g 38 = .int (nI wr)) (g_drafts : g 20 = .int (nI dr)) (g_fault : g 36 = .int (nI fu)) (g_place : g 37 = .int (nI pl)) (g_partAt : g 51 = .int pa) (g_rows : g 1 = .ref Mrows) (g_tab : g 7 = .ref Mtab) (g_nears : g 10 = .ref Mnears) (g_sames : g 12 = .ref Msames) (g_out : g 30 = .ref Mout) (g_outFrom : g 31 = .ref MoutFrom) (g_source : g 27 = .ref Msource) (g_sourceFrom : g 28 = .ref MsourceFrom) (g_dKind : g 21 = .ref MdKind) (g_dSize : g 22 = .ref MdSize) (g_dAddress : g 23 = .ref MdAddress) (g_dMode : g 24 = .ref MdMode) (g_dCode : g 25 = .ref MdCode) (g_dWindow : g 26 = .ref MdWindow) (he9 : bs + e ≤ 32000) (hae : a ≤ e) (hob : ∀ j, j < e → mrows (bs + j) = s8 (b j) ∧ b j < 256) (ht : bys mtab tt 1536) (hrt : rightP tt (near + same + 2) 512) (h8 : near ≤ 8) (h4 : same ≤ 4) (ho : outR mout moutFrom (B, G, n)) (hn4 : n ≤ 4000) (hsr : bys msource sB sn) (hsf : ∀ i, i < sn → msourceFrom i = sG i) (hsn : sn ≤ 4000) (hcn : cnt < 2 ^ 25) (hct : ct = true → dr = cnt ∧ wr = wn ∧ dRel mdKind mdSize mdAddress mdMode mdCode mdWindow gg cnt) (hfl : fu < 2 ^ 31) (he8 : e ≤ 8000) (hwr : wr < 2 ^ 25) : CMv l yX9_readWindows cX9_readWindows 1 none ({ frames := 5, cells := 0, slots := 0, locals := 141 }) D (tyA cI cB cJ cR) 0 0 [.ref mm] [(mm, .inr (9, fl 78 g)), (Mrows, .inl (cB, 32000, .inl mrows)), (Mtab, .inl (cB, 1536, .inl mtab)), (Mnears, .inl (cJ, 8, .inr (.inl mnears))), (Msames, .inl (cJ, 1024, .inr (.inl msames))), (Mout, .inl (cB, 4000, .inl mout)), (MoutFrom, .inl (cI, 4000, .inl moutFrom)), (Msource, .inl (cB, 4000, .inl msource)), (MsourceFrom, .inl (cI, 4000, .inl msourceFrom)), (MdKind, .inl (cI, 4000, .inl mdKind)), (MdSize, .inl (cI, 4000, .inl mdSize)), (MdAddress, .inl (cI, 4000, .inl mdAddress)), (MdMode, .inl (cI, 4000, .inl mdMode)), (MdCode, .inl (cI, 4000, .inl mdCode)), (MdWindow, .inl (cI, 4000, .inl mdWindow))] (fun (u9 : (Nat → Value) × Nat × Nat × Nat × Nat × Nat × Int32 × Nat × Nat × Nat × Nat × Nat × (Nat → Nat) × (Nat → Int32) × (Nat → Nat → Int32) × (Nat → Int64) × (Nat → Int64) × (Nat → Int32) × (Nat → Int32) × (Nat → Int32) × (Nat → Int32) × (Nat → Int32) × (Nat → Int32) × (Nat → Int32) × (Nat → Int32)) => match u9 with | (g9, a2, n2, dr2, fu2, pl2, pa2, wr2, cnt2, xa, xw, xn, B2, G2, gg2, fn2, fs2, o2, of2, dKind2, dSize2, dAddress2, dMode2, dCode2, dWindow2) => frm [34, 32, 20, 36, 37, 51, 38, 40, 41, 42, 43, 44, 45, 46, 47, 48, 49, 50, 11] g g9 ∧ g9 34 = .int (nI a2) ∧ g9 32 = .int (nI n2) ∧ g9 20 = .int (nI dr2) ∧ g9 36 = .int (nI fu2) ∧ g9 37 = .int (nI pl2) ∧ g9 51 = .int pa2 ∧ g9 38 = .int (nI wr2) ∧ wdL b e sn 4000 near same tt sB sG 8000 (fu, pl, a, wn, (B, G, n), gg, cnt) = (fu2, pl2, xa, xw, (B2, G2, xn), gg2, cnt2) ∧ (fu2 = 0 → a2 = xa ∧ n2 = xn ∧ outR o2 of2 (B2, G2, xn)) ∧ (ct = true → dr2 = cnt2 ∧ wr2 = xw ∧ dRel dKind2 dSize2 dAddress2 dMode2 dCode2 dWindow2 gg2 cnt2) ∧ (ct = false → dr2 = dr ∧ wr2 = wr) ∧ n2 ≤ 4000 ∧ fu2 < 2 ^ 31 ∧ a2 ≤ e ∧ cnt2 ≤ cnt + 4 * e) (fun (u9 : (Nat → Value) × Nat × Nat × Nat × Nat × Nat × Int32 × Nat × Nat × Nat × Nat × Nat × (Nat → Nat) × (Nat → Int32) × (Nat → Nat → Int32) × (Nat → Int64) × (Nat → Int64) × (Nat → Int32) × (Nat → Int32) × (Nat → Int32) × (Nat → Int32) × (Nat → Int32) × (Nat → Int32) × (Nat → Int32) × (Nat → Int32)) => match u9 with | (g9, a2, n2, dr2, fu2, pl2, pa2, wr2, cnt2, xa, xw, xn, B2, G2, gg2, fn2, fs2, o2, of2, dKind2, dSize2, dAddress2, dMode2, dCode2, dWindow2) => [(mm, .inr (9, fl 78 g9)), (Mrows, .inl (cB, 32000, .inl mrows)), (Mtab, .inl (cB, 1536, .inl mtab)), (Mnears, .inl (cJ, 8, .inr (.inl fn2))), (Msames, .inl (cJ, 1024, .inr (.inl fs2))), (Mout, .inl (cB, 4000, .inl o2)), (MoutFrom, .inl (cI, 4000, .inl of2)), (Msource, .inl (cB, 4000, .inl msource)), (MsourceFrom, .inl (cI, 4000, .inl msourceFrom)), (MdKind, .inl (cI, 4000, .inl dKind2)), (MdSize, .inl (cI, 4000, .inl dSize2)), (MdAddress, .inl (cI, 4000, .inl dAddress2)), (MdMode, .inl (cI, 4000, .inl dMode2)), (MdCode, .inl (cI, 4000, .inl dCode2)), (MdWindow, .inl (cI, 4000, .inl dWindow2))]) := by
  refine st_v (cc := cX9_readWindows) (maxL := 1) (by decide) (Nat.le_of_ble_eq_true rfl) ?_
  intro p0 e0 s0 m0 below meth c0 A0 Q0 hBD hret hP hD hS ls hl
  obtain ⟨hx, hb, hml, hown, hts, hnm, hK, hNw, hMk, hA⟩ := hBD
  have hl : lv_has ls 1 [(0, .ref mm)] := hl
  have hP : va_P D vwCl [(mm, .inr (9, fl 78 g)), (Mrows, .inl (cB, 32000, .inl mrows)), (Mtab, .inl (cB, 1536, .inl mtab)), (Mnears, .inl (cJ, 8, .inr (.inl mnears))), (Msames, .inl (cJ, 1024, .inr (.inl msames))), (Mout, .inl (cB, 4000, .inl mout)), (MoutFrom, .inl (cI, 4000, .inl moutFrom)), (Msource, .inl (cB, 4000, .inl msource)), (MsourceFrom, .inl (cI, 4000, .inl msourceFrom)), (MdKind, .inl (cI, 4000, .inl mdKind)), (MdSize, .inl (cI, 4000, .inl mdSize)), (MdAddress, .inl (cI, 4000, .inl mdAddress)), (MdMode, .inl (cI, 4000, .inl mdMode)), (MdCode, .inl (cI, 4000, .inl mdCode)), (MdWindow, .inl (cI, 4000, .inl mdWindow))] s0.heap := hP
  have hD : va_D A0 [(mm, .inr (9, fl 78 g)), (Mrows, .inl (cB, 32000, .inl mrows)), (Mtab, .inl (cB, 1536, .inl mtab)), (Mnears, .inl (cJ, 8, .inr (.inl mnears))), (Msames, .inl (cJ, 1024, .inr (.inl msames))), (Mout, .inl (cB, 4000, .inl mout)), (MoutFrom, .inl (cI, 4000, .inl moutFrom)), (Msource, .inl (cB, 4000, .inl msource)), (MsourceFrom, .inl (cI, 4000, .inl msourceFrom)), (MdKind, .inl (cI, 4000, .inl mdKind)), (MdSize, .inl (cI, 4000, .inl mdSize)), (MdAddress, .inl (cI, 4000, .inl mdAddress)), (MdMode, .inl (cI, 4000, .inl mdMode)), (MdCode, .inl (cI, 4000, .inl mdCode)), (MdWindow, .inl (cI, 4000, .inl mdWindow))] := hD
  obtain ⟨R9, hR9⟩ : ∃ R9, R9 = wdL b e sn 4000 near same tt sB sG 8000 (fu, pl, a, wn, (B, G, n), gg, cnt) := ⟨_, rfl⟩
  have loop : ∀ (k9 : Nat) (g5_loop : Nat → Value) (kf : Nat) (a7 : Nat) (n7 : Nat) (dr7 : Nat) (fu7 : Nat) (pl7 : Nat) (wr7 : Nat) (cnt7 : Nat) (xa7 : Nat) (wn7 : Nat) (xn7 : Nat) (pa7 : Int32) (B7 : Nat → Nat) (G7 : Nat → Int32) (gg7 : Nat → Nat → Int32) (fn7 : Nat → Int64) (fs7 : Nat → Int64) (o7 : Nat → Int32) (of7 : Nat → Int32) (dKind7 : Nat → Int32) (dSize7 : Nat → Int32) (dAddress7 : Nat → Int32) (dMode7 : Nat → Int32) (dCode7 : Nat → Int32) (dWindow7 : Nat → Int32) (H : Heap) (locs : List Loc) (ls : Array Slot), (if fu7 = 0 then 1 + (e - a7) else 0) < k9 → (frm [34, 32, 20, 36, 37, 51, 38, 40, 41, 42, 43, 44, 45, 46, 47, 48, 49, 50, 11] g g5_loop) → (g5_loop 34 = .int (nI a7)) → (g5_loop 32 = .int (nI n7)) → (g5_loop 20 = .int (nI dr7)) → (g5_loop 36 = .int (nI fu7)) → (g5_loop 37 = .int (nI pl7)) → (g5_loop 51 = .int pa7) → (g5_loop 38 = .int (nI wr7)) → (R9 = wdL b e sn 4000 near same tt sB sG kf (fu7, pl7, xa7, wn7, (B7, G7, xn7), gg7, cnt7)) → (fu7 = 0 → a7 = xa7 ∧ n7 = xn7 ∧ outR o7 of7 (B7, G7, xn7) ∧ e ≤ a7 + kf ∧ a ≤ a7 ∧ cnt7 ≤ cnt + 2 * (a7 - a)) → (ct = true → dr7 = cnt7 ∧ wr7 = wn7 ∧ dRel dKind7 dSize7 dAddress7 dMode7 dCode7 dWindow7 gg7 cnt7) → (ct = false → dr7 = dr ∧ wr7 = wr) → (n7 ≤ 4000) → (fu7 < 2 ^ 31) → (a7 ≤ e) → (cnt7 ≤ cnt + 4 * e) → (wr7 ≤ wr + (8000 - kf)) → (kf ≤ 8000) → va_P D vwCl [(mm, .inr (9, fl 78 g5_loop)), (Mrows, .inl (cB, 32000, .inl mrows)), (Mtab, .inl (cB, 1536, .inl mtab)), (Mnears, .inl (cJ, 8, .inr (.inl fn7))), (Msames, .inl (cJ, 1024, .inr (.inl fs7))), (Mout, .inl (cB, 4000, .inl o7)), (MoutFrom, .inl (cI, 4000, .inl of7)), (Msource, .inl (cB, 4000, .inl msource)), (MsourceFrom, .inl (cI, 4000, .inl msourceFrom)), (MdKind, .inl (cI, 4000, .inl dKind7)), (MdSize, .inl (cI, 4000, .inl dSize7)), (MdAddress, .inl (cI, 4000, .inl dAddress7)), (MdMode, .inl (cI, 4000, .inl dMode7)), (MdCode, .inl (cI, 4000, .inl dCode7)), (MdWindow, .inl (cI, 4000, .inl dWindow7))] H → va_D A0 [(mm, .inr (9, fl 78 g5_loop)), (Mrows, .inl (cB, 32000, .inl mrows)), (Mtab, .inl (cB, 1536, .inl mtab)), (Mnears, .inl (cJ, 8, .inr (.inl fn7))), (Msames, .inl (cJ, 1024, .inr (.inl fs7))), (Mout, .inl (cB, 4000, .inl o7)), (MoutFrom, .inl (cI, 4000, .inl of7)), (Msource, .inl (cB, 4000, .inl msource)), (MsourceFrom, .inl (cI, 4000, .inl msourceFrom)), (MdKind, .inl (cI, 4000, .inl dKind7)), (MdSize, .inl (cI, 4000, .inl dSize7)), (MdAddress, .inl (cI, 4000, .inl dAddress7)), (MdMode, .inl (cI, 4000, .inl dMode7)), (MdCode, .inl (cI, 4000, .inl dCode7)), (MdWindow, .inl (cI, 4000, .inl dWindow7))] → va_S A0 s0.heap H locs → lv_has ls 1 [(0, .ref mm)] → W p0 l e0 ({ frames := 5, cells := 0, slots := 0, locals := 141 }) s0 m0 ([.ref mm] : List Value).toArray below meth c0 H locs 0 0 Q0 (F0 m0 0 ls []) := by
    intro k9
    induction k9 with
    | zero => intro g5_loop kf a7 n7 dr7 fu7 pl7 wr7 cnt7 xa7 wn7 xn7 pa7 B7 G7 gg7 fn7 fs7 o7 of7 dKind7 dSize7 dAddress7 dMode7 dCode7 dWindow7 H locs ls hk9; exact absurd hk9 (Nat.not_lt_zero _)
    | succ k9 ih =>
      intro g5_loop kf a7 n7 dr7 fu7 pl7 wr7 cnt7 xa7 wn7 xn7 pa7 B7 G7 gg7 fn7 fs7 o7 of7 dKind7 dSize7 dAddress7 dMode7 dCode7 dWindow7 H locs ls hk9 hf_loop k_at_loop k_outSize_loop k_drafts_loop k_fault_loop k_place_loop k_partAt_loop k_windows_loop hR hok hct7 hcf7 hn47 hf7 ha7 hc7 hw7 hkf hP hD hS hl
      refine lv_aload_n hx hb dX9_readWindows_0 rfl (lv_at hl 0 rfl) ?_
      refine fx_get (D := D) (ci := 9) (v := .int (nI fu7)) (C := RX9) (T := TX9) (N := 78) hx hb hts in_X9 hown hK hP 0 rfl rfl 36 (by decide) (hts _ kX9_179) (fun _ h9 => h9) (k_fault_loop) dX9_readWindows_1 ?_
      refine lv_if_ne (tgt := 49) hx hb dX9_readWindows_4 (by decide) (fun c_1 => ?_) (fun c_1 => ?_)
      · have hz : ¬ fu7 = 0 := fun z => c_1 (by rw [z]; decide)
        have hfin : wdL b e sn 4000 near same tt sB sG 8000 (fu, pl, a, wn, (B, G, n), gg, cnt) = (fu7, pl7, xa7, wn7, (B7, G7, xn7), gg7, cnt7) := hR9.symm.trans (hR.trans (wdL_no (fun w => hz w.1)))
        exact hret 49 ls _ _ (g5_loop, a7, n7, dr7, fu7, pl7, pa7, wr7, cnt7, xa7, wn7, xn7, B7, G7, gg7, fn7, fs7, o7, of7, dKind7, dSize7, dAddress7, dMode7, dCode7, dWindow7) dX9_readWindows_49 hP hD hS (⟨hf_loop, k_at_loop, k_outSize_loop, k_drafts_loop, k_fault_loop, k_place_loop, k_partAt_loop, k_windows_loop, ⟨hfin, fun z => ⟨(hok z).1, (hok z).2.1, (hok z).2.2.1⟩, hct7, hcf7, hn47, hf7, ha7, hc7⟩⟩)
      · have hz : fu7 = 0 := Decidable.byContradiction (fun z => nI_ne0 (Nat.pos_of_ne_zero z) hf7 c_1)
        obtain ⟨k1, k2, k3, k4, k5, k6⟩ := hok hz
        subst k1
        subst k2
        refine lv_aload_n hx hb dX9_readWindows_7 rfl (lv_at hl 0 rfl) ?_
        refine fx_get (D := D) (ci := 9) (v := .int (nI a7)) (C := RX9) (T := TX9) (N := 78) hx hb hts in_X9 hown hK hP 0 rfl rfl 34 (by decide) (hts _ kX9_185) (fun _ h9 => h9) (k_at_loop) dX9_readWindows_8 ?_
        refine lv_aload_n hx hb dX9_readWindows_11 rfl (lv_at hl 0 rfl) ?_
        refine fx_get (D := D) (ci := 9) (v := .int (nI e)) (C := RX9) (T := TX9) (N := 78) hx hb hts in_X9 hown hK hP 0 rfl rfl 35 (by decide) (hts _ kX9_188) (fun _ h9 => h9) ((hf_loop 35 (by decide)).trans g_end) dX9_readWindows_12 ?_
        refine lv_icmp_ge (tgt := 49) hx hb dX9_readWindows_15 (by decide) (fun c_2 => ?_) (fun c_2 => ?_)
        · have he7 : ¬ a7 < e := Nat.not_lt.mpr ((nI_leI (by omega) (by omega)).mp c_2)
          have hok : fu7 = 0 → a7 = a7 ∧ n7 = n7 ∧ outR o7 of7 (B7, G7, n7) := fun _ => ⟨rfl, rfl, k3⟩
          have hR : R9 = wdL b e sn 4000 near same tt sB sG kf (fu7, pl7, a7, wn7, (B7, G7, n7), gg7, cnt7) := hR
          have hfin : wdL b e sn 4000 near same tt sB sG 8000 (fu, pl, a, wn, (B, G, n), gg, cnt) = (fu7, pl7, a7, wn7, (B7, G7, n7), gg7, cnt7) := hR9.symm.trans (hR.trans (wdL_no (fun w => he7 w.2)))
          exact hret 49 ls _ _ (g5_loop, a7, n7, dr7, fu7, pl7, pa7, wr7, cnt7, a7, wn7, n7, B7, G7, gg7, fn7, fs7, o7, of7, dKind7, dSize7, dAddress7, dMode7, dCode7, dWindow7) dX9_readWindows_49 hP hD hS (⟨hf_loop, k_at_loop, k_outSize_loop, k_drafts_loop, k_fault_loop, k_place_loop, k_partAt_loop, k_windows_loop, ⟨hfin, hok, hct7, hcf7, hn47, hf7, ha7, hc7⟩⟩)
        · have he7 : a7 < e := Nat.not_le.mp (fun q => c_2 (nI_le q (by omega)))
          have hR2 := hR.trans (wdL_go ⟨hz, he7⟩ (by omega))
          refine lv_aload_n hx hb dX9_readWindows_18 rfl (lv_at hl 0 rfl) ?_
          refine jn_v (wr := []) hA hP hD hS [0, 1, 2, 3, 4, 5, 6, 7, 8, 9, 10, 11, 12, 13, 14] [] rfl rfl (by decide) (by decide) (rn_V (As := []) (rest := []) ⟨hx, hb, hml, hown, hts⟩ (cvV 0 hts zc_yX9_readWindow zi_X9 zm_yX9_readWindow zv_yX9_readWindow kX9_243 (by decide +kernel) rfl rfl ⟨Nat.le_of_ble_eq_true rfl, Nat.le_of_ble_eq_true rfl⟩) (m_readWindow l D cI cB cJ cR mm g5_loop Mrows Mtab Mnears Msames Mout MoutFrom Msource MsourceFrom MdKind MdSize MdAddress MdMode MdCode MdWindow mrows mtab fn7 fs7 o7 of7 msource msourceFrom dKind7 dSize7 dAddress7 dMode7 dCode7 dWindow7 bs e a7 n7 near same wr7 dr7 fu7 pl7 sn cnt7 wn7 pa7 b tt sB B7 G7 sG gg7 ct (k_at_loop) ((hf_loop 35 (by decide)).trans g_end) ((hf_loop 33 (by decide)).trans g_base) (k_outSize_loop) ((hf_loop 29 (by decide)).trans g_sourceSize) ((hf_loop 8 (by decide)).trans g_near) ((hf_loop 9 (by decide)).trans g_same) ((hf_loop 39 (by decide)).trans g_counts) (k_windows_loop) (k_drafts_loop) (k_fault_loop) (k_place_loop) (k_partAt_loop) ((hf_loop 1 (by decide)).trans g_rows) ((hf_loop 7 (by decide)).trans g_tab) ((hf_loop 10 (by decide)).trans g_nears) ((hf_loop 12 (by decide)).trans g_sames) ((hf_loop 30 (by decide)).trans g_out) ((hf_loop 31 (by decide)).trans g_outFrom) ((hf_loop 27 (by decide)).trans g_source) ((hf_loop 28 (by decide)).trans g_sourceFrom) ((hf_loop 21 (by decide)).trans g_dKind) ((hf_loop 22 (by decide)).trans g_dSize) ((hf_loop 23 (by decide)).trans g_dAddress) ((hf_loop 24 (by decide)).trans g_dMode) ((hf_loop 25 (by decide)).trans g_dCode) ((hf_loop 26 (by decide)).trans g_dWindow) (he9) (ha7) (hob) (ht) (hrt) (h8) (h4) (k3) (hn47) (hsr) (hsf) (hsn) (by omega) (hct7) (hz) H.size) hK hNw hMk hA hP hD hS [0, 1, 2, 3, 4, 5, 6, 7, 8, 9, 10, 11, 12, 13, 14] rfl rfl (by decide) 0 rfl rfl rfl rfl hl.1 rfl (Nat.le_of_ble_eq_true rfl) dX9_readWindows_19 ⟨Nat.le_of_ble_eq_true rfl, Nat.le_of_ble_eq_true rfl⟩) (fun u9 H locs hrw hP hD hS => ?_)
          obtain ⟨g_3, a9, n9, dr9, fu9, pl9, pa9, cnt9, xa9, xw9, xn9, B9, G9, gg9, fn9, fs9, o9, of9, dKind9, dSize9, dAddress9, dMode9, dCode9, dWindow9⟩ := u9
          try dsimp only at hrw
          have hP : va_P D vwCl [(mm, .inr (9, fl 78 g_3)), (Mrows, .inl (cB, 32000, .inl mrows)), (Mtab, .inl (cB, 1536, .inl mtab)), (Mnears, .inl (cJ, 8, .inr (.inl fn9))), (Msames, .inl (cJ, 1024, .inr (.inl fs9))), (Mout, .inl (cB, 4000, .inl o9)), (MoutFrom, .inl (cI, 4000, .inl of9)), (Msource, .inl (cB, 4000, .inl msource)), (MsourceFrom, .inl (cI, 4000, .inl msourceFrom)), (MdKind, .inl (cI, 4000, .inl dKind9)), (MdSize, .inl (cI, 4000, .inl dSize9)), (MdAddress, .inl (cI, 4000, .inl dAddress9)), (MdMode, .inl (cI, 4000, .inl dMode9)), (MdCode, .inl (cI, 4000, .inl dCode9)), (MdWindow, .inl (cI, 4000, .inl dWindow9))] H := hP
          have hD : va_D A0 [(mm, .inr (9, fl 78 g_3)), (Mrows, .inl (cB, 32000, .inl mrows)), (Mtab, .inl (cB, 1536, .inl mtab)), (Mnears, .inl (cJ, 8, .inr (.inl fn9))), (Msames, .inl (cJ, 1024, .inr (.inl fs9))), (Mout, .inl (cB, 4000, .inl o9)), (MoutFrom, .inl (cI, 4000, .inl of9)), (Msource, .inl (cB, 4000, .inl msource)), (MsourceFrom, .inl (cI, 4000, .inl msourceFrom)), (MdKind, .inl (cI, 4000, .inl dKind9)), (MdSize, .inl (cI, 4000, .inl dSize9)), (MdAddress, .inl (cI, 4000, .inl dAddress9)), (MdMode, .inl (cI, 4000, .inl dMode9)), (MdCode, .inl (cI, 4000, .inl dCode9)), (MdWindow, .inl (cI, 4000, .inl dWindow9))] := hD
          obtain ⟨f_hrw, at_hrw, outSize_hrw, drafts_hrw, fault_hrw, place_hrw, partAt_hrw, hrw_⟩ := hrw
          have k35_g_3 : g_3 35 = .int (nI e) := (f_hrw 35 (by decide)).trans ((hf_loop 35 (by decide)).trans g_end)
          have k33_g_3 : g_3 33 = .int (nI bs) := (f_hrw 33 (by decide)).trans ((hf_loop 33 (by decide)).trans g_base)
          have k29_g_3 : g_3 29 = .int (nI sn) := (f_hrw 29 (by decide)).trans ((hf_loop 29 (by decide)).trans g_sourceSize)
          have k8_g_3 : g_3 8 = .int (nI near) := (f_hrw 8 (by decide)).trans ((hf_loop 8 (by decide)).trans g_near)
          have k9_g_3 : g_3 9 = .int (nI same) := (f_hrw 9 (by decide)).trans ((hf_loop 9 (by decide)).trans g_same)
          have k39_g_3 : g_3 39 = .int (bI ct) := (f_hrw 39 (by decide)).trans ((hf_loop 39 (by decide)).trans g_counts)
          have k1_g_3 : g_3 1 = .ref Mrows := (f_hrw 1 (by decide)).trans ((hf_loop 1 (by decide)).trans g_rows)
          have k7_g_3 : g_3 7 = .ref Mtab := (f_hrw 7 (by decide)).trans ((hf_loop 7 (by decide)).trans g_tab)
          have k10_g_3 : g_3 10 = .ref Mnears := (f_hrw 10 (by decide)).trans ((hf_loop 10 (by decide)).trans g_nears)
          have k12_g_3 : g_3 12 = .ref Msames := (f_hrw 12 (by decide)).trans ((hf_loop 12 (by decide)).trans g_sames)
          have k30_g_3 : g_3 30 = .ref Mout := (f_hrw 30 (by decide)).trans ((hf_loop 30 (by decide)).trans g_out)
          have k31_g_3 : g_3 31 = .ref MoutFrom := (f_hrw 31 (by decide)).trans ((hf_loop 31 (by decide)).trans g_outFrom)
          have k27_g_3 : g_3 27 = .ref Msource := (f_hrw 27 (by decide)).trans ((hf_loop 27 (by decide)).trans g_source)
          have k28_g_3 : g_3 28 = .ref MsourceFrom := (f_hrw 28 (by decide)).trans ((hf_loop 28 (by decide)).trans g_sourceFrom)
          have k21_g_3 : g_3 21 = .ref MdKind := (f_hrw 21 (by decide)).trans ((hf_loop 21 (by decide)).trans g_dKind)
          have k22_g_3 : g_3 22 = .ref MdSize := (f_hrw 22 (by decide)).trans ((hf_loop 22 (by decide)).trans g_dSize)
          have k23_g_3 : g_3 23 = .ref MdAddress := (f_hrw 23 (by decide)).trans ((hf_loop 23 (by decide)).trans g_dAddress)
          have k24_g_3 : g_3 24 = .ref MdMode := (f_hrw 24 (by decide)).trans ((hf_loop 24 (by decide)).trans g_dMode)
          have k25_g_3 : g_3 25 = .ref MdCode := (f_hrw 25 (by decide)).trans ((hf_loop 25 (by decide)).trans g_dCode)
          have k26_g_3 : g_3 26 = .ref MdWindow := (f_hrw 26 (by decide)).trans ((hf_loop 26 (by decide)).trans g_dWindow)
          have k38_g_3 : g_3 38 = .int (nI wr7) := (f_hrw 38 (by decide)).trans (k_windows_loop)
          have fr_g_3 : frm [34, 32, 20, 36, 37, 51, 38, 40, 41, 42, 43, 44, 45, 46, 47, 48, 49, 50, 11] g g_3 := frm_tr hf_loop f_hrw (by decide)
          obtain ⟨c1, c2, c3, c4, c5, c6, c7, c8, c9⟩ := hrw_
          rw [hz] at hR2
          rw [c1] at hR2
          refine lv_aload_n hx hb dX9_readWindows_22 rfl (lv_at hl 0 rfl) ?_
          refine fx_get (D := D) (ci := 9) (v := .int (nI fu9)) (C := RX9) (T := TX9) (N := 78) hx hb hts in_X9 hown hK hP 0 rfl rfl 36 (by decide) (hts _ kX9_179) (fun _ h9 => h9) (fault_hrw) dX9_readWindows_23 ?_
          have hcq9 : cnt9 ≤ cnt + 4 * e := by omega
          refine lv_if_ne (tgt := 0) hx hb dX9_readWindows_26 (by decide) (fun c_5 => ?_) (fun c_5 => ?_)
          · have hz9 : ¬ fu9 = 0 := fun z => c_5 (by rw [z]; decide)
            exact ih g_3 (kf - 1) a9 n9 dr9 fu9 pl9 wr7 cnt9 xa9 xw9 xn9 pa9 B9 G9 gg9 fn9 fs9 o9 of9 dKind9 dSize9 dAddress9 dMode9 dCode9 dWindow9 _ _ ls (by rw [if_pos hz] at hk9; have := c3 he7; by_cases w : fu9 = 0; rw [if_pos w]; have := (c2 w).1; omega; rw [if_neg w]; omega) (fr_g_3) (at_hrw) (outSize_hrw) (drafts_hrw) (fault_hrw) (place_hrw) (partAt_hrw) (k38_g_3) (hR2) (fun z => ⟨(c2 z).1, (c2 z).2.1, (c2 z).2.2.1, by have := c3 he7; omega, by have := c3 he7; omega, by have := (c2 z).2.2.2.2; have := (c2 z).1; have := c3 he7; omega⟩) (fun z => ⟨(c4 z).1, (hct7 z).2.1.trans (wdF_wn c1 hz9).symm, (c4 z).2⟩) (fun z => ⟨(c5 z).trans (hcf7 z).1, (hcf7 z).2⟩) (c6) (c7) (c8) (hcq9) (by omega) (by omega) hP hD hS (lv_sub hl [0] rfl)
          · have hz9 : fu9 = 0 := Decidable.byContradiction (fun z => nI_ne0 (Nat.pos_of_ne_zero z) c7 c_5)
            refine lv_aload_n hx hb dX9_readWindows_29 rfl (lv_at hl 0 rfl) ?_
            refine fx_get (D := D) (ci := 9) (v := .int (bI ct)) (C := RX9) (T := TX9) (N := 78) hx hb hts in_X9 hown hK hP 0 rfl rfl 39 (by decide) (hts _ kX9_224) (fun _ h9 => h9) (k39_g_3) dX9_readWindows_30 ?_
            refine bz_eq (tgt := 0) hx hb dX9_readWindows_33 (by decide) (fun c_6 => ?_) (fun c_6 => ?_)
            · have hcf : ct = false := c_6
              exact ih g_3 (kf - 1) a9 n9 dr9 fu9 pl9 wr7 cnt9 xa9 xw9 xn9 pa9 B9 G9 gg9 fn9 fs9 o9 of9 dKind9 dSize9 dAddress9 dMode9 dCode9 dWindow9 _ _ ls (by rw [if_pos hz] at hk9; have := c3 he7; by_cases w : fu9 = 0; rw [if_pos w]; have := (c2 w).1; omega; rw [if_neg w]; omega) (fr_g_3) (at_hrw) (outSize_hrw) (drafts_hrw) (fault_hrw) (place_hrw) (partAt_hrw) (k38_g_3) (hR2) (fun z => ⟨(c2 z).1, (c2 z).2.1, (c2 z).2.2.1, by have := c3 he7; omega, by have := c3 he7; omega, by have := (c2 z).2.2.2.2; have := (c2 z).1; have := c3 he7; omega⟩) (fun z => absurd (hcf.symm.trans z) (by decide)) (fun z => ⟨(c5 z).trans (hcf7 z).1, (hcf7 z).2⟩) (c6) (c7) (c8) (hcq9) (by omega) (by omega) hP hD hS (lv_sub hl [0] rfl)
            · have hcf : ct = true := c_6
              refine lv_aload_n hx hb dX9_readWindows_36 rfl (lv_at hl 0 rfl) ?_
              refine lv_dup hx hb dX9_readWindows_37 rfl ?_
              refine fx_get (D := D) (ci := 9) (v := .int (nI wr7)) (C := RX9) (T := TX9) (N := 78) hx hb hts in_X9 hown hK hP 0 rfl rfl 38 (by decide) (hts _ kX9_234) (fun _ h9 => h9) (k38_g_3) dX9_readWindows_38 ?_
              refine lv_iconst (v := 1) hx hb dX9_readWindows_41 (by decide) ?_
              refine lv_iadd hx hb dX9_readWindows_42 ?_
              refine ri (y := nI (wr7 + 1)) (nI_add wr7 1) ?_
              refine fx_put (D := D) (ci := 9) (v := .int (nI (wr7 + 1))) (ty := .int) (C := RX9) (T := TX9) (N := 78) hx hb hts in_X9 tyX9 tyX9_ok nmX9 hown hK hP hD hS 0 rfl rfl 38 (by decide) (hts _ kX9_234) (fun _ h9 => h9) rfl (by decide +kernel) rfl rfl dX9_readWindows_43 (fun H locs hP hD hS => ?_)
              have hP : va_P D vwCl [(mm, .inr (9, fl 78 (va_up g_3 38 (.int (nI (wr7 + 1)))))), (Mrows, .inl (cB, 32000, .inl mrows)), (Mtab, .inl (cB, 1536, .inl mtab)), (Mnears, .inl (cJ, 8, .inr (.inl fn9))), (Msames, .inl (cJ, 1024, .inr (.inl fs9))), (Mout, .inl (cB, 4000, .inl o9)), (MoutFrom, .inl (cI, 4000, .inl of9)), (Msource, .inl (cB, 4000, .inl msource)), (MsourceFrom, .inl (cI, 4000, .inl msourceFrom)), (MdKind, .inl (cI, 4000, .inl dKind9)), (MdSize, .inl (cI, 4000, .inl dSize9)), (MdAddress, .inl (cI, 4000, .inl dAddress9)), (MdMode, .inl (cI, 4000, .inl dMode9)), (MdCode, .inl (cI, 4000, .inl dCode9)), (MdWindow, .inl (cI, 4000, .inl dWindow9))] H := hP
              have hD : va_D A0 [(mm, .inr (9, fl 78 (va_up g_3 38 (.int (nI (wr7 + 1)))))), (Mrows, .inl (cB, 32000, .inl mrows)), (Mtab, .inl (cB, 1536, .inl mtab)), (Mnears, .inl (cJ, 8, .inr (.inl fn9))), (Msames, .inl (cJ, 1024, .inr (.inl fs9))), (Mout, .inl (cB, 4000, .inl o9)), (MoutFrom, .inl (cI, 4000, .inl of9)), (Msource, .inl (cB, 4000, .inl msource)), (MsourceFrom, .inl (cI, 4000, .inl msourceFrom)), (MdKind, .inl (cI, 4000, .inl dKind9)), (MdSize, .inl (cI, 4000, .inl dSize9)), (MdAddress, .inl (cI, 4000, .inl dAddress9)), (MdMode, .inl (cI, 4000, .inl dMode9)), (MdCode, .inl (cI, 4000, .inl dCode9)), (MdWindow, .inl (cI, 4000, .inl dWindow9))] := hD
              refine lv_goto (tgt := 0) hx hb dX9_readWindows_46 (by decide) ?_
              exact ih (va_up g_3 38 (.int (nI (wr7 + 1)))) (kf - 1) a9 n9 dr9 fu9 pl9 (wr7 + 1) cnt9 xa9 xw9 xn9 pa9 B9 G9 gg9 fn9 fs9 o9 of9 dKind9 dSize9 dAddress9 dMode9 dCode9 dWindow9 _ _ ls (by rw [if_pos hz] at hk9; have := c3 he7; by_cases w : fu9 = 0; rw [if_pos w]; have := (c2 w).1; omega; rw [if_neg w]; omega) ((frm_up fr_g_3 (by decide))) (at_hrw) (outSize_hrw) (drafts_hrw) (fault_hrw) (place_hrw) (partAt_hrw) (rfl) (hR2) (fun z => ⟨(c2 z).1, (c2 z).2.1, (c2 z).2.2.1, by have := c3 he7; omega, by have := c3 he7; omega, by have := (c2 z).2.2.2.2; have := (c2 z).1; have := c3 he7; omega⟩) (fun z => ⟨(c4 z).1, by have := (hct7 z).2.1; have := (c2 hz9).2.2.2.1; omega, (c4 z).2⟩) (fun z => absurd (hcf.symm.trans z) (by decide)) (c6) (c7) (c8) (hcq9) (by omega) (by omega) hP hD hS (lv_sub hl [0] rfl)
  exact loop _ g 8000 a n dr fu pl wr cnt a wn n pa B G gg mnears msames mout moutFrom mdKind mdSize mdAddress mdMode mdCode mdWindow _ _ ls (Nat.lt_succ_self _) (frm_refl) (g_at) (g_outSize) (g_drafts) (g_fault) (g_place) (g_partAt) (g_windows) (hR9) (fun _ => ⟨rfl, rfl, ho, by omega, Nat.le_refl _, by omega⟩) (hct) (fun _ => ⟨rfl, rfl⟩) (hn4) (hfl) (hae) (by omega) (by omega) (Nat.le_refl _) hP hD hS (lv_sub hl [0] rfl)

set_option maxHeartbeats 4000000 in
set_option maxRecDepth 100000 in
theorem m_isRight (l : Launch) (D : va_G) (cI cB cJ cR : ClassId) (ta : Nat) (TN : Nat) (tf : Nat → Int32) (tt : Nat → Nat) (m : Nat) (hTN : 1536 ≤ TN ∧ TN < 2 ^ 24) (ht : bys tf tt 1536) (hm : m < 2 ^ 20) : CMz l yX9_isRight cX9_isRight 4 (some .boolean) ({ frames := 1, cells := 0, slots := 0, locals := 25 }) D (tyA cI cB cJ cR) 0 0 [.ref ta, .int (nI m)] [(ta, .inl (cB, TN, .inl tf))] (fun (r : Bool) (_ : Unit) => r = true ↔ rightP tt m 512) (fun (_ : Unit) => [(ta, .inl (cB, TN, .inl tf))]) := by
  refine st_z (cc := cX9_isRight) (maxL := 4) (by decide) (Nat.le_of_ble_eq_true rfl) ?_
  intro p0 e0 s0 m0 below meth c0 A0 Q0 hBD hret hP hD hS ls hl
  obtain ⟨hx, hb, hml, hown, hts, hnm, hK, hNw, hMk, hA⟩ := hBD
  have hl : lv_has ls 4 [(0, .ref ta), (1, .int (nI m))] := hl
  have hP : va_P D vwCl [(ta, .inl (cB, TN, .inl tf))] s0.heap := hP
  have hD : va_D A0 [(ta, .inl (cB, TN, .inl tf))] := hD
  refine lv_iconst (v := 1) hx hb dX9_isRight_0 (by decide) ?_
  refine ri (y := bI true) (rfl) ?_
  refine lv_istore_n (lv' := [(2, .int (bI true)), (0, .ref ta), (1, .int (nI m))]) hx hb dX9_isRight_1 rfl hl (by decide) rfl (fun ls hl => ?_)
  refine lv_iconst (v := 0) hx hb dX9_isRight_2 (by decide) ?_
  refine ri (y := nI 0) (nI_0.symm) ?_
  refine lv_istore_n (lv' := [(3, .int (nI 0)), (2, .int (bI true)), (0, .ref ta), (1, .int (nI m))]) hx hb dX9_isRight_3 rfl hl (by decide) rfl (fun ls hl => ?_)
  have loop : ∀ (k9 : Nat) (gd : Bool) (k : Nat) (H : Heap) (locs : List Loc) (ls : Array Slot), 512 - k < k9 → (k ≤ 512) → (gd = true ↔ rightP tt m k) → va_P D vwCl [(ta, .inl (cB, TN, .inl tf))] H → va_D A0 [(ta, .inl (cB, TN, .inl tf))] → va_S A0 s0.heap H locs → lv_has ls 4 [(0, .ref ta), (1, .int (nI m)), (2, .int (bI gd)), (3, .int (nI k))] → W p0 l e0 ({ frames := 1, cells := 0, slots := 0, locals := 25 }) s0 m0 ([.ref ta, .int (nI m)] : List Value).toArray below meth c0 H locs 0 0 Q0 (F0 m0 4 ls []) := by
    intro k9
    induction k9 with
    | zero => intro gd k H locs ls hk9; exact absurd hk9 (Nat.not_lt_zero _)
    | succ k9 ih =>
      intro gd k H locs ls hk9 hk9 hg hP hD hS hl
      refine lv_iload_n hx hb dX9_isRight_4 rfl (lv_at hl 3 rfl) ?_
      refine lv_sipush (v := 512) hx hb dX9_isRight_5 (by decide) ?_
      refine lv_icmp_ge (tgt := 63) hx hb dX9_isRight_8 (by decide) (fun c_1 => ?_) (fun c_1 => ?_)
      · have hk : k = 512 := by have := (nI_leI (a := 512) (by decide) (by omega)).mp c_1; omega
        subst hk
        refine lv_iload_n hx hb dX9_isRight_63 rfl (lv_at hl 2 rfl) ?_
        exact hret 64 ls _ _ gd () dX9_isRight_64 hP hD hS (hg)
      · have hk : k < 512 := Nat.not_le.mp (fun q => c_1 (nI_le (a := 512) q (by omega)))
        obtain ⟨q1, q2⟩ := ht k (by omega)
        obtain ⟨q3, q4⟩ := ht (1024 + k) (by omega)
        refine lv_iload_n hx hb dX9_isRight_11 rfl (lv_at hl 2 rfl) ?_
        refine bz_eq (tgt := 55) hx hb dX9_isRight_12 (by decide) (fun c_2 => ?_) (fun c_2 => ?_)
        · refine lv_iconst (v := 0) hx hb dX9_isRight_55 (by decide) ?_
          refine ri (y := bI false) (rfl) ?_
          refine lv_istore_n (lv' := [(2, .int (bI false)), (0, .ref ta), (1, .int (nI m)), (3, .int (nI k))]) hx hb dX9_isRight_56 rfl hl (by decide) rfl (fun ls hl => ?_)
          refine lv_iinc (v := nI (k + 1)) (lv' := [(3, .int (nI (k + 1))), (2, .int (bI false)), (0, .ref ta), (1, .int (nI m))]) hx hb dX9_isRight_57 hl (k := 3) rfl (nI_add k 1) (by decide) rfl (fun ls hl => ?_)
          refine lv_goto (tgt := 4) hx hb dX9_isRight_60 (by decide) ?_
          exact ih false (k + 1) _ _ ls (by omega) (by omega) (⟨fun z => absurd z (by decide), fun z => absurd (hg.mpr (right_succ.mp z).1) (by rw [c_2]; decide)⟩) hP hD hS (lv_sub hl [2, 3, 1, 0] rfl)
        · refine lv_aload_n hx hb dX9_isRight_15 rfl (lv_at hl 0 rfl) ?_
          refine lv_iload_n hx hb dX9_isRight_16 rfl (lv_at hl 3 rfl) ?_
          refine ax_bld hx hb hK hP 0 1 rfl rfl k (rfl) (by omega) (by omega) dX9_isRight_17 ?_
          refine ri (y := s8 (tt k)) (q1) ?_
          refine lv_i2l hx hb dX9_isRight_18 (v := (s8 (tt k)).toInt64) rfl ?_
          refine lv_lconst (v := 0) hx hb dX9_isRight_19 (by decide) ?_
          refine lv_ldc2 hx hb hown (hts _ kX9_134) dX9_isRight_20 ?_
          refine jn_i (wr := [(ta, .inl (cB, TN, .inl tf))]) hA hP hD hS [] [0] rfl rfl (by decide) (by decide) (rn_S (As := [.long ((s8 (tt k)).toInt64), .long 0, .long 3]) (rest := []) ⟨hx, hb, hml, hown, hts⟩ (cvS 3 hts zc_yX9_in zi_X9 zs_yX9_in kX9_136 (by decide +kernel) rfl rfl ⟨Nat.le_of_ble_eq_true rfl, Nat.le_of_ble_eq_true rfl⟩) (m_in l D cI cB cJ cR ((s8 (tt k)).toInt64) 0 3  H.size) hK hNw hMk hA hP hD hS [] rfl rfl (by decide) rfl hl.1 rfl (Nat.le_of_ble_eq_true rfl) dX9_isRight_23 ⟨Nat.le_of_ble_eq_true rfl, Nat.le_of_ble_eq_true rfl⟩) (fun ri u9 H locs hri hP hD hS => ?_)
          obtain ⟨rib, rfl, hri⟩ := hri
          try dsimp only at hri
          have hP : va_P D vwCl [(ta, .inl (cB, TN, .inl tf))] H := hP
          have hD : va_D A0 [(ta, .inl (cB, TN, .inl tf))] := hD
          rw [s8_in _ q2] at hri
          refine bz_eq (tgt := 55) hx hb dX9_isRight_26 (by decide) (fun c_3 => ?_) (fun c_3 => ?_)
          · refine lv_iconst (v := 0) hx hb dX9_isRight_55 (by decide) ?_
            refine ri (y := bI false) (rfl) ?_
            refine lv_istore_n (lv' := [(2, .int (bI false)), (0, .ref ta), (1, .int (nI m)), (3, .int (nI k))]) hx hb dX9_isRight_56 rfl hl (by decide) rfl (fun ls hl => ?_)
            refine lv_iinc (v := nI (k + 1)) (lv' := [(3, .int (nI (k + 1))), (2, .int (bI false)), (0, .ref ta), (1, .int (nI m))]) hx hb dX9_isRight_57 hl (k := 3) rfl (nI_add k 1) (by decide) rfl (fun ls hl => ?_)
            refine lv_goto (tgt := 4) hx hb dX9_isRight_60 (by decide) ?_
            exact ih false (k + 1) _ _ ls (by omega) (by omega) (⟨fun z => absurd z (by decide), fun z => absurd (decide_eq_true (right_succ.mp z).2.1) (by rw [← hri, c_3]; decide)⟩) hP hD hS (lv_sub hl [2, 3, 1, 0] rfl)
          · have h3k : tt k ≤ 3 := of_decide_eq_true (by rw [← hri]; exact c_3)
            refine lv_aload_n hx hb dX9_isRight_29 rfl (lv_at hl 0 rfl) ?_
            refine lv_iload_n hx hb dX9_isRight_30 rfl (lv_at hl 3 rfl) ?_
            refine ax_bld hx hb hK hP 0 1 rfl rfl k (rfl) (by omega) (by omega) dX9_isRight_31 ?_
            refine ri (y := nI (tt k)) (by rw [q1]; exact s8_lo _ (by omega)) ?_
            refine lv_iconst (v := 3) hx hb dX9_isRight_32 (by decide) ?_
            refine lv_icmp_ne (tgt := 51) hx hb dX9_isRight_33 (by decide) (fun c_4 => ?_) (fun c_4 => ?_)
            · have hc : ¬ tt k = 3 := fun z => c_4 (by rw [z]; rfl)
              refine lv_iconst (v := 1) hx hb dX9_isRight_51 (by decide) ?_
              refine lv_goto (tgt := 56) hx hb dX9_isRight_52 (by decide) ?_
              refine ri (y := bI true) (rfl) ?_
              refine lv_istore_n (lv' := [(2, .int (bI true)), (0, .ref ta), (1, .int (nI m)), (3, .int (nI k))]) hx hb dX9_isRight_56 rfl hl (by decide) rfl (fun ls hl => ?_)
              refine lv_iinc (v := nI (k + 1)) (lv' := [(3, .int (nI (k + 1))), (2, .int (bI true)), (0, .ref ta), (1, .int (nI m))]) hx hb dX9_isRight_57 hl (k := 3) rfl (nI_add k 1) (by decide) rfl (fun ls hl => ?_)
              refine lv_goto (tgt := 4) hx hb dX9_isRight_60 (by decide) ?_
              exact ih true (k + 1) _ _ ls (by omega) (by omega) (⟨fun _ => right_succ.mpr ⟨hg.mp c_2, h3k, fun z => absurd z hc⟩, fun _ => rfl⟩) hP hD hS (lv_sub hl [2, 3, 1, 0] rfl)
            · have hc : tt k = 3 := (nI_eq (b := 3) (by omega) (by decide)).mp c_4
              refine lv_aload_n hx hb dX9_isRight_36 rfl (lv_at hl 0 rfl) ?_
              refine lv_sipush (v := 1024) hx hb dX9_isRight_37 (by decide) ?_
              refine lv_iload_n hx hb dX9_isRight_40 rfl (lv_at hl 3 rfl) ?_
              refine lv_iadd hx hb dX9_isRight_41 ?_
              refine ri (y := nI (1024 + k)) (nI_add 1024 k) ?_
              refine ax_bld hx hb hK hP 0 1 rfl rfl (1024 + k) (rfl) (by omega) (by omega) dX9_isRight_42 ?_
              refine lv_sipush (v := 255) hx hb dX9_isRight_43 (by decide) ?_
              refine lv_iand hx hb dX9_isRight_46 ?_
              refine ri (y := nI (tt (1024 + k))) (by rw [q3]; exact s8_and _ q4) ?_
              refine lv_iload_n hx hb dX9_isRight_47 rfl (lv_at hl 1 rfl) ?_
              refine lv_icmp_ge (tgt := 55) hx hb dX9_isRight_48 (by decide) (fun c_5 => ?_) (fun c_5 => ?_)
              · refine lv_iconst (v := 0) hx hb dX9_isRight_55 (by decide) ?_
                refine ri (y := bI false) (rfl) ?_
                refine lv_istore_n (lv' := [(2, .int (bI false)), (0, .ref ta), (1, .int (nI m)), (3, .int (nI k))]) hx hb dX9_isRight_56 rfl hl (by decide) rfl (fun ls hl => ?_)
                refine lv_iinc (v := nI (k + 1)) (lv' := [(3, .int (nI (k + 1))), (2, .int (bI false)), (0, .ref ta), (1, .int (nI m))]) hx hb dX9_isRight_57 hl (k := 3) rfl (nI_add k 1) (by decide) rfl (fun ls hl => ?_)
                refine lv_goto (tgt := 4) hx hb dX9_isRight_60 (by decide) ?_
                exact ih false (k + 1) _ _ ls (by omega) (by omega) (⟨fun z => absurd z (by decide), fun z => absurd ((right_succ.mp z).2.2 hc) (Nat.not_lt.mpr ((nI_leI (by omega) (by omega)).mp c_5))⟩) hP hD hS (lv_sub hl [2, 3, 1, 0] rfl)
              · refine lv_iconst (v := 1) hx hb dX9_isRight_51 (by decide) ?_
                refine lv_goto (tgt := 56) hx hb dX9_isRight_52 (by decide) ?_
                refine ri (y := bI true) (rfl) ?_
                refine lv_istore_n (lv' := [(2, .int (bI true)), (0, .ref ta), (1, .int (nI m)), (3, .int (nI k))]) hx hb dX9_isRight_56 rfl hl (by decide) rfl (fun ls hl => ?_)
                refine lv_iinc (v := nI (k + 1)) (lv' := [(3, .int (nI (k + 1))), (2, .int (bI true)), (0, .ref ta), (1, .int (nI m))]) hx hb dX9_isRight_57 hl (k := 3) rfl (nI_add k 1) (by decide) rfl (fun ls hl => ?_)
                refine lv_goto (tgt := 4) hx hb dX9_isRight_60 (by decide) ?_
                exact ih true (k + 1) _ _ ls (by omega) (by omega) (⟨fun _ => right_succ.mpr ⟨hg.mp c_2, h3k, fun _ => Nat.not_le.mp (fun q => c_5 (nI_le q (by omega)))⟩, fun _ => rfl⟩) hP hD hS (lv_sub hl [2, 3, 1, 0] rfl)
  exact loop _ true 0 _ _ ls (Nat.lt_succ_self _) (Nat.zero_le _) (⟨fun _ i hi => absurd hi (Nat.not_lt_zero i), fun _ => rfl⟩) hP hD hS (lv_sub hl [2, 3, 1, 0] rfl)
