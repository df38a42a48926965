/-! the table written by the reference -/
theorem addI_a0 {a b : Nat} {x : Ins} (h : x ∈ addI a b) : x.2.2.2 = 0 := by
  unfold addI at h
  split at h
  · rw [List.mem_singleton.mp h]
  · exact absurd h List.not_mem_nil
theorem chW_a0 {rn : Nat → Nat} {mt : Nat → Nat × Nat} {way en : Nat} : ∀ (k ad p : Nat) (x : Ins), x ∈ chW rn mt way en k ad p → ¬ x.1 = 3 → x.2.2.2 = 0
  | 0, ad, p, x => fun h _ => addI_a0 h
  | k + 1, ad, p, x => fun h h3 => by
    rw [chW] at h
    split at h
    · split at h
      · rcases List.mem_append.mp h with h | h
        · exact addI_a0 h
        · rcases List.mem_cons.mp h with h | h
          · rw [h]
          · exact chW_a0 k _ _ x h h3
      · split at h
        · exact chW_a0 k _ _ x h h3
        · rcases List.mem_append.mp h with h | h
          · exact addI_a0 h
          · rcases List.mem_cons.mp h with h | h
            · exact absurd (by rw [h]) h3
            · exact chW_a0 k _ _ x h h3
    · exact addI_a0 h
theorem mem_a0 {L : List Ins} (h : ∀ x, x ∈ L → ¬ x.1 = 3 → x.2.2.2 = 0) : ∀ i, i < L.length → ¬ (L.getD i (0, 0, 0, 0)).1 = 3 → (L.getD i (0, 0, 0, 0)).2.2.2 = 0 := by
  intro i hi h3
  have e : L.getD i (0, 0, 0, 0) = L[i] := by simp [List.getD, hi]
  rw [e] at h3 ⊢
  exact h _ (List.getElem_mem hi) h3
theorem insW_a0 {way seg en : Nat} {U : Nat → Int32} : ∀ i, i < (insW way seg en U).length → ¬ ((insW way seg en U).getD i (0, 0, 0, 0)).1 = 3 → ((insW way seg en U).getD i (0, 0, 0, 0)).2.2.2 = 0 := by
  apply mem_a0
  intro x hx h3
  unfold insW at hx
  split at hx
  · exact addI_a0 hx
  · exact chW_a0 _ _ _ x hx h3
theorem wtQ_eq {ff uf U : Nat → Int32} (h : ∀ j, j < 3072 → wU 1 ff uf 0 1536 j = U j) : wtQ ff uf = [214, 195, 196, 0, 0] ++ clL 1 1536 1536 (winS 4 3 (insW 1 1536 3072 U) U).1 (cdW firstT (winS 4 3 (insW 1 1536 3072 U) U).2.2.2.2.2).2.1 (winS 4 3 (insW 1 1536 3072 U) U).2.1 := by
  have e1 : insW 1 1536 3072 (wU 1 ff uf 0 1536) = insW 1 1536 3072 U := insW_congr h
  have e2 : winS 4 3 (insW 1 1536 3072 U) (wU 1 ff uf 0 1536) = winS 4 3 (insW 1 1536 3072 U) U := winS_congr (lo := 1536) (en := 3072) (fun j _ hj => h j hj) (insW_tile (by decide))
  unfold wtQ
  rw [show (1536 : Nat) = 1535 + 1 from rfl, winL, if_pos ⟨by decide, rfl⟩]
  rw [show (1535 : Nat) + 1 = 1536 from rfl, winL_no (by intro z; exact absurd z.1 (by decide))]
  unfold winO
  have hw : wseg 1 1536 0 = 1536 := rfl
  rw [hw, show min (0 + 1536) 1536 - 0 = 1536 from rfl, show 1536 + 1536 = 3072 from rfl, e1, e2]
  dsimp only [os0]
  rw [if_neg (by decide), List.append_nil]
theorem wL_pre {N : Nat} {f : Nat → Int32} {L M : List Int32} (h : wL N f (L ++ M)) : wL N f L := by
  intro j hj hn
  rw [h j (by rw [List.length_append]; omega) hn, gD_l hj]
theorem wL_at {N : Nat} {f : Nat → Int32} {L M : List Int32} {i : Nat} (h : wL N f (L ++ M)) (hi : i < M.length) (hn : L.length + i < N) : f (L.length + i) = (M.getD i 0).toInt8.toInt32 := by
  rw [h _ (by rw [List.length_append]; omega) hn, gD_r (by omega), show L.length + i - L.length = i by omega]
set_option maxHeartbeats 4000000 in
set_option maxRecDepth 100000 in
theorem m_putTable (l : Launch) (D : va_G) (cI cB cJ cR : ClassId) (mm : Nat) (g : Nat → Value) (Mfirst : Nat) (Mown : Nat) (Mtab : Nat) (Mu : Nat) (MqKind : Nat) (MqSize : Nat) (MqAt : Nat) (MqAddress : Nat) (MqMode : Nat) (Mnears : Nat) (Msames : Nat) (MsData : Nat) (MsCodes : Nat) (MsAddresses : Nat) (MdKind : Nat) (MdSize : Nat) (MdAddress : Nat) (MdMode : Nat) (MdCode : Nat) (MdWindow : Nat) (Mw : Nat) (MtableDelta : Nat) (mfirst : Nat → Int32) (mown : Nat → Int32) (mtab : Nat → Int32) (mu : Nat → Int32) (mqKind : Nat → Int32) (mqSize : Nat → Int32) (mqAt : Nat → Int32) (mqAddress : Nat → Int32) (mqMode : Nat → Int32) (mnears : Nat → Int64) (msames : Nat → Int64) (msData : Nat → Int32) (msCodes : Nat → Int32) (msAddresses : Nat → Int32) (mdKind : Nat → Int32) (mdSize : Nat → Int32) (mdAddress : Nat → Int32) (mdMode : Nat → Int32) (mdCode : Nat → Int32) (mdWindow : Nat → Int32) (mw : Nat → Int32) (mtableDelta : Nat → Int32) (OL : List Int32) (near : Nat) (same : Nat) (dr : Nat) (tt : Nat → Nat) (g_wrote : g 57 = .int (nI OL.length)) (g_ownNear : g 5 = .int (nI near)) (g_ownSame : g 6 = .int (nI same)) (g_drafts : g 20 = .int (nI dr)) (g_first : g 3 = .ref Mfirst) (g_own : g 4 = .ref Mown) (g_tab : g 7 = .ref Mtab) (g_u : g 64 = .ref Mu) (g_qKind : g 68 = .ref MqKind) (g_qSize : g 69 = .ref MqSize) (g_qAt : g 70 = .ref MqAt) (g_qAddress : g 71 = .ref MqAddress) (g_qMode : g 72 = .ref MqMode) (g_nears : g 10 = .ref Mnears) (g_sames : g 12 = .ref Msames) (g_sData : g 58 = .ref MsData) (g_sCodes : g 60 = .ref MsCodes) (g_sAddresses : g 62 = .ref MsAddresses) (g_dKind : g 21 = .ref MdKind) (g_dSize : g 22 = .ref MdSize) (g_dAddress : g 23 = .ref MdAddress) (g_dMode : g 24 = .ref MdMode) (g_dCode : g 25 = .ref MdCode) (g_dWindow : g 26 = .ref MdWindow) (g_w : g 56 = .ref Mw) (g_tableDelta : g 74 = .ref MtableDelta) (hft : bys mfirst firstT 1536) (ho : bys mown tt 1536) (hln : OL.length ≤ 100) (hw : wL 30000 mw OL) (hdr : dr < 2 ^ 24) : CMv l yX9_putTable cX9_putTable 5 none ({ frames := 4, cells := 0, slots := 0, locals := 99 }) D (tyA cI cB cJ cR) 0 0 [.ref mm] [(mm, .inr (9, fl 78 g)), (Mfirst, .inl (cB, 1536, .inl mfirst)), (Mown, .inl (cB, 1536, .inl mown)), (Mtab, .inl (cB, 1536, .inl mtab)), (Mu, .inl (cB, 8000, .inl mu)), (MqKind, .inl (cI, 4100, .inl mqKind)), (MqSize, .inl (cI, 4100, .inl mqSize)), (MqAt, .inl (cI, 4100, .inl mqAt)), (MqAddress, .inl (cI, 4100, .inl mqAddress)), (MqMode, .inl (cI, 4100, .inl mqMode)), (Mnears, .inl (cJ, 8, .inr (.inl mnears))), (Msames, .inl (cJ, 1024, .inr (.inl msames))), (MsData, .inl (cB, 8000, .inl msData)), (MsCodes, .inl (cB, 30000, .inl msCodes)), (MsAddresses, .inl (cB, 30000, .inl msAddresses)), (MdKind, .inl (cI, 4000, .inl mdKind)), (MdSize, .inl (cI, 4000, .inl mdSize)), (MdAddress, .inl (cI, 4000, .inl mdAddress)), (MdMode, .inl (cI, 4000, .inl mdMode)), (MdCode, .inl (cI, 4000, .inl mdCode)), (MdWindow, .inl (cI, 4000, .inl mdWindow)), (Mw, .inl (cB, 30000, .inl mw)), (MtableDelta, .inl (cB, 8000, .inl mtableDelta))] (fun (u9 : (Nat → Value) × (Nat → Int32) × (Nat → Int32) × (Nat → Int32) × (Nat → Int32) × (Nat → Int32) × (Nat → Int32) × (Nat → Int32) × (Nat → Int64) × (Nat → Int64) × (Nat → Int32) × (Nat → Int32) × (Nat → Int32) × (Nat → Int32) × (Nat → Int32) × (Nat → Int32) × (Nat → Int32) × (Nat → Int32) × (Nat → Int32) × (Nat → Int32) × (Nat → Int32)) => match u9 with | (g9, t2, u2, qKind2, qSize2, qAt2, qAddress2, qMode2, fn2, fs2, da2, co2, ad2, dKind2, dSize2, dAddress2, dMode2, dCode2, dWindow2, w2, td2) => frm [57, 8, 9, 39, 20, 65, 66, 67, 73, 59, 61, 63, 11] g g9 ∧ g9 57 = .int (nI (OL ++ wtH near same (wtQ (fun j => nI (firstT j)) (fun j => nI (tt j)))).length) ∧ g9 8 = .int (nI near) ∧ g9 9 = .int (nI same) ∧ g9 39 = .int (bI true) ∧ g9 20 = .int (nI dr) ∧ wL 30000 w2 (OL ++ wtH near same (wtQ (fun j => nI (firstT j)) (fun j => nI (tt j)))) ∧ bys t2 tt 1536) (fun (u9 : (Nat → Value) × (Nat → Int32) × (Nat → Int32) × (Nat → Int32) × (Nat → Int32) × (Nat → Int32) × (Nat → Int32) × (Nat → Int32) × (Nat → Int64) × (Nat → Int64) × (Nat → Int32) × (Nat → Int32) × (Nat → Int32) × (Nat → Int32) × (Nat → Int32) × (Nat → Int32) × (Nat → Int32) × (Nat → Int32) × (Nat → Int32) × (Nat → Int32) × (Nat → Int32)) => match u9 with | (g9, t2, u2, qKind2, qSize2, qAt2, qAddress2, qMode2, fn2, fs2, da2, co2, ad2, dKind2, dSize2, dAddress2, dMode2, dCode2, dWindow2, w2, td2) => [(mm, .inr (9, fl 78 g9)), (Mfirst, .inl (cB, 1536, .inl mfirst)), (Mown, .inl (cB, 1536, .inl mown)), (Mtab, .inl (cB, 1536, .inl t2)), (Mu, .inl (cB, 8000, .inl u2)), (MqKind, .inl (cI, 4100, .inl qKind2)), (MqSize, .inl (cI, 4100, .inl qSize2)), (MqAt, .inl (cI, 4100, .inl qAt2)), (MqAddress, .inl (cI, 4100, .inl qAddress2)), (MqMode, .inl (cI, 4100, .inl qMode2)), (Mnears, .inl (cJ, 8, .inr (.inl fn2))), (Msames, .inl (cJ, 1024, .inr (.inl fs2))), (MsData, .inl (cB, 8000, .inl da2)), (MsCodes, .inl (cB, 30000, .inl co2)), (MsAddresses, .inl (cB, 30000, .inl ad2)), (MdKind, .inl (cI, 4000, .inl dKind2)), (MdSize, .inl (cI, 4000, .inl dSize2)), (MdAddress, .inl (cI, 4000, .inl dAddress2)), (MdMode, .inl (cI, 4000, .inl dMode2)), (MdCode, .inl (cI, 4000, .inl dCode2)), (MdWindow, .inl (cI, 4000, .inl dWindow2)), (Mw, .inl (cB, 30000, .inl w2)), (MtableDelta, .inl (cB, 8000, .inl td2))]) := by
  refine st_v (cc := cX9_putTable) (maxL := 5) (by decide) (Nat.le_of_ble_eq_true rfl) ?_
  intro p0 e0 s0 m0 below meth c0 A0 Q0 hBD hret hP hD hS ls hl
  obtain ⟨hx, hb, hml, hown, hts, hnm, hK, hNw, hMk, hA⟩ := hBD
  have hl : lv_has ls 5 [(0, .ref mm)] := hl
  have hP : va_P D vwCl [(mm, .inr (9, fl 78 g)), (Mfirst, .inl (cB, 1536, .inl mfirst)), (Mown, .inl (cB, 1536, .inl mown)), (Mtab, .inl (cB, 1536, .inl mtab)), (Mu, .inl (cB, 8000, .inl mu)), (MqKind, .inl (cI, 4100, .inl mqKind)), (MqSize, .inl (cI, 4100, .inl mqSize)), (MqAt, .inl (cI, 4100, .inl mqAt)), (MqAddress, .inl (cI, 4100, .inl mqAddress)), (MqMode, .inl (cI, 4100, .inl mqMode)), (Mnears, .inl (cJ, 8, .inr (.inl mnears))), (Msames, .inl (cJ, 1024, .inr (.inl msames))), (MsData, .inl (cB, 8000, .inl msData)), (MsCodes, .inl (cB, 30000, .inl msCodes)), (MsAddresses, .inl (cB, 30000, .inl msAddresses)), (MdKind, .inl (cI, 4000, .inl mdKind)), (MdSize, .inl (cI, 4000, .inl mdSize)), (MdAddress, .inl (cI, 4000, .inl mdAddress)), (MdMode, .inl (cI, 4000, .inl mdMode)), (MdCode, .inl (cI, 4000, .inl mdCode)), (MdWindow, .inl (cI, 4000, .inl mdWindow)), (Mw, .inl (cB, 30000, .inl mw)), (MtableDelta, .inl (cB, 8000, .inl mtableDelta))] s0.heap := hP
  have hD : va_D A0 [(mm, .inr (9, fl 78 g)), (Mfirst, .inl (cB, 1536, .inl mfirst)), (Mown, .inl (cB, 1536, .inl mown)), (Mtab, .inl (cB, 1536, .inl mtab)), (Mu, .inl (cB, 8000, .inl mu)), (MqKind, .inl (cI, 4100, .inl mqKind)), (MqSize, .inl (cI, 4100, .inl mqSize)), (MqAt, .inl (cI, 4100, .inl mqAt)), (MqAddress, .inl (cI, 4100, .inl mqAddress)), (MqMode, .inl (cI, 4100, .inl mqMode)), (Mnears, .inl (cJ, 8, .inr (.inl mnears))), (Msames, .inl (cJ, 1024, .inr (.inl msames))), (MsData, .inl (cB, 8000, .inl msData)), (MsCodes, .inl (cB, 30000, .inl msCodes)), (MsAddresses, .inl (cB, 30000, .inl msAddresses)), (MdKind, .inl (cI, 4000, .inl mdKind)), (MdSize, .inl (cI, 4000, .inl mdSize)), (MdAddress, .inl (cI, 4000, .inl mdAddress)), (MdMode, .inl (cI, 4000, .inl mdMode)), (MdCode, .inl (cI, 4000, .inl mdCode)), (MdWindow, .inl (cI, 4000, .inl mdWindow)), (Mw, .inl (cB, 30000, .inl mw)), (MtableDelta, .inl (cB, 8000, .inl mtableDelta))] := hD
  obtain ⟨ub, hbE⟩ : ∃ ub, ub = (fun j => (if j < 1536 then firstT j else tt (j - 1536)) % 256) := ⟨_, rfl⟩
  have hub : ∀ j, ub j < 256 := fun j => by rw [hbE]; exact Nat.mod_lt _ (by decide)
  have hb1 : ∀ j, j < 1536 → ub j = firstT j := fun j hj => by have := (hft j hj).2; rw [hbE]; dsimp only; rw [if_pos hj]; exact Nat.mod_eq_of_lt this
  have hb2 : ∀ j, j < 1536 → ub (1536 + j) = tt j := fun j hj => by have := (ho j hj).2; rw [hbE]; dsimp only; rw [if_neg (by omega), show 1536 + j - 1536 = j by omega]; exact Nat.mod_eq_of_lt this
  have hUE : ∀ j, j < 3072 → wU 1 (fun j => nI (firstT j)) (fun j => nI (tt j)) 0 1536 j = nI (ub j) := fun j hj => by unfold wU; by_cases q : j < 1536; rw [if_pos q, if_pos rfl, hb1 j q]; rw [if_neg q, Nat.zero_add]; show nI (tt (j - 1536)) = nI (ub j); rw [← hb2 (j - 1536) (by omega), show 1536 + (j - 1536) = j by omega]
  obtain ⟨W9, hW9⟩ : ∃ W9, W9 = winS 4 3 (insW 1 1536 3072 (fun j => nI (ub j))) (fun j => nI (ub j)) := ⟨_, rfl⟩
  obtain ⟨QL, hQL⟩ : ∃ QL, QL = (wtQ (fun j => nI (firstT j)) (fun j => nI (tt j))) := ⟨_, rfl⟩
  have hQe : QL = [214, 195, 196, 0, 0] ++ clL 1 1536 (3072 - 1536) W9.1 (cdW firstT W9.2.2.2.2.2).2.1 W9.2.1 := by rw [hQL, hW9]; exact wtQ_eq hUE
  have hQl : QL.length ≤ 4000 := by rw [hQL]; exact wtQ_len
  have htl9 := insW_tile (way := 1) (U := (fun j => nI (ub j))) (show 1536 ≤ 3072 by decide)
  have hbd := winS_bd (near := 4) (same := 3) (U := (fun j => nI (ub j))) (by decide) (by decide) (by decide) htl9
  rw [← hW9] at hbd
  have hcl9 := cdW_len (tt := firstT) _ W9.2.2.2.2.2 (Nat.le_refl _)
  have hcd9 : (cdW firstT W9.2.2.2.2.2).1 = true := by rw [hW9]; exact cdW_first
  refine lv_aload_n hx hb dX9_putTable_0 rfl (lv_at hl 0 rfl) ?_
  refine fx_get (D := D) (ci := 9) (v := .int (nI OL.length)) (C := RX9) (T := TX9) (N := 78) hx hb hts in_X9 hown hK hP 0 rfl rfl 57 (by decide) (hts _ kX9_346) (fun _ h9 => h9) (g_wrote) dX9_putTable_1 ?_
  refine lv_istore_n (lv' := [(1, .int (nI OL.length)), (0, .ref mm)]) hx hb dX9_putTable_4 rfl hl (by decide) rfl (fun ls hl => ?_)
  refine lv_aload_n hx hb dX9_putTable_5 rfl (lv_at hl 1 rfl) ?_
  refine lv_aload_n hx hb dX9_putTable_6 rfl (lv_at hl 1 rfl) ?_
  refine fx_get (D := D) (ci := 9) (v := .ref Mfirst) (C := RX9) (T := TX9) (N := 78) hx hb hts in_X9 hown hK hP 0 rfl rfl 3 (by decide) (hts _ kX9_17) (fun _ h9 => h9) (g_first) dX9_putTable_7 ?_
  refine lv_iconst (v := 4) hx hb dX9_putTable_10 (by decide) ?_
  refine ri (y := nI 4) (rfl) ?_
  refine lv_iconst (v := 3) hx hb dX9_putTable_11 (by decide) ?_
  refine ri (y := nI 3) (rfl) ?_
  refine jn_v (wr := [(Mown, .inl (cB, 1536, .inl mown)), (Mu, .inl (cB, 8000, .inl mu)), (MqKind, .inl (cI, 4100, .inl mqKind)), (MqSize, .inl (cI, 4100, .inl mqSize)), (MqAt, .inl (cI, 4100, .inl mqAt)), (MqAddress, .inl (cI, 4100, .inl mqAddress)), (MqMode, .inl (cI, 4100, .inl mqMode)), (Mnears, .inl (cJ, 8, .inr (.inl mnears))), (Msames, .inl (cJ, 1024, .inr (.inl msames))), (MsData, .inl (cB, 8000, .inl msData)), (MsCodes, .inl (cB, 30000, .inl msCodes)), (MsAddresses, .inl (cB, 30000, .inl msAddresses)), (MdKind, .inl (cI, 4000, .inl mdKind)), (MdSize, .inl (cI, 4000, .inl mdSize)), (MdAddress, .inl (cI, 4000, .inl mdAddress)), (MdMode, .inl (cI, 4000, .inl mdMode)), (MdCode, .inl (cI, 4000, .inl mdCode)), (MdWindow, .inl (cI, 4000, .inl mdWindow)), (Mw, .inl (cB, 30000, .inl mw)), (MtableDelta, .inl (cB, 8000, .inl mtableDelta))]) hA hP hD hS [0, 3, 1] [2, 4, 5, 6, 7, 8, 9, 10, 11, 12, 13, 14, 15, 16, 17, 18, 19, 20, 21, 22] rfl rfl (by decide) (by decide) (rn_V (As := [.ref Mfirst, .int (nI 4), .int (nI 3)]) (rest := []) ⟨hx, hb, hml, hown, hts⟩ (cvV 3 hts zc_yX9_use zi_X9 zm_yX9_use zv_yX9_use kX9_213 (by decide +kernel) rfl rfl ⟨Nat.le_of_ble_eq_true rfl, Nat.le_of_ble_eq_true rfl⟩) (m_use l D cI cB cJ cR mm g Mtab mtab Mfirst 1536 mfirst firstT 4 3 (g_tab) (by decide) (hft) s0.heap.size) hK hNw hMk hA hP hD hS [0, 3, 1] rfl rfl (by decide) 0 rfl rfl rfl rfl hl.1 rfl (Nat.le_of_ble_eq_true rfl) dX9_putTable_12 ⟨Nat.le_of_ble_eq_true rfl, Nat.le_of_ble_eq_true rfl⟩) (fun u9 H locs hus hP hD hS => ?_)
  obtain ⟨g_1, t7⟩ := u9
  try dsimp only at hus
  have hP : va_P D vwCl [(Mown, .inl (cB, 1536, .inl mown)), (Mu, .inl (cB, 8000, .inl mu)), (MqKind, .inl (cI, 4100, .inl mqKind)), (MqSize, .inl (cI, 4100, .inl mqSize)), (MqAt, .inl (cI, 4100, .inl mqAt)), (MqAddress, .inl (cI, 4100, .inl mqAddress)), (MqMode, .inl (cI, 4100, .inl mqMode)), (Mnears, .inl (cJ, 8, .inr (.inl mnears))), (Msames, .inl (cJ, 1024, .inr (.inl msames))), (MsData, .inl (cB, 8000, .inl msData)), (MsCodes, .inl (cB, 30000, .inl msCodes)), (MsAddresses, .inl (cB, 30000, .inl msAddresses)), (MdKind, .inl (cI, 4000, .inl mdKind)), (MdSize, .inl (cI, 4000, .inl mdSize)), (MdAddress, .inl (cI, 4000, .inl mdAddress)), (MdMode, .inl (cI, 4000, .inl mdMode)), (MdCode, .inl (cI, 4000, .inl mdCode)), (MdWindow, .inl (cI, 4000, .inl mdWindow)), (Mw, .inl (cB, 30000, .inl mw)), (MtableDelta, .inl (cB, 8000, .inl mtableDelta)), (mm, .inr (9, fl 78 g_1)), (Mtab, .inl (cB, 1536, .inl t7)), (Mfirst, .inl (cB, 1536, .inl mfirst))] H := hP
  have hD : va_D A0 [(Mown, .inl (cB, 1536, .inl mown)), (Mu, .inl (cB, 8000, .inl mu)), (MqKind, .inl (cI, 4100, .inl mqKind)), (MqSize, .inl (cI, 4100, .inl mqSize)), (MqAt, .inl (cI, 4100, .inl mqAt)), (MqAddress, .inl (cI, 4100, .inl mqAddress)), (MqMode, .inl (cI, 4100, .inl mqMode)), (Mnears, .inl (cJ, 8, .inr (.inl mnears))), (Msames, .inl (cJ, 1024, .inr (.inl msames))), (MsData, .inl (cB, 8000, .inl msData)), (MsCodes, .inl (cB, 30000, .inl msCodes)), (MsAddresses, .inl (cB, 30000, .inl msAddresses)), (MdKind, .inl (cI, 4000, .inl mdKind)), (MdSize, .inl (cI, 4000, .inl mdSize)), (MdAddress, .inl (cI, 4000, .inl mdAddress)), (MdMode, .inl (cI, 4000, .inl mdMode)), (MdCode, .inl (cI, 4000, .inl mdCode)), (MdWindow, .inl (cI, 4000, .inl mdWindow)), (Mw, .inl (cB, 30000, .inl mw)), (MtableDelta, .inl (cB, 8000, .inl mtableDelta)), (mm, .inr (9, fl 78 g_1)), (Mtab, .inl (cB, 1536, .inl t7)), (Mfirst, .inl (cB, 1536, .inl mfirst))] := hD
  obtain ⟨f_hus, near_hus, same_hus, hus_⟩ := hus
  have k57_g_1 : g_1 57 = .int (nI OL.length) := (f_hus 57 (by decide)).trans (g_wrote)
  have k5_g_1 : g_1 5 = .int (nI near) := (f_hus 5 (by decide)).trans (g_ownNear)
  have k6_g_1 : g_1 6 = .int (nI same) := (f_hus 6 (by decide)).trans (g_ownSame)
  have k20_g_1 : g_1 20 = .int (nI dr) := (f_hus 20 (by decide)).trans (g_drafts)
  have k3_g_1 : g_1 3 = .ref Mfirst := (f_hus 3 (by decide)).trans (g_first)
  have k4_g_1 : g_1 4 = .ref Mown := (f_hus 4 (by decide)).trans (g_own)
  have k7_g_1 : g_1 7 = .ref Mtab := (f_hus 7 (by decide)).trans (g_tab)
  have k64_g_1 : g_1 64 = .ref Mu := (f_hus 64 (by decide)).trans (g_u)
  have k68_g_1 : g_1 68 = .ref MqKind := (f_hus 68 (by decide)).trans (g_qKind)
  have k69_g_1 : g_1 69 = .ref MqSize := (f_hus 69 (by decide)).trans (g_qSize)
  have k70_g_1 : g_1 70 = .ref MqAt := (f_hus 70 (by decide)).trans (g_qAt)
  have k71_g_1 : g_1 71 = .ref MqAddress := (f_hus 71 (by decide)).trans (g_qAddress)
  have k72_g_1 : g_1 72 = .ref MqMode := (f_hus 72 (by decide)).trans (g_qMode)
  have k10_g_1 : g_1 10 = .ref Mnears := (f_hus 10 (by decide)).trans (g_nears)
  have k12_g_1 : g_1 12 = .ref Msames := (f_hus 12 (by decide)).trans (g_sames)
  have k58_g_1 : g_1 58 = .ref MsData := (f_hus 58 (by decide)).trans (g_sData)
  have k60_g_1 : g_1 60 = .ref MsCodes := (f_hus 60 (by decide)).trans (g_sCodes)
  have k62_g_1 : g_1 62 = .ref MsAddresses := (f_hus 62 (by decide)).trans (g_sAddresses)
  have k21_g_1 : g_1 21 = .ref MdKind := (f_hus 21 (by decide)).trans (g_dKind)
  have k22_g_1 : g_1 22 = .ref MdSize := (f_hus 22 (by decide)).trans (g_dSize)
  have k23_g_1 : g_1 23 = .ref MdAddress := (f_hus 23 (by decide)).trans (g_dAddress)
  have k24_g_1 : g_1 24 = .ref MdMode := (f_hus 24 (by decide)).trans (g_dMode)
  have k25_g_1 : g_1 25 = .ref MdCode := (f_hus 25 (by decide)).trans (g_dCode)
  have k26_g_1 : g_1 26 = .ref MdWindow := (f_hus 26 (by decide)).trans (g_dWindow)
  have k56_g_1 : g_1 56 = .ref Mw := (f_hus 56 (by decide)).trans (g_w)
  have k74_g_1 : g_1 74 = .ref MtableDelta := (f_hus 74 (by decide)).trans (g_tableDelta)
  have fr_g_1 : frm [57, 8, 9, 39, 20, 65, 66, 67, 73, 59, 61, 63, 11] g g_1 := frm_tr frm_refl f_hus (by decide)
  refine lv_aload_n hx hb dX9_putTable_15 rfl (lv_at hl 1 rfl) ?_
  refine lv_iconst (v := 0) hx hb dX9_putTable_16 (by decide) ?_
  refine ri (y := bI false) (rfl) ?_
  refine fx_put (D := D) (ci := 9) (v := .int (bI false)) (ty := .boolean) (C := RX9) (T := TX9) (N := 78) hx hb hts in_X9 tyX9 tyX9_ok nmX9 hown hK hP hD hS 20 rfl rfl 39 (by decide) (hts _ kX9_224) (fun _ h9 => h9) rfl (by decide +kernel) (by cases false <;> rfl) rfl dX9_putTable_17 (fun H locs hP hD hS => ?_)
  have hP : va_P D vwCl [(Mown, .inl (cB, 1536, .inl mown)), (Mu, .inl (cB, 8000, .inl mu)), (MqKind, .inl (cI, 4100, .inl mqKind)), (MqSize, .inl (cI, 4100, .inl mqSize)), (MqAt, .inl (cI, 4100, .inl mqAt)), (MqAddress, .inl (cI, 4100, .inl mqAddress)), (MqMode, .inl (cI, 4100, .inl mqMode)), (Mnears, .inl (cJ, 8, .inr (.inl mnears))), (Msames, .inl (cJ, 1024, .inr (.inl msames))), (MsData, .inl (cB, 8000, .inl msData)), (MsCodes, .inl (cB, 30000, .inl msCodes)), (MsAddresses, .inl (cB, 30000, .inl msAddresses)), (MdKind, .inl (cI, 4000, .inl mdKind)), (MdSize, .inl (cI, 4000, .inl mdSize)), (MdAddress, .inl (cI, 4000, .inl mdAddress)), (MdMode, .inl (cI, 4000, .inl mdMode)), (MdCode, .inl (cI, 4000, .inl mdCode)), (MdWindow, .inl (cI, 4000, .inl mdWindow)), (Mw, .inl (cB, 30000, .inl mw)), (MtableDelta, .inl (cB, 8000, .inl mtableDelta)), (mm, .inr (9, fl 78 (va_up g_1 39 (.int (bI false))))), (Mtab, .inl (cB, 1536, .inl t7)), (Mfirst, .inl (cB, 1536, .inl mfirst))] H := hP
  have hD : va_D A0 [(Mown, .inl (cB, 1536, .inl mown)), (Mu, .inl (cB, 8000, .inl mu)), (MqKind, .inl (cI, 4100, .inl mqKind)), (MqSize, .inl (cI, 4100, .inl mqSize)), (MqAt, .inl (cI, 4100, .inl mqAt)), (MqAddress, .inl (cI, 4100, .inl mqAddress)), (MqMode, .inl (cI, 4100, .inl mqMode)), (Mnears, .inl (cJ, 8, .inr (.inl mnears))), (Msames, .inl (cJ, 1024, .inr (.inl msames))), (MsData, .inl (cB, 8000, .inl msData)), (MsCodes, .inl (cB, 30000, .inl msCodes)), (MsAddresses, .inl (cB, 30000, .inl msAddresses)), (MdKind, .inl (cI, 4000, .inl mdKind)), (MdSize, .inl (cI, 4000, .inl mdSize)), (MdAddress, .inl (cI, 4000, .inl mdAddress)), (MdMode, .inl (cI, 4000, .inl mdMode)), (MdCode, .inl (cI, 4000, .inl mdCode)), (MdWindow, .inl (cI, 4000, .inl mdWindow)), (Mw, .inl (cB, 30000, .inl mw)), (MtableDelta, .inl (cB, 8000, .inl mtableDelta)), (mm, .inr (9, fl 78 (va_up g_1 39 (.int (bI false))))), (Mtab, .inl (cB, 1536, .inl t7)), (Mfirst, .inl (cB, 1536, .inl mfirst))] := hD
  refine lv_aload_n hx hb dX9_putTable_20 rfl (lv_at hl 1 rfl) ?_
  refine lv_iconst (v := 0) hx hb dX9_putTable_21 (by decide) ?_
  refine jn_v (wr := [(Mown, .inl (cB, 1536, .inl mown)), (Mu, .inl (cB, 8000, .inl mu)), (MqKind, .inl (cI, 4100, .inl mqKind)), (MqSize, .inl (cI, 4100, .inl mqSize)), (MqAt, .inl (cI, 4100, .inl mqAt)), (MqAddress, .inl (cI, 4100, .inl mqAddress)), (MqMode, .inl (cI, 4100, .inl mqMode)), (Mnears, .inl (cJ, 8, .inr (.inl mnears))), (Msames, .inl (cJ, 1024, .inr (.inl msames))), (MsData, .inl (cB, 8000, .inl msData)), (MsCodes, .inl (cB, 30000, .inl msCodes)), (MsAddresses, .inl (cB, 30000, .inl msAddresses)), (MdKind, .inl (cI, 4000, .inl mdKind)), (MdSize, .inl (cI, 4000, .inl mdSize)), (MdAddress, .inl (cI, 4000, .inl mdAddress)), (MdMode, .inl (cI, 4000, .inl mdMode)), (MdCode, .inl (cI, 4000, .inl mdCode)), (MdWindow, .inl (cI, 4000, .inl mdWindow)), (MtableDelta, .inl (cB, 8000, .inl mtableDelta)), (Mtab, .inl (cB, 1536, .inl t7)), (Mfirst, .inl (cB, 1536, .inl mfirst))]) hA hP hD hS [20, 18] [0, 1, 2, 3, 4, 5, 6, 7, 8, 9, 10, 11, 12, 13, 14, 15, 16, 17, 19, 21, 22] rfl rfl (by decide) (by decide) (rn_V (As := [.int 0]) (rest := []) ⟨hx, hb, hml, hown, hts⟩ (cvV 1 hts zc_yX9_head zi_X9 zm_yX9_head zv_yX9_head kX9_403 (by decide +kernel) rfl rfl ⟨Nat.le_of_ble_eq_true rfl, Nat.le_of_ble_eq_true rfl⟩) (m_head l D cI cB cJ cR mm (va_up g_1 39 (.int (bI false))) Mw mw OL 0 (k57_g_1) (k56_g_1) (by omega) (hw) H.size) hK hNw hMk hA hP hD hS [20, 18] rfl rfl (by decide) 0 rfl rfl rfl rfl hl.1 rfl (Nat.le_of_ble_eq_true rfl) dX9_putTable_22 ⟨Nat.le_of_ble_eq_true rfl, Nat.le_of_ble_eq_true rfl⟩) (fun u9 H locs hhd hP hD hS => ?_)
  obtain ⟨g_3, w5⟩ := u9
  try dsimp only at hhd
  have hP : va_P D vwCl [(Mown, .inl (cB, 1536, .inl mown)), (Mu, .inl (cB, 8000, .inl mu)), (MqKind, .inl (cI, 4100, .inl mqKind)), (MqSize, .inl (cI, 4100, .inl mqSize)), (MqAt, .inl (cI, 4100, .inl mqAt)), (MqAddress, .inl (cI, 4100, .inl mqAddress)), (MqMode, .inl (cI, 4100, .inl mqMode)), (Mnears, .inl (cJ, 8, .inr (.inl mnears))), (Msames, .inl (cJ, 1024, .inr (.inl msames))), (MsData, .inl (cB, 8000, .inl msData)), (MsCodes, .inl (cB, 30000, .inl msCodes)), (MsAddresses, .inl (cB, 30000, .inl msAddresses)), (MdKind, .inl (cI, 4000, .inl mdKind)), (MdSize, .inl (cI, 4000, .inl mdSize)), (MdAddress, .inl (cI, 4000, .inl mdAddress)), (MdMode, .inl (cI, 4000, .inl mdMode)), (MdCode, .inl (cI, 4000, .inl mdCode)), (MdWindow, .inl (cI, 4000, .inl mdWindow)), (MtableDelta, .inl (cB, 8000, .inl mtableDelta)), (Mtab, .inl (cB, 1536, .inl t7)), (Mfirst, .inl (cB, 1536, .inl mfirst)), (mm, .inr (9, fl 78 g_3)), (Mw, .inl (cB, 30000, .inl w5))] H := hP
  have hD : va_D A0 [(Mown, .inl (cB, 1536, .inl mown)), (Mu, .inl (cB, 8000, .inl mu)), (MqKind, .inl (cI, 4100, .inl mqKind)), (MqSize, .inl (cI, 4100, .inl mqSize)), (MqAt, .inl (cI, 4100, .inl mqAt)), (MqAddress, .inl (cI, 4100, .inl mqAddress)), (MqMode, .inl (cI, 4100, .inl mqMode)), (Mnears, .inl (cJ, 8, .inr (.inl mnears))), (Msames, .inl (cJ, 1024, .inr (.inl msames))), (MsData, .inl (cB, 8000, .inl msData)), (MsCodes, .inl (cB, 30000, .inl msCodes)), (MsAddresses, .inl (cB, 30000, .inl msAddresses)), (MdKind, .inl (cI, 4000, .inl mdKind)), (MdSize, .inl (cI, 4000, .inl mdSize)), (MdAddress, .inl (cI, 4000, .inl mdAddress)), (MdMode, .inl (cI, 4000, .inl mdMode)), (MdCode, .inl (cI, 4000, .inl mdCode)), (MdWindow, .inl (cI, 4000, .inl mdWindow)), (MtableDelta, .inl (cB, 8000, .inl mtableDelta)), (Mtab, .inl (cB, 1536, .inl t7)), (Mfirst, .inl (cB, 1536, .inl mfirst)), (mm, .inr (9, fl 78 g_3)), (Mw, .inl (cB, 30000, .inl w5))] := hD
  obtain ⟨f_hhd, wrote_hhd, hhd_⟩ := hhd
  have k5_g_3 : g_3 5 = .int (nI near) := (f_hhd 5 (by decide)).trans (k5_g_1)
  have k6_g_3 : g_3 6 = .int (nI same) := (f_hhd 6 (by decide)).trans (k6_g_1)
  have k20_g_3 : g_3 20 = .int (nI dr) := (f_hhd 20 (by decide)).trans (k20_g_1)
  have k3_g_3 : g_3 3 = .ref Mfirst := (f_hhd 3 (by decide)).trans (k3_g_1)
  have k4_g_3 : g_3 4 = .ref Mown := (f_hhd 4 (by decide)).trans (k4_g_1)
  have k7_g_3 : g_3 7 = .ref Mtab := (f_hhd 7 (by decide)).trans (k7_g_1)
  have k64_g_3 : g_3 64 = .ref Mu := (f_hhd 64 (by decide)).trans (k64_g_1)
  have k68_g_3 : g_3 68 = .ref MqKind := (f_hhd 68 (by decide)).trans (k68_g_1)
  have k69_g_3 : g_3 69 = .ref MqSize := (f_hhd 69 (by decide)).trans (k69_g_1)
  have k70_g_3 : g_3 70 = .ref MqAt := (f_hhd 70 (by decide)).trans (k70_g_1)
  have k71_g_3 : g_3 71 = .ref MqAddress := (f_hhd 71 (by decide)).trans (k71_g_1)
  have k72_g_3 : g_3 72 = .ref MqMode := (f_hhd 72 (by decide)).trans (k72_g_1)
  have k10_g_3 : g_3 10 = .ref Mnears := (f_hhd 10 (by decide)).trans (k10_g_1)
  have k12_g_3 : g_3 12 = .ref Msames := (f_hhd 12 (by decide)).trans (k12_g_1)
  have k58_g_3 : g_3 58 = .ref MsData := (f_hhd 58 (by decide)).trans (k58_g_1)
  have k60_g_3 : g_3 60 = .ref MsCodes := (f_hhd 60 (by decide)).trans (k60_g_1)
  have k62_g_3 : g_3 62 = .ref MsAddresses := (f_hhd 62 (by decide)).trans (k62_g_1)
  have k21_g_3 : g_3 21 = .ref MdKind := (f_hhd 21 (by decide)).trans (k21_g_1)
  have k22_g_3 : g_3 22 = .ref MdSize := (f_hhd 22 (by decide)).trans (k22_g_1)
  have k23_g_3 : g_3 23 = .ref MdAddress := (f_hhd 23 (by decide)).trans (k23_g_1)
  have k24_g_3 : g_3 24 = .ref MdMode := (f_hhd 24 (by decide)).trans (k24_g_1)
  have k25_g_3 : g_3 25 = .ref MdCode := (f_hhd 25 (by decide)).trans (k25_g_1)
  have k26_g_3 : g_3 26 = .ref MdWindow := (f_hhd 26 (by decide)).trans (k26_g_1)
  have k56_g_3 : g_3 56 = .ref Mw := (f_hhd 56 (by decide)).trans (k56_g_1)
  have k74_g_3 : g_3 74 = .ref MtableDelta := (f_hhd 74 (by decide)).trans (k74_g_1)
  have k8_g_3 : g_3 8 = .int (nI 4) := (f_hhd 8 (by decide)).trans (near_hus)
  have k9_g_3 : g_3 9 = .int (nI 3) := (f_hhd 9 (by decide)).trans (same_hus)
  have k39_g_3 : g_3 39 = .int (bI false) := (f_hhd 39 (by decide)).trans (rfl)
  have fr_g_3 : frm [57, 8, 9, 39, 20, 65, 66, 67, 73, 59, 61, 63, 11] g g_3 := frm_tr (frm_up fr_g_1 (by decide)) f_hhd (by decide)
  refine lv_iconst (v := 0) hx hb dX9_putTable_25 (by decide) ?_
  refine ri (y := nI 0) (nI_0.symm) ?_
  refine lv_istore_n (lv' := [(2, .int (nI 0)), (1, .int (nI OL.length)), (0, .ref mm)]) hx hb dX9_putTable_26 rfl hl (by decide) rfl (fun ls hl => ?_)
  have l1 : ∀ (k9 : Nat) (g5_l1 : Nat → Value) (i : Nat) (u7 : Nat → Int32) (H : Heap) (locs : List Loc) (ls : Array Slot), 1536 - i < k9 → (frm [57, 8, 9, 39, 20, 65, 66, 67, 73, 59, 61, 63, 11] g g5_l1) → (g5_l1 57 = .int (nI (OL ++ [214, 195, 196, 0, 0]).length)) → (g5_l1 8 = .int (nI 4)) → (g5_l1 9 = .int (nI 3)) → (g5_l1 39 = .int (bI false)) → (g5_l1 20 = .int (nI dr)) → (i ≤ 1536) → (∀ j, j < i → u7 j = s8 (firstT j)) → (∀ j, j < i → u7 (1536 + j) = s8 (tt j)) → va_P D vwCl [(mm, .inr (9, fl 78 g5_l1)), (Mown, .inl (cB, 1536, .inl mown)), (Mu, .inl (cB, 8000, .inl u7)), (MqKind, .inl (cI, 4100, .inl mqKind)), (MqSize, .inl (cI, 4100, .inl mqSize)), (MqAt, .inl (cI, 4100, .inl mqAt)), (MqAddress, .inl (cI, 4100, .inl mqAddress)), (MqMode, .inl (cI, 4100, .inl mqMode)), (Mnears, .inl (cJ, 8, .inr (.inl mnears))), (Msames, .inl (cJ, 1024, .inr (.inl msames))), (MsData, .inl (cB, 8000, .inl msData)), (MsCodes, .inl (cB, 30000, .inl msCodes)), (MsAddresses, .inl (cB, 30000, .inl msAddresses)), (MdKind, .inl (cI, 4000, .inl mdKind)), (MdSize, .inl (cI, 4000, .inl mdSize)), (MdAddress, .inl (cI, 4000, .inl mdAddress)), (MdMode, .inl (cI, 4000, .inl mdMode)), (MdCode, .inl (cI, 4000, .inl mdCode)), (MdWindow, .inl (cI, 4000, .inl mdWindow)), (MtableDelta, .inl (cB, 8000, .inl mtableDelta)), (Mtab, .inl (cB, 1536, .inl t7)), (Mfirst, .inl (cB, 1536, .inl mfirst)), (Mw, .inl (cB, 30000, .inl w5))] H → va_D A0 [(mm, .inr (9, fl 78 g5_l1)), (Mown, .inl (cB, 1536, .inl mown)), (Mu, .inl (cB, 8000, .inl u7)), (MqKind, .inl (cI, 4100, .inl mqKind)), (MqSize, .inl (cI, 4100, .inl mqSize)), (MqAt, .inl (cI, 4100, .inl mqAt)), (MqAddress, .inl (cI, 4100, .inl mqAddress)), (MqMode, .inl (cI, 4100, .inl mqMode)), (Mnears, .inl (cJ, 8, .inr (.inl mnears))), (Msames, .inl (cJ, 1024, .inr (.inl msames))), (MsData, .inl (cB, 8000, .inl msData)), (MsCodes, .inl (cB, 30000, .inl msCodes)), (MsAddresses, .inl (cB, 30000, .inl msAddresses)), (MdKind, .inl (cI, 4000, .inl mdKind)), (MdSize, .inl (cI, 4000, .inl mdSize)), (MdAddress, .inl (cI, 4000, .inl mdAddress)), (MdMode, .inl (cI, 4000, .inl mdMode)), (MdCode, .inl (cI, 4000, .inl mdCode)), (MdWindow, .inl (cI, 4000, .inl mdWindow)), (MtableDelta, .inl (cB, 8000, .inl mtableDelta)), (Mtab, .inl (cB, 1536, .inl t7)), (Mfirst, .inl (cB, 1536, .inl mfirst)), (Mw, .inl (cB, 30000, .inl w5))] → va_S A0 s0.heap H locs → lv_has ls 5 [(0, .ref mm), (1, .int (nI OL.length)), (2, .int (nI i))] → W p0 l e0 ({ frames := 4, cells := 0, slots := 0, locals := 99 }) s0 m0 ([.ref mm] : List Value).toArray below meth c0 H locs 0 0 Q0 (F0 m0 27 ls []) := by
    intro k9
    induction k9 with
    | zero => intro g5_l1 i u7 H locs ls hk9; exact absurd hk9 (Nat.not_lt_zero _)
    | succ k9 ih =>
      intro g5_l1 i u7 H locs ls hk9 hf_l1 k_wrote_l1 k_near_l1 k_same_l1 k_counts_l1 k_drafts_l1 hin hu1 hu2 hP hD hS hl
      refine lv_iload_n hx hb dX9_putTable_27 rfl (lv_at hl 2 rfl) ?_
      refine lv_sipush (v := 1536) hx hb dX9_putTable_28 (by decide) ?_
      refine lv_icmp_ge (tgt := 68) hx hb dX9_putTable_31 (by decide) (fun c_5 => ?_) (fun c_5 => ?_)
      · have hi9 : i = 1536 := by have := (nI_leI (a := 1536) (by decide) (by omega)).mp c_5; omega
        rw [hi9] at hu1 hu2
        have hu9 : ∀ j, j < 3072 → u7 j = s8 (ub j) := fun j hj => by by_cases q : j < 1536; rw [hb1 j q]; exact hu1 j q; have h9 := hu2 (j - 1536) (by omega); rw [show 1536 + (j - 1536) = j by omega] at h9; rw [h9, ← hb2 (j - 1536) (by omega), show 1536 + (j - 1536) = j by omega]
        refine lv_aload_n hx hb dX9_putTable_68 rfl (lv_at hl 0 rfl) ?_
        refine lv_sipush (v := 1536) hx hb dX9_putTable_69 (by decide) ?_
        refine ri (y := nI 1536) (rfl) ?_
        refine fx_put (D := D) (ci := 9) (v := .int (nI 1536)) (ty := .int) (C := RX9) (T := TX9) (N := 78) hx hb hts in_X9 tyX9 tyX9_ok nmX9 hown hK hP hD hS 0 rfl rfl 65 (by decide) (hts _ kX9_365) (fun _ h9 => h9) rfl (by decide +kernel) rfl rfl dX9_putTable_72 (fun H locs hP hD hS => ?_)
        have hP : va_P D vwCl [(mm, .inr (9, fl 78 (va_up g5_l1 65 (.int (nI 1536))))), (Mown, .inl (cB, 1536, .inl mown)), (Mu, .inl (cB, 8000, .inl u7)), (MqKind, .inl (cI, 4100, .inl mqKind)), (MqSize, .inl (cI, 4100, .inl mqSize)), (MqAt, .inl (cI, 4100, .inl mqAt)), (MqAddress, .inl (cI, 4100, .inl mqAddress)), (MqMode, .inl (cI, 4100, .inl mqMode)), (Mnears, .inl (cJ, 8, .inr (.inl mnears))), (Msames, .inl (cJ, 1024, .inr (.inl msames))), (MsData, .inl (cB, 8000, .inl msData)), (MsCodes, .inl (cB, 30000, .inl msCodes)), (MsAddresses, .inl (cB, 30000, .inl msAddresses)), (MdKind, .inl (cI, 4000, .inl mdKind)), (MdSize, .inl (cI, 4000, .inl mdSize)), (MdAddress, .inl (cI, 4000, .inl mdAddress)), (MdMode, .inl (cI, 4000, .inl mdMode)), (MdCode, .inl (cI, 4000, .inl mdCode)), (MdWindow, .inl (cI, 4000, .inl mdWindow)), (MtableDelta, .inl (cB, 8000, .inl mtableDelta)), (Mtab, .inl (cB, 1536, .inl t7)), (Mfirst, .inl (cB, 1536, .inl mfirst)), (Mw, .inl (cB, 30000, .inl w5))] H := hP
        have hD : va_D A0 [(mm, .inr (9, fl 78 (va_up g5_l1 65 (.int (nI 1536))))), (Mown, .inl (cB, 1536, .inl mown)), (Mu, .inl (cB, 8000, .inl u7)), (MqKind, .inl (cI, 4100, .inl mqKind)), (MqSize, .inl (cI, 4100, .inl mqSize)), (MqAt, .inl (cI, 4100, .inl mqAt)), (MqAddress, .inl (cI, 4100, .inl mqAddress)), (MqMode, .inl (cI, 4100, .inl mqMode)), (Mnears, .inl (cJ, 8, .inr (.inl mnears))), (Msames, .inl (cJ, 1024, .inr (.inl msames))), (MsData, .inl (cB, 8000, .inl msData)), (MsCodes, .inl (cB, 30000, .inl msCodes)), (MsAddresses, .inl (cB, 30000, .inl msAddresses)), (MdKind, .inl (cI, 4000, .inl mdKind)), (MdSize, .inl (cI, 4000, .inl mdSize)), (MdAddress, .inl (cI, 4000, .inl mdAddress)), (MdMode, .inl (cI, 4000, .inl mdMode)), (MdCode, .inl (cI, 4000, .inl mdCode)), (MdWindow, .inl (cI, 4000, .inl mdWindow)), (MtableDelta, .inl (cB, 8000, .inl mtableDelta)), (Mtab, .inl (cB, 1536, .inl t7)), (Mfirst, .inl (cB, 1536, .inl mfirst)), (Mw, .inl (cB, 30000, .inl w5))] := hD
        refine lv_aload_n hx hb dX9_putTable_75 rfl (lv_at hl 0 rfl) ?_
        refine lv_sipush (v := 3072) hx hb dX9_putTable_76 (by decide) ?_
        refine ri (y := nI 3072) (rfl) ?_
        refine fx_put (D := D) (ci := 9) (v := .int (nI 3072)) (ty := .int) (C := RX9) (T := TX9) (N := 78) hx hb hts in_X9 tyX9 tyX9_ok nmX9 hown hK hP hD hS 0 rfl rfl 66 (by decide) (hts _ kX9_362) (fun _ h9 => h9) rfl (by decide +kernel) rfl rfl dX9_putTable_79 (fun H locs hP hD hS => ?_)
        have hP : va_P D vwCl [(mm, .inr (9, fl 78 (va_up (va_up g5_l1 65 (.int (nI 1536))) 66 (.int (nI 3072))))), (Mown, .inl (cB, 1536, .inl mown)), (Mu, .inl (cB, 8000, .inl u7)), (MqKind, .inl (cI, 4100, .inl mqKind)), (MqSize, .inl (cI, 4100, .inl mqSize)), (MqAt, .inl (cI, 4100, .inl mqAt)), (MqAddress, .inl (cI, 4100, .inl mqAddress)), (MqMode, .inl (cI, 4100, .inl mqMode)), (Mnears, .inl (cJ, 8, .inr (.inl mnears))), (Msames, .inl (cJ, 1024, .inr (.inl msames))), (MsData, .inl (cB, 8000, .inl msData)), (MsCodes, .inl (cB, 30000, .inl msCodes)), (MsAddresses, .inl (cB, 30000, .inl msAddresses)), (MdKind, .inl (cI, 4000, .inl mdKind)), (MdSize, .inl (cI, 4000, .inl mdSize)), (MdAddress, .inl (cI, 4000, .inl mdAddress)), (MdMode, .inl (cI, 4000, .inl mdMode)), (MdCode, .inl (cI, 4000, .inl mdCode)), (MdWindow, .inl (cI, 4000, .inl mdWindow)), (MtableDelta, .inl (cB, 8000, .inl mtableDelta)), (Mtab, .inl (cB, 1536, .inl t7)), (Mfirst, .inl (cB, 1536, .inl mfirst)), (Mw, .inl (cB, 30000, .inl w5))] H := hP
        have hD : va_D A0 [(mm, .inr (9, fl 78 (va_up (va_up g5_l1 65 (.int (nI 1536))) 66 (.int (nI 3072))))), (Mown, .inl (cB, 1536, .inl mown)), (Mu, .inl (cB, 8000, .inl u7)), (MqKind, .inl (cI, 4100, .inl mqKind)), (MqSize, .inl (cI, 4100, .inl mqSize)), (MqAt, .inl (cI, 4100, .inl mqAt)), (MqAddress, .inl (cI, 4100, .inl mqAddress)), (MqMode, .inl (cI, 4100, .inl mqMode)), (Mnears, .inl (cJ, 8, .inr (.inl mnears))), (Msames, .inl (cJ, 1024, .inr (.inl msames))), (MsData, .inl (cB, 8000, .inl msData)), (MsCodes, .inl (cB, 30000, .inl msCodes)), (MsAddresses, .inl (cB, 30000, .inl msAddresses)), (MdKind, .inl (cI, 4000, .inl mdKind)), (MdSize, .inl (cI, 4000, .inl mdSize)), (MdAddress, .inl (cI, 4000, .inl mdAddress)), (MdMode, .inl (cI, 4000, .inl mdMode)), (MdCode, .inl (cI, 4000, .inl mdCode)), (MdWindow, .inl (cI, 4000, .inl mdWindow)), (MtableDelta, .inl (cB, 8000, .inl mtableDelta)), (Mtab, .inl (cB, 1536, .inl t7)), (Mfirst, .inl (cB, 1536, .inl mfirst)), (Mw, .inl (cB, 30000, .inl w5))] := hD
        refine lv_aload_n hx hb dX9_putTable_82 rfl (lv_at hl 0 rfl) ?_
        refine lv_iconst (v := 1) hx hb dX9_putTable_83 (by decide) ?_
        refine ri (y := nI 1) (rfl) ?_
        refine jn_v (wr := [(Mown, .inl (cB, 1536, .inl mown)), (Mnears, .inl (cJ, 8, .inr (.inl mnears))), (Msames, .inl (cJ, 1024, .inr (.inl msames))), (MsData, .inl (cB, 8000, .inl msData)), (MsCodes, .inl (cB, 30000, .inl msCodes)), (MsAddresses, .inl (cB, 30000, .inl msAddresses)), (MdKind, .inl (cI, 4000, .inl mdKind)), (MdSize, .inl (cI, 4000, .inl mdSize)), (MdAddress, .inl (cI, 4000, .inl mdAddress)), (MdMode, .inl (cI, 4000, .inl mdMode)), (MdCode, .inl (cI, 4000, .inl mdCode)), (MdWindow, .inl (cI, 4000, .inl mdWindow)), (MtableDelta, .inl (cB, 8000, .inl mtableDelta)), (Mtab, .inl (cB, 1536, .inl t7)), (Mfirst, .inl (cB, 1536, .inl mfirst)), (Mw, .inl (cB, 30000, .inl w5))]) hA hP hD hS [0, 2, 3, 4, 5, 6, 7] [1, 8, 9, 10, 11, 12, 13, 14, 15, 16, 17, 18, 19, 20, 21, 22] rfl rfl (by decide) (by decide) (rn_V (As := [.int (nI 1)]) (rest := []) ⟨hx, hb, hml, hown, hts⟩ (cvV 1 hts zc_yX9_choose zi_X9 zm_yX9_choose zv_yX9_choose kX9_406 (by decide +kernel) rfl rfl ⟨Nat.le_of_ble_eq_true rfl, Nat.le_of_ble_eq_true rfl⟩) (m_choose l D cI cB cJ cR mm (va_up (va_up g5_l1 65 (.int (nI 1536))) 66 (.int (nI 3072))) Mu MqKind MqSize MqAt MqAddress MqMode u7 mqKind mqSize mqAt mqAddress mqMode 1536 3072 1 ub (rfl) (rfl) ((hf_l1 64 (by decide)).trans g_u) ((hf_l1 68 (by decide)).trans g_qKind) ((hf_l1 69 (by decide)).trans g_qSize) ((hf_l1 70 (by decide)).trans g_qAt) ((hf_l1 71 (by decide)).trans g_qAddress) ((hf_l1 72 (by decide)).trans g_qMode) (by decide) (by decide) (by decide) (by decide) (hub) (hu9) H.size) hK hNw hMk hA hP hD hS [0, 2, 3, 4, 5, 6, 7] rfl rfl (by decide) 0 rfl rfl rfl rfl hl.1 rfl (Nat.le_of_ble_eq_true rfl) dX9_putTable_84 ⟨Nat.le_of_ble_eq_true rfl, Nat.le_of_ble_eq_true rfl⟩) (fun u9 H locs hch hP hD hS => ?_)
        obtain ⟨g_6, L9, qKind8, qSize8, qAt8, qAddress8, qMode8⟩ := u9
        try dsimp only at hch
        have hP : va_P D vwCl [(Mown, .inl (cB, 1536, .inl mown)), (Mnears, .inl (cJ, 8, .inr (.inl mnears))), (Msames, .inl (cJ, 1024, .inr (.inl msames))), (MsData, .inl (cB, 8000, .inl msData)), (MsCodes, .inl (cB, 30000, .inl msCodes)), (MsAddresses, .inl (cB, 30000, .inl msAddresses)), (MdKind, .inl (cI, 4000, .inl mdKind)), (MdSize, .inl (cI, 4000, .inl mdSize)), (MdAddress, .inl (cI, 4000, .inl mdAddress)), (MdMode, .inl (cI, 4000, .inl mdMode)), (MdCode, .inl (cI, 4000, .inl mdCode)), (MdWindow, .inl (cI, 4000, .inl mdWindow)), (MtableDelta, .inl (cB, 8000, .inl mtableDelta)), (Mtab, .inl (cB, 1536, .inl t7)), (Mfirst, .inl (cB, 1536, .inl mfirst)), (Mw, .inl (cB, 30000, .inl w5)), (mm, .inr (9, fl 78 g_6)), (Mu, .inl (cB, 8000, .inl u7)), (MqKind, .inl (cI, 4100, .inl qKind8)), (MqSize, .inl (cI, 4100, .inl qSize8)), (MqAt, .inl (cI, 4100, .inl qAt8)), (MqAddress, .inl (cI, 4100, .inl qAddress8)), (MqMode, .inl (cI, 4100, .inl qMode8))] H := hP
        have hD : va_D A0 [(Mown, .inl (cB, 1536, .inl mown)), (Mnears, .inl (cJ, 8, .inr (.inl mnears))), (Msames, .inl (cJ, 1024, .inr (.inl msames))), (MsData, .inl (cB, 8000, .inl msData)), (MsCodes, .inl (cB, 30000, .inl msCodes)), (MsAddresses, .inl (cB, 30000, .inl msAddresses)), (MdKind, .inl (cI, 4000, .inl mdKind)), (MdSize, .inl (cI, 4000, .inl mdSize)), (MdAddress, .inl (cI, 4000, .inl mdAddress)), (MdMode, .inl (cI, 4000, .inl mdMode)), (MdCode, .inl (cI, 4000, .inl mdCode)), (MdWindow, .inl (cI, 4000, .inl mdWindow)), (MtableDelta, .inl (cB, 8000, .inl mtableDelta)), (Mtab, .inl (cB, 1536, .inl t7)), (Mfirst, .inl (cB, 1536, .inl mfirst)), (Mw, .inl (cB, 30000, .inl w5)), (mm, .inr (9, fl 78 g_6)), (Mu, .inl (cB, 8000, .inl u7)), (MqKind, .inl (cI, 4100, .inl qKind8)), (MqSize, .inl (cI, 4100, .inl qSize8)), (MqAt, .inl (cI, 4100, .inl qAt8)), (MqAddress, .inl (cI, 4100, .inl qAddress8)), (MqMode, .inl (cI, 4100, .inl qMode8))] := hD
        obtain ⟨f_hch, waits_hch, hch_⟩ := hch
        have k5_g_6 : g_6 5 = .int (nI near) := (f_hch 5 (by decide)).trans ((hf_l1 5 (by decide)).trans g_ownNear)
        have k6_g_6 : g_6 6 = .int (nI same) := (f_hch 6 (by decide)).trans ((hf_l1 6 (by decide)).trans g_ownSame)
        have k3_g_6 : g_6 3 = .ref Mfirst := (f_hch 3 (by decide)).trans ((hf_l1 3 (by decide)).trans g_first)
        have k4_g_6 : g_6 4 = .ref Mown := (f_hch 4 (by decide)).trans ((hf_l1 4 (by decide)).trans g_own)
        have k7_g_6 : g_6 7 = .ref Mtab := (f_hch 7 (by decide)).trans ((hf_l1 7 (by decide)).trans g_tab)
        have k64_g_6 : g_6 64 = .ref Mu := (f_hch 64 (by decide)).trans ((hf_l1 64 (by decide)).trans g_u)
        have k68_g_6 : g_6 68 = .ref MqKind := (f_hch 68 (by decide)).trans ((hf_l1 68 (by decide)).trans g_qKind)
        have k69_g_6 : g_6 69 = .ref MqSize := (f_hch 69 (by decide)).trans ((hf_l1 69 (by decide)).trans g_qSize)
        have k70_g_6 : g_6 70 = .ref MqAt := (f_hch 70 (by decide)).trans ((hf_l1 70 (by decide)).trans g_qAt)
        have k71_g_6 : g_6 71 = .ref MqAddress := (f_hch 71 (by decide)).trans ((hf_l1 71 (by decide)).trans g_qAddress)
        have k72_g_6 : g_6 72 = .ref MqMode := (f_hch 72 (by decide)).trans ((hf_l1 72 (by decide)).trans g_qMode)
        have k10_g_6 : g_6 10 = .ref Mnears := (f_hch 10 (by decide)).trans ((hf_l1 10 (by decide)).trans g_nears)
        have k12_g_6 : g_6 12 = .ref Msames := (f_hch 12 (by decide)).trans ((hf_l1 12 (by decide)).trans g_sames)
        have k58_g_6 : g_6 58 = .ref MsData := (f_hch 58 (by decide)).trans ((hf_l1 58 (by decide)).trans g_sData)
        have k60_g_6 : g_6 60 = .ref MsCodes := (f_hch 60 (by decide)).trans ((hf_l1 60 (by decide)).trans g_sCodes)
        have k62_g_6 : g_6 62 = .ref MsAddresses := (f_hch 62 (by decide)).trans ((hf_l1 62 (by decide)).trans g_sAddresses)
        have k21_g_6 : g_6 21 = .ref MdKind := (f_hch 21 (by decide)).trans ((hf_l1 21 (by decide)).trans g_dKind)
        have k22_g_6 : g_6 22 = .ref MdSize := (f_hch 22 (by decide)).trans ((hf_l1 22 (by decide)).trans g_dSize)
        have k23_g_6 : g_6 23 = .ref MdAddress := (f_hch 23 (by decide)).trans ((hf_l1 23 (by decide)).trans g_dAddress)
        have k24_g_6 : g_6 24 = .ref MdMode := (f_hch 24 (by decide)).trans ((hf_l1 24 (by decide)).trans g_dMode)
        have k25_g_6 : g_6 25 = .ref MdCode := (f_hch 25 (by decide)).trans ((hf_l1 25 (by decide)).trans g_dCode)
        have k26_g_6 : g_6 26 = .ref MdWindow := (f_hch 26 (by decide)).trans ((hf_l1 26 (by decide)).trans g_dWindow)
        have k56_g_6 : g_6 56 = .ref Mw := (f_hch 56 (by decide)).trans ((hf_l1 56 (by decide)).trans g_w)
        have k74_g_6 : g_6 74 = .ref MtableDelta := (f_hch 74 (by decide)).trans ((hf_l1 74 (by decide)).trans g_tableDelta)
        have k57_g_6 : g_6 57 = .int (nI (OL ++ [214, 195, 196, 0, 0]).length) := (f_hch 57 (by decide)).trans (k_wrote_l1)
        have k8_g_6 : g_6 8 = .int (nI 4) := (f_hch 8 (by decide)).trans (k_near_l1)
        have k9_g_6 : g_6 9 = .int (nI 3) := (f_hch 9 (by decide)).trans (k_same_l1)
        have k39_g_6 : g_6 39 = .int (bI false) := (f_hch 39 (by decide)).trans (k_counts_l1)
        have k20_g_6 : g_6 20 = .int (nI dr) := (f_hch 20 (by decide)).trans (k_drafts_l1)
        have k65_g_6 : g_6 65 = .int (nI 1536) := (f_hch 65 (by decide)).trans (rfl)
        have k66_g_6 : g_6 66 = .int (nI 3072) := (f_hch 66 (by decide)).trans (rfl)
        have fr_g_6 : frm [57, 8, 9, 39, 20, 65, 66, 67, 73, 59, 61, 63, 11] g g_6 := frm_tr (frm_up (frm_up hf_l1 (by decide)) (by decide)) f_hch (by decide)
        obtain ⟨hL9, hq9⟩ := hch_
        refine lv_aload_n hx hb dX9_putTable_87 rfl (lv_at hl 0 rfl) ?_
        refine lv_iconst (v := 0) hx hb dX9_putTable_88 (by decide) ?_
        refine ri (y := nI 0) (nI_0.symm) ?_
        refine jn_i (wr := [(Mown, .inl (cB, 1536, .inl mown)), (MtableDelta, .inl (cB, 8000, .inl mtableDelta)), (Mfirst, .inl (cB, 1536, .inl mfirst)), (Mw, .inl (cB, 30000, .inl w5))]) hA hP hD hS [16, 13, 1, 2, 17, 18, 19, 20, 21, 22, 3, 4, 5, 6, 7, 8, 9, 10, 11] [0, 12, 14, 15] rfl rfl (by decide) (by decide) (rn_V (As := [.int (nI 0)]) (rest := []) ⟨hx, hb, hml, hown, hts⟩ (cvV 1 hts zc_yX9_encode zi_X9 zm_yX9_encode zv_yX9_encode kX9_409 (by decide +kernel) rfl rfl ⟨Nat.le_of_ble_eq_true rfl, Nat.le_of_ble_eq_true rfl⟩) (m_encode l D cI cB cJ cR mm g_6 Mtab Mnears Msames Mu MqKind MqSize MqAt MqAddress MqMode MsData MsCodes MsAddresses MdKind MdSize MdAddress MdMode MdCode MdWindow t7 mnears msames u7 qKind8 qSize8 qAt8 qAddress8 qMode8 msData msCodes msAddresses mdKind mdSize mdAddress mdMode mdCode mdWindow 4 3 1536 3072 dr 0 0 L9 false ub firstT g00 (k8_g_6) (k9_g_6) (waits_hch) (k39_g_6) (k20_g_6) (k7_g_6) (k10_g_6) (k12_g_6) (k64_g_6) (k68_g_6) (k69_g_6) (k70_g_6) (k71_g_6) (k72_g_6) (k58_g_6) (k60_g_6) (k62_g_6) (k21_g_6) (k22_g_6) (k23_g_6) (k24_g_6) (k25_g_6) (k26_g_6) (by decide) (by decide) (by decide) (by decide) (by decide) (by rw [hL9]; exact htl9) (by rw [hL9]; exact insW_a0) (hq9) (hus_) (first_right) (hub) (hu9) (by decide) (fun z => absurd z (by decide)) (by decide) (hdr) H.size) hK hNw hMk hA hP hD hS [16, 13, 1, 2, 17, 18, 19, 20, 21, 22, 3, 4, 5, 6, 7, 8, 9, 10, 11] rfl rfl (by decide) 0 rfl rfl rfl rfl hl.1 rfl (Nat.le_of_ble_eq_true rfl) dX9_putTable_89 ⟨Nat.le_of_ble_eq_true rfl, Nat.le_of_ble_eq_true rfl⟩) (fun rb8 u9 H locs hen hP hD hS => ?_)
        obtain ⟨g_8, dr8, sd8, sc8, sa8, nv8, fn8, fs8, m8_, da8, co8, ad8, dKind8, dSize8, dAddress8, dMode8, dCode8, dWindow8⟩ := u9
        obtain ⟨rb8b, rfl, hen⟩ := hen
        try dsimp only at hen
        have hP : va_P D vwCl [(Mown, .inl (cB, 1536, .inl mown)), (MtableDelta, .inl (cB, 8000, .inl mtableDelta)), (Mfirst, .inl (cB, 1536, .inl mfirst)), (Mw, .inl (cB, 30000, .inl w5)), (mm, .inr (9, fl 78 g_8)), (Mtab, .inl (cB, 1536, .inl t7)), (Mnears, .inl (cJ, 8, .inr (.inl fn8))), (Msames, .inl (cJ, 1024, .inr (.inl fs8))), (Mu, .inl (cB, 8000, .inl u7)), (MqKind, .inl (cI, 4100, .inl qKind8)), (MqSize, .inl (cI, 4100, .inl qSize8)), (MqAt, .inl (cI, 4100, .inl qAt8)), (MqAddress, .inl (cI, 4100, .inl qAddress8)), (MqMode, .inl (cI, 4100, .inl m8_)), (MsData, .inl (cB, 8000, .inl da8)), (MsCodes, .inl (cB, 30000, .inl co8)), (MsAddresses, .inl (cB, 30000, .inl ad8)), (MdKind, .inl (cI, 4000, .inl dKind8)), (MdSize, .inl (cI, 4000, .inl dSize8)), (MdAddress, .inl (cI, 4000, .inl dAddress8)), (MdMode, .inl (cI, 4000, .inl dMode8)), (MdCode, .inl (cI, 4000, .inl dCode8)), (MdWindow, .inl (cI, 4000, .inl dWindow8))] H := hP
        have hD : va_D A0 [(Mown, .inl (cB, 1536, .inl mown)), (MtableDelta, .inl (cB, 8000, .inl mtableDelta)), (Mfirst, .inl (cB, 1536, .inl mfirst)), (Mw, .inl (cB, 30000, .inl w5)), (mm, .inr (9, fl 78 g_8)), (Mtab, .inl (cB, 1536, .inl t7)), (Mnears, .inl (cJ, 8, .inr (.inl fn8))), (Msames, .inl (cJ, 1024, .inr (.inl fs8))), (Mu, .inl (cB, 8000, .inl u7)), (MqKind, .inl (cI, 4100, .inl qKind8)), (MqSize, .inl (cI, 4100, .inl qSize8)), (MqAt, .inl (cI, 4100, .inl qAt8)), (MqAddress, .inl (cI, 4100, .inl qAddress8)), (MqMode, .inl (cI, 4100, .inl m8_)), (MsData, .inl (cB, 8000, .inl da8)), (MsCodes, .inl (cB, 30000, .inl co8)), (MsAddresses, .inl (cB, 30000, .inl ad8)), (MdKind, .inl (cI, 4000, .inl dKind8)), (MdSize, .inl (cI, 4000, .inl dSize8)), (MdAddress, .inl (cI, 4000, .inl dAddress8)), (MdMode, .inl (cI, 4000, .inl dMode8)), (MdCode, .inl (cI, 4000, .inl dCode8)), (MdWindow, .inl (cI, 4000, .inl dWindow8))] := hD
        obtain ⟨f_hen, drafts_hen, sDatas_hen, sCode_hen, sAddress_hen, nextNear_hen, hen_⟩ := hen
        have k5_g_8 : g_8 5 = .int (nI near) := (f_hen 5 (by decide)).trans (k5_g_6)
        have k6_g_8 : g_8 6 = .int (nI same) := (f_hen 6 (by decide)).trans (k6_g_6)
        have k3_g_8 : g_8 3 = .ref Mfirst := (f_hen 3 (by decide)).trans (k3_g_6)
        have k4_g_8 : g_8 4 = .ref Mown := (f_hen 4 (by decide)).trans (k4_g_6)
        have k7_g_8 : g_8 7 = .ref Mtab := (f_hen 7 (by decide)).trans (k7_g_6)
        have k64_g_8 : g_8 64 = .ref Mu := (f_hen 64 (by decide)).trans (k64_g_6)
        have k68_g_8 : g_8 68 = .ref MqKind := (f_hen 68 (by decide)).trans (k68_g_6)
        have k69_g_8 : g_8 69 = .ref MqSize := (f_hen 69 (by decide)).trans (k69_g_6)
        have k70_g_8 : g_8 70 = .ref MqAt := (f_hen 70 (by decide)).trans (k70_g_6)
        have k71_g_8 : g_8 71 = .ref MqAddress := (f_hen 71 (by decide)).trans (k71_g_6)
        have k72_g_8 : g_8 72 = .ref MqMode := (f_hen 72 (by decide)).trans (k72_g_6)
        have k10_g_8 : g_8 10 = .ref Mnears := (f_hen 10 (by decide)).trans (k10_g_6)
        have k12_g_8 : g_8 12 = .ref Msames := (f_hen 12 (by decide)).trans (k12_g_6)
        have k58_g_8 : g_8 58 = .ref MsData := (f_hen 58 (by decide)).trans (k58_g_6)
        have k60_g_8 : g_8 60 = .ref MsCodes := (f_hen 60 (by decide)).trans (k60_g_6)
        have k62_g_8 : g_8 62 = .ref MsAddresses := (f_hen 62 (by decide)).trans (k62_g_6)
        have k21_g_8 : g_8 21 = .ref MdKind := (f_hen 21 (by decide)).trans (k21_g_6)
        have k22_g_8 : g_8 22 = .ref MdSize := (f_hen 22 (by decide)).trans (k22_g_6)
        have k23_g_8 : g_8 23 = .ref MdAddress := (f_hen 23 (by decide)).trans (k23_g_6)
        have k24_g_8 : g_8 24 = .ref MdMode := (f_hen 24 (by decide)).trans (k24_g_6)
        have k25_g_8 : g_8 25 = .ref MdCode := (f_hen 25 (by decide)).trans (k25_g_6)
        have k26_g_8 : g_8 26 = .ref MdWindow := (f_hen 26 (by decide)).trans (k26_g_6)
        have k56_g_8 : g_8 56 = .ref Mw := (f_hen 56 (by decide)).trans (k56_g_6)
        have k74_g_8 : g_8 74 = .ref MtableDelta := (f_hen 74 (by decide)).trans (k74_g_6)
        have k57_g_8 : g_8 57 = .int (nI (OL ++ [214, 195, 196, 0, 0]).length) := (f_hen 57 (by decide)).trans (k57_g_6)
        have k8_g_8 : g_8 8 = .int (nI 4) := (f_hen 8 (by decide)).trans (k8_g_6)
        have k9_g_8 : g_8 9 = .int (nI 3) := (f_hen 9 (by decide)).trans (k9_g_6)
        have k39_g_8 : g_8 39 = .int (bI false) := (f_hen 39 (by decide)).trans (k39_g_6)
        have k65_g_8 : g_8 65 = .int (nI 1536) := (f_hen 65 (by decide)).trans (k65_g_6)
        have k66_g_8 : g_8 66 = .int (nI 3072) := (f_hen 66 (by decide)).trans (k66_g_6)
        have k67_g_8 : g_8 67 = .int (nI L9.length) := (f_hen 67 (by decide)).trans (waits_hch)
        have fr_g_8 : frm [57, 8, 9, 39, 20, 65, 66, 67, 73, 59, 61, 63, 11] g g_8 := frm_tr fr_g_6 f_hen (by decide)
        rw [hL9, ← hW9] at hen_
        obtain ⟨en1, en2, en3⟩ := hen_
        obtain ⟨v1, v2, v3, v4, v5, v6, -⟩ := en2 hcd9
        have v7 := en3 rfl
        have kx_9 : g_8 59 = .int (nI W9.1.length) := by have h9 : g_8 59 = .int sd8 := sDatas_hen; rw [h9]; exact congrArg Value.int (v1)
        have kx_10 : g_8 61 = .int (nI (cdW firstT W9.2.2.2.2.2).2.1.length) := by have h9 : g_8 61 = .int sc8 := sCode_hen; rw [h9]; exact congrArg Value.int (v2)
        have kx_11 : g_8 63 = .int (nI W9.2.1.length) := by have h9 : g_8 63 = .int sa8 := sAddress_hen; rw [h9]; exact congrArg Value.int (v3)
        have kx_12 : g_8 20 = .int (nI dr) := by have h9 : g_8 20 = .int (nI dr8) := drafts_hen; rw [h9]; exact congrArg Value.int (by rw [v7])
        refine lv_istore_n (lv' := [(2, .int (bI rb8b)), (0, .ref mm), (1, .int (nI OL.length))]) hx hb dX9_putTable_92 rfl hl (by decide) rfl (fun ls hl => ?_)
        refine lv_aload_n hx hb dX9_putTable_93 rfl (lv_at hl 1 rfl) ?_
        refine lv_iconst (v := 1) hx hb dX9_putTable_94 (by decide) ?_
        refine ri (y := nI 1) (rfl) ?_
        refine jn_v (wr := [(Mown, .inl (cB, 1536, .inl mown)), (MtableDelta, .inl (cB, 8000, .inl mtableDelta)), (Mfirst, .inl (cB, 1536, .inl mfirst)), (Mtab, .inl (cB, 1536, .inl t7)), (Mnears, .inl (cJ, 8, .inr (.inl fn8))), (Msames, .inl (cJ, 1024, .inr (.inl fs8))), (Mu, .inl (cB, 8000, .inl u7)), (MqKind, .inl (cI, 4100, .inl qKind8)), (MqSize, .inl (cI, 4100, .inl qSize8)), (MqAt, .inl (cI, 4100, .inl qAt8)), (MqAddress, .inl (cI, 4100, .inl qAddress8)), (MqMode, .inl (cI, 4100, .inl m8_)), (MdKind, .inl (cI, 4000, .inl dKind8)), (MdSize, .inl (cI, 4000, .inl dSize8)), (MdAddress, .inl (cI, 4000, .inl dAddress8)), (MdMode, .inl (cI, 4000, .inl dMode8)), (MdCode, .inl (cI, 4000, .inl dCode8)), (MdWindow, .inl (cI, 4000, .inl dWindow8))]) hA hP hD hS [4, 3, 14, 15, 16] [0, 1, 2, 5, 6, 7, 8, 9, 10, 11, 12, 13, 17, 18, 19, 20, 21, 22] rfl rfl (by decide) (by decide) (rn_V (As := [.int (nI 1)]) (rest := []) ⟨hx, hb, hml, hown, hts⟩ (cvV 1 hts zc_yX9_putWindow zi_X9 zm_yX9_putWindow zv_yX9_putWindow kX9_413 (by decide +kernel) rfl rfl ⟨Nat.le_of_ble_eq_true rfl, Nat.le_of_ble_eq_true rfl⟩) (m_putWindow l D cI cB cJ cR mm g_8 Mw MsData MsCodes MsAddresses w5 da8 co8 ad8 1536 3072 1 W9.1 (cdW firstT W9.2.2.2.2.2).2.1 W9.2.1 (OL ++ [214, 195, 196, 0, 0]) (k65_g_8) (k66_g_8) (kx_9) (kx_10) (kx_11) (k57_g_8) (k56_g_8) (k58_g_8) (k60_g_8) (k62_g_8) (by decide) (by decide) (by simp; omega) (hhd_) (v4) (v5) (v6) (by omega) (by omega) (by omega) H.size) hK hNw hMk hA hP hD hS [4, 3, 14, 15, 16] rfl rfl (by decide) 0 rfl rfl rfl rfl hl.1 rfl (Nat.le_of_ble_eq_true rfl) dX9_putTable_95 ⟨Nat.le_of_ble_eq_true rfl, Nat.le_of_ble_eq_true rfl⟩) (fun u9 H locs hpw hP hD hS => ?_)
        obtain ⟨g_13, w8⟩ := u9
        try dsimp only at hpw
        have hP : va_P D vwCl [(Mown, .inl (cB, 1536, .inl mown)), (MtableDelta, .inl (cB, 8000, .inl mtableDelta)), (Mfirst, .inl (cB, 1536, .inl mfirst)), (Mtab, .inl (cB, 1536, .inl t7)), (Mnears, .inl (cJ, 8, .inr (.inl fn8))), (Msames, .inl (cJ, 1024, .inr (.inl fs8))), (Mu, .inl (cB, 8000, .inl u7)), (MqKind, .inl (cI, 4100, .inl qKind8)), (MqSize, .inl (cI, 4100, .inl qSize8)), (MqAt, .inl (cI, 4100, .inl qAt8)), (MqAddress, .inl (cI, 4100, .inl qAddress8)), (MqMode, .inl (cI, 4100, .inl m8_)), (MdKind, .inl (cI, 4000, .inl dKind8)), (MdSize, .inl (cI, 4000, .inl dSize8)), (MdAddress, .inl (cI, 4000, .inl dAddress8)), (MdMode, .inl (cI, 4000, .inl dMode8)), (MdCode, .inl (cI, 4000, .inl dCode8)), (MdWindow, .inl (cI, 4000, .inl dWindow8)), (mm, .inr (9, fl 78 g_13)), (Mw, .inl (cB, 30000, .inl w8)), (MsData, .inl (cB, 8000, .inl da8)), (MsCodes, .inl (cB, 30000, .inl co8)), (MsAddresses, .inl (cB, 30000, .inl ad8))] H := hP
        have hD : va_D A0 [(Mown, .inl (cB, 1536, .inl mown)), (MtableDelta, .inl (cB, 8000, .inl mtableDelta)), (Mfirst, .inl (cB, 1536, .inl mfirst)), (Mtab, .inl (cB, 1536, .inl t7)), (Mnears, .inl (cJ, 8, .inr (.inl fn8))), (Msames, .inl (cJ, 1024, .inr (.inl fs8))), (Mu, .inl (cB, 8000, .inl u7)), (MqKind, .inl (cI, 4100, .inl qKind8)), (MqSize, .inl (cI, 4100, .inl qSize8)), (MqAt, .inl (cI, 4100, .inl qAt8)), (MqAddress, .inl (cI, 4100, .inl qAddress8)), (MqMode, .inl (cI, 4100, .inl m8_)), (MdKind, .inl (cI, 4000, .inl dKind8)), (MdSize, .inl (cI, 4000, .inl dSize8)), (MdAddress, .inl (cI, 4000, .inl dAddress8)), (MdMode, .inl (cI, 4000, .inl dMode8)), (MdCode, .inl (cI, 4000, .inl dCode8)), (MdWindow, .inl (cI, 4000, .inl dWindow8)), (mm, .inr (9, fl 78 g_13)), (Mw, .inl (cB, 30000, .inl w8)), (MsData, .inl (cB, 8000, .inl da8)), (MsCodes, .inl (cB, 30000, .inl co8)), (MsAddresses, .inl (cB, 30000, .inl ad8))] := hD
        obtain ⟨f_hpw, wrote_hpw, hpw_⟩ := hpw
        have k5_g_13 : g_13 5 = .int (nI near) := (f_hpw 5 (by decide)).trans (k5_g_8)
        have k6_g_13 : g_13 6 = .int (nI same) := (f_hpw 6 (by decide)).trans (k6_g_8)
        have k3_g_13 : g_13 3 = .ref Mfirst := (f_hpw 3 (by decide)).trans (k3_g_8)
        have k4_g_13 : g_13 4 = .ref Mown := (f_hpw 4 (by decide)).trans (k4_g_8)
        have k7_g_13 : g_13 7 = .ref Mtab := (f_hpw 7 (by decide)).trans (k7_g_8)
        have k64_g_13 : g_13 64 = .ref Mu := (f_hpw 64 (by decide)).trans (k64_g_8)
        have k68_g_13 : g_13 68 = .ref MqKind := (f_hpw 68 (by decide)).trans (k68_g_8)
        have k69_g_13 : g_13 69 = .ref MqSize := (f_hpw 69 (by decide)).trans (k69_g_8)
        have k70_g_13 : g_13 70 = .ref MqAt := (f_hpw 70 (by decide)).trans (k70_g_8)
        have k71_g_13 : g_13 71 = .ref MqAddress := (f_hpw 71 (by decide)).trans (k71_g_8)
        have k72_g_13 : g_13 72 = .ref MqMode := (f_hpw 72 (by decide)).trans (k72_g_8)
        have k10_g_13 : g_13 10 = .ref Mnears := (f_hpw 10 (by decide)).trans (k10_g_8)
        have k12_g_13 : g_13 12 = .ref Msames := (f_hpw 12 (by decide)).trans (k12_g_8)
        have k58_g_13 : g_13 58 = .ref MsData := (f_hpw 58 (by decide)).trans (k58_g_8)
        have k60_g_13 : g_13 60 = .ref MsCodes := (f_hpw 60 (by decide)).trans (k60_g_8)
        have k62_g_13 : g_13 62 = .ref MsAddresses := (f_hpw 62 (by decide)).trans (k62_g_8)
        have k21_g_13 : g_13 21 = .ref MdKind := (f_hpw 21 (by decide)).trans (k21_g_8)
        have k22_g_13 : g_13 22 = .ref MdSize := (f_hpw 22 (by decide)).trans (k22_g_8)
        have k23_g_13 : g_13 23 = .ref MdAddress := (f_hpw 23 (by decide)).trans (k23_g_8)
        have k24_g_13 : g_13 24 = .ref MdMode := (f_hpw 24 (by decide)).trans (k24_g_8)
        have k25_g_13 : g_13 25 = .ref MdCode := (f_hpw 25 (by decide)).trans (k25_g_8)
        have k26_g_13 : g_13 26 = .ref MdWindow := (f_hpw 26 (by decide)).trans (k26_g_8)
        have k56_g_13 : g_13 56 = .ref Mw := (f_hpw 56 (by decide)).trans (k56_g_8)
        have k74_g_13 : g_13 74 = .ref MtableDelta := (f_hpw 74 (by decide)).trans (k74_g_8)
        have k8_g_13 : g_13 8 = .int (nI 4) := (f_hpw 8 (by decide)).trans (k8_g_8)
        have k9_g_13 : g_13 9 = .int (nI 3) := (f_hpw 9 (by decide)).trans (k9_g_8)
        have k39_g_13 : g_13 39 = .int (bI false) := (f_hpw 39 (by decide)).trans (k39_g_8)
        have k65_g_13 : g_13 65 = .int (nI 1536) := (f_hpw 65 (by decide)).trans (k65_g_8)
        have k66_g_13 : g_13 66 = .int (nI 3072) := (f_hpw 66 (by decide)).trans (k66_g_8)
        have k67_g_13 : g_13 67 = .int (nI L9.length) := (f_hpw 67 (by decide)).trans (k67_g_8)
        have k20_g_13 : g_13 20 = .int (nI dr) := (f_hpw 20 (by decide)).trans (kx_12)
        have k59_g_13 : g_13 59 = .int (nI W9.1.length) := (f_hpw 59 (by decide)).trans (kx_9)
        have k61_g_13 : g_13 61 = .int (nI (cdW firstT W9.2.2.2.2.2).2.1.length) := (f_hpw 61 (by decide)).trans (kx_10)
        have k63_g_13 : g_13 63 = .int (nI W9.2.1.length) := (f_hpw 63 (by decide)).trans (kx_11)
        have k11_g_13 : g_13 11 = .int nv8 := (f_hpw 11 (by decide)).trans (nextNear_hen)
        have fr_g_13 : frm [57, 8, 9, 39, 20, 65, 66, 67, 73, 59, 61, 63, 11] g g_13 := frm_tr fr_g_8 f_hpw (by decide)
        have hOQ : (OL ++ [214, 195, 196, 0, 0]) ++ clL 1 1536 (3072 - 1536) W9.1 (cdW firstT W9.2.2.2.2.2).2.1 W9.2.1 = OL ++ QL := by rw [hQe]; simp only [List.append_assoc]
        rw [hOQ] at hpw_
        have kx_15 : g_13 57 = .int (nI (OL ++ QL).length) := by have h9 : g_13 57 = .int (nI ((OL ++ [214, 195, 196, 0, 0]) ++ clL 1 1536 (3072 - 1536) W9.1 (cdW firstT W9.2.2.2.2.2).2.1 W9.2.1).length) := wrote_hpw; rw [h9]; exact congrArg Value.int (by rw [hOQ])
        refine lv_aload_n hx hb dX9_putTable_98 rfl (lv_at hl 1 rfl) ?_
        refine lv_iconst (v := 1) hx hb dX9_putTable_99 (by decide) ?_
        refine ri (y := bI true) (rfl) ?_
        refine fx_put (D := D) (ci := 9) (v := .int (bI true)) (ty := .boolean) (C := RX9) (T := TX9) (N := 78) hx hb hts in_X9 tyX9 tyX9_ok nmX9 hown hK hP hD hS 18 rfl rfl 39 (by decide) (hts _ kX9_224) (fun _ h9 => h9) rfl (by decide +kernel) (by cases true <;> rfl) rfl dX9_putTable_100 (fun H locs hP hD hS => ?_)
        have hP : va_P D vwCl [(Mown, .inl (cB, 1536, .inl mown)), (MtableDelta, .inl (cB, 8000, .inl mtableDelta)), (Mfirst, .inl (cB, 1536, .inl mfirst)), (Mtab, .inl (cB, 1536, .inl t7)), (Mnears, .inl (cJ, 8, .inr (.inl fn8))), (Msames, .inl (cJ, 1024, .inr (.inl fs8))), (Mu, .inl (cB, 8000, .inl u7)), (MqKind, .inl (cI, 4100, .inl qKind8)), (MqSize, .inl (cI, 4100, .inl qSize8)), (MqAt, .inl (cI, 4100, .inl qAt8)), (MqAddress, .inl (cI, 4100, .inl qAddress8)), (MqMode, .inl (cI, 4100, .inl m8_)), (MdKind, .inl (cI, 4000, .inl dKind8)), (MdSize, .inl (cI, 4000, .inl dSize8)), (MdAddress, .inl (cI, 4000, .inl dAddress8)), (MdMode, .inl (cI, 4000, .inl dMode8)), (MdCode, .inl (cI, 4000, .inl dCode8)), (MdWindow, .inl (cI, 4000, .inl dWindow8)), (mm, .inr (9, fl 78 (va_up g_13 39 (.int (bI true))))), (Mw, .inl (cB, 30000, .inl w8)), (MsData, .inl (cB, 8000, .inl da8)), (MsCodes, .inl (cB, 30000, .inl co8)), (MsAddresses, .inl (cB, 30000, .inl ad8))] H := hP
        have hD : va_D A0 [(Mown, .inl (cB, 1536, .inl mown)), (MtableDelta, .inl (cB, 8000, .inl mtableDelta)), (Mfirst, .inl (cB, 1536, .inl mfirst)), (Mtab, .inl (cB, 1536, .inl t7)), (Mnears, .inl (cJ, 8, .inr (.inl fn8))), (Msames, .inl (cJ, 1024, .inr (.inl fs8))), (Mu, .inl (cB, 8000, .inl u7)), (MqKind, .inl (cI, 4100, .inl qKind8)), (MqSize, .inl (cI, 4100, .inl qSize8)), (MqAt, .inl (cI, 4100, .inl qAt8)), (MqAddress, .inl (cI, 4100, .inl qAddress8)), (MqMode, .inl (cI, 4100, .inl m8_)), (MdKind, .inl (cI, 4000, .inl dKind8)), (MdSize, .inl (cI, 4000, .inl dSize8)), (MdAddress, .inl (cI, 4000, .inl dAddress8)), (MdMode, .inl (cI, 4000, .inl dMode8)), (MdCode, .inl (cI, 4000, .inl dCode8)), (MdWindow, .inl (cI, 4000, .inl dWindow8)), (mm, .inr (9, fl 78 (va_up g_13 39 (.int (bI true))))), (Mw, .inl (cB, 30000, .inl w8)), (MsData, .inl (cB, 8000, .inl da8)), (MsCodes, .inl (cB, 30000, .inl co8)), (MsAddresses, .inl (cB, 30000, .inl ad8))] := hD
        refine lv_aload_n hx hb dX9_putTable_103 rfl (lv_at hl 1 rfl) ?_
        refine fx_get (D := D) (ci := 9) (v := .int (nI (OL ++ QL).length)) (C := RX9) (T := TX9) (N := 78) hx hb hts in_X9 hown hK hP 18 rfl rfl 57 (by decide) (hts _ kX9_346) (fun _ h9 => h9) (kx_15) dX9_putTable_104 ?_
        refine lv_iload_n hx hb dX9_putTable_107 rfl (lv_at hl 2 rfl) ?_
        refine lv_isub hx hb dX9_putTable_108 ?_
        refine ri (y := nI QL.length) (by rw [List.length_append, pk_sub (by omega), show OL.length + QL.length - OL.length = QL.length by omega]) ?_
        refine lv_istore_n (lv' := [(3, .int (nI QL.length)), (2, .int (bI rb8b)), (0, .ref mm), (1, .int (nI OL.length))]) hx hb dX9_putTable_109 rfl hl (by decide) rfl (fun ls hl => ?_)
        refine lv_iconst (v := 0) hx hb dX9_putTable_110 (by decide) ?_
        refine ri (y := nI 0) (nI_0.symm) ?_
        refine lv_istore (lv' := [(4, .int (nI 0)), (3, .int (nI QL.length)), (2, .int (bI rb8b)), (0, .ref mm), (1, .int (nI OL.length))]) hx hb dX9_putTable_111 hl (by decide) rfl (fun ls hl => ?_)
        have l2 : ∀ (k9 : Nat) (g5_l2 : Nat → Value) (i : Nat) (td7 : Nat → Int32) (H : Heap) (locs : List Loc) (ls : Array Slot), QL.length - i < k9 → (frm [57, 8, 9, 39, 20, 65, 66, 67, 73, 59, 61, 63, 11] g g5_l2) → (g5_l2 39 = .int (bI true)) → (g5_l2 20 = .int (nI dr)) → (i ≤ QL.length) → (∀ j, j < i → td7 j = (QL.getD j 0).toInt8.toInt32) → va_P D vwCl [(mm, .inr (9, fl 78 g5_l2)), (Mown, .inl (cB, 1536, .inl mown)), (MtableDelta, .inl (cB, 8000, .inl td7)), (Mfirst, .inl (cB, 1536, .inl mfirst)), (Mtab, .inl (cB, 1536, .inl t7)), (Mnears, .inl (cJ, 8, .inr (.inl fn8))), (Msames, .inl (cJ, 1024, .inr (.inl fs8))), (Mu, .inl (cB, 8000, .inl u7)), (MqKind, .inl (cI, 4100, .inl qKind8)), (MqSize, .inl (cI, 4100, .inl qSize8)), (MqAt, .inl (cI, 4100, .inl qAt8)), (MqAddress, .inl (cI, 4100, .inl qAddress8)), (MqMode, .inl (cI, 4100, .inl m8_)), (MdKind, .inl (cI, 4000, .inl dKind8)), (MdSize, .inl (cI, 4000, .inl dSize8)), (MdAddress, .inl (cI, 4000, .inl dAddress8)), (MdMode, .inl (cI, 4000, .inl dMode8)), (MdCode, .inl (cI, 4000, .inl dCode8)), (MdWindow, .inl (cI, 4000, .inl dWindow8)), (Mw, .inl (cB, 30000, .inl w8)), (MsData, .inl (cB, 8000, .inl da8)), (MsCodes, .inl (cB, 30000, .inl co8)), (MsAddresses, .inl (cB, 30000, .inl ad8))] H → va_D A0 [(mm, .inr (9, fl 78 g5_l2)), (Mown, .inl (cB, 1536, .inl mown)), (MtableDelta, .inl (cB, 8000, .inl td7)), (Mfirst, .inl (cB, 1536, .inl mfirst)), (Mtab, .inl (cB, 1536, .inl t7)), (Mnears, .inl (cJ, 8, .inr (.inl fn8))), (Msames, .inl (cJ, 1024, .inr (.inl fs8))), (Mu, .inl (cB, 8000, .inl u7)), (MqKind, .inl (cI, 4100, .inl qKind8)), (MqSize, .inl (cI, 4100, .inl qSize8)), (MqAt, .inl (cI, 4100, .inl qAt8)), (MqAddress, .inl (cI, 4100, .inl qAddress8)), (MqMode, .inl (cI, 4100, .inl m8_)), (MdKind, .inl (cI, 4000, .inl dKind8)), (MdSize, .inl (cI, 4000, .inl dSize8)), (MdAddress, .inl (cI, 4000, .inl dAddress8)), (MdMode, .inl (cI, 4000, .inl dMode8)), (MdCode, .inl (cI, 4000, .inl dCode8)), (MdWindow, .inl (cI, 4000, .inl dWindow8)), (Mw, .inl (cB, 30000, .inl w8)), (MsData, .inl (cB, 8000, .inl da8)), (MsCodes, .inl (cB, 30000, .inl co8)), (MsAddresses, .inl (cB, 30000, .inl ad8))] → va_S A0 s0.heap H locs → lv_has ls 5 [(0, .ref mm), (1, .int (nI OL.length)), (3, .int (nI QL.length)), (4, .int (nI i))] → W p0 l e0 ({ frames := 4, cells := 0, slots := 0, locals := 99 }) s0 m0 ([.ref mm] : List Value).toArray below meth c0 H locs 0 0 Q0 (F0 m0 113 ls []) := by
          intro k9
          induction k9 with
          | zero => intro g5_l2 i td7 H locs ls hk9; exact absurd hk9 (Nat.not_lt_zero _)
          | succ k9 ih =>
            intro g5_l2 i td7 H locs ls hk9 hf_l2 k_counts_l2 k_drafts_l2 hin ht7 hP hD hS hl
            refine lv_iload hx hb dX9_putTable_113 (lv_at hl 3 rfl) ?_
            refine lv_iload_n hx hb dX9_putTable_115 rfl (lv_at hl 2 rfl) ?_
            refine lv_icmp_ge (tgt := 141) hx hb dX9_putTable_116 (by decide) (fun c_16 => ?_) (fun c_16 => ?_)
            · have hi9 : i = QL.length := by have := (nI_leI (by omega) (by omega)).mp c_16; omega
              rw [hi9] at ht7
              refine lv_aload_n hx hb dX9_putTable_141 rfl (lv_at hl 0 rfl) ?_
              refine lv_iload_n hx hb dX9_putTable_142 rfl (lv_at hl 1 rfl) ?_
              refine fx_put (D := D) (ci := 9) (v := .int (nI OL.length)) (ty := .int) (C := RX9) (T := TX9) (N := 78) hx hb hts in_X9 tyX9 tyX9_ok nmX9 hown hK hP hD hS 0 rfl rfl 57 (by decide) (hts _ kX9_346) (fun _ h9 => h9) rfl (by decide +kernel) rfl rfl dX9_putTable_143 (fun H locs hP hD hS => ?_)
              have hP : va_P D vwCl [(mm, .inr (9, fl 78 (va_up g5_l2 57 (.int (nI OL.length))))), (Mown, .inl (cB, 1536, .inl mown)), (MtableDelta, .inl (cB, 8000, .inl td7)), (Mfirst, .inl (cB, 1536, .inl mfirst)), (Mtab, .inl (cB, 1536, .inl t7)), (Mnears, .inl (cJ, 8, .inr (.inl fn8))), (Msames, .inl (cJ, 1024, .inr (.inl fs8))), (Mu, .inl (cB, 8000, .inl u7)), (MqKind, .inl (cI, 4100, .inl qKind8)), (MqSize, .inl (cI, 4100, .inl qSize8)), (MqAt, .inl (cI, 4100, .inl qAt8)), (MqAddress, .inl (cI, 4100, .inl qAddress8)), (MqMode, .inl (cI, 4100, .inl m8_)), (MdKind, .inl (cI, 4000, .inl dKind8)), (MdSize, .inl (cI, 4000, .inl dSize8)), (MdAddress, .inl (cI, 4000, .inl dAddress8)), (MdMode, .inl (cI, 4000, .inl dMode8)), (MdCode, .inl (cI, 4000, .inl dCode8)), (MdWindow, .inl (cI, 4000, .inl dWindow8)), (Mw, .inl (cB, 30000, .inl w8)), (MsData, .inl (cB, 8000, .inl da8)), (MsCodes, .inl (cB, 30000, .inl co8)), (MsAddresses, .inl (cB, 30000, .inl ad8))] H := hP
              have hD : va_D A0 [(mm, .inr (9, fl 78 (va_up g5_l2 57 (.int (nI OL.length))))), (Mown, .inl (cB, 1536, .inl mown)), (MtableDelta, .inl (cB, 8000, .inl td7)), (Mfirst, .inl (cB, 1536, .inl mfirst)), (Mtab, .inl (cB, 1536, .inl t7)), (Mnears, .inl (cJ, 8, .inr (.inl fn8))), (Msames, .inl (cJ, 1024, .inr (.inl fs8))), (Mu, .inl (cB, 8000, .inl u7)), (MqKind, .inl (cI, 4100, .inl qKind8)), (MqSize, .inl (cI, 4100, .inl qSize8)), (MqAt, .inl (cI, 4100, .inl qAt8)), (MqAddress, .inl (cI, 4100, .inl qAddress8)), (MqMode, .inl (cI, 4100, .inl m8_)), (MdKind, .inl (cI, 4000, .inl dKind8)), (MdSize, .inl (cI, 4000, .inl dSize8)), (MdAddress, .inl (cI, 4000, .inl dAddress8)), (MdMode, .inl (cI, 4000, .inl dMode8)), (MdCode, .inl (cI, 4000, .inl dCode8)), (MdWindow, .inl (cI, 4000, .inl dWindow8)), (Mw, .inl (cB, 30000, .inl w8)), (MsData, .inl (cB, 8000, .inl da8)), (MsCodes, .inl (cB, 30000, .inl co8)), (MsAddresses, .inl (cB, 30000, .inl ad8))] := hD
              refine lv_aload_n hx hb dX9_putTable_146 rfl (lv_at hl 0 rfl) ?_
              refine lv_iload_n hx hb dX9_putTable_147 rfl (lv_at hl 2 rfl) ?_
              refine lv_iconst (v := 2) hx hb dX9_putTable_148 (by decide) ?_
              refine ri (y := nI 2) (rfl) ?_
              refine lv_iadd hx hb dX9_putTable_149 ?_
              refine ri (y := nI (QL.length + 2)) (nI_add QL.length 2) ?_
              refine ri (y := nI (2 + QL.length)) (by first | exact congrArg nI (Nat.add_comm _ _) | (rw [Nat.add_comm 2, nI_add])) ?_
              refine lv_i2l hx hb dX9_putTable_150 (v := (nI (2 + QL.length)).toInt64) rfl ?_
              refine rl (y := lN (2 + QL.length)) (nI_l (by omega)) ?_
              have hw0 : wL 30000 w8 OL := wL_pre hpw_
              refine jn_v (wr := [(Mown, .inl (cB, 1536, .inl mown)), (MtableDelta, .inl (cB, 8000, .inl td7)), (Mfirst, .inl (cB, 1536, .inl mfirst)), (Mtab, .inl (cB, 1536, .inl t7)), (Mnears, .inl (cJ, 8, .inr (.inl fn8))), (Msames, .inl (cJ, 1024, .inr (.inl fs8))), (Mu, .inl (cB, 8000, .inl u7)), (MqKind, .inl (cI, 4100, .inl qKind8)), (MqSize, .inl (cI, 4100, .inl qSize8)), (MqAt, .inl (cI, 4100, .inl qAt8)), (MqAddress, .inl (cI, 4100, .inl qAddress8)), (MqMode, .inl (cI, 4100, .inl m8_)), (MdKind, .inl (cI, 4000, .inl dKind8)), (MdSize, .inl (cI, 4000, .inl dSize8)), (MdAddress, .inl (cI, 4000, .inl dAddress8)), (MdMode, .inl (cI, 4000, .inl dMode8)), (MdCode, .inl (cI, 4000, .inl dCode8)), (MdWindow, .inl (cI, 4000, .inl dWindow8)), (MsData, .inl (cB, 8000, .inl da8)), (MsCodes, .inl (cB, 30000, .inl co8)), (MsAddresses, .inl (cB, 30000, .inl ad8))]) hA hP hD hS [0, 19] [1, 2, 3, 4, 5, 6, 7, 8, 9, 10, 11, 12, 13, 14, 15, 16, 17, 18, 20, 21, 22] rfl rfl (by decide) (by decide) (rn_V (As := [.long (lN (2 + QL.length))]) (rest := []) ⟨hx, hb, hml, hown, hts⟩ (cvV 1 hts zc_yX9_putNumber zi_X9 zm_yX9_putNumber zv_yX9_putNumber kX9_400 (by decide +kernel) rfl rfl ⟨Nat.le_of_ble_eq_true rfl, Nat.le_of_ble_eq_true rfl⟩) (m_putNumber l D cI cB cJ cR mm (va_up g5_l2 57 (.int (nI OL.length))) Mw w8 OL (2 + QL.length) (rfl) ((hf_l2 56 (by decide)).trans g_w) (by omega) (hw0) (by omega) H.size) hK hNw hMk hA hP hD hS [0, 19] rfl rfl (by decide) 0 rfl rfl rfl rfl hl.1 rfl (Nat.le_of_ble_eq_true rfl) dX9_putTable_151 ⟨Nat.le_of_ble_eq_true rfl, Nat.le_of_ble_eq_true rfl⟩) (fun u9 H locs hpa hP hD hS => ?_)
              obtain ⟨g_17, wa⟩ := u9
              try dsimp only at hpa
              have hP : va_P D vwCl [(Mown, .inl (cB, 1536, .inl mown)), (MtableDelta, .inl (cB, 8000, .inl td7)), (Mfirst, .inl (cB, 1536, .inl mfirst)), (Mtab, .inl (cB, 1536, .inl t7)), (Mnears, .inl (cJ, 8, .inr (.inl fn8))), (Msames, .inl (cJ, 1024, .inr (.inl fs8))), (Mu, .inl (cB, 8000, .inl u7)), (MqKind, .inl (cI, 4100, .inl qKind8)), (MqSize, .inl (cI, 4100, .inl qSize8)), (MqAt, .inl (cI, 4100, .inl qAt8)), (MqAddress, .inl (cI, 4100, .inl qAddress8)), (MqMode, .inl (cI, 4100, .inl m8_)), (MdKind, .inl (cI, 4000, .inl dKind8)), (MdSize, .inl (cI, 4000, .inl dSize8)), (MdAddress, .inl (cI, 4000, .inl dAddress8)), (MdMode, .inl (cI, 4000, .inl dMode8)), (MdCode, .inl (cI, 4000, .inl dCode8)), (MdWindow, .inl (cI, 4000, .inl dWindow8)), (MsData, .inl (cB, 8000, .inl da8)), (MsCodes, .inl (cB, 30000, .inl co8)), (MsAddresses, .inl (cB, 30000, .inl ad8)), (mm, .inr (9, fl 78 g_17)), (Mw, .inl (cB, 30000, .inl wa))] H := hP
              have hD : va_D A0 [(Mown, .inl (cB, 1536, .inl mown)), (MtableDelta, .inl (cB, 8000, .inl td7)), (Mfirst, .inl (cB, 1536, .inl mfirst)), (Mtab, .inl (cB, 1536, .inl t7)), (Mnears, .inl (cJ, 8, .inr (.inl fn8))), (Msames, .inl (cJ, 1024, .inr (.inl fs8))), (Mu, .inl (cB, 8000, .inl u7)), (MqKind, .inl (cI, 4100, .inl qKind8)), (MqSize, .inl (cI, 4100, .inl qSize8)), (MqAt, .inl (cI, 4100, .inl qAt8)), (MqAddress, .inl (cI, 4100, .inl qAddress8)), (MqMode, .inl (cI, 4100, .inl m8_)), (MdKind, .inl (cI, 4000, .inl dKind8)), (MdSize, .inl (cI, 4000, .inl dSize8)), (MdAddress, .inl (cI, 4000, .inl dAddress8)), (MdMode, .inl (cI, 4000, .inl dMode8)), (MdCode, .inl (cI, 4000, .inl dCode8)), (MdWindow, .inl (cI, 4000, .inl dWindow8)), (MsData, .inl (cB, 8000, .inl da8)), (MsCodes, .inl (cB, 30000, .inl co8)), (MsAddresses, .inl (cB, 30000, .inl ad8)), (mm, .inr (9, fl 78 g_17)), (Mw, .inl (cB, 30000, .inl wa))] := hD
              obtain ⟨f_hpa, wrote_hpa, hpa_⟩ := hpa
              have k5_g_17 : g_17 5 = .int (nI near) := (f_hpa 5 (by decide)).trans ((hf_l2 5 (by decide)).trans g_ownNear)
              have k6_g_17 : g_17 6 = .int (nI same) := (f_hpa 6 (by decide)).trans ((hf_l2 6 (by decide)).trans g_ownSame)
              have k3_g_17 : g_17 3 = .ref Mfirst := (f_hpa 3 (by decide)).trans ((hf_l2 3 (by decide)).trans g_first)
              have k4_g_17 : g_17 4 = .ref Mown := (f_hpa 4 (by decide)).trans ((hf_l2 4 (by decide)).trans g_own)
              have k7_g_17 : g_17 7 = .ref Mtab := (f_hpa 7 (by decide)).trans ((hf_l2 7 (by decide)).trans g_tab)
              have k64_g_17 : g_17 64 = .ref Mu := (f_hpa 64 (by decide)).trans ((hf_l2 64 (by decide)).trans g_u)
              have k68_g_17 : g_17 68 = .ref MqKind := (f_hpa 68 (by decide)).trans ((hf_l2 68 (by decide)).trans g_qKind)
              have k69_g_17 : g_17 69 = .ref MqSize := (f_hpa 69 (by decide)).trans ((hf_l2 69 (by decide)).trans g_qSize)
              have k70_g_17 : g_17 70 = .ref MqAt := (f_hpa 70 (by decide)).trans ((hf_l2 70 (by decide)).trans g_qAt)
              have k71_g_17 : g_17 71 = .ref MqAddress := (f_hpa 71 (by decide)).trans ((hf_l2 71 (by decide)).trans g_qAddress)
              have k72_g_17 : g_17 72 = .ref MqMode := (f_hpa 72 (by decide)).trans ((hf_l2 72 (by decide)).trans g_qMode)
              have k10_g_17 : g_17 10 = .ref Mnears := (f_hpa 10 (by decide)).trans ((hf_l2 10 (by decide)).trans g_nears)
              have k12_g_17 : g_17 12 = .ref Msames := (f_hpa 12 (by decide)).trans ((hf_l2 12 (by decide)).trans g_sames)
              have k58_g_17 : g_17 58 = .ref MsData := (f_hpa 58 (by decide)).trans ((hf_l2 58 (by decide)).trans g_sData)
              have k60_g_17 : g_17 60 = .ref MsCodes := (f_hpa 60 (by decide)).trans ((hf_l2 60 (by decide)).trans g_sCodes)
              have k62_g_17 : g_17 62 = .ref MsAddresses := (f_hpa 62 (by decide)).trans ((hf_l2 62 (by decide)).trans g_sAddresses)
              have k21_g_17 : g_17 21 = .ref MdKind := (f_hpa 21 (by decide)).trans ((hf_l2 21 (by decide)).trans g_dKind)
              have k22_g_17 : g_17 22 = .ref MdSize := (f_hpa 22 (by decide)).trans ((hf_l2 22 (by decide)).trans g_dSize)
              have k23_g_17 : g_17 23 = .ref MdAddress := (f_hpa 23 (by decide)).trans ((hf_l2 23 (by decide)).trans g_dAddress)
              have k24_g_17 : g_17 24 = .ref MdMode := (f_hpa 24 (by decide)).trans ((hf_l2 24 (by decide)).trans g_dMode)
              have k25_g_17 : g_17 25 = .ref MdCode := (f_hpa 25 (by decide)).trans ((hf_l2 25 (by decide)).trans g_dCode)
              have k26_g_17 : g_17 26 = .ref MdWindow := (f_hpa 26 (by decide)).trans ((hf_l2 26 (by decide)).trans g_dWindow)
              have k56_g_17 : g_17 56 = .ref Mw := (f_hpa 56 (by decide)).trans ((hf_l2 56 (by decide)).trans g_w)
              have k74_g_17 : g_17 74 = .ref MtableDelta := (f_hpa 74 (by decide)).trans ((hf_l2 74 (by decide)).trans g_tableDelta)
              have k39_g_17 : g_17 39 = .int (bI true) := (f_hpa 39 (by decide)).trans (k_counts_l2)
              have k20_g_17 : g_17 20 = .int (nI dr) := (f_hpa 20 (by decide)).trans (k_drafts_l2)
              have fr_g_17 : frm [57, 8, 9, 39, 20, 65, 66, 67, 73, 59, 61, 63, 11] g g_17 := frm_tr (frm_up hf_l2 (by decide)) f_hpa (by decide)
              have z1 := nsz_le (2 + QL.length)
              refine lv_aload_n hx hb dX9_putTable_154 rfl (lv_at hl 0 rfl) ?_
              refine lv_aload_n hx hb dX9_putTable_155 rfl (lv_at hl 0 rfl) ?_
              refine fx_get (D := D) (ci := 9) (v := .int (nI near)) (C := RX9) (T := TX9) (N := 78) hx hb hts in_X9 hown hK hP 21 rfl rfl 5 (by decide) (hts _ kX9_23) (fun _ h9 => h9) (k5_g_17) dX9_putTable_156 ?_
              refine jn_v (wr := [(Mown, .inl (cB, 1536, .inl mown)), (MtableDelta, .inl (cB, 8000, .inl td7)), (Mfirst, .inl (cB, 1536, .inl mfirst)), (Mtab, .inl (cB, 1536, .inl t7)), (Mnears, .inl (cJ, 8, .inr (.inl fn8))), (Msames, .inl (cJ, 1024, .inr (.inl fs8))), (Mu, .inl (cB, 8000, .inl u7)), (MqKind, .inl (cI, 4100, .inl qKind8)), (MqSize, .inl (cI, 4100, .inl qSize8)), (MqAt, .inl (cI, 4100, .inl qAt8)), (MqAddress, .inl (cI, 4100, .inl qAddress8)), (MqMode, .inl (cI, 4100, .inl m8_)), (MdKind, .inl (cI, 4000, .inl dKind8)), (MdSize, .inl (cI, 4000, .inl dSize8)), (MdAddress, .inl (cI, 4000, .inl dAddress8)), (MdMode, .inl (cI, 4000, .inl dMode8)), (MdCode, .inl (cI, 4000, .inl dCode8)), (MdWindow, .inl (cI, 4000, .inl dWindow8)), (MsData, .inl (cB, 8000, .inl da8)), (MsCodes, .inl (cB, 30000, .inl co8)), (MsAddresses, .inl (cB, 30000, .inl ad8))]) hA hP hD hS [21, 22] [0, 1, 2, 3, 4, 5, 6, 7, 8, 9, 10, 11, 12, 13, 14, 15, 16, 17, 18, 19, 20] rfl rfl (by decide) (by decide) (rn_V (As := [.int (nI near)]) (rest := []) ⟨hx, hb, hml, hown, hts⟩ (cvV 1 hts zc_yX9_put zi_X9 zm_yX9_put zv_yX9_put kX9_353 (by decide +kernel) rfl rfl ⟨Nat.le_of_ble_eq_true rfl, Nat.le_of_ble_eq_true rfl⟩) (m_put l D cI cB cJ cR mm g_17 Mw wa (OL ++ numL (2 + QL.length)) (nI near) (wrote_hpa) (k56_g_17) (by simp [numL_len]; omega) (hpa_) H.size) hK hNw hMk hA hP hD hS [21, 22] rfl rfl (by decide) 0 rfl rfl rfl rfl hl.1 rfl (Nat.le_of_ble_eq_true rfl) dX9_putTable_159 ⟨Nat.le_of_ble_eq_true rfl, Nat.le_of_ble_eq_true rfl⟩) (fun u9 H locs hpb hP hD hS => ?_)
              obtain ⟨g_19, wb⟩ := u9
              try dsimp only at hpb
              have hP : va_P D vwCl [(Mown, .inl (cB, 1536, .inl mown)), (MtableDelta, .inl (cB, 8000, .inl td7)), (Mfirst, .inl (cB, 1536, .inl mfirst)), (Mtab, .inl (cB, 1536, .inl t7)), (Mnears, .inl (cJ, 8, .inr (.inl fn8))), (Msames, .inl (cJ, 1024, .inr (.inl fs8))), (Mu, .inl (cB, 8000, .inl u7)), (MqKind, .inl (cI, 4100, .inl qKind8)), (MqSize, .inl (cI, 4100, .inl qSize8)), (MqAt, .inl (cI, 4100, .inl qAt8)), (MqAddress, .inl (cI, 4100, .inl qAddress8)), (MqMode, .inl (cI, 4100, .inl m8_)), (MdKind, .inl (cI, 4000, .inl dKind8)), (MdSize, .inl (cI, 4000, .inl dSize8)), (MdAddress, .inl (cI, 4000, .inl dAddress8)), (MdMode, .inl (cI, 4000, .inl dMode8)), (MdCode, .inl (cI, 4000, .inl dCode8)), (MdWindow, .inl (cI, 4000, .inl dWindow8)), (MsData, .inl (cB, 8000, .inl da8)), (MsCodes, .inl (cB, 30000, .inl co8)), (MsAddresses, .inl (cB, 30000, .inl ad8)), (mm, .inr (9, fl 78 g_19)), (Mw, .inl (cB, 30000, .inl wb))] H := hP
              have hD : va_D A0 [(Mown, .inl (cB, 1536, .inl mown)), (MtableDelta, .inl (cB, 8000, .inl td7)), (Mfirst, .inl (cB, 1536, .inl mfirst)), (Mtab, .inl (cB, 1536, .inl t7)), (Mnears, .inl (cJ, 8, .inr (.inl fn8))), (Msames, .inl (cJ, 1024, .inr (.inl fs8))), (Mu, .inl (cB, 8000, .inl u7)), (MqKind, .inl (cI, 4100, .inl qKind8)), (MqSize, .inl (cI, 4100, .inl qSize8)), (MqAt, .inl (cI, 4100, .inl qAt8)), (MqAddress, .inl (cI, 4100, .inl qAddress8)), (MqMode, .inl (cI, 4100, .inl m8_)), (MdKind, .inl (cI, 4000, .inl dKind8)), (MdSize, .inl (cI, 4000, .inl dSize8)), (MdAddress, .inl (cI, 4000, .inl dAddress8)), (MdMode, .inl (cI, 4000, .inl dMode8)), (MdCode, .inl (cI, 4000, .inl dCode8)), (MdWindow, .inl (cI, 4000, .inl dWindow8)), (MsData, .inl (cB, 8000, .inl da8)), (MsCodes, .inl (cB, 30000, .inl co8)), (MsAddresses, .inl (cB, 30000, .inl ad8)), (mm, .inr (9, fl 78 g_19)), (Mw, .inl (cB, 30000, .inl wb))] := hD
              obtain ⟨f_hpb, wrote_hpb, hpb_⟩ := hpb
              have k5_g_19 : g_19 5 = .int (nI near) := (f_hpb 5 (by decide)).trans (k5_g_17)
              have k6_g_19 : g_19 6 = .int (nI same) := (f_hpb 6 (by decide)).trans (k6_g_17)
              have k3_g_19 : g_19 3 = .ref Mfirst := (f_hpb 3 (by decide)).trans (k3_g_17)
              have k4_g_19 : g_19 4 = .ref Mown := (f_hpb 4 (by decide)).trans (k4_g_17)
              have k7_g_19 : g_19 7 = .ref Mtab := (f_hpb 7 (by decide)).trans (k7_g_17)
              have k64_g_19 : g_19 64 = .ref Mu := (f_hpb 64 (by decide)).trans (k64_g_17)
              have k68_g_19 : g_19 68 = .ref MqKind := (f_hpb 68 (by decide)).trans (k68_g_17)
              have k69_g_19 : g_19 69 = .ref MqSize := (f_hpb 69 (by decide)).trans (k69_g_17)
              have k70_g_19 : g_19 70 = .ref MqAt := (f_hpb 70 (by decide)).trans (k70_g_17)
              have k71_g_19 : g_19 71 = .ref MqAddress := (f_hpb 71 (by decide)).trans (k71_g_17)
              have k72_g_19 : g_19 72 = .ref MqMode := (f_hpb 72 (by decide)).trans (k72_g_17)
              have k10_g_19 : g_19 10 = .ref Mnears := (f_hpb 10 (by decide)).trans (k10_g_17)
              have k12_g_19 : g_19 12 = .ref Msames := (f_hpb 12 (by decide)).trans (k12_g_17)
              have k58_g_19 : g_19 58 = .ref MsData := (f_hpb 58 (by decide)).trans (k58_g_17)
              have k60_g_19 : g_19 60 = .ref MsCodes := (f_hpb 60 (by decide)).trans (k60_g_17)
              have k62_g_19 : g_19 62 = .ref MsAddresses := (f_hpb 62 (by decide)).trans (k62_g_17)
              have k21_g_19 : g_19 21 = .ref MdKind := (f_hpb 21 (by decide)).trans (k21_g_17)
              have k22_g_19 : g_19 22 = .ref MdSize := (f_hpb 22 (by decide)).trans (k22_g_17)
              have k23_g_19 : g_19 23 = .ref MdAddress := (f_hpb 23 (by decide)).trans (k23_g_17)
              have k24_g_19 : g_19 24 = .ref MdMode := (f_hpb 24 (by decide)).trans (k24_g_17)
              have k25_g_19 : g_19 25 = .ref MdCode := (f_hpb 25 (by decide)).trans (k25_g_17)
              have k26_g_19 : g_19 26 = .ref MdWindow := (f_hpb 26 (by decide)).trans (k26_g_17)
              have k56_g_19 : g_19 56 = .ref Mw := (f_hpb 56 (by decide)).trans (k56_g_17)
              have k74_g_19 : g_19 74 = .ref MtableDelta := (f_hpb 74 (by decide)).trans (k74_g_17)
              have k39_g_19 : g_19 39 = .int (bI true) := (f_hpb 39 (by decide)).trans (k39_g_17)
              have k20_g_19 : g_19 20 = .int (nI dr) := (f_hpb 20 (by decide)).trans (k20_g_17)
              have fr_g_19 : frm [57, 8, 9, 39, 20, 65, 66, 67, 73, 59, 61, 63, 11] g g_19 := frm_tr fr_g_17 f_hpb (by decide)
              have kx_21 : g_19 57 = .int (nI ((OL ++ numL (2 + QL.length)) ++ [nI near]).length) := by have h9 : g_19 57 = .int (nI ((OL ++ numL (2 + QL.length)).length + 1)) := wrote_hpb; rw [h9]; exact congrArg Value.int (congrArg nI len1)
              refine lv_aload_n hx hb dX9_putTable_162 rfl (lv_at hl 0 rfl) ?_
              refine lv_aload_n hx hb dX9_putTable_163 rfl (lv_at hl 0 rfl) ?_
              refine fx_get (D := D) (ci := 9) (v := .int (nI same)) (C := RX9) (T := TX9) (N := 78) hx hb hts in_X9 hown hK hP 21 rfl rfl 6 (by decide) (hts _ kX9_27) (fun _ h9 => h9) (k6_g_19) dX9_putTable_164 ?_
              refine jn_v (wr := [(Mown, .inl (cB, 1536, .inl mown)), (MtableDelta, .inl (cB, 8000, .inl td7)), (Mfirst, .inl (cB, 1536, .inl mfirst)), (Mtab, .inl (cB, 1536, .inl t7)), (Mnears, .inl (cJ, 8, .inr (.inl fn8))), (Msames, .inl (cJ, 1024, .inr (.inl fs8))), (Mu, .inl (cB, 8000, .inl u7)), (MqKind, .inl (cI, 4100, .inl qKind8)), (MqSize, .inl (cI, 4100, .inl qSize8)), (MqAt, .inl (cI, 4100, .inl qAt8)), (MqAddress, .inl (cI, 4100, .inl qAddress8)), (MqMode, .inl (cI, 4100, .inl m8_)), (MdKind, .inl (cI, 4000, .inl dKind8)), (MdSize, .inl (cI, 4000, .inl dSize8)), (MdAddress, .inl (cI, 4000, .inl dAddress8)), (MdMode, .inl (cI, 4000, .inl dMode8)), (MdCode, .inl (cI, 4000, .inl dCode8)), (MdWindow, .inl (cI, 4000, .inl dWindow8)), (MsData, .inl (cB, 8000, .inl da8)), (MsCodes, .inl (cB, 30000, .inl co8)), (MsAddresses, .inl (cB, 30000, .inl ad8))]) hA hP hD hS [21, 22] [0, 1, 2, 3, 4, 5, 6, 7, 8, 9, 10, 11, 12, 13, 14, 15, 16, 17, 18, 19, 20] rfl rfl (by decide) (by decide) (rn_V (As := [.int (nI same)]) (rest := []) ⟨hx, hb, hml, hown, hts⟩ (cvV 1 hts zc_yX9_put zi_X9 zm_yX9_put zv_yX9_put kX9_353 (by decide +kernel) rfl rfl ⟨Nat.le_of_ble_eq_true rfl, Nat.le_of_ble_eq_true rfl⟩) (m_put l D cI cB cJ cR mm g_19 Mw wb ((OL ++ numL (2 + QL.length)) ++ [nI near]) (nI same) (kx_21) (k56_g_19) (by simp [numL_len]; omega) (hpb_) H.size) hK hNw hMk hA hP hD hS [21, 22] rfl rfl (by decide) 0 rfl rfl rfl rfl hl.1 rfl (Nat.le_of_ble_eq_true rfl) dX9_putTable_167 ⟨Nat.le_of_ble_eq_true rfl, Nat.le_of_ble_eq_true rfl⟩) (fun u9 H locs hpc hP hD hS => ?_)
              obtain ⟨g_22, wc⟩ := u9
              try dsimp only at hpc
              have hP : va_P D vwCl [(Mown, .inl (cB, 1536, .inl mown)), (MtableDelta, .inl (cB, 8000, .inl td7)), (Mfirst, .inl (cB, 1536, .inl mfirst)), (Mtab, .inl (cB, 1536, .inl t7)), (Mnears, .inl (cJ, 8, .inr (.inl fn8))), (Msames, .inl (cJ, 1024, .inr (.inl fs8))), (Mu, .inl (cB, 8000, .inl u7)), (MqKind, .inl (cI, 4100, .inl qKind8)), (MqSize, .inl (cI, 4100, .inl qSize8)), (MqAt, .inl (cI, 4100, .inl qAt8)), (MqAddress, .inl (cI, 4100, .inl qAddress8)), (MqMode, .inl (cI, 4100, .inl m8_)), (MdKind, .inl (cI, 4000, .inl dKind8)), (MdSize, .inl (cI, 4000, .inl dSize8)), (MdAddress, .inl (cI, 4000, .inl dAddress8)), (MdMode, .inl (cI, 4000, .inl dMode8)), (MdCode, .inl (cI, 4000, .inl dCode8)), (MdWindow, .inl (cI, 4000, .inl dWindow8)), (MsData, .inl (cB, 8000, .inl da8)), (MsCodes, .inl (cB, 30000, .inl co8)), (MsAddresses, .inl (cB, 30000, .inl ad8)), (mm, .inr (9, fl 78 g_22)), (Mw, .inl (cB, 30000, .inl wc))] H := hP
              have hD : va_D A0 [(Mown, .inl (cB, 1536, .inl mown)), (MtableDelta, .inl (cB, 8000, .inl td7)), (Mfirst, .inl (cB, 1536, .inl mfirst)), (Mtab, .inl (cB, 1536, .inl t7)), (Mnears, .inl (cJ, 8, .inr (.inl fn8))), (Msames, .inl (cJ, 1024, .inr (.inl fs8))), (Mu, .inl (cB, 8000, .inl u7)), (MqKind, .inl (cI, 4100, .inl qKind8)), (MqSize, .inl (cI, 4100, .inl qSize8)), (MqAt, .inl (cI, 4100, .inl qAt8)), (MqAddress, .inl (cI, 4100, .inl qAddress8)), (MqMode, .inl (cI, 4100, .inl m8_)), (MdKind, .inl (cI, 4000, .inl dKind8)), (MdSize, .inl (cI, 4000, .inl dSize8)), (MdAddress, .inl (cI, 4000, .inl dAddress8)), (MdMode, .inl (cI, 4000, .inl dMode8)), (MdCode, .inl (cI, 4000, .inl dCode8)), (MdWindow, .inl (cI, 4000, .inl dWindow8)), (MsData, .inl (cB, 8000, .inl da8)), (MsCodes, .inl (cB, 30000, .inl co8)), (MsAddresses, .inl (cB, 30000, .inl ad8)), (mm, .inr (9, fl 78 g_22)), (Mw, .inl (cB, 30000, .inl wc))] := hD
              obtain ⟨f_hpc, wrote_hpc, hpc_⟩ := hpc
              have k5_g_22 : g_22 5 = .int (nI near) := (f_hpc 5 (by decide)).trans (k5_g_19)
              have k6_g_22 : g_22 6 = .int (nI same) := (f_hpc 6 (by decide)).trans (k6_g_19)
              have k3_g_22 : g_22 3 = .ref Mfirst := (f_hpc 3 (by decide)).trans (k3_g_19)
              have k4_g_22 : g_22 4 = .ref Mown := (f_hpc 4 (by decide)).trans (k4_g_19)
              have k7_g_22 : g_22 7 = .ref Mtab := (f_hpc 7 (by decide)).trans (k7_g_19)
              have k64_g_22 : g_22 64 = .ref Mu := (f_hpc 64 (by decide)).trans (k64_g_19)
              have k68_g_22 : g_22 68 = .ref MqKind := (f_hpc 68 (by decide)).trans (k68_g_19)
              have k69_g_22 : g_22 69 = .ref MqSize := (f_hpc 69 (by decide)).trans (k69_g_19)
              have k70_g_22 : g_22 70 = .ref MqAt := (f_hpc 70 (by decide)).trans (k70_g_19)
              have k71_g_22 : g_22 71 = .ref MqAddress := (f_hpc 71 (by decide)).trans (k71_g_19)
              have k72_g_22 : g_22 72 = .ref MqMode := (f_hpc 72 (by decide)).trans (k72_g_19)
              have k10_g_22 : g_22 10 = .ref Mnears := (f_hpc 10 (by decide)).trans (k10_g_19)
              have k12_g_22 : g_22 12 = .ref Msames := (f_hpc 12 (by decide)).trans (k12_g_19)
              have k58_g_22 : g_22 58 = .ref MsData := (f_hpc 58 (by decide)).trans (k58_g_19)
              have k60_g_22 : g_22 60 = .ref MsCodes := (f_hpc 60 (by decide)).trans (k60_g_19)
              have k62_g_22 : g_22 62 = .ref MsAddresses := (f_hpc 62 (by decide)).trans (k62_g_19)
              have k21_g_22 : g_22 21 = .ref MdKind := (f_hpc 21 (by decide)).trans (k21_g_19)
              have k22_g_22 : g_22 22 = .ref MdSize := (f_hpc 22 (by decide)).trans (k22_g_19)
              have k23_g_22 : g_22 23 = .ref MdAddress := (f_hpc 23 (by decide)).trans (k23_g_19)
              have k24_g_22 : g_22 24 = .ref MdMode := (f_hpc 24 (by decide)).trans (k24_g_19)
              have k25_g_22 : g_22 25 = .ref MdCode := (f_hpc 25 (by decide)).trans (k25_g_19)
              have k26_g_22 : g_22 26 = .ref MdWindow := (f_hpc 26 (by decide)).trans (k26_g_19)
              have k56_g_22 : g_22 56 = .ref Mw := (f_hpc 56 (by decide)).trans (k56_g_19)
              have k74_g_22 : g_22 74 = .ref MtableDelta := (f_hpc 74 (by decide)).trans (k74_g_19)
              have k39_g_22 : g_22 39 = .int (bI true) := (f_hpc 39 (by decide)).trans (k39_g_19)
              have k20_g_22 : g_22 20 = .int (nI dr) := (f_hpc 20 (by decide)).trans (k20_g_19)
              have fr_g_22 : frm [57, 8, 9, 39, 20, 65, 66, 67, 73, 59, 61, 63, 11] g g_22 := frm_tr fr_g_19 f_hpc (by decide)
              have kx_24 : g_22 57 = .int (nI (((OL ++ numL (2 + QL.length)) ++ [nI near]) ++ [nI same]).length) := by have h9 : g_22 57 = .int (nI (((OL ++ numL (2 + QL.length)) ++ [nI near]).length + 1)) := wrote_hpc; rw [h9]; exact congrArg Value.int (congrArg nI len1)
              obtain ⟨OB, hOB⟩ : ∃ OB, OB = (((OL ++ numL (2 + QL.length)) ++ [nI near]) ++ [nI same]) := ⟨_, rfl⟩
              have hOl : OB.length < 2 ^ 20 := by rw [hOB]; simp [numL_len]; omega
              rw [← hOB] at hpc_
              have kx_25 : g_22 57 = .int (nI OB.length) := by have h9 : g_22 57 = .int (nI (((OL ++ numL (2 + QL.length)) ++ [nI near]) ++ [nI same]).length) := kx_24; rw [h9]; exact congrArg Value.int (by rw [hOB])
              refine lv_iconst (v := 0) hx hb dX9_putTable_170 (by decide) ?_
              refine ri (y := nI 0) (nI_0.symm) ?_
              refine lv_istore (lv' := [(4, .int (nI 0)), (0, .ref mm), (1, .int (nI OL.length)), (3, .int (nI QL.length))]) hx hb dX9_putTable_171 hl (by decide) rfl (fun ls hl => ?_)
              have l3 : ∀ (k9 : Nat) (g5_l3 : Nat → Value) (k : Nat) (w7 : Nat → Int32) (H : Heap) (locs : List Loc) (ls : Array Slot), QL.length - k < k9 → (frm [57, 8, 9, 39, 20, 65, 66, 67, 73, 59, 61, 63, 11] g g5_l3) → (g5_l3 57 = .int (nI (OB ++ QL.take k).length)) → (g5_l3 39 = .int (bI true)) → (g5_l3 20 = .int (nI dr)) → (k ≤ QL.length) → (wL 30000 w7 (OB ++ QL.take k)) → va_P D vwCl [(mm, .inr (9, fl 78 g5_l3)), (Mown, .inl (cB, 1536, .inl mown)), (MtableDelta, .inl (cB, 8000, .inl td7)), (Mfirst, .inl (cB, 1536, .inl mfirst)), (Mtab, .inl (cB, 1536, .inl t7)), (Mnears, .inl (cJ, 8, .inr (.inl fn8))), (Msames, .inl (cJ, 1024, .inr (.inl fs8))), (Mu, .inl (cB, 8000, .inl u7)), (MqKind, .inl (cI, 4100, .inl qKind8)), (MqSize, .inl (cI, 4100, .inl qSize8)), (MqAt, .inl (cI, 4100, .inl qAt8)), (MqAddress, .inl (cI, 4100, .inl qAddress8)), (MqMode, .inl (cI, 4100, .inl m8_)), (MdKind, .inl (cI, 4000, .inl dKind8)), (MdSize, .inl (cI, 4000, .inl dSize8)), (MdAddress, .inl (cI, 4000, .inl dAddress8)), (MdMode, .inl (cI, 4000, .inl dMode8)), (MdCode, .inl (cI, 4000, .inl dCode8)), (MdWindow, .inl (cI, 4000, .inl dWindow8)), (MsData, .inl (cB, 8000, .inl da8)), (MsCodes, .inl (cB, 30000, .inl co8)), (MsAddresses, .inl (cB, 30000, .inl ad8)), (Mw, .inl (cB, 30000, .inl w7))] H → va_D A0 [(mm, .inr (9, fl 78 g5_l3)), (Mown, .inl (cB, 1536, .inl mown)), (MtableDelta, .inl (cB, 8000, .inl td7)), (Mfirst, .inl (cB, 1536, .inl mfirst)), (Mtab, .inl (cB, 1536, .inl t7)), (Mnears, .inl (cJ, 8, .inr (.inl fn8))), (Msames, .inl (cJ, 1024, .inr (.inl fs8))), (Mu, .inl (cB, 8000, .inl u7)), (MqKind, .inl (cI, 4100, .inl qKind8)), (MqSize, .inl (cI, 4100, .inl qSize8)), (MqAt, .inl (cI, 4100, .inl qAt8)), (MqAddress, .inl (cI, 4100, .inl qAddress8)), (MqMode, .inl (cI, 4100, .inl m8_)), (MdKind, .inl (cI, 4000, .inl dKind8)), (MdSize, .inl (cI, 4000, .inl dSize8)), (MdAddress, .inl (cI, 4000, .inl dAddress8)), (MdMode, .inl (cI, 4000, .inl dMode8)), (MdCode, .inl (cI, 4000, .inl dCode8)), (MdWindow, .inl (cI, 4000, .inl dWindow8)), (MsData, .inl (cB, 8000, .inl da8)), (MsCodes, .inl (cB, 30000, .inl co8)), (MsAddresses, .inl (cB, 30000, .inl ad8)), (Mw, .inl (cB, 30000, .inl w7))] → va_S A0 s0.heap H locs → lv_has ls 5 [(0, .ref mm), (1, .int (nI OL.length)), (3, .int (nI QL.length)), (4, .int (nI k))] → W p0 l e0 ({ frames := 4, cells := 0, slots := 0, locals := 99 }) s0 m0 ([.ref mm] : List Value).toArray below meth c0 H locs 0 0 Q0 (F0 m0 173 ls []) := by
                intro k9
                induction k9 with
                | zero => intro g5_l3 k w7 H locs ls hk9; exact absurd hk9 (Nat.not_lt_zero _)
                | succ k9 ih3 =>
                  intro g5_l3 k w7 H locs ls hk9 hf_l3 k_wrote_l3 k_counts_l3 k_drafts_l3 hkn hw7 hP hD hS hl
                  refine lv_iload hx hb dX9_putTable_173 (lv_at hl 3 rfl) ?_
                  refine lv_iload_n hx hb dX9_putTable_175 rfl (lv_at hl 2 rfl) ?_
                  refine lv_icmp_ge (tgt := 196) hx hb dX9_putTable_176 (by decide) (fun c_26 => ?_) (fun c_26 => ?_)
                  · have hk9 : k = QL.length := by have := (nI_leI (by omega) (by omega)).mp c_26; omega
                    rw [hk9, List.take_length] at hw7
                    have hfin : OB ++ QL = OL ++ wtH near same (wtQ (fun j => nI (firstT j)) (fun j => nI (tt j))) := by rw [hOB, ← hQL, wtH]; simp only [List.append_assoc]
                    have kx_27 : g5_l3 57 = .int (nI (OL ++ wtH near same (wtQ (fun j => nI (firstT j)) (fun j => nI (tt j)))).length) := by have h9 : g5_l3 57 = .int (nI (OB ++ QL.take k).length) := k_wrote_l3; rw [h9]; exact congrArg Value.int (by rw [hk9, List.take_length, hfin])
                    refine lv_aload_n hx hb dX9_putTable_196 rfl (lv_at hl 0 rfl) ?_
                    refine lv_aload_n hx hb dX9_putTable_197 rfl (lv_at hl 0 rfl) ?_
                    refine fx_get (D := D) (ci := 9) (v := .ref Mown) (C := RX9) (T := TX9) (N := 78) hx hb hts in_X9 hown hK hP 0 rfl rfl 4 (by decide) (hts _ kX9_20) (fun _ h9 => h9) ((hf_l3 4 (by decide)).trans g_own) dX9_putTable_198 ?_
                    refine lv_aload_n hx hb dX9_putTable_201 rfl (lv_at hl 0 rfl) ?_
                    refine fx_get (D := D) (ci := 9) (v := .int (nI near)) (C := RX9) (T := TX9) (N := 78) hx hb hts in_X9 hown hK hP 0 rfl rfl 5 (by decide) (hts _ kX9_23) (fun _ h9 => h9) ((hf_l3 5 (by decide)).trans g_ownNear) dX9_putTable_202 ?_
                    refine lv_aload_n hx hb dX9_putTable_205 rfl (lv_at hl 0 rfl) ?_
                    refine fx_get (D := D) (ci := 9) (v := .int (nI same)) (C := RX9) (T := TX9) (N := 78) hx hb hts in_X9 hown hK hP 0 rfl rfl 6 (by decide) (hts _ kX9_27) (fun _ h9 => h9) ((hf_l3 6 (by decide)).trans g_ownSame) dX9_putTable_206 ?_
                    refine jn_v (wr := [(MtableDelta, .inl (cB, 8000, .inl td7)), (Mfirst, .inl (cB, 1536, .inl mfirst)), (Mnears, .inl (cJ, 8, .inr (.inl fn8))), (Msames, .inl (cJ, 1024, .inr (.inl fs8))), (Mu, .inl (cB, 8000, .inl u7)), (MqKind, .inl (cI, 4100, .inl qKind8)), (MqSize, .inl (cI, 4100, .inl qSize8)), (MqAt, .inl (cI, 4100, .inl qAt8)), (MqAddress, .inl (cI, 4100, .inl qAddress8)), (MqMode, .inl (cI, 4100, .inl m8_)), (MdKind, .inl (cI, 4000, .inl dKind8)), (MdSize, .inl (cI, 4000, .inl dSize8)), (MdAddress, .inl (cI, 4000, .inl dAddress8)), (MdMode, .inl (cI, 4000, .inl dMode8)), (MdCode, .inl (cI, 4000, .inl dCode8)), (MdWindow, .inl (cI, 4000, .inl dWindow8)), (MsData, .inl (cB, 8000, .inl da8)), (MsCodes, .inl (cB, 30000, .inl co8)), (MsAddresses, .inl (cB, 30000, .inl ad8)), (Mw, .inl (cB, 30000, .inl w7))]) hA hP hD hS [0, 4, 1] [2, 3, 5, 6, 7, 8, 9, 10, 11, 12, 13, 14, 15, 16, 17, 18, 19, 20, 21, 22] rfl rfl (by decide) (by decide) (rn_V (As := [.ref Mown, .int (nI near), .int (nI same)]) (rest := []) ⟨hx, hb, hml, hown, hts⟩ (cvV 3 hts zc_yX9_use zi_X9 zm_yX9_use zv_yX9_use kX9_213 (by decide +kernel) rfl rfl ⟨Nat.le_of_ble_eq_true rfl, Nat.le_of_ble_eq_true rfl⟩) (m_use l D cI cB cJ cR mm g5_l3 Mtab t7 Mown 1536 mown tt near same ((hf_l3 7 (by decide)).trans g_tab) (by decide) (ho) H.size) hK hNw hMk hA hP hD hS [0, 4, 1] rfl rfl (by decide) 0 rfl rfl rfl rfl hl.1 rfl (Nat.le_of_ble_eq_true rfl) dX9_putTable_209 ⟨Nat.le_of_ble_eq_true rfl, Nat.le_of_ble_eq_true rfl⟩) (fun u9 H locs hus9 hP hD hS => ?_)
                    obtain ⟨g_28, t9⟩ := u9
                    try dsimp only at hus9
                    have hP : va_P D vwCl [(MtableDelta, .inl (cB, 8000, .inl td7)), (Mfirst, .inl (cB, 1536, .inl mfirst)), (Mnears, .inl (cJ, 8, .inr (.inl fn8))), (Msames, .inl (cJ, 1024, .inr (.inl fs8))), (Mu, .inl (cB, 8000, .inl u7)), (MqKind, .inl (cI, 4100, .inl qKind8)), (MqSize, .inl (cI, 4100, .inl qSize8)), (MqAt, .inl (cI, 4100, .inl qAt8)), (MqAddress, .inl (cI, 4100, .inl qAddress8)), (MqMode, .inl (cI, 4100, .inl m8_)), (MdKind, .inl (cI, 4000, .inl dKind8)), (MdSize, .inl (cI, 4000, .inl dSize8)), (MdAddress, .inl (cI, 4000, .inl dAddress8)), (MdMode, .inl (cI, 4000, .inl dMode8)), (MdCode, .inl (cI, 4000, .inl dCode8)), (MdWindow, .inl (cI, 4000, .inl dWindow8)), (MsData, .inl (cB, 8000, .inl da8)), (MsCodes, .inl (cB, 30000, .inl co8)), (MsAddresses, .inl (cB, 30000, .inl ad8)), (Mw, .inl (cB, 30000, .inl w7)), (mm, .inr (9, fl 78 g_28)), (Mtab, .inl (cB, 1536, .inl t9)), (Mown, .inl (cB, 1536, .inl mown))] H := hP
                    have hD : va_D A0 [(MtableDelta, .inl (cB, 8000, .inl td7)), (Mfirst, .inl (cB, 1536, .inl mfirst)), (Mnears, .inl (cJ, 8, .inr (.inl fn8))), (Msames, .inl (cJ, 1024, .inr (.inl fs8))), (Mu, .inl (cB, 8000, .inl u7)), (MqKind, .inl (cI, 4100, .inl qKind8)), (MqSize, .inl (cI, 4100, .inl qSize8)), (MqAt, .inl (cI, 4100, .inl qAt8)), (MqAddress, .inl (cI, 4100, .inl qAddress8)), (MqMode, .inl (cI, 4100, .inl m8_)), (MdKind, .inl (cI, 4000, .inl dKind8)), (MdSize, .inl (cI, 4000, .inl dSize8)), (MdAddress, .inl (cI, 4000, .inl dAddress8)), (MdMode, .inl (cI, 4000, .inl dMode8)), (MdCode, .inl (cI, 4000, .inl dCode8)), (MdWindow, .inl (cI, 4000, .inl dWindow8)), (MsData, .inl (cB, 8000, .inl da8)), (MsCodes, .inl (cB, 30000, .inl co8)), (MsAddresses, .inl (cB, 30000, .inl ad8)), (Mw, .inl (cB, 30000, .inl w7)), (mm, .inr (9, fl 78 g_28)), (Mtab, .inl (cB, 1536, .inl t9)), (Mown, .inl (cB, 1536, .inl mown))] := hD
                    obtain ⟨f_hus9, near_hus9, same_hus9, hus9_⟩ := hus9
                    have k5_g_28 : g_28 5 = .int (nI near) := (f_hus9 5 (by decide)).trans ((hf_l3 5 (by decide)).trans g_ownNear)
                    have k6_g_28 : g_28 6 = .int (nI same) := (f_hus9 6 (by decide)).trans ((hf_l3 6 (by decide)).trans g_ownSame)
                    have k3_g_28 : g_28 3 = .ref Mfirst := (f_hus9 3 (by decide)).trans ((hf_l3 3 (by decide)).trans g_first)
                    have k4_g_28 : g_28 4 = .ref Mown := (f_hus9 4 (by decide)).trans ((hf_l3 4 (by decide)).trans g_own)
                    have k7_g_28 : g_28 7 = .ref Mtab := (f_hus9 7 (by decide)).trans ((hf_l3 7 (by decide)).trans g_tab)
                    have k64_g_28 : g_28 64 = .ref Mu := (f_hus9 64 (by decide)).trans ((hf_l3 64 (by decide)).trans g_u)
                    have k68_g_28 : g_28 68 = .ref MqKind := (f_hus9 68 (by decide)).trans ((hf_l3 68 (by decide)).trans g_qKind)
                    have k69_g_28 : g_28 69 = .ref MqSize := (f_hus9 69 (by decide)).trans ((hf_l3 69 (by decide)).trans g_qSize)
                    have k70_g_28 : g_28 70 = .ref MqAt := (f_hus9 70 (by decide)).trans ((hf_l3 70 (by decide)).trans g_qAt)
                    have k71_g_28 : g_28 71 = .ref MqAddress := (f_hus9 71 (by decide)).trans ((hf_l3 71 (by decide)).trans g_qAddress)
                    have k72_g_28 : g_28 72 = .ref MqMode := (f_hus9 72 (by decide)).trans ((hf_l3 72 (by decide)).trans g_qMode)
                    have k10_g_28 : g_28 10 = .ref Mnears := (f_hus9 10 (by decide)).trans ((hf_l3 10 (by decide)).trans g_nears)
                    have k12_g_28 : g_28 12 = .ref Msames := (f_hus9 12 (by decide)).trans ((hf_l3 12 (by decide)).trans g_sames)
                    have k58_g_28 : g_28 58 = .ref MsData := (f_hus9 58 (by decide)).trans ((hf_l3 58 (by decide)).trans g_sData)
                    have k60_g_28 : g_28 60 = .ref MsCodes := (f_hus9 60 (by decide)).trans ((hf_l3 60 (by decide)).trans g_sCodes)
                    have k62_g_28 : g_28 62 = .ref MsAddresses := (f_hus9 62 (by decide)).trans ((hf_l3 62 (by decide)).trans g_sAddresses)
                    have k21_g_28 : g_28 21 = .ref MdKind := (f_hus9 21 (by decide)).trans ((hf_l3 21 (by decide)).trans g_dKind)
                    have k22_g_28 : g_28 22 = .ref MdSize := (f_hus9 22 (by decide)).trans ((hf_l3 22 (by decide)).trans g_dSize)
                    have k23_g_28 : g_28 23 = .ref MdAddress := (f_hus9 23 (by decide)).trans ((hf_l3 23 (by decide)).trans g_dAddress)
                    have k24_g_28 : g_28 24 = .ref MdMode := (f_hus9 24 (by decide)).trans ((hf_l3 24 (by decide)).trans g_dMode)
                    have k25_g_28 : g_28 25 = .ref MdCode := (f_hus9 25 (by decide)).trans ((hf_l3 25 (by decide)).trans g_dCode)
                    have k26_g_28 : g_28 26 = .ref MdWindow := (f_hus9 26 (by decide)).trans ((hf_l3 26 (by decide)).trans g_dWindow)
                    have k56_g_28 : g_28 56 = .ref Mw := (f_hus9 56 (by decide)).trans ((hf_l3 56 (by decide)).trans g_w)
                    have k74_g_28 : g_28 74 = .ref MtableDelta := (f_hus9 74 (by decide)).trans ((hf_l3 74 (by decide)).trans g_tableDelta)
                    have k57_g_28 : g_28 57 = .int (nI (OL ++ wtH near same (wtQ (fun j => nI (firstT j)) (fun j => nI (tt j)))).length) := (f_hus9 57 (by decide)).trans (kx_27)
                    have k39_g_28 : g_28 39 = .int (bI true) := (f_hus9 39 (by decide)).trans (k_counts_l3)
                    have k20_g_28 : g_28 20 = .int (nI dr) := (f_hus9 20 (by decide)).trans (k_drafts_l3)
                    have fr_g_28 : frm [57, 8, 9, 39, 20, 65, 66, 67, 73, 59, 61, 63, 11] g g_28 := frm_tr hf_l3 f_hus9 (by decide)
                    have hP := hP.sub (ws' := [(mm, .inr (9, fl 78 g_28)), (Mfirst, .inl (cB, 1536, .inl mfirst)), (Mown, .inl (cB, 1536, .inl mown)), (Mtab, .inl (cB, 1536, .inl t9)), (Mu, .inl (cB, 8000, .inl u7)), (MqKind, .inl (cI, 4100, .inl qKind8)), (MqSize, .inl (cI, 4100, .inl qSize8)), (MqAt, .inl (cI, 4100, .inl qAt8)), (MqAddress, .inl (cI, 4100, .inl qAddress8)), (MqMode, .inl (cI, 4100, .inl m8_)), (Mnears, .inl (cJ, 8, .inr (.inl fn8))), (Msames, .inl (cJ, 1024, .inr (.inl fs8))), (MsData, .inl (cB, 8000, .inl da8)), (MsCodes, .inl (cB, 30000, .inl co8)), (MsAddresses, .inl (cB, 30000, .inl ad8)), (MdKind, .inl (cI, 4000, .inl dKind8)), (MdSize, .inl (cI, 4000, .inl dSize8)), (MdAddress, .inl (cI, 4000, .inl dAddress8)), (MdMode, .inl (cI, 4000, .inl dMode8)), (MdCode, .inl (cI, 4000, .inl dCode8)), (MdWindow, .inl (cI, 4000, .inl dWindow8)), (Mw, .inl (cB, 30000, .inl w7)), (MtableDelta, .inl (cB, 8000, .inl td7))]) [20, 1, 22, 21, 4, 5, 6, 7, 8, 9, 2, 3, 16, 17, 18, 10, 11, 12, 13, 14, 15, 19, 0] rfl
                    have hD := hD.sub (ws' := [(mm, .inr (9, fl 78 g_28)), (Mfirst, .inl (cB, 1536, .inl mfirst)), (Mown, .inl (cB, 1536, .inl mown)), (Mtab, .inl (cB, 1536, .inl t9)), (Mu, .inl (cB, 8000, .inl u7)), (MqKind, .inl (cI, 4100, .inl qKind8)), (MqSize, .inl (cI, 4100, .inl qSize8)), (MqAt, .inl (cI, 4100, .inl qAt8)), (MqAddress, .inl (cI, 4100, .inl qAddress8)), (MqMode, .inl (cI, 4100, .inl m8_)), (Mnears, .inl (cJ, 8, .inr (.inl fn8))), (Msames, .inl (cJ, 1024, .inr (.inl fs8))), (MsData, .inl (cB, 8000, .inl da8)), (MsCodes, .inl (cB, 30000, .inl co8)), (MsAddresses, .inl (cB, 30000, .inl ad8)), (MdKind, .inl (cI, 4000, .inl dKind8)), (MdSize, .inl (cI, 4000, .inl dSize8)), (MdAddress, .inl (cI, 4000, .inl dAddress8)), (MdMode, .inl (cI, 4000, .inl dMode8)), (MdCode, .inl (cI, 4000, .inl dCode8)), (MdWindow, .inl (cI, 4000, .inl dWindow8)), (Mw, .inl (cB, 30000, .inl w7)), (MtableDelta, .inl (cB, 8000, .inl td7))]) [20, 1, 22, 21, 4, 5, 6, 7, 8, 9, 2, 3, 16, 17, 18, 10, 11, 12, 13, 14, 15, 19, 0] (by decide) rfl
                    exact hret 212 ls _ _ (g_28, t9, u7, qKind8, qSize8, qAt8, qAddress8, m8_, fn8, fs8, da8, co8, ad8, dKind8, dSize8, dAddress8, dMode8, dCode8, dWindow8, w7, td7) dX9_putTable_212 hP hD hS (⟨fr_g_28, k57_g_28, near_hus9, same_hus9, k39_g_28, k20_g_28, ⟨by rw [← hfin]; exact hw7, hus9_⟩⟩)
                  · have hk9 : k < QL.length := Nat.not_le.mp (fun q => c_26 (nI_le q (by omega)))
                    refine lv_aload_n hx hb dX9_putTable_179 rfl (lv_at hl 0 rfl) ?_
                    refine lv_aload_n hx hb dX9_putTable_180 rfl (lv_at hl 0 rfl) ?_
                    refine fx_get (D := D) (ci := 9) (v := .ref MtableDelta) (C := RX9) (T := TX9) (N := 78) hx hb hts in_X9 hown hK hP 0 rfl rfl 74 (by decide) (hts _ kX9_118) (fun _ h9 => h9) ((hf_l3 74 (by decide)).trans g_tableDelta) dX9_putTable_181 ?_
                    refine lv_iload hx hb dX9_putTable_184 (lv_at hl 3 rfl) ?_
                    refine ax_bld hx hb hK hP 2 1 rfl rfl k (rfl) (by omega) (by omega) dX9_putTable_186 ?_
                    refine ri (y := (QL.getD k 0).toInt8.toInt32) (ht7 k hk9) ?_
                    refine jn_v (wr := [(Mown, .inl (cB, 1536, .inl mown)), (MtableDelta, .inl (cB, 8000, .inl td7)), (Mfirst, .inl (cB, 1536, .inl mfirst)), (Mtab, .inl (cB, 1536, .inl t7)), (Mnears, .inl (cJ, 8, .inr (.inl fn8))), (Msames, .inl (cJ, 1024, .inr (.inl fs8))), (Mu, .inl (cB, 8000, .inl u7)), (MqKind, .inl (cI, 4100, .inl qKind8)), (MqSize, .inl (cI, 4100, .inl qSize8)), (MqAt, .inl (cI, 4100, .inl qAt8)), (MqAddress, .inl (cI, 4100, .inl qAddress8)), (MqMode, .inl (cI, 4100, .inl m8_)), (MdKind, .inl (cI, 4000, .inl dKind8)), (MdSize, .inl (cI, 4000, .inl dSize8)), (MdAddress, .inl (cI, 4000, .inl dAddress8)), (MdMode, .inl (cI, 4000, .inl dMode8)), (MdCode, .inl (cI, 4000, .inl dCode8)), (MdWindow, .inl (cI, 4000, .inl dWindow8)), (MsData, .inl (cB, 8000, .inl da8)), (MsCodes, .inl (cB, 30000, .inl co8)), (MsAddresses, .inl (cB, 30000, .inl ad8))]) hA hP hD hS [0, 22] [1, 2, 3, 4, 5, 6, 7, 8, 9, 10, 11, 12, 13, 14, 15, 16, 17, 18, 19, 20, 21] rfl rfl (by decide) (by decide) (rn_V (As := [.int ((QL.getD k 0).toInt8.toInt32)]) (rest := []) ⟨hx, hb, hml, hown, hts⟩ (cvV 1 hts zc_yX9_put zi_X9 zm_yX9_put zv_yX9_put kX9_353 (by decide +kernel) rfl rfl ⟨Nat.le_of_ble_eq_true rfl, Nat.le_of_ble_eq_true rfl⟩) (m_put l D cI cB cJ cR mm g5_l3 Mw w7 (OB ++ QL.take k) ((QL.getD k 0).toInt8.toInt32) (k_wrote_l3) ((hf_l3 56 (by decide)).trans g_w) (by rw [List.length_append, List.length_take]; omega) (hw7) H.size) hK hNw hMk hA hP hD hS [0, 22] rfl rfl (by decide) 0 rfl rfl rfl rfl hl.1 rfl (Nat.le_of_ble_eq_true rfl) dX9_putTable_187 ⟨Nat.le_of_ble_eq_true rfl, Nat.le_of_ble_eq_true rfl⟩) (fun u9 H locs hpx hP hD hS => ?_)
                    obtain ⟨g_30, w9⟩ := u9
                    try dsimp only at hpx
                    have hP : va_P D vwCl [(Mown, .inl (cB, 1536, .inl mown)), (MtableDelta, .inl (cB, 8000, .inl td7)), (Mfirst, .inl (cB, 1536, .inl mfirst)), (Mtab, .inl (cB, 1536, .inl t7)), (Mnears, .inl (cJ, 8, .inr (.inl fn8))), (Msames, .inl (cJ, 1024, .inr (.inl fs8))), (Mu, .inl (cB, 8000, .inl u7)), (MqKind, .inl (cI, 4100, .inl qKind8)), (MqSize, .inl (cI, 4100, .inl qSize8)), (MqAt, .inl (cI, 4100, .inl qAt8)), (MqAddress, .inl (cI, 4100, .inl qAddress8)), (MqMode, .inl (cI, 4100, .inl m8_)), (MdKind, .inl (cI, 4000, .inl dKind8)), (MdSize, .inl (cI, 4000, .inl dSize8)), (MdAddress, .inl (cI, 4000, .inl dAddress8)), (MdMode, .inl (cI, 4000, .inl dMode8)), (MdCode, .inl (cI, 4000, .inl dCode8)), (MdWindow, .inl (cI, 4000, .inl dWindow8)), (MsData, .inl (cB, 8000, .inl da8)), (MsCodes, .inl (cB, 30000, .inl co8)), (MsAddresses, .inl (cB, 30000, .inl ad8)), (mm, .inr (9, fl 78 g_30)), (Mw, .inl (cB, 30000, .inl w9))] H := hP
                    have hD : va_D A0 [(Mown, .inl (cB, 1536, .inl mown)), (MtableDelta, .inl (cB, 8000, .inl td7)), (Mfirst, .inl (cB, 1536, .inl mfirst)), (Mtab, .inl (cB, 1536, .inl t7)), (Mnears, .inl (cJ, 8, .inr (.inl fn8))), (Msames, .inl (cJ, 1024, .inr (.inl fs8))), (Mu, .inl (cB, 8000, .inl u7)), (MqKind, .inl (cI, 4100, .inl qKind8)), (MqSize, .inl (cI, 4100, .inl qSize8)), (MqAt, .inl (cI, 4100, .inl qAt8)), (MqAddress, .inl (cI, 4100, .inl qAddress8)), (MqMode, .inl (cI, 4100, .inl m8_)), (MdKind, .inl (cI, 4000, .inl dKind8)), (MdSize, .inl (cI, 4000, .inl dSize8)), (MdAddress, .inl (cI, 4000, .inl dAddress8)), (MdMode, .inl (cI, 4000, .inl dMode8)), (MdCode, .inl (cI, 4000, .inl dCode8)), (MdWindow, .inl (cI, 4000, .inl dWindow8)), (MsData, .inl (cB, 8000, .inl da8)), (MsCodes, .inl (cB, 30000, .inl co8)), (MsAddresses, .inl (cB, 30000, .inl ad8)), (mm, .inr (9, fl 78 g_30)), (Mw, .inl (cB, 30000, .inl w9))] := hD
                    obtain ⟨f_hpx, wrote_hpx, hpx_⟩ := hpx
                    have k5_g_30 : g_30 5 = .int (nI near) := (f_hpx 5 (by decide)).trans ((hf_l3 5 (by decide)).trans g_ownNear)
                    have k6_g_30 : g_30 6 = .int (nI same) := (f_hpx 6 (by decide)).trans ((hf_l3 6 (by decide)).trans g_ownSame)
                    have k3_g_30 : g_30 3 = .ref Mfirst := (f_hpx 3 (by decide)).trans ((hf_l3 3 (by decide)).trans g_first)
                    have k4_g_30 : g_30 4 = .ref Mown := (f_hpx 4 (by decide)).trans ((hf_l3 4 (by decide)).trans g_own)
                    have k7_g_30 : g_30 7 = .ref Mtab := (f_hpx 7 (by decide)).trans ((hf_l3 7 (by decide)).trans g_tab)
                    have k64_g_30 : g_30 64 = .ref Mu := (f_hpx 64 (by decide)).trans ((hf_l3 64 (by decide)).trans g_u)
                    have k68_g_30 : g_30 68 = .ref MqKind := (f_hpx 68 (by decide)).trans ((hf_l3 68 (by decide)).trans g_qKind)
                    have k69_g_30 : g_30 69 = .ref MqSize := (f_hpx 69 (by decide)).trans ((hf_l3 69 (by decide)).trans g_qSize)
                    have k70_g_30 : g_30 70 = .ref MqAt := (f_hpx 70 (by decide)).trans ((hf_l3 70 (by decide)).trans g_qAt)
                    have k71_g_30 : g_30 71 = .ref MqAddress := (f_hpx 71 (by decide)).trans ((hf_l3 71 (by decide)).trans g_qAddress)
                    have k72_g_30 : g_30 72 = .ref MqMode := (f_hpx 72 (by decide)).trans ((hf_l3 72 (by decide)).trans g_qMode)
                    have k10_g_30 : g_30 10 = .ref Mnears := (f_hpx 10 (by decide)).trans ((hf_l3 10 (by decide)).trans g_nears)
                    have k12_g_30 : g_30 12 = .ref Msames := (f_hpx 12 (by decide)).trans ((hf_l3 12 (by decide)).trans g_sames)
                    have k58_g_30 : g_30 58 = .ref MsData := (f_hpx 58 (by decide)).trans ((hf_l3 58 (by decide)).trans g_sData)
                    have k60_g_30 : g_30 60 = .ref MsCodes := (f_hpx 60 (by decide)).trans ((hf_l3 60 (by decide)).trans g_sCodes)
                    have k62_g_30 : g_30 62 = .ref MsAddresses := (f_hpx 62 (by decide)).trans ((hf_l3 62 (by decide)).trans g_sAddresses)
                    have k21_g_30 : g_30 21 = .ref MdKind := (f_hpx 21 (by decide)).trans ((hf_l3 21 (by decide)).trans g_dKind)
                    have k22_g_30 : g_30 22 = .ref MdSize := (f_hpx 22 (by decide)).trans ((hf_l3 22 (by decide)).trans g_dSize)
                    have k23_g_30 : g_30 23 = .ref MdAddress := (f_hpx 23 (by decide)).trans ((hf_l3 23 (by decide)).trans g_dAddress)
                    have k24_g_30 : g_30 24 = .ref MdMode := (f_hpx 24 (by decide)).trans ((hf_l3 24 (by decide)).trans g_dMode)
                    have k25_g_30 : g_30 25 = .ref MdCode := (f_hpx 25 (by decide)).trans ((hf_l3 25 (by decide)).trans g_dCode)
                    have k26_g_30 : g_30 26 = .ref MdWindow := (f_hpx 26 (by decide)).trans ((hf_l3 26 (by decide)).trans g_dWindow)
                    have k56_g_30 : g_30 56 = .ref Mw := (f_hpx 56 (by decide)).trans ((hf_l3 56 (by decide)).trans g_w)
                    have k74_g_30 : g_30 74 = .ref MtableDelta := (f_hpx 74 (by decide)).trans ((hf_l3 74 (by decide)).trans g_tableDelta)
                    have k39_g_30 : g_30 39 = .int (bI true) := (f_hpx 39 (by decide)).trans (k_counts_l3)
                    have k20_g_30 : g_30 20 = .int (nI dr) := (f_hpx 20 (by decide)).trans (k_drafts_l3)
                    have fr_g_30 : frm [57, 8, 9, 39, 20, 65, 66, 67, 73, 59, 61, 63, 11] g g_30 := frm_tr hf_l3 f_hpx (by decide)
                    have htk : QL.take (k + 1) = QL.take k ++ [QL.getD k 0] := by rw [List.take_succ]; congr 1; simp [List.getD, hk9]
                    have kx_32 : g_30 57 = .int (nI (OB ++ QL.take (k + 1)).length) := by have h9 : g_30 57 = .int (nI ((OB ++ QL.take k).length + 1)) := wrote_hpx; rw [h9]; exact congrArg Value.int (by rw [htk, ← List.append_assoc]; exact congrArg nI len1)
                    refine lv_iinc (v := nI (k + 1)) (lv' := [(4, .int (nI (k + 1))), (0, .ref mm), (1, .int (nI OL.length)), (3, .int (nI QL.length))]) hx hb dX9_putTable_190 hl (k := 3) rfl (nI_add k 1) (by decide) rfl (fun ls hl => ?_)
                    refine lv_goto (tgt := 173) hx hb dX9_putTable_193 (by decide) ?_
                    exact ih3 g_30 (k + 1) w9 _ _ ls (by omega) (fr_g_30) (kx_32) (k39_g_30) (k20_g_30) (by omega) (by rw [htk, ← List.append_assoc]; exact wL_re hpx_) (hP.sub [21, 0, 1, 2, 3, 4, 5, 6, 7, 8, 9, 10, 11, 12, 13, 14, 15, 16, 17, 18, 19, 20, 22] rfl) (hD.sub [21, 0, 1, 2, 3, 4, 5, 6, 7, 8, 9, 10, 11, 12, 13, 14, 15, 16, 17, 18, 19, 20, 22] (by decide) rfl) hS (lv_sub hl [1, 2, 3, 0] rfl)
              have kx_33 : g_22 57 = .int (nI (OB ++ QL.take 0).length) := by have h9 : g_22 57 = .int (nI OB.length) := kx_25; rw [h9]; exact congrArg Value.int (by simp)
              exact l3 _ g_22 0 wc _ _ ls (Nat.lt_succ_self _) (fr_g_22) (kx_33) (k39_g_22) (k20_g_22) (Nat.zero_le _) (by rw [List.take_zero, List.append_nil]; exact hpc_) (hP.sub [21, 0, 1, 2, 3, 4, 5, 6, 7, 8, 9, 10, 11, 12, 13, 14, 15, 16, 17, 18, 19, 20, 22] rfl) (hD.sub [21, 0, 1, 2, 3, 4, 5, 6, 7, 8, 9, 10, 11, 12, 13, 14, 15, 16, 17, 18, 19, 20, 22] (by decide) rfl) hS (lv_sub hl [1, 2, 3, 0] rfl)
            · have hi9 : i < QL.length := Nat.not_le.mp (fun q => c_16 (nI_le q (by omega)))
              refine lv_aload_n hx hb dX9_putTable_119 rfl (lv_at hl 0 rfl) ?_
              refine fx_get (D := D) (ci := 9) (v := .ref MtableDelta) (C := RX9) (T := TX9) (N := 78) hx hb hts in_X9 hown hK hP 0 rfl rfl 74 (by decide) (hts _ kX9_118) (fun _ h9 => h9) ((hf_l2 74 (by decide)).trans g_tableDelta) dX9_putTable_120 ?_
              refine lv_iload hx hb dX9_putTable_123 (lv_at hl 3 rfl) ?_
              refine lv_aload_n hx hb dX9_putTable_125 rfl (lv_at hl 0 rfl) ?_
              refine fx_get (D := D) (ci := 9) (v := .ref Mw) (C := RX9) (T := TX9) (N := 78) hx hb hts in_X9 hown hK hP 0 rfl rfl 56 (by decide) (hts _ kX9_88) (fun _ h9 => h9) ((hf_l2 56 (by decide)).trans g_w) dX9_putTable_126 ?_
              refine lv_iload_n hx hb dX9_putTable_129 rfl (lv_at hl 1 rfl) ?_
              refine lv_iload hx hb dX9_putTable_130 (lv_at hl 3 rfl) ?_
              refine lv_iadd hx hb dX9_putTable_132 ?_
              refine ri (y := nI (OL.length + i)) (nI_add OL.length i) ?_
              refine ax_bld hx hb hK hP 19 1 rfl rfl (OL.length + i) (rfl) (by omega) (by omega) dX9_putTable_133 ?_
              refine ri (y := (QL.getD i 0).toInt8.toInt32) (wL_at hpw_ hi9 (by omega)) ?_
              refine ax_bst hx hb hK hP hD hS 2 1 rfl rfl i (rfl) (by omega) (by omega) (z := (QL.getD i 0).toInt8.toInt32) (b8) dX9_putTable_134 (fun H locs hP hD hS => ?_)
              have hP : va_P D vwCl [(mm, .inr (9, fl 78 g5_l2)), (Mown, .inl (cB, 1536, .inl mown)), (MtableDelta, .inl (cB, 8000, .inl (upd td7 i ((QL.getD i 0).toInt8.toInt32)))), (Mfirst, .inl (cB, 1536, .inl mfirst)), (Mtab, .inl (cB, 1536, .inl t7)), (Mnears, .inl (cJ, 8, .inr (.inl fn8))), (Msames, .inl (cJ, 1024, .inr (.inl fs8))), (Mu, .inl (cB, 8000, .inl u7)), (MqKind, .inl (cI, 4100, .inl qKind8)), (MqSize, .inl (cI, 4100, .inl qSize8)), (MqAt, .inl (cI, 4100, .inl qAt8)), (MqAddress, .inl (cI, 4100, .inl qAddress8)), (MqMode, .inl (cI, 4100, .inl m8_)), (MdKind, .inl (cI, 4000, .inl dKind8)), (MdSize, .inl (cI, 4000, .inl dSize8)), (MdAddress, .inl (cI, 4000, .inl dAddress8)), (MdMode, .inl (cI, 4000, .inl dMode8)), (MdCode, .inl (cI, 4000, .inl dCode8)), (MdWindow, .inl (cI, 4000, .inl dWindow8)), (Mw, .inl (cB, 30000, .inl w8)), (MsData, .inl (cB, 8000, .inl da8)), (MsCodes, .inl (cB, 30000, .inl co8)), (MsAddresses, .inl (cB, 30000, .inl ad8))] H := hP
              have hD : va_D A0 [(mm, .inr (9, fl 78 g5_l2)), (Mown, .inl (cB, 1536, .inl mown)), (MtableDelta, .inl (cB, 8000, .inl (upd td7 i ((QL.getD i 0).toInt8.toInt32)))), (Mfirst, .inl (cB, 1536, .inl mfirst)), (Mtab, .inl (cB, 1536, .inl t7)), (Mnears, .inl (cJ, 8, .inr (.inl fn8))), (Msames, .inl (cJ, 1024, .inr (.inl fs8))), (Mu, .inl (cB, 8000, .inl u7)), (MqKind, .inl (cI, 4100, .inl qKind8)), (MqSize, .inl (cI, 4100, .inl qSize8)), (MqAt, .inl (cI, 4100, .inl qAt8)), (MqAddress, .inl (cI, 4100, .inl qAddress8)), (MqMode, .inl (cI, 4100, .inl m8_)), (MdKind, .inl (cI, 4000, .inl dKind8)), (MdSize, .inl (cI, 4000, .inl dSize8)), (MdAddress, .inl (cI, 4000, .inl dAddress8)), (MdMode, .inl (cI, 4000, .inl dMode8)), (MdCode, .inl (cI, 4000, .inl dCode8)), (MdWindow, .inl (cI, 4000, .inl dWindow8)), (Mw, .inl (cB, 30000, .inl w8)), (MsData, .inl (cB, 8000, .inl da8)), (MsCodes, .inl (cB, 30000, .inl co8)), (MsAddresses, .inl (cB, 30000, .inl ad8))] := hD
              refine lv_iinc (v := nI (i + 1)) (lv' := [(4, .int (nI (i + 1))), (0, .ref mm), (1, .int (nI OL.length)), (3, .int (nI QL.length))]) hx hb dX9_putTable_135 hl (k := 3) rfl (nI_add i 1) (by decide) rfl (fun ls hl => ?_)
              refine lv_goto (tgt := 113) hx hb dX9_putTable_138 (by decide) ?_
              exact ih g5_l2 (i + 1) (upd td7 i (QL.getD i 0).toInt8.toInt32) _ _ ls (by omega) (hf_l2) (k_counts_l2) (k_drafts_l2) (by omega) (fun j hj => by by_cases q : j = i; subst q; exact pk_us; rw [pk_un q]; exact ht7 j (by omega)) hP hD hS (lv_sub hl [1, 2, 3, 0] rfl)
        exact l2 _ (va_up g_13 39 (.int (bI true))) 0 mtableDelta _ _ ls (Nat.lt_succ_self _) ((frm_up fr_g_13 (by decide))) (rfl) (k20_g_13) (Nat.zero_le _) (fun j hj => absurd hj (Nat.not_lt_zero j)) (hP.sub [18, 0, 1, 2, 3, 4, 5, 6, 7, 8, 9, 10, 11, 12, 13, 14, 15, 16, 17, 19, 20, 21, 22] rfl) (hD.sub [18, 0, 1, 2, 3, 4, 5, 6, 7, 8, 9, 10, 11, 12, 13, 14, 15, 16, 17, 19, 20, 21, 22] (by decide) rfl) hS (lv_sub hl [3, 4, 1, 0] rfl)
      · have hi9 : i < 1536 := Nat.not_le.mp (fun q => c_5 (nI_le (a := 1536) q (by omega)))
        refine lv_aload_n hx hb dX9_putTable_34 rfl (lv_at hl 0 rfl) ?_
        refine fx_get (D := D) (ci := 9) (v := .ref Mu) (C := RX9) (T := TX9) (N := 78) hx hb hts in_X9 hown hK hP 0 rfl rfl 64 (by decide) (hts _ kX9_100) (fun _ h9 => h9) ((hf_l1 64 (by decide)).trans g_u) dX9_putTable_35 ?_
        refine lv_iload_n hx hb dX9_putTable_38 rfl (lv_at hl 2 rfl) ?_
        refine lv_aload_n hx hb dX9_putTable_39 rfl (lv_at hl 0 rfl) ?_
        refine fx_get (D := D) (ci := 9) (v := .ref Mfirst) (C := RX9) (T := TX9) (N := 78) hx hb hts in_X9 hown hK hP 0 rfl rfl 3 (by decide) (hts _ kX9_17) (fun _ h9 => h9) ((hf_l1 3 (by decide)).trans g_first) dX9_putTable_40 ?_
        refine lv_iload_n hx hb dX9_putTable_43 rfl (lv_at hl 2 rfl) ?_
        refine ax_bld hx hb hK hP 21 1 rfl rfl i (rfl) (by omega) (by omega) dX9_putTable_44 ?_
        refine ri (y := s8 (firstT i)) ((hft i hi9).1) ?_
        refine ax_bst hx hb hK hP hD hS 2 1 rfl rfl i (rfl) (by omega) (by omega) (z := s8 (firstT i)) (s8_re _ (hft i hi9).2) dX9_putTable_45 (fun H locs hP hD hS => ?_)
        have hP : va_P D vwCl [(mm, .inr (9, fl 78 g5_l1)), (Mown, .inl (cB, 1536, .inl mown)), (Mu, .inl (cB, 8000, .inl (upd u7 i (s8 (firstT i))))), (MqKind, .inl (cI, 4100, .inl mqKind)), (MqSize, .inl (cI, 4100, .inl mqSize)), (MqAt, .inl (cI, 4100, .inl mqAt)), (MqAddress, .inl (cI, 4100, .inl mqAddress)), (MqMode, .inl (cI, 4100, .inl mqMode)), (Mnears, .inl (cJ, 8, .inr (.inl mnears))), (Msames, .inl (cJ, 1024, .inr (.inl msames))), (MsData, .inl (cB, 8000, .inl msData)), (MsCodes, .inl (cB, 30000, .inl msCodes)), (MsAddresses, .inl (cB, 30000, .inl msAddresses)), (MdKind, .inl (cI, 4000, .inl mdKind)), (MdSize, .inl (cI, 4000, .inl mdSize)), (MdAddress, .inl (cI, 4000, .inl mdAddress)), (MdMode, .inl (cI, 4000, .inl mdMode)), (MdCode, .inl (cI, 4000, .inl mdCode)), (MdWindow, .inl (cI, 4000, .inl mdWindow)), (MtableDelta, .inl (cB, 8000, .inl mtableDelta)), (Mtab, .inl (cB, 1536, .inl t7)), (Mfirst, .inl (cB, 1536, .inl mfirst)), (Mw, .inl (cB, 30000, .inl w5))] H := hP
        have hD : va_D A0 [(mm, .inr (9, fl 78 g5_l1)), (Mown, .inl (cB, 1536, .inl mown)), (Mu, .inl (cB, 8000, .inl (upd u7 i (s8 (firstT i))))), (MqKind, .inl (cI, 4100, .inl mqKind)), (MqSize, .inl (cI, 4100, .inl mqSize)), (MqAt, .inl (cI, 4100, .inl mqAt)), (MqAddress, .inl (cI, 4100, .inl mqAddress)), (MqMode, .inl (cI, 4100, .inl mqMode)), (Mnears, .inl (cJ, 8, .inr (.inl mnears))), (Msames, .inl (cJ, 1024, .inr (.inl msames))), (MsData, .inl (cB, 8000, .inl msData)), (MsCodes, .inl (cB, 30000, .inl msCodes)), (MsAddresses, .inl (cB, 30000, .inl msAddresses)), (MdKind, .inl (cI, 4000, .inl mdKind)), (MdSize, .inl (cI, 4000, .inl mdSize)), (MdAddress, .inl (cI, 4000, .inl mdAddress)), (MdMode, .inl (cI, 4000, .inl mdMode)), (MdCode, .inl (cI, 4000, .inl mdCode)), (MdWindow, .inl (cI, 4000, .inl mdWindow)), (MtableDelta, .inl (cB, 8000, .inl mtableDelta)), (Mtab, .inl (cB, 1536, .inl t7)), (Mfirst, .inl (cB, 1536, .inl mfirst)), (Mw, .inl (cB, 30000, .inl w5))] := hD
        refine lv_aload_n hx hb dX9_putTable_46 rfl (lv_at hl 0 rfl) ?_
        refine fx_get (D := D) (ci := 9) (v := .ref Mu) (C := RX9) (T := TX9) (N := 78) hx hb hts in_X9 hown hK hP 0 rfl rfl 64 (by decide) (hts _ kX9_100) (fun _ h9 => h9) ((hf_l1 64 (by decide)).trans g_u) dX9_putTable_47 ?_
        refine lv_sipush (v := 1536) hx hb dX9_putTable_50 (by decide) ?_
        refine lv_iload_n hx hb dX9_putTable_53 rfl (lv_at hl 2 rfl) ?_
        refine lv_iadd hx hb dX9_putTable_54 ?_
        refine ri (y := nI (1536 + i)) (nI_add 1536 i) ?_
        refine lv_aload_n hx hb dX9_putTable_55 rfl (lv_at hl 0 rfl) ?_
        refine fx_get (D := D) (ci := 9) (v := .ref Mown) (C := RX9) (T := TX9) (N := 78) hx hb hts in_X9 hown hK hP 0 rfl rfl 4 (by decide) (hts _ kX9_20) (fun _ h9 => h9) ((hf_l1 4 (by decide)).trans g_own) dX9_putTable_56 ?_
        refine lv_iload_n hx hb dX9_putTable_59 rfl (lv_at hl 2 rfl) ?_
        refine ax_bld hx hb hK hP 1 1 rfl rfl i (rfl) (by omega) (by omega) dX9_putTable_60 ?_
        refine ri (y := s8 (tt i)) ((ho i hi9).1) ?_
        refine ax_bst hx hb hK hP hD hS 2 1 rfl rfl (1536 + i) (rfl) (by omega) (by omega) (z := s8 (tt i)) (s8_re _ (ho i hi9).2) dX9_putTable_61 (fun H locs hP hD hS => ?_)
        have hP : va_P D vwCl [(mm, .inr (9, fl 78 g5_l1)), (Mown, .inl (cB, 1536, .inl mown)), (Mu, .inl (cB, 8000, .inl (upd (upd u7 i (s8 (firstT i))) (1536 + i) (s8 (tt i))))), (MqKind, .inl (cI, 4100, .inl mqKind)), (MqSize, .inl (cI, 4100, .inl mqSize)), (MqAt, .inl (cI, 4100, .inl mqAt)), (MqAddress, .inl (cI, 4100, .inl mqAddress)), (MqMode, .inl (cI, 4100, .inl mqMode)), (Mnears, .inl (cJ, 8, .inr (.inl mnears))), (Msames, .inl (cJ, 1024, .inr (.inl msames))), (MsData, .inl (cB, 8000, .inl msData)), (MsCodes, .inl (cB, 30000, .inl msCodes)), (MsAddresses, .inl (cB, 30000, .inl msAddresses)), (MdKind, .inl (cI, 4000, .inl mdKind)), (MdSize, .inl (cI, 4000, .inl mdSize)), (MdAddress, .inl (cI, 4000, .inl mdAddress)), (MdMode, .inl (cI, 4000, .inl mdMode)), (MdCode, .inl (cI, 4000, .inl mdCode)), (MdWindow, .inl (cI, 4000, .inl mdWindow)), (MtableDelta, .inl (cB, 8000, .inl mtableDelta)), (Mtab, .inl (cB, 1536, .inl t7)), (Mfirst, .inl (cB, 1536, .inl mfirst)), (Mw, .inl (cB, 30000, .inl w5))] H := hP
        have hD : va_D A0 [(mm, .inr (9, fl 78 g5_l1)), (Mown, .inl (cB, 1536, .inl mown)), (Mu, .inl (cB, 8000, .inl (upd (upd u7 i (s8 (firstT i))) (1536 + i) (s8 (tt i))))), (MqKind, .inl (cI, 4100, .inl mqKind)), (MqSize, .inl (cI, 4100, .inl mqSize)), (MqAt, .inl (cI, 4100, .inl mqAt)), (MqAddress, .inl (cI, 4100, .inl mqAddress)), (MqMode, .inl (cI, 4100, .inl mqMode)), (Mnears, .inl (cJ, 8, .inr (.inl mnears))), (Msames, .inl (cJ, 1024, .inr (.inl msames))), (MsData, .inl (cB, 8000, .inl msData)), (MsCodes, .inl (cB, 30000, .inl msCodes)), (MsAddresses, .inl (cB, 30000, .inl msAddresses)), (MdKind, .inl (cI, 4000, .inl mdKind)), (MdSize, .inl (cI, 4000, .inl mdSize)), (MdAddress, .inl (cI, 4000, .inl mdAddress)), (MdMode, .inl (cI, 4000, .inl mdMode)), (MdCode, .inl (cI, 4000, .inl mdCode)), (MdWindow, .inl (cI, 4000, .inl mdWindow)), (MtableDelta, .inl (cB, 8000, .inl mtableDelta)), (Mtab, .inl (cB, 1536, .inl t7)), (Mfirst, .inl (cB, 1536, .inl mfirst)), (Mw, .inl (cB, 30000, .inl w5))] := hD
        refine lv_iinc (v := nI (i + 1)) (lv' := [(2, .int (nI (i + 1))), (0, .ref mm), (1, .int (nI OL.length))]) hx hb dX9_putTable_62 hl (k := 2) rfl (nI_add i 1) (by decide) rfl (fun ls hl => ?_)
        refine lv_goto (tgt := 27) hx hb dX9_putTable_65 (by decide) ?_
        exact ih g5_l1 (i + 1) (upd (upd u7 i (s8 (firstT i))) (1536 + i) (s8 (tt i))) _ _ ls (by omega) (hf_l1) (k_wrote_l1) (k_near_l1) (k_same_l1) (k_counts_l1) (k_drafts_l1) (by omega) (fun j hj => by rw [pk_un (by omega)]; by_cases q : j = i; subst q; exact pk_us; rw [pk_un q]; exact hu1 j (by omega)) (fun j hj => by by_cases q : j = i; subst q; exact pk_us; rw [pk_un (by omega), pk_un (by omega)]; exact hu2 j (by omega)) hP hD hS (lv_sub hl [1, 2, 0] rfl)
  exact l1 _ g_3 0 mu _ _ ls (Nat.lt_succ_self _) (fr_g_3) (wrote_hhd) (k8_g_3) (k9_g_3) (k39_g_3) (k20_g_3) (Nat.zero_le _) (fun j hj => absurd hj (Nat.not_lt_zero j)) (fun j hj => absurd hj (Nat.not_lt_zero j)) (hP.sub [21, 0, 1, 2, 3, 4, 5, 6, 7, 8, 9, 10, 11, 12, 13, 14, 15, 16, 17, 18, 19, 20, 22] rfl) (hD.sub [21, 0, 1, 2, 3, 4, 5, 6, 7, 8, 9, 10, 11, 12, 13, 14, 15, 16, 17, 18, 19, 20, 22] (by decide) rfl) hS (lv_sub hl [2, 1, 0] rfl)
