/-! a WINDOW encoded by the reference -/
theorem qM_put {k z a m : Nat → Int32} {Q : List QI} {x : QI} (h : qM k z a m Q) (h1 : k Q.length = nI x.1) (h2 : z Q.length = nI x.2.1) (h3 : a Q.length = nI x.2.2.1) (h4 : m Q.length = nI x.2.2.2) : qM k z a m (Q ++ [x]) := by
  intro i hi
  rw [List.length_append] at hi
  have hi : i < Q.length + 1 := hi
  by_cases q : i = Q.length
  · subst q; rw [gD_r (Nat.le_refl _), Nat.sub_self]; exact ⟨h1, h2, h3, h4⟩
  · rw [gD_l (by omega)]; exact h i (by omega)
theorem qM_up {k z a m : Nat → Int32} {Q : List QI} {x : QI} {v : Int32} (h : qM k z a m Q) (h1 : k Q.length = nI x.1) (h2 : z Q.length = nI x.2.1) (h3 : a Q.length = nI x.2.2.1) (h4 : v = nI x.2.2.2) : qM k z a (upd m Q.length v) (Q ++ [x]) := by
  refine qM_put (fun i hi => ?_) h1 h2 h3 (by rw [pk_us]; exact h4)
  have := h i hi
  rw [pk_un (show i ≠ Q.length by omega)]
  exact this
theorem foldl_Q {near same : Nat} {T : Nat → Int32} : ∀ (L : List Ins) (s : WS), (List.foldl (insF near same T) s L).2.2.2.2.2.length = s.2.2.2.2.2.length + L.length
  | [], s => rfl
  | x :: r, s => by
    rw [List.foldl_cons, foldl_Q r]
    obtain ⟨Dl, A, nx, cN, cS, Q⟩ := s
    obtain ⟨k, z, p, a⟩ := x
    have : (insF near same T (Dl, A, nx, cN, cS, Q) (k, z, p, a)).2.2.2.2.2.length = Q.length + 1 := by
      unfold insF
      dsimp only
      split
      · simp
      · split <;> simp
    rw [this, List.length_cons]
    show Q.length + 1 + r.length = Q.length + (r.length + 1)
    omega
theorem dRel_wr {k z a m c w : Nat → Int32} {g : Nat → Nat → Int32} {cnt : Nat} {L : List (Nat → Int32)} (h : dRel k z a m c w g cnt) : dRel k z a m c w (wrG g cnt L) cnt := by
  intro i hi hl
  rw [wrG, if_neg (by omega)]
  exact h i hi hl
theorem ish_s : ∀ n, n < 5 → ((7 * nI n &&& 31 : Int32).toBitVec.smod 32).toNat = 7 * n := by decide +kernel
theorem ish7 {a n : Nat} (ha : a < 2 ^ 31) (hn : n < 5) : nI a >>> (7 * nI n &&& 31) = nI (a / 128 ^ n) := by
  rw [pk_shrN ha _ (7 * n) (ish_s n hn), Nat.pow_mul]
theorem qz_fold {near same : Nat} {T : Nat → Int32} {en : Nat} : ∀ (L : List Ins) (pa : Bool) (p : Nat) (s : WS), tile pa p en L → (∀ x, x ∈ s.2.2.2.2.2 → 1 ≤ x.2.1) → ∀ x, x ∈ (List.foldl (insF near same T) s L).2.2.2.2.2 → 1 ≤ x.2.1
  | [], _, _, _ => fun _ h => h
  | (k, z, q, a) :: r, pa, p, (Dl, A, nx, cN, cS, Q) => fun ht h => by
    obtain ⟨t1, t2, t3, t4, t5, t6⟩ := ht
    rw [List.foldl_cons]
    refine qz_fold r _ _ _ t6 ?_
    intro x hx
    unfold insF at hx
    dsimp only at hx
    split at hx
    · rcases List.mem_append.mp hx with hx | hx
      · exact h x hx
      · rw [List.mem_singleton.mp hx]; exact t2
    · split at hx
      · rcases List.mem_append.mp hx with hx | hx
        · exact h x hx
        · rw [List.mem_singleton.mp hx]; exact t2
      · rcases List.mem_append.mp hx with hx | hx
        · exact h x hx
        · rw [List.mem_singleton.mp hx]; exact t2
theorem qz_of {near same : Nat} {T : Nat → Int32} {sg en : Nat} {L : List Ins} {Dl A : List Int32} {nx : Nat} {cN cS : Nat → Nat} {Q : List QI} (ht : tile false sg en L) (h : (Dl, A, nx, cN, cS, Q) = winS near same L T) : ∀ x, x ∈ Q → 1 ≤ x.2.1 := by
  have h9 := qz_fold (near := near) (same := same) (T := T) L false sg ([], [], 0, fun _ => 0, fun _ => 0, []) ht (fun x hx => absurd hx (by simp))
  have e : (winS near same L T).2.2.2.2.2 = Q := by rw [← h]
  unfold winS at e
  rw [e] at h9
  exact h9
set_option maxHeartbeats 4000000 in
set_option maxRecDepth 100000 in
theorem m_encode (l : Launch) (D : va_G) (cI cB cJ cR : ClassId) (mm : Nat) (g : Nat → Value) (Mtab : Nat) (Mnears : Nat) (Msames : Nat) (Mu : Nat) (MqKind : Nat) (MqSize : Nat) (MqAt : Nat) (MqAddress : Nat) (MqMode : Nat) (MsData : Nat) (MsCodes : Nat) (MsAddresses : Nat) (MdKind : Nat) (MdSize : Nat) (MdAddress : Nat) (MdMode : Nat) (MdCode : Nat) (MdWindow : Nat) (mtab : Nat → Int32) (mnears : Nat → Int64) (msames : Nat → Int64) (mu : Nat → Int32) (mqKind : Nat → Int32) (mqSize : Nat → Int32) (mqAt : Nat → Int32) (mqAddress : Nat → Int32) (mqMode : Nat → Int32) (msData : Nat → Int32) (msCodes : Nat → Int32) (msAddresses : Nat → Int32) (mdKind : Nat → Int32) (mdSize : Nat → Int32) (mdAddress : Nat → Int32) (mdMode : Nat → Int32) (mdCode : Nat → Int32) (mdWindow : Nat → Int32) (near : Nat) (same : Nat) (sg : Nat) (en : Nat) (dr : Nat) (cnt : Nat) (wi : Nat) (L : List Ins) (ct : Bool) (ub : Nat → Nat) (tt : Nat → Nat) (gg : Nat → Nat → Int32) (g_near : g 8 = .int (nI near)) (g_same : g 9 = .int (nI same)) (g_waits : g 67 = .int (nI L.length)) (g_counts : g 39 = .int (bI ct)) (g_drafts : g 20 = .int (nI dr)) (g_tab : g 7 = .ref Mtab) (g_nears : g 10 = .ref Mnears) (g_sames : g 12 = .ref Msames) (g_u : g 64 = .ref Mu) (g_qKind : g 68 = .ref MqKind) (g_qSize : g 69 = .ref MqSize) (g_qAt : g 70 = .ref MqAt) (g_qAddress : g 71 = .ref MqAddress) (g_qMode : g 72 = .ref MqMode) (g_sData : g 58 = .ref MsData) (g_sCodes : g 60 = .ref MsCodes) (g_sAddresses : g 62 = .ref MsAddresses) (g_dKind : g 21 = .ref MdKind) (g_dSize : g 22 = .ref MdSize) (g_dAddress : g 23 = .ref MdAddress) (g_dMode : g 24 = .ref MdMode) (g_dCode : g 25 = .ref MdCode) (g_dWindow : g 26 = .ref MdWindow) (h8 : near ≤ 8) (h4 : same ≤ 4) (hse : sg ≤ en) (he8 : en ≤ 8000) (h4k : en - sg ≤ 4000) (htl : tile false sg en L) (ha0 : ∀ i, i < L.length → ¬ (L.getD i (0, 0, 0, 0)).1 = 3 → (L.getD i (0, 0, 0, 0)).2.2.2 = 0) (hq : qR mqKind mqSize mqAt mqAddress mqMode L) (ht : bys mtab tt 1536) (hrt : rightP tt (near + same + 2) 512) (hub : ∀ j, ub j < 256) (hu : ∀ j, j < en → mu j = s8 (ub j)) (hcn : cnt < 2 ^ 24) (hct : ct = true → dr = cnt ∧ dRel mdKind mdSize mdAddress mdMode mdCode mdWindow gg cnt) (hwi : wi < 2 ^ 24) (hdr : dr < 2 ^ 24) : CMz l yX9_encode cX9_encode 6 (some .boolean) ({ frames := 3, cells := 0, slots := 0, locals := 74 }) D (tyA cI cB cJ cR) 0 0 [.ref mm, .int (nI wi)] [(mm, .inr (9, fl 78 g)), (Mtab, .inl (cB, 1536, .inl mtab)), (Mnears, .inl (cJ, 8, .inr (.inl mnears))), (Msames, .inl (cJ, 1024, .inr (.inl msames))), (Mu, .inl (cB, 8000, .inl mu)), (MqKind, .inl (cI, 4100, .inl mqKind)), (MqSize, .inl (cI, 4100, .inl mqSize)), (MqAt, .inl (cI, 4100, .inl mqAt)), (MqAddress, .inl (cI, 4100, .inl mqAddress)), (MqMode, .inl (cI, 4100, .inl mqMode)), (MsData, .inl (cB, 8000, .inl msData)), (MsCodes, .inl (cB, 30000, .inl msCodes)), (MsAddresses, .inl (cB, 30000, .inl msAddresses)), (MdKind, .inl (cI, 4000, .inl mdKind)), (MdSize, .inl (cI, 4000, .inl mdSize)), (MdAddress, .inl (cI, 4000, .inl mdAddress)), (MdMode, .inl (cI, 4000, .inl mdMode)), (MdCode, .inl (cI, 4000, .inl mdCode)), (MdWindow, .inl (cI, 4000, .inl mdWindow))] (fun (r : Bool) (u9 : (Nat → Value) × Nat × Int32 × Int32 × Int32 × Int32 × (Nat → Int64) × (Nat → Int64) × (Nat → Int32) × (Nat → Int32) × (Nat → Int32) × (Nat → Int32) × (Nat → Int32) × (Nat → Int32) × (Nat → Int32) × (Nat → Int32) × (Nat → Int32) × (Nat → Int32)) => match u9 with | (g9, dr2, sd2, sc2, sa2, nv2, fn2, fs2, m2, da2, co2, ad2, dKind2, dSize2, dAddress2, dMode2, dCode2, dWindow2) => frm [20, 59, 61, 63, 11] g g9 ∧ g9 20 = .int (nI dr2) ∧ g9 59 = .int sd2 ∧ g9 61 = .int sc2 ∧ g9 63 = .int sa2 ∧ g9 11 = .int nv2 ∧ r = (cdW tt (winS near same L (fun j => nI (ub j))).2.2.2.2.2).1 ∧ ((cdW tt (winS near same L (fun j => nI (ub j))).2.2.2.2.2).1 = true → sd2 = nI (winS near same L (fun j => nI (ub j))).1.length ∧ sc2 = nI (cdW tt (winS near same L (fun j => nI (ub j))).2.2.2.2.2).2.1.length ∧ sa2 = nI (winS near same L (fun j => nI (ub j))).2.1.length ∧ wL 8000 da2 (winS near same L (fun j => nI (ub j))).1 ∧ wL 30000 co2 (cdW tt (winS near same L (fun j => nI (ub j))).2.2.2.2.2).2.1 ∧ wL 30000 ad2 (winS near same L (fun j => nI (ub j))).2.1 ∧ (ct = true → dr2 = cnt + (winS near same L (fun j => nI (ub j))).2.2.2.2.2.length ∧ dRel dKind2 dSize2 dAddress2 dMode2 dCode2 dWindow2 (wrG gg cnt (rwQ wi (winS near same L (fun j => nI (ub j))).2.2.2.2.2 (cdW tt (winS near same L (fun j => nI (ub j))).2.2.2.2.2).2.2)) dr2)) ∧ (ct = false → dr2 = dr)) (fun (u9 : (Nat → Value) × Nat × Int32 × Int32 × Int32 × Int32 × (Nat → Int64) × (Nat → Int64) × (Nat → Int32) × (Nat → Int32) × (Nat → Int32) × (Nat → Int32) × (Nat → Int32) × (Nat → Int32) × (Nat → Int32) × (Nat → Int32) × (Nat → Int32) × (Nat → Int32)) => match u9 with | (g9, dr2, sd2, sc2, sa2, nv2, fn2, fs2, m2, da2, co2, ad2, dKind2, dSize2, dAddress2, dMode2, dCode2, dWindow2) => [(mm, .inr (9, fl 78 g9)), (Mtab, .inl (cB, 1536, .inl mtab)), (Mnears, .inl (cJ, 8, .inr (.inl fn2))), (Msames, .inl (cJ, 1024, .inr (.inl fs2))), (Mu, .inl (cB, 8000, .inl mu)), (MqKind, .inl (cI, 4100, .inl mqKind)), (MqSize, .inl (cI, 4100, .inl mqSize)), (MqAt, .inl (cI, 4100, .inl mqAt)), (MqAddress, .inl (cI, 4100, .inl mqAddress)), (MqMode, .inl (cI, 4100, .inl m2)), (MsData, .inl (cB, 8000, .inl da2)), (MsCodes, .inl (cB, 30000, .inl co2)), (MsAddresses, .inl (cB, 30000, .inl ad2)), (MdKind, .inl (cI, 4000, .inl dKind2)), (MdSize, .inl (cI, 4000, .inl dSize2)), (MdAddress, .inl (cI, 4000, .inl dAddress2)), (MdMode, .inl (cI, 4000, .inl dMode2)), (MdCode, .inl (cI, 4000, .inl dCode2)), (MdWindow, .inl (cI, 4000, .inl dWindow2))]) := by
  refine st_z (cc := cX9_encode) (maxL := 6) (by decide) (Nat.le_of_ble_eq_true rfl) ?_
  intro p0 e0 s0 m0 below meth c0 A0 Q0 hBD hret hP hD hS ls hl
  obtain ⟨hx, hb, hml, hown, hts, hnm, hK, hNw, hMk, hA⟩ := hBD
  have hl : lv_has ls 6 [(0, .ref mm), (1, .int (nI wi))] := hl
  have hP : va_P D vwCl [(mm, .inr (9, fl 78 g)), (Mtab, .inl (cB, 1536, .inl mtab)), (Mnears, .inl (cJ, 8, .inr (.inl mnears))), (Msames, .inl (cJ, 1024, .inr (.inl msames))), (Mu, .inl (cB, 8000, .inl mu)), (MqKind, .inl (cI, 4100, .inl mqKind)), (MqSize, .inl (cI, 4100, .inl mqSize)), (MqAt, .inl (cI, 4100, .inl mqAt)), (MqAddress, .inl (cI, 4100, .inl mqAddress)), (MqMode, .inl (cI, 4100, .inl mqMode)), (MsData, .inl (cB, 8000, .inl msData)), (MsCodes, .inl (cB, 30000, .inl msCodes)), (MsAddresses, .inl (cB, 30000, .inl msAddresses)), (MdKind, .inl (cI, 4000, .inl mdKind)), (MdSize, .inl (cI, 4000, .inl mdSize)), (MdAddress, .inl (cI, 4000, .inl mdAddress)), (MdMode, .inl (cI, 4000, .inl mdMode)), (MdCode, .inl (cI, 4000, .inl mdCode)), (MdWindow, .inl (cI, 4000, .inl mdWindow))] s0.heap := hP
  have hD : va_D A0 [(mm, .inr (9, fl 78 g)), (Mtab, .inl (cB, 1536, .inl mtab)), (Mnears, .inl (cJ, 8, .inr (.inl mnears))), (Msames, .inl (cJ, 1024, .inr (.inl msames))), (Mu, .inl (cB, 8000, .inl mu)), (MqKind, .inl (cI, 4100, .inl mqKind)), (MqSize, .inl (cI, 4100, .inl mqSize)), (MqAt, .inl (cI, 4100, .inl mqAt)), (MqAddress, .inl (cI, 4100, .inl mqAddress)), (MqMode, .inl (cI, 4100, .inl mqMode)), (MsData, .inl (cB, 8000, .inl msData)), (MsCodes, .inl (cB, 30000, .inl msCodes)), (MsAddresses, .inl (cB, 30000, .inl msAddresses)), (MdKind, .inl (cI, 4000, .inl mdKind)), (MdSize, .inl (cI, 4000, .inl mdSize)), (MdAddress, .inl (cI, 4000, .inl mdAddress)), (MdMode, .inl (cI, 4000, .inl mdMode)), (MdCode, .inl (cI, 4000, .inl mdCode)), (MdWindow, .inl (cI, 4000, .inl mdWindow))] := hD
  obtain ⟨R9, hR9⟩ : ∃ R9, R9 = (winS near same L (fun j => nI (ub j))) := ⟨_, rfl⟩
  have hbd := winS_bd (near := near) (same := same) (U := (fun j => nI (ub j))) h8 h4 he8 htl
  rw [← hR9] at hbd
  have hLl : L.length = (winS near same L (fun j => nI (ub j))).2.2.2.2.2.length := by rw [winS, foldl_Q]; show _ = 0 + _; omega
  rw [← hR9] at hLl
  refine lv_aload_n hx hb dX9_encode_0 rfl (lv_at hl 0 rfl) ?_
  refine jn_v (wr := [(Mtab, .inl (cB, 1536, .inl mtab)), (Mu, .inl (cB, 8000, .inl mu)), (MqKind, .inl (cI, 4100, .inl mqKind)), (MqSize, .inl (cI, 4100, .inl mqSize)), (MqAt, .inl (cI, 4100, .inl mqAt)), (MqAddress, .inl (cI, 4100, .inl mqAddress)), (MqMode, .inl (cI, 4100, .inl mqMode)), (MsData, .inl (cB, 8000, .inl msData)), (MsCodes, .inl (cB, 30000, .inl msCodes)), (MsAddresses, .inl (cB, 30000, .inl msAddresses)), (MdKind, .inl (cI, 4000, .inl mdKind)), (MdSize, .inl (cI, 4000, .inl mdSize)), (MdAddress, .inl (cI, 4000, .inl mdAddress)), (MdMode, .inl (cI, 4000, .inl mdMode)), (MdCode, .inl (cI, 4000, .inl mdCode)), (MdWindow, .inl (cI, 4000, .inl mdWindow))]) hA hP hD hS [0, 2, 3] [1, 4, 5, 6, 7, 8, 9, 10, 11, 12, 13, 14, 15, 16, 17, 18] rfl rfl (by decide) (by decide) (rn_V (As := []) (rest := []) ⟨hx, hb, hml, hown, hts⟩ (cvV 0 hts zc_yX9_clearCaches zi_X9 zm_yX9_clearCaches zv_yX9_clearCaches kX9_287 (by decide +kernel) rfl rfl ⟨Nat.le_of_ble_eq_true rfl, Nat.le_of_ble_eq_true rfl⟩) (m_clearCaches l D cI cB cJ cR mm g Mnears Msames mnears msames (g_nears) (g_sames) s0.heap.size) hK hNw hMk hA hP hD hS [0, 2, 3] rfl rfl (by decide) 0 rfl rfl rfl rfl hl.1 rfl (Nat.le_of_ble_eq_true rfl) dX9_encode_1 ⟨Nat.le_of_ble_eq_true rfl, Nat.le_of_ble_eq_true rfl⟩) (fun u9 H locs hcl hP hD hS => ?_)
  obtain ⟨g_1, fnb, fsb⟩ := u9
  try dsimp only at hcl
  have hP : va_P D vwCl [(Mtab, .inl (cB, 1536, .inl mtab)), (Mu, .inl (cB, 8000, .inl mu)), (MqKind, .inl (cI, 4100, .inl mqKind)), (MqSize, .inl (cI, 4100, .inl mqSize)), (MqAt, .inl (cI, 4100, .inl mqAt)), (MqAddress, .inl (cI, 4100, .inl mqAddress)), (MqMode, .inl (cI, 4100, .inl mqMode)), (MsData, .inl (cB, 8000, .inl msData)), (MsCodes, .inl (cB, 30000, .inl msCodes)), (MsAddresses, .inl (cB, 30000, .inl msAddresses)), (MdKind, .inl (cI, 4000, .inl mdKind)), (MdSize, .inl (cI, 4000, .inl mdSize)), (MdAddress, .inl (cI, 4000, .inl mdAddress)), (MdMode, .inl (cI, 4000, .inl mdMode)), (MdCode, .inl (cI, 4000, .inl mdCode)), (MdWindow, .inl (cI, 4000, .inl mdWindow)), (mm, .inr (9, fl 78 g_1)), (Mnears, .inl (cJ, 8, .inr (.inl fnb))), (Msames, .inl (cJ, 1024, .inr (.inl fsb)))] H := hP
  have hD : va_D A0 [(Mtab, .inl (cB, 1536, .inl mtab)), (Mu, .inl (cB, 8000, .inl mu)), (MqKind, .inl (cI, 4100, .inl mqKind)), (MqSize, .inl (cI, 4100, .inl mqSize)), (MqAt, .inl (cI, 4100, .inl mqAt)), (MqAddress, .inl (cI, 4100, .inl mqAddress)), (MqMode, .inl (cI, 4100, .inl mqMode)), (MsData, .inl (cB, 8000, .inl msData)), (MsCodes, .inl (cB, 30000, .inl msCodes)), (MsAddresses, .inl (cB, 30000, .inl msAddresses)), (MdKind, .inl (cI, 4000, .inl mdKind)), (MdSize, .inl (cI, 4000, .inl mdSize)), (MdAddress, .inl (cI, 4000, .inl mdAddress)), (MdMode, .inl (cI, 4000, .inl mdMode)), (MdCode, .inl (cI, 4000, .inl mdCode)), (MdWindow, .inl (cI, 4000, .inl mdWindow)), (mm, .inr (9, fl 78 g_1)), (Mnears, .inl (cJ, 8, .inr (.inl fnb))), (Msames, .inl (cJ, 1024, .inr (.inl fsb)))] := hD
  obtain ⟨f_hcl, nextNear_hcl, hcl_⟩ := hcl
  have k8_g_1 : g_1 8 = .int (nI near) := (f_hcl 8 (by decide)).trans (g_near)
  have k9_g_1 : g_1 9 = .int (nI same) := (f_hcl 9 (by decide)).trans (g_same)
  have k67_g_1 : g_1 67 = .int (nI L.length) := (f_hcl 67 (by decide)).trans (g_waits)
  have k39_g_1 : g_1 39 = .int (bI ct) := (f_hcl 39 (by decide)).trans (g_counts)
  have k20_g_1 : g_1 20 = .int (nI dr) := (f_hcl 20 (by decide)).trans (g_drafts)
  have k7_g_1 : g_1 7 = .ref Mtab := (f_hcl 7 (by decide)).trans (g_tab)
  have k10_g_1 : g_1 10 = .ref Mnears := (f_hcl 10 (by decide)).trans (g_nears)
  have k12_g_1 : g_1 12 = .ref Msames := (f_hcl 12 (by decide)).trans (g_sames)
  have k64_g_1 : g_1 64 = .ref Mu := (f_hcl 64 (by decide)).trans (g_u)
  have k68_g_1 : g_1 68 = .ref MqKind := (f_hcl 68 (by decide)).trans (g_qKind)
  have k69_g_1 : g_1 69 = .ref MqSize := (f_hcl 69 (by decide)).trans (g_qSize)
  have k70_g_1 : g_1 70 = .ref MqAt := (f_hcl 70 (by decide)).trans (g_qAt)
  have k71_g_1 : g_1 71 = .ref MqAddress := (f_hcl 71 (by decide)).trans (g_qAddress)
  have k72_g_1 : g_1 72 = .ref MqMode := (f_hcl 72 (by decide)).trans (g_qMode)
  have k58_g_1 : g_1 58 = .ref MsData := (f_hcl 58 (by decide)).trans (g_sData)
  have k60_g_1 : g_1 60 = .ref MsCodes := (f_hcl 60 (by decide)).trans (g_sCodes)
  have k62_g_1 : g_1 62 = .ref MsAddresses := (f_hcl 62 (by decide)).trans (g_sAddresses)
  have k21_g_1 : g_1 21 = .ref MdKind := (f_hcl 21 (by decide)).trans (g_dKind)
  have k22_g_1 : g_1 22 = .ref MdSize := (f_hcl 22 (by decide)).trans (g_dSize)
  have k23_g_1 : g_1 23 = .ref MdAddress := (f_hcl 23 (by decide)).trans (g_dAddress)
  have k24_g_1 : g_1 24 = .ref MdMode := (f_hcl 24 (by decide)).trans (g_dMode)
  have k25_g_1 : g_1 25 = .ref MdCode := (f_hcl 25 (by decide)).trans (g_dCode)
  have k26_g_1 : g_1 26 = .ref MdWindow := (f_hcl 26 (by decide)).trans (g_dWindow)
  have fr_g_1 : frm [20, 59, 61, 63, 11] g g_1 := frm_tr frm_refl f_hcl (by decide)
  refine lv_aload_n hx hb dX9_encode_4 rfl (lv_at hl 0 rfl) ?_
  refine lv_iconst (v := 0) hx hb dX9_encode_5 (by decide) ?_
  refine ri (y := nI ([] : List Int32).length) (rfl) ?_
  refine fx_put (D := D) (ci := 9) (v := .int (nI ([] : List Int32).length)) (ty := .int) (C := RX9) (T := TX9) (N := 78) hx hb hts in_X9 tyX9 tyX9_ok nmX9 hown hK hP hD hS 16 rfl rfl 59 (by decide) (hts _ kX9_388) (fun _ h9 => h9) rfl (by decide +kernel) rfl rfl dX9_encode_6 (fun H locs hP hD hS => ?_)
  have hP : va_P D vwCl [(Mtab, .inl (cB, 1536, .inl mtab)), (Mu, .inl (cB, 8000, .inl mu)), (MqKind, .inl (cI, 4100, .inl mqKind)), (MqSize, .inl (cI, 4100, .inl mqSize)), (MqAt, .inl (cI, 4100, .inl mqAt)), (MqAddress, .inl (cI, 4100, .inl mqAddress)), (MqMode, .inl (cI, 4100, .inl mqMode)), (MsData, .inl (cB, 8000, .inl msData)), (MsCodes, .inl (cB, 30000, .inl msCodes)), (MsAddresses, .inl (cB, 30000, .inl msAddresses)), (MdKind, .inl (cI, 4000, .inl mdKind)), (MdSize, .inl (cI, 4000, .inl mdSize)), (MdAddress, .inl (cI, 4000, .inl mdAddress)), (MdMode, .inl (cI, 4000, .inl mdMode)), (MdCode, .inl (cI, 4000, .inl mdCode)), (MdWindow, .inl (cI, 4000, .inl mdWindow)), (mm, .inr (9, fl 78 (va_up g_1 59 (.int (nI ([] : List Int32).length))))), (Mnears, .inl (cJ, 8, .inr (.inl fnb))), (Msames, .inl (cJ, 1024, .inr (.inl fsb)))] H := hP
  have hD : va_D A0 [(Mtab, .inl (cB, 1536, .inl mtab)), (Mu, .inl (cB, 8000, .inl mu)), (MqKind, .inl (cI, 4100, .inl mqKind)), (MqSize, .inl (cI, 4100, .inl mqSize)), (MqAt, .inl (cI, 4100, .inl mqAt)), (MqAddress, .inl (cI, 4100, .inl mqAddress)), (MqMode, .inl (cI, 4100, .inl mqMode)), (MsData, .inl (cB, 8000, .inl msData)), (MsCodes, .inl (cB, 30000, .inl msCodes)), (MsAddresses, .inl (cB, 30000, .inl msAddresses)), (MdKind, .inl (cI, 4000, .inl mdKind)), (MdSize, .inl (cI, 4000, .inl mdSize)), (MdAddress, .inl (cI, 4000, .inl mdAddress)), (MdMode, .inl (cI, 4000, .inl mdMode)), (MdCode, .inl (cI, 4000, .inl mdCode)), (MdWindow, .inl (cI, 4000, .inl mdWindow)), (mm, .inr (9, fl 78 (va_up g_1 59 (.int (nI ([] : List Int32).length))))), (Mnears, .inl (cJ, 8, .inr (.inl fnb))), (Msames, .inl (cJ, 1024, .inr (.inl fsb)))] := hD
  refine lv_aload_n hx hb dX9_encode_9 rfl (lv_at hl 0 rfl) ?_
  refine lv_iconst (v := 0) hx hb dX9_encode_10 (by decide) ?_
  refine ri (y := nI ([] : List Int32).length) (rfl) ?_
  refine fx_put (D := D) (ci := 9) (v := .int (nI ([] : List Int32).length)) (ty := .int) (C := RX9) (T := TX9) (N := 78) hx hb hts in_X9 tyX9 tyX9_ok nmX9 hown hK hP hD hS 16 rfl rfl 61 (by decide) (hts _ kX9_385) (fun _ h9 => h9) rfl (by decide +kernel) rfl rfl dX9_encode_11 (fun H locs hP hD hS => ?_)
  have hP : va_P D vwCl [(Mtab, .inl (cB, 1536, .inl mtab)), (Mu, .inl (cB, 8000, .inl mu)), (MqKind, .inl (cI, 4100, .inl mqKind)), (MqSize, .inl (cI, 4100, .inl mqSize)), (MqAt, .inl (cI, 4100, .inl mqAt)), (MqAddress, .inl (cI, 4100, .inl mqAddress)), (MqMode, .inl (cI, 4100, .inl mqMode)), (MsData, .inl (cB, 8000, .inl msData)), (MsCodes, .inl (cB, 30000, .inl msCodes)), (MsAddresses, .inl (cB, 30000, .inl msAddresses)), (MdKind, .inl (cI, 4000, .inl mdKind)), (MdSize, .inl (cI, 4000, .inl mdSize)), (MdAddress, .inl (cI, 4000, .inl mdAddress)), (MdMode, .inl (cI, 4000, .inl mdMode)), (MdCode, .inl (cI, 4000, .inl mdCode)), (MdWindow, .inl (cI, 4000, .inl mdWindow)), (mm, .inr (9, fl 78 (va_up (va_up g_1 59 (.int (nI ([] : List Int32).length))) 61 (.int (nI ([] : List Int32).length))))), (Mnears, .inl (cJ, 8, .inr (.inl fnb))), (Msames, .inl (cJ, 1024, .inr (.inl fsb)))] H := hP
  have hD : va_D A0 [(Mtab, .inl (cB, 1536, .inl mtab)), (Mu, .inl (cB, 8000, .inl mu)), (MqKind, .inl (cI, 4100, .inl mqKind)), (MqSize, .inl (cI, 4100, .inl mqSize)), (MqAt, .inl (cI, 4100, .inl mqAt)), (MqAddress, .inl (cI, 4100, .inl mqAddress)), (MqMode, .inl (cI, 4100, .inl mqMode)), (MsData, .inl (cB, 8000, .inl msData)), (MsCodes, .inl (cB, 30000, .inl msCodes)), (MsAddresses, .inl (cB, 30000, .inl msAddresses)), (MdKind, .inl (cI, 4000, .inl mdKind)), (MdSize, .inl (cI, 4000, .inl mdSize)), (MdAddress, .inl (cI, 4000, .inl mdAddress)), (MdMode, .inl (cI, 4000, .inl mdMode)), (MdCode, .inl (cI, 4000, .inl mdCode)), (MdWindow, .inl (cI, 4000, .inl mdWindow)), (mm, .inr (9, fl 78 (va_up (va_up g_1 59 (.int (nI ([] : List Int32).length))) 61 (.int (nI ([] : List Int32).length))))), (Mnears, .inl (cJ, 8, .inr (.inl fnb))), (Msames, .inl (cJ, 1024, .inr (.inl fsb)))] := hD
  refine lv_aload_n hx hb dX9_encode_14 rfl (lv_at hl 0 rfl) ?_
  refine lv_iconst (v := 0) hx hb dX9_encode_15 (by decide) ?_
  refine ri (y := nI ([] : List Int32).length) (rfl) ?_
  refine fx_put (D := D) (ci := 9) (v := .int (nI ([] : List Int32).length)) (ty := .int) (C := RX9) (T := TX9) (N := 78) hx hb hts in_X9 tyX9 tyX9_ok nmX9 hown hK hP hD hS 16 rfl rfl 63 (by decide) (hts _ kX9_375) (fun _ h9 => h9) rfl (by decide +kernel) rfl rfl dX9_encode_16 (fun H locs hP hD hS => ?_)
  have hP : va_P D vwCl [(Mtab, .inl (cB, 1536, .inl mtab)), (Mu, .inl (cB, 8000, .inl mu)), (MqKind, .inl (cI, 4100, .inl mqKind)), (MqSize, .inl (cI, 4100, .inl mqSize)), (MqAt, .inl (cI, 4100, .inl mqAt)), (MqAddress, .inl (cI, 4100, .inl mqAddress)), (MqMode, .inl (cI, 4100, .inl mqMode)), (MsData, .inl (cB, 8000, .inl msData)), (MsCodes, .inl (cB, 30000, .inl msCodes)), (MsAddresses, .inl (cB, 30000, .inl msAddresses)), (MdKind, .inl (cI, 4000, .inl mdKind)), (MdSize, .inl (cI, 4000, .inl mdSize)), (MdAddress, .inl (cI, 4000, .inl mdAddress)), (MdMode, .inl (cI, 4000, .inl mdMode)), (MdCode, .inl (cI, 4000, .inl mdCode)), (MdWindow, .inl (cI, 4000, .inl mdWindow)), (mm, .inr (9, fl 78 (va_up (va_up (va_up g_1 59 (.int (nI ([] : List Int32).length))) 61 (.int (nI ([] : List Int32).length))) 63 (.int (nI ([] : List Int32).length))))), (Mnears, .inl (cJ, 8, .inr (.inl fnb))), (Msames, .inl (cJ, 1024, .inr (.inl fsb)))] H := hP
  have hD : va_D A0 [(Mtab, .inl (cB, 1536, .inl mtab)), (Mu, .inl (cB, 8000, .inl mu)), (MqKind, .inl (cI, 4100, .inl mqKind)), (MqSize, .inl (cI, 4100, .inl mqSize)), (MqAt, .inl (cI, 4100, .inl mqAt)), (MqAddress, .inl (cI, 4100, .inl mqAddress)), (MqMode, .inl (cI, 4100, .inl mqMode)), (MsData, .inl (cB, 8000, .inl msData)), (MsCodes, .inl (cB, 30000, .inl msCodes)), (MsAddresses, .inl (cB, 30000, .inl msAddresses)), (MdKind, .inl (cI, 4000, .inl mdKind)), (MdSize, .inl (cI, 4000, .inl mdSize)), (MdAddress, .inl (cI, 4000, .inl mdAddress)), (MdMode, .inl (cI, 4000, .inl mdMode)), (MdCode, .inl (cI, 4000, .inl mdCode)), (MdWindow, .inl (cI, 4000, .inl mdWindow)), (mm, .inr (9, fl 78 (va_up (va_up (va_up g_1 59 (.int (nI ([] : List Int32).length))) 61 (.int (nI ([] : List Int32).length))) 63 (.int (nI ([] : List Int32).length))))), (Mnears, .inl (cJ, 8, .inr (.inl fnb))), (Msames, .inl (cJ, 1024, .inr (.inl fsb)))] := hD
  refine lv_iconst (v := 0) hx hb dX9_encode_19 (by decide) ?_
  refine ri (y := nI ([] : List Ins).length) (rfl) ?_
  refine lv_istore_n (lv' := [(2, .int (nI ([] : List Ins).length)), (0, .ref mm), (1, .int (nI wi))]) hx hb dX9_encode_20 rfl hl (by decide) rfl (fun ls hl => ?_)
  have l1 : ∀ (k9 : Nat) (g5_l1 : Nat → Value) (L1 : List Ins) (L2 : List Ins) (pa : Bool) (pp : Nat) (Dl : List Int32) (A : List Int32) (nx : Nat) (cN : Nat → Nat) (cS : Nat → Nat) (Q1 : List QI) (fn7 : Nat → Int64) (fs7 : Nat → Int64) (m7 : Nat → Int32) (da7 : Nat → Int32) (ad7 : Nat → Int32) (H : Heap) (locs : List Loc) (ls : Array Slot), L2.length < k9 → (frm [20, 59, 61, 63, 11] g g5_l1) → (g5_l1 59 = .int (nI Dl.length)) → (g5_l1 61 = .int (nI ([] : List Int32).length)) → (g5_l1 63 = .int (nI A.length)) → (g5_l1 11 = .int (nI nx)) → (g5_l1 20 = .int (nI dr)) → (L = L1 ++ L2) → (Q1.length = L1.length) → (R9 = List.foldl (insF near same (fun j => nI (ub j))) (Dl, A, nx, cN, cS, Q1) L2) → (tile pa pp en L2) → (sg ≤ pp ∧ pp ≤ en) → (Dl.length ≤ pp - sg) → (A.length ≤ pp - sg) → (L1.length ≤ pp - sg) → (nx < 8 ∧ (0 < near → nx < near)) → (chR fn7 fs7 cN cS) → (∀ j, j < 8 → cN j < 2 ^ 30) → (∀ j, j < 1024 → cS j < 2 ^ 30) → (qM mqKind mqSize mqAddress m7 Q1) → (∀ i, L1.length ≤ i → i < L.length → m7 i = 0) → (wL 8000 da7 Dl) → (wL 30000 ad7 A) → va_P D vwCl [(mm, .inr (9, fl 78 g5_l1)), (Mtab, .inl (cB, 1536, .inl mtab)), (Mu, .inl (cB, 8000, .inl mu)), (MqKind, .inl (cI, 4100, .inl mqKind)), (MqSize, .inl (cI, 4100, .inl mqSize)), (MqAt, .inl (cI, 4100, .inl mqAt)), (MqAddress, .inl (cI, 4100, .inl mqAddress)), (MqMode, .inl (cI, 4100, .inl m7)), (MsData, .inl (cB, 8000, .inl da7)), (MsCodes, .inl (cB, 30000, .inl msCodes)), (MsAddresses, .inl (cB, 30000, .inl ad7)), (MdKind, .inl (cI, 4000, .inl mdKind)), (MdSize, .inl (cI, 4000, .inl mdSize)), (MdAddress, .inl (cI, 4000, .inl mdAddress)), (MdMode, .inl (cI, 4000, .inl mdMode)), (MdCode, .inl (cI, 4000, .inl mdCode)), (MdWindow, .inl (cI, 4000, .inl mdWindow)), (Mnears, .inl (cJ, 8, .inr (.inl fn7))), (Msames, .inl (cJ, 1024, .inr (.inl fs7)))] H → va_D A0 [(mm, .inr (9, fl 78 g5_l1)), (Mtab, .inl (cB, 1536, .inl mtab)), (Mu, .inl (cB, 8000, .inl mu)), (MqKind, .inl (cI, 4100, .inl mqKind)), (MqSize, .inl (cI, 4100, .inl mqSize)), (MqAt, .inl (cI, 4100, .inl mqAt)), (MqAddress, .inl (cI, 4100, .inl mqAddress)), (MqMode, .inl (cI, 4100, .inl m7)), (MsData, .inl (cB, 8000, .inl da7)), (MsCodes, .inl (cB, 30000, .inl msCodes)), (MsAddresses, .inl (cB, 30000, .inl ad7)), (MdKind, .inl (cI, 4000, .inl mdKind)), (MdSize, .inl (cI, 4000, .inl mdSize)), (MdAddress, .inl (cI, 4000, .inl mdAddress)), (MdMode, .inl (cI, 4000, .inl mdMode)), (MdCode, .inl (cI, 4000, .inl mdCode)), (MdWindow, .inl (cI, 4000, .inl mdWindow)), (Mnears, .inl (cJ, 8, .inr (.inl fn7))), (Msames, .inl (cJ, 1024, .inr (.inl fs7)))] → va_S A0 s0.heap H locs → lv_has ls 6 [(0, .ref mm), (1, .int (nI wi)), (2, .int (nI L1.length))] → W p0 l e0 ({ frames := 3, cells := 0, slots := 0, locals := 74 }) s0 m0 ([.ref mm, .int (nI wi)] : List Value).toArray below meth c0 H locs 0 0 Q0 (F0 m0 21 ls []) := by
    intro k9
    induction k9 with
    | zero => intro g5_l1 L1 L2 pa pp Dl A nx cN cS Q1 fn7 fs7 m7 da7 ad7 H locs ls hk9; exact absurd hk9 (Nat.not_lt_zero _)
    | succ k9 ih =>
      intro g5_l1 L1 L2 pa pp Dl A nx cN cS Q1 fn7 fs7 m7 da7 ad7 H locs ls hk9 hf_l1 k_sDatas_l1 k_sCode_l1 k_sAddress_l1 k_nextNear_l1 k_drafts_l1 hL hQl hR htl2 hpp hDl hAl hL1 hnx hc hcN hcS hqm hm0 hwD hwA hP hD hS hl
      have hLn : L.length = L1.length + L2.length := by rw [hL, List.length_append]
      refine lv_iload_n hx hb dX9_encode_21 rfl (lv_at hl 2 rfl) ?_
      refine lv_aload_n hx hb dX9_encode_22 rfl (lv_at hl 0 rfl) ?_
      refine fx_get (D := D) (ci := 9) (v := .int (nI L.length)) (C := RX9) (T := TX9) (N := 78) hx hb hts in_X9 hown hK hP 0 rfl rfl 67 (by decide) (hts _ kX9_356) (fun _ h9 => h9) ((hf_l1 67 (by decide)).trans g_waits) dX9_encode_23 ?_
      refine lv_icmp_ge (tgt := 150) hx hb dX9_encode_26 (by decide) (fun c_3 => ?_) (fun c_3 => ?_)
      · have hn2 : L2 = [] := List.eq_nil_of_length_eq_zero (by have := (nI_leI (by omega) (by omega)).mp c_3; omega)
        have hRw : R9 = (Dl, A, nx, cN, cS, Q1) := by rw [hR, hn2]; rfl
        have hqo : qOk Q1 := by have := hbd.2.2.2.2.2; rw [hRw] at this; exact this
        have hQn : Q1.length ≤ 4000 := by have := hbd.2.2.1; rw [hRw] at this; have h9 : Q1.length ≤ en - sg := this; omega
        have hqz : ∀ x, x ∈ Q1 → 1 ≤ x.2.1 := qz_of (near := near) (same := same) (T := (fun j => nI (ub j))) htl (by rw [← hRw, hR9])
        have hwq : L.length = Q1.length := by rw [hQl, hLn, hn2]; rfl
        rw [hwq] at g_waits
        refine lv_iconst (v := 0) hx hb dX9_encode_150 (by decide) ?_
        refine ri (y := nI ([] : List QI).length) (rfl) ?_
        refine lv_istore_n (lv' := [(2, .int (nI ([] : List QI).length)), (0, .ref mm), (1, .int (nI wi))]) hx hb dX9_encode_151 rfl hl (by decide) rfl (fun ls hl => ?_)
        have l2 : ∀ (k9 : Nat) (g5_l2 : Nat → Value) (R : List QI) (Qd : List QI) (Os : List Int32) (Cs : List Nat) (dr7 : Nat) (co7 : Nat → Int32) (dKind7 : Nat → Int32) (dSize7 : Nat → Int32) (dAddress7 : Nat → Int32) (dMode7 : Nat → Int32) (dCode7 : Nat → Int32) (dWindow7 : Nat → Int32) (H : Heap) (locs : List Loc) (ls : Array Slot), R.length < k9 → (frm [20, 59, 61, 63, 11] g g5_l2) → (g5_l2 59 = .int (nI Dl.length)) → (g5_l2 61 = .int (nI Os.length)) → (g5_l2 63 = .int (nI A.length)) → (g5_l2 11 = .int (nI nx)) → (g5_l2 20 = .int (nI dr7)) → (Q1 = Qd ++ R) → (Qd.length = Cs.length) → ((cdW tt Q1) = cdP (true, Os, Cs) (cdW tt R)) → (Os.length ≤ 7 * Qd.length) → (wL 30000 co7 Os) → (ct = true → dr7 = cnt + Cs.length ∧ dRel dKind7 dSize7 dAddress7 dMode7 dCode7 dWindow7 (wrG gg cnt (rwQ wi Q1 Cs)) dr7) → (ct = false → dr7 = dr) → va_P D vwCl [(mm, .inr (9, fl 78 g5_l2)), (Mtab, .inl (cB, 1536, .inl mtab)), (Mu, .inl (cB, 8000, .inl mu)), (MqKind, .inl (cI, 4100, .inl mqKind)), (MqSize, .inl (cI, 4100, .inl mqSize)), (MqAt, .inl (cI, 4100, .inl mqAt)), (MqAddress, .inl (cI, 4100, .inl mqAddress)), (MqMode, .inl (cI, 4100, .inl m7)), (MsData, .inl (cB, 8000, .inl da7)), (MsCodes, .inl (cB, 30000, .inl co7)), (MsAddresses, .inl (cB, 30000, .inl ad7)), (MdKind, .inl (cI, 4000, .inl dKind7)), (MdSize, .inl (cI, 4000, .inl dSize7)), (MdAddress, .inl (cI, 4000, .inl dAddress7)), (MdMode, .inl (cI, 4000, .inl dMode7)), (MdCode, .inl (cI, 4000, .inl dCode7)), (MdWindow, .inl (cI, 4000, .inl dWindow7)), (Mnears, .inl (cJ, 8, .inr (.inl fn7))), (Msames, .inl (cJ, 1024, .inr (.inl fs7)))] H → va_D A0 [(mm, .inr (9, fl 78 g5_l2)), (Mtab, .inl (cB, 1536, .inl mtab)), (Mu, .inl (cB, 8000, .inl mu)), (MqKind, .inl (cI, 4100, .inl mqKind)), (MqSize, .inl (cI, 4100, .inl mqSize)), (MqAt, .inl (cI, 4100, .inl mqAt)), (MqAddress, .inl (cI, 4100, .inl mqAddress)), (MqMode, .inl (cI, 4100, .inl m7)), (MsData, .inl (cB, 8000, .inl da7)), (MsCodes, .inl (cB, 30000, .inl co7)), (MsAddresses, .inl (cB, 30000, .inl ad7)), (MdKind, .inl (cI, 4000, .inl dKind7)), (MdSize, .inl (cI, 4000, .inl dSize7)), (MdAddress, .inl (cI, 4000, .inl dAddress7)), (MdMode, .inl (cI, 4000, .inl dMode7)), (MdCode, .inl (cI, 4000, .inl dCode7)), (MdWindow, .inl (cI, 4000, .inl dWindow7)), (Mnears, .inl (cJ, 8, .inr (.inl fn7))), (Msames, .inl (cJ, 1024, .inr (.inl fs7)))] → va_S A0 s0.heap H locs → lv_has ls 6 [(0, .ref mm), (1, .int (nI wi)), (2, .int (nI Qd.length))] → W p0 l e0 ({ frames := 3, cells := 0, slots := 0, locals := 74 }) s0 m0 ([.ref mm, .int (nI wi)] : List Value).toArray below meth c0 H locs 0 0 Q0 (F0 m0 152 ls []) := by
          intro k9
          induction k9 with
          | zero => intro g5_l2 R Qd Os Cs dr7 co7 dKind7 dSize7 dAddress7 dMode7 dCode7 dWindow7 H locs ls hk9; exact absurd hk9 (Nat.not_lt_zero _)
          | succ k9 ih =>
            intro g5_l2 R Qd Os Cs dr7 co7 dKind7 dSize7 dAddress7 dMode7 dCode7 dWindow7 H locs ls hk9 hf_l2 k_sDatas_l2 k_sCode_l2 k_sAddress_l2 k_nextNear_l2 k_drafts_l2 hQ hQd hcd hol hwC hdt hdf hP hD hS hl
            have hQl2 : Q1.length = Qd.length + R.length := by rw [hQ, List.length_append]
            have hdr7 : dr7 < 2 ^ 25 := by cases hh : ct with | true => have := (hdt hh).1; omega | false => have := hdf hh; omega
            refine lv_iload_n hx hb dX9_encode_152 rfl (lv_at hl 2 rfl) ?_
            refine lv_aload_n hx hb dX9_encode_153 rfl (lv_at hl 0 rfl) ?_
            refine fx_get (D := D) (ci := 9) (v := .int (nI Q1.length)) (C := RX9) (T := TX9) (N := 78) hx hb hts in_X9 hown hK hP 0 rfl rfl 67 (by decide) (hts _ kX9_356) (fun _ h9 => h9) ((hf_l2 67 (by decide)).trans g_waits) dX9_encode_154 ?_
            refine lv_icmp_ge (tgt := 342) hx hb dX9_encode_157 (by decide) (fun c_4 => ?_) (fun c_4 => ?_)
            · have hRn : R = [] := List.eq_nil_of_length_eq_zero (by have := (nI_leI (by omega) (by omega)).mp c_4; omega)
              rw [hRn, cdW, cdP_nil] at hcd
              refine lv_iconst (v := 1) hx hb dX9_encode_342 (by decide) ?_
              have hP := hP.sub (ws' := [(mm, .inr (9, fl 78 g5_l2)), (Mtab, .inl (cB, 1536, .inl mtab)), (Mnears, .inl (cJ, 8, .inr (.inl fn7))), (Msames, .inl (cJ, 1024, .inr (.inl fs7))), (Mu, .inl (cB, 8000, .inl mu)), (MqKind, .inl (cI, 4100, .inl mqKind)), (MqSize, .inl (cI, 4100, .inl mqSize)), (MqAt, .inl (cI, 4100, .inl mqAt)), (MqAddress, .inl (cI, 4100, .inl mqAddress)), (MqMode, .inl (cI, 4100, .inl m7)), (MsData, .inl (cB, 8000, .inl da7)), (MsCodes, .inl (cB, 30000, .inl co7)), (MsAddresses, .inl (cB, 30000, .inl ad7)), (MdKind, .inl (cI, 4000, .inl dKind7)), (MdSize, .inl (cI, 4000, .inl dSize7)), (MdAddress, .inl (cI, 4000, .inl dAddress7)), (MdMode, .inl (cI, 4000, .inl dMode7)), (MdCode, .inl (cI, 4000, .inl dCode7)), (MdWindow, .inl (cI, 4000, .inl dWindow7))]) [0, 1, 17, 18, 2, 3, 4, 5, 6, 7, 8, 9, 10, 11, 12, 13, 14, 15, 16] rfl
              have hD := hD.sub (ws' := [(mm, .inr (9, fl 78 g5_l2)), (Mtab, .inl (cB, 1536, .inl mtab)), (Mnears, .inl (cJ, 8, .inr (.inl fn7))), (Msames, .inl (cJ, 1024, .inr (.inl fs7))), (Mu, .inl (cB, 8000, .inl mu)), (MqKind, .inl (cI, 4100, .inl mqKind)), (MqSize, .inl (cI, 4100, .inl mqSize)), (MqAt, .inl (cI, 4100, .inl mqAt)), (MqAddress, .inl (cI, 4100, .inl mqAddress)), (MqMode, .inl (cI, 4100, .inl m7)), (MsData, .inl (cB, 8000, .inl da7)), (MsCodes, .inl (cB, 30000, .inl co7)), (MsAddresses, .inl (cB, 30000, .inl ad7)), (MdKind, .inl (cI, 4000, .inl dKind7)), (MdSize, .inl (cI, 4000, .inl dSize7)), (MdAddress, .inl (cI, 4000, .inl dAddress7)), (MdMode, .inl (cI, 4000, .inl dMode7)), (MdCode, .inl (cI, 4000, .inl dCode7)), (MdWindow, .inl (cI, 4000, .inl dWindow7))]) [0, 1, 17, 18, 2, 3, 4, 5, 6, 7, 8, 9, 10, 11, 12, 13, 14, 15, 16] (by decide) rfl
              exact hret 343 ls _ _ true (g5_l2, dr7, nI Dl.length, nI Os.length, nI A.length, nI nx, fn7, fs7, m7, da7, co7, ad7, dKind7, dSize7, dAddress7, dMode7, dCode7, dWindow7) dX9_encode_343 hP hD hS (⟨hf_l2, k_drafts_l2, k_sDatas_l2, k_sCode_l2, k_sAddress_l2, k_nextNear_l2, by rw [← hR9, hRw]; dsimp only; rw [hcd]; exact ⟨rfl, fun _ => ⟨rfl, rfl, rfl, hwD, hwC, hwA, fun z => ⟨by have := (hdt z).1; rw [hRn] at hQl2; simp at hQl2; omega, (hdt z).2⟩⟩, hdf⟩⟩)
            · have hRl : 0 < R.length := by have := Nat.not_le.mp (fun q => c_4 (nI_le q (by omega))); omega
              obtain ⟨x, R1, hR1⟩ : ∃ x R1, R = x :: R1 := by cases R with | nil => exact absurd hRl (by decide) | cons x R1 => exact ⟨x, R1, rfl⟩
              subst hR1
              have hxl : (x :: R1).length = R1.length + 1 := rfl
              have hx9 : Q1.getD Qd.length (0, 0, 0, 0) = x := by rw [hQ, gD_r (Nat.le_refl _), Nat.sub_self]; rfl
              have hxo := hqo x (by rw [hQ]; simp)
              have hxm := hqm Qd.length (by omega)
              rw [hx9] at hxm
              have hxz := hqz x (by rw [hQ]; simp)
              refine lv_aload_n hx hb dX9_encode_160 rfl (lv_at hl 0 rfl) ?_
              refine lv_iload_n hx hb dX9_encode_161 rfl (lv_at hl 2 rfl) ?_
              refine jn_i (wr := [(Mu, .inl (cB, 8000, .inl mu)), (MqAt, .inl (cI, 4100, .inl mqAt)), (MsData, .inl (cB, 8000, .inl da7)), (MsCodes, .inl (cB, 30000, .inl co7)), (MsAddresses, .inl (cB, 30000, .inl ad7)), (MdKind, .inl (cI, 4000, .inl dKind7)), (MdSize, .inl (cI, 4000, .inl dSize7)), (MdAddress, .inl (cI, 4000, .inl dAddress7)), (MdMode, .inl (cI, 4000, .inl dMode7)), (MdCode, .inl (cI, 4000, .inl dCode7)), (MdWindow, .inl (cI, 4000, .inl dWindow7)), (Mnears, .inl (cJ, 8, .inr (.inl fn7))), (Msames, .inl (cJ, 1024, .inr (.inl fs7)))]) hA hP hD hS [0, 1, 3, 4, 6, 7] [2, 5, 8, 9, 10, 11, 12, 13, 14, 15, 16, 17, 18] rfl rfl (by decide) (by decide) (rn_V (As := [.int (nI Qd.length)]) (rest := []) ⟨hx, hb, hml, hown, hts⟩ (cvV 1 hts zc_yX9_codeFor zi_X9 zm_yX9_codeFor zv_yX9_codeFor kX9_394 (by decide +kernel) rfl rfl ⟨Nat.le_of_ble_eq_true rfl, Nat.le_of_ble_eq_true rfl⟩) (m_codeFor l D cI cB cJ cR mm g5_l2 Mtab MqKind MqSize MqAddress MqMode mtab mqKind mqSize mqAddress m7 tt (near + same + 2) Q1 Qd.length ((hf_l2 67 (by decide)).trans g_waits) ((hf_l2 7 (by decide)).trans g_tab) ((hf_l2 68 (by decide)).trans g_qKind) ((hf_l2 69 (by decide)).trans g_qSize) ((hf_l2 71 (by decide)).trans g_qAddress) ((hf_l2 72 (by decide)).trans g_qMode) (ht) (hrt) (by omega) (by omega) (hqm) (hqo) H.size) hK hNw hMk hA hP hD hS [0, 1, 3, 4, 6, 7] rfl rfl (by decide) 0 rfl rfl rfl rfl hl.1 rfl (Nat.le_of_ble_eq_true rfl) dX9_encode_162 ⟨Nat.le_of_ble_eq_true rfl, Nat.le_of_ble_eq_true rfl⟩) (fun rc_ u9 H locs hcf hP hD hS => ?_)
              try dsimp only at hcf
              have hP : va_P D vwCl [(Mu, .inl (cB, 8000, .inl mu)), (MqAt, .inl (cI, 4100, .inl mqAt)), (MsData, .inl (cB, 8000, .inl da7)), (MsCodes, .inl (cB, 30000, .inl co7)), (MsAddresses, .inl (cB, 30000, .inl ad7)), (MdKind, .inl (cI, 4000, .inl dKind7)), (MdSize, .inl (cI, 4000, .inl dSize7)), (MdAddress, .inl (cI, 4000, .inl dAddress7)), (MdMode, .inl (cI, 4000, .inl dMode7)), (MdCode, .inl (cI, 4000, .inl dCode7)), (MdWindow, .inl (cI, 4000, .inl dWindow7)), (Mnears, .inl (cJ, 8, .inr (.inl fn7))), (Msames, .inl (cJ, 1024, .inr (.inl fs7))), (mm, .inr (9, fl 78 g5_l2)), (Mtab, .inl (cB, 1536, .inl mtab)), (MqKind, .inl (cI, 4100, .inl mqKind)), (MqSize, .inl (cI, 4100, .inl mqSize)), (MqAddress, .inl (cI, 4100, .inl mqAddress)), (MqMode, .inl (cI, 4100, .inl m7))] H := hP
              have hD : va_D A0 [(Mu, .inl (cB, 8000, .inl mu)), (MqAt, .inl (cI, 4100, .inl mqAt)), (MsData, .inl (cB, 8000, .inl da7)), (MsCodes, .inl (cB, 30000, .inl co7)), (MsAddresses, .inl (cB, 30000, .inl ad7)), (MdKind, .inl (cI, 4000, .inl dKind7)), (MdSize, .inl (cI, 4000, .inl dSize7)), (MdAddress, .inl (cI, 4000, .inl dAddress7)), (MdMode, .inl (cI, 4000, .inl dMode7)), (MdCode, .inl (cI, 4000, .inl dCode7)), (MdWindow, .inl (cI, 4000, .inl dWindow7)), (Mnears, .inl (cJ, 8, .inr (.inl fn7))), (Msames, .inl (cJ, 1024, .inr (.inl fs7))), (mm, .inr (9, fl 78 g5_l2)), (Mtab, .inl (cB, 1536, .inl mtab)), (MqKind, .inl (cI, 4100, .inl mqKind)), (MqSize, .inl (cI, 4100, .inl mqSize)), (MqAddress, .inl (cI, 4100, .inl mqAddress)), (MqMode, .inl (cI, 4100, .inl m7))] := hD
              rw [hx9] at hcf
              obtain ⟨cf1, cf2⟩ := hcf
              skip
              by_cases hml9 : Qd.length + 1 < Q1.length
              · by_cases hpr : ¬ pr1 tt x (Q1.getD (Qd.length + 1) (0, 0, 0, 0)) < 0
                · obtain ⟨y, R2, hR2⟩ : ∃ y R2, R1 = y :: R2 := by cases R1 with | nil => simp at hQl2; omega | cons y R2 => exact ⟨y, R2, rfl⟩
                  subst hR2
                  have hxl2 : (y :: R2).length = R2.length + 1 := rfl
                  have hy9 : Q1.getD (Qd.length + 1) (0, 0, 0, 0) = y := by rw [hQ, gD_r (by omega), show Qd.length + 1 - Qd.length = 1 by omega]; rfl
                  rw [hy9] at hpr cf1
                  have hym := hqm (Qd.length + 1) hml9
                  rw [hy9] at hym
                  obtain ⟨c, hcn_, hc6⟩ : ∃ c, pr1 tt x y = nI c ∧ c < 256 := by obtain ⟨c, q1, q2, q3, -, -⟩ := fst_pos 256 0 hpr; exact ⟨c, q1, by omega⟩
                  have hrc : rc_ = nI (1000 + c) := by rw [cf1 hml9 hpr, hcn_]; exact nI_add 1000 c
                  subst hrc
                  have hone : cdW tt (x :: y :: R2) = cdP (true, [nI c], [c, c]) (cdW tt R2) := by rw [cdW_pair hpr, hcn_, nI_clamp (by omega)]
                  refine lv_istore_n (lv' := [(3, .int (nI (1000 + c))), (0, .ref mm), (1, .int (nI wi)), (2, .int (nI Qd.length))]) hx hb dX9_encode_165 rfl hl (by decide) rfl (fun ls hl => ?_)
                  refine lv_iload_n hx hb dX9_encode_166 rfl (lv_at hl 0 rfl) ?_
                  refine lv_if_ge (tgt := 172) hx hb dX9_encode_167 (by decide) (fun c_6 => ?_) (fun c_6 => absurd (nI_pos' (by omega)) c_6)
                  refine lv_iload_n hx hb dX9_encode_172 rfl (lv_at hl 0 rfl) ?_
                  refine lv_sipush (v := 1000) hx hb dX9_encode_173 (by decide) ?_
                  refine lv_icmp_lt (tgt := 183) hx hb dX9_encode_176 (by decide) (fun c_7 => absurd c_7 (fun z => absurd ((nI_ltI (b := 1000) (by omega) (by decide)).mp z) (by omega))) (fun c_7 => ?_)
                  refine lv_iconst (v := 2) hx hb dX9_encode_179 (by decide) ?_
                  refine lv_goto (tgt := 184) hx hb dX9_encode_180 (by decide) ?_
                  refine lv_istore (lv' := [(4, .int 2), (3, .int (nI (1000 + c))), (0, .ref mm), (1, .int (nI wi)), (2, .int (nI Qd.length))]) hx hb dX9_encode_184 hl (by decide) rfl (fun ls hl => ?_)
                  refine lv_iload_n hx hb dX9_encode_186 rfl (lv_at hl 1 rfl) ?_
                  refine lv_sipush (v := 1000) hx hb dX9_encode_187 (by decide) ?_
                  refine lv_irem hx hb dX9_encode_190 (by decide) ?_
                  refine ri (y := nI c) ((pk_rem (d := 1000) (by omega) (by decide) (by decide)).trans (by rw [show (1000 + c) % 1000 = c by omega])) ?_
                  refine lv_istore_n (lv' := [(3, .int (nI c)), (4, .int 2), (0, .ref mm), (1, .int (nI wi)), (2, .int (nI Qd.length))]) hx hb dX9_encode_191 rfl hl (by decide) rfl (fun ls hl => ?_)
                  refine lv_aload_n hx hb dX9_encode_192 rfl (lv_at hl 2 rfl) ?_
                  refine lv_iload_n hx hb dX9_encode_193 rfl (lv_at hl 0 rfl) ?_
                  refine jn_v (wr := [(Mu, .inl (cB, 8000, .inl mu)), (MqAt, .inl (cI, 4100, .inl mqAt)), (MsData, .inl (cB, 8000, .inl da7)), (MsAddresses, .inl (cB, 30000, .inl ad7)), (MdKind, .inl (cI, 4000, .inl dKind7)), (MdSize, .inl (cI, 4000, .inl dSize7)), (MdAddress, .inl (cI, 4000, .inl dAddress7)), (MdMode, .inl (cI, 4000, .inl dMode7)), (MdCode, .inl (cI, 4000, .inl dCode7)), (MdWindow, .inl (cI, 4000, .inl dWindow7)), (Mnears, .inl (cJ, 8, .inr (.inl fn7))), (Msames, .inl (cJ, 1024, .inr (.inl fs7))), (Mtab, .inl (cB, 1536, .inl mtab)), (MqKind, .inl (cI, 4100, .inl mqKind)), (MqSize, .inl (cI, 4100, .inl mqSize)), (MqAddress, .inl (cI, 4100, .inl mqAddress)), (MqMode, .inl (cI, 4100, .inl m7))]) hA hP hD hS [13, 3] [0, 1, 2, 4, 5, 6, 7, 8, 9, 10, 11, 12, 14, 15, 16, 17, 18] rfl rfl (by decide) (by decide) (rn_V (As := [.int (nI c)]) (rest := []) ⟨hx, hb, hml, hown, hts⟩ (cvV 1 hts zc_yX9_codeOctet zi_X9 zm_yX9_codeOctet zv_yX9_codeOctet kX9_397 (by decide +kernel) rfl rfl ⟨Nat.le_of_ble_eq_true rfl, Nat.le_of_ble_eq_true rfl⟩) (m_codeOctet l D cI cB cJ cR mm g5_l2 MsCodes co7 Os (nI c) (k_sCode_l2) ((hf_l2 60 (by decide)).trans g_sCodes) (by omega) (hwC) H.size) hK hNw hMk hA hP hD hS [13, 3] rfl rfl (by decide) 0 rfl rfl rfl rfl hl.1 rfl (Nat.le_of_ble_eq_true rfl) dX9_encode_194 ⟨Nat.le_of_ble_eq_true rfl, Nat.le_of_ble_eq_true rfl⟩) (fun u9 H locs hco hP hD hS => ?_)
                  obtain ⟨g_8, co8⟩ := u9
                  try dsimp only at hco
                  have hP : va_P D vwCl [(Mu, .inl (cB, 8000, .inl mu)), (MqAt, .inl (cI, 4100, .inl mqAt)), (MsData, .inl (cB, 8000, .inl da7)), (MsAddresses, .inl (cB, 30000, .inl ad7)), (MdKind, .inl (cI, 4000, .inl dKind7)), (MdSize, .inl (cI, 4000, .inl dSize7)), (MdAddress, .inl (cI, 4000, .inl dAddress7)), (MdMode, .inl (cI, 4000, .inl dMode7)), (MdCode, .inl (cI, 4000, .inl dCode7)), (MdWindow, .inl (cI, 4000, .inl dWindow7)), (Mnears, .inl (cJ, 8, .inr (.inl fn7))), (Msames, .inl (cJ, 1024, .inr (.inl fs7))), (Mtab, .inl (cB, 1536, .inl mtab)), (MqKind, .inl (cI, 4100, .inl mqKind)), (MqSize, .inl (cI, 4100, .inl mqSize)), (MqAddress, .inl (cI, 4100, .inl mqAddress)), (MqMode, .inl (cI, 4100, .inl m7)), (mm, .inr (9, fl 78 g_8)), (MsCodes, .inl (cB, 30000, .inl co8))] H := hP
                  have hD : va_D A0 [(Mu, .inl (cB, 8000, .inl mu)), (MqAt, .inl (cI, 4100, .inl mqAt)), (MsData, .inl (cB, 8000, .inl da7)), (MsAddresses, .inl (cB, 30000, .inl ad7)), (MdKind, .inl (cI, 4000, .inl dKind7)), (MdSize, .inl (cI, 4000, .inl dSize7)), (MdAddress, .inl (cI, 4000, .inl dAddress7)), (MdMode, .inl (cI, 4000, .inl dMode7)), (MdCode, .inl (cI, 4000, .inl dCode7)), (MdWindow, .inl (cI, 4000, .inl dWindow7)), (Mnears, .inl (cJ, 8, .inr (.inl fn7))), (Msames, .inl (cJ, 1024, .inr (.inl fs7))), (Mtab, .inl (cB, 1536, .inl mtab)), (MqKind, .inl (cI, 4100, .inl mqKind)), (MqSize, .inl (cI, 4100, .inl mqSize)), (MqAddress, .inl (cI, 4100, .inl mqAddress)), (MqMode, .inl (cI, 4100, .inl m7)), (mm, .inr (9, fl 78 g_8)), (MsCodes, .inl (cB, 30000, .inl co8))] := hD
                  obtain ⟨f_hco, sCode_hco, hco_⟩ := hco
                  have k8_g_8 : g_8 8 = .int (nI near) := (f_hco 8 (by decide)).trans ((hf_l2 8 (by decide)).trans g_near)
                  have k9_g_8 : g_8 9 = .int (nI same) := (f_hco 9 (by decide)).trans ((hf_l2 9 (by decide)).trans g_same)
                  have k67_g_8 : g_8 67 = .int (nI Q1.length) := (f_hco 67 (by decide)).trans ((hf_l2 67 (by decide)).trans g_waits)
                  have k39_g_8 : g_8 39 = .int (bI ct) := (f_hco 39 (by decide)).trans ((hf_l2 39 (by decide)).trans g_counts)
                  have k7_g_8 : g_8 7 = .ref Mtab := (f_hco 7 (by decide)).trans ((hf_l2 7 (by decide)).trans g_tab)
                  have k10_g_8 : g_8 10 = .ref Mnears := (f_hco 10 (by decide)).trans ((hf_l2 10 (by decide)).trans g_nears)
                  have k12_g_8 : g_8 12 = .ref Msames := (f_hco 12 (by decide)).trans ((hf_l2 12 (by decide)).trans g_sames)
                  have k64_g_8 : g_8 64 = .ref Mu := (f_hco 64 (by decide)).trans ((hf_l2 64 (by decide)).trans g_u)
                  have k68_g_8 : g_8 68 = .ref MqKind := (f_hco 68 (by decide)).trans ((hf_l2 68 (by decide)).trans g_qKind)
                  have k69_g_8 : g_8 69 = .ref MqSize := (f_hco 69 (by decide)).trans ((hf_l2 69 (by decide)).trans g_qSize)
                  have k70_g_8 : g_8 70 = .ref MqAt := (f_hco 70 (by decide)).trans ((hf_l2 70 (by decide)).trans g_qAt)
                  have k71_g_8 : g_8 71 = .ref MqAddress := (f_hco 71 (by decide)).trans ((hf_l2 71 (by decide)).trans g_qAddress)
                  have k72_g_8 : g_8 72 = .ref MqMode := (f_hco 72 (by decide)).trans ((hf_l2 72 (by decide)).trans g_qMode)
                  have k58_g_8 : g_8 58 = .ref MsData := (f_hco 58 (by decide)).trans ((hf_l2 58 (by decide)).trans g_sData)
                  have k60_g_8 : g_8 60 = .ref MsCodes := (f_hco 60 (by decide)).trans ((hf_l2 60 (by decide)).trans g_sCodes)
                  have k62_g_8 : g_8 62 = .ref MsAddresses := (f_hco 62 (by decide)).trans ((hf_l2 62 (by decide)).trans g_sAddresses)
                  have k21_g_8 : g_8 21 = .ref MdKind := (f_hco 21 (by decide)).trans ((hf_l2 21 (by decide)).trans g_dKind)
                  have k22_g_8 : g_8 22 = .ref MdSize := (f_hco 22 (by decide)).trans ((hf_l2 22 (by decide)).trans g_dSize)
                  have k23_g_8 : g_8 23 = .ref MdAddress := (f_hco 23 (by decide)).trans ((hf_l2 23 (by decide)).trans g_dAddress)
                  have k24_g_8 : g_8 24 = .ref MdMode := (f_hco 24 (by decide)).trans ((hf_l2 24 (by decide)).trans g_dMode)
                  have k25_g_8 : g_8 25 = .ref MdCode := (f_hco 25 (by decide)).trans ((hf_l2 25 (by decide)).trans g_dCode)
                  have k26_g_8 : g_8 26 = .ref MdWindow := (f_hco 26 (by decide)).trans ((hf_l2 26 (by decide)).trans g_dWindow)
                  have k59_g_8 : g_8 59 = .int (nI Dl.length) := (f_hco 59 (by decide)).trans (k_sDatas_l2)
                  have k63_g_8 : g_8 63 = .int (nI A.length) := (f_hco 63 (by decide)).trans (k_sAddress_l2)
                  have k11_g_8 : g_8 11 = .int (nI nx) := (f_hco 11 (by decide)).trans (k_nextNear_l2)
                  have k20_g_8 : g_8 20 = .int (nI dr7) := (f_hco 20 (by decide)).trans (k_drafts_l2)
                  have fr_g_8 : frm [20, 59, 61, 63, 11] g g_8 := frm_tr hf_l2 f_hco (by decide)
                  refine lv_iload hx hb dX9_encode_197 (lv_at hl 1 rfl) ?_
                  refine lv_iconst (v := 1) hx hb dX9_encode_199 (by decide) ?_
                  refine lv_icmp_ne (tgt := 269) hx hb dX9_encode_200 (by decide) (fun c_10 => ?_) (fun c_10 => absurd c_10 (by decide))
                  refine lv_iconst (v := 0) hx hb dX9_encode_269 (by decide) ?_
                  refine ri (y := nI 0) (nI_0.symm) ?_
                  refine lv_istore (lv' := [(5, .int (nI 0)), (3, .int (nI c)), (4, .int 2), (0, .ref mm), (1, .int (nI wi)), (2, .int (nI Qd.length))]) hx hb dX9_encode_270 hl (by decide) rfl (fun ls hl => ?_)
                  refine lv_iload hx hb dX9_encode_272 (lv_at hl 0 rfl) ?_
                  refine lv_iload hx hb dX9_encode_274 (lv_at hl 2 rfl) ?_
                  refine lv_icmp_ge (tgt := 334) hx hb dX9_encode_276 (by decide) (fun c_11 => absurd c_11 (by decide)) (fun c_11 => ?_)
                  have hdone : (cdW tt Q1) = cdP (true, Os ++ [nI c], Cs ++ [c] ++ [c]) (cdW tt R2) := by rw [hcd, hone, cdP_assoc]; unfold cdP; simp
                  refine lv_aload_n hx hb dX9_encode_279 rfl (lv_at hl 3 rfl) ?_
                  refine fx_get (D := D) (ci := 9) (v := .int (bI ct)) (C := RX9) (T := TX9) (N := 78) hx hb hts in_X9 hown hK hP 17 rfl rfl 39 (by decide) (hts _ kX9_224) (fun _ h9 => h9) (k39_g_8) dX9_encode_280 ?_
                  refine bz_eq (tgt := 328) hx hb dX9_encode_283 (by decide) (fun c_12 => ?_) (fun c_12 => ?_)
                  · have hcf_a : ct = false := c_12
                    refine lv_iinc (v := nI (0 + 1)) (lv' := [(5, .int (nI (0 + 1))), (3, .int (nI c)), (4, .int 2), (0, .ref mm), (1, .int (nI wi)), (2, .int (nI Qd.length))]) hx hb dX9_encode_328 hl (k := 0) rfl (nI_add 0 1) (by decide) rfl (fun ls hl => ?_)
                    refine lv_goto (tgt := 272) hx hb dX9_encode_331 (by decide) ?_
                    refine lv_iload hx hb dX9_encode_272 (lv_at hl 0 rfl) ?_
                    refine lv_iload hx hb dX9_encode_274 (lv_at hl 2 rfl) ?_
                    refine lv_icmp_ge (tgt := 334) hx hb dX9_encode_276 (by decide) (fun c_13 => absurd c_13 (by decide)) (fun c_13 => ?_)
                    refine lv_aload_n hx hb dX9_encode_279 rfl (lv_at hl 3 rfl) ?_
                    refine fx_get (D := D) (ci := 9) (v := .int (bI ct)) (C := RX9) (T := TX9) (N := 78) hx hb hts in_X9 hown hK hP 17 rfl rfl 39 (by decide) (hts _ kX9_224) (fun _ h9 => h9) (k39_g_8) dX9_encode_280 ?_
                    refine bz_eq (tgt := 328) hx hb dX9_encode_283 (by decide) (fun c_14 => ?_) (fun c_14 => ?_)
                    · have hcf_b : ct = false := c_14
                      refine lv_iinc (v := nI ((0 + 1) + 1)) (lv' := [(5, .int (nI ((0 + 1) + 1))), (3, .int (nI c)), (4, .int 2), (0, .ref mm), (1, .int (nI wi)), (2, .int (nI Qd.length))]) hx hb dX9_encode_328 hl (k := 0) rfl (nI_add (0 + 1) 1) (by decide) rfl (fun ls hl => ?_)
                      refine lv_goto (tgt := 272) hx hb dX9_encode_331 (by decide) ?_
                      refine lv_iload hx hb dX9_encode_272 (lv_at hl 0 rfl) ?_
                      refine lv_iload hx hb dX9_encode_274 (lv_at hl 2 rfl) ?_
                      refine lv_icmp_ge (tgt := 334) hx hb dX9_encode_276 (by decide) (fun c_15 => ?_) (fun c_15 => absurd (by decide) c_15)
                      refine lv_iload_n hx hb dX9_encode_334 rfl (lv_at hl 5 rfl) ?_
                      refine lv_iload hx hb dX9_encode_335 (lv_at hl 2 rfl) ?_
                      refine lv_iadd hx hb dX9_encode_337 ?_
                      refine ri (y := nI (Qd.length + 2)) (nI_add Qd.length 2) ?_
                      refine lv_istore_n (lv' := [(2, .int (nI (Qd.length + 2))), (5, .int (nI ((0 + 1) + 1))), (3, .int (nI c)), (4, .int 2), (0, .ref mm), (1, .int (nI wi))]) hx hb dX9_encode_338 rfl hl (by decide) rfl (fun ls hl => ?_)
                      refine lv_goto (tgt := 152) hx hb dX9_encode_339 (by decide) ?_
                      rw [show Qd.length + 2 = (Qd ++ [x, y]).length by simp] at hl
                      exact ih g_8 R2 (Qd ++ [x, y]) (Os ++ [nI c]) (Cs ++ [c] ++ [c]) dr7 co8 dKind7 dSize7 dAddress7 dMode7 dCode7 dWindow7 _ _ ls (by omega) (fr_g_8) (k59_g_8) (sCode_hco) (k63_g_8) (k11_g_8) (k20_g_8) (by rw [hQ]; simp) (by simp; omega) (hdone) (by simp; omega) (hco_) (fun z => absurd (hcf_b.symm.trans z) (by decide)) (hdf) (hP.sub [17, 12, 0, 13, 14, 1, 15, 16, 2, 18, 3, 4, 5, 6, 7, 8, 9, 10, 11] rfl) (hD.sub [17, 12, 0, 13, 14, 1, 15, 16, 2, 18, 3, 4, 5, 6, 7, 8, 9, 10, 11] (by decide) rfl) hS (lv_sub hl [4, 5, 0] rfl)
                    · have hcf_b : ct = true := c_14
                      exact absurd (hcf_a.symm.trans hcf_b) (by decide)
                  · have hcf_a : ct = true := c_12
                    obtain ⟨la_a, lb_a⟩ := hdt hcf_a
                    refine lv_aload_n hx hb dX9_encode_286 rfl (lv_at hl 3 rfl) ?_
                    refine lv_aload_n hx hb dX9_encode_287 rfl (lv_at hl 3 rfl) ?_
                    refine fx_get (D := D) (ci := 9) (v := .ref MqKind) (C := RX9) (T := TX9) (N := 78) hx hb hts in_X9 hown hK hP 17 rfl rfl 68 (by decide) (hts _ kX9_103) (fun _ h9 => h9) (k68_g_8) dX9_encode_288 ?_
                    refine lv_iload_n hx hb dX9_encode_291 rfl (lv_at hl 5 rfl) ?_
                    refine lv_iload hx hb dX9_encode_292 (lv_at hl 0 rfl) ?_
                    refine lv_iadd hx hb dX9_encode_294 ?_
                    refine ri (y := nI (Qd.length + 0)) (nI_add Qd.length 0) ?_
                    refine ax_ild hx hb hK hP 13 0 rfl rfl Qd.length (rfl) (by omega) (by omega) dX9_encode_295 ?_
                    refine ri (y := nI x.1) (hxm.1) ?_
                    refine lv_aload_n hx hb dX9_encode_296 rfl (lv_at hl 3 rfl) ?_
                    refine fx_get (D := D) (ci := 9) (v := .ref MqSize) (C := RX9) (T := TX9) (N := 78) hx hb hts in_X9 hown hK hP 17 rfl rfl 69 (by decide) (hts _ kX9_106) (fun _ h9 => h9) (k69_g_8) dX9_encode_297 ?_
                    refine lv_iload_n hx hb dX9_encode_300 rfl (lv_at hl 5 rfl) ?_
                    refine lv_iload hx hb dX9_encode_301 (lv_at hl 0 rfl) ?_
                    refine lv_iadd hx hb dX9_encode_303 ?_
                    refine ri (y := nI (Qd.length + 0)) (nI_add Qd.length 0) ?_
                    refine ax_ild hx hb hK hP 14 0 rfl rfl Qd.length (rfl) (by omega) (by omega) dX9_encode_304 ?_
                    refine ri (y := nI x.2.1) (hxm.2.1) ?_
                    refine lv_aload_n hx hb dX9_encode_305 rfl (lv_at hl 3 rfl) ?_
                    refine fx_get (D := D) (ci := 9) (v := .ref MqAddress) (C := RX9) (T := TX9) (N := 78) hx hb hts in_X9 hown hK hP 17 rfl rfl 71 (by decide) (hts _ kX9_112) (fun _ h9 => h9) (k71_g_8) dX9_encode_306 ?_
                    refine lv_iload_n hx hb dX9_encode_309 rfl (lv_at hl 5 rfl) ?_
                    refine lv_iload hx hb dX9_encode_310 (lv_at hl 0 rfl) ?_
                    refine lv_iadd hx hb dX9_encode_312 ?_
                    refine ri (y := nI (Qd.length + 0)) (nI_add Qd.length 0) ?_
                    refine ax_ild hx hb hK hP 15 0 rfl rfl Qd.length (rfl) (by omega) (by omega) dX9_encode_313 ?_
                    refine ri (y := nI x.2.2.1) (hxm.2.2.1) ?_
                    refine lv_aload_n hx hb dX9_encode_314 rfl (lv_at hl 3 rfl) ?_
                    refine fx_get (D := D) (ci := 9) (v := .ref MqMode) (C := RX9) (T := TX9) (N := 78) hx hb hts in_X9 hown hK hP 17 rfl rfl 72 (by decide) (hts _ kX9_115) (fun _ h9 => h9) (k72_g_8) dX9_encode_315 ?_
                    refine lv_iload_n hx hb dX9_encode_318 rfl (lv_at hl 5 rfl) ?_
                    refine lv_iload hx hb dX9_encode_319 (lv_at hl 0 rfl) ?_
                    refine lv_iadd hx hb dX9_encode_321 ?_
                    refine ri (y := nI (Qd.length + 0)) (nI_add Qd.length 0) ?_
                    refine ax_ild hx hb hK hP 16 0 rfl rfl Qd.length (rfl) (by omega) (by omega) dX9_encode_322 ?_
                    refine ri (y := nI x.2.2.2) (hxm.2.2.2) ?_
                    refine lv_iload_n hx hb dX9_encode_323 rfl (lv_at hl 1 rfl) ?_
                    refine lv_iload_n hx hb dX9_encode_324 rfl (lv_at hl 4 rfl) ?_
                    refine jn_v (wr := [(Mu, .inl (cB, 8000, .inl mu)), (MqAt, .inl (cI, 4100, .inl mqAt)), (MsData, .inl (cB, 8000, .inl da7)), (MsAddresses, .inl (cB, 30000, .inl ad7)), (Mnears, .inl (cJ, 8, .inr (.inl fn7))), (Msames, .inl (cJ, 1024, .inr (.inl fs7))), (Mtab, .inl (cB, 1536, .inl mtab)), (MqKind, .inl (cI, 4100, .inl mqKind)), (MqSize, .inl (cI, 4100, .inl mqSize)), (MqAddress, .inl (cI, 4100, .inl mqAddress)), (MqMode, .inl (cI, 4100, .inl m7)), (MsCodes, .inl (cB, 30000, .inl co8))]) hA hP hD hS [17, 4, 5, 6, 7, 8, 9] [0, 1, 2, 3, 10, 11, 12, 13, 14, 15, 16, 18] rfl rfl (by decide) (by decide) (rn_V (As := [.int (nI x.1), .int (nI x.2.1), .int (nI x.2.2.1), .int (nI x.2.2.2), .int (nI c), .int (nI wi)]) (rest := []) ⟨hx, hb, hml, hown, hts⟩ (cvV 6 hts zc_yX9_list zi_X9 zm_yX9_list zv_yX9_list kX9_320 (by decide +kernel) rfl rfl ⟨Nat.le_of_ble_eq_true rfl, Nat.le_of_ble_eq_true rfl⟩) (m_list l D cI cB cJ cR mm g_8 MdKind MdSize MdAddress MdMode MdCode MdWindow dKind7 dSize7 dAddress7 dMode7 dCode7 dWindow7 dr7 (wrG gg cnt (rwQ wi Q1 Cs)) (nI x.1) (nI x.2.1) (nI x.2.2.1) (nI x.2.2.2) (nI c) (nI wi) (k20_g_8) (k21_g_8) (k22_g_8) (k23_g_8) (k24_g_8) (k25_g_8) (k26_g_8) (by omega) (lb_a) H.size) hK hNw hMk hA hP hD hS [17, 4, 5, 6, 7, 8, 9] rfl rfl (by decide) 0 rfl rfl rfl rfl hl.1 rfl (Nat.le_of_ble_eq_true rfl) dX9_encode_325 ⟨Nat.le_of_ble_eq_true rfl, Nat.le_of_ble_eq_true rfl⟩) (fun u9 H locs hls_a hP hD hS => ?_)
                    obtain ⟨g_16, dKind_a, dSize_a, dAddress_a, dMode_a, dCode_a, dWindow_a⟩ := u9
                    try dsimp only at hls_a
                    have hP : va_P D vwCl [(Mu, .inl (cB, 8000, .inl mu)), (MqAt, .inl (cI, 4100, .inl mqAt)), (MsData, .inl (cB, 8000, .inl da7)), (MsAddresses, .inl (cB, 30000, .inl ad7)), (Mnears, .inl (cJ, 8, .inr (.inl fn7))), (Msames, .inl (cJ, 1024, .inr (.inl fs7))), (Mtab, .inl (cB, 1536, .inl mtab)), (MqKind, .inl (cI, 4100, .inl mqKind)), (MqSize, .inl (cI, 4100, .inl mqSize)), (MqAddress, .inl (cI, 4100, .inl mqAddress)), (MqMode, .inl (cI, 4100, .inl m7)), (MsCodes, .inl (cB, 30000, .inl co8)), (mm, .inr (9, fl 78 g_16)), (MdKind, .inl (cI, 4000, .inl dKind_a)), (MdSize, .inl (cI, 4000, .inl dSize_a)), (MdAddress, .inl (cI, 4000, .inl dAddress_a)), (MdMode, .inl (cI, 4000, .inl dMode_a)), (MdCode, .inl (cI, 4000, .inl dCode_a)), (MdWindow, .inl (cI, 4000, .inl dWindow_a))] H := hP
                    have hD : va_D A0 [(Mu, .inl (cB, 8000, .inl mu)), (MqAt, .inl (cI, 4100, .inl mqAt)), (MsData, .inl (cB, 8000, .inl da7)), (MsAddresses, .inl (cB, 30000, .inl ad7)), (Mnears, .inl (cJ, 8, .inr (.inl fn7))), (Msames, .inl (cJ, 1024, .inr (.inl fs7))), (Mtab, .inl (cB, 1536, .inl mtab)), (MqKind, .inl (cI, 4100, .inl mqKind)), (MqSize, .inl (cI, 4100, .inl mqSize)), (MqAddress, .inl (cI, 4100, .inl mqAddress)), (MqMode, .inl (cI, 4100, .inl m7)), (MsCodes, .inl (cB, 30000, .inl co8)), (mm, .inr (9, fl 78 g_16)), (MdKind, .inl (cI, 4000, .inl dKind_a)), (MdSize, .inl (cI, 4000, .inl dSize_a)), (MdAddress, .inl (cI, 4000, .inl dAddress_a)), (MdMode, .inl (cI, 4000, .inl dMode_a)), (MdCode, .inl (cI, 4000, .inl dCode_a)), (MdWindow, .inl (cI, 4000, .inl dWindow_a))] := hD
                    obtain ⟨f_hls_a, drafts_hls_a, hls_a_⟩ := hls_a
                    have k8_g_16 : g_16 8 = .int (nI near) := (f_hls_a 8 (by decide)).trans (k8_g_8)
                    have k9_g_16 : g_16 9 = .int (nI same) := (f_hls_a 9 (by decide)).trans (k9_g_8)
                    have k67_g_16 : g_16 67 = .int (nI Q1.length) := (f_hls_a 67 (by decide)).trans (k67_g_8)
                    have k39_g_16 : g_16 39 = .int (bI ct) := (f_hls_a 39 (by decide)).trans (k39_g_8)
                    have k7_g_16 : g_16 7 = .ref Mtab := (f_hls_a 7 (by decide)).trans (k7_g_8)
                    have k10_g_16 : g_16 10 = .ref Mnears := (f_hls_a 10 (by decide)).trans (k10_g_8)
                    have k12_g_16 : g_16 12 = .ref Msames := (f_hls_a 12 (by decide)).trans (k12_g_8)
                    have k64_g_16 : g_16 64 = .ref Mu := (f_hls_a 64 (by decide)).trans (k64_g_8)
                    have k68_g_16 : g_16 68 = .ref MqKind := (f_hls_a 68 (by decide)).trans (k68_g_8)
                    have k69_g_16 : g_16 69 = .ref MqSize := (f_hls_a 69 (by decide)).trans (k69_g_8)
                    have k70_g_16 : g_16 70 = .ref MqAt := (f_hls_a 70 (by decide)).trans (k70_g_8)
                    have k71_g_16 : g_16 71 = .ref MqAddress := (f_hls_a 71 (by decide)).trans (k71_g_8)
                    have k72_g_16 : g_16 72 = .ref MqMode := (f_hls_a 72 (by decide)).trans (k72_g_8)
                    have k58_g_16 : g_16 58 = .ref MsData := (f_hls_a 58 (by decide)).trans (k58_g_8)
                    have k60_g_16 : g_16 60 = .ref MsCodes := (f_hls_a 60 (by decide)).trans (k60_g_8)
                    have k62_g_16 : g_16 62 = .ref MsAddresses := (f_hls_a 62 (by decide)).trans (k62_g_8)
                    have k21_g_16 : g_16 21 = .ref MdKind := (f_hls_a 21 (by decide)).trans (k21_g_8)
                    have k22_g_16 : g_16 22 = .ref MdSize := (f_hls_a 22 (by decide)).trans (k22_g_8)
                    have k23_g_16 : g_16 23 = .ref MdAddress := (f_hls_a 23 (by decide)).trans (k23_g_8)
                    have k24_g_16 : g_16 24 = .ref MdMode := (f_hls_a 24 (by decide)).trans (k24_g_8)
                    have k25_g_16 : g_16 25 = .ref MdCode := (f_hls_a 25 (by decide)).trans (k25_g_8)
                    have k26_g_16 : g_16 26 = .ref MdWindow := (f_hls_a 26 (by decide)).trans (k26_g_8)
                    have k59_g_16 : g_16 59 = .int (nI Dl.length) := (f_hls_a 59 (by decide)).trans (k59_g_8)
                    have k63_g_16 : g_16 63 = .int (nI A.length) := (f_hls_a 63 (by decide)).trans (k63_g_8)
                    have k11_g_16 : g_16 11 = .int (nI nx) := (f_hls_a 11 (by decide)).trans (k11_g_8)
                    have k61_g_16 : g_16 61 = .int (nI (Os ++ [(nI c)]).length) := (f_hls_a 61 (by decide)).trans (sCode_hco)
                    have fr_g_16 : frm [20, 59, 61, 63, 11] g g_16 := frm_tr fr_g_8 f_hls_a (by decide)
                    have hG9 := wrG_code (g := gg) (f := cnt) (w := wi) (c := c) (Q := Q1) (Cs := Cs) (x := x) (by rw [← hQd]; exact hx9) (by omega)
                    rw [la_a] at hls_a_
                    have hls9 : ct = true → dr7 + 1 = cnt + (Cs ++ [c]).length ∧ dRel dKind_a dSize_a dAddress_a dMode_a dCode_a dWindow_a (wrG gg cnt (rwQ wi Q1 (Cs ++ [c]))) (dr7 + 1) := fun _ => ⟨by simp; omega, by rw [la_a, ← hG9]; exact hls_a_⟩
                    refine lv_iinc (v := nI (0 + 1)) (lv' := [(5, .int (nI (0 + 1))), (3, .int (nI c)), (4, .int 2), (0, .ref mm), (1, .int (nI wi)), (2, .int (nI Qd.length))]) hx hb dX9_encode_328 hl (k := 0) rfl (nI_add 0 1) (by decide) rfl (fun ls hl => ?_)
                    refine lv_goto (tgt := 272) hx hb dX9_encode_331 (by decide) ?_
                    refine lv_iload hx hb dX9_encode_272 (lv_at hl 0 rfl) ?_
                    refine lv_iload hx hb dX9_encode_274 (lv_at hl 2 rfl) ?_
                    refine lv_icmp_ge (tgt := 334) hx hb dX9_encode_276 (by decide) (fun c_18 => absurd c_18 (by decide)) (fun c_18 => ?_)
                    refine lv_aload_n hx hb dX9_encode_279 rfl (lv_at hl 3 rfl) ?_
                    refine fx_get (D := D) (ci := 9) (v := .int (bI ct)) (C := RX9) (T := TX9) (N := 78) hx hb hts in_X9 hown hK hP 12 rfl rfl 39 (by decide) (hts _ kX9_224) (fun _ h9 => h9) (k39_g_16) dX9_encode_280 ?_
                    refine bz_eq (tgt := 328) hx hb dX9_encode_283 (by decide) (fun c_19 => ?_) (fun c_19 => ?_)
                    · have hcf_b : ct = false := c_19
                      refine lv_iinc (v := nI ((0 + 1) + 1)) (lv' := [(5, .int (nI ((0 + 1) + 1))), (3, .int (nI c)), (4, .int 2), (0, .ref mm), (1, .int (nI wi)), (2, .int (nI Qd.length))]) hx hb dX9_encode_328 hl (k := 0) rfl (nI_add (0 + 1) 1) (by decide) rfl (fun ls hl => ?_)
                      refine lv_goto (tgt := 272) hx hb dX9_encode_331 (by decide) ?_
                      refine lv_iload hx hb dX9_encode_272 (lv_at hl 0 rfl) ?_
                      refine lv_iload hx hb dX9_encode_274 (lv_at hl 2 rfl) ?_
                      refine lv_icmp_ge (tgt := 334) hx hb dX9_encode_276 (by decide) (fun c_20 => ?_) (fun c_20 => absurd (by decide) c_20)
                      refine lv_iload_n hx hb dX9_encode_334 rfl (lv_at hl 5 rfl) ?_
                      refine lv_iload hx hb dX9_encode_335 (lv_at hl 2 rfl) ?_
                      refine lv_iadd hx hb dX9_encode_337 ?_
                      refine ri (y := nI (Qd.length + 2)) (nI_add Qd.length 2) ?_
                      refine lv_istore_n (lv' := [(2, .int (nI (Qd.length + 2))), (5, .int (nI ((0 + 1) + 1))), (3, .int (nI c)), (4, .int 2), (0, .ref mm), (1, .int (nI wi))]) hx hb dX9_encode_338 rfl hl (by decide) rfl (fun ls hl => ?_)
                      refine lv_goto (tgt := 152) hx hb dX9_encode_339 (by decide) ?_
                      rw [show Qd.length + 2 = (Qd ++ [x, y]).length by simp] at hl
                      exact ih g_16 R2 (Qd ++ [x, y]) (Os ++ [nI c]) (Cs ++ [c] ++ [c]) (dr7 + 1) co8 dKind_a dSize_a dAddress_a dMode_a dCode_a dWindow_a _ _ ls (by omega) (fr_g_16) (k59_g_16) (k61_g_16) (k63_g_16) (k11_g_16) (drafts_hls_a) (by rw [hQ]; simp) (by simp; omega) (hdone) (by simp; omega) (hco_) (fun z => absurd (hcf_b.symm.trans z) (by decide)) (fun z => absurd (hcf_a.symm.trans z) (by decide)) (hP.sub [12, 6, 0, 7, 8, 1, 9, 10, 2, 11, 3, 13, 14, 15, 16, 17, 18, 4, 5] rfl) (hD.sub [12, 6, 0, 7, 8, 1, 9, 10, 2, 11, 3, 13, 14, 15, 16, 17, 18, 4, 5] (by decide) rfl) hS (lv_sub hl [4, 5, 0] rfl)
                    · have hcf_b : ct = true := c_19
                      obtain ⟨la_b, lb_b⟩ := hls9 hcf_b
                      refine lv_aload_n hx hb dX9_encode_286 rfl (lv_at hl 3 rfl) ?_
                      refine lv_aload_n hx hb dX9_encode_287 rfl (lv_at hl 3 rfl) ?_
                      refine fx_get (D := D) (ci := 9) (v := .ref MqKind) (C := RX9) (T := TX9) (N := 78) hx hb hts in_X9 hown hK hP 12 rfl rfl 68 (by decide) (hts _ kX9_103) (fun _ h9 => h9) (k68_g_16) dX9_encode_288 ?_
                      refine lv_iload_n hx hb dX9_encode_291 rfl (lv_at hl 5 rfl) ?_
                      refine lv_iload hx hb dX9_encode_292 (lv_at hl 0 rfl) ?_
                      refine lv_iadd hx hb dX9_encode_294 ?_
                      refine ri (y := nI (Qd.length + (0 + 1))) (nI_add Qd.length (0 + 1)) ?_
                      refine ax_ild hx hb hK hP 7 0 rfl rfl (Qd.length + 1) (rfl) (by omega) (by omega) dX9_encode_295 ?_
                      refine ri (y := nI y.1) (hym.1) ?_
                      refine lv_aload_n hx hb dX9_encode_296 rfl (lv_at hl 3 rfl) ?_
                      refine fx_get (D := D) (ci := 9) (v := .ref MqSize) (C := RX9) (T := TX9) (N := 78) hx hb hts in_X9 hown hK hP 12 rfl rfl 69 (by decide) (hts _ kX9_106) (fun _ h9 => h9) (k69_g_16) dX9_encode_297 ?_
                      refine lv_iload_n hx hb dX9_encode_300 rfl (lv_at hl 5 rfl) ?_
                      refine lv_iload hx hb dX9_encode_301 (lv_at hl 0 rfl) ?_
                      refine lv_iadd hx hb dX9_encode_303 ?_
                      refine ri (y := nI (Qd.length + (0 + 1))) (nI_add Qd.length (0 + 1)) ?_
                      refine ax_ild hx hb hK hP 8 0 rfl rfl (Qd.length + 1) (rfl) (by omega) (by omega) dX9_encode_304 ?_
                      refine ri (y := nI y.2.1) (hym.2.1) ?_
                      refine lv_aload_n hx hb dX9_encode_305 rfl (lv_at hl 3 rfl) ?_
                      refine fx_get (D := D) (ci := 9) (v := .ref MqAddress) (C := RX9) (T := TX9) (N := 78) hx hb hts in_X9 hown hK hP 12 rfl rfl 71 (by decide) (hts _ kX9_112) (fun _ h9 => h9) (k71_g_16) dX9_encode_306 ?_
                      refine lv_iload_n hx hb dX9_encode_309 rfl (lv_at hl 5 rfl) ?_
                      refine lv_iload hx hb dX9_encode_310 (lv_at hl 0 rfl) ?_
                      refine lv_iadd hx hb dX9_encode_312 ?_
                      refine ri (y := nI (Qd.length + (0 + 1))) (nI_add Qd.length (0 + 1)) ?_
                      refine ax_ild hx hb hK hP 9 0 rfl rfl (Qd.length + 1) (rfl) (by omega) (by omega) dX9_encode_313 ?_
                      refine ri (y := nI y.2.2.1) (hym.2.2.1) ?_
                      refine lv_aload_n hx hb dX9_encode_314 rfl (lv_at hl 3 rfl) ?_
                      refine fx_get (D := D) (ci := 9) (v := .ref MqMode) (C := RX9) (T := TX9) (N := 78) hx hb hts in_X9 hown hK hP 12 rfl rfl 72 (by decide) (hts _ kX9_115) (fun _ h9 => h9) (k72_g_16) dX9_encode_315 ?_
                      refine lv_iload_n hx hb dX9_encode_318 rfl (lv_at hl 5 rfl) ?_
                      refine lv_iload hx hb dX9_encode_319 (lv_at hl 0 rfl) ?_
                      refine lv_iadd hx hb dX9_encode_321 ?_
                      refine ri (y := nI (Qd.length + (0 + 1))) (nI_add Qd.length (0 + 1)) ?_
                      refine ax_ild hx hb hK hP 10 0 rfl rfl (Qd.length + 1) (rfl) (by omega) (by omega) dX9_encode_322 ?_
                      refine ri (y := nI y.2.2.2) (hym.2.2.2) ?_
                      refine lv_iload_n hx hb dX9_encode_323 rfl (lv_at hl 1 rfl) ?_
                      refine lv_iload_n hx hb dX9_encode_324 rfl (lv_at hl 4 rfl) ?_
                      refine jn_v (wr := [(Mu, .inl (cB, 8000, .inl mu)), (MqAt, .inl (cI, 4100, .inl mqAt)), (MsData, .inl (cB, 8000, .inl da7)), (MsAddresses, .inl (cB, 30000, .inl ad7)), (Mnears, .inl (cJ, 8, .inr (.inl fn7))), (Msames, .inl (cJ, 1024, .inr (.inl fs7))), (Mtab, .inl (cB, 1536, .inl mtab)), (MqKind, .inl (cI, 4100, .inl mqKind)), (MqSize, .inl (cI, 4100, .inl mqSize)), (MqAddress, .inl (cI, 4100, .inl mqAddress)), (MqMode, .inl (cI, 4100, .inl m7)), (MsCodes, .inl (cB, 30000, .inl co8))]) hA hP hD hS [12, 13, 14, 15, 16, 17, 18] [0, 1, 2, 3, 4, 5, 6, 7, 8, 9, 10, 11] rfl rfl (by decide) (by decide) (rn_V (As := [.int (nI y.1), .int (nI y.2.1), .int (nI y.2.2.1), .int (nI y.2.2.2), .int (nI c), .int (nI wi)]) (rest := []) ⟨hx, hb, hml, hown, hts⟩ (cvV 6 hts zc_yX9_list zi_X9 zm_yX9_list zv_yX9_list kX9_320 (by decide +kernel) rfl rfl ⟨Nat.le_of_ble_eq_true rfl, Nat.le_of_ble_eq_true rfl⟩) (m_list l D cI cB cJ cR mm g_16 MdKind MdSize MdAddress MdMode MdCode MdWindow dKind_a dSize_a dAddress_a dMode_a dCode_a dWindow_a (dr7 + 1) (wrG gg cnt (rwQ wi Q1 (Cs ++ [c]))) (nI y.1) (nI y.2.1) (nI y.2.2.1) (nI y.2.2.2) (nI c) (nI wi) (drafts_hls_a) (k21_g_16) (k22_g_16) (k23_g_16) (k24_g_16) (k25_g_16) (k26_g_16) (by omega) (lb_b) H.size) hK hNw hMk hA hP hD hS [12, 13, 14, 15, 16, 17, 18] rfl rfl (by decide) 0 rfl rfl rfl rfl hl.1 rfl (Nat.le_of_ble_eq_true rfl) dX9_encode_325 ⟨Nat.le_of_ble_eq_true rfl, Nat.le_of_ble_eq_true rfl⟩) (fun u9 H locs hls_b hP hD hS => ?_)
                      obtain ⟨g_21, dKind_b, dSize_b, dAddress_b, dMode_b, dCode_b, dWindow_b⟩ := u9
                      try dsimp only at hls_b
                      have hP : va_P D vwCl [(Mu, .inl (cB, 8000, .inl mu)), (MqAt, .inl (cI, 4100, .inl mqAt)), (MsData, .inl (cB, 8000, .inl da7)), (MsAddresses, .inl (cB, 30000, .inl ad7)), (Mnears, .inl (cJ, 8, .inr (.inl fn7))), (Msames, .inl (cJ, 1024, .inr (.inl fs7))), (Mtab, .inl (cB, 1536, .inl mtab)), (MqKind, .inl (cI, 4100, .inl mqKind)), (MqSize, .inl (cI, 4100, .inl mqSize)), (MqAddress, .inl (cI, 4100, .inl mqAddress)), (MqMode, .inl (cI, 4100, .inl m7)), (MsCodes, .inl (cB, 30000, .inl co8)), (mm, .inr (9, fl 78 g_21)), (MdKind, .inl (cI, 4000, .inl dKind_b)), (MdSize, .inl (cI, 4000, .inl dSize_b)), (MdAddress, .inl (cI, 4000, .inl dAddress_b)), (MdMode, .inl (cI, 4000, .inl dMode_b)), (MdCode, .inl (cI, 4000, .inl dCode_b)), (MdWindow, .inl (cI, 4000, .inl dWindow_b))] H := hP
                      have hD : va_D A0 [(Mu, .inl (cB, 8000, .inl mu)), (MqAt, .inl (cI, 4100, .inl mqAt)), (MsData, .inl (cB, 8000, .inl da7)), (MsAddresses, .inl (cB, 30000, .inl ad7)), (Mnears, .inl (cJ, 8, .inr (.inl fn7))), (Msames, .inl (cJ, 1024, .inr (.inl fs7))), (Mtab, .inl (cB, 1536, .inl mtab)), (MqKind, .inl (cI, 4100, .inl mqKind)), (MqSize, .inl (cI, 4100, .inl mqSize)), (MqAddress, .inl (cI, 4100, .inl mqAddress)), (MqMode, .inl (cI, 4100, .inl m7)), (MsCodes, .inl (cB, 30000, .inl co8)), (mm, .inr (9, fl 78 g_21)), (MdKind, .inl (cI, 4000, .inl dKind_b)), (MdSize, .inl (cI, 4000, .inl dSize_b)), (MdAddress, .inl (cI, 4000, .inl dAddress_b)), (MdMode, .inl (cI, 4000, .inl dMode_b)), (MdCode, .inl (cI, 4000, .inl dCode_b)), (MdWindow, .inl (cI, 4000, .inl dWindow_b))] := hD
                      obtain ⟨f_hls_b, drafts_hls_b, hls_b_⟩ := hls_b
                      have k8_g_21 : g_21 8 = .int (nI near) := (f_hls_b 8 (by decide)).trans (k8_g_16)
                      have k9_g_21 : g_21 9 = .int (nI same) := (f_hls_b 9 (by decide)).trans (k9_g_16)
                      have k67_g_21 : g_21 67 = .int (nI Q1.length) := (f_hls_b 67 (by decide)).trans (k67_g_16)
                      have k39_g_21 : g_21 39 = .int (bI ct) := (f_hls_b 39 (by decide)).trans (k39_g_16)
                      have k7_g_21 : g_21 7 = .ref Mtab := (f_hls_b 7 (by decide)).trans (k7_g_16)
                      have k10_g_21 : g_21 10 = .ref Mnears := (f_hls_b 10 (by decide)).trans (k10_g_16)
                      have k12_g_21 : g_21 12 = .ref Msames := (f_hls_b 12 (by decide)).trans (k12_g_16)
                      have k64_g_21 : g_21 64 = .ref Mu := (f_hls_b 64 (by decide)).trans (k64_g_16)
                      have k68_g_21 : g_21 68 = .ref MqKind := (f_hls_b 68 (by decide)).trans (k68_g_16)
                      have k69_g_21 : g_21 69 = .ref MqSize := (f_hls_b 69 (by decide)).trans (k69_g_16)
                      have k70_g_21 : g_21 70 = .ref MqAt := (f_hls_b 70 (by decide)).trans (k70_g_16)
                      have k71_g_21 : g_21 71 = .ref MqAddress := (f_hls_b 71 (by decide)).trans (k71_g_16)
                      have k72_g_21 : g_21 72 = .ref MqMode := (f_hls_b 72 (by decide)).trans (k72_g_16)
                      have k58_g_21 : g_21 58 = .ref MsData := (f_hls_b 58 (by decide)).trans (k58_g_16)
                      have k60_g_21 : g_21 60 = .ref MsCodes := (f_hls_b 60 (by decide)).trans (k60_g_16)
                      have k62_g_21 : g_21 62 = .ref MsAddresses := (f_hls_b 62 (by decide)).trans (k62_g_16)
                      have k21_g_21 : g_21 21 = .ref MdKind := (f_hls_b 21 (by decide)).trans (k21_g_16)
                      have k22_g_21 : g_21 22 = .ref MdSize := (f_hls_b 22 (by decide)).trans (k22_g_16)
                      have k23_g_21 : g_21 23 = .ref MdAddress := (f_hls_b 23 (by decide)).trans (k23_g_16)
                      have k24_g_21 : g_21 24 = .ref MdMode := (f_hls_b 24 (by decide)).trans (k24_g_16)
                      have k25_g_21 : g_21 25 = .ref MdCode := (f_hls_b 25 (by decide)).trans (k25_g_16)
                      have k26_g_21 : g_21 26 = .ref MdWindow := (f_hls_b 26 (by decide)).trans (k26_g_16)
                      have k59_g_21 : g_21 59 = .int (nI Dl.length) := (f_hls_b 59 (by decide)).trans (k59_g_16)
                      have k63_g_21 : g_21 63 = .int (nI A.length) := (f_hls_b 63 (by decide)).trans (k63_g_16)
                      have k11_g_21 : g_21 11 = .int (nI nx) := (f_hls_b 11 (by decide)).trans (k11_g_16)
                      have k61_g_21 : g_21 61 = .int (nI (Os ++ [(nI c)]).length) := (f_hls_b 61 (by decide)).trans (k61_g_16)
                      have fr_g_21 : frm [20, 59, 61, 63, 11] g g_21 := frm_tr fr_g_16 f_hls_b (by decide)
                      have hG8 := wrG_code (g := gg) (f := cnt) (w := wi) (c := c) (Q := Q1) (Cs := Cs ++ [c]) (x := y) (by simp; rw [← hQd]; exact hy9) (by simp; omega)
                      rw [la_b] at hls_b_
                      have hls8 : dRel dKind_b dSize_b dAddress_b dMode_b dCode_b dWindow_b (wrG gg cnt (rwQ wi Q1 (Cs ++ [c] ++ [c]))) (cnt + (Cs ++ [c]).length + 1) := by rw [← hG8]; exact hls_b_
                      refine lv_iinc (v := nI ((0 + 1) + 1)) (lv' := [(5, .int (nI ((0 + 1) + 1))), (3, .int (nI c)), (4, .int 2), (0, .ref mm), (1, .int (nI wi)), (2, .int (nI Qd.length))]) hx hb dX9_encode_328 hl (k := 0) rfl (nI_add (0 + 1) 1) (by decide) rfl (fun ls hl => ?_)
                      refine lv_goto (tgt := 272) hx hb dX9_encode_331 (by decide) ?_
                      refine lv_iload hx hb dX9_encode_272 (lv_at hl 0 rfl) ?_
                      refine lv_iload hx hb dX9_encode_274 (lv_at hl 2 rfl) ?_
                      refine lv_icmp_ge (tgt := 334) hx hb dX9_encode_276 (by decide) (fun c_23 => ?_) (fun c_23 => absurd (by decide) c_23)
                      refine lv_iload_n hx hb dX9_encode_334 rfl (lv_at hl 5 rfl) ?_
                      refine lv_iload hx hb dX9_encode_335 (lv_at hl 2 rfl) ?_
                      refine lv_iadd hx hb dX9_encode_337 ?_
                      refine ri (y := nI (Qd.length + 2)) (nI_add Qd.length 2) ?_
                      refine lv_istore_n (lv' := [(2, .int (nI (Qd.length + 2))), (5, .int (nI ((0 + 1) + 1))), (3, .int (nI c)), (4, .int 2), (0, .ref mm), (1, .int (nI wi))]) hx hb dX9_encode_338 rfl hl (by decide) rfl (fun ls hl => ?_)
                      refine lv_goto (tgt := 152) hx hb dX9_encode_339 (by decide) ?_
                      rw [show Qd.length + 2 = (Qd ++ [x, y]).length by simp] at hl
                      exact ih g_21 R2 (Qd ++ [x, y]) (Os ++ [nI c]) (Cs ++ [c] ++ [c]) ((dr7 + 1) + 1) co8 dKind_b dSize_b dAddress_b dMode_b dCode_b dWindow_b _ _ ls (by omega) (fr_g_21) (k59_g_21) (k61_g_21) (k63_g_21) (k11_g_21) (drafts_hls_b) (by rw [hQ]; simp) (by simp; omega) (hdone) (by simp; omega) (hco_) (fun z => ⟨by simp at la_b ⊢; omega, by rw [show ((dr7 + 1) + 1) = cnt + (Cs ++ [c]).length + 1 by omega]; exact hls8⟩) (fun z => absurd (hcf_b.symm.trans z) (by decide)) (hP.sub [12, 6, 0, 7, 8, 1, 9, 10, 2, 11, 3, 13, 14, 15, 16, 17, 18, 4, 5] rfl) (hD.sub [12, 6, 0, 7, 8, 1, 9, 10, 2, 11, 3, 13, 14, 15, 16, 17, 18, 4, 5] (by decide) rfl) hS (lv_sub hl [4, 5, 0] rfl)
                · have hone : cdW tt (x :: R1) = cdP ((sg1 tt x).1, (sg1 tt x).2.1, [(sg1 tt x).2.2]) (cdW tt R1) := cdW_one (fun y9 r9 hy => by have e9 : Q1.getD (Qd.length + 1) (0, 0, 0, 0) = y9 := (by rw [hQ, gD_r (by omega), show Qd.length + 1 - Qd.length = 1 by omega, hy]; rfl); rw [← e9]; exact Decidable.byContradiction hpr)
                  have cf3 := cf2 (fun _ => Decidable.byContradiction hpr)
                  by_cases hA1 : (fstC (sngP tt x.1 x.2.1 x.2.2.2) 256 0) < 0
                  · by_cases hB1 : (fstC (sngP tt x.1 0 x.2.2.2) 256 0) < 0
                    · have hrc : rc_ = (fstC (sngP tt x.1 0 x.2.2.2) 256 0) := cf3.2 hA1
                      have hsg : sg1 tt x = (false, [], 0) := by rw [sg1, if_neg (fun z => z hA1), if_neg (fun z => z hB1)]
                      refine lv_istore_n (lv' := [(3, .int rc_), (0, .ref mm), (1, .int (nI wi)), (2, .int (nI Qd.length))]) hx hb dX9_encode_165 rfl hl (by decide) rfl (fun ls hl => ?_)
                      refine lv_iload_n hx hb dX9_encode_166 rfl (lv_at hl 0 rfl) ?_
                      refine lv_if_ge (tgt := 172) hx hb dX9_encode_167 (by decide) (fun c_24 => absurd c_24 (by rw [hrc]; exact Int32.not_le.mpr hB1)) (fun c_24 => ?_)
                      refine lv_iconst (v := 0) hx hb dX9_encode_170 (by decide) ?_
                      have hcdf : (cdW tt Q1).1 = false := by rw [hcd, hone, hsg]; simp [cdP]
                      have hP := hP.sub (ws' := [(mm, .inr (9, fl 78 g5_l2)), (Mtab, .inl (cB, 1536, .inl mtab)), (Mnears, .inl (cJ, 8, .inr (.inl fn7))), (Msames, .inl (cJ, 1024, .inr (.inl fs7))), (Mu, .inl (cB, 8000, .inl mu)), (MqKind, .inl (cI, 4100, .inl mqKind)), (MqSize, .inl (cI, 4100, .inl mqSize)), (MqAt, .inl (cI, 4100, .inl mqAt)), (MqAddress, .inl (cI, 4100, .inl mqAddress)), (MqMode, .inl (cI, 4100, .inl m7)), (MsData, .inl (cB, 8000, .inl da7)), (MsCodes, .inl (cB, 30000, .inl co7)), (MsAddresses, .inl (cB, 30000, .inl ad7)), (MdKind, .inl (cI, 4000, .inl dKind7)), (MdSize, .inl (cI, 4000, .inl dSize7)), (MdAddress, .inl (cI, 4000, .inl dAddress7)), (MdMode, .inl (cI, 4000, .inl dMode7)), (MdCode, .inl (cI, 4000, .inl dCode7)), (MdWindow, .inl (cI, 4000, .inl dWindow7))]) [13, 14, 11, 12, 0, 15, 16, 1, 17, 18, 2, 3, 4, 5, 6, 7, 8, 9, 10] rfl
                      have hD := hD.sub (ws' := [(mm, .inr (9, fl 78 g5_l2)), (Mtab, .inl (cB, 1536, .inl mtab)), (Mnears, .inl (cJ, 8, .inr (.inl fn7))), (Msames, .inl (cJ, 1024, .inr (.inl fs7))), (Mu, .inl (cB, 8000, .inl mu)), (MqKind, .inl (cI, 4100, .inl mqKind)), (MqSize, .inl (cI, 4100, .inl mqSize)), (MqAt, .inl (cI, 4100, .inl mqAt)), (MqAddress, .inl (cI, 4100, .inl mqAddress)), (MqMode, .inl (cI, 4100, .inl m7)), (MsData, .inl (cB, 8000, .inl da7)), (MsCodes, .inl (cB, 30000, .inl co7)), (MsAddresses, .inl (cB, 30000, .inl ad7)), (MdKind, .inl (cI, 4000, .inl dKind7)), (MdSize, .inl (cI, 4000, .inl dSize7)), (MdAddress, .inl (cI, 4000, .inl dAddress7)), (MdMode, .inl (cI, 4000, .inl dMode7)), (MdCode, .inl (cI, 4000, .inl dCode7)), (MdWindow, .inl (cI, 4000, .inl dWindow7))]) [13, 14, 11, 12, 0, 15, 16, 1, 17, 18, 2, 3, 4, 5, 6, 7, 8, 9, 10] (by decide) rfl
                      exact hret 171 ls _ _ false (g5_l2, dr7, nI Dl.length, nI Os.length, nI A.length, nI nx, fn7, fs7, m7, da7, co7, ad7, dKind7, dSize7, dAddress7, dMode7, dCode7, dWindow7) dX9_encode_171 hP hD hS (⟨hf_l2, k_drafts_l2, k_sDatas_l2, k_sCode_l2, k_sAddress_l2, k_nextNear_l2, by rw [← hR9, hRw]; dsimp only; rw [hcdf]; exact ⟨rfl, fun z => absurd z (by decide), hdf⟩⟩)
                    · obtain ⟨c, hcn_, hc6, hfit⟩ : ∃ c, (fstC (sngP tt x.1 0 x.2.2.2) 256 0) = nI c ∧ c < 256 ∧ sngP tt x.1 0 x.2.2.2 c = true := by obtain ⟨c, q1, q2, q3, q4, -⟩ := fst_pos 256 0 hB1; exact ⟨c, q1, by omega, q4⟩
                      have hrc : rc_ = nI c := by rw [← hcn_]; exact cf3.2 hA1
                      subst hrc
                      have hcc : (fstC (sngP tt x.1 0 x.2.2.2) 256 0).toNatClampNeg = c := by rw [hcn_]; exact nI_clamp (by omega)
                      have hsz0 : tt (512 + 0 * 256 + c) = 0 := by unfold sngP at hfit; rw [Bool.and_eq_true] at hfit; exact (of_decide_eq_true hfit.2).2.1
                      refine lv_istore_n (lv' := [(3, .int (nI c)), (0, .ref mm), (1, .int (nI wi)), (2, .int (nI Qd.length))]) hx hb dX9_encode_165 rfl hl (by decide) rfl (fun ls hl => ?_)
                      refine lv_iload_n hx hb dX9_encode_166 rfl (lv_at hl 0 rfl) ?_
                      refine lv_if_ge (tgt := 172) hx hb dX9_encode_167 (by decide) (fun c_25 => ?_) (fun c_25 => absurd (nI_pos' (by omega)) c_25)
                      refine lv_iload_n hx hb dX9_encode_172 rfl (lv_at hl 0 rfl) ?_
                      refine lv_sipush (v := 1000) hx hb dX9_encode_173 (by decide) ?_
                      refine lv_icmp_lt (tgt := 183) hx hb dX9_encode_176 (by decide) (fun c_26 => ?_) (fun c_26 => absurd (nI_lt (b := 1000) (by omega) (by decide)) c_26)
                      refine lv_iconst (v := 1) hx hb dX9_encode_183 (by decide) ?_
                      refine lv_istore (lv' := [(4, .int 1), (3, .int (nI c)), (0, .ref mm), (1, .int (nI wi)), (2, .int (nI Qd.length))]) hx hb dX9_encode_184 hl (by decide) rfl (fun ls hl => ?_)
                      refine lv_iload_n hx hb dX9_encode_186 rfl (lv_at hl 1 rfl) ?_
                      refine lv_sipush (v := 1000) hx hb dX9_encode_187 (by decide) ?_
                      refine lv_irem hx hb dX9_encode_190 (by decide) ?_
                      refine ri (y := nI c) ((pk_rem (d := 1000) (by omega) (by decide) (by decide)).trans (by rw [Nat.mod_eq_of_lt (by omega)])) ?_
                      refine lv_istore_n (lv' := [(3, .int (nI c)), (4, .int 1), (0, .ref mm), (1, .int (nI wi)), (2, .int (nI Qd.length))]) hx hb dX9_encode_191 rfl hl (by decide) rfl (fun ls hl => ?_)
                      refine lv_aload_n hx hb dX9_encode_192 rfl (lv_at hl 2 rfl) ?_
                      refine lv_iload_n hx hb dX9_encode_193 rfl (lv_at hl 0 rfl) ?_
                      refine jn_v (wr := [(Mu, .inl (cB, 8000, .inl mu)), (MqAt, .inl (cI, 4100, .inl mqAt)), (MsData, .inl (cB, 8000, .inl da7)), (MsAddresses, .inl (cB, 30000, .inl ad7)), (MdKind, .inl (cI, 4000, .inl dKind7)), (MdSize, .inl (cI, 4000, .inl dSize7)), (MdAddress, .inl (cI, 4000, .inl dAddress7)), (MdMode, .inl (cI, 4000, .inl dMode7)), (MdCode, .inl (cI, 4000, .inl dCode7)), (MdWindow, .inl (cI, 4000, .inl dWindow7)), (Mnears, .inl (cJ, 8, .inr (.inl fn7))), (Msames, .inl (cJ, 1024, .inr (.inl fs7))), (Mtab, .inl (cB, 1536, .inl mtab)), (MqKind, .inl (cI, 4100, .inl mqKind)), (MqSize, .inl (cI, 4100, .inl mqSize)), (MqAddress, .inl (cI, 4100, .inl mqAddress)), (MqMode, .inl (cI, 4100, .inl m7))]) hA hP hD hS [13, 3] [0, 1, 2, 4, 5, 6, 7, 8, 9, 10, 11, 12, 14, 15, 16, 17, 18] rfl rfl (by decide) (by decide) (rn_V (As := [.int (nI c)]) (rest := []) ⟨hx, hb, hml, hown, hts⟩ (cvV 1 hts zc_yX9_codeOctet zi_X9 zm_yX9_codeOctet zv_yX9_codeOctet kX9_397 (by decide +kernel) rfl rfl ⟨Nat.le_of_ble_eq_true rfl, Nat.le_of_ble_eq_true rfl⟩) (m_codeOctet l D cI cB cJ cR mm g5_l2 MsCodes co7 Os (nI c) (k_sCode_l2) ((hf_l2 60 (by decide)).trans g_sCodes) (by omega) (hwC) H.size) hK hNw hMk hA hP hD hS [13, 3] rfl rfl (by decide) 0 rfl rfl rfl rfl hl.1 rfl (Nat.le_of_ble_eq_true rfl) dX9_encode_194 ⟨Nat.le_of_ble_eq_true rfl, Nat.le_of_ble_eq_true rfl⟩) (fun u9 H locs hco hP hD hS => ?_)
                      obtain ⟨g_27, co8⟩ := u9
                      try dsimp only at hco
                      have hP : va_P D vwCl [(Mu, .inl (cB, 8000, .inl mu)), (MqAt, .inl (cI, 4100, .inl mqAt)), (MsData, .inl (cB, 8000, .inl da7)), (MsAddresses, .inl (cB, 30000, .inl ad7)), (MdKind, .inl (cI, 4000, .inl dKind7)), (MdSize, .inl (cI, 4000, .inl dSize7)), (MdAddress, .inl (cI, 4000, .inl dAddress7)), (MdMode, .inl (cI, 4000, .inl dMode7)), (MdCode, .inl (cI, 4000, .inl dCode7)), (MdWindow, .inl (cI, 4000, .inl dWindow7)), (Mnears, .inl (cJ, 8, .inr (.inl fn7))), (Msames, .inl (cJ, 1024, .inr (.inl fs7))), (Mtab, .inl (cB, 1536, .inl mtab)), (MqKind, .inl (cI, 4100, .inl mqKind)), (MqSize, .inl (cI, 4100, .inl mqSize)), (MqAddress, .inl (cI, 4100, .inl mqAddress)), (MqMode, .inl (cI, 4100, .inl m7)), (mm, .inr (9, fl 78 g_27)), (MsCodes, .inl (cB, 30000, .inl co8))] H := hP
                      have hD : va_D A0 [(Mu, .inl (cB, 8000, .inl mu)), (MqAt, .inl (cI, 4100, .inl mqAt)), (MsData, .inl (cB, 8000, .inl da7)), (MsAddresses, .inl (cB, 30000, .inl ad7)), (MdKind, .inl (cI, 4000, .inl dKind7)), (MdSize, .inl (cI, 4000, .inl dSize7)), (MdAddress, .inl (cI, 4000, .inl dAddress7)), (MdMode, .inl (cI, 4000, .inl dMode7)), (MdCode, .inl (cI, 4000, .inl dCode7)), (MdWindow, .inl (cI, 4000, .inl dWindow7)), (Mnears, .inl (cJ, 8, .inr (.inl fn7))), (Msames, .inl (cJ, 1024, .inr (.inl fs7))), (Mtab, .inl (cB, 1536, .inl mtab)), (MqKind, .inl (cI, 4100, .inl mqKind)), (MqSize, .inl (cI, 4100, .inl mqSize)), (MqAddress, .inl (cI, 4100, .inl mqAddress)), (MqMode, .inl (cI, 4100, .inl m7)), (mm, .inr (9, fl 78 g_27)), (MsCodes, .inl (cB, 30000, .inl co8))] := hD
                      obtain ⟨f_hco, sCode_hco, hco_⟩ := hco
                      have k8_g_27 : g_27 8 = .int (nI near) := (f_hco 8 (by decide)).trans ((hf_l2 8 (by decide)).trans g_near)
                      have k9_g_27 : g_27 9 = .int (nI same) := (f_hco 9 (by decide)).trans ((hf_l2 9 (by decide)).trans g_same)
                      have k67_g_27 : g_27 67 = .int (nI Q1.length) := (f_hco 67 (by decide)).trans ((hf_l2 67 (by decide)).trans g_waits)
                      have k39_g_27 : g_27 39 = .int (bI ct) := (f_hco 39 (by decide)).trans ((hf_l2 39 (by decide)).trans g_counts)
                      have k7_g_27 : g_27 7 = .ref Mtab := (f_hco 7 (by decide)).trans ((hf_l2 7 (by decide)).trans g_tab)
                      have k10_g_27 : g_27 10 = .ref Mnears := (f_hco 10 (by decide)).trans ((hf_l2 10 (by decide)).trans g_nears)
                      have k12_g_27 : g_27 12 = .ref Msames := (f_hco 12 (by decide)).trans ((hf_l2 12 (by decide)).trans g_sames)
                      have k64_g_27 : g_27 64 = .ref Mu := (f_hco 64 (by decide)).trans ((hf_l2 64 (by decide)).trans g_u)
                      have k68_g_27 : g_27 68 = .ref MqKind := (f_hco 68 (by decide)).trans ((hf_l2 68 (by decide)).trans g_qKind)
                      have k69_g_27 : g_27 69 = .ref MqSize := (f_hco 69 (by decide)).trans ((hf_l2 69 (by decide)).trans g_qSize)
                      have k70_g_27 : g_27 70 = .ref MqAt := (f_hco 70 (by decide)).trans ((hf_l2 70 (by decide)).trans g_qAt)
                      have k71_g_27 : g_27 71 = .ref MqAddress := (f_hco 71 (by decide)).trans ((hf_l2 71 (by decide)).trans g_qAddress)
                      have k72_g_27 : g_27 72 = .ref MqMode := (f_hco 72 (by decide)).trans ((hf_l2 72 (by decide)).trans g_qMode)
                      have k58_g_27 : g_27 58 = .ref MsData := (f_hco 58 (by decide)).trans ((hf_l2 58 (by decide)).trans g_sData)
                      have k60_g_27 : g_27 60 = .ref MsCodes := (f_hco 60 (by decide)).trans ((hf_l2 60 (by decide)).trans g_sCodes)
                      have k62_g_27 : g_27 62 = .ref MsAddresses := (f_hco 62 (by decide)).trans ((hf_l2 62 (by decide)).trans g_sAddresses)
                      have k21_g_27 : g_27 21 = .ref MdKind := (f_hco 21 (by decide)).trans ((hf_l2 21 (by decide)).trans g_dKind)
                      have k22_g_27 : g_27 22 = .ref MdSize := (f_hco 22 (by decide)).trans ((hf_l2 22 (by decide)).trans g_dSize)
                      have k23_g_27 : g_27 23 = .ref MdAddress := (f_hco 23 (by decide)).trans ((hf_l2 23 (by decide)).trans g_dAddress)
                      have k24_g_27 : g_27 24 = .ref MdMode := (f_hco 24 (by decide)).trans ((hf_l2 24 (by decide)).trans g_dMode)
                      have k25_g_27 : g_27 25 = .ref MdCode := (f_hco 25 (by decide)).trans ((hf_l2 25 (by decide)).trans g_dCode)
                      have k26_g_27 : g_27 26 = .ref MdWindow := (f_hco 26 (by decide)).trans ((hf_l2 26 (by decide)).trans g_dWindow)
                      have k59_g_27 : g_27 59 = .int (nI Dl.length) := (f_hco 59 (by decide)).trans (k_sDatas_l2)
                      have k63_g_27 : g_27 63 = .int (nI A.length) := (f_hco 63 (by decide)).trans (k_sAddress_l2)
                      have k11_g_27 : g_27 11 = .int (nI nx) := (f_hco 11 (by decide)).trans (k_nextNear_l2)
                      have k20_g_27 : g_27 20 = .int (nI dr7) := (f_hco 20 (by decide)).trans (k_drafts_l2)
                      have fr_g_27 : frm [20, 59, 61, 63, 11] g g_27 := frm_tr hf_l2 f_hco (by decide)
                      refine lv_iload hx hb dX9_encode_197 (lv_at hl 1 rfl) ?_
                      refine lv_iconst (v := 1) hx hb dX9_encode_199 (by decide) ?_
                      refine lv_icmp_ne (tgt := 269) hx hb dX9_encode_200 (by decide) (fun c_29 => absurd (by decide) c_29) (fun c_29 => ?_)
                      refine lv_aload_n hx hb dX9_encode_203 rfl (lv_at hl 2 rfl) ?_
                      refine lv_iload_n hx hb dX9_encode_204 rfl (lv_at hl 0 rfl) ?_
                      refine lv_iconst (v := 0) hx hb dX9_encode_205 (by decide) ?_
                      refine ri (y := nI 0) nI_0.symm ?_
                      refine jn_i (wr := [(Mu, .inl (cB, 8000, .inl mu)), (MqAt, .inl (cI, 4100, .inl mqAt)), (MsData, .inl (cB, 8000, .inl da7)), (MsAddresses, .inl (cB, 30000, .inl ad7)), (MdKind, .inl (cI, 4000, .inl dKind7)), (MdSize, .inl (cI, 4000, .inl dSize7)), (MdAddress, .inl (cI, 4000, .inl dAddress7)), (MdMode, .inl (cI, 4000, .inl dMode7)), (MdCode, .inl (cI, 4000, .inl dCode7)), (MdWindow, .inl (cI, 4000, .inl dWindow7)), (Mnears, .inl (cJ, 8, .inr (.inl fn7))), (Msames, .inl (cJ, 1024, .inr (.inl fs7))), (MqKind, .inl (cI, 4100, .inl mqKind)), (MqSize, .inl (cI, 4100, .inl mqSize)), (MqAddress, .inl (cI, 4100, .inl mqAddress)), (MqMode, .inl (cI, 4100, .inl m7)), (MsCodes, .inl (cB, 30000, .inl co8))]) hA hP hD hS [17, 12] [0, 1, 2, 3, 4, 5, 6, 7, 8, 9, 10, 11, 13, 14, 15, 16, 18] rfl rfl (by decide) (by decide) (rn_V (As := [.int (nI c), .int (nI 0)]) (rest := []) ⟨hx, hb, hml, hown, hts⟩ (cvV 2 hts zc_yX9_sizeOf zi_X9 zm_yX9_sizeOf zv_yX9_sizeOf kX9_298 (by decide +kernel) rfl rfl ⟨Nat.le_of_ble_eq_true rfl, Nat.le_of_ble_eq_true rfl⟩) (m_sizeOf l D cI cB cJ cR mm g_27 Mtab mtab tt c 0 (k7_g_27) (ht) (hc6) (by decide) H.size) hK hNw hMk hA hP hD hS [17, 12] rfl rfl (by decide) 0 rfl rfl rfl rfl hl.1 rfl (Nat.le_of_ble_eq_true rfl) dX9_encode_206 ⟨Nat.le_of_ble_eq_true rfl, Nat.le_of_ble_eq_true rfl⟩) (fun r_32 u9 H locs w_30 hP hD hS => ?_)
                      try dsimp only at w_30
                      have hP : va_P D vwCl [(Mu, .inl (cB, 8000, .inl mu)), (MqAt, .inl (cI, 4100, .inl mqAt)), (MsData, .inl (cB, 8000, .inl da7)), (MsAddresses, .inl (cB, 30000, .inl ad7)), (MdKind, .inl (cI, 4000, .inl dKind7)), (MdSize, .inl (cI, 4000, .inl dSize7)), (MdAddress, .inl (cI, 4000, .inl dAddress7)), (MdMode, .inl (cI, 4000, .inl dMode7)), (MdCode, .inl (cI, 4000, .inl dCode7)), (MdWindow, .inl (cI, 4000, .inl dWindow7)), (Mnears, .inl (cJ, 8, .inr (.inl fn7))), (Msames, .inl (cJ, 1024, .inr (.inl fs7))), (MqKind, .inl (cI, 4100, .inl mqKind)), (MqSize, .inl (cI, 4100, .inl mqSize)), (MqAddress, .inl (cI, 4100, .inl mqAddress)), (MqMode, .inl (cI, 4100, .inl m7)), (MsCodes, .inl (cB, 30000, .inl co8)), (mm, .inr (9, fl 78 g_27)), (Mtab, .inl (cB, 1536, .inl mtab))] H := hP
                      have hD : va_D A0 [(Mu, .inl (cB, 8000, .inl mu)), (MqAt, .inl (cI, 4100, .inl mqAt)), (MsData, .inl (cB, 8000, .inl da7)), (MsAddresses, .inl (cB, 30000, .inl ad7)), (MdKind, .inl (cI, 4000, .inl dKind7)), (MdSize, .inl (cI, 4000, .inl dSize7)), (MdAddress, .inl (cI, 4000, .inl dAddress7)), (MdMode, .inl (cI, 4000, .inl dMode7)), (MdCode, .inl (cI, 4000, .inl dCode7)), (MdWindow, .inl (cI, 4000, .inl dWindow7)), (Mnears, .inl (cJ, 8, .inr (.inl fn7))), (Msames, .inl (cJ, 1024, .inr (.inl fs7))), (MqKind, .inl (cI, 4100, .inl mqKind)), (MqSize, .inl (cI, 4100, .inl mqSize)), (MqAddress, .inl (cI, 4100, .inl mqAddress)), (MqMode, .inl (cI, 4100, .inl m7)), (MsCodes, .inl (cB, 30000, .inl co8)), (mm, .inr (9, fl 78 g_27)), (Mtab, .inl (cB, 1536, .inl mtab))] := hD
                      subst w_30
                      have hsg9 : sg1 tt x = (true, nI c :: numL x.2.1, c) := by rw [sg1, if_neg (fun z => z hA1), if_pos hB1, hcn_, nI_clamp (by omega)]
                      refine lv_if_ne (tgt := 269) hx hb dX9_encode_209 (by decide) (fun c_33 => absurd (by rw [hsz0]; decide) c_33) (fun c_33 => ?_)
                      have hn5 := nsz_le x.2.1
                      have hn1 := nsz_pos x.2.1
                      refine lv_aload_n hx hb dX9_encode_212 rfl (lv_at hl 2 rfl) ?_
                      refine fx_get (D := D) (ci := 9) (v := .ref MqSize) (C := RX9) (T := TX9) (N := 78) hx hb hts in_X9 hown hK hP 17 rfl rfl 69 (by decide) (hts _ kX9_106) (fun _ h9 => h9) (k69_g_27) dX9_encode_213 ?_
                      refine lv_iload_n hx hb dX9_encode_216 rfl (lv_at hl 4 rfl) ?_
                      refine ax_ild hx hb hK hP 13 0 rfl rfl Qd.length (rfl) (by omega) (by omega) dX9_encode_217 ?_
                      refine ri (y := nI x.2.1) (hxm.2.1) ?_
                      refine lv_i2l hx hb dX9_encode_218 (v := (nI x.2.1).toInt64) rfl ?_
                      refine rl (y := lN x.2.1) (nI_l (by omega)) ?_
                      refine jn_i (wr := [(Mu, .inl (cB, 8000, .inl mu)), (MqAt, .inl (cI, 4100, .inl mqAt)), (MsData, .inl (cB, 8000, .inl da7)), (MsAddresses, .inl (cB, 30000, .inl ad7)), (MdKind, .inl (cI, 4000, .inl dKind7)), (MdSize, .inl (cI, 4000, .inl dSize7)), (MdAddress, .inl (cI, 4000, .inl dAddress7)), (MdMode, .inl (cI, 4000, .inl dMode7)), (MdCode, .inl (cI, 4000, .inl dCode7)), (MdWindow, .inl (cI, 4000, .inl dWindow7)), (Mnears, .inl (cJ, 8, .inr (.inl fn7))), (Msames, .inl (cJ, 1024, .inr (.inl fs7))), (MqKind, .inl (cI, 4100, .inl mqKind)), (MqSize, .inl (cI, 4100, .inl mqSize)), (MqAddress, .inl (cI, 4100, .inl mqAddress)), (MqMode, .inl (cI, 4100, .inl m7)), (MsCodes, .inl (cB, 30000, .inl co8)), (mm, .inr (9, fl 78 g_27)), (Mtab, .inl (cB, 1536, .inl mtab))]) hA hP hD hS [] [0, 1, 2, 3, 4, 5, 6, 7, 8, 9, 10, 11, 12, 13, 14, 15, 16, 17, 18] rfl rfl (by decide) (by decide) (rn_S (As := [.long (lN x.2.1)]) (rest := []) ⟨hx, hb, hml, hown, hts⟩ (cvS 1 hts zc_yX9_numberSize zi_X9 zs_yX9_numberSize kX9_349 (by decide +kernel) rfl rfl ⟨Nat.le_of_ble_eq_true rfl, Nat.le_of_ble_eq_true rfl⟩) (m_numberSize l D cI cB cJ cR x.2.1 (by omega) H.size) hK hNw hMk hA hP hD hS [] rfl rfl (by decide) rfl hl.1 rfl (Nat.le_of_ble_eq_true rfl) dX9_encode_219 ⟨Nat.le_of_ble_eq_true rfl, Nat.le_of_ble_eq_true rfl⟩) (fun r_34 u9 H locs w_35 hP hD hS => ?_)
                      try dsimp only at w_35
                      have hP : va_P D vwCl [(Mu, .inl (cB, 8000, .inl mu)), (MqAt, .inl (cI, 4100, .inl mqAt)), (MsData, .inl (cB, 8000, .inl da7)), (MsAddresses, .inl (cB, 30000, .inl ad7)), (MdKind, .inl (cI, 4000, .inl dKind7)), (MdSize, .inl (cI, 4000, .inl dSize7)), (MdAddress, .inl (cI, 4000, .inl dAddress7)), (MdMode, .inl (cI, 4000, .inl dMode7)), (MdCode, .inl (cI, 4000, .inl dCode7)), (MdWindow, .inl (cI, 4000, .inl dWindow7)), (Mnears, .inl (cJ, 8, .inr (.inl fn7))), (Msames, .inl (cJ, 1024, .inr (.inl fs7))), (MqKind, .inl (cI, 4100, .inl mqKind)), (MqSize, .inl (cI, 4100, .inl mqSize)), (MqAddress, .inl (cI, 4100, .inl mqAddress)), (MqMode, .inl (cI, 4100, .inl m7)), (MsCodes, .inl (cB, 30000, .inl co8)), (mm, .inr (9, fl 78 g_27)), (Mtab, .inl (cB, 1536, .inl mtab))] H := hP
                      have hD : va_D A0 [(Mu, .inl (cB, 8000, .inl mu)), (MqAt, .inl (cI, 4100, .inl mqAt)), (MsData, .inl (cB, 8000, .inl da7)), (MsAddresses, .inl (cB, 30000, .inl ad7)), (MdKind, .inl (cI, 4000, .inl dKind7)), (MdSize, .inl (cI, 4000, .inl dSize7)), (MdAddress, .inl (cI, 4000, .inl dAddress7)), (MdMode, .inl (cI, 4000, .inl dMode7)), (MdCode, .inl (cI, 4000, .inl dCode7)), (MdWindow, .inl (cI, 4000, .inl dWindow7)), (Mnears, .inl (cJ, 8, .inr (.inl fn7))), (Msames, .inl (cJ, 1024, .inr (.inl fs7))), (MqKind, .inl (cI, 4100, .inl mqKind)), (MqSize, .inl (cI, 4100, .inl mqSize)), (MqAddress, .inl (cI, 4100, .inl mqAddress)), (MqMode, .inl (cI, 4100, .inl m7)), (MsCodes, .inl (cB, 30000, .inl co8)), (mm, .inr (9, fl 78 g_27)), (Mtab, .inl (cB, 1536, .inl mtab))] := hD
                      subst w_35
                      refine lv_iconst (v := 1) hx hb dX9_encode_222 (by decide) ?_
                      refine lv_isub hx hb dX9_encode_223 ?_
                      refine lv_istore (lv' := [(5, .int ((nI (nsz x.2.1)) - 1)), (3, .int (nI c)), (4, .int 1), (0, .ref mm), (1, .int (nI wi)), (2, .int (nI Qd.length))]) hx hb dX9_encode_224 hl (by decide) rfl (fun ls hl => ?_)
                      have ln : ∀ (k9 : Nat) (g5_ln : Nat → Value) (k : Nat) (Lc : List Int32) (w7 : Nat → Int32) (H : Heap) (locs : List Loc) (ls : Array Slot), k < k9 → (frm [20, 59, 61, 63, 11] g g5_ln) → (g5_ln 59 = .int (nI Dl.length)) → (g5_ln 61 = .int (nI Lc.length)) → (g5_ln 63 = .int (nI A.length)) → (g5_ln 11 = .int (nI nx)) → (g5_ln 20 = .int (nI dr7)) → (k ≤ nsz x.2.1) → (Lc ++ numT x.2.1 k = Os ++ [nI c] ++ numL x.2.1) → (wL 30000 w7 Lc) → va_P D vwCl [(mm, .inr (9, fl 78 g5_ln)), (Mu, .inl (cB, 8000, .inl mu)), (MqAt, .inl (cI, 4100, .inl mqAt)), (MsData, .inl (cB, 8000, .inl da7)), (MsAddresses, .inl (cB, 30000, .inl ad7)), (MdKind, .inl (cI, 4000, .inl dKind7)), (MdSize, .inl (cI, 4000, .inl dSize7)), (MdAddress, .inl (cI, 4000, .inl dAddress7)), (MdMode, .inl (cI, 4000, .inl dMode7)), (MdCode, .inl (cI, 4000, .inl dCode7)), (MdWindow, .inl (cI, 4000, .inl dWindow7)), (Mnears, .inl (cJ, 8, .inr (.inl fn7))), (Msames, .inl (cJ, 1024, .inr (.inl fs7))), (MqKind, .inl (cI, 4100, .inl mqKind)), (MqSize, .inl (cI, 4100, .inl mqSize)), (MqAddress, .inl (cI, 4100, .inl mqAddress)), (MqMode, .inl (cI, 4100, .inl m7)), (MsCodes, .inl (cB, 30000, .inl w7)), (Mtab, .inl (cB, 1536, .inl mtab))] H → va_D A0 [(mm, .inr (9, fl 78 g5_ln)), (Mu, .inl (cB, 8000, .inl mu)), (MqAt, .inl (cI, 4100, .inl mqAt)), (MsData, .inl (cB, 8000, .inl da7)), (MsAddresses, .inl (cB, 30000, .inl ad7)), (MdKind, .inl (cI, 4000, .inl dKind7)), (MdSize, .inl (cI, 4000, .inl dSize7)), (MdAddress, .inl (cI, 4000, .inl dAddress7)), (MdMode, .inl (cI, 4000, .inl dMode7)), (MdCode, .inl (cI, 4000, .inl dCode7)), (MdWindow, .inl (cI, 4000, .inl dWindow7)), (Mnears, .inl (cJ, 8, .inr (.inl fn7))), (Msames, .inl (cJ, 1024, .inr (.inl fs7))), (MqKind, .inl (cI, 4100, .inl mqKind)), (MqSize, .inl (cI, 4100, .inl mqSize)), (MqAddress, .inl (cI, 4100, .inl mqAddress)), (MqMode, .inl (cI, 4100, .inl m7)), (MsCodes, .inl (cB, 30000, .inl w7)), (Mtab, .inl (cB, 1536, .inl mtab))] → va_S A0 s0.heap H locs → lv_has ls 6 [(0, .ref mm), (1, .int (nI wi)), (2, .int (nI Qd.length)), (3, .int (nI c)), (4, .int 1), (5, .int (nI k - 1))] → W p0 l e0 ({ frames := 3, cells := 0, slots := 0, locals := 74 }) s0 m0 ([.ref mm, .int (nI wi)] : List Value).toArray below meth c0 H locs 0 0 Q0 (F0 m0 226 ls []) := by
                        intro k9
                        induction k9 with
                        | zero => intro g5_ln k Lc w7 H locs ls hk9; exact absurd hk9 (Nat.not_lt_zero _)
                        | succ k9 ih3 =>
                          intro g5_ln k Lc w7 H locs ls hk9 hf_ln k_sDatas_ln k_sCode_ln k_sAddress_ln k_nextNear_ln k_drafts_ln hk5 hLc hw7 hP hD hS hl
                          refine lv_iload hx hb dX9_encode_226 (lv_at hl 5 rfl) ?_
                          refine lv_if_lt (tgt := 269) hx hb dX9_encode_228 (by decide) (fun c_36 => ?_) (fun c_36 => ?_)
                          · have hk0 : k = 0 := Decidable.byContradiction (fun z => by rw [show (1 : Int32) = nI 1 from rfl, pk_sub (by omega)] at c_36; exact nI_pos (by omega) c_36)
                            rw [hk0, numT, List.append_nil] at hLc
                            subst hLc
                            have hdone : (cdW tt Q1) = cdP (true, (Os ++ [nI c] ++ numL x.2.1), Cs ++ [c]) (cdW tt R1) := by rw [hcd, hone, hsg9, cdP_assoc]; unfold cdP; simp
                            refine lv_iconst (v := 0) hx hb dX9_encode_269 (by decide) ?_
                            refine ri (y := nI 0) (nI_0.symm) ?_
                            refine lv_istore (lv' := [(5, .int (nI 0)), (0, .ref mm), (1, .int (nI wi)), (2, .int (nI Qd.length)), (3, .int (nI c)), (4, .int 1)]) hx hb dX9_encode_270 hl (by decide) rfl (fun ls hl => ?_)
                            refine lv_iload hx hb dX9_encode_272 (lv_at hl 0 rfl) ?_
                            refine lv_iload hx hb dX9_encode_274 (lv_at hl 5 rfl) ?_
                            refine lv_icmp_ge (tgt := 334) hx hb dX9_encode_276 (by decide) (fun c_37 => absurd c_37 (by decide)) (fun c_37 => ?_)
                            refine lv_aload_n hx hb dX9_encode_279 rfl (lv_at hl 1 rfl) ?_
                            refine fx_get (D := D) (ci := 9) (v := .int (bI ct)) (C := RX9) (T := TX9) (N := 78) hx hb hts in_X9 hown hK hP 0 rfl rfl 39 (by decide) (hts _ kX9_224) (fun _ h9 => h9) ((hf_ln 39 (by decide)).trans g_counts) dX9_encode_280 ?_
                            refine bz_eq (tgt := 328) hx hb dX9_encode_283 (by decide) (fun c_38 => ?_) (fun c_38 => ?_)
                            · have hcf_a : ct = false := c_38
                              refine lv_iinc (v := nI (0 + 1)) (lv' := [(5, .int (nI (0 + 1))), (0, .ref mm), (1, .int (nI wi)), (2, .int (nI Qd.length)), (3, .int (nI c)), (4, .int 1)]) hx hb dX9_encode_328 hl (k := 0) rfl (nI_add 0 1) (by decide) rfl (fun ls hl => ?_)
                              refine lv_goto (tgt := 272) hx hb dX9_encode_331 (by decide) ?_
                              refine lv_iload hx hb dX9_encode_272 (lv_at hl 0 rfl) ?_
                              refine lv_iload hx hb dX9_encode_274 (lv_at hl 5 rfl) ?_
                              refine lv_icmp_ge (tgt := 334) hx hb dX9_encode_276 (by decide) (fun c_39 => ?_) (fun c_39 => absurd (by decide) c_39)
                              refine lv_iload_n hx hb dX9_encode_334 rfl (lv_at hl 3 rfl) ?_
                              refine lv_iload hx hb dX9_encode_335 (lv_at hl 5 rfl) ?_
                              refine lv_iadd hx hb dX9_encode_337 ?_
                              refine ri (y := nI (Qd.length + 1)) (nI_add Qd.length 1) ?_
                              refine lv_istore_n (lv' := [(2, .int (nI (Qd.length + 1))), (5, .int (nI (0 + 1))), (0, .ref mm), (1, .int (nI wi)), (3, .int (nI c)), (4, .int 1)]) hx hb dX9_encode_338 rfl hl (by decide) rfl (fun ls hl => ?_)
                              refine lv_goto (tgt := 152) hx hb dX9_encode_339 (by decide) ?_
                              rw [show Qd.length + 1 = (Qd ++ [x]).length by simp] at hl
                              exact ih g5_ln R1 (Qd ++ [x]) (Os ++ [nI c] ++ numL x.2.1) (Cs ++ [c]) dr7 w7 dKind7 dSize7 dAddress7 dMode7 dCode7 dWindow7 _ _ ls (by omega) (hf_ln) (k_sDatas_ln) (k_sCode_ln) (k_sAddress_ln) (k_nextNear_ln) (k_drafts_ln) (by rw [hQ]; simp) (by simp; exact hQd) (hdone) (by simp; have := nsz_le x.2.1; rw [numL_len]; omega) (hw7) (fun z => absurd (hcf_a.symm.trans z) (by decide)) (hdf) (hP.sub [0, 18, 1, 13, 14, 2, 15, 16, 3, 17, 4, 5, 6, 7, 8, 9, 10, 11, 12] rfl) (hD.sub [0, 18, 1, 13, 14, 2, 15, 16, 3, 17, 4, 5, 6, 7, 8, 9, 10, 11, 12] (by decide) rfl) hS (lv_sub hl [2, 3, 0] rfl)
                            · have hcf_a : ct = true := c_38
                              obtain ⟨la_a, lb_a⟩ := hdt hcf_a
                              refine lv_aload_n hx hb dX9_encode_286 rfl (lv_at hl 1 rfl) ?_
                              refine lv_aload_n hx hb dX9_encode_287 rfl (lv_at hl 1 rfl) ?_
                              refine fx_get (D := D) (ci := 9) (v := .ref MqKind) (C := RX9) (T := TX9) (N := 78) hx hb hts in_X9 hown hK hP 0 rfl rfl 68 (by decide) (hts _ kX9_103) (fun _ h9 => h9) ((hf_ln 68 (by decide)).trans g_qKind) dX9_encode_288 ?_
                              refine lv_iload_n hx hb dX9_encode_291 rfl (lv_at hl 3 rfl) ?_
                              refine lv_iload hx hb dX9_encode_292 (lv_at hl 0 rfl) ?_
                              refine lv_iadd hx hb dX9_encode_294 ?_
                              refine ri (y := nI (Qd.length + 0)) (nI_add Qd.length 0) ?_
                              refine ax_ild hx hb hK hP 13 0 rfl rfl Qd.length (rfl) (by omega) (by omega) dX9_encode_295 ?_
                              refine ri (y := nI x.1) (hxm.1) ?_
                              refine lv_aload_n hx hb dX9_encode_296 rfl (lv_at hl 1 rfl) ?_
                              refine fx_get (D := D) (ci := 9) (v := .ref MqSize) (C := RX9) (T := TX9) (N := 78) hx hb hts in_X9 hown hK hP 0 rfl rfl 69 (by decide) (hts _ kX9_106) (fun _ h9 => h9) ((hf_ln 69 (by decide)).trans g_qSize) dX9_encode_297 ?_
                              refine lv_iload_n hx hb dX9_encode_300 rfl (lv_at hl 3 rfl) ?_
                              refine lv_iload hx hb dX9_encode_301 (lv_at hl 0 rfl) ?_
                              refine lv_iadd hx hb dX9_encode_303 ?_
                              refine ri (y := nI (Qd.length + 0)) (nI_add Qd.length 0) ?_
                              refine ax_ild hx hb hK hP 14 0 rfl rfl Qd.length (rfl) (by omega) (by omega) dX9_encode_304 ?_
                              refine ri (y := nI x.2.1) (hxm.2.1) ?_
                              refine lv_aload_n hx hb dX9_encode_305 rfl (lv_at hl 1 rfl) ?_
                              refine fx_get (D := D) (ci := 9) (v := .ref MqAddress) (C := RX9) (T := TX9) (N := 78) hx hb hts in_X9 hown hK hP 0 rfl rfl 71 (by decide) (hts _ kX9_112) (fun _ h9 => h9) ((hf_ln 71 (by decide)).trans g_qAddress) dX9_encode_306 ?_
                              refine lv_iload_n hx hb dX9_encode_309 rfl (lv_at hl 3 rfl) ?_
                              refine lv_iload hx hb dX9_encode_310 (lv_at hl 0 rfl) ?_
                              refine lv_iadd hx hb dX9_encode_312 ?_
                              refine ri (y := nI (Qd.length + 0)) (nI_add Qd.length 0) ?_
                              refine ax_ild hx hb hK hP 15 0 rfl rfl Qd.length (rfl) (by omega) (by omega) dX9_encode_313 ?_
                              refine ri (y := nI x.2.2.1) (hxm.2.2.1) ?_
                              refine lv_aload_n hx hb dX9_encode_314 rfl (lv_at hl 1 rfl) ?_
                              refine fx_get (D := D) (ci := 9) (v := .ref MqMode) (C := RX9) (T := TX9) (N := 78) hx hb hts in_X9 hown hK hP 0 rfl rfl 72 (by decide) (hts _ kX9_115) (fun _ h9 => h9) ((hf_ln 72 (by decide)).trans g_qMode) dX9_encode_315 ?_
                              refine lv_iload_n hx hb dX9_encode_318 rfl (lv_at hl 3 rfl) ?_
                              refine lv_iload hx hb dX9_encode_319 (lv_at hl 0 rfl) ?_
                              refine lv_iadd hx hb dX9_encode_321 ?_
                              refine ri (y := nI (Qd.length + 0)) (nI_add Qd.length 0) ?_
                              refine ax_ild hx hb hK hP 16 0 rfl rfl Qd.length (rfl) (by omega) (by omega) dX9_encode_322 ?_
                              refine ri (y := nI x.2.2.2) (hxm.2.2.2) ?_
                              refine lv_iload_n hx hb dX9_encode_323 rfl (lv_at hl 4 rfl) ?_
                              refine lv_iload_n hx hb dX9_encode_324 rfl (lv_at hl 2 rfl) ?_
                              refine jn_v (wr := [(Mu, .inl (cB, 8000, .inl mu)), (MqAt, .inl (cI, 4100, .inl mqAt)), (MsData, .inl (cB, 8000, .inl da7)), (MsAddresses, .inl (cB, 30000, .inl ad7)), (Mnears, .inl (cJ, 8, .inr (.inl fn7))), (Msames, .inl (cJ, 1024, .inr (.inl fs7))), (MqKind, .inl (cI, 4100, .inl mqKind)), (MqSize, .inl (cI, 4100, .inl mqSize)), (MqAddress, .inl (cI, 4100, .inl mqAddress)), (MqMode, .inl (cI, 4100, .inl m7)), (MsCodes, .inl (cB, 30000, .inl w7)), (Mtab, .inl (cB, 1536, .inl mtab))]) hA hP hD hS [0, 5, 6, 7, 8, 9, 10] [1, 2, 3, 4, 11, 12, 13, 14, 15, 16, 17, 18] rfl rfl (by decide) (by decide) (rn_V (As := [.int (nI x.1), .int (nI x.2.1), .int (nI x.2.2.1), .int (nI x.2.2.2), .int (nI c), .int (nI wi)]) (rest := []) ⟨hx, hb, hml, hown, hts⟩ (cvV 6 hts zc_yX9_list zi_X9 zm_yX9_list zv_yX9_list kX9_320 (by decide +kernel) rfl rfl ⟨Nat.le_of_ble_eq_true rfl, Nat.le_of_ble_eq_true rfl⟩) (m_list l D cI cB cJ cR mm g5_ln MdKind MdSize MdAddress MdMode MdCode MdWindow dKind7 dSize7 dAddress7 dMode7 dCode7 dWindow7 dr7 (wrG gg cnt (rwQ wi Q1 Cs)) (nI x.1) (nI x.2.1) (nI x.2.2.1) (nI x.2.2.2) (nI c) (nI wi) (k_drafts_ln) ((hf_ln 21 (by decide)).trans g_dKind) ((hf_ln 22 (by decide)).trans g_dSize) ((hf_ln 23 (by decide)).trans g_dAddress) ((hf_ln 24 (by decide)).trans g_dMode) ((hf_ln 25 (by decide)).trans g_dCode) ((hf_ln 26 (by decide)).trans g_dWindow) (by omega) (lb_a) H.size) hK hNw hMk hA hP hD hS [0, 5, 6, 7, 8, 9, 10] rfl rfl (by decide) 0 rfl rfl rfl rfl hl.1 rfl (Nat.le_of_ble_eq_true rfl) dX9_encode_325 ⟨Nat.le_of_ble_eq_true rfl, Nat.le_of_ble_eq_true rfl⟩) (fun u9 H locs hls_a hP hD hS => ?_)
                              obtain ⟨g_40, dKind_a, dSize_a, dAddress_a, dMode_a, dCode_a, dWindow_a⟩ := u9
                              try dsimp only at hls_a
                              have hP : va_P D vwCl [(Mu, .inl (cB, 8000, .inl mu)), (MqAt, .inl (cI, 4100, .inl mqAt)), (MsData, .inl (cB, 8000, .inl da7)), (MsAddresses, .inl (cB, 30000, .inl ad7)), (Mnears, .inl (cJ, 8, .inr (.inl fn7))), (Msames, .inl (cJ, 1024, .inr (.inl fs7))), (MqKind, .inl (cI, 4100, .inl mqKind)), (MqSize, .inl (cI, 4100, .inl mqSize)), (MqAddress, .inl (cI, 4100, .inl mqAddress)), (MqMode, .inl (cI, 4100, .inl m7)), (MsCodes, .inl (cB, 30000, .inl w7)), (Mtab, .inl (cB, 1536, .inl mtab)), (mm, .inr (9, fl 78 g_40)), (MdKind, .inl (cI, 4000, .inl dKind_a)), (MdSize, .inl (cI, 4000, .inl dSize_a)), (MdAddress, .inl (cI, 4000, .inl dAddress_a)), (MdMode, .inl (cI, 4000, .inl dMode_a)), (MdCode, .inl (cI, 4000, .inl dCode_a)), (MdWindow, .inl (cI, 4000, .inl dWindow_a))] H := hP
                              have hD : va_D A0 [(Mu, .inl (cB, 8000, .inl mu)), (MqAt, .inl (cI, 4100, .inl mqAt)), (MsData, .inl (cB, 8000, .inl da7)), (MsAddresses, .inl (cB, 30000, .inl ad7)), (Mnears, .inl (cJ, 8, .inr (.inl fn7))), (Msames, .inl (cJ, 1024, .inr (.inl fs7))), (MqKind, .inl (cI, 4100, .inl mqKind)), (MqSize, .inl (cI, 4100, .inl mqSize)), (MqAddress, .inl (cI, 4100, .inl mqAddress)), (MqMode, .inl (cI, 4100, .inl m7)), (MsCodes, .inl (cB, 30000, .inl w7)), (Mtab, .inl (cB, 1536, .inl mtab)), (mm, .inr (9, fl 78 g_40)), (MdKind, .inl (cI, 4000, .inl dKind_a)), (MdSize, .inl (cI, 4000, .inl dSize_a)), (MdAddress, .inl (cI, 4000, .inl dAddress_a)), (MdMode, .inl (cI, 4000, .inl dMode_a)), (MdCode, .inl (cI, 4000, .inl dCode_a)), (MdWindow, .inl (cI, 4000, .inl dWindow_a))] := hD
                              obtain ⟨f_hls_a, drafts_hls_a, hls_a_⟩ := hls_a
                              have k8_g_40 : g_40 8 = .int (nI near) := (f_hls_a 8 (by decide)).trans ((hf_ln 8 (by decide)).trans g_near)
                              have k9_g_40 : g_40 9 = .int (nI same) := (f_hls_a 9 (by decide)).trans ((hf_ln 9 (by decide)).trans g_same)
                              have k67_g_40 : g_40 67 = .int (nI Q1.length) := (f_hls_a 67 (by decide)).trans ((hf_ln 67 (by decide)).trans g_waits)
                              have k39_g_40 : g_40 39 = .int (bI ct) := (f_hls_a 39 (by decide)).trans ((hf_ln 39 (by decide)).trans g_counts)
                              have k7_g_40 : g_40 7 = .ref Mtab := (f_hls_a 7 (by decide)).trans ((hf_ln 7 (by decide)).trans g_tab)
                              have k10_g_40 : g_40 10 = .ref Mnears := (f_hls_a 10 (by decide)).trans ((hf_ln 10 (by decide)).trans g_nears)
                              have k12_g_40 : g_40 12 = .ref Msames := (f_hls_a 12 (by decide)).trans ((hf_ln 12 (by decide)).trans g_sames)
                              have k64_g_40 : g_40 64 = .ref Mu := (f_hls_a 64 (by decide)).trans ((hf_ln 64 (by decide)).trans g_u)
                              have k68_g_40 : g_40 68 = .ref MqKind := (f_hls_a 68 (by decide)).trans ((hf_ln 68 (by decide)).trans g_qKind)
                              have k69_g_40 : g_40 69 = .ref MqSize := (f_hls_a 69 (by decide)).trans ((hf_ln 69 (by decide)).trans g_qSize)
                              have k70_g_40 : g_40 70 = .ref MqAt := (f_hls_a 70 (by decide)).trans ((hf_ln 70 (by decide)).trans g_qAt)
                              have k71_g_40 : g_40 71 = .ref MqAddress := (f_hls_a 71 (by decide)).trans ((hf_ln 71 (by decide)).trans g_qAddress)
                              have k72_g_40 : g_40 72 = .ref MqMode := (f_hls_a 72 (by decide)).trans ((hf_ln 72 (by decide)).trans g_qMode)
                              have k58_g_40 : g_40 58 = .ref MsData := (f_hls_a 58 (by decide)).trans ((hf_ln 58 (by decide)).trans g_sData)
                              have k60_g_40 : g_40 60 = .ref MsCodes := (f_hls_a 60 (by decide)).trans ((hf_ln 60 (by decide)).trans g_sCodes)
                              have k62_g_40 : g_40 62 = .ref MsAddresses := (f_hls_a 62 (by decide)).trans ((hf_ln 62 (by decide)).trans g_sAddresses)
                              have k21_g_40 : g_40 21 = .ref MdKind := (f_hls_a 21 (by decide)).trans ((hf_ln 21 (by decide)).trans g_dKind)
                              have k22_g_40 : g_40 22 = .ref MdSize := (f_hls_a 22 (by decide)).trans ((hf_ln 22 (by decide)).trans g_dSize)
                              have k23_g_40 : g_40 23 = .ref MdAddress := (f_hls_a 23 (by decide)).trans ((hf_ln 23 (by decide)).trans g_dAddress)
                              have k24_g_40 : g_40 24 = .ref MdMode := (f_hls_a 24 (by decide)).trans ((hf_ln 24 (by decide)).trans g_dMode)
                              have k25_g_40 : g_40 25 = .ref MdCode := (f_hls_a 25 (by decide)).trans ((hf_ln 25 (by decide)).trans g_dCode)
                              have k26_g_40 : g_40 26 = .ref MdWindow := (f_hls_a 26 (by decide)).trans ((hf_ln 26 (by decide)).trans g_dWindow)
                              have k59_g_40 : g_40 59 = .int (nI Dl.length) := (f_hls_a 59 (by decide)).trans (k_sDatas_ln)
                              have k61_g_40 : g_40 61 = .int (nI (Os ++ [nI c] ++ numL x.2.1).length) := (f_hls_a 61 (by decide)).trans (k_sCode_ln)
                              have k63_g_40 : g_40 63 = .int (nI A.length) := (f_hls_a 63 (by decide)).trans (k_sAddress_ln)
                              have k11_g_40 : g_40 11 = .int (nI nx) := (f_hls_a 11 (by decide)).trans (k_nextNear_ln)
                              have fr_g_40 : frm [20, 59, 61, 63, 11] g g_40 := frm_tr hf_ln f_hls_a (by decide)
                              have hG9 := wrG_code (g := gg) (f := cnt) (w := wi) (c := c) (Q := Q1) (Cs := Cs) (x := x) (by rw [← hQd]; exact hx9) (by omega)
                              rw [la_a] at hls_a_
                              have hls9 : dRel dKind_a dSize_a dAddress_a dMode_a dCode_a dWindow_a (wrG gg cnt (rwQ wi Q1 (Cs ++ [c]))) (cnt + Cs.length + 1) := by rw [← hG9]; exact hls_a_
                              refine lv_iinc (v := nI (0 + 1)) (lv' := [(5, .int (nI (0 + 1))), (0, .ref mm), (1, .int (nI wi)), (2, .int (nI Qd.length)), (3, .int (nI c)), (4, .int 1)]) hx hb dX9_encode_328 hl (k := 0) rfl (nI_add 0 1) (by decide) rfl (fun ls hl => ?_)
                              refine lv_goto (tgt := 272) hx hb dX9_encode_331 (by decide) ?_
                              refine lv_iload hx hb dX9_encode_272 (lv_at hl 0 rfl) ?_
                              refine lv_iload hx hb dX9_encode_274 (lv_at hl 5 rfl) ?_
                              refine lv_icmp_ge (tgt := 334) hx hb dX9_encode_276 (by decide) (fun c_42 => ?_) (fun c_42 => absurd (by decide) c_42)
                              refine lv_iload_n hx hb dX9_encode_334 rfl (lv_at hl 3 rfl) ?_
                              refine lv_iload hx hb dX9_encode_335 (lv_at hl 5 rfl) ?_
                              refine lv_iadd hx hb dX9_encode_337 ?_
                              refine ri (y := nI (Qd.length + 1)) (nI_add Qd.length 1) ?_
                              refine lv_istore_n (lv' := [(2, .int (nI (Qd.length + 1))), (5, .int (nI (0 + 1))), (0, .ref mm), (1, .int (nI wi)), (3, .int (nI c)), (4, .int 1)]) hx hb dX9_encode_338 rfl hl (by decide) rfl (fun ls hl => ?_)
                              refine lv_goto (tgt := 152) hx hb dX9_encode_339 (by decide) ?_
                              rw [show Qd.length + 1 = (Qd ++ [x]).length by simp] at hl
                              exact ih g_40 R1 (Qd ++ [x]) (Os ++ [nI c] ++ numL x.2.1) (Cs ++ [c]) (dr7 + 1) w7 dKind_a dSize_a dAddress_a dMode_a dCode_a dWindow_a _ _ ls (by omega) (fr_g_40) (k59_g_40) (k61_g_40) (k63_g_40) (k11_g_40) (drafts_hls_a) (by rw [hQ]; simp) (by simp; exact hQd) (hdone) (by simp; have := nsz_le x.2.1; rw [numL_len]; omega) (hw7) (fun z => ⟨by rw [List.length_append]; show _ = cnt + (Cs.length + 1); omega, by rw [show dr7 + 1 = cnt + Cs.length + 1 by omega]; exact hls9⟩) (fun z => absurd (hcf_a.symm.trans z) (by decide)) (hP.sub [12, 11, 0, 6, 7, 1, 8, 9, 2, 10, 3, 13, 14, 15, 16, 17, 18, 4, 5] rfl) (hD.sub [12, 11, 0, 6, 7, 1, 8, 9, 2, 10, 3, 13, 14, 15, 16, 17, 18, 4, 5] (by decide) rfl) hS (lv_sub hl [2, 3, 0] rfl)
                          · obtain ⟨j, hkj⟩ : ∃ j, k = j + 1 := ⟨k - 1, by have : ¬ k = 0 := fun z => c_36 (by rw [z]; decide); omega⟩
                            subst hkj
                            rw [show nI (j + 1) - 1 = nI j from pk_sub (a := j + 1) (b := 1) (by omega)] at hl
                            have hlc : Lc.length < 29000 := by have := congrArg List.length hLc; rw [List.length_append, List.length_append, numL_len] at this; simp at this; omega
                            have hqd := Nat.div_le_self x.2.1 (128 ^ j)
                            refine lv_aload_n hx hb dX9_encode_231 rfl (lv_at hl 0 rfl) ?_
                            refine lv_aload_n hx hb dX9_encode_232 rfl (lv_at hl 0 rfl) ?_
                            refine fx_get (D := D) (ci := 9) (v := .ref MqSize) (C := RX9) (T := TX9) (N := 78) hx hb hts in_X9 hown hK hP 0 rfl rfl 69 (by decide) (hts _ kX9_106) (fun _ h9 => h9) ((hf_ln 69 (by decide)).trans g_qSize) dX9_encode_233 ?_
                            refine lv_iload_n hx hb dX9_encode_236 rfl (lv_at hl 2 rfl) ?_
                            refine ax_ild hx hb hK hP 14 0 rfl rfl Qd.length (rfl) (by omega) (by omega) dX9_encode_237 ?_
                            refine ri (y := nI x.2.1) (hxm.2.1) ?_
                            refine lv_bipush (v := 7) hx hb dX9_encode_238 (by decide) ?_
                            refine lv_iload hx hb dX9_encode_240 (lv_at hl 5 rfl) ?_
                            refine lv_imul hx hb dX9_encode_242 ?_
                            refine lv_ishr hx hb dX9_encode_243 ?_
                            refine ri (y := nI (x.2.1 / 128 ^ j)) (ish7 (by omega) (by omega)) ?_
                            refine lv_bipush (v := 127) hx hb dX9_encode_244 (by decide) ?_
                            refine lv_iand hx hb dX9_encode_246 ?_
                            refine ri (y := nI (x.2.1 / 128 ^ j % 128)) (pk_andN (by omega) 7 (by decide)) ?_
                            refine lv_iload hx hb dX9_encode_247 (lv_at hl 5 rfl) ?_
                            refine lv_if_le (tgt := 258) hx hb dX9_encode_249 (by decide) (fun c_43 => ?_) (fun c_43 => ?_)
                            · have hj0 : j = 0 := Decidable.byContradiction (fun z => nI_nle (Nat.pos_of_ne_zero z) (by omega) c_43)
                              refine lv_iconst (v := 0) hx hb dX9_encode_258 (by decide) ?_
                              refine lv_ior hx hb dX9_encode_259 ?_
                              refine ri (y := nI (numOct x.2.1 j)) (by rw [num_o0, numOct, if_neg (by omega), Nat.add_zero]) ?_
                              refine jn_v (wr := [(Mu, .inl (cB, 8000, .inl mu)), (MqAt, .inl (cI, 4100, .inl mqAt)), (MsData, .inl (cB, 8000, .inl da7)), (MsAddresses, .inl (cB, 30000, .inl ad7)), (MdKind, .inl (cI, 4000, .inl dKind7)), (MdSize, .inl (cI, 4000, .inl dSize7)), (MdAddress, .inl (cI, 4000, .inl dAddress7)), (MdMode, .inl (cI, 4000, .inl dMode7)), (MdCode, .inl (cI, 4000, .inl dCode7)), (MdWindow, .inl (cI, 4000, .inl dWindow7)), (Mnears, .inl (cJ, 8, .inr (.inl fn7))), (Msames, .inl (cJ, 1024, .inr (.inl fs7))), (MqKind, .inl (cI, 4100, .inl mqKind)), (MqSize, .inl (cI, 4100, .inl mqSize)), (MqAddress, .inl (cI, 4100, .inl mqAddress)), (MqMode, .inl (cI, 4100, .inl m7)), (Mtab, .inl (cB, 1536, .inl mtab))]) hA hP hD hS [0, 17] [1, 2, 3, 4, 5, 6, 7, 8, 9, 10, 11, 12, 13, 14, 15, 16, 18] rfl rfl (by decide) (by decide) (rn_V (As := [.int (nI (numOct x.2.1 j))]) (rest := []) ⟨hx, hb, hml, hown, hts⟩ (cvV 1 hts zc_yX9_codeOctet zi_X9 zm_yX9_codeOctet zv_yX9_codeOctet kX9_397 (by decide +kernel) rfl rfl ⟨Nat.le_of_ble_eq_true rfl, Nat.le_of_ble_eq_true rfl⟩) (m_codeOctet l D cI cB cJ cR mm g5_ln MsCodes w7 Lc (nI (numOct x.2.1 j)) (k_sCode_ln) ((hf_ln 60 (by decide)).trans g_sCodes) (by omega) (hw7) H.size) hK hNw hMk hA hP hD hS [0, 17] rfl rfl (by decide) 0 rfl rfl rfl rfl hl.1 rfl (Nat.le_of_ble_eq_true rfl) dX9_encode_260 ⟨Nat.le_of_ble_eq_true rfl, Nat.le_of_ble_eq_true rfl⟩) (fun u9 H locs hcx hP hD hS => ?_)
                              obtain ⟨g_44, w8⟩ := u9
                              try dsimp only at hcx
                              have hP : va_P D vwCl [(Mu, .inl (cB, 8000, .inl mu)), (MqAt, .inl (cI, 4100, .inl mqAt)), (MsData, .inl (cB, 8000, .inl da7)), (MsAddresses, .inl (cB, 30000, .inl ad7)), (MdKind, .inl (cI, 4000, .inl dKind7)), (MdSize, .inl (cI, 4000, .inl dSize7)), (MdAddress, .inl (cI, 4000, .inl dAddress7)), (MdMode, .inl (cI, 4000, .inl dMode7)), (MdCode, .inl (cI, 4000, .inl dCode7)), (MdWindow, .inl (cI, 4000, .inl dWindow7)), (Mnears, .inl (cJ, 8, .inr (.inl fn7))), (Msames, .inl (cJ, 1024, .inr (.inl fs7))), (MqKind, .inl (cI, 4100, .inl mqKind)), (MqSize, .inl (cI, 4100, .inl mqSize)), (MqAddress, .inl (cI, 4100, .inl mqAddress)), (MqMode, .inl (cI, 4100, .inl m7)), (Mtab, .inl (cB, 1536, .inl mtab)), (mm, .inr (9, fl 78 g_44)), (MsCodes, .inl (cB, 30000, .inl w8))] H := hP
                              have hD : va_D A0 [(Mu, .inl (cB, 8000, .inl mu)), (MqAt, .inl (cI, 4100, .inl mqAt)), (MsData, .inl (cB, 8000, .inl da7)), (MsAddresses, .inl (cB, 30000, .inl ad7)), (MdKind, .inl (cI, 4000, .inl dKind7)), (MdSize, .inl (cI, 4000, .inl dSize7)), (MdAddress, .inl (cI, 4000, .inl dAddress7)), (MdMode, .inl (cI, 4000, .inl dMode7)), (MdCode, .inl (cI, 4000, .inl dCode7)), (MdWindow, .inl (cI, 4000, .inl dWindow7)), (Mnears, .inl (cJ, 8, .inr (.inl fn7))), (Msames, .inl (cJ, 1024, .inr (.inl fs7))), (MqKind, .inl (cI, 4100, .inl mqKind)), (MqSize, .inl (cI, 4100, .inl mqSize)), (MqAddress, .inl (cI, 4100, .inl mqAddress)), (MqMode, .inl (cI, 4100, .inl m7)), (Mtab, .inl (cB, 1536, .inl mtab)), (mm, .inr (9, fl 78 g_44)), (MsCodes, .inl (cB, 30000, .inl w8))] := hD
                              obtain ⟨f_hcx, sCode_hcx, hcx_⟩ := hcx
                              have k8_g_44 : g_44 8 = .int (nI near) := (f_hcx 8 (by decide)).trans ((hf_ln 8 (by decide)).trans g_near)
                              have k9_g_44 : g_44 9 = .int (nI same) := (f_hcx 9 (by decide)).trans ((hf_ln 9 (by decide)).trans g_same)
                              have k67_g_44 : g_44 67 = .int (nI Q1.length) := (f_hcx 67 (by decide)).trans ((hf_ln 67 (by decide)).trans g_waits)
                              have k39_g_44 : g_44 39 = .int (bI ct) := (f_hcx 39 (by decide)).trans ((hf_ln 39 (by decide)).trans g_counts)
                              have k7_g_44 : g_44 7 = .ref Mtab := (f_hcx 7 (by decide)).trans ((hf_ln 7 (by decide)).trans g_tab)
                              have k10_g_44 : g_44 10 = .ref Mnears := (f_hcx 10 (by decide)).trans ((hf_ln 10 (by decide)).trans g_nears)
                              have k12_g_44 : g_44 12 = .ref Msames := (f_hcx 12 (by decide)).trans ((hf_ln 12 (by decide)).trans g_sames)
                              have k64_g_44 : g_44 64 = .ref Mu := (f_hcx 64 (by decide)).trans ((hf_ln 64 (by decide)).trans g_u)
                              have k68_g_44 : g_44 68 = .ref MqKind := (f_hcx 68 (by decide)).trans ((hf_ln 68 (by decide)).trans g_qKind)
                              have k69_g_44 : g_44 69 = .ref MqSize := (f_hcx 69 (by decide)).trans ((hf_ln 69 (by decide)).trans g_qSize)
                              have k70_g_44 : g_44 70 = .ref MqAt := (f_hcx 70 (by decide)).trans ((hf_ln 70 (by decide)).trans g_qAt)
                              have k71_g_44 : g_44 71 = .ref MqAddress := (f_hcx 71 (by decide)).trans ((hf_ln 71 (by decide)).trans g_qAddress)
                              have k72_g_44 : g_44 72 = .ref MqMode := (f_hcx 72 (by decide)).trans ((hf_ln 72 (by decide)).trans g_qMode)
                              have k58_g_44 : g_44 58 = .ref MsData := (f_hcx 58 (by decide)).trans ((hf_ln 58 (by decide)).trans g_sData)
                              have k60_g_44 : g_44 60 = .ref MsCodes := (f_hcx 60 (by decide)).trans ((hf_ln 60 (by decide)).trans g_sCodes)
                              have k62_g_44 : g_44 62 = .ref MsAddresses := (f_hcx 62 (by decide)).trans ((hf_ln 62 (by decide)).trans g_sAddresses)
                              have k21_g_44 : g_44 21 = .ref MdKind := (f_hcx 21 (by decide)).trans ((hf_ln 21 (by decide)).trans g_dKind)
                              have k22_g_44 : g_44 22 = .ref MdSize := (f_hcx 22 (by decide)).trans ((hf_ln 22 (by decide)).trans g_dSize)
                              have k23_g_44 : g_44 23 = .ref MdAddress := (f_hcx 23 (by decide)).trans ((hf_ln 23 (by decide)).trans g_dAddress)
                              have k24_g_44 : g_44 24 = .ref MdMode := (f_hcx 24 (by decide)).trans ((hf_ln 24 (by decide)).trans g_dMode)
                              have k25_g_44 : g_44 25 = .ref MdCode := (f_hcx 25 (by decide)).trans ((hf_ln 25 (by decide)).trans g_dCode)
                              have k26_g_44 : g_44 26 = .ref MdWindow := (f_hcx 26 (by decide)).trans ((hf_ln 26 (by decide)).trans g_dWindow)
                              have k59_g_44 : g_44 59 = .int (nI Dl.length) := (f_hcx 59 (by decide)).trans (k_sDatas_ln)
                              have k63_g_44 : g_44 63 = .int (nI A.length) := (f_hcx 63 (by decide)).trans (k_sAddress_ln)
                              have k11_g_44 : g_44 11 = .int (nI nx) := (f_hcx 11 (by decide)).trans (k_nextNear_ln)
                              have k20_g_44 : g_44 20 = .int (nI dr7) := (f_hcx 20 (by decide)).trans (k_drafts_ln)
                              have fr_g_44 : frm [20, 59, 61, 63, 11] g g_44 := frm_tr hf_ln f_hcx (by decide)
                              refine lv_iinc (v := (nI j) + (-1)) (lv' := [(5, .int ((nI j) + (-1))), (0, .ref mm), (1, .int (nI wi)), (2, .int (nI Qd.length)), (3, .int (nI c)), (4, .int 1)]) hx hb dX9_encode_263 hl (k := 5) rfl (rfl) (by decide) rfl (fun ls hl => ?_)
                              refine lv_goto (tgt := 226) hx hb dX9_encode_266 (by decide) ?_
                              rw [show nI j + (-1) = nI j - 1 from (Int32.sub_eq_add_neg ..).symm] at hl
                              exact ih3 g_44 j (Lc ++ [nI (numOct x.2.1 j)]) w8 _ _ ls (by omega) (fr_g_44) (k59_g_44) (sCode_hcx) (k63_g_44) (k11_g_44) (k20_g_44) (by omega) (by rw [← hLc, numT, List.append_assoc]; rfl) (hcx_) (hP.sub [17, 0, 1, 2, 3, 4, 5, 6, 7, 8, 9, 10, 11, 12, 13, 14, 15, 18, 16] rfl) (hD.sub [17, 0, 1, 2, 3, 4, 5, 6, 7, 8, 9, 10, 11, 12, 13, 14, 15, 18, 16] (by decide) rfl) hS (lv_sub hl [1, 2, 3, 4, 5, 0] rfl)
                            · have hj0 : 0 < j := Nat.pos_of_ne_zero (fun z => c_43 (by rw [z]; decide))
                              refine lv_sipush (v := 128) hx hb dX9_encode_252 (by decide) ?_
                              refine lv_goto (tgt := 259) hx hb dX9_encode_255 (by decide) ?_
                              refine lv_ior hx hb dX9_encode_259 ?_
                              refine ri (y := nI (numOct x.2.1 j)) (by rw [num_o1 (Nat.mod_lt _ (by decide)), numOct, if_pos hj0]) ?_
                              refine jn_v (wr := [(Mu, .inl (cB, 8000, .inl mu)), (MqAt, .inl (cI, 4100, .inl mqAt)), (MsData, .inl (cB, 8000, .inl da7)), (MsAddresses, .inl (cB, 30000, .inl ad7)), (MdKind, .inl (cI, 4000, .inl dKind7)), (MdSize, .inl (cI, 4000, .inl dSize7)), (MdAddress, .inl (cI, 4000, .inl dAddress7)), (MdMode, .inl (cI, 4000, .inl dMode7)), (MdCode, .inl (cI, 4000, .inl dCode7)), (MdWindow, .inl (cI, 4000, .inl dWindow7)), (Mnears, .inl (cJ, 8, .inr (.inl fn7))), (Msames, .inl (cJ, 1024, .inr (.inl fs7))), (MqKind, .inl (cI, 4100, .inl mqKind)), (MqSize, .inl (cI, 4100, .inl mqSize)), (MqAddress, .inl (cI, 4100, .inl mqAddress)), (MqMode, .inl (cI, 4100, .inl m7)), (Mtab, .inl (cB, 1536, .inl mtab))]) hA hP hD hS [0, 17] [1, 2, 3, 4, 5, 6, 7, 8, 9, 10, 11, 12, 13, 14, 15, 16, 18] rfl rfl (by decide) (by decide) (rn_V (As := [.int (nI (numOct x.2.1 j))]) (rest := []) ⟨hx, hb, hml, hown, hts⟩ (cvV 1 hts zc_yX9_codeOctet zi_X9 zm_yX9_codeOctet zv_yX9_codeOctet kX9_397 (by decide +kernel) rfl rfl ⟨Nat.le_of_ble_eq_true rfl, Nat.le_of_ble_eq_true rfl⟩) (m_codeOctet l D cI cB cJ cR mm g5_ln MsCodes w7 Lc (nI (numOct x.2.1 j)) (k_sCode_ln) ((hf_ln 60 (by decide)).trans g_sCodes) (by omega) (hw7) H.size) hK hNw hMk hA hP hD hS [0, 17] rfl rfl (by decide) 0 rfl rfl rfl rfl hl.1 rfl (Nat.le_of_ble_eq_true rfl) dX9_encode_260 ⟨Nat.le_of_ble_eq_true rfl, Nat.le_of_ble_eq_true rfl⟩) (fun u9 H locs hcx hP hD hS => ?_)
                              obtain ⟨g_46, w8⟩ := u9
                              try dsimp only at hcx
                              have hP : va_P D vwCl [(Mu, .inl (cB, 8000, .inl mu)), (MqAt, .inl (cI, 4100, .inl mqAt)), (MsData, .inl (cB, 8000, .inl da7)), (MsAddresses, .inl (cB, 30000, .inl ad7)), (MdKind, .inl (cI, 4000, .inl dKind7)), (MdSize, .inl (cI, 4000, .inl dSize7)), (MdAddress, .inl (cI, 4000, .inl dAddress7)), (MdMode, .inl (cI, 4000, .inl dMode7)), (MdCode, .inl (cI, 4000, .inl dCode7)), (MdWindow, .inl (cI, 4000, .inl dWindow7)), (Mnears, .inl (cJ, 8, .inr (.inl fn7))), (Msames, .inl (cJ, 1024, .inr (.inl fs7))), (MqKind, .inl (cI, 4100, .inl mqKind)), (MqSize, .inl (cI, 4100, .inl mqSize)), (MqAddress, .inl (cI, 4100, .inl mqAddress)), (MqMode, .inl (cI, 4100, .inl m7)), (Mtab, .inl (cB, 1536, .inl mtab)), (mm, .inr (9, fl 78 g_46)), (MsCodes, .inl (cB, 30000, .inl w8))] H := hP
                              have hD : va_D A0 [(Mu, .inl (cB, 8000, .inl mu)), (MqAt, .inl (cI, 4100, .inl mqAt)), (MsData, .inl (cB, 8000, .inl da7)), (MsAddresses, .inl (cB, 30000, .inl ad7)), (MdKind, .inl (cI, 4000, .inl dKind7)), (MdSize, .inl (cI, 4000, .inl dSize7)), (MdAddress, .inl (cI, 4000, .inl dAddress7)), (MdMode, .inl (cI, 4000, .inl dMode7)), (MdCode, .inl (cI, 4000, .inl dCode7)), (MdWindow, .inl (cI, 4000, .inl dWindow7)), (Mnears, .inl (cJ, 8, .inr (.inl fn7))), (Msames, .inl (cJ, 1024, .inr (.inl fs7))), (MqKind, .inl (cI, 4100, .inl mqKind)), (MqSize, .inl (cI, 4100, .inl mqSize)), (MqAddress, .inl (cI, 4100, .inl mqAddress)), (MqMode, .inl (cI, 4100, .inl m7)), (Mtab, .inl (cB, 1536, .inl mtab)), (mm, .inr (9, fl 78 g_46)), (MsCodes, .inl (cB, 30000, .inl w8))] := hD
                              obtain ⟨f_hcx, sCode_hcx, hcx_⟩ := hcx
                              have k8_g_46 : g_46 8 = .int (nI near) := (f_hcx 8 (by decide)).trans ((hf_ln 8 (by decide)).trans g_near)
                              have k9_g_46 : g_46 9 = .int (nI same) := (f_hcx 9 (by decide)).trans ((hf_ln 9 (by decide)).trans g_same)
                              have k67_g_46 : g_46 67 = .int (nI Q1.length) := (f_hcx 67 (by decide)).trans ((hf_ln 67 (by decide)).trans g_waits)
                              have k39_g_46 : g_46 39 = .int (bI ct) := (f_hcx 39 (by decide)).trans ((hf_ln 39 (by decide)).trans g_counts)
                              have k7_g_46 : g_46 7 = .ref Mtab := (f_hcx 7 (by decide)).trans ((hf_ln 7 (by decide)).trans g_tab)
                              have k10_g_46 : g_46 10 = .ref Mnears := (f_hcx 10 (by decide)).trans ((hf_ln 10 (by decide)).trans g_nears)
                              have k12_g_46 : g_46 12 = .ref Msames := (f_hcx 12 (by decide)).trans ((hf_ln 12 (by decide)).trans g_sames)
                              have k64_g_46 : g_46 64 = .ref Mu := (f_hcx 64 (by decide)).trans ((hf_ln 64 (by decide)).trans g_u)
                              have k68_g_46 : g_46 68 = .ref MqKind := (f_hcx 68 (by decide)).trans ((hf_ln 68 (by decide)).trans g_qKind)
                              have k69_g_46 : g_46 69 = .ref MqSize := (f_hcx 69 (by decide)).trans ((hf_ln 69 (by decide)).trans g_qSize)
                              have k70_g_46 : g_46 70 = .ref MqAt := (f_hcx 70 (by decide)).trans ((hf_ln 70 (by decide)).trans g_qAt)
                              have k71_g_46 : g_46 71 = .ref MqAddress := (f_hcx 71 (by decide)).trans ((hf_ln 71 (by decide)).trans g_qAddress)
                              have k72_g_46 : g_46 72 = .ref MqMode := (f_hcx 72 (by decide)).trans ((hf_ln 72 (by decide)).trans g_qMode)
                              have k58_g_46 : g_46 58 = .ref MsData := (f_hcx 58 (by decide)).trans ((hf_ln 58 (by decide)).trans g_sData)
                              have k60_g_46 : g_46 60 = .ref MsCodes := (f_hcx 60 (by decide)).trans ((hf_ln 60 (by decide)).trans g_sCodes)
                              have k62_g_46 : g_46 62 = .ref MsAddresses := (f_hcx 62 (by decide)).trans ((hf_ln 62 (by decide)).trans g_sAddresses)
                              have k21_g_46 : g_46 21 = .ref MdKind := (f_hcx 21 (by decide)).trans ((hf_ln 21 (by decide)).trans g_dKind)
                              have k22_g_46 : g_46 22 = .ref MdSize := (f_hcx 22 (by decide)).trans ((hf_ln 22 (by decide)).trans g_dSize)
                              have k23_g_46 : g_46 23 = .ref MdAddress := (f_hcx 23 (by decide)).trans ((hf_ln 23 (by decide)).trans g_dAddress)
                              have k24_g_46 : g_46 24 = .ref MdMode := (f_hcx 24 (by decide)).trans ((hf_ln 24 (by decide)).trans g_dMode)
                              have k25_g_46 : g_46 25 = .ref MdCode := (f_hcx 25 (by decide)).trans ((hf_ln 25 (by decide)).trans g_dCode)
                              have k26_g_46 : g_46 26 = .ref MdWindow := (f_hcx 26 (by decide)).trans ((hf_ln 26 (by decide)).trans g_dWindow)
                              have k59_g_46 : g_46 59 = .int (nI Dl.length) := (f_hcx 59 (by decide)).trans (k_sDatas_ln)
                              have k63_g_46 : g_46 63 = .int (nI A.length) := (f_hcx 63 (by decide)).trans (k_sAddress_ln)
                              have k11_g_46 : g_46 11 = .int (nI nx) := (f_hcx 11 (by decide)).trans (k_nextNear_ln)
                              have k20_g_46 : g_46 20 = .int (nI dr7) := (f_hcx 20 (by decide)).trans (k_drafts_ln)
                              have fr_g_46 : frm [20, 59, 61, 63, 11] g g_46 := frm_tr hf_ln f_hcx (by decide)
                              refine lv_iinc (v := (nI j) + (-1)) (lv' := [(5, .int ((nI j) + (-1))), (0, .ref mm), (1, .int (nI wi)), (2, .int (nI Qd.length)), (3, .int (nI c)), (4, .int 1)]) hx hb dX9_encode_263 hl (k := 5) rfl (rfl) (by decide) rfl (fun ls hl => ?_)
                              refine lv_goto (tgt := 226) hx hb dX9_encode_266 (by decide) ?_
                              rw [show nI j + (-1) = nI j - 1 from (Int32.sub_eq_add_neg ..).symm] at hl
                              exact ih3 g_46 j (Lc ++ [nI (numOct x.2.1 j)]) w8 _ _ ls (by omega) (fr_g_46) (k59_g_46) (sCode_hcx) (k63_g_46) (k11_g_46) (k20_g_46) (by omega) (by rw [← hLc, numT, List.append_assoc]; rfl) (hcx_) (hP.sub [17, 0, 1, 2, 3, 4, 5, 6, 7, 8, 9, 10, 11, 12, 13, 14, 15, 18, 16] rfl) (hD.sub [17, 0, 1, 2, 3, 4, 5, 6, 7, 8, 9, 10, 11, 12, 13, 14, 15, 18, 16] (by decide) rfl) hS (lv_sub hl [1, 2, 3, 4, 5, 0] rfl)
                      exact ln _ g_27 (nsz x.2.1) (Os ++ [nI c]) co8 _ _ ls (Nat.lt_succ_self _) (fr_g_27) (k59_g_27) (sCode_hco) (k63_g_27) (k11_g_27) (k20_g_27) (Nat.le_refl _) (rfl) (hco_) (hP.sub [17, 0, 1, 2, 3, 4, 5, 6, 7, 8, 9, 10, 11, 12, 13, 14, 15, 16, 18] rfl) (hD.sub [17, 0, 1, 2, 3, 4, 5, 6, 7, 8, 9, 10, 11, 12, 13, 14, 15, 16, 18] (by decide) rfl) hS (lv_sub hl [3, 4, 5, 1, 2, 0] rfl)
                  · obtain ⟨c, hcn_, hc6, hfit⟩ : ∃ c, (fstC (sngP tt x.1 x.2.1 x.2.2.2) 256 0) = nI c ∧ c < 256 ∧ sngP tt x.1 x.2.1 x.2.2.2 c = true := by obtain ⟨c, q1, q2, q3, q4, -⟩ := fst_pos 256 0 hA1; exact ⟨c, q1, by omega, q4⟩
                    have hrc : rc_ = nI c := by rw [← hcn_]; exact cf3.1 hA1
                    subst hrc
                    have hcc : (fstC (sngP tt x.1 x.2.1 x.2.2.2) 256 0).toNatClampNeg = c := by rw [hcn_]; exact nI_clamp (by omega)
                    have hsz0 : tt (512 + 0 * 256 + c) = x.2.1 := by unfold sngP at hfit; rw [Bool.and_eq_true] at hfit; exact (of_decide_eq_true hfit.2).2.1
                    refine lv_istore_n (lv' := [(3, .int (nI c)), (0, .ref mm), (1, .int (nI wi)), (2, .int (nI Qd.length))]) hx hb dX9_encode_165 rfl hl (by decide) rfl (fun ls hl => ?_)
                    refine lv_iload_n hx hb dX9_encode_166 rfl (lv_at hl 0 rfl) ?_
                    refine lv_if_ge (tgt := 172) hx hb dX9_encode_167 (by decide) (fun c_48 => ?_) (fun c_48 => absurd (nI_pos' (by omega)) c_48)
                    refine lv_iload_n hx hb dX9_encode_172 rfl (lv_at hl 0 rfl) ?_
                    refine lv_sipush (v := 1000) hx hb dX9_encode_173 (by decide) ?_
                    refine lv_icmp_lt (tgt := 183) hx hb dX9_encode_176 (by decide) (fun c_49 => ?_) (fun c_49 => absurd (nI_lt (b := 1000) (by omega) (by decide)) c_49)
                    refine lv_iconst (v := 1) hx hb dX9_encode_183 (by decide) ?_
                    refine lv_istore (lv' := [(4, .int 1), (3, .int (nI c)), (0, .ref mm), (1, .int (nI wi)), (2, .int (nI Qd.length))]) hx hb dX9_encode_184 hl (by decide) rfl (fun ls hl => ?_)
                    refine lv_iload_n hx hb dX9_encode_186 rfl (lv_at hl 1 rfl) ?_
                    refine lv_sipush (v := 1000) hx hb dX9_encode_187 (by decide) ?_
                    refine lv_irem hx hb dX9_encode_190 (by decide) ?_
                    refine ri (y := nI c) ((pk_rem (d := 1000) (by omega) (by decide) (by decide)).trans (by rw [Nat.mod_eq_of_lt (by omega)])) ?_
                    refine lv_istore_n (lv' := [(3, .int (nI c)), (4, .int 1), (0, .ref mm), (1, .int (nI wi)), (2, .int (nI Qd.length))]) hx hb dX9_encode_191 rfl hl (by decide) rfl (fun ls hl => ?_)
                    refine lv_aload_n hx hb dX9_encode_192 rfl (lv_at hl 2 rfl) ?_
                    refine lv_iload_n hx hb dX9_encode_193 rfl (lv_at hl 0 rfl) ?_
                    refine jn_v (wr := [(Mu, .inl (cB, 8000, .inl mu)), (MqAt, .inl (cI, 4100, .inl mqAt)), (MsData, .inl (cB, 8000, .inl da7)), (MsAddresses, .inl (cB, 30000, .inl ad7)), (MdKind, .inl (cI, 4000, .inl dKind7)), (MdSize, .inl (cI, 4000, .inl dSize7)), (MdAddress, .inl (cI, 4000, .inl dAddress7)), (MdMode, .inl (cI, 4000, .inl dMode7)), (MdCode, .inl (cI, 4000, .inl dCode7)), (MdWindow, .inl (cI, 4000, .inl dWindow7)), (Mnears, .inl (cJ, 8, .inr (.inl fn7))), (Msames, .inl (cJ, 1024, .inr (.inl fs7))), (Mtab, .inl (cB, 1536, .inl mtab)), (MqKind, .inl (cI, 4100, .inl mqKind)), (MqSize, .inl (cI, 4100, .inl mqSize)), (MqAddress, .inl (cI, 4100, .inl mqAddress)), (MqMode, .inl (cI, 4100, .inl m7))]) hA hP hD hS [13, 3] [0, 1, 2, 4, 5, 6, 7, 8, 9, 10, 11, 12, 14, 15, 16, 17, 18] rfl rfl (by decide) (by decide) (rn_V (As := [.int (nI c)]) (rest := []) ⟨hx, hb, hml, hown, hts⟩ (cvV 1 hts zc_yX9_codeOctet zi_X9 zm_yX9_codeOctet zv_yX9_codeOctet kX9_397 (by decide +kernel) rfl rfl ⟨Nat.le_of_ble_eq_true rfl, Nat.le_of_ble_eq_true rfl⟩) (m_codeOctet l D cI cB cJ cR mm g5_l2 MsCodes co7 Os (nI c) (k_sCode_l2) ((hf_l2 60 (by decide)).trans g_sCodes) (by omega) (hwC) H.size) hK hNw hMk hA hP hD hS [13, 3] rfl rfl (by decide) 0 rfl rfl rfl rfl hl.1 rfl (Nat.le_of_ble_eq_true rfl) dX9_encode_194 ⟨Nat.le_of_ble_eq_true rfl, Nat.le_of_ble_eq_true rfl⟩) (fun u9 H locs hco hP hD hS => ?_)
                    obtain ⟨g_50, co8⟩ := u9
                    try dsimp only at hco
                    have hP : va_P D vwCl [(Mu, .inl (cB, 8000, .inl mu)), (MqAt, .inl (cI, 4100, .inl mqAt)), (MsData, .inl (cB, 8000, .inl da7)), (MsAddresses, .inl (cB, 30000, .inl ad7)), (MdKind, .inl (cI, 4000, .inl dKind7)), (MdSize, .inl (cI, 4000, .inl dSize7)), (MdAddress, .inl (cI, 4000, .inl dAddress7)), (MdMode, .inl (cI, 4000, .inl dMode7)), (MdCode, .inl (cI, 4000, .inl dCode7)), (MdWindow, .inl (cI, 4000, .inl dWindow7)), (Mnears, .inl (cJ, 8, .inr (.inl fn7))), (Msames, .inl (cJ, 1024, .inr (.inl fs7))), (Mtab, .inl (cB, 1536, .inl mtab)), (MqKind, .inl (cI, 4100, .inl mqKind)), (MqSize, .inl (cI, 4100, .inl mqSize)), (MqAddress, .inl (cI, 4100, .inl mqAddress)), (MqMode, .inl (cI, 4100, .inl m7)), (mm, .inr (9, fl 78 g_50)), (MsCodes, .inl (cB, 30000, .inl co8))] H := hP
                    have hD : va_D A0 [(Mu, .inl (cB, 8000, .inl mu)), (MqAt, .inl (cI, 4100, .inl mqAt)), (MsData, .inl (cB, 8000, .inl da7)), (MsAddresses, .inl (cB, 30000, .inl ad7)), (MdKind, .inl (cI, 4000, .inl dKind7)), (MdSize, .inl (cI, 4000, .inl dSize7)), (MdAddress, .inl (cI, 4000, .inl dAddress7)), (MdMode, .inl (cI, 4000, .inl dMode7)), (MdCode, .inl (cI, 4000, .inl dCode7)), (MdWindow, .inl (cI, 4000, .inl dWindow7)), (Mnears, .inl (cJ, 8, .inr (.inl fn7))), (Msames, .inl (cJ, 1024, .inr (.inl fs7))), (Mtab, .inl (cB, 1536, .inl mtab)), (MqKind, .inl (cI, 4100, .inl mqKind)), (MqSize, .inl (cI, 4100, .inl mqSize)), (MqAddress, .inl (cI, 4100, .inl mqAddress)), (MqMode, .inl (cI, 4100, .inl m7)), (mm, .inr (9, fl 78 g_50)), (MsCodes, .inl (cB, 30000, .inl co8))] := hD
                    obtain ⟨f_hco, sCode_hco, hco_⟩ := hco
                    have k8_g_50 : g_50 8 = .int (nI near) := (f_hco 8 (by decide)).trans ((hf_l2 8 (by decide)).trans g_near)
                    have k9_g_50 : g_50 9 = .int (nI same) := (f_hco 9 (by decide)).trans ((hf_l2 9 (by decide)).trans g_same)
                    have k67_g_50 : g_50 67 = .int (nI Q1.length) := (f_hco 67 (by decide)).trans ((hf_l2 67 (by decide)).trans g_waits)
                    have k39_g_50 : g_50 39 = .int (bI ct) := (f_hco 39 (by decide)).trans ((hf_l2 39 (by decide)).trans g_counts)
                    have k7_g_50 : g_50 7 = .ref Mtab := (f_hco 7 (by decide)).trans ((hf_l2 7 (by decide)).trans g_tab)
                    have k10_g_50 : g_50 10 = .ref Mnears := (f_hco 10 (by decide)).trans ((hf_l2 10 (by decide)).trans g_nears)
                    have k12_g_50 : g_50 12 = .ref Msames := (f_hco 12 (by decide)).trans ((hf_l2 12 (by decide)).trans g_sames)
                    have k64_g_50 : g_50 64 = .ref Mu := (f_hco 64 (by decide)).trans ((hf_l2 64 (by decide)).trans g_u)
                    have k68_g_50 : g_50 68 = .ref MqKind := (f_hco 68 (by decide)).trans ((hf_l2 68 (by decide)).trans g_qKind)
                    have k69_g_50 : g_50 69 = .ref MqSize := (f_hco 69 (by decide)).trans ((hf_l2 69 (by decide)).trans g_qSize)
                    have k70_g_50 : g_50 70 = .ref MqAt := (f_hco 70 (by decide)).trans ((hf_l2 70 (by decide)).trans g_qAt)
                    have k71_g_50 : g_50 71 = .ref MqAddress := (f_hco 71 (by decide)).trans ((hf_l2 71 (by decide)).trans g_qAddress)
                    have k72_g_50 : g_50 72 = .ref MqMode := (f_hco 72 (by decide)).trans ((hf_l2 72 (by decide)).trans g_qMode)
                    have k58_g_50 : g_50 58 = .ref MsData := (f_hco 58 (by decide)).trans ((hf_l2 58 (by decide)).trans g_sData)
                    have k60_g_50 : g_50 60 = .ref MsCodes := (f_hco 60 (by decide)).trans ((hf_l2 60 (by decide)).trans g_sCodes)
                    have k62_g_50 : g_50 62 = .ref MsAddresses := (f_hco 62 (by decide)).trans ((hf_l2 62 (by decide)).trans g_sAddresses)
                    have k21_g_50 : g_50 21 = .ref MdKind := (f_hco 21 (by decide)).trans ((hf_l2 21 (by decide)).trans g_dKind)
                    have k22_g_50 : g_50 22 = .ref MdSize := (f_hco 22 (by decide)).trans ((hf_l2 22 (by decide)).trans g_dSize)
                    have k23_g_50 : g_50 23 = .ref MdAddress := (f_hco 23 (by decide)).trans ((hf_l2 23 (by decide)).trans g_dAddress)
                    have k24_g_50 : g_50 24 = .ref MdMode := (f_hco 24 (by decide)).trans ((hf_l2 24 (by decide)).trans g_dMode)
                    have k25_g_50 : g_50 25 = .ref MdCode := (f_hco 25 (by decide)).trans ((hf_l2 25 (by decide)).trans g_dCode)
                    have k26_g_50 : g_50 26 = .ref MdWindow := (f_hco 26 (by decide)).trans ((hf_l2 26 (by decide)).trans g_dWindow)
                    have k59_g_50 : g_50 59 = .int (nI Dl.length) := (f_hco 59 (by decide)).trans (k_sDatas_l2)
                    have k63_g_50 : g_50 63 = .int (nI A.length) := (f_hco 63 (by decide)).trans (k_sAddress_l2)
                    have k11_g_50 : g_50 11 = .int (nI nx) := (f_hco 11 (by decide)).trans (k_nextNear_l2)
                    have k20_g_50 : g_50 20 = .int (nI dr7) := (f_hco 20 (by decide)).trans (k_drafts_l2)
                    have fr_g_50 : frm [20, 59, 61, 63, 11] g g_50 := frm_tr hf_l2 f_hco (by decide)
                    refine lv_iload hx hb dX9_encode_197 (lv_at hl 1 rfl) ?_
                    refine lv_iconst (v := 1) hx hb dX9_encode_199 (by decide) ?_
                    refine lv_icmp_ne (tgt := 269) hx hb dX9_encode_200 (by decide) (fun c_52 => absurd (by decide) c_52) (fun c_52 => ?_)
                    refine lv_aload_n hx hb dX9_encode_203 rfl (lv_at hl 2 rfl) ?_
                    refine lv_iload_n hx hb dX9_encode_204 rfl (lv_at hl 0 rfl) ?_
                    refine lv_iconst (v := 0) hx hb dX9_encode_205 (by decide) ?_
                    refine ri (y := nI 0) nI_0.symm ?_
                    refine jn_i (wr := [(Mu, .inl (cB, 8000, .inl mu)), (MqAt, .inl (cI, 4100, .inl mqAt)), (MsData, .inl (cB, 8000, .inl da7)), (MsAddresses, .inl (cB, 30000, .inl ad7)), (MdKind, .inl (cI, 4000, .inl dKind7)), (MdSize, .inl (cI, 4000, .inl dSize7)), (MdAddress, .inl (cI, 4000, .inl dAddress7)), (MdMode, .inl (cI, 4000, .inl dMode7)), (MdCode, .inl (cI, 4000, .inl dCode7)), (MdWindow, .inl (cI, 4000, .inl dWindow7)), (Mnears, .inl (cJ, 8, .inr (.inl fn7))), (Msames, .inl (cJ, 1024, .inr (.inl fs7))), (MqKind, .inl (cI, 4100, .inl mqKind)), (MqSize, .inl (cI, 4100, .inl mqSize)), (MqAddress, .inl (cI, 4100, .inl mqAddress)), (MqMode, .inl (cI, 4100, .inl m7)), (MsCodes, .inl (cB, 30000, .inl co8))]) hA hP hD hS [17, 12] [0, 1, 2, 3, 4, 5, 6, 7, 8, 9, 10, 11, 13, 14, 15, 16, 18] rfl rfl (by decide) (by decide) (rn_V (As := [.int (nI c), .int (nI 0)]) (rest := []) ⟨hx, hb, hml, hown, hts⟩ (cvV 2 hts zc_yX9_sizeOf zi_X9 zm_yX9_sizeOf zv_yX9_sizeOf kX9_298 (by decide +kernel) rfl rfl ⟨Nat.le_of_ble_eq_true rfl, Nat.le_of_ble_eq_true rfl⟩) (m_sizeOf l D cI cB cJ cR mm g_50 Mtab mtab tt c 0 (k7_g_50) (ht) (hc6) (by decide) H.size) hK hNw hMk hA hP hD hS [17, 12] rfl rfl (by decide) 0 rfl rfl rfl rfl hl.1 rfl (Nat.le_of_ble_eq_true rfl) dX9_encode_206 ⟨Nat.le_of_ble_eq_true rfl, Nat.le_of_ble_eq_true rfl⟩) (fun r_55 u9 H locs w_53 hP hD hS => ?_)
                    try dsimp only at w_53
                    have hP : va_P D vwCl [(Mu, .inl (cB, 8000, .inl mu)), (MqAt, .inl (cI, 4100, .inl mqAt)), (MsData, .inl (cB, 8000, .inl da7)), (MsAddresses, .inl (cB, 30000, .inl ad7)), (MdKind, .inl (cI, 4000, .inl dKind7)), (MdSize, .inl (cI, 4000, .inl dSize7)), (MdAddress, .inl (cI, 4000, .inl dAddress7)), (MdMode, .inl (cI, 4000, .inl dMode7)), (MdCode, .inl (cI, 4000, .inl dCode7)), (MdWindow, .inl (cI, 4000, .inl dWindow7)), (Mnears, .inl (cJ, 8, .inr (.inl fn7))), (Msames, .inl (cJ, 1024, .inr (.inl fs7))), (MqKind, .inl (cI, 4100, .inl mqKind)), (MqSize, .inl (cI, 4100, .inl mqSize)), (MqAddress, .inl (cI, 4100, .inl mqAddress)), (MqMode, .inl (cI, 4100, .inl m7)), (MsCodes, .inl (cB, 30000, .inl co8)), (mm, .inr (9, fl 78 g_50)), (Mtab, .inl (cB, 1536, .inl mtab))] H := hP
                    have hD : va_D A0 [(Mu, .inl (cB, 8000, .inl mu)), (MqAt, .inl (cI, 4100, .inl mqAt)), (MsData, .inl (cB, 8000, .inl da7)), (MsAddresses, .inl (cB, 30000, .inl ad7)), (MdKind, .inl (cI, 4000, .inl dKind7)), (MdSize, .inl (cI, 4000, .inl dSize7)), (MdAddress, .inl (cI, 4000, .inl dAddress7)), (MdMode, .inl (cI, 4000, .inl dMode7)), (MdCode, .inl (cI, 4000, .inl dCode7)), (MdWindow, .inl (cI, 4000, .inl dWindow7)), (Mnears, .inl (cJ, 8, .inr (.inl fn7))), (Msames, .inl (cJ, 1024, .inr (.inl fs7))), (MqKind, .inl (cI, 4100, .inl mqKind)), (MqSize, .inl (cI, 4100, .inl mqSize)), (MqAddress, .inl (cI, 4100, .inl mqAddress)), (MqMode, .inl (cI, 4100, .inl m7)), (MsCodes, .inl (cB, 30000, .inl co8)), (mm, .inr (9, fl 78 g_50)), (Mtab, .inl (cB, 1536, .inl mtab))] := hD
                    subst w_53
                    have hsg9 : sg1 tt x = (true, [nI c], c) := by rw [sg1, if_pos hA1, hcn_, nI_clamp (by omega)]
                    refine lv_if_ne (tgt := 269) hx hb dX9_encode_209 (by decide) (fun c_56 => ?_) (fun c_56 => absurd c_56 (nI_ne0 (by rw [hsz0]; omega) (by rw [hsz0]; omega)))
                    have hdone : (cdW tt Q1) = cdP (true, (Os ++ [nI c]), Cs ++ [c]) (cdW tt R1) := by rw [hcd, hone, hsg9, cdP_assoc]; unfold cdP; simp
                    refine lv_iconst (v := 0) hx hb dX9_encode_269 (by decide) ?_
                    refine ri (y := nI 0) (nI_0.symm) ?_
                    refine lv_istore (lv' := [(5, .int (nI 0)), (3, .int (nI c)), (4, .int 1), (0, .ref mm), (1, .int (nI wi)), (2, .int (nI Qd.length))]) hx hb dX9_encode_270 hl (by decide) rfl (fun ls hl => ?_)
                    refine lv_iload hx hb dX9_encode_272 (lv_at hl 0 rfl) ?_
                    refine lv_iload hx hb dX9_encode_274 (lv_at hl 2 rfl) ?_
                    refine lv_icmp_ge (tgt := 334) hx hb dX9_encode_276 (by decide) (fun c_57 => absurd c_57 (by decide)) (fun c_57 => ?_)
                    refine lv_aload_n hx hb dX9_encode_279 rfl (lv_at hl 3 rfl) ?_
                    refine fx_get (D := D) (ci := 9) (v := .int (bI ct)) (C := RX9) (T := TX9) (N := 78) hx hb hts in_X9 hown hK hP 17 rfl rfl 39 (by decide) (hts _ kX9_224) (fun _ h9 => h9) (k39_g_50) dX9_encode_280 ?_
                    refine bz_eq (tgt := 328) hx hb dX9_encode_283 (by decide) (fun c_58 => ?_) (fun c_58 => ?_)
                    · have hcf_a : ct = false := c_58
                      refine lv_iinc (v := nI (0 + 1)) (lv' := [(5, .int (nI (0 + 1))), (3, .int (nI c)), (4, .int 1), (0, .ref mm), (1, .int (nI wi)), (2, .int (nI Qd.length))]) hx hb dX9_encode_328 hl (k := 0) rfl (nI_add 0 1) (by decide) rfl (fun ls hl => ?_)
                      refine lv_goto (tgt := 272) hx hb dX9_encode_331 (by decide) ?_
                      refine lv_iload hx hb dX9_encode_272 (lv_at hl 0 rfl) ?_
                      refine lv_iload hx hb dX9_encode_274 (lv_at hl 2 rfl) ?_
                      refine lv_icmp_ge (tgt := 334) hx hb dX9_encode_276 (by decide) (fun c_59 => ?_) (fun c_59 => absurd (by decide) c_59)
                      refine lv_iload_n hx hb dX9_encode_334 rfl (lv_at hl 5 rfl) ?_
                      refine lv_iload hx hb dX9_encode_335 (lv_at hl 2 rfl) ?_
                      refine lv_iadd hx hb dX9_encode_337 ?_
                      refine ri (y := nI (Qd.length + 1)) (nI_add Qd.length 1) ?_
                      refine lv_istore_n (lv' := [(2, .int (nI (Qd.length + 1))), (5, .int (nI (0 + 1))), (3, .int (nI c)), (4, .int 1), (0, .ref mm), (1, .int (nI wi))]) hx hb dX9_encode_338 rfl hl (by decide) rfl (fun ls hl => ?_)
                      refine lv_goto (tgt := 152) hx hb dX9_encode_339 (by decide) ?_
                      rw [show Qd.length + 1 = (Qd ++ [x]).length by simp] at hl
                      exact ih g_50 R1 (Qd ++ [x]) (Os ++ [nI c]) (Cs ++ [c]) dr7 co8 dKind7 dSize7 dAddress7 dMode7 dCode7 dWindow7 _ _ ls (by omega) (fr_g_50) (k59_g_50) (sCode_hco) (k63_g_50) (k11_g_50) (k20_g_50) (by rw [hQ]; simp) (by simp; exact hQd) (hdone) (by simp; omega) (hco_) (fun z => absurd (hcf_a.symm.trans z) (by decide)) (hdf) (hP.sub [17, 18, 0, 12, 13, 1, 14, 15, 2, 16, 3, 4, 5, 6, 7, 8, 9, 10, 11] rfl) (hD.sub [17, 18, 0, 12, 13, 1, 14, 15, 2, 16, 3, 4, 5, 6, 7, 8, 9, 10, 11] (by decide) rfl) hS (lv_sub hl [4, 5, 0] rfl)
                    · have hcf_a : ct = true := c_58
                      obtain ⟨la_a, lb_a⟩ := hdt hcf_a
                      refine lv_aload_n hx hb dX9_encode_286 rfl (lv_at hl 3 rfl) ?_
                      refine lv_aload_n hx hb dX9_encode_287 rfl (lv_at hl 3 rfl) ?_
                      refine fx_get (D := D) (ci := 9) (v := .ref MqKind) (C := RX9) (T := TX9) (N := 78) hx hb hts in_X9 hown hK hP 17 rfl rfl 68 (by decide) (hts _ kX9_103) (fun _ h9 => h9) (k68_g_50) dX9_encode_288 ?_
                      refine lv_iload_n hx hb dX9_encode_291 rfl (lv_at hl 5 rfl) ?_
                      refine lv_iload hx hb dX9_encode_292 (lv_at hl 0 rfl) ?_
                      refine lv_iadd hx hb dX9_encode_294 ?_
                      refine ri (y := nI (Qd.length + 0)) (nI_add Qd.length 0) ?_
                      refine ax_ild hx hb hK hP 12 0 rfl rfl Qd.length (rfl) (by omega) (by omega) dX9_encode_295 ?_
                      refine ri (y := nI x.1) (hxm.1) ?_
                      refine lv_aload_n hx hb dX9_encode_296 rfl (lv_at hl 3 rfl) ?_
                      refine fx_get (D := D) (ci := 9) (v := .ref MqSize) (C := RX9) (T := TX9) (N := 78) hx hb hts in_X9 hown hK hP 17 rfl rfl 69 (by decide) (hts _ kX9_106) (fun _ h9 => h9) (k69_g_50) dX9_encode_297 ?_
                      refine lv_iload_n hx hb dX9_encode_300 rfl (lv_at hl 5 rfl) ?_
                      refine lv_iload hx hb dX9_encode_301 (lv_at hl 0 rfl) ?_
                      refine lv_iadd hx hb dX9_encode_303 ?_
                      refine ri (y := nI (Qd.length + 0)) (nI_add Qd.length 0) ?_
                      refine ax_ild hx hb hK hP 13 0 rfl rfl Qd.length (rfl) (by omega) (by omega) dX9_encode_304 ?_
                      refine ri (y := nI x.2.1) (hxm.2.1) ?_
                      refine lv_aload_n hx hb dX9_encode_305 rfl (lv_at hl 3 rfl) ?_
                      refine fx_get (D := D) (ci := 9) (v := .ref MqAddress) (C := RX9) (T := TX9) (N := 78) hx hb hts in_X9 hown hK hP 17 rfl rfl 71 (by decide) (hts _ kX9_112) (fun _ h9 => h9) (k71_g_50) dX9_encode_306 ?_
                      refine lv_iload_n hx hb dX9_encode_309 rfl (lv_at hl 5 rfl) ?_
                      refine lv_iload hx hb dX9_encode_310 (lv_at hl 0 rfl) ?_
                      refine lv_iadd hx hb dX9_encode_312 ?_
                      refine ri (y := nI (Qd.length + 0)) (nI_add Qd.length 0) ?_
                      refine ax_ild hx hb hK hP 14 0 rfl rfl Qd.length (rfl) (by omega) (by omega) dX9_encode_313 ?_
                      refine ri (y := nI x.2.2.1) (hxm.2.2.1) ?_
                      refine lv_aload_n hx hb dX9_encode_314 rfl (lv_at hl 3 rfl) ?_
                      refine fx_get (D := D) (ci := 9) (v := .ref MqMode) (C := RX9) (T := TX9) (N := 78) hx hb hts in_X9 hown hK hP 17 rfl rfl 72 (by decide) (hts _ kX9_115) (fun _ h9 => h9) (k72_g_50) dX9_encode_315 ?_
                      refine lv_iload_n hx hb dX9_encode_318 rfl (lv_at hl 5 rfl) ?_
                      refine lv_iload hx hb dX9_encode_319 (lv_at hl 0 rfl) ?_
                      refine lv_iadd hx hb dX9_encode_321 ?_
                      refine ri (y := nI (Qd.length + 0)) (nI_add Qd.length 0) ?_
                      refine ax_ild hx hb hK hP 15 0 rfl rfl Qd.length (rfl) (by omega) (by omega) dX9_encode_322 ?_
                      refine ri (y := nI x.2.2.2) (hxm.2.2.2) ?_
                      refine lv_iload_n hx hb dX9_encode_323 rfl (lv_at hl 1 rfl) ?_
                      refine lv_iload_n hx hb dX9_encode_324 rfl (lv_at hl 4 rfl) ?_
                      refine jn_v (wr := [(Mu, .inl (cB, 8000, .inl mu)), (MqAt, .inl (cI, 4100, .inl mqAt)), (MsData, .inl (cB, 8000, .inl da7)), (MsAddresses, .inl (cB, 30000, .inl ad7)), (Mnears, .inl (cJ, 8, .inr (.inl fn7))), (Msames, .inl (cJ, 1024, .inr (.inl fs7))), (MqKind, .inl (cI, 4100, .inl mqKind)), (MqSize, .inl (cI, 4100, .inl mqSize)), (MqAddress, .inl (cI, 4100, .inl mqAddress)), (MqMode, .inl (cI, 4100, .inl m7)), (MsCodes, .inl (cB, 30000, .inl co8)), (Mtab, .inl (cB, 1536, .inl mtab))]) hA hP hD hS [17, 4, 5, 6, 7, 8, 9] [0, 1, 2, 3, 10, 11, 12, 13, 14, 15, 16, 18] rfl rfl (by decide) (by decide) (rn_V (As := [.int (nI x.1), .int (nI x.2.1), .int (nI x.2.2.1), .int (nI x.2.2.2), .int (nI c), .int (nI wi)]) (rest := []) ⟨hx, hb, hml, hown, hts⟩ (cvV 6 hts zc_yX9_list zi_X9 zm_yX9_list zv_yX9_list kX9_320 (by decide +kernel) rfl rfl ⟨Nat.le_of_ble_eq_true rfl, Nat.le_of_ble_eq_true rfl⟩) (m_list l D cI cB cJ cR mm g_50 MdKind MdSize MdAddress MdMode MdCode MdWindow dKind7 dSize7 dAddress7 dMode7 dCode7 dWindow7 dr7 (wrG gg cnt (rwQ wi Q1 Cs)) (nI x.1) (nI x.2.1) (nI x.2.2.1) (nI x.2.2.2) (nI c) (nI wi) (k20_g_50) (k21_g_50) (k22_g_50) (k23_g_50) (k24_g_50) (k25_g_50) (k26_g_50) (by omega) (lb_a) H.size) hK hNw hMk hA hP hD hS [17, 4, 5, 6, 7, 8, 9] rfl rfl (by decide) 0 rfl rfl rfl rfl hl.1 rfl (Nat.le_of_ble_eq_true rfl) dX9_encode_325 ⟨Nat.le_of_ble_eq_true rfl, Nat.le_of_ble_eq_true rfl⟩) (fun u9 H locs hls_a hP hD hS => ?_)
                      obtain ⟨g_60, dKind_a, dSize_a, dAddress_a, dMode_a, dCode_a, dWindow_a⟩ := u9
                      try dsimp only at hls_a
                      have hP : va_P D vwCl [(Mu, .inl (cB, 8000, .inl mu)), (MqAt, .inl (cI, 4100, .inl mqAt)), (MsData, .inl (cB, 8000, .inl da7)), (MsAddresses, .inl (cB, 30000, .inl ad7)), (Mnears, .inl (cJ, 8, .inr (.inl fn7))), (Msames, .inl (cJ, 1024, .inr (.inl fs7))), (MqKind, .inl (cI, 4100, .inl mqKind)), (MqSize, .inl (cI, 4100, .inl mqSize)), (MqAddress, .inl (cI, 4100, .inl mqAddress)), (MqMode, .inl (cI, 4100, .inl m7)), (MsCodes, .inl (cB, 30000, .inl co8)), (Mtab, .inl (cB, 1536, .inl mtab)), (mm, .inr (9, fl 78 g_60)), (MdKind, .inl (cI, 4000, .inl dKind_a)), (MdSize, .inl (cI, 4000, .inl dSize_a)), (MdAddress, .inl (cI, 4000, .inl dAddress_a)), (MdMode, .inl (cI, 4000, .inl dMode_a)), (MdCode, .inl (cI, 4000, .inl dCode_a)), (MdWindow, .inl (cI, 4000, .inl dWindow_a))] H := hP
                      have hD : va_D A0 [(Mu, .inl (cB, 8000, .inl mu)), (MqAt, .inl (cI, 4100, .inl mqAt)), (MsData, .inl (cB, 8000, .inl da7)), (MsAddresses, .inl (cB, 30000, .inl ad7)), (Mnears, .inl (cJ, 8, .inr (.inl fn7))), (Msames, .inl (cJ, 1024, .inr (.inl fs7))), (MqKind, .inl (cI, 4100, .inl mqKind)), (MqSize, .inl (cI, 4100, .inl mqSize)), (MqAddress, .inl (cI, 4100, .inl mqAddress)), (MqMode, .inl (cI, 4100, .inl m7)), (MsCodes, .inl (cB, 30000, .inl co8)), (Mtab, .inl (cB, 1536, .inl mtab)), (mm, .inr (9, fl 78 g_60)), (MdKind, .inl (cI, 4000, .inl dKind_a)), (MdSize, .inl (cI, 4000, .inl dSize_a)), (MdAddress, .inl (cI, 4000, .inl dAddress_a)), (MdMode, .inl (cI, 4000, .inl dMode_a)), (MdCode, .inl (cI, 4000, .inl dCode_a)), (MdWindow, .inl (cI, 4000, .inl dWindow_a))] := hD
                      obtain ⟨f_hls_a, drafts_hls_a, hls_a_⟩ := hls_a
                      have k8_g_60 : g_60 8 = .int (nI near) := (f_hls_a 8 (by decide)).trans (k8_g_50)
                      have k9_g_60 : g_60 9 = .int (nI same) := (f_hls_a 9 (by decide)).trans (k9_g_50)
                      have k67_g_60 : g_60 67 = .int (nI Q1.length) := (f_hls_a 67 (by decide)).trans (k67_g_50)
                      have k39_g_60 : g_60 39 = .int (bI ct) := (f_hls_a 39 (by decide)).trans (k39_g_50)
                      have k7_g_60 : g_60 7 = .ref Mtab := (f_hls_a 7 (by decide)).trans (k7_g_50)
                      have k10_g_60 : g_60 10 = .ref Mnears := (f_hls_a 10 (by decide)).trans (k10_g_50)
                      have k12_g_60 : g_60 12 = .ref Msames := (f_hls_a 12 (by decide)).trans (k12_g_50)
                      have k64_g_60 : g_60 64 = .ref Mu := (f_hls_a 64 (by decide)).trans (k64_g_50)
                      have k68_g_60 : g_60 68 = .ref MqKind := (f_hls_a 68 (by decide)).trans (k68_g_50)
                      have k69_g_60 : g_60 69 = .ref MqSize := (f_hls_a 69 (by decide)).trans (k69_g_50)
                      have k70_g_60 : g_60 70 = .ref MqAt := (f_hls_a 70 (by decide)).trans (k70_g_50)
                      have k71_g_60 : g_60 71 = .ref MqAddress := (f_hls_a 71 (by decide)).trans (k71_g_50)
                      have k72_g_60 : g_60 72 = .ref MqMode := (f_hls_a 72 (by decide)).trans (k72_g_50)
                      have k58_g_60 : g_60 58 = .ref MsData := (f_hls_a 58 (by decide)).trans (k58_g_50)
                      have k60_g_60 : g_60 60 = .ref MsCodes := (f_hls_a 60 (by decide)).trans (k60_g_50)
                      have k62_g_60 : g_60 62 = .ref MsAddresses := (f_hls_a 62 (by decide)).trans (k62_g_50)
                      have k21_g_60 : g_60 21 = .ref MdKind := (f_hls_a 21 (by decide)).trans (k21_g_50)
                      have k22_g_60 : g_60 22 = .ref MdSize := (f_hls_a 22 (by decide)).trans (k22_g_50)
                      have k23_g_60 : g_60 23 = .ref MdAddress := (f_hls_a 23 (by decide)).trans (k23_g_50)
                      have k24_g_60 : g_60 24 = .ref MdMode := (f_hls_a 24 (by decide)).trans (k24_g_50)
                      have k25_g_60 : g_60 25 = .ref MdCode := (f_hls_a 25 (by decide)).trans (k25_g_50)
                      have k26_g_60 : g_60 26 = .ref MdWindow := (f_hls_a 26 (by decide)).trans (k26_g_50)
                      have k59_g_60 : g_60 59 = .int (nI Dl.length) := (f_hls_a 59 (by decide)).trans (k59_g_50)
                      have k63_g_60 : g_60 63 = .int (nI A.length) := (f_hls_a 63 (by decide)).trans (k63_g_50)
                      have k11_g_60 : g_60 11 = .int (nI nx) := (f_hls_a 11 (by decide)).trans (k11_g_50)
                      have k61_g_60 : g_60 61 = .int (nI (Os ++ [(nI c)]).length) := (f_hls_a 61 (by decide)).trans (sCode_hco)
                      have fr_g_60 : frm [20, 59, 61, 63, 11] g g_60 := frm_tr fr_g_50 f_hls_a (by decide)
                      have hG9 := wrG_code (g := gg) (f := cnt) (w := wi) (c := c) (Q := Q1) (Cs := Cs) (x := x) (by rw [← hQd]; exact hx9) (by omega)
                      rw [la_a] at hls_a_
                      have hls9 : dRel dKind_a dSize_a dAddress_a dMode_a dCode_a dWindow_a (wrG gg cnt (rwQ wi Q1 (Cs ++ [c]))) (cnt + Cs.length + 1) := by rw [← hG9]; exact hls_a_
                      refine lv_iinc (v := nI (0 + 1)) (lv' := [(5, .int (nI (0 + 1))), (3, .int (nI c)), (4, .int 1), (0, .ref mm), (1, .int (nI wi)), (2, .int (nI Qd.length))]) hx hb dX9_encode_328 hl (k := 0) rfl (nI_add 0 1) (by decide) rfl (fun ls hl => ?_)
                      refine lv_goto (tgt := 272) hx hb dX9_encode_331 (by decide) ?_
                      refine lv_iload hx hb dX9_encode_272 (lv_at hl 0 rfl) ?_
                      refine lv_iload hx hb dX9_encode_274 (lv_at hl 2 rfl) ?_
                      refine lv_icmp_ge (tgt := 334) hx hb dX9_encode_276 (by decide) (fun c_62 => ?_) (fun c_62 => absurd (by decide) c_62)
                      refine lv_iload_n hx hb dX9_encode_334 rfl (lv_at hl 5 rfl) ?_
                      refine lv_iload hx hb dX9_encode_335 (lv_at hl 2 rfl) ?_
                      refine lv_iadd hx hb dX9_encode_337 ?_
                      refine ri (y := nI (Qd.length + 1)) (nI_add Qd.length 1) ?_
                      refine lv_istore_n (lv' := [(2, .int (nI (Qd.length + 1))), (5, .int (nI (0 + 1))), (3, .int (nI c)), (4, .int 1), (0, .ref mm), (1, .int (nI wi))]) hx hb dX9_encode_338 rfl hl (by decide) rfl (fun ls hl => ?_)
                      refine lv_goto (tgt := 152) hx hb dX9_encode_339 (by decide) ?_
                      rw [show Qd.length + 1 = (Qd ++ [x]).length by simp] at hl
                      exact ih g_60 R1 (Qd ++ [x]) (Os ++ [nI c]) (Cs ++ [c]) (dr7 + 1) co8 dKind_a dSize_a dAddress_a dMode_a dCode_a dWindow_a _ _ ls (by omega) (fr_g_60) (k59_g_60) (k61_g_60) (k63_g_60) (k11_g_60) (drafts_hls_a) (by rw [hQ]; simp) (by simp; exact hQd) (hdone) (by simp; omega) (hco_) (fun z => ⟨by rw [List.length_append]; show _ = cnt + (Cs.length + 1); omega, by rw [show dr7 + 1 = cnt + Cs.length + 1 by omega]; exact hls9⟩) (fun z => absurd (hcf_a.symm.trans z) (by decide)) (hP.sub [12, 11, 0, 6, 7, 1, 8, 9, 2, 10, 3, 13, 14, 15, 16, 17, 18, 4, 5] rfl) (hD.sub [12, 11, 0, 6, 7, 1, 8, 9, 2, 10, 3, 13, 14, 15, 16, 17, 18, 4, 5] (by decide) rfl) hS (lv_sub hl [4, 5, 0] rfl)
              · have hone : cdW tt (x :: R1) = cdP ((sg1 tt x).1, (sg1 tt x).2.1, [(sg1 tt x).2.2]) (cdW tt R1) := cdW_one (fun y9 r9 hy => by rw [hy] at hQl2; simp at hQl2; omega)
                have cf3 := cf2 (fun z => absurd z hml9)
                by_cases hA1 : (fstC (sngP tt x.1 x.2.1 x.2.2.2) 256 0) < 0
                · by_cases hB1 : (fstC (sngP tt x.1 0 x.2.2.2) 256 0) < 0
                  · have hrc : rc_ = (fstC (sngP tt x.1 0 x.2.2.2) 256 0) := cf3.2 hA1
                    have hsg : sg1 tt x = (false, [], 0) := by rw [sg1, if_neg (fun z => z hA1), if_neg (fun z => z hB1)]
                    refine lv_istore_n (lv' := [(3, .int rc_), (0, .ref mm), (1, .int (nI wi)), (2, .int (nI Qd.length))]) hx hb dX9_encode_165 rfl hl (by decide) rfl (fun ls hl => ?_)
                    refine lv_iload_n hx hb dX9_encode_166 rfl (lv_at hl 0 rfl) ?_
                    refine lv_if_ge (tgt := 172) hx hb dX9_encode_167 (by decide) (fun c_63 => absurd c_63 (by rw [hrc]; exact Int32.not_le.mpr hB1)) (fun c_63 => ?_)
                    refine lv_iconst (v := 0) hx hb dX9_encode_170 (by decide) ?_
                    have hcdf : (cdW tt Q1).1 = false := by rw [hcd, hone, hsg]; simp [cdP]
                    have hP := hP.sub (ws' := [(mm, .inr (9, fl 78 g5_l2)), (Mtab, .inl (cB, 1536, .inl mtab)), (Mnears, .inl (cJ, 8, .inr (.inl fn7))), (Msames, .inl (cJ, 1024, .inr (.inl fs7))), (Mu, .inl (cB, 8000, .inl mu)), (MqKind, .inl (cI, 4100, .inl mqKind)), (MqSize, .inl (cI, 4100, .inl mqSize)), (MqAt, .inl (cI, 4100, .inl mqAt)), (MqAddress, .inl (cI, 4100, .inl mqAddress)), (MqMode, .inl (cI, 4100, .inl m7)), (MsData, .inl (cB, 8000, .inl da7)), (MsCodes, .inl (cB, 30000, .inl co7)), (MsAddresses, .inl (cB, 30000, .inl ad7)), (MdKind, .inl (cI, 4000, .inl dKind7)), (MdSize, .inl (cI, 4000, .inl dSize7)), (MdAddress, .inl (cI, 4000, .inl dAddress7)), (MdMode, .inl (cI, 4000, .inl dMode7)), (MdCode, .inl (cI, 4000, .inl dCode7)), (MdWindow, .inl (cI, 4000, .inl dWindow7))]) [13, 14, 11, 12, 0, 15, 16, 1, 17, 18, 2, 3, 4, 5, 6, 7, 8, 9, 10] rfl
                    have hD := hD.sub (ws' := [(mm, .inr (9, fl 78 g5_l2)), (Mtab, .inl (cB, 1536, .inl mtab)), (Mnears, .inl (cJ, 8, .inr (.inl fn7))), (Msames, .inl (cJ, 1024, .inr (.inl fs7))), (Mu, .inl (cB, 8000, .inl mu)), (MqKind, .inl (cI, 4100, .inl mqKind)), (MqSize, .inl (cI, 4100, .inl mqSize)), (MqAt, .inl (cI, 4100, .inl mqAt)), (MqAddress, .inl (cI, 4100, .inl mqAddress)), (MqMode, .inl (cI, 4100, .inl m7)), (MsData, .inl (cB, 8000, .inl da7)), (MsCodes, .inl (cB, 30000, .inl co7)), (MsAddresses, .inl (cB, 30000, .inl ad7)), (MdKind, .inl (cI, 4000, .inl dKind7)), (MdSize, .inl (cI, 4000, .inl dSize7)), (MdAddress, .inl (cI, 4000, .inl dAddress7)), (MdMode, .inl (cI, 4000, .inl dMode7)), (MdCode, .inl (cI, 4000, .inl dCode7)), (MdWindow, .inl (cI, 4000, .inl dWindow7))]) [13, 14, 11, 12, 0, 15, 16, 1, 17, 18, 2, 3, 4, 5, 6, 7, 8, 9, 10] (by decide) rfl
                    exact hret 171 ls _ _ false (g5_l2, dr7, nI Dl.length, nI Os.length, nI A.length, nI nx, fn7, fs7, m7, da7, co7, ad7, dKind7, dSize7, dAddress7, dMode7, dCode7, dWindow7) dX9_encode_171 hP hD hS (⟨hf_l2, k_drafts_l2, k_sDatas_l2, k_sCode_l2, k_sAddress_l2, k_nextNear_l2, by rw [← hR9, hRw]; dsimp only; rw [hcdf]; exact ⟨rfl, fun z => absurd z (by decide), hdf⟩⟩)
                  · obtain ⟨c, hcn_, hc6, hfit⟩ : ∃ c, (fstC (sngP tt x.1 0 x.2.2.2) 256 0) = nI c ∧ c < 256 ∧ sngP tt x.1 0 x.2.2.2 c = true := by obtain ⟨c, q1, q2, q3, q4, -⟩ := fst_pos 256 0 hB1; exact ⟨c, q1, by omega, q4⟩
                    have hrc : rc_ = nI c := by rw [← hcn_]; exact cf3.2 hA1
                    subst hrc
                    have hcc : (fstC (sngP tt x.1 0 x.2.2.2) 256 0).toNatClampNeg = c := by rw [hcn_]; exact nI_clamp (by omega)
                    have hsz0 : tt (512 + 0 * 256 + c) = 0 := by unfold sngP at hfit; rw [Bool.and_eq_true] at hfit; exact (of_decide_eq_true hfit.2).2.1
                    refine lv_istore_n (lv' := [(3, .int (nI c)), (0, .ref mm), (1, .int (nI wi)), (2, .int (nI Qd.length))]) hx hb dX9_encode_165 rfl hl (by decide) rfl (fun ls hl => ?_)
                    refine lv_iload_n hx hb dX9_encode_166 rfl (lv_at hl 0 rfl) ?_
                    refine lv_if_ge (tgt := 172) hx hb dX9_encode_167 (by decide) (fun c_64 => ?_) (fun c_64 => absurd (nI_pos' (by omega)) c_64)
                    refine lv_iload_n hx hb dX9_encode_172 rfl (lv_at hl 0 rfl) ?_
                    refine lv_sipush (v := 1000) hx hb dX9_encode_173 (by decide) ?_
                    refine lv_icmp_lt (tgt := 183) hx hb dX9_encode_176 (by decide) (fun c_65 => ?_) (fun c_65 => absurd (nI_lt (b := 1000) (by omega) (by decide)) c_65)
                    refine lv_iconst (v := 1) hx hb dX9_encode_183 (by decide) ?_
                    refine lv_istore (lv' := [(4, .int 1), (3, .int (nI c)), (0, .ref mm), (1, .int (nI wi)), (2, .int (nI Qd.length))]) hx hb dX9_encode_184 hl (by decide) rfl (fun ls hl => ?_)
                    refine lv_iload_n hx hb dX9_encode_186 rfl (lv_at hl 1 rfl) ?_
                    refine lv_sipush (v := 1000) hx hb dX9_encode_187 (by decide) ?_
                    refine lv_irem hx hb dX9_encode_190 (by decide) ?_
                    refine ri (y := nI c) ((pk_rem (d := 1000) (by omega) (by decide) (by decide)).trans (by rw [Nat.mod_eq_of_lt (by omega)])) ?_
                    refine lv_istore_n (lv' := [(3, .int (nI c)), (4, .int 1), (0, .ref mm), (1, .int (nI wi)), (2, .int (nI Qd.length))]) hx hb dX9_encode_191 rfl hl (by decide) rfl (fun ls hl => ?_)
                    refine lv_aload_n hx hb dX9_encode_192 rfl (lv_at hl 2 rfl) ?_
                    refine lv_iload_n hx hb dX9_encode_193 rfl (lv_at hl 0 rfl) ?_
                    refine jn_v (wr := [(Mu, .inl (cB, 8000, .inl mu)), (MqAt, .inl (cI, 4100, .inl mqAt)), (MsData, .inl (cB, 8000, .inl da7)), (MsAddresses, .inl (cB, 30000, .inl ad7)), (MdKind, .inl (cI, 4000, .inl dKind7)), (MdSize, .inl (cI, 4000, .inl dSize7)), (MdAddress, .inl (cI, 4000, .inl dAddress7)), (MdMode, .inl (cI, 4000, .inl dMode7)), (MdCode, .inl (cI, 4000, .inl dCode7)), (MdWindow, .inl (cI, 4000, .inl dWindow7)), (Mnears, .inl (cJ, 8, .inr (.inl fn7))), (Msames, .inl (cJ, 1024, .inr (.inl fs7))), (Mtab, .inl (cB, 1536, .inl mtab)), (MqKind, .inl (cI, 4100, .inl mqKind)), (MqSize, .inl (cI, 4100, .inl mqSize)), (MqAddress, .inl (cI, 4100, .inl mqAddress)), (MqMode, .inl (cI, 4100, .inl m7))]) hA hP hD hS [13, 3] [0, 1, 2, 4, 5, 6, 7, 8, 9, 10, 11, 12, 14, 15, 16, 17, 18] rfl rfl (by decide) (by decide) (rn_V (As := [.int (nI c)]) (rest := []) ⟨hx, hb, hml, hown, hts⟩ (cvV 1 hts zc_yX9_codeOctet zi_X9 zm_yX9_codeOctet zv_yX9_codeOctet kX9_397 (by decide +kernel) rfl rfl ⟨Nat.le_of_ble_eq_true rfl, Nat.le_of_ble_eq_true rfl⟩) (m_codeOctet l D cI cB cJ cR mm g5_l2 MsCodes co7 Os (nI c) (k_sCode_l2) ((hf_l2 60 (by decide)).trans g_sCodes) (by omega) (hwC) H.size) hK hNw hMk hA hP hD hS [13, 3] rfl rfl (by decide) 0 rfl rfl rfl rfl hl.1 rfl (Nat.le_of_ble_eq_true rfl) dX9_encode_194 ⟨Nat.le_of_ble_eq_true rfl, Nat.le_of_ble_eq_true rfl⟩) (fun u9 H locs hco hP hD hS => ?_)
                    obtain ⟨g_66, co8⟩ := u9
                    try dsimp only at hco
                    have hP : va_P D vwCl [(Mu, .inl (cB, 8000, .inl mu)), (MqAt, .inl (cI, 4100, .inl mqAt)), (MsData, .inl (cB, 8000, .inl da7)), (MsAddresses, .inl (cB, 30000, .inl ad7)), (MdKind, .inl (cI, 4000, .inl dKind7)), (MdSize, .inl (cI, 4000, .inl dSize7)), (MdAddress, .inl (cI, 4000, .inl dAddress7)), (MdMode, .inl (cI, 4000, .inl dMode7)), (MdCode, .inl (cI, 4000, .inl dCode7)), (MdWindow, .inl (cI, 4000, .inl dWindow7)), (Mnears, .inl (cJ, 8, .inr (.inl fn7))), (Msames, .inl (cJ, 1024, .inr (.inl fs7))), (Mtab, .inl (cB, 1536, .inl mtab)), (MqKind, .inl (cI, 4100, .inl mqKind)), (MqSize, .inl (cI, 4100, .inl mqSize)), (MqAddress, .inl (cI, 4100, .inl mqAddress)), (MqMode, .inl (cI, 4100, .inl m7)), (mm, .inr (9, fl 78 g_66)), (MsCodes, .inl (cB, 30000, .inl co8))] H := hP
                    have hD : va_D A0 [(Mu, .inl (cB, 8000, .inl mu)), (MqAt, .inl (cI, 4100, .inl mqAt)), (MsData, .inl (cB, 8000, .inl da7)), (MsAddresses, .inl (cB, 30000, .inl ad7)), (MdKind, .inl (cI, 4000, .inl dKind7)), (MdSize, .inl (cI, 4000, .inl dSize7)), (MdAddress, .inl (cI, 4000, .inl dAddress7)), (MdMode, .inl (cI, 4000, .inl dMode7)), (MdCode, .inl (cI, 4000, .inl dCode7)), (MdWindow, .inl (cI, 4000, .inl dWindow7)), (Mnears, .inl (cJ, 8, .inr (.inl fn7))), (Msames, .inl (cJ, 1024, .inr (.inl fs7))), (Mtab, .inl (cB, 1536, .inl mtab)), (MqKind, .inl (cI, 4100, .inl mqKind)), (MqSize, .inl (cI, 4100, .inl mqSize)), (MqAddress, .inl (cI, 4100, .inl mqAddress)), (MqMode, .inl (cI, 4100, .inl m7)), (mm, .inr (9, fl 78 g_66)), (MsCodes, .inl (cB, 30000, .inl co8))] := hD
                    obtain ⟨f_hco, sCode_hco, hco_⟩ := hco
                    have k8_g_66 : g_66 8 = .int (nI near) := (f_hco 8 (by decide)).trans ((hf_l2 8 (by decide)).trans g_near)
                    have k9_g_66 : g_66 9 = .int (nI same) := (f_hco 9 (by decide)).trans ((hf_l2 9 (by decide)).trans g_same)
                    have k67_g_66 : g_66 67 = .int (nI Q1.length) := (f_hco 67 (by decide)).trans ((hf_l2 67 (by decide)).trans g_waits)
                    have k39_g_66 : g_66 39 = .int (bI ct) := (f_hco 39 (by decide)).trans ((hf_l2 39 (by decide)).trans g_counts)
                    have k7_g_66 : g_66 7 = .ref Mtab := (f_hco 7 (by decide)).trans ((hf_l2 7 (by decide)).trans g_tab)
                    have k10_g_66 : g_66 10 = .ref Mnears := (f_hco 10 (by decide)).trans ((hf_l2 10 (by decide)).trans g_nears)
                    have k12_g_66 : g_66 12 = .ref Msames := (f_hco 12 (by decide)).trans ((hf_l2 12 (by decide)).trans g_sames)
                    have k64_g_66 : g_66 64 = .ref Mu := (f_hco 64 (by decide)).trans ((hf_l2 64 (by decide)).trans g_u)
                    have k68_g_66 : g_66 68 = .ref MqKind := (f_hco 68 (by decide)).trans ((hf_l2 68 (by decide)).trans g_qKind)
                    have k69_g_66 : g_66 69 = .ref MqSize := (f_hco 69 (by decide)).trans ((hf_l2 69 (by decide)).trans g_qSize)
                    have k70_g_66 : g_66 70 = .ref MqAt := (f_hco 70 (by decide)).trans ((hf_l2 70 (by decide)).trans g_qAt)
                    have k71_g_66 : g_66 71 = .ref MqAddress := (f_hco 71 (by decide)).trans ((hf_l2 71 (by decide)).trans g_qAddress)
                    have k72_g_66 : g_66 72 = .ref MqMode := (f_hco 72 (by decide)).trans ((hf_l2 72 (by decide)).trans g_qMode)
                    have k58_g_66 : g_66 58 = .ref MsData := (f_hco 58 (by decide)).trans ((hf_l2 58 (by decide)).trans g_sData)
                    have k60_g_66 : g_66 60 = .ref MsCodes := (f_hco 60 (by decide)).trans ((hf_l2 60 (by decide)).trans g_sCodes)
                    have k62_g_66 : g_66 62 = .ref MsAddresses := (f_hco 62 (by decide)).trans ((hf_l2 62 (by decide)).trans g_sAddresses)
                    have k21_g_66 : g_66 21 = .ref MdKind := (f_hco 21 (by decide)).trans ((hf_l2 21 (by decide)).trans g_dKind)
                    have k22_g_66 : g_66 22 = .ref MdSize := (f_hco 22 (by decide)).trans ((hf_l2 22 (by decide)).trans g_dSize)
                    have k23_g_66 : g_66 23 = .ref MdAddress := (f_hco 23 (by decide)).trans ((hf_l2 23 (by decide)).trans g_dAddress)
                    have k24_g_66 : g_66 24 = .ref MdMode := (f_hco 24 (by decide)).trans ((hf_l2 24 (by decide)).trans g_dMode)
                    have k25_g_66 : g_66 25 = .ref MdCode := (f_hco 25 (by decide)).trans ((hf_l2 25 (by decide)).trans g_dCode)
                    have k26_g_66 : g_66 26 = .ref MdWindow := (f_hco 26 (by decide)).trans ((hf_l2 26 (by decide)).trans g_dWindow)
                    have k59_g_66 : g_66 59 = .int (nI Dl.length) := (f_hco 59 (by decide)).trans (k_sDatas_l2)
                    have k63_g_66 : g_66 63 = .int (nI A.length) := (f_hco 63 (by decide)).trans (k_sAddress_l2)
                    have k11_g_66 : g_66 11 = .int (nI nx) := (f_hco 11 (by decide)).trans (k_nextNear_l2)
                    have k20_g_66 : g_66 20 = .int (nI dr7) := (f_hco 20 (by decide)).trans (k_drafts_l2)
                    have fr_g_66 : frm [20, 59, 61, 63, 11] g g_66 := frm_tr hf_l2 f_hco (by decide)
                    refine lv_iload hx hb dX9_encode_197 (lv_at hl 1 rfl) ?_
                    refine lv_iconst (v := 1) hx hb dX9_encode_199 (by decide) ?_
                    refine lv_icmp_ne (tgt := 269) hx hb dX9_encode_200 (by decide) (fun c_68 => absurd (by decide) c_68) (fun c_68 => ?_)
                    refine lv_aload_n hx hb dX9_encode_203 rfl (lv_at hl 2 rfl) ?_
                    refine lv_iload_n hx hb dX9_encode_204 rfl (lv_at hl 0 rfl) ?_
                    refine lv_iconst (v := 0) hx hb dX9_encode_205 (by decide) ?_
                    refine ri (y := nI 0) nI_0.symm ?_
                    refine jn_i (wr := [(Mu, .inl (cB, 8000, .inl mu)), (MqAt, .inl (cI, 4100, .inl mqAt)), (MsData, .inl (cB, 8000, .inl da7)), (MsAddresses, .inl (cB, 30000, .inl ad7)), (MdKind, .inl (cI, 4000, .inl dKind7)), (MdSize, .inl (cI, 4000, .inl dSize7)), (MdAddress, .inl (cI, 4000, .inl dAddress7)), (MdMode, .inl (cI, 4000, .inl dMode7)), (MdCode, .inl (cI, 4000, .inl dCode7)), (MdWindow, .inl (cI, 4000, .inl dWindow7)), (Mnears, .inl (cJ, 8, .inr (.inl fn7))), (Msames, .inl (cJ, 1024, .inr (.inl fs7))), (MqKind, .inl (cI, 4100, .inl mqKind)), (MqSize, .inl (cI, 4100, .inl mqSize)), (MqAddress, .inl (cI, 4100, .inl mqAddress)), (MqMode, .inl (cI, 4100, .inl m7)), (MsCodes, .inl (cB, 30000, .inl co8))]) hA hP hD hS [17, 12] [0, 1, 2, 3, 4, 5, 6, 7, 8, 9, 10, 11, 13, 14, 15, 16, 18] rfl rfl (by decide) (by decide) (rn_V (As := [.int (nI c), .int (nI 0)]) (rest := []) ⟨hx, hb, hml, hown, hts⟩ (cvV 2 hts zc_yX9_sizeOf zi_X9 zm_yX9_sizeOf zv_yX9_sizeOf kX9_298 (by decide +kernel) rfl rfl ⟨Nat.le_of_ble_eq_true rfl, Nat.le_of_ble_eq_true rfl⟩) (m_sizeOf l D cI cB cJ cR mm g_66 Mtab mtab tt c 0 (k7_g_66) (ht) (hc6) (by decide) H.size) hK hNw hMk hA hP hD hS [17, 12] rfl rfl (by decide) 0 rfl rfl rfl rfl hl.1 rfl (Nat.le_of_ble_eq_true rfl) dX9_encode_206 ⟨Nat.le_of_ble_eq_true rfl, Nat.le_of_ble_eq_true rfl⟩) (fun r_71 u9 H locs w_69 hP hD hS => ?_)
                    try dsimp only at w_69
                    have hP : va_P D vwCl [(Mu, .inl (cB, 8000, .inl mu)), (MqAt, .inl (cI, 4100, .inl mqAt)), (MsData, .inl (cB, 8000, .inl da7)), (MsAddresses, .inl (cB, 30000, .inl ad7)), (MdKind, .inl (cI, 4000, .inl dKind7)), (MdSize, .inl (cI, 4000, .inl dSize7)), (MdAddress, .inl (cI, 4000, .inl dAddress7)), (MdMode, .inl (cI, 4000, .inl dMode7)), (MdCode, .inl (cI, 4000, .inl dCode7)), (MdWindow, .inl (cI, 4000, .inl dWindow7)), (Mnears, .inl (cJ, 8, .inr (.inl fn7))), (Msames, .inl (cJ, 1024, .inr (.inl fs7))), (MqKind, .inl (cI, 4100, .inl mqKind)), (MqSize, .inl (cI, 4100, .inl mqSize)), (MqAddress, .inl (cI, 4100, .inl mqAddress)), (MqMode, .inl (cI, 4100, .inl m7)), (MsCodes, .inl (cB, 30000, .inl co8)), (mm, .inr (9, fl 78 g_66)), (Mtab, .inl (cB, 1536, .inl mtab))] H := hP
                    have hD : va_D A0 [(Mu, .inl (cB, 8000, .inl mu)), (MqAt, .inl (cI, 4100, .inl mqAt)), (MsData, .inl (cB, 8000, .inl da7)), (MsAddresses, .inl (cB, 30000, .inl ad7)), (MdKind, .inl (cI, 4000, .inl dKind7)), (MdSize, .inl (cI, 4000, .inl dSize7)), (MdAddress, .inl (cI, 4000, .inl dAddress7)), (MdMode, .inl (cI, 4000, .inl dMode7)), (MdCode, .inl (cI, 4000, .inl dCode7)), (MdWindow, .inl (cI, 4000, .inl dWindow7)), (Mnears, .inl (cJ, 8, .inr (.inl fn7))), (Msames, .inl (cJ, 1024, .inr (.inl fs7))), (MqKind, .inl (cI, 4100, .inl mqKind)), (MqSize, .inl (cI, 4100, .inl mqSize)), (MqAddress, .inl (cI, 4100, .inl mqAddress)), (MqMode, .inl (cI, 4100, .inl m7)), (MsCodes, .inl (cB, 30000, .inl co8)), (mm, .inr (9, fl 78 g_66)), (Mtab, .inl (cB, 1536, .inl mtab))] := hD
                    subst w_69
                    have hsg9 : sg1 tt x = (true, nI c :: numL x.2.1, c) := by rw [sg1, if_neg (fun z => z hA1), if_pos hB1, hcn_, nI_clamp (by omega)]
                    refine lv_if_ne (tgt := 269) hx hb dX9_encode_209 (by decide) (fun c_72 => absurd (by rw [hsz0]; decide) c_72) (fun c_72 => ?_)
                    have hn5 := nsz_le x.2.1
                    have hn1 := nsz_pos x.2.1
                    refine lv_aload_n hx hb dX9_encode_212 rfl (lv_at hl 2 rfl) ?_
                    refine fx_get (D := D) (ci := 9) (v := .ref MqSize) (C := RX9) (T := TX9) (N := 78) hx hb hts in_X9 hown hK hP 17 rfl rfl 69 (by decide) (hts _ kX9_106) (fun _ h9 => h9) (k69_g_66) dX9_encode_213 ?_
                    refine lv_iload_n hx hb dX9_encode_216 rfl (lv_at hl 4 rfl) ?_
                    refine ax_ild hx hb hK hP 13 0 rfl rfl Qd.length (rfl) (by omega) (by omega) dX9_encode_217 ?_
                    refine ri (y := nI x.2.1) (hxm.2.1) ?_
                    refine lv_i2l hx hb dX9_encode_218 (v := (nI x.2.1).toInt64) rfl ?_
                    refine rl (y := lN x.2.1) (nI_l (by omega)) ?_
                    refine jn_i (wr := [(Mu, .inl (cB, 8000, .inl mu)), (MqAt, .inl (cI, 4100, .inl mqAt)), (MsData, .inl (cB, 8000, .inl da7)), (MsAddresses, .inl (cB, 30000, .inl ad7)), (MdKind, .inl (cI, 4000, .inl dKind7)), (MdSize, .inl (cI, 4000, .inl dSize7)), (MdAddress, .inl (cI, 4000, .inl dAddress7)), (MdMode, .inl (cI, 4000, .inl dMode7)), (MdCode, .inl (cI, 4000, .inl dCode7)), (MdWindow, .inl (cI, 4000, .inl dWindow7)), (Mnears, .inl (cJ, 8, .inr (.inl fn7))), (Msames, .inl (cJ, 1024, .inr (.inl fs7))), (MqKind, .inl (cI, 4100, .inl mqKind)), (MqSize, .inl (cI, 4100, .inl mqSize)), (MqAddress, .inl (cI, 4100, .inl mqAddress)), (MqMode, .inl (cI, 4100, .inl m7)), (MsCodes, .inl (cB, 30000, .inl co8)), (mm, .inr (9, fl 78 g_66)), (Mtab, .inl (cB, 1536, .inl mtab))]) hA hP hD hS [] [0, 1, 2, 3, 4, 5, 6, 7, 8, 9, 10, 11, 12, 13, 14, 15, 16, 17, 18] rfl rfl (by decide) (by decide) (rn_S (As := [.long (lN x.2.1)]) (rest := []) ⟨hx, hb, hml, hown, hts⟩ (cvS 1 hts zc_yX9_numberSize zi_X9 zs_yX9_numberSize kX9_349 (by decide +kernel) rfl rfl ⟨Nat.le_of_ble_eq_true rfl, Nat.le_of_ble_eq_true rfl⟩) (m_numberSize l D cI cB cJ cR x.2.1 (by omega) H.size) hK hNw hMk hA hP hD hS [] rfl rfl (by decide) rfl hl.1 rfl (Nat.le_of_ble_eq_true rfl) dX9_encode_219 ⟨Nat.le_of_ble_eq_true rfl, Nat.le_of_ble_eq_true rfl⟩) (fun r_73 u9 H locs w_74 hP hD hS => ?_)
                    try dsimp only at w_74
                    have hP : va_P D vwCl [(Mu, .inl (cB, 8000, .inl mu)), (MqAt, .inl (cI, 4100, .inl mqAt)), (MsData, .inl (cB, 8000, .inl da7)), (MsAddresses, .inl (cB, 30000, .inl ad7)), (MdKind, .inl (cI, 4000, .inl dKind7)), (MdSize, .inl (cI, 4000, .inl dSize7)), (MdAddress, .inl (cI, 4000, .inl dAddress7)), (MdMode, .inl (cI, 4000, .inl dMode7)), (MdCode, .inl (cI, 4000, .inl dCode7)), (MdWindow, .inl (cI, 4000, .inl dWindow7)), (Mnears, .inl (cJ, 8, .inr (.inl fn7))), (Msames, .inl (cJ, 1024, .inr (.inl fs7))), (MqKind, .inl (cI, 4100, .inl mqKind)), (MqSize, .inl (cI, 4100, .inl mqSize)), (MqAddress, .inl (cI, 4100, .inl mqAddress)), (MqMode, .inl (cI, 4100, .inl m7)), (MsCodes, .inl (cB, 30000, .inl co8)), (mm, .inr (9, fl 78 g_66)), (Mtab, .inl (cB, 1536, .inl mtab))] H := hP
                    have hD : va_D A0 [(Mu, .inl (cB, 8000, .inl mu)), (MqAt, .inl (cI, 4100, .inl mqAt)), (MsData, .inl (cB, 8000, .inl da7)), (MsAddresses, .inl (cB, 30000, .inl ad7)), (MdKind, .inl (cI, 4000, .inl dKind7)), (MdSize, .inl (cI, 4000, .inl dSize7)), (MdAddress, .inl (cI, 4000, .inl dAddress7)), (MdMode, .inl (cI, 4000, .inl dMode7)), (MdCode, .inl (cI, 4000, .inl dCode7)), (MdWindow, .inl (cI, 4000, .inl dWindow7)), (Mnears, .inl (cJ, 8, .inr (.inl fn7))), (Msames, .inl (cJ, 1024, .inr (.inl fs7))), (MqKind, .inl (cI, 4100, .inl mqKind)), (MqSize, .inl (cI, 4100, .inl mqSize)), (MqAddress, .inl (cI, 4100, .inl mqAddress)), (MqMode, .inl (cI, 4100, .inl m7)), (MsCodes, .inl (cB, 30000, .inl co8)), (mm, .inr (9, fl 78 g_66)), (Mtab, .inl (cB, 1536, .inl mtab))] := hD
                    subst w_74
                    refine lv_iconst (v := 1) hx hb dX9_encode_222 (by decide) ?_
                    refine lv_isub hx hb dX9_encode_223 ?_
                    refine lv_istore (lv' := [(5, .int ((nI (nsz x.2.1)) - 1)), (3, .int (nI c)), (4, .int 1), (0, .ref mm), (1, .int (nI wi)), (2, .int (nI Qd.length))]) hx hb dX9_encode_224 hl (by decide) rfl (fun ls hl => ?_)
                    have ln : ∀ (k9 : Nat) (g5_ln : Nat → Value) (k : Nat) (Lc : List Int32) (w7 : Nat → Int32) (H : Heap) (locs : List Loc) (ls : Array Slot), k < k9 → (frm [20, 59, 61, 63, 11] g g5_ln) → (g5_ln 59 = .int (nI Dl.length)) → (g5_ln 61 = .int (nI Lc.length)) → (g5_ln 63 = .int (nI A.length)) → (g5_ln 11 = .int (nI nx)) → (g5_ln 20 = .int (nI dr7)) → (k ≤ nsz x.2.1) → (Lc ++ numT x.2.1 k = Os ++ [nI c] ++ numL x.2.1) → (wL 30000 w7 Lc) → va_P D vwCl [(mm, .inr (9, fl 78 g5_ln)), (Mu, .inl (cB, 8000, .inl mu)), (MqAt, .inl (cI, 4100, .inl mqAt)), (MsData, .inl (cB, 8000, .inl da7)), (MsAddresses, .inl (cB, 30000, .inl ad7)), (MdKind, .inl (cI, 4000, .inl dKind7)), (MdSize, .inl (cI, 4000, .inl dSize7)), (MdAddress, .inl (cI, 4000, .inl dAddress7)), (MdMode, .inl (cI, 4000, .inl dMode7)), (MdCode, .inl (cI, 4000, .inl dCode7)), (MdWindow, .inl (cI, 4000, .inl dWindow7)), (Mnears, .inl (cJ, 8, .inr (.inl fn7))), (Msames, .inl (cJ, 1024, .inr (.inl fs7))), (MqKind, .inl (cI, 4100, .inl mqKind)), (MqSize, .inl (cI, 4100, .inl mqSize)), (MqAddress, .inl (cI, 4100, .inl mqAddress)), (MqMode, .inl (cI, 4100, .inl m7)), (MsCodes, .inl (cB, 30000, .inl w7)), (Mtab, .inl (cB, 1536, .inl mtab))] H → va_D A0 [(mm, .inr (9, fl 78 g5_ln)), (Mu, .inl (cB, 8000, .inl mu)), (MqAt, .inl (cI, 4100, .inl mqAt)), (MsData, .inl (cB, 8000, .inl da7)), (MsAddresses, .inl (cB, 30000, .inl ad7)), (MdKind, .inl (cI, 4000, .inl dKind7)), (MdSize, .inl (cI, 4000, .inl dSize7)), (MdAddress, .inl (cI, 4000, .inl dAddress7)), (MdMode, .inl (cI, 4000, .inl dMode7)), (MdCode, .inl (cI, 4000, .inl dCode7)), (MdWindow, .inl (cI, 4000, .inl dWindow7)), (Mnears, .inl (cJ, 8, .inr (.inl fn7))), (Msames, .inl (cJ, 1024, .inr (.inl fs7))), (MqKind, .inl (cI, 4100, .inl mqKind)), (MqSize, .inl (cI, 4100, .inl mqSize)), (MqAddress, .inl (cI, 4100, .inl mqAddress)), (MqMode, .inl (cI, 4100, .inl m7)), (MsCodes, .inl (cB, 30000, .inl w7)), (Mtab, .inl (cB, 1536, .inl mtab))] → va_S A0 s0.heap H locs → lv_has ls 6 [(0, .ref mm), (1, .int (nI wi)), (2, .int (nI Qd.length)), (3, .int (nI c)), (4, .int 1), (5, .int (nI k - 1))] → W p0 l e0 ({ frames := 3, cells := 0, slots := 0, locals := 74 }) s0 m0 ([.ref mm, .int (nI wi)] : List Value).toArray below meth c0 H locs 0 0 Q0 (F0 m0 226 ls []) := by
                      intro k9
                      induction k9 with
                      | zero => intro g5_ln k Lc w7 H locs ls hk9; exact absurd hk9 (Nat.not_lt_zero _)
                      | succ k9 ih3 =>
                        intro g5_ln k Lc w7 H locs ls hk9 hf_ln k_sDatas_ln k_sCode_ln k_sAddress_ln k_nextNear_ln k_drafts_ln hk5 hLc hw7 hP hD hS hl
                        refine lv_iload hx hb dX9_encode_226 (lv_at hl 5 rfl) ?_
                        refine lv_if_lt (tgt := 269) hx hb dX9_encode_228 (by decide) (fun c_75 => ?_) (fun c_75 => ?_)
                        · have hk0 : k = 0 := Decidable.byContradiction (fun z => by rw [show (1 : Int32) = nI 1 from rfl, pk_sub (by omega)] at c_75; exact nI_pos (by omega) c_75)
                          rw [hk0, numT, List.append_nil] at hLc
                          subst hLc
                          have hdone : (cdW tt Q1) = cdP (true, (Os ++ [nI c] ++ numL x.2.1), Cs ++ [c]) (cdW tt R1) := by rw [hcd, hone, hsg9, cdP_assoc]; unfold cdP; simp
                          refine lv_iconst (v := 0) hx hb dX9_encode_269 (by decide) ?_
                          refine ri (y := nI 0) (nI_0.symm) ?_
                          refine lv_istore (lv' := [(5, .int (nI 0)), (0, .ref mm), (1, .int (nI wi)), (2, .int (nI Qd.length)), (3, .int (nI c)), (4, .int 1)]) hx hb dX9_encode_270 hl (by decide) rfl (fun ls hl => ?_)
                          refine lv_iload hx hb dX9_encode_272 (lv_at hl 0 rfl) ?_
                          refine lv_iload hx hb dX9_encode_274 (lv_at hl 5 rfl) ?_
                          refine lv_icmp_ge (tgt := 334) hx hb dX9_encode_276 (by decide) (fun c_76 => absurd c_76 (by decide)) (fun c_76 => ?_)
                          refine lv_aload_n hx hb dX9_encode_279 rfl (lv_at hl 1 rfl) ?_
                          refine fx_get (D := D) (ci := 9) (v := .int (bI ct)) (C := RX9) (T := TX9) (N := 78) hx hb hts in_X9 hown hK hP 0 rfl rfl 39 (by decide) (hts _ kX9_224) (fun _ h9 => h9) ((hf_ln 39 (by decide)).trans g_counts) dX9_encode_280 ?_
                          refine bz_eq (tgt := 328) hx hb dX9_encode_283 (by decide) (fun c_77 => ?_) (fun c_77 => ?_)
                          · have hcf_a : ct = false := c_77
                            refine lv_iinc (v := nI (0 + 1)) (lv' := [(5, .int (nI (0 + 1))), (0, .ref mm), (1, .int (nI wi)), (2, .int (nI Qd.length)), (3, .int (nI c)), (4, .int 1)]) hx hb dX9_encode_328 hl (k := 0) rfl (nI_add 0 1) (by decide) rfl (fun ls hl => ?_)
                            refine lv_goto (tgt := 272) hx hb dX9_encode_331 (by decide) ?_
                            refine lv_iload hx hb dX9_encode_272 (lv_at hl 0 rfl) ?_
                            refine lv_iload hx hb dX9_encode_274 (lv_at hl 5 rfl) ?_
                            refine lv_icmp_ge (tgt := 334) hx hb dX9_encode_276 (by decide) (fun c_78 => ?_) (fun c_78 => absurd (by decide) c_78)
                            refine lv_iload_n hx hb dX9_encode_334 rfl (lv_at hl 3 rfl) ?_
                            refine lv_iload hx hb dX9_encode_335 (lv_at hl 5 rfl) ?_
                            refine lv_iadd hx hb dX9_encode_337 ?_
                            refine ri (y := nI (Qd.length + 1)) (nI_add Qd.length 1) ?_
                            refine lv_istore_n (lv' := [(2, .int (nI (Qd.length + 1))), (5, .int (nI (0 + 1))), (0, .ref mm), (1, .int (nI wi)), (3, .int (nI c)), (4, .int 1)]) hx hb dX9_encode_338 rfl hl (by decide) rfl (fun ls hl => ?_)
                            refine lv_goto (tgt := 152) hx hb dX9_encode_339 (by decide) ?_
                            rw [show Qd.length + 1 = (Qd ++ [x]).length by simp] at hl
                            exact ih g5_ln R1 (Qd ++ [x]) (Os ++ [nI c] ++ numL x.2.1) (Cs ++ [c]) dr7 w7 dKind7 dSize7 dAddress7 dMode7 dCode7 dWindow7 _ _ ls (by omega) (hf_ln) (k_sDatas_ln) (k_sCode_ln) (k_sAddress_ln) (k_nextNear_ln) (k_drafts_ln) (by rw [hQ]; simp) (by simp; exact hQd) (hdone) (by simp; have := nsz_le x.2.1; rw [numL_len]; omega) (hw7) (fun z => absurd (hcf_a.symm.trans z) (by decide)) (hdf) (hP.sub [0, 18, 1, 13, 14, 2, 15, 16, 3, 17, 4, 5, 6, 7, 8, 9, 10, 11, 12] rfl) (hD.sub [0, 18, 1, 13, 14, 2, 15, 16, 3, 17, 4, 5, 6, 7, 8, 9, 10, 11, 12] (by decide) rfl) hS (lv_sub hl [2, 3, 0] rfl)
                          · have hcf_a : ct = true := c_77
                            obtain ⟨la_a, lb_a⟩ := hdt hcf_a
                            refine lv_aload_n hx hb dX9_encode_286 rfl (lv_at hl 1 rfl) ?_
                            refine lv_aload_n hx hb dX9_encode_287 rfl (lv_at hl 1 rfl) ?_
                            refine fx_get (D := D) (ci := 9) (v := .ref MqKind) (C := RX9) (T := TX9) (N := 78) hx hb hts in_X9 hown hK hP 0 rfl rfl 68 (by decide) (hts _ kX9_103) (fun _ h9 => h9) ((hf_ln 68 (by decide)).trans g_qKind) dX9_encode_288 ?_
                            refine lv_iload_n hx hb dX9_encode_291 rfl (lv_at hl 3 rfl) ?_
                            refine lv_iload hx hb dX9_encode_292 (lv_at hl 0 rfl) ?_
                            refine lv_iadd hx hb dX9_encode_294 ?_
                            refine ri (y := nI (Qd.length + 0)) (nI_add Qd.length 0) ?_
                            refine ax_ild hx hb hK hP 13 0 rfl rfl Qd.length (rfl) (by omega) (by omega) dX9_encode_295 ?_
                            refine ri (y := nI x.1) (hxm.1) ?_
                            refine lv_aload_n hx hb dX9_encode_296 rfl (lv_at hl 1 rfl) ?_
                            refine fx_get (D := D) (ci := 9) (v := .ref MqSize) (C := RX9) (T := TX9) (N := 78) hx hb hts in_X9 hown hK hP 0 rfl rfl 69 (by decide) (hts _ kX9_106) (fun _ h9 => h9) ((hf_ln 69 (by decide)).trans g_qSize) dX9_encode_297 ?_
                            refine lv_iload_n hx hb dX9_encode_300 rfl (lv_at hl 3 rfl) ?_
                            refine lv_iload hx hb dX9_encode_301 (lv_at hl 0 rfl) ?_
                            refine lv_iadd hx hb dX9_encode_303 ?_
                            refine ri (y := nI (Qd.length + 0)) (nI_add Qd.length 0) ?_
                            refine ax_ild hx hb hK hP 14 0 rfl rfl Qd.length (rfl) (by omega) (by omega) dX9_encode_304 ?_
                            refine ri (y := nI x.2.1) (hxm.2.1) ?_
                            refine lv_aload_n hx hb dX9_encode_305 rfl (lv_at hl 1 rfl) ?_
                            refine fx_get (D := D) (ci := 9) (v := .ref MqAddress) (C := RX9) (T := TX9) (N := 78) hx hb hts in_X9 hown hK hP 0 rfl rfl 71 (by decide) (hts _ kX9_112) (fun _ h9 => h9) ((hf_ln 71 (by decide)).trans g_qAddress) dX9_encode_306 ?_
                            refine lv_iload_n hx hb dX9_encode_309 rfl (lv_at hl 3 rfl) ?_
                            refine lv_iload hx hb dX9_encode_310 (lv_at hl 0 rfl) ?_
                            refine lv_iadd hx hb dX9_encode_312 ?_
                            refine ri (y := nI (Qd.length + 0)) (nI_add Qd.length 0) ?_
                            refine ax_ild hx hb hK hP 15 0 rfl rfl Qd.length (rfl) (by omega) (by omega) dX9_encode_313 ?_
                            refine ri (y := nI x.2.2.1) (hxm.2.2.1) ?_
                            refine lv_aload_n hx hb dX9_encode_314 rfl (lv_at hl 1 rfl) ?_
                            refine fx_get (D := D) (ci := 9) (v := .ref MqMode) (C := RX9) (T := TX9) (N := 78) hx hb hts in_X9 hown hK hP 0 rfl rfl 72 (by decide) (hts _ kX9_115) (fun _ h9 => h9) ((hf_ln 72 (by decide)).trans g_qMode) dX9_encode_315 ?_
                            refine lv_iload_n hx hb dX9_encode_318 rfl (lv_at hl 3 rfl) ?_
                            refine lv_iload hx hb dX9_encode_319 (lv_at hl 0 rfl) ?_
                            refine lv_iadd hx hb dX9_encode_321 ?_
                            refine ri (y := nI (Qd.length + 0)) (nI_add Qd.length 0) ?_
                            refine ax_ild hx hb hK hP 16 0 rfl rfl Qd.length (rfl) (by omega) (by omega) dX9_encode_322 ?_
                            refine ri (y := nI x.2.2.2) (hxm.2.2.2) ?_
                            refine lv_iload_n hx hb dX9_encode_323 rfl (lv_at hl 4 rfl) ?_
                            refine lv_iload_n hx hb dX9_encode_324 rfl (lv_at hl 2 rfl) ?_
                            refine jn_v (wr := [(Mu, .inl (cB, 8000, .inl mu)), (MqAt, .inl (cI, 4100, .inl mqAt)), (MsData, .inl (cB, 8000, .inl da7)), (MsAddresses, .inl (cB, 30000, .inl ad7)), (Mnears, .inl (cJ, 8, .inr (.inl fn7))), (Msames, .inl (cJ, 1024, .inr (.inl fs7))), (MqKind, .inl (cI, 4100, .inl mqKind)), (MqSize, .inl (cI, 4100, .inl mqSize)), (MqAddress, .inl (cI, 4100, .inl mqAddress)), (MqMode, .inl (cI, 4100, .inl m7)), (MsCodes, .inl (cB, 30000, .inl w7)), (Mtab, .inl (cB, 1536, .inl mtab))]) hA hP hD hS [0, 5, 6, 7, 8, 9, 10] [1, 2, 3, 4, 11, 12, 13, 14, 15, 16, 17, 18] rfl rfl (by decide) (by decide) (rn_V (As := [.int (nI x.1), .int (nI x.2.1), .int (nI x.2.2.1), .int (nI x.2.2.2), .int (nI c), .int (nI wi)]) (rest := []) ⟨hx, hb, hml, hown, hts⟩ (cvV 6 hts zc_yX9_list zi_X9 zm_yX9_list zv_yX9_list kX9_320 (by decide +kernel) rfl rfl ⟨Nat.le_of_ble_eq_true rfl, Nat.le_of_ble_eq_true rfl⟩) (m_list l D cI cB cJ cR mm g5_ln MdKind MdSize MdAddress MdMode MdCode MdWindow dKind7 dSize7 dAddress7 dMode7 dCode7 dWindow7 dr7 (wrG gg cnt (rwQ wi Q1 Cs)) (nI x.1) (nI x.2.1) (nI x.2.2.1) (nI x.2.2.2) (nI c) (nI wi) (k_drafts_ln) ((hf_ln 21 (by decide)).trans g_dKind) ((hf_ln 22 (by decide)).trans g_dSize) ((hf_ln 23 (by decide)).trans g_dAddress) ((hf_ln 24 (by decide)).trans g_dMode) ((hf_ln 25 (by decide)).trans g_dCode) ((hf_ln 26 (by decide)).trans g_dWindow) (by omega) (lb_a) H.size) hK hNw hMk hA hP hD hS [0, 5, 6, 7, 8, 9, 10] rfl rfl (by decide) 0 rfl rfl rfl rfl hl.1 rfl (Nat.le_of_ble_eq_true rfl) dX9_encode_325 ⟨Nat.le_of_ble_eq_true rfl, Nat.le_of_ble_eq_true rfl⟩) (fun u9 H locs hls_a hP hD hS => ?_)
                            obtain ⟨g_79, dKind_a, dSize_a, dAddress_a, dMode_a, dCode_a, dWindow_a⟩ := u9
                            try dsimp only at hls_a
                            have hP : va_P D vwCl [(Mu, .inl (cB, 8000, .inl mu)), (MqAt, .inl (cI, 4100, .inl mqAt)), (MsData, .inl (cB, 8000, .inl da7)), (MsAddresses, .inl (cB, 30000, .inl ad7)), (Mnears, .inl (cJ, 8, .inr (.inl fn7))), (Msames, .inl (cJ, 1024, .inr (.inl fs7))), (MqKind, .inl (cI, 4100, .inl mqKind)), (MqSize, .inl (cI, 4100, .inl mqSize)), (MqAddress, .inl (cI, 4100, .inl mqAddress)), (MqMode, .inl (cI, 4100, .inl m7)), (MsCodes, .inl (cB, 30000, .inl w7)), (Mtab, .inl (cB, 1536, .inl mtab)), (mm, .inr (9, fl 78 g_79)), (MdKind, .inl (cI, 4000, .inl dKind_a)), (MdSize, .inl (cI, 4000, .inl dSize_a)), (MdAddress, .inl (cI, 4000, .inl dAddress_a)), (MdMode, .inl (cI, 4000, .inl dMode_a)), (MdCode, .inl (cI, 4000, .inl dCode_a)), (MdWindow, .inl (cI, 4000, .inl dWindow_a))] H := hP
                            have hD : va_D A0 [(Mu, .inl (cB, 8000, .inl mu)), (MqAt, .inl (cI, 4100, .inl mqAt)), (MsData, .inl (cB, 8000, .inl da7)), (MsAddresses, .inl (cB, 30000, .inl ad7)), (Mnears, .inl (cJ, 8, .inr (.inl fn7))), (Msames, .inl (cJ, 1024, .inr (.inl fs7))), (MqKind, .inl (cI, 4100, .inl mqKind)), (MqSize, .inl (cI, 4100, .inl mqSize)), (MqAddress, .inl (cI, 4100, .inl mqAddress)), (MqMode, .inl (cI, 4100, .inl m7)), (MsCodes, .inl (cB, 30000, .inl w7)), (Mtab, .inl (cB, 1536, .inl mtab)), (mm, .inr (9, fl 78 g_79)), (MdKind, .inl (cI, 4000, .inl dKind_a)), (MdSize, .inl (cI, 4000, .inl dSize_a)), (MdAddress, .inl (cI, 4000, .inl dAddress_a)), (MdMode, .inl (cI, 4000, .inl dMode_a)), (MdCode, .inl (cI, 4000, .inl dCode_a)), (MdWindow, .inl (cI, 4000, .inl dWindow_a))] := hD
                            obtain ⟨f_hls_a, drafts_hls_a, hls_a_⟩ := hls_a
                            have k8_g_79 : g_79 8 = .int (nI near) := (f_hls_a 8 (by decide)).trans ((hf_ln 8 (by decide)).trans g_near)
                            have k9_g_79 : g_79 9 = .int (nI same) := (f_hls_a 9 (by decide)).trans ((hf_ln 9 (by decide)).trans g_same)
                            have k67_g_79 : g_79 67 = .int (nI Q1.length) := (f_hls_a 67 (by decide)).trans ((hf_ln 67 (by decide)).trans g_waits)
                            have k39_g_79 : g_79 39 = .int (bI ct) := (f_hls_a 39 (by decide)).trans ((hf_ln 39 (by decide)).trans g_counts)
                            have k7_g_79 : g_79 7 = .ref Mtab := (f_hls_a 7 (by decide)).trans ((hf_ln 7 (by decide)).trans g_tab)
                            have k10_g_79 : g_79 10 = .ref Mnears := (f_hls_a 10 (by decide)).trans ((hf_ln 10 (by decide)).trans g_nears)
                            have k12_g_79 : g_79 12 = .ref Msames := (f_hls_a 12 (by decide)).trans ((hf_ln 12 (by decide)).trans g_sames)
                            have k64_g_79 : g_79 64 = .ref Mu := (f_hls_a 64 (by decide)).trans ((hf_ln 64 (by decide)).trans g_u)
                            have k68_g_79 : g_79 68 = .ref MqKind := (f_hls_a 68 (by decide)).trans ((hf_ln 68 (by decide)).trans g_qKind)
                            have k69_g_79 : g_79 69 = .ref MqSize := (f_hls_a 69 (by decide)).trans ((hf_ln 69 (by decide)).trans g_qSize)
                            have k70_g_79 : g_79 70 = .ref MqAt := (f_hls_a 70 (by decide)).trans ((hf_ln 70 (by decide)).trans g_qAt)
                            have k71_g_79 : g_79 71 = .ref MqAddress := (f_hls_a 71 (by decide)).trans ((hf_ln 71 (by decide)).trans g_qAddress)
                            have k72_g_79 : g_79 72 = .ref MqMode := (f_hls_a 72 (by decide)).trans ((hf_ln 72 (by decide)).trans g_qMode)
                            have k58_g_79 : g_79 58 = .ref MsData := (f_hls_a 58 (by decide)).trans ((hf_ln 58 (by decide)).trans g_sData)
                            have k60_g_79 : g_79 60 = .ref MsCodes := (f_hls_a 60 (by decide)).trans ((hf_ln 60 (by decide)).trans g_sCodes)
                            have k62_g_79 : g_79 62 = .ref MsAddresses := (f_hls_a 62 (by decide)).trans ((hf_ln 62 (by decide)).trans g_sAddresses)
                            have k21_g_79 : g_79 21 = .ref MdKind := (f_hls_a 21 (by decide)).trans ((hf_ln 21 (by decide)).trans g_dKind)
                            have k22_g_79 : g_79 22 = .ref MdSize := (f_hls_a 22 (by decide)).trans ((hf_ln 22 (by decide)).trans g_dSize)
                            have k23_g_79 : g_79 23 = .ref MdAddress := (f_hls_a 23 (by decide)).trans ((hf_ln 23 (by decide)).trans g_dAddress)
                            have k24_g_79 : g_79 24 = .ref MdMode := (f_hls_a 24 (by decide)).trans ((hf_ln 24 (by decide)).trans g_dMode)
                            have k25_g_79 : g_79 25 = .ref MdCode := (f_hls_a 25 (by decide)).trans ((hf_ln 25 (by decide)).trans g_dCode)
                            have k26_g_79 : g_79 26 = .ref MdWindow := (f_hls_a 26 (by decide)).trans ((hf_ln 26 (by decide)).trans g_dWindow)
                            have k59_g_79 : g_79 59 = .int (nI Dl.length) := (f_hls_a 59 (by decide)).trans (k_sDatas_ln)
                            have k61_g_79 : g_79 61 = .int (nI (Os ++ [nI c] ++ numL x.2.1).length) := (f_hls_a 61 (by decide)).trans (k_sCode_ln)
                            have k63_g_79 : g_79 63 = .int (nI A.length) := (f_hls_a 63 (by decide)).trans (k_sAddress_ln)
                            have k11_g_79 : g_79 11 = .int (nI nx) := (f_hls_a 11 (by decide)).trans (k_nextNear_ln)
                            have fr_g_79 : frm [20, 59, 61, 63, 11] g g_79 := frm_tr hf_ln f_hls_a (by decide)
                            have hG9 := wrG_code (g := gg) (f := cnt) (w := wi) (c := c) (Q := Q1) (Cs := Cs) (x := x) (by rw [← hQd]; exact hx9) (by omega)
                            rw [la_a] at hls_a_
                            have hls9 : dRel dKind_a dSize_a dAddress_a dMode_a dCode_a dWindow_a (wrG gg cnt (rwQ wi Q1 (Cs ++ [c]))) (cnt + Cs.length + 1) := by rw [← hG9]; exact hls_a_
                            refine lv_iinc (v := nI (0 + 1)) (lv' := [(5, .int (nI (0 + 1))), (0, .ref mm), (1, .int (nI wi)), (2, .int (nI Qd.length)), (3, .int (nI c)), (4, .int 1)]) hx hb dX9_encode_328 hl (k := 0) rfl (nI_add 0 1) (by decide) rfl (fun ls hl => ?_)
                            refine lv_goto (tgt := 272) hx hb dX9_encode_331 (by decide) ?_
                            refine lv_iload hx hb dX9_encode_272 (lv_at hl 0 rfl) ?_
                            refine lv_iload hx hb dX9_encode_274 (lv_at hl 5 rfl) ?_
                            refine lv_icmp_ge (tgt := 334) hx hb dX9_encode_276 (by decide) (fun c_81 => ?_) (fun c_81 => absurd (by decide) c_81)
                            refine lv_iload_n hx hb dX9_encode_334 rfl (lv_at hl 3 rfl) ?_
                            refine lv_iload hx hb dX9_encode_335 (lv_at hl 5 rfl) ?_
                            refine lv_iadd hx hb dX9_encode_337 ?_
                            refine ri (y := nI (Qd.length + 1)) (nI_add Qd.length 1) ?_
                            refine lv_istore_n (lv' := [(2, .int (nI (Qd.length + 1))), (5, .int (nI (0 + 1))), (0, .ref mm), (1, .int (nI wi)), (3, .int (nI c)), (4, .int 1)]) hx hb dX9_encode_338 rfl hl (by decide) rfl (fun ls hl => ?_)
                            refine lv_goto (tgt := 152) hx hb dX9_encode_339 (by decide) ?_
                            rw [show Qd.length + 1 = (Qd ++ [x]).length by simp] at hl
                            exact ih g_79 R1 (Qd ++ [x]) (Os ++ [nI c] ++ numL x.2.1) (Cs ++ [c]) (dr7 + 1) w7 dKind_a dSize_a dAddress_a dMode_a dCode_a dWindow_a _ _ ls (by omega) (fr_g_79) (k59_g_79) (k61_g_79) (k63_g_79) (k11_g_79) (drafts_hls_a) (by rw [hQ]; simp) (by simp; exact hQd) (hdone) (by simp; have := nsz_le x.2.1; rw [numL_len]; omega) (hw7) (fun z => ⟨by rw [List.length_append]; show _ = cnt + (Cs.length + 1); omega, by rw [show dr7 + 1 = cnt + Cs.length + 1 by omega]; exact hls9⟩) (fun z => absurd (hcf_a.symm.trans z) (by decide)) (hP.sub [12, 11, 0, 6, 7, 1, 8, 9, 2, 10, 3, 13, 14, 15, 16, 17, 18, 4, 5] rfl) (hD.sub [12, 11, 0, 6, 7, 1, 8, 9, 2, 10, 3, 13, 14, 15, 16, 17, 18, 4, 5] (by decide) rfl) hS (lv_sub hl [2, 3, 0] rfl)
                        · obtain ⟨j, hkj⟩ : ∃ j, k = j + 1 := ⟨k - 1, by have : ¬ k = 0 := fun z => c_75 (by rw [z]; decide); omega⟩
                          subst hkj
                          rw [show nI (j + 1) - 1 = nI j from pk_sub (a := j + 1) (b := 1) (by omega)] at hl
                          have hlc : Lc.length < 29000 := by have := congrArg List.length hLc; rw [List.length_append, List.length_append, numL_len] at this; simp at this; omega
                          have hqd := Nat.div_le_self x.2.1 (128 ^ j)
                          refine lv_aload_n hx hb dX9_encode_231 rfl (lv_at hl 0 rfl) ?_
                          refine lv_aload_n hx hb dX9_encode_232 rfl (lv_at hl 0 rfl) ?_
                          refine fx_get (D := D) (ci := 9) (v := .ref MqSize) (C := RX9) (T := TX9) (N := 78) hx hb hts in_X9 hown hK hP 0 rfl rfl 69 (by decide) (hts _ kX9_106) (fun _ h9 => h9) ((hf_ln 69 (by decide)).trans g_qSize) dX9_encode_233 ?_
                          refine lv_iload_n hx hb dX9_encode_236 rfl (lv_at hl 2 rfl) ?_
                          refine ax_ild hx hb hK hP 14 0 rfl rfl Qd.length (rfl) (by omega) (by omega) dX9_encode_237 ?_
                          refine ri (y := nI x.2.1) (hxm.2.1) ?_
                          refine lv_bipush (v := 7) hx hb dX9_encode_238 (by decide) ?_
                          refine lv_iload hx hb dX9_encode_240 (lv_at hl 5 rfl) ?_
                          refine lv_imul hx hb dX9_encode_242 ?_
                          refine lv_ishr hx hb dX9_encode_243 ?_
                          refine ri (y := nI (x.2.1 / 128 ^ j)) (ish7 (by omega) (by omega)) ?_
                          refine lv_bipush (v := 127) hx hb dX9_encode_244 (by decide) ?_
                          refine lv_iand hx hb dX9_encode_246 ?_
                          refine ri (y := nI (x.2.1 / 128 ^ j % 128)) (pk_andN (by omega) 7 (by decide)) ?_
                          refine lv_iload hx hb dX9_encode_247 (lv_at hl 5 rfl) ?_
                          refine lv_if_le (tgt := 258) hx hb dX9_encode_249 (by decide) (fun c_82 => ?_) (fun c_82 => ?_)
                          · have hj0 : j = 0 := Decidable.byContradiction (fun z => nI_nle (Nat.pos_of_ne_zero z) (by omega) c_82)
                            refine lv_iconst (v := 0) hx hb dX9_encode_258 (by decide) ?_
                            refine lv_ior hx hb dX9_encode_259 ?_
                            refine ri (y := nI (numOct x.2.1 j)) (by rw [num_o0, numOct, if_neg (by omega), Nat.add_zero]) ?_
                            refine jn_v (wr := [(Mu, .inl (cB, 8000, .inl mu)), (MqAt, .inl (cI, 4100, .inl mqAt)), (MsData, .inl (cB, 8000, .inl da7)), (MsAddresses, .inl (cB, 30000, .inl ad7)), (MdKind, .inl (cI, 4000, .inl dKind7)), (MdSize, .inl (cI, 4000, .inl dSize7)), (MdAddress, .inl (cI, 4000, .inl dAddress7)), (MdMode, .inl (cI, 4000, .inl dMode7)), (MdCode, .inl (cI, 4000, .inl dCode7)), (MdWindow, .inl (cI, 4000, .inl dWindow7)), (Mnears, .inl (cJ, 8, .inr (.inl fn7))), (Msames, .inl (cJ, 1024, .inr (.inl fs7))), (MqKind, .inl (cI, 4100, .inl mqKind)), (MqSize, .inl (cI, 4100, .inl mqSize)), (MqAddress, .inl (cI, 4100, .inl mqAddress)), (MqMode, .inl (cI, 4100, .inl m7)), (Mtab, .inl (cB, 1536, .inl mtab))]) hA hP hD hS [0, 17] [1, 2, 3, 4, 5, 6, 7, 8, 9, 10, 11, 12, 13, 14, 15, 16, 18] rfl rfl (by decide) (by decide) (rn_V (As := [.int (nI (numOct x.2.1 j))]) (rest := []) ⟨hx, hb, hml, hown, hts⟩ (cvV 1 hts zc_yX9_codeOctet zi_X9 zm_yX9_codeOctet zv_yX9_codeOctet kX9_397 (by decide +kernel) rfl rfl ⟨Nat.le_of_ble_eq_true rfl, Nat.le_of_ble_eq_true rfl⟩) (m_codeOctet l D cI cB cJ cR mm g5_ln MsCodes w7 Lc (nI (numOct x.2.1 j)) (k_sCode_ln) ((hf_ln 60 (by decide)).trans g_sCodes) (by omega) (hw7) H.size) hK hNw hMk hA hP hD hS [0, 17] rfl rfl (by decide) 0 rfl rfl rfl rfl hl.1 rfl (Nat.le_of_ble_eq_true rfl) dX9_encode_260 ⟨Nat.le_of_ble_eq_true rfl, Nat.le_of_ble_eq_true rfl⟩) (fun u9 H locs hcx hP hD hS => ?_)
                            obtain ⟨g_83, w8⟩ := u9
                            try dsimp only at hcx
                            have hP : va_P D vwCl [(Mu, .inl (cB, 8000, .inl mu)), (MqAt, .inl (cI, 4100, .inl mqAt)), (MsData, .inl (cB, 8000, .inl da7)), (MsAddresses, .inl (cB, 30000, .inl ad7)), (MdKind, .inl (cI, 4000, .inl dKind7)), (MdSize, .inl (cI, 4000, .inl dSize7)), (MdAddress, .inl (cI, 4000, .inl dAddress7)), (MdMode, .inl (cI, 4000, .inl dMode7)), (MdCode, .inl (cI, 4000, .inl dCode7)), (MdWindow, .inl (cI, 4000, .inl dWindow7)), (Mnears, .inl (cJ, 8, .inr (.inl fn7))), (Msames, .inl (cJ, 1024, .inr (.inl fs7))), (MqKind, .inl (cI, 4100, .inl mqKind)), (MqSize, .inl (cI, 4100, .inl mqSize)), (MqAddress, .inl (cI, 4100, .inl mqAddress)), (MqMode, .inl (cI, 4100, .inl m7)), (Mtab, .inl (cB, 1536, .inl mtab)), (mm, .inr (9, fl 78 g_83)), (MsCodes, .inl (cB, 30000, .inl w8))] H := hP
                            have hD : va_D A0 [(Mu, .inl (cB, 8000, .inl mu)), (MqAt, .inl (cI, 4100, .inl mqAt)), (MsData, .inl (cB, 8000, .inl da7)), (MsAddresses, .inl (cB, 30000, .inl ad7)), (MdKind, .inl (cI, 4000, .inl dKind7)), (MdSize, .inl (cI, 4000, .inl dSize7)), (MdAddress, .inl (cI, 4000, .inl dAddress7)), (MdMode, .inl (cI, 4000, .inl dMode7)), (MdCode, .inl (cI, 4000, .inl dCode7)), (MdWindow, .inl (cI, 4000, .inl dWindow7)), (Mnears, .inl (cJ, 8, .inr (.inl fn7))), (Msames, .inl (cJ, 1024, .inr (.inl fs7))), (MqKind, .inl (cI, 4100, .inl mqKind)), (MqSize, .inl (cI, 4100, .inl mqSize)), (MqAddress, .inl (cI, 4100, .inl mqAddress)), (MqMode, .inl (cI, 4100, .inl m7)), (Mtab, .inl (cB, 1536, .inl mtab)), (mm, .inr (9, fl 78 g_83)), (MsCodes, .inl (cB, 30000, .inl w8))] := hD
                            obtain ⟨f_hcx, sCode_hcx, hcx_⟩ := hcx
                            have k8_g_83 : g_83 8 = .int (nI near) := (f_hcx 8 (by decide)).trans ((hf_ln 8 (by decide)).trans g_near)
                            have k9_g_83 : g_83 9 = .int (nI same) := (f_hcx 9 (by decide)).trans ((hf_ln 9 (by decide)).trans g_same)
                            have k67_g_83 : g_83 67 = .int (nI Q1.length) := (f_hcx 67 (by decide)).trans ((hf_ln 67 (by decide)).trans g_waits)
                            have k39_g_83 : g_83 39 = .int (bI ct) := (f_hcx 39 (by decide)).trans ((hf_ln 39 (by decide)).trans g_counts)
                            have k7_g_83 : g_83 7 = .ref Mtab := (f_hcx 7 (by decide)).trans ((hf_ln 7 (by decide)).trans g_tab)
                            have k10_g_83 : g_83 10 = .ref Mnears := (f_hcx 10 (by decide)).trans ((hf_ln 10 (by decide)).trans g_nears)
                            have k12_g_83 : g_83 12 = .ref Msames := (f_hcx 12 (by decide)).trans ((hf_ln 12 (by decide)).trans g_sames)
                            have k64_g_83 : g_83 64 = .ref Mu := (f_hcx 64 (by decide)).trans ((hf_ln 64 (by decide)).trans g_u)
                            have k68_g_83 : g_83 68 = .ref MqKind := (f_hcx 68 (by decide)).trans ((hf_ln 68 (by decide)).trans g_qKind)
                            have k69_g_83 : g_83 69 = .ref MqSize := (f_hcx 69 (by decide)).trans ((hf_ln 69 (by decide)).trans g_qSize)
                            have k70_g_83 : g_83 70 = .ref MqAt := (f_hcx 70 (by decide)).trans ((hf_ln 70 (by decide)).trans g_qAt)
                            have k71_g_83 : g_83 71 = .ref MqAddress := (f_hcx 71 (by decide)).trans ((hf_ln 71 (by decide)).trans g_qAddress)
                            have k72_g_83 : g_83 72 = .ref MqMode := (f_hcx 72 (by decide)).trans ((hf_ln 72 (by decide)).trans g_qMode)
                            have k58_g_83 : g_83 58 = .ref MsData := (f_hcx 58 (by decide)).trans ((hf_ln 58 (by decide)).trans g_sData)
                            have k60_g_83 : g_83 60 = .ref MsCodes := (f_hcx 60 (by decide)).trans ((hf_ln 60 (by decide)).trans g_sCodes)
                            have k62_g_83 : g_83 62 = .ref MsAddresses := (f_hcx 62 (by decide)).trans ((hf_ln 62 (by decide)).trans g_sAddresses)
                            have k21_g_83 : g_83 21 = .ref MdKind := (f_hcx 21 (by decide)).trans ((hf_ln 21 (by decide)).trans g_dKind)
                            have k22_g_83 : g_83 22 = .ref MdSize := (f_hcx 22 (by decide)).trans ((hf_ln 22 (by decide)).trans g_dSize)
                            have k23_g_83 : g_83 23 = .ref MdAddress := (f_hcx 23 (by decide)).trans ((hf_ln 23 (by decide)).trans g_dAddress)
                            have k24_g_83 : g_83 24 = .ref MdMode := (f_hcx 24 (by decide)).trans ((hf_ln 24 (by decide)).trans g_dMode)
                            have k25_g_83 : g_83 25 = .ref MdCode := (f_hcx 25 (by decide)).trans ((hf_ln 25 (by decide)).trans g_dCode)
                            have k26_g_83 : g_83 26 = .ref MdWindow := (f_hcx 26 (by decide)).trans ((hf_ln 26 (by decide)).trans g_dWindow)
                            have k59_g_83 : g_83 59 = .int (nI Dl.length) := (f_hcx 59 (by decide)).trans (k_sDatas_ln)
                            have k63_g_83 : g_83 63 = .int (nI A.length) := (f_hcx 63 (by decide)).trans (k_sAddress_ln)
                            have k11_g_83 : g_83 11 = .int (nI nx) := (f_hcx 11 (by decide)).trans (k_nextNear_ln)
                            have k20_g_83 : g_83 20 = .int (nI dr7) := (f_hcx 20 (by decide)).trans (k_drafts_ln)
                            have fr_g_83 : frm [20, 59, 61, 63, 11] g g_83 := frm_tr hf_ln f_hcx (by decide)
                            refine lv_iinc (v := (nI j) + (-1)) (lv' := [(5, .int ((nI j) + (-1))), (0, .ref mm), (1, .int (nI wi)), (2, .int (nI Qd.length)), (3, .int (nI c)), (4, .int 1)]) hx hb dX9_encode_263 hl (k := 5) rfl (rfl) (by decide) rfl (fun ls hl => ?_)
                            refine lv_goto (tgt := 226) hx hb dX9_encode_266 (by decide) ?_
                            rw [show nI j + (-1) = nI j - 1 from (Int32.sub_eq_add_neg ..).symm] at hl
                            exact ih3 g_83 j (Lc ++ [nI (numOct x.2.1 j)]) w8 _ _ ls (by omega) (fr_g_83) (k59_g_83) (sCode_hcx) (k63_g_83) (k11_g_83) (k20_g_83) (by omega) (by rw [← hLc, numT, List.append_assoc]; rfl) (hcx_) (hP.sub [17, 0, 1, 2, 3, 4, 5, 6, 7, 8, 9, 10, 11, 12, 13, 14, 15, 18, 16] rfl) (hD.sub [17, 0, 1, 2, 3, 4, 5, 6, 7, 8, 9, 10, 11, 12, 13, 14, 15, 18, 16] (by decide) rfl) hS (lv_sub hl [1, 2, 3, 4, 5, 0] rfl)
                          · have hj0 : 0 < j := Nat.pos_of_ne_zero (fun z => c_82 (by rw [z]; decide))
                            refine lv_sipush (v := 128) hx hb dX9_encode_252 (by decide) ?_
                            refine lv_goto (tgt := 259) hx hb dX9_encode_255 (by decide) ?_
                            refine lv_ior hx hb dX9_encode_259 ?_
                            refine ri (y := nI (numOct x.2.1 j)) (by rw [num_o1 (Nat.mod_lt _ (by decide)), numOct, if_pos hj0]) ?_
                            refine jn_v (wr := [(Mu, .inl (cB, 8000, .inl mu)), (MqAt, .inl (cI, 4100, .inl mqAt)), (MsData, .inl (cB, 8000, .inl da7)), (MsAddresses, .inl (cB, 30000, .inl ad7)), (MdKind, .inl (cI, 4000, .inl dKind7)), (MdSize, .inl (cI, 4000, .inl dSize7)), (MdAddress, .inl (cI, 4000, .inl dAddress7)), (MdMode, .inl (cI, 4000, .inl dMode7)), (MdCode, .inl (cI, 4000, .inl dCode7)), (MdWindow, .inl (cI, 4000, .inl dWindow7)), (Mnears, .inl (cJ, 8, .inr (.inl fn7))), (Msames, .inl (cJ, 1024, .inr (.inl fs7))), (MqKind, .inl (cI, 4100, .inl mqKind)), (MqSize, .inl (cI, 4100, .inl mqSize)), (MqAddress, .inl (cI, 4100, .inl mqAddress)), (MqMode, .inl (cI, 4100, .inl m7)), (Mtab, .inl (cB, 1536, .inl mtab))]) hA hP hD hS [0, 17] [1, 2, 3, 4, 5, 6, 7, 8, 9, 10, 11, 12, 13, 14, 15, 16, 18] rfl rfl (by decide) (by decide) (rn_V (As := [.int (nI (numOct x.2.1 j))]) (rest := []) ⟨hx, hb, hml, hown, hts⟩ (cvV 1 hts zc_yX9_codeOctet zi_X9 zm_yX9_codeOctet zv_yX9_codeOctet kX9_397 (by decide +kernel) rfl rfl ⟨Nat.le_of_ble_eq_true rfl, Nat.le_of_ble_eq_true rfl⟩) (m_codeOctet l D cI cB cJ cR mm g5_ln MsCodes w7 Lc (nI (numOct x.2.1 j)) (k_sCode_ln) ((hf_ln 60 (by decide)).trans g_sCodes) (by omega) (hw7) H.size) hK hNw hMk hA hP hD hS [0, 17] rfl rfl (by decide) 0 rfl rfl rfl rfl hl.1 rfl (Nat.le_of_ble_eq_true rfl) dX9_encode_260 ⟨Nat.le_of_ble_eq_true rfl, Nat.le_of_ble_eq_true rfl⟩) (fun u9 H locs hcx hP hD hS => ?_)
                            obtain ⟨g_85, w8⟩ := u9
                            try dsimp only at hcx
                            have hP : va_P D vwCl [(Mu, .inl (cB, 8000, .inl mu)), (MqAt, .inl (cI, 4100, .inl mqAt)), (MsData, .inl (cB, 8000, .inl da7)), (MsAddresses, .inl (cB, 30000, .inl ad7)), (MdKind, .inl (cI, 4000, .inl dKind7)), (MdSize, .inl (cI, 4000, .inl dSize7)), (MdAddress, .inl (cI, 4000, .inl dAddress7)), (MdMode, .inl (cI, 4000, .inl dMode7)), (MdCode, .inl (cI, 4000, .inl dCode7)), (MdWindow, .inl (cI, 4000, .inl dWindow7)), (Mnears, .inl (cJ, 8, .inr (.inl fn7))), (Msames, .inl (cJ, 1024, .inr (.inl fs7))), (MqKind, .inl (cI, 4100, .inl mqKind)), (MqSize, .inl (cI, 4100, .inl mqSize)), (MqAddress, .inl (cI, 4100, .inl mqAddress)), (MqMode, .inl (cI, 4100, .inl m7)), (Mtab, .inl (cB, 1536, .inl mtab)), (mm, .inr (9, fl 78 g_85)), (MsCodes, .inl (cB, 30000, .inl w8))] H := hP
                            have hD : va_D A0 [(Mu, .inl (cB, 8000, .inl mu)), (MqAt, .inl (cI, 4100, .inl mqAt)), (MsData, .inl (cB, 8000, .inl da7)), (MsAddresses, .inl (cB, 30000, .inl ad7)), (MdKind, .inl (cI, 4000, .inl dKind7)), (MdSize, .inl (cI, 4000, .inl dSize7)), (MdAddress, .inl (cI, 4000, .inl dAddress7)), (MdMode, .inl (cI, 4000, .inl dMode7)), (MdCode, .inl (cI, 4000, .inl dCode7)), (MdWindow, .inl (cI, 4000, .inl dWindow7)), (Mnears, .inl (cJ, 8, .inr (.inl fn7))), (Msames, .inl (cJ, 1024, .inr (.inl fs7))), (MqKind, .inl (cI, 4100, .inl mqKind)), (MqSize, .inl (cI, 4100, .inl mqSize)), (MqAddress, .inl (cI, 4100, .inl mqAddress)), (MqMode, .inl (cI, 4100, .inl m7)), (Mtab, .inl (cB, 1536, .inl mtab)), (mm, .inr (9, fl 78 g_85)), (MsCodes, .inl (cB, 30000, .inl w8))] := hD
                            obtain ⟨f_hcx, sCode_hcx, hcx_⟩ := hcx
                            have k8_g_85 : g_85 8 = .int (nI near) := (f_hcx 8 (by decide)).trans ((hf_ln 8 (by decide)).trans g_near)
                            have k9_g_85 : g_85 9 = .int (nI same) := (f_hcx 9 (by decide)).trans ((hf_ln 9 (by decide)).trans g_same)
                            have k67_g_85 : g_85 67 = .int (nI Q1.length) := (f_hcx 67 (by decide)).trans ((hf_ln 67 (by decide)).trans g_waits)
                            have k39_g_85 : g_85 39 = .int (bI ct) := (f_hcx 39 (by decide)).trans ((hf_ln 39 (by decide)).trans g_counts)
                            have k7_g_85 : g_85 7 = .ref Mtab := (f_hcx 7 (by decide)).trans ((hf_ln 7 (by decide)).trans g_tab)
                            have k10_g_85 : g_85 10 = .ref Mnears := (f_hcx 10 (by decide)).trans ((hf_ln 10 (by decide)).trans g_nears)
                            have k12_g_85 : g_85 12 = .ref Msames := (f_hcx 12 (by decide)).trans ((hf_ln 12 (by decide)).trans g_sames)
                            have k64_g_85 : g_85 64 = .ref Mu := (f_hcx 64 (by decide)).trans ((hf_ln 64 (by decide)).trans g_u)
                            have k68_g_85 : g_85 68 = .ref MqKind := (f_hcx 68 (by decide)).trans ((hf_ln 68 (by decide)).trans g_qKind)
                            have k69_g_85 : g_85 69 = .ref MqSize := (f_hcx 69 (by decide)).trans ((hf_ln 69 (by decide)).trans g_qSize)
                            have k70_g_85 : g_85 70 = .ref MqAt := (f_hcx 70 (by decide)).trans ((hf_ln 70 (by decide)).trans g_qAt)
                            have k71_g_85 : g_85 71 = .ref MqAddress := (f_hcx 71 (by decide)).trans ((hf_ln 71 (by decide)).trans g_qAddress)
                            have k72_g_85 : g_85 72 = .ref MqMode := (f_hcx 72 (by decide)).trans ((hf_ln 72 (by decide)).trans g_qMode)
                            have k58_g_85 : g_85 58 = .ref MsData := (f_hcx 58 (by decide)).trans ((hf_ln 58 (by decide)).trans g_sData)
                            have k60_g_85 : g_85 60 = .ref MsCodes := (f_hcx 60 (by decide)).trans ((hf_ln 60 (by decide)).trans g_sCodes)
                            have k62_g_85 : g_85 62 = .ref MsAddresses := (f_hcx 62 (by decide)).trans ((hf_ln 62 (by decide)).trans g_sAddresses)
                            have k21_g_85 : g_85 21 = .ref MdKind := (f_hcx 21 (by decide)).trans ((hf_ln 21 (by decide)).trans g_dKind)
                            have k22_g_85 : g_85 22 = .ref MdSize := (f_hcx 22 (by decide)).trans ((hf_ln 22 (by decide)).trans g_dSize)
                            have k23_g_85 : g_85 23 = .ref MdAddress := (f_hcx 23 (by decide)).trans ((hf_ln 23 (by decide)).trans g_dAddress)
                            have k24_g_85 : g_85 24 = .ref MdMode := (f_hcx 24 (by decide)).trans ((hf_ln 24 (by decide)).trans g_dMode)
                            have k25_g_85 : g_85 25 = .ref MdCode := (f_hcx 25 (by decide)).trans ((hf_ln 25 (by decide)).trans g_dCode)
                            have k26_g_85 : g_85 26 = .ref MdWindow := (f_hcx 26 (by decide)).trans ((hf_ln 26 (by decide)).trans g_dWindow)
                            have k59_g_85 : g_85 59 = .int (nI Dl.length) := (f_hcx 59 (by decide)).trans (k_sDatas_ln)
                            have k63_g_85 : g_85 63 = .int (nI A.length) := (f_hcx 63 (by decide)).trans (k_sAddress_ln)
                            have k11_g_85 : g_85 11 = .int (nI nx) := (f_hcx 11 (by decide)).trans (k_nextNear_ln)
                            have k20_g_85 : g_85 20 = .int (nI dr7) := (f_hcx 20 (by decide)).trans (k_drafts_ln)
                            have fr_g_85 : frm [20, 59, 61, 63, 11] g g_85 := frm_tr hf_ln f_hcx (by decide)
                            refine lv_iinc (v := (nI j) + (-1)) (lv' := [(5, .int ((nI j) + (-1))), (0, .ref mm), (1, .int (nI wi)), (2, .int (nI Qd.length)), (3, .int (nI c)), (4, .int 1)]) hx hb dX9_encode_263 hl (k := 5) rfl (rfl) (by decide) rfl (fun ls hl => ?_)
                            refine lv_goto (tgt := 226) hx hb dX9_encode_266 (by decide) ?_
                            rw [show nI j + (-1) = nI j - 1 from (Int32.sub_eq_add_neg ..).symm] at hl
                            exact ih3 g_85 j (Lc ++ [nI (numOct x.2.1 j)]) w8 _ _ ls (by omega) (fr_g_85) (k59_g_85) (sCode_hcx) (k63_g_85) (k11_g_85) (k20_g_85) (by omega) (by rw [← hLc, numT, List.append_assoc]; rfl) (hcx_) (hP.sub [17, 0, 1, 2, 3, 4, 5, 6, 7, 8, 9, 10, 11, 12, 13, 14, 15, 18, 16] rfl) (hD.sub [17, 0, 1, 2, 3, 4, 5, 6, 7, 8, 9, 10, 11, 12, 13, 14, 15, 18, 16] (by decide) rfl) hS (lv_sub hl [1, 2, 3, 4, 5, 0] rfl)
                    exact ln _ g_66 (nsz x.2.1) (Os ++ [nI c]) co8 _ _ ls (Nat.lt_succ_self _) (fr_g_66) (k59_g_66) (sCode_hco) (k63_g_66) (k11_g_66) (k20_g_66) (Nat.le_refl _) (rfl) (hco_) (hP.sub [17, 0, 1, 2, 3, 4, 5, 6, 7, 8, 9, 10, 11, 12, 13, 14, 15, 16, 18] rfl) (hD.sub [17, 0, 1, 2, 3, 4, 5, 6, 7, 8, 9, 10, 11, 12, 13, 14, 15, 16, 18] (by decide) rfl) hS (lv_sub hl [3, 4, 5, 1, 2, 0] rfl)
                · obtain ⟨c, hcn_, hc6, hfit⟩ : ∃ c, (fstC (sngP tt x.1 x.2.1 x.2.2.2) 256 0) = nI c ∧ c < 256 ∧ sngP tt x.1 x.2.1 x.2.2.2 c = true := by obtain ⟨c, q1, q2, q3, q4, -⟩ := fst_pos 256 0 hA1; exact ⟨c, q1, by omega, q4⟩
                  have hrc : rc_ = nI c := by rw [← hcn_]; exact cf3.1 hA1
                  subst hrc
                  have hcc : (fstC (sngP tt x.1 x.2.1 x.2.2.2) 256 0).toNatClampNeg = c := by rw [hcn_]; exact nI_clamp (by omega)
                  have hsz0 : tt (512 + 0 * 256 + c) = x.2.1 := by unfold sngP at hfit; rw [Bool.and_eq_true] at hfit; exact (of_decide_eq_true hfit.2).2.1
                  refine lv_istore_n (lv' := [(3, .int (nI c)), (0, .ref mm), (1, .int (nI wi)), (2, .int (nI Qd.length))]) hx hb dX9_encode_165 rfl hl (by decide) rfl (fun ls hl => ?_)
                  refine lv_iload_n hx hb dX9_encode_166 rfl (lv_at hl 0 rfl) ?_
                  refine lv_if_ge (tgt := 172) hx hb dX9_encode_167 (by decide) (fun c_87 => ?_) (fun c_87 => absurd (nI_pos' (by omega)) c_87)
                  refine lv_iload_n hx hb dX9_encode_172 rfl (lv_at hl 0 rfl) ?_
                  refine lv_sipush (v := 1000) hx hb dX9_encode_173 (by decide) ?_
                  refine lv_icmp_lt (tgt := 183) hx hb dX9_encode_176 (by decide) (fun c_88 => ?_) (fun c_88 => absurd (nI_lt (b := 1000) (by omega) (by decide)) c_88)
                  refine lv_iconst (v := 1) hx hb dX9_encode_183 (by decide) ?_
                  refine lv_istore (lv' := [(4, .int 1), (3, .int (nI c)), (0, .ref mm), (1, .int (nI wi)), (2, .int (nI Qd.length))]) hx hb dX9_encode_184 hl (by decide) rfl (fun ls hl => ?_)
                  refine lv_iload_n hx hb dX9_encode_186 rfl (lv_at hl 1 rfl) ?_
                  refine lv_sipush (v := 1000) hx hb dX9_encode_187 (by decide) ?_
                  refine lv_irem hx hb dX9_encode_190 (by decide) ?_
                  refine ri (y := nI c) ((pk_rem (d := 1000) (by omega) (by decide) (by decide)).trans (by rw [Nat.mod_eq_of_lt (by omega)])) ?_
                  refine lv_istore_n (lv' := [(3, .int (nI c)), (4, .int 1), (0, .ref mm), (1, .int (nI wi)), (2, .int (nI Qd.length))]) hx hb dX9_encode_191 rfl hl (by decide) rfl (fun ls hl => ?_)
                  refine lv_aload_n hx hb dX9_encode_192 rfl (lv_at hl 2 rfl) ?_
                  refine lv_iload_n hx hb dX9_encode_193 rfl (lv_at hl 0 rfl) ?_
                  refine jn_v (wr := [(Mu, .inl (cB, 8000, .inl mu)), (MqAt, .inl (cI, 4100, .inl mqAt)), (MsData, .inl (cB, 8000, .inl da7)), (MsAddresses, .inl (cB, 30000, .inl ad7)), (MdKind, .inl (cI, 4000, .inl dKind7)), (MdSize, .inl (cI, 4000, .inl dSize7)), (MdAddress, .inl (cI, 4000, .inl dAddress7)), (MdMode, .inl (cI, 4000, .inl dMode7)), (MdCode, .inl (cI, 4000, .inl dCode7)), (MdWindow, .inl (cI, 4000, .inl dWindow7)), (Mnears, .inl (cJ, 8, .inr (.inl fn7))), (Msames, .inl (cJ, 1024, .inr (.inl fs7))), (Mtab, .inl (cB, 1536, .inl mtab)), (MqKind, .inl (cI, 4100, .inl mqKind)), (MqSize, .inl (cI, 4100, .inl mqSize)), (MqAddress, .inl (cI, 4100, .inl mqAddress)), (MqMode, .inl (cI, 4100, .inl m7))]) hA hP hD hS [13, 3] [0, 1, 2, 4, 5, 6, 7, 8, 9, 10, 11, 12, 14, 15, 16, 17, 18] rfl rfl (by decide) (by decide) (rn_V (As := [.int (nI c)]) (rest := []) ⟨hx, hb, hml, hown, hts⟩ (cvV 1 hts zc_yX9_codeOctet zi_X9 zm_yX9_codeOctet zv_yX9_codeOctet kX9_397 (by decide +kernel) rfl rfl ⟨Nat.le_of_ble_eq_true rfl, Nat.le_of_ble_eq_true rfl⟩) (m_codeOctet l D cI cB cJ cR mm g5_l2 MsCodes co7 Os (nI c) (k_sCode_l2) ((hf_l2 60 (by decide)).trans g_sCodes) (by omega) (hwC) H.size) hK hNw hMk hA hP hD hS [13, 3] rfl rfl (by decide) 0 rfl rfl rfl rfl hl.1 rfl (Nat.le_of_ble_eq_true rfl) dX9_encode_194 ⟨Nat.le_of_ble_eq_true rfl, Nat.le_of_ble_eq_true rfl⟩) (fun u9 H locs hco hP hD hS => ?_)
                  obtain ⟨g_89, co8⟩ := u9
                  try dsimp only at hco
                  have hP : va_P D vwCl [(Mu, .inl (cB, 8000, .inl mu)), (MqAt, .inl (cI, 4100, .inl mqAt)), (MsData, .inl (cB, 8000, .inl da7)), (MsAddresses, .inl (cB, 30000, .inl ad7)), (MdKind, .inl (cI, 4000, .inl dKind7)), (MdSize, .inl (cI, 4000, .inl dSize7)), (MdAddress, .inl (cI, 4000, .inl dAddress7)), (MdMode, .inl (cI, 4000, .inl dMode7)), (MdCode, .inl (cI, 4000, .inl dCode7)), (MdWindow, .inl (cI, 4000, .inl dWindow7)), (Mnears, .inl (cJ, 8, .inr (.inl fn7))), (Msames, .inl (cJ, 1024, .inr (.inl fs7))), (Mtab, .inl (cB, 1536, .inl mtab)), (MqKind, .inl (cI, 4100, .inl mqKind)), (MqSize, .inl (cI, 4100, .inl mqSize)), (MqAddress, .inl (cI, 4100, .inl mqAddress)), (MqMode, .inl (cI, 4100, .inl m7)), (mm, .inr (9, fl 78 g_89)), (MsCodes, .inl (cB, 30000, .inl co8))] H := hP
                  have hD : va_D A0 [(Mu, .inl (cB, 8000, .inl mu)), (MqAt, .inl (cI, 4100, .inl mqAt)), (MsData, .inl (cB, 8000, .inl da7)), (MsAddresses, .inl (cB, 30000, .inl ad7)), (MdKind, .inl (cI, 4000, .inl dKind7)), (MdSize, .inl (cI, 4000, .inl dSize7)), (MdAddress, .inl (cI, 4000, .inl dAddress7)), (MdMode, .inl (cI, 4000, .inl dMode7)), (MdCode, .inl (cI, 4000, .inl dCode7)), (MdWindow, .inl (cI, 4000, .inl dWindow7)), (Mnears, .inl (cJ, 8, .inr (.inl fn7))), (Msames, .inl (cJ, 1024, .inr (.inl fs7))), (Mtab, .inl (cB, 1536, .inl mtab)), (MqKind, .inl (cI, 4100, .inl mqKind)), (MqSize, .inl (cI, 4100, .inl mqSize)), (MqAddress, .inl (cI, 4100, .inl mqAddress)), (MqMode, .inl (cI, 4100, .inl m7)), (mm, .inr (9, fl 78 g_89)), (MsCodes, .inl (cB, 30000, .inl co8))] := hD
                  obtain ⟨f_hco, sCode_hco, hco_⟩ := hco
                  have k8_g_89 : g_89 8 = .int (nI near) := (f_hco 8 (by decide)).trans ((hf_l2 8 (by decide)).trans g_near)
                  have k9_g_89 : g_89 9 = .int (nI same) := (f_hco 9 (by decide)).trans ((hf_l2 9 (by decide)).trans g_same)
                  have k67_g_89 : g_89 67 = .int (nI Q1.length) := (f_hco 67 (by decide)).trans ((hf_l2 67 (by decide)).trans g_waits)
                  have k39_g_89 : g_89 39 = .int (bI ct) := (f_hco 39 (by decide)).trans ((hf_l2 39 (by decide)).trans g_counts)
                  have k7_g_89 : g_89 7 = .ref Mtab := (f_hco 7 (by decide)).trans ((hf_l2 7 (by decide)).trans g_tab)
                  have k10_g_89 : g_89 10 = .ref Mnears := (f_hco 10 (by decide)).trans ((hf_l2 10 (by decide)).trans g_nears)
                  have k12_g_89 : g_89 12 = .ref Msames := (f_hco 12 (by decide)).trans ((hf_l2 12 (by decide)).trans g_sames)
                  have k64_g_89 : g_89 64 = .ref Mu := (f_hco 64 (by decide)).trans ((hf_l2 64 (by decide)).trans g_u)
                  have k68_g_89 : g_89 68 = .ref MqKind := (f_hco 68 (by decide)).trans ((hf_l2 68 (by decide)).trans g_qKind)
                  have k69_g_89 : g_89 69 = .ref MqSize := (f_hco 69 (by decide)).trans ((hf_l2 69 (by decide)).trans g_qSize)
                  have k70_g_89 : g_89 70 = .ref MqAt := (f_hco 70 (by decide)).trans ((hf_l2 70 (by decide)).trans g_qAt)
                  have k71_g_89 : g_89 71 = .ref MqAddress := (f_hco 71 (by decide)).trans ((hf_l2 71 (by decide)).trans g_qAddress)
                  have k72_g_89 : g_89 72 = .ref MqMode := (f_hco 72 (by decide)).trans ((hf_l2 72 (by decide)).trans g_qMode)
                  have k58_g_89 : g_89 58 = .ref MsData := (f_hco 58 (by decide)).trans ((hf_l2 58 (by decide)).trans g_sData)
                  have k60_g_89 : g_89 60 = .ref MsCodes := (f_hco 60 (by decide)).trans ((hf_l2 60 (by decide)).trans g_sCodes)
                  have k62_g_89 : g_89 62 = .ref MsAddresses := (f_hco 62 (by decide)).trans ((hf_l2 62 (by decide)).trans g_sAddresses)
                  have k21_g_89 : g_89 21 = .ref MdKind := (f_hco 21 (by decide)).trans ((hf_l2 21 (by decide)).trans g_dKind)
                  have k22_g_89 : g_89 22 = .ref MdSize := (f_hco 22 (by decide)).trans ((hf_l2 22 (by decide)).trans g_dSize)
                  have k23_g_89 : g_89 23 = .ref MdAddress := (f_hco 23 (by decide)).trans ((hf_l2 23 (by decide)).trans g_dAddress)
                  have k24_g_89 : g_89 24 = .ref MdMode := (f_hco 24 (by decide)).trans ((hf_l2 24 (by decide)).trans g_dMode)
                  have k25_g_89 : g_89 25 = .ref MdCode := (f_hco 25 (by decide)).trans ((hf_l2 25 (by decide)).trans g_dCode)
                  have k26_g_89 : g_89 26 = .ref MdWindow := (f_hco 26 (by decide)).trans ((hf_l2 26 (by decide)).trans g_dWindow)
                  have k59_g_89 : g_89 59 = .int (nI Dl.length) := (f_hco 59 (by decide)).trans (k_sDatas_l2)
                  have k63_g_89 : g_89 63 = .int (nI A.length) := (f_hco 63 (by decide)).trans (k_sAddress_l2)
                  have k11_g_89 : g_89 11 = .int (nI nx) := (f_hco 11 (by decide)).trans (k_nextNear_l2)
                  have k20_g_89 : g_89 20 = .int (nI dr7) := (f_hco 20 (by decide)).trans (k_drafts_l2)
                  have fr_g_89 : frm [20, 59, 61, 63, 11] g g_89 := frm_tr hf_l2 f_hco (by decide)
                  refine lv_iload hx hb dX9_encode_197 (lv_at hl 1 rfl) ?_
                  refine lv_iconst (v := 1) hx hb dX9_encode_199 (by decide) ?_
                  refine lv_icmp_ne (tgt := 269) hx hb dX9_encode_200 (by decide) (fun c_91 => absurd (by decide) c_91) (fun c_91 => ?_)
                  refine lv_aload_n hx hb dX9_encode_203 rfl (lv_at hl 2 rfl) ?_
                  refine lv_iload_n hx hb dX9_encode_204 rfl (lv_at hl 0 rfl) ?_
                  refine lv_iconst (v := 0) hx hb dX9_encode_205 (by decide) ?_
                  refine ri (y := nI 0) nI_0.symm ?_
                  refine jn_i (wr := [(Mu, .inl (cB, 8000, .inl mu)), (MqAt, .inl (cI, 4100, .inl mqAt)), (MsData, .inl (cB, 8000, .inl da7)), (MsAddresses, .inl (cB, 30000, .inl ad7)), (MdKind, .inl (cI, 4000, .inl dKind7)), (MdSize, .inl (cI, 4000, .inl dSize7)), (MdAddress, .inl (cI, 4000, .inl dAddress7)), (MdMode, .inl (cI, 4000, .inl dMode7)), (MdCode, .inl (cI, 4000, .inl dCode7)), (MdWindow, .inl (cI, 4000, .inl dWindow7)), (Mnears, .inl (cJ, 8, .inr (.inl fn7))), (Msames, .inl (cJ, 1024, .inr (.inl fs7))), (MqKind, .inl (cI, 4100, .inl mqKind)), (MqSize, .inl (cI, 4100, .inl mqSize)), (MqAddress, .inl (cI, 4100, .inl mqAddress)), (MqMode, .inl (cI, 4100, .inl m7)), (MsCodes, .inl (cB, 30000, .inl co8))]) hA hP hD hS [17, 12] [0, 1, 2, 3, 4, 5, 6, 7, 8, 9, 10, 11, 13, 14, 15, 16, 18] rfl rfl (by decide) (by decide) (rn_V (As := [.int (nI c), .int (nI 0)]) (rest := []) ⟨hx, hb, hml, hown, hts⟩ (cvV 2 hts zc_yX9_sizeOf zi_X9 zm_yX9_sizeOf zv_yX9_sizeOf kX9_298 (by decide +kernel) rfl rfl ⟨Nat.le_of_ble_eq_true rfl, Nat.le_of_ble_eq_true rfl⟩) (m_sizeOf l D cI cB cJ cR mm g_89 Mtab mtab tt c 0 (k7_g_89) (ht) (hc6) (by decide) H.size) hK hNw hMk hA hP hD hS [17, 12] rfl rfl (by decide) 0 rfl rfl rfl rfl hl.1 rfl (Nat.le_of_ble_eq_true rfl) dX9_encode_206 ⟨Nat.le_of_ble_eq_true rfl, Nat.le_of_ble_eq_true rfl⟩) (fun r_94 u9 H locs w_92 hP hD hS => ?_)
                  try dsimp only at w_92
                  have hP : va_P D vwCl [(Mu, .inl (cB, 8000, .inl mu)), (MqAt, .inl (cI, 4100, .inl mqAt)), (MsData, .inl (cB, 8000, .inl da7)), (MsAddresses, .inl (cB, 30000, .inl ad7)), (MdKind, .inl (cI, 4000, .inl dKind7)), (MdSize, .inl (cI, 4000, .inl dSize7)), (MdAddress, .inl (cI, 4000, .inl dAddress7)), (MdMode, .inl (cI, 4000, .inl dMode7)), (MdCode, .inl (cI, 4000, .inl dCode7)), (MdWindow, .inl (cI, 4000, .inl dWindow7)), (Mnears, .inl (cJ, 8, .inr (.inl fn7))), (Msames, .inl (cJ, 1024, .inr (.inl fs7))), (MqKind, .inl (cI, 4100, .inl mqKind)), (MqSize, .inl (cI, 4100, .inl mqSize)), (MqAddress, .inl (cI, 4100, .inl mqAddress)), (MqMode, .inl (cI, 4100, .inl m7)), (MsCodes, .inl (cB, 30000, .inl co8)), (mm, .inr (9, fl 78 g_89)), (Mtab, .inl (cB, 1536, .inl mtab))] H := hP
                  have hD : va_D A0 [(Mu, .inl (cB, 8000, .inl mu)), (MqAt, .inl (cI, 4100, .inl mqAt)), (MsData, .inl (cB, 8000, .inl da7)), (MsAddresses, .inl (cB, 30000, .inl ad7)), (MdKind, .inl (cI, 4000, .inl dKind7)), (MdSize, .inl (cI, 4000, .inl dSize7)), (MdAddress, .inl (cI, 4000, .inl dAddress7)), (MdMode, .inl (cI, 4000, .inl dMode7)), (MdCode, .inl (cI, 4000, .inl dCode7)), (MdWindow, .inl (cI, 4000, .inl dWindow7)), (Mnears, .inl (cJ, 8, .inr (.inl fn7))), (Msames, .inl (cJ, 1024, .inr (.inl fs7))), (MqKind, .inl (cI, 4100, .inl mqKind)), (MqSize, .inl (cI, 4100, .inl mqSize)), (MqAddress, .inl (cI, 4100, .inl mqAddress)), (MqMode, .inl (cI, 4100, .inl m7)), (MsCodes, .inl (cB, 30000, .inl co8)), (mm, .inr (9, fl 78 g_89)), (Mtab, .inl (cB, 1536, .inl mtab))] := hD
                  subst w_92
                  have hsg9 : sg1 tt x = (true, [nI c], c) := by rw [sg1, if_pos hA1, hcn_, nI_clamp (by omega)]
                  refine lv_if_ne (tgt := 269) hx hb dX9_encode_209 (by decide) (fun c_95 => ?_) (fun c_95 => absurd c_95 (nI_ne0 (by rw [hsz0]; omega) (by rw [hsz0]; omega)))
                  have hdone : (cdW tt Q1) = cdP (true, (Os ++ [nI c]), Cs ++ [c]) (cdW tt R1) := by rw [hcd, hone, hsg9, cdP_assoc]; unfold cdP; simp
                  refine lv_iconst (v := 0) hx hb dX9_encode_269 (by decide) ?_
                  refine ri (y := nI 0) (nI_0.symm) ?_
                  refine lv_istore (lv' := [(5, .int (nI 0)), (3, .int (nI c)), (4, .int 1), (0, .ref mm), (1, .int (nI wi)), (2, .int (nI Qd.length))]) hx hb dX9_encode_270 hl (by decide) rfl (fun ls hl => ?_)
                  refine lv_iload hx hb dX9_encode_272 (lv_at hl 0 rfl) ?_
                  refine lv_iload hx hb dX9_encode_274 (lv_at hl 2 rfl) ?_
                  refine lv_icmp_ge (tgt := 334) hx hb dX9_encode_276 (by decide) (fun c_96 => absurd c_96 (by decide)) (fun c_96 => ?_)
                  refine lv_aload_n hx hb dX9_encode_279 rfl (lv_at hl 3 rfl) ?_
                  refine fx_get (D := D) (ci := 9) (v := .int (bI ct)) (C := RX9) (T := TX9) (N := 78) hx hb hts in_X9 hown hK hP 17 rfl rfl 39 (by decide) (hts _ kX9_224) (fun _ h9 => h9) (k39_g_89) dX9_encode_280 ?_
                  refine bz_eq (tgt := 328) hx hb dX9_encode_283 (by decide) (fun c_97 => ?_) (fun c_97 => ?_)
                  · have hcf_a : ct = false := c_97
                    refine lv_iinc (v := nI (0 + 1)) (lv' := [(5, .int (nI (0 + 1))), (3, .int (nI c)), (4, .int 1), (0, .ref mm), (1, .int (nI wi)), (2, .int (nI Qd.length))]) hx hb dX9_encode_328 hl (k := 0) rfl (nI_add 0 1) (by decide) rfl (fun ls hl => ?_)
                    refine lv_goto (tgt := 272) hx hb dX9_encode_331 (by decide) ?_
                    refine lv_iload hx hb dX9_encode_272 (lv_at hl 0 rfl) ?_
                    refine lv_iload hx hb dX9_encode_274 (lv_at hl 2 rfl) ?_
                    refine lv_icmp_ge (tgt := 334) hx hb dX9_encode_276 (by decide) (fun c_98 => ?_) (fun c_98 => absurd (by decide) c_98)
                    refine lv_iload_n hx hb dX9_encode_334 rfl (lv_at hl 5 rfl) ?_
                    refine lv_iload hx hb dX9_encode_335 (lv_at hl 2 rfl) ?_
                    refine lv_iadd hx hb dX9_encode_337 ?_
                    refine ri (y := nI (Qd.length + 1)) (nI_add Qd.length 1) ?_
                    refine lv_istore_n (lv' := [(2, .int (nI (Qd.length + 1))), (5, .int (nI (0 + 1))), (3, .int (nI c)), (4, .int 1), (0, .ref mm), (1, .int (nI wi))]) hx hb dX9_encode_338 rfl hl (by decide) rfl (fun ls hl => ?_)
                    refine lv_goto (tgt := 152) hx hb dX9_encode_339 (by decide) ?_
                    rw [show Qd.length + 1 = (Qd ++ [x]).length by simp] at hl
                    exact ih g_89 R1 (Qd ++ [x]) (Os ++ [nI c]) (Cs ++ [c]) dr7 co8 dKind7 dSize7 dAddress7 dMode7 dCode7 dWindow7 _ _ ls (by omega) (fr_g_89) (k59_g_89) (sCode_hco) (k63_g_89) (k11_g_89) (k20_g_89) (by rw [hQ]; simp) (by simp; exact hQd) (hdone) (by simp; omega) (hco_) (fun z => absurd (hcf_a.symm.trans z) (by decide)) (hdf) (hP.sub [17, 18, 0, 12, 13, 1, 14, 15, 2, 16, 3, 4, 5, 6, 7, 8, 9, 10, 11] rfl) (hD.sub [17, 18, 0, 12, 13, 1, 14, 15, 2, 16, 3, 4, 5, 6, 7, 8, 9, 10, 11] (by decide) rfl) hS (lv_sub hl [4, 5, 0] rfl)
                  · have hcf_a : ct = true := c_97
                    obtain ⟨la_a, lb_a⟩ := hdt hcf_a
                    refine lv_aload_n hx hb dX9_encode_286 rfl (lv_at hl 3 rfl) ?_
                    refine lv_aload_n hx hb dX9_encode_287 rfl (lv_at hl 3 rfl) ?_
                    refine fx_get (D := D) (ci := 9) (v := .ref MqKind) (C := RX9) (T := TX9) (N := 78) hx hb hts in_X9 hown hK hP 17 rfl rfl 68 (by decide) (hts _ kX9_103) (fun _ h9 => h9) (k68_g_89) dX9_encode_288 ?_
                    refine lv_iload_n hx hb dX9_encode_291 rfl (lv_at hl 5 rfl) ?_
                    refine lv_iload hx hb dX9_encode_292 (lv_at hl 0 rfl) ?_
                    refine lv_iadd hx hb dX9_encode_294 ?_
                    refine ri (y := nI (Qd.length + 0)) (nI_add Qd.length 0) ?_
                    refine ax_ild hx hb hK hP 12 0 rfl rfl Qd.length (rfl) (by omega) (by omega) dX9_encode_295 ?_
                    refine ri (y := nI x.1) (hxm.1) ?_
                    refine lv_aload_n hx hb dX9_encode_296 rfl (lv_at hl 3 rfl) ?_
                    refine fx_get (D := D) (ci := 9) (v := .ref MqSize) (C := RX9) (T := TX9) (N := 78) hx hb hts in_X9 hown hK hP 17 rfl rfl 69 (by decide) (hts _ kX9_106) (fun _ h9 => h9) (k69_g_89) dX9_encode_297 ?_
                    refine lv_iload_n hx hb dX9_encode_300 rfl (lv_at hl 5 rfl) ?_
                    refine lv_iload hx hb dX9_encode_301 (lv_at hl 0 rfl) ?_
                    refine lv_iadd hx hb dX9_encode_303 ?_
                    refine ri (y := nI (Qd.length + 0)) (nI_add Qd.length 0) ?_
                    refine ax_ild hx hb hK hP 13 0 rfl rfl Qd.length (rfl) (by omega) (by omega) dX9_encode_304 ?_
                    refine ri (y := nI x.2.1) (hxm.2.1) ?_
                    refine lv_aload_n hx hb dX9_encode_305 rfl (lv_at hl 3 rfl) ?_
                    refine fx_get (D := D) (ci := 9) (v := .ref MqAddress) (C := RX9) (T := TX9) (N := 78) hx hb hts in_X9 hown hK hP 17 rfl rfl 71 (by decide) (hts _ kX9_112) (fun _ h9 => h9) (k71_g_89) dX9_encode_306 ?_
                    refine lv_iload_n hx hb dX9_encode_309 rfl (lv_at hl 5 rfl) ?_
                    refine lv_iload hx hb dX9_encode_310 (lv_at hl 0 rfl) ?_
                    refine lv_iadd hx hb dX9_encode_312 ?_
                    refine ri (y := nI (Qd.length + 0)) (nI_add Qd.length 0) ?_
                    refine ax_ild hx hb hK hP 14 0 rfl rfl Qd.length (rfl) (by omega) (by omega) dX9_encode_313 ?_
                    refine ri (y := nI x.2.2.1) (hxm.2.2.1) ?_
                    refine lv_aload_n hx hb dX9_encode_314 rfl (lv_at hl 3 rfl) ?_
                    refine fx_get (D := D) (ci := 9) (v := .ref MqMode) (C := RX9) (T := TX9) (N := 78) hx hb hts in_X9 hown hK hP 17 rfl rfl 72 (by decide) (hts _ kX9_115) (fun _ h9 => h9) (k72_g_89) dX9_encode_315 ?_
                    refine lv_iload_n hx hb dX9_encode_318 rfl (lv_at hl 5 rfl) ?_
                    refine lv_iload hx hb dX9_encode_319 (lv_at hl 0 rfl) ?_
                    refine lv_iadd hx hb dX9_encode_321 ?_
                    refine ri (y := nI (Qd.length + 0)) (nI_add Qd.length 0) ?_
                    refine ax_ild hx hb hK hP 15 0 rfl rfl Qd.length (rfl) (by omega) (by omega) dX9_encode_322 ?_
                    refine ri (y := nI x.2.2.2) (hxm.2.2.2) ?_
                    refine lv_iload_n hx hb dX9_encode_323 rfl (lv_at hl 1 rfl) ?_
                    refine lv_iload_n hx hb dX9_encode_324 rfl (lv_at hl 4 rfl) ?_
                    refine jn_v (wr := [(Mu, .inl (cB, 8000, .inl mu)), (MqAt, .inl (cI, 4100, .inl mqAt)), (MsData, .inl (cB, 8000, .inl da7)), (MsAddresses, .inl (cB, 30000, .inl ad7)), (Mnears, .inl (cJ, 8, .inr (.inl fn7))), (Msames, .inl (cJ, 1024, .inr (.inl fs7))), (MqKind, .inl (cI, 4100, .inl mqKind)), (MqSize, .inl (cI, 4100, .inl mqSize)), (MqAddress, .inl (cI, 4100, .inl mqAddress)), (MqMode, .inl (cI, 4100, .inl m7)), (MsCodes, .inl (cB, 30000, .inl co8)), (Mtab, .inl (cB, 1536, .inl mtab))]) hA hP hD hS [17, 4, 5, 6, 7, 8, 9] [0, 1, 2, 3, 10, 11, 12, 13, 14, 15, 16, 18] rfl rfl (by decide) (by decide) (rn_V (As := [.int (nI x.1), .int (nI x.2.1), .int (nI x.2.2.1), .int (nI x.2.2.2), .int (nI c), .int (nI wi)]) (rest := []) ⟨hx, hb, hml, hown, hts⟩ (cvV 6 hts zc_yX9_list zi_X9 zm_yX9_list zv_yX9_list kX9_320 (by decide +kernel) rfl rfl ⟨Nat.le_of_ble_eq_true rfl, Nat.le_of_ble_eq_true rfl⟩) (m_list l D cI cB cJ cR mm g_89 MdKind MdSize MdAddress MdMode MdCode MdWindow dKind7 dSize7 dAddress7 dMode7 dCode7 dWindow7 dr7 (wrG gg cnt (rwQ wi Q1 Cs)) (nI x.1) (nI x.2.1) (nI x.2.2.1) (nI x.2.2.2) (nI c) (nI wi) (k20_g_89) (k21_g_89) (k22_g_89) (k23_g_89) (k24_g_89) (k25_g_89) (k26_g_89) (by omega) (lb_a) H.size) hK hNw hMk hA hP hD hS [17, 4, 5, 6, 7, 8, 9] rfl rfl (by decide) 0 rfl rfl rfl rfl hl.1 rfl (Nat.le_of_ble_eq_true rfl) dX9_encode_325 ⟨Nat.le_of_ble_eq_true rfl, Nat.le_of_ble_eq_true rfl⟩) (fun u9 H locs hls_a hP hD hS => ?_)
                    obtain ⟨g_99, dKind_a, dSize_a, dAddress_a, dMode_a, dCode_a, dWindow_a⟩ := u9
                    try dsimp only at hls_a
                    have hP : va_P D vwCl [(Mu, .inl (cB, 8000, .inl mu)), (MqAt, .inl (cI, 4100, .inl mqAt)), (MsData, .inl (cB, 8000, .inl da7)), (MsAddresses, .inl (cB, 30000, .inl ad7)), (Mnears, .inl (cJ, 8, .inr (.inl fn7))), (Msames, .inl (cJ, 1024, .inr (.inl fs7))), (MqKind, .inl (cI, 4100, .inl mqKind)), (MqSize, .inl (cI, 4100, .inl mqSize)), (MqAddress, .inl (cI, 4100, .inl mqAddress)), (MqMode, .inl (cI, 4100, .inl m7)), (MsCodes, .inl (cB, 30000, .inl co8)), (Mtab, .inl (cB, 1536, .inl mtab)), (mm, .inr (9, fl 78 g_99)), (MdKind, .inl (cI, 4000, .inl dKind_a)), (MdSize, .inl (cI, 4000, .inl dSize_a)), (MdAddress, .inl (cI, 4000, .inl dAddress_a)), (MdMode, .inl (cI, 4000, .inl dMode_a)), (MdCode, .inl (cI, 4000, .inl dCode_a)), (MdWindow, .inl (cI, 4000, .inl dWindow_a))] H := hP
                    have hD : va_D A0 [(Mu, .inl (cB, 8000, .inl mu)), (MqAt, .inl (cI, 4100, .inl mqAt)), (MsData, .inl (cB, 8000, .inl da7)), (MsAddresses, .inl (cB, 30000, .inl ad7)), (Mnears, .inl (cJ, 8, .inr (.inl fn7))), (Msames, .inl (cJ, 1024, .inr (.inl fs7))), (MqKind, .inl (cI, 4100, .inl mqKind)), (MqSize, .inl (cI, 4100, .inl mqSize)), (MqAddress, .inl (cI, 4100, .inl mqAddress)), (MqMode, .inl (cI, 4100, .inl m7)), (MsCodes, .inl (cB, 30000, .inl co8)), (Mtab, .inl (cB, 1536, .inl mtab)), (mm, .inr (9, fl 78 g_99)), (MdKind, .inl (cI, 4000, .inl dKind_a)), (MdSize, .inl (cI, 4000, .inl dSize_a)), (MdAddress, .inl (cI, 4000, .inl dAddress_a)), (MdMode, .inl (cI, 4000, .inl dMode_a)), (MdCode, .inl (cI, 4000, .inl dCode_a)), (MdWindow, .inl (cI, 4000, .inl dWindow_a))] := hD
                    obtain ⟨f_hls_a, drafts_hls_a, hls_a_⟩ := hls_a
                    have k8_g_99 : g_99 8 = .int (nI near) := (f_hls_a 8 (by decide)).trans (k8_g_89)
                    have k9_g_99 : g_99 9 = .int (nI same) := (f_hls_a 9 (by decide)).trans (k9_g_89)
                    have k67_g_99 : g_99 67 = .int (nI Q1.length) := (f_hls_a 67 (by decide)).trans (k67_g_89)
                    have k39_g_99 : g_99 39 = .int (bI ct) := (f_hls_a 39 (by decide)).trans (k39_g_89)
                    have k7_g_99 : g_99 7 = .ref Mtab := (f_hls_a 7 (by decide)).trans (k7_g_89)
                    have k10_g_99 : g_99 10 = .ref Mnears := (f_hls_a 10 (by decide)).trans (k10_g_89)
                    have k12_g_99 : g_99 12 = .ref Msames := (f_hls_a 12 (by decide)).trans (k12_g_89)
                    have k64_g_99 : g_99 64 = .ref Mu := (f_hls_a 64 (by decide)).trans (k64_g_89)
                    have k68_g_99 : g_99 68 = .ref MqKind := (f_hls_a 68 (by decide)).trans (k68_g_89)
                    have k69_g_99 : g_99 69 = .ref MqSize := (f_hls_a 69 (by decide)).trans (k69_g_89)
                    have k70_g_99 : g_99 70 = .ref MqAt := (f_hls_a 70 (by decide)).trans (k70_g_89)
                    have k71_g_99 : g_99 71 = .ref MqAddress := (f_hls_a 71 (by decide)).trans (k71_g_89)
                    have k72_g_99 : g_99 72 = .ref MqMode := (f_hls_a 72 (by decide)).trans (k72_g_89)
                    have k58_g_99 : g_99 58 = .ref MsData := (f_hls_a 58 (by decide)).trans (k58_g_89)
                    have k60_g_99 : g_99 60 = .ref MsCodes := (f_hls_a 60 (by decide)).trans (k60_g_89)
                    have k62_g_99 : g_99 62 = .ref MsAddresses := (f_hls_a 62 (by decide)).trans (k62_g_89)
                    have k21_g_99 : g_99 21 = .ref MdKind := (f_hls_a 21 (by decide)).trans (k21_g_89)
                    have k22_g_99 : g_99 22 = .ref MdSize := (f_hls_a 22 (by decide)).trans (k22_g_89)
                    have k23_g_99 : g_99 23 = .ref MdAddress := (f_hls_a 23 (by decide)).trans (k23_g_89)
                    have k24_g_99 : g_99 24 = .ref MdMode := (f_hls_a 24 (by decide)).trans (k24_g_89)
                    have k25_g_99 : g_99 25 = .ref MdCode := (f_hls_a 25 (by decide)).trans (k25_g_89)
                    have k26_g_99 : g_99 26 = .ref MdWindow := (f_hls_a 26 (by decide)).trans (k26_g_89)
                    have k59_g_99 : g_99 59 = .int (nI Dl.length) := (f_hls_a 59 (by decide)).trans (k59_g_89)
                    have k63_g_99 : g_99 63 = .int (nI A.length) := (f_hls_a 63 (by decide)).trans (k63_g_89)
                    have k11_g_99 : g_99 11 = .int (nI nx) := (f_hls_a 11 (by decide)).trans (k11_g_89)
                    have k61_g_99 : g_99 61 = .int (nI (Os ++ [(nI c)]).length) := (f_hls_a 61 (by decide)).trans (sCode_hco)
                    have fr_g_99 : frm [20, 59, 61, 63, 11] g g_99 := frm_tr fr_g_89 f_hls_a (by decide)
                    have hG9 := wrG_code (g := gg) (f := cnt) (w := wi) (c := c) (Q := Q1) (Cs := Cs) (x := x) (by rw [← hQd]; exact hx9) (by omega)
                    rw [la_a] at hls_a_
                    have hls9 : dRel dKind_a dSize_a dAddress_a dMode_a dCode_a dWindow_a (wrG gg cnt (rwQ wi Q1 (Cs ++ [c]))) (cnt + Cs.length + 1) := by rw [← hG9]; exact hls_a_
                    refine lv_iinc (v := nI (0 + 1)) (lv' := [(5, .int (nI (0 + 1))), (3, .int (nI c)), (4, .int 1), (0, .ref mm), (1, .int (nI wi)), (2, .int (nI Qd.length))]) hx hb dX9_encode_328 hl (k := 0) rfl (nI_add 0 1) (by decide) rfl (fun ls hl => ?_)
                    refine lv_goto (tgt := 272) hx hb dX9_encode_331 (by decide) ?_
                    refine lv_iload hx hb dX9_encode_272 (lv_at hl 0 rfl) ?_
                    refine lv_iload hx hb dX9_encode_274 (lv_at hl 2 rfl) ?_
                    refine lv_icmp_ge (tgt := 334) hx hb dX9_encode_276 (by decide) (fun c_101 => ?_) (fun c_101 => absurd (by decide) c_101)
                    refine lv_iload_n hx hb dX9_encode_334 rfl (lv_at hl 5 rfl) ?_
                    refine lv_iload hx hb dX9_encode_335 (lv_at hl 2 rfl) ?_
                    refine lv_iadd hx hb dX9_encode_337 ?_
                    refine ri (y := nI (Qd.length + 1)) (nI_add Qd.length 1) ?_
                    refine lv_istore_n (lv' := [(2, .int (nI (Qd.length + 1))), (5, .int (nI (0 + 1))), (3, .int (nI c)), (4, .int 1), (0, .ref mm), (1, .int (nI wi))]) hx hb dX9_encode_338 rfl hl (by decide) rfl (fun ls hl => ?_)
                    refine lv_goto (tgt := 152) hx hb dX9_encode_339 (by decide) ?_
                    rw [show Qd.length + 1 = (Qd ++ [x]).length by simp] at hl
                    exact ih g_99 R1 (Qd ++ [x]) (Os ++ [nI c]) (Cs ++ [c]) (dr7 + 1) co8 dKind_a dSize_a dAddress_a dMode_a dCode_a dWindow_a _ _ ls (by omega) (fr_g_99) (k59_g_99) (k61_g_99) (k63_g_99) (k11_g_99) (drafts_hls_a) (by rw [hQ]; simp) (by simp; exact hQd) (hdone) (by simp; omega) (hco_) (fun z => ⟨by rw [List.length_append]; show _ = cnt + (Cs.length + 1); omega, by rw [show dr7 + 1 = cnt + Cs.length + 1 by omega]; exact hls9⟩) (fun z => absurd (hcf_a.symm.trans z) (by decide)) (hP.sub [12, 11, 0, 6, 7, 1, 8, 9, 2, 10, 3, 13, 14, 15, 16, 17, 18, 4, 5] rfl) (hD.sub [12, 11, 0, 6, 7, 1, 8, 9, 2, 10, 3, 13, 14, 15, 16, 17, 18, 4, 5] (by decide) rfl) hS (lv_sub hl [4, 5, 0] rfl)
        exact l2 _ g5_l1 Q1 ([]) ([]) ([]) dr msCodes mdKind mdSize mdAddress mdMode mdCode mdWindow _ _ ls (Nat.lt_succ_self _) (hf_l1) (k_sDatas_l1) (k_sCode_l1) (k_sAddress_l1) (k_nextNear_l1) (k_drafts_l1) (rfl) (rfl) (by rw [cdP_one]) (Nat.zero_le _) (fun j hj => absurd hj (Nat.not_lt_zero j)) (fun z => ⟨(hct z).1, by rw [(hct z).1]; exact dRel_wr (hct z).2⟩) (fun _ => rfl) hP hD hS (lv_sub hl [1, 2, 0] rfl)
      · have hl9 : L1.length < L.length := Nat.not_le.mp (fun q => c_3 (nI_le q (by omega)))
        obtain ⟨x, L3, hL3⟩ : ∃ x L3, L2 = x :: L3 := by cases L2 with | nil => simp at hLn; omega | cons x L3 => exact ⟨x, L3, rfl⟩
        subst hL3
        obtain ⟨kd, z, p9, ad⟩ := x
        obtain ⟨t1, t2, t3, t4, t5, t6⟩ := htl2
        subst t1
        have hx9 : L.getD L1.length (0, 0, 0, 0) = (kd, z, p9, ad) := by rw [hL, gD_r (Nat.le_refl _), Nat.sub_self]; rfl
        have hxq := hq L1.length hl9
        have hxa := ha0 L1.length hl9
        rw [hx9] at hxq hxa
        obtain ⟨x1, x2, x3, x4, -⟩ := hxq
        dsimp only at x1 x2 x3 x4 hxa
        have hmz := hm0 L1.length (Nat.le_refl _) hl9
        have hkb : kd < 4 := by omega
        rw [List.foldl_cons] at hR
        refine lv_aload_n hx hb dX9_encode_29 rfl (lv_at hl 0 rfl) ?_
        refine fx_get (D := D) (ci := 9) (v := .ref MqKind) (C := RX9) (T := TX9) (N := 78) hx hb hts in_X9 hown hK hP 0 rfl rfl 68 (by decide) (hts _ kX9_103) (fun _ h9 => h9) ((hf_l1 68 (by decide)).trans g_qKind) dX9_encode_30 ?_
        refine lv_iload_n hx hb dX9_encode_33 rfl (lv_at hl 2 rfl) ?_
        refine ax_ild hx hb hK hP 3 0 rfl rfl L1.length (rfl) (by omega) (by omega) dX9_encode_34 ?_
        refine ri (y := nI kd) (x1) ?_
        refine lv_iconst (v := 3) hx hb dX9_encode_35 (by decide) ?_
        refine lv_icmp_ne (tgt := 75) hx hb dX9_encode_36 (by decide) (fun c_102 => ?_) (fun c_102 => ?_)
        · have hk3 : ¬ kd = 3 := fun w => c_102 (by rw [w]; rfl)
          have had0 : ad = 0 := hxa hk3
          refine lv_aload_n hx hb dX9_encode_75 rfl (lv_at hl 0 rfl) ?_
          refine fx_get (D := D) (ci := 9) (v := .ref MqKind) (C := RX9) (T := TX9) (N := 78) hx hb hts in_X9 hown hK hP 0 rfl rfl 68 (by decide) (hts _ kX9_103) (fun _ h9 => h9) ((hf_l1 68 (by decide)).trans g_qKind) dX9_encode_76 ?_
          refine lv_iload_n hx hb dX9_encode_79 rfl (lv_at hl 2 rfl) ?_
          refine ax_ild hx hb hK hP 3 0 rfl rfl L1.length (rfl) (by omega) (by omega) dX9_encode_80 ?_
          refine ri (y := nI kd) (x1) ?_
          refine lv_iconst (v := 1) hx hb dX9_encode_81 (by decide) ?_
          refine lv_icmp_ne (tgt := 94) hx hb dX9_encode_82 (by decide) (fun c_103 => ?_) (fun c_103 => ?_)
          · have hk1n : ¬ kd = 1 := fun w => c_103 (by rw [w]; rfl)
            have hk1 : kd = 2 := by omega
            refine lv_iconst (v := 1) hx hb dX9_encode_94 (by decide) ?_
            refine ri (y := nI 1) (rfl) ?_
            refine lv_istore_n (lv' := [(3, .int (nI 1)), (0, .ref mm), (1, .int (nI wi)), (2, .int (nI L1.length))]) hx hb dX9_encode_95 rfl hl (by decide) rfl (fun ls hl => ?_)
            refine lv_iconst (v := 0) hx hb dX9_encode_96 (by decide) ?_
            refine ri (y := nI 0) (nI_0.symm) ?_
            refine lv_istore (lv' := [(4, .int (nI 0)), (3, .int (nI 1)), (0, .ref mm), (1, .int (nI wi)), (2, .int (nI L1.length))]) hx hb dX9_encode_97 hl (by decide) rfl (fun ls hl => ?_)
            have hz1 : 1 ≤ z := t2
            have ld : ∀ (k9 : Nat) (g5_ld : Nat → Value) (i : Nat) (da8 : Nat → Int32) (H : Heap) (locs : List Loc) (ls : Array Slot), 1 - i < k9 → (frm [20, 59, 61, 63, 11] g g5_ld) → (g5_ld 59 = .int (nI (Dl ++ rgL (fun j => nI (ub j)) p9 i).length)) → (g5_ld 61 = .int (nI ([] : List Int32).length)) → (g5_ld 63 = .int (nI A.length)) → (g5_ld 11 = .int (nI nx)) → (g5_ld 20 = .int (nI dr)) → (i ≤ 1) → (wL 8000 da8 (Dl ++ rgL (fun j => nI (ub j)) p9 i)) → va_P D vwCl [(mm, .inr (9, fl 78 g5_ld)), (Mtab, .inl (cB, 1536, .inl mtab)), (Mu, .inl (cB, 8000, .inl mu)), (MqKind, .inl (cI, 4100, .inl mqKind)), (MqSize, .inl (cI, 4100, .inl mqSize)), (MqAt, .inl (cI, 4100, .inl mqAt)), (MqAddress, .inl (cI, 4100, .inl mqAddress)), (MqMode, .inl (cI, 4100, .inl m7)), (MsData, .inl (cB, 8000, .inl da8)), (MsCodes, .inl (cB, 30000, .inl msCodes)), (MsAddresses, .inl (cB, 30000, .inl ad7)), (MdKind, .inl (cI, 4000, .inl mdKind)), (MdSize, .inl (cI, 4000, .inl mdSize)), (MdAddress, .inl (cI, 4000, .inl mdAddress)), (MdMode, .inl (cI, 4000, .inl mdMode)), (MdCode, .inl (cI, 4000, .inl mdCode)), (MdWindow, .inl (cI, 4000, .inl mdWindow)), (Mnears, .inl (cJ, 8, .inr (.inl fn7))), (Msames, .inl (cJ, 1024, .inr (.inl fs7)))] H → va_D A0 [(mm, .inr (9, fl 78 g5_ld)), (Mtab, .inl (cB, 1536, .inl mtab)), (Mu, .inl (cB, 8000, .inl mu)), (MqKind, .inl (cI, 4100, .inl mqKind)), (MqSize, .inl (cI, 4100, .inl mqSize)), (MqAt, .inl (cI, 4100, .inl mqAt)), (MqAddress, .inl (cI, 4100, .inl mqAddress)), (MqMode, .inl (cI, 4100, .inl m7)), (MsData, .inl (cB, 8000, .inl da8)), (MsCodes, .inl (cB, 30000, .inl msCodes)), (MsAddresses, .inl (cB, 30000, .inl ad7)), (MdKind, .inl (cI, 4000, .inl mdKind)), (MdSize, .inl (cI, 4000, .inl mdSize)), (MdAddress, .inl (cI, 4000, .inl mdAddress)), (MdMode, .inl (cI, 4000, .inl mdMode)), (MdCode, .inl (cI, 4000, .inl mdCode)), (MdWindow, .inl (cI, 4000, .inl mdWindow)), (Mnears, .inl (cJ, 8, .inr (.inl fn7))), (Msames, .inl (cJ, 1024, .inr (.inl fs7)))] → va_S A0 s0.heap H locs → lv_has ls 6 [(0, .ref mm), (1, .int (nI wi)), (2, .int (nI L1.length)), (3, .int (nI 1)), (4, .int (nI i))] → W p0 l e0 ({ frames := 3, cells := 0, slots := 0, locals := 74 }) s0 m0 ([.ref mm, .int (nI wi)] : List Value).toArray below meth c0 H locs 0 0 Q0 (F0 m0 99 ls []) := by
              intro k9
              induction k9 with
              | zero => intro g5_ld i da8 H locs ls hk9; exact absurd hk9 (Nat.not_lt_zero _)
              | succ k9 ih2 =>
                intro g5_ld i da8 H locs ls hk9 hf_ld k_sDatas_ld k_sCode_ld k_sAddress_ld k_nextNear_ld k_drafts_ld hin hw8 hP hD hS hl
                have hdl : (Dl ++ rgL (fun j => nI (ub j)) p9 i).length = Dl.length + i := by rw [List.length_append, rgL_len]
                refine lv_iload hx hb dX9_encode_99 (lv_at hl 4 rfl) ?_
                refine lv_iload_n hx hb dX9_encode_101 rfl (lv_at hl 3 rfl) ?_
                refine lv_icmp_ge (tgt := 144) hx hb dX9_encode_102 (by decide) (fun c_104 => ?_) (fun c_104 => ?_)
                · have hi9 : 1 = i := by have := (nI_leI (by omega) (by omega)).mp c_104; omega
                  subst hk1
                  refine lv_iinc (v := nI (L1.length + 1)) (lv' := [(2, .int (nI (L1.length + 1))), (0, .ref mm), (1, .int (nI wi)), (3, .int (nI 1)), (4, .int (nI i))]) hx hb dX9_encode_144 hl (k := 2) rfl (nI_add L1.length 1) (by decide) rfl (fun ls hl => ?_)
                  refine lv_goto (tgt := 21) hx hb dX9_encode_147 (by decide) ?_
                  rw [show L1.length + 1 = (L1 ++ [(2, z, p9, ad)]).length by simp] at hl
                  have hRn : R9 = List.foldl (insF near same (fun j => nI (ub j))) ((Dl ++ rgL (fun j => nI (ub j)) p9 i), A, nx, cN, cS, Q1 ++ [(2, z, 0, 0)]) L3 := by rw [hR, ← hi9]; rfl
                  exact ih g5_ld (L1 ++ [(2, z, p9, ad)]) L3 (decide (2 = 1)) (p9 + z) (Dl ++ rgL (fun j => nI (ub j)) p9 i) A nx cN cS (Q1 ++ [(2, z, 0, 0)]) fn7 fs7 m7 da8 ad7 _ _ ls (by simp at hk9 ⊢; omega) (hf_ld) (k_sDatas_ld) (k_sCode_ld) (k_sAddress_ld) (k_nextNear_ld) (k_drafts_ld) (by rw [hL]; simp) (by simp; exact hQl) (hRn) (t6) (by omega) (by rw [hdl]; omega) (by omega) (by simp; omega) (hnx) (hc) (hcN) (hcS) (qM_put (x := (2, z, 0, 0)) hqm (by rw [hQl]; exact x1) (by rw [hQl]; exact x2) (by rw [hQl, x4, had0]) (by rw [hQl, hmz]; exact nI_0.symm)) (fun i hi hi2 => by simp at hi; exact hm0 i (by omega) hi2) (hw8) (hwA) hP hD hS (lv_sub hl [1, 2, 0] rfl)
                · have hi9 : i < 1 := Nat.not_le.mp (fun q => c_104 (nI_le q (by omega)))
                  refine lv_aload_n hx hb dX9_encode_105 rfl (lv_at hl 0 rfl) ?_
                  refine fx_get (D := D) (ci := 9) (v := .ref MsData) (C := RX9) (T := TX9) (N := 78) hx hb hts in_X9 hown hK hP 0 rfl rfl 58 (by decide) (hts _ kX9_91) (fun _ h9 => h9) ((hf_ld 58 (by decide)).trans g_sData) dX9_encode_106 ?_
                  refine lv_aload_n hx hb dX9_encode_109 rfl (lv_at hl 0 rfl) ?_
                  refine fx_get (D := D) (ci := 9) (v := .int (nI (Dl ++ rgL (fun j => nI (ub j)) p9 i).length)) (C := RX9) (T := TX9) (N := 78) hx hb hts in_X9 hown hK hP 0 rfl rfl 59 (by decide) (hts _ kX9_388) (fun _ h9 => h9) (k_sDatas_ld) dX9_encode_110 ?_
                  refine lv_aload_n hx hb dX9_encode_113 rfl (lv_at hl 0 rfl) ?_
                  refine fx_get (D := D) (ci := 9) (v := .ref Mu) (C := RX9) (T := TX9) (N := 78) hx hb hts in_X9 hown hK hP 0 rfl rfl 64 (by decide) (hts _ kX9_100) (fun _ h9 => h9) ((hf_ld 64 (by decide)).trans g_u) dX9_encode_114 ?_
                  refine lv_aload_n hx hb dX9_encode_117 rfl (lv_at hl 0 rfl) ?_
                  refine fx_get (D := D) (ci := 9) (v := .ref MqAt) (C := RX9) (T := TX9) (N := 78) hx hb hts in_X9 hown hK hP 0 rfl rfl 70 (by decide) (hts _ kX9_109) (fun _ h9 => h9) ((hf_ld 70 (by decide)).trans g_qAt) dX9_encode_118 ?_
                  refine lv_iload_n hx hb dX9_encode_121 rfl (lv_at hl 2 rfl) ?_
                  refine ax_ild hx hb hK hP 5 0 rfl rfl L1.length (rfl) (by omega) (by omega) dX9_encode_122 ?_
                  refine ri (y := nI p9) (x3) ?_
                  refine lv_iload hx hb dX9_encode_123 (lv_at hl 4 rfl) ?_
                  refine lv_iadd hx hb dX9_encode_125 ?_
                  refine ri (y := nI (p9 + i)) (nI_add p9 i) ?_
                  refine ax_bld hx hb hK hP 2 1 rfl rfl (p9 + i) (rfl) (by omega) (by omega) dX9_encode_126 ?_
                  refine ri (y := s8 (ub (p9 + i))) (hu _ (by omega)) ?_
                  refine ax_bst hx hb hK hP hD hS 8 1 rfl rfl ((Dl ++ rgL (fun j => nI (ub j)) p9 i).length) (rfl) (by omega) (by omega) (z := s8 (ub (p9 + i))) (s8_re _ (hub _)) dX9_encode_127 (fun H locs hP hD hS => ?_)
                  have hP : va_P D vwCl [(mm, .inr (9, fl 78 g5_ld)), (Mtab, .inl (cB, 1536, .inl mtab)), (Mu, .inl (cB, 8000, .inl mu)), (MqKind, .inl (cI, 4100, .inl mqKind)), (MqSize, .inl (cI, 4100, .inl mqSize)), (MqAt, .inl (cI, 4100, .inl mqAt)), (MqAddress, .inl (cI, 4100, .inl mqAddress)), (MqMode, .inl (cI, 4100, .inl m7)), (MsData, .inl (cB, 8000, .inl (upd da8 ((Dl ++ rgL (fun j => nI (ub j)) p9 i).length) (s8 (ub (p9 + i)))))), (MsCodes, .inl (cB, 30000, .inl msCodes)), (MsAddresses, .inl (cB, 30000, .inl ad7)), (MdKind, .inl (cI, 4000, .inl mdKind)), (MdSize, .inl (cI, 4000, .inl mdSize)), (MdAddress, .inl (cI, 4000, .inl mdAddress)), (MdMode, .inl (cI, 4000, .inl mdMode)), (MdCode, .inl (cI, 4000, .inl mdCode)), (MdWindow, .inl (cI, 4000, .inl mdWindow)), (Mnears, .inl (cJ, 8, .inr (.inl fn7))), (Msames, .inl (cJ, 1024, .inr (.inl fs7)))] H := hP
                  have hD : va_D A0 [(mm, .inr (9, fl 78 g5_ld)), (Mtab, .inl (cB, 1536, .inl mtab)), (Mu, .inl (cB, 8000, .inl mu)), (MqKind, .inl (cI, 4100, .inl mqKind)), (MqSize, .inl (cI, 4100, .inl mqSize)), (MqAt, .inl (cI, 4100, .inl mqAt)), (MqAddress, .inl (cI, 4100, .inl mqAddress)), (MqMode, .inl (cI, 4100, .inl m7)), (MsData, .inl (cB, 8000, .inl (upd da8 ((Dl ++ rgL (fun j => nI (ub j)) p9 i).length) (s8 (ub (p9 + i)))))), (MsCodes, .inl (cB, 30000, .inl msCodes)), (MsAddresses, .inl (cB, 30000, .inl ad7)), (MdKind, .inl (cI, 4000, .inl mdKind)), (MdSize, .inl (cI, 4000, .inl mdSize)), (MdAddress, .inl (cI, 4000, .inl mdAddress)), (MdMode, .inl (cI, 4000, .inl mdMode)), (MdCode, .inl (cI, 4000, .inl mdCode)), (MdWindow, .inl (cI, 4000, .inl mdWindow)), (Mnears, .inl (cJ, 8, .inr (.inl fn7))), (Msames, .inl (cJ, 1024, .inr (.inl fs7)))] := hD
                  refine lv_aload_n hx hb dX9_encode_128 rfl (lv_at hl 0 rfl) ?_
                  refine lv_dup hx hb dX9_encode_129 rfl ?_
                  refine fx_get (D := D) (ci := 9) (v := .int (nI (Dl ++ rgL (fun j => nI (ub j)) p9 i).length)) (C := RX9) (T := TX9) (N := 78) hx hb hts in_X9 hown hK hP 0 rfl rfl 59 (by decide) (hts _ kX9_388) (fun _ h9 => h9) (k_sDatas_ld) dX9_encode_130 ?_
                  refine lv_iconst (v := 1) hx hb dX9_encode_133 (by decide) ?_
                  refine lv_iadd hx hb dX9_encode_134 ?_
                  refine fx_put (D := D) (ci := 9) (v := .int ((nI (Dl ++ rgL (fun j => nI (ub j)) p9 i).length) + 1)) (ty := .int) (C := RX9) (T := TX9) (N := 78) hx hb hts in_X9 tyX9 tyX9_ok nmX9 hown hK hP hD hS 0 rfl rfl 59 (by decide) (hts _ kX9_388) (fun _ h9 => h9) rfl (by decide +kernel) rfl rfl dX9_encode_135 (fun H locs hP hD hS => ?_)
                  have hP : va_P D vwCl [(mm, .inr (9, fl 78 (va_up g5_ld 59 (.int ((nI (Dl ++ rgL (fun j => nI (ub j)) p9 i).length) + 1))))), (Mtab, .inl (cB, 1536, .inl mtab)), (Mu, .inl (cB, 8000, .inl mu)), (MqKind, .inl (cI, 4100, .inl mqKind)), (MqSize, .inl (cI, 4100, .inl mqSize)), (MqAt, .inl (cI, 4100, .inl mqAt)), (MqAddress, .inl (cI, 4100, .inl mqAddress)), (MqMode, .inl (cI, 4100, .inl m7)), (MsData, .inl (cB, 8000, .inl (upd da8 ((Dl ++ rgL (fun j => nI (ub j)) p9 i).length) (s8 (ub (p9 + i)))))), (MsCodes, .inl (cB, 30000, .inl msCodes)), (MsAddresses, .inl (cB, 30000, .inl ad7)), (MdKind, .inl (cI, 4000, .inl mdKind)), (MdSize, .inl (cI, 4000, .inl mdSize)), (MdAddress, .inl (cI, 4000, .inl mdAddress)), (MdMode, .inl (cI, 4000, .inl mdMode)), (MdCode, .inl (cI, 4000, .inl mdCode)), (MdWindow, .inl (cI, 4000, .inl mdWindow)), (Mnears, .inl (cJ, 8, .inr (.inl fn7))), (Msames, .inl (cJ, 1024, .inr (.inl fs7)))] H := hP
                  have hD : va_D A0 [(mm, .inr (9, fl 78 (va_up g5_ld 59 (.int ((nI (Dl ++ rgL (fun j => nI (ub j)) p9 i).length) + 1))))), (Mtab, .inl (cB, 1536, .inl mtab)), (Mu, .inl (cB, 8000, .inl mu)), (MqKind, .inl (cI, 4100, .inl mqKind)), (MqSize, .inl (cI, 4100, .inl mqSize)), (MqAt, .inl (cI, 4100, .inl mqAt)), (MqAddress, .inl (cI, 4100, .inl mqAddress)), (MqMode, .inl (cI, 4100, .inl m7)), (MsData, .inl (cB, 8000, .inl (upd da8 ((Dl ++ rgL (fun j => nI (ub j)) p9 i).length) (s8 (ub (p9 + i)))))), (MsCodes, .inl (cB, 30000, .inl msCodes)), (MsAddresses, .inl (cB, 30000, .inl ad7)), (MdKind, .inl (cI, 4000, .inl mdKind)), (MdSize, .inl (cI, 4000, .inl mdSize)), (MdAddress, .inl (cI, 4000, .inl mdAddress)), (MdMode, .inl (cI, 4000, .inl mdMode)), (MdCode, .inl (cI, 4000, .inl mdCode)), (MdWindow, .inl (cI, 4000, .inl mdWindow)), (Mnears, .inl (cJ, 8, .inr (.inl fn7))), (Msames, .inl (cJ, 1024, .inr (.inl fs7)))] := hD
                  refine lv_iinc (v := nI (i + 1)) (lv' := [(4, .int (nI (i + 1))), (0, .ref mm), (1, .int (nI wi)), (2, .int (nI L1.length)), (3, .int (nI 1))]) hx hb dX9_encode_138 hl (k := 4) rfl (nI_add i 1) (by decide) rfl (fun ls hl => ?_)
                  refine lv_goto (tgt := 99) hx hb dX9_encode_141 (by decide) ?_
                  have hds : (Dl ++ rgL (fun j => nI (ub j)) p9 (i + 1)) = (Dl ++ rgL (fun j => nI (ub j)) p9 i) ++ [nI (ub (p9 + i))] := by rw [rgL, List.append_assoc]
                  have kx_105 : (va_up g5_ld 59 (.int ((nI (Dl ++ rgL (fun j => nI (ub j)) p9 i).length) + 1))) 59 = .int (nI (Dl ++ rgL (fun j => nI (ub j)) p9 (i + 1)).length) := by have h9 : (va_up g5_ld 59 (.int ((nI (Dl ++ rgL (fun j => nI (ub j)) p9 i).length) + 1))) 59 = .int ((nI (Dl ++ rgL (fun j => nI (ub j)) p9 i).length) + 1) := rfl; rw [h9]; exact congrArg Value.int (by rw [hds, show ((Dl ++ rgL (fun j => nI (ub j)) p9 i) ++ [nI (ub (p9 + i))]).length = (Dl ++ rgL (fun j => nI (ub j)) p9 i).length + 1 by simp; omega]; exact nI_add _ 1)
                  exact ih2 (va_up g5_ld 59 (.int ((nI (Dl ++ rgL (fun j => nI (ub j)) p9 i).length) + 1))) (i + 1) (upd da8 (Dl ++ rgL (fun j => nI (ub j)) p9 i).length (s8 (ub (p9 + i)))) _ _ ls (by omega) ((frm_up hf_ld (by decide))) (kx_105) (k_sCode_ld) (k_sAddress_ld) (k_nextNear_ld) (k_drafts_ld) (by omega) (by rw [hds]; exact wL_put2 hw8 rfl) hP hD hS (lv_sub hl [1, 2, 3, 4, 0] rfl)
            have hd0 : (Dl ++ rgL (fun j => nI (ub j)) p9 0) = Dl := by rw [rgL, List.append_nil]
            have kx_106 : g5_l1 59 = .int (nI (Dl ++ rgL (fun j => nI (ub j)) p9 0).length) := by have h9 : g5_l1 59 = .int (nI Dl.length) := k_sDatas_l1; rw [h9]; exact congrArg Value.int (by rw [hd0])
            exact ld _ g5_l1 0 da7 _ _ ls (Nat.lt_succ_self _) (hf_l1) (kx_106) (k_sCode_l1) (k_sAddress_l1) (k_nextNear_l1) (k_drafts_l1) (Nat.zero_le _) (by rw [hd0]; exact hwD) hP hD hS (lv_sub hl [2, 3, 4, 1, 0] rfl)
          · have hk1 : kd = 1 := (nI_eq (b := 1) (by omega) (by decide)).mp c_103
            refine lv_aload_n hx hb dX9_encode_85 rfl (lv_at hl 0 rfl) ?_
            refine fx_get (D := D) (ci := 9) (v := .ref MqSize) (C := RX9) (T := TX9) (N := 78) hx hb hts in_X9 hown hK hP 0 rfl rfl 69 (by decide) (hts _ kX9_106) (fun _ h9 => h9) ((hf_l1 69 (by decide)).trans g_qSize) dX9_encode_86 ?_
            refine lv_iload_n hx hb dX9_encode_89 rfl (lv_at hl 2 rfl) ?_
            refine ax_ild hx hb hK hP 4 0 rfl rfl L1.length (rfl) (by omega) (by omega) dX9_encode_90 ?_
            refine ri (y := nI z) (x2) ?_
            refine lv_goto (tgt := 95) hx hb dX9_encode_91 (by decide) ?_
            refine lv_istore_n (lv' := [(3, .int (nI z)), (0, .ref mm), (1, .int (nI wi)), (2, .int (nI L1.length))]) hx hb dX9_encode_95 rfl hl (by decide) rfl (fun ls hl => ?_)
            refine lv_iconst (v := 0) hx hb dX9_encode_96 (by decide) ?_
            refine ri (y := nI 0) (nI_0.symm) ?_
            refine lv_istore (lv' := [(4, .int (nI 0)), (3, .int (nI z)), (0, .ref mm), (1, .int (nI wi)), (2, .int (nI L1.length))]) hx hb dX9_encode_97 hl (by decide) rfl (fun ls hl => ?_)
            have hz1 : 1 ≤ z := t2
            have ld : ∀ (k9 : Nat) (g5_ld : Nat → Value) (i : Nat) (da8 : Nat → Int32) (H : Heap) (locs : List Loc) (ls : Array Slot), z - i < k9 → (frm [20, 59, 61, 63, 11] g g5_ld) → (g5_ld 59 = .int (nI (Dl ++ rgL (fun j => nI (ub j)) p9 i).length)) → (g5_ld 61 = .int (nI ([] : List Int32).length)) → (g5_ld 63 = .int (nI A.length)) → (g5_ld 11 = .int (nI nx)) → (g5_ld 20 = .int (nI dr)) → (i ≤ z) → (wL 8000 da8 (Dl ++ rgL (fun j => nI (ub j)) p9 i)) → va_P D vwCl [(mm, .inr (9, fl 78 g5_ld)), (Mtab, .inl (cB, 1536, .inl mtab)), (Mu, .inl (cB, 8000, .inl mu)), (MqKind, .inl (cI, 4100, .inl mqKind)), (MqSize, .inl (cI, 4100, .inl mqSize)), (MqAt, .inl (cI, 4100, .inl mqAt)), (MqAddress, .inl (cI, 4100, .inl mqAddress)), (MqMode, .inl (cI, 4100, .inl m7)), (MsData, .inl (cB, 8000, .inl da8)), (MsCodes, .inl (cB, 30000, .inl msCodes)), (MsAddresses, .inl (cB, 30000, .inl ad7)), (MdKind, .inl (cI, 4000, .inl mdKind)), (MdSize, .inl (cI, 4000, .inl mdSize)), (MdAddress, .inl (cI, 4000, .inl mdAddress)), (MdMode, .inl (cI, 4000, .inl mdMode)), (MdCode, .inl (cI, 4000, .inl mdCode)), (MdWindow, .inl (cI, 4000, .inl mdWindow)), (Mnears, .inl (cJ, 8, .inr (.inl fn7))), (Msames, .inl (cJ, 1024, .inr (.inl fs7)))] H → va_D A0 [(mm, .inr (9, fl 78 g5_ld)), (Mtab, .inl (cB, 1536, .inl mtab)), (Mu, .inl (cB, 8000, .inl mu)), (MqKind, .inl (cI, 4100, .inl mqKind)), (MqSize, .inl (cI, 4100, .inl mqSize)), (MqAt, .inl (cI, 4100, .inl mqAt)), (MqAddress, .inl (cI, 4100, .inl mqAddress)), (MqMode, .inl (cI, 4100, .inl m7)), (MsData, .inl (cB, 8000, .inl da8)), (MsCodes, .inl (cB, 30000, .inl msCodes)), (MsAddresses, .inl (cB, 30000, .inl ad7)), (MdKind, .inl (cI, 4000, .inl mdKind)), (MdSize, .inl (cI, 4000, .inl mdSize)), (MdAddress, .inl (cI, 4000, .inl mdAddress)), (MdMode, .inl (cI, 4000, .inl mdMode)), (MdCode, .inl (cI, 4000, .inl mdCode)), (MdWindow, .inl (cI, 4000, .inl mdWindow)), (Mnears, .inl (cJ, 8, .inr (.inl fn7))), (Msames, .inl (cJ, 1024, .inr (.inl fs7)))] → va_S A0 s0.heap H locs → lv_has ls 6 [(0, .ref mm), (1, .int (nI wi)), (2, .int (nI L1.length)), (3, .int (nI z)), (4, .int (nI i))] → W p0 l e0 ({ frames := 3, cells := 0, slots := 0, locals := 74 }) s0 m0 ([.ref mm, .int (nI wi)] : List Value).toArray below meth c0 H locs 0 0 Q0 (F0 m0 99 ls []) := by
              intro k9
              induction k9 with
              | zero => intro g5_ld i da8 H locs ls hk9; exact absurd hk9 (Nat.not_lt_zero _)
              | succ k9 ih2 =>
                intro g5_ld i da8 H locs ls hk9 hf_ld k_sDatas_ld k_sCode_ld k_sAddress_ld k_nextNear_ld k_drafts_ld hin hw8 hP hD hS hl
                have hdl : (Dl ++ rgL (fun j => nI (ub j)) p9 i).length = Dl.length + i := by rw [List.length_append, rgL_len]
                refine lv_iload hx hb dX9_encode_99 (lv_at hl 4 rfl) ?_
                refine lv_iload_n hx hb dX9_encode_101 rfl (lv_at hl 3 rfl) ?_
                refine lv_icmp_ge (tgt := 144) hx hb dX9_encode_102 (by decide) (fun c_107 => ?_) (fun c_107 => ?_)
                · have hi9 : z = i := by have := (nI_leI (by omega) (by omega)).mp c_107; omega
                  subst hk1
                  refine lv_iinc (v := nI (L1.length + 1)) (lv' := [(2, .int (nI (L1.length + 1))), (0, .ref mm), (1, .int (nI wi)), (3, .int (nI z)), (4, .int (nI i))]) hx hb dX9_encode_144 hl (k := 2) rfl (nI_add L1.length 1) (by decide) rfl (fun ls hl => ?_)
                  refine lv_goto (tgt := 21) hx hb dX9_encode_147 (by decide) ?_
                  rw [show L1.length + 1 = (L1 ++ [(1, z, p9, ad)]).length by simp] at hl
                  have hRn : R9 = List.foldl (insF near same (fun j => nI (ub j))) ((Dl ++ rgL (fun j => nI (ub j)) p9 i), A, nx, cN, cS, Q1 ++ [(1, z, 0, 0)]) L3 := by rw [hR, ← hi9]; rfl
                  exact ih g5_ld (L1 ++ [(1, z, p9, ad)]) L3 (decide (1 = 1)) (p9 + z) (Dl ++ rgL (fun j => nI (ub j)) p9 i) A nx cN cS (Q1 ++ [(1, z, 0, 0)]) fn7 fs7 m7 da8 ad7 _ _ ls (by simp at hk9 ⊢; omega) (hf_ld) (k_sDatas_ld) (k_sCode_ld) (k_sAddress_ld) (k_nextNear_ld) (k_drafts_ld) (by rw [hL]; simp) (by simp; exact hQl) (hRn) (t6) (by omega) (by rw [hdl]; omega) (by omega) (by simp; omega) (hnx) (hc) (hcN) (hcS) (qM_put (x := (1, z, 0, 0)) hqm (by rw [hQl]; exact x1) (by rw [hQl]; exact x2) (by rw [hQl, x4, had0]) (by rw [hQl, hmz]; exact nI_0.symm)) (fun i hi hi2 => by simp at hi; exact hm0 i (by omega) hi2) (hw8) (hwA) hP hD hS (lv_sub hl [1, 2, 0] rfl)
                · have hi9 : i < z := Nat.not_le.mp (fun q => c_107 (nI_le q (by omega)))
                  refine lv_aload_n hx hb dX9_encode_105 rfl (lv_at hl 0 rfl) ?_
                  refine fx_get (D := D) (ci := 9) (v := .ref MsData) (C := RX9) (T := TX9) (N := 78) hx hb hts in_X9 hown hK hP 0 rfl rfl 58 (by decide) (hts _ kX9_91) (fun _ h9 => h9) ((hf_ld 58 (by decide)).trans g_sData) dX9_encode_106 ?_
                  refine lv_aload_n hx hb dX9_encode_109 rfl (lv_at hl 0 rfl) ?_
                  refine fx_get (D := D) (ci := 9) (v := .int (nI (Dl ++ rgL (fun j => nI (ub j)) p9 i).length)) (C := RX9) (T := TX9) (N := 78) hx hb hts in_X9 hown hK hP 0 rfl rfl 59 (by decide) (hts _ kX9_388) (fun _ h9 => h9) (k_sDatas_ld) dX9_encode_110 ?_
                  refine lv_aload_n hx hb dX9_encode_113 rfl (lv_at hl 0 rfl) ?_
                  refine fx_get (D := D) (ci := 9) (v := .ref Mu) (C := RX9) (T := TX9) (N := 78) hx hb hts in_X9 hown hK hP 0 rfl rfl 64 (by decide) (hts _ kX9_100) (fun _ h9 => h9) ((hf_ld 64 (by decide)).trans g_u) dX9_encode_114 ?_
                  refine lv_aload_n hx hb dX9_encode_117 rfl (lv_at hl 0 rfl) ?_
                  refine fx_get (D := D) (ci := 9) (v := .ref MqAt) (C := RX9) (T := TX9) (N := 78) hx hb hts in_X9 hown hK hP 0 rfl rfl 70 (by decide) (hts _ kX9_109) (fun _ h9 => h9) ((hf_ld 70 (by decide)).trans g_qAt) dX9_encode_118 ?_
                  refine lv_iload_n hx hb dX9_encode_121 rfl (lv_at hl 2 rfl) ?_
                  refine ax_ild hx hb hK hP 5 0 rfl rfl L1.length (rfl) (by omega) (by omega) dX9_encode_122 ?_
                  refine ri (y := nI p9) (x3) ?_
                  refine lv_iload hx hb dX9_encode_123 (lv_at hl 4 rfl) ?_
                  refine lv_iadd hx hb dX9_encode_125 ?_
                  refine ri (y := nI (p9 + i)) (nI_add p9 i) ?_
                  refine ax_bld hx hb hK hP 2 1 rfl rfl (p9 + i) (rfl) (by omega) (by omega) dX9_encode_126 ?_
                  refine ri (y := s8 (ub (p9 + i))) (hu _ (by omega)) ?_
                  refine ax_bst hx hb hK hP hD hS 8 1 rfl rfl ((Dl ++ rgL (fun j => nI (ub j)) p9 i).length) (rfl) (by omega) (by omega) (z := s8 (ub (p9 + i))) (s8_re _ (hub _)) dX9_encode_127 (fun H locs hP hD hS => ?_)
                  have hP : va_P D vwCl [(mm, .inr (9, fl 78 g5_ld)), (Mtab, .inl (cB, 1536, .inl mtab)), (Mu, .inl (cB, 8000, .inl mu)), (MqKind, .inl (cI, 4100, .inl mqKind)), (MqSize, .inl (cI, 4100, .inl mqSize)), (MqAt, .inl (cI, 4100, .inl mqAt)), (MqAddress, .inl (cI, 4100, .inl mqAddress)), (MqMode, .inl (cI, 4100, .inl m7)), (MsData, .inl (cB, 8000, .inl (upd da8 ((Dl ++ rgL (fun j => nI (ub j)) p9 i).length) (s8 (ub (p9 + i)))))), (MsCodes, .inl (cB, 30000, .inl msCodes)), (MsAddresses, .inl (cB, 30000, .inl ad7)), (MdKind, .inl (cI, 4000, .inl mdKind)), (MdSize, .inl (cI, 4000, .inl mdSize)), (MdAddress, .inl (cI, 4000, .inl mdAddress)), (MdMode, .inl (cI, 4000, .inl mdMode)), (MdCode, .inl (cI, 4000, .inl mdCode)), (MdWindow, .inl (cI, 4000, .inl mdWindow)), (Mnears, .inl (cJ, 8, .inr (.inl fn7))), (Msames, .inl (cJ, 1024, .inr (.inl fs7)))] H := hP
                  have hD : va_D A0 [(mm, .inr (9, fl 78 g5_ld)), (Mtab, .inl (cB, 1536, .inl mtab)), (Mu, .inl (cB, 8000, .inl mu)), (MqKind, .inl (cI, 4100, .inl mqKind)), (MqSize, .inl (cI, 4100, .inl mqSize)), (MqAt, .inl (cI, 4100, .inl mqAt)), (MqAddress, .inl (cI, 4100, .inl mqAddress)), (MqMode, .inl (cI, 4100, .inl m7)), (MsData, .inl (cB, 8000, .inl (upd da8 ((Dl ++ rgL (fun j => nI (ub j)) p9 i).length) (s8 (ub (p9 + i)))))), (MsCodes, .inl (cB, 30000, .inl msCodes)), (MsAddresses, .inl (cB, 30000, .inl ad7)), (MdKind, .inl (cI, 4000, .inl mdKind)), (MdSize, .inl (cI, 4000, .inl mdSize)), (MdAddress, .inl (cI, 4000, .inl mdAddress)), (MdMode, .inl (cI, 4000, .inl mdMode)), (MdCode, .inl (cI, 4000, .inl mdCode)), (MdWindow, .inl (cI, 4000, .inl mdWindow)), (Mnears, .inl (cJ, 8, .inr (.inl fn7))), (Msames, .inl (cJ, 1024, .inr (.inl fs7)))] := hD
                  refine lv_aload_n hx hb dX9_encode_128 rfl (lv_at hl 0 rfl) ?_
                  refine lv_dup hx hb dX9_encode_129 rfl ?_
                  refine fx_get (D := D) (ci := 9) (v := .int (nI (Dl ++ rgL (fun j => nI (ub j)) p9 i).length)) (C := RX9) (T := TX9) (N := 78) hx hb hts in_X9 hown hK hP 0 rfl rfl 59 (by decide) (hts _ kX9_388) (fun _ h9 => h9) (k_sDatas_ld) dX9_encode_130 ?_
                  refine lv_iconst (v := 1) hx hb dX9_encode_133 (by decide) ?_
                  refine lv_iadd hx hb dX9_encode_134 ?_
                  refine fx_put (D := D) (ci := 9) (v := .int ((nI (Dl ++ rgL (fun j => nI (ub j)) p9 i).length) + 1)) (ty := .int) (C := RX9) (T := TX9) (N := 78) hx hb hts in_X9 tyX9 tyX9_ok nmX9 hown hK hP hD hS 0 rfl rfl 59 (by decide) (hts _ kX9_388) (fun _ h9 => h9) rfl (by decide +kernel) rfl rfl dX9_encode_135 (fun H locs hP hD hS => ?_)
                  have hP : va_P D vwCl [(mm, .inr (9, fl 78 (va_up g5_ld 59 (.int ((nI (Dl ++ rgL (fun j => nI (ub j)) p9 i).length) + 1))))), (Mtab, .inl (cB, 1536, .inl mtab)), (Mu, .inl (cB, 8000, .inl mu)), (MqKind, .inl (cI, 4100, .inl mqKind)), (MqSize, .inl (cI, 4100, .inl mqSize)), (MqAt, .inl (cI, 4100, .inl mqAt)), (MqAddress, .inl (cI, 4100, .inl mqAddress)), (MqMode, .inl (cI, 4100, .inl m7)), (MsData, .inl (cB, 8000, .inl (upd da8 ((Dl ++ rgL (fun j => nI (ub j)) p9 i).length) (s8 (ub (p9 + i)))))), (MsCodes, .inl (cB, 30000, .inl msCodes)), (MsAddresses, .inl (cB, 30000, .inl ad7)), (MdKind, .inl (cI, 4000, .inl mdKind)), (MdSize, .inl (cI, 4000, .inl mdSize)), (MdAddress, .inl (cI, 4000, .inl mdAddress)), (MdMode, .inl (cI, 4000, .inl mdMode)), (MdCode, .inl (cI, 4000, .inl mdCode)), (MdWindow, .inl (cI, 4000, .inl mdWindow)), (Mnears, .inl (cJ, 8, .inr (.inl fn7))), (Msames, .inl (cJ, 1024, .inr (.inl fs7)))] H := hP
                  have hD : va_D A0 [(mm, .inr (9, fl 78 (va_up g5_ld 59 (.int ((nI (Dl ++ rgL (fun j => nI (ub j)) p9 i).length) + 1))))), (Mtab, .inl (cB, 1536, .inl mtab)), (Mu, .inl (cB, 8000, .inl mu)), (MqKind, .inl (cI, 4100, .inl mqKind)), (MqSize, .inl (cI, 4100, .inl mqSize)), (MqAt, .inl (cI, 4100, .inl mqAt)), (MqAddress, .inl (cI, 4100, .inl mqAddress)), (MqMode, .inl (cI, 4100, .inl m7)), (MsData, .inl (cB, 8000, .inl (upd da8 ((Dl ++ rgL (fun j => nI (ub j)) p9 i).length) (s8 (ub (p9 + i)))))), (MsCodes, .inl (cB, 30000, .inl msCodes)), (MsAddresses, .inl (cB, 30000, .inl ad7)), (MdKind, .inl (cI, 4000, .inl mdKind)), (MdSize, .inl (cI, 4000, .inl mdSize)), (MdAddress, .inl (cI, 4000, .inl mdAddress)), (MdMode, .inl (cI, 4000, .inl mdMode)), (MdCode, .inl (cI, 4000, .inl mdCode)), (MdWindow, .inl (cI, 4000, .inl mdWindow)), (Mnears, .inl (cJ, 8, .inr (.inl fn7))), (Msames, .inl (cJ, 1024, .inr (.inl fs7)))] := hD
                  refine lv_iinc (v := nI (i + 1)) (lv' := [(4, .int (nI (i + 1))), (0, .ref mm), (1, .int (nI wi)), (2, .int (nI L1.length)), (3, .int (nI z))]) hx hb dX9_encode_138 hl (k := 4) rfl (nI_add i 1) (by decide) rfl (fun ls hl => ?_)
                  refine lv_goto (tgt := 99) hx hb dX9_encode_141 (by decide) ?_
                  have hds : (Dl ++ rgL (fun j => nI (ub j)) p9 (i + 1)) = (Dl ++ rgL (fun j => nI (ub j)) p9 i) ++ [nI (ub (p9 + i))] := by rw [rgL, List.append_assoc]
                  have kx_108 : (va_up g5_ld 59 (.int ((nI (Dl ++ rgL (fun j => nI (ub j)) p9 i).length) + 1))) 59 = .int (nI (Dl ++ rgL (fun j => nI (ub j)) p9 (i + 1)).length) := by have h9 : (va_up g5_ld 59 (.int ((nI (Dl ++ rgL (fun j => nI (ub j)) p9 i).length) + 1))) 59 = .int ((nI (Dl ++ rgL (fun j => nI (ub j)) p9 i).length) + 1) := rfl; rw [h9]; exact congrArg Value.int (by rw [hds, show ((Dl ++ rgL (fun j => nI (ub j)) p9 i) ++ [nI (ub (p9 + i))]).length = (Dl ++ rgL (fun j => nI (ub j)) p9 i).length + 1 by simp; omega]; exact nI_add _ 1)
                  exact ih2 (va_up g5_ld 59 (.int ((nI (Dl ++ rgL (fun j => nI (ub j)) p9 i).length) + 1))) (i + 1) (upd da8 (Dl ++ rgL (fun j => nI (ub j)) p9 i).length (s8 (ub (p9 + i)))) _ _ ls (by omega) ((frm_up hf_ld (by decide))) (kx_108) (k_sCode_ld) (k_sAddress_ld) (k_nextNear_ld) (k_drafts_ld) (by omega) (by rw [hds]; exact wL_put2 hw8 rfl) hP hD hS (lv_sub hl [1, 2, 3, 4, 0] rfl)
            have hd0 : (Dl ++ rgL (fun j => nI (ub j)) p9 0) = Dl := by rw [rgL, List.append_nil]
            have kx_109 : g5_l1 59 = .int (nI (Dl ++ rgL (fun j => nI (ub j)) p9 0).length) := by have h9 : g5_l1 59 = .int (nI Dl.length) := k_sDatas_l1; rw [h9]; exact congrArg Value.int (by rw [hd0])
            exact ld _ g5_l1 0 da7 _ _ ls (Nat.lt_succ_self _) (hf_l1) (kx_109) (k_sCode_l1) (k_sAddress_l1) (k_nextNear_l1) (k_drafts_l1) (Nat.zero_le _) (by rw [hd0]; exact hwD) hP hD hS (lv_sub hl [2, 3, 4, 1, 0] rfl)
        · have hk3 : kd = 3 := (nI_eq (b := 3) (by omega) (by decide)).mp c_102
          subst hk3
          have hap := t5 rfl
          refine lv_aload_n hx hb dX9_encode_39 rfl (lv_at hl 0 rfl) ?_
          refine fx_get (D := D) (ci := 9) (v := .ref MqMode) (C := RX9) (T := TX9) (N := 78) hx hb hts in_X9 hown hK hP 0 rfl rfl 72 (by decide) (hts _ kX9_115) (fun _ h9 => h9) ((hf_l1 72 (by decide)).trans g_qMode) dX9_encode_40 ?_
          refine lv_iload_n hx hb dX9_encode_43 rfl (lv_at hl 2 rfl) ?_
          refine lv_aload_n hx hb dX9_encode_44 rfl (lv_at hl 0 rfl) ?_
          refine lv_aload_n hx hb dX9_encode_45 rfl (lv_at hl 0 rfl) ?_
          refine fx_get (D := D) (ci := 9) (v := .ref MqAddress) (C := RX9) (T := TX9) (N := 78) hx hb hts in_X9 hown hK hP 0 rfl rfl 71 (by decide) (hts _ kX9_112) (fun _ h9 => h9) ((hf_l1 71 (by decide)).trans g_qAddress) dX9_encode_46 ?_
          refine lv_iload_n hx hb dX9_encode_49 rfl (lv_at hl 2 rfl) ?_
          refine ax_ild hx hb hK hP 6 0 rfl rfl L1.length (rfl) (by omega) (by omega) dX9_encode_50 ?_
          refine ri (y := nI ad) (x4) ?_
          refine lv_aload_n hx hb dX9_encode_51 rfl (lv_at hl 0 rfl) ?_
          refine fx_get (D := D) (ci := 9) (v := .ref MqAt) (C := RX9) (T := TX9) (N := 78) hx hb hts in_X9 hown hK hP 0 rfl rfl 70 (by decide) (hts _ kX9_109) (fun _ h9 => h9) ((hf_l1 70 (by decide)).trans g_qAt) dX9_encode_52 ?_
          refine lv_iload_n hx hb dX9_encode_55 rfl (lv_at hl 2 rfl) ?_
          refine ax_ild hx hb hK hP 5 0 rfl rfl L1.length (rfl) (by omega) (by omega) dX9_encode_56 ?_
          refine ri (y := nI p9) (x3) ?_
          have haL := adL_len (near := near) (a := ad) (here := p9) (md := (chMode near same ad p9 cN cS)) (cN := cN) (by omega) (by omega)
          refine jn_i (wr := [(Mtab, .inl (cB, 1536, .inl mtab)), (Mu, .inl (cB, 8000, .inl mu)), (MqKind, .inl (cI, 4100, .inl mqKind)), (MqSize, .inl (cI, 4100, .inl mqSize)), (MqAt, .inl (cI, 4100, .inl mqAt)), (MqAddress, .inl (cI, 4100, .inl mqAddress)), (MqMode, .inl (cI, 4100, .inl m7)), (MsData, .inl (cB, 8000, .inl da7)), (MsCodes, .inl (cB, 30000, .inl msCodes)), (MdKind, .inl (cI, 4000, .inl mdKind)), (MdSize, .inl (cI, 4000, .inl mdSize)), (MdAddress, .inl (cI, 4000, .inl mdAddress)), (MdMode, .inl (cI, 4000, .inl mdMode)), (MdCode, .inl (cI, 4000, .inl mdCode)), (MdWindow, .inl (cI, 4000, .inl mdWindow))]) hA hP hD hS [0, 17, 18, 10] [1, 2, 3, 4, 5, 6, 7, 8, 9, 11, 12, 13, 14, 15, 16] rfl rfl (by decide) (by decide) (rn_V (As := [.int (nI ad), .int (nI p9)]) (rest := [.int (nI L1.length), .ref MqMode]) ⟨hx, hb, hml, hown, hts⟩ (cvV 2 hts zc_yX9_modeFor zi_X9 zm_yX9_modeFor zv_yX9_modeFor kX9_391 (by decide +kernel) rfl rfl ⟨Nat.le_of_ble_eq_true rfl, Nat.le_of_ble_eq_true rfl⟩) (m_modeFor l D cI cB cJ cR mm g5_l1 Mnears Msames MsAddresses fn7 fs7 ad7 near same ad p9 A cN cS ((hf_l1 8 (by decide)).trans g_near) ((hf_l1 9 (by decide)).trans g_same) (k_sAddress_l1) ((hf_l1 10 (by decide)).trans g_nears) ((hf_l1 12 (by decide)).trans g_sames) ((hf_l1 62 (by decide)).trans g_sAddresses) (h8) (h4) (hap) (by omega) (by omega) (hwA) (hc) (hcN) (hcS) H.size) hK hNw hMk hA hP hD hS [0, 17, 18, 10] rfl rfl (by decide) 0 rfl rfl rfl rfl hl.1 rfl (Nat.le_of_ble_eq_true rfl) dX9_encode_57 ⟨Nat.le_of_ble_eq_true rfl, Nat.le_of_ble_eq_true rfl⟩) (fun rm9 u9 H locs hmf hP hD hS => ?_)
          obtain ⟨g_110, ad8⟩ := u9
          try dsimp only at hmf
          have hP : va_P D vwCl [(Mtab, .inl (cB, 1536, .inl mtab)), (Mu, .inl (cB, 8000, .inl mu)), (MqKind, .inl (cI, 4100, .inl mqKind)), (MqSize, .inl (cI, 4100, .inl mqSize)), (MqAt, .inl (cI, 4100, .inl mqAt)), (MqAddress, .inl (cI, 4100, .inl mqAddress)), (MqMode, .inl (cI, 4100, .inl m7)), (MsData, .inl (cB, 8000, .inl da7)), (MsCodes, .inl (cB, 30000, .inl msCodes)), (MdKind, .inl (cI, 4000, .inl mdKind)), (MdSize, .inl (cI, 4000, .inl mdSize)), (MdAddress, .inl (cI, 4000, .inl mdAddress)), (MdMode, .inl (cI, 4000, .inl mdMode)), (MdCode, .inl (cI, 4000, .inl mdCode)), (MdWindow, .inl (cI, 4000, .inl mdWindow)), (mm, .inr (9, fl 78 g_110)), (Mnears, .inl (cJ, 8, .inr (.inl fn7))), (Msames, .inl (cJ, 1024, .inr (.inl fs7))), (MsAddresses, .inl (cB, 30000, .inl ad8))] H := hP
          have hD : va_D A0 [(Mtab, .inl (cB, 1536, .inl mtab)), (Mu, .inl (cB, 8000, .inl mu)), (MqKind, .inl (cI, 4100, .inl mqKind)), (MqSize, .inl (cI, 4100, .inl mqSize)), (MqAt, .inl (cI, 4100, .inl mqAt)), (MqAddress, .inl (cI, 4100, .inl mqAddress)), (MqMode, .inl (cI, 4100, .inl m7)), (MsData, .inl (cB, 8000, .inl da7)), (MsCodes, .inl (cB, 30000, .inl msCodes)), (MdKind, .inl (cI, 4000, .inl mdKind)), (MdSize, .inl (cI, 4000, .inl mdSize)), (MdAddress, .inl (cI, 4000, .inl mdAddress)), (MdMode, .inl (cI, 4000, .inl mdMode)), (MdCode, .inl (cI, 4000, .inl mdCode)), (MdWindow, .inl (cI, 4000, .inl mdWindow)), (mm, .inr (9, fl 78 g_110)), (Mnears, .inl (cJ, 8, .inr (.inl fn7))), (Msames, .inl (cJ, 1024, .inr (.inl fs7))), (MsAddresses, .inl (cB, 30000, .inl ad8))] := hD
          obtain ⟨f_hmf, sAddress_hmf, hmf_⟩ := hmf
          have k8_g_110 : g_110 8 = .int (nI near) := (f_hmf 8 (by decide)).trans ((hf_l1 8 (by decide)).trans g_near)
          have k9_g_110 : g_110 9 = .int (nI same) := (f_hmf 9 (by decide)).trans ((hf_l1 9 (by decide)).trans g_same)
          have k67_g_110 : g_110 67 = .int (nI L.length) := (f_hmf 67 (by decide)).trans ((hf_l1 67 (by decide)).trans g_waits)
          have k39_g_110 : g_110 39 = .int (bI ct) := (f_hmf 39 (by decide)).trans ((hf_l1 39 (by decide)).trans g_counts)
          have k7_g_110 : g_110 7 = .ref Mtab := (f_hmf 7 (by decide)).trans ((hf_l1 7 (by decide)).trans g_tab)
          have k10_g_110 : g_110 10 = .ref Mnears := (f_hmf 10 (by decide)).trans ((hf_l1 10 (by decide)).trans g_nears)
          have k12_g_110 : g_110 12 = .ref Msames := (f_hmf 12 (by decide)).trans ((hf_l1 12 (by decide)).trans g_sames)
          have k64_g_110 : g_110 64 = .ref Mu := (f_hmf 64 (by decide)).trans ((hf_l1 64 (by decide)).trans g_u)
          have k68_g_110 : g_110 68 = .ref MqKind := (f_hmf 68 (by decide)).trans ((hf_l1 68 (by decide)).trans g_qKind)
          have k69_g_110 : g_110 69 = .ref MqSize := (f_hmf 69 (by decide)).trans ((hf_l1 69 (by decide)).trans g_qSize)
          have k70_g_110 : g_110 70 = .ref MqAt := (f_hmf 70 (by decide)).trans ((hf_l1 70 (by decide)).trans g_qAt)
          have k71_g_110 : g_110 71 = .ref MqAddress := (f_hmf 71 (by decide)).trans ((hf_l1 71 (by decide)).trans g_qAddress)
          have k72_g_110 : g_110 72 = .ref MqMode := (f_hmf 72 (by decide)).trans ((hf_l1 72 (by decide)).trans g_qMode)
          have k58_g_110 : g_110 58 = .ref MsData := (f_hmf 58 (by decide)).trans ((hf_l1 58 (by decide)).trans g_sData)
          have k60_g_110 : g_110 60 = .ref MsCodes := (f_hmf 60 (by decide)).trans ((hf_l1 60 (by decide)).trans g_sCodes)
          have k62_g_110 : g_110 62 = .ref MsAddresses := (f_hmf 62 (by decide)).trans ((hf_l1 62 (by decide)).trans g_sAddresses)
          have k21_g_110 : g_110 21 = .ref MdKind := (f_hmf 21 (by decide)).trans ((hf_l1 21 (by decide)).trans g_dKind)
          have k22_g_110 : g_110 22 = .ref MdSize := (f_hmf 22 (by decide)).trans ((hf_l1 22 (by decide)).trans g_dSize)
          have k23_g_110 : g_110 23 = .ref MdAddress := (f_hmf 23 (by decide)).trans ((hf_l1 23 (by decide)).trans g_dAddress)
          have k24_g_110 : g_110 24 = .ref MdMode := (f_hmf 24 (by decide)).trans ((hf_l1 24 (by decide)).trans g_dMode)
          have k25_g_110 : g_110 25 = .ref MdCode := (f_hmf 25 (by decide)).trans ((hf_l1 25 (by decide)).trans g_dCode)
          have k26_g_110 : g_110 26 = .ref MdWindow := (f_hmf 26 (by decide)).trans ((hf_l1 26 (by decide)).trans g_dWindow)
          have k59_g_110 : g_110 59 = .int (nI Dl.length) := (f_hmf 59 (by decide)).trans (k_sDatas_l1)
          have k61_g_110 : g_110 61 = .int (nI ([] : List Int32).length) := (f_hmf 61 (by decide)).trans (k_sCode_l1)
          have k11_g_110 : g_110 11 = .int (nI nx) := (f_hmf 11 (by decide)).trans (k_nextNear_l1)
          have k20_g_110 : g_110 20 = .int (nI dr) := (f_hmf 20 (by decide)).trans (k_drafts_l1)
          have fr_g_110 : frm [20, 59, 61, 63, 11] g g_110 := frm_tr hf_l1 f_hmf (by decide)
          obtain ⟨mf1, mf2⟩ := hmf_
          subst mf1
          refine ax_ist hx hb hK hP hD hS 6 0 rfl rfl L1.length (rfl) (by omega) (by omega) dX9_encode_60 (fun H locs hP hD hS => ?_)
          have hP : va_P D vwCl [(Mtab, .inl (cB, 1536, .inl mtab)), (Mu, .inl (cB, 8000, .inl mu)), (MqKind, .inl (cI, 4100, .inl mqKind)), (MqSize, .inl (cI, 4100, .inl mqSize)), (MqAt, .inl (cI, 4100, .inl mqAt)), (MqAddress, .inl (cI, 4100, .inl mqAddress)), (MqMode, .inl (cI, 4100, .inl (upd m7 L1.length (nI (chMode near same ad p9 cN cS))))), (MsData, .inl (cB, 8000, .inl da7)), (MsCodes, .inl (cB, 30000, .inl msCodes)), (MdKind, .inl (cI, 4000, .inl mdKind)), (MdSize, .inl (cI, 4000, .inl mdSize)), (MdAddress, .inl (cI, 4000, .inl mdAddress)), (MdMode, .inl (cI, 4000, .inl mdMode)), (MdCode, .inl (cI, 4000, .inl mdCode)), (MdWindow, .inl (cI, 4000, .inl mdWindow)), (mm, .inr (9, fl 78 g_110)), (Mnears, .inl (cJ, 8, .inr (.inl fn7))), (Msames, .inl (cJ, 1024, .inr (.inl fs7))), (MsAddresses, .inl (cB, 30000, .inl ad8))] H := hP
          have hD : va_D A0 [(Mtab, .inl (cB, 1536, .inl mtab)), (Mu, .inl (cB, 8000, .inl mu)), (MqKind, .inl (cI, 4100, .inl mqKind)), (MqSize, .inl (cI, 4100, .inl mqSize)), (MqAt, .inl (cI, 4100, .inl mqAt)), (MqAddress, .inl (cI, 4100, .inl mqAddress)), (MqMode, .inl (cI, 4100, .inl (upd m7 L1.length (nI (chMode near same ad p9 cN cS))))), (MsData, .inl (cB, 8000, .inl da7)), (MsCodes, .inl (cB, 30000, .inl msCodes)), (MdKind, .inl (cI, 4000, .inl mdKind)), (MdSize, .inl (cI, 4000, .inl mdSize)), (MdAddress, .inl (cI, 4000, .inl mdAddress)), (MdMode, .inl (cI, 4000, .inl mdMode)), (MdCode, .inl (cI, 4000, .inl mdCode)), (MdWindow, .inl (cI, 4000, .inl mdWindow)), (mm, .inr (9, fl 78 g_110)), (Mnears, .inl (cJ, 8, .inr (.inl fn7))), (Msames, .inl (cJ, 1024, .inr (.inl fs7))), (MsAddresses, .inl (cB, 30000, .inl ad8))] := hD
          refine lv_aload_n hx hb dX9_encode_61 rfl (lv_at hl 0 rfl) ?_
          refine lv_aload_n hx hb dX9_encode_62 rfl (lv_at hl 0 rfl) ?_
          refine fx_get (D := D) (ci := 9) (v := .ref MqAddress) (C := RX9) (T := TX9) (N := 78) hx hb hts in_X9 hown hK hP 15 rfl rfl 71 (by decide) (hts _ kX9_112) (fun _ h9 => h9) (k71_g_110) dX9_encode_63 ?_
          refine lv_iload_n hx hb dX9_encode_66 rfl (lv_at hl 2 rfl) ?_
          refine ax_ild hx hb hK hP 5 0 rfl rfl L1.length (rfl) (by omega) (by omega) dX9_encode_67 ?_
          refine ri (y := nI ad) (x4) ?_
          refine lv_i2l hx hb dX9_encode_68 (v := (nI ad).toInt64) rfl ?_
          refine rl (y := lN ad) (nI_l (by omega)) ?_
          refine jn_v (wr := [(Mtab, .inl (cB, 1536, .inl mtab)), (Mu, .inl (cB, 8000, .inl mu)), (MqKind, .inl (cI, 4100, .inl mqKind)), (MqSize, .inl (cI, 4100, .inl mqSize)), (MqAt, .inl (cI, 4100, .inl mqAt)), (MqAddress, .inl (cI, 4100, .inl mqAddress)), (MqMode, .inl (cI, 4100, .inl (upd m7 L1.length (nI (chMode near same ad p9 cN cS))))), (MsData, .inl (cB, 8000, .inl da7)), (MsCodes, .inl (cB, 30000, .inl msCodes)), (MdKind, .inl (cI, 4000, .inl mdKind)), (MdSize, .inl (cI, 4000, .inl mdSize)), (MdAddress, .inl (cI, 4000, .inl mdAddress)), (MdMode, .inl (cI, 4000, .inl mdMode)), (MdCode, .inl (cI, 4000, .inl mdCode)), (MdWindow, .inl (cI, 4000, .inl mdWindow)), (MsAddresses, .inl (cB, 30000, .inl ad8))]) hA hP hD hS [15, 16, 17] [0, 1, 2, 3, 4, 5, 6, 7, 8, 9, 10, 11, 12, 13, 14, 18] rfl rfl (by decide) (by decide) (rn_V (As := [.long (lN ad)]) (rest := []) ⟨hx, hb, hml, hown, hts⟩ (cvV 1 hts zc_yX9_remember zi_X9 zm_yX9_remember zv_yX9_remember kX9_312 (by decide +kernel) rfl rfl ⟨Nat.le_of_ble_eq_true rfl, Nat.le_of_ble_eq_true rfl⟩) (m_remember l D cI cB cJ cR mm g_110 Mnears Msames fn7 fs7 near same nx ad cN cS (k8_g_110) (k9_g_110) (k11_g_110) (k10_g_110) (k12_g_110) (h8) (h4) (hnx) (by omega) (hc) H.size) hK hNw hMk hA hP hD hS [15, 16, 17] rfl rfl (by decide) 0 rfl rfl rfl rfl hl.1 rfl (Nat.le_of_ble_eq_true rfl) dX9_encode_69 ⟨Nat.le_of_ble_eq_true rfl, Nat.le_of_ble_eq_true rfl⟩) (fun u9 H locs hre hP hD hS => ?_)
          obtain ⟨g_111, fn8, fs8⟩ := u9
          try dsimp only at hre
          have hP : va_P D vwCl [(Mtab, .inl (cB, 1536, .inl mtab)), (Mu, .inl (cB, 8000, .inl mu)), (MqKind, .inl (cI, 4100, .inl mqKind)), (MqSize, .inl (cI, 4100, .inl mqSize)), (MqAt, .inl (cI, 4100, .inl mqAt)), (MqAddress, .inl (cI, 4100, .inl mqAddress)), (MqMode, .inl (cI, 4100, .inl (upd m7 L1.length (nI (chMode near same ad p9 cN cS))))), (MsData, .inl (cB, 8000, .inl da7)), (MsCodes, .inl (cB, 30000, .inl msCodes)), (MdKind, .inl (cI, 4000, .inl mdKind)), (MdSize, .inl (cI, 4000, .inl mdSize)), (MdAddress, .inl (cI, 4000, .inl mdAddress)), (MdMode, .inl (cI, 4000, .inl mdMode)), (MdCode, .inl (cI, 4000, .inl mdCode)), (MdWindow, .inl (cI, 4000, .inl mdWindow)), (MsAddresses, .inl (cB, 30000, .inl ad8)), (mm, .inr (9, fl 78 g_111)), (Mnears, .inl (cJ, 8, .inr (.inl fn8))), (Msames, .inl (cJ, 1024, .inr (.inl fs8)))] H := hP
          have hD : va_D A0 [(Mtab, .inl (cB, 1536, .inl mtab)), (Mu, .inl (cB, 8000, .inl mu)), (MqKind, .inl (cI, 4100, .inl mqKind)), (MqSize, .inl (cI, 4100, .inl mqSize)), (MqAt, .inl (cI, 4100, .inl mqAt)), (MqAddress, .inl (cI, 4100, .inl mqAddress)), (MqMode, .inl (cI, 4100, .inl (upd m7 L1.length (nI (chMode near same ad p9 cN cS))))), (MsData, .inl (cB, 8000, .inl da7)), (MsCodes, .inl (cB, 30000, .inl msCodes)), (MdKind, .inl (cI, 4000, .inl mdKind)), (MdSize, .inl (cI, 4000, .inl mdSize)), (MdAddress, .inl (cI, 4000, .inl mdAddress)), (MdMode, .inl (cI, 4000, .inl mdMode)), (MdCode, .inl (cI, 4000, .inl mdCode)), (MdWindow, .inl (cI, 4000, .inl mdWindow)), (MsAddresses, .inl (cB, 30000, .inl ad8)), (mm, .inr (9, fl 78 g_111)), (Mnears, .inl (cJ, 8, .inr (.inl fn8))), (Msames, .inl (cJ, 1024, .inr (.inl fs8)))] := hD
          obtain ⟨f_hre, nextNear_hre, hre_⟩ := hre
          have k8_g_111 : g_111 8 = .int (nI near) := (f_hre 8 (by decide)).trans (k8_g_110)
          have k9_g_111 : g_111 9 = .int (nI same) := (f_hre 9 (by decide)).trans (k9_g_110)
          have k67_g_111 : g_111 67 = .int (nI L.length) := (f_hre 67 (by decide)).trans (k67_g_110)
          have k39_g_111 : g_111 39 = .int (bI ct) := (f_hre 39 (by decide)).trans (k39_g_110)
          have k7_g_111 : g_111 7 = .ref Mtab := (f_hre 7 (by decide)).trans (k7_g_110)
          have k10_g_111 : g_111 10 = .ref Mnears := (f_hre 10 (by decide)).trans (k10_g_110)
          have k12_g_111 : g_111 12 = .ref Msames := (f_hre 12 (by decide)).trans (k12_g_110)
          have k64_g_111 : g_111 64 = .ref Mu := (f_hre 64 (by decide)).trans (k64_g_110)
          have k68_g_111 : g_111 68 = .ref MqKind := (f_hre 68 (by decide)).trans (k68_g_110)
          have k69_g_111 : g_111 69 = .ref MqSize := (f_hre 69 (by decide)).trans (k69_g_110)
          have k70_g_111 : g_111 70 = .ref MqAt := (f_hre 70 (by decide)).trans (k70_g_110)
          have k71_g_111 : g_111 71 = .ref MqAddress := (f_hre 71 (by decide)).trans (k71_g_110)
          have k72_g_111 : g_111 72 = .ref MqMode := (f_hre 72 (by decide)).trans (k72_g_110)
          have k58_g_111 : g_111 58 = .ref MsData := (f_hre 58 (by decide)).trans (k58_g_110)
          have k60_g_111 : g_111 60 = .ref MsCodes := (f_hre 60 (by decide)).trans (k60_g_110)
          have k62_g_111 : g_111 62 = .ref MsAddresses := (f_hre 62 (by decide)).trans (k62_g_110)
          have k21_g_111 : g_111 21 = .ref MdKind := (f_hre 21 (by decide)).trans (k21_g_110)
          have k22_g_111 : g_111 22 = .ref MdSize := (f_hre 22 (by decide)).trans (k22_g_110)
          have k23_g_111 : g_111 23 = .ref MdAddress := (f_hre 23 (by decide)).trans (k23_g_110)
          have k24_g_111 : g_111 24 = .ref MdMode := (f_hre 24 (by decide)).trans (k24_g_110)
          have k25_g_111 : g_111 25 = .ref MdCode := (f_hre 25 (by decide)).trans (k25_g_110)
          have k26_g_111 : g_111 26 = .ref MdWindow := (f_hre 26 (by decide)).trans (k26_g_110)
          have k59_g_111 : g_111 59 = .int (nI Dl.length) := (f_hre 59 (by decide)).trans (k59_g_110)
          have k61_g_111 : g_111 61 = .int (nI ([] : List Int32).length) := (f_hre 61 (by decide)).trans (k61_g_110)
          have k20_g_111 : g_111 20 = .int (nI dr) := (f_hre 20 (by decide)).trans (k20_g_110)
          have k63_g_111 : g_111 63 = .int (nI (A ++ adL near ad p9 (chMode near same ad p9 cN cS) cN).length) := (f_hre 63 (by decide)).trans (sAddress_hmf)
          have fr_g_111 : frm [20, 59, 61, 63, 11] g g_111 := frm_tr fr_g_110 f_hre (by decide)
          refine lv_goto (tgt := 144) hx hb dX9_encode_72 (by decide) ?_
          refine lv_iinc (v := nI (L1.length + 1)) (lv' := [(2, .int (nI (L1.length + 1))), (0, .ref mm), (1, .int (nI wi))]) hx hb dX9_encode_144 hl (k := 2) rfl (nI_add L1.length 1) (by decide) rfl (fun ls hl => ?_)
          refine lv_goto (tgt := 21) hx hb dX9_encode_147 (by decide) ?_
          rw [show L1.length + 1 = (L1 ++ [(3, z, p9, ad)]).length by simp] at hl
          exact ih g_111 (L1 ++ [(3, z, p9, ad)]) L3 (decide (3 = 1)) (p9 + z) Dl (A ++ adL near ad p9 (chMode near same ad p9 cN cS) cN) (kpX near nx) (kpN near nx ad cN) (kpS same ad cS) (Q1 ++ [(3, z, ad, (chMode near same ad p9 cN cS))]) fn8 fs8 (upd m7 L1.length (nI (chMode near same ad p9 cN cS))) da7 ad8 _ _ ls (by simp at hk9 ⊢; omega) (fr_g_111) (k59_g_111) (k61_g_111) (k63_g_111) (nextNear_hre) (k20_g_111) (by rw [hL]; simp) (by simp; exact hQl) (hR) (t6) (by omega) (by omega) (by rw [List.length_append]; omega) (by simp; omega) (kpX_ok h8 hnx) (hre_) (fun j hj => kpN_lt (by omega) hcN j hj) (fun j hj => kpS_lt (by omega) hcS j hj) (by rw [← hQl]; exact qM_up (x := (3, z, ad, (chMode near same ad p9 cN cS))) hqm (by rw [hQl]; exact x1) (by rw [hQl]; exact x2) (by rw [hQl]; exact x4) rfl) (fun i hi hi2 => by simp at hi; rw [pk_un (by omega)]; exact hm0 i (by omega) hi2) (hwD) (mf2) (hP.sub [16, 0, 1, 2, 3, 4, 5, 6, 7, 8, 15, 9, 10, 11, 12, 13, 14, 17, 18] rfl) (hD.sub [16, 0, 1, 2, 3, 4, 5, 6, 7, 8, 15, 9, 10, 11, 12, 13, 14, 17, 18] (by decide) rfl) hS (lv_sub hl [1, 2, 0] rfl)
  have hcb0 : ∀ j, j < 8 → (fun _ => 0 : Nat → Nat) j < 2 ^ 30 := fun j hj => (by decide : 0 < 2 ^ 30)
  have hcb1 : ∀ j, j < 1024 → (fun _ => 0 : Nat → Nat) j < 2 ^ 30 := fun j hj => (by decide : 0 < 2 ^ 30)
  exact l1 _ (va_up (va_up (va_up g_1 59 (.int (nI ([] : List Int32).length))) 61 (.int (nI ([] : List Int32).length))) 63 (.int (nI ([] : List Int32).length))) ([]) L false sg ([]) ([]) 0 (fun _ => 0) (fun _ => 0) ([]) fnb fsb mqMode msData msAddresses _ _ ls (Nat.lt_succ_self _) ((frm_up (frm_up (frm_up fr_g_1 (by decide)) (by decide)) (by decide))) (rfl) (rfl) (rfl) (nextNear_hcl) (k20_g_1) (rfl) (rfl) (hR9) (htl) (⟨Nat.le_refl _, hse⟩) (Nat.zero_le _) (Nat.zero_le _) (Nat.zero_le _) (⟨by decide, fun z => z⟩) (hcl_) (hcb0) (hcb1) (fun i hi => absurd hi (Nat.not_lt_zero i)) (fun i _ hi => (hq i hi).2.2.2.2) (fun j hj => absurd hj (Nat.not_lt_zero j)) (fun j hj => absurd hj (Nat.not_lt_zero j)) (hP.sub [16, 0, 1, 2, 3, 4, 5, 6, 7, 8, 9, 10, 11, 12, 13, 14, 15, 17, 18] rfl) (hD.sub [16, 0, 1, 2, 3, 4, 5, 6, 7, 8, 9, 10, 11, 12, 13, 14, 15, 17, 18] (by decide) rfl) hS (lv_sub hl [1, 2, 0] rfl)
