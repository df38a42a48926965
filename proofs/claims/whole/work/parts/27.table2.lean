/-! CODES IN CHAINS: heads and nexts; the least code that fits -/
def srtIs (t : Nat → Nat) (fh fx : Nat → Int32) : Prop := (∀ x, x < 256 → fh x = nxC (chq t) x 256 0) ∧ ∀ j, j < 256 → fx j = nxC (chq t) (chq t j) (255 - j) (j + 1)
theorem nI_m1 {c : Nat} : nI (c + 1) + (-1) = nI c := pk_m1 c
theorem srt_g {t : Nat → Nat} {g : Nat → Int32} {j : Nat} (hj : j + 1 ≤ 256) (hg : ∀ x, x < 256 → g x = nxC (chq t) x (256 - (j + 1)) (j + 1)) (x : Nat) (hx : x < 256) : upd g (chq t j) (nI j) x = nxC (chq t) x (256 - j) j := by
  rw [show 256 - j = (256 - (j + 1)) + 1 by omega, nxC, fstC]
  by_cases h : x = chq t j
  · subst h; rw [pk_us, if_pos (by simp)]
  · rw [pk_un h, if_neg (by simp; exact fun q => h q.symm)]; exact hg x hx
theorem srt_y {t : Nat → Nat} {g y : Nat → Int32} {j : Nat} (hj : j + 1 ≤ 256) (hg : ∀ x, x < 256 → g x = nxC (chq t) x (256 - (j + 1)) (j + 1)) (hq : chq t j < 256) (hy : ∀ i, j + 1 ≤ i → i < 256 → y i = nxC (chq t) (chq t i) (255 - i) (i + 1)) (i : Nat) (h1 : j ≤ i) (h2 : i < 256) : upd y j (g (chq t j)) i = nxC (chq t) (chq t i) (255 - i) (i + 1) := by
  by_cases h : i = j
  · subst h; rw [pk_us, hg _ hq, show 256 - (i + 1) = 255 - i by omega]
  · rw [pk_un h]; exact hy i (by omega) h2
/-- the least code for one instruction alone; for two -/
def sngP (t : Nat → Nat) (k s m : Nat) (c : Nat) : Bool := decide (t (256 + c) = 0) && fitB t c 0 k s m
def prP (t : Nat → Nat) (k s m k2 s2 m2 : Nat) (c : Nat) : Bool := fitB t c 1 k2 s2 m2 && fitB t c 0 k s m
theorem walk_next {q : Nat → Nat} {x lo c : Nat} (h : nxC q x (256 - lo) lo = nI c) (hl : lo ≤ 256) (hc : c < 256) : lo ≤ c ∧ q c = x ∧ (∀ d, lo ≤ d → d < c → ¬ q d = x) ∧ c < 256 := by
  have hn : ¬ nxC q x (256 - lo) lo < 0 := by rw [h]; exact nI_pos (by omega)
  obtain ⟨c2, h1, h2, h3, h4, h5⟩ := fst_pos _ _ hn
  have he : c = c2 := (nI_eq (by omega) (by omega)).mp (h.symm.trans h1)
  subst he
  exact ⟨h2, of_decide_eq_true h4, fun d d1 d2 => of_decide_eq_false (h5 d d1 d2), hc⟩
theorem walk_none {P : Nat → Bool} {q : Nat → Nat} {x lo : Nat} (hP : ∀ c, P c = true → q c = x) (hno : ∀ d, d < lo → P d = false) (h : nxC q x (256 - lo) lo < 0) (hl : lo ≤ 256) : fstC P 256 0 = -1 := by
  refine fst_none 256 0 (fun c _ hc => ?_)
  by_cases z : c < lo
  · exact hno c z
  · refine Bool.eq_false_iff.mpr (fun z3 => ?_)
    have z4 := fst_neg _ _ (by omega) h c (by omega) (by omega)
    exact of_decide_eq_false z4 (hP c z3)
theorem walk_step {P : Nat → Bool} {q : Nat → Nat} {x lo c : Nat} (hP : ∀ c, P c = true → q c = x) (hno : ∀ d, d < lo → P d = false) (w3 : ∀ d, lo ≤ d → d < c → ¬ q d = x) (hc : P c = false) : ∀ d, d < c + 1 → P d = false := by
  intro d hd
  by_cases z : d < lo
  · exact hno d z
  · by_cases z2 : d = c
    · rw [z2]; exact hc
    · exact Bool.eq_false_iff.mpr (fun z3 => w3 d (by omega) (by omega) (hP d z3))
theorem walk_found {P : Nat → Bool} {q : Nat → Nat} {x lo c : Nat} (hP : ∀ c, P c = true → q c = x) (hno : ∀ d, d < lo → P d = false) (w3 : ∀ d, lo ≤ d → d < c → ¬ q d = x) (hc : P c = true) (hc6 : c < 256) : fstC P 256 0 = nI c :=
  fst_at 256 0 c (Nat.zero_le _) (by omega) hc (fun d _ hd => if z : d < lo then hno d z else Bool.eq_false_iff.mpr (fun z3 => w3 d (by omega) hd (hP d z3)))
theorem sng_chn {t : Nat → Nat} {k s m : Nat} : ∀ c, sngP t k s m c = true → chq t c = chn k s m := fun c h => fit_chn (by simp only [sngP, Bool.and_eq_true] at h; exact h.2)
theorem pr_chn {t : Nat → Nat} {k s m k2 s2 m2 : Nat} : ∀ c, prP t k s m k2 s2 m2 c = true → chq t c = chn k s m := fun c h => fit_chn (by simp only [prP, Bool.and_eq_true] at h; exact h.2)
set_option maxHeartbeats 4000000 in
set_option maxRecDepth 100000 in
theorem c_Table_sortCodes (l : Launch) (D : va_G) (cI cB cJ cR : ClassId) (t : Nat) (sr : Nat) (so : Nat) (tn : Nat) (ts : Nat) (hd : Nat) (nt : Nat) (sf : Nat → Int32) (tt : Nat → Nat) (fh : Nat → Int32) (fx : Nat → Int32) (ht : tabIs sf tt) : CMv l yX6_sortCodes cX6_sortCodes 3 none ({ frames := 2, cells := 0, slots := 0, locals := 43 }) D (tyA cI cB cJ cR) 0 0 [.ref t] [(t, .inr (6, [.ref sr, .int (nI tn), .int (nI ts), .ref hd, .ref nt])), (sr, .inr (4, [.ref so, .int (nI 1536), .int 0])), (so, .inl (cI, 1536, .inl sf)), (hd, .inl (cI, 256, .inl fh)), (nt, .inl (cI, 256, .inl fx))] (fun (u9 : (Nat → Int32) × (Nat → Int32)) => match u9 with | (fh2, fx2) => srtIs tt fh2 fx2) (fun (u9 : (Nat → Int32) × (Nat → Int32)) => match u9 with | (fh2, fx2) => [(t, .inr (6, [.ref sr, .int (nI tn), .int (nI ts), .ref hd, .ref nt])), (sr, .inr (4, [.ref so, .int (nI 1536), .int 0])), (so, .inl (cI, 1536, .inl sf)), (hd, .inl (cI, 256, .inl fh2)), (nt, .inl (cI, 256, .inl fx2))]) := by
  refine st_v (cc := cX6_sortCodes) (maxL := 3) (by decide) (Nat.le_of_ble_eq_true rfl) ?_
  intro p0 e0 s0 m0 below meth c0 A0 Q0 hBD hret hP hD hS ls hl
  obtain ⟨hx, hb, hml, hown, hts, hnm, hK, hNw, hMk, hA⟩ := hBD
  have hl : lv_has ls 3 [(0, .ref t)] := hl
  have hP : va_P D vwCl [(t, .inr (6, [.ref sr, .int (nI tn), .int (nI ts), .ref hd, .ref nt])), (sr, .inr (4, [.ref so, .int (nI 1536), .int 0])), (so, .inl (cI, 1536, .inl sf)), (hd, .inl (cI, 256, .inl fh)), (nt, .inl (cI, 256, .inl fx))] s0.heap := hP
  have hD : va_D A0 [(t, .inr (6, [.ref sr, .int (nI tn), .int (nI ts), .ref hd, .ref nt])), (sr, .inr (4, [.ref so, .int (nI 1536), .int 0])), (so, .inl (cI, 1536, .inl sf)), (hd, .inl (cI, 256, .inl fh)), (nt, .inl (cI, 256, .inl fx))] := hD
  refine lv_aload_n hx hb dX6_sortCodes_0 rfl (lv_at hl 0 rfl) ?_
  refine va_get (D := D) (ci := 6) (v := .ref hd) (C := RX6) (T := TX6) (N := 5) hx hb hts in_X6 hown hK hP 0 rfl rfl 3 (by decide) (hts _ kX6_20) (fun _ h9 => h9) rfl dX6_sortCodes_1 ?_
  refine lv_iconst (v := -1) hx hb dX6_sortCodes_4 (by decide) ?_
  refine jn_v (wr := [(t, .inr (6, [.ref sr, .int (nI tn), .int (nI ts), .ref hd, .ref nt])), (sr, .inr (4, [.ref so, .int (nI 1536), .int 0])), (so, .inl (cI, 1536, .inl sf)), (nt, .inl (cI, 256, .inl fx))]) hA hP hD hS [3] [0, 1, 2, 4] rfl rfl (by decide) (by decide) (rn_S (As := [.ref hd, .int (-1)]) (rest := []) ⟨hx, hb, hml, hown, hts⟩ (cvS 2 hts zc_yJ7_fill_53178 zi_J7 zs_yJ7_fill_53178 kX6_44 (by decide +kernel) rfl rfl ⟨Nat.le_of_ble_eq_true rfl, Nat.le_of_ble_eq_true rfl⟩) (c_fill l D cI cB cJ cR hd 256 fh (-1) (by decide) s0.heap.size) hK hNw hMk hA hP hD hS [3] rfl rfl (by decide) rfl hl.1 rfl (Nat.le_of_ble_eq_true rfl) dX6_sortCodes_5 ⟨Nat.le_of_ble_eq_true rfl, Nat.le_of_ble_eq_true rfl⟩) (fun u9 H locs hfl hP hD hS => ?_)
  obtain ⟨fh1, rfl⟩ : ∃ z9, z9 = u9 := ⟨_, rfl⟩
  try dsimp only at hfl
  have hP : va_P D vwCl [(t, .inr (6, [.ref sr, .int (nI tn), .int (nI ts), .ref hd, .ref nt])), (sr, .inr (4, [.ref so, .int (nI 1536), .int 0])), (so, .inl (cI, 1536, .inl sf)), (nt, .inl (cI, 256, .inl fx)), (hd, .inl (cI, 256, .inl fh1))] H := hP
  have hD : va_D A0 [(t, .inr (6, [.ref sr, .int (nI tn), .int (nI ts), .ref hd, .ref nt])), (sr, .inr (4, [.ref so, .int (nI 1536), .int 0])), (so, .inl (cI, 1536, .inl sf)), (nt, .inl (cI, 256, .inl fx)), (hd, .inl (cI, 256, .inl fh1))] := hD
  refine lv_sipush (v := 255) hx hb dX6_sortCodes_8 (by decide) ?_
  refine lv_istore_n (lv' := [(1, .int 255), (0, .ref t)]) hx hb dX6_sortCodes_11 rfl hl (by decide) rfl (fun ls hl => ?_)
  have loop : ∀ (k9 : Nat) (k : Nat) (g : Nat → Int32) (y : Nat → Int32) (H : Heap) (locs : List Loc) (ls : Array Slot), k < k9 → (k ≤ 256) → (∀ x, x < 256 → g x = nxC (chq tt) x (256 - k) k) → (∀ i, k ≤ i → i < 256 → y i = nxC (chq tt) (chq tt i) (255 - i) (i + 1)) → va_P D vwCl [(t, .inr (6, [.ref sr, .int (nI tn), .int (nI ts), .ref hd, .ref nt])), (sr, .inr (4, [.ref so, .int (nI 1536), .int 0])), (so, .inl (cI, 1536, .inl sf)), (hd, .inl (cI, 256, .inl g)), (nt, .inl (cI, 256, .inl y))] H → va_D A0 [(t, .inr (6, [.ref sr, .int (nI tn), .int (nI ts), .ref hd, .ref nt])), (sr, .inr (4, [.ref so, .int (nI 1536), .int 0])), (so, .inl (cI, 1536, .inl sf)), (hd, .inl (cI, 256, .inl g)), (nt, .inl (cI, 256, .inl y))] → va_S A0 s0.heap H locs → lv_has ls 3 [(0, .ref t), (1, .int (nI k + (-1)))] → W p0 l e0 ({ frames := 2, cells := 0, slots := 0, locals := 43 }) s0 m0 ([.ref t] : List Value).toArray below meth c0 H locs 0 0 Q0 (F0 m0 12 ls []) := by
    intro k9
    induction k9 with
    | zero => intro k g y H locs ls hk9; exact absurd hk9 (Nat.not_lt_zero _)
    | succ k9 ih =>
      intro k g y H locs ls hk9 hk hg hy hP hD hS hl
      refine lv_iload_n hx hb dX6_sortCodes_12 rfl (lv_at hl 1 rfl) ?_
      refine lv_if_lt (tgt := 63) hx hb dX6_sortCodes_13 (by decide) (fun c_2 => ?_) (fun c_2 => ?_)
      · have hk0 : k = 0 := Decidable.byContradiction (fun z => by obtain ⟨j, rfl⟩ : ∃ j, k = j + 1 := ⟨k - 1, by omega⟩; rw [pk_m1] at c_2; exact absurd c_2 (nI_pos (by omega)))
        subst hk0
        exact hret 63 ls _ _ (g, y) dX6_sortCodes_63 hP hD hS (⟨hg, fun j hj => hy j (Nat.zero_le _) hj⟩)
      · obtain ⟨j, rfl⟩ : ∃ j, k = j + 1 := ⟨k - 1, by have : k ≠ 0 := fun z => c_2 (by rw [z]; decide); omega⟩
        rw [pk_m1] at hl
        refine lv_aload_n hx hb dX6_sortCodes_16 rfl (lv_at hl 0 rfl) ?_
        refine lv_iload_n hx hb dX6_sortCodes_17 rfl (lv_at hl 1 rfl) ?_
        refine lv_iconst (v := 0) hx hb dX6_sortCodes_18 (by decide) ?_
        refine jn_i (wr := [(hd, .inl (cI, 256, .inl g)), (nt, .inl (cI, 256, .inl y))]) hA hP hD hS [0, 1, 2] [3, 4] rfl rfl (by decide) (by decide) (rn_V (As := [.int (nI j), .int (nI 0)]) (rest := []) ⟨hx, hb, hml, hown, hts⟩ (cvV 2 hts zc_yX6_kindOf zi_X6 zm_yX6_kindOf zv_yX6_kindOf kX6_61 (by decide +kernel) rfl rfl ⟨Nat.le_of_ble_eq_true rfl, Nat.le_of_ble_eq_true rfl⟩) (c_Table_kindOf l D cI cB cJ cR t sr so tn ts hd nt sf tt j 0 (ht) (by omega) (by decide) H.size) hK hNw hMk hA hP hD hS [0, 1, 2] rfl rfl (by decide) 0 rfl rfl rfl rfl hl.1 rfl (Nat.le_of_ble_eq_true rfl) dX6_sortCodes_19 ⟨Nat.le_of_ble_eq_true rfl, Nat.le_of_ble_eq_true rfl⟩) (fun r_3 u9 H locs w_4 hP hD hS => ?_)
        try dsimp only at w_4
        have hP : va_P D vwCl [(hd, .inl (cI, 256, .inl g)), (nt, .inl (cI, 256, .inl y)), (t, .inr (6, [.ref sr, .int (nI tn), .int (nI ts), .ref hd, .ref nt])), (sr, .inr (4, [.ref so, .int (nI 1536), .int 0])), (so, .inl (cI, 1536, .inl sf))] H := hP
        have hD : va_D A0 [(hd, .inl (cI, 256, .inl g)), (nt, .inl (cI, 256, .inl y)), (t, .inr (6, [.ref sr, .int (nI tn), .int (nI ts), .ref hd, .ref nt])), (sr, .inr (4, [.ref so, .int (nI 1536), .int 0])), (so, .inl (cI, 1536, .inl sf))] := hD
        rw [Nat.zero_mul, Nat.zero_add] at w_4
        subst w_4
        refine lv_aload_n hx hb dX6_sortCodes_22 rfl (lv_at hl 0 rfl) ?_
        refine lv_iload_n hx hb dX6_sortCodes_23 rfl (lv_at hl 1 rfl) ?_
        refine lv_iconst (v := 0) hx hb dX6_sortCodes_24 (by decide) ?_
        refine jn_i (wr := [(hd, .inl (cI, 256, .inl g)), (nt, .inl (cI, 256, .inl y))]) hA hP hD hS [2, 3, 4] [0, 1] rfl rfl (by decide) (by decide) (rn_V (As := [.int (nI j), .int (nI 0)]) (rest := [.int (nI (tt j))]) ⟨hx, hb, hml, hown, hts⟩ (cvV 2 hts zc_yX6_sizeOf zi_X6 zm_yX6_sizeOf zv_yX6_sizeOf kX6_64 (by decide +kernel) rfl rfl ⟨Nat.le_of_ble_eq_true rfl, Nat.le_of_ble_eq_true rfl⟩) (c_Table_sizeOf l D cI cB cJ cR t sr so tn ts hd nt sf tt j 0 (ht) (by omega) (by decide) H.size) hK hNw hMk hA hP hD hS [2, 3, 4] rfl rfl (by decide) 0 rfl rfl rfl rfl hl.1 rfl (Nat.le_of_ble_eq_true rfl) dX6_sortCodes_25 ⟨Nat.le_of_ble_eq_true rfl, Nat.le_of_ble_eq_true rfl⟩) (fun r_5 u9 H locs w_6 hP hD hS => ?_)
        try dsimp only at w_6
        have hP : va_P D vwCl [(hd, .inl (cI, 256, .inl g)), (nt, .inl (cI, 256, .inl y)), (t, .inr (6, [.ref sr, .int (nI tn), .int (nI ts), .ref hd, .ref nt])), (sr, .inr (4, [.ref so, .int (nI 1536), .int 0])), (so, .inl (cI, 1536, .inl sf))] H := hP
        have hD : va_D A0 [(hd, .inl (cI, 256, .inl g)), (nt, .inl (cI, 256, .inl y)), (t, .inr (6, [.ref sr, .int (nI tn), .int (nI ts), .ref hd, .ref nt])), (sr, .inr (4, [.ref so, .int (nI 1536), .int 0])), (so, .inl (cI, 1536, .inl sf))] := hD
        rw [Nat.zero_mul, Nat.add_zero] at w_6
        subst w_6
        refine lv_aload_n hx hb dX6_sortCodes_28 rfl (lv_at hl 0 rfl) ?_
        refine lv_iload_n hx hb dX6_sortCodes_29 rfl (lv_at hl 1 rfl) ?_
        refine lv_iconst (v := 0) hx hb dX6_sortCodes_30 (by decide) ?_
        refine jn_i (wr := [(hd, .inl (cI, 256, .inl g)), (nt, .inl (cI, 256, .inl y))]) hA hP hD hS [2, 3, 4] [0, 1] rfl rfl (by decide) (by decide) (rn_V (As := [.int (nI j), .int (nI 0)]) (rest := [.int (nI (tt (512 + j))), .int (nI (tt j))]) ⟨hx, hb, hml, hown, hts⟩ (cvV 2 hts zc_yX6_modeOf zi_X6 zm_yX6_modeOf zv_yX6_modeOf kX6_67 (by decide +kernel) rfl rfl ⟨Nat.le_of_ble_eq_true rfl, Nat.le_of_ble_eq_true rfl⟩) (c_Table_modeOf l D cI cB cJ cR t sr so tn ts hd nt sf tt j 0 (ht) (by omega) (by decide) H.size) hK hNw hMk hA hP hD hS [2, 3, 4] rfl rfl (by decide) 0 rfl rfl rfl rfl hl.1 rfl (Nat.le_of_ble_eq_true rfl) dX6_sortCodes_31 ⟨Nat.le_of_ble_eq_true rfl, Nat.le_of_ble_eq_true rfl⟩) (fun r_7 u9 H locs w_8 hP hD hS => ?_)
        try dsimp only at w_8
        have hP : va_P D vwCl [(hd, .inl (cI, 256, .inl g)), (nt, .inl (cI, 256, .inl y)), (t, .inr (6, [.ref sr, .int (nI tn), .int (nI ts), .ref hd, .ref nt])), (sr, .inr (4, [.ref so, .int (nI 1536), .int 0])), (so, .inl (cI, 1536, .inl sf))] H := hP
        have hD : va_D A0 [(hd, .inl (cI, 256, .inl g)), (nt, .inl (cI, 256, .inl y)), (t, .inr (6, [.ref sr, .int (nI tn), .int (nI ts), .ref hd, .ref nt])), (sr, .inr (4, [.ref so, .int (nI 1536), .int 0])), (so, .inl (cI, 1536, .inl sf))] := hD
        rw [Nat.zero_mul, Nat.add_zero] at w_8
        subst w_8
        have e0 := (ht j (by omega)).2
        have e1 := (ht (512 + j) (by omega)).2
        have e2 := (ht (1024 + j) (by omega)).2
        refine jn_i (wr := [(hd, .inl (cI, 256, .inl g)), (nt, .inl (cI, 256, .inl y)), (t, .inr (6, [.ref sr, .int (nI tn), .int (nI ts), .ref hd, .ref nt])), (sr, .inr (4, [.ref so, .int (nI 1536), .int 0])), (so, .inl (cI, 1536, .inl sf))]) hA hP hD hS [] [0, 1, 2, 3, 4] rfl rfl (by decide) (by decide) (rn_S (As := [.int (nI (tt j)), .int (nI (tt (512 + j))), .int (nI (tt (1024 + j)))]) (rest := []) ⟨hx, hb, hml, hown, hts⟩ (cvS 3 hts zc_yX6_chainOf zi_X6 zs_yX6_chainOf kX6_70 (by decide +kernel) rfl rfl ⟨Nat.le_of_ble_eq_true rfl, Nat.le_of_ble_eq_true rfl⟩) (c_Table_chainOf l D cI cB cJ cR (tt j) (tt (512 + j)) (tt (1024 + j)) (by omega) (by omega) (by omega) H.size) hK hNw hMk hA hP hD hS [] rfl rfl (by decide) rfl hl.1 rfl (Nat.le_of_ble_eq_true rfl) dX6_sortCodes_34 ⟨Nat.le_of_ble_eq_true rfl, Nat.le_of_ble_eq_true rfl⟩) (fun r_9 u9 H locs w_10 hP hD hS => ?_)
        try dsimp only at w_10
        have hP : va_P D vwCl [(hd, .inl (cI, 256, .inl g)), (nt, .inl (cI, 256, .inl y)), (t, .inr (6, [.ref sr, .int (nI tn), .int (nI ts), .ref hd, .ref nt])), (sr, .inr (4, [.ref so, .int (nI 1536), .int 0])), (so, .inl (cI, 1536, .inl sf))] H := hP
        have hD : va_D A0 [(hd, .inl (cI, 256, .inl g)), (nt, .inl (cI, 256, .inl y)), (t, .inr (6, [.ref sr, .int (nI tn), .int (nI ts), .ref hd, .ref nt])), (sr, .inr (4, [.ref so, .int (nI 1536), .int 0])), (so, .inl (cI, 1536, .inl sf))] := hD
        change r_9 = nI (chq tt j) at w_10
        subst w_10
        have hq := chn_lt (tt j) (tt (512 + j)) (tt (1024 + j))
        change chq tt j < 256 at hq
        refine lv_istore_n (lv' := [(2, .int (nI (chq tt j))), (0, .ref t), (1, .int (nI j))]) hx hb dX6_sortCodes_37 rfl hl (by decide) rfl (fun ls hl => ?_)
        refine lv_aload_n hx hb dX6_sortCodes_38 rfl (lv_at hl 1 rfl) ?_
        refine va_get (D := D) (ci := 6) (v := .ref nt) (C := RX6) (T := TX6) (N := 5) hx hb hts in_X6 hown hK hP 2 rfl rfl 4 (by decide) (hts _ kX6_24) (fun _ h9 => h9) rfl dX6_sortCodes_39 ?_
        refine lv_iload_n hx hb dX6_sortCodes_42 rfl (lv_at hl 2 rfl) ?_
        refine lv_aload_n hx hb dX6_sortCodes_43 rfl (lv_at hl 1 rfl) ?_
        refine va_get (D := D) (ci := 6) (v := .ref hd) (C := RX6) (T := TX6) (N := 5) hx hb hts in_X6 hown hK hP 2 rfl rfl 3 (by decide) (hts _ kX6_20) (fun _ h9 => h9) rfl dX6_sortCodes_44 ?_
        refine lv_iload_n hx hb dX6_sortCodes_47 rfl (lv_at hl 0 rfl) ?_
        refine ax_ild hx hb hK hP 0 0 rfl rfl (chq tt j) (rfl) (hq) (by decide) dX6_sortCodes_48 ?_
        refine ax_ist hx hb hK hP hD hS 1 0 rfl rfl j (rfl) (by omega) (by decide) dX6_sortCodes_49 (fun H locs hP hD hS => ?_)
        have hP : va_P D vwCl [(hd, .inl (cI, 256, .inl g)), (nt, .inl (cI, 256, .inl (upd y j (g (chq tt j))))), (t, .inr (6, [.ref sr, .int (nI tn), .int (nI ts), .ref hd, .ref nt])), (sr, .inr (4, [.ref so, .int (nI 1536), .int 0])), (so, .inl (cI, 1536, .inl sf))] H := hP
        have hD : va_D A0 [(hd, .inl (cI, 256, .inl g)), (nt, .inl (cI, 256, .inl (upd y j (g (chq tt j))))), (t, .inr (6, [.ref sr, .int (nI tn), .int (nI ts), .ref hd, .ref nt])), (sr, .inr (4, [.ref so, .int (nI 1536), .int 0])), (so, .inl (cI, 1536, .inl sf))] := hD
        refine lv_aload_n hx hb dX6_sortCodes_50 rfl (lv_at hl 1 rfl) ?_
        refine va_get (D := D) (ci := 6) (v := .ref hd) (C := RX6) (T := TX6) (N := 5) hx hb hts in_X6 hown hK hP 2 rfl rfl 3 (by decide) (hts _ kX6_20) (fun _ h9 => h9) rfl dX6_sortCodes_51 ?_
        refine lv_iload_n hx hb dX6_sortCodes_54 rfl (lv_at hl 0 rfl) ?_
        refine lv_iload_n hx hb dX6_sortCodes_55 rfl (lv_at hl 2 rfl) ?_
        refine ax_ist hx hb hK hP hD hS 0 0 rfl rfl (chq tt j) (rfl) (hq) (by decide) dX6_sortCodes_56 (fun H locs hP hD hS => ?_)
        have hP : va_P D vwCl [(hd, .inl (cI, 256, .inl (upd g (chq tt j) (nI j)))), (nt, .inl (cI, 256, .inl (upd y j (g (chq tt j))))), (t, .inr (6, [.ref sr, .int (nI tn), .int (nI ts), .ref hd, .ref nt])), (sr, .inr (4, [.ref so, .int (nI 1536), .int 0])), (so, .inl (cI, 1536, .inl sf))] H := hP
        have hD : va_D A0 [(hd, .inl (cI, 256, .inl (upd g (chq tt j) (nI j)))), (nt, .inl (cI, 256, .inl (upd y j (g (chq tt j))))), (t, .inr (6, [.ref sr, .int (nI tn), .int (nI ts), .ref hd, .ref nt])), (sr, .inr (4, [.ref so, .int (nI 1536), .int 0])), (so, .inl (cI, 1536, .inl sf))] := hD
        refine lv_iinc (v := nI j + (-1)) (lv' := [(1, .int (nI j + (-1))), (2, .int (nI (chq tt j))), (0, .ref t)]) hx hb dX6_sortCodes_57 hl (k := 2) rfl rfl (by decide) rfl (fun ls hl => ?_)
        refine lv_goto (tgt := 12) hx hb dX6_sortCodes_60 (by decide) ?_
        exact ih j (upd g (chq tt j) (nI j)) (upd y j (g (chq tt j))) _ _ ls (by omega) (by omega) (fun x hx2 => srt_g hk hg x hx2) (fun i h1 h2 => srt_y hk hg hq hy i h1 h2) (hP.sub [2, 3, 4, 0, 1] rfl) (hD.sub [2, 3, 4, 0, 1] (by decide) rfl) hS (lv_sub hl [2, 0] rfl)
  have hl : lv_has ls 3 [(0, .ref t), (1, .int (nI 256 + (-1)))] := lv_sub hl [1, 0] rfl
  exact loop _ 256 fh1 fx _ _ ls (Nat.lt_succ_self _) (by decide) (fun x hx2 => hfl x hx2) (fun i h1 h2 => absurd h2 (by omega)) (hP.sub [0, 1, 2, 4, 3] rfl) (hD.sub [0, 1, 2, 4, 3] (by decide) rfl) hS (lv_sub hl [0, 1] rfl)

set_option maxHeartbeats 4000000 in
set_option maxRecDepth 100000 in
theorem c_Table_singleFor (l : Launch) (D : va_G) (cI cB cJ cR : ClassId) (t : Nat) (sr : Nat) (so : Nat) (tn : Nat) (ts : Nat) (hd : Nat) (nt : Nat) (sf : Nat → Int32) (tt : Nat → Nat) (fh : Nat → Int32) (fx : Nat → Int32) (k : Nat) (s : Nat) (md : Nat) (ht : tabIs sf tt) (hso : srtIs tt fh fx) (hk : k < 2 ^ 20) (hs : s < 2 ^ 20) (hm : md < 2 ^ 20) : CMi l yX6_singleFor cX6_singleFor 6 (some .int) ({ frames := 3, cells := 0, slots := 0, locals := 68 }) D (tyA cI cB cJ cR) 0 0 [.ref t, .int (nI k), .int (nI s), .int (nI md)] [(t, .inr (6, [.ref sr, .int (nI tn), .int (nI ts), .ref hd, .ref nt])), (sr, .inr (4, [.ref so, .int (nI 1536), .int 0])), (so, .inl (cI, 1536, .inl sf)), (hd, .inl (cI, 256, .inl fh)), (nt, .inl (cI, 256, .inl fx))] (fun (r : Int32) (_ : Unit) => r = fstC (sngP tt k s md) 256 0) (fun (_ : Unit) => [(t, .inr (6, [.ref sr, .int (nI tn), .int (nI ts), .ref hd, .ref nt])), (sr, .inr (4, [.ref so, .int (nI 1536), .int 0])), (so, .inl (cI, 1536, .inl sf)), (hd, .inl (cI, 256, .inl fh)), (nt, .inl (cI, 256, .inl fx))]) := by
  refine st_i (cc := cX6_singleFor) (maxL := 6) (by decide) (Nat.le_of_ble_eq_true rfl) ?_
  intro p0 e0 s0 m0 below meth c0 A0 Q0 hBD hret hP hD hS ls hl
  obtain ⟨hx, hb, hml, hown, hts, hnm, hK, hNw, hMk, hA⟩ := hBD
  have hl : lv_has ls 6 [(0, .ref t), (1, .int (nI k)), (2, .int (nI s)), (3, .int (nI md))] := hl
  have hP : va_P D vwCl [(t, .inr (6, [.ref sr, .int (nI tn), .int (nI ts), .ref hd, .ref nt])), (sr, .inr (4, [.ref so, .int (nI 1536), .int 0])), (so, .inl (cI, 1536, .inl sf)), (hd, .inl (cI, 256, .inl fh)), (nt, .inl (cI, 256, .inl fx))] s0.heap := hP
  have hD : va_D A0 [(t, .inr (6, [.ref sr, .int (nI tn), .int (nI ts), .ref hd, .ref nt])), (sr, .inr (4, [.ref so, .int (nI 1536), .int 0])), (so, .inl (cI, 1536, .inl sf)), (hd, .inl (cI, 256, .inl fh)), (nt, .inl (cI, 256, .inl fx))] := hD
  refine lv_aload_n hx hb dX6_singleFor_0 rfl (lv_at hl 0 rfl) ?_
  refine va_get (D := D) (ci := 6) (v := .ref hd) (C := RX6) (T := TX6) (N := 5) hx hb hts in_X6 hown hK hP 0 rfl rfl 3 (by decide) (hts _ kX6_20) (fun _ h9 => h9) rfl dX6_singleFor_1 ?_
  refine lv_iload_n hx hb dX6_singleFor_4 rfl (lv_at hl 1 rfl) ?_
  refine lv_iload_n hx hb dX6_singleFor_5 rfl (lv_at hl 2 rfl) ?_
  refine lv_iload_n hx hb dX6_singleFor_6 rfl (lv_at hl 3 rfl) ?_
  refine jn_i (wr := [(t, .inr (6, [.ref sr, .int (nI tn), .int (nI ts), .ref hd, .ref nt])), (sr, .inr (4, [.ref so, .int (nI 1536), .int 0])), (so, .inl (cI, 1536, .inl sf)), (hd, .inl (cI, 256, .inl fh)), (nt, .inl (cI, 256, .inl fx))]) hA hP hD hS [] [0, 1, 2, 3, 4] rfl rfl (by decide) (by decide) (rn_S (As := [.int (nI k), .int (nI s), .int (nI md)]) (rest := [.ref hd]) ⟨hx, hb, hml, hown, hts⟩ (cvS 3 hts zc_yX6_chainOf zi_X6 zs_yX6_chainOf kX6_70 (by decide +kernel) rfl rfl ⟨Nat.le_of_ble_eq_true rfl, Nat.le_of_ble_eq_true rfl⟩) (c_Table_chainOf l D cI cB cJ cR k s md (hk) (hs) (hm) s0.heap.size) hK hNw hMk hA hP hD hS [] rfl rfl (by decide) rfl hl.1 rfl (Nat.le_of_ble_eq_true rfl) dX6_singleFor_7 ⟨Nat.le_of_ble_eq_true rfl, Nat.le_of_ble_eq_true rfl⟩) (fun r_1 u9 H locs w_2 hP hD hS => ?_)
  try dsimp only at w_2
  have hP : va_P D vwCl [(t, .inr (6, [.ref sr, .int (nI tn), .int (nI ts), .ref hd, .ref nt])), (sr, .inr (4, [.ref so, .int (nI 1536), .int 0])), (so, .inl (cI, 1536, .inl sf)), (hd, .inl (cI, 256, .inl fh)), (nt, .inl (cI, 256, .inl fx))] H := hP
  have hD : va_D A0 [(t, .inr (6, [.ref sr, .int (nI tn), .int (nI ts), .ref hd, .ref nt])), (sr, .inr (4, [.ref so, .int (nI 1536), .int 0])), (so, .inl (cI, 1536, .inl sf)), (hd, .inl (cI, 256, .inl fh)), (nt, .inl (cI, 256, .inl fx))] := hD
  subst w_2
  have hq := chn_lt k s md
  refine ax_ild hx hb hK hP 3 0 rfl rfl (chn k s md) (rfl) (hq) (by decide) dX6_singleFor_10 ?_
  refine ri (y := nxC (chq tt) (chn k s md) (256 - 0) 0) (hso.1 _ hq) ?_
  refine lv_istore (lv' := [(4, .int (nxC (chq tt) (chn k s md) (256 - 0) 0)), (0, .ref t), (1, .int (nI k)), (2, .int (nI s)), (3, .int (nI md))]) hx hb dX6_singleFor_11 hl (by decide) rfl (fun ls hl => ?_)
  refine lv_iconst (v := 0) hx hb dX6_singleFor_13 (by decide) ?_
  refine ri (y := nI 0) (nI_0.symm) ?_
  refine lv_istore (lv' := [(5, .int (nI 0)), (4, .int (nxC (chq tt) (chn k s md) (256 - 0) 0)), (0, .ref t), (1, .int (nI k)), (2, .int (nI s)), (3, .int (nI md))]) hx hb dX6_singleFor_14 hl (by decide) rfl (fun ls hl => ?_)
  have loop : ∀ (k9 : Nat) (i : Nat) (lo : Nat) (H : Heap) (locs : List Loc) (ls : Array Slot), 256 - i < k9 → (i ≤ lo) → (lo ≤ 256) → (∀ d, d < lo → sngP tt k s md d = false) → va_P D vwCl [(t, .inr (6, [.ref sr, .int (nI tn), .int (nI ts), .ref hd, .ref nt])), (sr, .inr (4, [.ref so, .int (nI 1536), .int 0])), (so, .inl (cI, 1536, .inl sf)), (hd, .inl (cI, 256, .inl fh)), (nt, .inl (cI, 256, .inl fx))] H → va_D A0 [(t, .inr (6, [.ref sr, .int (nI tn), .int (nI ts), .ref hd, .ref nt])), (sr, .inr (4, [.ref so, .int (nI 1536), .int 0])), (so, .inl (cI, 1536, .inl sf)), (hd, .inl (cI, 256, .inl fh)), (nt, .inl (cI, 256, .inl fx))] → va_S A0 s0.heap H locs → lv_has ls 6 [(0, .ref t), (1, .int (nI k)), (2, .int (nI s)), (3, .int (nI md)), (4, .int (nxC (chq tt) (chn k s md) (256 - lo) lo)), (5, .int (nI i))] → W p0 l e0 ({ frames := 3, cells := 0, slots := 0, locals := 68 }) s0 m0 ([.ref t, .int (nI k), .int (nI s), .int (nI md)] : List Value).toArray below meth c0 H locs 0 0 Q0 (F0 m0 16 ls []) := by
    intro k9
    induction k9 with
    | zero => intro i lo H locs ls hk9; exact absurd hk9 (Nat.not_lt_zero _)
    | succ k9 ih =>
      intro i lo H locs ls hk9 hilo hlo hno hP hD hS hl
      refine lv_iload hx hb dX6_singleFor_16 (lv_at hl 5 rfl) ?_
      refine lv_sipush (v := 256) hx hb dX6_singleFor_18 (by decide) ?_
      refine lv_icmp_ge (tgt := 70) hx hb dX6_singleFor_21 (by decide) (fun c_3 => ?_) (fun c_3 => ?_)
      · have hi6 : 256 ≤ i := (nI_leI (a := 256) (b := i) (by decide) (by omega)).mp c_3
        refine lv_iconst (v := -1) hx hb dX6_singleFor_70 (by decide) ?_
        exact hret 71 ls _ _ _ () dX6_singleFor_71 hP hD hS ((fst_none 256 0 (fun c2 _ h2 => hno c2 (by omega))).symm)
      · have hi6 : i < 256 := Nat.not_le.mp (fun z => c_3 (nI_le (a := 256) z (by omega)))
        refine lv_iload hx hb dX6_singleFor_24 (lv_at hl 4 rfl) ?_
        refine lv_if_lt (tgt := 70) hx hb dX6_singleFor_26 (by decide) (fun c_4 => ?_) (fun c_4 => ?_)
        · refine lv_iconst (v := -1) hx hb dX6_singleFor_70 (by decide) ?_
          exact hret 71 ls _ _ _ () dX6_singleFor_71 hP hD hS ((walk_none sng_chn hno c_4 hlo).symm)
        · obtain ⟨c, hcc, hc1, hc2, -, -⟩ := fst_pos _ _ c_4
          have hc6 : c < 256 := by omega
          obtain ⟨w1, w2, w3, -⟩ := walk_next hcc hlo hc6
          have hcc : nxC (chq tt) (chn k s md) (256 - lo) lo = nI c := hcc
          rw [hcc] at hl
          refine lv_aload_n hx hb dX6_singleFor_29 rfl (lv_at hl 0 rfl) ?_
          refine lv_iload hx hb dX6_singleFor_30 (lv_at hl 4 rfl) ?_
          refine lv_iconst (v := 1) hx hb dX6_singleFor_32 (by decide) ?_
          refine jn_i (wr := [(hd, .inl (cI, 256, .inl fh)), (nt, .inl (cI, 256, .inl fx))]) hA hP hD hS [0, 1, 2] [3, 4] rfl rfl (by decide) (by decide) (rn_V (As := [.int (nI c), .int (nI 1)]) (rest := []) ⟨hx, hb, hml, hown, hts⟩ (cvV 2 hts zc_yX6_kindOf zi_X6 zm_yX6_kindOf zv_yX6_kindOf kX6_61 (by decide +kernel) rfl rfl ⟨Nat.le_of_ble_eq_true rfl, Nat.le_of_ble_eq_true rfl⟩) (c_Table_kindOf l D cI cB cJ cR t sr so tn ts hd nt sf tt c 1 (ht) (hc6) (by decide) H.size) hK hNw hMk hA hP hD hS [0, 1, 2] rfl rfl (by decide) 0 rfl rfl rfl rfl hl.1 rfl (Nat.le_of_ble_eq_true rfl) dX6_singleFor_33 ⟨Nat.le_of_ble_eq_true rfl, Nat.le_of_ble_eq_true rfl⟩) (fun r_5 u9 H locs w_6 hP hD hS => ?_)
          try dsimp only at w_6
          have hP : va_P D vwCl [(hd, .inl (cI, 256, .inl fh)), (nt, .inl (cI, 256, .inl fx)), (t, .inr (6, [.ref sr, .int (nI tn), .int (nI ts), .ref hd, .ref nt])), (sr, .inr (4, [.ref so, .int (nI 1536), .int 0])), (so, .inl (cI, 1536, .inl sf))] H := hP
          have hD : va_D A0 [(hd, .inl (cI, 256, .inl fh)), (nt, .inl (cI, 256, .inl fx)), (t, .inr (6, [.ref sr, .int (nI tn), .int (nI ts), .ref hd, .ref nt])), (sr, .inr (4, [.ref so, .int (nI 1536), .int 0])), (so, .inl (cI, 1536, .inl sf))] := hD
          rw [Nat.one_mul] at w_6
          subst w_6
          have e1 := (ht (256 + c) (by omega)).2
          refine lv_if_ne (tgt := 55) hx hb dX6_singleFor_36 (by decide) (fun c_7 => ?_) (fun c_7 => ?_)
          · refine lv_aload_n hx hb dX6_singleFor_55 rfl (lv_at hl 0 rfl) ?_
            refine va_get (D := D) (ci := 6) (v := .ref nt) (C := RX6) (T := TX6) (N := 5) hx hb hts in_X6 hown hK hP 2 rfl rfl 4 (by decide) (hts _ kX6_24) (fun _ h9 => h9) rfl dX6_singleFor_56 ?_
            refine lv_iload hx hb dX6_singleFor_59 (lv_at hl 4 rfl) ?_
            refine ax_ild hx hb hK hP 1 0 rfl rfl c (rfl) (hc6) (by decide) dX6_singleFor_61 ?_
            refine ri (y := nxC (chq tt) (chn k s md) (256 - (c + 1)) (c + 1)) (by rw [hso.2 c hc6, w2, show 255 - c = 256 - (c + 1) by omega]) ?_
            refine lv_istore (lv' := [(4, .int (nxC (chq tt) (chn k s md) (256 - (c + 1)) (c + 1))), (0, .ref t), (1, .int (nI k)), (2, .int (nI s)), (3, .int (nI md)), (5, .int (nI i))]) hx hb dX6_singleFor_62 hl (by decide) rfl (fun ls hl => ?_)
            refine lv_iinc (v := nI (i + 1)) (lv' := [(5, .int (nI (i + 1))), (4, .int (nxC (chq tt) (chn k s md) (256 - (c + 1)) (c + 1))), (0, .ref t), (1, .int (nI k)), (2, .int (nI s)), (3, .int (nI md))]) hx hb dX6_singleFor_64 hl (k := 5) rfl (nI_add i 1) (by decide) rfl (fun ls hl => ?_)
            refine lv_goto (tgt := 16) hx hb dX6_singleFor_67 (by decide) ?_
            exact ih (i + 1) (c + 1) _ _ ls (by omega) (by omega) (by omega) (walk_step sng_chn hno w3 (by rw [sngP, decide_eq_false (fun z => c_7 (by rw [z]; decide))]; rfl)) (hP.sub [2, 3, 4, 0, 1] rfl) (hD.sub [2, 3, 4, 0, 1] (by decide) rfl) hS (lv_sub hl [2, 3, 4, 5, 1, 0] rfl)
          · have z0 : tt (256 + c) = 0 := Decidable.byContradiction (fun z => nI_ne0 (Nat.pos_of_ne_zero z) (by omega) c_7)
            refine lv_aload_n hx hb dX6_singleFor_39 rfl (lv_at hl 0 rfl) ?_
            refine lv_iload hx hb dX6_singleFor_40 (lv_at hl 4 rfl) ?_
            refine lv_iconst (v := 0) hx hb dX6_singleFor_42 (by decide) ?_
            refine lv_iload_n hx hb dX6_singleFor_43 rfl (lv_at hl 1 rfl) ?_
            refine lv_iload_n hx hb dX6_singleFor_44 rfl (lv_at hl 2 rfl) ?_
            refine lv_iload_n hx hb dX6_singleFor_45 rfl (lv_at hl 3 rfl) ?_
            refine jn_i (wr := [(hd, .inl (cI, 256, .inl fh)), (nt, .inl (cI, 256, .inl fx))]) hA hP hD hS [2, 3, 4] [0, 1] rfl rfl (by decide) (by decide) (rn_V (As := [.int (nI c), .int (nI 0), .int (nI k), .int (nI s), .int (nI md)]) (rest := []) ⟨hx, hb, hml, hown, hts⟩ (cvV 5 hts zc_yX6_fits zi_X6 zm_yX6_fits zv_yX6_fits kX6_78 (by decide +kernel) rfl rfl ⟨Nat.le_of_ble_eq_true rfl, Nat.le_of_ble_eq_true rfl⟩) (c_Table_fits l D cI cB cJ cR t sr so tn ts hd nt sf tt c 0 k s md (ht) (hc6) (by decide) (hk) (hs) (hm) H.size) hK hNw hMk hA hP hD hS [2, 3, 4] rfl rfl (by decide) 0 rfl rfl rfl rfl hl.1 rfl (Nat.le_of_ble_eq_true rfl) dX6_singleFor_46 ⟨Nat.le_of_ble_eq_true rfl, Nat.le_of_ble_eq_true rfl⟩) (fun r_8 u9 H locs w_9 hP hD hS => ?_)
            obtain ⟨r_8b, rfl, w_9⟩ := w_9
            try dsimp only at w_9
            have hP : va_P D vwCl [(hd, .inl (cI, 256, .inl fh)), (nt, .inl (cI, 256, .inl fx)), (t, .inr (6, [.ref sr, .int (nI tn), .int (nI ts), .ref hd, .ref nt])), (sr, .inr (4, [.ref so, .int (nI 1536), .int 0])), (so, .inl (cI, 1536, .inl sf))] H := hP
            have hD : va_D A0 [(hd, .inl (cI, 256, .inl fh)), (nt, .inl (cI, 256, .inl fx)), (t, .inr (6, [.ref sr, .int (nI tn), .int (nI ts), .ref hd, .ref nt])), (sr, .inr (4, [.ref so, .int (nI 1536), .int 0])), (so, .inl (cI, 1536, .inl sf))] := hD
            refine bz_eq (tgt := 55) hx hb dX6_singleFor_49 (by decide) (fun c_10 => ?_) (fun c_10 => ?_)
            · refine lv_aload_n hx hb dX6_singleFor_55 rfl (lv_at hl 0 rfl) ?_
              refine va_get (D := D) (ci := 6) (v := .ref nt) (C := RX6) (T := TX6) (N := 5) hx hb hts in_X6 hown hK hP 2 rfl rfl 4 (by decide) (hts _ kX6_24) (fun _ h9 => h9) rfl dX6_singleFor_56 ?_
              refine lv_iload hx hb dX6_singleFor_59 (lv_at hl 4 rfl) ?_
              refine ax_ild hx hb hK hP 1 0 rfl rfl c (rfl) (hc6) (by decide) dX6_singleFor_61 ?_
              refine ri (y := nxC (chq tt) (chn k s md) (256 - (c + 1)) (c + 1)) (by rw [hso.2 c hc6, w2, show 255 - c = 256 - (c + 1) by omega]) ?_
              refine lv_istore (lv' := [(4, .int (nxC (chq tt) (chn k s md) (256 - (c + 1)) (c + 1))), (0, .ref t), (1, .int (nI k)), (2, .int (nI s)), (3, .int (nI md)), (5, .int (nI i))]) hx hb dX6_singleFor_62 hl (by decide) rfl (fun ls hl => ?_)
              refine lv_iinc (v := nI (i + 1)) (lv' := [(5, .int (nI (i + 1))), (4, .int (nxC (chq tt) (chn k s md) (256 - (c + 1)) (c + 1))), (0, .ref t), (1, .int (nI k)), (2, .int (nI s)), (3, .int (nI md))]) hx hb dX6_singleFor_64 hl (k := 5) rfl (nI_add i 1) (by decide) rfl (fun ls hl => ?_)
              refine lv_goto (tgt := 16) hx hb dX6_singleFor_67 (by decide) ?_
              exact ih (i + 1) (c + 1) _ _ ls (by omega) (by omega) (by omega) (walk_step sng_chn hno w3 (by rw [sngP, ← w_9, c_10, Bool.and_false])) (hP.sub [2, 3, 4, 0, 1] rfl) (hD.sub [2, 3, 4, 0, 1] (by decide) rfl) hS (lv_sub hl [2, 3, 4, 5, 1, 0] rfl)
            · refine lv_iload hx hb dX6_singleFor_52 (lv_at hl 4 rfl) ?_
              have hP := hP.sub (ws' := [(t, .inr (6, [.ref sr, .int (nI tn), .int (nI ts), .ref hd, .ref nt])), (sr, .inr (4, [.ref so, .int (nI 1536), .int 0])), (so, .inl (cI, 1536, .inl sf)), (hd, .inl (cI, 256, .inl fh)), (nt, .inl (cI, 256, .inl fx))]) [2, 3, 4, 0, 1] rfl
              have hD := hD.sub (ws' := [(t, .inr (6, [.ref sr, .int (nI tn), .int (nI ts), .ref hd, .ref nt])), (sr, .inr (4, [.ref so, .int (nI 1536), .int 0])), (so, .inl (cI, 1536, .inl sf)), (hd, .inl (cI, 256, .inl fh)), (nt, .inl (cI, 256, .inl fx))]) [2, 3, 4, 0, 1] (by decide) rfl
              exact hret 54 ls _ _ _ () dX6_singleFor_54 hP hD hS ((walk_found sng_chn hno w3 (by rw [sngP, ← w_9, c_10, decide_eq_true z0]; rfl) hc6).symm)
  exact loop _ 0 0 _ _ ls (Nat.lt_succ_self _) (by decide) (by decide) (fun d hd => absurd hd (Nat.not_lt_zero d)) hP hD hS (lv_sub hl [2, 3, 4, 5, 1, 0] rfl)

set_option maxHeartbeats 4000000 in
set_option maxRecDepth 100000 in
theorem c_Table_pairFor (l : Launch) (D : va_G) (cI cB cJ cR : ClassId) (t : Nat) (sr : Nat) (so : Nat) (tn : Nat) (ts : Nat) (hd : Nat) (nt : Nat) (sf : Nat → Int32) (tt : Nat → Nat) (fh : Nat → Int32) (fx : Nat → Int32) (sh : Nat) (sc : Nat) (lim : Nat) (cnt : Nat) (g : Nat → Nat → Int32) (gf : Nat → Int32) (x : Nat) (k : Nat) (s : Nat) (md : Nat) (k2 : Nat) (s2 : Nat) (md2 : Nat) (ht : tabIs sf tt) (hso : srtIs tt fh fx) (hlm : lim < 2 ^ 24) (hcn : cnt < 2 ^ 30) (hst : stepsIs lim g cnt gf) (hx1 : x + 1 < min cnt lim) (hg0 : g x 0 = nI k ∧ g x 1 = nI s ∧ g x 3 = nI md) (hg1 : g (x + 1) 0 = nI k2 ∧ g (x + 1) 1 = nI s2 ∧ g (x + 1) 3 = nI md2) (hk : k < 2 ^ 20) (hs : s < 2 ^ 20) (hm : md < 2 ^ 20) (hk2 : k2 < 2 ^ 20) (hs2 : s2 < 2 ^ 20) (hm2 : md2 < 2 ^ 20) : CMi l yX6_pairFor cX6_pairFor 11 (some .int) ({ frames := 3, cells := 0, slots := 0, locals := 68 }) D (tyA cI cB cJ cR) 0 0 [.ref t, .ref sh, .int (nI x)] [(t, .inr (6, [.ref sr, .int (nI tn), .int (nI ts), .ref hd, .ref nt])), (sr, .inr (4, [.ref so, .int (nI 1536), .int 0])), (so, .inl (cI, 1536, .inl sf)), (hd, .inl (cI, 256, .inl fh)), (nt, .inl (cI, 256, .inl fx)), (sh, .inr (5, [.int (nI lim), .ref sc, .int (nI cnt)])), (sc, .inl (cI, (lim * 6), .inl gf))] (fun (r : Int32) (_ : Unit) => r = fstC (prP tt k s md k2 s2 md2) 256 0) (fun (_ : Unit) => [(t, .inr (6, [.ref sr, .int (nI tn), .int (nI ts), .ref hd, .ref nt])), (sr, .inr (4, [.ref so, .int (nI 1536), .int 0])), (so, .inl (cI, 1536, .inl sf)), (hd, .inl (cI, 256, .inl fh)), (nt, .inl (cI, 256, .inl fx)), (sh, .inr (5, [.int (nI lim), .ref sc, .int (nI cnt)])), (sc, .inl (cI, (lim * 6), .inl gf))]) := by
  refine st_i (cc := cX6_pairFor) (maxL := 11) (by decide) (Nat.le_of_ble_eq_true rfl) ?_
  intro p0 e0 s0 m0 below meth c0 A0 Q0 hBD hret hP hD hS ls hl
  obtain ⟨hx, hb, hml, hown, hts, hnm, hK, hNw, hMk, hA⟩ := hBD
  have hl : lv_has ls 11 [(0, .ref t), (1, .ref sh), (2, .int (nI x))] := hl
  have hP : va_P D vwCl [(t, .inr (6, [.ref sr, .int (nI tn), .int (nI ts), .ref hd, .ref nt])), (sr, .inr (4, [.ref so, .int (nI 1536), .int 0])), (so, .inl (cI, 1536, .inl sf)), (hd, .inl (cI, 256, .inl fh)), (nt, .inl (cI, 256, .inl fx)), (sh, .inr (5, [.int (nI lim), .ref sc, .int (nI cnt)])), (sc, .inl (cI, (lim * 6), .inl gf))] s0.heap := hP
  have hD : va_D A0 [(t, .inr (6, [.ref sr, .int (nI tn), .int (nI ts), .ref hd, .ref nt])), (sr, .inr (4, [.ref so, .int (nI 1536), .int 0])), (so, .inl (cI, 1536, .inl sf)), (hd, .inl (cI, 256, .inl fh)), (nt, .inl (cI, 256, .inl fx)), (sh, .inr (5, [.int (nI lim), .ref sc, .int (nI cnt)])), (sc, .inl (cI, (lim * 6), .inl gf))] := hD
  refine lv_aload_n hx hb dX6_pairFor_0 rfl (lv_at hl 1 rfl) ?_
  refine lv_iload_n hx hb dX6_pairFor_1 rfl (lv_at hl 2 rfl) ?_
  refine lv_iconst (v := 0) hx hb dX6_pairFor_2 (by decide) ?_
  refine jn_i (wr := [(t, .inr (6, [.ref sr, .int (nI tn), .int (nI ts), .ref hd, .ref nt])), (sr, .inr (4, [.ref so, .int (nI 1536), .int 0])), (so, .inl (cI, 1536, .inl sf)), (hd, .inl (cI, 256, .inl fh)), (nt, .inl (cI, 256, .inl fx))]) hA hP hD hS [5, 6] [0, 1, 2, 3, 4] rfl rfl (by decide) (by decide) (rn_V (As := [.int (nI x), .int 0]) (rest := []) ⟨hx, hb, hml, hown, hts⟩ (cvV 2 hts zc_yX5_at zi_X5 zm_yX5_at zv_yX5_at kX6_76 (by decide +kernel) rfl rfl ⟨Nat.le_of_ble_eq_true rfl, Nat.le_of_ble_eq_true rfl⟩) (c_Steps_at l D cI cB cJ cR sh sc lim cnt g gf (nI x) 0 (hlm) (hcn) (hst) s0.heap.size) hK hNw hMk hA hP hD hS [5, 6] rfl rfl (by decide) 0 rfl rfl rfl rfl hl.1 rfl (Nat.le_of_ble_eq_true rfl) dX6_pairFor_3 ⟨Nat.le_of_ble_eq_true rfl, Nat.le_of_ble_eq_true rfl⟩) (fun r_1 u9 H locs w_2 hP hD hS => ?_)
  try dsimp only at w_2
  have hP : va_P D vwCl [(t, .inr (6, [.ref sr, .int (nI tn), .int (nI ts), .ref hd, .ref nt])), (sr, .inr (4, [.ref so, .int (nI 1536), .int 0])), (so, .inl (cI, 1536, .inl sf)), (hd, .inl (cI, 256, .inl fh)), (nt, .inl (cI, 256, .inl fx)), (sh, .inr (5, [.int (nI lim), .ref sc, .int (nI cnt)])), (sc, .inl (cI, (lim * 6), .inl gf))] H := hP
  have hD : va_D A0 [(t, .inr (6, [.ref sr, .int (nI tn), .int (nI ts), .ref hd, .ref nt])), (sr, .inr (4, [.ref so, .int (nI 1536), .int 0])), (so, .inl (cI, 1536, .inl sf)), (hd, .inl (cI, 256, .inl fh)), (nt, .inl (cI, 256, .inl fx)), (sh, .inr (5, [.int (nI lim), .ref sc, .int (nI cnt)])), (sc, .inl (cI, (lim * 6), .inl gf))] := hD
  rw [if_pos ⟨inB_t (by omega) (by omega), by decide⟩, nI_clamp (by omega), show (0 : Int32).toNatClampNeg = 0 from by decide, hg0.1] at w_2
  subst w_2
  refine lv_istore_n (lv' := [(3, .int (nI k)), (0, .ref t), (1, .ref sh), (2, .int (nI x))]) hx hb dX6_pairFor_6 rfl hl (by decide) rfl (fun ls hl => ?_)
  refine lv_aload_n hx hb dX6_pairFor_7 rfl (lv_at hl 2 rfl) ?_
  refine lv_iload_n hx hb dX6_pairFor_8 rfl (lv_at hl 3 rfl) ?_
  refine lv_iconst (v := 1) hx hb dX6_pairFor_9 (by decide) ?_
  refine jn_i (wr := [(t, .inr (6, [.ref sr, .int (nI tn), .int (nI ts), .ref hd, .ref nt])), (sr, .inr (4, [.ref so, .int (nI 1536), .int 0])), (so, .inl (cI, 1536, .inl sf)), (hd, .inl (cI, 256, .inl fh)), (nt, .inl (cI, 256, .inl fx))]) hA hP hD hS [5, 6] [0, 1, 2, 3, 4] rfl rfl (by decide) (by decide) (rn_V (As := [.int (nI x), .int 1]) (rest := []) ⟨hx, hb, hml, hown, hts⟩ (cvV 2 hts zc_yX5_at zi_X5 zm_yX5_at zv_yX5_at kX6_76 (by decide +kernel) rfl rfl ⟨Nat.le_of_ble_eq_true rfl, Nat.le_of_ble_eq_true rfl⟩) (c_Steps_at l D cI cB cJ cR sh sc lim cnt g gf (nI x) 1 (hlm) (hcn) (hst) H.size) hK hNw hMk hA hP hD hS [5, 6] rfl rfl (by decide) 0 rfl rfl rfl rfl hl.1 rfl (Nat.le_of_ble_eq_true rfl) dX6_pairFor_10 ⟨Nat.le_of_ble_eq_true rfl, Nat.le_of_ble_eq_true rfl⟩) (fun r_3 u9 H locs w_4 hP hD hS => ?_)
  try dsimp only at w_4
  have hP : va_P D vwCl [(t, .inr (6, [.ref sr, .int (nI tn), .int (nI ts), .ref hd, .ref nt])), (sr, .inr (4, [.ref so, .int (nI 1536), .int 0])), (so, .inl (cI, 1536, .inl sf)), (hd, .inl (cI, 256, .inl fh)), (nt, .inl (cI, 256, .inl fx)), (sh, .inr (5, [.int (nI lim), .ref sc, .int (nI cnt)])), (sc, .inl (cI, (lim * 6), .inl gf))] H := hP
  have hD : va_D A0 [(t, .inr (6, [.ref sr, .int (nI tn), .int (nI ts), .ref hd, .ref nt])), (sr, .inr (4, [.ref so, .int (nI 1536), .int 0])), (so, .inl (cI, 1536, .inl sf)), (hd, .inl (cI, 256, .inl fh)), (nt, .inl (cI, 256, .inl fx)), (sh, .inr (5, [.int (nI lim), .ref sc, .int (nI cnt)])), (sc, .inl (cI, (lim * 6), .inl gf))] := hD
  rw [if_pos ⟨inB_t (by omega) (by omega), by decide⟩, nI_clamp (by omega), show (1 : Int32).toNatClampNeg = 1 from by decide, hg0.2.1] at w_4
  subst w_4
  refine lv_istore (lv' := [(4, .int (nI s)), (3, .int (nI k)), (0, .ref t), (1, .ref sh), (2, .int (nI x))]) hx hb dX6_pairFor_13 hl (by decide) rfl (fun ls hl => ?_)
  refine lv_aload_n hx hb dX6_pairFor_15 rfl (lv_at hl 3 rfl) ?_
  refine lv_iload_n hx hb dX6_pairFor_16 rfl (lv_at hl 4 rfl) ?_
  refine lv_iconst (v := 3) hx hb dX6_pairFor_17 (by decide) ?_
  refine jn_i (wr := [(t, .inr (6, [.ref sr, .int (nI tn), .int (nI ts), .ref hd, .ref nt])), (sr, .inr (4, [.ref so, .int (nI 1536), .int 0])), (so, .inl (cI, 1536, .inl sf)), (hd, .inl (cI, 256, .inl fh)), (nt, .inl (cI, 256, .inl fx))]) hA hP hD hS [5, 6] [0, 1, 2, 3, 4] rfl rfl (by decide) (by decide) (rn_V (As := [.int (nI x), .int 3]) (rest := []) ⟨hx, hb, hml, hown, hts⟩ (cvV 2 hts zc_yX5_at zi_X5 zm_yX5_at zv_yX5_at kX6_76 (by decide +kernel) rfl rfl ⟨Nat.le_of_ble_eq_true rfl, Nat.le_of_ble_eq_true rfl⟩) (c_Steps_at l D cI cB cJ cR sh sc lim cnt g gf (nI x) 3 (hlm) (hcn) (hst) H.size) hK hNw hMk hA hP hD hS [5, 6] rfl rfl (by decide) 0 rfl rfl rfl rfl hl.1 rfl (Nat.le_of_ble_eq_true rfl) dX6_pairFor_18 ⟨Nat.le_of_ble_eq_true rfl, Nat.le_of_ble_eq_true rfl⟩) (fun r_5 u9 H locs w_6 hP hD hS => ?_)
  try dsimp only at w_6
  have hP : va_P D vwCl [(t, .inr (6, [.ref sr, .int (nI tn), .int (nI ts), .ref hd, .ref nt])), (sr, .inr (4, [.ref so, .int (nI 1536), .int 0])), (so, .inl (cI, 1536, .inl sf)), (hd, .inl (cI, 256, .inl fh)), (nt, .inl (cI, 256, .inl fx)), (sh, .inr (5, [.int (nI lim), .ref sc, .int (nI cnt)])), (sc, .inl (cI, (lim * 6), .inl gf))] H := hP
  have hD : va_D A0 [(t, .inr (6, [.ref sr, .int (nI tn), .int (nI ts), .ref hd, .ref nt])), (sr, .inr (4, [.ref so, .int (nI 1536), .int 0])), (so, .inl (cI, 1536, .inl sf)), (hd, .inl (cI, 256, .inl fh)), (nt, .inl (cI, 256, .inl fx)), (sh, .inr (5, [.int (nI lim), .ref sc, .int (nI cnt)])), (sc, .inl (cI, (lim * 6), .inl gf))] := hD
  rw [if_pos ⟨inB_t (by omega) (by omega), by decide⟩, nI_clamp (by omega), show (3 : Int32).toNatClampNeg = 3 from by decide, hg0.2.2] at w_6
  subst w_6
  refine lv_istore (lv' := [(5, .int (nI md)), (4, .int (nI s)), (3, .int (nI k)), (0, .ref t), (1, .ref sh), (2, .int (nI x))]) hx hb dX6_pairFor_21 hl (by decide) rfl (fun ls hl => ?_)
  refine lv_aload_n hx hb dX6_pairFor_23 rfl (lv_at hl 4 rfl) ?_
  refine lv_iload_n hx hb dX6_pairFor_24 rfl (lv_at hl 5 rfl) ?_
  refine lv_iconst (v := 1) hx hb dX6_pairFor_25 (by decide) ?_
  refine lv_iadd hx hb dX6_pairFor_26 ?_
  refine ri (y := nI (x + 1)) (nI_add x 1) ?_
  refine lv_iconst (v := 0) hx hb dX6_pairFor_27 (by decide) ?_
  refine jn_i (wr := [(t, .inr (6, [.ref sr, .int (nI tn), .int (nI ts), .ref hd, .ref nt])), (sr, .inr (4, [.ref so, .int (nI 1536), .int 0])), (so, .inl (cI, 1536, .inl sf)), (hd, .inl (cI, 256, .inl fh)), (nt, .inl (cI, 256, .inl fx))]) hA hP hD hS [5, 6] [0, 1, 2, 3, 4] rfl rfl (by decide) (by decide) (rn_V (As := [.int (nI (x + 1)), .int 0]) (rest := []) ⟨hx, hb, hml, hown, hts⟩ (cvV 2 hts zc_yX5_at zi_X5 zm_yX5_at zv_yX5_at kX6_76 (by decide +kernel) rfl rfl ⟨Nat.le_of_ble_eq_true rfl, Nat.le_of_ble_eq_true rfl⟩) (c_Steps_at l D cI cB cJ cR sh sc lim cnt g gf (nI (x + 1)) 0 (hlm) (hcn) (hst) H.size) hK hNw hMk hA hP hD hS [5, 6] rfl rfl (by decide) 0 rfl rfl rfl rfl hl.1 rfl (Nat.le_of_ble_eq_true rfl) dX6_pairFor_28 ⟨Nat.le_of_ble_eq_true rfl, Nat.le_of_ble_eq_true rfl⟩) (fun r_7 u9 H locs w_8 hP hD hS => ?_)
  try dsimp only at w_8
  have hP : va_P D vwCl [(t, .inr (6, [.ref sr, .int (nI tn), .int (nI ts), .ref hd, .ref nt])), (sr, .inr (4, [.ref so, .int (nI 1536), .int 0])), (so, .inl (cI, 1536, .inl sf)), (hd, .inl (cI, 256, .inl fh)), (nt, .inl (cI, 256, .inl fx)), (sh, .inr (5, [.int (nI lim), .ref sc, .int (nI cnt)])), (sc, .inl (cI, (lim * 6), .inl gf))] H := hP
  have hD : va_D A0 [(t, .inr (6, [.ref sr, .int (nI tn), .int (nI ts), .ref hd, .ref nt])), (sr, .inr (4, [.ref so, .int (nI 1536), .int 0])), (so, .inl (cI, 1536, .inl sf)), (hd, .inl (cI, 256, .inl fh)), (nt, .inl (cI, 256, .inl fx)), (sh, .inr (5, [.int (nI lim), .ref sc, .int (nI cnt)])), (sc, .inl (cI, (lim * 6), .inl gf))] := hD
  rw [if_pos ⟨inB_t (by omega) (by omega), by decide⟩, nI_clamp (by omega), show (0 : Int32).toNatClampNeg = 0 from by decide, hg1.1] at w_8
  subst w_8
  refine lv_istore (lv' := [(6, .int (nI k2)), (5, .int (nI md)), (4, .int (nI s)), (3, .int (nI k)), (0, .ref t), (1, .ref sh), (2, .int (nI x))]) hx hb dX6_pairFor_31 hl (by decide) rfl (fun ls hl => ?_)
  refine lv_aload_n hx hb dX6_pairFor_33 rfl (lv_at hl 5 rfl) ?_
  refine lv_iload_n hx hb dX6_pairFor_34 rfl (lv_at hl 6 rfl) ?_
  refine lv_iconst (v := 1) hx hb dX6_pairFor_35 (by decide) ?_
  refine lv_iadd hx hb dX6_pairFor_36 ?_
  refine ri (y := nI (x + 1)) (nI_add x 1) ?_
  refine lv_iconst (v := 1) hx hb dX6_pairFor_37 (by decide) ?_
  refine jn_i (wr := [(t, .inr (6, [.ref sr, .int (nI tn), .int (nI ts), .ref hd, .ref nt])), (sr, .inr (4, [.ref so, .int (nI 1536), .int 0])), (so, .inl (cI, 1536, .inl sf)), (hd, .inl (cI, 256, .inl fh)), (nt, .inl (cI, 256, .inl fx))]) hA hP hD hS [5, 6] [0, 1, 2, 3, 4] rfl rfl (by decide) (by decide) (rn_V (As := [.int (nI (x + 1)), .int 1]) (rest := []) ⟨hx, hb, hml, hown, hts⟩ (cvV 2 hts zc_yX5_at zi_X5 zm_yX5_at zv_yX5_at kX6_76 (by decide +kernel) rfl rfl ⟨Nat.le_of_ble_eq_true rfl, Nat.le_of_ble_eq_true rfl⟩) (c_Steps_at l D cI cB cJ cR sh sc lim cnt g gf (nI (x + 1)) 1 (hlm) (hcn) (hst) H.size) hK hNw hMk hA hP hD hS [5, 6] rfl rfl (by decide) 0 rfl rfl rfl rfl hl.1 rfl (Nat.le_of_ble_eq_true rfl) dX6_pairFor_38 ⟨Nat.le_of_ble_eq_true rfl, Nat.le_of_ble_eq_true rfl⟩) (fun r_9 u9 H locs w_10 hP hD hS => ?_)
  try dsimp only at w_10
  have hP : va_P D vwCl [(t, .inr (6, [.ref sr, .int (nI tn), .int (nI ts), .ref hd, .ref nt])), (sr, .inr (4, [.ref so, .int (nI 1536), .int 0])), (so, .inl (cI, 1536, .inl sf)), (hd, .inl (cI, 256, .inl fh)), (nt, .inl (cI, 256, .inl fx)), (sh, .inr (5, [.int (nI lim), .ref sc, .int (nI cnt)])), (sc, .inl (cI, (lim * 6), .inl gf))] H := hP
  have hD : va_D A0 [(t, .inr (6, [.ref sr, .int (nI tn), .int (nI ts), .ref hd, .ref nt])), (sr, .inr (4, [.ref so, .int (nI 1536), .int 0])), (so, .inl (cI, 1536, .inl sf)), (hd, .inl (cI, 256, .inl fh)), (nt, .inl (cI, 256, .inl fx)), (sh, .inr (5, [.int (nI lim), .ref sc, .int (nI cnt)])), (sc, .inl (cI, (lim * 6), .inl gf))] := hD
  rw [if_pos ⟨inB_t (by omega) (by omega), by decide⟩, nI_clamp (by omega), show (1 : Int32).toNatClampNeg = 1 from by decide, hg1.2.1] at w_10
  subst w_10
  refine lv_istore (lv' := [(7, .int (nI s2)), (6, .int (nI k2)), (5, .int (nI md)), (4, .int (nI s)), (3, .int (nI k)), (0, .ref t), (1, .ref sh), (2, .int (nI x))]) hx hb dX6_pairFor_41 hl (by decide) rfl (fun ls hl => ?_)
  refine lv_aload_n hx hb dX6_pairFor_43 rfl (lv_at hl 6 rfl) ?_
  refine lv_iload_n hx hb dX6_pairFor_44 rfl (lv_at hl 7 rfl) ?_
  refine lv_iconst (v := 1) hx hb dX6_pairFor_45 (by decide) ?_
  refine lv_iadd hx hb dX6_pairFor_46 ?_
  refine ri (y := nI (x + 1)) (nI_add x 1) ?_
  refine lv_iconst (v := 3) hx hb dX6_pairFor_47 (by decide) ?_
  refine jn_i (wr := [(t, .inr (6, [.ref sr, .int (nI tn), .int (nI ts), .ref hd, .ref nt])), (sr, .inr (4, [.ref so, .int (nI 1536), .int 0])), (so, .inl (cI, 1536, .inl sf)), (hd, .inl (cI, 256, .inl fh)), (nt, .inl (cI, 256, .inl fx))]) hA hP hD hS [5, 6] [0, 1, 2, 3, 4] rfl rfl (by decide) (by decide) (rn_V (As := [.int (nI (x + 1)), .int 3]) (rest := []) ⟨hx, hb, hml, hown, hts⟩ (cvV 2 hts zc_yX5_at zi_X5 zm_yX5_at zv_yX5_at kX6_76 (by decide +kernel) rfl rfl ⟨Nat.le_of_ble_eq_true rfl, Nat.le_of_ble_eq_true rfl⟩) (c_Steps_at l D cI cB cJ cR sh sc lim cnt g gf (nI (x + 1)) 3 (hlm) (hcn) (hst) H.size) hK hNw hMk hA hP hD hS [5, 6] rfl rfl (by decide) 0 rfl rfl rfl rfl hl.1 rfl (Nat.le_of_ble_eq_true rfl) dX6_pairFor_48 ⟨Nat.le_of_ble_eq_true rfl, Nat.le_of_ble_eq_true rfl⟩) (fun r_11 u9 H locs w_12 hP hD hS => ?_)
  try dsimp only at w_12
  have hP : va_P D vwCl [(t, .inr (6, [.ref sr, .int (nI tn), .int (nI ts), .ref hd, .ref nt])), (sr, .inr (4, [.ref so, .int (nI 1536), .int 0])), (so, .inl (cI, 1536, .inl sf)), (hd, .inl (cI, 256, .inl fh)), (nt, .inl (cI, 256, .inl fx)), (sh, .inr (5, [.int (nI lim), .ref sc, .int (nI cnt)])), (sc, .inl (cI, (lim * 6), .inl gf))] H := hP
  have hD : va_D A0 [(t, .inr (6, [.ref sr, .int (nI tn), .int (nI ts), .ref hd, .ref nt])), (sr, .inr (4, [.ref so, .int (nI 1536), .int 0])), (so, .inl (cI, 1536, .inl sf)), (hd, .inl (cI, 256, .inl fh)), (nt, .inl (cI, 256, .inl fx)), (sh, .inr (5, [.int (nI lim), .ref sc, .int (nI cnt)])), (sc, .inl (cI, (lim * 6), .inl gf))] := hD
  rw [if_pos ⟨inB_t (by omega) (by omega), by decide⟩, nI_clamp (by omega), show (3 : Int32).toNatClampNeg = 3 from by decide, hg1.2.2] at w_12
  subst w_12
  refine lv_istore (lv' := [(8, .int (nI md2)), (7, .int (nI s2)), (6, .int (nI k2)), (5, .int (nI md)), (4, .int (nI s)), (3, .int (nI k)), (0, .ref t), (1, .ref sh), (2, .int (nI x))]) hx hb dX6_pairFor_51 hl (by decide) rfl (fun ls hl => ?_)
  refine lv_aload_n hx hb dX6_pairFor_53 rfl (lv_at hl 6 rfl) ?_
  refine va_get (D := D) (ci := 6) (v := .ref hd) (C := RX6) (T := TX6) (N := 5) hx hb hts in_X6 hown hK hP 0 rfl rfl 3 (by decide) (hts _ kX6_20) (fun _ h9 => h9) rfl dX6_pairFor_54 ?_
  refine lv_iload_n hx hb dX6_pairFor_57 rfl (lv_at hl 5 rfl) ?_
  refine lv_iload hx hb dX6_pairFor_58 (lv_at hl 4 rfl) ?_
  refine lv_iload hx hb dX6_pairFor_60 (lv_at hl 3 rfl) ?_
  refine jn_i (wr := [(t, .inr (6, [.ref sr, .int (nI tn), .int (nI ts), .ref hd, .ref nt])), (sr, .inr (4, [.ref so, .int (nI 1536), .int 0])), (so, .inl (cI, 1536, .inl sf)), (hd, .inl (cI, 256, .inl fh)), (nt, .inl (cI, 256, .inl fx)), (sh, .inr (5, [.int (nI lim), .ref sc, .int (nI cnt)])), (sc, .inl (cI, (lim * 6), .inl gf))]) hA hP hD hS [] [0, 1, 2, 3, 4, 5, 6] rfl rfl (by decide) (by decide) (rn_S (As := [.int (nI k), .int (nI s), .int (nI md)]) (rest := [.ref hd]) ⟨hx, hb, hml, hown, hts⟩ (cvS 3 hts zc_yX6_chainOf zi_X6 zs_yX6_chainOf kX6_70 (by decide +kernel) rfl rfl ⟨Nat.le_of_ble_eq_true rfl, Nat.le_of_ble_eq_true rfl⟩) (c_Table_chainOf l D cI cB cJ cR k s md (hk) (hs) (hm) H.size) hK hNw hMk hA hP hD hS [] rfl rfl (by decide) rfl hl.1 rfl (Nat.le_of_ble_eq_true rfl) dX6_pairFor_62 ⟨Nat.le_of_ble_eq_true rfl, Nat.le_of_ble_eq_true rfl⟩) (fun r_13 u9 H locs w_14 hP hD hS => ?_)
  try dsimp only at w_14
  have hP : va_P D vwCl [(t, .inr (6, [.ref sr, .int (nI tn), .int (nI ts), .ref hd, .ref nt])), (sr, .inr (4, [.ref so, .int (nI 1536), .int 0])), (so, .inl (cI, 1536, .inl sf)), (hd, .inl (cI, 256, .inl fh)), (nt, .inl (cI, 256, .inl fx)), (sh, .inr (5, [.int (nI lim), .ref sc, .int (nI cnt)])), (sc, .inl (cI, (lim * 6), .inl gf))] H := hP
  have hD : va_D A0 [(t, .inr (6, [.ref sr, .int (nI tn), .int (nI ts), .ref hd, .ref nt])), (sr, .inr (4, [.ref so, .int (nI 1536), .int 0])), (so, .inl (cI, 1536, .inl sf)), (hd, .inl (cI, 256, .inl fh)), (nt, .inl (cI, 256, .inl fx)), (sh, .inr (5, [.int (nI lim), .ref sc, .int (nI cnt)])), (sc, .inl (cI, (lim * 6), .inl gf))] := hD
  subst w_14
  have hq := chn_lt k s md
  refine ax_ild hx hb hK hP 3 0 rfl rfl (chn k s md) (rfl) (hq) (by decide) dX6_pairFor_65 ?_
  refine ri (y := nxC (chq tt) (chn k s md) (256 - 0) 0) (hso.1 _ hq) ?_
  refine lv_istore (lv' := [(9, .int (nxC (chq tt) (chn k s md) (256 - 0) 0)), (8, .int (nI md2)), (7, .int (nI s2)), (6, .int (nI k2)), (5, .int (nI md)), (4, .int (nI s)), (3, .int (nI k)), (0, .ref t), (1, .ref sh), (2, .int (nI x))]) hx hb dX6_pairFor_66 hl (by decide) rfl (fun ls hl => ?_)
  refine lv_iconst (v := 0) hx hb dX6_pairFor_68 (by decide) ?_
  refine ri (y := nI 0) (nI_0.symm) ?_
  refine lv_istore (lv' := [(10, .int (nI 0)), (9, .int (nxC (chq tt) (chn k s md) (256 - 0) 0)), (8, .int (nI md2)), (7, .int (nI s2)), (6, .int (nI k2)), (5, .int (nI md)), (4, .int (nI s)), (3, .int (nI k)), (0, .ref t), (1, .ref sh), (2, .int (nI x))]) hx hb dX6_pairFor_69 hl (by decide) rfl (fun ls hl => ?_)
  have loop : ∀ (k9 : Nat) (i : Nat) (lo : Nat) (H : Heap) (locs : List Loc) (ls : Array Slot), 256 - i < k9 → (i ≤ lo) → (lo ≤ 256) → (∀ d, d < lo → prP tt k s md k2 s2 md2 d = false) → va_P D vwCl [(t, .inr (6, [.ref sr, .int (nI tn), .int (nI ts), .ref hd, .ref nt])), (sr, .inr (4, [.ref so, .int (nI 1536), .int 0])), (so, .inl (cI, 1536, .inl sf)), (hd, .inl (cI, 256, .inl fh)), (nt, .inl (cI, 256, .inl fx)), (sh, .inr (5, [.int (nI lim), .ref sc, .int (nI cnt)])), (sc, .inl (cI, (lim * 6), .inl gf))] H → va_D A0 [(t, .inr (6, [.ref sr, .int (nI tn), .int (nI ts), .ref hd, .ref nt])), (sr, .inr (4, [.ref so, .int (nI 1536), .int 0])), (so, .inl (cI, 1536, .inl sf)), (hd, .inl (cI, 256, .inl fh)), (nt, .inl (cI, 256, .inl fx)), (sh, .inr (5, [.int (nI lim), .ref sc, .int (nI cnt)])), (sc, .inl (cI, (lim * 6), .inl gf))] → va_S A0 s0.heap H locs → lv_has ls 11 [(0, .ref t), (1, .ref sh), (2, .int (nI x)), (3, .int (nI k)), (4, .int (nI s)), (5, .int (nI md)), (6, .int (nI k2)), (7, .int (nI s2)), (8, .int (nI md2)), (9, .int (nxC (chq tt) (chn k s md) (256 - lo) lo)), (10, .int (nI i))] → W p0 l e0 ({ frames := 3, cells := 0, slots := 0, locals := 68 }) s0 m0 ([.ref t, .ref sh, .int (nI x)] : List Value).toArray below meth c0 H locs 0 0 Q0 (F0 m0 71 ls []) := by
    intro k9
    induction k9 with
    | zero => intro i lo H locs ls hk9; exact absurd hk9 (Nat.not_lt_zero _)
    | succ k9 ih =>
      intro i lo H locs ls hk9 hilo hlo hno hP hD hS hl
      refine lv_iload hx hb dX6_pairFor_71 (lv_at hl 10 rfl) ?_
      refine lv_sipush (v := 256) hx hb dX6_pairFor_73 (by decide) ?_
      refine lv_icmp_ge (tgt := 133) hx hb dX6_pairFor_76 (by decide) (fun c_15 => ?_) (fun c_15 => ?_)
      · have hi6 : 256 ≤ i := (nI_leI (a := 256) (b := i) (by decide) (by omega)).mp c_15
        refine lv_iconst (v := -1) hx hb dX6_pairFor_133 (by decide) ?_
        exact hret 134 ls _ _ _ () dX6_pairFor_134 hP hD hS ((fst_none 256 0 (fun c2 _ h2 => hno c2 (by omega))).symm)
      · have hi6 : i < 256 := Nat.not_le.mp (fun z => c_15 (nI_le (a := 256) z (by omega)))
        refine lv_iload hx hb dX6_pairFor_79 (lv_at hl 9 rfl) ?_
        refine lv_if_lt (tgt := 133) hx hb dX6_pairFor_81 (by decide) (fun c_16 => ?_) (fun c_16 => ?_)
        · refine lv_iconst (v := -1) hx hb dX6_pairFor_133 (by decide) ?_
          exact hret 134 ls _ _ _ () dX6_pairFor_134 hP hD hS ((walk_none pr_chn hno c_16 hlo).symm)
        · obtain ⟨c, hcc, hc1, hc2, -, -⟩ := fst_pos _ _ c_16
          have hc6 : c < 256 := by omega
          obtain ⟨w1, w2, w3, -⟩ := walk_next hcc hlo hc6
          have hcc : nxC (chq tt) (chn k s md) (256 - lo) lo = nI c := hcc
          rw [hcc] at hl
          refine lv_aload_n hx hb dX6_pairFor_84 rfl (lv_at hl 0 rfl) ?_
          refine lv_iload hx hb dX6_pairFor_85 (lv_at hl 9 rfl) ?_
          refine lv_iconst (v := 1) hx hb dX6_pairFor_87 (by decide) ?_
          refine lv_iload hx hb dX6_pairFor_88 (lv_at hl 6 rfl) ?_
          refine lv_iload hx hb dX6_pairFor_90 (lv_at hl 7 rfl) ?_
          refine lv_iload hx hb dX6_pairFor_92 (lv_at hl 8 rfl) ?_
          refine jn_i (wr := [(hd, .inl (cI, 256, .inl fh)), (nt, .inl (cI, 256, .inl fx)), (sh, .inr (5, [.int (nI lim), .ref sc, .int (nI cnt)])), (sc, .inl (cI, (lim * 6), .inl gf))]) hA hP hD hS [0, 1, 2] [3, 4, 5, 6] rfl rfl (by decide) (by decide) (rn_V (As := [.int (nI c), .int (nI 1), .int (nI k2), .int (nI s2), .int (nI md2)]) (rest := []) ⟨hx, hb, hml, hown, hts⟩ (cvV 5 hts zc_yX6_fits zi_X6 zm_yX6_fits zv_yX6_fits kX6_78 (by decide +kernel) rfl rfl ⟨Nat.le_of_ble_eq_true rfl, Nat.le_of_ble_eq_true rfl⟩) (c_Table_fits l D cI cB cJ cR t sr so tn ts hd nt sf tt c 1 k2 s2 md2 (ht) (hc6) (by decide) (hk2) (hs2) (hm2) H.size) hK hNw hMk hA hP hD hS [0, 1, 2] rfl rfl (by decide) 0 rfl rfl rfl rfl hl.1 rfl (Nat.le_of_ble_eq_true rfl) dX6_pairFor_94 ⟨Nat.le_of_ble_eq_true rfl, Nat.le_of_ble_eq_true rfl⟩) (fun r_17 u9 H locs w_18 hP hD hS => ?_)
          obtain ⟨r_17b, rfl, w_18⟩ := w_18
          try dsimp only at w_18
          have hP : va_P D vwCl [(hd, .inl (cI, 256, .inl fh)), (nt, .inl (cI, 256, .inl fx)), (sh, .inr (5, [.int (nI lim), .ref sc, .int (nI cnt)])), (sc, .inl (cI, (lim * 6), .inl gf)), (t, .inr (6, [.ref sr, .int (nI tn), .int (nI ts), .ref hd, .ref nt])), (sr, .inr (4, [.ref so, .int (nI 1536), .int 0])), (so, .inl (cI, 1536, .inl sf))] H := hP
          have hD : va_D A0 [(hd, .inl (cI, 256, .inl fh)), (nt, .inl (cI, 256, .inl fx)), (sh, .inr (5, [.int (nI lim), .ref sc, .int (nI cnt)])), (sc, .inl (cI, (lim * 6), .inl gf)), (t, .inr (6, [.ref sr, .int (nI tn), .int (nI ts), .ref hd, .ref nt])), (sr, .inr (4, [.ref so, .int (nI 1536), .int 0])), (so, .inl (cI, 1536, .inl sf))] := hD
          refine bz_eq (tgt := 118) hx hb dX6_pairFor_97 (by decide) (fun c_19 => ?_) (fun c_19 => ?_)
          · refine lv_aload_n hx hb dX6_pairFor_118 rfl (lv_at hl 0 rfl) ?_
            refine va_get (D := D) (ci := 6) (v := .ref nt) (C := RX6) (T := TX6) (N := 5) hx hb hts in_X6 hown hK hP 4 rfl rfl 4 (by decide) (hts _ kX6_24) (fun _ h9 => h9) rfl dX6_pairFor_119 ?_
            refine lv_iload hx hb dX6_pairFor_122 (lv_at hl 9 rfl) ?_
            refine ax_ild hx hb hK hP 1 0 rfl rfl c (rfl) (hc6) (by decide) dX6_pairFor_124 ?_
            refine ri (y := nxC (chq tt) (chn k s md) (256 - (c + 1)) (c + 1)) (by rw [hso.2 c hc6, w2, show 255 - c = 256 - (c + 1) by omega]) ?_
            refine lv_istore (lv' := [(9, .int (nxC (chq tt) (chn k s md) (256 - (c + 1)) (c + 1))), (0, .ref t), (1, .ref sh), (2, .int (nI x)), (3, .int (nI k)), (4, .int (nI s)), (5, .int (nI md)), (6, .int (nI k2)), (7, .int (nI s2)), (8, .int (nI md2)), (10, .int (nI i))]) hx hb dX6_pairFor_125 hl (by decide) rfl (fun ls hl => ?_)
            refine lv_iinc (v := nI (i + 1)) (lv' := [(10, .int (nI (i + 1))), (9, .int (nxC (chq tt) (chn k s md) (256 - (c + 1)) (c + 1))), (0, .ref t), (1, .ref sh), (2, .int (nI x)), (3, .int (nI k)), (4, .int (nI s)), (5, .int (nI md)), (6, .int (nI k2)), (7, .int (nI s2)), (8, .int (nI md2))]) hx hb dX6_pairFor_127 hl (k := 10) rfl (nI_add i 1) (by decide) rfl (fun ls hl => ?_)
            refine lv_goto (tgt := 71) hx hb dX6_pairFor_130 (by decide) ?_
            exact ih (i + 1) (c + 1) _ _ ls (by omega) (by omega) (by omega) (walk_step pr_chn hno w3 (by rw [prP, ← w_18, c_19, Bool.false_and])) (hP.sub [4, 5, 6, 0, 1, 2, 3] rfl) (hD.sub [4, 5, 6, 0, 1, 2, 3] (by decide) rfl) hS (lv_sub hl [2, 3, 4, 5, 6, 7, 8, 9, 10, 1, 0] rfl)
          · refine lv_aload_n hx hb dX6_pairFor_100 rfl (lv_at hl 0 rfl) ?_
            refine lv_iload hx hb dX6_pairFor_101 (lv_at hl 9 rfl) ?_
            refine lv_iconst (v := 0) hx hb dX6_pairFor_103 (by decide) ?_
            refine lv_iload_n hx hb dX6_pairFor_104 rfl (lv_at hl 3 rfl) ?_
            refine lv_iload hx hb dX6_pairFor_105 (lv_at hl 4 rfl) ?_
            refine lv_iload hx hb dX6_pairFor_107 (lv_at hl 5 rfl) ?_
            refine jn_i (wr := [(hd, .inl (cI, 256, .inl fh)), (nt, .inl (cI, 256, .inl fx)), (sh, .inr (5, [.int (nI lim), .ref sc, .int (nI cnt)])), (sc, .inl (cI, (lim * 6), .inl gf))]) hA hP hD hS [4, 5, 6] [0, 1, 2, 3] rfl rfl (by decide) (by decide) (rn_V (As := [.int (nI c), .int (nI 0), .int (nI k), .int (nI s), .int (nI md)]) (rest := []) ⟨hx, hb, hml, hown, hts⟩ (cvV 5 hts zc_yX6_fits zi_X6 zm_yX6_fits zv_yX6_fits kX6_78 (by decide +kernel) rfl rfl ⟨Nat.le_of_ble_eq_true rfl, Nat.le_of_ble_eq_true rfl⟩) (c_Table_fits l D cI cB cJ cR t sr so tn ts hd nt sf tt c 0 k s md (ht) (hc6) (by decide) (hk) (hs) (hm) H.size) hK hNw hMk hA hP hD hS [4, 5, 6] rfl rfl (by decide) 0 rfl rfl rfl rfl hl.1 rfl (Nat.le_of_ble_eq_true rfl) dX6_pairFor_109 ⟨Nat.le_of_ble_eq_true rfl, Nat.le_of_ble_eq_true rfl⟩) (fun r_20 u9 H locs w_21 hP hD hS => ?_)
            obtain ⟨r_20b, rfl, w_21⟩ := w_21
            try dsimp only at w_21
            have hP : va_P D vwCl [(hd, .inl (cI, 256, .inl fh)), (nt, .inl (cI, 256, .inl fx)), (sh, .inr (5, [.int (nI lim), .ref sc, .int (nI cnt)])), (sc, .inl (cI, (lim * 6), .inl gf)), (t, .inr (6, [.ref sr, .int (nI tn), .int (nI ts), .ref hd, .ref nt])), (sr, .inr (4, [.ref so, .int (nI 1536), .int 0])), (so, .inl (cI, 1536, .inl sf))] H := hP
            have hD : va_D A0 [(hd, .inl (cI, 256, .inl fh)), (nt, .inl (cI, 256, .inl fx)), (sh, .inr (5, [.int (nI lim), .ref sc, .int (nI cnt)])), (sc, .inl (cI, (lim * 6), .inl gf)), (t, .inr (6, [.ref sr, .int (nI tn), .int (nI ts), .ref hd, .ref nt])), (sr, .inr (4, [.ref so, .int (nI 1536), .int 0])), (so, .inl (cI, 1536, .inl sf))] := hD
            refine bz_eq (tgt := 118) hx hb dX6_pairFor_112 (by decide) (fun c_22 => ?_) (fun c_22 => ?_)
            · refine lv_aload_n hx hb dX6_pairFor_118 rfl (lv_at hl 0 rfl) ?_
              refine va_get (D := D) (ci := 6) (v := .ref nt) (C := RX6) (T := TX6) (N := 5) hx hb hts in_X6 hown hK hP 4 rfl rfl 4 (by decide) (hts _ kX6_24) (fun _ h9 => h9) rfl dX6_pairFor_119 ?_
              refine lv_iload hx hb dX6_pairFor_122 (lv_at hl 9 rfl) ?_
              refine ax_ild hx hb hK hP 1 0 rfl rfl c (rfl) (hc6) (by decide) dX6_pairFor_124 ?_
              refine ri (y := nxC (chq tt) (chn k s md) (256 - (c + 1)) (c + 1)) (by rw [hso.2 c hc6, w2, show 255 - c = 256 - (c + 1) by omega]) ?_
              refine lv_istore (lv' := [(9, .int (nxC (chq tt) (chn k s md) (256 - (c + 1)) (c + 1))), (0, .ref t), (1, .ref sh), (2, .int (nI x)), (3, .int (nI k)), (4, .int (nI s)), (5, .int (nI md)), (6, .int (nI k2)), (7, .int (nI s2)), (8, .int (nI md2)), (10, .int (nI i))]) hx hb dX6_pairFor_125 hl (by decide) rfl (fun ls hl => ?_)
              refine lv_iinc (v := nI (i + 1)) (lv' := [(10, .int (nI (i + 1))), (9, .int (nxC (chq tt) (chn k s md) (256 - (c + 1)) (c + 1))), (0, .ref t), (1, .ref sh), (2, .int (nI x)), (3, .int (nI k)), (4, .int (nI s)), (5, .int (nI md)), (6, .int (nI k2)), (7, .int (nI s2)), (8, .int (nI md2))]) hx hb dX6_pairFor_127 hl (k := 10) rfl (nI_add i 1) (by decide) rfl (fun ls hl => ?_)
              refine lv_goto (tgt := 71) hx hb dX6_pairFor_130 (by decide) ?_
              exact ih (i + 1) (c + 1) _ _ ls (by omega) (by omega) (by omega) (walk_step pr_chn hno w3 (by rw [prP, ← w_21, c_22, Bool.and_false])) (hP.sub [4, 5, 6, 0, 1, 2, 3] rfl) (hD.sub [4, 5, 6, 0, 1, 2, 3] (by decide) rfl) hS (lv_sub hl [2, 3, 4, 5, 6, 7, 8, 9, 10, 1, 0] rfl)
            · refine lv_iload hx hb dX6_pairFor_115 (lv_at hl 9 rfl) ?_
              have hP := hP.sub (ws' := [(t, .inr (6, [.ref sr, .int (nI tn), .int (nI ts), .ref hd, .ref nt])), (sr, .inr (4, [.ref so, .int (nI 1536), .int 0])), (so, .inl (cI, 1536, .inl sf)), (hd, .inl (cI, 256, .inl fh)), (nt, .inl (cI, 256, .inl fx)), (sh, .inr (5, [.int (nI lim), .ref sc, .int (nI cnt)])), (sc, .inl (cI, (lim * 6), .inl gf))]) [4, 5, 6, 0, 1, 2, 3] rfl
              have hD := hD.sub (ws' := [(t, .inr (6, [.ref sr, .int (nI tn), .int (nI ts), .ref hd, .ref nt])), (sr, .inr (4, [.ref so, .int (nI 1536), .int 0])), (so, .inl (cI, 1536, .inl sf)), (hd, .inl (cI, 256, .inl fh)), (nt, .inl (cI, 256, .inl fx)), (sh, .inr (5, [.int (nI lim), .ref sc, .int (nI cnt)])), (sc, .inl (cI, (lim * 6), .inl gf))]) [4, 5, 6, 0, 1, 2, 3] (by decide) rfl
              exact hret 117 ls _ _ _ () dX6_pairFor_117 hP hD hS ((walk_found pr_chn hno w3 (by rw [prP, ← w_18, c_19, ← w_21, c_22]; rfl) hc6).symm)
  exact loop _ 0 0 _ _ ls (Nat.lt_succ_self _) (by decide) (by decide) (fun d hd => absurd hd (Nat.not_lt_zero d)) hP hD hS (lv_sub hl [8, 9, 10, 7, 6, 5, 4, 3, 2, 1, 0] rfl)
