set_option maxHeartbeats 4000000 in
set_option maxRecDepth 100000 in
theorem c_Table_becomeFirst (l : Launch) (D : va_G) (cI cB cJ cR : ClassId) (t : Nat) (sr : Nat) (so : Nat) (hd : Nat) (nt : Nat) (x1 : Int32) (x2 : Int32) (x3 : Int32) (sf : Nat → Int32)  : CMv l yX6_becomeFirst cX6_becomeFirst 4 none ({ frames := 4, cells := 0, slots := 0, locals := 95 }) D (tyA cI cB cJ cR) 0 0 [.ref t] [(t, .inr (6, [.ref sr, .int x1, .int x2, .ref hd, .ref nt])), (sr, .inr (4, [.ref so, .int x3, .int 0])), (so, .inl (cI, 1536, .inl sf))] (fun (sf2 : Nat → Int32) => tabIs sf2 firstT) (fun (sf2 : Nat → Int32) => [(t, .inr (6, [.ref sr, .int (nI 4), .int (nI 3), .ref hd, .ref nt])), (sr, .inr (4, [.ref so, .int (nI 1536), .int 0])), (so, .inl (cI, 1536, .inl sf2))]) := by
  refine st_v (cc := cX6_becomeFirst) (maxL := 4) (by decide) (Nat.le_of_ble_eq_true rfl) ?_
  intro p0 e0 s0 m0 below meth c0 A0 Q0 hBD hret hP hD hS ls hl
  obtain ⟨hx, hb, hml, hown, hts, hnm, hK, hNw, hMk, hA⟩ := hBD
  have hl : lv_has ls 4 [(0, .ref t)] := hl
  have hP : va_P D vwCl [(t, .inr (6, [.ref sr, .int x1, .int x2, .ref hd, .ref nt])), (sr, .inr (4, [.ref so, .int x3, .int 0])), (so, .inl (cI, 1536, .inl sf))] s0.heap := hP
  have hD : va_D A0 [(t, .inr (6, [.ref sr, .int x1, .int x2, .ref hd, .ref nt])), (sr, .inr (4, [.ref so, .int x3, .int 0])), (so, .inl (cI, 1536, .inl sf))] := hD
  refine lv_aload_n hx hb dX6_becomeFirst_0 rfl (lv_at hl 0 rfl) ?_
  refine lv_iconst (v := 4) hx hb dX6_becomeFirst_1 (by decide) ?_
  refine ri (y := nI 4) (rfl) ?_
  refine va_put (D := D) (ci := 6) (v := .int (nI 4)) (ty := .int) (C := RX6) (T := TX6) (N := 5) hx hb hts in_X6 tyX6 tyX6_ok nmX6 hown hK hP hD hS 0 rfl rfl 1 (by decide) (hts _ kX6_31) (fun _ h9 => h9) rfl (by decide +kernel) rfl rfl (Nat.le_of_ble_eq_true rfl) dX6_becomeFirst_2 (fun H locs hP hD hS => ?_)
  have hP : va_P D vwCl [(t, .inr (6, [.ref sr, .int (nI 4), .int x2, .ref hd, .ref nt])), (sr, .inr (4, [.ref so, .int x3, .int 0])), (so, .inl (cI, 1536, .inl sf))] H := hP
  have hD : va_D A0 [(t, .inr (6, [.ref sr, .int (nI 4), .int x2, .ref hd, .ref nt])), (sr, .inr (4, [.ref so, .int x3, .int 0])), (so, .inl (cI, 1536, .inl sf))] := hD
  refine lv_aload_n hx hb dX6_becomeFirst_5 rfl (lv_at hl 0 rfl) ?_
  refine lv_iconst (v := 3) hx hb dX6_becomeFirst_6 (by decide) ?_
  refine ri (y := nI 3) (rfl) ?_
  refine va_put (D := D) (ci := 6) (v := .int (nI 3)) (ty := .int) (C := RX6) (T := TX6) (N := 5) hx hb hts in_X6 tyX6 tyX6_ok nmX6 hown hK hP hD hS 0 rfl rfl 2 (by decide) (hts _ kX6_35) (fun _ h9 => h9) rfl (by decide +kernel) rfl rfl (Nat.le_of_ble_eq_true rfl) dX6_becomeFirst_7 (fun H locs hP hD hS => ?_)
  have hP : va_P D vwCl [(t, .inr (6, [.ref sr, .int (nI 4), .int (nI 3), .ref hd, .ref nt])), (sr, .inr (4, [.ref so, .int x3, .int 0])), (so, .inl (cI, 1536, .inl sf))] H := hP
  have hD : va_D A0 [(t, .inr (6, [.ref sr, .int (nI 4), .int (nI 3), .ref hd, .ref nt])), (sr, .inr (4, [.ref so, .int x3, .int 0])), (so, .inl (cI, 1536, .inl sf))] := hD
  refine lv_aload_n hx hb dX6_becomeFirst_10 rfl (lv_at hl 0 rfl) ?_
  refine va_get (D := D) (ci := 6) (v := .ref sr) (C := RX6) (T := TX6) (N := 5) hx hb hts in_X6 hown hK hP 0 rfl rfl 0 (by decide) (hts _ kX6_14) (fun _ h9 => h9) rfl dX6_becomeFirst_11 ?_
  refine lv_sipush (v := 1536) hx hb dX6_becomeFirst_14 (by decide) ?_
  refine ri (y := nI 1536) (rfl) ?_
  refine va_put (D := D) (ci := 4) (v := .int (nI 1536)) (ty := .int) (C := RX4) (T := TX4) (N := 3) hx hb hts in_X4 tyX4 tyX4_ok nmX4 hown hK hP hD hS 1 rfl rfl 1 (by decide) (hts _ kX6_38) (fun _ h9 => h9) rfl (by decide +kernel) rfl rfl (Nat.le_of_ble_eq_true rfl) dX6_becomeFirst_17 (fun H locs hP hD hS => ?_)
  have hP : va_P D vwCl [(t, .inr (6, [.ref sr, .int (nI 4), .int (nI 3), .ref hd, .ref nt])), (sr, .inr (4, [.ref so, .int (nI 1536), .int 0])), (so, .inl (cI, 1536, .inl sf))] H := hP
  have hD : va_D A0 [(t, .inr (6, [.ref sr, .int (nI 4), .int (nI 3), .ref hd, .ref nt])), (sr, .inr (4, [.ref so, .int (nI 1536), .int 0])), (so, .inl (cI, 1536, .inl sf))] := hD
  refine lv_aload_n hx hb dX6_becomeFirst_20 rfl (lv_at hl 0 rfl) ?_
  refine va_get (D := D) (ci := 6) (v := .ref sr) (C := RX6) (T := TX6) (N := 5) hx hb hts in_X6 hown hK hP 0 rfl rfl 0 (by decide) (hts _ kX6_14) (fun _ h9 => h9) rfl dX6_becomeFirst_21 ?_
  refine va_get (D := D) (ci := 4) (v := .ref so) (C := RX4) (T := TX4) (N := 3) hx hb hts in_X4 hown hK hP 1 rfl rfl 0 (by decide) (hts _ kX6_41) (fun _ h9 => h9) rfl dX6_becomeFirst_24 ?_
  refine lv_iconst (v := 0) hx hb dX6_becomeFirst_27 (by decide) ?_
  refine jn_v (wr := [(t, .inr (6, [.ref sr, .int (nI 4), .int (nI 3), .ref hd, .ref nt])), (sr, .inr (4, [.ref so, .int (nI 1536), .int 0]))]) hA hP hD hS [2] [0, 1] rfl rfl (by decide) (by decide) (rn_S (As := [.ref so, .int 0]) (rest := []) ⟨hx, hb, hml, hown, hts⟩ (cvS 2 hts zc_yJ7_fill_53178 zi_J7 zs_yJ7_fill_53178 kX6_44 (by decide +kernel) rfl rfl ⟨Nat.le_of_ble_eq_true rfl, Nat.le_of_ble_eq_true rfl⟩) (c_fill l D cI cB cJ cR so 1536 sf 0 (by decide) H.size) hK hNw hMk hA hP hD hS [2] rfl rfl (by decide) rfl hl.1 rfl (Nat.le_of_ble_eq_true rfl) dX6_becomeFirst_28 ⟨Nat.le_of_ble_eq_true rfl, Nat.le_of_ble_eq_true rfl⟩) (fun u9 H locs w_3 hP hD hS => ?_)
  obtain ⟨f2_1, rfl⟩ : ∃ z9, z9 = u9 := ⟨_, rfl⟩
  try dsimp only at w_3
  have hP : va_P D vwCl [(t, .inr (6, [.ref sr, .int (nI 4), .int (nI 3), .ref hd, .ref nt])), (sr, .inr (4, [.ref so, .int (nI 1536), .int 0])), (so, .inl (cI, 1536, .inl f2_1))] H := hP
  have hD : va_D A0 [(t, .inr (6, [.ref sr, .int (nI 4), .int (nI 3), .ref hd, .ref nt])), (sr, .inr (4, [.ref so, .int (nI 1536), .int 0])), (so, .inl (cI, 1536, .inl f2_1))] := hD
  have hf0 : tabIs f2_1 (fuT 0) := fun j hj => ⟨(w_3 j hj).trans nI_0.symm, by simp [fuT]⟩
  refine lv_aload_n hx hb dX6_becomeFirst_31 rfl (lv_at hl 0 rfl) ?_
  refine lv_iconst (v := 0) hx hb dX6_becomeFirst_32 (by decide) ?_
  refine lv_iconst (v := 0) hx hb dX6_becomeFirst_33 (by decide) ?_
  refine lv_iconst (v := 2) hx hb dX6_becomeFirst_34 (by decide) ?_
  refine lv_iconst (v := 0) hx hb dX6_becomeFirst_35 (by decide) ?_
  refine lv_iconst (v := 0) hx hb dX6_becomeFirst_36 (by decide) ?_
  refine jn_v (wr := []) hA hP hD hS [0, 1, 2] [] rfl rfl (by decide) (by decide) (rn_V (As := [.int (nI 0), .int (nI 0), .int (nI 2), .int (nI 0), .int (nI 0)]) (rest := []) ⟨hx, hb, hml, hown, hts⟩ (cvV 5 hts zc_yX6_setPart zi_X6 zm_yX6_setPart zv_yX6_setPart kX6_50 (by decide +kernel) rfl rfl ⟨Nat.le_of_ble_eq_true rfl, Nat.le_of_ble_eq_true rfl⟩) (c_Table_setPart l D cI cB cJ cR t sr so 4 3 hd nt f2_1 (fuT 0) 0 0 2 0 0 (hf0) (by decide) (by decide) (by decide) (by decide) (by decide) H.size) hK hNw hMk hA hP hD hS [0, 1, 2] rfl rfl (by decide) 0 rfl rfl rfl rfl hl.1 rfl (Nat.le_of_ble_eq_true rfl) dX6_becomeFirst_37 ⟨Nat.le_of_ble_eq_true rfl, Nat.le_of_ble_eq_true rfl⟩) (fun u9 H locs w_6 hP hD hS => ?_)
  obtain ⟨sf2_4, rfl⟩ : ∃ z9, z9 = u9 := ⟨_, rfl⟩
  try dsimp only at w_6
  have hP : va_P D vwCl [(t, .inr (6, [.ref sr, .int (nI 4), .int (nI 3), .ref hd, .ref nt])), (sr, .inr (4, [.ref so, .int (nI 1536), .int 0])), (so, .inl (cI, 1536, .inl sf2_4))] H := hP
  have hD : va_D A0 [(t, .inr (6, [.ref sr, .int (nI 4), .int (nI 3), .ref hd, .ref nt])), (sr, .inr (4, [.ref so, .int (nI 1536), .int 0])), (so, .inl (cI, 1536, .inl sf2_4))] := hD
  have hf1 : tabIs sf2_4 (fuT 1) := tab_fu w_6 (fun j hj => fu_one (by decide) ft_run j hj)
  refine lv_iconst (v := 0) hx hb dX6_becomeFirst_40 (by decide) ?_
  refine ri (y := nI 0) (nI_0.symm) ?_
  refine lv_istore_n (lv' := [(1, .int (nI 0)), (0, .ref t)]) hx hb dX6_becomeFirst_41 rfl hl (by decide) rfl (fun ls hl => ?_)
  have loopc : ∀ (k9 : Nat) (m : Nat) (f1 : Nat → Int32) (H : Heap) (locs : List Loc) (ls : Array Slot), 9 - m < k9 → (m ≤ 9) → (tabIs f1 (fuT (19 + 16 * m))) → va_P D vwCl [(t, .inr (6, [.ref sr, .int (nI 4), .int (nI 3), .ref hd, .ref nt])), (sr, .inr (4, [.ref so, .int (nI 1536), .int 0])), (so, .inl (cI, 1536, .inl f1))] H → va_D A0 [(t, .inr (6, [.ref sr, .int (nI 4), .int (nI 3), .ref hd, .ref nt])), (sr, .inr (4, [.ref so, .int (nI 1536), .int 0])), (so, .inl (cI, 1536, .inl f1))] → va_S A0 s0.heap H locs → lv_has ls 4 [(0, .ref t), (1, .int (nI (19 + 16 * m))), (2, .int (nI m))] → W p0 l e0 ({ frames := 4, cells := 0, slots := 0, locals := 95 }) s0 m0 ([.ref t] : List Value).toArray below meth c0 H locs 0 0 Q0 (F0 m0 70 ls []) := by
    intro k9
    induction k9 with
    | zero => intro m f1 H locs ls hk9; exact absurd hk9 (Nat.not_lt_zero _)
    | succ k9 ihc =>
      intro m f1 H locs ls hk9 hm hf hP hD hS hl
      refine lv_iload_n hx hb dX6_becomeFirst_70 rfl (lv_at hl 2 rfl) ?_
      refine lv_bipush (v := 8) hx hb dX6_becomeFirst_71 (by decide) ?_
      refine lv_icmp_gt (tgt := 121) hx hb dX6_becomeFirst_73 (by decide) (fun c_7 => ?_) (fun c_7 => ?_)
      · have hm9 : m = 9 := by have := (nI_ltI (a := 8) (b := m) (by decide) (by omega)).mp c_7; omega
        have hpx : 19 + 16 * m = 163 := by omega
        rw [hpx] at hl hf
        refine lv_aload_n hx hb dX6_becomeFirst_121 rfl (lv_at hl 0 rfl) ?_
        refine lv_iload_n hx hb dX6_becomeFirst_122 rfl (lv_at hl 1 rfl) ?_
        refine jn_v (wr := []) hA hP hD hS [0, 1, 2] [] rfl rfl (by decide) (by decide) (rn_V (As := [.int (nI 163)]) (rest := []) ⟨hx, hb, hml, hown, hts⟩ (cvV 1 hts zc_yX6_setFirstPairs zi_X6 zm_yX6_setFirstPairs zv_yX6_setFirstPairs kX6_54 (by decide +kernel) rfl rfl ⟨Nat.le_of_ble_eq_true rfl, Nat.le_of_ble_eq_true rfl⟩) (c_Table_setFirstPairs l D cI cB cJ cR t sr so 4 3 hd nt f1 (hf) H.size) hK hNw hMk hA hP hD hS [0, 1, 2] rfl rfl (by decide) 0 rfl rfl rfl rfl hl.1 rfl (Nat.le_of_ble_eq_true rfl) dX6_becomeFirst_123 ⟨Nat.le_of_ble_eq_true rfl, Nat.le_of_ble_eq_true rfl⟩) (fun u9 H locs w_10 hP hD hS => ?_)
        obtain ⟨sf2_8, rfl⟩ : ∃ z9, z9 = u9 := ⟨_, rfl⟩
        try dsimp only at w_10
        have hP : va_P D vwCl [(t, .inr (6, [.ref sr, .int (nI 4), .int (nI 3), .ref hd, .ref nt])), (sr, .inr (4, [.ref so, .int (nI 1536), .int 0])), (so, .inl (cI, 1536, .inl sf2_8))] H := hP
        have hD : va_D A0 [(t, .inr (6, [.ref sr, .int (nI 4), .int (nI 3), .ref hd, .ref nt])), (sr, .inr (4, [.ref so, .int (nI 1536), .int 0])), (so, .inl (cI, 1536, .inl sf2_8))] := hD
        exact hret 126 ls _ _ (sf2_8) dX6_becomeFirst_126 hP hD hS (w_10)
      · have hm9 : m < 9 := by have := Nat.not_lt.mp (fun z => c_7 (nI_lt (a := 8) (b := m) z (by omega))); omega
        refine lv_aload_n hx hb dX6_becomeFirst_76 rfl (lv_at hl 0 rfl) ?_
        refine lv_iload_n hx hb dX6_becomeFirst_77 rfl (lv_at hl 1 rfl) ?_
        refine lv_iconst (v := 0) hx hb dX6_becomeFirst_78 (by decide) ?_
        refine lv_iconst (v := 3) hx hb dX6_becomeFirst_79 (by decide) ?_
        refine lv_iconst (v := 0) hx hb dX6_becomeFirst_80 (by decide) ?_
        refine lv_iload_n hx hb dX6_becomeFirst_81 rfl (lv_at hl 2 rfl) ?_
        refine jn_v (wr := []) hA hP hD hS [0, 1, 2] [] rfl rfl (by decide) (by decide) (rn_V (As := [.int (nI (19 + 16 * m)), .int (nI 0), .int (nI 3), .int (nI 0), .int (nI m)]) (rest := []) ⟨hx, hb, hml, hown, hts⟩ (cvV 5 hts zc_yX6_setPart zi_X6 zm_yX6_setPart zv_yX6_setPart kX6_50 (by decide +kernel) rfl rfl ⟨Nat.le_of_ble_eq_true rfl, Nat.le_of_ble_eq_true rfl⟩) (c_Table_setPart l D cI cB cJ cR t sr so 4 3 hd nt f1 (fuT (19 + 16 * m)) (19 + 16 * m) 0 3 0 m (hf) (by omega) (by decide) (by decide) (by decide) (by omega) H.size) hK hNw hMk hA hP hD hS [0, 1, 2] rfl rfl (by decide) 0 rfl rfl rfl rfl hl.1 rfl (Nat.le_of_ble_eq_true rfl) dX6_becomeFirst_82 ⟨Nat.le_of_ble_eq_true rfl, Nat.le_of_ble_eq_true rfl⟩) (fun u9 H locs w_13 hP hD hS => ?_)
        obtain ⟨sf2_11, rfl⟩ : ∃ z9, z9 = u9 := ⟨_, rfl⟩
        try dsimp only at w_13
        have hP : va_P D vwCl [(t, .inr (6, [.ref sr, .int (nI 4), .int (nI 3), .ref hd, .ref nt])), (sr, .inr (4, [.ref so, .int (nI 1536), .int 0])), (so, .inl (cI, 1536, .inl sf2_11))] H := hP
        have hD : va_D A0 [(t, .inr (6, [.ref sr, .int (nI 4), .int (nI 3), .ref hd, .ref nt])), (sr, .inr (4, [.ref so, .int (nI 1536), .int 0])), (so, .inl (cI, 1536, .inl sf2_11))] := hD
        have hf3 : tabIs sf2_11 (fuT (19 + 16 * m + 4 - 3)) := tab_fu w_13 (fun j hj => fu_one (by omega) (ft_cp0 m hm9) j hj)
        have loopi : ∀ (k9 : Nat) (z : Nat) (f2 : Nat → Int32) (H : Heap) (locs : List Loc) (ls : Array Slot), 19 - z < k9 → (4 ≤ z) → (z ≤ 19) → (tabIs f2 (fuT (19 + 16 * m + z - 3))) → va_P D vwCl [(t, .inr (6, [.ref sr, .int (nI 4), .int (nI 3), .ref hd, .ref nt])), (sr, .inr (4, [.ref so, .int (nI 1536), .int 0])), (so, .inl (cI, 1536, .inl f2))] H → va_D A0 [(t, .inr (6, [.ref sr, .int (nI 4), .int (nI 3), .ref hd, .ref nt])), (sr, .inr (4, [.ref so, .int (nI 1536), .int 0])), (so, .inl (cI, 1536, .inl f2))] → va_S A0 s0.heap H locs → lv_has ls 4 [(0, .ref t), (1, .int (nI (19 + 16 * m))), (2, .int (nI m)), (3, .int (nI z))] → W p0 l e0 ({ frames := 4, cells := 0, slots := 0, locals := 95 }) s0 m0 ([.ref t] : List Value).toArray below meth c0 H locs 0 0 Q0 (F0 m0 87 ls []) := by
          intro k9
          induction k9 with
          | zero => intro z f2 H locs ls hk9; exact absurd hk9 (Nat.not_lt_zero _)
          | succ k9 ihi =>
            intro z f2 H locs ls hk9 hz4 hz19 hfz hP hD hS hl
            refine lv_iload_n hx hb dX6_becomeFirst_87 rfl (lv_at hl 3 rfl) ?_
            refine lv_bipush (v := 18) hx hb dX6_becomeFirst_88 (by decide) ?_
            refine lv_icmp_gt (tgt := 112) hx hb dX6_becomeFirst_90 (by decide) (fun c_14 => ?_) (fun c_14 => ?_)
            · have hz : z = 19 := by have := (nI_ltI (a := 18) (b := z) (by decide) (by omega)).mp c_14; omega
              have hf4 : tabIs f2 (fuT (19 + 16 * (m + 1))) := by have h9 := hfz; rw [hz] at h9; rw [show 19 + 16 * (m + 1) = 19 + 16 * m + 19 - 3 by omega]; exact h9
              refine lv_iinc (v := nI ((19 + 16 * m) + 16)) (lv' := [(1, .int (nI ((19 + 16 * m) + 16))), (0, .ref t), (2, .int (nI m)), (3, .int (nI z))]) hx hb dX6_becomeFirst_112 hl (k := 1) rfl (nI_add (19 + 16 * m) 16) (by decide) rfl (fun ls hl => ?_)
              refine lv_iinc (v := nI (m + 1)) (lv' := [(2, .int (nI (m + 1))), (1, .int (nI ((19 + 16 * m) + 16))), (0, .ref t), (3, .int (nI z))]) hx hb dX6_becomeFirst_115 hl (k := 2) rfl (nI_add m 1) (by decide) rfl (fun ls hl => ?_)
              refine lv_goto (tgt := 70) hx hb dX6_becomeFirst_118 (by decide) ?_
              have hpx : 19 + 16 * m + 16 = 19 + 16 * (m + 1) := by omega
              rw [hpx] at hl
              exact ihc (m + 1) f2 _ _ ls (by omega) (by omega) (hf4) hP hD hS (lv_sub hl [2, 1, 0] rfl)
            · have hz : z < 19 := by have := Nat.not_lt.mp (fun q => c_14 (nI_lt (a := 18) (b := z) q (by omega))); omega
              refine lv_aload_n hx hb dX6_becomeFirst_93 rfl (lv_at hl 0 rfl) ?_
              refine lv_iload_n hx hb dX6_becomeFirst_94 rfl (lv_at hl 1 rfl) ?_
              refine lv_iload_n hx hb dX6_becomeFirst_95 rfl (lv_at hl 3 rfl) ?_
              refine lv_iadd hx hb dX6_becomeFirst_96 ?_
              refine ri (y := nI ((19 + 16 * m) + z)) (nI_add (19 + 16 * m) z) ?_
              refine lv_iconst (v := 3) hx hb dX6_becomeFirst_97 (by decide) ?_
              refine lv_isub hx hb dX6_becomeFirst_98 ?_
              refine ri (y := nI (19 + 16 * m + z - 3)) (pk_sub (b := 3) (by omega)) ?_
              refine lv_iconst (v := 0) hx hb dX6_becomeFirst_99 (by decide) ?_
              refine lv_iconst (v := 3) hx hb dX6_becomeFirst_100 (by decide) ?_
              refine lv_iload_n hx hb dX6_becomeFirst_101 rfl (lv_at hl 3 rfl) ?_
              refine lv_iload_n hx hb dX6_becomeFirst_102 rfl (lv_at hl 2 rfl) ?_
              refine jn_v (wr := []) hA hP hD hS [0, 1, 2] [] rfl rfl (by decide) (by decide) (rn_V (As := [.int (nI (19 + 16 * m + z - 3)), .int (nI 0), .int (nI 3), .int (nI z), .int (nI m)]) (rest := []) ⟨hx, hb, hml, hown, hts⟩ (cvV 5 hts zc_yX6_setPart zi_X6 zm_yX6_setPart zv_yX6_setPart kX6_50 (by decide +kernel) rfl rfl ⟨Nat.le_of_ble_eq_true rfl, Nat.le_of_ble_eq_true rfl⟩) (c_Table_setPart l D cI cB cJ cR t sr so 4 3 hd nt f2 (fuT (19 + 16 * m + z - 3)) (19 + 16 * m + z - 3) 0 3 z m (hfz) (by omega) (by decide) (by decide) (by omega) (by omega) H.size) hK hNw hMk hA hP hD hS [0, 1, 2] rfl rfl (by decide) 0 rfl rfl rfl rfl hl.1 rfl (Nat.le_of_ble_eq_true rfl) dX6_becomeFirst_103 ⟨Nat.le_of_ble_eq_true rfl, Nat.le_of_ble_eq_true rfl⟩) (fun u9 H locs w_17 hP hD hS => ?_)
              obtain ⟨sf2_15, rfl⟩ : ∃ z9, z9 = u9 := ⟨_, rfl⟩
              try dsimp only at w_17
              have hP : va_P D vwCl [(t, .inr (6, [.ref sr, .int (nI 4), .int (nI 3), .ref hd, .ref nt])), (sr, .inr (4, [.ref so, .int (nI 1536), .int 0])), (so, .inl (cI, 1536, .inl sf2_15))] H := hP
              have hD : va_D A0 [(t, .inr (6, [.ref sr, .int (nI 4), .int (nI 3), .ref hd, .ref nt])), (sr, .inr (4, [.ref so, .int (nI 1536), .int 0])), (so, .inl (cI, 1536, .inl sf2_15))] := hD
              refine lv_iinc (v := nI (z + 1)) (lv' := [(3, .int (nI (z + 1))), (0, .ref t), (1, .int (nI (19 + 16 * m))), (2, .int (nI m))]) hx hb dX6_becomeFirst_106 hl (k := 3) rfl (nI_add z 1) (by decide) rfl (fun ls hl => ?_)
              refine lv_goto (tgt := 87) hx hb dX6_becomeFirst_109 (by decide) ?_
              exact ihi (z + 1) sf2_15 _ _ ls (by omega) (by omega) (by omega) (by rw [show 19 + 16 * m + (z + 1) - 3 = 19 + 16 * m + z - 3 + 1 by omega]; exact tab_fu w_17 (fun j hj => fu_one (by omega) (ft_cp m hm9 z hz hz4) j hj)) hP hD hS (lv_sub hl [1, 2, 3, 0] rfl)
        refine lv_iconst (v := 4) hx hb dX6_becomeFirst_85 (by decide) ?_
        refine ri (y := nI 4) (rfl) ?_
        refine lv_istore_n (lv' := [(3, .int (nI 4)), (0, .ref t), (1, .int (nI (19 + 16 * m))), (2, .int (nI m))]) hx hb dX6_becomeFirst_86 rfl hl (by decide) rfl (fun ls hl => ?_)
        exact loopi _ 4 sf2_11 _ _ ls (Nat.lt_succ_self _) (by decide) (by decide) (hf3) hP hD hS (lv_sub hl [1, 2, 3, 0] rfl)
  have loopa : ∀ (k9 : Nat) (z : Nat) (f1 : Nat → Int32) (H : Heap) (locs : List Loc) (ls : Array Slot), 18 - z < k9 → (z ≤ 18) → (tabIs f1 (fuT (1 + z))) → va_P D vwCl [(t, .inr (6, [.ref sr, .int (nI 4), .int (nI 3), .ref hd, .ref nt])), (sr, .inr (4, [.ref so, .int (nI 1536), .int 0])), (so, .inl (cI, 1536, .inl f1))] H → va_D A0 [(t, .inr (6, [.ref sr, .int (nI 4), .int (nI 3), .ref hd, .ref nt])), (sr, .inr (4, [.ref so, .int (nI 1536), .int 0])), (so, .inl (cI, 1536, .inl f1))] → va_S A0 s0.heap H locs → lv_has ls 4 [(0, .ref t), (1, .int (nI z))] → W p0 l e0 ({ frames := 4, cells := 0, slots := 0, locals := 95 }) s0 m0 ([.ref t] : List Value).toArray below meth c0 H locs 0 0 Q0 (F0 m0 42 ls []) := by
    intro k9
    induction k9 with
    | zero => intro z f1 H locs ls hk9; exact absurd hk9 (Nat.not_lt_zero _)
    | succ k9 iha =>
      intro z f1 H locs ls hk9 hz18 hf hP hD hS hl
      refine lv_iload_n hx hb dX6_becomeFirst_42 rfl (lv_at hl 1 rfl) ?_
      refine lv_bipush (v := 17) hx hb dX6_becomeFirst_43 (by decide) ?_
      refine lv_icmp_gt (tgt := 65) hx hb dX6_becomeFirst_45 (by decide) (fun c_18 => ?_) (fun c_18 => ?_)
      · have hz : z = 18 := by have := (nI_ltI (a := 17) (b := z) (by decide) (by omega)).mp c_18; omega
        have hf5 : tabIs f1 (fuT (19 + 16 * 0)) := by have h9 := hf; rw [hz] at h9; exact h9
        refine lv_bipush (v := 19) hx hb dX6_becomeFirst_65 (by decide) ?_
        refine ri (y := nI (19 + 16 * 0)) (rfl) ?_
        refine lv_istore_n (lv' := [(1, .int (nI (19 + 16 * 0))), (0, .ref t)]) hx hb dX6_becomeFirst_67 rfl hl (by decide) rfl (fun ls hl => ?_)
        refine lv_iconst (v := 0) hx hb dX6_becomeFirst_68 (by decide) ?_
        refine ri (y := nI 0) (nI_0.symm) ?_
        refine lv_istore_n (lv' := [(2, .int (nI 0)), (1, .int (nI (19 + 16 * 0))), (0, .ref t)]) hx hb dX6_becomeFirst_69 rfl hl (by decide) rfl (fun ls hl => ?_)
        exact loopc _ 0 f1 _ _ ls (Nat.lt_succ_self _) (by decide) (hf5) hP hD hS (lv_sub hl [2, 1, 0] rfl)
      · have hz : z < 18 := by have := Nat.not_lt.mp (fun q => c_18 (nI_lt (a := 17) (b := z) q (by omega))); omega
        refine lv_aload_n hx hb dX6_becomeFirst_48 rfl (lv_at hl 0 rfl) ?_
        refine lv_iconst (v := 1) hx hb dX6_becomeFirst_49 (by decide) ?_
        refine lv_iload_n hx hb dX6_becomeFirst_50 rfl (lv_at hl 1 rfl) ?_
        refine lv_iadd hx hb dX6_becomeFirst_51 ?_
        refine ri (y := nI (1 + z)) (nI_add 1 z) ?_
        refine lv_iconst (v := 0) hx hb dX6_becomeFirst_52 (by decide) ?_
        refine lv_iconst (v := 1) hx hb dX6_becomeFirst_53 (by decide) ?_
        refine lv_iload_n hx hb dX6_becomeFirst_54 rfl (lv_at hl 1 rfl) ?_
        refine lv_iconst (v := 0) hx hb dX6_becomeFirst_55 (by decide) ?_
        refine jn_v (wr := []) hA hP hD hS [0, 1, 2] [] rfl rfl (by decide) (by decide) (rn_V (As := [.int (nI (1 + z)), .int (nI 0), .int (nI 1), .int (nI z), .int (nI 0)]) (rest := []) ⟨hx, hb, hml, hown, hts⟩ (cvV 5 hts zc_yX6_setPart zi_X6 zm_yX6_setPart zv_yX6_setPart kX6_50 (by decide +kernel) rfl rfl ⟨Nat.le_of_ble_eq_true rfl, Nat.le_of_ble_eq_true rfl⟩) (c_Table_setPart l D cI cB cJ cR t sr so 4 3 hd nt f1 (fuT (1 + z)) (1 + z) 0 1 z 0 (hf) (by omega) (by decide) (by decide) (by omega) (by decide) H.size) hK hNw hMk hA hP hD hS [0, 1, 2] rfl rfl (by decide) 0 rfl rfl rfl rfl hl.1 rfl (Nat.le_of_ble_eq_true rfl) dX6_becomeFirst_56 ⟨Nat.le_of_ble_eq_true rfl, Nat.le_of_ble_eq_true rfl⟩) (fun u9 H locs w_21 hP hD hS => ?_)
        obtain ⟨sf2_19, rfl⟩ : ∃ z9, z9 = u9 := ⟨_, rfl⟩
        try dsimp only at w_21
        have hP : va_P D vwCl [(t, .inr (6, [.ref sr, .int (nI 4), .int (nI 3), .ref hd, .ref nt])), (sr, .inr (4, [.ref so, .int (nI 1536), .int 0])), (so, .inl (cI, 1536, .inl sf2_19))] H := hP
        have hD : va_D A0 [(t, .inr (6, [.ref sr, .int (nI 4), .int (nI 3), .ref hd, .ref nt])), (sr, .inr (4, [.ref so, .int (nI 1536), .int 0])), (so, .inl (cI, 1536, .inl sf2_19))] := hD
        refine lv_iinc (v := nI (z + 1)) (lv' := [(1, .int (nI (z + 1))), (0, .ref t)]) hx hb dX6_becomeFirst_59 hl (k := 1) rfl (nI_add z 1) (by decide) rfl (fun ls hl => ?_)
        refine lv_goto (tgt := 42) hx hb dX6_becomeFirst_62 (by decide) ?_
        exact iha (z + 1) sf2_19 _ _ ls (by omega) (by omega) (by rw [show 1 + (z + 1) = 1 + z + 1 by omega]; exact tab_fu w_21 (fun j hj => fu_one (by omega) (ft_add z hz) j hj)) hP hD hS (lv_sub hl [1, 0] rfl)
  exact loopa _ 0 sf2_4 _ _ ls (Nat.lt_succ_self _) (by decide) (hf1) hP hD hS (lv_sub hl [1, 0] rfl)

set_option maxHeartbeats 4000000 in
set_option maxRecDepth 100000 in
theorem c_Row_init (l : Launch) (D : va_G) (cI cB cJ cR : ClassId) (h : Nat) (N : Nat) (hN : N < 2 ^ 24) : CMv l yX4_init cX4_init 2 none ({ frames := 1, cells := 1, slots := N, locals := 21 }) D (tyA cI cB cJ cR) 1 N [.ref h, .int (nI N)] [(h, .inr (4, [.null, .int 0, .int 0]))] (fun (o : Nat) => True) (fun (o : Nat) => [(h, .inr (4, [.ref o, .int 0, .int 0])), (o, .inl (cI, N, .inl (fun _ => 0)))]) := by
  refine st_v (cc := cX4_init) (maxL := 2) (by decide) (Nat.le_of_ble_eq_true rfl) ?_
  intro p0 e0 s0 m0 below meth c0 A0 Q0 hBD hret hP hD hS ls hl
  obtain ⟨hx, hb, hml, hown, hts, hnm, hK, hNw, hMk, hA⟩ := hBD
  have hl : lv_has ls 2 [(0, .ref h), (1, .int (nI N))] := hl
  have hP : va_P D vwCl [(h, .inr (4, [.null, .int 0, .int 0]))] s0.heap := hP
  have hD : va_D A0 [(h, .inr (4, [.null, .int 0, .int 0]))] := hD
  refine lv_aload_n hx hb dX4_init_0 rfl (lv_at hl 0 rfl) ?_
  refine W.objInit hx hb hown (hts _ kX4_3) (hts _ zm_objectInit) (hts _ zc_objectInit) rfl (by rw [hml]; exact hl.1) rfl dX4_init_1 (Nat.le_of_ble_eq_true rfl) (Nat.le_of_ble_eq_true rfl) ?_
  refine W.eq (g2 := F0 m0 4 ls []) rfl ?_
  refine lv_aload_n hx hb dX4_init_4 rfl (lv_at hl 0 rfl) ?_
  refine lv_iload_n hx hb dX4_init_5 rfl (lv_at hl 1 rfl) ?_
  refine lv_iconst (v := 0) hx hb dX4_init_6 (by decide) ?_
  refine va_mmax hx hb (hml.trans hl.1.symm) hown (hts _ kX4_9) (hts _ zs_yJ9_max_7cf53) (hts _ zi_J9) (hts _ zc_yJ9_max_7cf53) (Nat.le_of_ble_eq_true rfl) (Nat.le_of_ble_eq_true rfl) (Nat.zero_le _) (Nat.zero_le _) dX4_init_7 ?_
  refine ri (y := nI N) ((nI_max (a := N) (b := 0) (by omega) (by decide)).trans (by rw [Nat.max_eq_left (Nat.zero_le _)])) ?_
  refine ax_newI hx hb (hts _ za_int) hK hP hD hS hA 0 rfl N (rfl) (by omega) (by show 0 + 1 ≤ 1; omega) (by show 0 + N ≤ N; omega) dX4_init_10 (fun q_1 H hP hD hS => ?_)
  have hP : va_P D vwCl [(h, .inr (4, [.null, .int 0, .int 0])), (q_1, .inl (cI, N, .inl (fun _ => 0)))] H := hP
  have hD : va_D A0 [(h, .inr (4, [.null, .int 0, .int 0])), (q_1, .inl (cI, N, .inl (fun _ => 0)))] := hD
  refine W.widen (k := 1) (n := N) (by first | omega | (dsimp only; omega)) (by first | omega | (dsimp only; omega)) ?_
  refine va_putF (D := D) (ci := 4) (v := .ref q_1) (ty := .array .int) (C := RX4) (T := TX4) (N := 3) hx hb hts in_X4 tyX4 tyX4_ok nmX4 hown hK hP hD hS 0 rfl rfl 0 (by decide) (hts _ kX4_15) (fun _ h9 => h9) rfl hnm rfl (by decide +kernel) rfl rfl (Nat.le_of_ble_eq_true rfl) dX4_init_12 (fun H locs hP hD hS => ?_)
  have hP : va_P D vwCl [(h, .inr (4, [.ref q_1, .int 0, .int 0])), (q_1, .inl (cI, N, .inl (fun _ => 0)))] H := hP
  have hD : va_D A0 [(h, .inr (4, [.ref q_1, .int 0, .int 0])), (q_1, .inl (cI, N, .inl (fun _ => 0)))] := hD
  exact hret 15 ls _ _ (q_1) dX4_init_15 hP hD hS (trivial)

set_option maxHeartbeats 4000000 in
set_option maxRecDepth 100000 in
theorem c_Steps_init (l : Launch) (D : va_G) (cI cB cJ cR : ClassId) (h : Nat) (N : Nat) (hN : N < 2 ^ 20) : CMv l yX5_init cX5_init 2 none ({ frames := 1, cells := 1, slots := N * 6, locals := 21 }) D (tyA cI cB cJ cR) 1 (N * 6) [.ref h, .int (nI N)] [(h, .inr (5, [.int 0, .null, .int 0]))] (fun (o : Nat) => True) (fun (o : Nat) => [(h, .inr (5, [.int (nI N), .ref o, .int 0])), (o, .inl (cI, (N * 6), .inl (fun _ => 0)))]) := by
  refine st_v (cc := cX5_init) (maxL := 2) (by decide) (Nat.le_of_ble_eq_true rfl) ?_
  intro p0 e0 s0 m0 below meth c0 A0 Q0 hBD hret hP hD hS ls hl
  obtain ⟨hx, hb, hml, hown, hts, hnm, hK, hNw, hMk, hA⟩ := hBD
  have hl : lv_has ls 2 [(0, .ref h), (1, .int (nI N))] := hl
  have hP : va_P D vwCl [(h, .inr (5, [.int 0, .null, .int 0]))] s0.heap := hP
  have hD : va_D A0 [(h, .inr (5, [.int 0, .null, .int 0]))] := hD
  refine lv_aload_n hx hb dX5_init_0 rfl (lv_at hl 0 rfl) ?_
  refine W.objInit hx hb hown (hts _ kX5_1) (hts _ zm_objectInit) (hts _ zc_objectInit) rfl (by rw [hml]; exact hl.1) rfl dX5_init_1 (Nat.le_of_ble_eq_true rfl) (Nat.le_of_ble_eq_true rfl) ?_
  refine W.eq (g2 := F0 m0 4 ls []) rfl ?_
  refine lv_aload_n hx hb dX5_init_4 rfl (lv_at hl 0 rfl) ?_
  refine lv_iload_n hx hb dX5_init_5 rfl (lv_at hl 1 rfl) ?_
  refine lv_iconst (v := 0) hx hb dX5_init_6 (by decide) ?_
  refine va_mmax hx hb (hml.trans hl.1.symm) hown (hts _ kX5_7) (hts _ zs_yJ9_max_7cf53) (hts _ zi_J9) (hts _ zc_yJ9_max_7cf53) (Nat.le_of_ble_eq_true rfl) (Nat.le_of_ble_eq_true rfl) (Nat.zero_le _) (Nat.zero_le _) dX5_init_7 ?_
  refine ri (y := nI N) ((nI_max (a := N) (b := 0) (by omega) (by decide)).trans (by rw [Nat.max_eq_left (Nat.zero_le _)])) ?_
  refine va_putF (D := D) (ci := 5) (v := .int (nI N)) (ty := .int) (C := RX5) (T := TX5) (N := 3) hx hb hts in_X5 tyX5 tyX5_ok nmX5 hown hK hP hD hS 0 rfl rfl 0 (by decide) (hts _ kX5_13) (fun _ h9 => h9) rfl hnm rfl (by decide +kernel) rfl rfl (Nat.le_of_ble_eq_true rfl) dX5_init_10 (fun H locs hP hD hS => ?_)
  have hP : va_P D vwCl [(h, .inr (5, [.int (nI N), .null, .int 0]))] H := hP
  have hD : va_D A0 [(h, .inr (5, [.int (nI N), .null, .int 0]))] := hD
  refine lv_aload_n hx hb dX5_init_13 rfl (lv_at hl 0 rfl) ?_
  refine lv_aload_n hx hb dX5_init_14 rfl (lv_at hl 0 rfl) ?_
  refine va_get (D := D) (ci := 5) (v := .int (nI N)) (C := RX5) (T := TX5) (N := 3) hx hb hts in_X5 hown hK hP 0 rfl rfl 0 (by decide) (hts _ kX5_13) (fun _ h9 => h9) rfl dX5_init_15 ?_
  refine lv_bipush (v := 6) hx hb dX5_init_18 (by decide) ?_
  refine lv_imul hx hb dX5_init_20 ?_
  refine ri (y := nI (N * 6)) (pk_mul N 6) ?_
  refine ax_newI hx hb (hts _ za_int) hK hP hD hS hA 0 rfl (N * 6) (rfl) (by omega) (by show 0 + 1 ≤ 1; omega) (by show 0 + (N * 6) ≤ N * 6; omega) dX5_init_21 (fun q_1 H hP hD hS => ?_)
  have hP : va_P D vwCl [(h, .inr (5, [.int (nI N), .null, .int 0])), (q_1, .inl (cI, N * 6, .inl (fun _ => 0)))] H := hP
  have hD : va_D A0 [(h, .inr (5, [.int (nI N), .null, .int 0])), (q_1, .inl (cI, N * 6, .inl (fun _ => 0)))] := hD
  refine W.widen (k := 1) (n := (N * 6)) (by first | omega | (dsimp only; omega)) (by first | omega | (dsimp only; omega)) ?_
  refine va_putF (D := D) (ci := 5) (v := .ref q_1) (ty := .array .int) (C := RX5) (T := TX5) (N := 3) hx hb hts in_X5 tyX5 tyX5_ok nmX5 hown hK hP hD hS 0 rfl rfl 1 (by decide) (hts _ kX5_19) (fun _ h9 => h9) rfl hnm rfl (by decide +kernel) rfl rfl (Nat.le_of_ble_eq_true rfl) dX5_init_23 (fun H locs hP hD hS => ?_)
  have hP : va_P D vwCl [(h, .inr (5, [.int (nI N), .ref q_1, .int 0])), (q_1, .inl (cI, N * 6, .inl (fun _ => 0)))] H := hP
  have hD : va_D A0 [(h, .inr (5, [.int (nI N), .ref q_1, .int 0])), (q_1, .inl (cI, N * 6, .inl (fun _ => 0)))] := hD
  exact hret 26 ls _ _ (q_1) dX5_init_26 hP hD hS (trivial)

set_option maxHeartbeats 4000000 in
set_option maxRecDepth 100000 in
theorem c_Cursor_init (l : Launch) (D : va_G) (cI cB cJ cR : ClassId) (h : Nat)  : CMv l yX1_init cX1_init 1 none ({ frames := 1, cells := 1, slots := 0, locals := 21 }) D (tyA cI cB cJ cR) 1 0 [.ref h] [(h, .inr (1, [.null, .int 0, .int 0]))] (fun (o : Nat) => True) (fun (o : Nat) => [(h, .inr (1, [.ref o, .int 0, .int 0])), (o, .inl (cI, 0, .inl (fun _ => 0)))]) := by
  refine st_v (cc := cX1_init) (maxL := 1) (by decide) (Nat.le_of_ble_eq_true rfl) ?_
  intro p0 e0 s0 m0 below meth c0 A0 Q0 hBD hret hP hD hS ls hl
  obtain ⟨hx, hb, hml, hown, hts, hnm, hK, hNw, hMk, hA⟩ := hBD
  have hl : lv_has ls 1 [(0, .ref h)] := hl
  have hP : va_P D vwCl [(h, .inr (1, [.null, .int 0, .int 0]))] s0.heap := hP
  have hD : va_D A0 [(h, .inr (1, [.null, .int 0, .int 0]))] := hD
  refine lv_aload_n hx hb dX1_init_0 rfl (lv_at hl 0 rfl) ?_
  refine W.objInit hx hb hown (hts _ kX1_3) (hts _ zm_objectInit) (hts _ zc_objectInit) rfl (by rw [hml]; exact hl.1) rfl dX1_init_1 (Nat.le_of_ble_eq_true rfl) (Nat.le_of_ble_eq_true rfl) ?_
  refine W.eq (g2 := F0 m0 4 ls []) rfl ?_
  refine lv_aload_n hx hb dX1_init_4 rfl (lv_at hl 0 rfl) ?_
  refine lv_iconst (v := 0) hx hb dX1_init_5 (by decide) ?_
  refine ri (y := nI 0) (nI_0.symm) ?_
  refine ax_newI hx hb (hts _ za_int) hK hP hD hS hA 0 rfl 0 (rfl) (by omega) (by show 0 + 1 ≤ 1; omega) (by show 0 + 0 ≤ 0; omega) dX1_init_6 (fun q_1 H hP hD hS => ?_)
  have hP : va_P D vwCl [(h, .inr (1, [.null, .int 0, .int 0])), (q_1, .inl (cI, 0, .inl (fun _ => 0)))] H := hP
  have hD : va_D A0 [(h, .inr (1, [.null, .int 0, .int 0])), (q_1, .inl (cI, 0, .inl (fun _ => 0)))] := hD
  refine W.widen (k := 1) (n := 0) (by first | omega | (dsimp only; omega)) (by first | omega | (dsimp only; omega)) ?_
  refine va_put (D := D) (ci := 1) (v := .ref q_1) (ty := .array .int) (C := RX1) (T := TX1) (N := 3) hx hb hts in_X1 tyX1 tyX1_ok nmX1 hown hK hP hD hS 0 rfl rfl 0 (by decide) (hts _ kX1_9) (fun _ h9 => h9) rfl (by decide +kernel) rfl rfl (Nat.le_of_ble_eq_true rfl) dX1_init_8 (fun H locs hP hD hS => ?_)
  have hP : va_P D vwCl [(h, .inr (1, [.ref q_1, .int 0, .int 0])), (q_1, .inl (cI, 0, .inl (fun _ => 0)))] H := hP
  have hD : va_D A0 [(h, .inr (1, [.ref q_1, .int 0, .int 0])), (q_1, .inl (cI, 0, .inl (fun _ => 0)))] := hD
  exact hret 11 ls _ _ (q_1) dX1_init_11 hP hD hS (trivial)

set_option maxHeartbeats 4000000 in
set_option maxRecDepth 100000 in
theorem c_Caches_init (l : Launch) (D : va_G) (cI cB cJ cR : ClassId) (h : Nat)  : CMv l yX0_init cX0_init 1 none ({ frames := 1, cells := 2, slots := 1032, locals := 21 }) D (tyA cI cB cJ cR) 2 1032 [.ref h] [(h, .inr (0, [.null, .null, .int 0, .int 0, .int 0]))] (fun (u9 : Nat × Nat) => match u9 with | (on, os) => True) (fun (u9 : Nat × Nat) => match u9 with | (on, os) => [(h, .inr (0, [.ref on, .ref os, .int 0, .int 0, .int 0])), (on, .inl (cI, 8, .inl (fun _ => 0))), (os, .inl (cI, 1024, .inl (fun _ => 0)))]) := by
  refine st_v (cc := cX0_init) (maxL := 1) (by decide) (Nat.le_of_ble_eq_true rfl) ?_
  intro p0 e0 s0 m0 below meth c0 A0 Q0 hBD hret hP hD hS ls hl
  obtain ⟨hx, hb, hml, hown, hts, hnm, hK, hNw, hMk, hA⟩ := hBD
  have hl : lv_has ls 1 [(0, .ref h)] := hl
  have hP : va_P D vwCl [(h, .inr (0, [.null, .null, .int 0, .int 0, .int 0]))] s0.heap := hP
  have hD : va_D A0 [(h, .inr (0, [.null, .null, .int 0, .int 0, .int 0]))] := hD
  refine lv_aload_n hx hb dX0_init_0 rfl (lv_at hl 0 rfl) ?_
  refine W.objInit hx hb hown (hts _ kX0_3) (hts _ zm_objectInit) (hts _ zc_objectInit) rfl (by rw [hml]; exact hl.1) rfl dX0_init_1 (Nat.le_of_ble_eq_true rfl) (Nat.le_of_ble_eq_true rfl) ?_
  refine W.eq (g2 := F0 m0 4 ls []) rfl ?_
  refine lv_aload_n hx hb dX0_init_4 rfl (lv_at hl 0 rfl) ?_
  refine lv_bipush (v := 8) hx hb dX0_init_5 (by decide) ?_
  refine ax_newI hx hb (hts _ za_int) hK hP hD hS hA 0 rfl 8 (rfl) (by omega) (by show 0 + 1 ≤ 2; omega) (by show 0 + 8 ≤ 1032; omega) dX0_init_7 (fun q_1 H hP hD hS => ?_)
  have hP : va_P D vwCl [(h, .inr (0, [.null, .null, .int 0, .int 0, .int 0])), (q_1, .inl (cI, 8, .inl (fun _ => 0)))] H := hP
  have hD : va_D A0 [(h, .inr (0, [.null, .null, .int 0, .int 0, .int 0])), (q_1, .inl (cI, 8, .inl (fun _ => 0)))] := hD
  refine W.widen (k := 1) (n := 8) (by first | omega | (dsimp only; omega)) (by first | omega | (dsimp only; omega)) ?_
  refine va_putF (D := D) (ci := 0) (v := .ref q_1) (ty := .array .int) (C := RX0) (T := TX0) (N := 5) hx hb hts in_X0 tyX0 tyX0_ok nmX0 hown hK hP hD hS 0 rfl rfl 0 (by decide) (hts _ kX0_9) (fun _ h9 => h9) rfl hnm rfl (by decide +kernel) rfl rfl (Nat.le_of_ble_eq_true rfl) dX0_init_9 (fun H locs hP hD hS => ?_)
  have hP : va_P D vwCl [(h, .inr (0, [.ref q_1, .null, .int 0, .int 0, .int 0])), (q_1, .inl (cI, 8, .inl (fun _ => 0)))] H := hP
  have hD : va_D A0 [(h, .inr (0, [.ref q_1, .null, .int 0, .int 0, .int 0])), (q_1, .inl (cI, 8, .inl (fun _ => 0)))] := hD
  refine lv_aload_n hx hb dX0_init_12 rfl (lv_at hl 0 rfl) ?_
  refine lv_sipush (v := 1024) hx hb dX0_init_13 (by decide) ?_
  refine ax_newI hx hb (hts _ za_int) hK hP hD hS hA 0 rfl 1024 (rfl) (by omega) (by show 1 + 1 ≤ 2; omega) (by show 8 + 1024 ≤ 1032; omega) dX0_init_16 (fun q_2 H hP hD hS => ?_)
  have hP : va_P D vwCl [(h, .inr (0, [.ref q_1, .null, .int 0, .int 0, .int 0])), (q_1, .inl (cI, 8, .inl (fun _ => 0))), (q_2, .inl (cI, 1024, .inl (fun _ => 0)))] H := hP
  have hD : va_D A0 [(h, .inr (0, [.ref q_1, .null, .int 0, .int 0, .int 0])), (q_1, .inl (cI, 8, .inl (fun _ => 0))), (q_2, .inl (cI, 1024, .inl (fun _ => 0)))] := hD
  refine W.widen (k := 2) (n := 1032) (by first | omega | (dsimp only; omega)) (by first | omega | (dsimp only; omega)) ?_
  refine va_putF (D := D) (ci := 0) (v := .ref q_2) (ty := .array .int) (C := RX0) (T := TX0) (N := 5) hx hb hts in_X0 tyX0 tyX0_ok nmX0 hown hK hP hD hS 0 rfl rfl 1 (by decide) (hts _ kX0_15) (fun _ h9 => h9) rfl hnm rfl (by decide +kernel) rfl rfl (Nat.le_of_ble_eq_true rfl) dX0_init_18 (fun H locs hP hD hS => ?_)
  have hP : va_P D vwCl [(h, .inr (0, [.ref q_1, .ref q_2, .int 0, .int 0, .int 0])), (q_1, .inl (cI, 8, .inl (fun _ => 0))), (q_2, .inl (cI, 1024, .inl (fun _ => 0)))] H := hP
  have hD : va_D A0 [(h, .inr (0, [.ref q_1, .ref q_2, .int 0, .int 0, .int 0])), (q_1, .inl (cI, 8, .inl (fun _ => 0))), (q_2, .inl (cI, 1024, .inl (fun _ => 0)))] := hD
  exact hret 21 ls _ _ (q_1, q_2) dX0_init_21 hP hD hS (trivial)
