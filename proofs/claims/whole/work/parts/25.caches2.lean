/-- what an address is written as, by a MODE -/
def adL (near a here md : Nat) (cN : Nat → Nat) : List Int32 := if md = 0 then numL a else if md = 1 then numL (here - a) else if near + 2 ≤ md then [nI (a % 256)] else numL (a - cN (md - 2))
set_option maxHeartbeats 4000000 in
set_option maxRecDepth 100000 in
theorem c_Caches_cheapestMode (l : Launch) (D : va_G) (cI cB cJ cR : ClassId) (h : Nat) (on : Nat) (os : Nat) (near : Nat) (same : Nat) (nx : Nat) (fn : Nat → Int32) (fs : Nat → Int32) (cN : Nat → Nat) (cS : Nat → Nat) (a : Nat) (here : Nat) (h8 : near ≤ 8) (h4 : same ≤ 4) (hah : a < here) (hh : here < 2 ^ 30) (hcN : ∀ j, j < 8 → cN j < 2 ^ 30) (hcS : ∀ j, j < 1024 → cS j < 2 ^ 31) (hc : chIs fn fs cN cS) : CMi l yX0_cheapestMode cX0_cheapestMode 7 (some .int) ({ frames := 1, cells := 0, slots := 0, locals := 21 }) D (tyA cI cB cJ cR) 0 0 [.ref h, .int (nI a), .int (nI here)] [(h, .inr (0, [.ref on, .ref os, .int (nI near), .int (nI same), .int (nI nx)])), (on, .inl (cI, 8, .inl fn)), (os, .inl (cI, 1024, .inl fs))] (fun (r : Int32) (_ : Unit) => r = nI (chMode near same a here cN cS)) (fun (_ : Unit) => [(h, .inr (0, [.ref on, .ref os, .int (nI near), .int (nI same), .int (nI nx)])), (on, .inl (cI, 8, .inl fn)), (os, .inl (cI, 1024, .inl fs))]) := by
  refine st_i (cc := cX0_cheapestMode) (maxL := 7) (by decide) (Nat.le_of_ble_eq_true rfl) ?_
  intro p0 e0 s0 m0 below meth c0 A0 Q0 hBD hret hP hD hS ls hl
  obtain ⟨hx, hb, hml, hown, hts, hnm, hK, hNw, hMk, hA⟩ := hBD
  have hl : lv_has ls 7 [(0, .ref h), (1, .int (nI a)), (2, .int (nI here))] := hl
  have hP : va_P D vwCl [(h, .inr (0, [.ref on, .ref os, .int (nI near), .int (nI same), .int (nI nx)])), (on, .inl (cI, 8, .inl fn)), (os, .inl (cI, 1024, .inl fs))] s0.heap := hP
  have hD : va_D A0 [(h, .inr (0, [.ref on, .ref os, .int (nI near), .int (nI same), .int (nI nx)])), (on, .inl (cI, 8, .inl fn)), (os, .inl (cI, 1024, .inl fs))] := hD
  refine lv_iconst (v := 0) hx hb dX0_cheapestMode_0 (by decide) ?_
  refine ri (y := nI 0) (nI_0.symm) ?_
  refine lv_istore_n (lv' := [(3, .int (nI 0)), (0, .ref h), (1, .int (nI a)), (2, .int (nI here))]) hx hb dX0_cheapestMode_1 rfl hl (by decide) rfl (fun ls hl => ?_)
  refine lv_iload_n hx hb dX0_cheapestMode_2 rfl (lv_at hl 2 rfl) ?_
  refine jn_i (wr := [(h, .inr (0, [.ref on, .ref os, .int (nI near), .int (nI same), .int (nI nx)])), (on, .inl (cI, 8, .inl fn)), (os, .inl (cI, 1024, .inl fs))]) hA hP hD hS [] [0, 1, 2] rfl rfl (by decide) (by decide) (rn_SN (As := [.int (nI a)]) (rest := []) ⟨hx, hb, hml, hown, hts⟩ (⟨cvN 1 hts zc_yX8_numberSize zi_X8 (hNw (.methodLinkNest RX0 47 yX8_numberSize "CodedDeltas") (by decide +kernel)) (by decide +kernel) rfl rfl ⟨Nat.le_of_ble_eq_true rfl, Nat.le_of_ble_eq_true rfl⟩, hts _ zs_yX8_numberSize, trivial⟩) (c_numberSize l D cI cB cJ cR a (by omega) s0.heap.size) hK hNw hMk hA hP hD hS [] rfl rfl (by decide) rfl hl.1 rfl (Nat.le_of_ble_eq_true rfl) dX0_cheapestMode_3 ⟨Nat.le_of_ble_eq_true rfl, Nat.le_of_ble_eq_true rfl⟩) (fun r_1 u9 H locs w_2 hP hD hS => ?_)
  try dsimp only at w_2
  have hP : va_P D vwCl [(h, .inr (0, [.ref on, .ref os, .int (nI near), .int (nI same), .int (nI nx)])), (on, .inl (cI, 8, .inl fn)), (os, .inl (cI, 1024, .inl fs))] H := hP
  have hD : va_D A0 [(h, .inr (0, [.ref on, .ref os, .int (nI near), .int (nI same), .int (nI nx)])), (on, .inl (cI, 8, .inl fn)), (os, .inl (cI, 1024, .inl fs))] := hD
  subst w_2
  refine lv_istore (lv' := [(4, .int (nI (nsz a))), (3, .int (nI 0)), (0, .ref h), (1, .int (nI a)), (2, .int (nI here))]) hx hb dX0_cheapestMode_6 hl (by decide) rfl (fun ls hl => ?_)
  refine lv_iload_n hx hb dX0_cheapestMode_8 rfl (lv_at hl 4 rfl) ?_
  refine lv_iload_n hx hb dX0_cheapestMode_9 rfl (lv_at hl 3 rfl) ?_
  refine lv_isub hx hb dX0_cheapestMode_10 ?_
  refine ri (y := nI (here - a)) (pk_sub (by omega)) ?_
  refine jn_i (wr := [(h, .inr (0, [.ref on, .ref os, .int (nI near), .int (nI same), .int (nI nx)])), (on, .inl (cI, 8, .inl fn)), (os, .inl (cI, 1024, .inl fs))]) hA hP hD hS [] [0, 1, 2] rfl rfl (by decide) (by decide) (rn_SN (As := [.int (nI (here - a))]) (rest := []) ⟨hx, hb, hml, hown, hts⟩ (⟨cvN 1 hts zc_yX8_numberSize zi_X8 (hNw (.methodLinkNest RX0 47 yX8_numberSize "CodedDeltas") (by decide +kernel)) (by decide +kernel) rfl rfl ⟨Nat.le_of_ble_eq_true rfl, Nat.le_of_ble_eq_true rfl⟩, hts _ zs_yX8_numberSize, trivial⟩) (c_numberSize l D cI cB cJ cR (here - a) (by omega) H.size) hK hNw hMk hA hP hD hS [] rfl rfl (by decide) rfl hl.1 rfl (Nat.le_of_ble_eq_true rfl) dX0_cheapestMode_11 ⟨Nat.le_of_ble_eq_true rfl, Nat.le_of_ble_eq_true rfl⟩) (fun r_3 u9 H locs w_4 hP hD hS => ?_)
  try dsimp only at w_4
  have hP : va_P D vwCl [(h, .inr (0, [.ref on, .ref os, .int (nI near), .int (nI same), .int (nI nx)])), (on, .inl (cI, 8, .inl fn)), (os, .inl (cI, 1024, .inl fs))] H := hP
  have hD : va_D A0 [(h, .inr (0, [.ref on, .ref os, .int (nI near), .int (nI same), .int (nI nx)])), (on, .inl (cI, 8, .inl fn)), (os, .inl (cI, 1024, .inl fs))] := hD
  subst w_4
  refine lv_iload hx hb dX0_cheapestMode_14 (lv_at hl 0 rfl) ?_
  have loop : ∀ (k9 : Nat) (i : Nat) (H : Heap) (locs : List Loc) (ls : Array Slot), near - i < k9 → (i ≤ near) → va_P D vwCl [(h, .inr (0, [.ref on, .ref os, .int (nI near), .int (nI same), .int (nI nx)])), (on, .inl (cI, 8, .inl fn)), (os, .inl (cI, 1024, .inl fs))] H → va_D A0 [(h, .inr (0, [.ref on, .ref os, .int (nI near), .int (nI same), .int (nI nx)])), (on, .inl (cI, 8, .inl fn)), (os, .inl (cI, 1024, .inl fs))] → va_S A0 s0.heap H locs → lv_has ls 7 [(0, .ref h), (1, .int (nI a)), (2, .int (nI here)), (3, .int (nI (chM a here cN i).1)), (4, .int (nI (chM a here cN i).2)), (5, .int (nI i))] → W p0 l e0 ({ frames := 1, cells := 0, slots := 0, locals := 21 }) s0 m0 ([.ref h, .int (nI a), .int (nI here)] : List Value).toArray below meth c0 H locs 0 0 Q0 (F0 m0 32 ls []) := by
    intro k9
    induction k9 with
    | zero => intro i H locs ls hk9; exact absurd hk9 (Nat.not_lt_zero _)
    | succ k9 ih =>
      intro i H locs ls hk9 hi hP hD hS hl
      refine lv_iload hx hb dX0_cheapestMode_32 (lv_at hl 5 rfl) ?_
      refine lv_aload_n hx hb dX0_cheapestMode_34 rfl (lv_at hl 0 rfl) ?_
      refine va_get (D := D) (ci := 0) (v := .int (nI near)) (C := RX0) (T := TX0) (N := 5) hx hb hts in_X0 hown hK hP 0 rfl rfl 2 (by decide) (hts _ kX0_33) (fun _ h9 => h9) rfl dX0_cheapestMode_35 ?_
      refine lv_icmp_ge (tgt := 85) hx hb dX0_cheapestMode_38 (by decide) (fun c_5 => ?_) (fun c_5 => ?_)
      · have hin : i = near := by have := (nI_leI (a := near) (b := i) (by omega) (by omega)).mp c_5; omega
        have hin2 := hin.symm
        subst hin2
        have hcm := chM_le a here cN near
        refine lv_iload hx hb dX0_cheapestMode_85 (lv_at hl 4 rfl) ?_
        refine lv_iconst (v := 1) hx hb dX0_cheapestMode_87 (by decide) ?_
        refine lv_icmp_le (tgt := 139) hx hb dX0_cheapestMode_88 (by decide) (fun c_6 => ?_) (fun c_6 => ?_)
        · refine lv_iload_n hx hb dX0_cheapestMode_139 rfl (lv_at hl 3 rfl) ?_
          exact hret 140 ls _ _ _ () dX0_cheapestMode_140 hP hD hS (by rw [chMode, if_neg (fun q => absurd ((nI_leI (b := 1) (by omega) (by decide)).mp c_6) (by omega))])
        · have h1s : 1 < (chM a here cN near).2 := Nat.not_le.mp (fun q => c_6 (nI_le (b := 1) q (by decide)))
          refine lv_aload_n hx hb dX0_cheapestMode_91 rfl (lv_at hl 0 rfl) ?_
          refine va_get (D := D) (ci := 0) (v := .int (nI same)) (C := RX0) (T := TX0) (N := 5) hx hb hts in_X0 hown hK hP 0 rfl rfl 3 (by decide) (hts _ kX0_37) (fun _ h9 => h9) rfl dX0_cheapestMode_92 ?_
          refine lv_if_le (tgt := 139) hx hb dX0_cheapestMode_95 (by decide) (fun c_7 => ?_) (fun c_7 => ?_)
          · refine lv_iload_n hx hb dX0_cheapestMode_139 rfl (lv_at hl 3 rfl) ?_
            exact hret 140 ls _ _ _ () dX0_cheapestMode_140 hP hD hS (by rw [chMode, if_neg (fun q => nI_nle q.2.1 (by omega) c_7)])
          · have hs0 : 0 < same := Nat.pos_of_ne_zero (fun q => c_7 (by rw [q]; decide))
            have hmod := Nat.mod_lt a (show 0 < 256 * same by omega)
            refine lv_aload_n hx hb dX0_cheapestMode_98 rfl (lv_at hl 0 rfl) ?_
            refine va_get (D := D) (ci := 0) (v := .ref os) (C := RX0) (T := TX0) (N := 5) hx hb hts in_X0 hown hK hP 0 rfl rfl 1 (by decide) (hts _ kX0_15) (fun _ h9 => h9) rfl dX0_cheapestMode_99 ?_
            refine lv_iload_n hx hb dX0_cheapestMode_102 rfl (lv_at hl 1 rfl) ?_
            refine lv_sipush (v := 256) hx hb dX0_cheapestMode_103 (by decide) ?_
            refine lv_aload_n hx hb dX0_cheapestMode_106 rfl (lv_at hl 0 rfl) ?_
            refine va_get (D := D) (ci := 0) (v := .int (nI same)) (C := RX0) (T := TX0) (N := 5) hx hb hts in_X0 hown hK hP 0 rfl rfl 3 (by decide) (hts _ kX0_37) (fun _ h9 => h9) rfl dX0_cheapestMode_107 ?_
            refine lv_imul hx hb dX0_cheapestMode_110 ?_
            refine ri (y := nI (256 * same)) (pk_mul 256 _) ?_
            refine lv_irem hx hb dX0_cheapestMode_111 (nI_ne0 (by omega) (by omega)) ?_
            refine ri (y := nI (a % (256 * same))) (pk_rem (by omega) (by omega) (by omega)) ?_
            refine ax_ild hx hb hK hP 2 0 rfl rfl (a % (256 * same)) (rfl) (by omega) (by omega) dX0_cheapestMode_112 ?_
            refine ri (y := nI (cS (a % (256 * same)))) (hc.2 _ (by omega)) ?_
            refine lv_iload_n hx hb dX0_cheapestMode_113 rfl (lv_at hl 1 rfl) ?_
            refine lv_icmp_ne (tgt := 139) hx hb dX0_cheapestMode_114 (by decide) (fun c_8 => ?_) (fun c_8 => ?_)
            · refine lv_iload_n hx hb dX0_cheapestMode_139 rfl (lv_at hl 3 rfl) ?_
              exact hret 140 ls _ _ _ () dX0_cheapestMode_140 hP hD hS (by rw [chMode, if_neg (fun q => c_8 (by rw [q.2.2]))])
            · have hcs : cS (a % (256 * same)) = a := (nI_eq (hcS _ (by omega)) (by omega)).mp c_8
              refine lv_aload_n hx hb dX0_cheapestMode_117 rfl (lv_at hl 0 rfl) ?_
              refine va_get (D := D) (ci := 0) (v := .int (nI near)) (C := RX0) (T := TX0) (N := 5) hx hb hts in_X0 hown hK hP 0 rfl rfl 2 (by decide) (hts _ kX0_33) (fun _ h9 => h9) rfl dX0_cheapestMode_118 ?_
              refine lv_iconst (v := 2) hx hb dX0_cheapestMode_121 (by decide) ?_
              refine lv_iadd hx hb dX0_cheapestMode_122 ?_
              refine ri (y := nI (near + 2)) (nI_add near 2) ?_
              refine lv_iload_n hx hb dX0_cheapestMode_123 rfl (lv_at hl 1 rfl) ?_
              refine lv_sipush (v := 256) hx hb dX0_cheapestMode_124 (by decide) ?_
              refine lv_aload_n hx hb dX0_cheapestMode_127 rfl (lv_at hl 0 rfl) ?_
              refine va_get (D := D) (ci := 0) (v := .int (nI same)) (C := RX0) (T := TX0) (N := 5) hx hb hts in_X0 hown hK hP 0 rfl rfl 3 (by decide) (hts _ kX0_37) (fun _ h9 => h9) rfl dX0_cheapestMode_128 ?_
              refine lv_imul hx hb dX0_cheapestMode_131 ?_
              refine ri (y := nI (256 * same)) (pk_mul 256 _) ?_
              refine lv_irem hx hb dX0_cheapestMode_132 (nI_ne0 (by omega) (by omega)) ?_
              refine ri (y := nI (a % (256 * same))) (pk_rem (by omega) (by omega) (by omega)) ?_
              refine lv_sipush (v := 256) hx hb dX0_cheapestMode_133 (by decide) ?_
              refine lv_idiv hx hb dX0_cheapestMode_136 (by decide) ?_
              refine ri (y := nI (a % (256 * same) / 256)) (pk_div (d := 256) (by omega) (by decide) (by decide)) ?_
              refine lv_iadd hx hb dX0_cheapestMode_137 ?_
              refine ri (y := nI ((near + 2) + (a % (256 * same) / 256))) (nI_add (near + 2) (a % (256 * same) / 256)) ?_
              refine lv_istore_n (lv' := [(3, .int (nI ((near + 2) + (a % (256 * same) / 256)))), (0, .ref h), (1, .int (nI a)), (2, .int (nI here)), (4, .int (nI (chM a here cN near).2)), (5, .int (nI near))]) hx hb dX0_cheapestMode_138 rfl hl (by decide) rfl (fun ls hl => ?_)
              refine lv_iload_n hx hb dX0_cheapestMode_139 rfl (lv_at hl 0 rfl) ?_
              exact hret 140 ls _ _ _ () dX0_cheapestMode_140 hP hD hS (by rw [chMode, if_pos ⟨h1s, hs0, hcs⟩])
      · have hi2 : i < near := Nat.not_le.mp (fun q => c_5 (nI_le q (by omega)))
        have hci := hcN i (by omega)
        have hcm := chM_le a here cN i
        refine lv_iload_n hx hb dX0_cheapestMode_41 rfl (lv_at hl 1 rfl) ?_
        refine lv_aload_n hx hb dX0_cheapestMode_42 rfl (lv_at hl 0 rfl) ?_
        refine va_get (D := D) (ci := 0) (v := .ref on) (C := RX0) (T := TX0) (N := 5) hx hb hts in_X0 hown hK hP 0 rfl rfl 0 (by decide) (hts _ kX0_9) (fun _ h9 => h9) rfl dX0_cheapestMode_43 ?_
        refine lv_iload hx hb dX0_cheapestMode_46 (lv_at hl 5 rfl) ?_
        refine ax_ild hx hb hK hP 1 0 rfl rfl i (rfl) (by omega) (by omega) dX0_cheapestMode_48 ?_
        refine ri (y := nI (cN i)) (hc.1 i (by omega)) ?_
        refine lv_isub hx hb dX0_cheapestMode_49 ?_
        refine lv_topi (fun d_9 ed_9 => ?_)
        refine lv_istore (lv' := [(6, .int d_9), (0, .ref h), (1, .int (nI a)), (2, .int (nI here)), (3, .int (nI (chM a here cN i).1)), (4, .int (nI (chM a here cN i).2)), (5, .int (nI i))]) hx hb dX0_cheapestMode_50 hl (by decide) rfl (fun ls hl => ?_)
        refine lv_iload hx hb dX0_cheapestMode_52 (lv_at hl 0 rfl) ?_
        refine lv_if_lt (tgt := 79) hx hb dX0_cheapestMode_54 (by decide) (fun c_10 => ?_) (fun c_10 => ?_)
        · refine lv_iinc (v := nI (i + 1)) (lv' := [(5, .int (nI (i + 1))), (6, .int d_9), (0, .ref h), (1, .int (nI a)), (2, .int (nI here)), (3, .int (nI (chM a here cN i).1)), (4, .int (nI (chM a here cN i).2))]) hx hb dX0_cheapestMode_79 hl (k := 6) rfl (nI_add i 1) (by decide) rfl (fun ls hl => ?_)
          refine lv_goto (tgt := 32) hx hb dX0_cheapestMode_82 (by decide) ?_
          have hst : chM a here cN (i + 1) = chM a here cN i := by rw [chM, if_neg (fun q => absurd c_10 (by rw [ed_9, nI_sgn (by omega) (by omega)]; omega))]
          rw [← hst] at hl
          exact ih (i + 1) _ _ ls (by omega) (by omega) hP hD hS (lv_sub hl [2, 3, 4, 5, 6, 0] rfl)
        · have hle : cN i ≤ a := Nat.not_lt.mp (fun q => c_10 (by rw [ed_9]; exact pk_sneg (by omega) q))
          have e9 : d_9 = nI (a - cN i) := ed_9.trans (pk_sub hle)
          subst e9
          refine lv_iload hx hb dX0_cheapestMode_57 (lv_at hl 0 rfl) ?_
          refine jn_i (wr := [(h, .inr (0, [.ref on, .ref os, .int (nI near), .int (nI same), .int (nI nx)])), (on, .inl (cI, 8, .inl fn)), (os, .inl (cI, 1024, .inl fs))]) hA hP hD hS [] [0, 1, 2] rfl rfl (by decide) (by decide) (rn_SN (As := [.int (nI (a - cN i))]) (rest := []) ⟨hx, hb, hml, hown, hts⟩ (⟨cvN 1 hts zc_yX8_numberSize zi_X8 (hNw (.methodLinkNest RX0 47 yX8_numberSize "CodedDeltas") (by decide +kernel)) (by decide +kernel) rfl rfl ⟨Nat.le_of_ble_eq_true rfl, Nat.le_of_ble_eq_true rfl⟩, hts _ zs_yX8_numberSize, trivial⟩) (c_numberSize l D cI cB cJ cR (a - cN i) (by omega) H.size) hK hNw hMk hA hP hD hS [] rfl rfl (by decide) rfl hl.1 rfl (Nat.le_of_ble_eq_true rfl) dX0_cheapestMode_59 ⟨Nat.le_of_ble_eq_true rfl, Nat.le_of_ble_eq_true rfl⟩) (fun r_11 u9 H locs w_12 hP hD hS => ?_)
          try dsimp only at w_12
          have hP : va_P D vwCl [(h, .inr (0, [.ref on, .ref os, .int (nI near), .int (nI same), .int (nI nx)])), (on, .inl (cI, 8, .inl fn)), (os, .inl (cI, 1024, .inl fs))] H := hP
          have hD : va_D A0 [(h, .inr (0, [.ref on, .ref os, .int (nI near), .int (nI same), .int (nI nx)])), (on, .inl (cI, 8, .inl fn)), (os, .inl (cI, 1024, .inl fs))] := hD
          subst w_12
          refine lv_iload hx hb dX0_cheapestMode_62 (lv_at hl 5 rfl) ?_
          refine lv_icmp_ge (tgt := 79) hx hb dX0_cheapestMode_64 (by decide) (fun c_13 => ?_) (fun c_13 => ?_)
          · refine lv_iinc (v := nI (i + 1)) (lv' := [(5, .int (nI (i + 1))), (6, .int (nI (a - cN i))), (0, .ref h), (1, .int (nI a)), (2, .int (nI here)), (3, .int (nI (chM a here cN i).1)), (4, .int (nI (chM a here cN i).2))]) hx hb dX0_cheapestMode_79 hl (k := 6) rfl (nI_add i 1) (by decide) rfl (fun ls hl => ?_)
            refine lv_goto (tgt := 32) hx hb dX0_cheapestMode_82 (by decide) ?_
            have hst : chM a here cN (i + 1) = chM a here cN i := by rw [chM, if_neg (fun q => absurd ((nI_leI (by omega) (by have := nsz_le (a - cN i); omega)).mp c_13) (by omega))]
            rw [← hst] at hl
            exact ih (i + 1) _ _ ls (by omega) (by omega) hP hD hS (lv_sub hl [2, 3, 4, 5, 6, 0] rfl)
          · have hlt : nsz (a - cN i) < (chM a here cN i).2 := Nat.not_le.mp (fun q => c_13 (nI_le q (by have := nsz_le (a - cN i); omega)))
            refine lv_iconst (v := 2) hx hb dX0_cheapestMode_67 (by decide) ?_
            refine lv_iload hx hb dX0_cheapestMode_68 (lv_at hl 6 rfl) ?_
            refine lv_iadd hx hb dX0_cheapestMode_70 ?_
            refine ri (y := nI (2 + i)) (nI_add 2 i) ?_
            refine lv_istore_n (lv' := [(3, .int (nI (2 + i))), (6, .int (nI (a - cN i))), (0, .ref h), (1, .int (nI a)), (2, .int (nI here)), (4, .int (nI (chM a here cN i).2)), (5, .int (nI i))]) hx hb dX0_cheapestMode_71 rfl hl (by decide) rfl (fun ls hl => ?_)
            refine lv_iload hx hb dX0_cheapestMode_72 (lv_at hl 1 rfl) ?_
            refine jn_i (wr := [(h, .inr (0, [.ref on, .ref os, .int (nI near), .int (nI same), .int (nI nx)])), (on, .inl (cI, 8, .inl fn)), (os, .inl (cI, 1024, .inl fs))]) hA hP hD hS [] [0, 1, 2] rfl rfl (by decide) (by decide) (rn_SN (As := [.int (nI (a - cN i))]) (rest := []) ⟨hx, hb, hml, hown, hts⟩ (⟨cvN 1 hts zc_yX8_numberSize zi_X8 (hNw (.methodLinkNest RX0 47 yX8_numberSize "CodedDeltas") (by decide +kernel)) (by decide +kernel) rfl rfl ⟨Nat.le_of_ble_eq_true rfl, Nat.le_of_ble_eq_true rfl⟩, hts _ zs_yX8_numberSize, trivial⟩) (c_numberSize l D cI cB cJ cR (a - cN i) (by omega) H.size) hK hNw hMk hA hP hD hS [] rfl rfl (by decide) rfl hl.1 rfl (Nat.le_of_ble_eq_true rfl) dX0_cheapestMode_74 ⟨Nat.le_of_ble_eq_true rfl, Nat.le_of_ble_eq_true rfl⟩) (fun r_14 u9 H locs w_15 hP hD hS => ?_)
            try dsimp only at w_15
            have hP : va_P D vwCl [(h, .inr (0, [.ref on, .ref os, .int (nI near), .int (nI same), .int (nI nx)])), (on, .inl (cI, 8, .inl fn)), (os, .inl (cI, 1024, .inl fs))] H := hP
            have hD : va_D A0 [(h, .inr (0, [.ref on, .ref os, .int (nI near), .int (nI same), .int (nI nx)])), (on, .inl (cI, 8, .inl fn)), (os, .inl (cI, 1024, .inl fs))] := hD
            subst w_15
            refine lv_istore (lv' := [(4, .int (nI (nsz (a - cN i)))), (3, .int (nI (2 + i))), (6, .int (nI (a - cN i))), (0, .ref h), (1, .int (nI a)), (2, .int (nI here)), (5, .int (nI i))]) hx hb dX0_cheapestMode_77 hl (by decide) rfl (fun ls hl => ?_)
            refine lv_iinc (v := nI (i + 1)) (lv' := [(5, .int (nI (i + 1))), (4, .int (nI (nsz (a - cN i)))), (3, .int (nI (2 + i))), (6, .int (nI (a - cN i))), (0, .ref h), (1, .int (nI a)), (2, .int (nI here))]) hx hb dX0_cheapestMode_79 hl (k := 6) rfl (nI_add i 1) (by decide) rfl (fun ls hl => ?_)
            refine lv_goto (tgt := 32) hx hb dX0_cheapestMode_82 (by decide) ?_
            have hst : chM a here cN (i + 1) = (2 + i, nsz (a - cN i)) := by rw [chM, if_pos ⟨hle, hlt⟩]
            have hs1 : 2 + i = (chM a here cN (i + 1)).1 := by rw [hst]
            have hs2 : nsz (a - cN i) = (chM a here cN (i + 1)).2 := by rw [hst]
            rw [hs1, hs2] at hl
            exact ih (i + 1) _ _ ls (by omega) (by omega) hP hD hS (lv_sub hl [4, 5, 6, 2, 1, 0] rfl)
  refine lv_icmp_ge (tgt := 29) hx hb dX0_cheapestMode_16 (by decide) (fun c_16 => ?_) (fun c_16 => ?_)
  · have hlt : ¬ nsz (here - a) < nsz a := Nat.not_lt.mpr ((nI_leI (by have := nsz_le a; omega) (by have := nsz_le (here - a); omega)).mp c_16)
    refine lv_iconst (v := 0) hx hb dX0_cheapestMode_29 (by decide) ?_
    refine ri (y := nI 0) (nI_0.symm) ?_
    refine lv_istore (lv' := [(5, .int (nI 0)), (4, .int (nI (nsz a))), (3, .int (nI 0)), (0, .ref h), (1, .int (nI a)), (2, .int (nI here))]) hx hb dX0_cheapestMode_30 hl (by decide) rfl (fun ls hl => ?_)
    have hst : chM a here cN 0 = (0, nsz a) := by rw [chM, if_neg hlt]
    have hs1 : 0 = (chM a here cN 0).1 := by rw [hst]
    have hs2 : nsz a = (chM a here cN 0).2 := by rw [hst]
    have hl : lv_has ls 7 [(0, .ref h), (1, .int (nI a)), (2, .int (nI here)), (3, .int (nI (chM a here cN 0).1)), (4, .int (nI (chM a here cN 0).2)), (5, .int (nI 0))] := by rw [← hs1, ← hs2]; exact lv_sub hl [3, 4, 5, 2, 1, 0] rfl
    exact loop _ 0 _ _ ls (Nat.lt_succ_self _) (Nat.zero_le _) hP hD hS (lv_sub hl [0, 1, 2, 3, 4, 5] rfl)
  · have hlt : nsz (here - a) < nsz a := Nat.not_le.mp (fun q => c_16 (nI_le q (by have := nsz_le (here - a); omega)))
    refine lv_iconst (v := 1) hx hb dX0_cheapestMode_19 (by decide) ?_
    refine ri (y := nI 1) (rfl) ?_
    refine lv_istore_n (lv' := [(3, .int (nI 1)), (4, .int (nI (nsz a))), (0, .ref h), (1, .int (nI a)), (2, .int (nI here))]) hx hb dX0_cheapestMode_20 rfl hl (by decide) rfl (fun ls hl => ?_)
    refine lv_iload_n hx hb dX0_cheapestMode_21 rfl (lv_at hl 4 rfl) ?_
    refine lv_iload_n hx hb dX0_cheapestMode_22 rfl (lv_at hl 3 rfl) ?_
    refine lv_isub hx hb dX0_cheapestMode_23 ?_
    refine ri (y := nI (here - a)) (pk_sub (by omega)) ?_
    refine jn_i (wr := [(h, .inr (0, [.ref on, .ref os, .int (nI near), .int (nI same), .int (nI nx)])), (on, .inl (cI, 8, .inl fn)), (os, .inl (cI, 1024, .inl fs))]) hA hP hD hS [] [0, 1, 2] rfl rfl (by decide) (by decide) (rn_SN (As := [.int (nI (here - a))]) (rest := []) ⟨hx, hb, hml, hown, hts⟩ (⟨cvN 1 hts zc_yX8_numberSize zi_X8 (hNw (.methodLinkNest RX0 47 yX8_numberSize "CodedDeltas") (by decide +kernel)) (by decide +kernel) rfl rfl ⟨Nat.le_of_ble_eq_true rfl, Nat.le_of_ble_eq_true rfl⟩, hts _ zs_yX8_numberSize, trivial⟩) (c_numberSize l D cI cB cJ cR (here - a) (by omega) H.size) hK hNw hMk hA hP hD hS [] rfl rfl (by decide) rfl hl.1 rfl (Nat.le_of_ble_eq_true rfl) dX0_cheapestMode_24 ⟨Nat.le_of_ble_eq_true rfl, Nat.le_of_ble_eq_true rfl⟩) (fun r_17 u9 H locs w_18 hP hD hS => ?_)
    try dsimp only at w_18
    have hP : va_P D vwCl [(h, .inr (0, [.ref on, .ref os, .int (nI near), .int (nI same), .int (nI nx)])), (on, .inl (cI, 8, .inl fn)), (os, .inl (cI, 1024, .inl fs))] H := hP
    have hD : va_D A0 [(h, .inr (0, [.ref on, .ref os, .int (nI near), .int (nI same), .int (nI nx)])), (on, .inl (cI, 8, .inl fn)), (os, .inl (cI, 1024, .inl fs))] := hD
    subst w_18
    refine lv_istore (lv' := [(4, .int (nI (nsz (here - a)))), (3, .int (nI 1)), (0, .ref h), (1, .int (nI a)), (2, .int (nI here))]) hx hb dX0_cheapestMode_27 hl (by decide) rfl (fun ls hl => ?_)
    refine lv_iconst (v := 0) hx hb dX0_cheapestMode_29 (by decide) ?_
    refine ri (y := nI 0) (nI_0.symm) ?_
    refine lv_istore (lv' := [(5, .int (nI 0)), (4, .int (nI (nsz (here - a)))), (3, .int (nI 1)), (0, .ref h), (1, .int (nI a)), (2, .int (nI here))]) hx hb dX0_cheapestMode_30 hl (by decide) rfl (fun ls hl => ?_)
    have hst : chM a here cN 0 = (1, nsz (here - a)) := by rw [chM, if_pos hlt]
    have hs1 : 1 = (chM a here cN 0).1 := by rw [hst]
    have hs2 : nsz (here - a) = (chM a here cN 0).2 := by rw [hst]
    have hl : lv_has ls 7 [(0, .ref h), (1, .int (nI a)), (2, .int (nI here)), (3, .int (nI (chM a here cN 0).1)), (4, .int (nI (chM a here cN 0).2)), (5, .int (nI 0))] := by rw [← hs1, ← hs2]; exact lv_sub hl [3, 4, 5, 2, 1, 0] rfl
    exact loop _ 0 _ _ ls (Nat.lt_succ_self _) (Nat.zero_le _) hP hD hS (lv_sub hl [0, 1, 2, 3, 4, 5] rfl)

set_option maxHeartbeats 4000000 in
set_option maxRecDepth 100000 in
theorem c_Caches_putAddress (l : Launch) (D : va_G) (cI cB cJ cR : ClassId) (h : Nat) (on : Nat) (os : Nat) (near : Nat) (same : Nat) (nx : Nat) (fn : Nat → Int32) (fs : Nat → Int32) (cN : Nat → Nat) (cS : Nat → Nat) (rh : Nat) (ro : Nat) (N : Nat) (n : Nat) (f : Nat → Int32) (ov : Int32) (L : List Int32) (md : Nat) (a : Nat) (here : Nat) (h8 : near ≤ 8) (h4 : same ≤ 4) (hah : a < here) (hh : here < 2 ^ 30) (hm : md < 2 ^ 30) (hle : 2 ≤ md → md < near + 2 → cN (md - 2) ≤ a) (hN : N < 2 ^ 31) (hr : rowIs N L n f ov) (hc : chIs fn fs cN cS) : CMv l yX0_putAddress cX0_putAddress 5 none ({ frames := 2, cells := 0, slots := 0, locals := 43 }) D (tyA cI cB cJ cR) 0 0 [.ref h, .ref rh, .int (nI md), .int (nI a), .int (nI here)] [(h, .inr (0, [.ref on, .ref os, .int (nI near), .int (nI same), .int (nI nx)])), (on, .inl (cI, 8, .inl fn)), (os, .inl (cI, 1024, .inl fs)), (rh, .inr (4, [.ref ro, .int (nI n), .int ov])), (ro, .inl (cI, N, .inl f))] (fun (u9 : Nat × (Nat → Int32) × Int32) => match u9 with | (n2, f2, ov2) => rowIs N (L ++ adL near a here md cN) n2 f2 ov2) (fun (u9 : Nat × (Nat → Int32) × Int32) => match u9 with | (n2, f2, ov2) => [(h, .inr (0, [.ref on, .ref os, .int (nI near), .int (nI same), .int (nI nx)])), (on, .inl (cI, 8, .inl fn)), (os, .inl (cI, 1024, .inl fs)), (rh, .inr (4, [.ref ro, .int (nI n2), .int ov2])), (ro, .inl (cI, N, .inl f2))]) := by
  refine st_v (cc := cX0_putAddress) (maxL := 5) (by decide) (Nat.le_of_ble_eq_true rfl) ?_
  intro p0 e0 s0 m0 below meth c0 A0 Q0 hBD hret hP hD hS ls hl
  obtain ⟨hx, hb, hml, hown, hts, hnm, hK, hNw, hMk, hA⟩ := hBD
  have hl : lv_has ls 5 [(0, .ref h), (1, .ref rh), (2, .int (nI md)), (3, .int (nI a)), (4, .int (nI here))] := hl
  have hP : va_P D vwCl [(h, .inr (0, [.ref on, .ref os, .int (nI near), .int (nI same), .int (nI nx)])), (on, .inl (cI, 8, .inl fn)), (os, .inl (cI, 1024, .inl fs)), (rh, .inr (4, [.ref ro, .int (nI n), .int ov])), (ro, .inl (cI, N, .inl f))] s0.heap := hP
  have hD : va_D A0 [(h, .inr (0, [.ref on, .ref os, .int (nI near), .int (nI same), .int (nI nx)])), (on, .inl (cI, 8, .inl fn)), (os, .inl (cI, 1024, .inl fs)), (rh, .inr (4, [.ref ro, .int (nI n), .int ov])), (ro, .inl (cI, N, .inl f))] := hD
  refine lv_iload_n hx hb dX0_putAddress_0 rfl (lv_at hl 2 rfl) ?_
  refine lv_if_ne (tgt := 12) hx hb dX0_putAddress_1 (by decide) (fun c_1 => ?_) (fun c_1 => ?_)
  · have h0 : md ≠ 0 := fun q => c_1 (by rw [q]; decide)
    refine lv_iload_n hx hb dX0_putAddress_12 rfl (lv_at hl 2 rfl) ?_
    refine lv_iconst (v := 1) hx hb dX0_putAddress_13 (by decide) ?_
    refine lv_icmp_ne (tgt := 28) hx hb dX0_putAddress_14 (by decide) (fun c_2 => ?_) (fun c_2 => ?_)
    · have h1 : md ≠ 1 := fun q => c_2 (by rw [q]; decide)
      refine lv_aload_n hx hb dX0_putAddress_28 rfl (lv_at hl 0 rfl) ?_
      refine lv_iload_n hx hb dX0_putAddress_29 rfl (lv_at hl 2 rfl) ?_
      refine jn_i (wr := [(rh, .inr (4, [.ref ro, .int (nI n), .int ov])), (ro, .inl (cI, N, .inl f))]) hA hP hD hS [0, 1, 2] [3, 4] rfl rfl (by decide) (by decide) (rn_V (As := [.int (nI md)]) (rest := []) ⟨hx, hb, hml, hown, hts⟩ (cvV 1 hts zc_yX0_isSameMode zi_X0 zm_yX0_isSameMode zv_yX0_isSameMode kX0_57 (by decide +kernel) rfl rfl ⟨Nat.le_of_ble_eq_true rfl, Nat.le_of_ble_eq_true rfl⟩) (c_Caches_isSameMode l D cI cB cJ cR h on os near same nx fn fs md (h8) (h4) (hm) s0.heap.size) hK hNw hMk hA hP hD hS [0, 1, 2] rfl rfl (by decide) 0 rfl rfl rfl rfl hl.1 rfl (Nat.le_of_ble_eq_true rfl) dX0_putAddress_30 ⟨Nat.le_of_ble_eq_true rfl, Nat.le_of_ble_eq_true rfl⟩) (fun r_3 u9 H locs w_4 hP hD hS => ?_)
      obtain ⟨r_3b, rfl, w_4⟩ := w_4
      try dsimp only at w_4
      have hP : va_P D vwCl [(rh, .inr (4, [.ref ro, .int (nI n), .int ov])), (ro, .inl (cI, N, .inl f)), (h, .inr (0, [.ref on, .ref os, .int (nI near), .int (nI same), .int (nI nx)])), (on, .inl (cI, 8, .inl fn)), (os, .inl (cI, 1024, .inl fs))] H := hP
      have hD : va_D A0 [(rh, .inr (4, [.ref ro, .int (nI n), .int ov])), (ro, .inl (cI, N, .inl f)), (h, .inr (0, [.ref on, .ref os, .int (nI near), .int (nI same), .int (nI nx)])), (on, .inl (cI, 8, .inl fn)), (os, .inl (cI, 1024, .inl fs))] := hD
      refine bz_eq (tgt := 48) hx hb dX0_putAddress_33 (by decide) (fun c_5 => ?_) (fun c_5 => ?_)
      · have hsm : ¬ near + 2 ≤ md := fun q => absurd (w_4.symm.trans c_5) (by rw [decide_eq_true q]; decide)
        refine lv_aload_n hx hb dX0_putAddress_48 rfl (lv_at hl 1 rfl) ?_
        refine lv_iload_n hx hb dX0_putAddress_49 rfl (lv_at hl 3 rfl) ?_
        refine lv_aload_n hx hb dX0_putAddress_50 rfl (lv_at hl 0 rfl) ?_
        refine lv_iload_n hx hb dX0_putAddress_51 rfl (lv_at hl 2 rfl) ?_
        refine jn_i (wr := [(rh, .inr (4, [.ref ro, .int (nI n), .int ov])), (ro, .inl (cI, N, .inl f))]) hA hP hD hS [2, 3, 4] [0, 1] rfl rfl (by decide) (by decide) (rn_V (As := [.int (nI md)]) (rest := [.int (nI a), .ref rh]) ⟨hx, hb, hml, hown, hts⟩ (cvV 1 hts zc_yX0_nearOne zi_X0 zm_yX0_nearOne zv_yX0_nearOne kX0_64 (by decide +kernel) rfl rfl ⟨Nat.le_of_ble_eq_true rfl, Nat.le_of_ble_eq_true rfl⟩) (c_Caches_nearOne l D cI cB cJ cR h on os near same nx fn fs cN cS md (h8) (h4) (by omega) (by omega) (hc) H.size) hK hNw hMk hA hP hD hS [2, 3, 4] rfl rfl (by decide) 0 rfl rfl rfl rfl hl.1 rfl (Nat.le_of_ble_eq_true rfl) dX0_putAddress_52 ⟨Nat.le_of_ble_eq_true rfl, Nat.le_of_ble_eq_true rfl⟩) (fun r_6 u9 H locs w_7 hP hD hS => ?_)
        try dsimp only at w_7
        have hP : va_P D vwCl [(rh, .inr (4, [.ref ro, .int (nI n), .int ov])), (ro, .inl (cI, N, .inl f)), (h, .inr (0, [.ref on, .ref os, .int (nI near), .int (nI same), .int (nI nx)])), (on, .inl (cI, 8, .inl fn)), (os, .inl (cI, 1024, .inl fs))] H := hP
        have hD : va_D A0 [(rh, .inr (4, [.ref ro, .int (nI n), .int ov])), (ro, .inl (cI, N, .inl f)), (h, .inr (0, [.ref on, .ref os, .int (nI near), .int (nI same), .int (nI nx)])), (on, .inl (cI, 8, .inl fn)), (os, .inl (cI, 1024, .inl fs))] := hD
        subst w_7
        have hle2 := hle (by omega) (by omega)
        refine lv_isub hx hb dX0_putAddress_55 ?_
        refine ri (y := nI (a - cN (md - 2))) (pk_sub hle2) ?_
        refine jn_v (wr := [(h, .inr (0, [.ref on, .ref os, .int (nI near), .int (nI same), .int (nI nx)])), (on, .inl (cI, 8, .inl fn)), (os, .inl (cI, 1024, .inl fs))]) hA hP hD hS [0, 1] [2, 3, 4] rfl rfl (by decide) (by decide) (rn_V (As := [.int (nI (a - cN (md - 2)))]) (rest := []) ⟨hx, hb, hml, hown, hts⟩ (cvV 1 hts zc_yX4_putNumber zi_X4 zm_yX4_putNumber zv_yX4_putNumber kX0_51 (by decide +kernel) rfl rfl ⟨Nat.le_of_ble_eq_true rfl, Nat.le_of_ble_eq_true rfl⟩) (c_Row_putNumber l D cI cB cJ cR rh ro N n f ov L (a - cN (md - 2)) (hN) (hr) (by omega) H.size) hK hNw hMk hA hP hD hS [0, 1] rfl rfl (by decide) 0 rfl rfl rfl rfl hl.1 rfl (Nat.le_of_ble_eq_true rfl) dX0_putAddress_56 ⟨Nat.le_of_ble_eq_true rfl, Nat.le_of_ble_eq_true rfl⟩) (fun u9 H locs w_12 hP hD hS => ?_)
        obtain ⟨n2_8, f2_9, ov2_10⟩ := u9
        try dsimp only at w_12
        have hP : va_P D vwCl [(h, .inr (0, [.ref on, .ref os, .int (nI near), .int (nI same), .int (nI nx)])), (on, .inl (cI, 8, .inl fn)), (os, .inl (cI, 1024, .inl fs)), (rh, .inr (4, [.ref ro, .int (nI n2_8), .int ov2_10])), (ro, .inl (cI, N, .inl f2_9))] H := hP
        have hD : va_D A0 [(h, .inr (0, [.ref on, .ref os, .int (nI near), .int (nI same), .int (nI nx)])), (on, .inl (cI, 8, .inl fn)), (os, .inl (cI, 1024, .inl fs)), (rh, .inr (4, [.ref ro, .int (nI n2_8), .int ov2_10])), (ro, .inl (cI, N, .inl f2_9))] := hD
        exact hret 59 ls _ _ (n2_8, f2_9, ov2_10) dX0_putAddress_59 hP hD hS (by rw [adL, if_neg h0, if_neg h1, if_neg hsm]; exact w_12)
      · have hsm : near + 2 ≤ md := of_decide_eq_true (w_4.symm.trans c_5)
        refine lv_aload_n hx hb dX0_putAddress_36 rfl (lv_at hl 1 rfl) ?_
        refine lv_iload_n hx hb dX0_putAddress_37 rfl (lv_at hl 3 rfl) ?_
        refine lv_sipush (v := 255) hx hb dX0_putAddress_38 (by decide) ?_
        refine lv_iand hx hb dX0_putAddress_41 ?_
        refine ri (y := nI (a % 256)) (pk_andN (by omega) 8 (by decide)) ?_
        refine jn_v (wr := [(h, .inr (0, [.ref on, .ref os, .int (nI near), .int (nI same), .int (nI nx)])), (on, .inl (cI, 8, .inl fn)), (os, .inl (cI, 1024, .inl fs))]) hA hP hD hS [0, 1] [2, 3, 4] rfl rfl (by decide) (by decide) (rn_V (As := [.int (nI (a % 256))]) (rest := []) ⟨hx, hb, hml, hown, hts⟩ (cvV 1 hts zc_yX4_put zi_X4 zm_yX4_put zv_yX4_put kX0_61 (by decide +kernel) rfl rfl ⟨Nat.le_of_ble_eq_true rfl, Nat.le_of_ble_eq_true rfl⟩) (c_Row_put l D cI cB cJ cR rh ro N n f ov L (nI (a % 256)) (hN) (hr) H.size) hK hNw hMk hA hP hD hS [0, 1] rfl rfl (by decide) 0 rfl rfl rfl rfl hl.1 rfl (Nat.le_of_ble_eq_true rfl) dX0_putAddress_42 ⟨Nat.le_of_ble_eq_true rfl, Nat.le_of_ble_eq_true rfl⟩) (fun u9 H locs w_17 hP hD hS => ?_)
        obtain ⟨n2_13, f2_14, ov2_15⟩ := u9
        try dsimp only at w_17
        have hP : va_P D vwCl [(h, .inr (0, [.ref on, .ref os, .int (nI near), .int (nI same), .int (nI nx)])), (on, .inl (cI, 8, .inl fn)), (os, .inl (cI, 1024, .inl fs)), (rh, .inr (4, [.ref ro, .int (nI n2_13), .int ov2_15])), (ro, .inl (cI, N, .inl f2_14))] H := hP
        have hD : va_D A0 [(h, .inr (0, [.ref on, .ref os, .int (nI near), .int (nI same), .int (nI nx)])), (on, .inl (cI, 8, .inl fn)), (os, .inl (cI, 1024, .inl fs)), (rh, .inr (4, [.ref ro, .int (nI n2_13), .int ov2_15])), (ro, .inl (cI, N, .inl f2_14))] := hD
        refine lv_goto (tgt := 59) hx hb dX0_putAddress_45 (by decide) ?_
        exact hret 59 ls _ _ (n2_13, f2_14, ov2_15) dX0_putAddress_59 hP hD hS (by rw [adL, if_neg h0, if_neg h1, if_pos hsm]; exact w_17)
    · have h1 : md = 1 := (nI_eq (b := 1) (by omega) (by decide)).mp c_2
      refine lv_aload_n hx hb dX0_putAddress_17 rfl (lv_at hl 1 rfl) ?_
      refine lv_iload hx hb dX0_putAddress_18 (lv_at hl 4 rfl) ?_
      refine lv_iload_n hx hb dX0_putAddress_20 rfl (lv_at hl 3 rfl) ?_
      refine lv_isub hx hb dX0_putAddress_21 ?_
      refine ri (y := nI (here - a)) (pk_sub (by omega)) ?_
      refine jn_v (wr := [(h, .inr (0, [.ref on, .ref os, .int (nI near), .int (nI same), .int (nI nx)])), (on, .inl (cI, 8, .inl fn)), (os, .inl (cI, 1024, .inl fs))]) hA hP hD hS [3, 4] [0, 1, 2] rfl rfl (by decide) (by decide) (rn_V (As := [.int (nI (here - a))]) (rest := []) ⟨hx, hb, hml, hown, hts⟩ (cvV 1 hts zc_yX4_putNumber zi_X4 zm_yX4_putNumber zv_yX4_putNumber kX0_51 (by decide +kernel) rfl rfl ⟨Nat.le_of_ble_eq_true rfl, Nat.le_of_ble_eq_true rfl⟩) (c_Row_putNumber l D cI cB cJ cR rh ro N n f ov L (here - a) (hN) (hr) (by omega) s0.heap.size) hK hNw hMk hA hP hD hS [3, 4] rfl rfl (by decide) 0 rfl rfl rfl rfl hl.1 rfl (Nat.le_of_ble_eq_true rfl) dX0_putAddress_22 ⟨Nat.le_of_ble_eq_true rfl, Nat.le_of_ble_eq_true rfl⟩) (fun u9 H locs w_22 hP hD hS => ?_)
      obtain ⟨n2_18, f2_19, ov2_20⟩ := u9
      try dsimp only at w_22
      have hP : va_P D vwCl [(h, .inr (0, [.ref on, .ref os, .int (nI near), .int (nI same), .int (nI nx)])), (on, .inl (cI, 8, .inl fn)), (os, .inl (cI, 1024, .inl fs)), (rh, .inr (4, [.ref ro, .int (nI n2_18), .int ov2_20])), (ro, .inl (cI, N, .inl f2_19))] H := hP
      have hD : va_D A0 [(h, .inr (0, [.ref on, .ref os, .int (nI near), .int (nI same), .int (nI nx)])), (on, .inl (cI, 8, .inl fn)), (os, .inl (cI, 1024, .inl fs)), (rh, .inr (4, [.ref ro, .int (nI n2_18), .int ov2_20])), (ro, .inl (cI, N, .inl f2_19))] := hD
      refine lv_goto (tgt := 59) hx hb dX0_putAddress_25 (by decide) ?_
      exact hret 59 ls _ _ (n2_18, f2_19, ov2_20) dX0_putAddress_59 hP hD hS (by rw [adL, if_neg h0, if_pos h1]; exact w_22)
  · have h0 : md = 0 := Decidable.byContradiction (fun q => nI_ne0 (Nat.pos_of_ne_zero q) (by omega) c_1)
    refine lv_aload_n hx hb dX0_putAddress_4 rfl (lv_at hl 1 rfl) ?_
    refine lv_iload_n hx hb dX0_putAddress_5 rfl (lv_at hl 3 rfl) ?_
    refine jn_v (wr := [(h, .inr (0, [.ref on, .ref os, .int (nI near), .int (nI same), .int (nI nx)])), (on, .inl (cI, 8, .inl fn)), (os, .inl (cI, 1024, .inl fs))]) hA hP hD hS [3, 4] [0, 1, 2] rfl rfl (by decide) (by decide) (rn_V (As := [.int (nI a)]) (rest := []) ⟨hx, hb, hml, hown, hts⟩ (cvV 1 hts zc_yX4_putNumber zi_X4 zm_yX4_putNumber zv_yX4_putNumber kX0_51 (by decide +kernel) rfl rfl ⟨Nat.le_of_ble_eq_true rfl, Nat.le_of_ble_eq_true rfl⟩) (c_Row_putNumber l D cI cB cJ cR rh ro N n f ov L a (hN) (hr) (by omega) s0.heap.size) hK hNw hMk hA hP hD hS [3, 4] rfl rfl (by decide) 0 rfl rfl rfl rfl hl.1 rfl (Nat.le_of_ble_eq_true rfl) dX0_putAddress_6 ⟨Nat.le_of_ble_eq_true rfl, Nat.le_of_ble_eq_true rfl⟩) (fun u9 H locs w_27 hP hD hS => ?_)
    obtain ⟨n2_23, f2_24, ov2_25⟩ := u9
    try dsimp only at w_27
    have hP : va_P D vwCl [(h, .inr (0, [.ref on, .ref os, .int (nI near), .int (nI same), .int (nI nx)])), (on, .inl (cI, 8, .inl fn)), (os, .inl (cI, 1024, .inl fs)), (rh, .inr (4, [.ref ro, .int (nI n2_23), .int ov2_25])), (ro, .inl (cI, N, .inl f2_24))] H := hP
    have hD : va_D A0 [(h, .inr (0, [.ref on, .ref os, .int (nI near), .int (nI same), .int (nI nx)])), (on, .inl (cI, 8, .inl fn)), (os, .inl (cI, 1024, .inl fs)), (rh, .inr (4, [.ref ro, .int (nI n2_23), .int ov2_25])), (ro, .inl (cI, N, .inl f2_24))] := hD
    refine lv_goto (tgt := 59) hx hb dX0_putAddress_9 (by decide) ?_
    exact hret 59 ls _ _ (n2_23, f2_24, ov2_25) dX0_putAddress_59 hP hD hS (by rw [adL, if_pos h0]; exact w_27)
