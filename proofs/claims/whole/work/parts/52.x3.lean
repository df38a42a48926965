theorem va_up_id {RL : Nat → List Int32} {k : Nat} {mr ms : Nat → Int32} (h : rwR mr ms RL) : rwR mr ms (va_up RL k (RL k)) := by rw [va_up_same]; exact h
theorem in3 {x : Int32} : decide (¬ x < 0 ∧ x ≤ nI 3) = true ↔ ¬ x < 0 ∧ x ≤ 3 := by rw [decide_eq_true_iff]; exact Iff.rfl
set_option maxHeartbeats 4000000 in
set_option maxRecDepth 100000 in
theorem m_feed (l : Launch) (D : va_G) (cI cB cJ cR : ClassId) (mm : Nat) (g : Nat → Value) (Msizes : Nat) (Mrows : Nat) (msizes : Nat → Int32) (mrows : Nat → Int32) (x : Int32) (v : Int64) (n : Int32) (RL : Nat → List Int32) (g_sizes : g 2 = .ref Msizes) (g_rows : g 1 = .ref Mrows) (hrw : rwR mrows msizes RL) : CMi l yX9_feed cX9_feed 6 (some .int) ({ frames := 1, cells := 0, slots := 0, locals := 25 }) D (tyA cI cB cJ cR) 0 0 [.ref mm, .int x, .long v, .int n] [(mm, .inr (9, fl 78 g)), (Msizes, .inl (cI, 4, .inl msizes)), (Mrows, .inl (cB, 32000, .inl mrows))] (fun (r : Int32) (u9 : (Nat → Value) × (Nat → Int32) × (Nat → Int32) × (Nat → List Int32)) => match u9 with | (g9, q2, z2, RL9) => frm [0] g g9 ∧ g9 0 = .int (nI 0) ∧ feedP x v n RL = (r, RL9) ∧ rwR q2 z2 RL9) (fun (u9 : (Nat → Value) × (Nat → Int32) × (Nat → Int32) × (Nat → List Int32)) => match u9 with | (g9, q2, z2, RL9) => [(mm, .inr (9, fl 78 g9)), (Msizes, .inl (cI, 4, .inl z2)), (Mrows, .inl (cB, 32000, .inl q2))]) := by
  refine st_i (cc := cX9_feed) (maxL := 6) (by decide) (Nat.le_of_ble_eq_true rfl) ?_
  intro p0 e0 s0 m0 below meth c0 A0 Q0 hBD hret hP hD hS ls hl
  obtain ⟨hx, hb, hml, hown, hts, hnm, hK, hNw, hMk, hA⟩ := hBD
  have hl : lv_has ls 6 [(0, .ref mm), (1, .int x), (2, .long v), (4, .int n)] := hl
  have hP : va_P D vwCl [(mm, .inr (9, fl 78 g)), (Msizes, .inl (cI, 4, .inl msizes)), (Mrows, .inl (cB, 32000, .inl mrows))] s0.heap := hP
  have hD : va_D A0 [(mm, .inr (9, fl 78 g)), (Msizes, .inl (cI, 4, .inl msizes)), (Mrows, .inl (cB, 32000, .inl mrows))] := hD
  refine lv_aload_n hx hb dX9_feed_0 rfl (lv_at hl 0 rfl) ?_
  refine lv_iconst (v := 0) hx hb dX9_feed_1 (by decide) ?_
  refine ri (y := nI 0) (nI_0.symm) ?_
  refine fx_put (D := D) (ci := 9) (v := .int (nI 0)) (ty := .int) (C := RX9) (T := TX9) (N := 78) hx hb hts in_X9 tyX9 tyX9_ok nmX9 hown hK hP hD hS 0 rfl rfl 0 (by decide) (hts _ kX9_131) (fun _ h9 => h9) rfl (by decide +kernel) rfl rfl dX9_feed_2 (fun H locs hP hD hS => ?_)
  have hP : va_P D vwCl [(mm, .inr (9, fl 78 (va_up g 0 (.int (nI 0))))), (Msizes, .inl (cI, 4, .inl msizes)), (Mrows, .inl (cB, 32000, .inl mrows))] H := hP
  have hD : va_D A0 [(mm, .inr (9, fl 78 (va_up g 0 (.int (nI 0))))), (Msizes, .inl (cI, 4, .inl msizes)), (Mrows, .inl (cB, 32000, .inl mrows))] := hD
  refine lv_iload_n hx hb dX9_feed_5 rfl (lv_at hl 1 rfl) ?_
  refine lv_i2l hx hb dX9_feed_6 (v := x.toInt64) rfl ?_
  refine lv_lconst (v := 0) hx hb dX9_feed_7 (by decide) ?_
  refine lv_ldc2 hx hb hown (hts _ kX9_134) dX9_feed_8 ?_
  refine rl (y := lN 3) (rfl) ?_
  refine jn_i (wr := [(mm, .inr (9, fl 78 (va_up g 0 (.int (nI 0))))), (Msizes, .inl (cI, 4, .inl msizes)), (Mrows, .inl (cB, 32000, .inl mrows))]) hA hP hD hS [] [0, 1, 2] rfl rfl (by decide) (by decide) (rn_S (As := [.long x.toInt64, .long 0, .long (lN 3)]) (rest := []) ⟨hx, hb, hml, hown, hts⟩ (cvS 3 hts zc_yX9_in zi_X9 zs_yX9_in kX9_136 (by decide +kernel) rfl rfl ⟨Nat.le_of_ble_eq_true rfl, Nat.le_of_ble_eq_true rfl⟩) (m_in l D cI cB cJ cR x.toInt64 0 (lN 3)  H.size) hK hNw hMk hA hP hD hS [] rfl rfl (by decide) rfl hl.1 rfl (Nat.le_of_ble_eq_true rfl) dX9_feed_11 ⟨Nat.le_of_ble_eq_true rfl, Nat.le_of_ble_eq_true rfl⟩) (fun ra u9 H locs hra hP hD hS => ?_)
  obtain ⟨rab, rfl, hra⟩ := hra
  try dsimp only at hra
  have hP : va_P D vwCl [(mm, .inr (9, fl 78 (va_up g 0 (.int (nI 0))))), (Msizes, .inl (cI, 4, .inl msizes)), (Mrows, .inl (cB, 32000, .inl mrows))] H := hP
  have hD : va_D A0 [(mm, .inr (9, fl 78 (va_up g 0 (.int (nI 0))))), (Msizes, .inl (cI, 4, .inl msizes)), (Mrows, .inl (cB, 32000, .inl mrows))] := hD
  rw [in32 (by decide)] at hra
  rw [isR_in] at hra
  refine bz_eq (tgt := 30) hx hb dX9_feed_14 (by decide) (fun c_1 => ?_) (fun c_1 => ?_)
  · refine lv_bipush (v := -2) hx hb dX9_feed_30 (by decide) ?_
    exact hret 32 ls _ _ _ ((va_up g 0 (.int (nI 0))), mrows, msizes, RL) dX9_feed_32 hP hD hS (⟨(frm_up frm_refl (by decide)), rfl, ⟨by rw [feedP, if_pos (Or.inl (by rw [← hra]; exact c_1))], hrw⟩⟩)
  · have hxr : isR x = true := by rw [← hra]; exact c_1
    obtain ⟨k, hk, hx9⟩ := isR_ex hxr
    have hkl := (hrw k hk).2.1
    have hk8 := rmN_le k
    refine lv_iload hx hb dX9_feed_17 (lv_at hl 3 rfl) ?_
    refine lv_i2l hx hb dX9_feed_19 (v := n.toInt64) rfl ?_
    refine lv_lconst (v := 0) hx hb dX9_feed_20 (by decide) ?_
    refine lv_ldc2 hx hb hown (hts _ kX9_140) dX9_feed_21 ?_
    refine rl (y := lN 8) (rfl) ?_
    refine jn_i (wr := [(mm, .inr (9, fl 78 (va_up g 0 (.int (nI 0))))), (Msizes, .inl (cI, 4, .inl msizes)), (Mrows, .inl (cB, 32000, .inl mrows))]) hA hP hD hS [] [0, 1, 2] rfl rfl (by decide) (by decide) (rn_S (As := [.long n.toInt64, .long 0, .long (lN 8)]) (rest := []) ⟨hx, hb, hml, hown, hts⟩ (cvS 3 hts zc_yX9_in zi_X9 zs_yX9_in kX9_136 (by decide +kernel) rfl rfl ⟨Nat.le_of_ble_eq_true rfl, Nat.le_of_ble_eq_true rfl⟩) (m_in l D cI cB cJ cR n.toInt64 0 (lN 8)  H.size) hK hNw hMk hA hP hD hS [] rfl rfl (by decide) rfl hl.1 rfl (Nat.le_of_ble_eq_true rfl) dX9_feed_24 ⟨Nat.le_of_ble_eq_true rfl, Nat.le_of_ble_eq_true rfl⟩) (fun rb u9 H locs hrb hP hD hS => ?_)
    obtain ⟨rbb, rfl, hrb⟩ := hrb
    try dsimp only at hrb
    have hP : va_P D vwCl [(mm, .inr (9, fl 78 (va_up g 0 (.int (nI 0))))), (Msizes, .inl (cI, 4, .inl msizes)), (Mrows, .inl (cB, 32000, .inl mrows))] H := hP
    have hD : va_D A0 [(mm, .inr (9, fl 78 (va_up g 0 (.int (nI 0))))), (Msizes, .inl (cI, 4, .inl msizes)), (Mrows, .inl (cB, 32000, .inl mrows))] := hD
    rw [in32 (by decide)] at hrb
    refine bz_ne (tgt := 33) hx hb dX9_feed_27 (by decide) (fun c_2 => ?_) (fun c_2 => ?_)
    · have hn : ¬ n < 0 ∧ n ≤ nI 8 := of_decide_eq_true (by rw [← hrb]; exact c_2)
      obtain ⟨m, hm8, hnm9⟩ := nI_of8 hn.1 hn.2 (by decide)
      rw [hx9] at hl
      rw [hnm9] at hl
      have hfp := feedP_in (v := v) (RL := RL) hk hm8
      rw [← hx9, ← hnm9] at hfp
      refine lv_iload hx hb dX9_feed_33 (lv_at hl 3 rfl) ?_
      refine lv_if_ne (tgt := 47) hx hb dX9_feed_35 (by decide) (fun c_3 => ?_) (fun c_3 => ?_)
      · have hm0 : ¬ m = 0 := fun z => c_3 (by rw [z]; decide)
        rw [if_neg hm0] at hfp
        refine lv_aload_n hx hb dX9_feed_47 rfl (lv_at hl 0 rfl) ?_
        refine fx_get (D := D) (ci := 9) (v := .ref Msizes) (C := RX9) (T := TX9) (N := 78) hx hb hts in_X9 hown hK hP 0 rfl rfl 2 (by decide) (hts _ kX9_13) (fun _ h9 => h9) (g_sizes) dX9_feed_48 ?_
        refine lv_iload_n hx hb dX9_feed_51 rfl (lv_at hl 1 rfl) ?_
        refine ax_ild hx hb hK hP 1 0 rfl rfl k (rfl) (hk) (by omega) dX9_feed_52 ?_
        refine ri (y := nI (RL k).length) ((hrw k hk).1) ?_
        refine lv_iload hx hb dX9_feed_53 (lv_at hl 3 rfl) ?_
        refine lv_iadd hx hb dX9_feed_55 ?_
        refine ri (y := nI ((RL k).length + m)) (nI_add _ _) ?_
        refine lv_iload_n hx hb dX9_feed_56 rfl (lv_at hl 1 rfl) ?_
        refine jn_i (wr := [(mm, .inr (9, fl 78 (va_up g 0 (.int (nI 0))))), (Msizes, .inl (cI, 4, .inl msizes)), (Mrows, .inl (cB, 32000, .inl mrows))]) hA hP hD hS [] [0, 1, 2] rfl rfl (by decide) (by decide) (rn_S (As := [.int (nI k)]) (rest := [.int (nI ((RL k).length + m))]) ⟨hx, hb, hml, hown, hts⟩ (cvS 1 hts zc_yX9_room zi_X9 zs_yX9_room kX9_142 (by decide +kernel) rfl rfl ⟨Nat.le_of_ble_eq_true rfl, Nat.le_of_ble_eq_true rfl⟩) (m_room l D cI cB cJ cR k (hk) H.size) hK hNw hMk hA hP hD hS [] rfl rfl (by decide) rfl hl.1 rfl (Nat.le_of_ble_eq_true rfl) dX9_feed_57 ⟨Nat.le_of_ble_eq_true rfl, Nat.le_of_ble_eq_true rfl⟩) (fun rm u9 H locs hrm hP hD hS => ?_)
        try dsimp only at hrm
        have hP : va_P D vwCl [(mm, .inr (9, fl 78 (va_up g 0 (.int (nI 0))))), (Msizes, .inl (cI, 4, .inl msizes)), (Mrows, .inl (cB, 32000, .inl mrows))] H := hP
        have hD : va_D A0 [(mm, .inr (9, fl 78 (va_up g 0 (.int (nI 0))))), (Msizes, .inl (cI, 4, .inl msizes)), (Mrows, .inl (cB, 32000, .inl mrows))] := hD
        subst hrm
        refine lv_icmp_le (tgt := 66) hx hb dX9_feed_60 (by decide) (fun c_4 => ?_) (fun c_4 => ?_)
        · have hf9 : ¬ rmN k < (RL k).length + m := Nat.not_lt.mpr ((nI_leI (by omega) (by omega)).mp c_4)
          rw [if_neg hf9] at hfp
          refine lv_iload hx hb dX9_feed_66 (lv_at hl 3 rfl) ?_
          refine lv_iconst (v := 1) hx hb dX9_feed_68 (by decide) ?_
          refine lv_isub hx hb dX9_feed_69 ?_
          refine lv_istore (lv' := [(5, .int ((nI m) - 1)), (0, .ref mm), (1, .int (nI k)), (2, .long v), (4, .int (nI m))]) hx hb dX9_feed_70 hl (by decide) rfl (fun ls hl => ?_)
          have lx : ∀ (k9 : Nat) (g5_lx : Nat → Value) (j : Nat) (Lc : List Int32) (r7 : Nat → Int32) (z7 : Nat → Int32) (H : Heap) (locs : List Loc) (ls : Array Slot), j < k9 → (frm [0] g g5_lx) → (g5_lx 0 = .int (nI 0)) → (j ≤ m) → (Lc ++ fdL v j = RL k ++ fdL v m) → (Lc.length + j = (RL k).length + m) → (rwR r7 z7 (va_up RL k Lc)) → va_P D vwCl [(mm, .inr (9, fl 78 g5_lx)), (Msizes, .inl (cI, 4, .inl z7)), (Mrows, .inl (cB, 32000, .inl r7))] H → va_D A0 [(mm, .inr (9, fl 78 g5_lx)), (Msizes, .inl (cI, 4, .inl z7)), (Mrows, .inl (cB, 32000, .inl r7))] → va_S A0 s0.heap H locs → lv_has ls 6 [(0, .ref mm), (1, .int (nI k)), (2, .long v), (4, .int (nI m)), (5, .int (nI j - 1))] → W p0 l e0 ({ frames := 1, cells := 0, slots := 0, locals := 25 }) s0 m0 ([.ref mm, .int x, .long v, .int n] : List Value).toArray below meth c0 H locs 0 0 Q0 (F0 m0 72 ls []) := by
            intro k9
            induction k9 with
            | zero => intro g5_lx j Lc r7 z7 H locs ls hk9; exact absurd hk9 (Nat.not_lt_zero _)
            | succ k9 ih =>
              intro g5_lx j Lc r7 z7 H locs ls hk9 hf_lx k_code_lx hjm hLc hlc hr7 hP hD hS hl
              refine lv_iload hx hb dX9_feed_72 (lv_at hl 4 rfl) ?_
              refine lv_if_lt (tgt := 119) hx hb dX9_feed_74 (by decide) (fun c_5 => ?_) (fun c_5 => ?_)
              · have hj0 : j = 0 := Decidable.byContradiction (fun z => by rw [show (1 : Int32) = nI 1 from rfl, pk_sub (by omega)] at c_5; exact nI_pos (by omega) c_5)
                rw [hj0, fdL, List.append_nil] at hLc
                subst hLc
                refine lv_aload_n hx hb dX9_feed_119 rfl (lv_at hl 0 rfl) ?_
                refine fx_get (D := D) (ci := 9) (v := .ref Msizes) (C := RX9) (T := TX9) (N := 78) hx hb hts in_X9 hown hK hP 0 rfl rfl 2 (by decide) (hts _ kX9_13) (fun _ h9 => h9) ((hf_lx 2 (by decide)).trans g_sizes) dX9_feed_120 ?_
                refine lv_iload_n hx hb dX9_feed_123 rfl (lv_at hl 1 rfl) ?_
                refine ax_ild hx hb hK hP 1 0 rfl rfl k (rfl) (hk) (by omega) dX9_feed_124 ?_
                refine ri (y := nI ((RL k).length + m)) (by rw [rwR_sz hr7 hk, List.length_append, fdL_len]) ?_
                exact hret 125 ls _ _ _ (g5_lx, r7, z7, va_up RL k (RL k ++ fdL v m)) dX9_feed_125 hP hD hS (⟨hf_lx, k_code_lx, ⟨hfp, hr7⟩⟩)
              · obtain ⟨i, hji⟩ : ∃ i, j = i + 1 := ⟨j - 1, by have : ¬ j = 0 := fun z => c_5 (by rw [z]; decide); omega⟩
                subst hji
                rw [show nI (i + 1) - 1 = nI i from pk_sub (a := i + 1) (b := 1) (by omega)] at hl
                refine lv_aload_n hx hb dX9_feed_77 rfl (lv_at hl 0 rfl) ?_
                refine fx_get (D := D) (ci := 9) (v := .ref Mrows) (C := RX9) (T := TX9) (N := 78) hx hb hts in_X9 hown hK hP 0 rfl rfl 1 (by decide) (hts _ kX9_7) (fun _ h9 => h9) ((hf_lx 1 (by decide)).trans g_rows) dX9_feed_78 ?_
                refine lv_sipush (v := 8000) hx hb dX9_feed_81 (by decide) ?_
                refine lv_iload_n hx hb dX9_feed_84 rfl (lv_at hl 1 rfl) ?_
                refine lv_imul hx hb dX9_feed_85 ?_
                refine ri (y := nI (8000 * k)) (m8k k hk) ?_
                refine lv_aload_n hx hb dX9_feed_86 rfl (lv_at hl 0 rfl) ?_
                refine fx_get (D := D) (ci := 9) (v := .ref Msizes) (C := RX9) (T := TX9) (N := 78) hx hb hts in_X9 hown hK hP 0 rfl rfl 2 (by decide) (hts _ kX9_13) (fun _ h9 => h9) ((hf_lx 2 (by decide)).trans g_sizes) dX9_feed_87 ?_
                refine lv_iload_n hx hb dX9_feed_90 rfl (lv_at hl 1 rfl) ?_
                refine ax_ild hx hb hK hP 1 0 rfl rfl k (rfl) (hk) (by omega) dX9_feed_91 ?_
                refine ri (y := nI Lc.length) (rwR_sz hr7 hk) ?_
                refine lv_iadd hx hb dX9_feed_92 ?_
                refine ri (y := nI ((8000 * k) + Lc.length)) (nI_add (8000 * k) Lc.length) ?_
                refine lv_lload_n hx hb dX9_feed_93 rfl (lv_at hl 2 rfl) ?_
                refine lv_bipush (v := 8) hx hb dX9_feed_94 (by decide) ?_
                refine lv_iload hx hb dX9_feed_96 (lv_at hl 4 rfl) ?_
                refine lv_imul hx hb dX9_feed_98 ?_
                refine lv_lshr hx hb dX9_feed_99 (v := v >>> ((8 * (nI i)).toInt64 &&& 63)) rfl ?_
                refine lv_l2i hx hb dX9_feed_100 (v := (v >>> ((8 * (nI i)).toInt64 &&& 63)).toInt32) rfl ?_
                refine lv_i2b hx hb dX9_feed_101 (v := ((v >>> ((8 * (nI i)).toInt64 &&& 63)).toInt32).toInt8.toInt32) rfl ?_
                refine ri (y := (ocV v i).toInt8.toInt32) (fd_b i (by omega)) ?_
                refine ax_bst hx hb hK hP hD hS 2 1 rfl rfl (8000 * k + Lc.length) (rfl) (by omega) (by omega) (z := (ocV v i).toInt8.toInt32) (b8) dX9_feed_102 (fun H locs hP hD hS => ?_)
                have hP : va_P D vwCl [(mm, .inr (9, fl 78 g5_lx)), (Msizes, .inl (cI, 4, .inl z7)), (Mrows, .inl (cB, 32000, .inl (upd r7 (8000 * k + Lc.length) ((ocV v i).toInt8.toInt32))))] H := hP
                have hD : va_D A0 [(mm, .inr (9, fl 78 g5_lx)), (Msizes, .inl (cI, 4, .inl z7)), (Mrows, .inl (cB, 32000, .inl (upd r7 (8000 * k + Lc.length) ((ocV v i).toInt8.toInt32))))] := hD
                refine lv_aload_n hx hb dX9_feed_103 rfl (lv_at hl 0 rfl) ?_
                refine fx_get (D := D) (ci := 9) (v := .ref Msizes) (C := RX9) (T := TX9) (N := 78) hx hb hts in_X9 hown hK hP 0 rfl rfl 2 (by decide) (hts _ kX9_13) (fun _ h9 => h9) ((hf_lx 2 (by decide)).trans g_sizes) dX9_feed_104 ?_
                refine lv_iload_n hx hb dX9_feed_107 rfl (lv_at hl 1 rfl) ?_
                refine lv_dup2_11 hx hb dX9_feed_108 rfl rfl ?_
                refine ax_ild hx hb hK hP 1 0 rfl rfl k (rfl) (hk) (by omega) dX9_feed_109 ?_
                refine ri (y := nI Lc.length) (rwR_sz hr7 hk) ?_
                refine lv_iconst (v := 1) hx hb dX9_feed_110 (by decide) ?_
                refine lv_iadd hx hb dX9_feed_111 ?_
                refine ri (y := nI (Lc.length + 1)) (nI_add Lc.length 1) ?_
                refine ri (y := nI (Lc.length + 1)) (rfl) ?_
                refine ax_ist hx hb hK hP hD hS 1 0 rfl rfl k (rfl) (hk) (by omega) dX9_feed_112 (fun H locs hP hD hS => ?_)
                have hP : va_P D vwCl [(mm, .inr (9, fl 78 g5_lx)), (Msizes, .inl (cI, 4, .inl (upd z7 k (nI (Lc.length + 1))))), (Mrows, .inl (cB, 32000, .inl (upd r7 (8000 * k + Lc.length) ((ocV v i).toInt8.toInt32))))] H := hP
                have hD : va_D A0 [(mm, .inr (9, fl 78 g5_lx)), (Msizes, .inl (cI, 4, .inl (upd z7 k (nI (Lc.length + 1))))), (Mrows, .inl (cB, 32000, .inl (upd r7 (8000 * k + Lc.length) ((ocV v i).toInt8.toInt32))))] := hD
                refine lv_iinc (v := (nI i) + (-1)) (lv' := [(5, .int ((nI i) + (-1))), (0, .ref mm), (1, .int (nI k)), (2, .long v), (4, .int (nI m))]) hx hb dX9_feed_113 hl (k := 4) rfl (rfl) (by decide) rfl (fun ls hl => ?_)
                refine lv_goto (tgt := 72) hx hb dX9_feed_116 (by decide) ?_
                rw [show nI i + (-1) = nI i - 1 from (Int32.sub_eq_add_neg ..).symm] at hl
                exact ih g5_lx i (Lc ++ [ocV v i]) (upd r7 (8000 * k + Lc.length) (ocV v i).toInt8.toInt32) (upd z7 k (nI (Lc.length + 1))) _ _ ls (by omega) (hf_lx) (k_code_lx) (by omega) (by rw [← hLc, fdL, List.append_assoc]; rfl) (by rw [← len1]; omega) (rwR_put hr7 hk (by omega) rfl) hP hD hS (lv_sub hl [1, 2, 3, 4, 0] rfl)
          exact lx _ (va_up g 0 (.int (nI 0))) m (RL k) mrows msizes _ _ ls (Nat.lt_succ_self _) ((frm_up frm_refl (by decide))) (rfl) (Nat.le_refl _) (rfl) (rfl) (va_up_id hrw) hP hD hS (lv_sub hl [1, 2, 3, 4, 0] rfl)
        · have hf9 : rmN k < (RL k).length + m := Nat.not_le.mp (fun q => c_4 (nI_le q (by omega)))
          rw [if_pos hf9] at hfp
          refine lv_bipush (v := -4) hx hb dX9_feed_63 (by decide) ?_
          exact hret 65 ls _ _ _ ((va_up g 0 (.int (nI 0))), mrows, msizes, RL) dX9_feed_65 hP hD hS (⟨(frm_up frm_refl (by decide)), rfl, ⟨hfp, hrw⟩⟩)
      · have hm0 : m = 0 := Decidable.byContradiction (fun z => nI_ne0 (Nat.pos_of_ne_zero z) (by omega) c_3)
        rw [if_pos hm0] at hfp
        refine lv_aload_n hx hb dX9_feed_38 rfl (lv_at hl 0 rfl) ?_
        refine fx_get (D := D) (ci := 9) (v := .ref Msizes) (C := RX9) (T := TX9) (N := 78) hx hb hts in_X9 hown hK hP 0 rfl rfl 2 (by decide) (hts _ kX9_13) (fun _ h9 => h9) (g_sizes) dX9_feed_39 ?_
        refine lv_iload_n hx hb dX9_feed_42 rfl (lv_at hl 1 rfl) ?_
        refine lv_iconst (v := 0) hx hb dX9_feed_43 (by decide) ?_
        refine ri (y := nI 0) (nI_0.symm) ?_
        refine ax_ist hx hb hK hP hD hS 1 0 rfl rfl k (rfl) (hk) (by omega) dX9_feed_44 (fun H locs hP hD hS => ?_)
        have hP : va_P D vwCl [(mm, .inr (9, fl 78 (va_up g 0 (.int (nI 0))))), (Msizes, .inl (cI, 4, .inl (upd msizes k (nI 0)))), (Mrows, .inl (cB, 32000, .inl mrows))] H := hP
        have hD : va_D A0 [(mm, .inr (9, fl 78 (va_up g 0 (.int (nI 0))))), (Msizes, .inl (cI, 4, .inl (upd msizes k (nI 0)))), (Mrows, .inl (cB, 32000, .inl mrows))] := hD
        refine lv_iconst (v := 0) hx hb dX9_feed_45 (by decide) ?_
        exact hret 46 ls _ _ _ ((va_up g 0 (.int (nI 0))), mrows, upd msizes k (nI 0), va_up RL k []) dX9_feed_46 hP hD hS (⟨(frm_up frm_refl (by decide)), rfl, ⟨hfp, rwR_nil hrw hk⟩⟩)
    · have hn : ¬ (¬ n < 0 ∧ n ≤ nI 8) := of_decide_eq_false (by rw [← hrb]; exact c_2)
      refine lv_bipush (v := -2) hx hb dX9_feed_30 (by decide) ?_
      exact hret 32 ls _ _ _ ((va_up g 0 (.int (nI 0))), mrows, msizes, RL) dX9_feed_32 hP hD hS (⟨(frm_up frm_refl (by decide)), rfl, ⟨by rw [feedP, if_pos (by by_cases z : n < 0; exact Or.inr (Or.inl z); exact Or.inr (Or.inr (fun w => hn ⟨z, w⟩)))], hrw⟩⟩)

set_option maxHeartbeats 4000000 in
set_option maxRecDepth 100000 in
theorem m_fill (l : Launch) (D : va_G) (cI cB cJ cR : ClassId) (mm : Nat) (g : Nat → Value) (Msizes : Nat) (Mrows : Nat) (msizes : Nat → Int32) (mrows : Nat → Int32) (x : Int32) (kd : Int32) (n : Int32) (sd : Int32) (RL : Nat → List Int32) (g_sizes : g 2 = .ref Msizes) (g_rows : g 1 = .ref Mrows) (hrw : rwR mrows msizes RL) : CMi l yX9_fill cX9_fill 10 (some .int) ({ frames := 1, cells := 0, slots := 0, locals := 25 }) D (tyA cI cB cJ cR) 0 0 [.ref mm, .int x, .int kd, .int n, .int sd] [(mm, .inr (9, fl 78 g)), (Msizes, .inl (cI, 4, .inl msizes)), (Mrows, .inl (cB, 32000, .inl mrows))] (fun (r : Int32) (u9 : (Nat → Value) × (Nat → Int32) × (Nat → Int32) × (Nat → List Int32)) => match u9 with | (g9, q2, z2, RL9) => frm [0] g g9 ∧ g9 0 = .int (nI 0) ∧ filP x kd n sd RL = (r, RL9) ∧ rwR q2 z2 RL9) (fun (u9 : (Nat → Value) × (Nat → Int32) × (Nat → Int32) × (Nat → List Int32)) => match u9 with | (g9, q2, z2, RL9) => [(mm, .inr (9, fl 78 g9)), (Msizes, .inl (cI, 4, .inl z2)), (Mrows, .inl (cB, 32000, .inl q2))]) := by
  refine st_i (cc := cX9_fill) (maxL := 10) (by decide) (Nat.le_of_ble_eq_true rfl) ?_
  intro p0 e0 s0 m0 below meth c0 A0 Q0 hBD hret hP hD hS ls hl
  obtain ⟨hx, hb, hml, hown, hts, hnm, hK, hNw, hMk, hA⟩ := hBD
  have hl : lv_has ls 10 [(0, .ref mm), (1, .int x), (2, .int kd), (3, .int n), (4, .int sd)] := hl
  have hP : va_P D vwCl [(mm, .inr (9, fl 78 g)), (Msizes, .inl (cI, 4, .inl msizes)), (Mrows, .inl (cB, 32000, .inl mrows))] s0.heap := hP
  have hD : va_D A0 [(mm, .inr (9, fl 78 g)), (Msizes, .inl (cI, 4, .inl msizes)), (Mrows, .inl (cB, 32000, .inl mrows))] := hD
  refine lv_aload_n hx hb dX9_fill_0 rfl (lv_at hl 0 rfl) ?_
  refine lv_iconst (v := 0) hx hb dX9_fill_1 (by decide) ?_
  refine ri (y := nI 0) (nI_0.symm) ?_
  refine fx_put (D := D) (ci := 9) (v := .int (nI 0)) (ty := .int) (C := RX9) (T := TX9) (N := 78) hx hb hts in_X9 tyX9 tyX9_ok nmX9 hown hK hP hD hS 0 rfl rfl 0 (by decide) (hts _ kX9_131) (fun _ h9 => h9) rfl (by decide +kernel) rfl rfl dX9_fill_2 (fun H locs hP hD hS => ?_)
  have hP : va_P D vwCl [(mm, .inr (9, fl 78 (va_up g 0 (.int (nI 0))))), (Msizes, .inl (cI, 4, .inl msizes)), (Mrows, .inl (cB, 32000, .inl mrows))] H := hP
  have hD : va_D A0 [(mm, .inr (9, fl 78 (va_up g 0 (.int (nI 0))))), (Msizes, .inl (cI, 4, .inl msizes)), (Mrows, .inl (cB, 32000, .inl mrows))] := hD
  refine lv_iload_n hx hb dX9_fill_5 rfl (lv_at hl 1 rfl) ?_
  refine lv_i2l hx hb dX9_fill_6 (v := x.toInt64) rfl ?_
  refine lv_lconst (v := 0) hx hb dX9_fill_7 (by decide) ?_
  refine lv_ldc2 hx hb hown (hts _ kX9_134) dX9_fill_8 ?_
  refine rl (y := lN 3) (rfl) ?_
  refine jn_i (wr := [(mm, .inr (9, fl 78 (va_up g 0 (.int (nI 0))))), (Msizes, .inl (cI, 4, .inl msizes)), (Mrows, .inl (cB, 32000, .inl mrows))]) hA hP hD hS [] [0, 1, 2] rfl rfl (by decide) (by decide) (rn_S (As := [.long x.toInt64, .long 0, .long (lN 3)]) (rest := []) ⟨hx, hb, hml, hown, hts⟩ (cvS 3 hts zc_yX9_in zi_X9 zs_yX9_in kX9_136 (by decide +kernel) rfl rfl ⟨Nat.le_of_ble_eq_true rfl, Nat.le_of_ble_eq_true rfl⟩) (m_in l D cI cB cJ cR x.toInt64 0 (lN 3)  H.size) hK hNw hMk hA hP hD hS [] rfl rfl (by decide) rfl hl.1 rfl (Nat.le_of_ble_eq_true rfl) dX9_fill_11 ⟨Nat.le_of_ble_eq_true rfl, Nat.le_of_ble_eq_true rfl⟩) (fun ra u9 H locs hra hP hD hS => ?_)
  obtain ⟨rab, rfl, hra⟩ := hra
  try dsimp only at hra
  have hP : va_P D vwCl [(mm, .inr (9, fl 78 (va_up g 0 (.int (nI 0))))), (Msizes, .inl (cI, 4, .inl msizes)), (Mrows, .inl (cB, 32000, .inl mrows))] H := hP
  have hD : va_D A0 [(mm, .inr (9, fl 78 (va_up g 0 (.int (nI 0))))), (Msizes, .inl (cI, 4, .inl msizes)), (Mrows, .inl (cB, 32000, .inl mrows))] := hD
  rw [in32 (by decide)] at hra
  rw [isR_in] at hra
  refine bz_eq (tgt := 33) hx hb dX9_fill_14 (by decide) (fun c_1 => ?_) (fun c_1 => ?_)
  · refine lv_bipush (v := -2) hx hb dX9_fill_33 (by decide) ?_
    exact hret 35 ls _ _ _ ((va_up g 0 (.int (nI 0))), mrows, msizes, RL) dX9_fill_35 hP hD hS (⟨(frm_up frm_refl (by decide)), rfl, ⟨by rw [filP, if_pos (Or.inl (by rw [← hra]; exact c_1))], hrw⟩⟩)
  · have hxr : isR x = true := by rw [← hra]; exact c_1
    obtain ⟨k, hk, hx9⟩ := isR_ex hxr
    have hkl := (hrw k hk).2.1
    have hk8 := rmN_le k
    refine lv_iload_n hx hb dX9_fill_17 rfl (lv_at hl 2 rfl) ?_
    refine lv_i2l hx hb dX9_fill_18 (v := kd.toInt64) rfl ?_
    refine lv_lconst (v := 0) hx hb dX9_fill_19 (by decide) ?_
    refine lv_ldc2 hx hb hown (hts _ kX9_134) dX9_fill_20 ?_
    refine rl (y := lN 3) (rfl) ?_
    refine jn_i (wr := [(mm, .inr (9, fl 78 (va_up g 0 (.int (nI 0))))), (Msizes, .inl (cI, 4, .inl msizes)), (Mrows, .inl (cB, 32000, .inl mrows))]) hA hP hD hS [] [0, 1, 2] rfl rfl (by decide) (by decide) (rn_S (As := [.long kd.toInt64, .long 0, .long (lN 3)]) (rest := []) ⟨hx, hb, hml, hown, hts⟩ (cvS 3 hts zc_yX9_in zi_X9 zs_yX9_in kX9_136 (by decide +kernel) rfl rfl ⟨Nat.le_of_ble_eq_true rfl, Nat.le_of_ble_eq_true rfl⟩) (m_in l D cI cB cJ cR kd.toInt64 0 (lN 3)  H.size) hK hNw hMk hA hP hD hS [] rfl rfl (by decide) rfl hl.1 rfl (Nat.le_of_ble_eq_true rfl) dX9_fill_23 ⟨Nat.le_of_ble_eq_true rfl, Nat.le_of_ble_eq_true rfl⟩) (fun rb u9 H locs hrb hP hD hS => ?_)
    obtain ⟨rbb, rfl, hrb⟩ := hrb
    try dsimp only at hrb
    have hP : va_P D vwCl [(mm, .inr (9, fl 78 (va_up g 0 (.int (nI 0))))), (Msizes, .inl (cI, 4, .inl msizes)), (Mrows, .inl (cB, 32000, .inl mrows))] H := hP
    have hD : va_D A0 [(mm, .inr (9, fl 78 (va_up g 0 (.int (nI 0))))), (Msizes, .inl (cI, 4, .inl msizes)), (Mrows, .inl (cB, 32000, .inl mrows))] := hD
    rw [in32 (by decide)] at hrb
    refine bz_eq (tgt := 33) hx hb dX9_fill_26 (by decide) (fun c_2 => ?_) (fun c_2 => ?_)
    · have hn : ¬ (¬ kd < 0 ∧ kd ≤ nI 3) := of_decide_eq_false (by rw [← hrb]; exact c_2)
      refine lv_bipush (v := -2) hx hb dX9_fill_33 (by decide) ?_
      exact hret 35 ls _ _ _ ((va_up g 0 (.int (nI 0))), mrows, msizes, RL) dX9_fill_35 hP hD hS (⟨(frm_up frm_refl (by decide)), rfl, ⟨by rw [filP, if_pos (by by_cases z : kd < 0; exact Or.inr (Or.inl z); exact Or.inr (Or.inr (Or.inl (fun w => hn ⟨z, w⟩))))], hrw⟩⟩)
    · have hkd : ¬ kd < 0 ∧ kd ≤ nI 3 := of_decide_eq_true (by rw [← hrb]; exact c_2)
      refine lv_iload_n hx hb dX9_fill_29 rfl (lv_at hl 3 rfl) ?_
      refine lv_if_ge (tgt := 36) hx hb dX9_fill_30 (by decide) (fun c_3 => ?_) (fun c_3 => ?_)
      · obtain ⟨m, hm8, hnm9⟩ := nI_of (x := n) (Int32.not_lt.mpr c_3)
        rw [hx9] at hl
        rw [hnm9] at hl
        have hfp := filP_in (sd := sd) (RL := RL) hk hkd.1 hkd.2 hm8
        rw [← hx9, ← hnm9] at hfp
        refine lv_iload_n hx hb dX9_fill_36 rfl (lv_at hl 3 rfl) ?_
        refine lv_iload_n hx hb dX9_fill_37 rfl (lv_at hl 1 rfl) ?_
        refine jn_i (wr := [(mm, .inr (9, fl 78 (va_up g 0 (.int (nI 0))))), (Msizes, .inl (cI, 4, .inl msizes)), (Mrows, .inl (cB, 32000, .inl mrows))]) hA hP hD hS [] [0, 1, 2] rfl rfl (by decide) (by decide) (rn_S (As := [.int (nI k)]) (rest := [.int (nI m)]) ⟨hx, hb, hml, hown, hts⟩ (cvS 1 hts zc_yX9_room zi_X9 zs_yX9_room kX9_142 (by decide +kernel) rfl rfl ⟨Nat.le_of_ble_eq_true rfl, Nat.le_of_ble_eq_true rfl⟩) (m_room l D cI cB cJ cR k (hk) H.size) hK hNw hMk hA hP hD hS [] rfl rfl (by decide) rfl hl.1 rfl (Nat.le_of_ble_eq_true rfl) dX9_fill_38 ⟨Nat.le_of_ble_eq_true rfl, Nat.le_of_ble_eq_true rfl⟩) (fun rm u9 H locs hrm hP hD hS => ?_)
        try dsimp only at hrm
        have hP : va_P D vwCl [(mm, .inr (9, fl 78 (va_up g 0 (.int (nI 0))))), (Msizes, .inl (cI, 4, .inl msizes)), (Mrows, .inl (cB, 32000, .inl mrows))] H := hP
        have hD : va_D A0 [(mm, .inr (9, fl 78 (va_up g 0 (.int (nI 0))))), (Msizes, .inl (cI, 4, .inl msizes)), (Mrows, .inl (cB, 32000, .inl mrows))] := hD
        subst hrm
        refine lv_aload_n hx hb dX9_fill_41 rfl (lv_at hl 0 rfl) ?_
        refine fx_get (D := D) (ci := 9) (v := .ref Msizes) (C := RX9) (T := TX9) (N := 78) hx hb hts in_X9 hown hK hP 0 rfl rfl 2 (by decide) (hts _ kX9_13) (fun _ h9 => h9) (g_sizes) dX9_fill_42 ?_
        refine lv_iload_n hx hb dX9_fill_45 rfl (lv_at hl 1 rfl) ?_
        refine ax_ild hx hb hK hP 1 0 rfl rfl k (rfl) (hk) (by omega) dX9_fill_46 ?_
        refine ri (y := nI (RL k).length) ((hrw k hk).1) ?_
        refine lv_isub hx hb dX9_fill_47 ?_
        refine ri (y := nI (rmN k - (RL k).length)) (pk_sub hkl) ?_
        refine lv_icmp_le (tgt := 54) hx hb dX9_fill_48 (by decide) (fun c_4 => ?_) (fun c_4 => ?_)
        · have hf9 : ¬ rmN k < (RL k).length + m := by have := (nI_leI (by omega) (by omega)).mp c_4; omega
          rw [if_neg hf9] at hfp
          refine lv_iload hx hb dX9_fill_54 (lv_at hl 4 rfl) ?_
          refine lv_istore (lv' := [(5, .int sd), (0, .ref mm), (1, .int (nI k)), (2, .int kd), (3, .int (nI m)), (4, .int sd)]) hx hb dX9_fill_56 hl (by decide) rfl (fun ls hl => ?_)
          refine lv_iconst (v := 0) hx hb dX9_fill_58 (by decide) ?_
          refine ri (y := nI 0) (nI_0.symm) ?_
          refine lv_istore (lv' := [(6, .int (nI 0)), (5, .int sd), (0, .ref mm), (1, .int (nI k)), (2, .int kd), (3, .int (nI m)), (4, .int sd)]) hx hb dX9_fill_59 hl (by decide) rfl (fun ls hl => ?_)
          have lx : ∀ (k9 : Nat) (g5_lx : Nat → Value) (j : Nat) (z : Int32) (Lc : List Int32) (r7 : Nat → Int32) (z7 : Nat → Int32) (H : Heap) (locs : List Loc) (ls : Array Slot), m - j < k9 → (frm [0] g g5_lx) → (g5_lx 0 = .int (nI 0)) → (j ≤ m) → (filL kd (m - j) z Lc = filL kd m sd (RL k)) → (Lc.length = (RL k).length + j) → (rwR r7 z7 (va_up RL k Lc)) → va_P D vwCl [(mm, .inr (9, fl 78 g5_lx)), (Msizes, .inl (cI, 4, .inl z7)), (Mrows, .inl (cB, 32000, .inl r7))] H → va_D A0 [(mm, .inr (9, fl 78 g5_lx)), (Msizes, .inl (cI, 4, .inl z7)), (Mrows, .inl (cB, 32000, .inl r7))] → va_S A0 s0.heap H locs → lv_has ls 10 [(0, .ref mm), (1, .int (nI k)), (2, .int kd), (3, .int (nI m)), (4, .int sd), (5, .int z), (6, .int (nI j))] → W p0 l e0 ({ frames := 1, cells := 0, slots := 0, locals := 25 }) s0 m0 ([.ref mm, .int x, .int kd, .int n, .int sd] : List Value).toArray below meth c0 H locs 0 0 Q0 (F0 m0 61 ls []) := by
            intro k9
            induction k9 with
            | zero => intro g5_lx j z Lc r7 z7 H locs ls hk9; exact absurd hk9 (Nat.not_lt_zero _)
            | succ k9 ih =>
              intro g5_lx j z Lc r7 z7 H locs ls hk9 hf_lx k_code_lx hjm hLc hlc hr7 hP hD hS hl
              refine lv_iload hx hb dX9_fill_61 (lv_at hl 6 rfl) ?_
              refine lv_iload_n hx hb dX9_fill_63 rfl (lv_at hl 3 rfl) ?_
              refine lv_icmp_ge (tgt := 213) hx hb dX9_fill_64 (by decide) (fun c_5 => ?_) (fun c_5 => ?_)
              · have hj0 : m - j = 0 := by have := (nI_leI (by omega) (by omega)).mp c_5; omega
                rw [hj0, filL] at hLc
                subst hLc
                refine lv_aload_n hx hb dX9_fill_213 rfl (lv_at hl 0 rfl) ?_
                refine fx_get (D := D) (ci := 9) (v := .ref Msizes) (C := RX9) (T := TX9) (N := 78) hx hb hts in_X9 hown hK hP 0 rfl rfl 2 (by decide) (hts _ kX9_13) (fun _ h9 => h9) ((hf_lx 2 (by decide)).trans g_sizes) dX9_fill_214 ?_
                refine lv_iload_n hx hb dX9_fill_217 rfl (lv_at hl 1 rfl) ?_
                refine ax_ild hx hb hK hP 1 0 rfl rfl k (rfl) (hk) (by omega) dX9_fill_218 ?_
                refine ri (y := nI ((RL k).length + m)) (by rw [rwR_sz hr7 hk, filL_len]) ?_
                exact hret 219 ls _ _ _ (g5_lx, r7, z7, va_up RL k (filL kd m sd (RL k))) dX9_fill_219 hP hD hS (⟨hf_lx, k_code_lx, ⟨hfp, hr7⟩⟩)
              · have hjm9 : j < m := Nat.not_le.mp (fun q => c_5 (nI_le q (by omega)))
                rw [show m - j = m - (j + 1) + 1 by omega, filL] at hLc
                have hsz := rwR_sz hr7 hk
                have hrd : ∀ i, i < Lc.length → r7 (8000 * k + i) = (Lc.getD i 0).toInt8.toInt32 := fun i hi => by have h9 := (hr7 k hk).2.2; rw [va_up_self] at h9; exact h9 i hi
                refine lv_iload hx hb dX9_fill_67 (lv_at hl 5 rfl) ?_
                refine lv_ldc hx hb hown (hts _ kX9_146) dX9_fill_69 ?_
                refine lv_imul hx hb dX9_fill_71 ?_
                refine lv_ldc hx hb hown (hts _ kX9_147) dX9_fill_72 ?_
                refine lv_iadd hx hb dX9_fill_74 ?_
                refine ri (y := lcg z) (rfl) ?_
                refine lv_istore (lv' := [(5, .int (lcg z)), (0, .ref mm), (1, .int (nI k)), (2, .int kd), (3, .int (nI m)), (4, .int sd), (6, .int (nI j))]) hx hb dX9_fill_75 hl (by decide) rfl (fun ls hl => ?_)
                refine lv_iload hx hb dX9_fill_77 (lv_at hl 0 rfl) ?_
                refine lv_bipush (v := 24) hx hb dX9_fill_79 (by decide) ?_
                refine lv_iushr hx hb dX9_fill_81 (v := ((lcg z).toUInt32 >>> ((24 : Int32).toUInt32 &&& Int32.toUInt32 31)).toInt32) rfl ?_
                refine ri (y := top8 (lcg z)) (rfl) ?_
                refine lv_istore (lv' := [(7, .int (top8 (lcg z))), (5, .int (lcg z)), (0, .ref mm), (1, .int (nI k)), (2, .int kd), (3, .int (nI m)), (4, .int sd), (6, .int (nI j))]) hx hb dX9_fill_82 hl (by decide) rfl (fun ls hl => ?_)
                refine lv_sipush (v := 8000) hx hb dX9_fill_84 (by decide) ?_
                refine lv_iload_n hx hb dX9_fill_87 rfl (lv_at hl 3 rfl) ?_
                refine lv_imul hx hb dX9_fill_88 ?_
                refine ri (y := nI (8000 * k)) (m8k k hk) ?_
                refine lv_aload_n hx hb dX9_fill_89 rfl (lv_at hl 2 rfl) ?_
                refine fx_get (D := D) (ci := 9) (v := .ref Msizes) (C := RX9) (T := TX9) (N := 78) hx hb hts in_X9 hown hK hP 0 rfl rfl 2 (by decide) (hts _ kX9_13) (fun _ h9 => h9) ((hf_lx 2 (by decide)).trans g_sizes) dX9_fill_90 ?_
                refine lv_iload_n hx hb dX9_fill_93 rfl (lv_at hl 3 rfl) ?_
                refine ax_ild hx hb hK hP 1 0 rfl rfl k (rfl) (hk) (by omega) dX9_fill_94 ?_
                refine ri (y := nI Lc.length) (hsz) ?_
                refine lv_iadd hx hb dX9_fill_95 ?_
                refine ri (y := nI ((8000 * k) + Lc.length)) (nI_add (8000 * k) Lc.length) ?_
                refine lv_istore (lv' := [(8, .int (nI ((8000 * k) + Lc.length))), (7, .int (top8 (lcg z))), (5, .int (lcg z)), (0, .ref mm), (1, .int (nI k)), (2, .int kd), (3, .int (nI m)), (4, .int sd), (6, .int (nI j))]) hx hb dX9_fill_96 hl (by decide) rfl (fun ls hl => ?_)
                have JS : ∀ (gj_JS : Nat → Value) (vv : Int32) (H : Heap) (locs : List Loc) (ls : Array Slot), (frm [0] g gj_JS) → (gj_JS 0 = .int (nI 0)) → (vv.toInt8.toInt32 = (rulP Lc kd (top8 (lcg z))).toInt8.toInt32) → va_P D vwCl [(mm, .inr (9, fl 78 gj_JS)), (Msizes, .inl (cI, 4, .inl z7)), (Mrows, .inl (cB, 32000, .inl r7))] H → va_D A0 [(mm, .inr (9, fl 78 gj_JS)), (Msizes, .inl (cI, 4, .inl z7)), (Mrows, .inl (cB, 32000, .inl r7))] → va_S A0 s0.heap H locs → lv_has ls 10 [(0, .ref mm), (1, .int (nI k)), (2, .int kd), (3, .int (nI m)), (4, .int sd), (5, .int (lcg z)), (6, .int (nI j)), (7, .int (top8 (lcg z))), (8, .int (nI (8000 * k + Lc.length))), (9, .int vv)] → W p0 l e0 ({ frames := 1, cells := 0, slots := 0, locals := 25 }) s0 m0 ([.ref mm, .int x, .int kd, .int n, .int sd] : List Value).toArray below meth c0 H locs 0 0 Q0 (F0 m0 187 ls []) := by
                  intro gj_JS vv H locs ls hf_JS k_code_JS hvv hP hD hS hl
                  refine lv_aload_n hx hb dX9_fill_187 rfl (lv_at hl 0 rfl) ?_
                  refine fx_get (D := D) (ci := 9) (v := .ref Mrows) (C := RX9) (T := TX9) (N := 78) hx hb hts in_X9 hown hK hP 0 rfl rfl 1 (by decide) (hts _ kX9_7) (fun _ h9 => h9) ((hf_JS 1 (by decide)).trans g_rows) dX9_fill_188 ?_
                  refine lv_iload hx hb dX9_fill_191 (lv_at hl 8 rfl) ?_
                  refine lv_iload hx hb dX9_fill_193 (lv_at hl 9 rfl) ?_
                  refine lv_i2b hx hb dX9_fill_195 (v := vv.toInt8.toInt32) rfl ?_
                  refine ax_bst hx hb hK hP hD hS 2 1 rfl rfl (8000 * k + Lc.length) (rfl) (by omega) (by omega) (z := (rulP Lc kd (top8 (lcg z))).toInt8.toInt32) (b8.trans hvv) dX9_fill_196 (fun H locs hP hD hS => ?_)
                  have hP : va_P D vwCl [(mm, .inr (9, fl 78 gj_JS)), (Msizes, .inl (cI, 4, .inl z7)), (Mrows, .inl (cB, 32000, .inl (upd r7 (8000 * k + Lc.length) ((rulP Lc kd (top8 (lcg z))).toInt8.toInt32))))] H := hP
                  have hD : va_D A0 [(mm, .inr (9, fl 78 gj_JS)), (Msizes, .inl (cI, 4, .inl z7)), (Mrows, .inl (cB, 32000, .inl (upd r7 (8000 * k + Lc.length) ((rulP Lc kd (top8 (lcg z))).toInt8.toInt32))))] := hD
                  refine lv_aload_n hx hb dX9_fill_197 rfl (lv_at hl 0 rfl) ?_
                  refine fx_get (D := D) (ci := 9) (v := .ref Msizes) (C := RX9) (T := TX9) (N := 78) hx hb hts in_X9 hown hK hP 0 rfl rfl 2 (by decide) (hts _ kX9_13) (fun _ h9 => h9) ((hf_JS 2 (by decide)).trans g_sizes) dX9_fill_198 ?_
                  refine lv_iload_n hx hb dX9_fill_201 rfl (lv_at hl 1 rfl) ?_
                  refine lv_dup2_11 hx hb dX9_fill_202 rfl rfl ?_
                  refine ax_ild hx hb hK hP 1 0 rfl rfl k (rfl) (hk) (by omega) dX9_fill_203 ?_
                  refine ri (y := nI Lc.length) (hsz) ?_
                  refine lv_iconst (v := 1) hx hb dX9_fill_204 (by decide) ?_
                  refine lv_iadd hx hb dX9_fill_205 ?_
                  refine ri (y := nI (Lc.length + 1)) (nI_add Lc.length 1) ?_
                  refine ri (y := nI (Lc.length + 1)) (rfl) ?_
                  refine ax_ist hx hb hK hP hD hS 1 0 rfl rfl k (rfl) (hk) (by omega) dX9_fill_206 (fun H locs hP hD hS => ?_)
                  have hP : va_P D vwCl [(mm, .inr (9, fl 78 gj_JS)), (Msizes, .inl (cI, 4, .inl (upd z7 k (nI (Lc.length + 1))))), (Mrows, .inl (cB, 32000, .inl (upd r7 (8000 * k + Lc.length) ((rulP Lc kd (top8 (lcg z))).toInt8.toInt32))))] H := hP
                  have hD : va_D A0 [(mm, .inr (9, fl 78 gj_JS)), (Msizes, .inl (cI, 4, .inl (upd z7 k (nI (Lc.length + 1))))), (Mrows, .inl (cB, 32000, .inl (upd r7 (8000 * k + Lc.length) ((rulP Lc kd (top8 (lcg z))).toInt8.toInt32))))] := hD
                  refine lv_iinc (v := nI (j + 1)) (lv' := [(6, .int (nI (j + 1))), (0, .ref mm), (1, .int (nI k)), (2, .int kd), (3, .int (nI m)), (4, .int sd), (5, .int (lcg z)), (7, .int (top8 (lcg z))), (8, .int (nI (8000 * k + Lc.length))), (9, .int vv)]) hx hb dX9_fill_207 hl (k := 6) rfl (nI_add j 1) (by decide) rfl (fun ls hl => ?_)
                  refine lv_goto (tgt := 61) hx hb dX9_fill_210 (by decide) ?_
                  exact ih gj_JS (j + 1) (lcg z) (Lc ++ [rulP Lc kd (top8 (lcg z))]) (upd r7 (8000 * k + Lc.length) (rulP Lc kd (top8 (lcg z))).toInt8.toInt32) (upd z7 k (nI (Lc.length + 1))) _ _ ls (by omega) (hf_JS) (k_code_JS) (by omega) (hLc) (by rw [← len1]; omega) (rwR_put hr7 hk (by omega) rfl) hP hD hS (lv_sub hl [1, 2, 3, 4, 5, 6, 0] rfl)
                refine lv_iload_n hx hb dX9_fill_98 rfl (lv_at hl 5 rfl) ?_
                refine lv_iconst (v := 1) hx hb dX9_fill_99 (by decide) ?_
                refine lv_icmp_ne (tgt := 113) hx hb dX9_fill_100 (by decide) (fun c_6 => ?_) (fun c_6 => ?_)
                · refine lv_iload hx hb dX9_fill_113 (lv_at hl 1 rfl) ?_
                  refine lv_istore (lv' := [(9, .int (top8 (lcg z))), (8, .int (nI ((8000 * k) + Lc.length))), (7, .int (top8 (lcg z))), (5, .int (lcg z)), (0, .ref mm), (1, .int (nI k)), (2, .int kd), (3, .int (nI m)), (4, .int sd), (6, .int (nI j))]) hx hb dX9_fill_115 hl (by decide) rfl (fun ls hl => ?_)
                  refine lv_iload_n hx hb dX9_fill_117 rfl (lv_at hl 6 rfl) ?_
                  refine lv_iconst (v := 2) hx hb dX9_fill_118 (by decide) ?_
                  refine lv_icmp_ne (tgt := 153) hx hb dX9_fill_119 (by decide) (fun c_7 => ?_) (fun c_7 => ?_)
                  · refine lv_iload_n hx hb dX9_fill_153 rfl (lv_at hl 6 rfl) ?_
                    refine lv_iconst (v := 3) hx hb dX9_fill_154 (by decide) ?_
                    refine lv_icmp_ne (tgt := 187) hx hb dX9_fill_155 (by decide) (fun c_8 => ?_) (fun c_8 => ?_)
                    · exact JS g5_lx (top8 (lcg z)) _ _ ls (hf_lx) (k_code_lx) (by rw [rulP, if_neg c_6, if_neg (fun y => c_7 y.1), if_neg (fun y => c_8 y.1)]) hP hD hS (lv_sub hl [4, 5, 6, 7, 8, 3, 9, 2, 1, 0] rfl)
                    · refine lv_aload_n hx hb dX9_fill_158 rfl (lv_at hl 4 rfl) ?_
                      refine fx_get (D := D) (ci := 9) (v := .ref Msizes) (C := RX9) (T := TX9) (N := 78) hx hb hts in_X9 hown hK hP 0 rfl rfl 2 (by decide) (hts _ kX9_13) (fun _ h9 => h9) ((hf_lx 2 (by decide)).trans g_sizes) dX9_fill_159 ?_
                      refine lv_iload_n hx hb dX9_fill_162 rfl (lv_at hl 5 rfl) ?_
                      refine ax_ild hx hb hK hP 1 0 rfl rfl k (rfl) (hk) (by omega) dX9_fill_163 ?_
                      refine ri (y := nI Lc.length) (hsz) ?_
                      refine lv_iconst (v := 1) hx hb dX9_fill_164 (by decide) ?_
                      refine lv_icmp_lt (tgt := 187) hx hb dX9_fill_165 (by decide) (fun c_9 => ?_) (fun c_9 => ?_)
                      · exact JS g5_lx (top8 (lcg z)) _ _ ls (hf_lx) (k_code_lx) (by rw [rulP, if_neg c_6, if_neg (fun y => c_7 y.1), if_neg (fun y => absurd y.2.1 (Nat.not_le.mpr ((nI_ltI (b := 1) (by omega) (by decide)).mp c_9)))]) hP hD hS (lv_sub hl [4, 5, 6, 7, 8, 3, 9, 2, 1, 0] rfl)
                      · have hn1 : 1 ≤ Lc.length := Nat.not_lt.mp (fun y => c_9 (nI_lt (b := 1) y (by decide)))
                        refine lv_iload hx hb dX9_fill_168 (lv_at hl 2 rfl) ?_
                        refine lv_sipush (v := 230) hx hb dX9_fill_170 (by decide) ?_
                        refine lv_icmp_ge (tgt := 187) hx hb dX9_fill_173 (by decide) (fun c_10 => ?_) (fun c_10 => ?_)
                        · exact JS g5_lx (top8 (lcg z)) _ _ ls (hf_lx) (k_code_lx) (by rw [rulP, if_neg c_6, if_neg (fun y => c_7 y.1), if_neg (fun y => absurd y.2.2 (Int32.not_lt.mpr c_10))]) hP hD hS (lv_sub hl [4, 5, 6, 7, 8, 3, 9, 2, 1, 0] rfl)
                        · refine lv_aload_n hx hb dX9_fill_176 rfl (lv_at hl 4 rfl) ?_
                          refine fx_get (D := D) (ci := 9) (v := .ref Mrows) (C := RX9) (T := TX9) (N := 78) hx hb hts in_X9 hown hK hP 0 rfl rfl 1 (by decide) (hts _ kX9_7) (fun _ h9 => h9) ((hf_lx 1 (by decide)).trans g_rows) dX9_fill_177 ?_
                          refine lv_iload hx hb dX9_fill_180 (lv_at hl 1 rfl) ?_
                          refine lv_iconst (v := 1) hx hb dX9_fill_182 (by decide) ?_
                          refine lv_isub hx hb dX9_fill_183 ?_
                          refine ri (y := nI (8000 * k + (Lc.length - 1))) ((pk_sub (b := 1) (by omega)).trans (by rw [show 8000 * k + Lc.length - 1 = 8000 * k + (Lc.length - 1) by omega])) ?_
                          refine ax_bld hx hb hK hP 2 1 rfl rfl (8000 * k + (Lc.length - 1)) (rfl) (by omega) (by omega) dX9_fill_184 ?_
                          refine ri (y := (Lc.getD (Lc.length - 1) 0).toInt8.toInt32) (hrd _ (by omega)) ?_
                          refine lv_istore (lv' := [(9, .int ((Lc.getD (Lc.length - 1) 0).toInt8.toInt32)), (8, .int (nI ((8000 * k) + Lc.length))), (7, .int (top8 (lcg z))), (5, .int (lcg z)), (0, .ref mm), (1, .int (nI k)), (2, .int kd), (3, .int (nI m)), (4, .int sd), (6, .int (nI j))]) hx hb dX9_fill_185 hl (by decide) rfl (fun ls hl => ?_)
                          exact JS g5_lx ((Lc.getD (Lc.length - 1) 0).toInt8.toInt32) _ _ ls (hf_lx) (k_code_lx) (by rw [rulP, if_neg c_6, if_neg (fun y => c_7 y.1), if_pos ⟨c_8, by omega, Int32.not_le.mp c_10⟩]; exact b8) hP hD hS (lv_sub hl [4, 5, 6, 7, 8, 3, 9, 2, 1, 0] rfl)
                  · refine lv_aload_n hx hb dX9_fill_122 rfl (lv_at hl 4 rfl) ?_
                    refine fx_get (D := D) (ci := 9) (v := .ref Msizes) (C := RX9) (T := TX9) (N := 78) hx hb hts in_X9 hown hK hP 0 rfl rfl 2 (by decide) (hts _ kX9_13) (fun _ h9 => h9) ((hf_lx 2 (by decide)).trans g_sizes) dX9_fill_123 ?_
                    refine lv_iload_n hx hb dX9_fill_126 rfl (lv_at hl 5 rfl) ?_
                    refine ax_ild hx hb hK hP 1 0 rfl rfl k (rfl) (hk) (by omega) dX9_fill_127 ?_
                    refine ri (y := nI Lc.length) (hsz) ?_
                    refine lv_bipush (v := 17) hx hb dX9_fill_128 (by decide) ?_
                    refine lv_icmp_lt (tgt := 153) hx hb dX9_fill_130 (by decide) (fun c_11 => ?_) (fun c_11 => ?_)
                    · refine lv_iload_n hx hb dX9_fill_153 rfl (lv_at hl 6 rfl) ?_
                      refine lv_iconst (v := 3) hx hb dX9_fill_154 (by decide) ?_
                      refine lv_icmp_ne (tgt := 187) hx hb dX9_fill_155 (by decide) (fun c_12 => ?_) (fun c_12 => ?_)
                      · exact JS g5_lx (top8 (lcg z)) _ _ ls (hf_lx) (k_code_lx) (by rw [rulP, if_neg c_6, if_neg (fun y => absurd y.2.1 (Nat.not_le.mpr ((nI_ltI (b := 17) (by omega) (by decide)).mp c_11))), if_neg (fun y => c_12 y.1)]) hP hD hS (lv_sub hl [4, 5, 6, 7, 8, 3, 9, 2, 1, 0] rfl)
                      · refine lv_aload_n hx hb dX9_fill_158 rfl (lv_at hl 4 rfl) ?_
                        refine fx_get (D := D) (ci := 9) (v := .ref Msizes) (C := RX9) (T := TX9) (N := 78) hx hb hts in_X9 hown hK hP 0 rfl rfl 2 (by decide) (hts _ kX9_13) (fun _ h9 => h9) ((hf_lx 2 (by decide)).trans g_sizes) dX9_fill_159 ?_
                        refine lv_iload_n hx hb dX9_fill_162 rfl (lv_at hl 5 rfl) ?_
                        refine ax_ild hx hb hK hP 1 0 rfl rfl k (rfl) (hk) (by omega) dX9_fill_163 ?_
                        refine ri (y := nI Lc.length) (hsz) ?_
                        refine lv_iconst (v := 1) hx hb dX9_fill_164 (by decide) ?_
                        refine lv_icmp_lt (tgt := 187) hx hb dX9_fill_165 (by decide) (fun c_13 => ?_) (fun c_13 => ?_)
                        · exact JS g5_lx (top8 (lcg z)) _ _ ls (hf_lx) (k_code_lx) (by rw [rulP, if_neg c_6, if_neg (fun y => absurd y.2.1 (Nat.not_le.mpr ((nI_ltI (b := 17) (by omega) (by decide)).mp c_11))), if_neg (fun y => absurd y.2.1 (Nat.not_le.mpr ((nI_ltI (b := 1) (by omega) (by decide)).mp c_13)))]) hP hD hS (lv_sub hl [4, 5, 6, 7, 8, 3, 9, 2, 1, 0] rfl)
                        · have hn1 : 1 ≤ Lc.length := Nat.not_lt.mp (fun y => c_13 (nI_lt (b := 1) y (by decide)))
                          refine lv_iload hx hb dX9_fill_168 (lv_at hl 2 rfl) ?_
                          refine lv_sipush (v := 230) hx hb dX9_fill_170 (by decide) ?_
                          refine lv_icmp_ge (tgt := 187) hx hb dX9_fill_173 (by decide) (fun c_14 => ?_) (fun c_14 => ?_)
                          · exact JS g5_lx (top8 (lcg z)) _ _ ls (hf_lx) (k_code_lx) (by rw [rulP, if_neg c_6, if_neg (fun y => absurd y.2.1 (Nat.not_le.mpr ((nI_ltI (b := 17) (by omega) (by decide)).mp c_11))), if_neg (fun y => absurd y.2.2 (Int32.not_lt.mpr c_14))]) hP hD hS (lv_sub hl [4, 5, 6, 7, 8, 3, 9, 2, 1, 0] rfl)
                          · refine lv_aload_n hx hb dX9_fill_176 rfl (lv_at hl 4 rfl) ?_
                            refine fx_get (D := D) (ci := 9) (v := .ref Mrows) (C := RX9) (T := TX9) (N := 78) hx hb hts in_X9 hown hK hP 0 rfl rfl 1 (by decide) (hts _ kX9_7) (fun _ h9 => h9) ((hf_lx 1 (by decide)).trans g_rows) dX9_fill_177 ?_
                            refine lv_iload hx hb dX9_fill_180 (lv_at hl 1 rfl) ?_
                            refine lv_iconst (v := 1) hx hb dX9_fill_182 (by decide) ?_
                            refine lv_isub hx hb dX9_fill_183 ?_
                            refine ri (y := nI (8000 * k + (Lc.length - 1))) ((pk_sub (b := 1) (by omega)).trans (by rw [show 8000 * k + Lc.length - 1 = 8000 * k + (Lc.length - 1) by omega])) ?_
                            refine ax_bld hx hb hK hP 2 1 rfl rfl (8000 * k + (Lc.length - 1)) (rfl) (by omega) (by omega) dX9_fill_184 ?_
                            refine ri (y := (Lc.getD (Lc.length - 1) 0).toInt8.toInt32) (hrd _ (by omega)) ?_
                            refine lv_istore (lv' := [(9, .int ((Lc.getD (Lc.length - 1) 0).toInt8.toInt32)), (8, .int (nI ((8000 * k) + Lc.length))), (7, .int (top8 (lcg z))), (5, .int (lcg z)), (0, .ref mm), (1, .int (nI k)), (2, .int kd), (3, .int (nI m)), (4, .int sd), (6, .int (nI j))]) hx hb dX9_fill_185 hl (by decide) rfl (fun ls hl => ?_)
                            exact JS g5_lx ((Lc.getD (Lc.length - 1) 0).toInt8.toInt32) _ _ ls (hf_lx) (k_code_lx) (by rw [rulP, if_neg c_6, if_neg (fun y => absurd y.2.1 (Nat.not_le.mpr ((nI_ltI (b := 17) (by omega) (by decide)).mp c_11))), if_pos ⟨c_12, by omega, Int32.not_le.mp c_14⟩]; exact b8) hP hD hS (lv_sub hl [4, 5, 6, 7, 8, 3, 9, 2, 1, 0] rfl)
                    · have hn1 : 17 ≤ Lc.length := Nat.not_lt.mp (fun y => c_11 (nI_lt (b := 17) y (by decide)))
                      refine lv_iload hx hb dX9_fill_133 (lv_at hl 2 rfl) ?_
                      refine lv_sipush (v := 240) hx hb dX9_fill_135 (by decide) ?_
                      refine lv_icmp_ge (tgt := 153) hx hb dX9_fill_138 (by decide) (fun c_15 => ?_) (fun c_15 => ?_)
                      · refine lv_iload_n hx hb dX9_fill_153 rfl (lv_at hl 6 rfl) ?_
                        refine lv_iconst (v := 3) hx hb dX9_fill_154 (by decide) ?_
                        refine lv_icmp_ne (tgt := 187) hx hb dX9_fill_155 (by decide) (fun c_16 => ?_) (fun c_16 => ?_)
                        · exact JS g5_lx (top8 (lcg z)) _ _ ls (hf_lx) (k_code_lx) (by rw [rulP, if_neg c_6, if_neg (fun y => absurd y.2.2 (Int32.not_lt.mpr c_15)), if_neg (fun y => c_16 y.1)]) hP hD hS (lv_sub hl [4, 5, 6, 7, 8, 3, 9, 2, 1, 0] rfl)
                        · refine lv_aload_n hx hb dX9_fill_158 rfl (lv_at hl 4 rfl) ?_
                          refine fx_get (D := D) (ci := 9) (v := .ref Msizes) (C := RX9) (T := TX9) (N := 78) hx hb hts in_X9 hown hK hP 0 rfl rfl 2 (by decide) (hts _ kX9_13) (fun _ h9 => h9) ((hf_lx 2 (by decide)).trans g_sizes) dX9_fill_159 ?_
                          refine lv_iload_n hx hb dX9_fill_162 rfl (lv_at hl 5 rfl) ?_
                          refine ax_ild hx hb hK hP 1 0 rfl rfl k (rfl) (hk) (by omega) dX9_fill_163 ?_
                          refine ri (y := nI Lc.length) (hsz) ?_
                          refine lv_iconst (v := 1) hx hb dX9_fill_164 (by decide) ?_
                          refine lv_icmp_lt (tgt := 187) hx hb dX9_fill_165 (by decide) (fun c_17 => ?_) (fun c_17 => ?_)
                          · exact JS g5_lx (top8 (lcg z)) _ _ ls (hf_lx) (k_code_lx) (by rw [rulP, if_neg c_6, if_neg (fun y => absurd y.2.2 (Int32.not_lt.mpr c_15)), if_neg (fun y => absurd y.2.1 (Nat.not_le.mpr ((nI_ltI (b := 1) (by omega) (by decide)).mp c_17)))]) hP hD hS (lv_sub hl [4, 5, 6, 7, 8, 3, 9, 2, 1, 0] rfl)
                          · have hn1 : 1 ≤ Lc.length := Nat.not_lt.mp (fun y => c_17 (nI_lt (b := 1) y (by decide)))
                            refine lv_iload hx hb dX9_fill_168 (lv_at hl 2 rfl) ?_
                            refine lv_sipush (v := 230) hx hb dX9_fill_170 (by decide) ?_
                            refine lv_icmp_ge (tgt := 187) hx hb dX9_fill_173 (by decide) (fun c_18 => ?_) (fun c_18 => ?_)
                            · exact JS g5_lx (top8 (lcg z)) _ _ ls (hf_lx) (k_code_lx) (by rw [rulP, if_neg c_6, if_neg (fun y => absurd y.2.2 (Int32.not_lt.mpr c_15)), if_neg (fun y => absurd y.2.2 (Int32.not_lt.mpr c_18))]) hP hD hS (lv_sub hl [4, 5, 6, 7, 8, 3, 9, 2, 1, 0] rfl)
                            · refine lv_aload_n hx hb dX9_fill_176 rfl (lv_at hl 4 rfl) ?_
                              refine fx_get (D := D) (ci := 9) (v := .ref Mrows) (C := RX9) (T := TX9) (N := 78) hx hb hts in_X9 hown hK hP 0 rfl rfl 1 (by decide) (hts _ kX9_7) (fun _ h9 => h9) ((hf_lx 1 (by decide)).trans g_rows) dX9_fill_177 ?_
                              refine lv_iload hx hb dX9_fill_180 (lv_at hl 1 rfl) ?_
                              refine lv_iconst (v := 1) hx hb dX9_fill_182 (by decide) ?_
                              refine lv_isub hx hb dX9_fill_183 ?_
                              refine ri (y := nI (8000 * k + (Lc.length - 1))) ((pk_sub (b := 1) (by omega)).trans (by rw [show 8000 * k + Lc.length - 1 = 8000 * k + (Lc.length - 1) by omega])) ?_
                              refine ax_bld hx hb hK hP 2 1 rfl rfl (8000 * k + (Lc.length - 1)) (rfl) (by omega) (by omega) dX9_fill_184 ?_
                              refine ri (y := (Lc.getD (Lc.length - 1) 0).toInt8.toInt32) (hrd _ (by omega)) ?_
                              refine lv_istore (lv' := [(9, .int ((Lc.getD (Lc.length - 1) 0).toInt8.toInt32)), (8, .int (nI ((8000 * k) + Lc.length))), (7, .int (top8 (lcg z))), (5, .int (lcg z)), (0, .ref mm), (1, .int (nI k)), (2, .int kd), (3, .int (nI m)), (4, .int sd), (6, .int (nI j))]) hx hb dX9_fill_185 hl (by decide) rfl (fun ls hl => ?_)
                              exact JS g5_lx ((Lc.getD (Lc.length - 1) 0).toInt8.toInt32) _ _ ls (hf_lx) (k_code_lx) (by rw [rulP, if_neg c_6, if_neg (fun y => absurd y.2.2 (Int32.not_lt.mpr c_15)), if_pos ⟨c_16, by omega, Int32.not_le.mp c_18⟩]; exact b8) hP hD hS (lv_sub hl [4, 5, 6, 7, 8, 3, 9, 2, 1, 0] rfl)
                      · refine lv_aload_n hx hb dX9_fill_141 rfl (lv_at hl 4 rfl) ?_
                        refine fx_get (D := D) (ci := 9) (v := .ref Mrows) (C := RX9) (T := TX9) (N := 78) hx hb hts in_X9 hown hK hP 0 rfl rfl 1 (by decide) (hts _ kX9_7) (fun _ h9 => h9) ((hf_lx 1 (by decide)).trans g_rows) dX9_fill_142 ?_
                        refine lv_iload hx hb dX9_fill_145 (lv_at hl 1 rfl) ?_
                        refine lv_bipush (v := 17) hx hb dX9_fill_147 (by decide) ?_
                        refine lv_isub hx hb dX9_fill_149 ?_
                        refine ri (y := nI (8000 * k + (Lc.length - 17))) ((pk_sub (b := 17) (by omega)).trans (by rw [show 8000 * k + Lc.length - 17 = 8000 * k + (Lc.length - 17) by omega])) ?_
                        refine ax_bld hx hb hK hP 2 1 rfl rfl (8000 * k + (Lc.length - 17)) (rfl) (by omega) (by omega) dX9_fill_150 ?_
                        refine ri (y := (Lc.getD (Lc.length - 17) 0).toInt8.toInt32) (hrd _ (by omega)) ?_
                        refine lv_istore (lv' := [(9, .int ((Lc.getD (Lc.length - 17) 0).toInt8.toInt32)), (8, .int (nI ((8000 * k) + Lc.length))), (7, .int (top8 (lcg z))), (5, .int (lcg z)), (0, .ref mm), (1, .int (nI k)), (2, .int kd), (3, .int (nI m)), (4, .int sd), (6, .int (nI j))]) hx hb dX9_fill_151 hl (by decide) rfl (fun ls hl => ?_)
                        refine lv_iload_n hx hb dX9_fill_153 rfl (lv_at hl 6 rfl) ?_
                        refine lv_iconst (v := 3) hx hb dX9_fill_154 (by decide) ?_
                        refine lv_icmp_ne (tgt := 187) hx hb dX9_fill_155 (by decide) (fun c_19 => ?_) (fun c_19 => absurd c_19 (by rw [c_7]; decide))
                        exact JS g5_lx ((Lc.getD (Lc.length - 17) 0).toInt8.toInt32) _ _ ls (hf_lx) (k_code_lx) (by rw [rulP, if_neg c_6, if_pos ⟨c_7, by omega, Int32.not_le.mp c_15⟩]; exact b8) hP hD hS (lv_sub hl [4, 5, 6, 7, 8, 3, 9, 2, 1, 0] rfl)
                · refine lv_bipush (v := 97) hx hb dX9_fill_103 (by decide) ?_
                  refine lv_iload hx hb dX9_fill_105 (lv_at hl 1 rfl) ?_
                  refine lv_iconst (v := 4) hx hb dX9_fill_107 (by decide) ?_
                  refine lv_irem hx hb dX9_fill_108 (by decide) ?_
                  refine lv_iadd hx hb dX9_fill_109 ?_
                  refine lv_goto (tgt := 115) hx hb dX9_fill_110 (by decide) ?_
                  refine lv_istore (lv' := [(9, .int (97 + ((top8 (lcg z)) - (top8 (lcg z)) / 4 * 4))), (8, .int (nI ((8000 * k) + Lc.length))), (7, .int (top8 (lcg z))), (5, .int (lcg z)), (0, .ref mm), (1, .int (nI k)), (2, .int kd), (3, .int (nI m)), (4, .int sd), (6, .int (nI j))]) hx hb dX9_fill_115 hl (by decide) rfl (fun ls hl => ?_)
                  refine lv_iload_n hx hb dX9_fill_117 rfl (lv_at hl 6 rfl) ?_
                  refine lv_iconst (v := 2) hx hb dX9_fill_118 (by decide) ?_
                  refine lv_icmp_ne (tgt := 153) hx hb dX9_fill_119 (by decide) (fun c_20 => ?_) (fun c_20 => absurd c_20 (by rw [c_6]; decide))
                  refine lv_iload_n hx hb dX9_fill_153 rfl (lv_at hl 6 rfl) ?_
                  refine lv_iconst (v := 3) hx hb dX9_fill_154 (by decide) ?_
                  refine lv_icmp_ne (tgt := 187) hx hb dX9_fill_155 (by decide) (fun c_21 => ?_) (fun c_21 => absurd c_21 (by rw [c_6]; decide))
                  exact JS g5_lx (97 + ((top8 (lcg z)) - (top8 (lcg z)) / 4 * 4)) _ _ ls (hf_lx) (k_code_lx) (by rw [rulP, if_pos c_6]) hP hD hS (lv_sub hl [4, 5, 6, 7, 8, 3, 9, 2, 1, 0] rfl)
          exact lx _ (va_up g 0 (.int (nI 0))) 0 sd (RL k) mrows msizes _ _ ls (Nat.lt_succ_self _) ((frm_up frm_refl (by decide))) (rfl) (Nat.zero_le _) (rfl) (rfl) (va_up_id hrw) hP hD hS (lv_sub hl [2, 3, 4, 5, 6, 1, 0] rfl)
        · have hf9 : rmN k < (RL k).length + m := by have := Nat.not_le.mp (fun q => c_4 (nI_le q (by omega))); omega
          rw [if_pos hf9] at hfp
          refine lv_bipush (v := -4) hx hb dX9_fill_51 (by decide) ?_
          exact hret 53 ls _ _ _ ((va_up g 0 (.int (nI 0))), mrows, msizes, RL) dX9_fill_53 hP hD hS (⟨(frm_up frm_refl (by decide)), rfl, ⟨hfp, hrw⟩⟩)
      · refine lv_bipush (v := -2) hx hb dX9_fill_33 (by decide) ?_
        exact hret 35 ls _ _ _ ((va_up g 0 (.int (nI 0))), mrows, msizes, RL) dX9_fill_35 hP hD hS (⟨(frm_up frm_refl (by decide)), rfl, ⟨by rw [filP, if_pos (Or.inr (Or.inr (Or.inr (Int32.not_le.mp c_3))))], hrw⟩⟩)

set_option maxHeartbeats 4000000 in
set_option maxRecDepth 100000 in
theorem m_copy (l : Launch) (D : va_G) (cI cB cJ cR : ClassId) (mm : Nat) (g : Nat → Value) (Msizes : Nat) (Mrows : Nat) (msizes : Nat → Int32) (mrows : Nat → Int32) (x : Int32) (a : Int32) (n : Int32) (y : Int32) (RL : Nat → List Int32) (g_sizes : g 2 = .ref Msizes) (g_rows : g 1 = .ref Mrows) (hrw : rwR mrows msizes RL) : CMi l yX9_copy cX9_copy 6 (some .int) ({ frames := 1, cells := 0, slots := 0, locals := 25 }) D (tyA cI cB cJ cR) 0 0 [.ref mm, .int x, .int a, .int n, .int y] [(mm, .inr (9, fl 78 g)), (Msizes, .inl (cI, 4, .inl msizes)), (Mrows, .inl (cB, 32000, .inl mrows))] (fun (r : Int32) (u9 : (Nat → Value) × (Nat → Int32) × (Nat → Int32) × (Nat → List Int32)) => match u9 with | (g9, q2, z2, RL9) => frm [0] g g9 ∧ g9 0 = .int (nI 0) ∧ cpyP x a n y RL = (r, RL9) ∧ rwR q2 z2 RL9) (fun (u9 : (Nat → Value) × (Nat → Int32) × (Nat → Int32) × (Nat → List Int32)) => match u9 with | (g9, q2, z2, RL9) => [(mm, .inr (9, fl 78 g9)), (Msizes, .inl (cI, 4, .inl z2)), (Mrows, .inl (cB, 32000, .inl q2))]) := by
  refine st_i (cc := cX9_copy) (maxL := 6) (by decide) (Nat.le_of_ble_eq_true rfl) ?_
  intro p0 e0 s0 m0 below meth c0 A0 Q0 hBD hret hP hD hS ls hl
  obtain ⟨hx, hb, hml, hown, hts, hnm, hK, hNw, hMk, hA⟩ := hBD
  have hl : lv_has ls 6 [(0, .ref mm), (1, .int x), (2, .int a), (3, .int n), (4, .int y)] := hl
  have hP : va_P D vwCl [(mm, .inr (9, fl 78 g)), (Msizes, .inl (cI, 4, .inl msizes)), (Mrows, .inl (cB, 32000, .inl mrows))] s0.heap := hP
  have hD : va_D A0 [(mm, .inr (9, fl 78 g)), (Msizes, .inl (cI, 4, .inl msizes)), (Mrows, .inl (cB, 32000, .inl mrows))] := hD
  refine lv_aload_n hx hb dX9_copy_0 rfl (lv_at hl 0 rfl) ?_
  refine lv_iconst (v := 0) hx hb dX9_copy_1 (by decide) ?_
  refine ri (y := nI 0) (nI_0.symm) ?_
  refine fx_put (D := D) (ci := 9) (v := .int (nI 0)) (ty := .int) (C := RX9) (T := TX9) (N := 78) hx hb hts in_X9 tyX9 tyX9_ok nmX9 hown hK hP hD hS 0 rfl rfl 0 (by decide) (hts _ kX9_131) (fun _ h9 => h9) rfl (by decide +kernel) rfl rfl dX9_copy_2 (fun H locs hP hD hS => ?_)
  have hP : va_P D vwCl [(mm, .inr (9, fl 78 (va_up g 0 (.int (nI 0))))), (Msizes, .inl (cI, 4, .inl msizes)), (Mrows, .inl (cB, 32000, .inl mrows))] H := hP
  have hD : va_D A0 [(mm, .inr (9, fl 78 (va_up g 0 (.int (nI 0))))), (Msizes, .inl (cI, 4, .inl msizes)), (Mrows, .inl (cB, 32000, .inl mrows))] := hD
  refine lv_iload_n hx hb dX9_copy_5 rfl (lv_at hl 1 rfl) ?_
  refine lv_i2l hx hb dX9_copy_6 (v := x.toInt64) rfl ?_
  refine lv_lconst (v := 0) hx hb dX9_copy_7 (by decide) ?_
  refine lv_ldc2 hx hb hown (hts _ kX9_134) dX9_copy_8 ?_
  refine rl (y := lN 3) (rfl) ?_
  refine jn_i (wr := [(mm, .inr (9, fl 78 (va_up g 0 (.int (nI 0))))), (Msizes, .inl (cI, 4, .inl msizes)), (Mrows, .inl (cB, 32000, .inl mrows))]) hA hP hD hS [] [0, 1, 2] rfl rfl (by decide) (by decide) (rn_S (As := [.long x.toInt64, .long 0, .long (lN 3)]) (rest := []) ⟨hx, hb, hml, hown, hts⟩ (cvS 3 hts zc_yX9_in zi_X9 zs_yX9_in kX9_136 (by decide +kernel) rfl rfl ⟨Nat.le_of_ble_eq_true rfl, Nat.le_of_ble_eq_true rfl⟩) (m_in l D cI cB cJ cR x.toInt64 0 (lN 3)  H.size) hK hNw hMk hA hP hD hS [] rfl rfl (by decide) rfl hl.1 rfl (Nat.le_of_ble_eq_true rfl) dX9_copy_11 ⟨Nat.le_of_ble_eq_true rfl, Nat.le_of_ble_eq_true rfl⟩) (fun ra u9 H locs hra hP hD hS => ?_)
  obtain ⟨rab, rfl, hra⟩ := hra
  try dsimp only at hra
  have hP : va_P D vwCl [(mm, .inr (9, fl 78 (va_up g 0 (.int (nI 0))))), (Msizes, .inl (cI, 4, .inl msizes)), (Mrows, .inl (cB, 32000, .inl mrows))] H := hP
  have hD : va_D A0 [(mm, .inr (9, fl 78 (va_up g 0 (.int (nI 0))))), (Msizes, .inl (cI, 4, .inl msizes)), (Mrows, .inl (cB, 32000, .inl mrows))] := hD
  rw [in32 (by decide)] at hra
  rw [isR_in] at hra
  refine bz_eq (tgt := 54) hx hb dX9_copy_14 (by decide) (fun c_1 => ?_) (fun c_1 => ?_)
  · refine lv_bipush (v := -2) hx hb dX9_copy_54 (by decide) ?_
    exact hret 56 ls _ _ _ ((va_up g 0 (.int (nI 0))), mrows, msizes, RL) dX9_copy_56 hP hD hS (⟨(frm_up frm_refl (by decide)), rfl, ⟨by rw [cpyP, if_pos (Or.inl (by rw [← hra]; exact c_1))], hrw⟩⟩)
  · have hxr : isR x = true := by rw [← hra]; exact c_1
    obtain ⟨k, hk, hx9⟩ := isR_ex hxr
    have hkl := (hrw k hk).2.1
    have hk8 := rmN_le k
    refine lv_iload hx hb dX9_copy_17 (lv_at hl 4 rfl) ?_
    refine lv_i2l hx hb dX9_copy_19 (v := y.toInt64) rfl ?_
    refine lv_lconst (v := 0) hx hb dX9_copy_20 (by decide) ?_
    refine lv_ldc2 hx hb hown (hts _ kX9_134) dX9_copy_21 ?_
    refine rl (y := lN 3) (rfl) ?_
    refine jn_i (wr := [(mm, .inr (9, fl 78 (va_up g 0 (.int (nI 0))))), (Msizes, .inl (cI, 4, .inl msizes)), (Mrows, .inl (cB, 32000, .inl mrows))]) hA hP hD hS [] [0, 1, 2] rfl rfl (by decide) (by decide) (rn_S (As := [.long y.toInt64, .long 0, .long (lN 3)]) (rest := []) ⟨hx, hb, hml, hown, hts⟩ (cvS 3 hts zc_yX9_in zi_X9 zs_yX9_in kX9_136 (by decide +kernel) rfl rfl ⟨Nat.le_of_ble_eq_true rfl, Nat.le_of_ble_eq_true rfl⟩) (m_in l D cI cB cJ cR y.toInt64 0 (lN 3)  H.size) hK hNw hMk hA hP hD hS [] rfl rfl (by decide) rfl hl.1 rfl (Nat.le_of_ble_eq_true rfl) dX9_copy_24 ⟨Nat.le_of_ble_eq_true rfl, Nat.le_of_ble_eq_true rfl⟩) (fun rb u9 H locs hrb hP hD hS => ?_)
    obtain ⟨rbb, rfl, hrb⟩ := hrb
    try dsimp only at hrb
    have hP : va_P D vwCl [(mm, .inr (9, fl 78 (va_up g 0 (.int (nI 0))))), (Msizes, .inl (cI, 4, .inl msizes)), (Mrows, .inl (cB, 32000, .inl mrows))] H := hP
    have hD : va_D A0 [(mm, .inr (9, fl 78 (va_up g 0 (.int (nI 0))))), (Msizes, .inl (cI, 4, .inl msizes)), (Mrows, .inl (cB, 32000, .inl mrows))] := hD
    rw [in32 (by decide)] at hrb
    rw [isR_in] at hrb
    refine bz_eq (tgt := 54) hx hb dX9_copy_27 (by decide) (fun c_2 => ?_) (fun c_2 => ?_)
    · refine lv_bipush (v := -2) hx hb dX9_copy_54 (by decide) ?_
      exact hret 56 ls _ _ _ ((va_up g 0 (.int (nI 0))), mrows, msizes, RL) dX9_copy_56 hP hD hS (⟨(frm_up frm_refl (by decide)), rfl, ⟨by rw [cpyP, if_pos (Or.inr (Or.inl (by rw [← hrb]; exact c_2)))], hrw⟩⟩)
    · have hyr : isR y = true := by rw [← hrb]; exact c_2
      obtain ⟨t, ht, hy9⟩ := isR_ex hyr
      have htl := (hrw t ht).2.1
      have ht8 := rmN_le t
      refine lv_iload_n hx hb dX9_copy_30 rfl (lv_at hl 2 rfl) ?_
      refine lv_if_lt (tgt := 54) hx hb dX9_copy_31 (by decide) (fun c_3 => ?_) (fun c_3 => ?_)
      · refine lv_bipush (v := -2) hx hb dX9_copy_54 (by decide) ?_
        exact hret 56 ls _ _ _ ((va_up g 0 (.int (nI 0))), mrows, msizes, RL) dX9_copy_56 hP hD hS (⟨(frm_up frm_refl (by decide)), rfl, ⟨by rw [cpyP, if_pos (Or.inr (Or.inr (Or.inl c_3)))], hrw⟩⟩)
      · refine lv_iload_n hx hb dX9_copy_34 rfl (lv_at hl 3 rfl) ?_
        refine lv_if_lt (tgt := 54) hx hb dX9_copy_35 (by decide) (fun c_4 => ?_) (fun c_4 => ?_)
        · refine lv_bipush (v := -2) hx hb dX9_copy_54 (by decide) ?_
          exact hret 56 ls _ _ _ ((va_up g 0 (.int (nI 0))), mrows, msizes, RL) dX9_copy_56 hP hD hS (⟨(frm_up frm_refl (by decide)), rfl, ⟨by rw [cpyP, if_pos (Or.inr (Or.inr (Or.inr (Or.inl c_4))))], hrw⟩⟩)
        · obtain ⟨a9, ha8, ham⟩ := nI_of (x := a) c_3
          obtain ⟨m, hm8, hnm9⟩ := nI_of (x := n) c_4
          rw [hx9] at hl
          rw [hy9] at hl
          rw [ham] at hl
          rw [hnm9] at hl
          have hfp := cpyP_in (RL := RL) hk ht ha8 hm8
          rw [← hx9, ← hnm9, ← ham, ← hy9] at hfp
          refine lv_iload_n hx hb dX9_copy_38 rfl (lv_at hl 2 rfl) ?_
          refine lv_i2l hx hb dX9_copy_39 (v := (nI a9).toInt64) rfl ?_
          refine rl (y := lN a9) (nI_l ha8) ?_
          refine lv_iload_n hx hb dX9_copy_40 rfl (lv_at hl 3 rfl) ?_
          refine lv_i2l hx hb dX9_copy_41 (v := (nI m).toInt64) rfl ?_
          refine rl (y := lN m) (nI_l hm8) ?_
          refine lv_ladd hx hb dX9_copy_42 ?_
          refine rl (y := lN (a9 + m)) (lN_add _ _) ?_
          refine lv_aload_n hx hb dX9_copy_43 rfl (lv_at hl 0 rfl) ?_
          refine fx_get (D := D) (ci := 9) (v := .ref Msizes) (C := RX9) (T := TX9) (N := 78) hx hb hts in_X9 hown hK hP 0 rfl rfl 2 (by decide) (hts _ kX9_13) (fun _ h9 => h9) (g_sizes) dX9_copy_44 ?_
          refine lv_iload_n hx hb dX9_copy_47 rfl (lv_at hl 1 rfl) ?_
          refine ax_ild hx hb hK hP 1 0 rfl rfl k (rfl) (hk) (by omega) dX9_copy_48 ?_
          refine ri (y := nI (RL k).length) ((hrw k hk).1) ?_
          refine lv_i2l hx hb dX9_copy_49 (v := (nI (RL k).length).toInt64) rfl ?_
          refine rl (y := lN (RL k).length) (nI_l (by omega)) ?_
          refine W.lcmp hx hb dX9_copy_50 ?_
          refine lv_if_le (tgt := 57) hx hb dX9_copy_51 (by decide) (fun c_5 => ?_) (fun c_5 => ?_)
          · have ho9 : ¬ (RL k).length < a9 + m := Nat.not_lt.mpr ((pk_lLE (by omega) (by omega)).mp ((lg_cmp_le _ _).mp c_5))
            rw [if_neg ho9] at hfp
            refine lv_iload_n hx hb dX9_copy_57 rfl (lv_at hl 3 rfl) ?_
            refine lv_iload hx hb dX9_copy_58 (lv_at hl 4 rfl) ?_
            refine jn_i (wr := [(mm, .inr (9, fl 78 (va_up g 0 (.int (nI 0))))), (Msizes, .inl (cI, 4, .inl msizes)), (Mrows, .inl (cB, 32000, .inl mrows))]) hA hP hD hS [] [0, 1, 2] rfl rfl (by decide) (by decide) (rn_S (As := [.int (nI t)]) (rest := [.int (nI m)]) ⟨hx, hb, hml, hown, hts⟩ (cvS 1 hts zc_yX9_room zi_X9 zs_yX9_room kX9_142 (by decide +kernel) rfl rfl ⟨Nat.le_of_ble_eq_true rfl, Nat.le_of_ble_eq_true rfl⟩) (m_room l D cI cB cJ cR t (ht) H.size) hK hNw hMk hA hP hD hS [] rfl rfl (by decide) rfl hl.1 rfl (Nat.le_of_ble_eq_true rfl) dX9_copy_60 ⟨Nat.le_of_ble_eq_true rfl, Nat.le_of_ble_eq_true rfl⟩) (fun rm u9 H locs hrm hP hD hS => ?_)
            try dsimp only at hrm
            have hP : va_P D vwCl [(mm, .inr (9, fl 78 (va_up g 0 (.int (nI 0))))), (Msizes, .inl (cI, 4, .inl msizes)), (Mrows, .inl (cB, 32000, .inl mrows))] H := hP
            have hD : va_D A0 [(mm, .inr (9, fl 78 (va_up g 0 (.int (nI 0))))), (Msizes, .inl (cI, 4, .inl msizes)), (Mrows, .inl (cB, 32000, .inl mrows))] := hD
            subst hrm
            refine lv_aload_n hx hb dX9_copy_63 rfl (lv_at hl 0 rfl) ?_
            refine fx_get (D := D) (ci := 9) (v := .ref Msizes) (C := RX9) (T := TX9) (N := 78) hx hb hts in_X9 hown hK hP 0 rfl rfl 2 (by decide) (hts _ kX9_13) (fun _ h9 => h9) (g_sizes) dX9_copy_64 ?_
            refine lv_iload hx hb dX9_copy_67 (lv_at hl 4 rfl) ?_
            refine ax_ild hx hb hK hP 1 0 rfl rfl t (rfl) (ht) (by omega) dX9_copy_69 ?_
            refine ri (y := nI (RL t).length) ((hrw t ht).1) ?_
            refine lv_isub hx hb dX9_copy_70 ?_
            refine ri (y := nI (rmN t - (RL t).length)) (pk_sub htl) ?_
            refine lv_icmp_le (tgt := 77) hx hb dX9_copy_71 (by decide) (fun c_6 => ?_) (fun c_6 => ?_)
            · have hf9 : ¬ rmN t < (RL t).length + m := by have := (nI_leI (by omega) (by omega)).mp c_6; omega
              rw [if_neg hf9] at hfp
              refine lv_iconst (v := 0) hx hb dX9_copy_77 (by decide) ?_
              refine ri (y := nI 0) (nI_0.symm) ?_
              refine lv_istore (lv' := [(5, .int (nI 0)), (0, .ref mm), (1, .int (nI k)), (2, .int (nI a9)), (3, .int (nI m)), (4, .int (nI t))]) hx hb dX9_copy_78 hl (by decide) rfl (fun ls hl => ?_)
              have lx : ∀ (k9 : Nat) (g5_lx : Nat → Value) (j : Nat) (r7 : Nat → Int32) (z7 : Nat → Int32) (H : Heap) (locs : List Loc) (ls : Array Slot), m - j < k9 → (frm [0] g g5_lx) → (g5_lx 0 = .int (nI 0)) → (j ≤ m) → (rwR r7 z7 (va_up RL t (RL t ++ rgL (gD (RL k)) a9 j))) → va_P D vwCl [(mm, .inr (9, fl 78 g5_lx)), (Msizes, .inl (cI, 4, .inl z7)), (Mrows, .inl (cB, 32000, .inl r7))] H → va_D A0 [(mm, .inr (9, fl 78 g5_lx)), (Msizes, .inl (cI, 4, .inl z7)), (Mrows, .inl (cB, 32000, .inl r7))] → va_S A0 s0.heap H locs → lv_has ls 6 [(0, .ref mm), (1, .int (nI k)), (2, .int (nI a9)), (3, .int (nI m)), (4, .int (nI t)), (5, .int (nI j))] → W p0 l e0 ({ frames := 1, cells := 0, slots := 0, locals := 25 }) s0 m0 ([.ref mm, .int x, .int a, .int n, .int y] : List Value).toArray below meth c0 H locs 0 0 Q0 (F0 m0 80 ls []) := by
                intro k9
                induction k9 with
                | zero => intro g5_lx j r7 z7 H locs ls hk9; exact absurd hk9 (Nat.not_lt_zero _)
                | succ k9 ih =>
                  intro g5_lx j r7 z7 H locs ls hk9 hf_lx k_code_lx hjm hr7 hP hD hS hl
                  have hlj : (RL t ++ rgL (gD (RL k)) a9 j).length = (RL t).length + j := by rw [List.length_append, rgL_len]
                  have hsz : z7 t = nI ((RL t).length + j) := by rw [rwR_sz hr7 ht, hlj]
                  refine lv_iload hx hb dX9_copy_80 (lv_at hl 5 rfl) ?_
                  refine lv_iload_n hx hb dX9_copy_82 rfl (lv_at hl 3 rfl) ?_
                  refine lv_icmp_ge (tgt := 137) hx hb dX9_copy_83 (by decide) (fun c_7 => ?_) (fun c_7 => ?_)
                  · have hj0 : j = m := by have := (nI_leI (by omega) (by omega)).mp c_7; omega
                    subst hj0
                    refine lv_aload_n hx hb dX9_copy_137 rfl (lv_at hl 0 rfl) ?_
                    refine fx_get (D := D) (ci := 9) (v := .ref Msizes) (C := RX9) (T := TX9) (N := 78) hx hb hts in_X9 hown hK hP 0 rfl rfl 2 (by decide) (hts _ kX9_13) (fun _ h9 => h9) ((hf_lx 2 (by decide)).trans g_sizes) dX9_copy_138 ?_
                    refine lv_iload hx hb dX9_copy_141 (lv_at hl 4 rfl) ?_
                    refine ax_ild hx hb hK hP 1 0 rfl rfl t (rfl) (ht) (by omega) dX9_copy_143 ?_
                    refine ri (y := nI ((RL t).length + j)) (hsz) ?_
                    exact hret 144 ls _ _ _ (g5_lx, r7, z7, va_up RL t (RL t ++ rgL (gD (RL k)) a9 j)) dX9_copy_144 hP hD hS (⟨hf_lx, k_code_lx, ⟨hfp, hr7⟩⟩)
                  · have hjm9 : j < m := Nat.not_le.mp (fun q => c_7 (nI_le q (by omega)))
                    refine lv_aload_n hx hb dX9_copy_86 rfl (lv_at hl 0 rfl) ?_
                    refine fx_get (D := D) (ci := 9) (v := .ref Mrows) (C := RX9) (T := TX9) (N := 78) hx hb hts in_X9 hown hK hP 0 rfl rfl 1 (by decide) (hts _ kX9_7) (fun _ h9 => h9) ((hf_lx 1 (by decide)).trans g_rows) dX9_copy_87 ?_
                    refine lv_sipush (v := 8000) hx hb dX9_copy_90 (by decide) ?_
                    refine lv_iload hx hb dX9_copy_93 (lv_at hl 4 rfl) ?_
                    refine lv_imul hx hb dX9_copy_95 ?_
                    refine ri (y := nI (8000 * t)) (m8k t ht) ?_
                    refine lv_aload_n hx hb dX9_copy_96 rfl (lv_at hl 0 rfl) ?_
                    refine fx_get (D := D) (ci := 9) (v := .ref Msizes) (C := RX9) (T := TX9) (N := 78) hx hb hts in_X9 hown hK hP 0 rfl rfl 2 (by decide) (hts _ kX9_13) (fun _ h9 => h9) ((hf_lx 2 (by decide)).trans g_sizes) dX9_copy_97 ?_
                    refine lv_iload hx hb dX9_copy_100 (lv_at hl 4 rfl) ?_
                    refine ax_ild hx hb hK hP 1 0 rfl rfl t (rfl) (ht) (by omega) dX9_copy_102 ?_
                    refine ri (y := nI ((RL t).length + j)) (hsz) ?_
                    refine lv_iadd hx hb dX9_copy_103 ?_
                    refine ri (y := nI ((8000 * t) + ((RL t).length + j))) (nI_add (8000 * t) ((RL t).length + j)) ?_
                    refine lv_aload_n hx hb dX9_copy_104 rfl (lv_at hl 0 rfl) ?_
                    refine fx_get (D := D) (ci := 9) (v := .ref Mrows) (C := RX9) (T := TX9) (N := 78) hx hb hts in_X9 hown hK hP 0 rfl rfl 1 (by decide) (hts _ kX9_7) (fun _ h9 => h9) ((hf_lx 1 (by decide)).trans g_rows) dX9_copy_105 ?_
                    refine lv_sipush (v := 8000) hx hb dX9_copy_108 (by decide) ?_
                    refine lv_iload_n hx hb dX9_copy_111 rfl (lv_at hl 1 rfl) ?_
                    refine lv_imul hx hb dX9_copy_112 ?_
                    refine ri (y := nI (8000 * k)) (m8k k hk) ?_
                    refine lv_iload_n hx hb dX9_copy_113 rfl (lv_at hl 2 rfl) ?_
                    refine lv_iadd hx hb dX9_copy_114 ?_
                    refine ri (y := nI ((8000 * k) + a9)) (nI_add (8000 * k) a9) ?_
                    refine lv_iload hx hb dX9_copy_115 (lv_at hl 5 rfl) ?_
                    refine lv_iadd hx hb dX9_copy_117 ?_
                    refine ri (y := nI (((8000 * k) + a9) + j)) (nI_add ((8000 * k) + a9) j) ?_
                    refine ax_bld hx hb hK hP 2 1 rfl rfl (8000 * k + a9 + j) (rfl) (by omega) (by omega) dX9_copy_118 ?_
                    refine ri (y := (gD (RL k) (a9 + j)).toInt8.toInt32) (by rw [Nat.add_assoc]; exact rwR_get hr7 hk (by omega)) ?_
                    refine ax_bst hx hb hK hP hD hS 2 1 rfl rfl (8000 * t + ((RL t).length + j)) (rfl) (by omega) (by omega) (z := (gD (RL k) (a9 + j)).toInt8.toInt32) (b8) dX9_copy_119 (fun H locs hP hD hS => ?_)
                    have hP : va_P D vwCl [(mm, .inr (9, fl 78 g5_lx)), (Msizes, .inl (cI, 4, .inl z7)), (Mrows, .inl (cB, 32000, .inl (upd r7 (8000 * t + ((RL t).length + j)) ((gD (RL k) (a9 + j)).toInt8.toInt32))))] H := hP
                    have hD : va_D A0 [(mm, .inr (9, fl 78 g5_lx)), (Msizes, .inl (cI, 4, .inl z7)), (Mrows, .inl (cB, 32000, .inl (upd r7 (8000 * t + ((RL t).length + j)) ((gD (RL k) (a9 + j)).toInt8.toInt32))))] := hD
                    refine lv_aload_n hx hb dX9_copy_120 rfl (lv_at hl 0 rfl) ?_
                    refine fx_get (D := D) (ci := 9) (v := .ref Msizes) (C := RX9) (T := TX9) (N := 78) hx hb hts in_X9 hown hK hP 0 rfl rfl 2 (by decide) (hts _ kX9_13) (fun _ h9 => h9) ((hf_lx 2 (by decide)).trans g_sizes) dX9_copy_121 ?_
                    refine lv_iload hx hb dX9_copy_124 (lv_at hl 4 rfl) ?_
                    refine lv_dup2_11 hx hb dX9_copy_126 rfl rfl ?_
                    refine ax_ild hx hb hK hP 1 0 rfl rfl t (rfl) (ht) (by omega) dX9_copy_127 ?_
                    refine ri (y := nI ((RL t).length + j)) (hsz) ?_
                    refine lv_iconst (v := 1) hx hb dX9_copy_128 (by decide) ?_
                    refine lv_iadd hx hb dX9_copy_129 ?_
                    refine ri (y := nI (((RL t).length + j) + 1)) (nI_add ((RL t).length + j) 1) ?_
                    refine ri (y := nI ((RL t).length + j + 1)) (rfl) ?_
                    refine ax_ist hx hb hK hP hD hS 1 0 rfl rfl t (rfl) (ht) (by omega) dX9_copy_130 (fun H locs hP hD hS => ?_)
                    have hP : va_P D vwCl [(mm, .inr (9, fl 78 g5_lx)), (Msizes, .inl (cI, 4, .inl (upd z7 t (nI ((RL t).length + j + 1))))), (Mrows, .inl (cB, 32000, .inl (upd r7 (8000 * t + ((RL t).length + j)) ((gD (RL k) (a9 + j)).toInt8.toInt32))))] H := hP
                    have hD : va_D A0 [(mm, .inr (9, fl 78 g5_lx)), (Msizes, .inl (cI, 4, .inl (upd z7 t (nI ((RL t).length + j + 1))))), (Mrows, .inl (cB, 32000, .inl (upd r7 (8000 * t + ((RL t).length + j)) ((gD (RL k) (a9 + j)).toInt8.toInt32))))] := hD
                    refine lv_iinc (v := nI (j + 1)) (lv' := [(5, .int (nI (j + 1))), (0, .ref mm), (1, .int (nI k)), (2, .int (nI a9)), (3, .int (nI m)), (4, .int (nI t))]) hx hb dX9_copy_131 hl (k := 5) rfl (nI_add j 1) (by decide) rfl (fun ls hl => ?_)
                    refine lv_goto (tgt := 80) hx hb dX9_copy_134 (by decide) ?_
                    exact ih g5_lx (j + 1) (upd r7 (8000 * t + ((RL t).length + j)) (gD (RL k) (a9 + j)).toInt8.toInt32) (upd z7 t (nI ((RL t).length + j + 1))) _ _ ls (by omega) (hf_lx) (k_code_lx) (by omega) (by have h9 := rwR_put (v := gD (RL k) (a9 + j)) hr7 ht (by omega) rfl; rw [hlj] at h9; rw [rgL, ← List.append_assoc]; exact h9) hP hD hS (lv_sub hl [1, 2, 3, 4, 5, 0] rfl)
              exact lx _ (va_up g 0 (.int (nI 0))) 0 mrows msizes _ _ ls (Nat.lt_succ_self _) ((frm_up frm_refl (by decide))) (rfl) (Nat.zero_le _) (by rw [rgL, List.append_nil]; exact va_up_id hrw) hP hD hS (lv_sub hl [1, 2, 3, 4, 5, 0] rfl)
            · have hf9 : rmN t < (RL t).length + m := by have := Nat.not_le.mp (fun q => c_6 (nI_le q (by omega))); omega
              rw [if_pos hf9] at hfp
              refine lv_bipush (v := -4) hx hb dX9_copy_74 (by decide) ?_
              exact hret 76 ls _ _ _ ((va_up g 0 (.int (nI 0))), mrows, msizes, RL) dX9_copy_76 hP hD hS (⟨(frm_up frm_refl (by decide)), rfl, ⟨hfp, hrw⟩⟩)
          · have ho9 : (RL k).length < a9 + m := Nat.not_le.mp (fun w => c_5 ((lg_cmp_le _ _).mpr ((pk_lLE (by omega) (by omega)).mpr w)))
            rw [if_pos ho9] at hfp
            refine lv_bipush (v := -2) hx hb dX9_copy_54 (by decide) ?_
            exact hret 56 ls _ _ _ ((va_up g 0 (.int (nI 0))), mrows, msizes, RL) dX9_copy_56 hP hD hS (⟨(frm_up frm_refl (by decide)), rfl, ⟨hfp, hrw⟩⟩)
