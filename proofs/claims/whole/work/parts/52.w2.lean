/-! MATCHES and the choice of instructions, by the reference -/
def eqN (ub : Nat → Nat) (a p : Nat) : Bool := decide (ub a = ub p)
theorem eqF_eqN {ub : Nat → Nat} (h : ∀ j, ub j < 256) : eqF (fun j => nI (ub j)) = eqN ub := by
  funext a p
  unfold eqF eqN
  by_cases q : ub a = ub p
  · rw [decide_eq_true q, decide_eq_true (show nI (ub a) = nI (ub p) by rw [q])]
  · rw [decide_eq_false q, decide_eq_false (fun z => q ((nI_eq (by have := h a; omega) (by have := h p; omega)).mp z))]
theorem bmA_stop {q : Nat → Nat → Bool} {n p a : Nat} (h : n ≤ (bmA q n p a).1) : ∀ k, bmA q n p (a + k) = bmA q n p a
  | 0 => rfl
  | k + 1 => by
    have ih := bmA_stop h k
    rw [← Nat.add_assoc, bmA, ih, if_neg]
    have := clen_le q n (a + k) p
    omega
theorem bmA_le {q : Nat → Nat → Bool} {n p : Nat} : ∀ k, (bmA q n p k).1 ≤ n ∧ ((bmA q n p k).2 < k ∨ (bmA q n p k).2 = 0) ∧ (0 < (bmA q n p k).1 → (bmA q n p k).2 < k)
  | 0 => ⟨Nat.zero_le _, Or.inr rfl, fun h => absurd h (Nat.lt_irrefl 0)⟩
  | k + 1 => by
    have ih := bmA_le (q := q) (n := n) (p := p) k
    have h2 := clen_le q n k p
    unfold bmA
    split
    · exact ⟨h2, Or.inl (Nat.lt_succ_self _), fun _ => Nat.lt_succ_self _⟩
    · exact ⟨ih.1, by omega, fun z => by have := ih.2.2 z; omega⟩
def qR (k z w a m : Nat → Int32) (L : List Ins) : Prop := ∀ i, i < L.length → k i = nI (L.getD i (0, 0, 0, 0)).1 ∧ z i = nI (L.getD i (0, 0, 0, 0)).2.1 ∧ w i = nI (L.getD i (0, 0, 0, 0)).2.2.1 ∧ a i = nI (L.getD i (0, 0, 0, 0)).2.2.2 ∧ m i = 0
def noA (L : List Ins) : Prop := ∀ x, L.getLast? = some x → ¬ x.1 = 1
/-- what an instruction makes of those that wait -/
def insT (L : List Ins) (x : Ins) : List Ins := if x.1 = 1 ∧ (∃ y, L.getLast? = some y ∧ y.1 = 1) then L.set (L.length - 1) (1, (L.getD (L.length - 1) (0, 0, 0, 0)).2.1 + x.2.1, (L.getD (L.length - 1) (0, 0, 0, 0)).2.2.1, (L.getD (L.length - 1) (0, 0, 0, 0)).2.2.2) else L ++ [x]
set_option maxHeartbeats 4000000 in
set_option maxRecDepth 100000 in
theorem m_match (l : Launch) (D : va_G) (cI cB cJ cR : ClassId) (mm : Nat) (g : Nat → Value) (Mu : Nat) (mu : Nat → Int32) (en : Nat) (p_ : Nat) (ub : Nat → Nat) (g_uEnd : g 66 = .int (nI en)) (g_u : g 64 = .ref Mu) (he8 : en ≤ 8000) (hpe : p_ ≤ en) (hub : ∀ j, ub j < 256) (hu : ∀ j, j < en → mu j = s8 (ub j)) : CMi l yX9_match cX9_match 6 (some .int) ({ frames := 0, cells := 0, slots := 0, locals := 0 }) D (tyA cI cB cJ cR) 0 0 [.ref mm, .int (nI p_)] [(mm, .inr (9, fl 78 g)), (Mu, .inl (cB, 8000, .inl mu))] (fun (r : Int32) (g9 : (Nat → Value)) => frm [73] g g9 ∧ g9 73 = .int (nI (bmA (eqN ub) (en - p_) p_ p_).2) ∧ r = nI (bmA (eqN ub) (en - p_) p_ p_).1) (fun (g9 : (Nat → Value)) => [(mm, .inr (9, fl 78 g9)), (Mu, .inl (cB, 8000, .inl mu))]) := by
  refine st_i (cc := cX9_match) (maxL := 6) (by decide) (Nat.le_of_ble_eq_true rfl) ?_
  intro p0 e0 s0 m0 below meth c0 A0 Q0 hBD hret hP hD hS ls hl
  obtain ⟨hx, hb, hml, hown, hts, hnm, hK, hNw, hMk, hA⟩ := hBD
  have hl : lv_has ls 6 [(0, .ref mm), (1, .int (nI p_))] := hl
  have hP : va_P D vwCl [(mm, .inr (9, fl 78 g)), (Mu, .inl (cB, 8000, .inl mu))] s0.heap := hP
  have hD : va_D A0 [(mm, .inr (9, fl 78 g)), (Mu, .inl (cB, 8000, .inl mu))] := hD
  refine lv_iconst (v := 0) hx hb dX9_match_0 (by decide) ?_
  refine ri (y := nI 0) (nI_0.symm) ?_
  refine lv_istore_n (lv' := [(2, .int (nI 0)), (0, .ref mm), (1, .int (nI p_))]) hx hb dX9_match_1 rfl hl (by decide) rfl (fun ls hl => ?_)
  refine lv_aload_n hx hb dX9_match_2 rfl (lv_at hl 1 rfl) ?_
  refine lv_iconst (v := 0) hx hb dX9_match_3 (by decide) ?_
  refine ri (y := nI 0) (nI_0.symm) ?_
  refine fx_put (D := D) (ci := 9) (v := .int (nI 0)) (ty := .int) (C := RX9) (T := TX9) (N := 78) hx hb hts in_X9 tyX9 tyX9_ok nmX9 hown hK hP hD hS 0 rfl rfl 73 (by decide) (hts _ kX9_359) (fun _ h9 => h9) rfl (by decide +kernel) rfl rfl dX9_match_4 (fun H locs hP hD hS => ?_)
  have hP : va_P D vwCl [(mm, .inr (9, fl 78 (va_up g 73 (.int (nI 0))))), (Mu, .inl (cB, 8000, .inl mu))] H := hP
  have hD : va_D A0 [(mm, .inr (9, fl 78 (va_up g 73 (.int (nI 0))))), (Mu, .inl (cB, 8000, .inl mu))] := hD
  refine lv_aload_n hx hb dX9_match_7 rfl (lv_at hl 1 rfl) ?_
  refine fx_get (D := D) (ci := 9) (v := .int (nI en)) (C := RX9) (T := TX9) (N := 78) hx hb hts in_X9 hown hK hP 0 rfl rfl 66 (by decide) (hts _ kX9_362) (fun _ h9 => h9) (g_uEnd) dX9_match_8 ?_
  refine lv_iload_n hx hb dX9_match_11 rfl (lv_at hl 2 rfl) ?_
  refine lv_isub hx hb dX9_match_12 ?_
  refine ri (y := nI (en - p_)) (pk_sub hpe) ?_
  refine lv_istore_n (lv' := [(3, .int (nI (en - p_))), (2, .int (nI 0)), (0, .ref mm), (1, .int (nI p_))]) hx hb dX9_match_13 rfl hl (by decide) rfl (fun ls hl => ?_)
  refine lv_iconst (v := 0) hx hb dX9_match_14 (by decide) ?_
  refine ri (y := nI 0) (nI_0.symm) ?_
  refine lv_istore (lv' := [(4, .int (nI 0)), (3, .int (nI (en - p_))), (2, .int (nI 0)), (0, .ref mm), (1, .int (nI p_))]) hx hb dX9_match_15 hl (by decide) rfl (fun ls hl => ?_)
  have loop : ∀ (k9 : Nat) (g5_loop : Nat → Value) (a : Nat) (bt : Nat) (ad : Nat) (H : Heap) (locs : List Loc) (ls : Array Slot), p_ - a < k9 → (frm [73] g g5_loop) → (g5_loop 73 = .int (nI ad)) → (a ≤ p_) → (bmA (eqN ub) (en - p_) p_ a = (bt, ad)) → va_P D vwCl [(mm, .inr (9, fl 78 g5_loop)), (Mu, .inl (cB, 8000, .inl mu))] H → va_D A0 [(mm, .inr (9, fl 78 g5_loop)), (Mu, .inl (cB, 8000, .inl mu))] → va_S A0 s0.heap H locs → lv_has ls 6 [(0, .ref mm), (1, .int (nI p_)), (2, .int (nI bt)), (3, .int (nI (en - p_))), (4, .int (nI a))] → W p0 l e0 ({ frames := 0, cells := 0, slots := 0, locals := 0 }) s0 m0 ([.ref mm, .int (nI p_)] : List Value).toArray below meth c0 H locs 0 0 Q0 (F0 m0 17 ls []) := by
    intro k9
    induction k9 with
    | zero => intro g5_loop a bt ad H locs ls hk9; exact absurd hk9 (Nat.not_lt_zero _)
    | succ k9 ih =>
      intro g5_loop a bt ad H locs ls hk9 hf_loop k_matchAddress_loop hap hbm hP hD hS hl
      have hbl := (bmA_le (q := (eqN ub)) (n := (en - p_)) (p := p_) a)
      rw [hbm] at hbl
      have hb1 : bt ≤ (en - p_) := hbl.1
      refine lv_iload hx hb dX9_match_17 (lv_at hl 4 rfl) ?_
      refine lv_iload_n hx hb dX9_match_19 rfl (lv_at hl 1 rfl) ?_
      refine lv_icmp_ge (tgt := 109) hx hb dX9_match_20 (by decide) (fun c_1 => ?_) (fun c_1 => ?_)
      · have ha9 : a = p_ := by have := (nI_leI (by omega) (by omega)).mp c_1; omega
        have hfin : bmA (eqN ub) (en - p_) p_ p_ = (bt, ad) := by rw [← hbm, ha9]
        refine lv_iload_n hx hb dX9_match_109 rfl (lv_at hl 2 rfl) ?_
        have km_2 : g5_loop 73 = .int (nI (bmA (eqN ub) (en - p_) p_ p_).2) := by have h9 := k_matchAddress_loop; rw [hfin]; exact h9
        exact hret 110 ls _ _ _ (g5_loop) dX9_match_110 hP hD hS (⟨hf_loop, km_2, by rw [hfin]⟩)
      · have ha9 : a < p_ := Nat.not_le.mp (fun q => c_1 (nI_le q (by omega)))
        refine lv_iload_n hx hb dX9_match_23 rfl (lv_at hl 2 rfl) ?_
        refine lv_iload_n hx hb dX9_match_24 rfl (lv_at hl 3 rfl) ?_
        refine lv_icmp_ge (tgt := 109) hx hb dX9_match_25 (by decide) (fun c_3 => ?_) (fun c_3 => ?_)
        · have hm9 : (en - p_) ≤ bt := (nI_leI (by omega) (by omega)).mp c_3
          have hfin : bmA (eqN ub) (en - p_) p_ p_ = (bt, ad) := by have h9 := bmA_stop (q := (eqN ub)) (n := (en - p_)) (p := p_) (a := a) (by rw [hbm]; exact hm9) (p_ - a); rw [show a + (p_ - a) = p_ by omega] at h9; rw [h9, hbm]
          refine lv_iload_n hx hb dX9_match_109 rfl (lv_at hl 2 rfl) ?_
          have km_4 : g5_loop 73 = .int (nI (bmA (eqN ub) (en - p_) p_ p_).2) := by have h9 := k_matchAddress_loop; rw [hfin]; exact h9
          exact hret 110 ls _ _ _ (g5_loop) dX9_match_110 hP hD hS (⟨hf_loop, km_4, by rw [hfin]⟩)
        · have hm9 : bt < (en - p_) := Nat.not_le.mp (fun q => c_3 (nI_le q (by omega)))
          refine lv_aload_n hx hb dX9_match_28 rfl (lv_at hl 0 rfl) ?_
          refine fx_get (D := D) (ci := 9) (v := .ref Mu) (C := RX9) (T := TX9) (N := 78) hx hb hts in_X9 hown hK hP 0 rfl rfl 64 (by decide) (hts _ kX9_100) (fun _ h9 => h9) ((hf_loop 64 (by decide)).trans g_u) dX9_match_29 ?_
          refine lv_iload hx hb dX9_match_32 (lv_at hl 4 rfl) ?_
          refine lv_iload_n hx hb dX9_match_34 rfl (lv_at hl 2 rfl) ?_
          refine lv_iadd hx hb dX9_match_35 ?_
          refine ri (y := nI (a + bt)) (nI_add a bt) ?_
          refine ax_bld hx hb hK hP 1 1 rfl rfl (a + bt) (rfl) (by omega) (by omega) dX9_match_36 ?_
          refine ri (y := s8 (ub (a + bt))) (hu _ (by omega)) ?_
          refine lv_aload_n hx hb dX9_match_37 rfl (lv_at hl 0 rfl) ?_
          refine fx_get (D := D) (ci := 9) (v := .ref Mu) (C := RX9) (T := TX9) (N := 78) hx hb hts in_X9 hown hK hP 0 rfl rfl 64 (by decide) (hts _ kX9_100) (fun _ h9 => h9) ((hf_loop 64 (by decide)).trans g_u) dX9_match_38 ?_
          refine lv_iload_n hx hb dX9_match_41 rfl (lv_at hl 1 rfl) ?_
          refine lv_iload_n hx hb dX9_match_42 rfl (lv_at hl 2 rfl) ?_
          refine lv_iadd hx hb dX9_match_43 ?_
          refine ri (y := nI (p_ + bt)) (nI_add p_ bt) ?_
          refine ax_bld hx hb hK hP 1 1 rfl rfl (p_ + bt) (rfl) (by omega) (by omega) dX9_match_44 ?_
          refine ri (y := s8 (ub (p_ + bt))) (hu _ (by omega)) ?_
          refine lv_icmp_eq (tgt := 51) hx hb dX9_match_45 (by decide) (fun c_5 => ?_) (fun c_5 => ?_)
          · refine lv_iconst (v := 0) hx hb dX9_match_51 (by decide) ?_
            refine ri (y := nI 0) (nI_0.symm) ?_
            refine lv_istore (lv' := [(5, .int (nI 0)), (0, .ref mm), (1, .int (nI p_)), (2, .int (nI bt)), (3, .int (nI (en - p_))), (4, .int (nI a))]) hx hb dX9_match_52 hl (by decide) rfl (fun ls hl => ?_)
            have in_ : ∀ (k9 : Nat) (g5_in_ : Nat → Value) (l_ : Nat) (H : Heap) (locs : List Loc) (ls : Array Slot), (en - p_) - l_ < k9 → (frm [73] g g5_in_) → (g5_in_ 73 = .int (nI ad)) → (l_ ≤ (en - p_)) → (∀ i, i < l_ → eqN ub (a + i) (p_ + i) = true) → va_P D vwCl [(mm, .inr (9, fl 78 g5_in_)), (Mu, .inl (cB, 8000, .inl mu))] H → va_D A0 [(mm, .inr (9, fl 78 g5_in_)), (Mu, .inl (cB, 8000, .inl mu))] → va_S A0 s0.heap H locs → lv_has ls 6 [(0, .ref mm), (1, .int (nI p_)), (2, .int (nI bt)), (3, .int (nI (en - p_))), (4, .int (nI a)), (5, .int (nI l_))] → W p0 l e0 ({ frames := 0, cells := 0, slots := 0, locals := 0 }) s0 m0 ([.ref mm, .int (nI p_)] : List Value).toArray below meth c0 H locs 0 0 Q0 (F0 m0 54 ls []) := by
              intro k9
              induction k9 with
              | zero => intro g5_in_ l_ H locs ls hk9; exact absurd hk9 (Nat.not_lt_zero _)
              | succ k9 ih2 =>
                intro g5_in_ l_ H locs ls hk9 hf_in_ k_matchAddress_in_ hlm hall hP hD hS hl
                refine lv_iload hx hb dX9_match_54 (lv_at hl 5 rfl) ?_
                refine lv_iload_n hx hb dX9_match_56 rfl (lv_at hl 3 rfl) ?_
                refine lv_icmp_ge (tgt := 88) hx hb dX9_match_57 (by decide) (fun c_6 => ?_) (fun c_6 => ?_)
                · have hl9 : l_ = (en - p_) := by have := (nI_leI (by omega) (by omega)).mp c_6; omega
                  have hcl : clen (eqN ub) (en - p_) a p_ = l_ := clen_is _ _ _ _ _ (by omega) hall (Or.inl hl9)
                  refine lv_iload hx hb dX9_match_88 (lv_at hl 5 rfl) ?_
                  refine lv_iload_n hx hb dX9_match_90 rfl (lv_at hl 2 rfl) ?_
                  refine lv_icmp_le (tgt := 103) hx hb dX9_match_91 (by decide) (fun c_7 => ?_) (fun c_7 => ?_)
                  · have hle : l_ ≤ bt := (nI_leI (by omega) (by omega)).mp c_7
                    refine lv_iinc (v := nI (a + 1)) (lv' := [(4, .int (nI (a + 1))), (0, .ref mm), (1, .int (nI p_)), (2, .int (nI bt)), (3, .int (nI (en - p_))), (5, .int (nI l_))]) hx hb dX9_match_103 hl (k := 4) rfl (nI_add a 1) (by decide) rfl (fun ls hl => ?_)
                    refine lv_goto (tgt := 17) hx hb dX9_match_106 (by decide) ?_
                    exact ih g5_in_ (a + 1) bt ad _ _ ls (by omega) (hf_in_) (k_matchAddress_in_) (by omega) (by rw [bmA, hbm, hcl, if_neg (by omega)]) hP hD hS (lv_sub hl [1, 2, 3, 4, 0] rfl)
                  · have hle : bt < l_ := Nat.not_le.mp (fun q => c_7 (nI_le q (by omega)))
                    refine lv_iload hx hb dX9_match_94 (lv_at hl 5 rfl) ?_
                    refine lv_istore_n (lv' := [(2, .int (nI l_)), (0, .ref mm), (1, .int (nI p_)), (3, .int (nI (en - p_))), (4, .int (nI a)), (5, .int (nI l_))]) hx hb dX9_match_96 rfl hl (by decide) rfl (fun ls hl => ?_)
                    refine lv_aload_n hx hb dX9_match_97 rfl (lv_at hl 1 rfl) ?_
                    refine lv_iload hx hb dX9_match_98 (lv_at hl 4 rfl) ?_
                    refine fx_put (D := D) (ci := 9) (v := .int (nI a)) (ty := .int) (C := RX9) (T := TX9) (N := 78) hx hb hts in_X9 tyX9 tyX9_ok nmX9 hown hK hP hD hS 0 rfl rfl 73 (by decide) (hts _ kX9_359) (fun _ h9 => h9) rfl (by decide +kernel) rfl rfl dX9_match_100 (fun H locs hP hD hS => ?_)
                    have hP : va_P D vwCl [(mm, .inr (9, fl 78 (va_up g5_in_ 73 (.int (nI a))))), (Mu, .inl (cB, 8000, .inl mu))] H := hP
                    have hD : va_D A0 [(mm, .inr (9, fl 78 (va_up g5_in_ 73 (.int (nI a))))), (Mu, .inl (cB, 8000, .inl mu))] := hD
                    refine lv_iinc (v := nI (a + 1)) (lv' := [(4, .int (nI (a + 1))), (2, .int (nI l_)), (0, .ref mm), (1, .int (nI p_)), (3, .int (nI (en - p_))), (5, .int (nI l_))]) hx hb dX9_match_103 hl (k := 4) rfl (nI_add a 1) (by decide) rfl (fun ls hl => ?_)
                    refine lv_goto (tgt := 17) hx hb dX9_match_106 (by decide) ?_
                    exact ih (va_up g5_in_ 73 (.int (nI a))) (a + 1) l_ a _ _ ls (by omega) ((frm_up hf_in_ (by decide))) (rfl) (by omega) (by rw [bmA, hbm, hcl, if_pos hle]) hP hD hS (lv_sub hl [2, 3, 1, 4, 0] rfl)
                · have hl9 : l_ < (en - p_) := Nat.not_le.mp (fun q => c_6 (nI_le q (by omega)))
                  refine lv_aload_n hx hb dX9_match_60 rfl (lv_at hl 0 rfl) ?_
                  refine fx_get (D := D) (ci := 9) (v := .ref Mu) (C := RX9) (T := TX9) (N := 78) hx hb hts in_X9 hown hK hP 0 rfl rfl 64 (by decide) (hts _ kX9_100) (fun _ h9 => h9) ((hf_in_ 64 (by decide)).trans g_u) dX9_match_61 ?_
                  refine lv_iload hx hb dX9_match_64 (lv_at hl 4 rfl) ?_
                  refine lv_iload hx hb dX9_match_66 (lv_at hl 5 rfl) ?_
                  refine lv_iadd hx hb dX9_match_68 ?_
                  refine ri (y := nI (a + l_)) (nI_add a l_) ?_
                  refine ax_bld hx hb hK hP 1 1 rfl rfl (a + l_) (rfl) (by omega) (by omega) dX9_match_69 ?_
                  refine ri (y := s8 (ub (a + l_))) (hu _ (by omega)) ?_
                  refine lv_aload_n hx hb dX9_match_70 rfl (lv_at hl 0 rfl) ?_
                  refine fx_get (D := D) (ci := 9) (v := .ref Mu) (C := RX9) (T := TX9) (N := 78) hx hb hts in_X9 hown hK hP 0 rfl rfl 64 (by decide) (hts _ kX9_100) (fun _ h9 => h9) ((hf_in_ 64 (by decide)).trans g_u) dX9_match_71 ?_
                  refine lv_iload_n hx hb dX9_match_74 rfl (lv_at hl 1 rfl) ?_
                  refine lv_iload hx hb dX9_match_75 (lv_at hl 5 rfl) ?_
                  refine lv_iadd hx hb dX9_match_77 ?_
                  refine ri (y := nI (p_ + l_)) (nI_add p_ l_) ?_
                  refine ax_bld hx hb hK hP 1 1 rfl rfl (p_ + l_) (rfl) (by omega) (by omega) dX9_match_78 ?_
                  refine ri (y := s8 (ub (p_ + l_))) (hu _ (by omega)) ?_
                  refine lv_icmp_ne (tgt := 88) hx hb dX9_match_79 (by decide) (fun c_8 => ?_) (fun c_8 => ?_)
                  · have hne : eqN ub (a + l_) (p_ + l_) = false := decide_eq_false (fun z => c_8 (by rw [z]))
                    have hcl : clen (eqN ub) (en - p_) a p_ = l_ := clen_is _ _ _ _ _ (by omega) hall (Or.inr hne)
                    refine lv_iload hx hb dX9_match_88 (lv_at hl 5 rfl) ?_
                    refine lv_iload_n hx hb dX9_match_90 rfl (lv_at hl 2 rfl) ?_
                    refine lv_icmp_le (tgt := 103) hx hb dX9_match_91 (by decide) (fun c_9 => ?_) (fun c_9 => ?_)
                    · have hle : l_ ≤ bt := (nI_leI (by omega) (by omega)).mp c_9
                      refine lv_iinc (v := nI (a + 1)) (lv' := [(4, .int (nI (a + 1))), (0, .ref mm), (1, .int (nI p_)), (2, .int (nI bt)), (3, .int (nI (en - p_))), (5, .int (nI l_))]) hx hb dX9_match_103 hl (k := 4) rfl (nI_add a 1) (by decide) rfl (fun ls hl => ?_)
                      refine lv_goto (tgt := 17) hx hb dX9_match_106 (by decide) ?_
                      exact ih g5_in_ (a + 1) bt ad _ _ ls (by omega) (hf_in_) (k_matchAddress_in_) (by omega) (by rw [bmA, hbm, hcl, if_neg (by omega)]) hP hD hS (lv_sub hl [1, 2, 3, 4, 0] rfl)
                    · have hle : bt < l_ := Nat.not_le.mp (fun q => c_9 (nI_le q (by omega)))
                      refine lv_iload hx hb dX9_match_94 (lv_at hl 5 rfl) ?_
                      refine lv_istore_n (lv' := [(2, .int (nI l_)), (0, .ref mm), (1, .int (nI p_)), (3, .int (nI (en - p_))), (4, .int (nI a)), (5, .int (nI l_))]) hx hb dX9_match_96 rfl hl (by decide) rfl (fun ls hl => ?_)
                      refine lv_aload_n hx hb dX9_match_97 rfl (lv_at hl 1 rfl) ?_
                      refine lv_iload hx hb dX9_match_98 (lv_at hl 4 rfl) ?_
                      refine fx_put (D := D) (ci := 9) (v := .int (nI a)) (ty := .int) (C := RX9) (T := TX9) (N := 78) hx hb hts in_X9 tyX9 tyX9_ok nmX9 hown hK hP hD hS 0 rfl rfl 73 (by decide) (hts _ kX9_359) (fun _ h9 => h9) rfl (by decide +kernel) rfl rfl dX9_match_100 (fun H locs hP hD hS => ?_)
                      have hP : va_P D vwCl [(mm, .inr (9, fl 78 (va_up g5_in_ 73 (.int (nI a))))), (Mu, .inl (cB, 8000, .inl mu))] H := hP
                      have hD : va_D A0 [(mm, .inr (9, fl 78 (va_up g5_in_ 73 (.int (nI a))))), (Mu, .inl (cB, 8000, .inl mu))] := hD
                      refine lv_iinc (v := nI (a + 1)) (lv' := [(4, .int (nI (a + 1))), (2, .int (nI l_)), (0, .ref mm), (1, .int (nI p_)), (3, .int (nI (en - p_))), (5, .int (nI l_))]) hx hb dX9_match_103 hl (k := 4) rfl (nI_add a 1) (by decide) rfl (fun ls hl => ?_)
                      refine lv_goto (tgt := 17) hx hb dX9_match_106 (by decide) ?_
                      exact ih (va_up g5_in_ 73 (.int (nI a))) (a + 1) l_ a _ _ ls (by omega) ((frm_up hf_in_ (by decide))) (rfl) (by omega) (by rw [bmA, hbm, hcl, if_pos hle]) hP hD hS (lv_sub hl [2, 3, 1, 4, 0] rfl)
                  · have heq : eqN ub (a + l_) (p_ + l_) = true := decide_eq_true ((s8_inj (hub _) (hub _)).mp c_8)
                    refine lv_iinc (v := nI (l_ + 1)) (lv' := [(5, .int (nI (l_ + 1))), (0, .ref mm), (1, .int (nI p_)), (2, .int (nI bt)), (3, .int (nI (en - p_))), (4, .int (nI a))]) hx hb dX9_match_82 hl (k := 5) rfl (nI_add l_ 1) (by decide) rfl (fun ls hl => ?_)
                    refine lv_goto (tgt := 54) hx hb dX9_match_85 (by decide) ?_
                    exact ih2 g5_in_ (l_ + 1) _ _ ls (by omega) (hf_in_) (k_matchAddress_in_) (by omega) (fun i hi => by by_cases q : i = l_; rw [q]; exact heq; exact hall i (by omega)) hP hD hS (lv_sub hl [1, 2, 3, 4, 5, 0] rfl)
            exact in_ _ g5_loop 0 _ _ ls (Nat.lt_succ_self _) (hf_loop) (k_matchAddress_loop) (Nat.zero_le _) (fun i hi => absurd hi (Nat.not_lt_zero i)) hP hD hS (lv_sub hl [1, 2, 3, 4, 5, 0] rfl)
          · have hne : eqN ub (a + bt) (p_ + bt) = false := decide_eq_false (fun z => c_5 (by rw [z]))
            have hcl := clen_lt (n := (en - p_)) hne
            refine lv_goto (tgt := 103) hx hb dX9_match_48 (by decide) ?_
            refine lv_iinc (v := nI (a + 1)) (lv' := [(4, .int (nI (a + 1))), (0, .ref mm), (1, .int (nI p_)), (2, .int (nI bt)), (3, .int (nI (en - p_)))]) hx hb dX9_match_103 hl (k := 4) rfl (nI_add a 1) (by decide) rfl (fun ls hl => ?_)
            refine lv_goto (tgt := 17) hx hb dX9_match_106 (by decide) ?_
            exact ih g5_loop (a + 1) bt ad _ _ ls (by omega) (hf_loop) (k_matchAddress_loop) (by omega) (by rw [bmA, hbm, if_neg (by omega)]) hP hD hS (lv_sub hl [1, 2, 3, 4, 0] rfl)
  exact loop _ (va_up g 73 (.int (nI 0))) 0 0 0 _ _ ls (Nat.lt_succ_self _) ((frm_up frm_refl (by decide))) (rfl) (Nat.zero_le _) (rfl) hP hD hS (lv_sub hl [3, 4, 2, 1, 0] rfl)
