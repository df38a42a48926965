/-! THE SEARCH along a chain -/
theorem clen_lt {q : Nat → Nat → Bool} {n a p k : Nat} (h : q (a + k) (p + k) = false) : clen q n a p ≤ k :=
  Nat.not_lt.mp (fun z => by rw [clen_all q n a p k z] at h; exact absurd h (by decide))
theorem sk_hs {f : Nat → Int32} {n p l hi : Nat} (hl : l ≤ hi) (h : ∀ d, l ≤ d → d < hi → ¬ hsN f d = hsN f p) : bF (eqF f) n p hi = bF (eqF f) n p l :=
  bF_skip _ _ _ hi hl (fun d d1 d2 => Or.inl (Nat.not_le.mp (fun z => h d d1 d2 (hs_of4 z))))
theorem sk_full {f : Nat → Int32} {n p l hi : Nat} (hl : l ≤ hi) (h : n ≤ (bF (eqF f) n p l).1) : bF (eqF f) n p hi = bF (eqF f) n p l :=
  bF_skip _ _ _ hi hl (fun d d1 d2 => Or.inr (Nat.le_trans (clen_le _ _ _ _) h))
set_option maxHeartbeats 4000000 in
set_option maxRecDepth 100000 in
theorem c_Finder_search (l : Launch) (D : va_G) (cI cB cJ cR : ClassId) (h : Nat) (u : Nat) (nx : Nat) (sh : Nat) (st : Nat) (wh : Nat) (wt : Nat) (x1 : Int32) (x2 : Int32) (en : Nat) (f : Nat → Int32) (fx : Nat → Int32) (lo : Nat) (bd : Nat) (a : Nat) (he : en ≤ 8000) (ha4 : a + 4 ≤ en) (hlo : lo ≤ bd) (hla : lo ≤ a) (hbd : bd ≤ 8000) (hfx : ∀ d, lo ≤ d → d < bd → fx d = nxC (hsN f) (hsN f d) (bd - (d + 1)) (d + 1)) : CMv l yX2_search cX2_search 7 none ({ frames := 0, cells := 0, slots := 0, locals := 0 }) D (tyA cI cB cJ cR) 0 0 [.ref h, .int (nxC (hsN f) (hsN f a) (bd - lo) lo), .int (nI a)] [(h, .inr (2, [.ref u, .ref nx, .ref sh, .ref st, .ref wh, .ref wt, .int x1, .int (nI en), .int x2, .int (nI (bF (eqF f) (en - a) a lo).1), .int (nI (bF (eqF f) (en - a) a lo).2)])), (u, .inl (cI, 8000, .inl f)), (nx, .inl (cI, 8000, .inl fx))] (fun (_ : Unit) => True) (fun (_ : Unit) => [(h, .inr (2, [.ref u, .ref nx, .ref sh, .ref st, .ref wh, .ref wt, .int x1, .int (nI en), .int x2, .int (nI (bF (eqF f) (en - a) a (min bd a)).1), .int (nI (bF (eqF f) (en - a) a (min bd a)).2)])), (u, .inl (cI, 8000, .inl f)), (nx, .inl (cI, 8000, .inl fx))]) := by
  refine st_v (cc := cX2_search) (maxL := 7) (by decide) (Nat.le_of_ble_eq_true rfl) ?_
  intro p0 e0 s0 m0 below meth c0 A0 Q0 hBD hret hP hD hS ls hl
  obtain ⟨hx, hb, hml, hown, hts, hnm, hK, hNw, hMk, hA⟩ := hBD
  have hl : lv_has ls 7 [(0, .ref h), (1, .int (nxC (hsN f) (hsN f a) (bd - lo) lo)), (2, .int (nI a))] := hl
  have hP : va_P D vwCl [(h, .inr (2, [.ref u, .ref nx, .ref sh, .ref st, .ref wh, .ref wt, .int x1, .int (nI en), .int x2, .int (nI (bF (eqF f) (en - a) a lo).1), .int (nI (bF (eqF f) (en - a) a lo).2)])), (u, .inl (cI, 8000, .inl f)), (nx, .inl (cI, 8000, .inl fx))] s0.heap := hP
  have hD : va_D A0 [(h, .inr (2, [.ref u, .ref nx, .ref sh, .ref st, .ref wh, .ref wt, .int x1, .int (nI en), .int x2, .int (nI (bF (eqF f) (en - a) a lo).1), .int (nI (bF (eqF f) (en - a) a lo).2)])), (u, .inl (cI, 8000, .inl f)), (nx, .inl (cI, 8000, .inl fx))] := hD
  refine lv_aload_n hx hb dX2_search_0 rfl (lv_at hl 0 rfl) ?_
  refine va_get (D := D) (ci := 2) (v := .int (nI en)) (C := RX2) (T := TX2) (N := 11) hx hb hts in_X2 hown hK hP 0 rfl rfl 7 (by decide) (hts _ kX2_40) (fun _ h9 => h9) rfl dX2_search_1 ?_
  refine lv_iload_n hx hb dX2_search_4 rfl (lv_at hl 2 rfl) ?_
  refine lv_isub hx hb dX2_search_5 ?_
  refine ri (y := nI (en - a)) (pk_sub (by omega)) ?_
  refine lv_istore_n (lv' := [(3, .int (nI (en - a))), (0, .ref h), (1, .int (nxC (hsN f) (hsN f a) (bd - lo) lo)), (2, .int (nI a))]) hx hb dX2_search_6 rfl hl (by decide) rfl (fun ls hl => ?_)
  refine lv_iload_n hx hb dX2_search_7 rfl (lv_at hl 2 rfl) ?_
  refine lv_istore (lv' := [(4, .int (nxC (hsN f) (hsN f a) (bd - lo) lo)), (3, .int (nI (en - a))), (0, .ref h), (1, .int (nxC (hsN f) (hsN f a) (bd - lo) lo)), (2, .int (nI a))]) hx hb dX2_search_8 hl (by decide) rfl (fun ls hl => ?_)
  refine lv_iconst (v := 0) hx hb dX2_search_10 (by decide) ?_
  refine ri (y := nI 0) (nI_0.symm) ?_
  refine lv_istore (lv' := [(5, .int (nI 0)), (4, .int (nxC (hsN f) (hsN f a) (bd - lo) lo)), (3, .int (nI (en - a))), (0, .ref h), (1, .int (nxC (hsN f) (hsN f a) (bd - lo) lo)), (2, .int (nI a))]) hx hb dX2_search_11 hl (by decide) rfl (fun ls hl => ?_)
  have loop : ∀ (k9 : Nat) (k : Nat) (i : Nat) (H : Heap) (locs : List Loc) (ls : Array Slot), a - k < k9 → (i ≤ k) → (lo ≤ k) → (k ≤ bd) → (k ≤ a) → va_P D vwCl [(h, .inr (2, [.ref u, .ref nx, .ref sh, .ref st, .ref wh, .ref wt, .int x1, .int (nI en), .int x2, .int (nI (bF (eqF f) (en - a) a k).1), .int (nI (bF (eqF f) (en - a) a k).2)])), (u, .inl (cI, 8000, .inl f)), (nx, .inl (cI, 8000, .inl fx))] H → va_D A0 [(h, .inr (2, [.ref u, .ref nx, .ref sh, .ref st, .ref wh, .ref wt, .int x1, .int (nI en), .int x2, .int (nI (bF (eqF f) (en - a) a k).1), .int (nI (bF (eqF f) (en - a) a k).2)])), (u, .inl (cI, 8000, .inl f)), (nx, .inl (cI, 8000, .inl fx))] → va_S A0 s0.heap H locs → lv_has ls 7 [(0, .ref h), (1, .int (nxC (hsN f) (hsN f a) (bd - lo) lo)), (2, .int (nI a)), (3, .int (nI (en - a))), (4, .int (nxC (hsN f) (hsN f a) (bd - k) k)), (5, .int (nI i))] → W p0 l e0 ({ frames := 0, cells := 0, slots := 0, locals := 0 }) s0 m0 ([.ref h, .int (nxC (hsN f) (hsN f a) (bd - lo) lo), .int (nI a)] : List Value).toArray below meth c0 H locs 0 0 Q0 (F0 m0 13 ls []) := by
    intro k9
    induction k9 with
    | zero => intro k i H locs ls hk9; exact absurd hk9 (Nat.not_lt_zero _)
    | succ k9 ih =>
      intro k i H locs ls hk9 hik hlk hkb hka hP hD hS hl
      have hbl := bF_le (eqF f) (en - a) a k
      refine lv_iload hx hb dX2_search_13 (lv_at hl 5 rfl) ?_
      refine lv_sipush (v := 8000) hx hb dX2_search_15 (by decide) ?_
      refine lv_icmp_ge (tgt := 145) hx hb dX2_search_18 (by decide) (fun c_1 => ?_) (fun c_1 => ?_)
      · have hi8 : 8000 ≤ i := (nI_leI (a := 8000) (b := i) (by decide) (by omega)).mp c_1
        have hst : bF (eqF f) (en - a) a (min bd a) = bF (eqF f) (en - a) a k := by rw [show min bd a = k by omega]
        have hP : va_P D vwCl [(h, .inr (2, [.ref u, .ref nx, .ref sh, .ref st, .ref wh, .ref wt, .int x1, .int (nI en), .int x2, .int (nI (bF (eqF f) (en - a) a (min bd a)).1), .int (nI (bF (eqF f) (en - a) a (min bd a)).2)])), (u, .inl (cI, 8000, .inl f)), (nx, .inl (cI, 8000, .inl fx))] H := by rw [hst]; exact hP
        have hD : va_D A0 [(h, .inr (2, [.ref u, .ref nx, .ref sh, .ref st, .ref wh, .ref wt, .int x1, .int (nI en), .int x2, .int (nI (bF (eqF f) (en - a) a (min bd a)).1), .int (nI (bF (eqF f) (en - a) a (min bd a)).2)])), (u, .inl (cI, 8000, .inl f)), (nx, .inl (cI, 8000, .inl fx))] := by rw [hst]; exact hD
        exact hret 145 ls _ _ () dX2_search_145 hP hD hS (trivial)
      · have hi8 : i < 8000 := Nat.not_le.mp (fun z => c_1 (nI_le (a := 8000) z (by omega)))
        refine lv_iload hx hb dX2_search_21 (lv_at hl 4 rfl) ?_
        refine lv_if_lt (tgt := 145) hx hb dX2_search_23 (by decide) (fun c_2 => ?_) (fun c_2 => ?_)
        · have hst : bF (eqF f) (en - a) a (min bd a) = bF (eqF f) (en - a) a k := sk_hs (by omega) (fun d d1 d2 => of_decide_eq_false (fst_neg _ _ (by omega) c_2 d d1 (by omega)))
          have hP : va_P D vwCl [(h, .inr (2, [.ref u, .ref nx, .ref sh, .ref st, .ref wh, .ref wt, .int x1, .int (nI en), .int x2, .int (nI (bF (eqF f) (en - a) a (min bd a)).1), .int (nI (bF (eqF f) (en - a) a (min bd a)).2)])), (u, .inl (cI, 8000, .inl f)), (nx, .inl (cI, 8000, .inl fx))] H := by rw [hst]; exact hP
          have hD : va_D A0 [(h, .inr (2, [.ref u, .ref nx, .ref sh, .ref st, .ref wh, .ref wt, .int x1, .int (nI en), .int x2, .int (nI (bF (eqF f) (en - a) a (min bd a)).1), .int (nI (bF (eqF f) (en - a) a (min bd a)).2)])), (u, .inl (cI, 8000, .inl f)), (nx, .inl (cI, 8000, .inl fx))] := by rw [hst]; exact hD
          exact hret 145 ls _ _ () dX2_search_145 hP hD hS (trivial)
        · obtain ⟨c, hcc, hc1, hc2, hc3, hc4⟩ := fst_pos _ _ c_2
          have hcc : nxC (hsN f) (hsN f a) (bd - k) k = nI c := hcc
          have hc3 : hsN f c = hsN f a := of_decide_eq_true hc3
          have hc4 : ∀ d, k ≤ d → d < c → ¬ hsN f d = hsN f a := fun d d1 d2 => of_decide_eq_false (hc4 d d1 d2)
          rw [hcc] at hl
          refine lv_iload hx hb dX2_search_26 (lv_at hl 4 rfl) ?_
          refine lv_iload_n hx hb dX2_search_28 rfl (lv_at hl 2 rfl) ?_
          refine lv_icmp_ge (tgt := 145) hx hb dX2_search_29 (by decide) (fun c_3 => ?_) (fun c_3 => ?_)
          · have hca : a ≤ c := (nI_leI (by omega) (by omega)).mp c_3
            have hst : bF (eqF f) (en - a) a (min bd a) = bF (eqF f) (en - a) a k := sk_hs (by omega) (fun d d1 d2 => hc4 d d1 (by omega))
            have hP : va_P D vwCl [(h, .inr (2, [.ref u, .ref nx, .ref sh, .ref st, .ref wh, .ref wt, .int x1, .int (nI en), .int x2, .int (nI (bF (eqF f) (en - a) a (min bd a)).1), .int (nI (bF (eqF f) (en - a) a (min bd a)).2)])), (u, .inl (cI, 8000, .inl f)), (nx, .inl (cI, 8000, .inl fx))] H := by rw [hst]; exact hP
            have hD : va_D A0 [(h, .inr (2, [.ref u, .ref nx, .ref sh, .ref st, .ref wh, .ref wt, .int x1, .int (nI en), .int x2, .int (nI (bF (eqF f) (en - a) a (min bd a)).1), .int (nI (bF (eqF f) (en - a) a (min bd a)).2)])), (u, .inl (cI, 8000, .inl f)), (nx, .inl (cI, 8000, .inl fx))] := by rw [hst]; exact hD
            exact hret 145 ls _ _ () dX2_search_145 hP hD hS (trivial)
          · have hca : c < a := Nat.not_le.mp (fun z => c_3 (nI_le z (by omega)))
            refine lv_aload_n hx hb dX2_search_32 rfl (lv_at hl 0 rfl) ?_
            refine va_get (D := D) (ci := 2) (v := .int (nI (bF (eqF f) (en - a) a k).1)) (C := RX2) (T := TX2) (N := 11) hx hb hts in_X2 hown hK hP 0 rfl rfl 9 (by decide) (hts _ kX2_79) (fun _ h9 => h9) rfl dX2_search_33 ?_
            refine lv_iload_n hx hb dX2_search_36 rfl (lv_at hl 3 rfl) ?_
            refine lv_icmp_ge (tgt := 145) hx hb dX2_search_37 (by decide) (fun c_4 => ?_) (fun c_4 => ?_)
            · have hst : bF (eqF f) (en - a) a (min bd a) = bF (eqF f) (en - a) a k := sk_full (by omega) ((nI_leI (by omega) (by omega)).mp c_4)
              have hP : va_P D vwCl [(h, .inr (2, [.ref u, .ref nx, .ref sh, .ref st, .ref wh, .ref wt, .int x1, .int (nI en), .int x2, .int (nI (bF (eqF f) (en - a) a (min bd a)).1), .int (nI (bF (eqF f) (en - a) a (min bd a)).2)])), (u, .inl (cI, 8000, .inl f)), (nx, .inl (cI, 8000, .inl fx))] H := by rw [hst]; exact hP
              have hD : va_D A0 [(h, .inr (2, [.ref u, .ref nx, .ref sh, .ref st, .ref wh, .ref wt, .int x1, .int (nI en), .int x2, .int (nI (bF (eqF f) (en - a) a (min bd a)).1), .int (nI (bF (eqF f) (en - a) a (min bd a)).2)])), (u, .inl (cI, 8000, .inl f)), (nx, .inl (cI, 8000, .inl fx))] := by rw [hst]; exact hD
              exact hret 145 ls _ _ () dX2_search_145 hP hD hS (trivial)
            · have hsz : (bF (eqF f) (en - a) a k).1 < en - a := Nat.not_le.mp (fun z => c_4 (nI_le z (by omega)))
              have hsk : bF (eqF f) (en - a) a c = bF (eqF f) (en - a) a k := sk_hs hc1 hc4
              refine lv_aload_n hx hb dX2_search_40 rfl (lv_at hl 0 rfl) ?_
              refine va_get (D := D) (ci := 2) (v := .ref u) (C := RX2) (T := TX2) (N := 11) hx hb hts in_X2 hown hK hP 0 rfl rfl 0 (by decide) (hts _ kX2_11) (fun _ h9 => h9) rfl dX2_search_41 ?_
              refine lv_iload hx hb dX2_search_44 (lv_at hl 4 rfl) ?_
              refine lv_aload_n hx hb dX2_search_46 rfl (lv_at hl 0 rfl) ?_
              refine va_get (D := D) (ci := 2) (v := .int (nI (bF (eqF f) (en - a) a k).1)) (C := RX2) (T := TX2) (N := 11) hx hb hts in_X2 hown hK hP 0 rfl rfl 9 (by decide) (hts _ kX2_79) (fun _ h9 => h9) rfl dX2_search_47 ?_
              refine lv_iadd hx hb dX2_search_50 ?_
              refine ri (y := nI (c + (bF (eqF f) (en - a) a k).1)) (nI_add c (bF (eqF f) (en - a) a k).1) ?_
              refine ax_ild hx hb hK hP 1 0 rfl rfl (c + (bF (eqF f) (en - a) a k).1) (rfl) (by omega) (by decide) dX2_search_51 ?_
              refine lv_aload_n hx hb dX2_search_52 rfl (lv_at hl 0 rfl) ?_
              refine va_get (D := D) (ci := 2) (v := .ref u) (C := RX2) (T := TX2) (N := 11) hx hb hts in_X2 hown hK hP 0 rfl rfl 0 (by decide) (hts _ kX2_11) (fun _ h9 => h9) rfl dX2_search_53 ?_
              refine lv_iload_n hx hb dX2_search_56 rfl (lv_at hl 2 rfl) ?_
              refine lv_aload_n hx hb dX2_search_57 rfl (lv_at hl 0 rfl) ?_
              refine va_get (D := D) (ci := 2) (v := .int (nI (bF (eqF f) (en - a) a k).1)) (C := RX2) (T := TX2) (N := 11) hx hb hts in_X2 hown hK hP 0 rfl rfl 9 (by decide) (hts _ kX2_79) (fun _ h9 => h9) rfl dX2_search_58 ?_
              refine lv_iadd hx hb dX2_search_61 ?_
              refine ri (y := nI (a + (bF (eqF f) (en - a) a k).1)) (nI_add a (bF (eqF f) (en - a) a k).1) ?_
              refine ax_ild hx hb hK hP 1 0 rfl rfl (a + (bF (eqF f) (en - a) a k).1) (rfl) (by omega) (by decide) dX2_search_62 ?_
              refine lv_icmp_ne (tgt := 130) hx hb dX2_search_63 (by decide) (fun c_5 => ?_) (fun c_5 => ?_)
              · have hst : bF (eqF f) (en - a) a (c + 1) = bF (eqF f) (en - a) a k := by rw [bF, hsk, if_neg (fun z => absurd (clen_lt (q := eqF f) (n := en - a) (a := c) (p := a) (k := (bF (eqF f) (en - a) a k).1) (decide_eq_false c_5)) (by omega))]
                refine lv_aload_n hx hb dX2_search_130 rfl (lv_at hl 0 rfl) ?_
                refine va_get (D := D) (ci := 2) (v := .ref nx) (C := RX2) (T := TX2) (N := 11) hx hb hts in_X2 hown hK hP 0 rfl rfl 1 (by decide) (hts _ kX2_15) (fun _ h9 => h9) rfl dX2_search_131 ?_
                refine lv_iload hx hb dX2_search_134 (lv_at hl 4 rfl) ?_
                refine ax_ild hx hb hK hP 2 0 rfl rfl c (rfl) (by omega) (by decide) dX2_search_136 ?_
                refine ri (y := nxC (hsN f) (hsN f a) (bd - (c + 1)) (c + 1)) (by rw [hfx c (by omega) (by omega), hc3]) ?_
                refine lv_istore (lv' := [(4, .int (nxC (hsN f) (hsN f a) (bd - (c + 1)) (c + 1))), (0, .ref h), (1, .int (nxC (hsN f) (hsN f a) (bd - lo) lo)), (2, .int (nI a)), (3, .int (nI (en - a))), (5, .int (nI i))]) hx hb dX2_search_137 hl (by decide) rfl (fun ls hl => ?_)
                refine lv_iinc (v := nI (i + 1)) (lv' := [(5, .int (nI (i + 1))), (4, .int (nxC (hsN f) (hsN f a) (bd - (c + 1)) (c + 1))), (0, .ref h), (1, .int (nxC (hsN f) (hsN f a) (bd - lo) lo)), (2, .int (nI a)), (3, .int (nI (en - a)))]) hx hb dX2_search_139 hl (k := 5) rfl (nI_add i 1) (by decide) rfl (fun ls hl => ?_)
                refine lv_goto (tgt := 13) hx hb dX2_search_142 (by decide) ?_
                have hP : va_P D vwCl [(h, .inr (2, [.ref u, .ref nx, .ref sh, .ref st, .ref wh, .ref wt, .int x1, .int (nI en), .int x2, .int (nI (bF (eqF f) (en - a) a (c + 1)).1), .int (nI (bF (eqF f) (en - a) a (c + 1)).2)])), (u, .inl (cI, 8000, .inl f)), (nx, .inl (cI, 8000, .inl fx))] H := by rw [hst]; exact hP
                have hD : va_D A0 [(h, .inr (2, [.ref u, .ref nx, .ref sh, .ref st, .ref wh, .ref wt, .int x1, .int (nI en), .int x2, .int (nI (bF (eqF f) (en - a) a (c + 1)).1), .int (nI (bF (eqF f) (en - a) a (c + 1)).2)])), (u, .inl (cI, 8000, .inl f)), (nx, .inl (cI, 8000, .inl fx))] := by rw [hst]; exact hD
                exact ih (c + 1) (i + 1) _ _ ls (by omega) (by omega) (by omega) (by omega) (by omega) hP hD hS (lv_sub hl [2, 3, 4, 5, 1, 0] rfl)
              · refine lv_iconst (v := 0) hx hb dX2_search_66 (by decide) ?_
                refine ri (y := nI 0) (nI_0.symm) ?_
                refine lv_istore (lv' := [(6, .int (nI 0)), (0, .ref h), (1, .int (nxC (hsN f) (hsN f a) (bd - lo) lo)), (2, .int (nI a)), (3, .int (nI (en - a))), (4, .int (nI c)), (5, .int (nI i))]) hx hb dX2_search_67 hl (by decide) rfl (fun ls hl => ?_)
                have loopj : ∀ (k9 : Nat) (j : Nat) (H : Heap) (locs : List Loc) (ls : Array Slot), en - a - j < k9 → (j ≤ en - a) → (∀ z, z < j → eqF f (c + z) (a + z) = true) → va_P D vwCl [(h, .inr (2, [.ref u, .ref nx, .ref sh, .ref st, .ref wh, .ref wt, .int x1, .int (nI en), .int x2, .int (nI (bF (eqF f) (en - a) a k).1), .int (nI (bF (eqF f) (en - a) a k).2)])), (u, .inl (cI, 8000, .inl f)), (nx, .inl (cI, 8000, .inl fx))] H → va_D A0 [(h, .inr (2, [.ref u, .ref nx, .ref sh, .ref st, .ref wh, .ref wt, .int x1, .int (nI en), .int x2, .int (nI (bF (eqF f) (en - a) a k).1), .int (nI (bF (eqF f) (en - a) a k).2)])), (u, .inl (cI, 8000, .inl f)), (nx, .inl (cI, 8000, .inl fx))] → va_S A0 s0.heap H locs → lv_has ls 7 [(0, .ref h), (1, .int (nxC (hsN f) (hsN f a) (bd - lo) lo)), (2, .int (nI a)), (3, .int (nI (en - a))), (4, .int (nI c)), (5, .int (nI i)), (6, .int (nI j))] → W p0 l e0 ({ frames := 0, cells := 0, slots := 0, locals := 0 }) s0 m0 ([.ref h, .int (nxC (hsN f) (hsN f a) (bd - lo) lo), .int (nI a)] : List Value).toArray below meth c0 H locs 0 0 Q0 (F0 m0 69 ls []) := by
                  intro k9
                  induction k9 with
                  | zero => intro j H locs ls hk9; exact absurd hk9 (Nat.not_lt_zero _)
                  | succ k9 ihj =>
                    intro j H locs ls hk9 hjn hj hP hD hS hl
                    refine lv_iload hx hb dX2_search_69 (lv_at hl 6 rfl) ?_
                    refine lv_iload_n hx hb dX2_search_71 rfl (lv_at hl 3 rfl) ?_
                    refine lv_icmp_ge (tgt := 103) hx hb dX2_search_72 (by decide) (fun c_6 => ?_) (fun c_6 => ?_)
                    · have hjf : j = en - a := by have := (nI_leI (by omega) (by omega)).mp c_6; omega
                      have hcl : clen (eqF f) (en - a) c a = j := clen_is _ _ _ _ _ hjn hj (Or.inl hjf)
                      refine lv_iload hx hb dX2_search_103 (lv_at hl 6 rfl) ?_
                      refine lv_iconst (v := 4) hx hb dX2_search_105 (by decide) ?_
                      refine lv_icmp_lt (tgt := 130) hx hb dX2_search_106 (by decide) (fun c_7 => ?_) (fun c_7 => ?_)
                      · have hj4 : j < 4 := (nI_ltI (b := 4) (by omega) (by decide)).mp c_7
                        have hst : bF (eqF f) (en - a) a (c + 1) = bF (eqF f) (en - a) a k := by rw [bF, hsk, if_neg (fun z => by rw [hcl] at z; omega)]
                        refine lv_aload_n hx hb dX2_search_130 rfl (lv_at hl 0 rfl) ?_
                        refine va_get (D := D) (ci := 2) (v := .ref nx) (C := RX2) (T := TX2) (N := 11) hx hb hts in_X2 hown hK hP 0 rfl rfl 1 (by decide) (hts _ kX2_15) (fun _ h9 => h9) rfl dX2_search_131 ?_
                        refine lv_iload hx hb dX2_search_134 (lv_at hl 4 rfl) ?_
                        refine ax_ild hx hb hK hP 2 0 rfl rfl c (rfl) (by omega) (by decide) dX2_search_136 ?_
                        refine ri (y := nxC (hsN f) (hsN f a) (bd - (c + 1)) (c + 1)) (by rw [hfx c (by omega) (by omega), hc3]) ?_
                        refine lv_istore (lv' := [(4, .int (nxC (hsN f) (hsN f a) (bd - (c + 1)) (c + 1))), (0, .ref h), (1, .int (nxC (hsN f) (hsN f a) (bd - lo) lo)), (2, .int (nI a)), (3, .int (nI (en - a))), (5, .int (nI i)), (6, .int (nI j))]) hx hb dX2_search_137 hl (by decide) rfl (fun ls hl => ?_)
                        refine lv_iinc (v := nI (i + 1)) (lv' := [(5, .int (nI (i + 1))), (4, .int (nxC (hsN f) (hsN f a) (bd - (c + 1)) (c + 1))), (0, .ref h), (1, .int (nxC (hsN f) (hsN f a) (bd - lo) lo)), (2, .int (nI a)), (3, .int (nI (en - a))), (6, .int (nI j))]) hx hb dX2_search_139 hl (k := 5) rfl (nI_add i 1) (by decide) rfl (fun ls hl => ?_)
                        refine lv_goto (tgt := 13) hx hb dX2_search_142 (by decide) ?_
                        have hP : va_P D vwCl [(h, .inr (2, [.ref u, .ref nx, .ref sh, .ref st, .ref wh, .ref wt, .int x1, .int (nI en), .int x2, .int (nI (bF (eqF f) (en - a) a (c + 1)).1), .int (nI (bF (eqF f) (en - a) a (c + 1)).2)])), (u, .inl (cI, 8000, .inl f)), (nx, .inl (cI, 8000, .inl fx))] H := by rw [hst]; exact hP
                        have hD : va_D A0 [(h, .inr (2, [.ref u, .ref nx, .ref sh, .ref st, .ref wh, .ref wt, .int x1, .int (nI en), .int x2, .int (nI (bF (eqF f) (en - a) a (c + 1)).1), .int (nI (bF (eqF f) (en - a) a (c + 1)).2)])), (u, .inl (cI, 8000, .inl f)), (nx, .inl (cI, 8000, .inl fx))] := by rw [hst]; exact hD
                        exact ih (c + 1) (i + 1) _ _ ls (by omega) (by omega) (by omega) (by omega) (by omega) hP hD hS (lv_sub hl [2, 3, 4, 5, 1, 0] rfl)
                      · have hj4 : 4 ≤ j := Nat.not_lt.mp (fun z => c_7 (nI_lt (b := 4) z (by decide)))
                        refine lv_iload hx hb dX2_search_109 (lv_at hl 6 rfl) ?_
                        refine lv_aload_n hx hb dX2_search_111 rfl (lv_at hl 0 rfl) ?_
                        refine va_get (D := D) (ci := 2) (v := .int (nI (bF (eqF f) (en - a) a k).1)) (C := RX2) (T := TX2) (N := 11) hx hb hts in_X2 hown hK hP 0 rfl rfl 9 (by decide) (hts _ kX2_79) (fun _ h9 => h9) rfl dX2_search_112 ?_
                        refine lv_icmp_le (tgt := 130) hx hb dX2_search_115 (by decide) (fun c_8 => ?_) (fun c_8 => ?_)
                        · have hjs : j ≤ (bF (eqF f) (en - a) a k).1 := (nI_leI (by omega) (by omega)).mp c_8
                          have hst : bF (eqF f) (en - a) a (c + 1) = bF (eqF f) (en - a) a k := by rw [bF, hsk, if_neg (fun z => by rw [hcl] at z; omega)]
                          refine lv_aload_n hx hb dX2_search_130 rfl (lv_at hl 0 rfl) ?_
                          refine va_get (D := D) (ci := 2) (v := .ref nx) (C := RX2) (T := TX2) (N := 11) hx hb hts in_X2 hown hK hP 0 rfl rfl 1 (by decide) (hts _ kX2_15) (fun _ h9 => h9) rfl dX2_search_131 ?_
                          refine lv_iload hx hb dX2_search_134 (lv_at hl 4 rfl) ?_
                          refine ax_ild hx hb hK hP 2 0 rfl rfl c (rfl) (by omega) (by decide) dX2_search_136 ?_
                          refine ri (y := nxC (hsN f) (hsN f a) (bd - (c + 1)) (c + 1)) (by rw [hfx c (by omega) (by omega), hc3]) ?_
                          refine lv_istore (lv' := [(4, .int (nxC (hsN f) (hsN f a) (bd - (c + 1)) (c + 1))), (0, .ref h), (1, .int (nxC (hsN f) (hsN f a) (bd - lo) lo)), (2, .int (nI a)), (3, .int (nI (en - a))), (5, .int (nI i)), (6, .int (nI j))]) hx hb dX2_search_137 hl (by decide) rfl (fun ls hl => ?_)
                          refine lv_iinc (v := nI (i + 1)) (lv' := [(5, .int (nI (i + 1))), (4, .int (nxC (hsN f) (hsN f a) (bd - (c + 1)) (c + 1))), (0, .ref h), (1, .int (nxC (hsN f) (hsN f a) (bd - lo) lo)), (2, .int (nI a)), (3, .int (nI (en - a))), (6, .int (nI j))]) hx hb dX2_search_139 hl (k := 5) rfl (nI_add i 1) (by decide) rfl (fun ls hl => ?_)
                          refine lv_goto (tgt := 13) hx hb dX2_search_142 (by decide) ?_
                          have hP : va_P D vwCl [(h, .inr (2, [.ref u, .ref nx, .ref sh, .ref st, .ref wh, .ref wt, .int x1, .int (nI en), .int x2, .int (nI (bF (eqF f) (en - a) a (c + 1)).1), .int (nI (bF (eqF f) (en - a) a (c + 1)).2)])), (u, .inl (cI, 8000, .inl f)), (nx, .inl (cI, 8000, .inl fx))] H := by rw [hst]; exact hP
                          have hD : va_D A0 [(h, .inr (2, [.ref u, .ref nx, .ref sh, .ref st, .ref wh, .ref wt, .int x1, .int (nI en), .int x2, .int (nI (bF (eqF f) (en - a) a (c + 1)).1), .int (nI (bF (eqF f) (en - a) a (c + 1)).2)])), (u, .inl (cI, 8000, .inl f)), (nx, .inl (cI, 8000, .inl fx))] := by rw [hst]; exact hD
                          exact ih (c + 1) (i + 1) _ _ ls (by omega) (by omega) (by omega) (by omega) (by omega) hP hD hS (lv_sub hl [2, 3, 4, 5, 1, 0] rfl)
                        · have hjs : (bF (eqF f) (en - a) a k).1 < j := Nat.not_le.mp (fun z => c_8 (nI_le z (by omega)))
                          refine lv_aload_n hx hb dX2_search_118 rfl (lv_at hl 0 rfl) ?_
                          refine lv_iload hx hb dX2_search_119 (lv_at hl 6 rfl) ?_
                          refine va_put (D := D) (ci := 2) (v := .int (nI j)) (ty := .int) (C := RX2) (T := TX2) (N := 11) hx hb hts in_X2 tyX2 tyX2_ok nmX2 hown hK hP hD hS 0 rfl rfl 9 (by decide) (hts _ kX2_79) (fun _ h9 => h9) rfl (by decide +kernel) rfl rfl (Nat.le_of_ble_eq_true rfl) dX2_search_121 (fun H locs hP hD hS => ?_)
                          have hP : va_P D vwCl [(h, .inr (2, [.ref u, .ref nx, .ref sh, .ref st, .ref wh, .ref wt, .int x1, .int (nI en), .int x2, .int (nI j), .int (nI (bF (eqF f) (en - a) a k).2)])), (u, .inl (cI, 8000, .inl f)), (nx, .inl (cI, 8000, .inl fx))] H := hP
                          have hD : va_D A0 [(h, .inr (2, [.ref u, .ref nx, .ref sh, .ref st, .ref wh, .ref wt, .int x1, .int (nI en), .int x2, .int (nI j), .int (nI (bF (eqF f) (en - a) a k).2)])), (u, .inl (cI, 8000, .inl f)), (nx, .inl (cI, 8000, .inl fx))] := hD
                          refine lv_aload_n hx hb dX2_search_124 rfl (lv_at hl 0 rfl) ?_
                          refine lv_iload hx hb dX2_search_125 (lv_at hl 4 rfl) ?_
                          refine va_put (D := D) (ci := 2) (v := .int (nI c)) (ty := .int) (C := RX2) (T := TX2) (N := 11) hx hb hts in_X2 tyX2 tyX2_ok nmX2 hown hK hP hD hS 0 rfl rfl 10 (by decide) (hts _ kX2_82) (fun _ h9 => h9) rfl (by decide +kernel) rfl rfl (Nat.le_of_ble_eq_true rfl) dX2_search_127 (fun H locs hP hD hS => ?_)
                          have hP : va_P D vwCl [(h, .inr (2, [.ref u, .ref nx, .ref sh, .ref st, .ref wh, .ref wt, .int x1, .int (nI en), .int x2, .int (nI j), .int (nI c)])), (u, .inl (cI, 8000, .inl f)), (nx, .inl (cI, 8000, .inl fx))] H := hP
                          have hD : va_D A0 [(h, .inr (2, [.ref u, .ref nx, .ref sh, .ref st, .ref wh, .ref wt, .int x1, .int (nI en), .int x2, .int (nI j), .int (nI c)])), (u, .inl (cI, 8000, .inl f)), (nx, .inl (cI, 8000, .inl fx))] := hD
                          have hst : bF (eqF f) (en - a) a (c + 1) = (j, c) := by rw [bF, hsk, hcl, if_pos ⟨hj4, hjs⟩]
                          refine lv_aload_n hx hb dX2_search_130 rfl (lv_at hl 0 rfl) ?_
                          refine va_get (D := D) (ci := 2) (v := .ref nx) (C := RX2) (T := TX2) (N := 11) hx hb hts in_X2 hown hK hP 0 rfl rfl 1 (by decide) (hts _ kX2_15) (fun _ h9 => h9) rfl dX2_search_131 ?_
                          refine lv_iload hx hb dX2_search_134 (lv_at hl 4 rfl) ?_
                          refine ax_ild hx hb hK hP 2 0 rfl rfl c (rfl) (by omega) (by decide) dX2_search_136 ?_
                          refine ri (y := nxC (hsN f) (hsN f a) (bd - (c + 1)) (c + 1)) (by rw [hfx c (by omega) (by omega), hc3]) ?_
                          refine lv_istore (lv' := [(4, .int (nxC (hsN f) (hsN f a) (bd - (c + 1)) (c + 1))), (0, .ref h), (1, .int (nxC (hsN f) (hsN f a) (bd - lo) lo)), (2, .int (nI a)), (3, .int (nI (en - a))), (5, .int (nI i)), (6, .int (nI j))]) hx hb dX2_search_137 hl (by decide) rfl (fun ls hl => ?_)
                          refine lv_iinc (v := nI (i + 1)) (lv' := [(5, .int (nI (i + 1))), (4, .int (nxC (hsN f) (hsN f a) (bd - (c + 1)) (c + 1))), (0, .ref h), (1, .int (nxC (hsN f) (hsN f a) (bd - lo) lo)), (2, .int (nI a)), (3, .int (nI (en - a))), (6, .int (nI j))]) hx hb dX2_search_139 hl (k := 5) rfl (nI_add i 1) (by decide) rfl (fun ls hl => ?_)
                          refine lv_goto (tgt := 13) hx hb dX2_search_142 (by decide) ?_
                          have hP : va_P D vwCl [(h, .inr (2, [.ref u, .ref nx, .ref sh, .ref st, .ref wh, .ref wt, .int x1, .int (nI en), .int x2, .int (nI (bF (eqF f) (en - a) a (c + 1)).1), .int (nI (bF (eqF f) (en - a) a (c + 1)).2)])), (u, .inl (cI, 8000, .inl f)), (nx, .inl (cI, 8000, .inl fx))] H := by rw [hst]; exact hP
                          have hD : va_D A0 [(h, .inr (2, [.ref u, .ref nx, .ref sh, .ref st, .ref wh, .ref wt, .int x1, .int (nI en), .int x2, .int (nI (bF (eqF f) (en - a) a (c + 1)).1), .int (nI (bF (eqF f) (en - a) a (c + 1)).2)])), (u, .inl (cI, 8000, .inl f)), (nx, .inl (cI, 8000, .inl fx))] := by rw [hst]; exact hD
                          exact ih (c + 1) (i + 1) _ _ ls (by omega) (by omega) (by omega) (by omega) (by omega) hP hD hS (lv_sub hl [2, 3, 4, 5, 1, 0] rfl)
                    · have hjf : j < en - a := Nat.not_le.mp (fun z => c_6 (nI_le z (by omega)))
                      refine lv_aload_n hx hb dX2_search_75 rfl (lv_at hl 0 rfl) ?_
                      refine va_get (D := D) (ci := 2) (v := .ref u) (C := RX2) (T := TX2) (N := 11) hx hb hts in_X2 hown hK hP 0 rfl rfl 0 (by decide) (hts _ kX2_11) (fun _ h9 => h9) rfl dX2_search_76 ?_
                      refine lv_iload hx hb dX2_search_79 (lv_at hl 4 rfl) ?_
                      refine lv_iload hx hb dX2_search_81 (lv_at hl 6 rfl) ?_
                      refine lv_iadd hx hb dX2_search_83 ?_
                      refine ri (y := nI (c + j)) (nI_add c j) ?_
                      refine ax_ild hx hb hK hP 1 0 rfl rfl (c + j) (rfl) (by omega) (by decide) dX2_search_84 ?_
                      refine lv_aload_n hx hb dX2_search_85 rfl (lv_at hl 0 rfl) ?_
                      refine va_get (D := D) (ci := 2) (v := .ref u) (C := RX2) (T := TX2) (N := 11) hx hb hts in_X2 hown hK hP 0 rfl rfl 0 (by decide) (hts _ kX2_11) (fun _ h9 => h9) rfl dX2_search_86 ?_
                      refine lv_iload_n hx hb dX2_search_89 rfl (lv_at hl 2 rfl) ?_
                      refine lv_iload hx hb dX2_search_90 (lv_at hl 6 rfl) ?_
                      refine lv_iadd hx hb dX2_search_92 ?_
                      refine ri (y := nI (a + j)) (nI_add a j) ?_
                      refine ax_ild hx hb hK hP 1 0 rfl rfl (a + j) (rfl) (by omega) (by decide) dX2_search_93 ?_
                      refine lv_icmp_ne (tgt := 103) hx hb dX2_search_94 (by decide) (fun c_9 => ?_) (fun c_9 => ?_)
                      · have hcl : clen (eqF f) (en - a) c a = j := clen_is _ _ _ _ _ hjn hj (Or.inr (decide_eq_false c_9))
                        refine lv_iload hx hb dX2_search_103 (lv_at hl 6 rfl) ?_
                        refine lv_iconst (v := 4) hx hb dX2_search_105 (by decide) ?_
                        refine lv_icmp_lt (tgt := 130) hx hb dX2_search_106 (by decide) (fun c_10 => ?_) (fun c_10 => ?_)
                        · have hj4 : j < 4 := (nI_ltI (b := 4) (by omega) (by decide)).mp c_10
                          have hst : bF (eqF f) (en - a) a (c + 1) = bF (eqF f) (en - a) a k := by rw [bF, hsk, if_neg (fun z => by rw [hcl] at z; omega)]
                          refine lv_aload_n hx hb dX2_search_130 rfl (lv_at hl 0 rfl) ?_
                          refine va_get (D := D) (ci := 2) (v := .ref nx) (C := RX2) (T := TX2) (N := 11) hx hb hts in_X2 hown hK hP 0 rfl rfl 1 (by decide) (hts _ kX2_15) (fun _ h9 => h9) rfl dX2_search_131 ?_
                          refine lv_iload hx hb dX2_search_134 (lv_at hl 4 rfl) ?_
                          refine ax_ild hx hb hK hP 2 0 rfl rfl c (rfl) (by omega) (by decide) dX2_search_136 ?_
                          refine ri (y := nxC (hsN f) (hsN f a) (bd - (c + 1)) (c + 1)) (by rw [hfx c (by omega) (by omega), hc3]) ?_
                          refine lv_istore (lv' := [(4, .int (nxC (hsN f) (hsN f a) (bd - (c + 1)) (c + 1))), (0, .ref h), (1, .int (nxC (hsN f) (hsN f a) (bd - lo) lo)), (2, .int (nI a)), (3, .int (nI (en - a))), (5, .int (nI i)), (6, .int (nI j))]) hx hb dX2_search_137 hl (by decide) rfl (fun ls hl => ?_)
                          refine lv_iinc (v := nI (i + 1)) (lv' := [(5, .int (nI (i + 1))), (4, .int (nxC (hsN f) (hsN f a) (bd - (c + 1)) (c + 1))), (0, .ref h), (1, .int (nxC (hsN f) (hsN f a) (bd - lo) lo)), (2, .int (nI a)), (3, .int (nI (en - a))), (6, .int (nI j))]) hx hb dX2_search_139 hl (k := 5) rfl (nI_add i 1) (by decide) rfl (fun ls hl => ?_)
                          refine lv_goto (tgt := 13) hx hb dX2_search_142 (by decide) ?_
                          have hP : va_P D vwCl [(h, .inr (2, [.ref u, .ref nx, .ref sh, .ref st, .ref wh, .ref wt, .int x1, .int (nI en), .int x2, .int (nI (bF (eqF f) (en - a) a (c + 1)).1), .int (nI (bF (eqF f) (en - a) a (c + 1)).2)])), (u, .inl (cI, 8000, .inl f)), (nx, .inl (cI, 8000, .inl fx))] H := by rw [hst]; exact hP
                          have hD : va_D A0 [(h, .inr (2, [.ref u, .ref nx, .ref sh, .ref st, .ref wh, .ref wt, .int x1, .int (nI en), .int x2, .int (nI (bF (eqF f) (en - a) a (c + 1)).1), .int (nI (bF (eqF f) (en - a) a (c + 1)).2)])), (u, .inl (cI, 8000, .inl f)), (nx, .inl (cI, 8000, .inl fx))] := by rw [hst]; exact hD
                          exact ih (c + 1) (i + 1) _ _ ls (by omega) (by omega) (by omega) (by omega) (by omega) hP hD hS (lv_sub hl [2, 3, 4, 5, 1, 0] rfl)
                        · have hj4 : 4 ≤ j := Nat.not_lt.mp (fun z => c_10 (nI_lt (b := 4) z (by decide)))
                          refine lv_iload hx hb dX2_search_109 (lv_at hl 6 rfl) ?_
                          refine lv_aload_n hx hb dX2_search_111 rfl (lv_at hl 0 rfl) ?_
                          refine va_get (D := D) (ci := 2) (v := .int (nI (bF (eqF f) (en - a) a k).1)) (C := RX2) (T := TX2) (N := 11) hx hb hts in_X2 hown hK hP 0 rfl rfl 9 (by decide) (hts _ kX2_79) (fun _ h9 => h9) rfl dX2_search_112 ?_
                          refine lv_icmp_le (tgt := 130) hx hb dX2_search_115 (by decide) (fun c_11 => ?_) (fun c_11 => ?_)
                          · have hjs : j ≤ (bF (eqF f) (en - a) a k).1 := (nI_leI (by omega) (by omega)).mp c_11
                            have hst : bF (eqF f) (en - a) a (c + 1) = bF (eqF f) (en - a) a k := by rw [bF, hsk, if_neg (fun z => by rw [hcl] at z; omega)]
                            refine lv_aload_n hx hb dX2_search_130 rfl (lv_at hl 0 rfl) ?_
                            refine va_get (D := D) (ci := 2) (v := .ref nx) (C := RX2) (T := TX2) (N := 11) hx hb hts in_X2 hown hK hP 0 rfl rfl 1 (by decide) (hts _ kX2_15) (fun _ h9 => h9) rfl dX2_search_131 ?_
                            refine lv_iload hx hb dX2_search_134 (lv_at hl 4 rfl) ?_
                            refine ax_ild hx hb hK hP 2 0 rfl rfl c (rfl) (by omega) (by decide) dX2_search_136 ?_
                            refine ri (y := nxC (hsN f) (hsN f a) (bd - (c + 1)) (c + 1)) (by rw [hfx c (by omega) (by omega), hc3]) ?_
                            refine lv_istore (lv' := [(4, .int (nxC (hsN f) (hsN f a) (bd - (c + 1)) (c + 1))), (0, .ref h), (1, .int (nxC (hsN f) (hsN f a) (bd - lo) lo)), (2, .int (nI a)), (3, .int (nI (en - a))), (5, .int (nI i)), (6, .int (nI j))]) hx hb dX2_search_137 hl (by decide) rfl (fun ls hl => ?_)
                            refine lv_iinc (v := nI (i + 1)) (lv' := [(5, .int (nI (i + 1))), (4, .int (nxC (hsN f) (hsN f a) (bd - (c + 1)) (c + 1))), (0, .ref h), (1, .int (nxC (hsN f) (hsN f a) (bd - lo) lo)), (2, .int (nI a)), (3, .int (nI (en - a))), (6, .int (nI j))]) hx hb dX2_search_139 hl (k := 5) rfl (nI_add i 1) (by decide) rfl (fun ls hl => ?_)
                            refine lv_goto (tgt := 13) hx hb dX2_search_142 (by decide) ?_
                            have hP : va_P D vwCl [(h, .inr (2, [.ref u, .ref nx, .ref sh, .ref st, .ref wh, .ref wt, .int x1, .int (nI en), .int x2, .int (nI (bF (eqF f) (en - a) a (c + 1)).1), .int (nI (bF (eqF f) (en - a) a (c + 1)).2)])), (u, .inl (cI, 8000, .inl f)), (nx, .inl (cI, 8000, .inl fx))] H := by rw [hst]; exact hP
                            have hD : va_D A0 [(h, .inr (2, [.ref u, .ref nx, .ref sh, .ref st, .ref wh, .ref wt, .int x1, .int (nI en), .int x2, .int (nI (bF (eqF f) (en - a) a (c + 1)).1), .int (nI (bF (eqF f) (en - a) a (c + 1)).2)])), (u, .inl (cI, 8000, .inl f)), (nx, .inl (cI, 8000, .inl fx))] := by rw [hst]; exact hD
                            exact ih (c + 1) (i + 1) _ _ ls (by omega) (by omega) (by omega) (by omega) (by omega) hP hD hS (lv_sub hl [2, 3, 4, 5, 1, 0] rfl)
                          · have hjs : (bF (eqF f) (en - a) a k).1 < j := Nat.not_le.mp (fun z => c_11 (nI_le z (by omega)))
                            refine lv_aload_n hx hb dX2_search_118 rfl (lv_at hl 0 rfl) ?_
                            refine lv_iload hx hb dX2_search_119 (lv_at hl 6 rfl) ?_
                            refine va_put (D := D) (ci := 2) (v := .int (nI j)) (ty := .int) (C := RX2) (T := TX2) (N := 11) hx hb hts in_X2 tyX2 tyX2_ok nmX2 hown hK hP hD hS 0 rfl rfl 9 (by decide) (hts _ kX2_79) (fun _ h9 => h9) rfl (by decide +kernel) rfl rfl (Nat.le_of_ble_eq_true rfl) dX2_search_121 (fun H locs hP hD hS => ?_)
                            have hP : va_P D vwCl [(h, .inr (2, [.ref u, .ref nx, .ref sh, .ref st, .ref wh, .ref wt, .int x1, .int (nI en), .int x2, .int (nI j), .int (nI (bF (eqF f) (en - a) a k).2)])), (u, .inl (cI, 8000, .inl f)), (nx, .inl (cI, 8000, .inl fx))] H := hP
                            have hD : va_D A0 [(h, .inr (2, [.ref u, .ref nx, .ref sh, .ref st, .ref wh, .ref wt, .int x1, .int (nI en), .int x2, .int (nI j), .int (nI (bF (eqF f) (en - a) a k).2)])), (u, .inl (cI, 8000, .inl f)), (nx, .inl (cI, 8000, .inl fx))] := hD
                            refine lv_aload_n hx hb dX2_search_124 rfl (lv_at hl 0 rfl) ?_
                            refine lv_iload hx hb dX2_search_125 (lv_at hl 4 rfl) ?_
                            refine va_put (D := D) (ci := 2) (v := .int (nI c)) (ty := .int) (C := RX2) (T := TX2) (N := 11) hx hb hts in_X2 tyX2 tyX2_ok nmX2 hown hK hP hD hS 0 rfl rfl 10 (by decide) (hts _ kX2_82) (fun _ h9 => h9) rfl (by decide +kernel) rfl rfl (Nat.le_of_ble_eq_true rfl) dX2_search_127 (fun H locs hP hD hS => ?_)
                            have hP : va_P D vwCl [(h, .inr (2, [.ref u, .ref nx, .ref sh, .ref st, .ref wh, .ref wt, .int x1, .int (nI en), .int x2, .int (nI j), .int (nI c)])), (u, .inl (cI, 8000, .inl f)), (nx, .inl (cI, 8000, .inl fx))] H := hP
                            have hD : va_D A0 [(h, .inr (2, [.ref u, .ref nx, .ref sh, .ref st, .ref wh, .ref wt, .int x1, .int (nI en), .int x2, .int (nI j), .int (nI c)])), (u, .inl (cI, 8000, .inl f)), (nx, .inl (cI, 8000, .inl fx))] := hD
                            have hst : bF (eqF f) (en - a) a (c + 1) = (j, c) := by rw [bF, hsk, hcl, if_pos ⟨hj4, hjs⟩]
                            refine lv_aload_n hx hb dX2_search_130 rfl (lv_at hl 0 rfl) ?_
                            refine va_get (D := D) (ci := 2) (v := .ref nx) (C := RX2) (T := TX2) (N := 11) hx hb hts in_X2 hown hK hP 0 rfl rfl 1 (by decide) (hts _ kX2_15) (fun _ h9 => h9) rfl dX2_search_131 ?_
                            refine lv_iload hx hb dX2_search_134 (lv_at hl 4 rfl) ?_
                            refine ax_ild hx hb hK hP 2 0 rfl rfl c (rfl) (by omega) (by decide) dX2_search_136 ?_
                            refine ri (y := nxC (hsN f) (hsN f a) (bd - (c + 1)) (c + 1)) (by rw [hfx c (by omega) (by omega), hc3]) ?_
                            refine lv_istore (lv' := [(4, .int (nxC (hsN f) (hsN f a) (bd - (c + 1)) (c + 1))), (0, .ref h), (1, .int (nxC (hsN f) (hsN f a) (bd - lo) lo)), (2, .int (nI a)), (3, .int (nI (en - a))), (5, .int (nI i)), (6, .int (nI j))]) hx hb dX2_search_137 hl (by decide) rfl (fun ls hl => ?_)
                            refine lv_iinc (v := nI (i + 1)) (lv' := [(5, .int (nI (i + 1))), (4, .int (nxC (hsN f) (hsN f a) (bd - (c + 1)) (c + 1))), (0, .ref h), (1, .int (nxC (hsN f) (hsN f a) (bd - lo) lo)), (2, .int (nI a)), (3, .int (nI (en - a))), (6, .int (nI j))]) hx hb dX2_search_139 hl (k := 5) rfl (nI_add i 1) (by decide) rfl (fun ls hl => ?_)
                            refine lv_goto (tgt := 13) hx hb dX2_search_142 (by decide) ?_
                            have hP : va_P D vwCl [(h, .inr (2, [.ref u, .ref nx, .ref sh, .ref st, .ref wh, .ref wt, .int x1, .int (nI en), .int x2, .int (nI (bF (eqF f) (en - a) a (c + 1)).1), .int (nI (bF (eqF f) (en - a) a (c + 1)).2)])), (u, .inl (cI, 8000, .inl f)), (nx, .inl (cI, 8000, .inl fx))] H := by rw [hst]; exact hP
                            have hD : va_D A0 [(h, .inr (2, [.ref u, .ref nx, .ref sh, .ref st, .ref wh, .ref wt, .int x1, .int (nI en), .int x2, .int (nI (bF (eqF f) (en - a) a (c + 1)).1), .int (nI (bF (eqF f) (en - a) a (c + 1)).2)])), (u, .inl (cI, 8000, .inl f)), (nx, .inl (cI, 8000, .inl fx))] := by rw [hst]; exact hD
                            exact ih (c + 1) (i + 1) _ _ ls (by omega) (by omega) (by omega) (by omega) (by omega) hP hD hS (lv_sub hl [2, 3, 4, 5, 1, 0] rfl)
                      · refine lv_iinc (v := nI (j + 1)) (lv' := [(6, .int (nI (j + 1))), (0, .ref h), (1, .int (nxC (hsN f) (hsN f a) (bd - lo) lo)), (2, .int (nI a)), (3, .int (nI (en - a))), (4, .int (nI c)), (5, .int (nI i))]) hx hb dX2_search_97 hl (k := 6) rfl (nI_add j 1) (by decide) rfl (fun ls hl => ?_)
                        refine lv_goto (tgt := 69) hx hb dX2_search_100 (by decide) ?_
                        exact ihj (j + 1) _ _ ls (by omega) (by omega) (fun z hz => if w : z = j then (by rw [w]; exact decide_eq_true c_9) else hj z (by omega)) hP hD hS (lv_sub hl [1, 2, 3, 4, 5, 6, 0] rfl)
                exact loopj _ 0 _ _ ls (Nat.lt_succ_self _) (Nat.zero_le _) (fun z hz => absurd hz (Nat.not_lt_zero z)) hP hD hS (lv_sub hl [1, 2, 3, 4, 5, 6, 0] rfl)
  have hblo := bF_le (eqF f) (en - a) a lo
  exact loop _ lo 0 _ _ ls (Nat.lt_succ_self _) (Nat.zero_le _) (Nat.le_refl _) (hlo) (hla) hP hD hS (lv_sub hl [3, 4, 5, 2, 1, 0] rfl)

set_option maxHeartbeats 4000000 in
set_option maxRecDepth 100000 in
theorem c_Finder_longestAt (l : Launch) (D : va_G) (cI cB cJ cR : ClassId) (h : Nat) (u : Nat) (nx : Nat) (sh : Nat) (st : Nat) (wh : Nat) (wt : Nat) (srt : Nat) (en : Nat) (sv : Int32) (z0 : Nat) (b0 : Nat) (f : Nat → Int32) (fx : Nat → Int32) (shf : Nat → Int32) (stf : Nat → Int32) (whf : Nat → Int32) (wtf : Nat → Int32) (a : Nat) (he : en ≤ 8000) (hae : a ≤ en) (hsa : srt ≤ a) (hss : srt = 0 ∨ srt + 3 ≤ en) (hf : fndI srt en f shf fx stf whf wtf) (hsv : sv = nI a → (z0, b0) = bF (eqF f) (en - a) a a) : CMi l yX2_longestAt cX2_longestAt 3 (some .int) ({ frames := 1, cells := 0, slots := 0, locals := 26 }) D (tyA cI cB cJ cR) 0 0 [.ref h, .int (nI a)] [(h, .inr (2, [.ref u, .ref nx, .ref sh, .ref st, .ref wh, .ref wt, .int (nI srt), .int (nI en), .int sv, .int (nI z0), .int (nI b0)])), (u, .inl (cI, 8000, .inl f)), (nx, .inl (cI, 8000, .inl fx)), (sh, .inl (cI, 1024, .inl shf)), (st, .inl (cI, 1024, .inl stf)), (wh, .inl (cI, 1024, .inl whf)), (wt, .inl (cI, 1024, .inl wtf))] (fun (r : Int32) (_ : Unit) => r = nI (bF (eqF f) (en - a) a a).1) (fun (_ : Unit) => [(h, .inr (2, [.ref u, .ref nx, .ref sh, .ref st, .ref wh, .ref wt, .int (nI srt), .int (nI en), .int (nI a), .int (nI (bF (eqF f) (en - a) a a).1), .int (nI (bF (eqF f) (en - a) a a).2)])), (u, .inl (cI, 8000, .inl f)), (nx, .inl (cI, 8000, .inl fx)), (sh, .inl (cI, 1024, .inl shf)), (st, .inl (cI, 1024, .inl stf)), (wh, .inl (cI, 1024, .inl whf)), (wt, .inl (cI, 1024, .inl wtf))]) := by
  refine st_i (cc := cX2_longestAt) (maxL := 3) (by decide) (Nat.le_of_ble_eq_true rfl) ?_
  intro p0 e0 s0 m0 below meth c0 A0 Q0 hBD hret hP hD hS ls hl
  obtain ⟨hx, hb, hml, hown, hts, hnm, hK, hNw, hMk, hA⟩ := hBD
  have hl : lv_has ls 3 [(0, .ref h), (1, .int (nI a))] := hl
  have hP : va_P D vwCl [(h, .inr (2, [.ref u, .ref nx, .ref sh, .ref st, .ref wh, .ref wt, .int (nI srt), .int (nI en), .int sv, .int (nI z0), .int (nI b0)])), (u, .inl (cI, 8000, .inl f)), (nx, .inl (cI, 8000, .inl fx)), (sh, .inl (cI, 1024, .inl shf)), (st, .inl (cI, 1024, .inl stf)), (wh, .inl (cI, 1024, .inl whf)), (wt, .inl (cI, 1024, .inl wtf))] s0.heap := hP
  have hD : va_D A0 [(h, .inr (2, [.ref u, .ref nx, .ref sh, .ref st, .ref wh, .ref wt, .int (nI srt), .int (nI en), .int sv, .int (nI z0), .int (nI b0)])), (u, .inl (cI, 8000, .inl f)), (nx, .inl (cI, 8000, .inl fx)), (sh, .inl (cI, 1024, .inl shf)), (st, .inl (cI, 1024, .inl stf)), (wh, .inl (cI, 1024, .inl whf)), (wt, .inl (cI, 1024, .inl wtf))] := hD
  refine lv_iload_n hx hb dX2_longestAt_0 rfl (lv_at hl 1 rfl) ?_
  refine lv_aload_n hx hb dX2_longestAt_1 rfl (lv_at hl 0 rfl) ?_
  refine va_get (D := D) (ci := 2) (v := .int sv) (C := RX2) (T := TX2) (N := 11) hx hb hts in_X2 hown hK hP 0 rfl rfl 8 (by decide) (hts _ kX2_71) (fun _ h9 => h9) rfl dX2_longestAt_2 ?_
  refine lv_icmp_ne (tgt := 13) hx hb dX2_longestAt_5 (by decide) (fun c_1 => ?_) (fun c_1 => ?_)
  · refine lv_aload_n hx hb dX2_longestAt_13 rfl (lv_at hl 0 rfl) ?_
    refine lv_iload_n hx hb dX2_longestAt_14 rfl (lv_at hl 1 rfl) ?_
    refine va_put (D := D) (ci := 2) (v := .int (nI a)) (ty := .int) (C := RX2) (T := TX2) (N := 11) hx hb hts in_X2 tyX2 tyX2_ok nmX2 hown hK hP hD hS 0 rfl rfl 8 (by decide) (hts _ kX2_71) (fun _ h9 => h9) rfl (by decide +kernel) rfl rfl (Nat.le_of_ble_eq_true rfl) dX2_longestAt_15 (fun H locs hP hD hS => ?_)
    have hP : va_P D vwCl [(h, .inr (2, [.ref u, .ref nx, .ref sh, .ref st, .ref wh, .ref wt, .int (nI srt), .int (nI en), .int (nI a), .int (nI z0), .int (nI b0)])), (u, .inl (cI, 8000, .inl f)), (nx, .inl (cI, 8000, .inl fx)), (sh, .inl (cI, 1024, .inl shf)), (st, .inl (cI, 1024, .inl stf)), (wh, .inl (cI, 1024, .inl whf)), (wt, .inl (cI, 1024, .inl wtf))] H := hP
    have hD : va_D A0 [(h, .inr (2, [.ref u, .ref nx, .ref sh, .ref st, .ref wh, .ref wt, .int (nI srt), .int (nI en), .int (nI a), .int (nI z0), .int (nI b0)])), (u, .inl (cI, 8000, .inl f)), (nx, .inl (cI, 8000, .inl fx)), (sh, .inl (cI, 1024, .inl shf)), (st, .inl (cI, 1024, .inl stf)), (wh, .inl (cI, 1024, .inl whf)), (wt, .inl (cI, 1024, .inl wtf))] := hD
    refine lv_aload_n hx hb dX2_longestAt_18 rfl (lv_at hl 0 rfl) ?_
    refine lv_iconst (v := 0) hx hb dX2_longestAt_19 (by decide) ?_
    refine ri (y := nI 0) (nI_0.symm) ?_
    refine va_put (D := D) (ci := 2) (v := .int (nI 0)) (ty := .int) (C := RX2) (T := TX2) (N := 11) hx hb hts in_X2 tyX2 tyX2_ok nmX2 hown hK hP hD hS 0 rfl rfl 9 (by decide) (hts _ kX2_79) (fun _ h9 => h9) rfl (by decide +kernel) rfl rfl (Nat.le_of_ble_eq_true rfl) dX2_longestAt_20 (fun H locs hP hD hS => ?_)
    have hP : va_P D vwCl [(h, .inr (2, [.ref u, .ref nx, .ref sh, .ref st, .ref wh, .ref wt, .int (nI srt), .int (nI en), .int (nI a), .int (nI 0), .int (nI b0)])), (u, .inl (cI, 8000, .inl f)), (nx, .inl (cI, 8000, .inl fx)), (sh, .inl (cI, 1024, .inl shf)), (st, .inl (cI, 1024, .inl stf)), (wh, .inl (cI, 1024, .inl whf)), (wt, .inl (cI, 1024, .inl wtf))] H := hP
    have hD : va_D A0 [(h, .inr (2, [.ref u, .ref nx, .ref sh, .ref st, .ref wh, .ref wt, .int (nI srt), .int (nI en), .int (nI a), .int (nI 0), .int (nI b0)])), (u, .inl (cI, 8000, .inl f)), (nx, .inl (cI, 8000, .inl fx)), (sh, .inl (cI, 1024, .inl shf)), (st, .inl (cI, 1024, .inl stf)), (wh, .inl (cI, 1024, .inl whf)), (wt, .inl (cI, 1024, .inl wtf))] := hD
    refine lv_aload_n hx hb dX2_longestAt_23 rfl (lv_at hl 0 rfl) ?_
    refine lv_iconst (v := 0) hx hb dX2_longestAt_24 (by decide) ?_
    refine ri (y := nI 0) (nI_0.symm) ?_
    refine va_put (D := D) (ci := 2) (v := .int (nI 0)) (ty := .int) (C := RX2) (T := TX2) (N := 11) hx hb hts in_X2 tyX2 tyX2_ok nmX2 hown hK hP hD hS 0 rfl rfl 10 (by decide) (hts _ kX2_82) (fun _ h9 => h9) rfl (by decide +kernel) rfl rfl (Nat.le_of_ble_eq_true rfl) dX2_longestAt_25 (fun H locs hP hD hS => ?_)
    have hP : va_P D vwCl [(h, .inr (2, [.ref u, .ref nx, .ref sh, .ref st, .ref wh, .ref wt, .int (nI srt), .int (nI en), .int (nI a), .int (nI 0), .int (nI 0)])), (u, .inl (cI, 8000, .inl f)), (nx, .inl (cI, 8000, .inl fx)), (sh, .inl (cI, 1024, .inl shf)), (st, .inl (cI, 1024, .inl stf)), (wh, .inl (cI, 1024, .inl whf)), (wt, .inl (cI, 1024, .inl wtf))] H := hP
    have hD : va_D A0 [(h, .inr (2, [.ref u, .ref nx, .ref sh, .ref st, .ref wh, .ref wt, .int (nI srt), .int (nI en), .int (nI a), .int (nI 0), .int (nI 0)])), (u, .inl (cI, 8000, .inl f)), (nx, .inl (cI, 8000, .inl fx)), (sh, .inl (cI, 1024, .inl shf)), (st, .inl (cI, 1024, .inl stf)), (wh, .inl (cI, 1024, .inl whf)), (wt, .inl (cI, 1024, .inl wtf))] := hD
    refine lv_iload_n hx hb dX2_longestAt_28 rfl (lv_at hl 1 rfl) ?_
    refine lv_if_lt (tgt := 70) hx hb dX2_longestAt_29 (by decide) (fun c_2 => absurd c_2 (nI_pos (by omega))) (fun c_2 => ?_)
    refine lv_iload_n hx hb dX2_longestAt_32 rfl (lv_at hl 1 rfl) ?_
    refine lv_iconst (v := 4) hx hb dX2_longestAt_33 (by decide) ?_
    refine lv_iadd hx hb dX2_longestAt_34 ?_
    refine ri (y := nI (a + 4)) (nI_add a 4) ?_
    refine lv_aload_n hx hb dX2_longestAt_35 rfl (lv_at hl 0 rfl) ?_
    refine va_get (D := D) (ci := 2) (v := .int (nI en)) (C := RX2) (T := TX2) (N := 11) hx hb hts in_X2 hown hK hP 0 rfl rfl 7 (by decide) (hts _ kX2_40) (fun _ h9 => h9) rfl dX2_longestAt_36 ?_
    refine lv_icmp_gt (tgt := 70) hx hb dX2_longestAt_39 (by decide) (fun c_3 => ?_) (fun c_3 => ?_)
    · have hs4 : ¬ a + 4 ≤ en := fun z => absurd (nI_le z (by omega)) (Int32.not_le.mpr c_3)
      have hst : bF (eqF f) (en - a) a a = (0, 0) := (bF_skip (eqF f) (en - a) a (lo := 0) a (Nat.zero_le _) (fun d _ _ => Or.inl (by have := clen_le (eqF f) (en - a) d a; omega)))
      refine lv_aload_n hx hb dX2_longestAt_70 rfl (lv_at hl 0 rfl) ?_
      refine va_get (D := D) (ci := 2) (v := .int (nI 0)) (C := RX2) (T := TX2) (N := 11) hx hb hts in_X2 hown hK hP 0 rfl rfl 9 (by decide) (hts _ kX2_79) (fun _ h9 => h9) rfl dX2_longestAt_71 ?_
      have hP : va_P D vwCl [(h, .inr (2, [.ref u, .ref nx, .ref sh, .ref st, .ref wh, .ref wt, .int (nI srt), .int (nI en), .int (nI a), .int (nI (bF (eqF f) (en - a) a a).1), .int (nI (bF (eqF f) (en - a) a a).2)])), (u, .inl (cI, 8000, .inl f)), (nx, .inl (cI, 8000, .inl fx)), (sh, .inl (cI, 1024, .inl shf)), (st, .inl (cI, 1024, .inl stf)), (wh, .inl (cI, 1024, .inl whf)), (wt, .inl (cI, 1024, .inl wtf))] H := by rw [hst]; exact hP
      have hD : va_D A0 [(h, .inr (2, [.ref u, .ref nx, .ref sh, .ref st, .ref wh, .ref wt, .int (nI srt), .int (nI en), .int (nI a), .int (nI (bF (eqF f) (en - a) a a).1), .int (nI (bF (eqF f) (en - a) a a).2)])), (u, .inl (cI, 8000, .inl f)), (nx, .inl (cI, 8000, .inl fx)), (sh, .inl (cI, 1024, .inl shf)), (st, .inl (cI, 1024, .inl stf)), (wh, .inl (cI, 1024, .inl whf)), (wt, .inl (cI, 1024, .inl wtf))] := by rw [hst]; exact hD
      exact hret 74 ls _ _ _ () dX2_longestAt_74 hP hD hS (by rw [hst])
    · have hs4 : a + 4 ≤ en := (nI_leI (by omega) (by omega)).mp (Int32.not_lt.mp c_3)
      refine lv_aload_n hx hb dX2_longestAt_42 rfl (lv_at hl 0 rfl) ?_
      refine lv_iload_n hx hb dX2_longestAt_43 rfl (lv_at hl 1 rfl) ?_
      refine jn_i (wr := [(nx, .inl (cI, 8000, .inl fx)), (sh, .inl (cI, 1024, .inl shf)), (st, .inl (cI, 1024, .inl stf)), (wh, .inl (cI, 1024, .inl whf)), (wt, .inl (cI, 1024, .inl wtf))]) hA hP hD hS [0, 1] [2, 3, 4, 5, 6] rfl rfl (by decide) (by decide) (rn_V (As := [.int (nI a)]) (rest := []) ⟨hx, hb, hml, hown, hts⟩ (cvV 1 hts zc_yX2_chainAt zi_X2 zm_yX2_chainAt zv_yX2_chainAt kX2_74 (by decide +kernel) rfl rfl ⟨Nat.le_of_ble_eq_true rfl, Nat.le_of_ble_eq_true rfl⟩) (c_Finder_chainAt l D cI cB cJ cR h u nx sh st wh wt (nI srt) (nI a) (nI 0) (nI 0) (nI en) f a (by omega) H.size) hK hNw hMk hA hP hD hS [0, 1] rfl rfl (by decide) 0 rfl rfl rfl rfl hl.1 rfl (Nat.le_of_ble_eq_true rfl) dX2_longestAt_44 ⟨Nat.le_of_ble_eq_true rfl, Nat.le_of_ble_eq_true rfl⟩) (fun r_4 u9 H locs w_5 hP hD hS => ?_)
      try dsimp only at w_5
      have hP : va_P D vwCl [(nx, .inl (cI, 8000, .inl fx)), (sh, .inl (cI, 1024, .inl shf)), (st, .inl (cI, 1024, .inl stf)), (wh, .inl (cI, 1024, .inl whf)), (wt, .inl (cI, 1024, .inl wtf)), (h, .inr (2, [.ref u, .ref nx, .ref sh, .ref st, .ref wh, .ref wt, .int (nI srt), .int (nI en), .int (nI a), .int (nI 0), .int (nI 0)])), (u, .inl (cI, 8000, .inl f))] H := hP
      have hD : va_D A0 [(nx, .inl (cI, 8000, .inl fx)), (sh, .inl (cI, 1024, .inl shf)), (st, .inl (cI, 1024, .inl stf)), (wh, .inl (cI, 1024, .inl whf)), (wt, .inl (cI, 1024, .inl wtf)), (h, .inr (2, [.ref u, .ref nx, .ref sh, .ref st, .ref wh, .ref wt, .int (nI srt), .int (nI en), .int (nI a), .int (nI 0), .int (nI 0)])), (u, .inl (cI, 8000, .inl f))] := hD
      subst w_5
      have hq := hsN_lt f a
      have hb0 : bF (eqF f) (en - a) a 0 = (0, 0) := rfl
      refine lv_istore_n (lv' := [(2, .int (nI (hsN f a))), (0, .ref h), (1, .int (nI a))]) hx hb dX2_longestAt_47 rfl hl (by decide) rfl (fun ls hl => ?_)
      refine lv_aload_n hx hb dX2_longestAt_48 rfl (lv_at hl 1 rfl) ?_
      refine lv_aload_n hx hb dX2_longestAt_49 rfl (lv_at hl 1 rfl) ?_
      refine va_get (D := D) (ci := 2) (v := .ref sh) (C := RX2) (T := TX2) (N := 11) hx hb hts in_X2 hown hK hP 5 rfl rfl 2 (by decide) (hts _ kX2_18) (fun _ h9 => h9) rfl dX2_longestAt_50 ?_
      refine lv_iload_n hx hb dX2_longestAt_53 rfl (lv_at hl 0 rfl) ?_
      refine ax_ild hx hb hK hP 1 0 rfl rfl (hsN f a) (rfl) (hq) (by decide) dX2_longestAt_54 ?_
      refine ri (y := nxC (hsN f) (hsN f a) (srt - 0) 0) (hf.1.1 _ hq) ?_
      refine lv_iload_n hx hb dX2_longestAt_55 rfl (lv_at hl 2 rfl) ?_
      refine jn_v (wr := [(sh, .inl (cI, 1024, .inl shf)), (st, .inl (cI, 1024, .inl stf)), (wh, .inl (cI, 1024, .inl whf)), (wt, .inl (cI, 1024, .inl wtf))]) hA hP hD hS [5, 6, 0] [1, 2, 3, 4] rfl rfl (by decide) (by decide) (rn_V (As := [.int (nxC (hsN f) (hsN f a) (srt - 0) 0), .int (nI a)]) (rest := []) ⟨hx, hb, hml, hown, hts⟩ (cvV 2 hts zc_yX2_search zi_X2 zm_yX2_search zv_yX2_search kX2_85 (by decide +kernel) rfl rfl ⟨Nat.le_of_ble_eq_true rfl, Nat.le_of_ble_eq_true rfl⟩) (c_Finder_search l D cI cB cJ cR h u nx sh st wh wt (nI srt) (nI a) en f fx 0 srt a (he) (hs4) (Nat.zero_le _) (Nat.zero_le _) (by omega) (fun d d1 d2 => hf.1.2.1 d d1 d2) H.size) hK hNw hMk hA hP hD hS [5, 6, 0] rfl rfl (by decide) 0 rfl rfl rfl rfl hl.1 rfl (Nat.le_of_ble_eq_true rfl) dX2_longestAt_56 ⟨Nat.le_of_ble_eq_true rfl, Nat.le_of_ble_eq_true rfl⟩) (fun u9 H locs w_7 hP hD hS => ?_)
      try dsimp only at w_7
      have hP : va_P D vwCl [(sh, .inl (cI, 1024, .inl shf)), (st, .inl (cI, 1024, .inl stf)), (wh, .inl (cI, 1024, .inl whf)), (wt, .inl (cI, 1024, .inl wtf)), (h, .inr (2, [.ref u, .ref nx, .ref sh, .ref st, .ref wh, .ref wt, .int (nI srt), .int (nI en), .int (nI a), .int (nI (bF (eqF f) (en - a) a (min srt a)).1), .int (nI (bF (eqF f) (en - a) a (min srt a)).2)])), (u, .inl (cI, 8000, .inl f)), (nx, .inl (cI, 8000, .inl fx))] H := hP
      have hD : va_D A0 [(sh, .inl (cI, 1024, .inl shf)), (st, .inl (cI, 1024, .inl stf)), (wh, .inl (cI, 1024, .inl whf)), (wt, .inl (cI, 1024, .inl wtf)), (h, .inr (2, [.ref u, .ref nx, .ref sh, .ref st, .ref wh, .ref wt, .int (nI srt), .int (nI en), .int (nI a), .int (nI (bF (eqF f) (en - a) a (min srt a)).1), .int (nI (bF (eqF f) (en - a) a (min srt a)).2)])), (u, .inl (cI, 8000, .inl f)), (nx, .inl (cI, 8000, .inl fx))] := hD
      have hmn : min srt a = srt := by omega
      rw [hmn] at hP hD
      have hP : va_P D vwCl [(sh, .inl (cI, 1024, .inl shf)), (st, .inl (cI, 1024, .inl stf)), (wh, .inl (cI, 1024, .inl whf)), (wt, .inl (cI, 1024, .inl wtf)), (h, .inr (2, [.ref u, .ref nx, .ref sh, .ref st, .ref wh, .ref wt, .int (nI srt), .int (nI en), .int (nI a), .int (nI (bF (eqF f) (en - a) a srt).1), .int (nI (bF (eqF f) (en - a) a srt).2)])), (u, .inl (cI, 8000, .inl f)), (nx, .inl (cI, 8000, .inl fx))] H := hP
      have hD : va_D A0 [(sh, .inl (cI, 1024, .inl shf)), (st, .inl (cI, 1024, .inl stf)), (wh, .inl (cI, 1024, .inl whf)), (wt, .inl (cI, 1024, .inl wtf)), (h, .inr (2, [.ref u, .ref nx, .ref sh, .ref st, .ref wh, .ref wt, .int (nI srt), .int (nI en), .int (nI a), .int (nI (bF (eqF f) (en - a) a srt).1), .int (nI (bF (eqF f) (en - a) a srt).2)])), (u, .inl (cI, 8000, .inl f)), (nx, .inl (cI, 8000, .inl fx))] := hD
      have hwb : wbd srt en = en - 3 := by unfold wbd; rw [if_pos (by omega)]
      have hf2 := hf.2
      rw [hwb] at hf2
      refine lv_aload_n hx hb dX2_longestAt_59 rfl (lv_at hl 1 rfl) ?_
      refine lv_aload_n hx hb dX2_longestAt_60 rfl (lv_at hl 1 rfl) ?_
      refine va_get (D := D) (ci := 2) (v := .ref wh) (C := RX2) (T := TX2) (N := 11) hx hb hts in_X2 hown hK hP 4 rfl rfl 4 (by decide) (hts _ kX2_24) (fun _ h9 => h9) rfl dX2_longestAt_61 ?_
      refine lv_iload_n hx hb dX2_longestAt_64 rfl (lv_at hl 0 rfl) ?_
      refine ax_ild hx hb hK hP 2 0 rfl rfl (hsN f a) (rfl) (hq) (by decide) dX2_longestAt_65 ?_
      refine ri (y := nxC (hsN f) (hsN f a) (en - 3 - srt) srt) (hf2.1 _ hq) ?_
      refine lv_iload_n hx hb dX2_longestAt_66 rfl (lv_at hl 2 rfl) ?_
      refine jn_v (wr := [(sh, .inl (cI, 1024, .inl shf)), (st, .inl (cI, 1024, .inl stf)), (wh, .inl (cI, 1024, .inl whf)), (wt, .inl (cI, 1024, .inl wtf))]) hA hP hD hS [4, 5, 6] [0, 1, 2, 3] rfl rfl (by decide) (by decide) (rn_V (As := [.int (nxC (hsN f) (hsN f a) ((en - 3) - srt) srt), .int (nI a)]) (rest := []) ⟨hx, hb, hml, hown, hts⟩ (cvV 2 hts zc_yX2_search zi_X2 zm_yX2_search zv_yX2_search kX2_85 (by decide +kernel) rfl rfl ⟨Nat.le_of_ble_eq_true rfl, Nat.le_of_ble_eq_true rfl⟩) (c_Finder_search l D cI cB cJ cR h u nx sh st wh wt (nI srt) (nI a) en f fx srt (en - 3) a (he) (hs4) (by omega) (hsa) (by omega) (fun d d1 d2 => hf2.2.1 d d1 d2) H.size) hK hNw hMk hA hP hD hS [4, 5, 6] rfl rfl (by decide) 0 rfl rfl rfl rfl hl.1 rfl (Nat.le_of_ble_eq_true rfl) dX2_longestAt_67 ⟨Nat.le_of_ble_eq_true rfl, Nat.le_of_ble_eq_true rfl⟩) (fun u9 H locs w_9 hP hD hS => ?_)
      try dsimp only at w_9
      have hP : va_P D vwCl [(sh, .inl (cI, 1024, .inl shf)), (st, .inl (cI, 1024, .inl stf)), (wh, .inl (cI, 1024, .inl whf)), (wt, .inl (cI, 1024, .inl wtf)), (h, .inr (2, [.ref u, .ref nx, .ref sh, .ref st, .ref wh, .ref wt, .int (nI srt), .int (nI en), .int (nI a), .int (nI (bF (eqF f) (en - a) a (min (en - 3) a)).1), .int (nI (bF (eqF f) (en - a) a (min (en - 3) a)).2)])), (u, .inl (cI, 8000, .inl f)), (nx, .inl (cI, 8000, .inl fx))] H := hP
      have hD : va_D A0 [(sh, .inl (cI, 1024, .inl shf)), (st, .inl (cI, 1024, .inl stf)), (wh, .inl (cI, 1024, .inl whf)), (wt, .inl (cI, 1024, .inl wtf)), (h, .inr (2, [.ref u, .ref nx, .ref sh, .ref st, .ref wh, .ref wt, .int (nI srt), .int (nI en), .int (nI a), .int (nI (bF (eqF f) (en - a) a (min (en - 3) a)).1), .int (nI (bF (eqF f) (en - a) a (min (en - 3) a)).2)])), (u, .inl (cI, 8000, .inl f)), (nx, .inl (cI, 8000, .inl fx))] := hD
      have hmn2 : min (en - 3) a = a := by omega
      rw [hmn2] at hP hD
      have hP : va_P D vwCl [(sh, .inl (cI, 1024, .inl shf)), (st, .inl (cI, 1024, .inl stf)), (wh, .inl (cI, 1024, .inl whf)), (wt, .inl (cI, 1024, .inl wtf)), (h, .inr (2, [.ref u, .ref nx, .ref sh, .ref st, .ref wh, .ref wt, .int (nI srt), .int (nI en), .int (nI a), .int (nI (bF (eqF f) (en - a) a a).1), .int (nI (bF (eqF f) (en - a) a a).2)])), (u, .inl (cI, 8000, .inl f)), (nx, .inl (cI, 8000, .inl fx))] H := hP
      have hD : va_D A0 [(sh, .inl (cI, 1024, .inl shf)), (st, .inl (cI, 1024, .inl stf)), (wh, .inl (cI, 1024, .inl whf)), (wt, .inl (cI, 1024, .inl wtf)), (h, .inr (2, [.ref u, .ref nx, .ref sh, .ref st, .ref wh, .ref wt, .int (nI srt), .int (nI en), .int (nI a), .int (nI (bF (eqF f) (en - a) a a).1), .int (nI (bF (eqF f) (en - a) a a).2)])), (u, .inl (cI, 8000, .inl f)), (nx, .inl (cI, 8000, .inl fx))] := hD
      refine lv_aload_n hx hb dX2_longestAt_70 rfl (lv_at hl 1 rfl) ?_
      refine va_get (D := D) (ci := 2) (v := .int (nI (bF (eqF f) (en - a) a a).1)) (C := RX2) (T := TX2) (N := 11) hx hb hts in_X2 hown hK hP 4 rfl rfl 9 (by decide) (hts _ kX2_79) (fun _ h9 => h9) rfl dX2_longestAt_71 ?_
      have hP := hP.sub (ws' := [(h, .inr (2, [.ref u, .ref nx, .ref sh, .ref st, .ref wh, .ref wt, .int (nI srt), .int (nI en), .int (nI a), .int (nI (bF (eqF f) (en - a) a a).1), .int (nI (bF (eqF f) (en - a) a a).2)])), (u, .inl (cI, 8000, .inl f)), (nx, .inl (cI, 8000, .inl fx)), (sh, .inl (cI, 1024, .inl shf)), (st, .inl (cI, 1024, .inl stf)), (wh, .inl (cI, 1024, .inl whf)), (wt, .inl (cI, 1024, .inl wtf))]) [4, 5, 6, 0, 1, 2, 3] rfl
      have hD := hD.sub (ws' := [(h, .inr (2, [.ref u, .ref nx, .ref sh, .ref st, .ref wh, .ref wt, .int (nI srt), .int (nI en), .int (nI a), .int (nI (bF (eqF f) (en - a) a a).1), .int (nI (bF (eqF f) (en - a) a a).2)])), (u, .inl (cI, 8000, .inl f)), (nx, .inl (cI, 8000, .inl fx)), (sh, .inl (cI, 1024, .inl shf)), (st, .inl (cI, 1024, .inl stf)), (wh, .inl (cI, 1024, .inl whf)), (wt, .inl (cI, 1024, .inl wtf))]) [4, 5, 6, 0, 1, 2, 3] (by decide) rfl
      exact hret 74 ls _ _ _ () dX2_longestAt_74 hP hD hS (rfl)
  · have hcv := hsv c_1.symm
    refine lv_aload_n hx hb dX2_longestAt_8 rfl (lv_at hl 0 rfl) ?_
    refine va_get (D := D) (ci := 2) (v := .int (nI z0)) (C := RX2) (T := TX2) (N := 11) hx hb hts in_X2 hown hK hP 0 rfl rfl 9 (by decide) (hts _ kX2_79) (fun _ h9 => h9) rfl dX2_longestAt_9 ?_
    have e1 : z0 = (bF (eqF f) (en - a) a a).1 := by rw [← hcv]
    have e2 : b0 = (bF (eqF f) (en - a) a a).2 := by rw [← hcv]
    have hP : va_P D vwCl [(h, .inr (2, [.ref u, .ref nx, .ref sh, .ref st, .ref wh, .ref wt, .int (nI srt), .int (nI en), .int (nI a), .int (nI (bF (eqF f) (en - a) a a).1), .int (nI (bF (eqF f) (en - a) a a).2)])), (u, .inl (cI, 8000, .inl f)), (nx, .inl (cI, 8000, .inl fx)), (sh, .inl (cI, 1024, .inl shf)), (st, .inl (cI, 1024, .inl stf)), (wh, .inl (cI, 1024, .inl whf)), (wt, .inl (cI, 1024, .inl wtf))] s0.heap := by rw [← e1, ← e2, c_1]; exact hP
    have hD : va_D A0 [(h, .inr (2, [.ref u, .ref nx, .ref sh, .ref st, .ref wh, .ref wt, .int (nI srt), .int (nI en), .int (nI a), .int (nI (bF (eqF f) (en - a) a a).1), .int (nI (bF (eqF f) (en - a) a a).2)])), (u, .inl (cI, 8000, .inl f)), (nx, .inl (cI, 8000, .inl fx)), (sh, .inl (cI, 1024, .inl shf)), (st, .inl (cI, 1024, .inl stf)), (wh, .inl (cI, 1024, .inl whf)), (wt, .inl (cI, 1024, .inl wtf))] := by rw [← e1, ← e2, c_1]; exact hD
    exact hret 12 ls _ _ _ () dX2_longestAt_12 hP hD hS (by rw [← e1])
