/-! MATCHES: how long two places are alike; the longest one, of these the least address -/
def clen (q : Nat → Nat → Bool) : Nat → Nat → Nat → Nat
  | 0, _, _ => 0
  | n + 1, a, p => if q a p then clen q n (a + 1) (p + 1) + 1 else 0
theorem clen_le (q : Nat → Nat → Bool) : ∀ n a p, clen q n a p ≤ n
  | 0, _, _ => Nat.le_refl _
  | n + 1, a, p => by
    have := clen_le q n (a + 1) (p + 1)
    unfold clen; split <;> omega
theorem clen_all (q : Nat → Nat → Bool) : ∀ n a p k, k < clen q n a p → q (a + k) (p + k) = true
  | 0, _, _, _ => fun h => absurd h (Nat.not_lt_zero _)
  | n + 1, a, p, k => fun h => by
    unfold clen at h
    by_cases hq : q a p = true
    · rw [if_pos hq] at h
      cases k with
      | zero => exact hq
      | succ k =>
        have := clen_all q n (a + 1) (p + 1) k (by omega)
        rw [show a + (k + 1) = a + 1 + k by omega, show p + (k + 1) = p + 1 + k by omega]; exact this
    · rw [if_neg hq] at h; exact absurd h (Nat.not_lt_zero _)
theorem clen_is (q : Nat → Nat → Bool) : ∀ n a p k, k ≤ n → (∀ i, i < k → q (a + i) (p + i) = true) → (k = n ∨ q (a + k) (p + k) = false) → clen q n a p = k
  | 0, a, p, k => fun h _ _ => by simp [clen]; omega
  | n + 1, a, p, k => fun h h1 h2 => by
    unfold clen
    cases k with
    | zero =>
      have h3 : q a p = false := h2.resolve_left (by omega)
      rw [h3]; rfl
    | succ k =>
      rw [if_pos (show q a p = true from h1 0 (by omega))]
      rw [clen_is q n (a + 1) (p + 1) k (by omega) (fun i hi => by rw [show a + 1 + i = a + (i + 1) by omega, show p + 1 + i = p + (i + 1) by omega]; exact h1 (i + 1) (by omega)) (by
        rcases h2 with h2 | h2
        · exact Or.inl (by omega)
        · exact Or.inr (by rw [show a + 1 + k = a + (k + 1) by omega, show p + 1 + k = p + (k + 1) by omega]; exact h2))]
/-- the longest match among the addresses below k, of n octets at the most, at p -/
def bmA (q : Nat → Nat → Bool) (n p : Nat) : Nat → Nat × Nat
  | 0 => (0, 0)
  | k + 1 => if (bmA q n p k).1 < clen q n k p then (clen q n k p, k) else bmA q n p k
/-- the same of those of four octets or more -/
def bF (q : Nat → Nat → Bool) (n p : Nat) : Nat → Nat × Nat
  | 0 => (0, 0)
  | k + 1 => if 4 ≤ clen q n k p ∧ (bF q n p k).1 < clen q n k p then (clen q n k p, k) else bF q n p k
theorem bF_bm (q : Nat → Nat → Bool) (n p : Nat) : ∀ k, bF q n p k = if 4 ≤ (bmA q n p k).1 then bmA q n p k else (0, 0)
  | 0 => by simp [bF, bmA]
  | k + 1 => by
    have ih := bF_bm q n p k
    unfold bF bmA
    by_cases h4 : 4 ≤ (bmA q n p k).1
    · rw [if_pos h4] at ih
      rw [ih]
      by_cases hc : (bmA q n p k).1 < clen q n k p
      · rw [if_pos ⟨by omega, hc⟩, if_pos hc, if_pos (by show 4 ≤ clen q n k p; omega)]
      · rw [if_neg (fun z => hc z.2), if_neg hc, if_pos h4]
    · rw [if_neg h4] at ih
      rw [ih]
      by_cases hc : (bmA q n p k).1 < clen q n k p
      · rw [if_pos hc]
        by_cases h5 : 4 ≤ clen q n k p
        · rw [if_pos ⟨h5, by show 0 < _; omega⟩, if_pos h5]
        · rw [if_neg (fun z => h5 z.1), if_neg h5]
      · rw [if_neg hc, if_neg h4, if_neg (fun z => by omega)]
theorem bF_le (q : Nat → Nat → Bool) (n p : Nat) : ∀ k, (bF q n p k).1 ≤ n ∧ ((bF q n p k).2 < k ∨ (bF q n p k).2 = 0) ∧ (0 < (bF q n p k).1 → (bF q n p k).2 < k ∧ 4 ≤ (bF q n p k).1)
  | 0 => ⟨Nat.zero_le _, Or.inr rfl, fun h => absurd h (Nat.lt_irrefl _)⟩
  | k + 1 => by
    have ih := bF_le q n p k
    unfold bF
    split
    · rename_i h; exact ⟨clen_le q n k p, Or.inl (by show k < k + 1; omega), fun _ => ⟨by show k < k + 1; omega, h.1⟩⟩
    · refine ⟨ih.1, ?_, fun h => ⟨by have := (ih.2.2 h).1; omega, (ih.2.2 h).2⟩⟩
      rcases ih.2.1 with h | h
      · exact Or.inl (by omega)
      · exact Or.inr h
/-- addresses at which fewer than four are alike change nothing -/
theorem bF_skip (q : Nat → Nat → Bool) (n p : Nat) {lo : Nat} : ∀ hi, lo ≤ hi → (∀ d, lo ≤ d → d < hi → clen q n d p < 4 ∨ clen q n d p ≤ (bF q n p lo).1) → bF q n p hi = bF q n p lo
  | 0 => fun h _ => by rw [show lo = 0 by omega]
  | hi + 1 => fun h h1 => by
    by_cases hl : lo = hi + 1
    · rw [hl]
    · have ih := bF_skip q n p hi (by omega) (fun d d1 d2 => h1 d d1 (by omega))
      rw [bF, ih]
      rw [if_neg (fun z => by rcases h1 hi (by omega) (by omega) with w | w <;> omega)]
def eqF (f : Nat → Int32) (a p : Nat) : Bool := decide (f a = f p)
def four (f : Nat → Int32) (a : Nat) : Int32 := (f a <<< (24 &&& 31) ||| f (a + 1) <<< (16 &&& 31)) ||| f (a + 2) <<< (8 &&& 31) ||| f (a + 3)
def hsN (f : Nat → Int32) (a : Nat) : Nat := (four f a * (-1640531535)).toBitVec.toNat / 2 ^ 22
theorem hsN_lt (f : Nat → Int32) (a : Nat) : hsN f a < 1024 := by
  have := (four f a * (-1640531535)).toBitVec.isLt
  unfold hsN; omega
theorem nI_all (x : Int32) : x = nI x.toBitVec.toNat := Int32.toBitVec_inj.mp (BitVec.eq_of_toNat_eq (by rw [pk_tn x.toBitVec.isLt]))
theorem hs_eq (f : Nat → Int32) (a : Nat) : ((four f a * (-1640531535)).toUInt32 >>> ((22 : Int32).toUInt32 &&& Int32.toUInt32 31)).toInt32 = nI (hsN f a) := by
  have h := pk_ushrN (n := (four f a * (-1640531535)).toBitVec.toNat) (four f a * (-1640531535)).toBitVec.isLt 22 22 (by decide)
  rw [← nI_all] at h
  exact h
theorem hs_of4 {f : Nat → Int32} {n a p : Nat} (h : 4 ≤ clen (eqF f) n a p) : hsN f a = hsN f p := by
  have e := fun k hk => of_decide_eq_true (clen_all (eqF f) n a p k hk)
  have e0 := e 0 (by omega)
  have e1 := e 1 (by omega)
  have e2 := e 2 (by omega)
  have e3 := e 3 (by omega)
  simp only [Nat.add_zero] at e0
  unfold hsN four
  rw [e0, e1, e2, e3]
/-- how often the octet at p stands there on end, up to e -/
def runF (f : Nat → Int32) (p : Nat) : Nat → Nat → Nat
  | 0, _ => 0
  | n + 1, k => if f k = f p then runF f p n (k + 1) + 1 else 0
set_option maxHeartbeats 4000000 in
set_option maxRecDepth 100000 in
theorem c_Finder_runAt (l : Launch) (D : va_G) (cI cB cJ cR : ClassId) (h : Nat) (u : Nat) (nx : Nat) (sh : Nat) (st : Nat) (wh : Nat) (wt : Nat) (x1 : Int32) (x2 : Int32) (x3 : Int32) (x4 : Int32) (en : Nat) (f : Nat → Int32) (a : Nat) (he : en ≤ 8000) (ha : a < en) : CMi l yX2_runAt cX2_runAt 3 (some .int) ({ frames := 0, cells := 0, slots := 0, locals := 0 }) D (tyA cI cB cJ cR) 0 0 [.ref h, .int (nI a)] [(h, .inr (2, [.ref u, .ref nx, .ref sh, .ref st, .ref wh, .ref wt, .int x1, .int (nI en), .int x2, .int x3, .int x4])), (u, .inl (cI, 8000, .inl f))] (fun (r : Int32) (_ : Unit) => r = nI (runF f a (en - a) a)) (fun (_ : Unit) => [(h, .inr (2, [.ref u, .ref nx, .ref sh, .ref st, .ref wh, .ref wt, .int x1, .int (nI en), .int x2, .int x3, .int x4])), (u, .inl (cI, 8000, .inl f))]) := by
  refine st_i (cc := cX2_runAt) (maxL := 3) (by decide) (Nat.le_of_ble_eq_true rfl) ?_
  intro p0 e0 s0 m0 below meth c0 A0 Q0 hBD hret hP hD hS ls hl
  obtain ⟨hx, hb, hml, hown, hts, hnm, hK, hNw, hMk, hA⟩ := hBD
  have hl : lv_has ls 3 [(0, .ref h), (1, .int (nI a))] := hl
  have hP : va_P D vwCl [(h, .inr (2, [.ref u, .ref nx, .ref sh, .ref st, .ref wh, .ref wt, .int x1, .int (nI en), .int x2, .int x3, .int x4])), (u, .inl (cI, 8000, .inl f))] s0.heap := hP
  have hD : va_D A0 [(h, .inr (2, [.ref u, .ref nx, .ref sh, .ref st, .ref wh, .ref wt, .int x1, .int (nI en), .int x2, .int x3, .int x4])), (u, .inl (cI, 8000, .inl f))] := hD
  refine lv_iload_n hx hb dX2_runAt_0 rfl (lv_at hl 1 rfl) ?_
  refine lv_istore_n (lv' := [(2, .int (nI a)), (0, .ref h), (1, .int (nI a))]) hx hb dX2_runAt_1 rfl hl (by decide) rfl (fun ls hl => ?_)
  have loop : ∀ (k9 : Nat) (k : Nat) (H : Heap) (locs : List Loc) (ls : Array Slot), en - k < k9 → (a ≤ k) → (k ≤ en) → ((k - a) + runF f a (en - k) k = runF f a (en - a) a) → va_P D vwCl [(h, .inr (2, [.ref u, .ref nx, .ref sh, .ref st, .ref wh, .ref wt, .int x1, .int (nI en), .int x2, .int x3, .int x4])), (u, .inl (cI, 8000, .inl f))] H → va_D A0 [(h, .inr (2, [.ref u, .ref nx, .ref sh, .ref st, .ref wh, .ref wt, .int x1, .int (nI en), .int x2, .int x3, .int x4])), (u, .inl (cI, 8000, .inl f))] → va_S A0 s0.heap H locs → lv_has ls 3 [(0, .ref h), (1, .int (nI a)), (2, .int (nI k))] → W p0 l e0 ({ frames := 0, cells := 0, slots := 0, locals := 0 }) s0 m0 ([.ref h, .int (nI a)] : List Value).toArray below meth c0 H locs 0 0 Q0 (F0 m0 2 ls []) := by
    intro k9
    induction k9 with
    | zero => intro k H locs ls hk9; exact absurd hk9 (Nat.not_lt_zero _)
    | succ k9 ih =>
      intro k H locs ls hk9 hka hke1 hk hP hD hS hl
      refine lv_iload_n hx hb dX2_runAt_2 rfl (lv_at hl 2 rfl) ?_
      refine lv_aload_n hx hb dX2_runAt_3 rfl (lv_at hl 0 rfl) ?_
      refine va_get (D := D) (ci := 2) (v := .int (nI en)) (C := RX2) (T := TX2) (N := 11) hx hb hts in_X2 hown hK hP 0 rfl rfl 7 (by decide) (hts _ kX2_40) (fun _ h9 => h9) rfl dX2_runAt_4 ?_
      refine lv_icmp_ge (tgt := 31) hx hb dX2_runAt_7 (by decide) (fun c_1 => ?_) (fun c_1 => ?_)
      · have hke : k = en := by have := (nI_leI (by omega) (by omega)).mp c_1; omega
        refine lv_iload_n hx hb dX2_runAt_31 rfl (lv_at hl 2 rfl) ?_
        refine lv_iload_n hx hb dX2_runAt_32 rfl (lv_at hl 1 rfl) ?_
        refine lv_isub hx hb dX2_runAt_33 ?_
        refine ri (y := nI (k - a)) (pk_sub hka) ?_
        exact hret 34 ls _ _ _ () dX2_runAt_34 hP hD hS (by rw [← hk, show en - k = 0 by omega, runF]; rfl)
      · have hke : k < en := Nat.not_le.mp (fun z => c_1 (nI_le z (by omega)))
        refine lv_aload_n hx hb dX2_runAt_10 rfl (lv_at hl 0 rfl) ?_
        refine va_get (D := D) (ci := 2) (v := .ref u) (C := RX2) (T := TX2) (N := 11) hx hb hts in_X2 hown hK hP 0 rfl rfl 0 (by decide) (hts _ kX2_11) (fun _ h9 => h9) rfl dX2_runAt_11 ?_
        refine lv_iload_n hx hb dX2_runAt_14 rfl (lv_at hl 2 rfl) ?_
        refine ax_ild hx hb hK hP 1 0 rfl rfl k (rfl) (by omega) (by decide) dX2_runAt_15 ?_
        refine lv_aload_n hx hb dX2_runAt_16 rfl (lv_at hl 0 rfl) ?_
        refine va_get (D := D) (ci := 2) (v := .ref u) (C := RX2) (T := TX2) (N := 11) hx hb hts in_X2 hown hK hP 0 rfl rfl 0 (by decide) (hts _ kX2_11) (fun _ h9 => h9) rfl dX2_runAt_17 ?_
        refine lv_iload_n hx hb dX2_runAt_20 rfl (lv_at hl 1 rfl) ?_
        refine ax_ild hx hb hK hP 1 0 rfl rfl a (rfl) (by omega) (by decide) dX2_runAt_21 ?_
        refine lv_icmp_ne (tgt := 31) hx hb dX2_runAt_22 (by decide) (fun c_2 => ?_) (fun c_2 => ?_)
        · refine lv_iload_n hx hb dX2_runAt_31 rfl (lv_at hl 2 rfl) ?_
          refine lv_iload_n hx hb dX2_runAt_32 rfl (lv_at hl 1 rfl) ?_
          refine lv_isub hx hb dX2_runAt_33 ?_
          refine ri (y := nI (k - a)) (pk_sub hka) ?_
          exact hret 34 ls _ _ _ () dX2_runAt_34 hP hD hS (by rw [← hk, show en - k = en - (k + 1) + 1 by omega, runF, if_neg c_2]; rfl)
        · refine lv_iinc (v := nI (k + 1)) (lv' := [(2, .int (nI (k + 1))), (0, .ref h), (1, .int (nI a))]) hx hb dX2_runAt_25 hl (k := 2) rfl (nI_add k 1) (by decide) rfl (fun ls hl => ?_)
          refine lv_goto (tgt := 2) hx hb dX2_runAt_28 (by decide) ?_
          exact ih (k + 1) _ _ ls (by omega) (by omega) (by omega) (by rw [← hk, show en - k = en - (k + 1) + 1 by omega, runF, if_pos c_2]; omega) hP hD hS (lv_sub hl [1, 2, 0] rfl)
  exact loop _ a _ _ ls (Nat.lt_succ_self _) (Nat.le_refl _) (by omega) (by simp) hP hD hS (lv_sub hl [1, 2, 0] rfl)

set_option maxHeartbeats 4000000 in
set_option maxRecDepth 100000 in
theorem c_Finder_chainAt (l : Launch) (D : va_G) (cI cB cJ cR : ClassId) (h : Nat) (u : Nat) (nx : Nat) (sh : Nat) (st : Nat) (wh : Nat) (wt : Nat) (x1 : Int32) (x2 : Int32) (x3 : Int32) (x4 : Int32) (x5 : Int32) (f : Nat → Int32) (a : Nat) (ha : a + 4 ≤ 8000) : CMi l yX2_chainAt cX2_chainAt 3 (some .int) ({ frames := 0, cells := 0, slots := 0, locals := 0 }) D (tyA cI cB cJ cR) 0 0 [.ref h, .int (nI a)] [(h, .inr (2, [.ref u, .ref nx, .ref sh, .ref st, .ref wh, .ref wt, .int x1, .int x5, .int x2, .int x3, .int x4])), (u, .inl (cI, 8000, .inl f))] (fun (r : Int32) (_ : Unit) => r = nI (hsN f a)) (fun (_ : Unit) => [(h, .inr (2, [.ref u, .ref nx, .ref sh, .ref st, .ref wh, .ref wt, .int x1, .int x5, .int x2, .int x3, .int x4])), (u, .inl (cI, 8000, .inl f))]) := by
  refine st_i (cc := cX2_chainAt) (maxL := 3) (by decide) (Nat.le_of_ble_eq_true rfl) ?_
  intro p0 e0 s0 m0 below meth c0 A0 Q0 hBD hret hP hD hS ls hl
  obtain ⟨hx, hb, hml, hown, hts, hnm, hK, hNw, hMk, hA⟩ := hBD
  have hl : lv_has ls 3 [(0, .ref h), (1, .int (nI a))] := hl
  have hP : va_P D vwCl [(h, .inr (2, [.ref u, .ref nx, .ref sh, .ref st, .ref wh, .ref wt, .int x1, .int x5, .int x2, .int x3, .int x4])), (u, .inl (cI, 8000, .inl f))] s0.heap := hP
  have hD : va_D A0 [(h, .inr (2, [.ref u, .ref nx, .ref sh, .ref st, .ref wh, .ref wt, .int x1, .int x5, .int x2, .int x3, .int x4])), (u, .inl (cI, 8000, .inl f))] := hD
  refine lv_aload_n hx hb dX2_chainAt_0 rfl (lv_at hl 0 rfl) ?_
  refine va_get (D := D) (ci := 2) (v := .ref u) (C := RX2) (T := TX2) (N := 11) hx hb hts in_X2 hown hK hP 0 rfl rfl 0 (by decide) (hts _ kX2_11) (fun _ h9 => h9) rfl dX2_chainAt_1 ?_
  refine lv_iload_n hx hb dX2_chainAt_4 rfl (lv_at hl 1 rfl) ?_
  refine ax_ild hx hb hK hP 1 0 rfl rfl a (rfl) (by omega) (by decide) dX2_chainAt_5 ?_
  refine lv_bipush (v := 24) hx hb dX2_chainAt_6 (by decide) ?_
  refine lv_ishl hx hb dX2_chainAt_8 ?_
  refine lv_aload_n hx hb dX2_chainAt_9 rfl (lv_at hl 0 rfl) ?_
  refine va_get (D := D) (ci := 2) (v := .ref u) (C := RX2) (T := TX2) (N := 11) hx hb hts in_X2 hown hK hP 0 rfl rfl 0 (by decide) (hts _ kX2_11) (fun _ h9 => h9) rfl dX2_chainAt_10 ?_
  refine lv_iload_n hx hb dX2_chainAt_13 rfl (lv_at hl 1 rfl) ?_
  refine lv_iconst (v := 1) hx hb dX2_chainAt_14 (by decide) ?_
  refine lv_iadd hx hb dX2_chainAt_15 ?_
  refine ri (y := nI (a + 1)) (nI_add a 1) ?_
  refine ax_ild hx hb hK hP 1 0 rfl rfl (a + 1) (rfl) (by omega) (by decide) dX2_chainAt_16 ?_
  refine lv_bipush (v := 16) hx hb dX2_chainAt_17 (by decide) ?_
  refine lv_ishl hx hb dX2_chainAt_19 ?_
  refine lv_ior hx hb dX2_chainAt_20 ?_
  refine lv_aload_n hx hb dX2_chainAt_21 rfl (lv_at hl 0 rfl) ?_
  refine va_get (D := D) (ci := 2) (v := .ref u) (C := RX2) (T := TX2) (N := 11) hx hb hts in_X2 hown hK hP 0 rfl rfl 0 (by decide) (hts _ kX2_11) (fun _ h9 => h9) rfl dX2_chainAt_22 ?_
  refine lv_iload_n hx hb dX2_chainAt_25 rfl (lv_at hl 1 rfl) ?_
  refine lv_iconst (v := 2) hx hb dX2_chainAt_26 (by decide) ?_
  refine lv_iadd hx hb dX2_chainAt_27 ?_
  refine ri (y := nI (a + 2)) (nI_add a 2) ?_
  refine ax_ild hx hb hK hP 1 0 rfl rfl (a + 2) (rfl) (by omega) (by decide) dX2_chainAt_28 ?_
  refine lv_bipush (v := 8) hx hb dX2_chainAt_29 (by decide) ?_
  refine lv_ishl hx hb dX2_chainAt_31 ?_
  refine lv_ior hx hb dX2_chainAt_32 ?_
  refine lv_aload_n hx hb dX2_chainAt_33 rfl (lv_at hl 0 rfl) ?_
  refine va_get (D := D) (ci := 2) (v := .ref u) (C := RX2) (T := TX2) (N := 11) hx hb hts in_X2 hown hK hP 0 rfl rfl 0 (by decide) (hts _ kX2_11) (fun _ h9 => h9) rfl dX2_chainAt_34 ?_
  refine lv_iload_n hx hb dX2_chainAt_37 rfl (lv_at hl 1 rfl) ?_
  refine lv_iconst (v := 3) hx hb dX2_chainAt_38 (by decide) ?_
  refine lv_iadd hx hb dX2_chainAt_39 ?_
  refine ri (y := nI (a + 3)) (nI_add a 3) ?_
  refine ax_ild hx hb hK hP 1 0 rfl rfl (a + 3) (rfl) (by omega) (by decide) dX2_chainAt_40 ?_
  refine lv_ior hx hb dX2_chainAt_41 ?_
  refine ri (y := four f a) (rfl) ?_
  refine lv_istore_n (lv' := [(2, .int (four f a)), (0, .ref h), (1, .int (nI a))]) hx hb dX2_chainAt_42 rfl hl (by decide) rfl (fun ls hl => ?_)
  refine lv_iload_n hx hb dX2_chainAt_43 rfl (lv_at hl 0 rfl) ?_
  refine lv_ldc hx hb hown (hts _ kX2_78) dX2_chainAt_44 ?_
  refine lv_imul hx hb dX2_chainAt_46 ?_
  refine lv_bipush (v := 22) hx hb dX2_chainAt_47 (by decide) ?_
  refine lv_iushr hx hb dX2_chainAt_49 (v := (((four f a) * (-1640531535)).toUInt32 >>> ((22 : Int32).toUInt32 &&& Int32.toUInt32 31)).toInt32) rfl ?_
  refine ri (y := nI (hsN f a)) (hs_eq f a) ?_
  exact hret 50 ls _ _ _ () dX2_chainAt_50 hP hD hS (rfl)
