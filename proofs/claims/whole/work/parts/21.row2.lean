/-! NUMBERS: their sizes and octets -/
def nsz (a : Nat) : Nat := if a < 128 then 1 else if a < 16384 then 2 else if a < 2097152 then 3 else if a < 268435456 then 4 else 5
def nsi (b : Nat) : Nat := if b = 0 then 0 else nsz b
theorem nsz_it {a : Nat} (h : a < 2 ^ 32) : nsz a = 1 + nsi (a / 128) := by
  unfold nsi nsz
  repeat' split
  all_goals omega
theorem nsi_it {b : Nat} (h : b < 2 ^ 32) (h0 : b ≠ 0) : nsi b = 1 + nsi (b / 128) := by
  rw [← nsz_it h]
  simp [nsi, h0]
theorem nsz_pos (a : Nat) : 1 ≤ nsz a := by unfold nsz; (repeat' split) <;> omega
theorem nsz_le (a : Nat) : nsz a ≤ 5 := by unfold nsz; (repeat' split) <;> omega
def numOct (a k : Nat) : Nat := a / 128 ^ k % 128 + (if 0 < k then 128 else 0)
def numT (a : Nat) : Nat → List Int32
  | 0 => []
  | k + 1 => nI (numOct a k) :: numT a k
def numL (a : Nat) : List Int32 := numT a (nsz a)
theorem num_or : ∀ x, x < 128 → (128 : Int32) ||| nI x = nI (x + 128) := by decide +kernel
theorem num_su : ∀ n, n < 32 → (((nI n).toUInt32 &&& Int32.toUInt32 31).toBitVec % 32).toNat = n := by decide +kernel
theorem num_oct {a k : Nat} (ha : a < 2 ^ 32) (hk : k ≤ 4) (h0 : 0 < k) : (128 : Int32) ||| (((nI a).toUInt32 >>> ((nI (7 * k)).toUInt32 &&& Int32.toUInt32 31)).toInt32 &&& 127) = nI (numOct a k) := by
  rw [pk_ushrN ha (nI (7 * k)) (7 * k) (num_su _ (by omega)), pk_andN (by exact Nat.lt_of_le_of_lt (Nat.div_le_self _ _) ha) 7 (by decide), num_or _ (Nat.mod_lt _ (by decide))]
  simp only [numOct, h0, if_true]
  rw [show (2 : Nat) ^ (7 * k) = 128 ^ k by rw [Nat.pow_mul]]
theorem num_oct0 {a : Nat} (ha : a < 2 ^ 32) : nI a &&& 127 = nI (numOct a 0) := by
  rw [pk_andN ha 7 (by decide)]
  simp [numOct]
theorem num_sh {k : Nat} : nI (7 * (k + 1)) + (-7) = nI (7 * k) := by
  rw [show 7 * (k + 1) = 7 * k + 7 by omega, ← nI_add, show (-7 : Int32) = -(nI 7) from rfl]
  rw [Int32.add_assoc, show nI 7 + -nI 7 = 0 from by decide, Int32.add_zero]
theorem rowIs_cat {N : Nat} {L M : List Int32} {n n2 : Nat} {f g : Nat → Int32} {ov ov2 : Int32} (h : rowIs N L n f ov) (h2 : rowIs n2 M n2 g ov2) (hM : M.length = n2) (k : Nat) (hk : k = min n2 (N - n)) : rowIs N (L ++ M) (n + k) (va_cpy g f 0 n k) (bI (decide (N < (L ++ M).length))) := by
  obtain ⟨h1, -, h3⟩ := h
  obtain ⟨-, -, h5⟩ := h2
  refine ⟨by simp; omega, rfl, fun j hj => ?_⟩
  by_cases hjn : j < n
  · rw [pk_cpy_out (Or.inl hjn), h3 j hjn]
    simp [List.getD, List.getElem?_append_left (show j < L.length by omega)]
  · rw [pk_cpy_in (by omega) hj, h5 _ (by omega)]
    have hl : n = L.length := by omega
    simp [List.getD, List.getElem?_append_right (show L.length ≤ j by omega), hl]
theorem nsz_st {a n : Nat} (h1 : 1 ≤ n) (h4 : n ≤ 4) : 0 < a / 128 ^ n ↔ n < nsz a := by
  rcases (show n = 1 ∨ n = 2 ∨ n = 3 ∨ n = 4 by omega) with rfl | rfl | rfl | rfl
  all_goals (unfold nsz; (repeat' split) <;> omega)
theorem nI_ne32 {n : Nat} (h0 : ¬ n = 0) (h : n < 2 ^ 32) : ¬ nI n = 0 := fun q => h0 (by
  have h1 := congrArg (fun z : Int32 => z.toBitVec.toNat) q
  simp only [pk_tn h] at h1
  simpa using h1)
theorem nI_min {a b : Nat} (ha : a < 2 ^ 31) (hb : b < 2 ^ 31) : (if nI b < nI a then nI b else nI a) = nI (min a b) := by
  by_cases h : b < a
  · rw [if_pos (nI_lt h ha), Nat.min_eq_right (by omega)]
  · rw [if_neg (nI_nlt (by omega) hb), Nat.min_eq_left (by omega)]
theorem nI_max {a b : Nat} (ha : a < 2 ^ 31) (hb : b < 2 ^ 31) : (if nI a < nI b then nI b else nI a) = nI (max a b) := by
  by_cases h : a < b
  · rw [if_pos (nI_lt h hb), Nat.max_eq_right (by omega)]
  · rw [if_neg (nI_nlt (by omega) ha), Nat.max_eq_left (by omega)]
set_option maxHeartbeats 4000000 in
set_option maxRecDepth 100000 in
theorem c_numberSize (l : Launch) (D : va_G) (cI cB cJ cR : ClassId) (a : Nat) (ha : a < 2 ^ 32) : CMi l yX8_numberSize cX8_numberSize 2 (some .int) ({ frames := 0, cells := 0, slots := 0, locals := 0 }) D (tyA cI cB cJ cR) 0 0 [.int (nI a)] [] (fun (r : Int32) (_ : Unit) => r = nI (nsz a)) (fun (_ : Unit) => []) := by
  refine st_i (cc := cX8_numberSize) (maxL := 2) (by decide) (Nat.le_of_ble_eq_true rfl) ?_
  intro p0 e0 s0 m0 below meth c0 A0 Q0 hBD hret hP hD hS ls hl
  obtain ⟨hx, hb, hml, hown, hts, hnm, hK, hNw, hMk, hA⟩ := hBD
  have hl : lv_has ls 2 [(0, .int (nI a))] := hl
  have hP : va_P D vwCl [] s0.heap := hP
  have hD : va_D A0 [] := hD
  refine lv_iconst (v := 1) hx hb dX8_numberSize_0 (by decide) ?_
  refine lv_istore_n (lv' := [(1, .int 1), (0, .int (nI a))]) hx hb dX8_numberSize_1 rfl hl (by decide) rfl (fun ls hl => ?_)
  have loop : ∀ (k9 : Nat) (n : Nat) (H : Heap) (locs : List Loc) (ls : Array Slot), 5 - n < k9 → (1 ≤ n) → (n ≤ 5) → (n ≤ nsz a) → va_P D vwCl [] H → va_D A0 [] → va_S A0 s0.heap H locs → lv_has ls 2 [(0, .int (nI a)), (1, .int (nI n))] → W p0 l e0 ({ frames := 0, cells := 0, slots := 0, locals := 0 }) s0 m0 ([.int (nI a)] : List Value).toArray below meth c0 H locs 0 0 Q0 (F0 m0 2 ls []) := by
    intro k9
    induction k9 with
    | zero => intro n H locs ls hk9; exact absurd hk9 (Nat.not_lt_zero _)
    | succ k9 ih =>
      intro n H locs ls hk9 hn1 hn5 hns hP hD hS hl
      refine lv_iload_n hx hb dX8_numberSize_2 rfl (lv_at hl 1 rfl) ?_
      refine lv_iconst (v := 5) hx hb dX8_numberSize_3 (by decide) ?_
      refine lv_icmp_ge (tgt := 22) hx hb dX8_numberSize_4 (by decide) (fun c_1 => ?_) (fun c_1 => ?_)
      · have h5 : 5 ≤ n := (nI_leI (a := 5) (by decide) (by omega)).mp c_1
        have hl5 := nsz_le a
        refine lv_iload_n hx hb dX8_numberSize_22 rfl (lv_at hl 1 rfl) ?_
        exact hret 23 ls _ _ _ () dX8_numberSize_23 hP hD hS (by rw [show nsz a = n by omega])
      · have h4 : n ≤ 4 := Nat.le_of_not_lt (fun q => c_1 (nI_le (a := 5) q (by omega)))
        refine lv_iload_n hx hb dX8_numberSize_7 rfl (lv_at hl 0 rfl) ?_
        refine lv_bipush (v := 7) hx hb dX8_numberSize_8 (by decide) ?_
        refine lv_iload_n hx hb dX8_numberSize_10 rfl (lv_at hl 1 rfl) ?_
        refine lv_imul hx hb dX8_numberSize_11 ?_
        refine ri (y := nI (7 * n)) (pk_mul 7 _) ?_
        refine lv_iushr hx hb dX8_numberSize_12 (v := ((nI a).toUInt32 >>> ((nI (7 * n)).toUInt32 &&& Int32.toUInt32 31)).toInt32) rfl ?_
        refine ri (y := nI (a / 128 ^ n)) ((pk_ushrN ha (nI (7 * n)) (7 * n) (num_su _ (by omega))).trans (by rw [show (2 : Nat) ^ (7 * n) = 128 ^ n by rw [Nat.pow_mul]])) ?_
        have hq := Nat.div_le_self a (128 ^ n)
        refine lv_if_eq (tgt := 22) hx hb dX8_numberSize_13 (by decide) (fun c_2 => ?_) (fun c_2 => ?_)
        · have hle : ¬ n < nsz a := fun z => nI_ne32 (Nat.ne_of_gt ((nsz_st hn1 h4).mpr z)) (Nat.lt_of_le_of_lt hq ha) c_2
          refine lv_iload_n hx hb dX8_numberSize_22 rfl (lv_at hl 1 rfl) ?_
          exact hret 23 ls _ _ _ () dX8_numberSize_23 hP hD hS (by rw [show nsz a = n by omega])
        · have hlt : n < nsz a := (nsz_st hn1 h4).mp (Nat.pos_of_ne_zero (fun z => c_2 (by rw [z]; exact nI_0)))
          refine lv_iinc (v := nI (n + 1)) (lv' := [(1, .int (nI (n + 1))), (0, .int (nI a))]) hx hb dX8_numberSize_16 hl (k := 1) rfl (nI_add n 1) (by decide) rfl (fun ls hl => ?_)
          refine lv_goto (tgt := 2) hx hb dX8_numberSize_19 (by decide) ?_
          exact ih (n + 1) _ _ ls (by omega) (by omega) (by omega) (by omega) hP hD hS (lv_sub hl [1, 0] rfl)
  exact loop _ 1 _ _ ls (Nat.lt_succ_self _) (by decide) (by decide) (nsz_pos a) hP hD hS (lv_sub hl [1, 0] rfl)

set_option maxHeartbeats 4000000 in
set_option maxRecDepth 100000 in
theorem c_Row_replace (l : Launch) (D : va_G) (cI cB cJ cR : ClassId) (h : Nat) (o : Nat) (N : Nat) (n : Nat) (f : Nat → Int32) (ov : Int32) (i : Int32) (v : Int32) (hN : N < 2 ^ 31) (hn : n ≤ N) : CMi l yX4_replace cX4_replace 4 (some .int) ({ frames := 1, cells := 0, slots := 0, locals := 21 }) D (tyA cI cB cJ cR) 0 0 [.ref h, .int i, .int v] [(h, .inr (4, [.ref o, .int (nI n), .int ov])), (o, .inl (cI, N, .inl f))] (fun (r : Int32) (f2 : Nat → Int32) => (r = if inB i n then (if v < 0 ∨ ¬ v ≤ 255 then -2 else f i.toNatClampNeg) else -1) ∧ f2 = if inB i n ∧ ¬ (v < 0 ∨ ¬ v ≤ 255) then upd f i.toNatClampNeg v else f) (fun (f2 : Nat → Int32) => [(h, .inr (4, [.ref o, .int (nI n), .int ov])), (o, .inl (cI, N, .inl f2))]) := by
  refine st_i (cc := cX4_replace) (maxL := 4) (by decide) (Nat.le_of_ble_eq_true rfl) ?_
  intro p0 e0 s0 m0 below meth c0 A0 Q0 hBD hret hP hD hS ls hl
  obtain ⟨hx, hb, hml, hown, hts, hnm, hK, hNw, hMk, hA⟩ := hBD
  have hl : lv_has ls 4 [(0, .ref h), (1, .int i), (2, .int v)] := hl
  have hP : va_P D vwCl [(h, .inr (4, [.ref o, .int (nI n), .int ov])), (o, .inl (cI, N, .inl f))] s0.heap := hP
  have hD : va_D A0 [(h, .inr (4, [.ref o, .int (nI n), .int ov])), (o, .inl (cI, N, .inl f))] := hD
  refine lv_aload_n hx hb dX4_replace_0 rfl (lv_at hl 0 rfl) ?_
  refine lv_iload_n hx hb dX4_replace_1 rfl (lv_at hl 1 rfl) ?_
  refine jn_i (wr := []) hA hP hD hS [0, 1] [] rfl rfl (by decide) (by decide) (rn_V (As := [.int i]) (rest := []) ⟨hx, hb, hml, hown, hts⟩ (cvV 1 hts zc_yX4_has zi_X4 zm_yX4_has zv_yX4_has kX4_29 (by decide +kernel) rfl rfl ⟨Nat.le_of_ble_eq_true rfl, Nat.le_of_ble_eq_true rfl⟩) (c_Row_has l D cI cB cJ cR h o N n f ov i  s0.heap.size) hK hNw hMk hA hP hD hS [0, 1] rfl rfl (by decide) 0 rfl rfl rfl rfl hl.1 rfl (Nat.le_of_ble_eq_true rfl) dX4_replace_2 ⟨Nat.le_of_ble_eq_true rfl, Nat.le_of_ble_eq_true rfl⟩) (fun r_1 u9 H locs w_2 hP hD hS => ?_)
  obtain ⟨r_1b, rfl, w_2⟩ := w_2
  try dsimp only at w_2
  have hP : va_P D vwCl [(h, .inr (4, [.ref o, .int (nI n), .int ov])), (o, .inl (cI, N, .inl f))] H := hP
  have hD : va_D A0 [(h, .inr (4, [.ref o, .int (nI n), .int ov])), (o, .inl (cI, N, .inl f))] := hD
  subst w_2
  obtain ⟨bb, hib⟩ : ∃ bb, bb = inB i n := ⟨_, rfl⟩
  rw [← hib]
  refine bz_ne (tgt := 10) hx hb dX4_replace_5 (by decide) (fun c_3 => ?_) (fun c_3 => ?_)
  · have c_3x : inB i n = true := hib.symm.trans c_3
    refine lv_iload_n hx hb dX4_replace_10 rfl (lv_at hl 2 rfl) ?_
    refine lv_if_lt (tgt := 21) hx hb dX4_replace_11 (by decide) (fun c_4 => ?_) (fun c_4 => ?_)
    · refine lv_bipush (v := -2) hx hb dX4_replace_21 (by decide) ?_
      exact hret 23 ls _ _ _ (f) dX4_replace_23 hP hD hS (⟨by rw [if_pos c_3x, if_pos (Or.inl c_4)], by rw [if_neg (fun q => q.2 (Or.inl c_4))]⟩)
    · refine lv_iload_n hx hb dX4_replace_14 rfl (lv_at hl 2 rfl) ?_
      refine lv_sipush (v := 255) hx hb dX4_replace_15 (by decide) ?_
      refine lv_icmp_le (tgt := 24) hx hb dX4_replace_18 (by decide) (fun c_5 => ?_) (fun c_5 => ?_)
      · have hgd : ¬ (v < 0 ∨ ¬ v ≤ 255) := fun q => q.elim c_4 (fun q => q c_5)
        obtain ⟨j, hj, hij⟩ := inB_of c_3x (by omega)
        refine lv_aload_n hx hb dX4_replace_24 rfl (lv_at hl 0 rfl) ?_
        refine va_get (D := D) (ci := 4) (v := .ref o) (C := RX4) (T := TX4) (N := 3) hx hb hts in_X4 hown hK hP 0 rfl rfl 0 (by decide) (hts _ kX4_15) (fun _ h9 => h9) rfl dX4_replace_25 ?_
        refine lv_iload_n hx hb dX4_replace_28 rfl (lv_at hl 1 rfl) ?_
        refine ax_ild hx hb hK hP 1 0 rfl rfl j (hij) (by omega) (by omega) dX4_replace_29 ?_
        refine lv_istore_n (lv' := [(3, .int (f j)), (0, .ref h), (1, .int i), (2, .int v)]) hx hb dX4_replace_30 rfl hl (by decide) rfl (fun ls hl => ?_)
        refine lv_aload_n hx hb dX4_replace_31 rfl (lv_at hl 1 rfl) ?_
        refine va_get (D := D) (ci := 4) (v := .ref o) (C := RX4) (T := TX4) (N := 3) hx hb hts in_X4 hown hK hP 0 rfl rfl 0 (by decide) (hts _ kX4_15) (fun _ h9 => h9) rfl dX4_replace_32 ?_
        refine lv_iload_n hx hb dX4_replace_35 rfl (lv_at hl 2 rfl) ?_
        refine lv_iload_n hx hb dX4_replace_36 rfl (lv_at hl 3 rfl) ?_
        refine ax_ist hx hb hK hP hD hS 1 0 rfl rfl j (hij) (by omega) (by omega) dX4_replace_37 (fun H locs hP hD hS => ?_)
        have hP : va_P D vwCl [(h, .inr (4, [.ref o, .int (nI n), .int ov])), (o, .inl (cI, N, .inl (upd f j v)))] H := hP
        have hD : va_D A0 [(h, .inr (4, [.ref o, .int (nI n), .int ov])), (o, .inl (cI, N, .inl (upd f j v)))] := hD
        refine lv_iload_n hx hb dX4_replace_38 rfl (lv_at hl 0 rfl) ?_
        exact hret 39 ls _ _ _ (upd f j v) dX4_replace_39 hP hD hS (⟨by rw [if_pos c_3x, if_neg hgd, hij, nI_clamp (by omega)], by rw [if_pos ⟨c_3x, hgd⟩, hij, nI_clamp (by omega)]⟩)
      · refine lv_bipush (v := -2) hx hb dX4_replace_21 (by decide) ?_
        exact hret 23 ls _ _ _ (f) dX4_replace_23 hP hD hS (⟨by rw [if_pos c_3x, if_pos (Or.inr c_5)], by rw [if_neg (fun q => q.2 (Or.inr c_5))]⟩)
  · have c_3x : inB i n = false := hib.symm.trans c_3
    refine lv_iconst (v := -1) hx hb dX4_replace_8 (by decide) ?_
    exact hret 9 ls _ _ _ (f) dX4_replace_9 hP hD hS (⟨by rw [if_neg (by rw [c_3x]; decide)], by rw [if_neg (fun q => by rw [c_3x] at q; exact absurd q.1 (by decide))]⟩)

set_option maxHeartbeats 4000000 in
set_option maxRecDepth 100000 in
theorem c_Row_putNumber (l : Launch) (D : va_G) (cI cB cJ cR : ClassId) (h : Nat) (o : Nat) (N : Nat) (n : Nat) (f : Nat → Int32) (ov : Int32) (L : List Int32) (a : Nat) (hN : N < 2 ^ 31) (hr : rowIs N L n f ov) (ha : a < 2 ^ 31) : CMv l yX4_putNumber cX4_putNumber 3 none ({ frames := 1, cells := 0, slots := 0, locals := 21 }) D (tyA cI cB cJ cR) 0 0 [.ref h, .int (nI a)] [(h, .inr (4, [.ref o, .int (nI n), .int ov])), (o, .inl (cI, N, .inl f))] (fun (u9 : Nat × (Nat → Int32) × Int32) => match u9 with | (n2, f2, ov2) => rowIs N (L ++ numL a) n2 f2 ov2) (fun (u9 : Nat × (Nat → Int32) × Int32) => match u9 with | (n2, f2, ov2) => [(h, .inr (4, [.ref o, .int (nI n2), .int ov2])), (o, .inl (cI, N, .inl f2))]) := by
  refine st_v (cc := cX4_putNumber) (maxL := 3) (by decide) (Nat.le_of_ble_eq_true rfl) ?_
  intro p0 e0 s0 m0 below meth c0 A0 Q0 hBD hret hP hD hS ls hl
  obtain ⟨hx, hb, hml, hown, hts, hnm, hK, hNw, hMk, hA⟩ := hBD
  have hl : lv_has ls 3 [(0, .ref h), (1, .int (nI a))] := hl
  have hP : va_P D vwCl [(h, .inr (4, [.ref o, .int (nI n), .int ov])), (o, .inl (cI, N, .inl f))] s0.heap := hP
  have hD : va_D A0 [(h, .inr (4, [.ref o, .int (nI n), .int ov])), (o, .inl (cI, N, .inl f))] := hD
  refine lv_bipush (v := 7) hx hb dX4_putNumber_0 (by decide) ?_
  refine lv_iload_n hx hb dX4_putNumber_2 rfl (lv_at hl 1 rfl) ?_
  refine jn_i (wr := [(h, .inr (4, [.ref o, .int (nI n), .int ov])), (o, .inl (cI, N, .inl f))]) hA hP hD hS [] [0, 1] rfl rfl (by decide) (by decide) (rn_SN (As := [.int (nI a)]) (rest := [.int 7]) ⟨hx, hb, hml, hown, hts⟩ (⟨cvN 1 hts zc_yX8_numberSize zi_X8 (hNw (.methodLinkNest RX4 33 yX8_numberSize "CodedDeltas") (by decide +kernel)) (by decide +kernel) rfl rfl ⟨Nat.le_of_ble_eq_true rfl, Nat.le_of_ble_eq_true rfl⟩, hts _ zs_yX8_numberSize, trivial⟩) (c_numberSize l D cI cB cJ cR a (by omega) s0.heap.size) hK hNw hMk hA hP hD hS [] rfl rfl (by decide) rfl hl.1 rfl (Nat.le_of_ble_eq_true rfl) dX4_putNumber_3 ⟨Nat.le_of_ble_eq_true rfl, Nat.le_of_ble_eq_true rfl⟩) (fun r_1 u9 H locs w_2 hP hD hS => ?_)
  try dsimp only at w_2
  have hP : va_P D vwCl [(h, .inr (4, [.ref o, .int (nI n), .int ov])), (o, .inl (cI, N, .inl f))] H := hP
  have hD : va_D A0 [(h, .inr (4, [.ref o, .int (nI n), .int ov])), (o, .inl (cI, N, .inl f))] := hD
  subst w_2
  refine lv_iconst (v := 1) hx hb dX4_putNumber_6 (by decide) ?_
  refine lv_isub hx hb dX4_putNumber_7 ?_
  refine ri (y := nI (nsz a - 1)) (pk_sub (nsz_pos a)) ?_
  refine lv_imul hx hb dX4_putNumber_8 ?_
  refine ri (y := nI (7 * (nsz a - 1))) (pk_mul 7 _) ?_
  refine lv_istore_n (lv' := [(2, .int (nI (7 * (nsz a - 1)))), (0, .ref h), (1, .int (nI a))]) hx hb dX4_putNumber_9 rfl hl (by decide) rfl (fun ls hl => ?_)
  have loop : ∀ (k9 : Nat) (k : Nat) (n1 : Nat) (f1 : Nat → Int32) (ov1 : Int32) (L1 : List Int32) (H : Heap) (locs : List Loc) (ls : Array Slot), k < k9 → (rowIs N L1 n1 f1 ov1) → (k ≤ 4) → (L1 ++ numT a (k + 1) = L ++ numL a) → va_P D vwCl [(h, .inr (4, [.ref o, .int (nI n1), .int ov1])), (o, .inl (cI, N, .inl f1))] H → va_D A0 [(h, .inr (4, [.ref o, .int (nI n1), .int ov1])), (o, .inl (cI, N, .inl f1))] → va_S A0 s0.heap H locs → lv_has ls 3 [(0, .ref h), (1, .int (nI a)), (2, .int (nI (7 * k)))] → W p0 l e0 ({ frames := 1, cells := 0, slots := 0, locals := 21 }) s0 m0 ([.ref h, .int (nI a)] : List Value).toArray below meth c0 H locs 0 0 Q0 (F0 m0 10 ls []) := by
    intro k9
    induction k9 with
    | zero => intro k n1 f1 ov1 L1 H locs ls hk9; exact absurd hk9 (Nat.not_lt_zero _)
    | succ k9 ih =>
      intro k n1 f1 ov1 L1 H locs ls hk9 hr1 hk4 hL1 hP hD hS hl
      refine lv_iload_n hx hb dX4_putNumber_10 rfl (lv_at hl 2 rfl) ?_
      refine lv_if_le (tgt := 34) hx hb dX4_putNumber_11 (by decide) (fun c_3 => ?_) (fun c_3 => ?_)
      · have hk0 : k = 0 := Decidable.byContradiction (fun q => nI_nle (show 0 < 7 * k by omega) (by omega) c_3)
        subst hk0
        refine lv_aload_n hx hb dX4_putNumber_34 rfl (lv_at hl 0 rfl) ?_
        refine lv_iload_n hx hb dX4_putNumber_35 rfl (lv_at hl 1 rfl) ?_
        refine lv_bipush (v := 127) hx hb dX4_putNumber_36 (by decide) ?_
        refine lv_iand hx hb dX4_putNumber_38 ?_
        refine ri (y := nI (numOct a 0)) (num_oct0 (by omega)) ?_
        refine jn_v (wr := []) hA hP hD hS [0, 1] [] rfl rfl (by decide) (by decide) (rn_V (As := [.int (nI (numOct a 0))]) (rest := []) ⟨hx, hb, hml, hown, hts⟩ (cvV 1 hts zc_yX4_put zi_X4 zm_yX4_put zv_yX4_put kX4_37 (by decide +kernel) rfl rfl ⟨Nat.le_of_ble_eq_true rfl, Nat.le_of_ble_eq_true rfl⟩) (c_Row_put l D cI cB cJ cR h o N n1 f1 ov1 L1 (nI (numOct a 0)) (hN) (hr1) H.size) hK hNw hMk hA hP hD hS [0, 1] rfl rfl (by decide) 0 rfl rfl rfl rfl hl.1 rfl (Nat.le_of_ble_eq_true rfl) dX4_putNumber_39 ⟨Nat.le_of_ble_eq_true rfl, Nat.le_of_ble_eq_true rfl⟩) (fun u9 H locs w_8 hP hD hS => ?_)
        obtain ⟨n2_4, f2_5, ov2_6⟩ := u9
        try dsimp only at w_8
        have hP : va_P D vwCl [(h, .inr (4, [.ref o, .int (nI n2_4), .int ov2_6])), (o, .inl (cI, N, .inl f2_5))] H := hP
        have hD : va_D A0 [(h, .inr (4, [.ref o, .int (nI n2_4), .int ov2_6])), (o, .inl (cI, N, .inl f2_5))] := hD
        exact hret 42 ls _ _ (n2_4, f2_5, ov2_6) dX4_putNumber_42 hP hD hS (by rw [← hL1]; exact w_8)
      · obtain ⟨k, rfl⟩ : ∃ k1, k = k1 + 1 := ⟨k - 1, by have : k ≠ 0 := fun q => c_3 (by rw [q]; decide); omega⟩
        refine lv_aload_n hx hb dX4_putNumber_14 rfl (lv_at hl 0 rfl) ?_
        refine lv_sipush (v := 128) hx hb dX4_putNumber_15 (by decide) ?_
        refine lv_iload_n hx hb dX4_putNumber_18 rfl (lv_at hl 1 rfl) ?_
        refine lv_iload_n hx hb dX4_putNumber_19 rfl (lv_at hl 2 rfl) ?_
        refine lv_iushr hx hb dX4_putNumber_20 (v := ((nI a).toUInt32 >>> ((nI (7 * (k + 1))).toUInt32 &&& Int32.toUInt32 31)).toInt32) rfl ?_
        refine lv_bipush (v := 127) hx hb dX4_putNumber_21 (by decide) ?_
        refine lv_iand hx hb dX4_putNumber_23 ?_
        refine lv_ior hx hb dX4_putNumber_24 ?_
        refine ri (y := nI (numOct a (k + 1))) (num_oct (by omega) hk4 (by omega)) ?_
        refine jn_v (wr := []) hA hP hD hS [0, 1] [] rfl rfl (by decide) (by decide) (rn_V (As := [.int (nI (numOct a (k + 1)))]) (rest := []) ⟨hx, hb, hml, hown, hts⟩ (cvV 1 hts zc_yX4_put zi_X4 zm_yX4_put zv_yX4_put kX4_37 (by decide +kernel) rfl rfl ⟨Nat.le_of_ble_eq_true rfl, Nat.le_of_ble_eq_true rfl⟩) (c_Row_put l D cI cB cJ cR h o N n1 f1 ov1 L1 (nI (numOct a (k + 1))) (hN) (hr1) H.size) hK hNw hMk hA hP hD hS [0, 1] rfl rfl (by decide) 0 rfl rfl rfl rfl hl.1 rfl (Nat.le_of_ble_eq_true rfl) dX4_putNumber_25 ⟨Nat.le_of_ble_eq_true rfl, Nat.le_of_ble_eq_true rfl⟩) (fun u9 H locs w_13 hP hD hS => ?_)
        obtain ⟨n2_9, f2_10, ov2_11⟩ := u9
        try dsimp only at w_13
        have hP : va_P D vwCl [(h, .inr (4, [.ref o, .int (nI n2_9), .int ov2_11])), (o, .inl (cI, N, .inl f2_10))] H := hP
        have hD : va_D A0 [(h, .inr (4, [.ref o, .int (nI n2_9), .int ov2_11])), (o, .inl (cI, N, .inl f2_10))] := hD
        refine lv_iinc (v := nI (7 * k)) (lv' := [(2, .int (nI (7 * k))), (0, .ref h), (1, .int (nI a))]) hx hb dX4_putNumber_28 hl (k := 2) rfl (num_sh) (by decide) rfl (fun ls hl => ?_)
        refine lv_goto (tgt := 10) hx hb dX4_putNumber_31 (by decide) ?_
        exact ih k n2_9 f2_10 ov2_11 (L1 ++ [nI (numOct a (k + 1))]) _ _ ls (by omega) (w_13) (by omega) (by rw [← hL1, List.append_assoc]; rfl) hP hD hS (lv_sub hl [1, 2, 0] rfl)
  have hnz := nsz_pos a
  have hnz5 := nsz_le a
  exact loop _ (nsz a - 1) n f ov L _ _ ls (Nat.lt_succ_self _) (hr) (by omega) (by rw [Nat.sub_add_cancel hnz]; rfl) hP hD hS (lv_sub hl [1, 2, 0] rfl)

set_option maxHeartbeats 4000000 in
set_option maxRecDepth 100000 in
theorem c_Row_putMark (l : Launch) (D : va_G) (cI cB cJ cR : ClassId) (h : Nat) (o : Nat) (N : Nat) (n : Nat) (f : Nat → Int32) (ov : Int32) (L : List Int32) (v : Int32) (hN : N < 2 ^ 31) (hr : rowIs N L n f ov) : CMv l yX4_putMark cX4_putMark 3 none ({ frames := 1, cells := 0, slots := 0, locals := 21 }) D (tyA cI cB cJ cR) 0 0 [.ref h, .int v] [(h, .inr (4, [.ref o, .int (nI n), .int ov])), (o, .inl (cI, N, .inl f))] (fun (u9 : Nat × (Nat → Int32) × Int32) => match u9 with | (n2, f2, ov2) => rowIs N (L ++ [214, 195, 196, 0, v]) n2 f2 ov2) (fun (u9 : Nat × (Nat → Int32) × Int32) => match u9 with | (n2, f2, ov2) => [(h, .inr (4, [.ref o, .int (nI n2), .int ov2])), (o, .inl (cI, N, .inl f2))]) := by
  refine st_v (cc := cX4_putMark) (maxL := 3) (by decide) (Nat.le_of_ble_eq_true rfl) ?_
  intro p0 e0 s0 m0 below meth c0 A0 Q0 hBD hret hP hD hS ls hl
  obtain ⟨hx, hb, hml, hown, hts, hnm, hK, hNw, hMk, hA⟩ := hBD
  have hl : lv_has ls 3 [(0, .ref h), (1, .int v)] := hl
  have hP : va_P D vwCl [(h, .inr (4, [.ref o, .int (nI n), .int ov])), (o, .inl (cI, N, .inl f))] s0.heap := hP
  have hD : va_D A0 [(h, .inr (4, [.ref o, .int (nI n), .int ov])), (o, .inl (cI, N, .inl f))] := hD
  obtain ⟨tM, hZ, hT⟩ := id hMk
  refine lv_iconst (v := 0) hx hb dX4_putMark_0 (by decide) ?_
  refine lv_istore_n (lv' := [(2, .int 0), (0, .ref h), (1, .int v)]) hx hb dX4_putMark_1 rfl hl (by decide) rfl (fun ls hl => ?_)
  refine lv_iload_n hx hb dX4_putMark_2 rfl (lv_at hl 0 rfl) ?_
  refine va_getsN (ref := "CodedDeltas") (host := "CodedDeltas") hx hb hZ hS hown (va_Nw.use rfl (hNw (.fieldLinkNest RX4 41 "CodedDeltas" "MARK" "[I" "CodedDeltas") (by decide +kernel))) (fun _ h9 => h9) dX4_putMark_3 ?_
  refine va_tlen hx hb hT hS (v := 4) rfl dX4_putMark_6 ?_
  refine lv_icmp_ge (tgt := 25) hx hb dX4_putMark_7 (by decide) (fun c_1 => absurd c_1 (by decide)) (fun c_1 => ?_)
  refine lv_aload_n hx hb dX4_putMark_10 rfl (lv_at hl 1 rfl) ?_
  refine va_getsN (ref := "CodedDeltas") (host := "CodedDeltas") hx hb hZ hS hown (va_Nw.use rfl (hNw (.fieldLinkNest RX4 41 "CodedDeltas" "MARK" "[I" "CodedDeltas") (by decide +kernel))) (fun _ h9 => h9) dX4_putMark_11 ?_
  refine lv_iload_n hx hb dX4_putMark_14 rfl (lv_at hl 0 rfl) ?_
  refine va_ti hx hb hT hS (vp_in_nI (n := 0) (by decide) (by decide)) (v := .int 214) rfl dX4_putMark_15 ?_
  refine jn_v (wr := []) hA hP hD hS [0, 1] [] rfl rfl (by decide) (by decide) (rn_V (As := [.int 214]) (rest := []) ⟨hx, hb, hml, hown, hts⟩ (cvV 1 hts zc_yX4_put zi_X4 zm_yX4_put zv_yX4_put kX4_37 (by decide +kernel) rfl rfl ⟨Nat.le_of_ble_eq_true rfl, Nat.le_of_ble_eq_true rfl⟩) (c_Row_put l D cI cB cJ cR h o N n f ov L 214 (hN) (hr) s0.heap.size) hK hNw hMk hA hP hD hS [0, 1] rfl rfl (by decide) 0 rfl rfl rfl rfl hl.1 rfl (Nat.le_of_ble_eq_true rfl) dX4_putMark_16 ⟨Nat.le_of_ble_eq_true rfl, Nat.le_of_ble_eq_true rfl⟩) (fun u9 H locs w_6 hP hD hS => ?_)
  obtain ⟨n2_2, f2_3, ov2_4⟩ := u9
  try dsimp only at w_6
  have hP : va_P D vwCl [(h, .inr (4, [.ref o, .int (nI n2_2), .int ov2_4])), (o, .inl (cI, N, .inl f2_3))] H := hP
  have hD : va_D A0 [(h, .inr (4, [.ref o, .int (nI n2_2), .int ov2_4])), (o, .inl (cI, N, .inl f2_3))] := hD
  refine lv_iinc (v := 1) (lv' := [(2, .int 1), (0, .ref h), (1, .int v)]) hx hb dX4_putMark_19 hl (k := 0) rfl (by decide) (by decide) rfl (fun ls hl => ?_)
  refine lv_goto (tgt := 2) hx hb dX4_putMark_22 (by decide) ?_
  refine lv_iload_n hx hb dX4_putMark_2 rfl (lv_at hl 0 rfl) ?_
  refine va_getsN (ref := "CodedDeltas") (host := "CodedDeltas") hx hb hZ hS hown (va_Nw.use rfl (hNw (.fieldLinkNest RX4 41 "CodedDeltas" "MARK" "[I" "CodedDeltas") (by decide +kernel))) (fun _ h9 => h9) dX4_putMark_3 ?_
  refine va_tlen hx hb hT hS (v := 4) rfl dX4_putMark_6 ?_
  refine lv_icmp_ge (tgt := 25) hx hb dX4_putMark_7 (by decide) (fun c_7 => absurd c_7 (by decide)) (fun c_7 => ?_)
  refine lv_aload_n hx hb dX4_putMark_10 rfl (lv_at hl 1 rfl) ?_
  refine va_getsN (ref := "CodedDeltas") (host := "CodedDeltas") hx hb hZ hS hown (va_Nw.use rfl (hNw (.fieldLinkNest RX4 41 "CodedDeltas" "MARK" "[I" "CodedDeltas") (by decide +kernel))) (fun _ h9 => h9) dX4_putMark_11 ?_
  refine lv_iload_n hx hb dX4_putMark_14 rfl (lv_at hl 0 rfl) ?_
  refine va_ti hx hb hT hS (vp_in_nI (n := 1) (by decide) (by decide)) (v := .int 195) rfl dX4_putMark_15 ?_
  refine jn_v (wr := []) hA hP hD hS [0, 1] [] rfl rfl (by decide) (by decide) (rn_V (As := [.int 195]) (rest := []) ⟨hx, hb, hml, hown, hts⟩ (cvV 1 hts zc_yX4_put zi_X4 zm_yX4_put zv_yX4_put kX4_37 (by decide +kernel) rfl rfl ⟨Nat.le_of_ble_eq_true rfl, Nat.le_of_ble_eq_true rfl⟩) (c_Row_put l D cI cB cJ cR h o N n2_2 f2_3 ov2_4 (L ++ [214]) 195 (hN) (w_6) H.size) hK hNw hMk hA hP hD hS [0, 1] rfl rfl (by decide) 0 rfl rfl rfl rfl hl.1 rfl (Nat.le_of_ble_eq_true rfl) dX4_putMark_16 ⟨Nat.le_of_ble_eq_true rfl, Nat.le_of_ble_eq_true rfl⟩) (fun u9 H locs w_12 hP hD hS => ?_)
  obtain ⟨n2_8, f2_9, ov2_10⟩ := u9
  try dsimp only at w_12
  have hP : va_P D vwCl [(h, .inr (4, [.ref o, .int (nI n2_8), .int ov2_10])), (o, .inl (cI, N, .inl f2_9))] H := hP
  have hD : va_D A0 [(h, .inr (4, [.ref o, .int (nI n2_8), .int ov2_10])), (o, .inl (cI, N, .inl f2_9))] := hD
  refine lv_iinc (v := 2) (lv' := [(2, .int 2), (0, .ref h), (1, .int v)]) hx hb dX4_putMark_19 hl (k := 0) rfl (by decide) (by decide) rfl (fun ls hl => ?_)
  refine lv_goto (tgt := 2) hx hb dX4_putMark_22 (by decide) ?_
  refine lv_iload_n hx hb dX4_putMark_2 rfl (lv_at hl 0 rfl) ?_
  refine va_getsN (ref := "CodedDeltas") (host := "CodedDeltas") hx hb hZ hS hown (va_Nw.use rfl (hNw (.fieldLinkNest RX4 41 "CodedDeltas" "MARK" "[I" "CodedDeltas") (by decide +kernel))) (fun _ h9 => h9) dX4_putMark_3 ?_
  refine va_tlen hx hb hT hS (v := 4) rfl dX4_putMark_6 ?_
  refine lv_icmp_ge (tgt := 25) hx hb dX4_putMark_7 (by decide) (fun c_13 => absurd c_13 (by decide)) (fun c_13 => ?_)
  refine lv_aload_n hx hb dX4_putMark_10 rfl (lv_at hl 1 rfl) ?_
  refine va_getsN (ref := "CodedDeltas") (host := "CodedDeltas") hx hb hZ hS hown (va_Nw.use rfl (hNw (.fieldLinkNest RX4 41 "CodedDeltas" "MARK" "[I" "CodedDeltas") (by decide +kernel))) (fun _ h9 => h9) dX4_putMark_11 ?_
  refine lv_iload_n hx hb dX4_putMark_14 rfl (lv_at hl 0 rfl) ?_
  refine va_ti hx hb hT hS (vp_in_nI (n := 2) (by decide) (by decide)) (v := .int 196) rfl dX4_putMark_15 ?_
  refine jn_v (wr := []) hA hP hD hS [0, 1] [] rfl rfl (by decide) (by decide) (rn_V (As := [.int 196]) (rest := []) ⟨hx, hb, hml, hown, hts⟩ (cvV 1 hts zc_yX4_put zi_X4 zm_yX4_put zv_yX4_put kX4_37 (by decide +kernel) rfl rfl ⟨Nat.le_of_ble_eq_true rfl, Nat.le_of_ble_eq_true rfl⟩) (c_Row_put l D cI cB cJ cR h o N n2_8 f2_9 ov2_10 ((L ++ [214]) ++ [195]) 196 (hN) (w_12) H.size) hK hNw hMk hA hP hD hS [0, 1] rfl rfl (by decide) 0 rfl rfl rfl rfl hl.1 rfl (Nat.le_of_ble_eq_true rfl) dX4_putMark_16 ⟨Nat.le_of_ble_eq_true rfl, Nat.le_of_ble_eq_true rfl⟩) (fun u9 H locs w_18 hP hD hS => ?_)
  obtain ⟨n2_14, f2_15, ov2_16⟩ := u9
  try dsimp only at w_18
  have hP : va_P D vwCl [(h, .inr (4, [.ref o, .int (nI n2_14), .int ov2_16])), (o, .inl (cI, N, .inl f2_15))] H := hP
  have hD : va_D A0 [(h, .inr (4, [.ref o, .int (nI n2_14), .int ov2_16])), (o, .inl (cI, N, .inl f2_15))] := hD
  refine lv_iinc (v := 3) (lv' := [(2, .int 3), (0, .ref h), (1, .int v)]) hx hb dX4_putMark_19 hl (k := 0) rfl (by decide) (by decide) rfl (fun ls hl => ?_)
  refine lv_goto (tgt := 2) hx hb dX4_putMark_22 (by decide) ?_
  refine lv_iload_n hx hb dX4_putMark_2 rfl (lv_at hl 0 rfl) ?_
  refine va_getsN (ref := "CodedDeltas") (host := "CodedDeltas") hx hb hZ hS hown (va_Nw.use rfl (hNw (.fieldLinkNest RX4 41 "CodedDeltas" "MARK" "[I" "CodedDeltas") (by decide +kernel))) (fun _ h9 => h9) dX4_putMark_3 ?_
  refine va_tlen hx hb hT hS (v := 4) rfl dX4_putMark_6 ?_
  refine lv_icmp_ge (tgt := 25) hx hb dX4_putMark_7 (by decide) (fun c_19 => absurd c_19 (by decide)) (fun c_19 => ?_)
  refine lv_aload_n hx hb dX4_putMark_10 rfl (lv_at hl 1 rfl) ?_
  refine va_getsN (ref := "CodedDeltas") (host := "CodedDeltas") hx hb hZ hS hown (va_Nw.use rfl (hNw (.fieldLinkNest RX4 41 "CodedDeltas" "MARK" "[I" "CodedDeltas") (by decide +kernel))) (fun _ h9 => h9) dX4_putMark_11 ?_
  refine lv_iload_n hx hb dX4_putMark_14 rfl (lv_at hl 0 rfl) ?_
  refine va_ti hx hb hT hS (vp_in_nI (n := 3) (by decide) (by decide)) (v := .int 0) rfl dX4_putMark_15 ?_
  refine jn_v (wr := []) hA hP hD hS [0, 1] [] rfl rfl (by decide) (by decide) (rn_V (As := [.int 0]) (rest := []) ⟨hx, hb, hml, hown, hts⟩ (cvV 1 hts zc_yX4_put zi_X4 zm_yX4_put zv_yX4_put kX4_37 (by decide +kernel) rfl rfl ⟨Nat.le_of_ble_eq_true rfl, Nat.le_of_ble_eq_true rfl⟩) (c_Row_put l D cI cB cJ cR h o N n2_14 f2_15 ov2_16 (((L ++ [214]) ++ [195]) ++ [196]) 0 (hN) (w_18) H.size) hK hNw hMk hA hP hD hS [0, 1] rfl rfl (by decide) 0 rfl rfl rfl rfl hl.1 rfl (Nat.le_of_ble_eq_true rfl) dX4_putMark_16 ⟨Nat.le_of_ble_eq_true rfl, Nat.le_of_ble_eq_true rfl⟩) (fun u9 H locs w_24 hP hD hS => ?_)
  obtain ⟨n2_20, f2_21, ov2_22⟩ := u9
  try dsimp only at w_24
  have hP : va_P D vwCl [(h, .inr (4, [.ref o, .int (nI n2_20), .int ov2_22])), (o, .inl (cI, N, .inl f2_21))] H := hP
  have hD : va_D A0 [(h, .inr (4, [.ref o, .int (nI n2_20), .int ov2_22])), (o, .inl (cI, N, .inl f2_21))] := hD
  refine lv_iinc (v := 4) (lv' := [(2, .int 4), (0, .ref h), (1, .int v)]) hx hb dX4_putMark_19 hl (k := 0) rfl (by decide) (by decide) rfl (fun ls hl => ?_)
  refine lv_goto (tgt := 2) hx hb dX4_putMark_22 (by decide) ?_
  refine lv_iload_n hx hb dX4_putMark_2 rfl (lv_at hl 0 rfl) ?_
  refine va_getsN (ref := "CodedDeltas") (host := "CodedDeltas") hx hb hZ hS hown (va_Nw.use rfl (hNw (.fieldLinkNest RX4 41 "CodedDeltas" "MARK" "[I" "CodedDeltas") (by decide +kernel))) (fun _ h9 => h9) dX4_putMark_3 ?_
  refine va_tlen hx hb hT hS (v := 4) rfl dX4_putMark_6 ?_
  refine lv_icmp_ge (tgt := 25) hx hb dX4_putMark_7 (by decide) (fun c_25 => ?_) (fun c_25 => absurd (by decide) c_25)
  refine lv_aload_n hx hb dX4_putMark_25 rfl (lv_at hl 1 rfl) ?_
  refine lv_iload_n hx hb dX4_putMark_26 rfl (lv_at hl 2 rfl) ?_
  refine jn_v (wr := []) hA hP hD hS [0, 1] [] rfl rfl (by decide) (by decide) (rn_V (As := [.int v]) (rest := []) ⟨hx, hb, hml, hown, hts⟩ (cvV 1 hts zc_yX4_put zi_X4 zm_yX4_put zv_yX4_put kX4_37 (by decide +kernel) rfl rfl ⟨Nat.le_of_ble_eq_true rfl, Nat.le_of_ble_eq_true rfl⟩) (c_Row_put l D cI cB cJ cR h o N n2_20 f2_21 ov2_22 ((((L ++ [214]) ++ [195]) ++ [196]) ++ [0]) v (hN) (w_24) H.size) hK hNw hMk hA hP hD hS [0, 1] rfl rfl (by decide) 0 rfl rfl rfl rfl hl.1 rfl (Nat.le_of_ble_eq_true rfl) dX4_putMark_27 ⟨Nat.le_of_ble_eq_true rfl, Nat.le_of_ble_eq_true rfl⟩) (fun u9 H locs w_30 hP hD hS => ?_)
  obtain ⟨n2_26, f2_27, ov2_28⟩ := u9
  try dsimp only at w_30
  have hP : va_P D vwCl [(h, .inr (4, [.ref o, .int (nI n2_26), .int ov2_28])), (o, .inl (cI, N, .inl f2_27))] H := hP
  have hD : va_D A0 [(h, .inr (4, [.ref o, .int (nI n2_26), .int ov2_28])), (o, .inl (cI, N, .inl f2_27))] := hD
  exact hret 30 ls _ _ (n2_26, f2_27, ov2_28) dX4_putMark_30 hP hD hS (by simpa using w_30)

set_option maxHeartbeats 4000000 in
set_option maxRecDepth 100000 in
theorem c_Row_putAll (l : Launch) (D : va_G) (cI cB cJ cR : ClassId) (h : Nat) (o : Nat) (N : Nat) (n : Nat) (f : Nat → Int32) (ov : Int32) (L : List Int32) (h2 : Nat) (o2 : Nat) (N2 : Nat) (n2 : Nat) (f2 : Nat → Int32) (M : List Int32) (hN : N < 2 ^ 31) (hr : rowIs N L n f ov) (hN2 : N2 < 2 ^ 31) (hr2 : rowIs N2 M n2 f2 0) : CMv l yX4_putAll cX4_putAll 3 none ({ frames := 1, cells := 0, slots := 0, locals := 60 }) D (tyA cI cB cJ cR) 0 0 [.ref h, .ref h2] [(h, .inr (4, [.ref o, .int (nI n), .int ov])), (o, .inl (cI, N, .inl f)), (h2, .inr (4, [.ref o2, .int (nI n2), .int 0])), (o2, .inl (cI, N2, .inl f2))] (fun (u9 : Nat × (Nat → Int32) × Int32) => match u9 with | (n3, f3, ov3) => rowIs N (L ++ M) n3 f3 ov3) (fun (u9 : Nat × (Nat → Int32) × Int32) => match u9 with | (n3, f3, ov3) => [(h, .inr (4, [.ref o, .int (nI n3), .int ov3])), (o, .inl (cI, N, .inl f3)), (h2, .inr (4, [.ref o2, .int (nI n2), .int 0])), (o2, .inl (cI, N2, .inl f2))]) := by
  refine st_v (cc := cX4_putAll) (maxL := 3) (by decide) (Nat.le_of_ble_eq_true rfl) ?_
  intro p0 e0 s0 m0 below meth c0 A0 Q0 hBD hret hP hD hS ls hl
  obtain ⟨hx, hb, hml, hown, hts, hnm, hK, hNw, hMk, hA⟩ := hBD
  have hl : lv_has ls 3 [(0, .ref h), (1, .ref h2)] := hl
  have hP : va_P D vwCl [(h, .inr (4, [.ref o, .int (nI n), .int ov])), (o, .inl (cI, N, .inl f)), (h2, .inr (4, [.ref o2, .int (nI n2), .int 0])), (o2, .inl (cI, N2, .inl f2))] s0.heap := hP
  have hD : va_D A0 [(h, .inr (4, [.ref o, .int (nI n), .int ov])), (o, .inl (cI, N, .inl f)), (h2, .inr (4, [.ref o2, .int (nI n2), .int 0])), (o2, .inl (cI, N2, .inl f2))] := hD
  have hn := rowIs_le hr
  have hn2 := rowIs_le hr2
  have hM : M.length = n2 := by
    have h1 := hr2.1; have h2 := hr2.2.1
    by_cases q : N2 < M.length
    · rw [decide_eq_true q] at h2; exact absurd h2 (by decide)
    · omega
  refine lv_aload_n hx hb dX4_putAll_0 rfl (lv_at hl 1 rfl) ?_
  refine va_get (D := D) (ci := 4) (v := .int (nI n2)) (C := RX4) (T := TX4) (N := 3) hx hb hts in_X4 hown hK hP 2 rfl rfl 1 (by decide) (hts _ kX4_21) (fun _ h9 => h9) rfl dX4_putAll_1 ?_
  refine lv_aload_n hx hb dX4_putAll_4 rfl (lv_at hl 0 rfl) ?_
  refine jn_i (wr := [(h2, .inr (4, [.ref o2, .int (nI n2), .int 0])), (o2, .inl (cI, N2, .inl f2))]) hA hP hD hS [0, 1] [2, 3] rfl rfl (by decide) (by decide) (rn_V (As := []) (rest := [.int (nI n2)]) ⟨hx, hb, hml, hown, hts⟩ (cvV 0 hts zc_yX4_room zi_X4 zm_yX4_room zv_yX4_room kX4_44 (by decide +kernel) rfl rfl ⟨Nat.le_of_ble_eq_true rfl, Nat.le_of_ble_eq_true rfl⟩) (c_Row_room l D cI cB cJ cR h o N n f ov (hN) (hn) s0.heap.size) hK hNw hMk hA hP hD hS [0, 1] rfl rfl (by decide) 0 rfl rfl rfl rfl hl.1 rfl (Nat.le_of_ble_eq_true rfl) dX4_putAll_5 ⟨Nat.le_of_ble_eq_true rfl, Nat.le_of_ble_eq_true rfl⟩) (fun r_1 u9 H locs w_2 hP hD hS => ?_)
  try dsimp only at w_2
  have hP : va_P D vwCl [(h2, .inr (4, [.ref o2, .int (nI n2), .int 0])), (o2, .inl (cI, N2, .inl f2)), (h, .inr (4, [.ref o, .int (nI n), .int ov])), (o, .inl (cI, N, .inl f))] H := hP
  have hD : va_D A0 [(h2, .inr (4, [.ref o2, .int (nI n2), .int 0])), (o2, .inl (cI, N2, .inl f2)), (h, .inr (4, [.ref o, .int (nI n), .int ov])), (o, .inl (cI, N, .inl f))] := hD
  subst w_2
  refine va_mmin hx hb (hml.trans hl.1.symm) hown (hts _ kX4_48) (hts _ zs_yJ9_min_7cf53) (hts _ zi_J9) (hts _ zc_yJ9_min_7cf53) (Nat.le_of_ble_eq_true rfl) (Nat.le_of_ble_eq_true rfl) (Nat.zero_le _) (Nat.zero_le _) dX4_putAll_8 ?_
  refine ri (y := nI (min n2 (N - n))) (nI_min (by omega) (by omega)) ?_
  refine lv_istore_n (lv' := [(2, .int (nI (min n2 (N - n)))), (0, .ref h), (1, .ref h2)]) hx hb dX4_putAll_11 rfl hl (by decide) rfl (fun ls hl => ?_)
  refine lv_aload_n hx hb dX4_putAll_12 rfl (lv_at hl 2 rfl) ?_
  refine va_get (D := D) (ci := 4) (v := .ref o2) (C := RX4) (T := TX4) (N := 3) hx hb hts in_X4 hown hK hP 0 rfl rfl 0 (by decide) (hts _ kX4_15) (fun _ h9 => h9) rfl dX4_putAll_13 ?_
  refine lv_iconst (v := 0) hx hb dX4_putAll_16 (by decide) ?_
  refine lv_aload_n hx hb dX4_putAll_17 rfl (lv_at hl 1 rfl) ?_
  refine va_get (D := D) (ci := 4) (v := .ref o) (C := RX4) (T := TX4) (N := 3) hx hb hts in_X4 hown hK hP 2 rfl rfl 0 (by decide) (hts _ kX4_15) (fun _ h9 => h9) rfl dX4_putAll_18 ?_
  refine lv_aload_n hx hb dX4_putAll_21 rfl (lv_at hl 1 rfl) ?_
  refine va_get (D := D) (ci := 4) (v := .int (nI n)) (C := RX4) (T := TX4) (N := 3) hx hb hts in_X4 hown hK hP 2 rfl rfl 1 (by decide) (hts _ kX4_21) (fun _ h9 => h9) rfl dX4_putAll_22 ?_
  refine lv_iload_n hx hb dX4_putAll_25 rfl (lv_at hl 0 rfl) ?_
  refine ax_cpy hx hb (hml.trans hl.1.symm) hown (hts _ kX4_51) (hts _ zt_arraycopyName) (hts _ zs_arraycopyName) (hts _ zi_J10) hK hP hD hS 1 3 0 rfl rfl rfl 0 n (min n2 (N - n)) (nI_0.symm) (rfl) (rfl) (⟨by omega, hN2⟩) (⟨by omega, hN⟩) (Nat.le_of_ble_eq_true rfl) (Nat.le_of_ble_eq_true rfl) dX4_putAll_26 (fun H locs hP hD hS => ?_)
  have hP : va_P D vwCl [(h2, .inr (4, [.ref o2, .int (nI n2), .int 0])), (o2, .inl (cI, N2, .inl f2)), (h, .inr (4, [.ref o, .int (nI n), .int ov])), (o, .inl (cI, N, .inl (va_cpy f2 f 0 n (min n2 (N - n)))))] H := hP
  have hD : va_D A0 [(h2, .inr (4, [.ref o2, .int (nI n2), .int 0])), (o2, .inl (cI, N2, .inl f2)), (h, .inr (4, [.ref o, .int (nI n), .int ov])), (o, .inl (cI, N, .inl (va_cpy f2 f 0 n (min n2 (N - n)))))] := hD
  refine lv_aload_n hx hb dX4_putAll_29 rfl (lv_at hl 1 rfl) ?_
  refine lv_dup hx hb dX4_putAll_30 rfl ?_
  refine va_get (D := D) (ci := 4) (v := .int (nI n)) (C := RX4) (T := TX4) (N := 3) hx hb hts in_X4 hown hK hP 2 rfl rfl 1 (by decide) (hts _ kX4_21) (fun _ h9 => h9) rfl dX4_putAll_31 ?_
  refine lv_iload_n hx hb dX4_putAll_34 rfl (lv_at hl 0 rfl) ?_
  refine lv_iadd hx hb dX4_putAll_35 ?_
  refine ri (y := nI (n + (min n2 (N - n)))) (nI_add n (min n2 (N - n))) ?_
  refine va_put (D := D) (ci := 4) (v := .int (nI (n + (min n2 (N - n))))) (ty := .int) (C := RX4) (T := TX4) (N := 3) hx hb hts in_X4 tyX4 tyX4_ok nmX4 hown hK hP hD hS 2 rfl rfl 1 (by decide) (hts _ kX4_21) (fun _ h9 => h9) rfl (by decide +kernel) rfl rfl (Nat.le_of_ble_eq_true rfl) dX4_putAll_36 (fun H locs hP hD hS => ?_)
  have hP : va_P D vwCl [(h2, .inr (4, [.ref o2, .int (nI n2), .int 0])), (o2, .inl (cI, N2, .inl f2)), (h, .inr (4, [.ref o, .int (nI (n + (min n2 (N - n)))), .int ov])), (o, .inl (cI, N, .inl (va_cpy f2 f 0 n (min n2 (N - n)))))] H := hP
  have hD : va_D A0 [(h2, .inr (4, [.ref o2, .int (nI n2), .int 0])), (o2, .inl (cI, N2, .inl f2)), (h, .inr (4, [.ref o, .int (nI (n + (min n2 (N - n)))), .int ov])), (o, .inl (cI, N, .inl (va_cpy f2 f 0 n (min n2 (N - n)))))] := hD
  refine lv_aload_n hx hb dX4_putAll_39 rfl (lv_at hl 1 rfl) ?_
  refine lv_aload_n hx hb dX4_putAll_40 rfl (lv_at hl 1 rfl) ?_
  refine va_get (D := D) (ci := 4) (v := .int ov) (C := RX4) (T := TX4) (N := 3) hx hb hts in_X4 hown hK hP 2 rfl rfl 2 (by decide) (hts _ kX4_25) (fun _ h9 => h9) rfl dX4_putAll_41 ?_
  have hcat := rowIs_cat hr (show rowIs n2 M n2 f2 (bI (decide (n2 < M.length))) from ⟨by omega, rfl, hr2.2.2⟩) hM (min n2 (N - n)) rfl
  have hov := hr.2.1
  have hnn := hr.1
  refine lv_if_ne (tgt := 62) hx hb dX4_putAll_44 (by decide) (fun c_3 => ?_) (fun c_3 => ?_)
  · have hq : N < L.length := Decidable.byContradiction (fun q => c_3 (by rw [hov, decide_eq_false q]; rfl))
    refine lv_iconst (v := 1) hx hb dX4_putAll_62 (by decide) ?_
    refine lv_goto (tgt := 67) hx hb dX4_putAll_63 (by decide) ?_
    refine va_put (D := D) (ci := 4) (v := .int 1) (ty := .boolean) (C := RX4) (T := TX4) (N := 3) hx hb hts in_X4 tyX4 tyX4_ok nmX4 hown hK hP hD hS 2 rfl rfl 2 (by decide) (hts _ kX4_25) (fun _ h9 => h9) rfl (by decide +kernel) rfl rfl (Nat.le_of_ble_eq_true rfl) dX4_putAll_67 (fun H locs hP hD hS => ?_)
    have hP : va_P D vwCl [(h2, .inr (4, [.ref o2, .int (nI n2), .int 0])), (o2, .inl (cI, N2, .inl f2)), (h, .inr (4, [.ref o, .int (nI (n + (min n2 (N - n)))), .int 1])), (o, .inl (cI, N, .inl (va_cpy f2 f 0 n (min n2 (N - n)))))] H := hP
    have hD : va_D A0 [(h2, .inr (4, [.ref o2, .int (nI n2), .int 0])), (o2, .inl (cI, N2, .inl f2)), (h, .inr (4, [.ref o, .int (nI (n + (min n2 (N - n)))), .int 1])), (o, .inl (cI, N, .inl (va_cpy f2 f 0 n (min n2 (N - n)))))] := hD
    have hP := hP.sub (ws' := [(h, .inr (4, [.ref o, .int (nI (n + (min n2 (N - n)))), .int 1])), (o, .inl (cI, N, .inl (va_cpy f2 f 0 n (min n2 (N - n))))), (h2, .inr (4, [.ref o2, .int (nI n2), .int 0])), (o2, .inl (cI, N2, .inl f2))]) [2, 3, 0, 1] rfl
    have hD := hD.sub (ws' := [(h, .inr (4, [.ref o, .int (nI (n + (min n2 (N - n)))), .int 1])), (o, .inl (cI, N, .inl (va_cpy f2 f 0 n (min n2 (N - n))))), (h2, .inr (4, [.ref o2, .int (nI n2), .int 0])), (o2, .inl (cI, N2, .inl f2))]) [2, 3, 0, 1] (by decide) rfl
    exact hret 70 ls _ _ (n + min n2 (N - n), va_cpy f2 f 0 n (min n2 (N - n)), 1) dX4_putAll_70 hP hD hS (by rw [show (1 : Int32) = bI (decide (N < (L ++ M).length)) from by rw [show decide (N < (L ++ M).length) = true from by simp; omega]; rfl]; exact hcat)
  · have hq : ¬ N < L.length := fun q => absurd (hov.symm.trans c_3) (by rw [decide_eq_true q]; decide)
    refine lv_iload_n hx hb dX4_putAll_47 rfl (lv_at hl 0 rfl) ?_
    refine lv_aload_n hx hb dX4_putAll_48 rfl (lv_at hl 2 rfl) ?_
    refine va_get (D := D) (ci := 4) (v := .int (nI n2)) (C := RX4) (T := TX4) (N := 3) hx hb hts in_X4 hown hK hP 0 rfl rfl 1 (by decide) (hts _ kX4_21) (fun _ h9 => h9) rfl dX4_putAll_49 ?_
    refine lv_icmp_lt (tgt := 62) hx hb dX4_putAll_52 (by decide) (fun c_4 => ?_) (fun c_4 => ?_)
    · have hq2 : min n2 (N - n) < n2 := (nI_ltI (by omega) (by omega)).mp c_4
      refine lv_iconst (v := 1) hx hb dX4_putAll_62 (by decide) ?_
      refine lv_goto (tgt := 67) hx hb dX4_putAll_63 (by decide) ?_
      refine va_put (D := D) (ci := 4) (v := .int 1) (ty := .boolean) (C := RX4) (T := TX4) (N := 3) hx hb hts in_X4 tyX4 tyX4_ok nmX4 hown hK hP hD hS 2 rfl rfl 2 (by decide) (hts _ kX4_25) (fun _ h9 => h9) rfl (by decide +kernel) rfl rfl (Nat.le_of_ble_eq_true rfl) dX4_putAll_67 (fun H locs hP hD hS => ?_)
      have hP : va_P D vwCl [(h2, .inr (4, [.ref o2, .int (nI n2), .int 0])), (o2, .inl (cI, N2, .inl f2)), (h, .inr (4, [.ref o, .int (nI (n + (min n2 (N - n)))), .int 1])), (o, .inl (cI, N, .inl (va_cpy f2 f 0 n (min n2 (N - n)))))] H := hP
      have hD : va_D A0 [(h2, .inr (4, [.ref o2, .int (nI n2), .int 0])), (o2, .inl (cI, N2, .inl f2)), (h, .inr (4, [.ref o, .int (nI (n + (min n2 (N - n)))), .int 1])), (o, .inl (cI, N, .inl (va_cpy f2 f 0 n (min n2 (N - n)))))] := hD
      have hP := hP.sub (ws' := [(h, .inr (4, [.ref o, .int (nI (n + (min n2 (N - n)))), .int 1])), (o, .inl (cI, N, .inl (va_cpy f2 f 0 n (min n2 (N - n))))), (h2, .inr (4, [.ref o2, .int (nI n2), .int 0])), (o2, .inl (cI, N2, .inl f2))]) [2, 3, 0, 1] rfl
      have hD := hD.sub (ws' := [(h, .inr (4, [.ref o, .int (nI (n + (min n2 (N - n)))), .int 1])), (o, .inl (cI, N, .inl (va_cpy f2 f 0 n (min n2 (N - n))))), (h2, .inr (4, [.ref o2, .int (nI n2), .int 0])), (o2, .inl (cI, N2, .inl f2))]) [2, 3, 0, 1] (by decide) rfl
      exact hret 70 ls _ _ (n + min n2 (N - n), va_cpy f2 f 0 n (min n2 (N - n)), 1) dX4_putAll_70 hP hD hS (by rw [show (1 : Int32) = bI (decide (N < (L ++ M).length)) from by rw [show decide (N < (L ++ M).length) = true from by simp; omega]; rfl]; exact hcat)
    · have hq2 : ¬ min n2 (N - n) < n2 := fun q => c_4 (nI_lt q (by omega))
      refine lv_aload_n hx hb dX4_putAll_55 rfl (lv_at hl 2 rfl) ?_
      refine va_get (D := D) (ci := 4) (v := .int 0) (C := RX4) (T := TX4) (N := 3) hx hb hts in_X4 hown hK hP 0 rfl rfl 2 (by decide) (hts _ kX4_25) (fun _ h9 => h9) rfl dX4_putAll_56 ?_
      refine lv_if_eq (tgt := 66) hx hb dX4_putAll_59 (by decide) (fun c_5 => ?_) (fun c_5 => absurd (rfl) c_5)
      refine lv_iconst (v := 0) hx hb dX4_putAll_66 (by decide) ?_
      refine va_put (D := D) (ci := 4) (v := .int 0) (ty := .boolean) (C := RX4) (T := TX4) (N := 3) hx hb hts in_X4 tyX4 tyX4_ok nmX4 hown hK hP hD hS 2 rfl rfl 2 (by decide) (hts _ kX4_25) (fun _ h9 => h9) rfl (by decide +kernel) rfl rfl (Nat.le_of_ble_eq_true rfl) dX4_putAll_67 (fun H locs hP hD hS => ?_)
      have hP : va_P D vwCl [(h2, .inr (4, [.ref o2, .int (nI n2), .int 0])), (o2, .inl (cI, N2, .inl f2)), (h, .inr (4, [.ref o, .int (nI (n + (min n2 (N - n)))), .int 0])), (o, .inl (cI, N, .inl (va_cpy f2 f 0 n (min n2 (N - n)))))] H := hP
      have hD : va_D A0 [(h2, .inr (4, [.ref o2, .int (nI n2), .int 0])), (o2, .inl (cI, N2, .inl f2)), (h, .inr (4, [.ref o, .int (nI (n + (min n2 (N - n)))), .int 0])), (o, .inl (cI, N, .inl (va_cpy f2 f 0 n (min n2 (N - n)))))] := hD
      have hP := hP.sub (ws' := [(h, .inr (4, [.ref o, .int (nI (n + (min n2 (N - n)))), .int 0])), (o, .inl (cI, N, .inl (va_cpy f2 f 0 n (min n2 (N - n))))), (h2, .inr (4, [.ref o2, .int (nI n2), .int 0])), (o2, .inl (cI, N2, .inl f2))]) [2, 3, 0, 1] rfl
      have hD := hD.sub (ws' := [(h, .inr (4, [.ref o, .int (nI (n + (min n2 (N - n)))), .int 0])), (o, .inl (cI, N, .inl (va_cpy f2 f 0 n (min n2 (N - n))))), (h2, .inr (4, [.ref o2, .int (nI n2), .int 0])), (o2, .inl (cI, N2, .inl f2))]) [2, 3, 0, 1] (by decide) rfl
      exact hret 70 ls _ _ (n + min n2 (N - n), va_cpy f2 f 0 n (min n2 (N - n)), 0) dX4_putAll_70 hP hD hS (by rw [show (0 : Int32) = bI (decide (N < (L ++ M).length)) from by rw [show decide (N < (L ++ M).length) = false from by simp; omega]; rfl]; exact hcat)
