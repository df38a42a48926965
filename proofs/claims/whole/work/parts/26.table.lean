/-! TABLES of codes: the string's octets are t -/
def tabIs (f : Nat → Int32) (t : Nat → Nat) : Prop := ∀ j, j < 1536 → f j = nI (t j) ∧ t j < 256
def rightP (t : Nat → Nat) (m k : Nat) : Prop := ∀ i, i < k → t i ≤ 3 ∧ (t i = 3 → t (1024 + i) < m)
def chn (k s m : Nat) : Nat := (if k = 3 then 64 + s + 19 * m else 128 * k + s) % 256
def fitB (t : Nat → Nat) (c q k s m : Nat) : Bool := decide (t (q * 256 + c) = k ∧ t (512 + q * 256 + c) = s ∧ (k = 3 → t (1024 + q * 256 + c) = m))
/-- the chain of a code by its first part -/
def chq (t : Nat → Nat) (c : Nat) : Nat := chn (t c) (t (512 + c)) (t (1024 + c))
/-- the least code from lo on (n of them) for which P holds, or -1 -/
def fstC (P : Nat → Bool) : Nat → Nat → Int32
  | 0, _ => -1
  | n + 1, lo => if P lo then nI lo else fstC P n (lo + 1)
abbrev nxC (q : Nat → Nat) (x : Nat) : Nat → Nat → Int32 := fstC (fun c => decide (q c = x))
theorem chn_lt (k s m : Nat) : chn k s m < 256 := Nat.mod_lt _ (by decide)
theorem fit_chn {t : Nat → Nat} {c k s m : Nat} (h : fitB t c 0 k s m = true) : chq t c = chn k s m := by
  simp only [fitB, decide_eq_true_eq, Nat.zero_mul, Nat.zero_add, Nat.add_zero] at h
  obtain ⟨h1, h2, h3⟩ := h
  unfold chq chn
  rw [h1, h2]
  by_cases hk : k = 3
  · rw [if_pos hk, if_pos hk, h3 hk]
  · rw [if_neg hk, if_neg hk]
theorem fst_neg {P : Nat → Bool} : ∀ (n lo : Nat), lo + n < 2 ^ 31 → fstC P n lo < 0 → ∀ c, lo ≤ c → c < lo + n → P c = false
  | 0, lo => fun _ _ c h1 h2 => absurd h2 (by omega)
  | n + 1, lo => fun hb h c h1 h2 => by
    unfold fstC at h
    by_cases hp : P lo = true
    · rw [if_pos hp] at h; exact absurd h (nI_pos (by omega))
    · rw [if_neg hp] at h
      by_cases hc : c = lo
      · subst hc; exact Bool.eq_false_iff.mpr hp
      · exact fst_neg n (lo + 1) (by omega) h c (by omega) (by omega)
theorem fst_pos {P : Nat → Bool} : ∀ (n lo : Nat), ¬ fstC P n lo < 0 → ∃ c, fstC P n lo = nI c ∧ lo ≤ c ∧ c < lo + n ∧ P c = true ∧ ∀ d, lo ≤ d → d < c → P d = false
  | 0, lo => fun h => absurd (show (-1 : Int32) < 0 by decide) h
  | n + 1, lo => fun h => by
    unfold fstC at h ⊢
    by_cases hp : P lo = true
    · rw [if_pos hp]; exact ⟨lo, rfl, by omega, by omega, hp, fun d h1 h2 => absurd h2 (by omega)⟩
    · rw [if_neg hp] at h ⊢
      obtain ⟨c, h1, h2, h3, h4, h5⟩ := fst_pos n (lo + 1) h
      refine ⟨c, h1, by omega, by omega, h4, fun d d1 d2 => ?_⟩
      by_cases hd : d = lo
      · subst hd; exact Bool.eq_false_iff.mpr hp
      · exact h5 d (by omega) d2
theorem fst_none {P : Nat → Bool} : ∀ (n lo : Nat), (∀ c, lo ≤ c → c < lo + n → P c = false) → fstC P n lo = -1
  | 0, lo => fun _ => rfl
  | n + 1, lo => fun h => by
    unfold fstC
    rw [h lo (by omega) (by omega)]
    exact fst_none n (lo + 1) (fun c h1 h2 => h c (by omega) (by omega))
theorem fst_at {P : Nat → Bool} : ∀ (n lo c : Nat), lo ≤ c → c < lo + n → P c = true → (∀ d, lo ≤ d → d < c → P d = false) → fstC P n lo = nI c
  | 0, lo, c => fun h1 h2 _ _ => absurd h2 (by omega)
  | n + 1, lo, c => fun h1 h2 h3 h4 => by
    unfold fstC
    by_cases hc : c = lo
    · subst hc; rw [if_pos h3]
    · rw [h4 lo (by omega) (by omega)]
      exact fst_at n (lo + 1) c (by omega) (by omega) h3 (fun d d1 d2 => h4 d (by omega) d2)
set_option maxHeartbeats 4000000 in
set_option maxRecDepth 100000 in
theorem c_Table_kindOf (l : Launch) (D : va_G) (cI cB cJ cR : ClassId) (t : Nat) (sr : Nat) (so : Nat) (tn : Nat) (ts : Nat) (hd : Nat) (nt : Nat) (sf : Nat → Int32) (tt : Nat → Nat) (c : Nat) (q : Nat) (ht : tabIs sf tt) (hc : c < 256) (hq : q < 2) : CMi l yX6_kindOf cX6_kindOf 3 (some .int) ({ frames := 1, cells := 0, slots := 0, locals := 21 }) D (tyA cI cB cJ cR) 0 0 [.ref t, .int (nI c), .int (nI q)] [(t, .inr (6, [.ref sr, .int (nI tn), .int (nI ts), .ref hd, .ref nt])), (sr, .inr (4, [.ref so, .int (nI 1536), .int 0])), (so, .inl (cI, 1536, .inl sf))] (fun (r : Int32) (_ : Unit) => r = nI (tt (q * 256 + c))) (fun (_ : Unit) => [(t, .inr (6, [.ref sr, .int (nI tn), .int (nI ts), .ref hd, .ref nt])), (sr, .inr (4, [.ref so, .int (nI 1536), .int 0])), (so, .inl (cI, 1536, .inl sf))]) := by
  refine st_i (cc := cX6_kindOf) (maxL := 3) (by decide) (Nat.le_of_ble_eq_true rfl) ?_
  intro p0 e0 s0 m0 below meth c0 A0 Q0 hBD hret hP hD hS ls hl
  obtain ⟨hx, hb, hml, hown, hts, hnm, hK, hNw, hMk, hA⟩ := hBD
  have hl : lv_has ls 3 [(0, .ref t), (1, .int (nI c)), (2, .int (nI q))] := hl
  have hP : va_P D vwCl [(t, .inr (6, [.ref sr, .int (nI tn), .int (nI ts), .ref hd, .ref nt])), (sr, .inr (4, [.ref so, .int (nI 1536), .int 0])), (so, .inl (cI, 1536, .inl sf))] s0.heap := hP
  have hD : va_D A0 [(t, .inr (6, [.ref sr, .int (nI tn), .int (nI ts), .ref hd, .ref nt])), (sr, .inr (4, [.ref so, .int (nI 1536), .int 0])), (so, .inl (cI, 1536, .inl sf))] := hD
  refine lv_aload_n hx hb dX6_kindOf_0 rfl (lv_at hl 0 rfl) ?_
  refine va_get (D := D) (ci := 6) (v := .ref sr) (C := RX6) (T := TX6) (N := 5) hx hb hts in_X6 hown hK hP 0 rfl rfl 0 (by decide) (hts _ kX6_14) (fun _ h9 => h9) rfl dX6_kindOf_1 ?_
  refine lv_iload_n hx hb dX6_kindOf_4 rfl (lv_at hl 2 rfl) ?_
  refine lv_sipush (v := 256) hx hb dX6_kindOf_5 (by decide) ?_
  refine lv_imul hx hb dX6_kindOf_8 ?_
  refine ri (y := nI (q * 256)) (pk_mul q 256) ?_
  refine lv_iload_n hx hb dX6_kindOf_9 rfl (lv_at hl 1 rfl) ?_
  refine lv_iadd hx hb dX6_kindOf_10 ?_
  refine ri (y := nI ((q * 256) + c)) (nI_add (q * 256) c) ?_
  refine jn_i (wr := [(t, .inr (6, [.ref sr, .int (nI tn), .int (nI ts), .ref hd, .ref nt]))]) hA hP hD hS [1, 2] [0] rfl rfl (by decide) (by decide) (rn_V (As := [.int (nI (q * 256 + c))]) (rest := []) ⟨hx, hb, hml, hown, hts⟩ (cvV 1 hts zc_yX4_at zi_X4 zm_yX4_at zv_yX4_at kX6_27 (by decide +kernel) rfl rfl ⟨Nat.le_of_ble_eq_true rfl, Nat.le_of_ble_eq_true rfl⟩) (c_Row_at l D cI cB cJ cR sr so 1536 1536 sf 0 (nI (q * 256 + c)) (by decide) (by decide) s0.heap.size) hK hNw hMk hA hP hD hS [1, 2] rfl rfl (by decide) 0 rfl rfl rfl rfl hl.1 rfl (Nat.le_of_ble_eq_true rfl) dX6_kindOf_11 ⟨Nat.le_of_ble_eq_true rfl, Nat.le_of_ble_eq_true rfl⟩) (fun r_1 u9 H locs w_2 hP hD hS => ?_)
  try dsimp only at w_2
  have hP : va_P D vwCl [(t, .inr (6, [.ref sr, .int (nI tn), .int (nI ts), .ref hd, .ref nt])), (sr, .inr (4, [.ref so, .int (nI 1536), .int 0])), (so, .inl (cI, 1536, .inl sf))] H := hP
  have hD : va_D A0 [(t, .inr (6, [.ref sr, .int (nI tn), .int (nI ts), .ref hd, .ref nt])), (sr, .inr (4, [.ref so, .int (nI 1536), .int 0])), (so, .inl (cI, 1536, .inl sf))] := hD
  rw [if_pos (inB_t (by omega) (by decide)), nI_clamp (by omega), (ht _ (by omega)).1] at w_2
  subst w_2
  exact hret 14 ls _ _ _ () dX6_kindOf_14 hP hD hS (rfl)

set_option maxHeartbeats 4000000 in
set_option maxRecDepth 100000 in
theorem c_Table_sizeOf (l : Launch) (D : va_G) (cI cB cJ cR : ClassId) (t : Nat) (sr : Nat) (so : Nat) (tn : Nat) (ts : Nat) (hd : Nat) (nt : Nat) (sf : Nat → Int32) (tt : Nat → Nat) (c : Nat) (q : Nat) (ht : tabIs sf tt) (hc : c < 256) (hq : q < 2) : CMi l yX6_sizeOf cX6_sizeOf 3 (some .int) ({ frames := 1, cells := 0, slots := 0, locals := 21 }) D (tyA cI cB cJ cR) 0 0 [.ref t, .int (nI c), .int (nI q)] [(t, .inr (6, [.ref sr, .int (nI tn), .int (nI ts), .ref hd, .ref nt])), (sr, .inr (4, [.ref so, .int (nI 1536), .int 0])), (so, .inl (cI, 1536, .inl sf))] (fun (r : Int32) (_ : Unit) => r = nI (tt (512 + q * 256 + c))) (fun (_ : Unit) => [(t, .inr (6, [.ref sr, .int (nI tn), .int (nI ts), .ref hd, .ref nt])), (sr, .inr (4, [.ref so, .int (nI 1536), .int 0])), (so, .inl (cI, 1536, .inl sf))]) := by
  refine st_i (cc := cX6_sizeOf) (maxL := 3) (by decide) (Nat.le_of_ble_eq_true rfl) ?_
  intro p0 e0 s0 m0 below meth c0 A0 Q0 hBD hret hP hD hS ls hl
  obtain ⟨hx, hb, hml, hown, hts, hnm, hK, hNw, hMk, hA⟩ := hBD
  have hl : lv_has ls 3 [(0, .ref t), (1, .int (nI c)), (2, .int (nI q))] := hl
  have hP : va_P D vwCl [(t, .inr (6, [.ref sr, .int (nI tn), .int (nI ts), .ref hd, .ref nt])), (sr, .inr (4, [.ref so, .int (nI 1536), .int 0])), (so, .inl (cI, 1536, .inl sf))] s0.heap := hP
  have hD : va_D A0 [(t, .inr (6, [.ref sr, .int (nI tn), .int (nI ts), .ref hd, .ref nt])), (sr, .inr (4, [.ref so, .int (nI 1536), .int 0])), (so, .inl (cI, 1536, .inl sf))] := hD
  refine lv_aload_n hx hb dX6_sizeOf_0 rfl (lv_at hl 0 rfl) ?_
  refine va_get (D := D) (ci := 6) (v := .ref sr) (C := RX6) (T := TX6) (N := 5) hx hb hts in_X6 hown hK hP 0 rfl rfl 0 (by decide) (hts _ kX6_14) (fun _ h9 => h9) rfl dX6_sizeOf_1 ?_
  refine lv_sipush (v := 512) hx hb dX6_sizeOf_4 (by decide) ?_
  refine lv_iload_n hx hb dX6_sizeOf_7 rfl (lv_at hl 2 rfl) ?_
  refine lv_sipush (v := 256) hx hb dX6_sizeOf_8 (by decide) ?_
  refine lv_imul hx hb dX6_sizeOf_11 ?_
  refine ri (y := nI (q * 256)) (pk_mul q 256) ?_
  refine lv_iadd hx hb dX6_sizeOf_12 ?_
  refine ri (y := nI (512 + (q * 256))) (nI_add 512 (q * 256)) ?_
  refine lv_iload_n hx hb dX6_sizeOf_13 rfl (lv_at hl 1 rfl) ?_
  refine lv_iadd hx hb dX6_sizeOf_14 ?_
  refine ri (y := nI ((512 + (q * 256)) + c)) (nI_add (512 + (q * 256)) c) ?_
  refine jn_i (wr := [(t, .inr (6, [.ref sr, .int (nI tn), .int (nI ts), .ref hd, .ref nt]))]) hA hP hD hS [1, 2] [0] rfl rfl (by decide) (by decide) (rn_V (As := [.int (nI (512 + q * 256 + c))]) (rest := []) ⟨hx, hb, hml, hown, hts⟩ (cvV 1 hts zc_yX4_at zi_X4 zm_yX4_at zv_yX4_at kX6_27 (by decide +kernel) rfl rfl ⟨Nat.le_of_ble_eq_true rfl, Nat.le_of_ble_eq_true rfl⟩) (c_Row_at l D cI cB cJ cR sr so 1536 1536 sf 0 (nI (512 + q * 256 + c)) (by decide) (by decide) s0.heap.size) hK hNw hMk hA hP hD hS [1, 2] rfl rfl (by decide) 0 rfl rfl rfl rfl hl.1 rfl (Nat.le_of_ble_eq_true rfl) dX6_sizeOf_15 ⟨Nat.le_of_ble_eq_true rfl, Nat.le_of_ble_eq_true rfl⟩) (fun r_1 u9 H locs w_2 hP hD hS => ?_)
  try dsimp only at w_2
  have hP : va_P D vwCl [(t, .inr (6, [.ref sr, .int (nI tn), .int (nI ts), .ref hd, .ref nt])), (sr, .inr (4, [.ref so, .int (nI 1536), .int 0])), (so, .inl (cI, 1536, .inl sf))] H := hP
  have hD : va_D A0 [(t, .inr (6, [.ref sr, .int (nI tn), .int (nI ts), .ref hd, .ref nt])), (sr, .inr (4, [.ref so, .int (nI 1536), .int 0])), (so, .inl (cI, 1536, .inl sf))] := hD
  rw [if_pos (inB_t (by omega) (by decide)), nI_clamp (by omega), (ht _ (by omega)).1] at w_2
  subst w_2
  exact hret 18 ls _ _ _ () dX6_sizeOf_18 hP hD hS (rfl)

set_option maxHeartbeats 4000000 in
set_option maxRecDepth 100000 in
theorem c_Table_modeOf (l : Launch) (D : va_G) (cI cB cJ cR : ClassId) (t : Nat) (sr : Nat) (so : Nat) (tn : Nat) (ts : Nat) (hd : Nat) (nt : Nat) (sf : Nat → Int32) (tt : Nat → Nat) (c : Nat) (q : Nat) (ht : tabIs sf tt) (hc : c < 256) (hq : q < 2) : CMi l yX6_modeOf cX6_modeOf 3 (some .int) ({ frames := 1, cells := 0, slots := 0, locals := 21 }) D (tyA cI cB cJ cR) 0 0 [.ref t, .int (nI c), .int (nI q)] [(t, .inr (6, [.ref sr, .int (nI tn), .int (nI ts), .ref hd, .ref nt])), (sr, .inr (4, [.ref so, .int (nI 1536), .int 0])), (so, .inl (cI, 1536, .inl sf))] (fun (r : Int32) (_ : Unit) => r = nI (tt (1024 + q * 256 + c))) (fun (_ : Unit) => [(t, .inr (6, [.ref sr, .int (nI tn), .int (nI ts), .ref hd, .ref nt])), (sr, .inr (4, [.ref so, .int (nI 1536), .int 0])), (so, .inl (cI, 1536, .inl sf))]) := by
  refine st_i (cc := cX6_modeOf) (maxL := 3) (by decide) (Nat.le_of_ble_eq_true rfl) ?_
  intro p0 e0 s0 m0 below meth c0 A0 Q0 hBD hret hP hD hS ls hl
  obtain ⟨hx, hb, hml, hown, hts, hnm, hK, hNw, hMk, hA⟩ := hBD
  have hl : lv_has ls 3 [(0, .ref t), (1, .int (nI c)), (2, .int (nI q))] := hl
  have hP : va_P D vwCl [(t, .inr (6, [.ref sr, .int (nI tn), .int (nI ts), .ref hd, .ref nt])), (sr, .inr (4, [.ref so, .int (nI 1536), .int 0])), (so, .inl (cI, 1536, .inl sf))] s0.heap := hP
  have hD : va_D A0 [(t, .inr (6, [.ref sr, .int (nI tn), .int (nI ts), .ref hd, .ref nt])), (sr, .inr (4, [.ref so, .int (nI 1536), .int 0])), (so, .inl (cI, 1536, .inl sf))] := hD
  refine lv_aload_n hx hb dX6_modeOf_0 rfl (lv_at hl 0 rfl) ?_
  refine va_get (D := D) (ci := 6) (v := .ref sr) (C := RX6) (T := TX6) (N := 5) hx hb hts in_X6 hown hK hP 0 rfl rfl 0 (by decide) (hts _ kX6_14) (fun _ h9 => h9) rfl dX6_modeOf_1 ?_
  refine lv_sipush (v := 1024) hx hb dX6_modeOf_4 (by decide) ?_
  refine lv_iload_n hx hb dX6_modeOf_7 rfl (lv_at hl 2 rfl) ?_
  refine lv_sipush (v := 256) hx hb dX6_modeOf_8 (by decide) ?_
  refine lv_imul hx hb dX6_modeOf_11 ?_
  refine ri (y := nI (q * 256)) (pk_mul q 256) ?_
  refine lv_iadd hx hb dX6_modeOf_12 ?_
  refine ri (y := nI (1024 + (q * 256))) (nI_add 1024 (q * 256)) ?_
  refine lv_iload_n hx hb dX6_modeOf_13 rfl (lv_at hl 1 rfl) ?_
  refine lv_iadd hx hb dX6_modeOf_14 ?_
  refine ri (y := nI ((1024 + (q * 256)) + c)) (nI_add (1024 + (q * 256)) c) ?_
  refine jn_i (wr := [(t, .inr (6, [.ref sr, .int (nI tn), .int (nI ts), .ref hd, .ref nt]))]) hA hP hD hS [1, 2] [0] rfl rfl (by decide) (by decide) (rn_V (As := [.int (nI (1024 + q * 256 + c))]) (rest := []) ⟨hx, hb, hml, hown, hts⟩ (cvV 1 hts zc_yX4_at zi_X4 zm_yX4_at zv_yX4_at kX6_27 (by decide +kernel) rfl rfl ⟨Nat.le_of_ble_eq_true rfl, Nat.le_of_ble_eq_true rfl⟩) (c_Row_at l D cI cB cJ cR sr so 1536 1536 sf 0 (nI (1024 + q * 256 + c)) (by decide) (by decide) s0.heap.size) hK hNw hMk hA hP hD hS [1, 2] rfl rfl (by decide) 0 rfl rfl rfl rfl hl.1 rfl (Nat.le_of_ble_eq_true rfl) dX6_modeOf_15 ⟨Nat.le_of_ble_eq_true rfl, Nat.le_of_ble_eq_true rfl⟩) (fun r_1 u9 H locs w_2 hP hD hS => ?_)
  try dsimp only at w_2
  have hP : va_P D vwCl [(t, .inr (6, [.ref sr, .int (nI tn), .int (nI ts), .ref hd, .ref nt])), (sr, .inr (4, [.ref so, .int (nI 1536), .int 0])), (so, .inl (cI, 1536, .inl sf))] H := hP
  have hD : va_D A0 [(t, .inr (6, [.ref sr, .int (nI tn), .int (nI ts), .ref hd, .ref nt])), (sr, .inr (4, [.ref so, .int (nI 1536), .int 0])), (so, .inl (cI, 1536, .inl sf))] := hD
  rw [if_pos (inB_t (by omega) (by decide)), nI_clamp (by omega), (ht _ (by omega)).1] at w_2
  subst w_2
  exact hret 18 ls _ _ _ () dX6_modeOf_18 hP hD hS (rfl)

set_option maxHeartbeats 4000000 in
set_option maxRecDepth 100000 in
theorem c_Table_chainOf (l : Launch) (D : va_G) (cI cB cJ cR : ClassId) (k : Nat) (s : Nat) (md : Nat) (hk : k < 2 ^ 20) (hs : s < 2 ^ 20) (hm : md < 2 ^ 20) : CMi l yX6_chainOf cX6_chainOf 3 (some .int) ({ frames := 0, cells := 0, slots := 0, locals := 0 }) D (tyA cI cB cJ cR) 0 0 [.int (nI k), .int (nI s), .int (nI md)] [] (fun (r : Int32) (_ : Unit) => r = nI (chn k s md)) (fun (_ : Unit) => []) := by
  refine st_i (cc := cX6_chainOf) (maxL := 3) (by decide) (Nat.le_of_ble_eq_true rfl) ?_
  intro p0 e0 s0 m0 below meth c0 A0 Q0 hBD hret hP hD hS ls hl
  obtain ⟨hx, hb, hml, hown, hts, hnm, hK, hNw, hMk, hA⟩ := hBD
  have hl : lv_has ls 3 [(0, .int (nI k)), (1, .int (nI s)), (2, .int (nI md))] := hl
  have hP : va_P D vwCl [] s0.heap := hP
  have hD : va_D A0 [] := hD
  refine lv_iload_n hx hb dX6_chainOf_0 rfl (lv_at hl 0 rfl) ?_
  refine lv_iconst (v := 3) hx hb dX6_chainOf_1 (by decide) ?_
  refine lv_icmp_ne (tgt := 17) hx hb dX6_chainOf_2 (by decide) (fun c_1 => ?_) (fun c_1 => ?_)
  · have h3 : k ≠ 3 := fun z => c_1 (by rw [z]; decide)
    refine lv_sipush (v := 128) hx hb dX6_chainOf_17 (by decide) ?_
    refine lv_iload_n hx hb dX6_chainOf_20 rfl (lv_at hl 0 rfl) ?_
    refine lv_imul hx hb dX6_chainOf_21 ?_
    refine ri (y := nI (128 * k)) (pk_mul 128 k) ?_
    refine lv_iload_n hx hb dX6_chainOf_22 rfl (lv_at hl 1 rfl) ?_
    refine lv_iadd hx hb dX6_chainOf_23 ?_
    refine ri (y := nI ((128 * k) + s)) (nI_add (128 * k) s) ?_
    refine lv_sipush (v := 255) hx hb dX6_chainOf_24 (by decide) ?_
    refine lv_iand hx hb dX6_chainOf_27 ?_
    refine ri (y := nI ((128 * k + s) % 256)) (pk_andN (by omega) 8 (by decide)) ?_
    exact hret 28 ls _ _ _ () dX6_chainOf_28 hP hD hS (by rw [chn, if_neg h3])
  · have h3 : k = 3 := (nI_eq (b := 3) (by omega) (by decide)).mp c_1
    refine lv_bipush (v := 64) hx hb dX6_chainOf_5 (by decide) ?_
    refine lv_iload_n hx hb dX6_chainOf_7 rfl (lv_at hl 1 rfl) ?_
    refine lv_iadd hx hb dX6_chainOf_8 ?_
    refine ri (y := nI (64 + s)) (nI_add 64 s) ?_
    refine lv_bipush (v := 19) hx hb dX6_chainOf_9 (by decide) ?_
    refine lv_iload_n hx hb dX6_chainOf_11 rfl (lv_at hl 2 rfl) ?_
    refine lv_imul hx hb dX6_chainOf_12 ?_
    refine ri (y := nI (19 * md)) (pk_mul 19 md) ?_
    refine lv_iadd hx hb dX6_chainOf_13 ?_
    refine ri (y := nI ((64 + s) + (19 * md))) (nI_add (64 + s) (19 * md)) ?_
    refine lv_goto (tgt := 24) hx hb dX6_chainOf_14 (by decide) ?_
    refine lv_sipush (v := 255) hx hb dX6_chainOf_24 (by decide) ?_
    refine lv_iand hx hb dX6_chainOf_27 ?_
    refine ri (y := nI ((64 + s + 19 * md) % 256)) (pk_andN (by omega) 8 (by decide)) ?_
    exact hret 28 ls _ _ _ () dX6_chainOf_28 hP hD hS (by rw [chn, if_pos h3])

set_option maxHeartbeats 4000000 in
set_option maxRecDepth 100000 in
theorem c_Table_fits (l : Launch) (D : va_G) (cI cB cJ cR : ClassId) (t : Nat) (sr : Nat) (so : Nat) (tn : Nat) (ts : Nat) (hd : Nat) (nt : Nat) (sf : Nat → Int32) (tt : Nat → Nat) (c : Nat) (q : Nat) (k : Nat) (s : Nat) (md : Nat) (ht : tabIs sf tt) (hc : c < 256) (hq : q < 2) (hk : k < 2 ^ 20) (hs : s < 2 ^ 20) (hm : md < 2 ^ 20) : CMz l yX6_fits cX6_fits 6 (some .boolean) ({ frames := 2, cells := 0, slots := 0, locals := 43 }) D (tyA cI cB cJ cR) 0 0 [.ref t, .int (nI c), .int (nI q), .int (nI k), .int (nI s), .int (nI md)] [(t, .inr (6, [.ref sr, .int (nI tn), .int (nI ts), .ref hd, .ref nt])), (sr, .inr (4, [.ref so, .int (nI 1536), .int 0])), (so, .inl (cI, 1536, .inl sf))] (fun (r : Bool) (_ : Unit) => r = fitB tt c q k s md) (fun (_ : Unit) => [(t, .inr (6, [.ref sr, .int (nI tn), .int (nI ts), .ref hd, .ref nt])), (sr, .inr (4, [.ref so, .int (nI 1536), .int 0])), (so, .inl (cI, 1536, .inl sf))]) := by
  refine st_z (cc := cX6_fits) (maxL := 6) (by decide) (Nat.le_of_ble_eq_true rfl) ?_
  intro p0 e0 s0 m0 below meth c0 A0 Q0 hBD hret hP hD hS ls hl
  obtain ⟨hx, hb, hml, hown, hts, hnm, hK, hNw, hMk, hA⟩ := hBD
  have hl : lv_has ls 6 [(0, .ref t), (1, .int (nI c)), (2, .int (nI q)), (3, .int (nI k)), (4, .int (nI s)), (5, .int (nI md))] := hl
  have hP : va_P D vwCl [(t, .inr (6, [.ref sr, .int (nI tn), .int (nI ts), .ref hd, .ref nt])), (sr, .inr (4, [.ref so, .int (nI 1536), .int 0])), (so, .inl (cI, 1536, .inl sf))] s0.heap := hP
  have hD : va_D A0 [(t, .inr (6, [.ref sr, .int (nI tn), .int (nI ts), .ref hd, .ref nt])), (sr, .inr (4, [.ref so, .int (nI 1536), .int 0])), (so, .inl (cI, 1536, .inl sf))] := hD
  have e0 := (ht (q * 256 + c) (by omega)).2
  have e1 := (ht (512 + q * 256 + c) (by omega)).2
  have e2 := (ht (1024 + q * 256 + c) (by omega)).2
  refine lv_aload_n hx hb dX6_fits_0 rfl (lv_at hl 0 rfl) ?_
  refine lv_iload_n hx hb dX6_fits_1 rfl (lv_at hl 1 rfl) ?_
  refine lv_iload_n hx hb dX6_fits_2 rfl (lv_at hl 2 rfl) ?_
  refine jn_i (wr := []) hA hP hD hS [0, 1, 2] [] rfl rfl (by decide) (by decide) (rn_V (As := [.int (nI c), .int (nI q)]) (rest := []) ⟨hx, hb, hml, hown, hts⟩ (cvV 2 hts zc_yX6_kindOf zi_X6 zm_yX6_kindOf zv_yX6_kindOf kX6_61 (by decide +kernel) rfl rfl ⟨Nat.le_of_ble_eq_true rfl, Nat.le_of_ble_eq_true rfl⟩) (c_Table_kindOf l D cI cB cJ cR t sr so tn ts hd nt sf tt c q (ht) (hc) (hq) s0.heap.size) hK hNw hMk hA hP hD hS [0, 1, 2] rfl rfl (by decide) 0 rfl rfl rfl rfl hl.1 rfl (Nat.le_of_ble_eq_true rfl) dX6_fits_3 ⟨Nat.le_of_ble_eq_true rfl, Nat.le_of_ble_eq_true rfl⟩) (fun r_1 u9 H locs w_2 hP hD hS => ?_)
  try dsimp only at w_2
  have hP : va_P D vwCl [(t, .inr (6, [.ref sr, .int (nI tn), .int (nI ts), .ref hd, .ref nt])), (sr, .inr (4, [.ref so, .int (nI 1536), .int 0])), (so, .inl (cI, 1536, .inl sf))] H := hP
  have hD : va_D A0 [(t, .inr (6, [.ref sr, .int (nI tn), .int (nI ts), .ref hd, .ref nt])), (sr, .inr (4, [.ref so, .int (nI 1536), .int 0])), (so, .inl (cI, 1536, .inl sf))] := hD
  subst w_2
  refine lv_iload_n hx hb dX6_fits_6 rfl (lv_at hl 3 rfl) ?_
  refine lv_icmp_ne (tgt := 41) hx hb dX6_fits_7 (by decide) (fun c_3 => ?_) (fun c_3 => ?_)
  · refine lv_iconst (v := 0) hx hb dX6_fits_41 (by decide) ?_
    exact hret 42 ls _ _ false () dX6_fits_42 hP hD hS (by symm; exact decide_eq_false (fun z => c_3 (by rw [z.1])))
  · have z1 : tt (q * 256 + c) = k := (nI_eq (by omega) (by omega)).mp c_3
    refine lv_aload_n hx hb dX6_fits_10 rfl (lv_at hl 0 rfl) ?_
    refine lv_iload_n hx hb dX6_fits_11 rfl (lv_at hl 1 rfl) ?_
    refine lv_iload_n hx hb dX6_fits_12 rfl (lv_at hl 2 rfl) ?_
    refine jn_i (wr := []) hA hP hD hS [0, 1, 2] [] rfl rfl (by decide) (by decide) (rn_V (As := [.int (nI c), .int (nI q)]) (rest := []) ⟨hx, hb, hml, hown, hts⟩ (cvV 2 hts zc_yX6_sizeOf zi_X6 zm_yX6_sizeOf zv_yX6_sizeOf kX6_64 (by decide +kernel) rfl rfl ⟨Nat.le_of_ble_eq_true rfl, Nat.le_of_ble_eq_true rfl⟩) (c_Table_sizeOf l D cI cB cJ cR t sr so tn ts hd nt sf tt c q (ht) (hc) (hq) H.size) hK hNw hMk hA hP hD hS [0, 1, 2] rfl rfl (by decide) 0 rfl rfl rfl rfl hl.1 rfl (Nat.le_of_ble_eq_true rfl) dX6_fits_13 ⟨Nat.le_of_ble_eq_true rfl, Nat.le_of_ble_eq_true rfl⟩) (fun r_4 u9 H locs w_5 hP hD hS => ?_)
    try dsimp only at w_5
    have hP : va_P D vwCl [(t, .inr (6, [.ref sr, .int (nI tn), .int (nI ts), .ref hd, .ref nt])), (sr, .inr (4, [.ref so, .int (nI 1536), .int 0])), (so, .inl (cI, 1536, .inl sf))] H := hP
    have hD : va_D A0 [(t, .inr (6, [.ref sr, .int (nI tn), .int (nI ts), .ref hd, .ref nt])), (sr, .inr (4, [.ref so, .int (nI 1536), .int 0])), (so, .inl (cI, 1536, .inl sf))] := hD
    subst w_5
    refine lv_iload hx hb dX6_fits_16 (lv_at hl 4 rfl) ?_
    refine lv_icmp_ne (tgt := 41) hx hb dX6_fits_18 (by decide) (fun c_6 => ?_) (fun c_6 => ?_)
    · refine lv_iconst (v := 0) hx hb dX6_fits_41 (by decide) ?_
      exact hret 42 ls _ _ false () dX6_fits_42 hP hD hS (by symm; exact decide_eq_false (fun z => c_6 (by rw [z.2.1])))
    · have z2 : tt (512 + q * 256 + c) = s := (nI_eq (by omega) (by omega)).mp c_6
      refine lv_iload_n hx hb dX6_fits_21 rfl (lv_at hl 3 rfl) ?_
      refine lv_iconst (v := 3) hx hb dX6_fits_22 (by decide) ?_
      refine lv_icmp_ne (tgt := 37) hx hb dX6_fits_23 (by decide) (fun c_7 => ?_) (fun c_7 => ?_)
      · refine lv_iconst (v := 1) hx hb dX6_fits_37 (by decide) ?_
        refine lv_goto (tgt := 42) hx hb dX6_fits_38 (by decide) ?_
        exact hret 42 ls _ _ true () dX6_fits_42 hP hD hS (by symm; exact decide_eq_true ⟨z1, z2, fun z => absurd (by rw [z]; rfl) c_7⟩)
      · have z3 : k = 3 := (nI_eq (b := 3) (by omega) (by decide)).mp c_7
        refine lv_aload_n hx hb dX6_fits_26 rfl (lv_at hl 0 rfl) ?_
        refine lv_iload_n hx hb dX6_fits_27 rfl (lv_at hl 1 rfl) ?_
        refine lv_iload_n hx hb dX6_fits_28 rfl (lv_at hl 2 rfl) ?_
        refine jn_i (wr := []) hA hP hD hS [0, 1, 2] [] rfl rfl (by decide) (by decide) (rn_V (As := [.int (nI c), .int (nI q)]) (rest := []) ⟨hx, hb, hml, hown, hts⟩ (cvV 2 hts zc_yX6_modeOf zi_X6 zm_yX6_modeOf zv_yX6_modeOf kX6_67 (by decide +kernel) rfl rfl ⟨Nat.le_of_ble_eq_true rfl, Nat.le_of_ble_eq_true rfl⟩) (c_Table_modeOf l D cI cB cJ cR t sr so tn ts hd nt sf tt c q (ht) (hc) (hq) H.size) hK hNw hMk hA hP hD hS [0, 1, 2] rfl rfl (by decide) 0 rfl rfl rfl rfl hl.1 rfl (Nat.le_of_ble_eq_true rfl) dX6_fits_29 ⟨Nat.le_of_ble_eq_true rfl, Nat.le_of_ble_eq_true rfl⟩) (fun r_8 u9 H locs w_9 hP hD hS => ?_)
        try dsimp only at w_9
        have hP : va_P D vwCl [(t, .inr (6, [.ref sr, .int (nI tn), .int (nI ts), .ref hd, .ref nt])), (sr, .inr (4, [.ref so, .int (nI 1536), .int 0])), (so, .inl (cI, 1536, .inl sf))] H := hP
        have hD : va_D A0 [(t, .inr (6, [.ref sr, .int (nI tn), .int (nI ts), .ref hd, .ref nt])), (sr, .inr (4, [.ref so, .int (nI 1536), .int 0])), (so, .inl (cI, 1536, .inl sf))] := hD
        subst w_9
        refine lv_iload hx hb dX6_fits_32 (lv_at hl 5 rfl) ?_
        refine lv_icmp_ne (tgt := 41) hx hb dX6_fits_34 (by decide) (fun c_10 => ?_) (fun c_10 => ?_)
        · refine lv_iconst (v := 0) hx hb dX6_fits_41 (by decide) ?_
          exact hret 42 ls _ _ false () dX6_fits_42 hP hD hS (by symm; exact decide_eq_false (fun z => c_10 (by rw [z.2.2 z3])))
        · refine lv_iconst (v := 1) hx hb dX6_fits_37 (by decide) ?_
          refine lv_goto (tgt := 42) hx hb dX6_fits_38 (by decide) ?_
          exact hret 42 ls _ _ true () dX6_fits_42 hP hD hS (by symm; exact decide_eq_true ⟨z1, z2, fun _ => (nI_eq (by omega) (by omega)).mp c_10⟩)

set_option maxHeartbeats 4000000 in
set_option maxRecDepth 100000 in
theorem c_Table_isRight (l : Launch) (D : va_G) (cI cB cJ cR : ClassId) (t : Nat) (sr : Nat) (so : Nat) (tn : Nat) (ts : Nat) (hd : Nat) (nt : Nat) (sf : Nat → Int32) (tt : Nat → Nat) (ht : tabIs sf tt) (h8 : tn ≤ 8) (h4 : ts ≤ 4) : CMz l yX6_isRight cX6_isRight 3 (some .boolean) ({ frames := 1, cells := 0, slots := 0, locals := 21 }) D (tyA cI cB cJ cR) 0 0 [.ref t] [(t, .inr (6, [.ref sr, .int (nI tn), .int (nI ts), .ref hd, .ref nt])), (sr, .inr (4, [.ref so, .int (nI 1536), .int 0])), (so, .inl (cI, 1536, .inl sf))] (fun (r : Bool) (_ : Unit) => (r = true ↔ rightP tt (tn + ts + 2) 512)) (fun (_ : Unit) => [(t, .inr (6, [.ref sr, .int (nI tn), .int (nI ts), .ref hd, .ref nt])), (sr, .inr (4, [.ref so, .int (nI 1536), .int 0])), (so, .inl (cI, 1536, .inl sf))]) := by
  refine st_z (cc := cX6_isRight) (maxL := 3) (by decide) (Nat.le_of_ble_eq_true rfl) ?_
  intro p0 e0 s0 m0 below meth c0 A0 Q0 hBD hret hP hD hS ls hl
  obtain ⟨hx, hb, hml, hown, hts, hnm, hK, hNw, hMk, hA⟩ := hBD
  have hl : lv_has ls 3 [(0, .ref t)] := hl
  have hP : va_P D vwCl [(t, .inr (6, [.ref sr, .int (nI tn), .int (nI ts), .ref hd, .ref nt])), (sr, .inr (4, [.ref so, .int (nI 1536), .int 0])), (so, .inl (cI, 1536, .inl sf))] s0.heap := hP
  have hD : va_D A0 [(t, .inr (6, [.ref sr, .int (nI tn), .int (nI ts), .ref hd, .ref nt])), (sr, .inr (4, [.ref so, .int (nI 1536), .int 0])), (so, .inl (cI, 1536, .inl sf))] := hD
  refine lv_iconst (v := 0) hx hb dX6_isRight_0 (by decide) ?_
  refine ri (y := nI 0) (nI_0.symm) ?_
  refine lv_istore_n (lv' := [(1, .int (nI 0)), (0, .ref t)]) hx hb dX6_isRight_1 rfl hl (by decide) rfl (fun ls hl => ?_)
  have loop : ∀ (k9 : Nat) (i : Nat) (H : Heap) (locs : List Loc) (ls : Array Slot), 512 - i < k9 → (i ≤ 512) → (rightP tt (tn + ts + 2) i) → va_P D vwCl [(t, .inr (6, [.ref sr, .int (nI tn), .int (nI ts), .ref hd, .ref nt])), (sr, .inr (4, [.ref so, .int (nI 1536), .int 0])), (so, .inl (cI, 1536, .inl sf))] H → va_D A0 [(t, .inr (6, [.ref sr, .int (nI tn), .int (nI ts), .ref hd, .ref nt])), (sr, .inr (4, [.ref so, .int (nI 1536), .int 0])), (so, .inl (cI, 1536, .inl sf))] → va_S A0 s0.heap H locs → lv_has ls 3 [(0, .ref t), (1, .int (nI i))] → W p0 l e0 ({ frames := 1, cells := 0, slots := 0, locals := 21 }) s0 m0 ([.ref t] : List Value).toArray below meth c0 H locs 0 0 Q0 (F0 m0 2 ls []) := by
    intro k9
    induction k9 with
    | zero => intro i H locs ls hk9; exact absurd hk9 (Nat.not_lt_zero _)
    | succ k9 ih =>
      intro i H locs ls hk9 hi hri hP hD hS hl
      refine lv_iload_n hx hb dX6_isRight_2 rfl (lv_at hl 1 rfl) ?_
      refine lv_sipush (v := 512) hx hb dX6_isRight_3 (by decide) ?_
      refine lv_icmp_ge (tgt := 62) hx hb dX6_isRight_6 (by decide) (fun c_1 => ?_) (fun c_1 => ?_)
      · have hi5 : 512 ≤ i := (nI_leI (a := 512) (b := i) (by decide) (by omega)).mp c_1
        refine lv_iconst (v := 1) hx hb dX6_isRight_62 (by decide) ?_
        exact hret 63 ls _ _ true () dX6_isRight_63 hP hD hS (⟨fun _ j hj => hri j (by omega), fun _ => rfl⟩)
      · have hi5 : i < 512 := Nat.not_le.mp (fun z => c_1 (nI_le (a := 512) z (by omega)))
        have e0 := (ht i (by omega)).2
        have e1 := (ht (1024 + i) (by omega)).2
        refine lv_aload_n hx hb dX6_isRight_9 rfl (lv_at hl 0 rfl) ?_
        refine va_get (D := D) (ci := 6) (v := .ref sr) (C := RX6) (T := TX6) (N := 5) hx hb hts in_X6 hown hK hP 0 rfl rfl 0 (by decide) (hts _ kX6_14) (fun _ h9 => h9) rfl dX6_isRight_10 ?_
        refine lv_iload_n hx hb dX6_isRight_13 rfl (lv_at hl 1 rfl) ?_
        refine jn_i (wr := [(t, .inr (6, [.ref sr, .int (nI tn), .int (nI ts), .ref hd, .ref nt]))]) hA hP hD hS [1, 2] [0] rfl rfl (by decide) (by decide) (rn_V (As := [.int (nI i)]) (rest := []) ⟨hx, hb, hml, hown, hts⟩ (cvV 1 hts zc_yX4_at zi_X4 zm_yX4_at zv_yX4_at kX6_27 (by decide +kernel) rfl rfl ⟨Nat.le_of_ble_eq_true rfl, Nat.le_of_ble_eq_true rfl⟩) (c_Row_at l D cI cB cJ cR sr so 1536 1536 sf 0 (nI i) (by decide) (by decide) H.size) hK hNw hMk hA hP hD hS [1, 2] rfl rfl (by decide) 0 rfl rfl rfl rfl hl.1 rfl (Nat.le_of_ble_eq_true rfl) dX6_isRight_14 ⟨Nat.le_of_ble_eq_true rfl, Nat.le_of_ble_eq_true rfl⟩) (fun r_2 u9 H locs w_3 hP hD hS => ?_)
        try dsimp only at w_3
        have hP : va_P D vwCl [(t, .inr (6, [.ref sr, .int (nI tn), .int (nI ts), .ref hd, .ref nt])), (sr, .inr (4, [.ref so, .int (nI 1536), .int 0])), (so, .inl (cI, 1536, .inl sf))] H := hP
        have hD : va_D A0 [(t, .inr (6, [.ref sr, .int (nI tn), .int (nI ts), .ref hd, .ref nt])), (sr, .inr (4, [.ref so, .int (nI 1536), .int 0])), (so, .inl (cI, 1536, .inl sf))] := hD
        rw [if_pos (inB_t (by omega) (by decide)), nI_clamp (by omega), (ht _ (by omega)).1] at w_3
        subst w_3
        refine lv_istore_n (lv' := [(2, .int (nI (tt i))), (0, .ref t), (1, .int (nI i))]) hx hb dX6_isRight_17 rfl hl (by decide) rfl (fun ls hl => ?_)
        refine lv_iload_n hx hb dX6_isRight_18 rfl (lv_at hl 0 rfl) ?_
        refine lv_iconst (v := 3) hx hb dX6_isRight_19 (by decide) ?_
        refine lv_icmp_gt (tgt := 54) hx hb dX6_isRight_20 (by decide) (fun c_4 => ?_) (fun c_4 => ?_)
        · refine lv_iconst (v := 0) hx hb dX6_isRight_54 (by decide) ?_
          exact hret 55 ls _ _ false () dX6_isRight_55 hP hD hS (⟨(fun z => absurd z (by decide)), fun z => absurd (z i hi5) (fun z => absurd ((nI_ltI (a := 3) (by decide) (by omega)).mp c_4) (by omega))⟩)
        · have hle : tt i ≤ 3 := Nat.not_lt.mp (fun z => c_4 (nI_lt (a := 3) z (by omega)))
          refine lv_iload_n hx hb dX6_isRight_23 rfl (lv_at hl 0 rfl) ?_
          refine lv_iconst (v := 3) hx hb dX6_isRight_24 (by decide) ?_
          refine lv_icmp_ne (tgt := 56) hx hb dX6_isRight_25 (by decide) (fun c_5 => ?_) (fun c_5 => ?_)
          · refine lv_iinc (v := nI (i + 1)) (lv' := [(1, .int (nI (i + 1))), (2, .int (nI (tt i))), (0, .ref t)]) hx hb dX6_isRight_56 hl (k := 2) rfl (nI_add i 1) (by decide) rfl (fun ls hl => ?_)
            refine lv_goto (tgt := 2) hx hb dX6_isRight_59 (by decide) ?_
            exact ih (i + 1) _ _ ls (by omega) (by omega) (fun j hj => if z : j = i then (by rw [z]; exact ⟨hle, fun z => absurd (by rw [z]; rfl) c_5⟩) else hri j (by omega)) hP hD hS (lv_sub hl [2, 0] rfl)
          · have he : tt i = 3 := (nI_eq (b := 3) (by omega) (by decide)).mp c_5
            refine lv_aload_n hx hb dX6_isRight_28 rfl (lv_at hl 1 rfl) ?_
            refine va_get (D := D) (ci := 6) (v := .ref sr) (C := RX6) (T := TX6) (N := 5) hx hb hts in_X6 hown hK hP 0 rfl rfl 0 (by decide) (hts _ kX6_14) (fun _ h9 => h9) rfl dX6_isRight_29 ?_
            refine lv_sipush (v := 1024) hx hb dX6_isRight_32 (by decide) ?_
            refine lv_iload_n hx hb dX6_isRight_35 rfl (lv_at hl 2 rfl) ?_
            refine lv_iadd hx hb dX6_isRight_36 ?_
            refine ri (y := nI (1024 + i)) (nI_add 1024 i) ?_
            refine jn_i (wr := [(t, .inr (6, [.ref sr, .int (nI tn), .int (nI ts), .ref hd, .ref nt]))]) hA hP hD hS [1, 2] [0] rfl rfl (by decide) (by decide) (rn_V (As := [.int (nI (1024 + i))]) (rest := []) ⟨hx, hb, hml, hown, hts⟩ (cvV 1 hts zc_yX4_at zi_X4 zm_yX4_at zv_yX4_at kX6_27 (by decide +kernel) rfl rfl ⟨Nat.le_of_ble_eq_true rfl, Nat.le_of_ble_eq_true rfl⟩) (c_Row_at l D cI cB cJ cR sr so 1536 1536 sf 0 (nI (1024 + i)) (by decide) (by decide) H.size) hK hNw hMk hA hP hD hS [1, 2] rfl rfl (by decide) 0 rfl rfl rfl rfl hl.1 rfl (Nat.le_of_ble_eq_true rfl) dX6_isRight_37 ⟨Nat.le_of_ble_eq_true rfl, Nat.le_of_ble_eq_true rfl⟩) (fun r_6 u9 H locs w_7 hP hD hS => ?_)
            try dsimp only at w_7
            have hP : va_P D vwCl [(t, .inr (6, [.ref sr, .int (nI tn), .int (nI ts), .ref hd, .ref nt])), (sr, .inr (4, [.ref so, .int (nI 1536), .int 0])), (so, .inl (cI, 1536, .inl sf))] H := hP
            have hD : va_D A0 [(t, .inr (6, [.ref sr, .int (nI tn), .int (nI ts), .ref hd, .ref nt])), (sr, .inr (4, [.ref so, .int (nI 1536), .int 0])), (so, .inl (cI, 1536, .inl sf))] := hD
            rw [if_pos (inB_t (by omega) (by decide)), nI_clamp (by omega), (ht _ (by omega)).1] at w_7
            subst w_7
            refine lv_aload_n hx hb dX6_isRight_40 rfl (lv_at hl 1 rfl) ?_
            refine va_get (D := D) (ci := 6) (v := .int (nI tn)) (C := RX6) (T := TX6) (N := 5) hx hb hts in_X6 hown hK hP 0 rfl rfl 1 (by decide) (hts _ kX6_31) (fun _ h9 => h9) rfl dX6_isRight_41 ?_
            refine lv_aload_n hx hb dX6_isRight_44 rfl (lv_at hl 1 rfl) ?_
            refine va_get (D := D) (ci := 6) (v := .int (nI ts)) (C := RX6) (T := TX6) (N := 5) hx hb hts in_X6 hown hK hP 0 rfl rfl 2 (by decide) (hts _ kX6_35) (fun _ h9 => h9) rfl dX6_isRight_45 ?_
            refine lv_iadd hx hb dX6_isRight_48 ?_
            refine ri (y := nI (tn + ts)) (nI_add tn ts) ?_
            refine lv_iconst (v := 2) hx hb dX6_isRight_49 (by decide) ?_
            refine lv_iadd hx hb dX6_isRight_50 ?_
            refine ri (y := nI ((tn + ts) + 2)) (nI_add (tn + ts) 2) ?_
            refine lv_icmp_lt (tgt := 56) hx hb dX6_isRight_51 (by decide) (fun c_8 => ?_) (fun c_8 => ?_)
            · refine lv_iinc (v := nI (i + 1)) (lv' := [(1, .int (nI (i + 1))), (2, .int (nI (tt i))), (0, .ref t)]) hx hb dX6_isRight_56 hl (k := 2) rfl (nI_add i 1) (by decide) rfl (fun ls hl => ?_)
              refine lv_goto (tgt := 2) hx hb dX6_isRight_59 (by decide) ?_
              exact ih (i + 1) _ _ ls (by omega) (by omega) (fun j hj => if z : j = i then (by rw [z]; exact ⟨hle, fun _ => (nI_ltI (by omega) (by omega)).mp c_8⟩) else hri j (by omega)) hP hD hS (lv_sub hl [2, 0] rfl)
            · refine lv_iconst (v := 0) hx hb dX6_isRight_54 (by decide) ?_
              exact hret 55 ls _ _ false () dX6_isRight_55 hP hD hS (⟨(fun z => absurd z (by decide)), fun z => absurd (z i hi5) (fun z => c_8 (nI_lt (z.2 he) (by omega)))⟩)
  exact loop _ 0 _ _ ls (Nat.lt_succ_self _) (by decide) (fun j hj => absurd hj (Nat.not_lt_zero j)) hP hD hS (lv_sub hl [1, 0] rfl)
