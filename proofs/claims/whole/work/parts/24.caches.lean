/-! CACHES of a window: near ones in a ring, same ones -/
def chIs (fn fs : Nat → Int32) (cN cS : Nat → Nat) : Prop := (∀ j, j < 8 → fn j = nI (cN j)) ∧ ∀ j, j < 1024 → fs j = nI (cS j)
def kpN (near nx a : Nat) (cN : Nat → Nat) : Nat → Nat := if 0 < near then va_up cN nx a else cN
def kpX (near nx : Nat) : Nat := if 0 < near then (if nx + 1 < near then nx + 1 else 0) else nx
def kpS (same a : Nat) (cS : Nat → Nat) : Nat → Nat := if 0 < same then va_up cS (a % (256 * same)) a else cS
/-- the MODE of the fewest octets so far, and how many: over the near ones below i -/
def chM (a here : Nat) (cN : Nat → Nat) : Nat → Nat × Nat
  | 0 => if nsz (here - a) < nsz a then (1, nsz (here - a)) else (0, nsz a)
  | i + 1 => if cN i ≤ a ∧ nsz (a - cN i) < (chM a here cN i).2 then (2 + i, nsz (a - cN i)) else chM a here cN i
def chMode (near same a here : Nat) (cN cS : Nat → Nat) : Nat := if 1 < (chM a here cN near).2 ∧ 0 < same ∧ cS (a % (256 * same)) = a then near + 2 + a % (256 * same) / 256 else (chM a here cN near).1
theorem chM_le (a here : Nat) (cN : Nat → Nat) : ∀ i, (chM a here cN i).2 ≤ 5 ∧ (chM a here cN i).1 ≤ i + 1
  | 0 => by unfold chM; split <;> exact ⟨nsz_le _, by simp⟩
  | i + 1 => by
    have ih := chM_le a here cN i
    unfold chM
    split
    · exact ⟨nsz_le _, by simp; omega⟩
    · exact ⟨ih.1, by omega⟩
theorem ch_keep {fn fs : Nat → Int32} {cN cS : Nat → Nat} {nx a : Nat} (h : chIs fn fs cN cS) : chIs (upd fn nx (nI a)) fs (va_up cN nx a) cS := by
  refine ⟨fun j hj => ?_, h.2⟩
  by_cases hx : j = nx
  · subst hx; rw [pk_us, va_up_self]
  · rw [pk_un hx, va_up_ne _ _ hx]; exact h.1 j hj
theorem ch_keepS {fn fs : Nat → Int32} {cN cS : Nat → Nat} {x a : Nat} (h : chIs fn fs cN cS) : chIs fn (upd fs x (nI a)) cN (va_up cS x a) := by
  refine ⟨h.1, fun j hj => ?_⟩
  by_cases hx : j = x
  · subst hx; rw [pk_us, va_up_self]
  · rw [pk_un hx, va_up_ne _ _ hx]; exact h.2 j hj
theorem nI_sgn {a b : Nat} (ha : a < 2 ^ 30) (hb : b < 2 ^ 30) : (nI a - nI b < 0 ↔ a < b) := by
  constructor
  · intro h
    have h1 : (nI a - nI b).toInt < 0 := by simpa [Int32.lt_iff_toInt_lt] using h
    rw [pk_sub_toInt ha hb] at h1
    omega
  · exact fun h => pk_sneg hb h
set_option maxHeartbeats 4000000 in
set_option maxRecDepth 100000 in
theorem c_fill (l : Launch) (D : va_G) (cI cB cJ cR : ClassId) (o : Nat) (N : Nat) (f : Nat → Int32) (v : Int32) (hN : N < 2 ^ 31) : CMv l yJ7_fill_53178 cJ7_fill_53178 4 none ({ frames := 0, cells := 0, slots := 0, locals := 0 }) D (tyA cI cB cJ cR) 0 0 [.ref o, .int v] [(o, .inl (cI, N, .inl f))] (fun (f2 : Nat → Int32) => ∀ j, j < N → f2 j = v) (fun (f2 : Nat → Int32) => [(o, .inl (cI, N, .inl f2))]) := by
  refine st_v (cc := cJ7_fill_53178) (maxL := 4) (by decide) (Nat.le_of_ble_eq_true rfl) ?_
  intro p0 e0 s0 m0 below meth c0 A0 Q0 hBD hret hP hD hS ls hl
  obtain ⟨hx, hb, hml, hown, hts, hnm, hK, hNw, hMk, hA⟩ := hBD
  have hl : lv_has ls 4 [(0, .ref o), (1, .int v)] := hl
  have hP : va_P D vwCl [(o, .inl (cI, N, .inl f))] s0.heap := hP
  have hD : va_D A0 [(o, .inl (cI, N, .inl f))] := hD
  refine lv_iconst (v := 0) hx hb dJ7_fill_53178_0 (by decide) ?_
  refine ri (y := nI 0) (nI_0.symm) ?_
  refine lv_istore_n (lv' := [(2, .int (nI 0)), (0, .ref o), (1, .int v)]) hx hb dJ7_fill_53178_1 rfl hl (by decide) rfl (fun ls hl => ?_)
  refine lv_aload_n hx hb dJ7_fill_53178_2 rfl (lv_at hl 1 rfl) ?_
  refine va_alen hx hb hK hP 0 0 rfl rfl (v := nI N) rfl dJ7_fill_53178_3 ?_
  refine lv_istore_n (lv' := [(3, .int (nI N)), (2, .int (nI 0)), (0, .ref o), (1, .int v)]) hx hb dJ7_fill_53178_4 rfl hl (by decide) rfl (fun ls hl => ?_)
  have loop : ∀ (k9 : Nat) (i : Nat) (g : Nat → Int32) (H : Heap) (locs : List Loc) (ls : Array Slot), N - i < k9 → (i ≤ N) → (∀ j, j < i → g j = v) → va_P D vwCl [(o, .inl (cI, N, .inl g))] H → va_D A0 [(o, .inl (cI, N, .inl g))] → va_S A0 s0.heap H locs → lv_has ls 4 [(0, .ref o), (1, .int v), (2, .int (nI i)), (3, .int (nI N))] → W p0 l e0 ({ frames := 0, cells := 0, slots := 0, locals := 0 }) s0 m0 ([.ref o, .int v] : List Value).toArray below meth c0 H locs 0 0 Q0 (F0 m0 5 ls []) := by
    intro k9
    induction k9 with
    | zero => intro i g H locs ls hk9; exact absurd hk9 (Nat.not_lt_zero _)
    | succ k9 ih =>
      intro i g H locs ls hk9 hi hg hP hD hS hl
      refine lv_iload_n hx hb dJ7_fill_53178_5 rfl (lv_at hl 2 rfl) ?_
      refine lv_iload_n hx hb dJ7_fill_53178_6 rfl (lv_at hl 3 rfl) ?_
      refine lv_icmp_ge (tgt := 20) hx hb dJ7_fill_53178_7 (by decide) (fun c_1 => ?_) (fun c_1 => ?_)
      · have hi2 : N ≤ i := (nI_leI (by omega) (by omega)).mp c_1
        exact hret 20 ls _ _ (g) dJ7_fill_53178_20 hP hD hS (fun j hj => hg j (by omega))
      · have hi2 : i < N := Nat.not_le.mp (fun q => c_1 (nI_le q (by omega)))
        refine lv_aload_n hx hb dJ7_fill_53178_10 rfl (lv_at hl 0 rfl) ?_
        refine lv_iload_n hx hb dJ7_fill_53178_11 rfl (lv_at hl 2 rfl) ?_
        refine lv_iload_n hx hb dJ7_fill_53178_12 rfl (lv_at hl 1 rfl) ?_
        refine ax_ist hx hb hK hP hD hS 0 0 rfl rfl i (rfl) (hi2) (by omega) dJ7_fill_53178_13 (fun H locs hP hD hS => ?_)
        have hP : va_P D vwCl [(o, .inl (cI, N, .inl (upd g i v)))] H := hP
        have hD : va_D A0 [(o, .inl (cI, N, .inl (upd g i v)))] := hD
        refine lv_iinc (v := nI (i + 1)) (lv' := [(2, .int (nI (i + 1))), (0, .ref o), (1, .int v), (3, .int (nI N))]) hx hb dJ7_fill_53178_14 hl (k := 2) rfl (nI_add i 1) (by decide) rfl (fun ls hl => ?_)
        refine lv_goto (tgt := 5) hx hb dJ7_fill_53178_17 (by decide) ?_
        exact ih (i + 1) (upd g i v) _ _ ls (by omega) (by omega) (fun j hj => if q : j = i then (by rw [q, pk_us]) else (by rw [pk_un q]; exact hg j (by omega))) hP hD hS (lv_sub hl [1, 2, 0, 3] rfl)
  exact loop _ 0 f _ _ ls (Nat.lt_succ_self _) (Nat.zero_le _) (fun j hj => absurd hj (Nat.not_lt_zero j)) hP hD hS (lv_sub hl [2, 3, 1, 0] rfl)

set_option maxHeartbeats 4000000 in
set_option maxRecDepth 100000 in
theorem c_Caches_begin (l : Launch) (D : va_G) (cI cB cJ cR : ClassId) (h : Nat) (on : Nat) (os : Nat) (x1 : Int32) (x2 : Int32) (x3 : Int32) (fn : Nat → Int32) (fs : Nat → Int32) (t : Nat) (sr : Nat) (tn : Nat) (ts : Nat) (hd : Nat) (nt : Nat) (h8 : tn ≤ 8) (h4 : ts ≤ 4) : CMv l yX0_begin cX0_begin 2 none ({ frames := 1, cells := 0, slots := 0, locals := 23 }) D (tyA cI cB cJ cR) 0 0 [.ref h, .ref t] [(h, .inr (0, [.ref on, .ref os, .int x1, .int x2, .int x3])), (on, .inl (cI, 8, .inl fn)), (os, .inl (cI, 1024, .inl fs)), (t, .inr (6, [.ref sr, .int (nI tn), .int (nI ts), .ref hd, .ref nt]))] (fun (u9 : (Nat → Int32) × (Nat → Int32)) => match u9 with | (fn2, fs2) => chIs fn2 fs2 (fun _ => 0) (fun _ => 0)) (fun (u9 : (Nat → Int32) × (Nat → Int32)) => match u9 with | (fn2, fs2) => [(h, .inr (0, [.ref on, .ref os, .int (nI tn), .int (nI ts), .int (nI 0)])), (on, .inl (cI, 8, .inl fn2)), (os, .inl (cI, 1024, .inl fs2)), (t, .inr (6, [.ref sr, .int (nI tn), .int (nI ts), .ref hd, .ref nt]))]) := by
  refine st_v (cc := cX0_begin) (maxL := 2) (by decide) (Nat.le_of_ble_eq_true rfl) ?_
  intro p0 e0 s0 m0 below meth c0 A0 Q0 hBD hret hP hD hS ls hl
  obtain ⟨hx, hb, hml, hown, hts, hnm, hK, hNw, hMk, hA⟩ := hBD
  have hl : lv_has ls 2 [(0, .ref h), (1, .ref t)] := hl
  have hP : va_P D vwCl [(h, .inr (0, [.ref on, .ref os, .int x1, .int x2, .int x3])), (on, .inl (cI, 8, .inl fn)), (os, .inl (cI, 1024, .inl fs)), (t, .inr (6, [.ref sr, .int (nI tn), .int (nI ts), .ref hd, .ref nt]))] s0.heap := hP
  have hD : va_D A0 [(h, .inr (0, [.ref on, .ref os, .int x1, .int x2, .int x3])), (on, .inl (cI, 8, .inl fn)), (os, .inl (cI, 1024, .inl fs)), (t, .inr (6, [.ref sr, .int (nI tn), .int (nI ts), .ref hd, .ref nt]))] := hD
  refine lv_aload_n hx hb dX0_begin_0 rfl (lv_at hl 0 rfl) ?_
  refine lv_iconst (v := 0) hx hb dX0_begin_1 (by decide) ?_
  refine lv_aload_n hx hb dX0_begin_2 rfl (lv_at hl 1 rfl) ?_
  refine va_get (D := D) (ci := 6) (v := .int (nI tn)) (C := RX6) (T := TX6) (N := 5) hx hb hts in_X6 hown hK hP 3 rfl rfl 1 (by decide) (hts _ kX0_18) (fun _ h9 => h9) rfl dX0_begin_3 ?_
  refine lv_bipush (v := 8) hx hb dX0_begin_6 (by decide) ?_
  refine va_mmin hx hb (hml.trans hl.1.symm) hown (hts _ kX0_24) (hts _ zs_yJ9_min_7cf53) (hts _ zi_J9) (hts _ zc_yJ9_min_7cf53) (Nat.le_of_ble_eq_true rfl) (Nat.le_of_ble_eq_true rfl) (Nat.zero_le _) (Nat.zero_le _) dX0_begin_8 ?_
  refine ri (y := nI tn) ((nI_min (a := tn) (b := 8) (by omega) (by decide)).trans (by rw [Nat.min_eq_left h8])) ?_
  refine va_mmax hx hb (hml.trans hl.1.symm) hown (hts _ kX0_30) (hts _ zs_yJ9_max_7cf53) (hts _ zi_J9) (hts _ zc_yJ9_max_7cf53) (Nat.le_of_ble_eq_true rfl) (Nat.le_of_ble_eq_true rfl) (Nat.zero_le _) (Nat.zero_le _) dX0_begin_11 ?_
  refine ri (y := nI tn) ((nI_max (a := 0) (b := tn) (by decide) (by omega)).trans (by rw [Nat.max_eq_right (Nat.zero_le _)])) ?_
  refine va_put (D := D) (ci := 0) (v := .int (nI tn)) (ty := .int) (C := RX0) (T := TX0) (N := 5) hx hb hts in_X0 tyX0 tyX0_ok nmX0 hown hK hP hD hS 0 rfl rfl 2 (by decide) (hts _ kX0_33) (fun _ h9 => h9) rfl (by decide +kernel) rfl rfl (Nat.le_of_ble_eq_true rfl) dX0_begin_14 (fun H locs hP hD hS => ?_)
  have hP : va_P D vwCl [(h, .inr (0, [.ref on, .ref os, .int (nI tn), .int x2, .int x3])), (on, .inl (cI, 8, .inl fn)), (os, .inl (cI, 1024, .inl fs)), (t, .inr (6, [.ref sr, .int (nI tn), .int (nI ts), .ref hd, .ref nt]))] H := hP
  have hD : va_D A0 [(h, .inr (0, [.ref on, .ref os, .int (nI tn), .int x2, .int x3])), (on, .inl (cI, 8, .inl fn)), (os, .inl (cI, 1024, .inl fs)), (t, .inr (6, [.ref sr, .int (nI tn), .int (nI ts), .ref hd, .ref nt]))] := hD
  refine lv_aload_n hx hb dX0_begin_17 rfl (lv_at hl 0 rfl) ?_
  refine lv_iconst (v := 0) hx hb dX0_begin_18 (by decide) ?_
  refine lv_aload_n hx hb dX0_begin_19 rfl (lv_at hl 1 rfl) ?_
  refine va_get (D := D) (ci := 6) (v := .int (nI ts)) (C := RX6) (T := TX6) (N := 5) hx hb hts in_X6 hown hK hP 3 rfl rfl 2 (by decide) (hts _ kX0_34) (fun _ h9 => h9) rfl dX0_begin_20 ?_
  refine lv_iconst (v := 4) hx hb dX0_begin_23 (by decide) ?_
  refine va_mmin hx hb (hml.trans hl.1.symm) hown (hts _ kX0_24) (hts _ zs_yJ9_min_7cf53) (hts _ zi_J9) (hts _ zc_yJ9_min_7cf53) (Nat.le_of_ble_eq_true rfl) (Nat.le_of_ble_eq_true rfl) (Nat.zero_le _) (Nat.zero_le _) dX0_begin_24 ?_
  refine ri (y := nI ts) ((nI_min (a := ts) (b := 4) (by omega) (by decide)).trans (by rw [Nat.min_eq_left h4])) ?_
  refine va_mmax hx hb (hml.trans hl.1.symm) hown (hts _ kX0_30) (hts _ zs_yJ9_max_7cf53) (hts _ zi_J9) (hts _ zc_yJ9_max_7cf53) (Nat.le_of_ble_eq_true rfl) (Nat.le_of_ble_eq_true rfl) (Nat.zero_le _) (Nat.zero_le _) dX0_begin_27 ?_
  refine ri (y := nI ts) ((nI_max (a := 0) (b := ts) (by decide) (by omega)).trans (by rw [Nat.max_eq_right (Nat.zero_le _)])) ?_
  refine va_put (D := D) (ci := 0) (v := .int (nI ts)) (ty := .int) (C := RX0) (T := TX0) (N := 5) hx hb hts in_X0 tyX0 tyX0_ok nmX0 hown hK hP hD hS 0 rfl rfl 3 (by decide) (hts _ kX0_37) (fun _ h9 => h9) rfl (by decide +kernel) rfl rfl (Nat.le_of_ble_eq_true rfl) dX0_begin_30 (fun H locs hP hD hS => ?_)
  have hP : va_P D vwCl [(h, .inr (0, [.ref on, .ref os, .int (nI tn), .int (nI ts), .int x3])), (on, .inl (cI, 8, .inl fn)), (os, .inl (cI, 1024, .inl fs)), (t, .inr (6, [.ref sr, .int (nI tn), .int (nI ts), .ref hd, .ref nt]))] H := hP
  have hD : va_D A0 [(h, .inr (0, [.ref on, .ref os, .int (nI tn), .int (nI ts), .int x3])), (on, .inl (cI, 8, .inl fn)), (os, .inl (cI, 1024, .inl fs)), (t, .inr (6, [.ref sr, .int (nI tn), .int (nI ts), .ref hd, .ref nt]))] := hD
  refine lv_aload_n hx hb dX0_begin_33 rfl (lv_at hl 0 rfl) ?_
  refine lv_iconst (v := 0) hx hb dX0_begin_34 (by decide) ?_
  refine ri (y := nI 0) (nI_0.symm) ?_
  refine va_put (D := D) (ci := 0) (v := .int (nI 0)) (ty := .int) (C := RX0) (T := TX0) (N := 5) hx hb hts in_X0 tyX0 tyX0_ok nmX0 hown hK hP hD hS 0 rfl rfl 4 (by decide) (hts _ kX0_38) (fun _ h9 => h9) rfl (by decide +kernel) rfl rfl (Nat.le_of_ble_eq_true rfl) dX0_begin_35 (fun H locs hP hD hS => ?_)
  have hP : va_P D vwCl [(h, .inr (0, [.ref on, .ref os, .int (nI tn), .int (nI ts), .int (nI 0)])), (on, .inl (cI, 8, .inl fn)), (os, .inl (cI, 1024, .inl fs)), (t, .inr (6, [.ref sr, .int (nI tn), .int (nI ts), .ref hd, .ref nt]))] H := hP
  have hD : va_D A0 [(h, .inr (0, [.ref on, .ref os, .int (nI tn), .int (nI ts), .int (nI 0)])), (on, .inl (cI, 8, .inl fn)), (os, .inl (cI, 1024, .inl fs)), (t, .inr (6, [.ref sr, .int (nI tn), .int (nI ts), .ref hd, .ref nt]))] := hD
  refine lv_aload_n hx hb dX0_begin_38 rfl (lv_at hl 0 rfl) ?_
  refine va_get (D := D) (ci := 0) (v := .ref on) (C := RX0) (T := TX0) (N := 5) hx hb hts in_X0 hown hK hP 0 rfl rfl 0 (by decide) (hts _ kX0_9) (fun _ h9 => h9) rfl dX0_begin_39 ?_
  refine lv_iconst (v := 0) hx hb dX0_begin_42 (by decide) ?_
  refine jn_v (wr := [(h, .inr (0, [.ref on, .ref os, .int (nI tn), .int (nI ts), .int (nI 0)])), (os, .inl (cI, 1024, .inl fs)), (t, .inr (6, [.ref sr, .int (nI tn), .int (nI ts), .ref hd, .ref nt]))]) hA hP hD hS [1] [0, 2, 3] rfl rfl (by decide) (by decide) (rn_S (As := [.ref on, .int 0]) (rest := []) ⟨hx, hb, hml, hown, hts⟩ (cvS 2 hts zc_yJ7_fill_53178 zi_J7 zs_yJ7_fill_53178 kX0_41 (by decide +kernel) rfl rfl ⟨Nat.le_of_ble_eq_true rfl, Nat.le_of_ble_eq_true rfl⟩) (c_fill l D cI cB cJ cR on 8 fn 0 (by decide) H.size) hK hNw hMk hA hP hD hS [1] rfl rfl (by decide) rfl hl.1 rfl (Nat.le_of_ble_eq_true rfl) dX0_begin_43 ⟨Nat.le_of_ble_eq_true rfl, Nat.le_of_ble_eq_true rfl⟩) (fun u9 H locs w_3 hP hD hS => ?_)
  obtain ⟨f2_1, rfl⟩ : ∃ z9, z9 = u9 := ⟨_, rfl⟩
  try dsimp only at w_3
  have hP : va_P D vwCl [(h, .inr (0, [.ref on, .ref os, .int (nI tn), .int (nI ts), .int (nI 0)])), (os, .inl (cI, 1024, .inl fs)), (t, .inr (6, [.ref sr, .int (nI tn), .int (nI ts), .ref hd, .ref nt])), (on, .inl (cI, 8, .inl f2_1))] H := hP
  have hD : va_D A0 [(h, .inr (0, [.ref on, .ref os, .int (nI tn), .int (nI ts), .int (nI 0)])), (os, .inl (cI, 1024, .inl fs)), (t, .inr (6, [.ref sr, .int (nI tn), .int (nI ts), .ref hd, .ref nt])), (on, .inl (cI, 8, .inl f2_1))] := hD
  refine lv_aload_n hx hb dX0_begin_46 rfl (lv_at hl 0 rfl) ?_
  refine va_get (D := D) (ci := 0) (v := .ref os) (C := RX0) (T := TX0) (N := 5) hx hb hts in_X0 hown hK hP 0 rfl rfl 1 (by decide) (hts _ kX0_15) (fun _ h9 => h9) rfl dX0_begin_47 ?_
  refine lv_iconst (v := 0) hx hb dX0_begin_50 (by decide) ?_
  refine jn_v (wr := [(h, .inr (0, [.ref on, .ref os, .int (nI tn), .int (nI ts), .int (nI 0)])), (t, .inr (6, [.ref sr, .int (nI tn), .int (nI ts), .ref hd, .ref nt])), (on, .inl (cI, 8, .inl f2_1))]) hA hP hD hS [1] [0, 2, 3] rfl rfl (by decide) (by decide) (rn_S (As := [.ref os, .int 0]) (rest := []) ⟨hx, hb, hml, hown, hts⟩ (cvS 2 hts zc_yJ7_fill_53178 zi_J7 zs_yJ7_fill_53178 kX0_41 (by decide +kernel) rfl rfl ⟨Nat.le_of_ble_eq_true rfl, Nat.le_of_ble_eq_true rfl⟩) (c_fill l D cI cB cJ cR os 1024 fs 0 (by decide) H.size) hK hNw hMk hA hP hD hS [1] rfl rfl (by decide) rfl hl.1 rfl (Nat.le_of_ble_eq_true rfl) dX0_begin_51 ⟨Nat.le_of_ble_eq_true rfl, Nat.le_of_ble_eq_true rfl⟩) (fun u9 H locs w_6 hP hD hS => ?_)
  obtain ⟨f2_4, rfl⟩ : ∃ z9, z9 = u9 := ⟨_, rfl⟩
  try dsimp only at w_6
  have hP : va_P D vwCl [(h, .inr (0, [.ref on, .ref os, .int (nI tn), .int (nI ts), .int (nI 0)])), (t, .inr (6, [.ref sr, .int (nI tn), .int (nI ts), .ref hd, .ref nt])), (on, .inl (cI, 8, .inl f2_1)), (os, .inl (cI, 1024, .inl f2_4))] H := hP
  have hD : va_D A0 [(h, .inr (0, [.ref on, .ref os, .int (nI tn), .int (nI ts), .int (nI 0)])), (t, .inr (6, [.ref sr, .int (nI tn), .int (nI ts), .ref hd, .ref nt])), (on, .inl (cI, 8, .inl f2_1)), (os, .inl (cI, 1024, .inl f2_4))] := hD
  have hP := hP.sub (ws' := [(h, .inr (0, [.ref on, .ref os, .int (nI tn), .int (nI ts), .int (nI 0)])), (on, .inl (cI, 8, .inl f2_1)), (os, .inl (cI, 1024, .inl f2_4)), (t, .inr (6, [.ref sr, .int (nI tn), .int (nI ts), .ref hd, .ref nt]))]) [0, 2, 3, 1] rfl
  have hD := hD.sub (ws' := [(h, .inr (0, [.ref on, .ref os, .int (nI tn), .int (nI ts), .int (nI 0)])), (on, .inl (cI, 8, .inl f2_1)), (os, .inl (cI, 1024, .inl f2_4)), (t, .inr (6, [.ref sr, .int (nI tn), .int (nI ts), .ref hd, .ref nt]))]) [0, 2, 3, 1] (by decide) rfl
  exact hret 54 ls _ _ (f2_1, f2_4) dX0_begin_54 hP hD hS (⟨fun j hj => (w_3 j hj).trans nI_0.symm, fun j hj => (w_6 j hj).trans nI_0.symm⟩)

set_option maxHeartbeats 4000000 in
set_option maxRecDepth 100000 in
theorem c_Caches_isSameMode (l : Launch) (D : va_G) (cI cB cJ cR : ClassId) (h : Nat) (on : Nat) (os : Nat) (near : Nat) (same : Nat) (nx : Nat) (fn : Nat → Int32) (fs : Nat → Int32) (md : Nat) (h8 : near ≤ 8) (h4 : same ≤ 4) (hm : md < 2 ^ 30) : CMz l yX0_isSameMode cX0_isSameMode 2 (some .boolean) ({ frames := 0, cells := 0, slots := 0, locals := 0 }) D (tyA cI cB cJ cR) 0 0 [.ref h, .int (nI md)] [(h, .inr (0, [.ref on, .ref os, .int (nI near), .int (nI same), .int (nI nx)])), (on, .inl (cI, 8, .inl fn)), (os, .inl (cI, 1024, .inl fs))] (fun (r : Bool) (_ : Unit) => r = decide (near + 2 ≤ md)) (fun (_ : Unit) => [(h, .inr (0, [.ref on, .ref os, .int (nI near), .int (nI same), .int (nI nx)])), (on, .inl (cI, 8, .inl fn)), (os, .inl (cI, 1024, .inl fs))]) := by
  refine st_z (cc := cX0_isSameMode) (maxL := 2) (by decide) (Nat.le_of_ble_eq_true rfl) ?_
  intro p0 e0 s0 m0 below meth c0 A0 Q0 hBD hret hP hD hS ls hl
  obtain ⟨hx, hb, hml, hown, hts, hnm, hK, hNw, hMk, hA⟩ := hBD
  have hl : lv_has ls 2 [(0, .ref h), (1, .int (nI md))] := hl
  have hP : va_P D vwCl [(h, .inr (0, [.ref on, .ref os, .int (nI near), .int (nI same), .int (nI nx)])), (on, .inl (cI, 8, .inl fn)), (os, .inl (cI, 1024, .inl fs))] s0.heap := hP
  have hD : va_D A0 [(h, .inr (0, [.ref on, .ref os, .int (nI near), .int (nI same), .int (nI nx)])), (on, .inl (cI, 8, .inl fn)), (os, .inl (cI, 1024, .inl fs))] := hD
  refine lv_iload_n hx hb dX0_isSameMode_0 rfl (lv_at hl 1 rfl) ?_
  refine lv_aload_n hx hb dX0_isSameMode_1 rfl (lv_at hl 0 rfl) ?_
  refine va_get (D := D) (ci := 0) (v := .int (nI near)) (C := RX0) (T := TX0) (N := 5) hx hb hts in_X0 hown hK hP 0 rfl rfl 2 (by decide) (hts _ kX0_33) (fun _ h9 => h9) rfl dX0_isSameMode_2 ?_
  refine lv_iconst (v := 2) hx hb dX0_isSameMode_5 (by decide) ?_
  refine lv_iadd hx hb dX0_isSameMode_6 ?_
  refine ri (y := nI (near + 2)) (nI_add near 2) ?_
  refine lv_icmp_lt (tgt := 14) hx hb dX0_isSameMode_7 (by decide) (fun c_1 => ?_) (fun c_1 => ?_)
  · refine lv_iconst (v := 0) hx hb dX0_isSameMode_14 (by decide) ?_
    exact hret 15 ls _ _ false () dX0_isSameMode_15 hP hD hS (by symm; exact decide_eq_false (by have := (nI_ltI (by omega) (by omega)).mp c_1; omega))
  · refine lv_iconst (v := 1) hx hb dX0_isSameMode_10 (by decide) ?_
    refine lv_goto (tgt := 15) hx hb dX0_isSameMode_11 (by decide) ?_
    exact hret 15 ls _ _ true () dX0_isSameMode_15 hP hD hS (by symm; exact decide_eq_true (Nat.not_lt.mp (fun q => c_1 (nI_lt q (by omega)))))

set_option maxHeartbeats 4000000 in
set_option maxRecDepth 100000 in
theorem c_Caches_nearOne (l : Launch) (D : va_G) (cI cB cJ cR : ClassId) (h : Nat) (on : Nat) (os : Nat) (near : Nat) (same : Nat) (nx : Nat) (fn : Nat → Int32) (fs : Nat → Int32) (cN : Nat → Nat) (cS : Nat → Nat) (md : Nat) (h8 : near ≤ 8) (h4 : same ≤ 4) (hm : 2 ≤ md) (hm2 : md < near + 2) (hc : chIs fn fs cN cS) : CMi l yX0_nearOne cX0_nearOne 3 (some .int) ({ frames := 0, cells := 0, slots := 0, locals := 0 }) D (tyA cI cB cJ cR) 0 0 [.ref h, .int (nI md)] [(h, .inr (0, [.ref on, .ref os, .int (nI near), .int (nI same), .int (nI nx)])), (on, .inl (cI, 8, .inl fn)), (os, .inl (cI, 1024, .inl fs))] (fun (r : Int32) (_ : Unit) => r = nI (cN (md - 2))) (fun (_ : Unit) => [(h, .inr (0, [.ref on, .ref os, .int (nI near), .int (nI same), .int (nI nx)])), (on, .inl (cI, 8, .inl fn)), (os, .inl (cI, 1024, .inl fs))]) := by
  refine st_i (cc := cX0_nearOne) (maxL := 3) (by decide) (Nat.le_of_ble_eq_true rfl) ?_
  intro p0 e0 s0 m0 below meth c0 A0 Q0 hBD hret hP hD hS ls hl
  obtain ⟨hx, hb, hml, hown, hts, hnm, hK, hNw, hMk, hA⟩ := hBD
  have hl : lv_has ls 3 [(0, .ref h), (1, .int (nI md))] := hl
  have hP : va_P D vwCl [(h, .inr (0, [.ref on, .ref os, .int (nI near), .int (nI same), .int (nI nx)])), (on, .inl (cI, 8, .inl fn)), (os, .inl (cI, 1024, .inl fs))] s0.heap := hP
  have hD : va_D A0 [(h, .inr (0, [.ref on, .ref os, .int (nI near), .int (nI same), .int (nI nx)])), (on, .inl (cI, 8, .inl fn)), (os, .inl (cI, 1024, .inl fs))] := hD
  refine lv_iload_n hx hb dX0_nearOne_0 rfl (lv_at hl 1 rfl) ?_
  refine lv_iconst (v := 2) hx hb dX0_nearOne_1 (by decide) ?_
  refine lv_isub hx hb dX0_nearOne_2 ?_
  refine ri (y := nI (md - 2)) (pk_sub (b := 2) hm) ?_
  refine lv_istore_n (lv' := [(2, .int (nI (md - 2))), (0, .ref h), (1, .int (nI md))]) hx hb dX0_nearOne_3 rfl hl (by decide) rfl (fun ls hl => ?_)
  refine lv_iload_n hx hb dX0_nearOne_4 rfl (lv_at hl 0 rfl) ?_
  refine lv_if_lt (tgt := 25) hx hb dX0_nearOne_5 (by decide) (fun c_1 => absurd c_1 (nI_pos (by omega))) (fun c_1 => ?_)
  refine lv_iload_n hx hb dX0_nearOne_8 rfl (lv_at hl 0 rfl) ?_
  refine lv_aload_n hx hb dX0_nearOne_9 rfl (lv_at hl 1 rfl) ?_
  refine va_get (D := D) (ci := 0) (v := .int (nI near)) (C := RX0) (T := TX0) (N := 5) hx hb hts in_X0 hown hK hP 0 rfl rfl 2 (by decide) (hts _ kX0_33) (fun _ h9 => h9) rfl dX0_nearOne_10 ?_
  refine lv_icmp_ge (tgt := 25) hx hb dX0_nearOne_13 (by decide) (fun c_2 => absurd c_2 (nI_ge (by omega) (by omega))) (fun c_2 => ?_)
  refine lv_aload_n hx hb dX0_nearOne_16 rfl (lv_at hl 1 rfl) ?_
  refine va_get (D := D) (ci := 0) (v := .ref on) (C := RX0) (T := TX0) (N := 5) hx hb hts in_X0 hown hK hP 0 rfl rfl 0 (by decide) (hts _ kX0_9) (fun _ h9 => h9) rfl dX0_nearOne_17 ?_
  refine lv_iload_n hx hb dX0_nearOne_20 rfl (lv_at hl 0 rfl) ?_
  refine ax_ild hx hb hK hP 1 0 rfl rfl (md - 2) (rfl) (by omega) (by omega) dX0_nearOne_21 ?_
  refine lv_goto (tgt := 26) hx hb dX0_nearOne_22 (by decide) ?_
  exact hret 26 ls _ _ _ () dX0_nearOne_26 hP hD hS (hc.1 _ (by omega))

set_option maxHeartbeats 4000000 in
set_option maxRecDepth 100000 in
theorem c_Caches_sameOne (l : Launch) (D : va_G) (cI cB cJ cR : ClassId) (h : Nat) (on : Nat) (os : Nat) (near : Nat) (same : Nat) (nx : Nat) (fn : Nat → Int32) (fs : Nat → Int32) (cN : Nat → Nat) (cS : Nat → Nat) (md : Nat) (b : Nat) (h8 : near ≤ 8) (h4 : same ≤ 4) (hm : near + 2 ≤ md) (hm2 : md < near + 2 + same) (hb8 : b < 256) (hc : chIs fn fs cN cS) : CMi l yX0_sameOne cX0_sameOne 4 (some .int) ({ frames := 0, cells := 0, slots := 0, locals := 0 }) D (tyA cI cB cJ cR) 0 0 [.ref h, .int (nI md), .int (nI b)] [(h, .inr (0, [.ref on, .ref os, .int (nI near), .int (nI same), .int (nI nx)])), (on, .inl (cI, 8, .inl fn)), (os, .inl (cI, 1024, .inl fs))] (fun (r : Int32) (_ : Unit) => r = nI (cS (256 * (md - near - 2) + b))) (fun (_ : Unit) => [(h, .inr (0, [.ref on, .ref os, .int (nI near), .int (nI same), .int (nI nx)])), (on, .inl (cI, 8, .inl fn)), (os, .inl (cI, 1024, .inl fs))]) := by
  refine st_i (cc := cX0_sameOne) (maxL := 4) (by decide) (Nat.le_of_ble_eq_true rfl) ?_
  intro p0 e0 s0 m0 below meth c0 A0 Q0 hBD hret hP hD hS ls hl
  obtain ⟨hx, hb, hml, hown, hts, hnm, hK, hNw, hMk, hA⟩ := hBD
  have hl : lv_has ls 4 [(0, .ref h), (1, .int (nI md)), (2, .int (nI b))] := hl
  have hP : va_P D vwCl [(h, .inr (0, [.ref on, .ref os, .int (nI near), .int (nI same), .int (nI nx)])), (on, .inl (cI, 8, .inl fn)), (os, .inl (cI, 1024, .inl fs))] s0.heap := hP
  have hD : va_D A0 [(h, .inr (0, [.ref on, .ref os, .int (nI near), .int (nI same), .int (nI nx)])), (on, .inl (cI, 8, .inl fn)), (os, .inl (cI, 1024, .inl fs))] := hD
  refine lv_sipush (v := 256) hx hb dX0_sameOne_0 (by decide) ?_
  refine lv_iload_n hx hb dX0_sameOne_3 rfl (lv_at hl 1 rfl) ?_
  refine lv_aload_n hx hb dX0_sameOne_4 rfl (lv_at hl 0 rfl) ?_
  refine va_get (D := D) (ci := 0) (v := .int (nI near)) (C := RX0) (T := TX0) (N := 5) hx hb hts in_X0 hown hK hP 0 rfl rfl 2 (by decide) (hts _ kX0_33) (fun _ h9 => h9) rfl dX0_sameOne_5 ?_
  refine lv_isub hx hb dX0_sameOne_8 ?_
  refine ri (y := nI (md - near)) (pk_sub (by omega)) ?_
  refine lv_iconst (v := 2) hx hb dX0_sameOne_9 (by decide) ?_
  refine lv_isub hx hb dX0_sameOne_10 ?_
  refine ri (y := nI (md - near - 2)) (pk_sub (b := 2) (by omega)) ?_
  refine lv_imul hx hb dX0_sameOne_11 ?_
  refine ri (y := nI (256 * (md - near - 2))) (pk_mul 256 _) ?_
  refine lv_iload_n hx hb dX0_sameOne_12 rfl (lv_at hl 2 rfl) ?_
  refine lv_iadd hx hb dX0_sameOne_13 ?_
  refine ri (y := nI ((256 * (md - near - 2)) + b)) (nI_add (256 * (md - near - 2)) b) ?_
  refine lv_istore_n (lv' := [(3, .int (nI ((256 * (md - near - 2)) + b))), (0, .ref h), (1, .int (nI md)), (2, .int (nI b))]) hx hb dX0_sameOne_14 rfl hl (by decide) rfl (fun ls hl => ?_)
  refine lv_iload_n hx hb dX0_sameOne_15 rfl (lv_at hl 0 rfl) ?_
  refine lv_if_lt (tgt := 40) hx hb dX0_sameOne_16 (by decide) (fun c_1 => absurd c_1 (nI_pos (by omega))) (fun c_1 => ?_)
  refine lv_iload_n hx hb dX0_sameOne_19 rfl (lv_at hl 0 rfl) ?_
  refine lv_sipush (v := 256) hx hb dX0_sameOne_20 (by decide) ?_
  refine lv_aload_n hx hb dX0_sameOne_23 rfl (lv_at hl 1 rfl) ?_
  refine va_get (D := D) (ci := 0) (v := .int (nI same)) (C := RX0) (T := TX0) (N := 5) hx hb hts in_X0 hown hK hP 0 rfl rfl 3 (by decide) (hts _ kX0_37) (fun _ h9 => h9) rfl dX0_sameOne_24 ?_
  refine lv_imul hx hb dX0_sameOne_27 ?_
  refine ri (y := nI (256 * same)) (pk_mul 256 _) ?_
  refine lv_icmp_ge (tgt := 40) hx hb dX0_sameOne_28 (by decide) (fun c_2 => absurd c_2 (nI_ge (by omega) (by omega))) (fun c_2 => ?_)
  refine lv_aload_n hx hb dX0_sameOne_31 rfl (lv_at hl 1 rfl) ?_
  refine va_get (D := D) (ci := 0) (v := .ref os) (C := RX0) (T := TX0) (N := 5) hx hb hts in_X0 hown hK hP 0 rfl rfl 1 (by decide) (hts _ kX0_15) (fun _ h9 => h9) rfl dX0_sameOne_32 ?_
  refine lv_iload_n hx hb dX0_sameOne_35 rfl (lv_at hl 0 rfl) ?_
  refine ax_ild hx hb hK hP 2 0 rfl rfl (256 * (md - near - 2) + b) (rfl) (by omega) (by omega) dX0_sameOne_36 ?_
  refine lv_goto (tgt := 41) hx hb dX0_sameOne_37 (by decide) ?_
  exact hret 41 ls _ _ _ () dX0_sameOne_41 hP hD hS (hc.2 _ (by omega))

set_option maxHeartbeats 4000000 in
set_option maxRecDepth 100000 in
theorem c_Caches_keep (l : Launch) (D : va_G) (cI cB cJ cR : ClassId) (h : Nat) (on : Nat) (os : Nat) (near : Nat) (same : Nat) (nx : Nat) (fn : Nat → Int32) (fs : Nat → Int32) (cN : Nat → Nat) (cS : Nat → Nat) (a : Nat) (h8 : near ≤ 8) (h4 : same ≤ 4) (hnx : nx < 8 ∧ (0 < near → nx < near)) (ha : a < 2 ^ 30) (hc : chIs fn fs cN cS) : CMv l yX0_keep cX0_keep 2 none ({ frames := 0, cells := 0, slots := 0, locals := 0 }) D (tyA cI cB cJ cR) 0 0 [.ref h, .int (nI a)] [(h, .inr (0, [.ref on, .ref os, .int (nI near), .int (nI same), .int (nI nx)])), (on, .inl (cI, 8, .inl fn)), (os, .inl (cI, 1024, .inl fs))] (fun (u9 : (Nat → Int32) × (Nat → Int32)) => match u9 with | (fn2, fs2) => chIs fn2 fs2 (kpN near nx a cN) (kpS same a cS)) (fun (u9 : (Nat → Int32) × (Nat → Int32)) => match u9 with | (fn2, fs2) => [(h, .inr (0, [.ref on, .ref os, .int (nI near), .int (nI same), .int (nI (kpX near nx))])), (on, .inl (cI, 8, .inl fn2)), (os, .inl (cI, 1024, .inl fs2))]) := by
  refine st_v (cc := cX0_keep) (maxL := 2) (by decide) (Nat.le_of_ble_eq_true rfl) ?_
  intro p0 e0 s0 m0 below meth c0 A0 Q0 hBD hret hP hD hS ls hl
  obtain ⟨hx, hb, hml, hown, hts, hnm, hK, hNw, hMk, hA⟩ := hBD
  have hl : lv_has ls 2 [(0, .ref h), (1, .int (nI a))] := hl
  have hP : va_P D vwCl [(h, .inr (0, [.ref on, .ref os, .int (nI near), .int (nI same), .int (nI nx)])), (on, .inl (cI, 8, .inl fn)), (os, .inl (cI, 1024, .inl fs))] s0.heap := hP
  have hD : va_D A0 [(h, .inr (0, [.ref on, .ref os, .int (nI near), .int (nI same), .int (nI nx)])), (on, .inl (cI, 8, .inl fn)), (os, .inl (cI, 1024, .inl fs))] := hD
  refine lv_aload_n hx hb dX0_keep_0 rfl (lv_at hl 0 rfl) ?_
  refine va_get (D := D) (ci := 0) (v := .int (nI near)) (C := RX0) (T := TX0) (N := 5) hx hb hts in_X0 hown hK hP 0 rfl rfl 2 (by decide) (hts _ kX0_33) (fun _ h9 => h9) rfl dX0_keep_1 ?_
  refine lv_if_le (tgt := 44) hx hb dX0_keep_4 (by decide) (fun c_1 => ?_) (fun c_1 => ?_)
  · have hn0 : ¬ 0 < near := fun q => nI_nle q (by omega) c_1
    refine lv_aload_n hx hb dX0_keep_44 rfl (lv_at hl 0 rfl) ?_
    refine va_get (D := D) (ci := 0) (v := .int (nI same)) (C := RX0) (T := TX0) (N := 5) hx hb hts in_X0 hown hK hP 0 rfl rfl 3 (by decide) (hts _ kX0_37) (fun _ h9 => h9) rfl dX0_keep_45 ?_
    refine lv_if_le (tgt := 67) hx hb dX0_keep_48 (by decide) (fun c_2 => ?_) (fun c_2 => ?_)
    · have hs0 : ¬ 0 < same := fun q => nI_nle q (by omega) c_2
      have hnxx : nx = kpX near nx := by rw [kpX, if_neg hn0]
      have hP : va_P D vwCl [(h, .inr (0, [.ref on, .ref os, .int (nI near), .int (nI same), .int (nI (kpX near nx))])), (on, .inl (cI, 8, .inl fn)), (os, .inl (cI, 1024, .inl fs))] s0.heap := by rw [← hnxx]; exact hP
      have hD : va_D A0 [(h, .inr (0, [.ref on, .ref os, .int (nI near), .int (nI same), .int (nI (kpX near nx))])), (on, .inl (cI, 8, .inl fn)), (os, .inl (cI, 1024, .inl fs))] := by rw [← hnxx]; exact hD
      exact hret 67 ls _ _ (fn, fs) dX0_keep_67 hP hD hS (by rw [kpN, if_neg hn0]; rw [kpS, if_neg hs0]; exact hc)
    · have hs0 : 0 < same := Nat.pos_of_ne_zero (fun q => c_2 (by rw [q]; decide))
      refine lv_aload_n hx hb dX0_keep_51 rfl (lv_at hl 0 rfl) ?_
      refine va_get (D := D) (ci := 0) (v := .ref os) (C := RX0) (T := TX0) (N := 5) hx hb hts in_X0 hown hK hP 0 rfl rfl 1 (by decide) (hts _ kX0_15) (fun _ h9 => h9) rfl dX0_keep_52 ?_
      refine lv_iload_n hx hb dX0_keep_55 rfl (lv_at hl 1 rfl) ?_
      refine lv_sipush (v := 256) hx hb dX0_keep_56 (by decide) ?_
      refine lv_aload_n hx hb dX0_keep_59 rfl (lv_at hl 0 rfl) ?_
      refine va_get (D := D) (ci := 0) (v := .int (nI same)) (C := RX0) (T := TX0) (N := 5) hx hb hts in_X0 hown hK hP 0 rfl rfl 3 (by decide) (hts _ kX0_37) (fun _ h9 => h9) rfl dX0_keep_60 ?_
      refine lv_imul hx hb dX0_keep_63 ?_
      refine ri (y := nI (256 * same)) (pk_mul 256 _) ?_
      refine lv_irem hx hb dX0_keep_64 (nI_ne0 (by omega) (by omega)) ?_
      refine ri (y := nI (a % (256 * same))) (pk_rem (by omega) (by omega) (by omega)) ?_
      refine lv_iload_n hx hb dX0_keep_65 rfl (lv_at hl 1 rfl) ?_
      have hmod := Nat.mod_lt a (show 0 < 256 * same by omega)
      refine ax_ist hx hb hK hP hD hS 2 0 rfl rfl (a % (256 * same)) (rfl) (by omega) (by omega) dX0_keep_66 (fun H locs hP hD hS => ?_)
      have hP : va_P D vwCl [(h, .inr (0, [.ref on, .ref os, .int (nI near), .int (nI same), .int (nI nx)])), (on, .inl (cI, 8, .inl fn)), (os, .inl (cI, 1024, .inl (upd fs (a % (256 * same)) (nI a))))] H := hP
      have hD : va_D A0 [(h, .inr (0, [.ref on, .ref os, .int (nI near), .int (nI same), .int (nI nx)])), (on, .inl (cI, 8, .inl fn)), (os, .inl (cI, 1024, .inl (upd fs (a % (256 * same)) (nI a))))] := hD
      have hnxx : nx = kpX near nx := by rw [kpX, if_neg hn0]
      have hP : va_P D vwCl [(h, .inr (0, [.ref on, .ref os, .int (nI near), .int (nI same), .int (nI (kpX near nx))])), (on, .inl (cI, 8, .inl fn)), (os, .inl (cI, 1024, .inl (upd fs (a % (256 * same)) (nI a))))] H := by rw [← hnxx]; exact hP
      have hD : va_D A0 [(h, .inr (0, [.ref on, .ref os, .int (nI near), .int (nI same), .int (nI (kpX near nx))])), (on, .inl (cI, 8, .inl fn)), (os, .inl (cI, 1024, .inl (upd fs (a % (256 * same)) (nI a))))] := by rw [← hnxx]; exact hD
      exact hret 67 ls _ _ (fn, upd fs (a % (256 * same)) (nI a)) dX0_keep_67 hP hD hS (by rw [kpN, if_neg hn0]; rw [kpS, if_pos hs0]; exact ch_keepS (hc))
  · have hn0 : 0 < near := Nat.pos_of_ne_zero (fun q => c_1 (by rw [q]; decide))
    have hnx3 := hnx.2 hn0
    refine lv_aload_n hx hb dX0_keep_7 rfl (lv_at hl 0 rfl) ?_
    refine va_get (D := D) (ci := 0) (v := .ref on) (C := RX0) (T := TX0) (N := 5) hx hb hts in_X0 hown hK hP 0 rfl rfl 0 (by decide) (hts _ kX0_9) (fun _ h9 => h9) rfl dX0_keep_8 ?_
    refine lv_aload_n hx hb dX0_keep_11 rfl (lv_at hl 0 rfl) ?_
    refine va_get (D := D) (ci := 0) (v := .int (nI nx)) (C := RX0) (T := TX0) (N := 5) hx hb hts in_X0 hown hK hP 0 rfl rfl 4 (by decide) (hts _ kX0_38) (fun _ h9 => h9) rfl dX0_keep_12 ?_
    refine lv_iload_n hx hb dX0_keep_15 rfl (lv_at hl 1 rfl) ?_
    refine ax_ist hx hb hK hP hD hS 1 0 rfl rfl nx (rfl) (hnx.1) (by omega) dX0_keep_16 (fun H locs hP hD hS => ?_)
    have hP : va_P D vwCl [(h, .inr (0, [.ref on, .ref os, .int (nI near), .int (nI same), .int (nI nx)])), (on, .inl (cI, 8, .inl (upd fn nx (nI a)))), (os, .inl (cI, 1024, .inl fs))] H := hP
    have hD : va_D A0 [(h, .inr (0, [.ref on, .ref os, .int (nI near), .int (nI same), .int (nI nx)])), (on, .inl (cI, 8, .inl (upd fn nx (nI a)))), (os, .inl (cI, 1024, .inl fs))] := hD
    refine lv_aload_n hx hb dX0_keep_17 rfl (lv_at hl 0 rfl) ?_
    refine lv_aload_n hx hb dX0_keep_18 rfl (lv_at hl 0 rfl) ?_
    refine va_get (D := D) (ci := 0) (v := .int (nI nx)) (C := RX0) (T := TX0) (N := 5) hx hb hts in_X0 hown hK hP 0 rfl rfl 4 (by decide) (hts _ kX0_38) (fun _ h9 => h9) rfl dX0_keep_19 ?_
    refine lv_iconst (v := 1) hx hb dX0_keep_22 (by decide) ?_
    refine lv_iadd hx hb dX0_keep_23 ?_
    refine ri (y := nI (nx + 1)) (nI_add nx 1) ?_
    refine lv_aload_n hx hb dX0_keep_24 rfl (lv_at hl 0 rfl) ?_
    refine va_get (D := D) (ci := 0) (v := .int (nI near)) (C := RX0) (T := TX0) (N := 5) hx hb hts in_X0 hown hK hP 0 rfl rfl 2 (by decide) (hts _ kX0_33) (fun _ h9 => h9) rfl dX0_keep_25 ?_
    refine lv_icmp_ge (tgt := 40) hx hb dX0_keep_28 (by decide) (fun c_3 => ?_) (fun c_3 => ?_)
    · have hw9 : ¬ nx + 1 < near := Nat.not_lt.mpr ((nI_leI (by omega) (by omega)).mp c_3)
      refine lv_iconst (v := 0) hx hb dX0_keep_40 (by decide) ?_
      refine ri (y := nI 0) (nI_0.symm) ?_
      refine va_put (D := D) (ci := 0) (v := .int (nI 0)) (ty := .int) (C := RX0) (T := TX0) (N := 5) hx hb hts in_X0 tyX0 tyX0_ok nmX0 hown hK hP hD hS 0 rfl rfl 4 (by decide) (hts _ kX0_38) (fun _ h9 => h9) rfl (by decide +kernel) rfl rfl (Nat.le_of_ble_eq_true rfl) dX0_keep_41 (fun H locs hP hD hS => ?_)
      have hP : va_P D vwCl [(h, .inr (0, [.ref on, .ref os, .int (nI near), .int (nI same), .int (nI 0)])), (on, .inl (cI, 8, .inl (upd fn nx (nI a)))), (os, .inl (cI, 1024, .inl fs))] H := hP
      have hD : va_D A0 [(h, .inr (0, [.ref on, .ref os, .int (nI near), .int (nI same), .int (nI 0)])), (on, .inl (cI, 8, .inl (upd fn nx (nI a)))), (os, .inl (cI, 1024, .inl fs))] := hD
      refine lv_aload_n hx hb dX0_keep_44 rfl (lv_at hl 0 rfl) ?_
      refine va_get (D := D) (ci := 0) (v := .int (nI same)) (C := RX0) (T := TX0) (N := 5) hx hb hts in_X0 hown hK hP 0 rfl rfl 3 (by decide) (hts _ kX0_37) (fun _ h9 => h9) rfl dX0_keep_45 ?_
      refine lv_if_le (tgt := 67) hx hb dX0_keep_48 (by decide) (fun c_4 => ?_) (fun c_4 => ?_)
      · have hs0 : ¬ 0 < same := fun q => nI_nle q (by omega) c_4
        have hnxx : 0 = kpX near nx := by rw [kpX, if_pos hn0, if_neg hw9]
        have hP : va_P D vwCl [(h, .inr (0, [.ref on, .ref os, .int (nI near), .int (nI same), .int (nI (kpX near nx))])), (on, .inl (cI, 8, .inl (upd fn nx (nI a)))), (os, .inl (cI, 1024, .inl fs))] H := by rw [← hnxx]; exact hP
        have hD : va_D A0 [(h, .inr (0, [.ref on, .ref os, .int (nI near), .int (nI same), .int (nI (kpX near nx))])), (on, .inl (cI, 8, .inl (upd fn nx (nI a)))), (os, .inl (cI, 1024, .inl fs))] := by rw [← hnxx]; exact hD
        exact hret 67 ls _ _ (upd fn nx (nI a), fs) dX0_keep_67 hP hD hS (by rw [kpN, if_pos hn0]; rw [kpS, if_neg hs0]; exact ch_keep hc)
      · have hs0 : 0 < same := Nat.pos_of_ne_zero (fun q => c_4 (by rw [q]; decide))
        refine lv_aload_n hx hb dX0_keep_51 rfl (lv_at hl 0 rfl) ?_
        refine va_get (D := D) (ci := 0) (v := .ref os) (C := RX0) (T := TX0) (N := 5) hx hb hts in_X0 hown hK hP 0 rfl rfl 1 (by decide) (hts _ kX0_15) (fun _ h9 => h9) rfl dX0_keep_52 ?_
        refine lv_iload_n hx hb dX0_keep_55 rfl (lv_at hl 1 rfl) ?_
        refine lv_sipush (v := 256) hx hb dX0_keep_56 (by decide) ?_
        refine lv_aload_n hx hb dX0_keep_59 rfl (lv_at hl 0 rfl) ?_
        refine va_get (D := D) (ci := 0) (v := .int (nI same)) (C := RX0) (T := TX0) (N := 5) hx hb hts in_X0 hown hK hP 0 rfl rfl 3 (by decide) (hts _ kX0_37) (fun _ h9 => h9) rfl dX0_keep_60 ?_
        refine lv_imul hx hb dX0_keep_63 ?_
        refine ri (y := nI (256 * same)) (pk_mul 256 _) ?_
        refine lv_irem hx hb dX0_keep_64 (nI_ne0 (by omega) (by omega)) ?_
        refine ri (y := nI (a % (256 * same))) (pk_rem (by omega) (by omega) (by omega)) ?_
        refine lv_iload_n hx hb dX0_keep_65 rfl (lv_at hl 1 rfl) ?_
        have hmod := Nat.mod_lt a (show 0 < 256 * same by omega)
        refine ax_ist hx hb hK hP hD hS 2 0 rfl rfl (a % (256 * same)) (rfl) (by omega) (by omega) dX0_keep_66 (fun H locs hP hD hS => ?_)
        have hP : va_P D vwCl [(h, .inr (0, [.ref on, .ref os, .int (nI near), .int (nI same), .int (nI 0)])), (on, .inl (cI, 8, .inl (upd fn nx (nI a)))), (os, .inl (cI, 1024, .inl (upd fs (a % (256 * same)) (nI a))))] H := hP
        have hD : va_D A0 [(h, .inr (0, [.ref on, .ref os, .int (nI near), .int (nI same), .int (nI 0)])), (on, .inl (cI, 8, .inl (upd fn nx (nI a)))), (os, .inl (cI, 1024, .inl (upd fs (a % (256 * same)) (nI a))))] := hD
        have hnxx : 0 = kpX near nx := by rw [kpX, if_pos hn0, if_neg hw9]
        have hP : va_P D vwCl [(h, .inr (0, [.ref on, .ref os, .int (nI near), .int (nI same), .int (nI (kpX near nx))])), (on, .inl (cI, 8, .inl (upd fn nx (nI a)))), (os, .inl (cI, 1024, .inl (upd fs (a % (256 * same)) (nI a))))] H := by rw [← hnxx]; exact hP
        have hD : va_D A0 [(h, .inr (0, [.ref on, .ref os, .int (nI near), .int (nI same), .int (nI (kpX near nx))])), (on, .inl (cI, 8, .inl (upd fn nx (nI a)))), (os, .inl (cI, 1024, .inl (upd fs (a % (256 * same)) (nI a))))] := by rw [← hnxx]; exact hD
        exact hret 67 ls _ _ (upd fn nx (nI a), upd fs (a % (256 * same)) (nI a)) dX0_keep_67 hP hD hS (by rw [kpN, if_pos hn0]; rw [kpS, if_pos hs0]; exact ch_keepS (ch_keep hc))
    · have hw9 : nx + 1 < near := Nat.not_le.mp (fun q => c_3 (nI_le q (by omega)))
      refine lv_aload_n hx hb dX0_keep_31 rfl (lv_at hl 0 rfl) ?_
      refine va_get (D := D) (ci := 0) (v := .int (nI nx)) (C := RX0) (T := TX0) (N := 5) hx hb hts in_X0 hown hK hP 0 rfl rfl 4 (by decide) (hts _ kX0_38) (fun _ h9 => h9) rfl dX0_keep_32 ?_
      refine lv_iconst (v := 1) hx hb dX0_keep_35 (by decide) ?_
      refine lv_iadd hx hb dX0_keep_36 ?_
      refine ri (y := nI (nx + 1)) (nI_add nx 1) ?_
      refine lv_goto (tgt := 41) hx hb dX0_keep_37 (by decide) ?_
      refine va_put (D := D) (ci := 0) (v := .int (nI (nx + 1))) (ty := .int) (C := RX0) (T := TX0) (N := 5) hx hb hts in_X0 tyX0 tyX0_ok nmX0 hown hK hP hD hS 0 rfl rfl 4 (by decide) (hts _ kX0_38) (fun _ h9 => h9) rfl (by decide +kernel) rfl rfl (Nat.le_of_ble_eq_true rfl) dX0_keep_41 (fun H locs hP hD hS => ?_)
      have hP : va_P D vwCl [(h, .inr (0, [.ref on, .ref os, .int (nI near), .int (nI same), .int (nI (nx + 1))])), (on, .inl (cI, 8, .inl (upd fn nx (nI a)))), (os, .inl (cI, 1024, .inl fs))] H := hP
      have hD : va_D A0 [(h, .inr (0, [.ref on, .ref os, .int (nI near), .int (nI same), .int (nI (nx + 1))])), (on, .inl (cI, 8, .inl (upd fn nx (nI a)))), (os, .inl (cI, 1024, .inl fs))] := hD
      refine lv_aload_n hx hb dX0_keep_44 rfl (lv_at hl 0 rfl) ?_
      refine va_get (D := D) (ci := 0) (v := .int (nI same)) (C := RX0) (T := TX0) (N := 5) hx hb hts in_X0 hown hK hP 0 rfl rfl 3 (by decide) (hts _ kX0_37) (fun _ h9 => h9) rfl dX0_keep_45 ?_
      refine lv_if_le (tgt := 67) hx hb dX0_keep_48 (by decide) (fun c_5 => ?_) (fun c_5 => ?_)
      · have hs0 : ¬ 0 < same := fun q => nI_nle q (by omega) c_5
        have hnxx : nx + 1 = kpX near nx := by rw [kpX, if_pos hn0, if_pos hw9]
        have hP : va_P D vwCl [(h, .inr (0, [.ref on, .ref os, .int (nI near), .int (nI same), .int (nI (kpX near nx))])), (on, .inl (cI, 8, .inl (upd fn nx (nI a)))), (os, .inl (cI, 1024, .inl fs))] H := by rw [← hnxx]; exact hP
        have hD : va_D A0 [(h, .inr (0, [.ref on, .ref os, .int (nI near), .int (nI same), .int (nI (kpX near nx))])), (on, .inl (cI, 8, .inl (upd fn nx (nI a)))), (os, .inl (cI, 1024, .inl fs))] := by rw [← hnxx]; exact hD
        exact hret 67 ls _ _ (upd fn nx (nI a), fs) dX0_keep_67 hP hD hS (by rw [kpN, if_pos hn0]; rw [kpS, if_neg hs0]; exact ch_keep hc)
      · have hs0 : 0 < same := Nat.pos_of_ne_zero (fun q => c_5 (by rw [q]; decide))
        refine lv_aload_n hx hb dX0_keep_51 rfl (lv_at hl 0 rfl) ?_
        refine va_get (D := D) (ci := 0) (v := .ref os) (C := RX0) (T := TX0) (N := 5) hx hb hts in_X0 hown hK hP 0 rfl rfl 1 (by decide) (hts _ kX0_15) (fun _ h9 => h9) rfl dX0_keep_52 ?_
        refine lv_iload_n hx hb dX0_keep_55 rfl (lv_at hl 1 rfl) ?_
        refine lv_sipush (v := 256) hx hb dX0_keep_56 (by decide) ?_
        refine lv_aload_n hx hb dX0_keep_59 rfl (lv_at hl 0 rfl) ?_
        refine va_get (D := D) (ci := 0) (v := .int (nI same)) (C := RX0) (T := TX0) (N := 5) hx hb hts in_X0 hown hK hP 0 rfl rfl 3 (by decide) (hts _ kX0_37) (fun _ h9 => h9) rfl dX0_keep_60 ?_
        refine lv_imul hx hb dX0_keep_63 ?_
        refine ri (y := nI (256 * same)) (pk_mul 256 _) ?_
        refine lv_irem hx hb dX0_keep_64 (nI_ne0 (by omega) (by omega)) ?_
        refine ri (y := nI (a % (256 * same))) (pk_rem (by omega) (by omega) (by omega)) ?_
        refine lv_iload_n hx hb dX0_keep_65 rfl (lv_at hl 1 rfl) ?_
        have hmod := Nat.mod_lt a (show 0 < 256 * same by omega)
        refine ax_ist hx hb hK hP hD hS 2 0 rfl rfl (a % (256 * same)) (rfl) (by omega) (by omega) dX0_keep_66 (fun H locs hP hD hS => ?_)
        have hP : va_P D vwCl [(h, .inr (0, [.ref on, .ref os, .int (nI near), .int (nI same), .int (nI (nx + 1))])), (on, .inl (cI, 8, .inl (upd fn nx (nI a)))), (os, .inl (cI, 1024, .inl (upd fs (a % (256 * same)) (nI a))))] H := hP
        have hD : va_D A0 [(h, .inr (0, [.ref on, .ref os, .int (nI near), .int (nI same), .int (nI (nx + 1))])), (on, .inl (cI, 8, .inl (upd fn nx (nI a)))), (os, .inl (cI, 1024, .inl (upd fs (a % (256 * same)) (nI a))))] := hD
        have hnxx : nx + 1 = kpX near nx := by rw [kpX, if_pos hn0, if_pos hw9]
        have hP : va_P D vwCl [(h, .inr (0, [.ref on, .ref os, .int (nI near), .int (nI same), .int (nI (kpX near nx))])), (on, .inl (cI, 8, .inl (upd fn nx (nI a)))), (os, .inl (cI, 1024, .inl (upd fs (a % (256 * same)) (nI a))))] H := by rw [← hnxx]; exact hP
        have hD : va_D A0 [(h, .inr (0, [.ref on, .ref os, .int (nI near), .int (nI same), .int (nI (kpX near nx))])), (on, .inl (cI, 8, .inl (upd fn nx (nI a)))), (os, .inl (cI, 1024, .inl (upd fs (a % (256 * same)) (nI a))))] := by rw [← hnxx]; exact hD
        exact hret 67 ls _ _ (upd fn nx (nI a), upd fs (a % (256 * same)) (nI a)) dX0_keep_67 hP hD hS (by rw [kpN, if_pos hn0]; rw [kpS, if_pos hs0]; exact ch_keepS (ch_keep hc))
