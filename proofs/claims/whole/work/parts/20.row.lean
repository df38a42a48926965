/-! THE CLASS'S ROWS OF OCTETS: a row of room N that was asked to hold L -/
abbrev tyA (cI cB cJ cR : ClassId) : TY := [(cI, .int), (cB, .byte), (cJ, .long), (cR, .object "CodedDeltas$Row")]
def rowIs (N : Nat) (L : List Int32) (n : Nat) (f : Nat → Int32) (ov : Int32) : Prop := n = min L.length N ∧ ov = bI (decide (N < L.length)) ∧ ∀ j, j < n → f j = L.getD j 0
def inB (i : Int32) (n : Nat) : Bool := decide (¬ i < 0 ∧ i < nI n)
theorem inB_t {j n : Nat} (h : j < n) (hn : n < 2 ^ 31) : inB (nI j) n = true := by
  simp only [inB, decide_eq_true_eq]
  exact ⟨nI_pos (by omega), nI_lt h hn⟩
theorem inB_of {i : Int32} {n : Nat} (h : inB i n = true) (hn : n < 2 ^ 31) : ∃ j : Nat, j < n ∧ i = nI j := by
  simp only [inB, decide_eq_true_eq] at h
  obtain ⟨j, hj, rfl⟩ := nI_of h.1
  exact ⟨j, (nI_ltI hj hn).mp h.2, rfl⟩
theorem rowIs_nil {N : Nat} {f : Nat → Int32} : rowIs N [] 0 f 0 := ⟨by simp, by simp [bI], fun j h => absurd h (Nat.not_lt_zero j)⟩
theorem rowIs_le {N : Nat} {L : List Int32} {n : Nat} {f : Nat → Int32} {ov : Int32} (h : rowIs N L n f ov) : n ≤ N := by
  have := h.1; omega
theorem rowIs_put_lt {N : Nat} {L : List Int32} {n : Nat} {f : Nat → Int32} {ov : Int32} {v : Int32} (h : rowIs N L n f ov) (hn : n < N) : rowIs N (L ++ [v]) (n + 1) (upd f n v) ov := by
  obtain ⟨h1, h2, h3⟩ := h
  have hl : n = L.length := by omega
  refine ⟨by simp; omega, ?_, fun j hj => ?_⟩
  · rw [h2]; congr 1; simp; omega
  · by_cases hjn : j = n
    · subst hjn; rw [pk_us, hl]; simp
    · rw [pk_un hjn, h3 j (by omega)]; simp [List.getD, List.getElem?_append_left (show j < L.length by omega)]
theorem rowIs_put_ge {N : Nat} {L : List Int32} {n : Nat} {f : Nat → Int32} {ov : Int32} {v : Int32} (h : rowIs N L n f ov) (hn : ¬ n < N) : rowIs N (L ++ [v]) n f 1 := by
  obtain ⟨h1, h2, h3⟩ := h
  refine ⟨by simp; omega, ?_, fun j hj => ?_⟩
  · rw [show decide (N < (L ++ [v]).length) = true by simp; omega]; rfl
  · rw [h3 j hj]; simp [List.getD, List.getElem?_append_left (show j < L.length by omega)]
set_option maxHeartbeats 4000000 in
set_option maxRecDepth 100000 in
/-- the row is empty -/
theorem c_Row_makeEmpty (l : Launch) (D : va_G) (cI cB cJ cR : ClassId) (h : Nat) (o : Nat) (N : Nat) (n : Nat) (f : Nat → Int32) (ov : Int32)  : CMv l yX4_makeEmpty cX4_makeEmpty 1 none ({ frames := 0, cells := 0, slots := 0, locals := 0 }) D (tyA cI cB cJ cR) 0 0 [.ref h] [(h, .inr (4, [.ref o, .int (nI n), .int ov])), (o, .inl (cI, N, .inl f))] (fun (_ : Unit) => True) (fun (_ : Unit) => [(h, .inr (4, [.ref o, .int (nI 0), .int 0])), (o, .inl (cI, N, .inl f))]) := by
  refine st_v (cc := cX4_makeEmpty) (maxL := 1) (by decide) (Nat.le_of_ble_eq_true rfl) ?_
  intro p0 e0 s0 m0 below meth c0 A0 Q0 hBD hret hP hD hS ls hl
  obtain ⟨hx, hb, hml, hown, hts, hnm, hK, hNw, hMk, hA⟩ := hBD
  have hl : lv_has ls 1 [(0, .ref h)] := hl
  have hP : va_P D vwCl [(h, .inr (4, [.ref o, .int (nI n), .int ov])), (o, .inl (cI, N, .inl f))] s0.heap := hP
  have hD : va_D A0 [(h, .inr (4, [.ref o, .int (nI n), .int ov])), (o, .inl (cI, N, .inl f))] := hD
  refine lv_aload_n hx hb dX4_makeEmpty_0 rfl (lv_at hl 0 rfl) ?_
  refine lv_iconst (v := 0) hx hb dX4_makeEmpty_1 (by decide) ?_
  refine ri (y := nI 0) (nI_0.symm) ?_
  refine va_put (D := D) (ci := 4) (v := .int (nI 0)) (ty := .int) (C := RX4) (T := TX4) (N := 3) hx hb hts in_X4 tyX4 tyX4_ok nmX4 hown hK hP hD hS 0 rfl rfl 1 (by decide) (hts _ kX4_21) (fun _ h9 => h9) rfl (by decide +kernel) rfl rfl (Nat.le_of_ble_eq_true rfl) dX4_makeEmpty_2 (fun H locs hP hD hS => ?_)
  have hP : va_P D vwCl [(h, .inr (4, [.ref o, .int (nI 0), .int ov])), (o, .inl (cI, N, .inl f))] H := hP
  have hD : va_D A0 [(h, .inr (4, [.ref o, .int (nI 0), .int ov])), (o, .inl (cI, N, .inl f))] := hD
  refine lv_aload_n hx hb dX4_makeEmpty_5 rfl (lv_at hl 0 rfl) ?_
  refine lv_iconst (v := 0) hx hb dX4_makeEmpty_6 (by decide) ?_
  refine va_put (D := D) (ci := 4) (v := .int 0) (ty := .boolean) (C := RX4) (T := TX4) (N := 3) hx hb hts in_X4 tyX4 tyX4_ok nmX4 hown hK hP hD hS 0 rfl rfl 2 (by decide) (hts _ kX4_25) (fun _ h9 => h9) rfl (by decide +kernel) rfl rfl (Nat.le_of_ble_eq_true rfl) dX4_makeEmpty_7 (fun H locs hP hD hS => ?_)
  have hP : va_P D vwCl [(h, .inr (4, [.ref o, .int (nI 0), .int 0])), (o, .inl (cI, N, .inl f))] H := hP
  have hD : va_D A0 [(h, .inr (4, [.ref o, .int (nI 0), .int 0])), (o, .inl (cI, N, .inl f))] := hD
  exact hret 10 ls _ _ () dX4_makeEmpty_10 hP hD hS (trivial)

set_option maxHeartbeats 4000000 in
set_option maxRecDepth 100000 in
/-- how many octets may still come -/
theorem c_Row_room (l : Launch) (D : va_G) (cI cB cJ cR : ClassId) (h : Nat) (o : Nat) (N : Nat) (n : Nat) (f : Nat → Int32) (ov : Int32) (hN : N < 2 ^ 31) (hn : n ≤ N) : CMi l yX4_room cX4_room 1 (some .int) ({ frames := 0, cells := 0, slots := 0, locals := 0 }) D (tyA cI cB cJ cR) 0 0 [.ref h] [(h, .inr (4, [.ref o, .int (nI n), .int ov])), (o, .inl (cI, N, .inl f))] (fun (r : Int32) (_ : Unit) => r = nI (N - n)) (fun (_ : Unit) => [(h, .inr (4, [.ref o, .int (nI n), .int ov])), (o, .inl (cI, N, .inl f))]) := by
  refine st_i (cc := cX4_room) (maxL := 1) (by decide) (Nat.le_of_ble_eq_true rfl) ?_
  intro p0 e0 s0 m0 below meth c0 A0 Q0 hBD hret hP hD hS ls hl
  obtain ⟨hx, hb, hml, hown, hts, hnm, hK, hNw, hMk, hA⟩ := hBD
  have hl : lv_has ls 1 [(0, .ref h)] := hl
  have hP : va_P D vwCl [(h, .inr (4, [.ref o, .int (nI n), .int ov])), (o, .inl (cI, N, .inl f))] s0.heap := hP
  have hD : va_D A0 [(h, .inr (4, [.ref o, .int (nI n), .int ov])), (o, .inl (cI, N, .inl f))] := hD
  refine lv_aload_n hx hb dX4_room_0 rfl (lv_at hl 0 rfl) ?_
  refine va_get (D := D) (ci := 4) (v := .ref o) (C := RX4) (T := TX4) (N := 3) hx hb hts in_X4 hown hK hP 0 rfl rfl 0 (by decide) (hts _ kX4_15) (fun _ h9 => h9) rfl dX4_room_1 ?_
  refine va_alen hx hb hK hP 1 0 rfl rfl (v := nI N) rfl dX4_room_4 ?_
  refine lv_aload_n hx hb dX4_room_5 rfl (lv_at hl 0 rfl) ?_
  refine va_get (D := D) (ci := 4) (v := .int (nI n)) (C := RX4) (T := TX4) (N := 3) hx hb hts in_X4 hown hK hP 0 rfl rfl 1 (by decide) (hts _ kX4_21) (fun _ h9 => h9) rfl dX4_room_6 ?_
  refine lv_isub hx hb dX4_room_9 ?_
  refine ri (y := nI (N - n)) (pk_sub hn) ?_
  exact hret 10 ls _ _ _ () dX4_room_10 hP hD hS (rfl)

set_option maxHeartbeats 4000000 in
set_option maxRecDepth 100000 in
theorem c_Row_has (l : Launch) (D : va_G) (cI cB cJ cR : ClassId) (h : Nat) (o : Nat) (N : Nat) (n : Nat) (f : Nat → Int32) (ov : Int32) (i : Int32)  : CMz l yX4_has cX4_has 2 (some .boolean) ({ frames := 0, cells := 0, slots := 0, locals := 0 }) D (tyA cI cB cJ cR) 0 0 [.ref h, .int i] [(h, .inr (4, [.ref o, .int (nI n), .int ov])), (o, .inl (cI, N, .inl f))] (fun (r : Bool) (_ : Unit) => r = inB i n) (fun (_ : Unit) => [(h, .inr (4, [.ref o, .int (nI n), .int ov])), (o, .inl (cI, N, .inl f))]) := by
  refine st_z (cc := cX4_has) (maxL := 2) (by decide) (Nat.le_of_ble_eq_true rfl) ?_
  intro p0 e0 s0 m0 below meth c0 A0 Q0 hBD hret hP hD hS ls hl
  obtain ⟨hx, hb, hml, hown, hts, hnm, hK, hNw, hMk, hA⟩ := hBD
  have hl : lv_has ls 2 [(0, .ref h), (1, .int i)] := hl
  have hP : va_P D vwCl [(h, .inr (4, [.ref o, .int (nI n), .int ov])), (o, .inl (cI, N, .inl f))] s0.heap := hP
  have hD : va_D A0 [(h, .inr (4, [.ref o, .int (nI n), .int ov])), (o, .inl (cI, N, .inl f))] := hD
  refine lv_iload_n hx hb dX4_has_0 rfl (lv_at hl 1 rfl) ?_
  refine lv_if_lt (tgt := 16) hx hb dX4_has_1 (by decide) (fun c_1 => ?_) (fun c_1 => ?_)
  · refine lv_iconst (v := 0) hx hb dX4_has_16 (by decide) ?_
    exact hret 17 ls _ _ false () dX4_has_17 hP hD hS (by simp [inB, c_1])
  · refine lv_iload_n hx hb dX4_has_4 rfl (lv_at hl 1 rfl) ?_
    refine lv_aload_n hx hb dX4_has_5 rfl (lv_at hl 0 rfl) ?_
    refine va_get (D := D) (ci := 4) (v := .int (nI n)) (C := RX4) (T := TX4) (N := 3) hx hb hts in_X4 hown hK hP 0 rfl rfl 1 (by decide) (hts _ kX4_21) (fun _ h9 => h9) rfl dX4_has_6 ?_
    refine lv_icmp_ge (tgt := 16) hx hb dX4_has_9 (by decide) (fun c_2 => ?_) (fun c_2 => ?_)
    · refine lv_iconst (v := 0) hx hb dX4_has_16 (by decide) ?_
      exact hret 17 ls _ _ false () dX4_has_17 hP hD hS (by simp only [inB]; symm; exact decide_eq_false (fun q => Int32.not_lt.mpr c_2 q.2))
    · refine lv_iconst (v := 1) hx hb dX4_has_12 (by decide) ?_
      refine lv_goto (tgt := 17) hx hb dX4_has_13 (by decide) ?_
      exact hret 17 ls _ _ true () dX4_has_17 hP hD hS (by simp only [inB]; symm; exact decide_eq_true ⟨c_1, Int32.not_le.mp c_2⟩)

set_option maxHeartbeats 4000000 in
set_option maxRecDepth 100000 in
theorem c_Row_at (l : Launch) (D : va_G) (cI cB cJ cR : ClassId) (h : Nat) (o : Nat) (N : Nat) (n : Nat) (f : Nat → Int32) (ov : Int32) (i : Int32) (hN : N < 2 ^ 31) (hn : n ≤ N) : CMi l yX4_at cX4_at 2 (some .int) ({ frames := 0, cells := 0, slots := 0, locals := 0 }) D (tyA cI cB cJ cR) 0 0 [.ref h, .int i] [(h, .inr (4, [.ref o, .int (nI n), .int ov])), (o, .inl (cI, N, .inl f))] (fun (r : Int32) (_ : Unit) => r = if inB i n then f i.toNatClampNeg else 0) (fun (_ : Unit) => [(h, .inr (4, [.ref o, .int (nI n), .int ov])), (o, .inl (cI, N, .inl f))]) := by
  refine st_i (cc := cX4_at) (maxL := 2) (by decide) (Nat.le_of_ble_eq_true rfl) ?_
  intro p0 e0 s0 m0 below meth c0 A0 Q0 hBD hret hP hD hS ls hl
  obtain ⟨hx, hb, hml, hown, hts, hnm, hK, hNw, hMk, hA⟩ := hBD
  have hl : lv_has ls 2 [(0, .ref h), (1, .int i)] := hl
  have hP : va_P D vwCl [(h, .inr (4, [.ref o, .int (nI n), .int ov])), (o, .inl (cI, N, .inl f))] s0.heap := hP
  have hD : va_D A0 [(h, .inr (4, [.ref o, .int (nI n), .int ov])), (o, .inl (cI, N, .inl f))] := hD
  refine lv_iload_n hx hb dX4_at_0 rfl (lv_at hl 1 rfl) ?_
  refine lv_if_lt (tgt := 21) hx hb dX4_at_1 (by decide) (fun c_1 => ?_) (fun c_1 => ?_)
  · refine lv_iconst (v := 0) hx hb dX4_at_21 (by decide) ?_
    exact hret 22 ls _ _ _ () dX4_at_22 hP hD hS (by simp [inB, c_1])
  · refine lv_iload_n hx hb dX4_at_4 rfl (lv_at hl 1 rfl) ?_
    refine lv_aload_n hx hb dX4_at_5 rfl (lv_at hl 0 rfl) ?_
    refine va_get (D := D) (ci := 4) (v := .int (nI n)) (C := RX4) (T := TX4) (N := 3) hx hb hts in_X4 hown hK hP 0 rfl rfl 1 (by decide) (hts _ kX4_21) (fun _ h9 => h9) rfl dX4_at_6 ?_
    refine lv_icmp_ge (tgt := 21) hx hb dX4_at_9 (by decide) (fun c_2 => ?_) (fun c_2 => ?_)
    · refine lv_iconst (v := 0) hx hb dX4_at_21 (by decide) ?_
      exact hret 22 ls _ _ _ () dX4_at_22 hP hD hS (by rw [if_neg]; simp only [inB, decide_eq_true_eq]; exact fun q => Int32.not_lt.mpr c_2 q.2)
    · have hb1 : inB i n = true := decide_eq_true ⟨c_1, Int32.not_le.mp c_2⟩
      obtain ⟨j, hj, hij⟩ := inB_of hb1 (by omega)
      refine lv_aload_n hx hb dX4_at_12 rfl (lv_at hl 0 rfl) ?_
      refine va_get (D := D) (ci := 4) (v := .ref o) (C := RX4) (T := TX4) (N := 3) hx hb hts in_X4 hown hK hP 0 rfl rfl 0 (by decide) (hts _ kX4_15) (fun _ h9 => h9) rfl dX4_at_13 ?_
      refine lv_iload_n hx hb dX4_at_16 rfl (lv_at hl 1 rfl) ?_
      refine ax_ild hx hb hK hP 1 0 rfl rfl j (hij) (by omega) (by omega) dX4_at_17 ?_
      refine lv_goto (tgt := 22) hx hb dX4_at_18 (by decide) ?_
      exact hret 22 ls _ _ _ () dX4_at_22 hP hD hS (by rw [if_pos hb1, hij, nI_clamp (by omega)])

set_option maxHeartbeats 4000000 in
set_option maxRecDepth 100000 in
/-- an octet more -/
theorem c_Row_put (l : Launch) (D : va_G) (cI cB cJ cR : ClassId) (h : Nat) (o : Nat) (N : Nat) (n : Nat) (f : Nat → Int32) (ov : Int32) (L : List Int32) (v : Int32) (hN : N < 2 ^ 31) (hr : rowIs N L n f ov) : CMv l yX4_put cX4_put 2 none ({ frames := 0, cells := 0, slots := 0, locals := 0 }) D (tyA cI cB cJ cR) 0 0 [.ref h, .int v] [(h, .inr (4, [.ref o, .int (nI n), .int ov])), (o, .inl (cI, N, .inl f))] (fun (u9 : Nat × (Nat → Int32) × Int32) => match u9 with | (n2, f2, ov2) => rowIs N (L ++ [v]) n2 f2 ov2) (fun (u9 : Nat × (Nat → Int32) × Int32) => match u9 with | (n2, f2, ov2) => [(h, .inr (4, [.ref o, .int (nI n2), .int ov2])), (o, .inl (cI, N, .inl f2))]) := by
  refine st_v (cc := cX4_put) (maxL := 2) (by decide) (Nat.le_of_ble_eq_true rfl) ?_
  intro p0 e0 s0 m0 below meth c0 A0 Q0 hBD hret hP hD hS ls hl
  obtain ⟨hx, hb, hml, hown, hts, hnm, hK, hNw, hMk, hA⟩ := hBD
  have hl : lv_has ls 2 [(0, .ref h), (1, .int v)] := hl
  have hP : va_P D vwCl [(h, .inr (4, [.ref o, .int (nI n), .int ov])), (o, .inl (cI, N, .inl f))] s0.heap := hP
  have hD : va_D A0 [(h, .inr (4, [.ref o, .int (nI n), .int ov])), (o, .inl (cI, N, .inl f))] := hD
  have hn := rowIs_le hr
  refine lv_aload_n hx hb dX4_put_0 rfl (lv_at hl 0 rfl) ?_
  refine va_get (D := D) (ci := 4) (v := .int (nI n)) (C := RX4) (T := TX4) (N := 3) hx hb hts in_X4 hown hK hP 0 rfl rfl 1 (by decide) (hts _ kX4_21) (fun _ h9 => h9) rfl dX4_put_1 ?_
  refine lv_aload_n hx hb dX4_put_4 rfl (lv_at hl 0 rfl) ?_
  refine va_get (D := D) (ci := 4) (v := .ref o) (C := RX4) (T := TX4) (N := 3) hx hb hts in_X4 hown hK hP 0 rfl rfl 0 (by decide) (hts _ kX4_15) (fun _ h9 => h9) rfl dX4_put_5 ?_
  refine va_alen hx hb hK hP 1 0 rfl rfl (v := nI N) rfl dX4_put_8 ?_
  refine lv_icmp_ge (tgt := 35) hx hb dX4_put_9 (by decide) (fun c_1 => ?_) (fun c_1 => ?_)
  · refine lv_aload_n hx hb dX4_put_35 rfl (lv_at hl 0 rfl) ?_
    refine lv_iconst (v := 1) hx hb dX4_put_36 (by decide) ?_
    refine va_put (D := D) (ci := 4) (v := .int 1) (ty := .boolean) (C := RX4) (T := TX4) (N := 3) hx hb hts in_X4 tyX4 tyX4_ok nmX4 hown hK hP hD hS 0 rfl rfl 2 (by decide) (hts _ kX4_25) (fun _ h9 => h9) rfl (by decide +kernel) rfl rfl (Nat.le_of_ble_eq_true rfl) dX4_put_37 (fun H locs hP hD hS => ?_)
    have hP : va_P D vwCl [(h, .inr (4, [.ref o, .int (nI n), .int 1])), (o, .inl (cI, N, .inl f))] H := hP
    have hD : va_D A0 [(h, .inr (4, [.ref o, .int (nI n), .int 1])), (o, .inl (cI, N, .inl f))] := hD
    exact hret 40 ls _ _ (n, f, 1) dX4_put_40 hP hD hS (rowIs_put_ge hr (fun q => Int32.not_lt.mpr c_1 (nI_lt q hN)))
  · have hlt : n < N := Nat.not_le.mp (fun q => c_1 (nI_le q (by omega)))
    refine lv_aload_n hx hb dX4_put_12 rfl (lv_at hl 0 rfl) ?_
    refine va_get (D := D) (ci := 4) (v := .ref o) (C := RX4) (T := TX4) (N := 3) hx hb hts in_X4 hown hK hP 0 rfl rfl 0 (by decide) (hts _ kX4_15) (fun _ h9 => h9) rfl dX4_put_13 ?_
    refine lv_aload_n hx hb dX4_put_16 rfl (lv_at hl 0 rfl) ?_
    refine va_get (D := D) (ci := 4) (v := .int (nI n)) (C := RX4) (T := TX4) (N := 3) hx hb hts in_X4 hown hK hP 0 rfl rfl 1 (by decide) (hts _ kX4_21) (fun _ h9 => h9) rfl dX4_put_17 ?_
    refine lv_iload_n hx hb dX4_put_20 rfl (lv_at hl 1 rfl) ?_
    refine ax_ist hx hb hK hP hD hS 1 0 rfl rfl n (rfl) (hlt) (by omega) dX4_put_21 (fun H locs hP hD hS => ?_)
    have hP : va_P D vwCl [(h, .inr (4, [.ref o, .int (nI n), .int ov])), (o, .inl (cI, N, .inl (upd f n v)))] H := hP
    have hD : va_D A0 [(h, .inr (4, [.ref o, .int (nI n), .int ov])), (o, .inl (cI, N, .inl (upd f n v)))] := hD
    refine lv_aload_n hx hb dX4_put_22 rfl (lv_at hl 0 rfl) ?_
    refine lv_dup hx hb dX4_put_23 rfl ?_
    refine va_get (D := D) (ci := 4) (v := .int (nI n)) (C := RX4) (T := TX4) (N := 3) hx hb hts in_X4 hown hK hP 0 rfl rfl 1 (by decide) (hts _ kX4_21) (fun _ h9 => h9) rfl dX4_put_24 ?_
    refine lv_iconst (v := 1) hx hb dX4_put_27 (by decide) ?_
    refine lv_iadd hx hb dX4_put_28 ?_
    refine ri (y := nI (n + 1)) (nI_add n 1) ?_
    refine va_put (D := D) (ci := 4) (v := .int (nI (n + 1))) (ty := .int) (C := RX4) (T := TX4) (N := 3) hx hb hts in_X4 tyX4 tyX4_ok nmX4 hown hK hP hD hS 0 rfl rfl 1 (by decide) (hts _ kX4_21) (fun _ h9 => h9) rfl (by decide +kernel) rfl rfl (Nat.le_of_ble_eq_true rfl) dX4_put_29 (fun H locs hP hD hS => ?_)
    have hP : va_P D vwCl [(h, .inr (4, [.ref o, .int (nI (n + 1)), .int ov])), (o, .inl (cI, N, .inl (upd f n v)))] H := hP
    have hD : va_D A0 [(h, .inr (4, [.ref o, .int (nI (n + 1)), .int ov])), (o, .inl (cI, N, .inl (upd f n v)))] := hD
    refine lv_goto (tgt := 40) hx hb dX4_put_32 (by decide) ?_
    exact hret 40 ls _ _ (n + 1, upd f n v, ov) dX4_put_40 hP hD hS (rowIs_put_lt hr hlt)
