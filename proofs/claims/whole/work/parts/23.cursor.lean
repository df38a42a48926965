/-! CURSORS: a part of a row that is taken octet by octet; NUMBERS as they are read: 0 there is one, 1 octets lack, 2 it is none -/
def rdN (b : Nat → Nat) (e : Nat) : Nat → Nat → Nat → Nat × Nat × Nat
  | 0, a, v => (2, v, a)
  | k + 1, a, v => if a < e then (if b a < 128 then (if v * 128 + b a % 128 ≤ 2147483647 then (0, v * 128 + b a % 128, a + 1) else (2, v * 128 + b a % 128, a + 1)) else rdN b e k (a + 1) (v * 128 + b a % 128)) else (1, 0, a)
def rdI (t : Nat × Nat × Nat) : Int32 := if t.1 = 0 then nI t.2.1 else if t.1 = 1 then -1 else -2
theorem rdN_at {b : Nat → Nat} {e : Nat} : ∀ (k a v : Nat), a ≤ (rdN b e k a v).2.2 ∧ (rdN b e k a v).2.2 ≤ a + k ∧ (a ≤ e → (rdN b e k a v).2.2 ≤ e)
  | 0, a, v => ⟨Nat.le_refl _, Nat.le_refl _, id⟩
  | k + 1, a, v => by
    have ih := rdN_at (b := b) (e := e) k (a + 1) (v * 128 + b a % 128)
    unfold rdN
    split
    · split
      · split <;> exact ⟨by dsimp only; omega, by dsimp only; omega, fun _ => by dsimp only; omega⟩
      · refine ⟨by omega, by omega, fun _ => ih.2.2 (by omega)⟩
    · exact ⟨Nat.le_refl _, by simp, id⟩
theorem rdN_ok {b : Nat → Nat} {e : Nat} : ∀ (k a v : Nat), (rdN b e k a v).1 = 0 → (rdN b e k a v).2.1 ≤ 2147483647
  | 0, a, v => fun h => absurd h (by simp [rdN])
  | k + 1, a, v => by
    have ih := rdN_ok (b := b) (e := e) k (a + 1) (v * 128 + b a % 128)
    unfold rdN
    split
    · split
      · split
        · intro _; assumption
        · intro h; simp at h
      · exact ih
    · intro h; simp at h
theorem rdN_le2 {b : Nat → Nat} {e : Nat} : ∀ (k a v : Nat), (rdN b e k a v).1 ≤ 2
  | 0, a, v => Nat.le_refl _
  | k + 1, a, v => by
    have ih := rdN_le2 (b := b) (e := e) k (a + 1) (v * 128 + b a % 128)
    unfold rdN
    split
    · split
      · split <;> simp
      · exact ih
    · simp
theorem rd_and : ∀ x, x < 256 → nI x &&& 127 = nI (x % 128) := by decide +kernel
set_option maxHeartbeats 4000000 in
set_option maxRecDepth 100000 in
theorem c_Cursor_left (l : Launch) (D : va_G) (cI cB cJ cR : ClassId) (h : Nat) (o : Nat) (a : Int32) (z : Int32)  : CMi l yX1_left cX1_left 1 (some .int) ({ frames := 0, cells := 0, slots := 0, locals := 0 }) D (tyA cI cB cJ cR) 0 0 [.ref h] [(h, .inr (1, [.ref o, .int a, .int z]))] (fun (r : Int32) (_ : Unit) => r = z - a) (fun (_ : Unit) => [(h, .inr (1, [.ref o, .int a, .int z]))]) := by
  refine st_i (cc := cX1_left) (maxL := 1) (by decide) (Nat.le_of_ble_eq_true rfl) ?_
  intro p0 e0 s0 m0 below meth c0 A0 Q0 hBD hret hP hD hS ls hl
  obtain ⟨hx, hb, hml, hown, hts, hnm, hK, hNw, hMk, hA⟩ := hBD
  have hl : lv_has ls 1 [(0, .ref h)] := hl
  have hP : va_P D vwCl [(h, .inr (1, [.ref o, .int a, .int z]))] s0.heap := hP
  have hD : va_D A0 [(h, .inr (1, [.ref o, .int a, .int z]))] := hD
  refine lv_aload_n hx hb dX1_left_0 rfl (lv_at hl 0 rfl) ?_
  refine va_get (D := D) (ci := 1) (v := .int z) (C := RX1) (T := TX1) (N := 3) hx hb hts in_X1 hown hK hP 0 rfl rfl 2 (by decide) (hts _ kX1_34) (fun _ h9 => h9) rfl dX1_left_1 ?_
  refine lv_aload_n hx hb dX1_left_4 rfl (lv_at hl 0 rfl) ?_
  refine va_get (D := D) (ci := 1) (v := .int a) (C := RX1) (T := TX1) (N := 3) hx hb hts in_X1 hown hK hP 0 rfl rfl 1 (by decide) (hts _ kX1_24) (fun _ h9 => h9) rfl dX1_left_5 ?_
  refine lv_isub hx hb dX1_left_8 ?_
  exact hret 9 ls _ _ _ () dX1_left_9 hP hD hS (rfl)

set_option maxHeartbeats 4000000 in
set_option maxRecDepth 100000 in
theorem c_Cursor_nextOctet (l : Launch) (D : va_G) (cI cB cJ cR : ClassId) (h : Nat) (o : Nat) (N : Nat) (a : Nat) (z : Nat) (f : Nat → Int32) (hN : N < 2 ^ 31) (hz : z ≤ N) (ha : a < 2 ^ 30) : CMi l yX1_nextOctet cX1_nextOctet 2 (some .int) ({ frames := 0, cells := 0, slots := 0, locals := 0 }) D (tyA cI cB cJ cR) 0 0 [.ref h] [(h, .inr (1, [.ref o, .int (nI a), .int (nI z)])), (o, .inl (cI, N, .inl f))] (fun (r : Int32) (a2 : Nat) => (r = if a < z then f a else -1) ∧ a2 = if a < z then a + 1 else a) (fun (a2 : Nat) => [(h, .inr (1, [.ref o, .int (nI a2), .int (nI z)])), (o, .inl (cI, N, .inl f))]) := by
  refine st_i (cc := cX1_nextOctet) (maxL := 2) (by decide) (Nat.le_of_ble_eq_true rfl) ?_
  intro p0 e0 s0 m0 below meth c0 A0 Q0 hBD hret hP hD hS ls hl
  obtain ⟨hx, hb, hml, hown, hts, hnm, hK, hNw, hMk, hA⟩ := hBD
  have hl : lv_has ls 2 [(0, .ref h)] := hl
  have hP : va_P D vwCl [(h, .inr (1, [.ref o, .int (nI a), .int (nI z)])), (o, .inl (cI, N, .inl f))] s0.heap := hP
  have hD : va_D A0 [(h, .inr (1, [.ref o, .int (nI a), .int (nI z)])), (o, .inl (cI, N, .inl f))] := hD
  refine lv_aload_n hx hb dX1_nextOctet_0 rfl (lv_at hl 0 rfl) ?_
  refine va_get (D := D) (ci := 1) (v := .int (nI a)) (C := RX1) (T := TX1) (N := 3) hx hb hts in_X1 hown hK hP 0 rfl rfl 1 (by decide) (hts _ kX1_24) (fun _ h9 => h9) rfl dX1_nextOctet_1 ?_
  refine lv_aload_n hx hb dX1_nextOctet_4 rfl (lv_at hl 0 rfl) ?_
  refine va_get (D := D) (ci := 1) (v := .int (nI z)) (C := RX1) (T := TX1) (N := 3) hx hb hts in_X1 hown hK hP 0 rfl rfl 2 (by decide) (hts _ kX1_34) (fun _ h9 => h9) rfl dX1_nextOctet_5 ?_
  refine lv_icmp_lt (tgt := 13) hx hb dX1_nextOctet_8 (by decide) (fun c_1 => ?_) (fun c_1 => ?_)
  · have hlt : a < z := (nI_ltI (by omega) (by omega)).mp c_1
    refine lv_aload_n hx hb dX1_nextOctet_13 rfl (lv_at hl 0 rfl) ?_
    refine va_get (D := D) (ci := 1) (v := .ref o) (C := RX1) (T := TX1) (N := 3) hx hb hts in_X1 hown hK hP 0 rfl rfl 0 (by decide) (hts _ kX1_9) (fun _ h9 => h9) rfl dX1_nextOctet_14 ?_
    refine lv_aload_n hx hb dX1_nextOctet_17 rfl (lv_at hl 0 rfl) ?_
    refine va_get (D := D) (ci := 1) (v := .int (nI a)) (C := RX1) (T := TX1) (N := 3) hx hb hts in_X1 hown hK hP 0 rfl rfl 1 (by decide) (hts _ kX1_24) (fun _ h9 => h9) rfl dX1_nextOctet_18 ?_
    refine ax_ild hx hb hK hP 1 0 rfl rfl a (rfl) (by omega) (by omega) dX1_nextOctet_21 ?_
    refine lv_istore_n (lv' := [(1, .int (f a)), (0, .ref h)]) hx hb dX1_nextOctet_22 rfl hl (by decide) rfl (fun ls hl => ?_)
    refine lv_aload_n hx hb dX1_nextOctet_23 rfl (lv_at hl 1 rfl) ?_
    refine lv_dup hx hb dX1_nextOctet_24 rfl ?_
    refine va_get (D := D) (ci := 1) (v := .int (nI a)) (C := RX1) (T := TX1) (N := 3) hx hb hts in_X1 hown hK hP 0 rfl rfl 1 (by decide) (hts _ kX1_24) (fun _ h9 => h9) rfl dX1_nextOctet_25 ?_
    refine lv_iconst (v := 1) hx hb dX1_nextOctet_28 (by decide) ?_
    refine lv_iadd hx hb dX1_nextOctet_29 ?_
    refine ri (y := nI (a + 1)) (nI_add a 1) ?_
    refine va_put (D := D) (ci := 1) (v := .int (nI (a + 1))) (ty := .int) (C := RX1) (T := TX1) (N := 3) hx hb hts in_X1 tyX1 tyX1_ok nmX1 hown hK hP hD hS 0 rfl rfl 1 (by decide) (hts _ kX1_24) (fun _ h9 => h9) rfl (by decide +kernel) rfl rfl (Nat.le_of_ble_eq_true rfl) dX1_nextOctet_30 (fun H locs hP hD hS => ?_)
    have hP : va_P D vwCl [(h, .inr (1, [.ref o, .int (nI (a + 1)), .int (nI z)])), (o, .inl (cI, N, .inl f))] H := hP
    have hD : va_D A0 [(h, .inr (1, [.ref o, .int (nI (a + 1)), .int (nI z)])), (o, .inl (cI, N, .inl f))] := hD
    refine lv_iload_n hx hb dX1_nextOctet_33 rfl (lv_at hl 0 rfl) ?_
    exact hret 34 ls _ _ _ (a + 1) dX1_nextOctet_34 hP hD hS (⟨by rw [if_pos hlt], by rw [if_pos hlt]⟩)
  · have hlt : ¬ a < z := fun q => c_1 (nI_lt q (by omega))
    refine lv_iconst (v := -1) hx hb dX1_nextOctet_11 (by decide) ?_
    exact hret 12 ls _ _ _ (a) dX1_nextOctet_12 hP hD hS (⟨by rw [if_neg hlt], by rw [if_neg hlt]⟩)

set_option maxHeartbeats 4000000 in
set_option maxRecDepth 100000 in
theorem c_Cursor_nextNumber (l : Launch) (D : va_G) (cI cB cJ cR : ClassId) (h : Nat) (o : Nat) (N : Nat) (a : Nat) (z : Nat) (f : Nat → Int32) (b : Nat → Nat) (hN : N < 2 ^ 31) (hz : z ≤ N) (ha : a < 2 ^ 29) (hbf : ∀ j, j < z → f j = nI (b j) ∧ b j < 256) : CMi l yX1_nextNumber cX1_nextNumber 5 (some .int) ({ frames := 1, cells := 0, slots := 0, locals := 21 }) D (tyA cI cB cJ cR) 0 0 [.ref h] [(h, .inr (1, [.ref o, .int (nI a), .int (nI z)])), (o, .inl (cI, N, .inl f))] (fun (r : Int32) (a2 : Nat) => r = rdI (rdN b z 5 a 0) ∧ a2 = (rdN b z 5 a 0).2.2) (fun (a2 : Nat) => [(h, .inr (1, [.ref o, .int (nI a2), .int (nI z)])), (o, .inl (cI, N, .inl f))]) := by
  refine st_i (cc := cX1_nextNumber) (maxL := 5) (by decide) (Nat.le_of_ble_eq_true rfl) ?_
  intro p0 e0 s0 m0 below meth c0 A0 Q0 hBD hret hP hD hS ls hl
  obtain ⟨hx, hb, hml, hown, hts, hnm, hK, hNw, hMk, hA⟩ := hBD
  have hl : lv_has ls 5 [(0, .ref h)] := hl
  have hP : va_P D vwCl [(h, .inr (1, [.ref o, .int (nI a), .int (nI z)])), (o, .inl (cI, N, .inl f))] s0.heap := hP
  have hD : va_D A0 [(h, .inr (1, [.ref o, .int (nI a), .int (nI z)])), (o, .inl (cI, N, .inl f))] := hD
  refine lv_lconst (v := 0) hx hb dX1_nextNumber_0 (by decide) ?_
  refine rl (y := lN 0) (rfl) ?_
  refine lv_lstore_n (lv' := [(1, .long (lN 0)), (0, .ref h)]) hx hb dX1_nextNumber_1 rfl hl (by decide) rfl (fun ls hl => ?_)
  refine lv_iconst (v := 0) hx hb dX1_nextNumber_2 (by decide) ?_
  refine lv_istore_n (lv' := [(3, .int 0), (1, .long (lN 0)), (0, .ref h)]) hx hb dX1_nextNumber_3 rfl hl (by decide) rfl (fun ls hl => ?_)
  have loop : ∀ (k9 : Nat) (i : Nat) (a1 : Nat) (v : Nat) (H : Heap) (locs : List Loc) (ls : Array Slot), 5 - i < k9 → (i ≤ 5) → (a1 ≤ a + i) → (a1 < 2 ^ 30) → (rdN b z (5 - i) a1 v = rdN b z 5 a 0) → (v < 128 ^ i) → va_P D vwCl [(h, .inr (1, [.ref o, .int (nI a1), .int (nI z)])), (o, .inl (cI, N, .inl f))] H → va_D A0 [(h, .inr (1, [.ref o, .int (nI a1), .int (nI z)])), (o, .inl (cI, N, .inl f))] → va_S A0 s0.heap H locs → lv_has ls 5 [(0, .ref h), (1, .long (lN v)), (3, .int (nI i))] → W p0 l e0 ({ frames := 1, cells := 0, slots := 0, locals := 21 }) s0 m0 ([.ref h] : List Value).toArray below meth c0 H locs 0 0 Q0 (F0 m0 4 ls []) := by
    intro k9
    induction k9 with
    | zero => intro i a1 v H locs ls hk9; exact absurd hk9 (Nat.not_lt_zero _)
    | succ k9 ih =>
      intro i a1 v H locs ls hk9 hi ha1 ha2 hrd hv hP hD hS hl
      refine lv_iload_n hx hb dX1_nextNumber_4 rfl (lv_at hl 2 rfl) ?_
      refine lv_iconst (v := 5) hx hb dX1_nextNumber_5 (by decide) ?_
      refine lv_icmp_ge (tgt := 65) hx hb dX1_nextNumber_6 (by decide) (fun c_1 => ?_) (fun c_1 => ?_)
      · have hi5 : i = 5 := by have := (nI_leI (a := 5) (b := i) (by decide) (by omega)).mp c_1; omega
        subst hi5
        refine lv_bipush (v := -2) hx hb dX1_nextNumber_65 (by decide) ?_
        exact hret 67 ls _ _ _ (a1) dX1_nextNumber_67 hP hD hS (by rw [← hrd]; exact ⟨rfl, rfl⟩)
      · have hi5 : i < 5 := Nat.not_le.mp (fun q => c_1 (nI_le q (by omega)))
        have hun : rdN b z (5 - i) a1 v = rdN b z 5 a 0 := hrd
        rw [show 5 - i = (5 - (i + 1)) + 1 by omega, rdN] at hun
        refine lv_aload_n hx hb dX1_nextNumber_9 rfl (lv_at hl 0 rfl) ?_
        refine jn_i (wr := []) hA hP hD hS [0, 1] [] rfl rfl (by decide) (by decide) (rn_V (As := []) (rest := []) ⟨hx, hb, hml, hown, hts⟩ (cvV 0 hts zc_yX1_nextOctet zi_X1 zm_yX1_nextOctet zv_yX1_nextOctet kX1_37 (by decide +kernel) rfl rfl ⟨Nat.le_of_ble_eq_true rfl, Nat.le_of_ble_eq_true rfl⟩) (c_Cursor_nextOctet l D cI cB cJ cR h o N a1 z f (hN) (hz) (by omega) H.size) hK hNw hMk hA hP hD hS [0, 1] rfl rfl (by decide) 0 rfl rfl rfl rfl hl.1 rfl (Nat.le_of_ble_eq_true rfl) dX1_nextNumber_10 ⟨Nat.le_of_ble_eq_true rfl, Nat.le_of_ble_eq_true rfl⟩) (fun r_3 u9 H locs w_4 hP hD hS => ?_)
        obtain ⟨a2_2, rfl⟩ : ∃ z9, z9 = u9 := ⟨_, rfl⟩
        try dsimp only at w_4
        have hP : va_P D vwCl [(h, .inr (1, [.ref o, .int (nI a2_2), .int (nI z)])), (o, .inl (cI, N, .inl f))] H := hP
        have hD : va_D A0 [(h, .inr (1, [.ref o, .int (nI a2_2), .int (nI z)])), (o, .inl (cI, N, .inl f))] := hD
        obtain ⟨w_4, ha2_2⟩ := w_4
        refine lv_istore (lv' := [(4, .int r_3), (0, .ref h), (1, .long (lN v)), (3, .int (nI i))]) hx hb dX1_nextNumber_13 hl (by decide) rfl (fun ls hl => ?_)
        refine lv_iload hx hb dX1_nextNumber_15 (lv_at hl 0 rfl) ?_
        refine lv_if_ge (tgt := 22) hx hb dX1_nextNumber_17 (by decide) (fun c_5 => ?_) (fun c_5 => ?_)
        · have hlt : a1 < z := Decidable.byContradiction (fun q => by rw [if_neg q] at w_4; rw [w_4] at c_5; exact absurd c_5 (by decide))
          rw [if_pos hlt] at w_4 ha2_2 hun
          obtain ⟨hf, hb8⟩ := hbf a1 (by omega)
          rw [hf] at w_4
          subst w_4
          subst ha2_2
          refine lv_lload_n hx hb dX1_nextNumber_22 rfl (lv_at hl 2 rfl) ?_
          refine lv_ldc2 hx hb hown (hts _ kX1_41) dX1_nextNumber_23 ?_
          refine lv_lmul hx hb dX1_nextNumber_26 ?_
          refine rl (y := lN (v * 128)) (lN_mul v 128) ?_
          refine lv_iload hx hb dX1_nextNumber_27 (lv_at hl 0 rfl) ?_
          refine lv_bipush (v := 127) hx hb dX1_nextNumber_29 (by decide) ?_
          refine lv_iand hx hb dX1_nextNumber_31 ?_
          refine ri (y := nI (b a1 % 128)) (rd_and _ hb8) ?_
          refine lv_i2l hx hb dX1_nextNumber_32 (v := (nI (b a1 % 128)).toInt64) rfl ?_
          refine rl (y := lN (b a1 % 128)) (nI_l (by omega)) ?_
          refine lv_ladd hx hb dX1_nextNumber_33 ?_
          refine rl (y := lN (v * 128 + b a1 % 128)) (lN_add _ _) ?_
          refine lv_lstore_n (lv' := [(1, .long (lN (v * 128 + b a1 % 128))), (4, .int (nI (b a1))), (0, .ref h), (3, .int (nI i))]) hx hb dX1_nextNumber_34 rfl hl (by decide) rfl (fun ls hl => ?_)
          refine lv_iload hx hb dX1_nextNumber_35 (lv_at hl 1 rfl) ?_
          refine lv_sipush (v := 128) hx hb dX1_nextNumber_37 (by decide) ?_
          refine lv_icmp_ge (tgt := 59) hx hb dX1_nextNumber_40 (by decide) (fun c_6 => ?_) (fun c_6 => ?_)
          · have hb1 : ¬ b a1 < 128 := fun q => by have := (nI_leI (by decide) (by omega)).mp (show nI 128 ≤ nI (b a1) from c_6); omega
            rw [if_neg hb1] at hun
            refine lv_iinc (v := nI (i + 1)) (lv' := [(3, .int (nI (i + 1))), (1, .long (lN (v * 128 + b a1 % 128))), (4, .int (nI (b a1))), (0, .ref h)]) hx hb dX1_nextNumber_59 hl (k := 3) rfl (nI_add i 1) (by decide) rfl (fun ls hl => ?_)
            refine lv_goto (tgt := 4) hx hb dX1_nextNumber_62 (by decide) ?_
            exact ih (i + 1) (a1 + 1) (v * 128 + b a1 % 128) _ _ ls (by omega) (by omega) (by omega) (by omega) (hun) (by have := Nat.mod_lt (b a1) (show 0 < 128 by decide); calc v * 128 + b a1 % 128 < (v + 1) * 128 := by omega
              _ ≤ 128 ^ i * 128 := Nat.mul_le_mul_right _ hv
              _ = 128 ^ (i + 1) := (Nat.pow_succ ..).symm) hP hD hS (lv_sub hl [3, 1, 0] rfl)
          · have hb1 : b a1 < 128 := Nat.not_le.mp (fun q => c_6 (nI_le q (by omega)))
            have hvb : v * 128 + b a1 % 128 < 2 ^ 40 := by have h1 : 128 ^ i ≤ 128 ^ 4 := Nat.pow_le_pow_right (by decide) (by omega); have := Nat.mod_lt (b a1) (show 0 < 128 by decide); omega
            rw [if_pos hb1] at hun
            refine lv_lload_n hx hb dX1_nextNumber_43 rfl (lv_at hl 0 rfl) ?_
            refine lv_ldc2 hx hb hown (hts _ kX1_43) dX1_nextNumber_44 ?_
            refine W.lcmp hx hb dX1_nextNumber_47 ?_
            refine lv_if_le (tgt := 56) hx hb dX1_nextNumber_48 (by decide) (fun c_7 => ?_) (fun c_7 => ?_)
            · have hle : v * 128 + b a1 % 128 ≤ 2147483647 := (pk_lLE (by omega) (by decide)).mp ((lg_cmp_le _ _).mp c_7)
              rw [if_pos hle] at hun
              refine lv_lload_n hx hb dX1_nextNumber_56 rfl (lv_at hl 0 rfl) ?_
              refine lv_l2i hx hb dX1_nextNumber_57 (v := (lN (v * 128 + b a1 % 128)).toInt32) rfl ?_
              refine ri (y := nI (v * 128 + b a1 % 128)) (lN_i _) ?_
              exact hret 58 ls _ _ _ (a1 + 1) dX1_nextNumber_58 hP hD hS (by rw [← hun]; exact ⟨rfl, rfl⟩)
            · have hle : ¬ v * 128 + b a1 % 128 ≤ 2147483647 := fun q => c_7 ((lg_cmp_le _ _).mpr ((pk_lLE (by omega) (by decide)).mpr q))
              rw [if_neg hle] at hun
              refine lv_bipush (v := -2) hx hb dX1_nextNumber_51 (by decide) ?_
              refine lv_goto (tgt := 58) hx hb dX1_nextNumber_53 (by decide) ?_
              exact hret 58 ls _ _ _ (a1 + 1) dX1_nextNumber_58 hP hD hS (by rw [← hun]; exact ⟨rfl, rfl⟩)
        · have hlt : ¬ a1 < z := fun q => by rw [if_pos q, (hbf a1 q).1] at w_4; exact c_5 (by rw [w_4]; exact nI_pos' (by have := (hbf a1 q).2; omega))
          rw [if_neg hlt] at ha2_2 hun
          have hz9 := ha2_2.symm
          subst hz9
          refine lv_iconst (v := -1) hx hb dX1_nextNumber_20 (by decide) ?_
          exact hret 21 ls _ _ _ (a1) dX1_nextNumber_21 hP hD hS (by rw [← hun]; exact ⟨rfl, rfl⟩)
  exact loop 6 0 a 0 _ _ ls (by omega) (by omega) (by omega) (by omega) (rfl) (by decide) hP hD hS (lv_sub hl [2, 1, 0] rfl)
