/-! WRITING, by the reference: lists of octets in arrays of bytes -/
theorem lsr_s : ∀ n, n < 6 → (((7 * nI n : Int32).toInt64 &&& 63 : Int64).toBitVec.smod 64).toNat = 7 * n := by decide +kernel
theorem lsr7 {a n : Nat} (ha : a < 2 ^ 62) (hn : n < 6) : lN a >>> ((7 * nI n).toInt64 &&& 63) = lN (a / 128 ^ n) := by
  apply Int64.toInt_inj.mp
  have h2 : a / 128 ^ n ≤ a := Nat.div_le_self _ _
  have e : (lN a >>> ((7 * nI n).toInt64 &&& 63)).toInt = (lN a).toInt >>> (7 * n) := by
    show ((lN a).toBitVec.sshiftRight (((7 * nI n : Int32).toInt64 &&& 63 : Int64).toBitVec.smod 64).toNat).toInt = _
    rw [lsr_s n hn, BitVec.toInt_sshiftRight]
    rfl
  rw [e, pk_lT (by omega), pk_lT (by omega), Int.shiftRight_eq_div_pow, Nat.pow_mul]
  rfl
theorem nsz_go {a n : Nat} (ha : a < 2 ^ 31) (h1 : 1 ≤ n) (h5 : n ≤ 5) : 0 < a / 128 ^ n ↔ n < nsz a := by
  rcases (show n = 1 ∨ n = 2 ∨ n = 3 ∨ n = 4 ∨ n = 5 by omega) with rfl | rfl | rfl | rfl | rfl
  all_goals (unfold nsz; (repeat' split) <;> omega)
def wL (N : Nat) (f : Nat → Int32) (L : List Int32) : Prop := ∀ j, j < L.length → j < N → f j = (L.getD j 0).toInt8.toInt32
theorem wL_put {N : Nat} {f : Nat → Int32} {L : List Int32} {v : Int32} (h : wL N f L) : wL N (upd f L.length v.toInt8.toInt32) (L ++ [v]) := by
  intro j hj hn
  rw [List.length_append] at hj
  have hj : j < L.length + 1 := hj
  by_cases q : j = L.length
  · subst q; rw [pk_us]; simp
  · rw [pk_un q, h j (by omega) hn]; simp [List.getD, List.getElem?_append_left (show j < L.length by omega)]
theorem wL_full {N : Nat} {f : Nat → Int32} {L : List Int32} {v : Int32} (h : wL N f L) (hn : N ≤ L.length) : wL N f (L ++ [v]) := by
  intro j hj hn2
  rw [h j (by omega) hn2]; simp [List.getD, List.getElem?_append_left (show j < L.length by omega)]
theorem i8_i8 (v : Int32) : v.toInt8.toInt32.toInt8.toInt32 = v.toInt8.toInt32 := by simp
theorem num_o1 {x : Nat} (h : x < 128) : nI x ||| 128 = nI (x + 128) := by rw [Int32.or_comm]; exact num_or x h
theorem num_o0 {x : Nat} : nI x ||| 0 = nI x := Int32.or_zero
set_option maxHeartbeats 4000000 in
set_option maxRecDepth 100000 in
theorem m_numberSize (l : Launch) (D : va_G) (cI cB cJ cR : ClassId) (a : Nat) (ha : a < 2 ^ 31) : CMi l yX9_numberSize cX9_numberSize 3 (some .int) ({ frames := 0, cells := 0, slots := 0, locals := 0 }) D (tyA cI cB cJ cR) 0 0 [.long (lN a)] [] (fun (r : Int32) (_ : Unit) => r = nI (nsz a)) (fun (_ : Unit) => []) := by
  refine st_i (cc := cX9_numberSize) (maxL := 3) (by decide) (Nat.le_of_ble_eq_true rfl) ?_
  intro p0 e0 s0 m0 below meth c0 A0 Q0 hBD hret hP hD hS ls hl
  obtain ⟨hx, hb, hml, hown, hts, hnm, hK, hNw, hMk, hA⟩ := hBD
  have hl : lv_has ls 3 [(0, .long (lN a))] := hl
  have hP : va_P D vwCl [] s0.heap := hP
  have hD : va_D A0 [] := hD
  refine lv_iconst (v := 1) hx hb dX9_numberSize_0 (by decide) ?_
  refine ri (y := nI 1) (rfl) ?_
  refine lv_istore_n (lv' := [(2, .int (nI 1)), (0, .long (lN a))]) hx hb dX9_numberSize_1 rfl hl (by decide) rfl (fun ls hl => ?_)
  have loop : ∀ (k9 : Nat) (n : Nat) (H : Heap) (locs : List Loc) (ls : Array Slot), 5 - n < k9 → (1 ≤ n) → (n ≤ 5) → (n ≤ nsz a) → va_P D vwCl [] H → va_D A0 [] → va_S A0 s0.heap H locs → lv_has ls 3 [(0, .long (lN a)), (2, .int (nI n))] → W p0 l e0 ({ frames := 0, cells := 0, slots := 0, locals := 0 }) s0 m0 ([.long (lN a)] : List Value).toArray below meth c0 H locs 0 0 Q0 (F0 m0 2 ls []) := by
    intro k9
    induction k9 with
    | zero => intro n H locs ls hk9; exact absurd hk9 (Nat.not_lt_zero _)
    | succ k9 ih =>
      intro n H locs ls hk9 hn1 hn5 hns hP hD hS hl
      refine lv_lload_n hx hb dX9_numberSize_2 rfl (lv_at hl 0 rfl) ?_
      refine lv_bipush (v := 7) hx hb dX9_numberSize_3 (by decide) ?_
      refine lv_iload_n hx hb dX9_numberSize_5 rfl (lv_at hl 1 rfl) ?_
      refine lv_imul hx hb dX9_numberSize_6 ?_
      refine lv_lshr hx hb dX9_numberSize_7 (v := (lN a) >>> ((7 * (nI n)).toInt64 &&& 63)) rfl ?_
      refine rl (y := lN (a / 128 ^ n)) (lsr7 (by omega) (by omega)) ?_
      have hq := Nat.div_le_self a (128 ^ n)
      refine lv_lconst (v := 0) hx hb dX9_numberSize_8 (by decide) ?_
      refine W.lcmp hx hb dX9_numberSize_9 ?_
      refine lv_if_le (tgt := 19) hx hb dX9_numberSize_10 (by decide) (fun c_1 => ?_) (fun c_1 => ?_)
      · have hle : ¬ n < nsz a := fun z => by have := (nsz_go ha hn1 hn5).mpr z; have := (pk_lLE (b := 0) (by omega) (by decide)).mp ((lg_cmp_le _ _).mp c_1); omega
        refine lv_iload_n hx hb dX9_numberSize_19 rfl (lv_at hl 1 rfl) ?_
        exact hret 20 ls _ _ _ () dX9_numberSize_20 hP hD hS (by rw [show nsz a = n by omega])
      · have hlt : n < nsz a := (nsz_go ha hn1 hn5).mp (Nat.pos_of_ne_zero (fun z => c_1 ((lg_cmp_le _ _).mpr (by rw [z]; decide))))
        have hl5 := nsz_le a
        refine lv_iinc (v := nI (n + 1)) (lv' := [(2, .int (nI (n + 1))), (0, .long (lN a))]) hx hb dX9_numberSize_13 hl (k := 1) rfl (nI_add n 1) (by decide) rfl (fun ls hl => ?_)
        refine lv_goto (tgt := 2) hx hb dX9_numberSize_16 (by decide) ?_
        exact ih (n + 1) _ _ ls (by omega) (by omega) (by omega) (by omega) hP hD hS (lv_sub hl [1, 0] rfl)
  exact loop _ 1 _ _ ls (Nat.lt_succ_self _) (by decide) (by decide) (nsz_pos a) hP hD hS (lv_sub hl [1, 0] rfl)

set_option maxHeartbeats 4000000 in
set_option maxRecDepth 100000 in
theorem m_put (l : Launch) (D : va_G) (cI cB cJ cR : ClassId) (mm : Nat) (g : Nat → Value) (Mw : Nat) (mw : Nat → Int32) (OL : List Int32) (v : Int32) (g_wrote : g 57 = .int (nI OL.length)) (g_w : g 56 = .ref Mw) (hln : OL.length < 2 ^ 24) (hw : wL 30000 mw OL) : CMv l yX9_put cX9_put 2 none ({ frames := 0, cells := 0, slots := 0, locals := 0 }) D (tyA cI cB cJ cR) 0 0 [.ref mm, .int v] [(mm, .inr (9, fl 78 g)), (Mw, .inl (cB, 30000, .inl mw))] (fun (u9 : (Nat → Value) × (Nat → Int32)) => match u9 with | (g9, w2) => frm [57] g g9 ∧ g9 57 = .int (nI (OL.length + 1)) ∧ wL 30000 w2 (OL ++ [v])) (fun (u9 : (Nat → Value) × (Nat → Int32)) => match u9 with | (g9, w2) => [(mm, .inr (9, fl 78 g9)), (Mw, .inl (cB, 30000, .inl w2))]) := by
  refine st_v (cc := cX9_put) (maxL := 2) (by decide) (Nat.le_of_ble_eq_true rfl) ?_
  intro p0 e0 s0 m0 below meth c0 A0 Q0 hBD hret hP hD hS ls hl
  obtain ⟨hx, hb, hml, hown, hts, hnm, hK, hNw, hMk, hA⟩ := hBD
  have hl : lv_has ls 2 [(0, .ref mm), (1, .int v)] := hl
  have hP : va_P D vwCl [(mm, .inr (9, fl 78 g)), (Mw, .inl (cB, 30000, .inl mw))] s0.heap := hP
  have hD : va_D A0 [(mm, .inr (9, fl 78 g)), (Mw, .inl (cB, 30000, .inl mw))] := hD
  refine lv_aload_n hx hb dX9_put_0 rfl (lv_at hl 0 rfl) ?_
  refine fx_get (D := D) (ci := 9) (v := .int (nI OL.length)) (C := RX9) (T := TX9) (N := 78) hx hb hts in_X9 hown hK hP 0 rfl rfl 57 (by decide) (hts _ kX9_346) (fun _ h9 => h9) (g_wrote) dX9_put_1 ?_
  refine lv_sipush (v := 30000) hx hb dX9_put_4 (by decide) ?_
  refine lv_icmp_ge (tgt := 21) hx hb dX9_put_7 (by decide) (fun c_1 => ?_) (fun c_1 => ?_)
  · have hk : 30000 ≤ OL.length := (nI_leI (a := 30000) (by decide) (by omega)).mp c_1
    refine lv_aload_n hx hb dX9_put_21 rfl (lv_at hl 0 rfl) ?_
    refine lv_dup hx hb dX9_put_22 rfl ?_
    refine fx_get (D := D) (ci := 9) (v := .int (nI OL.length)) (C := RX9) (T := TX9) (N := 78) hx hb hts in_X9 hown hK hP 0 rfl rfl 57 (by decide) (hts _ kX9_346) (fun _ h9 => h9) (g_wrote) dX9_put_23 ?_
    refine lv_iconst (v := 1) hx hb dX9_put_26 (by decide) ?_
    refine lv_iadd hx hb dX9_put_27 ?_
    refine ri (y := nI (OL.length + 1)) (nI_add OL.length 1) ?_
    refine fx_put (D := D) (ci := 9) (v := .int (nI (OL.length + 1))) (ty := .int) (C := RX9) (T := TX9) (N := 78) hx hb hts in_X9 tyX9 tyX9_ok nmX9 hown hK hP hD hS 0 rfl rfl 57 (by decide) (hts _ kX9_346) (fun _ h9 => h9) rfl (by decide +kernel) rfl rfl dX9_put_28 (fun H locs hP hD hS => ?_)
    have hP : va_P D vwCl [(mm, .inr (9, fl 78 (va_up g 57 (.int (nI (OL.length + 1)))))), (Mw, .inl (cB, 30000, .inl mw))] H := hP
    have hD : va_D A0 [(mm, .inr (9, fl 78 (va_up g 57 (.int (nI (OL.length + 1)))))), (Mw, .inl (cB, 30000, .inl mw))] := hD
    exact hret 31 ls _ _ ((va_up g 57 (.int (nI (OL.length + 1)))), mw) dX9_put_31 hP hD hS (⟨(frm_up frm_refl (by decide)), rfl, wL_full hw hk⟩)
  · have hk : OL.length < 30000 := Nat.not_le.mp (fun q => c_1 (nI_le (a := 30000) q (by omega)))
    refine lv_aload_n hx hb dX9_put_10 rfl (lv_at hl 0 rfl) ?_
    refine fx_get (D := D) (ci := 9) (v := .ref Mw) (C := RX9) (T := TX9) (N := 78) hx hb hts in_X9 hown hK hP 0 rfl rfl 56 (by decide) (hts _ kX9_88) (fun _ h9 => h9) (g_w) dX9_put_11 ?_
    refine lv_aload_n hx hb dX9_put_14 rfl (lv_at hl 0 rfl) ?_
    refine fx_get (D := D) (ci := 9) (v := .int (nI OL.length)) (C := RX9) (T := TX9) (N := 78) hx hb hts in_X9 hown hK hP 0 rfl rfl 57 (by decide) (hts _ kX9_346) (fun _ h9 => h9) (g_wrote) dX9_put_15 ?_
    refine lv_iload_n hx hb dX9_put_18 rfl (lv_at hl 1 rfl) ?_
    refine lv_i2b hx hb dX9_put_19 (v := v.toInt8.toInt32) rfl ?_
    refine ax_bst hx hb hK hP hD hS 1 1 rfl rfl OL.length (rfl) (hk) (by omega) (z := v.toInt8.toInt32) (i8_i8 v) dX9_put_20 (fun H locs hP hD hS => ?_)
    have hP : va_P D vwCl [(mm, .inr (9, fl 78 g)), (Mw, .inl (cB, 30000, .inl (upd mw OL.length v.toInt8.toInt32)))] H := hP
    have hD : va_D A0 [(mm, .inr (9, fl 78 g)), (Mw, .inl (cB, 30000, .inl (upd mw OL.length v.toInt8.toInt32)))] := hD
    refine lv_aload_n hx hb dX9_put_21 rfl (lv_at hl 0 rfl) ?_
    refine lv_dup hx hb dX9_put_22 rfl ?_
    refine fx_get (D := D) (ci := 9) (v := .int (nI OL.length)) (C := RX9) (T := TX9) (N := 78) hx hb hts in_X9 hown hK hP 0 rfl rfl 57 (by decide) (hts _ kX9_346) (fun _ h9 => h9) (g_wrote) dX9_put_23 ?_
    refine lv_iconst (v := 1) hx hb dX9_put_26 (by decide) ?_
    refine lv_iadd hx hb dX9_put_27 ?_
    refine ri (y := nI (OL.length + 1)) (nI_add OL.length 1) ?_
    refine fx_put (D := D) (ci := 9) (v := .int (nI (OL.length + 1))) (ty := .int) (C := RX9) (T := TX9) (N := 78) hx hb hts in_X9 tyX9 tyX9_ok nmX9 hown hK hP hD hS 0 rfl rfl 57 (by decide) (hts _ kX9_346) (fun _ h9 => h9) rfl (by decide +kernel) rfl rfl dX9_put_28 (fun H locs hP hD hS => ?_)
    have hP : va_P D vwCl [(mm, .inr (9, fl 78 (va_up g 57 (.int (nI (OL.length + 1)))))), (Mw, .inl (cB, 30000, .inl (upd mw OL.length v.toInt8.toInt32)))] H := hP
    have hD : va_D A0 [(mm, .inr (9, fl 78 (va_up g 57 (.int (nI (OL.length + 1)))))), (Mw, .inl (cB, 30000, .inl (upd mw OL.length v.toInt8.toInt32)))] := hD
    exact hret 31 ls _ _ ((va_up g 57 (.int (nI (OL.length + 1)))), upd mw OL.length v.toInt8.toInt32) dX9_put_31 hP hD hS (⟨(frm_up frm_refl (by decide)), rfl, wL_put hw⟩)

set_option maxHeartbeats 4000000 in
set_option maxRecDepth 100000 in
theorem m_putNumber (l : Launch) (D : va_G) (cI cB cJ cR : ClassId) (mm : Nat) (g : Nat → Value) (Mw : Nat) (mw : Nat → Int32) (OL : List Int32) (a : Nat) (g_wrote : g 57 = .int (nI OL.length)) (g_w : g 56 = .ref Mw) (hln : OL.length < 2 ^ 23) (hw : wL 30000 mw OL) (ha : a < 2 ^ 31) : CMv l yX9_putNumber cX9_putNumber 4 none ({ frames := 1, cells := 0, slots := 0, locals := 22 }) D (tyA cI cB cJ cR) 0 0 [.ref mm, .long (lN a)] [(mm, .inr (9, fl 78 g)), (Mw, .inl (cB, 30000, .inl mw))] (fun (u9 : (Nat → Value) × (Nat → Int32)) => match u9 with | (g9, w2) => frm [57] g g9 ∧ g9 57 = .int (nI (OL ++ numL a).length) ∧ wL 30000 w2 (OL ++ numL a)) (fun (u9 : (Nat → Value) × (Nat → Int32)) => match u9 with | (g9, w2) => [(mm, .inr (9, fl 78 g9)), (Mw, .inl (cB, 30000, .inl w2))]) := by
  refine st_v (cc := cX9_putNumber) (maxL := 4) (by decide) (Nat.le_of_ble_eq_true rfl) ?_
  intro p0 e0 s0 m0 below meth c0 A0 Q0 hBD hret hP hD hS ls hl
  obtain ⟨hx, hb, hml, hown, hts, hnm, hK, hNw, hMk, hA⟩ := hBD
  have hl : lv_has ls 4 [(0, .ref mm), (1, .long (lN a))] := hl
  have hP : va_P D vwCl [(mm, .inr (9, fl 78 g)), (Mw, .inl (cB, 30000, .inl mw))] s0.heap := hP
  have hD : va_D A0 [(mm, .inr (9, fl 78 g)), (Mw, .inl (cB, 30000, .inl mw))] := hD
  have h5 := nsz_le a
  have h1 := nsz_pos a
  refine lv_lload_n hx hb dX9_putNumber_0 rfl (lv_at hl 1 rfl) ?_
  refine jn_i (wr := [(mm, .inr (9, fl 78 g)), (Mw, .inl (cB, 30000, .inl mw))]) hA hP hD hS [] [0, 1] rfl rfl (by decide) (by decide) (rn_S (As := [.long (lN a)]) (rest := []) ⟨hx, hb, hml, hown, hts⟩ (cvS 1 hts zc_yX9_numberSize zi_X9 zs_yX9_numberSize kX9_349 (by decide +kernel) rfl rfl ⟨Nat.le_of_ble_eq_true rfl, Nat.le_of_ble_eq_true rfl⟩) (m_numberSize l D cI cB cJ cR a (ha) s0.heap.size) hK hNw hMk hA hP hD hS [] rfl rfl (by decide) rfl hl.1 rfl (Nat.le_of_ble_eq_true rfl) dX9_putNumber_1 ⟨Nat.le_of_ble_eq_true rfl, Nat.le_of_ble_eq_true rfl⟩) (fun r_1 u9 H locs w_2 hP hD hS => ?_)
  try dsimp only at w_2
  have hP : va_P D vwCl [(mm, .inr (9, fl 78 g)), (Mw, .inl (cB, 30000, .inl mw))] H := hP
  have hD : va_D A0 [(mm, .inr (9, fl 78 g)), (Mw, .inl (cB, 30000, .inl mw))] := hD
  subst w_2
  refine lv_iconst (v := 1) hx hb dX9_putNumber_4 (by decide) ?_
  refine lv_isub hx hb dX9_putNumber_5 ?_
  refine lv_istore_n (lv' := [(3, .int ((nI (nsz a)) - 1)), (0, .ref mm), (1, .long (lN a))]) hx hb dX9_putNumber_6 rfl hl (by decide) rfl (fun ls hl => ?_)
  have loop : ∀ (k9 : Nat) (g5_loop : Nat → Value) (k : Nat) (Lc : List Int32) (w7 : Nat → Int32) (H : Heap) (locs : List Loc) (ls : Array Slot), k < k9 → (frm [57] g g5_loop) → (g5_loop 57 = .int (nI Lc.length)) → (k ≤ nsz a) → (Lc ++ numT a k = OL ++ numL a) → (wL 30000 w7 Lc) → va_P D vwCl [(mm, .inr (9, fl 78 g5_loop)), (Mw, .inl (cB, 30000, .inl w7))] H → va_D A0 [(mm, .inr (9, fl 78 g5_loop)), (Mw, .inl (cB, 30000, .inl w7))] → va_S A0 s0.heap H locs → lv_has ls 4 [(0, .ref mm), (1, .long (lN a)), (3, .int (nI k - 1))] → W p0 l e0 ({ frames := 1, cells := 0, slots := 0, locals := 22 }) s0 m0 ([.ref mm, .long (lN a)] : List Value).toArray below meth c0 H locs 0 0 Q0 (F0 m0 7 ls []) := by
    intro k9
    induction k9 with
    | zero => intro g5_loop k Lc w7 H locs ls hk9; exact absurd hk9 (Nat.not_lt_zero _)
    | succ k9 ih =>
      intro g5_loop k Lc w7 H locs ls hk9 hf_loop k_wrote_loop hk5 hLc hw7 hP hD hS hl
      refine lv_iload_n hx hb dX9_putNumber_7 rfl (lv_at hl 2 rfl) ?_
      refine lv_if_lt (tgt := 43) hx hb dX9_putNumber_8 (by decide) (fun c_3 => ?_) (fun c_3 => ?_)
      · have hk0 : k = 0 := Decidable.byContradiction (fun z => by rw [show (1 : Int32) = nI 1 from rfl, pk_sub (by omega)] at c_3; exact nI_pos (by omega) c_3)
        rw [hk0, numT, List.append_nil] at hLc
        subst hLc
        exact hret 43 ls _ _ (g5_loop, w7) dX9_putNumber_43 hP hD hS (⟨hf_loop, k_wrote_loop, hw7⟩)
      · obtain ⟨j, hkj⟩ : ∃ j, k = j + 1 := ⟨k - 1, by have : ¬ k = 0 := fun z => c_3 (by rw [z]; decide); omega⟩
        subst hkj
        rw [show nI (j + 1) - 1 = nI j from pk_sub (a := j + 1) (b := 1) (by omega)] at hl
        have hq := Nat.div_le_self a (128 ^ j)
        refine lv_aload_n hx hb dX9_putNumber_11 rfl (lv_at hl 0 rfl) ?_
        refine lv_lload_n hx hb dX9_putNumber_12 rfl (lv_at hl 1 rfl) ?_
        refine lv_bipush (v := 7) hx hb dX9_putNumber_13 (by decide) ?_
        refine lv_iload_n hx hb dX9_putNumber_15 rfl (lv_at hl 2 rfl) ?_
        refine lv_imul hx hb dX9_putNumber_16 ?_
        refine lv_lshr hx hb dX9_putNumber_17 (v := (lN a) >>> ((7 * (nI j)).toInt64 &&& 63)) rfl ?_
        refine rl (y := lN (a / 128 ^ j)) (lsr7 (by omega) (by omega)) ?_
        refine lv_l2i hx hb dX9_putNumber_18 (v := (lN (a / 128 ^ j)).toInt32) rfl ?_
        refine ri (y := nI (a / 128 ^ j)) (lN_i _) ?_
        refine lv_bipush (v := 127) hx hb dX9_putNumber_19 (by decide) ?_
        refine lv_iand hx hb dX9_putNumber_21 ?_
        refine ri (y := nI (a / 128 ^ j % 128)) (pk_andN (by omega) 7 (by decide)) ?_
        refine lv_iload_n hx hb dX9_putNumber_22 rfl (lv_at hl 2 rfl) ?_
        refine lv_if_le (tgt := 32) hx hb dX9_putNumber_23 (by decide) (fun c_4 => ?_) (fun c_4 => ?_)
        · have hj0 : j = 0 := Decidable.byContradiction (fun z => nI_nle (Nat.pos_of_ne_zero z) (by omega) c_4)
          refine lv_iconst (v := 0) hx hb dX9_putNumber_32 (by decide) ?_
          refine lv_ior hx hb dX9_putNumber_33 ?_
          refine ri (y := nI (numOct a j)) (by rw [num_o0, numOct, if_neg (by omega), Nat.add_zero]) ?_
          refine jn_v (wr := []) hA hP hD hS [0, 1] [] rfl rfl (by decide) (by decide) (rn_V (As := [.int (nI (numOct a j))]) (rest := []) ⟨hx, hb, hml, hown, hts⟩ (cvV 1 hts zc_yX9_put zi_X9 zm_yX9_put zv_yX9_put kX9_353 (by decide +kernel) rfl rfl ⟨Nat.le_of_ble_eq_true rfl, Nat.le_of_ble_eq_true rfl⟩) (m_put l D cI cB cJ cR mm g5_loop Mw w7 Lc (nI (numOct a j)) (k_wrote_loop) ((hf_loop 56 (by decide)).trans g_w) (by have := congrArg List.length hLc; rw [List.length_append, List.length_append, numL_len] at this; omega) (hw7) H.size) hK hNw hMk hA hP hD hS [0, 1] rfl rfl (by decide) 0 rfl rfl rfl rfl hl.1 rfl (Nat.le_of_ble_eq_true rfl) dX9_putNumber_34 ⟨Nat.le_of_ble_eq_true rfl, Nat.le_of_ble_eq_true rfl⟩) (fun u9 H locs hpu hP hD hS => ?_)
          obtain ⟨g_5, w8⟩ := u9
          try dsimp only at hpu
          have hP : va_P D vwCl [(mm, .inr (9, fl 78 g_5)), (Mw, .inl (cB, 30000, .inl w8))] H := hP
          have hD : va_D A0 [(mm, .inr (9, fl 78 g_5)), (Mw, .inl (cB, 30000, .inl w8))] := hD
          obtain ⟨f_hpu, wrote_hpu, hpu_⟩ := hpu
          have k56_g_5 : g_5 56 = .ref Mw := (f_hpu 56 (by decide)).trans ((hf_loop 56 (by decide)).trans g_w)
          have fr_g_5 : frm [57] g g_5 := frm_tr hf_loop f_hpu (by decide)
          have kx_7 : g_5 57 = .int (nI (Lc ++ [nI (numOct a j)]).length) := by have h9 : g_5 57 = .int (nI (Lc.length + 1)) := wrote_hpu; rw [h9]; exact congrArg Value.int (by simp)
          refine lv_iinc (v := (nI j) + (-1)) (lv' := [(3, .int ((nI j) + (-1))), (0, .ref mm), (1, .long (lN a))]) hx hb dX9_putNumber_37 hl (k := 2) rfl (rfl) (by decide) rfl (fun ls hl => ?_)
          refine lv_goto (tgt := 7) hx hb dX9_putNumber_40 (by decide) ?_
          rw [show nI j + (-1) = nI j - 1 from (Int32.sub_eq_add_neg ..).symm] at hl
          exact ih g_5 j (Lc ++ [nI (numOct a j)]) w8 _ _ ls (by omega) (fr_g_5) (kx_7) (by omega) (by rw [← hLc, numT, List.append_assoc]; rfl) (hpu_) hP hD hS (lv_sub hl [1, 2, 0] rfl)
        · have hj0 : 0 < j := Nat.pos_of_ne_zero (fun z => c_4 (by rw [z]; decide))
          refine lv_sipush (v := 128) hx hb dX9_putNumber_26 (by decide) ?_
          refine lv_goto (tgt := 33) hx hb dX9_putNumber_29 (by decide) ?_
          refine lv_ior hx hb dX9_putNumber_33 ?_
          refine ri (y := nI (numOct a j)) (by rw [num_o1 (Nat.mod_lt _ (by decide)), numOct, if_pos hj0]) ?_
          refine jn_v (wr := []) hA hP hD hS [0, 1] [] rfl rfl (by decide) (by decide) (rn_V (As := [.int (nI (numOct a j))]) (rest := []) ⟨hx, hb, hml, hown, hts⟩ (cvV 1 hts zc_yX9_put zi_X9 zm_yX9_put zv_yX9_put kX9_353 (by decide +kernel) rfl rfl ⟨Nat.le_of_ble_eq_true rfl, Nat.le_of_ble_eq_true rfl⟩) (m_put l D cI cB cJ cR mm g5_loop Mw w7 Lc (nI (numOct a j)) (k_wrote_loop) ((hf_loop 56 (by decide)).trans g_w) (by have := congrArg List.length hLc; rw [List.length_append, List.length_append, numL_len] at this; omega) (hw7) H.size) hK hNw hMk hA hP hD hS [0, 1] rfl rfl (by decide) 0 rfl rfl rfl rfl hl.1 rfl (Nat.le_of_ble_eq_true rfl) dX9_putNumber_34 ⟨Nat.le_of_ble_eq_true rfl, Nat.le_of_ble_eq_true rfl⟩) (fun u9 H locs hpu hP hD hS => ?_)
          obtain ⟨g_8, w8⟩ := u9
          try dsimp only at hpu
          have hP : va_P D vwCl [(mm, .inr (9, fl 78 g_8)), (Mw, .inl (cB, 30000, .inl w8))] H := hP
          have hD : va_D A0 [(mm, .inr (9, fl 78 g_8)), (Mw, .inl (cB, 30000, .inl w8))] := hD
          obtain ⟨f_hpu, wrote_hpu, hpu_⟩ := hpu
          have k56_g_8 : g_8 56 = .ref Mw := (f_hpu 56 (by decide)).trans ((hf_loop 56 (by decide)).trans g_w)
          have fr_g_8 : frm [57] g g_8 := frm_tr hf_loop f_hpu (by decide)
          have kx_10 : g_8 57 = .int (nI (Lc ++ [nI (numOct a j)]).length) := by have h9 : g_8 57 = .int (nI (Lc.length + 1)) := wrote_hpu; rw [h9]; exact congrArg Value.int (by simp)
          refine lv_iinc (v := (nI j) + (-1)) (lv' := [(3, .int ((nI j) + (-1))), (0, .ref mm), (1, .long (lN a))]) hx hb dX9_putNumber_37 hl (k := 2) rfl (rfl) (by decide) rfl (fun ls hl => ?_)
          refine lv_goto (tgt := 7) hx hb dX9_putNumber_40 (by decide) ?_
          rw [show nI j + (-1) = nI j - 1 from (Int32.sub_eq_add_neg ..).symm] at hl
          exact ih g_8 j (Lc ++ [nI (numOct a j)]) w8 _ _ ls (by omega) (fr_g_8) (kx_10) (by omega) (by rw [← hLc, numT, List.append_assoc]; rfl) (hpu_) hP hD hS (lv_sub hl [1, 2, 0] rfl)
  exact loop _ g (nsz a) OL mw _ _ ls (Nat.lt_succ_self _) (frm_refl) (g_wrote) (Nat.le_refl _) (rfl) (hw) hP hD hS (lv_sub hl [1, 2, 0] rfl)

set_option maxHeartbeats 4000000 in
set_option maxRecDepth 100000 in
theorem m_head (l : Launch) (D : va_G) (cI cB cJ cR : ClassId) (mm : Nat) (g : Nat → Value) (Mw : Nat) (mw : Nat → Int32) (OL : List Int32) (v : Int32) (g_wrote : g 57 = .int (nI OL.length)) (g_w : g 56 = .ref Mw) (hln : OL.length < 2 ^ 23) (hw : wL 30000 mw OL) : CMv l yX9_head cX9_head 2 none ({ frames := 1, cells := 0, slots := 0, locals := 21 }) D (tyA cI cB cJ cR) 0 0 [.ref mm, .int v] [(mm, .inr (9, fl 78 g)), (Mw, .inl (cB, 30000, .inl mw))] (fun (u9 : (Nat → Value) × (Nat → Int32)) => match u9 with | (g9, w2) => frm [57] g g9 ∧ g9 57 = .int (nI (OL ++ [214, 195, 196, 0, v]).length) ∧ wL 30000 w2 (OL ++ [214, 195, 196, 0, v])) (fun (u9 : (Nat → Value) × (Nat → Int32)) => match u9 with | (g9, w2) => [(mm, .inr (9, fl 78 g9)), (Mw, .inl (cB, 30000, .inl w2))]) := by
  refine st_v (cc := cX9_head) (maxL := 2) (by decide) (Nat.le_of_ble_eq_true rfl) ?_
  intro p0 e0 s0 m0 below meth c0 A0 Q0 hBD hret hP hD hS ls hl
  obtain ⟨hx, hb, hml, hown, hts, hnm, hK, hNw, hMk, hA⟩ := hBD
  have hl : lv_has ls 2 [(0, .ref mm), (1, .int v)] := hl
  have hP : va_P D vwCl [(mm, .inr (9, fl 78 g)), (Mw, .inl (cB, 30000, .inl mw))] s0.heap := hP
  have hD : va_D A0 [(mm, .inr (9, fl 78 g)), (Mw, .inl (cB, 30000, .inl mw))] := hD
  refine lv_aload_n hx hb dX9_head_0 rfl (lv_at hl 0 rfl) ?_
  refine lv_sipush (v := 214) hx hb dX9_head_1 (by decide) ?_
  refine jn_v (wr := []) hA hP hD hS [0, 1] [] rfl rfl (by decide) (by decide) (rn_V (As := [.int 214]) (rest := []) ⟨hx, hb, hml, hown, hts⟩ (cvV 1 hts zc_yX9_put zi_X9 zm_yX9_put zv_yX9_put kX9_353 (by decide +kernel) rfl rfl ⟨Nat.le_of_ble_eq_true rfl, Nat.le_of_ble_eq_true rfl⟩) (m_put l D cI cB cJ cR mm g Mw mw OL 214 (g_wrote) (g_w) (by simp; omega) (hw) s0.heap.size) hK hNw hMk hA hP hD hS [0, 1] rfl rfl (by decide) 0 rfl rfl rfl rfl hl.1 rfl (Nat.le_of_ble_eq_true rfl) dX9_head_4 ⟨Nat.le_of_ble_eq_true rfl, Nat.le_of_ble_eq_true rfl⟩) (fun u9 H locs w_1 hP hD hS => ?_)
  obtain ⟨g_2, w2_3⟩ := u9
  try dsimp only at w_1
  have hP : va_P D vwCl [(mm, .inr (9, fl 78 g_2)), (Mw, .inl (cB, 30000, .inl w2_3))] H := hP
  have hD : va_D A0 [(mm, .inr (9, fl 78 g_2)), (Mw, .inl (cB, 30000, .inl w2_3))] := hD
  obtain ⟨f_w_1, wrote_w_1, w_1_⟩ := w_1
  have k56_g_2 : g_2 56 = .ref Mw := (f_w_1 56 (by decide)).trans (g_w)
  have fr_g_2 : frm [57] g g_2 := frm_tr frm_refl f_w_1 (by decide)
  have kx_5 : g_2 57 = .int (nI (OL ++ [214]).length) := by have h9 : g_2 57 = .int (nI (OL.length + 1)) := wrote_w_1; rw [h9]; exact congrArg Value.int (by simp)
  refine lv_aload_n hx hb dX9_head_7 rfl (lv_at hl 0 rfl) ?_
  refine lv_sipush (v := 195) hx hb dX9_head_8 (by decide) ?_
  refine jn_v (wr := []) hA hP hD hS [0, 1] [] rfl rfl (by decide) (by decide) (rn_V (As := [.int 195]) (rest := []) ⟨hx, hb, hml, hown, hts⟩ (cvV 1 hts zc_yX9_put zi_X9 zm_yX9_put zv_yX9_put kX9_353 (by decide +kernel) rfl rfl ⟨Nat.le_of_ble_eq_true rfl, Nat.le_of_ble_eq_true rfl⟩) (m_put l D cI cB cJ cR mm g_2 Mw w2_3 (OL ++ [214]) 195 (kx_5) (k56_g_2) (by simp; omega) (w_1_) H.size) hK hNw hMk hA hP hD hS [0, 1] rfl rfl (by decide) 0 rfl rfl rfl rfl hl.1 rfl (Nat.le_of_ble_eq_true rfl) dX9_head_11 ⟨Nat.le_of_ble_eq_true rfl, Nat.le_of_ble_eq_true rfl⟩) (fun u9 H locs w_6 hP hD hS => ?_)
  obtain ⟨g_7, w2_8⟩ := u9
  try dsimp only at w_6
  have hP : va_P D vwCl [(mm, .inr (9, fl 78 g_7)), (Mw, .inl (cB, 30000, .inl w2_8))] H := hP
  have hD : va_D A0 [(mm, .inr (9, fl 78 g_7)), (Mw, .inl (cB, 30000, .inl w2_8))] := hD
  obtain ⟨f_w_6, wrote_w_6, w_6_⟩ := w_6
  have k56_g_7 : g_7 56 = .ref Mw := (f_w_6 56 (by decide)).trans (k56_g_2)
  have fr_g_7 : frm [57] g g_7 := frm_tr fr_g_2 f_w_6 (by decide)
  have kx_10 : g_7 57 = .int (nI ((OL ++ [214]) ++ [195]).length) := by have h9 : g_7 57 = .int (nI ((OL ++ [214]).length + 1)) := wrote_w_6; rw [h9]; exact congrArg Value.int (by simp)
  refine lv_aload_n hx hb dX9_head_14 rfl (lv_at hl 0 rfl) ?_
  refine lv_sipush (v := 196) hx hb dX9_head_15 (by decide) ?_
  refine jn_v (wr := []) hA hP hD hS [0, 1] [] rfl rfl (by decide) (by decide) (rn_V (As := [.int 196]) (rest := []) ⟨hx, hb, hml, hown, hts⟩ (cvV 1 hts zc_yX9_put zi_X9 zm_yX9_put zv_yX9_put kX9_353 (by decide +kernel) rfl rfl ⟨Nat.le_of_ble_eq_true rfl, Nat.le_of_ble_eq_true rfl⟩) (m_put l D cI cB cJ cR mm g_7 Mw w2_8 ((OL ++ [214]) ++ [195]) 196 (kx_10) (k56_g_7) (by simp; omega) (w_6_) H.size) hK hNw hMk hA hP hD hS [0, 1] rfl rfl (by decide) 0 rfl rfl rfl rfl hl.1 rfl (Nat.le_of_ble_eq_true rfl) dX9_head_18 ⟨Nat.le_of_ble_eq_true rfl, Nat.le_of_ble_eq_true rfl⟩) (fun u9 H locs w_11 hP hD hS => ?_)
  obtain ⟨g_12, w2_13⟩ := u9
  try dsimp only at w_11
  have hP : va_P D vwCl [(mm, .inr (9, fl 78 g_12)), (Mw, .inl (cB, 30000, .inl w2_13))] H := hP
  have hD : va_D A0 [(mm, .inr (9, fl 78 g_12)), (Mw, .inl (cB, 30000, .inl w2_13))] := hD
  obtain ⟨f_w_11, wrote_w_11, w_11_⟩ := w_11
  have k56_g_12 : g_12 56 = .ref Mw := (f_w_11 56 (by decide)).trans (k56_g_7)
  have fr_g_12 : frm [57] g g_12 := frm_tr fr_g_7 f_w_11 (by decide)
  have kx_15 : g_12 57 = .int (nI (((OL ++ [214]) ++ [195]) ++ [196]).length) := by have h9 : g_12 57 = .int (nI (((OL ++ [214]) ++ [195]).length + 1)) := wrote_w_11; rw [h9]; exact congrArg Value.int (by simp)
  refine lv_aload_n hx hb dX9_head_21 rfl (lv_at hl 0 rfl) ?_
  refine lv_iconst (v := 0) hx hb dX9_head_22 (by decide) ?_
  refine jn_v (wr := []) hA hP hD hS [0, 1] [] rfl rfl (by decide) (by decide) (rn_V (As := [.int 0]) (rest := []) ⟨hx, hb, hml, hown, hts⟩ (cvV 1 hts zc_yX9_put zi_X9 zm_yX9_put zv_yX9_put kX9_353 (by decide +kernel) rfl rfl ⟨Nat.le_of_ble_eq_true rfl, Nat.le_of_ble_eq_true rfl⟩) (m_put l D cI cB cJ cR mm g_12 Mw w2_13 (((OL ++ [214]) ++ [195]) ++ [196]) 0 (kx_15) (k56_g_12) (by simp; omega) (w_11_) H.size) hK hNw hMk hA hP hD hS [0, 1] rfl rfl (by decide) 0 rfl rfl rfl rfl hl.1 rfl (Nat.le_of_ble_eq_true rfl) dX9_head_23 ⟨Nat.le_of_ble_eq_true rfl, Nat.le_of_ble_eq_true rfl⟩) (fun u9 H locs w_16 hP hD hS => ?_)
  obtain ⟨g_17, w2_18⟩ := u9
  try dsimp only at w_16
  have hP : va_P D vwCl [(mm, .inr (9, fl 78 g_17)), (Mw, .inl (cB, 30000, .inl w2_18))] H := hP
  have hD : va_D A0 [(mm, .inr (9, fl 78 g_17)), (Mw, .inl (cB, 30000, .inl w2_18))] := hD
  obtain ⟨f_w_16, wrote_w_16, w_16_⟩ := w_16
  have k56_g_17 : g_17 56 = .ref Mw := (f_w_16 56 (by decide)).trans (k56_g_12)
  have fr_g_17 : frm [57] g g_17 := frm_tr fr_g_12 f_w_16 (by decide)
  have kx_20 : g_17 57 = .int (nI ((((OL ++ [214]) ++ [195]) ++ [196]) ++ [0]).length) := by have h9 : g_17 57 = .int (nI ((((OL ++ [214]) ++ [195]) ++ [196]).length + 1)) := wrote_w_16; rw [h9]; exact congrArg Value.int (by simp)
  refine lv_aload_n hx hb dX9_head_26 rfl (lv_at hl 0 rfl) ?_
  refine lv_iload_n hx hb dX9_head_27 rfl (lv_at hl 1 rfl) ?_
  refine jn_v (wr := []) hA hP hD hS [0, 1] [] rfl rfl (by decide) (by decide) (rn_V (As := [.int v]) (rest := []) ⟨hx, hb, hml, hown, hts⟩ (cvV 1 hts zc_yX9_put zi_X9 zm_yX9_put zv_yX9_put kX9_353 (by decide +kernel) rfl rfl ⟨Nat.le_of_ble_eq_true rfl, Nat.le_of_ble_eq_true rfl⟩) (m_put l D cI cB cJ cR mm g_17 Mw w2_18 ((((OL ++ [214]) ++ [195]) ++ [196]) ++ [0]) v (kx_20) (k56_g_17) (by simp; omega) (w_16_) H.size) hK hNw hMk hA hP hD hS [0, 1] rfl rfl (by decide) 0 rfl rfl rfl rfl hl.1 rfl (Nat.le_of_ble_eq_true rfl) dX9_head_28 ⟨Nat.le_of_ble_eq_true rfl, Nat.le_of_ble_eq_true rfl⟩) (fun u9 H locs w_21 hP hD hS => ?_)
  obtain ⟨g_22, w2_23⟩ := u9
  try dsimp only at w_21
  have hP : va_P D vwCl [(mm, .inr (9, fl 78 g_22)), (Mw, .inl (cB, 30000, .inl w2_23))] H := hP
  have hD : va_D A0 [(mm, .inr (9, fl 78 g_22)), (Mw, .inl (cB, 30000, .inl w2_23))] := hD
  obtain ⟨f_w_21, wrote_w_21, w_21_⟩ := w_21
  have k56_g_22 : g_22 56 = .ref Mw := (f_w_21 56 (by decide)).trans (k56_g_17)
  have fr_g_22 : frm [57] g g_22 := frm_tr fr_g_17 f_w_21 (by decide)
  have kx_25 : g_22 57 = .int (nI (((((OL ++ [214]) ++ [195]) ++ [196]) ++ [0]) ++ [v]).length) := by have h9 : g_22 57 = .int (nI (((((OL ++ [214]) ++ [195]) ++ [196]) ++ [0]).length + 1)) := wrote_w_21; rw [h9]; exact congrArg Value.int (by simp)
  have kx_26 : g_22 57 = .int (nI (OL ++ [214, 195, 196, 0, v]).length) := by have h9 : g_22 57 = .int (nI (((((OL ++ [214]) ++ [195]) ++ [196]) ++ [0]) ++ [v]).length) := kx_25; rw [h9]; exact congrArg Value.int (by simp)
  exact hret 31 ls _ _ (g_22, w2_23) dX9_head_31 hP hD hS (⟨fr_g_22, kx_26, by simp only [List.append_assoc] at w_21_; exact w_21_⟩)
