/-! calls of the reference on rows -/
theorem m8k : ∀ k, k < 4 → (8000 : Int32) * nI k = nI (8000 * k) := by decide +kernel
theorem in32b {x : Int32} {n : Nat} (hn : n < 2 ^ 31) : decide ((0 : Int64) ≤ x.toInt64 ∧ x.toInt64 ≤ (nI n - 1).toInt64) = inB x n := by
  unfold inB
  apply decide_eq_decide.mpr
  rw [Int64.le_iff_toInt_le, Int64.le_iff_toInt_le, Int32.toInt_toInt64, Int32.toInt_toInt64, Int32.lt_iff_toInt_lt, Int32.lt_iff_toInt_lt, nI_toInt hn, show (0 : Int64).toInt = 0 from rfl, show (0 : Int32).toInt = 0 from rfl]
  have h9 : (nI n - 1).toInt = (n : Int) - 1 := by
    cases n with
    | zero => rfl
    | succ n => rw [show nI (n + 1) - 1 = nI n from pk_sub (a := n + 1) (b := 1) (by omega), nI_toInt (by omega)]; omega
  rw [h9]
  omega
theorem in32c {x : Int32} : decide ((-1 : Int64) ≤ x.toInt64 ∧ x.toInt64 ≤ (1535 : Int64)) = decide (x = -1 ∨ inB x 1536 = true) := by
  apply decide_eq_decide.mpr
  have hi : inB x 1536 = true ↔ (¬ x < 0 ∧ x < nI 1536) := by unfold inB; exact decide_eq_true_iff
  rw [hi, Int64.le_iff_toInt_le, Int64.le_iff_toInt_le, Int32.toInt_toInt64, Int32.lt_iff_toInt_lt, Int32.lt_iff_toInt_lt, nI_toInt (by decide), show (-1 : Int64).toInt = -1 from rfl, show (1535 : Int64).toInt = 1535 from rfl, show (0 : Int32).toInt = 0 from rfl, ← Int32.toInt_inj, show (-1 : Int32).toInt = -1 from rfl]
  omega
theorem va_up_up {α : Type} {f : Nat → α} {k : Nat} {a b : α} : va_up (va_up f k a) k b = va_up f k b := by
  funext j
  by_cases q : j = k
  · subst q; rw [va_up_self, va_up_self]
  · rw [va_up_ne _ _ q, va_up_ne _ _ q, va_up_ne _ _ q]
theorem rwR_put {mr ms : Nat → Int32} {RL : Nat → List Int32} {k : Nat} {Lc : List Int32} {v w : Int32} (h : rwR mr ms (va_up RL k Lc)) (hk : k < 4) (hl : Lc.length < rmN k) (hw : w = v.toInt8.toInt32) : rwR (upd mr (8000 * k + Lc.length) w) (upd ms k (nI (Lc.length + 1))) (va_up RL k (Lc ++ [v])) := by
  have h8 := rmN_le k
  intro i hi
  obtain ⟨h1, h2, h3⟩ := h i hi
  by_cases q : i = k
  · subst q
    rw [va_up_self] at h1 h2 h3 ⊢
    rw [pk_us]
    refine ⟨by rw [len1], by rw [← len1]; omega, fun j hj => ?_⟩
    rw [← len1] at hj
    by_cases z : j = Lc.length
    · subst z; rw [pk_us, hw]; simp
    · rw [pk_un (by omega), h3 j (by omega), gD_l (by omega)]
  · rw [va_up_ne _ _ q] at h1 h2 h3 ⊢
    have h9 := rmN_le i
    rw [pk_un q]
    exact ⟨h1, h2, fun j hj => by rw [pk_un (by omega)]; exact h3 j hj⟩
theorem rwR_get {mr ms : Nat → Int32} {RL : Nat → List Int32} {x y i : Nat} {M : List Int32} (h : rwR mr ms (va_up RL y (RL y ++ M))) (hx : x < 4) (hi : i < (RL x).length) : mr (8000 * x + i) = ((RL x).getD i 0).toInt8.toInt32 := by
  obtain ⟨h1, h2, h3⟩ := h x hx
  by_cases q : x = y
  · subst q
    rw [va_up_self] at h3
    rw [h3 i (by rw [List.length_append]; omega), gD_l hi]
  · rw [va_up_ne _ _ q] at h3; exact h3 i hi
theorem rwR_sz {mr ms : Nat → Int32} {RL : Nat → List Int32} {k : Nat} {Lc : List Int32} (h : rwR mr ms (va_up RL k Lc)) (hk : k < 4) : ms k = nI Lc.length := by have := (h k hk).1; rw [va_up_self] at this; exact this
theorem rwR_set {mr ms : Nat → Int32} {RL : Nat → List Int32} {k i v : Nat} (h : rwR mr ms RL) (hk : k < 4) (hi : i < (RL k).length) : rwR (upd mr (8000 * k + i) (s8 v)) ms (va_up RL k ((RL k).set i (nI v))) := by
  intro j hj
  obtain ⟨h1, h2, h3⟩ := h j hj
  have h8 := rmN_le j
  obtain ⟨-, h4, -⟩ := h k hk
  have h9 := rmN_le k
  by_cases q : j = k
  · subst q
    rw [va_up_self, List.length_set]
    refine ⟨h1, h2, fun x hx => ?_⟩
    by_cases z : x = i
    · subst z; rw [pk_us]; simp [List.getD, hi]; rfl
    · rw [pk_un (by omega), h3 x hx]; simp [List.getD, List.getElem?_set_ne (show i ≠ x from fun w => z w.symm)]
  · rw [va_up_ne _ _ q]
    exact ⟨h1, h2, fun x hx => by rw [pk_un (by omega)]; exact h3 x hx⟩
theorem rwR_nil {mr ms : Nat → Int32} {RL : Nat → List Int32} {k : Nat} (h : rwR mr ms RL) (hk : k < 4) : rwR mr (upd ms k (nI 0)) (va_up RL k []) := by
  have := rwR_cut h hk (Nat.zero_le _); rw [List.take_zero] at this; exact this
theorem b8 {x : Int32} : x.toInt8.toInt32.toInt8.toInt32 = x.toInt8.toInt32 := by simp
theorem octL_get {L : List Int32} {i : Nat} (h : octL L) (hi : i < L.length) : (L.getD i 0).toInt8.toInt32 &&& 255 = L.getD i 0 := by
  obtain ⟨h1, h2⟩ := h i hi
  rw [h1]; exact s8_and _ h2
theorem fd_c {v : Int64} (a : Int64) (b : UInt64) (s : Nat) (h1 : (a.toBitVec.smod 64).toNat = s) (h2 : (b.toBitVec % 64).toNat = s) (hs : s ≤ 56) : (v >>> a).toInt32.toInt8 = ((v.toUInt64 >>> b).toInt64.toInt32 &&& 255).toInt8 := by
  apply Int8.toBitVec_inj.mp
  rw [Int32.toBitVec_toInt8, Int32.toBitVec_toInt8, Int64.toBitVec_toInt32, Int32.toBitVec_and, Int64.toBitVec_toInt32, Int64.toBitVec_shiftRight, UInt64.toBitVec_toInt64, UInt64.toBitVec_shiftRight]
  apply BitVec.eq_of_getLsbD_eq
  intro j hj
  have h255 : ((255 : Int32).toBitVec.getLsbD j) = true := by
    rcases (show j = 0 ∨ j = 1 ∨ j = 2 ∨ j = 3 ∨ j = 4 ∨ j = 5 ∨ j = 6 ∨ j = 7 by omega) with q | q | q | q | q | q | q | q <;> subst q <;> decide
  have e1 : v.toBitVec.sshiftRight' (a.toBitVec.smod 64) = v.toBitVec.sshiftRight s := by rw [BitVec.sshiftRight', h1]
  have e2 : v.toUInt64.toBitVec >>> (b.toBitVec % 64) = v.toUInt64.toBitVec >>> s := by rw [BitVec.ushiftRight_eq', h2]
  simp only [e1, e2, BitVec.getLsbD_signExtend, BitVec.getLsbD_and, h255, BitVec.getLsbD_sshiftRight, BitVec.getLsbD_ushiftRight]
  have k1 : j < 32 := by omega
  have k2 : j < 64 := by omega
  have k3 : s + j < 64 := by omega
  have k4 : ¬ 64 ≤ j := by omega
  simp [k1, k2, k3, k4, hj]
theorem fd_b {v : Int64} : ∀ i, i < 8 → (v >>> (((8 : Int32) * nI i).toInt64 &&& 63)).toInt32.toInt8.toInt32 = (ocV v i).toInt8.toInt32 := by
  intro i hi
  congr 1
  unfold ocV
  rcases (show i = 0 ∨ i = 1 ∨ i = 2 ∨ i = 3 ∨ i = 4 ∨ i = 5 ∨ i = 6 ∨ i = 7 by omega) with h | h | h | h | h | h | h | h <;> subst h
  · exact fd_c _ _ 0 (by decide) (by decide) (by decide)
  · exact fd_c _ _ 8 (by decide) (by decide) (by decide)
  · exact fd_c _ _ 16 (by decide) (by decide) (by decide)
  · exact fd_c _ _ 24 (by decide) (by decide) (by decide)
  · exact fd_c _ _ 32 (by decide) (by decide) (by decide)
  · exact fd_c _ _ 40 (by decide) (by decide) (by decide)
  · exact fd_c _ _ 48 (by decide) (by decide) (by decide)
  · exact fd_c _ _ 56 (by decide) (by decide) (by decide)
set_option maxHeartbeats 4000000 in
set_option maxRecDepth 100000 in
theorem m_none (l : Launch) (D : va_G) (cI cB cJ cR : ClassId) (mm : Nat) (g : Nat → Value) (Msizes : Nat) (Mrows : Nat) (msizes : Nat → Int32) (mrows : Nat → Int32) (x : Int32) (i : Int32) (RL : Nat → List Int32) (g_sizes : g 2 = .ref Msizes) (g_rows : g 1 = .ref Mrows) (hrw : rwR mrows msizes RL) : CMz l yX9_none cX9_none 3 (some .boolean) ({ frames := 1, cells := 0, slots := 0, locals := 25 }) D (tyA cI cB cJ cR) 0 0 [.ref mm, .int x, .int i] [(mm, .inr (9, fl 78 g)), (Msizes, .inl (cI, 4, .inl msizes)), (Mrows, .inl (cB, 32000, .inl mrows))] (fun (r : Bool) (_ : Unit) => r = decide (isR x = false ∨ inB i (RL x.toNatClampNeg).length = false)) (fun (_ : Unit) => [(mm, .inr (9, fl 78 g)), (Msizes, .inl (cI, 4, .inl msizes)), (Mrows, .inl (cB, 32000, .inl mrows))]) := by
  refine st_z (cc := cX9_none) (maxL := 3) (by decide) (Nat.le_of_ble_eq_true rfl) ?_
  intro p0 e0 s0 m0 below meth c0 A0 Q0 hBD hret hP hD hS ls hl
  obtain ⟨hx, hb, hml, hown, hts, hnm, hK, hNw, hMk, hA⟩ := hBD
  have hl : lv_has ls 3 [(0, .ref mm), (1, .int x), (2, .int i)] := hl
  have hP : va_P D vwCl [(mm, .inr (9, fl 78 g)), (Msizes, .inl (cI, 4, .inl msizes)), (Mrows, .inl (cB, 32000, .inl mrows))] s0.heap := hP
  have hD : va_D A0 [(mm, .inr (9, fl 78 g)), (Msizes, .inl (cI, 4, .inl msizes)), (Mrows, .inl (cB, 32000, .inl mrows))] := hD
  refine lv_iload_n hx hb dX9_none_0 rfl (lv_at hl 1 rfl) ?_
  refine lv_i2l hx hb dX9_none_1 (v := x.toInt64) rfl ?_
  refine lv_lconst (v := 0) hx hb dX9_none_2 (by decide) ?_
  refine lv_ldc2 hx hb hown (hts _ kX9_134) dX9_none_3 ?_
  refine rl (y := lN 3) (rfl) ?_
  refine jn_i (wr := [(mm, .inr (9, fl 78 g)), (Msizes, .inl (cI, 4, .inl msizes)), (Mrows, .inl (cB, 32000, .inl mrows))]) hA hP hD hS [] [0, 1, 2] rfl rfl (by decide) (by decide) (rn_S (As := [.long x.toInt64, .long 0, .long (lN 3)]) (rest := []) ⟨hx, hb, hml, hown, hts⟩ (cvS 3 hts zc_yX9_in zi_X9 zs_yX9_in kX9_136 (by decide +kernel) rfl rfl ⟨Nat.le_of_ble_eq_true rfl, Nat.le_of_ble_eq_true rfl⟩) (m_in l D cI cB cJ cR x.toInt64 0 (lN 3)  s0.heap.size) hK hNw hMk hA hP hD hS [] rfl rfl (by decide) rfl hl.1 rfl (Nat.le_of_ble_eq_true rfl) dX9_none_6 ⟨Nat.le_of_ble_eq_true rfl, Nat.le_of_ble_eq_true rfl⟩) (fun ra u9 H locs hra hP hD hS => ?_)
  obtain ⟨rab, rfl, hra⟩ := hra
  try dsimp only at hra
  have hP : va_P D vwCl [(mm, .inr (9, fl 78 g)), (Msizes, .inl (cI, 4, .inl msizes)), (Mrows, .inl (cB, 32000, .inl mrows))] H := hP
  have hD : va_D A0 [(mm, .inr (9, fl 78 g)), (Msizes, .inl (cI, 4, .inl msizes)), (Mrows, .inl (cB, 32000, .inl mrows))] := hD
  rw [in32 (by decide)] at hra
  rw [isR_in] at hra
  refine bz_eq (tgt := 30) hx hb dX9_none_9 (by decide) (fun c_1 => ?_) (fun c_1 => ?_)
  · have hxr : isR x = false := by rw [← hra]; exact c_1
    refine lv_iconst (v := 1) hx hb dX9_none_30 (by decide) ?_
    refine lv_goto (tgt := 35) hx hb dX9_none_31 (by decide) ?_
    exact hret 35 ls _ _ true () dX9_none_35 hP hD hS (by symm; exact decide_eq_true (Or.inl hxr))
  · have hxr : isR x = true := by rw [← hra]; exact c_1
    obtain ⟨k, hk, hx9⟩ := isR_ex hxr
    have hkl := (hrw k hk).2.1
    have hk8 := rmN_le k
    rw [hx9] at hl
    refine lv_iload_n hx hb dX9_none_12 rfl (lv_at hl 2 rfl) ?_
    refine lv_i2l hx hb dX9_none_13 (v := i.toInt64) rfl ?_
    refine lv_lconst (v := 0) hx hb dX9_none_14 (by decide) ?_
    refine lv_aload_n hx hb dX9_none_15 rfl (lv_at hl 0 rfl) ?_
    refine fx_get (D := D) (ci := 9) (v := .ref Msizes) (C := RX9) (T := TX9) (N := 78) hx hb hts in_X9 hown hK hP 0 rfl rfl 2 (by decide) (hts _ kX9_13) (fun _ h9 => h9) (g_sizes) dX9_none_16 ?_
    refine lv_iload_n hx hb dX9_none_19 rfl (lv_at hl 1 rfl) ?_
    refine ax_ild hx hb hK hP 1 0 rfl rfl k (rfl) (hk) (by omega) dX9_none_20 ?_
    refine ri (y := nI (RL k).length) ((hrw k hk).1) ?_
    refine lv_iconst (v := 1) hx hb dX9_none_21 (by decide) ?_
    refine lv_isub hx hb dX9_none_22 ?_
    refine lv_i2l hx hb dX9_none_23 (v := ((nI (RL k).length) - 1).toInt64) rfl ?_
    refine jn_i (wr := [(mm, .inr (9, fl 78 g)), (Msizes, .inl (cI, 4, .inl msizes)), (Mrows, .inl (cB, 32000, .inl mrows))]) hA hP hD hS [] [0, 1, 2] rfl rfl (by decide) (by decide) (rn_S (As := [.long i.toInt64, .long 0, .long ((nI (RL k).length - 1).toInt64)]) (rest := []) ⟨hx, hb, hml, hown, hts⟩ (cvS 3 hts zc_yX9_in zi_X9 zs_yX9_in kX9_136 (by decide +kernel) rfl rfl ⟨Nat.le_of_ble_eq_true rfl, Nat.le_of_ble_eq_true rfl⟩) (m_in l D cI cB cJ cR i.toInt64 0 ((nI (RL k).length - 1).toInt64)  H.size) hK hNw hMk hA hP hD hS [] rfl rfl (by decide) rfl hl.1 rfl (Nat.le_of_ble_eq_true rfl) dX9_none_24 ⟨Nat.le_of_ble_eq_true rfl, Nat.le_of_ble_eq_true rfl⟩) (fun rb u9 H locs hrb hP hD hS => ?_)
    obtain ⟨rbb, rfl, hrb⟩ := hrb
    try dsimp only at hrb
    have hP : va_P D vwCl [(mm, .inr (9, fl 78 g)), (Msizes, .inl (cI, 4, .inl msizes)), (Mrows, .inl (cB, 32000, .inl mrows))] H := hP
    have hD : va_D A0 [(mm, .inr (9, fl 78 g)), (Msizes, .inl (cI, 4, .inl msizes)), (Mrows, .inl (cB, 32000, .inl mrows))] := hD
    rw [in32b (by omega)] at hrb
    have hk9 : x.toNatClampNeg = k := by rw [hx9, nI_clamp (by omega)]
    refine bz_ne (tgt := 34) hx hb dX9_none_27 (by decide) (fun c_2 => ?_) (fun c_2 => ?_)
    · refine lv_iconst (v := 0) hx hb dX9_none_34 (by decide) ?_
      exact hret 35 ls _ _ false () dX9_none_35 hP hD hS (by symm; exact decide_eq_false (fun z => z.elim (fun w => absurd (hxr.symm.trans w) (by decide)) (fun w => by rw [hk9, ← hrb, c_2] at w; exact absurd w (by decide))))
    · refine lv_iconst (v := 1) hx hb dX9_none_30 (by decide) ?_
      refine lv_goto (tgt := 35) hx hb dX9_none_31 (by decide) ?_
      exact hret 35 ls _ _ true () dX9_none_35 hP hD hS (by symm; exact decide_eq_true (Or.inr (by rw [hk9, ← hrb]; exact c_2)))

set_option maxHeartbeats 4000000 in
set_option maxRecDepth 100000 in
theorem m_octet (l : Launch) (D : va_G) (cI cB cJ cR : ClassId) (mm : Nat) (g : Nat → Value) (Msizes : Nat) (Mrows : Nat) (msizes : Nat → Int32) (mrows : Nat → Int32) (x : Int32) (i : Int32) (RL : Nat → List Int32) (g_sizes : g 2 = .ref Msizes) (g_rows : g 1 = .ref Mrows) (hrw : rwR mrows msizes RL) (hoc : ∀ k, k < 4 → octL (RL k)) : CMi l yX9_octet cX9_octet 3 (some .int) ({ frames := 2, cells := 0, slots := 0, locals := 47 }) D (tyA cI cB cJ cR) 0 0 [.ref mm, .int x, .int i] [(mm, .inr (9, fl 78 g)), (Msizes, .inl (cI, 4, .inl msizes)), (Mrows, .inl (cB, 32000, .inl mrows))] (fun (r : Int32) (g9 : (Nat → Value)) => frm [0] g g9 ∧ g9 0 = .int (nI 0) ∧ r = octP x i RL) (fun (g9 : (Nat → Value)) => [(mm, .inr (9, fl 78 g9)), (Msizes, .inl (cI, 4, .inl msizes)), (Mrows, .inl (cB, 32000, .inl mrows))]) := by
  refine st_i (cc := cX9_octet) (maxL := 3) (by decide) (Nat.le_of_ble_eq_true rfl) ?_
  intro p0 e0 s0 m0 below meth c0 A0 Q0 hBD hret hP hD hS ls hl
  obtain ⟨hx, hb, hml, hown, hts, hnm, hK, hNw, hMk, hA⟩ := hBD
  have hl : lv_has ls 3 [(0, .ref mm), (1, .int x), (2, .int i)] := hl
  have hP : va_P D vwCl [(mm, .inr (9, fl 78 g)), (Msizes, .inl (cI, 4, .inl msizes)), (Mrows, .inl (cB, 32000, .inl mrows))] s0.heap := hP
  have hD : va_D A0 [(mm, .inr (9, fl 78 g)), (Msizes, .inl (cI, 4, .inl msizes)), (Mrows, .inl (cB, 32000, .inl mrows))] := hD
  refine lv_aload_n hx hb dX9_octet_0 rfl (lv_at hl 0 rfl) ?_
  refine lv_iconst (v := 0) hx hb dX9_octet_1 (by decide) ?_
  refine ri (y := nI 0) (nI_0.symm) ?_
  refine fx_put (D := D) (ci := 9) (v := .int (nI 0)) (ty := .int) (C := RX9) (T := TX9) (N := 78) hx hb hts in_X9 tyX9 tyX9_ok nmX9 hown hK hP hD hS 0 rfl rfl 0 (by decide) (hts _ kX9_131) (fun _ h9 => h9) rfl (by decide +kernel) rfl rfl dX9_octet_2 (fun H locs hP hD hS => ?_)
  have hP : va_P D vwCl [(mm, .inr (9, fl 78 (va_up g 0 (.int (nI 0))))), (Msizes, .inl (cI, 4, .inl msizes)), (Mrows, .inl (cB, 32000, .inl mrows))] H := hP
  have hD : va_D A0 [(mm, .inr (9, fl 78 (va_up g 0 (.int (nI 0))))), (Msizes, .inl (cI, 4, .inl msizes)), (Mrows, .inl (cB, 32000, .inl mrows))] := hD
  refine lv_aload_n hx hb dX9_octet_5 rfl (lv_at hl 0 rfl) ?_
  refine lv_iload_n hx hb dX9_octet_6 rfl (lv_at hl 1 rfl) ?_
  refine lv_iload_n hx hb dX9_octet_7 rfl (lv_at hl 2 rfl) ?_
  refine jn_i (wr := []) hA hP hD hS [0, 1, 2] [] rfl rfl (by decide) (by decide) (rn_V (As := [.int x, .int i]) (rest := []) ⟨hx, hb, hml, hown, hts⟩ (cvV 2 hts zc_yX9_none zi_X9 zm_yX9_none zv_yX9_none kX9_148 (by decide +kernel) rfl rfl ⟨Nat.le_of_ble_eq_true rfl, Nat.le_of_ble_eq_true rfl⟩) (m_none l D cI cB cJ cR mm (va_up g 0 (.int (nI 0))) Msizes Mrows msizes mrows x i RL (g_sizes) (g_rows) (hrw) H.size) hK hNw hMk hA hP hD hS [0, 1, 2] rfl rfl (by decide) 0 rfl rfl rfl rfl hl.1 rfl (Nat.le_of_ble_eq_true rfl) dX9_octet_8 ⟨Nat.le_of_ble_eq_true rfl, Nat.le_of_ble_eq_true rfl⟩) (fun rn u9 H locs hrn hP hD hS => ?_)
  obtain ⟨rnb, rfl, hrn⟩ := hrn
  try dsimp only at hrn
  have hP : va_P D vwCl [(mm, .inr (9, fl 78 (va_up g 0 (.int (nI 0))))), (Msizes, .inl (cI, 4, .inl msizes)), (Mrows, .inl (cB, 32000, .inl mrows))] H := hP
  have hD : va_D A0 [(mm, .inr (9, fl 78 (va_up g 0 (.int (nI 0))))), (Msizes, .inl (cI, 4, .inl msizes)), (Mrows, .inl (cB, 32000, .inl mrows))] := hD
  refine bz_eq (tgt := 18) hx hb dX9_octet_11 (by decide) (fun c_2 => ?_) (fun c_2 => ?_)
  · have hd9 := of_decide_eq_false (p := isR x = false ∨ inB i (RL x.toNatClampNeg).length = false) (by rw [← hrn]; exact c_2)
    have hxr : isR x = true := by cases h9 : isR x; exact absurd (Or.inl h9) hd9; rfl
    obtain ⟨k, hk, hx9⟩ := isR_ex hxr
    have hk9 : x.toNatClampNeg = k := by rw [hx9, nI_clamp (by omega)]
    have hib : inB i (RL k).length = true := by rw [← hk9]; cases h9 : inB i (RL x.toNatClampNeg).length; exact absurd (Or.inr h9) hd9; rfl
    have hkl := (hrw k hk).2.1
    have hk8 := rmN_le k
    obtain ⟨j, hj, hi9⟩ := inB_of hib (by omega)
    have hj9 : i.toNatClampNeg = j := by rw [hi9, nI_clamp (by omega)]
    rw [hx9] at hl
    rw [hi9] at hl
    refine lv_aload_n hx hb dX9_octet_18 rfl (lv_at hl 0 rfl) ?_
    refine fx_get (D := D) (ci := 9) (v := .ref Mrows) (C := RX9) (T := TX9) (N := 78) hx hb hts in_X9 hown hK hP 0 rfl rfl 1 (by decide) (hts _ kX9_7) (fun _ h9 => h9) (g_rows) dX9_octet_19 ?_
    refine lv_sipush (v := 8000) hx hb dX9_octet_22 (by decide) ?_
    refine lv_iload_n hx hb dX9_octet_25 rfl (lv_at hl 1 rfl) ?_
    refine lv_imul hx hb dX9_octet_26 ?_
    refine ri (y := nI (8000 * k)) (m8k k hk) ?_
    refine lv_iload_n hx hb dX9_octet_27 rfl (lv_at hl 2 rfl) ?_
    refine lv_iadd hx hb dX9_octet_28 ?_
    refine ri (y := nI ((8000 * k) + j)) (nI_add (8000 * k) j) ?_
    refine ax_bld hx hb hK hP 2 1 rfl rfl (8000 * k + j) (rfl) (by omega) (by omega) dX9_octet_29 ?_
    refine ri (y := ((RL k).getD j 0).toInt8.toInt32) ((hrw k hk).2.2 j hj) ?_
    refine lv_sipush (v := 255) hx hb dX9_octet_30 (by decide) ?_
    refine lv_iand hx hb dX9_octet_33 ?_
    refine ri (y := (RL k).getD j 0) (octL_get (hoc k hk) hj) ?_
    exact hret 34 ls _ _ _ ((va_up g 0 (.int (nI 0)))) dX9_octet_34 hP hD hS (⟨(frm_up frm_refl (by decide)), rfl, by rw [octP, if_neg (by rw [hxr]; decide), hk9, if_pos hib, hj9]⟩)
  · have hd9 := (of_decide_eq_true (p := isR x = false ∨ inB i (RL x.toNatClampNeg).length = false) (by rw [← hrn]; exact c_2))
    refine lv_iconst (v := -1) hx hb dX9_octet_14 (by decide) ?_
    refine lv_goto (tgt := 34) hx hb dX9_octet_15 (by decide) ?_
    exact hret 34 ls _ _ _ ((va_up g 0 (.int (nI 0)))) dX9_octet_34 hP hD hS (⟨(frm_up frm_refl (by decide)), rfl, by unfold octP; rcases hd9 with z | z; rw [if_pos z]; rw [if_neg (show ¬ inB i (RL x.toNatClampNeg).length = true by rw [z]; decide), ite_self]⟩)

set_option maxHeartbeats 4000000 in
set_option maxRecDepth 100000 in
theorem m_alter (l : Launch) (D : va_G) (cI cB cJ cR : ClassId) (mm : Nat) (g : Nat → Value) (Msizes : Nat) (Mrows : Nat) (msizes : Nat → Int32) (mrows : Nat → Int32) (x : Int32) (i : Int32) (v : Int32) (RL : Nat → List Int32) (g_sizes : g 2 = .ref Msizes) (g_rows : g 1 = .ref Mrows) (hrw : rwR mrows msizes RL) (hoc : ∀ k, k < 4 → octL (RL k)) : CMi l yX9_alter cX9_alter 5 (some .int) ({ frames := 2, cells := 0, slots := 0, locals := 47 }) D (tyA cI cB cJ cR) 0 0 [.ref mm, .int x, .int i, .int v] [(mm, .inr (9, fl 78 g)), (Msizes, .inl (cI, 4, .inl msizes)), (Mrows, .inl (cB, 32000, .inl mrows))] (fun (r : Int32) (u9 : (Nat → Value) × (Nat → Int32) × (Nat → List Int32)) => match u9 with | (g9, q2, RL9) => frm [0] g g9 ∧ g9 0 = .int (nI 0) ∧ altP x i v RL = (r, RL9) ∧ rwR q2 msizes RL9) (fun (u9 : (Nat → Value) × (Nat → Int32) × (Nat → List Int32)) => match u9 with | (g9, q2, RL9) => [(mm, .inr (9, fl 78 g9)), (Msizes, .inl (cI, 4, .inl msizes)), (Mrows, .inl (cB, 32000, .inl q2))]) := by
  refine st_i (cc := cX9_alter) (maxL := 5) (by decide) (Nat.le_of_ble_eq_true rfl) ?_
  intro p0 e0 s0 m0 below meth c0 A0 Q0 hBD hret hP hD hS ls hl
  obtain ⟨hx, hb, hml, hown, hts, hnm, hK, hNw, hMk, hA⟩ := hBD
  have hl : lv_has ls 5 [(0, .ref mm), (1, .int x), (2, .int i), (3, .int v)] := hl
  have hP : va_P D vwCl [(mm, .inr (9, fl 78 g)), (Msizes, .inl (cI, 4, .inl msizes)), (Mrows, .inl (cB, 32000, .inl mrows))] s0.heap := hP
  have hD : va_D A0 [(mm, .inr (9, fl 78 g)), (Msizes, .inl (cI, 4, .inl msizes)), (Mrows, .inl (cB, 32000, .inl mrows))] := hD
  refine lv_aload_n hx hb dX9_alter_0 rfl (lv_at hl 0 rfl) ?_
  refine lv_iconst (v := 0) hx hb dX9_alter_1 (by decide) ?_
  refine ri (y := nI 0) (nI_0.symm) ?_
  refine fx_put (D := D) (ci := 9) (v := .int (nI 0)) (ty := .int) (C := RX9) (T := TX9) (N := 78) hx hb hts in_X9 tyX9 tyX9_ok nmX9 hown hK hP hD hS 0 rfl rfl 0 (by decide) (hts _ kX9_131) (fun _ h9 => h9) rfl (by decide +kernel) rfl rfl dX9_alter_2 (fun H locs hP hD hS => ?_)
  have hP : va_P D vwCl [(mm, .inr (9, fl 78 (va_up g 0 (.int (nI 0))))), (Msizes, .inl (cI, 4, .inl msizes)), (Mrows, .inl (cB, 32000, .inl mrows))] H := hP
  have hD : va_D A0 [(mm, .inr (9, fl 78 (va_up g 0 (.int (nI 0))))), (Msizes, .inl (cI, 4, .inl msizes)), (Mrows, .inl (cB, 32000, .inl mrows))] := hD
  refine lv_aload_n hx hb dX9_alter_5 rfl (lv_at hl 0 rfl) ?_
  refine lv_iload_n hx hb dX9_alter_6 rfl (lv_at hl 1 rfl) ?_
  refine lv_iload_n hx hb dX9_alter_7 rfl (lv_at hl 2 rfl) ?_
  refine jn_i (wr := []) hA hP hD hS [0, 1, 2] [] rfl rfl (by decide) (by decide) (rn_V (As := [.int x, .int i]) (rest := []) ⟨hx, hb, hml, hown, hts⟩ (cvV 2 hts zc_yX9_none zi_X9 zm_yX9_none zv_yX9_none kX9_148 (by decide +kernel) rfl rfl ⟨Nat.le_of_ble_eq_true rfl, Nat.le_of_ble_eq_true rfl⟩) (m_none l D cI cB cJ cR mm (va_up g 0 (.int (nI 0))) Msizes Mrows msizes mrows x i RL (g_sizes) (g_rows) (hrw) H.size) hK hNw hMk hA hP hD hS [0, 1, 2] rfl rfl (by decide) 0 rfl rfl rfl rfl hl.1 rfl (Nat.le_of_ble_eq_true rfl) dX9_alter_8 ⟨Nat.le_of_ble_eq_true rfl, Nat.le_of_ble_eq_true rfl⟩) (fun rn u9 H locs hrn hP hD hS => ?_)
  obtain ⟨rnb, rfl, hrn⟩ := hrn
  try dsimp only at hrn
  have hP : va_P D vwCl [(mm, .inr (9, fl 78 (va_up g 0 (.int (nI 0))))), (Msizes, .inl (cI, 4, .inl msizes)), (Mrows, .inl (cB, 32000, .inl mrows))] H := hP
  have hD : va_D A0 [(mm, .inr (9, fl 78 (va_up g 0 (.int (nI 0))))), (Msizes, .inl (cI, 4, .inl msizes)), (Mrows, .inl (cB, 32000, .inl mrows))] := hD
  refine bz_eq (tgt := 16) hx hb dX9_alter_11 (by decide) (fun c_2 => ?_) (fun c_2 => ?_)
  · have hin := c_2
    have hd9 := of_decide_eq_false (p := isR x = false ∨ inB i (RL x.toNatClampNeg).length = false) (by rw [← hrn]; exact hin)
    have hxr : isR x = true := by cases h9 : isR x; exact absurd (Or.inl h9) hd9; rfl
    obtain ⟨k, hk, hx9⟩ := isR_ex hxr
    have hk9 : x.toNatClampNeg = k := by rw [hx9, nI_clamp (by omega)]
    have hib : inB i (RL k).length = true := by rw [← hk9]; cases h9 : inB i (RL x.toNatClampNeg).length; exact absurd (Or.inr h9) hd9; rfl
    have hkl := (hrw k hk).2.1
    have hk8 := rmN_le k
    obtain ⟨j, hj, hi9⟩ := inB_of hib (by omega)
    have hj9 : i.toNatClampNeg = j := by rw [hi9, nI_clamp (by omega)]
    rw [hx9] at hl
    rw [hi9] at hl
    have hap : altP x i v RL = ((altL (RL k) i v).1, va_up RL k (altL (RL k) i v).2) := by rw [altP, if_neg (by rw [hxr]; decide), hk9]
    have hal : altL (RL k) i v = if v < 0 ∨ ¬ v ≤ 255 then (-2, RL k) else ((RL k).getD j 0, (RL k).set j v) := by rw [altL, if_pos hib, hj9]
    refine lv_iload_n hx hb dX9_alter_16 rfl (lv_at hl 3 rfl) ?_
    refine lv_i2l hx hb dX9_alter_17 (v := v.toInt64) rfl ?_
    refine lv_lconst (v := 0) hx hb dX9_alter_18 (by decide) ?_
    refine lv_ldc2 hx hb hown (hts _ kX9_152) dX9_alter_19 ?_
    refine rl (y := lN 255) (rfl) ?_
    refine jn_i (wr := [(mm, .inr (9, fl 78 (va_up g 0 (.int (nI 0))))), (Msizes, .inl (cI, 4, .inl msizes)), (Mrows, .inl (cB, 32000, .inl mrows))]) hA hP hD hS [] [0, 1, 2] rfl rfl (by decide) (by decide) (rn_S (As := [.long v.toInt64, .long 0, .long (lN 255)]) (rest := []) ⟨hx, hb, hml, hown, hts⟩ (cvS 3 hts zc_yX9_in zi_X9 zs_yX9_in kX9_136 (by decide +kernel) rfl rfl ⟨Nat.le_of_ble_eq_true rfl, Nat.le_of_ble_eq_true rfl⟩) (m_in l D cI cB cJ cR v.toInt64 0 (lN 255)  H.size) hK hNw hMk hA hP hD hS [] rfl rfl (by decide) rfl hl.1 rfl (Nat.le_of_ble_eq_true rfl) dX9_alter_22 ⟨Nat.le_of_ble_eq_true rfl, Nat.le_of_ble_eq_true rfl⟩) (fun rb u9 H locs hrb hP hD hS => ?_)
    obtain ⟨rbb, rfl, hrb⟩ := hrb
    try dsimp only at hrb
    have hP : va_P D vwCl [(mm, .inr (9, fl 78 (va_up g 0 (.int (nI 0))))), (Msizes, .inl (cI, 4, .inl msizes)), (Mrows, .inl (cB, 32000, .inl mrows))] H := hP
    have hD : va_D A0 [(mm, .inr (9, fl 78 (va_up g 0 (.int (nI 0))))), (Msizes, .inl (cI, 4, .inl msizes)), (Mrows, .inl (cB, 32000, .inl mrows))] := hD
    rw [in32 (by decide)] at hrb
    refine bz_ne (tgt := 31) hx hb dX9_alter_25 (by decide) (fun c_3 => ?_) (fun c_3 => ?_)
    · have hv : ¬ v < 0 ∧ v ≤ nI 255 := of_decide_eq_true (by rw [← hrb]; exact c_3)
      obtain ⟨w, hw, hvw⟩ := nI_of8 hv.1 hv.2 (by decide)
      rw [if_neg (fun z => z.elim hv.1 (fun y => y hv.2)), hvw] at hal
      rw [hvw] at hl
      refine lv_aload_n hx hb dX9_alter_31 rfl (lv_at hl 0 rfl) ?_
      refine fx_get (D := D) (ci := 9) (v := .ref Mrows) (C := RX9) (T := TX9) (N := 78) hx hb hts in_X9 hown hK hP 0 rfl rfl 1 (by decide) (hts _ kX9_7) (fun _ h9 => h9) (g_rows) dX9_alter_32 ?_
      refine lv_sipush (v := 8000) hx hb dX9_alter_35 (by decide) ?_
      refine lv_iload_n hx hb dX9_alter_38 rfl (lv_at hl 1 rfl) ?_
      refine lv_imul hx hb dX9_alter_39 ?_
      refine ri (y := nI (8000 * k)) (m8k k hk) ?_
      refine lv_iload_n hx hb dX9_alter_40 rfl (lv_at hl 2 rfl) ?_
      refine lv_iadd hx hb dX9_alter_41 ?_
      refine ri (y := nI ((8000 * k) + j)) (nI_add (8000 * k) j) ?_
      refine ax_bld hx hb hK hP 2 1 rfl rfl (8000 * k + j) (rfl) (by omega) (by omega) dX9_alter_42 ?_
      refine ri (y := ((RL k).getD j 0).toInt8.toInt32) ((hrw k hk).2.2 j hj) ?_
      refine lv_sipush (v := 255) hx hb dX9_alter_43 (by decide) ?_
      refine lv_iand hx hb dX9_alter_46 ?_
      refine ri (y := (RL k).getD j 0) (octL_get (hoc k hk) hj) ?_
      refine lv_istore (lv' := [(4, .int ((RL k).getD j 0)), (0, .ref mm), (1, .int (nI k)), (2, .int (nI j)), (3, .int (nI w))]) hx hb dX9_alter_47 hl (by decide) rfl (fun ls hl => ?_)
      refine lv_aload_n hx hb dX9_alter_49 rfl (lv_at hl 1 rfl) ?_
      refine fx_get (D := D) (ci := 9) (v := .ref Mrows) (C := RX9) (T := TX9) (N := 78) hx hb hts in_X9 hown hK hP 0 rfl rfl 1 (by decide) (hts _ kX9_7) (fun _ h9 => h9) (g_rows) dX9_alter_50 ?_
      refine lv_sipush (v := 8000) hx hb dX9_alter_53 (by decide) ?_
      refine lv_iload_n hx hb dX9_alter_56 rfl (lv_at hl 2 rfl) ?_
      refine lv_imul hx hb dX9_alter_57 ?_
      refine ri (y := nI (8000 * k)) (m8k k hk) ?_
      refine lv_iload_n hx hb dX9_alter_58 rfl (lv_at hl 3 rfl) ?_
      refine lv_iadd hx hb dX9_alter_59 ?_
      refine ri (y := nI ((8000 * k) + j)) (nI_add (8000 * k) j) ?_
      refine lv_iload_n hx hb dX9_alter_60 rfl (lv_at hl 4 rfl) ?_
      refine lv_i2b hx hb dX9_alter_61 (v := (nI w).toInt8.toInt32) rfl ?_
      refine ax_bst hx hb hK hP hD hS 2 1 rfl rfl (8000 * k + j) (rfl) (by omega) (by omega) (z := s8 w) (s8_re w (by omega)) dX9_alter_62 (fun H locs hP hD hS => ?_)
      have hP : va_P D vwCl [(mm, .inr (9, fl 78 (va_up g 0 (.int (nI 0))))), (Msizes, .inl (cI, 4, .inl msizes)), (Mrows, .inl (cB, 32000, .inl (upd mrows (8000 * k + j) (s8 w))))] H := hP
      have hD : va_D A0 [(mm, .inr (9, fl 78 (va_up g 0 (.int (nI 0))))), (Msizes, .inl (cI, 4, .inl msizes)), (Mrows, .inl (cB, 32000, .inl (upd mrows (8000 * k + j) (s8 w))))] := hD
      refine lv_iload hx hb dX9_alter_63 (lv_at hl 0 rfl) ?_
      exact hret 65 ls _ _ _ ((va_up g 0 (.int (nI 0))), upd mrows (8000 * k + j) (s8 w), va_up RL k ((RL k).set j (nI w))) dX9_alter_65 hP hD hS (⟨(frm_up frm_refl (by decide)), rfl, ⟨by rw [hap, hvw, hal], rwR_set hrw hk hj⟩⟩)
    · have hv : ¬ (¬ v < 0 ∧ v ≤ nI 255) := of_decide_eq_false (by rw [← hrb]; exact c_3)
      rw [if_pos (by by_cases z : v < 0; exact Or.inl z; exact Or.inr (fun w => hv ⟨z, w⟩))] at hal
      refine lv_bipush (v := -2) hx hb dX9_alter_28 (by decide) ?_
      exact hret 30 ls _ _ _ ((va_up g 0 (.int (nI 0))), mrows, RL) dX9_alter_30 hP hD hS (⟨(frm_up frm_refl (by decide)), rfl, ⟨by rw [hap, hal, va_up_same], hrw⟩⟩)
  · have hd9 := (of_decide_eq_true (p := isR x = false ∨ inB i (RL x.toNatClampNeg).length = false) (by rw [← hrn]; exact c_2))
    refine lv_iconst (v := -1) hx hb dX9_alter_14 (by decide) ?_
    exact hret 15 ls _ _ _ ((va_up g 0 (.int (nI 0))), mrows, RL) dX9_alter_15 hP hD hS (⟨(frm_up frm_refl (by decide)), rfl, ⟨by unfold altP; rcases hd9 with z | z; rw [if_pos z]; by_cases y : isR x = false; rw [if_pos y]; rw [if_neg y, altL, if_neg (by rw [z]; decide), va_up_same], hrw⟩⟩)

set_option maxHeartbeats 4000000 in
set_option maxRecDepth 100000 in
theorem m_code (l : Launch) (D : va_G) (cI cB cJ cR : ClassId) (mm : Nat) (g : Nat → Value) (Mfirst : Nat) (Mown : Nat) (mfirst : Nat → Int32) (mown : Nat → Int32) (near : Nat) (same : Nat) (tt : Nat → Nat) (x : Int32) (i : Int32) (g_ownNear : g 5 = .int (nI near)) (g_ownSame : g 6 = .int (nI same)) (g_first : g 3 = .ref Mfirst) (g_own : g 4 = .ref Mown) (hft : bys mfirst firstT 1536) (ho : bys mown tt 1536) (h8 : near ≤ 8) (h4 : same ≤ 4) : CMi l yX9_code cX9_code 3 (some .int) ({ frames := 2, cells := 0, slots := 0, locals := 48 }) D (tyA cI cB cJ cR) 0 0 [.ref mm, .int x, .int i] [(mm, .inr (9, fl 78 g)), (Mfirst, .inl (cB, 1536, .inl mfirst)), (Mown, .inl (cB, 1536, .inl mown))] (fun (r : Int32) (g9 : (Nat → Value)) => frm [0] g g9 ∧ g9 0 = .int (nI 0) ∧ (x < 0 ∨ ¬ x ≤ 1 → r = -1) ∧ (x = 0 → codQ i firstT 9 r) ∧ (x = 1 → codQ i tt (near + same + 2) r)) (fun (g9 : (Nat → Value)) => [(mm, .inr (9, fl 78 g9)), (Mfirst, .inl (cB, 1536, .inl mfirst)), (Mown, .inl (cB, 1536, .inl mown))]) := by
  refine st_i (cc := cX9_code) (maxL := 3) (by decide) (Nat.le_of_ble_eq_true rfl) ?_
  intro p0 e0 s0 m0 below meth c0 A0 Q0 hBD hret hP hD hS ls hl
  obtain ⟨hx, hb, hml, hown, hts, hnm, hK, hNw, hMk, hA⟩ := hBD
  have hl : lv_has ls 3 [(0, .ref mm), (1, .int x), (2, .int i)] := hl
  have hP : va_P D vwCl [(mm, .inr (9, fl 78 g)), (Mfirst, .inl (cB, 1536, .inl mfirst)), (Mown, .inl (cB, 1536, .inl mown))] s0.heap := hP
  have hD : va_D A0 [(mm, .inr (9, fl 78 g)), (Mfirst, .inl (cB, 1536, .inl mfirst)), (Mown, .inl (cB, 1536, .inl mown))] := hD
  refine lv_aload_n hx hb dX9_code_0 rfl (lv_at hl 0 rfl) ?_
  refine lv_iconst (v := 0) hx hb dX9_code_1 (by decide) ?_
  refine ri (y := nI 0) (nI_0.symm) ?_
  refine fx_put (D := D) (ci := 9) (v := .int (nI 0)) (ty := .int) (C := RX9) (T := TX9) (N := 78) hx hb hts in_X9 tyX9 tyX9_ok nmX9 hown hK hP hD hS 0 rfl rfl 0 (by decide) (hts _ kX9_131) (fun _ h9 => h9) rfl (by decide +kernel) rfl rfl dX9_code_2 (fun H locs hP hD hS => ?_)
  have hP : va_P D vwCl [(mm, .inr (9, fl 78 (va_up g 0 (.int (nI 0))))), (Mfirst, .inl (cB, 1536, .inl mfirst)), (Mown, .inl (cB, 1536, .inl mown))] H := hP
  have hD : va_D A0 [(mm, .inr (9, fl 78 (va_up g 0 (.int (nI 0))))), (Mfirst, .inl (cB, 1536, .inl mfirst)), (Mown, .inl (cB, 1536, .inl mown))] := hD
  refine lv_iload_n hx hb dX9_code_5 rfl (lv_at hl 1 rfl) ?_
  refine lv_i2l hx hb dX9_code_6 (v := x.toInt64) rfl ?_
  refine lv_lconst (v := 0) hx hb dX9_code_7 (by decide) ?_
  refine lv_lconst (v := 1) hx hb dX9_code_8 (by decide) ?_
  refine rl (y := lN 1) (rfl) ?_
  refine jn_i (wr := [(mm, .inr (9, fl 78 (va_up g 0 (.int (nI 0))))), (Mfirst, .inl (cB, 1536, .inl mfirst)), (Mown, .inl (cB, 1536, .inl mown))]) hA hP hD hS [] [0, 1, 2] rfl rfl (by decide) (by decide) (rn_S (As := [.long x.toInt64, .long 0, .long (lN 1)]) (rest := []) ⟨hx, hb, hml, hown, hts⟩ (cvS 3 hts zc_yX9_in zi_X9 zs_yX9_in kX9_136 (by decide +kernel) rfl rfl ⟨Nat.le_of_ble_eq_true rfl, Nat.le_of_ble_eq_true rfl⟩) (m_in l D cI cB cJ cR x.toInt64 0 (lN 1)  H.size) hK hNw hMk hA hP hD hS [] rfl rfl (by decide) rfl hl.1 rfl (Nat.le_of_ble_eq_true rfl) dX9_code_9 ⟨Nat.le_of_ble_eq_true rfl, Nat.le_of_ble_eq_true rfl⟩) (fun ra u9 H locs hra hP hD hS => ?_)
  obtain ⟨rab, rfl, hra⟩ := hra
  try dsimp only at hra
  have hP : va_P D vwCl [(mm, .inr (9, fl 78 (va_up g 0 (.int (nI 0))))), (Mfirst, .inl (cB, 1536, .inl mfirst)), (Mown, .inl (cB, 1536, .inl mown))] H := hP
  have hD : va_D A0 [(mm, .inr (9, fl 78 (va_up g 0 (.int (nI 0))))), (Mfirst, .inl (cB, 1536, .inl mfirst)), (Mown, .inl (cB, 1536, .inl mown))] := hD
  rw [in32 (by decide)] at hra
  refine bz_eq (tgt := 29) hx hb dX9_code_12 (by decide) (fun c_1 => ?_) (fun c_1 => ?_)
  · have hn : ¬ (¬ x < 0 ∧ x ≤ nI 1) := of_decide_eq_false (by rw [← hra]; exact c_1)
    refine lv_iconst (v := -1) hx hb dX9_code_29 (by decide) ?_
    exact hret 30 ls _ _ _ ((va_up g 0 (.int (nI 0)))) dX9_code_30 hP hD hS (⟨(frm_up frm_refl (by decide)), rfl, ⟨fun _ => rfl, fun z => absurd (by rw [z]; decide) hn, fun z => absurd (by rw [z]; decide) hn⟩⟩)
  · have hn : ¬ x < 0 ∧ x ≤ nI 1 := of_decide_eq_true (by rw [← hra]; exact c_1)
    have hno : ¬ (x < 0 ∨ ¬ x ≤ 1) := fun z => z.elim hn.1 (fun w => w hn.2)
    refine lv_iload_n hx hb dX9_code_15 rfl (lv_at hl 2 rfl) ?_
    refine lv_i2l hx hb dX9_code_16 (v := i.toInt64) rfl ?_
    refine lv_ldc2 hx hb hown (hts _ kX9_158) dX9_code_17 ?_
    refine lv_ldc2 hx hb hown (hts _ kX9_154) dX9_code_20 ?_
    refine jn_i (wr := [(mm, .inr (9, fl 78 (va_up g 0 (.int (nI 0))))), (Mfirst, .inl (cB, 1536, .inl mfirst)), (Mown, .inl (cB, 1536, .inl mown))]) hA hP hD hS [] [0, 1, 2] rfl rfl (by decide) (by decide) (rn_S (As := [.long i.toInt64, .long (-1), .long 1535]) (rest := []) ⟨hx, hb, hml, hown, hts⟩ (cvS 3 hts zc_yX9_in zi_X9 zs_yX9_in kX9_136 (by decide +kernel) rfl rfl ⟨Nat.le_of_ble_eq_true rfl, Nat.le_of_ble_eq_true rfl⟩) (m_in l D cI cB cJ cR i.toInt64 (-1) 1535  H.size) hK hNw hMk hA hP hD hS [] rfl rfl (by decide) rfl hl.1 rfl (Nat.le_of_ble_eq_true rfl) dX9_code_23 ⟨Nat.le_of_ble_eq_true rfl, Nat.le_of_ble_eq_true rfl⟩) (fun rb u9 H locs hrb hP hD hS => ?_)
    obtain ⟨rbb, rfl, hrb⟩ := hrb
    try dsimp only at hrb
    have hP : va_P D vwCl [(mm, .inr (9, fl 78 (va_up g 0 (.int (nI 0))))), (Mfirst, .inl (cB, 1536, .inl mfirst)), (Mown, .inl (cB, 1536, .inl mown))] H := hP
    have hD : va_D A0 [(mm, .inr (9, fl 78 (va_up g 0 (.int (nI 0))))), (Mfirst, .inl (cB, 1536, .inl mfirst)), (Mown, .inl (cB, 1536, .inl mown))] := hD
    rw [in32c] at hrb
    refine bz_ne (tgt := 31) hx hb dX9_code_26 (by decide) (fun c_2 => ?_) (fun c_2 => ?_)
    · have hi : i = -1 ∨ inB i 1536 = true := of_decide_eq_true (by rw [← hrb]; exact c_2)
      refine lv_iload_n hx hb dX9_code_31 rfl (lv_at hl 2 rfl) ?_
      refine lv_if_lt (tgt := 59) hx hb dX9_code_32 (by decide) (fun c_3 => ?_) (fun c_3 => ?_)
      · have hi1 : i = -1 := hi.elim id (fun z => absurd c_3 (by obtain ⟨j, hj, hij⟩ := inB_of z (by decide); rw [hij]; exact nI_pos (by omega)))
        refine lv_iload_n hx hb dX9_code_59 rfl (lv_at hl 1 rfl) ?_
        refine lv_if_eq (tgt := 84) hx hb dX9_code_60 (by decide) (fun c_4 => ?_) (fun c_4 => ?_)
        · refine lv_iconst (v := 1) hx hb dX9_code_84 (by decide) ?_
          refine lv_goto (tgt := 89) hx hb dX9_code_85 (by decide) ?_
          exact hret 89 ls _ _ _ ((va_up g 0 (.int (nI 0)))) dX9_code_89 hP hD hS (⟨(frm_up frm_refl (by decide)), rfl, ⟨fun z => absurd z hno, fun _ => ⟨fun _ => ⟨fun _ => rfl, fun z => absurd first_right z⟩, fun z => absurd hi1 z⟩, fun z => absurd (c_4.symm.trans z) (by decide)⟩⟩)
        · refine lv_aload_n hx hb dX9_code_63 rfl (lv_at hl 0 rfl) ?_
          refine fx_get (D := D) (ci := 9) (v := .ref Mown) (C := RX9) (T := TX9) (N := 78) hx hb hts in_X9 hown hK hP 0 rfl rfl 4 (by decide) (hts _ kX9_20) (fun _ h9 => h9) (g_own) dX9_code_64 ?_
          refine lv_aload_n hx hb dX9_code_67 rfl (lv_at hl 0 rfl) ?_
          refine fx_get (D := D) (ci := 9) (v := .int (nI near)) (C := RX9) (T := TX9) (N := 78) hx hb hts in_X9 hown hK hP 0 rfl rfl 5 (by decide) (hts _ kX9_23) (fun _ h9 => h9) (g_ownNear) dX9_code_68 ?_
          refine lv_aload_n hx hb dX9_code_71 rfl (lv_at hl 0 rfl) ?_
          refine fx_get (D := D) (ci := 9) (v := .int (nI same)) (C := RX9) (T := TX9) (N := 78) hx hb hts in_X9 hown hK hP 0 rfl rfl 6 (by decide) (hts _ kX9_27) (fun _ h9 => h9) (g_ownSame) dX9_code_72 ?_
          refine lv_iadd hx hb dX9_code_75 ?_
          refine ri (y := nI (near + same)) (nI_add near same) ?_
          refine lv_iconst (v := 2) hx hb dX9_code_76 (by decide) ?_
          refine lv_iadd hx hb dX9_code_77 ?_
          refine ri (y := nI ((near + same) + 2)) (nI_add (near + same) 2) ?_
          refine jn_i (wr := [(mm, .inr (9, fl 78 (va_up g 0 (.int (nI 0))))), (Mfirst, .inl (cB, 1536, .inl mfirst))]) hA hP hD hS [2] [0, 1] rfl rfl (by decide) (by decide) (rn_S (As := [.ref Mown, .int (nI (near + same + 2))]) (rest := []) ⟨hx, hb, hml, hown, hts⟩ (cvS 2 hts zc_yX9_isRight zi_X9 zs_yX9_isRight kX9_160 (by decide +kernel) rfl rfl ⟨Nat.le_of_ble_eq_true rfl, Nat.le_of_ble_eq_true rfl⟩) (m_isRight l D cI cB cJ cR Mown 1536 mown tt (near + same + 2) (by decide) (ho) (by omega) H.size) hK hNw hMk hA hP hD hS [2] rfl rfl (by decide) rfl hl.1 rfl (Nat.le_of_ble_eq_true rfl) dX9_code_78 ⟨Nat.le_of_ble_eq_true rfl, Nat.le_of_ble_eq_true rfl⟩) (fun rc u9 H locs hrc hP hD hS => ?_)
          obtain ⟨rcb, rfl, hrc⟩ := hrc
          try dsimp only at hrc
          have hP : va_P D vwCl [(mm, .inr (9, fl 78 (va_up g 0 (.int (nI 0))))), (Mfirst, .inl (cB, 1536, .inl mfirst)), (Mown, .inl (cB, 1536, .inl mown))] H := hP
          have hD : va_D A0 [(mm, .inr (9, fl 78 (va_up g 0 (.int (nI 0))))), (Mfirst, .inl (cB, 1536, .inl mfirst)), (Mown, .inl (cB, 1536, .inl mown))] := hD
          refine bz_eq (tgt := 88) hx hb dX9_code_81 (by decide) (fun c_5 => ?_) (fun c_5 => ?_)
          · refine lv_iconst (v := 0) hx hb dX9_code_88 (by decide) ?_
            exact hret 89 ls _ _ _ ((va_up g 0 (.int (nI 0)))) dX9_code_89 hP hD hS (⟨(frm_up frm_refl (by decide)), rfl, ⟨fun z => absurd z hno, fun z => absurd z c_4, fun _ => ⟨fun _ => ⟨fun z => absurd (hrc.mpr z) (by rw [c_5]; decide), fun _ => rfl⟩, fun z => absurd hi1 z⟩⟩⟩)
          · refine lv_iconst (v := 1) hx hb dX9_code_84 (by decide) ?_
            refine lv_goto (tgt := 89) hx hb dX9_code_85 (by decide) ?_
            exact hret 89 ls _ _ _ ((va_up g 0 (.int (nI 0)))) dX9_code_89 hP hD hS (⟨(frm_up frm_refl (by decide)), rfl, ⟨fun z => absurd z hno, fun z => absurd z c_4, fun _ => ⟨fun _ => ⟨fun _ => rfl, fun z => absurd (hrc.mp c_5) z⟩, fun z => absurd hi1 z⟩⟩⟩)
      · have hi1 : ¬ i = -1 := fun z => c_3 (by rw [z]; decide)
        have hib : inB i 1536 = true := hi.elim (fun z => absurd z hi1) id
        obtain ⟨j, hj, hij⟩ := inB_of hib (by decide)
        have hj9 : i.toNatClampNeg = j := by rw [hij, nI_clamp (by omega)]
        rw [hij] at hl
        refine lv_iload_n hx hb dX9_code_35 rfl (lv_at hl 1 rfl) ?_
        refine lv_if_ne (tgt := 48) hx hb dX9_code_36 (by decide) (fun c_6 => ?_) (fun c_6 => ?_)
        · refine lv_aload_n hx hb dX9_code_48 rfl (lv_at hl 0 rfl) ?_
          refine fx_get (D := D) (ci := 9) (v := .ref Mown) (C := RX9) (T := TX9) (N := 78) hx hb hts in_X9 hown hK hP 0 rfl rfl 4 (by decide) (hts _ kX9_20) (fun _ h9 => h9) (g_own) dX9_code_49 ?_
          refine lv_iload_n hx hb dX9_code_52 rfl (lv_at hl 2 rfl) ?_
          refine ax_bld hx hb hK hP 2 1 rfl rfl j (rfl) (hj) (by omega) dX9_code_53 ?_
          refine lv_sipush (v := 255) hx hb dX9_code_54 (by decide) ?_
          refine lv_iand hx hb dX9_code_57 ?_
          refine ri (y := nI (tt j)) (by rw [(ho j hj).1]; exact s8_and _ (ho j hj).2) ?_
          exact hret 58 ls _ _ _ ((va_up g 0 (.int (nI 0)))) dX9_code_58 hP hD hS (⟨(frm_up frm_refl (by decide)), rfl, ⟨fun z => absurd z hno, fun z => absurd z c_6, fun _ => ⟨fun z => absurd z hi1, fun _ => by rw [if_pos hib, hj9]⟩⟩⟩)
        · refine lv_aload_n hx hb dX9_code_39 rfl (lv_at hl 0 rfl) ?_
          refine fx_get (D := D) (ci := 9) (v := .ref Mfirst) (C := RX9) (T := TX9) (N := 78) hx hb hts in_X9 hown hK hP 0 rfl rfl 3 (by decide) (hts _ kX9_17) (fun _ h9 => h9) (g_first) dX9_code_40 ?_
          refine lv_iload_n hx hb dX9_code_43 rfl (lv_at hl 2 rfl) ?_
          refine ax_bld hx hb hK hP 1 1 rfl rfl j (rfl) (hj) (by omega) dX9_code_44 ?_
          refine lv_goto (tgt := 54) hx hb dX9_code_45 (by decide) ?_
          refine lv_sipush (v := 255) hx hb dX9_code_54 (by decide) ?_
          refine lv_iand hx hb dX9_code_57 ?_
          refine ri (y := nI (firstT j)) (by rw [(hft j hj).1]; exact s8_and _ (hft j hj).2) ?_
          exact hret 58 ls _ _ _ ((va_up g 0 (.int (nI 0)))) dX9_code_58 hP hD hS (⟨(frm_up frm_refl (by decide)), rfl, ⟨fun z => absurd z hno, fun _ => ⟨fun z => absurd z hi1, fun _ => by rw [if_pos hib, hj9]⟩, fun z => absurd (c_6.symm.trans z) (by decide)⟩⟩)
    · have hi : ¬ (i = -1 ∨ inB i 1536 = true) := of_decide_eq_false (by rw [← hrb]; exact c_2)
      have hq : ∀ T m, codQ i T m (-1) := fun T m => ⟨fun z => absurd (Or.inl z) hi, fun _ => by rw [if_neg (fun z => hi (Or.inr z))]⟩
      refine lv_iconst (v := -1) hx hb dX9_code_29 (by decide) ?_
      exact hret 30 ls _ _ _ ((va_up g 0 (.int (nI 0)))) dX9_code_30 hP hD hS (⟨(frm_up frm_refl (by decide)), rfl, ⟨fun _ => rfl, fun _ => hq _ _, fun _ => hq _ _⟩⟩)

set_option maxHeartbeats 4000000 in
set_option maxRecDepth 100000 in
theorem m_instruction (l : Launch) (D : va_G) (cI cB cJ cR : ClassId) (mm : Nat) (g : Nat → Value) (MiKind : Nat) (MiSize : Nat) (MiAddress : Nat) (MiMode : Nat) (MiCode : Nat) (MiWindow : Nat) (miKind : Nat → Int32) (miSize : Nat → Int32) (miAddress : Nat → Int32) (miMode : Nat → Int32) (miCode : Nat → Int32) (miWindow : Nat → Int32) (k1 : Nat) (gg : Nat → Nat → Int32) (k : Int32) (w : Int32) (g_listed : g 13 = .int (nI (min k1 4000))) (g_iKind : g 14 = .ref MiKind) (g_iSize : g 15 = .ref MiSize) (g_iAddress : g 16 = .ref MiAddress) (g_iMode : g 17 = .ref MiMode) (g_iCode : g 18 = .ref MiCode) (g_iWindow : g 19 = .ref MiWindow) (hd : dRel miKind miSize miAddress miMode miCode miWindow gg (min k1 4000)) : CMi l yX9_instruction cX9_instruction 3 (some .int) ({ frames := 1, cells := 0, slots := 0, locals := 25 }) D (tyA cI cB cJ cR) 0 0 [.ref mm, .int k, .int w] [(mm, .inr (9, fl 78 g)), (MiKind, .inl (cI, 4000, .inl miKind)), (MiSize, .inl (cI, 4000, .inl miSize)), (MiAddress, .inl (cI, 4000, .inl miAddress)), (MiMode, .inl (cI, 4000, .inl miMode)), (MiCode, .inl (cI, 4000, .inl miCode)), (MiWindow, .inl (cI, 4000, .inl miWindow))] (fun (r : Int32) (g9 : (Nat → Value)) => frm [0] g g9 ∧ g9 0 = .int (nI 0) ∧ r = insP k w k1 gg) (fun (g9 : (Nat → Value)) => [(mm, .inr (9, fl 78 g9)), (MiKind, .inl (cI, 4000, .inl miKind)), (MiSize, .inl (cI, 4000, .inl miSize)), (MiAddress, .inl (cI, 4000, .inl miAddress)), (MiMode, .inl (cI, 4000, .inl miMode)), (MiCode, .inl (cI, 4000, .inl miCode)), (MiWindow, .inl (cI, 4000, .inl miWindow))]) := by
  refine st_i (cc := cX9_instruction) (maxL := 3) (by decide) (Nat.le_of_ble_eq_true rfl) ?_
  intro p0 e0 s0 m0 below meth c0 A0 Q0 hBD hret hP hD hS ls hl
  obtain ⟨hx, hb, hml, hown, hts, hnm, hK, hNw, hMk, hA⟩ := hBD
  have hl : lv_has ls 3 [(0, .ref mm), (1, .int k), (2, .int w)] := hl
  have hP : va_P D vwCl [(mm, .inr (9, fl 78 g)), (MiKind, .inl (cI, 4000, .inl miKind)), (MiSize, .inl (cI, 4000, .inl miSize)), (MiAddress, .inl (cI, 4000, .inl miAddress)), (MiMode, .inl (cI, 4000, .inl miMode)), (MiCode, .inl (cI, 4000, .inl miCode)), (MiWindow, .inl (cI, 4000, .inl miWindow))] s0.heap := hP
  have hD : va_D A0 [(mm, .inr (9, fl 78 g)), (MiKind, .inl (cI, 4000, .inl miKind)), (MiSize, .inl (cI, 4000, .inl miSize)), (MiAddress, .inl (cI, 4000, .inl miAddress)), (MiMode, .inl (cI, 4000, .inl miMode)), (MiCode, .inl (cI, 4000, .inl miCode)), (MiWindow, .inl (cI, 4000, .inl miWindow))] := hD
  refine lv_aload_n hx hb dX9_instruction_0 rfl (lv_at hl 0 rfl) ?_
  refine lv_iconst (v := 0) hx hb dX9_instruction_1 (by decide) ?_
  refine ri (y := nI 0) (nI_0.symm) ?_
  refine fx_put (D := D) (ci := 9) (v := .int (nI 0)) (ty := .int) (C := RX9) (T := TX9) (N := 78) hx hb hts in_X9 tyX9 tyX9_ok nmX9 hown hK hP hD hS 0 rfl rfl 0 (by decide) (hts _ kX9_131) (fun _ h9 => h9) rfl (by decide +kernel) rfl rfl dX9_instruction_2 (fun H locs hP hD hS => ?_)
  have hP : va_P D vwCl [(mm, .inr (9, fl 78 (va_up g 0 (.int (nI 0))))), (MiKind, .inl (cI, 4000, .inl miKind)), (MiSize, .inl (cI, 4000, .inl miSize)), (MiAddress, .inl (cI, 4000, .inl miAddress)), (MiMode, .inl (cI, 4000, .inl miMode)), (MiCode, .inl (cI, 4000, .inl miCode)), (MiWindow, .inl (cI, 4000, .inl miWindow))] H := hP
  have hD : va_D A0 [(mm, .inr (9, fl 78 (va_up g 0 (.int (nI 0))))), (MiKind, .inl (cI, 4000, .inl miKind)), (MiSize, .inl (cI, 4000, .inl miSize)), (MiAddress, .inl (cI, 4000, .inl miAddress)), (MiMode, .inl (cI, 4000, .inl miMode)), (MiCode, .inl (cI, 4000, .inl miCode)), (MiWindow, .inl (cI, 4000, .inl miWindow))] := hD
  refine lv_iload_n hx hb dX9_instruction_5 rfl (lv_at hl 1 rfl) ?_
  refine lv_i2l hx hb dX9_instruction_6 (v := k.toInt64) rfl ?_
  refine lv_lconst (v := 0) hx hb dX9_instruction_7 (by decide) ?_
  refine lv_aload_n hx hb dX9_instruction_8 rfl (lv_at hl 0 rfl) ?_
  refine fx_get (D := D) (ci := 9) (v := .int (nI (min k1 4000))) (C := RX9) (T := TX9) (N := 78) hx hb hts in_X9 hown hK hP 0 rfl rfl 13 (by decide) (hts _ kX9_176) (fun _ h9 => h9) (g_listed) dX9_instruction_9 ?_
  refine lv_iconst (v := 1) hx hb dX9_instruction_12 (by decide) ?_
  refine lv_isub hx hb dX9_instruction_13 ?_
  refine lv_i2l hx hb dX9_instruction_14 (v := ((nI (min k1 4000)) - 1).toInt64) rfl ?_
  refine jn_i (wr := [(mm, .inr (9, fl 78 (va_up g 0 (.int (nI 0))))), (MiKind, .inl (cI, 4000, .inl miKind)), (MiSize, .inl (cI, 4000, .inl miSize)), (MiAddress, .inl (cI, 4000, .inl miAddress)), (MiMode, .inl (cI, 4000, .inl miMode)), (MiCode, .inl (cI, 4000, .inl miCode)), (MiWindow, .inl (cI, 4000, .inl miWindow))]) hA hP hD hS [] [0, 1, 2, 3, 4, 5, 6] rfl rfl (by decide) (by decide) (rn_S (As := [.long k.toInt64, .long 0, .long ((nI (min k1 4000) - 1).toInt64)]) (rest := []) ⟨hx, hb, hml, hown, hts⟩ (cvS 3 hts zc_yX9_in zi_X9 zs_yX9_in kX9_136 (by decide +kernel) rfl rfl ⟨Nat.le_of_ble_eq_true rfl, Nat.le_of_ble_eq_true rfl⟩) (m_in l D cI cB cJ cR k.toInt64 0 ((nI (min k1 4000) - 1).toInt64)  H.size) hK hNw hMk hA hP hD hS [] rfl rfl (by decide) rfl hl.1 rfl (Nat.le_of_ble_eq_true rfl) dX9_instruction_15 ⟨Nat.le_of_ble_eq_true rfl, Nat.le_of_ble_eq_true rfl⟩) (fun rb u9 H locs hrb hP hD hS => ?_)
  obtain ⟨rbb, rfl, hrb⟩ := hrb
  try dsimp only at hrb
  have hP : va_P D vwCl [(mm, .inr (9, fl 78 (va_up g 0 (.int (nI 0))))), (MiKind, .inl (cI, 4000, .inl miKind)), (MiSize, .inl (cI, 4000, .inl miSize)), (MiAddress, .inl (cI, 4000, .inl miAddress)), (MiMode, .inl (cI, 4000, .inl miMode)), (MiCode, .inl (cI, 4000, .inl miCode)), (MiWindow, .inl (cI, 4000, .inl miWindow))] H := hP
  have hD : va_D A0 [(mm, .inr (9, fl 78 (va_up g 0 (.int (nI 0))))), (MiKind, .inl (cI, 4000, .inl miKind)), (MiSize, .inl (cI, 4000, .inl miSize)), (MiAddress, .inl (cI, 4000, .inl miAddress)), (MiMode, .inl (cI, 4000, .inl miMode)), (MiCode, .inl (cI, 4000, .inl miCode)), (MiWindow, .inl (cI, 4000, .inl miWindow))] := hD
  rw [in32b (by omega)] at hrb
  refine bz_ne (tgt := 23) hx hb dX9_instruction_18 (by decide) (fun c_1 => ?_) (fun c_1 => ?_)
  · have hb9 : inB k (min k1 4000) = true := by rw [← hrb]; exact c_1
    obtain ⟨j, hj, hij⟩ := inB_of hb9 (by omega)
    have hj9 : k.toNatClampNeg = j := by rw [hij, nI_clamp (by omega)]
    obtain ⟨d0, d1, d2, d3, d4, d5⟩ := hd j hj (by omega)
    rw [hij] at hl
    refine lv_iload_n hx hb dX9_instruction_23 rfl (lv_at hl 2 rfl) ?_
    by_cases hx0 : w = 0
    · refine lv_tableIn (off := 40) (tgt := 64) hx hb dX9_instruction_24 (by rw [hx0]; decide) (by rw [hx0]; decide) (by rw [hx0]; decide) (by decide) ?_
      refine lv_aload_n hx hb dX9_instruction_64 rfl (lv_at hl 0 rfl) ?_
      refine fx_get (D := D) (ci := 9) (v := .ref MiKind) (C := RX9) (T := TX9) (N := 78) hx hb hts in_X9 hown hK hP 0 rfl rfl 14 (by decide) (hts _ kX9_40) (fun _ h9 => h9) (g_iKind) dX9_instruction_65 ?_
      refine lv_iload_n hx hb dX9_instruction_68 rfl (lv_at hl 1 rfl) ?_
      refine ax_ild hx hb hK hP 1 0 rfl rfl j (rfl) (by omega) (by omega) dX9_instruction_69 ?_
      exact hret 70 ls _ _ _ ((va_up g 0 (.int (nI 0)))) dX9_instruction_70 hP hD hS (⟨(frm_up frm_refl (by decide)), rfl, by rw [insP, if_pos hb9, hx0, if_neg (by decide), hj9]; exact d0⟩)
    by_cases hx1 : w = 1
    · refine lv_tableIn (off := 47) (tgt := 71) hx hb dX9_instruction_24 (by rw [hx1]; decide) (by rw [hx1]; decide) (by rw [hx1]; decide) (by decide) ?_
      refine lv_aload_n hx hb dX9_instruction_71 rfl (lv_at hl 0 rfl) ?_
      refine fx_get (D := D) (ci := 9) (v := .ref MiSize) (C := RX9) (T := TX9) (N := 78) hx hb hts in_X9 hown hK hP 0 rfl rfl 15 (by decide) (hts _ kX9_43) (fun _ h9 => h9) (g_iSize) dX9_instruction_72 ?_
      refine lv_iload_n hx hb dX9_instruction_75 rfl (lv_at hl 1 rfl) ?_
      refine ax_ild hx hb hK hP 2 0 rfl rfl j (rfl) (by omega) (by omega) dX9_instruction_76 ?_
      exact hret 77 ls _ _ _ ((va_up g 0 (.int (nI 0)))) dX9_instruction_77 hP hD hS (⟨(frm_up frm_refl (by decide)), rfl, by rw [insP, if_pos hb9, hx1, if_neg (by decide), hj9]; exact d1⟩)
    by_cases hx2 : w = 2
    · refine lv_tableIn (off := 54) (tgt := 78) hx hb dX9_instruction_24 (by rw [hx2]; decide) (by rw [hx2]; decide) (by rw [hx2]; decide) (by decide) ?_
      refine lv_aload_n hx hb dX9_instruction_78 rfl (lv_at hl 0 rfl) ?_
      refine fx_get (D := D) (ci := 9) (v := .ref MiAddress) (C := RX9) (T := TX9) (N := 78) hx hb hts in_X9 hown hK hP 0 rfl rfl 16 (by decide) (hts _ kX9_46) (fun _ h9 => h9) (g_iAddress) dX9_instruction_79 ?_
      refine lv_iload_n hx hb dX9_instruction_82 rfl (lv_at hl 1 rfl) ?_
      refine ax_ild hx hb hK hP 3 0 rfl rfl j (rfl) (by omega) (by omega) dX9_instruction_83 ?_
      exact hret 84 ls _ _ _ ((va_up g 0 (.int (nI 0)))) dX9_instruction_84 hP hD hS (⟨(frm_up frm_refl (by decide)), rfl, by rw [insP, if_pos hb9, hx2, if_neg (by decide), hj9]; exact d2⟩)
    by_cases hx3 : w = 3
    · refine lv_tableIn (off := 61) (tgt := 85) hx hb dX9_instruction_24 (by rw [hx3]; decide) (by rw [hx3]; decide) (by rw [hx3]; decide) (by decide) ?_
      refine lv_aload_n hx hb dX9_instruction_85 rfl (lv_at hl 0 rfl) ?_
      refine fx_get (D := D) (ci := 9) (v := .ref MiMode) (C := RX9) (T := TX9) (N := 78) hx hb hts in_X9 hown hK hP 0 rfl rfl 17 (by decide) (hts _ kX9_49) (fun _ h9 => h9) (g_iMode) dX9_instruction_86 ?_
      refine lv_iload_n hx hb dX9_instruction_89 rfl (lv_at hl 1 rfl) ?_
      refine ax_ild hx hb hK hP 4 0 rfl rfl j (rfl) (by omega) (by omega) dX9_instruction_90 ?_
      exact hret 91 ls _ _ _ ((va_up g 0 (.int (nI 0)))) dX9_instruction_91 hP hD hS (⟨(frm_up frm_refl (by decide)), rfl, by rw [insP, if_pos hb9, hx3, if_neg (by decide), hj9]; exact d3⟩)
    by_cases hx4 : w = 4
    · refine lv_tableIn (off := 68) (tgt := 92) hx hb dX9_instruction_24 (by rw [hx4]; decide) (by rw [hx4]; decide) (by rw [hx4]; decide) (by decide) ?_
      refine lv_aload_n hx hb dX9_instruction_92 rfl (lv_at hl 0 rfl) ?_
      refine fx_get (D := D) (ci := 9) (v := .ref MiCode) (C := RX9) (T := TX9) (N := 78) hx hb hts in_X9 hown hK hP 0 rfl rfl 18 (by decide) (hts _ kX9_52) (fun _ h9 => h9) (g_iCode) dX9_instruction_93 ?_
      refine lv_iload_n hx hb dX9_instruction_96 rfl (lv_at hl 1 rfl) ?_
      refine ax_ild hx hb hK hP 5 0 rfl rfl j (rfl) (by omega) (by omega) dX9_instruction_97 ?_
      exact hret 98 ls _ _ _ ((va_up g 0 (.int (nI 0)))) dX9_instruction_98 hP hD hS (⟨(frm_up frm_refl (by decide)), rfl, by rw [insP, if_pos hb9, hx4, if_neg (by decide), hj9]; exact d4⟩)
    by_cases hx5 : w = 5
    · refine lv_tableIn (off := 75) (tgt := 99) hx hb dX9_instruction_24 (by rw [hx5]; decide) (by rw [hx5]; decide) (by rw [hx5]; decide) (by decide) ?_
      refine lv_aload_n hx hb dX9_instruction_99 rfl (lv_at hl 0 rfl) ?_
      refine fx_get (D := D) (ci := 9) (v := .ref MiWindow) (C := RX9) (T := TX9) (N := 78) hx hb hts in_X9 hown hK hP 0 rfl rfl 19 (by decide) (hts _ kX9_55) (fun _ h9 => h9) (g_iWindow) dX9_instruction_100 ?_
      refine lv_iload_n hx hb dX9_instruction_103 rfl (lv_at hl 1 rfl) ?_
      refine ax_ild hx hb hK hP 6 0 rfl rfl j (rfl) (by omega) (by omega) dX9_instruction_104 ?_
      exact hret 105 ls _ _ _ ((va_up g 0 (.int (nI 0)))) dX9_instruction_105 hP hD hS (⟨(frm_up frm_refl (by decide)), rfl, by rw [insP, if_pos hb9, hx5, if_neg (by decide), hj9]; exact d5⟩)
    have ho : w.toInt < 0 ∨ 5 < w.toInt := Decidable.byContradiction (fun q => by have e1 : ∀ t : Int32, w.toInt = t.toInt → w = t := fun t => Int32.toInt_inj.mp; rcases (show w.toInt = 0 ∨ w.toInt = 1 ∨ w.toInt = 2 ∨ w.toInt = 3 ∨ w.toInt = 4 ∨ w.toInt = 5 by omega) with y | y | y | y | y | y; exact hx0 (e1 0 (y.trans rfl)); exact hx1 (e1 1 (y.trans rfl)); exact hx2 (e1 2 (y.trans rfl)); exact hx3 (e1 3 (y.trans rfl)); exact hx4 (e1 4 (y.trans rfl)); exact hx5 (e1 5 (y.trans rfl)))
    have hq : w < 0 ∨ ¬ w < 6 := by rw [Int32.lt_iff_toInt_lt, Int32.lt_iff_toInt_lt, show (0 : Int32).toInt = 0 from rfl, show (6 : Int32).toInt = 6 from rfl]; omega
    refine lv_tableOut (tgt := 106) hx hb dX9_instruction_24 ho (by decide) ?_
    refine lv_bipush (v := -2) hx hb dX9_instruction_106 (by decide) ?_
    exact hret 108 ls _ _ _ ((va_up g 0 (.int (nI 0)))) dX9_instruction_108 hP hD hS (⟨(frm_up frm_refl (by decide)), rfl, by rw [insP, if_pos hb9, if_pos hq]⟩)
  · refine lv_iconst (v := -1) hx hb dX9_instruction_21 (by decide) ?_
    exact hret 22 ls _ _ _ ((va_up g 0 (.int (nI 0)))) dX9_instruction_22 hP hD hS (⟨(frm_up frm_refl (by decide)), rfl, by rw [insP, if_neg (by rw [← hrb, c_1]; decide)]⟩)
