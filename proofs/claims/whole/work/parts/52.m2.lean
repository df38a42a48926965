theorem tnL {n : Nat} (h : n < 2 ^ 63) : (lN n).toBitVec.toNat = n := by
  show (BitVec.ofNat 64 n).toNat = n
  rw [BitVec.toNat_ofNat]
  exact Nat.mod_eq_of_lt (by omega)
theorem lsh7 {v c : Nat} (hv : v < 2 ^ 40) (hc : c < 128) : lN v <<< ((7 : Int32).toInt64 &&& 63) ||| lN c = lN (v * 128 + c) := by
  apply Int64.toBitVec_inj.mp
  apply BitVec.eq_of_toNat_eq
  have hs : (((7 : Int32).toInt64 &&& 63 : Int64).toBitVec.smod 64).toNat = 7 := by decide
  have e : (lN v <<< ((7 : Int32).toInt64 &&& 63)).toBitVec = (lN v).toBitVec <<< 7 := by
    show (lN v).toBitVec <<< (((7 : Int32).toInt64 &&& 63 : Int64).toBitVec.smod 64).toNat = _
    rw [hs]
  show ((lN v <<< ((7 : Int32).toInt64 &&& 63)).toBitVec ||| (lN c).toBitVec).toNat = _
  rw [e, BitVec.toNat_or, BitVec.toNat_shiftLeft, tnL (by omega), tnL (by omega), tnL (by omega), Nat.shiftLeft_eq, Nat.mod_eq_of_lt (by omega), ← Nat.shiftLeft_eq, ← Nat.shiftLeft_add_eq_or_of_lt (by omega), Nat.shiftLeft_eq]
theorem and127 {v : Nat} (h : v < 256) : nI v &&& 127 = nI (v % 128) := pk_andN (by omega) 7 (by decide)
def chR (fn fs : Nat → Int64) (cN cS : Nat → Nat) : Prop := (∀ j, j < 8 → fn j = lN (cN j)) ∧ ∀ j, j < 1024 → fs j = lN (cS j)
def dRel (k z a m c w : Nat → Int32) (g : Nat → Nat → Int32) (cnt : Nat) : Prop := ∀ i, i < cnt → i < 4000 → k i = g i 0 ∧ z i = g i 1 ∧ a i = g i 2 ∧ m i = g i 3 ∧ c i = g i 4 ∧ w i = g i 5
theorem dRel_put {k z a m c w : Nat → Int32} {g : Nat → Nat → Int32} {cnt : Nat} {v0 v1 v2 v3 v4 v5 : Int32} (h : dRel k z a m c w g cnt) : dRel (upd k cnt v0) (upd z cnt v1) (upd a cnt v2) (upd m cnt v3) (upd c cnt v4) (upd w cnt v5) (va_up g cnt (st6 v0 v1 v2 v3 v4 v5)) (cnt + 1) := by
  intro i hi hl
  by_cases q : i = cnt
  · subst q; simp only [pk_us, va_up_self]; exact ⟨rfl, rfl, rfl, rfl, rfl, rfl⟩
  · simp only [pk_un q, va_up_ne _ _ q]; exact h i (by omega) hl
theorem dRel_skip {k z a m c w : Nat → Int32} {g : Nat → Nat → Int32} {cnt : Nat} {r : Nat → Int32} (h : dRel k z a m c w g cnt) (hc : 4000 ≤ cnt) : dRel k z a m c w (va_up g cnt r) (cnt + 1) := by
  intro i hi hl
  rw [va_up_ne _ _ (show i ≠ cnt by omega)]
  exact h i (by omega) hl
set_option maxHeartbeats 4000000 in
set_option maxRecDepth 100000 in
theorem m_number (l : Launch) (D : va_G) (cI cB cJ cR : ClassId) (mm : Nat) (g : Nat → Value) (Mrows : Nat) (mrows : Nat → Int32) (fu : Nat) (pl : Nat) (a : Nat) (e : Nat) (bs : Nat) (b : Nat → Nat) (g_fault : g 36 = .int (nI fu)) (g_place : g 37 = .int (nI pl)) (g_at : g 34 = .int (nI a)) (g_end : g 35 = .int (nI e)) (g_base : g 33 = .int (nI bs)) (g_rows : g 1 = .ref Mrows) (hfl : fu < 2 ^ 31) (he : bs + e ≤ 32000) (hae : a ≤ e) (hob : ∀ j, j < e → mrows (bs + j) = s8 (b j) ∧ b j < 256) : CMl l yX9_number cX9_number 6 (some .long) ({ frames := 2, cells := 0, slots := 0, locals := 42 }) D (tyA cI cB cJ cR) 0 0 [.ref mm] [(mm, .inr (9, fl 78 g)), (Mrows, .inl (cB, 32000, .inl mrows))] (fun (r : Int64) (u9 : (Nat → Value) × Nat × Nat × Nat × Nat) => match u9 with | (g9, v, fu2, pl2, a2) => frm [36, 37, 34] g g9 ∧ g9 36 = .int (nI fu2) ∧ g9 37 = .int (nI pl2) ∧ g9 34 = .int (nI a2) ∧ tkN b e (fu, pl, a) = (v, fu2, pl2, a2) ∧ (fu2 = 0 → r = lN v) ∧ fu2 < 2 ^ 31 ∧ a ≤ a2 ∧ a2 ≤ e ∧ v ≤ 2147483647) (fun (u9 : (Nat → Value) × Nat × Nat × Nat × Nat) => match u9 with | (g9, v, fu2, pl2, a2) => [(mm, .inr (9, fl 78 g9)), (Mrows, .inl (cB, 32000, .inl mrows))]) := by
  refine st_l (cc := cX9_number) (maxL := 6) (by decide) (Nat.le_of_ble_eq_true rfl) ?_
  intro p0 e0 s0 m0 below meth c0 A0 Q0 hBD hret hP hD hS ls hl
  obtain ⟨hx, hb, hml, hown, hts, hnm, hK, hNw, hMk, hA⟩ := hBD
  have hl : lv_has ls 6 [(0, .ref mm)] := hl
  have hP : va_P D vwCl [(mm, .inr (9, fl 78 g)), (Mrows, .inl (cB, 32000, .inl mrows))] s0.heap := hP
  have hD : va_D A0 [(mm, .inr (9, fl 78 g)), (Mrows, .inl (cB, 32000, .inl mrows))] := hD
  refine lv_aload_n hx hb dX9_number_0 rfl (lv_at hl 0 rfl) ?_
  refine fx_get (D := D) (ci := 9) (v := .int (nI a)) (C := RX9) (T := TX9) (N := 78) hx hb hts in_X9 hown hK hP 0 rfl rfl 34 (by decide) (hts _ kX9_185) (fun _ h9 => h9) (g_at) dX9_number_1 ?_
  refine lv_istore_n (lv' := [(1, .int (nI a)), (0, .ref mm)]) hx hb dX9_number_4 rfl hl (by decide) rfl (fun ls hl => ?_)
  refine lv_lconst (v := 0) hx hb dX9_number_5 (by decide) ?_
  refine rl (y := lN 0) (rfl) ?_
  refine lv_lstore_n (lv' := [(2, .long (lN 0)), (1, .int (nI a)), (0, .ref mm)]) hx hb dX9_number_6 rfl hl (by decide) rfl (fun ls hl => ?_)
  refine lv_sipush (v := 128) hx hb dX9_number_7 (by decide) ?_
  refine ri (y := nI 128) (rfl) ?_
  refine lv_istore (lv' := [(4, .int (nI 128)), (2, .long (lN 0)), (1, .int (nI a)), (0, .ref mm)]) hx hb dX9_number_10 hl (by decide) rfl (fun ls hl => ?_)
  refine lv_iconst (v := 0) hx hb dX9_number_12 (by decide) ?_
  refine ri (y := nI 0) (nI_0.symm) ?_
  refine lv_istore (lv' := [(5, .int (nI 0)), (4, .int (nI 128)), (2, .long (lN 0)), (1, .int (nI a)), (0, .ref mm)]) hx hb dX9_number_13 hl (by decide) rfl (fun ls hl => ?_)
  have JE : ∀ (gj : Nat → Value) (c7 : Nat) (v7 : Nat) (k7 : Nat) (fu7 : Nat) (pl7 : Nat) (a7 : Nat) (H : Heap) (locs : List Loc) (ls : Array Slot), (frm [36, 37, 34] g gj) → (gj 36 = .int (nI fu7)) → (gj 37 = .int (nI pl7)) → (gj 34 = .int (nI a7)) → (fu = 0 → ((fu7 = 0 ∧ pl7 = pl ∧ v7 < 2 ^ 40 ∧ (((128 ≤ c7 ∨ 2147483647 < v7) ∧ (rdN b e 5 a 0).1 = 2) ∨ ((c7 < 128 ∧ v7 ≤ 2147483647) ∧ (rdN b e 5 a 0).1 = 0 ∧ (rdN b e 5 a 0).2.1 = v7))) ∨ (fu7 = 1 ∧ pl7 = e ∧ (rdN b e 5 a 0).1 = 1)) ∧ a7 = (rdN b e 5 a 0).2.2) → (¬ fu = 0 → fu7 = fu ∧ pl7 = pl ∧ a7 = a) → (fu7 < 2 ^ 31) → (a ≤ a7) → (a7 ≤ e) → (c7 < 256) → va_P D vwCl [(mm, .inr (9, fl 78 gj)), (Mrows, .inl (cB, 32000, .inl mrows))] H → va_D A0 [(mm, .inr (9, fl 78 gj)), (Mrows, .inl (cB, 32000, .inl mrows))] → va_S A0 s0.heap H locs → lv_has ls 6 [(0, .ref mm), (1, .int (nI a)), (2, .long (lN v7)), (4, .int (nI c7)), (5, .int (nI k7))] → W p0 l e0 ({ frames := 2, cells := 0, slots := 0, locals := 42 }) s0 m0 ([.ref mm] : List Value).toArray below meth c0 H locs 0 0 Q0 (F0 m0 53 ls []) := by
    intro gj c7 v7 k7 fu7 pl7 a7 H locs ls fj kj_fault kj_place kj_at hAx hBx hf7 ha7 ha8 hc7 hP hD hS hl
    have hrd := rdN_at (b := b) (e := e) 5 a 0
    have hrd2 := hrd.2.2 hae
    refine lv_aload_n hx hb dX9_number_53 rfl (lv_at hl 0 rfl) ?_
    refine fx_get (D := D) (ci := 9) (v := .int (nI fu7)) (C := RX9) (T := TX9) (N := 78) hx hb hts in_X9 hown hK hP 0 rfl rfl 36 (by decide) (hts _ kX9_179) (fun _ h9 => h9) (kj_fault) dX9_number_54 ?_
    refine lv_if_ne (tgt := 82) hx hb dX9_number_57 (by decide) (fun c_1 => ?_) (fun c_1 => ?_)
    · have hz : ¬ fu7 = 0 := fun z => c_1 (by rw [z]; decide)
      refine lv_lload_n hx hb dX9_number_82 rfl (lv_at hl 2 rfl) ?_
      exact hret 83 ls _ _ _ (gj, 0, fu7, pl7, a7) dX9_number_83 hP hD hS (⟨fj, kj_fault, kj_place, kj_at, ⟨by by_cases z : fu = 0; obtain ⟨t1, t2⟩ := hAx z; rcases t1 with t1 | t1; exact absurd t1.1 hz; rw [tkN, if_pos z, if_neg (by rw [t1.2.2]; decide), if_pos t1.2.2, t1.1, t1.2.1, t2]; obtain ⟨t1, t2, t3⟩ := hBx z; rw [tkN, if_neg z, t1, t2, t3], fun z => absurd z hz, hf7, ha7, ha8, by decide⟩⟩)
    · have hz : fu7 = 0 := Decidable.byContradiction (fun z => nI_ne0 (Nat.pos_of_ne_zero z) hf7 c_1)
      have hfu : fu = 0 := Decidable.byContradiction (fun z => by have := (hBx z).1; omega)
      obtain ⟨t1, t2⟩ := hAx hfu
      have t3 := t1.elim id (fun w => absurd (w.1.symm.trans hz) (by decide))
      obtain ⟨-, t4, t5, t6⟩ := t3
      refine lv_iload hx hb dX9_number_60 (lv_at hl 3 rfl) ?_
      refine lv_sipush (v := 128) hx hb dX9_number_62 (by decide) ?_
      refine lv_icmp_ge (tgt := 76) hx hb dX9_number_65 (by decide) (fun c_2 => ?_) (fun c_2 => ?_)
      · have hcv : 128 ≤ c7 ∨ 2147483647 < v7 := Or.inl ((nI_leI (a := 128) (by decide) (by omega)).mp c_2)
        have hr2 : (rdN b e 5 a 0).1 = 2 := t6.elim (fun w => w.2) (fun w => absurd hcv (fun q => by have := w.1; omega))
        refine lv_aload_n hx hb dX9_number_76 rfl (lv_at hl 0 rfl) ?_
        refine lv_iconst (v := 4) hx hb dX9_number_77 (by decide) ?_
        refine ri (y := nI 4) (rfl) ?_
        refine lv_iload_n hx hb dX9_number_78 rfl (lv_at hl 1 rfl) ?_
        refine jn_v (wr := [(Mrows, .inl (cB, 32000, .inl mrows))]) hA hP hD hS [0] [1] rfl rfl (by decide) (by decide) (rn_V (As := [.int (nI 4), .int (nI a)]) (rest := []) ⟨hx, hb, hml, hown, hts⟩ (cvV 2 hts zc_yX9_fail zi_X9 zm_yX9_fail zv_yX9_fail kX9_191 (by decide +kernel) rfl rfl ⟨Nat.le_of_ble_eq_true rfl, Nat.le_of_ble_eq_true rfl⟩) (m_fail l D cI cB cJ cR mm gj fu7 pl7 4 a (kj_fault) (kj_place) (hf7) H.size) hK hNw hMk hA hP hD hS [0] rfl rfl (by decide) 0 rfl rfl rfl rfl hl.1 rfl (Nat.le_of_ble_eq_true rfl) dX9_number_79 ⟨Nat.le_of_ble_eq_true rfl, Nat.le_of_ble_eq_true rfl⟩) (fun u9 H locs w_3 hP hD hS => ?_)
        obtain ⟨g_4, fu2_5, pl2_6⟩ := u9
        try dsimp only at w_3
        have hP : va_P D vwCl [(Mrows, .inl (cB, 32000, .inl mrows)), (mm, .inr (9, fl 78 g_4))] H := hP
        have hD : va_D A0 [(Mrows, .inl (cB, 32000, .inl mrows)), (mm, .inr (9, fl 78 g_4))] := hD
        obtain ⟨f_w_3, fault_w_3, place_w_3, w_3_⟩ := w_3
        have k34_g_4 : g_4 34 = .int (nI a7) := (f_w_3 34 (by decide)).trans (kj_at)
        have k35_g_4 : g_4 35 = .int (nI e) := (f_w_3 35 (by decide)).trans ((fj 35 (by decide)).trans g_end)
        have k33_g_4 : g_4 33 = .int (nI bs) := (f_w_3 33 (by decide)).trans ((fj 33 (by decide)).trans g_base)
        have k1_g_4 : g_4 1 = .ref Mrows := (f_w_3 1 (by decide)).trans ((fj 1 (by decide)).trans g_rows)
        have fr_g_4 : frm [36, 37, 34] g g_4 := frm_tr fj f_w_3 (by decide)
        rw [if_pos hz] at w_3_
        obtain ⟨e1, e2⟩ := Prod.mk.inj w_3_
        refine lv_lload_n hx hb dX9_number_82 rfl (lv_at hl 2 rfl) ?_
        have hP := hP.sub (ws' := [(mm, .inr (9, fl 78 g_4)), (Mrows, .inl (cB, 32000, .inl mrows))]) [1, 0] rfl
        have hD := hD.sub (ws' := [(mm, .inr (9, fl 78 g_4)), (Mrows, .inl (cB, 32000, .inl mrows))]) [1, 0] (by decide) rfl
        exact hret 83 ls _ _ _ (g_4, 0, fu2_5, pl2_6, a7) dX9_number_83 hP hD hS (⟨fr_g_4, fault_w_3, place_w_3, k34_g_4, ⟨by rw [tkN, if_pos hfu, if_neg (by rw [hr2]; decide), if_neg (by rw [hr2]; decide), e1, e2, t2], fun z => absurd (e1.symm.trans z) (by decide), by rw [e1]; decide, ha7, ha8, by decide⟩⟩)
      · have hc8 : c7 < 128 := Nat.not_le.mp (fun q => c_2 (nI_le (a := 128) q (by omega)))
        refine lv_lload_n hx hb dX9_number_68 rfl (lv_at hl 2 rfl) ?_
        refine lv_ldc2 hx hb hown (hts _ kX9_202) dX9_number_69 ?_
        refine rl (y := lN 2147483647) (rfl) ?_
        refine W.lcmp hx hb dX9_number_72 ?_
        refine lv_if_le (tgt := 82) hx hb dX9_number_73 (by decide) (fun c_8 => ?_) (fun c_8 => ?_)
        · have hv9 : v7 ≤ 2147483647 := (pk_lLE (by omega) (by decide)).mp ((lg_cmp_le _ _).mp c_8)
          have t7 := t6.elim (fun w => absurd w.1 (by omega)) (fun w => w.2)
          refine lv_lload_n hx hb dX9_number_82 rfl (lv_at hl 2 rfl) ?_
          exact hret 83 ls _ _ _ (gj, v7, fu7, pl7, a7) dX9_number_83 hP hD hS (⟨fj, kj_fault, kj_place, kj_at, ⟨by rw [tkN, if_pos hfu, if_pos t7.1, t7.2, hz, t4, t2], fun _ => rfl, hf7, ha7, ha8, hv9⟩⟩)
        · have hcv : 128 ≤ c7 ∨ 2147483647 < v7 := Or.inr (Nat.not_le.mp (fun z => c_8 ((lg_cmp_le _ _).mpr ((pk_lLE (by omega) (by decide)).mpr z))))
          have hr2 : (rdN b e 5 a 0).1 = 2 := t6.elim (fun w => w.2) (fun w => absurd hcv (fun q => by have := w.1; omega))
          refine lv_aload_n hx hb dX9_number_76 rfl (lv_at hl 0 rfl) ?_
          refine lv_iconst (v := 4) hx hb dX9_number_77 (by decide) ?_
          refine ri (y := nI 4) (rfl) ?_
          refine lv_iload_n hx hb dX9_number_78 rfl (lv_at hl 1 rfl) ?_
          refine jn_v (wr := [(Mrows, .inl (cB, 32000, .inl mrows))]) hA hP hD hS [0] [1] rfl rfl (by decide) (by decide) (rn_V (As := [.int (nI 4), .int (nI a)]) (rest := []) ⟨hx, hb, hml, hown, hts⟩ (cvV 2 hts zc_yX9_fail zi_X9 zm_yX9_fail zv_yX9_fail kX9_191 (by decide +kernel) rfl rfl ⟨Nat.le_of_ble_eq_true rfl, Nat.le_of_ble_eq_true rfl⟩) (m_fail l D cI cB cJ cR mm gj fu7 pl7 4 a (kj_fault) (kj_place) (hf7) H.size) hK hNw hMk hA hP hD hS [0] rfl rfl (by decide) 0 rfl rfl rfl rfl hl.1 rfl (Nat.le_of_ble_eq_true rfl) dX9_number_79 ⟨Nat.le_of_ble_eq_true rfl, Nat.le_of_ble_eq_true rfl⟩) (fun u9 H locs w_9 hP hD hS => ?_)
          obtain ⟨g_10, fu2_11, pl2_12⟩ := u9
          try dsimp only at w_9
          have hP : va_P D vwCl [(Mrows, .inl (cB, 32000, .inl mrows)), (mm, .inr (9, fl 78 g_10))] H := hP
          have hD : va_D A0 [(Mrows, .inl (cB, 32000, .inl mrows)), (mm, .inr (9, fl 78 g_10))] := hD
          obtain ⟨f_w_9, fault_w_9, place_w_9, w_9_⟩ := w_9
          have k34_g_10 : g_10 34 = .int (nI a7) := (f_w_9 34 (by decide)).trans (kj_at)
          have k35_g_10 : g_10 35 = .int (nI e) := (f_w_9 35 (by decide)).trans ((fj 35 (by decide)).trans g_end)
          have k33_g_10 : g_10 33 = .int (nI bs) := (f_w_9 33 (by decide)).trans ((fj 33 (by decide)).trans g_base)
          have k1_g_10 : g_10 1 = .ref Mrows := (f_w_9 1 (by decide)).trans ((fj 1 (by decide)).trans g_rows)
          have fr_g_10 : frm [36, 37, 34] g g_10 := frm_tr fj f_w_9 (by decide)
          rw [if_pos hz] at w_9_
          obtain ⟨e1, e2⟩ := Prod.mk.inj w_9_
          refine lv_lload_n hx hb dX9_number_82 rfl (lv_at hl 2 rfl) ?_
          have hP := hP.sub (ws' := [(mm, .inr (9, fl 78 g_10)), (Mrows, .inl (cB, 32000, .inl mrows))]) [1, 0] rfl
          have hD := hD.sub (ws' := [(mm, .inr (9, fl 78 g_10)), (Mrows, .inl (cB, 32000, .inl mrows))]) [1, 0] (by decide) rfl
          exact hret 83 ls _ _ _ (g_10, 0, fu2_11, pl2_12, a7) dX9_number_83 hP hD hS (⟨fr_g_10, fault_w_9, place_w_9, k34_g_10, ⟨by rw [tkN, if_pos hfu, if_neg (by rw [hr2]; decide), if_neg (by rw [hr2]; decide), e1, e2, t2], fun z => absurd (e1.symm.trans z) (by decide), by rw [e1]; decide, ha7, ha8, by decide⟩⟩)
  have loop : ∀ (k9 : Nat) (g5_loop : Nat → Value) (c7 : Nat) (v7 : Nat) (k7 : Nat) (a7 : Nat) (H : Heap) (locs : List Loc) (ls : Array Slot), 5 - k7 < k9 → (frm [36, 37, 34] g g5_loop) → (g5_loop 36 = .int (nI fu)) → (g5_loop 37 = .int (nI pl)) → (g5_loop 34 = .int (nI a7)) → (k7 ≤ 5) → (128 ≤ c7) → (c7 < 256) → (a ≤ a7) → (a7 ≤ e) → (fu = 0 → (rdN b e 5 a 0) = rdN b e (5 - k7) a7 v7 ∧ v7 < 128 ^ k7) → (¬ fu = 0 → k7 = 0 ∧ a7 = a ∧ v7 = 0) → va_P D vwCl [(mm, .inr (9, fl 78 g5_loop)), (Mrows, .inl (cB, 32000, .inl mrows))] H → va_D A0 [(mm, .inr (9, fl 78 g5_loop)), (Mrows, .inl (cB, 32000, .inl mrows))] → va_S A0 s0.heap H locs → lv_has ls 6 [(0, .ref mm), (1, .int (nI a)), (2, .long (lN v7)), (4, .int (nI c7)), (5, .int (nI k7))] → W p0 l e0 ({ frames := 2, cells := 0, slots := 0, locals := 42 }) s0 m0 ([.ref mm] : List Value).toArray below meth c0 H locs 0 0 Q0 (F0 m0 15 ls []) := by
    intro k9
    induction k9 with
    | zero => intro g5_loop c7 v7 k7 a7 H locs ls hk9; exact absurd hk9 (Nat.not_lt_zero _)
    | succ k9 ih =>
      intro g5_loop c7 v7 k7 a7 H locs ls hk9 hf_loop k_fault_loop k_place_loop k_at_loop hk7 hc128 hc7 ha7 ha8 hrun hflt hP hD hS hl
      refine lv_iload hx hb dX9_number_15 (lv_at hl 4 rfl) ?_
      refine lv_iconst (v := 5) hx hb dX9_number_17 (by decide) ?_
      refine lv_icmp_ge (tgt := 53) hx hb dX9_number_18 (by decide) (fun c_14 => ?_) (fun c_14 => ?_)
      · have hk5 : k7 = 5 := by have := (nI_leI (a := 5) (by decide) (by omega)).mp c_14; omega
        subst hk5
        exact JE g5_loop c7 v7 5 fu pl a7 _ _ ls (hf_loop) (k_fault_loop) (k_place_loop) (k_at_loop) (fun z => by obtain ⟨y1, y2⟩ := hrun z; rw [show 5 - 5 = 0 from rfl, rdN] at y1; exact ⟨Or.inl ⟨z, rfl, by omega, Or.inl ⟨Or.inl hc128, by rw [y1]⟩⟩, by rw [y1]⟩) (fun z => ⟨rfl, rfl, absurd (hflt z).1 (by decide)⟩) (hfl) (ha7) (ha8) (hc7) hP hD hS (lv_sub hl [0, 1, 2, 3, 4] rfl)
      · have hk5 : k7 < 5 := Nat.not_le.mp (fun q => c_14 (nI_le (a := 5) q (by omega)))
        refine lv_iload hx hb dX9_number_21 (lv_at hl 3 rfl) ?_
        refine lv_sipush (v := 128) hx hb dX9_number_23 (by decide) ?_
        refine lv_icmp_lt (tgt := 53) hx hb dX9_number_26 (by decide) (fun c_15 => absurd c_15 (fun z => absurd ((nI_ltI (b := 128) (by omega) (by decide)).mp z) (by omega))) (fun c_15 => ?_)
        refine lv_aload_n hx hb dX9_number_29 rfl (lv_at hl 0 rfl) ?_
        refine jn_i (wr := []) hA hP hD hS [0, 1] [] rfl rfl (by decide) (by decide) (rn_V (As := []) (rest := []) ⟨hx, hb, hml, hown, hts⟩ (cvV 0 hts zc_yX9_take zi_X9 zm_yX9_take zv_yX9_take kX9_198 (by decide +kernel) rfl rfl ⟨Nat.le_of_ble_eq_true rfl, Nat.le_of_ble_eq_true rfl⟩) (m_take l D cI cB cJ cR mm g5_loop Mrows mrows fu pl a7 e bs b (k_fault_loop) (k_place_loop) (k_at_loop) ((hf_loop 35 (by decide)).trans g_end) ((hf_loop 33 (by decide)).trans g_base) ((hf_loop 1 (by decide)).trans g_rows) (hfl) (he) (ha8) (hob) H.size) hK hNw hMk hA hP hD hS [0, 1] rfl rfl (by decide) 0 rfl rfl rfl rfl hl.1 rfl (Nat.le_of_ble_eq_true rfl) dX9_number_30 ⟨Nat.le_of_ble_eq_true rfl, Nat.le_of_ble_eq_true rfl⟩) (fun rt u9 H locs w_16 hP hD hS => ?_)
        obtain ⟨g_17, cv, fu8, pl8, a8⟩ := u9
        try dsimp only at w_16
        have hP : va_P D vwCl [(mm, .inr (9, fl 78 g_17)), (Mrows, .inl (cB, 32000, .inl mrows))] H := hP
        have hD : va_D A0 [(mm, .inr (9, fl 78 g_17)), (Mrows, .inl (cB, 32000, .inl mrows))] := hD
        obtain ⟨f_w_16, fault_w_16, place_w_16, at_w_16, w_16_⟩ := w_16
        have k35_g_17 : g_17 35 = .int (nI e) := (f_w_16 35 (by decide)).trans ((hf_loop 35 (by decide)).trans g_end)
        have k33_g_17 : g_17 33 = .int (nI bs) := (f_w_16 33 (by decide)).trans ((hf_loop 33 (by decide)).trans g_base)
        have k1_g_17 : g_17 1 = .ref Mrows := (f_w_16 1 (by decide)).trans ((hf_loop 1 (by decide)).trans g_rows)
        have fr_g_17 : frm [36, 37, 34] g g_17 := frm_tr hf_loop f_w_16 (by decide)
        obtain ⟨x1, x2, x3, x4, x5, x6⟩ := w_16_
        subst x1
        refine lv_istore (lv' := [(4, .int (nI cv)), (0, .ref mm), (1, .int (nI a)), (2, .long (lN v7)), (5, .int (nI k7))]) hx hb dX9_number_33 hl (by decide) rfl (fun ls hl => ?_)
        refine lv_lload_n hx hb dX9_number_35 rfl (lv_at hl 3 rfl) ?_
        refine lv_bipush (v := 7) hx hb dX9_number_36 (by decide) ?_
        refine lv_lshl hx hb dX9_number_38 (v := (lN v7) <<< ((7 : Int32).toInt64 &&& 63)) rfl ?_
        refine lv_iload hx hb dX9_number_39 (lv_at hl 0 rfl) ?_
        refine lv_bipush (v := 127) hx hb dX9_number_41 (by decide) ?_
        refine lv_iand hx hb dX9_number_43 ?_
        refine ri (y := nI (cv % 128)) (and127 x6) ?_
        refine lv_i2l hx hb dX9_number_44 (v := (nI (cv % 128)).toInt64) rfl ?_
        refine rl (y := lN (cv % 128)) (nI_l (by omega)) ?_
        have hp4 : 128 ^ k7 ≤ 268435456 := Nat.le_trans (Nat.pow_le_pow_right (by decide) (show k7 ≤ 4 by omega)) (by decide)
        have hv40 : v7 < 2 ^ 40 := by by_cases z : fu = 0; have := (hrun z).2; omega; have := (hflt z).2.2; omega
        refine lv_lor hx hb dX9_number_45 ?_
        refine rl (y := lN (v7 * 128 + cv % 128)) (lsh7 hv40 (by omega)) ?_
        refine lv_lstore_n (lv' := [(2, .long (lN (v7 * 128 + cv % 128))), (4, .int (nI cv)), (0, .ref mm), (1, .int (nI a)), (5, .int (nI k7))]) hx hb dX9_number_46 rfl hl (by decide) rfl (fun ls hl => ?_)
        refine lv_iinc (v := nI (k7 + 1)) (lv' := [(5, .int (nI (k7 + 1))), (2, .long (lN (v7 * 128 + cv % 128))), (4, .int (nI cv)), (0, .ref mm), (1, .int (nI a))]) hx hb dX9_number_47 hl (k := 4) rfl (nI_add k7 1) (by decide) rfl (fun ls hl => ?_)
        refine lv_goto (tgt := 15) hx hb dX9_number_50 (by decide) ?_
        by_cases hfu : fu = 0
        · obtain ⟨y1, y2⟩ := hrun hfu
          rw [tkO, if_pos hfu] at x2
          have y1 := y1.trans (show rdN b e (5 - k7) a7 v7 = _ by rw [show 5 - k7 = 5 - (k7 + 1) + 1 by omega, rdN])
          dsimp only at x2
          by_cases hlt : a7 < e
          · rw [if_pos hlt] at x2 y1
            obtain ⟨w1, w2⟩ := Prod.mk.inj x2
            obtain ⟨w3, w4⟩ := Prod.mk.inj w2
            obtain ⟨w5, w6⟩ := Prod.mk.inj w4
            rw [w1] at y1
            by_cases hc8 : cv < 128
            · rw [if_pos hc8] at y1
              refine lv_iload hx hb dX9_number_15 (lv_at hl 0 rfl) ?_
              refine lv_iconst (v := 5) hx hb dX9_number_17 (by decide) ?_
              refine lv_icmp_ge (tgt := 53) hx hb dX9_number_18 (by decide) (fun c_18 => ?_) (fun c_18 => ?_)
              · exact JE g_17 cv (v7 * 128 + cv % 128) (k7 + 1) fu8 pl8 a8 _ _ ls (fr_g_17) (fault_w_16) (place_w_16) (at_w_16) (fun _ => by rw [y1]; by_cases z : v7 * 128 + cv % 128 ≤ 2147483647; rw [if_pos z]; exact ⟨Or.inl ⟨w3.symm, w5.symm, by omega, Or.inr ⟨⟨hc8, z⟩, rfl, rfl⟩⟩, w6.symm⟩; rw [if_neg z]; exact ⟨Or.inl ⟨w3.symm, w5.symm, by omega, Or.inl ⟨Or.inr (by omega), rfl⟩⟩, w6.symm⟩) (fun z => absurd hfu z) (x3) (by omega) (x5) (x6) hP hD hS (lv_sub hl [3, 4, 1, 2, 0] rfl)
              · refine lv_iload hx hb dX9_number_21 (lv_at hl 2 rfl) ?_
                refine lv_sipush (v := 128) hx hb dX9_number_23 (by decide) ?_
                refine lv_icmp_lt (tgt := 53) hx hb dX9_number_26 (by decide) (fun c_19 => ?_) (fun c_19 => absurd (nI_lt (b := 128) hc8 (by decide)) c_19)
                exact JE g_17 cv (v7 * 128 + cv % 128) (k7 + 1) fu8 pl8 a8 _ _ ls (fr_g_17) (fault_w_16) (place_w_16) (at_w_16) (fun _ => by rw [y1]; by_cases z : v7 * 128 + cv % 128 ≤ 2147483647; rw [if_pos z]; exact ⟨Or.inl ⟨w3.symm, w5.symm, by omega, Or.inr ⟨⟨hc8, z⟩, rfl, rfl⟩⟩, w6.symm⟩; rw [if_neg z]; exact ⟨Or.inl ⟨w3.symm, w5.symm, by omega, Or.inl ⟨Or.inr (by omega), rfl⟩⟩, w6.symm⟩) (fun z => absurd hfu z) (x3) (by omega) (x5) (x6) hP hD hS (lv_sub hl [3, 4, 1, 2, 0] rfl)
            · rw [if_neg hc8] at y1
              have hp8 : 128 ^ (k7 + 1) = 128 ^ k7 * 128 := Nat.pow_succ ..
              have w3b : fu8 = fu := w3.symm.trans hfu.symm
              have w5b : pl8 = pl := w5.symm
              subst w3b
              subst w5b
              exact ih g_17 cv (v7 * 128 + cv % 128) (k7 + 1) a8 _ _ ls (by omega) (fr_g_17) (fault_w_16) (place_w_16) (at_w_16) (by omega) (by omega) (x6) (by omega) (x5) (fun z => ⟨by rw [y1, w6], by rw [hp8]; omega⟩) (fun z => absurd hfu z) hP hD hS (lv_sub hl [3, 4, 1, 2, 0] rfl)
          · rw [if_neg hlt] at x2 y1
            obtain ⟨w1, w2⟩ := Prod.mk.inj x2
            obtain ⟨w3, w4⟩ := Prod.mk.inj w2
            obtain ⟨w5, w6⟩ := Prod.mk.inj w4
            refine lv_iload hx hb dX9_number_15 (lv_at hl 0 rfl) ?_
            refine lv_iconst (v := 5) hx hb dX9_number_17 (by decide) ?_
            refine lv_icmp_ge (tgt := 53) hx hb dX9_number_18 (by decide) (fun c_20 => ?_) (fun c_20 => ?_)
            · exact JE g_17 cv (v7 * 128 + cv % 128) (k7 + 1) fu8 pl8 a8 _ _ ls (fr_g_17) (fault_w_16) (place_w_16) (at_w_16) (fun _ => by rw [y1]; exact ⟨Or.inr ⟨w3.symm, w5.symm, rfl⟩, w6.symm⟩) (fun z => absurd hfu z) (x3) (by omega) (x5) (x6) hP hD hS (lv_sub hl [3, 4, 1, 2, 0] rfl)
            · refine lv_iload hx hb dX9_number_21 (lv_at hl 2 rfl) ?_
              refine lv_sipush (v := 128) hx hb dX9_number_23 (by decide) ?_
              refine lv_icmp_lt (tgt := 53) hx hb dX9_number_26 (by decide) (fun c_21 => ?_) (fun c_21 => absurd (nI_lt (b := 128) (show cv < 128 by omega) (by decide)) c_21)
              exact JE g_17 cv (v7 * 128 + cv % 128) (k7 + 1) fu8 pl8 a8 _ _ ls (fr_g_17) (fault_w_16) (place_w_16) (at_w_16) (fun _ => by rw [y1]; exact ⟨Or.inr ⟨w3.symm, w5.symm, rfl⟩, w6.symm⟩) (fun z => absurd hfu z) (x3) (by omega) (x5) (x6) hP hD hS (lv_sub hl [3, 4, 1, 2, 0] rfl)
        · obtain ⟨y1, y2, y3⟩ := hflt hfu
          rw [tkO, if_neg hfu] at x2
          obtain ⟨w1, w2⟩ := Prod.mk.inj x2
          obtain ⟨w3, w4⟩ := Prod.mk.inj w2
          obtain ⟨w5, w6⟩ := Prod.mk.inj w4
          refine lv_iload hx hb dX9_number_15 (lv_at hl 0 rfl) ?_
          refine lv_iconst (v := 5) hx hb dX9_number_17 (by decide) ?_
          refine lv_icmp_ge (tgt := 53) hx hb dX9_number_18 (by decide) (fun c_22 => ?_) (fun c_22 => ?_)
          · exact JE g_17 cv (v7 * 128 + cv % 128) (k7 + 1) fu8 pl8 a8 _ _ ls (fr_g_17) (fault_w_16) (place_w_16) (at_w_16) (fun z => absurd z hfu) (fun _ => ⟨w3.symm, w5.symm, w6.symm.trans y2⟩) (x3) (by omega) (x5) (x6) hP hD hS (lv_sub hl [3, 4, 1, 2, 0] rfl)
          · refine lv_iload hx hb dX9_number_21 (lv_at hl 2 rfl) ?_
            refine lv_sipush (v := 128) hx hb dX9_number_23 (by decide) ?_
            refine lv_icmp_lt (tgt := 53) hx hb dX9_number_26 (by decide) (fun c_23 => ?_) (fun c_23 => absurd (nI_lt (b := 128) (show cv < 128 by omega) (by decide)) c_23)
            exact JE g_17 cv (v7 * 128 + cv % 128) (k7 + 1) fu8 pl8 a8 _ _ ls (fr_g_17) (fault_w_16) (place_w_16) (at_w_16) (fun z => absurd z hfu) (fun _ => ⟨w3.symm, w5.symm, w6.symm.trans y2⟩) (x3) (by omega) (x5) (x6) hP hD hS (lv_sub hl [3, 4, 1, 2, 0] rfl)
  exact loop _ g 128 0 0 a _ _ ls (Nat.lt_succ_self _) (frm_refl) (g_fault) (g_place) (g_at) (by decide) (by decide) (by decide) (Nat.le_refl _) (hae) (fun _ => ⟨rfl, by decide⟩) (fun _ => ⟨rfl, rfl, rfl⟩) hP hD hS (lv_sub hl [4, 3, 2, 1, 0] rfl)
