def tbP (i v : Int32) (tt : Nat → Nat) : Int32 × (Nat → Nat) :=
  if inB i 1536 = true then (if v < 0 ∨ ¬ v ≤ 255 then (-2, tt) else (nI (tt i.toNatClampNeg), va_up tt i.toNatClampNeg v.toNatClampNeg)) else (-1, tt)
theorem tb_rep {f f2 : Nat → Int32} {tt : Nat → Nat} {i v r : Int32} (h : tabIs f tt) (h1 : r = if inB i 1536 then (if v < 0 ∨ ¬ v ≤ 255 then -2 else f i.toNatClampNeg) else -1) (h2 : f2 = if inB i 1536 ∧ ¬ (v < 0 ∨ ¬ v ≤ 255) then upd f i.toNatClampNeg v else f) : r = (tbP i v tt).1 ∧ tabIs f2 (tbP i v tt).2 := by
  unfold tbP
  by_cases q : inB i 1536 = true
  · obtain ⟨j, hj, rfl⟩ := inB_of q (by decide)
    rw [nI_clamp (by omega)] at h1 h2 ⊢
    rw [if_pos q]
    by_cases z : v < 0 ∨ ¬ v ≤ 255
    · rw [if_pos z]
      rw [if_pos q, if_pos z] at h1
      rw [if_neg (fun w => w.2 z)] at h2
      subst h2
      exact ⟨h1, h⟩
    · rw [if_neg z]
      rw [if_pos q, if_neg z] at h1
      rw [if_pos ⟨q, z⟩] at h2
      obtain ⟨w, hw, rfl⟩ := nI_of8 (b := 255) (fun y => z (Or.inl y)) (Decidable.byContradiction (fun y => z (Or.inr y))) (by decide)
      rw [nI_clamp (by omega)]
      refine ⟨h1.trans (h j hj).1, ?_⟩
      subst h2
      intro t ht
      dsimp only
      by_cases y : t = j
      · subst y; rw [pk_us, va_up_self]; exact ⟨rfl, by omega⟩
      · rw [pk_un y, va_up_ne _ _ y]; exact h t ht
  · rw [if_neg q] at h1 ⊢
    rw [if_neg (fun w => q w.1)] at h2
    subst h2
    exact ⟨h1, h⟩
def chP (n s : Int32) (near same : Nat) : Int32 × Nat × Nat := if n < 0 ∨ ¬ n ≤ 8 ∨ s < 0 ∨ ¬ s ≤ 4 then (-2, near, same) else (1, n.toNatClampNeg, s.toNatClampNeg)
def codQ (i : Int32) (T : Nat → Nat) (m : Nat) (r : Int32) : Prop := (i = -1 → (rightP T m 512 → r = 1) ∧ (¬ rightP T m 512 → r = 0)) ∧ (¬ i = -1 → r = if inB i 1536 = true then nI (T i.toNatClampNeg) else -1)
def tolP (x t0 t1 t2 t3 : Int32) : Int32 := if x = 0 then t0 else if x = 1 then t1 else if x = 2 then t2 else if x = 3 then t3 else -2
def insP (k w : Int32) (cnt : Nat) (g : Nat → Nat → Int32) : Int32 := if inB k (min cnt 4000) = true then (if w < 0 ∨ ¬ w < 6 then -2 else g k.toNatClampNeg w.toNatClampNeg) else -1
theorem gD_row {N : Nat} {L : List Int32} {n : Nat} {f : Nat → Int32} {ov : Int32} (h : rowIs N L n f ov) {j : Nat} (hj : j < n) : f j = gD L j := h.2.2 j hj
set_option maxHeartbeats 4000000 in
set_option maxRecDepth 100000 in
theorem c_copy (l : Launch) (D : va_G) (cI cB cJ cR : ClassId) (cd : Nat) (rq : Nat) (wt : Nat) (wq : Nat) (mi : Nat) (mo : Nat) (ft : Nat) (ot : Nat) (gt : Nat) (rd : Nat) (tq : Nat) (wr : Nat) (s1 : Nat) (s2 : Nat) (t0 : Int32) (t1 : Int32) (t2 : Int32) (t3 : Int32) (r0 : Nat) (r1 : Nat) (r2 : Nat) (r3 : Nat) (o0 : Nat) (o1 : Nat) (o2 : Nat) (o3 : Nat) (n0 : Nat) (f0 : Nat → Int32) (n1 : Nat) (f1 : Nat → Int32) (n2 : Nat) (f2 : Nat → Int32) (n3 : Nat) (f3 : Nat → Int32) (RL : Nat → List Int32) (x : Int32) (a : Int32) (n : Int32) (y : Int32) (hrw : rwOk RL n0 f0 n1 f1 n2 f2 n3 f3) : CMi l yX8_copy cX8_copy 6 (some .int) ({ frames := 1, cells := 0, slots := 0, locals := 21 }) D (tyA cI cB cJ cR) 0 0 [.ref cd, .int x, .int a, .int n, .int y] [(cd, .inr (8, [.ref rq, .ref wt, .ref wq, .ref mi, .ref mo, .ref ft, .ref ot, .ref gt, .ref rd, .ref tq, .ref wr, .ref s1, .ref s2, .int t0, .int t1, .int t2, .int t3])), (rq, .inl (cR, 4, .inr (.inr (.inr (.inr (rqF r0 r1 r2 r3)))))), (r0, .inr (4, [.ref o0, .int (nI n0), .int 0])), (o0, .inl (cI, 4000, .inl f0)), (r1, .inr (4, [.ref o1, .int (nI n1), .int 0])), (o1, .inl (cI, 4000, .inl f1)), (r2, .inr (4, [.ref o2, .int (nI n2), .int 0])), (o2, .inl (cI, 8000, .inl f2)), (r3, .inr (4, [.ref o3, .int (nI n3), .int 0])), (o3, .inl (cI, 8000, .inl f3))] (fun (r : Int32) (u9 : Nat × (Nat → Int32) × Nat × (Nat → Int32) × Nat × (Nat → Int32) × Nat × (Nat → Int32) × (Nat → List Int32)) => match u9 with | (n09, f09, n19, f19, n29, f29, n39, f39, RL9) => cpyP x a n y RL = (r, RL9) ∧ rwOk RL9 n09 f09 n19 f19 n29 f29 n39 f39) (fun (u9 : Nat × (Nat → Int32) × Nat × (Nat → Int32) × Nat × (Nat → Int32) × Nat × (Nat → Int32) × (Nat → List Int32)) => match u9 with | (n09, f09, n19, f19, n29, f29, n39, f39, RL9) => [(cd, .inr (8, [.ref rq, .ref wt, .ref wq, .ref mi, .ref mo, .ref ft, .ref ot, .ref gt, .ref rd, .ref tq, .ref wr, .ref s1, .ref s2, .int t0, .int t1, .int t2, .int t3])), (rq, .inl (cR, 4, .inr (.inr (.inr (.inr (rqF r0 r1 r2 r3)))))), (r0, .inr (4, [.ref o0, .int (nI n09), .int 0])), (o0, .inl (cI, 4000, .inl f09)), (r1, .inr (4, [.ref o1, .int (nI n19), .int 0])), (o1, .inl (cI, 4000, .inl f19)), (r2, .inr (4, [.ref o2, .int (nI n29), .int 0])), (o2, .inl (cI, 8000, .inl f29)), (r3, .inr (4, [.ref o3, .int (nI n39), .int 0])), (o3, .inl (cI, 8000, .inl f39))]) := by
  refine st_i (cc := cX8_copy) (maxL := 6) (by decide) (Nat.le_of_ble_eq_true rfl) ?_
  intro p0 e0 s0 m0 below meth c0 A0 Q0 hBD hret hP hD hS ls hl
  obtain ⟨hx, hb, hml, hown, hts, hnm, hK, hNw, hMk, hA⟩ := hBD
  have hl : lv_has ls 6 [(0, .ref cd), (1, .int x), (2, .int a), (3, .int n), (4, .int y)] := hl
  have hP : va_P D vwCl [(cd, .inr (8, [.ref rq, .ref wt, .ref wq, .ref mi, .ref mo, .ref ft, .ref ot, .ref gt, .ref rd, .ref tq, .ref wr, .ref s1, .ref s2, .int t0, .int t1, .int t2, .int t3])), (rq, .inl (cR, 4, .inr (.inr (.inr (.inr (rqF r0 r1 r2 r3)))))), (r0, .inr (4, [.ref o0, .int (nI n0), .int 0])), (o0, .inl (cI, 4000, .inl f0)), (r1, .inr (4, [.ref o1, .int (nI n1), .int 0])), (o1, .inl (cI, 4000, .inl f1)), (r2, .inr (4, [.ref o2, .int (nI n2), .int 0])), (o2, .inl (cI, 8000, .inl f2)), (r3, .inr (4, [.ref o3, .int (nI n3), .int 0])), (o3, .inl (cI, 8000, .inl f3))] s0.heap := hP
  have hD : va_D A0 [(cd, .inr (8, [.ref rq, .ref wt, .ref wq, .ref mi, .ref mo, .ref ft, .ref ot, .ref gt, .ref rd, .ref tq, .ref wr, .ref s1, .ref s2, .int t0, .int t1, .int t2, .int t3])), (rq, .inl (cR, 4, .inr (.inr (.inr (.inr (rqF r0 r1 r2 r3)))))), (r0, .inr (4, [.ref o0, .int (nI n0), .int 0])), (o0, .inl (cI, 4000, .inl f0)), (r1, .inr (4, [.ref o1, .int (nI n1), .int 0])), (o1, .inl (cI, 4000, .inl f1)), (r2, .inr (4, [.ref o2, .int (nI n2), .int 0])), (o2, .inl (cI, 8000, .inl f2)), (r3, .inr (4, [.ref o3, .int (nI n3), .int 0])), (o3, .inl (cI, 8000, .inl f3))] := hD
  refine lv_iload_n hx hb dX8_copy_0 rfl (lv_at hl 1 rfl) ?_
  refine jn_i (wr := [(cd, .inr (8, [.ref rq, .ref wt, .ref wq, .ref mi, .ref mo, .ref ft, .ref ot, .ref gt, .ref rd, .ref tq, .ref wr, .ref s1, .ref s2, .int t0, .int t1, .int t2, .int t3])), (rq, .inl (cR, 4, .inr (.inr (.inr (.inr (rqF r0 r1 r2 r3)))))), (r0, .inr (4, [.ref o0, .int (nI n0), .int 0])), (o0, .inl (cI, 4000, .inl f0)), (r1, .inr (4, [.ref o1, .int (nI n1), .int 0])), (o1, .inl (cI, 4000, .inl f1)), (r2, .inr (4, [.ref o2, .int (nI n2), .int 0])), (o2, .inl (cI, 8000, .inl f2)), (r3, .inr (4, [.ref o3, .int (nI n3), .int 0])), (o3, .inl (cI, 8000, .inl f3))]) hA hP hD hS [] [0, 1, 2, 3, 4, 5, 6, 7, 8, 9] rfl rfl (by decide) (by decide) (rn_S (As := [.int x]) (rest := []) ⟨hx, hb, hml, hown, hts⟩ (cvS 1 hts zc_yX8_isRow zi_X8 zs_yX8_isRow kX8_78 (by decide +kernel) rfl rfl ⟨Nat.le_of_ble_eq_true rfl, Nat.le_of_ble_eq_true rfl⟩) (c_isRow l D cI cB cJ cR x  s0.heap.size) hK hNw hMk hA hP hD hS [] rfl rfl (by decide) rfl hl.1 rfl (Nat.le_of_ble_eq_true rfl) dX8_copy_1 ⟨Nat.le_of_ble_eq_true rfl, Nat.le_of_ble_eq_true rfl⟩) (fun ri u9 H locs hri hP hD hS => ?_)
  obtain ⟨rib, rfl, hri⟩ := hri
  try dsimp only at hri
  have hP : va_P D vwCl [(cd, .inr (8, [.ref rq, .ref wt, .ref wq, .ref mi, .ref mo, .ref ft, .ref ot, .ref gt, .ref rd, .ref tq, .ref wr, .ref s1, .ref s2, .int t0, .int t1, .int t2, .int t3])), (rq, .inl (cR, 4, .inr (.inr (.inr (.inr (rqF r0 r1 r2 r3)))))), (r0, .inr (4, [.ref o0, .int (nI n0), .int 0])), (o0, .inl (cI, 4000, .inl f0)), (r1, .inr (4, [.ref o1, .int (nI n1), .int 0])), (o1, .inl (cI, 4000, .inl f1)), (r2, .inr (4, [.ref o2, .int (nI n2), .int 0])), (o2, .inl (cI, 8000, .inl f2)), (r3, .inr (4, [.ref o3, .int (nI n3), .int 0])), (o3, .inl (cI, 8000, .inl f3))] H := hP
  have hD : va_D A0 [(cd, .inr (8, [.ref rq, .ref wt, .ref wq, .ref mi, .ref mo, .ref ft, .ref ot, .ref gt, .ref rd, .ref tq, .ref wr, .ref s1, .ref s2, .int t0, .int t1, .int t2, .int t3])), (rq, .inl (cR, 4, .inr (.inr (.inr (.inr (rqF r0 r1 r2 r3)))))), (r0, .inr (4, [.ref o0, .int (nI n0), .int 0])), (o0, .inl (cI, 4000, .inl f0)), (r1, .inr (4, [.ref o1, .int (nI n1), .int 0])), (o1, .inl (cI, 4000, .inl f1)), (r2, .inr (4, [.ref o2, .int (nI n2), .int 0])), (o2, .inl (cI, 8000, .inl f2)), (r3, .inr (4, [.ref o3, .int (nI n3), .int 0])), (o3, .inl (cI, 8000, .inl f3))] := hD
  refine bz_eq (tgt := 15) hx hb dX8_copy_4 (by decide) (fun c_1 => ?_) (fun c_1 => ?_)
  · refine lv_bipush (v := -2) hx hb dX8_copy_15 (by decide) ?_
    exact hret 17 ls _ _ _ (n0, f0, n1, f1, n2, f2, n3, f3, RL) dX8_copy_17 hP hD hS (⟨by rw [cpyP, if_pos (Or.inl (by rw [← hri]; exact c_1))], hrw⟩)
  · have hxr : isR x = true := by rw [← hri]; exact c_1
    refine lv_iload hx hb dX8_copy_7 (lv_at hl 4 rfl) ?_
    refine jn_i (wr := [(cd, .inr (8, [.ref rq, .ref wt, .ref wq, .ref mi, .ref mo, .ref ft, .ref ot, .ref gt, .ref rd, .ref tq, .ref wr, .ref s1, .ref s2, .int t0, .int t1, .int t2, .int t3])), (rq, .inl (cR, 4, .inr (.inr (.inr (.inr (rqF r0 r1 r2 r3)))))), (r0, .inr (4, [.ref o0, .int (nI n0), .int 0])), (o0, .inl (cI, 4000, .inl f0)), (r1, .inr (4, [.ref o1, .int (nI n1), .int 0])), (o1, .inl (cI, 4000, .inl f1)), (r2, .inr (4, [.ref o2, .int (nI n2), .int 0])), (o2, .inl (cI, 8000, .inl f2)), (r3, .inr (4, [.ref o3, .int (nI n3), .int 0])), (o3, .inl (cI, 8000, .inl f3))]) hA hP hD hS [] [0, 1, 2, 3, 4, 5, 6, 7, 8, 9] rfl rfl (by decide) (by decide) (rn_S (As := [.int y]) (rest := []) ⟨hx, hb, hml, hown, hts⟩ (cvS 1 hts zc_yX8_isRow zi_X8 zs_yX8_isRow kX8_78 (by decide +kernel) rfl rfl ⟨Nat.le_of_ble_eq_true rfl, Nat.le_of_ble_eq_true rfl⟩) (c_isRow l D cI cB cJ cR y  H.size) hK hNw hMk hA hP hD hS [] rfl rfl (by decide) rfl hl.1 rfl (Nat.le_of_ble_eq_true rfl) dX8_copy_9 ⟨Nat.le_of_ble_eq_true rfl, Nat.le_of_ble_eq_true rfl⟩) (fun rj u9 H locs hrj hP hD hS => ?_)
    obtain ⟨rjb, rfl, hrj⟩ := hrj
    try dsimp only at hrj
    have hP : va_P D vwCl [(cd, .inr (8, [.ref rq, .ref wt, .ref wq, .ref mi, .ref mo, .ref ft, .ref ot, .ref gt, .ref rd, .ref tq, .ref wr, .ref s1, .ref s2, .int t0, .int t1, .int t2, .int t3])), (rq, .inl (cR, 4, .inr (.inr (.inr (.inr (rqF r0 r1 r2 r3)))))), (r0, .inr (4, [.ref o0, .int (nI n0), .int 0])), (o0, .inl (cI, 4000, .inl f0)), (r1, .inr (4, [.ref o1, .int (nI n1), .int 0])), (o1, .inl (cI, 4000, .inl f1)), (r2, .inr (4, [.ref o2, .int (nI n2), .int 0])), (o2, .inl (cI, 8000, .inl f2)), (r3, .inr (4, [.ref o3, .int (nI n3), .int 0])), (o3, .inl (cI, 8000, .inl f3))] H := hP
    have hD : va_D A0 [(cd, .inr (8, [.ref rq, .ref wt, .ref wq, .ref mi, .ref mo, .ref ft, .ref ot, .ref gt, .ref rd, .ref tq, .ref wr, .ref s1, .ref s2, .int t0, .int t1, .int t2, .int t3])), (rq, .inl (cR, 4, .inr (.inr (.inr (.inr (rqF r0 r1 r2 r3)))))), (r0, .inr (4, [.ref o0, .int (nI n0), .int 0])), (o0, .inl (cI, 4000, .inl f0)), (r1, .inr (4, [.ref o1, .int (nI n1), .int 0])), (o1, .inl (cI, 4000, .inl f1)), (r2, .inr (4, [.ref o2, .int (nI n2), .int 0])), (o2, .inl (cI, 8000, .inl f2)), (r3, .inr (4, [.ref o3, .int (nI n3), .int 0])), (o3, .inl (cI, 8000, .inl f3))] := hD
    refine bz_ne (tgt := 18) hx hb dX8_copy_12 (by decide) (fun c_2 => ?_) (fun c_2 => ?_)
    · have hyr : isR y = true := by rw [← hrj]; exact c_2
      refine lv_iload_n hx hb dX8_copy_18 rfl (lv_at hl 2 rfl) ?_
      refine lv_if_lt (tgt := 45) hx hb dX8_copy_19 (by decide) (fun c_3 => ?_) (fun c_3 => ?_)
      · refine lv_bipush (v := -2) hx hb dX8_copy_45 (by decide) ?_
        exact hret 47 ls _ _ _ (n0, f0, n1, f1, n2, f2, n3, f3, RL) dX8_copy_47 hP hD hS (⟨by rw [cpyP, if_pos (Or.inr (Or.inr (Or.inl c_3)))], hrw⟩)
      · refine lv_iload_n hx hb dX8_copy_22 rfl (lv_at hl 3 rfl) ?_
        refine lv_if_lt (tgt := 45) hx hb dX8_copy_23 (by decide) (fun c_4 => ?_) (fun c_4 => ?_)
        · refine lv_bipush (v := -2) hx hb dX8_copy_45 (by decide) ?_
          exact hret 47 ls _ _ _ (n0, f0, n1, f1, n2, f2, n3, f3, RL) dX8_copy_47 hP hD hS (⟨by rw [cpyP, if_pos (Or.inr (Or.inr (Or.inr (Or.inl c_4))))], hrw⟩)
        · obtain ⟨a1, ha1, hae⟩ := nI_of c_3
          obtain ⟨m1, hm1, hme⟩ := nI_of c_4
          rw [hae] at hl
          rw [hme] at hl
          rcases isR_of hxr with hx0 | hx1 | hx2 | hx3
          · have hnx9 := rw_n0 hrw
            obtain ⟨hr0, hr1, hr2, hr3, hl0, hl1, hl2, hl3⟩ := id hrw
            rw [hx0] at hl
            refine lv_iload_n hx hb dX8_copy_26 rfl (lv_at hl 2 rfl) ?_
            refine lv_i2l hx hb dX8_copy_27 (v := (nI a1).toInt64) rfl ?_
            refine rl (y := lN a1) (nI_l (by omega)) ?_
            refine lv_iload_n hx hb dX8_copy_28 rfl (lv_at hl 3 rfl) ?_
            refine lv_i2l hx hb dX8_copy_29 (v := (nI m1).toInt64) rfl ?_
            refine rl (y := lN m1) (nI_l (by omega)) ?_
            refine lv_ladd hx hb dX8_copy_30 ?_
            refine rl (y := lN (a1 + m1)) (lN_add _ _) ?_
            refine lv_aload_n hx hb dX8_copy_31 rfl (lv_at hl 0 rfl) ?_
            refine va_get (D := D) (ci := 8) (v := .ref rq) (C := RX8) (T := TX8) (N := 17) hx hb hts in_X8 hown hK hP 0 rfl rfl 0 (by decide) (hts _ kX8_11) (fun _ h9 => h9) rfl dX8_copy_32 ?_
            refine lv_iload_n hx hb dX8_copy_35 rfl (lv_at hl 1 rfl) ?_
            refine ax_rld hx hb hK hP 1 3 rfl rfl 0 (rfl) (by decide) (by decide) rfl dX8_copy_36 ?_
            refine va_get (D := D) (ci := 4) (v := .int (nI n0)) (C := RX4) (T := TX4) (N := 3) hx hb hts in_X4 hown hK hP 2 rfl rfl 1 (by decide) (hts _ kX8_92) (fun _ h9 => h9) rfl dX8_copy_37 ?_
            refine lv_i2l hx hb dX8_copy_40 (v := (nI n0).toInt64) rfl ?_
            refine rl (y := lN n0) (nI_l (by omega)) ?_
            refine W.lcmp hx hb dX8_copy_41 ?_
            refine lv_if_le (tgt := 48) hx hb dX8_copy_42 (by decide) (fun c_5 => ?_) (fun c_5 => ?_)
            · have ho9 : ¬ (RL 0).length < a1 + m1 := by have := (pk_lLE (by omega) (by omega)).mp ((lg_cmp_le _ _).mp c_5); omega
              rcases isR_of hyr with hy0 | hy1 | hy2 | hy3
              · have hny9 := rw_n0 hrw
                rw [hy0] at hl
                have hfp := cpyP_in (k := 0) (j := 0) (RL := RL) (by decide) (by decide) ha1 hm1
                have hfp : cpyP x a n y RL = _ := (by rw [hx0, hy0, hae, hme] : cpyP x a n y RL = cpyP (nI 0) (nI a1) (nI m1) (nI 0) RL).trans hfp
                rw [if_neg ho9] at hfp
                refine lv_iload_n hx hb dX8_copy_48 rfl (lv_at hl 3 rfl) ?_
                refine lv_aload_n hx hb dX8_copy_49 rfl (lv_at hl 0 rfl) ?_
                refine va_get (D := D) (ci := 8) (v := .ref rq) (C := RX8) (T := TX8) (N := 17) hx hb hts in_X8 hown hK hP 0 rfl rfl 0 (by decide) (hts _ kX8_11) (fun _ h9 => h9) rfl dX8_copy_50 ?_
                refine lv_iload hx hb dX8_copy_53 (lv_at hl 4 rfl) ?_
                refine ax_rld hx hb hK hP 1 3 rfl rfl 0 (rfl) (by decide) (by decide) rfl dX8_copy_55 ?_
                refine jn_i (wr := [(cd, .inr (8, [.ref rq, .ref wt, .ref wq, .ref mi, .ref mo, .ref ft, .ref ot, .ref gt, .ref rd, .ref tq, .ref wr, .ref s1, .ref s2, .int t0, .int t1, .int t2, .int t3])), (rq, .inl (cR, 4, .inr (.inr (.inr (.inr (rqF r0 r1 r2 r3)))))), (r1, .inr (4, [.ref o1, .int (nI n1), .int 0])), (o1, .inl (cI, 4000, .inl f1)), (r2, .inr (4, [.ref o2, .int (nI n2), .int 0])), (o2, .inl (cI, 8000, .inl f2)), (r3, .inr (4, [.ref o3, .int (nI n3), .int 0])), (o3, .inl (cI, 8000, .inl f3))]) hA hP hD hS [2, 3] [0, 1, 4, 5, 6, 7, 8, 9] rfl rfl (by decide) (by decide) (rn_V (As := []) (rest := [.int (nI m1)]) ⟨hx, hb, hml, hown, hts⟩ (cvV 0 hts zc_yX4_room zi_X4 zm_yX4_room zv_yX4_room kX8_85 (by decide +kernel) rfl rfl ⟨Nat.le_of_ble_eq_true rfl, Nat.le_of_ble_eq_true rfl⟩) (c_Row_room l D cI cB cJ cR r0 o0 4000 n0 f0 0 (by decide) (hny9.2) H.size) hK hNw hMk hA hP hD hS [2, 3] rfl rfl (by decide) 0 rfl rfl rfl rfl hl.1 rfl (Nat.le_of_ble_eq_true rfl) dX8_copy_56 ⟨Nat.le_of_ble_eq_true rfl, Nat.le_of_ble_eq_true rfl⟩) (fun rm u9 H locs hrm hP hD hS => ?_)
                try dsimp only at hrm
                have hP : va_P D vwCl [(cd, .inr (8, [.ref rq, .ref wt, .ref wq, .ref mi, .ref mo, .ref ft, .ref ot, .ref gt, .ref rd, .ref tq, .ref wr, .ref s1, .ref s2, .int t0, .int t1, .int t2, .int t3])), (rq, .inl (cR, 4, .inr (.inr (.inr (.inr (rqF r0 r1 r2 r3)))))), (r1, .inr (4, [.ref o1, .int (nI n1), .int 0])), (o1, .inl (cI, 4000, .inl f1)), (r2, .inr (4, [.ref o2, .int (nI n2), .int 0])), (o2, .inl (cI, 8000, .inl f2)), (r3, .inr (4, [.ref o3, .int (nI n3), .int 0])), (o3, .inl (cI, 8000, .inl f3)), (r0, .inr (4, [.ref o0, .int (nI n0), .int 0])), (o0, .inl (cI, 4000, .inl f0))] H := hP
                have hD : va_D A0 [(cd, .inr (8, [.ref rq, .ref wt, .ref wq, .ref mi, .ref mo, .ref ft, .ref ot, .ref gt, .ref rd, .ref tq, .ref wr, .ref s1, .ref s2, .int t0, .int t1, .int t2, .int t3])), (rq, .inl (cR, 4, .inr (.inr (.inr (.inr (rqF r0 r1 r2 r3)))))), (r1, .inr (4, [.ref o1, .int (nI n1), .int 0])), (o1, .inl (cI, 4000, .inl f1)), (r2, .inr (4, [.ref o2, .int (nI n2), .int 0])), (o2, .inl (cI, 8000, .inl f2)), (r3, .inr (4, [.ref o3, .int (nI n3), .int 0])), (o3, .inl (cI, 8000, .inl f3)), (r0, .inr (4, [.ref o0, .int (nI n0), .int 0])), (o0, .inl (cI, 4000, .inl f0))] := hD
                subst hrm
                refine lv_icmp_le (tgt := 65) hx hb dX8_copy_59 (by decide) (fun c_6 => ?_) (fun c_6 => ?_)
                · have hf9 : ¬ 4000 < (RL 0).length + m1 := by have := (nI_leI (by omega) (by omega)).mp c_6; omega
                  rw [if_neg (show ¬ rmN 0 < (RL 0).length + m1 from hf9)] at hfp
                  refine lv_iconst (v := 0) hx hb dX8_copy_65 (by decide) ?_
                  refine ri (y := nI 0) (nI_0.symm) ?_
                  refine lv_istore (lv' := [(5, .int (nI 0)), (0, .ref cd), (1, .int (nI 0)), (2, .int (nI a1)), (3, .int (nI m1)), (4, .int (nI 0))]) hx hb dX8_copy_66 hl (by decide) rfl (fun ls hl => ?_)
                  have loop : ∀ (k9 : Nat) (i : Nat) (n7 : Nat) (f7 : Nat → Int32) (H : Heap) (locs : List Loc) (ls : Array Slot), m1 - i < k9 → (i ≤ m1) → (rowIs 4000 (RL 0 ++ rgL (gD (RL 0)) a1 i) n7 f7 0) → va_P D vwCl [(cd, .inr (8, [.ref rq, .ref wt, .ref wq, .ref mi, .ref mo, .ref ft, .ref ot, .ref gt, .ref rd, .ref tq, .ref wr, .ref s1, .ref s2, .int t0, .int t1, .int t2, .int t3])), (rq, .inl (cR, 4, .inr (.inr (.inr (.inr (rqF r0 r1 r2 r3)))))), (r0, .inr (4, [.ref o0, .int (nI n7), .int 0])), (o0, .inl (cI, 4000, .inl f7)), (r1, .inr (4, [.ref o1, .int (nI n1), .int 0])), (o1, .inl (cI, 4000, .inl f1)), (r2, .inr (4, [.ref o2, .int (nI n2), .int 0])), (o2, .inl (cI, 8000, .inl f2)), (r3, .inr (4, [.ref o3, .int (nI n3), .int 0])), (o3, .inl (cI, 8000, .inl f3))] H → va_D A0 [(cd, .inr (8, [.ref rq, .ref wt, .ref wq, .ref mi, .ref mo, .ref ft, .ref ot, .ref gt, .ref rd, .ref tq, .ref wr, .ref s1, .ref s2, .int t0, .int t1, .int t2, .int t3])), (rq, .inl (cR, 4, .inr (.inr (.inr (.inr (rqF r0 r1 r2 r3)))))), (r0, .inr (4, [.ref o0, .int (nI n7), .int 0])), (o0, .inl (cI, 4000, .inl f7)), (r1, .inr (4, [.ref o1, .int (nI n1), .int 0])), (o1, .inl (cI, 4000, .inl f1)), (r2, .inr (4, [.ref o2, .int (nI n2), .int 0])), (o2, .inl (cI, 8000, .inl f2)), (r3, .inr (4, [.ref o3, .int (nI n3), .int 0])), (o3, .inl (cI, 8000, .inl f3))] → va_S A0 s0.heap H locs → lv_has ls 6 [(0, .ref cd), (1, .int (nI 0)), (2, .int (nI a1)), (3, .int (nI m1)), (4, .int (nI 0)), (5, .int (nI i))] → W p0 l e0 ({ frames := 1, cells := 0, slots := 0, locals := 21 }) s0 m0 ([.ref cd, .int x, .int a, .int n, .int y] : List Value).toArray below meth c0 H locs 0 0 Q0 (F0 m0 68 ls []) := by
                    intro k9
                    induction k9 with
                    | zero => intro i n7 f7 H locs ls hk9; exact absurd hk9 (Nat.not_lt_zero _)
                    | succ k9 ih =>
                      intro i n7 f7 H locs ls hk9 him hr7 hP hD hS hl
                      have hlen : (RL 0 ++ rgL (gD (RL 0)) a1 i).length = (RL 0).length + i := by rw [List.length_append, rgL_len]
                      have hw9 := (row_len hr7 (by omega)).1
                      refine lv_iload hx hb dX8_copy_68 (lv_at hl 5 rfl) ?_
                      refine lv_iload_n hx hb dX8_copy_70 rfl (lv_at hl 3 rfl) ?_
                      refine lv_icmp_ge (tgt := 103) hx hb dX8_copy_71 (by decide) (fun c_7 => ?_) (fun c_7 => ?_)
                      · have hi9 : i = m1 := by have := (nI_leI (by omega) (by omega)).mp c_7; omega
                        subst hi9
                        rw [hlen] at hw9
                        subst hw9
                        refine lv_aload_n hx hb dX8_copy_103 rfl (lv_at hl 0 rfl) ?_
                        refine va_get (D := D) (ci := 8) (v := .ref rq) (C := RX8) (T := TX8) (N := 17) hx hb hts in_X8 hown hK hP 0 rfl rfl 0 (by decide) (hts _ kX8_11) (fun _ h9 => h9) rfl dX8_copy_104 ?_
                        refine lv_iload hx hb dX8_copy_107 (lv_at hl 4 rfl) ?_
                        refine ax_rld hx hb hK hP 1 3 rfl rfl 0 (rfl) (by decide) (by decide) rfl dX8_copy_109 ?_
                        refine va_get (D := D) (ci := 4) (v := .int (nI ((RL 0).length + i))) (C := RX4) (T := TX4) (N := 3) hx hb hts in_X4 hown hK hP 2 rfl rfl 1 (by decide) (hts _ kX8_92) (fun _ h9 => h9) rfl dX8_copy_110 ?_
                        exact hret 113 ls _ _ _ ((RL 0).length + i, f7, n1, f1, n2, f2, n3, f3, va_up RL 0 (RL 0 ++ rgL (gD (RL 0)) a1 i)) dX8_copy_113 hP hD hS (⟨hfp, rwOk_0 hrw hr7 (by omega)⟩)
                      · have hi9 : i < m1 := Nat.not_le.mp (fun q => c_7 (nI_le q (by omega)))
                        refine lv_aload_n hx hb dX8_copy_74 rfl (lv_at hl 0 rfl) ?_
                        refine va_get (D := D) (ci := 8) (v := .ref rq) (C := RX8) (T := TX8) (N := 17) hx hb hts in_X8 hown hK hP 0 rfl rfl 0 (by decide) (hts _ kX8_11) (fun _ h9 => h9) rfl dX8_copy_75 ?_
                        refine lv_iload hx hb dX8_copy_78 (lv_at hl 4 rfl) ?_
                        refine ax_rld hx hb hK hP 1 3 rfl rfl 0 (rfl) (by decide) (by decide) rfl dX8_copy_80 ?_
                        refine lv_aload_n hx hb dX8_copy_81 rfl (lv_at hl 0 rfl) ?_
                        refine va_get (D := D) (ci := 8) (v := .ref rq) (C := RX8) (T := TX8) (N := 17) hx hb hts in_X8 hown hK hP 0 rfl rfl 0 (by decide) (hts _ kX8_11) (fun _ h9 => h9) rfl dX8_copy_82 ?_
                        refine lv_iload_n hx hb dX8_copy_85 rfl (lv_at hl 1 rfl) ?_
                        refine ax_rld hx hb hK hP 1 3 rfl rfl 0 (rfl) (by decide) (by decide) rfl dX8_copy_86 ?_
                        refine lv_iload_n hx hb dX8_copy_87 rfl (lv_at hl 2 rfl) ?_
                        refine lv_iload hx hb dX8_copy_88 (lv_at hl 5 rfl) ?_
                        refine lv_iadd hx hb dX8_copy_90 ?_
                        refine ri (y := nI (a1 + i)) (nI_add a1 i) ?_
                        refine jn_i (wr := [(cd, .inr (8, [.ref rq, .ref wt, .ref wq, .ref mi, .ref mo, .ref ft, .ref ot, .ref gt, .ref rd, .ref tq, .ref wr, .ref s1, .ref s2, .int t0, .int t1, .int t2, .int t3])), (rq, .inl (cR, 4, .inr (.inr (.inr (.inr (rqF r0 r1 r2 r3)))))), (r1, .inr (4, [.ref o1, .int (nI n1), .int 0])), (o1, .inl (cI, 4000, .inl f1)), (r2, .inr (4, [.ref o2, .int (nI n2), .int 0])), (o2, .inl (cI, 8000, .inl f2)), (r3, .inr (4, [.ref o3, .int (nI n3), .int 0])), (o3, .inl (cI, 8000, .inl f3))]) hA hP hD hS [2, 3] [0, 1, 4, 5, 6, 7, 8, 9] rfl rfl (by decide) (by decide) (rn_V (As := [.int (nI (a1 + i))]) (rest := [.ref r0]) ⟨hx, hb, hml, hown, hts⟩ (cvV 1 hts zc_yX4_at zi_X4 zm_yX4_at zv_yX4_at kX8_102 (by decide +kernel) rfl rfl ⟨Nat.le_of_ble_eq_true rfl, Nat.le_of_ble_eq_true rfl⟩) (c_Row_at l D cI cB cJ cR r0 o0 4000 n7 f7 0 (nI (a1 + i)) (by decide) (by omega) H.size) hK hNw hMk hA hP hD hS [2, 3] rfl rfl (by decide) 0 rfl rfl rfl rfl hl.1 rfl (Nat.le_of_ble_eq_true rfl) dX8_copy_91 ⟨Nat.le_of_ble_eq_true rfl, Nat.le_of_ble_eq_true rfl⟩) (fun ra u9 H locs hra hP hD hS => ?_)
                        try dsimp only at hra
                        have hP : va_P D vwCl [(cd, .inr (8, [.ref rq, .ref wt, .ref wq, .ref mi, .ref mo, .ref ft, .ref ot, .ref gt, .ref rd, .ref tq, .ref wr, .ref s1, .ref s2, .int t0, .int t1, .int t2, .int t3])), (rq, .inl (cR, 4, .inr (.inr (.inr (.inr (rqF r0 r1 r2 r3)))))), (r1, .inr (4, [.ref o1, .int (nI n1), .int 0])), (o1, .inl (cI, 4000, .inl f1)), (r2, .inr (4, [.ref o2, .int (nI n2), .int 0])), (o2, .inl (cI, 8000, .inl f2)), (r3, .inr (4, [.ref o3, .int (nI n3), .int 0])), (o3, .inl (cI, 8000, .inl f3)), (r0, .inr (4, [.ref o0, .int (nI n7), .int 0])), (o0, .inl (cI, 4000, .inl f7))] H := hP
                        have hD : va_D A0 [(cd, .inr (8, [.ref rq, .ref wt, .ref wq, .ref mi, .ref mo, .ref ft, .ref ot, .ref gt, .ref rd, .ref tq, .ref wr, .ref s1, .ref s2, .int t0, .int t1, .int t2, .int t3])), (rq, .inl (cR, 4, .inr (.inr (.inr (.inr (rqF r0 r1 r2 r3)))))), (r1, .inr (4, [.ref o1, .int (nI n1), .int 0])), (o1, .inl (cI, 4000, .inl f1)), (r2, .inr (4, [.ref o2, .int (nI n2), .int 0])), (o2, .inl (cI, 8000, .inl f2)), (r3, .inr (4, [.ref o3, .int (nI n3), .int 0])), (o3, .inl (cI, 8000, .inl f3)), (r0, .inr (4, [.ref o0, .int (nI n7), .int 0])), (o0, .inl (cI, 4000, .inl f7))] := hD
                        have hv9 : ra = gD (RL 0) (a1 + i) := by rw [hra, if_pos (inB_t (by omega) (by omega)), nI_clamp (by omega), hr7.2.2 _ (by omega), gD_l (by omega)]; rfl
                        subst hv9
                        refine jn_v (wr := [(cd, .inr (8, [.ref rq, .ref wt, .ref wq, .ref mi, .ref mo, .ref ft, .ref ot, .ref gt, .ref rd, .ref tq, .ref wr, .ref s1, .ref s2, .int t0, .int t1, .int t2, .int t3])), (rq, .inl (cR, 4, .inr (.inr (.inr (.inr (rqF r0 r1 r2 r3)))))), (r1, .inr (4, [.ref o1, .int (nI n1), .int 0])), (o1, .inl (cI, 4000, .inl f1)), (r2, .inr (4, [.ref o2, .int (nI n2), .int 0])), (o2, .inl (cI, 8000, .inl f2)), (r3, .inr (4, [.ref o3, .int (nI n3), .int 0])), (o3, .inl (cI, 8000, .inl f3))]) hA hP hD hS [8, 9] [0, 1, 2, 3, 4, 5, 6, 7] rfl rfl (by decide) (by decide) (rn_V (As := [.int (gD (RL 0) (a1 + i))]) (rest := []) ⟨hx, hb, hml, hown, hts⟩ (cvV 1 hts zc_yX4_put zi_X4 zm_yX4_put zv_yX4_put kX8_89 (by decide +kernel) rfl rfl ⟨Nat.le_of_ble_eq_true rfl, Nat.le_of_ble_eq_true rfl⟩) (c_Row_put l D cI cB cJ cR r0 o0 4000 n7 f7 0 (RL 0 ++ rgL (gD (RL 0)) a1 i) (gD (RL 0) (a1 + i)) (by decide) (hr7) H.size) hK hNw hMk hA hP hD hS [8, 9] rfl rfl (by decide) 0 rfl rfl rfl rfl hl.1 rfl (Nat.le_of_ble_eq_true rfl) dX8_copy_94 ⟨Nat.le_of_ble_eq_true rfl, Nat.le_of_ble_eq_true rfl⟩) (fun u9 H locs hpu hP hD hS => ?_)
                        obtain ⟨n8, f8, v8⟩ := u9
                        try dsimp only at hpu
                        have hP : va_P D vwCl [(cd, .inr (8, [.ref rq, .ref wt, .ref wq, .ref mi, .ref mo, .ref ft, .ref ot, .ref gt, .ref rd, .ref tq, .ref wr, .ref s1, .ref s2, .int t0, .int t1, .int t2, .int t3])), (rq, .inl (cR, 4, .inr (.inr (.inr (.inr (rqF r0 r1 r2 r3)))))), (r1, .inr (4, [.ref o1, .int (nI n1), .int 0])), (o1, .inl (cI, 4000, .inl f1)), (r2, .inr (4, [.ref o2, .int (nI n2), .int 0])), (o2, .inl (cI, 8000, .inl f2)), (r3, .inr (4, [.ref o3, .int (nI n3), .int 0])), (o3, .inl (cI, 8000, .inl f3)), (r0, .inr (4, [.ref o0, .int (nI n8), .int v8])), (o0, .inl (cI, 4000, .inl f8))] H := hP
                        have hD : va_D A0 [(cd, .inr (8, [.ref rq, .ref wt, .ref wq, .ref mi, .ref mo, .ref ft, .ref ot, .ref gt, .ref rd, .ref tq, .ref wr, .ref s1, .ref s2, .int t0, .int t1, .int t2, .int t3])), (rq, .inl (cR, 4, .inr (.inr (.inr (.inr (rqF r0 r1 r2 r3)))))), (r1, .inr (4, [.ref o1, .int (nI n1), .int 0])), (o1, .inl (cI, 4000, .inl f1)), (r2, .inr (4, [.ref o2, .int (nI n2), .int 0])), (o2, .inl (cI, 8000, .inl f2)), (r3, .inr (4, [.ref o3, .int (nI n3), .int 0])), (o3, .inl (cI, 8000, .inl f3)), (r0, .inr (4, [.ref o0, .int (nI n8), .int v8])), (o0, .inl (cI, 4000, .inl f8))] := hD
                        have hv8 := (row_len hpu (by rw [List.length_append, hlen]; show _ + 1 ≤ _; omega)).2
                        subst hv8
                        rw [List.append_assoc] at hpu
                        refine lv_iinc (v := nI (i + 1)) (lv' := [(5, .int (nI (i + 1))), (0, .ref cd), (1, .int (nI 0)), (2, .int (nI a1)), (3, .int (nI m1)), (4, .int (nI 0))]) hx hb dX8_copy_97 hl (k := 5) rfl (nI_add i 1) (by decide) rfl (fun ls hl => ?_)
                        refine lv_goto (tgt := 68) hx hb dX8_copy_100 (by decide) ?_
                        exact ih (i + 1) n8 f8 _ _ ls (by omega) (by omega) (hpu) (hP.sub [0, 1, 8, 9, 2, 3, 4, 5, 6, 7] rfl) (hD.sub [0, 1, 8, 9, 2, 3, 4, 5, 6, 7] (by decide) rfl) hS (lv_sub hl [1, 2, 3, 4, 5, 0] rfl)
                  exact loop _ 0 n0 f0 _ _ ls (Nat.lt_succ_self _) (Nat.zero_le _) (by rw [rgL, List.append_nil]; exact hr0) (hP.sub [0, 1, 8, 9, 2, 3, 4, 5, 6, 7] rfl) (hD.sub [0, 1, 8, 9, 2, 3, 4, 5, 6, 7] (by decide) rfl) hS (lv_sub hl [1, 2, 3, 4, 5, 0] rfl)
                · have hf9 : 4000 < (RL 0).length + m1 := by have := Nat.not_le.mp (fun q => c_6 (nI_le q (by omega))); omega
                  rw [if_pos (show rmN 0 < (RL 0).length + m1 from hf9)] at hfp
                  refine lv_bipush (v := -4) hx hb dX8_copy_62 (by decide) ?_
                  have hP := hP.sub (ws' := [(cd, .inr (8, [.ref rq, .ref wt, .ref wq, .ref mi, .ref mo, .ref ft, .ref ot, .ref gt, .ref rd, .ref tq, .ref wr, .ref s1, .ref s2, .int t0, .int t1, .int t2, .int t3])), (rq, .inl (cR, 4, .inr (.inr (.inr (.inr (rqF r0 r1 r2 r3)))))), (r0, .inr (4, [.ref o0, .int (nI n0), .int 0])), (o0, .inl (cI, 4000, .inl f0)), (r1, .inr (4, [.ref o1, .int (nI n1), .int 0])), (o1, .inl (cI, 4000, .inl f1)), (r2, .inr (4, [.ref o2, .int (nI n2), .int 0])), (o2, .inl (cI, 8000, .inl f2)), (r3, .inr (4, [.ref o3, .int (nI n3), .int 0])), (o3, .inl (cI, 8000, .inl f3))]) [0, 1, 8, 9, 2, 3, 4, 5, 6, 7] rfl
                  have hD := hD.sub (ws' := [(cd, .inr (8, [.ref rq, .ref wt, .ref wq, .ref mi, .ref mo, .ref ft, .ref ot, .ref gt, .ref rd, .ref tq, .ref wr, .ref s1, .ref s2, .int t0, .int t1, .int t2, .int t3])), (rq, .inl (cR, 4, .inr (.inr (.inr (.inr (rqF r0 r1 r2 r3)))))), (r0, .inr (4, [.ref o0, .int (nI n0), .int 0])), (o0, .inl (cI, 4000, .inl f0)), (r1, .inr (4, [.ref o1, .int (nI n1), .int 0])), (o1, .inl (cI, 4000, .inl f1)), (r2, .inr (4, [.ref o2, .int (nI n2), .int 0])), (o2, .inl (cI, 8000, .inl f2)), (r3, .inr (4, [.ref o3, .int (nI n3), .int 0])), (o3, .inl (cI, 8000, .inl f3))]) [0, 1, 8, 9, 2, 3, 4, 5, 6, 7] (by decide) rfl
                  exact hret 64 ls _ _ _ (n0, f0, n1, f1, n2, f2, n3, f3, RL) dX8_copy_64 hP hD hS (⟨hfp, hrw⟩)
              · have hny9 := rw_n1 hrw
                rw [hy1] at hl
                have hfp := cpyP_in (k := 0) (j := 1) (RL := RL) (by decide) (by decide) ha1 hm1
                have hfp : cpyP x a n y RL = _ := (by rw [hx0, hy1, hae, hme] : cpyP x a n y RL = cpyP (nI 0) (nI a1) (nI m1) (nI 1) RL).trans hfp
                rw [if_neg ho9] at hfp
                refine lv_iload_n hx hb dX8_copy_48 rfl (lv_at hl 3 rfl) ?_
                refine lv_aload_n hx hb dX8_copy_49 rfl (lv_at hl 0 rfl) ?_
                refine va_get (D := D) (ci := 8) (v := .ref rq) (C := RX8) (T := TX8) (N := 17) hx hb hts in_X8 hown hK hP 0 rfl rfl 0 (by decide) (hts _ kX8_11) (fun _ h9 => h9) rfl dX8_copy_50 ?_
                refine lv_iload hx hb dX8_copy_53 (lv_at hl 4 rfl) ?_
                refine ax_rld hx hb hK hP 1 3 rfl rfl 1 (rfl) (by decide) (by decide) rfl dX8_copy_55 ?_
                refine jn_i (wr := [(cd, .inr (8, [.ref rq, .ref wt, .ref wq, .ref mi, .ref mo, .ref ft, .ref ot, .ref gt, .ref rd, .ref tq, .ref wr, .ref s1, .ref s2, .int t0, .int t1, .int t2, .int t3])), (rq, .inl (cR, 4, .inr (.inr (.inr (.inr (rqF r0 r1 r2 r3)))))), (r0, .inr (4, [.ref o0, .int (nI n0), .int 0])), (o0, .inl (cI, 4000, .inl f0)), (r2, .inr (4, [.ref o2, .int (nI n2), .int 0])), (o2, .inl (cI, 8000, .inl f2)), (r3, .inr (4, [.ref o3, .int (nI n3), .int 0])), (o3, .inl (cI, 8000, .inl f3))]) hA hP hD hS [4, 5] [0, 1, 2, 3, 6, 7, 8, 9] rfl rfl (by decide) (by decide) (rn_V (As := []) (rest := [.int (nI m1)]) ⟨hx, hb, hml, hown, hts⟩ (cvV 0 hts zc_yX4_room zi_X4 zm_yX4_room zv_yX4_room kX8_85 (by decide +kernel) rfl rfl ⟨Nat.le_of_ble_eq_true rfl, Nat.le_of_ble_eq_true rfl⟩) (c_Row_room l D cI cB cJ cR r1 o1 4000 n1 f1 0 (by decide) (hny9.2) H.size) hK hNw hMk hA hP hD hS [4, 5] rfl rfl (by decide) 0 rfl rfl rfl rfl hl.1 rfl (Nat.le_of_ble_eq_true rfl) dX8_copy_56 ⟨Nat.le_of_ble_eq_true rfl, Nat.le_of_ble_eq_true rfl⟩) (fun rm u9 H locs hrm hP hD hS => ?_)
                try dsimp only at hrm
                have hP : va_P D vwCl [(cd, .inr (8, [.ref rq, .ref wt, .ref wq, .ref mi, .ref mo, .ref ft, .ref ot, .ref gt, .ref rd, .ref tq, .ref wr, .ref s1, .ref s2, .int t0, .int t1, .int t2, .int t3])), (rq, .inl (cR, 4, .inr (.inr (.inr (.inr (rqF r0 r1 r2 r3)))))), (r0, .inr (4, [.ref o0, .int (nI n0), .int 0])), (o0, .inl (cI, 4000, .inl f0)), (r2, .inr (4, [.ref o2, .int (nI n2), .int 0])), (o2, .inl (cI, 8000, .inl f2)), (r3, .inr (4, [.ref o3, .int (nI n3), .int 0])), (o3, .inl (cI, 8000, .inl f3)), (r1, .inr (4, [.ref o1, .int (nI n1), .int 0])), (o1, .inl (cI, 4000, .inl f1))] H := hP
                have hD : va_D A0 [(cd, .inr (8, [.ref rq, .ref wt, .ref wq, .ref mi, .ref mo, .ref ft, .ref ot, .ref gt, .ref rd, .ref tq, .ref wr, .ref s1, .ref s2, .int t0, .int t1, .int t2, .int t3])), (rq, .inl (cR, 4, .inr (.inr (.inr (.inr (rqF r0 r1 r2 r3)))))), (r0, .inr (4, [.ref o0, .int (nI n0), .int 0])), (o0, .inl (cI, 4000, .inl f0)), (r2, .inr (4, [.ref o2, .int (nI n2), .int 0])), (o2, .inl (cI, 8000, .inl f2)), (r3, .inr (4, [.ref o3, .int (nI n3), .int 0])), (o3, .inl (cI, 8000, .inl f3)), (r1, .inr (4, [.ref o1, .int (nI n1), .int 0])), (o1, .inl (cI, 4000, .inl f1))] := hD
                subst hrm
                refine lv_icmp_le (tgt := 65) hx hb dX8_copy_59 (by decide) (fun c_9 => ?_) (fun c_9 => ?_)
                · have hf9 : ¬ 4000 < (RL 1).length + m1 := by have := (nI_leI (by omega) (by omega)).mp c_9; omega
                  rw [if_neg (show ¬ rmN 1 < (RL 1).length + m1 from hf9)] at hfp
                  refine lv_iconst (v := 0) hx hb dX8_copy_65 (by decide) ?_
                  refine ri (y := nI 0) (nI_0.symm) ?_
                  refine lv_istore (lv' := [(5, .int (nI 0)), (0, .ref cd), (1, .int (nI 0)), (2, .int (nI a1)), (3, .int (nI m1)), (4, .int (nI 1))]) hx hb dX8_copy_66 hl (by decide) rfl (fun ls hl => ?_)
                  have loop : ∀ (k9 : Nat) (i : Nat) (n7 : Nat) (f7 : Nat → Int32) (H : Heap) (locs : List Loc) (ls : Array Slot), m1 - i < k9 → (i ≤ m1) → (rowIs 4000 (RL 1 ++ rgL (gD (RL 0)) a1 i) n7 f7 0) → va_P D vwCl [(cd, .inr (8, [.ref rq, .ref wt, .ref wq, .ref mi, .ref mo, .ref ft, .ref ot, .ref gt, .ref rd, .ref tq, .ref wr, .ref s1, .ref s2, .int t0, .int t1, .int t2, .int t3])), (rq, .inl (cR, 4, .inr (.inr (.inr (.inr (rqF r0 r1 r2 r3)))))), (r0, .inr (4, [.ref o0, .int (nI n0), .int 0])), (o0, .inl (cI, 4000, .inl f0)), (r1, .inr (4, [.ref o1, .int (nI n7), .int 0])), (o1, .inl (cI, 4000, .inl f7)), (r2, .inr (4, [.ref o2, .int (nI n2), .int 0])), (o2, .inl (cI, 8000, .inl f2)), (r3, .inr (4, [.ref o3, .int (nI n3), .int 0])), (o3, .inl (cI, 8000, .inl f3))] H → va_D A0 [(cd, .inr (8, [.ref rq, .ref wt, .ref wq, .ref mi, .ref mo, .ref ft, .ref ot, .ref gt, .ref rd, .ref tq, .ref wr, .ref s1, .ref s2, .int t0, .int t1, .int t2, .int t3])), (rq, .inl (cR, 4, .inr (.inr (.inr (.inr (rqF r0 r1 r2 r3)))))), (r0, .inr (4, [.ref o0, .int (nI n0), .int 0])), (o0, .inl (cI, 4000, .inl f0)), (r1, .inr (4, [.ref o1, .int (nI n7), .int 0])), (o1, .inl (cI, 4000, .inl f7)), (r2, .inr (4, [.ref o2, .int (nI n2), .int 0])), (o2, .inl (cI, 8000, .inl f2)), (r3, .inr (4, [.ref o3, .int (nI n3), .int 0])), (o3, .inl (cI, 8000, .inl f3))] → va_S A0 s0.heap H locs → lv_has ls 6 [(0, .ref cd), (1, .int (nI 0)), (2, .int (nI a1)), (3, .int (nI m1)), (4, .int (nI 1)), (5, .int (nI i))] → W p0 l e0 ({ frames := 1, cells := 0, slots := 0, locals := 21 }) s0 m0 ([.ref cd, .int x, .int a, .int n, .int y] : List Value).toArray below meth c0 H locs 0 0 Q0 (F0 m0 68 ls []) := by
                    intro k9
                    induction k9 with
                    | zero => intro i n7 f7 H locs ls hk9; exact absurd hk9 (Nat.not_lt_zero _)
                    | succ k9 ih =>
                      intro i n7 f7 H locs ls hk9 him hr7 hP hD hS hl
                      have hlen : (RL 1 ++ rgL (gD (RL 0)) a1 i).length = (RL 1).length + i := by rw [List.length_append, rgL_len]
                      have hw9 := (row_len hr7 (by omega)).1
                      refine lv_iload hx hb dX8_copy_68 (lv_at hl 5 rfl) ?_
                      refine lv_iload_n hx hb dX8_copy_70 rfl (lv_at hl 3 rfl) ?_
                      refine lv_icmp_ge (tgt := 103) hx hb dX8_copy_71 (by decide) (fun c_10 => ?_) (fun c_10 => ?_)
                      · have hi9 : i = m1 := by have := (nI_leI (by omega) (by omega)).mp c_10; omega
                        subst hi9
                        rw [hlen] at hw9
                        subst hw9
                        refine lv_aload_n hx hb dX8_copy_103 rfl (lv_at hl 0 rfl) ?_
                        refine va_get (D := D) (ci := 8) (v := .ref rq) (C := RX8) (T := TX8) (N := 17) hx hb hts in_X8 hown hK hP 0 rfl rfl 0 (by decide) (hts _ kX8_11) (fun _ h9 => h9) rfl dX8_copy_104 ?_
                        refine lv_iload hx hb dX8_copy_107 (lv_at hl 4 rfl) ?_
                        refine ax_rld hx hb hK hP 1 3 rfl rfl 1 (rfl) (by decide) (by decide) rfl dX8_copy_109 ?_
                        refine va_get (D := D) (ci := 4) (v := .int (nI ((RL 1).length + i))) (C := RX4) (T := TX4) (N := 3) hx hb hts in_X4 hown hK hP 4 rfl rfl 1 (by decide) (hts _ kX8_92) (fun _ h9 => h9) rfl dX8_copy_110 ?_
                        exact hret 113 ls _ _ _ (n0, f0, (RL 1).length + i, f7, n2, f2, n3, f3, va_up RL 1 (RL 1 ++ rgL (gD (RL 0)) a1 i)) dX8_copy_113 hP hD hS (⟨hfp, rwOk_1 hrw hr7 (by omega)⟩)
                      · have hi9 : i < m1 := Nat.not_le.mp (fun q => c_10 (nI_le q (by omega)))
                        refine lv_aload_n hx hb dX8_copy_74 rfl (lv_at hl 0 rfl) ?_
                        refine va_get (D := D) (ci := 8) (v := .ref rq) (C := RX8) (T := TX8) (N := 17) hx hb hts in_X8 hown hK hP 0 rfl rfl 0 (by decide) (hts _ kX8_11) (fun _ h9 => h9) rfl dX8_copy_75 ?_
                        refine lv_iload hx hb dX8_copy_78 (lv_at hl 4 rfl) ?_
                        refine ax_rld hx hb hK hP 1 3 rfl rfl 1 (rfl) (by decide) (by decide) rfl dX8_copy_80 ?_
                        refine lv_aload_n hx hb dX8_copy_81 rfl (lv_at hl 0 rfl) ?_
                        refine va_get (D := D) (ci := 8) (v := .ref rq) (C := RX8) (T := TX8) (N := 17) hx hb hts in_X8 hown hK hP 0 rfl rfl 0 (by decide) (hts _ kX8_11) (fun _ h9 => h9) rfl dX8_copy_82 ?_
                        refine lv_iload_n hx hb dX8_copy_85 rfl (lv_at hl 1 rfl) ?_
                        refine ax_rld hx hb hK hP 1 3 rfl rfl 0 (rfl) (by decide) (by decide) rfl dX8_copy_86 ?_
                        refine lv_iload_n hx hb dX8_copy_87 rfl (lv_at hl 2 rfl) ?_
                        refine lv_iload hx hb dX8_copy_88 (lv_at hl 5 rfl) ?_
                        refine lv_iadd hx hb dX8_copy_90 ?_
                        refine ri (y := nI (a1 + i)) (nI_add a1 i) ?_
                        refine jn_i (wr := [(cd, .inr (8, [.ref rq, .ref wt, .ref wq, .ref mi, .ref mo, .ref ft, .ref ot, .ref gt, .ref rd, .ref tq, .ref wr, .ref s1, .ref s2, .int t0, .int t1, .int t2, .int t3])), (rq, .inl (cR, 4, .inr (.inr (.inr (.inr (rqF r0 r1 r2 r3)))))), (r1, .inr (4, [.ref o1, .int (nI n7), .int 0])), (o1, .inl (cI, 4000, .inl f7)), (r2, .inr (4, [.ref o2, .int (nI n2), .int 0])), (o2, .inl (cI, 8000, .inl f2)), (r3, .inr (4, [.ref o3, .int (nI n3), .int 0])), (o3, .inl (cI, 8000, .inl f3))]) hA hP hD hS [2, 3] [0, 1, 4, 5, 6, 7, 8, 9] rfl rfl (by decide) (by decide) (rn_V (As := [.int (nI (a1 + i))]) (rest := [.ref r1]) ⟨hx, hb, hml, hown, hts⟩ (cvV 1 hts zc_yX4_at zi_X4 zm_yX4_at zv_yX4_at kX8_102 (by decide +kernel) rfl rfl ⟨Nat.le_of_ble_eq_true rfl, Nat.le_of_ble_eq_true rfl⟩) (c_Row_at l D cI cB cJ cR r0 o0 4000 n0 f0 0 (nI (a1 + i)) (by decide) (by omega) H.size) hK hNw hMk hA hP hD hS [2, 3] rfl rfl (by decide) 0 rfl rfl rfl rfl hl.1 rfl (Nat.le_of_ble_eq_true rfl) dX8_copy_91 ⟨Nat.le_of_ble_eq_true rfl, Nat.le_of_ble_eq_true rfl⟩) (fun ra u9 H locs hra hP hD hS => ?_)
                        try dsimp only at hra
                        have hP : va_P D vwCl [(cd, .inr (8, [.ref rq, .ref wt, .ref wq, .ref mi, .ref mo, .ref ft, .ref ot, .ref gt, .ref rd, .ref tq, .ref wr, .ref s1, .ref s2, .int t0, .int t1, .int t2, .int t3])), (rq, .inl (cR, 4, .inr (.inr (.inr (.inr (rqF r0 r1 r2 r3)))))), (r1, .inr (4, [.ref o1, .int (nI n7), .int 0])), (o1, .inl (cI, 4000, .inl f7)), (r2, .inr (4, [.ref o2, .int (nI n2), .int 0])), (o2, .inl (cI, 8000, .inl f2)), (r3, .inr (4, [.ref o3, .int (nI n3), .int 0])), (o3, .inl (cI, 8000, .inl f3)), (r0, .inr (4, [.ref o0, .int (nI n0), .int 0])), (o0, .inl (cI, 4000, .inl f0))] H := hP
                        have hD : va_D A0 [(cd, .inr (8, [.ref rq, .ref wt, .ref wq, .ref mi, .ref mo, .ref ft, .ref ot, .ref gt, .ref rd, .ref tq, .ref wr, .ref s1, .ref s2, .int t0, .int t1, .int t2, .int t3])), (rq, .inl (cR, 4, .inr (.inr (.inr (.inr (rqF r0 r1 r2 r3)))))), (r1, .inr (4, [.ref o1, .int (nI n7), .int 0])), (o1, .inl (cI, 4000, .inl f7)), (r2, .inr (4, [.ref o2, .int (nI n2), .int 0])), (o2, .inl (cI, 8000, .inl f2)), (r3, .inr (4, [.ref o3, .int (nI n3), .int 0])), (o3, .inl (cI, 8000, .inl f3)), (r0, .inr (4, [.ref o0, .int (nI n0), .int 0])), (o0, .inl (cI, 4000, .inl f0))] := hD
                        have hv9 : ra = gD (RL 0) (a1 + i) := by rw [hra, if_pos (inB_t (by omega) (by omega)), nI_clamp (by omega)]; exact hr0.2.2 _ (by omega)
                        subst hv9
                        refine jn_v (wr := [(cd, .inr (8, [.ref rq, .ref wt, .ref wq, .ref mi, .ref mo, .ref ft, .ref ot, .ref gt, .ref rd, .ref tq, .ref wr, .ref s1, .ref s2, .int t0, .int t1, .int t2, .int t3])), (rq, .inl (cR, 4, .inr (.inr (.inr (.inr (rqF r0 r1 r2 r3)))))), (r2, .inr (4, [.ref o2, .int (nI n2), .int 0])), (o2, .inl (cI, 8000, .inl f2)), (r3, .inr (4, [.ref o3, .int (nI n3), .int 0])), (o3, .inl (cI, 8000, .inl f3)), (r0, .inr (4, [.ref o0, .int (nI n0), .int 0])), (o0, .inl (cI, 4000, .inl f0))]) hA hP hD hS [2, 3] [0, 1, 4, 5, 6, 7, 8, 9] rfl rfl (by decide) (by decide) (rn_V (As := [.int (gD (RL 0) (a1 + i))]) (rest := []) ⟨hx, hb, hml, hown, hts⟩ (cvV 1 hts zc_yX4_put zi_X4 zm_yX4_put zv_yX4_put kX8_89 (by decide +kernel) rfl rfl ⟨Nat.le_of_ble_eq_true rfl, Nat.le_of_ble_eq_true rfl⟩) (c_Row_put l D cI cB cJ cR r1 o1 4000 n7 f7 0 (RL 1 ++ rgL (gD (RL 0)) a1 i) (gD (RL 0) (a1 + i)) (by decide) (hr7) H.size) hK hNw hMk hA hP hD hS [2, 3] rfl rfl (by decide) 0 rfl rfl rfl rfl hl.1 rfl (Nat.le_of_ble_eq_true rfl) dX8_copy_94 ⟨Nat.le_of_ble_eq_true rfl, Nat.le_of_ble_eq_true rfl⟩) (fun u9 H locs hpu hP hD hS => ?_)
                        obtain ⟨n8, f8, v8⟩ := u9
                        try dsimp only at hpu
                        have hP : va_P D vwCl [(cd, .inr (8, [.ref rq, .ref wt, .ref wq, .ref mi, .ref mo, .ref ft, .ref ot, .ref gt, .ref rd, .ref tq, .ref wr, .ref s1, .ref s2, .int t0, .int t1, .int t2, .int t3])), (rq, .inl (cR, 4, .inr (.inr (.inr (.inr (rqF r0 r1 r2 r3)))))), (r2, .inr (4, [.ref o2, .int (nI n2), .int 0])), (o2, .inl (cI, 8000, .inl f2)), (r3, .inr (4, [.ref o3, .int (nI n3), .int 0])), (o3, .inl (cI, 8000, .inl f3)), (r0, .inr (4, [.ref o0, .int (nI n0), .int 0])), (o0, .inl (cI, 4000, .inl f0)), (r1, .inr (4, [.ref o1, .int (nI n8), .int v8])), (o1, .inl (cI, 4000, .inl f8))] H := hP
                        have hD : va_D A0 [(cd, .inr (8, [.ref rq, .ref wt, .ref wq, .ref mi, .ref mo, .ref ft, .ref ot, .ref gt, .ref rd, .ref tq, .ref wr, .ref s1, .ref s2, .int t0, .int t1, .int t2, .int t3])), (rq, .inl (cR, 4, .inr (.inr (.inr (.inr (rqF r0 r1 r2 r3)))))), (r2, .inr (4, [.ref o2, .int (nI n2), .int 0])), (o2, .inl (cI, 8000, .inl f2)), (r3, .inr (4, [.ref o3, .int (nI n3), .int 0])), (o3, .inl (cI, 8000, .inl f3)), (r0, .inr (4, [.ref o0, .int (nI n0), .int 0])), (o0, .inl (cI, 4000, .inl f0)), (r1, .inr (4, [.ref o1, .int (nI n8), .int v8])), (o1, .inl (cI, 4000, .inl f8))] := hD
                        have hv8 := (row_len hpu (by rw [List.length_append, hlen]; show _ + 1 ≤ _; omega)).2
                        subst hv8
                        rw [List.append_assoc] at hpu
                        refine lv_iinc (v := nI (i + 1)) (lv' := [(5, .int (nI (i + 1))), (0, .ref cd), (1, .int (nI 0)), (2, .int (nI a1)), (3, .int (nI m1)), (4, .int (nI 1))]) hx hb dX8_copy_97 hl (k := 5) rfl (nI_add i 1) (by decide) rfl (fun ls hl => ?_)
                        refine lv_goto (tgt := 68) hx hb dX8_copy_100 (by decide) ?_
                        exact ih (i + 1) n8 f8 _ _ ls (by omega) (by omega) (hpu) (hP.sub [0, 1, 6, 7, 8, 9, 2, 3, 4, 5] rfl) (hD.sub [0, 1, 6, 7, 8, 9, 2, 3, 4, 5] (by decide) rfl) hS (lv_sub hl [1, 2, 3, 4, 5, 0] rfl)
                  exact loop _ 0 n1 f1 _ _ ls (Nat.lt_succ_self _) (Nat.zero_le _) (by rw [rgL, List.append_nil]; exact hr1) (hP.sub [0, 1, 2, 3, 8, 9, 4, 5, 6, 7] rfl) (hD.sub [0, 1, 2, 3, 8, 9, 4, 5, 6, 7] (by decide) rfl) hS (lv_sub hl [1, 2, 3, 4, 5, 0] rfl)
                · have hf9 : 4000 < (RL 1).length + m1 := by have := Nat.not_le.mp (fun q => c_9 (nI_le q (by omega))); omega
                  rw [if_pos (show rmN 1 < (RL 1).length + m1 from hf9)] at hfp
                  refine lv_bipush (v := -4) hx hb dX8_copy_62 (by decide) ?_
                  have hP := hP.sub (ws' := [(cd, .inr (8, [.ref rq, .ref wt, .ref wq, .ref mi, .ref mo, .ref ft, .ref ot, .ref gt, .ref rd, .ref tq, .ref wr, .ref s1, .ref s2, .int t0, .int t1, .int t2, .int t3])), (rq, .inl (cR, 4, .inr (.inr (.inr (.inr (rqF r0 r1 r2 r3)))))), (r0, .inr (4, [.ref o0, .int (nI n0), .int 0])), (o0, .inl (cI, 4000, .inl f0)), (r1, .inr (4, [.ref o1, .int (nI n1), .int 0])), (o1, .inl (cI, 4000, .inl f1)), (r2, .inr (4, [.ref o2, .int (nI n2), .int 0])), (o2, .inl (cI, 8000, .inl f2)), (r3, .inr (4, [.ref o3, .int (nI n3), .int 0])), (o3, .inl (cI, 8000, .inl f3))]) [0, 1, 2, 3, 8, 9, 4, 5, 6, 7] rfl
                  have hD := hD.sub (ws' := [(cd, .inr (8, [.ref rq, .ref wt, .ref wq, .ref mi, .ref mo, .ref ft, .ref ot, .ref gt, .ref rd, .ref tq, .ref wr, .ref s1, .ref s2, .int t0, .int t1, .int t2, .int t3])), (rq, .inl (cR, 4, .inr (.inr (.inr (.inr (rqF r0 r1 r2 r3)))))), (r0, .inr (4, [.ref o0, .int (nI n0), .int 0])), (o0, .inl (cI, 4000, .inl f0)), (r1, .inr (4, [.ref o1, .int (nI n1), .int 0])), (o1, .inl (cI, 4000, .inl f1)), (r2, .inr (4, [.ref o2, .int (nI n2), .int 0])), (o2, .inl (cI, 8000, .inl f2)), (r3, .inr (4, [.ref o3, .int (nI n3), .int 0])), (o3, .inl (cI, 8000, .inl f3))]) [0, 1, 2, 3, 8, 9, 4, 5, 6, 7] (by decide) rfl
                  exact hret 64 ls _ _ _ (n0, f0, n1, f1, n2, f2, n3, f3, RL) dX8_copy_64 hP hD hS (⟨hfp, hrw⟩)
              · have hny9 := rw_n2 hrw
                rw [hy2] at hl
                have hfp := cpyP_in (k := 0) (j := 2) (RL := RL) (by decide) (by decide) ha1 hm1
                have hfp : cpyP x a n y RL = _ := (by rw [hx0, hy2, hae, hme] : cpyP x a n y RL = cpyP (nI 0) (nI a1) (nI m1) (nI 2) RL).trans hfp
                rw [if_neg ho9] at hfp
                refine lv_iload_n hx hb dX8_copy_48 rfl (lv_at hl 3 rfl) ?_
                refine lv_aload_n hx hb dX8_copy_49 rfl (lv_at hl 0 rfl) ?_
                refine va_get (D := D) (ci := 8) (v := .ref rq) (C := RX8) (T := TX8) (N := 17) hx hb hts in_X8 hown hK hP 0 rfl rfl 0 (by decide) (hts _ kX8_11) (fun _ h9 => h9) rfl dX8_copy_50 ?_
                refine lv_iload hx hb dX8_copy_53 (lv_at hl 4 rfl) ?_
                refine ax_rld hx hb hK hP 1 3 rfl rfl 2 (rfl) (by decide) (by decide) rfl dX8_copy_55 ?_
                refine jn_i (wr := [(cd, .inr (8, [.ref rq, .ref wt, .ref wq, .ref mi, .ref mo, .ref ft, .ref ot, .ref gt, .ref rd, .ref tq, .ref wr, .ref s1, .ref s2, .int t0, .int t1, .int t2, .int t3])), (rq, .inl (cR, 4, .inr (.inr (.inr (.inr (rqF r0 r1 r2 r3)))))), (r0, .inr (4, [.ref o0, .int (nI n0), .int 0])), (o0, .inl (cI, 4000, .inl f0)), (r1, .inr (4, [.ref o1, .int (nI n1), .int 0])), (o1, .inl (cI, 4000, .inl f1)), (r3, .inr (4, [.ref o3, .int (nI n3), .int 0])), (o3, .inl (cI, 8000, .inl f3))]) hA hP hD hS [6, 7] [0, 1, 2, 3, 4, 5, 8, 9] rfl rfl (by decide) (by decide) (rn_V (As := []) (rest := [.int (nI m1)]) ⟨hx, hb, hml, hown, hts⟩ (cvV 0 hts zc_yX4_room zi_X4 zm_yX4_room zv_yX4_room kX8_85 (by decide +kernel) rfl rfl ⟨Nat.le_of_ble_eq_true rfl, Nat.le_of_ble_eq_true rfl⟩) (c_Row_room l D cI cB cJ cR r2 o2 8000 n2 f2 0 (by decide) (hny9.2) H.size) hK hNw hMk hA hP hD hS [6, 7] rfl rfl (by decide) 0 rfl rfl rfl rfl hl.1 rfl (Nat.le_of_ble_eq_true rfl) dX8_copy_56 ⟨Nat.le_of_ble_eq_true rfl, Nat.le_of_ble_eq_true rfl⟩) (fun rm u9 H locs hrm hP hD hS => ?_)
                try dsimp only at hrm
                have hP : va_P D vwCl [(cd, .inr (8, [.ref rq, .ref wt, .ref wq, .ref mi, .ref mo, .ref ft, .ref ot, .ref gt, .ref rd, .ref tq, .ref wr, .ref s1, .ref s2, .int t0, .int t1, .int t2, .int t3])), (rq, .inl (cR, 4, .inr (.inr (.inr (.inr (rqF r0 r1 r2 r3)))))), (r0, .inr (4, [.ref o0, .int (nI n0), .int 0])), (o0, .inl (cI, 4000, .inl f0)), (r1, .inr (4, [.ref o1, .int (nI n1), .int 0])), (o1, .inl (cI, 4000, .inl f1)), (r3, .inr (4, [.ref o3, .int (nI n3), .int 0])), (o3, .inl (cI, 8000, .inl f3)), (r2, .inr (4, [.ref o2, .int (nI n2), .int 0])), (o2, .inl (cI, 8000, .inl f2))] H := hP
                have hD : va_D A0 [(cd, .inr (8, [.ref rq, .ref wt, .ref wq, .ref mi, .ref mo, .ref ft, .ref ot, .ref gt, .ref rd, .ref tq, .ref wr, .ref s1, .ref s2, .int t0, .int t1, .int t2, .int t3])), (rq, .inl (cR, 4, .inr (.inr (.inr (.inr (rqF r0 r1 r2 r3)))))), (r0, .inr (4, [.ref o0, .int (nI n0), .int 0])), (o0, .inl (cI, 4000, .inl f0)), (r1, .inr (4, [.ref o1, .int (nI n1), .int 0])), (o1, .inl (cI, 4000, .inl f1)), (r3, .inr (4, [.ref o3, .int (nI n3), .int 0])), (o3, .inl (cI, 8000, .inl f3)), (r2, .inr (4, [.ref o2, .int (nI n2), .int 0])), (o2, .inl (cI, 8000, .inl f2))] := hD
                subst hrm
                refine lv_icmp_le (tgt := 65) hx hb dX8_copy_59 (by decide) (fun c_12 => ?_) (fun c_12 => ?_)
                · have hf9 : ¬ 8000 < (RL 2).length + m1 := by have := (nI_leI (by omega) (by omega)).mp c_12; omega
                  rw [if_neg (show ¬ rmN 2 < (RL 2).length + m1 from hf9)] at hfp
                  refine lv_iconst (v := 0) hx hb dX8_copy_65 (by decide) ?_
                  refine ri (y := nI 0) (nI_0.symm) ?_
                  refine lv_istore (lv' := [(5, .int (nI 0)), (0, .ref cd), (1, .int (nI 0)), (2, .int (nI a1)), (3, .int (nI m1)), (4, .int (nI 2))]) hx hb dX8_copy_66 hl (by decide) rfl (fun ls hl => ?_)
                  have loop : ∀ (k9 : Nat) (i : Nat) (n7 : Nat) (f7 : Nat → Int32) (H : Heap) (locs : List Loc) (ls : Array Slot), m1 - i < k9 → (i ≤ m1) → (rowIs 8000 (RL 2 ++ rgL (gD (RL 0)) a1 i) n7 f7 0) → va_P D vwCl [(cd, .inr (8, [.ref rq, .ref wt, .ref wq, .ref mi, .ref mo, .ref ft, .ref ot, .ref gt, .ref rd, .ref tq, .ref wr, .ref s1, .ref s2, .int t0, .int t1, .int t2, .int t3])), (rq, .inl (cR, 4, .inr (.inr (.inr (.inr (rqF r0 r1 r2 r3)))))), (r0, .inr (4, [.ref o0, .int (nI n0), .int 0])), (o0, .inl (cI, 4000, .inl f0)), (r1, .inr (4, [.ref o1, .int (nI n1), .int 0])), (o1, .inl (cI, 4000, .inl f1)), (r2, .inr (4, [.ref o2, .int (nI n7), .int 0])), (o2, .inl (cI, 8000, .inl f7)), (r3, .inr (4, [.ref o3, .int (nI n3), .int 0])), (o3, .inl (cI, 8000, .inl f3))] H → va_D A0 [(cd, .inr (8, [.ref rq, .ref wt, .ref wq, .ref mi, .ref mo, .ref ft, .ref ot, .ref gt, .ref rd, .ref tq, .ref wr, .ref s1, .ref s2, .int t0, .int t1, .int t2, .int t3])), (rq, .inl (cR, 4, .inr (.inr (.inr (.inr (rqF r0 r1 r2 r3)))))), (r0, .inr (4, [.ref o0, .int (nI n0), .int 0])), (o0, .inl (cI, 4000, .inl f0)), (r1, .inr (4, [.ref o1, .int (nI n1), .int 0])), (o1, .inl (cI, 4000, .inl f1)), (r2, .inr (4, [.ref o2, .int (nI n7), .int 0])), (o2, .inl (cI, 8000, .inl f7)), (r3, .inr (4, [.ref o3, .int (nI n3), .int 0])), (o3, .inl (cI, 8000, .inl f3))] → va_S A0 s0.heap H locs → lv_has ls 6 [(0, .ref cd), (1, .int (nI 0)), (2, .int (nI a1)), (3, .int (nI m1)), (4, .int (nI 2)), (5, .int (nI i))] → W p0 l e0 ({ frames := 1, cells := 0, slots := 0, locals := 21 }) s0 m0 ([.ref cd, .int x, .int a, .int n, .int y] : List Value).toArray below meth c0 H locs 0 0 Q0 (F0 m0 68 ls []) := by
                    intro k9
                    induction k9 with
                    | zero => intro i n7 f7 H locs ls hk9; exact absurd hk9 (Nat.not_lt_zero _)
                    | succ k9 ih =>
                      intro i n7 f7 H locs ls hk9 him hr7 hP hD hS hl
                      have hlen : (RL 2 ++ rgL (gD (RL 0)) a1 i).length = (RL 2).length + i := by rw [List.length_append, rgL_len]
                      have hw9 := (row_len hr7 (by omega)).1
                      refine lv_iload hx hb dX8_copy_68 (lv_at hl 5 rfl) ?_
                      refine lv_iload_n hx hb dX8_copy_70 rfl (lv_at hl 3 rfl) ?_
                      refine lv_icmp_ge (tgt := 103) hx hb dX8_copy_71 (by decide) (fun c_13 => ?_) (fun c_13 => ?_)
                      · have hi9 : i = m1 := by have := (nI_leI (by omega) (by omega)).mp c_13; omega
                        subst hi9
                        rw [hlen] at hw9
                        subst hw9
                        refine lv_aload_n hx hb dX8_copy_103 rfl (lv_at hl 0 rfl) ?_
                        refine va_get (D := D) (ci := 8) (v := .ref rq) (C := RX8) (T := TX8) (N := 17) hx hb hts in_X8 hown hK hP 0 rfl rfl 0 (by decide) (hts _ kX8_11) (fun _ h9 => h9) rfl dX8_copy_104 ?_
                        refine lv_iload hx hb dX8_copy_107 (lv_at hl 4 rfl) ?_
                        refine ax_rld hx hb hK hP 1 3 rfl rfl 2 (rfl) (by decide) (by decide) rfl dX8_copy_109 ?_
                        refine va_get (D := D) (ci := 4) (v := .int (nI ((RL 2).length + i))) (C := RX4) (T := TX4) (N := 3) hx hb hts in_X4 hown hK hP 6 rfl rfl 1 (by decide) (hts _ kX8_92) (fun _ h9 => h9) rfl dX8_copy_110 ?_
                        exact hret 113 ls _ _ _ (n0, f0, n1, f1, (RL 2).length + i, f7, n3, f3, va_up RL 2 (RL 2 ++ rgL (gD (RL 0)) a1 i)) dX8_copy_113 hP hD hS (⟨hfp, rwOk_2 hrw hr7 (by omega)⟩)
                      · have hi9 : i < m1 := Nat.not_le.mp (fun q => c_13 (nI_le q (by omega)))
                        refine lv_aload_n hx hb dX8_copy_74 rfl (lv_at hl 0 rfl) ?_
                        refine va_get (D := D) (ci := 8) (v := .ref rq) (C := RX8) (T := TX8) (N := 17) hx hb hts in_X8 hown hK hP 0 rfl rfl 0 (by decide) (hts _ kX8_11) (fun _ h9 => h9) rfl dX8_copy_75 ?_
                        refine lv_iload hx hb dX8_copy_78 (lv_at hl 4 rfl) ?_
                        refine ax_rld hx hb hK hP 1 3 rfl rfl 2 (rfl) (by decide) (by decide) rfl dX8_copy_80 ?_
                        refine lv_aload_n hx hb dX8_copy_81 rfl (lv_at hl 0 rfl) ?_
                        refine va_get (D := D) (ci := 8) (v := .ref rq) (C := RX8) (T := TX8) (N := 17) hx hb hts in_X8 hown hK hP 0 rfl rfl 0 (by decide) (hts _ kX8_11) (fun _ h9 => h9) rfl dX8_copy_82 ?_
                        refine lv_iload_n hx hb dX8_copy_85 rfl (lv_at hl 1 rfl) ?_
                        refine ax_rld hx hb hK hP 1 3 rfl rfl 0 (rfl) (by decide) (by decide) rfl dX8_copy_86 ?_
                        refine lv_iload_n hx hb dX8_copy_87 rfl (lv_at hl 2 rfl) ?_
                        refine lv_iload hx hb dX8_copy_88 (lv_at hl 5 rfl) ?_
                        refine lv_iadd hx hb dX8_copy_90 ?_
                        refine ri (y := nI (a1 + i)) (nI_add a1 i) ?_
                        refine jn_i (wr := [(cd, .inr (8, [.ref rq, .ref wt, .ref wq, .ref mi, .ref mo, .ref ft, .ref ot, .ref gt, .ref rd, .ref tq, .ref wr, .ref s1, .ref s2, .int t0, .int t1, .int t2, .int t3])), (rq, .inl (cR, 4, .inr (.inr (.inr (.inr (rqF r0 r1 r2 r3)))))), (r1, .inr (4, [.ref o1, .int (nI n1), .int 0])), (o1, .inl (cI, 4000, .inl f1)), (r2, .inr (4, [.ref o2, .int (nI n7), .int 0])), (o2, .inl (cI, 8000, .inl f7)), (r3, .inr (4, [.ref o3, .int (nI n3), .int 0])), (o3, .inl (cI, 8000, .inl f3))]) hA hP hD hS [2, 3] [0, 1, 4, 5, 6, 7, 8, 9] rfl rfl (by decide) (by decide) (rn_V (As := [.int (nI (a1 + i))]) (rest := [.ref r2]) ⟨hx, hb, hml, hown, hts⟩ (cvV 1 hts zc_yX4_at zi_X4 zm_yX4_at zv_yX4_at kX8_102 (by decide +kernel) rfl rfl ⟨Nat.le_of_ble_eq_true rfl, Nat.le_of_ble_eq_true rfl⟩) (c_Row_at l D cI cB cJ cR r0 o0 4000 n0 f0 0 (nI (a1 + i)) (by decide) (by omega) H.size) hK hNw hMk hA hP hD hS [2, 3] rfl rfl (by decide) 0 rfl rfl rfl rfl hl.1 rfl (Nat.le_of_ble_eq_true rfl) dX8_copy_91 ⟨Nat.le_of_ble_eq_true rfl, Nat.le_of_ble_eq_true rfl⟩) (fun ra u9 H locs hra hP hD hS => ?_)
                        try dsimp only at hra
                        have hP : va_P D vwCl [(cd, .inr (8, [.ref rq, .ref wt, .ref wq, .ref mi, .ref mo, .ref ft, .ref ot, .ref gt, .ref rd, .ref tq, .ref wr, .ref s1, .ref s2, .int t0, .int t1, .int t2, .int t3])), (rq, .inl (cR, 4, .inr (.inr (.inr (.inr (rqF r0 r1 r2 r3)))))), (r1, .inr (4, [.ref o1, .int (nI n1), .int 0])), (o1, .inl (cI, 4000, .inl f1)), (r2, .inr (4, [.ref o2, .int (nI n7), .int 0])), (o2, .inl (cI, 8000, .inl f7)), (r3, .inr (4, [.ref o3, .int (nI n3), .int 0])), (o3, .inl (cI, 8000, .inl f3)), (r0, .inr (4, [.ref o0, .int (nI n0), .int 0])), (o0, .inl (cI, 4000, .inl f0))] H := hP
                        have hD : va_D A0 [(cd, .inr (8, [.ref rq, .ref wt, .ref wq, .ref mi, .ref mo, .ref ft, .ref ot, .ref gt, .ref rd, .ref tq, .ref wr, .ref s1, .ref s2, .int t0, .int t1, .int t2, .int t3])), (rq, .inl (cR, 4, .inr (.inr (.inr (.inr (rqF r0 r1 r2 r3)))))), (r1, .inr (4, [.ref o1, .int (nI n1), .int 0])), (o1, .inl (cI, 4000, .inl f1)), (r2, .inr (4, [.ref o2, .int (nI n7), .int 0])), (o2, .inl (cI, 8000, .inl f7)), (r3, .inr (4, [.ref o3, .int (nI n3), .int 0])), (o3, .inl (cI, 8000, .inl f3)), (r0, .inr (4, [.ref o0, .int (nI n0), .int 0])), (o0, .inl (cI, 4000, .inl f0))] := hD
                        have hv9 : ra = gD (RL 0) (a1 + i) := by rw [hra, if_pos (inB_t (by omega) (by omega)), nI_clamp (by omega)]; exact hr0.2.2 _ (by omega)
                        subst hv9
                        refine jn_v (wr := [(cd, .inr (8, [.ref rq, .ref wt, .ref wq, .ref mi, .ref mo, .ref ft, .ref ot, .ref gt, .ref rd, .ref tq, .ref wr, .ref s1, .ref s2, .int t0, .int t1, .int t2, .int t3])), (rq, .inl (cR, 4, .inr (.inr (.inr (.inr (rqF r0 r1 r2 r3)))))), (r1, .inr (4, [.ref o1, .int (nI n1), .int 0])), (o1, .inl (cI, 4000, .inl f1)), (r3, .inr (4, [.ref o3, .int (nI n3), .int 0])), (o3, .inl (cI, 8000, .inl f3)), (r0, .inr (4, [.ref o0, .int (nI n0), .int 0])), (o0, .inl (cI, 4000, .inl f0))]) hA hP hD hS [4, 5] [0, 1, 2, 3, 6, 7, 8, 9] rfl rfl (by decide) (by decide) (rn_V (As := [.int (gD (RL 0) (a1 + i))]) (rest := []) ⟨hx, hb, hml, hown, hts⟩ (cvV 1 hts zc_yX4_put zi_X4 zm_yX4_put zv_yX4_put kX8_89 (by decide +kernel) rfl rfl ⟨Nat.le_of_ble_eq_true rfl, Nat.le_of_ble_eq_true rfl⟩) (c_Row_put l D cI cB cJ cR r2 o2 8000 n7 f7 0 (RL 2 ++ rgL (gD (RL 0)) a1 i) (gD (RL 0) (a1 + i)) (by decide) (hr7) H.size) hK hNw hMk hA hP hD hS [4, 5] rfl rfl (by decide) 0 rfl rfl rfl rfl hl.1 rfl (Nat.le_of_ble_eq_true rfl) dX8_copy_94 ⟨Nat.le_of_ble_eq_true rfl, Nat.le_of_ble_eq_true rfl⟩) (fun u9 H locs hpu hP hD hS => ?_)
                        obtain ⟨n8, f8, v8⟩ := u9
                        try dsimp only at hpu
                        have hP : va_P D vwCl [(cd, .inr (8, [.ref rq, .ref wt, .ref wq, .ref mi, .ref mo, .ref ft, .ref ot, .ref gt, .ref rd, .ref tq, .ref wr, .ref s1, .ref s2, .int t0, .int t1, .int t2, .int t3])), (rq, .inl (cR, 4, .inr (.inr (.inr (.inr (rqF r0 r1 r2 r3)))))), (r1, .inr (4, [.ref o1, .int (nI n1), .int 0])), (o1, .inl (cI, 4000, .inl f1)), (r3, .inr (4, [.ref o3, .int (nI n3), .int 0])), (o3, .inl (cI, 8000, .inl f3)), (r0, .inr (4, [.ref o0, .int (nI n0), .int 0])), (o0, .inl (cI, 4000, .inl f0)), (r2, .inr (4, [.ref o2, .int (nI n8), .int v8])), (o2, .inl (cI, 8000, .inl f8))] H := hP
                        have hD : va_D A0 [(cd, .inr (8, [.ref rq, .ref wt, .ref wq, .ref mi, .ref mo, .ref ft, .ref ot, .ref gt, .ref rd, .ref tq, .ref wr, .ref s1, .ref s2, .int t0, .int t1, .int t2, .int t3])), (rq, .inl (cR, 4, .inr (.inr (.inr (.inr (rqF r0 r1 r2 r3)))))), (r1, .inr (4, [.ref o1, .int (nI n1), .int 0])), (o1, .inl (cI, 4000, .inl f1)), (r3, .inr (4, [.ref o3, .int (nI n3), .int 0])), (o3, .inl (cI, 8000, .inl f3)), (r0, .inr (4, [.ref o0, .int (nI n0), .int 0])), (o0, .inl (cI, 4000, .inl f0)), (r2, .inr (4, [.ref o2, .int (nI n8), .int v8])), (o2, .inl (cI, 8000, .inl f8))] := hD
                        have hv8 := (row_len hpu (by rw [List.length_append, hlen]; show _ + 1 ≤ _; omega)).2
                        subst hv8
                        rw [List.append_assoc] at hpu
                        refine lv_iinc (v := nI (i + 1)) (lv' := [(5, .int (nI (i + 1))), (0, .ref cd), (1, .int (nI 0)), (2, .int (nI a1)), (3, .int (nI m1)), (4, .int (nI 2))]) hx hb dX8_copy_97 hl (k := 5) rfl (nI_add i 1) (by decide) rfl (fun ls hl => ?_)
                        refine lv_goto (tgt := 68) hx hb dX8_copy_100 (by decide) ?_
                        exact ih (i + 1) n8 f8 _ _ ls (by omega) (by omega) (hpu) (hP.sub [0, 1, 6, 7, 2, 3, 8, 9, 4, 5] rfl) (hD.sub [0, 1, 6, 7, 2, 3, 8, 9, 4, 5] (by decide) rfl) hS (lv_sub hl [1, 2, 3, 4, 5, 0] rfl)
                  exact loop _ 0 n2 f2 _ _ ls (Nat.lt_succ_self _) (Nat.zero_le _) (by rw [rgL, List.append_nil]; exact hr2) (hP.sub [0, 1, 2, 3, 4, 5, 8, 9, 6, 7] rfl) (hD.sub [0, 1, 2, 3, 4, 5, 8, 9, 6, 7] (by decide) rfl) hS (lv_sub hl [1, 2, 3, 4, 5, 0] rfl)
                · have hf9 : 8000 < (RL 2).length + m1 := by have := Nat.not_le.mp (fun q => c_12 (nI_le q (by omega))); omega
                  rw [if_pos (show rmN 2 < (RL 2).length + m1 from hf9)] at hfp
                  refine lv_bipush (v := -4) hx hb dX8_copy_62 (by decide) ?_
                  have hP := hP.sub (ws' := [(cd, .inr (8, [.ref rq, .ref wt, .ref wq, .ref mi, .ref mo, .ref ft, .ref ot, .ref gt, .ref rd, .ref tq, .ref wr, .ref s1, .ref s2, .int t0, .int t1, .int t2, .int t3])), (rq, .inl (cR, 4, .inr (.inr (.inr (.inr (rqF r0 r1 r2 r3)))))), (r0, .inr (4, [.ref o0, .int (nI n0), .int 0])), (o0, .inl (cI, 4000, .inl f0)), (r1, .inr (4, [.ref o1, .int (nI n1), .int 0])), (o1, .inl (cI, 4000, .inl f1)), (r2, .inr (4, [.ref o2, .int (nI n2), .int 0])), (o2, .inl (cI, 8000, .inl f2)), (r3, .inr (4, [.ref o3, .int (nI n3), .int 0])), (o3, .inl (cI, 8000, .inl f3))]) [0, 1, 2, 3, 4, 5, 8, 9, 6, 7] rfl
                  have hD := hD.sub (ws' := [(cd, .inr (8, [.ref rq, .ref wt, .ref wq, .ref mi, .ref mo, .ref ft, .ref ot, .ref gt, .ref rd, .ref tq, .ref wr, .ref s1, .ref s2, .int t0, .int t1, .int t2, .int t3])), (rq, .inl (cR, 4, .inr (.inr (.inr (.inr (rqF r0 r1 r2 r3)))))), (r0, .inr (4, [.ref o0, .int (nI n0), .int 0])), (o0, .inl (cI, 4000, .inl f0)), (r1, .inr (4, [.ref o1, .int (nI n1), .int 0])), (o1, .inl (cI, 4000, .inl f1)), (r2, .inr (4, [.ref o2, .int (nI n2), .int 0])), (o2, .inl (cI, 8000, .inl f2)), (r3, .inr (4, [.ref o3, .int (nI n3), .int 0])), (o3, .inl (cI, 8000, .inl f3))]) [0, 1, 2, 3, 4, 5, 8, 9, 6, 7] (by decide) rfl
                  exact hret 64 ls _ _ _ (n0, f0, n1, f1, n2, f2, n3, f3, RL) dX8_copy_64 hP hD hS (⟨hfp, hrw⟩)
              · have hny9 := rw_n3 hrw
                rw [hy3] at hl
                have hfp := cpyP_in (k := 0) (j := 3) (RL := RL) (by decide) (by decide) ha1 hm1
                have hfp : cpyP x a n y RL = _ := (by rw [hx0, hy3, hae, hme] : cpyP x a n y RL = cpyP (nI 0) (nI a1) (nI m1) (nI 3) RL).trans hfp
                rw [if_neg ho9] at hfp
                refine lv_iload_n hx hb dX8_copy_48 rfl (lv_at hl 3 rfl) ?_
                refine lv_aload_n hx hb dX8_copy_49 rfl (lv_at hl 0 rfl) ?_
                refine va_get (D := D) (ci := 8) (v := .ref rq) (C := RX8) (T := TX8) (N := 17) hx hb hts in_X8 hown hK hP 0 rfl rfl 0 (by decide) (hts _ kX8_11) (fun _ h9 => h9) rfl dX8_copy_50 ?_
                refine lv_iload hx hb dX8_copy_53 (lv_at hl 4 rfl) ?_
                refine ax_rld hx hb hK hP 1 3 rfl rfl 3 (rfl) (by decide) (by decide) rfl dX8_copy_55 ?_
                refine jn_i (wr := [(cd, .inr (8, [.ref rq, .ref wt, .ref wq, .ref mi, .ref mo, .ref ft, .ref ot, .ref gt, .ref rd, .ref tq, .ref wr, .ref s1, .ref s2, .int t0, .int t1, .int t2, .int t3])), (rq, .inl (cR, 4, .inr (.inr (.inr (.inr (rqF r0 r1 r2 r3)))))), (r0, .inr (4, [.ref o0, .int (nI n0), .int 0])), (o0, .inl (cI, 4000, .inl f0)), (r1, .inr (4, [.ref o1, .int (nI n1), .int 0])), (o1, .inl (cI, 4000, .inl f1)), (r2, .inr (4, [.ref o2, .int (nI n2), .int 0])), (o2, .inl (cI, 8000, .inl f2))]) hA hP hD hS [8, 9] [0, 1, 2, 3, 4, 5, 6, 7] rfl rfl (by decide) (by decide) (rn_V (As := []) (rest := [.int (nI m1)]) ⟨hx, hb, hml, hown, hts⟩ (cvV 0 hts zc_yX4_room zi_X4 zm_yX4_room zv_yX4_room kX8_85 (by decide +kernel) rfl rfl ⟨Nat.le_of_ble_eq_true rfl, Nat.le_of_ble_eq_true rfl⟩) (c_Row_room l D cI cB cJ cR r3 o3 8000 n3 f3 0 (by decide) (hny9.2) H.size) hK hNw hMk hA hP hD hS [8, 9] rfl rfl (by decide) 0 rfl rfl rfl rfl hl.1 rfl (Nat.le_of_ble_eq_true rfl) dX8_copy_56 ⟨Nat.le_of_ble_eq_true rfl, Nat.le_of_ble_eq_true rfl⟩) (fun rm u9 H locs hrm hP hD hS => ?_)
                try dsimp only at hrm
                have hP : va_P D vwCl [(cd, .inr (8, [.ref rq, .ref wt, .ref wq, .ref mi, .ref mo, .ref ft, .ref ot, .ref gt, .ref rd, .ref tq, .ref wr, .ref s1, .ref s2, .int t0, .int t1, .int t2, .int t3])), (rq, .inl (cR, 4, .inr (.inr (.inr (.inr (rqF r0 r1 r2 r3)))))), (r0, .inr (4, [.ref o0, .int (nI n0), .int 0])), (o0, .inl (cI, 4000, .inl f0)), (r1, .inr (4, [.ref o1, .int (nI n1), .int 0])), (o1, .inl (cI, 4000, .inl f1)), (r2, .inr (4, [.ref o2, .int (nI n2), .int 0])), (o2, .inl (cI, 8000, .inl f2)), (r3, .inr (4, [.ref o3, .int (nI n3), .int 0])), (o3, .inl (cI, 8000, .inl f3))] H := hP
                have hD : va_D A0 [(cd, .inr (8, [.ref rq, .ref wt, .ref wq, .ref mi, .ref mo, .ref ft, .ref ot, .ref gt, .ref rd, .ref tq, .ref wr, .ref s1, .ref s2, .int t0, .int t1, .int t2, .int t3])), (rq, .inl (cR, 4, .inr (.inr (.inr (.inr (rqF r0 r1 r2 r3)))))), (r0, .inr (4, [.ref o0, .int (nI n0), .int 0])), (o0, .inl (cI, 4000, .inl f0)), (r1, .inr (4, [.ref o1, .int (nI n1), .int 0])), (o1, .inl (cI, 4000, .inl f1)), (r2, .inr (4, [.ref o2, .int (nI n2), .int 0])), (o2, .inl (cI, 8000, .inl f2)), (r3, .inr (4, [.ref o3, .int (nI n3), .int 0])), (o3, .inl (cI, 8000, .inl f3))] := hD
                subst hrm
                refine lv_icmp_le (tgt := 65) hx hb dX8_copy_59 (by decide) (fun c_15 => ?_) (fun c_15 => ?_)
                · have hf9 : ¬ 8000 < (RL 3).length + m1 := by have := (nI_leI (by omega) (by omega)).mp c_15; omega
                  rw [if_neg (show ¬ rmN 3 < (RL 3).length + m1 from hf9)] at hfp
                  refine lv_iconst (v := 0) hx hb dX8_copy_65 (by decide) ?_
                  refine ri (y := nI 0) (nI_0.symm) ?_
                  refine lv_istore (lv' := [(5, .int (nI 0)), (0, .ref cd), (1, .int (nI 0)), (2, .int (nI a1)), (3, .int (nI m1)), (4, .int (nI 3))]) hx hb dX8_copy_66 hl (by decide) rfl (fun ls hl => ?_)
                  have loop : ∀ (k9 : Nat) (i : Nat) (n7 : Nat) (f7 : Nat → Int32) (H : Heap) (locs : List Loc) (ls : Array Slot), m1 - i < k9 → (i ≤ m1) → (rowIs 8000 (RL 3 ++ rgL (gD (RL 0)) a1 i) n7 f7 0) → va_P D vwCl [(cd, .inr (8, [.ref rq, .ref wt, .ref wq, .ref mi, .ref mo, .ref ft, .ref ot, .ref gt, .ref rd, .ref tq, .ref wr, .ref s1, .ref s2, .int t0, .int t1, .int t2, .int t3])), (rq, .inl (cR, 4, .inr (.inr (.inr (.inr (rqF r0 r1 r2 r3)))))), (r0, .inr (4, [.ref o0, .int (nI n0), .int 0])), (o0, .inl (cI, 4000, .inl f0)), (r1, .inr (4, [.ref o1, .int (nI n1), .int 0])), (o1, .inl (cI, 4000, .inl f1)), (r2, .inr (4, [.ref o2, .int (nI n2), .int 0])), (o2, .inl (cI, 8000, .inl f2)), (r3, .inr (4, [.ref o3, .int (nI n7), .int 0])), (o3, .inl (cI, 8000, .inl f7))] H → va_D A0 [(cd, .inr (8, [.ref rq, .ref wt, .ref wq, .ref mi, .ref mo, .ref ft, .ref ot, .ref gt, .ref rd, .ref tq, .ref wr, .ref s1, .ref s2, .int t0, .int t1, .int t2, .int t3])), (rq, .inl (cR, 4, .inr (.inr (.inr (.inr (rqF r0 r1 r2 r3)))))), (r0, .inr (4, [.ref o0, .int (nI n0), .int 0])), (o0, .inl (cI, 4000, .inl f0)), (r1, .inr (4, [.ref o1, .int (nI n1), .int 0])), (o1, .inl (cI, 4000, .inl f1)), (r2, .inr (4, [.ref o2, .int (nI n2), .int 0])), (o2, .inl (cI, 8000, .inl f2)), (r3, .inr (4, [.ref o3, .int (nI n7), .int 0])), (o3, .inl (cI, 8000, .inl f7))] → va_S A0 s0.heap H locs → lv_has ls 6 [(0, .ref cd), (1, .int (nI 0)), (2, .int (nI a1)), (3, .int (nI m1)), (4, .int (nI 3)), (5, .int (nI i))] → W p0 l e0 ({ frames := 1, cells := 0, slots := 0, locals := 21 }) s0 m0 ([.ref cd, .int x, .int a, .int n, .int y] : List Value).toArray below meth c0 H locs 0 0 Q0 (F0 m0 68 ls []) := by
                    intro k9
                    induction k9 with
                    | zero => intro i n7 f7 H locs ls hk9; exact absurd hk9 (Nat.not_lt_zero _)
                    | succ k9 ih =>
                      intro i n7 f7 H locs ls hk9 him hr7 hP hD hS hl
                      have hlen : (RL 3 ++ rgL (gD (RL 0)) a1 i).length = (RL 3).length + i := by rw [List.length_append, rgL_len]
                      have hw9 := (row_len hr7 (by omega)).1
                      refine lv_iload hx hb dX8_copy_68 (lv_at hl 5 rfl) ?_
                      refine lv_iload_n hx hb dX8_copy_70 rfl (lv_at hl 3 rfl) ?_
                      refine lv_icmp_ge (tgt := 103) hx hb dX8_copy_71 (by decide) (fun c_16 => ?_) (fun c_16 => ?_)
                      · have hi9 : i = m1 := by have := (nI_leI (by omega) (by omega)).mp c_16; omega
                        subst hi9
                        rw [hlen] at hw9
                        subst hw9
                        refine lv_aload_n hx hb dX8_copy_103 rfl (lv_at hl 0 rfl) ?_
                        refine va_get (D := D) (ci := 8) (v := .ref rq) (C := RX8) (T := TX8) (N := 17) hx hb hts in_X8 hown hK hP 0 rfl rfl 0 (by decide) (hts _ kX8_11) (fun _ h9 => h9) rfl dX8_copy_104 ?_
                        refine lv_iload hx hb dX8_copy_107 (lv_at hl 4 rfl) ?_
                        refine ax_rld hx hb hK hP 1 3 rfl rfl 3 (rfl) (by decide) (by decide) rfl dX8_copy_109 ?_
                        refine va_get (D := D) (ci := 4) (v := .int (nI ((RL 3).length + i))) (C := RX4) (T := TX4) (N := 3) hx hb hts in_X4 hown hK hP 8 rfl rfl 1 (by decide) (hts _ kX8_92) (fun _ h9 => h9) rfl dX8_copy_110 ?_
                        exact hret 113 ls _ _ _ (n0, f0, n1, f1, n2, f2, (RL 3).length + i, f7, va_up RL 3 (RL 3 ++ rgL (gD (RL 0)) a1 i)) dX8_copy_113 hP hD hS (⟨hfp, rwOk_3 hrw hr7 (by omega)⟩)
                      · have hi9 : i < m1 := Nat.not_le.mp (fun q => c_16 (nI_le q (by omega)))
                        refine lv_aload_n hx hb dX8_copy_74 rfl (lv_at hl 0 rfl) ?_
                        refine va_get (D := D) (ci := 8) (v := .ref rq) (C := RX8) (T := TX8) (N := 17) hx hb hts in_X8 hown hK hP 0 rfl rfl 0 (by decide) (hts _ kX8_11) (fun _ h9 => h9) rfl dX8_copy_75 ?_
                        refine lv_iload hx hb dX8_copy_78 (lv_at hl 4 rfl) ?_
                        refine ax_rld hx hb hK hP 1 3 rfl rfl 3 (rfl) (by decide) (by decide) rfl dX8_copy_80 ?_
                        refine lv_aload_n hx hb dX8_copy_81 rfl (lv_at hl 0 rfl) ?_
                        refine va_get (D := D) (ci := 8) (v := .ref rq) (C := RX8) (T := TX8) (N := 17) hx hb hts in_X8 hown hK hP 0 rfl rfl 0 (by decide) (hts _ kX8_11) (fun _ h9 => h9) rfl dX8_copy_82 ?_
                        refine lv_iload_n hx hb dX8_copy_85 rfl (lv_at hl 1 rfl) ?_
                        refine ax_rld hx hb hK hP 1 3 rfl rfl 0 (rfl) (by decide) (by decide) rfl dX8_copy_86 ?_
                        refine lv_iload_n hx hb dX8_copy_87 rfl (lv_at hl 2 rfl) ?_
                        refine lv_iload hx hb dX8_copy_88 (lv_at hl 5 rfl) ?_
                        refine lv_iadd hx hb dX8_copy_90 ?_
                        refine ri (y := nI (a1 + i)) (nI_add a1 i) ?_
                        refine jn_i (wr := [(cd, .inr (8, [.ref rq, .ref wt, .ref wq, .ref mi, .ref mo, .ref ft, .ref ot, .ref gt, .ref rd, .ref tq, .ref wr, .ref s1, .ref s2, .int t0, .int t1, .int t2, .int t3])), (rq, .inl (cR, 4, .inr (.inr (.inr (.inr (rqF r0 r1 r2 r3)))))), (r1, .inr (4, [.ref o1, .int (nI n1), .int 0])), (o1, .inl (cI, 4000, .inl f1)), (r2, .inr (4, [.ref o2, .int (nI n2), .int 0])), (o2, .inl (cI, 8000, .inl f2)), (r3, .inr (4, [.ref o3, .int (nI n7), .int 0])), (o3, .inl (cI, 8000, .inl f7))]) hA hP hD hS [2, 3] [0, 1, 4, 5, 6, 7, 8, 9] rfl rfl (by decide) (by decide) (rn_V (As := [.int (nI (a1 + i))]) (rest := [.ref r3]) ⟨hx, hb, hml, hown, hts⟩ (cvV 1 hts zc_yX4_at zi_X4 zm_yX4_at zv_yX4_at kX8_102 (by decide +kernel) rfl rfl ⟨Nat.le_of_ble_eq_true rfl, Nat.le_of_ble_eq_true rfl⟩) (c_Row_at l D cI cB cJ cR r0 o0 4000 n0 f0 0 (nI (a1 + i)) (by decide) (by omega) H.size) hK hNw hMk hA hP hD hS [2, 3] rfl rfl (by decide) 0 rfl rfl rfl rfl hl.1 rfl (Nat.le_of_ble_eq_true rfl) dX8_copy_91 ⟨Nat.le_of_ble_eq_true rfl, Nat.le_of_ble_eq_true rfl⟩) (fun ra u9 H locs hra hP hD hS => ?_)
                        try dsimp only at hra
                        have hP : va_P D vwCl [(cd, .inr (8, [.ref rq, .ref wt, .ref wq, .ref mi, .ref mo, .ref ft, .ref ot, .ref gt, .ref rd, .ref tq, .ref wr, .ref s1, .ref s2, .int t0, .int t1, .int t2, .int t3])), (rq, .inl (cR, 4, .inr (.inr (.inr (.inr (rqF r0 r1 r2 r3)))))), (r1, .inr (4, [.ref o1, .int (nI n1), .int 0])), (o1, .inl (cI, 4000, .inl f1)), (r2, .inr (4, [.ref o2, .int (nI n2), .int 0])), (o2, .inl (cI, 8000, .inl f2)), (r3, .inr (4, [.ref o3, .int (nI n7), .int 0])), (o3, .inl (cI, 8000, .inl f7)), (r0, .inr (4, [.ref o0, .int (nI n0), .int 0])), (o0, .inl (cI, 4000, .inl f0))] H := hP
                        have hD : va_D A0 [(cd, .inr (8, [.ref rq, .ref wt, .ref wq, .ref mi, .ref mo, .ref ft, .ref ot, .ref gt, .ref rd, .ref tq, .ref wr, .ref s1, .ref s2, .int t0, .int t1, .int t2, .int t3])), (rq, .inl (cR, 4, .inr (.inr (.inr (.inr (rqF r0 r1 r2 r3)))))), (r1, .inr (4, [.ref o1, .int (nI n1), .int 0])), (o1, .inl (cI, 4000, .inl f1)), (r2, .inr (4, [.ref o2, .int (nI n2), .int 0])), (o2, .inl (cI, 8000, .inl f2)), (r3, .inr (4, [.ref o3, .int (nI n7), .int 0])), (o3, .inl (cI, 8000, .inl f7)), (r0, .inr (4, [.ref o0, .int (nI n0), .int 0])), (o0, .inl (cI, 4000, .inl f0))] := hD
                        have hv9 : ra = gD (RL 0) (a1 + i) := by rw [hra, if_pos (inB_t (by omega) (by omega)), nI_clamp (by omega)]; exact hr0.2.2 _ (by omega)
                        subst hv9
                        refine jn_v (wr := [(cd, .inr (8, [.ref rq, .ref wt, .ref wq, .ref mi, .ref mo, .ref ft, .ref ot, .ref gt, .ref rd, .ref tq, .ref wr, .ref s1, .ref s2, .int t0, .int t1, .int t2, .int t3])), (rq, .inl (cR, 4, .inr (.inr (.inr (.inr (rqF r0 r1 r2 r3)))))), (r1, .inr (4, [.ref o1, .int (nI n1), .int 0])), (o1, .inl (cI, 4000, .inl f1)), (r2, .inr (4, [.ref o2, .int (nI n2), .int 0])), (o2, .inl (cI, 8000, .inl f2)), (r0, .inr (4, [.ref o0, .int (nI n0), .int 0])), (o0, .inl (cI, 4000, .inl f0))]) hA hP hD hS [6, 7] [0, 1, 2, 3, 4, 5, 8, 9] rfl rfl (by decide) (by decide) (rn_V (As := [.int (gD (RL 0) (a1 + i))]) (rest := []) ⟨hx, hb, hml, hown, hts⟩ (cvV 1 hts zc_yX4_put zi_X4 zm_yX4_put zv_yX4_put kX8_89 (by decide +kernel) rfl rfl ⟨Nat.le_of_ble_eq_true rfl, Nat.le_of_ble_eq_true rfl⟩) (c_Row_put l D cI cB cJ cR r3 o3 8000 n7 f7 0 (RL 3 ++ rgL (gD (RL 0)) a1 i) (gD (RL 0) (a1 + i)) (by decide) (hr7) H.size) hK hNw hMk hA hP hD hS [6, 7] rfl rfl (by decide) 0 rfl rfl rfl rfl hl.1 rfl (Nat.le_of_ble_eq_true rfl) dX8_copy_94 ⟨Nat.le_of_ble_eq_true rfl, Nat.le_of_ble_eq_true rfl⟩) (fun u9 H locs hpu hP hD hS => ?_)
                        obtain ⟨n8, f8, v8⟩ := u9
                        try dsimp only at hpu
                        have hP : va_P D vwCl [(cd, .inr (8, [.ref rq, .ref wt, .ref wq, .ref mi, .ref mo, .ref ft, .ref ot, .ref gt, .ref rd, .ref tq, .ref wr, .ref s1, .ref s2, .int t0, .int t1, .int t2, .int t3])), (rq, .inl (cR, 4, .inr (.inr (.inr (.inr (rqF r0 r1 r2 r3)))))), (r1, .inr (4, [.ref o1, .int (nI n1), .int 0])), (o1, .inl (cI, 4000, .inl f1)), (r2, .inr (4, [.ref o2, .int (nI n2), .int 0])), (o2, .inl (cI, 8000, .inl f2)), (r0, .inr (4, [.ref o0, .int (nI n0), .int 0])), (o0, .inl (cI, 4000, .inl f0)), (r3, .inr (4, [.ref o3, .int (nI n8), .int v8])), (o3, .inl (cI, 8000, .inl f8))] H := hP
                        have hD : va_D A0 [(cd, .inr (8, [.ref rq, .ref wt, .ref wq, .ref mi, .ref mo, .ref ft, .ref ot, .ref gt, .ref rd, .ref tq, .ref wr, .ref s1, .ref s2, .int t0, .int t1, .int t2, .int t3])), (rq, .inl (cR, 4, .inr (.inr (.inr (.inr (rqF r0 r1 r2 r3)))))), (r1, .inr (4, [.ref o1, .int (nI n1), .int 0])), (o1, .inl (cI, 4000, .inl f1)), (r2, .inr (4, [.ref o2, .int (nI n2), .int 0])), (o2, .inl (cI, 8000, .inl f2)), (r0, .inr (4, [.ref o0, .int (nI n0), .int 0])), (o0, .inl (cI, 4000, .inl f0)), (r3, .inr (4, [.ref o3, .int (nI n8), .int v8])), (o3, .inl (cI, 8000, .inl f8))] := hD
                        have hv8 := (row_len hpu (by rw [List.length_append, hlen]; show _ + 1 ≤ _; omega)).2
                        subst hv8
                        rw [List.append_assoc] at hpu
                        refine lv_iinc (v := nI (i + 1)) (lv' := [(5, .int (nI (i + 1))), (0, .ref cd), (1, .int (nI 0)), (2, .int (nI a1)), (3, .int (nI m1)), (4, .int (nI 3))]) hx hb dX8_copy_97 hl (k := 5) rfl (nI_add i 1) (by decide) rfl (fun ls hl => ?_)
                        refine lv_goto (tgt := 68) hx hb dX8_copy_100 (by decide) ?_
                        exact ih (i + 1) n8 f8 _ _ ls (by omega) (by omega) (hpu) (hP.sub [0, 1, 6, 7, 2, 3, 4, 5, 8, 9] rfl) (hD.sub [0, 1, 6, 7, 2, 3, 4, 5, 8, 9] (by decide) rfl) hS (lv_sub hl [1, 2, 3, 4, 5, 0] rfl)
                  exact loop _ 0 n3 f3 _ _ ls (Nat.lt_succ_self _) (Nat.zero_le _) (by rw [rgL, List.append_nil]; exact hr3) hP hD hS (lv_sub hl [1, 2, 3, 4, 5, 0] rfl)
                · have hf9 : 8000 < (RL 3).length + m1 := by have := Nat.not_le.mp (fun q => c_15 (nI_le q (by omega))); omega
                  rw [if_pos (show rmN 3 < (RL 3).length + m1 from hf9)] at hfp
                  refine lv_bipush (v := -4) hx hb dX8_copy_62 (by decide) ?_
                  exact hret 64 ls _ _ _ (n0, f0, n1, f1, n2, f2, n3, f3, RL) dX8_copy_64 hP hD hS (⟨hfp, hrw⟩)
            · have ho9 : (RL 0).length < a1 + m1 := by have := Nat.not_le.mp (fun z => c_5 ((lg_cmp_le _ _).mpr ((pk_lLE (by omega) (by omega)).mpr z))); omega
              refine lv_bipush (v := -2) hx hb dX8_copy_45 (by decide) ?_
              exact hret 47 ls _ _ _ (n0, f0, n1, f1, n2, f2, n3, f3, RL) dX8_copy_47 hP hD hS (⟨by rw [cpyP, if_pos (Or.inr (Or.inr (Or.inr (Or.inr (by rw [hx0, hae, hme, nI_clamp (by decide), nI_clamp ha1, nI_clamp hm1]; exact ho9)))))], hrw⟩)
          · have hnx9 := rw_n1 hrw
            obtain ⟨hr0, hr1, hr2, hr3, hl0, hl1, hl2, hl3⟩ := id hrw
            rw [hx1] at hl
            refine lv_iload_n hx hb dX8_copy_26 rfl (lv_at hl 2 rfl) ?_
            refine lv_i2l hx hb dX8_copy_27 (v := (nI a1).toInt64) rfl ?_
            refine rl (y := lN a1) (nI_l (by omega)) ?_
            refine lv_iload_n hx hb dX8_copy_28 rfl (lv_at hl 3 rfl) ?_
            refine lv_i2l hx hb dX8_copy_29 (v := (nI m1).toInt64) rfl ?_
            refine rl (y := lN m1) (nI_l (by omega)) ?_
            refine lv_ladd hx hb dX8_copy_30 ?_
            refine rl (y := lN (a1 + m1)) (lN_add _ _) ?_
            refine lv_aload_n hx hb dX8_copy_31 rfl (lv_at hl 0 rfl) ?_
            refine va_get (D := D) (ci := 8) (v := .ref rq) (C := RX8) (T := TX8) (N := 17) hx hb hts in_X8 hown hK hP 0 rfl rfl 0 (by decide) (hts _ kX8_11) (fun _ h9 => h9) rfl dX8_copy_32 ?_
            refine lv_iload_n hx hb dX8_copy_35 rfl (lv_at hl 1 rfl) ?_
            refine ax_rld hx hb hK hP 1 3 rfl rfl 1 (rfl) (by decide) (by decide) rfl dX8_copy_36 ?_
            refine va_get (D := D) (ci := 4) (v := .int (nI n1)) (C := RX4) (T := TX4) (N := 3) hx hb hts in_X4 hown hK hP 4 rfl rfl 1 (by decide) (hts _ kX8_92) (fun _ h9 => h9) rfl dX8_copy_37 ?_
            refine lv_i2l hx hb dX8_copy_40 (v := (nI n1).toInt64) rfl ?_
            refine rl (y := lN n1) (nI_l (by omega)) ?_
            refine W.lcmp hx hb dX8_copy_41 ?_
            refine lv_if_le (tgt := 48) hx hb dX8_copy_42 (by decide) (fun c_18 => ?_) (fun c_18 => ?_)
            · have ho9 : ¬ (RL 1).length < a1 + m1 := by have := (pk_lLE (by omega) (by omega)).mp ((lg_cmp_le _ _).mp c_18); omega
              rcases isR_of hyr with hy0 | hy1 | hy2 | hy3
              · have hny9 := rw_n0 hrw
                rw [hy0] at hl
                have hfp := cpyP_in (k := 1) (j := 0) (RL := RL) (by decide) (by decide) ha1 hm1
                have hfp : cpyP x a n y RL = _ := (by rw [hx1, hy0, hae, hme] : cpyP x a n y RL = cpyP (nI 1) (nI a1) (nI m1) (nI 0) RL).trans hfp
                rw [if_neg ho9] at hfp
                refine lv_iload_n hx hb dX8_copy_48 rfl (lv_at hl 3 rfl) ?_
                refine lv_aload_n hx hb dX8_copy_49 rfl (lv_at hl 0 rfl) ?_
                refine va_get (D := D) (ci := 8) (v := .ref rq) (C := RX8) (T := TX8) (N := 17) hx hb hts in_X8 hown hK hP 0 rfl rfl 0 (by decide) (hts _ kX8_11) (fun _ h9 => h9) rfl dX8_copy_50 ?_
                refine lv_iload hx hb dX8_copy_53 (lv_at hl 4 rfl) ?_
                refine ax_rld hx hb hK hP 1 3 rfl rfl 0 (rfl) (by decide) (by decide) rfl dX8_copy_55 ?_
                refine jn_i (wr := [(cd, .inr (8, [.ref rq, .ref wt, .ref wq, .ref mi, .ref mo, .ref ft, .ref ot, .ref gt, .ref rd, .ref tq, .ref wr, .ref s1, .ref s2, .int t0, .int t1, .int t2, .int t3])), (rq, .inl (cR, 4, .inr (.inr (.inr (.inr (rqF r0 r1 r2 r3)))))), (r1, .inr (4, [.ref o1, .int (nI n1), .int 0])), (o1, .inl (cI, 4000, .inl f1)), (r2, .inr (4, [.ref o2, .int (nI n2), .int 0])), (o2, .inl (cI, 8000, .inl f2)), (r3, .inr (4, [.ref o3, .int (nI n3), .int 0])), (o3, .inl (cI, 8000, .inl f3))]) hA hP hD hS [2, 3] [0, 1, 4, 5, 6, 7, 8, 9] rfl rfl (by decide) (by decide) (rn_V (As := []) (rest := [.int (nI m1)]) ⟨hx, hb, hml, hown, hts⟩ (cvV 0 hts zc_yX4_room zi_X4 zm_yX4_room zv_yX4_room kX8_85 (by decide +kernel) rfl rfl ⟨Nat.le_of_ble_eq_true rfl, Nat.le_of_ble_eq_true rfl⟩) (c_Row_room l D cI cB cJ cR r0 o0 4000 n0 f0 0 (by decide) (hny9.2) H.size) hK hNw hMk hA hP hD hS [2, 3] rfl rfl (by decide) 0 rfl rfl rfl rfl hl.1 rfl (Nat.le_of_ble_eq_true rfl) dX8_copy_56 ⟨Nat.le_of_ble_eq_true rfl, Nat.le_of_ble_eq_true rfl⟩) (fun rm u9 H locs hrm hP hD hS => ?_)
                try dsimp only at hrm
                have hP : va_P D vwCl [(cd, .inr (8, [.ref rq, .ref wt, .ref wq, .ref mi, .ref mo, .ref ft, .ref ot, .ref gt, .ref rd, .ref tq, .ref wr, .ref s1, .ref s2, .int t0, .int t1, .int t2, .int t3])), (rq, .inl (cR, 4, .inr (.inr (.inr (.inr (rqF r0 r1 r2 r3)))))), (r1, .inr (4, [.ref o1, .int (nI n1), .int 0])), (o1, .inl (cI, 4000, .inl f1)), (r2, .inr (4, [.ref o2, .int (nI n2), .int 0])), (o2, .inl (cI, 8000, .inl f2)), (r3, .inr (4, [.ref o3, .int (nI n3), .int 0])), (o3, .inl (cI, 8000, .inl f3)), (r0, .inr (4, [.ref o0, .int (nI n0), .int 0])), (o0, .inl (cI, 4000, .inl f0))] H := hP
                have hD : va_D A0 [(cd, .inr (8, [.ref rq, .ref wt, .ref wq, .ref mi, .ref mo, .ref ft, .ref ot, .ref gt, .ref rd, .ref tq, .ref wr, .ref s1, .ref s2, .int t0, .int t1, .int t2, .int t3])), (rq, .inl (cR, 4, .inr (.inr (.inr (.inr (rqF r0 r1 r2 r3)))))), (r1, .inr (4, [.ref o1, .int (nI n1), .int 0])), (o1, .inl (cI, 4000, .inl f1)), (r2, .inr (4, [.ref o2, .int (nI n2), .int 0])), (o2, .inl (cI, 8000, .inl f2)), (r3, .inr (4, [.ref o3, .int (nI n3), .int 0])), (o3, .inl (cI, 8000, .inl f3)), (r0, .inr (4, [.ref o0, .int (nI n0), .int 0])), (o0, .inl (cI, 4000, .inl f0))] := hD
                subst hrm
                refine lv_icmp_le (tgt := 65) hx hb dX8_copy_59 (by decide) (fun c_19 => ?_) (fun c_19 => ?_)
                · have hf9 : ¬ 4000 < (RL 0).length + m1 := by have := (nI_leI (by omega) (by omega)).mp c_19; omega
                  rw [if_neg (show ¬ rmN 0 < (RL 0).length + m1 from hf9)] at hfp
                  refine lv_iconst (v := 0) hx hb dX8_copy_65 (by decide) ?_
                  refine ri (y := nI 0) (nI_0.symm) ?_
                  refine lv_istore (lv' := [(5, .int (nI 0)), (0, .ref cd), (1, .int (nI 1)), (2, .int (nI a1)), (3, .int (nI m1)), (4, .int (nI 0))]) hx hb dX8_copy_66 hl (by decide) rfl (fun ls hl => ?_)
                  have loop : ∀ (k9 : Nat) (i : Nat) (n7 : Nat) (f7 : Nat → Int32) (H : Heap) (locs : List Loc) (ls : Array Slot), m1 - i < k9 → (i ≤ m1) → (rowIs 4000 (RL 0 ++ rgL (gD (RL 1)) a1 i) n7 f7 0) → va_P D vwCl [(cd, .inr (8, [.ref rq, .ref wt, .ref wq, .ref mi, .ref mo, .ref ft, .ref ot, .ref gt, .ref rd, .ref tq, .ref wr, .ref s1, .ref s2, .int t0, .int t1, .int t2, .int t3])), (rq, .inl (cR, 4, .inr (.inr (.inr (.inr (rqF r0 r1 r2 r3)))))), (r0, .inr (4, [.ref o0, .int (nI n7), .int 0])), (o0, .inl (cI, 4000, .inl f7)), (r1, .inr (4, [.ref o1, .int (nI n1), .int 0])), (o1, .inl (cI, 4000, .inl f1)), (r2, .inr (4, [.ref o2, .int (nI n2), .int 0])), (o2, .inl (cI, 8000, .inl f2)), (r3, .inr (4, [.ref o3, .int (nI n3), .int 0])), (o3, .inl (cI, 8000, .inl f3))] H → va_D A0 [(cd, .inr (8, [.ref rq, .ref wt, .ref wq, .ref mi, .ref mo, .ref ft, .ref ot, .ref gt, .ref rd, .ref tq, .ref wr, .ref s1, .ref s2, .int t0, .int t1, .int t2, .int t3])), (rq, .inl (cR, 4, .inr (.inr (.inr (.inr (rqF r0 r1 r2 r3)))))), (r0, .inr (4, [.ref o0, .int (nI n7), .int 0])), (o0, .inl (cI, 4000, .inl f7)), (r1, .inr (4, [.ref o1, .int (nI n1), .int 0])), (o1, .inl (cI, 4000, .inl f1)), (r2, .inr (4, [.ref o2, .int (nI n2), .int 0])), (o2, .inl (cI, 8000, .inl f2)), (r3, .inr (4, [.ref o3, .int (nI n3), .int 0])), (o3, .inl (cI, 8000, .inl f3))] → va_S A0 s0.heap H locs → lv_has ls 6 [(0, .ref cd), (1, .int (nI 1)), (2, .int (nI a1)), (3, .int (nI m1)), (4, .int (nI 0)), (5, .int (nI i))] → W p0 l e0 ({ frames := 1, cells := 0, slots := 0, locals := 21 }) s0 m0 ([.ref cd, .int x, .int a, .int n, .int y] : List Value).toArray below meth c0 H locs 0 0 Q0 (F0 m0 68 ls []) := by
                    intro k9
                    induction k9 with
                    | zero => intro i n7 f7 H locs ls hk9; exact absurd hk9 (Nat.not_lt_zero _)
                    | succ k9 ih =>
                      intro i n7 f7 H locs ls hk9 him hr7 hP hD hS hl
                      have hlen : (RL 0 ++ rgL (gD (RL 1)) a1 i).length = (RL 0).length + i := by rw [List.length_append, rgL_len]
                      have hw9 := (row_len hr7 (by omega)).1
                      refine lv_iload hx hb dX8_copy_68 (lv_at hl 5 rfl) ?_
                      refine lv_iload_n hx hb dX8_copy_70 rfl (lv_at hl 3 rfl) ?_
                      refine lv_icmp_ge (tgt := 103) hx hb dX8_copy_71 (by decide) (fun c_20 => ?_) (fun c_20 => ?_)
                      · have hi9 : i = m1 := by have := (nI_leI (by omega) (by omega)).mp c_20; omega
                        subst hi9
                        rw [hlen] at hw9
                        subst hw9
                        refine lv_aload_n hx hb dX8_copy_103 rfl (lv_at hl 0 rfl) ?_
                        refine va_get (D := D) (ci := 8) (v := .ref rq) (C := RX8) (T := TX8) (N := 17) hx hb hts in_X8 hown hK hP 0 rfl rfl 0 (by decide) (hts _ kX8_11) (fun _ h9 => h9) rfl dX8_copy_104 ?_
                        refine lv_iload hx hb dX8_copy_107 (lv_at hl 4 rfl) ?_
                        refine ax_rld hx hb hK hP 1 3 rfl rfl 0 (rfl) (by decide) (by decide) rfl dX8_copy_109 ?_
                        refine va_get (D := D) (ci := 4) (v := .int (nI ((RL 0).length + i))) (C := RX4) (T := TX4) (N := 3) hx hb hts in_X4 hown hK hP 2 rfl rfl 1 (by decide) (hts _ kX8_92) (fun _ h9 => h9) rfl dX8_copy_110 ?_
                        exact hret 113 ls _ _ _ ((RL 0).length + i, f7, n1, f1, n2, f2, n3, f3, va_up RL 0 (RL 0 ++ rgL (gD (RL 1)) a1 i)) dX8_copy_113 hP hD hS (⟨hfp, rwOk_0 hrw hr7 (by omega)⟩)
                      · have hi9 : i < m1 := Nat.not_le.mp (fun q => c_20 (nI_le q (by omega)))
                        refine lv_aload_n hx hb dX8_copy_74 rfl (lv_at hl 0 rfl) ?_
                        refine va_get (D := D) (ci := 8) (v := .ref rq) (C := RX8) (T := TX8) (N := 17) hx hb hts in_X8 hown hK hP 0 rfl rfl 0 (by decide) (hts _ kX8_11) (fun _ h9 => h9) rfl dX8_copy_75 ?_
                        refine lv_iload hx hb dX8_copy_78 (lv_at hl 4 rfl) ?_
                        refine ax_rld hx hb hK hP 1 3 rfl rfl 0 (rfl) (by decide) (by decide) rfl dX8_copy_80 ?_
                        refine lv_aload_n hx hb dX8_copy_81 rfl (lv_at hl 0 rfl) ?_
                        refine va_get (D := D) (ci := 8) (v := .ref rq) (C := RX8) (T := TX8) (N := 17) hx hb hts in_X8 hown hK hP 0 rfl rfl 0 (by decide) (hts _ kX8_11) (fun _ h9 => h9) rfl dX8_copy_82 ?_
                        refine lv_iload_n hx hb dX8_copy_85 rfl (lv_at hl 1 rfl) ?_
                        refine ax_rld hx hb hK hP 1 3 rfl rfl 1 (rfl) (by decide) (by decide) rfl dX8_copy_86 ?_
                        refine lv_iload_n hx hb dX8_copy_87 rfl (lv_at hl 2 rfl) ?_
                        refine lv_iload hx hb dX8_copy_88 (lv_at hl 5 rfl) ?_
                        refine lv_iadd hx hb dX8_copy_90 ?_
                        refine ri (y := nI (a1 + i)) (nI_add a1 i) ?_
                        refine jn_i (wr := [(cd, .inr (8, [.ref rq, .ref wt, .ref wq, .ref mi, .ref mo, .ref ft, .ref ot, .ref gt, .ref rd, .ref tq, .ref wr, .ref s1, .ref s2, .int t0, .int t1, .int t2, .int t3])), (rq, .inl (cR, 4, .inr (.inr (.inr (.inr (rqF r0 r1 r2 r3)))))), (r0, .inr (4, [.ref o0, .int (nI n7), .int 0])), (o0, .inl (cI, 4000, .inl f7)), (r2, .inr (4, [.ref o2, .int (nI n2), .int 0])), (o2, .inl (cI, 8000, .inl f2)), (r3, .inr (4, [.ref o3, .int (nI n3), .int 0])), (o3, .inl (cI, 8000, .inl f3))]) hA hP hD hS [4, 5] [0, 1, 2, 3, 6, 7, 8, 9] rfl rfl (by decide) (by decide) (rn_V (As := [.int (nI (a1 + i))]) (rest := [.ref r0]) ⟨hx, hb, hml, hown, hts⟩ (cvV 1 hts zc_yX4_at zi_X4 zm_yX4_at zv_yX4_at kX8_102 (by decide +kernel) rfl rfl ⟨Nat.le_of_ble_eq_true rfl, Nat.le_of_ble_eq_true rfl⟩) (c_Row_at l D cI cB cJ cR r1 o1 4000 n1 f1 0 (nI (a1 + i)) (by decide) (by omega) H.size) hK hNw hMk hA hP hD hS [4, 5] rfl rfl (by decide) 0 rfl rfl rfl rfl hl.1 rfl (Nat.le_of_ble_eq_true rfl) dX8_copy_91 ⟨Nat.le_of_ble_eq_true rfl, Nat.le_of_ble_eq_true rfl⟩) (fun ra u9 H locs hra hP hD hS => ?_)
                        try dsimp only at hra
                        have hP : va_P D vwCl [(cd, .inr (8, [.ref rq, .ref wt, .ref wq, .ref mi, .ref mo, .ref ft, .ref ot, .ref gt, .ref rd, .ref tq, .ref wr, .ref s1, .ref s2, .int t0, .int t1, .int t2, .int t3])), (rq, .inl (cR, 4, .inr (.inr (.inr (.inr (rqF r0 r1 r2 r3)))))), (r0, .inr (4, [.ref o0, .int (nI n7), .int 0])), (o0, .inl (cI, 4000, .inl f7)), (r2, .inr (4, [.ref o2, .int (nI n2), .int 0])), (o2, .inl (cI, 8000, .inl f2)), (r3, .inr (4, [.ref o3, .int (nI n3), .int 0])), (o3, .inl (cI, 8000, .inl f3)), (r1, .inr (4, [.ref o1, .int (nI n1), .int 0])), (o1, .inl (cI, 4000, .inl f1))] H := hP
                        have hD : va_D A0 [(cd, .inr (8, [.ref rq, .ref wt, .ref wq, .ref mi, .ref mo, .ref ft, .ref ot, .ref gt, .ref rd, .ref tq, .ref wr, .ref s1, .ref s2, .int t0, .int t1, .int t2, .int t3])), (rq, .inl (cR, 4, .inr (.inr (.inr (.inr (rqF r0 r1 r2 r3)))))), (r0, .inr (4, [.ref o0, .int (nI n7), .int 0])), (o0, .inl (cI, 4000, .inl f7)), (r2, .inr (4, [.ref o2, .int (nI n2), .int 0])), (o2, .inl (cI, 8000, .inl f2)), (r3, .inr (4, [.ref o3, .int (nI n3), .int 0])), (o3, .inl (cI, 8000, .inl f3)), (r1, .inr (4, [.ref o1, .int (nI n1), .int 0])), (o1, .inl (cI, 4000, .inl f1))] := hD
                        have hv9 : ra = gD (RL 1) (a1 + i) := by rw [hra, if_pos (inB_t (by omega) (by omega)), nI_clamp (by omega)]; exact hr1.2.2 _ (by omega)
                        subst hv9
                        refine jn_v (wr := [(cd, .inr (8, [.ref rq, .ref wt, .ref wq, .ref mi, .ref mo, .ref ft, .ref ot, .ref gt, .ref rd, .ref tq, .ref wr, .ref s1, .ref s2, .int t0, .int t1, .int t2, .int t3])), (rq, .inl (cR, 4, .inr (.inr (.inr (.inr (rqF r0 r1 r2 r3)))))), (r2, .inr (4, [.ref o2, .int (nI n2), .int 0])), (o2, .inl (cI, 8000, .inl f2)), (r3, .inr (4, [.ref o3, .int (nI n3), .int 0])), (o3, .inl (cI, 8000, .inl f3)), (r1, .inr (4, [.ref o1, .int (nI n1), .int 0])), (o1, .inl (cI, 4000, .inl f1))]) hA hP hD hS [2, 3] [0, 1, 4, 5, 6, 7, 8, 9] rfl rfl (by decide) (by decide) (rn_V (As := [.int (gD (RL 1) (a1 + i))]) (rest := []) ⟨hx, hb, hml, hown, hts⟩ (cvV 1 hts zc_yX4_put zi_X4 zm_yX4_put zv_yX4_put kX8_89 (by decide +kernel) rfl rfl ⟨Nat.le_of_ble_eq_true rfl, Nat.le_of_ble_eq_true rfl⟩) (c_Row_put l D cI cB cJ cR r0 o0 4000 n7 f7 0 (RL 0 ++ rgL (gD (RL 1)) a1 i) (gD (RL 1) (a1 + i)) (by decide) (hr7) H.size) hK hNw hMk hA hP hD hS [2, 3] rfl rfl (by decide) 0 rfl rfl rfl rfl hl.1 rfl (Nat.le_of_ble_eq_true rfl) dX8_copy_94 ⟨Nat.le_of_ble_eq_true rfl, Nat.le_of_ble_eq_true rfl⟩) (fun u9 H locs hpu hP hD hS => ?_)
                        obtain ⟨n8, f8, v8⟩ := u9
                        try dsimp only at hpu
                        have hP : va_P D vwCl [(cd, .inr (8, [.ref rq, .ref wt, .ref wq, .ref mi, .ref mo, .ref ft, .ref ot, .ref gt, .ref rd, .ref tq, .ref wr, .ref s1, .ref s2, .int t0, .int t1, .int t2, .int t3])), (rq, .inl (cR, 4, .inr (.inr (.inr (.inr (rqF r0 r1 r2 r3)))))), (r2, .inr (4, [.ref o2, .int (nI n2), .int 0])), (o2, .inl (cI, 8000, .inl f2)), (r3, .inr (4, [.ref o3, .int (nI n3), .int 0])), (o3, .inl (cI, 8000, .inl f3)), (r1, .inr (4, [.ref o1, .int (nI n1), .int 0])), (o1, .inl (cI, 4000, .inl f1)), (r0, .inr (4, [.ref o0, .int (nI n8), .int v8])), (o0, .inl (cI, 4000, .inl f8))] H := hP
                        have hD : va_D A0 [(cd, .inr (8, [.ref rq, .ref wt, .ref wq, .ref mi, .ref mo, .ref ft, .ref ot, .ref gt, .ref rd, .ref tq, .ref wr, .ref s1, .ref s2, .int t0, .int t1, .int t2, .int t3])), (rq, .inl (cR, 4, .inr (.inr (.inr (.inr (rqF r0 r1 r2 r3)))))), (r2, .inr (4, [.ref o2, .int (nI n2), .int 0])), (o2, .inl (cI, 8000, .inl f2)), (r3, .inr (4, [.ref o3, .int (nI n3), .int 0])), (o3, .inl (cI, 8000, .inl f3)), (r1, .inr (4, [.ref o1, .int (nI n1), .int 0])), (o1, .inl (cI, 4000, .inl f1)), (r0, .inr (4, [.ref o0, .int (nI n8), .int v8])), (o0, .inl (cI, 4000, .inl f8))] := hD
                        have hv8 := (row_len hpu (by rw [List.length_append, hlen]; show _ + 1 ≤ _; omega)).2
                        subst hv8
                        rw [List.append_assoc] at hpu
                        refine lv_iinc (v := nI (i + 1)) (lv' := [(5, .int (nI (i + 1))), (0, .ref cd), (1, .int (nI 1)), (2, .int (nI a1)), (3, .int (nI m1)), (4, .int (nI 0))]) hx hb dX8_copy_97 hl (k := 5) rfl (nI_add i 1) (by decide) rfl (fun ls hl => ?_)
                        refine lv_goto (tgt := 68) hx hb dX8_copy_100 (by decide) ?_
                        exact ih (i + 1) n8 f8 _ _ ls (by omega) (by omega) (hpu) (hP.sub [0, 1, 8, 9, 6, 7, 2, 3, 4, 5] rfl) (hD.sub [0, 1, 8, 9, 6, 7, 2, 3, 4, 5] (by decide) rfl) hS (lv_sub hl [1, 2, 3, 4, 5, 0] rfl)
                  exact loop _ 0 n0 f0 _ _ ls (Nat.lt_succ_self _) (Nat.zero_le _) (by rw [rgL, List.append_nil]; exact hr0) (hP.sub [0, 1, 8, 9, 2, 3, 4, 5, 6, 7] rfl) (hD.sub [0, 1, 8, 9, 2, 3, 4, 5, 6, 7] (by decide) rfl) hS (lv_sub hl [1, 2, 3, 4, 5, 0] rfl)
                · have hf9 : 4000 < (RL 0).length + m1 := by have := Nat.not_le.mp (fun q => c_19 (nI_le q (by omega))); omega
                  rw [if_pos (show rmN 0 < (RL 0).length + m1 from hf9)] at hfp
                  refine lv_bipush (v := -4) hx hb dX8_copy_62 (by decide) ?_
                  have hP := hP.sub (ws' := [(cd, .inr (8, [.ref rq, .ref wt, .ref wq, .ref mi, .ref mo, .ref ft, .ref ot, .ref gt, .ref rd, .ref tq, .ref wr, .ref s1, .ref s2, .int t0, .int t1, .int t2, .int t3])), (rq, .inl (cR, 4, .inr (.inr (.inr (.inr (rqF r0 r1 r2 r3)))))), (r0, .inr (4, [.ref o0, .int (nI n0), .int 0])), (o0, .inl (cI, 4000, .inl f0)), (r1, .inr (4, [.ref o1, .int (nI n1), .int 0])), (o1, .inl (cI, 4000, .inl f1)), (r2, .inr (4, [.ref o2, .int (nI n2), .int 0])), (o2, .inl (cI, 8000, .inl f2)), (r3, .inr (4, [.ref o3, .int (nI n3), .int 0])), (o3, .inl (cI, 8000, .inl f3))]) [0, 1, 8, 9, 2, 3, 4, 5, 6, 7] rfl
                  have hD := hD.sub (ws' := [(cd, .inr (8, [.ref rq, .ref wt, .ref wq, .ref mi, .ref mo, .ref ft, .ref ot, .ref gt, .ref rd, .ref tq, .ref wr, .ref s1, .ref s2, .int t0, .int t1, .int t2, .int t3])), (rq, .inl (cR, 4, .inr (.inr (.inr (.inr (rqF r0 r1 r2 r3)))))), (r0, .inr (4, [.ref o0, .int (nI n0), .int 0])), (o0, .inl (cI, 4000, .inl f0)), (r1, .inr (4, [.ref o1, .int (nI n1), .int 0])), (o1, .inl (cI, 4000, .inl f1)), (r2, .inr (4, [.ref o2, .int (nI n2), .int 0])), (o2, .inl (cI, 8000, .inl f2)), (r3, .inr (4, [.ref o3, .int (nI n3), .int 0])), (o3, .inl (cI, 8000, .inl f3))]) [0, 1, 8, 9, 2, 3, 4, 5, 6, 7] (by decide) rfl
                  exact hret 64 ls _ _ _ (n0, f0, n1, f1, n2, f2, n3, f3, RL) dX8_copy_64 hP hD hS (⟨hfp, hrw⟩)
              · have hny9 := rw_n1 hrw
                rw [hy1] at hl
                have hfp := cpyP_in (k := 1) (j := 1) (RL := RL) (by decide) (by decide) ha1 hm1
                have hfp : cpyP x a n y RL = _ := (by rw [hx1, hy1, hae, hme] : cpyP x a n y RL = cpyP (nI 1) (nI a1) (nI m1) (nI 1) RL).trans hfp
                rw [if_neg ho9] at hfp
                refine lv_iload_n hx hb dX8_copy_48 rfl (lv_at hl 3 rfl) ?_
                refine lv_aload_n hx hb dX8_copy_49 rfl (lv_at hl 0 rfl) ?_
                refine va_get (D := D) (ci := 8) (v := .ref rq) (C := RX8) (T := TX8) (N := 17) hx hb hts in_X8 hown hK hP 0 rfl rfl 0 (by decide) (hts _ kX8_11) (fun _ h9 => h9) rfl dX8_copy_50 ?_
                refine lv_iload hx hb dX8_copy_53 (lv_at hl 4 rfl) ?_
                refine ax_rld hx hb hK hP 1 3 rfl rfl 1 (rfl) (by decide) (by decide) rfl dX8_copy_55 ?_
                refine jn_i (wr := [(cd, .inr (8, [.ref rq, .ref wt, .ref wq, .ref mi, .ref mo, .ref ft, .ref ot, .ref gt, .ref rd, .ref tq, .ref wr, .ref s1, .ref s2, .int t0, .int t1, .int t2, .int t3])), (rq, .inl (cR, 4, .inr (.inr (.inr (.inr (rqF r0 r1 r2 r3)))))), (r0, .inr (4, [.ref o0, .int (nI n0), .int 0])), (o0, .inl (cI, 4000, .inl f0)), (r2, .inr (4, [.ref o2, .int (nI n2), .int 0])), (o2, .inl (cI, 8000, .inl f2)), (r3, .inr (4, [.ref o3, .int (nI n3), .int 0])), (o3, .inl (cI, 8000, .inl f3))]) hA hP hD hS [4, 5] [0, 1, 2, 3, 6, 7, 8, 9] rfl rfl (by decide) (by decide) (rn_V (As := []) (rest := [.int (nI m1)]) ⟨hx, hb, hml, hown, hts⟩ (cvV 0 hts zc_yX4_room zi_X4 zm_yX4_room zv_yX4_room kX8_85 (by decide +kernel) rfl rfl ⟨Nat.le_of_ble_eq_true rfl, Nat.le_of_ble_eq_true rfl⟩) (c_Row_room l D cI cB cJ cR r1 o1 4000 n1 f1 0 (by decide) (hny9.2) H.size) hK hNw hMk hA hP hD hS [4, 5] rfl rfl (by decide) 0 rfl rfl rfl rfl hl.1 rfl (Nat.le_of_ble_eq_true rfl) dX8_copy_56 ⟨Nat.le_of_ble_eq_true rfl, Nat.le_of_ble_eq_true rfl⟩) (fun rm u9 H locs hrm hP hD hS => ?_)
                try dsimp only at hrm
                have hP : va_P D vwCl [(cd, .inr (8, [.ref rq, .ref wt, .ref wq, .ref mi, .ref mo, .ref ft, .ref ot, .ref gt, .ref rd, .ref tq, .ref wr, .ref s1, .ref s2, .int t0, .int t1, .int t2, .int t3])), (rq, .inl (cR, 4, .inr (.inr (.inr (.inr (rqF r0 r1 r2 r3)))))), (r0, .inr (4, [.ref o0, .int (nI n0), .int 0])), (o0, .inl (cI, 4000, .inl f0)), (r2, .inr (4, [.ref o2, .int (nI n2), .int 0])), (o2, .inl (cI, 8000, .inl f2)), (r3, .inr (4, [.ref o3, .int (nI n3), .int 0])), (o3, .inl (cI, 8000, .inl f3)), (r1, .inr (4, [.ref o1, .int (nI n1), .int 0])), (o1, .inl (cI, 4000, .inl f1))] H := hP
                have hD : va_D A0 [(cd, .inr (8, [.ref rq, .ref wt, .ref wq, .ref mi, .ref mo, .ref ft, .ref ot, .ref gt, .ref rd, .ref tq, .ref wr, .ref s1, .ref s2, .int t0, .int t1, .int t2, .int t3])), (rq, .inl (cR, 4, .inr (.inr (.inr (.inr (rqF r0 r1 r2 r3)))))), (r0, .inr (4, [.ref o0, .int (nI n0), .int 0])), (o0, .inl (cI, 4000, .inl f0)), (r2, .inr (4, [.ref o2, .int (nI n2), .int 0])), (o2, .inl (cI, 8000, .inl f2)), (r3, .inr (4, [.ref o3, .int (nI n3), .int 0])), (o3, .inl (cI, 8000, .inl f3)), (r1, .inr (4, [.ref o1, .int (nI n1), .int 0])), (o1, .inl (cI, 4000, .inl f1))] := hD
                subst hrm
                refine lv_icmp_le (tgt := 65) hx hb dX8_copy_59 (by decide) (fun c_22 => ?_) (fun c_22 => ?_)
                · have hf9 : ¬ 4000 < (RL 1).length + m1 := by have := (nI_leI (by omega) (by omega)).mp c_22; omega
                  rw [if_neg (show ¬ rmN 1 < (RL 1).length + m1 from hf9)] at hfp
                  refine lv_iconst (v := 0) hx hb dX8_copy_65 (by decide) ?_
                  refine ri (y := nI 0) (nI_0.symm) ?_
                  refine lv_istore (lv' := [(5, .int (nI 0)), (0, .ref cd), (1, .int (nI 1)), (2, .int (nI a1)), (3, .int (nI m1)), (4, .int (nI 1))]) hx hb dX8_copy_66 hl (by decide) rfl (fun ls hl => ?_)
                  have loop : ∀ (k9 : Nat) (i : Nat) (n7 : Nat) (f7 : Nat → Int32) (H : Heap) (locs : List Loc) (ls : Array Slot), m1 - i < k9 → (i ≤ m1) → (rowIs 4000 (RL 1 ++ rgL (gD (RL 1)) a1 i) n7 f7 0) → va_P D vwCl [(cd, .inr (8, [.ref rq, .ref wt, .ref wq, .ref mi, .ref mo, .ref ft, .ref ot, .ref gt, .ref rd, .ref tq, .ref wr, .ref s1, .ref s2, .int t0, .int t1, .int t2, .int t3])), (rq, .inl (cR, 4, .inr (.inr (.inr (.inr (rqF r0 r1 r2 r3)))))), (r0, .inr (4, [.ref o0, .int (nI n0), .int 0])), (o0, .inl (cI, 4000, .inl f0)), (r1, .inr (4, [.ref o1, .int (nI n7), .int 0])), (o1, .inl (cI, 4000, .inl f7)), (r2, .inr (4, [.ref o2, .int (nI n2), .int 0])), (o2, .inl (cI, 8000, .inl f2)), (r3, .inr (4, [.ref o3, .int (nI n3), .int 0])), (o3, .inl (cI, 8000, .inl f3))] H → va_D A0 [(cd, .inr (8, [.ref rq, .ref wt, .ref wq, .ref mi, .ref mo, .ref ft, .ref ot, .ref gt, .ref rd, .ref tq, .ref wr, .ref s1, .ref s2, .int t0, .int t1, .int t2, .int t3])), (rq, .inl (cR, 4, .inr (.inr (.inr (.inr (rqF r0 r1 r2 r3)))))), (r0, .inr (4, [.ref o0, .int (nI n0), .int 0])), (o0, .inl (cI, 4000, .inl f0)), (r1, .inr (4, [.ref o1, .int (nI n7), .int 0])), (o1, .inl (cI, 4000, .inl f7)), (r2, .inr (4, [.ref o2, .int (nI n2), .int 0])), (o2, .inl (cI, 8000, .inl f2)), (r3, .inr (4, [.ref o3, .int (nI n3), .int 0])), (o3, .inl (cI, 8000, .inl f3))] → va_S A0 s0.heap H locs → lv_has ls 6 [(0, .ref cd), (1, .int (nI 1)), (2, .int (nI a1)), (3, .int (nI m1)), (4, .int (nI 1)), (5, .int (nI i))] → W p0 l e0 ({ frames := 1, cells := 0, slots := 0, locals := 21 }) s0 m0 ([.ref cd, .int x, .int a, .int n, .int y] : List Value).toArray below meth c0 H locs 0 0 Q0 (F0 m0 68 ls []) := by
                    intro k9
                    induction k9 with
                    | zero => intro i n7 f7 H locs ls hk9; exact absurd hk9 (Nat.not_lt_zero _)
                    | succ k9 ih =>
                      intro i n7 f7 H locs ls hk9 him hr7 hP hD hS hl
                      have hlen : (RL 1 ++ rgL (gD (RL 1)) a1 i).length = (RL 1).length + i := by rw [List.length_append, rgL_len]
                      have hw9 := (row_len hr7 (by omega)).1
                      refine lv_iload hx hb dX8_copy_68 (lv_at hl 5 rfl) ?_
                      refine lv_iload_n hx hb dX8_copy_70 rfl (lv_at hl 3 rfl) ?_
                      refine lv_icmp_ge (tgt := 103) hx hb dX8_copy_71 (by decide) (fun c_23 => ?_) (fun c_23 => ?_)
                      · have hi9 : i = m1 := by have := (nI_leI (by omega) (by omega)).mp c_23; omega
                        subst hi9
                        rw [hlen] at hw9
                        subst hw9
                        refine lv_aload_n hx hb dX8_copy_103 rfl (lv_at hl 0 rfl) ?_
                        refine va_get (D := D) (ci := 8) (v := .ref rq) (C := RX8) (T := TX8) (N := 17) hx hb hts in_X8 hown hK hP 0 rfl rfl 0 (by decide) (hts _ kX8_11) (fun _ h9 => h9) rfl dX8_copy_104 ?_
                        refine lv_iload hx hb dX8_copy_107 (lv_at hl 4 rfl) ?_
                        refine ax_rld hx hb hK hP 1 3 rfl rfl 1 (rfl) (by decide) (by decide) rfl dX8_copy_109 ?_
                        refine va_get (D := D) (ci := 4) (v := .int (nI ((RL 1).length + i))) (C := RX4) (T := TX4) (N := 3) hx hb hts in_X4 hown hK hP 4 rfl rfl 1 (by decide) (hts _ kX8_92) (fun _ h9 => h9) rfl dX8_copy_110 ?_
                        exact hret 113 ls _ _ _ (n0, f0, (RL 1).length + i, f7, n2, f2, n3, f3, va_up RL 1 (RL 1 ++ rgL (gD (RL 1)) a1 i)) dX8_copy_113 hP hD hS (⟨hfp, rwOk_1 hrw hr7 (by omega)⟩)
                      · have hi9 : i < m1 := Nat.not_le.mp (fun q => c_23 (nI_le q (by omega)))
                        refine lv_aload_n hx hb dX8_copy_74 rfl (lv_at hl 0 rfl) ?_
                        refine va_get (D := D) (ci := 8) (v := .ref rq) (C := RX8) (T := TX8) (N := 17) hx hb hts in_X8 hown hK hP 0 rfl rfl 0 (by decide) (hts _ kX8_11) (fun _ h9 => h9) rfl dX8_copy_75 ?_
                        refine lv_iload hx hb dX8_copy_78 (lv_at hl 4 rfl) ?_
                        refine ax_rld hx hb hK hP 1 3 rfl rfl 1 (rfl) (by decide) (by decide) rfl dX8_copy_80 ?_
                        refine lv_aload_n hx hb dX8_copy_81 rfl (lv_at hl 0 rfl) ?_
                        refine va_get (D := D) (ci := 8) (v := .ref rq) (C := RX8) (T := TX8) (N := 17) hx hb hts in_X8 hown hK hP 0 rfl rfl 0 (by decide) (hts _ kX8_11) (fun _ h9 => h9) rfl dX8_copy_82 ?_
                        refine lv_iload_n hx hb dX8_copy_85 rfl (lv_at hl 1 rfl) ?_
                        refine ax_rld hx hb hK hP 1 3 rfl rfl 1 (rfl) (by decide) (by decide) rfl dX8_copy_86 ?_
                        refine lv_iload_n hx hb dX8_copy_87 rfl (lv_at hl 2 rfl) ?_
                        refine lv_iload hx hb dX8_copy_88 (lv_at hl 5 rfl) ?_
                        refine lv_iadd hx hb dX8_copy_90 ?_
                        refine ri (y := nI (a1 + i)) (nI_add a1 i) ?_
                        refine jn_i (wr := [(cd, .inr (8, [.ref rq, .ref wt, .ref wq, .ref mi, .ref mo, .ref ft, .ref ot, .ref gt, .ref rd, .ref tq, .ref wr, .ref s1, .ref s2, .int t0, .int t1, .int t2, .int t3])), (rq, .inl (cR, 4, .inr (.inr (.inr (.inr (rqF r0 r1 r2 r3)))))), (r0, .inr (4, [.ref o0, .int (nI n0), .int 0])), (o0, .inl (cI, 4000, .inl f0)), (r2, .inr (4, [.ref o2, .int (nI n2), .int 0])), (o2, .inl (cI, 8000, .inl f2)), (r3, .inr (4, [.ref o3, .int (nI n3), .int 0])), (o3, .inl (cI, 8000, .inl f3))]) hA hP hD hS [4, 5] [0, 1, 2, 3, 6, 7, 8, 9] rfl rfl (by decide) (by decide) (rn_V (As := [.int (nI (a1 + i))]) (rest := [.ref r1]) ⟨hx, hb, hml, hown, hts⟩ (cvV 1 hts zc_yX4_at zi_X4 zm_yX4_at zv_yX4_at kX8_102 (by decide +kernel) rfl rfl ⟨Nat.le_of_ble_eq_true rfl, Nat.le_of_ble_eq_true rfl⟩) (c_Row_at l D cI cB cJ cR r1 o1 4000 n7 f7 0 (nI (a1 + i)) (by decide) (by omega) H.size) hK hNw hMk hA hP hD hS [4, 5] rfl rfl (by decide) 0 rfl rfl rfl rfl hl.1 rfl (Nat.le_of_ble_eq_true rfl) dX8_copy_91 ⟨Nat.le_of_ble_eq_true rfl, Nat.le_of_ble_eq_true rfl⟩) (fun ra u9 H locs hra hP hD hS => ?_)
                        try dsimp only at hra
                        have hP : va_P D vwCl [(cd, .inr (8, [.ref rq, .ref wt, .ref wq, .ref mi, .ref mo, .ref ft, .ref ot, .ref gt, .ref rd, .ref tq, .ref wr, .ref s1, .ref s2, .int t0, .int t1, .int t2, .int t3])), (rq, .inl (cR, 4, .inr (.inr (.inr (.inr (rqF r0 r1 r2 r3)))))), (r0, .inr (4, [.ref o0, .int (nI n0), .int 0])), (o0, .inl (cI, 4000, .inl f0)), (r2, .inr (4, [.ref o2, .int (nI n2), .int 0])), (o2, .inl (cI, 8000, .inl f2)), (r3, .inr (4, [.ref o3, .int (nI n3), .int 0])), (o3, .inl (cI, 8000, .inl f3)), (r1, .inr (4, [.ref o1, .int (nI n7), .int 0])), (o1, .inl (cI, 4000, .inl f7))] H := hP
                        have hD : va_D A0 [(cd, .inr (8, [.ref rq, .ref wt, .ref wq, .ref mi, .ref mo, .ref ft, .ref ot, .ref gt, .ref rd, .ref tq, .ref wr, .ref s1, .ref s2, .int t0, .int t1, .int t2, .int t3])), (rq, .inl (cR, 4, .inr (.inr (.inr (.inr (rqF r0 r1 r2 r3)))))), (r0, .inr (4, [.ref o0, .int (nI n0), .int 0])), (o0, .inl (cI, 4000, .inl f0)), (r2, .inr (4, [.ref o2, .int (nI n2), .int 0])), (o2, .inl (cI, 8000, .inl f2)), (r3, .inr (4, [.ref o3, .int (nI n3), .int 0])), (o3, .inl (cI, 8000, .inl f3)), (r1, .inr (4, [.ref o1, .int (nI n7), .int 0])), (o1, .inl (cI, 4000, .inl f7))] := hD
                        have hv9 : ra = gD (RL 1) (a1 + i) := by rw [hra, if_pos (inB_t (by omega) (by omega)), nI_clamp (by omega), hr7.2.2 _ (by omega), gD_l (by omega)]; rfl
                        subst hv9
                        refine jn_v (wr := [(cd, .inr (8, [.ref rq, .ref wt, .ref wq, .ref mi, .ref mo, .ref ft, .ref ot, .ref gt, .ref rd, .ref tq, .ref wr, .ref s1, .ref s2, .int t0, .int t1, .int t2, .int t3])), (rq, .inl (cR, 4, .inr (.inr (.inr (.inr (rqF r0 r1 r2 r3)))))), (r0, .inr (4, [.ref o0, .int (nI n0), .int 0])), (o0, .inl (cI, 4000, .inl f0)), (r2, .inr (4, [.ref o2, .int (nI n2), .int 0])), (o2, .inl (cI, 8000, .inl f2)), (r3, .inr (4, [.ref o3, .int (nI n3), .int 0])), (o3, .inl (cI, 8000, .inl f3))]) hA hP hD hS [8, 9] [0, 1, 2, 3, 4, 5, 6, 7] rfl rfl (by decide) (by decide) (rn_V (As := [.int (gD (RL 1) (a1 + i))]) (rest := []) ⟨hx, hb, hml, hown, hts⟩ (cvV 1 hts zc_yX4_put zi_X4 zm_yX4_put zv_yX4_put kX8_89 (by decide +kernel) rfl rfl ⟨Nat.le_of_ble_eq_true rfl, Nat.le_of_ble_eq_true rfl⟩) (c_Row_put l D cI cB cJ cR r1 o1 4000 n7 f7 0 (RL 1 ++ rgL (gD (RL 1)) a1 i) (gD (RL 1) (a1 + i)) (by decide) (hr7) H.size) hK hNw hMk hA hP hD hS [8, 9] rfl rfl (by decide) 0 rfl rfl rfl rfl hl.1 rfl (Nat.le_of_ble_eq_true rfl) dX8_copy_94 ⟨Nat.le_of_ble_eq_true rfl, Nat.le_of_ble_eq_true rfl⟩) (fun u9 H locs hpu hP hD hS => ?_)
                        obtain ⟨n8, f8, v8⟩ := u9
                        try dsimp only at hpu
                        have hP : va_P D vwCl [(cd, .inr (8, [.ref rq, .ref wt, .ref wq, .ref mi, .ref mo, .ref ft, .ref ot, .ref gt, .ref rd, .ref tq, .ref wr, .ref s1, .ref s2, .int t0, .int t1, .int t2, .int t3])), (rq, .inl (cR, 4, .inr (.inr (.inr (.inr (rqF r0 r1 r2 r3)))))), (r0, .inr (4, [.ref o0, .int (nI n0), .int 0])), (o0, .inl (cI, 4000, .inl f0)), (r2, .inr (4, [.ref o2, .int (nI n2), .int 0])), (o2, .inl (cI, 8000, .inl f2)), (r3, .inr (4, [.ref o3, .int (nI n3), .int 0])), (o3, .inl (cI, 8000, .inl f3)), (r1, .inr (4, [.ref o1, .int (nI n8), .int v8])), (o1, .inl (cI, 4000, .inl f8))] H := hP
                        have hD : va_D A0 [(cd, .inr (8, [.ref rq, .ref wt, .ref wq, .ref mi, .ref mo, .ref ft, .ref ot, .ref gt, .ref rd, .ref tq, .ref wr, .ref s1, .ref s2, .int t0, .int t1, .int t2, .int t3])), (rq, .inl (cR, 4, .inr (.inr (.inr (.inr (rqF r0 r1 r2 r3)))))), (r0, .inr (4, [.ref o0, .int (nI n0), .int 0])), (o0, .inl (cI, 4000, .inl f0)), (r2, .inr (4, [.ref o2, .int (nI n2), .int 0])), (o2, .inl (cI, 8000, .inl f2)), (r3, .inr (4, [.ref o3, .int (nI n3), .int 0])), (o3, .inl (cI, 8000, .inl f3)), (r1, .inr (4, [.ref o1, .int (nI n8), .int v8])), (o1, .inl (cI, 4000, .inl f8))] := hD
                        have hv8 := (row_len hpu (by rw [List.length_append, hlen]; show _ + 1 ≤ _; omega)).2
                        subst hv8
                        rw [List.append_assoc] at hpu
                        refine lv_iinc (v := nI (i + 1)) (lv' := [(5, .int (nI (i + 1))), (0, .ref cd), (1, .int (nI 1)), (2, .int (nI a1)), (3, .int (nI m1)), (4, .int (nI 1))]) hx hb dX8_copy_97 hl (k := 5) rfl (nI_add i 1) (by decide) rfl (fun ls hl => ?_)
                        refine lv_goto (tgt := 68) hx hb dX8_copy_100 (by decide) ?_
                        exact ih (i + 1) n8 f8 _ _ ls (by omega) (by omega) (hpu) (hP.sub [0, 1, 2, 3, 8, 9, 4, 5, 6, 7] rfl) (hD.sub [0, 1, 2, 3, 8, 9, 4, 5, 6, 7] (by decide) rfl) hS (lv_sub hl [1, 2, 3, 4, 5, 0] rfl)
                  exact loop _ 0 n1 f1 _ _ ls (Nat.lt_succ_self _) (Nat.zero_le _) (by rw [rgL, List.append_nil]; exact hr1) (hP.sub [0, 1, 2, 3, 8, 9, 4, 5, 6, 7] rfl) (hD.sub [0, 1, 2, 3, 8, 9, 4, 5, 6, 7] (by decide) rfl) hS (lv_sub hl [1, 2, 3, 4, 5, 0] rfl)
                · have hf9 : 4000 < (RL 1).length + m1 := by have := Nat.not_le.mp (fun q => c_22 (nI_le q (by omega))); omega
                  rw [if_pos (show rmN 1 < (RL 1).length + m1 from hf9)] at hfp
                  refine lv_bipush (v := -4) hx hb dX8_copy_62 (by decide) ?_
                  have hP := hP.sub (ws' := [(cd, .inr (8, [.ref rq, .ref wt, .ref wq, .ref mi, .ref mo, .ref ft, .ref ot, .ref gt, .ref rd, .ref tq, .ref wr, .ref s1, .ref s2, .int t0, .int t1, .int t2, .int t3])), (rq, .inl (cR, 4, .inr (.inr (.inr (.inr (rqF r0 r1 r2 r3)))))), (r0, .inr (4, [.ref o0, .int (nI n0), .int 0])), (o0, .inl (cI, 4000, .inl f0)), (r1, .inr (4, [.ref o1, .int (nI n1), .int 0])), (o1, .inl (cI, 4000, .inl f1)), (r2, .inr (4, [.ref o2, .int (nI n2), .int 0])), (o2, .inl (cI, 8000, .inl f2)), (r3, .inr (4, [.ref o3, .int (nI n3), .int 0])), (o3, .inl (cI, 8000, .inl f3))]) [0, 1, 2, 3, 8, 9, 4, 5, 6, 7] rfl
                  have hD := hD.sub (ws' := [(cd, .inr (8, [.ref rq, .ref wt, .ref wq, .ref mi, .ref mo, .ref ft, .ref ot, .ref gt, .ref rd, .ref tq, .ref wr, .ref s1, .ref s2, .int t0, .int t1, .int t2, .int t3])), (rq, .inl (cR, 4, .inr (.inr (.inr (.inr (rqF r0 r1 r2 r3)))))), (r0, .inr (4, [.ref o0, .int (nI n0), .int 0])), (o0, .inl (cI, 4000, .inl f0)), (r1, .inr (4, [.ref o1, .int (nI n1), .int 0])), (o1, .inl (cI, 4000, .inl f1)), (r2, .inr (4, [.ref o2, .int (nI n2), .int 0])), (o2, .inl (cI, 8000, .inl f2)), (r3, .inr (4, [.ref o3, .int (nI n3), .int 0])), (o3, .inl (cI, 8000, .inl f3))]) [0, 1, 2, 3, 8, 9, 4, 5, 6, 7] (by decide) rfl
                  exact hret 64 ls _ _ _ (n0, f0, n1, f1, n2, f2, n3, f3, RL) dX8_copy_64 hP hD hS (⟨hfp, hrw⟩)
              · have hny9 := rw_n2 hrw
                rw [hy2] at hl
                have hfp := cpyP_in (k := 1) (j := 2) (RL := RL) (by decide) (by decide) ha1 hm1
                have hfp : cpyP x a n y RL = _ := (by rw [hx1, hy2, hae, hme] : cpyP x a n y RL = cpyP (nI 1) (nI a1) (nI m1) (nI 2) RL).trans hfp
                rw [if_neg ho9] at hfp
                refine lv_iload_n hx hb dX8_copy_48 rfl (lv_at hl 3 rfl) ?_
                refine lv_aload_n hx hb dX8_copy_49 rfl (lv_at hl 0 rfl) ?_
                refine va_get (D := D) (ci := 8) (v := .ref rq) (C := RX8) (T := TX8) (N := 17) hx hb hts in_X8 hown hK hP 0 rfl rfl 0 (by decide) (hts _ kX8_11) (fun _ h9 => h9) rfl dX8_copy_50 ?_
                refine lv_iload hx hb dX8_copy_53 (lv_at hl 4 rfl) ?_
                refine ax_rld hx hb hK hP 1 3 rfl rfl 2 (rfl) (by decide) (by decide) rfl dX8_copy_55 ?_
                refine jn_i (wr := [(cd, .inr (8, [.ref rq, .ref wt, .ref wq, .ref mi, .ref mo, .ref ft, .ref ot, .ref gt, .ref rd, .ref tq, .ref wr, .ref s1, .ref s2, .int t0, .int t1, .int t2, .int t3])), (rq, .inl (cR, 4, .inr (.inr (.inr (.inr (rqF r0 r1 r2 r3)))))), (r0, .inr (4, [.ref o0, .int (nI n0), .int 0])), (o0, .inl (cI, 4000, .inl f0)), (r1, .inr (4, [.ref o1, .int (nI n1), .int 0])), (o1, .inl (cI, 4000, .inl f1)), (r3, .inr (4, [.ref o3, .int (nI n3), .int 0])), (o3, .inl (cI, 8000, .inl f3))]) hA hP hD hS [6, 7] [0, 1, 2, 3, 4, 5, 8, 9] rfl rfl (by decide) (by decide) (rn_V (As := []) (rest := [.int (nI m1)]) ⟨hx, hb, hml, hown, hts⟩ (cvV 0 hts zc_yX4_room zi_X4 zm_yX4_room zv_yX4_room kX8_85 (by decide +kernel) rfl rfl ⟨Nat.le_of_ble_eq_true rfl, Nat.le_of_ble_eq_true rfl⟩) (c_Row_room l D cI cB cJ cR r2 o2 8000 n2 f2 0 (by decide) (hny9.2) H.size) hK hNw hMk hA hP hD hS [6, 7] rfl rfl (by decide) 0 rfl rfl rfl rfl hl.1 rfl (Nat.le_of_ble_eq_true rfl) dX8_copy_56 ⟨Nat.le_of_ble_eq_true rfl, Nat.le_of_ble_eq_true rfl⟩) (fun rm u9 H locs hrm hP hD hS => ?_)
                try dsimp only at hrm
                have hP : va_P D vwCl [(cd, .inr (8, [.ref rq, .ref wt, .ref wq, .ref mi, .ref mo, .ref ft, .ref ot, .ref gt, .ref rd, .ref tq, .ref wr, .ref s1, .ref s2, .int t0, .int t1, .int t2, .int t3])), (rq, .inl (cR, 4, .inr (.inr (.inr (.inr (rqF r0 r1 r2 r3)))))), (r0, .inr (4, [.ref o0, .int (nI n0), .int 0])), (o0, .inl (cI, 4000, .inl f0)), (r1, .inr (4, [.ref o1, .int (nI n1), .int 0])), (o1, .inl (cI, 4000, .inl f1)), (r3, .inr (4, [.ref o3, .int (nI n3), .int 0])), (o3, .inl (cI, 8000, .inl f3)), (r2, .inr (4, [.ref o2, .int (nI n2), .int 0])), (o2, .inl (cI, 8000, .inl f2))] H := hP
                have hD : va_D A0 [(cd, .inr (8, [.ref rq, .ref wt, .ref wq, .ref mi, .ref mo, .ref ft, .ref ot, .ref gt, .ref rd, .ref tq, .ref wr, .ref s1, .ref s2, .int t0, .int t1, .int t2, .int t3])), (rq, .inl (cR, 4, .inr (.inr (.inr (.inr (rqF r0 r1 r2 r3)))))), (r0, .inr (4, [.ref o0, .int (nI n0), .int 0])), (o0, .inl (cI, 4000, .inl f0)), (r1, .inr (4, [.ref o1, .int (nI n1), .int 0])), (o1, .inl (cI, 4000, .inl f1)), (r3, .inr (4, [.ref o3, .int (nI n3), .int 0])), (o3, .inl (cI, 8000, .inl f3)), (r2, .inr (4, [.ref o2, .int (nI n2), .int 0])), (o2, .inl (cI, 8000, .inl f2))] := hD
                subst hrm
                refine lv_icmp_le (tgt := 65) hx hb dX8_copy_59 (by decide) (fun c_25 => ?_) (fun c_25 => ?_)
                · have hf9 : ¬ 8000 < (RL 2).length + m1 := by have := (nI_leI (by omega) (by omega)).mp c_25; omega
                  rw [if_neg (show ¬ rmN 2 < (RL 2).length + m1 from hf9)] at hfp
                  refine lv_iconst (v := 0) hx hb dX8_copy_65 (by decide) ?_
                  refine ri (y := nI 0) (nI_0.symm) ?_
                  refine lv_istore (lv' := [(5, .int (nI 0)), (0, .ref cd), (1, .int (nI 1)), (2, .int (nI a1)), (3, .int (nI m1)), (4, .int (nI 2))]) hx hb dX8_copy_66 hl (by decide) rfl (fun ls hl => ?_)
                  have loop : ∀ (k9 : Nat) (i : Nat) (n7 : Nat) (f7 : Nat → Int32) (H : Heap) (locs : List Loc) (ls : Array Slot), m1 - i < k9 → (i ≤ m1) → (rowIs 8000 (RL 2 ++ rgL (gD (RL 1)) a1 i) n7 f7 0) → va_P D vwCl [(cd, .inr (8, [.ref rq, .ref wt, .ref wq, .ref mi, .ref mo, .ref ft, .ref ot, .ref gt, .ref rd, .ref tq, .ref wr, .ref s1, .ref s2, .int t0, .int t1, .int t2, .int t3])), (rq, .inl (cR, 4, .inr (.inr (.inr (.inr (rqF r0 r1 r2 r3)))))), (r0, .inr (4, [.ref o0, .int (nI n0), .int 0])), (o0, .inl (cI, 4000, .inl f0)), (r1, .inr (4, [.ref o1, .int (nI n1), .int 0])), (o1, .inl (cI, 4000, .inl f1)), (r2, .inr (4, [.ref o2, .int (nI n7), .int 0])), (o2, .inl (cI, 8000, .inl f7)), (r3, .inr (4, [.ref o3, .int (nI n3), .int 0])), (o3, .inl (cI, 8000, .inl f3))] H → va_D A0 [(cd, .inr (8, [.ref rq, .ref wt, .ref wq, .ref mi, .ref mo, .ref ft, .ref ot, .ref gt, .ref rd, .ref tq, .ref wr, .ref s1, .ref s2, .int t0, .int t1, .int t2, .int t3])), (rq, .inl (cR, 4, .inr (.inr (.inr (.inr (rqF r0 r1 r2 r3)))))), (r0, .inr (4, [.ref o0, .int (nI n0), .int 0])), (o0, .inl (cI, 4000, .inl f0)), (r1, .inr (4, [.ref o1, .int (nI n1), .int 0])), (o1, .inl (cI, 4000, .inl f1)), (r2, .inr (4, [.ref o2, .int (nI n7), .int 0])), (o2, .inl (cI, 8000, .inl f7)), (r3, .inr (4, [.ref o3, .int (nI n3), .int 0])), (o3, .inl (cI, 8000, .inl f3))] → va_S A0 s0.heap H locs → lv_has ls 6 [(0, .ref cd), (1, .int (nI 1)), (2, .int (nI a1)), (3, .int (nI m1)), (4, .int (nI 2)), (5, .int (nI i))] → W p0 l e0 ({ frames := 1, cells := 0, slots := 0, locals := 21 }) s0 m0 ([.ref cd, .int x, .int a, .int n, .int y] : List Value).toArray below meth c0 H locs 0 0 Q0 (F0 m0 68 ls []) := by
                    intro k9
                    induction k9 with
                    | zero => intro i n7 f7 H locs ls hk9; exact absurd hk9 (Nat.not_lt_zero _)
                    | succ k9 ih =>
                      intro i n7 f7 H locs ls hk9 him hr7 hP hD hS hl
                      have hlen : (RL 2 ++ rgL (gD (RL 1)) a1 i).length = (RL 2).length + i := by rw [List.length_append, rgL_len]
                      have hw9 := (row_len hr7 (by omega)).1
                      refine lv_iload hx hb dX8_copy_68 (lv_at hl 5 rfl) ?_
                      refine lv_iload_n hx hb dX8_copy_70 rfl (lv_at hl 3 rfl) ?_
                      refine lv_icmp_ge (tgt := 103) hx hb dX8_copy_71 (by decide) (fun c_26 => ?_) (fun c_26 => ?_)
                      · have hi9 : i = m1 := by have := (nI_leI (by omega) (by omega)).mp c_26; omega
                        subst hi9
                        rw [hlen] at hw9
                        subst hw9
                        refine lv_aload_n hx hb dX8_copy_103 rfl (lv_at hl 0 rfl) ?_
                        refine va_get (D := D) (ci := 8) (v := .ref rq) (C := RX8) (T := TX8) (N := 17) hx hb hts in_X8 hown hK hP 0 rfl rfl 0 (by decide) (hts _ kX8_11) (fun _ h9 => h9) rfl dX8_copy_104 ?_
                        refine lv_iload hx hb dX8_copy_107 (lv_at hl 4 rfl) ?_
                        refine ax_rld hx hb hK hP 1 3 rfl rfl 2 (rfl) (by decide) (by decide) rfl dX8_copy_109 ?_
                        refine va_get (D := D) (ci := 4) (v := .int (nI ((RL 2).length + i))) (C := RX4) (T := TX4) (N := 3) hx hb hts in_X4 hown hK hP 6 rfl rfl 1 (by decide) (hts _ kX8_92) (fun _ h9 => h9) rfl dX8_copy_110 ?_
                        exact hret 113 ls _ _ _ (n0, f0, n1, f1, (RL 2).length + i, f7, n3, f3, va_up RL 2 (RL 2 ++ rgL (gD (RL 1)) a1 i)) dX8_copy_113 hP hD hS (⟨hfp, rwOk_2 hrw hr7 (by omega)⟩)
                      · have hi9 : i < m1 := Nat.not_le.mp (fun q => c_26 (nI_le q (by omega)))
                        refine lv_aload_n hx hb dX8_copy_74 rfl (lv_at hl 0 rfl) ?_
                        refine va_get (D := D) (ci := 8) (v := .ref rq) (C := RX8) (T := TX8) (N := 17) hx hb hts in_X8 hown hK hP 0 rfl rfl 0 (by decide) (hts _ kX8_11) (fun _ h9 => h9) rfl dX8_copy_75 ?_
                        refine lv_iload hx hb dX8_copy_78 (lv_at hl 4 rfl) ?_
                        refine ax_rld hx hb hK hP 1 3 rfl rfl 2 (rfl) (by decide) (by decide) rfl dX8_copy_80 ?_
                        refine lv_aload_n hx hb dX8_copy_81 rfl (lv_at hl 0 rfl) ?_
                        refine va_get (D := D) (ci := 8) (v := .ref rq) (C := RX8) (T := TX8) (N := 17) hx hb hts in_X8 hown hK hP 0 rfl rfl 0 (by decide) (hts _ kX8_11) (fun _ h9 => h9) rfl dX8_copy_82 ?_
                        refine lv_iload_n hx hb dX8_copy_85 rfl (lv_at hl 1 rfl) ?_
                        refine ax_rld hx hb hK hP 1 3 rfl rfl 1 (rfl) (by decide) (by decide) rfl dX8_copy_86 ?_
                        refine lv_iload_n hx hb dX8_copy_87 rfl (lv_at hl 2 rfl) ?_
                        refine lv_iload hx hb dX8_copy_88 (lv_at hl 5 rfl) ?_
                        refine lv_iadd hx hb dX8_copy_90 ?_
                        refine ri (y := nI (a1 + i)) (nI_add a1 i) ?_
                        refine jn_i (wr := [(cd, .inr (8, [.ref rq, .ref wt, .ref wq, .ref mi, .ref mo, .ref ft, .ref ot, .ref gt, .ref rd, .ref tq, .ref wr, .ref s1, .ref s2, .int t0, .int t1, .int t2, .int t3])), (rq, .inl (cR, 4, .inr (.inr (.inr (.inr (rqF r0 r1 r2 r3)))))), (r0, .inr (4, [.ref o0, .int (nI n0), .int 0])), (o0, .inl (cI, 4000, .inl f0)), (r2, .inr (4, [.ref o2, .int (nI n7), .int 0])), (o2, .inl (cI, 8000, .inl f7)), (r3, .inr (4, [.ref o3, .int (nI n3), .int 0])), (o3, .inl (cI, 8000, .inl f3))]) hA hP hD hS [4, 5] [0, 1, 2, 3, 6, 7, 8, 9] rfl rfl (by decide) (by decide) (rn_V (As := [.int (nI (a1 + i))]) (rest := [.ref r2]) ⟨hx, hb, hml, hown, hts⟩ (cvV 1 hts zc_yX4_at zi_X4 zm_yX4_at zv_yX4_at kX8_102 (by decide +kernel) rfl rfl ⟨Nat.le_of_ble_eq_true rfl, Nat.le_of_ble_eq_true rfl⟩) (c_Row_at l D cI cB cJ cR r1 o1 4000 n1 f1 0 (nI (a1 + i)) (by decide) (by omega) H.size) hK hNw hMk hA hP hD hS [4, 5] rfl rfl (by decide) 0 rfl rfl rfl rfl hl.1 rfl (Nat.le_of_ble_eq_true rfl) dX8_copy_91 ⟨Nat.le_of_ble_eq_true rfl, Nat.le_of_ble_eq_true rfl⟩) (fun ra u9 H locs hra hP hD hS => ?_)
                        try dsimp only at hra
                        have hP : va_P D vwCl [(cd, .inr (8, [.ref rq, .ref wt, .ref wq, .ref mi, .ref mo, .ref ft, .ref ot, .ref gt, .ref rd, .ref tq, .ref wr, .ref s1, .ref s2, .int t0, .int t1, .int t2, .int t3])), (rq, .inl (cR, 4, .inr (.inr (.inr (.inr (rqF r0 r1 r2 r3)))))), (r0, .inr (4, [.ref o0, .int (nI n0), .int 0])), (o0, .inl (cI, 4000, .inl f0)), (r2, .inr (4, [.ref o2, .int (nI n7), .int 0])), (o2, .inl (cI, 8000, .inl f7)), (r3, .inr (4, [.ref o3, .int (nI n3), .int 0])), (o3, .inl (cI, 8000, .inl f3)), (r1, .inr (4, [.ref o1, .int (nI n1), .int 0])), (o1, .inl (cI, 4000, .inl f1))] H := hP
                        have hD : va_D A0 [(cd, .inr (8, [.ref rq, .ref wt, .ref wq, .ref mi, .ref mo, .ref ft, .ref ot, .ref gt, .ref rd, .ref tq, .ref wr, .ref s1, .ref s2, .int t0, .int t1, .int t2, .int t3])), (rq, .inl (cR, 4, .inr (.inr (.inr (.inr (rqF r0 r1 r2 r3)))))), (r0, .inr (4, [.ref o0, .int (nI n0), .int 0])), (o0, .inl (cI, 4000, .inl f0)), (r2, .inr (4, [.ref o2, .int (nI n7), .int 0])), (o2, .inl (cI, 8000, .inl f7)), (r3, .inr (4, [.ref o3, .int (nI n3), .int 0])), (o3, .inl (cI, 8000, .inl f3)), (r1, .inr (4, [.ref o1, .int (nI n1), .int 0])), (o1, .inl (cI, 4000, .inl f1))] := hD
                        have hv9 : ra = gD (RL 1) (a1 + i) := by rw [hra, if_pos (inB_t (by omega) (by omega)), nI_clamp (by omega)]; exact hr1.2.2 _ (by omega)
                        subst hv9
                        refine jn_v (wr := [(cd, .inr (8, [.ref rq, .ref wt, .ref wq, .ref mi, .ref mo, .ref ft, .ref ot, .ref gt, .ref rd, .ref tq, .ref wr, .ref s1, .ref s2, .int t0, .int t1, .int t2, .int t3])), (rq, .inl (cR, 4, .inr (.inr (.inr (.inr (rqF r0 r1 r2 r3)))))), (r0, .inr (4, [.ref o0, .int (nI n0), .int 0])), (o0, .inl (cI, 4000, .inl f0)), (r3, .inr (4, [.ref o3, .int (nI n3), .int 0])), (o3, .inl (cI, 8000, .inl f3)), (r1, .inr (4, [.ref o1, .int (nI n1), .int 0])), (o1, .inl (cI, 4000, .inl f1))]) hA hP hD hS [4, 5] [0, 1, 2, 3, 6, 7, 8, 9] rfl rfl (by decide) (by decide) (rn_V (As := [.int (gD (RL 1) (a1 + i))]) (rest := []) ⟨hx, hb, hml, hown, hts⟩ (cvV 1 hts zc_yX4_put zi_X4 zm_yX4_put zv_yX4_put kX8_89 (by decide +kernel) rfl rfl ⟨Nat.le_of_ble_eq_true rfl, Nat.le_of_ble_eq_true rfl⟩) (c_Row_put l D cI cB cJ cR r2 o2 8000 n7 f7 0 (RL 2 ++ rgL (gD (RL 1)) a1 i) (gD (RL 1) (a1 + i)) (by decide) (hr7) H.size) hK hNw hMk hA hP hD hS [4, 5] rfl rfl (by decide) 0 rfl rfl rfl rfl hl.1 rfl (Nat.le_of_ble_eq_true rfl) dX8_copy_94 ⟨Nat.le_of_ble_eq_true rfl, Nat.le_of_ble_eq_true rfl⟩) (fun u9 H locs hpu hP hD hS => ?_)
                        obtain ⟨n8, f8, v8⟩ := u9
                        try dsimp only at hpu
                        have hP : va_P D vwCl [(cd, .inr (8, [.ref rq, .ref wt, .ref wq, .ref mi, .ref mo, .ref ft, .ref ot, .ref gt, .ref rd, .ref tq, .ref wr, .ref s1, .ref s2, .int t0, .int t1, .int t2, .int t3])), (rq, .inl (cR, 4, .inr (.inr (.inr (.inr (rqF r0 r1 r2 r3)))))), (r0, .inr (4, [.ref o0, .int (nI n0), .int 0])), (o0, .inl (cI, 4000, .inl f0)), (r3, .inr (4, [.ref o3, .int (nI n3), .int 0])), (o3, .inl (cI, 8000, .inl f3)), (r1, .inr (4, [.ref o1, .int (nI n1), .int 0])), (o1, .inl (cI, 4000, .inl f1)), (r2, .inr (4, [.ref o2, .int (nI n8), .int v8])), (o2, .inl (cI, 8000, .inl f8))] H := hP
                        have hD : va_D A0 [(cd, .inr (8, [.ref rq, .ref wt, .ref wq, .ref mi, .ref mo, .ref ft, .ref ot, .ref gt, .ref rd, .ref tq, .ref wr, .ref s1, .ref s2, .int t0, .int t1, .int t2, .int t3])), (rq, .inl (cR, 4, .inr (.inr (.inr (.inr (rqF r0 r1 r2 r3)))))), (r0, .inr (4, [.ref o0, .int (nI n0), .int 0])), (o0, .inl (cI, 4000, .inl f0)), (r3, .inr (4, [.ref o3, .int (nI n3), .int 0])), (o3, .inl (cI, 8000, .inl f3)), (r1, .inr (4, [.ref o1, .int (nI n1), .int 0])), (o1, .inl (cI, 4000, .inl f1)), (r2, .inr (4, [.ref o2, .int (nI n8), .int v8])), (o2, .inl (cI, 8000, .inl f8))] := hD
                        have hv8 := (row_len hpu (by rw [List.length_append, hlen]; show _ + 1 ≤ _; omega)).2
                        subst hv8
                        rw [List.append_assoc] at hpu
                        refine lv_iinc (v := nI (i + 1)) (lv' := [(5, .int (nI (i + 1))), (0, .ref cd), (1, .int (nI 1)), (2, .int (nI a1)), (3, .int (nI m1)), (4, .int (nI 2))]) hx hb dX8_copy_97 hl (k := 5) rfl (nI_add i 1) (by decide) rfl (fun ls hl => ?_)
                        refine lv_goto (tgt := 68) hx hb dX8_copy_100 (by decide) ?_
                        exact ih (i + 1) n8 f8 _ _ ls (by omega) (by omega) (hpu) (hP.sub [0, 1, 2, 3, 6, 7, 8, 9, 4, 5] rfl) (hD.sub [0, 1, 2, 3, 6, 7, 8, 9, 4, 5] (by decide) rfl) hS (lv_sub hl [1, 2, 3, 4, 5, 0] rfl)
                  exact loop _ 0 n2 f2 _ _ ls (Nat.lt_succ_self _) (Nat.zero_le _) (by rw [rgL, List.append_nil]; exact hr2) (hP.sub [0, 1, 2, 3, 4, 5, 8, 9, 6, 7] rfl) (hD.sub [0, 1, 2, 3, 4, 5, 8, 9, 6, 7] (by decide) rfl) hS (lv_sub hl [1, 2, 3, 4, 5, 0] rfl)
                · have hf9 : 8000 < (RL 2).length + m1 := by have := Nat.not_le.mp (fun q => c_25 (nI_le q (by omega))); omega
                  rw [if_pos (show rmN 2 < (RL 2).length + m1 from hf9)] at hfp
                  refine lv_bipush (v := -4) hx hb dX8_copy_62 (by decide) ?_
                  have hP := hP.sub (ws' := [(cd, .inr (8, [.ref rq, .ref wt, .ref wq, .ref mi, .ref mo, .ref ft, .ref ot, .ref gt, .ref rd, .ref tq, .ref wr, .ref s1, .ref s2, .int t0, .int t1, .int t2, .int t3])), (rq, .inl (cR, 4, .inr (.inr (.inr (.inr (rqF r0 r1 r2 r3)))))), (r0, .inr (4, [.ref o0, .int (nI n0), .int 0])), (o0, .inl (cI, 4000, .inl f0)), (r1, .inr (4, [.ref o1, .int (nI n1), .int 0])), (o1, .inl (cI, 4000, .inl f1)), (r2, .inr (4, [.ref o2, .int (nI n2), .int 0])), (o2, .inl (cI, 8000, .inl f2)), (r3, .inr (4, [.ref o3, .int (nI n3), .int 0])), (o3, .inl (cI, 8000, .inl f3))]) [0, 1, 2, 3, 4, 5, 8, 9, 6, 7] rfl
                  have hD := hD.sub (ws' := [(cd, .inr (8, [.ref rq, .ref wt, .ref wq, .ref mi, .ref mo, .ref ft, .ref ot, .ref gt, .ref rd, .ref tq, .ref wr, .ref s1, .ref s2, .int t0, .int t1, .int t2, .int t3])), (rq, .inl (cR, 4, .inr (.inr (.inr (.inr (rqF r0 r1 r2 r3)))))), (r0, .inr (4, [.ref o0, .int (nI n0), .int 0])), (o0, .inl (cI, 4000, .inl f0)), (r1, .inr (4, [.ref o1, .int (nI n1), .int 0])), (o1, .inl (cI, 4000, .inl f1)), (r2, .inr (4, [.ref o2, .int (nI n2), .int 0])), (o2, .inl (cI, 8000, .inl f2)), (r3, .inr (4, [.ref o3, .int (nI n3), .int 0])), (o3, .inl (cI, 8000, .inl f3))]) [0, 1, 2, 3, 4, 5, 8, 9, 6, 7] (by decide) rfl
                  exact hret 64 ls _ _ _ (n0, f0, n1, f1, n2, f2, n3, f3, RL) dX8_copy_64 hP hD hS (⟨hfp, hrw⟩)
              · have hny9 := rw_n3 hrw
                rw [hy3] at hl
                have hfp := cpyP_in (k := 1) (j := 3) (RL := RL) (by decide) (by decide) ha1 hm1
                have hfp : cpyP x a n y RL = _ := (by rw [hx1, hy3, hae, hme] : cpyP x a n y RL = cpyP (nI 1) (nI a1) (nI m1) (nI 3) RL).trans hfp
                rw [if_neg ho9] at hfp
                refine lv_iload_n hx hb dX8_copy_48 rfl (lv_at hl 3 rfl) ?_
                refine lv_aload_n hx hb dX8_copy_49 rfl (lv_at hl 0 rfl) ?_
                refine va_get (D := D) (ci := 8) (v := .ref rq) (C := RX8) (T := TX8) (N := 17) hx hb hts in_X8 hown hK hP 0 rfl rfl 0 (by decide) (hts _ kX8_11) (fun _ h9 => h9) rfl dX8_copy_50 ?_
                refine lv_iload hx hb dX8_copy_53 (lv_at hl 4 rfl) ?_
                refine ax_rld hx hb hK hP 1 3 rfl rfl 3 (rfl) (by decide) (by decide) rfl dX8_copy_55 ?_
                refine jn_i (wr := [(cd, .inr (8, [.ref rq, .ref wt, .ref wq, .ref mi, .ref mo, .ref ft, .ref ot, .ref gt, .ref rd, .ref tq, .ref wr, .ref s1, .ref s2, .int t0, .int t1, .int t2, .int t3])), (rq, .inl (cR, 4, .inr (.inr (.inr (.inr (rqF r0 r1 r2 r3)))))), (r0, .inr (4, [.ref o0, .int (nI n0), .int 0])), (o0, .inl (cI, 4000, .inl f0)), (r1, .inr (4, [.ref o1, .int (nI n1), .int 0])), (o1, .inl (cI, 4000, .inl f1)), (r2, .inr (4, [.ref o2, .int (nI n2), .int 0])), (o2, .inl (cI, 8000, .inl f2))]) hA hP hD hS [8, 9] [0, 1, 2, 3, 4, 5, 6, 7] rfl rfl (by decide) (by decide) (rn_V (As := []) (rest := [.int (nI m1)]) ⟨hx, hb, hml, hown, hts⟩ (cvV 0 hts zc_yX4_room zi_X4 zm_yX4_room zv_yX4_room kX8_85 (by decide +kernel) rfl rfl ⟨Nat.le_of_ble_eq_true rfl, Nat.le_of_ble_eq_true rfl⟩) (c_Row_room l D cI cB cJ cR r3 o3 8000 n3 f3 0 (by decide) (hny9.2) H.size) hK hNw hMk hA hP hD hS [8, 9] rfl rfl (by decide) 0 rfl rfl rfl rfl hl.1 rfl (Nat.le_of_ble_eq_true rfl) dX8_copy_56 ⟨Nat.le_of_ble_eq_true rfl, Nat.le_of_ble_eq_true rfl⟩) (fun rm u9 H locs hrm hP hD hS => ?_)
                try dsimp only at hrm
                have hP : va_P D vwCl [(cd, .inr (8, [.ref rq, .ref wt, .ref wq, .ref mi, .ref mo, .ref ft, .ref ot, .ref gt, .ref rd, .ref tq, .ref wr, .ref s1, .ref s2, .int t0, .int t1, .int t2, .int t3])), (rq, .inl (cR, 4, .inr (.inr (.inr (.inr (rqF r0 r1 r2 r3)))))), (r0, .inr (4, [.ref o0, .int (nI n0), .int 0])), (o0, .inl (cI, 4000, .inl f0)), (r1, .inr (4, [.ref o1, .int (nI n1), .int 0])), (o1, .inl (cI, 4000, .inl f1)), (r2, .inr (4, [.ref o2, .int (nI n2), .int 0])), (o2, .inl (cI, 8000, .inl f2)), (r3, .inr (4, [.ref o3, .int (nI n3), .int 0])), (o3, .inl (cI, 8000, .inl f3))] H := hP
                have hD : va_D A0 [(cd, .inr (8, [.ref rq, .ref wt, .ref wq, .ref mi, .ref mo, .ref ft, .ref ot, .ref gt, .ref rd, .ref tq, .ref wr, .ref s1, .ref s2, .int t0, .int t1, .int t2, .int t3])), (rq, .inl (cR, 4, .inr (.inr (.inr (.inr (rqF r0 r1 r2 r3)))))), (r0, .inr (4, [.ref o0, .int (nI n0), .int 0])), (o0, .inl (cI, 4000, .inl f0)), (r1, .inr (4, [.ref o1, .int (nI n1), .int 0])), (o1, .inl (cI, 4000, .inl f1)), (r2, .inr (4, [.ref o2, .int (nI n2), .int 0])), (o2, .inl (cI, 8000, .inl f2)), (r3, .inr (4, [.ref o3, .int (nI n3), .int 0])), (o3, .inl (cI, 8000, .inl f3))] := hD
                subst hrm
                refine lv_icmp_le (tgt := 65) hx hb dX8_copy_59 (by decide) (fun c_28 => ?_) (fun c_28 => ?_)
                · have hf9 : ¬ 8000 < (RL 3).length + m1 := by have := (nI_leI (by omega) (by omega)).mp c_28; omega
                  rw [if_neg (show ¬ rmN 3 < (RL 3).length + m1 from hf9)] at hfp
                  refine lv_iconst (v := 0) hx hb dX8_copy_65 (by decide) ?_
                  refine ri (y := nI 0) (nI_0.symm) ?_
                  refine lv_istore (lv' := [(5, .int (nI 0)), (0, .ref cd), (1, .int (nI 1)), (2, .int (nI a1)), (3, .int (nI m1)), (4, .int (nI 3))]) hx hb dX8_copy_66 hl (by decide) rfl (fun ls hl => ?_)
                  have loop : ∀ (k9 : Nat) (i : Nat) (n7 : Nat) (f7 : Nat → Int32) (H : Heap) (locs : List Loc) (ls : Array Slot), m1 - i < k9 → (i ≤ m1) → (rowIs 8000 (RL 3 ++ rgL (gD (RL 1)) a1 i) n7 f7 0) → va_P D vwCl [(cd, .inr (8, [.ref rq, .ref wt, .ref wq, .ref mi, .ref mo, .ref ft, .ref ot, .ref gt, .ref rd, .ref tq, .ref wr, .ref s1, .ref s2, .int t0, .int t1, .int t2, .int t3])), (rq, .inl (cR, 4, .inr (.inr (.inr (.inr (rqF r0 r1 r2 r3)))))), (r0, .inr (4, [.ref o0, .int (nI n0), .int 0])), (o0, .inl (cI, 4000, .inl f0)), (r1, .inr (4, [.ref o1, .int (nI n1), .int 0])), (o1, .inl (cI, 4000, .inl f1)), (r2, .inr (4, [.ref o2, .int (nI n2), .int 0])), (o2, .inl (cI, 8000, .inl f2)), (r3, .inr (4, [.ref o3, .int (nI n7), .int 0])), (o3, .inl (cI, 8000, .inl f7))] H → va_D A0 [(cd, .inr (8, [.ref rq, .ref wt, .ref wq, .ref mi, .ref mo, .ref ft, .ref ot, .ref gt, .ref rd, .ref tq, .ref wr, .ref s1, .ref s2, .int t0, .int t1, .int t2, .int t3])), (rq, .inl (cR, 4, .inr (.inr (.inr (.inr (rqF r0 r1 r2 r3)))))), (r0, .inr (4, [.ref o0, .int (nI n0), .int 0])), (o0, .inl (cI, 4000, .inl f0)), (r1, .inr (4, [.ref o1, .int (nI n1), .int 0])), (o1, .inl (cI, 4000, .inl f1)), (r2, .inr (4, [.ref o2, .int (nI n2), .int 0])), (o2, .inl (cI, 8000, .inl f2)), (r3, .inr (4, [.ref o3, .int (nI n7), .int 0])), (o3, .inl (cI, 8000, .inl f7))] → va_S A0 s0.heap H locs → lv_has ls 6 [(0, .ref cd), (1, .int (nI 1)), (2, .int (nI a1)), (3, .int (nI m1)), (4, .int (nI 3)), (5, .int (nI i))] → W p0 l e0 ({ frames := 1, cells := 0, slots := 0, locals := 21 }) s0 m0 ([.ref cd, .int x, .int a, .int n, .int y] : List Value).toArray below meth c0 H locs 0 0 Q0 (F0 m0 68 ls []) := by
                    intro k9
                    induction k9 with
                    | zero => intro i n7 f7 H locs ls hk9; exact absurd hk9 (Nat.not_lt_zero _)
                    | succ k9 ih =>
                      intro i n7 f7 H locs ls hk9 him hr7 hP hD hS hl
                      have hlen : (RL 3 ++ rgL (gD (RL 1)) a1 i).length = (RL 3).length + i := by rw [List.length_append, rgL_len]
                      have hw9 := (row_len hr7 (by omega)).1
                      refine lv_iload hx hb dX8_copy_68 (lv_at hl 5 rfl) ?_
                      refine lv_iload_n hx hb dX8_copy_70 rfl (lv_at hl 3 rfl) ?_
                      refine lv_icmp_ge (tgt := 103) hx hb dX8_copy_71 (by decide) (fun c_29 => ?_) (fun c_29 => ?_)
                      · have hi9 : i = m1 := by have := (nI_leI (by omega) (by omega)).mp c_29; omega
                        subst hi9
                        rw [hlen] at hw9
                        subst hw9
                        refine lv_aload_n hx hb dX8_copy_103 rfl (lv_at hl 0 rfl) ?_
                        refine va_get (D := D) (ci := 8) (v := .ref rq) (C := RX8) (T := TX8) (N := 17) hx hb hts in_X8 hown hK hP 0 rfl rfl 0 (by decide) (hts _ kX8_11) (fun _ h9 => h9) rfl dX8_copy_104 ?_
                        refine lv_iload hx hb dX8_copy_107 (lv_at hl 4 rfl) ?_
                        refine ax_rld hx hb hK hP 1 3 rfl rfl 3 (rfl) (by decide) (by decide) rfl dX8_copy_109 ?_
                        refine va_get (D := D) (ci := 4) (v := .int (nI ((RL 3).length + i))) (C := RX4) (T := TX4) (N := 3) hx hb hts in_X4 hown hK hP 8 rfl rfl 1 (by decide) (hts _ kX8_92) (fun _ h9 => h9) rfl dX8_copy_110 ?_
                        exact hret 113 ls _ _ _ (n0, f0, n1, f1, n2, f2, (RL 3).length + i, f7, va_up RL 3 (RL 3 ++ rgL (gD (RL 1)) a1 i)) dX8_copy_113 hP hD hS (⟨hfp, rwOk_3 hrw hr7 (by omega)⟩)
                      · have hi9 : i < m1 := Nat.not_le.mp (fun q => c_29 (nI_le q (by omega)))
                        refine lv_aload_n hx hb dX8_copy_74 rfl (lv_at hl 0 rfl) ?_
                        refine va_get (D := D) (ci := 8) (v := .ref rq) (C := RX8) (T := TX8) (N := 17) hx hb hts in_X8 hown hK hP 0 rfl rfl 0 (by decide) (hts _ kX8_11) (fun _ h9 => h9) rfl dX8_copy_75 ?_
                        refine lv_iload hx hb dX8_copy_78 (lv_at hl 4 rfl) ?_
                        refine ax_rld hx hb hK hP 1 3 rfl rfl 3 (rfl) (by decide) (by decide) rfl dX8_copy_80 ?_
                        refine lv_aload_n hx hb dX8_copy_81 rfl (lv_at hl 0 rfl) ?_
                        refine va_get (D := D) (ci := 8) (v := .ref rq) (C := RX8) (T := TX8) (N := 17) hx hb hts in_X8 hown hK hP 0 rfl rfl 0 (by decide) (hts _ kX8_11) (fun _ h9 => h9) rfl dX8_copy_82 ?_
                        refine lv_iload_n hx hb dX8_copy_85 rfl (lv_at hl 1 rfl) ?_
                        refine ax_rld hx hb hK hP 1 3 rfl rfl 1 (rfl) (by decide) (by decide) rfl dX8_copy_86 ?_
                        refine lv_iload_n hx hb dX8_copy_87 rfl (lv_at hl 2 rfl) ?_
                        refine lv_iload hx hb dX8_copy_88 (lv_at hl 5 rfl) ?_
                        refine lv_iadd hx hb dX8_copy_90 ?_
                        refine ri (y := nI (a1 + i)) (nI_add a1 i) ?_
                        refine jn_i (wr := [(cd, .inr (8, [.ref rq, .ref wt, .ref wq, .ref mi, .ref mo, .ref ft, .ref ot, .ref gt, .ref rd, .ref tq, .ref wr, .ref s1, .ref s2, .int t0, .int t1, .int t2, .int t3])), (rq, .inl (cR, 4, .inr (.inr (.inr (.inr (rqF r0 r1 r2 r3)))))), (r0, .inr (4, [.ref o0, .int (nI n0), .int 0])), (o0, .inl (cI, 4000, .inl f0)), (r2, .inr (4, [.ref o2, .int (nI n2), .int 0])), (o2, .inl (cI, 8000, .inl f2)), (r3, .inr (4, [.ref o3, .int (nI n7), .int 0])), (o3, .inl (cI, 8000, .inl f7))]) hA hP hD hS [4, 5] [0, 1, 2, 3, 6, 7, 8, 9] rfl rfl (by decide) (by decide) (rn_V (As := [.int (nI (a1 + i))]) (rest := [.ref r3]) ⟨hx, hb, hml, hown, hts⟩ (cvV 1 hts zc_yX4_at zi_X4 zm_yX4_at zv_yX4_at kX8_102 (by decide +kernel) rfl rfl ⟨Nat.le_of_ble_eq_true rfl, Nat.le_of_ble_eq_true rfl⟩) (c_Row_at l D cI cB cJ cR r1 o1 4000 n1 f1 0 (nI (a1 + i)) (by decide) (by omega) H.size) hK hNw hMk hA hP hD hS [4, 5] rfl rfl (by decide) 0 rfl rfl rfl rfl hl.1 rfl (Nat.le_of_ble_eq_true rfl) dX8_copy_91 ⟨Nat.le_of_ble_eq_true rfl, Nat.le_of_ble_eq_true rfl⟩) (fun ra u9 H locs hra hP hD hS => ?_)
                        try dsimp only at hra
                        have hP : va_P D vwCl [(cd, .inr (8, [.ref rq, .ref wt, .ref wq, .ref mi, .ref mo, .ref ft, .ref ot, .ref gt, .ref rd, .ref tq, .ref wr, .ref s1, .ref s2, .int t0, .int t1, .int t2, .int t3])), (rq, .inl (cR, 4, .inr (.inr (.inr (.inr (rqF r0 r1 r2 r3)))))), (r0, .inr (4, [.ref o0, .int (nI n0), .int 0])), (o0, .inl (cI, 4000, .inl f0)), (r2, .inr (4, [.ref o2, .int (nI n2), .int 0])), (o2, .inl (cI, 8000, .inl f2)), (r3, .inr (4, [.ref o3, .int (nI n7), .int 0])), (o3, .inl (cI, 8000, .inl f7)), (r1, .inr (4, [.ref o1, .int (nI n1), .int 0])), (o1, .inl (cI, 4000, .inl f1))] H := hP
                        have hD : va_D A0 [(cd, .inr (8, [.ref rq, .ref wt, .ref wq, .ref mi, .ref mo, .ref ft, .ref ot, .ref gt, .ref rd, .ref tq, .ref wr, .ref s1, .ref s2, .int t0, .int t1, .int t2, .int t3])), (rq, .inl (cR, 4, .inr (.inr (.inr (.inr (rqF r0 r1 r2 r3)))))), (r0, .inr (4, [.ref o0, .int (nI n0), .int 0])), (o0, .inl (cI, 4000, .inl f0)), (r2, .inr (4, [.ref o2, .int (nI n2), .int 0])), (o2, .inl (cI, 8000, .inl f2)), (r3, .inr (4, [.ref o3, .int (nI n7), .int 0])), (o3, .inl (cI, 8000, .inl f7)), (r1, .inr (4, [.ref o1, .int (nI n1), .int 0])), (o1, .inl (cI, 4000, .inl f1))] := hD
                        have hv9 : ra = gD (RL 1) (a1 + i) := by rw [hra, if_pos (inB_t (by omega) (by omega)), nI_clamp (by omega)]; exact hr1.2.2 _ (by omega)
                        subst hv9
                        refine jn_v (wr := [(cd, .inr (8, [.ref rq, .ref wt, .ref wq, .ref mi, .ref mo, .ref ft, .ref ot, .ref gt, .ref rd, .ref tq, .ref wr, .ref s1, .ref s2, .int t0, .int t1, .int t2, .int t3])), (rq, .inl (cR, 4, .inr (.inr (.inr (.inr (rqF r0 r1 r2 r3)))))), (r0, .inr (4, [.ref o0, .int (nI n0), .int 0])), (o0, .inl (cI, 4000, .inl f0)), (r2, .inr (4, [.ref o2, .int (nI n2), .int 0])), (o2, .inl (cI, 8000, .inl f2)), (r1, .inr (4, [.ref o1, .int (nI n1), .int 0])), (o1, .inl (cI, 4000, .inl f1))]) hA hP hD hS [6, 7] [0, 1, 2, 3, 4, 5, 8, 9] rfl rfl (by decide) (by decide) (rn_V (As := [.int (gD (RL 1) (a1 + i))]) (rest := []) ⟨hx, hb, hml, hown, hts⟩ (cvV 1 hts zc_yX4_put zi_X4 zm_yX4_put zv_yX4_put kX8_89 (by decide +kernel) rfl rfl ⟨Nat.le_of_ble_eq_true rfl, Nat.le_of_ble_eq_true rfl⟩) (c_Row_put l D cI cB cJ cR r3 o3 8000 n7 f7 0 (RL 3 ++ rgL (gD (RL 1)) a1 i) (gD (RL 1) (a1 + i)) (by decide) (hr7) H.size) hK hNw hMk hA hP hD hS [6, 7] rfl rfl (by decide) 0 rfl rfl rfl rfl hl.1 rfl (Nat.le_of_ble_eq_true rfl) dX8_copy_94 ⟨Nat.le_of_ble_eq_true rfl, Nat.le_of_ble_eq_true rfl⟩) (fun u9 H locs hpu hP hD hS => ?_)
                        obtain ⟨n8, f8, v8⟩ := u9
                        try dsimp only at hpu
                        have hP : va_P D vwCl [(cd, .inr (8, [.ref rq, .ref wt, .ref wq, .ref mi, .ref mo, .ref ft, .ref ot, .ref gt, .ref rd, .ref tq, .ref wr, .ref s1, .ref s2, .int t0, .int t1, .int t2, .int t3])), (rq, .inl (cR, 4, .inr (.inr (.inr (.inr (rqF r0 r1 r2 r3)))))), (r0, .inr (4, [.ref o0, .int (nI n0), .int 0])), (o0, .inl (cI, 4000, .inl f0)), (r2, .inr (4, [.ref o2, .int (nI n2), .int 0])), (o2, .inl (cI, 8000, .inl f2)), (r1, .inr (4, [.ref o1, .int (nI n1), .int 0])), (o1, .inl (cI, 4000, .inl f1)), (r3, .inr (4, [.ref o3, .int (nI n8), .int v8])), (o3, .inl (cI, 8000, .inl f8))] H := hP
                        have hD : va_D A0 [(cd, .inr (8, [.ref rq, .ref wt, .ref wq, .ref mi, .ref mo, .ref ft, .ref ot, .ref gt, .ref rd, .ref tq, .ref wr, .ref s1, .ref s2, .int t0, .int t1, .int t2, .int t3])), (rq, .inl (cR, 4, .inr (.inr (.inr (.inr (rqF r0 r1 r2 r3)))))), (r0, .inr (4, [.ref o0, .int (nI n0), .int 0])), (o0, .inl (cI, 4000, .inl f0)), (r2, .inr (4, [.ref o2, .int (nI n2), .int 0])), (o2, .inl (cI, 8000, .inl f2)), (r1, .inr (4, [.ref o1, .int (nI n1), .int 0])), (o1, .inl (cI, 4000, .inl f1)), (r3, .inr (4, [.ref o3, .int (nI n8), .int v8])), (o3, .inl (cI, 8000, .inl f8))] := hD
                        have hv8 := (row_len hpu (by rw [List.length_append, hlen]; show _ + 1 ≤ _; omega)).2
                        subst hv8
                        rw [List.append_assoc] at hpu
                        refine lv_iinc (v := nI (i + 1)) (lv' := [(5, .int (nI (i + 1))), (0, .ref cd), (1, .int (nI 1)), (2, .int (nI a1)), (3, .int (nI m1)), (4, .int (nI 3))]) hx hb dX8_copy_97 hl (k := 5) rfl (nI_add i 1) (by decide) rfl (fun ls hl => ?_)
                        refine lv_goto (tgt := 68) hx hb dX8_copy_100 (by decide) ?_
                        exact ih (i + 1) n8 f8 _ _ ls (by omega) (by omega) (hpu) (hP.sub [0, 1, 2, 3, 6, 7, 4, 5, 8, 9] rfl) (hD.sub [0, 1, 2, 3, 6, 7, 4, 5, 8, 9] (by decide) rfl) hS (lv_sub hl [1, 2, 3, 4, 5, 0] rfl)
                  exact loop _ 0 n3 f3 _ _ ls (Nat.lt_succ_self _) (Nat.zero_le _) (by rw [rgL, List.append_nil]; exact hr3) hP hD hS (lv_sub hl [1, 2, 3, 4, 5, 0] rfl)
                · have hf9 : 8000 < (RL 3).length + m1 := by have := Nat.not_le.mp (fun q => c_28 (nI_le q (by omega))); omega
                  rw [if_pos (show rmN 3 < (RL 3).length + m1 from hf9)] at hfp
                  refine lv_bipush (v := -4) hx hb dX8_copy_62 (by decide) ?_
                  exact hret 64 ls _ _ _ (n0, f0, n1, f1, n2, f2, n3, f3, RL) dX8_copy_64 hP hD hS (⟨hfp, hrw⟩)
            · have ho9 : (RL 1).length < a1 + m1 := by have := Nat.not_le.mp (fun z => c_18 ((lg_cmp_le _ _).mpr ((pk_lLE (by omega) (by omega)).mpr z))); omega
              refine lv_bipush (v := -2) hx hb dX8_copy_45 (by decide) ?_
              exact hret 47 ls _ _ _ (n0, f0, n1, f1, n2, f2, n3, f3, RL) dX8_copy_47 hP hD hS (⟨by rw [cpyP, if_pos (Or.inr (Or.inr (Or.inr (Or.inr (by rw [hx1, hae, hme, nI_clamp (by decide), nI_clamp ha1, nI_clamp hm1]; exact ho9)))))], hrw⟩)
          · have hnx9 := rw_n2 hrw
            obtain ⟨hr0, hr1, hr2, hr3, hl0, hl1, hl2, hl3⟩ := id hrw
            rw [hx2] at hl
            refine lv_iload_n hx hb dX8_copy_26 rfl (lv_at hl 2 rfl) ?_
            refine lv_i2l hx hb dX8_copy_27 (v := (nI a1).toInt64) rfl ?_
            refine rl (y := lN a1) (nI_l (by omega)) ?_
            refine lv_iload_n hx hb dX8_copy_28 rfl (lv_at hl 3 rfl) ?_
            refine lv_i2l hx hb dX8_copy_29 (v := (nI m1).toInt64) rfl ?_
            refine rl (y := lN m1) (nI_l (by omega)) ?_
            refine lv_ladd hx hb dX8_copy_30 ?_
            refine rl (y := lN (a1 + m1)) (lN_add _ _) ?_
            refine lv_aload_n hx hb dX8_copy_31 rfl (lv_at hl 0 rfl) ?_
            refine va_get (D := D) (ci := 8) (v := .ref rq) (C := RX8) (T := TX8) (N := 17) hx hb hts in_X8 hown hK hP 0 rfl rfl 0 (by decide) (hts _ kX8_11) (fun _ h9 => h9) rfl dX8_copy_32 ?_
            refine lv_iload_n hx hb dX8_copy_35 rfl (lv_at hl 1 rfl) ?_
            refine ax_rld hx hb hK hP 1 3 rfl rfl 2 (rfl) (by decide) (by decide) rfl dX8_copy_36 ?_
            refine va_get (D := D) (ci := 4) (v := .int (nI n2)) (C := RX4) (T := TX4) (N := 3) hx hb hts in_X4 hown hK hP 6 rfl rfl 1 (by decide) (hts _ kX8_92) (fun _ h9 => h9) rfl dX8_copy_37 ?_
            refine lv_i2l hx hb dX8_copy_40 (v := (nI n2).toInt64) rfl ?_
            refine rl (y := lN n2) (nI_l (by omega)) ?_
            refine W.lcmp hx hb dX8_copy_41 ?_
            refine lv_if_le (tgt := 48) hx hb dX8_copy_42 (by decide) (fun c_31 => ?_) (fun c_31 => ?_)
            · have ho9 : ¬ (RL 2).length < a1 + m1 := by have := (pk_lLE (by omega) (by omega)).mp ((lg_cmp_le _ _).mp c_31); omega
              rcases isR_of hyr with hy0 | hy1 | hy2 | hy3
              · have hny9 := rw_n0 hrw
                rw [hy0] at hl
                have hfp := cpyP_in (k := 2) (j := 0) (RL := RL) (by decide) (by decide) ha1 hm1
                have hfp : cpyP x a n y RL = _ := (by rw [hx2, hy0, hae, hme] : cpyP x a n y RL = cpyP (nI 2) (nI a1) (nI m1) (nI 0) RL).trans hfp
                rw [if_neg ho9] at hfp
                refine lv_iload_n hx hb dX8_copy_48 rfl (lv_at hl 3 rfl) ?_
                refine lv_aload_n hx hb dX8_copy_49 rfl (lv_at hl 0 rfl) ?_
                refine va_get (D := D) (ci := 8) (v := .ref rq) (C := RX8) (T := TX8) (N := 17) hx hb hts in_X8 hown hK hP 0 rfl rfl 0 (by decide) (hts _ kX8_11) (fun _ h9 => h9) rfl dX8_copy_50 ?_
                refine lv_iload hx hb dX8_copy_53 (lv_at hl 4 rfl) ?_
                refine ax_rld hx hb hK hP 1 3 rfl rfl 0 (rfl) (by decide) (by decide) rfl dX8_copy_55 ?_
                refine jn_i (wr := [(cd, .inr (8, [.ref rq, .ref wt, .ref wq, .ref mi, .ref mo, .ref ft, .ref ot, .ref gt, .ref rd, .ref tq, .ref wr, .ref s1, .ref s2, .int t0, .int t1, .int t2, .int t3])), (rq, .inl (cR, 4, .inr (.inr (.inr (.inr (rqF r0 r1 r2 r3)))))), (r1, .inr (4, [.ref o1, .int (nI n1), .int 0])), (o1, .inl (cI, 4000, .inl f1)), (r2, .inr (4, [.ref o2, .int (nI n2), .int 0])), (o2, .inl (cI, 8000, .inl f2)), (r3, .inr (4, [.ref o3, .int (nI n3), .int 0])), (o3, .inl (cI, 8000, .inl f3))]) hA hP hD hS [2, 3] [0, 1, 4, 5, 6, 7, 8, 9] rfl rfl (by decide) (by decide) (rn_V (As := []) (rest := [.int (nI m1)]) ⟨hx, hb, hml, hown, hts⟩ (cvV 0 hts zc_yX4_room zi_X4 zm_yX4_room zv_yX4_room kX8_85 (by decide +kernel) rfl rfl ⟨Nat.le_of_ble_eq_true rfl, Nat.le_of_ble_eq_true rfl⟩) (c_Row_room l D cI cB cJ cR r0 o0 4000 n0 f0 0 (by decide) (hny9.2) H.size) hK hNw hMk hA hP hD hS [2, 3] rfl rfl (by decide) 0 rfl rfl rfl rfl hl.1 rfl (Nat.le_of_ble_eq_true rfl) dX8_copy_56 ⟨Nat.le_of_ble_eq_true rfl, Nat.le_of_ble_eq_true rfl⟩) (fun rm u9 H locs hrm hP hD hS => ?_)
                try dsimp only at hrm
                have hP : va_P D vwCl [(cd, .inr (8, [.ref rq, .ref wt, .ref wq, .ref mi, .ref mo, .ref ft, .ref ot, .ref gt, .ref rd, .ref tq, .ref wr, .ref s1, .ref s2, .int t0, .int t1, .int t2, .int t3])), (rq, .inl (cR, 4, .inr (.inr (.inr (.inr (rqF r0 r1 r2 r3)))))), (r1, .inr (4, [.ref o1, .int (nI n1), .int 0])), (o1, .inl (cI, 4000, .inl f1)), (r2, .inr (4, [.ref o2, .int (nI n2), .int 0])), (o2, .inl (cI, 8000, .inl f2)), (r3, .inr (4, [.ref o3, .int (nI n3), .int 0])), (o3, .inl (cI, 8000, .inl f3)), (r0, .inr (4, [.ref o0, .int (nI n0), .int 0])), (o0, .inl (cI, 4000, .inl f0))] H := hP
                have hD : va_D A0 [(cd, .inr (8, [.ref rq, .ref wt, .ref wq, .ref mi, .ref mo, .ref ft, .ref ot, .ref gt, .ref rd, .ref tq, .ref wr, .ref s1, .ref s2, .int t0, .int t1, .int t2, .int t3])), (rq, .inl (cR, 4, .inr (.inr (.inr (.inr (rqF r0 r1 r2 r3)))))), (r1, .inr (4, [.ref o1, .int (nI n1), .int 0])), (o1, .inl (cI, 4000, .inl f1)), (r2, .inr (4, [.ref o2, .int (nI n2), .int 0])), (o2, .inl (cI, 8000, .inl f2)), (r3, .inr (4, [.ref o3, .int (nI n3), .int 0])), (o3, .inl (cI, 8000, .inl f3)), (r0, .inr (4, [.ref o0, .int (nI n0), .int 0])), (o0, .inl (cI, 4000, .inl f0))] := hD
                subst hrm
                refine lv_icmp_le (tgt := 65) hx hb dX8_copy_59 (by decide) (fun c_32 => ?_) (fun c_32 => ?_)
                · have hf9 : ¬ 4000 < (RL 0).length + m1 := by have := (nI_leI (by omega) (by omega)).mp c_32; omega
                  rw [if_neg (show ¬ rmN 0 < (RL 0).length + m1 from hf9)] at hfp
                  refine lv_iconst (v := 0) hx hb dX8_copy_65 (by decide) ?_
                  refine ri (y := nI 0) (nI_0.symm) ?_
                  refine lv_istore (lv' := [(5, .int (nI 0)), (0, .ref cd), (1, .int (nI 2)), (2, .int (nI a1)), (3, .int (nI m1)), (4, .int (nI 0))]) hx hb dX8_copy_66 hl (by decide) rfl (fun ls hl => ?_)
                  have loop : ∀ (k9 : Nat) (i : Nat) (n7 : Nat) (f7 : Nat → Int32) (H : Heap) (locs : List Loc) (ls : Array Slot), m1 - i < k9 → (i ≤ m1) → (rowIs 4000 (RL 0 ++ rgL (gD (RL 2)) a1 i) n7 f7 0) → va_P D vwCl [(cd, .inr (8, [.ref rq, .ref wt, .ref wq, .ref mi, .ref mo, .ref ft, .ref ot, .ref gt, .ref rd, .ref tq, .ref wr, .ref s1, .ref s2, .int t0, .int t1, .int t2, .int t3])), (rq, .inl (cR, 4, .inr (.inr (.inr (.inr (rqF r0 r1 r2 r3)))))), (r0, .inr (4, [.ref o0, .int (nI n7), .int 0])), (o0, .inl (cI, 4000, .inl f7)), (r1, .inr (4, [.ref o1, .int (nI n1), .int 0])), (o1, .inl (cI, 4000, .inl f1)), (r2, .inr (4, [.ref o2, .int (nI n2), .int 0])), (o2, .inl (cI, 8000, .inl f2)), (r3, .inr (4, [.ref o3, .int (nI n3), .int 0])), (o3, .inl (cI, 8000, .inl f3))] H → va_D A0 [(cd, .inr (8, [.ref rq, .ref wt, .ref wq, .ref mi, .ref mo, .ref ft, .ref ot, .ref gt, .ref rd, .ref tq, .ref wr, .ref s1, .ref s2, .int t0, .int t1, .int t2, .int t3])), (rq, .inl (cR, 4, .inr (.inr (.inr (.inr (rqF r0 r1 r2 r3)))))), (r0, .inr (4, [.ref o0, .int (nI n7), .int 0])), (o0, .inl (cI, 4000, .inl f7)), (r1, .inr (4, [.ref o1, .int (nI n1), .int 0])), (o1, .inl (cI, 4000, .inl f1)), (r2, .inr (4, [.ref o2, .int (nI n2), .int 0])), (o2, .inl (cI, 8000, .inl f2)), (r3, .inr (4, [.ref o3, .int (nI n3), .int 0])), (o3, .inl (cI, 8000, .inl f3))] → va_S A0 s0.heap H locs → lv_has ls 6 [(0, .ref cd), (1, .int (nI 2)), (2, .int (nI a1)), (3, .int (nI m1)), (4, .int (nI 0)), (5, .int (nI i))] → W p0 l e0 ({ frames := 1, cells := 0, slots := 0, locals := 21 }) s0 m0 ([.ref cd, .int x, .int a, .int n, .int y] : List Value).toArray below meth c0 H locs 0 0 Q0 (F0 m0 68 ls []) := by
                    intro k9
                    induction k9 with
                    | zero => intro i n7 f7 H locs ls hk9; exact absurd hk9 (Nat.not_lt_zero _)
                    | succ k9 ih =>
                      intro i n7 f7 H locs ls hk9 him hr7 hP hD hS hl
                      have hlen : (RL 0 ++ rgL (gD (RL 2)) a1 i).length = (RL 0).length + i := by rw [List.length_append, rgL_len]
                      have hw9 := (row_len hr7 (by omega)).1
                      refine lv_iload hx hb dX8_copy_68 (lv_at hl 5 rfl) ?_
                      refine lv_iload_n hx hb dX8_copy_70 rfl (lv_at hl 3 rfl) ?_
                      refine lv_icmp_ge (tgt := 103) hx hb dX8_copy_71 (by decide) (fun c_33 => ?_) (fun c_33 => ?_)
                      · have hi9 : i = m1 := by have := (nI_leI (by omega) (by omega)).mp c_33; omega
                        subst hi9
                        rw [hlen] at hw9
                        subst hw9
                        refine lv_aload_n hx hb dX8_copy_103 rfl (lv_at hl 0 rfl) ?_
                        refine va_get (D := D) (ci := 8) (v := .ref rq) (C := RX8) (T := TX8) (N := 17) hx hb hts in_X8 hown hK hP 0 rfl rfl 0 (by decide) (hts _ kX8_11) (fun _ h9 => h9) rfl dX8_copy_104 ?_
                        refine lv_iload hx hb dX8_copy_107 (lv_at hl 4 rfl) ?_
                        refine ax_rld hx hb hK hP 1 3 rfl rfl 0 (rfl) (by decide) (by decide) rfl dX8_copy_109 ?_
                        refine va_get (D := D) (ci := 4) (v := .int (nI ((RL 0).length + i))) (C := RX4) (T := TX4) (N := 3) hx hb hts in_X4 hown hK hP 2 rfl rfl 1 (by decide) (hts _ kX8_92) (fun _ h9 => h9) rfl dX8_copy_110 ?_
                        exact hret 113 ls _ _ _ ((RL 0).length + i, f7, n1, f1, n2, f2, n3, f3, va_up RL 0 (RL 0 ++ rgL (gD (RL 2)) a1 i)) dX8_copy_113 hP hD hS (⟨hfp, rwOk_0 hrw hr7 (by omega)⟩)
                      · have hi9 : i < m1 := Nat.not_le.mp (fun q => c_33 (nI_le q (by omega)))
                        refine lv_aload_n hx hb dX8_copy_74 rfl (lv_at hl 0 rfl) ?_
                        refine va_get (D := D) (ci := 8) (v := .ref rq) (C := RX8) (T := TX8) (N := 17) hx hb hts in_X8 hown hK hP 0 rfl rfl 0 (by decide) (hts _ kX8_11) (fun _ h9 => h9) rfl dX8_copy_75 ?_
                        refine lv_iload hx hb dX8_copy_78 (lv_at hl 4 rfl) ?_
                        refine ax_rld hx hb hK hP 1 3 rfl rfl 0 (rfl) (by decide) (by decide) rfl dX8_copy_80 ?_
                        refine lv_aload_n hx hb dX8_copy_81 rfl (lv_at hl 0 rfl) ?_
                        refine va_get (D := D) (ci := 8) (v := .ref rq) (C := RX8) (T := TX8) (N := 17) hx hb hts in_X8 hown hK hP 0 rfl rfl 0 (by decide) (hts _ kX8_11) (fun _ h9 => h9) rfl dX8_copy_82 ?_
                        refine lv_iload_n hx hb dX8_copy_85 rfl (lv_at hl 1 rfl) ?_
                        refine ax_rld hx hb hK hP 1 3 rfl rfl 2 (rfl) (by decide) (by decide) rfl dX8_copy_86 ?_
                        refine lv_iload_n hx hb dX8_copy_87 rfl (lv_at hl 2 rfl) ?_
                        refine lv_iload hx hb dX8_copy_88 (lv_at hl 5 rfl) ?_
                        refine lv_iadd hx hb dX8_copy_90 ?_
                        refine ri (y := nI (a1 + i)) (nI_add a1 i) ?_
                        refine jn_i (wr := [(cd, .inr (8, [.ref rq, .ref wt, .ref wq, .ref mi, .ref mo, .ref ft, .ref ot, .ref gt, .ref rd, .ref tq, .ref wr, .ref s1, .ref s2, .int t0, .int t1, .int t2, .int t3])), (rq, .inl (cR, 4, .inr (.inr (.inr (.inr (rqF r0 r1 r2 r3)))))), (r0, .inr (4, [.ref o0, .int (nI n7), .int 0])), (o0, .inl (cI, 4000, .inl f7)), (r1, .inr (4, [.ref o1, .int (nI n1), .int 0])), (o1, .inl (cI, 4000, .inl f1)), (r3, .inr (4, [.ref o3, .int (nI n3), .int 0])), (o3, .inl (cI, 8000, .inl f3))]) hA hP hD hS [6, 7] [0, 1, 2, 3, 4, 5, 8, 9] rfl rfl (by decide) (by decide) (rn_V (As := [.int (nI (a1 + i))]) (rest := [.ref r0]) ⟨hx, hb, hml, hown, hts⟩ (cvV 1 hts zc_yX4_at zi_X4 zm_yX4_at zv_yX4_at kX8_102 (by decide +kernel) rfl rfl ⟨Nat.le_of_ble_eq_true rfl, Nat.le_of_ble_eq_true rfl⟩) (c_Row_at l D cI cB cJ cR r2 o2 8000 n2 f2 0 (nI (a1 + i)) (by decide) (by omega) H.size) hK hNw hMk hA hP hD hS [6, 7] rfl rfl (by decide) 0 rfl rfl rfl rfl hl.1 rfl (Nat.le_of_ble_eq_true rfl) dX8_copy_91 ⟨Nat.le_of_ble_eq_true rfl, Nat.le_of_ble_eq_true rfl⟩) (fun ra u9 H locs hra hP hD hS => ?_)
                        try dsimp only at hra
                        have hP : va_P D vwCl [(cd, .inr (8, [.ref rq, .ref wt, .ref wq, .ref mi, .ref mo, .ref ft, .ref ot, .ref gt, .ref rd, .ref tq, .ref wr, .ref s1, .ref s2, .int t0, .int t1, .int t2, .int t3])), (rq, .inl (cR, 4, .inr (.inr (.inr (.inr (rqF r0 r1 r2 r3)))))), (r0, .inr (4, [.ref o0, .int (nI n7), .int 0])), (o0, .inl (cI, 4000, .inl f7)), (r1, .inr (4, [.ref o1, .int (nI n1), .int 0])), (o1, .inl (cI, 4000, .inl f1)), (r3, .inr (4, [.ref o3, .int (nI n3), .int 0])), (o3, .inl (cI, 8000, .inl f3)), (r2, .inr (4, [.ref o2, .int (nI n2), .int 0])), (o2, .inl (cI, 8000, .inl f2))] H := hP
                        have hD : va_D A0 [(cd, .inr (8, [.ref rq, .ref wt, .ref wq, .ref mi, .ref mo, .ref ft, .ref ot, .ref gt, .ref rd, .ref tq, .ref wr, .ref s1, .ref s2, .int t0, .int t1, .int t2, .int t3])), (rq, .inl (cR, 4, .inr (.inr (.inr (.inr (rqF r0 r1 r2 r3)))))), (r0, .inr (4, [.ref o0, .int (nI n7), .int 0])), (o0, .inl (cI, 4000, .inl f7)), (r1, .inr (4, [.ref o1, .int (nI n1), .int 0])), (o1, .inl (cI, 4000, .inl f1)), (r3, .inr (4, [.ref o3, .int (nI n3), .int 0])), (o3, .inl (cI, 8000, .inl f3)), (r2, .inr (4, [.ref o2, .int (nI n2), .int 0])), (o2, .inl (cI, 8000, .inl f2))] := hD
                        have hv9 : ra = gD (RL 2) (a1 + i) := by rw [hra, if_pos (inB_t (by omega) (by omega)), nI_clamp (by omega)]; exact hr2.2.2 _ (by omega)
                        subst hv9
                        refine jn_v (wr := [(cd, .inr (8, [.ref rq, .ref wt, .ref wq, .ref mi, .ref mo, .ref ft, .ref ot, .ref gt, .ref rd, .ref tq, .ref wr, .ref s1, .ref s2, .int t0, .int t1, .int t2, .int t3])), (rq, .inl (cR, 4, .inr (.inr (.inr (.inr (rqF r0 r1 r2 r3)))))), (r1, .inr (4, [.ref o1, .int (nI n1), .int 0])), (o1, .inl (cI, 4000, .inl f1)), (r3, .inr (4, [.ref o3, .int (nI n3), .int 0])), (o3, .inl (cI, 8000, .inl f3)), (r2, .inr (4, [.ref o2, .int (nI n2), .int 0])), (o2, .inl (cI, 8000, .inl f2))]) hA hP hD hS [2, 3] [0, 1, 4, 5, 6, 7, 8, 9] rfl rfl (by decide) (by decide) (rn_V (As := [.int (gD (RL 2) (a1 + i))]) (rest := []) ⟨hx, hb, hml, hown, hts⟩ (cvV 1 hts zc_yX4_put zi_X4 zm_yX4_put zv_yX4_put kX8_89 (by decide +kernel) rfl rfl ⟨Nat.le_of_ble_eq_true rfl, Nat.le_of_ble_eq_true rfl⟩) (c_Row_put l D cI cB cJ cR r0 o0 4000 n7 f7 0 (RL 0 ++ rgL (gD (RL 2)) a1 i) (gD (RL 2) (a1 + i)) (by decide) (hr7) H.size) hK hNw hMk hA hP hD hS [2, 3] rfl rfl (by decide) 0 rfl rfl rfl rfl hl.1 rfl (Nat.le_of_ble_eq_true rfl) dX8_copy_94 ⟨Nat.le_of_ble_eq_true rfl, Nat.le_of_ble_eq_true rfl⟩) (fun u9 H locs hpu hP hD hS => ?_)
                        obtain ⟨n8, f8, v8⟩ := u9
                        try dsimp only at hpu
                        have hP : va_P D vwCl [(cd, .inr (8, [.ref rq, .ref wt, .ref wq, .ref mi, .ref mo, .ref ft, .ref ot, .ref gt, .ref rd, .ref tq, .ref wr, .ref s1, .ref s2, .int t0, .int t1, .int t2, .int t3])), (rq, .inl (cR, 4, .inr (.inr (.inr (.inr (rqF r0 r1 r2 r3)))))), (r1, .inr (4, [.ref o1, .int (nI n1), .int 0])), (o1, .inl (cI, 4000, .inl f1)), (r3, .inr (4, [.ref o3, .int (nI n3), .int 0])), (o3, .inl (cI, 8000, .inl f3)), (r2, .inr (4, [.ref o2, .int (nI n2), .int 0])), (o2, .inl (cI, 8000, .inl f2)), (r0, .inr (4, [.ref o0, .int (nI n8), .int v8])), (o0, .inl (cI, 4000, .inl f8))] H := hP
                        have hD : va_D A0 [(cd, .inr (8, [.ref rq, .ref wt, .ref wq, .ref mi, .ref mo, .ref ft, .ref ot, .ref gt, .ref rd, .ref tq, .ref wr, .ref s1, .ref s2, .int t0, .int t1, .int t2, .int t3])), (rq, .inl (cR, 4, .inr (.inr (.inr (.inr (rqF r0 r1 r2 r3)))))), (r1, .inr (4, [.ref o1, .int (nI n1), .int 0])), (o1, .inl (cI, 4000, .inl f1)), (r3, .inr (4, [.ref o3, .int (nI n3), .int 0])), (o3, .inl (cI, 8000, .inl f3)), (r2, .inr (4, [.ref o2, .int (nI n2), .int 0])), (o2, .inl (cI, 8000, .inl f2)), (r0, .inr (4, [.ref o0, .int (nI n8), .int v8])), (o0, .inl (cI, 4000, .inl f8))] := hD
                        have hv8 := (row_len hpu (by rw [List.length_append, hlen]; show _ + 1 ≤ _; omega)).2
                        subst hv8
                        rw [List.append_assoc] at hpu
                        refine lv_iinc (v := nI (i + 1)) (lv' := [(5, .int (nI (i + 1))), (0, .ref cd), (1, .int (nI 2)), (2, .int (nI a1)), (3, .int (nI m1)), (4, .int (nI 0))]) hx hb dX8_copy_97 hl (k := 5) rfl (nI_add i 1) (by decide) rfl (fun ls hl => ?_)
                        refine lv_goto (tgt := 68) hx hb dX8_copy_100 (by decide) ?_
                        exact ih (i + 1) n8 f8 _ _ ls (by omega) (by omega) (hpu) (hP.sub [0, 1, 8, 9, 2, 3, 6, 7, 4, 5] rfl) (hD.sub [0, 1, 8, 9, 2, 3, 6, 7, 4, 5] (by decide) rfl) hS (lv_sub hl [1, 2, 3, 4, 5, 0] rfl)
                  exact loop _ 0 n0 f0 _ _ ls (Nat.lt_succ_self _) (Nat.zero_le _) (by rw [rgL, List.append_nil]; exact hr0) (hP.sub [0, 1, 8, 9, 2, 3, 4, 5, 6, 7] rfl) (hD.sub [0, 1, 8, 9, 2, 3, 4, 5, 6, 7] (by decide) rfl) hS (lv_sub hl [1, 2, 3, 4, 5, 0] rfl)
                · have hf9 : 4000 < (RL 0).length + m1 := by have := Nat.not_le.mp (fun q => c_32 (nI_le q (by omega))); omega
                  rw [if_pos (show rmN 0 < (RL 0).length + m1 from hf9)] at hfp
                  refine lv_bipush (v := -4) hx hb dX8_copy_62 (by decide) ?_
                  have hP := hP.sub (ws' := [(cd, .inr (8, [.ref rq, .ref wt, .ref wq, .ref mi, .ref mo, .ref ft, .ref ot, .ref gt, .ref rd, .ref tq, .ref wr, .ref s1, .ref s2, .int t0, .int t1, .int t2, .int t3])), (rq, .inl (cR, 4, .inr (.inr (.inr (.inr (rqF r0 r1 r2 r3)))))), (r0, .inr (4, [.ref o0, .int (nI n0), .int 0])), (o0, .inl (cI, 4000, .inl f0)), (r1, .inr (4, [.ref o1, .int (nI n1), .int 0])), (o1, .inl (cI, 4000, .inl f1)), (r2, .inr (4, [.ref o2, .int (nI n2), .int 0])), (o2, .inl (cI, 8000, .inl f2)), (r3, .inr (4, [.ref o3, .int (nI n3), .int 0])), (o3, .inl (cI, 8000, .inl f3))]) [0, 1, 8, 9, 2, 3, 4, 5, 6, 7] rfl
                  have hD := hD.sub (ws' := [(cd, .inr (8, [.ref rq, .ref wt, .ref wq, .ref mi, .ref mo, .ref ft, .ref ot, .ref gt, .ref rd, .ref tq, .ref wr, .ref s1, .ref s2, .int t0, .int t1, .int t2, .int t3])), (rq, .inl (cR, 4, .inr (.inr (.inr (.inr (rqF r0 r1 r2 r3)))))), (r0, .inr (4, [.ref o0, .int (nI n0), .int 0])), (o0, .inl (cI, 4000, .inl f0)), (r1, .inr (4, [.ref o1, .int (nI n1), .int 0])), (o1, .inl (cI, 4000, .inl f1)), (r2, .inr (4, [.ref o2, .int (nI n2), .int 0])), (o2, .inl (cI, 8000, .inl f2)), (r3, .inr (4, [.ref o3, .int (nI n3), .int 0])), (o3, .inl (cI, 8000, .inl f3))]) [0, 1, 8, 9, 2, 3, 4, 5, 6, 7] (by decide) rfl
                  exact hret 64 ls _ _ _ (n0, f0, n1, f1, n2, f2, n3, f3, RL) dX8_copy_64 hP hD hS (⟨hfp, hrw⟩)
              · have hny9 := rw_n1 hrw
                rw [hy1] at hl
                have hfp := cpyP_in (k := 2) (j := 1) (RL := RL) (by decide) (by decide) ha1 hm1
                have hfp : cpyP x a n y RL = _ := (by rw [hx2, hy1, hae, hme] : cpyP x a n y RL = cpyP (nI 2) (nI a1) (nI m1) (nI 1) RL).trans hfp
                rw [if_neg ho9] at hfp
                refine lv_iload_n hx hb dX8_copy_48 rfl (lv_at hl 3 rfl) ?_
                refine lv_aload_n hx hb dX8_copy_49 rfl (lv_at hl 0 rfl) ?_
                refine va_get (D := D) (ci := 8) (v := .ref rq) (C := RX8) (T := TX8) (N := 17) hx hb hts in_X8 hown hK hP 0 rfl rfl 0 (by decide) (hts _ kX8_11) (fun _ h9 => h9) rfl dX8_copy_50 ?_
                refine lv_iload hx hb dX8_copy_53 (lv_at hl 4 rfl) ?_
                refine ax_rld hx hb hK hP 1 3 rfl rfl 1 (rfl) (by decide) (by decide) rfl dX8_copy_55 ?_
                refine jn_i (wr := [(cd, .inr (8, [.ref rq, .ref wt, .ref wq, .ref mi, .ref mo, .ref ft, .ref ot, .ref gt, .ref rd, .ref tq, .ref wr, .ref s1, .ref s2, .int t0, .int t1, .int t2, .int t3])), (rq, .inl (cR, 4, .inr (.inr (.inr (.inr (rqF r0 r1 r2 r3)))))), (r0, .inr (4, [.ref o0, .int (nI n0), .int 0])), (o0, .inl (cI, 4000, .inl f0)), (r2, .inr (4, [.ref o2, .int (nI n2), .int 0])), (o2, .inl (cI, 8000, .inl f2)), (r3, .inr (4, [.ref o3, .int (nI n3), .int 0])), (o3, .inl (cI, 8000, .inl f3))]) hA hP hD hS [4, 5] [0, 1, 2, 3, 6, 7, 8, 9] rfl rfl (by decide) (by decide) (rn_V (As := []) (rest := [.int (nI m1)]) ⟨hx, hb, hml, hown, hts⟩ (cvV 0 hts zc_yX4_room zi_X4 zm_yX4_room zv_yX4_room kX8_85 (by decide +kernel) rfl rfl ⟨Nat.le_of_ble_eq_true rfl, Nat.le_of_ble_eq_true rfl⟩) (c_Row_room l D cI cB cJ cR r1 o1 4000 n1 f1 0 (by decide) (hny9.2) H.size) hK hNw hMk hA hP hD hS [4, 5] rfl rfl (by decide) 0 rfl rfl rfl rfl hl.1 rfl (Nat.le_of_ble_eq_true rfl) dX8_copy_56 ⟨Nat.le_of_ble_eq_true rfl, Nat.le_of_ble_eq_true rfl⟩) (fun rm u9 H locs hrm hP hD hS => ?_)
                try dsimp only at hrm
                have hP : va_P D vwCl [(cd, .inr (8, [.ref rq, .ref wt, .ref wq, .ref mi, .ref mo, .ref ft, .ref ot, .ref gt, .ref rd, .ref tq, .ref wr, .ref s1, .ref s2, .int t0, .int t1, .int t2, .int t3])), (rq, .inl (cR, 4, .inr (.inr (.inr (.inr (rqF r0 r1 r2 r3)))))), (r0, .inr (4, [.ref o0, .int (nI n0), .int 0])), (o0, .inl (cI, 4000, .inl f0)), (r2, .inr (4, [.ref o2, .int (nI n2), .int 0])), (o2, .inl (cI, 8000, .inl f2)), (r3, .inr (4, [.ref o3, .int (nI n3), .int 0])), (o3, .inl (cI, 8000, .inl f3)), (r1, .inr (4, [.ref o1, .int (nI n1), .int 0])), (o1, .inl (cI, 4000, .inl f1))] H := hP
                have hD : va_D A0 [(cd, .inr (8, [.ref rq, .ref wt, .ref wq, .ref mi, .ref mo, .ref ft, .ref ot, .ref gt, .ref rd, .ref tq, .ref wr, .ref s1, .ref s2, .int t0, .int t1, .int t2, .int t3])), (rq, .inl (cR, 4, .inr (.inr (.inr (.inr (rqF r0 r1 r2 r3)))))), (r0, .inr (4, [.ref o0, .int (nI n0), .int 0])), (o0, .inl (cI, 4000, .inl f0)), (r2, .inr (4, [.ref o2, .int (nI n2), .int 0])), (o2, .inl (cI, 8000, .inl f2)), (r3, .inr (4, [.ref o3, .int (nI n3), .int 0])), (o3, .inl (cI, 8000, .inl f3)), (r1, .inr (4, [.ref o1, .int (nI n1), .int 0])), (o1, .inl (cI, 4000, .inl f1))] := hD
                subst hrm
                refine lv_icmp_le (tgt := 65) hx hb dX8_copy_59 (by decide) (fun c_35 => ?_) (fun c_35 => ?_)
                · have hf9 : ¬ 4000 < (RL 1).length + m1 := by have := (nI_leI (by omega) (by omega)).mp c_35; omega
                  rw [if_neg (show ¬ rmN 1 < (RL 1).length + m1 from hf9)] at hfp
                  refine lv_iconst (v := 0) hx hb dX8_copy_65 (by decide) ?_
                  refine ri (y := nI 0) (nI_0.symm) ?_
                  refine lv_istore (lv' := [(5, .int (nI 0)), (0, .ref cd), (1, .int (nI 2)), (2, .int (nI a1)), (3, .int (nI m1)), (4, .int (nI 1))]) hx hb dX8_copy_66 hl (by decide) rfl (fun ls hl => ?_)
                  have loop : ∀ (k9 : Nat) (i : Nat) (n7 : Nat) (f7 : Nat → Int32) (H : Heap) (locs : List Loc) (ls : Array Slot), m1 - i < k9 → (i ≤ m1) → (rowIs 4000 (RL 1 ++ rgL (gD (RL 2)) a1 i) n7 f7 0) → va_P D vwCl [(cd, .inr (8, [.ref rq, .ref wt, .ref wq, .ref mi, .ref mo, .ref ft, .ref ot, .ref gt, .ref rd, .ref tq, .ref wr, .ref s1, .ref s2, .int t0, .int t1, .int t2, .int t3])), (rq, .inl (cR, 4, .inr (.inr (.inr (.inr (rqF r0 r1 r2 r3)))))), (r0, .inr (4, [.ref o0, .int (nI n0), .int 0])), (o0, .inl (cI, 4000, .inl f0)), (r1, .inr (4, [.ref o1, .int (nI n7), .int 0])), (o1, .inl (cI, 4000, .inl f7)), (r2, .inr (4, [.ref o2, .int (nI n2), .int 0])), (o2, .inl (cI, 8000, .inl f2)), (r3, .inr (4, [.ref o3, .int (nI n3), .int 0])), (o3, .inl (cI, 8000, .inl f3))] H → va_D A0 [(cd, .inr (8, [.ref rq, .ref wt, .ref wq, .ref mi, .ref mo, .ref ft, .ref ot, .ref gt, .ref rd, .ref tq, .ref wr, .ref s1, .ref s2, .int t0, .int t1, .int t2, .int t3])), (rq, .inl (cR, 4, .inr (.inr (.inr (.inr (rqF r0 r1 r2 r3)))))), (r0, .inr (4, [.ref o0, .int (nI n0), .int 0])), (o0, .inl (cI, 4000, .inl f0)), (r1, .inr (4, [.ref o1, .int (nI n7), .int 0])), (o1, .inl (cI, 4000, .inl f7)), (r2, .inr (4, [.ref o2, .int (nI n2), .int 0])), (o2, .inl (cI, 8000, .inl f2)), (r3, .inr (4, [.ref o3, .int (nI n3), .int 0])), (o3, .inl (cI, 8000, .inl f3))] → va_S A0 s0.heap H locs → lv_has ls 6 [(0, .ref cd), (1, .int (nI 2)), (2, .int (nI a1)), (3, .int (nI m1)), (4, .int (nI 1)), (5, .int (nI i))] → W p0 l e0 ({ frames := 1, cells := 0, slots := 0, locals := 21 }) s0 m0 ([.ref cd, .int x, .int a, .int n, .int y] : List Value).toArray below meth c0 H locs 0 0 Q0 (F0 m0 68 ls []) := by
                    intro k9
                    induction k9 with
                    | zero => intro i n7 f7 H locs ls hk9; exact absurd hk9 (Nat.not_lt_zero _)
                    | succ k9 ih =>
                      intro i n7 f7 H locs ls hk9 him hr7 hP hD hS hl
                      have hlen : (RL 1 ++ rgL (gD (RL 2)) a1 i).length = (RL 1).length + i := by rw [List.length_append, rgL_len]
                      have hw9 := (row_len hr7 (by omega)).1
                      refine lv_iload hx hb dX8_copy_68 (lv_at hl 5 rfl) ?_
                      refine lv_iload_n hx hb dX8_copy_70 rfl (lv_at hl 3 rfl) ?_
                      refine lv_icmp_ge (tgt := 103) hx hb dX8_copy_71 (by decide) (fun c_36 => ?_) (fun c_36 => ?_)
                      · have hi9 : i = m1 := by have := (nI_leI (by omega) (by omega)).mp c_36; omega
                        subst hi9
                        rw [hlen] at hw9
                        subst hw9
                        refine lv_aload_n hx hb dX8_copy_103 rfl (lv_at hl 0 rfl) ?_
                        refine va_get (D := D) (ci := 8) (v := .ref rq) (C := RX8) (T := TX8) (N := 17) hx hb hts in_X8 hown hK hP 0 rfl rfl 0 (by decide) (hts _ kX8_11) (fun _ h9 => h9) rfl dX8_copy_104 ?_
                        refine lv_iload hx hb dX8_copy_107 (lv_at hl 4 rfl) ?_
                        refine ax_rld hx hb hK hP 1 3 rfl rfl 1 (rfl) (by decide) (by decide) rfl dX8_copy_109 ?_
                        refine va_get (D := D) (ci := 4) (v := .int (nI ((RL 1).length + i))) (C := RX4) (T := TX4) (N := 3) hx hb hts in_X4 hown hK hP 4 rfl rfl 1 (by decide) (hts _ kX8_92) (fun _ h9 => h9) rfl dX8_copy_110 ?_
                        exact hret 113 ls _ _ _ (n0, f0, (RL 1).length + i, f7, n2, f2, n3, f3, va_up RL 1 (RL 1 ++ rgL (gD (RL 2)) a1 i)) dX8_copy_113 hP hD hS (⟨hfp, rwOk_1 hrw hr7 (by omega)⟩)
                      · have hi9 : i < m1 := Nat.not_le.mp (fun q => c_36 (nI_le q (by omega)))
                        refine lv_aload_n hx hb dX8_copy_74 rfl (lv_at hl 0 rfl) ?_
                        refine va_get (D := D) (ci := 8) (v := .ref rq) (C := RX8) (T := TX8) (N := 17) hx hb hts in_X8 hown hK hP 0 rfl rfl 0 (by decide) (hts _ kX8_11) (fun _ h9 => h9) rfl dX8_copy_75 ?_
                        refine lv_iload hx hb dX8_copy_78 (lv_at hl 4 rfl) ?_
                        refine ax_rld hx hb hK hP 1 3 rfl rfl 1 (rfl) (by decide) (by decide) rfl dX8_copy_80 ?_
                        refine lv_aload_n hx hb dX8_copy_81 rfl (lv_at hl 0 rfl) ?_
                        refine va_get (D := D) (ci := 8) (v := .ref rq) (C := RX8) (T := TX8) (N := 17) hx hb hts in_X8 hown hK hP 0 rfl rfl 0 (by decide) (hts _ kX8_11) (fun _ h9 => h9) rfl dX8_copy_82 ?_
                        refine lv_iload_n hx hb dX8_copy_85 rfl (lv_at hl 1 rfl) ?_
                        refine ax_rld hx hb hK hP 1 3 rfl rfl 2 (rfl) (by decide) (by decide) rfl dX8_copy_86 ?_
                        refine lv_iload_n hx hb dX8_copy_87 rfl (lv_at hl 2 rfl) ?_
                        refine lv_iload hx hb dX8_copy_88 (lv_at hl 5 rfl) ?_
                        refine lv_iadd hx hb dX8_copy_90 ?_
                        refine ri (y := nI (a1 + i)) (nI_add a1 i) ?_
                        refine jn_i (wr := [(cd, .inr (8, [.ref rq, .ref wt, .ref wq, .ref mi, .ref mo, .ref ft, .ref ot, .ref gt, .ref rd, .ref tq, .ref wr, .ref s1, .ref s2, .int t0, .int t1, .int t2, .int t3])), (rq, .inl (cR, 4, .inr (.inr (.inr (.inr (rqF r0 r1 r2 r3)))))), (r0, .inr (4, [.ref o0, .int (nI n0), .int 0])), (o0, .inl (cI, 4000, .inl f0)), (r1, .inr (4, [.ref o1, .int (nI n7), .int 0])), (o1, .inl (cI, 4000, .inl f7)), (r3, .inr (4, [.ref o3, .int (nI n3), .int 0])), (o3, .inl (cI, 8000, .inl f3))]) hA hP hD hS [6, 7] [0, 1, 2, 3, 4, 5, 8, 9] rfl rfl (by decide) (by decide) (rn_V (As := [.int (nI (a1 + i))]) (rest := [.ref r1]) ⟨hx, hb, hml, hown, hts⟩ (cvV 1 hts zc_yX4_at zi_X4 zm_yX4_at zv_yX4_at kX8_102 (by decide +kernel) rfl rfl ⟨Nat.le_of_ble_eq_true rfl, Nat.le_of_ble_eq_true rfl⟩) (c_Row_at l D cI cB cJ cR r2 o2 8000 n2 f2 0 (nI (a1 + i)) (by decide) (by omega) H.size) hK hNw hMk hA hP hD hS [6, 7] rfl rfl (by decide) 0 rfl rfl rfl rfl hl.1 rfl (Nat.le_of_ble_eq_true rfl) dX8_copy_91 ⟨Nat.le_of_ble_eq_true rfl, Nat.le_of_ble_eq_true rfl⟩) (fun ra u9 H locs hra hP hD hS => ?_)
                        try dsimp only at hra
                        have hP : va_P D vwCl [(cd, .inr (8, [.ref rq, .ref wt, .ref wq, .ref mi, .ref mo, .ref ft, .ref ot, .ref gt, .ref rd, .ref tq, .ref wr, .ref s1, .ref s2, .int t0, .int t1, .int t2, .int t3])), (rq, .inl (cR, 4, .inr (.inr (.inr (.inr (rqF r0 r1 r2 r3)))))), (r0, .inr (4, [.ref o0, .int (nI n0), .int 0])), (o0, .inl (cI, 4000, .inl f0)), (r1, .inr (4, [.ref o1, .int (nI n7), .int 0])), (o1, .inl (cI, 4000, .inl f7)), (r3, .inr (4, [.ref o3, .int (nI n3), .int 0])), (o3, .inl (cI, 8000, .inl f3)), (r2, .inr (4, [.ref o2, .int (nI n2), .int 0])), (o2, .inl (cI, 8000, .inl f2))] H := hP
                        have hD : va_D A0 [(cd, .inr (8, [.ref rq, .ref wt, .ref wq, .ref mi, .ref mo, .ref ft, .ref ot, .ref gt, .ref rd, .ref tq, .ref wr, .ref s1, .ref s2, .int t0, .int t1, .int t2, .int t3])), (rq, .inl (cR, 4, .inr (.inr (.inr (.inr (rqF r0 r1 r2 r3)))))), (r0, .inr (4, [.ref o0, .int (nI n0), .int 0])), (o0, .inl (cI, 4000, .inl f0)), (r1, .inr (4, [.ref o1, .int (nI n7), .int 0])), (o1, .inl (cI, 4000, .inl f7)), (r3, .inr (4, [.ref o3, .int (nI n3), .int 0])), (o3, .inl (cI, 8000, .inl f3)), (r2, .inr (4, [.ref o2, .int (nI n2), .int 0])), (o2, .inl (cI, 8000, .inl f2))] := hD
                        have hv9 : ra = gD (RL 2) (a1 + i) := by rw [hra, if_pos (inB_t (by omega) (by omega)), nI_clamp (by omega)]; exact hr2.2.2 _ (by omega)
                        subst hv9
                        refine jn_v (wr := [(cd, .inr (8, [.ref rq, .ref wt, .ref wq, .ref mi, .ref mo, .ref ft, .ref ot, .ref gt, .ref rd, .ref tq, .ref wr, .ref s1, .ref s2, .int t0, .int t1, .int t2, .int t3])), (rq, .inl (cR, 4, .inr (.inr (.inr (.inr (rqF r0 r1 r2 r3)))))), (r0, .inr (4, [.ref o0, .int (nI n0), .int 0])), (o0, .inl (cI, 4000, .inl f0)), (r3, .inr (4, [.ref o3, .int (nI n3), .int 0])), (o3, .inl (cI, 8000, .inl f3)), (r2, .inr (4, [.ref o2, .int (nI n2), .int 0])), (o2, .inl (cI, 8000, .inl f2))]) hA hP hD hS [4, 5] [0, 1, 2, 3, 6, 7, 8, 9] rfl rfl (by decide) (by decide) (rn_V (As := [.int (gD (RL 2) (a1 + i))]) (rest := []) ⟨hx, hb, hml, hown, hts⟩ (cvV 1 hts zc_yX4_put zi_X4 zm_yX4_put zv_yX4_put kX8_89 (by decide +kernel) rfl rfl ⟨Nat.le_of_ble_eq_true rfl, Nat.le_of_ble_eq_true rfl⟩) (c_Row_put l D cI cB cJ cR r1 o1 4000 n7 f7 0 (RL 1 ++ rgL (gD (RL 2)) a1 i) (gD (RL 2) (a1 + i)) (by decide) (hr7) H.size) hK hNw hMk hA hP hD hS [4, 5] rfl rfl (by decide) 0 rfl rfl rfl rfl hl.1 rfl (Nat.le_of_ble_eq_true rfl) dX8_copy_94 ⟨Nat.le_of_ble_eq_true rfl, Nat.le_of_ble_eq_true rfl⟩) (fun u9 H locs hpu hP hD hS => ?_)
                        obtain ⟨n8, f8, v8⟩ := u9
                        try dsimp only at hpu
                        have hP : va_P D vwCl [(cd, .inr (8, [.ref rq, .ref wt, .ref wq, .ref mi, .ref mo, .ref ft, .ref ot, .ref gt, .ref rd, .ref tq, .ref wr, .ref s1, .ref s2, .int t0, .int t1, .int t2, .int t3])), (rq, .inl (cR, 4, .inr (.inr (.inr (.inr (rqF r0 r1 r2 r3)))))), (r0, .inr (4, [.ref o0, .int (nI n0), .int 0])), (o0, .inl (cI, 4000, .inl f0)), (r3, .inr (4, [.ref o3, .int (nI n3), .int 0])), (o3, .inl (cI, 8000, .inl f3)), (r2, .inr (4, [.ref o2, .int (nI n2), .int 0])), (o2, .inl (cI, 8000, .inl f2)), (r1, .inr (4, [.ref o1, .int (nI n8), .int v8])), (o1, .inl (cI, 4000, .inl f8))] H := hP
                        have hD : va_D A0 [(cd, .inr (8, [.ref rq, .ref wt, .ref wq, .ref mi, .ref mo, .ref ft, .ref ot, .ref gt, .ref rd, .ref tq, .ref wr, .ref s1, .ref s2, .int t0, .int t1, .int t2, .int t3])), (rq, .inl (cR, 4, .inr (.inr (.inr (.inr (rqF r0 r1 r2 r3)))))), (r0, .inr (4, [.ref o0, .int (nI n0), .int 0])), (o0, .inl (cI, 4000, .inl f0)), (r3, .inr (4, [.ref o3, .int (nI n3), .int 0])), (o3, .inl (cI, 8000, .inl f3)), (r2, .inr (4, [.ref o2, .int (nI n2), .int 0])), (o2, .inl (cI, 8000, .inl f2)), (r1, .inr (4, [.ref o1, .int (nI n8), .int v8])), (o1, .inl (cI, 4000, .inl f8))] := hD
                        have hv8 := (row_len hpu (by rw [List.length_append, hlen]; show _ + 1 ≤ _; omega)).2
                        subst hv8
                        rw [List.append_assoc] at hpu
                        refine lv_iinc (v := nI (i + 1)) (lv' := [(5, .int (nI (i + 1))), (0, .ref cd), (1, .int (nI 2)), (2, .int (nI a1)), (3, .int (nI m1)), (4, .int (nI 1))]) hx hb dX8_copy_97 hl (k := 5) rfl (nI_add i 1) (by decide) rfl (fun ls hl => ?_)
                        refine lv_goto (tgt := 68) hx hb dX8_copy_100 (by decide) ?_
                        exact ih (i + 1) n8 f8 _ _ ls (by omega) (by omega) (hpu) (hP.sub [0, 1, 2, 3, 8, 9, 6, 7, 4, 5] rfl) (hD.sub [0, 1, 2, 3, 8, 9, 6, 7, 4, 5] (by decide) rfl) hS (lv_sub hl [1, 2, 3, 4, 5, 0] rfl)
                  exact loop _ 0 n1 f1 _ _ ls (Nat.lt_succ_self _) (Nat.zero_le _) (by rw [rgL, List.append_nil]; exact hr1) (hP.sub [0, 1, 2, 3, 8, 9, 4, 5, 6, 7] rfl) (hD.sub [0, 1, 2, 3, 8, 9, 4, 5, 6, 7] (by decide) rfl) hS (lv_sub hl [1, 2, 3, 4, 5, 0] rfl)
                · have hf9 : 4000 < (RL 1).length + m1 := by have := Nat.not_le.mp (fun q => c_35 (nI_le q (by omega))); omega
                  rw [if_pos (show rmN 1 < (RL 1).length + m1 from hf9)] at hfp
                  refine lv_bipush (v := -4) hx hb dX8_copy_62 (by decide) ?_
                  have hP := hP.sub (ws' := [(cd, .inr (8, [.ref rq, .ref wt, .ref wq, .ref mi, .ref mo, .ref ft, .ref ot, .ref gt, .ref rd, .ref tq, .ref wr, .ref s1, .ref s2, .int t0, .int t1, .int t2, .int t3])), (rq, .inl (cR, 4, .inr (.inr (.inr (.inr (rqF r0 r1 r2 r3)))))), (r0, .inr (4, [.ref o0, .int (nI n0), .int 0])), (o0, .inl (cI, 4000, .inl f0)), (r1, .inr (4, [.ref o1, .int (nI n1), .int 0])), (o1, .inl (cI, 4000, .inl f1)), (r2, .inr (4, [.ref o2, .int (nI n2), .int 0])), (o2, .inl (cI, 8000, .inl f2)), (r3, .inr (4, [.ref o3, .int (nI n3), .int 0])), (o3, .inl (cI, 8000, .inl f3))]) [0, 1, 2, 3, 8, 9, 4, 5, 6, 7] rfl
                  have hD := hD.sub (ws' := [(cd, .inr (8, [.ref rq, .ref wt, .ref wq, .ref mi, .ref mo, .ref ft, .ref ot, .ref gt, .ref rd, .ref tq, .ref wr, .ref s1, .ref s2, .int t0, .int t1, .int t2, .int t3])), (rq, .inl (cR, 4, .inr (.inr (.inr (.inr (rqF r0 r1 r2 r3)))))), (r0, .inr (4, [.ref o0, .int (nI n0), .int 0])), (o0, .inl (cI, 4000, .inl f0)), (r1, .inr (4, [.ref o1, .int (nI n1), .int 0])), (o1, .inl (cI, 4000, .inl f1)), (r2, .inr (4, [.ref o2, .int (nI n2), .int 0])), (o2, .inl (cI, 8000, .inl f2)), (r3, .inr (4, [.ref o3, .int (nI n3), .int 0])), (o3, .inl (cI, 8000, .inl f3))]) [0, 1, 2, 3, 8, 9, 4, 5, 6, 7] (by decide) rfl
                  exact hret 64 ls _ _ _ (n0, f0, n1, f1, n2, f2, n3, f3, RL) dX8_copy_64 hP hD hS (⟨hfp, hrw⟩)
              · have hny9 := rw_n2 hrw
                rw [hy2] at hl
                have hfp := cpyP_in (k := 2) (j := 2) (RL := RL) (by decide) (by decide) ha1 hm1
                have hfp : cpyP x a n y RL = _ := (by rw [hx2, hy2, hae, hme] : cpyP x a n y RL = cpyP (nI 2) (nI a1) (nI m1) (nI 2) RL).trans hfp
                rw [if_neg ho9] at hfp
                refine lv_iload_n hx hb dX8_copy_48 rfl (lv_at hl 3 rfl) ?_
                refine lv_aload_n hx hb dX8_copy_49 rfl (lv_at hl 0 rfl) ?_
                refine va_get (D := D) (ci := 8) (v := .ref rq) (C := RX8) (T := TX8) (N := 17) hx hb hts in_X8 hown hK hP 0 rfl rfl 0 (by decide) (hts _ kX8_11) (fun _ h9 => h9) rfl dX8_copy_50 ?_
                refine lv_iload hx hb dX8_copy_53 (lv_at hl 4 rfl) ?_
                refine ax_rld hx hb hK hP 1 3 rfl rfl 2 (rfl) (by decide) (by decide) rfl dX8_copy_55 ?_
                refine jn_i (wr := [(cd, .inr (8, [.ref rq, .ref wt, .ref wq, .ref mi, .ref mo, .ref ft, .ref ot, .ref gt, .ref rd, .ref tq, .ref wr, .ref s1, .ref s2, .int t0, .int t1, .int t2, .int t3])), (rq, .inl (cR, 4, .inr (.inr (.inr (.inr (rqF r0 r1 r2 r3)))))), (r0, .inr (4, [.ref o0, .int (nI n0), .int 0])), (o0, .inl (cI, 4000, .inl f0)), (r1, .inr (4, [.ref o1, .int (nI n1), .int 0])), (o1, .inl (cI, 4000, .inl f1)), (r3, .inr (4, [.ref o3, .int (nI n3), .int 0])), (o3, .inl (cI, 8000, .inl f3))]) hA hP hD hS [6, 7] [0, 1, 2, 3, 4, 5, 8, 9] rfl rfl (by decide) (by decide) (rn_V (As := []) (rest := [.int (nI m1)]) ⟨hx, hb, hml, hown, hts⟩ (cvV 0 hts zc_yX4_room zi_X4 zm_yX4_room zv_yX4_room kX8_85 (by decide +kernel) rfl rfl ⟨Nat.le_of_ble_eq_true rfl, Nat.le_of_ble_eq_true rfl⟩) (c_Row_room l D cI cB cJ cR r2 o2 8000 n2 f2 0 (by decide) (hny9.2) H.size) hK hNw hMk hA hP hD hS [6, 7] rfl rfl (by decide) 0 rfl rfl rfl rfl hl.1 rfl (Nat.le_of_ble_eq_true rfl) dX8_copy_56 ⟨Nat.le_of_ble_eq_true rfl, Nat.le_of_ble_eq_true rfl⟩) (fun rm u9 H locs hrm hP hD hS => ?_)
                try dsimp only at hrm
                have hP : va_P D vwCl [(cd, .inr (8, [.ref rq, .ref wt, .ref wq, .ref mi, .ref mo, .ref ft, .ref ot, .ref gt, .ref rd, .ref tq, .ref wr, .ref s1, .ref s2, .int t0, .int t1, .int t2, .int t3])), (rq, .inl (cR, 4, .inr (.inr (.inr (.inr (rqF r0 r1 r2 r3)))))), (r0, .inr (4, [.ref o0, .int (nI n0), .int 0])), (o0, .inl (cI, 4000, .inl f0)), (r1, .inr (4, [.ref o1, .int (nI n1), .int 0])), (o1, .inl (cI, 4000, .inl f1)), (r3, .inr (4, [.ref o3, .int (nI n3), .int 0])), (o3, .inl (cI, 8000, .inl f3)), (r2, .inr (4, [.ref o2, .int (nI n2), .int 0])), (o2, .inl (cI, 8000, .inl f2))] H := hP
                have hD : va_D A0 [(cd, .inr (8, [.ref rq, .ref wt, .ref wq, .ref mi, .ref mo, .ref ft, .ref ot, .ref gt, .ref rd, .ref tq, .ref wr, .ref s1, .ref s2, .int t0, .int t1, .int t2, .int t3])), (rq, .inl (cR, 4, .inr (.inr (.inr (.inr (rqF r0 r1 r2 r3)))))), (r0, .inr (4, [.ref o0, .int (nI n0), .int 0])), (o0, .inl (cI, 4000, .inl f0)), (r1, .inr (4, [.ref o1, .int (nI n1), .int 0])), (o1, .inl (cI, 4000, .inl f1)), (r3, .inr (4, [.ref o3, .int (nI n3), .int 0])), (o3, .inl (cI, 8000, .inl f3)), (r2, .inr (4, [.ref o2, .int (nI n2), .int 0])), (o2, .inl (cI, 8000, .inl f2))] := hD
                subst hrm
                refine lv_icmp_le (tgt := 65) hx hb dX8_copy_59 (by decide) (fun c_38 => ?_) (fun c_38 => ?_)
                · have hf9 : ¬ 8000 < (RL 2).length + m1 := by have := (nI_leI (by omega) (by omega)).mp c_38; omega
                  rw [if_neg (show ¬ rmN 2 < (RL 2).length + m1 from hf9)] at hfp
                  refine lv_iconst (v := 0) hx hb dX8_copy_65 (by decide) ?_
                  refine ri (y := nI 0) (nI_0.symm) ?_
                  refine lv_istore (lv' := [(5, .int (nI 0)), (0, .ref cd), (1, .int (nI 2)), (2, .int (nI a1)), (3, .int (nI m1)), (4, .int (nI 2))]) hx hb dX8_copy_66 hl (by decide) rfl (fun ls hl => ?_)
                  have loop : ∀ (k9 : Nat) (i : Nat) (n7 : Nat) (f7 : Nat → Int32) (H : Heap) (locs : List Loc) (ls : Array Slot), m1 - i < k9 → (i ≤ m1) → (rowIs 8000 (RL 2 ++ rgL (gD (RL 2)) a1 i) n7 f7 0) → va_P D vwCl [(cd, .inr (8, [.ref rq, .ref wt, .ref wq, .ref mi, .ref mo, .ref ft, .ref ot, .ref gt, .ref rd, .ref tq, .ref wr, .ref s1, .ref s2, .int t0, .int t1, .int t2, .int t3])), (rq, .inl (cR, 4, .inr (.inr (.inr (.inr (rqF r0 r1 r2 r3)))))), (r0, .inr (4, [.ref o0, .int (nI n0), .int 0])), (o0, .inl (cI, 4000, .inl f0)), (r1, .inr (4, [.ref o1, .int (nI n1), .int 0])), (o1, .inl (cI, 4000, .inl f1)), (r2, .inr (4, [.ref o2, .int (nI n7), .int 0])), (o2, .inl (cI, 8000, .inl f7)), (r3, .inr (4, [.ref o3, .int (nI n3), .int 0])), (o3, .inl (cI, 8000, .inl f3))] H → va_D A0 [(cd, .inr (8, [.ref rq, .ref wt, .ref wq, .ref mi, .ref mo, .ref ft, .ref ot, .ref gt, .ref rd, .ref tq, .ref wr, .ref s1, .ref s2, .int t0, .int t1, .int t2, .int t3])), (rq, .inl (cR, 4, .inr (.inr (.inr (.inr (rqF r0 r1 r2 r3)))))), (r0, .inr (4, [.ref o0, .int (nI n0), .int 0])), (o0, .inl (cI, 4000, .inl f0)), (r1, .inr (4, [.ref o1, .int (nI n1), .int 0])), (o1, .inl (cI, 4000, .inl f1)), (r2, .inr (4, [.ref o2, .int (nI n7), .int 0])), (o2, .inl (cI, 8000, .inl f7)), (r3, .inr (4, [.ref o3, .int (nI n3), .int 0])), (o3, .inl (cI, 8000, .inl f3))] → va_S A0 s0.heap H locs → lv_has ls 6 [(0, .ref cd), (1, .int (nI 2)), (2, .int (nI a1)), (3, .int (nI m1)), (4, .int (nI 2)), (5, .int (nI i))] → W p0 l e0 ({ frames := 1, cells := 0, slots := 0, locals := 21 }) s0 m0 ([.ref cd, .int x, .int a, .int n, .int y] : List Value).toArray below meth c0 H locs 0 0 Q0 (F0 m0 68 ls []) := by
                    intro k9
                    induction k9 with
                    | zero => intro i n7 f7 H locs ls hk9; exact absurd hk9 (Nat.not_lt_zero _)
                    | succ k9 ih =>
                      intro i n7 f7 H locs ls hk9 him hr7 hP hD hS hl
                      have hlen : (RL 2 ++ rgL (gD (RL 2)) a1 i).length = (RL 2).length + i := by rw [List.length_append, rgL_len]
                      have hw9 := (row_len hr7 (by omega)).1
                      refine lv_iload hx hb dX8_copy_68 (lv_at hl 5 rfl) ?_
                      refine lv_iload_n hx hb dX8_copy_70 rfl (lv_at hl 3 rfl) ?_
                      refine lv_icmp_ge (tgt := 103) hx hb dX8_copy_71 (by decide) (fun c_39 => ?_) (fun c_39 => ?_)
                      · have hi9 : i = m1 := by have := (nI_leI (by omega) (by omega)).mp c_39; omega
                        subst hi9
                        rw [hlen] at hw9
                        subst hw9
                        refine lv_aload_n hx hb dX8_copy_103 rfl (lv_at hl 0 rfl) ?_
                        refine va_get (D := D) (ci := 8) (v := .ref rq) (C := RX8) (T := TX8) (N := 17) hx hb hts in_X8 hown hK hP 0 rfl rfl 0 (by decide) (hts _ kX8_11) (fun _ h9 => h9) rfl dX8_copy_104 ?_
                        refine lv_iload hx hb dX8_copy_107 (lv_at hl 4 rfl) ?_
                        refine ax_rld hx hb hK hP 1 3 rfl rfl 2 (rfl) (by decide) (by decide) rfl dX8_copy_109 ?_
                        refine va_get (D := D) (ci := 4) (v := .int (nI ((RL 2).length + i))) (C := RX4) (T := TX4) (N := 3) hx hb hts in_X4 hown hK hP 6 rfl rfl 1 (by decide) (hts _ kX8_92) (fun _ h9 => h9) rfl dX8_copy_110 ?_
                        exact hret 113 ls _ _ _ (n0, f0, n1, f1, (RL 2).length + i, f7, n3, f3, va_up RL 2 (RL 2 ++ rgL (gD (RL 2)) a1 i)) dX8_copy_113 hP hD hS (⟨hfp, rwOk_2 hrw hr7 (by omega)⟩)
                      · have hi9 : i < m1 := Nat.not_le.mp (fun q => c_39 (nI_le q (by omega)))
                        refine lv_aload_n hx hb dX8_copy_74 rfl (lv_at hl 0 rfl) ?_
                        refine va_get (D := D) (ci := 8) (v := .ref rq) (C := RX8) (T := TX8) (N := 17) hx hb hts in_X8 hown hK hP 0 rfl rfl 0 (by decide) (hts _ kX8_11) (fun _ h9 => h9) rfl dX8_copy_75 ?_
                        refine lv_iload hx hb dX8_copy_78 (lv_at hl 4 rfl) ?_
                        refine ax_rld hx hb hK hP 1 3 rfl rfl 2 (rfl) (by decide) (by decide) rfl dX8_copy_80 ?_
                        refine lv_aload_n hx hb dX8_copy_81 rfl (lv_at hl 0 rfl) ?_
                        refine va_get (D := D) (ci := 8) (v := .ref rq) (C := RX8) (T := TX8) (N := 17) hx hb hts in_X8 hown hK hP 0 rfl rfl 0 (by decide) (hts _ kX8_11) (fun _ h9 => h9) rfl dX8_copy_82 ?_
                        refine lv_iload_n hx hb dX8_copy_85 rfl (lv_at hl 1 rfl) ?_
                        refine ax_rld hx hb hK hP 1 3 rfl rfl 2 (rfl) (by decide) (by decide) rfl dX8_copy_86 ?_
                        refine lv_iload_n hx hb dX8_copy_87 rfl (lv_at hl 2 rfl) ?_
                        refine lv_iload hx hb dX8_copy_88 (lv_at hl 5 rfl) ?_
                        refine lv_iadd hx hb dX8_copy_90 ?_
                        refine ri (y := nI (a1 + i)) (nI_add a1 i) ?_
                        refine jn_i (wr := [(cd, .inr (8, [.ref rq, .ref wt, .ref wq, .ref mi, .ref mo, .ref ft, .ref ot, .ref gt, .ref rd, .ref tq, .ref wr, .ref s1, .ref s2, .int t0, .int t1, .int t2, .int t3])), (rq, .inl (cR, 4, .inr (.inr (.inr (.inr (rqF r0 r1 r2 r3)))))), (r0, .inr (4, [.ref o0, .int (nI n0), .int 0])), (o0, .inl (cI, 4000, .inl f0)), (r1, .inr (4, [.ref o1, .int (nI n1), .int 0])), (o1, .inl (cI, 4000, .inl f1)), (r3, .inr (4, [.ref o3, .int (nI n3), .int 0])), (o3, .inl (cI, 8000, .inl f3))]) hA hP hD hS [6, 7] [0, 1, 2, 3, 4, 5, 8, 9] rfl rfl (by decide) (by decide) (rn_V (As := [.int (nI (a1 + i))]) (rest := [.ref r2]) ⟨hx, hb, hml, hown, hts⟩ (cvV 1 hts zc_yX4_at zi_X4 zm_yX4_at zv_yX4_at kX8_102 (by decide +kernel) rfl rfl ⟨Nat.le_of_ble_eq_true rfl, Nat.le_of_ble_eq_true rfl⟩) (c_Row_at l D cI cB cJ cR r2 o2 8000 n7 f7 0 (nI (a1 + i)) (by decide) (by omega) H.size) hK hNw hMk hA hP hD hS [6, 7] rfl rfl (by decide) 0 rfl rfl rfl rfl hl.1 rfl (Nat.le_of_ble_eq_true rfl) dX8_copy_91 ⟨Nat.le_of_ble_eq_true rfl, Nat.le_of_ble_eq_true rfl⟩) (fun ra u9 H locs hra hP hD hS => ?_)
                        try dsimp only at hra
                        have hP : va_P D vwCl [(cd, .inr (8, [.ref rq, .ref wt, .ref wq, .ref mi, .ref mo, .ref ft, .ref ot, .ref gt, .ref rd, .ref tq, .ref wr, .ref s1, .ref s2, .int t0, .int t1, .int t2, .int t3])), (rq, .inl (cR, 4, .inr (.inr (.inr (.inr (rqF r0 r1 r2 r3)))))), (r0, .inr (4, [.ref o0, .int (nI n0), .int 0])), (o0, .inl (cI, 4000, .inl f0)), (r1, .inr (4, [.ref o1, .int (nI n1), .int 0])), (o1, .inl (cI, 4000, .inl f1)), (r3, .inr (4, [.ref o3, .int (nI n3), .int 0])), (o3, .inl (cI, 8000, .inl f3)), (r2, .inr (4, [.ref o2, .int (nI n7), .int 0])), (o2, .inl (cI, 8000, .inl f7))] H := hP
                        have hD : va_D A0 [(cd, .inr (8, [.ref rq, .ref wt, .ref wq, .ref mi, .ref mo, .ref ft, .ref ot, .ref gt, .ref rd, .ref tq, .ref wr, .ref s1, .ref s2, .int t0, .int t1, .int t2, .int t3])), (rq, .inl (cR, 4, .inr (.inr (.inr (.inr (rqF r0 r1 r2 r3)))))), (r0, .inr (4, [.ref o0, .int (nI n0), .int 0])), (o0, .inl (cI, 4000, .inl f0)), (r1, .inr (4, [.ref o1, .int (nI n1), .int 0])), (o1, .inl (cI, 4000, .inl f1)), (r3, .inr (4, [.ref o3, .int (nI n3), .int 0])), (o3, .inl (cI, 8000, .inl f3)), (r2, .inr (4, [.ref o2, .int (nI n7), .int 0])), (o2, .inl (cI, 8000, .inl f7))] := hD
                        have hv9 : ra = gD (RL 2) (a1 + i) := by rw [hra, if_pos (inB_t (by omega) (by omega)), nI_clamp (by omega), hr7.2.2 _ (by omega), gD_l (by omega)]; rfl
                        subst hv9
                        refine jn_v (wr := [(cd, .inr (8, [.ref rq, .ref wt, .ref wq, .ref mi, .ref mo, .ref ft, .ref ot, .ref gt, .ref rd, .ref tq, .ref wr, .ref s1, .ref s2, .int t0, .int t1, .int t2, .int t3])), (rq, .inl (cR, 4, .inr (.inr (.inr (.inr (rqF r0 r1 r2 r3)))))), (r0, .inr (4, [.ref o0, .int (nI n0), .int 0])), (o0, .inl (cI, 4000, .inl f0)), (r1, .inr (4, [.ref o1, .int (nI n1), .int 0])), (o1, .inl (cI, 4000, .inl f1)), (r3, .inr (4, [.ref o3, .int (nI n3), .int 0])), (o3, .inl (cI, 8000, .inl f3))]) hA hP hD hS [8, 9] [0, 1, 2, 3, 4, 5, 6, 7] rfl rfl (by decide) (by decide) (rn_V (As := [.int (gD (RL 2) (a1 + i))]) (rest := []) ⟨hx, hb, hml, hown, hts⟩ (cvV 1 hts zc_yX4_put zi_X4 zm_yX4_put zv_yX4_put kX8_89 (by decide +kernel) rfl rfl ⟨Nat.le_of_ble_eq_true rfl, Nat.le_of_ble_eq_true rfl⟩) (c_Row_put l D cI cB cJ cR r2 o2 8000 n7 f7 0 (RL 2 ++ rgL (gD (RL 2)) a1 i) (gD (RL 2) (a1 + i)) (by decide) (hr7) H.size) hK hNw hMk hA hP hD hS [8, 9] rfl rfl (by decide) 0 rfl rfl rfl rfl hl.1 rfl (Nat.le_of_ble_eq_true rfl) dX8_copy_94 ⟨Nat.le_of_ble_eq_true rfl, Nat.le_of_ble_eq_true rfl⟩) (fun u9 H locs hpu hP hD hS => ?_)
                        obtain ⟨n8, f8, v8⟩ := u9
                        try dsimp only at hpu
                        have hP : va_P D vwCl [(cd, .inr (8, [.ref rq, .ref wt, .ref wq, .ref mi, .ref mo, .ref ft, .ref ot, .ref gt, .ref rd, .ref tq, .ref wr, .ref s1, .ref s2, .int t0, .int t1, .int t2, .int t3])), (rq, .inl (cR, 4, .inr (.inr (.inr (.inr (rqF r0 r1 r2 r3)))))), (r0, .inr (4, [.ref o0, .int (nI n0), .int 0])), (o0, .inl (cI, 4000, .inl f0)), (r1, .inr (4, [.ref o1, .int (nI n1), .int 0])), (o1, .inl (cI, 4000, .inl f1)), (r3, .inr (4, [.ref o3, .int (nI n3), .int 0])), (o3, .inl (cI, 8000, .inl f3)), (r2, .inr (4, [.ref o2, .int (nI n8), .int v8])), (o2, .inl (cI, 8000, .inl f8))] H := hP
                        have hD : va_D A0 [(cd, .inr (8, [.ref rq, .ref wt, .ref wq, .ref mi, .ref mo, .ref ft, .ref ot, .ref gt, .ref rd, .ref tq, .ref wr, .ref s1, .ref s2, .int t0, .int t1, .int t2, .int t3])), (rq, .inl (cR, 4, .inr (.inr (.inr (.inr (rqF r0 r1 r2 r3)))))), (r0, .inr (4, [.ref o0, .int (nI n0), .int 0])), (o0, .inl (cI, 4000, .inl f0)), (r1, .inr (4, [.ref o1, .int (nI n1), .int 0])), (o1, .inl (cI, 4000, .inl f1)), (r3, .inr (4, [.ref o3, .int (nI n3), .int 0])), (o3, .inl (cI, 8000, .inl f3)), (r2, .inr (4, [.ref o2, .int (nI n8), .int v8])), (o2, .inl (cI, 8000, .inl f8))] := hD
                        have hv8 := (row_len hpu (by rw [List.length_append, hlen]; show _ + 1 ≤ _; omega)).2
                        subst hv8
                        rw [List.append_assoc] at hpu
                        refine lv_iinc (v := nI (i + 1)) (lv' := [(5, .int (nI (i + 1))), (0, .ref cd), (1, .int (nI 2)), (2, .int (nI a1)), (3, .int (nI m1)), (4, .int (nI 2))]) hx hb dX8_copy_97 hl (k := 5) rfl (nI_add i 1) (by decide) rfl (fun ls hl => ?_)
                        refine lv_goto (tgt := 68) hx hb dX8_copy_100 (by decide) ?_
                        exact ih (i + 1) n8 f8 _ _ ls (by omega) (by omega) (hpu) (hP.sub [0, 1, 2, 3, 4, 5, 8, 9, 6, 7] rfl) (hD.sub [0, 1, 2, 3, 4, 5, 8, 9, 6, 7] (by decide) rfl) hS (lv_sub hl [1, 2, 3, 4, 5, 0] rfl)
                  exact loop _ 0 n2 f2 _ _ ls (Nat.lt_succ_self _) (Nat.zero_le _) (by rw [rgL, List.append_nil]; exact hr2) (hP.sub [0, 1, 2, 3, 4, 5, 8, 9, 6, 7] rfl) (hD.sub [0, 1, 2, 3, 4, 5, 8, 9, 6, 7] (by decide) rfl) hS (lv_sub hl [1, 2, 3, 4, 5, 0] rfl)
                · have hf9 : 8000 < (RL 2).length + m1 := by have := Nat.not_le.mp (fun q => c_38 (nI_le q (by omega))); omega
                  rw [if_pos (show rmN 2 < (RL 2).length + m1 from hf9)] at hfp
                  refine lv_bipush (v := -4) hx hb dX8_copy_62 (by decide) ?_
                  have hP := hP.sub (ws' := [(cd, .inr (8, [.ref rq, .ref wt, .ref wq, .ref mi, .ref mo, .ref ft, .ref ot, .ref gt, .ref rd, .ref tq, .ref wr, .ref s1, .ref s2, .int t0, .int t1, .int t2, .int t3])), (rq, .inl (cR, 4, .inr (.inr (.inr (.inr (rqF r0 r1 r2 r3)))))), (r0, .inr (4, [.ref o0, .int (nI n0), .int 0])), (o0, .inl (cI, 4000, .inl f0)), (r1, .inr (4, [.ref o1, .int (nI n1), .int 0])), (o1, .inl (cI, 4000, .inl f1)), (r2, .inr (4, [.ref o2, .int (nI n2), .int 0])), (o2, .inl (cI, 8000, .inl f2)), (r3, .inr (4, [.ref o3, .int (nI n3), .int 0])), (o3, .inl (cI, 8000, .inl f3))]) [0, 1, 2, 3, 4, 5, 8, 9, 6, 7] rfl
                  have hD := hD.sub (ws' := [(cd, .inr (8, [.ref rq, .ref wt, .ref wq, .ref mi, .ref mo, .ref ft, .ref ot, .ref gt, .ref rd, .ref tq, .ref wr, .ref s1, .ref s2, .int t0, .int t1, .int t2, .int t3])), (rq, .inl (cR, 4, .inr (.inr (.inr (.inr (rqF r0 r1 r2 r3)))))), (r0, .inr (4, [.ref o0, .int (nI n0), .int 0])), (o0, .inl (cI, 4000, .inl f0)), (r1, .inr (4, [.ref o1, .int (nI n1), .int 0])), (o1, .inl (cI, 4000, .inl f1)), (r2, .inr (4, [.ref o2, .int (nI n2), .int 0])), (o2, .inl (cI, 8000, .inl f2)), (r3, .inr (4, [.ref o3, .int (nI n3), .int 0])), (o3, .inl (cI, 8000, .inl f3))]) [0, 1, 2, 3, 4, 5, 8, 9, 6, 7] (by decide) rfl
                  exact hret 64 ls _ _ _ (n0, f0, n1, f1, n2, f2, n3, f3, RL) dX8_copy_64 hP hD hS (⟨hfp, hrw⟩)
              · have hny9 := rw_n3 hrw
                rw [hy3] at hl
                have hfp := cpyP_in (k := 2) (j := 3) (RL := RL) (by decide) (by decide) ha1 hm1
                have hfp : cpyP x a n y RL = _ := (by rw [hx2, hy3, hae, hme] : cpyP x a n y RL = cpyP (nI 2) (nI a1) (nI m1) (nI 3) RL).trans hfp
                rw [if_neg ho9] at hfp
                refine lv_iload_n hx hb dX8_copy_48 rfl (lv_at hl 3 rfl) ?_
                refine lv_aload_n hx hb dX8_copy_49 rfl (lv_at hl 0 rfl) ?_
                refine va_get (D := D) (ci := 8) (v := .ref rq) (C := RX8) (T := TX8) (N := 17) hx hb hts in_X8 hown hK hP 0 rfl rfl 0 (by decide) (hts _ kX8_11) (fun _ h9 => h9) rfl dX8_copy_50 ?_
                refine lv_iload hx hb dX8_copy_53 (lv_at hl 4 rfl) ?_
                refine ax_rld hx hb hK hP 1 3 rfl rfl 3 (rfl) (by decide) (by decide) rfl dX8_copy_55 ?_
                refine jn_i (wr := [(cd, .inr (8, [.ref rq, .ref wt, .ref wq, .ref mi, .ref mo, .ref ft, .ref ot, .ref gt, .ref rd, .ref tq, .ref wr, .ref s1, .ref s2, .int t0, .int t1, .int t2, .int t3])), (rq, .inl (cR, 4, .inr (.inr (.inr (.inr (rqF r0 r1 r2 r3)))))), (r0, .inr (4, [.ref o0, .int (nI n0), .int 0])), (o0, .inl (cI, 4000, .inl f0)), (r1, .inr (4, [.ref o1, .int (nI n1), .int 0])), (o1, .inl (cI, 4000, .inl f1)), (r2, .inr (4, [.ref o2, .int (nI n2), .int 0])), (o2, .inl (cI, 8000, .inl f2))]) hA hP hD hS [8, 9] [0, 1, 2, 3, 4, 5, 6, 7] rfl rfl (by decide) (by decide) (rn_V (As := []) (rest := [.int (nI m1)]) ⟨hx, hb, hml, hown, hts⟩ (cvV 0 hts zc_yX4_room zi_X4 zm_yX4_room zv_yX4_room kX8_85 (by decide +kernel) rfl rfl ⟨Nat.le_of_ble_eq_true rfl, Nat.le_of_ble_eq_true rfl⟩) (c_Row_room l D cI cB cJ cR r3 o3 8000 n3 f3 0 (by decide) (hny9.2) H.size) hK hNw hMk hA hP hD hS [8, 9] rfl rfl (by decide) 0 rfl rfl rfl rfl hl.1 rfl (Nat.le_of_ble_eq_true rfl) dX8_copy_56 ⟨Nat.le_of_ble_eq_true rfl, Nat.le_of_ble_eq_true rfl⟩) (fun rm u9 H locs hrm hP hD hS => ?_)
                try dsimp only at hrm
                have hP : va_P D vwCl [(cd, .inr (8, [.ref rq, .ref wt, .ref wq, .ref mi, .ref mo, .ref ft, .ref ot, .ref gt, .ref rd, .ref tq, .ref wr, .ref s1, .ref s2, .int t0, .int t1, .int t2, .int t3])), (rq, .inl (cR, 4, .inr (.inr (.inr (.inr (rqF r0 r1 r2 r3)))))), (r0, .inr (4, [.ref o0, .int (nI n0), .int 0])), (o0, .inl (cI, 4000, .inl f0)), (r1, .inr (4, [.ref o1, .int (nI n1), .int 0])), (o1, .inl (cI, 4000, .inl f1)), (r2, .inr (4, [.ref o2, .int (nI n2), .int 0])), (o2, .inl (cI, 8000, .inl f2)), (r3, .inr (4, [.ref o3, .int (nI n3), .int 0])), (o3, .inl (cI, 8000, .inl f3))] H := hP
                have hD : va_D A0 [(cd, .inr (8, [.ref rq, .ref wt, .ref wq, .ref mi, .ref mo, .ref ft, .ref ot, .ref gt, .ref rd, .ref tq, .ref wr, .ref s1, .ref s2, .int t0, .int t1, .int t2, .int t3])), (rq, .inl (cR, 4, .inr (.inr (.inr (.inr (rqF r0 r1 r2 r3)))))), (r0, .inr (4, [.ref o0, .int (nI n0), .int 0])), (o0, .inl (cI, 4000, .inl f0)), (r1, .inr (4, [.ref o1, .int (nI n1), .int 0])), (o1, .inl (cI, 4000, .inl f1)), (r2, .inr (4, [.ref o2, .int (nI n2), .int 0])), (o2, .inl (cI, 8000, .inl f2)), (r3, .inr (4, [.ref o3, .int (nI n3), .int 0])), (o3, .inl (cI, 8000, .inl f3))] := hD
                subst hrm
                refine lv_icmp_le (tgt := 65) hx hb dX8_copy_59 (by decide) (fun c_41 => ?_) (fun c_41 => ?_)
                · have hf9 : ¬ 8000 < (RL 3).length + m1 := by have := (nI_leI (by omega) (by omega)).mp c_41; omega
                  rw [if_neg (show ¬ rmN 3 < (RL 3).length + m1 from hf9)] at hfp
                  refine lv_iconst (v := 0) hx hb dX8_copy_65 (by decide) ?_
                  refine ri (y := nI 0) (nI_0.symm) ?_
                  refine lv_istore (lv' := [(5, .int (nI 0)), (0, .ref cd), (1, .int (nI 2)), (2, .int (nI a1)), (3, .int (nI m1)), (4, .int (nI 3))]) hx hb dX8_copy_66 hl (by decide) rfl (fun ls hl => ?_)
                  have loop : ∀ (k9 : Nat) (i : Nat) (n7 : Nat) (f7 : Nat → Int32) (H : Heap) (locs : List Loc) (ls : Array Slot), m1 - i < k9 → (i ≤ m1) → (rowIs 8000 (RL 3 ++ rgL (gD (RL 2)) a1 i) n7 f7 0) → va_P D vwCl [(cd, .inr (8, [.ref rq, .ref wt, .ref wq, .ref mi, .ref mo, .ref ft, .ref ot, .ref gt, .ref rd, .ref tq, .ref wr, .ref s1, .ref s2, .int t0, .int t1, .int t2, .int t3])), (rq, .inl (cR, 4, .inr (.inr (.inr (.inr (rqF r0 r1 r2 r3)))))), (r0, .inr (4, [.ref o0, .int (nI n0), .int 0])), (o0, .inl (cI, 4000, .inl f0)), (r1, .inr (4, [.ref o1, .int (nI n1), .int 0])), (o1, .inl (cI, 4000, .inl f1)), (r2, .inr (4, [.ref o2, .int (nI n2), .int 0])), (o2, .inl (cI, 8000, .inl f2)), (r3, .inr (4, [.ref o3, .int (nI n7), .int 0])), (o3, .inl (cI, 8000, .inl f7))] H → va_D A0 [(cd, .inr (8, [.ref rq, .ref wt, .ref wq, .ref mi, .ref mo, .ref ft, .ref ot, .ref gt, .ref rd, .ref tq, .ref wr, .ref s1, .ref s2, .int t0, .int t1, .int t2, .int t3])), (rq, .inl (cR, 4, .inr (.inr (.inr (.inr (rqF r0 r1 r2 r3)))))), (r0, .inr (4, [.ref o0, .int (nI n0), .int 0])), (o0, .inl (cI, 4000, .inl f0)), (r1, .inr (4, [.ref o1, .int (nI n1), .int 0])), (o1, .inl (cI, 4000, .inl f1)), (r2, .inr (4, [.ref o2, .int (nI n2), .int 0])), (o2, .inl (cI, 8000, .inl f2)), (r3, .inr (4, [.ref o3, .int (nI n7), .int 0])), (o3, .inl (cI, 8000, .inl f7))] → va_S A0 s0.heap H locs → lv_has ls 6 [(0, .ref cd), (1, .int (nI 2)), (2, .int (nI a1)), (3, .int (nI m1)), (4, .int (nI 3)), (5, .int (nI i))] → W p0 l e0 ({ frames := 1, cells := 0, slots := 0, locals := 21 }) s0 m0 ([.ref cd, .int x, .int a, .int n, .int y] : List Value).toArray below meth c0 H locs 0 0 Q0 (F0 m0 68 ls []) := by
                    intro k9
                    induction k9 with
                    | zero => intro i n7 f7 H locs ls hk9; exact absurd hk9 (Nat.not_lt_zero _)
                    | succ k9 ih =>
                      intro i n7 f7 H locs ls hk9 him hr7 hP hD hS hl
                      have hlen : (RL 3 ++ rgL (gD (RL 2)) a1 i).length = (RL 3).length + i := by rw [List.length_append, rgL_len]
                      have hw9 := (row_len hr7 (by omega)).1
                      refine lv_iload hx hb dX8_copy_68 (lv_at hl 5 rfl) ?_
                      refine lv_iload_n hx hb dX8_copy_70 rfl (lv_at hl 3 rfl) ?_
                      refine lv_icmp_ge (tgt := 103) hx hb dX8_copy_71 (by decide) (fun c_42 => ?_) (fun c_42 => ?_)
                      · have hi9 : i = m1 := by have := (nI_leI (by omega) (by omega)).mp c_42; omega
                        subst hi9
                        rw [hlen] at hw9
                        subst hw9
                        refine lv_aload_n hx hb dX8_copy_103 rfl (lv_at hl 0 rfl) ?_
                        refine va_get (D := D) (ci := 8) (v := .ref rq) (C := RX8) (T := TX8) (N := 17) hx hb hts in_X8 hown hK hP 0 rfl rfl 0 (by decide) (hts _ kX8_11) (fun _ h9 => h9) rfl dX8_copy_104 ?_
                        refine lv_iload hx hb dX8_copy_107 (lv_at hl 4 rfl) ?_
                        refine ax_rld hx hb hK hP 1 3 rfl rfl 3 (rfl) (by decide) (by decide) rfl dX8_copy_109 ?_
                        refine va_get (D := D) (ci := 4) (v := .int (nI ((RL 3).length + i))) (C := RX4) (T := TX4) (N := 3) hx hb hts in_X4 hown hK hP 8 rfl rfl 1 (by decide) (hts _ kX8_92) (fun _ h9 => h9) rfl dX8_copy_110 ?_
                        exact hret 113 ls _ _ _ (n0, f0, n1, f1, n2, f2, (RL 3).length + i, f7, va_up RL 3 (RL 3 ++ rgL (gD (RL 2)) a1 i)) dX8_copy_113 hP hD hS (⟨hfp, rwOk_3 hrw hr7 (by omega)⟩)
                      · have hi9 : i < m1 := Nat.not_le.mp (fun q => c_42 (nI_le q (by omega)))
                        refine lv_aload_n hx hb dX8_copy_74 rfl (lv_at hl 0 rfl) ?_
                        refine va_get (D := D) (ci := 8) (v := .ref rq) (C := RX8) (T := TX8) (N := 17) hx hb hts in_X8 hown hK hP 0 rfl rfl 0 (by decide) (hts _ kX8_11) (fun _ h9 => h9) rfl dX8_copy_75 ?_
                        refine lv_iload hx hb dX8_copy_78 (lv_at hl 4 rfl) ?_
                        refine ax_rld hx hb hK hP 1 3 rfl rfl 3 (rfl) (by decide) (by decide) rfl dX8_copy_80 ?_
                        refine lv_aload_n hx hb dX8_copy_81 rfl (lv_at hl 0 rfl) ?_
                        refine va_get (D := D) (ci := 8) (v := .ref rq) (C := RX8) (T := TX8) (N := 17) hx hb hts in_X8 hown hK hP 0 rfl rfl 0 (by decide) (hts _ kX8_11) (fun _ h9 => h9) rfl dX8_copy_82 ?_
                        refine lv_iload_n hx hb dX8_copy_85 rfl (lv_at hl 1 rfl) ?_
                        refine ax_rld hx hb hK hP 1 3 rfl rfl 2 (rfl) (by decide) (by decide) rfl dX8_copy_86 ?_
                        refine lv_iload_n hx hb dX8_copy_87 rfl (lv_at hl 2 rfl) ?_
                        refine lv_iload hx hb dX8_copy_88 (lv_at hl 5 rfl) ?_
                        refine lv_iadd hx hb dX8_copy_90 ?_
                        refine ri (y := nI (a1 + i)) (nI_add a1 i) ?_
                        refine jn_i (wr := [(cd, .inr (8, [.ref rq, .ref wt, .ref wq, .ref mi, .ref mo, .ref ft, .ref ot, .ref gt, .ref rd, .ref tq, .ref wr, .ref s1, .ref s2, .int t0, .int t1, .int t2, .int t3])), (rq, .inl (cR, 4, .inr (.inr (.inr (.inr (rqF r0 r1 r2 r3)))))), (r0, .inr (4, [.ref o0, .int (nI n0), .int 0])), (o0, .inl (cI, 4000, .inl f0)), (r1, .inr (4, [.ref o1, .int (nI n1), .int 0])), (o1, .inl (cI, 4000, .inl f1)), (r3, .inr (4, [.ref o3, .int (nI n7), .int 0])), (o3, .inl (cI, 8000, .inl f7))]) hA hP hD hS [6, 7] [0, 1, 2, 3, 4, 5, 8, 9] rfl rfl (by decide) (by decide) (rn_V (As := [.int (nI (a1 + i))]) (rest := [.ref r3]) ⟨hx, hb, hml, hown, hts⟩ (cvV 1 hts zc_yX4_at zi_X4 zm_yX4_at zv_yX4_at kX8_102 (by decide +kernel) rfl rfl ⟨Nat.le_of_ble_eq_true rfl, Nat.le_of_ble_eq_true rfl⟩) (c_Row_at l D cI cB cJ cR r2 o2 8000 n2 f2 0 (nI (a1 + i)) (by decide) (by omega) H.size) hK hNw hMk hA hP hD hS [6, 7] rfl rfl (by decide) 0 rfl rfl rfl rfl hl.1 rfl (Nat.le_of_ble_eq_true rfl) dX8_copy_91 ⟨Nat.le_of_ble_eq_true rfl, Nat.le_of_ble_eq_true rfl⟩) (fun ra u9 H locs hra hP hD hS => ?_)
                        try dsimp only at hra
                        have hP : va_P D vwCl [(cd, .inr (8, [.ref rq, .ref wt, .ref wq, .ref mi, .ref mo, .ref ft, .ref ot, .ref gt, .ref rd, .ref tq, .ref wr, .ref s1, .ref s2, .int t0, .int t1, .int t2, .int t3])), (rq, .inl (cR, 4, .inr (.inr (.inr (.inr (rqF r0 r1 r2 r3)))))), (r0, .inr (4, [.ref o0, .int (nI n0), .int 0])), (o0, .inl (cI, 4000, .inl f0)), (r1, .inr (4, [.ref o1, .int (nI n1), .int 0])), (o1, .inl (cI, 4000, .inl f1)), (r3, .inr (4, [.ref o3, .int (nI n7), .int 0])), (o3, .inl (cI, 8000, .inl f7)), (r2, .inr (4, [.ref o2, .int (nI n2), .int 0])), (o2, .inl (cI, 8000, .inl f2))] H := hP
                        have hD : va_D A0 [(cd, .inr (8, [.ref rq, .ref wt, .ref wq, .ref mi, .ref mo, .ref ft, .ref ot, .ref gt, .ref rd, .ref tq, .ref wr, .ref s1, .ref s2, .int t0, .int t1, .int t2, .int t3])), (rq, .inl (cR, 4, .inr (.inr (.inr (.inr (rqF r0 r1 r2 r3)))))), (r0, .inr (4, [.ref o0, .int (nI n0), .int 0])), (o0, .inl (cI, 4000, .inl f0)), (r1, .inr (4, [.ref o1, .int (nI n1), .int 0])), (o1, .inl (cI, 4000, .inl f1)), (r3, .inr (4, [.ref o3, .int (nI n7), .int 0])), (o3, .inl (cI, 8000, .inl f7)), (r2, .inr (4, [.ref o2, .int (nI n2), .int 0])), (o2, .inl (cI, 8000, .inl f2))] := hD
                        have hv9 : ra = gD (RL 2) (a1 + i) := by rw [hra, if_pos (inB_t (by omega) (by omega)), nI_clamp (by omega)]; exact hr2.2.2 _ (by omega)
                        subst hv9
                        refine jn_v (wr := [(cd, .inr (8, [.ref rq, .ref wt, .ref wq, .ref mi, .ref mo, .ref ft, .ref ot, .ref gt, .ref rd, .ref tq, .ref wr, .ref s1, .ref s2, .int t0, .int t1, .int t2, .int t3])), (rq, .inl (cR, 4, .inr (.inr (.inr (.inr (rqF r0 r1 r2 r3)))))), (r0, .inr (4, [.ref o0, .int (nI n0), .int 0])), (o0, .inl (cI, 4000, .inl f0)), (r1, .inr (4, [.ref o1, .int (nI n1), .int 0])), (o1, .inl (cI, 4000, .inl f1)), (r2, .inr (4, [.ref o2, .int (nI n2), .int 0])), (o2, .inl (cI, 8000, .inl f2))]) hA hP hD hS [6, 7] [0, 1, 2, 3, 4, 5, 8, 9] rfl rfl (by decide) (by decide) (rn_V (As := [.int (gD (RL 2) (a1 + i))]) (rest := []) ⟨hx, hb, hml, hown, hts⟩ (cvV 1 hts zc_yX4_put zi_X4 zm_yX4_put zv_yX4_put kX8_89 (by decide +kernel) rfl rfl ⟨Nat.le_of_ble_eq_true rfl, Nat.le_of_ble_eq_true rfl⟩) (c_Row_put l D cI cB cJ cR r3 o3 8000 n7 f7 0 (RL 3 ++ rgL (gD (RL 2)) a1 i) (gD (RL 2) (a1 + i)) (by decide) (hr7) H.size) hK hNw hMk hA hP hD hS [6, 7] rfl rfl (by decide) 0 rfl rfl rfl rfl hl.1 rfl (Nat.le_of_ble_eq_true rfl) dX8_copy_94 ⟨Nat.le_of_ble_eq_true rfl, Nat.le_of_ble_eq_true rfl⟩) (fun u9 H locs hpu hP hD hS => ?_)
                        obtain ⟨n8, f8, v8⟩ := u9
                        try dsimp only at hpu
                        have hP : va_P D vwCl [(cd, .inr (8, [.ref rq, .ref wt, .ref wq, .ref mi, .ref mo, .ref ft, .ref ot, .ref gt, .ref rd, .ref tq, .ref wr, .ref s1, .ref s2, .int t0, .int t1, .int t2, .int t3])), (rq, .inl (cR, 4, .inr (.inr (.inr (.inr (rqF r0 r1 r2 r3)))))), (r0, .inr (4, [.ref o0, .int (nI n0), .int 0])), (o0, .inl (cI, 4000, .inl f0)), (r1, .inr (4, [.ref o1, .int (nI n1), .int 0])), (o1, .inl (cI, 4000, .inl f1)), (r2, .inr (4, [.ref o2, .int (nI n2), .int 0])), (o2, .inl (cI, 8000, .inl f2)), (r3, .inr (4, [.ref o3, .int (nI n8), .int v8])), (o3, .inl (cI, 8000, .inl f8))] H := hP
                        have hD : va_D A0 [(cd, .inr (8, [.ref rq, .ref wt, .ref wq, .ref mi, .ref mo, .ref ft, .ref ot, .ref gt, .ref rd, .ref tq, .ref wr, .ref s1, .ref s2, .int t0, .int t1, .int t2, .int t3])), (rq, .inl (cR, 4, .inr (.inr (.inr (.inr (rqF r0 r1 r2 r3)))))), (r0, .inr (4, [.ref o0, .int (nI n0), .int 0])), (o0, .inl (cI, 4000, .inl f0)), (r1, .inr (4, [.ref o1, .int (nI n1), .int 0])), (o1, .inl (cI, 4000, .inl f1)), (r2, .inr (4, [.ref o2, .int (nI n2), .int 0])), (o2, .inl (cI, 8000, .inl f2)), (r3, .inr (4, [.ref o3, .int (nI n8), .int v8])), (o3, .inl (cI, 8000, .inl f8))] := hD
                        have hv8 := (row_len hpu (by rw [List.length_append, hlen]; show _ + 1 ≤ _; omega)).2
                        subst hv8
                        rw [List.append_assoc] at hpu
                        refine lv_iinc (v := nI (i + 1)) (lv' := [(5, .int (nI (i + 1))), (0, .ref cd), (1, .int (nI 2)), (2, .int (nI a1)), (3, .int (nI m1)), (4, .int (nI 3))]) hx hb dX8_copy_97 hl (k := 5) rfl (nI_add i 1) (by decide) rfl (fun ls hl => ?_)
                        refine lv_goto (tgt := 68) hx hb dX8_copy_100 (by decide) ?_
                        exact ih (i + 1) n8 f8 _ _ ls (by omega) (by omega) (hpu) hP hD hS (lv_sub hl [1, 2, 3, 4, 5, 0] rfl)
                  exact loop _ 0 n3 f3 _ _ ls (Nat.lt_succ_self _) (Nat.zero_le _) (by rw [rgL, List.append_nil]; exact hr3) hP hD hS (lv_sub hl [1, 2, 3, 4, 5, 0] rfl)
                · have hf9 : 8000 < (RL 3).length + m1 := by have := Nat.not_le.mp (fun q => c_41 (nI_le q (by omega))); omega
                  rw [if_pos (show rmN 3 < (RL 3).length + m1 from hf9)] at hfp
                  refine lv_bipush (v := -4) hx hb dX8_copy_62 (by decide) ?_
                  exact hret 64 ls _ _ _ (n0, f0, n1, f1, n2, f2, n3, f3, RL) dX8_copy_64 hP hD hS (⟨hfp, hrw⟩)
            · have ho9 : (RL 2).length < a1 + m1 := by have := Nat.not_le.mp (fun z => c_31 ((lg_cmp_le _ _).mpr ((pk_lLE (by omega) (by omega)).mpr z))); omega
              refine lv_bipush (v := -2) hx hb dX8_copy_45 (by decide) ?_
              exact hret 47 ls _ _ _ (n0, f0, n1, f1, n2, f2, n3, f3, RL) dX8_copy_47 hP hD hS (⟨by rw [cpyP, if_pos (Or.inr (Or.inr (Or.inr (Or.inr (by rw [hx2, hae, hme, nI_clamp (by decide), nI_clamp ha1, nI_clamp hm1]; exact ho9)))))], hrw⟩)
          · have hnx9 := rw_n3 hrw
            obtain ⟨hr0, hr1, hr2, hr3, hl0, hl1, hl2, hl3⟩ := id hrw
            rw [hx3] at hl
            refine lv_iload_n hx hb dX8_copy_26 rfl (lv_at hl 2 rfl) ?_
            refine lv_i2l hx hb dX8_copy_27 (v := (nI a1).toInt64) rfl ?_
            refine rl (y := lN a1) (nI_l (by omega)) ?_
            refine lv_iload_n hx hb dX8_copy_28 rfl (lv_at hl 3 rfl) ?_
            refine lv_i2l hx hb dX8_copy_29 (v := (nI m1).toInt64) rfl ?_
            refine rl (y := lN m1) (nI_l (by omega)) ?_
            refine lv_ladd hx hb dX8_copy_30 ?_
            refine rl (y := lN (a1 + m1)) (lN_add _ _) ?_
            refine lv_aload_n hx hb dX8_copy_31 rfl (lv_at hl 0 rfl) ?_
            refine va_get (D := D) (ci := 8) (v := .ref rq) (C := RX8) (T := TX8) (N := 17) hx hb hts in_X8 hown hK hP 0 rfl rfl 0 (by decide) (hts _ kX8_11) (fun _ h9 => h9) rfl dX8_copy_32 ?_
            refine lv_iload_n hx hb dX8_copy_35 rfl (lv_at hl 1 rfl) ?_
            refine ax_rld hx hb hK hP 1 3 rfl rfl 3 (rfl) (by decide) (by decide) rfl dX8_copy_36 ?_
            refine va_get (D := D) (ci := 4) (v := .int (nI n3)) (C := RX4) (T := TX4) (N := 3) hx hb hts in_X4 hown hK hP 8 rfl rfl 1 (by decide) (hts _ kX8_92) (fun _ h9 => h9) rfl dX8_copy_37 ?_
            refine lv_i2l hx hb dX8_copy_40 (v := (nI n3).toInt64) rfl ?_
            refine rl (y := lN n3) (nI_l (by omega)) ?_
            refine W.lcmp hx hb dX8_copy_41 ?_
            refine lv_if_le (tgt := 48) hx hb dX8_copy_42 (by decide) (fun c_44 => ?_) (fun c_44 => ?_)
            · have ho9 : ¬ (RL 3).length < a1 + m1 := by have := (pk_lLE (by omega) (by omega)).mp ((lg_cmp_le _ _).mp c_44); omega
              rcases isR_of hyr with hy0 | hy1 | hy2 | hy3
              · have hny9 := rw_n0 hrw
                rw [hy0] at hl
                have hfp := cpyP_in (k := 3) (j := 0) (RL := RL) (by decide) (by decide) ha1 hm1
                have hfp : cpyP x a n y RL = _ := (by rw [hx3, hy0, hae, hme] : cpyP x a n y RL = cpyP (nI 3) (nI a1) (nI m1) (nI 0) RL).trans hfp
                rw [if_neg ho9] at hfp
                refine lv_iload_n hx hb dX8_copy_48 rfl (lv_at hl 3 rfl) ?_
                refine lv_aload_n hx hb dX8_copy_49 rfl (lv_at hl 0 rfl) ?_
                refine va_get (D := D) (ci := 8) (v := .ref rq) (C := RX8) (T := TX8) (N := 17) hx hb hts in_X8 hown hK hP 0 rfl rfl 0 (by decide) (hts _ kX8_11) (fun _ h9 => h9) rfl dX8_copy_50 ?_
                refine lv_iload hx hb dX8_copy_53 (lv_at hl 4 rfl) ?_
                refine ax_rld hx hb hK hP 1 3 rfl rfl 0 (rfl) (by decide) (by decide) rfl dX8_copy_55 ?_
                refine jn_i (wr := [(cd, .inr (8, [.ref rq, .ref wt, .ref wq, .ref mi, .ref mo, .ref ft, .ref ot, .ref gt, .ref rd, .ref tq, .ref wr, .ref s1, .ref s2, .int t0, .int t1, .int t2, .int t3])), (rq, .inl (cR, 4, .inr (.inr (.inr (.inr (rqF r0 r1 r2 r3)))))), (r1, .inr (4, [.ref o1, .int (nI n1), .int 0])), (o1, .inl (cI, 4000, .inl f1)), (r2, .inr (4, [.ref o2, .int (nI n2), .int 0])), (o2, .inl (cI, 8000, .inl f2)), (r3, .inr (4, [.ref o3, .int (nI n3), .int 0])), (o3, .inl (cI, 8000, .inl f3))]) hA hP hD hS [2, 3] [0, 1, 4, 5, 6, 7, 8, 9] rfl rfl (by decide) (by decide) (rn_V (As := []) (rest := [.int (nI m1)]) ⟨hx, hb, hml, hown, hts⟩ (cvV 0 hts zc_yX4_room zi_X4 zm_yX4_room zv_yX4_room kX8_85 (by decide +kernel) rfl rfl ⟨Nat.le_of_ble_eq_true rfl, Nat.le_of_ble_eq_true rfl⟩) (c_Row_room l D cI cB cJ cR r0 o0 4000 n0 f0 0 (by decide) (hny9.2) H.size) hK hNw hMk hA hP hD hS [2, 3] rfl rfl (by decide) 0 rfl rfl rfl rfl hl.1 rfl (Nat.le_of_ble_eq_true rfl) dX8_copy_56 ⟨Nat.le_of_ble_eq_true rfl, Nat.le_of_ble_eq_true rfl⟩) (fun rm u9 H locs hrm hP hD hS => ?_)
                try dsimp only at hrm
                have hP : va_P D vwCl [(cd, .inr (8, [.ref rq, .ref wt, .ref wq, .ref mi, .ref mo, .ref ft, .ref ot, .ref gt, .ref rd, .ref tq, .ref wr, .ref s1, .ref s2, .int t0, .int t1, .int t2, .int t3])), (rq, .inl (cR, 4, .inr (.inr (.inr (.inr (rqF r0 r1 r2 r3)))))), (r1, .inr (4, [.ref o1, .int (nI n1), .int 0])), (o1, .inl (cI, 4000, .inl f1)), (r2, .inr (4, [.ref o2, .int (nI n2), .int 0])), (o2, .inl (cI, 8000, .inl f2)), (r3, .inr (4, [.ref o3, .int (nI n3), .int 0])), (o3, .inl (cI, 8000, .inl f3)), (r0, .inr (4, [.ref o0, .int (nI n0), .int 0])), (o0, .inl (cI, 4000, .inl f0))] H := hP
                have hD : va_D A0 [(cd, .inr (8, [.ref rq, .ref wt, .ref wq, .ref mi, .ref mo, .ref ft, .ref ot, .ref gt, .ref rd, .ref tq, .ref wr, .ref s1, .ref s2, .int t0, .int t1, .int t2, .int t3])), (rq, .inl (cR, 4, .inr (.inr (.inr (.inr (rqF r0 r1 r2 r3)))))), (r1, .inr (4, [.ref o1, .int (nI n1), .int 0])), (o1, .inl (cI, 4000, .inl f1)), (r2, .inr (4, [.ref o2, .int (nI n2), .int 0])), (o2, .inl (cI, 8000, .inl f2)), (r3, .inr (4, [.ref o3, .int (nI n3), .int 0])), (o3, .inl (cI, 8000, .inl f3)), (r0, .inr (4, [.ref o0, .int (nI n0), .int 0])), (o0, .inl (cI, 4000, .inl f0))] := hD
                subst hrm
                refine lv_icmp_le (tgt := 65) hx hb dX8_copy_59 (by decide) (fun c_45 => ?_) (fun c_45 => ?_)
                · have hf9 : ¬ 4000 < (RL 0).length + m1 := by have := (nI_leI (by omega) (by omega)).mp c_45; omega
                  rw [if_neg (show ¬ rmN 0 < (RL 0).length + m1 from hf9)] at hfp
                  refine lv_iconst (v := 0) hx hb dX8_copy_65 (by decide) ?_
                  refine ri (y := nI 0) (nI_0.symm) ?_
                  refine lv_istore (lv' := [(5, .int (nI 0)), (0, .ref cd), (1, .int (nI 3)), (2, .int (nI a1)), (3, .int (nI m1)), (4, .int (nI 0))]) hx hb dX8_copy_66 hl (by decide) rfl (fun ls hl => ?_)
                  have loop : ∀ (k9 : Nat) (i : Nat) (n7 : Nat) (f7 : Nat → Int32) (H : Heap) (locs : List Loc) (ls : Array Slot), m1 - i < k9 → (i ≤ m1) → (rowIs 4000 (RL 0 ++ rgL (gD (RL 3)) a1 i) n7 f7 0) → va_P D vwCl [(cd, .inr (8, [.ref rq, .ref wt, .ref wq, .ref mi, .ref mo, .ref ft, .ref ot, .ref gt, .ref rd, .ref tq, .ref wr, .ref s1, .ref s2, .int t0, .int t1, .int t2, .int t3])), (rq, .inl (cR, 4, .inr (.inr (.inr (.inr (rqF r0 r1 r2 r3)))))), (r0, .inr (4, [.ref o0, .int (nI n7), .int 0])), (o0, .inl (cI, 4000, .inl f7)), (r1, .inr (4, [.ref o1, .int (nI n1), .int 0])), (o1, .inl (cI, 4000, .inl f1)), (r2, .inr (4, [.ref o2, .int (nI n2), .int 0])), (o2, .inl (cI, 8000, .inl f2)), (r3, .inr (4, [.ref o3, .int (nI n3), .int 0])), (o3, .inl (cI, 8000, .inl f3))] H → va_D A0 [(cd, .inr (8, [.ref rq, .ref wt, .ref wq, .ref mi, .ref mo, .ref ft, .ref ot, .ref gt, .ref rd, .ref tq, .ref wr, .ref s1, .ref s2, .int t0, .int t1, .int t2, .int t3])), (rq, .inl (cR, 4, .inr (.inr (.inr (.inr (rqF r0 r1 r2 r3)))))), (r0, .inr (4, [.ref o0, .int (nI n7), .int 0])), (o0, .inl (cI, 4000, .inl f7)), (r1, .inr (4, [.ref o1, .int (nI n1), .int 0])), (o1, .inl (cI, 4000, .inl f1)), (r2, .inr (4, [.ref o2, .int (nI n2), .int 0])), (o2, .inl (cI, 8000, .inl f2)), (r3, .inr (4, [.ref o3, .int (nI n3), .int 0])), (o3, .inl (cI, 8000, .inl f3))] → va_S A0 s0.heap H locs → lv_has ls 6 [(0, .ref cd), (1, .int (nI 3)), (2, .int (nI a1)), (3, .int (nI m1)), (4, .int (nI 0)), (5, .int (nI i))] → W p0 l e0 ({ frames := 1, cells := 0, slots := 0, locals := 21 }) s0 m0 ([.ref cd, .int x, .int a, .int n, .int y] : List Value).toArray below meth c0 H locs 0 0 Q0 (F0 m0 68 ls []) := by
                    intro k9
                    induction k9 with
                    | zero => intro i n7 f7 H locs ls hk9; exact absurd hk9 (Nat.not_lt_zero _)
                    | succ k9 ih =>
                      intro i n7 f7 H locs ls hk9 him hr7 hP hD hS hl
                      have hlen : (RL 0 ++ rgL (gD (RL 3)) a1 i).length = (RL 0).length + i := by rw [List.length_append, rgL_len]
                      have hw9 := (row_len hr7 (by omega)).1
                      refine lv_iload hx hb dX8_copy_68 (lv_at hl 5 rfl) ?_
                      refine lv_iload_n hx hb dX8_copy_70 rfl (lv_at hl 3 rfl) ?_
                      refine lv_icmp_ge (tgt := 103) hx hb dX8_copy_71 (by decide) (fun c_46 => ?_) (fun c_46 => ?_)
                      · have hi9 : i = m1 := by have := (nI_leI (by omega) (by omega)).mp c_46; omega
                        subst hi9
                        rw [hlen] at hw9
                        subst hw9
                        refine lv_aload_n hx hb dX8_copy_103 rfl (lv_at hl 0 rfl) ?_
                        refine va_get (D := D) (ci := 8) (v := .ref rq) (C := RX8) (T := TX8) (N := 17) hx hb hts in_X8 hown hK hP 0 rfl rfl 0 (by decide) (hts _ kX8_11) (fun _ h9 => h9) rfl dX8_copy_104 ?_
                        refine lv_iload hx hb dX8_copy_107 (lv_at hl 4 rfl) ?_
                        refine ax_rld hx hb hK hP 1 3 rfl rfl 0 (rfl) (by decide) (by decide) rfl dX8_copy_109 ?_
                        refine va_get (D := D) (ci := 4) (v := .int (nI ((RL 0).length + i))) (C := RX4) (T := TX4) (N := 3) hx hb hts in_X4 hown hK hP 2 rfl rfl 1 (by decide) (hts _ kX8_92) (fun _ h9 => h9) rfl dX8_copy_110 ?_
                        exact hret 113 ls _ _ _ ((RL 0).length + i, f7, n1, f1, n2, f2, n3, f3, va_up RL 0 (RL 0 ++ rgL (gD (RL 3)) a1 i)) dX8_copy_113 hP hD hS (⟨hfp, rwOk_0 hrw hr7 (by omega)⟩)
                      · have hi9 : i < m1 := Nat.not_le.mp (fun q => c_46 (nI_le q (by omega)))
                        refine lv_aload_n hx hb dX8_copy_74 rfl (lv_at hl 0 rfl) ?_
                        refine va_get (D := D) (ci := 8) (v := .ref rq) (C := RX8) (T := TX8) (N := 17) hx hb hts in_X8 hown hK hP 0 rfl rfl 0 (by decide) (hts _ kX8_11) (fun _ h9 => h9) rfl dX8_copy_75 ?_
                        refine lv_iload hx hb dX8_copy_78 (lv_at hl 4 rfl) ?_
                        refine ax_rld hx hb hK hP 1 3 rfl rfl 0 (rfl) (by decide) (by decide) rfl dX8_copy_80 ?_
                        refine lv_aload_n hx hb dX8_copy_81 rfl (lv_at hl 0 rfl) ?_
                        refine va_get (D := D) (ci := 8) (v := .ref rq) (C := RX8) (T := TX8) (N := 17) hx hb hts in_X8 hown hK hP 0 rfl rfl 0 (by decide) (hts _ kX8_11) (fun _ h9 => h9) rfl dX8_copy_82 ?_
                        refine lv_iload_n hx hb dX8_copy_85 rfl (lv_at hl 1 rfl) ?_
                        refine ax_rld hx hb hK hP 1 3 rfl rfl 3 (rfl) (by decide) (by decide) rfl dX8_copy_86 ?_
                        refine lv_iload_n hx hb dX8_copy_87 rfl (lv_at hl 2 rfl) ?_
                        refine lv_iload hx hb dX8_copy_88 (lv_at hl 5 rfl) ?_
                        refine lv_iadd hx hb dX8_copy_90 ?_
                        refine ri (y := nI (a1 + i)) (nI_add a1 i) ?_
                        refine jn_i (wr := [(cd, .inr (8, [.ref rq, .ref wt, .ref wq, .ref mi, .ref mo, .ref ft, .ref ot, .ref gt, .ref rd, .ref tq, .ref wr, .ref s1, .ref s2, .int t0, .int t1, .int t2, .int t3])), (rq, .inl (cR, 4, .inr (.inr (.inr (.inr (rqF r0 r1 r2 r3)))))), (r0, .inr (4, [.ref o0, .int (nI n7), .int 0])), (o0, .inl (cI, 4000, .inl f7)), (r1, .inr (4, [.ref o1, .int (nI n1), .int 0])), (o1, .inl (cI, 4000, .inl f1)), (r2, .inr (4, [.ref o2, .int (nI n2), .int 0])), (o2, .inl (cI, 8000, .inl f2))]) hA hP hD hS [8, 9] [0, 1, 2, 3, 4, 5, 6, 7] rfl rfl (by decide) (by decide) (rn_V (As := [.int (nI (a1 + i))]) (rest := [.ref r0]) ⟨hx, hb, hml, hown, hts⟩ (cvV 1 hts zc_yX4_at zi_X4 zm_yX4_at zv_yX4_at kX8_102 (by decide +kernel) rfl rfl ⟨Nat.le_of_ble_eq_true rfl, Nat.le_of_ble_eq_true rfl⟩) (c_Row_at l D cI cB cJ cR r3 o3 8000 n3 f3 0 (nI (a1 + i)) (by decide) (by omega) H.size) hK hNw hMk hA hP hD hS [8, 9] rfl rfl (by decide) 0 rfl rfl rfl rfl hl.1 rfl (Nat.le_of_ble_eq_true rfl) dX8_copy_91 ⟨Nat.le_of_ble_eq_true rfl, Nat.le_of_ble_eq_true rfl⟩) (fun ra u9 H locs hra hP hD hS => ?_)
                        try dsimp only at hra
                        have hP : va_P D vwCl [(cd, .inr (8, [.ref rq, .ref wt, .ref wq, .ref mi, .ref mo, .ref ft, .ref ot, .ref gt, .ref rd, .ref tq, .ref wr, .ref s1, .ref s2, .int t0, .int t1, .int t2, .int t3])), (rq, .inl (cR, 4, .inr (.inr (.inr (.inr (rqF r0 r1 r2 r3)))))), (r0, .inr (4, [.ref o0, .int (nI n7), .int 0])), (o0, .inl (cI, 4000, .inl f7)), (r1, .inr (4, [.ref o1, .int (nI n1), .int 0])), (o1, .inl (cI, 4000, .inl f1)), (r2, .inr (4, [.ref o2, .int (nI n2), .int 0])), (o2, .inl (cI, 8000, .inl f2)), (r3, .inr (4, [.ref o3, .int (nI n3), .int 0])), (o3, .inl (cI, 8000, .inl f3))] H := hP
                        have hD : va_D A0 [(cd, .inr (8, [.ref rq, .ref wt, .ref wq, .ref mi, .ref mo, .ref ft, .ref ot, .ref gt, .ref rd, .ref tq, .ref wr, .ref s1, .ref s2, .int t0, .int t1, .int t2, .int t3])), (rq, .inl (cR, 4, .inr (.inr (.inr (.inr (rqF r0 r1 r2 r3)))))), (r0, .inr (4, [.ref o0, .int (nI n7), .int 0])), (o0, .inl (cI, 4000, .inl f7)), (r1, .inr (4, [.ref o1, .int (nI n1), .int 0])), (o1, .inl (cI, 4000, .inl f1)), (r2, .inr (4, [.ref o2, .int (nI n2), .int 0])), (o2, .inl (cI, 8000, .inl f2)), (r3, .inr (4, [.ref o3, .int (nI n3), .int 0])), (o3, .inl (cI, 8000, .inl f3))] := hD
                        have hv9 : ra = gD (RL 3) (a1 + i) := by rw [hra, if_pos (inB_t (by omega) (by omega)), nI_clamp (by omega)]; exact hr3.2.2 _ (by omega)
                        subst hv9
                        refine jn_v (wr := [(cd, .inr (8, [.ref rq, .ref wt, .ref wq, .ref mi, .ref mo, .ref ft, .ref ot, .ref gt, .ref rd, .ref tq, .ref wr, .ref s1, .ref s2, .int t0, .int t1, .int t2, .int t3])), (rq, .inl (cR, 4, .inr (.inr (.inr (.inr (rqF r0 r1 r2 r3)))))), (r1, .inr (4, [.ref o1, .int (nI n1), .int 0])), (o1, .inl (cI, 4000, .inl f1)), (r2, .inr (4, [.ref o2, .int (nI n2), .int 0])), (o2, .inl (cI, 8000, .inl f2)), (r3, .inr (4, [.ref o3, .int (nI n3), .int 0])), (o3, .inl (cI, 8000, .inl f3))]) hA hP hD hS [2, 3] [0, 1, 4, 5, 6, 7, 8, 9] rfl rfl (by decide) (by decide) (rn_V (As := [.int (gD (RL 3) (a1 + i))]) (rest := []) ⟨hx, hb, hml, hown, hts⟩ (cvV 1 hts zc_yX4_put zi_X4 zm_yX4_put zv_yX4_put kX8_89 (by decide +kernel) rfl rfl ⟨Nat.le_of_ble_eq_true rfl, Nat.le_of_ble_eq_true rfl⟩) (c_Row_put l D cI cB cJ cR r0 o0 4000 n7 f7 0 (RL 0 ++ rgL (gD (RL 3)) a1 i) (gD (RL 3) (a1 + i)) (by decide) (hr7) H.size) hK hNw hMk hA hP hD hS [2, 3] rfl rfl (by decide) 0 rfl rfl rfl rfl hl.1 rfl (Nat.le_of_ble_eq_true rfl) dX8_copy_94 ⟨Nat.le_of_ble_eq_true rfl, Nat.le_of_ble_eq_true rfl⟩) (fun u9 H locs hpu hP hD hS => ?_)
                        obtain ⟨n8, f8, v8⟩ := u9
                        try dsimp only at hpu
                        have hP : va_P D vwCl [(cd, .inr (8, [.ref rq, .ref wt, .ref wq, .ref mi, .ref mo, .ref ft, .ref ot, .ref gt, .ref rd, .ref tq, .ref wr, .ref s1, .ref s2, .int t0, .int t1, .int t2, .int t3])), (rq, .inl (cR, 4, .inr (.inr (.inr (.inr (rqF r0 r1 r2 r3)))))), (r1, .inr (4, [.ref o1, .int (nI n1), .int 0])), (o1, .inl (cI, 4000, .inl f1)), (r2, .inr (4, [.ref o2, .int (nI n2), .int 0])), (o2, .inl (cI, 8000, .inl f2)), (r3, .inr (4, [.ref o3, .int (nI n3), .int 0])), (o3, .inl (cI, 8000, .inl f3)), (r0, .inr (4, [.ref o0, .int (nI n8), .int v8])), (o0, .inl (cI, 4000, .inl f8))] H := hP
                        have hD : va_D A0 [(cd, .inr (8, [.ref rq, .ref wt, .ref wq, .ref mi, .ref mo, .ref ft, .ref ot, .ref gt, .ref rd, .ref tq, .ref wr, .ref s1, .ref s2, .int t0, .int t1, .int t2, .int t3])), (rq, .inl (cR, 4, .inr (.inr (.inr (.inr (rqF r0 r1 r2 r3)))))), (r1, .inr (4, [.ref o1, .int (nI n1), .int 0])), (o1, .inl (cI, 4000, .inl f1)), (r2, .inr (4, [.ref o2, .int (nI n2), .int 0])), (o2, .inl (cI, 8000, .inl f2)), (r3, .inr (4, [.ref o3, .int (nI n3), .int 0])), (o3, .inl (cI, 8000, .inl f3)), (r0, .inr (4, [.ref o0, .int (nI n8), .int v8])), (o0, .inl (cI, 4000, .inl f8))] := hD
                        have hv8 := (row_len hpu (by rw [List.length_append, hlen]; show _ + 1 ≤ _; omega)).2
                        subst hv8
                        rw [List.append_assoc] at hpu
                        refine lv_iinc (v := nI (i + 1)) (lv' := [(5, .int (nI (i + 1))), (0, .ref cd), (1, .int (nI 3)), (2, .int (nI a1)), (3, .int (nI m1)), (4, .int (nI 0))]) hx hb dX8_copy_97 hl (k := 5) rfl (nI_add i 1) (by decide) rfl (fun ls hl => ?_)
                        refine lv_goto (tgt := 68) hx hb dX8_copy_100 (by decide) ?_
                        exact ih (i + 1) n8 f8 _ _ ls (by omega) (by omega) (hpu) (hP.sub [0, 1, 8, 9, 2, 3, 4, 5, 6, 7] rfl) (hD.sub [0, 1, 8, 9, 2, 3, 4, 5, 6, 7] (by decide) rfl) hS (lv_sub hl [1, 2, 3, 4, 5, 0] rfl)
                  exact loop _ 0 n0 f0 _ _ ls (Nat.lt_succ_self _) (Nat.zero_le _) (by rw [rgL, List.append_nil]; exact hr0) (hP.sub [0, 1, 8, 9, 2, 3, 4, 5, 6, 7] rfl) (hD.sub [0, 1, 8, 9, 2, 3, 4, 5, 6, 7] (by decide) rfl) hS (lv_sub hl [1, 2, 3, 4, 5, 0] rfl)
                · have hf9 : 4000 < (RL 0).length + m1 := by have := Nat.not_le.mp (fun q => c_45 (nI_le q (by omega))); omega
                  rw [if_pos (show rmN 0 < (RL 0).length + m1 from hf9)] at hfp
                  refine lv_bipush (v := -4) hx hb dX8_copy_62 (by decide) ?_
                  have hP := hP.sub (ws' := [(cd, .inr (8, [.ref rq, .ref wt, .ref wq, .ref mi, .ref mo, .ref ft, .ref ot, .ref gt, .ref rd, .ref tq, .ref wr, .ref s1, .ref s2, .int t0, .int t1, .int t2, .int t3])), (rq, .inl (cR, 4, .inr (.inr (.inr (.inr (rqF r0 r1 r2 r3)))))), (r0, .inr (4, [.ref o0, .int (nI n0), .int 0])), (o0, .inl (cI, 4000, .inl f0)), (r1, .inr (4, [.ref o1, .int (nI n1), .int 0])), (o1, .inl (cI, 4000, .inl f1)), (r2, .inr (4, [.ref o2, .int (nI n2), .int 0])), (o2, .inl (cI, 8000, .inl f2)), (r3, .inr (4, [.ref o3, .int (nI n3), .int 0])), (o3, .inl (cI, 8000, .inl f3))]) [0, 1, 8, 9, 2, 3, 4, 5, 6, 7] rfl
                  have hD := hD.sub (ws' := [(cd, .inr (8, [.ref rq, .ref wt, .ref wq, .ref mi, .ref mo, .ref ft, .ref ot, .ref gt, .ref rd, .ref tq, .ref wr, .ref s1, .ref s2, .int t0, .int t1, .int t2, .int t3])), (rq, .inl (cR, 4, .inr (.inr (.inr (.inr (rqF r0 r1 r2 r3)))))), (r0, .inr (4, [.ref o0, .int (nI n0), .int 0])), (o0, .inl (cI, 4000, .inl f0)), (r1, .inr (4, [.ref o1, .int (nI n1), .int 0])), (o1, .inl (cI, 4000, .inl f1)), (r2, .inr (4, [.ref o2, .int (nI n2), .int 0])), (o2, .inl (cI, 8000, .inl f2)), (r3, .inr (4, [.ref o3, .int (nI n3), .int 0])), (o3, .inl (cI, 8000, .inl f3))]) [0, 1, 8, 9, 2, 3, 4, 5, 6, 7] (by decide) rfl
                  exact hret 64 ls _ _ _ (n0, f0, n1, f1, n2, f2, n3, f3, RL) dX8_copy_64 hP hD hS (⟨hfp, hrw⟩)
              · have hny9 := rw_n1 hrw
                rw [hy1] at hl
                have hfp := cpyP_in (k := 3) (j := 1) (RL := RL) (by decide) (by decide) ha1 hm1
                have hfp : cpyP x a n y RL = _ := (by rw [hx3, hy1, hae, hme] : cpyP x a n y RL = cpyP (nI 3) (nI a1) (nI m1) (nI 1) RL).trans hfp
                rw [if_neg ho9] at hfp
                refine lv_iload_n hx hb dX8_copy_48 rfl (lv_at hl 3 rfl) ?_
                refine lv_aload_n hx hb dX8_copy_49 rfl (lv_at hl 0 rfl) ?_
                refine va_get (D := D) (ci := 8) (v := .ref rq) (C := RX8) (T := TX8) (N := 17) hx hb hts in_X8 hown hK hP 0 rfl rfl 0 (by decide) (hts _ kX8_11) (fun _ h9 => h9) rfl dX8_copy_50 ?_
                refine lv_iload hx hb dX8_copy_53 (lv_at hl 4 rfl) ?_
                refine ax_rld hx hb hK hP 1 3 rfl rfl 1 (rfl) (by decide) (by decide) rfl dX8_copy_55 ?_
                refine jn_i (wr := [(cd, .inr (8, [.ref rq, .ref wt, .ref wq, .ref mi, .ref mo, .ref ft, .ref ot, .ref gt, .ref rd, .ref tq, .ref wr, .ref s1, .ref s2, .int t0, .int t1, .int t2, .int t3])), (rq, .inl (cR, 4, .inr (.inr (.inr (.inr (rqF r0 r1 r2 r3)))))), (r0, .inr (4, [.ref o0, .int (nI n0), .int 0])), (o0, .inl (cI, 4000, .inl f0)), (r2, .inr (4, [.ref o2, .int (nI n2), .int 0])), (o2, .inl (cI, 8000, .inl f2)), (r3, .inr (4, [.ref o3, .int (nI n3), .int 0])), (o3, .inl (cI, 8000, .inl f3))]) hA hP hD hS [4, 5] [0, 1, 2, 3, 6, 7, 8, 9] rfl rfl (by decide) (by decide) (rn_V (As := []) (rest := [.int (nI m1)]) ⟨hx, hb, hml, hown, hts⟩ (cvV 0 hts zc_yX4_room zi_X4 zm_yX4_room zv_yX4_room kX8_85 (by decide +kernel) rfl rfl ⟨Nat.le_of_ble_eq_true rfl, Nat.le_of_ble_eq_true rfl⟩) (c_Row_room l D cI cB cJ cR r1 o1 4000 n1 f1 0 (by decide) (hny9.2) H.size) hK hNw hMk hA hP hD hS [4, 5] rfl rfl (by decide) 0 rfl rfl rfl rfl hl.1 rfl (Nat.le_of_ble_eq_true rfl) dX8_copy_56 ⟨Nat.le_of_ble_eq_true rfl, Nat.le_of_ble_eq_true rfl⟩) (fun rm u9 H locs hrm hP hD hS => ?_)
                try dsimp only at hrm
                have hP : va_P D vwCl [(cd, .inr (8, [.ref rq, .ref wt, .ref wq, .ref mi, .ref mo, .ref ft, .ref ot, .ref gt, .ref rd, .ref tq, .ref wr, .ref s1, .ref s2, .int t0, .int t1, .int t2, .int t3])), (rq, .inl (cR, 4, .inr (.inr (.inr (.inr (rqF r0 r1 r2 r3)))))), (r0, .inr (4, [.ref o0, .int (nI n0), .int 0])), (o0, .inl (cI, 4000, .inl f0)), (r2, .inr (4, [.ref o2, .int (nI n2), .int 0])), (o2, .inl (cI, 8000, .inl f2)), (r3, .inr (4, [.ref o3, .int (nI n3), .int 0])), (o3, .inl (cI, 8000, .inl f3)), (r1, .inr (4, [.ref o1, .int (nI n1), .int 0])), (o1, .inl (cI, 4000, .inl f1))] H := hP
                have hD : va_D A0 [(cd, .inr (8, [.ref rq, .ref wt, .ref wq, .ref mi, .ref mo, .ref ft, .ref ot, .ref gt, .ref rd, .ref tq, .ref wr, .ref s1, .ref s2, .int t0, .int t1, .int t2, .int t3])), (rq, .inl (cR, 4, .inr (.inr (.inr (.inr (rqF r0 r1 r2 r3)))))), (r0, .inr (4, [.ref o0, .int (nI n0), .int 0])), (o0, .inl (cI, 4000, .inl f0)), (r2, .inr (4, [.ref o2, .int (nI n2), .int 0])), (o2, .inl (cI, 8000, .inl f2)), (r3, .inr (4, [.ref o3, .int (nI n3), .int 0])), (o3, .inl (cI, 8000, .inl f3)), (r1, .inr (4, [.ref o1, .int (nI n1), .int 0])), (o1, .inl (cI, 4000, .inl f1))] := hD
                subst hrm
                refine lv_icmp_le (tgt := 65) hx hb dX8_copy_59 (by decide) (fun c_48 => ?_) (fun c_48 => ?_)
                · have hf9 : ¬ 4000 < (RL 1).length + m1 := by have := (nI_leI (by omega) (by omega)).mp c_48; omega
                  rw [if_neg (show ¬ rmN 1 < (RL 1).length + m1 from hf9)] at hfp
                  refine lv_iconst (v := 0) hx hb dX8_copy_65 (by decide) ?_
                  refine ri (y := nI 0) (nI_0.symm) ?_
                  refine lv_istore (lv' := [(5, .int (nI 0)), (0, .ref cd), (1, .int (nI 3)), (2, .int (nI a1)), (3, .int (nI m1)), (4, .int (nI 1))]) hx hb dX8_copy_66 hl (by decide) rfl (fun ls hl => ?_)
                  have loop : ∀ (k9 : Nat) (i : Nat) (n7 : Nat) (f7 : Nat → Int32) (H : Heap) (locs : List Loc) (ls : Array Slot), m1 - i < k9 → (i ≤ m1) → (rowIs 4000 (RL 1 ++ rgL (gD (RL 3)) a1 i) n7 f7 0) → va_P D vwCl [(cd, .inr (8, [.ref rq, .ref wt, .ref wq, .ref mi, .ref mo, .ref ft, .ref ot, .ref gt, .ref rd, .ref tq, .ref wr, .ref s1, .ref s2, .int t0, .int t1, .int t2, .int t3])), (rq, .inl (cR, 4, .inr (.inr (.inr (.inr (rqF r0 r1 r2 r3)))))), (r0, .inr (4, [.ref o0, .int (nI n0), .int 0])), (o0, .inl (cI, 4000, .inl f0)), (r1, .inr (4, [.ref o1, .int (nI n7), .int 0])), (o1, .inl (cI, 4000, .inl f7)), (r2, .inr (4, [.ref o2, .int (nI n2), .int 0])), (o2, .inl (cI, 8000, .inl f2)), (r3, .inr (4, [.ref o3, .int (nI n3), .int 0])), (o3, .inl (cI, 8000, .inl f3))] H → va_D A0 [(cd, .inr (8, [.ref rq, .ref wt, .ref wq, .ref mi, .ref mo, .ref ft, .ref ot, .ref gt, .ref rd, .ref tq, .ref wr, .ref s1, .ref s2, .int t0, .int t1, .int t2, .int t3])), (rq, .inl (cR, 4, .inr (.inr (.inr (.inr (rqF r0 r1 r2 r3)))))), (r0, .inr (4, [.ref o0, .int (nI n0), .int 0])), (o0, .inl (cI, 4000, .inl f0)), (r1, .inr (4, [.ref o1, .int (nI n7), .int 0])), (o1, .inl (cI, 4000, .inl f7)), (r2, .inr (4, [.ref o2, .int (nI n2), .int 0])), (o2, .inl (cI, 8000, .inl f2)), (r3, .inr (4, [.ref o3, .int (nI n3), .int 0])), (o3, .inl (cI, 8000, .inl f3))] → va_S A0 s0.heap H locs → lv_has ls 6 [(0, .ref cd), (1, .int (nI 3)), (2, .int (nI a1)), (3, .int (nI m1)), (4, .int (nI 1)), (5, .int (nI i))] → W p0 l e0 ({ frames := 1, cells := 0, slots := 0, locals := 21 }) s0 m0 ([.ref cd, .int x, .int a, .int n, .int y] : List Value).toArray below meth c0 H locs 0 0 Q0 (F0 m0 68 ls []) := by
                    intro k9
                    induction k9 with
                    | zero => intro i n7 f7 H locs ls hk9; exact absurd hk9 (Nat.not_lt_zero _)
                    | succ k9 ih =>
                      intro i n7 f7 H locs ls hk9 him hr7 hP hD hS hl
                      have hlen : (RL 1 ++ rgL (gD (RL 3)) a1 i).length = (RL 1).length + i := by rw [List.length_append, rgL_len]
                      have hw9 := (row_len hr7 (by omega)).1
                      refine lv_iload hx hb dX8_copy_68 (lv_at hl 5 rfl) ?_
                      refine lv_iload_n hx hb dX8_copy_70 rfl (lv_at hl 3 rfl) ?_
                      refine lv_icmp_ge (tgt := 103) hx hb dX8_copy_71 (by decide) (fun c_49 => ?_) (fun c_49 => ?_)
                      · have hi9 : i = m1 := by have := (nI_leI (by omega) (by omega)).mp c_49; omega
                        subst hi9
                        rw [hlen] at hw9
                        subst hw9
                        refine lv_aload_n hx hb dX8_copy_103 rfl (lv_at hl 0 rfl) ?_
                        refine va_get (D := D) (ci := 8) (v := .ref rq) (C := RX8) (T := TX8) (N := 17) hx hb hts in_X8 hown hK hP 0 rfl rfl 0 (by decide) (hts _ kX8_11) (fun _ h9 => h9) rfl dX8_copy_104 ?_
                        refine lv_iload hx hb dX8_copy_107 (lv_at hl 4 rfl) ?_
                        refine ax_rld hx hb hK hP 1 3 rfl rfl 1 (rfl) (by decide) (by decide) rfl dX8_copy_109 ?_
                        refine va_get (D := D) (ci := 4) (v := .int (nI ((RL 1).length + i))) (C := RX4) (T := TX4) (N := 3) hx hb hts in_X4 hown hK hP 4 rfl rfl 1 (by decide) (hts _ kX8_92) (fun _ h9 => h9) rfl dX8_copy_110 ?_
                        exact hret 113 ls _ _ _ (n0, f0, (RL 1).length + i, f7, n2, f2, n3, f3, va_up RL 1 (RL 1 ++ rgL (gD (RL 3)) a1 i)) dX8_copy_113 hP hD hS (⟨hfp, rwOk_1 hrw hr7 (by omega)⟩)
                      · have hi9 : i < m1 := Nat.not_le.mp (fun q => c_49 (nI_le q (by omega)))
                        refine lv_aload_n hx hb dX8_copy_74 rfl (lv_at hl 0 rfl) ?_
                        refine va_get (D := D) (ci := 8) (v := .ref rq) (C := RX8) (T := TX8) (N := 17) hx hb hts in_X8 hown hK hP 0 rfl rfl 0 (by decide) (hts _ kX8_11) (fun _ h9 => h9) rfl dX8_copy_75 ?_
                        refine lv_iload hx hb dX8_copy_78 (lv_at hl 4 rfl) ?_
                        refine ax_rld hx hb hK hP 1 3 rfl rfl 1 (rfl) (by decide) (by decide) rfl dX8_copy_80 ?_
                        refine lv_aload_n hx hb dX8_copy_81 rfl (lv_at hl 0 rfl) ?_
                        refine va_get (D := D) (ci := 8) (v := .ref rq) (C := RX8) (T := TX8) (N := 17) hx hb hts in_X8 hown hK hP 0 rfl rfl 0 (by decide) (hts _ kX8_11) (fun _ h9 => h9) rfl dX8_copy_82 ?_
                        refine lv_iload_n hx hb dX8_copy_85 rfl (lv_at hl 1 rfl) ?_
                        refine ax_rld hx hb hK hP 1 3 rfl rfl 3 (rfl) (by decide) (by decide) rfl dX8_copy_86 ?_
                        refine lv_iload_n hx hb dX8_copy_87 rfl (lv_at hl 2 rfl) ?_
                        refine lv_iload hx hb dX8_copy_88 (lv_at hl 5 rfl) ?_
                        refine lv_iadd hx hb dX8_copy_90 ?_
                        refine ri (y := nI (a1 + i)) (nI_add a1 i) ?_
                        refine jn_i (wr := [(cd, .inr (8, [.ref rq, .ref wt, .ref wq, .ref mi, .ref mo, .ref ft, .ref ot, .ref gt, .ref rd, .ref tq, .ref wr, .ref s1, .ref s2, .int t0, .int t1, .int t2, .int t3])), (rq, .inl (cR, 4, .inr (.inr (.inr (.inr (rqF r0 r1 r2 r3)))))), (r0, .inr (4, [.ref o0, .int (nI n0), .int 0])), (o0, .inl (cI, 4000, .inl f0)), (r1, .inr (4, [.ref o1, .int (nI n7), .int 0])), (o1, .inl (cI, 4000, .inl f7)), (r2, .inr (4, [.ref o2, .int (nI n2), .int 0])), (o2, .inl (cI, 8000, .inl f2))]) hA hP hD hS [8, 9] [0, 1, 2, 3, 4, 5, 6, 7] rfl rfl (by decide) (by decide) (rn_V (As := [.int (nI (a1 + i))]) (rest := [.ref r1]) ⟨hx, hb, hml, hown, hts⟩ (cvV 1 hts zc_yX4_at zi_X4 zm_yX4_at zv_yX4_at kX8_102 (by decide +kernel) rfl rfl ⟨Nat.le_of_ble_eq_true rfl, Nat.le_of_ble_eq_true rfl⟩) (c_Row_at l D cI cB cJ cR r3 o3 8000 n3 f3 0 (nI (a1 + i)) (by decide) (by omega) H.size) hK hNw hMk hA hP hD hS [8, 9] rfl rfl (by decide) 0 rfl rfl rfl rfl hl.1 rfl (Nat.le_of_ble_eq_true rfl) dX8_copy_91 ⟨Nat.le_of_ble_eq_true rfl, Nat.le_of_ble_eq_true rfl⟩) (fun ra u9 H locs hra hP hD hS => ?_)
                        try dsimp only at hra
                        have hP : va_P D vwCl [(cd, .inr (8, [.ref rq, .ref wt, .ref wq, .ref mi, .ref mo, .ref ft, .ref ot, .ref gt, .ref rd, .ref tq, .ref wr, .ref s1, .ref s2, .int t0, .int t1, .int t2, .int t3])), (rq, .inl (cR, 4, .inr (.inr (.inr (.inr (rqF r0 r1 r2 r3)))))), (r0, .inr (4, [.ref o0, .int (nI n0), .int 0])), (o0, .inl (cI, 4000, .inl f0)), (r1, .inr (4, [.ref o1, .int (nI n7), .int 0])), (o1, .inl (cI, 4000, .inl f7)), (r2, .inr (4, [.ref o2, .int (nI n2), .int 0])), (o2, .inl (cI, 8000, .inl f2)), (r3, .inr (4, [.ref o3, .int (nI n3), .int 0])), (o3, .inl (cI, 8000, .inl f3))] H := hP
                        have hD : va_D A0 [(cd, .inr (8, [.ref rq, .ref wt, .ref wq, .ref mi, .ref mo, .ref ft, .ref ot, .ref gt, .ref rd, .ref tq, .ref wr, .ref s1, .ref s2, .int t0, .int t1, .int t2, .int t3])), (rq, .inl (cR, 4, .inr (.inr (.inr (.inr (rqF r0 r1 r2 r3)))))), (r0, .inr (4, [.ref o0, .int (nI n0), .int 0])), (o0, .inl (cI, 4000, .inl f0)), (r1, .inr (4, [.ref o1, .int (nI n7), .int 0])), (o1, .inl (cI, 4000, .inl f7)), (r2, .inr (4, [.ref o2, .int (nI n2), .int 0])), (o2, .inl (cI, 8000, .inl f2)), (r3, .inr (4, [.ref o3, .int (nI n3), .int 0])), (o3, .inl (cI, 8000, .inl f3))] := hD
                        have hv9 : ra = gD (RL 3) (a1 + i) := by rw [hra, if_pos (inB_t (by omega) (by omega)), nI_clamp (by omega)]; exact hr3.2.2 _ (by omega)
                        subst hv9
                        refine jn_v (wr := [(cd, .inr (8, [.ref rq, .ref wt, .ref wq, .ref mi, .ref mo, .ref ft, .ref ot, .ref gt, .ref rd, .ref tq, .ref wr, .ref s1, .ref s2, .int t0, .int t1, .int t2, .int t3])), (rq, .inl (cR, 4, .inr (.inr (.inr (.inr (rqF r0 r1 r2 r3)))))), (r0, .inr (4, [.ref o0, .int (nI n0), .int 0])), (o0, .inl (cI, 4000, .inl f0)), (r2, .inr (4, [.ref o2, .int (nI n2), .int 0])), (o2, .inl (cI, 8000, .inl f2)), (r3, .inr (4, [.ref o3, .int (nI n3), .int 0])), (o3, .inl (cI, 8000, .inl f3))]) hA hP hD hS [4, 5] [0, 1, 2, 3, 6, 7, 8, 9] rfl rfl (by decide) (by decide) (rn_V (As := [.int (gD (RL 3) (a1 + i))]) (rest := []) ⟨hx, hb, hml, hown, hts⟩ (cvV 1 hts zc_yX4_put zi_X4 zm_yX4_put zv_yX4_put kX8_89 (by decide +kernel) rfl rfl ⟨Nat.le_of_ble_eq_true rfl, Nat.le_of_ble_eq_true rfl⟩) (c_Row_put l D cI cB cJ cR r1 o1 4000 n7 f7 0 (RL 1 ++ rgL (gD (RL 3)) a1 i) (gD (RL 3) (a1 + i)) (by decide) (hr7) H.size) hK hNw hMk hA hP hD hS [4, 5] rfl rfl (by decide) 0 rfl rfl rfl rfl hl.1 rfl (Nat.le_of_ble_eq_true rfl) dX8_copy_94 ⟨Nat.le_of_ble_eq_true rfl, Nat.le_of_ble_eq_true rfl⟩) (fun u9 H locs hpu hP hD hS => ?_)
                        obtain ⟨n8, f8, v8⟩ := u9
                        try dsimp only at hpu
                        have hP : va_P D vwCl [(cd, .inr (8, [.ref rq, .ref wt, .ref wq, .ref mi, .ref mo, .ref ft, .ref ot, .ref gt, .ref rd, .ref tq, .ref wr, .ref s1, .ref s2, .int t0, .int t1, .int t2, .int t3])), (rq, .inl (cR, 4, .inr (.inr (.inr (.inr (rqF r0 r1 r2 r3)))))), (r0, .inr (4, [.ref o0, .int (nI n0), .int 0])), (o0, .inl (cI, 4000, .inl f0)), (r2, .inr (4, [.ref o2, .int (nI n2), .int 0])), (o2, .inl (cI, 8000, .inl f2)), (r3, .inr (4, [.ref o3, .int (nI n3), .int 0])), (o3, .inl (cI, 8000, .inl f3)), (r1, .inr (4, [.ref o1, .int (nI n8), .int v8])), (o1, .inl (cI, 4000, .inl f8))] H := hP
                        have hD : va_D A0 [(cd, .inr (8, [.ref rq, .ref wt, .ref wq, .ref mi, .ref mo, .ref ft, .ref ot, .ref gt, .ref rd, .ref tq, .ref wr, .ref s1, .ref s2, .int t0, .int t1, .int t2, .int t3])), (rq, .inl (cR, 4, .inr (.inr (.inr (.inr (rqF r0 r1 r2 r3)))))), (r0, .inr (4, [.ref o0, .int (nI n0), .int 0])), (o0, .inl (cI, 4000, .inl f0)), (r2, .inr (4, [.ref o2, .int (nI n2), .int 0])), (o2, .inl (cI, 8000, .inl f2)), (r3, .inr (4, [.ref o3, .int (nI n3), .int 0])), (o3, .inl (cI, 8000, .inl f3)), (r1, .inr (4, [.ref o1, .int (nI n8), .int v8])), (o1, .inl (cI, 4000, .inl f8))] := hD
                        have hv8 := (row_len hpu (by rw [List.length_append, hlen]; show _ + 1 ≤ _; omega)).2
                        subst hv8
                        rw [List.append_assoc] at hpu
                        refine lv_iinc (v := nI (i + 1)) (lv' := [(5, .int (nI (i + 1))), (0, .ref cd), (1, .int (nI 3)), (2, .int (nI a1)), (3, .int (nI m1)), (4, .int (nI 1))]) hx hb dX8_copy_97 hl (k := 5) rfl (nI_add i 1) (by decide) rfl (fun ls hl => ?_)
                        refine lv_goto (tgt := 68) hx hb dX8_copy_100 (by decide) ?_
                        exact ih (i + 1) n8 f8 _ _ ls (by omega) (by omega) (hpu) (hP.sub [0, 1, 2, 3, 8, 9, 4, 5, 6, 7] rfl) (hD.sub [0, 1, 2, 3, 8, 9, 4, 5, 6, 7] (by decide) rfl) hS (lv_sub hl [1, 2, 3, 4, 5, 0] rfl)
                  exact loop _ 0 n1 f1 _ _ ls (Nat.lt_succ_self _) (Nat.zero_le _) (by rw [rgL, List.append_nil]; exact hr1) (hP.sub [0, 1, 2, 3, 8, 9, 4, 5, 6, 7] rfl) (hD.sub [0, 1, 2, 3, 8, 9, 4, 5, 6, 7] (by decide) rfl) hS (lv_sub hl [1, 2, 3, 4, 5, 0] rfl)
                · have hf9 : 4000 < (RL 1).length + m1 := by have := Nat.not_le.mp (fun q => c_48 (nI_le q (by omega))); omega
                  rw [if_pos (show rmN 1 < (RL 1).length + m1 from hf9)] at hfp
                  refine lv_bipush (v := -4) hx hb dX8_copy_62 (by decide) ?_
                  have hP := hP.sub (ws' := [(cd, .inr (8, [.ref rq, .ref wt, .ref wq, .ref mi, .ref mo, .ref ft, .ref ot, .ref gt, .ref rd, .ref tq, .ref wr, .ref s1, .ref s2, .int t0, .int t1, .int t2, .int t3])), (rq, .inl (cR, 4, .inr (.inr (.inr (.inr (rqF r0 r1 r2 r3)))))), (r0, .inr (4, [.ref o0, .int (nI n0), .int 0])), (o0, .inl (cI, 4000, .inl f0)), (r1, .inr (4, [.ref o1, .int (nI n1), .int 0])), (o1, .inl (cI, 4000, .inl f1)), (r2, .inr (4, [.ref o2, .int (nI n2), .int 0])), (o2, .inl (cI, 8000, .inl f2)), (r3, .inr (4, [.ref o3, .int (nI n3), .int 0])), (o3, .inl (cI, 8000, .inl f3))]) [0, 1, 2, 3, 8, 9, 4, 5, 6, 7] rfl
                  have hD := hD.sub (ws' := [(cd, .inr (8, [.ref rq, .ref wt, .ref wq, .ref mi, .ref mo, .ref ft, .ref ot, .ref gt, .ref rd, .ref tq, .ref wr, .ref s1, .ref s2, .int t0, .int t1, .int t2, .int t3])), (rq, .inl (cR, 4, .inr (.inr (.inr (.inr (rqF r0 r1 r2 r3)))))), (r0, .inr (4, [.ref o0, .int (nI n0), .int 0])), (o0, .inl (cI, 4000, .inl f0)), (r1, .inr (4, [.ref o1, .int (nI n1), .int 0])), (o1, .inl (cI, 4000, .inl f1)), (r2, .inr (4, [.ref o2, .int (nI n2), .int 0])), (o2, .inl (cI, 8000, .inl f2)), (r3, .inr (4, [.ref o3, .int (nI n3), .int 0])), (o3, .inl (cI, 8000, .inl f3))]) [0, 1, 2, 3, 8, 9, 4, 5, 6, 7] (by decide) rfl
                  exact hret 64 ls _ _ _ (n0, f0, n1, f1, n2, f2, n3, f3, RL) dX8_copy_64 hP hD hS (⟨hfp, hrw⟩)
              · have hny9 := rw_n2 hrw
                rw [hy2] at hl
                have hfp := cpyP_in (k := 3) (j := 2) (RL := RL) (by decide) (by decide) ha1 hm1
                have hfp : cpyP x a n y RL = _ := (by rw [hx3, hy2, hae, hme] : cpyP x a n y RL = cpyP (nI 3) (nI a1) (nI m1) (nI 2) RL).trans hfp
                rw [if_neg ho9] at hfp
                refine lv_iload_n hx hb dX8_copy_48 rfl (lv_at hl 3 rfl) ?_
                refine lv_aload_n hx hb dX8_copy_49 rfl (lv_at hl 0 rfl) ?_
                refine va_get (D := D) (ci := 8) (v := .ref rq) (C := RX8) (T := TX8) (N := 17) hx hb hts in_X8 hown hK hP 0 rfl rfl 0 (by decide) (hts _ kX8_11) (fun _ h9 => h9) rfl dX8_copy_50 ?_
                refine lv_iload hx hb dX8_copy_53 (lv_at hl 4 rfl) ?_
                refine ax_rld hx hb hK hP 1 3 rfl rfl 2 (rfl) (by decide) (by decide) rfl dX8_copy_55 ?_
                refine jn_i (wr := [(cd, .inr (8, [.ref rq, .ref wt, .ref wq, .ref mi, .ref mo, .ref ft, .ref ot, .ref gt, .ref rd, .ref tq, .ref wr, .ref s1, .ref s2, .int t0, .int t1, .int t2, .int t3])), (rq, .inl (cR, 4, .inr (.inr (.inr (.inr (rqF r0 r1 r2 r3)))))), (r0, .inr (4, [.ref o0, .int (nI n0), .int 0])), (o0, .inl (cI, 4000, .inl f0)), (r1, .inr (4, [.ref o1, .int (nI n1), .int 0])), (o1, .inl (cI, 4000, .inl f1)), (r3, .inr (4, [.ref o3, .int (nI n3), .int 0])), (o3, .inl (cI, 8000, .inl f3))]) hA hP hD hS [6, 7] [0, 1, 2, 3, 4, 5, 8, 9] rfl rfl (by decide) (by decide) (rn_V (As := []) (rest := [.int (nI m1)]) ⟨hx, hb, hml, hown, hts⟩ (cvV 0 hts zc_yX4_room zi_X4 zm_yX4_room zv_yX4_room kX8_85 (by decide +kernel) rfl rfl ⟨Nat.le_of_ble_eq_true rfl, Nat.le_of_ble_eq_true rfl⟩) (c_Row_room l D cI cB cJ cR r2 o2 8000 n2 f2 0 (by decide) (hny9.2) H.size) hK hNw hMk hA hP hD hS [6, 7] rfl rfl (by decide) 0 rfl rfl rfl rfl hl.1 rfl (Nat.le_of_ble_eq_true rfl) dX8_copy_56 ⟨Nat.le_of_ble_eq_true rfl, Nat.le_of_ble_eq_true rfl⟩) (fun rm u9 H locs hrm hP hD hS => ?_)
                try dsimp only at hrm
                have hP : va_P D vwCl [(cd, .inr (8, [.ref rq, .ref wt, .ref wq, .ref mi, .ref mo, .ref ft, .ref ot, .ref gt, .ref rd, .ref tq, .ref wr, .ref s1, .ref s2, .int t0, .int t1, .int t2, .int t3])), (rq, .inl (cR, 4, .inr (.inr (.inr (.inr (rqF r0 r1 r2 r3)))))), (r0, .inr (4, [.ref o0, .int (nI n0), .int 0])), (o0, .inl (cI, 4000, .inl f0)), (r1, .inr (4, [.ref o1, .int (nI n1), .int 0])), (o1, .inl (cI, 4000, .inl f1)), (r3, .inr (4, [.ref o3, .int (nI n3), .int 0])), (o3, .inl (cI, 8000, .inl f3)), (r2, .inr (4, [.ref o2, .int (nI n2), .int 0])), (o2, .inl (cI, 8000, .inl f2))] H := hP
                have hD : va_D A0 [(cd, .inr (8, [.ref rq, .ref wt, .ref wq, .ref mi, .ref mo, .ref ft, .ref ot, .ref gt, .ref rd, .ref tq, .ref wr, .ref s1, .ref s2, .int t0, .int t1, .int t2, .int t3])), (rq, .inl (cR, 4, .inr (.inr (.inr (.inr (rqF r0 r1 r2 r3)))))), (r0, .inr (4, [.ref o0, .int (nI n0), .int 0])), (o0, .inl (cI, 4000, .inl f0)), (r1, .inr (4, [.ref o1, .int (nI n1), .int 0])), (o1, .inl (cI, 4000, .inl f1)), (r3, .inr (4, [.ref o3, .int (nI n3), .int 0])), (o3, .inl (cI, 8000, .inl f3)), (r2, .inr (4, [.ref o2, .int (nI n2), .int 0])), (o2, .inl (cI, 8000, .inl f2))] := hD
                subst hrm
                refine lv_icmp_le (tgt := 65) hx hb dX8_copy_59 (by decide) (fun c_51 => ?_) (fun c_51 => ?_)
                · have hf9 : ¬ 8000 < (RL 2).length + m1 := by have := (nI_leI (by omega) (by omega)).mp c_51; omega
                  rw [if_neg (show ¬ rmN 2 < (RL 2).length + m1 from hf9)] at hfp
                  refine lv_iconst (v := 0) hx hb dX8_copy_65 (by decide) ?_
                  refine ri (y := nI 0) (nI_0.symm) ?_
                  refine lv_istore (lv' := [(5, .int (nI 0)), (0, .ref cd), (1, .int (nI 3)), (2, .int (nI a1)), (3, .int (nI m1)), (4, .int (nI 2))]) hx hb dX8_copy_66 hl (by decide) rfl (fun ls hl => ?_)
                  have loop : ∀ (k9 : Nat) (i : Nat) (n7 : Nat) (f7 : Nat → Int32) (H : Heap) (locs : List Loc) (ls : Array Slot), m1 - i < k9 → (i ≤ m1) → (rowIs 8000 (RL 2 ++ rgL (gD (RL 3)) a1 i) n7 f7 0) → va_P D vwCl [(cd, .inr (8, [.ref rq, .ref wt, .ref wq, .ref mi, .ref mo, .ref ft, .ref ot, .ref gt, .ref rd, .ref tq, .ref wr, .ref s1, .ref s2, .int t0, .int t1, .int t2, .int t3])), (rq, .inl (cR, 4, .inr (.inr (.inr (.inr (rqF r0 r1 r2 r3)))))), (r0, .inr (4, [.ref o0, .int (nI n0), .int 0])), (o0, .inl (cI, 4000, .inl f0)), (r1, .inr (4, [.ref o1, .int (nI n1), .int 0])), (o1, .inl (cI, 4000, .inl f1)), (r2, .inr (4, [.ref o2, .int (nI n7), .int 0])), (o2, .inl (cI, 8000, .inl f7)), (r3, .inr (4, [.ref o3, .int (nI n3), .int 0])), (o3, .inl (cI, 8000, .inl f3))] H → va_D A0 [(cd, .inr (8, [.ref rq, .ref wt, .ref wq, .ref mi, .ref mo, .ref ft, .ref ot, .ref gt, .ref rd, .ref tq, .ref wr, .ref s1, .ref s2, .int t0, .int t1, .int t2, .int t3])), (rq, .inl (cR, 4, .inr (.inr (.inr (.inr (rqF r0 r1 r2 r3)))))), (r0, .inr (4, [.ref o0, .int (nI n0), .int 0])), (o0, .inl (cI, 4000, .inl f0)), (r1, .inr (4, [.ref o1, .int (nI n1), .int 0])), (o1, .inl (cI, 4000, .inl f1)), (r2, .inr (4, [.ref o2, .int (nI n7), .int 0])), (o2, .inl (cI, 8000, .inl f7)), (r3, .inr (4, [.ref o3, .int (nI n3), .int 0])), (o3, .inl (cI, 8000, .inl f3))] → va_S A0 s0.heap H locs → lv_has ls 6 [(0, .ref cd), (1, .int (nI 3)), (2, .int (nI a1)), (3, .int (nI m1)), (4, .int (nI 2)), (5, .int (nI i))] → W p0 l e0 ({ frames := 1, cells := 0, slots := 0, locals := 21 }) s0 m0 ([.ref cd, .int x, .int a, .int n, .int y] : List Value).toArray below meth c0 H locs 0 0 Q0 (F0 m0 68 ls []) := by
                    intro k9
                    induction k9 with
                    | zero => intro i n7 f7 H locs ls hk9; exact absurd hk9 (Nat.not_lt_zero _)
                    | succ k9 ih =>
                      intro i n7 f7 H locs ls hk9 him hr7 hP hD hS hl
                      have hlen : (RL 2 ++ rgL (gD (RL 3)) a1 i).length = (RL 2).length + i := by rw [List.length_append, rgL_len]
                      have hw9 := (row_len hr7 (by omega)).1
                      refine lv_iload hx hb dX8_copy_68 (lv_at hl 5 rfl) ?_
                      refine lv_iload_n hx hb dX8_copy_70 rfl (lv_at hl 3 rfl) ?_
                      refine lv_icmp_ge (tgt := 103) hx hb dX8_copy_71 (by decide) (fun c_52 => ?_) (fun c_52 => ?_)
                      · have hi9 : i = m1 := by have := (nI_leI (by omega) (by omega)).mp c_52; omega
                        subst hi9
                        rw [hlen] at hw9
                        subst hw9
                        refine lv_aload_n hx hb dX8_copy_103 rfl (lv_at hl 0 rfl) ?_
                        refine va_get (D := D) (ci := 8) (v := .ref rq) (C := RX8) (T := TX8) (N := 17) hx hb hts in_X8 hown hK hP 0 rfl rfl 0 (by decide) (hts _ kX8_11) (fun _ h9 => h9) rfl dX8_copy_104 ?_
                        refine lv_iload hx hb dX8_copy_107 (lv_at hl 4 rfl) ?_
                        refine ax_rld hx hb hK hP 1 3 rfl rfl 2 (rfl) (by decide) (by decide) rfl dX8_copy_109 ?_
                        refine va_get (D := D) (ci := 4) (v := .int (nI ((RL 2).length + i))) (C := RX4) (T := TX4) (N := 3) hx hb hts in_X4 hown hK hP 6 rfl rfl 1 (by decide) (hts _ kX8_92) (fun _ h9 => h9) rfl dX8_copy_110 ?_
                        exact hret 113 ls _ _ _ (n0, f0, n1, f1, (RL 2).length + i, f7, n3, f3, va_up RL 2 (RL 2 ++ rgL (gD (RL 3)) a1 i)) dX8_copy_113 hP hD hS (⟨hfp, rwOk_2 hrw hr7 (by omega)⟩)
                      · have hi9 : i < m1 := Nat.not_le.mp (fun q => c_52 (nI_le q (by omega)))
                        refine lv_aload_n hx hb dX8_copy_74 rfl (lv_at hl 0 rfl) ?_
                        refine va_get (D := D) (ci := 8) (v := .ref rq) (C := RX8) (T := TX8) (N := 17) hx hb hts in_X8 hown hK hP 0 rfl rfl 0 (by decide) (hts _ kX8_11) (fun _ h9 => h9) rfl dX8_copy_75 ?_
                        refine lv_iload hx hb dX8_copy_78 (lv_at hl 4 rfl) ?_
                        refine ax_rld hx hb hK hP 1 3 rfl rfl 2 (rfl) (by decide) (by decide) rfl dX8_copy_80 ?_
                        refine lv_aload_n hx hb dX8_copy_81 rfl (lv_at hl 0 rfl) ?_
                        refine va_get (D := D) (ci := 8) (v := .ref rq) (C := RX8) (T := TX8) (N := 17) hx hb hts in_X8 hown hK hP 0 rfl rfl 0 (by decide) (hts _ kX8_11) (fun _ h9 => h9) rfl dX8_copy_82 ?_
                        refine lv_iload_n hx hb dX8_copy_85 rfl (lv_at hl 1 rfl) ?_
                        refine ax_rld hx hb hK hP 1 3 rfl rfl 3 (rfl) (by decide) (by decide) rfl dX8_copy_86 ?_
                        refine lv_iload_n hx hb dX8_copy_87 rfl (lv_at hl 2 rfl) ?_
                        refine lv_iload hx hb dX8_copy_88 (lv_at hl 5 rfl) ?_
                        refine lv_iadd hx hb dX8_copy_90 ?_
                        refine ri (y := nI (a1 + i)) (nI_add a1 i) ?_
                        refine jn_i (wr := [(cd, .inr (8, [.ref rq, .ref wt, .ref wq, .ref mi, .ref mo, .ref ft, .ref ot, .ref gt, .ref rd, .ref tq, .ref wr, .ref s1, .ref s2, .int t0, .int t1, .int t2, .int t3])), (rq, .inl (cR, 4, .inr (.inr (.inr (.inr (rqF r0 r1 r2 r3)))))), (r0, .inr (4, [.ref o0, .int (nI n0), .int 0])), (o0, .inl (cI, 4000, .inl f0)), (r1, .inr (4, [.ref o1, .int (nI n1), .int 0])), (o1, .inl (cI, 4000, .inl f1)), (r2, .inr (4, [.ref o2, .int (nI n7), .int 0])), (o2, .inl (cI, 8000, .inl f7))]) hA hP hD hS [8, 9] [0, 1, 2, 3, 4, 5, 6, 7] rfl rfl (by decide) (by decide) (rn_V (As := [.int (nI (a1 + i))]) (rest := [.ref r2]) ⟨hx, hb, hml, hown, hts⟩ (cvV 1 hts zc_yX4_at zi_X4 zm_yX4_at zv_yX4_at kX8_102 (by decide +kernel) rfl rfl ⟨Nat.le_of_ble_eq_true rfl, Nat.le_of_ble_eq_true rfl⟩) (c_Row_at l D cI cB cJ cR r3 o3 8000 n3 f3 0 (nI (a1 + i)) (by decide) (by omega) H.size) hK hNw hMk hA hP hD hS [8, 9] rfl rfl (by decide) 0 rfl rfl rfl rfl hl.1 rfl (Nat.le_of_ble_eq_true rfl) dX8_copy_91 ⟨Nat.le_of_ble_eq_true rfl, Nat.le_of_ble_eq_true rfl⟩) (fun ra u9 H locs hra hP hD hS => ?_)
                        try dsimp only at hra
                        have hP : va_P D vwCl [(cd, .inr (8, [.ref rq, .ref wt, .ref wq, .ref mi, .ref mo, .ref ft, .ref ot, .ref gt, .ref rd, .ref tq, .ref wr, .ref s1, .ref s2, .int t0, .int t1, .int t2, .int t3])), (rq, .inl (cR, 4, .inr (.inr (.inr (.inr (rqF r0 r1 r2 r3)))))), (r0, .inr (4, [.ref o0, .int (nI n0), .int 0])), (o0, .inl (cI, 4000, .inl f0)), (r1, .inr (4, [.ref o1, .int (nI n1), .int 0])), (o1, .inl (cI, 4000, .inl f1)), (r2, .inr (4, [.ref o2, .int (nI n7), .int 0])), (o2, .inl (cI, 8000, .inl f7)), (r3, .inr (4, [.ref o3, .int (nI n3), .int 0])), (o3, .inl (cI, 8000, .inl f3))] H := hP
                        have hD : va_D A0 [(cd, .inr (8, [.ref rq, .ref wt, .ref wq, .ref mi, .ref mo, .ref ft, .ref ot, .ref gt, .ref rd, .ref tq, .ref wr, .ref s1, .ref s2, .int t0, .int t1, .int t2, .int t3])), (rq, .inl (cR, 4, .inr (.inr (.inr (.inr (rqF r0 r1 r2 r3)))))), (r0, .inr (4, [.ref o0, .int (nI n0), .int 0])), (o0, .inl (cI, 4000, .inl f0)), (r1, .inr (4, [.ref o1, .int (nI n1), .int 0])), (o1, .inl (cI, 4000, .inl f1)), (r2, .inr (4, [.ref o2, .int (nI n7), .int 0])), (o2, .inl (cI, 8000, .inl f7)), (r3, .inr (4, [.ref o3, .int (nI n3), .int 0])), (o3, .inl (cI, 8000, .inl f3))] := hD
                        have hv9 : ra = gD (RL 3) (a1 + i) := by rw [hra, if_pos (inB_t (by omega) (by omega)), nI_clamp (by omega)]; exact hr3.2.2 _ (by omega)
                        subst hv9
                        refine jn_v (wr := [(cd, .inr (8, [.ref rq, .ref wt, .ref wq, .ref mi, .ref mo, .ref ft, .ref ot, .ref gt, .ref rd, .ref tq, .ref wr, .ref s1, .ref s2, .int t0, .int t1, .int t2, .int t3])), (rq, .inl (cR, 4, .inr (.inr (.inr (.inr (rqF r0 r1 r2 r3)))))), (r0, .inr (4, [.ref o0, .int (nI n0), .int 0])), (o0, .inl (cI, 4000, .inl f0)), (r1, .inr (4, [.ref o1, .int (nI n1), .int 0])), (o1, .inl (cI, 4000, .inl f1)), (r3, .inr (4, [.ref o3, .int (nI n3), .int 0])), (o3, .inl (cI, 8000, .inl f3))]) hA hP hD hS [6, 7] [0, 1, 2, 3, 4, 5, 8, 9] rfl rfl (by decide) (by decide) (rn_V (As := [.int (gD (RL 3) (a1 + i))]) (rest := []) ⟨hx, hb, hml, hown, hts⟩ (cvV 1 hts zc_yX4_put zi_X4 zm_yX4_put zv_yX4_put kX8_89 (by decide +kernel) rfl rfl ⟨Nat.le_of_ble_eq_true rfl, Nat.le_of_ble_eq_true rfl⟩) (c_Row_put l D cI cB cJ cR r2 o2 8000 n7 f7 0 (RL 2 ++ rgL (gD (RL 3)) a1 i) (gD (RL 3) (a1 + i)) (by decide) (hr7) H.size) hK hNw hMk hA hP hD hS [6, 7] rfl rfl (by decide) 0 rfl rfl rfl rfl hl.1 rfl (Nat.le_of_ble_eq_true rfl) dX8_copy_94 ⟨Nat.le_of_ble_eq_true rfl, Nat.le_of_ble_eq_true rfl⟩) (fun u9 H locs hpu hP hD hS => ?_)
                        obtain ⟨n8, f8, v8⟩ := u9
                        try dsimp only at hpu
                        have hP : va_P D vwCl [(cd, .inr (8, [.ref rq, .ref wt, .ref wq, .ref mi, .ref mo, .ref ft, .ref ot, .ref gt, .ref rd, .ref tq, .ref wr, .ref s1, .ref s2, .int t0, .int t1, .int t2, .int t3])), (rq, .inl (cR, 4, .inr (.inr (.inr (.inr (rqF r0 r1 r2 r3)))))), (r0, .inr (4, [.ref o0, .int (nI n0), .int 0])), (o0, .inl (cI, 4000, .inl f0)), (r1, .inr (4, [.ref o1, .int (nI n1), .int 0])), (o1, .inl (cI, 4000, .inl f1)), (r3, .inr (4, [.ref o3, .int (nI n3), .int 0])), (o3, .inl (cI, 8000, .inl f3)), (r2, .inr (4, [.ref o2, .int (nI n8), .int v8])), (o2, .inl (cI, 8000, .inl f8))] H := hP
                        have hD : va_D A0 [(cd, .inr (8, [.ref rq, .ref wt, .ref wq, .ref mi, .ref mo, .ref ft, .ref ot, .ref gt, .ref rd, .ref tq, .ref wr, .ref s1, .ref s2, .int t0, .int t1, .int t2, .int t3])), (rq, .inl (cR, 4, .inr (.inr (.inr (.inr (rqF r0 r1 r2 r3)))))), (r0, .inr (4, [.ref o0, .int (nI n0), .int 0])), (o0, .inl (cI, 4000, .inl f0)), (r1, .inr (4, [.ref o1, .int (nI n1), .int 0])), (o1, .inl (cI, 4000, .inl f1)), (r3, .inr (4, [.ref o3, .int (nI n3), .int 0])), (o3, .inl (cI, 8000, .inl f3)), (r2, .inr (4, [.ref o2, .int (nI n8), .int v8])), (o2, .inl (cI, 8000, .inl f8))] := hD
                        have hv8 := (row_len hpu (by rw [List.length_append, hlen]; show _ + 1 ≤ _; omega)).2
                        subst hv8
                        rw [List.append_assoc] at hpu
                        refine lv_iinc (v := nI (i + 1)) (lv' := [(5, .int (nI (i + 1))), (0, .ref cd), (1, .int (nI 3)), (2, .int (nI a1)), (3, .int (nI m1)), (4, .int (nI 2))]) hx hb dX8_copy_97 hl (k := 5) rfl (nI_add i 1) (by decide) rfl (fun ls hl => ?_)
                        refine lv_goto (tgt := 68) hx hb dX8_copy_100 (by decide) ?_
                        exact ih (i + 1) n8 f8 _ _ ls (by omega) (by omega) (hpu) (hP.sub [0, 1, 2, 3, 4, 5, 8, 9, 6, 7] rfl) (hD.sub [0, 1, 2, 3, 4, 5, 8, 9, 6, 7] (by decide) rfl) hS (lv_sub hl [1, 2, 3, 4, 5, 0] rfl)
                  exact loop _ 0 n2 f2 _ _ ls (Nat.lt_succ_self _) (Nat.zero_le _) (by rw [rgL, List.append_nil]; exact hr2) (hP.sub [0, 1, 2, 3, 4, 5, 8, 9, 6, 7] rfl) (hD.sub [0, 1, 2, 3, 4, 5, 8, 9, 6, 7] (by decide) rfl) hS (lv_sub hl [1, 2, 3, 4, 5, 0] rfl)
                · have hf9 : 8000 < (RL 2).length + m1 := by have := Nat.not_le.mp (fun q => c_51 (nI_le q (by omega))); omega
                  rw [if_pos (show rmN 2 < (RL 2).length + m1 from hf9)] at hfp
                  refine lv_bipush (v := -4) hx hb dX8_copy_62 (by decide) ?_
                  have hP := hP.sub (ws' := [(cd, .inr (8, [.ref rq, .ref wt, .ref wq, .ref mi, .ref mo, .ref ft, .ref ot, .ref gt, .ref rd, .ref tq, .ref wr, .ref s1, .ref s2, .int t0, .int t1, .int t2, .int t3])), (rq, .inl (cR, 4, .inr (.inr (.inr (.inr (rqF r0 r1 r2 r3)))))), (r0, .inr (4, [.ref o0, .int (nI n0), .int 0])), (o0, .inl (cI, 4000, .inl f0)), (r1, .inr (4, [.ref o1, .int (nI n1), .int 0])), (o1, .inl (cI, 4000, .inl f1)), (r2, .inr (4, [.ref o2, .int (nI n2), .int 0])), (o2, .inl (cI, 8000, .inl f2)), (r3, .inr (4, [.ref o3, .int (nI n3), .int 0])), (o3, .inl (cI, 8000, .inl f3))]) [0, 1, 2, 3, 4, 5, 8, 9, 6, 7] rfl
                  have hD := hD.sub (ws' := [(cd, .inr (8, [.ref rq, .ref wt, .ref wq, .ref mi, .ref mo, .ref ft, .ref ot, .ref gt, .ref rd, .ref tq, .ref wr, .ref s1, .ref s2, .int t0, .int t1, .int t2, .int t3])), (rq, .inl (cR, 4, .inr (.inr (.inr (.inr (rqF r0 r1 r2 r3)))))), (r0, .inr (4, [.ref o0, .int (nI n0), .int 0])), (o0, .inl (cI, 4000, .inl f0)), (r1, .inr (4, [.ref o1, .int (nI n1), .int 0])), (o1, .inl (cI, 4000, .inl f1)), (r2, .inr (4, [.ref o2, .int (nI n2), .int 0])), (o2, .inl (cI, 8000, .inl f2)), (r3, .inr (4, [.ref o3, .int (nI n3), .int 0])), (o3, .inl (cI, 8000, .inl f3))]) [0, 1, 2, 3, 4, 5, 8, 9, 6, 7] (by decide) rfl
                  exact hret 64 ls _ _ _ (n0, f0, n1, f1, n2, f2, n3, f3, RL) dX8_copy_64 hP hD hS (⟨hfp, hrw⟩)
              · have hny9 := rw_n3 hrw
                rw [hy3] at hl
                have hfp := cpyP_in (k := 3) (j := 3) (RL := RL) (by decide) (by decide) ha1 hm1
                have hfp : cpyP x a n y RL = _ := (by rw [hx3, hy3, hae, hme] : cpyP x a n y RL = cpyP (nI 3) (nI a1) (nI m1) (nI 3) RL).trans hfp
                rw [if_neg ho9] at hfp
                refine lv_iload_n hx hb dX8_copy_48 rfl (lv_at hl 3 rfl) ?_
                refine lv_aload_n hx hb dX8_copy_49 rfl (lv_at hl 0 rfl) ?_
                refine va_get (D := D) (ci := 8) (v := .ref rq) (C := RX8) (T := TX8) (N := 17) hx hb hts in_X8 hown hK hP 0 rfl rfl 0 (by decide) (hts _ kX8_11) (fun _ h9 => h9) rfl dX8_copy_50 ?_
                refine lv_iload hx hb dX8_copy_53 (lv_at hl 4 rfl) ?_
                refine ax_rld hx hb hK hP 1 3 rfl rfl 3 (rfl) (by decide) (by decide) rfl dX8_copy_55 ?_
                refine jn_i (wr := [(cd, .inr (8, [.ref rq, .ref wt, .ref wq, .ref mi, .ref mo, .ref ft, .ref ot, .ref gt, .ref rd, .ref tq, .ref wr, .ref s1, .ref s2, .int t0, .int t1, .int t2, .int t3])), (rq, .inl (cR, 4, .inr (.inr (.inr (.inr (rqF r0 r1 r2 r3)))))), (r0, .inr (4, [.ref o0, .int (nI n0), .int 0])), (o0, .inl (cI, 4000, .inl f0)), (r1, .inr (4, [.ref o1, .int (nI n1), .int 0])), (o1, .inl (cI, 4000, .inl f1)), (r2, .inr (4, [.ref o2, .int (nI n2), .int 0])), (o2, .inl (cI, 8000, .inl f2))]) hA hP hD hS [8, 9] [0, 1, 2, 3, 4, 5, 6, 7] rfl rfl (by decide) (by decide) (rn_V (As := []) (rest := [.int (nI m1)]) ⟨hx, hb, hml, hown, hts⟩ (cvV 0 hts zc_yX4_room zi_X4 zm_yX4_room zv_yX4_room kX8_85 (by decide +kernel) rfl rfl ⟨Nat.le_of_ble_eq_true rfl, Nat.le_of_ble_eq_true rfl⟩) (c_Row_room l D cI cB cJ cR r3 o3 8000 n3 f3 0 (by decide) (hny9.2) H.size) hK hNw hMk hA hP hD hS [8, 9] rfl rfl (by decide) 0 rfl rfl rfl rfl hl.1 rfl (Nat.le_of_ble_eq_true rfl) dX8_copy_56 ⟨Nat.le_of_ble_eq_true rfl, Nat.le_of_ble_eq_true rfl⟩) (fun rm u9 H locs hrm hP hD hS => ?_)
                try dsimp only at hrm
                have hP : va_P D vwCl [(cd, .inr (8, [.ref rq, .ref wt, .ref wq, .ref mi, .ref mo, .ref ft, .ref ot, .ref gt, .ref rd, .ref tq, .ref wr, .ref s1, .ref s2, .int t0, .int t1, .int t2, .int t3])), (rq, .inl (cR, 4, .inr (.inr (.inr (.inr (rqF r0 r1 r2 r3)))))), (r0, .inr (4, [.ref o0, .int (nI n0), .int 0])), (o0, .inl (cI, 4000, .inl f0)), (r1, .inr (4, [.ref o1, .int (nI n1), .int 0])), (o1, .inl (cI, 4000, .inl f1)), (r2, .inr (4, [.ref o2, .int (nI n2), .int 0])), (o2, .inl (cI, 8000, .inl f2)), (r3, .inr (4, [.ref o3, .int (nI n3), .int 0])), (o3, .inl (cI, 8000, .inl f3))] H := hP
                have hD : va_D A0 [(cd, .inr (8, [.ref rq, .ref wt, .ref wq, .ref mi, .ref mo, .ref ft, .ref ot, .ref gt, .ref rd, .ref tq, .ref wr, .ref s1, .ref s2, .int t0, .int t1, .int t2, .int t3])), (rq, .inl (cR, 4, .inr (.inr (.inr (.inr (rqF r0 r1 r2 r3)))))), (r0, .inr (4, [.ref o0, .int (nI n0), .int 0])), (o0, .inl (cI, 4000, .inl f0)), (r1, .inr (4, [.ref o1, .int (nI n1), .int 0])), (o1, .inl (cI, 4000, .inl f1)), (r2, .inr (4, [.ref o2, .int (nI n2), .int 0])), (o2, .inl (cI, 8000, .inl f2)), (r3, .inr (4, [.ref o3, .int (nI n3), .int 0])), (o3, .inl (cI, 8000, .inl f3))] := hD
                subst hrm
                refine lv_icmp_le (tgt := 65) hx hb dX8_copy_59 (by decide) (fun c_54 => ?_) (fun c_54 => ?_)
                · have hf9 : ¬ 8000 < (RL 3).length + m1 := by have := (nI_leI (by omega) (by omega)).mp c_54; omega
                  rw [if_neg (show ¬ rmN 3 < (RL 3).length + m1 from hf9)] at hfp
                  refine lv_iconst (v := 0) hx hb dX8_copy_65 (by decide) ?_
                  refine ri (y := nI 0) (nI_0.symm) ?_
                  refine lv_istore (lv' := [(5, .int (nI 0)), (0, .ref cd), (1, .int (nI 3)), (2, .int (nI a1)), (3, .int (nI m1)), (4, .int (nI 3))]) hx hb dX8_copy_66 hl (by decide) rfl (fun ls hl => ?_)
                  have loop : ∀ (k9 : Nat) (i : Nat) (n7 : Nat) (f7 : Nat → Int32) (H : Heap) (locs : List Loc) (ls : Array Slot), m1 - i < k9 → (i ≤ m1) → (rowIs 8000 (RL 3 ++ rgL (gD (RL 3)) a1 i) n7 f7 0) → va_P D vwCl [(cd, .inr (8, [.ref rq, .ref wt, .ref wq, .ref mi, .ref mo, .ref ft, .ref ot, .ref gt, .ref rd, .ref tq, .ref wr, .ref s1, .ref s2, .int t0, .int t1, .int t2, .int t3])), (rq, .inl (cR, 4, .inr (.inr (.inr (.inr (rqF r0 r1 r2 r3)))))), (r0, .inr (4, [.ref o0, .int (nI n0), .int 0])), (o0, .inl (cI, 4000, .inl f0)), (r1, .inr (4, [.ref o1, .int (nI n1), .int 0])), (o1, .inl (cI, 4000, .inl f1)), (r2, .inr (4, [.ref o2, .int (nI n2), .int 0])), (o2, .inl (cI, 8000, .inl f2)), (r3, .inr (4, [.ref o3, .int (nI n7), .int 0])), (o3, .inl (cI, 8000, .inl f7))] H → va_D A0 [(cd, .inr (8, [.ref rq, .ref wt, .ref wq, .ref mi, .ref mo, .ref ft, .ref ot, .ref gt, .ref rd, .ref tq, .ref wr, .ref s1, .ref s2, .int t0, .int t1, .int t2, .int t3])), (rq, .inl (cR, 4, .inr (.inr (.inr (.inr (rqF r0 r1 r2 r3)))))), (r0, .inr (4, [.ref o0, .int (nI n0), .int 0])), (o0, .inl (cI, 4000, .inl f0)), (r1, .inr (4, [.ref o1, .int (nI n1), .int 0])), (o1, .inl (cI, 4000, .inl f1)), (r2, .inr (4, [.ref o2, .int (nI n2), .int 0])), (o2, .inl (cI, 8000, .inl f2)), (r3, .inr (4, [.ref o3, .int (nI n7), .int 0])), (o3, .inl (cI, 8000, .inl f7))] → va_S A0 s0.heap H locs → lv_has ls 6 [(0, .ref cd), (1, .int (nI 3)), (2, .int (nI a1)), (3, .int (nI m1)), (4, .int (nI 3)), (5, .int (nI i))] → W p0 l e0 ({ frames := 1, cells := 0, slots := 0, locals := 21 }) s0 m0 ([.ref cd, .int x, .int a, .int n, .int y] : List Value).toArray below meth c0 H locs 0 0 Q0 (F0 m0 68 ls []) := by
                    intro k9
                    induction k9 with
                    | zero => intro i n7 f7 H locs ls hk9; exact absurd hk9 (Nat.not_lt_zero _)
                    | succ k9 ih =>
                      intro i n7 f7 H locs ls hk9 him hr7 hP hD hS hl
                      have hlen : (RL 3 ++ rgL (gD (RL 3)) a1 i).length = (RL 3).length + i := by rw [List.length_append, rgL_len]
                      have hw9 := (row_len hr7 (by omega)).1
                      refine lv_iload hx hb dX8_copy_68 (lv_at hl 5 rfl) ?_
                      refine lv_iload_n hx hb dX8_copy_70 rfl (lv_at hl 3 rfl) ?_
                      refine lv_icmp_ge (tgt := 103) hx hb dX8_copy_71 (by decide) (fun c_55 => ?_) (fun c_55 => ?_)
                      · have hi9 : i = m1 := by have := (nI_leI (by omega) (by omega)).mp c_55; omega
                        subst hi9
                        rw [hlen] at hw9
                        subst hw9
                        refine lv_aload_n hx hb dX8_copy_103 rfl (lv_at hl 0 rfl) ?_
                        refine va_get (D := D) (ci := 8) (v := .ref rq) (C := RX8) (T := TX8) (N := 17) hx hb hts in_X8 hown hK hP 0 rfl rfl 0 (by decide) (hts _ kX8_11) (fun _ h9 => h9) rfl dX8_copy_104 ?_
                        refine lv_iload hx hb dX8_copy_107 (lv_at hl 4 rfl) ?_
                        refine ax_rld hx hb hK hP 1 3 rfl rfl 3 (rfl) (by decide) (by decide) rfl dX8_copy_109 ?_
                        refine va_get (D := D) (ci := 4) (v := .int (nI ((RL 3).length + i))) (C := RX4) (T := TX4) (N := 3) hx hb hts in_X4 hown hK hP 8 rfl rfl 1 (by decide) (hts _ kX8_92) (fun _ h9 => h9) rfl dX8_copy_110 ?_
                        exact hret 113 ls _ _ _ (n0, f0, n1, f1, n2, f2, (RL 3).length + i, f7, va_up RL 3 (RL 3 ++ rgL (gD (RL 3)) a1 i)) dX8_copy_113 hP hD hS (⟨hfp, rwOk_3 hrw hr7 (by omega)⟩)
                      · have hi9 : i < m1 := Nat.not_le.mp (fun q => c_55 (nI_le q (by omega)))
                        refine lv_aload_n hx hb dX8_copy_74 rfl (lv_at hl 0 rfl) ?_
                        refine va_get (D := D) (ci := 8) (v := .ref rq) (C := RX8) (T := TX8) (N := 17) hx hb hts in_X8 hown hK hP 0 rfl rfl 0 (by decide) (hts _ kX8_11) (fun _ h9 => h9) rfl dX8_copy_75 ?_
                        refine lv_iload hx hb dX8_copy_78 (lv_at hl 4 rfl) ?_
                        refine ax_rld hx hb hK hP 1 3 rfl rfl 3 (rfl) (by decide) (by decide) rfl dX8_copy_80 ?_
                        refine lv_aload_n hx hb dX8_copy_81 rfl (lv_at hl 0 rfl) ?_
                        refine va_get (D := D) (ci := 8) (v := .ref rq) (C := RX8) (T := TX8) (N := 17) hx hb hts in_X8 hown hK hP 0 rfl rfl 0 (by decide) (hts _ kX8_11) (fun _ h9 => h9) rfl dX8_copy_82 ?_
                        refine lv_iload_n hx hb dX8_copy_85 rfl (lv_at hl 1 rfl) ?_
                        refine ax_rld hx hb hK hP 1 3 rfl rfl 3 (rfl) (by decide) (by decide) rfl dX8_copy_86 ?_
                        refine lv_iload_n hx hb dX8_copy_87 rfl (lv_at hl 2 rfl) ?_
                        refine lv_iload hx hb dX8_copy_88 (lv_at hl 5 rfl) ?_
                        refine lv_iadd hx hb dX8_copy_90 ?_
                        refine ri (y := nI (a1 + i)) (nI_add a1 i) ?_
                        refine jn_i (wr := [(cd, .inr (8, [.ref rq, .ref wt, .ref wq, .ref mi, .ref mo, .ref ft, .ref ot, .ref gt, .ref rd, .ref tq, .ref wr, .ref s1, .ref s2, .int t0, .int t1, .int t2, .int t3])), (rq, .inl (cR, 4, .inr (.inr (.inr (.inr (rqF r0 r1 r2 r3)))))), (r0, .inr (4, [.ref o0, .int (nI n0), .int 0])), (o0, .inl (cI, 4000, .inl f0)), (r1, .inr (4, [.ref o1, .int (nI n1), .int 0])), (o1, .inl (cI, 4000, .inl f1)), (r2, .inr (4, [.ref o2, .int (nI n2), .int 0])), (o2, .inl (cI, 8000, .inl f2))]) hA hP hD hS [8, 9] [0, 1, 2, 3, 4, 5, 6, 7] rfl rfl (by decide) (by decide) (rn_V (As := [.int (nI (a1 + i))]) (rest := [.ref r3]) ⟨hx, hb, hml, hown, hts⟩ (cvV 1 hts zc_yX4_at zi_X4 zm_yX4_at zv_yX4_at kX8_102 (by decide +kernel) rfl rfl ⟨Nat.le_of_ble_eq_true rfl, Nat.le_of_ble_eq_true rfl⟩) (c_Row_at l D cI cB cJ cR r3 o3 8000 n7 f7 0 (nI (a1 + i)) (by decide) (by omega) H.size) hK hNw hMk hA hP hD hS [8, 9] rfl rfl (by decide) 0 rfl rfl rfl rfl hl.1 rfl (Nat.le_of_ble_eq_true rfl) dX8_copy_91 ⟨Nat.le_of_ble_eq_true rfl, Nat.le_of_ble_eq_true rfl⟩) (fun ra u9 H locs hra hP hD hS => ?_)
                        try dsimp only at hra
                        have hP : va_P D vwCl [(cd, .inr (8, [.ref rq, .ref wt, .ref wq, .ref mi, .ref mo, .ref ft, .ref ot, .ref gt, .ref rd, .ref tq, .ref wr, .ref s1, .ref s2, .int t0, .int t1, .int t2, .int t3])), (rq, .inl (cR, 4, .inr (.inr (.inr (.inr (rqF r0 r1 r2 r3)))))), (r0, .inr (4, [.ref o0, .int (nI n0), .int 0])), (o0, .inl (cI, 4000, .inl f0)), (r1, .inr (4, [.ref o1, .int (nI n1), .int 0])), (o1, .inl (cI, 4000, .inl f1)), (r2, .inr (4, [.ref o2, .int (nI n2), .int 0])), (o2, .inl (cI, 8000, .inl f2)), (r3, .inr (4, [.ref o3, .int (nI n7), .int 0])), (o3, .inl (cI, 8000, .inl f7))] H := hP
                        have hD : va_D A0 [(cd, .inr (8, [.ref rq, .ref wt, .ref wq, .ref mi, .ref mo, .ref ft, .ref ot, .ref gt, .ref rd, .ref tq, .ref wr, .ref s1, .ref s2, .int t0, .int t1, .int t2, .int t3])), (rq, .inl (cR, 4, .inr (.inr (.inr (.inr (rqF r0 r1 r2 r3)))))), (r0, .inr (4, [.ref o0, .int (nI n0), .int 0])), (o0, .inl (cI, 4000, .inl f0)), (r1, .inr (4, [.ref o1, .int (nI n1), .int 0])), (o1, .inl (cI, 4000, .inl f1)), (r2, .inr (4, [.ref o2, .int (nI n2), .int 0])), (o2, .inl (cI, 8000, .inl f2)), (r3, .inr (4, [.ref o3, .int (nI n7), .int 0])), (o3, .inl (cI, 8000, .inl f7))] := hD
                        have hv9 : ra = gD (RL 3) (a1 + i) := by rw [hra, if_pos (inB_t (by omega) (by omega)), nI_clamp (by omega), hr7.2.2 _ (by omega), gD_l (by omega)]; rfl
                        subst hv9
                        refine jn_v (wr := [(cd, .inr (8, [.ref rq, .ref wt, .ref wq, .ref mi, .ref mo, .ref ft, .ref ot, .ref gt, .ref rd, .ref tq, .ref wr, .ref s1, .ref s2, .int t0, .int t1, .int t2, .int t3])), (rq, .inl (cR, 4, .inr (.inr (.inr (.inr (rqF r0 r1 r2 r3)))))), (r0, .inr (4, [.ref o0, .int (nI n0), .int 0])), (o0, .inl (cI, 4000, .inl f0)), (r1, .inr (4, [.ref o1, .int (nI n1), .int 0])), (o1, .inl (cI, 4000, .inl f1)), (r2, .inr (4, [.ref o2, .int (nI n2), .int 0])), (o2, .inl (cI, 8000, .inl f2))]) hA hP hD hS [8, 9] [0, 1, 2, 3, 4, 5, 6, 7] rfl rfl (by decide) (by decide) (rn_V (As := [.int (gD (RL 3) (a1 + i))]) (rest := []) ⟨hx, hb, hml, hown, hts⟩ (cvV 1 hts zc_yX4_put zi_X4 zm_yX4_put zv_yX4_put kX8_89 (by decide +kernel) rfl rfl ⟨Nat.le_of_ble_eq_true rfl, Nat.le_of_ble_eq_true rfl⟩) (c_Row_put l D cI cB cJ cR r3 o3 8000 n7 f7 0 (RL 3 ++ rgL (gD (RL 3)) a1 i) (gD (RL 3) (a1 + i)) (by decide) (hr7) H.size) hK hNw hMk hA hP hD hS [8, 9] rfl rfl (by decide) 0 rfl rfl rfl rfl hl.1 rfl (Nat.le_of_ble_eq_true rfl) dX8_copy_94 ⟨Nat.le_of_ble_eq_true rfl, Nat.le_of_ble_eq_true rfl⟩) (fun u9 H locs hpu hP hD hS => ?_)
                        obtain ⟨n8, f8, v8⟩ := u9
                        try dsimp only at hpu
                        have hP : va_P D vwCl [(cd, .inr (8, [.ref rq, .ref wt, .ref wq, .ref mi, .ref mo, .ref ft, .ref ot, .ref gt, .ref rd, .ref tq, .ref wr, .ref s1, .ref s2, .int t0, .int t1, .int t2, .int t3])), (rq, .inl (cR, 4, .inr (.inr (.inr (.inr (rqF r0 r1 r2 r3)))))), (r0, .inr (4, [.ref o0, .int (nI n0), .int 0])), (o0, .inl (cI, 4000, .inl f0)), (r1, .inr (4, [.ref o1, .int (nI n1), .int 0])), (o1, .inl (cI, 4000, .inl f1)), (r2, .inr (4, [.ref o2, .int (nI n2), .int 0])), (o2, .inl (cI, 8000, .inl f2)), (r3, .inr (4, [.ref o3, .int (nI n8), .int v8])), (o3, .inl (cI, 8000, .inl f8))] H := hP
                        have hD : va_D A0 [(cd, .inr (8, [.ref rq, .ref wt, .ref wq, .ref mi, .ref mo, .ref ft, .ref ot, .ref gt, .ref rd, .ref tq, .ref wr, .ref s1, .ref s2, .int t0, .int t1, .int t2, .int t3])), (rq, .inl (cR, 4, .inr (.inr (.inr (.inr (rqF r0 r1 r2 r3)))))), (r0, .inr (4, [.ref o0, .int (nI n0), .int 0])), (o0, .inl (cI, 4000, .inl f0)), (r1, .inr (4, [.ref o1, .int (nI n1), .int 0])), (o1, .inl (cI, 4000, .inl f1)), (r2, .inr (4, [.ref o2, .int (nI n2), .int 0])), (o2, .inl (cI, 8000, .inl f2)), (r3, .inr (4, [.ref o3, .int (nI n8), .int v8])), (o3, .inl (cI, 8000, .inl f8))] := hD
                        have hv8 := (row_len hpu (by rw [List.length_append, hlen]; show _ + 1 ≤ _; omega)).2
                        subst hv8
                        rw [List.append_assoc] at hpu
                        refine lv_iinc (v := nI (i + 1)) (lv' := [(5, .int (nI (i + 1))), (0, .ref cd), (1, .int (nI 3)), (2, .int (nI a1)), (3, .int (nI m1)), (4, .int (nI 3))]) hx hb dX8_copy_97 hl (k := 5) rfl (nI_add i 1) (by decide) rfl (fun ls hl => ?_)
                        refine lv_goto (tgt := 68) hx hb dX8_copy_100 (by decide) ?_
                        exact ih (i + 1) n8 f8 _ _ ls (by omega) (by omega) (hpu) hP hD hS (lv_sub hl [1, 2, 3, 4, 5, 0] rfl)
                  exact loop _ 0 n3 f3 _ _ ls (Nat.lt_succ_self _) (Nat.zero_le _) (by rw [rgL, List.append_nil]; exact hr3) hP hD hS (lv_sub hl [1, 2, 3, 4, 5, 0] rfl)
                · have hf9 : 8000 < (RL 3).length + m1 := by have := Nat.not_le.mp (fun q => c_54 (nI_le q (by omega))); omega
                  rw [if_pos (show rmN 3 < (RL 3).length + m1 from hf9)] at hfp
                  refine lv_bipush (v := -4) hx hb dX8_copy_62 (by decide) ?_
                  exact hret 64 ls _ _ _ (n0, f0, n1, f1, n2, f2, n3, f3, RL) dX8_copy_64 hP hD hS (⟨hfp, hrw⟩)
            · have ho9 : (RL 3).length < a1 + m1 := by have := Nat.not_le.mp (fun z => c_44 ((lg_cmp_le _ _).mpr ((pk_lLE (by omega) (by omega)).mpr z))); omega
              refine lv_bipush (v := -2) hx hb dX8_copy_45 (by decide) ?_
              exact hret 47 ls _ _ _ (n0, f0, n1, f1, n2, f2, n3, f3, RL) dX8_copy_47 hP hD hS (⟨by rw [cpyP, if_pos (Or.inr (Or.inr (Or.inr (Or.inr (by rw [hx3, hae, hme, nI_clamp (by decide), nI_clamp ha1, nI_clamp hm1]; exact ho9)))))], hrw⟩)
    · refine lv_bipush (v := -2) hx hb dX8_copy_15 (by decide) ?_
      exact hret 17 ls _ _ _ (n0, f0, n1, f1, n2, f2, n3, f3, RL) dX8_copy_17 hP hD hS (⟨by rw [cpyP, if_pos (Or.inr (Or.inl (by rw [← hrj]; exact c_2)))], hrw⟩)
