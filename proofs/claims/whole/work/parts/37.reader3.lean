/-! A WINDOW's head: its segment, its sizes -/
def tkS1 (b : Nat → Nat) (e : Nat) (s : RS) : RS := flI (2 < (tkO b e s).1) 5 s.2.2 (tkO b e s).2
def tkS2 (b : Nat → Nat) (e th : Nat) (s : RS) : (Nat × Nat) × RS := (((tkN b e s).1, (tkN b e (tkN b e s).2).1), flI (th < (tkN b e (tkN b e s).2).1 + (tkN b e s).1) 6 (tkN b e s).2.2.2 (tkN b e (tkN b e s).2).2)
def tkSeg (b : Nat → Nat) (e sn mn : Nat) (s : RS) : (Nat × Nat × Nat) × RS := if (tkO b e s).1 = 0 then ((0, 0, 0), tkS1 b e s) else (((tkO b e s).1, (tkS2 b e (if (tkO b e s).1 = 1 then sn else mn) (tkS1 b e s)).1), (tkS2 b e (if (tkO b e s).1 = 1 then sn else mn) (tkS1 b e s)).2)
def tkZ2 (b : Nat → Nat) (e rm : Nat) (s : RS) : RS := flI (rm < (tkN b e (tkN b e s).2).1) 7 (tkN b e s).2.2.2 (tkN b e (tkN b e s).2).2
def tkZ3 (b : Nat → Nat) (e : Nat) (s : RS) : RS := flI (¬ (tkO b e s).1 = 0) 9 s.2.2 (tkO b e s).2
def tkZ4 (b : Nat → Nat) (e : Nat) (s : RS) : (Nat × Nat × Nat) × RS := (((tkN b e s).1, (tkN b e (tkN b e s).2).1, (tkN b e (tkN b e (tkN b e s).2).2).1), (tkN b e (tkN b e (tkN b e s).2).2).2)
def tkZ5 (w fo bh t : Nat) (s : RS) : RS := flI (¬ fo = s.2.2 - bh + t) 8 w s
def tkZ6 (e t : Nat) (s : RS) : RS := flI (e - s.2.2 < t) 1 e s
/-- how many the window makes, has of DATA, CODES, ADDRESSES -/
def tkSiz (b : Nat → Nat) (e rm : Nat) (s : RS) : (Nat × Nat × Nat × Nat) × RS :=
  let z := tkZ4 b e (tkZ3 b e (tkZ2 b e rm s))
  (((tkN b e (tkN b e s).2).1, z.1), tkZ6 e (z.1.1 + z.1.2.1 + z.1.2.2) (tkZ5 s.2.2 (tkN b e s).1 (tkN b e s).2.2.2 (z.1.1 + z.1.2.1 + z.1.2.2) z.2))
theorem flI_0 {c : Prop} [Decidable c] {k w : Nat} {s : RS} {f2 p2 a2 : Nat} (h : flI c k w s = (f2, p2, a2)) (h0 : f2 = 0) (hk : ¬ k = 0) : ¬ c ∧ s = (f2, p2, a2) := by
  unfold flI at h
  split at h
  · obtain ⟨q, -⟩ := Prod.mk.inj h; exact absurd (q.trans h0) hk
  · rename_i hn
    refine ⟨fun hc => hn ⟨hc, ?_⟩, h⟩
    rw [h]; exact h0
theorem flI_a {c : Prop} [Decidable c] {k w : Nat} {s : RS} : (flI c k w s).2.2 = s.2.2 := by unfold flI; split <;> rfl
theorem tkO_z {b : Nat → Nat} {e : Nat} {s : RS} {v f2 p2 a2 : Nat} (h : tkO b e s = (v, f2, p2, a2)) : f2 = 0 → s.1 = 0 := fun h0 => Decidable.byContradiction (fun z => by
  rw [tkO, if_neg z] at h
  obtain ⟨-, h2⟩ := Prod.mk.inj h
  exact z (by rw [h2]; exact h0))
theorem tkN_z {b : Nat → Nat} {e : Nat} {s : RS} {v f2 p2 a2 : Nat} (h : tkN b e s = (v, f2, p2, a2)) : f2 = 0 → s.1 = 0 := fun h0 => Decidable.byContradiction (fun z => by
  rw [tkN, if_neg z] at h
  obtain ⟨-, h2⟩ := Prod.mk.inj h
  exact z (by rw [h2]; exact h0))
theorem sub2_toInt {v : Nat} (hv : v ≤ 2147483647) : (nI v - 2).toInt = (v : Int) - 2 := by
  rw [Int32.toInt_sub, nI_toInt (by omega)]
  show ((v : Int) - 2).bmod (2 ^ 32) = _
  rw [Int.bmod_eq_of_le (by omega) (by omega)]
theorem tt_le {v a e : Nat} (hv : v ≤ 2147483647) (ha : a ≤ e) (h : e + 2 < v + a) (hle : nI v - 2 ≤ nI (e - a)) : False := by
  have h1 : (nI v - 2).toInt ≤ (nI (e - a)).toInt := Int32.le_iff_toInt_le.mp hle
  rw [sub2_toInt hv] at h1
  by_cases q : e - a < 2 ^ 31
  · rw [nI_toInt q] at h1; omega
  · omega
theorem tt_gt {v a e : Nat} (hv : v ≤ 2147483647) (ha : a ≤ e) (he : e < 2 ^ 31) (hle : ¬ nI v - 2 ≤ nI (e - a)) : e + 2 < v + a := by
  refine Nat.not_le.mp (fun z => hle (Int32.le_iff_toInt_le.mpr ?_))
  rw [sub2_toInt hv, nI_toInt (by omega)]
  omega
set_option maxHeartbeats 4000000 in
set_option maxRecDepth 100000 in
theorem c_Reader_takeTableHead (l : Launch) (D : va_G) (cI cB cJ cR : ClassId) (h : Nat) (rm : Nat) (rg : Nat) (cf : Nat) (cd : Nat) (ck : Nat) (ca : Nat) (nr : Nat) (sr : Nat) (dl : Nat) (sp : Nat) (wn : Int32) (sk : Int32) (ss : Int32) (sm : Int32) (wf : Int32) (we : Int32) (fl : Nat) (pl : Nat) (a : Nat) (e : Nat) (o : Nat) (N : Nat) (f : Nat → Int32) (b : Nat → Nat) (tb : Nat) (tq1 : Nat) (tq2 : Nat) (tq3 : Nat) (x1 : Int32) (x2 : Int32) (hfl : fl < 2 ^ 31) (hN : N < 2 ^ 24) (he : e ≤ N) (hae : a ≤ e) (hob : octs f b e) : CMi l yX3_takeTableHead cX3_takeTableHead 4 (some .int) ({ frames := 3, cells := 0, slots := 0, locals := 67 }) D (tyA cI cB cJ cR) 0 0 [.ref h, .ref tb] [(h, .inr (3, [.ref rm, .ref rg, .ref cf, .ref cd, .ref ck, .ref ca, .ref nr, .ref sr, .ref dl, .ref sp, .int (nI fl), .int (nI pl), .int wn, .int sk, .int ss, .int sm, .int wf, .int we])), (cf, .inr (1, [.ref o, .int (nI a), .int (nI e)])), (o, .inl (cI, N, .inl f)), (tb, .inr (6, [.ref tq1, .int x1, .int x2, .ref tq2, .ref tq3]))] (fun (r : Int32) (u9 : Nat × Nat × Nat × Nat × Nat × Nat) => match u9 with | (n, nr2, sm2, fl2, pl2, a2) => r = nI (if fl2 = 0 then n - 2 else 0) ∧ n = (tkN b e (fl, pl, a)).1 ∧ nr2 = (tkO b e (tkT1 b e (fl, pl, a))).1 ∧ sm2 = (tkO b e (tkT2 b e (tkT1 b e (fl, pl, a)))).1 ∧ tkT4 e n (tkT3 b e (tkT2 b e (tkT1 b e (fl, pl, a)))) = (fl2, pl2, a2) ∧ fl2 < 2 ^ 31 ∧ a ≤ a2 ∧ a2 ≤ e ∧ (fl2 = 0 → 2 ≤ n ∧ a2 + (n - 2) ≤ e ∧ nr2 ≤ 8 ∧ sm2 ≤ 4)) (fun (u9 : Nat × Nat × Nat × Nat × Nat × Nat) => match u9 with | (n, nr2, sm2, fl2, pl2, a2) => [(h, .inr (3, [.ref rm, .ref rg, .ref cf, .ref cd, .ref ck, .ref ca, .ref nr, .ref sr, .ref dl, .ref sp, .int (nI fl2), .int (nI pl2), .int wn, .int sk, .int ss, .int sm, .int wf, .int we])), (cf, .inr (1, [.ref o, .int (nI a2), .int (nI e)])), (o, .inl (cI, N, .inl f)), (tb, .inr (6, [.ref tq1, .int (nI nr2), .int (nI sm2), .ref tq2, .ref tq3]))]) := by
  refine st_i (cc := cX3_takeTableHead) (maxL := 4) (by decide) (Nat.le_of_ble_eq_true rfl) ?_
  intro p0 e0 s0 m0 below meth c0 A0 Q0 hBD hret hP hD hS ls hl
  obtain ⟨hx, hb, hml, hown, hts, hnm, hK, hNw, hMk, hA⟩ := hBD
  have hl : lv_has ls 4 [(0, .ref h), (1, .ref tb)] := hl
  have hP : va_P D vwCl [(h, .inr (3, [.ref rm, .ref rg, .ref cf, .ref cd, .ref ck, .ref ca, .ref nr, .ref sr, .ref dl, .ref sp, .int (nI fl), .int (nI pl), .int wn, .int sk, .int ss, .int sm, .int wf, .int we])), (cf, .inr (1, [.ref o, .int (nI a), .int (nI e)])), (o, .inl (cI, N, .inl f)), (tb, .inr (6, [.ref tq1, .int x1, .int x2, .ref tq2, .ref tq3]))] s0.heap := hP
  have hD : va_D A0 [(h, .inr (3, [.ref rm, .ref rg, .ref cf, .ref cd, .ref ck, .ref ca, .ref nr, .ref sr, .ref dl, .ref sp, .int (nI fl), .int (nI pl), .int wn, .int sk, .int ss, .int sm, .int wf, .int we])), (cf, .inr (1, [.ref o, .int (nI a), .int (nI e)])), (o, .inl (cI, N, .inl f)), (tb, .inr (6, [.ref tq1, .int x1, .int x2, .ref tq2, .ref tq3]))] := hD
  refine lv_aload_n hx hb dX3_takeTableHead_0 rfl (lv_at hl 0 rfl) ?_
  refine va_get (D := D) (ci := 3) (v := .ref cf) (C := RX3) (T := TX3) (N := 18) hx hb hts in_X3 hown hK hP 0 rfl rfl 2 (by decide) (hts _ kX3_12) (fun _ h9 => h9) rfl dX3_takeTableHead_1 ?_
  refine va_get (D := D) (ci := 1) (v := .int (nI a)) (C := RX1) (T := TX1) (N := 3) hx hb hts in_X1 hown hK hP 1 rfl rfl 1 (by decide) (hts _ kX3_94) (fun _ h9 => h9) rfl dX3_takeTableHead_4 ?_
  refine lv_istore_n (lv' := [(2, .int (nI a)), (0, .ref h), (1, .ref tb)]) hx hb dX3_takeTableHead_7 rfl hl (by decide) rfl (fun ls hl => ?_)
  refine lv_aload_n hx hb dX3_takeTableHead_8 rfl (lv_at hl 1 rfl) ?_
  refine jn_i (wr := [(tb, .inr (6, [.ref tq1, .int x1, .int x2, .ref tq2, .ref tq3]))]) hA hP hD hS [0, 1, 2] [3] rfl rfl (by decide) (by decide) (rn_V (As := []) (rest := []) ⟨hx, hb, hml, hown, hts⟩ (cvV 0 hts zc_yX3_takeNumber zi_X3 zm_yX3_takeNumber zv_yX3_takeNumber kX3_106 (by decide +kernel) rfl rfl ⟨Nat.le_of_ble_eq_true rfl, Nat.le_of_ble_eq_true rfl⟩) (c_Reader_takeNumber l D cI cB cJ cR h rm rg cf cd ck ca nr sr dl sp wn sk ss sm wf we fl pl a e o N f b (hfl) (hN) (he) (by omega) (hob) s0.heap.size) hK hNw hMk hA hP hD hS [0, 1, 2] rfl rfl (by decide) 0 rfl rfl rfl rfl hl.1 rfl (Nat.le_of_ble_eq_true rfl) dX3_takeTableHead_9 ⟨Nat.le_of_ble_eq_true rfl, Nat.le_of_ble_eq_true rfl⟩) (fun r1 u9 H locs t1 hP hD hS => ?_)
  obtain ⟨v1, fl1, pl1, a1⟩ := u9
  try dsimp only at t1
  have hP : va_P D vwCl [(tb, .inr (6, [.ref tq1, .int x1, .int x2, .ref tq2, .ref tq3])), (h, .inr (3, [.ref rm, .ref rg, .ref cf, .ref cd, .ref ck, .ref ca, .ref nr, .ref sr, .ref dl, .ref sp, .int (nI fl1), .int (nI pl1), .int wn, .int sk, .int ss, .int sm, .int wf, .int we])), (cf, .inr (1, [.ref o, .int (nI a1), .int (nI e)])), (o, .inl (cI, N, .inl f))] H := hP
  have hD : va_D A0 [(tb, .inr (6, [.ref tq1, .int x1, .int x2, .ref tq2, .ref tq3])), (h, .inr (3, [.ref rm, .ref rg, .ref cf, .ref cd, .ref ck, .ref ca, .ref nr, .ref sr, .ref dl, .ref sp, .int (nI fl1), .int (nI pl1), .int wn, .int sk, .int ss, .int sm, .int wf, .int we])), (cf, .inr (1, [.ref o, .int (nI a1), .int (nI e)])), (o, .inl (cI, N, .inl f))] := hD
  obtain ⟨er1, t1⟩ := t1
  subst er1
  obtain ⟨hf1, hs1, hae1, hv1⟩ := tkN_ok hfl hae t1
  dsimp only at hs1
  refine lv_istore_n (lv' := [(3, .int (nI v1)), (2, .int (nI a)), (0, .ref h), (1, .ref tb)]) hx hb dX3_takeTableHead_12 rfl hl (by decide) rfl (fun ls hl => ?_)
  refine lv_iload_n hx hb dX3_takeTableHead_13 rfl (lv_at hl 0 rfl) ?_
  refine lv_iconst (v := 2) hx hb dX3_takeTableHead_14 (by decide) ?_
  have J1 : ∀ (fj1 : Nat) (pj1 : Nat) (H : Heap) (locs : List Loc) (ls : Array Slot), (flI (v1 < 2) 18 a (fl1, pl1, a1) = (fj1, pj1, a1)) → (fj1 < 2 ^ 31) → va_P D vwCl [(tb, .inr (6, [.ref tq1, .int x1, .int x2, .ref tq2, .ref tq3])), (h, .inr (3, [.ref rm, .ref rg, .ref cf, .ref cd, .ref ck, .ref ca, .ref nr, .ref sr, .ref dl, .ref sp, .int (nI fj1), .int (nI pj1), .int wn, .int sk, .int ss, .int sm, .int wf, .int we])), (cf, .inr (1, [.ref o, .int (nI a1), .int (nI e)])), (o, .inl (cI, N, .inl f))] H → va_D A0 [(tb, .inr (6, [.ref tq1, .int x1, .int x2, .ref tq2, .ref tq3])), (h, .inr (3, [.ref rm, .ref rg, .ref cf, .ref cd, .ref ck, .ref ca, .ref nr, .ref sr, .ref dl, .ref sp, .int (nI fj1), .int (nI pj1), .int wn, .int sk, .int ss, .int sm, .int wf, .int we])), (cf, .inr (1, [.ref o, .int (nI a1), .int (nI e)])), (o, .inl (cI, N, .inl f))] → va_S A0 s0.heap H locs → lv_has ls 4 [(3, .int (nI v1)), (2, .int (nI a)), (0, .ref h), (1, .ref tb)] → W p0 l e0 ({ frames := 3, cells := 0, slots := 0, locals := 67 }) s0 m0 ([.ref h, .ref tb] : List Value).toArray below meth c0 H locs 0 0 Q0 (F0 m0 25 ls []) := by
    intro fj1 pj1 H locs ls hj1 hfj1 hP hD hS hl
    have k1 : tkT1 b e (fl, pl, a) = (fj1, pj1, a1) := by rw [tkT1, t1]; exact hj1
    refine lv_aload_n hx hb dX3_takeTableHead_25 rfl (lv_at hl 2 rfl) ?_
    refine va_get (D := D) (ci := 3) (v := .ref cf) (C := RX3) (T := TX3) (N := 18) hx hb hts in_X3 hown hK hP 1 rfl rfl 2 (by decide) (hts _ kX3_12) (fun _ h9 => h9) rfl dX3_takeTableHead_26 ?_
    refine va_get (D := D) (ci := 1) (v := .int (nI a1)) (C := RX1) (T := TX1) (N := 3) hx hb hts in_X1 hown hK hP 2 rfl rfl 1 (by decide) (hts _ kX3_94) (fun _ h9 => h9) rfl dX3_takeTableHead_29 ?_
    refine lv_istore_n (lv' := [(2, .int (nI a1)), (3, .int (nI v1)), (0, .ref h), (1, .ref tb)]) hx hb dX3_takeTableHead_32 rfl hl (by decide) rfl (fun ls hl => ?_)
    refine lv_aload_n hx hb dX3_takeTableHead_33 rfl (lv_at hl 3 rfl) ?_
    refine lv_aload_n hx hb dX3_takeTableHead_34 rfl (lv_at hl 2 rfl) ?_
    refine jn_i (wr := [(tb, .inr (6, [.ref tq1, .int x1, .int x2, .ref tq2, .ref tq3]))]) hA hP hD hS [1, 2, 3] [0] rfl rfl (by decide) (by decide) (rn_V (As := []) (rest := [.ref tb]) ⟨hx, hb, hml, hown, hts⟩ (cvV 0 hts zc_yX3_takeOctet zi_X3 zm_yX3_takeOctet zv_yX3_takeOctet kX3_103 (by decide +kernel) rfl rfl ⟨Nat.le_of_ble_eq_true rfl, Nat.le_of_ble_eq_true rfl⟩) (c_Reader_takeOctet l D cI cB cJ cR h rm rg cf cd ck ca nr sr dl sp wn sk ss sm wf we fj1 pj1 a1 e o N f b (hfj1) (hN) (he) (by omega) (hob) H.size) hK hNw hMk hA hP hD hS [1, 2, 3] rfl rfl (by decide) 0 rfl rfl rfl rfl hl.1 rfl (Nat.le_of_ble_eq_true rfl) dX3_takeTableHead_35 ⟨Nat.le_of_ble_eq_true rfl, Nat.le_of_ble_eq_true rfl⟩) (fun r2 u9 H locs t2 hP hD hS => ?_)
    obtain ⟨v2, fl2, pl2, a2⟩ := u9
    try dsimp only at t2
    have hP : va_P D vwCl [(tb, .inr (6, [.ref tq1, .int x1, .int x2, .ref tq2, .ref tq3])), (h, .inr (3, [.ref rm, .ref rg, .ref cf, .ref cd, .ref ck, .ref ca, .ref nr, .ref sr, .ref dl, .ref sp, .int (nI fl2), .int (nI pl2), .int wn, .int sk, .int ss, .int sm, .int wf, .int we])), (cf, .inr (1, [.ref o, .int (nI a2), .int (nI e)])), (o, .inl (cI, N, .inl f))] H := hP
    have hD : va_D A0 [(tb, .inr (6, [.ref tq1, .int x1, .int x2, .ref tq2, .ref tq3])), (h, .inr (3, [.ref rm, .ref rg, .ref cf, .ref cd, .ref ck, .ref ca, .ref nr, .ref sr, .ref dl, .ref sp, .int (nI fl2), .int (nI pl2), .int wn, .int sk, .int ss, .int sm, .int wf, .int we])), (cf, .inr (1, [.ref o, .int (nI a2), .int (nI e)])), (o, .inl (cI, N, .inl f))] := hD
    obtain ⟨er2, t2⟩ := t2
    subst er2
    obtain ⟨hf2, hs2, hae2, hv2⟩ := tkO_ok hfj1 hae1 (fun j hj => (hob j hj).2) t2
    dsimp only at hs2
    refine va_put (D := D) (ci := 6) (v := .int (nI v2)) (ty := .int) (C := RX6) (T := TX6) (N := 5) hx hb hts in_X6 tyX6 tyX6_ok nmX6 hown hK hP hD hS 0 rfl rfl 1 (by decide) (hts _ kX3_109) (fun _ h9 => h9) rfl (by decide +kernel) rfl rfl (Nat.le_of_ble_eq_true rfl) dX3_takeTableHead_38 (fun H locs hP hD hS => ?_)
    have hP : va_P D vwCl [(tb, .inr (6, [.ref tq1, .int (nI v2), .int x2, .ref tq2, .ref tq3])), (h, .inr (3, [.ref rm, .ref rg, .ref cf, .ref cd, .ref ck, .ref ca, .ref nr, .ref sr, .ref dl, .ref sp, .int (nI fl2), .int (nI pl2), .int wn, .int sk, .int ss, .int sm, .int wf, .int we])), (cf, .inr (1, [.ref o, .int (nI a2), .int (nI e)])), (o, .inl (cI, N, .inl f))] H := hP
    have hD : va_D A0 [(tb, .inr (6, [.ref tq1, .int (nI v2), .int x2, .ref tq2, .ref tq3])), (h, .inr (3, [.ref rm, .ref rg, .ref cf, .ref cd, .ref ck, .ref ca, .ref nr, .ref sr, .ref dl, .ref sp, .int (nI fl2), .int (nI pl2), .int wn, .int sk, .int ss, .int sm, .int wf, .int we])), (cf, .inr (1, [.ref o, .int (nI a2), .int (nI e)])), (o, .inl (cI, N, .inl f))] := hD
    refine lv_aload_n hx hb dX3_takeTableHead_41 rfl (lv_at hl 3 rfl) ?_
    refine va_get (D := D) (ci := 6) (v := .int (nI v2)) (C := RX6) (T := TX6) (N := 5) hx hb hts in_X6 hown hK hP 0 rfl rfl 1 (by decide) (hts _ kX3_109) (fun _ h9 => h9) rfl dX3_takeTableHead_42 ?_
    refine lv_bipush (v := 8) hx hb dX3_takeTableHead_45 (by decide) ?_
    have J2 : ∀ (fj2 : Nat) (pj2 : Nat) (H : Heap) (locs : List Loc) (ls : Array Slot), (flI (8 < v2) 18 a1 (fl2, pl2, a2) = (fj2, pj2, a2)) → (fj2 < 2 ^ 31) → va_P D vwCl [(tb, .inr (6, [.ref tq1, .int (nI v2), .int x2, .ref tq2, .ref tq3])), (h, .inr (3, [.ref rm, .ref rg, .ref cf, .ref cd, .ref ck, .ref ca, .ref nr, .ref sr, .ref dl, .ref sp, .int (nI fj2), .int (nI pj2), .int wn, .int sk, .int ss, .int sm, .int wf, .int we])), (cf, .inr (1, [.ref o, .int (nI a2), .int (nI e)])), (o, .inl (cI, N, .inl f))] H → va_D A0 [(tb, .inr (6, [.ref tq1, .int (nI v2), .int x2, .ref tq2, .ref tq3])), (h, .inr (3, [.ref rm, .ref rg, .ref cf, .ref cd, .ref ck, .ref ca, .ref nr, .ref sr, .ref dl, .ref sp, .int (nI fj2), .int (nI pj2), .int wn, .int sk, .int ss, .int sm, .int wf, .int we])), (cf, .inr (1, [.ref o, .int (nI a2), .int (nI e)])), (o, .inl (cI, N, .inl f))] → va_S A0 s0.heap H locs → lv_has ls 4 [(2, .int (nI a1)), (3, .int (nI v1)), (0, .ref h), (1, .ref tb)] → W p0 l e0 ({ frames := 3, cells := 0, slots := 0, locals := 67 }) s0 m0 ([.ref h, .ref tb] : List Value).toArray below meth c0 H locs 0 0 Q0 (F0 m0 57 ls []) := by
      intro fj2 pj2 H locs ls hj2 hfj2 hP hD hS hl
      have k2 : tkT2 b e (fj1, pj1, a1) = (fj2, pj2, a2) := by rw [tkT2, t2]; exact hj2
      refine lv_aload_n hx hb dX3_takeTableHead_57 rfl (lv_at hl 2 rfl) ?_
      refine va_get (D := D) (ci := 3) (v := .ref cf) (C := RX3) (T := TX3) (N := 18) hx hb hts in_X3 hown hK hP 1 rfl rfl 2 (by decide) (hts _ kX3_12) (fun _ h9 => h9) rfl dX3_takeTableHead_58 ?_
      refine va_get (D := D) (ci := 1) (v := .int (nI a2)) (C := RX1) (T := TX1) (N := 3) hx hb hts in_X1 hown hK hP 2 rfl rfl 1 (by decide) (hts _ kX3_94) (fun _ h9 => h9) rfl dX3_takeTableHead_61 ?_
      refine lv_istore_n (lv' := [(2, .int (nI a2)), (3, .int (nI v1)), (0, .ref h), (1, .ref tb)]) hx hb dX3_takeTableHead_64 rfl hl (by decide) rfl (fun ls hl => ?_)
      refine lv_aload_n hx hb dX3_takeTableHead_65 rfl (lv_at hl 3 rfl) ?_
      refine lv_aload_n hx hb dX3_takeTableHead_66 rfl (lv_at hl 2 rfl) ?_
      refine jn_i (wr := [(tb, .inr (6, [.ref tq1, .int (nI v2), .int x2, .ref tq2, .ref tq3]))]) hA hP hD hS [1, 2, 3] [0] rfl rfl (by decide) (by decide) (rn_V (As := []) (rest := [.ref tb]) ⟨hx, hb, hml, hown, hts⟩ (cvV 0 hts zc_yX3_takeOctet zi_X3 zm_yX3_takeOctet zv_yX3_takeOctet kX3_103 (by decide +kernel) rfl rfl ⟨Nat.le_of_ble_eq_true rfl, Nat.le_of_ble_eq_true rfl⟩) (c_Reader_takeOctet l D cI cB cJ cR h rm rg cf cd ck ca nr sr dl sp wn sk ss sm wf we fj2 pj2 a2 e o N f b (hfj2) (hN) (he) (by omega) (hob) H.size) hK hNw hMk hA hP hD hS [1, 2, 3] rfl rfl (by decide) 0 rfl rfl rfl rfl hl.1 rfl (Nat.le_of_ble_eq_true rfl) dX3_takeTableHead_67 ⟨Nat.le_of_ble_eq_true rfl, Nat.le_of_ble_eq_true rfl⟩) (fun r3 u9 H locs t3 hP hD hS => ?_)
      obtain ⟨v3, fl3, pl3, a3⟩ := u9
      try dsimp only at t3
      have hP : va_P D vwCl [(tb, .inr (6, [.ref tq1, .int (nI v2), .int x2, .ref tq2, .ref tq3])), (h, .inr (3, [.ref rm, .ref rg, .ref cf, .ref cd, .ref ck, .ref ca, .ref nr, .ref sr, .ref dl, .ref sp, .int (nI fl3), .int (nI pl3), .int wn, .int sk, .int ss, .int sm, .int wf, .int we])), (cf, .inr (1, [.ref o, .int (nI a3), .int (nI e)])), (o, .inl (cI, N, .inl f))] H := hP
      have hD : va_D A0 [(tb, .inr (6, [.ref tq1, .int (nI v2), .int x2, .ref tq2, .ref tq3])), (h, .inr (3, [.ref rm, .ref rg, .ref cf, .ref cd, .ref ck, .ref ca, .ref nr, .ref sr, .ref dl, .ref sp, .int (nI fl3), .int (nI pl3), .int wn, .int sk, .int ss, .int sm, .int wf, .int we])), (cf, .inr (1, [.ref o, .int (nI a3), .int (nI e)])), (o, .inl (cI, N, .inl f))] := hD
      obtain ⟨er3, t3⟩ := t3
      subst er3
      obtain ⟨hf3, hs3, hae3, hv3⟩ := tkO_ok hfj2 hae2 (fun j hj => (hob j hj).2) t3
      dsimp only at hs3
      refine va_put (D := D) (ci := 6) (v := .int (nI v3)) (ty := .int) (C := RX6) (T := TX6) (N := 5) hx hb hts in_X6 tyX6 tyX6_ok nmX6 hown hK hP hD hS 0 rfl rfl 2 (by decide) (hts _ kX3_114) (fun _ h9 => h9) rfl (by decide +kernel) rfl rfl (Nat.le_of_ble_eq_true rfl) dX3_takeTableHead_70 (fun H locs hP hD hS => ?_)
      have hP : va_P D vwCl [(tb, .inr (6, [.ref tq1, .int (nI v2), .int (nI v3), .ref tq2, .ref tq3])), (h, .inr (3, [.ref rm, .ref rg, .ref cf, .ref cd, .ref ck, .ref ca, .ref nr, .ref sr, .ref dl, .ref sp, .int (nI fl3), .int (nI pl3), .int wn, .int sk, .int ss, .int sm, .int wf, .int we])), (cf, .inr (1, [.ref o, .int (nI a3), .int (nI e)])), (o, .inl (cI, N, .inl f))] H := hP
      have hD : va_D A0 [(tb, .inr (6, [.ref tq1, .int (nI v2), .int (nI v3), .ref tq2, .ref tq3])), (h, .inr (3, [.ref rm, .ref rg, .ref cf, .ref cd, .ref ck, .ref ca, .ref nr, .ref sr, .ref dl, .ref sp, .int (nI fl3), .int (nI pl3), .int wn, .int sk, .int ss, .int sm, .int wf, .int we])), (cf, .inr (1, [.ref o, .int (nI a3), .int (nI e)])), (o, .inl (cI, N, .inl f))] := hD
      refine lv_aload_n hx hb dX3_takeTableHead_73 rfl (lv_at hl 3 rfl) ?_
      refine va_get (D := D) (ci := 6) (v := .int (nI v3)) (C := RX6) (T := TX6) (N := 5) hx hb hts in_X6 hown hK hP 0 rfl rfl 2 (by decide) (hts _ kX3_114) (fun _ h9 => h9) rfl dX3_takeTableHead_74 ?_
      refine lv_iconst (v := 4) hx hb dX3_takeTableHead_77 (by decide) ?_
      have J3 : ∀ (fj3 : Nat) (pj3 : Nat) (H : Heap) (locs : List Loc) (ls : Array Slot), (flI (4 < v3) 18 a2 (fl3, pl3, a3) = (fj3, pj3, a3)) → (fj3 < 2 ^ 31) → va_P D vwCl [(tb, .inr (6, [.ref tq1, .int (nI v2), .int (nI v3), .ref tq2, .ref tq3])), (h, .inr (3, [.ref rm, .ref rg, .ref cf, .ref cd, .ref ck, .ref ca, .ref nr, .ref sr, .ref dl, .ref sp, .int (nI fj3), .int (nI pj3), .int wn, .int sk, .int ss, .int sm, .int wf, .int we])), (cf, .inr (1, [.ref o, .int (nI a3), .int (nI e)])), (o, .inl (cI, N, .inl f))] H → va_D A0 [(tb, .inr (6, [.ref tq1, .int (nI v2), .int (nI v3), .ref tq2, .ref tq3])), (h, .inr (3, [.ref rm, .ref rg, .ref cf, .ref cd, .ref ck, .ref ca, .ref nr, .ref sr, .ref dl, .ref sp, .int (nI fj3), .int (nI pj3), .int wn, .int sk, .int ss, .int sm, .int wf, .int we])), (cf, .inr (1, [.ref o, .int (nI a3), .int (nI e)])), (o, .inl (cI, N, .inl f))] → va_S A0 s0.heap H locs → lv_has ls 4 [(2, .int (nI a2)), (3, .int (nI v1)), (0, .ref h), (1, .ref tb)] → W p0 l e0 ({ frames := 3, cells := 0, slots := 0, locals := 67 }) s0 m0 ([.ref h, .ref tb] : List Value).toArray below meth c0 H locs 0 0 Q0 (F0 m0 88 ls []) := by
        intro fj3 pj3 H locs ls hj3 hfj3 hP hD hS hl
        have k3 : tkT3 b e (fj2, pj2, a2) = (fj3, pj3, a3) := by rw [tkT3, t3]; exact hj3
        refine lv_iload_n hx hb dX3_takeTableHead_88 rfl (lv_at hl 1 rfl) ?_
        refine lv_iconst (v := 2) hx hb dX3_takeTableHead_89 (by decide) ?_
        refine lv_isub hx hb dX3_takeTableHead_90 ?_
        refine lv_topi (fun d_1 ed_1 => ?_)
        refine lv_aload_n hx hb dX3_takeTableHead_91 rfl (lv_at hl 2 rfl) ?_
        refine va_get (D := D) (ci := 3) (v := .ref cf) (C := RX3) (T := TX3) (N := 18) hx hb hts in_X3 hown hK hP 1 rfl rfl 2 (by decide) (hts _ kX3_12) (fun _ h9 => h9) rfl dX3_takeTableHead_92 ?_
        refine jn_i (wr := [(tb, .inr (6, [.ref tq1, .int (nI v2), .int (nI v3), .ref tq2, .ref tq3])), (h, .inr (3, [.ref rm, .ref rg, .ref cf, .ref cd, .ref ck, .ref ca, .ref nr, .ref sr, .ref dl, .ref sp, .int (nI fj3), .int (nI pj3), .int wn, .int sk, .int ss, .int sm, .int wf, .int we])), (o, .inl (cI, N, .inl f))]) hA hP hD hS [2] [0, 1, 3] rfl rfl (by decide) (by decide) (rn_V (As := []) (rest := [.int d_1]) ⟨hx, hb, hml, hown, hts⟩ (cvV 0 hts zc_yX1_left zi_X1 zm_yX1_left zv_yX1_left kX3_117 (by decide +kernel) rfl rfl ⟨Nat.le_of_ble_eq_true rfl, Nat.le_of_ble_eq_true rfl⟩) (c_Cursor_left l D cI cB cJ cR cf o (nI a3) (nI e)  H.size) hK hNw hMk hA hP hD hS [2] rfl rfl (by decide) 0 rfl rfl rfl rfl hl.1 rfl (Nat.le_of_ble_eq_true rfl) dX3_takeTableHead_95 ⟨Nat.le_of_ble_eq_true rfl, Nat.le_of_ble_eq_true rfl⟩) (fun lf u9 H locs hlf hP hD hS => ?_)
        try dsimp only at hlf
        have hP : va_P D vwCl [(tb, .inr (6, [.ref tq1, .int (nI v2), .int (nI v3), .ref tq2, .ref tq3])), (h, .inr (3, [.ref rm, .ref rg, .ref cf, .ref cd, .ref ck, .ref ca, .ref nr, .ref sr, .ref dl, .ref sp, .int (nI fj3), .int (nI pj3), .int wn, .int sk, .int ss, .int sm, .int wf, .int we])), (o, .inl (cI, N, .inl f)), (cf, .inr (1, [.ref o, .int (nI a3), .int (nI e)]))] H := hP
        have hD : va_D A0 [(tb, .inr (6, [.ref tq1, .int (nI v2), .int (nI v3), .ref tq2, .ref tq3])), (h, .inr (3, [.ref rm, .ref rg, .ref cf, .ref cd, .ref ck, .ref ca, .ref nr, .ref sr, .ref dl, .ref sp, .int (nI fj3), .int (nI pj3), .int wn, .int sk, .int ss, .int sm, .int wf, .int we])), (o, .inl (cI, N, .inl f)), (cf, .inr (1, [.ref o, .int (nI a3), .int (nI e)]))] := hD
        have hlf2 : lf = nI (e - a3) := hlf.trans (pk_sub hae3)
        subst hlf2
        have J4 : ∀ (fj4 : Nat) (pj4 : Nat) (H : Heap) (locs : List Loc) (ls : Array Slot), (flI (e + 2 < v1 + a3) 1 e (fj3, pj3, a3) = (fj4, pj4, a3)) → (fj4 < 2 ^ 31) → va_P D vwCl [(tb, .inr (6, [.ref tq1, .int (nI v2), .int (nI v3), .ref tq2, .ref tq3])), (h, .inr (3, [.ref rm, .ref rg, .ref cf, .ref cd, .ref ck, .ref ca, .ref nr, .ref sr, .ref dl, .ref sp, .int (nI fj4), .int (nI pj4), .int wn, .int sk, .int ss, .int sm, .int wf, .int we])), (o, .inl (cI, N, .inl f)), (cf, .inr (1, [.ref o, .int (nI a3), .int (nI e)]))] H → va_D A0 [(tb, .inr (6, [.ref tq1, .int (nI v2), .int (nI v3), .ref tq2, .ref tq3])), (h, .inr (3, [.ref rm, .ref rg, .ref cf, .ref cd, .ref ck, .ref ca, .ref nr, .ref sr, .ref dl, .ref sp, .int (nI fj4), .int (nI pj4), .int wn, .int sk, .int ss, .int sm, .int wf, .int we])), (o, .inl (cI, N, .inl f)), (cf, .inr (1, [.ref o, .int (nI a3), .int (nI e)]))] → va_S A0 s0.heap H locs → lv_has ls 4 [(2, .int (nI a2)), (3, .int (nI v1)), (0, .ref h), (1, .ref tb)] → W p0 l e0 ({ frames := 3, cells := 0, slots := 0, locals := 67 }) s0 m0 ([.ref h, .ref tb] : List Value).toArray below meth c0 H locs 0 0 Q0 (F0 m0 113 ls []) := by
          intro fj4 pj4 H locs ls hj4 hfj4 hP hD hS hl
          have k4 : tkT4 e v1 (fj3, pj3, a3) = (fj4, pj4, a3) := hj4
          refine lv_aload_n hx hb dX3_takeTableHead_113 rfl (lv_at hl 2 rfl) ?_
          refine va_get (D := D) (ci := 3) (v := .int (nI fj4)) (C := RX3) (T := TX3) (N := 18) hx hb hts in_X3 hown hK hP 1 rfl rfl 10 (by decide) (hts _ kX3_73) (fun _ h9 => h9) rfl dX3_takeTableHead_114 ?_
          refine lv_if_ne (tgt := 126) hx hb dX3_takeTableHead_117 (by decide) (fun c_2 => ?_) (fun c_2 => ?_)
          · have h0 : ¬ fj4 = 0 := fun z => c_2 (by rw [z]; decide)
            refine lv_iconst (v := 0) hx hb dX3_takeTableHead_126 (by decide) ?_
            refine ri (y := nI (if fj4 = 0 then v1 - 2 else 0)) (by rw [if_neg h0]; exact nI_0.symm) ?_
            have hP := hP.sub (ws' := [(h, .inr (3, [.ref rm, .ref rg, .ref cf, .ref cd, .ref ck, .ref ca, .ref nr, .ref sr, .ref dl, .ref sp, .int (nI fj4), .int (nI pj4), .int wn, .int sk, .int ss, .int sm, .int wf, .int we])), (cf, .inr (1, [.ref o, .int (nI a3), .int (nI e)])), (o, .inl (cI, N, .inl f)), (tb, .inr (6, [.ref tq1, .int (nI v2), .int (nI v3), .ref tq2, .ref tq3]))]) [1, 3, 2, 0] rfl
            have hD := hD.sub (ws' := [(h, .inr (3, [.ref rm, .ref rg, .ref cf, .ref cd, .ref ck, .ref ca, .ref nr, .ref sr, .ref dl, .ref sp, .int (nI fj4), .int (nI pj4), .int wn, .int sk, .int ss, .int sm, .int wf, .int we])), (cf, .inr (1, [.ref o, .int (nI a3), .int (nI e)])), (o, .inl (cI, N, .inl f)), (tb, .inr (6, [.ref tq1, .int (nI v2), .int (nI v3), .ref tq2, .ref tq3]))]) [1, 3, 2, 0] (by decide) rfl
            exact hret 127 ls _ _ _ (v1, v2, v3, fj4, pj4, a3) dX3_takeTableHead_127 hP hD hS (⟨rfl, by rw [t1], by rw [k1, t2], by rw [k1, k2, t3], by rw [k1, k2, k3]; exact k4, hfj4, by omega, hae3, fun z => absurd z h0⟩)
          · have h0 : fj4 = 0 := Decidable.byContradiction (fun z => nI_ne0 (Nat.pos_of_ne_zero z) hfj4 c_2)
            obtain ⟨n4, q4⟩ := flI_0 hj4 h0 (by decide)
            obtain ⟨q41, q42⟩ := Prod.mk.inj q4
            obtain ⟨n3, q3⟩ := flI_0 hj3 (q41.trans h0) (by decide)
            obtain ⟨q31, -⟩ := Prod.mk.inj q3
            obtain ⟨n2, q2⟩ := flI_0 hj2 (by have z := tkO_z t3; rw [q31, q41, h0] at z; exact z rfl) (by decide)
            obtain ⟨q21, -⟩ := Prod.mk.inj q2
            have z2 : fj2 = 0 := by have z := tkO_z t3; rw [q31, q41, h0] at z; exact z rfl
            obtain ⟨n1, q1⟩ := flI_0 hj1 (by have z := tkO_z t2; rw [q21, z2] at z; exact z rfl) (by decide)
            refine lv_iload_n hx hb dX3_takeTableHead_120 rfl (lv_at hl 1 rfl) ?_
            refine lv_iconst (v := 2) hx hb dX3_takeTableHead_121 (by decide) ?_
            refine lv_isub hx hb dX3_takeTableHead_122 ?_
            refine ri (y := nI (v1 - 2)) (pk_sub (b := 2) (by omega)) ?_
            refine lv_goto (tgt := 127) hx hb dX3_takeTableHead_123 (by decide) ?_
            refine ri (y := nI (if fj4 = 0 then v1 - 2 else 0)) (by rw [if_pos h0]) ?_
            have hP := hP.sub (ws' := [(h, .inr (3, [.ref rm, .ref rg, .ref cf, .ref cd, .ref ck, .ref ca, .ref nr, .ref sr, .ref dl, .ref sp, .int (nI fj4), .int (nI pj4), .int wn, .int sk, .int ss, .int sm, .int wf, .int we])), (cf, .inr (1, [.ref o, .int (nI a3), .int (nI e)])), (o, .inl (cI, N, .inl f)), (tb, .inr (6, [.ref tq1, .int (nI v2), .int (nI v3), .ref tq2, .ref tq3]))]) [1, 3, 2, 0] rfl
            have hD := hD.sub (ws' := [(h, .inr (3, [.ref rm, .ref rg, .ref cf, .ref cd, .ref ck, .ref ca, .ref nr, .ref sr, .ref dl, .ref sp, .int (nI fj4), .int (nI pj4), .int wn, .int sk, .int ss, .int sm, .int wf, .int we])), (cf, .inr (1, [.ref o, .int (nI a3), .int (nI e)])), (o, .inl (cI, N, .inl f)), (tb, .inr (6, [.ref tq1, .int (nI v2), .int (nI v3), .ref tq2, .ref tq3]))]) [1, 3, 2, 0] (by decide) rfl
            exact hret 127 ls _ _ _ (v1, v2, v3, fj4, pj4, a3) dX3_takeTableHead_127 hP hD hS (⟨rfl, by rw [t1], by rw [k1, t2], by rw [k1, k2, t3], by rw [k1, k2, k3]; exact k4, hfj4, by omega, hae3, fun _ => ⟨by omega, by omega, by omega, by omega⟩⟩)
        refine lv_icmp_le (tgt := 113) hx hb dX3_takeTableHead_98 (by decide) (fun c_3 => ?_) (fun c_3 => ?_)
        · exact J4 fj3 pj3 _ _ ls (flI_f (fun z => by rw [ed_1] at c_3; exact tt_le hv1 hae3 z c_3)) (hfj3) hP hD hS (lv_sub hl [0, 1, 2, 3] rfl)
        · refine lv_aload_n hx hb dX3_takeTableHead_101 rfl (lv_at hl 2 rfl) ?_
          refine lv_iconst (v := 1) hx hb dX3_takeTableHead_102 (by decide) ?_
          refine lv_aload_n hx hb dX3_takeTableHead_103 rfl (lv_at hl 2 rfl) ?_
          refine va_get (D := D) (ci := 3) (v := .ref cf) (C := RX3) (T := TX3) (N := 18) hx hb hts in_X3 hown hK hP 1 rfl rfl 2 (by decide) (hts _ kX3_12) (fun _ h9 => h9) rfl dX3_takeTableHead_104 ?_
          refine va_get (D := D) (ci := 1) (v := .int (nI e)) (C := RX1) (T := TX1) (N := 3) hx hb hts in_X1 hown hK hP 3 rfl rfl 2 (by decide) (hts _ kX3_87) (fun _ h9 => h9) rfl dX3_takeTableHead_107 ?_
          refine jn_v (wr := [(tb, .inr (6, [.ref tq1, .int (nI v2), .int (nI v3), .ref tq2, .ref tq3])), (o, .inl (cI, N, .inl f)), (cf, .inr (1, [.ref o, .int (nI a3), .int (nI e)]))]) hA hP hD hS [1] [0, 2, 3] rfl rfl (by decide) (by decide) (rn_V (As := [.int (nI 1), .int (nI e)]) (rest := []) ⟨hx, hb, hml, hown, hts⟩ (cvV 2 hts zc_yX3_fail zi_X3 zm_yX3_fail zv_yX3_fail kX3_90 (by decide +kernel) rfl rfl ⟨Nat.le_of_ble_eq_true rfl, Nat.le_of_ble_eq_true rfl⟩) (c_Reader_fail l D cI cB cJ cR h rm rg cf cd ck ca nr sr dl sp wn sk ss sm wf we fj3 pj3 1 e (hfj3) H.size) hK hNw hMk hA hP hD hS [1] rfl rfl (by decide) 0 rfl rfl rfl rfl hl.1 rfl (Nat.le_of_ble_eq_true rfl) dX3_takeTableHead_110 ⟨Nat.le_of_ble_eq_true rfl, Nat.le_of_ble_eq_true rfl⟩) (fun u9 H locs t4 hP hD hS => ?_)
          obtain ⟨fl4, pl4⟩ := u9
          try dsimp only at t4
          have hP : va_P D vwCl [(tb, .inr (6, [.ref tq1, .int (nI v2), .int (nI v3), .ref tq2, .ref tq3])), (o, .inl (cI, N, .inl f)), (cf, .inr (1, [.ref o, .int (nI a3), .int (nI e)])), (h, .inr (3, [.ref rm, .ref rg, .ref cf, .ref cd, .ref ck, .ref ca, .ref nr, .ref sr, .ref dl, .ref sp, .int (nI fl4), .int (nI pl4), .int wn, .int sk, .int ss, .int sm, .int wf, .int we]))] H := hP
          have hD : va_D A0 [(tb, .inr (6, [.ref tq1, .int (nI v2), .int (nI v3), .ref tq2, .ref tq3])), (o, .inl (cI, N, .inl f)), (cf, .inr (1, [.ref o, .int (nI a3), .int (nI e)])), (h, .inr (3, [.ref rm, .ref rg, .ref cf, .ref cd, .ref ck, .ref ca, .ref nr, .ref sr, .ref dl, .ref sp, .int (nI fl4), .int (nI pl4), .int wn, .int sk, .int ss, .int sm, .int wf, .int we]))] := hD
          have hf4 := fl_ok hfj3 (by decide) t4
          exact J4 fl4 pl4 _ _ ls (flI_t (by rw [ed_1] at c_3; exact tt_gt hv1 hae3 (he := by omega) c_3) t4) (hf4) (hP.sub [0, 3, 1, 2] rfl) (hD.sub [0, 3, 1, 2] (by decide) rfl) hS (lv_sub hl [0, 1, 2, 3] rfl)
      refine lv_icmp_le (tgt := 88) hx hb dX3_takeTableHead_78 (by decide) (fun c_5 => ?_) (fun c_5 => ?_)
      · exact J3 fl3 pl3 _ _ ls (flI_f (fun z => absurd ((nI_leI (b := 4) (by omega) (by decide)).mp c_5) (by omega))) (hf3) hP hD hS (lv_sub hl [0, 1, 2, 3] rfl)
      · refine lv_aload_n hx hb dX3_takeTableHead_81 rfl (lv_at hl 2 rfl) ?_
        refine lv_bipush (v := 18) hx hb dX3_takeTableHead_82 (by decide) ?_
        refine lv_iload_n hx hb dX3_takeTableHead_84 rfl (lv_at hl 0 rfl) ?_
        refine jn_v (wr := [(tb, .inr (6, [.ref tq1, .int (nI v2), .int (nI v3), .ref tq2, .ref tq3])), (cf, .inr (1, [.ref o, .int (nI a3), .int (nI e)])), (o, .inl (cI, N, .inl f))]) hA hP hD hS [1] [0, 2, 3] rfl rfl (by decide) (by decide) (rn_V (As := [.int (nI 18), .int (nI a2)]) (rest := []) ⟨hx, hb, hml, hown, hts⟩ (cvV 2 hts zc_yX3_fail zi_X3 zm_yX3_fail zv_yX3_fail kX3_90 (by decide +kernel) rfl rfl ⟨Nat.le_of_ble_eq_true rfl, Nat.le_of_ble_eq_true rfl⟩) (c_Reader_fail l D cI cB cJ cR h rm rg cf cd ck ca nr sr dl sp wn sk ss sm wf we fl3 pl3 18 a2 (hf3) H.size) hK hNw hMk hA hP hD hS [1] rfl rfl (by decide) 0 rfl rfl rfl rfl hl.1 rfl (Nat.le_of_ble_eq_true rfl) dX3_takeTableHead_85 ⟨Nat.le_of_ble_eq_true rfl, Nat.le_of_ble_eq_true rfl⟩) (fun u9 H locs t5 hP hD hS => ?_)
        obtain ⟨fl5, pl5⟩ := u9
        try dsimp only at t5
        have hP : va_P D vwCl [(tb, .inr (6, [.ref tq1, .int (nI v2), .int (nI v3), .ref tq2, .ref tq3])), (cf, .inr (1, [.ref o, .int (nI a3), .int (nI e)])), (o, .inl (cI, N, .inl f)), (h, .inr (3, [.ref rm, .ref rg, .ref cf, .ref cd, .ref ck, .ref ca, .ref nr, .ref sr, .ref dl, .ref sp, .int (nI fl5), .int (nI pl5), .int wn, .int sk, .int ss, .int sm, .int wf, .int we]))] H := hP
        have hD : va_D A0 [(tb, .inr (6, [.ref tq1, .int (nI v2), .int (nI v3), .ref tq2, .ref tq3])), (cf, .inr (1, [.ref o, .int (nI a3), .int (nI e)])), (o, .inl (cI, N, .inl f)), (h, .inr (3, [.ref rm, .ref rg, .ref cf, .ref cd, .ref ck, .ref ca, .ref nr, .ref sr, .ref dl, .ref sp, .int (nI fl5), .int (nI pl5), .int wn, .int sk, .int ss, .int sm, .int wf, .int we]))] := hD
        have hf5 := fl_ok hf3 (by decide) t5
        exact J3 fl5 pl5 _ _ ls (flI_t (Nat.not_le.mp (fun z => c_5 (nI_le (b := 4) z (by decide)))) t5) (hf5) (hP.sub [0, 3, 1, 2] rfl) (hD.sub [0, 3, 1, 2] (by decide) rfl) hS (lv_sub hl [0, 1, 2, 3] rfl)
    refine lv_icmp_le (tgt := 57) hx hb dX3_takeTableHead_47 (by decide) (fun c_7 => ?_) (fun c_7 => ?_)
    · exact J2 fl2 pl2 _ _ ls (flI_f (fun z => absurd ((nI_leI (b := 8) (by omega) (by decide)).mp c_7) (by omega))) (hf2) hP hD hS (lv_sub hl [0, 1, 2, 3] rfl)
    · refine lv_aload_n hx hb dX3_takeTableHead_50 rfl (lv_at hl 2 rfl) ?_
      refine lv_bipush (v := 18) hx hb dX3_takeTableHead_51 (by decide) ?_
      refine lv_iload_n hx hb dX3_takeTableHead_53 rfl (lv_at hl 0 rfl) ?_
      refine jn_v (wr := [(tb, .inr (6, [.ref tq1, .int (nI v2), .int x2, .ref tq2, .ref tq3])), (cf, .inr (1, [.ref o, .int (nI a2), .int (nI e)])), (o, .inl (cI, N, .inl f))]) hA hP hD hS [1] [0, 2, 3] rfl rfl (by decide) (by decide) (rn_V (As := [.int (nI 18), .int (nI a1)]) (rest := []) ⟨hx, hb, hml, hown, hts⟩ (cvV 2 hts zc_yX3_fail zi_X3 zm_yX3_fail zv_yX3_fail kX3_90 (by decide +kernel) rfl rfl ⟨Nat.le_of_ble_eq_true rfl, Nat.le_of_ble_eq_true rfl⟩) (c_Reader_fail l D cI cB cJ cR h rm rg cf cd ck ca nr sr dl sp wn sk ss sm wf we fl2 pl2 18 a1 (hf2) H.size) hK hNw hMk hA hP hD hS [1] rfl rfl (by decide) 0 rfl rfl rfl rfl hl.1 rfl (Nat.le_of_ble_eq_true rfl) dX3_takeTableHead_54 ⟨Nat.le_of_ble_eq_true rfl, Nat.le_of_ble_eq_true rfl⟩) (fun u9 H locs t6 hP hD hS => ?_)
      obtain ⟨fl6, pl6⟩ := u9
      try dsimp only at t6
      have hP : va_P D vwCl [(tb, .inr (6, [.ref tq1, .int (nI v2), .int x2, .ref tq2, .ref tq3])), (cf, .inr (1, [.ref o, .int (nI a2), .int (nI e)])), (o, .inl (cI, N, .inl f)), (h, .inr (3, [.ref rm, .ref rg, .ref cf, .ref cd, .ref ck, .ref ca, .ref nr, .ref sr, .ref dl, .ref sp, .int (nI fl6), .int (nI pl6), .int wn, .int sk, .int ss, .int sm, .int wf, .int we]))] H := hP
      have hD : va_D A0 [(tb, .inr (6, [.ref tq1, .int (nI v2), .int x2, .ref tq2, .ref tq3])), (cf, .inr (1, [.ref o, .int (nI a2), .int (nI e)])), (o, .inl (cI, N, .inl f)), (h, .inr (3, [.ref rm, .ref rg, .ref cf, .ref cd, .ref ck, .ref ca, .ref nr, .ref sr, .ref dl, .ref sp, .int (nI fl6), .int (nI pl6), .int wn, .int sk, .int ss, .int sm, .int wf, .int we]))] := hD
      have hf6 := fl_ok hf2 (by decide) t6
      exact J2 fl6 pl6 _ _ ls (flI_t (Nat.not_le.mp (fun z => c_7 (nI_le (b := 8) z (by decide)))) t6) (hf6) (hP.sub [0, 3, 1, 2] rfl) (hD.sub [0, 3, 1, 2] (by decide) rfl) hS (lv_sub hl [0, 1, 2, 3] rfl)
  refine lv_icmp_ge (tgt := 25) hx hb dX3_takeTableHead_15 (by decide) (fun c_9 => ?_) (fun c_9 => ?_)
  · exact J1 fl1 pl1 _ _ ls (flI_f (fun z => absurd ((nI_leI (a := 2) (by decide) (by omega)).mp c_9) (by omega))) (hf1) hP hD hS (lv_sub hl [0, 1, 2, 3] rfl)
  · refine lv_aload_n hx hb dX3_takeTableHead_18 rfl (lv_at hl 2 rfl) ?_
    refine lv_bipush (v := 18) hx hb dX3_takeTableHead_19 (by decide) ?_
    refine lv_iload_n hx hb dX3_takeTableHead_21 rfl (lv_at hl 1 rfl) ?_
    refine jn_v (wr := [(tb, .inr (6, [.ref tq1, .int x1, .int x2, .ref tq2, .ref tq3])), (cf, .inr (1, [.ref o, .int (nI a1), .int (nI e)])), (o, .inl (cI, N, .inl f))]) hA hP hD hS [1] [0, 2, 3] rfl rfl (by decide) (by decide) (rn_V (As := [.int (nI 18), .int (nI a)]) (rest := []) ⟨hx, hb, hml, hown, hts⟩ (cvV 2 hts zc_yX3_fail zi_X3 zm_yX3_fail zv_yX3_fail kX3_90 (by decide +kernel) rfl rfl ⟨Nat.le_of_ble_eq_true rfl, Nat.le_of_ble_eq_true rfl⟩) (c_Reader_fail l D cI cB cJ cR h rm rg cf cd ck ca nr sr dl sp wn sk ss sm wf we fl1 pl1 18 a (hf1) H.size) hK hNw hMk hA hP hD hS [1] rfl rfl (by decide) 0 rfl rfl rfl rfl hl.1 rfl (Nat.le_of_ble_eq_true rfl) dX3_takeTableHead_22 ⟨Nat.le_of_ble_eq_true rfl, Nat.le_of_ble_eq_true rfl⟩) (fun u9 H locs t7 hP hD hS => ?_)
    obtain ⟨fl7, pl7⟩ := u9
    try dsimp only at t7
    have hP : va_P D vwCl [(tb, .inr (6, [.ref tq1, .int x1, .int x2, .ref tq2, .ref tq3])), (cf, .inr (1, [.ref o, .int (nI a1), .int (nI e)])), (o, .inl (cI, N, .inl f)), (h, .inr (3, [.ref rm, .ref rg, .ref cf, .ref cd, .ref ck, .ref ca, .ref nr, .ref sr, .ref dl, .ref sp, .int (nI fl7), .int (nI pl7), .int wn, .int sk, .int ss, .int sm, .int wf, .int we]))] H := hP
    have hD : va_D A0 [(tb, .inr (6, [.ref tq1, .int x1, .int x2, .ref tq2, .ref tq3])), (cf, .inr (1, [.ref o, .int (nI a1), .int (nI e)])), (o, .inl (cI, N, .inl f)), (h, .inr (3, [.ref rm, .ref rg, .ref cf, .ref cd, .ref ck, .ref ca, .ref nr, .ref sr, .ref dl, .ref sp, .int (nI fl7), .int (nI pl7), .int wn, .int sk, .int ss, .int sm, .int wf, .int we]))] := hD
    have hf7 := fl_ok hf1 (by decide) t7
    exact J1 fl7 pl7 _ _ ls (flI_t (Nat.not_le.mp (fun z => c_9 (nI_le (a := 2) z (by omega)))) t7) (hf7) (hP.sub [0, 3, 1, 2] rfl) (hD.sub [0, 3, 1, 2] (by decide) rfl) hS (lv_sub hl [0, 1, 2, 3] rfl)

set_option maxHeartbeats 4000000 in
set_option maxRecDepth 100000 in
theorem c_Reader_takeSegment (l : Launch) (D : va_G) (cI cB cJ cR : ClassId) (h : Nat) (rm : Nat) (rg : Nat) (cf : Nat) (cd : Nat) (ck : Nat) (ca : Nat) (nr : Nat) (sr : Nat) (dl : Nat) (sp : Nat) (wn : Int32) (sk : Int32) (ss : Int32) (sm : Int32) (wf : Int32) (we : Int32) (fl : Nat) (pl : Nat) (a : Nat) (e : Nat) (o : Nat) (N : Nat) (f : Nat → Int32) (b : Nat → Nat) (so : Nat) (sn : Nat) (mo : Nat) (mn : Nat) (y1 : Int32) (y2 : Int32) (hfl : fl < 2 ^ 31) (hN : N < 2 ^ 24) (he : e ≤ N) (hae : a ≤ e) (hob : octs f b e) (hsn : sn < 2 ^ 24) (hmn : mn < 2 ^ 24) : CMv l yX3_takeSegment cX3_takeSegment 3 none ({ frames := 3, cells := 0, slots := 0, locals := 67 }) D (tyA cI cB cJ cR) 0 0 [.ref h] [(h, .inr (3, [.ref rm, .ref rg, .ref cf, .ref cd, .ref ck, .ref ca, .ref nr, .ref sr, .ref dl, .ref sp, .int (nI fl), .int (nI pl), .int wn, .int sk, .int ss, .int sm, .int wf, .int we])), (cf, .inr (1, [.ref o, .int (nI a), .int (nI e)])), (o, .inl (cI, N, .inl f)), (sr, .inr (4, [.ref so, .int (nI sn), .int y1])), (rm, .inr (4, [.ref mo, .int (nI mn), .int y2]))] (fun (u9 : Nat × Nat × Nat × Nat × Nat × Nat) => match u9 with | (k, z, m, fl2, pl2, a2) => tkSeg b e sn mn (fl, pl, a) = ((k, z, m), (fl2, pl2, a2)) ∧ fl2 < 2 ^ 31 ∧ a ≤ a2 ∧ a2 ≤ e) (fun (u9 : Nat × Nat × Nat × Nat × Nat × Nat) => match u9 with | (k, z, m, fl2, pl2, a2) => [(h, .inr (3, [.ref rm, .ref rg, .ref cf, .ref cd, .ref ck, .ref ca, .ref nr, .ref sr, .ref dl, .ref sp, .int (nI fl2), .int (nI pl2), .int wn, .int (nI k), .int (nI z), .int (nI m), .int wf, .int we])), (cf, .inr (1, [.ref o, .int (nI a2), .int (nI e)])), (o, .inl (cI, N, .inl f)), (sr, .inr (4, [.ref so, .int (nI sn), .int y1])), (rm, .inr (4, [.ref mo, .int (nI mn), .int y2]))]) := by
  refine st_v (cc := cX3_takeSegment) (maxL := 3) (by decide) (Nat.le_of_ble_eq_true rfl) ?_
  intro p0 e0 s0 m0 below meth c0 A0 Q0 hBD hret hP hD hS ls hl
  obtain ⟨hx, hb, hml, hown, hts, hnm, hK, hNw, hMk, hA⟩ := hBD
  have hl : lv_has ls 3 [(0, .ref h)] := hl
  have hP : va_P D vwCl [(h, .inr (3, [.ref rm, .ref rg, .ref cf, .ref cd, .ref ck, .ref ca, .ref nr, .ref sr, .ref dl, .ref sp, .int (nI fl), .int (nI pl), .int wn, .int sk, .int ss, .int sm, .int wf, .int we])), (cf, .inr (1, [.ref o, .int (nI a), .int (nI e)])), (o, .inl (cI, N, .inl f)), (sr, .inr (4, [.ref so, .int (nI sn), .int y1])), (rm, .inr (4, [.ref mo, .int (nI mn), .int y2]))] s0.heap := hP
  have hD : va_D A0 [(h, .inr (3, [.ref rm, .ref rg, .ref cf, .ref cd, .ref ck, .ref ca, .ref nr, .ref sr, .ref dl, .ref sp, .int (nI fl), .int (nI pl), .int wn, .int sk, .int ss, .int sm, .int wf, .int we])), (cf, .inr (1, [.ref o, .int (nI a), .int (nI e)])), (o, .inl (cI, N, .inl f)), (sr, .inr (4, [.ref so, .int (nI sn), .int y1])), (rm, .inr (4, [.ref mo, .int (nI mn), .int y2]))] := hD
  refine lv_aload_n hx hb dX3_takeSegment_0 rfl (lv_at hl 0 rfl) ?_
  refine va_get (D := D) (ci := 3) (v := .ref cf) (C := RX3) (T := TX3) (N := 18) hx hb hts in_X3 hown hK hP 0 rfl rfl 2 (by decide) (hts _ kX3_12) (fun _ h9 => h9) rfl dX3_takeSegment_1 ?_
  refine va_get (D := D) (ci := 1) (v := .int (nI a)) (C := RX1) (T := TX1) (N := 3) hx hb hts in_X1 hown hK hP 1 rfl rfl 1 (by decide) (hts _ kX3_94) (fun _ h9 => h9) rfl dX3_takeSegment_4 ?_
  refine lv_istore_n (lv' := [(1, .int (nI a)), (0, .ref h)]) hx hb dX3_takeSegment_7 rfl hl (by decide) rfl (fun ls hl => ?_)
  refine lv_aload_n hx hb dX3_takeSegment_8 rfl (lv_at hl 1 rfl) ?_
  refine lv_aload_n hx hb dX3_takeSegment_9 rfl (lv_at hl 1 rfl) ?_
  refine jn_i (wr := [(sr, .inr (4, [.ref so, .int (nI sn), .int y1])), (rm, .inr (4, [.ref mo, .int (nI mn), .int y2]))]) hA hP hD hS [0, 1, 2] [3, 4] rfl rfl (by decide) (by decide) (rn_V (As := []) (rest := [.ref h]) ⟨hx, hb, hml, hown, hts⟩ (cvV 0 hts zc_yX3_takeOctet zi_X3 zm_yX3_takeOctet zv_yX3_takeOctet kX3_103 (by decide +kernel) rfl rfl ⟨Nat.le_of_ble_eq_true rfl, Nat.le_of_ble_eq_true rfl⟩) (c_Reader_takeOctet l D cI cB cJ cR h rm rg cf cd ck ca nr sr dl sp wn sk ss sm wf we fl pl a e o N f b (hfl) (hN) (he) (by omega) (hob) s0.heap.size) hK hNw hMk hA hP hD hS [0, 1, 2] rfl rfl (by decide) 0 rfl rfl rfl rfl hl.1 rfl (Nat.le_of_ble_eq_true rfl) dX3_takeSegment_10 ⟨Nat.le_of_ble_eq_true rfl, Nat.le_of_ble_eq_true rfl⟩) (fun r1 u9 H locs t1 hP hD hS => ?_)
  obtain ⟨v1, fl1, pl1, a1⟩ := u9
  try dsimp only at t1
  have hP : va_P D vwCl [(sr, .inr (4, [.ref so, .int (nI sn), .int y1])), (rm, .inr (4, [.ref mo, .int (nI mn), .int y2])), (h, .inr (3, [.ref rm, .ref rg, .ref cf, .ref cd, .ref ck, .ref ca, .ref nr, .ref sr, .ref dl, .ref sp, .int (nI fl1), .int (nI pl1), .int wn, .int sk, .int ss, .int sm, .int wf, .int we])), (cf, .inr (1, [.ref o, .int (nI a1), .int (nI e)])), (o, .inl (cI, N, .inl f))] H := hP
  have hD : va_D A0 [(sr, .inr (4, [.ref so, .int (nI sn), .int y1])), (rm, .inr (4, [.ref mo, .int (nI mn), .int y2])), (h, .inr (3, [.ref rm, .ref rg, .ref cf, .ref cd, .ref ck, .ref ca, .ref nr, .ref sr, .ref dl, .ref sp, .int (nI fl1), .int (nI pl1), .int wn, .int sk, .int ss, .int sm, .int wf, .int we])), (cf, .inr (1, [.ref o, .int (nI a1), .int (nI e)])), (o, .inl (cI, N, .inl f))] := hD
  obtain ⟨er1, t1⟩ := t1
  subst er1
  obtain ⟨hf1, hs1, hae1, hv1⟩ := tkO_ok hfl hae (fun j hj => (hob j hj).2) t1
  dsimp only at hs1
  refine va_put (D := D) (ci := 3) (v := .int (nI v1)) (ty := .int) (C := RX3) (T := TX3) (N := 18) hx hb hts in_X3 tyX3 tyX3_ok nmX3 hown hK hP hD hS 2 rfl rfl 13 (by decide) (hts _ kX3_137) (fun _ h9 => h9) rfl (by decide +kernel) rfl rfl (Nat.le_of_ble_eq_true rfl) dX3_takeSegment_13 (fun H locs hP hD hS => ?_)
  have hP : va_P D vwCl [(sr, .inr (4, [.ref so, .int (nI sn), .int y1])), (rm, .inr (4, [.ref mo, .int (nI mn), .int y2])), (h, .inr (3, [.ref rm, .ref rg, .ref cf, .ref cd, .ref ck, .ref ca, .ref nr, .ref sr, .ref dl, .ref sp, .int (nI fl1), .int (nI pl1), .int wn, .int (nI v1), .int ss, .int sm, .int wf, .int we])), (cf, .inr (1, [.ref o, .int (nI a1), .int (nI e)])), (o, .inl (cI, N, .inl f))] H := hP
  have hD : va_D A0 [(sr, .inr (4, [.ref so, .int (nI sn), .int y1])), (rm, .inr (4, [.ref mo, .int (nI mn), .int y2])), (h, .inr (3, [.ref rm, .ref rg, .ref cf, .ref cd, .ref ck, .ref ca, .ref nr, .ref sr, .ref dl, .ref sp, .int (nI fl1), .int (nI pl1), .int wn, .int (nI v1), .int ss, .int sm, .int wf, .int we])), (cf, .inr (1, [.ref o, .int (nI a1), .int (nI e)])), (o, .inl (cI, N, .inl f))] := hD
  refine lv_aload_n hx hb dX3_takeSegment_16 rfl (lv_at hl 1 rfl) ?_
  refine lv_iconst (v := 0) hx hb dX3_takeSegment_17 (by decide) ?_
  refine ri (y := nI 0) (nI_0.symm) ?_
  refine va_put (D := D) (ci := 3) (v := .int (nI 0)) (ty := .int) (C := RX3) (T := TX3) (N := 18) hx hb hts in_X3 tyX3 tyX3_ok nmX3 hown hK hP hD hS 2 rfl rfl 14 (by decide) (hts _ kX3_140) (fun _ h9 => h9) rfl (by decide +kernel) rfl rfl (Nat.le_of_ble_eq_true rfl) dX3_takeSegment_18 (fun H locs hP hD hS => ?_)
  have hP : va_P D vwCl [(sr, .inr (4, [.ref so, .int (nI sn), .int y1])), (rm, .inr (4, [.ref mo, .int (nI mn), .int y2])), (h, .inr (3, [.ref rm, .ref rg, .ref cf, .ref cd, .ref ck, .ref ca, .ref nr, .ref sr, .ref dl, .ref sp, .int (nI fl1), .int (nI pl1), .int wn, .int (nI v1), .int (nI 0), .int sm, .int wf, .int we])), (cf, .inr (1, [.ref o, .int (nI a1), .int (nI e)])), (o, .inl (cI, N, .inl f))] H := hP
  have hD : va_D A0 [(sr, .inr (4, [.ref so, .int (nI sn), .int y1])), (rm, .inr (4, [.ref mo, .int (nI mn), .int y2])), (h, .inr (3, [.ref rm, .ref rg, .ref cf, .ref cd, .ref ck, .ref ca, .ref nr, .ref sr, .ref dl, .ref sp, .int (nI fl1), .int (nI pl1), .int wn, .int (nI v1), .int (nI 0), .int sm, .int wf, .int we])), (cf, .inr (1, [.ref o, .int (nI a1), .int (nI e)])), (o, .inl (cI, N, .inl f))] := hD
  refine lv_aload_n hx hb dX3_takeSegment_21 rfl (lv_at hl 1 rfl) ?_
  refine lv_iconst (v := 0) hx hb dX3_takeSegment_22 (by decide) ?_
  refine ri (y := nI 0) (nI_0.symm) ?_
  refine va_put (D := D) (ci := 3) (v := .int (nI 0)) (ty := .int) (C := RX3) (T := TX3) (N := 18) hx hb hts in_X3 tyX3 tyX3_ok nmX3 hown hK hP hD hS 2 rfl rfl 15 (by decide) (hts _ kX3_143) (fun _ h9 => h9) rfl (by decide +kernel) rfl rfl (Nat.le_of_ble_eq_true rfl) dX3_takeSegment_23 (fun H locs hP hD hS => ?_)
  have hP : va_P D vwCl [(sr, .inr (4, [.ref so, .int (nI sn), .int y1])), (rm, .inr (4, [.ref mo, .int (nI mn), .int y2])), (h, .inr (3, [.ref rm, .ref rg, .ref cf, .ref cd, .ref ck, .ref ca, .ref nr, .ref sr, .ref dl, .ref sp, .int (nI fl1), .int (nI pl1), .int wn, .int (nI v1), .int (nI 0), .int (nI 0), .int wf, .int we])), (cf, .inr (1, [.ref o, .int (nI a1), .int (nI e)])), (o, .inl (cI, N, .inl f))] H := hP
  have hD : va_D A0 [(sr, .inr (4, [.ref so, .int (nI sn), .int y1])), (rm, .inr (4, [.ref mo, .int (nI mn), .int y2])), (h, .inr (3, [.ref rm, .ref rg, .ref cf, .ref cd, .ref ck, .ref ca, .ref nr, .ref sr, .ref dl, .ref sp, .int (nI fl1), .int (nI pl1), .int wn, .int (nI v1), .int (nI 0), .int (nI 0), .int wf, .int we])), (cf, .inr (1, [.ref o, .int (nI a1), .int (nI e)])), (o, .inl (cI, N, .inl f))] := hD
  refine lv_aload_n hx hb dX3_takeSegment_26 rfl (lv_at hl 1 rfl) ?_
  refine va_get (D := D) (ci := 3) (v := .int (nI v1)) (C := RX3) (T := TX3) (N := 18) hx hb hts in_X3 hown hK hP 2 rfl rfl 13 (by decide) (hts _ kX3_137) (fun _ h9 => h9) rfl dX3_takeSegment_27 ?_
  refine lv_iconst (v := 2) hx hb dX3_takeSegment_30 (by decide) ?_
  have J1 : ∀ (fj1 : Nat) (pj1 : Nat) (H : Heap) (locs : List Loc) (ls : Array Slot), (flI (2 < v1) 5 a (fl1, pl1, a1) = (fj1, pj1, a1)) → (fj1 < 2 ^ 31) → va_P D vwCl [(sr, .inr (4, [.ref so, .int (nI sn), .int y1])), (rm, .inr (4, [.ref mo, .int (nI mn), .int y2])), (h, .inr (3, [.ref rm, .ref rg, .ref cf, .ref cd, .ref ck, .ref ca, .ref nr, .ref sr, .ref dl, .ref sp, .int (nI fj1), .int (nI pj1), .int wn, .int (nI v1), .int (nI 0), .int (nI 0), .int wf, .int we])), (cf, .inr (1, [.ref o, .int (nI a1), .int (nI e)])), (o, .inl (cI, N, .inl f))] H → va_D A0 [(sr, .inr (4, [.ref so, .int (nI sn), .int y1])), (rm, .inr (4, [.ref mo, .int (nI mn), .int y2])), (h, .inr (3, [.ref rm, .ref rg, .ref cf, .ref cd, .ref ck, .ref ca, .ref nr, .ref sr, .ref dl, .ref sp, .int (nI fj1), .int (nI pj1), .int wn, .int (nI v1), .int (nI 0), .int (nI 0), .int wf, .int we])), (cf, .inr (1, [.ref o, .int (nI a1), .int (nI e)])), (o, .inl (cI, N, .inl f))] → va_S A0 s0.heap H locs → lv_has ls 3 [(1, .int (nI a)), (0, .ref h)] → W p0 l e0 ({ frames := 3, cells := 0, slots := 0, locals := 67 }) s0 m0 ([.ref h] : List Value).toArray below meth c0 H locs 0 0 Q0 (F0 m0 40 ls []) := by
    intro fj1 pj1 H locs ls hj1 hfj1 hP hD hS hl
    have k1 : tkS1 b e (fl, pl, a) = (fj1, pj1, a1) := by rw [tkS1, t1]; exact hj1
    refine lv_aload_n hx hb dX3_takeSegment_40 rfl (lv_at hl 1 rfl) ?_
    refine va_get (D := D) (ci := 3) (v := .int (nI v1)) (C := RX3) (T := TX3) (N := 18) hx hb hts in_X3 hown hK hP 2 rfl rfl 13 (by decide) (hts _ kX3_137) (fun _ h9 => h9) rfl dX3_takeSegment_41 ?_
    refine lv_if_ne (tgt := 48) hx hb dX3_takeSegment_44 (by decide) (fun c_1 => ?_) (fun c_1 => ?_)
    · have h0 : ¬ v1 = 0 := fun z => c_1 (by rw [z]; decide)
      refine lv_aload_n hx hb dX3_takeSegment_48 rfl (lv_at hl 1 rfl) ?_
      refine lv_aload_n hx hb dX3_takeSegment_49 rfl (lv_at hl 1 rfl) ?_
      refine jn_i (wr := [(sr, .inr (4, [.ref so, .int (nI sn), .int y1])), (rm, .inr (4, [.ref mo, .int (nI mn), .int y2]))]) hA hP hD hS [2, 3, 4] [0, 1] rfl rfl (by decide) (by decide) (rn_V (As := []) (rest := [.ref h]) ⟨hx, hb, hml, hown, hts⟩ (cvV 0 hts zc_yX3_takeNumber zi_X3 zm_yX3_takeNumber zv_yX3_takeNumber kX3_106 (by decide +kernel) rfl rfl ⟨Nat.le_of_ble_eq_true rfl, Nat.le_of_ble_eq_true rfl⟩) (c_Reader_takeNumber l D cI cB cJ cR h rm rg cf cd ck ca nr sr dl sp wn (nI v1) (nI 0) (nI 0) wf we fj1 pj1 a1 e o N f b (hfj1) (hN) (he) (by omega) (hob) H.size) hK hNw hMk hA hP hD hS [2, 3, 4] rfl rfl (by decide) 0 rfl rfl rfl rfl hl.1 rfl (Nat.le_of_ble_eq_true rfl) dX3_takeSegment_50 ⟨Nat.le_of_ble_eq_true rfl, Nat.le_of_ble_eq_true rfl⟩) (fun r2 u9 H locs t2 hP hD hS => ?_)
      obtain ⟨v2, fl2, pl2, a2⟩ := u9
      try dsimp only at t2
      have hP : va_P D vwCl [(sr, .inr (4, [.ref so, .int (nI sn), .int y1])), (rm, .inr (4, [.ref mo, .int (nI mn), .int y2])), (h, .inr (3, [.ref rm, .ref rg, .ref cf, .ref cd, .ref ck, .ref ca, .ref nr, .ref sr, .ref dl, .ref sp, .int (nI fl2), .int (nI pl2), .int wn, .int (nI v1), .int (nI 0), .int (nI 0), .int wf, .int we])), (cf, .inr (1, [.ref o, .int (nI a2), .int (nI e)])), (o, .inl (cI, N, .inl f))] H := hP
      have hD : va_D A0 [(sr, .inr (4, [.ref so, .int (nI sn), .int y1])), (rm, .inr (4, [.ref mo, .int (nI mn), .int y2])), (h, .inr (3, [.ref rm, .ref rg, .ref cf, .ref cd, .ref ck, .ref ca, .ref nr, .ref sr, .ref dl, .ref sp, .int (nI fl2), .int (nI pl2), .int wn, .int (nI v1), .int (nI 0), .int (nI 0), .int wf, .int we])), (cf, .inr (1, [.ref o, .int (nI a2), .int (nI e)])), (o, .inl (cI, N, .inl f))] := hD
      obtain ⟨er2, t2⟩ := t2
      subst er2
      obtain ⟨hf2, hs2, hae2, hv2⟩ := tkN_ok hfj1 hae1 t2
      dsimp only at hs2
      refine va_put (D := D) (ci := 3) (v := .int (nI v2)) (ty := .int) (C := RX3) (T := TX3) (N := 18) hx hb hts in_X3 tyX3 tyX3_ok nmX3 hown hK hP hD hS 2 rfl rfl 14 (by decide) (hts _ kX3_140) (fun _ h9 => h9) rfl (by decide +kernel) rfl rfl (Nat.le_of_ble_eq_true rfl) dX3_takeSegment_53 (fun H locs hP hD hS => ?_)
      have hP : va_P D vwCl [(sr, .inr (4, [.ref so, .int (nI sn), .int y1])), (rm, .inr (4, [.ref mo, .int (nI mn), .int y2])), (h, .inr (3, [.ref rm, .ref rg, .ref cf, .ref cd, .ref ck, .ref ca, .ref nr, .ref sr, .ref dl, .ref sp, .int (nI fl2), .int (nI pl2), .int wn, .int (nI v1), .int (nI v2), .int (nI 0), .int wf, .int we])), (cf, .inr (1, [.ref o, .int (nI a2), .int (nI e)])), (o, .inl (cI, N, .inl f))] H := hP
      have hD : va_D A0 [(sr, .inr (4, [.ref so, .int (nI sn), .int y1])), (rm, .inr (4, [.ref mo, .int (nI mn), .int y2])), (h, .inr (3, [.ref rm, .ref rg, .ref cf, .ref cd, .ref ck, .ref ca, .ref nr, .ref sr, .ref dl, .ref sp, .int (nI fl2), .int (nI pl2), .int wn, .int (nI v1), .int (nI v2), .int (nI 0), .int wf, .int we])), (cf, .inr (1, [.ref o, .int (nI a2), .int (nI e)])), (o, .inl (cI, N, .inl f))] := hD
      refine lv_aload_n hx hb dX3_takeSegment_56 rfl (lv_at hl 1 rfl) ?_
      refine va_get (D := D) (ci := 3) (v := .ref cf) (C := RX3) (T := TX3) (N := 18) hx hb hts in_X3 hown hK hP 2 rfl rfl 2 (by decide) (hts _ kX3_12) (fun _ h9 => h9) rfl dX3_takeSegment_57 ?_
      refine va_get (D := D) (ci := 1) (v := .int (nI a2)) (C := RX1) (T := TX1) (N := 3) hx hb hts in_X1 hown hK hP 3 rfl rfl 1 (by decide) (hts _ kX3_94) (fun _ h9 => h9) rfl dX3_takeSegment_60 ?_
      refine lv_istore_n (lv' := [(1, .int (nI a2)), (0, .ref h)]) hx hb dX3_takeSegment_63 rfl hl (by decide) rfl (fun ls hl => ?_)
      refine lv_aload_n hx hb dX3_takeSegment_64 rfl (lv_at hl 1 rfl) ?_
      refine lv_aload_n hx hb dX3_takeSegment_65 rfl (lv_at hl 1 rfl) ?_
      refine jn_i (wr := [(sr, .inr (4, [.ref so, .int (nI sn), .int y1])), (rm, .inr (4, [.ref mo, .int (nI mn), .int y2]))]) hA hP hD hS [2, 3, 4] [0, 1] rfl rfl (by decide) (by decide) (rn_V (As := []) (rest := [.ref h]) ⟨hx, hb, hml, hown, hts⟩ (cvV 0 hts zc_yX3_takeNumber zi_X3 zm_yX3_takeNumber zv_yX3_takeNumber kX3_106 (by decide +kernel) rfl rfl ⟨Nat.le_of_ble_eq_true rfl, Nat.le_of_ble_eq_true rfl⟩) (c_Reader_takeNumber l D cI cB cJ cR h rm rg cf cd ck ca nr sr dl sp wn (nI v1) (nI v2) (nI 0) wf we fl2 pl2 a2 e o N f b (hf2) (hN) (he) (by omega) (hob) H.size) hK hNw hMk hA hP hD hS [2, 3, 4] rfl rfl (by decide) 0 rfl rfl rfl rfl hl.1 rfl (Nat.le_of_ble_eq_true rfl) dX3_takeSegment_66 ⟨Nat.le_of_ble_eq_true rfl, Nat.le_of_ble_eq_true rfl⟩) (fun r3 u9 H locs t3 hP hD hS => ?_)
      obtain ⟨v3, fl3, pl3, a3⟩ := u9
      try dsimp only at t3
      have hP : va_P D vwCl [(sr, .inr (4, [.ref so, .int (nI sn), .int y1])), (rm, .inr (4, [.ref mo, .int (nI mn), .int y2])), (h, .inr (3, [.ref rm, .ref rg, .ref cf, .ref cd, .ref ck, .ref ca, .ref nr, .ref sr, .ref dl, .ref sp, .int (nI fl3), .int (nI pl3), .int wn, .int (nI v1), .int (nI v2), .int (nI 0), .int wf, .int we])), (cf, .inr (1, [.ref o, .int (nI a3), .int (nI e)])), (o, .inl (cI, N, .inl f))] H := hP
      have hD : va_D A0 [(sr, .inr (4, [.ref so, .int (nI sn), .int y1])), (rm, .inr (4, [.ref mo, .int (nI mn), .int y2])), (h, .inr (3, [.ref rm, .ref rg, .ref cf, .ref cd, .ref ck, .ref ca, .ref nr, .ref sr, .ref dl, .ref sp, .int (nI fl3), .int (nI pl3), .int wn, .int (nI v1), .int (nI v2), .int (nI 0), .int wf, .int we])), (cf, .inr (1, [.ref o, .int (nI a3), .int (nI e)])), (o, .inl (cI, N, .inl f))] := hD
      obtain ⟨er3, t3⟩ := t3
      subst er3
      obtain ⟨hf3, hs3, hae3, hv3⟩ := tkN_ok hf2 hae2 t3
      dsimp only at hs3
      refine va_put (D := D) (ci := 3) (v := .int (nI v3)) (ty := .int) (C := RX3) (T := TX3) (N := 18) hx hb hts in_X3 tyX3 tyX3_ok nmX3 hown hK hP hD hS 2 rfl rfl 15 (by decide) (hts _ kX3_143) (fun _ h9 => h9) rfl (by decide +kernel) rfl rfl (Nat.le_of_ble_eq_true rfl) dX3_takeSegment_69 (fun H locs hP hD hS => ?_)
      have hP : va_P D vwCl [(sr, .inr (4, [.ref so, .int (nI sn), .int y1])), (rm, .inr (4, [.ref mo, .int (nI mn), .int y2])), (h, .inr (3, [.ref rm, .ref rg, .ref cf, .ref cd, .ref ck, .ref ca, .ref nr, .ref sr, .ref dl, .ref sp, .int (nI fl3), .int (nI pl3), .int wn, .int (nI v1), .int (nI v2), .int (nI v3), .int wf, .int we])), (cf, .inr (1, [.ref o, .int (nI a3), .int (nI e)])), (o, .inl (cI, N, .inl f))] H := hP
      have hD : va_D A0 [(sr, .inr (4, [.ref so, .int (nI sn), .int y1])), (rm, .inr (4, [.ref mo, .int (nI mn), .int y2])), (h, .inr (3, [.ref rm, .ref rg, .ref cf, .ref cd, .ref ck, .ref ca, .ref nr, .ref sr, .ref dl, .ref sp, .int (nI fl3), .int (nI pl3), .int wn, .int (nI v1), .int (nI v2), .int (nI v3), .int wf, .int we])), (cf, .inr (1, [.ref o, .int (nI a3), .int (nI e)])), (o, .inl (cI, N, .inl f))] := hD
      refine lv_aload_n hx hb dX3_takeSegment_72 rfl (lv_at hl 1 rfl) ?_
      refine va_get (D := D) (ci := 3) (v := .int (nI v1)) (C := RX3) (T := TX3) (N := 18) hx hb hts in_X3 hown hK hP 2 rfl rfl 13 (by decide) (hts _ kX3_137) (fun _ h9 => h9) rfl dX3_takeSegment_73 ?_
      refine lv_iconst (v := 1) hx hb dX3_takeSegment_76 (by decide) ?_
      refine lv_icmp_ne (tgt := 90) hx hb dX3_takeSegment_77 (by decide) (fun c_2 => ?_) (fun c_2 => ?_)
      · refine lv_aload_n hx hb dX3_takeSegment_90 rfl (lv_at hl 1 rfl) ?_
        refine va_get (D := D) (ci := 3) (v := .ref rm) (C := RX3) (T := TX3) (N := 18) hx hb hts in_X3 hown hK hP 2 rfl rfl 0 (by decide) (hts _ kX3_39) (fun _ h9 => h9) rfl dX3_takeSegment_91 ?_
        refine va_get (D := D) (ci := 4) (v := .int (nI mn)) (C := RX4) (T := TX4) (N := 3) hx hb hts in_X4 hown hK hP 1 rfl rfl 1 (by decide) (hts _ kX3_146) (fun _ h9 => h9) rfl dX3_takeSegment_94 ?_
        refine lv_istore_n (lv' := [(2, .int (nI mn)), (1, .int (nI a2)), (0, .ref h)]) hx hb dX3_takeSegment_97 rfl hl (by decide) rfl (fun ls hl => ?_)
        refine lv_aload_n hx hb dX3_takeSegment_98 rfl (lv_at hl 2 rfl) ?_
        refine va_get (D := D) (ci := 3) (v := .int (nI v3)) (C := RX3) (T := TX3) (N := 18) hx hb hts in_X3 hown hK hP 2 rfl rfl 15 (by decide) (hts _ kX3_143) (fun _ h9 => h9) rfl dX3_takeSegment_99 ?_
        refine lv_i2l hx hb dX3_takeSegment_102 (v := (nI v3).toInt64) rfl ?_
        refine rl (y := lN v3) (nI_l (by omega)) ?_
        refine lv_aload_n hx hb dX3_takeSegment_103 rfl (lv_at hl 2 rfl) ?_
        refine va_get (D := D) (ci := 3) (v := .int (nI v2)) (C := RX3) (T := TX3) (N := 18) hx hb hts in_X3 hown hK hP 2 rfl rfl 14 (by decide) (hts _ kX3_140) (fun _ h9 => h9) rfl dX3_takeSegment_104 ?_
        refine lv_i2l hx hb dX3_takeSegment_107 (v := (nI v2).toInt64) rfl ?_
        refine rl (y := lN v2) (nI_l (by omega)) ?_
        refine lv_ladd hx hb dX3_takeSegment_108 ?_
        refine rl (y := lN (v3 + v2)) (lN_add _ _) ?_
        refine lv_iload_n hx hb dX3_takeSegment_109 rfl (lv_at hl 0 rfl) ?_
        refine lv_i2l hx hb dX3_takeSegment_110 (v := (nI mn).toInt64) rfl ?_
        refine rl (y := lN mn) (nI_l (by omega)) ?_
        refine W.lcmp hx hb dX3_takeSegment_111 ?_
        have J2 : ∀ (fj2 : Nat) (pj2 : Nat) (H : Heap) (locs : List Loc) (ls : Array Slot), (flI (mn < v3 + v2) 6 a2 (fl3, pl3, a3) = (fj2, pj2, a3)) → (fj2 < 2 ^ 31) → va_P D vwCl [(sr, .inr (4, [.ref so, .int (nI sn), .int y1])), (rm, .inr (4, [.ref mo, .int (nI mn), .int y2])), (h, .inr (3, [.ref rm, .ref rg, .ref cf, .ref cd, .ref ck, .ref ca, .ref nr, .ref sr, .ref dl, .ref sp, .int (nI fj2), .int (nI pj2), .int wn, .int (nI v1), .int (nI v2), .int (nI v3), .int wf, .int we])), (cf, .inr (1, [.ref o, .int (nI a3), .int (nI e)])), (o, .inl (cI, N, .inl f))] H → va_D A0 [(sr, .inr (4, [.ref so, .int (nI sn), .int y1])), (rm, .inr (4, [.ref mo, .int (nI mn), .int y2])), (h, .inr (3, [.ref rm, .ref rg, .ref cf, .ref cd, .ref ck, .ref ca, .ref nr, .ref sr, .ref dl, .ref sp, .int (nI fj2), .int (nI pj2), .int wn, .int (nI v1), .int (nI v2), .int (nI v3), .int wf, .int we])), (cf, .inr (1, [.ref o, .int (nI a3), .int (nI e)])), (o, .inl (cI, N, .inl f))] → va_S A0 s0.heap H locs → lv_has ls 3 [(2, .int (nI mn)), (1, .int (nI a2)), (0, .ref h)] → W p0 l e0 ({ frames := 3, cells := 0, slots := 0, locals := 67 }) s0 m0 ([.ref h] : List Value).toArray below meth c0 H locs 0 0 Q0 (F0 m0 122 ls []) := by
          intro fj2 pj2 H locs ls hj2 hfj2 hP hD hS hl
          have hP := hP.sub (ws' := [(h, .inr (3, [.ref rm, .ref rg, .ref cf, .ref cd, .ref ck, .ref ca, .ref nr, .ref sr, .ref dl, .ref sp, .int (nI fj2), .int (nI pj2), .int wn, .int (nI v1), .int (nI v2), .int (nI v3), .int wf, .int we])), (cf, .inr (1, [.ref o, .int (nI a3), .int (nI e)])), (o, .inl (cI, N, .inl f)), (sr, .inr (4, [.ref so, .int (nI sn), .int y1])), (rm, .inr (4, [.ref mo, .int (nI mn), .int y2]))]) [2, 3, 4, 0, 1] rfl
          have hD := hD.sub (ws' := [(h, .inr (3, [.ref rm, .ref rg, .ref cf, .ref cd, .ref ck, .ref ca, .ref nr, .ref sr, .ref dl, .ref sp, .int (nI fj2), .int (nI pj2), .int wn, .int (nI v1), .int (nI v2), .int (nI v3), .int wf, .int we])), (cf, .inr (1, [.ref o, .int (nI a3), .int (nI e)])), (o, .inl (cI, N, .inl f)), (sr, .inr (4, [.ref so, .int (nI sn), .int y1])), (rm, .inr (4, [.ref mo, .int (nI mn), .int y2]))]) [2, 3, 4, 0, 1] (by decide) rfl
          exact hret 122 ls _ _ (v1, v2, v3, fj2, pj2, a3) dX3_takeSegment_122 hP hD hS (⟨by rw [tkSeg, t1, if_neg h0, k1, tkS2, t2, t3, if_neg (fun z => c_2 (by rw [show v1 = 1 from z]; rfl))]; exact congrArg _ hj2, hfj2, by omega, hae3⟩)
        refine lv_if_le (tgt := 122) hx hb dX3_takeSegment_112 (by decide) (fun c_3 => ?_) (fun c_3 => ?_)
        · exact J2 fl3 pl3 _ _ ls (flI_f (Nat.not_lt.mpr ((pk_lLE (by omega) (by omega)).mp ((lg_cmp_le _ _).mp c_3)))) (hf3) hP hD hS (lv_sub hl [0, 1, 2] rfl)
        · refine lv_aload_n hx hb dX3_takeSegment_115 rfl (lv_at hl 2 rfl) ?_
          refine lv_bipush (v := 6) hx hb dX3_takeSegment_116 (by decide) ?_
          refine lv_iload_n hx hb dX3_takeSegment_118 rfl (lv_at hl 1 rfl) ?_
          refine jn_v (wr := [(sr, .inr (4, [.ref so, .int (nI sn), .int y1])), (rm, .inr (4, [.ref mo, .int (nI mn), .int y2])), (cf, .inr (1, [.ref o, .int (nI a3), .int (nI e)])), (o, .inl (cI, N, .inl f))]) hA hP hD hS [2] [0, 1, 3, 4] rfl rfl (by decide) (by decide) (rn_V (As := [.int (nI 6), .int (nI a2)]) (rest := []) ⟨hx, hb, hml, hown, hts⟩ (cvV 2 hts zc_yX3_fail zi_X3 zm_yX3_fail zv_yX3_fail kX3_90 (by decide +kernel) rfl rfl ⟨Nat.le_of_ble_eq_true rfl, Nat.le_of_ble_eq_true rfl⟩) (c_Reader_fail l D cI cB cJ cR h rm rg cf cd ck ca nr sr dl sp wn (nI v1) (nI v2) (nI v3) wf we fl3 pl3 6 a2 (hf3) H.size) hK hNw hMk hA hP hD hS [2] rfl rfl (by decide) 0 rfl rfl rfl rfl hl.1 rfl (Nat.le_of_ble_eq_true rfl) dX3_takeSegment_119 ⟨Nat.le_of_ble_eq_true rfl, Nat.le_of_ble_eq_true rfl⟩) (fun u9 H locs t4 hP hD hS => ?_)
          obtain ⟨fl4, pl4⟩ := u9
          try dsimp only at t4
          have hP : va_P D vwCl [(sr, .inr (4, [.ref so, .int (nI sn), .int y1])), (rm, .inr (4, [.ref mo, .int (nI mn), .int y2])), (cf, .inr (1, [.ref o, .int (nI a3), .int (nI e)])), (o, .inl (cI, N, .inl f)), (h, .inr (3, [.ref rm, .ref rg, .ref cf, .ref cd, .ref ck, .ref ca, .ref nr, .ref sr, .ref dl, .ref sp, .int (nI fl4), .int (nI pl4), .int wn, .int (nI v1), .int (nI v2), .int (nI v3), .int wf, .int we]))] H := hP
          have hD : va_D A0 [(sr, .inr (4, [.ref so, .int (nI sn), .int y1])), (rm, .inr (4, [.ref mo, .int (nI mn), .int y2])), (cf, .inr (1, [.ref o, .int (nI a3), .int (nI e)])), (o, .inl (cI, N, .inl f)), (h, .inr (3, [.ref rm, .ref rg, .ref cf, .ref cd, .ref ck, .ref ca, .ref nr, .ref sr, .ref dl, .ref sp, .int (nI fl4), .int (nI pl4), .int wn, .int (nI v1), .int (nI v2), .int (nI v3), .int wf, .int we]))] := hD
          have hf4 := fl_ok hf3 (by decide) t4
          exact J2 fl4 pl4 _ _ ls (flI_t (Nat.not_le.mp (fun z => c_3 ((lg_cmp_le _ _).mpr ((pk_lLE (by omega) (by omega)).mpr z)))) t4) (hf4) (hP.sub [0, 1, 4, 2, 3] rfl) (hD.sub [0, 1, 4, 2, 3] (by decide) rfl) hS (lv_sub hl [0, 1, 2] rfl)
      · refine lv_aload_n hx hb dX3_takeSegment_80 rfl (lv_at hl 1 rfl) ?_
        refine va_get (D := D) (ci := 3) (v := .ref sr) (C := RX3) (T := TX3) (N := 18) hx hb hts in_X3 hown hK hP 2 rfl rfl 7 (by decide) (hts _ kX3_53) (fun _ h9 => h9) rfl dX3_takeSegment_81 ?_
        refine va_get (D := D) (ci := 4) (v := .int (nI sn)) (C := RX4) (T := TX4) (N := 3) hx hb hts in_X4 hown hK hP 0 rfl rfl 1 (by decide) (hts _ kX3_146) (fun _ h9 => h9) rfl dX3_takeSegment_84 ?_
        refine lv_goto (tgt := 97) hx hb dX3_takeSegment_87 (by decide) ?_
        refine lv_istore_n (lv' := [(2, .int (nI sn)), (1, .int (nI a2)), (0, .ref h)]) hx hb dX3_takeSegment_97 rfl hl (by decide) rfl (fun ls hl => ?_)
        refine lv_aload_n hx hb dX3_takeSegment_98 rfl (lv_at hl 2 rfl) ?_
        refine va_get (D := D) (ci := 3) (v := .int (nI v3)) (C := RX3) (T := TX3) (N := 18) hx hb hts in_X3 hown hK hP 2 rfl rfl 15 (by decide) (hts _ kX3_143) (fun _ h9 => h9) rfl dX3_takeSegment_99 ?_
        refine lv_i2l hx hb dX3_takeSegment_102 (v := (nI v3).toInt64) rfl ?_
        refine rl (y := lN v3) (nI_l (by omega)) ?_
        refine lv_aload_n hx hb dX3_takeSegment_103 rfl (lv_at hl 2 rfl) ?_
        refine va_get (D := D) (ci := 3) (v := .int (nI v2)) (C := RX3) (T := TX3) (N := 18) hx hb hts in_X3 hown hK hP 2 rfl rfl 14 (by decide) (hts _ kX3_140) (fun _ h9 => h9) rfl dX3_takeSegment_104 ?_
        refine lv_i2l hx hb dX3_takeSegment_107 (v := (nI v2).toInt64) rfl ?_
        refine rl (y := lN v2) (nI_l (by omega)) ?_
        refine lv_ladd hx hb dX3_takeSegment_108 ?_
        refine rl (y := lN (v3 + v2)) (lN_add _ _) ?_
        refine lv_iload_n hx hb dX3_takeSegment_109 rfl (lv_at hl 0 rfl) ?_
        refine lv_i2l hx hb dX3_takeSegment_110 (v := (nI sn).toInt64) rfl ?_
        refine rl (y := lN sn) (nI_l (by omega)) ?_
        refine W.lcmp hx hb dX3_takeSegment_111 ?_
        have J3 : ∀ (fj3 : Nat) (pj3 : Nat) (H : Heap) (locs : List Loc) (ls : Array Slot), (flI (sn < v3 + v2) 6 a2 (fl3, pl3, a3) = (fj3, pj3, a3)) → (fj3 < 2 ^ 31) → va_P D vwCl [(sr, .inr (4, [.ref so, .int (nI sn), .int y1])), (rm, .inr (4, [.ref mo, .int (nI mn), .int y2])), (h, .inr (3, [.ref rm, .ref rg, .ref cf, .ref cd, .ref ck, .ref ca, .ref nr, .ref sr, .ref dl, .ref sp, .int (nI fj3), .int (nI pj3), .int wn, .int (nI v1), .int (nI v2), .int (nI v3), .int wf, .int we])), (cf, .inr (1, [.ref o, .int (nI a3), .int (nI e)])), (o, .inl (cI, N, .inl f))] H → va_D A0 [(sr, .inr (4, [.ref so, .int (nI sn), .int y1])), (rm, .inr (4, [.ref mo, .int (nI mn), .int y2])), (h, .inr (3, [.ref rm, .ref rg, .ref cf, .ref cd, .ref ck, .ref ca, .ref nr, .ref sr, .ref dl, .ref sp, .int (nI fj3), .int (nI pj3), .int wn, .int (nI v1), .int (nI v2), .int (nI v3), .int wf, .int we])), (cf, .inr (1, [.ref o, .int (nI a3), .int (nI e)])), (o, .inl (cI, N, .inl f))] → va_S A0 s0.heap H locs → lv_has ls 3 [(2, .int (nI sn)), (1, .int (nI a2)), (0, .ref h)] → W p0 l e0 ({ frames := 3, cells := 0, slots := 0, locals := 67 }) s0 m0 ([.ref h] : List Value).toArray below meth c0 H locs 0 0 Q0 (F0 m0 122 ls []) := by
          intro fj3 pj3 H locs ls hj3 hfj3 hP hD hS hl
          have hP := hP.sub (ws' := [(h, .inr (3, [.ref rm, .ref rg, .ref cf, .ref cd, .ref ck, .ref ca, .ref nr, .ref sr, .ref dl, .ref sp, .int (nI fj3), .int (nI pj3), .int wn, .int (nI v1), .int (nI v2), .int (nI v3), .int wf, .int we])), (cf, .inr (1, [.ref o, .int (nI a3), .int (nI e)])), (o, .inl (cI, N, .inl f)), (sr, .inr (4, [.ref so, .int (nI sn), .int y1])), (rm, .inr (4, [.ref mo, .int (nI mn), .int y2]))]) [2, 3, 4, 0, 1] rfl
          have hD := hD.sub (ws' := [(h, .inr (3, [.ref rm, .ref rg, .ref cf, .ref cd, .ref ck, .ref ca, .ref nr, .ref sr, .ref dl, .ref sp, .int (nI fj3), .int (nI pj3), .int wn, .int (nI v1), .int (nI v2), .int (nI v3), .int wf, .int we])), (cf, .inr (1, [.ref o, .int (nI a3), .int (nI e)])), (o, .inl (cI, N, .inl f)), (sr, .inr (4, [.ref so, .int (nI sn), .int y1])), (rm, .inr (4, [.ref mo, .int (nI mn), .int y2]))]) [2, 3, 4, 0, 1] (by decide) rfl
          exact hret 122 ls _ _ (v1, v2, v3, fj3, pj3, a3) dX3_takeSegment_122 hP hD hS (⟨by rw [tkSeg, t1, if_neg h0, k1, tkS2, t2, t3, if_pos (show v1 = 1 from (nI_eq (b := 1) (by omega) (by decide)).mp c_2)]; exact congrArg _ hj3, hfj3, by omega, hae3⟩)
        refine lv_if_le (tgt := 122) hx hb dX3_takeSegment_112 (by decide) (fun c_5 => ?_) (fun c_5 => ?_)
        · exact J3 fl3 pl3 _ _ ls (flI_f (Nat.not_lt.mpr ((pk_lLE (by omega) (by omega)).mp ((lg_cmp_le _ _).mp c_5)))) (hf3) hP hD hS (lv_sub hl [0, 1, 2] rfl)
        · refine lv_aload_n hx hb dX3_takeSegment_115 rfl (lv_at hl 2 rfl) ?_
          refine lv_bipush (v := 6) hx hb dX3_takeSegment_116 (by decide) ?_
          refine lv_iload_n hx hb dX3_takeSegment_118 rfl (lv_at hl 1 rfl) ?_
          refine jn_v (wr := [(sr, .inr (4, [.ref so, .int (nI sn), .int y1])), (rm, .inr (4, [.ref mo, .int (nI mn), .int y2])), (cf, .inr (1, [.ref o, .int (nI a3), .int (nI e)])), (o, .inl (cI, N, .inl f))]) hA hP hD hS [2] [0, 1, 3, 4] rfl rfl (by decide) (by decide) (rn_V (As := [.int (nI 6), .int (nI a2)]) (rest := []) ⟨hx, hb, hml, hown, hts⟩ (cvV 2 hts zc_yX3_fail zi_X3 zm_yX3_fail zv_yX3_fail kX3_90 (by decide +kernel) rfl rfl ⟨Nat.le_of_ble_eq_true rfl, Nat.le_of_ble_eq_true rfl⟩) (c_Reader_fail l D cI cB cJ cR h rm rg cf cd ck ca nr sr dl sp wn (nI v1) (nI v2) (nI v3) wf we fl3 pl3 6 a2 (hf3) H.size) hK hNw hMk hA hP hD hS [2] rfl rfl (by decide) 0 rfl rfl rfl rfl hl.1 rfl (Nat.le_of_ble_eq_true rfl) dX3_takeSegment_119 ⟨Nat.le_of_ble_eq_true rfl, Nat.le_of_ble_eq_true rfl⟩) (fun u9 H locs t5 hP hD hS => ?_)
          obtain ⟨fl5, pl5⟩ := u9
          try dsimp only at t5
          have hP : va_P D vwCl [(sr, .inr (4, [.ref so, .int (nI sn), .int y1])), (rm, .inr (4, [.ref mo, .int (nI mn), .int y2])), (cf, .inr (1, [.ref o, .int (nI a3), .int (nI e)])), (o, .inl (cI, N, .inl f)), (h, .inr (3, [.ref rm, .ref rg, .ref cf, .ref cd, .ref ck, .ref ca, .ref nr, .ref sr, .ref dl, .ref sp, .int (nI fl5), .int (nI pl5), .int wn, .int (nI v1), .int (nI v2), .int (nI v3), .int wf, .int we]))] H := hP
          have hD : va_D A0 [(sr, .inr (4, [.ref so, .int (nI sn), .int y1])), (rm, .inr (4, [.ref mo, .int (nI mn), .int y2])), (cf, .inr (1, [.ref o, .int (nI a3), .int (nI e)])), (o, .inl (cI, N, .inl f)), (h, .inr (3, [.ref rm, .ref rg, .ref cf, .ref cd, .ref ck, .ref ca, .ref nr, .ref sr, .ref dl, .ref sp, .int (nI fl5), .int (nI pl5), .int wn, .int (nI v1), .int (nI v2), .int (nI v3), .int wf, .int we]))] := hD
          have hf5 := fl_ok hf3 (by decide) t5
          exact J3 fl5 pl5 _ _ ls (flI_t (Nat.not_le.mp (fun z => c_5 ((lg_cmp_le _ _).mpr ((pk_lLE (by omega) (by omega)).mpr z)))) t5) (hf5) (hP.sub [0, 1, 4, 2, 3] rfl) (hD.sub [0, 1, 4, 2, 3] (by decide) rfl) hS (lv_sub hl [0, 1, 2] rfl)
    · have h0 : v1 = 0 := Decidable.byContradiction (fun z => nI_ne0 (Nat.pos_of_ne_zero z) (by omega) c_1)
      have hP := hP.sub (ws' := [(h, .inr (3, [.ref rm, .ref rg, .ref cf, .ref cd, .ref ck, .ref ca, .ref nr, .ref sr, .ref dl, .ref sp, .int (nI fj1), .int (nI pj1), .int wn, .int (nI v1), .int (nI 0), .int (nI 0), .int wf, .int we])), (cf, .inr (1, [.ref o, .int (nI a1), .int (nI e)])), (o, .inl (cI, N, .inl f)), (sr, .inr (4, [.ref so, .int (nI sn), .int y1])), (rm, .inr (4, [.ref mo, .int (nI mn), .int y2]))]) [2, 3, 4, 0, 1] rfl
      have hD := hD.sub (ws' := [(h, .inr (3, [.ref rm, .ref rg, .ref cf, .ref cd, .ref ck, .ref ca, .ref nr, .ref sr, .ref dl, .ref sp, .int (nI fj1), .int (nI pj1), .int wn, .int (nI v1), .int (nI 0), .int (nI 0), .int wf, .int we])), (cf, .inr (1, [.ref o, .int (nI a1), .int (nI e)])), (o, .inl (cI, N, .inl f)), (sr, .inr (4, [.ref so, .int (nI sn), .int y1])), (rm, .inr (4, [.ref mo, .int (nI mn), .int y2]))]) [2, 3, 4, 0, 1] (by decide) rfl
      exact hret 47 ls _ _ (v1, 0, 0, fj1, pj1, a1) dX3_takeSegment_47 hP hD hS (⟨by rw [tkSeg, t1, if_pos h0, k1, h0], hfj1, by omega, hae1⟩)
  refine lv_icmp_le (tgt := 40) hx hb dX3_takeSegment_31 (by decide) (fun c_7 => ?_) (fun c_7 => ?_)
  · exact J1 fl1 pl1 _ _ ls (flI_f (fun z => absurd ((nI_leI (b := 2) (by omega) (by decide)).mp c_7) (by omega))) (hf1) hP hD hS (lv_sub hl [0, 1] rfl)
  · refine lv_aload_n hx hb dX3_takeSegment_34 rfl (lv_at hl 1 rfl) ?_
    refine lv_iconst (v := 5) hx hb dX3_takeSegment_35 (by decide) ?_
    refine lv_iload_n hx hb dX3_takeSegment_36 rfl (lv_at hl 0 rfl) ?_
    refine jn_v (wr := [(sr, .inr (4, [.ref so, .int (nI sn), .int y1])), (rm, .inr (4, [.ref mo, .int (nI mn), .int y2])), (cf, .inr (1, [.ref o, .int (nI a1), .int (nI e)])), (o, .inl (cI, N, .inl f))]) hA hP hD hS [2] [0, 1, 3, 4] rfl rfl (by decide) (by decide) (rn_V (As := [.int (nI 5), .int (nI a)]) (rest := []) ⟨hx, hb, hml, hown, hts⟩ (cvV 2 hts zc_yX3_fail zi_X3 zm_yX3_fail zv_yX3_fail kX3_90 (by decide +kernel) rfl rfl ⟨Nat.le_of_ble_eq_true rfl, Nat.le_of_ble_eq_true rfl⟩) (c_Reader_fail l D cI cB cJ cR h rm rg cf cd ck ca nr sr dl sp wn (nI v1) (nI 0) (nI 0) wf we fl1 pl1 5 a (hf1) H.size) hK hNw hMk hA hP hD hS [2] rfl rfl (by decide) 0 rfl rfl rfl rfl hl.1 rfl (Nat.le_of_ble_eq_true rfl) dX3_takeSegment_37 ⟨Nat.le_of_ble_eq_true rfl, Nat.le_of_ble_eq_true rfl⟩) (fun u9 H locs t6 hP hD hS => ?_)
    obtain ⟨fl6, pl6⟩ := u9
    try dsimp only at t6
    have hP : va_P D vwCl [(sr, .inr (4, [.ref so, .int (nI sn), .int y1])), (rm, .inr (4, [.ref mo, .int (nI mn), .int y2])), (cf, .inr (1, [.ref o, .int (nI a1), .int (nI e)])), (o, .inl (cI, N, .inl f)), (h, .inr (3, [.ref rm, .ref rg, .ref cf, .ref cd, .ref ck, .ref ca, .ref nr, .ref sr, .ref dl, .ref sp, .int (nI fl6), .int (nI pl6), .int wn, .int (nI v1), .int (nI 0), .int (nI 0), .int wf, .int we]))] H := hP
    have hD : va_D A0 [(sr, .inr (4, [.ref so, .int (nI sn), .int y1])), (rm, .inr (4, [.ref mo, .int (nI mn), .int y2])), (cf, .inr (1, [.ref o, .int (nI a1), .int (nI e)])), (o, .inl (cI, N, .inl f)), (h, .inr (3, [.ref rm, .ref rg, .ref cf, .ref cd, .ref ck, .ref ca, .ref nr, .ref sr, .ref dl, .ref sp, .int (nI fl6), .int (nI pl6), .int wn, .int (nI v1), .int (nI 0), .int (nI 0), .int wf, .int we]))] := hD
    have hf6 := fl_ok hf1 (by decide) t6
    exact J1 fl6 pl6 _ _ ls (flI_t (Nat.not_le.mp (fun z => c_7 (nI_le (b := 2) z (by decide)))) t6) (hf6) (hP.sub [0, 1, 4, 2, 3] rfl) (hD.sub [0, 1, 4, 2, 3] (by decide) rfl) hS (lv_sub hl [0, 1] rfl)
