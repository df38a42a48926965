/-! A WINDOW, ALL WINDOWS: FAULT, PLACE, where, how many windows, what is made, the instructions -/
abbrev XS : Type := Nat × Nat × Nat × Nat × MS × (Nat → Nat → Int32) × Nat
section
variable (b : Nat → Nat) (ce de ae near same kk zz ff ww we wn : Nat) (tt sB : Nat → Nat) (sG : Nat → Int32)
/-- one code: both of its parts -/
def cd1 (y : YS) : (Nat × Nat) × YS :=
  if (ptF b ce de ae near same kk zz ff ww we wn tt sB sG (b y.1) 0 (y.1 + 1, y.2)).1 = 0 then
    (((ptF b ce de ae near same kk zz ff ww we wn tt sB sG (b y.1) 1 (ptF b ce de ae near same kk zz ff ww we wn tt sB sG (b y.1) 0 (y.1 + 1, y.2)).2).1, y.1), (ptF b ce de ae near same kk zz ff ww we wn tt sB sG (b y.1) 1 (ptF b ce de ae near same kk zz ff ww we wn tt sB sG (b y.1) 0 (y.1 + 1, y.2)).2).2)
  else (((ptF b ce de ae near same kk zz ff ww we wn tt sB sG (b y.1) 0 (y.1 + 1, y.2)).1, y.1), (ptF b ce de ae near same kk zz ff ww we wn tt sB sG (b y.1) 0 (y.1 + 1, y.2)).2)
def cdL : Nat → YS → (Nat × Nat) × YS
  | 0, y => ((0, 0), y)
  | n + 1, y => if y.1 < ce then (if (cd1 b ce de ae near same kk zz ff ww we wn tt sB sG y).1.1 = 0 then cdL n (cd1 b ce de ae near same kk zz ff ww we wn tt sB sG y).2 else cd1 b ce de ae near same kk zz ff ww we wn tt sB sG y) else ((0, 0), y)
end
def wdE (pl a wn : Nat) (m : MS) (a4 we de ae : Nat) : (Nat × Nat) × YS → XS
  | ((f, p), (_, da, aa, _, _, _, m2, g, cnt)) => if ¬ f = 0 then (f, p, a, wn, m, g, cnt) else if m2.2.2 < we then (16, a4, a, wn, m, g, cnt) else if da < de ∨ aa < ae then (17, a4, a, wn, m, g, cnt) else (0, pl, a4, wn + 1, m2, g, cnt)
section
variable (b : Nat → Nat) (e sn MN near same : Nat) (tt sB : Nat → Nat) (sG : Nat → Int32)
def wdS (pl a wn : Nat) (m : MS) (g : Nat → Nat → Int32) (cnt k z f mks ds cs az a3 : Nat) : XS :=
  wdE pl a wn m (a3 + ds + cs + az) (m.2.2 + mks) (a3 + ds) (a3 + ds + cs + az) (cdL b (a3 + ds + cs) (a3 + ds) (a3 + ds + cs + az) near same k z f m.2.2 (m.2.2 + mks) wn tt sB sG cs (a3 + ds, a3, a3 + ds + cs, 0, fun _ => 0, fun _ => 0, m, g, cnt))
def wdF : XS → XS
  | (_, pl, a, wn, m, g, cnt) =>
    match tkSeg b e sn m.2.2 (0, pl, a) with
    | ((k, z, f), s1) => match tkSiz b e (MN - m.2.2) s1 with
      | ((mks, ds, cs, az), (fl, p2, a3)) => if ¬ fl = 0 then (fl, p2, a, wn, m, g, cnt) else wdS b near same tt sB sG pl a wn m g cnt k z f mks ds cs az a3
def wdL : Nat → XS → XS
  | 0, x => x
  | n + 1, x => if x.1 = 0 ∧ x.2.2.1 < e then wdL n (wdF b e sn MN near same tt sB sG x) else x
end
theorem flI_st {c : Prop} [Decidable c] {k w : Nat} {s : RS} (h : ¬ s.1 = 0) : flI c k w s = s := by unfold flI; rw [if_neg (fun z => h z.2)]
theorem tkN_st {b : Nat → Nat} {e : Nat} {s : RS} (h : ¬ s.1 = 0) : tkN b e s = (0, s) := by unfold tkN; rw [if_neg h]
theorem tkO_st {b : Nat → Nat} {e : Nat} {s : RS} (h : ¬ s.1 = 0) : tkO b e s = (0, s) := by unfold tkO; rw [if_neg h]
theorem tkSiz_z {b : Nat → Nat} {e rm : Nat} {s : RS} {v : Nat × Nat × Nat × Nat} {f2 p2 a2 : Nat} (h : tkSiz b e rm s = (v, (f2, p2, a2))) (h0 : f2 = 0) : s.1 = 0 := by
  refine Decidable.byContradiction (fun q => ?_)
  have e1 := tkN_st (b := b) (e := e) q
  have e2 : tkZ2 b e rm s = s := by unfold tkZ2; rw [e1]; dsimp only; rw [e1]; exact flI_st q
  have e3 : tkZ3 b e s = s := by unfold tkZ3; rw [tkO_st q]; exact flI_st q
  have e4 : tkZ4 b e s = ((0, 0, 0), s) := by unfold tkZ4; simp only [e1]
  unfold tkSiz at h
  rw [e2, e3, e4, e1] at h
  dsimp only at h
  rw [e1] at h
  have h2 := (Prod.mk.inj h).2
  unfold tkZ6 tkZ5 at h2
  rw [flI_st q, flI_st q] at h2
  rw [h2] at q
  exact q h0
theorem tkSeg_ok {b : Nat → Nat} {e sn mn fl pl a k z f f2 p2 a2 : Nat} (hb9 : ∀ j, j < e → b j < 256) (h : tkSeg b e sn mn (fl, pl, a) = ((k, z, f), (f2, p2, a2))) (h0 : f2 = 0) : (k = 1 → f + z ≤ sn) ∧ (¬ k = 1 → f + z ≤ mn) ∧ k < 256 := by
  have hlt := tkO_lt (b := b) (e := e) (s := (fl, pl, a)) hb9
  unfold tkSeg at h
  split at h
  · obtain ⟨h1, -⟩ := Prod.mk.inj h
    obtain ⟨rfl, h2⟩ := Prod.mk.inj h1
    obtain ⟨rfl, rfl⟩ := Prod.mk.inj h2
    exact ⟨fun q => absurd q (by decide), fun _ => Nat.zero_le _, by decide⟩
  · obtain ⟨h1, h2⟩ := Prod.mk.inj h
    obtain ⟨h3, h4⟩ := Prod.mk.inj h1
    rw [h3] at h2 h4 hlt
    unfold tkS2 at h2 h4
    obtain ⟨h5, h6⟩ := Prod.mk.inj h4
    obtain ⟨h7, -⟩ := flI_0 h2 h0 (by decide)
    rw [h5, h6] at h7
    refine ⟨fun q => ?_, fun q => ?_, hlt⟩
    · rw [if_pos q] at h7; omega
    · rw [if_neg q] at h7; omega
theorem wdL_go {b : Nat → Nat} {e sn MN near same : Nat} {tt sB : Nat → Nat} {sG : Nat → Int32} {n : Nat} {x : XS} (h : x.1 = 0 ∧ x.2.2.1 < e) (hn : 0 < n) : wdL b e sn MN near same tt sB sG n x = wdL b e sn MN near same tt sB sG (n - 1) (wdF b e sn MN near same tt sB sG x) := by
  obtain ⟨k, rfl⟩ : ∃ k, n = k + 1 := ⟨n - 1, by omega⟩
  rw [wdL, if_pos h]; rfl
theorem wdL_no {b : Nat → Nat} {e sn MN near same : Nat} {tt sB : Nat → Nat} {sG : Nat → Int32} {n : Nat} {x : XS} (h : ¬ (x.1 = 0 ∧ x.2.2.1 < e)) : wdL b e sn MN near same tt sB sG n x = x := by
  cases n with
  | zero => rfl
  | succ n => rw [wdL, if_neg h]
theorem cdL_no {b : Nat → Nat} {ce de ae near same kk zz ff ww we wn : Nat} {tt sB : Nat → Nat} {sG : Nat → Int32} {n : Nat} {y : YS} (h : n = 0 ∨ ¬ y.1 < ce) : cdL b ce de ae near same kk zz ff ww we wn tt sB sG n y = ((0, 0), y) := by
  cases n with
  | zero => rfl
  | succ n => rw [cdL, if_neg (by omega)]
theorem cdL_go {b : Nat → Nat} {ce de ae near same kk zz ff ww we wn : Nat} {tt sB : Nat → Nat} {sG : Nat → Int32} {n : Nat} {y y2 : YS} (hn : 0 < n) (h : y.1 < ce) (h1 : cd1 b ce de ae near same kk zz ff ww we wn tt sB sG y = ((0, y.1), y2)) : cdL b ce de ae near same kk zz ff ww we wn tt sB sG n y = cdL b ce de ae near same kk zz ff ww we wn tt sB sG (n - 1) y2 := by
  obtain ⟨k, rfl⟩ : ∃ k, n = k + 1 := ⟨n - 1, by omega⟩
  rw [cdL, if_pos h, h1, if_pos rfl]; rfl
theorem cdL_bad {b : Nat → Nat} {ce de ae near same kk zz ff ww we wn : Nat} {tt sB : Nat → Nat} {sG : Nat → Int32} {n : Nat} {y : YS} {r : (Nat × Nat) × YS} (hn : 0 < n) (h : y.1 < ce) (h1 : cd1 b ce de ae near same kk zz ff ww we wn tt sB sG y = r) (h2 : ¬ r.1.1 = 0) : cdL b ce de ae near same kk zz ff ww we wn tt sB sG n y = r := by
  obtain ⟨k, rfl⟩ : ∃ k, n = k + 1 := ⟨n - 1, by omega⟩
  rw [cdL, if_pos h, h1, if_neg h2]
set_option maxHeartbeats 4000000 in
set_option maxRecDepth 100000 in
theorem c_Reader_endWindowX (l : Launch) (D : va_G) (cI cB cJ cR : ClassId) (h : Nat) (rm : Nat) (rg : Nat) (cf : Nat) (cd : Nat) (ck : Nat) (ca : Nat) (nr : Nat) (sr : Nat) (dl : Nat) (sp : Nat) (wn : Int32) (sk : Int32) (ss : Int32) (sm : Int32) (wf : Int32) (we : Int32) (fl : Nat) (pl : Nat) (hfl : fl < 2 ^ 31) (h0 : ¬ fl = 0) : CMv l yX3_endWindow cX3_endWindow 1 none ({ frames := 0, cells := 0, slots := 0, locals := 0 }) D (tyA cI cB cJ cR) 0 0 [.ref h] [(h, .inr (3, [.ref rm, .ref rg, .ref cf, .ref cd, .ref ck, .ref ca, .ref nr, .ref sr, .ref dl, .ref sp, .int (nI fl), .int (nI pl), .int wn, .int sk, .int ss, .int sm, .int wf, .int we]))] (fun (_ : Unit) => True) (fun (_ : Unit) => [(h, .inr (3, [.ref rm, .ref rg, .ref cf, .ref cd, .ref ck, .ref ca, .ref nr, .ref sr, .ref dl, .ref sp, .int (nI fl), .int (nI pl), .int wn, .int sk, .int ss, .int sm, .int wf, .int we]))]) := by
  refine st_v (cc := cX3_endWindow) (maxL := 1) (by decide) (Nat.le_of_ble_eq_true rfl) ?_
  intro p0 e0 s0 m0 below meth c0 A0 Q0 hBD hret hP hD hS ls hl
  obtain ⟨hx, hb, hml, hown, hts, hnm, hK, hNw, hMk, hA⟩ := hBD
  have hl : lv_has ls 1 [(0, .ref h)] := hl
  have hP : va_P D vwCl [(h, .inr (3, [.ref rm, .ref rg, .ref cf, .ref cd, .ref ck, .ref ca, .ref nr, .ref sr, .ref dl, .ref sp, .int (nI fl), .int (nI pl), .int wn, .int sk, .int ss, .int sm, .int wf, .int we]))] s0.heap := hP
  have hD : va_D A0 [(h, .inr (3, [.ref rm, .ref rg, .ref cf, .ref cd, .ref ck, .ref ca, .ref nr, .ref sr, .ref dl, .ref sp, .int (nI fl), .int (nI pl), .int wn, .int sk, .int ss, .int sm, .int wf, .int we]))] := hD
  refine lv_aload_n hx hb dX3_endWindow_0 rfl (lv_at hl 0 rfl) ?_
  refine va_get (D := D) (ci := 3) (v := .int (nI fl)) (C := RX3) (T := TX3) (N := 18) hx hb hts in_X3 hown hK hP 0 rfl rfl 10 (by decide) (hts _ kX3_73) (fun _ h9 => h9) rfl dX3_endWindow_1 ?_
  refine lv_if_eq (tgt := 8) hx hb dX3_endWindow_4 (by decide) (fun c_1 => absurd c_1 (nI_ne0 (Nat.pos_of_ne_zero h0) hfl)) (fun c_1 => ?_)
  exact hret 7 ls _ _ () dX3_endWindow_7 hP hD hS (trivial)

set_option maxHeartbeats 4000000 in
set_option maxRecDepth 100000 in
theorem c_Reader_endWindow (l : Launch) (D : va_G) (cI cB cJ cR : ClassId) (h : Nat) (rm : Nat) (rg : Nat) (cf : Nat) (cd : Nat) (ck : Nat) (ca : Nat) (nr : Nat) (sr : Nat) (dl : Nat) (sp : Nat) (wn : Nat) (sk : Int32) (ss : Int32) (sm : Int32) (wf : Int32) (we : Nat) (fl : Nat) (pl : Nat) (mo : Nat) (mn : Nat) (mv : Int32) (o : Nat) (a : Nat) (e : Nat) (da : Nat) (de : Nat) (aa : Nat) (ae : Nat) (h0 : fl = 0) (hmn : mn < 2 ^ 30) (hwe : we < 2 ^ 30) (hda : da ≤ de ∧ de < 2 ^ 30) (haa : aa ≤ ae ∧ ae < 2 ^ 30) : CMv l yX3_endWindow cX3_endWindow 1 none ({ frames := 1, cells := 0, slots := 0, locals := 22 }) D (tyA cI cB cJ cR) 0 0 [.ref h] [(h, .inr (3, [.ref rm, .ref rg, .ref cf, .ref cd, .ref ck, .ref ca, .ref nr, .ref sr, .ref dl, .ref sp, .int (nI fl), .int (nI pl), .int (nI wn), .int sk, .int ss, .int sm, .int wf, .int (nI we)])), (rm, .inr (4, [.ref mo, .int (nI mn), .int mv])), (cf, .inr (1, [.ref o, .int (nI a), .int (nI e)])), (cd, .inr (1, [.ref o, .int (nI da), .int (nI de)])), (ca, .inr (1, [.ref o, .int (nI aa), .int (nI ae)]))] (fun (u9 : Nat × Nat × Nat) => match u9 with | (fl2, pl2, wn2) => (fl2, pl2, wn2) = (if mn < we then (16, a, wn) else if da < de ∨ aa < ae then (17, a, wn) else (fl, pl, wn + 1)) ∧ fl2 < 2 ^ 31) (fun (u9 : Nat × Nat × Nat) => match u9 with | (fl2, pl2, wn2) => [(h, .inr (3, [.ref rm, .ref rg, .ref cf, .ref cd, .ref ck, .ref ca, .ref nr, .ref sr, .ref dl, .ref sp, .int (nI fl2), .int (nI pl2), .int (nI wn2), .int sk, .int ss, .int sm, .int wf, .int (nI we)])), (rm, .inr (4, [.ref mo, .int (nI mn), .int mv])), (cf, .inr (1, [.ref o, .int (nI a), .int (nI e)])), (cd, .inr (1, [.ref o, .int (nI da), .int (nI de)])), (ca, .inr (1, [.ref o, .int (nI aa), .int (nI ae)]))]) := by
  refine st_v (cc := cX3_endWindow) (maxL := 1) (by decide) (Nat.le_of_ble_eq_true rfl) ?_
  intro p0 e0 s0 m0 below meth c0 A0 Q0 hBD hret hP hD hS ls hl
  obtain ⟨hx, hb, hml, hown, hts, hnm, hK, hNw, hMk, hA⟩ := hBD
  have hl : lv_has ls 1 [(0, .ref h)] := hl
  have hP : va_P D vwCl [(h, .inr (3, [.ref rm, .ref rg, .ref cf, .ref cd, .ref ck, .ref ca, .ref nr, .ref sr, .ref dl, .ref sp, .int (nI fl), .int (nI pl), .int (nI wn), .int sk, .int ss, .int sm, .int wf, .int (nI we)])), (rm, .inr (4, [.ref mo, .int (nI mn), .int mv])), (cf, .inr (1, [.ref o, .int (nI a), .int (nI e)])), (cd, .inr (1, [.ref o, .int (nI da), .int (nI de)])), (ca, .inr (1, [.ref o, .int (nI aa), .int (nI ae)]))] s0.heap := hP
  have hD : va_D A0 [(h, .inr (3, [.ref rm, .ref rg, .ref cf, .ref cd, .ref ck, .ref ca, .ref nr, .ref sr, .ref dl, .ref sp, .int (nI fl), .int (nI pl), .int (nI wn), .int sk, .int ss, .int sm, .int wf, .int (nI we)])), (rm, .inr (4, [.ref mo, .int (nI mn), .int mv])), (cf, .inr (1, [.ref o, .int (nI a), .int (nI e)])), (cd, .inr (1, [.ref o, .int (nI da), .int (nI de)])), (ca, .inr (1, [.ref o, .int (nI aa), .int (nI ae)]))] := hD
  have hfl : fl < 2 ^ 31 := by rw [h0]; decide
  refine lv_aload_n hx hb dX3_endWindow_0 rfl (lv_at hl 0 rfl) ?_
  refine va_get (D := D) (ci := 3) (v := .int (nI fl)) (C := RX3) (T := TX3) (N := 18) hx hb hts in_X3 hown hK hP 0 rfl rfl 10 (by decide) (hts _ kX3_73) (fun _ h9 => h9) rfl dX3_endWindow_1 ?_
  refine lv_if_eq (tgt := 8) hx hb dX3_endWindow_4 (by decide) (fun c_1 => ?_) (fun c_1 => absurd (by rw [h0]; decide) c_1)
  refine lv_aload_n hx hb dX3_endWindow_8 rfl (lv_at hl 0 rfl) ?_
  refine va_get (D := D) (ci := 3) (v := .ref rm) (C := RX3) (T := TX3) (N := 18) hx hb hts in_X3 hown hK hP 0 rfl rfl 0 (by decide) (hts _ kX3_39) (fun _ h9 => h9) rfl dX3_endWindow_9 ?_
  refine va_get (D := D) (ci := 4) (v := .int (nI mn)) (C := RX4) (T := TX4) (N := 3) hx hb hts in_X4 hown hK hP 1 rfl rfl 1 (by decide) (hts _ kX3_146) (fun _ h9 => h9) rfl dX3_endWindow_12 ?_
  refine lv_aload_n hx hb dX3_endWindow_15 rfl (lv_at hl 0 rfl) ?_
  refine va_get (D := D) (ci := 3) (v := .int (nI we)) (C := RX3) (T := TX3) (N := 18) hx hb hts in_X3 hown hK hP 0 rfl rfl 17 (by decide) (hts _ kX3_155) (fun _ h9 => h9) rfl dX3_endWindow_16 ?_
  refine lv_icmp_ge (tgt := 38) hx hb dX3_endWindow_19 (by decide) (fun c_2 => ?_) (fun c_2 => ?_)
  · have hf9 : ¬ mn < we := Nat.not_lt.mpr ((nI_leI (by omega) (by omega)).mp c_2)
    refine lv_aload_n hx hb dX3_endWindow_38 rfl (lv_at hl 0 rfl) ?_
    refine va_get (D := D) (ci := 3) (v := .ref cd) (C := RX3) (T := TX3) (N := 18) hx hb hts in_X3 hown hK hP 0 rfl rfl 3 (by decide) (hts _ kX3_18) (fun _ h9 => h9) rfl dX3_endWindow_39 ?_
    refine jn_i (wr := [(h, .inr (3, [.ref rm, .ref rg, .ref cf, .ref cd, .ref ck, .ref ca, .ref nr, .ref sr, .ref dl, .ref sp, .int (nI fl), .int (nI pl), .int (nI wn), .int sk, .int ss, .int sm, .int wf, .int (nI we)])), (rm, .inr (4, [.ref mo, .int (nI mn), .int mv])), (cf, .inr (1, [.ref o, .int (nI a), .int (nI e)])), (ca, .inr (1, [.ref o, .int (nI aa), .int (nI ae)]))]) hA hP hD hS [3] [0, 1, 2, 4] rfl rfl (by decide) (by decide) (rn_V (As := []) (rest := []) ⟨hx, hb, hml, hown, hts⟩ (cvV 0 hts zc_yX1_left zi_X1 zm_yX1_left zv_yX1_left kX3_117 (by decide +kernel) rfl rfl ⟨Nat.le_of_ble_eq_true rfl, Nat.le_of_ble_eq_true rfl⟩) (c_Cursor_left l D cI cB cJ cR cd o (nI da) (nI de)  s0.heap.size) hK hNw hMk hA hP hD hS [3] rfl rfl (by decide) 0 rfl rfl rfl rfl hl.1 rfl (Nat.le_of_ble_eq_true rfl) dX3_endWindow_42 ⟨Nat.le_of_ble_eq_true rfl, Nat.le_of_ble_eq_true rfl⟩) (fun lf u9 H locs hlf hP hD hS => ?_)
    try dsimp only at hlf
    have hP : va_P D vwCl [(h, .inr (3, [.ref rm, .ref rg, .ref cf, .ref cd, .ref ck, .ref ca, .ref nr, .ref sr, .ref dl, .ref sp, .int (nI fl), .int (nI pl), .int (nI wn), .int sk, .int ss, .int sm, .int wf, .int (nI we)])), (rm, .inr (4, [.ref mo, .int (nI mn), .int mv])), (cf, .inr (1, [.ref o, .int (nI a), .int (nI e)])), (ca, .inr (1, [.ref o, .int (nI aa), .int (nI ae)])), (cd, .inr (1, [.ref o, .int (nI da), .int (nI de)]))] H := hP
    have hD : va_D A0 [(h, .inr (3, [.ref rm, .ref rg, .ref cf, .ref cd, .ref ck, .ref ca, .ref nr, .ref sr, .ref dl, .ref sp, .int (nI fl), .int (nI pl), .int (nI wn), .int sk, .int ss, .int sm, .int wf, .int (nI we)])), (rm, .inr (4, [.ref mo, .int (nI mn), .int mv])), (cf, .inr (1, [.ref o, .int (nI a), .int (nI e)])), (ca, .inr (1, [.ref o, .int (nI aa), .int (nI ae)])), (cd, .inr (1, [.ref o, .int (nI da), .int (nI de)]))] := hD
    have hlf2 : lf = nI (de - da) := hlf.trans (pk_sub hda.1)
    subst hlf2
    refine lv_if_gt (tgt := 58) hx hb dX3_endWindow_45 (by decide) (fun c_3 => ?_) (fun c_3 => ?_)
    · refine lv_aload_n hx hb dX3_endWindow_58 rfl (lv_at hl 0 rfl) ?_
      refine lv_bipush (v := 17) hx hb dX3_endWindow_59 (by decide) ?_
      refine lv_aload_n hx hb dX3_endWindow_61 rfl (lv_at hl 0 rfl) ?_
      refine va_get (D := D) (ci := 3) (v := .ref cf) (C := RX3) (T := TX3) (N := 18) hx hb hts in_X3 hown hK hP 0 rfl rfl 2 (by decide) (hts _ kX3_12) (fun _ h9 => h9) rfl dX3_endWindow_62 ?_
      refine va_get (D := D) (ci := 1) (v := .int (nI a)) (C := RX1) (T := TX1) (N := 3) hx hb hts in_X1 hown hK hP 2 rfl rfl 1 (by decide) (hts _ kX3_94) (fun _ h9 => h9) rfl dX3_endWindow_65 ?_
      refine jn_v (wr := [(rm, .inr (4, [.ref mo, .int (nI mn), .int mv])), (cf, .inr (1, [.ref o, .int (nI a), .int (nI e)])), (ca, .inr (1, [.ref o, .int (nI aa), .int (nI ae)])), (cd, .inr (1, [.ref o, .int (nI da), .int (nI de)]))]) hA hP hD hS [0] [1, 2, 3, 4] rfl rfl (by decide) (by decide) (rn_V (As := [.int (nI 17), .int (nI a)]) (rest := []) ⟨hx, hb, hml, hown, hts⟩ (cvV 2 hts zc_yX3_fail zi_X3 zm_yX3_fail zv_yX3_fail kX3_90 (by decide +kernel) rfl rfl ⟨Nat.le_of_ble_eq_true rfl, Nat.le_of_ble_eq_true rfl⟩) (c_Reader_fail l D cI cB cJ cR h rm rg cf cd ck ca nr sr dl sp (nI wn) sk ss sm wf (nI we) fl pl 17 a (hfl) H.size) hK hNw hMk hA hP hD hS [0] rfl rfl (by decide) 0 rfl rfl rfl rfl hl.1 rfl (Nat.le_of_ble_eq_true rfl) dX3_endWindow_68 ⟨Nat.le_of_ble_eq_true rfl, Nat.le_of_ble_eq_true rfl⟩) (fun u9 H locs t1 hP hD hS => ?_)
      obtain ⟨fl1, pl1⟩ := u9
      try dsimp only at t1
      have hP : va_P D vwCl [(rm, .inr (4, [.ref mo, .int (nI mn), .int mv])), (cf, .inr (1, [.ref o, .int (nI a), .int (nI e)])), (ca, .inr (1, [.ref o, .int (nI aa), .int (nI ae)])), (cd, .inr (1, [.ref o, .int (nI da), .int (nI de)])), (h, .inr (3, [.ref rm, .ref rg, .ref cf, .ref cd, .ref ck, .ref ca, .ref nr, .ref sr, .ref dl, .ref sp, .int (nI fl1), .int (nI pl1), .int (nI wn), .int sk, .int ss, .int sm, .int wf, .int (nI we)]))] H := hP
      have hD : va_D A0 [(rm, .inr (4, [.ref mo, .int (nI mn), .int mv])), (cf, .inr (1, [.ref o, .int (nI a), .int (nI e)])), (ca, .inr (1, [.ref o, .int (nI aa), .int (nI ae)])), (cd, .inr (1, [.ref o, .int (nI da), .int (nI de)])), (h, .inr (3, [.ref rm, .ref rg, .ref cf, .ref cd, .ref ck, .ref ca, .ref nr, .ref sr, .ref dl, .ref sp, .int (nI fl1), .int (nI pl1), .int (nI wn), .int sk, .int ss, .int sm, .int wf, .int (nI we)]))] := hD
      have hf1 := fl_ok hfl (by decide) t1
      rw [if_pos h0] at t1
      obtain ⟨q1, q2⟩ := Prod.mk.inj t1
      refine lv_goto (tgt := 84) hx hb dX3_endWindow_71 (by decide) ?_
      have hP := hP.sub (ws' := [(h, .inr (3, [.ref rm, .ref rg, .ref cf, .ref cd, .ref ck, .ref ca, .ref nr, .ref sr, .ref dl, .ref sp, .int (nI fl1), .int (nI pl1), .int (nI wn), .int sk, .int ss, .int sm, .int wf, .int (nI we)])), (rm, .inr (4, [.ref mo, .int (nI mn), .int mv])), (cf, .inr (1, [.ref o, .int (nI a), .int (nI e)])), (cd, .inr (1, [.ref o, .int (nI da), .int (nI de)])), (ca, .inr (1, [.ref o, .int (nI aa), .int (nI ae)]))]) [4, 0, 1, 3, 2] rfl
      have hD := hD.sub (ws' := [(h, .inr (3, [.ref rm, .ref rg, .ref cf, .ref cd, .ref ck, .ref ca, .ref nr, .ref sr, .ref dl, .ref sp, .int (nI fl1), .int (nI pl1), .int (nI wn), .int sk, .int ss, .int sm, .int wf, .int (nI we)])), (rm, .inr (4, [.ref mo, .int (nI mn), .int mv])), (cf, .inr (1, [.ref o, .int (nI a), .int (nI e)])), (cd, .inr (1, [.ref o, .int (nI da), .int (nI de)])), (ca, .inr (1, [.ref o, .int (nI aa), .int (nI ae)]))]) [4, 0, 1, 3, 2] (by decide) rfl
      exact hret 84 ls _ _ (fl1, pl1, wn) dX3_endWindow_84 hP hD hS (⟨by rw [if_neg hf9, if_pos (Or.inl (show da < de from by by_cases z9 : da < de; exact z9; rw [show de - da = 0 by omega] at c_3; exact absurd c_3 (by decide))), q1, q2], hf1⟩)
    · have hd9 : ¬ da < de := fun z => c_3 (nI_lt (a := 0) (by omega) (by omega))
      refine lv_aload_n hx hb dX3_endWindow_48 rfl (lv_at hl 0 rfl) ?_
      refine va_get (D := D) (ci := 3) (v := .ref ca) (C := RX3) (T := TX3) (N := 18) hx hb hts in_X3 hown hK hP 0 rfl rfl 5 (by decide) (hts _ kX3_24) (fun _ h9 => h9) rfl dX3_endWindow_49 ?_
      refine jn_i (wr := [(h, .inr (3, [.ref rm, .ref rg, .ref cf, .ref cd, .ref ck, .ref ca, .ref nr, .ref sr, .ref dl, .ref sp, .int (nI fl), .int (nI pl), .int (nI wn), .int sk, .int ss, .int sm, .int wf, .int (nI we)])), (rm, .inr (4, [.ref mo, .int (nI mn), .int mv])), (cf, .inr (1, [.ref o, .int (nI a), .int (nI e)])), (cd, .inr (1, [.ref o, .int (nI da), .int (nI de)]))]) hA hP hD hS [3] [0, 1, 2, 4] rfl rfl (by decide) (by decide) (rn_V (As := []) (rest := []) ⟨hx, hb, hml, hown, hts⟩ (cvV 0 hts zc_yX1_left zi_X1 zm_yX1_left zv_yX1_left kX3_117 (by decide +kernel) rfl rfl ⟨Nat.le_of_ble_eq_true rfl, Nat.le_of_ble_eq_true rfl⟩) (c_Cursor_left l D cI cB cJ cR ca o (nI aa) (nI ae)  H.size) hK hNw hMk hA hP hD hS [3] rfl rfl (by decide) 0 rfl rfl rfl rfl hl.1 rfl (Nat.le_of_ble_eq_true rfl) dX3_endWindow_52 ⟨Nat.le_of_ble_eq_true rfl, Nat.le_of_ble_eq_true rfl⟩) (fun lg u9 H locs hlg hP hD hS => ?_)
      try dsimp only at hlg
      have hP : va_P D vwCl [(h, .inr (3, [.ref rm, .ref rg, .ref cf, .ref cd, .ref ck, .ref ca, .ref nr, .ref sr, .ref dl, .ref sp, .int (nI fl), .int (nI pl), .int (nI wn), .int sk, .int ss, .int sm, .int wf, .int (nI we)])), (rm, .inr (4, [.ref mo, .int (nI mn), .int mv])), (cf, .inr (1, [.ref o, .int (nI a), .int (nI e)])), (cd, .inr (1, [.ref o, .int (nI da), .int (nI de)])), (ca, .inr (1, [.ref o, .int (nI aa), .int (nI ae)]))] H := hP
      have hD : va_D A0 [(h, .inr (3, [.ref rm, .ref rg, .ref cf, .ref cd, .ref ck, .ref ca, .ref nr, .ref sr, .ref dl, .ref sp, .int (nI fl), .int (nI pl), .int (nI wn), .int sk, .int ss, .int sm, .int wf, .int (nI we)])), (rm, .inr (4, [.ref mo, .int (nI mn), .int mv])), (cf, .inr (1, [.ref o, .int (nI a), .int (nI e)])), (cd, .inr (1, [.ref o, .int (nI da), .int (nI de)])), (ca, .inr (1, [.ref o, .int (nI aa), .int (nI ae)]))] := hD
      have hlg2 : lg = nI (ae - aa) := hlg.trans (pk_sub haa.1)
      subst hlg2
      refine lv_if_le (tgt := 74) hx hb dX3_endWindow_55 (by decide) (fun c_5 => ?_) (fun c_5 => ?_)
      · have ha9 : ¬ aa < ae := fun z => nI_nle (by omega) (by omega) c_5
        refine lv_aload_n hx hb dX3_endWindow_74 rfl (lv_at hl 0 rfl) ?_
        refine lv_dup hx hb dX3_endWindow_75 rfl ?_
        refine va_get (D := D) (ci := 3) (v := .int (nI wn)) (C := RX3) (T := TX3) (N := 18) hx hb hts in_X3 hown hK hP 0 rfl rfl 12 (by decide) (hts _ kX3_80) (fun _ h9 => h9) rfl dX3_endWindow_76 ?_
        refine lv_iconst (v := 1) hx hb dX3_endWindow_79 (by decide) ?_
        refine lv_iadd hx hb dX3_endWindow_80 ?_
        refine ri (y := nI (wn + 1)) (nI_add wn 1) ?_
        refine va_put (D := D) (ci := 3) (v := .int (nI (wn + 1))) (ty := .int) (C := RX3) (T := TX3) (N := 18) hx hb hts in_X3 tyX3 tyX3_ok nmX3 hown hK hP hD hS 0 rfl rfl 12 (by decide) (hts _ kX3_80) (fun _ h9 => h9) rfl (by decide +kernel) rfl rfl (Nat.le_of_ble_eq_true rfl) dX3_endWindow_81 (fun H locs hP hD hS => ?_)
        have hP : va_P D vwCl [(h, .inr (3, [.ref rm, .ref rg, .ref cf, .ref cd, .ref ck, .ref ca, .ref nr, .ref sr, .ref dl, .ref sp, .int (nI fl), .int (nI pl), .int (nI (wn + 1)), .int sk, .int ss, .int sm, .int wf, .int (nI we)])), (rm, .inr (4, [.ref mo, .int (nI mn), .int mv])), (cf, .inr (1, [.ref o, .int (nI a), .int (nI e)])), (cd, .inr (1, [.ref o, .int (nI da), .int (nI de)])), (ca, .inr (1, [.ref o, .int (nI aa), .int (nI ae)]))] H := hP
        have hD : va_D A0 [(h, .inr (3, [.ref rm, .ref rg, .ref cf, .ref cd, .ref ck, .ref ca, .ref nr, .ref sr, .ref dl, .ref sp, .int (nI fl), .int (nI pl), .int (nI (wn + 1)), .int sk, .int ss, .int sm, .int wf, .int (nI we)])), (rm, .inr (4, [.ref mo, .int (nI mn), .int mv])), (cf, .inr (1, [.ref o, .int (nI a), .int (nI e)])), (cd, .inr (1, [.ref o, .int (nI da), .int (nI de)])), (ca, .inr (1, [.ref o, .int (nI aa), .int (nI ae)]))] := hD
        exact hret 84 ls _ _ (fl, pl, wn + 1) dX3_endWindow_84 hP hD hS (⟨by rw [if_neg hf9, if_neg (fun z => z.elim hd9 ha9)], hfl⟩)
      · refine lv_aload_n hx hb dX3_endWindow_58 rfl (lv_at hl 0 rfl) ?_
        refine lv_bipush (v := 17) hx hb dX3_endWindow_59 (by decide) ?_
        refine lv_aload_n hx hb dX3_endWindow_61 rfl (lv_at hl 0 rfl) ?_
        refine va_get (D := D) (ci := 3) (v := .ref cf) (C := RX3) (T := TX3) (N := 18) hx hb hts in_X3 hown hK hP 0 rfl rfl 2 (by decide) (hts _ kX3_12) (fun _ h9 => h9) rfl dX3_endWindow_62 ?_
        refine va_get (D := D) (ci := 1) (v := .int (nI a)) (C := RX1) (T := TX1) (N := 3) hx hb hts in_X1 hown hK hP 2 rfl rfl 1 (by decide) (hts _ kX3_94) (fun _ h9 => h9) rfl dX3_endWindow_65 ?_
        refine jn_v (wr := [(rm, .inr (4, [.ref mo, .int (nI mn), .int mv])), (cf, .inr (1, [.ref o, .int (nI a), .int (nI e)])), (cd, .inr (1, [.ref o, .int (nI da), .int (nI de)])), (ca, .inr (1, [.ref o, .int (nI aa), .int (nI ae)]))]) hA hP hD hS [0] [1, 2, 3, 4] rfl rfl (by decide) (by decide) (rn_V (As := [.int (nI 17), .int (nI a)]) (rest := []) ⟨hx, hb, hml, hown, hts⟩ (cvV 2 hts zc_yX3_fail zi_X3 zm_yX3_fail zv_yX3_fail kX3_90 (by decide +kernel) rfl rfl ⟨Nat.le_of_ble_eq_true rfl, Nat.le_of_ble_eq_true rfl⟩) (c_Reader_fail l D cI cB cJ cR h rm rg cf cd ck ca nr sr dl sp (nI wn) sk ss sm wf (nI we) fl pl 17 a (hfl) H.size) hK hNw hMk hA hP hD hS [0] rfl rfl (by decide) 0 rfl rfl rfl rfl hl.1 rfl (Nat.le_of_ble_eq_true rfl) dX3_endWindow_68 ⟨Nat.le_of_ble_eq_true rfl, Nat.le_of_ble_eq_true rfl⟩) (fun u9 H locs t2 hP hD hS => ?_)
        obtain ⟨fl2, pl2⟩ := u9
        try dsimp only at t2
        have hP : va_P D vwCl [(rm, .inr (4, [.ref mo, .int (nI mn), .int mv])), (cf, .inr (1, [.ref o, .int (nI a), .int (nI e)])), (cd, .inr (1, [.ref o, .int (nI da), .int (nI de)])), (ca, .inr (1, [.ref o, .int (nI aa), .int (nI ae)])), (h, .inr (3, [.ref rm, .ref rg, .ref cf, .ref cd, .ref ck, .ref ca, .ref nr, .ref sr, .ref dl, .ref sp, .int (nI fl2), .int (nI pl2), .int (nI wn), .int sk, .int ss, .int sm, .int wf, .int (nI we)]))] H := hP
        have hD : va_D A0 [(rm, .inr (4, [.ref mo, .int (nI mn), .int mv])), (cf, .inr (1, [.ref o, .int (nI a), .int (nI e)])), (cd, .inr (1, [.ref o, .int (nI da), .int (nI de)])), (ca, .inr (1, [.ref o, .int (nI aa), .int (nI ae)])), (h, .inr (3, [.ref rm, .ref rg, .ref cf, .ref cd, .ref ck, .ref ca, .ref nr, .ref sr, .ref dl, .ref sp, .int (nI fl2), .int (nI pl2), .int (nI wn), .int sk, .int ss, .int sm, .int wf, .int (nI we)]))] := hD
        have hf2 := fl_ok hfl (by decide) t2
        rw [if_pos h0] at t2
        obtain ⟨q1, q2⟩ := Prod.mk.inj t2
        refine lv_goto (tgt := 84) hx hb dX3_endWindow_71 (by decide) ?_
        have hP := hP.sub (ws' := [(h, .inr (3, [.ref rm, .ref rg, .ref cf, .ref cd, .ref ck, .ref ca, .ref nr, .ref sr, .ref dl, .ref sp, .int (nI fl2), .int (nI pl2), .int (nI wn), .int sk, .int ss, .int sm, .int wf, .int (nI we)])), (rm, .inr (4, [.ref mo, .int (nI mn), .int mv])), (cf, .inr (1, [.ref o, .int (nI a), .int (nI e)])), (cd, .inr (1, [.ref o, .int (nI da), .int (nI de)])), (ca, .inr (1, [.ref o, .int (nI aa), .int (nI ae)]))]) [4, 0, 1, 2, 3] rfl
        have hD := hD.sub (ws' := [(h, .inr (3, [.ref rm, .ref rg, .ref cf, .ref cd, .ref ck, .ref ca, .ref nr, .ref sr, .ref dl, .ref sp, .int (nI fl2), .int (nI pl2), .int (nI wn), .int sk, .int ss, .int sm, .int wf, .int (nI we)])), (rm, .inr (4, [.ref mo, .int (nI mn), .int mv])), (cf, .inr (1, [.ref o, .int (nI a), .int (nI e)])), (cd, .inr (1, [.ref o, .int (nI da), .int (nI de)])), (ca, .inr (1, [.ref o, .int (nI aa), .int (nI ae)]))]) [4, 0, 1, 2, 3] (by decide) rfl
        exact hret 84 ls _ _ (fl2, pl2, wn) dX3_endWindow_84 hP hD hS (⟨by rw [if_neg hf9, if_pos (Or.inr (show aa < ae from by by_cases z9 : aa < ae; exact z9; rw [show ae - aa = 0 by omega] at c_5; exact absurd (show nI 0 ≤ 0 by decide) c_5)), q1, q2], hf2⟩)
  · have hf9 : mn < we := Nat.not_le.mp (fun q => c_2 (nI_le q (by omega)))
    refine lv_aload_n hx hb dX3_endWindow_22 rfl (lv_at hl 0 rfl) ?_
    refine lv_bipush (v := 16) hx hb dX3_endWindow_23 (by decide) ?_
    refine lv_aload_n hx hb dX3_endWindow_25 rfl (lv_at hl 0 rfl) ?_
    refine va_get (D := D) (ci := 3) (v := .ref cf) (C := RX3) (T := TX3) (N := 18) hx hb hts in_X3 hown hK hP 0 rfl rfl 2 (by decide) (hts _ kX3_12) (fun _ h9 => h9) rfl dX3_endWindow_26 ?_
    refine va_get (D := D) (ci := 1) (v := .int (nI a)) (C := RX1) (T := TX1) (N := 3) hx hb hts in_X1 hown hK hP 2 rfl rfl 1 (by decide) (hts _ kX3_94) (fun _ h9 => h9) rfl dX3_endWindow_29 ?_
    refine jn_v (wr := [(rm, .inr (4, [.ref mo, .int (nI mn), .int mv])), (cf, .inr (1, [.ref o, .int (nI a), .int (nI e)])), (cd, .inr (1, [.ref o, .int (nI da), .int (nI de)])), (ca, .inr (1, [.ref o, .int (nI aa), .int (nI ae)]))]) hA hP hD hS [0] [1, 2, 3, 4] rfl rfl (by decide) (by decide) (rn_V (As := [.int (nI 16), .int (nI a)]) (rest := []) ⟨hx, hb, hml, hown, hts⟩ (cvV 2 hts zc_yX3_fail zi_X3 zm_yX3_fail zv_yX3_fail kX3_90 (by decide +kernel) rfl rfl ⟨Nat.le_of_ble_eq_true rfl, Nat.le_of_ble_eq_true rfl⟩) (c_Reader_fail l D cI cB cJ cR h rm rg cf cd ck ca nr sr dl sp (nI wn) sk ss sm wf (nI we) fl pl 16 a (hfl) s0.heap.size) hK hNw hMk hA hP hD hS [0] rfl rfl (by decide) 0 rfl rfl rfl rfl hl.1 rfl (Nat.le_of_ble_eq_true rfl) dX3_endWindow_32 ⟨Nat.le_of_ble_eq_true rfl, Nat.le_of_ble_eq_true rfl⟩) (fun u9 H locs t3 hP hD hS => ?_)
    obtain ⟨fl3, pl3⟩ := u9
    try dsimp only at t3
    have hP : va_P D vwCl [(rm, .inr (4, [.ref mo, .int (nI mn), .int mv])), (cf, .inr (1, [.ref o, .int (nI a), .int (nI e)])), (cd, .inr (1, [.ref o, .int (nI da), .int (nI de)])), (ca, .inr (1, [.ref o, .int (nI aa), .int (nI ae)])), (h, .inr (3, [.ref rm, .ref rg, .ref cf, .ref cd, .ref ck, .ref ca, .ref nr, .ref sr, .ref dl, .ref sp, .int (nI fl3), .int (nI pl3), .int (nI wn), .int sk, .int ss, .int sm, .int wf, .int (nI we)]))] H := hP
    have hD : va_D A0 [(rm, .inr (4, [.ref mo, .int (nI mn), .int mv])), (cf, .inr (1, [.ref o, .int (nI a), .int (nI e)])), (cd, .inr (1, [.ref o, .int (nI da), .int (nI de)])), (ca, .inr (1, [.ref o, .int (nI aa), .int (nI ae)])), (h, .inr (3, [.ref rm, .ref rg, .ref cf, .ref cd, .ref ck, .ref ca, .ref nr, .ref sr, .ref dl, .ref sp, .int (nI fl3), .int (nI pl3), .int (nI wn), .int sk, .int ss, .int sm, .int wf, .int (nI we)]))] := hD
    have hf3 := fl_ok hfl (by decide) t3
    rw [if_pos h0] at t3
    obtain ⟨q1, q2⟩ := Prod.mk.inj t3
    refine lv_goto (tgt := 84) hx hb dX3_endWindow_35 (by decide) ?_
    have hP := hP.sub (ws' := [(h, .inr (3, [.ref rm, .ref rg, .ref cf, .ref cd, .ref ck, .ref ca, .ref nr, .ref sr, .ref dl, .ref sp, .int (nI fl3), .int (nI pl3), .int (nI wn), .int sk, .int ss, .int sm, .int wf, .int (nI we)])), (rm, .inr (4, [.ref mo, .int (nI mn), .int mv])), (cf, .inr (1, [.ref o, .int (nI a), .int (nI e)])), (cd, .inr (1, [.ref o, .int (nI da), .int (nI de)])), (ca, .inr (1, [.ref o, .int (nI aa), .int (nI ae)]))]) [4, 0, 1, 2, 3] rfl
    have hD := hD.sub (ws' := [(h, .inr (3, [.ref rm, .ref rg, .ref cf, .ref cd, .ref ck, .ref ca, .ref nr, .ref sr, .ref dl, .ref sp, .int (nI fl3), .int (nI pl3), .int (nI wn), .int sk, .int ss, .int sm, .int wf, .int (nI we)])), (rm, .inr (4, [.ref mo, .int (nI mn), .int mv])), (cf, .inr (1, [.ref o, .int (nI a), .int (nI e)])), (cd, .inr (1, [.ref o, .int (nI da), .int (nI de)])), (ca, .inr (1, [.ref o, .int (nI aa), .int (nI ae)]))]) [4, 0, 1, 2, 3] (by decide) rfl
    exact hret 84 ls _ _ (fl3, pl3, wn) dX3_endWindow_84 hP hD hS (⟨by rw [if_pos hf9, q1, q2], hf3⟩)
