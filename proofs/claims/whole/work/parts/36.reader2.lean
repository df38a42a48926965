theorem tkO_ok {b : Nat → Nat} {e : Nat} {s : RS} {v f2 p2 a2 : Nat} (h1 : s.1 < 2 ^ 31) (h2 : s.2.2 ≤ e) (h3 : ∀ j, j < e → b j < 256) (h : tkO b e s = (v, f2, p2, a2)) : f2 < 2 ^ 31 ∧ s.2.2 ≤ a2 ∧ a2 ≤ e ∧ v < 256 := by
  have q1 := tkO_at (b := b) (e := e) (s := s)
  have q2 := tkO_lt (b := b) (e := e) (s := s) h3
  have q3 : (tkO b e s).2.1 < 2 ^ 31 := by
    unfold tkO
    split
    · split
      · show 0 < 2 ^ 31; decide
      · show 1 < 2 ^ 31; decide
    · exact h1
  rw [h] at q1 q2 q3
  exact ⟨q3, q1.1, q1.2.2 h2, q2⟩
theorem tkN_ok {b : Nat → Nat} {e : Nat} {s : RS} {v f2 p2 a2 : Nat} (h1 : s.1 < 2 ^ 31) (h2 : s.2.2 ≤ e) (h : tkN b e s = (v, f2, p2, a2)) : f2 < 2 ^ 31 ∧ s.2.2 ≤ a2 ∧ a2 ≤ e ∧ v ≤ 2147483647 := by
  have q1 := tkN_at (b := b) (e := e) (s := s)
  have q2 := tkN_le (b := b) (e := e) (s := s)
  have q3 : (tkN b e s).2.1 < 2 ^ 31 := by
    unfold tkN
    split
    · split
      · show 0 < 2 ^ 31; decide
      · split
        · show 1 < 2 ^ 31; decide
        · show 4 < 2 ^ 31; decide
    · exact h1
  rw [h] at q1 q2 q3
  exact ⟨q3, q1.1, q1.2.2 h2, q2⟩
theorem flI_t {c : Prop} [Decidable c] {k w fl pl a f2 p2 : Nat} (hc : c) (h : (f2, p2) = if fl = 0 then (k, w) else (fl, pl)) : flI c k w (fl, pl, a) = (f2, p2, a) := by
  unfold flI
  by_cases h0 : fl = 0
  · rw [if_pos h0] at h; obtain ⟨rfl, rfl⟩ := Prod.mk.inj h; rw [if_pos ⟨hc, h0⟩]
  · rw [if_neg h0] at h; obtain ⟨rfl, rfl⟩ := Prod.mk.inj h; rw [if_neg (fun z => h0 z.2)]
theorem flI_f {c : Prop} [Decidable c] {k w : Nat} {s : RS} (hc : ¬ c) : flI c k w s = s := by
  unfold flI; rw [if_neg (fun z => hc z.1)]
theorem fl_ok {k w fl pl f2 p2 : Nat} (h1 : fl < 2 ^ 31) (hk : k < 2 ^ 31) (h : (f2, p2) = if fl = 0 then (k, w) else (fl, pl)) : f2 < 2 ^ 31 := by
  by_cases h0 : fl = 0
  · rw [if_pos h0] at h; obtain ⟨rfl, rfl⟩ := Prod.mk.inj h; exact hk
  · rw [if_neg h0] at h; obtain ⟨rfl, rfl⟩ := Prod.mk.inj h; exact h1
def mk1 (b : Nat → Nat) (e m : Nat) (s : RS) : RS := flI (¬ (tkO b e s).1 = m) 2 s.2.2 (tkO b e s).2
def tkMark (b : Nat → Nat) (e : Nat) (s : RS) : RS := mk1 b e 0 (mk1 b e 196 (mk1 b e 195 (mk1 b e 214 s)))
def tkK (b : Nat → Nat) (e : Nat) (s : RS) : Nat × RS := ((tkO b e s).1, flI (¬ (tkO b e s).1 = 0 ∧ ¬ (tkO b e s).1 = 2) 3 s.2.2 (tkO b e s).2)
def tkZ (b : Nat → Nat) (e : Nat) (s : RS) : RS := flI (¬ (tkO b e s).1 = 0) 3 s.2.2 (tkO b e s).2
/-- the head of a table's data: how many octets its DELTA has, NEAR, SAME -/
def tkT1 (b : Nat → Nat) (e : Nat) (s : RS) : RS := flI ((tkN b e s).1 < 2) 18 s.2.2 (tkN b e s).2
def tkT2 (b : Nat → Nat) (e : Nat) (s : RS) : RS := flI (8 < (tkO b e s).1) 18 s.2.2 (tkO b e s).2
def tkT3 (b : Nat → Nat) (e : Nat) (s : RS) : RS := flI (4 < (tkO b e s).1) 18 s.2.2 (tkO b e s).2
def tkT4 (e n : Nat) (s : RS) : RS := flI (e + 2 < n + s.2.2) 1 e s
set_option maxHeartbeats 4000000 in
set_option maxRecDepth 100000 in
theorem c_Reader_takeMark (l : Launch) (D : va_G) (cI cB cJ cR : ClassId) (h : Nat) (rm : Nat) (rg : Nat) (cf : Nat) (cd : Nat) (ck : Nat) (ca : Nat) (nr : Nat) (sr : Nat) (dl : Nat) (sp : Nat) (wn : Int32) (sk : Int32) (ss : Int32) (sm : Int32) (wf : Int32) (we : Int32) (fl : Nat) (pl : Nat) (a : Nat) (e : Nat) (o : Nat) (N : Nat) (f : Nat → Int32) (b : Nat → Nat) (hfl : fl < 2 ^ 31) (hN : N < 2 ^ 24) (he : e ≤ N) (hae : a ≤ e) (hob : octs f b e) : CMv l yX3_takeMark cX3_takeMark 3 none ({ frames := 2, cells := 0, slots := 0, locals := 43 }) D (tyA cI cB cJ cR) 0 0 [.ref h] [(h, .inr (3, [.ref rm, .ref rg, .ref cf, .ref cd, .ref ck, .ref ca, .ref nr, .ref sr, .ref dl, .ref sp, .int (nI fl), .int (nI pl), .int wn, .int sk, .int ss, .int sm, .int wf, .int we])), (cf, .inr (1, [.ref o, .int (nI a), .int (nI e)])), (o, .inl (cI, N, .inl f))] (fun (u9 : Nat × Nat × Nat) => match u9 with | (fl2, pl2, a2) => tkMark b e (fl, pl, a) = (fl2, pl2, a2) ∧ fl2 < 2 ^ 31 ∧ a ≤ a2 ∧ a2 ≤ e) (fun (u9 : Nat × Nat × Nat) => match u9 with | (fl2, pl2, a2) => [(h, .inr (3, [.ref rm, .ref rg, .ref cf, .ref cd, .ref ck, .ref ca, .ref nr, .ref sr, .ref dl, .ref sp, .int (nI fl2), .int (nI pl2), .int wn, .int sk, .int ss, .int sm, .int wf, .int we])), (cf, .inr (1, [.ref o, .int (nI a2), .int (nI e)])), (o, .inl (cI, N, .inl f))]) := by
  refine st_v (cc := cX3_takeMark) (maxL := 3) (by decide) (Nat.le_of_ble_eq_true rfl) ?_
  intro p0 e0 s0 m0 below meth c0 A0 Q0 hBD hret hP hD hS ls hl
  obtain ⟨hx, hb, hml, hown, hts, hnm, hK, hNw, hMk, hA⟩ := hBD
  have hl : lv_has ls 3 [(0, .ref h)] := hl
  have hP : va_P D vwCl [(h, .inr (3, [.ref rm, .ref rg, .ref cf, .ref cd, .ref ck, .ref ca, .ref nr, .ref sr, .ref dl, .ref sp, .int (nI fl), .int (nI pl), .int wn, .int sk, .int ss, .int sm, .int wf, .int we])), (cf, .inr (1, [.ref o, .int (nI a), .int (nI e)])), (o, .inl (cI, N, .inl f))] s0.heap := hP
  have hD : va_D A0 [(h, .inr (3, [.ref rm, .ref rg, .ref cf, .ref cd, .ref ck, .ref ca, .ref nr, .ref sr, .ref dl, .ref sp, .int (nI fl), .int (nI pl), .int wn, .int sk, .int ss, .int sm, .int wf, .int we])), (cf, .inr (1, [.ref o, .int (nI a), .int (nI e)])), (o, .inl (cI, N, .inl f))] := hD
  obtain ⟨tM, hZ, hT⟩ := id hMk
  refine lv_iconst (v := 0) hx hb dX3_takeMark_0 (by decide) ?_
  refine lv_istore_n (lv' := [(1, .int 0), (0, .ref h)]) hx hb dX3_takeMark_1 rfl hl (by decide) rfl (fun ls hl => ?_)
  refine lv_iload_n hx hb dX3_takeMark_2 rfl (lv_at hl 0 rfl) ?_
  refine va_getsN (ref := "CodedDeltas") (host := "CodedDeltas") hx hb hZ hS hown (va_Nw.use rfl (hNw (.fieldLinkNest RX3 100 "CodedDeltas" "MARK" "[I" "CodedDeltas") (by decide +kernel))) (fun _ h9 => h9) dX3_takeMark_3 ?_
  refine va_tlen hx hb hT hS (v := 4) rfl dX3_takeMark_6 ?_
  refine lv_icmp_ge (tgt := 42) hx hb dX3_takeMark_7 (by decide) (fun c_1 => absurd c_1 (by decide)) (fun c_1 => ?_)
  refine lv_aload_n hx hb dX3_takeMark_10 rfl (lv_at hl 1 rfl) ?_
  refine va_get (D := D) (ci := 3) (v := .ref cf) (C := RX3) (T := TX3) (N := 18) hx hb hts in_X3 hown hK hP 0 rfl rfl 2 (by decide) (hts _ kX3_12) (fun _ h9 => h9) rfl dX3_takeMark_11 ?_
  refine va_get (D := D) (ci := 1) (v := .int (nI a)) (C := RX1) (T := TX1) (N := 3) hx hb hts in_X1 hown hK hP 1 rfl rfl 1 (by decide) (hts _ kX3_94) (fun _ h9 => h9) rfl dX3_takeMark_14 ?_
  refine lv_istore_n (lv' := [(2, .int (nI a)), (1, .int 0), (0, .ref h)]) hx hb dX3_takeMark_17 rfl hl (by decide) rfl (fun ls hl => ?_)
  refine lv_aload_n hx hb dX3_takeMark_18 rfl (lv_at hl 2 rfl) ?_
  refine jn_i (wr := []) hA hP hD hS [0, 1, 2] [] rfl rfl (by decide) (by decide) (rn_V (As := []) (rest := []) ⟨hx, hb, hml, hown, hts⟩ (cvV 0 hts zc_yX3_takeOctet zi_X3 zm_yX3_takeOctet zv_yX3_takeOctet kX3_103 (by decide +kernel) rfl rfl ⟨Nat.le_of_ble_eq_true rfl, Nat.le_of_ble_eq_true rfl⟩) (c_Reader_takeOctet l D cI cB cJ cR h rm rg cf cd ck ca nr sr dl sp wn sk ss sm wf we fl pl a e o N f b (hfl) (hN) (he) (by omega) (hob) s0.heap.size) hK hNw hMk hA hP hD hS [0, 1, 2] rfl rfl (by decide) 0 rfl rfl rfl rfl hl.1 rfl (Nat.le_of_ble_eq_true rfl) dX3_takeMark_19 ⟨Nat.le_of_ble_eq_true rfl, Nat.le_of_ble_eq_true rfl⟩) (fun r1 u9 H locs t1 hP hD hS => ?_)
  obtain ⟨v1, fl1, pl1, a1⟩ := u9
  try dsimp only at t1
  have hP : va_P D vwCl [(h, .inr (3, [.ref rm, .ref rg, .ref cf, .ref cd, .ref ck, .ref ca, .ref nr, .ref sr, .ref dl, .ref sp, .int (nI fl1), .int (nI pl1), .int wn, .int sk, .int ss, .int sm, .int wf, .int we])), (cf, .inr (1, [.ref o, .int (nI a1), .int (nI e)])), (o, .inl (cI, N, .inl f))] H := hP
  have hD : va_D A0 [(h, .inr (3, [.ref rm, .ref rg, .ref cf, .ref cd, .ref ck, .ref ca, .ref nr, .ref sr, .ref dl, .ref sp, .int (nI fl1), .int (nI pl1), .int wn, .int sk, .int ss, .int sm, .int wf, .int we])), (cf, .inr (1, [.ref o, .int (nI a1), .int (nI e)])), (o, .inl (cI, N, .inl f))] := hD
  obtain ⟨er1, t1⟩ := t1
  subst er1
  obtain ⟨hf1, hs1, hae1, hv1⟩ := tkO_ok hfl hae (fun j hj => (hob j hj).2) t1
  dsimp only at hs1
  refine va_getsN (ref := "CodedDeltas") (host := "CodedDeltas") hx hb hZ hS hown (va_Nw.use rfl (hNw (.fieldLinkNest RX3 100 "CodedDeltas" "MARK" "[I" "CodedDeltas") (by decide +kernel))) (fun _ h9 => h9) dX3_takeMark_22 ?_
  refine lv_iload_n hx hb dX3_takeMark_25 rfl (lv_at hl 1 rfl) ?_
  refine va_ti hx hb hT hS (vp_in_nI (n := 0) (by decide) (by decide)) (v := .int 214) rfl dX3_takeMark_26 ?_
  refine lv_icmp_eq (tgt := 36) hx hb dX3_takeMark_27 (by decide) (fun c_2 => ?_) (fun c_2 => ?_)
  · have m0 : mk1 b e 214 (fl, pl, a) = (fl1, pl1, a1) := by rw [mk1, t1]; exact flI_f (fun z => z ((nI_eq (b := 214) (by omega) (by decide)).mp c_2))
    refine lv_iinc (v := 1) (lv' := [(1, .int 1), (2, .int (nI a)), (0, .ref h)]) hx hb dX3_takeMark_36 hl (k := 1) rfl (by decide) (by decide) rfl (fun ls hl => ?_)
    refine lv_goto (tgt := 2) hx hb dX3_takeMark_39 (by decide) ?_
    refine lv_iload_n hx hb dX3_takeMark_2 rfl (lv_at hl 0 rfl) ?_
    refine va_getsN (ref := "CodedDeltas") (host := "CodedDeltas") hx hb hZ hS hown (va_Nw.use rfl (hNw (.fieldLinkNest RX3 100 "CodedDeltas" "MARK" "[I" "CodedDeltas") (by decide +kernel))) (fun _ h9 => h9) dX3_takeMark_3 ?_
    refine va_tlen hx hb hT hS (v := 4) rfl dX3_takeMark_6 ?_
    refine lv_icmp_ge (tgt := 42) hx hb dX3_takeMark_7 (by decide) (fun c_3 => absurd c_3 (by decide)) (fun c_3 => ?_)
    refine lv_aload_n hx hb dX3_takeMark_10 rfl (lv_at hl 2 rfl) ?_
    refine va_get (D := D) (ci := 3) (v := .ref cf) (C := RX3) (T := TX3) (N := 18) hx hb hts in_X3 hown hK hP 0 rfl rfl 2 (by decide) (hts _ kX3_12) (fun _ h9 => h9) rfl dX3_takeMark_11 ?_
    refine va_get (D := D) (ci := 1) (v := .int (nI a1)) (C := RX1) (T := TX1) (N := 3) hx hb hts in_X1 hown hK hP 1 rfl rfl 1 (by decide) (hts _ kX3_94) (fun _ h9 => h9) rfl dX3_takeMark_14 ?_
    refine lv_istore_n (lv' := [(2, .int (nI a1)), (1, .int 1), (0, .ref h)]) hx hb dX3_takeMark_17 rfl hl (by decide) rfl (fun ls hl => ?_)
    refine lv_aload_n hx hb dX3_takeMark_18 rfl (lv_at hl 2 rfl) ?_
    refine jn_i (wr := []) hA hP hD hS [0, 1, 2] [] rfl rfl (by decide) (by decide) (rn_V (As := []) (rest := []) ⟨hx, hb, hml, hown, hts⟩ (cvV 0 hts zc_yX3_takeOctet zi_X3 zm_yX3_takeOctet zv_yX3_takeOctet kX3_103 (by decide +kernel) rfl rfl ⟨Nat.le_of_ble_eq_true rfl, Nat.le_of_ble_eq_true rfl⟩) (c_Reader_takeOctet l D cI cB cJ cR h rm rg cf cd ck ca nr sr dl sp wn sk ss sm wf we fl1 pl1 a1 e o N f b (hf1) (hN) (he) (by omega) (hob) H.size) hK hNw hMk hA hP hD hS [0, 1, 2] rfl rfl (by decide) 0 rfl rfl rfl rfl hl.1 rfl (Nat.le_of_ble_eq_true rfl) dX3_takeMark_19 ⟨Nat.le_of_ble_eq_true rfl, Nat.le_of_ble_eq_true rfl⟩) (fun r2 u9 H locs t2 hP hD hS => ?_)
    obtain ⟨v2, fl2, pl2, a2⟩ := u9
    try dsimp only at t2
    have hP : va_P D vwCl [(h, .inr (3, [.ref rm, .ref rg, .ref cf, .ref cd, .ref ck, .ref ca, .ref nr, .ref sr, .ref dl, .ref sp, .int (nI fl2), .int (nI pl2), .int wn, .int sk, .int ss, .int sm, .int wf, .int we])), (cf, .inr (1, [.ref o, .int (nI a2), .int (nI e)])), (o, .inl (cI, N, .inl f))] H := hP
    have hD : va_D A0 [(h, .inr (3, [.ref rm, .ref rg, .ref cf, .ref cd, .ref ck, .ref ca, .ref nr, .ref sr, .ref dl, .ref sp, .int (nI fl2), .int (nI pl2), .int wn, .int sk, .int ss, .int sm, .int wf, .int we])), (cf, .inr (1, [.ref o, .int (nI a2), .int (nI e)])), (o, .inl (cI, N, .inl f))] := hD
    obtain ⟨er2, t2⟩ := t2
    subst er2
    obtain ⟨hf2, hs2, hae2, hv2⟩ := tkO_ok hf1 hae1 (fun j hj => (hob j hj).2) t2
    dsimp only at hs2
    refine va_getsN (ref := "CodedDeltas") (host := "CodedDeltas") hx hb hZ hS hown (va_Nw.use rfl (hNw (.fieldLinkNest RX3 100 "CodedDeltas" "MARK" "[I" "CodedDeltas") (by decide +kernel))) (fun _ h9 => h9) dX3_takeMark_22 ?_
    refine lv_iload_n hx hb dX3_takeMark_25 rfl (lv_at hl 1 rfl) ?_
    refine va_ti hx hb hT hS (vp_in_nI (n := 1) (by decide) (by decide)) (v := .int 195) rfl dX3_takeMark_26 ?_
    refine lv_icmp_eq (tgt := 36) hx hb dX3_takeMark_27 (by decide) (fun c_4 => ?_) (fun c_4 => ?_)
    · have m1 : mk1 b e 195 (fl1, pl1, a1) = (fl2, pl2, a2) := by rw [mk1, t2]; exact flI_f (fun z => z ((nI_eq (b := 195) (by omega) (by decide)).mp c_4))
      refine lv_iinc (v := 2) (lv' := [(1, .int 2), (2, .int (nI a1)), (0, .ref h)]) hx hb dX3_takeMark_36 hl (k := 1) rfl (by decide) (by decide) rfl (fun ls hl => ?_)
      refine lv_goto (tgt := 2) hx hb dX3_takeMark_39 (by decide) ?_
      refine lv_iload_n hx hb dX3_takeMark_2 rfl (lv_at hl 0 rfl) ?_
      refine va_getsN (ref := "CodedDeltas") (host := "CodedDeltas") hx hb hZ hS hown (va_Nw.use rfl (hNw (.fieldLinkNest RX3 100 "CodedDeltas" "MARK" "[I" "CodedDeltas") (by decide +kernel))) (fun _ h9 => h9) dX3_takeMark_3 ?_
      refine va_tlen hx hb hT hS (v := 4) rfl dX3_takeMark_6 ?_
      refine lv_icmp_ge (tgt := 42) hx hb dX3_takeMark_7 (by decide) (fun c_5 => absurd c_5 (by decide)) (fun c_5 => ?_)
      refine lv_aload_n hx hb dX3_takeMark_10 rfl (lv_at hl 2 rfl) ?_
      refine va_get (D := D) (ci := 3) (v := .ref cf) (C := RX3) (T := TX3) (N := 18) hx hb hts in_X3 hown hK hP 0 rfl rfl 2 (by decide) (hts _ kX3_12) (fun _ h9 => h9) rfl dX3_takeMark_11 ?_
      refine va_get (D := D) (ci := 1) (v := .int (nI a2)) (C := RX1) (T := TX1) (N := 3) hx hb hts in_X1 hown hK hP 1 rfl rfl 1 (by decide) (hts _ kX3_94) (fun _ h9 => h9) rfl dX3_takeMark_14 ?_
      refine lv_istore_n (lv' := [(2, .int (nI a2)), (1, .int 2), (0, .ref h)]) hx hb dX3_takeMark_17 rfl hl (by decide) rfl (fun ls hl => ?_)
      refine lv_aload_n hx hb dX3_takeMark_18 rfl (lv_at hl 2 rfl) ?_
      refine jn_i (wr := []) hA hP hD hS [0, 1, 2] [] rfl rfl (by decide) (by decide) (rn_V (As := []) (rest := []) ⟨hx, hb, hml, hown, hts⟩ (cvV 0 hts zc_yX3_takeOctet zi_X3 zm_yX3_takeOctet zv_yX3_takeOctet kX3_103 (by decide +kernel) rfl rfl ⟨Nat.le_of_ble_eq_true rfl, Nat.le_of_ble_eq_true rfl⟩) (c_Reader_takeOctet l D cI cB cJ cR h rm rg cf cd ck ca nr sr dl sp wn sk ss sm wf we fl2 pl2 a2 e o N f b (hf2) (hN) (he) (by omega) (hob) H.size) hK hNw hMk hA hP hD hS [0, 1, 2] rfl rfl (by decide) 0 rfl rfl rfl rfl hl.1 rfl (Nat.le_of_ble_eq_true rfl) dX3_takeMark_19 ⟨Nat.le_of_ble_eq_true rfl, Nat.le_of_ble_eq_true rfl⟩) (fun r3 u9 H locs t3 hP hD hS => ?_)
      obtain ⟨v3, fl3, pl3, a3⟩ := u9
      try dsimp only at t3
      have hP : va_P D vwCl [(h, .inr (3, [.ref rm, .ref rg, .ref cf, .ref cd, .ref ck, .ref ca, .ref nr, .ref sr, .ref dl, .ref sp, .int (nI fl3), .int (nI pl3), .int wn, .int sk, .int ss, .int sm, .int wf, .int we])), (cf, .inr (1, [.ref o, .int (nI a3), .int (nI e)])), (o, .inl (cI, N, .inl f))] H := hP
      have hD : va_D A0 [(h, .inr (3, [.ref rm, .ref rg, .ref cf, .ref cd, .ref ck, .ref ca, .ref nr, .ref sr, .ref dl, .ref sp, .int (nI fl3), .int (nI pl3), .int wn, .int sk, .int ss, .int sm, .int wf, .int we])), (cf, .inr (1, [.ref o, .int (nI a3), .int (nI e)])), (o, .inl (cI, N, .inl f))] := hD
      obtain ⟨er3, t3⟩ := t3
      subst er3
      obtain ⟨hf3, hs3, hae3, hv3⟩ := tkO_ok hf2 hae2 (fun j hj => (hob j hj).2) t3
      dsimp only at hs3
      refine va_getsN (ref := "CodedDeltas") (host := "CodedDeltas") hx hb hZ hS hown (va_Nw.use rfl (hNw (.fieldLinkNest RX3 100 "CodedDeltas" "MARK" "[I" "CodedDeltas") (by decide +kernel))) (fun _ h9 => h9) dX3_takeMark_22 ?_
      refine lv_iload_n hx hb dX3_takeMark_25 rfl (lv_at hl 1 rfl) ?_
      refine va_ti hx hb hT hS (vp_in_nI (n := 2) (by decide) (by decide)) (v := .int 196) rfl dX3_takeMark_26 ?_
      refine lv_icmp_eq (tgt := 36) hx hb dX3_takeMark_27 (by decide) (fun c_6 => ?_) (fun c_6 => ?_)
      · have m2 : mk1 b e 196 (fl2, pl2, a2) = (fl3, pl3, a3) := by rw [mk1, t3]; exact flI_f (fun z => z ((nI_eq (b := 196) (by omega) (by decide)).mp c_6))
        refine lv_iinc (v := 3) (lv' := [(1, .int 3), (2, .int (nI a2)), (0, .ref h)]) hx hb dX3_takeMark_36 hl (k := 1) rfl (by decide) (by decide) rfl (fun ls hl => ?_)
        refine lv_goto (tgt := 2) hx hb dX3_takeMark_39 (by decide) ?_
        refine lv_iload_n hx hb dX3_takeMark_2 rfl (lv_at hl 0 rfl) ?_
        refine va_getsN (ref := "CodedDeltas") (host := "CodedDeltas") hx hb hZ hS hown (va_Nw.use rfl (hNw (.fieldLinkNest RX3 100 "CodedDeltas" "MARK" "[I" "CodedDeltas") (by decide +kernel))) (fun _ h9 => h9) dX3_takeMark_3 ?_
        refine va_tlen hx hb hT hS (v := 4) rfl dX3_takeMark_6 ?_
        refine lv_icmp_ge (tgt := 42) hx hb dX3_takeMark_7 (by decide) (fun c_7 => absurd c_7 (by decide)) (fun c_7 => ?_)
        refine lv_aload_n hx hb dX3_takeMark_10 rfl (lv_at hl 2 rfl) ?_
        refine va_get (D := D) (ci := 3) (v := .ref cf) (C := RX3) (T := TX3) (N := 18) hx hb hts in_X3 hown hK hP 0 rfl rfl 2 (by decide) (hts _ kX3_12) (fun _ h9 => h9) rfl dX3_takeMark_11 ?_
        refine va_get (D := D) (ci := 1) (v := .int (nI a3)) (C := RX1) (T := TX1) (N := 3) hx hb hts in_X1 hown hK hP 1 rfl rfl 1 (by decide) (hts _ kX3_94) (fun _ h9 => h9) rfl dX3_takeMark_14 ?_
        refine lv_istore_n (lv' := [(2, .int (nI a3)), (1, .int 3), (0, .ref h)]) hx hb dX3_takeMark_17 rfl hl (by decide) rfl (fun ls hl => ?_)
        refine lv_aload_n hx hb dX3_takeMark_18 rfl (lv_at hl 2 rfl) ?_
        refine jn_i (wr := []) hA hP hD hS [0, 1, 2] [] rfl rfl (by decide) (by decide) (rn_V (As := []) (rest := []) ⟨hx, hb, hml, hown, hts⟩ (cvV 0 hts zc_yX3_takeOctet zi_X3 zm_yX3_takeOctet zv_yX3_takeOctet kX3_103 (by decide +kernel) rfl rfl ⟨Nat.le_of_ble_eq_true rfl, Nat.le_of_ble_eq_true rfl⟩) (c_Reader_takeOctet l D cI cB cJ cR h rm rg cf cd ck ca nr sr dl sp wn sk ss sm wf we fl3 pl3 a3 e o N f b (hf3) (hN) (he) (by omega) (hob) H.size) hK hNw hMk hA hP hD hS [0, 1, 2] rfl rfl (by decide) 0 rfl rfl rfl rfl hl.1 rfl (Nat.le_of_ble_eq_true rfl) dX3_takeMark_19 ⟨Nat.le_of_ble_eq_true rfl, Nat.le_of_ble_eq_true rfl⟩) (fun r4 u9 H locs t4 hP hD hS => ?_)
        obtain ⟨v4, fl4, pl4, a4⟩ := u9
        try dsimp only at t4
        have hP : va_P D vwCl [(h, .inr (3, [.ref rm, .ref rg, .ref cf, .ref cd, .ref ck, .ref ca, .ref nr, .ref sr, .ref dl, .ref sp, .int (nI fl4), .int (nI pl4), .int wn, .int sk, .int ss, .int sm, .int wf, .int we])), (cf, .inr (1, [.ref o, .int (nI a4), .int (nI e)])), (o, .inl (cI, N, .inl f))] H := hP
        have hD : va_D A0 [(h, .inr (3, [.ref rm, .ref rg, .ref cf, .ref cd, .ref ck, .ref ca, .ref nr, .ref sr, .ref dl, .ref sp, .int (nI fl4), .int (nI pl4), .int wn, .int sk, .int ss, .int sm, .int wf, .int we])), (cf, .inr (1, [.ref o, .int (nI a4), .int (nI e)])), (o, .inl (cI, N, .inl f))] := hD
        obtain ⟨er4, t4⟩ := t4
        subst er4
        obtain ⟨hf4, hs4, hae4, hv4⟩ := tkO_ok hf3 hae3 (fun j hj => (hob j hj).2) t4
        dsimp only at hs4
        refine va_getsN (ref := "CodedDeltas") (host := "CodedDeltas") hx hb hZ hS hown (va_Nw.use rfl (hNw (.fieldLinkNest RX3 100 "CodedDeltas" "MARK" "[I" "CodedDeltas") (by decide +kernel))) (fun _ h9 => h9) dX3_takeMark_22 ?_
        refine lv_iload_n hx hb dX3_takeMark_25 rfl (lv_at hl 1 rfl) ?_
        refine va_ti hx hb hT hS (vp_in_nI (n := 3) (by decide) (by decide)) (v := .int 0) rfl dX3_takeMark_26 ?_
        refine lv_icmp_eq (tgt := 36) hx hb dX3_takeMark_27 (by decide) (fun c_8 => ?_) (fun c_8 => ?_)
        · have m3 : mk1 b e 0 (fl3, pl3, a3) = (fl4, pl4, a4) := by rw [mk1, t4]; exact flI_f (fun z => z ((nI_eq (b := 0) (by omega) (by decide)).mp c_8))
          refine lv_iinc (v := 4) (lv' := [(1, .int 4), (2, .int (nI a3)), (0, .ref h)]) hx hb dX3_takeMark_36 hl (k := 1) rfl (by decide) (by decide) rfl (fun ls hl => ?_)
          refine lv_goto (tgt := 2) hx hb dX3_takeMark_39 (by decide) ?_
          refine lv_iload_n hx hb dX3_takeMark_2 rfl (lv_at hl 0 rfl) ?_
          refine va_getsN (ref := "CodedDeltas") (host := "CodedDeltas") hx hb hZ hS hown (va_Nw.use rfl (hNw (.fieldLinkNest RX3 100 "CodedDeltas" "MARK" "[I" "CodedDeltas") (by decide +kernel))) (fun _ h9 => h9) dX3_takeMark_3 ?_
          refine va_tlen hx hb hT hS (v := 4) rfl dX3_takeMark_6 ?_
          refine lv_icmp_ge (tgt := 42) hx hb dX3_takeMark_7 (by decide) (fun c_9 => ?_) (fun c_9 => absurd (by decide) c_9)
          exact hret 42 ls _ _ (fl4, pl4, a4) dX3_takeMark_42 hP hD hS (⟨by rw [tkMark, m0, m1, m2, m3], hf4, by omega, hae4⟩)
        · refine lv_aload_n hx hb dX3_takeMark_30 rfl (lv_at hl 2 rfl) ?_
          refine lv_iconst (v := 2) hx hb dX3_takeMark_31 (by decide) ?_
          refine lv_iload_n hx hb dX3_takeMark_32 rfl (lv_at hl 0 rfl) ?_
          refine jn_v (wr := [(cf, .inr (1, [.ref o, .int (nI a4), .int (nI e)])), (o, .inl (cI, N, .inl f))]) hA hP hD hS [0] [1, 2] rfl rfl (by decide) (by decide) (rn_V (As := [.int (nI 2), .int (nI a3)]) (rest := []) ⟨hx, hb, hml, hown, hts⟩ (cvV 2 hts zc_yX3_fail zi_X3 zm_yX3_fail zv_yX3_fail kX3_90 (by decide +kernel) rfl rfl ⟨Nat.le_of_ble_eq_true rfl, Nat.le_of_ble_eq_true rfl⟩) (c_Reader_fail l D cI cB cJ cR h rm rg cf cd ck ca nr sr dl sp wn sk ss sm wf we fl4 pl4 2 a3 (hf4) H.size) hK hNw hMk hA hP hD hS [0] rfl rfl (by decide) 0 rfl rfl rfl rfl hl.1 rfl (Nat.le_of_ble_eq_true rfl) dX3_takeMark_33 ⟨Nat.le_of_ble_eq_true rfl, Nat.le_of_ble_eq_true rfl⟩) (fun u9 H locs t5 hP hD hS => ?_)
          obtain ⟨fl5, pl5⟩ := u9
          try dsimp only at t5
          have hP : va_P D vwCl [(cf, .inr (1, [.ref o, .int (nI a4), .int (nI e)])), (o, .inl (cI, N, .inl f)), (h, .inr (3, [.ref rm, .ref rg, .ref cf, .ref cd, .ref ck, .ref ca, .ref nr, .ref sr, .ref dl, .ref sp, .int (nI fl5), .int (nI pl5), .int wn, .int sk, .int ss, .int sm, .int wf, .int we]))] H := hP
          have hD : va_D A0 [(cf, .inr (1, [.ref o, .int (nI a4), .int (nI e)])), (o, .inl (cI, N, .inl f)), (h, .inr (3, [.ref rm, .ref rg, .ref cf, .ref cd, .ref ck, .ref ca, .ref nr, .ref sr, .ref dl, .ref sp, .int (nI fl5), .int (nI pl5), .int wn, .int sk, .int ss, .int sm, .int wf, .int we]))] := hD
          have hf5 := fl_ok hf4 (by decide) t5
          have m3 : mk1 b e 0 (fl3, pl3, a3) = (fl5, pl5, a4) := by rw [mk1, t4]; exact flI_t (fun z => c_8 (by rw [show v4 = 0 from z]; rfl)) t5
          refine lv_iinc (v := 4) (lv' := [(1, .int 4), (2, .int (nI a3)), (0, .ref h)]) hx hb dX3_takeMark_36 hl (k := 1) rfl (by decide) (by decide) rfl (fun ls hl => ?_)
          refine lv_goto (tgt := 2) hx hb dX3_takeMark_39 (by decide) ?_
          refine lv_iload_n hx hb dX3_takeMark_2 rfl (lv_at hl 0 rfl) ?_
          refine va_getsN (ref := "CodedDeltas") (host := "CodedDeltas") hx hb hZ hS hown (va_Nw.use rfl (hNw (.fieldLinkNest RX3 100 "CodedDeltas" "MARK" "[I" "CodedDeltas") (by decide +kernel))) (fun _ h9 => h9) dX3_takeMark_3 ?_
          refine va_tlen hx hb hT hS (v := 4) rfl dX3_takeMark_6 ?_
          refine lv_icmp_ge (tgt := 42) hx hb dX3_takeMark_7 (by decide) (fun c_11 => ?_) (fun c_11 => absurd (by decide) c_11)
          have hP := hP.sub (ws' := [(h, .inr (3, [.ref rm, .ref rg, .ref cf, .ref cd, .ref ck, .ref ca, .ref nr, .ref sr, .ref dl, .ref sp, .int (nI fl5), .int (nI pl5), .int wn, .int sk, .int ss, .int sm, .int wf, .int we])), (cf, .inr (1, [.ref o, .int (nI a4), .int (nI e)])), (o, .inl (cI, N, .inl f))]) [2, 0, 1] rfl
          have hD := hD.sub (ws' := [(h, .inr (3, [.ref rm, .ref rg, .ref cf, .ref cd, .ref ck, .ref ca, .ref nr, .ref sr, .ref dl, .ref sp, .int (nI fl5), .int (nI pl5), .int wn, .int sk, .int ss, .int sm, .int wf, .int we])), (cf, .inr (1, [.ref o, .int (nI a4), .int (nI e)])), (o, .inl (cI, N, .inl f))]) [2, 0, 1] (by decide) rfl
          exact hret 42 ls _ _ (fl5, pl5, a4) dX3_takeMark_42 hP hD hS (⟨by rw [tkMark, m0, m1, m2, m3], hf5, by omega, hae4⟩)
      · refine lv_aload_n hx hb dX3_takeMark_30 rfl (lv_at hl 2 rfl) ?_
        refine lv_iconst (v := 2) hx hb dX3_takeMark_31 (by decide) ?_
        refine lv_iload_n hx hb dX3_takeMark_32 rfl (lv_at hl 0 rfl) ?_
        refine jn_v (wr := [(cf, .inr (1, [.ref o, .int (nI a3), .int (nI e)])), (o, .inl (cI, N, .inl f))]) hA hP hD hS [0] [1, 2] rfl rfl (by decide) (by decide) (rn_V (As := [.int (nI 2), .int (nI a2)]) (rest := []) ⟨hx, hb, hml, hown, hts⟩ (cvV 2 hts zc_yX3_fail zi_X3 zm_yX3_fail zv_yX3_fail kX3_90 (by decide +kernel) rfl rfl ⟨Nat.le_of_ble_eq_true rfl, Nat.le_of_ble_eq_true rfl⟩) (c_Reader_fail l D cI cB cJ cR h rm rg cf cd ck ca nr sr dl sp wn sk ss sm wf we fl3 pl3 2 a2 (hf3) H.size) hK hNw hMk hA hP hD hS [0] rfl rfl (by decide) 0 rfl rfl rfl rfl hl.1 rfl (Nat.le_of_ble_eq_true rfl) dX3_takeMark_33 ⟨Nat.le_of_ble_eq_true rfl, Nat.le_of_ble_eq_true rfl⟩) (fun u9 H locs t6 hP hD hS => ?_)
        obtain ⟨fl6, pl6⟩ := u9
        try dsimp only at t6
        have hP : va_P D vwCl [(cf, .inr (1, [.ref o, .int (nI a3), .int (nI e)])), (o, .inl (cI, N, .inl f)), (h, .inr (3, [.ref rm, .ref rg, .ref cf, .ref cd, .ref ck, .ref ca, .ref nr, .ref sr, .ref dl, .ref sp, .int (nI fl6), .int (nI pl6), .int wn, .int sk, .int ss, .int sm, .int wf, .int we]))] H := hP
        have hD : va_D A0 [(cf, .inr (1, [.ref o, .int (nI a3), .int (nI e)])), (o, .inl (cI, N, .inl f)), (h, .inr (3, [.ref rm, .ref rg, .ref cf, .ref cd, .ref ck, .ref ca, .ref nr, .ref sr, .ref dl, .ref sp, .int (nI fl6), .int (nI pl6), .int wn, .int sk, .int ss, .int sm, .int wf, .int we]))] := hD
        have hf6 := fl_ok hf3 (by decide) t6
        have m2 : mk1 b e 196 (fl2, pl2, a2) = (fl6, pl6, a3) := by rw [mk1, t3]; exact flI_t (fun z => c_6 (by rw [show v3 = 196 from z]; rfl)) t6
        refine lv_iinc (v := 3) (lv' := [(1, .int 3), (2, .int (nI a2)), (0, .ref h)]) hx hb dX3_takeMark_36 hl (k := 1) rfl (by decide) (by decide) rfl (fun ls hl => ?_)
        refine lv_goto (tgt := 2) hx hb dX3_takeMark_39 (by decide) ?_
        refine lv_iload_n hx hb dX3_takeMark_2 rfl (lv_at hl 0 rfl) ?_
        refine va_getsN (ref := "CodedDeltas") (host := "CodedDeltas") hx hb hZ hS hown (va_Nw.use rfl (hNw (.fieldLinkNest RX3 100 "CodedDeltas" "MARK" "[I" "CodedDeltas") (by decide +kernel))) (fun _ h9 => h9) dX3_takeMark_3 ?_
        refine va_tlen hx hb hT hS (v := 4) rfl dX3_takeMark_6 ?_
        refine lv_icmp_ge (tgt := 42) hx hb dX3_takeMark_7 (by decide) (fun c_13 => absurd c_13 (by decide)) (fun c_13 => ?_)
        refine lv_aload_n hx hb dX3_takeMark_10 rfl (lv_at hl 2 rfl) ?_
        refine va_get (D := D) (ci := 3) (v := .ref cf) (C := RX3) (T := TX3) (N := 18) hx hb hts in_X3 hown hK hP 2 rfl rfl 2 (by decide) (hts _ kX3_12) (fun _ h9 => h9) rfl dX3_takeMark_11 ?_
        refine va_get (D := D) (ci := 1) (v := .int (nI a3)) (C := RX1) (T := TX1) (N := 3) hx hb hts in_X1 hown hK hP 0 rfl rfl 1 (by decide) (hts _ kX3_94) (fun _ h9 => h9) rfl dX3_takeMark_14 ?_
        refine lv_istore_n (lv' := [(2, .int (nI a3)), (1, .int 3), (0, .ref h)]) hx hb dX3_takeMark_17 rfl hl (by decide) rfl (fun ls hl => ?_)
        refine lv_aload_n hx hb dX3_takeMark_18 rfl (lv_at hl 2 rfl) ?_
        refine jn_i (wr := []) hA hP hD hS [2, 0, 1] [] rfl rfl (by decide) (by decide) (rn_V (As := []) (rest := []) ⟨hx, hb, hml, hown, hts⟩ (cvV 0 hts zc_yX3_takeOctet zi_X3 zm_yX3_takeOctet zv_yX3_takeOctet kX3_103 (by decide +kernel) rfl rfl ⟨Nat.le_of_ble_eq_true rfl, Nat.le_of_ble_eq_true rfl⟩) (c_Reader_takeOctet l D cI cB cJ cR h rm rg cf cd ck ca nr sr dl sp wn sk ss sm wf we fl6 pl6 a3 e o N f b (hf6) (hN) (he) (by omega) (hob) H.size) hK hNw hMk hA hP hD hS [2, 0, 1] rfl rfl (by decide) 0 rfl rfl rfl rfl hl.1 rfl (Nat.le_of_ble_eq_true rfl) dX3_takeMark_19 ⟨Nat.le_of_ble_eq_true rfl, Nat.le_of_ble_eq_true rfl⟩) (fun r7 u9 H locs t7 hP hD hS => ?_)
        obtain ⟨v7, fl7, pl7, a7⟩ := u9
        try dsimp only at t7
        have hP : va_P D vwCl [(h, .inr (3, [.ref rm, .ref rg, .ref cf, .ref cd, .ref ck, .ref ca, .ref nr, .ref sr, .ref dl, .ref sp, .int (nI fl7), .int (nI pl7), .int wn, .int sk, .int ss, .int sm, .int wf, .int we])), (cf, .inr (1, [.ref o, .int (nI a7), .int (nI e)])), (o, .inl (cI, N, .inl f))] H := hP
        have hD : va_D A0 [(h, .inr (3, [.ref rm, .ref rg, .ref cf, .ref cd, .ref ck, .ref ca, .ref nr, .ref sr, .ref dl, .ref sp, .int (nI fl7), .int (nI pl7), .int wn, .int sk, .int ss, .int sm, .int wf, .int we])), (cf, .inr (1, [.ref o, .int (nI a7), .int (nI e)])), (o, .inl (cI, N, .inl f))] := hD
        obtain ⟨er7, t7⟩ := t7
        subst er7
        obtain ⟨hf7, hs7, hae7, hv7⟩ := tkO_ok hf6 hae3 (fun j hj => (hob j hj).2) t7
        dsimp only at hs7
        refine va_getsN (ref := "CodedDeltas") (host := "CodedDeltas") hx hb hZ hS hown (va_Nw.use rfl (hNw (.fieldLinkNest RX3 100 "CodedDeltas" "MARK" "[I" "CodedDeltas") (by decide +kernel))) (fun _ h9 => h9) dX3_takeMark_22 ?_
        refine lv_iload_n hx hb dX3_takeMark_25 rfl (lv_at hl 1 rfl) ?_
        refine va_ti hx hb hT hS (vp_in_nI (n := 3) (by decide) (by decide)) (v := .int 0) rfl dX3_takeMark_26 ?_
        refine lv_icmp_eq (tgt := 36) hx hb dX3_takeMark_27 (by decide) (fun c_14 => ?_) (fun c_14 => ?_)
        · have m3 : mk1 b e 0 (fl6, pl6, a3) = (fl7, pl7, a7) := by rw [mk1, t7]; exact flI_f (fun z => z ((nI_eq (b := 0) (by omega) (by decide)).mp c_14))
          refine lv_iinc (v := 4) (lv' := [(1, .int 4), (2, .int (nI a3)), (0, .ref h)]) hx hb dX3_takeMark_36 hl (k := 1) rfl (by decide) (by decide) rfl (fun ls hl => ?_)
          refine lv_goto (tgt := 2) hx hb dX3_takeMark_39 (by decide) ?_
          refine lv_iload_n hx hb dX3_takeMark_2 rfl (lv_at hl 0 rfl) ?_
          refine va_getsN (ref := "CodedDeltas") (host := "CodedDeltas") hx hb hZ hS hown (va_Nw.use rfl (hNw (.fieldLinkNest RX3 100 "CodedDeltas" "MARK" "[I" "CodedDeltas") (by decide +kernel))) (fun _ h9 => h9) dX3_takeMark_3 ?_
          refine va_tlen hx hb hT hS (v := 4) rfl dX3_takeMark_6 ?_
          refine lv_icmp_ge (tgt := 42) hx hb dX3_takeMark_7 (by decide) (fun c_15 => ?_) (fun c_15 => absurd (by decide) c_15)
          exact hret 42 ls _ _ (fl7, pl7, a7) dX3_takeMark_42 hP hD hS (⟨by rw [tkMark, m0, m1, m2, m3], hf7, by omega, hae7⟩)
        · refine lv_aload_n hx hb dX3_takeMark_30 rfl (lv_at hl 2 rfl) ?_
          refine lv_iconst (v := 2) hx hb dX3_takeMark_31 (by decide) ?_
          refine lv_iload_n hx hb dX3_takeMark_32 rfl (lv_at hl 0 rfl) ?_
          refine jn_v (wr := [(cf, .inr (1, [.ref o, .int (nI a7), .int (nI e)])), (o, .inl (cI, N, .inl f))]) hA hP hD hS [0] [1, 2] rfl rfl (by decide) (by decide) (rn_V (As := [.int (nI 2), .int (nI a3)]) (rest := []) ⟨hx, hb, hml, hown, hts⟩ (cvV 2 hts zc_yX3_fail zi_X3 zm_yX3_fail zv_yX3_fail kX3_90 (by decide +kernel) rfl rfl ⟨Nat.le_of_ble_eq_true rfl, Nat.le_of_ble_eq_true rfl⟩) (c_Reader_fail l D cI cB cJ cR h rm rg cf cd ck ca nr sr dl sp wn sk ss sm wf we fl7 pl7 2 a3 (hf7) H.size) hK hNw hMk hA hP hD hS [0] rfl rfl (by decide) 0 rfl rfl rfl rfl hl.1 rfl (Nat.le_of_ble_eq_true rfl) dX3_takeMark_33 ⟨Nat.le_of_ble_eq_true rfl, Nat.le_of_ble_eq_true rfl⟩) (fun u9 H locs t8 hP hD hS => ?_)
          obtain ⟨fl8, pl8⟩ := u9
          try dsimp only at t8
          have hP : va_P D vwCl [(cf, .inr (1, [.ref o, .int (nI a7), .int (nI e)])), (o, .inl (cI, N, .inl f)), (h, .inr (3, [.ref rm, .ref rg, .ref cf, .ref cd, .ref ck, .ref ca, .ref nr, .ref sr, .ref dl, .ref sp, .int (nI fl8), .int (nI pl8), .int wn, .int sk, .int ss, .int sm, .int wf, .int we]))] H := hP
          have hD : va_D A0 [(cf, .inr (1, [.ref o, .int (nI a7), .int (nI e)])), (o, .inl (cI, N, .inl f)), (h, .inr (3, [.ref rm, .ref rg, .ref cf, .ref cd, .ref ck, .ref ca, .ref nr, .ref sr, .ref dl, .ref sp, .int (nI fl8), .int (nI pl8), .int wn, .int sk, .int ss, .int sm, .int wf, .int we]))] := hD
          have hf8 := fl_ok hf7 (by decide) t8
          have m3 : mk1 b e 0 (fl6, pl6, a3) = (fl8, pl8, a7) := by rw [mk1, t7]; exact flI_t (fun z => c_14 (by rw [show v7 = 0 from z]; rfl)) t8
          refine lv_iinc (v := 4) (lv' := [(1, .int 4), (2, .int (nI a3)), (0, .ref h)]) hx hb dX3_takeMark_36 hl (k := 1) rfl (by decide) (by decide) rfl (fun ls hl => ?_)
          refine lv_goto (tgt := 2) hx hb dX3_takeMark_39 (by decide) ?_
          refine lv_iload_n hx hb dX3_takeMark_2 rfl (lv_at hl 0 rfl) ?_
          refine va_getsN (ref := "CodedDeltas") (host := "CodedDeltas") hx hb hZ hS hown (va_Nw.use rfl (hNw (.fieldLinkNest RX3 100 "CodedDeltas" "MARK" "[I" "CodedDeltas") (by decide +kernel))) (fun _ h9 => h9) dX3_takeMark_3 ?_
          refine va_tlen hx hb hT hS (v := 4) rfl dX3_takeMark_6 ?_
          refine lv_icmp_ge (tgt := 42) hx hb dX3_takeMark_7 (by decide) (fun c_17 => ?_) (fun c_17 => absurd (by decide) c_17)
          have hP := hP.sub (ws' := [(h, .inr (3, [.ref rm, .ref rg, .ref cf, .ref cd, .ref ck, .ref ca, .ref nr, .ref sr, .ref dl, .ref sp, .int (nI fl8), .int (nI pl8), .int wn, .int sk, .int ss, .int sm, .int wf, .int we])), (cf, .inr (1, [.ref o, .int (nI a7), .int (nI e)])), (o, .inl (cI, N, .inl f))]) [2, 0, 1] rfl
          have hD := hD.sub (ws' := [(h, .inr (3, [.ref rm, .ref rg, .ref cf, .ref cd, .ref ck, .ref ca, .ref nr, .ref sr, .ref dl, .ref sp, .int (nI fl8), .int (nI pl8), .int wn, .int sk, .int ss, .int sm, .int wf, .int we])), (cf, .inr (1, [.ref o, .int (nI a7), .int (nI e)])), (o, .inl (cI, N, .inl f))]) [2, 0, 1] (by decide) rfl
          exact hret 42 ls _ _ (fl8, pl8, a7) dX3_takeMark_42 hP hD hS (⟨by rw [tkMark, m0, m1, m2, m3], hf8, by omega, hae7⟩)
    · refine lv_aload_n hx hb dX3_takeMark_30 rfl (lv_at hl 2 rfl) ?_
      refine lv_iconst (v := 2) hx hb dX3_takeMark_31 (by decide) ?_
      refine lv_iload_n hx hb dX3_takeMark_32 rfl (lv_at hl 0 rfl) ?_
      refine jn_v (wr := [(cf, .inr (1, [.ref o, .int (nI a2), .int (nI e)])), (o, .inl (cI, N, .inl f))]) hA hP hD hS [0] [1, 2] rfl rfl (by decide) (by decide) (rn_V (As := [.int (nI 2), .int (nI a1)]) (rest := []) ⟨hx, hb, hml, hown, hts⟩ (cvV 2 hts zc_yX3_fail zi_X3 zm_yX3_fail zv_yX3_fail kX3_90 (by decide +kernel) rfl rfl ⟨Nat.le_of_ble_eq_true rfl, Nat.le_of_ble_eq_true rfl⟩) (c_Reader_fail l D cI cB cJ cR h rm rg cf cd ck ca nr sr dl sp wn sk ss sm wf we fl2 pl2 2 a1 (hf2) H.size) hK hNw hMk hA hP hD hS [0] rfl rfl (by decide) 0 rfl rfl rfl rfl hl.1 rfl (Nat.le_of_ble_eq_true rfl) dX3_takeMark_33 ⟨Nat.le_of_ble_eq_true rfl, Nat.le_of_ble_eq_true rfl⟩) (fun u9 H locs t9 hP hD hS => ?_)
      obtain ⟨fl9, pl9⟩ := u9
      try dsimp only at t9
      have hP : va_P D vwCl [(cf, .inr (1, [.ref o, .int (nI a2), .int (nI e)])), (o, .inl (cI, N, .inl f)), (h, .inr (3, [.ref rm, .ref rg, .ref cf, .ref cd, .ref ck, .ref ca, .ref nr, .ref sr, .ref dl, .ref sp, .int (nI fl9), .int (nI pl9), .int wn, .int sk, .int ss, .int sm, .int wf, .int we]))] H := hP
      have hD : va_D A0 [(cf, .inr (1, [.ref o, .int (nI a2), .int (nI e)])), (o, .inl (cI, N, .inl f)), (h, .inr (3, [.ref rm, .ref rg, .ref cf, .ref cd, .ref ck, .ref ca, .ref nr, .ref sr, .ref dl, .ref sp, .int (nI fl9), .int (nI pl9), .int wn, .int sk, .int ss, .int sm, .int wf, .int we]))] := hD
      have hf9 := fl_ok hf2 (by decide) t9
      have m1 : mk1 b e 195 (fl1, pl1, a1) = (fl9, pl9, a2) := by rw [mk1, t2]; exact flI_t (fun z => c_4 (by rw [show v2 = 195 from z]; rfl)) t9
      refine lv_iinc (v := 2) (lv' := [(1, .int 2), (2, .int (nI a1)), (0, .ref h)]) hx hb dX3_takeMark_36 hl (k := 1) rfl (by decide) (by decide) rfl (fun ls hl => ?_)
      refine lv_goto (tgt := 2) hx hb dX3_takeMark_39 (by decide) ?_
      refine lv_iload_n hx hb dX3_takeMark_2 rfl (lv_at hl 0 rfl) ?_
      refine va_getsN (ref := "CodedDeltas") (host := "CodedDeltas") hx hb hZ hS hown (va_Nw.use rfl (hNw (.fieldLinkNest RX3 100 "CodedDeltas" "MARK" "[I" "CodedDeltas") (by decide +kernel))) (fun _ h9 => h9) dX3_takeMark_3 ?_
      refine va_tlen hx hb hT hS (v := 4) rfl dX3_takeMark_6 ?_
      refine lv_icmp_ge (tgt := 42) hx hb dX3_takeMark_7 (by decide) (fun c_19 => absurd c_19 (by decide)) (fun c_19 => ?_)
      refine lv_aload_n hx hb dX3_takeMark_10 rfl (lv_at hl 2 rfl) ?_
      refine va_get (D := D) (ci := 3) (v := .ref cf) (C := RX3) (T := TX3) (N := 18) hx hb hts in_X3 hown hK hP 2 rfl rfl 2 (by decide) (hts _ kX3_12) (fun _ h9 => h9) rfl dX3_takeMark_11 ?_
      refine va_get (D := D) (ci := 1) (v := .int (nI a2)) (C := RX1) (T := TX1) (N := 3) hx hb hts in_X1 hown hK hP 0 rfl rfl 1 (by decide) (hts _ kX3_94) (fun _ h9 => h9) rfl dX3_takeMark_14 ?_
      refine lv_istore_n (lv' := [(2, .int (nI a2)), (1, .int 2), (0, .ref h)]) hx hb dX3_takeMark_17 rfl hl (by decide) rfl (fun ls hl => ?_)
      refine lv_aload_n hx hb dX3_takeMark_18 rfl (lv_at hl 2 rfl) ?_
      refine jn_i (wr := []) hA hP hD hS [2, 0, 1] [] rfl rfl (by decide) (by decide) (rn_V (As := []) (rest := []) ⟨hx, hb, hml, hown, hts⟩ (cvV 0 hts zc_yX3_takeOctet zi_X3 zm_yX3_takeOctet zv_yX3_takeOctet kX3_103 (by decide +kernel) rfl rfl ⟨Nat.le_of_ble_eq_true rfl, Nat.le_of_ble_eq_true rfl⟩) (c_Reader_takeOctet l D cI cB cJ cR h rm rg cf cd ck ca nr sr dl sp wn sk ss sm wf we fl9 pl9 a2 e o N f b (hf9) (hN) (he) (by omega) (hob) H.size) hK hNw hMk hA hP hD hS [2, 0, 1] rfl rfl (by decide) 0 rfl rfl rfl rfl hl.1 rfl (Nat.le_of_ble_eq_true rfl) dX3_takeMark_19 ⟨Nat.le_of_ble_eq_true rfl, Nat.le_of_ble_eq_true rfl⟩) (fun r10 u9 H locs t10 hP hD hS => ?_)
      obtain ⟨v10, fl10, pl10, a10⟩ := u9
      try dsimp only at t10
      have hP : va_P D vwCl [(h, .inr (3, [.ref rm, .ref rg, .ref cf, .ref cd, .ref ck, .ref ca, .ref nr, .ref sr, .ref dl, .ref sp, .int (nI fl10), .int (nI pl10), .int wn, .int sk, .int ss, .int sm, .int wf, .int we])), (cf, .inr (1, [.ref o, .int (nI a10), .int (nI e)])), (o, .inl (cI, N, .inl f))] H := hP
      have hD : va_D A0 [(h, .inr (3, [.ref rm, .ref rg, .ref cf, .ref cd, .ref ck, .ref ca, .ref nr, .ref sr, .ref dl, .ref sp, .int (nI fl10), .int (nI pl10), .int wn, .int sk, .int ss, .int sm, .int wf, .int we])), (cf, .inr (1, [.ref o, .int (nI a10), .int (nI e)])), (o, .inl (cI, N, .inl f))] := hD
      obtain ⟨er10, t10⟩ := t10
      subst er10
      obtain ⟨hf10, hs10, hae10, hv10⟩ := tkO_ok hf9 hae2 (fun j hj => (hob j hj).2) t10
      dsimp only at hs10
      refine va_getsN (ref := "CodedDeltas") (host := "CodedDeltas") hx hb hZ hS hown (va_Nw.use rfl (hNw (.fieldLinkNest RX3 100 "CodedDeltas" "MARK" "[I" "CodedDeltas") (by decide +kernel))) (fun _ h9 => h9) dX3_takeMark_22 ?_
      refine lv_iload_n hx hb dX3_takeMark_25 rfl (lv_at hl 1 rfl) ?_
      refine va_ti hx hb hT hS (vp_in_nI (n := 2) (by decide) (by decide)) (v := .int 196) rfl dX3_takeMark_26 ?_
      refine lv_icmp_eq (tgt := 36) hx hb dX3_takeMark_27 (by decide) (fun c_20 => ?_) (fun c_20 => ?_)
      · have m2 : mk1 b e 196 (fl9, pl9, a2) = (fl10, pl10, a10) := by rw [mk1, t10]; exact flI_f (fun z => z ((nI_eq (b := 196) (by omega) (by decide)).mp c_20))
        refine lv_iinc (v := 3) (lv' := [(1, .int 3), (2, .int (nI a2)), (0, .ref h)]) hx hb dX3_takeMark_36 hl (k := 1) rfl (by decide) (by decide) rfl (fun ls hl => ?_)
        refine lv_goto (tgt := 2) hx hb dX3_takeMark_39 (by decide) ?_
        refine lv_iload_n hx hb dX3_takeMark_2 rfl (lv_at hl 0 rfl) ?_
        refine va_getsN (ref := "CodedDeltas") (host := "CodedDeltas") hx hb hZ hS hown (va_Nw.use rfl (hNw (.fieldLinkNest RX3 100 "CodedDeltas" "MARK" "[I" "CodedDeltas") (by decide +kernel))) (fun _ h9 => h9) dX3_takeMark_3 ?_
        refine va_tlen hx hb hT hS (v := 4) rfl dX3_takeMark_6 ?_
        refine lv_icmp_ge (tgt := 42) hx hb dX3_takeMark_7 (by decide) (fun c_21 => absurd c_21 (by decide)) (fun c_21 => ?_)
        refine lv_aload_n hx hb dX3_takeMark_10 rfl (lv_at hl 2 rfl) ?_
        refine va_get (D := D) (ci := 3) (v := .ref cf) (C := RX3) (T := TX3) (N := 18) hx hb hts in_X3 hown hK hP 0 rfl rfl 2 (by decide) (hts _ kX3_12) (fun _ h9 => h9) rfl dX3_takeMark_11 ?_
        refine va_get (D := D) (ci := 1) (v := .int (nI a10)) (C := RX1) (T := TX1) (N := 3) hx hb hts in_X1 hown hK hP 1 rfl rfl 1 (by decide) (hts _ kX3_94) (fun _ h9 => h9) rfl dX3_takeMark_14 ?_
        refine lv_istore_n (lv' := [(2, .int (nI a10)), (1, .int 3), (0, .ref h)]) hx hb dX3_takeMark_17 rfl hl (by decide) rfl (fun ls hl => ?_)
        refine lv_aload_n hx hb dX3_takeMark_18 rfl (lv_at hl 2 rfl) ?_
        refine jn_i (wr := []) hA hP hD hS [0, 1, 2] [] rfl rfl (by decide) (by decide) (rn_V (As := []) (rest := []) ⟨hx, hb, hml, hown, hts⟩ (cvV 0 hts zc_yX3_takeOctet zi_X3 zm_yX3_takeOctet zv_yX3_takeOctet kX3_103 (by decide +kernel) rfl rfl ⟨Nat.le_of_ble_eq_true rfl, Nat.le_of_ble_eq_true rfl⟩) (c_Reader_takeOctet l D cI cB cJ cR h rm rg cf cd ck ca nr sr dl sp wn sk ss sm wf we fl10 pl10 a10 e o N f b (hf10) (hN) (he) (by omega) (hob) H.size) hK hNw hMk hA hP hD hS [0, 1, 2] rfl rfl (by decide) 0 rfl rfl rfl rfl hl.1 rfl (Nat.le_of_ble_eq_true rfl) dX3_takeMark_19 ⟨Nat.le_of_ble_eq_true rfl, Nat.le_of_ble_eq_true rfl⟩) (fun r11 u9 H locs t11 hP hD hS => ?_)
        obtain ⟨v11, fl11, pl11, a11⟩ := u9
        try dsimp only at t11
        have hP : va_P D vwCl [(h, .inr (3, [.ref rm, .ref rg, .ref cf, .ref cd, .ref ck, .ref ca, .ref nr, .ref sr, .ref dl, .ref sp, .int (nI fl11), .int (nI pl11), .int wn, .int sk, .int ss, .int sm, .int wf, .int we])), (cf, .inr (1, [.ref o, .int (nI a11), .int (nI e)])), (o, .inl (cI, N, .inl f))] H := hP
        have hD : va_D A0 [(h, .inr (3, [.ref rm, .ref rg, .ref cf, .ref cd, .ref ck, .ref ca, .ref nr, .ref sr, .ref dl, .ref sp, .int (nI fl11), .int (nI pl11), .int wn, .int sk, .int ss, .int sm, .int wf, .int we])), (cf, .inr (1, [.ref o, .int (nI a11), .int (nI e)])), (o, .inl (cI, N, .inl f))] := hD
        obtain ⟨er11, t11⟩ := t11
        subst er11
        obtain ⟨hf11, hs11, hae11, hv11⟩ := tkO_ok hf10 hae10 (fun j hj => (hob j hj).2) t11
        dsimp only at hs11
        refine va_getsN (ref := "CodedDeltas") (host := "CodedDeltas") hx hb hZ hS hown (va_Nw.use rfl (hNw (.fieldLinkNest RX3 100 "CodedDeltas" "MARK" "[I" "CodedDeltas") (by decide +kernel))) (fun _ h9 => h9) dX3_takeMark_22 ?_
        refine lv_iload_n hx hb dX3_takeMark_25 rfl (lv_at hl 1 rfl) ?_
        refine va_ti hx hb hT hS (vp_in_nI (n := 3) (by decide) (by decide)) (v := .int 0) rfl dX3_takeMark_26 ?_
        refine lv_icmp_eq (tgt := 36) hx hb dX3_takeMark_27 (by decide) (fun c_22 => ?_) (fun c_22 => ?_)
        · have m3 : mk1 b e 0 (fl10, pl10, a10) = (fl11, pl11, a11) := by rw [mk1, t11]; exact flI_f (fun z => z ((nI_eq (b := 0) (by omega) (by decide)).mp c_22))
          refine lv_iinc (v := 4) (lv' := [(1, .int 4), (2, .int (nI a10)), (0, .ref h)]) hx hb dX3_takeMark_36 hl (k := 1) rfl (by decide) (by decide) rfl (fun ls hl => ?_)
          refine lv_goto (tgt := 2) hx hb dX3_takeMark_39 (by decide) ?_
          refine lv_iload_n hx hb dX3_takeMark_2 rfl (lv_at hl 0 rfl) ?_
          refine va_getsN (ref := "CodedDeltas") (host := "CodedDeltas") hx hb hZ hS hown (va_Nw.use rfl (hNw (.fieldLinkNest RX3 100 "CodedDeltas" "MARK" "[I" "CodedDeltas") (by decide +kernel))) (fun _ h9 => h9) dX3_takeMark_3 ?_
          refine va_tlen hx hb hT hS (v := 4) rfl dX3_takeMark_6 ?_
          refine lv_icmp_ge (tgt := 42) hx hb dX3_takeMark_7 (by decide) (fun c_23 => ?_) (fun c_23 => absurd (by decide) c_23)
          exact hret 42 ls _ _ (fl11, pl11, a11) dX3_takeMark_42 hP hD hS (⟨by rw [tkMark, m0, m1, m2, m3], hf11, by omega, hae11⟩)
        · refine lv_aload_n hx hb dX3_takeMark_30 rfl (lv_at hl 2 rfl) ?_
          refine lv_iconst (v := 2) hx hb dX3_takeMark_31 (by decide) ?_
          refine lv_iload_n hx hb dX3_takeMark_32 rfl (lv_at hl 0 rfl) ?_
          refine jn_v (wr := [(cf, .inr (1, [.ref o, .int (nI a11), .int (nI e)])), (o, .inl (cI, N, .inl f))]) hA hP hD hS [0] [1, 2] rfl rfl (by decide) (by decide) (rn_V (As := [.int (nI 2), .int (nI a10)]) (rest := []) ⟨hx, hb, hml, hown, hts⟩ (cvV 2 hts zc_yX3_fail zi_X3 zm_yX3_fail zv_yX3_fail kX3_90 (by decide +kernel) rfl rfl ⟨Nat.le_of_ble_eq_true rfl, Nat.le_of_ble_eq_true rfl⟩) (c_Reader_fail l D cI cB cJ cR h rm rg cf cd ck ca nr sr dl sp wn sk ss sm wf we fl11 pl11 2 a10 (hf11) H.size) hK hNw hMk hA hP hD hS [0] rfl rfl (by decide) 0 rfl rfl rfl rfl hl.1 rfl (Nat.le_of_ble_eq_true rfl) dX3_takeMark_33 ⟨Nat.le_of_ble_eq_true rfl, Nat.le_of_ble_eq_true rfl⟩) (fun u9 H locs t12 hP hD hS => ?_)
          obtain ⟨fl12, pl12⟩ := u9
          try dsimp only at t12
          have hP : va_P D vwCl [(cf, .inr (1, [.ref o, .int (nI a11), .int (nI e)])), (o, .inl (cI, N, .inl f)), (h, .inr (3, [.ref rm, .ref rg, .ref cf, .ref cd, .ref ck, .ref ca, .ref nr, .ref sr, .ref dl, .ref sp, .int (nI fl12), .int (nI pl12), .int wn, .int sk, .int ss, .int sm, .int wf, .int we]))] H := hP
          have hD : va_D A0 [(cf, .inr (1, [.ref o, .int (nI a11), .int (nI e)])), (o, .inl (cI, N, .inl f)), (h, .inr (3, [.ref rm, .ref rg, .ref cf, .ref cd, .ref ck, .ref ca, .ref nr, .ref sr, .ref dl, .ref sp, .int (nI fl12), .int (nI pl12), .int wn, .int sk, .int ss, .int sm, .int wf, .int we]))] := hD
          have hf12 := fl_ok hf11 (by decide) t12
          have m3 : mk1 b e 0 (fl10, pl10, a10) = (fl12, pl12, a11) := by rw [mk1, t11]; exact flI_t (fun z => c_22 (by rw [show v11 = 0 from z]; rfl)) t12
          refine lv_iinc (v := 4) (lv' := [(1, .int 4), (2, .int (nI a10)), (0, .ref h)]) hx hb dX3_takeMark_36 hl (k := 1) rfl (by decide) (by decide) rfl (fun ls hl => ?_)
          refine lv_goto (tgt := 2) hx hb dX3_takeMark_39 (by decide) ?_
          refine lv_iload_n hx hb dX3_takeMark_2 rfl (lv_at hl 0 rfl) ?_
          refine va_getsN (ref := "CodedDeltas") (host := "CodedDeltas") hx hb hZ hS hown (va_Nw.use rfl (hNw (.fieldLinkNest RX3 100 "CodedDeltas" "MARK" "[I" "CodedDeltas") (by decide +kernel))) (fun _ h9 => h9) dX3_takeMark_3 ?_
          refine va_tlen hx hb hT hS (v := 4) rfl dX3_takeMark_6 ?_
          refine lv_icmp_ge (tgt := 42) hx hb dX3_takeMark_7 (by decide) (fun c_25 => ?_) (fun c_25 => absurd (by decide) c_25)
          have hP := hP.sub (ws' := [(h, .inr (3, [.ref rm, .ref rg, .ref cf, .ref cd, .ref ck, .ref ca, .ref nr, .ref sr, .ref dl, .ref sp, .int (nI fl12), .int (nI pl12), .int wn, .int sk, .int ss, .int sm, .int wf, .int we])), (cf, .inr (1, [.ref o, .int (nI a11), .int (nI e)])), (o, .inl (cI, N, .inl f))]) [2, 0, 1] rfl
          have hD := hD.sub (ws' := [(h, .inr (3, [.ref rm, .ref rg, .ref cf, .ref cd, .ref ck, .ref ca, .ref nr, .ref sr, .ref dl, .ref sp, .int (nI fl12), .int (nI pl12), .int wn, .int sk, .int ss, .int sm, .int wf, .int we])), (cf, .inr (1, [.ref o, .int (nI a11), .int (nI e)])), (o, .inl (cI, N, .inl f))]) [2, 0, 1] (by decide) rfl
          exact hret 42 ls _ _ (fl12, pl12, a11) dX3_takeMark_42 hP hD hS (⟨by rw [tkMark, m0, m1, m2, m3], hf12, by omega, hae11⟩)
      · refine lv_aload_n hx hb dX3_takeMark_30 rfl (lv_at hl 2 rfl) ?_
        refine lv_iconst (v := 2) hx hb dX3_takeMark_31 (by decide) ?_
        refine lv_iload_n hx hb dX3_takeMark_32 rfl (lv_at hl 0 rfl) ?_
        refine jn_v (wr := [(cf, .inr (1, [.ref o, .int (nI a10), .int (nI e)])), (o, .inl (cI, N, .inl f))]) hA hP hD hS [0] [1, 2] rfl rfl (by decide) (by decide) (rn_V (As := [.int (nI 2), .int (nI a2)]) (rest := []) ⟨hx, hb, hml, hown, hts⟩ (cvV 2 hts zc_yX3_fail zi_X3 zm_yX3_fail zv_yX3_fail kX3_90 (by decide +kernel) rfl rfl ⟨Nat.le_of_ble_eq_true rfl, Nat.le_of_ble_eq_true rfl⟩) (c_Reader_fail l D cI cB cJ cR h rm rg cf cd ck ca nr sr dl sp wn sk ss sm wf we fl10 pl10 2 a2 (hf10) H.size) hK hNw hMk hA hP hD hS [0] rfl rfl (by decide) 0 rfl rfl rfl rfl hl.1 rfl (Nat.le_of_ble_eq_true rfl) dX3_takeMark_33 ⟨Nat.le_of_ble_eq_true rfl, Nat.le_of_ble_eq_true rfl⟩) (fun u9 H locs t13 hP hD hS => ?_)
        obtain ⟨fl13, pl13⟩ := u9
        try dsimp only at t13
        have hP : va_P D vwCl [(cf, .inr (1, [.ref o, .int (nI a10), .int (nI e)])), (o, .inl (cI, N, .inl f)), (h, .inr (3, [.ref rm, .ref rg, .ref cf, .ref cd, .ref ck, .ref ca, .ref nr, .ref sr, .ref dl, .ref sp, .int (nI fl13), .int (nI pl13), .int wn, .int sk, .int ss, .int sm, .int wf, .int we]))] H := hP
        have hD : va_D A0 [(cf, .inr (1, [.ref o, .int (nI a10), .int (nI e)])), (o, .inl (cI, N, .inl f)), (h, .inr (3, [.ref rm, .ref rg, .ref cf, .ref cd, .ref ck, .ref ca, .ref nr, .ref sr, .ref dl, .ref sp, .int (nI fl13), .int (nI pl13), .int wn, .int sk, .int ss, .int sm, .int wf, .int we]))] := hD
        have hf13 := fl_ok hf10 (by decide) t13
        have m2 : mk1 b e 196 (fl9, pl9, a2) = (fl13, pl13, a10) := by rw [mk1, t10]; exact flI_t (fun z => c_20 (by rw [show v10 = 196 from z]; rfl)) t13
        refine lv_iinc (v := 3) (lv' := [(1, .int 3), (2, .int (nI a2)), (0, .ref h)]) hx hb dX3_takeMark_36 hl (k := 1) rfl (by decide) (by decide) rfl (fun ls hl => ?_)
        refine lv_goto (tgt := 2) hx hb dX3_takeMark_39 (by decide) ?_
        refine lv_iload_n hx hb dX3_takeMark_2 rfl (lv_at hl 0 rfl) ?_
        refine va_getsN (ref := "CodedDeltas") (host := "CodedDeltas") hx hb hZ hS hown (va_Nw.use rfl (hNw (.fieldLinkNest RX3 100 "CodedDeltas" "MARK" "[I" "CodedDeltas") (by decide +kernel))) (fun _ h9 => h9) dX3_takeMark_3 ?_
        refine va_tlen hx hb hT hS (v := 4) rfl dX3_takeMark_6 ?_
        refine lv_icmp_ge (tgt := 42) hx hb dX3_takeMark_7 (by decide) (fun c_27 => absurd c_27 (by decide)) (fun c_27 => ?_)
        refine lv_aload_n hx hb dX3_takeMark_10 rfl (lv_at hl 2 rfl) ?_
        refine va_get (D := D) (ci := 3) (v := .ref cf) (C := RX3) (T := TX3) (N := 18) hx hb hts in_X3 hown hK hP 2 rfl rfl 2 (by decide) (hts _ kX3_12) (fun _ h9 => h9) rfl dX3_takeMark_11 ?_
        refine va_get (D := D) (ci := 1) (v := .int (nI a10)) (C := RX1) (T := TX1) (N := 3) hx hb hts in_X1 hown hK hP 0 rfl rfl 1 (by decide) (hts _ kX3_94) (fun _ h9 => h9) rfl dX3_takeMark_14 ?_
        refine lv_istore_n (lv' := [(2, .int (nI a10)), (1, .int 3), (0, .ref h)]) hx hb dX3_takeMark_17 rfl hl (by decide) rfl (fun ls hl => ?_)
        refine lv_aload_n hx hb dX3_takeMark_18 rfl (lv_at hl 2 rfl) ?_
        refine jn_i (wr := []) hA hP hD hS [2, 0, 1] [] rfl rfl (by decide) (by decide) (rn_V (As := []) (rest := []) ⟨hx, hb, hml, hown, hts⟩ (cvV 0 hts zc_yX3_takeOctet zi_X3 zm_yX3_takeOctet zv_yX3_takeOctet kX3_103 (by decide +kernel) rfl rfl ⟨Nat.le_of_ble_eq_true rfl, Nat.le_of_ble_eq_true rfl⟩) (c_Reader_takeOctet l D cI cB cJ cR h rm rg cf cd ck ca nr sr dl sp wn sk ss sm wf we fl13 pl13 a10 e o N f b (hf13) (hN) (he) (by omega) (hob) H.size) hK hNw hMk hA hP hD hS [2, 0, 1] rfl rfl (by decide) 0 rfl rfl rfl rfl hl.1 rfl (Nat.le_of_ble_eq_true rfl) dX3_takeMark_19 ⟨Nat.le_of_ble_eq_true rfl, Nat.le_of_ble_eq_true rfl⟩) (fun r14 u9 H locs t14 hP hD hS => ?_)
        obtain ⟨v14, fl14, pl14, a14⟩ := u9
        try dsimp only at t14
        have hP : va_P D vwCl [(h, .inr (3, [.ref rm, .ref rg, .ref cf, .ref cd, .ref ck, .ref ca, .ref nr, .ref sr, .ref dl, .ref sp, .int (nI fl14), .int (nI pl14), .int wn, .int sk, .int ss, .int sm, .int wf, .int we])), (cf, .inr (1, [.ref o, .int (nI a14), .int (nI e)])), (o, .inl (cI, N, .inl f))] H := hP
        have hD : va_D A0 [(h, .inr (3, [.ref rm, .ref rg, .ref cf, .ref cd, .ref ck, .ref ca, .ref nr, .ref sr, .ref dl, .ref sp, .int (nI fl14), .int (nI pl14), .int wn, .int sk, .int ss, .int sm, .int wf, .int we])), (cf, .inr (1, [.ref o, .int (nI a14), .int (nI e)])), (o, .inl (cI, N, .inl f))] := hD
        obtain ⟨er14, t14⟩ := t14
        subst er14
        obtain ⟨hf14, hs14, hae14, hv14⟩ := tkO_ok hf13 hae10 (fun j hj => (hob j hj).2) t14
        dsimp only at hs14
        refine va_getsN (ref := "CodedDeltas") (host := "CodedDeltas") hx hb hZ hS hown (va_Nw.use rfl (hNw (.fieldLinkNest RX3 100 "CodedDeltas" "MARK" "[I" "CodedDeltas") (by decide +kernel))) (fun _ h9 => h9) dX3_takeMark_22 ?_
        refine lv_iload_n hx hb dX3_takeMark_25 rfl (lv_at hl 1 rfl) ?_
        refine va_ti hx hb hT hS (vp_in_nI (n := 3) (by decide) (by decide)) (v := .int 0) rfl dX3_takeMark_26 ?_
        refine lv_icmp_eq (tgt := 36) hx hb dX3_takeMark_27 (by decide) (fun c_28 => ?_) (fun c_28 => ?_)
        · have m3 : mk1 b e 0 (fl13, pl13, a10) = (fl14, pl14, a14) := by rw [mk1, t14]; exact flI_f (fun z => z ((nI_eq (b := 0) (by omega) (by decide)).mp c_28))
          refine lv_iinc (v := 4) (lv' := [(1, .int 4), (2, .int (nI a10)), (0, .ref h)]) hx hb dX3_takeMark_36 hl (k := 1) rfl (by decide) (by decide) rfl (fun ls hl => ?_)
          refine lv_goto (tgt := 2) hx hb dX3_takeMark_39 (by decide) ?_
          refine lv_iload_n hx hb dX3_takeMark_2 rfl (lv_at hl 0 rfl) ?_
          refine va_getsN (ref := "CodedDeltas") (host := "CodedDeltas") hx hb hZ hS hown (va_Nw.use rfl (hNw (.fieldLinkNest RX3 100 "CodedDeltas" "MARK" "[I" "CodedDeltas") (by decide +kernel))) (fun _ h9 => h9) dX3_takeMark_3 ?_
          refine va_tlen hx hb hT hS (v := 4) rfl dX3_takeMark_6 ?_
          refine lv_icmp_ge (tgt := 42) hx hb dX3_takeMark_7 (by decide) (fun c_29 => ?_) (fun c_29 => absurd (by decide) c_29)
          exact hret 42 ls _ _ (fl14, pl14, a14) dX3_takeMark_42 hP hD hS (⟨by rw [tkMark, m0, m1, m2, m3], hf14, by omega, hae14⟩)
        · refine lv_aload_n hx hb dX3_takeMark_30 rfl (lv_at hl 2 rfl) ?_
          refine lv_iconst (v := 2) hx hb dX3_takeMark_31 (by decide) ?_
          refine lv_iload_n hx hb dX3_takeMark_32 rfl (lv_at hl 0 rfl) ?_
          refine jn_v (wr := [(cf, .inr (1, [.ref o, .int (nI a14), .int (nI e)])), (o, .inl (cI, N, .inl f))]) hA hP hD hS [0] [1, 2] rfl rfl (by decide) (by decide) (rn_V (As := [.int (nI 2), .int (nI a10)]) (rest := []) ⟨hx, hb, hml, hown, hts⟩ (cvV 2 hts zc_yX3_fail zi_X3 zm_yX3_fail zv_yX3_fail kX3_90 (by decide +kernel) rfl rfl ⟨Nat.le_of_ble_eq_true rfl, Nat.le_of_ble_eq_true rfl⟩) (c_Reader_fail l D cI cB cJ cR h rm rg cf cd ck ca nr sr dl sp wn sk ss sm wf we fl14 pl14 2 a10 (hf14) H.size) hK hNw hMk hA hP hD hS [0] rfl rfl (by decide) 0 rfl rfl rfl rfl hl.1 rfl (Nat.le_of_ble_eq_true rfl) dX3_takeMark_33 ⟨Nat.le_of_ble_eq_true rfl, Nat.le_of_ble_eq_true rfl⟩) (fun u9 H locs t15 hP hD hS => ?_)
          obtain ⟨fl15, pl15⟩ := u9
          try dsimp only at t15
          have hP : va_P D vwCl [(cf, .inr (1, [.ref o, .int (nI a14), .int (nI e)])), (o, .inl (cI, N, .inl f)), (h, .inr (3, [.ref rm, .ref rg, .ref cf, .ref cd, .ref ck, .ref ca, .ref nr, .ref sr, .ref dl, .ref sp, .int (nI fl15), .int (nI pl15), .int wn, .int sk, .int ss, .int sm, .int wf, .int we]))] H := hP
          have hD : va_D A0 [(cf, .inr (1, [.ref o, .int (nI a14), .int (nI e)])), (o, .inl (cI, N, .inl f)), (h, .inr (3, [.ref rm, .ref rg, .ref cf, .ref cd, .ref ck, .ref ca, .ref nr, .ref sr, .ref dl, .ref sp, .int (nI fl15), .int (nI pl15), .int wn, .int sk, .int ss, .int sm, .int wf, .int we]))] := hD
          have hf15 := fl_ok hf14 (by decide) t15
          have m3 : mk1 b e 0 (fl13, pl13, a10) = (fl15, pl15, a14) := by rw [mk1, t14]; exact flI_t (fun z => c_28 (by rw [show v14 = 0 from z]; rfl)) t15
          refine lv_iinc (v := 4) (lv' := [(1, .int 4), (2, .int (nI a10)), (0, .ref h)]) hx hb dX3_takeMark_36 hl (k := 1) rfl (by decide) (by decide) rfl (fun ls hl => ?_)
          refine lv_goto (tgt := 2) hx hb dX3_takeMark_39 (by decide) ?_
          refine lv_iload_n hx hb dX3_takeMark_2 rfl (lv_at hl 0 rfl) ?_
          refine va_getsN (ref := "CodedDeltas") (host := "CodedDeltas") hx hb hZ hS hown (va_Nw.use rfl (hNw (.fieldLinkNest RX3 100 "CodedDeltas" "MARK" "[I" "CodedDeltas") (by decide +kernel))) (fun _ h9 => h9) dX3_takeMark_3 ?_
          refine va_tlen hx hb hT hS (v := 4) rfl dX3_takeMark_6 ?_
          refine lv_icmp_ge (tgt := 42) hx hb dX3_takeMark_7 (by decide) (fun c_31 => ?_) (fun c_31 => absurd (by decide) c_31)
          have hP := hP.sub (ws' := [(h, .inr (3, [.ref rm, .ref rg, .ref cf, .ref cd, .ref ck, .ref ca, .ref nr, .ref sr, .ref dl, .ref sp, .int (nI fl15), .int (nI pl15), .int wn, .int sk, .int ss, .int sm, .int wf, .int we])), (cf, .inr (1, [.ref o, .int (nI a14), .int (nI e)])), (o, .inl (cI, N, .inl f))]) [2, 0, 1] rfl
          have hD := hD.sub (ws' := [(h, .inr (3, [.ref rm, .ref rg, .ref cf, .ref cd, .ref ck, .ref ca, .ref nr, .ref sr, .ref dl, .ref sp, .int (nI fl15), .int (nI pl15), .int wn, .int sk, .int ss, .int sm, .int wf, .int we])), (cf, .inr (1, [.ref o, .int (nI a14), .int (nI e)])), (o, .inl (cI, N, .inl f))]) [2, 0, 1] (by decide) rfl
          exact hret 42 ls _ _ (fl15, pl15, a14) dX3_takeMark_42 hP hD hS (⟨by rw [tkMark, m0, m1, m2, m3], hf15, by omega, hae14⟩)
  · refine lv_aload_n hx hb dX3_takeMark_30 rfl (lv_at hl 2 rfl) ?_
    refine lv_iconst (v := 2) hx hb dX3_takeMark_31 (by decide) ?_
    refine lv_iload_n hx hb dX3_takeMark_32 rfl (lv_at hl 0 rfl) ?_
    refine jn_v (wr := [(cf, .inr (1, [.ref o, .int (nI a1), .int (nI e)])), (o, .inl (cI, N, .inl f))]) hA hP hD hS [0] [1, 2] rfl rfl (by decide) (by decide) (rn_V (As := [.int (nI 2), .int (nI a)]) (rest := []) ⟨hx, hb, hml, hown, hts⟩ (cvV 2 hts zc_yX3_fail zi_X3 zm_yX3_fail zv_yX3_fail kX3_90 (by decide +kernel) rfl rfl ⟨Nat.le_of_ble_eq_true rfl, Nat.le_of_ble_eq_true rfl⟩) (c_Reader_fail l D cI cB cJ cR h rm rg cf cd ck ca nr sr dl sp wn sk ss sm wf we fl1 pl1 2 a (hf1) H.size) hK hNw hMk hA hP hD hS [0] rfl rfl (by decide) 0 rfl rfl rfl rfl hl.1 rfl (Nat.le_of_ble_eq_true rfl) dX3_takeMark_33 ⟨Nat.le_of_ble_eq_true rfl, Nat.le_of_ble_eq_true rfl⟩) (fun u9 H locs t16 hP hD hS => ?_)
    obtain ⟨fl16, pl16⟩ := u9
    try dsimp only at t16
    have hP : va_P D vwCl [(cf, .inr (1, [.ref o, .int (nI a1), .int (nI e)])), (o, .inl (cI, N, .inl f)), (h, .inr (3, [.ref rm, .ref rg, .ref cf, .ref cd, .ref ck, .ref ca, .ref nr, .ref sr, .ref dl, .ref sp, .int (nI fl16), .int (nI pl16), .int wn, .int sk, .int ss, .int sm, .int wf, .int we]))] H := hP
    have hD : va_D A0 [(cf, .inr (1, [.ref o, .int (nI a1), .int (nI e)])), (o, .inl (cI, N, .inl f)), (h, .inr (3, [.ref rm, .ref rg, .ref cf, .ref cd, .ref ck, .ref ca, .ref nr, .ref sr, .ref dl, .ref sp, .int (nI fl16), .int (nI pl16), .int wn, .int sk, .int ss, .int sm, .int wf, .int we]))] := hD
    have hf16 := fl_ok hf1 (by decide) t16
    have m0 : mk1 b e 214 (fl, pl, a) = (fl16, pl16, a1) := by rw [mk1, t1]; exact flI_t (fun z => c_2 (by rw [show v1 = 214 from z]; rfl)) t16
    refine lv_iinc (v := 1) (lv' := [(1, .int 1), (2, .int (nI a)), (0, .ref h)]) hx hb dX3_takeMark_36 hl (k := 1) rfl (by decide) (by decide) rfl (fun ls hl => ?_)
    refine lv_goto (tgt := 2) hx hb dX3_takeMark_39 (by decide) ?_
    refine lv_iload_n hx hb dX3_takeMark_2 rfl (lv_at hl 0 rfl) ?_
    refine va_getsN (ref := "CodedDeltas") (host := "CodedDeltas") hx hb hZ hS hown (va_Nw.use rfl (hNw (.fieldLinkNest RX3 100 "CodedDeltas" "MARK" "[I" "CodedDeltas") (by decide +kernel))) (fun _ h9 => h9) dX3_takeMark_3 ?_
    refine va_tlen hx hb hT hS (v := 4) rfl dX3_takeMark_6 ?_
    refine lv_icmp_ge (tgt := 42) hx hb dX3_takeMark_7 (by decide) (fun c_33 => absurd c_33 (by decide)) (fun c_33 => ?_)
    refine lv_aload_n hx hb dX3_takeMark_10 rfl (lv_at hl 2 rfl) ?_
    refine va_get (D := D) (ci := 3) (v := .ref cf) (C := RX3) (T := TX3) (N := 18) hx hb hts in_X3 hown hK hP 2 rfl rfl 2 (by decide) (hts _ kX3_12) (fun _ h9 => h9) rfl dX3_takeMark_11 ?_
    refine va_get (D := D) (ci := 1) (v := .int (nI a1)) (C := RX1) (T := TX1) (N := 3) hx hb hts in_X1 hown hK hP 0 rfl rfl 1 (by decide) (hts _ kX3_94) (fun _ h9 => h9) rfl dX3_takeMark_14 ?_
    refine lv_istore_n (lv' := [(2, .int (nI a1)), (1, .int 1), (0, .ref h)]) hx hb dX3_takeMark_17 rfl hl (by decide) rfl (fun ls hl => ?_)
    refine lv_aload_n hx hb dX3_takeMark_18 rfl (lv_at hl 2 rfl) ?_
    refine jn_i (wr := []) hA hP hD hS [2, 0, 1] [] rfl rfl (by decide) (by decide) (rn_V (As := []) (rest := []) ⟨hx, hb, hml, hown, hts⟩ (cvV 0 hts zc_yX3_takeOctet zi_X3 zm_yX3_takeOctet zv_yX3_takeOctet kX3_103 (by decide +kernel) rfl rfl ⟨Nat.le_of_ble_eq_true rfl, Nat.le_of_ble_eq_true rfl⟩) (c_Reader_takeOctet l D cI cB cJ cR h rm rg cf cd ck ca nr sr dl sp wn sk ss sm wf we fl16 pl16 a1 e o N f b (hf16) (hN) (he) (by omega) (hob) H.size) hK hNw hMk hA hP hD hS [2, 0, 1] rfl rfl (by decide) 0 rfl rfl rfl rfl hl.1 rfl (Nat.le_of_ble_eq_true rfl) dX3_takeMark_19 ⟨Nat.le_of_ble_eq_true rfl, Nat.le_of_ble_eq_true rfl⟩) (fun r17 u9 H locs t17 hP hD hS => ?_)
    obtain ⟨v17, fl17, pl17, a17⟩ := u9
    try dsimp only at t17
    have hP : va_P D vwCl [(h, .inr (3, [.ref rm, .ref rg, .ref cf, .ref cd, .ref ck, .ref ca, .ref nr, .ref sr, .ref dl, .ref sp, .int (nI fl17), .int (nI pl17), .int wn, .int sk, .int ss, .int sm, .int wf, .int we])), (cf, .inr (1, [.ref o, .int (nI a17), .int (nI e)])), (o, .inl (cI, N, .inl f))] H := hP
    have hD : va_D A0 [(h, .inr (3, [.ref rm, .ref rg, .ref cf, .ref cd, .ref ck, .ref ca, .ref nr, .ref sr, .ref dl, .ref sp, .int (nI fl17), .int (nI pl17), .int wn, .int sk, .int ss, .int sm, .int wf, .int we])), (cf, .inr (1, [.ref o, .int (nI a17), .int (nI e)])), (o, .inl (cI, N, .inl f))] := hD
    obtain ⟨er17, t17⟩ := t17
    subst er17
    obtain ⟨hf17, hs17, hae17, hv17⟩ := tkO_ok hf16 hae1 (fun j hj => (hob j hj).2) t17
    dsimp only at hs17
    refine va_getsN (ref := "CodedDeltas") (host := "CodedDeltas") hx hb hZ hS hown (va_Nw.use rfl (hNw (.fieldLinkNest RX3 100 "CodedDeltas" "MARK" "[I" "CodedDeltas") (by decide +kernel))) (fun _ h9 => h9) dX3_takeMark_22 ?_
    refine lv_iload_n hx hb dX3_takeMark_25 rfl (lv_at hl 1 rfl) ?_
    refine va_ti hx hb hT hS (vp_in_nI (n := 1) (by decide) (by decide)) (v := .int 195) rfl dX3_takeMark_26 ?_
    refine lv_icmp_eq (tgt := 36) hx hb dX3_takeMark_27 (by decide) (fun c_34 => ?_) (fun c_34 => ?_)
    · have m1 : mk1 b e 195 (fl16, pl16, a1) = (fl17, pl17, a17) := by rw [mk1, t17]; exact flI_f (fun z => z ((nI_eq (b := 195) (by omega) (by decide)).mp c_34))
      refine lv_iinc (v := 2) (lv' := [(1, .int 2), (2, .int (nI a1)), (0, .ref h)]) hx hb dX3_takeMark_36 hl (k := 1) rfl (by decide) (by decide) rfl (fun ls hl => ?_)
      refine lv_goto (tgt := 2) hx hb dX3_takeMark_39 (by decide) ?_
      refine lv_iload_n hx hb dX3_takeMark_2 rfl (lv_at hl 0 rfl) ?_
      refine va_getsN (ref := "CodedDeltas") (host := "CodedDeltas") hx hb hZ hS hown (va_Nw.use rfl (hNw (.fieldLinkNest RX3 100 "CodedDeltas" "MARK" "[I" "CodedDeltas") (by decide +kernel))) (fun _ h9 => h9) dX3_takeMark_3 ?_
      refine va_tlen hx hb hT hS (v := 4) rfl dX3_takeMark_6 ?_
      refine lv_icmp_ge (tgt := 42) hx hb dX3_takeMark_7 (by decide) (fun c_35 => absurd c_35 (by decide)) (fun c_35 => ?_)
      refine lv_aload_n hx hb dX3_takeMark_10 rfl (lv_at hl 2 rfl) ?_
      refine va_get (D := D) (ci := 3) (v := .ref cf) (C := RX3) (T := TX3) (N := 18) hx hb hts in_X3 hown hK hP 0 rfl rfl 2 (by decide) (hts _ kX3_12) (fun _ h9 => h9) rfl dX3_takeMark_11 ?_
      refine va_get (D := D) (ci := 1) (v := .int (nI a17)) (C := RX1) (T := TX1) (N := 3) hx hb hts in_X1 hown hK hP 1 rfl rfl 1 (by decide) (hts _ kX3_94) (fun _ h9 => h9) rfl dX3_takeMark_14 ?_
      refine lv_istore_n (lv' := [(2, .int (nI a17)), (1, .int 2), (0, .ref h)]) hx hb dX3_takeMark_17 rfl hl (by decide) rfl (fun ls hl => ?_)
      refine lv_aload_n hx hb dX3_takeMark_18 rfl (lv_at hl 2 rfl) ?_
      refine jn_i (wr := []) hA hP hD hS [0, 1, 2] [] rfl rfl (by decide) (by decide) (rn_V (As := []) (rest := []) ⟨hx, hb, hml, hown, hts⟩ (cvV 0 hts zc_yX3_takeOctet zi_X3 zm_yX3_takeOctet zv_yX3_takeOctet kX3_103 (by decide +kernel) rfl rfl ⟨Nat.le_of_ble_eq_true rfl, Nat.le_of_ble_eq_true rfl⟩) (c_Reader_takeOctet l D cI cB cJ cR h rm rg cf cd ck ca nr sr dl sp wn sk ss sm wf we fl17 pl17 a17 e o N f b (hf17) (hN) (he) (by omega) (hob) H.size) hK hNw hMk hA hP hD hS [0, 1, 2] rfl rfl (by decide) 0 rfl rfl rfl rfl hl.1 rfl (Nat.le_of_ble_eq_true rfl) dX3_takeMark_19 ⟨Nat.le_of_ble_eq_true rfl, Nat.le_of_ble_eq_true rfl⟩) (fun r18 u9 H locs t18 hP hD hS => ?_)
      obtain ⟨v18, fl18, pl18, a18⟩ := u9
      try dsimp only at t18
      have hP : va_P D vwCl [(h, .inr (3, [.ref rm, .ref rg, .ref cf, .ref cd, .ref ck, .ref ca, .ref nr, .ref sr, .ref dl, .ref sp, .int (nI fl18), .int (nI pl18), .int wn, .int sk, .int ss, .int sm, .int wf, .int we])), (cf, .inr (1, [.ref o, .int (nI a18), .int (nI e)])), (o, .inl (cI, N, .inl f))] H := hP
      have hD : va_D A0 [(h, .inr (3, [.ref rm, .ref rg, .ref cf, .ref cd, .ref ck, .ref ca, .ref nr, .ref sr, .ref dl, .ref sp, .int (nI fl18), .int (nI pl18), .int wn, .int sk, .int ss, .int sm, .int wf, .int we])), (cf, .inr (1, [.ref o, .int (nI a18), .int (nI e)])), (o, .inl (cI, N, .inl f))] := hD
      obtain ⟨er18, t18⟩ := t18
      subst er18
      obtain ⟨hf18, hs18, hae18, hv18⟩ := tkO_ok hf17 hae17 (fun j hj => (hob j hj).2) t18
      dsimp only at hs18
      refine va_getsN (ref := "CodedDeltas") (host := "CodedDeltas") hx hb hZ hS hown (va_Nw.use rfl (hNw (.fieldLinkNest RX3 100 "CodedDeltas" "MARK" "[I" "CodedDeltas") (by decide +kernel))) (fun _ h9 => h9) dX3_takeMark_22 ?_
      refine lv_iload_n hx hb dX3_takeMark_25 rfl (lv_at hl 1 rfl) ?_
      refine va_ti hx hb hT hS (vp_in_nI (n := 2) (by decide) (by decide)) (v := .int 196) rfl dX3_takeMark_26 ?_
      refine lv_icmp_eq (tgt := 36) hx hb dX3_takeMark_27 (by decide) (fun c_36 => ?_) (fun c_36 => ?_)
      · have m2 : mk1 b e 196 (fl17, pl17, a17) = (fl18, pl18, a18) := by rw [mk1, t18]; exact flI_f (fun z => z ((nI_eq (b := 196) (by omega) (by decide)).mp c_36))
        refine lv_iinc (v := 3) (lv' := [(1, .int 3), (2, .int (nI a17)), (0, .ref h)]) hx hb dX3_takeMark_36 hl (k := 1) rfl (by decide) (by decide) rfl (fun ls hl => ?_)
        refine lv_goto (tgt := 2) hx hb dX3_takeMark_39 (by decide) ?_
        refine lv_iload_n hx hb dX3_takeMark_2 rfl (lv_at hl 0 rfl) ?_
        refine va_getsN (ref := "CodedDeltas") (host := "CodedDeltas") hx hb hZ hS hown (va_Nw.use rfl (hNw (.fieldLinkNest RX3 100 "CodedDeltas" "MARK" "[I" "CodedDeltas") (by decide +kernel))) (fun _ h9 => h9) dX3_takeMark_3 ?_
        refine va_tlen hx hb hT hS (v := 4) rfl dX3_takeMark_6 ?_
        refine lv_icmp_ge (tgt := 42) hx hb dX3_takeMark_7 (by decide) (fun c_37 => absurd c_37 (by decide)) (fun c_37 => ?_)
        refine lv_aload_n hx hb dX3_takeMark_10 rfl (lv_at hl 2 rfl) ?_
        refine va_get (D := D) (ci := 3) (v := .ref cf) (C := RX3) (T := TX3) (N := 18) hx hb hts in_X3 hown hK hP 0 rfl rfl 2 (by decide) (hts _ kX3_12) (fun _ h9 => h9) rfl dX3_takeMark_11 ?_
        refine va_get (D := D) (ci := 1) (v := .int (nI a18)) (C := RX1) (T := TX1) (N := 3) hx hb hts in_X1 hown hK hP 1 rfl rfl 1 (by decide) (hts _ kX3_94) (fun _ h9 => h9) rfl dX3_takeMark_14 ?_
        refine lv_istore_n (lv' := [(2, .int (nI a18)), (1, .int 3), (0, .ref h)]) hx hb dX3_takeMark_17 rfl hl (by decide) rfl (fun ls hl => ?_)
        refine lv_aload_n hx hb dX3_takeMark_18 rfl (lv_at hl 2 rfl) ?_
        refine jn_i (wr := []) hA hP hD hS [0, 1, 2] [] rfl rfl (by decide) (by decide) (rn_V (As := []) (rest := []) ⟨hx, hb, hml, hown, hts⟩ (cvV 0 hts zc_yX3_takeOctet zi_X3 zm_yX3_takeOctet zv_yX3_takeOctet kX3_103 (by decide +kernel) rfl rfl ⟨Nat.le_of_ble_eq_true rfl, Nat.le_of_ble_eq_true rfl⟩) (c_Reader_takeOctet l D cI cB cJ cR h rm rg cf cd ck ca nr sr dl sp wn sk ss sm wf we fl18 pl18 a18 e o N f b (hf18) (hN) (he) (by omega) (hob) H.size) hK hNw hMk hA hP hD hS [0, 1, 2] rfl rfl (by decide) 0 rfl rfl rfl rfl hl.1 rfl (Nat.le_of_ble_eq_true rfl) dX3_takeMark_19 ⟨Nat.le_of_ble_eq_true rfl, Nat.le_of_ble_eq_true rfl⟩) (fun r19 u9 H locs t19 hP hD hS => ?_)
        obtain ⟨v19, fl19, pl19, a19⟩ := u9
        try dsimp only at t19
        have hP : va_P D vwCl [(h, .inr (3, [.ref rm, .ref rg, .ref cf, .ref cd, .ref ck, .ref ca, .ref nr, .ref sr, .ref dl, .ref sp, .int (nI fl19), .int (nI pl19), .int wn, .int sk, .int ss, .int sm, .int wf, .int we])), (cf, .inr (1, [.ref o, .int (nI a19), .int (nI e)])), (o, .inl (cI, N, .inl f))] H := hP
        have hD : va_D A0 [(h, .inr (3, [.ref rm, .ref rg, .ref cf, .ref cd, .ref ck, .ref ca, .ref nr, .ref sr, .ref dl, .ref sp, .int (nI fl19), .int (nI pl19), .int wn, .int sk, .int ss, .int sm, .int wf, .int we])), (cf, .inr (1, [.ref o, .int (nI a19), .int (nI e)])), (o, .inl (cI, N, .inl f))] := hD
        obtain ⟨er19, t19⟩ := t19
        subst er19
        obtain ⟨hf19, hs19, hae19, hv19⟩ := tkO_ok hf18 hae18 (fun j hj => (hob j hj).2) t19
        dsimp only at hs19
        refine va_getsN (ref := "CodedDeltas") (host := "CodedDeltas") hx hb hZ hS hown (va_Nw.use rfl (hNw (.fieldLinkNest RX3 100 "CodedDeltas" "MARK" "[I" "CodedDeltas") (by decide +kernel))) (fun _ h9 => h9) dX3_takeMark_22 ?_
        refine lv_iload_n hx hb dX3_takeMark_25 rfl (lv_at hl 1 rfl) ?_
        refine va_ti hx hb hT hS (vp_in_nI (n := 3) (by decide) (by decide)) (v := .int 0) rfl dX3_takeMark_26 ?_
        refine lv_icmp_eq (tgt := 36) hx hb dX3_takeMark_27 (by decide) (fun c_38 => ?_) (fun c_38 => ?_)
        · have m3 : mk1 b e 0 (fl18, pl18, a18) = (fl19, pl19, a19) := by rw [mk1, t19]; exact flI_f (fun z => z ((nI_eq (b := 0) (by omega) (by decide)).mp c_38))
          refine lv_iinc (v := 4) (lv' := [(1, .int 4), (2, .int (nI a18)), (0, .ref h)]) hx hb dX3_takeMark_36 hl (k := 1) rfl (by decide) (by decide) rfl (fun ls hl => ?_)
          refine lv_goto (tgt := 2) hx hb dX3_takeMark_39 (by decide) ?_
          refine lv_iload_n hx hb dX3_takeMark_2 rfl (lv_at hl 0 rfl) ?_
          refine va_getsN (ref := "CodedDeltas") (host := "CodedDeltas") hx hb hZ hS hown (va_Nw.use rfl (hNw (.fieldLinkNest RX3 100 "CodedDeltas" "MARK" "[I" "CodedDeltas") (by decide +kernel))) (fun _ h9 => h9) dX3_takeMark_3 ?_
          refine va_tlen hx hb hT hS (v := 4) rfl dX3_takeMark_6 ?_
          refine lv_icmp_ge (tgt := 42) hx hb dX3_takeMark_7 (by decide) (fun c_39 => ?_) (fun c_39 => absurd (by decide) c_39)
          exact hret 42 ls _ _ (fl19, pl19, a19) dX3_takeMark_42 hP hD hS (⟨by rw [tkMark, m0, m1, m2, m3], hf19, by omega, hae19⟩)
        · refine lv_aload_n hx hb dX3_takeMark_30 rfl (lv_at hl 2 rfl) ?_
          refine lv_iconst (v := 2) hx hb dX3_takeMark_31 (by decide) ?_
          refine lv_iload_n hx hb dX3_takeMark_32 rfl (lv_at hl 0 rfl) ?_
          refine jn_v (wr := [(cf, .inr (1, [.ref o, .int (nI a19), .int (nI e)])), (o, .inl (cI, N, .inl f))]) hA hP hD hS [0] [1, 2] rfl rfl (by decide) (by decide) (rn_V (As := [.int (nI 2), .int (nI a18)]) (rest := []) ⟨hx, hb, hml, hown, hts⟩ (cvV 2 hts zc_yX3_fail zi_X3 zm_yX3_fail zv_yX3_fail kX3_90 (by decide +kernel) rfl rfl ⟨Nat.le_of_ble_eq_true rfl, Nat.le_of_ble_eq_true rfl⟩) (c_Reader_fail l D cI cB cJ cR h rm rg cf cd ck ca nr sr dl sp wn sk ss sm wf we fl19 pl19 2 a18 (hf19) H.size) hK hNw hMk hA hP hD hS [0] rfl rfl (by decide) 0 rfl rfl rfl rfl hl.1 rfl (Nat.le_of_ble_eq_true rfl) dX3_takeMark_33 ⟨Nat.le_of_ble_eq_true rfl, Nat.le_of_ble_eq_true rfl⟩) (fun u9 H locs t20 hP hD hS => ?_)
          obtain ⟨fl20, pl20⟩ := u9
          try dsimp only at t20
          have hP : va_P D vwCl [(cf, .inr (1, [.ref o, .int (nI a19), .int (nI e)])), (o, .inl (cI, N, .inl f)), (h, .inr (3, [.ref rm, .ref rg, .ref cf, .ref cd, .ref ck, .ref ca, .ref nr, .ref sr, .ref dl, .ref sp, .int (nI fl20), .int (nI pl20), .int wn, .int sk, .int ss, .int sm, .int wf, .int we]))] H := hP
          have hD : va_D A0 [(cf, .inr (1, [.ref o, .int (nI a19), .int (nI e)])), (o, .inl (cI, N, .inl f)), (h, .inr (3, [.ref rm, .ref rg, .ref cf, .ref cd, .ref ck, .ref ca, .ref nr, .ref sr, .ref dl, .ref sp, .int (nI fl20), .int (nI pl20), .int wn, .int sk, .int ss, .int sm, .int wf, .int we]))] := hD
          have hf20 := fl_ok hf19 (by decide) t20
          have m3 : mk1 b e 0 (fl18, pl18, a18) = (fl20, pl20, a19) := by rw [mk1, t19]; exact flI_t (fun z => c_38 (by rw [show v19 = 0 from z]; rfl)) t20
          refine lv_iinc (v := 4) (lv' := [(1, .int 4), (2, .int (nI a18)), (0, .ref h)]) hx hb dX3_takeMark_36 hl (k := 1) rfl (by decide) (by decide) rfl (fun ls hl => ?_)
          refine lv_goto (tgt := 2) hx hb dX3_takeMark_39 (by decide) ?_
          refine lv_iload_n hx hb dX3_takeMark_2 rfl (lv_at hl 0 rfl) ?_
          refine va_getsN (ref := "CodedDeltas") (host := "CodedDeltas") hx hb hZ hS hown (va_Nw.use rfl (hNw (.fieldLinkNest RX3 100 "CodedDeltas" "MARK" "[I" "CodedDeltas") (by decide +kernel))) (fun _ h9 => h9) dX3_takeMark_3 ?_
          refine va_tlen hx hb hT hS (v := 4) rfl dX3_takeMark_6 ?_
          refine lv_icmp_ge (tgt := 42) hx hb dX3_takeMark_7 (by decide) (fun c_41 => ?_) (fun c_41 => absurd (by decide) c_41)
          have hP := hP.sub (ws' := [(h, .inr (3, [.ref rm, .ref rg, .ref cf, .ref cd, .ref ck, .ref ca, .ref nr, .ref sr, .ref dl, .ref sp, .int (nI fl20), .int (nI pl20), .int wn, .int sk, .int ss, .int sm, .int wf, .int we])), (cf, .inr (1, [.ref o, .int (nI a19), .int (nI e)])), (o, .inl (cI, N, .inl f))]) [2, 0, 1] rfl
          have hD := hD.sub (ws' := [(h, .inr (3, [.ref rm, .ref rg, .ref cf, .ref cd, .ref ck, .ref ca, .ref nr, .ref sr, .ref dl, .ref sp, .int (nI fl20), .int (nI pl20), .int wn, .int sk, .int ss, .int sm, .int wf, .int we])), (cf, .inr (1, [.ref o, .int (nI a19), .int (nI e)])), (o, .inl (cI, N, .inl f))]) [2, 0, 1] (by decide) rfl
          exact hret 42 ls _ _ (fl20, pl20, a19) dX3_takeMark_42 hP hD hS (⟨by rw [tkMark, m0, m1, m2, m3], hf20, by omega, hae19⟩)
      · refine lv_aload_n hx hb dX3_takeMark_30 rfl (lv_at hl 2 rfl) ?_
        refine lv_iconst (v := 2) hx hb dX3_takeMark_31 (by decide) ?_
        refine lv_iload_n hx hb dX3_takeMark_32 rfl (lv_at hl 0 rfl) ?_
        refine jn_v (wr := [(cf, .inr (1, [.ref o, .int (nI a18), .int (nI e)])), (o, .inl (cI, N, .inl f))]) hA hP hD hS [0] [1, 2] rfl rfl (by decide) (by decide) (rn_V (As := [.int (nI 2), .int (nI a17)]) (rest := []) ⟨hx, hb, hml, hown, hts⟩ (cvV 2 hts zc_yX3_fail zi_X3 zm_yX3_fail zv_yX3_fail kX3_90 (by decide +kernel) rfl rfl ⟨Nat.le_of_ble_eq_true rfl, Nat.le_of_ble_eq_true rfl⟩) (c_Reader_fail l D cI cB cJ cR h rm rg cf cd ck ca nr sr dl sp wn sk ss sm wf we fl18 pl18 2 a17 (hf18) H.size) hK hNw hMk hA hP hD hS [0] rfl rfl (by decide) 0 rfl rfl rfl rfl hl.1 rfl (Nat.le_of_ble_eq_true rfl) dX3_takeMark_33 ⟨Nat.le_of_ble_eq_true rfl, Nat.le_of_ble_eq_true rfl⟩) (fun u9 H locs t21 hP hD hS => ?_)
        obtain ⟨fl21, pl21⟩ := u9
        try dsimp only at t21
        have hP : va_P D vwCl [(cf, .inr (1, [.ref o, .int (nI a18), .int (nI e)])), (o, .inl (cI, N, .inl f)), (h, .inr (3, [.ref rm, .ref rg, .ref cf, .ref cd, .ref ck, .ref ca, .ref nr, .ref sr, .ref dl, .ref sp, .int (nI fl21), .int (nI pl21), .int wn, .int sk, .int ss, .int sm, .int wf, .int we]))] H := hP
        have hD : va_D A0 [(cf, .inr (1, [.ref o, .int (nI a18), .int (nI e)])), (o, .inl (cI, N, .inl f)), (h, .inr (3, [.ref rm, .ref rg, .ref cf, .ref cd, .ref ck, .ref ca, .ref nr, .ref sr, .ref dl, .ref sp, .int (nI fl21), .int (nI pl21), .int wn, .int sk, .int ss, .int sm, .int wf, .int we]))] := hD
        have hf21 := fl_ok hf18 (by decide) t21
        have m2 : mk1 b e 196 (fl17, pl17, a17) = (fl21, pl21, a18) := by rw [mk1, t18]; exact flI_t (fun z => c_36 (by rw [show v18 = 196 from z]; rfl)) t21
        refine lv_iinc (v := 3) (lv' := [(1, .int 3), (2, .int (nI a17)), (0, .ref h)]) hx hb dX3_takeMark_36 hl (k := 1) rfl (by decide) (by decide) rfl (fun ls hl => ?_)
        refine lv_goto (tgt := 2) hx hb dX3_takeMark_39 (by decide) ?_
        refine lv_iload_n hx hb dX3_takeMark_2 rfl (lv_at hl 0 rfl) ?_
        refine va_getsN (ref := "CodedDeltas") (host := "CodedDeltas") hx hb hZ hS hown (va_Nw.use rfl (hNw (.fieldLinkNest RX3 100 "CodedDeltas" "MARK" "[I" "CodedDeltas") (by decide +kernel))) (fun _ h9 => h9) dX3_takeMark_3 ?_
        refine va_tlen hx hb hT hS (v := 4) rfl dX3_takeMark_6 ?_
        refine lv_icmp_ge (tgt := 42) hx hb dX3_takeMark_7 (by decide) (fun c_43 => absurd c_43 (by decide)) (fun c_43 => ?_)
        refine lv_aload_n hx hb dX3_takeMark_10 rfl (lv_at hl 2 rfl) ?_
        refine va_get (D := D) (ci := 3) (v := .ref cf) (C := RX3) (T := TX3) (N := 18) hx hb hts in_X3 hown hK hP 2 rfl rfl 2 (by decide) (hts _ kX3_12) (fun _ h9 => h9) rfl dX3_takeMark_11 ?_
        refine va_get (D := D) (ci := 1) (v := .int (nI a18)) (C := RX1) (T := TX1) (N := 3) hx hb hts in_X1 hown hK hP 0 rfl rfl 1 (by decide) (hts _ kX3_94) (fun _ h9 => h9) rfl dX3_takeMark_14 ?_
        refine lv_istore_n (lv' := [(2, .int (nI a18)), (1, .int 3), (0, .ref h)]) hx hb dX3_takeMark_17 rfl hl (by decide) rfl (fun ls hl => ?_)
        refine lv_aload_n hx hb dX3_takeMark_18 rfl (lv_at hl 2 rfl) ?_
        refine jn_i (wr := []) hA hP hD hS [2, 0, 1] [] rfl rfl (by decide) (by decide) (rn_V (As := []) (rest := []) ⟨hx, hb, hml, hown, hts⟩ (cvV 0 hts zc_yX3_takeOctet zi_X3 zm_yX3_takeOctet zv_yX3_takeOctet kX3_103 (by decide +kernel) rfl rfl ⟨Nat.le_of_ble_eq_true rfl, Nat.le_of_ble_eq_true rfl⟩) (c_Reader_takeOctet l D cI cB cJ cR h rm rg cf cd ck ca nr sr dl sp wn sk ss sm wf we fl21 pl21 a18 e o N f b (hf21) (hN) (he) (by omega) (hob) H.size) hK hNw hMk hA hP hD hS [2, 0, 1] rfl rfl (by decide) 0 rfl rfl rfl rfl hl.1 rfl (Nat.le_of_ble_eq_true rfl) dX3_takeMark_19 ⟨Nat.le_of_ble_eq_true rfl, Nat.le_of_ble_eq_true rfl⟩) (fun r22 u9 H locs t22 hP hD hS => ?_)
        obtain ⟨v22, fl22, pl22, a22⟩ := u9
        try dsimp only at t22
        have hP : va_P D vwCl [(h, .inr (3, [.ref rm, .ref rg, .ref cf, .ref cd, .ref ck, .ref ca, .ref nr, .ref sr, .ref dl, .ref sp, .int (nI fl22), .int (nI pl22), .int wn, .int sk, .int ss, .int sm, .int wf, .int we])), (cf, .inr (1, [.ref o, .int (nI a22), .int (nI e)])), (o, .inl (cI, N, .inl f))] H := hP
        have hD : va_D A0 [(h, .inr (3, [.ref rm, .ref rg, .ref cf, .ref cd, .ref ck, .ref ca, .ref nr, .ref sr, .ref dl, .ref sp, .int (nI fl22), .int (nI pl22), .int wn, .int sk, .int ss, .int sm, .int wf, .int we])), (cf, .inr (1, [.ref o, .int (nI a22), .int (nI e)])), (o, .inl (cI, N, .inl f))] := hD
        obtain ⟨er22, t22⟩ := t22
        subst er22
        obtain ⟨hf22, hs22, hae22, hv22⟩ := tkO_ok hf21 hae18 (fun j hj => (hob j hj).2) t22
        dsimp only at hs22
        refine va_getsN (ref := "CodedDeltas") (host := "CodedDeltas") hx hb hZ hS hown (va_Nw.use rfl (hNw (.fieldLinkNest RX3 100 "CodedDeltas" "MARK" "[I" "CodedDeltas") (by decide +kernel))) (fun _ h9 => h9) dX3_takeMark_22 ?_
        refine lv_iload_n hx hb dX3_takeMark_25 rfl (lv_at hl 1 rfl) ?_
        refine va_ti hx hb hT hS (vp_in_nI (n := 3) (by decide) (by decide)) (v := .int 0) rfl dX3_takeMark_26 ?_
        refine lv_icmp_eq (tgt := 36) hx hb dX3_takeMark_27 (by decide) (fun c_44 => ?_) (fun c_44 => ?_)
        · have m3 : mk1 b e 0 (fl21, pl21, a18) = (fl22, pl22, a22) := by rw [mk1, t22]; exact flI_f (fun z => z ((nI_eq (b := 0) (by omega) (by decide)).mp c_44))
          refine lv_iinc (v := 4) (lv' := [(1, .int 4), (2, .int (nI a18)), (0, .ref h)]) hx hb dX3_takeMark_36 hl (k := 1) rfl (by decide) (by decide) rfl (fun ls hl => ?_)
          refine lv_goto (tgt := 2) hx hb dX3_takeMark_39 (by decide) ?_
          refine lv_iload_n hx hb dX3_takeMark_2 rfl (lv_at hl 0 rfl) ?_
          refine va_getsN (ref := "CodedDeltas") (host := "CodedDeltas") hx hb hZ hS hown (va_Nw.use rfl (hNw (.fieldLinkNest RX3 100 "CodedDeltas" "MARK" "[I" "CodedDeltas") (by decide +kernel))) (fun _ h9 => h9) dX3_takeMark_3 ?_
          refine va_tlen hx hb hT hS (v := 4) rfl dX3_takeMark_6 ?_
          refine lv_icmp_ge (tgt := 42) hx hb dX3_takeMark_7 (by decide) (fun c_45 => ?_) (fun c_45 => absurd (by decide) c_45)
          exact hret 42 ls _ _ (fl22, pl22, a22) dX3_takeMark_42 hP hD hS (⟨by rw [tkMark, m0, m1, m2, m3], hf22, by omega, hae22⟩)
        · refine lv_aload_n hx hb dX3_takeMark_30 rfl (lv_at hl 2 rfl) ?_
          refine lv_iconst (v := 2) hx hb dX3_takeMark_31 (by decide) ?_
          refine lv_iload_n hx hb dX3_takeMark_32 rfl (lv_at hl 0 rfl) ?_
          refine jn_v (wr := [(cf, .inr (1, [.ref o, .int (nI a22), .int (nI e)])), (o, .inl (cI, N, .inl f))]) hA hP hD hS [0] [1, 2] rfl rfl (by decide) (by decide) (rn_V (As := [.int (nI 2), .int (nI a18)]) (rest := []) ⟨hx, hb, hml, hown, hts⟩ (cvV 2 hts zc_yX3_fail zi_X3 zm_yX3_fail zv_yX3_fail kX3_90 (by decide +kernel) rfl rfl ⟨Nat.le_of_ble_eq_true rfl, Nat.le_of_ble_eq_true rfl⟩) (c_Reader_fail l D cI cB cJ cR h rm rg cf cd ck ca nr sr dl sp wn sk ss sm wf we fl22 pl22 2 a18 (hf22) H.size) hK hNw hMk hA hP hD hS [0] rfl rfl (by decide) 0 rfl rfl rfl rfl hl.1 rfl (Nat.le_of_ble_eq_true rfl) dX3_takeMark_33 ⟨Nat.le_of_ble_eq_true rfl, Nat.le_of_ble_eq_true rfl⟩) (fun u9 H locs t23 hP hD hS => ?_)
          obtain ⟨fl23, pl23⟩ := u9
          try dsimp only at t23
          have hP : va_P D vwCl [(cf, .inr (1, [.ref o, .int (nI a22), .int (nI e)])), (o, .inl (cI, N, .inl f)), (h, .inr (3, [.ref rm, .ref rg, .ref cf, .ref cd, .ref ck, .ref ca, .ref nr, .ref sr, .ref dl, .ref sp, .int (nI fl23), .int (nI pl23), .int wn, .int sk, .int ss, .int sm, .int wf, .int we]))] H := hP
          have hD : va_D A0 [(cf, .inr (1, [.ref o, .int (nI a22), .int (nI e)])), (o, .inl (cI, N, .inl f)), (h, .inr (3, [.ref rm, .ref rg, .ref cf, .ref cd, .ref ck, .ref ca, .ref nr, .ref sr, .ref dl, .ref sp, .int (nI fl23), .int (nI pl23), .int wn, .int sk, .int ss, .int sm, .int wf, .int we]))] := hD
          have hf23 := fl_ok hf22 (by decide) t23
          have m3 : mk1 b e 0 (fl21, pl21, a18) = (fl23, pl23, a22) := by rw [mk1, t22]; exact flI_t (fun z => c_44 (by rw [show v22 = 0 from z]; rfl)) t23
          refine lv_iinc (v := 4) (lv' := [(1, .int 4), (2, .int (nI a18)), (0, .ref h)]) hx hb dX3_takeMark_36 hl (k := 1) rfl (by decide) (by decide) rfl (fun ls hl => ?_)
          refine lv_goto (tgt := 2) hx hb dX3_takeMark_39 (by decide) ?_
          refine lv_iload_n hx hb dX3_takeMark_2 rfl (lv_at hl 0 rfl) ?_
          refine va_getsN (ref := "CodedDeltas") (host := "CodedDeltas") hx hb hZ hS hown (va_Nw.use rfl (hNw (.fieldLinkNest RX3 100 "CodedDeltas" "MARK" "[I" "CodedDeltas") (by decide +kernel))) (fun _ h9 => h9) dX3_takeMark_3 ?_
          refine va_tlen hx hb hT hS (v := 4) rfl dX3_takeMark_6 ?_
          refine lv_icmp_ge (tgt := 42) hx hb dX3_takeMark_7 (by decide) (fun c_47 => ?_) (fun c_47 => absurd (by decide) c_47)
          have hP := hP.sub (ws' := [(h, .inr (3, [.ref rm, .ref rg, .ref cf, .ref cd, .ref ck, .ref ca, .ref nr, .ref sr, .ref dl, .ref sp, .int (nI fl23), .int (nI pl23), .int wn, .int sk, .int ss, .int sm, .int wf, .int we])), (cf, .inr (1, [.ref o, .int (nI a22), .int (nI e)])), (o, .inl (cI, N, .inl f))]) [2, 0, 1] rfl
          have hD := hD.sub (ws' := [(h, .inr (3, [.ref rm, .ref rg, .ref cf, .ref cd, .ref ck, .ref ca, .ref nr, .ref sr, .ref dl, .ref sp, .int (nI fl23), .int (nI pl23), .int wn, .int sk, .int ss, .int sm, .int wf, .int we])), (cf, .inr (1, [.ref o, .int (nI a22), .int (nI e)])), (o, .inl (cI, N, .inl f))]) [2, 0, 1] (by decide) rfl
          exact hret 42 ls _ _ (fl23, pl23, a22) dX3_takeMark_42 hP hD hS (⟨by rw [tkMark, m0, m1, m2, m3], hf23, by omega, hae22⟩)
    · refine lv_aload_n hx hb dX3_takeMark_30 rfl (lv_at hl 2 rfl) ?_
      refine lv_iconst (v := 2) hx hb dX3_takeMark_31 (by decide) ?_
      refine lv_iload_n hx hb dX3_takeMark_32 rfl (lv_at hl 0 rfl) ?_
      refine jn_v (wr := [(cf, .inr (1, [.ref o, .int (nI a17), .int (nI e)])), (o, .inl (cI, N, .inl f))]) hA hP hD hS [0] [1, 2] rfl rfl (by decide) (by decide) (rn_V (As := [.int (nI 2), .int (nI a1)]) (rest := []) ⟨hx, hb, hml, hown, hts⟩ (cvV 2 hts zc_yX3_fail zi_X3 zm_yX3_fail zv_yX3_fail kX3_90 (by decide +kernel) rfl rfl ⟨Nat.le_of_ble_eq_true rfl, Nat.le_of_ble_eq_true rfl⟩) (c_Reader_fail l D cI cB cJ cR h rm rg cf cd ck ca nr sr dl sp wn sk ss sm wf we fl17 pl17 2 a1 (hf17) H.size) hK hNw hMk hA hP hD hS [0] rfl rfl (by decide) 0 rfl rfl rfl rfl hl.1 rfl (Nat.le_of_ble_eq_true rfl) dX3_takeMark_33 ⟨Nat.le_of_ble_eq_true rfl, Nat.le_of_ble_eq_true rfl⟩) (fun u9 H locs t24 hP hD hS => ?_)
      obtain ⟨fl24, pl24⟩ := u9
      try dsimp only at t24
      have hP : va_P D vwCl [(cf, .inr (1, [.ref o, .int (nI a17), .int (nI e)])), (o, .inl (cI, N, .inl f)), (h, .inr (3, [.ref rm, .ref rg, .ref cf, .ref cd, .ref ck, .ref ca, .ref nr, .ref sr, .ref dl, .ref sp, .int (nI fl24), .int (nI pl24), .int wn, .int sk, .int ss, .int sm, .int wf, .int we]))] H := hP
      have hD : va_D A0 [(cf, .inr (1, [.ref o, .int (nI a17), .int (nI e)])), (o, .inl (cI, N, .inl f)), (h, .inr (3, [.ref rm, .ref rg, .ref cf, .ref cd, .ref ck, .ref ca, .ref nr, .ref sr, .ref dl, .ref sp, .int (nI fl24), .int (nI pl24), .int wn, .int sk, .int ss, .int sm, .int wf, .int we]))] := hD
      have hf24 := fl_ok hf17 (by decide) t24
      have m1 : mk1 b e 195 (fl16, pl16, a1) = (fl24, pl24, a17) := by rw [mk1, t17]; exact flI_t (fun z => c_34 (by rw [show v17 = 195 from z]; rfl)) t24
      refine lv_iinc (v := 2) (lv' := [(1, .int 2), (2, .int (nI a1)), (0, .ref h)]) hx hb dX3_takeMark_36 hl (k := 1) rfl (by decide) (by decide) rfl (fun ls hl => ?_)
      refine lv_goto (tgt := 2) hx hb dX3_takeMark_39 (by decide) ?_
      refine lv_iload_n hx hb dX3_takeMark_2 rfl (lv_at hl 0 rfl) ?_
      refine va_getsN (ref := "CodedDeltas") (host := "CodedDeltas") hx hb hZ hS hown (va_Nw.use rfl (hNw (.fieldLinkNest RX3 100 "CodedDeltas" "MARK" "[I" "CodedDeltas") (by decide +kernel))) (fun _ h9 => h9) dX3_takeMark_3 ?_
      refine va_tlen hx hb hT hS (v := 4) rfl dX3_takeMark_6 ?_
      refine lv_icmp_ge (tgt := 42) hx hb dX3_takeMark_7 (by decide) (fun c_49 => absurd c_49 (by decide)) (fun c_49 => ?_)
      refine lv_aload_n hx hb dX3_takeMark_10 rfl (lv_at hl 2 rfl) ?_
      refine va_get (D := D) (ci := 3) (v := .ref cf) (C := RX3) (T := TX3) (N := 18) hx hb hts in_X3 hown hK hP 2 rfl rfl 2 (by decide) (hts _ kX3_12) (fun _ h9 => h9) rfl dX3_takeMark_11 ?_
      refine va_get (D := D) (ci := 1) (v := .int (nI a17)) (C := RX1) (T := TX1) (N := 3) hx hb hts in_X1 hown hK hP 0 rfl rfl 1 (by decide) (hts _ kX3_94) (fun _ h9 => h9) rfl dX3_takeMark_14 ?_
      refine lv_istore_n (lv' := [(2, .int (nI a17)), (1, .int 2), (0, .ref h)]) hx hb dX3_takeMark_17 rfl hl (by decide) rfl (fun ls hl => ?_)
      refine lv_aload_n hx hb dX3_takeMark_18 rfl (lv_at hl 2 rfl) ?_
      refine jn_i (wr := []) hA hP hD hS [2, 0, 1] [] rfl rfl (by decide) (by decide) (rn_V (As := []) (rest := []) ⟨hx, hb, hml, hown, hts⟩ (cvV 0 hts zc_yX3_takeOctet zi_X3 zm_yX3_takeOctet zv_yX3_takeOctet kX3_103 (by decide +kernel) rfl rfl ⟨Nat.le_of_ble_eq_true rfl, Nat.le_of_ble_eq_true rfl⟩) (c_Reader_takeOctet l D cI cB cJ cR h rm rg cf cd ck ca nr sr dl sp wn sk ss sm wf we fl24 pl24 a17 e o N f b (hf24) (hN) (he) (by omega) (hob) H.size) hK hNw hMk hA hP hD hS [2, 0, 1] rfl rfl (by decide) 0 rfl rfl rfl rfl hl.1 rfl (Nat.le_of_ble_eq_true rfl) dX3_takeMark_19 ⟨Nat.le_of_ble_eq_true rfl, Nat.le_of_ble_eq_true rfl⟩) (fun r25 u9 H locs t25 hP hD hS => ?_)
      obtain ⟨v25, fl25, pl25, a25⟩ := u9
      try dsimp only at t25
      have hP : va_P D vwCl [(h, .inr (3, [.ref rm, .ref rg, .ref cf, .ref cd, .ref ck, .ref ca, .ref nr, .ref sr, .ref dl, .ref sp, .int (nI fl25), .int (nI pl25), .int wn, .int sk, .int ss, .int sm, .int wf, .int we])), (cf, .inr (1, [.ref o, .int (nI a25), .int (nI e)])), (o, .inl (cI, N, .inl f))] H := hP
      have hD : va_D A0 [(h, .inr (3, [.ref rm, .ref rg, .ref cf, .ref cd, .ref ck, .ref ca, .ref nr, .ref sr, .ref dl, .ref sp, .int (nI fl25), .int (nI pl25), .int wn, .int sk, .int ss, .int sm, .int wf, .int we])), (cf, .inr (1, [.ref o, .int (nI a25), .int (nI e)])), (o, .inl (cI, N, .inl f))] := hD
      obtain ⟨er25, t25⟩ := t25
      subst er25
      obtain ⟨hf25, hs25, hae25, hv25⟩ := tkO_ok hf24 hae17 (fun j hj => (hob j hj).2) t25
      dsimp only at hs25
      refine va_getsN (ref := "CodedDeltas") (host := "CodedDeltas") hx hb hZ hS hown (va_Nw.use rfl (hNw (.fieldLinkNest RX3 100 "CodedDeltas" "MARK" "[I" "CodedDeltas") (by decide +kernel))) (fun _ h9 => h9) dX3_takeMark_22 ?_
      refine lv_iload_n hx hb dX3_takeMark_25 rfl (lv_at hl 1 rfl) ?_
      refine va_ti hx hb hT hS (vp_in_nI (n := 2) (by decide) (by decide)) (v := .int 196) rfl dX3_takeMark_26 ?_
      refine lv_icmp_eq (tgt := 36) hx hb dX3_takeMark_27 (by decide) (fun c_50 => ?_) (fun c_50 => ?_)
      · have m2 : mk1 b e 196 (fl24, pl24, a17) = (fl25, pl25, a25) := by rw [mk1, t25]; exact flI_f (fun z => z ((nI_eq (b := 196) (by omega) (by decide)).mp c_50))
        refine lv_iinc (v := 3) (lv' := [(1, .int 3), (2, .int (nI a17)), (0, .ref h)]) hx hb dX3_takeMark_36 hl (k := 1) rfl (by decide) (by decide) rfl (fun ls hl => ?_)
        refine lv_goto (tgt := 2) hx hb dX3_takeMark_39 (by decide) ?_
        refine lv_iload_n hx hb dX3_takeMark_2 rfl (lv_at hl 0 rfl) ?_
        refine va_getsN (ref := "CodedDeltas") (host := "CodedDeltas") hx hb hZ hS hown (va_Nw.use rfl (hNw (.fieldLinkNest RX3 100 "CodedDeltas" "MARK" "[I" "CodedDeltas") (by decide +kernel))) (fun _ h9 => h9) dX3_takeMark_3 ?_
        refine va_tlen hx hb hT hS (v := 4) rfl dX3_takeMark_6 ?_
        refine lv_icmp_ge (tgt := 42) hx hb dX3_takeMark_7 (by decide) (fun c_51 => absurd c_51 (by decide)) (fun c_51 => ?_)
        refine lv_aload_n hx hb dX3_takeMark_10 rfl (lv_at hl 2 rfl) ?_
        refine va_get (D := D) (ci := 3) (v := .ref cf) (C := RX3) (T := TX3) (N := 18) hx hb hts in_X3 hown hK hP 0 rfl rfl 2 (by decide) (hts _ kX3_12) (fun _ h9 => h9) rfl dX3_takeMark_11 ?_
        refine va_get (D := D) (ci := 1) (v := .int (nI a25)) (C := RX1) (T := TX1) (N := 3) hx hb hts in_X1 hown hK hP 1 rfl rfl 1 (by decide) (hts _ kX3_94) (fun _ h9 => h9) rfl dX3_takeMark_14 ?_
        refine lv_istore_n (lv' := [(2, .int (nI a25)), (1, .int 3), (0, .ref h)]) hx hb dX3_takeMark_17 rfl hl (by decide) rfl (fun ls hl => ?_)
        refine lv_aload_n hx hb dX3_takeMark_18 rfl (lv_at hl 2 rfl) ?_
        refine jn_i (wr := []) hA hP hD hS [0, 1, 2] [] rfl rfl (by decide) (by decide) (rn_V (As := []) (rest := []) ⟨hx, hb, hml, hown, hts⟩ (cvV 0 hts zc_yX3_takeOctet zi_X3 zm_yX3_takeOctet zv_yX3_takeOctet kX3_103 (by decide +kernel) rfl rfl ⟨Nat.le_of_ble_eq_true rfl, Nat.le_of_ble_eq_true rfl⟩) (c_Reader_takeOctet l D cI cB cJ cR h rm rg cf cd ck ca nr sr dl sp wn sk ss sm wf we fl25 pl25 a25 e o N f b (hf25) (hN) (he) (by omega) (hob) H.size) hK hNw hMk hA hP hD hS [0, 1, 2] rfl rfl (by decide) 0 rfl rfl rfl rfl hl.1 rfl (Nat.le_of_ble_eq_true rfl) dX3_takeMark_19 ⟨Nat.le_of_ble_eq_true rfl, Nat.le_of_ble_eq_true rfl⟩) (fun r26 u9 H locs t26 hP hD hS => ?_)
        obtain ⟨v26, fl26, pl26, a26⟩ := u9
        try dsimp only at t26
        have hP : va_P D vwCl [(h, .inr (3, [.ref rm, .ref rg, .ref cf, .ref cd, .ref ck, .ref ca, .ref nr, .ref sr, .ref dl, .ref sp, .int (nI fl26), .int (nI pl26), .int wn, .int sk, .int ss, .int sm, .int wf, .int we])), (cf, .inr (1, [.ref o, .int (nI a26), .int (nI e)])), (o, .inl (cI, N, .inl f))] H := hP
        have hD : va_D A0 [(h, .inr (3, [.ref rm, .ref rg, .ref cf, .ref cd, .ref ck, .ref ca, .ref nr, .ref sr, .ref dl, .ref sp, .int (nI fl26), .int (nI pl26), .int wn, .int sk, .int ss, .int sm, .int wf, .int we])), (cf, .inr (1, [.ref o, .int (nI a26), .int (nI e)])), (o, .inl (cI, N, .inl f))] := hD
        obtain ⟨er26, t26⟩ := t26
        subst er26
        obtain ⟨hf26, hs26, hae26, hv26⟩ := tkO_ok hf25 hae25 (fun j hj => (hob j hj).2) t26
        dsimp only at hs26
        refine va_getsN (ref := "CodedDeltas") (host := "CodedDeltas") hx hb hZ hS hown (va_Nw.use rfl (hNw (.fieldLinkNest RX3 100 "CodedDeltas" "MARK" "[I" "CodedDeltas") (by decide +kernel))) (fun _ h9 => h9) dX3_takeMark_22 ?_
        refine lv_iload_n hx hb dX3_takeMark_25 rfl (lv_at hl 1 rfl) ?_
        refine va_ti hx hb hT hS (vp_in_nI (n := 3) (by decide) (by decide)) (v := .int 0) rfl dX3_takeMark_26 ?_
        refine lv_icmp_eq (tgt := 36) hx hb dX3_takeMark_27 (by decide) (fun c_52 => ?_) (fun c_52 => ?_)
        · have m3 : mk1 b e 0 (fl25, pl25, a25) = (fl26, pl26, a26) := by rw [mk1, t26]; exact flI_f (fun z => z ((nI_eq (b := 0) (by omega) (by decide)).mp c_52))
          refine lv_iinc (v := 4) (lv' := [(1, .int 4), (2, .int (nI a25)), (0, .ref h)]) hx hb dX3_takeMark_36 hl (k := 1) rfl (by decide) (by decide) rfl (fun ls hl => ?_)
          refine lv_goto (tgt := 2) hx hb dX3_takeMark_39 (by decide) ?_
          refine lv_iload_n hx hb dX3_takeMark_2 rfl (lv_at hl 0 rfl) ?_
          refine va_getsN (ref := "CodedDeltas") (host := "CodedDeltas") hx hb hZ hS hown (va_Nw.use rfl (hNw (.fieldLinkNest RX3 100 "CodedDeltas" "MARK" "[I" "CodedDeltas") (by decide +kernel))) (fun _ h9 => h9) dX3_takeMark_3 ?_
          refine va_tlen hx hb hT hS (v := 4) rfl dX3_takeMark_6 ?_
          refine lv_icmp_ge (tgt := 42) hx hb dX3_takeMark_7 (by decide) (fun c_53 => ?_) (fun c_53 => absurd (by decide) c_53)
          exact hret 42 ls _ _ (fl26, pl26, a26) dX3_takeMark_42 hP hD hS (⟨by rw [tkMark, m0, m1, m2, m3], hf26, by omega, hae26⟩)
        · refine lv_aload_n hx hb dX3_takeMark_30 rfl (lv_at hl 2 rfl) ?_
          refine lv_iconst (v := 2) hx hb dX3_takeMark_31 (by decide) ?_
          refine lv_iload_n hx hb dX3_takeMark_32 rfl (lv_at hl 0 rfl) ?_
          refine jn_v (wr := [(cf, .inr (1, [.ref o, .int (nI a26), .int (nI e)])), (o, .inl (cI, N, .inl f))]) hA hP hD hS [0] [1, 2] rfl rfl (by decide) (by decide) (rn_V (As := [.int (nI 2), .int (nI a25)]) (rest := []) ⟨hx, hb, hml, hown, hts⟩ (cvV 2 hts zc_yX3_fail zi_X3 zm_yX3_fail zv_yX3_fail kX3_90 (by decide +kernel) rfl rfl ⟨Nat.le_of_ble_eq_true rfl, Nat.le_of_ble_eq_true rfl⟩) (c_Reader_fail l D cI cB cJ cR h rm rg cf cd ck ca nr sr dl sp wn sk ss sm wf we fl26 pl26 2 a25 (hf26) H.size) hK hNw hMk hA hP hD hS [0] rfl rfl (by decide) 0 rfl rfl rfl rfl hl.1 rfl (Nat.le_of_ble_eq_true rfl) dX3_takeMark_33 ⟨Nat.le_of_ble_eq_true rfl, Nat.le_of_ble_eq_true rfl⟩) (fun u9 H locs t27 hP hD hS => ?_)
          obtain ⟨fl27, pl27⟩ := u9
          try dsimp only at t27
          have hP : va_P D vwCl [(cf, .inr (1, [.ref o, .int (nI a26), .int (nI e)])), (o, .inl (cI, N, .inl f)), (h, .inr (3, [.ref rm, .ref rg, .ref cf, .ref cd, .ref ck, .ref ca, .ref nr, .ref sr, .ref dl, .ref sp, .int (nI fl27), .int (nI pl27), .int wn, .int sk, .int ss, .int sm, .int wf, .int we]))] H := hP
          have hD : va_D A0 [(cf, .inr (1, [.ref o, .int (nI a26), .int (nI e)])), (o, .inl (cI, N, .inl f)), (h, .inr (3, [.ref rm, .ref rg, .ref cf, .ref cd, .ref ck, .ref ca, .ref nr, .ref sr, .ref dl, .ref sp, .int (nI fl27), .int (nI pl27), .int wn, .int sk, .int ss, .int sm, .int wf, .int we]))] := hD
          have hf27 := fl_ok hf26 (by decide) t27
          have m3 : mk1 b e 0 (fl25, pl25, a25) = (fl27, pl27, a26) := by rw [mk1, t26]; exact flI_t (fun z => c_52 (by rw [show v26 = 0 from z]; rfl)) t27
          refine lv_iinc (v := 4) (lv' := [(1, .int 4), (2, .int (nI a25)), (0, .ref h)]) hx hb dX3_takeMark_36 hl (k := 1) rfl (by decide) (by decide) rfl (fun ls hl => ?_)
          refine lv_goto (tgt := 2) hx hb dX3_takeMark_39 (by decide) ?_
          refine lv_iload_n hx hb dX3_takeMark_2 rfl (lv_at hl 0 rfl) ?_
          refine va_getsN (ref := "CodedDeltas") (host := "CodedDeltas") hx hb hZ hS hown (va_Nw.use rfl (hNw (.fieldLinkNest RX3 100 "CodedDeltas" "MARK" "[I" "CodedDeltas") (by decide +kernel))) (fun _ h9 => h9) dX3_takeMark_3 ?_
          refine va_tlen hx hb hT hS (v := 4) rfl dX3_takeMark_6 ?_
          refine lv_icmp_ge (tgt := 42) hx hb dX3_takeMark_7 (by decide) (fun c_55 => ?_) (fun c_55 => absurd (by decide) c_55)
          have hP := hP.sub (ws' := [(h, .inr (3, [.ref rm, .ref rg, .ref cf, .ref cd, .ref ck, .ref ca, .ref nr, .ref sr, .ref dl, .ref sp, .int (nI fl27), .int (nI pl27), .int wn, .int sk, .int ss, .int sm, .int wf, .int we])), (cf, .inr (1, [.ref o, .int (nI a26), .int (nI e)])), (o, .inl (cI, N, .inl f))]) [2, 0, 1] rfl
          have hD := hD.sub (ws' := [(h, .inr (3, [.ref rm, .ref rg, .ref cf, .ref cd, .ref ck, .ref ca, .ref nr, .ref sr, .ref dl, .ref sp, .int (nI fl27), .int (nI pl27), .int wn, .int sk, .int ss, .int sm, .int wf, .int we])), (cf, .inr (1, [.ref o, .int (nI a26), .int (nI e)])), (o, .inl (cI, N, .inl f))]) [2, 0, 1] (by decide) rfl
          exact hret 42 ls _ _ (fl27, pl27, a26) dX3_takeMark_42 hP hD hS (⟨by rw [tkMark, m0, m1, m2, m3], hf27, by omega, hae26⟩)
      · refine lv_aload_n hx hb dX3_takeMark_30 rfl (lv_at hl 2 rfl) ?_
        refine lv_iconst (v := 2) hx hb dX3_takeMark_31 (by decide) ?_
        refine lv_iload_n hx hb dX3_takeMark_32 rfl (lv_at hl 0 rfl) ?_
        refine jn_v (wr := [(cf, .inr (1, [.ref o, .int (nI a25), .int (nI e)])), (o, .inl (cI, N, .inl f))]) hA hP hD hS [0] [1, 2] rfl rfl (by decide) (by decide) (rn_V (As := [.int (nI 2), .int (nI a17)]) (rest := []) ⟨hx, hb, hml, hown, hts⟩ (cvV 2 hts zc_yX3_fail zi_X3 zm_yX3_fail zv_yX3_fail kX3_90 (by decide +kernel) rfl rfl ⟨Nat.le_of_ble_eq_true rfl, Nat.le_of_ble_eq_true rfl⟩) (c_Reader_fail l D cI cB cJ cR h rm rg cf cd ck ca nr sr dl sp wn sk ss sm wf we fl25 pl25 2 a17 (hf25) H.size) hK hNw hMk hA hP hD hS [0] rfl rfl (by decide) 0 rfl rfl rfl rfl hl.1 rfl (Nat.le_of_ble_eq_true rfl) dX3_takeMark_33 ⟨Nat.le_of_ble_eq_true rfl, Nat.le_of_ble_eq_true rfl⟩) (fun u9 H locs t28 hP hD hS => ?_)
        obtain ⟨fl28, pl28⟩ := u9
        try dsimp only at t28
        have hP : va_P D vwCl [(cf, .inr (1, [.ref o, .int (nI a25), .int (nI e)])), (o, .inl (cI, N, .inl f)), (h, .inr (3, [.ref rm, .ref rg, .ref cf, .ref cd, .ref ck, .ref ca, .ref nr, .ref sr, .ref dl, .ref sp, .int (nI fl28), .int (nI pl28), .int wn, .int sk, .int ss, .int sm, .int wf, .int we]))] H := hP
        have hD : va_D A0 [(cf, .inr (1, [.ref o, .int (nI a25), .int (nI e)])), (o, .inl (cI, N, .inl f)), (h, .inr (3, [.ref rm, .ref rg, .ref cf, .ref cd, .ref ck, .ref ca, .ref nr, .ref sr, .ref dl, .ref sp, .int (nI fl28), .int (nI pl28), .int wn, .int sk, .int ss, .int sm, .int wf, .int we]))] := hD
        have hf28 := fl_ok hf25 (by decide) t28
        have m2 : mk1 b e 196 (fl24, pl24, a17) = (fl28, pl28, a25) := by rw [mk1, t25]; exact flI_t (fun z => c_50 (by rw [show v25 = 196 from z]; rfl)) t28
        refine lv_iinc (v := 3) (lv' := [(1, .int 3), (2, .int (nI a17)), (0, .ref h)]) hx hb dX3_takeMark_36 hl (k := 1) rfl (by decide) (by decide) rfl (fun ls hl => ?_)
        refine lv_goto (tgt := 2) hx hb dX3_takeMark_39 (by decide) ?_
        refine lv_iload_n hx hb dX3_takeMark_2 rfl (lv_at hl 0 rfl) ?_
        refine va_getsN (ref := "CodedDeltas") (host := "CodedDeltas") hx hb hZ hS hown (va_Nw.use rfl (hNw (.fieldLinkNest RX3 100 "CodedDeltas" "MARK" "[I" "CodedDeltas") (by decide +kernel))) (fun _ h9 => h9) dX3_takeMark_3 ?_
        refine va_tlen hx hb hT hS (v := 4) rfl dX3_takeMark_6 ?_
        refine lv_icmp_ge (tgt := 42) hx hb dX3_takeMark_7 (by decide) (fun c_57 => absurd c_57 (by decide)) (fun c_57 => ?_)
        refine lv_aload_n hx hb dX3_takeMark_10 rfl (lv_at hl 2 rfl) ?_
        refine va_get (D := D) (ci := 3) (v := .ref cf) (C := RX3) (T := TX3) (N := 18) hx hb hts in_X3 hown hK hP 2 rfl rfl 2 (by decide) (hts _ kX3_12) (fun _ h9 => h9) rfl dX3_takeMark_11 ?_
        refine va_get (D := D) (ci := 1) (v := .int (nI a25)) (C := RX1) (T := TX1) (N := 3) hx hb hts in_X1 hown hK hP 0 rfl rfl 1 (by decide) (hts _ kX3_94) (fun _ h9 => h9) rfl dX3_takeMark_14 ?_
        refine lv_istore_n (lv' := [(2, .int (nI a25)), (1, .int 3), (0, .ref h)]) hx hb dX3_takeMark_17 rfl hl (by decide) rfl (fun ls hl => ?_)
        refine lv_aload_n hx hb dX3_takeMark_18 rfl (lv_at hl 2 rfl) ?_
        refine jn_i (wr := []) hA hP hD hS [2, 0, 1] [] rfl rfl (by decide) (by decide) (rn_V (As := []) (rest := []) ⟨hx, hb, hml, hown, hts⟩ (cvV 0 hts zc_yX3_takeOctet zi_X3 zm_yX3_takeOctet zv_yX3_takeOctet kX3_103 (by decide +kernel) rfl rfl ⟨Nat.le_of_ble_eq_true rfl, Nat.le_of_ble_eq_true rfl⟩) (c_Reader_takeOctet l D cI cB cJ cR h rm rg cf cd ck ca nr sr dl sp wn sk ss sm wf we fl28 pl28 a25 e o N f b (hf28) (hN) (he) (by omega) (hob) H.size) hK hNw hMk hA hP hD hS [2, 0, 1] rfl rfl (by decide) 0 rfl rfl rfl rfl hl.1 rfl (Nat.le_of_ble_eq_true rfl) dX3_takeMark_19 ⟨Nat.le_of_ble_eq_true rfl, Nat.le_of_ble_eq_true rfl⟩) (fun r29 u9 H locs t29 hP hD hS => ?_)
        obtain ⟨v29, fl29, pl29, a29⟩ := u9
        try dsimp only at t29
        have hP : va_P D vwCl [(h, .inr (3, [.ref rm, .ref rg, .ref cf, .ref cd, .ref ck, .ref ca, .ref nr, .ref sr, .ref dl, .ref sp, .int (nI fl29), .int (nI pl29), .int wn, .int sk, .int ss, .int sm, .int wf, .int we])), (cf, .inr (1, [.ref o, .int (nI a29), .int (nI e)])), (o, .inl (cI, N, .inl f))] H := hP
        have hD : va_D A0 [(h, .inr (3, [.ref rm, .ref rg, .ref cf, .ref cd, .ref ck, .ref ca, .ref nr, .ref sr, .ref dl, .ref sp, .int (nI fl29), .int (nI pl29), .int wn, .int sk, .int ss, .int sm, .int wf, .int we])), (cf, .inr (1, [.ref o, .int (nI a29), .int (nI e)])), (o, .inl (cI, N, .inl f))] := hD
        obtain ⟨er29, t29⟩ := t29
        subst er29
        obtain ⟨hf29, hs29, hae29, hv29⟩ := tkO_ok hf28 hae25 (fun j hj => (hob j hj).2) t29
        dsimp only at hs29
        refine va_getsN (ref := "CodedDeltas") (host := "CodedDeltas") hx hb hZ hS hown (va_Nw.use rfl (hNw (.fieldLinkNest RX3 100 "CodedDeltas" "MARK" "[I" "CodedDeltas") (by decide +kernel))) (fun _ h9 => h9) dX3_takeMark_22 ?_
        refine lv_iload_n hx hb dX3_takeMark_25 rfl (lv_at hl 1 rfl) ?_
        refine va_ti hx hb hT hS (vp_in_nI (n := 3) (by decide) (by decide)) (v := .int 0) rfl dX3_takeMark_26 ?_
        refine lv_icmp_eq (tgt := 36) hx hb dX3_takeMark_27 (by decide) (fun c_58 => ?_) (fun c_58 => ?_)
        · have m3 : mk1 b e 0 (fl28, pl28, a25) = (fl29, pl29, a29) := by rw [mk1, t29]; exact flI_f (fun z => z ((nI_eq (b := 0) (by omega) (by decide)).mp c_58))
          refine lv_iinc (v := 4) (lv' := [(1, .int 4), (2, .int (nI a25)), (0, .ref h)]) hx hb dX3_takeMark_36 hl (k := 1) rfl (by decide) (by decide) rfl (fun ls hl => ?_)
          refine lv_goto (tgt := 2) hx hb dX3_takeMark_39 (by decide) ?_
          refine lv_iload_n hx hb dX3_takeMark_2 rfl (lv_at hl 0 rfl) ?_
          refine va_getsN (ref := "CodedDeltas") (host := "CodedDeltas") hx hb hZ hS hown (va_Nw.use rfl (hNw (.fieldLinkNest RX3 100 "CodedDeltas" "MARK" "[I" "CodedDeltas") (by decide +kernel))) (fun _ h9 => h9) dX3_takeMark_3 ?_
          refine va_tlen hx hb hT hS (v := 4) rfl dX3_takeMark_6 ?_
          refine lv_icmp_ge (tgt := 42) hx hb dX3_takeMark_7 (by decide) (fun c_59 => ?_) (fun c_59 => absurd (by decide) c_59)
          exact hret 42 ls _ _ (fl29, pl29, a29) dX3_takeMark_42 hP hD hS (⟨by rw [tkMark, m0, m1, m2, m3], hf29, by omega, hae29⟩)
        · refine lv_aload_n hx hb dX3_takeMark_30 rfl (lv_at hl 2 rfl) ?_
          refine lv_iconst (v := 2) hx hb dX3_takeMark_31 (by decide) ?_
          refine lv_iload_n hx hb dX3_takeMark_32 rfl (lv_at hl 0 rfl) ?_
          refine jn_v (wr := [(cf, .inr (1, [.ref o, .int (nI a29), .int (nI e)])), (o, .inl (cI, N, .inl f))]) hA hP hD hS [0] [1, 2] rfl rfl (by decide) (by decide) (rn_V (As := [.int (nI 2), .int (nI a25)]) (rest := []) ⟨hx, hb, hml, hown, hts⟩ (cvV 2 hts zc_yX3_fail zi_X3 zm_yX3_fail zv_yX3_fail kX3_90 (by decide +kernel) rfl rfl ⟨Nat.le_of_ble_eq_true rfl, Nat.le_of_ble_eq_true rfl⟩) (c_Reader_fail l D cI cB cJ cR h rm rg cf cd ck ca nr sr dl sp wn sk ss sm wf we fl29 pl29 2 a25 (hf29) H.size) hK hNw hMk hA hP hD hS [0] rfl rfl (by decide) 0 rfl rfl rfl rfl hl.1 rfl (Nat.le_of_ble_eq_true rfl) dX3_takeMark_33 ⟨Nat.le_of_ble_eq_true rfl, Nat.le_of_ble_eq_true rfl⟩) (fun u9 H locs t30 hP hD hS => ?_)
          obtain ⟨fl30, pl30⟩ := u9
          try dsimp only at t30
          have hP : va_P D vwCl [(cf, .inr (1, [.ref o, .int (nI a29), .int (nI e)])), (o, .inl (cI, N, .inl f)), (h, .inr (3, [.ref rm, .ref rg, .ref cf, .ref cd, .ref ck, .ref ca, .ref nr, .ref sr, .ref dl, .ref sp, .int (nI fl30), .int (nI pl30), .int wn, .int sk, .int ss, .int sm, .int wf, .int we]))] H := hP
          have hD : va_D A0 [(cf, .inr (1, [.ref o, .int (nI a29), .int (nI e)])), (o, .inl (cI, N, .inl f)), (h, .inr (3, [.ref rm, .ref rg, .ref cf, .ref cd, .ref ck, .ref ca, .ref nr, .ref sr, .ref dl, .ref sp, .int (nI fl30), .int (nI pl30), .int wn, .int sk, .int ss, .int sm, .int wf, .int we]))] := hD
          have hf30 := fl_ok hf29 (by decide) t30
          have m3 : mk1 b e 0 (fl28, pl28, a25) = (fl30, pl30, a29) := by rw [mk1, t29]; exact flI_t (fun z => c_58 (by rw [show v29 = 0 from z]; rfl)) t30
          refine lv_iinc (v := 4) (lv' := [(1, .int 4), (2, .int (nI a25)), (0, .ref h)]) hx hb dX3_takeMark_36 hl (k := 1) rfl (by decide) (by decide) rfl (fun ls hl => ?_)
          refine lv_goto (tgt := 2) hx hb dX3_takeMark_39 (by decide) ?_
          refine lv_iload_n hx hb dX3_takeMark_2 rfl (lv_at hl 0 rfl) ?_
          refine va_getsN (ref := "CodedDeltas") (host := "CodedDeltas") hx hb hZ hS hown (va_Nw.use rfl (hNw (.fieldLinkNest RX3 100 "CodedDeltas" "MARK" "[I" "CodedDeltas") (by decide +kernel))) (fun _ h9 => h9) dX3_takeMark_3 ?_
          refine va_tlen hx hb hT hS (v := 4) rfl dX3_takeMark_6 ?_
          refine lv_icmp_ge (tgt := 42) hx hb dX3_takeMark_7 (by decide) (fun c_61 => ?_) (fun c_61 => absurd (by decide) c_61)
          have hP := hP.sub (ws' := [(h, .inr (3, [.ref rm, .ref rg, .ref cf, .ref cd, .ref ck, .ref ca, .ref nr, .ref sr, .ref dl, .ref sp, .int (nI fl30), .int (nI pl30), .int wn, .int sk, .int ss, .int sm, .int wf, .int we])), (cf, .inr (1, [.ref o, .int (nI a29), .int (nI e)])), (o, .inl (cI, N, .inl f))]) [2, 0, 1] rfl
          have hD := hD.sub (ws' := [(h, .inr (3, [.ref rm, .ref rg, .ref cf, .ref cd, .ref ck, .ref ca, .ref nr, .ref sr, .ref dl, .ref sp, .int (nI fl30), .int (nI pl30), .int wn, .int sk, .int ss, .int sm, .int wf, .int we])), (cf, .inr (1, [.ref o, .int (nI a29), .int (nI e)])), (o, .inl (cI, N, .inl f))]) [2, 0, 1] (by decide) rfl
          exact hret 42 ls _ _ (fl30, pl30, a29) dX3_takeMark_42 hP hD hS (⟨by rw [tkMark, m0, m1, m2, m3], hf30, by omega, hae29⟩)

set_option maxHeartbeats 4000000 in
set_option maxRecDepth 100000 in
theorem c_Reader_takeKind (l : Launch) (D : va_G) (cI cB cJ cR : ClassId) (h : Nat) (rm : Nat) (rg : Nat) (cf : Nat) (cd : Nat) (ck : Nat) (ca : Nat) (nr : Nat) (sr : Nat) (dl : Nat) (sp : Nat) (wn : Int32) (sk : Int32) (ss : Int32) (sm : Int32) (wf : Int32) (we : Int32) (fl : Nat) (pl : Nat) (a : Nat) (e : Nat) (o : Nat) (N : Nat) (f : Nat → Int32) (b : Nat → Nat) (hfl : fl < 2 ^ 31) (hN : N < 2 ^ 24) (he : e ≤ N) (hae : a ≤ e) (hob : octs f b e) : CMi l yX3_takeKind cX3_takeKind 3 (some .int) ({ frames := 2, cells := 0, slots := 0, locals := 43 }) D (tyA cI cB cJ cR) 0 0 [.ref h] [(h, .inr (3, [.ref rm, .ref rg, .ref cf, .ref cd, .ref ck, .ref ca, .ref nr, .ref sr, .ref dl, .ref sp, .int (nI fl), .int (nI pl), .int wn, .int sk, .int ss, .int sm, .int wf, .int we])), (cf, .inr (1, [.ref o, .int (nI a), .int (nI e)])), (o, .inl (cI, N, .inl f))] (fun (r : Int32) (u9 : Nat × Nat × Nat × Nat) => match u9 with | (v, fl2, pl2, a2) => r = nI v ∧ tkK b e (fl, pl, a) = (v, fl2, pl2, a2) ∧ fl2 < 2 ^ 31 ∧ a ≤ a2 ∧ a2 ≤ e ∧ v < 256) (fun (u9 : Nat × Nat × Nat × Nat) => match u9 with | (v, fl2, pl2, a2) => [(h, .inr (3, [.ref rm, .ref rg, .ref cf, .ref cd, .ref ck, .ref ca, .ref nr, .ref sr, .ref dl, .ref sp, .int (nI fl2), .int (nI pl2), .int wn, .int sk, .int ss, .int sm, .int wf, .int we])), (cf, .inr (1, [.ref o, .int (nI a2), .int (nI e)])), (o, .inl (cI, N, .inl f))]) := by
  refine st_i (cc := cX3_takeKind) (maxL := 3) (by decide) (Nat.le_of_ble_eq_true rfl) ?_
  intro p0 e0 s0 m0 below meth c0 A0 Q0 hBD hret hP hD hS ls hl
  obtain ⟨hx, hb, hml, hown, hts, hnm, hK, hNw, hMk, hA⟩ := hBD
  have hl : lv_has ls 3 [(0, .ref h)] := hl
  have hP : va_P D vwCl [(h, .inr (3, [.ref rm, .ref rg, .ref cf, .ref cd, .ref ck, .ref ca, .ref nr, .ref sr, .ref dl, .ref sp, .int (nI fl), .int (nI pl), .int wn, .int sk, .int ss, .int sm, .int wf, .int we])), (cf, .inr (1, [.ref o, .int (nI a), .int (nI e)])), (o, .inl (cI, N, .inl f))] s0.heap := hP
  have hD : va_D A0 [(h, .inr (3, [.ref rm, .ref rg, .ref cf, .ref cd, .ref ck, .ref ca, .ref nr, .ref sr, .ref dl, .ref sp, .int (nI fl), .int (nI pl), .int wn, .int sk, .int ss, .int sm, .int wf, .int we])), (cf, .inr (1, [.ref o, .int (nI a), .int (nI e)])), (o, .inl (cI, N, .inl f))] := hD
  refine lv_aload_n hx hb dX3_takeKind_0 rfl (lv_at hl 0 rfl) ?_
  refine va_get (D := D) (ci := 3) (v := .ref cf) (C := RX3) (T := TX3) (N := 18) hx hb hts in_X3 hown hK hP 0 rfl rfl 2 (by decide) (hts _ kX3_12) (fun _ h9 => h9) rfl dX3_takeKind_1 ?_
  refine va_get (D := D) (ci := 1) (v := .int (nI a)) (C := RX1) (T := TX1) (N := 3) hx hb hts in_X1 hown hK hP 1 rfl rfl 1 (by decide) (hts _ kX3_94) (fun _ h9 => h9) rfl dX3_takeKind_4 ?_
  refine lv_istore_n (lv' := [(1, .int (nI a)), (0, .ref h)]) hx hb dX3_takeKind_7 rfl hl (by decide) rfl (fun ls hl => ?_)
  refine lv_aload_n hx hb dX3_takeKind_8 rfl (lv_at hl 1 rfl) ?_
  refine jn_i (wr := []) hA hP hD hS [0, 1, 2] [] rfl rfl (by decide) (by decide) (rn_V (As := []) (rest := []) ⟨hx, hb, hml, hown, hts⟩ (cvV 0 hts zc_yX3_takeOctet zi_X3 zm_yX3_takeOctet zv_yX3_takeOctet kX3_103 (by decide +kernel) rfl rfl ⟨Nat.le_of_ble_eq_true rfl, Nat.le_of_ble_eq_true rfl⟩) (c_Reader_takeOctet l D cI cB cJ cR h rm rg cf cd ck ca nr sr dl sp wn sk ss sm wf we fl pl a e o N f b (hfl) (hN) (he) (by omega) (hob) s0.heap.size) hK hNw hMk hA hP hD hS [0, 1, 2] rfl rfl (by decide) 0 rfl rfl rfl rfl hl.1 rfl (Nat.le_of_ble_eq_true rfl) dX3_takeKind_9 ⟨Nat.le_of_ble_eq_true rfl, Nat.le_of_ble_eq_true rfl⟩) (fun r1 u9 H locs t1 hP hD hS => ?_)
  obtain ⟨v1, fl1, pl1, a1⟩ := u9
  try dsimp only at t1
  have hP : va_P D vwCl [(h, .inr (3, [.ref rm, .ref rg, .ref cf, .ref cd, .ref ck, .ref ca, .ref nr, .ref sr, .ref dl, .ref sp, .int (nI fl1), .int (nI pl1), .int wn, .int sk, .int ss, .int sm, .int wf, .int we])), (cf, .inr (1, [.ref o, .int (nI a1), .int (nI e)])), (o, .inl (cI, N, .inl f))] H := hP
  have hD : va_D A0 [(h, .inr (3, [.ref rm, .ref rg, .ref cf, .ref cd, .ref ck, .ref ca, .ref nr, .ref sr, .ref dl, .ref sp, .int (nI fl1), .int (nI pl1), .int wn, .int sk, .int ss, .int sm, .int wf, .int we])), (cf, .inr (1, [.ref o, .int (nI a1), .int (nI e)])), (o, .inl (cI, N, .inl f))] := hD
  obtain ⟨er1, t1⟩ := t1
  subst er1
  obtain ⟨hf1, hs1, hae1, hv1⟩ := tkO_ok hfl hae (fun j hj => (hob j hj).2) t1
  dsimp only at hs1
  refine lv_istore_n (lv' := [(2, .int (nI v1)), (1, .int (nI a)), (0, .ref h)]) hx hb dX3_takeKind_12 rfl hl (by decide) rfl (fun ls hl => ?_)
  refine lv_iload_n hx hb dX3_takeKind_13 rfl (lv_at hl 0 rfl) ?_
  refine lv_if_eq (tgt := 28) hx hb dX3_takeKind_14 (by decide) (fun c_1 => ?_) (fun c_1 => ?_)
  · refine lv_iload_n hx hb dX3_takeKind_28 rfl (lv_at hl 0 rfl) ?_
    exact hret 29 ls _ _ _ (v1, fl1, pl1, a1) dX3_takeKind_29 hP hD hS (⟨rfl, by rw [tkK, t1]; exact congrArg _ (flI_f (fun z => nI_ne0 (Nat.pos_of_ne_zero z.1) (by omega) c_1)), hf1, by omega, hae1, hv1⟩)
  · refine lv_iload_n hx hb dX3_takeKind_17 rfl (lv_at hl 0 rfl) ?_
    refine lv_iconst (v := 2) hx hb dX3_takeKind_18 (by decide) ?_
    refine lv_icmp_eq (tgt := 28) hx hb dX3_takeKind_19 (by decide) (fun c_2 => ?_) (fun c_2 => ?_)
    · refine lv_iload_n hx hb dX3_takeKind_28 rfl (lv_at hl 0 rfl) ?_
      exact hret 29 ls _ _ _ (v1, fl1, pl1, a1) dX3_takeKind_29 hP hD hS (⟨rfl, by rw [tkK, t1]; exact congrArg _ (flI_f (fun z => z.2 ((nI_eq (b := 2) (by omega) (by decide)).mp c_2))), hf1, by omega, hae1, hv1⟩)
    · refine lv_aload_n hx hb dX3_takeKind_22 rfl (lv_at hl 2 rfl) ?_
      refine lv_iconst (v := 3) hx hb dX3_takeKind_23 (by decide) ?_
      refine lv_iload_n hx hb dX3_takeKind_24 rfl (lv_at hl 1 rfl) ?_
      refine jn_v (wr := [(cf, .inr (1, [.ref o, .int (nI a1), .int (nI e)])), (o, .inl (cI, N, .inl f))]) hA hP hD hS [0] [1, 2] rfl rfl (by decide) (by decide) (rn_V (As := [.int (nI 3), .int (nI a)]) (rest := []) ⟨hx, hb, hml, hown, hts⟩ (cvV 2 hts zc_yX3_fail zi_X3 zm_yX3_fail zv_yX3_fail kX3_90 (by decide +kernel) rfl rfl ⟨Nat.le_of_ble_eq_true rfl, Nat.le_of_ble_eq_true rfl⟩) (c_Reader_fail l D cI cB cJ cR h rm rg cf cd ck ca nr sr dl sp wn sk ss sm wf we fl1 pl1 3 a (hf1) H.size) hK hNw hMk hA hP hD hS [0] rfl rfl (by decide) 0 rfl rfl rfl rfl hl.1 rfl (Nat.le_of_ble_eq_true rfl) dX3_takeKind_25 ⟨Nat.le_of_ble_eq_true rfl, Nat.le_of_ble_eq_true rfl⟩) (fun u9 H locs t2 hP hD hS => ?_)
      obtain ⟨fl2, pl2⟩ := u9
      try dsimp only at t2
      have hP : va_P D vwCl [(cf, .inr (1, [.ref o, .int (nI a1), .int (nI e)])), (o, .inl (cI, N, .inl f)), (h, .inr (3, [.ref rm, .ref rg, .ref cf, .ref cd, .ref ck, .ref ca, .ref nr, .ref sr, .ref dl, .ref sp, .int (nI fl2), .int (nI pl2), .int wn, .int sk, .int ss, .int sm, .int wf, .int we]))] H := hP
      have hD : va_D A0 [(cf, .inr (1, [.ref o, .int (nI a1), .int (nI e)])), (o, .inl (cI, N, .inl f)), (h, .inr (3, [.ref rm, .ref rg, .ref cf, .ref cd, .ref ck, .ref ca, .ref nr, .ref sr, .ref dl, .ref sp, .int (nI fl2), .int (nI pl2), .int wn, .int sk, .int ss, .int sm, .int wf, .int we]))] := hD
      have hf2 := fl_ok hf1 (by decide) t2
      refine lv_iload_n hx hb dX3_takeKind_28 rfl (lv_at hl 0 rfl) ?_
      have hP := hP.sub (ws' := [(h, .inr (3, [.ref rm, .ref rg, .ref cf, .ref cd, .ref ck, .ref ca, .ref nr, .ref sr, .ref dl, .ref sp, .int (nI fl2), .int (nI pl2), .int wn, .int sk, .int ss, .int sm, .int wf, .int we])), (cf, .inr (1, [.ref o, .int (nI a1), .int (nI e)])), (o, .inl (cI, N, .inl f))]) [2, 0, 1] rfl
      have hD := hD.sub (ws' := [(h, .inr (3, [.ref rm, .ref rg, .ref cf, .ref cd, .ref ck, .ref ca, .ref nr, .ref sr, .ref dl, .ref sp, .int (nI fl2), .int (nI pl2), .int wn, .int sk, .int ss, .int sm, .int wf, .int we])), (cf, .inr (1, [.ref o, .int (nI a1), .int (nI e)])), (o, .inl (cI, N, .inl f))]) [2, 0, 1] (by decide) rfl
      exact hret 29 ls _ _ _ (v1, fl2, pl2, a1) dX3_takeKind_29 hP hD hS (⟨rfl, by rw [tkK, t1]; exact congrArg _ (flI_t ⟨fun z => c_1 (by rw [show v1 = 0 from z]; decide), fun z => c_2 (by rw [show v1 = 2 from z]; rfl)⟩ t2), hf2, by omega, hae1, hv1⟩)

set_option maxHeartbeats 4000000 in
set_option maxRecDepth 100000 in
theorem c_Reader_takeNoTable (l : Launch) (D : va_G) (cI cB cJ cR : ClassId) (h : Nat) (rm : Nat) (rg : Nat) (cf : Nat) (cd : Nat) (ck : Nat) (ca : Nat) (nr : Nat) (sr : Nat) (dl : Nat) (sp : Nat) (wn : Int32) (sk : Int32) (ss : Int32) (sm : Int32) (wf : Int32) (we : Int32) (fl : Nat) (pl : Nat) (a : Nat) (e : Nat) (o : Nat) (N : Nat) (f : Nat → Int32) (b : Nat → Nat) (hfl : fl < 2 ^ 31) (hN : N < 2 ^ 24) (he : e ≤ N) (hae : a ≤ e) (hob : octs f b e) : CMv l yX3_takeNoTable cX3_takeNoTable 2 none ({ frames := 2, cells := 0, slots := 0, locals := 43 }) D (tyA cI cB cJ cR) 0 0 [.ref h] [(h, .inr (3, [.ref rm, .ref rg, .ref cf, .ref cd, .ref ck, .ref ca, .ref nr, .ref sr, .ref dl, .ref sp, .int (nI fl), .int (nI pl), .int wn, .int sk, .int ss, .int sm, .int wf, .int we])), (cf, .inr (1, [.ref o, .int (nI a), .int (nI e)])), (o, .inl (cI, N, .inl f))] (fun (u9 : Nat × Nat × Nat) => match u9 with | (fl2, pl2, a2) => tkZ b e (fl, pl, a) = (fl2, pl2, a2) ∧ fl2 < 2 ^ 31 ∧ a ≤ a2 ∧ a2 ≤ e) (fun (u9 : Nat × Nat × Nat) => match u9 with | (fl2, pl2, a2) => [(h, .inr (3, [.ref rm, .ref rg, .ref cf, .ref cd, .ref ck, .ref ca, .ref nr, .ref sr, .ref dl, .ref sp, .int (nI fl2), .int (nI pl2), .int wn, .int sk, .int ss, .int sm, .int wf, .int we])), (cf, .inr (1, [.ref o, .int (nI a2), .int (nI e)])), (o, .inl (cI, N, .inl f))]) := by
  refine st_v (cc := cX3_takeNoTable) (maxL := 2) (by decide) (Nat.le_of_ble_eq_true rfl) ?_
  intro p0 e0 s0 m0 below meth c0 A0 Q0 hBD hret hP hD hS ls hl
  obtain ⟨hx, hb, hml, hown, hts, hnm, hK, hNw, hMk, hA⟩ := hBD
  have hl : lv_has ls 2 [(0, .ref h)] := hl
  have hP : va_P D vwCl [(h, .inr (3, [.ref rm, .ref rg, .ref cf, .ref cd, .ref ck, .ref ca, .ref nr, .ref sr, .ref dl, .ref sp, .int (nI fl), .int (nI pl), .int wn, .int sk, .int ss, .int sm, .int wf, .int we])), (cf, .inr (1, [.ref o, .int (nI a), .int (nI e)])), (o, .inl (cI, N, .inl f))] s0.heap := hP
  have hD : va_D A0 [(h, .inr (3, [.ref rm, .ref rg, .ref cf, .ref cd, .ref ck, .ref ca, .ref nr, .ref sr, .ref dl, .ref sp, .int (nI fl), .int (nI pl), .int wn, .int sk, .int ss, .int sm, .int wf, .int we])), (cf, .inr (1, [.ref o, .int (nI a), .int (nI e)])), (o, .inl (cI, N, .inl f))] := hD
  refine lv_aload_n hx hb dX3_takeNoTable_0 rfl (lv_at hl 0 rfl) ?_
  refine va_get (D := D) (ci := 3) (v := .ref cf) (C := RX3) (T := TX3) (N := 18) hx hb hts in_X3 hown hK hP 0 rfl rfl 2 (by decide) (hts _ kX3_12) (fun _ h9 => h9) rfl dX3_takeNoTable_1 ?_
  refine va_get (D := D) (ci := 1) (v := .int (nI a)) (C := RX1) (T := TX1) (N := 3) hx hb hts in_X1 hown hK hP 1 rfl rfl 1 (by decide) (hts _ kX3_94) (fun _ h9 => h9) rfl dX3_takeNoTable_4 ?_
  refine lv_istore_n (lv' := [(1, .int (nI a)), (0, .ref h)]) hx hb dX3_takeNoTable_7 rfl hl (by decide) rfl (fun ls hl => ?_)
  refine lv_aload_n hx hb dX3_takeNoTable_8 rfl (lv_at hl 1 rfl) ?_
  refine jn_i (wr := []) hA hP hD hS [0, 1, 2] [] rfl rfl (by decide) (by decide) (rn_V (As := []) (rest := []) ⟨hx, hb, hml, hown, hts⟩ (cvV 0 hts zc_yX3_takeOctet zi_X3 zm_yX3_takeOctet zv_yX3_takeOctet kX3_103 (by decide +kernel) rfl rfl ⟨Nat.le_of_ble_eq_true rfl, Nat.le_of_ble_eq_true rfl⟩) (c_Reader_takeOctet l D cI cB cJ cR h rm rg cf cd ck ca nr sr dl sp wn sk ss sm wf we fl pl a e o N f b (hfl) (hN) (he) (by omega) (hob) s0.heap.size) hK hNw hMk hA hP hD hS [0, 1, 2] rfl rfl (by decide) 0 rfl rfl rfl rfl hl.1 rfl (Nat.le_of_ble_eq_true rfl) dX3_takeNoTable_9 ⟨Nat.le_of_ble_eq_true rfl, Nat.le_of_ble_eq_true rfl⟩) (fun r1 u9 H locs t1 hP hD hS => ?_)
  obtain ⟨v1, fl1, pl1, a1⟩ := u9
  try dsimp only at t1
  have hP : va_P D vwCl [(h, .inr (3, [.ref rm, .ref rg, .ref cf, .ref cd, .ref ck, .ref ca, .ref nr, .ref sr, .ref dl, .ref sp, .int (nI fl1), .int (nI pl1), .int wn, .int sk, .int ss, .int sm, .int wf, .int we])), (cf, .inr (1, [.ref o, .int (nI a1), .int (nI e)])), (o, .inl (cI, N, .inl f))] H := hP
  have hD : va_D A0 [(h, .inr (3, [.ref rm, .ref rg, .ref cf, .ref cd, .ref ck, .ref ca, .ref nr, .ref sr, .ref dl, .ref sp, .int (nI fl1), .int (nI pl1), .int wn, .int sk, .int ss, .int sm, .int wf, .int we])), (cf, .inr (1, [.ref o, .int (nI a1), .int (nI e)])), (o, .inl (cI, N, .inl f))] := hD
  obtain ⟨er1, t1⟩ := t1
  subst er1
  obtain ⟨hf1, hs1, hae1, hv1⟩ := tkO_ok hfl hae (fun j hj => (hob j hj).2) t1
  dsimp only at hs1
  refine lv_if_eq (tgt := 21) hx hb dX3_takeNoTable_12 (by decide) (fun c_1 => ?_) (fun c_1 => ?_)
  · exact hret 21 ls _ _ (fl1, pl1, a1) dX3_takeNoTable_21 hP hD hS (⟨by rw [tkZ, t1]; exact flI_f (fun z => nI_ne0 (Nat.pos_of_ne_zero z) (by omega) c_1), hf1, by omega, hae1⟩)
  · refine lv_aload_n hx hb dX3_takeNoTable_15 rfl (lv_at hl 1 rfl) ?_
    refine lv_iconst (v := 3) hx hb dX3_takeNoTable_16 (by decide) ?_
    refine lv_iload_n hx hb dX3_takeNoTable_17 rfl (lv_at hl 0 rfl) ?_
    refine jn_v (wr := [(cf, .inr (1, [.ref o, .int (nI a1), .int (nI e)])), (o, .inl (cI, N, .inl f))]) hA hP hD hS [0] [1, 2] rfl rfl (by decide) (by decide) (rn_V (As := [.int (nI 3), .int (nI a)]) (rest := []) ⟨hx, hb, hml, hown, hts⟩ (cvV 2 hts zc_yX3_fail zi_X3 zm_yX3_fail zv_yX3_fail kX3_90 (by decide +kernel) rfl rfl ⟨Nat.le_of_ble_eq_true rfl, Nat.le_of_ble_eq_true rfl⟩) (c_Reader_fail l D cI cB cJ cR h rm rg cf cd ck ca nr sr dl sp wn sk ss sm wf we fl1 pl1 3 a (hf1) H.size) hK hNw hMk hA hP hD hS [0] rfl rfl (by decide) 0 rfl rfl rfl rfl hl.1 rfl (Nat.le_of_ble_eq_true rfl) dX3_takeNoTable_18 ⟨Nat.le_of_ble_eq_true rfl, Nat.le_of_ble_eq_true rfl⟩) (fun u9 H locs t2 hP hD hS => ?_)
    obtain ⟨fl2, pl2⟩ := u9
    try dsimp only at t2
    have hP : va_P D vwCl [(cf, .inr (1, [.ref o, .int (nI a1), .int (nI e)])), (o, .inl (cI, N, .inl f)), (h, .inr (3, [.ref rm, .ref rg, .ref cf, .ref cd, .ref ck, .ref ca, .ref nr, .ref sr, .ref dl, .ref sp, .int (nI fl2), .int (nI pl2), .int wn, .int sk, .int ss, .int sm, .int wf, .int we]))] H := hP
    have hD : va_D A0 [(cf, .inr (1, [.ref o, .int (nI a1), .int (nI e)])), (o, .inl (cI, N, .inl f)), (h, .inr (3, [.ref rm, .ref rg, .ref cf, .ref cd, .ref ck, .ref ca, .ref nr, .ref sr, .ref dl, .ref sp, .int (nI fl2), .int (nI pl2), .int wn, .int sk, .int ss, .int sm, .int wf, .int we]))] := hD
    have hf2 := fl_ok hf1 (by decide) t2
    have hP := hP.sub (ws' := [(h, .inr (3, [.ref rm, .ref rg, .ref cf, .ref cd, .ref ck, .ref ca, .ref nr, .ref sr, .ref dl, .ref sp, .int (nI fl2), .int (nI pl2), .int wn, .int sk, .int ss, .int sm, .int wf, .int we])), (cf, .inr (1, [.ref o, .int (nI a1), .int (nI e)])), (o, .inl (cI, N, .inl f))]) [2, 0, 1] rfl
    have hD := hD.sub (ws' := [(h, .inr (3, [.ref rm, .ref rg, .ref cf, .ref cd, .ref ck, .ref ca, .ref nr, .ref sr, .ref dl, .ref sp, .int (nI fl2), .int (nI pl2), .int wn, .int sk, .int ss, .int sm, .int wf, .int we])), (cf, .inr (1, [.ref o, .int (nI a1), .int (nI e)])), (o, .inl (cI, N, .inl f))]) [2, 0, 1] (by decide) rfl
    exact hret 21 ls _ _ (fl2, pl2, a1) dX3_takeNoTable_21 hP hD hS (⟨by rw [tkZ, t1]; exact flI_t (fun z => c_1 (by rw [show v1 = 0 from z]; decide)) t2, hf2, by omega, hae1⟩)

set_option maxHeartbeats 4000000 in
set_option maxRecDepth 100000 in
theorem c_Reader_skipTable (l : Launch) (D : va_G) (cI cB cJ cR : ClassId) (h : Nat) (rm : Nat) (rg : Nat) (cf : Nat) (cd : Nat) (ck : Nat) (ca : Nat) (nr : Nat) (sr : Nat) (dl : Nat) (sp : Nat) (wn : Int32) (sk : Int32) (ss : Int32) (sm : Int32) (wf : Int32) (we : Int32) (fl : Nat) (pl : Nat) (a : Nat) (e : Nat) (o : Nat) (N : Nat) (f : Nat → Int32) (b : Nat → Nat) (sz : Nat) (rt : Bool) (hfl : fl < 2 ^ 31) (hN : N < 2 ^ 24) (he : e ≤ N) (hae : a ≤ e) (hob : octs f b e) (hsz : a + sz ≤ e) : CMv l yX3_skipTable cX3_skipTable 3 none ({ frames := 1, cells := 0, slots := 0, locals := 22 }) D (tyA cI cB cJ cR) 0 0 [.ref h, .int (nI sz), .int (bI rt)] [(h, .inr (3, [.ref rm, .ref rg, .ref cf, .ref cd, .ref ck, .ref ca, .ref nr, .ref sr, .ref dl, .ref sp, .int (nI fl), .int (nI pl), .int wn, .int sk, .int ss, .int sm, .int wf, .int we])), (cf, .inr (1, [.ref o, .int (nI a), .int (nI e)])), (o, .inl (cI, N, .inl f))] (fun (u9 : Nat × Nat) => match u9 with | (fl2, pl2) => (fl2, pl2) = (if rt = false then (if fl = 0 then (18, a) else (fl, pl)) else (fl, pl)) ∧ fl2 < 2 ^ 31) (fun (u9 : Nat × Nat) => match u9 with | (fl2, pl2) => [(h, .inr (3, [.ref rm, .ref rg, .ref cf, .ref cd, .ref ck, .ref ca, .ref nr, .ref sr, .ref dl, .ref sp, .int (nI fl2), .int (nI pl2), .int wn, .int sk, .int ss, .int sm, .int wf, .int we])), (cf, .inr (1, [.ref o, .int (nI (a + sz)), .int (nI e)])), (o, .inl (cI, N, .inl f))]) := by
  refine st_v (cc := cX3_skipTable) (maxL := 3) (by decide) (Nat.le_of_ble_eq_true rfl) ?_
  intro p0 e0 s0 m0 below meth c0 A0 Q0 hBD hret hP hD hS ls hl
  obtain ⟨hx, hb, hml, hown, hts, hnm, hK, hNw, hMk, hA⟩ := hBD
  have hl : lv_has ls 3 [(0, .ref h), (1, .int (nI sz)), (2, .int (bI rt))] := hl
  have hP : va_P D vwCl [(h, .inr (3, [.ref rm, .ref rg, .ref cf, .ref cd, .ref ck, .ref ca, .ref nr, .ref sr, .ref dl, .ref sp, .int (nI fl), .int (nI pl), .int wn, .int sk, .int ss, .int sm, .int wf, .int we])), (cf, .inr (1, [.ref o, .int (nI a), .int (nI e)])), (o, .inl (cI, N, .inl f))] s0.heap := hP
  have hD : va_D A0 [(h, .inr (3, [.ref rm, .ref rg, .ref cf, .ref cd, .ref ck, .ref ca, .ref nr, .ref sr, .ref dl, .ref sp, .int (nI fl), .int (nI pl), .int wn, .int sk, .int ss, .int sm, .int wf, .int we])), (cf, .inr (1, [.ref o, .int (nI a), .int (nI e)])), (o, .inl (cI, N, .inl f))] := hD
  refine lv_iload_n hx hb dX3_skipTable_0 rfl (lv_at hl 2 rfl) ?_
  refine bz_ne (tgt := 17) hx hb dX3_skipTable_1 (by decide) (fun c_1 => ?_) (fun c_1 => ?_)
  · refine lv_aload_n hx hb dX3_skipTable_17 rfl (lv_at hl 0 rfl) ?_
    refine va_get (D := D) (ci := 3) (v := .ref cf) (C := RX3) (T := TX3) (N := 18) hx hb hts in_X3 hown hK hP 0 rfl rfl 2 (by decide) (hts _ kX3_12) (fun _ h9 => h9) rfl dX3_skipTable_18 ?_
    refine lv_dup hx hb dX3_skipTable_21 rfl ?_
    refine va_get (D := D) (ci := 1) (v := .int (nI a)) (C := RX1) (T := TX1) (N := 3) hx hb hts in_X1 hown hK hP 1 rfl rfl 1 (by decide) (hts _ kX3_94) (fun _ h9 => h9) rfl dX3_skipTable_22 ?_
    refine lv_iload_n hx hb dX3_skipTable_25 rfl (lv_at hl 1 rfl) ?_
    refine lv_iadd hx hb dX3_skipTable_26 ?_
    refine ri (y := nI (a + sz)) (nI_add a sz) ?_
    refine va_put (D := D) (ci := 1) (v := .int (nI (a + sz))) (ty := .int) (C := RX1) (T := TX1) (N := 3) hx hb hts in_X1 tyX1 tyX1_ok nmX1 hown hK hP hD hS 1 rfl rfl 1 (by decide) (hts _ kX3_94) (fun _ h9 => h9) rfl (by decide +kernel) rfl rfl (Nat.le_of_ble_eq_true rfl) dX3_skipTable_27 (fun H locs hP hD hS => ?_)
    have hP : va_P D vwCl [(h, .inr (3, [.ref rm, .ref rg, .ref cf, .ref cd, .ref ck, .ref ca, .ref nr, .ref sr, .ref dl, .ref sp, .int (nI fl), .int (nI pl), .int wn, .int sk, .int ss, .int sm, .int wf, .int we])), (cf, .inr (1, [.ref o, .int (nI (a + sz)), .int (nI e)])), (o, .inl (cI, N, .inl f))] H := hP
    have hD : va_D A0 [(h, .inr (3, [.ref rm, .ref rg, .ref cf, .ref cd, .ref ck, .ref ca, .ref nr, .ref sr, .ref dl, .ref sp, .int (nI fl), .int (nI pl), .int wn, .int sk, .int ss, .int sm, .int wf, .int we])), (cf, .inr (1, [.ref o, .int (nI (a + sz)), .int (nI e)])), (o, .inl (cI, N, .inl f))] := hD
    exact hret 30 ls _ _ (fl, pl) dX3_skipTable_30 hP hD hS (⟨by rw [c_1]; rfl, hfl⟩)
  · refine lv_aload_n hx hb dX3_skipTable_4 rfl (lv_at hl 0 rfl) ?_
    refine lv_bipush (v := 18) hx hb dX3_skipTable_5 (by decide) ?_
    refine lv_aload_n hx hb dX3_skipTable_7 rfl (lv_at hl 0 rfl) ?_
    refine va_get (D := D) (ci := 3) (v := .ref cf) (C := RX3) (T := TX3) (N := 18) hx hb hts in_X3 hown hK hP 0 rfl rfl 2 (by decide) (hts _ kX3_12) (fun _ h9 => h9) rfl dX3_skipTable_8 ?_
    refine va_get (D := D) (ci := 1) (v := .int (nI a)) (C := RX1) (T := TX1) (N := 3) hx hb hts in_X1 hown hK hP 1 rfl rfl 1 (by decide) (hts _ kX3_94) (fun _ h9 => h9) rfl dX3_skipTable_11 ?_
    refine jn_v (wr := [(cf, .inr (1, [.ref o, .int (nI a), .int (nI e)])), (o, .inl (cI, N, .inl f))]) hA hP hD hS [0] [1, 2] rfl rfl (by decide) (by decide) (rn_V (As := [.int (nI 18), .int (nI a)]) (rest := []) ⟨hx, hb, hml, hown, hts⟩ (cvV 2 hts zc_yX3_fail zi_X3 zm_yX3_fail zv_yX3_fail kX3_90 (by decide +kernel) rfl rfl ⟨Nat.le_of_ble_eq_true rfl, Nat.le_of_ble_eq_true rfl⟩) (c_Reader_fail l D cI cB cJ cR h rm rg cf cd ck ca nr sr dl sp wn sk ss sm wf we fl pl 18 a (hfl) s0.heap.size) hK hNw hMk hA hP hD hS [0] rfl rfl (by decide) 0 rfl rfl rfl rfl hl.1 rfl (Nat.le_of_ble_eq_true rfl) dX3_skipTable_14 ⟨Nat.le_of_ble_eq_true rfl, Nat.le_of_ble_eq_true rfl⟩) (fun u9 H locs t1 hP hD hS => ?_)
    obtain ⟨fl1, pl1⟩ := u9
    try dsimp only at t1
    have hP : va_P D vwCl [(cf, .inr (1, [.ref o, .int (nI a), .int (nI e)])), (o, .inl (cI, N, .inl f)), (h, .inr (3, [.ref rm, .ref rg, .ref cf, .ref cd, .ref ck, .ref ca, .ref nr, .ref sr, .ref dl, .ref sp, .int (nI fl1), .int (nI pl1), .int wn, .int sk, .int ss, .int sm, .int wf, .int we]))] H := hP
    have hD : va_D A0 [(cf, .inr (1, [.ref o, .int (nI a), .int (nI e)])), (o, .inl (cI, N, .inl f)), (h, .inr (3, [.ref rm, .ref rg, .ref cf, .ref cd, .ref ck, .ref ca, .ref nr, .ref sr, .ref dl, .ref sp, .int (nI fl1), .int (nI pl1), .int wn, .int sk, .int ss, .int sm, .int wf, .int we]))] := hD
    have hf1 := fl_ok hfl (by decide) t1
    refine lv_aload_n hx hb dX3_skipTable_17 rfl (lv_at hl 0 rfl) ?_
    refine va_get (D := D) (ci := 3) (v := .ref cf) (C := RX3) (T := TX3) (N := 18) hx hb hts in_X3 hown hK hP 2 rfl rfl 2 (by decide) (hts _ kX3_12) (fun _ h9 => h9) rfl dX3_skipTable_18 ?_
    refine lv_dup hx hb dX3_skipTable_21 rfl ?_
    refine va_get (D := D) (ci := 1) (v := .int (nI a)) (C := RX1) (T := TX1) (N := 3) hx hb hts in_X1 hown hK hP 0 rfl rfl 1 (by decide) (hts _ kX3_94) (fun _ h9 => h9) rfl dX3_skipTable_22 ?_
    refine lv_iload_n hx hb dX3_skipTable_25 rfl (lv_at hl 1 rfl) ?_
    refine lv_iadd hx hb dX3_skipTable_26 ?_
    refine ri (y := nI (a + sz)) (nI_add a sz) ?_
    refine va_put (D := D) (ci := 1) (v := .int (nI (a + sz))) (ty := .int) (C := RX1) (T := TX1) (N := 3) hx hb hts in_X1 tyX1 tyX1_ok nmX1 hown hK hP hD hS 0 rfl rfl 1 (by decide) (hts _ kX3_94) (fun _ h9 => h9) rfl (by decide +kernel) rfl rfl (Nat.le_of_ble_eq_true rfl) dX3_skipTable_27 (fun H locs hP hD hS => ?_)
    have hP : va_P D vwCl [(cf, .inr (1, [.ref o, .int (nI (a + sz)), .int (nI e)])), (o, .inl (cI, N, .inl f)), (h, .inr (3, [.ref rm, .ref rg, .ref cf, .ref cd, .ref ck, .ref ca, .ref nr, .ref sr, .ref dl, .ref sp, .int (nI fl1), .int (nI pl1), .int wn, .int sk, .int ss, .int sm, .int wf, .int we]))] H := hP
    have hD : va_D A0 [(cf, .inr (1, [.ref o, .int (nI (a + sz)), .int (nI e)])), (o, .inl (cI, N, .inl f)), (h, .inr (3, [.ref rm, .ref rg, .ref cf, .ref cd, .ref ck, .ref ca, .ref nr, .ref sr, .ref dl, .ref sp, .int (nI fl1), .int (nI pl1), .int wn, .int sk, .int ss, .int sm, .int wf, .int we]))] := hD
    have hP := hP.sub (ws' := [(h, .inr (3, [.ref rm, .ref rg, .ref cf, .ref cd, .ref ck, .ref ca, .ref nr, .ref sr, .ref dl, .ref sp, .int (nI fl1), .int (nI pl1), .int wn, .int sk, .int ss, .int sm, .int wf, .int we])), (cf, .inr (1, [.ref o, .int (nI (a + sz)), .int (nI e)])), (o, .inl (cI, N, .inl f))]) [2, 0, 1] rfl
    have hD := hD.sub (ws' := [(h, .inr (3, [.ref rm, .ref rg, .ref cf, .ref cd, .ref ck, .ref ca, .ref nr, .ref sr, .ref dl, .ref sp, .int (nI fl1), .int (nI pl1), .int wn, .int sk, .int ss, .int sm, .int wf, .int we])), (cf, .inr (1, [.ref o, .int (nI (a + sz)), .int (nI e)])), (o, .inl (cI, N, .inl f))]) [2, 0, 1] (by decide) rfl
    exact hret 30 ls _ _ (fl1, pl1) dX3_skipTable_30 hP hD hS (⟨by rw [c_1, if_pos rfl]; exact t1, hf1⟩)
