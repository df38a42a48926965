/-! WHAT IS MADE: octets, where they come from, how many -/
abbrev MS : Type := (Nat → Nat) × (Nat → Int32) × Nat
def pushM (m : MS) (v : Nat) (o : Int32) : MS := (va_up m.1 m.2.2 v, va_up m.2.1 m.2.2 o, m.2.2 + 1)
def addM (b : Nat → Nat) : Nat → Nat → MS → MS
  | 0, _, m => m
  | k + 1, d, m => addM b k (d + 1) (pushM m (b d) (-1))
def runM (v : Nat) : Nat → MS → MS
  | 0, m => m
  | k + 1, m => runM v k (pushM m v (-1))
def cpx (sk ss sm wf : Nat) (sB : Nat → Nat) (sG : Nat → Int32) (x : Nat) (m : MS) : MS := if x < ss ∧ sk = 1 then pushM m (sB (sm + x)) (sG (sm + x)) else pushM m (m.1 (if x < ss then sm + x else wf + x - ss)) (m.2.1 (if x < ss then sm + x else wf + x - ss))
def cpM (sk ss sm wf : Nat) (sB : Nat → Nat) (sG : Nat → Int32) : Nat → Nat → MS → MS
  | 0, _, m => m
  | k + 1, x, m => cpM sk ss sm wf sB sG k (x + 1) (cpx sk ss sm wf sB sG x m)
theorem cpx_n {sk ss sm wf : Nat} {sB : Nat → Nat} {sG : Nat → Int32} {x : Nat} {m : MS} : (cpx sk ss sm wf sB sG x m).2.2 = m.2.2 + 1 := by unfold cpx; split <;> rfl
theorem cpM_n {sk ss sm wf : Nat} {sB : Nat → Nat} {sG : Nat → Int32} : ∀ (k x : Nat) (m : MS), (cpM sk ss sm wf sB sG k x m).2.2 = m.2.2 + k
  | 0, _, _ => rfl
  | k + 1, x, m => by rw [cpM, cpM_n k, cpx_n]; omega
theorem addM_n {b : Nat → Nat} : ∀ (k d : Nat) (m : MS), (addM b k d m).2.2 = m.2.2 + k
  | 0, _, _ => rfl
  | k + 1, d, m => by rw [addM, addM_n k]; show m.2.2 + 1 + k = _; omega
theorem runM_n {v : Nat} : ∀ (k : Nat) (m : MS), (runM v k m).2.2 = m.2.2 + k
  | 0, _ => rfl
  | k + 1, m => by rw [runM, runM_n k]; show m.2.2 + 1 + k = _; omega
theorem addM_s {b : Nat → Nat} : ∀ (k d : Nat) (m : MS), addM b (k + 1) d m = pushM (addM b k d m) (b (d + k)) (-1)
  | 0, _, _ => rfl
  | k + 1, d, m => by rw [addM, addM_s k, addM, show d + 1 + k = d + (k + 1) by omega]
theorem runM_s {v : Nat} : ∀ (k : Nat) (m : MS), runM v (k + 1) m = pushM (runM v k m) v (-1)
  | 0, _ => rfl
  | k + 1, m => by rw [runM, runM_s k, runM]
theorem cpM_s {sk ss sm wf : Nat} {sB : Nat → Nat} {sG : Nat → Int32} : ∀ (k x : Nat) (m : MS), cpM sk ss sm wf sB sG (k + 1) x m = cpx sk ss sm wf sB sG (x + k) (cpM sk ss sm wf sB sG k x m)
  | 0, _, _ => rfl
  | k + 1, x, m => by rw [cpM, cpM_s k, cpM, show x + 1 + k = x + (k + 1) by omega]
def madeIs (mf gf : Nat → Int32) (m : MS) : Prop := ∀ j, j < m.2.2 → mf j = nI (m.1 j) ∧ m.1 j < 256 ∧ gf j = m.2.1 j
theorem made_push {mf gf : Nat → Int32} {m : MS} {v : Nat} {o : Int32} (h : madeIs mf gf m) (hv : v < 256) : madeIs (upd mf m.2.2 (nI v)) (upd gf m.2.2 o) (pushM m v o) := by
  intro j hj
  by_cases q : j = m.2.2
  · subst q; simp only [pushM]; rw [pk_us, pk_us, va_up_self, va_up_self]; exact ⟨rfl, hv, rfl⟩
  · simp only [pushM]; rw [pk_un q, pk_un q, va_up_ne _ _ q, va_up_ne _ _ q]
    exact h j (by have : j < m.2.2 + 1 := hj; omega)
def needD (kd z : Nat) : Nat := if kd = 2 then 1 else z
def datM (b : Nat → Nat) (kd z da : Nat) (m : MS) : MS := if kd = 2 then runM (b da) z m else addM b z da m
theorem datM_n {b : Nat → Nat} {kd z da : Nat} {m : MS} : (datM b kd z da m).2.2 = m.2.2 + z := by unfold datM; split; exact runM_n _ _; exact addM_n _ _ _
set_option maxHeartbeats 4000000 in
set_option maxRecDepth 100000 in
theorem c_Reader_makeFrom (l : Launch) (D : va_G) (cI cB cJ cR : ClassId) (h : Nat) (rm : Nat) (rg : Nat) (cf : Nat) (cd : Nat) (ck : Nat) (ca : Nat) (nr : Nat) (sr : Nat) (dl : Nat) (sp : Nat) (wn : Int32) (we : Int32) (fl : Nat) (pl : Nat) (kk : Nat) (zz : Nat) (ff : Nat) (ww : Nat) (so : Nat) (SN : Nat) (sn : Nat) (sf : Nat → Int32) (sv : Int32) (sB : Nat → Nat) (mo : Nat) (MN : Nat) (mn : Nat) (mf : Nat → Int32) (mv : Int32) (gf : Nat → Int32) (B : Nat → Nat) (G : Nat → Int32) (x : Nat) (hMN : MN < 2 ^ 24) (hmn : mn < MN) (hSN : SN < 2 ^ 24) (hsn : sn ≤ SN) (hos : octs sf sB sn) (hm : madeIs mf gf (B, G, mn)) (hx0 : x < 2 ^ 25) (hff : ff < 2 ^ 25) (hww : ww < 2 ^ 25) (hzz : zz < 2 ^ 25) (hx1 : x < zz → kk = 1 → ff + x < sn) (hx2 : x < zz → ¬ kk = 1 → ff + x < mn) (hx3 : ¬ x < zz → ww + x - zz < mn) (hk3 : kk < 256) : CMv l yX3_makeFrom cX3_makeFrom 3 none ({ frames := 1, cells := 0, slots := 0, locals := 23 }) D (tyA cI cB cJ cR) 0 0 [.ref h, .int (nI x)] [(h, .inr (3, [.ref rm, .ref rg, .ref cf, .ref cd, .ref ck, .ref ca, .ref nr, .ref sr, .ref dl, .ref sp, .int (nI fl), .int (nI pl), .int wn, .int (nI kk), .int (nI zz), .int (nI ff), .int (nI ww), .int we])), (sr, .inr (4, [.ref so, .int (nI sn), .int sv])), (so, .inl (cI, SN, .inl sf)), (rm, .inr (4, [.ref mo, .int (nI mn), .int mv])), (mo, .inl (cI, MN, .inl mf)), (rg, .inl (cI, MN, .inl gf))] (fun (u9 : (Nat → Int32) × (Nat → Int32)) => match u9 with | (mf2, gf2) => madeIs mf2 gf2 (cpx kk zz ff ww sB (fun i => nI i) x (B, G, mn))) (fun (u9 : (Nat → Int32) × (Nat → Int32)) => match u9 with | (mf2, gf2) => [(h, .inr (3, [.ref rm, .ref rg, .ref cf, .ref cd, .ref ck, .ref ca, .ref nr, .ref sr, .ref dl, .ref sp, .int (nI fl), .int (nI pl), .int wn, .int (nI kk), .int (nI zz), .int (nI ff), .int (nI ww), .int we])), (sr, .inr (4, [.ref so, .int (nI sn), .int sv])), (so, .inl (cI, SN, .inl sf)), (rm, .inr (4, [.ref mo, .int (nI (mn + 1)), .int mv])), (mo, .inl (cI, MN, .inl mf2)), (rg, .inl (cI, MN, .inl gf2))]) := by
  refine st_v (cc := cX3_makeFrom) (maxL := 3) (by decide) (Nat.le_of_ble_eq_true rfl) ?_
  intro p0 e0 s0 m0 below meth c0 A0 Q0 hBD hret hP hD hS ls hl
  obtain ⟨hx, hb, hml, hown, hts, hnm, hK, hNw, hMk, hA⟩ := hBD
  have hl : lv_has ls 3 [(0, .ref h), (1, .int (nI x))] := hl
  have hP : va_P D vwCl [(h, .inr (3, [.ref rm, .ref rg, .ref cf, .ref cd, .ref ck, .ref ca, .ref nr, .ref sr, .ref dl, .ref sp, .int (nI fl), .int (nI pl), .int wn, .int (nI kk), .int (nI zz), .int (nI ff), .int (nI ww), .int we])), (sr, .inr (4, [.ref so, .int (nI sn), .int sv])), (so, .inl (cI, SN, .inl sf)), (rm, .inr (4, [.ref mo, .int (nI mn), .int mv])), (mo, .inl (cI, MN, .inl mf)), (rg, .inl (cI, MN, .inl gf))] s0.heap := hP
  have hD : va_D A0 [(h, .inr (3, [.ref rm, .ref rg, .ref cf, .ref cd, .ref ck, .ref ca, .ref nr, .ref sr, .ref dl, .ref sp, .int (nI fl), .int (nI pl), .int wn, .int (nI kk), .int (nI zz), .int (nI ff), .int (nI ww), .int we])), (sr, .inr (4, [.ref so, .int (nI sn), .int sv])), (so, .inl (cI, SN, .inl sf)), (rm, .inr (4, [.ref mo, .int (nI mn), .int mv])), (mo, .inl (cI, MN, .inl mf)), (rg, .inl (cI, MN, .inl gf))] := hD
  refine lv_aload_n hx hb dX3_makeFrom_0 rfl (lv_at hl 0 rfl) ?_
  refine va_get (D := D) (ci := 3) (v := .int (nI ff)) (C := RX3) (T := TX3) (N := 18) hx hb hts in_X3 hown hK hP 0 rfl rfl 15 (by decide) (hts _ kX3_143) (fun _ h9 => h9) rfl dX3_makeFrom_1 ?_
  refine lv_iload_n hx hb dX3_makeFrom_4 rfl (lv_at hl 1 rfl) ?_
  refine lv_iadd hx hb dX3_makeFrom_5 ?_
  refine ri (y := nI (ff + x)) (nI_add ff x) ?_
  refine lv_istore_n (lv' := [(2, .int (nI (ff + x))), (0, .ref h), (1, .int (nI x))]) hx hb dX3_makeFrom_6 rfl hl (by decide) rfl (fun ls hl => ?_)
  refine lv_iload_n hx hb dX3_makeFrom_7 rfl (lv_at hl 2 rfl) ?_
  refine lv_aload_n hx hb dX3_makeFrom_8 rfl (lv_at hl 1 rfl) ?_
  refine va_get (D := D) (ci := 3) (v := .int (nI zz)) (C := RX3) (T := TX3) (N := 18) hx hb hts in_X3 hown hK hP 0 rfl rfl 14 (by decide) (hts _ kX3_140) (fun _ h9 => h9) rfl dX3_makeFrom_9 ?_
  refine lv_icmp_ge (tgt := 37) hx hb dX3_makeFrom_12 (by decide) (fun c_1 => ?_) (fun c_1 => ?_)
  · have hz : ¬ x < zz := Nat.not_lt.mpr ((nI_leI (by omega) (by omega)).mp c_1)
    have hx4 := hx3 hz
    refine lv_iload_n hx hb dX3_makeFrom_37 rfl (lv_at hl 2 rfl) ?_
    refine lv_aload_n hx hb dX3_makeFrom_38 rfl (lv_at hl 1 rfl) ?_
    refine va_get (D := D) (ci := 3) (v := .int (nI zz)) (C := RX3) (T := TX3) (N := 18) hx hb hts in_X3 hown hK hP 0 rfl rfl 14 (by decide) (hts _ kX3_140) (fun _ h9 => h9) rfl dX3_makeFrom_39 ?_
    refine lv_icmp_lt (tgt := 57) hx hb dX3_makeFrom_42 (by decide) (fun c_2 => absurd c_2 (nI_nlt (by omega) (by omega))) (fun c_2 => ?_)
    refine lv_aload_n hx hb dX3_makeFrom_45 rfl (lv_at hl 1 rfl) ?_
    refine va_get (D := D) (ci := 3) (v := .int (nI ww)) (C := RX3) (T := TX3) (N := 18) hx hb hts in_X3 hown hK hP 0 rfl rfl 16 (by decide) (hts _ kX3_152) (fun _ h9 => h9) rfl dX3_makeFrom_46 ?_
    refine lv_iload_n hx hb dX3_makeFrom_49 rfl (lv_at hl 2 rfl) ?_
    refine lv_iadd hx hb dX3_makeFrom_50 ?_
    refine ri (y := nI (ww + x)) (nI_add ww x) ?_
    refine lv_aload_n hx hb dX3_makeFrom_51 rfl (lv_at hl 1 rfl) ?_
    refine va_get (D := D) (ci := 3) (v := .int (nI zz)) (C := RX3) (T := TX3) (N := 18) hx hb hts in_X3 hown hK hP 0 rfl rfl 14 (by decide) (hts _ kX3_140) (fun _ h9 => h9) rfl dX3_makeFrom_52 ?_
    refine lv_isub hx hb dX3_makeFrom_55 ?_
    refine ri (y := nI (ww + x - zz)) (pk_sub (by omega)) ?_
    refine lv_istore_n (lv' := [(2, .int (nI (ww + x - zz))), (0, .ref h), (1, .int (nI x))]) hx hb dX3_makeFrom_56 rfl hl (by decide) rfl (fun ls hl => ?_)
    refine lv_aload_n hx hb dX3_makeFrom_57 rfl (lv_at hl 1 rfl) ?_
    refine va_get (D := D) (ci := 3) (v := .ref rm) (C := RX3) (T := TX3) (N := 18) hx hb hts in_X3 hown hK hP 0 rfl rfl 0 (by decide) (hts _ kX3_39) (fun _ h9 => h9) rfl dX3_makeFrom_58 ?_
    refine lv_iload_n hx hb dX3_makeFrom_61 rfl (lv_at hl 0 rfl) ?_
    refine jn_i (wr := [(h, .inr (3, [.ref rm, .ref rg, .ref cf, .ref cd, .ref ck, .ref ca, .ref nr, .ref sr, .ref dl, .ref sp, .int (nI fl), .int (nI pl), .int wn, .int (nI kk), .int (nI zz), .int (nI ff), .int (nI ww), .int we])), (sr, .inr (4, [.ref so, .int (nI sn), .int sv])), (so, .inl (cI, SN, .inl sf)), (rg, .inl (cI, MN, .inl gf))]) hA hP hD hS [3, 4] [0, 1, 2, 5] rfl rfl (by decide) (by decide) (rn_V (As := [.int (nI (ww + x - zz))]) (rest := []) ⟨hx, hb, hml, hown, hts⟩ (cvV 1 hts zc_yX4_has zi_X4 zm_yX4_has zv_yX4_has kX3_200 (by decide +kernel) rfl rfl ⟨Nat.le_of_ble_eq_true rfl, Nat.le_of_ble_eq_true rfl⟩) (c_Row_has l D cI cB cJ cR rm mo MN mn mf mv (nI (ww + x - zz))  s0.heap.size) hK hNw hMk hA hP hD hS [3, 4] rfl rfl (by decide) 0 rfl rfl rfl rfl hl.1 rfl (Nat.le_of_ble_eq_true rfl) dX3_makeFrom_62 ⟨Nat.le_of_ble_eq_true rfl, Nat.le_of_ble_eq_true rfl⟩) (fun hh u9 H locs hhw hP hD hS => ?_)
    obtain ⟨hhb, rfl, hhw⟩ := hhw
    try dsimp only at hhw
    have hP : va_P D vwCl [(h, .inr (3, [.ref rm, .ref rg, .ref cf, .ref cd, .ref ck, .ref ca, .ref nr, .ref sr, .ref dl, .ref sp, .int (nI fl), .int (nI pl), .int wn, .int (nI kk), .int (nI zz), .int (nI ff), .int (nI ww), .int we])), (sr, .inr (4, [.ref so, .int (nI sn), .int sv])), (so, .inl (cI, SN, .inl sf)), (rg, .inl (cI, MN, .inl gf)), (rm, .inr (4, [.ref mo, .int (nI mn), .int mv])), (mo, .inl (cI, MN, .inl mf))] H := hP
    have hD : va_D A0 [(h, .inr (3, [.ref rm, .ref rg, .ref cf, .ref cd, .ref ck, .ref ca, .ref nr, .ref sr, .ref dl, .ref sp, .int (nI fl), .int (nI pl), .int wn, .int (nI kk), .int (nI zz), .int (nI ff), .int (nI ww), .int we])), (sr, .inr (4, [.ref so, .int (nI sn), .int sv])), (so, .inl (cI, SN, .inl sf)), (rg, .inl (cI, MN, .inl gf)), (rm, .inr (4, [.ref mo, .int (nI mn), .int mv])), (mo, .inl (cI, MN, .inl mf))] := hD
    have hb9 : hhb = true := hhw.trans (inB_t (hx4) (by omega))
    subst hb9
    refine lv_if_eq (tgt := 86) hx hb dX3_makeFrom_65 (by decide) (fun c9 => absurd c9 (by decide)) (fun _ => ?_)
    refine lv_aload_n hx hb dX3_makeFrom_68 rfl (lv_at hl 1 rfl) ?_
    refine lv_aload_n hx hb dX3_makeFrom_69 rfl (lv_at hl 1 rfl) ?_
    refine va_get (D := D) (ci := 3) (v := .ref rm) (C := RX3) (T := TX3) (N := 18) hx hb hts in_X3 hown hK hP 0 rfl rfl 0 (by decide) (hts _ kX3_39) (fun _ h9 => h9) rfl dX3_makeFrom_70 ?_
    refine lv_iload_n hx hb dX3_makeFrom_73 rfl (lv_at hl 0 rfl) ?_
    refine jn_i (wr := [(h, .inr (3, [.ref rm, .ref rg, .ref cf, .ref cd, .ref ck, .ref ca, .ref nr, .ref sr, .ref dl, .ref sp, .int (nI fl), .int (nI pl), .int wn, .int (nI kk), .int (nI zz), .int (nI ff), .int (nI ww), .int we])), (sr, .inr (4, [.ref so, .int (nI sn), .int sv])), (so, .inl (cI, SN, .inl sf)), (rg, .inl (cI, MN, .inl gf))]) hA hP hD hS [4, 5] [0, 1, 2, 3] rfl rfl (by decide) (by decide) (rn_V (As := [.int (nI (ww + x - zz))]) (rest := [.ref h]) ⟨hx, hb, hml, hown, hts⟩ (cvV 1 hts zc_yX4_at zi_X4 zm_yX4_at zv_yX4_at kX3_198 (by decide +kernel) rfl rfl ⟨Nat.le_of_ble_eq_true rfl, Nat.le_of_ble_eq_true rfl⟩) (c_Row_at l D cI cB cJ cR rm mo MN mn mf mv (nI (ww + x - zz)) (by omega) (by omega) H.size) hK hNw hMk hA hP hD hS [4, 5] rfl rfl (by decide) 0 rfl rfl rfl rfl hl.1 rfl (Nat.le_of_ble_eq_true rfl) dX3_makeFrom_74 ⟨Nat.le_of_ble_eq_true rfl, Nat.le_of_ble_eq_true rfl⟩) (fun va u9 H locs hva hP hD hS => ?_)
    try dsimp only at hva
    have hP : va_P D vwCl [(h, .inr (3, [.ref rm, .ref rg, .ref cf, .ref cd, .ref ck, .ref ca, .ref nr, .ref sr, .ref dl, .ref sp, .int (nI fl), .int (nI pl), .int wn, .int (nI kk), .int (nI zz), .int (nI ff), .int (nI ww), .int we])), (sr, .inr (4, [.ref so, .int (nI sn), .int sv])), (so, .inl (cI, SN, .inl sf)), (rg, .inl (cI, MN, .inl gf)), (rm, .inr (4, [.ref mo, .int (nI mn), .int mv])), (mo, .inl (cI, MN, .inl mf))] H := hP
    have hD : va_D A0 [(h, .inr (3, [.ref rm, .ref rg, .ref cf, .ref cd, .ref ck, .ref ca, .ref nr, .ref sr, .ref dl, .ref sp, .int (nI fl), .int (nI pl), .int wn, .int (nI kk), .int (nI zz), .int (nI ff), .int (nI ww), .int we])), (sr, .inr (4, [.ref so, .int (nI sn), .int sv])), (so, .inl (cI, SN, .inl sf)), (rg, .inl (cI, MN, .inl gf)), (rm, .inr (4, [.ref mo, .int (nI mn), .int mv])), (mo, .inl (cI, MN, .inl mf))] := hD
    obtain ⟨m1, m2, m3⟩ := hm _ (show ww + x - zz < mn from hx4)
    rw [if_pos (inB_t (hx4) (by omega)), nI_clamp (by omega), m1] at hva
    subst hva
    refine lv_aload_n hx hb dX3_makeFrom_77 rfl (lv_at hl 1 rfl) ?_
    refine va_get (D := D) (ci := 3) (v := .ref rg) (C := RX3) (T := TX3) (N := 18) hx hb hts in_X3 hown hK hP 0 rfl rfl 1 (by decide) (hts _ kX3_49) (fun _ h9 => h9) rfl dX3_makeFrom_78 ?_
    refine lv_iload_n hx hb dX3_makeFrom_81 rfl (lv_at hl 0 rfl) ?_
    refine ax_ild hx hb hK hP 3 0 rfl rfl (ww + x - zz) (rfl) (by omega) (by omega) dX3_makeFrom_82 ?_
    refine ri (y := G (ww + x - zz)) (m3) ?_
    refine jn_v (wr := [(sr, .inr (4, [.ref so, .int (nI sn), .int sv])), (so, .inl (cI, SN, .inl sf))]) hA hP hD hS [0, 4, 5, 3] [1, 2] rfl rfl (by decide) (by decide) (rn_V (As := [.int (nI (B (ww + x - zz))), .int (G (ww + x - zz))]) (rest := []) ⟨hx, hb, hml, hown, hts⟩ (cvV 2 hts zc_yX3_make zi_X3 zm_yX3_make zv_yX3_make kX3_174 (by decide +kernel) rfl rfl ⟨Nat.le_of_ble_eq_true rfl, Nat.le_of_ble_eq_true rfl⟩) (c_Reader_make l D cI cB cJ cR h rm rg cf cd ck ca nr sr dl sp wn (nI kk) (nI zz) (nI ff) (nI ww) we fl pl mo MN mn mf mv gf (nI (B (ww + x - zz))) (G (ww + x - zz)) (hMN) (hmn) H.size) hK hNw hMk hA hP hD hS [0, 4, 5, 3] rfl rfl (by decide) 0 rfl rfl rfl rfl hl.1 rfl (Nat.le_of_ble_eq_true rfl) dX3_makeFrom_83 ⟨Nat.le_of_ble_eq_true rfl, Nat.le_of_ble_eq_true rfl⟩) (fun u9 H locs w_4 hP hD hS => ?_)
    try dsimp only at w_4
    have hP : va_P D vwCl [(sr, .inr (4, [.ref so, .int (nI sn), .int sv])), (so, .inl (cI, SN, .inl sf)), (h, .inr (3, [.ref rm, .ref rg, .ref cf, .ref cd, .ref ck, .ref ca, .ref nr, .ref sr, .ref dl, .ref sp, .int (nI fl), .int (nI pl), .int wn, .int (nI kk), .int (nI zz), .int (nI ff), .int (nI ww), .int we])), (rm, .inr (4, [.ref mo, .int (nI (mn + 1)), .int mv])), (mo, .inl (cI, MN, .inl (upd mf mn (nI (B (ww + x - zz)))))), (rg, .inl (cI, MN, .inl (upd gf mn (G (ww + x - zz)))))] H := hP
    have hD : va_D A0 [(sr, .inr (4, [.ref so, .int (nI sn), .int sv])), (so, .inl (cI, SN, .inl sf)), (h, .inr (3, [.ref rm, .ref rg, .ref cf, .ref cd, .ref ck, .ref ca, .ref nr, .ref sr, .ref dl, .ref sp, .int (nI fl), .int (nI pl), .int wn, .int (nI kk), .int (nI zz), .int (nI ff), .int (nI ww), .int we])), (rm, .inr (4, [.ref mo, .int (nI (mn + 1)), .int mv])), (mo, .inl (cI, MN, .inl (upd mf mn (nI (B (ww + x - zz)))))), (rg, .inl (cI, MN, .inl (upd gf mn (G (ww + x - zz)))))] := hD
    have hP := hP.sub (ws' := [(h, .inr (3, [.ref rm, .ref rg, .ref cf, .ref cd, .ref ck, .ref ca, .ref nr, .ref sr, .ref dl, .ref sp, .int (nI fl), .int (nI pl), .int wn, .int (nI kk), .int (nI zz), .int (nI ff), .int (nI ww), .int we])), (sr, .inr (4, [.ref so, .int (nI sn), .int sv])), (so, .inl (cI, SN, .inl sf)), (rm, .inr (4, [.ref mo, .int (nI (mn + 1)), .int mv])), (mo, .inl (cI, MN, .inl (upd mf mn (nI (B (ww + x - zz)))))), (rg, .inl (cI, MN, .inl (upd gf mn (G (ww + x - zz)))))]) [2, 0, 1, 3, 4, 5] rfl
    have hD := hD.sub (ws' := [(h, .inr (3, [.ref rm, .ref rg, .ref cf, .ref cd, .ref ck, .ref ca, .ref nr, .ref sr, .ref dl, .ref sp, .int (nI fl), .int (nI pl), .int wn, .int (nI kk), .int (nI zz), .int (nI ff), .int (nI ww), .int we])), (sr, .inr (4, [.ref so, .int (nI sn), .int sv])), (so, .inl (cI, SN, .inl sf)), (rm, .inr (4, [.ref mo, .int (nI (mn + 1)), .int mv])), (mo, .inl (cI, MN, .inl (upd mf mn (nI (B (ww + x - zz)))))), (rg, .inl (cI, MN, .inl (upd gf mn (G (ww + x - zz)))))]) [2, 0, 1, 3, 4, 5] (by decide) rfl
    exact hret 86 ls _ _ (upd mf mn (nI (B (ww + x - zz))), upd gf mn (G (ww + x - zz))) dX3_makeFrom_86 hP hD hS (by rw [cpx, if_neg (fun z => hz z.1), if_neg hz]; exact made_push hm m2)
  · have hz : x < zz := Nat.not_le.mp (fun z => c_1 (nI_le z (by omega)))
    refine lv_aload_n hx hb dX3_makeFrom_15 rfl (lv_at hl 1 rfl) ?_
    refine va_get (D := D) (ci := 3) (v := .int (nI kk)) (C := RX3) (T := TX3) (N := 18) hx hb hts in_X3 hown hK hP 0 rfl rfl 13 (by decide) (hts _ kX3_137) (fun _ h9 => h9) rfl dX3_makeFrom_16 ?_
    refine lv_iconst (v := 1) hx hb dX3_makeFrom_19 (by decide) ?_
    refine lv_icmp_ne (tgt := 37) hx hb dX3_makeFrom_20 (by decide) (fun c_5 => ?_) (fun c_5 => ?_)
    · have hk : ¬ kk = 1 := fun z => c_5 (by rw [z]; rfl)
      have hx4 := hx2 hz hk
      refine lv_iload_n hx hb dX3_makeFrom_37 rfl (lv_at hl 2 rfl) ?_
      refine lv_aload_n hx hb dX3_makeFrom_38 rfl (lv_at hl 1 rfl) ?_
      refine va_get (D := D) (ci := 3) (v := .int (nI zz)) (C := RX3) (T := TX3) (N := 18) hx hb hts in_X3 hown hK hP 0 rfl rfl 14 (by decide) (hts _ kX3_140) (fun _ h9 => h9) rfl dX3_makeFrom_39 ?_
      refine lv_icmp_lt (tgt := 57) hx hb dX3_makeFrom_42 (by decide) (fun c_6 => ?_) (fun c_6 => absurd (nI_lt hz (by omega)) c_6)
      refine lv_aload_n hx hb dX3_makeFrom_57 rfl (lv_at hl 1 rfl) ?_
      refine va_get (D := D) (ci := 3) (v := .ref rm) (C := RX3) (T := TX3) (N := 18) hx hb hts in_X3 hown hK hP 0 rfl rfl 0 (by decide) (hts _ kX3_39) (fun _ h9 => h9) rfl dX3_makeFrom_58 ?_
      refine lv_iload_n hx hb dX3_makeFrom_61 rfl (lv_at hl 0 rfl) ?_
      refine jn_i (wr := [(h, .inr (3, [.ref rm, .ref rg, .ref cf, .ref cd, .ref ck, .ref ca, .ref nr, .ref sr, .ref dl, .ref sp, .int (nI fl), .int (nI pl), .int wn, .int (nI kk), .int (nI zz), .int (nI ff), .int (nI ww), .int we])), (sr, .inr (4, [.ref so, .int (nI sn), .int sv])), (so, .inl (cI, SN, .inl sf)), (rg, .inl (cI, MN, .inl gf))]) hA hP hD hS [3, 4] [0, 1, 2, 5] rfl rfl (by decide) (by decide) (rn_V (As := [.int (nI (ff + x))]) (rest := []) ⟨hx, hb, hml, hown, hts⟩ (cvV 1 hts zc_yX4_has zi_X4 zm_yX4_has zv_yX4_has kX3_200 (by decide +kernel) rfl rfl ⟨Nat.le_of_ble_eq_true rfl, Nat.le_of_ble_eq_true rfl⟩) (c_Row_has l D cI cB cJ cR rm mo MN mn mf mv (nI (ff + x))  s0.heap.size) hK hNw hMk hA hP hD hS [3, 4] rfl rfl (by decide) 0 rfl rfl rfl rfl hl.1 rfl (Nat.le_of_ble_eq_true rfl) dX3_makeFrom_62 ⟨Nat.le_of_ble_eq_true rfl, Nat.le_of_ble_eq_true rfl⟩) (fun hh u9 H locs hhw hP hD hS => ?_)
      obtain ⟨hhb, rfl, hhw⟩ := hhw
      try dsimp only at hhw
      have hP : va_P D vwCl [(h, .inr (3, [.ref rm, .ref rg, .ref cf, .ref cd, .ref ck, .ref ca, .ref nr, .ref sr, .ref dl, .ref sp, .int (nI fl), .int (nI pl), .int wn, .int (nI kk), .int (nI zz), .int (nI ff), .int (nI ww), .int we])), (sr, .inr (4, [.ref so, .int (nI sn), .int sv])), (so, .inl (cI, SN, .inl sf)), (rg, .inl (cI, MN, .inl gf)), (rm, .inr (4, [.ref mo, .int (nI mn), .int mv])), (mo, .inl (cI, MN, .inl mf))] H := hP
      have hD : va_D A0 [(h, .inr (3, [.ref rm, .ref rg, .ref cf, .ref cd, .ref ck, .ref ca, .ref nr, .ref sr, .ref dl, .ref sp, .int (nI fl), .int (nI pl), .int wn, .int (nI kk), .int (nI zz), .int (nI ff), .int (nI ww), .int we])), (sr, .inr (4, [.ref so, .int (nI sn), .int sv])), (so, .inl (cI, SN, .inl sf)), (rg, .inl (cI, MN, .inl gf)), (rm, .inr (4, [.ref mo, .int (nI mn), .int mv])), (mo, .inl (cI, MN, .inl mf))] := hD
      have hb9 : hhb = true := hhw.trans (inB_t (hx4) (by omega))
      subst hb9
      refine lv_if_eq (tgt := 86) hx hb dX3_makeFrom_65 (by decide) (fun c9 => absurd c9 (by decide)) (fun _ => ?_)
      refine lv_aload_n hx hb dX3_makeFrom_68 rfl (lv_at hl 1 rfl) ?_
      refine lv_aload_n hx hb dX3_makeFrom_69 rfl (lv_at hl 1 rfl) ?_
      refine va_get (D := D) (ci := 3) (v := .ref rm) (C := RX3) (T := TX3) (N := 18) hx hb hts in_X3 hown hK hP 0 rfl rfl 0 (by decide) (hts _ kX3_39) (fun _ h9 => h9) rfl dX3_makeFrom_70 ?_
      refine lv_iload_n hx hb dX3_makeFrom_73 rfl (lv_at hl 0 rfl) ?_
      refine jn_i (wr := [(h, .inr (3, [.ref rm, .ref rg, .ref cf, .ref cd, .ref ck, .ref ca, .ref nr, .ref sr, .ref dl, .ref sp, .int (nI fl), .int (nI pl), .int wn, .int (nI kk), .int (nI zz), .int (nI ff), .int (nI ww), .int we])), (sr, .inr (4, [.ref so, .int (nI sn), .int sv])), (so, .inl (cI, SN, .inl sf)), (rg, .inl (cI, MN, .inl gf))]) hA hP hD hS [4, 5] [0, 1, 2, 3] rfl rfl (by decide) (by decide) (rn_V (As := [.int (nI (ff + x))]) (rest := [.ref h]) ⟨hx, hb, hml, hown, hts⟩ (cvV 1 hts zc_yX4_at zi_X4 zm_yX4_at zv_yX4_at kX3_198 (by decide +kernel) rfl rfl ⟨Nat.le_of_ble_eq_true rfl, Nat.le_of_ble_eq_true rfl⟩) (c_Row_at l D cI cB cJ cR rm mo MN mn mf mv (nI (ff + x)) (by omega) (by omega) H.size) hK hNw hMk hA hP hD hS [4, 5] rfl rfl (by decide) 0 rfl rfl rfl rfl hl.1 rfl (Nat.le_of_ble_eq_true rfl) dX3_makeFrom_74 ⟨Nat.le_of_ble_eq_true rfl, Nat.le_of_ble_eq_true rfl⟩) (fun va u9 H locs hva hP hD hS => ?_)
      try dsimp only at hva
      have hP : va_P D vwCl [(h, .inr (3, [.ref rm, .ref rg, .ref cf, .ref cd, .ref ck, .ref ca, .ref nr, .ref sr, .ref dl, .ref sp, .int (nI fl), .int (nI pl), .int wn, .int (nI kk), .int (nI zz), .int (nI ff), .int (nI ww), .int we])), (sr, .inr (4, [.ref so, .int (nI sn), .int sv])), (so, .inl (cI, SN, .inl sf)), (rg, .inl (cI, MN, .inl gf)), (rm, .inr (4, [.ref mo, .int (nI mn), .int mv])), (mo, .inl (cI, MN, .inl mf))] H := hP
      have hD : va_D A0 [(h, .inr (3, [.ref rm, .ref rg, .ref cf, .ref cd, .ref ck, .ref ca, .ref nr, .ref sr, .ref dl, .ref sp, .int (nI fl), .int (nI pl), .int wn, .int (nI kk), .int (nI zz), .int (nI ff), .int (nI ww), .int we])), (sr, .inr (4, [.ref so, .int (nI sn), .int sv])), (so, .inl (cI, SN, .inl sf)), (rg, .inl (cI, MN, .inl gf)), (rm, .inr (4, [.ref mo, .int (nI mn), .int mv])), (mo, .inl (cI, MN, .inl mf))] := hD
      obtain ⟨m1, m2, m3⟩ := hm _ (show ff + x < mn from hx4)
      rw [if_pos (inB_t (hx4) (by omega)), nI_clamp (by omega), m1] at hva
      subst hva
      refine lv_aload_n hx hb dX3_makeFrom_77 rfl (lv_at hl 1 rfl) ?_
      refine va_get (D := D) (ci := 3) (v := .ref rg) (C := RX3) (T := TX3) (N := 18) hx hb hts in_X3 hown hK hP 0 rfl rfl 1 (by decide) (hts _ kX3_49) (fun _ h9 => h9) rfl dX3_makeFrom_78 ?_
      refine lv_iload_n hx hb dX3_makeFrom_81 rfl (lv_at hl 0 rfl) ?_
      refine ax_ild hx hb hK hP 3 0 rfl rfl (ff + x) (rfl) (by omega) (by omega) dX3_makeFrom_82 ?_
      refine ri (y := G (ff + x)) (m3) ?_
      refine jn_v (wr := [(sr, .inr (4, [.ref so, .int (nI sn), .int sv])), (so, .inl (cI, SN, .inl sf))]) hA hP hD hS [0, 4, 5, 3] [1, 2] rfl rfl (by decide) (by decide) (rn_V (As := [.int (nI (B (ff + x))), .int (G (ff + x))]) (rest := []) ⟨hx, hb, hml, hown, hts⟩ (cvV 2 hts zc_yX3_make zi_X3 zm_yX3_make zv_yX3_make kX3_174 (by decide +kernel) rfl rfl ⟨Nat.le_of_ble_eq_true rfl, Nat.le_of_ble_eq_true rfl⟩) (c_Reader_make l D cI cB cJ cR h rm rg cf cd ck ca nr sr dl sp wn (nI kk) (nI zz) (nI ff) (nI ww) we fl pl mo MN mn mf mv gf (nI (B (ff + x))) (G (ff + x)) (hMN) (hmn) H.size) hK hNw hMk hA hP hD hS [0, 4, 5, 3] rfl rfl (by decide) 0 rfl rfl rfl rfl hl.1 rfl (Nat.le_of_ble_eq_true rfl) dX3_makeFrom_83 ⟨Nat.le_of_ble_eq_true rfl, Nat.le_of_ble_eq_true rfl⟩) (fun u9 H locs w_8 hP hD hS => ?_)
      try dsimp only at w_8
      have hP : va_P D vwCl [(sr, .inr (4, [.ref so, .int (nI sn), .int sv])), (so, .inl (cI, SN, .inl sf)), (h, .inr (3, [.ref rm, .ref rg, .ref cf, .ref cd, .ref ck, .ref ca, .ref nr, .ref sr, .ref dl, .ref sp, .int (nI fl), .int (nI pl), .int wn, .int (nI kk), .int (nI zz), .int (nI ff), .int (nI ww), .int we])), (rm, .inr (4, [.ref mo, .int (nI (mn + 1)), .int mv])), (mo, .inl (cI, MN, .inl (upd mf mn (nI (B (ff + x)))))), (rg, .inl (cI, MN, .inl (upd gf mn (G (ff + x)))))] H := hP
      have hD : va_D A0 [(sr, .inr (4, [.ref so, .int (nI sn), .int sv])), (so, .inl (cI, SN, .inl sf)), (h, .inr (3, [.ref rm, .ref rg, .ref cf, .ref cd, .ref ck, .ref ca, .ref nr, .ref sr, .ref dl, .ref sp, .int (nI fl), .int (nI pl), .int wn, .int (nI kk), .int (nI zz), .int (nI ff), .int (nI ww), .int we])), (rm, .inr (4, [.ref mo, .int (nI (mn + 1)), .int mv])), (mo, .inl (cI, MN, .inl (upd mf mn (nI (B (ff + x)))))), (rg, .inl (cI, MN, .inl (upd gf mn (G (ff + x)))))] := hD
      have hP := hP.sub (ws' := [(h, .inr (3, [.ref rm, .ref rg, .ref cf, .ref cd, .ref ck, .ref ca, .ref nr, .ref sr, .ref dl, .ref sp, .int (nI fl), .int (nI pl), .int wn, .int (nI kk), .int (nI zz), .int (nI ff), .int (nI ww), .int we])), (sr, .inr (4, [.ref so, .int (nI sn), .int sv])), (so, .inl (cI, SN, .inl sf)), (rm, .inr (4, [.ref mo, .int (nI (mn + 1)), .int mv])), (mo, .inl (cI, MN, .inl (upd mf mn (nI (B (ff + x)))))), (rg, .inl (cI, MN, .inl (upd gf mn (G (ff + x)))))]) [2, 0, 1, 3, 4, 5] rfl
      have hD := hD.sub (ws' := [(h, .inr (3, [.ref rm, .ref rg, .ref cf, .ref cd, .ref ck, .ref ca, .ref nr, .ref sr, .ref dl, .ref sp, .int (nI fl), .int (nI pl), .int wn, .int (nI kk), .int (nI zz), .int (nI ff), .int (nI ww), .int we])), (sr, .inr (4, [.ref so, .int (nI sn), .int sv])), (so, .inl (cI, SN, .inl sf)), (rm, .inr (4, [.ref mo, .int (nI (mn + 1)), .int mv])), (mo, .inl (cI, MN, .inl (upd mf mn (nI (B (ff + x)))))), (rg, .inl (cI, MN, .inl (upd gf mn (G (ff + x)))))]) [2, 0, 1, 3, 4, 5] (by decide) rfl
      exact hret 86 ls _ _ (upd mf mn (nI (B (ff + x))), upd gf mn (G (ff + x))) dX3_makeFrom_86 hP hD hS (by rw [cpx, if_neg (fun z => hk z.2), if_pos hz]; exact made_push hm m2)
    · have hk : kk = 1 := (nI_eq (b := 1) (by omega) (by decide)).mp c_5
      have hx4 := hx1 hz hk
      obtain ⟨o1, o2⟩ := hos _ hx4
      refine lv_aload_n hx hb dX3_makeFrom_23 rfl (lv_at hl 1 rfl) ?_
      refine lv_aload_n hx hb dX3_makeFrom_24 rfl (lv_at hl 1 rfl) ?_
      refine va_get (D := D) (ci := 3) (v := .ref sr) (C := RX3) (T := TX3) (N := 18) hx hb hts in_X3 hown hK hP 0 rfl rfl 7 (by decide) (hts _ kX3_53) (fun _ h9 => h9) rfl dX3_makeFrom_25 ?_
      refine lv_iload_n hx hb dX3_makeFrom_28 rfl (lv_at hl 0 rfl) ?_
      refine jn_i (wr := [(h, .inr (3, [.ref rm, .ref rg, .ref cf, .ref cd, .ref ck, .ref ca, .ref nr, .ref sr, .ref dl, .ref sp, .int (nI fl), .int (nI pl), .int wn, .int (nI kk), .int (nI zz), .int (nI ff), .int (nI ww), .int we])), (rm, .inr (4, [.ref mo, .int (nI mn), .int mv])), (mo, .inl (cI, MN, .inl mf)), (rg, .inl (cI, MN, .inl gf))]) hA hP hD hS [1, 2] [0, 3, 4, 5] rfl rfl (by decide) (by decide) (rn_V (As := [.int (nI (ff + x))]) (rest := [.ref h]) ⟨hx, hb, hml, hown, hts⟩ (cvV 1 hts zc_yX4_at zi_X4 zm_yX4_at zv_yX4_at kX3_198 (by decide +kernel) rfl rfl ⟨Nat.le_of_ble_eq_true rfl, Nat.le_of_ble_eq_true rfl⟩) (c_Row_at l D cI cB cJ cR sr so SN sn sf sv (nI (ff + x)) (by omega) (hsn) s0.heap.size) hK hNw hMk hA hP hD hS [1, 2] rfl rfl (by decide) 0 rfl rfl rfl rfl hl.1 rfl (Nat.le_of_ble_eq_true rfl) dX3_makeFrom_29 ⟨Nat.le_of_ble_eq_true rfl, Nat.le_of_ble_eq_true rfl⟩) (fun va u9 H locs hva hP hD hS => ?_)
      try dsimp only at hva
      have hP : va_P D vwCl [(h, .inr (3, [.ref rm, .ref rg, .ref cf, .ref cd, .ref ck, .ref ca, .ref nr, .ref sr, .ref dl, .ref sp, .int (nI fl), .int (nI pl), .int wn, .int (nI kk), .int (nI zz), .int (nI ff), .int (nI ww), .int we])), (rm, .inr (4, [.ref mo, .int (nI mn), .int mv])), (mo, .inl (cI, MN, .inl mf)), (rg, .inl (cI, MN, .inl gf)), (sr, .inr (4, [.ref so, .int (nI sn), .int sv])), (so, .inl (cI, SN, .inl sf))] H := hP
      have hD : va_D A0 [(h, .inr (3, [.ref rm, .ref rg, .ref cf, .ref cd, .ref ck, .ref ca, .ref nr, .ref sr, .ref dl, .ref sp, .int (nI fl), .int (nI pl), .int wn, .int (nI kk), .int (nI zz), .int (nI ff), .int (nI ww), .int we])), (rm, .inr (4, [.ref mo, .int (nI mn), .int mv])), (mo, .inl (cI, MN, .inl mf)), (rg, .inl (cI, MN, .inl gf)), (sr, .inr (4, [.ref so, .int (nI sn), .int sv])), (so, .inl (cI, SN, .inl sf))] := hD
      rw [if_pos (inB_t hx4 (by omega)), nI_clamp (by omega), o1] at hva
      subst hva
      refine lv_iload_n hx hb dX3_makeFrom_32 rfl (lv_at hl 0 rfl) ?_
      refine jn_v (wr := [(sr, .inr (4, [.ref so, .int (nI sn), .int sv])), (so, .inl (cI, SN, .inl sf))]) hA hP hD hS [0, 1, 2, 3] [4, 5] rfl rfl (by decide) (by decide) (rn_V (As := [.int (nI (sB (ff + x))), .int (nI (ff + x))]) (rest := []) ⟨hx, hb, hml, hown, hts⟩ (cvV 2 hts zc_yX3_make zi_X3 zm_yX3_make zv_yX3_make kX3_174 (by decide +kernel) rfl rfl ⟨Nat.le_of_ble_eq_true rfl, Nat.le_of_ble_eq_true rfl⟩) (c_Reader_make l D cI cB cJ cR h rm rg cf cd ck ca nr sr dl sp wn (nI kk) (nI zz) (nI ff) (nI ww) we fl pl mo MN mn mf mv gf (nI (sB (ff + x))) (nI (ff + x)) (hMN) (hmn) H.size) hK hNw hMk hA hP hD hS [0, 1, 2, 3] rfl rfl (by decide) 0 rfl rfl rfl rfl hl.1 rfl (Nat.le_of_ble_eq_true rfl) dX3_makeFrom_33 ⟨Nat.le_of_ble_eq_true rfl, Nat.le_of_ble_eq_true rfl⟩) (fun u9 H locs w_10 hP hD hS => ?_)
      try dsimp only at w_10
      have hP : va_P D vwCl [(sr, .inr (4, [.ref so, .int (nI sn), .int sv])), (so, .inl (cI, SN, .inl sf)), (h, .inr (3, [.ref rm, .ref rg, .ref cf, .ref cd, .ref ck, .ref ca, .ref nr, .ref sr, .ref dl, .ref sp, .int (nI fl), .int (nI pl), .int wn, .int (nI kk), .int (nI zz), .int (nI ff), .int (nI ww), .int we])), (rm, .inr (4, [.ref mo, .int (nI (mn + 1)), .int mv])), (mo, .inl (cI, MN, .inl (upd mf mn (nI (sB (ff + x)))))), (rg, .inl (cI, MN, .inl (upd gf mn (nI (ff + x)))))] H := hP
      have hD : va_D A0 [(sr, .inr (4, [.ref so, .int (nI sn), .int sv])), (so, .inl (cI, SN, .inl sf)), (h, .inr (3, [.ref rm, .ref rg, .ref cf, .ref cd, .ref ck, .ref ca, .ref nr, .ref sr, .ref dl, .ref sp, .int (nI fl), .int (nI pl), .int wn, .int (nI kk), .int (nI zz), .int (nI ff), .int (nI ww), .int we])), (rm, .inr (4, [.ref mo, .int (nI (mn + 1)), .int mv])), (mo, .inl (cI, MN, .inl (upd mf mn (nI (sB (ff + x)))))), (rg, .inl (cI, MN, .inl (upd gf mn (nI (ff + x)))))] := hD
      have hP := hP.sub (ws' := [(h, .inr (3, [.ref rm, .ref rg, .ref cf, .ref cd, .ref ck, .ref ca, .ref nr, .ref sr, .ref dl, .ref sp, .int (nI fl), .int (nI pl), .int wn, .int (nI kk), .int (nI zz), .int (nI ff), .int (nI ww), .int we])), (sr, .inr (4, [.ref so, .int (nI sn), .int sv])), (so, .inl (cI, SN, .inl sf)), (rm, .inr (4, [.ref mo, .int (nI (mn + 1)), .int mv])), (mo, .inl (cI, MN, .inl (upd mf mn (nI (sB (ff + x)))))), (rg, .inl (cI, MN, .inl (upd gf mn (nI (ff + x)))))]) [2, 0, 1, 3, 4, 5] rfl
      have hD := hD.sub (ws' := [(h, .inr (3, [.ref rm, .ref rg, .ref cf, .ref cd, .ref ck, .ref ca, .ref nr, .ref sr, .ref dl, .ref sp, .int (nI fl), .int (nI pl), .int wn, .int (nI kk), .int (nI zz), .int (nI ff), .int (nI ww), .int we])), (sr, .inr (4, [.ref so, .int (nI sn), .int sv])), (so, .inl (cI, SN, .inl sf)), (rm, .inr (4, [.ref mo, .int (nI (mn + 1)), .int mv])), (mo, .inl (cI, MN, .inl (upd mf mn (nI (sB (ff + x)))))), (rg, .inl (cI, MN, .inl (upd gf mn (nI (ff + x)))))]) [2, 0, 1, 3, 4, 5] (by decide) rfl
      exact hret 36 ls _ _ (upd mf mn (nI (sB (ff + x))), upd gf mn (nI (ff + x))) dX3_makeFrom_36 hP hD hS (by rw [cpx, if_pos ⟨hz, hk⟩]; exact made_push hm o2)

set_option maxHeartbeats 4000000 in
set_option maxRecDepth 100000 in
theorem c_Reader_runData (l : Launch) (D : va_G) (cI cB cJ cR : ClassId) (h : Nat) (rm : Nat) (rg : Nat) (cf : Nat) (cd : Nat) (ck : Nat) (ca : Nat) (nr : Nat) (sr : Nat) (dl : Nat) (sp : Nat) (wn : Nat) (sk : Int32) (ss : Int32) (sm : Int32) (wf : Int32) (we : Int32) (fl : Nat) (pl : Nat) (mo : Nat) (MN : Nat) (mn : Nat) (mf : Nat → Int32) (mv : Int32) (gf : Nat → Int32) (B : Nat → Nat) (G : Nat → Int32) (o : Nat) (N : Nat) (da : Nat) (de : Nat) (f : Nat → Int32) (b : Nat → Nat) (sc : Nat) (lim : Nat) (cnt : Nat) (g : Nat → Nat → Int32) (tf : Nat → Int32) (kd : Nat) (z : Nat) (co : Nat) (wh : Nat) (hfl : fl < 2 ^ 31) (hMN : MN < 2 ^ 24) (hN : N < 2 ^ 24) (hde : de ≤ N) (hda : da ≤ de) (hob : octs f b de) (hm : madeIs mf gf (B, G, mn)) (hmz : mn + z ≤ MN) (hkd : kd = 1 ∨ kd = 2) (hlm : lim < 2 ^ 24) (hcn : cnt < 2 ^ 29) (hst : stepsIs lim g cnt tf) : CMv l yX3_runData cX3_runData 7 none ({ frames := 1, cells := 0, slots := 0, locals := 27 }) D (tyA cI cB cJ cR) 0 0 [.ref h, .int (nI kd), .int (nI z), .int (nI co), .int (nI wh)] [(h, .inr (3, [.ref rm, .ref rg, .ref cf, .ref cd, .ref ck, .ref ca, .ref nr, .ref sr, .ref dl, .ref sp, .int (nI fl), .int (nI pl), .int (nI wn), .int sk, .int ss, .int sm, .int wf, .int we])), (rm, .inr (4, [.ref mo, .int (nI mn), .int mv])), (mo, .inl (cI, MN, .inl mf)), (rg, .inl (cI, MN, .inl gf)), (cd, .inr (1, [.ref o, .int (nI da), .int (nI de)])), (o, .inl (cI, N, .inl f)), (sp, .inr (5, [.int (nI lim), .ref sc, .int (nI cnt)])), (sc, .inl (cI, (lim * 6), .inl tf))] (fun (u9 : Nat × Nat × Nat × Nat × (Nat → Int32) × (Nat → Int32) × Nat × (Nat → Int32)) => match u9 with | (fl2, pl2, da2, mn2, mf2, gf2, cnt2, tf2) => (de - da < needD kd z → (fl2, pl2) = (if fl = 0 then (12, wh) else (fl, pl)) ∧ da2 = da ∧ mn2 = mn ∧ mf2 = mf ∧ gf2 = gf ∧ cnt2 = cnt ∧ tf2 = tf) ∧ (¬ de - da < needD kd z → fl2 = fl ∧ pl2 = pl ∧ da2 = da + needD kd z ∧ mn2 = mn + z ∧ madeIs mf2 gf2 (datM b kd z da (B, G, mn)) ∧ cnt2 = cnt + 1 ∧ stepsIs lim (va_up g cnt (st6 (nI kd) (nI z) 0 0 (nI co) (nI wn))) cnt2 tf2)) (fun (u9 : Nat × Nat × Nat × Nat × (Nat → Int32) × (Nat → Int32) × Nat × (Nat → Int32)) => match u9 with | (fl2, pl2, da2, mn2, mf2, gf2, cnt2, tf2) => [(h, .inr (3, [.ref rm, .ref rg, .ref cf, .ref cd, .ref ck, .ref ca, .ref nr, .ref sr, .ref dl, .ref sp, .int (nI fl2), .int (nI pl2), .int (nI wn), .int sk, .int ss, .int sm, .int wf, .int we])), (rm, .inr (4, [.ref mo, .int (nI mn2), .int mv])), (mo, .inl (cI, MN, .inl mf2)), (rg, .inl (cI, MN, .inl gf2)), (cd, .inr (1, [.ref o, .int (nI da2), .int (nI de)])), (o, .inl (cI, N, .inl f)), (sp, .inr (5, [.int (nI lim), .ref sc, .int (nI cnt2)])), (sc, .inl (cI, (lim * 6), .inl tf2))]) := by
  refine st_v (cc := cX3_runData) (maxL := 7) (by decide) (Nat.le_of_ble_eq_true rfl) ?_
  intro p0 e0 s0 m0 below meth c0 A0 Q0 hBD hret hP hD hS ls hl
  obtain ⟨hx, hb, hml, hown, hts, hnm, hK, hNw, hMk, hA⟩ := hBD
  have hl : lv_has ls 7 [(0, .ref h), (1, .int (nI kd)), (2, .int (nI z)), (3, .int (nI co)), (4, .int (nI wh))] := hl
  have hP : va_P D vwCl [(h, .inr (3, [.ref rm, .ref rg, .ref cf, .ref cd, .ref ck, .ref ca, .ref nr, .ref sr, .ref dl, .ref sp, .int (nI fl), .int (nI pl), .int (nI wn), .int sk, .int ss, .int sm, .int wf, .int we])), (rm, .inr (4, [.ref mo, .int (nI mn), .int mv])), (mo, .inl (cI, MN, .inl mf)), (rg, .inl (cI, MN, .inl gf)), (cd, .inr (1, [.ref o, .int (nI da), .int (nI de)])), (o, .inl (cI, N, .inl f)), (sp, .inr (5, [.int (nI lim), .ref sc, .int (nI cnt)])), (sc, .inl (cI, (lim * 6), .inl tf))] s0.heap := hP
  have hD : va_D A0 [(h, .inr (3, [.ref rm, .ref rg, .ref cf, .ref cd, .ref ck, .ref ca, .ref nr, .ref sr, .ref dl, .ref sp, .int (nI fl), .int (nI pl), .int (nI wn), .int sk, .int ss, .int sm, .int wf, .int we])), (rm, .inr (4, [.ref mo, .int (nI mn), .int mv])), (mo, .inl (cI, MN, .inl mf)), (rg, .inl (cI, MN, .inl gf)), (cd, .inr (1, [.ref o, .int (nI da), .int (nI de)])), (o, .inl (cI, N, .inl f)), (sp, .inr (5, [.int (nI lim), .ref sc, .int (nI cnt)])), (sc, .inl (cI, (lim * 6), .inl tf))] := hD
  refine lv_aload_n hx hb dX3_runData_0 rfl (lv_at hl 0 rfl) ?_
  refine va_get (D := D) (ci := 3) (v := .ref cd) (C := RX3) (T := TX3) (N := 18) hx hb hts in_X3 hown hK hP 0 rfl rfl 3 (by decide) (hts _ kX3_18) (fun _ h9 => h9) rfl dX3_runData_1 ?_
  refine jn_i (wr := [(h, .inr (3, [.ref rm, .ref rg, .ref cf, .ref cd, .ref ck, .ref ca, .ref nr, .ref sr, .ref dl, .ref sp, .int (nI fl), .int (nI pl), .int (nI wn), .int sk, .int ss, .int sm, .int wf, .int we])), (rm, .inr (4, [.ref mo, .int (nI mn), .int mv])), (mo, .inl (cI, MN, .inl mf)), (rg, .inl (cI, MN, .inl gf)), (o, .inl (cI, N, .inl f)), (sp, .inr (5, [.int (nI lim), .ref sc, .int (nI cnt)])), (sc, .inl (cI, (lim * 6), .inl tf))]) hA hP hD hS [4] [0, 1, 2, 3, 5, 6, 7] rfl rfl (by decide) (by decide) (rn_V (As := []) (rest := []) ⟨hx, hb, hml, hown, hts⟩ (cvV 0 hts zc_yX1_left zi_X1 zm_yX1_left zv_yX1_left kX3_117 (by decide +kernel) rfl rfl ⟨Nat.le_of_ble_eq_true rfl, Nat.le_of_ble_eq_true rfl⟩) (c_Cursor_left l D cI cB cJ cR cd o (nI da) (nI de)  s0.heap.size) hK hNw hMk hA hP hD hS [4] rfl rfl (by decide) 0 rfl rfl rfl rfl hl.1 rfl (Nat.le_of_ble_eq_true rfl) dX3_runData_4 ⟨Nat.le_of_ble_eq_true rfl, Nat.le_of_ble_eq_true rfl⟩) (fun lf u9 H locs hlf hP hD hS => ?_)
  try dsimp only at hlf
  have hP : va_P D vwCl [(h, .inr (3, [.ref rm, .ref rg, .ref cf, .ref cd, .ref ck, .ref ca, .ref nr, .ref sr, .ref dl, .ref sp, .int (nI fl), .int (nI pl), .int (nI wn), .int sk, .int ss, .int sm, .int wf, .int we])), (rm, .inr (4, [.ref mo, .int (nI mn), .int mv])), (mo, .inl (cI, MN, .inl mf)), (rg, .inl (cI, MN, .inl gf)), (o, .inl (cI, N, .inl f)), (sp, .inr (5, [.int (nI lim), .ref sc, .int (nI cnt)])), (sc, .inl (cI, (lim * 6), .inl tf)), (cd, .inr (1, [.ref o, .int (nI da), .int (nI de)]))] H := hP
  have hD : va_D A0 [(h, .inr (3, [.ref rm, .ref rg, .ref cf, .ref cd, .ref ck, .ref ca, .ref nr, .ref sr, .ref dl, .ref sp, .int (nI fl), .int (nI pl), .int (nI wn), .int sk, .int ss, .int sm, .int wf, .int we])), (rm, .inr (4, [.ref mo, .int (nI mn), .int mv])), (mo, .inl (cI, MN, .inl mf)), (rg, .inl (cI, MN, .inl gf)), (o, .inl (cI, N, .inl f)), (sp, .inr (5, [.int (nI lim), .ref sc, .int (nI cnt)])), (sc, .inl (cI, (lim * 6), .inl tf)), (cd, .inr (1, [.ref o, .int (nI da), .int (nI de)]))] := hD
  have hlf2 : lf = nI (de - da) := hlf.trans (pk_sub hda)
  subst hlf2
  refine lv_iload_n hx hb dX3_runData_7 rfl (lv_at hl 1 rfl) ?_
  refine lv_iconst (v := 2) hx hb dX3_runData_8 (by decide) ?_
  refine lv_icmp_ne (tgt := 16) hx hb dX3_runData_9 (by decide) (fun c_1 => ?_) (fun c_1 => ?_)
  · have hk2 : ¬ kd = 2 := fun q => c_1 (by rw [q]; rfl)
    refine lv_iload_n hx hb dX3_runData_16 rfl (lv_at hl 2 rfl) ?_
    refine lv_icmp_ge (tgt := 29) hx hb dX3_runData_17 (by decide) (fun c_2 => ?_) (fun c_2 => ?_)
    · have hzd : z ≤ de - da := (nI_leI (by omega) (by omega)).mp c_2
      have hok : ¬ de - da < needD kd z := by rw [needD, if_neg hk2]; omega
      refine lv_iload_n hx hb dX3_runData_29 rfl (lv_at hl 1 rfl) ?_
      refine lv_iconst (v := 2) hx hb dX3_runData_30 (by decide) ?_
      refine lv_icmp_ne (tgt := 44) hx hb dX3_runData_31 (by decide) (fun c_3 => ?_) (fun c_3 => absurd c_3 (fun q => hk2 ((nI_eq (b := 2) (by omega) (by decide)).mp q)))
      refine lv_iconst (v := 0) hx hb dX3_runData_44 (by decide) ?_
      refine lv_istore (lv' := [(5, .int 0), (0, .ref h), (1, .int (nI kd)), (2, .int (nI z)), (3, .int (nI co)), (4, .int (nI wh))]) hx hb dX3_runData_45 hl (by decide) rfl (fun ls hl => ?_)
      refine lv_iconst (v := 0) hx hb dX3_runData_47 (by decide) ?_
      refine ri (y := nI 0) (nI_0.symm) ?_
      refine lv_istore (lv' := [(6, .int (nI 0)), (5, .int 0), (0, .ref h), (1, .int (nI kd)), (2, .int (nI z)), (3, .int (nI co)), (4, .int (nI wh))]) hx hb dX3_runData_48 hl (by decide) rfl (fun ls hl => ?_)
      have loop : ∀ (k9 : Nat) (i : Nat) (mf1 : Nat → Int32) (gf1 : Nat → Int32) (H : Heap) (locs : List Loc) (ls : Array Slot), z - i < k9 → (i ≤ z) → (madeIs mf1 gf1 (addM b i da (B, G, mn))) → va_P D vwCl [(h, .inr (3, [.ref rm, .ref rg, .ref cf, .ref cd, .ref ck, .ref ca, .ref nr, .ref sr, .ref dl, .ref sp, .int (nI fl), .int (nI pl), .int (nI wn), .int sk, .int ss, .int sm, .int wf, .int we])), (rm, .inr (4, [.ref mo, .int (nI (mn + i)), .int mv])), (mo, .inl (cI, MN, .inl mf1)), (rg, .inl (cI, MN, .inl gf1)), (cd, .inr (1, [.ref o, .int (nI (da + i)), .int (nI de)])), (o, .inl (cI, N, .inl f)), (sp, .inr (5, [.int (nI lim), .ref sc, .int (nI cnt)])), (sc, .inl (cI, (lim * 6), .inl tf))] H → va_D A0 [(h, .inr (3, [.ref rm, .ref rg, .ref cf, .ref cd, .ref ck, .ref ca, .ref nr, .ref sr, .ref dl, .ref sp, .int (nI fl), .int (nI pl), .int (nI wn), .int sk, .int ss, .int sm, .int wf, .int we])), (rm, .inr (4, [.ref mo, .int (nI (mn + i)), .int mv])), (mo, .inl (cI, MN, .inl mf1)), (rg, .inl (cI, MN, .inl gf1)), (cd, .inr (1, [.ref o, .int (nI (da + i)), .int (nI de)])), (o, .inl (cI, N, .inl f)), (sp, .inr (5, [.int (nI lim), .ref sc, .int (nI cnt)])), (sc, .inl (cI, (lim * 6), .inl tf))] → va_S A0 s0.heap H locs → lv_has ls 7 [(0, .ref h), (1, .int (nI kd)), (2, .int (nI z)), (3, .int (nI co)), (4, .int (nI wh)), (5, .int 0), (6, .int (nI i))] → W p0 l e0 ({ frames := 1, cells := 0, slots := 0, locals := 27 }) s0 m0 ([.ref h, .int (nI kd), .int (nI z), .int (nI co), .int (nI wh)] : List Value).toArray below meth c0 H locs 0 0 Q0 (F0 m0 50 ls []) := by
        intro k9
        induction k9 with
        | zero => intro i mf1 gf1 H locs ls hk9; exact absurd hk9 (Nat.not_lt_zero _)
        | succ k9 ih =>
          intro i mf1 gf1 H locs ls hk9 hi hm1 hP hD hS hl
          refine lv_iload hx hb dX3_runData_50 (lv_at hl 6 rfl) ?_
          refine lv_iload_n hx hb dX3_runData_52 rfl (lv_at hl 2 rfl) ?_
          refine lv_icmp_ge (tgt := 84) hx hb dX3_runData_53 (by decide) (fun c_4 => ?_) (fun c_4 => ?_)
          · have hiz : i = z := by have := (nI_leI (by omega) (by omega)).mp c_4; omega
            have hiz2 := hiz.symm
            subst hiz2
            refine lv_aload_n hx hb dX3_runData_84 rfl (lv_at hl 0 rfl) ?_
            refine va_get (D := D) (ci := 3) (v := .ref sp) (C := RX3) (T := TX3) (N := 18) hx hb hts in_X3 hown hK hP 0 rfl rfl 9 (by decide) (hts _ kX3_62) (fun _ h9 => h9) rfl dX3_runData_85 ?_
            refine lv_iload_n hx hb dX3_runData_88 rfl (lv_at hl 1 rfl) ?_
            refine lv_iload_n hx hb dX3_runData_89 rfl (lv_at hl 2 rfl) ?_
            refine lv_iconst (v := 0) hx hb dX3_runData_90 (by decide) ?_
            refine lv_iconst (v := 0) hx hb dX3_runData_91 (by decide) ?_
            refine lv_iload_n hx hb dX3_runData_92 rfl (lv_at hl 3 rfl) ?_
            refine lv_aload_n hx hb dX3_runData_93 rfl (lv_at hl 0 rfl) ?_
            refine va_get (D := D) (ci := 3) (v := .int (nI wn)) (C := RX3) (T := TX3) (N := 18) hx hb hts in_X3 hown hK hP 0 rfl rfl 12 (by decide) (hts _ kX3_80) (fun _ h9 => h9) rfl dX3_runData_94 ?_
            refine jn_v (wr := [(h, .inr (3, [.ref rm, .ref rg, .ref cf, .ref cd, .ref ck, .ref ca, .ref nr, .ref sr, .ref dl, .ref sp, .int (nI fl), .int (nI pl), .int (nI wn), .int sk, .int ss, .int sm, .int wf, .int we])), (rm, .inr (4, [.ref mo, .int (nI (mn + z)), .int mv])), (mo, .inl (cI, MN, .inl mf1)), (rg, .inl (cI, MN, .inl gf1)), (cd, .inr (1, [.ref o, .int (nI (da + z)), .int (nI de)])), (o, .inl (cI, N, .inl f))]) hA hP hD hS [6, 7] [0, 1, 2, 3, 4, 5] rfl rfl (by decide) (by decide) (rn_V (As := [.int (nI kd), .int (nI z), .int 0, .int 0, .int (nI co), .int (nI wn)]) (rest := []) ⟨hx, hb, hml, hown, hts⟩ (cvV 6 hts zc_yX5_put zi_X5 zm_yX5_put zv_yX5_put kX3_177 (by decide +kernel) rfl rfl ⟨Nat.le_of_ble_eq_true rfl, Nat.le_of_ble_eq_true rfl⟩) (c_Steps_put l D cI cB cJ cR sp sc lim cnt g tf (nI kd) (nI z) 0 0 (nI co) (nI wn) (hlm) (by omega) (hst) H.size) hK hNw hMk hA hP hD hS [6, 7] rfl rfl (by decide) 0 rfl rfl rfl rfl hl.1 rfl (Nat.le_of_ble_eq_true rfl) dX3_runData_97 ⟨Nat.le_of_ble_eq_true rfl, Nat.le_of_ble_eq_true rfl⟩) (fun u9 H locs w_7 hP hD hS => ?_)
            obtain ⟨f2_5, rfl⟩ : ∃ z9, z9 = u9 := ⟨_, rfl⟩
            try dsimp only at w_7
            have hP : va_P D vwCl [(h, .inr (3, [.ref rm, .ref rg, .ref cf, .ref cd, .ref ck, .ref ca, .ref nr, .ref sr, .ref dl, .ref sp, .int (nI fl), .int (nI pl), .int (nI wn), .int sk, .int ss, .int sm, .int wf, .int we])), (rm, .inr (4, [.ref mo, .int (nI (mn + z)), .int mv])), (mo, .inl (cI, MN, .inl mf1)), (rg, .inl (cI, MN, .inl gf1)), (cd, .inr (1, [.ref o, .int (nI (da + z)), .int (nI de)])), (o, .inl (cI, N, .inl f)), (sp, .inr (5, [.int (nI lim), .ref sc, .int (nI (cnt + 1))])), (sc, .inl (cI, (lim * 6), .inl f2_5))] H := hP
            have hD : va_D A0 [(h, .inr (3, [.ref rm, .ref rg, .ref cf, .ref cd, .ref ck, .ref ca, .ref nr, .ref sr, .ref dl, .ref sp, .int (nI fl), .int (nI pl), .int (nI wn), .int sk, .int ss, .int sm, .int wf, .int we])), (rm, .inr (4, [.ref mo, .int (nI (mn + z)), .int mv])), (mo, .inl (cI, MN, .inl mf1)), (rg, .inl (cI, MN, .inl gf1)), (cd, .inr (1, [.ref o, .int (nI (da + z)), .int (nI de)])), (o, .inl (cI, N, .inl f)), (sp, .inr (5, [.int (nI lim), .ref sc, .int (nI (cnt + 1))])), (sc, .inl (cI, (lim * 6), .inl f2_5))] := hD
            exact hret 100 ls _ _ (fl, pl, da + z, mn + z, mf1, gf1, cnt + 1, f2_5) dX3_runData_100 hP hD hS (⟨fun q => absurd q hok, fun _ => ⟨rfl, rfl, by rw [needD, if_neg hk2], rfl, by rw [datM, if_neg hk2]; exact hm1, rfl, w_7⟩⟩)
          · have hiz : i < z := Nat.not_le.mp (fun q => c_4 (nI_le q (by omega)))
            have hdd : da + i < de := by omega
            refine lv_aload_n hx hb dX3_runData_56 rfl (lv_at hl 0 rfl) ?_
            refine lv_iload_n hx hb dX3_runData_57 rfl (lv_at hl 1 rfl) ?_
            refine lv_iconst (v := 2) hx hb dX3_runData_58 (by decide) ?_
            refine lv_icmp_ne (tgt := 67) hx hb dX3_runData_59 (by decide) (fun c_8 => ?_) (fun c_8 => absurd c_8 (fun q => hk2 ((nI_eq (b := 2) (by omega) (by decide)).mp q)))
            refine lv_aload_n hx hb dX3_runData_67 rfl (lv_at hl 0 rfl) ?_
            refine va_get (D := D) (ci := 3) (v := .ref cd) (C := RX3) (T := TX3) (N := 18) hx hb hts in_X3 hown hK hP 0 rfl rfl 3 (by decide) (hts _ kX3_18) (fun _ h9 => h9) rfl dX3_runData_68 ?_
            refine jn_i (wr := [(h, .inr (3, [.ref rm, .ref rg, .ref cf, .ref cd, .ref ck, .ref ca, .ref nr, .ref sr, .ref dl, .ref sp, .int (nI fl), .int (nI pl), .int (nI wn), .int sk, .int ss, .int sm, .int wf, .int we])), (rm, .inr (4, [.ref mo, .int (nI (mn + i)), .int mv])), (mo, .inl (cI, MN, .inl mf1)), (rg, .inl (cI, MN, .inl gf1)), (sp, .inr (5, [.int (nI lim), .ref sc, .int (nI cnt)])), (sc, .inl (cI, (lim * 6), .inl tf))]) hA hP hD hS [4, 5] [0, 1, 2, 3, 6, 7] rfl rfl (by decide) (by decide) (rn_V (As := []) (rest := [.ref h]) ⟨hx, hb, hml, hown, hts⟩ (cvV 0 hts zc_yX1_nextOctet zi_X1 zm_yX1_nextOctet zv_yX1_nextOctet kX3_83 (by decide +kernel) rfl rfl ⟨Nat.le_of_ble_eq_true rfl, Nat.le_of_ble_eq_true rfl⟩) (c_Cursor_nextOctet l D cI cB cJ cR cd o N (da + i) de f (by omega) (hde) (by omega) H.size) hK hNw hMk hA hP hD hS [4, 5] rfl rfl (by decide) 0 rfl rfl rfl rfl hl.1 rfl (Nat.le_of_ble_eq_true rfl) dX3_runData_71 ⟨Nat.le_of_ble_eq_true rfl, Nat.le_of_ble_eq_true rfl⟩) (fun rv u9 H locs hnv hP hD hS => ?_)
            obtain ⟨da1, rfl⟩ : ∃ z9, z9 = u9 := ⟨_, rfl⟩
            try dsimp only at hnv
            have hP : va_P D vwCl [(h, .inr (3, [.ref rm, .ref rg, .ref cf, .ref cd, .ref ck, .ref ca, .ref nr, .ref sr, .ref dl, .ref sp, .int (nI fl), .int (nI pl), .int (nI wn), .int sk, .int ss, .int sm, .int wf, .int we])), (rm, .inr (4, [.ref mo, .int (nI (mn + i)), .int mv])), (mo, .inl (cI, MN, .inl mf1)), (rg, .inl (cI, MN, .inl gf1)), (sp, .inr (5, [.int (nI lim), .ref sc, .int (nI cnt)])), (sc, .inl (cI, (lim * 6), .inl tf)), (cd, .inr (1, [.ref o, .int (nI da1), .int (nI de)])), (o, .inl (cI, N, .inl f))] H := hP
            have hD : va_D A0 [(h, .inr (3, [.ref rm, .ref rg, .ref cf, .ref cd, .ref ck, .ref ca, .ref nr, .ref sr, .ref dl, .ref sp, .int (nI fl), .int (nI pl), .int (nI wn), .int sk, .int ss, .int sm, .int wf, .int we])), (rm, .inr (4, [.ref mo, .int (nI (mn + i)), .int mv])), (mo, .inl (cI, MN, .inl mf1)), (rg, .inl (cI, MN, .inl gf1)), (sp, .inr (5, [.int (nI lim), .ref sc, .int (nI cnt)])), (sc, .inl (cI, (lim * 6), .inl tf)), (cd, .inr (1, [.ref o, .int (nI da1), .int (nI de)])), (o, .inl (cI, N, .inl f))] := hD
            rw [if_pos hdd, if_pos hdd, (hob _ hdd).1] at hnv
            obtain ⟨e1, e2⟩ := hnv
            subst e1
            subst e2
            refine lv_iconst (v := -1) hx hb dX3_runData_74 (by decide) ?_
            refine jn_v (wr := [(sp, .inr (5, [.int (nI lim), .ref sc, .int (nI cnt)])), (sc, .inl (cI, (lim * 6), .inl tf)), (cd, .inr (1, [.ref o, .int (nI (da + i + 1)), .int (nI de)])), (o, .inl (cI, N, .inl f))]) hA hP hD hS [0, 1, 2, 3] [4, 5, 6, 7] rfl rfl (by decide) (by decide) (rn_V (As := [.int (nI (b (da + i))), .int (-1)]) (rest := []) ⟨hx, hb, hml, hown, hts⟩ (cvV 2 hts zc_yX3_make zi_X3 zm_yX3_make zv_yX3_make kX3_174 (by decide +kernel) rfl rfl ⟨Nat.le_of_ble_eq_true rfl, Nat.le_of_ble_eq_true rfl⟩) (c_Reader_make l D cI cB cJ cR h rm rg cf cd ck ca nr sr dl sp (nI wn) sk ss sm wf we fl pl mo MN (mn + i) mf1 mv gf1 (nI (b (da + i))) (-1) (hMN) (by omega) H.size) hK hNw hMk hA hP hD hS [0, 1, 2, 3] rfl rfl (by decide) 0 rfl rfl rfl rfl hl.1 rfl (Nat.le_of_ble_eq_true rfl) dX3_runData_75 ⟨Nat.le_of_ble_eq_true rfl, Nat.le_of_ble_eq_true rfl⟩) (fun u9 H locs w_10 hP hD hS => ?_)
            try dsimp only at w_10
            have hP : va_P D vwCl [(sp, .inr (5, [.int (nI lim), .ref sc, .int (nI cnt)])), (sc, .inl (cI, (lim * 6), .inl tf)), (cd, .inr (1, [.ref o, .int (nI (da + i + 1)), .int (nI de)])), (o, .inl (cI, N, .inl f)), (h, .inr (3, [.ref rm, .ref rg, .ref cf, .ref cd, .ref ck, .ref ca, .ref nr, .ref sr, .ref dl, .ref sp, .int (nI fl), .int (nI pl), .int (nI wn), .int sk, .int ss, .int sm, .int wf, .int we])), (rm, .inr (4, [.ref mo, .int (nI ((mn + i) + 1)), .int mv])), (mo, .inl (cI, MN, .inl (upd mf1 (mn + i) (nI (b (da + i)))))), (rg, .inl (cI, MN, .inl (upd gf1 (mn + i) (-1))))] H := hP
            have hD : va_D A0 [(sp, .inr (5, [.int (nI lim), .ref sc, .int (nI cnt)])), (sc, .inl (cI, (lim * 6), .inl tf)), (cd, .inr (1, [.ref o, .int (nI (da + i + 1)), .int (nI de)])), (o, .inl (cI, N, .inl f)), (h, .inr (3, [.ref rm, .ref rg, .ref cf, .ref cd, .ref ck, .ref ca, .ref nr, .ref sr, .ref dl, .ref sp, .int (nI fl), .int (nI pl), .int (nI wn), .int sk, .int ss, .int sm, .int wf, .int we])), (rm, .inr (4, [.ref mo, .int (nI ((mn + i) + 1)), .int mv])), (mo, .inl (cI, MN, .inl (upd mf1 (mn + i) (nI (b (da + i)))))), (rg, .inl (cI, MN, .inl (upd gf1 (mn + i) (-1))))] := hD
            have hn9 := addM_n (b := b) i da (B, G, mn)
            have hm2 := made_push (o := -1) hm1 (hob _ hdd).2
            rw [show (addM b i da (B, G, mn)).2.2 = mn + i from hn9] at hm2
            refine lv_iinc (v := nI (i + 1)) (lv' := [(6, .int (nI (i + 1))), (0, .ref h), (1, .int (nI kd)), (2, .int (nI z)), (3, .int (nI co)), (4, .int (nI wh)), (5, .int 0)]) hx hb dX3_runData_78 hl (k := 6) rfl (nI_add i 1) (by decide) rfl (fun ls hl => ?_)
            refine lv_goto (tgt := 50) hx hb dX3_runData_81 (by decide) ?_
            exact ih (i + 1) (upd mf1 (mn + i) (nI (b (da + i)))) (upd gf1 (mn + i) (-1)) _ _ ls (by omega) (by omega) (by rw [addM_s]; exact hm2) (hP.sub [4, 5, 6, 7, 2, 3, 0, 1] rfl) (hD.sub [4, 5, 6, 7, 2, 3, 0, 1] (by decide) rfl) hS (lv_sub hl [1, 2, 3, 4, 5, 6, 0] rfl)
      exact loop _ 0 mf gf _ _ ls (Nat.lt_succ_self _) (Nat.zero_le _) (hm) (hP.sub [0, 1, 2, 3, 7, 4, 5, 6] rfl) (hD.sub [0, 1, 2, 3, 7, 4, 5, 6] (by decide) rfl) hS (lv_sub hl [2, 3, 4, 5, 6, 1, 0] rfl)
    · have hlk : de - da < needD kd z := by rw [needD, if_neg hk2]; exact Nat.not_le.mp (fun q => c_2 (nI_le q (by omega)))
      refine lv_aload_n hx hb dX3_runData_20 rfl (lv_at hl 0 rfl) ?_
      refine lv_bipush (v := 12) hx hb dX3_runData_21 (by decide) ?_
      refine lv_iload hx hb dX3_runData_23 (lv_at hl 4 rfl) ?_
      refine jn_v (wr := [(rm, .inr (4, [.ref mo, .int (nI mn), .int mv])), (mo, .inl (cI, MN, .inl mf)), (rg, .inl (cI, MN, .inl gf)), (o, .inl (cI, N, .inl f)), (sp, .inr (5, [.int (nI lim), .ref sc, .int (nI cnt)])), (sc, .inl (cI, (lim * 6), .inl tf)), (cd, .inr (1, [.ref o, .int (nI da), .int (nI de)]))]) hA hP hD hS [0] [1, 2, 3, 4, 5, 6, 7] rfl rfl (by decide) (by decide) (rn_V (As := [.int (nI 12), .int (nI wh)]) (rest := []) ⟨hx, hb, hml, hown, hts⟩ (cvV 2 hts zc_yX3_fail zi_X3 zm_yX3_fail zv_yX3_fail kX3_90 (by decide +kernel) rfl rfl ⟨Nat.le_of_ble_eq_true rfl, Nat.le_of_ble_eq_true rfl⟩) (c_Reader_fail l D cI cB cJ cR h rm rg cf cd ck ca nr sr dl sp (nI wn) sk ss sm wf we fl pl 12 wh (hfl) H.size) hK hNw hMk hA hP hD hS [0] rfl rfl (by decide) 0 rfl rfl rfl rfl hl.1 rfl (Nat.le_of_ble_eq_true rfl) dX3_runData_25 ⟨Nat.le_of_ble_eq_true rfl, Nat.le_of_ble_eq_true rfl⟩) (fun u9 H locs t1 hP hD hS => ?_)
      obtain ⟨fl1, pl1⟩ := u9
      try dsimp only at t1
      have hP : va_P D vwCl [(rm, .inr (4, [.ref mo, .int (nI mn), .int mv])), (mo, .inl (cI, MN, .inl mf)), (rg, .inl (cI, MN, .inl gf)), (o, .inl (cI, N, .inl f)), (sp, .inr (5, [.int (nI lim), .ref sc, .int (nI cnt)])), (sc, .inl (cI, (lim * 6), .inl tf)), (cd, .inr (1, [.ref o, .int (nI da), .int (nI de)])), (h, .inr (3, [.ref rm, .ref rg, .ref cf, .ref cd, .ref ck, .ref ca, .ref nr, .ref sr, .ref dl, .ref sp, .int (nI fl1), .int (nI pl1), .int (nI wn), .int sk, .int ss, .int sm, .int wf, .int we]))] H := hP
      have hD : va_D A0 [(rm, .inr (4, [.ref mo, .int (nI mn), .int mv])), (mo, .inl (cI, MN, .inl mf)), (rg, .inl (cI, MN, .inl gf)), (o, .inl (cI, N, .inl f)), (sp, .inr (5, [.int (nI lim), .ref sc, .int (nI cnt)])), (sc, .inl (cI, (lim * 6), .inl tf)), (cd, .inr (1, [.ref o, .int (nI da), .int (nI de)])), (h, .inr (3, [.ref rm, .ref rg, .ref cf, .ref cd, .ref ck, .ref ca, .ref nr, .ref sr, .ref dl, .ref sp, .int (nI fl1), .int (nI pl1), .int (nI wn), .int sk, .int ss, .int sm, .int wf, .int we]))] := hD
      have hf1 := fl_ok hfl (by decide) t1
      have hP := hP.sub (ws' := [(h, .inr (3, [.ref rm, .ref rg, .ref cf, .ref cd, .ref ck, .ref ca, .ref nr, .ref sr, .ref dl, .ref sp, .int (nI fl1), .int (nI pl1), .int (nI wn), .int sk, .int ss, .int sm, .int wf, .int we])), (rm, .inr (4, [.ref mo, .int (nI mn), .int mv])), (mo, .inl (cI, MN, .inl mf)), (rg, .inl (cI, MN, .inl gf)), (cd, .inr (1, [.ref o, .int (nI da), .int (nI de)])), (o, .inl (cI, N, .inl f)), (sp, .inr (5, [.int (nI lim), .ref sc, .int (nI cnt)])), (sc, .inl (cI, (lim * 6), .inl tf))]) [7, 0, 1, 2, 6, 3, 4, 5] rfl
      have hD := hD.sub (ws' := [(h, .inr (3, [.ref rm, .ref rg, .ref cf, .ref cd, .ref ck, .ref ca, .ref nr, .ref sr, .ref dl, .ref sp, .int (nI fl1), .int (nI pl1), .int (nI wn), .int sk, .int ss, .int sm, .int wf, .int we])), (rm, .inr (4, [.ref mo, .int (nI mn), .int mv])), (mo, .inl (cI, MN, .inl mf)), (rg, .inl (cI, MN, .inl gf)), (cd, .inr (1, [.ref o, .int (nI da), .int (nI de)])), (o, .inl (cI, N, .inl f)), (sp, .inr (5, [.int (nI lim), .ref sc, .int (nI cnt)])), (sc, .inl (cI, (lim * 6), .inl tf))]) [7, 0, 1, 2, 6, 3, 4, 5] (by decide) rfl
      exact hret 28 ls _ _ (fl1, pl1, da, mn, mf, gf, cnt, tf) dX3_runData_28 hP hD hS (⟨fun _ => ⟨t1, rfl, rfl, rfl, rfl, rfl, rfl⟩, fun q => absurd hlk q⟩)
  · have hk2 : kd = 2 := (nI_eq (b := 2) (by omega) (by decide)).mp c_1
    refine lv_iconst (v := 1) hx hb dX3_runData_12 (by decide) ?_
    refine lv_goto (tgt := 17) hx hb dX3_runData_13 (by decide) ?_
    refine ri (y := nI 1) (rfl) ?_
    refine lv_icmp_ge (tgt := 29) hx hb dX3_runData_17 (by decide) (fun c_12 => ?_) (fun c_12 => ?_)
    · have hok : ¬ de - da < needD kd z := by rw [needD, if_pos hk2]; have := (nI_leI (a := 1) (by decide) (by omega)).mp c_12; omega
      have hdd : da < de := by rw [needD, if_pos hk2] at hok; omega
      refine lv_iload_n hx hb dX3_runData_29 rfl (lv_at hl 1 rfl) ?_
      refine lv_iconst (v := 2) hx hb dX3_runData_30 (by decide) ?_
      refine lv_icmp_ne (tgt := 44) hx hb dX3_runData_31 (by decide) (fun c_13 => absurd (by rw [hk2]; rfl) c_13) (fun c_13 => ?_)
      refine lv_aload_n hx hb dX3_runData_34 rfl (lv_at hl 0 rfl) ?_
      refine va_get (D := D) (ci := 3) (v := .ref cd) (C := RX3) (T := TX3) (N := 18) hx hb hts in_X3 hown hK hP 0 rfl rfl 3 (by decide) (hts _ kX3_18) (fun _ h9 => h9) rfl dX3_runData_35 ?_
      refine jn_i (wr := [(h, .inr (3, [.ref rm, .ref rg, .ref cf, .ref cd, .ref ck, .ref ca, .ref nr, .ref sr, .ref dl, .ref sp, .int (nI fl), .int (nI pl), .int (nI wn), .int sk, .int ss, .int sm, .int wf, .int we])), (rm, .inr (4, [.ref mo, .int (nI mn), .int mv])), (mo, .inl (cI, MN, .inl mf)), (rg, .inl (cI, MN, .inl gf)), (sp, .inr (5, [.int (nI lim), .ref sc, .int (nI cnt)])), (sc, .inl (cI, (lim * 6), .inl tf))]) hA hP hD hS [7, 4] [0, 1, 2, 3, 5, 6] rfl rfl (by decide) (by decide) (rn_V (As := []) (rest := []) ⟨hx, hb, hml, hown, hts⟩ (cvV 0 hts zc_yX1_nextOctet zi_X1 zm_yX1_nextOctet zv_yX1_nextOctet kX3_83 (by decide +kernel) rfl rfl ⟨Nat.le_of_ble_eq_true rfl, Nat.le_of_ble_eq_true rfl⟩) (c_Cursor_nextOctet l D cI cB cJ cR cd o N da de f (by omega) (hde) (by omega) H.size) hK hNw hMk hA hP hD hS [7, 4] rfl rfl (by decide) 0 rfl rfl rfl rfl hl.1 rfl (Nat.le_of_ble_eq_true rfl) dX3_runData_38 ⟨Nat.le_of_ble_eq_true rfl, Nat.le_of_ble_eq_true rfl⟩) (fun rv u9 H locs hnv hP hD hS => ?_)
      obtain ⟨da1, rfl⟩ : ∃ z9, z9 = u9 := ⟨_, rfl⟩
      try dsimp only at hnv
      have hP : va_P D vwCl [(h, .inr (3, [.ref rm, .ref rg, .ref cf, .ref cd, .ref ck, .ref ca, .ref nr, .ref sr, .ref dl, .ref sp, .int (nI fl), .int (nI pl), .int (nI wn), .int sk, .int ss, .int sm, .int wf, .int we])), (rm, .inr (4, [.ref mo, .int (nI mn), .int mv])), (mo, .inl (cI, MN, .inl mf)), (rg, .inl (cI, MN, .inl gf)), (sp, .inr (5, [.int (nI lim), .ref sc, .int (nI cnt)])), (sc, .inl (cI, (lim * 6), .inl tf)), (cd, .inr (1, [.ref o, .int (nI da1), .int (nI de)])), (o, .inl (cI, N, .inl f))] H := hP
      have hD : va_D A0 [(h, .inr (3, [.ref rm, .ref rg, .ref cf, .ref cd, .ref ck, .ref ca, .ref nr, .ref sr, .ref dl, .ref sp, .int (nI fl), .int (nI pl), .int (nI wn), .int sk, .int ss, .int sm, .int wf, .int we])), (rm, .inr (4, [.ref mo, .int (nI mn), .int mv])), (mo, .inl (cI, MN, .inl mf)), (rg, .inl (cI, MN, .inl gf)), (sp, .inr (5, [.int (nI lim), .ref sc, .int (nI cnt)])), (sc, .inl (cI, (lim * 6), .inl tf)), (cd, .inr (1, [.ref o, .int (nI da1), .int (nI de)])), (o, .inl (cI, N, .inl f))] := hD
      rw [if_pos hdd, if_pos hdd, (hob da hdd).1] at hnv
      obtain ⟨e1, e2⟩ := hnv
      subst e1
      subst e2
      refine lv_goto (tgt := 45) hx hb dX3_runData_41 (by decide) ?_
      refine lv_istore (lv' := [(5, .int (nI (b da))), (0, .ref h), (1, .int (nI kd)), (2, .int (nI z)), (3, .int (nI co)), (4, .int (nI wh))]) hx hb dX3_runData_45 hl (by decide) rfl (fun ls hl => ?_)
      refine lv_iconst (v := 0) hx hb dX3_runData_47 (by decide) ?_
      refine ri (y := nI 0) (nI_0.symm) ?_
      refine lv_istore (lv' := [(6, .int (nI 0)), (5, .int (nI (b da))), (0, .ref h), (1, .int (nI kd)), (2, .int (nI z)), (3, .int (nI co)), (4, .int (nI wh))]) hx hb dX3_runData_48 hl (by decide) rfl (fun ls hl => ?_)
      have loop : ∀ (k9 : Nat) (i : Nat) (mf1 : Nat → Int32) (gf1 : Nat → Int32) (H : Heap) (locs : List Loc) (ls : Array Slot), z - i < k9 → (i ≤ z) → (madeIs mf1 gf1 (runM (b da) i (B, G, mn))) → va_P D vwCl [(h, .inr (3, [.ref rm, .ref rg, .ref cf, .ref cd, .ref ck, .ref ca, .ref nr, .ref sr, .ref dl, .ref sp, .int (nI fl), .int (nI pl), .int (nI wn), .int sk, .int ss, .int sm, .int wf, .int we])), (rm, .inr (4, [.ref mo, .int (nI (mn + i)), .int mv])), (mo, .inl (cI, MN, .inl mf1)), (rg, .inl (cI, MN, .inl gf1)), (cd, .inr (1, [.ref o, .int (nI (da + 1)), .int (nI de)])), (o, .inl (cI, N, .inl f)), (sp, .inr (5, [.int (nI lim), .ref sc, .int (nI cnt)])), (sc, .inl (cI, (lim * 6), .inl tf))] H → va_D A0 [(h, .inr (3, [.ref rm, .ref rg, .ref cf, .ref cd, .ref ck, .ref ca, .ref nr, .ref sr, .ref dl, .ref sp, .int (nI fl), .int (nI pl), .int (nI wn), .int sk, .int ss, .int sm, .int wf, .int we])), (rm, .inr (4, [.ref mo, .int (nI (mn + i)), .int mv])), (mo, .inl (cI, MN, .inl mf1)), (rg, .inl (cI, MN, .inl gf1)), (cd, .inr (1, [.ref o, .int (nI (da + 1)), .int (nI de)])), (o, .inl (cI, N, .inl f)), (sp, .inr (5, [.int (nI lim), .ref sc, .int (nI cnt)])), (sc, .inl (cI, (lim * 6), .inl tf))] → va_S A0 s0.heap H locs → lv_has ls 7 [(0, .ref h), (1, .int (nI kd)), (2, .int (nI z)), (3, .int (nI co)), (4, .int (nI wh)), (5, .int (nI (b da))), (6, .int (nI i))] → W p0 l e0 ({ frames := 1, cells := 0, slots := 0, locals := 27 }) s0 m0 ([.ref h, .int (nI kd), .int (nI z), .int (nI co), .int (nI wh)] : List Value).toArray below meth c0 H locs 0 0 Q0 (F0 m0 50 ls []) := by
        intro k9
        induction k9 with
        | zero => intro i mf1 gf1 H locs ls hk9; exact absurd hk9 (Nat.not_lt_zero _)
        | succ k9 ih =>
          intro i mf1 gf1 H locs ls hk9 hi hm1 hP hD hS hl
          refine lv_iload hx hb dX3_runData_50 (lv_at hl 6 rfl) ?_
          refine lv_iload_n hx hb dX3_runData_52 rfl (lv_at hl 2 rfl) ?_
          refine lv_icmp_ge (tgt := 84) hx hb dX3_runData_53 (by decide) (fun c_14 => ?_) (fun c_14 => ?_)
          · have hiz : i = z := by have := (nI_leI (by omega) (by omega)).mp c_14; omega
            have hiz2 := hiz.symm
            subst hiz2
            refine lv_aload_n hx hb dX3_runData_84 rfl (lv_at hl 0 rfl) ?_
            refine va_get (D := D) (ci := 3) (v := .ref sp) (C := RX3) (T := TX3) (N := 18) hx hb hts in_X3 hown hK hP 0 rfl rfl 9 (by decide) (hts _ kX3_62) (fun _ h9 => h9) rfl dX3_runData_85 ?_
            refine lv_iload_n hx hb dX3_runData_88 rfl (lv_at hl 1 rfl) ?_
            refine lv_iload_n hx hb dX3_runData_89 rfl (lv_at hl 2 rfl) ?_
            refine lv_iconst (v := 0) hx hb dX3_runData_90 (by decide) ?_
            refine lv_iconst (v := 0) hx hb dX3_runData_91 (by decide) ?_
            refine lv_iload_n hx hb dX3_runData_92 rfl (lv_at hl 3 rfl) ?_
            refine lv_aload_n hx hb dX3_runData_93 rfl (lv_at hl 0 rfl) ?_
            refine va_get (D := D) (ci := 3) (v := .int (nI wn)) (C := RX3) (T := TX3) (N := 18) hx hb hts in_X3 hown hK hP 0 rfl rfl 12 (by decide) (hts _ kX3_80) (fun _ h9 => h9) rfl dX3_runData_94 ?_
            refine jn_v (wr := [(h, .inr (3, [.ref rm, .ref rg, .ref cf, .ref cd, .ref ck, .ref ca, .ref nr, .ref sr, .ref dl, .ref sp, .int (nI fl), .int (nI pl), .int (nI wn), .int sk, .int ss, .int sm, .int wf, .int we])), (rm, .inr (4, [.ref mo, .int (nI (mn + z)), .int mv])), (mo, .inl (cI, MN, .inl mf1)), (rg, .inl (cI, MN, .inl gf1)), (cd, .inr (1, [.ref o, .int (nI (da + 1)), .int (nI de)])), (o, .inl (cI, N, .inl f))]) hA hP hD hS [6, 7] [0, 1, 2, 3, 4, 5] rfl rfl (by decide) (by decide) (rn_V (As := [.int (nI kd), .int (nI z), .int 0, .int 0, .int (nI co), .int (nI wn)]) (rest := []) ⟨hx, hb, hml, hown, hts⟩ (cvV 6 hts zc_yX5_put zi_X5 zm_yX5_put zv_yX5_put kX3_177 (by decide +kernel) rfl rfl ⟨Nat.le_of_ble_eq_true rfl, Nat.le_of_ble_eq_true rfl⟩) (c_Steps_put l D cI cB cJ cR sp sc lim cnt g tf (nI kd) (nI z) 0 0 (nI co) (nI wn) (hlm) (by omega) (hst) H.size) hK hNw hMk hA hP hD hS [6, 7] rfl rfl (by decide) 0 rfl rfl rfl rfl hl.1 rfl (Nat.le_of_ble_eq_true rfl) dX3_runData_97 ⟨Nat.le_of_ble_eq_true rfl, Nat.le_of_ble_eq_true rfl⟩) (fun u9 H locs w_17 hP hD hS => ?_)
            obtain ⟨f2_15, rfl⟩ : ∃ z9, z9 = u9 := ⟨_, rfl⟩
            try dsimp only at w_17
            have hP : va_P D vwCl [(h, .inr (3, [.ref rm, .ref rg, .ref cf, .ref cd, .ref ck, .ref ca, .ref nr, .ref sr, .ref dl, .ref sp, .int (nI fl), .int (nI pl), .int (nI wn), .int sk, .int ss, .int sm, .int wf, .int we])), (rm, .inr (4, [.ref mo, .int (nI (mn + z)), .int mv])), (mo, .inl (cI, MN, .inl mf1)), (rg, .inl (cI, MN, .inl gf1)), (cd, .inr (1, [.ref o, .int (nI (da + 1)), .int (nI de)])), (o, .inl (cI, N, .inl f)), (sp, .inr (5, [.int (nI lim), .ref sc, .int (nI (cnt + 1))])), (sc, .inl (cI, (lim * 6), .inl f2_15))] H := hP
            have hD : va_D A0 [(h, .inr (3, [.ref rm, .ref rg, .ref cf, .ref cd, .ref ck, .ref ca, .ref nr, .ref sr, .ref dl, .ref sp, .int (nI fl), .int (nI pl), .int (nI wn), .int sk, .int ss, .int sm, .int wf, .int we])), (rm, .inr (4, [.ref mo, .int (nI (mn + z)), .int mv])), (mo, .inl (cI, MN, .inl mf1)), (rg, .inl (cI, MN, .inl gf1)), (cd, .inr (1, [.ref o, .int (nI (da + 1)), .int (nI de)])), (o, .inl (cI, N, .inl f)), (sp, .inr (5, [.int (nI lim), .ref sc, .int (nI (cnt + 1))])), (sc, .inl (cI, (lim * 6), .inl f2_15))] := hD
            exact hret 100 ls _ _ (fl, pl, da + 1, mn + z, mf1, gf1, cnt + 1, f2_15) dX3_runData_100 hP hD hS (⟨fun q => absurd q hok, fun _ => ⟨rfl, rfl, by rw [needD, if_pos hk2], rfl, by rw [datM, if_pos hk2]; exact hm1, rfl, w_17⟩⟩)
          · have hiz : i < z := Nat.not_le.mp (fun q => c_14 (nI_le q (by omega)))
            refine lv_aload_n hx hb dX3_runData_56 rfl (lv_at hl 0 rfl) ?_
            refine lv_iload_n hx hb dX3_runData_57 rfl (lv_at hl 1 rfl) ?_
            refine lv_iconst (v := 2) hx hb dX3_runData_58 (by decide) ?_
            refine lv_icmp_ne (tgt := 67) hx hb dX3_runData_59 (by decide) (fun c_18 => absurd (by rw [hk2]; rfl) c_18) (fun c_18 => ?_)
            refine lv_iload hx hb dX3_runData_62 (lv_at hl 5 rfl) ?_
            refine lv_goto (tgt := 74) hx hb dX3_runData_64 (by decide) ?_
            refine lv_iconst (v := -1) hx hb dX3_runData_74 (by decide) ?_
            refine jn_v (wr := [(cd, .inr (1, [.ref o, .int (nI (da + 1)), .int (nI de)])), (o, .inl (cI, N, .inl f)), (sp, .inr (5, [.int (nI lim), .ref sc, .int (nI cnt)])), (sc, .inl (cI, (lim * 6), .inl tf))]) hA hP hD hS [0, 1, 2, 3] [4, 5, 6, 7] rfl rfl (by decide) (by decide) (rn_V (As := [.int (nI (b da)), .int (-1)]) (rest := []) ⟨hx, hb, hml, hown, hts⟩ (cvV 2 hts zc_yX3_make zi_X3 zm_yX3_make zv_yX3_make kX3_174 (by decide +kernel) rfl rfl ⟨Nat.le_of_ble_eq_true rfl, Nat.le_of_ble_eq_true rfl⟩) (c_Reader_make l D cI cB cJ cR h rm rg cf cd ck ca nr sr dl sp (nI wn) sk ss sm wf we fl pl mo MN (mn + i) mf1 mv gf1 (nI (b da)) (-1) (hMN) (by omega) H.size) hK hNw hMk hA hP hD hS [0, 1, 2, 3] rfl rfl (by decide) 0 rfl rfl rfl rfl hl.1 rfl (Nat.le_of_ble_eq_true rfl) dX3_runData_75 ⟨Nat.le_of_ble_eq_true rfl, Nat.le_of_ble_eq_true rfl⟩) (fun u9 H locs w_20 hP hD hS => ?_)
            try dsimp only at w_20
            have hP : va_P D vwCl [(cd, .inr (1, [.ref o, .int (nI (da + 1)), .int (nI de)])), (o, .inl (cI, N, .inl f)), (sp, .inr (5, [.int (nI lim), .ref sc, .int (nI cnt)])), (sc, .inl (cI, (lim * 6), .inl tf)), (h, .inr (3, [.ref rm, .ref rg, .ref cf, .ref cd, .ref ck, .ref ca, .ref nr, .ref sr, .ref dl, .ref sp, .int (nI fl), .int (nI pl), .int (nI wn), .int sk, .int ss, .int sm, .int wf, .int we])), (rm, .inr (4, [.ref mo, .int (nI ((mn + i) + 1)), .int mv])), (mo, .inl (cI, MN, .inl (upd mf1 (mn + i) (nI (b da))))), (rg, .inl (cI, MN, .inl (upd gf1 (mn + i) (-1))))] H := hP
            have hD : va_D A0 [(cd, .inr (1, [.ref o, .int (nI (da + 1)), .int (nI de)])), (o, .inl (cI, N, .inl f)), (sp, .inr (5, [.int (nI lim), .ref sc, .int (nI cnt)])), (sc, .inl (cI, (lim * 6), .inl tf)), (h, .inr (3, [.ref rm, .ref rg, .ref cf, .ref cd, .ref ck, .ref ca, .ref nr, .ref sr, .ref dl, .ref sp, .int (nI fl), .int (nI pl), .int (nI wn), .int sk, .int ss, .int sm, .int wf, .int we])), (rm, .inr (4, [.ref mo, .int (nI ((mn + i) + 1)), .int mv])), (mo, .inl (cI, MN, .inl (upd mf1 (mn + i) (nI (b da))))), (rg, .inl (cI, MN, .inl (upd gf1 (mn + i) (-1))))] := hD
            have hn9 := runM_n (v := b da) i (B, G, mn)
            have hm2 := made_push (o := -1) hm1 (hob da hdd).2
            rw [show (runM (b da) i (B, G, mn)).2.2 = mn + i from hn9] at hm2
            refine lv_iinc (v := nI (i + 1)) (lv' := [(6, .int (nI (i + 1))), (0, .ref h), (1, .int (nI kd)), (2, .int (nI z)), (3, .int (nI co)), (4, .int (nI wh)), (5, .int (nI (b da)))]) hx hb dX3_runData_78 hl (k := 6) rfl (nI_add i 1) (by decide) rfl (fun ls hl => ?_)
            refine lv_goto (tgt := 50) hx hb dX3_runData_81 (by decide) ?_
            exact ih (i + 1) (upd mf1 (mn + i) (nI (b da))) (upd gf1 (mn + i) (-1)) _ _ ls (by omega) (by omega) (by rw [runM_s]; exact hm2) (hP.sub [4, 5, 6, 7, 0, 1, 2, 3] rfl) (hD.sub [4, 5, 6, 7, 0, 1, 2, 3] (by decide) rfl) hS (lv_sub hl [1, 2, 3, 4, 5, 6, 0] rfl)
      exact loop _ 0 mf gf _ _ ls (Nat.lt_succ_self _) (Nat.zero_le _) (hm) (hP.sub [0, 1, 2, 3, 6, 7, 4, 5] rfl) (hD.sub [0, 1, 2, 3, 6, 7, 4, 5] (by decide) rfl) hS (lv_sub hl [2, 3, 4, 5, 6, 1, 0] rfl)
    · have hlk : de - da < needD kd z := by rw [needD, if_pos hk2]; exact Nat.not_le.mp (fun q => c_12 (nI_le q (by omega)))
      refine lv_aload_n hx hb dX3_runData_20 rfl (lv_at hl 0 rfl) ?_
      refine lv_bipush (v := 12) hx hb dX3_runData_21 (by decide) ?_
      refine lv_iload hx hb dX3_runData_23 (lv_at hl 4 rfl) ?_
      refine jn_v (wr := [(rm, .inr (4, [.ref mo, .int (nI mn), .int mv])), (mo, .inl (cI, MN, .inl mf)), (rg, .inl (cI, MN, .inl gf)), (o, .inl (cI, N, .inl f)), (sp, .inr (5, [.int (nI lim), .ref sc, .int (nI cnt)])), (sc, .inl (cI, (lim * 6), .inl tf)), (cd, .inr (1, [.ref o, .int (nI da), .int (nI de)]))]) hA hP hD hS [0] [1, 2, 3, 4, 5, 6, 7] rfl rfl (by decide) (by decide) (rn_V (As := [.int (nI 12), .int (nI wh)]) (rest := []) ⟨hx, hb, hml, hown, hts⟩ (cvV 2 hts zc_yX3_fail zi_X3 zm_yX3_fail zv_yX3_fail kX3_90 (by decide +kernel) rfl rfl ⟨Nat.le_of_ble_eq_true rfl, Nat.le_of_ble_eq_true rfl⟩) (c_Reader_fail l D cI cB cJ cR h rm rg cf cd ck ca nr sr dl sp (nI wn) sk ss sm wf we fl pl 12 wh (hfl) H.size) hK hNw hMk hA hP hD hS [0] rfl rfl (by decide) 0 rfl rfl rfl rfl hl.1 rfl (Nat.le_of_ble_eq_true rfl) dX3_runData_25 ⟨Nat.le_of_ble_eq_true rfl, Nat.le_of_ble_eq_true rfl⟩) (fun u9 H locs t2 hP hD hS => ?_)
      obtain ⟨fl2, pl2⟩ := u9
      try dsimp only at t2
      have hP : va_P D vwCl [(rm, .inr (4, [.ref mo, .int (nI mn), .int mv])), (mo, .inl (cI, MN, .inl mf)), (rg, .inl (cI, MN, .inl gf)), (o, .inl (cI, N, .inl f)), (sp, .inr (5, [.int (nI lim), .ref sc, .int (nI cnt)])), (sc, .inl (cI, (lim * 6), .inl tf)), (cd, .inr (1, [.ref o, .int (nI da), .int (nI de)])), (h, .inr (3, [.ref rm, .ref rg, .ref cf, .ref cd, .ref ck, .ref ca, .ref nr, .ref sr, .ref dl, .ref sp, .int (nI fl2), .int (nI pl2), .int (nI wn), .int sk, .int ss, .int sm, .int wf, .int we]))] H := hP
      have hD : va_D A0 [(rm, .inr (4, [.ref mo, .int (nI mn), .int mv])), (mo, .inl (cI, MN, .inl mf)), (rg, .inl (cI, MN, .inl gf)), (o, .inl (cI, N, .inl f)), (sp, .inr (5, [.int (nI lim), .ref sc, .int (nI cnt)])), (sc, .inl (cI, (lim * 6), .inl tf)), (cd, .inr (1, [.ref o, .int (nI da), .int (nI de)])), (h, .inr (3, [.ref rm, .ref rg, .ref cf, .ref cd, .ref ck, .ref ca, .ref nr, .ref sr, .ref dl, .ref sp, .int (nI fl2), .int (nI pl2), .int (nI wn), .int sk, .int ss, .int sm, .int wf, .int we]))] := hD
      have hf2 := fl_ok hfl (by decide) t2
      have hP := hP.sub (ws' := [(h, .inr (3, [.ref rm, .ref rg, .ref cf, .ref cd, .ref ck, .ref ca, .ref nr, .ref sr, .ref dl, .ref sp, .int (nI fl2), .int (nI pl2), .int (nI wn), .int sk, .int ss, .int sm, .int wf, .int we])), (rm, .inr (4, [.ref mo, .int (nI mn), .int mv])), (mo, .inl (cI, MN, .inl mf)), (rg, .inl (cI, MN, .inl gf)), (cd, .inr (1, [.ref o, .int (nI da), .int (nI de)])), (o, .inl (cI, N, .inl f)), (sp, .inr (5, [.int (nI lim), .ref sc, .int (nI cnt)])), (sc, .inl (cI, (lim * 6), .inl tf))]) [7, 0, 1, 2, 6, 3, 4, 5] rfl
      have hD := hD.sub (ws' := [(h, .inr (3, [.ref rm, .ref rg, .ref cf, .ref cd, .ref ck, .ref ca, .ref nr, .ref sr, .ref dl, .ref sp, .int (nI fl2), .int (nI pl2), .int (nI wn), .int sk, .int ss, .int sm, .int wf, .int we])), (rm, .inr (4, [.ref mo, .int (nI mn), .int mv])), (mo, .inl (cI, MN, .inl mf)), (rg, .inl (cI, MN, .inl gf)), (cd, .inr (1, [.ref o, .int (nI da), .int (nI de)])), (o, .inl (cI, N, .inl f)), (sp, .inr (5, [.int (nI lim), .ref sc, .int (nI cnt)])), (sc, .inl (cI, (lim * 6), .inl tf))]) [7, 0, 1, 2, 6, 3, 4, 5] (by decide) rfl
      exact hret 28 ls _ _ (fl2, pl2, da, mn, mf, gf, cnt, tf) dX3_runData_28 hP hD hS (⟨fun _ => ⟨t2, rfl, rfl, rfl, rfl, rfl, rfl⟩, fun q => absurd hlk q⟩)
