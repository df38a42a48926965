/-! CHAINS of places whose next four octets fall together -/
theorem fst_ext {P : Nat → Bool} : ∀ (n lo : Nat), lo + n < 2 ^ 31 → fstC P (n + 1) lo = if fstC P n lo < 0 then (if P (lo + n) then nI (lo + n) else -1) else fstC P n lo
  | 0, lo => fun h => by
    rw [fstC, fstC, fstC, if_pos (show (-1 : Int32) < 0 by decide)]; rfl
  | n + 1, lo => fun h => by
    have ih := fst_ext (P := P) n (lo + 1) (by omega)
    rw [fstC]
    by_cases hp : P lo = true
    · rw [if_pos hp, show fstC P (n + 1) lo = nI lo by rw [fstC, if_pos hp], if_neg (nI_pos (by omega))]
    · rw [if_neg hp, ih, show fstC P (n + 1) lo = fstC P n (lo + 1) by rw [fstC, if_neg hp], show lo + 1 + n = lo + (n + 1) by omega]
theorem fst_congr {P P2 : Nat → Bool} : ∀ (n lo : Nat), (∀ d, lo ≤ d → d < lo + n → P d = P2 d) → fstC P n lo = fstC P2 n lo
  | 0, lo => fun _ => rfl
  | n + 1, lo => fun h => by
    rw [fstC, fstC, h lo (by omega) (by omega), fst_congr n (lo + 1) (fun d d1 d2 => h d (by omega) (by omega))]
def chnI (hs : Nat → Nat) (lo b : Nat) (fh fx ft : Nat → Int32) : Prop := (∀ x, x < 1024 → fh x = nxC hs x (b - lo) lo) ∧ (∀ a, lo ≤ a → a < b → fx a = nxC hs (hs a) (b - (a + 1)) (a + 1)) ∧ ∀ x, x < 1024 → ¬ fh x < 0 → ∃ a, lo ≤ a ∧ a < b ∧ hs a = x ∧ ft x = nI a ∧ ∀ d, a < d → d < b → ¬ hs d = x
theorem nx_ext {hs : Nat → Nat} {x lo b : Nat} (h : lo ≤ b) (hb : b < 2 ^ 30) : nxC hs x (b + 1 - lo) lo = if nxC hs x (b - lo) lo < 0 then (if hs b = x then nI b else -1) else nxC hs x (b - lo) lo := by
  have h1 := fst_ext (P := fun c => decide (hs c = x)) (b - lo) lo (by omega)
  rw [show b + 1 - lo = b - lo + 1 by omega]
  rw [show lo + (b - lo) = b by omega] at h1
  refine h1.trans ?_
  simp only [decide_eq_true_eq]
theorem chn_nil {hs : Nat → Nat} {lo : Nat} {fh fx ft : Nat → Int32} (h : ∀ x, x < 1024 → fh x = -1) : chnI hs lo lo fh fx ft := by
  refine ⟨fun x hx => by rw [h x hx, Nat.sub_self]; rfl, fun a h1 h2 => absurd h2 (by omega), fun x hx h1 => absurd (by rw [h x hx]; decide) h1⟩
theorem chn_new {hs : Nat → Nat} {lo b : Nat} {fh fx ft : Nat → Int32} (h : chnI hs lo b fh fx ft) (hl : lo ≤ b) (hb : b < 2 ^ 30) (hx : hs b < 1024) (h0 : fh (hs b) < 0) : chnI hs lo (b + 1) (upd fh (hs b) (nI b)) (upd fx b (-1)) (upd ft (hs b) (nI b)) := by
  obtain ⟨h1, h2, h3⟩ := h
  have hneg := h0
  rw [h1 _ hx] at hneg
  have hno := fst_neg _ _ (by omega) hneg
  refine ⟨fun x hxx => ?_, fun a a1 a2 => ?_, fun x hxx hp => ?_⟩
  · rw [nx_ext hl hb]
    by_cases q : x = hs b
    · subst q; rw [pk_us, if_pos hneg, if_pos rfl]
    · rw [pk_un q, h1 x hxx]
      by_cases w : nxC hs x (b - lo) lo < 0
      · rw [if_pos w, if_neg (fun z => q z.symm)]
        have w2 := fst_none (P := fun c => decide (hs c = x)) (b - lo) lo (fun c c1 c2 => fst_neg _ _ (by omega) w c c1 c2)
        exact w2
      · rw [if_neg w]
  · by_cases q : a = b
    · subst q; rw [pk_us, show a + 1 - (a + 1) = 0 by omega]; rfl
    · rw [pk_un q, h2 a a1 (by omega), nx_ext (show a + 1 ≤ b by omega) hb]
      have hne : ¬ hs b = hs a := fun z => of_decide_eq_false (hno a a1 (by omega)) z.symm
      by_cases w : nxC hs (hs a) (b - (a + 1)) (a + 1) < 0
      · rw [if_pos w, if_neg hne]
        exact fst_none (P := fun c => decide (hs c = hs a)) _ _ (fun c c1 c2 => fst_neg _ _ (by omega) w c c1 c2)
      · rw [if_neg w]
  · by_cases q : x = hs b
    · subst q; exact ⟨b, hl, by omega, rfl, pk_us, fun d d1 d2 => absurd d2 (by omega)⟩
    · rw [pk_un q] at hp
      obtain ⟨a, a1, a2, a3, a4, a5⟩ := h3 x hxx hp
      refine ⟨a, a1, by omega, a3, by rw [pk_un q]; exact a4, fun d d1 d2 => ?_⟩
      by_cases w : d = b
      · rw [w]; exact fun z => q z.symm
      · exact a5 d d1 (by omega)
theorem chn_more {hs : Nat → Nat} {lo b t : Nat} {fh fx ft : Nat → Int32} (h : chnI hs lo b fh fx ft) (hl : lo ≤ b) (hb : b < 2 ^ 30) (hx : hs b < 1024) (h0 : ¬ fh (hs b) < 0) (ht : ft (hs b) = nI t) (hlt : lo ≤ t ∧ t < b ∧ hs t = hs b ∧ ∀ d, t < d → d < b → ¬ hs d = hs b) : chnI hs lo (b + 1) fh (upd (upd fx b (-1)) t (nI b)) (upd ft (hs b) (nI b)) := by
  obtain ⟨h1, h2, h3⟩ := h
  obtain ⟨t1, t2, t3, t4⟩ := hlt
  refine ⟨fun x hxx => ?_, fun a a1 a2 => ?_, fun x hxx hp => ?_⟩
  · rw [nx_ext hl hb, h1 x hxx]
    by_cases w : nxC hs x (b - lo) lo < 0
    · rw [if_pos w]
      by_cases q : hs b = x
      · subst q; rw [h1 _ hxx] at h0; exact absurd w h0
      · rw [if_neg q]
        exact fst_none (P := fun c => decide (hs c = x)) _ _ (fun c c1 c2 => fst_neg _ _ (by omega) w c c1 c2)
    · rw [if_neg w]
  · by_cases q : a = b
    · subst q; rw [pk_un (by omega), pk_us, show a + 1 - (a + 1) = 0 by omega]; rfl
    · rw [nx_ext (show a + 1 ≤ b by omega) hb]
      by_cases w : a = t
      · subst w
        rw [pk_us, if_pos (by
          rw [show nxC hs (hs a) (b - (a + 1)) (a + 1) = -1 from fst_none (P := fun c => decide (hs c = hs a)) _ _ (fun c c1 c2 => decide_eq_false (fun z => t4 c (by omega) (by omega) (z.trans t3)))]
          decide), if_pos t3.symm]
      · rw [pk_un w, pk_un q, h2 a a1 (by omega)]
        by_cases v : nxC hs (hs a) (b - (a + 1)) (a + 1) < 0
        · rw [if_pos v, if_neg (fun z => by
            by_cases u : a < t
            · exact of_decide_eq_false (fst_neg _ _ (by omega) v t (by omega) (by omega)) (t3.trans z)
            · exact t4 a (by omega) (by omega) z.symm)]
          exact fst_none (P := fun c => decide (hs c = hs a)) _ _ (fun c c1 c2 => fst_neg _ _ (by omega) v c c1 c2)
        · rw [if_neg v]
  · by_cases q : x = hs b
    · subst q; exact ⟨b, hl, by omega, rfl, pk_us, fun d d1 d2 => absurd d2 (by omega)⟩
    · obtain ⟨a, a1, a2, a3, a4, a5⟩ := h3 x hxx hp
      refine ⟨a, a1, by omega, a3, by rw [pk_un q]; exact a4, fun d d1 d2 => ?_⟩
      by_cases w : d = b
      · rw [w]; exact fun z => q z.symm
      · exact a5 d d1 (by omega)
theorem chn_congr {hs hs2 : Nat → Nat} {lo b : Nat} {fh fx fx2 ft : Nat → Int32} (h : chnI hs lo b fh fx ft) (he : ∀ d, lo ≤ d → d < b → hs d = hs2 d) (hf : ∀ d, lo ≤ d → d < b → fx2 d = fx d) : chnI hs2 lo b fh fx2 ft := by
  obtain ⟨h1, h2, h3⟩ := h
  refine ⟨fun x hx => ?_, fun a a1 a2 => ?_, fun x hx hp => ?_⟩
  · rw [h1 x hx]; exact fst_congr _ _ (fun d d1 d2 => by rw [he d d1 (by omega)])
  · rw [hf a a1 a2, h2 a a1 a2, he a a1 a2]; exact fst_congr _ _ (fun d d1 d2 => by rw [he d (by omega) (by omega)])
  · obtain ⟨a, b1, b2, b3, b4, b5⟩ := h3 x hx hp
    exact ⟨a, b1, b2, by rw [← he a b1 b2]; exact b3, b4, fun d d1 d2 => by rw [← he d (by omega) d2]; exact b5 d d1 d2⟩
set_option maxHeartbeats 4000000 in
set_option maxRecDepth 100000 in
theorem c_Finder_sortIn (l : Launch) (D : va_G) (cI cB cJ cR : ClassId) (h : Nat) (u : Nat) (nx : Nat) (sh : Nat) (st : Nat) (wh : Nat) (wt : Nat) (x1 : Int32) (x2 : Int32) (x3 : Int32) (x4 : Int32) (x5 : Int32) (hh : Nat) (tl : Nat) (f : Nat → Int32) (fx : Nat → Int32) (fh : Nat → Int32) (ft : Nat → Int32) (lo : Nat) (b : Nat) (hbb : b + 4 ≤ 8000) (hlo : lo ≤ b) (hc : chnI (hsN f) lo b fh fx ft) : CMv l yX2_sortIn cX2_sortIn 5 none ({ frames := 1, cells := 0, slots := 0, locals := 22 }) D (tyA cI cB cJ cR) 0 0 [.ref h, .int (nI b), .ref hh, .ref tl] [(h, .inr (2, [.ref u, .ref nx, .ref sh, .ref st, .ref wh, .ref wt, .int x1, .int x5, .int x2, .int x3, .int x4])), (u, .inl (cI, 8000, .inl f)), (nx, .inl (cI, 8000, .inl fx)), (hh, .inl (cI, 1024, .inl fh)), (tl, .inl (cI, 1024, .inl ft))] (fun (u9 : (Nat → Int32) × (Nat → Int32) × (Nat → Int32)) => match u9 with | (fx2, fh2, ft2) => chnI (hsN f) lo (b + 1) fh2 fx2 ft2 ∧ ∀ d, d < lo → fx2 d = fx d) (fun (u9 : (Nat → Int32) × (Nat → Int32) × (Nat → Int32)) => match u9 with | (fx2, fh2, ft2) => [(h, .inr (2, [.ref u, .ref nx, .ref sh, .ref st, .ref wh, .ref wt, .int x1, .int x5, .int x2, .int x3, .int x4])), (u, .inl (cI, 8000, .inl f)), (nx, .inl (cI, 8000, .inl fx2)), (hh, .inl (cI, 1024, .inl fh2)), (tl, .inl (cI, 1024, .inl ft2))]) := by
  refine st_v (cc := cX2_sortIn) (maxL := 5) (by decide) (Nat.le_of_ble_eq_true rfl) ?_
  intro p0 e0 s0 m0 below meth c0 A0 Q0 hBD hret hP hD hS ls hl
  obtain ⟨hx, hb, hml, hown, hts, hnm, hK, hNw, hMk, hA⟩ := hBD
  have hl : lv_has ls 5 [(0, .ref h), (1, .int (nI b)), (2, .ref hh), (3, .ref tl)] := hl
  have hP : va_P D vwCl [(h, .inr (2, [.ref u, .ref nx, .ref sh, .ref st, .ref wh, .ref wt, .int x1, .int x5, .int x2, .int x3, .int x4])), (u, .inl (cI, 8000, .inl f)), (nx, .inl (cI, 8000, .inl fx)), (hh, .inl (cI, 1024, .inl fh)), (tl, .inl (cI, 1024, .inl ft))] s0.heap := hP
  have hD : va_D A0 [(h, .inr (2, [.ref u, .ref nx, .ref sh, .ref st, .ref wh, .ref wt, .int x1, .int x5, .int x2, .int x3, .int x4])), (u, .inl (cI, 8000, .inl f)), (nx, .inl (cI, 8000, .inl fx)), (hh, .inl (cI, 1024, .inl fh)), (tl, .inl (cI, 1024, .inl ft))] := hD
  refine lv_aload_n hx hb dX2_sortIn_0 rfl (lv_at hl 0 rfl) ?_
  refine lv_iload_n hx hb dX2_sortIn_1 rfl (lv_at hl 1 rfl) ?_
  refine jn_i (wr := [(nx, .inl (cI, 8000, .inl fx)), (hh, .inl (cI, 1024, .inl fh)), (tl, .inl (cI, 1024, .inl ft))]) hA hP hD hS [0, 1] [2, 3, 4] rfl rfl (by decide) (by decide) (rn_V (As := [.int (nI b)]) (rest := []) ⟨hx, hb, hml, hown, hts⟩ (cvV 1 hts zc_yX2_chainAt zi_X2 zm_yX2_chainAt zv_yX2_chainAt kX2_74 (by decide +kernel) rfl rfl ⟨Nat.le_of_ble_eq_true rfl, Nat.le_of_ble_eq_true rfl⟩) (c_Finder_chainAt l D cI cB cJ cR h u nx sh st wh wt x1 x2 x3 x4 x5 f b (hbb) s0.heap.size) hK hNw hMk hA hP hD hS [0, 1] rfl rfl (by decide) 0 rfl rfl rfl rfl hl.1 rfl (Nat.le_of_ble_eq_true rfl) dX2_sortIn_2 ⟨Nat.le_of_ble_eq_true rfl, Nat.le_of_ble_eq_true rfl⟩) (fun r_1 u9 H locs w_2 hP hD hS => ?_)
  try dsimp only at w_2
  have hP : va_P D vwCl [(nx, .inl (cI, 8000, .inl fx)), (hh, .inl (cI, 1024, .inl fh)), (tl, .inl (cI, 1024, .inl ft)), (h, .inr (2, [.ref u, .ref nx, .ref sh, .ref st, .ref wh, .ref wt, .int x1, .int x5, .int x2, .int x3, .int x4])), (u, .inl (cI, 8000, .inl f))] H := hP
  have hD : va_D A0 [(nx, .inl (cI, 8000, .inl fx)), (hh, .inl (cI, 1024, .inl fh)), (tl, .inl (cI, 1024, .inl ft)), (h, .inr (2, [.ref u, .ref nx, .ref sh, .ref st, .ref wh, .ref wt, .int x1, .int x5, .int x2, .int x3, .int x4])), (u, .inl (cI, 8000, .inl f))] := hD
  subst w_2
  have hq := hsN_lt f b
  refine lv_istore (lv' := [(4, .int (nI (hsN f b))), (0, .ref h), (1, .int (nI b)), (2, .ref hh), (3, .ref tl)]) hx hb dX2_sortIn_5 hl (by decide) rfl (fun ls hl => ?_)
  refine lv_aload_n hx hb dX2_sortIn_7 rfl (lv_at hl 1 rfl) ?_
  refine va_get (D := D) (ci := 2) (v := .ref nx) (C := RX2) (T := TX2) (N := 11) hx hb hts in_X2 hown hK hP 3 rfl rfl 1 (by decide) (hts _ kX2_15) (fun _ h9 => h9) rfl dX2_sortIn_8 ?_
  refine lv_iload_n hx hb dX2_sortIn_11 rfl (lv_at hl 2 rfl) ?_
  refine lv_iconst (v := -1) hx hb dX2_sortIn_12 (by decide) ?_
  refine ax_ist hx hb hK hP hD hS 0 0 rfl rfl b (rfl) (by omega) (by decide) dX2_sortIn_13 (fun H locs hP hD hS => ?_)
  have hP : va_P D vwCl [(nx, .inl (cI, 8000, .inl (upd fx b (-1)))), (hh, .inl (cI, 1024, .inl fh)), (tl, .inl (cI, 1024, .inl ft)), (h, .inr (2, [.ref u, .ref nx, .ref sh, .ref st, .ref wh, .ref wt, .int x1, .int x5, .int x2, .int x3, .int x4])), (u, .inl (cI, 8000, .inl f))] H := hP
  have hD : va_D A0 [(nx, .inl (cI, 8000, .inl (upd fx b (-1)))), (hh, .inl (cI, 1024, .inl fh)), (tl, .inl (cI, 1024, .inl ft)), (h, .inr (2, [.ref u, .ref nx, .ref sh, .ref st, .ref wh, .ref wt, .int x1, .int x5, .int x2, .int x3, .int x4])), (u, .inl (cI, 8000, .inl f))] := hD
  refine lv_aload_n hx hb dX2_sortIn_14 rfl (lv_at hl 3 rfl) ?_
  refine lv_iload hx hb dX2_sortIn_15 (lv_at hl 0 rfl) ?_
  refine ax_ild hx hb hK hP 1 0 rfl rfl (hsN f b) (rfl) (hq) (by decide) dX2_sortIn_17 ?_
  refine lv_if_ge (tgt := 29) hx hb dX2_sortIn_18 (by decide) (fun c_3 => ?_) (fun c_3 => ?_)
  · have h0 : ¬ fh (hsN f b) < 0 := Int32.not_lt.mpr c_3
    obtain ⟨t, t1, t2, t3, t4, t5⟩ := hc.2.2 _ hq h0
    refine lv_aload_n hx hb dX2_sortIn_29 rfl (lv_at hl 1 rfl) ?_
    refine va_get (D := D) (ci := 2) (v := .ref nx) (C := RX2) (T := TX2) (N := 11) hx hb hts in_X2 hown hK hP 3 rfl rfl 1 (by decide) (hts _ kX2_15) (fun _ h9 => h9) rfl dX2_sortIn_30 ?_
    refine lv_aload_n hx hb dX2_sortIn_33 rfl (lv_at hl 4 rfl) ?_
    refine lv_iload hx hb dX2_sortIn_34 (lv_at hl 0 rfl) ?_
    refine ax_ild hx hb hK hP 2 0 rfl rfl (hsN f b) (rfl) (hq) (by decide) dX2_sortIn_36 ?_
    refine ri (y := nI t) (t4) ?_
    refine lv_iload_n hx hb dX2_sortIn_37 rfl (lv_at hl 2 rfl) ?_
    refine ax_ist hx hb hK hP hD hS 0 0 rfl rfl t (rfl) (by omega) (by decide) dX2_sortIn_38 (fun H locs hP hD hS => ?_)
    have hP : va_P D vwCl [(nx, .inl (cI, 8000, .inl (upd (upd fx b (-1)) t (nI b)))), (hh, .inl (cI, 1024, .inl fh)), (tl, .inl (cI, 1024, .inl ft)), (h, .inr (2, [.ref u, .ref nx, .ref sh, .ref st, .ref wh, .ref wt, .int x1, .int x5, .int x2, .int x3, .int x4])), (u, .inl (cI, 8000, .inl f))] H := hP
    have hD : va_D A0 [(nx, .inl (cI, 8000, .inl (upd (upd fx b (-1)) t (nI b)))), (hh, .inl (cI, 1024, .inl fh)), (tl, .inl (cI, 1024, .inl ft)), (h, .inr (2, [.ref u, .ref nx, .ref sh, .ref st, .ref wh, .ref wt, .int x1, .int x5, .int x2, .int x3, .int x4])), (u, .inl (cI, 8000, .inl f))] := hD
    refine lv_aload_n hx hb dX2_sortIn_39 rfl (lv_at hl 4 rfl) ?_
    refine lv_iload hx hb dX2_sortIn_40 (lv_at hl 0 rfl) ?_
    refine lv_iload_n hx hb dX2_sortIn_42 rfl (lv_at hl 2 rfl) ?_
    refine ax_ist hx hb hK hP hD hS 2 0 rfl rfl (hsN f b) (rfl) (hq) (by decide) dX2_sortIn_43 (fun H locs hP hD hS => ?_)
    have hP : va_P D vwCl [(nx, .inl (cI, 8000, .inl (upd (upd fx b (-1)) t (nI b)))), (hh, .inl (cI, 1024, .inl fh)), (tl, .inl (cI, 1024, .inl (upd ft (hsN f b) (nI b)))), (h, .inr (2, [.ref u, .ref nx, .ref sh, .ref st, .ref wh, .ref wt, .int x1, .int x5, .int x2, .int x3, .int x4])), (u, .inl (cI, 8000, .inl f))] H := hP
    have hD : va_D A0 [(nx, .inl (cI, 8000, .inl (upd (upd fx b (-1)) t (nI b)))), (hh, .inl (cI, 1024, .inl fh)), (tl, .inl (cI, 1024, .inl (upd ft (hsN f b) (nI b)))), (h, .inr (2, [.ref u, .ref nx, .ref sh, .ref st, .ref wh, .ref wt, .int x1, .int x5, .int x2, .int x3, .int x4])), (u, .inl (cI, 8000, .inl f))] := hD
    have hP := hP.sub (ws' := [(h, .inr (2, [.ref u, .ref nx, .ref sh, .ref st, .ref wh, .ref wt, .int x1, .int x5, .int x2, .int x3, .int x4])), (u, .inl (cI, 8000, .inl f)), (nx, .inl (cI, 8000, .inl (upd (upd fx b (-1)) t (nI b)))), (hh, .inl (cI, 1024, .inl fh)), (tl, .inl (cI, 1024, .inl (upd ft (hsN f b) (nI b))))]) [3, 4, 0, 1, 2] rfl
    have hD := hD.sub (ws' := [(h, .inr (2, [.ref u, .ref nx, .ref sh, .ref st, .ref wh, .ref wt, .int x1, .int x5, .int x2, .int x3, .int x4])), (u, .inl (cI, 8000, .inl f)), (nx, .inl (cI, 8000, .inl (upd (upd fx b (-1)) t (nI b)))), (hh, .inl (cI, 1024, .inl fh)), (tl, .inl (cI, 1024, .inl (upd ft (hsN f b) (nI b))))]) [3, 4, 0, 1, 2] (by decide) rfl
    exact hret 44 ls _ _ (upd (upd fx b (-1)) t (nI b), fh, upd ft (hsN f b) (nI b)) dX2_sortIn_44 hP hD hS (⟨chn_more hc hlo (by omega) hq h0 t4 ⟨t1, t2, t3, t5⟩, fun d hd => by rw [pk_un (by omega), pk_un (by omega)]⟩)
  · have h0 : fh (hsN f b) < 0 := Int32.not_le.mp c_3
    refine lv_aload_n hx hb dX2_sortIn_21 rfl (lv_at hl 3 rfl) ?_
    refine lv_iload hx hb dX2_sortIn_22 (lv_at hl 0 rfl) ?_
    refine lv_iload_n hx hb dX2_sortIn_24 rfl (lv_at hl 2 rfl) ?_
    refine ax_ist hx hb hK hP hD hS 1 0 rfl rfl (hsN f b) (rfl) (hq) (by decide) dX2_sortIn_25 (fun H locs hP hD hS => ?_)
    have hP : va_P D vwCl [(nx, .inl (cI, 8000, .inl (upd fx b (-1)))), (hh, .inl (cI, 1024, .inl (upd fh (hsN f b) (nI b)))), (tl, .inl (cI, 1024, .inl ft)), (h, .inr (2, [.ref u, .ref nx, .ref sh, .ref st, .ref wh, .ref wt, .int x1, .int x5, .int x2, .int x3, .int x4])), (u, .inl (cI, 8000, .inl f))] H := hP
    have hD : va_D A0 [(nx, .inl (cI, 8000, .inl (upd fx b (-1)))), (hh, .inl (cI, 1024, .inl (upd fh (hsN f b) (nI b)))), (tl, .inl (cI, 1024, .inl ft)), (h, .inr (2, [.ref u, .ref nx, .ref sh, .ref st, .ref wh, .ref wt, .int x1, .int x5, .int x2, .int x3, .int x4])), (u, .inl (cI, 8000, .inl f))] := hD
    refine lv_goto (tgt := 39) hx hb dX2_sortIn_26 (by decide) ?_
    refine lv_aload_n hx hb dX2_sortIn_39 rfl (lv_at hl 4 rfl) ?_
    refine lv_iload hx hb dX2_sortIn_40 (lv_at hl 0 rfl) ?_
    refine lv_iload_n hx hb dX2_sortIn_42 rfl (lv_at hl 2 rfl) ?_
    refine ax_ist hx hb hK hP hD hS 2 0 rfl rfl (hsN f b) (rfl) (hq) (by decide) dX2_sortIn_43 (fun H locs hP hD hS => ?_)
    have hP : va_P D vwCl [(nx, .inl (cI, 8000, .inl (upd fx b (-1)))), (hh, .inl (cI, 1024, .inl (upd fh (hsN f b) (nI b)))), (tl, .inl (cI, 1024, .inl (upd ft (hsN f b) (nI b)))), (h, .inr (2, [.ref u, .ref nx, .ref sh, .ref st, .ref wh, .ref wt, .int x1, .int x5, .int x2, .int x3, .int x4])), (u, .inl (cI, 8000, .inl f))] H := hP
    have hD : va_D A0 [(nx, .inl (cI, 8000, .inl (upd fx b (-1)))), (hh, .inl (cI, 1024, .inl (upd fh (hsN f b) (nI b)))), (tl, .inl (cI, 1024, .inl (upd ft (hsN f b) (nI b)))), (h, .inr (2, [.ref u, .ref nx, .ref sh, .ref st, .ref wh, .ref wt, .int x1, .int x5, .int x2, .int x3, .int x4])), (u, .inl (cI, 8000, .inl f))] := hD
    have hP := hP.sub (ws' := [(h, .inr (2, [.ref u, .ref nx, .ref sh, .ref st, .ref wh, .ref wt, .int x1, .int x5, .int x2, .int x3, .int x4])), (u, .inl (cI, 8000, .inl f)), (nx, .inl (cI, 8000, .inl (upd fx b (-1)))), (hh, .inl (cI, 1024, .inl (upd fh (hsN f b) (nI b)))), (tl, .inl (cI, 1024, .inl (upd ft (hsN f b) (nI b))))]) [3, 4, 0, 1, 2] rfl
    have hD := hD.sub (ws' := [(h, .inr (2, [.ref u, .ref nx, .ref sh, .ref st, .ref wh, .ref wt, .int x1, .int x5, .int x2, .int x3, .int x4])), (u, .inl (cI, 8000, .inl f)), (nx, .inl (cI, 8000, .inl (upd fx b (-1)))), (hh, .inl (cI, 1024, .inl (upd fh (hsN f b) (nI b)))), (tl, .inl (cI, 1024, .inl (upd ft (hsN f b) (nI b))))]) [3, 4, 0, 1, 2] (by decide) rfl
    exact hret 44 ls _ _ (upd fx b (-1), upd fh (hsN f b) (nI b), upd ft (hsN f b) (nI b)) dX2_sortIn_44 hP hD hS (⟨chn_new hc hlo (by omega) hq h0, fun d hd => by rw [pk_un (by omega)]⟩)

set_option maxHeartbeats 4000000 in
set_option maxRecDepth 100000 in
theorem c_Finder_set (l : Launch) (D : va_G) (cI cB cJ cR : ClassId) (h : Nat) (u : Nat) (nx : Nat) (sh : Nat) (st : Nat) (wh : Nat) (wt : Nat) (x1 : Int32) (x2 : Int32) (x3 : Int32) (x4 : Int32) (x5 : Int32) (f : Nat → Int32) (rh : Nat) (ro : Nat) (RN : Nat) (rn : Nat) (rf : Nat → Int32) (rv : Int32) (to : Nat) (a : Nat) (b : Nat) (hRN : RN < 2 ^ 24) (hrn : rn ≤ RN) (hab : a ≤ b) (hbb : b ≤ rn) (hto : to + (b - a) ≤ 8000) : CMv l yX2_set cX2_set 6 none ({ frames := 1, cells := 0, slots := 0, locals := 60 }) D (tyA cI cB cJ cR) 0 0 [.ref h, .int (nI to), .ref rh, .int (nI a), .int (nI b)] [(h, .inr (2, [.ref u, .ref nx, .ref sh, .ref st, .ref wh, .ref wt, .int x1, .int x5, .int x2, .int x3, .int x4])), (u, .inl (cI, 8000, .inl f)), (rh, .inr (4, [.ref ro, .int (nI rn), .int rv])), (ro, .inl (cI, RN, .inl rf))] (fun (u9 : (Nat → Int32) × Int32) => match u9 with | (f2, en2) => (a < b → f2 = va_cpy rf f a to (b - a) ∧ en2 = nI (to + (b - a))) ∧ (¬ a < b → f2 = f ∧ en2 = x5)) (fun (u9 : (Nat → Int32) × Int32) => match u9 with | (f2, en2) => [(h, .inr (2, [.ref u, .ref nx, .ref sh, .ref st, .ref wh, .ref wt, .int x1, .int en2, .int x2, .int x3, .int x4])), (u, .inl (cI, 8000, .inl f2)), (rh, .inr (4, [.ref ro, .int (nI rn), .int rv])), (ro, .inl (cI, RN, .inl rf))]) := by
  refine st_v (cc := cX2_set) (maxL := 6) (by decide) (Nat.le_of_ble_eq_true rfl) ?_
  intro p0 e0 s0 m0 below meth c0 A0 Q0 hBD hret hP hD hS ls hl
  obtain ⟨hx, hb, hml, hown, hts, hnm, hK, hNw, hMk, hA⟩ := hBD
  have hl : lv_has ls 6 [(0, .ref h), (1, .int (nI to)), (2, .ref rh), (3, .int (nI a)), (4, .int (nI b))] := hl
  have hP : va_P D vwCl [(h, .inr (2, [.ref u, .ref nx, .ref sh, .ref st, .ref wh, .ref wt, .int x1, .int x5, .int x2, .int x3, .int x4])), (u, .inl (cI, 8000, .inl f)), (rh, .inr (4, [.ref ro, .int (nI rn), .int rv])), (ro, .inl (cI, RN, .inl rf))] s0.heap := hP
  have hD : va_D A0 [(h, .inr (2, [.ref u, .ref nx, .ref sh, .ref st, .ref wh, .ref wt, .int x1, .int x5, .int x2, .int x3, .int x4])), (u, .inl (cI, 8000, .inl f)), (rh, .inr (4, [.ref ro, .int (nI rn), .int rv])), (ro, .inl (cI, RN, .inl rf))] := hD
  refine lv_iload hx hb dX2_set_0 (lv_at hl 4 rfl) ?_
  refine lv_iload_n hx hb dX2_set_2 rfl (lv_at hl 3 rfl) ?_
  refine lv_isub hx hb dX2_set_3 ?_
  refine ri (y := nI (b - a)) (pk_sub hab) ?_
  refine lv_sipush (v := 8000) hx hb dX2_set_4 (by decide) ?_
  refine lv_iload_n hx hb dX2_set_7 rfl (lv_at hl 1 rfl) ?_
  refine lv_isub hx hb dX2_set_8 ?_
  refine ri (y := nI (8000 - to)) (pk_sub (a := 8000) (by omega)) ?_
  refine va_mmin hx hb (hml.trans hl.1.symm) hown (hts _ kX2_52) (hts _ zs_yJ9_min_7cf53) (hts _ zi_J9) (hts _ zc_yJ9_min_7cf53) (Nat.le_of_ble_eq_true rfl) (Nat.le_of_ble_eq_true rfl) (Nat.zero_le _) (Nat.zero_le _) dX2_set_9 ?_
  refine ri (y := nI (b - a)) ((nI_min (by omega) (by omega)).trans (by rw [Nat.min_eq_left (by omega)])) ?_
  refine lv_istore (lv' := [(5, .int (nI (b - a))), (0, .ref h), (1, .int (nI to)), (2, .ref rh), (3, .int (nI a)), (4, .int (nI b))]) hx hb dX2_set_12 hl (by decide) rfl (fun ls hl => ?_)
  refine lv_iload hx hb dX2_set_14 (lv_at hl 0 rfl) ?_
  refine lv_if_le (tgt := 59) hx hb dX2_set_16 (by decide) (fun c_1 => ?_) (fun c_1 => ?_)
  · have hn : ¬ a < b := fun z => nI_nle (show 0 < b - a by omega) (by omega) c_1
    exact hret 59 ls _ _ (f, x5) dX2_set_59 hP hD hS (⟨fun z => absurd z hn, fun _ => ⟨rfl, rfl⟩⟩)
  · have hn : a < b := Decidable.byContradiction (fun z => c_1 (by rw [show b - a = 0 by omega]; decide))
    refine lv_iload_n hx hb dX2_set_19 rfl (lv_at hl 2 rfl) ?_
    refine lv_if_lt (tgt := 59) hx hb dX2_set_20 (by decide) (fun c_2 => absurd c_2 (nI_pos (by omega))) (fun c_2 => ?_)
    refine lv_iload_n hx hb dX2_set_23 rfl (lv_at hl 4 rfl) ?_
    refine lv_if_lt (tgt := 59) hx hb dX2_set_24 (by decide) (fun c_3 => absurd c_3 (nI_pos (by omega))) (fun c_3 => ?_)
    refine lv_iload hx hb dX2_set_27 (lv_at hl 5 rfl) ?_
    refine lv_aload_n hx hb dX2_set_29 rfl (lv_at hl 3 rfl) ?_
    refine va_get (D := D) (ci := 4) (v := .int (nI rn)) (C := RX4) (T := TX4) (N := 3) hx hb hts in_X4 hown hK hP 2 rfl rfl 1 (by decide) (hts _ kX2_43) (fun _ h9 => h9) rfl dX2_set_30 ?_
    refine lv_icmp_gt (tgt := 59) hx hb dX2_set_33 (by decide) (fun c_4 => absurd c_4 (nI_nlt hbb (by omega))) (fun c_4 => ?_)
    refine lv_aload_n hx hb dX2_set_36 rfl (lv_at hl 3 rfl) ?_
    refine va_get (D := D) (ci := 4) (v := .ref ro) (C := RX4) (T := TX4) (N := 3) hx hb hts in_X4 hown hK hP 2 rfl rfl 0 (by decide) (hts _ kX2_58) (fun _ h9 => h9) rfl dX2_set_37 ?_
    refine lv_iload_n hx hb dX2_set_40 rfl (lv_at hl 4 rfl) ?_
    refine lv_aload_n hx hb dX2_set_41 rfl (lv_at hl 1 rfl) ?_
    refine va_get (D := D) (ci := 2) (v := .ref u) (C := RX2) (T := TX2) (N := 11) hx hb hts in_X2 hown hK hP 0 rfl rfl 0 (by decide) (hts _ kX2_11) (fun _ h9 => h9) rfl dX2_set_42 ?_
    refine lv_iload_n hx hb dX2_set_45 rfl (lv_at hl 2 rfl) ?_
    refine lv_iload hx hb dX2_set_46 (lv_at hl 0 rfl) ?_
    refine ax_cpy hx hb (hml.trans hl.1.symm) hown (hts _ kX2_61) (hts _ zt_arraycopyName) (hts _ zs_arraycopyName) (hts _ zi_J10) hK hP hD hS 3 1 0 rfl rfl rfl a to (b - a) (rfl) (rfl) (rfl) (⟨by omega, by omega⟩) (⟨by omega, by decide⟩) (Nat.le_of_ble_eq_true rfl) (Nat.le_of_ble_eq_true rfl) dX2_set_48 (fun H locs hP hD hS => ?_)
    have hP : va_P D vwCl [(h, .inr (2, [.ref u, .ref nx, .ref sh, .ref st, .ref wh, .ref wt, .int x1, .int x5, .int x2, .int x3, .int x4])), (u, .inl (cI, 8000, .inl (va_cpy rf f a to (b - a)))), (rh, .inr (4, [.ref ro, .int (nI rn), .int rv])), (ro, .inl (cI, RN, .inl rf))] H := hP
    have hD : va_D A0 [(h, .inr (2, [.ref u, .ref nx, .ref sh, .ref st, .ref wh, .ref wt, .int x1, .int x5, .int x2, .int x3, .int x4])), (u, .inl (cI, 8000, .inl (va_cpy rf f a to (b - a)))), (rh, .inr (4, [.ref ro, .int (nI rn), .int rv])), (ro, .inl (cI, RN, .inl rf))] := hD
    refine lv_aload_n hx hb dX2_set_51 rfl (lv_at hl 1 rfl) ?_
    refine lv_iload_n hx hb dX2_set_52 rfl (lv_at hl 2 rfl) ?_
    refine lv_iload hx hb dX2_set_53 (lv_at hl 0 rfl) ?_
    refine lv_iadd hx hb dX2_set_55 ?_
    refine ri (y := nI (to + (b - a))) (nI_add to (b - a)) ?_
    refine va_put (D := D) (ci := 2) (v := .int (nI (to + (b - a)))) (ty := .int) (C := RX2) (T := TX2) (N := 11) hx hb hts in_X2 tyX2 tyX2_ok nmX2 hown hK hP hD hS 0 rfl rfl 7 (by decide) (hts _ kX2_40) (fun _ h9 => h9) rfl (by decide +kernel) rfl rfl (Nat.le_of_ble_eq_true rfl) dX2_set_56 (fun H locs hP hD hS => ?_)
    have hP : va_P D vwCl [(h, .inr (2, [.ref u, .ref nx, .ref sh, .ref st, .ref wh, .ref wt, .int x1, .int (nI (to + (b - a))), .int x2, .int x3, .int x4])), (u, .inl (cI, 8000, .inl (va_cpy rf f a to (b - a)))), (rh, .inr (4, [.ref ro, .int (nI rn), .int rv])), (ro, .inl (cI, RN, .inl rf))] H := hP
    have hD : va_D A0 [(h, .inr (2, [.ref u, .ref nx, .ref sh, .ref st, .ref wh, .ref wt, .int x1, .int (nI (to + (b - a))), .int x2, .int x3, .int x4])), (u, .inl (cI, 8000, .inl (va_cpy rf f a to (b - a)))), (rh, .inr (4, [.ref ro, .int (nI rn), .int rv])), (ro, .inl (cI, RN, .inl rf))] := hD
    exact hret 59 ls _ _ (va_cpy rf f a to (b - a), nI (to + (b - a))) dX2_set_59 hP hD hS (⟨fun _ => ⟨rfl, rfl⟩, fun z => absurd hn z⟩)
