/-! READING with two ways to tell where octets come from: the same but for these -/
section REL
variable (Rel : Int32 → Int32 → Prop)
def mRel (m1 m2 : MS) : Prop := m1.1 = m2.1 ∧ m1.2.2 = m2.2.2 ∧ ∀ j, j < m1.2.2 → Rel (m1.2.1 j) (m2.2.1 j)
def yRel (y1 y2 : YS) : Prop := y1.1 = y2.1 ∧ y1.2.1 = y2.2.1 ∧ y1.2.2.1 = y2.2.2.1 ∧ y1.2.2.2.1 = y2.2.2.2.1 ∧ y1.2.2.2.2.1 = y2.2.2.2.2.1 ∧ y1.2.2.2.2.2.1 = y2.2.2.2.2.2.1 ∧ mRel Rel y1.2.2.2.2.2.2.1 y2.2.2.2.2.2.2.1 ∧ y1.2.2.2.2.2.2.2 = y2.2.2.2.2.2.2.2
def xRel (x1 x2 : XS) : Prop := x1.1 = x2.1 ∧ x1.2.1 = x2.2.1 ∧ x1.2.2.1 = x2.2.2.1 ∧ x1.2.2.2.1 = x2.2.2.2.1 ∧ mRel Rel x1.2.2.2.2.1 x2.2.2.2.2.1 ∧ x1.2.2.2.2.2 = x2.2.2.2.2.2
end REL
section REL2
variable {Rel : Int32 → Int32 → Prop} {b : Nat → Nat} {ce de ae near same kk zz ff ww we wn sn e MN : Nat} {tt sB : Nat → Nat} {sG1 sG2 : Nat → Int32}
theorem mRel_push {m1 m2 : MS} {v : Nat} {o1 o2 : Int32} (h : mRel Rel m1 m2) (ho : Rel o1 o2) : mRel Rel (pushM m1 v o1) (pushM m2 v o2) := by
  obtain ⟨B, G, n⟩ := m1
  obtain ⟨B2, G2, n2⟩ := m2
  obtain ⟨h1, h2, h3⟩ := h
  dsimp only at h1 h2 h3
  subst h1
  subst h2
  refine ⟨rfl, rfl, fun j hj => ?_⟩
  have hj : j < n + 1 := hj
  show Rel (va_up G n o1 j) (va_up G2 n o2 j)
  by_cases q : j = n
  · subst q; rw [va_up_self, va_up_self]; exact ho
  · rw [va_up_ne _ _ q, va_up_ne _ _ q]; exact h3 j (by omega)
theorem mRel_add (h0 : Rel (-1) (-1)) : ∀ (k d : Nat) (m1 m2 : MS), mRel Rel m1 m2 → mRel Rel (addM b k d m1) (addM b k d m2)
  | 0, _, _, _ => fun h => h
  | k + 1, d, _, _ => fun h => mRel_add h0 k (d + 1) _ _ (mRel_push h h0)
theorem mRel_run (h0 : Rel (-1) (-1)) {v : Nat} : ∀ (k : Nat) (m1 m2 : MS), mRel Rel m1 m2 → mRel Rel (runM v k m1) (runM v k m2)
  | 0, _, _ => fun h => h
  | k + 1, _, _ => fun h => mRel_run h0 k _ _ (mRel_push h h0)
theorem mRel_dat (h0 : Rel (-1) (-1)) {kd z da : Nat} {m1 m2 : MS} (h : mRel Rel m1 m2) : mRel Rel (datM b kd z da m1) (datM b kd z da m2) := by
  unfold datM
  split
  · exact mRel_run h0 _ _ _ h
  · exact mRel_add h0 _ _ _ _ h
theorem mRel_cpx {x : Nat} {m1 m2 : MS} (hs : ∀ i, i < sn → Rel (sG1 i) (sG2 i)) (k1 : kk = 1 → ff + zz ≤ sn) (h : mRel Rel m1 m2) (k2 : ¬ kk = 1 → ff + zz ≤ m1.2.2) (hw : ww ≤ m1.2.2) (hx : x < zz + m1.2.2 - ww) : mRel Rel (cpx kk zz ff ww sB sG1 x m1) (cpx kk zz ff ww sB sG2 x m2) := by
  unfold cpx
  by_cases q : x < zz ∧ kk = 1
  · rw [if_pos q, if_pos q]
    exact mRel_push h (hs _ (by have := k1 q.2; omega))
  · rw [if_neg q, if_neg q, ← h.1]
    refine mRel_push h (h.2.2 _ ?_)
    split
    · rename_i z
      have := k2 (fun w => q ⟨z, w⟩)
      omega
    · omega
theorem mRel_cpM (hs : ∀ i, i < sn → Rel (sG1 i) (sG2 i)) (k1 : kk = 1 → ff + zz ≤ sn) : ∀ (k x : Nat) (m1 m2 : MS), mRel Rel m1 m2 → (¬ kk = 1 → ff + zz ≤ m1.2.2) → ww ≤ m1.2.2 → (0 < k → x < zz + m1.2.2 - ww) → mRel Rel (cpM kk zz ff ww sB sG1 k x m1) (cpM kk zz ff ww sB sG2 k x m2)
  | 0, _, _, _ => fun h _ _ _ => h
  | k + 1, x, m1, m2 => fun h k2 hw hx => mRel_cpM hs k1 k (x + 1) _ _ (mRel_cpx hs k1 h k2 hw (hx (Nat.succ_pos _))) (fun z => by rw [cpx_n]; have := k2 z; omega) (by rw [cpx_n]; omega) (fun _ => by rw [cpx_n]; have := hx (Nat.succ_pos _); omega)
theorem ptF_rel (h0 : Rel (-1) (-1)) (hs : ∀ i, i < sn → Rel (sG1 i) (sG2 i)) (k1 : kk = 1 → ff + zz ≤ sn) {c q : Nat} {y1 y2 : YS} (h : yRel Rel y1 y2) (k2 : ¬ kk = 1 → ff + zz ≤ y1.2.2.2.2.2.2.1.2.2) (hw : ww ≤ y1.2.2.2.2.2.2.1.2.2) :
    (ptF b ce de ae near same kk zz ff ww we wn tt sB sG1 c q y1).1 = (ptF b ce de ae near same kk zz ff ww we wn tt sB sG2 c q y2).1 ∧ yRel Rel (ptF b ce de ae near same kk zz ff ww we wn tt sB sG1 c q y1).2 (ptF b ce de ae near same kk zz ff ww we wn tt sB sG2 c q y2).2 ∧ y1.2.2.2.2.2.2.1.2.2 ≤ (ptF b ce de ae near same kk zz ff ww we wn tt sB sG1 c q y1).2.2.2.2.2.2.2.1.2.2 := by
  obtain ⟨ca, da, aa, nx, cN, cS, m1, gc⟩ := y1
  obtain ⟨ca2, da2, aa2, nx2, cN2, cS2, m2, gc2⟩ := y2
  obtain ⟨h1, h2, h3, h4, h5, h6, h7, h8⟩ := h
  dsimp only at h1 h2 h3 h4 h5 h6 h7 h8 k2 hw
  subst h1
  subst h2
  subst h3
  subst h4
  subst h5
  subst h6
  subst h8
  obtain ⟨g, cnt⟩ := gc
  have hn := h7.2.1
  have hid : yRel Rel (ca, da, aa, nx, cN, cS, m1, g, cnt) (ca, da, aa, nx, cN, cS, m2, g, cnt) := ⟨rfl, rfl, rfl, rfl, rfl, rfl, h7, rfl⟩
  unfold ptF
  dsimp only
  rw [← hn]
  by_cases q1 : tt (q * 256 + c) = 0
  · rw [if_pos q1, if_pos q1]; exact ⟨rfl, hid, Nat.le_refl _⟩
  rw [if_neg q1, if_neg q1]
  by_cases q2 : ¬ (rdZ b ce (tt (512 + q * 256 + c)) ca).1 = 0
  · rw [if_pos q2, if_pos q2]; exact ⟨rfl, hid, Nat.le_refl _⟩
  rw [if_neg q2, if_neg q2]
  by_cases q3 : we < m1.2.2 + (rdZ b ce (tt (512 + q * 256 + c)) ca).2.1
  · rw [if_pos q3, if_pos q3]; exact ⟨rfl, hid, Nat.le_refl _⟩
  rw [if_neg q3, if_neg q3]
  by_cases q4 : tt (q * 256 + c) = 3
  · rw [if_pos q4, if_pos q4]
    unfold ptC
    dsimp only
    rw [← hn]
    by_cases q5 : (rdA b ae near (tt (1024 + q * 256 + c)) aa).1 = 0 ∧ 0 ≤ adV near (tt (1024 + q * 256 + c)) (zz + m1.2.2 - ww) (rdA b ae near (tt (1024 + q * 256 + c)) aa).2.1 cN cS ∧ adV near (tt (1024 + q * 256 + c)) (zz + m1.2.2 - ww) (rdA b ae near (tt (1024 + q * 256 + c)) aa).2.1 cN cS < ((zz + m1.2.2 - ww : Nat) : Int)
    · rw [if_pos q5, if_pos q5]
      refine ⟨rfl, ⟨rfl, rfl, rfl, rfl, rfl, rfl, mRel_cpM hs k1 _ _ _ _ h7 k2 hw (fun _ => ?_), rfl⟩, by dsimp only; rw [cpM_n]; omega⟩
      unfold adX
      have := q5.2.1
      have := q5.2.2
      omega
    · rw [if_neg q5, if_neg q5]; exact ⟨rfl, hid, Nat.le_refl _⟩
  · rw [if_neg q4, if_neg q4]
    unfold ptD
    dsimp only
    by_cases q5 : de - da < needD (tt (q * 256 + c)) (rdZ b ce (tt (512 + q * 256 + c)) ca).2.1
    · rw [if_pos q5, if_pos q5]; exact ⟨rfl, hid, Nat.le_refl _⟩
    · rw [if_neg q5, if_neg q5]
      exact ⟨rfl, ⟨rfl, rfl, rfl, rfl, rfl, rfl, mRel_dat h0 h7, rfl⟩, by dsimp only; rw [datM_n]; omega⟩
theorem cd1_rel (h0 : Rel (-1) (-1)) (hs : ∀ i, i < sn → Rel (sG1 i) (sG2 i)) (k1 : kk = 1 → ff + zz ≤ sn) {y1 y2 : YS} (h : yRel Rel y1 y2) (k2 : ¬ kk = 1 → ff + zz ≤ y1.2.2.2.2.2.2.1.2.2) (hw : ww ≤ y1.2.2.2.2.2.2.1.2.2) :
    (cd1 b ce de ae near same kk zz ff ww we wn tt sB sG1 y1).1 = (cd1 b ce de ae near same kk zz ff ww we wn tt sB sG2 y2).1 ∧ yRel Rel (cd1 b ce de ae near same kk zz ff ww we wn tt sB sG1 y1).2 (cd1 b ce de ae near same kk zz ff ww we wn tt sB sG2 y2).2 ∧ y1.2.2.2.2.2.2.1.2.2 ≤ (cd1 b ce de ae near same kk zz ff ww we wn tt sB sG1 y1).2.2.2.2.2.2.2.1.2.2 := by
  have hc : y1.1 = y2.1 := h.1
  have ha : yRel Rel (y1.1 + 1, y1.2) (y1.1 + 1, y2.2) := ⟨rfl, h.2⟩
  obtain ⟨p1, p2, p3⟩ := ptF_rel (b := b) (ce := ce) (de := de) (ae := ae) (near := near) (same := same) (we := we) (wn := wn) (tt := tt) (sB := sB) (ww := ww) h0 hs k1 (c := b y1.1) (q := 0) ha k2 hw
  have p3 : y1.2.2.2.2.2.2.1.2.2 ≤ (ptF b ce de ae near same kk zz ff ww we wn tt sB sG1 (b y1.1) 0 (y1.1 + 1, y1.2)).2.2.2.2.2.2.2.1.2.2 := p3
  unfold cd1
  rw [← hc]
  generalize ptF b ce de ae near same kk zz ff ww we wn tt sB sG1 (b y1.1) 0 (y1.1 + 1, y1.2) = A1 at p1 p2 p3 ⊢
  generalize ptF b ce de ae near same kk zz ff ww we wn tt sB sG2 (b y1.1) 0 (y1.1 + 1, y2.2) = A2 at p1 p2 ⊢
  rw [← p1]
  by_cases q : A1.1 = 0
  · rw [if_pos q, if_pos q]
    obtain ⟨r1, r2, r3⟩ := ptF_rel (b := b) (ce := ce) (de := de) (ae := ae) (near := near) (same := same) (we := we) (wn := wn) (tt := tt) (sB := sB) (ww := ww) h0 hs k1 (c := b y1.1) (q := 1) p2 (fun z => by have := k2 z; omega) (by omega)
    exact ⟨by dsimp only; rw [r1], r2, Nat.le_trans p3 r3⟩
  · rw [if_neg q, if_neg q]
    exact ⟨by dsimp only, p2, p3⟩
theorem cdL_rel (h0 : Rel (-1) (-1)) (hs : ∀ i, i < sn → Rel (sG1 i) (sG2 i)) (k1 : kk = 1 → ff + zz ≤ sn) : ∀ (n : Nat) (y1 y2 : YS), yRel Rel y1 y2 → (¬ kk = 1 → ff + zz ≤ y1.2.2.2.2.2.2.1.2.2) → ww ≤ y1.2.2.2.2.2.2.1.2.2 → (cdL b ce de ae near same kk zz ff ww we wn tt sB sG1 n y1).1 = (cdL b ce de ae near same kk zz ff ww we wn tt sB sG2 n y2).1 ∧ yRel Rel (cdL b ce de ae near same kk zz ff ww we wn tt sB sG1 n y1).2 (cdL b ce de ae near same kk zz ff ww we wn tt sB sG2 n y2).2
  | 0, y1, y2 => fun h _ _ => ⟨rfl, h⟩
  | n + 1, y1, y2 => fun h k2 hw => by
    have hc : y1.1 = y2.1 := h.1
    obtain ⟨p1, p2, p3⟩ := cd1_rel (b := b) (ce := ce) (de := de) (ae := ae) (near := near) (same := same) (we := we) (wn := wn) (tt := tt) (sB := sB) h0 hs k1 h k2 hw
    rw [cdL, cdL, ← hc, ← p1]
    by_cases q : y1.1 < ce
    · rw [if_pos q, if_pos q]
      by_cases q2 : (cd1 b ce de ae near same kk zz ff ww we wn tt sB sG1 y1).1.1 = 0
      · rw [if_pos q2, if_pos q2]
        exact cdL_rel h0 hs k1 n _ _ p2 (fun z => by have := k2 z; omega) (by omega)
      · rw [if_neg q2, if_neg q2]; exact ⟨p1, p2⟩
    · rw [if_neg q, if_neg q]; exact ⟨rfl, h⟩
theorem wdE_rel {pl a a4 : Nat} {m1 m2 : MS} (hm : mRel Rel m1 m2) : ∀ (r1 r2 : (Nat × Nat) × YS), r1.1 = r2.1 → yRel Rel r1.2 r2.2 → xRel Rel (wdE pl a wn m1 a4 we de ae r1) (wdE pl a wn m2 a4 we de ae r2) := by
  rintro ⟨⟨f, p⟩, ca, da, aa, nx, cN, cS, m3, g, cnt⟩ ⟨⟨f2, p2⟩, ca2, da2, aa2, nx2, cN2, cS2, m4, g2, cnt2⟩ h1 ⟨-, h3, h4, -, -, -, h7, h8⟩
  obtain ⟨e1, e2⟩ := Prod.mk.inj h1
  obtain ⟨e3, e4⟩ := Prod.mk.inj h8
  dsimp only at h3 h4 h7
  subst e1
  subst e2
  subst e3
  subst e4
  subst h3
  subst h4
  unfold wdE
  dsimp only
  rw [← h7.2.1]
  by_cases q1 : ¬ f = 0
  · rw [if_pos q1, if_pos q1]; exact ⟨rfl, rfl, rfl, rfl, hm, rfl⟩
  rw [if_neg q1, if_neg q1]
  by_cases q2 : m3.2.2 < we
  · rw [if_pos q2, if_pos q2]; exact ⟨rfl, rfl, rfl, rfl, hm, rfl⟩
  rw [if_neg q2, if_neg q2]
  by_cases q3 : da < de ∨ aa < ae
  · rw [if_pos q3, if_pos q3]; exact ⟨rfl, rfl, rfl, rfl, hm, rfl⟩
  · rw [if_neg q3, if_neg q3]; exact ⟨rfl, rfl, rfl, rfl, h7, rfl⟩
theorem wdF_rel (hb9 : ∀ j, j < e → b j < 256) (h0 : Rel (-1) (-1)) (hs : ∀ i, i < sn → Rel (sG1 i) (sG2 i)) : ∀ (x1 x2 : XS), xRel Rel x1 x2 → xRel Rel (wdF b e sn MN near same tt sB sG1 x1) (wdF b e sn MN near same tt sB sG2 x2) := by
  rintro ⟨fl, pl, a, wn, m1, g, cnt⟩ ⟨fl2, pl2, a2, wn2, m2, g2, cnt2⟩ ⟨-, h2, h3, h4, h5, h6⟩
  obtain ⟨e3, e4⟩ := Prod.mk.inj h6
  dsimp only at h2 h3 h4 h5
  subst h2
  subst h3
  subst h4
  subst e3
  subst e4
  unfold wdF
  dsimp only
  rw [← h5.2.1]
  rcases hS : tkSeg b e sn m1.2.2 (0, pl, a) with ⟨⟨k, z, f⟩, f1, p1, a1⟩
  dsimp only
  rcases hZ : tkSiz b e (MN - m1.2.2) (f1, p1, a1) with ⟨⟨mks, ds, cs, az⟩, fl2, p2, a3⟩
  dsimp only
  by_cases q : ¬ fl2 = 0
  · rw [if_pos q, if_pos q]; exact ⟨rfl, rfl, rfl, rfl, h5, rfl⟩
  · rw [if_neg q, if_neg q]
    obtain ⟨t1, t2, -⟩ := tkSeg_ok hb9 hS (tkSiz_z hZ (Decidable.byContradiction q))
    unfold wdS
    rw [← h5.2.1]
    obtain ⟨c1, c2⟩ := cdL_rel (b := b) (ce := a3 + ds + cs) (de := a3 + ds) (ae := a3 + ds + cs + az) (near := near) (same := same) (ww := m1.2.2) (we := m1.2.2 + mks) (wn := wn) (tt := tt) (sB := sB) h0 hs t1 cs (a3 + ds, a3, a3 + ds + cs, 0, fun _ => 0, fun _ => 0, m1, g, cnt) (a3 + ds, a3, a3 + ds + cs, 0, fun _ => 0, fun _ => 0, m2, g, cnt) ⟨rfl, rfl, rfl, rfl, rfl, rfl, h5, rfl⟩ t2 (Nat.le_refl _)
    exact wdE_rel h5 _ _ c1 c2
theorem wdL_rel (hb9 : ∀ j, j < e → b j < 256) (h0 : Rel (-1) (-1)) (hs : ∀ i, i < sn → Rel (sG1 i) (sG2 i)) : ∀ (n : Nat) (x1 x2 : XS), xRel Rel x1 x2 → xRel Rel (wdL b e sn MN near same tt sB sG1 n x1) (wdL b e sn MN near same tt sB sG2 n x2)
  | 0, _, _ => fun h => h
  | n + 1, x1, x2 => fun h => by
    rw [wdL, wdL, ← h.1, ← h.2.2.1]
    by_cases q : x1.1 = 0 ∧ x1.2.2.1 < e
    · rw [if_pos q, if_pos q]; exact wdL_rel hb9 h0 hs n _ _ (wdF_rel hb9 h0 hs _ _ h)
    · rw [if_neg q, if_neg q]; exact h
end REL2
theorem m00_rel {Rel : Int32 → Int32 → Prop} : mRel Rel m00 m00 := ⟨rfl, rfl, fun j hj => absurd hj (Nat.not_lt_zero j)⟩
theorem wd0_og {b : Nat → Nat} {e sn MN near same : Nat} {tt sB : Nat → Nat} {s : RS} (hb9 : ∀ j, j < e → b j < 256) (hsn : sn < 2 ^ 31) : ogI sn (wd0 b e sn MN near same tt sB s).2.2.2.2.1.2.2 (wd0 b e sn MN near same tt sB s).2.2.2.2.1.2.1 := by
  have h := wdL_rel (Rel := fun x _ => ¬ x < 0 → x.toNatClampNeg < sn ∧ x = nI x.toNatClampNeg) (b := b) (e := e) (sn := sn) (MN := MN) (near := near) (same := same) (tt := tt) (sB := sB) (sG1 := fun i => nI i) (sG2 := fun i => nI i) hb9 (fun z => absurd (by decide) z) (fun i hi _ => by rw [nI_clamp (by omega)]; exact ⟨hi, rfl⟩) 8000 (s.1, s.2.1, s.2.2, 0, m00, g00, 0) (s.1, s.2.1, s.2.2, 0, m00, g00, 0) ⟨rfl, rfl, rfl, rfl, m00_rel, rfl⟩
  exact fun p hp hq => h.2.2.2.2.1.2.2 p hp hq
theorem rfP_og {b : Nat → Nat} {e sn : Nat} {sB : Nat → Nat} (hb9 : ∀ j, j < e → b j < 256) (hsn : sn < 2 ^ 31) : ogI sn (rfP b e sn sB).2.2.2.2.1.2.2 (rfP b e sn sB).2.2.2.2.1.2.1 := by
  unfold rfP
  split
  · exact wd0_og hb9 hsn
  · exact wd0_og hb9 hsn
theorem trB_og {sn n : Nat} {G ef : Nat → Int32} (h : ogI sn n G) (he : ∀ j, j < n → ef j = G j) (hn : n < 2 ^ 31) {x : Int32} : ¬ trB ef n x < 0 → (trB ef n x).toNatClampNeg < sn ∧ trB ef n x = nI (trB ef n x).toNatClampNeg := by
  intro hx
  unfold trB at hx ⊢
  by_cases q : inB x n = true
  · rw [if_pos q] at hx ⊢
    obtain ⟨j, hj, rfl⟩ := inB_of q hn
    rw [nI_clamp (by omega)] at hx ⊢
    rw [he j hj] at hx ⊢
    exact h j hj hx
  · rw [if_neg q] at hx
    exact absurd (by decide) hx
