/-! READING: how much room there is says no more than whether it is enough -/
theorem flI_fst {c : Prop} [Decidable c] {k w w2 : Nat} {s : RS} : (flI c k w s).1 = (flI c k w2 s).1 := by
  unfold flI; split <;> rfl
theorem tkSiz_rm {b : Nat → Nat} {e r1 r2 : Nat} {s : RS} (h : r1 ≤ r2) (hv : (tkN b e (tkN b e s).2).1 ≤ r1) : tkSiz b e r1 s = tkSiz b e r2 s := by
  have h2 : tkZ2 b e r1 s = tkZ2 b e r2 s := by
    unfold tkZ2 flI
    rw [if_neg (fun z => absurd z.1 (by omega)), if_neg (fun z => absurd z.1 (by omega))]
  unfold tkSiz
  rw [h2]
theorem tkSiz_mk {b : Nat → Nat} {e r : Nat} {s : RS} : (tkSiz b e r s).1.1 = (tkN b e (tkN b e s).2).1 := rfl
theorem tkSiz_ok {b : Nat → Nat} {e r : Nat} {s : RS} (h : (tkSiz b e r s).2.1 = 0) : (tkN b e (tkN b e s).2).1 ≤ r := by
  have z3 : ∀ s, okR s (tkZ3 b e s) := fun s => okR_O.trans (okR_F (by decide))
  have z4 : ∀ s, okR s (tkZ4 b e s).2 := fun s => (okR_N.trans okR_N).trans okR_N
  have z5 : ∀ w fo bh t s, okR s (tkZ5 w fo bh t s) := fun _ _ _ _ s => okR_F (by decide)
  have z6 : ∀ t s, okR s (tkZ6 e t s) := fun _ s => okR_F (by decide)
  have h2 : okR (tkZ2 b e r s) (tkSiz b e r s).2 := by
    unfold tkSiz
    dsimp only
    exact (((z3 _).trans (z4 _)).trans (z5 _ _ _ _ _)).trans (z6 _ _)
  have h3 := (h2 h).1
  unfold tkZ2 at h3
  rcases hq : flI (r < (tkN b e (tkN b e s).2).1) 7 (tkN b e s).2.2.2 (tkN b e (tkN b e s).2).2 with ⟨f2, p2, a2⟩
  rw [hq] at h3
  exact Nat.not_lt.mp (flI_0 hq h3 (by decide)).1
section MN
variable {b : Nat → Nat} {e sn near same M1 M2 : Nat} {tt sB : Nat → Nat} {sG : Nat → Int32}
theorem wdE_z {pl a wn a4 we de ae : Nat} {m : MS} {R : (Nat × Nat) × YS} (h : (wdE pl a wn m a4 we de ae R).1 = 0) : we ≤ (wdE pl a wn m a4 we de ae R).2.2.2.2.1.2.2 := by
  obtain ⟨⟨f1, p1⟩, ca, da, aa, nx, cN, cS, m3, g3, cnt3⟩ := R
  unfold wdE at h ⊢
  dsimp only at h ⊢
  by_cases q1 : ¬ f1 = 0
  · rw [if_pos q1] at h; exact absurd h q1
  rw [if_neg q1] at h ⊢
  by_cases q2 : m3.2.2 < we
  · rw [if_pos q2] at h; exact absurd (show (16 : Nat) = 0 from h) (by decide)
  rw [if_neg q2] at h ⊢
  by_cases q3 : da < de ∨ aa < ae
  · rw [if_pos q3] at h; exact absurd (show (17 : Nat) = 0 from h) (by decide)
  rw [if_neg q3]
  show we ≤ m3.2.2
  omega
theorem wdF_z {x : XS} (h : (wdF b e sn M1 near same tt sB sG x).1 = 0) : x.2.2.2.2.1.2.2 ≤ (wdF b e sn M1 near same tt sB sG x).2.2.2.2.1.2.2 ∧ (tkSiz b e (M1 - x.2.2.2.2.1.2.2) (tkSeg b e sn x.2.2.2.2.1.2.2 (0, x.2.1, x.2.2.1)).2).2.1 = 0 ∧ x.2.2.2.2.1.2.2 + (tkSiz b e (M1 - x.2.2.2.2.1.2.2) (tkSeg b e sn x.2.2.2.2.1.2.2 (0, x.2.1, x.2.2.1)).2).1.1 ≤ (wdF b e sn M1 near same tt sB sG x).2.2.2.2.1.2.2 := by
  obtain ⟨fl, pl, a, wn, m, g, cnt⟩ := x
  unfold wdF at h ⊢
  dsimp only at h ⊢
  rcases hS : tkSeg b e sn m.2.2 (0, pl, a) with ⟨⟨k, z, ff⟩, s1⟩
  rw [hS] at h
  dsimp only at h ⊢
  rcases hZ : tkSiz b e (M1 - m.2.2) s1 with ⟨⟨mks, ds, cs, az⟩, fl2, p2, a3⟩
  rw [hZ] at h
  dsimp only at h ⊢
  by_cases q : ¬ fl2 = 0
  · rw [if_pos q] at h; exact absurd h q
  · rw [if_neg q] at h ⊢
    have h9 := wdE_z h
    have h9 : m.2.2 + mks ≤ (wdS b near same tt sB sG pl a wn m g cnt k z ff mks ds cs az a3).2.2.2.2.1.2.2 := h9
    exact ⟨by omega, Decidable.byContradiction q, h9⟩
theorem wdF_rm {x : XS} (h : M1 ≤ M2) (hv : (tkSiz b e (M1 - x.2.2.2.2.1.2.2) (tkSeg b e sn x.2.2.2.2.1.2.2 (0, x.2.1, x.2.2.1)).2).1.1 ≤ M1 - x.2.2.2.2.1.2.2) : wdF b e sn M1 near same tt sB sG x = wdF b e sn M2 near same tt sB sG x := by
  obtain ⟨fl, pl, a, wn, m, g, cnt⟩ := x
  dsimp only at hv
  unfold wdF
  dsimp only
  rcases hS : tkSeg b e sn m.2.2 (0, pl, a) with ⟨⟨k, z, ff⟩, s1⟩
  rw [hS] at hv
  dsimp only at hv ⊢
  rw [tkSiz_rm (r1 := M1 - m.2.2) (r2 := M2 - m.2.2) (by omega) (by rw [← tkSiz_mk (r := M1 - m.2.2)]; exact hv)]
theorem wdL_z : ∀ (k : Nat) (x : XS), (wdL b e sn M1 near same tt sB sG k x).1 = 0 → x.1 = 0 → x.2.2.2.2.1.2.2 ≤ (wdL b e sn M1 near same tt sB sG k x).2.2.2.2.1.2.2
  | 0, _ => fun _ _ => Nat.le_refl _
  | k + 1, x => fun h h0 => by
    rw [wdL] at h ⊢
    by_cases q : x.1 = 0 ∧ x.2.2.1 < e
    · rw [if_pos q] at h ⊢
      by_cases q2 : (wdF b e sn M1 near same tt sB sG x).1 = 0
      · exact Nat.le_trans (wdF_z q2).1 (wdL_z k _ h q2)
      · rw [wdL_no (fun z => q2 z.1)] at h; exact absurd h q2
    · rw [if_neg q]; exact Nat.le_refl _
theorem wdL_A (h : M1 ≤ M2) : ∀ (k : Nat) (x : XS), (wdL b e sn M1 near same tt sB sG k x).1 = 0 → wdL b e sn M2 near same tt sB sG k x = wdL b e sn M1 near same tt sB sG k x
  | 0, _ => fun _ => rfl
  | k + 1, x => fun h9 => by
    rw [wdL] at h9 ⊢
    rw [wdL]
    by_cases q : x.1 = 0 ∧ x.2.2.1 < e
    · rw [if_pos q] at h9 ⊢
      rw [if_pos q]
      by_cases q2 : (wdF b e sn M1 near same tt sB sG x).1 = 0
      · have hz := wdF_z q2
        have hv := tkSiz_ok hz.2.1
        rw [← wdF_rm h (by rw [tkSiz_mk]; exact hv)]
        exact wdL_A h k _ h9
      · rw [wdL_no (fun z => q2 z.1)] at h9; exact absurd h9 q2
    · rw [if_neg q, if_neg q]
theorem wdL_B (h : M1 ≤ M2) : ∀ (k : Nat) (x : XS), (wdL b e sn M2 near same tt sB sG k x).1 = 0 → (wdL b e sn M2 near same tt sB sG k x).2.2.2.2.1.2.2 ≤ M1 → wdL b e sn M1 near same tt sB sG k x = wdL b e sn M2 near same tt sB sG k x
  | 0, _ => fun _ _ => rfl
  | k + 1, x => fun h9 hn => by
    rw [wdL] at h9 hn ⊢
    rw [wdL]
    by_cases q : x.1 = 0 ∧ x.2.2.1 < e
    · rw [if_pos q] at h9 hn ⊢
      rw [if_pos q]
      by_cases q2 : (wdF b e sn M2 near same tt sB sG x).1 = 0
      · have hz := wdF_z q2
        have hl := wdL_z k _ h9 q2
        have hv : (tkSiz b e (M1 - x.2.2.2.2.1.2.2) (tkSeg b e sn x.2.2.2.2.1.2.2 (0, x.2.1, x.2.2.1)).2).1.1 ≤ M1 - x.2.2.2.2.1.2.2 := by
          rw [tkSiz_mk, ← tkSiz_mk (r := M2 - x.2.2.2.2.1.2.2)]
          omega
        rw [wdF_rm h hv]
        exact wdL_B h k _ h9 hn
      · rw [wdL_no (fun z => q2 z.1)] at h9; exact absurd h9 q2
    · rw [if_neg q, if_neg q]
end MN
/-- reading with origins told by sG -/
def wdG (b : Nat → Nat) (e sn MN near same : Nat) (tt sB : Nat → Nat) (sG : Nat → Int32) (s : RS) : XS := wdL b e sn MN near same tt sB sG 8000 (s.1, s.2.1, s.2.2, 0, m00, g00, 0)
def rfG (b : Nat → Nat) (e sn : Nat) (sB : Nat → Nat) (sG : Nat → Int32) : XS :=
  if (tkK b e (tkMark b e (0, 0, 0))).1 = 2 then wdG b e sn 4000 (tbN b e (tkK b e (tkMark b e (0, 0, 0))).2) (tbM b e (tkK b e (tkMark b e (0, 0, 0))).2) (tbR b e (tkK b e (tkMark b e (0, 0, 0))).2).2.2.2.2.1.1 sB sG (tbE b e (tkK b e (tkMark b e (0, 0, 0))).2)
  else wdG b e sn 4000 4 3 firstT sB sG (tkK b e (tkMark b e (0, 0, 0))).2
theorem rfG_nI {b : Nat → Nat} {e sn : Nat} {sB : Nat → Nat} : rfG b e sn sB (fun i => nI i) = rfP b e sn sB := rfl
theorem rfG_rel {b : Nat → Nat} {e sn : Nat} {sB : Nat → Nat} {sG : Nat → Int32} {Rel : Int32 → Int32 → Prop} (hb9 : ∀ j, j < e → b j < 256) (h0 : Rel (-1) (-1)) (hs : ∀ i, i < sn → Rel (nI i) (sG i)) : xRel Rel (rfP b e sn sB) (rfG b e sn sB sG) := by
  unfold rfP rfG
  split
  · exact wdL_rel hb9 h0 hs 8000 _ _ ⟨rfl, rfl, rfl, rfl, m00_rel, rfl⟩
  · exact wdL_rel hb9 h0 hs 8000 _ _ ⟨rfl, rfl, rfl, rfl, m00_rel, rfl⟩
/-- the table, as the reference reads it: more room, no origins, another place for one fault -/
theorem tb_good {b : Nat → Nat} {e : Nat} {s : RS} {a : Nat} {x : XS} (hb9 : ∀ j, j < e → b j < 256) (hs1 : s.1 = (tbI b e a).1) (hs2 : s.2.2 = (tbI b e a).2.2) (hp : s.1 = 0 → s.2.1 = (tbI b e a).2.1) (hx : wdL b e 1536 4000 4 3 firstT firstT (fun _ => -1) 8000 (s.1, s.2.1, s.2.2, 0, m00, g00, 0) = x) : (x.1 = 0 ∧ x.2.2.2.2.1.2.2 = 1536 ↔ (tbX b e a).1 = 0 ∧ (tbX b e a).2.2.2.2.1.2.2 = 1536) ∧ (x.1 = 0 → x.2.2.2.2.1.2.2 = 1536 → x.2.2.2.2.1.1 = (tbX b e a).2.2.2.2.1.1) := by
  by_cases q : s.1 = 0
  · have e1 : (s.1, s.2.1, s.2.2, 0, m00, g00, 0) = ((tbI b e a).1, (tbI b e a).2.1, (tbI b e a).2.2, 0, m00, g00, 0) := by rw [hp q, hs1, hs2]
    rw [e1] at hx
    have hr := wdL_rel (Rel := fun _ _ => True) (b := b) (e := e) (sn := 1536) (MN := 4000) (near := 4) (same := 3) (tt := firstT) (sB := firstT) (sG1 := fun _ => -1) (sG2 := fun i => nI i) hb9 trivial (fun _ _ => trivial) 8000 ((tbI b e a).1, (tbI b e a).2.1, (tbI b e a).2.2, 0, m00, g00, 0) ((tbI b e a).1, (tbI b e a).2.1, (tbI b e a).2.2, 0, m00, g00, 0) ⟨rfl, rfl, rfl, rfl, ⟨rfl, rfl, fun _ _ => trivial⟩, rfl⟩
    rw [hx] at hr
    obtain ⟨r1, -, -, -, r5, -⟩ := hr
    have hA := wdL_A (b := b) (e := e) (sn := 1536) (near := 4) (same := 3) (tt := firstT) (sB := firstT) (sG := fun i => nI i) (show 1536 ≤ 4000 by omega) 8000 ((tbI b e a).1, (tbI b e a).2.1, (tbI b e a).2.2, 0, m00, g00, 0)
    have hB := wdL_B (b := b) (e := e) (sn := 1536) (near := 4) (same := 3) (tt := firstT) (sB := firstT) (sG := fun i => nI i) (show 1536 ≤ 4000 by omega) 8000 ((tbI b e a).1, (tbI b e a).2.1, (tbI b e a).2.2, 0, m00, g00, 0)
    have hT : tbX b e a = wdL b e 1536 1536 4 3 firstT firstT (fun i => nI i) 8000 ((tbI b e a).1, (tbI b e a).2.1, (tbI b e a).2.2, 0, m00, g00, 0) := rfl
    rw [← hT] at hA hB
    refine ⟨⟨fun h => ?_, fun h => ?_⟩, fun h1 h2 => ?_⟩
    · rw [hB (r1.symm.trans h.1) (by rw [← r5.2.1, h.2]; exact Nat.le_refl _)]
      exact ⟨r1.symm.trans h.1, r5.2.1.symm.trans h.2⟩
    · rw [hA h.1] at r1 r5
      exact ⟨r1.trans h.1, r5.2.1.trans h.2⟩
    · rw [hB (r1.symm.trans h1) (by rw [← r5.2.1, h2]; exact Nat.le_refl _)]
      exact r5.1
  · have e1 := wdL_no (b := b) (e := e) (sn := 1536) (MN := 4000) (near := 4) (same := 3) (tt := firstT) (sB := firstT) (sG := fun _ => -1) (n := 8000) (x := (s.1, s.2.1, s.2.2, 0, m00, g00, 0)) (fun z => q z.1)
    rw [e1] at hx
    have h2 : ¬ x.1 = 0 := by rw [← hx]; exact q
    have h3 : ¬ (tbX b e a).1 = 0 := by rw [tbX, wd0_bad (by rw [← hs1]; exact q)]; rw [← hs1]; exact q
    exact ⟨⟨fun z => absurd z.1 h2, fun z => absurd z.1 h3⟩, fun z => absurd z h2⟩
