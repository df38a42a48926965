/-! THE FIRST TABLE -/
def firstL0 : List Nat := [2, 1, 1, 1, 1, 1, 1, 1, 1, 1, 1, 1, 1, 1, 1, 1, 1, 1, 1, 3, 3, 3, 3, 3, 3, 3, 3, 3, 3, 3, 3, 3, 3, 3, 3, 3, 3, 3, 3, 3, 3, 3, 3, 3, 3, 3, 3, 3, 3, 3, 3, 3, 3, 3, 3, 3, 3, 3, 3, 3, 3, 3, 3, 3, 3, 3, 3, 3, 3, 3, 3, 3, 3, 3, 3, 3, 3, 3, 3, 3, 3, 3, 3, 3, 3, 3, 3, 3, 3, 3, 3, 3, 3, 3, 3, 3, 3, 3, 3, 3, 3, 3, 3, 3, 3, 3, 3, 3, 3, 3, 3, 3, 3, 3, 3, 3, 3, 3, 3, 3, 3, 3, 3, 3, 3, 3, 3, 3, 3, 3, 3, 3, 3, 3, 3, 3, 3, 3, 3, 3, 3, 3, 3, 3, 3, 3, 3, 3, 3, 3, 3, 3, 3, 3, 3, 3, 3, 3, 3, 3, 3, 3, 3, 1, 1, 1, 1, 1, 1, 1, 1, 1, 1, 1, 1, 1, 1, 1, 1, 1, 1, 1, 1, 1, 1, 1, 1, 1, 1, 1, 1, 1, 1, 1, 1, 1, 1, 1, 1, 1, 1, 1, 1, 1, 1, 1, 1, 1, 1, 1, 1, 1, 1, 1, 1, 1, 1, 1, 1, 1, 1, 1, 1, 1, 1, 1, 1, 1, 1, 1, 1, 1, 1, 1, 1, 1, 1, 1, 1, 1, 1, 1, 1, 1, 1, 1, 1, 3, 3, 3, 3, 3, 3, 3, 3, 3]
def firstL1 : List Nat := [0, 0, 0, 0, 0, 0, 0, 0, 0, 0, 0, 0, 0, 0, 0, 0, 0, 0, 0, 0, 0, 0, 0, 0, 0, 0, 0, 0, 0, 0, 0, 0, 0, 0, 0, 0, 0, 0, 0, 0, 0, 0, 0, 0, 0, 0, 0, 0, 0, 0, 0, 0, 0, 0, 0, 0, 0, 0, 0, 0, 0, 0, 0, 0, 0, 0, 0, 0, 0, 0, 0, 0, 0, 0, 0, 0, 0, 0, 0, 0, 0, 0, 0, 0, 0, 0, 0, 0, 0, 0, 0, 0, 0, 0, 0, 0, 0, 0, 0, 0, 0, 0, 0, 0, 0, 0, 0, 0, 0, 0, 0, 0, 0, 0, 0, 0, 0, 0, 0, 0, 0, 0, 0, 0, 0, 0, 0, 0, 0, 0, 0, 0, 0, 0, 0, 0, 0, 0, 0, 0, 0, 0, 0, 0, 0, 0, 0, 0, 0, 0, 0, 0, 0, 0, 0, 0, 0, 0, 0, 0, 0, 0, 0, 3, 3, 3, 3, 3, 3, 3, 3, 3, 3, 3, 3, 3, 3, 3, 3, 3, 3, 3, 3, 3, 3, 3, 3, 3, 3, 3, 3, 3, 3, 3, 3, 3, 3, 3, 3, 3, 3, 3, 3, 3, 3, 3, 3, 3, 3, 3, 3, 3, 3, 3, 3, 3, 3, 3, 3, 3, 3, 3, 3, 3, 3, 3, 3, 3, 3, 3, 3, 3, 3, 3, 3, 3, 3, 3, 3, 3, 3, 3, 3, 3, 3, 3, 3, 1, 1, 1, 1, 1, 1, 1, 1, 1]
def firstL2 : List Nat := [0, 0, 1, 2, 3, 4, 5, 6, 7, 8, 9, 10, 11, 12, 13, 14, 15, 16, 17, 0, 4, 5, 6, 7, 8, 9, 10, 11, 12, 13, 14, 15, 16, 17, 18, 0, 4, 5, 6, 7, 8, 9, 10, 11, 12, 13, 14, 15, 16, 17, 18, 0, 4, 5, 6, 7, 8, 9, 10, 11, 12, 13, 14, 15, 16, 17, 18, 0, 4, 5, 6, 7, 8, 9, 10, 11, 12, 13, 14, 15, 16, 17, 18, 0, 4, 5, 6, 7, 8, 9, 10, 11, 12, 13, 14, 15, 16, 17, 18, 0, 4, 5, 6, 7, 8, 9, 10, 11, 12, 13, 14, 15, 16, 17, 18, 0, 4, 5, 6, 7, 8, 9, 10, 11, 12, 13, 14, 15, 16, 17, 18, 0, 4, 5, 6, 7, 8, 9, 10, 11, 12, 13, 14, 15, 16, 17, 18, 0, 4, 5, 6, 7, 8, 9, 10, 11, 12, 13, 14, 15, 16, 17, 18, 1, 1, 1, 2, 2, 2, 3, 3, 3, 4, 4, 4, 1, 1, 1, 2, 2, 2, 3, 3, 3, 4, 4, 4, 1, 1, 1, 2, 2, 2, 3, 3, 3, 4, 4, 4, 1, 1, 1, 2, 2, 2, 3, 3, 3, 4, 4, 4, 1, 1, 1, 2, 2, 2, 3, 3, 3, 4, 4, 4, 1, 1, 1, 2, 2, 2, 3, 3, 3, 4, 4, 4, 1, 2, 3, 4, 1, 2, 3, 4, 1, 2, 3, 4, 4, 4, 4, 4, 4, 4, 4, 4, 4]
def firstL3 : List Nat := [0, 0, 0, 0, 0, 0, 0, 0, 0, 0, 0, 0, 0, 0, 0, 0, 0, 0, 0, 0, 0, 0, 0, 0, 0, 0, 0, 0, 0, 0, 0, 0, 0, 0, 0, 0, 0, 0, 0, 0, 0, 0, 0, 0, 0, 0, 0, 0, 0, 0, 0, 0, 0, 0, 0, 0, 0, 0, 0, 0, 0, 0, 0, 0, 0, 0, 0, 0, 0, 0, 0, 0, 0, 0, 0, 0, 0, 0, 0, 0, 0, 0, 0, 0, 0, 0, 0, 0, 0, 0, 0, 0, 0, 0, 0, 0, 0, 0, 0, 0, 0, 0, 0, 0, 0, 0, 0, 0, 0, 0, 0, 0, 0, 0, 0, 0, 0, 0, 0, 0, 0, 0, 0, 0, 0, 0, 0, 0, 0, 0, 0, 0, 0, 0, 0, 0, 0, 0, 0, 0, 0, 0, 0, 0, 0, 0, 0, 0, 0, 0, 0, 0, 0, 0, 0, 0, 0, 0, 0, 0, 0, 0, 0, 4, 5, 6, 4, 5, 6, 4, 5, 6, 4, 5, 6, 4, 5, 6, 4, 5, 6, 4, 5, 6, 4, 5, 6, 4, 5, 6, 4, 5, 6, 4, 5, 6, 4, 5, 6, 4, 5, 6, 4, 5, 6, 4, 5, 6, 4, 5, 6, 4, 5, 6, 4, 5, 6, 4, 5, 6, 4, 5, 6, 4, 5, 6, 4, 5, 6, 4, 5, 6, 4, 5, 6, 4, 4, 4, 4, 4, 4, 4, 4, 4, 4, 4, 4, 1, 1, 1, 1, 1, 1, 1, 1, 1]
def firstL4 : List Nat := [0, 0, 0, 0, 0, 0, 0, 0, 0, 0, 0, 0, 0, 0, 0, 0, 0, 0, 0, 0, 0, 0, 0, 0, 0, 0, 0, 0, 0, 0, 0, 0, 0, 0, 0, 1, 1, 1, 1, 1, 1, 1, 1, 1, 1, 1, 1, 1, 1, 1, 1, 2, 2, 2, 2, 2, 2, 2, 2, 2, 2, 2, 2, 2, 2, 2, 2, 3, 3, 3, 3, 3, 3, 3, 3, 3, 3, 3, 3, 3, 3, 3, 3, 4, 4, 4, 4, 4, 4, 4, 4, 4, 4, 4, 4, 4, 4, 4, 4, 5, 5, 5, 5, 5, 5, 5, 5, 5, 5, 5, 5, 5, 5, 5, 5, 6, 6, 6, 6, 6, 6, 6, 6, 6, 6, 6, 6, 6, 6, 6, 6, 7, 7, 7, 7, 7, 7, 7, 7, 7, 7, 7, 7, 7, 7, 7, 7, 8, 8, 8, 8, 8, 8, 8, 8, 8, 8, 8, 8, 8, 8, 8, 8, 0, 0, 0, 0, 0, 0, 0, 0, 0, 0, 0, 0, 0, 0, 0, 0, 0, 0, 0, 0, 0, 0, 0, 0, 0, 0, 0, 0, 0, 0, 0, 0, 0, 0, 0, 0, 0, 0, 0, 0, 0, 0, 0, 0, 0, 0, 0, 0, 0, 0, 0, 0, 0, 0, 0, 0, 0, 0, 0, 0, 0, 0, 0, 0, 0, 0, 0, 0, 0, 0, 0, 0, 0, 0, 0, 0, 0, 0, 0, 0, 0, 0, 0, 0, 0, 1, 2, 3, 4, 5, 6, 7, 8]
def firstL5 : List Nat := [0, 0, 0, 0, 0, 0, 0, 0, 0, 0, 0, 0, 0, 0, 0, 0, 0, 0, 0, 0, 0, 0, 0, 0, 0, 0, 0, 0, 0, 0, 0, 0, 0, 0, 0, 0, 0, 0, 0, 0, 0, 0, 0, 0, 0, 0, 0, 0, 0, 0, 0, 0, 0, 0, 0, 0, 0, 0, 0, 0, 0, 0, 0, 0, 0, 0, 0, 0, 0, 0, 0, 0, 0, 0, 0, 0, 0, 0, 0, 0, 0, 0, 0, 0, 0, 0, 0, 0, 0, 0, 0, 0, 0, 0, 0, 0, 0, 0, 0, 0, 0, 0, 0, 0, 0, 0, 0, 0, 0, 0, 0, 0, 0, 0, 0, 0, 0, 0, 0, 0, 0, 0, 0, 0, 0, 0, 0, 0, 0, 0, 0, 0, 0, 0, 0, 0, 0, 0, 0, 0, 0, 0, 0, 0, 0, 0, 0, 0, 0, 0, 0, 0, 0, 0, 0, 0, 0, 0, 0, 0, 0, 0, 0, 0, 0, 0, 0, 0, 0, 0, 0, 0, 0, 0, 0, 1, 1, 1, 1, 1, 1, 1, 1, 1, 1, 1, 1, 2, 2, 2, 2, 2, 2, 2, 2, 2, 2, 2, 2, 3, 3, 3, 3, 3, 3, 3, 3, 3, 3, 3, 3, 4, 4, 4, 4, 4, 4, 4, 4, 4, 4, 4, 4, 5, 5, 5, 5, 5, 5, 5, 5, 5, 5, 5, 5, 6, 6, 6, 6, 7, 7, 7, 7, 8, 8, 8, 8, 0, 0, 0, 0, 0, 0, 0, 0, 0]
def firstT (j : Nat) : Nat := (if j < 256 then firstL0 else if j < 512 then firstL1 else if j < 768 then firstL2 else if j < 1024 then firstL3 else if j < 1280 then firstL4 else firstL5).getD (j % 256) 0
/-- the first table as far as the codes below c -/
def fuT (c : Nat) : Nat → Nat := fun j => if j % 256 < c then firstT j else 0
def sp3 (t : Nat → Nat) (c q k s m : Nat) : Nat → Nat := va_up (va_up (va_up t (q * 256 + c) k) (512 + q * 256 + c) s) (1024 + q * 256 + c) m
def codeIs (c k s m k2 s2 m2 : Nat) : Bool := firstT c == k && firstT (256 + c) == k2 && firstT (512 + c) == s && firstT (768 + c) == s2 && firstT (1024 + c) == m && firstT (1280 + c) == m2
theorem codeIs_of {c k s m k2 s2 m2 : Nat} (h : codeIs c k s m k2 s2 m2 = true) : firstT c = k ∧ firstT (256 + c) = k2 ∧ firstT (512 + c) = s ∧ firstT (768 + c) = s2 ∧ firstT (1024 + c) = m ∧ firstT (1280 + c) = m2 := by
  simpa [codeIs, and_assoc] using h
theorem fu_256 {j : Nat} (h : j < 1536) : fuT 256 j = firstT j := by simp [fuT, Nat.mod_lt]
theorem fu_one {c k s m : Nat} (hc : c < 256) (h : codeIs c k s m 0 0 0 = true) (j : Nat) (hj : j < 1536) : sp3 (fuT c) c 0 k s m j = fuT (c + 1) j := by
  obtain ⟨h0, h1, h2, h3, h4, h5⟩ := codeIs_of h
  simp only [sp3, va_up, fuT]
  by_cases a4 : j = 1024 + 0 * 256 + c
  · rw [if_pos a4, if_pos (by omega), a4, show 1024 + 0 * 256 + c = 1024 + c by omega, h4]
  rw [if_neg a4]
  by_cases a2 : j = 512 + 0 * 256 + c
  · rw [if_pos a2, if_pos (by omega), a2, show 512 + 0 * 256 + c = 512 + c by omega, h2]
  rw [if_neg a2]
  by_cases a0 : j = 0 * 256 + c
  · rw [if_pos a0, if_pos (by omega), a0, show 0 * 256 + c = c by omega, h0]
  rw [if_neg a0]
  by_cases q : j % 256 < c
  · rw [if_pos q, if_pos (by omega)]
  rw [if_neg q]
  by_cases q2 : j % 256 < c + 1
  · rw [if_pos q2]
    rcases (show j = 256 + c ∨ j = 768 + c ∨ j = 1280 + c by omega) with rfl | rfl | rfl
    · exact h1.symm
    · exact h3.symm
    · exact h5.symm
  · rw [if_neg q2]
theorem fu_two {c k s m k2 s2 m2 : Nat} (hc : c < 256) (h : codeIs c k s m k2 s2 m2 = true) (j : Nat) (hj : j < 1536) : sp3 (sp3 (fuT c) c 0 k s m) c 1 k2 s2 m2 j = fuT (c + 1) j := by
  obtain ⟨h0, h1, h2, h3, h4, h5⟩ := codeIs_of h
  simp only [sp3, va_up, fuT]
  by_cases b4 : j = 1024 + 1 * 256 + c
  · rw [if_pos b4, if_pos (by omega), b4, show 1024 + 1 * 256 + c = 1280 + c by omega, h5]
  rw [if_neg b4]
  by_cases b2 : j = 512 + 1 * 256 + c
  · rw [if_pos b2, if_pos (by omega), b2, show 512 + 1 * 256 + c = 768 + c by omega, h3]
  rw [if_neg b2]
  by_cases b0 : j = 1 * 256 + c
  · rw [if_pos b0, if_pos (by omega), b0, show 1 * 256 + c = 256 + c by omega, h1]
  rw [if_neg b0]
  by_cases a4 : j = 1024 + 0 * 256 + c
  · rw [if_pos a4, if_pos (by omega), a4, show 1024 + 0 * 256 + c = 1024 + c by omega, h4]
  rw [if_neg a4]
  by_cases a2 : j = 512 + 0 * 256 + c
  · rw [if_pos a2, if_pos (by omega), a2, show 512 + 0 * 256 + c = 512 + c by omega, h2]
  rw [if_neg a2]
  by_cases a0 : j = 0 * 256 + c
  · rw [if_pos a0, if_pos (by omega), a0, show 0 * 256 + c = c by omega, h0]
  rw [if_neg a0]
  by_cases q : j % 256 < c
  · rw [if_pos q, if_pos (by omega)]
  rw [if_neg q, if_neg (by omega)]
theorem first_lt : ∀ j, j < 1536 → firstT j < 256 := by
  intro j _
  have h : ∀ (L : List Nat), L.all (fun x => decide (x < 256)) = true → ∀ i, L.getD i 0 < 256 := by
    intro L hL i
    by_cases hi : i < L.length
    · exact co_tab (P := fun x => x < 256) (fun a ha => of_decide_eq_true (List.all_eq_true.mp hL a ha)) hi
    · simp [List.getD, List.getElem?_eq_none (show L.length ≤ i by omega)]
  unfold firstT
  (repeat' split) <;> exact h _ (by decide +kernel) _
theorem tab_fu {f : Nat → Int32} {t : Nat → Nat} {c : Nat} (h : tabIs f t) (he : ∀ j, j < 1536 → t j = fuT c j) : tabIs f (fuT c) := fun j hj => by rw [← he j hj]; exact h j hj
/-- the number of a pair of ADD and COPY -/
def pIx (m a z : Nat) : Nat := 163 + (if m < 6 then 12 * m + (a - 1) * 3 else 72 + 4 * (m - 6) + (a - 1)) + (z - 4)
theorem ft_run : codeIs 0 2 0 0 0 0 0 = true := by decide +kernel
theorem ft_add : ∀ z, z < 18 → codeIs (1 + z) 1 z 0 0 0 0 = true := by decide +kernel
theorem ft_cp0 : ∀ m, m < 9 → codeIs (19 + 16 * m) 3 0 m 0 0 0 = true := by decide +kernel
theorem ft_cp1 : ∀ m, m < 9 → ∀ z, z < 19 → (z < 4 ∨ codeIs (19 + 16 * m + z - 3) 3 z m 0 0 0 = true) := by decide +kernel
theorem ft_cp (m : Nat) (hm : m < 9) (z : Nat) (hz : z < 19) (h4 : 4 ≤ z) : codeIs (19 + 16 * m + z - 3) 3 z m 0 0 0 = true := by
  rcases ft_cp1 m hm z hz with q | q
  · omega
  · exact q
theorem ft_ac0 : ((List.range 9).all fun m => (List.range 5).all fun a => (List.range 7).all fun z => decide (a = 0 ∨ z < 4 ∨ (6 ≤ m ∧ z ≠ 4)) || codeIs (pIx m a z) 1 a 0 3 z m) = true := by decide +kernel
theorem ft_ac (m : Nat) (hm : m < 9) (a : Nat) (ha : a < 5) (h1 : 1 ≤ a) (z : Nat) (hz : z < 7) (h4 : 4 ≤ z) (h : m < 6 ∨ z = 4) : codeIs (pIx m a z) 1 a 0 3 z m = true := by
  have q := List.all_eq_true.mp (List.all_eq_true.mp (List.all_eq_true.mp ft_ac0 m (List.mem_range.mpr hm)) a (List.mem_range.mpr ha)) z (List.mem_range.mpr hz)
  rw [decide_eq_false (by omega), Bool.false_or] at q
  exact q
theorem ft_ca : ∀ m, m < 9 → codeIs (247 + m) 3 4 m 1 1 0 = true := by decide +kernel
theorem first_right : rightP firstT 9 512 := by
  have h : ∀ i, i < 512 → firstT i ≤ 3 ∧ (firstT i = 3 → firstT (1024 + i) < 9) := by decide +kernel
  exact h
theorem tab_up {f : Nat → Int32} {t : Nat → Nat} {i v : Nat} (h : tabIs f t) (hv : v < 256) : tabIs (upd f i (nI v)) (va_up t i v) := fun j hj => by
  by_cases q : j = i
  · subst q; rw [pk_us, va_up_self]; exact ⟨rfl, hv⟩
  · rw [pk_un q, va_up_ne _ _ q]; exact h j hj
theorem rep_ok {n i v : Nat} {f f2 : Nat → Int32} (hi : i < n) (hn : n < 2 ^ 31) (hv : v < 256) (h : f2 = if inB (nI i) n = true ∧ ¬ (nI v < 0 ∨ ¬ nI v ≤ 255) then upd f (nI i).toNatClampNeg (nI v) else f) : f2 = upd f i (nI v) := by
  rw [if_pos ⟨inB_t hi hn, fun q => q.elim (fun q => nI_pos (by omega) q) (fun q => q (nI_le (b := 255) (by omega) (by decide)))⟩, nI_clamp (by omega)] at h
  exact h
set_option maxHeartbeats 4000000 in
set_option maxRecDepth 100000 in
theorem c_Table_setPart (l : Launch) (D : va_G) (cI cB cJ cR : ClassId) (t : Nat) (sr : Nat) (so : Nat) (tn : Nat) (ts : Nat) (hd : Nat) (nt : Nat) (sf : Nat → Int32) (tt : Nat → Nat) (c : Nat) (q : Nat) (k : Nat) (s : Nat) (md : Nat) (ht : tabIs sf tt) (hc : c < 256) (hq : q < 2) (hk : k < 256) (hs : s < 256) (hm : md < 256) : CMv l yX6_setPart cX6_setPart 6 none ({ frames := 2, cells := 0, slots := 0, locals := 44 }) D (tyA cI cB cJ cR) 0 0 [.ref t, .int (nI c), .int (nI q), .int (nI k), .int (nI s), .int (nI md)] [(t, .inr (6, [.ref sr, .int (nI tn), .int (nI ts), .ref hd, .ref nt])), (sr, .inr (4, [.ref so, .int (nI 1536), .int 0])), (so, .inl (cI, 1536, .inl sf))] (fun (sf2 : Nat → Int32) => tabIs sf2 (sp3 tt c q k s md)) (fun (sf2 : Nat → Int32) => [(t, .inr (6, [.ref sr, .int (nI tn), .int (nI ts), .ref hd, .ref nt])), (sr, .inr (4, [.ref so, .int (nI 1536), .int 0])), (so, .inl (cI, 1536, .inl sf2))]) := by
  refine st_v (cc := cX6_setPart) (maxL := 6) (by decide) (Nat.le_of_ble_eq_true rfl) ?_
  intro p0 e0 s0 m0 below meth c0 A0 Q0 hBD hret hP hD hS ls hl
  obtain ⟨hx, hb, hml, hown, hts, hnm, hK, hNw, hMk, hA⟩ := hBD
  have hl : lv_has ls 6 [(0, .ref t), (1, .int (nI c)), (2, .int (nI q)), (3, .int (nI k)), (4, .int (nI s)), (5, .int (nI md))] := hl
  have hP : va_P D vwCl [(t, .inr (6, [.ref sr, .int (nI tn), .int (nI ts), .ref hd, .ref nt])), (sr, .inr (4, [.ref so, .int (nI 1536), .int 0])), (so, .inl (cI, 1536, .inl sf))] s0.heap := hP
  have hD : va_D A0 [(t, .inr (6, [.ref sr, .int (nI tn), .int (nI ts), .ref hd, .ref nt])), (sr, .inr (4, [.ref so, .int (nI 1536), .int 0])), (so, .inl (cI, 1536, .inl sf))] := hD
  refine lv_aload_n hx hb dX6_setPart_0 rfl (lv_at hl 0 rfl) ?_
  refine va_get (D := D) (ci := 6) (v := .ref sr) (C := RX6) (T := TX6) (N := 5) hx hb hts in_X6 hown hK hP 0 rfl rfl 0 (by decide) (hts _ kX6_14) (fun _ h9 => h9) rfl dX6_setPart_1 ?_
  refine lv_iload_n hx hb dX6_setPart_4 rfl (lv_at hl 2 rfl) ?_
  refine lv_sipush (v := 256) hx hb dX6_setPart_5 (by decide) ?_
  refine lv_imul hx hb dX6_setPart_8 ?_
  refine ri (y := nI (q * 256)) (pk_mul q 256) ?_
  refine lv_iload_n hx hb dX6_setPart_9 rfl (lv_at hl 1 rfl) ?_
  refine lv_iadd hx hb dX6_setPart_10 ?_
  refine ri (y := nI ((q * 256) + c)) (nI_add (q * 256) c) ?_
  refine lv_iload_n hx hb dX6_setPart_11 rfl (lv_at hl 3 rfl) ?_
  refine jn_i (wr := [(t, .inr (6, [.ref sr, .int (nI tn), .int (nI ts), .ref hd, .ref nt]))]) hA hP hD hS [1, 2] [0] rfl rfl (by decide) (by decide) (rn_V (As := [.int (nI (q * 256 + c)), .int (nI k)]) (rest := []) ⟨hx, hb, hml, hown, hts⟩ (cvV 2 hts zc_yX4_replace zi_X4 zm_yX4_replace zv_yX4_replace kX6_57 (by decide +kernel) rfl rfl ⟨Nat.le_of_ble_eq_true rfl, Nat.le_of_ble_eq_true rfl⟩) (c_Row_replace l D cI cB cJ cR sr so 1536 1536 sf 0 (nI (q * 256 + c)) (nI k) (by decide) (by decide) s0.heap.size) hK hNw hMk hA hP hD hS [1, 2] rfl rfl (by decide) 0 rfl rfl rfl rfl hl.1 rfl (Nat.le_of_ble_eq_true rfl) dX6_setPart_12 ⟨Nat.le_of_ble_eq_true rfl, Nat.le_of_ble_eq_true rfl⟩) (fun r_2 u9 H locs w_3 hP hD hS => ?_)
  obtain ⟨f2_1, rfl⟩ : ∃ z9, z9 = u9 := ⟨_, rfl⟩
  try dsimp only at w_3
  have hP : va_P D vwCl [(t, .inr (6, [.ref sr, .int (nI tn), .int (nI ts), .ref hd, .ref nt])), (sr, .inr (4, [.ref so, .int (nI 1536), .int 0])), (so, .inl (cI, 1536, .inl f2_1))] H := hP
  have hD : va_D A0 [(t, .inr (6, [.ref sr, .int (nI tn), .int (nI ts), .ref hd, .ref nt])), (sr, .inr (4, [.ref so, .int (nI 1536), .int 0])), (so, .inl (cI, 1536, .inl f2_1))] := hD
  have ef2_1 := rep_ok (by omega) (by decide) hk w_3.2
  subst ef2_1
  have hP : va_P D vwCl [(t, .inr (6, [.ref sr, .int (nI tn), .int (nI ts), .ref hd, .ref nt])), (sr, .inr (4, [.ref so, .int (nI 1536), .int 0])), (so, .inl (cI, 1536, .inl (upd sf (q * 256 + c) (nI k))))] H := hP
  have hD : va_D A0 [(t, .inr (6, [.ref sr, .int (nI tn), .int (nI ts), .ref hd, .ref nt])), (sr, .inr (4, [.ref so, .int (nI 1536), .int 0])), (so, .inl (cI, 1536, .inl (upd sf (q * 256 + c) (nI k))))] := hD
  refine lv_pop hx hb dX6_setPart_15 rfl ?_
  refine lv_aload_n hx hb dX6_setPart_16 rfl (lv_at hl 0 rfl) ?_
  refine va_get (D := D) (ci := 6) (v := .ref sr) (C := RX6) (T := TX6) (N := 5) hx hb hts in_X6 hown hK hP 0 rfl rfl 0 (by decide) (hts _ kX6_14) (fun _ h9 => h9) rfl dX6_setPart_17 ?_
  refine lv_sipush (v := 512) hx hb dX6_setPart_20 (by decide) ?_
  refine lv_iload_n hx hb dX6_setPart_23 rfl (lv_at hl 2 rfl) ?_
  refine lv_sipush (v := 256) hx hb dX6_setPart_24 (by decide) ?_
  refine lv_imul hx hb dX6_setPart_27 ?_
  refine ri (y := nI (q * 256)) (pk_mul q 256) ?_
  refine lv_iadd hx hb dX6_setPart_28 ?_
  refine ri (y := nI (512 + (q * 256))) (nI_add 512 (q * 256)) ?_
  refine lv_iload_n hx hb dX6_setPart_29 rfl (lv_at hl 1 rfl) ?_
  refine lv_iadd hx hb dX6_setPart_30 ?_
  refine ri (y := nI ((512 + (q * 256)) + c)) (nI_add (512 + (q * 256)) c) ?_
  refine lv_iload hx hb dX6_setPart_31 (lv_at hl 4 rfl) ?_
  refine jn_i (wr := [(t, .inr (6, [.ref sr, .int (nI tn), .int (nI ts), .ref hd, .ref nt]))]) hA hP hD hS [1, 2] [0] rfl rfl (by decide) (by decide) (rn_V (As := [.int (nI (512 + q * 256 + c)), .int (nI s)]) (rest := []) ⟨hx, hb, hml, hown, hts⟩ (cvV 2 hts zc_yX4_replace zi_X4 zm_yX4_replace zv_yX4_replace kX6_57 (by decide +kernel) rfl rfl ⟨Nat.le_of_ble_eq_true rfl, Nat.le_of_ble_eq_true rfl⟩) (c_Row_replace l D cI cB cJ cR sr so 1536 1536 (upd sf (q * 256 + c) (nI k)) 0 (nI (512 + q * 256 + c)) (nI s) (by decide) (by decide) H.size) hK hNw hMk hA hP hD hS [1, 2] rfl rfl (by decide) 0 rfl rfl rfl rfl hl.1 rfl (Nat.le_of_ble_eq_true rfl) dX6_setPart_33 ⟨Nat.le_of_ble_eq_true rfl, Nat.le_of_ble_eq_true rfl⟩) (fun r_5 u9 H locs w_6 hP hD hS => ?_)
  obtain ⟨f2_4, rfl⟩ : ∃ z9, z9 = u9 := ⟨_, rfl⟩
  try dsimp only at w_6
  have hP : va_P D vwCl [(t, .inr (6, [.ref sr, .int (nI tn), .int (nI ts), .ref hd, .ref nt])), (sr, .inr (4, [.ref so, .int (nI 1536), .int 0])), (so, .inl (cI, 1536, .inl f2_4))] H := hP
  have hD : va_D A0 [(t, .inr (6, [.ref sr, .int (nI tn), .int (nI ts), .ref hd, .ref nt])), (sr, .inr (4, [.ref so, .int (nI 1536), .int 0])), (so, .inl (cI, 1536, .inl f2_4))] := hD
  have ef2_4 := rep_ok (by omega) (by decide) hs w_6.2
  subst ef2_4
  have hP : va_P D vwCl [(t, .inr (6, [.ref sr, .int (nI tn), .int (nI ts), .ref hd, .ref nt])), (sr, .inr (4, [.ref so, .int (nI 1536), .int 0])), (so, .inl (cI, 1536, .inl (upd (upd sf (q * 256 + c) (nI k)) (512 + q * 256 + c) (nI s))))] H := hP
  have hD : va_D A0 [(t, .inr (6, [.ref sr, .int (nI tn), .int (nI ts), .ref hd, .ref nt])), (sr, .inr (4, [.ref so, .int (nI 1536), .int 0])), (so, .inl (cI, 1536, .inl (upd (upd sf (q * 256 + c) (nI k)) (512 + q * 256 + c) (nI s))))] := hD
  refine lv_pop hx hb dX6_setPart_36 rfl ?_
  refine lv_aload_n hx hb dX6_setPart_37 rfl (lv_at hl 0 rfl) ?_
  refine va_get (D := D) (ci := 6) (v := .ref sr) (C := RX6) (T := TX6) (N := 5) hx hb hts in_X6 hown hK hP 0 rfl rfl 0 (by decide) (hts _ kX6_14) (fun _ h9 => h9) rfl dX6_setPart_38 ?_
  refine lv_sipush (v := 1024) hx hb dX6_setPart_41 (by decide) ?_
  refine lv_iload_n hx hb dX6_setPart_44 rfl (lv_at hl 2 rfl) ?_
  refine lv_sipush (v := 256) hx hb dX6_setPart_45 (by decide) ?_
  refine lv_imul hx hb dX6_setPart_48 ?_
  refine ri (y := nI (q * 256)) (pk_mul q 256) ?_
  refine lv_iadd hx hb dX6_setPart_49 ?_
  refine ri (y := nI (1024 + (q * 256))) (nI_add 1024 (q * 256)) ?_
  refine lv_iload_n hx hb dX6_setPart_50 rfl (lv_at hl 1 rfl) ?_
  refine lv_iadd hx hb dX6_setPart_51 ?_
  refine ri (y := nI ((1024 + (q * 256)) + c)) (nI_add (1024 + (q * 256)) c) ?_
  refine lv_iload hx hb dX6_setPart_52 (lv_at hl 5 rfl) ?_
  refine jn_i (wr := [(t, .inr (6, [.ref sr, .int (nI tn), .int (nI ts), .ref hd, .ref nt]))]) hA hP hD hS [1, 2] [0] rfl rfl (by decide) (by decide) (rn_V (As := [.int (nI (1024 + q * 256 + c)), .int (nI md)]) (rest := []) ⟨hx, hb, hml, hown, hts⟩ (cvV 2 hts zc_yX4_replace zi_X4 zm_yX4_replace zv_yX4_replace kX6_57 (by decide +kernel) rfl rfl ⟨Nat.le_of_ble_eq_true rfl, Nat.le_of_ble_eq_true rfl⟩) (c_Row_replace l D cI cB cJ cR sr so 1536 1536 (upd (upd sf (q * 256 + c) (nI k)) (512 + q * 256 + c) (nI s)) 0 (nI (1024 + q * 256 + c)) (nI md) (by decide) (by decide) H.size) hK hNw hMk hA hP hD hS [1, 2] rfl rfl (by decide) 0 rfl rfl rfl rfl hl.1 rfl (Nat.le_of_ble_eq_true rfl) dX6_setPart_54 ⟨Nat.le_of_ble_eq_true rfl, Nat.le_of_ble_eq_true rfl⟩) (fun r_8 u9 H locs w_9 hP hD hS => ?_)
  obtain ⟨f2_7, rfl⟩ : ∃ z9, z9 = u9 := ⟨_, rfl⟩
  try dsimp only at w_9
  have hP : va_P D vwCl [(t, .inr (6, [.ref sr, .int (nI tn), .int (nI ts), .ref hd, .ref nt])), (sr, .inr (4, [.ref so, .int (nI 1536), .int 0])), (so, .inl (cI, 1536, .inl f2_7))] H := hP
  have hD : va_D A0 [(t, .inr (6, [.ref sr, .int (nI tn), .int (nI ts), .ref hd, .ref nt])), (sr, .inr (4, [.ref so, .int (nI 1536), .int 0])), (so, .inl (cI, 1536, .inl f2_7))] := hD
  have ef2_7 := rep_ok (by omega) (by decide) hm w_9.2
  subst ef2_7
  have hP : va_P D vwCl [(t, .inr (6, [.ref sr, .int (nI tn), .int (nI ts), .ref hd, .ref nt])), (sr, .inr (4, [.ref so, .int (nI 1536), .int 0])), (so, .inl (cI, 1536, .inl (upd (upd (upd sf (q * 256 + c) (nI k)) (512 + q * 256 + c) (nI s)) (1024 + q * 256 + c) (nI md))))] H := hP
  have hD : va_D A0 [(t, .inr (6, [.ref sr, .int (nI tn), .int (nI ts), .ref hd, .ref nt])), (sr, .inr (4, [.ref so, .int (nI 1536), .int 0])), (so, .inl (cI, 1536, .inl (upd (upd (upd sf (q * 256 + c) (nI k)) (512 + q * 256 + c) (nI s)) (1024 + q * 256 + c) (nI md))))] := hD
  refine lv_pop hx hb dX6_setPart_57 rfl ?_
  exact hret 58 ls _ _ (upd (upd (upd sf (q * 256 + c) (nI k)) (512 + q * 256 + c) (nI s)) (1024 + q * 256 + c) (nI md)) dX6_setPart_58 hP hD hS (tab_up (tab_up (tab_up ht hk) hs) hm)

set_option maxHeartbeats 4000000 in
set_option maxRecDepth 100000 in
theorem c_Table_setFirstPairs (l : Launch) (D : va_G) (cI cB cJ cR : ClassId) (t : Nat) (sr : Nat) (so : Nat) (tn : Nat) (ts : Nat) (hd : Nat) (nt : Nat) (sf : Nat → Int32) (ht : tabIs sf (fuT 163)) : CMv l yX6_setFirstPairs cX6_setFirstPairs 7 none ({ frames := 3, cells := 0, slots := 0, locals := 69 }) D (tyA cI cB cJ cR) 0 0 [.ref t, .int (nI 163)] [(t, .inr (6, [.ref sr, .int (nI tn), .int (nI ts), .ref hd, .ref nt])), (sr, .inr (4, [.ref so, .int (nI 1536), .int 0])), (so, .inl (cI, 1536, .inl sf))] (fun (sf2 : Nat → Int32) => tabIs sf2 firstT) (fun (sf2 : Nat → Int32) => [(t, .inr (6, [.ref sr, .int (nI tn), .int (nI ts), .ref hd, .ref nt])), (sr, .inr (4, [.ref so, .int (nI 1536), .int 0])), (so, .inl (cI, 1536, .inl sf2))]) := by
  refine st_v (cc := cX6_setFirstPairs) (maxL := 7) (by decide) (Nat.le_of_ble_eq_true rfl) ?_
  intro p0 e0 s0 m0 below meth c0 A0 Q0 hBD hret hP hD hS ls hl
  obtain ⟨hx, hb, hml, hown, hts, hnm, hK, hNw, hMk, hA⟩ := hBD
  have hl : lv_has ls 7 [(0, .ref t), (1, .int (nI 163))] := hl
  have hP : va_P D vwCl [(t, .inr (6, [.ref sr, .int (nI tn), .int (nI ts), .ref hd, .ref nt])), (sr, .inr (4, [.ref so, .int (nI 1536), .int 0])), (so, .inl (cI, 1536, .inl sf))] s0.heap := hP
  have hD : va_D A0 [(t, .inr (6, [.ref sr, .int (nI tn), .int (nI ts), .ref hd, .ref nt])), (sr, .inr (4, [.ref so, .int (nI 1536), .int 0])), (so, .inl (cI, 1536, .inl sf))] := hD
  refine lv_iload_n hx hb dX6_setFirstPairs_0 rfl (lv_at hl 1 rfl) ?_
  refine lv_istore_n (lv' := [(2, .int (nI 163)), (0, .ref t), (1, .int (nI 163))]) hx hb dX6_setFirstPairs_1 rfl hl (by decide) rfl (fun ls hl => ?_)
  refine lv_iconst (v := 0) hx hb dX6_setFirstPairs_2 (by decide) ?_
  refine ri (y := nI 0) (nI_0.symm) ?_
  refine lv_istore_n (lv' := [(3, .int (nI 0)), (2, .int (nI 163)), (0, .ref t), (1, .int (nI 163))]) hx hb dX6_setFirstPairs_3 rfl hl (by decide) rfl (fun ls hl => ?_)
  have loop2 : ∀ (k9 : Nat) (m : Nat) (f1 : Nat → Int32) (H : Heap) (locs : List Loc) (ls : Array Slot), 9 - m < k9 → (m ≤ 9) → (tabIs f1 (fuT (247 + m))) → va_P D vwCl [(t, .inr (6, [.ref sr, .int (nI tn), .int (nI ts), .ref hd, .ref nt])), (sr, .inr (4, [.ref so, .int (nI 1536), .int 0])), (so, .inl (cI, 1536, .inl f1))] H → va_D A0 [(t, .inr (6, [.ref sr, .int (nI tn), .int (nI ts), .ref hd, .ref nt])), (sr, .inr (4, [.ref so, .int (nI 1536), .int 0])), (so, .inl (cI, 1536, .inl f1))] → va_S A0 s0.heap H locs → lv_has ls 7 [(0, .ref t), (1, .int (nI 163)), (2, .int (nI (247 + m))), (3, .int (nI m))] → W p0 l e0 ({ frames := 3, cells := 0, slots := 0, locals := 69 }) s0 m0 ([.ref t, .int (nI 163)] : List Value).toArray below meth c0 H locs 0 0 Q0 (F0 m0 85 ls []) := by
    intro k9
    induction k9 with
    | zero => intro m f1 H locs ls hk9; exact absurd hk9 (Nat.not_lt_zero _)
    | succ k9 ih =>
      intro m f1 H locs ls hk9 hm hf hP hD hS hl
      refine lv_iload_n hx hb dX6_setFirstPairs_85 rfl (lv_at hl 3 rfl) ?_
      refine lv_bipush (v := 8) hx hb dX6_setFirstPairs_86 (by decide) ?_
      refine lv_icmp_gt (tgt := 118) hx hb dX6_setFirstPairs_88 (by decide) (fun c_1 => ?_) (fun c_1 => ?_)
      · have hm9 : 9 ≤ m := by have := (nI_ltI (a := 8) (b := m) (by decide) (by omega)).mp c_1; omega
        have hm0 : m = 9 := by omega
        exact hret 118 ls _ _ (f1) dX6_setFirstPairs_118 hP hD hS (fun j hj => by have h9 := hf j hj; rw [hm0] at h9; rw [← fu_256 hj]; exact h9)
      · have hm9 : m < 9 := by have := Nat.not_lt.mp (fun z => c_1 (nI_lt (a := 8) (b := m) z (by omega))); omega
        refine lv_aload_n hx hb dX6_setFirstPairs_91 rfl (lv_at hl 0 rfl) ?_
        refine lv_iload_n hx hb dX6_setFirstPairs_92 rfl (lv_at hl 2 rfl) ?_
        refine lv_iconst (v := 0) hx hb dX6_setFirstPairs_93 (by decide) ?_
        refine lv_iconst (v := 3) hx hb dX6_setFirstPairs_94 (by decide) ?_
        refine lv_iconst (v := 4) hx hb dX6_setFirstPairs_95 (by decide) ?_
        refine lv_iload_n hx hb dX6_setFirstPairs_96 rfl (lv_at hl 3 rfl) ?_
        refine jn_v (wr := []) hA hP hD hS [0, 1, 2] [] rfl rfl (by decide) (by decide) (rn_V (As := [.int (nI (247 + m)), .int (nI 0), .int (nI 3), .int (nI 4), .int (nI m)]) (rest := []) ⟨hx, hb, hml, hown, hts⟩ (cvV 5 hts zc_yX6_setPart zi_X6 zm_yX6_setPart zv_yX6_setPart kX6_50 (by decide +kernel) rfl rfl ⟨Nat.le_of_ble_eq_true rfl, Nat.le_of_ble_eq_true rfl⟩) (c_Table_setPart l D cI cB cJ cR t sr so tn ts hd nt f1 (fuT (247 + m)) (247 + m) 0 3 4 m (hf) (by omega) (by decide) (by decide) (by decide) (by omega) H.size) hK hNw hMk hA hP hD hS [0, 1, 2] rfl rfl (by decide) 0 rfl rfl rfl rfl hl.1 rfl (Nat.le_of_ble_eq_true rfl) dX6_setFirstPairs_97 ⟨Nat.le_of_ble_eq_true rfl, Nat.le_of_ble_eq_true rfl⟩) (fun u9 H locs w_4 hP hD hS => ?_)
        obtain ⟨sf2_2, rfl⟩ : ∃ z9, z9 = u9 := ⟨_, rfl⟩
        try dsimp only at w_4
        have hP : va_P D vwCl [(t, .inr (6, [.ref sr, .int (nI tn), .int (nI ts), .ref hd, .ref nt])), (sr, .inr (4, [.ref so, .int (nI 1536), .int 0])), (so, .inl (cI, 1536, .inl sf2_2))] H := hP
        have hD : va_D A0 [(t, .inr (6, [.ref sr, .int (nI tn), .int (nI ts), .ref hd, .ref nt])), (sr, .inr (4, [.ref so, .int (nI 1536), .int 0])), (so, .inl (cI, 1536, .inl sf2_2))] := hD
        refine lv_aload_n hx hb dX6_setFirstPairs_100 rfl (lv_at hl 0 rfl) ?_
        refine lv_iload_n hx hb dX6_setFirstPairs_101 rfl (lv_at hl 2 rfl) ?_
        refine lv_iconst (v := 1) hx hb dX6_setFirstPairs_102 (by decide) ?_
        refine lv_iconst (v := 1) hx hb dX6_setFirstPairs_103 (by decide) ?_
        refine lv_iconst (v := 1) hx hb dX6_setFirstPairs_104 (by decide) ?_
        refine lv_iconst (v := 0) hx hb dX6_setFirstPairs_105 (by decide) ?_
        refine jn_v (wr := []) hA hP hD hS [0, 1, 2] [] rfl rfl (by decide) (by decide) (rn_V (As := [.int (nI (247 + m)), .int (nI 1), .int (nI 1), .int (nI 1), .int (nI 0)]) (rest := []) ⟨hx, hb, hml, hown, hts⟩ (cvV 5 hts zc_yX6_setPart zi_X6 zm_yX6_setPart zv_yX6_setPart kX6_50 (by decide +kernel) rfl rfl ⟨Nat.le_of_ble_eq_true rfl, Nat.le_of_ble_eq_true rfl⟩) (c_Table_setPart l D cI cB cJ cR t sr so tn ts hd nt sf2_2 (sp3 (fuT (247 + m)) (247 + m) 0 3 4 m) (247 + m) 1 1 1 0 (w_4) (by omega) (by decide) (by decide) (by decide) (by decide) H.size) hK hNw hMk hA hP hD hS [0, 1, 2] rfl rfl (by decide) 0 rfl rfl rfl rfl hl.1 rfl (Nat.le_of_ble_eq_true rfl) dX6_setFirstPairs_106 ⟨Nat.le_of_ble_eq_true rfl, Nat.le_of_ble_eq_true rfl⟩) (fun u9 H locs w_7 hP hD hS => ?_)
        obtain ⟨sf2_5, rfl⟩ : ∃ z9, z9 = u9 := ⟨_, rfl⟩
        try dsimp only at w_7
        have hP : va_P D vwCl [(t, .inr (6, [.ref sr, .int (nI tn), .int (nI ts), .ref hd, .ref nt])), (sr, .inr (4, [.ref so, .int (nI 1536), .int 0])), (so, .inl (cI, 1536, .inl sf2_5))] H := hP
        have hD : va_D A0 [(t, .inr (6, [.ref sr, .int (nI tn), .int (nI ts), .ref hd, .ref nt])), (sr, .inr (4, [.ref so, .int (nI 1536), .int 0])), (so, .inl (cI, 1536, .inl sf2_5))] := hD
        refine lv_iinc (v := nI ((247 + m) + 1)) (lv' := [(2, .int (nI ((247 + m) + 1))), (0, .ref t), (1, .int (nI 163)), (3, .int (nI m))]) hx hb dX6_setFirstPairs_109 hl (k := 2) rfl (nI_add (247 + m) 1) (by decide) rfl (fun ls hl => ?_)
        refine lv_iinc (v := nI (m + 1)) (lv' := [(3, .int (nI (m + 1))), (2, .int (nI ((247 + m) + 1))), (0, .ref t), (1, .int (nI 163))]) hx hb dX6_setFirstPairs_112 hl (k := 3) rfl (nI_add m 1) (by decide) rfl (fun ls hl => ?_)
        refine lv_goto (tgt := 85) hx hb dX6_setFirstPairs_115 (by decide) ?_
        exact ih (m + 1) sf2_5 _ _ ls (by omega) (by omega) (tab_fu w_7 (fun j hj => fu_two (by omega) (ft_ca m hm9) j hj)) hP hD hS (lv_sub hl [2, 3, 1, 0] rfl)
  have loop1 : ∀ (k9 : Nat) (m : Nat) (f1 : Nat → Int32) (H : Heap) (locs : List Loc) (ls : Array Slot), 9 - m < k9 → (m ≤ 9) → (tabIs f1 (fuT (pIx m 1 4))) → va_P D vwCl [(t, .inr (6, [.ref sr, .int (nI tn), .int (nI ts), .ref hd, .ref nt])), (sr, .inr (4, [.ref so, .int (nI 1536), .int 0])), (so, .inl (cI, 1536, .inl f1))] H → va_D A0 [(t, .inr (6, [.ref sr, .int (nI tn), .int (nI ts), .ref hd, .ref nt])), (sr, .inr (4, [.ref so, .int (nI 1536), .int 0])), (so, .inl (cI, 1536, .inl f1))] → va_S A0 s0.heap H locs → lv_has ls 7 [(0, .ref t), (1, .int (nI 163)), (2, .int (nI (pIx m 1 4))), (3, .int (nI m))] → W p0 l e0 ({ frames := 3, cells := 0, slots := 0, locals := 69 }) s0 m0 ([.ref t, .int (nI 163)] : List Value).toArray below meth c0 H locs 0 0 Q0 (F0 m0 4 ls []) := by
    intro k9
    induction k9 with
    | zero => intro m f1 H locs ls hk9; exact absurd hk9 (Nat.not_lt_zero _)
    | succ k9 ih1 =>
      intro m f1 H locs ls hk9 hm hf hP hD hS hl
      refine lv_iload_n hx hb dX6_setFirstPairs_4 rfl (lv_at hl 3 rfl) ?_
      refine lv_bipush (v := 8) hx hb dX6_setFirstPairs_5 (by decide) ?_
      refine lv_icmp_gt (tgt := 83) hx hb dX6_setFirstPairs_7 (by decide) (fun c_8 => ?_) (fun c_8 => ?_)
      · have hm0 : m = 9 := by have := (nI_ltI (a := 8) (b := m) (by decide) (by omega)).mp c_8; omega
        have hpx : pIx m 1 4 = 247 + 0 := by rw [hm0]; decide
        rw [hpx] at hl hf
        refine lv_iconst (v := 0) hx hb dX6_setFirstPairs_83 (by decide) ?_
        refine ri (y := nI 0) (nI_0.symm) ?_
        refine lv_istore_n (lv' := [(3, .int (nI 0)), (0, .ref t), (1, .int (nI 163)), (2, .int (nI (247 + 0)))]) hx hb dX6_setFirstPairs_84 rfl hl (by decide) rfl (fun ls hl => ?_)
        exact loop2 _ 0 f1 _ _ ls (Nat.lt_succ_self _) (by decide) (hf) hP hD hS (lv_sub hl [1, 2, 3, 0] rfl)
      · have hm9 : m < 9 := by have := Nat.not_lt.mp (fun z => c_8 (nI_lt (a := 8) (b := m) z (by omega))); omega
        have hloopa : ∀ lg : Nat, (m < 6 ∧ lg = 6) ∨ (¬ m < 6 ∧ lg = 4) → ∀ (k9 a : Nat) (f1 : Nat → Int32) (H : Heap) (locs : List Loc) (ls : Array Slot), 5 - a < k9 → (1 ≤ a) → (a ≤ 5) → (tabIs f1 (fuT (pIx m a 4))) → va_P D vwCl [(t, .inr (6, [.ref sr, .int (nI tn), .int (nI ts), .ref hd, .ref nt])), (sr, .inr (4, [.ref so, .int (nI 1536), .int 0])), (so, .inl (cI, 1536, .inl f1))] H → va_D A0 [(t, .inr (6, [.ref sr, .int (nI tn), .int (nI ts), .ref hd, .ref nt])), (sr, .inr (4, [.ref so, .int (nI 1536), .int 0])), (so, .inl (cI, 1536, .inl f1))] → va_S A0 s0.heap H locs → lv_has ls 7 [(0, .ref t), (1, .int (nI 163)), (2, .int (nI (pIx m a 4))), (3, .int (nI m)), (4, .int (nI lg)), (5, .int (nI a))] → W p0 l e0 ({ frames := 3, cells := 0, slots := 0, locals := 69 }) s0 m0 ([.ref t, .int (nI 163)] : List Value).toArray below meth c0 H locs 0 0 Q0 (F0 m0 26 ls []) := by
          intro lg hlg k9
          induction k9 with
          | zero => intro a f1 H locs ls hk9; exact absurd hk9 (Nat.not_lt_zero _)
          | succ k9 iha =>
            intro a f1 H locs ls hk9 ha1 ha6 hf hP hD hS hl
            refine lv_iload hx hb dX6_setFirstPairs_26 (lv_at hl 5 rfl) ?_
            refine lv_iconst (v := 4) hx hb dX6_setFirstPairs_28 (by decide) ?_
            refine lv_icmp_gt (tgt := 77) hx hb dX6_setFirstPairs_29 (by decide) (fun c_9 => ?_) (fun c_9 => ?_)
            · have ha5 : a = 5 := by have := (nI_ltI (a := 4) (b := a) (by decide) (by omega)).mp c_9; omega
              refine lv_iinc (v := nI (m + 1)) (lv' := [(3, .int (nI (m + 1))), (0, .ref t), (1, .int (nI 163)), (2, .int (nI (pIx m a 4))), (4, .int (nI lg)), (5, .int (nI a))]) hx hb dX6_setFirstPairs_77 hl (k := 3) rfl (nI_add m 1) (by decide) rfl (fun ls hl => ?_)
              refine lv_goto (tgt := 4) hx hb dX6_setFirstPairs_80 (by decide) ?_
              have hpx : pIx m a 4 = pIx (m + 1) 1 4 := by rw [ha5]; unfold pIx; split <;> split <;> omega
              rw [hpx] at hl hf
              exact ih1 (m + 1) f1 _ _ ls (by omega) (by omega) (hf) hP hD hS (lv_sub hl [1, 2, 3, 0] rfl)
            · have ha5 : a < 5 := by have := Nat.not_lt.mp (fun z => c_9 (nI_lt (a := 4) (b := a) z (by omega))); omega
              have loopz : ∀ (k9 : Nat) (z : Nat) (f1 : Nat → Int32) (H : Heap) (locs : List Loc) (ls : Array Slot), lg + 1 - z < k9 → (4 ≤ z) → (z ≤ lg + 1) → (tabIs f1 (fuT (pIx m a z))) → va_P D vwCl [(t, .inr (6, [.ref sr, .int (nI tn), .int (nI ts), .ref hd, .ref nt])), (sr, .inr (4, [.ref so, .int (nI 1536), .int 0])), (so, .inl (cI, 1536, .inl f1))] H → va_D A0 [(t, .inr (6, [.ref sr, .int (nI tn), .int (nI ts), .ref hd, .ref nt])), (sr, .inr (4, [.ref so, .int (nI 1536), .int 0])), (so, .inl (cI, 1536, .inl f1))] → va_S A0 s0.heap H locs → lv_has ls 7 [(0, .ref t), (1, .int (nI 163)), (2, .int (nI (pIx m a z))), (3, .int (nI m)), (4, .int (nI lg)), (5, .int (nI a)), (6, .int (nI z))] → W p0 l e0 ({ frames := 3, cells := 0, slots := 0, locals := 69 }) s0 m0 ([.ref t, .int (nI 163)] : List Value).toArray below meth c0 H locs 0 0 Q0 (F0 m0 35 ls []) := by
                intro k9
                induction k9 with
                | zero => intro z f1 H locs ls hk9; exact absurd hk9 (Nat.not_lt_zero _)
                | succ k9 ihz =>
                  intro z f1 H locs ls hk9 hz4 hzl hf hP hD hS hl
                  refine lv_iload hx hb dX6_setFirstPairs_35 (lv_at hl 6 rfl) ?_
                  refine lv_iload hx hb dX6_setFirstPairs_37 (lv_at hl 4 rfl) ?_
                  refine lv_icmp_gt (tgt := 71) hx hb dX6_setFirstPairs_39 (by decide) (fun c_10 => ?_) (fun c_10 => ?_)
                  · have hz : z = lg + 1 := by have := (nI_ltI (by omega) (by omega)).mp c_10; omega
                    subst hz
                    have hpx : pIx m a (lg + 1) = pIx m (a + 1) 4 := by rcases hlg with ⟨q, q2⟩ | ⟨q, q2⟩ <;> simp only [pIx, q, q2, if_true, if_false] <;> omega
                    refine lv_iinc (v := nI (a + 1)) (lv' := [(5, .int (nI (a + 1))), (0, .ref t), (1, .int (nI 163)), (2, .int (nI (pIx m a (lg + 1)))), (3, .int (nI m)), (4, .int (nI lg)), (6, .int (nI (lg + 1)))]) hx hb dX6_setFirstPairs_71 hl (k := 5) rfl (nI_add a 1) (by decide) rfl (fun ls hl => ?_)
                    refine lv_goto (tgt := 26) hx hb dX6_setFirstPairs_74 (by decide) ?_
                    rw [hpx] at hl hf
                    exact iha (a + 1) f1 _ _ ls (by omega) (by omega) (by omega) (hf) hP hD hS (lv_sub hl [1, 2, 3, 4, 5, 0] rfl)
                  · have hz : z ≤ lg := Nat.not_lt.mp (fun q => c_10 (nI_lt q (by omega)))
                    have hpc : pIx m a z < 256 := by unfold pIx; split <;> omega
                    have hcd := ft_ac m hm9 a ha5 ha1 z (by omega) hz4 (by omega)
                    refine lv_aload_n hx hb dX6_setFirstPairs_42 rfl (lv_at hl 0 rfl) ?_
                    refine lv_iload_n hx hb dX6_setFirstPairs_43 rfl (lv_at hl 2 rfl) ?_
                    refine lv_iconst (v := 0) hx hb dX6_setFirstPairs_44 (by decide) ?_
                    refine lv_iconst (v := 1) hx hb dX6_setFirstPairs_45 (by decide) ?_
                    refine lv_iload hx hb dX6_setFirstPairs_46 (lv_at hl 5 rfl) ?_
                    refine lv_iconst (v := 0) hx hb dX6_setFirstPairs_48 (by decide) ?_
                    refine jn_v (wr := []) hA hP hD hS [0, 1, 2] [] rfl rfl (by decide) (by decide) (rn_V (As := [.int (nI (pIx m a z)), .int (nI 0), .int (nI 1), .int (nI a), .int (nI 0)]) (rest := []) ⟨hx, hb, hml, hown, hts⟩ (cvV 5 hts zc_yX6_setPart zi_X6 zm_yX6_setPart zv_yX6_setPart kX6_50 (by decide +kernel) rfl rfl ⟨Nat.le_of_ble_eq_true rfl, Nat.le_of_ble_eq_true rfl⟩) (c_Table_setPart l D cI cB cJ cR t sr so tn ts hd nt f1 (fuT (pIx m a z)) (pIx m a z) 0 1 a 0 (hf) (hpc) (by decide) (by decide) (by omega) (by decide) H.size) hK hNw hMk hA hP hD hS [0, 1, 2] rfl rfl (by decide) 0 rfl rfl rfl rfl hl.1 rfl (Nat.le_of_ble_eq_true rfl) dX6_setFirstPairs_49 ⟨Nat.le_of_ble_eq_true rfl, Nat.le_of_ble_eq_true rfl⟩) (fun u9 H locs w_13 hP hD hS => ?_)
                    obtain ⟨sf2_11, rfl⟩ : ∃ z9, z9 = u9 := ⟨_, rfl⟩
                    try dsimp only at w_13
                    have hP : va_P D vwCl [(t, .inr (6, [.ref sr, .int (nI tn), .int (nI ts), .ref hd, .ref nt])), (sr, .inr (4, [.ref so, .int (nI 1536), .int 0])), (so, .inl (cI, 1536, .inl sf2_11))] H := hP
                    have hD : va_D A0 [(t, .inr (6, [.ref sr, .int (nI tn), .int (nI ts), .ref hd, .ref nt])), (sr, .inr (4, [.ref so, .int (nI 1536), .int 0])), (so, .inl (cI, 1536, .inl sf2_11))] := hD
                    refine lv_aload_n hx hb dX6_setFirstPairs_52 rfl (lv_at hl 0 rfl) ?_
                    refine lv_iload_n hx hb dX6_setFirstPairs_53 rfl (lv_at hl 2 rfl) ?_
                    refine lv_iconst (v := 1) hx hb dX6_setFirstPairs_54 (by decide) ?_
                    refine lv_iconst (v := 3) hx hb dX6_setFirstPairs_55 (by decide) ?_
                    refine lv_iload hx hb dX6_setFirstPairs_56 (lv_at hl 6 rfl) ?_
                    refine lv_iload_n hx hb dX6_setFirstPairs_58 rfl (lv_at hl 3 rfl) ?_
                    refine jn_v (wr := []) hA hP hD hS [0, 1, 2] [] rfl rfl (by decide) (by decide) (rn_V (As := [.int (nI (pIx m a z)), .int (nI 1), .int (nI 3), .int (nI z), .int (nI m)]) (rest := []) ⟨hx, hb, hml, hown, hts⟩ (cvV 5 hts zc_yX6_setPart zi_X6 zm_yX6_setPart zv_yX6_setPart kX6_50 (by decide +kernel) rfl rfl ⟨Nat.le_of_ble_eq_true rfl, Nat.le_of_ble_eq_true rfl⟩) (c_Table_setPart l D cI cB cJ cR t sr so tn ts hd nt sf2_11 (sp3 (fuT (pIx m a z)) (pIx m a z) 0 1 a 0) (pIx m a z) 1 3 z m (w_13) (hpc) (by decide) (by decide) (by omega) (by omega) H.size) hK hNw hMk hA hP hD hS [0, 1, 2] rfl rfl (by decide) 0 rfl rfl rfl rfl hl.1 rfl (Nat.le_of_ble_eq_true rfl) dX6_setFirstPairs_59 ⟨Nat.le_of_ble_eq_true rfl, Nat.le_of_ble_eq_true rfl⟩) (fun u9 H locs w_16 hP hD hS => ?_)
                    obtain ⟨sf2_14, rfl⟩ : ∃ z9, z9 = u9 := ⟨_, rfl⟩
                    try dsimp only at w_16
                    have hP : va_P D vwCl [(t, .inr (6, [.ref sr, .int (nI tn), .int (nI ts), .ref hd, .ref nt])), (sr, .inr (4, [.ref so, .int (nI 1536), .int 0])), (so, .inl (cI, 1536, .inl sf2_14))] H := hP
                    have hD : va_D A0 [(t, .inr (6, [.ref sr, .int (nI tn), .int (nI ts), .ref hd, .ref nt])), (sr, .inr (4, [.ref so, .int (nI 1536), .int 0])), (so, .inl (cI, 1536, .inl sf2_14))] := hD
                    have hpx : pIx m a z + 1 = pIx m a (z + 1) := by unfold pIx; split <;> omega
                    refine lv_iinc (v := nI ((pIx m a z) + 1)) (lv' := [(2, .int (nI ((pIx m a z) + 1))), (0, .ref t), (1, .int (nI 163)), (3, .int (nI m)), (4, .int (nI lg)), (5, .int (nI a)), (6, .int (nI z))]) hx hb dX6_setFirstPairs_62 hl (k := 2) rfl (nI_add (pIx m a z) 1) (by decide) rfl (fun ls hl => ?_)
                    refine lv_iinc (v := nI (z + 1)) (lv' := [(6, .int (nI (z + 1))), (2, .int (nI ((pIx m a z) + 1))), (0, .ref t), (1, .int (nI 163)), (3, .int (nI m)), (4, .int (nI lg)), (5, .int (nI a))]) hx hb dX6_setFirstPairs_65 hl (k := 6) rfl (nI_add z 1) (by decide) rfl (fun ls hl => ?_)
                    refine lv_goto (tgt := 35) hx hb dX6_setFirstPairs_68 (by decide) ?_
                    rw [hpx] at hl
                    exact ihz (z + 1) sf2_14 _ _ ls (by omega) (by omega) (by omega) (by rw [← hpx]; exact tab_fu w_16 (fun j hj => fu_two hpc hcd j hj)) hP hD hS (lv_sub hl [2, 3, 1, 4, 5, 6, 0] rfl)
              refine lv_iconst (v := 4) hx hb dX6_setFirstPairs_32 (by decide) ?_
              refine ri (y := nI 4) (rfl) ?_
              refine lv_istore (lv' := [(6, .int (nI 4)), (0, .ref t), (1, .int (nI 163)), (2, .int (nI (pIx m a 4))), (3, .int (nI m)), (4, .int (nI lg)), (5, .int (nI a))]) hx hb dX6_setFirstPairs_33 hl (by decide) rfl (fun ls hl => ?_)
              exact loopz _ 4 f1 _ _ ls (Nat.lt_succ_self _) (by decide) (by omega) (hf) hP hD hS (lv_sub hl [1, 2, 3, 4, 5, 6, 0] rfl)
        refine lv_iload_n hx hb dX6_setFirstPairs_10 rfl (lv_at hl 3 rfl) ?_
        refine lv_iconst (v := 5) hx hb dX6_setFirstPairs_11 (by decide) ?_
        refine lv_icmp_gt (tgt := 20) hx hb dX6_setFirstPairs_12 (by decide) (fun c_17 => ?_) (fun c_17 => ?_)
        · refine lv_iconst (v := 4) hx hb dX6_setFirstPairs_20 (by decide) ?_
          refine ri (y := nI 4) (rfl) ?_
          refine lv_istore (lv' := [(4, .int (nI 4)), (0, .ref t), (1, .int (nI 163)), (2, .int (nI (pIx m 1 4))), (3, .int (nI m))]) hx hb dX6_setFirstPairs_21 hl (by decide) rfl (fun ls hl => ?_)
          refine lv_iconst (v := 1) hx hb dX6_setFirstPairs_23 (by decide) ?_
          refine ri (y := nI 1) (rfl) ?_
          refine lv_istore (lv' := [(5, .int (nI 1)), (4, .int (nI 4)), (0, .ref t), (1, .int (nI 163)), (2, .int (nI (pIx m 1 4))), (3, .int (nI m))]) hx hb dX6_setFirstPairs_24 hl (by decide) rfl (fun ls hl => ?_)
          exact hloopa 4 (Or.inr ⟨fun q => absurd ((nI_ltI (a := 5) (b := m) (by decide) (by omega)).mp c_17) (by omega), rfl⟩) _ 1 f1 _ _ ls (Nat.lt_succ_self _) (by decide) (by decide) hf hP hD hS (lv_sub hl [2, 3, 4, 5, 1, 0] rfl)
        · refine lv_bipush (v := 6) hx hb dX6_setFirstPairs_15 (by decide) ?_
          refine ri (y := nI 6) (rfl) ?_
          refine lv_goto (tgt := 21) hx hb dX6_setFirstPairs_17 (by decide) ?_
          refine lv_istore (lv' := [(4, .int (nI 6)), (0, .ref t), (1, .int (nI 163)), (2, .int (nI (pIx m 1 4))), (3, .int (nI m))]) hx hb dX6_setFirstPairs_21 hl (by decide) rfl (fun ls hl => ?_)
          refine lv_iconst (v := 1) hx hb dX6_setFirstPairs_23 (by decide) ?_
          refine ri (y := nI 1) (rfl) ?_
          refine lv_istore (lv' := [(5, .int (nI 1)), (4, .int (nI 6)), (0, .ref t), (1, .int (nI 163)), (2, .int (nI (pIx m 1 4))), (3, .int (nI m))]) hx hb dX6_setFirstPairs_24 hl (by decide) rfl (fun ls hl => ?_)
          exact hloopa 6 (Or.inl ⟨by have := Nat.not_lt.mp (fun q => c_17 (nI_lt (a := 5) (b := m) q (by omega))); omega, rfl⟩) _ 1 f1 _ _ ls (Nat.lt_succ_self _) (by decide) (by decide) hf hP hD hS (lv_sub hl [2, 3, 4, 5, 1, 0] rfl)
  exact loop1 _ 0 sf _ _ ls (Nat.lt_succ_self _) (by decide) (ht) hP hD hS (lv_sub hl [2, 3, 1, 0] rfl)
