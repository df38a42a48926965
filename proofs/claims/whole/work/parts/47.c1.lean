/-! THE CLASS ITSELF: its four rows as lists, small calls -/
section RD
variable {p : Program} {l : Launch} {e : Env} {R : Room} {s : State} {m : MethodId} {args : Array Value} {below : List Frame} {meth : Method} {c : Code} {H : Heap} {locs : List Loc} {cells slots : Nat} {Q : State → Prop}
variable {cc : ByteArray} {pc : Nat} {ls : Array Slot} {rest : List Value} {D : va_G} {cl : List vw_C} {A : Nat → Prop} {a : Nat} {tys : List (ClassId × FieldType)} {ws : va_W} {H0 : Heap}
theorem ax_rld (hexec : p.tables.exec = Jvm.exec) (hb : c.code = cc) (hK : va_K D cl tys s) (hP : va_P D cl ws H) (q0 t0 : Nat) {cA : ClassId} {C : String} {n : Nat} {f : Nat → Option Nat} (ha : ws[q0]? = some (a, .inl (cA, n, .inr (.inr (.inr (.inr f)))))) (ht : tys[t0]? = some (cA, .object C)) {i : Int32} (j : Nat) (hi : i = nI j) (hj : j < n) (hn : n < 2 ^ 31) {r : Nat} (hv : f j = some r) (hdg : decode cc pc = .ok (.aaload, 1))
    (kk : W p l e R s m args below meth c H locs cells slots Q (F0 m (pc + 1) ls (.ref r :: rest))) : W p l e R s m args below meth c H locs cells slots Q (F0 m pc ls (.int i :: .ref a :: rest)) := by
  subst hi
  refine va_aldq hexec hb hK hP q0 t0 ha ht (vp_in_nI hj hn) hdg ?_
  rw [nI_clamp (Nat.lt_trans hj hn), hv]
  exact kk
end RD
def rqF (r0 r1 r2 r3 : Nat) : Nat → Option Nat := fun j => if j = 0 then some r0 else if j = 1 then some r1 else if j = 2 then some r2 else if j = 3 then some r3 else none
def isR (x : Int32) : Bool := decide (¬ x < 0 ∧ x < 4)
theorem isR_of {x : Int32} (h : isR x = true) : x = nI 0 ∨ x = nI 1 ∨ x = nI 2 ∨ x = nI 3 := by
  unfold isR at h
  have h2 := of_decide_eq_true h
  obtain ⟨j, hj, rfl⟩ := nI_of h2.1
  have h3 : j < 4 := (nI_ltI (b := 4) hj (by decide)).mp h2.2
  rcases (show j = 0 ∨ j = 1 ∨ j = 2 ∨ j = 3 by omega) with rfl | rfl | rfl | rfl
  · exact Or.inl rfl
  · exact Or.inr (Or.inl rfl)
  · exact Or.inr (Or.inr (Or.inl rfl))
  · exact Or.inr (Or.inr (Or.inr rfl))
theorem isR_k {k : Nat} (h : k < 4) : isR (nI k) = true := by
  unfold isR
  exact decide_eq_true ⟨nI_pos (by omega), nI_lt (b := 4) h (by decide)⟩
def rmN (k : Nat) : Nat := if k < 2 then 4000 else 8000
def rwOk (RL : Nat → List Int32) (n0 : Nat) (f0 : Nat → Int32) (n1 : Nat) (f1 : Nat → Int32) (n2 : Nat) (f2 : Nat → Int32) (n3 : Nat) (f3 : Nat → Int32) : Prop :=
  rowIs 4000 (RL 0) n0 f0 0 ∧ rowIs 4000 (RL 1) n1 f1 0 ∧ rowIs 8000 (RL 2) n2 f2 0 ∧ rowIs 8000 (RL 3) n3 f3 0 ∧ (RL 0).length ≤ 4000 ∧ (RL 1).length ≤ 4000 ∧ (RL 2).length ≤ 8000 ∧ (RL 3).length ≤ 8000
section RO
variable {RL : Nat → List Int32} {n0 n1 n2 n3 n : Nat} {f0 f1 f2 f3 f : Nat → Int32} {L : List Int32} {ov : Int32}
theorem rwOk_0 (h : rwOk RL n0 f0 n1 f1 n2 f2 n3 f3) (hr : rowIs 4000 L n f 0) (hl : L.length ≤ 4000) : rwOk (va_up RL 0 L) n f n1 f1 n2 f2 n3 f3 := by
  unfold rwOk
  rw [va_up_self, va_up_ne _ _ (show 1 ≠ 0 by decide), va_up_ne _ _ (show 2 ≠ 0 by decide), va_up_ne _ _ (show 3 ≠ 0 by decide)]
  exact ⟨hr, h.2.1, h.2.2.1, h.2.2.2.1, hl, h.2.2.2.2.2⟩
theorem rwOk_1 (h : rwOk RL n0 f0 n1 f1 n2 f2 n3 f3) (hr : rowIs 4000 L n f 0) (hl : L.length ≤ 4000) : rwOk (va_up RL 1 L) n0 f0 n f n2 f2 n3 f3 := by
  unfold rwOk
  rw [va_up_self, va_up_ne _ _ (show 0 ≠ 1 by decide), va_up_ne _ _ (show 2 ≠ 1 by decide), va_up_ne _ _ (show 3 ≠ 1 by decide)]
  exact ⟨h.1, hr, h.2.2.1, h.2.2.2.1, h.2.2.2.2.1, hl, h.2.2.2.2.2.2⟩
theorem rwOk_2 (h : rwOk RL n0 f0 n1 f1 n2 f2 n3 f3) (hr : rowIs 8000 L n f 0) (hl : L.length ≤ 8000) : rwOk (va_up RL 2 L) n0 f0 n1 f1 n f n3 f3 := by
  unfold rwOk
  rw [va_up_self, va_up_ne _ _ (show 0 ≠ 2 by decide), va_up_ne _ _ (show 1 ≠ 2 by decide), va_up_ne _ _ (show 3 ≠ 2 by decide)]
  exact ⟨h.1, h.2.1, hr, h.2.2.2.1, h.2.2.2.2.1, h.2.2.2.2.2.1, hl, h.2.2.2.2.2.2.2⟩
theorem rwOk_3 (h : rwOk RL n0 f0 n1 f1 n2 f2 n3 f3) (hr : rowIs 8000 L n f 0) (hl : L.length ≤ 8000) : rwOk (va_up RL 3 L) n0 f0 n1 f1 n2 f2 n f := by
  unfold rwOk
  rw [va_up_self, va_up_ne _ _ (show 0 ≠ 3 by decide), va_up_ne _ _ (show 1 ≠ 3 by decide), va_up_ne _ _ (show 2 ≠ 3 by decide)]
  exact ⟨h.1, h.2.1, h.2.2.1, hr, h.2.2.2.2.1, h.2.2.2.2.2.1, h.2.2.2.2.2.2.1, hl⟩
theorem rw_n0 (h : rwOk RL n0 f0 n1 f1 n2 f2 n3 f3) : n0 = (RL 0).length ∧ n0 ≤ 4000 := by obtain ⟨h0, -, -, -, l0, -⟩ := h; have := (row_len h0 l0).1; omega
theorem rw_n1 (h : rwOk RL n0 f0 n1 f1 n2 f2 n3 f3) : n1 = (RL 1).length ∧ n1 ≤ 4000 := by obtain ⟨-, h0, -, -, -, l0, -⟩ := h; have := (row_len h0 l0).1; omega
theorem rw_n2 (h : rwOk RL n0 f0 n1 f1 n2 f2 n3 f3) : n2 = (RL 2).length ∧ n2 ≤ 8000 := by obtain ⟨-, -, h0, -, -, -, l0, -⟩ := h; have := (row_len h0 l0).1; omega
theorem rw_n3 (h : rwOk RL n0 f0 n1 f1 n2 f2 n3 f3) : n3 = (RL 3).length ∧ n3 ≤ 8000 := by obtain ⟨-, -, -, h0, -, -, -, l0⟩ := h; have := (row_len h0 l0).1; omega
end RO
theorem nI_of8 {x : Int32} {b : Nat} (h1 : ¬ x < 0) (h2 : x ≤ nI b) (hb : b < 2 ^ 31) : ∃ m, m ≤ b ∧ x = nI m := by
  obtain ⟨j, hj, rfl⟩ := nI_of h1
  exact ⟨j, (nI_leI hj hb).mp h2, rfl⟩
def ocV (v : Int64) (i : Nat) : Int32 := (v.toUInt64 >>> (((8 : Int32) * nI i).toInt64.toUInt64 &&& Int64.toUInt64 63)).toInt64.toInt32 &&& 255
def fdL (v : Int64) : Nat → List Int32
  | 0 => []
  | m + 1 => ocV v m :: fdL v m
theorem fdL_len (v : Int64) : ∀ m, (fdL v m).length = m
  | 0 => rfl
  | m + 1 => by rw [fdL, List.length_cons, fdL_len v m]
def feedP (x : Int32) (v : Int64) (n : Int32) (RL : Nat → List Int32) : Int32 × (Nat → List Int32) :=
  if isR x = false ∨ n < 0 ∨ ¬ n ≤ 8 then (-2, RL)
  else if n.toNatClampNeg = 0 then (0, va_up RL x.toNatClampNeg [])
  else if rmN x.toNatClampNeg < (RL x.toNatClampNeg).length + n.toNatClampNeg then (-4, RL)
  else (nI ((RL x.toNatClampNeg).length + n.toNatClampNeg), va_up RL x.toNatClampNeg (RL x.toNatClampNeg ++ fdL v n.toNatClampNeg))
theorem feedP_in {k m : Nat} {v : Int64} {RL : Nat → List Int32} (hk : k < 4) (hm : m ≤ 8) : feedP (nI k) v (nI m) RL = (if m = 0 then (0, va_up RL k []) else if rmN k < (RL k).length + m then (-4, RL) else (nI ((RL k).length + m), va_up RL k (RL k ++ fdL v m))) := by
  unfold feedP
  rw [if_neg, nI_clamp (by omega), nI_clamp (by omega)]
  rintro (h | h | h)
  · rw [isR_k hk] at h; exact absurd h (by decide)
  · exact nI_pos (by omega) h
  · exact h (nI_le (b := 8) hm (by decide))
def lcg (z : Int32) : Int32 := z * 1664525 + 1013904223
def top8 (z : Int32) : Int32 := (z.toUInt32 >>> ((24 : Int32).toUInt32 &&& Int32.toUInt32 31)).toInt32
def rulP (L : List Int32) (kd r : Int32) : Int32 :=
  if kd = 1 then 97 + (r - r / 4 * 4) else if kd = 2 ∧ 17 ≤ L.length ∧ r < 240 then L.getD (L.length - 17) 0 else if kd = 3 ∧ 1 ≤ L.length ∧ r < 230 then L.getD (L.length - 1) 0 else r
def filL (kd : Int32) : Nat → Int32 → List Int32 → List Int32
  | 0, _, L => L
  | m + 1, z, L => filL kd m (lcg z) (L ++ [rulP L kd (top8 (lcg z))])
theorem filL_len (kd : Int32) : ∀ m z L, (filL kd m z L).length = L.length + m
  | 0, _, _ => rfl
  | m + 1, z, L => by rw [filL, filL_len kd m]; simp; omega
def filP (x kd n sd : Int32) (RL : Nat → List Int32) : Int32 × (Nat → List Int32) :=
  if isR x = false ∨ kd < 0 ∨ ¬ kd ≤ 3 ∨ n < 0 then (-2, RL)
  else if rmN x.toNatClampNeg < (RL x.toNatClampNeg).length + n.toNatClampNeg then (-4, RL)
  else (nI ((RL x.toNatClampNeg).length + n.toNatClampNeg), va_up RL x.toNatClampNeg (filL kd n.toNatClampNeg sd (RL x.toNatClampNeg)))
theorem filP_in {k m : Nat} {kd sd : Int32} {RL : Nat → List Int32} (hk : k < 4) (h1 : ¬ kd < 0) (h2 : kd ≤ 3) (hm : m < 2 ^ 31) : filP (nI k) kd (nI m) sd RL = (if rmN k < (RL k).length + m then (-4, RL) else (nI ((RL k).length + m), va_up RL k (filL kd m sd (RL k)))) := by
  unfold filP
  rw [if_neg, nI_clamp (by omega), nI_clamp (by omega)]
  rintro (h | h | h | h)
  · rw [isR_k hk] at h; exact absurd h (by decide)
  · exact h1 h
  · exact h h2
  · exact nI_pos (by omega) h
def gD (L : List Int32) : Nat → Int32 := fun j => L.getD j 0
def cpyP (x a n y : Int32) (RL : Nat → List Int32) : Int32 × (Nat → List Int32) :=
  if isR x = false ∨ isR y = false ∨ a < 0 ∨ n < 0 ∨ (RL x.toNatClampNeg).length < a.toNatClampNeg + n.toNatClampNeg then (-2, RL)
  else if rmN y.toNatClampNeg < (RL y.toNatClampNeg).length + n.toNatClampNeg then (-4, RL)
  else (nI ((RL y.toNatClampNeg).length + n.toNatClampNeg), va_up RL y.toNatClampNeg (RL y.toNatClampNeg ++ rgL (gD (RL x.toNatClampNeg)) a.toNatClampNeg n.toNatClampNeg))
theorem cpyP_in {k j a n : Nat} {RL : Nat → List Int32} (hk : k < 4) (hj : j < 4) (ha : a < 2 ^ 31) (hn : n < 2 ^ 31) : cpyP (nI k) (nI a) (nI n) (nI j) RL = (if (RL k).length < a + n then (-2, RL) else if rmN j < (RL j).length + n then (-4, RL) else (nI ((RL j).length + n), va_up RL j (RL j ++ rgL (gD (RL k)) a n))) := by
  unfold cpyP
  rw [nI_clamp (by omega), nI_clamp (by omega), nI_clamp (by omega), nI_clamp (by omega)]
  by_cases q : (RL k).length < a + n
  · rw [if_pos (Or.inr (Or.inr (Or.inr (Or.inr q)))), if_pos q]
  · rw [if_neg q, if_neg]
    rintro (h | h | h | h | h)
    · rw [isR_k hk] at h; exact absurd h (by decide)
    · rw [isR_k hj] at h; exact absurd h (by decide)
    · exact nI_pos (by omega) h
    · exact nI_pos (by omega) h
    · exact q h
def setL (L : List Int32) (i v : Int32) : List Int32 := L.set i.toNatClampNeg v
def altL (L : List Int32) (i v : Int32) : Int32 × List Int32 := if inB i L.length = true then (if v < 0 ∨ ¬ v ≤ 255 then (-2, L) else (L.getD i.toNatClampNeg 0, L.set i.toNatClampNeg v)) else (-1, L)
def altP (x i v : Int32) (RL : Nat → List Int32) : Int32 × (Nat → List Int32) :=
  if isR x = false then (-1, RL) else ((altL (RL x.toNatClampNeg) i v).1, va_up RL x.toNatClampNeg (altL (RL x.toNatClampNeg) i v).2)
theorem altL_len {L : List Int32} {i v : Int32} : (altL L i v).2.length = L.length := by
  unfold altL
  split
  · split
    · rfl
    · exact List.length_set
  · rfl
/-- what Row.replace does, on the list -/
theorem rw_alt {N : Nat} {L : List Int32} {n : Nat} {f f2 : Nat → Int32} {i v r : Int32} (h : rowIs N L n f 0) (hl : L.length ≤ N) (hN : N < 2 ^ 31) (h1 : r = if inB i n then (if v < 0 ∨ ¬ v ≤ 255 then -2 else f i.toNatClampNeg) else -1) (h2 : f2 = if inB i n ∧ ¬ (v < 0 ∨ ¬ v ≤ 255) then upd f i.toNatClampNeg v else f) : r = (altL L i v).1 ∧ rowIs N (altL L i v).2 n f2 0 := by
  obtain ⟨e1, -⟩ := row_len h hl
  subst e1
  unfold altL
  by_cases q : inB i L.length = true
  · obtain ⟨j, hj, rfl⟩ := inB_of q (by omega)
    rw [nI_clamp (by omega)] at h1 h2 ⊢
    rw [if_pos q]
    by_cases z : v < 0 ∨ ¬ v ≤ 255
    · rw [if_pos z]
      rw [if_pos q, if_pos z] at h1
      rw [if_neg (fun w => w.2 z)] at h2
      subst h2
      exact ⟨h1, h⟩
    · rw [if_neg z]
      rw [if_pos q, if_neg z] at h1
      rw [if_pos ⟨q, z⟩] at h2
      refine ⟨h1.trans (h.2.2 j hj), ?_⟩
      subst h2
      refine ⟨by simp; omega, by simp [bI]; omega, fun t ht => ?_⟩
      by_cases w : t = j
      · subst w; rw [pk_us]; simp [hj]
      · rw [pk_un w, h.2.2 t ht]
        simp [List.getD, List.getElem?_set, show ¬ j = t from fun z => w z.symm]
  · rw [if_neg q] at h1 ⊢
    rw [if_neg (fun w => q w.1)] at h2
    subst h2
    exact ⟨h1, h⟩
def cutP (x n : Int32) (RL : Nat → List Int32) : Int32 × (Nat → List Int32) :=
  if isR x = false ∨ n < 0 ∨ ¬ n ≤ nI (RL x.toNatClampNeg).length then (-2, RL) else (nI (RL x.toNatClampNeg).length, va_up RL x.toNatClampNeg ((RL x.toNatClampNeg).take n.toNatClampNeg))
theorem row_take {N : Nat} {L : List Int32} {n m : Nat} {f : Nat → Int32} (h : rowIs N L n f 0) (hl : L.length ≤ N) (hm : m ≤ L.length) : rowIs N (L.take m) m f 0 := by
  have e1 := (row_len h hl).1
  refine ⟨by simp; omega, by simp [bI]; omega, fun j hj => ?_⟩
  rw [h.2.2 j (by omega)]
  simp [List.getD, List.getElem?_take, hj]
def lenP (x : Int32) (RL : Nat → List Int32) : Int32 := if isR x = false then -1 else nI (RL x.toNatClampNeg).length
def octP (x i : Int32) (RL : Nat → List Int32) : Int32 := if isR x = false then -1 else if inB i (RL x.toNatClampNeg).length = true then (RL x.toNatClampNeg).getD i.toNatClampNeg 0 else -1
set_option maxHeartbeats 4000000 in
set_option maxRecDepth 100000 in
theorem c_isRow (l : Launch) (D : va_G) (cI cB cJ cR : ClassId) (x : Int32)  : CMz l yX8_isRow cX8_isRow 1 (some .boolean) ({ frames := 0, cells := 0, slots := 0, locals := 0 }) D (tyA cI cB cJ cR) 0 0 [.int x] [] (fun (r : Bool) (_ : Unit) => r = isR x) (fun (_ : Unit) => []) := by
  refine st_z (cc := cX8_isRow) (maxL := 1) (by decide) (Nat.le_of_ble_eq_true rfl) ?_
  intro p0 e0 s0 m0 below meth c0 A0 Q0 hBD hret hP hD hS ls hl
  obtain ⟨hx, hb, hml, hown, hts, hnm, hK, hNw, hMk, hA⟩ := hBD
  have hl : lv_has ls 1 [(0, .int x)] := hl
  have hP : va_P D vwCl [] s0.heap := hP
  have hD : va_D A0 [] := hD
  refine lv_iload_n hx hb dX8_isRow_0 rfl (lv_at hl 0 rfl) ?_
  refine lv_if_lt (tgt := 13) hx hb dX8_isRow_1 (by decide) (fun c_1 => ?_) (fun c_1 => ?_)
  · refine lv_iconst (v := 0) hx hb dX8_isRow_13 (by decide) ?_
    exact hret 14 ls _ _ false () dX8_isRow_14 hP hD hS (by symm; exact decide_eq_false (fun q => q.1 c_1))
  · refine lv_iload_n hx hb dX8_isRow_4 rfl (lv_at hl 0 rfl) ?_
    refine lv_iconst (v := 4) hx hb dX8_isRow_5 (by decide) ?_
    refine lv_icmp_ge (tgt := 13) hx hb dX8_isRow_6 (by decide) (fun c_2 => ?_) (fun c_2 => ?_)
    · refine lv_iconst (v := 0) hx hb dX8_isRow_13 (by decide) ?_
      exact hret 14 ls _ _ false () dX8_isRow_14 hP hD hS (by symm; exact decide_eq_false (fun q => Int32.not_lt.mpr c_2 q.2))
    · refine lv_iconst (v := 1) hx hb dX8_isRow_9 (by decide) ?_
      refine lv_goto (tgt := 14) hx hb dX8_isRow_10 (by decide) ?_
      exact hret 14 ls _ _ true () dX8_isRow_14 hP hD hS (by symm; exact decide_eq_true ⟨c_1, Int32.not_le.mp c_2⟩)

set_option maxHeartbeats 4000000 in
set_option maxRecDepth 100000 in
theorem c_feed (l : Launch) (D : va_G) (cI cB cJ cR : ClassId) (cd : Nat) (rq : Nat) (wt : Nat) (wq : Nat) (mi : Nat) (mo : Nat) (ft : Nat) (ot : Nat) (gt : Nat) (rd : Nat) (tq : Nat) (wr : Nat) (s1 : Nat) (s2 : Nat) (t0 : Int32) (t1 : Int32) (t2 : Int32) (t3 : Int32) (r0 : Nat) (r1 : Nat) (r2 : Nat) (r3 : Nat) (o0 : Nat) (o1 : Nat) (o2 : Nat) (o3 : Nat) (n0 : Nat) (f0 : Nat → Int32) (n1 : Nat) (f1 : Nat → Int32) (n2 : Nat) (f2 : Nat → Int32) (n3 : Nat) (f3 : Nat → Int32) (RL : Nat → List Int32) (x : Int32) (v : Int64) (n : Int32) (hrw : rwOk RL n0 f0 n1 f1 n2 f2 n3 f3) : CMi l yX8_feed cX8_feed 7 (some .int) ({ frames := 1, cells := 0, slots := 0, locals := 21 }) D (tyA cI cB cJ cR) 0 0 [.ref cd, .int x, .long v, .int n] [(cd, .inr (8, [.ref rq, .ref wt, .ref wq, .ref mi, .ref mo, .ref ft, .ref ot, .ref gt, .ref rd, .ref tq, .ref wr, .ref s1, .ref s2, .int t0, .int t1, .int t2, .int t3])), (rq, .inl (cR, 4, .inr (.inr (.inr (.inr (rqF r0 r1 r2 r3)))))), (r0, .inr (4, [.ref o0, .int (nI n0), .int 0])), (o0, .inl (cI, 4000, .inl f0)), (r1, .inr (4, [.ref o1, .int (nI n1), .int 0])), (o1, .inl (cI, 4000, .inl f1)), (r2, .inr (4, [.ref o2, .int (nI n2), .int 0])), (o2, .inl (cI, 8000, .inl f2)), (r3, .inr (4, [.ref o3, .int (nI n3), .int 0])), (o3, .inl (cI, 8000, .inl f3))] (fun (r : Int32) (u9 : Nat × (Nat → Int32) × Nat × (Nat → Int32) × Nat × (Nat → Int32) × Nat × (Nat → Int32) × (Nat → List Int32)) => match u9 with | (n09, f09, n19, f19, n29, f29, n39, f39, RL9) => feedP x v n RL = (r, RL9) ∧ rwOk RL9 n09 f09 n19 f19 n29 f29 n39 f39) (fun (u9 : Nat × (Nat → Int32) × Nat × (Nat → Int32) × Nat × (Nat → Int32) × Nat × (Nat → Int32) × (Nat → List Int32)) => match u9 with | (n09, f09, n19, f19, n29, f29, n39, f39, RL9) => [(cd, .inr (8, [.ref rq, .ref wt, .ref wq, .ref mi, .ref mo, .ref ft, .ref ot, .ref gt, .ref rd, .ref tq, .ref wr, .ref s1, .ref s2, .int t0, .int t1, .int t2, .int t3])), (rq, .inl (cR, 4, .inr (.inr (.inr (.inr (rqF r0 r1 r2 r3)))))), (r0, .inr (4, [.ref o0, .int (nI n09), .int 0])), (o0, .inl (cI, 4000, .inl f09)), (r1, .inr (4, [.ref o1, .int (nI n19), .int 0])), (o1, .inl (cI, 4000, .inl f19)), (r2, .inr (4, [.ref o2, .int (nI n29), .int 0])), (o2, .inl (cI, 8000, .inl f29)), (r3, .inr (4, [.ref o3, .int (nI n39), .int 0])), (o3, .inl (cI, 8000, .inl f39))]) := by
  refine st_i (cc := cX8_feed) (maxL := 7) (by decide) (Nat.le_of_ble_eq_true rfl) ?_
  intro p0 e0 s0 m0 below meth c0 A0 Q0 hBD hret hP hD hS ls hl
  obtain ⟨hx, hb, hml, hown, hts, hnm, hK, hNw, hMk, hA⟩ := hBD
  have hl : lv_has ls 7 [(0, .ref cd), (1, .int x), (2, .long v), (4, .int n)] := hl
  have hP : va_P D vwCl [(cd, .inr (8, [.ref rq, .ref wt, .ref wq, .ref mi, .ref mo, .ref ft, .ref ot, .ref gt, .ref rd, .ref tq, .ref wr, .ref s1, .ref s2, .int t0, .int t1, .int t2, .int t3])), (rq, .inl (cR, 4, .inr (.inr (.inr (.inr (rqF r0 r1 r2 r3)))))), (r0, .inr (4, [.ref o0, .int (nI n0), .int 0])), (o0, .inl (cI, 4000, .inl f0)), (r1, .inr (4, [.ref o1, .int (nI n1), .int 0])), (o1, .inl (cI, 4000, .inl f1)), (r2, .inr (4, [.ref o2, .int (nI n2), .int 0])), (o2, .inl (cI, 8000, .inl f2)), (r3, .inr (4, [.ref o3, .int (nI n3), .int 0])), (o3, .inl (cI, 8000, .inl f3))] s0.heap := hP
  have hD : va_D A0 [(cd, .inr (8, [.ref rq, .ref wt, .ref wq, .ref mi, .ref mo, .ref ft, .ref ot, .ref gt, .ref rd, .ref tq, .ref wr, .ref s1, .ref s2, .int t0, .int t1, .int t2, .int t3])), (rq, .inl (cR, 4, .inr (.inr (.inr (.inr (rqF r0 r1 r2 r3)))))), (r0, .inr (4, [.ref o0, .int (nI n0), .int 0])), (o0, .inl (cI, 4000, .inl f0)), (r1, .inr (4, [.ref o1, .int (nI n1), .int 0])), (o1, .inl (cI, 4000, .inl f1)), (r2, .inr (4, [.ref o2, .int (nI n2), .int 0])), (o2, .inl (cI, 8000, .inl f2)), (r3, .inr (4, [.ref o3, .int (nI n3), .int 0])), (o3, .inl (cI, 8000, .inl f3))] := hD
  refine lv_iload_n hx hb dX8_feed_0 rfl (lv_at hl 1 rfl) ?_
  refine jn_i (wr := [(cd, .inr (8, [.ref rq, .ref wt, .ref wq, .ref mi, .ref mo, .ref ft, .ref ot, .ref gt, .ref rd, .ref tq, .ref wr, .ref s1, .ref s2, .int t0, .int t1, .int t2, .int t3])), (rq, .inl (cR, 4, .inr (.inr (.inr (.inr (rqF r0 r1 r2 r3)))))), (r0, .inr (4, [.ref o0, .int (nI n0), .int 0])), (o0, .inl (cI, 4000, .inl f0)), (r1, .inr (4, [.ref o1, .int (nI n1), .int 0])), (o1, .inl (cI, 4000, .inl f1)), (r2, .inr (4, [.ref o2, .int (nI n2), .int 0])), (o2, .inl (cI, 8000, .inl f2)), (r3, .inr (4, [.ref o3, .int (nI n3), .int 0])), (o3, .inl (cI, 8000, .inl f3))]) hA hP hD hS [] [0, 1, 2, 3, 4, 5, 6, 7, 8, 9] rfl rfl (by decide) (by decide) (rn_S (As := [.int x]) (rest := []) ⟨hx, hb, hml, hown, hts⟩ (cvS 1 hts zc_yX8_isRow zi_X8 zs_yX8_isRow kX8_78 (by decide +kernel) rfl rfl ⟨Nat.le_of_ble_eq_true rfl, Nat.le_of_ble_eq_true rfl⟩) (c_isRow l D cI cB cJ cR x  s0.heap.size) hK hNw hMk hA hP hD hS [] rfl rfl (by decide) rfl hl.1 rfl (Nat.le_of_ble_eq_true rfl) dX8_feed_1 ⟨Nat.le_of_ble_eq_true rfl, Nat.le_of_ble_eq_true rfl⟩) (fun ri u9 H locs hri hP hD hS => ?_)
  obtain ⟨rib, rfl, hri⟩ := hri
  try dsimp only at hri
  have hP : va_P D vwCl [(cd, .inr (8, [.ref rq, .ref wt, .ref wq, .ref mi, .ref mo, .ref ft, .ref ot, .ref gt, .ref rd, .ref tq, .ref wr, .ref s1, .ref s2, .int t0, .int t1, .int t2, .int t3])), (rq, .inl (cR, 4, .inr (.inr (.inr (.inr (rqF r0 r1 r2 r3)))))), (r0, .inr (4, [.ref o0, .int (nI n0), .int 0])), (o0, .inl (cI, 4000, .inl f0)), (r1, .inr (4, [.ref o1, .int (nI n1), .int 0])), (o1, .inl (cI, 4000, .inl f1)), (r2, .inr (4, [.ref o2, .int (nI n2), .int 0])), (o2, .inl (cI, 8000, .inl f2)), (r3, .inr (4, [.ref o3, .int (nI n3), .int 0])), (o3, .inl (cI, 8000, .inl f3))] H := hP
  have hD : va_D A0 [(cd, .inr (8, [.ref rq, .ref wt, .ref wq, .ref mi, .ref mo, .ref ft, .ref ot, .ref gt, .ref rd, .ref tq, .ref wr, .ref s1, .ref s2, .int t0, .int t1, .int t2, .int t3])), (rq, .inl (cR, 4, .inr (.inr (.inr (.inr (rqF r0 r1 r2 r3)))))), (r0, .inr (4, [.ref o0, .int (nI n0), .int 0])), (o0, .inl (cI, 4000, .inl f0)), (r1, .inr (4, [.ref o1, .int (nI n1), .int 0])), (o1, .inl (cI, 4000, .inl f1)), (r2, .inr (4, [.ref o2, .int (nI n2), .int 0])), (o2, .inl (cI, 8000, .inl f2)), (r3, .inr (4, [.ref o3, .int (nI n3), .int 0])), (o3, .inl (cI, 8000, .inl f3))] := hD
  refine bz_eq (tgt := 19) hx hb dX8_feed_4 (by decide) (fun c_1 => ?_) (fun c_1 => ?_)
  · refine lv_bipush (v := -2) hx hb dX8_feed_19 (by decide) ?_
    exact hret 21 ls _ _ _ (n0, f0, n1, f1, n2, f2, n3, f3, RL) dX8_feed_21 hP hD hS (⟨by rw [feedP, if_pos (Or.inl (by rw [← hri]; exact c_1))], hrw⟩)
  · have hxr : isR x = true := by rw [← hri]; exact c_1
    refine lv_iload hx hb dX8_feed_7 (lv_at hl 3 rfl) ?_
    refine lv_if_lt (tgt := 19) hx hb dX8_feed_9 (by decide) (fun c_2 => ?_) (fun c_2 => ?_)
    · refine lv_bipush (v := -2) hx hb dX8_feed_19 (by decide) ?_
      exact hret 21 ls _ _ _ (n0, f0, n1, f1, n2, f2, n3, f3, RL) dX8_feed_21 hP hD hS (⟨by rw [feedP, if_pos (Or.inr (Or.inl c_2))], hrw⟩)
    · refine lv_iload hx hb dX8_feed_12 (lv_at hl 3 rfl) ?_
      refine lv_bipush (v := 8) hx hb dX8_feed_14 (by decide) ?_
      refine lv_icmp_le (tgt := 22) hx hb dX8_feed_16 (by decide) (fun c_3 => ?_) (fun c_3 => ?_)
      · obtain ⟨m, hm8, hnm9⟩ := nI_of8 (b := 8) c_2 c_3 (by decide)
        rw [hnm9] at hl
        rcases isR_of hxr with hx0 | hx1 | hx2 | hx3
        · have hnk := rw_n0 hrw
          obtain ⟨hr0, hr1, hr2, hr3, hl0, hl1, hl2, hl3⟩ := id hrw
          rw [hx0] at hl
          have hfp := feedP_in (k := 0) (v := v) (RL := RL) (by decide) hm8
          rw [← hx0, ← hnm9] at hfp
          refine lv_aload_n hx hb dX8_feed_22 rfl (lv_at hl 0 rfl) ?_
          refine va_get (D := D) (ci := 8) (v := .ref rq) (C := RX8) (T := TX8) (N := 17) hx hb hts in_X8 hown hK hP 0 rfl rfl 0 (by decide) (hts _ kX8_11) (fun _ h9 => h9) rfl dX8_feed_23 ?_
          refine lv_iload_n hx hb dX8_feed_26 rfl (lv_at hl 1 rfl) ?_
          refine ax_rld hx hb hK hP 1 3 rfl rfl 0 (rfl) (by decide) (by decide) rfl dX8_feed_27 ?_
          refine lv_astore (lv' := [(5, .ref r0), (0, .ref cd), (1, .int (nI 0)), (2, .long v), (4, .int (nI m))]) hx hb dX8_feed_28 hl (by decide) rfl (fun ls hl => ?_)
          refine lv_iload hx hb dX8_feed_30 (lv_at hl 4 rfl) ?_
          refine lv_if_ne (tgt := 42) hx hb dX8_feed_32 (by decide) (fun c_4 => ?_) (fun c_4 => ?_)
          · have hm0 : ¬ m = 0 := fun z => c_4 (by rw [z]; decide)
            rw [if_neg hm0] at hfp
            refine lv_iload hx hb dX8_feed_42 (lv_at hl 4 rfl) ?_
            refine lv_aload hx hb dX8_feed_44 (lv_at hl 0 rfl) ?_
            refine jn_i (wr := [(cd, .inr (8, [.ref rq, .ref wt, .ref wq, .ref mi, .ref mo, .ref ft, .ref ot, .ref gt, .ref rd, .ref tq, .ref wr, .ref s1, .ref s2, .int t0, .int t1, .int t2, .int t3])), (rq, .inl (cR, 4, .inr (.inr (.inr (.inr (rqF r0 r1 r2 r3)))))), (r1, .inr (4, [.ref o1, .int (nI n1), .int 0])), (o1, .inl (cI, 4000, .inl f1)), (r2, .inr (4, [.ref o2, .int (nI n2), .int 0])), (o2, .inl (cI, 8000, .inl f2)), (r3, .inr (4, [.ref o3, .int (nI n3), .int 0])), (o3, .inl (cI, 8000, .inl f3))]) hA hP hD hS [2, 3] [0, 1, 4, 5, 6, 7, 8, 9] rfl rfl (by decide) (by decide) (rn_V (As := []) (rest := [.int (nI m)]) ⟨hx, hb, hml, hown, hts⟩ (cvV 0 hts zc_yX4_room zi_X4 zm_yX4_room zv_yX4_room kX8_85 (by decide +kernel) rfl rfl ⟨Nat.le_of_ble_eq_true rfl, Nat.le_of_ble_eq_true rfl⟩) (c_Row_room l D cI cB cJ cR r0 o0 4000 n0 f0 0 (by decide) (hnk.2) H.size) hK hNw hMk hA hP hD hS [2, 3] rfl rfl (by decide) 0 rfl rfl rfl rfl hl.1 rfl (Nat.le_of_ble_eq_true rfl) dX8_feed_46 ⟨Nat.le_of_ble_eq_true rfl, Nat.le_of_ble_eq_true rfl⟩) (fun rm u9 H locs hrm hP hD hS => ?_)
            try dsimp only at hrm
            have hP : va_P D vwCl [(cd, .inr (8, [.ref rq, .ref wt, .ref wq, .ref mi, .ref mo, .ref ft, .ref ot, .ref gt, .ref rd, .ref tq, .ref wr, .ref s1, .ref s2, .int t0, .int t1, .int t2, .int t3])), (rq, .inl (cR, 4, .inr (.inr (.inr (.inr (rqF r0 r1 r2 r3)))))), (r1, .inr (4, [.ref o1, .int (nI n1), .int 0])), (o1, .inl (cI, 4000, .inl f1)), (r2, .inr (4, [.ref o2, .int (nI n2), .int 0])), (o2, .inl (cI, 8000, .inl f2)), (r3, .inr (4, [.ref o3, .int (nI n3), .int 0])), (o3, .inl (cI, 8000, .inl f3)), (r0, .inr (4, [.ref o0, .int (nI n0), .int 0])), (o0, .inl (cI, 4000, .inl f0))] H := hP
            have hD : va_D A0 [(cd, .inr (8, [.ref rq, .ref wt, .ref wq, .ref mi, .ref mo, .ref ft, .ref ot, .ref gt, .ref rd, .ref tq, .ref wr, .ref s1, .ref s2, .int t0, .int t1, .int t2, .int t3])), (rq, .inl (cR, 4, .inr (.inr (.inr (.inr (rqF r0 r1 r2 r3)))))), (r1, .inr (4, [.ref o1, .int (nI n1), .int 0])), (o1, .inl (cI, 4000, .inl f1)), (r2, .inr (4, [.ref o2, .int (nI n2), .int 0])), (o2, .inl (cI, 8000, .inl f2)), (r3, .inr (4, [.ref o3, .int (nI n3), .int 0])), (o3, .inl (cI, 8000, .inl f3)), (r0, .inr (4, [.ref o0, .int (nI n0), .int 0])), (o0, .inl (cI, 4000, .inl f0))] := hD
            subst hrm
            refine lv_icmp_le (tgt := 55) hx hb dX8_feed_49 (by decide) (fun c_5 => ?_) (fun c_5 => ?_)
            · have hf9 : ¬ 4000 < (RL 0).length + m := by have := (nI_leI (by omega) (by omega)).mp c_5; omega
              rw [if_neg (show ¬ rmN 0 < (RL 0).length + m from hf9)] at hfp
              refine lv_iload hx hb dX8_feed_55 (lv_at hl 4 rfl) ?_
              refine lv_iconst (v := 1) hx hb dX8_feed_57 (by decide) ?_
              refine lv_isub hx hb dX8_feed_58 ?_
              refine lv_istore (lv' := [(6, .int ((nI m) - 1)), (5, .ref r0), (0, .ref cd), (1, .int (nI 0)), (2, .long v), (4, .int (nI m))]) hx hb dX8_feed_59 hl (by decide) rfl (fun ls hl => ?_)
              have loop : ∀ (k9 : Nat) (j : Nat) (Lc : List Int32) (n7 : Nat) (f7 : Nat → Int32) (v7 : Int32) (H : Heap) (locs : List Loc) (ls : Array Slot), j < k9 → (j ≤ m) → (Lc ++ fdL v j = RL 0 ++ fdL v m) → (rowIs 4000 Lc n7 f7 v7) → va_P D vwCl [(cd, .inr (8, [.ref rq, .ref wt, .ref wq, .ref mi, .ref mo, .ref ft, .ref ot, .ref gt, .ref rd, .ref tq, .ref wr, .ref s1, .ref s2, .int t0, .int t1, .int t2, .int t3])), (rq, .inl (cR, 4, .inr (.inr (.inr (.inr (rqF r0 r1 r2 r3)))))), (r0, .inr (4, [.ref o0, .int (nI n7), .int v7])), (o0, .inl (cI, 4000, .inl f7)), (r1, .inr (4, [.ref o1, .int (nI n1), .int 0])), (o1, .inl (cI, 4000, .inl f1)), (r2, .inr (4, [.ref o2, .int (nI n2), .int 0])), (o2, .inl (cI, 8000, .inl f2)), (r3, .inr (4, [.ref o3, .int (nI n3), .int 0])), (o3, .inl (cI, 8000, .inl f3))] H → va_D A0 [(cd, .inr (8, [.ref rq, .ref wt, .ref wq, .ref mi, .ref mo, .ref ft, .ref ot, .ref gt, .ref rd, .ref tq, .ref wr, .ref s1, .ref s2, .int t0, .int t1, .int t2, .int t3])), (rq, .inl (cR, 4, .inr (.inr (.inr (.inr (rqF r0 r1 r2 r3)))))), (r0, .inr (4, [.ref o0, .int (nI n7), .int v7])), (o0, .inl (cI, 4000, .inl f7)), (r1, .inr (4, [.ref o1, .int (nI n1), .int 0])), (o1, .inl (cI, 4000, .inl f1)), (r2, .inr (4, [.ref o2, .int (nI n2), .int 0])), (o2, .inl (cI, 8000, .inl f2)), (r3, .inr (4, [.ref o3, .int (nI n3), .int 0])), (o3, .inl (cI, 8000, .inl f3))] → va_S A0 s0.heap H locs → lv_has ls 7 [(0, .ref cd), (1, .int (nI 0)), (2, .long v), (4, .int (nI m)), (5, .ref r0), (6, .int (nI j - 1))] → W p0 l e0 ({ frames := 1, cells := 0, slots := 0, locals := 21 }) s0 m0 ([.ref cd, .int x, .long v, .int n] : List Value).toArray below meth c0 H locs 0 0 Q0 (F0 m0 61 ls []) := by
                intro k9
                induction k9 with
                | zero => intro j Lc n7 f7 v7 H locs ls hk9; exact absurd hk9 (Nat.not_lt_zero _)
                | succ k9 ih =>
                  intro j Lc n7 f7 v7 H locs ls hk9 hjm hLc hr7 hP hD hS hl
                  refine lv_iload hx hb dX8_feed_61 (lv_at hl 5 rfl) ?_
                  refine lv_if_lt (tgt := 89) hx hb dX8_feed_63 (by decide) (fun c_6 => ?_) (fun c_6 => ?_)
                  · have hj0 : j = 0 := Decidable.byContradiction (fun z => by rw [show (1 : Int32) = nI 1 from rfl, pk_sub (by omega)] at c_6; exact nI_pos (by omega) c_6)
                    rw [hj0, fdL, List.append_nil] at hLc
                    subst hLc
                    have hlen : (RL 0 ++ fdL v m).length = (RL 0).length + m := by rw [List.length_append, fdL_len]
                    obtain ⟨w1, w2⟩ := row_len hr7 (by omega)
                    rw [hlen] at w1
                    subst w1
                    subst w2
                    refine lv_aload hx hb dX8_feed_89 (lv_at hl 4 rfl) ?_
                    refine va_get (D := D) (ci := 4) (v := .int (nI ((RL 0).length + m))) (C := RX4) (T := TX4) (N := 3) hx hb hts in_X4 hown hK hP 2 rfl rfl 1 (by decide) (hts _ kX8_92) (fun _ h9 => h9) rfl dX8_feed_91 ?_
                    exact hret 94 ls _ _ _ ((RL 0).length + m, f7, n1, f1, n2, f2, n3, f3, va_up RL 0 (RL 0 ++ fdL v m)) dX8_feed_94 hP hD hS (⟨hfp, rwOk_0 hrw hr7 (by omega)⟩)
                  · obtain ⟨i, hji⟩ : ∃ i, j = i + 1 := ⟨j - 1, by have : ¬ j = 0 := fun z => c_6 (by rw [z]; decide); omega⟩
                    subst hji
                    rw [show nI (i + 1) - 1 = nI i from pk_sub (a := i + 1) (b := 1) (by omega)] at hl
                    refine lv_aload hx hb dX8_feed_66 (lv_at hl 4 rfl) ?_
                    refine lv_lload_n hx hb dX8_feed_68 rfl (lv_at hl 2 rfl) ?_
                    refine lv_bipush (v := 8) hx hb dX8_feed_69 (by decide) ?_
                    refine lv_iload hx hb dX8_feed_71 (lv_at hl 5 rfl) ?_
                    refine lv_imul hx hb dX8_feed_73 ?_
                    refine lv_lushr hx hb dX8_feed_74 (v := (v.toUInt64 >>> ((8 * (nI i)).toInt64.toUInt64 &&& Int64.toUInt64 63)).toInt64) rfl ?_
                    refine lv_l2i hx hb dX8_feed_75 (v := ((v.toUInt64 >>> ((8 * (nI i)).toInt64.toUInt64 &&& Int64.toUInt64 63)).toInt64).toInt32) rfl ?_
                    refine lv_sipush (v := 255) hx hb dX8_feed_76 (by decide) ?_
                    refine lv_iand hx hb dX8_feed_79 ?_
                    refine jn_v (wr := [(cd, .inr (8, [.ref rq, .ref wt, .ref wq, .ref mi, .ref mo, .ref ft, .ref ot, .ref gt, .ref rd, .ref tq, .ref wr, .ref s1, .ref s2, .int t0, .int t1, .int t2, .int t3])), (rq, .inl (cR, 4, .inr (.inr (.inr (.inr (rqF r0 r1 r2 r3)))))), (r1, .inr (4, [.ref o1, .int (nI n1), .int 0])), (o1, .inl (cI, 4000, .inl f1)), (r2, .inr (4, [.ref o2, .int (nI n2), .int 0])), (o2, .inl (cI, 8000, .inl f2)), (r3, .inr (4, [.ref o3, .int (nI n3), .int 0])), (o3, .inl (cI, 8000, .inl f3))]) hA hP hD hS [2, 3] [0, 1, 4, 5, 6, 7, 8, 9] rfl rfl (by decide) (by decide) (rn_V (As := [.int (ocV v i)]) (rest := []) ⟨hx, hb, hml, hown, hts⟩ (cvV 1 hts zc_yX4_put zi_X4 zm_yX4_put zv_yX4_put kX8_89 (by decide +kernel) rfl rfl ⟨Nat.le_of_ble_eq_true rfl, Nat.le_of_ble_eq_true rfl⟩) (c_Row_put l D cI cB cJ cR r0 o0 4000 n7 f7 v7 Lc (ocV v i) (by decide) (hr7) H.size) hK hNw hMk hA hP hD hS [2, 3] rfl rfl (by decide) 0 rfl rfl rfl rfl hl.1 rfl (Nat.le_of_ble_eq_true rfl) dX8_feed_80 ⟨Nat.le_of_ble_eq_true rfl, Nat.le_of_ble_eq_true rfl⟩) (fun u9 H locs hpu hP hD hS => ?_)
                    obtain ⟨n8, f8, v8⟩ := u9
                    try dsimp only at hpu
                    have hP : va_P D vwCl [(cd, .inr (8, [.ref rq, .ref wt, .ref wq, .ref mi, .ref mo, .ref ft, .ref ot, .ref gt, .ref rd, .ref tq, .ref wr, .ref s1, .ref s2, .int t0, .int t1, .int t2, .int t3])), (rq, .inl (cR, 4, .inr (.inr (.inr (.inr (rqF r0 r1 r2 r3)))))), (r1, .inr (4, [.ref o1, .int (nI n1), .int 0])), (o1, .inl (cI, 4000, .inl f1)), (r2, .inr (4, [.ref o2, .int (nI n2), .int 0])), (o2, .inl (cI, 8000, .inl f2)), (r3, .inr (4, [.ref o3, .int (nI n3), .int 0])), (o3, .inl (cI, 8000, .inl f3)), (r0, .inr (4, [.ref o0, .int (nI n8), .int v8])), (o0, .inl (cI, 4000, .inl f8))] H := hP
                    have hD : va_D A0 [(cd, .inr (8, [.ref rq, .ref wt, .ref wq, .ref mi, .ref mo, .ref ft, .ref ot, .ref gt, .ref rd, .ref tq, .ref wr, .ref s1, .ref s2, .int t0, .int t1, .int t2, .int t3])), (rq, .inl (cR, 4, .inr (.inr (.inr (.inr (rqF r0 r1 r2 r3)))))), (r1, .inr (4, [.ref o1, .int (nI n1), .int 0])), (o1, .inl (cI, 4000, .inl f1)), (r2, .inr (4, [.ref o2, .int (nI n2), .int 0])), (o2, .inl (cI, 8000, .inl f2)), (r3, .inr (4, [.ref o3, .int (nI n3), .int 0])), (o3, .inl (cI, 8000, .inl f3)), (r0, .inr (4, [.ref o0, .int (nI n8), .int v8])), (o0, .inl (cI, 4000, .inl f8))] := hD
                    refine lv_iinc (v := (nI i) + (-1)) (lv' := [(6, .int ((nI i) + (-1))), (0, .ref cd), (1, .int (nI 0)), (2, .long v), (4, .int (nI m)), (5, .ref r0)]) hx hb dX8_feed_83 hl (k := 5) rfl (rfl) (by decide) rfl (fun ls hl => ?_)
                    refine lv_goto (tgt := 61) hx hb dX8_feed_86 (by decide) ?_
                    rw [show nI i + (-1) = nI i - 1 from (Int32.sub_eq_add_neg ..).symm] at hl
                    exact ih i (Lc ++ [ocV v i]) n8 f8 v8 _ _ ls (by omega) (by omega) (by rw [← hLc, fdL, List.append_assoc]; rfl) (hpu) (hP.sub [0, 1, 8, 9, 2, 3, 4, 5, 6, 7] rfl) (hD.sub [0, 1, 8, 9, 2, 3, 4, 5, 6, 7] (by decide) rfl) hS (lv_sub hl [1, 2, 3, 4, 5, 0] rfl)
              exact loop _ m (RL 0) n0 f0 0 _ _ ls (Nat.lt_succ_self _) (Nat.le_refl _) (rfl) (hr0) (hP.sub [0, 1, 8, 9, 2, 3, 4, 5, 6, 7] rfl) (hD.sub [0, 1, 8, 9, 2, 3, 4, 5, 6, 7] (by decide) rfl) hS (lv_sub hl [2, 3, 4, 5, 1, 0] rfl)
            · have hf9 : 4000 < (RL 0).length + m := by have := Nat.not_le.mp (fun q => c_5 (nI_le q (by omega))); omega
              rw [if_pos (show rmN 0 < (RL 0).length + m from hf9)] at hfp
              refine lv_bipush (v := -4) hx hb dX8_feed_52 (by decide) ?_
              have hP := hP.sub (ws' := [(cd, .inr (8, [.ref rq, .ref wt, .ref wq, .ref mi, .ref mo, .ref ft, .ref ot, .ref gt, .ref rd, .ref tq, .ref wr, .ref s1, .ref s2, .int t0, .int t1, .int t2, .int t3])), (rq, .inl (cR, 4, .inr (.inr (.inr (.inr (rqF r0 r1 r2 r3)))))), (r0, .inr (4, [.ref o0, .int (nI n0), .int 0])), (o0, .inl (cI, 4000, .inl f0)), (r1, .inr (4, [.ref o1, .int (nI n1), .int 0])), (o1, .inl (cI, 4000, .inl f1)), (r2, .inr (4, [.ref o2, .int (nI n2), .int 0])), (o2, .inl (cI, 8000, .inl f2)), (r3, .inr (4, [.ref o3, .int (nI n3), .int 0])), (o3, .inl (cI, 8000, .inl f3))]) [0, 1, 8, 9, 2, 3, 4, 5, 6, 7] rfl
              have hD := hD.sub (ws' := [(cd, .inr (8, [.ref rq, .ref wt, .ref wq, .ref mi, .ref mo, .ref ft, .ref ot, .ref gt, .ref rd, .ref tq, .ref wr, .ref s1, .ref s2, .int t0, .int t1, .int t2, .int t3])), (rq, .inl (cR, 4, .inr (.inr (.inr (.inr (rqF r0 r1 r2 r3)))))), (r0, .inr (4, [.ref o0, .int (nI n0), .int 0])), (o0, .inl (cI, 4000, .inl f0)), (r1, .inr (4, [.ref o1, .int (nI n1), .int 0])), (o1, .inl (cI, 4000, .inl f1)), (r2, .inr (4, [.ref o2, .int (nI n2), .int 0])), (o2, .inl (cI, 8000, .inl f2)), (r3, .inr (4, [.ref o3, .int (nI n3), .int 0])), (o3, .inl (cI, 8000, .inl f3))]) [0, 1, 8, 9, 2, 3, 4, 5, 6, 7] (by decide) rfl
              exact hret 54 ls _ _ _ (n0, f0, n1, f1, n2, f2, n3, f3, RL) dX8_feed_54 hP hD hS (⟨hfp, hrw⟩)
          · have hm0 : m = 0 := Decidable.byContradiction (fun z => nI_ne0 (Nat.pos_of_ne_zero z) (by omega) c_4)
            rw [if_pos hm0] at hfp
            refine lv_aload hx hb dX8_feed_35 (lv_at hl 0 rfl) ?_
            refine jn_v (wr := [(cd, .inr (8, [.ref rq, .ref wt, .ref wq, .ref mi, .ref mo, .ref ft, .ref ot, .ref gt, .ref rd, .ref tq, .ref wr, .ref s1, .ref s2, .int t0, .int t1, .int t2, .int t3])), (rq, .inl (cR, 4, .inr (.inr (.inr (.inr (rqF r0 r1 r2 r3)))))), (r1, .inr (4, [.ref o1, .int (nI n1), .int 0])), (o1, .inl (cI, 4000, .inl f1)), (r2, .inr (4, [.ref o2, .int (nI n2), .int 0])), (o2, .inl (cI, 8000, .inl f2)), (r3, .inr (4, [.ref o3, .int (nI n3), .int 0])), (o3, .inl (cI, 8000, .inl f3))]) hA hP hD hS [2, 3] [0, 1, 4, 5, 6, 7, 8, 9] rfl rfl (by decide) (by decide) (rn_V (As := []) (rest := []) ⟨hx, hb, hml, hown, hts⟩ (cvV 0 hts zc_yX4_makeEmpty zi_X4 zm_yX4_makeEmpty zv_yX4_makeEmpty kX8_82 (by decide +kernel) rfl rfl ⟨Nat.le_of_ble_eq_true rfl, Nat.le_of_ble_eq_true rfl⟩) (c_Row_makeEmpty l D cI cB cJ cR r0 o0 4000 n0 f0 0  H.size) hK hNw hMk hA hP hD hS [2, 3] rfl rfl (by decide) 0 rfl rfl rfl rfl hl.1 rfl (Nat.le_of_ble_eq_true rfl) dX8_feed_37 ⟨Nat.le_of_ble_eq_true rfl, Nat.le_of_ble_eq_true rfl⟩) (fun u9 H locs w_9 hP hD hS => ?_)
            try dsimp only at w_9
            have hP : va_P D vwCl [(cd, .inr (8, [.ref rq, .ref wt, .ref wq, .ref mi, .ref mo, .ref ft, .ref ot, .ref gt, .ref rd, .ref tq, .ref wr, .ref s1, .ref s2, .int t0, .int t1, .int t2, .int t3])), (rq, .inl (cR, 4, .inr (.inr (.inr (.inr (rqF r0 r1 r2 r3)))))), (r1, .inr (4, [.ref o1, .int (nI n1), .int 0])), (o1, .inl (cI, 4000, .inl f1)), (r2, .inr (4, [.ref o2, .int (nI n2), .int 0])), (o2, .inl (cI, 8000, .inl f2)), (r3, .inr (4, [.ref o3, .int (nI n3), .int 0])), (o3, .inl (cI, 8000, .inl f3)), (r0, .inr (4, [.ref o0, .int (nI 0), .int 0])), (o0, .inl (cI, 4000, .inl f0))] H := hP
            have hD : va_D A0 [(cd, .inr (8, [.ref rq, .ref wt, .ref wq, .ref mi, .ref mo, .ref ft, .ref ot, .ref gt, .ref rd, .ref tq, .ref wr, .ref s1, .ref s2, .int t0, .int t1, .int t2, .int t3])), (rq, .inl (cR, 4, .inr (.inr (.inr (.inr (rqF r0 r1 r2 r3)))))), (r1, .inr (4, [.ref o1, .int (nI n1), .int 0])), (o1, .inl (cI, 4000, .inl f1)), (r2, .inr (4, [.ref o2, .int (nI n2), .int 0])), (o2, .inl (cI, 8000, .inl f2)), (r3, .inr (4, [.ref o3, .int (nI n3), .int 0])), (o3, .inl (cI, 8000, .inl f3)), (r0, .inr (4, [.ref o0, .int (nI 0), .int 0])), (o0, .inl (cI, 4000, .inl f0))] := hD
            refine lv_iconst (v := 0) hx hb dX8_feed_40 (by decide) ?_
            have hP := hP.sub (ws' := [(cd, .inr (8, [.ref rq, .ref wt, .ref wq, .ref mi, .ref mo, .ref ft, .ref ot, .ref gt, .ref rd, .ref tq, .ref wr, .ref s1, .ref s2, .int t0, .int t1, .int t2, .int t3])), (rq, .inl (cR, 4, .inr (.inr (.inr (.inr (rqF r0 r1 r2 r3)))))), (r0, .inr (4, [.ref o0, .int (nI 0), .int 0])), (o0, .inl (cI, 4000, .inl f0)), (r1, .inr (4, [.ref o1, .int (nI n1), .int 0])), (o1, .inl (cI, 4000, .inl f1)), (r2, .inr (4, [.ref o2, .int (nI n2), .int 0])), (o2, .inl (cI, 8000, .inl f2)), (r3, .inr (4, [.ref o3, .int (nI n3), .int 0])), (o3, .inl (cI, 8000, .inl f3))]) [0, 1, 8, 9, 2, 3, 4, 5, 6, 7] rfl
            have hD := hD.sub (ws' := [(cd, .inr (8, [.ref rq, .ref wt, .ref wq, .ref mi, .ref mo, .ref ft, .ref ot, .ref gt, .ref rd, .ref tq, .ref wr, .ref s1, .ref s2, .int t0, .int t1, .int t2, .int t3])), (rq, .inl (cR, 4, .inr (.inr (.inr (.inr (rqF r0 r1 r2 r3)))))), (r0, .inr (4, [.ref o0, .int (nI 0), .int 0])), (o0, .inl (cI, 4000, .inl f0)), (r1, .inr (4, [.ref o1, .int (nI n1), .int 0])), (o1, .inl (cI, 4000, .inl f1)), (r2, .inr (4, [.ref o2, .int (nI n2), .int 0])), (o2, .inl (cI, 8000, .inl f2)), (r3, .inr (4, [.ref o3, .int (nI n3), .int 0])), (o3, .inl (cI, 8000, .inl f3))]) [0, 1, 8, 9, 2, 3, 4, 5, 6, 7] (by decide) rfl
            exact hret 41 ls _ _ _ (0, f0, n1, f1, n2, f2, n3, f3, va_up RL 0 ([])) dX8_feed_41 hP hD hS (⟨hfp, rwOk_0 hrw row_nil (Nat.zero_le _)⟩)
        · have hnk := rw_n1 hrw
          obtain ⟨hr0, hr1, hr2, hr3, hl0, hl1, hl2, hl3⟩ := id hrw
          rw [hx1] at hl
          have hfp := feedP_in (k := 1) (v := v) (RL := RL) (by decide) hm8
          rw [← hx1, ← hnm9] at hfp
          refine lv_aload_n hx hb dX8_feed_22 rfl (lv_at hl 0 rfl) ?_
          refine va_get (D := D) (ci := 8) (v := .ref rq) (C := RX8) (T := TX8) (N := 17) hx hb hts in_X8 hown hK hP 0 rfl rfl 0 (by decide) (hts _ kX8_11) (fun _ h9 => h9) rfl dX8_feed_23 ?_
          refine lv_iload_n hx hb dX8_feed_26 rfl (lv_at hl 1 rfl) ?_
          refine ax_rld hx hb hK hP 1 3 rfl rfl 1 (rfl) (by decide) (by decide) rfl dX8_feed_27 ?_
          refine lv_astore (lv' := [(5, .ref r1), (0, .ref cd), (1, .int (nI 1)), (2, .long v), (4, .int (nI m))]) hx hb dX8_feed_28 hl (by decide) rfl (fun ls hl => ?_)
          refine lv_iload hx hb dX8_feed_30 (lv_at hl 4 rfl) ?_
          refine lv_if_ne (tgt := 42) hx hb dX8_feed_32 (by decide) (fun c_10 => ?_) (fun c_10 => ?_)
          · have hm0 : ¬ m = 0 := fun z => c_10 (by rw [z]; decide)
            rw [if_neg hm0] at hfp
            refine lv_iload hx hb dX8_feed_42 (lv_at hl 4 rfl) ?_
            refine lv_aload hx hb dX8_feed_44 (lv_at hl 0 rfl) ?_
            refine jn_i (wr := [(cd, .inr (8, [.ref rq, .ref wt, .ref wq, .ref mi, .ref mo, .ref ft, .ref ot, .ref gt, .ref rd, .ref tq, .ref wr, .ref s1, .ref s2, .int t0, .int t1, .int t2, .int t3])), (rq, .inl (cR, 4, .inr (.inr (.inr (.inr (rqF r0 r1 r2 r3)))))), (r0, .inr (4, [.ref o0, .int (nI n0), .int 0])), (o0, .inl (cI, 4000, .inl f0)), (r2, .inr (4, [.ref o2, .int (nI n2), .int 0])), (o2, .inl (cI, 8000, .inl f2)), (r3, .inr (4, [.ref o3, .int (nI n3), .int 0])), (o3, .inl (cI, 8000, .inl f3))]) hA hP hD hS [4, 5] [0, 1, 2, 3, 6, 7, 8, 9] rfl rfl (by decide) (by decide) (rn_V (As := []) (rest := [.int (nI m)]) ⟨hx, hb, hml, hown, hts⟩ (cvV 0 hts zc_yX4_room zi_X4 zm_yX4_room zv_yX4_room kX8_85 (by decide +kernel) rfl rfl ⟨Nat.le_of_ble_eq_true rfl, Nat.le_of_ble_eq_true rfl⟩) (c_Row_room l D cI cB cJ cR r1 o1 4000 n1 f1 0 (by decide) (hnk.2) H.size) hK hNw hMk hA hP hD hS [4, 5] rfl rfl (by decide) 0 rfl rfl rfl rfl hl.1 rfl (Nat.le_of_ble_eq_true rfl) dX8_feed_46 ⟨Nat.le_of_ble_eq_true rfl, Nat.le_of_ble_eq_true rfl⟩) (fun rm u9 H locs hrm hP hD hS => ?_)
            try dsimp only at hrm
            have hP : va_P D vwCl [(cd, .inr (8, [.ref rq, .ref wt, .ref wq, .ref mi, .ref mo, .ref ft, .ref ot, .ref gt, .ref rd, .ref tq, .ref wr, .ref s1, .ref s2, .int t0, .int t1, .int t2, .int t3])), (rq, .inl (cR, 4, .inr (.inr (.inr (.inr (rqF r0 r1 r2 r3)))))), (r0, .inr (4, [.ref o0, .int (nI n0), .int 0])), (o0, .inl (cI, 4000, .inl f0)), (r2, .inr (4, [.ref o2, .int (nI n2), .int 0])), (o2, .inl (cI, 8000, .inl f2)), (r3, .inr (4, [.ref o3, .int (nI n3), .int 0])), (o3, .inl (cI, 8000, .inl f3)), (r1, .inr (4, [.ref o1, .int (nI n1), .int 0])), (o1, .inl (cI, 4000, .inl f1))] H := hP
            have hD : va_D A0 [(cd, .inr (8, [.ref rq, .ref wt, .ref wq, .ref mi, .ref mo, .ref ft, .ref ot, .ref gt, .ref rd, .ref tq, .ref wr, .ref s1, .ref s2, .int t0, .int t1, .int t2, .int t3])), (rq, .inl (cR, 4, .inr (.inr (.inr (.inr (rqF r0 r1 r2 r3)))))), (r0, .inr (4, [.ref o0, .int (nI n0), .int 0])), (o0, .inl (cI, 4000, .inl f0)), (r2, .inr (4, [.ref o2, .int (nI n2), .int 0])), (o2, .inl (cI, 8000, .inl f2)), (r3, .inr (4, [.ref o3, .int (nI n3), .int 0])), (o3, .inl (cI, 8000, .inl f3)), (r1, .inr (4, [.ref o1, .int (nI n1), .int 0])), (o1, .inl (cI, 4000, .inl f1))] := hD
            subst hrm
            refine lv_icmp_le (tgt := 55) hx hb dX8_feed_49 (by decide) (fun c_11 => ?_) (fun c_11 => ?_)
            · have hf9 : ¬ 4000 < (RL 1).length + m := by have := (nI_leI (by omega) (by omega)).mp c_11; omega
              rw [if_neg (show ¬ rmN 1 < (RL 1).length + m from hf9)] at hfp
              refine lv_iload hx hb dX8_feed_55 (lv_at hl 4 rfl) ?_
              refine lv_iconst (v := 1) hx hb dX8_feed_57 (by decide) ?_
              refine lv_isub hx hb dX8_feed_58 ?_
              refine lv_istore (lv' := [(6, .int ((nI m) - 1)), (5, .ref r1), (0, .ref cd), (1, .int (nI 1)), (2, .long v), (4, .int (nI m))]) hx hb dX8_feed_59 hl (by decide) rfl (fun ls hl => ?_)
              have loop : ∀ (k9 : Nat) (j : Nat) (Lc : List Int32) (n7 : Nat) (f7 : Nat → Int32) (v7 : Int32) (H : Heap) (locs : List Loc) (ls : Array Slot), j < k9 → (j ≤ m) → (Lc ++ fdL v j = RL 1 ++ fdL v m) → (rowIs 4000 Lc n7 f7 v7) → va_P D vwCl [(cd, .inr (8, [.ref rq, .ref wt, .ref wq, .ref mi, .ref mo, .ref ft, .ref ot, .ref gt, .ref rd, .ref tq, .ref wr, .ref s1, .ref s2, .int t0, .int t1, .int t2, .int t3])), (rq, .inl (cR, 4, .inr (.inr (.inr (.inr (rqF r0 r1 r2 r3)))))), (r0, .inr (4, [.ref o0, .int (nI n0), .int 0])), (o0, .inl (cI, 4000, .inl f0)), (r1, .inr (4, [.ref o1, .int (nI n7), .int v7])), (o1, .inl (cI, 4000, .inl f7)), (r2, .inr (4, [.ref o2, .int (nI n2), .int 0])), (o2, .inl (cI, 8000, .inl f2)), (r3, .inr (4, [.ref o3, .int (nI n3), .int 0])), (o3, .inl (cI, 8000, .inl f3))] H → va_D A0 [(cd, .inr (8, [.ref rq, .ref wt, .ref wq, .ref mi, .ref mo, .ref ft, .ref ot, .ref gt, .ref rd, .ref tq, .ref wr, .ref s1, .ref s2, .int t0, .int t1, .int t2, .int t3])), (rq, .inl (cR, 4, .inr (.inr (.inr (.inr (rqF r0 r1 r2 r3)))))), (r0, .inr (4, [.ref o0, .int (nI n0), .int 0])), (o0, .inl (cI, 4000, .inl f0)), (r1, .inr (4, [.ref o1, .int (nI n7), .int v7])), (o1, .inl (cI, 4000, .inl f7)), (r2, .inr (4, [.ref o2, .int (nI n2), .int 0])), (o2, .inl (cI, 8000, .inl f2)), (r3, .inr (4, [.ref o3, .int (nI n3), .int 0])), (o3, .inl (cI, 8000, .inl f3))] → va_S A0 s0.heap H locs → lv_has ls 7 [(0, .ref cd), (1, .int (nI 1)), (2, .long v), (4, .int (nI m)), (5, .ref r1), (6, .int (nI j - 1))] → W p0 l e0 ({ frames := 1, cells := 0, slots := 0, locals := 21 }) s0 m0 ([.ref cd, .int x, .long v, .int n] : List Value).toArray below meth c0 H locs 0 0 Q0 (F0 m0 61 ls []) := by
                intro k9
                induction k9 with
                | zero => intro j Lc n7 f7 v7 H locs ls hk9; exact absurd hk9 (Nat.not_lt_zero _)
                | succ k9 ih =>
                  intro j Lc n7 f7 v7 H locs ls hk9 hjm hLc hr7 hP hD hS hl
                  refine lv_iload hx hb dX8_feed_61 (lv_at hl 5 rfl) ?_
                  refine lv_if_lt (tgt := 89) hx hb dX8_feed_63 (by decide) (fun c_12 => ?_) (fun c_12 => ?_)
                  · have hj0 : j = 0 := Decidable.byContradiction (fun z => by rw [show (1 : Int32) = nI 1 from rfl, pk_sub (by omega)] at c_12; exact nI_pos (by omega) c_12)
                    rw [hj0, fdL, List.append_nil] at hLc
                    subst hLc
                    have hlen : (RL 1 ++ fdL v m).length = (RL 1).length + m := by rw [List.length_append, fdL_len]
                    obtain ⟨w1, w2⟩ := row_len hr7 (by omega)
                    rw [hlen] at w1
                    subst w1
                    subst w2
                    refine lv_aload hx hb dX8_feed_89 (lv_at hl 4 rfl) ?_
                    refine va_get (D := D) (ci := 4) (v := .int (nI ((RL 1).length + m))) (C := RX4) (T := TX4) (N := 3) hx hb hts in_X4 hown hK hP 4 rfl rfl 1 (by decide) (hts _ kX8_92) (fun _ h9 => h9) rfl dX8_feed_91 ?_
                    exact hret 94 ls _ _ _ (n0, f0, (RL 1).length + m, f7, n2, f2, n3, f3, va_up RL 1 (RL 1 ++ fdL v m)) dX8_feed_94 hP hD hS (⟨hfp, rwOk_1 hrw hr7 (by omega)⟩)
                  · obtain ⟨i, hji⟩ : ∃ i, j = i + 1 := ⟨j - 1, by have : ¬ j = 0 := fun z => c_12 (by rw [z]; decide); omega⟩
                    subst hji
                    rw [show nI (i + 1) - 1 = nI i from pk_sub (a := i + 1) (b := 1) (by omega)] at hl
                    refine lv_aload hx hb dX8_feed_66 (lv_at hl 4 rfl) ?_
                    refine lv_lload_n hx hb dX8_feed_68 rfl (lv_at hl 2 rfl) ?_
                    refine lv_bipush (v := 8) hx hb dX8_feed_69 (by decide) ?_
                    refine lv_iload hx hb dX8_feed_71 (lv_at hl 5 rfl) ?_
                    refine lv_imul hx hb dX8_feed_73 ?_
                    refine lv_lushr hx hb dX8_feed_74 (v := (v.toUInt64 >>> ((8 * (nI i)).toInt64.toUInt64 &&& Int64.toUInt64 63)).toInt64) rfl ?_
                    refine lv_l2i hx hb dX8_feed_75 (v := ((v.toUInt64 >>> ((8 * (nI i)).toInt64.toUInt64 &&& Int64.toUInt64 63)).toInt64).toInt32) rfl ?_
                    refine lv_sipush (v := 255) hx hb dX8_feed_76 (by decide) ?_
                    refine lv_iand hx hb dX8_feed_79 ?_
                    refine jn_v (wr := [(cd, .inr (8, [.ref rq, .ref wt, .ref wq, .ref mi, .ref mo, .ref ft, .ref ot, .ref gt, .ref rd, .ref tq, .ref wr, .ref s1, .ref s2, .int t0, .int t1, .int t2, .int t3])), (rq, .inl (cR, 4, .inr (.inr (.inr (.inr (rqF r0 r1 r2 r3)))))), (r0, .inr (4, [.ref o0, .int (nI n0), .int 0])), (o0, .inl (cI, 4000, .inl f0)), (r2, .inr (4, [.ref o2, .int (nI n2), .int 0])), (o2, .inl (cI, 8000, .inl f2)), (r3, .inr (4, [.ref o3, .int (nI n3), .int 0])), (o3, .inl (cI, 8000, .inl f3))]) hA hP hD hS [4, 5] [0, 1, 2, 3, 6, 7, 8, 9] rfl rfl (by decide) (by decide) (rn_V (As := [.int (ocV v i)]) (rest := []) ⟨hx, hb, hml, hown, hts⟩ (cvV 1 hts zc_yX4_put zi_X4 zm_yX4_put zv_yX4_put kX8_89 (by decide +kernel) rfl rfl ⟨Nat.le_of_ble_eq_true rfl, Nat.le_of_ble_eq_true rfl⟩) (c_Row_put l D cI cB cJ cR r1 o1 4000 n7 f7 v7 Lc (ocV v i) (by decide) (hr7) H.size) hK hNw hMk hA hP hD hS [4, 5] rfl rfl (by decide) 0 rfl rfl rfl rfl hl.1 rfl (Nat.le_of_ble_eq_true rfl) dX8_feed_80 ⟨Nat.le_of_ble_eq_true rfl, Nat.le_of_ble_eq_true rfl⟩) (fun u9 H locs hpu hP hD hS => ?_)
                    obtain ⟨n8, f8, v8⟩ := u9
                    try dsimp only at hpu
                    have hP : va_P D vwCl [(cd, .inr (8, [.ref rq, .ref wt, .ref wq, .ref mi, .ref mo, .ref ft, .ref ot, .ref gt, .ref rd, .ref tq, .ref wr, .ref s1, .ref s2, .int t0, .int t1, .int t2, .int t3])), (rq, .inl (cR, 4, .inr (.inr (.inr (.inr (rqF r0 r1 r2 r3)))))), (r0, .inr (4, [.ref o0, .int (nI n0), .int 0])), (o0, .inl (cI, 4000, .inl f0)), (r2, .inr (4, [.ref o2, .int (nI n2), .int 0])), (o2, .inl (cI, 8000, .inl f2)), (r3, .inr (4, [.ref o3, .int (nI n3), .int 0])), (o3, .inl (cI, 8000, .inl f3)), (r1, .inr (4, [.ref o1, .int (nI n8), .int v8])), (o1, .inl (cI, 4000, .inl f8))] H := hP
                    have hD : va_D A0 [(cd, .inr (8, [.ref rq, .ref wt, .ref wq, .ref mi, .ref mo, .ref ft, .ref ot, .ref gt, .ref rd, .ref tq, .ref wr, .ref s1, .ref s2, .int t0, .int t1, .int t2, .int t3])), (rq, .inl (cR, 4, .inr (.inr (.inr (.inr (rqF r0 r1 r2 r3)))))), (r0, .inr (4, [.ref o0, .int (nI n0), .int 0])), (o0, .inl (cI, 4000, .inl f0)), (r2, .inr (4, [.ref o2, .int (nI n2), .int 0])), (o2, .inl (cI, 8000, .inl f2)), (r3, .inr (4, [.ref o3, .int (nI n3), .int 0])), (o3, .inl (cI, 8000, .inl f3)), (r1, .inr (4, [.ref o1, .int (nI n8), .int v8])), (o1, .inl (cI, 4000, .inl f8))] := hD
                    refine lv_iinc (v := (nI i) + (-1)) (lv' := [(6, .int ((nI i) + (-1))), (0, .ref cd), (1, .int (nI 1)), (2, .long v), (4, .int (nI m)), (5, .ref r1)]) hx hb dX8_feed_83 hl (k := 5) rfl (rfl) (by decide) rfl (fun ls hl => ?_)
                    refine lv_goto (tgt := 61) hx hb dX8_feed_86 (by decide) ?_
                    rw [show nI i + (-1) = nI i - 1 from (Int32.sub_eq_add_neg ..).symm] at hl
                    exact ih i (Lc ++ [ocV v i]) n8 f8 v8 _ _ ls (by omega) (by omega) (by rw [← hLc, fdL, List.append_assoc]; rfl) (hpu) (hP.sub [0, 1, 2, 3, 8, 9, 4, 5, 6, 7] rfl) (hD.sub [0, 1, 2, 3, 8, 9, 4, 5, 6, 7] (by decide) rfl) hS (lv_sub hl [1, 2, 3, 4, 5, 0] rfl)
              exact loop _ m (RL 1) n1 f1 0 _ _ ls (Nat.lt_succ_self _) (Nat.le_refl _) (rfl) (hr1) (hP.sub [0, 1, 2, 3, 8, 9, 4, 5, 6, 7] rfl) (hD.sub [0, 1, 2, 3, 8, 9, 4, 5, 6, 7] (by decide) rfl) hS (lv_sub hl [2, 3, 4, 5, 1, 0] rfl)
            · have hf9 : 4000 < (RL 1).length + m := by have := Nat.not_le.mp (fun q => c_11 (nI_le q (by omega))); omega
              rw [if_pos (show rmN 1 < (RL 1).length + m from hf9)] at hfp
              refine lv_bipush (v := -4) hx hb dX8_feed_52 (by decide) ?_
              have hP := hP.sub (ws' := [(cd, .inr (8, [.ref rq, .ref wt, .ref wq, .ref mi, .ref mo, .ref ft, .ref ot, .ref gt, .ref rd, .ref tq, .ref wr, .ref s1, .ref s2, .int t0, .int t1, .int t2, .int t3])), (rq, .inl (cR, 4, .inr (.inr (.inr (.inr (rqF r0 r1 r2 r3)))))), (r0, .inr (4, [.ref o0, .int (nI n0), .int 0])), (o0, .inl (cI, 4000, .inl f0)), (r1, .inr (4, [.ref o1, .int (nI n1), .int 0])), (o1, .inl (cI, 4000, .inl f1)), (r2, .inr (4, [.ref o2, .int (nI n2), .int 0])), (o2, .inl (cI, 8000, .inl f2)), (r3, .inr (4, [.ref o3, .int (nI n3), .int 0])), (o3, .inl (cI, 8000, .inl f3))]) [0, 1, 2, 3, 8, 9, 4, 5, 6, 7] rfl
              have hD := hD.sub (ws' := [(cd, .inr (8, [.ref rq, .ref wt, .ref wq, .ref mi, .ref mo, .ref ft, .ref ot, .ref gt, .ref rd, .ref tq, .ref wr, .ref s1, .ref s2, .int t0, .int t1, .int t2, .int t3])), (rq, .inl (cR, 4, .inr (.inr (.inr (.inr (rqF r0 r1 r2 r3)))))), (r0, .inr (4, [.ref o0, .int (nI n0), .int 0])), (o0, .inl (cI, 4000, .inl f0)), (r1, .inr (4, [.ref o1, .int (nI n1), .int 0])), (o1, .inl (cI, 4000, .inl f1)), (r2, .inr (4, [.ref o2, .int (nI n2), .int 0])), (o2, .inl (cI, 8000, .inl f2)), (r3, .inr (4, [.ref o3, .int (nI n3), .int 0])), (o3, .inl (cI, 8000, .inl f3))]) [0, 1, 2, 3, 8, 9, 4, 5, 6, 7] (by decide) rfl
              exact hret 54 ls _ _ _ (n0, f0, n1, f1, n2, f2, n3, f3, RL) dX8_feed_54 hP hD hS (⟨hfp, hrw⟩)
          · have hm0 : m = 0 := Decidable.byContradiction (fun z => nI_ne0 (Nat.pos_of_ne_zero z) (by omega) c_10)
            rw [if_pos hm0] at hfp
            refine lv_aload hx hb dX8_feed_35 (lv_at hl 0 rfl) ?_
            refine jn_v (wr := [(cd, .inr (8, [.ref rq, .ref wt, .ref wq, .ref mi, .ref mo, .ref ft, .ref ot, .ref gt, .ref rd, .ref tq, .ref wr, .ref s1, .ref s2, .int t0, .int t1, .int t2, .int t3])), (rq, .inl (cR, 4, .inr (.inr (.inr (.inr (rqF r0 r1 r2 r3)))))), (r0, .inr (4, [.ref o0, .int (nI n0), .int 0])), (o0, .inl (cI, 4000, .inl f0)), (r2, .inr (4, [.ref o2, .int (nI n2), .int 0])), (o2, .inl (cI, 8000, .inl f2)), (r3, .inr (4, [.ref o3, .int (nI n3), .int 0])), (o3, .inl (cI, 8000, .inl f3))]) hA hP hD hS [4, 5] [0, 1, 2, 3, 6, 7, 8, 9] rfl rfl (by decide) (by decide) (rn_V (As := []) (rest := []) ⟨hx, hb, hml, hown, hts⟩ (cvV 0 hts zc_yX4_makeEmpty zi_X4 zm_yX4_makeEmpty zv_yX4_makeEmpty kX8_82 (by decide +kernel) rfl rfl ⟨Nat.le_of_ble_eq_true rfl, Nat.le_of_ble_eq_true rfl⟩) (c_Row_makeEmpty l D cI cB cJ cR r1 o1 4000 n1 f1 0  H.size) hK hNw hMk hA hP hD hS [4, 5] rfl rfl (by decide) 0 rfl rfl rfl rfl hl.1 rfl (Nat.le_of_ble_eq_true rfl) dX8_feed_37 ⟨Nat.le_of_ble_eq_true rfl, Nat.le_of_ble_eq_true rfl⟩) (fun u9 H locs w_15 hP hD hS => ?_)
            try dsimp only at w_15
            have hP : va_P D vwCl [(cd, .inr (8, [.ref rq, .ref wt, .ref wq, .ref mi, .ref mo, .ref ft, .ref ot, .ref gt, .ref rd, .ref tq, .ref wr, .ref s1, .ref s2, .int t0, .int t1, .int t2, .int t3])), (rq, .inl (cR, 4, .inr (.inr (.inr (.inr (rqF r0 r1 r2 r3)))))), (r0, .inr (4, [.ref o0, .int (nI n0), .int 0])), (o0, .inl (cI, 4000, .inl f0)), (r2, .inr (4, [.ref o2, .int (nI n2), .int 0])), (o2, .inl (cI, 8000, .inl f2)), (r3, .inr (4, [.ref o3, .int (nI n3), .int 0])), (o3, .inl (cI, 8000, .inl f3)), (r1, .inr (4, [.ref o1, .int (nI 0), .int 0])), (o1, .inl (cI, 4000, .inl f1))] H := hP
            have hD : va_D A0 [(cd, .inr (8, [.ref rq, .ref wt, .ref wq, .ref mi, .ref mo, .ref ft, .ref ot, .ref gt, .ref rd, .ref tq, .ref wr, .ref s1, .ref s2, .int t0, .int t1, .int t2, .int t3])), (rq, .inl (cR, 4, .inr (.inr (.inr (.inr (rqF r0 r1 r2 r3)))))), (r0, .inr (4, [.ref o0, .int (nI n0), .int 0])), (o0, .inl (cI, 4000, .inl f0)), (r2, .inr (4, [.ref o2, .int (nI n2), .int 0])), (o2, .inl (cI, 8000, .inl f2)), (r3, .inr (4, [.ref o3, .int (nI n3), .int 0])), (o3, .inl (cI, 8000, .inl f3)), (r1, .inr (4, [.ref o1, .int (nI 0), .int 0])), (o1, .inl (cI, 4000, .inl f1))] := hD
            refine lv_iconst (v := 0) hx hb dX8_feed_40 (by decide) ?_
            have hP := hP.sub (ws' := [(cd, .inr (8, [.ref rq, .ref wt, .ref wq, .ref mi, .ref mo, .ref ft, .ref ot, .ref gt, .ref rd, .ref tq, .ref wr, .ref s1, .ref s2, .int t0, .int t1, .int t2, .int t3])), (rq, .inl (cR, 4, .inr (.inr (.inr (.inr (rqF r0 r1 r2 r3)))))), (r0, .inr (4, [.ref o0, .int (nI n0), .int 0])), (o0, .inl (cI, 4000, .inl f0)), (r1, .inr (4, [.ref o1, .int (nI 0), .int 0])), (o1, .inl (cI, 4000, .inl f1)), (r2, .inr (4, [.ref o2, .int (nI n2), .int 0])), (o2, .inl (cI, 8000, .inl f2)), (r3, .inr (4, [.ref o3, .int (nI n3), .int 0])), (o3, .inl (cI, 8000, .inl f3))]) [0, 1, 2, 3, 8, 9, 4, 5, 6, 7] rfl
            have hD := hD.sub (ws' := [(cd, .inr (8, [.ref rq, .ref wt, .ref wq, .ref mi, .ref mo, .ref ft, .ref ot, .ref gt, .ref rd, .ref tq, .ref wr, .ref s1, .ref s2, .int t0, .int t1, .int t2, .int t3])), (rq, .inl (cR, 4, .inr (.inr (.inr (.inr (rqF r0 r1 r2 r3)))))), (r0, .inr (4, [.ref o0, .int (nI n0), .int 0])), (o0, .inl (cI, 4000, .inl f0)), (r1, .inr (4, [.ref o1, .int (nI 0), .int 0])), (o1, .inl (cI, 4000, .inl f1)), (r2, .inr (4, [.ref o2, .int (nI n2), .int 0])), (o2, .inl (cI, 8000, .inl f2)), (r3, .inr (4, [.ref o3, .int (nI n3), .int 0])), (o3, .inl (cI, 8000, .inl f3))]) [0, 1, 2, 3, 8, 9, 4, 5, 6, 7] (by decide) rfl
            exact hret 41 ls _ _ _ (n0, f0, 0, f1, n2, f2, n3, f3, va_up RL 1 ([])) dX8_feed_41 hP hD hS (⟨hfp, rwOk_1 hrw row_nil (Nat.zero_le _)⟩)
        · have hnk := rw_n2 hrw
          obtain ⟨hr0, hr1, hr2, hr3, hl0, hl1, hl2, hl3⟩ := id hrw
          rw [hx2] at hl
          have hfp := feedP_in (k := 2) (v := v) (RL := RL) (by decide) hm8
          rw [← hx2, ← hnm9] at hfp
          refine lv_aload_n hx hb dX8_feed_22 rfl (lv_at hl 0 rfl) ?_
          refine va_get (D := D) (ci := 8) (v := .ref rq) (C := RX8) (T := TX8) (N := 17) hx hb hts in_X8 hown hK hP 0 rfl rfl 0 (by decide) (hts _ kX8_11) (fun _ h9 => h9) rfl dX8_feed_23 ?_
          refine lv_iload_n hx hb dX8_feed_26 rfl (lv_at hl 1 rfl) ?_
          refine ax_rld hx hb hK hP 1 3 rfl rfl 2 (rfl) (by decide) (by decide) rfl dX8_feed_27 ?_
          refine lv_astore (lv' := [(5, .ref r2), (0, .ref cd), (1, .int (nI 2)), (2, .long v), (4, .int (nI m))]) hx hb dX8_feed_28 hl (by decide) rfl (fun ls hl => ?_)
          refine lv_iload hx hb dX8_feed_30 (lv_at hl 4 rfl) ?_
          refine lv_if_ne (tgt := 42) hx hb dX8_feed_32 (by decide) (fun c_16 => ?_) (fun c_16 => ?_)
          · have hm0 : ¬ m = 0 := fun z => c_16 (by rw [z]; decide)
            rw [if_neg hm0] at hfp
            refine lv_iload hx hb dX8_feed_42 (lv_at hl 4 rfl) ?_
            refine lv_aload hx hb dX8_feed_44 (lv_at hl 0 rfl) ?_
            refine jn_i (wr := [(cd, .inr (8, [.ref rq, .ref wt, .ref wq, .ref mi, .ref mo, .ref ft, .ref ot, .ref gt, .ref rd, .ref tq, .ref wr, .ref s1, .ref s2, .int t0, .int t1, .int t2, .int t3])), (rq, .inl (cR, 4, .inr (.inr (.inr (.inr (rqF r0 r1 r2 r3)))))), (r0, .inr (4, [.ref o0, .int (nI n0), .int 0])), (o0, .inl (cI, 4000, .inl f0)), (r1, .inr (4, [.ref o1, .int (nI n1), .int 0])), (o1, .inl (cI, 4000, .inl f1)), (r3, .inr (4, [.ref o3, .int (nI n3), .int 0])), (o3, .inl (cI, 8000, .inl f3))]) hA hP hD hS [6, 7] [0, 1, 2, 3, 4, 5, 8, 9] rfl rfl (by decide) (by decide) (rn_V (As := []) (rest := [.int (nI m)]) ⟨hx, hb, hml, hown, hts⟩ (cvV 0 hts zc_yX4_room zi_X4 zm_yX4_room zv_yX4_room kX8_85 (by decide +kernel) rfl rfl ⟨Nat.le_of_ble_eq_true rfl, Nat.le_of_ble_eq_true rfl⟩) (c_Row_room l D cI cB cJ cR r2 o2 8000 n2 f2 0 (by decide) (hnk.2) H.size) hK hNw hMk hA hP hD hS [6, 7] rfl rfl (by decide) 0 rfl rfl rfl rfl hl.1 rfl (Nat.le_of_ble_eq_true rfl) dX8_feed_46 ⟨Nat.le_of_ble_eq_true rfl, Nat.le_of_ble_eq_true rfl⟩) (fun rm u9 H locs hrm hP hD hS => ?_)
            try dsimp only at hrm
            have hP : va_P D vwCl [(cd, .inr (8, [.ref rq, .ref wt, .ref wq, .ref mi, .ref mo, .ref ft, .ref ot, .ref gt, .ref rd, .ref tq, .ref wr, .ref s1, .ref s2, .int t0, .int t1, .int t2, .int t3])), (rq, .inl (cR, 4, .inr (.inr (.inr (.inr (rqF r0 r1 r2 r3)))))), (r0, .inr (4, [.ref o0, .int (nI n0), .int 0])), (o0, .inl (cI, 4000, .inl f0)), (r1, .inr (4, [.ref o1, .int (nI n1), .int 0])), (o1, .inl (cI, 4000, .inl f1)), (r3, .inr (4, [.ref o3, .int (nI n3), .int 0])), (o3, .inl (cI, 8000, .inl f3)), (r2, .inr (4, [.ref o2, .int (nI n2), .int 0])), (o2, .inl (cI, 8000, .inl f2))] H := hP
            have hD : va_D A0 [(cd, .inr (8, [.ref rq, .ref wt, .ref wq, .ref mi, .ref mo, .ref ft, .ref ot, .ref gt, .ref rd, .ref tq, .ref wr, .ref s1, .ref s2, .int t0, .int t1, .int t2, .int t3])), (rq, .inl (cR, 4, .inr (.inr (.inr (.inr (rqF r0 r1 r2 r3)))))), (r0, .inr (4, [.ref o0, .int (nI n0), .int 0])), (o0, .inl (cI, 4000, .inl f0)), (r1, .inr (4, [.ref o1, .int (nI n1), .int 0])), (o1, .inl (cI, 4000, .inl f1)), (r3, .inr (4, [.ref o3, .int (nI n3), .int 0])), (o3, .inl (cI, 8000, .inl f3)), (r2, .inr (4, [.ref o2, .int (nI n2), .int 0])), (o2, .inl (cI, 8000, .inl f2))] := hD
            subst hrm
            refine lv_icmp_le (tgt := 55) hx hb dX8_feed_49 (by decide) (fun c_17 => ?_) (fun c_17 => ?_)
            · have hf9 : ¬ 8000 < (RL 2).length + m := by have := (nI_leI (by omega) (by omega)).mp c_17; omega
              rw [if_neg (show ¬ rmN 2 < (RL 2).length + m from hf9)] at hfp
              refine lv_iload hx hb dX8_feed_55 (lv_at hl 4 rfl) ?_
              refine lv_iconst (v := 1) hx hb dX8_feed_57 (by decide) ?_
              refine lv_isub hx hb dX8_feed_58 ?_
              refine lv_istore (lv' := [(6, .int ((nI m) - 1)), (5, .ref r2), (0, .ref cd), (1, .int (nI 2)), (2, .long v), (4, .int (nI m))]) hx hb dX8_feed_59 hl (by decide) rfl (fun ls hl => ?_)
              have loop : ∀ (k9 : Nat) (j : Nat) (Lc : List Int32) (n7 : Nat) (f7 : Nat → Int32) (v7 : Int32) (H : Heap) (locs : List Loc) (ls : Array Slot), j < k9 → (j ≤ m) → (Lc ++ fdL v j = RL 2 ++ fdL v m) → (rowIs 8000 Lc n7 f7 v7) → va_P D vwCl [(cd, .inr (8, [.ref rq, .ref wt, .ref wq, .ref mi, .ref mo, .ref ft, .ref ot, .ref gt, .ref rd, .ref tq, .ref wr, .ref s1, .ref s2, .int t0, .int t1, .int t2, .int t3])), (rq, .inl (cR, 4, .inr (.inr (.inr (.inr (rqF r0 r1 r2 r3)))))), (r0, .inr (4, [.ref o0, .int (nI n0), .int 0])), (o0, .inl (cI, 4000, .inl f0)), (r1, .inr (4, [.ref o1, .int (nI n1), .int 0])), (o1, .inl (cI, 4000, .inl f1)), (r2, .inr (4, [.ref o2, .int (nI n7), .int v7])), (o2, .inl (cI, 8000, .inl f7)), (r3, .inr (4, [.ref o3, .int (nI n3), .int 0])), (o3, .inl (cI, 8000, .inl f3))] H → va_D A0 [(cd, .inr (8, [.ref rq, .ref wt, .ref wq, .ref mi, .ref mo, .ref ft, .ref ot, .ref gt, .ref rd, .ref tq, .ref wr, .ref s1, .ref s2, .int t0, .int t1, .int t2, .int t3])), (rq, .inl (cR, 4, .inr (.inr (.inr (.inr (rqF r0 r1 r2 r3)))))), (r0, .inr (4, [.ref o0, .int (nI n0), .int 0])), (o0, .inl (cI, 4000, .inl f0)), (r1, .inr (4, [.ref o1, .int (nI n1), .int 0])), (o1, .inl (cI, 4000, .inl f1)), (r2, .inr (4, [.ref o2, .int (nI n7), .int v7])), (o2, .inl (cI, 8000, .inl f7)), (r3, .inr (4, [.ref o3, .int (nI n3), .int 0])), (o3, .inl (cI, 8000, .inl f3))] → va_S A0 s0.heap H locs → lv_has ls 7 [(0, .ref cd), (1, .int (nI 2)), (2, .long v), (4, .int (nI m)), (5, .ref r2), (6, .int (nI j - 1))] → W p0 l e0 ({ frames := 1, cells := 0, slots := 0, locals := 21 }) s0 m0 ([.ref cd, .int x, .long v, .int n] : List Value).toArray below meth c0 H locs 0 0 Q0 (F0 m0 61 ls []) := by
                intro k9
                induction k9 with
                | zero => intro j Lc n7 f7 v7 H locs ls hk9; exact absurd hk9 (Nat.not_lt_zero _)
                | succ k9 ih =>
                  intro j Lc n7 f7 v7 H locs ls hk9 hjm hLc hr7 hP hD hS hl
                  refine lv_iload hx hb dX8_feed_61 (lv_at hl 5 rfl) ?_
                  refine lv_if_lt (tgt := 89) hx hb dX8_feed_63 (by decide) (fun c_18 => ?_) (fun c_18 => ?_)
                  · have hj0 : j = 0 := Decidable.byContradiction (fun z => by rw [show (1 : Int32) = nI 1 from rfl, pk_sub (by omega)] at c_18; exact nI_pos (by omega) c_18)
                    rw [hj0, fdL, List.append_nil] at hLc
                    subst hLc
                    have hlen : (RL 2 ++ fdL v m).length = (RL 2).length + m := by rw [List.length_append, fdL_len]
                    obtain ⟨w1, w2⟩ := row_len hr7 (by omega)
                    rw [hlen] at w1
                    subst w1
                    subst w2
                    refine lv_aload hx hb dX8_feed_89 (lv_at hl 4 rfl) ?_
                    refine va_get (D := D) (ci := 4) (v := .int (nI ((RL 2).length + m))) (C := RX4) (T := TX4) (N := 3) hx hb hts in_X4 hown hK hP 6 rfl rfl 1 (by decide) (hts _ kX8_92) (fun _ h9 => h9) rfl dX8_feed_91 ?_
                    exact hret 94 ls _ _ _ (n0, f0, n1, f1, (RL 2).length + m, f7, n3, f3, va_up RL 2 (RL 2 ++ fdL v m)) dX8_feed_94 hP hD hS (⟨hfp, rwOk_2 hrw hr7 (by omega)⟩)
                  · obtain ⟨i, hji⟩ : ∃ i, j = i + 1 := ⟨j - 1, by have : ¬ j = 0 := fun z => c_18 (by rw [z]; decide); omega⟩
                    subst hji
                    rw [show nI (i + 1) - 1 = nI i from pk_sub (a := i + 1) (b := 1) (by omega)] at hl
                    refine lv_aload hx hb dX8_feed_66 (lv_at hl 4 rfl) ?_
                    refine lv_lload_n hx hb dX8_feed_68 rfl (lv_at hl 2 rfl) ?_
                    refine lv_bipush (v := 8) hx hb dX8_feed_69 (by decide) ?_
                    refine lv_iload hx hb dX8_feed_71 (lv_at hl 5 rfl) ?_
                    refine lv_imul hx hb dX8_feed_73 ?_
                    refine lv_lushr hx hb dX8_feed_74 (v := (v.toUInt64 >>> ((8 * (nI i)).toInt64.toUInt64 &&& Int64.toUInt64 63)).toInt64) rfl ?_
                    refine lv_l2i hx hb dX8_feed_75 (v := ((v.toUInt64 >>> ((8 * (nI i)).toInt64.toUInt64 &&& Int64.toUInt64 63)).toInt64).toInt32) rfl ?_
                    refine lv_sipush (v := 255) hx hb dX8_feed_76 (by decide) ?_
                    refine lv_iand hx hb dX8_feed_79 ?_
                    refine jn_v (wr := [(cd, .inr (8, [.ref rq, .ref wt, .ref wq, .ref mi, .ref mo, .ref ft, .ref ot, .ref gt, .ref rd, .ref tq, .ref wr, .ref s1, .ref s2, .int t0, .int t1, .int t2, .int t3])), (rq, .inl (cR, 4, .inr (.inr (.inr (.inr (rqF r0 r1 r2 r3)))))), (r0, .inr (4, [.ref o0, .int (nI n0), .int 0])), (o0, .inl (cI, 4000, .inl f0)), (r1, .inr (4, [.ref o1, .int (nI n1), .int 0])), (o1, .inl (cI, 4000, .inl f1)), (r3, .inr (4, [.ref o3, .int (nI n3), .int 0])), (o3, .inl (cI, 8000, .inl f3))]) hA hP hD hS [6, 7] [0, 1, 2, 3, 4, 5, 8, 9] rfl rfl (by decide) (by decide) (rn_V (As := [.int (ocV v i)]) (rest := []) ⟨hx, hb, hml, hown, hts⟩ (cvV 1 hts zc_yX4_put zi_X4 zm_yX4_put zv_yX4_put kX8_89 (by decide +kernel) rfl rfl ⟨Nat.le_of_ble_eq_true rfl, Nat.le_of_ble_eq_true rfl⟩) (c_Row_put l D cI cB cJ cR r2 o2 8000 n7 f7 v7 Lc (ocV v i) (by decide) (hr7) H.size) hK hNw hMk hA hP hD hS [6, 7] rfl rfl (by decide) 0 rfl rfl rfl rfl hl.1 rfl (Nat.le_of_ble_eq_true rfl) dX8_feed_80 ⟨Nat.le_of_ble_eq_true rfl, Nat.le_of_ble_eq_true rfl⟩) (fun u9 H locs hpu hP hD hS => ?_)
                    obtain ⟨n8, f8, v8⟩ := u9
                    try dsimp only at hpu
                    have hP : va_P D vwCl [(cd, .inr (8, [.ref rq, .ref wt, .ref wq, .ref mi, .ref mo, .ref ft, .ref ot, .ref gt, .ref rd, .ref tq, .ref wr, .ref s1, .ref s2, .int t0, .int t1, .int t2, .int t3])), (rq, .inl (cR, 4, .inr (.inr (.inr (.inr (rqF r0 r1 r2 r3)))))), (r0, .inr (4, [.ref o0, .int (nI n0), .int 0])), (o0, .inl (cI, 4000, .inl f0)), (r1, .inr (4, [.ref o1, .int (nI n1), .int 0])), (o1, .inl (cI, 4000, .inl f1)), (r3, .inr (4, [.ref o3, .int (nI n3), .int 0])), (o3, .inl (cI, 8000, .inl f3)), (r2, .inr (4, [.ref o2, .int (nI n8), .int v8])), (o2, .inl (cI, 8000, .inl f8))] H := hP
                    have hD : va_D A0 [(cd, .inr (8, [.ref rq, .ref wt, .ref wq, .ref mi, .ref mo, .ref ft, .ref ot, .ref gt, .ref rd, .ref tq, .ref wr, .ref s1, .ref s2, .int t0, .int t1, .int t2, .int t3])), (rq, .inl (cR, 4, .inr (.inr (.inr (.inr (rqF r0 r1 r2 r3)))))), (r0, .inr (4, [.ref o0, .int (nI n0), .int 0])), (o0, .inl (cI, 4000, .inl f0)), (r1, .inr (4, [.ref o1, .int (nI n1), .int 0])), (o1, .inl (cI, 4000, .inl f1)), (r3, .inr (4, [.ref o3, .int (nI n3), .int 0])), (o3, .inl (cI, 8000, .inl f3)), (r2, .inr (4, [.ref o2, .int (nI n8), .int v8])), (o2, .inl (cI, 8000, .inl f8))] := hD
                    refine lv_iinc (v := (nI i) + (-1)) (lv' := [(6, .int ((nI i) + (-1))), (0, .ref cd), (1, .int (nI 2)), (2, .long v), (4, .int (nI m)), (5, .ref r2)]) hx hb dX8_feed_83 hl (k := 5) rfl (rfl) (by decide) rfl (fun ls hl => ?_)
                    refine lv_goto (tgt := 61) hx hb dX8_feed_86 (by decide) ?_
                    rw [show nI i + (-1) = nI i - 1 from (Int32.sub_eq_add_neg ..).symm] at hl
                    exact ih i (Lc ++ [ocV v i]) n8 f8 v8 _ _ ls (by omega) (by omega) (by rw [← hLc, fdL, List.append_assoc]; rfl) (hpu) (hP.sub [0, 1, 2, 3, 4, 5, 8, 9, 6, 7] rfl) (hD.sub [0, 1, 2, 3, 4, 5, 8, 9, 6, 7] (by decide) rfl) hS (lv_sub hl [1, 2, 3, 4, 5, 0] rfl)
              exact loop _ m (RL 2) n2 f2 0 _ _ ls (Nat.lt_succ_self _) (Nat.le_refl _) (rfl) (hr2) (hP.sub [0, 1, 2, 3, 4, 5, 8, 9, 6, 7] rfl) (hD.sub [0, 1, 2, 3, 4, 5, 8, 9, 6, 7] (by decide) rfl) hS (lv_sub hl [2, 3, 4, 5, 1, 0] rfl)
            · have hf9 : 8000 < (RL 2).length + m := by have := Nat.not_le.mp (fun q => c_17 (nI_le q (by omega))); omega
              rw [if_pos (show rmN 2 < (RL 2).length + m from hf9)] at hfp
              refine lv_bipush (v := -4) hx hb dX8_feed_52 (by decide) ?_
              have hP := hP.sub (ws' := [(cd, .inr (8, [.ref rq, .ref wt, .ref wq, .ref mi, .ref mo, .ref ft, .ref ot, .ref gt, .ref rd, .ref tq, .ref wr, .ref s1, .ref s2, .int t0, .int t1, .int t2, .int t3])), (rq, .inl (cR, 4, .inr (.inr (.inr (.inr (rqF r0 r1 r2 r3)))))), (r0, .inr (4, [.ref o0, .int (nI n0), .int 0])), (o0, .inl (cI, 4000, .inl f0)), (r1, .inr (4, [.ref o1, .int (nI n1), .int 0])), (o1, .inl (cI, 4000, .inl f1)), (r2, .inr (4, [.ref o2, .int (nI n2), .int 0])), (o2, .inl (cI, 8000, .inl f2)), (r3, .inr (4, [.ref o3, .int (nI n3), .int 0])), (o3, .inl (cI, 8000, .inl f3))]) [0, 1, 2, 3, 4, 5, 8, 9, 6, 7] rfl
              have hD := hD.sub (ws' := [(cd, .inr (8, [.ref rq, .ref wt, .ref wq, .ref mi, .ref mo, .ref ft, .ref ot, .ref gt, .ref rd, .ref tq, .ref wr, .ref s1, .ref s2, .int t0, .int t1, .int t2, .int t3])), (rq, .inl (cR, 4, .inr (.inr (.inr (.inr (rqF r0 r1 r2 r3)))))), (r0, .inr (4, [.ref o0, .int (nI n0), .int 0])), (o0, .inl (cI, 4000, .inl f0)), (r1, .inr (4, [.ref o1, .int (nI n1), .int 0])), (o1, .inl (cI, 4000, .inl f1)), (r2, .inr (4, [.ref o2, .int (nI n2), .int 0])), (o2, .inl (cI, 8000, .inl f2)), (r3, .inr (4, [.ref o3, .int (nI n3), .int 0])), (o3, .inl (cI, 8000, .inl f3))]) [0, 1, 2, 3, 4, 5, 8, 9, 6, 7] (by decide) rfl
              exact hret 54 ls _ _ _ (n0, f0, n1, f1, n2, f2, n3, f3, RL) dX8_feed_54 hP hD hS (⟨hfp, hrw⟩)
          · have hm0 : m = 0 := Decidable.byContradiction (fun z => nI_ne0 (Nat.pos_of_ne_zero z) (by omega) c_16)
            rw [if_pos hm0] at hfp
            refine lv_aload hx hb dX8_feed_35 (lv_at hl 0 rfl) ?_
            refine jn_v (wr := [(cd, .inr (8, [.ref rq, .ref wt, .ref wq, .ref mi, .ref mo, .ref ft, .ref ot, .ref gt, .ref rd, .ref tq, .ref wr, .ref s1, .ref s2, .int t0, .int t1, .int t2, .int t3])), (rq, .inl (cR, 4, .inr (.inr (.inr (.inr (rqF r0 r1 r2 r3)))))), (r0, .inr (4, [.ref o0, .int (nI n0), .int 0])), (o0, .inl (cI, 4000, .inl f0)), (r1, .inr (4, [.ref o1, .int (nI n1), .int 0])), (o1, .inl (cI, 4000, .inl f1)), (r3, .inr (4, [.ref o3, .int (nI n3), .int 0])), (o3, .inl (cI, 8000, .inl f3))]) hA hP hD hS [6, 7] [0, 1, 2, 3, 4, 5, 8, 9] rfl rfl (by decide) (by decide) (rn_V (As := []) (rest := []) ⟨hx, hb, hml, hown, hts⟩ (cvV 0 hts zc_yX4_makeEmpty zi_X4 zm_yX4_makeEmpty zv_yX4_makeEmpty kX8_82 (by decide +kernel) rfl rfl ⟨Nat.le_of_ble_eq_true rfl, Nat.le_of_ble_eq_true rfl⟩) (c_Row_makeEmpty l D cI cB cJ cR r2 o2 8000 n2 f2 0  H.size) hK hNw hMk hA hP hD hS [6, 7] rfl rfl (by decide) 0 rfl rfl rfl rfl hl.1 rfl (Nat.le_of_ble_eq_true rfl) dX8_feed_37 ⟨Nat.le_of_ble_eq_true rfl, Nat.le_of_ble_eq_true rfl⟩) (fun u9 H locs w_21 hP hD hS => ?_)
            try dsimp only at w_21
            have hP : va_P D vwCl [(cd, .inr (8, [.ref rq, .ref wt, .ref wq, .ref mi, .ref mo, .ref ft, .ref ot, .ref gt, .ref rd, .ref tq, .ref wr, .ref s1, .ref s2, .int t0, .int t1, .int t2, .int t3])), (rq, .inl (cR, 4, .inr (.inr (.inr (.inr (rqF r0 r1 r2 r3)))))), (r0, .inr (4, [.ref o0, .int (nI n0), .int 0])), (o0, .inl (cI, 4000, .inl f0)), (r1, .inr (4, [.ref o1, .int (nI n1), .int 0])), (o1, .inl (cI, 4000, .inl f1)), (r3, .inr (4, [.ref o3, .int (nI n3), .int 0])), (o3, .inl (cI, 8000, .inl f3)), (r2, .inr (4, [.ref o2, .int (nI 0), .int 0])), (o2, .inl (cI, 8000, .inl f2))] H := hP
            have hD : va_D A0 [(cd, .inr (8, [.ref rq, .ref wt, .ref wq, .ref mi, .ref mo, .ref ft, .ref ot, .ref gt, .ref rd, .ref tq, .ref wr, .ref s1, .ref s2, .int t0, .int t1, .int t2, .int t3])), (rq, .inl (cR, 4, .inr (.inr (.inr (.inr (rqF r0 r1 r2 r3)))))), (r0, .inr (4, [.ref o0, .int (nI n0), .int 0])), (o0, .inl (cI, 4000, .inl f0)), (r1, .inr (4, [.ref o1, .int (nI n1), .int 0])), (o1, .inl (cI, 4000, .inl f1)), (r3, .inr (4, [.ref o3, .int (nI n3), .int 0])), (o3, .inl (cI, 8000, .inl f3)), (r2, .inr (4, [.ref o2, .int (nI 0), .int 0])), (o2, .inl (cI, 8000, .inl f2))] := hD
            refine lv_iconst (v := 0) hx hb dX8_feed_40 (by decide) ?_
            have hP := hP.sub (ws' := [(cd, .inr (8, [.ref rq, .ref wt, .ref wq, .ref mi, .ref mo, .ref ft, .ref ot, .ref gt, .ref rd, .ref tq, .ref wr, .ref s1, .ref s2, .int t0, .int t1, .int t2, .int t3])), (rq, .inl (cR, 4, .inr (.inr (.inr (.inr (rqF r0 r1 r2 r3)))))), (r0, .inr (4, [.ref o0, .int (nI n0), .int 0])), (o0, .inl (cI, 4000, .inl f0)), (r1, .inr (4, [.ref o1, .int (nI n1), .int 0])), (o1, .inl (cI, 4000, .inl f1)), (r2, .inr (4, [.ref o2, .int (nI 0), .int 0])), (o2, .inl (cI, 8000, .inl f2)), (r3, .inr (4, [.ref o3, .int (nI n3), .int 0])), (o3, .inl (cI, 8000, .inl f3))]) [0, 1, 2, 3, 4, 5, 8, 9, 6, 7] rfl
            have hD := hD.sub (ws' := [(cd, .inr (8, [.ref rq, .ref wt, .ref wq, .ref mi, .ref mo, .ref ft, .ref ot, .ref gt, .ref rd, .ref tq, .ref wr, .ref s1, .ref s2, .int t0, .int t1, .int t2, .int t3])), (rq, .inl (cR, 4, .inr (.inr (.inr (.inr (rqF r0 r1 r2 r3)))))), (r0, .inr (4, [.ref o0, .int (nI n0), .int 0])), (o0, .inl (cI, 4000, .inl f0)), (r1, .inr (4, [.ref o1, .int (nI n1), .int 0])), (o1, .inl (cI, 4000, .inl f1)), (r2, .inr (4, [.ref o2, .int (nI 0), .int 0])), (o2, .inl (cI, 8000, .inl f2)), (r3, .inr (4, [.ref o3, .int (nI n3), .int 0])), (o3, .inl (cI, 8000, .inl f3))]) [0, 1, 2, 3, 4, 5, 8, 9, 6, 7] (by decide) rfl
            exact hret 41 ls _ _ _ (n0, f0, n1, f1, 0, f2, n3, f3, va_up RL 2 ([])) dX8_feed_41 hP hD hS (⟨hfp, rwOk_2 hrw row_nil (Nat.zero_le _)⟩)
        · have hnk := rw_n3 hrw
          obtain ⟨hr0, hr1, hr2, hr3, hl0, hl1, hl2, hl3⟩ := id hrw
          rw [hx3] at hl
          have hfp := feedP_in (k := 3) (v := v) (RL := RL) (by decide) hm8
          rw [← hx3, ← hnm9] at hfp
          refine lv_aload_n hx hb dX8_feed_22 rfl (lv_at hl 0 rfl) ?_
          refine va_get (D := D) (ci := 8) (v := .ref rq) (C := RX8) (T := TX8) (N := 17) hx hb hts in_X8 hown hK hP 0 rfl rfl 0 (by decide) (hts _ kX8_11) (fun _ h9 => h9) rfl dX8_feed_23 ?_
          refine lv_iload_n hx hb dX8_feed_26 rfl (lv_at hl 1 rfl) ?_
          refine ax_rld hx hb hK hP 1 3 rfl rfl 3 (rfl) (by decide) (by decide) rfl dX8_feed_27 ?_
          refine lv_astore (lv' := [(5, .ref r3), (0, .ref cd), (1, .int (nI 3)), (2, .long v), (4, .int (nI m))]) hx hb dX8_feed_28 hl (by decide) rfl (fun ls hl => ?_)
          refine lv_iload hx hb dX8_feed_30 (lv_at hl 4 rfl) ?_
          refine lv_if_ne (tgt := 42) hx hb dX8_feed_32 (by decide) (fun c_22 => ?_) (fun c_22 => ?_)
          · have hm0 : ¬ m = 0 := fun z => c_22 (by rw [z]; decide)
            rw [if_neg hm0] at hfp
            refine lv_iload hx hb dX8_feed_42 (lv_at hl 4 rfl) ?_
            refine lv_aload hx hb dX8_feed_44 (lv_at hl 0 rfl) ?_
            refine jn_i (wr := [(cd, .inr (8, [.ref rq, .ref wt, .ref wq, .ref mi, .ref mo, .ref ft, .ref ot, .ref gt, .ref rd, .ref tq, .ref wr, .ref s1, .ref s2, .int t0, .int t1, .int t2, .int t3])), (rq, .inl (cR, 4, .inr (.inr (.inr (.inr (rqF r0 r1 r2 r3)))))), (r0, .inr (4, [.ref o0, .int (nI n0), .int 0])), (o0, .inl (cI, 4000, .inl f0)), (r1, .inr (4, [.ref o1, .int (nI n1), .int 0])), (o1, .inl (cI, 4000, .inl f1)), (r2, .inr (4, [.ref o2, .int (nI n2), .int 0])), (o2, .inl (cI, 8000, .inl f2))]) hA hP hD hS [8, 9] [0, 1, 2, 3, 4, 5, 6, 7] rfl rfl (by decide) (by decide) (rn_V (As := []) (rest := [.int (nI m)]) ⟨hx, hb, hml, hown, hts⟩ (cvV 0 hts zc_yX4_room zi_X4 zm_yX4_room zv_yX4_room kX8_85 (by decide +kernel) rfl rfl ⟨Nat.le_of_ble_eq_true rfl, Nat.le_of_ble_eq_true rfl⟩) (c_Row_room l D cI cB cJ cR r3 o3 8000 n3 f3 0 (by decide) (hnk.2) H.size) hK hNw hMk hA hP hD hS [8, 9] rfl rfl (by decide) 0 rfl rfl rfl rfl hl.1 rfl (Nat.le_of_ble_eq_true rfl) dX8_feed_46 ⟨Nat.le_of_ble_eq_true rfl, Nat.le_of_ble_eq_true rfl⟩) (fun rm u9 H locs hrm hP hD hS => ?_)
            try dsimp only at hrm
            have hP : va_P D vwCl [(cd, .inr (8, [.ref rq, .ref wt, .ref wq, .ref mi, .ref mo, .ref ft, .ref ot, .ref gt, .ref rd, .ref tq, .ref wr, .ref s1, .ref s2, .int t0, .int t1, .int t2, .int t3])), (rq, .inl (cR, 4, .inr (.inr (.inr (.inr (rqF r0 r1 r2 r3)))))), (r0, .inr (4, [.ref o0, .int (nI n0), .int 0])), (o0, .inl (cI, 4000, .inl f0)), (r1, .inr (4, [.ref o1, .int (nI n1), .int 0])), (o1, .inl (cI, 4000, .inl f1)), (r2, .inr (4, [.ref o2, .int (nI n2), .int 0])), (o2, .inl (cI, 8000, .inl f2)), (r3, .inr (4, [.ref o3, .int (nI n3), .int 0])), (o3, .inl (cI, 8000, .inl f3))] H := hP
            have hD : va_D A0 [(cd, .inr (8, [.ref rq, .ref wt, .ref wq, .ref mi, .ref mo, .ref ft, .ref ot, .ref gt, .ref rd, .ref tq, .ref wr, .ref s1, .ref s2, .int t0, .int t1, .int t2, .int t3])), (rq, .inl (cR, 4, .inr (.inr (.inr (.inr (rqF r0 r1 r2 r3)))))), (r0, .inr (4, [.ref o0, .int (nI n0), .int 0])), (o0, .inl (cI, 4000, .inl f0)), (r1, .inr (4, [.ref o1, .int (nI n1), .int 0])), (o1, .inl (cI, 4000, .inl f1)), (r2, .inr (4, [.ref o2, .int (nI n2), .int 0])), (o2, .inl (cI, 8000, .inl f2)), (r3, .inr (4, [.ref o3, .int (nI n3), .int 0])), (o3, .inl (cI, 8000, .inl f3))] := hD
            subst hrm
            refine lv_icmp_le (tgt := 55) hx hb dX8_feed_49 (by decide) (fun c_23 => ?_) (fun c_23 => ?_)
            · have hf9 : ¬ 8000 < (RL 3).length + m := by have := (nI_leI (by omega) (by omega)).mp c_23; omega
              rw [if_neg (show ¬ rmN 3 < (RL 3).length + m from hf9)] at hfp
              refine lv_iload hx hb dX8_feed_55 (lv_at hl 4 rfl) ?_
              refine lv_iconst (v := 1) hx hb dX8_feed_57 (by decide) ?_
              refine lv_isub hx hb dX8_feed_58 ?_
              refine lv_istore (lv' := [(6, .int ((nI m) - 1)), (5, .ref r3), (0, .ref cd), (1, .int (nI 3)), (2, .long v), (4, .int (nI m))]) hx hb dX8_feed_59 hl (by decide) rfl (fun ls hl => ?_)
              have loop : ∀ (k9 : Nat) (j : Nat) (Lc : List Int32) (n7 : Nat) (f7 : Nat → Int32) (v7 : Int32) (H : Heap) (locs : List Loc) (ls : Array Slot), j < k9 → (j ≤ m) → (Lc ++ fdL v j = RL 3 ++ fdL v m) → (rowIs 8000 Lc n7 f7 v7) → va_P D vwCl [(cd, .inr (8, [.ref rq, .ref wt, .ref wq, .ref mi, .ref mo, .ref ft, .ref ot, .ref gt, .ref rd, .ref tq, .ref wr, .ref s1, .ref s2, .int t0, .int t1, .int t2, .int t3])), (rq, .inl (cR, 4, .inr (.inr (.inr (.inr (rqF r0 r1 r2 r3)))))), (r0, .inr (4, [.ref o0, .int (nI n0), .int 0])), (o0, .inl (cI, 4000, .inl f0)), (r1, .inr (4, [.ref o1, .int (nI n1), .int 0])), (o1, .inl (cI, 4000, .inl f1)), (r2, .inr (4, [.ref o2, .int (nI n2), .int 0])), (o2, .inl (cI, 8000, .inl f2)), (r3, .inr (4, [.ref o3, .int (nI n7), .int v7])), (o3, .inl (cI, 8000, .inl f7))] H → va_D A0 [(cd, .inr (8, [.ref rq, .ref wt, .ref wq, .ref mi, .ref mo, .ref ft, .ref ot, .ref gt, .ref rd, .ref tq, .ref wr, .ref s1, .ref s2, .int t0, .int t1, .int t2, .int t3])), (rq, .inl (cR, 4, .inr (.inr (.inr (.inr (rqF r0 r1 r2 r3)))))), (r0, .inr (4, [.ref o0, .int (nI n0), .int 0])), (o0, .inl (cI, 4000, .inl f0)), (r1, .inr (4, [.ref o1, .int (nI n1), .int 0])), (o1, .inl (cI, 4000, .inl f1)), (r2, .inr (4, [.ref o2, .int (nI n2), .int 0])), (o2, .inl (cI, 8000, .inl f2)), (r3, .inr (4, [.ref o3, .int (nI n7), .int v7])), (o3, .inl (cI, 8000, .inl f7))] → va_S A0 s0.heap H locs → lv_has ls 7 [(0, .ref cd), (1, .int (nI 3)), (2, .long v), (4, .int (nI m)), (5, .ref r3), (6, .int (nI j - 1))] → W p0 l e0 ({ frames := 1, cells := 0, slots := 0, locals := 21 }) s0 m0 ([.ref cd, .int x, .long v, .int n] : List Value).toArray below meth c0 H locs 0 0 Q0 (F0 m0 61 ls []) := by
                intro k9
                induction k9 with
                | zero => intro j Lc n7 f7 v7 H locs ls hk9; exact absurd hk9 (Nat.not_lt_zero _)
                | succ k9 ih =>
                  intro j Lc n7 f7 v7 H locs ls hk9 hjm hLc hr7 hP hD hS hl
                  refine lv_iload hx hb dX8_feed_61 (lv_at hl 5 rfl) ?_
                  refine lv_if_lt (tgt := 89) hx hb dX8_feed_63 (by decide) (fun c_24 => ?_) (fun c_24 => ?_)
                  · have hj0 : j = 0 := Decidable.byContradiction (fun z => by rw [show (1 : Int32) = nI 1 from rfl, pk_sub (by omega)] at c_24; exact nI_pos (by omega) c_24)
                    rw [hj0, fdL, List.append_nil] at hLc
                    subst hLc
                    have hlen : (RL 3 ++ fdL v m).length = (RL 3).length + m := by rw [List.length_append, fdL_len]
                    obtain ⟨w1, w2⟩ := row_len hr7 (by omega)
                    rw [hlen] at w1
                    subst w1
                    subst w2
                    refine lv_aload hx hb dX8_feed_89 (lv_at hl 4 rfl) ?_
                    refine va_get (D := D) (ci := 4) (v := .int (nI ((RL 3).length + m))) (C := RX4) (T := TX4) (N := 3) hx hb hts in_X4 hown hK hP 8 rfl rfl 1 (by decide) (hts _ kX8_92) (fun _ h9 => h9) rfl dX8_feed_91 ?_
                    exact hret 94 ls _ _ _ (n0, f0, n1, f1, n2, f2, (RL 3).length + m, f7, va_up RL 3 (RL 3 ++ fdL v m)) dX8_feed_94 hP hD hS (⟨hfp, rwOk_3 hrw hr7 (by omega)⟩)
                  · obtain ⟨i, hji⟩ : ∃ i, j = i + 1 := ⟨j - 1, by have : ¬ j = 0 := fun z => c_24 (by rw [z]; decide); omega⟩
                    subst hji
                    rw [show nI (i + 1) - 1 = nI i from pk_sub (a := i + 1) (b := 1) (by omega)] at hl
                    refine lv_aload hx hb dX8_feed_66 (lv_at hl 4 rfl) ?_
                    refine lv_lload_n hx hb dX8_feed_68 rfl (lv_at hl 2 rfl) ?_
                    refine lv_bipush (v := 8) hx hb dX8_feed_69 (by decide) ?_
                    refine lv_iload hx hb dX8_feed_71 (lv_at hl 5 rfl) ?_
                    refine lv_imul hx hb dX8_feed_73 ?_
                    refine lv_lushr hx hb dX8_feed_74 (v := (v.toUInt64 >>> ((8 * (nI i)).toInt64.toUInt64 &&& Int64.toUInt64 63)).toInt64) rfl ?_
                    refine lv_l2i hx hb dX8_feed_75 (v := ((v.toUInt64 >>> ((8 * (nI i)).toInt64.toUInt64 &&& Int64.toUInt64 63)).toInt64).toInt32) rfl ?_
                    refine lv_sipush (v := 255) hx hb dX8_feed_76 (by decide) ?_
                    refine lv_iand hx hb dX8_feed_79 ?_
                    refine jn_v (wr := [(cd, .inr (8, [.ref rq, .ref wt, .ref wq, .ref mi, .ref mo, .ref ft, .ref ot, .ref gt, .ref rd, .ref tq, .ref wr, .ref s1, .ref s2, .int t0, .int t1, .int t2, .int t3])), (rq, .inl (cR, 4, .inr (.inr (.inr (.inr (rqF r0 r1 r2 r3)))))), (r0, .inr (4, [.ref o0, .int (nI n0), .int 0])), (o0, .inl (cI, 4000, .inl f0)), (r1, .inr (4, [.ref o1, .int (nI n1), .int 0])), (o1, .inl (cI, 4000, .inl f1)), (r2, .inr (4, [.ref o2, .int (nI n2), .int 0])), (o2, .inl (cI, 8000, .inl f2))]) hA hP hD hS [8, 9] [0, 1, 2, 3, 4, 5, 6, 7] rfl rfl (by decide) (by decide) (rn_V (As := [.int (ocV v i)]) (rest := []) ⟨hx, hb, hml, hown, hts⟩ (cvV 1 hts zc_yX4_put zi_X4 zm_yX4_put zv_yX4_put kX8_89 (by decide +kernel) rfl rfl ⟨Nat.le_of_ble_eq_true rfl, Nat.le_of_ble_eq_true rfl⟩) (c_Row_put l D cI cB cJ cR r3 o3 8000 n7 f7 v7 Lc (ocV v i) (by decide) (hr7) H.size) hK hNw hMk hA hP hD hS [8, 9] rfl rfl (by decide) 0 rfl rfl rfl rfl hl.1 rfl (Nat.le_of_ble_eq_true rfl) dX8_feed_80 ⟨Nat.le_of_ble_eq_true rfl, Nat.le_of_ble_eq_true rfl⟩) (fun u9 H locs hpu hP hD hS => ?_)
                    obtain ⟨n8, f8, v8⟩ := u9
                    try dsimp only at hpu
                    have hP : va_P D vwCl [(cd, .inr (8, [.ref rq, .ref wt, .ref wq, .ref mi, .ref mo, .ref ft, .ref ot, .ref gt, .ref rd, .ref tq, .ref wr, .ref s1, .ref s2, .int t0, .int t1, .int t2, .int t3])), (rq, .inl (cR, 4, .inr (.inr (.inr (.inr (rqF r0 r1 r2 r3)))))), (r0, .inr (4, [.ref o0, .int (nI n0), .int 0])), (o0, .inl (cI, 4000, .inl f0)), (r1, .inr (4, [.ref o1, .int (nI n1), .int 0])), (o1, .inl (cI, 4000, .inl f1)), (r2, .inr (4, [.ref o2, .int (nI n2), .int 0])), (o2, .inl (cI, 8000, .inl f2)), (r3, .inr (4, [.ref o3, .int (nI n8), .int v8])), (o3, .inl (cI, 8000, .inl f8))] H := hP
                    have hD : va_D A0 [(cd, .inr (8, [.ref rq, .ref wt, .ref wq, .ref mi, .ref mo, .ref ft, .ref ot, .ref gt, .ref rd, .ref tq, .ref wr, .ref s1, .ref s2, .int t0, .int t1, .int t2, .int t3])), (rq, .inl (cR, 4, .inr (.inr (.inr (.inr (rqF r0 r1 r2 r3)))))), (r0, .inr (4, [.ref o0, .int (nI n0), .int 0])), (o0, .inl (cI, 4000, .inl f0)), (r1, .inr (4, [.ref o1, .int (nI n1), .int 0])), (o1, .inl (cI, 4000, .inl f1)), (r2, .inr (4, [.ref o2, .int (nI n2), .int 0])), (o2, .inl (cI, 8000, .inl f2)), (r3, .inr (4, [.ref o3, .int (nI n8), .int v8])), (o3, .inl (cI, 8000, .inl f8))] := hD
                    refine lv_iinc (v := (nI i) + (-1)) (lv' := [(6, .int ((nI i) + (-1))), (0, .ref cd), (1, .int (nI 3)), (2, .long v), (4, .int (nI m)), (5, .ref r3)]) hx hb dX8_feed_83 hl (k := 5) rfl (rfl) (by decide) rfl (fun ls hl => ?_)
                    refine lv_goto (tgt := 61) hx hb dX8_feed_86 (by decide) ?_
                    rw [show nI i + (-1) = nI i - 1 from (Int32.sub_eq_add_neg ..).symm] at hl
                    exact ih i (Lc ++ [ocV v i]) n8 f8 v8 _ _ ls (by omega) (by omega) (by rw [← hLc, fdL, List.append_assoc]; rfl) (hpu) hP hD hS (lv_sub hl [1, 2, 3, 4, 5, 0] rfl)
              exact loop _ m (RL 3) n3 f3 0 _ _ ls (Nat.lt_succ_self _) (Nat.le_refl _) (rfl) (hr3) hP hD hS (lv_sub hl [2, 3, 4, 5, 1, 0] rfl)
            · have hf9 : 8000 < (RL 3).length + m := by have := Nat.not_le.mp (fun q => c_23 (nI_le q (by omega))); omega
              rw [if_pos (show rmN 3 < (RL 3).length + m from hf9)] at hfp
              refine lv_bipush (v := -4) hx hb dX8_feed_52 (by decide) ?_
              exact hret 54 ls _ _ _ (n0, f0, n1, f1, n2, f2, n3, f3, RL) dX8_feed_54 hP hD hS (⟨hfp, hrw⟩)
          · have hm0 : m = 0 := Decidable.byContradiction (fun z => nI_ne0 (Nat.pos_of_ne_zero z) (by omega) c_22)
            rw [if_pos hm0] at hfp
            refine lv_aload hx hb dX8_feed_35 (lv_at hl 0 rfl) ?_
            refine jn_v (wr := [(cd, .inr (8, [.ref rq, .ref wt, .ref wq, .ref mi, .ref mo, .ref ft, .ref ot, .ref gt, .ref rd, .ref tq, .ref wr, .ref s1, .ref s2, .int t0, .int t1, .int t2, .int t3])), (rq, .inl (cR, 4, .inr (.inr (.inr (.inr (rqF r0 r1 r2 r3)))))), (r0, .inr (4, [.ref o0, .int (nI n0), .int 0])), (o0, .inl (cI, 4000, .inl f0)), (r1, .inr (4, [.ref o1, .int (nI n1), .int 0])), (o1, .inl (cI, 4000, .inl f1)), (r2, .inr (4, [.ref o2, .int (nI n2), .int 0])), (o2, .inl (cI, 8000, .inl f2))]) hA hP hD hS [8, 9] [0, 1, 2, 3, 4, 5, 6, 7] rfl rfl (by decide) (by decide) (rn_V (As := []) (rest := []) ⟨hx, hb, hml, hown, hts⟩ (cvV 0 hts zc_yX4_makeEmpty zi_X4 zm_yX4_makeEmpty zv_yX4_makeEmpty kX8_82 (by decide +kernel) rfl rfl ⟨Nat.le_of_ble_eq_true rfl, Nat.le_of_ble_eq_true rfl⟩) (c_Row_makeEmpty l D cI cB cJ cR r3 o3 8000 n3 f3 0  H.size) hK hNw hMk hA hP hD hS [8, 9] rfl rfl (by decide) 0 rfl rfl rfl rfl hl.1 rfl (Nat.le_of_ble_eq_true rfl) dX8_feed_37 ⟨Nat.le_of_ble_eq_true rfl, Nat.le_of_ble_eq_true rfl⟩) (fun u9 H locs w_27 hP hD hS => ?_)
            try dsimp only at w_27
            have hP : va_P D vwCl [(cd, .inr (8, [.ref rq, .ref wt, .ref wq, .ref mi, .ref mo, .ref ft, .ref ot, .ref gt, .ref rd, .ref tq, .ref wr, .ref s1, .ref s2, .int t0, .int t1, .int t2, .int t3])), (rq, .inl (cR, 4, .inr (.inr (.inr (.inr (rqF r0 r1 r2 r3)))))), (r0, .inr (4, [.ref o0, .int (nI n0), .int 0])), (o0, .inl (cI, 4000, .inl f0)), (r1, .inr (4, [.ref o1, .int (nI n1), .int 0])), (o1, .inl (cI, 4000, .inl f1)), (r2, .inr (4, [.ref o2, .int (nI n2), .int 0])), (o2, .inl (cI, 8000, .inl f2)), (r3, .inr (4, [.ref o3, .int (nI 0), .int 0])), (o3, .inl (cI, 8000, .inl f3))] H := hP
            have hD : va_D A0 [(cd, .inr (8, [.ref rq, .ref wt, .ref wq, .ref mi, .ref mo, .ref ft, .ref ot, .ref gt, .ref rd, .ref tq, .ref wr, .ref s1, .ref s2, .int t0, .int t1, .int t2, .int t3])), (rq, .inl (cR, 4, .inr (.inr (.inr (.inr (rqF r0 r1 r2 r3)))))), (r0, .inr (4, [.ref o0, .int (nI n0), .int 0])), (o0, .inl (cI, 4000, .inl f0)), (r1, .inr (4, [.ref o1, .int (nI n1), .int 0])), (o1, .inl (cI, 4000, .inl f1)), (r2, .inr (4, [.ref o2, .int (nI n2), .int 0])), (o2, .inl (cI, 8000, .inl f2)), (r3, .inr (4, [.ref o3, .int (nI 0), .int 0])), (o3, .inl (cI, 8000, .inl f3))] := hD
            refine lv_iconst (v := 0) hx hb dX8_feed_40 (by decide) ?_
            exact hret 41 ls _ _ _ (n0, f0, n1, f1, n2, f2, 0, f3, va_up RL 3 ([])) dX8_feed_41 hP hD hS (⟨hfp, rwOk_3 hrw row_nil (Nat.zero_le _)⟩)
      · refine lv_bipush (v := -2) hx hb dX8_feed_19 (by decide) ?_
        exact hret 21 ls _ _ _ (n0, f0, n1, f1, n2, f2, n3, f3, RL) dX8_feed_21 hP hD hS (⟨by rw [feedP, if_pos (Or.inr (Or.inr c_3))], hrw⟩)

set_option maxHeartbeats 4000000 in
set_option maxRecDepth 100000 in
theorem c_ruled (l : Launch) (D : va_G) (cI cB cJ cR : ClassId) (h : Nat) (o : Nat) (N : Nat) (n : Nat) (f : Nat → Int32) (ov : Int32) (L : List Int32) (kd : Int32) (x : Int32) (hN : N < 2 ^ 24) (hr : rowIs N L n f ov) (hl9 : L.length ≤ N) : CMi l yX8_ruled cX8_ruled 4 (some .int) ({ frames := 1, cells := 0, slots := 0, locals := 21 }) D (tyA cI cB cJ cR) 0 0 [.ref h, .int kd, .int x] [(h, .inr (4, [.ref o, .int (nI n), .int ov])), (o, .inl (cI, N, .inl f))] (fun (r : Int32) (_ : Unit) => r = rulP L kd x) (fun (_ : Unit) => [(h, .inr (4, [.ref o, .int (nI n), .int ov])), (o, .inl (cI, N, .inl f))]) := by
  refine st_i (cc := cX8_ruled) (maxL := 4) (by decide) (Nat.le_of_ble_eq_true rfl) ?_
  intro p0 e0 s0 m0 below meth c0 A0 Q0 hBD hret hP hD hS ls hl
  obtain ⟨hx, hb, hml, hown, hts, hnm, hK, hNw, hMk, hA⟩ := hBD
  have hl : lv_has ls 4 [(0, .ref h), (1, .int kd), (2, .int x)] := hl
  have hP : va_P D vwCl [(h, .inr (4, [.ref o, .int (nI n), .int ov])), (o, .inl (cI, N, .inl f))] s0.heap := hP
  have hD : va_D A0 [(h, .inr (4, [.ref o, .int (nI n), .int ov])), (o, .inl (cI, N, .inl f))] := hD
  have hn9 := (row_len hr hl9).1
  refine lv_aload_n hx hb dX8_ruled_0 rfl (lv_at hl 0 rfl) ?_
  refine va_get (D := D) (ci := 4) (v := .int (nI n)) (C := RX4) (T := TX4) (N := 3) hx hb hts in_X4 hown hK hP 0 rfl rfl 1 (by decide) (hts _ kX8_92) (fun _ h9 => h9) rfl dX8_ruled_1 ?_
  refine lv_istore_n (lv' := [(3, .int (nI n)), (0, .ref h), (1, .int kd), (2, .int x)]) hx hb dX8_ruled_4 rfl hl (by decide) rfl (fun ls hl => ?_)
  refine lv_iload_n hx hb dX8_ruled_5 rfl (lv_at hl 2 rfl) ?_
  refine lv_iconst (v := 1) hx hb dX8_ruled_6 (by decide) ?_
  refine lv_icmp_ne (tgt := 17) hx hb dX8_ruled_7 (by decide) (fun c_1 => ?_) (fun c_1 => ?_)
  · refine lv_iload_n hx hb dX8_ruled_17 rfl (lv_at hl 2 rfl) ?_
    refine lv_iconst (v := 2) hx hb dX8_ruled_18 (by decide) ?_
    refine lv_icmp_ne (tgt := 44) hx hb dX8_ruled_19 (by decide) (fun c_2 => ?_) (fun c_2 => ?_)
    · refine lv_iload_n hx hb dX8_ruled_44 rfl (lv_at hl 2 rfl) ?_
      refine lv_iconst (v := 3) hx hb dX8_ruled_45 (by decide) ?_
      refine lv_icmp_ne (tgt := 69) hx hb dX8_ruled_46 (by decide) (fun c_3 => ?_) (fun c_3 => ?_)
      · refine lv_iload_n hx hb dX8_ruled_69 rfl (lv_at hl 3 rfl) ?_
        exact hret 70 ls _ _ _ () dX8_ruled_70 hP hD hS (by rw [rulP, if_neg (c_1), if_neg (fun z => c_2 z.1), if_neg (fun z => c_3 z.1)])
      · refine lv_iload_n hx hb dX8_ruled_49 rfl (lv_at hl 0 rfl) ?_
        refine lv_iconst (v := 1) hx hb dX8_ruled_50 (by decide) ?_
        refine lv_icmp_lt (tgt := 69) hx hb dX8_ruled_51 (by decide) (fun c_4 => ?_) (fun c_4 => ?_)
        · refine lv_iload_n hx hb dX8_ruled_69 rfl (lv_at hl 3 rfl) ?_
          exact hret 70 ls _ _ _ () dX8_ruled_70 hP hD hS (by rw [rulP, if_neg (c_1), if_neg (fun z => c_2 z.1), if_neg (fun z => absurd z.2.1 (Nat.not_le.mpr (by rw [← hn9]; exact (nI_ltI (b := 1) (by omega) (by decide)).mp c_4)))])
        · have hn1 : 1 ≤ n := Nat.not_lt.mp (fun z => c_4 (nI_lt (b := 1) z (by decide)))
          refine lv_iload_n hx hb dX8_ruled_54 rfl (lv_at hl 3 rfl) ?_
          refine lv_sipush (v := 230) hx hb dX8_ruled_55 (by decide) ?_
          refine lv_icmp_ge (tgt := 69) hx hb dX8_ruled_58 (by decide) (fun c_5 => ?_) (fun c_5 => ?_)
          · refine lv_iload_n hx hb dX8_ruled_69 rfl (lv_at hl 3 rfl) ?_
            exact hret 70 ls _ _ _ () dX8_ruled_70 hP hD hS (by rw [rulP, if_neg (c_1), if_neg (fun z => c_2 z.1), if_neg (fun z => absurd z.2.2 (Int32.not_lt.mpr c_5))])
          · refine lv_aload_n hx hb dX8_ruled_61 rfl (lv_at hl 1 rfl) ?_
            refine lv_iload_n hx hb dX8_ruled_62 rfl (lv_at hl 0 rfl) ?_
            refine lv_iconst (v := 1) hx hb dX8_ruled_63 (by decide) ?_
            refine lv_isub hx hb dX8_ruled_64 ?_
            refine ri (y := nI (n - 1)) (pk_sub (b := 1) hn1) ?_
            refine jn_i (wr := []) hA hP hD hS [0, 1] [] rfl rfl (by decide) (by decide) (rn_V (As := [.int (nI (n - 1))]) (rest := []) ⟨hx, hb, hml, hown, hts⟩ (cvV 1 hts zc_yX4_at zi_X4 zm_yX4_at zv_yX4_at kX8_102 (by decide +kernel) rfl rfl ⟨Nat.le_of_ble_eq_true rfl, Nat.le_of_ble_eq_true rfl⟩) (c_Row_at l D cI cB cJ cR h o N n f ov (nI (n - 1)) (by omega) (by omega) s0.heap.size) hK hNw hMk hA hP hD hS [0, 1] rfl rfl (by decide) 0 rfl rfl rfl rfl hl.1 rfl (Nat.le_of_ble_eq_true rfl) dX8_ruled_65 ⟨Nat.le_of_ble_eq_true rfl, Nat.le_of_ble_eq_true rfl⟩) (fun ra u9 H locs hra hP hD hS => ?_)
            try dsimp only at hra
            have hP : va_P D vwCl [(h, .inr (4, [.ref o, .int (nI n), .int ov])), (o, .inl (cI, N, .inl f))] H := hP
            have hD : va_D A0 [(h, .inr (4, [.ref o, .int (nI n), .int ov])), (o, .inl (cI, N, .inl f))] := hD
            rw [if_pos (inB_t (by omega) (by omega)), nI_clamp (by omega), hr.2.2 _ (by omega), hn9] at hra
            exact hret 68 ls _ _ _ () dX8_ruled_68 hP hD hS (by rw [rulP, if_neg (c_1), if_neg (fun z => c_2 z.1), if_pos ⟨c_3, by omega, Int32.not_le.mp c_5⟩]; exact hra)
    · refine lv_iload_n hx hb dX8_ruled_22 rfl (lv_at hl 0 rfl) ?_
      refine lv_bipush (v := 17) hx hb dX8_ruled_23 (by decide) ?_
      refine lv_icmp_lt (tgt := 44) hx hb dX8_ruled_25 (by decide) (fun c_6 => ?_) (fun c_6 => ?_)
      · refine lv_iload_n hx hb dX8_ruled_44 rfl (lv_at hl 2 rfl) ?_
        refine lv_iconst (v := 3) hx hb dX8_ruled_45 (by decide) ?_
        refine lv_icmp_ne (tgt := 69) hx hb dX8_ruled_46 (by decide) (fun c_7 => ?_) (fun c_7 => ?_)
        · refine lv_iload_n hx hb dX8_ruled_69 rfl (lv_at hl 3 rfl) ?_
          exact hret 70 ls _ _ _ () dX8_ruled_70 hP hD hS (by rw [rulP, if_neg (c_1), if_neg (fun z => absurd z.2.1 (Nat.not_le.mpr (by rw [← hn9]; exact (nI_ltI (b := 17) (by omega) (by decide)).mp c_6))), if_neg (fun z => c_7 z.1)])
        · refine lv_iload_n hx hb dX8_ruled_49 rfl (lv_at hl 0 rfl) ?_
          refine lv_iconst (v := 1) hx hb dX8_ruled_50 (by decide) ?_
          refine lv_icmp_lt (tgt := 69) hx hb dX8_ruled_51 (by decide) (fun c_8 => ?_) (fun c_8 => ?_)
          · refine lv_iload_n hx hb dX8_ruled_69 rfl (lv_at hl 3 rfl) ?_
            exact hret 70 ls _ _ _ () dX8_ruled_70 hP hD hS (by rw [rulP, if_neg (c_1), if_neg (fun z => absurd z.2.1 (Nat.not_le.mpr (by rw [← hn9]; exact (nI_ltI (b := 17) (by omega) (by decide)).mp c_6))), if_neg (fun z => absurd z.2.1 (Nat.not_le.mpr (by rw [← hn9]; exact (nI_ltI (b := 1) (by omega) (by decide)).mp c_8)))])
          · have hn1 : 1 ≤ n := Nat.not_lt.mp (fun z => c_8 (nI_lt (b := 1) z (by decide)))
            refine lv_iload_n hx hb dX8_ruled_54 rfl (lv_at hl 3 rfl) ?_
            refine lv_sipush (v := 230) hx hb dX8_ruled_55 (by decide) ?_
            refine lv_icmp_ge (tgt := 69) hx hb dX8_ruled_58 (by decide) (fun c_9 => ?_) (fun c_9 => ?_)
            · refine lv_iload_n hx hb dX8_ruled_69 rfl (lv_at hl 3 rfl) ?_
              exact hret 70 ls _ _ _ () dX8_ruled_70 hP hD hS (by rw [rulP, if_neg (c_1), if_neg (fun z => absurd z.2.1 (Nat.not_le.mpr (by rw [← hn9]; exact (nI_ltI (b := 17) (by omega) (by decide)).mp c_6))), if_neg (fun z => absurd z.2.2 (Int32.not_lt.mpr c_9))])
            · refine lv_aload_n hx hb dX8_ruled_61 rfl (lv_at hl 1 rfl) ?_
              refine lv_iload_n hx hb dX8_ruled_62 rfl (lv_at hl 0 rfl) ?_
              refine lv_iconst (v := 1) hx hb dX8_ruled_63 (by decide) ?_
              refine lv_isub hx hb dX8_ruled_64 ?_
              refine ri (y := nI (n - 1)) (pk_sub (b := 1) hn1) ?_
              refine jn_i (wr := []) hA hP hD hS [0, 1] [] rfl rfl (by decide) (by decide) (rn_V (As := [.int (nI (n - 1))]) (rest := []) ⟨hx, hb, hml, hown, hts⟩ (cvV 1 hts zc_yX4_at zi_X4 zm_yX4_at zv_yX4_at kX8_102 (by decide +kernel) rfl rfl ⟨Nat.le_of_ble_eq_true rfl, Nat.le_of_ble_eq_true rfl⟩) (c_Row_at l D cI cB cJ cR h o N n f ov (nI (n - 1)) (by omega) (by omega) s0.heap.size) hK hNw hMk hA hP hD hS [0, 1] rfl rfl (by decide) 0 rfl rfl rfl rfl hl.1 rfl (Nat.le_of_ble_eq_true rfl) dX8_ruled_65 ⟨Nat.le_of_ble_eq_true rfl, Nat.le_of_ble_eq_true rfl⟩) (fun ra u9 H locs hra hP hD hS => ?_)
              try dsimp only at hra
              have hP : va_P D vwCl [(h, .inr (4, [.ref o, .int (nI n), .int ov])), (o, .inl (cI, N, .inl f))] H := hP
              have hD : va_D A0 [(h, .inr (4, [.ref o, .int (nI n), .int ov])), (o, .inl (cI, N, .inl f))] := hD
              rw [if_pos (inB_t (by omega) (by omega)), nI_clamp (by omega), hr.2.2 _ (by omega), hn9] at hra
              exact hret 68 ls _ _ _ () dX8_ruled_68 hP hD hS (by rw [rulP, if_neg (c_1), if_neg (fun z => absurd z.2.1 (Nat.not_le.mpr (by rw [← hn9]; exact (nI_ltI (b := 17) (by omega) (by decide)).mp c_6))), if_pos ⟨c_7, by omega, Int32.not_le.mp c_9⟩]; exact hra)
      · have hn1 : 17 ≤ n := Nat.not_lt.mp (fun z => c_6 (nI_lt (b := 17) z (by decide)))
        refine lv_iload_n hx hb dX8_ruled_28 rfl (lv_at hl 3 rfl) ?_
        refine lv_sipush (v := 240) hx hb dX8_ruled_29 (by decide) ?_
        refine lv_icmp_ge (tgt := 44) hx hb dX8_ruled_32 (by decide) (fun c_10 => ?_) (fun c_10 => ?_)
        · refine lv_iload_n hx hb dX8_ruled_44 rfl (lv_at hl 2 rfl) ?_
          refine lv_iconst (v := 3) hx hb dX8_ruled_45 (by decide) ?_
          refine lv_icmp_ne (tgt := 69) hx hb dX8_ruled_46 (by decide) (fun c_11 => ?_) (fun c_11 => ?_)
          · refine lv_iload_n hx hb dX8_ruled_69 rfl (lv_at hl 3 rfl) ?_
            exact hret 70 ls _ _ _ () dX8_ruled_70 hP hD hS (by rw [rulP, if_neg (c_1), if_neg (fun z => absurd z.2.2 (Int32.not_lt.mpr c_10)), if_neg (fun z => c_11 z.1)])
          · refine lv_iload_n hx hb dX8_ruled_49 rfl (lv_at hl 0 rfl) ?_
            refine lv_iconst (v := 1) hx hb dX8_ruled_50 (by decide) ?_
            refine lv_icmp_lt (tgt := 69) hx hb dX8_ruled_51 (by decide) (fun c_12 => ?_) (fun c_12 => ?_)
            · refine lv_iload_n hx hb dX8_ruled_69 rfl (lv_at hl 3 rfl) ?_
              exact hret 70 ls _ _ _ () dX8_ruled_70 hP hD hS (by rw [rulP, if_neg (c_1), if_neg (fun z => absurd z.2.2 (Int32.not_lt.mpr c_10)), if_neg (fun z => absurd z.2.1 (Nat.not_le.mpr (by rw [← hn9]; exact (nI_ltI (b := 1) (by omega) (by decide)).mp c_12)))])
            · have hn1 : 1 ≤ n := Nat.not_lt.mp (fun z => c_12 (nI_lt (b := 1) z (by decide)))
              refine lv_iload_n hx hb dX8_ruled_54 rfl (lv_at hl 3 rfl) ?_
              refine lv_sipush (v := 230) hx hb dX8_ruled_55 (by decide) ?_
              refine lv_icmp_ge (tgt := 69) hx hb dX8_ruled_58 (by decide) (fun c_13 => ?_) (fun c_13 => ?_)
              · refine lv_iload_n hx hb dX8_ruled_69 rfl (lv_at hl 3 rfl) ?_
                exact hret 70 ls _ _ _ () dX8_ruled_70 hP hD hS (by rw [rulP, if_neg (c_1), if_neg (fun z => absurd z.2.2 (Int32.not_lt.mpr c_10)), if_neg (fun z => absurd z.2.2 (Int32.not_lt.mpr c_13))])
              · refine lv_aload_n hx hb dX8_ruled_61 rfl (lv_at hl 1 rfl) ?_
                refine lv_iload_n hx hb dX8_ruled_62 rfl (lv_at hl 0 rfl) ?_
                refine lv_iconst (v := 1) hx hb dX8_ruled_63 (by decide) ?_
                refine lv_isub hx hb dX8_ruled_64 ?_
                refine ri (y := nI (n - 1)) (pk_sub (b := 1) hn1) ?_
                refine jn_i (wr := []) hA hP hD hS [0, 1] [] rfl rfl (by decide) (by decide) (rn_V (As := [.int (nI (n - 1))]) (rest := []) ⟨hx, hb, hml, hown, hts⟩ (cvV 1 hts zc_yX4_at zi_X4 zm_yX4_at zv_yX4_at kX8_102 (by decide +kernel) rfl rfl ⟨Nat.le_of_ble_eq_true rfl, Nat.le_of_ble_eq_true rfl⟩) (c_Row_at l D cI cB cJ cR h o N n f ov (nI (n - 1)) (by omega) (by omega) s0.heap.size) hK hNw hMk hA hP hD hS [0, 1] rfl rfl (by decide) 0 rfl rfl rfl rfl hl.1 rfl (Nat.le_of_ble_eq_true rfl) dX8_ruled_65 ⟨Nat.le_of_ble_eq_true rfl, Nat.le_of_ble_eq_true rfl⟩) (fun ra u9 H locs hra hP hD hS => ?_)
                try dsimp only at hra
                have hP : va_P D vwCl [(h, .inr (4, [.ref o, .int (nI n), .int ov])), (o, .inl (cI, N, .inl f))] H := hP
                have hD : va_D A0 [(h, .inr (4, [.ref o, .int (nI n), .int ov])), (o, .inl (cI, N, .inl f))] := hD
                rw [if_pos (inB_t (by omega) (by omega)), nI_clamp (by omega), hr.2.2 _ (by omega), hn9] at hra
                exact hret 68 ls _ _ _ () dX8_ruled_68 hP hD hS (by rw [rulP, if_neg (c_1), if_neg (fun z => absurd z.2.2 (Int32.not_lt.mpr c_10)), if_pos ⟨c_11, by omega, Int32.not_le.mp c_13⟩]; exact hra)
        · refine lv_aload_n hx hb dX8_ruled_35 rfl (lv_at hl 1 rfl) ?_
          refine lv_iload_n hx hb dX8_ruled_36 rfl (lv_at hl 0 rfl) ?_
          refine lv_bipush (v := 17) hx hb dX8_ruled_37 (by decide) ?_
          refine lv_isub hx hb dX8_ruled_39 ?_
          refine ri (y := nI (n - 17)) (pk_sub (b := 17) hn1) ?_
          refine jn_i (wr := []) hA hP hD hS [0, 1] [] rfl rfl (by decide) (by decide) (rn_V (As := [.int (nI (n - 17))]) (rest := []) ⟨hx, hb, hml, hown, hts⟩ (cvV 1 hts zc_yX4_at zi_X4 zm_yX4_at zv_yX4_at kX8_102 (by decide +kernel) rfl rfl ⟨Nat.le_of_ble_eq_true rfl, Nat.le_of_ble_eq_true rfl⟩) (c_Row_at l D cI cB cJ cR h o N n f ov (nI (n - 17)) (by omega) (by omega) s0.heap.size) hK hNw hMk hA hP hD hS [0, 1] rfl rfl (by decide) 0 rfl rfl rfl rfl hl.1 rfl (Nat.le_of_ble_eq_true rfl) dX8_ruled_40 ⟨Nat.le_of_ble_eq_true rfl, Nat.le_of_ble_eq_true rfl⟩) (fun ra u9 H locs hra hP hD hS => ?_)
          try dsimp only at hra
          have hP : va_P D vwCl [(h, .inr (4, [.ref o, .int (nI n), .int ov])), (o, .inl (cI, N, .inl f))] H := hP
          have hD : va_D A0 [(h, .inr (4, [.ref o, .int (nI n), .int ov])), (o, .inl (cI, N, .inl f))] := hD
          rw [if_pos (inB_t (by omega) (by omega)), nI_clamp (by omega), hr.2.2 _ (by omega), hn9] at hra
          exact hret 43 ls _ _ _ () dX8_ruled_43 hP hD hS (by rw [rulP, if_neg c_1, if_pos ⟨c_2, by omega, Int32.not_le.mp c_10⟩]; exact hra)
  · refine lv_bipush (v := 97) hx hb dX8_ruled_10 (by decide) ?_
    refine lv_iload_n hx hb dX8_ruled_12 rfl (lv_at hl 3 rfl) ?_
    refine lv_iconst (v := 4) hx hb dX8_ruled_13 (by decide) ?_
    refine lv_irem hx hb dX8_ruled_14 (by decide) ?_
    refine lv_iadd hx hb dX8_ruled_15 ?_
    exact hret 16 ls _ _ _ () dX8_ruled_16 hP hD hS (by rw [rulP, if_pos c_1])

set_option maxHeartbeats 4000000 in
set_option maxRecDepth 100000 in
theorem c_cdfill (l : Launch) (D : va_G) (cI cB cJ cR : ClassId) (cd : Nat) (rq : Nat) (wt : Nat) (wq : Nat) (mi : Nat) (mo : Nat) (ft : Nat) (ot : Nat) (gt : Nat) (rd : Nat) (tq : Nat) (wr : Nat) (s1 : Nat) (s2 : Nat) (t0 : Int32) (t1 : Int32) (t2 : Int32) (t3 : Int32) (r0 : Nat) (r1 : Nat) (r2 : Nat) (r3 : Nat) (o0 : Nat) (o1 : Nat) (o2 : Nat) (o3 : Nat) (n0 : Nat) (f0 : Nat → Int32) (n1 : Nat) (f1 : Nat → Int32) (n2 : Nat) (f2 : Nat → Int32) (n3 : Nat) (f3 : Nat → Int32) (RL : Nat → List Int32) (x : Int32) (kd : Int32) (n : Int32) (sd : Int32) (hrw : rwOk RL n0 f0 n1 f1 n2 f2 n3 f3) : CMi l yX8_fill cX8_fill 8 (some .int) ({ frames := 2, cells := 0, slots := 0, locals := 44 }) D (tyA cI cB cJ cR) 0 0 [.ref cd, .int x, .int kd, .int n, .int sd] [(cd, .inr (8, [.ref rq, .ref wt, .ref wq, .ref mi, .ref mo, .ref ft, .ref ot, .ref gt, .ref rd, .ref tq, .ref wr, .ref s1, .ref s2, .int t0, .int t1, .int t2, .int t3])), (rq, .inl (cR, 4, .inr (.inr (.inr (.inr (rqF r0 r1 r2 r3)))))), (r0, .inr (4, [.ref o0, .int (nI n0), .int 0])), (o0, .inl (cI, 4000, .inl f0)), (r1, .inr (4, [.ref o1, .int (nI n1), .int 0])), (o1, .inl (cI, 4000, .inl f1)), (r2, .inr (4, [.ref o2, .int (nI n2), .int 0])), (o2, .inl (cI, 8000, .inl f2)), (r3, .inr (4, [.ref o3, .int (nI n3), .int 0])), (o3, .inl (cI, 8000, .inl f3))] (fun (r : Int32) (u9 : Nat × (Nat → Int32) × Nat × (Nat → Int32) × Nat × (Nat → Int32) × Nat × (Nat → Int32) × (Nat → List Int32)) => match u9 with | (n09, f09, n19, f19, n29, f29, n39, f39, RL9) => filP x kd n sd RL = (r, RL9) ∧ rwOk RL9 n09 f09 n19 f19 n29 f29 n39 f39) (fun (u9 : Nat × (Nat → Int32) × Nat × (Nat → Int32) × Nat × (Nat → Int32) × Nat × (Nat → Int32) × (Nat → List Int32)) => match u9 with | (n09, f09, n19, f19, n29, f29, n39, f39, RL9) => [(cd, .inr (8, [.ref rq, .ref wt, .ref wq, .ref mi, .ref mo, .ref ft, .ref ot, .ref gt, .ref rd, .ref tq, .ref wr, .ref s1, .ref s2, .int t0, .int t1, .int t2, .int t3])), (rq, .inl (cR, 4, .inr (.inr (.inr (.inr (rqF r0 r1 r2 r3)))))), (r0, .inr (4, [.ref o0, .int (nI n09), .int 0])), (o0, .inl (cI, 4000, .inl f09)), (r1, .inr (4, [.ref o1, .int (nI n19), .int 0])), (o1, .inl (cI, 4000, .inl f19)), (r2, .inr (4, [.ref o2, .int (nI n29), .int 0])), (o2, .inl (cI, 8000, .inl f29)), (r3, .inr (4, [.ref o3, .int (nI n39), .int 0])), (o3, .inl (cI, 8000, .inl f39))]) := by
  refine st_i (cc := cX8_fill) (maxL := 8) (by decide) (Nat.le_of_ble_eq_true rfl) ?_
  intro p0 e0 s0 m0 below meth c0 A0 Q0 hBD hret hP hD hS ls hl
  obtain ⟨hx, hb, hml, hown, hts, hnm, hK, hNw, hMk, hA⟩ := hBD
  have hl : lv_has ls 8 [(0, .ref cd), (1, .int x), (2, .int kd), (3, .int n), (4, .int sd)] := hl
  have hP : va_P D vwCl [(cd, .inr (8, [.ref rq, .ref wt, .ref wq, .ref mi, .ref mo, .ref ft, .ref ot, .ref gt, .ref rd, .ref tq, .ref wr, .ref s1, .ref s2, .int t0, .int t1, .int t2, .int t3])), (rq, .inl (cR, 4, .inr (.inr (.inr (.inr (rqF r0 r1 r2 r3)))))), (r0, .inr (4, [.ref o0, .int (nI n0), .int 0])), (o0, .inl (cI, 4000, .inl f0)), (r1, .inr (4, [.ref o1, .int (nI n1), .int 0])), (o1, .inl (cI, 4000, .inl f1)), (r2, .inr (4, [.ref o2, .int (nI n2), .int 0])), (o2, .inl (cI, 8000, .inl f2)), (r3, .inr (4, [.ref o3, .int (nI n3), .int 0])), (o3, .inl (cI, 8000, .inl f3))] s0.heap := hP
  have hD : va_D A0 [(cd, .inr (8, [.ref rq, .ref wt, .ref wq, .ref mi, .ref mo, .ref ft, .ref ot, .ref gt, .ref rd, .ref tq, .ref wr, .ref s1, .ref s2, .int t0, .int t1, .int t2, .int t3])), (rq, .inl (cR, 4, .inr (.inr (.inr (.inr (rqF r0 r1 r2 r3)))))), (r0, .inr (4, [.ref o0, .int (nI n0), .int 0])), (o0, .inl (cI, 4000, .inl f0)), (r1, .inr (4, [.ref o1, .int (nI n1), .int 0])), (o1, .inl (cI, 4000, .inl f1)), (r2, .inr (4, [.ref o2, .int (nI n2), .int 0])), (o2, .inl (cI, 8000, .inl f2)), (r3, .inr (4, [.ref o3, .int (nI n3), .int 0])), (o3, .inl (cI, 8000, .inl f3))] := hD
  refine lv_iload_n hx hb dX8_fill_0 rfl (lv_at hl 1 rfl) ?_
  refine jn_i (wr := [(cd, .inr (8, [.ref rq, .ref wt, .ref wq, .ref mi, .ref mo, .ref ft, .ref ot, .ref gt, .ref rd, .ref tq, .ref wr, .ref s1, .ref s2, .int t0, .int t1, .int t2, .int t3])), (rq, .inl (cR, 4, .inr (.inr (.inr (.inr (rqF r0 r1 r2 r3)))))), (r0, .inr (4, [.ref o0, .int (nI n0), .int 0])), (o0, .inl (cI, 4000, .inl f0)), (r1, .inr (4, [.ref o1, .int (nI n1), .int 0])), (o1, .inl (cI, 4000, .inl f1)), (r2, .inr (4, [.ref o2, .int (nI n2), .int 0])), (o2, .inl (cI, 8000, .inl f2)), (r3, .inr (4, [.ref o3, .int (nI n3), .int 0])), (o3, .inl (cI, 8000, .inl f3))]) hA hP hD hS [] [0, 1, 2, 3, 4, 5, 6, 7, 8, 9] rfl rfl (by decide) (by decide) (rn_S (As := [.int x]) (rest := []) ⟨hx, hb, hml, hown, hts⟩ (cvS 1 hts zc_yX8_isRow zi_X8 zs_yX8_isRow kX8_78 (by decide +kernel) rfl rfl ⟨Nat.le_of_ble_eq_true rfl, Nat.le_of_ble_eq_true rfl⟩) (c_isRow l D cI cB cJ cR x  s0.heap.size) hK hNw hMk hA hP hD hS [] rfl rfl (by decide) rfl hl.1 rfl (Nat.le_of_ble_eq_true rfl) dX8_fill_1 ⟨Nat.le_of_ble_eq_true rfl, Nat.le_of_ble_eq_true rfl⟩) (fun ri u9 H locs hri hP hD hS => ?_)
  obtain ⟨rib, rfl, hri⟩ := hri
  try dsimp only at hri
  have hP : va_P D vwCl [(cd, .inr (8, [.ref rq, .ref wt, .ref wq, .ref mi, .ref mo, .ref ft, .ref ot, .ref gt, .ref rd, .ref tq, .ref wr, .ref s1, .ref s2, .int t0, .int t1, .int t2, .int t3])), (rq, .inl (cR, 4, .inr (.inr (.inr (.inr (rqF r0 r1 r2 r3)))))), (r0, .inr (4, [.ref o0, .int (nI n0), .int 0])), (o0, .inl (cI, 4000, .inl f0)), (r1, .inr (4, [.ref o1, .int (nI n1), .int 0])), (o1, .inl (cI, 4000, .inl f1)), (r2, .inr (4, [.ref o2, .int (nI n2), .int 0])), (o2, .inl (cI, 8000, .inl f2)), (r3, .inr (4, [.ref o3, .int (nI n3), .int 0])), (o3, .inl (cI, 8000, .inl f3))] H := hP
  have hD : va_D A0 [(cd, .inr (8, [.ref rq, .ref wt, .ref wq, .ref mi, .ref mo, .ref ft, .ref ot, .ref gt, .ref rd, .ref tq, .ref wr, .ref s1, .ref s2, .int t0, .int t1, .int t2, .int t3])), (rq, .inl (cR, 4, .inr (.inr (.inr (.inr (rqF r0 r1 r2 r3)))))), (r0, .inr (4, [.ref o0, .int (nI n0), .int 0])), (o0, .inl (cI, 4000, .inl f0)), (r1, .inr (4, [.ref o1, .int (nI n1), .int 0])), (o1, .inl (cI, 4000, .inl f1)), (r2, .inr (4, [.ref o2, .int (nI n2), .int 0])), (o2, .inl (cI, 8000, .inl f2)), (r3, .inr (4, [.ref o3, .int (nI n3), .int 0])), (o3, .inl (cI, 8000, .inl f3))] := hD
  refine bz_eq (tgt := 20) hx hb dX8_fill_4 (by decide) (fun c_1 => ?_) (fun c_1 => ?_)
  · refine lv_bipush (v := -2) hx hb dX8_fill_20 (by decide) ?_
    exact hret 22 ls _ _ _ (n0, f0, n1, f1, n2, f2, n3, f3, RL) dX8_fill_22 hP hD hS (⟨by rw [filP, if_pos (Or.inl (by rw [← hri]; exact c_1))], hrw⟩)
  · have hxr : isR x = true := by rw [← hri]; exact c_1
    refine lv_iload_n hx hb dX8_fill_7 rfl (lv_at hl 2 rfl) ?_
    refine lv_if_lt (tgt := 20) hx hb dX8_fill_8 (by decide) (fun c_2 => ?_) (fun c_2 => ?_)
    · refine lv_bipush (v := -2) hx hb dX8_fill_20 (by decide) ?_
      exact hret 22 ls _ _ _ (n0, f0, n1, f1, n2, f2, n3, f3, RL) dX8_fill_22 hP hD hS (⟨by rw [filP, if_pos (Or.inr (Or.inl c_2))], hrw⟩)
    · refine lv_iload_n hx hb dX8_fill_11 rfl (lv_at hl 2 rfl) ?_
      refine lv_iconst (v := 3) hx hb dX8_fill_12 (by decide) ?_
      refine lv_icmp_gt (tgt := 20) hx hb dX8_fill_13 (by decide) (fun c_3 => ?_) (fun c_3 => ?_)
      · refine lv_bipush (v := -2) hx hb dX8_fill_20 (by decide) ?_
        exact hret 22 ls _ _ _ (n0, f0, n1, f1, n2, f2, n3, f3, RL) dX8_fill_22 hP hD hS (⟨by rw [filP, if_pos (Or.inr (Or.inr (Or.inl (fun z => Int32.not_lt.mpr z c_3))))], hrw⟩)
      · refine lv_iload_n hx hb dX8_fill_16 rfl (lv_at hl 3 rfl) ?_
        refine lv_if_ge (tgt := 23) hx hb dX8_fill_17 (by decide) (fun c_4 => ?_) (fun c_4 => ?_)
        · obtain ⟨m, hm8, hnm9⟩ := nI_of (x := n) (Int32.not_lt.mpr c_4)
          rw [hnm9] at hl
          rcases isR_of hxr with hx0 | hx1 | hx2 | hx3
          · have hnk := rw_n0 hrw
            obtain ⟨hr0, hr1, hr2, hr3, hl0, hl1, hl2, hl3⟩ := id hrw
            rw [hx0] at hl
            have hfp := filP_in (k := 0) (kd := kd) (sd := sd) (RL := RL) (by decide) c_2 (Int32.not_lt.mp c_3) hm8
            rw [← hx0, ← hnm9] at hfp
            refine lv_aload_n hx hb dX8_fill_23 rfl (lv_at hl 0 rfl) ?_
            refine va_get (D := D) (ci := 8) (v := .ref rq) (C := RX8) (T := TX8) (N := 17) hx hb hts in_X8 hown hK hP 0 rfl rfl 0 (by decide) (hts _ kX8_11) (fun _ h9 => h9) rfl dX8_fill_24 ?_
            refine lv_iload_n hx hb dX8_fill_27 rfl (lv_at hl 1 rfl) ?_
            refine ax_rld hx hb hK hP 1 3 rfl rfl 0 (rfl) (by decide) (by decide) rfl dX8_fill_28 ?_
            refine lv_astore (lv' := [(5, .ref r0), (0, .ref cd), (1, .int (nI 0)), (2, .int kd), (3, .int (nI m)), (4, .int sd)]) hx hb dX8_fill_29 hl (by decide) rfl (fun ls hl => ?_)
            refine lv_iload_n hx hb dX8_fill_31 rfl (lv_at hl 4 rfl) ?_
            refine lv_aload hx hb dX8_fill_32 (lv_at hl 0 rfl) ?_
            refine jn_i (wr := [(cd, .inr (8, [.ref rq, .ref wt, .ref wq, .ref mi, .ref mo, .ref ft, .ref ot, .ref gt, .ref rd, .ref tq, .ref wr, .ref s1, .ref s2, .int t0, .int t1, .int t2, .int t3])), (rq, .inl (cR, 4, .inr (.inr (.inr (.inr (rqF r0 r1 r2 r3)))))), (r1, .inr (4, [.ref o1, .int (nI n1), .int 0])), (o1, .inl (cI, 4000, .inl f1)), (r2, .inr (4, [.ref o2, .int (nI n2), .int 0])), (o2, .inl (cI, 8000, .inl f2)), (r3, .inr (4, [.ref o3, .int (nI n3), .int 0])), (o3, .inl (cI, 8000, .inl f3))]) hA hP hD hS [2, 3] [0, 1, 4, 5, 6, 7, 8, 9] rfl rfl (by decide) (by decide) (rn_V (As := []) (rest := [.int (nI m)]) ⟨hx, hb, hml, hown, hts⟩ (cvV 0 hts zc_yX4_room zi_X4 zm_yX4_room zv_yX4_room kX8_85 (by decide +kernel) rfl rfl ⟨Nat.le_of_ble_eq_true rfl, Nat.le_of_ble_eq_true rfl⟩) (c_Row_room l D cI cB cJ cR r0 o0 4000 n0 f0 0 (by decide) (hnk.2) H.size) hK hNw hMk hA hP hD hS [2, 3] rfl rfl (by decide) 0 rfl rfl rfl rfl hl.1 rfl (Nat.le_of_ble_eq_true rfl) dX8_fill_34 ⟨Nat.le_of_ble_eq_true rfl, Nat.le_of_ble_eq_true rfl⟩) (fun rm u9 H locs hrm hP hD hS => ?_)
            try dsimp only at hrm
            have hP : va_P D vwCl [(cd, .inr (8, [.ref rq, .ref wt, .ref wq, .ref mi, .ref mo, .ref ft, .ref ot, .ref gt, .ref rd, .ref tq, .ref wr, .ref s1, .ref s2, .int t0, .int t1, .int t2, .int t3])), (rq, .inl (cR, 4, .inr (.inr (.inr (.inr (rqF r0 r1 r2 r3)))))), (r1, .inr (4, [.ref o1, .int (nI n1), .int 0])), (o1, .inl (cI, 4000, .inl f1)), (r2, .inr (4, [.ref o2, .int (nI n2), .int 0])), (o2, .inl (cI, 8000, .inl f2)), (r3, .inr (4, [.ref o3, .int (nI n3), .int 0])), (o3, .inl (cI, 8000, .inl f3)), (r0, .inr (4, [.ref o0, .int (nI n0), .int 0])), (o0, .inl (cI, 4000, .inl f0))] H := hP
            have hD : va_D A0 [(cd, .inr (8, [.ref rq, .ref wt, .ref wq, .ref mi, .ref mo, .ref ft, .ref ot, .ref gt, .ref rd, .ref tq, .ref wr, .ref s1, .ref s2, .int t0, .int t1, .int t2, .int t3])), (rq, .inl (cR, 4, .inr (.inr (.inr (.inr (rqF r0 r1 r2 r3)))))), (r1, .inr (4, [.ref o1, .int (nI n1), .int 0])), (o1, .inl (cI, 4000, .inl f1)), (r2, .inr (4, [.ref o2, .int (nI n2), .int 0])), (o2, .inl (cI, 8000, .inl f2)), (r3, .inr (4, [.ref o3, .int (nI n3), .int 0])), (o3, .inl (cI, 8000, .inl f3)), (r0, .inr (4, [.ref o0, .int (nI n0), .int 0])), (o0, .inl (cI, 4000, .inl f0))] := hD
            subst hrm
            refine lv_icmp_le (tgt := 43) hx hb dX8_fill_37 (by decide) (fun c_5 => ?_) (fun c_5 => ?_)
            · have hf9 : ¬ 4000 < (RL 0).length + m := by have := (nI_leI (by omega) (by omega)).mp c_5; omega
              rw [if_neg (show ¬ rmN 0 < (RL 0).length + m from hf9)] at hfp
              refine lv_iload hx hb dX8_fill_43 (lv_at hl 5 rfl) ?_
              refine lv_istore (lv' := [(6, .int sd), (5, .ref r0), (0, .ref cd), (1, .int (nI 0)), (2, .int kd), (3, .int (nI m)), (4, .int sd)]) hx hb dX8_fill_45 hl (by decide) rfl (fun ls hl => ?_)
              refine lv_iconst (v := 0) hx hb dX8_fill_47 (by decide) ?_
              refine ri (y := nI 0) (nI_0.symm) ?_
              refine lv_istore (lv' := [(7, .int (nI 0)), (6, .int sd), (5, .ref r0), (0, .ref cd), (1, .int (nI 0)), (2, .int kd), (3, .int (nI m)), (4, .int sd)]) hx hb dX8_fill_48 hl (by decide) rfl (fun ls hl => ?_)
              have loop : ∀ (k9 : Nat) (j : Nat) (z : Int32) (Lc : List Int32) (n7 : Nat) (f7 : Nat → Int32) (H : Heap) (locs : List Loc) (ls : Array Slot), m - j < k9 → (j ≤ m) → (filL kd (m - j) z Lc = filL kd m sd (RL 0)) → (rowIs 4000 Lc n7 f7 0) → (Lc.length = (RL 0).length + j) → va_P D vwCl [(cd, .inr (8, [.ref rq, .ref wt, .ref wq, .ref mi, .ref mo, .ref ft, .ref ot, .ref gt, .ref rd, .ref tq, .ref wr, .ref s1, .ref s2, .int t0, .int t1, .int t2, .int t3])), (rq, .inl (cR, 4, .inr (.inr (.inr (.inr (rqF r0 r1 r2 r3)))))), (r0, .inr (4, [.ref o0, .int (nI n7), .int 0])), (o0, .inl (cI, 4000, .inl f7)), (r1, .inr (4, [.ref o1, .int (nI n1), .int 0])), (o1, .inl (cI, 4000, .inl f1)), (r2, .inr (4, [.ref o2, .int (nI n2), .int 0])), (o2, .inl (cI, 8000, .inl f2)), (r3, .inr (4, [.ref o3, .int (nI n3), .int 0])), (o3, .inl (cI, 8000, .inl f3))] H → va_D A0 [(cd, .inr (8, [.ref rq, .ref wt, .ref wq, .ref mi, .ref mo, .ref ft, .ref ot, .ref gt, .ref rd, .ref tq, .ref wr, .ref s1, .ref s2, .int t0, .int t1, .int t2, .int t3])), (rq, .inl (cR, 4, .inr (.inr (.inr (.inr (rqF r0 r1 r2 r3)))))), (r0, .inr (4, [.ref o0, .int (nI n7), .int 0])), (o0, .inl (cI, 4000, .inl f7)), (r1, .inr (4, [.ref o1, .int (nI n1), .int 0])), (o1, .inl (cI, 4000, .inl f1)), (r2, .inr (4, [.ref o2, .int (nI n2), .int 0])), (o2, .inl (cI, 8000, .inl f2)), (r3, .inr (4, [.ref o3, .int (nI n3), .int 0])), (o3, .inl (cI, 8000, .inl f3))] → va_S A0 s0.heap H locs → lv_has ls 8 [(0, .ref cd), (1, .int (nI 0)), (2, .int kd), (3, .int (nI m)), (4, .int sd), (5, .ref r0), (6, .int z), (7, .int (nI j))] → W p0 l e0 ({ frames := 2, cells := 0, slots := 0, locals := 44 }) s0 m0 ([.ref cd, .int x, .int kd, .int n, .int sd] : List Value).toArray below meth c0 H locs 0 0 Q0 (F0 m0 50 ls []) := by
                intro k9
                induction k9 with
                | zero => intro j z Lc n7 f7 H locs ls hk9; exact absurd hk9 (Nat.not_lt_zero _)
                | succ k9 ih =>
                  intro j z Lc n7 f7 H locs ls hk9 hjm hLc hr7 hlc hP hD hS hl
                  refine lv_iload hx hb dX8_fill_50 (lv_at hl 7 rfl) ?_
                  refine lv_iload_n hx hb dX8_fill_52 rfl (lv_at hl 3 rfl) ?_
                  refine lv_icmp_ge (tgt := 88) hx hb dX8_fill_53 (by decide) (fun c_6 => ?_) (fun c_6 => ?_)
                  · have hj0 : m - j = 0 := by have := (nI_leI (by omega) (by omega)).mp c_6; omega
                    rw [hj0, filL] at hLc
                    subst hLc
                    have hlen := filL_len kd m sd (RL 0)
                    have hw9 := (row_len hr7 (by omega)).1
                    rw [hlen] at hw9
                    subst hw9
                    refine lv_aload hx hb dX8_fill_88 (lv_at hl 5 rfl) ?_
                    refine va_get (D := D) (ci := 4) (v := .int (nI ((RL 0).length + m))) (C := RX4) (T := TX4) (N := 3) hx hb hts in_X4 hown hK hP 2 rfl rfl 1 (by decide) (hts _ kX8_92) (fun _ h9 => h9) rfl dX8_fill_90 ?_
                    exact hret 93 ls _ _ _ ((RL 0).length + m, f7, n1, f1, n2, f2, n3, f3, va_up RL 0 (filL kd m sd (RL 0))) dX8_fill_93 hP hD hS (⟨hfp, rwOk_0 hrw hr7 (by omega)⟩)
                  · have hjm9 : j < m := Nat.not_le.mp (fun q => c_6 (nI_le q (by omega)))
                    rw [show m - j = m - (j + 1) + 1 by omega, filL] at hLc
                    refine lv_iload hx hb dX8_fill_56 (lv_at hl 6 rfl) ?_
                    refine lv_ldc hx hb hown (hts _ kX8_96) dX8_fill_58 ?_
                    refine lv_imul hx hb dX8_fill_60 ?_
                    refine lv_ldc hx hb hown (hts _ kX8_97) dX8_fill_61 ?_
                    refine lv_iadd hx hb dX8_fill_63 ?_
                    refine lv_istore (lv' := [(6, .int ((z * 1664525) + 1013904223)), (0, .ref cd), (1, .int (nI 0)), (2, .int kd), (3, .int (nI m)), (4, .int sd), (5, .ref r0), (7, .int (nI j))]) hx hb dX8_fill_64 hl (by decide) rfl (fun ls hl => ?_)
                    refine lv_aload hx hb dX8_fill_66 (lv_at hl 6 rfl) ?_
                    refine lv_aload hx hb dX8_fill_68 (lv_at hl 6 rfl) ?_
                    refine lv_iload_n hx hb dX8_fill_70 rfl (lv_at hl 3 rfl) ?_
                    refine lv_iload hx hb dX8_fill_71 (lv_at hl 0 rfl) ?_
                    refine lv_bipush (v := 24) hx hb dX8_fill_73 (by decide) ?_
                    refine lv_iushr hx hb dX8_fill_75 (v := (((z * 1664525) + 1013904223).toUInt32 >>> ((24 : Int32).toUInt32 &&& Int32.toUInt32 31)).toInt32) rfl ?_
                    refine jn_i (wr := [(cd, .inr (8, [.ref rq, .ref wt, .ref wq, .ref mi, .ref mo, .ref ft, .ref ot, .ref gt, .ref rd, .ref tq, .ref wr, .ref s1, .ref s2, .int t0, .int t1, .int t2, .int t3])), (rq, .inl (cR, 4, .inr (.inr (.inr (.inr (rqF r0 r1 r2 r3)))))), (r1, .inr (4, [.ref o1, .int (nI n1), .int 0])), (o1, .inl (cI, 4000, .inl f1)), (r2, .inr (4, [.ref o2, .int (nI n2), .int 0])), (o2, .inl (cI, 8000, .inl f2)), (r3, .inr (4, [.ref o3, .int (nI n3), .int 0])), (o3, .inl (cI, 8000, .inl f3))]) hA hP hD hS [2, 3] [0, 1, 4, 5, 6, 7, 8, 9] rfl rfl (by decide) (by decide) (rn_S (As := [.ref r0, .int kd, .int (top8 (lcg z))]) (rest := [.ref r0]) ⟨hx, hb, hml, hown, hts⟩ (cvS 3 hts zc_yX8_ruled zi_X8 zs_yX8_ruled kX8_98 (by decide +kernel) rfl rfl ⟨Nat.le_of_ble_eq_true rfl, Nat.le_of_ble_eq_true rfl⟩) (c_ruled l D cI cB cJ cR r0 o0 4000 n7 f7 0 Lc kd (top8 (lcg z)) (by decide) (hr7) (by omega) H.size) hK hNw hMk hA hP hD hS [2, 3] rfl rfl (by decide) rfl hl.1 rfl (Nat.le_of_ble_eq_true rfl) dX8_fill_76 ⟨Nat.le_of_ble_eq_true rfl, Nat.le_of_ble_eq_true rfl⟩) (fun ru u9 H locs hru hP hD hS => ?_)
                    try dsimp only at hru
                    have hP : va_P D vwCl [(cd, .inr (8, [.ref rq, .ref wt, .ref wq, .ref mi, .ref mo, .ref ft, .ref ot, .ref gt, .ref rd, .ref tq, .ref wr, .ref s1, .ref s2, .int t0, .int t1, .int t2, .int t3])), (rq, .inl (cR, 4, .inr (.inr (.inr (.inr (rqF r0 r1 r2 r3)))))), (r1, .inr (4, [.ref o1, .int (nI n1), .int 0])), (o1, .inl (cI, 4000, .inl f1)), (r2, .inr (4, [.ref o2, .int (nI n2), .int 0])), (o2, .inl (cI, 8000, .inl f2)), (r3, .inr (4, [.ref o3, .int (nI n3), .int 0])), (o3, .inl (cI, 8000, .inl f3)), (r0, .inr (4, [.ref o0, .int (nI n7), .int 0])), (o0, .inl (cI, 4000, .inl f7))] H := hP
                    have hD : va_D A0 [(cd, .inr (8, [.ref rq, .ref wt, .ref wq, .ref mi, .ref mo, .ref ft, .ref ot, .ref gt, .ref rd, .ref tq, .ref wr, .ref s1, .ref s2, .int t0, .int t1, .int t2, .int t3])), (rq, .inl (cR, 4, .inr (.inr (.inr (.inr (rqF r0 r1 r2 r3)))))), (r1, .inr (4, [.ref o1, .int (nI n1), .int 0])), (o1, .inl (cI, 4000, .inl f1)), (r2, .inr (4, [.ref o2, .int (nI n2), .int 0])), (o2, .inl (cI, 8000, .inl f2)), (r3, .inr (4, [.ref o3, .int (nI n3), .int 0])), (o3, .inl (cI, 8000, .inl f3)), (r0, .inr (4, [.ref o0, .int (nI n7), .int 0])), (o0, .inl (cI, 4000, .inl f7))] := hD
                    subst hru
                    refine jn_v (wr := [(cd, .inr (8, [.ref rq, .ref wt, .ref wq, .ref mi, .ref mo, .ref ft, .ref ot, .ref gt, .ref rd, .ref tq, .ref wr, .ref s1, .ref s2, .int t0, .int t1, .int t2, .int t3])), (rq, .inl (cR, 4, .inr (.inr (.inr (.inr (rqF r0 r1 r2 r3)))))), (r1, .inr (4, [.ref o1, .int (nI n1), .int 0])), (o1, .inl (cI, 4000, .inl f1)), (r2, .inr (4, [.ref o2, .int (nI n2), .int 0])), (o2, .inl (cI, 8000, .inl f2)), (r3, .inr (4, [.ref o3, .int (nI n3), .int 0])), (o3, .inl (cI, 8000, .inl f3))]) hA hP hD hS [8, 9] [0, 1, 2, 3, 4, 5, 6, 7] rfl rfl (by decide) (by decide) (rn_V (As := [.int (rulP Lc kd (top8 (lcg z)))]) (rest := []) ⟨hx, hb, hml, hown, hts⟩ (cvV 1 hts zc_yX4_put zi_X4 zm_yX4_put zv_yX4_put kX8_89 (by decide +kernel) rfl rfl ⟨Nat.le_of_ble_eq_true rfl, Nat.le_of_ble_eq_true rfl⟩) (c_Row_put l D cI cB cJ cR r0 o0 4000 n7 f7 0 Lc (rulP Lc kd (top8 (lcg z))) (by decide) (hr7) H.size) hK hNw hMk hA hP hD hS [8, 9] rfl rfl (by decide) 0 rfl rfl rfl rfl hl.1 rfl (Nat.le_of_ble_eq_true rfl) dX8_fill_79 ⟨Nat.le_of_ble_eq_true rfl, Nat.le_of_ble_eq_true rfl⟩) (fun u9 H locs hpu hP hD hS => ?_)
                    obtain ⟨n8, f8, v8⟩ := u9
                    try dsimp only at hpu
                    have hP : va_P D vwCl [(cd, .inr (8, [.ref rq, .ref wt, .ref wq, .ref mi, .ref mo, .ref ft, .ref ot, .ref gt, .ref rd, .ref tq, .ref wr, .ref s1, .ref s2, .int t0, .int t1, .int t2, .int t3])), (rq, .inl (cR, 4, .inr (.inr (.inr (.inr (rqF r0 r1 r2 r3)))))), (r1, .inr (4, [.ref o1, .int (nI n1), .int 0])), (o1, .inl (cI, 4000, .inl f1)), (r2, .inr (4, [.ref o2, .int (nI n2), .int 0])), (o2, .inl (cI, 8000, .inl f2)), (r3, .inr (4, [.ref o3, .int (nI n3), .int 0])), (o3, .inl (cI, 8000, .inl f3)), (r0, .inr (4, [.ref o0, .int (nI n8), .int v8])), (o0, .inl (cI, 4000, .inl f8))] H := hP
                    have hD : va_D A0 [(cd, .inr (8, [.ref rq, .ref wt, .ref wq, .ref mi, .ref mo, .ref ft, .ref ot, .ref gt, .ref rd, .ref tq, .ref wr, .ref s1, .ref s2, .int t0, .int t1, .int t2, .int t3])), (rq, .inl (cR, 4, .inr (.inr (.inr (.inr (rqF r0 r1 r2 r3)))))), (r1, .inr (4, [.ref o1, .int (nI n1), .int 0])), (o1, .inl (cI, 4000, .inl f1)), (r2, .inr (4, [.ref o2, .int (nI n2), .int 0])), (o2, .inl (cI, 8000, .inl f2)), (r3, .inr (4, [.ref o3, .int (nI n3), .int 0])), (o3, .inl (cI, 8000, .inl f3)), (r0, .inr (4, [.ref o0, .int (nI n8), .int v8])), (o0, .inl (cI, 4000, .inl f8))] := hD
                    have hv8 := (row_len hpu (by simp; omega)).2
                    subst hv8
                    refine lv_iinc (v := nI (j + 1)) (lv' := [(7, .int (nI (j + 1))), (6, .int ((z * 1664525) + 1013904223)), (0, .ref cd), (1, .int (nI 0)), (2, .int kd), (3, .int (nI m)), (4, .int sd), (5, .ref r0)]) hx hb dX8_fill_82 hl (k := 7) rfl (nI_add j 1) (by decide) rfl (fun ls hl => ?_)
                    refine lv_goto (tgt := 50) hx hb dX8_fill_85 (by decide) ?_
                    exact ih (j + 1) (lcg z) (Lc ++ [rulP Lc kd (top8 (lcg z))]) n8 f8 _ _ ls (by omega) (by omega) (hLc) (hpu) (by simp; omega) (hP.sub [0, 1, 8, 9, 2, 3, 4, 5, 6, 7] rfl) (hD.sub [0, 1, 8, 9, 2, 3, 4, 5, 6, 7] (by decide) rfl) hS (lv_sub hl [2, 3, 4, 5, 6, 7, 1, 0] rfl)
              exact loop _ 0 sd (RL 0) n0 f0 _ _ ls (Nat.lt_succ_self _) (Nat.zero_le _) (rfl) (hr0) (rfl) (hP.sub [0, 1, 8, 9, 2, 3, 4, 5, 6, 7] rfl) (hD.sub [0, 1, 8, 9, 2, 3, 4, 5, 6, 7] (by decide) rfl) hS (lv_sub hl [3, 4, 5, 6, 7, 2, 1, 0] rfl)
            · have hf9 : 4000 < (RL 0).length + m := by have := Nat.not_le.mp (fun q => c_5 (nI_le q (by omega))); omega
              rw [if_pos (show rmN 0 < (RL 0).length + m from hf9)] at hfp
              refine lv_bipush (v := -4) hx hb dX8_fill_40 (by decide) ?_
              have hP := hP.sub (ws' := [(cd, .inr (8, [.ref rq, .ref wt, .ref wq, .ref mi, .ref mo, .ref ft, .ref ot, .ref gt, .ref rd, .ref tq, .ref wr, .ref s1, .ref s2, .int t0, .int t1, .int t2, .int t3])), (rq, .inl (cR, 4, .inr (.inr (.inr (.inr (rqF r0 r1 r2 r3)))))), (r0, .inr (4, [.ref o0, .int (nI n0), .int 0])), (o0, .inl (cI, 4000, .inl f0)), (r1, .inr (4, [.ref o1, .int (nI n1), .int 0])), (o1, .inl (cI, 4000, .inl f1)), (r2, .inr (4, [.ref o2, .int (nI n2), .int 0])), (o2, .inl (cI, 8000, .inl f2)), (r3, .inr (4, [.ref o3, .int (nI n3), .int 0])), (o3, .inl (cI, 8000, .inl f3))]) [0, 1, 8, 9, 2, 3, 4, 5, 6, 7] rfl
              have hD := hD.sub (ws' := [(cd, .inr (8, [.ref rq, .ref wt, .ref wq, .ref mi, .ref mo, .ref ft, .ref ot, .ref gt, .ref rd, .ref tq, .ref wr, .ref s1, .ref s2, .int t0, .int t1, .int t2, .int t3])), (rq, .inl (cR, 4, .inr (.inr (.inr (.inr (rqF r0 r1 r2 r3)))))), (r0, .inr (4, [.ref o0, .int (nI n0), .int 0])), (o0, .inl (cI, 4000, .inl f0)), (r1, .inr (4, [.ref o1, .int (nI n1), .int 0])), (o1, .inl (cI, 4000, .inl f1)), (r2, .inr (4, [.ref o2, .int (nI n2), .int 0])), (o2, .inl (cI, 8000, .inl f2)), (r3, .inr (4, [.ref o3, .int (nI n3), .int 0])), (o3, .inl (cI, 8000, .inl f3))]) [0, 1, 8, 9, 2, 3, 4, 5, 6, 7] (by decide) rfl
              exact hret 42 ls _ _ _ (n0, f0, n1, f1, n2, f2, n3, f3, RL) dX8_fill_42 hP hD hS (⟨hfp, hrw⟩)
          · have hnk := rw_n1 hrw
            obtain ⟨hr0, hr1, hr2, hr3, hl0, hl1, hl2, hl3⟩ := id hrw
            rw [hx1] at hl
            have hfp := filP_in (k := 1) (kd := kd) (sd := sd) (RL := RL) (by decide) c_2 (Int32.not_lt.mp c_3) hm8
            rw [← hx1, ← hnm9] at hfp
            refine lv_aload_n hx hb dX8_fill_23 rfl (lv_at hl 0 rfl) ?_
            refine va_get (D := D) (ci := 8) (v := .ref rq) (C := RX8) (T := TX8) (N := 17) hx hb hts in_X8 hown hK hP 0 rfl rfl 0 (by decide) (hts _ kX8_11) (fun _ h9 => h9) rfl dX8_fill_24 ?_
            refine lv_iload_n hx hb dX8_fill_27 rfl (lv_at hl 1 rfl) ?_
            refine ax_rld hx hb hK hP 1 3 rfl rfl 1 (rfl) (by decide) (by decide) rfl dX8_fill_28 ?_
            refine lv_astore (lv' := [(5, .ref r1), (0, .ref cd), (1, .int (nI 1)), (2, .int kd), (3, .int (nI m)), (4, .int sd)]) hx hb dX8_fill_29 hl (by decide) rfl (fun ls hl => ?_)
            refine lv_iload_n hx hb dX8_fill_31 rfl (lv_at hl 4 rfl) ?_
            refine lv_aload hx hb dX8_fill_32 (lv_at hl 0 rfl) ?_
            refine jn_i (wr := [(cd, .inr (8, [.ref rq, .ref wt, .ref wq, .ref mi, .ref mo, .ref ft, .ref ot, .ref gt, .ref rd, .ref tq, .ref wr, .ref s1, .ref s2, .int t0, .int t1, .int t2, .int t3])), (rq, .inl (cR, 4, .inr (.inr (.inr (.inr (rqF r0 r1 r2 r3)))))), (r0, .inr (4, [.ref o0, .int (nI n0), .int 0])), (o0, .inl (cI, 4000, .inl f0)), (r2, .inr (4, [.ref o2, .int (nI n2), .int 0])), (o2, .inl (cI, 8000, .inl f2)), (r3, .inr (4, [.ref o3, .int (nI n3), .int 0])), (o3, .inl (cI, 8000, .inl f3))]) hA hP hD hS [4, 5] [0, 1, 2, 3, 6, 7, 8, 9] rfl rfl (by decide) (by decide) (rn_V (As := []) (rest := [.int (nI m)]) ⟨hx, hb, hml, hown, hts⟩ (cvV 0 hts zc_yX4_room zi_X4 zm_yX4_room zv_yX4_room kX8_85 (by decide +kernel) rfl rfl ⟨Nat.le_of_ble_eq_true rfl, Nat.le_of_ble_eq_true rfl⟩) (c_Row_room l D cI cB cJ cR r1 o1 4000 n1 f1 0 (by decide) (hnk.2) H.size) hK hNw hMk hA hP hD hS [4, 5] rfl rfl (by decide) 0 rfl rfl rfl rfl hl.1 rfl (Nat.le_of_ble_eq_true rfl) dX8_fill_34 ⟨Nat.le_of_ble_eq_true rfl, Nat.le_of_ble_eq_true rfl⟩) (fun rm u9 H locs hrm hP hD hS => ?_)
            try dsimp only at hrm
            have hP : va_P D vwCl [(cd, .inr (8, [.ref rq, .ref wt, .ref wq, .ref mi, .ref mo, .ref ft, .ref ot, .ref gt, .ref rd, .ref tq, .ref wr, .ref s1, .ref s2, .int t0, .int t1, .int t2, .int t3])), (rq, .inl (cR, 4, .inr (.inr (.inr (.inr (rqF r0 r1 r2 r3)))))), (r0, .inr (4, [.ref o0, .int (nI n0), .int 0])), (o0, .inl (cI, 4000, .inl f0)), (r2, .inr (4, [.ref o2, .int (nI n2), .int 0])), (o2, .inl (cI, 8000, .inl f2)), (r3, .inr (4, [.ref o3, .int (nI n3), .int 0])), (o3, .inl (cI, 8000, .inl f3)), (r1, .inr (4, [.ref o1, .int (nI n1), .int 0])), (o1, .inl (cI, 4000, .inl f1))] H := hP
            have hD : va_D A0 [(cd, .inr (8, [.ref rq, .ref wt, .ref wq, .ref mi, .ref mo, .ref ft, .ref ot, .ref gt, .ref rd, .ref tq, .ref wr, .ref s1, .ref s2, .int t0, .int t1, .int t2, .int t3])), (rq, .inl (cR, 4, .inr (.inr (.inr (.inr (rqF r0 r1 r2 r3)))))), (r0, .inr (4, [.ref o0, .int (nI n0), .int 0])), (o0, .inl (cI, 4000, .inl f0)), (r2, .inr (4, [.ref o2, .int (nI n2), .int 0])), (o2, .inl (cI, 8000, .inl f2)), (r3, .inr (4, [.ref o3, .int (nI n3), .int 0])), (o3, .inl (cI, 8000, .inl f3)), (r1, .inr (4, [.ref o1, .int (nI n1), .int 0])), (o1, .inl (cI, 4000, .inl f1))] := hD
            subst hrm
            refine lv_icmp_le (tgt := 43) hx hb dX8_fill_37 (by decide) (fun c_8 => ?_) (fun c_8 => ?_)
            · have hf9 : ¬ 4000 < (RL 1).length + m := by have := (nI_leI (by omega) (by omega)).mp c_8; omega
              rw [if_neg (show ¬ rmN 1 < (RL 1).length + m from hf9)] at hfp
              refine lv_iload hx hb dX8_fill_43 (lv_at hl 5 rfl) ?_
              refine lv_istore (lv' := [(6, .int sd), (5, .ref r1), (0, .ref cd), (1, .int (nI 1)), (2, .int kd), (3, .int (nI m)), (4, .int sd)]) hx hb dX8_fill_45 hl (by decide) rfl (fun ls hl => ?_)
              refine lv_iconst (v := 0) hx hb dX8_fill_47 (by decide) ?_
              refine ri (y := nI 0) (nI_0.symm) ?_
              refine lv_istore (lv' := [(7, .int (nI 0)), (6, .int sd), (5, .ref r1), (0, .ref cd), (1, .int (nI 1)), (2, .int kd), (3, .int (nI m)), (4, .int sd)]) hx hb dX8_fill_48 hl (by decide) rfl (fun ls hl => ?_)
              have loop : ∀ (k9 : Nat) (j : Nat) (z : Int32) (Lc : List Int32) (n7 : Nat) (f7 : Nat → Int32) (H : Heap) (locs : List Loc) (ls : Array Slot), m - j < k9 → (j ≤ m) → (filL kd (m - j) z Lc = filL kd m sd (RL 1)) → (rowIs 4000 Lc n7 f7 0) → (Lc.length = (RL 1).length + j) → va_P D vwCl [(cd, .inr (8, [.ref rq, .ref wt, .ref wq, .ref mi, .ref mo, .ref ft, .ref ot, .ref gt, .ref rd, .ref tq, .ref wr, .ref s1, .ref s2, .int t0, .int t1, .int t2, .int t3])), (rq, .inl (cR, 4, .inr (.inr (.inr (.inr (rqF r0 r1 r2 r3)))))), (r0, .inr (4, [.ref o0, .int (nI n0), .int 0])), (o0, .inl (cI, 4000, .inl f0)), (r1, .inr (4, [.ref o1, .int (nI n7), .int 0])), (o1, .inl (cI, 4000, .inl f7)), (r2, .inr (4, [.ref o2, .int (nI n2), .int 0])), (o2, .inl (cI, 8000, .inl f2)), (r3, .inr (4, [.ref o3, .int (nI n3), .int 0])), (o3, .inl (cI, 8000, .inl f3))] H → va_D A0 [(cd, .inr (8, [.ref rq, .ref wt, .ref wq, .ref mi, .ref mo, .ref ft, .ref ot, .ref gt, .ref rd, .ref tq, .ref wr, .ref s1, .ref s2, .int t0, .int t1, .int t2, .int t3])), (rq, .inl (cR, 4, .inr (.inr (.inr (.inr (rqF r0 r1 r2 r3)))))), (r0, .inr (4, [.ref o0, .int (nI n0), .int 0])), (o0, .inl (cI, 4000, .inl f0)), (r1, .inr (4, [.ref o1, .int (nI n7), .int 0])), (o1, .inl (cI, 4000, .inl f7)), (r2, .inr (4, [.ref o2, .int (nI n2), .int 0])), (o2, .inl (cI, 8000, .inl f2)), (r3, .inr (4, [.ref o3, .int (nI n3), .int 0])), (o3, .inl (cI, 8000, .inl f3))] → va_S A0 s0.heap H locs → lv_has ls 8 [(0, .ref cd), (1, .int (nI 1)), (2, .int kd), (3, .int (nI m)), (4, .int sd), (5, .ref r1), (6, .int z), (7, .int (nI j))] → W p0 l e0 ({ frames := 2, cells := 0, slots := 0, locals := 44 }) s0 m0 ([.ref cd, .int x, .int kd, .int n, .int sd] : List Value).toArray below meth c0 H locs 0 0 Q0 (F0 m0 50 ls []) := by
                intro k9
                induction k9 with
                | zero => intro j z Lc n7 f7 H locs ls hk9; exact absurd hk9 (Nat.not_lt_zero _)
                | succ k9 ih =>
                  intro j z Lc n7 f7 H locs ls hk9 hjm hLc hr7 hlc hP hD hS hl
                  refine lv_iload hx hb dX8_fill_50 (lv_at hl 7 rfl) ?_
                  refine lv_iload_n hx hb dX8_fill_52 rfl (lv_at hl 3 rfl) ?_
                  refine lv_icmp_ge (tgt := 88) hx hb dX8_fill_53 (by decide) (fun c_9 => ?_) (fun c_9 => ?_)
                  · have hj0 : m - j = 0 := by have := (nI_leI (by omega) (by omega)).mp c_9; omega
                    rw [hj0, filL] at hLc
                    subst hLc
                    have hlen := filL_len kd m sd (RL 1)
                    have hw9 := (row_len hr7 (by omega)).1
                    rw [hlen] at hw9
                    subst hw9
                    refine lv_aload hx hb dX8_fill_88 (lv_at hl 5 rfl) ?_
                    refine va_get (D := D) (ci := 4) (v := .int (nI ((RL 1).length + m))) (C := RX4) (T := TX4) (N := 3) hx hb hts in_X4 hown hK hP 4 rfl rfl 1 (by decide) (hts _ kX8_92) (fun _ h9 => h9) rfl dX8_fill_90 ?_
                    exact hret 93 ls _ _ _ (n0, f0, (RL 1).length + m, f7, n2, f2, n3, f3, va_up RL 1 (filL kd m sd (RL 1))) dX8_fill_93 hP hD hS (⟨hfp, rwOk_1 hrw hr7 (by omega)⟩)
                  · have hjm9 : j < m := Nat.not_le.mp (fun q => c_9 (nI_le q (by omega)))
                    rw [show m - j = m - (j + 1) + 1 by omega, filL] at hLc
                    refine lv_iload hx hb dX8_fill_56 (lv_at hl 6 rfl) ?_
                    refine lv_ldc hx hb hown (hts _ kX8_96) dX8_fill_58 ?_
                    refine lv_imul hx hb dX8_fill_60 ?_
                    refine lv_ldc hx hb hown (hts _ kX8_97) dX8_fill_61 ?_
                    refine lv_iadd hx hb dX8_fill_63 ?_
                    refine lv_istore (lv' := [(6, .int ((z * 1664525) + 1013904223)), (0, .ref cd), (1, .int (nI 1)), (2, .int kd), (3, .int (nI m)), (4, .int sd), (5, .ref r1), (7, .int (nI j))]) hx hb dX8_fill_64 hl (by decide) rfl (fun ls hl => ?_)
                    refine lv_aload hx hb dX8_fill_66 (lv_at hl 6 rfl) ?_
                    refine lv_aload hx hb dX8_fill_68 (lv_at hl 6 rfl) ?_
                    refine lv_iload_n hx hb dX8_fill_70 rfl (lv_at hl 3 rfl) ?_
                    refine lv_iload hx hb dX8_fill_71 (lv_at hl 0 rfl) ?_
                    refine lv_bipush (v := 24) hx hb dX8_fill_73 (by decide) ?_
                    refine lv_iushr hx hb dX8_fill_75 (v := (((z * 1664525) + 1013904223).toUInt32 >>> ((24 : Int32).toUInt32 &&& Int32.toUInt32 31)).toInt32) rfl ?_
                    refine jn_i (wr := [(cd, .inr (8, [.ref rq, .ref wt, .ref wq, .ref mi, .ref mo, .ref ft, .ref ot, .ref gt, .ref rd, .ref tq, .ref wr, .ref s1, .ref s2, .int t0, .int t1, .int t2, .int t3])), (rq, .inl (cR, 4, .inr (.inr (.inr (.inr (rqF r0 r1 r2 r3)))))), (r0, .inr (4, [.ref o0, .int (nI n0), .int 0])), (o0, .inl (cI, 4000, .inl f0)), (r2, .inr (4, [.ref o2, .int (nI n2), .int 0])), (o2, .inl (cI, 8000, .inl f2)), (r3, .inr (4, [.ref o3, .int (nI n3), .int 0])), (o3, .inl (cI, 8000, .inl f3))]) hA hP hD hS [4, 5] [0, 1, 2, 3, 6, 7, 8, 9] rfl rfl (by decide) (by decide) (rn_S (As := [.ref r1, .int kd, .int (top8 (lcg z))]) (rest := [.ref r1]) ⟨hx, hb, hml, hown, hts⟩ (cvS 3 hts zc_yX8_ruled zi_X8 zs_yX8_ruled kX8_98 (by decide +kernel) rfl rfl ⟨Nat.le_of_ble_eq_true rfl, Nat.le_of_ble_eq_true rfl⟩) (c_ruled l D cI cB cJ cR r1 o1 4000 n7 f7 0 Lc kd (top8 (lcg z)) (by decide) (hr7) (by omega) H.size) hK hNw hMk hA hP hD hS [4, 5] rfl rfl (by decide) rfl hl.1 rfl (Nat.le_of_ble_eq_true rfl) dX8_fill_76 ⟨Nat.le_of_ble_eq_true rfl, Nat.le_of_ble_eq_true rfl⟩) (fun ru u9 H locs hru hP hD hS => ?_)
                    try dsimp only at hru
                    have hP : va_P D vwCl [(cd, .inr (8, [.ref rq, .ref wt, .ref wq, .ref mi, .ref mo, .ref ft, .ref ot, .ref gt, .ref rd, .ref tq, .ref wr, .ref s1, .ref s2, .int t0, .int t1, .int t2, .int t3])), (rq, .inl (cR, 4, .inr (.inr (.inr (.inr (rqF r0 r1 r2 r3)))))), (r0, .inr (4, [.ref o0, .int (nI n0), .int 0])), (o0, .inl (cI, 4000, .inl f0)), (r2, .inr (4, [.ref o2, .int (nI n2), .int 0])), (o2, .inl (cI, 8000, .inl f2)), (r3, .inr (4, [.ref o3, .int (nI n3), .int 0])), (o3, .inl (cI, 8000, .inl f3)), (r1, .inr (4, [.ref o1, .int (nI n7), .int 0])), (o1, .inl (cI, 4000, .inl f7))] H := hP
                    have hD : va_D A0 [(cd, .inr (8, [.ref rq, .ref wt, .ref wq, .ref mi, .ref mo, .ref ft, .ref ot, .ref gt, .ref rd, .ref tq, .ref wr, .ref s1, .ref s2, .int t0, .int t1, .int t2, .int t3])), (rq, .inl (cR, 4, .inr (.inr (.inr (.inr (rqF r0 r1 r2 r3)))))), (r0, .inr (4, [.ref o0, .int (nI n0), .int 0])), (o0, .inl (cI, 4000, .inl f0)), (r2, .inr (4, [.ref o2, .int (nI n2), .int 0])), (o2, .inl (cI, 8000, .inl f2)), (r3, .inr (4, [.ref o3, .int (nI n3), .int 0])), (o3, .inl (cI, 8000, .inl f3)), (r1, .inr (4, [.ref o1, .int (nI n7), .int 0])), (o1, .inl (cI, 4000, .inl f7))] := hD
                    subst hru
                    refine jn_v (wr := [(cd, .inr (8, [.ref rq, .ref wt, .ref wq, .ref mi, .ref mo, .ref ft, .ref ot, .ref gt, .ref rd, .ref tq, .ref wr, .ref s1, .ref s2, .int t0, .int t1, .int t2, .int t3])), (rq, .inl (cR, 4, .inr (.inr (.inr (.inr (rqF r0 r1 r2 r3)))))), (r0, .inr (4, [.ref o0, .int (nI n0), .int 0])), (o0, .inl (cI, 4000, .inl f0)), (r2, .inr (4, [.ref o2, .int (nI n2), .int 0])), (o2, .inl (cI, 8000, .inl f2)), (r3, .inr (4, [.ref o3, .int (nI n3), .int 0])), (o3, .inl (cI, 8000, .inl f3))]) hA hP hD hS [8, 9] [0, 1, 2, 3, 4, 5, 6, 7] rfl rfl (by decide) (by decide) (rn_V (As := [.int (rulP Lc kd (top8 (lcg z)))]) (rest := []) ⟨hx, hb, hml, hown, hts⟩ (cvV 1 hts zc_yX4_put zi_X4 zm_yX4_put zv_yX4_put kX8_89 (by decide +kernel) rfl rfl ⟨Nat.le_of_ble_eq_true rfl, Nat.le_of_ble_eq_true rfl⟩) (c_Row_put l D cI cB cJ cR r1 o1 4000 n7 f7 0 Lc (rulP Lc kd (top8 (lcg z))) (by decide) (hr7) H.size) hK hNw hMk hA hP hD hS [8, 9] rfl rfl (by decide) 0 rfl rfl rfl rfl hl.1 rfl (Nat.le_of_ble_eq_true rfl) dX8_fill_79 ⟨Nat.le_of_ble_eq_true rfl, Nat.le_of_ble_eq_true rfl⟩) (fun u9 H locs hpu hP hD hS => ?_)
                    obtain ⟨n8, f8, v8⟩ := u9
                    try dsimp only at hpu
                    have hP : va_P D vwCl [(cd, .inr (8, [.ref rq, .ref wt, .ref wq, .ref mi, .ref mo, .ref ft, .ref ot, .ref gt, .ref rd, .ref tq, .ref wr, .ref s1, .ref s2, .int t0, .int t1, .int t2, .int t3])), (rq, .inl (cR, 4, .inr (.inr (.inr (.inr (rqF r0 r1 r2 r3)))))), (r0, .inr (4, [.ref o0, .int (nI n0), .int 0])), (o0, .inl (cI, 4000, .inl f0)), (r2, .inr (4, [.ref o2, .int (nI n2), .int 0])), (o2, .inl (cI, 8000, .inl f2)), (r3, .inr (4, [.ref o3, .int (nI n3), .int 0])), (o3, .inl (cI, 8000, .inl f3)), (r1, .inr (4, [.ref o1, .int (nI n8), .int v8])), (o1, .inl (cI, 4000, .inl f8))] H := hP
                    have hD : va_D A0 [(cd, .inr (8, [.ref rq, .ref wt, .ref wq, .ref mi, .ref mo, .ref ft, .ref ot, .ref gt, .ref rd, .ref tq, .ref wr, .ref s1, .ref s2, .int t0, .int t1, .int t2, .int t3])), (rq, .inl (cR, 4, .inr (.inr (.inr (.inr (rqF r0 r1 r2 r3)))))), (r0, .inr (4, [.ref o0, .int (nI n0), .int 0])), (o0, .inl (cI, 4000, .inl f0)), (r2, .inr (4, [.ref o2, .int (nI n2), .int 0])), (o2, .inl (cI, 8000, .inl f2)), (r3, .inr (4, [.ref o3, .int (nI n3), .int 0])), (o3, .inl (cI, 8000, .inl f3)), (r1, .inr (4, [.ref o1, .int (nI n8), .int v8])), (o1, .inl (cI, 4000, .inl f8))] := hD
                    have hv8 := (row_len hpu (by simp; omega)).2
                    subst hv8
                    refine lv_iinc (v := nI (j + 1)) (lv' := [(7, .int (nI (j + 1))), (6, .int ((z * 1664525) + 1013904223)), (0, .ref cd), (1, .int (nI 1)), (2, .int kd), (3, .int (nI m)), (4, .int sd), (5, .ref r1)]) hx hb dX8_fill_82 hl (k := 7) rfl (nI_add j 1) (by decide) rfl (fun ls hl => ?_)
                    refine lv_goto (tgt := 50) hx hb dX8_fill_85 (by decide) ?_
                    exact ih (j + 1) (lcg z) (Lc ++ [rulP Lc kd (top8 (lcg z))]) n8 f8 _ _ ls (by omega) (by omega) (hLc) (hpu) (by simp; omega) (hP.sub [0, 1, 2, 3, 8, 9, 4, 5, 6, 7] rfl) (hD.sub [0, 1, 2, 3, 8, 9, 4, 5, 6, 7] (by decide) rfl) hS (lv_sub hl [2, 3, 4, 5, 6, 7, 1, 0] rfl)
              exact loop _ 0 sd (RL 1) n1 f1 _ _ ls (Nat.lt_succ_self _) (Nat.zero_le _) (rfl) (hr1) (rfl) (hP.sub [0, 1, 2, 3, 8, 9, 4, 5, 6, 7] rfl) (hD.sub [0, 1, 2, 3, 8, 9, 4, 5, 6, 7] (by decide) rfl) hS (lv_sub hl [3, 4, 5, 6, 7, 2, 1, 0] rfl)
            · have hf9 : 4000 < (RL 1).length + m := by have := Nat.not_le.mp (fun q => c_8 (nI_le q (by omega))); omega
              rw [if_pos (show rmN 1 < (RL 1).length + m from hf9)] at hfp
              refine lv_bipush (v := -4) hx hb dX8_fill_40 (by decide) ?_
              have hP := hP.sub (ws' := [(cd, .inr (8, [.ref rq, .ref wt, .ref wq, .ref mi, .ref mo, .ref ft, .ref ot, .ref gt, .ref rd, .ref tq, .ref wr, .ref s1, .ref s2, .int t0, .int t1, .int t2, .int t3])), (rq, .inl (cR, 4, .inr (.inr (.inr (.inr (rqF r0 r1 r2 r3)))))), (r0, .inr (4, [.ref o0, .int (nI n0), .int 0])), (o0, .inl (cI, 4000, .inl f0)), (r1, .inr (4, [.ref o1, .int (nI n1), .int 0])), (o1, .inl (cI, 4000, .inl f1)), (r2, .inr (4, [.ref o2, .int (nI n2), .int 0])), (o2, .inl (cI, 8000, .inl f2)), (r3, .inr (4, [.ref o3, .int (nI n3), .int 0])), (o3, .inl (cI, 8000, .inl f3))]) [0, 1, 2, 3, 8, 9, 4, 5, 6, 7] rfl
              have hD := hD.sub (ws' := [(cd, .inr (8, [.ref rq, .ref wt, .ref wq, .ref mi, .ref mo, .ref ft, .ref ot, .ref gt, .ref rd, .ref tq, .ref wr, .ref s1, .ref s2, .int t0, .int t1, .int t2, .int t3])), (rq, .inl (cR, 4, .inr (.inr (.inr (.inr (rqF r0 r1 r2 r3)))))), (r0, .inr (4, [.ref o0, .int (nI n0), .int 0])), (o0, .inl (cI, 4000, .inl f0)), (r1, .inr (4, [.ref o1, .int (nI n1), .int 0])), (o1, .inl (cI, 4000, .inl f1)), (r2, .inr (4, [.ref o2, .int (nI n2), .int 0])), (o2, .inl (cI, 8000, .inl f2)), (r3, .inr (4, [.ref o3, .int (nI n3), .int 0])), (o3, .inl (cI, 8000, .inl f3))]) [0, 1, 2, 3, 8, 9, 4, 5, 6, 7] (by decide) rfl
              exact hret 42 ls _ _ _ (n0, f0, n1, f1, n2, f2, n3, f3, RL) dX8_fill_42 hP hD hS (⟨hfp, hrw⟩)
          · have hnk := rw_n2 hrw
            obtain ⟨hr0, hr1, hr2, hr3, hl0, hl1, hl2, hl3⟩ := id hrw
            rw [hx2] at hl
            have hfp := filP_in (k := 2) (kd := kd) (sd := sd) (RL := RL) (by decide) c_2 (Int32.not_lt.mp c_3) hm8
            rw [← hx2, ← hnm9] at hfp
            refine lv_aload_n hx hb dX8_fill_23 rfl (lv_at hl 0 rfl) ?_
            refine va_get (D := D) (ci := 8) (v := .ref rq) (C := RX8) (T := TX8) (N := 17) hx hb hts in_X8 hown hK hP 0 rfl rfl 0 (by decide) (hts _ kX8_11) (fun _ h9 => h9) rfl dX8_fill_24 ?_
            refine lv_iload_n hx hb dX8_fill_27 rfl (lv_at hl 1 rfl) ?_
            refine ax_rld hx hb hK hP 1 3 rfl rfl 2 (rfl) (by decide) (by decide) rfl dX8_fill_28 ?_
            refine lv_astore (lv' := [(5, .ref r2), (0, .ref cd), (1, .int (nI 2)), (2, .int kd), (3, .int (nI m)), (4, .int sd)]) hx hb dX8_fill_29 hl (by decide) rfl (fun ls hl => ?_)
            refine lv_iload_n hx hb dX8_fill_31 rfl (lv_at hl 4 rfl) ?_
            refine lv_aload hx hb dX8_fill_32 (lv_at hl 0 rfl) ?_
            refine jn_i (wr := [(cd, .inr (8, [.ref rq, .ref wt, .ref wq, .ref mi, .ref mo, .ref ft, .ref ot, .ref gt, .ref rd, .ref tq, .ref wr, .ref s1, .ref s2, .int t0, .int t1, .int t2, .int t3])), (rq, .inl (cR, 4, .inr (.inr (.inr (.inr (rqF r0 r1 r2 r3)))))), (r0, .inr (4, [.ref o0, .int (nI n0), .int 0])), (o0, .inl (cI, 4000, .inl f0)), (r1, .inr (4, [.ref o1, .int (nI n1), .int 0])), (o1, .inl (cI, 4000, .inl f1)), (r3, .inr (4, [.ref o3, .int (nI n3), .int 0])), (o3, .inl (cI, 8000, .inl f3))]) hA hP hD hS [6, 7] [0, 1, 2, 3, 4, 5, 8, 9] rfl rfl (by decide) (by decide) (rn_V (As := []) (rest := [.int (nI m)]) ⟨hx, hb, hml, hown, hts⟩ (cvV 0 hts zc_yX4_room zi_X4 zm_yX4_room zv_yX4_room kX8_85 (by decide +kernel) rfl rfl ⟨Nat.le_of_ble_eq_true rfl, Nat.le_of_ble_eq_true rfl⟩) (c_Row_room l D cI cB cJ cR r2 o2 8000 n2 f2 0 (by decide) (hnk.2) H.size) hK hNw hMk hA hP hD hS [6, 7] rfl rfl (by decide) 0 rfl rfl rfl rfl hl.1 rfl (Nat.le_of_ble_eq_true rfl) dX8_fill_34 ⟨Nat.le_of_ble_eq_true rfl, Nat.le_of_ble_eq_true rfl⟩) (fun rm u9 H locs hrm hP hD hS => ?_)
            try dsimp only at hrm
            have hP : va_P D vwCl [(cd, .inr (8, [.ref rq, .ref wt, .ref wq, .ref mi, .ref mo, .ref ft, .ref ot, .ref gt, .ref rd, .ref tq, .ref wr, .ref s1, .ref s2, .int t0, .int t1, .int t2, .int t3])), (rq, .inl (cR, 4, .inr (.inr (.inr (.inr (rqF r0 r1 r2 r3)))))), (r0, .inr (4, [.ref o0, .int (nI n0), .int 0])), (o0, .inl (cI, 4000, .inl f0)), (r1, .inr (4, [.ref o1, .int (nI n1), .int 0])), (o1, .inl (cI, 4000, .inl f1)), (r3, .inr (4, [.ref o3, .int (nI n3), .int 0])), (o3, .inl (cI, 8000, .inl f3)), (r2, .inr (4, [.ref o2, .int (nI n2), .int 0])), (o2, .inl (cI, 8000, .inl f2))] H := hP
            have hD : va_D A0 [(cd, .inr (8, [.ref rq, .ref wt, .ref wq, .ref mi, .ref mo, .ref ft, .ref ot, .ref gt, .ref rd, .ref tq, .ref wr, .ref s1, .ref s2, .int t0, .int t1, .int t2, .int t3])), (rq, .inl (cR, 4, .inr (.inr (.inr (.inr (rqF r0 r1 r2 r3)))))), (r0, .inr (4, [.ref o0, .int (nI n0), .int 0])), (o0, .inl (cI, 4000, .inl f0)), (r1, .inr (4, [.ref o1, .int (nI n1), .int 0])), (o1, .inl (cI, 4000, .inl f1)), (r3, .inr (4, [.ref o3, .int (nI n3), .int 0])), (o3, .inl (cI, 8000, .inl f3)), (r2, .inr (4, [.ref o2, .int (nI n2), .int 0])), (o2, .inl (cI, 8000, .inl f2))] := hD
            subst hrm
            refine lv_icmp_le (tgt := 43) hx hb dX8_fill_37 (by decide) (fun c_11 => ?_) (fun c_11 => ?_)
            · have hf9 : ¬ 8000 < (RL 2).length + m := by have := (nI_leI (by omega) (by omega)).mp c_11; omega
              rw [if_neg (show ¬ rmN 2 < (RL 2).length + m from hf9)] at hfp
              refine lv_iload hx hb dX8_fill_43 (lv_at hl 5 rfl) ?_
              refine lv_istore (lv' := [(6, .int sd), (5, .ref r2), (0, .ref cd), (1, .int (nI 2)), (2, .int kd), (3, .int (nI m)), (4, .int sd)]) hx hb dX8_fill_45 hl (by decide) rfl (fun ls hl => ?_)
              refine lv_iconst (v := 0) hx hb dX8_fill_47 (by decide) ?_
              refine ri (y := nI 0) (nI_0.symm) ?_
              refine lv_istore (lv' := [(7, .int (nI 0)), (6, .int sd), (5, .ref r2), (0, .ref cd), (1, .int (nI 2)), (2, .int kd), (3, .int (nI m)), (4, .int sd)]) hx hb dX8_fill_48 hl (by decide) rfl (fun ls hl => ?_)
              have loop : ∀ (k9 : Nat) (j : Nat) (z : Int32) (Lc : List Int32) (n7 : Nat) (f7 : Nat → Int32) (H : Heap) (locs : List Loc) (ls : Array Slot), m - j < k9 → (j ≤ m) → (filL kd (m - j) z Lc = filL kd m sd (RL 2)) → (rowIs 8000 Lc n7 f7 0) → (Lc.length = (RL 2).length + j) → va_P D vwCl [(cd, .inr (8, [.ref rq, .ref wt, .ref wq, .ref mi, .ref mo, .ref ft, .ref ot, .ref gt, .ref rd, .ref tq, .ref wr, .ref s1, .ref s2, .int t0, .int t1, .int t2, .int t3])), (rq, .inl (cR, 4, .inr (.inr (.inr (.inr (rqF r0 r1 r2 r3)))))), (r0, .inr (4, [.ref o0, .int (nI n0), .int 0])), (o0, .inl (cI, 4000, .inl f0)), (r1, .inr (4, [.ref o1, .int (nI n1), .int 0])), (o1, .inl (cI, 4000, .inl f1)), (r2, .inr (4, [.ref o2, .int (nI n7), .int 0])), (o2, .inl (cI, 8000, .inl f7)), (r3, .inr (4, [.ref o3, .int (nI n3), .int 0])), (o3, .inl (cI, 8000, .inl f3))] H → va_D A0 [(cd, .inr (8, [.ref rq, .ref wt, .ref wq, .ref mi, .ref mo, .ref ft, .ref ot, .ref gt, .ref rd, .ref tq, .ref wr, .ref s1, .ref s2, .int t0, .int t1, .int t2, .int t3])), (rq, .inl (cR, 4, .inr (.inr (.inr (.inr (rqF r0 r1 r2 r3)))))), (r0, .inr (4, [.ref o0, .int (nI n0), .int 0])), (o0, .inl (cI, 4000, .inl f0)), (r1, .inr (4, [.ref o1, .int (nI n1), .int 0])), (o1, .inl (cI, 4000, .inl f1)), (r2, .inr (4, [.ref o2, .int (nI n7), .int 0])), (o2, .inl (cI, 8000, .inl f7)), (r3, .inr (4, [.ref o3, .int (nI n3), .int 0])), (o3, .inl (cI, 8000, .inl f3))] → va_S A0 s0.heap H locs → lv_has ls 8 [(0, .ref cd), (1, .int (nI 2)), (2, .int kd), (3, .int (nI m)), (4, .int sd), (5, .ref r2), (6, .int z), (7, .int (nI j))] → W p0 l e0 ({ frames := 2, cells := 0, slots := 0, locals := 44 }) s0 m0 ([.ref cd, .int x, .int kd, .int n, .int sd] : List Value).toArray below meth c0 H locs 0 0 Q0 (F0 m0 50 ls []) := by
                intro k9
                induction k9 with
                | zero => intro j z Lc n7 f7 H locs ls hk9; exact absurd hk9 (Nat.not_lt_zero _)
                | succ k9 ih =>
                  intro j z Lc n7 f7 H locs ls hk9 hjm hLc hr7 hlc hP hD hS hl
                  refine lv_iload hx hb dX8_fill_50 (lv_at hl 7 rfl) ?_
                  refine lv_iload_n hx hb dX8_fill_52 rfl (lv_at hl 3 rfl) ?_
                  refine lv_icmp_ge (tgt := 88) hx hb dX8_fill_53 (by decide) (fun c_12 => ?_) (fun c_12 => ?_)
                  · have hj0 : m - j = 0 := by have := (nI_leI (by omega) (by omega)).mp c_12; omega
                    rw [hj0, filL] at hLc
                    subst hLc
                    have hlen := filL_len kd m sd (RL 2)
                    have hw9 := (row_len hr7 (by omega)).1
                    rw [hlen] at hw9
                    subst hw9
                    refine lv_aload hx hb dX8_fill_88 (lv_at hl 5 rfl) ?_
                    refine va_get (D := D) (ci := 4) (v := .int (nI ((RL 2).length + m))) (C := RX4) (T := TX4) (N := 3) hx hb hts in_X4 hown hK hP 6 rfl rfl 1 (by decide) (hts _ kX8_92) (fun _ h9 => h9) rfl dX8_fill_90 ?_
                    exact hret 93 ls _ _ _ (n0, f0, n1, f1, (RL 2).length + m, f7, n3, f3, va_up RL 2 (filL kd m sd (RL 2))) dX8_fill_93 hP hD hS (⟨hfp, rwOk_2 hrw hr7 (by omega)⟩)
                  · have hjm9 : j < m := Nat.not_le.mp (fun q => c_12 (nI_le q (by omega)))
                    rw [show m - j = m - (j + 1) + 1 by omega, filL] at hLc
                    refine lv_iload hx hb dX8_fill_56 (lv_at hl 6 rfl) ?_
                    refine lv_ldc hx hb hown (hts _ kX8_96) dX8_fill_58 ?_
                    refine lv_imul hx hb dX8_fill_60 ?_
                    refine lv_ldc hx hb hown (hts _ kX8_97) dX8_fill_61 ?_
                    refine lv_iadd hx hb dX8_fill_63 ?_
                    refine lv_istore (lv' := [(6, .int ((z * 1664525) + 1013904223)), (0, .ref cd), (1, .int (nI 2)), (2, .int kd), (3, .int (nI m)), (4, .int sd), (5, .ref r2), (7, .int (nI j))]) hx hb dX8_fill_64 hl (by decide) rfl (fun ls hl => ?_)
                    refine lv_aload hx hb dX8_fill_66 (lv_at hl 6 rfl) ?_
                    refine lv_aload hx hb dX8_fill_68 (lv_at hl 6 rfl) ?_
                    refine lv_iload_n hx hb dX8_fill_70 rfl (lv_at hl 3 rfl) ?_
                    refine lv_iload hx hb dX8_fill_71 (lv_at hl 0 rfl) ?_
                    refine lv_bipush (v := 24) hx hb dX8_fill_73 (by decide) ?_
                    refine lv_iushr hx hb dX8_fill_75 (v := (((z * 1664525) + 1013904223).toUInt32 >>> ((24 : Int32).toUInt32 &&& Int32.toUInt32 31)).toInt32) rfl ?_
                    refine jn_i (wr := [(cd, .inr (8, [.ref rq, .ref wt, .ref wq, .ref mi, .ref mo, .ref ft, .ref ot, .ref gt, .ref rd, .ref tq, .ref wr, .ref s1, .ref s2, .int t0, .int t1, .int t2, .int t3])), (rq, .inl (cR, 4, .inr (.inr (.inr (.inr (rqF r0 r1 r2 r3)))))), (r0, .inr (4, [.ref o0, .int (nI n0), .int 0])), (o0, .inl (cI, 4000, .inl f0)), (r1, .inr (4, [.ref o1, .int (nI n1), .int 0])), (o1, .inl (cI, 4000, .inl f1)), (r3, .inr (4, [.ref o3, .int (nI n3), .int 0])), (o3, .inl (cI, 8000, .inl f3))]) hA hP hD hS [6, 7] [0, 1, 2, 3, 4, 5, 8, 9] rfl rfl (by decide) (by decide) (rn_S (As := [.ref r2, .int kd, .int (top8 (lcg z))]) (rest := [.ref r2]) ⟨hx, hb, hml, hown, hts⟩ (cvS 3 hts zc_yX8_ruled zi_X8 zs_yX8_ruled kX8_98 (by decide +kernel) rfl rfl ⟨Nat.le_of_ble_eq_true rfl, Nat.le_of_ble_eq_true rfl⟩) (c_ruled l D cI cB cJ cR r2 o2 8000 n7 f7 0 Lc kd (top8 (lcg z)) (by decide) (hr7) (by omega) H.size) hK hNw hMk hA hP hD hS [6, 7] rfl rfl (by decide) rfl hl.1 rfl (Nat.le_of_ble_eq_true rfl) dX8_fill_76 ⟨Nat.le_of_ble_eq_true rfl, Nat.le_of_ble_eq_true rfl⟩) (fun ru u9 H locs hru hP hD hS => ?_)
                    try dsimp only at hru
                    have hP : va_P D vwCl [(cd, .inr (8, [.ref rq, .ref wt, .ref wq, .ref mi, .ref mo, .ref ft, .ref ot, .ref gt, .ref rd, .ref tq, .ref wr, .ref s1, .ref s2, .int t0, .int t1, .int t2, .int t3])), (rq, .inl (cR, 4, .inr (.inr (.inr (.inr (rqF r0 r1 r2 r3)))))), (r0, .inr (4, [.ref o0, .int (nI n0), .int 0])), (o0, .inl (cI, 4000, .inl f0)), (r1, .inr (4, [.ref o1, .int (nI n1), .int 0])), (o1, .inl (cI, 4000, .inl f1)), (r3, .inr (4, [.ref o3, .int (nI n3), .int 0])), (o3, .inl (cI, 8000, .inl f3)), (r2, .inr (4, [.ref o2, .int (nI n7), .int 0])), (o2, .inl (cI, 8000, .inl f7))] H := hP
                    have hD : va_D A0 [(cd, .inr (8, [.ref rq, .ref wt, .ref wq, .ref mi, .ref mo, .ref ft, .ref ot, .ref gt, .ref rd, .ref tq, .ref wr, .ref s1, .ref s2, .int t0, .int t1, .int t2, .int t3])), (rq, .inl (cR, 4, .inr (.inr (.inr (.inr (rqF r0 r1 r2 r3)))))), (r0, .inr (4, [.ref o0, .int (nI n0), .int 0])), (o0, .inl (cI, 4000, .inl f0)), (r1, .inr (4, [.ref o1, .int (nI n1), .int 0])), (o1, .inl (cI, 4000, .inl f1)), (r3, .inr (4, [.ref o3, .int (nI n3), .int 0])), (o3, .inl (cI, 8000, .inl f3)), (r2, .inr (4, [.ref o2, .int (nI n7), .int 0])), (o2, .inl (cI, 8000, .inl f7))] := hD
                    subst hru
                    refine jn_v (wr := [(cd, .inr (8, [.ref rq, .ref wt, .ref wq, .ref mi, .ref mo, .ref ft, .ref ot, .ref gt, .ref rd, .ref tq, .ref wr, .ref s1, .ref s2, .int t0, .int t1, .int t2, .int t3])), (rq, .inl (cR, 4, .inr (.inr (.inr (.inr (rqF r0 r1 r2 r3)))))), (r0, .inr (4, [.ref o0, .int (nI n0), .int 0])), (o0, .inl (cI, 4000, .inl f0)), (r1, .inr (4, [.ref o1, .int (nI n1), .int 0])), (o1, .inl (cI, 4000, .inl f1)), (r3, .inr (4, [.ref o3, .int (nI n3), .int 0])), (o3, .inl (cI, 8000, .inl f3))]) hA hP hD hS [8, 9] [0, 1, 2, 3, 4, 5, 6, 7] rfl rfl (by decide) (by decide) (rn_V (As := [.int (rulP Lc kd (top8 (lcg z)))]) (rest := []) ⟨hx, hb, hml, hown, hts⟩ (cvV 1 hts zc_yX4_put zi_X4 zm_yX4_put zv_yX4_put kX8_89 (by decide +kernel) rfl rfl ⟨Nat.le_of_ble_eq_true rfl, Nat.le_of_ble_eq_true rfl⟩) (c_Row_put l D cI cB cJ cR r2 o2 8000 n7 f7 0 Lc (rulP Lc kd (top8 (lcg z))) (by decide) (hr7) H.size) hK hNw hMk hA hP hD hS [8, 9] rfl rfl (by decide) 0 rfl rfl rfl rfl hl.1 rfl (Nat.le_of_ble_eq_true rfl) dX8_fill_79 ⟨Nat.le_of_ble_eq_true rfl, Nat.le_of_ble_eq_true rfl⟩) (fun u9 H locs hpu hP hD hS => ?_)
                    obtain ⟨n8, f8, v8⟩ := u9
                    try dsimp only at hpu
                    have hP : va_P D vwCl [(cd, .inr (8, [.ref rq, .ref wt, .ref wq, .ref mi, .ref mo, .ref ft, .ref ot, .ref gt, .ref rd, .ref tq, .ref wr, .ref s1, .ref s2, .int t0, .int t1, .int t2, .int t3])), (rq, .inl (cR, 4, .inr (.inr (.inr (.inr (rqF r0 r1 r2 r3)))))), (r0, .inr (4, [.ref o0, .int (nI n0), .int 0])), (o0, .inl (cI, 4000, .inl f0)), (r1, .inr (4, [.ref o1, .int (nI n1), .int 0])), (o1, .inl (cI, 4000, .inl f1)), (r3, .inr (4, [.ref o3, .int (nI n3), .int 0])), (o3, .inl (cI, 8000, .inl f3)), (r2, .inr (4, [.ref o2, .int (nI n8), .int v8])), (o2, .inl (cI, 8000, .inl f8))] H := hP
                    have hD : va_D A0 [(cd, .inr (8, [.ref rq, .ref wt, .ref wq, .ref mi, .ref mo, .ref ft, .ref ot, .ref gt, .ref rd, .ref tq, .ref wr, .ref s1, .ref s2, .int t0, .int t1, .int t2, .int t3])), (rq, .inl (cR, 4, .inr (.inr (.inr (.inr (rqF r0 r1 r2 r3)))))), (r0, .inr (4, [.ref o0, .int (nI n0), .int 0])), (o0, .inl (cI, 4000, .inl f0)), (r1, .inr (4, [.ref o1, .int (nI n1), .int 0])), (o1, .inl (cI, 4000, .inl f1)), (r3, .inr (4, [.ref o3, .int (nI n3), .int 0])), (o3, .inl (cI, 8000, .inl f3)), (r2, .inr (4, [.ref o2, .int (nI n8), .int v8])), (o2, .inl (cI, 8000, .inl f8))] := hD
                    have hv8 := (row_len hpu (by simp; omega)).2
                    subst hv8
                    refine lv_iinc (v := nI (j + 1)) (lv' := [(7, .int (nI (j + 1))), (6, .int ((z * 1664525) + 1013904223)), (0, .ref cd), (1, .int (nI 2)), (2, .int kd), (3, .int (nI m)), (4, .int sd), (5, .ref r2)]) hx hb dX8_fill_82 hl (k := 7) rfl (nI_add j 1) (by decide) rfl (fun ls hl => ?_)
                    refine lv_goto (tgt := 50) hx hb dX8_fill_85 (by decide) ?_
                    exact ih (j + 1) (lcg z) (Lc ++ [rulP Lc kd (top8 (lcg z))]) n8 f8 _ _ ls (by omega) (by omega) (hLc) (hpu) (by simp; omega) (hP.sub [0, 1, 2, 3, 4, 5, 8, 9, 6, 7] rfl) (hD.sub [0, 1, 2, 3, 4, 5, 8, 9, 6, 7] (by decide) rfl) hS (lv_sub hl [2, 3, 4, 5, 6, 7, 1, 0] rfl)
              exact loop _ 0 sd (RL 2) n2 f2 _ _ ls (Nat.lt_succ_self _) (Nat.zero_le _) (rfl) (hr2) (rfl) (hP.sub [0, 1, 2, 3, 4, 5, 8, 9, 6, 7] rfl) (hD.sub [0, 1, 2, 3, 4, 5, 8, 9, 6, 7] (by decide) rfl) hS (lv_sub hl [3, 4, 5, 6, 7, 2, 1, 0] rfl)
            · have hf9 : 8000 < (RL 2).length + m := by have := Nat.not_le.mp (fun q => c_11 (nI_le q (by omega))); omega
              rw [if_pos (show rmN 2 < (RL 2).length + m from hf9)] at hfp
              refine lv_bipush (v := -4) hx hb dX8_fill_40 (by decide) ?_
              have hP := hP.sub (ws' := [(cd, .inr (8, [.ref rq, .ref wt, .ref wq, .ref mi, .ref mo, .ref ft, .ref ot, .ref gt, .ref rd, .ref tq, .ref wr, .ref s1, .ref s2, .int t0, .int t1, .int t2, .int t3])), (rq, .inl (cR, 4, .inr (.inr (.inr (.inr (rqF r0 r1 r2 r3)))))), (r0, .inr (4, [.ref o0, .int (nI n0), .int 0])), (o0, .inl (cI, 4000, .inl f0)), (r1, .inr (4, [.ref o1, .int (nI n1), .int 0])), (o1, .inl (cI, 4000, .inl f1)), (r2, .inr (4, [.ref o2, .int (nI n2), .int 0])), (o2, .inl (cI, 8000, .inl f2)), (r3, .inr (4, [.ref o3, .int (nI n3), .int 0])), (o3, .inl (cI, 8000, .inl f3))]) [0, 1, 2, 3, 4, 5, 8, 9, 6, 7] rfl
              have hD := hD.sub (ws' := [(cd, .inr (8, [.ref rq, .ref wt, .ref wq, .ref mi, .ref mo, .ref ft, .ref ot, .ref gt, .ref rd, .ref tq, .ref wr, .ref s1, .ref s2, .int t0, .int t1, .int t2, .int t3])), (rq, .inl (cR, 4, .inr (.inr (.inr (.inr (rqF r0 r1 r2 r3)))))), (r0, .inr (4, [.ref o0, .int (nI n0), .int 0])), (o0, .inl (cI, 4000, .inl f0)), (r1, .inr (4, [.ref o1, .int (nI n1), .int 0])), (o1, .inl (cI, 4000, .inl f1)), (r2, .inr (4, [.ref o2, .int (nI n2), .int 0])), (o2, .inl (cI, 8000, .inl f2)), (r3, .inr (4, [.ref o3, .int (nI n3), .int 0])), (o3, .inl (cI, 8000, .inl f3))]) [0, 1, 2, 3, 4, 5, 8, 9, 6, 7] (by decide) rfl
              exact hret 42 ls _ _ _ (n0, f0, n1, f1, n2, f2, n3, f3, RL) dX8_fill_42 hP hD hS (⟨hfp, hrw⟩)
          · have hnk := rw_n3 hrw
            obtain ⟨hr0, hr1, hr2, hr3, hl0, hl1, hl2, hl3⟩ := id hrw
            rw [hx3] at hl
            have hfp := filP_in (k := 3) (kd := kd) (sd := sd) (RL := RL) (by decide) c_2 (Int32.not_lt.mp c_3) hm8
            rw [← hx3, ← hnm9] at hfp
            refine lv_aload_n hx hb dX8_fill_23 rfl (lv_at hl 0 rfl) ?_
            refine va_get (D := D) (ci := 8) (v := .ref rq) (C := RX8) (T := TX8) (N := 17) hx hb hts in_X8 hown hK hP 0 rfl rfl 0 (by decide) (hts _ kX8_11) (fun _ h9 => h9) rfl dX8_fill_24 ?_
            refine lv_iload_n hx hb dX8_fill_27 rfl (lv_at hl 1 rfl) ?_
            refine ax_rld hx hb hK hP 1 3 rfl rfl 3 (rfl) (by decide) (by decide) rfl dX8_fill_28 ?_
            refine lv_astore (lv' := [(5, .ref r3), (0, .ref cd), (1, .int (nI 3)), (2, .int kd), (3, .int (nI m)), (4, .int sd)]) hx hb dX8_fill_29 hl (by decide) rfl (fun ls hl => ?_)
            refine lv_iload_n hx hb dX8_fill_31 rfl (lv_at hl 4 rfl) ?_
            refine lv_aload hx hb dX8_fill_32 (lv_at hl 0 rfl) ?_
            refine jn_i (wr := [(cd, .inr (8, [.ref rq, .ref wt, .ref wq, .ref mi, .ref mo, .ref ft, .ref ot, .ref gt, .ref rd, .ref tq, .ref wr, .ref s1, .ref s2, .int t0, .int t1, .int t2, .int t3])), (rq, .inl (cR, 4, .inr (.inr (.inr (.inr (rqF r0 r1 r2 r3)))))), (r0, .inr (4, [.ref o0, .int (nI n0), .int 0])), (o0, .inl (cI, 4000, .inl f0)), (r1, .inr (4, [.ref o1, .int (nI n1), .int 0])), (o1, .inl (cI, 4000, .inl f1)), (r2, .inr (4, [.ref o2, .int (nI n2), .int 0])), (o2, .inl (cI, 8000, .inl f2))]) hA hP hD hS [8, 9] [0, 1, 2, 3, 4, 5, 6, 7] rfl rfl (by decide) (by decide) (rn_V (As := []) (rest := [.int (nI m)]) ⟨hx, hb, hml, hown, hts⟩ (cvV 0 hts zc_yX4_room zi_X4 zm_yX4_room zv_yX4_room kX8_85 (by decide +kernel) rfl rfl ⟨Nat.le_of_ble_eq_true rfl, Nat.le_of_ble_eq_true rfl⟩) (c_Row_room l D cI cB cJ cR r3 o3 8000 n3 f3 0 (by decide) (hnk.2) H.size) hK hNw hMk hA hP hD hS [8, 9] rfl rfl (by decide) 0 rfl rfl rfl rfl hl.1 rfl (Nat.le_of_ble_eq_true rfl) dX8_fill_34 ⟨Nat.le_of_ble_eq_true rfl, Nat.le_of_ble_eq_true rfl⟩) (fun rm u9 H locs hrm hP hD hS => ?_)
            try dsimp only at hrm
            have hP : va_P D vwCl [(cd, .inr (8, [.ref rq, .ref wt, .ref wq, .ref mi, .ref mo, .ref ft, .ref ot, .ref gt, .ref rd, .ref tq, .ref wr, .ref s1, .ref s2, .int t0, .int t1, .int t2, .int t3])), (rq, .inl (cR, 4, .inr (.inr (.inr (.inr (rqF r0 r1 r2 r3)))))), (r0, .inr (4, [.ref o0, .int (nI n0), .int 0])), (o0, .inl (cI, 4000, .inl f0)), (r1, .inr (4, [.ref o1, .int (nI n1), .int 0])), (o1, .inl (cI, 4000, .inl f1)), (r2, .inr (4, [.ref o2, .int (nI n2), .int 0])), (o2, .inl (cI, 8000, .inl f2)), (r3, .inr (4, [.ref o3, .int (nI n3), .int 0])), (o3, .inl (cI, 8000, .inl f3))] H := hP
            have hD : va_D A0 [(cd, .inr (8, [.ref rq, .ref wt, .ref wq, .ref mi, .ref mo, .ref ft, .ref ot, .ref gt, .ref rd, .ref tq, .ref wr, .ref s1, .ref s2, .int t0, .int t1, .int t2, .int t3])), (rq, .inl (cR, 4, .inr (.inr (.inr (.inr (rqF r0 r1 r2 r3)))))), (r0, .inr (4, [.ref o0, .int (nI n0), .int 0])), (o0, .inl (cI, 4000, .inl f0)), (r1, .inr (4, [.ref o1, .int (nI n1), .int 0])), (o1, .inl (cI, 4000, .inl f1)), (r2, .inr (4, [.ref o2, .int (nI n2), .int 0])), (o2, .inl (cI, 8000, .inl f2)), (r3, .inr (4, [.ref o3, .int (nI n3), .int 0])), (o3, .inl (cI, 8000, .inl f3))] := hD
            subst hrm
            refine lv_icmp_le (tgt := 43) hx hb dX8_fill_37 (by decide) (fun c_14 => ?_) (fun c_14 => ?_)
            · have hf9 : ¬ 8000 < (RL 3).length + m := by have := (nI_leI (by omega) (by omega)).mp c_14; omega
              rw [if_neg (show ¬ rmN 3 < (RL 3).length + m from hf9)] at hfp
              refine lv_iload hx hb dX8_fill_43 (lv_at hl 5 rfl) ?_
              refine lv_istore (lv' := [(6, .int sd), (5, .ref r3), (0, .ref cd), (1, .int (nI 3)), (2, .int kd), (3, .int (nI m)), (4, .int sd)]) hx hb dX8_fill_45 hl (by decide) rfl (fun ls hl => ?_)
              refine lv_iconst (v := 0) hx hb dX8_fill_47 (by decide) ?_
              refine ri (y := nI 0) (nI_0.symm) ?_
              refine lv_istore (lv' := [(7, .int (nI 0)), (6, .int sd), (5, .ref r3), (0, .ref cd), (1, .int (nI 3)), (2, .int kd), (3, .int (nI m)), (4, .int sd)]) hx hb dX8_fill_48 hl (by decide) rfl (fun ls hl => ?_)
              have loop : ∀ (k9 : Nat) (j : Nat) (z : Int32) (Lc : List Int32) (n7 : Nat) (f7 : Nat → Int32) (H : Heap) (locs : List Loc) (ls : Array Slot), m - j < k9 → (j ≤ m) → (filL kd (m - j) z Lc = filL kd m sd (RL 3)) → (rowIs 8000 Lc n7 f7 0) → (Lc.length = (RL 3).length + j) → va_P D vwCl [(cd, .inr (8, [.ref rq, .ref wt, .ref wq, .ref mi, .ref mo, .ref ft, .ref ot, .ref gt, .ref rd, .ref tq, .ref wr, .ref s1, .ref s2, .int t0, .int t1, .int t2, .int t3])), (rq, .inl (cR, 4, .inr (.inr (.inr (.inr (rqF r0 r1 r2 r3)))))), (r0, .inr (4, [.ref o0, .int (nI n0), .int 0])), (o0, .inl (cI, 4000, .inl f0)), (r1, .inr (4, [.ref o1, .int (nI n1), .int 0])), (o1, .inl (cI, 4000, .inl f1)), (r2, .inr (4, [.ref o2, .int (nI n2), .int 0])), (o2, .inl (cI, 8000, .inl f2)), (r3, .inr (4, [.ref o3, .int (nI n7), .int 0])), (o3, .inl (cI, 8000, .inl f7))] H → va_D A0 [(cd, .inr (8, [.ref rq, .ref wt, .ref wq, .ref mi, .ref mo, .ref ft, .ref ot, .ref gt, .ref rd, .ref tq, .ref wr, .ref s1, .ref s2, .int t0, .int t1, .int t2, .int t3])), (rq, .inl (cR, 4, .inr (.inr (.inr (.inr (rqF r0 r1 r2 r3)))))), (r0, .inr (4, [.ref o0, .int (nI n0), .int 0])), (o0, .inl (cI, 4000, .inl f0)), (r1, .inr (4, [.ref o1, .int (nI n1), .int 0])), (o1, .inl (cI, 4000, .inl f1)), (r2, .inr (4, [.ref o2, .int (nI n2), .int 0])), (o2, .inl (cI, 8000, .inl f2)), (r3, .inr (4, [.ref o3, .int (nI n7), .int 0])), (o3, .inl (cI, 8000, .inl f7))] → va_S A0 s0.heap H locs → lv_has ls 8 [(0, .ref cd), (1, .int (nI 3)), (2, .int kd), (3, .int (nI m)), (4, .int sd), (5, .ref r3), (6, .int z), (7, .int (nI j))] → W p0 l e0 ({ frames := 2, cells := 0, slots := 0, locals := 44 }) s0 m0 ([.ref cd, .int x, .int kd, .int n, .int sd] : List Value).toArray below meth c0 H locs 0 0 Q0 (F0 m0 50 ls []) := by
                intro k9
                induction k9 with
                | zero => intro j z Lc n7 f7 H locs ls hk9; exact absurd hk9 (Nat.not_lt_zero _)
                | succ k9 ih =>
                  intro j z Lc n7 f7 H locs ls hk9 hjm hLc hr7 hlc hP hD hS hl
                  refine lv_iload hx hb dX8_fill_50 (lv_at hl 7 rfl) ?_
                  refine lv_iload_n hx hb dX8_fill_52 rfl (lv_at hl 3 rfl) ?_
                  refine lv_icmp_ge (tgt := 88) hx hb dX8_fill_53 (by decide) (fun c_15 => ?_) (fun c_15 => ?_)
                  · have hj0 : m - j = 0 := by have := (nI_leI (by omega) (by omega)).mp c_15; omega
                    rw [hj0, filL] at hLc
                    subst hLc
                    have hlen := filL_len kd m sd (RL 3)
                    have hw9 := (row_len hr7 (by omega)).1
                    rw [hlen] at hw9
                    subst hw9
                    refine lv_aload hx hb dX8_fill_88 (lv_at hl 5 rfl) ?_
                    refine va_get (D := D) (ci := 4) (v := .int (nI ((RL 3).length + m))) (C := RX4) (T := TX4) (N := 3) hx hb hts in_X4 hown hK hP 8 rfl rfl 1 (by decide) (hts _ kX8_92) (fun _ h9 => h9) rfl dX8_fill_90 ?_
                    exact hret 93 ls _ _ _ (n0, f0, n1, f1, n2, f2, (RL 3).length + m, f7, va_up RL 3 (filL kd m sd (RL 3))) dX8_fill_93 hP hD hS (⟨hfp, rwOk_3 hrw hr7 (by omega)⟩)
                  · have hjm9 : j < m := Nat.not_le.mp (fun q => c_15 (nI_le q (by omega)))
                    rw [show m - j = m - (j + 1) + 1 by omega, filL] at hLc
                    refine lv_iload hx hb dX8_fill_56 (lv_at hl 6 rfl) ?_
                    refine lv_ldc hx hb hown (hts _ kX8_96) dX8_fill_58 ?_
                    refine lv_imul hx hb dX8_fill_60 ?_
                    refine lv_ldc hx hb hown (hts _ kX8_97) dX8_fill_61 ?_
                    refine lv_iadd hx hb dX8_fill_63 ?_
                    refine lv_istore (lv' := [(6, .int ((z * 1664525) + 1013904223)), (0, .ref cd), (1, .int (nI 3)), (2, .int kd), (3, .int (nI m)), (4, .int sd), (5, .ref r3), (7, .int (nI j))]) hx hb dX8_fill_64 hl (by decide) rfl (fun ls hl => ?_)
                    refine lv_aload hx hb dX8_fill_66 (lv_at hl 6 rfl) ?_
                    refine lv_aload hx hb dX8_fill_68 (lv_at hl 6 rfl) ?_
                    refine lv_iload_n hx hb dX8_fill_70 rfl (lv_at hl 3 rfl) ?_
                    refine lv_iload hx hb dX8_fill_71 (lv_at hl 0 rfl) ?_
                    refine lv_bipush (v := 24) hx hb dX8_fill_73 (by decide) ?_
                    refine lv_iushr hx hb dX8_fill_75 (v := (((z * 1664525) + 1013904223).toUInt32 >>> ((24 : Int32).toUInt32 &&& Int32.toUInt32 31)).toInt32) rfl ?_
                    refine jn_i (wr := [(cd, .inr (8, [.ref rq, .ref wt, .ref wq, .ref mi, .ref mo, .ref ft, .ref ot, .ref gt, .ref rd, .ref tq, .ref wr, .ref s1, .ref s2, .int t0, .int t1, .int t2, .int t3])), (rq, .inl (cR, 4, .inr (.inr (.inr (.inr (rqF r0 r1 r2 r3)))))), (r0, .inr (4, [.ref o0, .int (nI n0), .int 0])), (o0, .inl (cI, 4000, .inl f0)), (r1, .inr (4, [.ref o1, .int (nI n1), .int 0])), (o1, .inl (cI, 4000, .inl f1)), (r2, .inr (4, [.ref o2, .int (nI n2), .int 0])), (o2, .inl (cI, 8000, .inl f2))]) hA hP hD hS [8, 9] [0, 1, 2, 3, 4, 5, 6, 7] rfl rfl (by decide) (by decide) (rn_S (As := [.ref r3, .int kd, .int (top8 (lcg z))]) (rest := [.ref r3]) ⟨hx, hb, hml, hown, hts⟩ (cvS 3 hts zc_yX8_ruled zi_X8 zs_yX8_ruled kX8_98 (by decide +kernel) rfl rfl ⟨Nat.le_of_ble_eq_true rfl, Nat.le_of_ble_eq_true rfl⟩) (c_ruled l D cI cB cJ cR r3 o3 8000 n7 f7 0 Lc kd (top8 (lcg z)) (by decide) (hr7) (by omega) H.size) hK hNw hMk hA hP hD hS [8, 9] rfl rfl (by decide) rfl hl.1 rfl (Nat.le_of_ble_eq_true rfl) dX8_fill_76 ⟨Nat.le_of_ble_eq_true rfl, Nat.le_of_ble_eq_true rfl⟩) (fun ru u9 H locs hru hP hD hS => ?_)
                    try dsimp only at hru
                    have hP : va_P D vwCl [(cd, .inr (8, [.ref rq, .ref wt, .ref wq, .ref mi, .ref mo, .ref ft, .ref ot, .ref gt, .ref rd, .ref tq, .ref wr, .ref s1, .ref s2, .int t0, .int t1, .int t2, .int t3])), (rq, .inl (cR, 4, .inr (.inr (.inr (.inr (rqF r0 r1 r2 r3)))))), (r0, .inr (4, [.ref o0, .int (nI n0), .int 0])), (o0, .inl (cI, 4000, .inl f0)), (r1, .inr (4, [.ref o1, .int (nI n1), .int 0])), (o1, .inl (cI, 4000, .inl f1)), (r2, .inr (4, [.ref o2, .int (nI n2), .int 0])), (o2, .inl (cI, 8000, .inl f2)), (r3, .inr (4, [.ref o3, .int (nI n7), .int 0])), (o3, .inl (cI, 8000, .inl f7))] H := hP
                    have hD : va_D A0 [(cd, .inr (8, [.ref rq, .ref wt, .ref wq, .ref mi, .ref mo, .ref ft, .ref ot, .ref gt, .ref rd, .ref tq, .ref wr, .ref s1, .ref s2, .int t0, .int t1, .int t2, .int t3])), (rq, .inl (cR, 4, .inr (.inr (.inr (.inr (rqF r0 r1 r2 r3)))))), (r0, .inr (4, [.ref o0, .int (nI n0), .int 0])), (o0, .inl (cI, 4000, .inl f0)), (r1, .inr (4, [.ref o1, .int (nI n1), .int 0])), (o1, .inl (cI, 4000, .inl f1)), (r2, .inr (4, [.ref o2, .int (nI n2), .int 0])), (o2, .inl (cI, 8000, .inl f2)), (r3, .inr (4, [.ref o3, .int (nI n7), .int 0])), (o3, .inl (cI, 8000, .inl f7))] := hD
                    subst hru
                    refine jn_v (wr := [(cd, .inr (8, [.ref rq, .ref wt, .ref wq, .ref mi, .ref mo, .ref ft, .ref ot, .ref gt, .ref rd, .ref tq, .ref wr, .ref s1, .ref s2, .int t0, .int t1, .int t2, .int t3])), (rq, .inl (cR, 4, .inr (.inr (.inr (.inr (rqF r0 r1 r2 r3)))))), (r0, .inr (4, [.ref o0, .int (nI n0), .int 0])), (o0, .inl (cI, 4000, .inl f0)), (r1, .inr (4, [.ref o1, .int (nI n1), .int 0])), (o1, .inl (cI, 4000, .inl f1)), (r2, .inr (4, [.ref o2, .int (nI n2), .int 0])), (o2, .inl (cI, 8000, .inl f2))]) hA hP hD hS [8, 9] [0, 1, 2, 3, 4, 5, 6, 7] rfl rfl (by decide) (by decide) (rn_V (As := [.int (rulP Lc kd (top8 (lcg z)))]) (rest := []) ⟨hx, hb, hml, hown, hts⟩ (cvV 1 hts zc_yX4_put zi_X4 zm_yX4_put zv_yX4_put kX8_89 (by decide +kernel) rfl rfl ⟨Nat.le_of_ble_eq_true rfl, Nat.le_of_ble_eq_true rfl⟩) (c_Row_put l D cI cB cJ cR r3 o3 8000 n7 f7 0 Lc (rulP Lc kd (top8 (lcg z))) (by decide) (hr7) H.size) hK hNw hMk hA hP hD hS [8, 9] rfl rfl (by decide) 0 rfl rfl rfl rfl hl.1 rfl (Nat.le_of_ble_eq_true rfl) dX8_fill_79 ⟨Nat.le_of_ble_eq_true rfl, Nat.le_of_ble_eq_true rfl⟩) (fun u9 H locs hpu hP hD hS => ?_)
                    obtain ⟨n8, f8, v8⟩ := u9
                    try dsimp only at hpu
                    have hP : va_P D vwCl [(cd, .inr (8, [.ref rq, .ref wt, .ref wq, .ref mi, .ref mo, .ref ft, .ref ot, .ref gt, .ref rd, .ref tq, .ref wr, .ref s1, .ref s2, .int t0, .int t1, .int t2, .int t3])), (rq, .inl (cR, 4, .inr (.inr (.inr (.inr (rqF r0 r1 r2 r3)))))), (r0, .inr (4, [.ref o0, .int (nI n0), .int 0])), (o0, .inl (cI, 4000, .inl f0)), (r1, .inr (4, [.ref o1, .int (nI n1), .int 0])), (o1, .inl (cI, 4000, .inl f1)), (r2, .inr (4, [.ref o2, .int (nI n2), .int 0])), (o2, .inl (cI, 8000, .inl f2)), (r3, .inr (4, [.ref o3, .int (nI n8), .int v8])), (o3, .inl (cI, 8000, .inl f8))] H := hP
                    have hD : va_D A0 [(cd, .inr (8, [.ref rq, .ref wt, .ref wq, .ref mi, .ref mo, .ref ft, .ref ot, .ref gt, .ref rd, .ref tq, .ref wr, .ref s1, .ref s2, .int t0, .int t1, .int t2, .int t3])), (rq, .inl (cR, 4, .inr (.inr (.inr (.inr (rqF r0 r1 r2 r3)))))), (r0, .inr (4, [.ref o0, .int (nI n0), .int 0])), (o0, .inl (cI, 4000, .inl f0)), (r1, .inr (4, [.ref o1, .int (nI n1), .int 0])), (o1, .inl (cI, 4000, .inl f1)), (r2, .inr (4, [.ref o2, .int (nI n2), .int 0])), (o2, .inl (cI, 8000, .inl f2)), (r3, .inr (4, [.ref o3, .int (nI n8), .int v8])), (o3, .inl (cI, 8000, .inl f8))] := hD
                    have hv8 := (row_len hpu (by simp; omega)).2
                    subst hv8
                    refine lv_iinc (v := nI (j + 1)) (lv' := [(7, .int (nI (j + 1))), (6, .int ((z * 1664525) + 1013904223)), (0, .ref cd), (1, .int (nI 3)), (2, .int kd), (3, .int (nI m)), (4, .int sd), (5, .ref r3)]) hx hb dX8_fill_82 hl (k := 7) rfl (nI_add j 1) (by decide) rfl (fun ls hl => ?_)
                    refine lv_goto (tgt := 50) hx hb dX8_fill_85 (by decide) ?_
                    exact ih (j + 1) (lcg z) (Lc ++ [rulP Lc kd (top8 (lcg z))]) n8 f8 _ _ ls (by omega) (by omega) (hLc) (hpu) (by simp; omega) hP hD hS (lv_sub hl [2, 3, 4, 5, 6, 7, 1, 0] rfl)
              exact loop _ 0 sd (RL 3) n3 f3 _ _ ls (Nat.lt_succ_self _) (Nat.zero_le _) (rfl) (hr3) (rfl) hP hD hS (lv_sub hl [3, 4, 5, 6, 7, 2, 1, 0] rfl)
            · have hf9 : 8000 < (RL 3).length + m := by have := Nat.not_le.mp (fun q => c_14 (nI_le q (by omega))); omega
              rw [if_pos (show rmN 3 < (RL 3).length + m from hf9)] at hfp
              refine lv_bipush (v := -4) hx hb dX8_fill_40 (by decide) ?_
              exact hret 42 ls _ _ _ (n0, f0, n1, f1, n2, f2, n3, f3, RL) dX8_fill_42 hP hD hS (⟨hfp, hrw⟩)
        · refine lv_bipush (v := -2) hx hb dX8_fill_20 (by decide) ?_
          exact hret 22 ls _ _ _ (n0, f0, n1, f1, n2, f2, n3, f3, RL) dX8_fill_22 hP hD hS (⟨by rw [filP, if_pos (Or.inr (Or.inr (Or.inr (Int32.not_le.mp c_4))))], hrw⟩)
