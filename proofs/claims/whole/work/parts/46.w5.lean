/-! BOUNDS: instructions that lie one behind the other from p to en -/
def tile : Bool → Nat → Nat → List Ins → Prop
  | _, p, en, [] => p = en
  | pa, p, en, (k, z, q, a) :: r => q = p ∧ 1 ≤ z ∧ p + z ≤ en ∧ ((k = 1 ∧ pa = false) ∨ ((k = 2 ∨ k = 3) ∧ 4 ≤ z)) ∧ (k = 3 → a < p) ∧ tile (decide (k = 1)) (p + z) en r
theorem tile_addE {a en : Nat} (h : a ≤ en) : tile false a en (addI a en) := by
  unfold addI
  by_cases q : a < en
  · rw [if_pos q]; exact ⟨rfl, by omega, by omega, Or.inl ⟨rfl, rfl⟩, fun z => absurd z (by decide), by show a + (en - a) = en; omega⟩
  · rw [if_neg q]; show a = en; omega
theorem tile_addI {a p en : Nat} {r : List Ins} (h : a ≤ p) (hp : p ≤ en) (hr : ∀ pa, tile pa p en r) : tile false a en (addI a p ++ r) := by
  unfold addI
  by_cases q : a < p
  · rw [if_pos q]; exact ⟨rfl, by omega, by omega, Or.inl ⟨rfl, rfl⟩, fun z => absurd z (by decide), by rw [show a + (p - a) = p by omega]; exact hr _⟩
  · rw [if_neg q, show a = p by omega]; exact hr _
theorem chW_tile {rn : Nat → Nat} {mt : Nat → Nat × Nat} {way en : Nat} (h1 : ∀ p, p ≤ en → rn p ≤ en - p) (h2 : ∀ p, p ≤ en → (mt p).1 ≤ en - p) (h3 : ∀ p, (mt p).1 = 0 ∨ (mt p).2 < p) : ∀ (k ad p : Nat), ad ≤ p → p ≤ en → tile false ad en (chW rn mt way en k ad p)
  | 0, ad, p => fun ha hp => tile_addE (by omega)
  | k + 1, ad, p => fun ha hp => by
    rw [chW]
    split
    · rename_i hlt
      split
      · rename_i hr
        have e1 := h1 p hp
        exact tile_addI ha hp (fun pa => ⟨rfl, by omega, by omega, Or.inr ⟨Or.inl rfl, by omega⟩, fun z => absurd z (by decide), chW_tile h1 h2 h3 k _ _ (Nat.le_refl _) (by omega)⟩)
      · split
        · exact chW_tile h1 h2 h3 k _ _ (by omega) (by omega)
        · rename_i hm
          have e2 := h2 p hp
          have e3 := h3 p
          have e4 : 4 ≤ (mt p).1 := Nat.not_lt.mp (fun z => hm (Or.inl z))
          exact tile_addI ha hp (fun pa => ⟨rfl, by omega, by omega, Or.inr ⟨Or.inr rfl, e4⟩, fun _ => by omega, chW_tile h1 h2 h3 k _ _ (Nat.le_refl _) (by omega)⟩)
    · exact tile_addE (by omega)
theorem numT_len (a : Nat) : ∀ k, (numT a k).length = k
  | 0 => rfl
  | k + 1 => by rw [numT, List.length_cons, numT_len a k]
theorem numL_len (a : Nat) : (numL a).length = nsz a := numT_len a _
theorem nsz_2 {a : Nat} (h : a < 16384) : nsz a ≤ 2 := by unfold nsz; (repeat' split) <;> omega
theorem nsz_self {a : Nat} (h : 1 ≤ a) : nsz a ≤ a := by unfold nsz; (repeat' split) <;> omega
theorem nsz_m1 {a : Nat} (h : 2 ≤ a) : nsz a + 1 ≤ a := by unfold nsz; (repeat' split) <;> omega
theorem nsz_m3 {a : Nat} (h : 4 ≤ a) : nsz a + 3 ≤ a := by unfold nsz; (repeat' split) <;> omega
theorem adL_len {near a here md : Nat} {cN : Nat → Nat} (h : a < 16384) (h2 : here < 16384) : (adL near a here md cN).length ≤ 2 := by
  unfold adL
  split
  · rw [numL_len]; exact nsz_2 h
  · split
    · rw [numL_len]; exact nsz_2 (by omega)
    · split
      · show 1 ≤ 2; omega
      · rw [numL_len]; exact nsz_2 (by omega)
def qc : List QI → Nat
  | [] => 0
  | x :: r => 1 + nsz x.2.1 + qc r
def qOk (Q : List QI) : Prop := ∀ x, x ∈ Q → x.1 < 2 ^ 20 ∧ x.2.1 < 2 ^ 20 ∧ x.2.2.2 < 2 ^ 20
theorem ins_bd {near same : Nat} {T : Nat → Int32} {en : Nat} (h8 : near ≤ 8) (h4 : same ≤ 4) (hen : en ≤ 8000) : ∀ (L : List Ins) (pa : Bool) (p : Nat) (D A : List Int32) (nx : Nat) (cN cS : Nat → Nat) (Q : List QI), tile pa p en L → (List.foldl (insF near same T) (D, A, nx, cN, cS, Q) L).1.length ≤ D.length + (en - p) ∧ (List.foldl (insF near same T) (D, A, nx, cN, cS, Q) L).2.1.length ≤ A.length + (en - p) ∧ ∃ Q2, (List.foldl (insF near same T) (D, A, nx, cN, cS, Q) L).2.2.2.2.2 = Q ++ Q2 ∧ Q2.length ≤ en - p ∧ (pa = true → qc Q2 ≤ en - p - 1) ∧ qc Q2 ≤ en - p + 1 ∧ (2 ≤ en - p → qc Q2 ≤ en - p) ∧ qOk Q2
  | [], pa, p, D, A, nx, cN, cS, Q => fun h => by
    have h : p = en := h
    refine ⟨by show D.length ≤ _; omega, by show A.length ≤ _; omega, [], by show Q = _; simp, Nat.zero_le _, fun _ => Nat.zero_le _, Nat.zero_le _, fun _ => Nat.zero_le _, fun x hx => absurd hx (by simp)⟩
  | (k, z, q, a) :: r, pa, p, D, A, nx, cN, cS, Q => fun h => by
    obtain ⟨rfl, h1, h2, h3, h5, h6⟩ := h
    rw [List.foldl_cons]
    have n1 := nsz_self h1
    rcases h3 with ⟨rfl, rfl⟩ | ⟨hk, hz⟩
    · have ih := ins_bd (T := T) h8 h4 hen r true (q + z) (D ++ rgL T q z) A nx cN cS (Q ++ [(1, z, 0, 0)]) h6
      show (List.foldl (insF near same T) (D ++ rgL T q z, A, nx, cN, cS, Q ++ [(1, z, 0, 0)]) r).1.length ≤ _ ∧ _
      obtain ⟨i1, i2, Q2, i3, i4, i5, i6, i7, i8⟩ := ih
      rw [List.length_append, rgL_len] at i1
      have i5 := i5 rfl
      refine ⟨Nat.le_trans i1 (by omega), Nat.le_trans i2 (by omega), (1, z, 0, 0) :: Q2, by rw [show insF near same T (D, A, nx, cN, cS, Q) (1, z, q, a) = (D ++ rgL T q z, A, nx, cN, cS, Q ++ [(1, z, 0, 0)]) from rfl, i3]; simp, by rw [List.length_cons]; omega, fun w => absurd w (by decide), ?_, ?_, ?_⟩
      · show 1 + nsz z + qc Q2 ≤ _; omega
      · intro w
        show 1 + nsz z + qc Q2 ≤ _
        by_cases w2 : q + z = en
        · have := nsz_m1 (a := z) (by omega); omega
        · omega
      · intro x hx
        rcases List.mem_cons.mp hx with rfl | hx
        · exact ⟨show 1 < 2 ^ 20 by decide, by show z < _; omega, show 0 < 2 ^ 20 by decide⟩
        · exact i8 x hx
    · have n3 := nsz_m3 hz
      have key : ∀ (D' A' : List Int32) (nx' : Nat) (cN' cS' : Nat → Nat) (k' a' m' : Nat), insF near same T (D, A, nx, cN, cS, Q) (k, z, q, a) = (D', A', nx', cN', cS', Q ++ [(k', z, a', m')]) → D'.length ≤ D.length + z → A'.length ≤ A.length + z → k' < 2 ^ 20 → m' < 2 ^ 20 → decide (k = 1) = false → (List.foldl (insF near same T) (insF near same T (D, A, nx, cN, cS, Q) (k, z, q, a)) r).1.length ≤ D.length + (en - q) ∧ (List.foldl (insF near same T) (insF near same T (D, A, nx, cN, cS, Q) (k, z, q, a)) r).2.1.length ≤ A.length + (en - q) ∧ ∃ Q2, (List.foldl (insF near same T) (insF near same T (D, A, nx, cN, cS, Q) (k, z, q, a)) r).2.2.2.2.2 = Q ++ Q2 ∧ Q2.length ≤ en - q ∧ (pa = true → qc Q2 ≤ en - q - 1) ∧ qc Q2 ≤ en - q + 1 ∧ (2 ≤ en - q → qc Q2 ≤ en - q) ∧ qOk Q2 := by
        intro D' A' nx' cN' cS' k' a' m' e1 e2 e3 e4 e5 e6
        rw [e6] at h6
        have ih := ins_bd (T := T) h8 h4 hen r false (q + z) D' A' nx' cN' cS' (Q ++ [(k', z, a', m')]) h6
        rw [e1]
        obtain ⟨i1, i2, Q2, i3, i4, -, i6, i7, i8⟩ := ih
        have c0 : qc ((k', z, a', m') :: Q2) = 1 + nsz z + qc Q2 := rfl
        refine ⟨Nat.le_trans i1 (by omega), Nat.le_trans i2 (by omega), (k', z, a', m') :: Q2, by rw [i3]; simp, by rw [List.length_cons]; omega, fun _ => by rw [c0]; omega, by rw [c0]; omega, fun _ => by rw [c0]; omega, fun x hx => ?_⟩
        rcases List.mem_cons.mp hx with rfl | hx
        · exact ⟨e4, by show z < _; omega, e5⟩
        · exact i8 x hx
      rcases hk with rfl | rfl
      · exact key _ _ _ _ _ 2 0 0 rfl (by rw [List.length_append]; show D.length + 1 ≤ _; omega) (by omega) (by decide) (by decide) rfl
      · have m9 := chMode_lt (near := near) (same := same) (a := a) (here := q) (cN := cN) (cS := cS) h4
        have ha := h5 rfl
        exact key _ _ _ _ _ 3 a _ rfl (by omega) (by have := adL_len (near := near) (a := a) (here := q) (md := chMode near same a q cN cS) (cN := cN) (by omega) (by omega); rw [List.length_append]; omega) (by decide) (by omega) rfl
theorem sg1_len {tt : Nat → Nat} {x : QI} : (sg1 tt x).2.1.length ≤ 1 + nsz x.2.1 := by
  unfold sg1
  split
  · show 1 ≤ _; omega
  · split
    · show (_ :: numL x.2.1).length ≤ _; rw [List.length_cons, numL_len]; omega
    · exact Nat.zero_le _
theorem cdW_len {tt : Nat → Nat} : ∀ (n : Nat) (Q : List QI), Q.length ≤ n → (cdW tt Q).2.1.length ≤ qc Q
  | _, [] => fun _ => Nat.le_refl _
  | 0, x :: r => fun h => absurd h (by simp)
  | n + 1, [x] => fun _ => by rw [cdW]; exact Nat.le_trans sg1_len (Nat.le_refl _)
  | n + 1, x :: y :: r => fun h => by
    rw [cdW]
    split
    · have := cdW_len (tt := tt) n r (by simp at h ⊢; omega)
      show ([pr1 tt x y] ++ (cdW tt r).2.1).length ≤ 1 + nsz x.2.1 + (1 + nsz y.2.1 + qc r)
      rw [List.length_append]
      show 1 + _ ≤ _
      omega
    · have := cdW_len (tt := tt) n (y :: r) (by simp at h ⊢; omega)
      have h2 := sg1_len (tt := tt) (x := x)
      show ((sg1 tt x).2.1 ++ (cdW tt (y :: r)).2.1).length ≤ 1 + nsz x.2.1 + qc (y :: r)
      rw [List.length_append]
      omega
/-! WINDOWS one behind the other -/
def wseg (by_ sn fr : Nat) : Nat := if by_ = 1 then sn else if by_ = 2 then fr else 0
def wU (by_ : Nat) (sf rf : Nat → Int32) (fr seg : Nat) : Nat → Int32 := fun j => if j < seg then (if by_ = 1 then sf j else rf j) else rf (fr + (j - seg))
def insW (way seg en : Nat) (U : Nat → Int32) : List Ins := if way = 0 then addI seg en else chW (fun p => runF U p (en - p) p) (fun p => bF (eqF U) (en - p) p p) way en (en - seg) seg seg
def winS (near same : Nat) (L : List Ins) (U : Nat → Int32) : WS := List.foldl (insF near same U) ([], [], 0, fun _ => 0, fun _ => 0, []) L
abbrev OS : Type := List Int32 × (Nat → Nat → Int32) × Nat × Nat × Bool
def winO (tt : Nat → Nat) (by_ seg mk : Nat) (s : WS) : OS → OS
  | (OL, g, cnt, wi, lk) => (OL ++ clL (if seg = 0 then 0 else by_) seg mk s.1 (cdW tt s.2.2.2.2.2).2.1 s.2.1, wrG g cnt (rwQ wi s.2.2.2.2.2 (cdW tt s.2.2.2.2.2).2.2), cnt + s.2.2.2.2.2.length, wi + 1, lk || !(cdW tt s.2.2.2.2.2).1)
def winL (tt : Nat → Nat) (near same way by_ ws sn rn : Nat) (sf rf : Nat → Int32) : Nat → Nat → OS → OS
  | 0, _, s => s
  | n + 1, fr, s => if fr < rn ∧ s.2.2.2.2 = false then winL tt near same way by_ ws sn rn sf rf n (fr + ws) (winO tt by_ (wseg by_ sn fr) (min (fr + ws) rn - fr) (winS near same (insW way (wseg by_ sn fr) (wseg by_ sn fr + (min (fr + ws) rn - fr)) (wU by_ sf rf fr (wseg by_ sn fr))) (wU by_ sf rf fr (wseg by_ sn fr))) s) else s
theorem insW_tile {way seg en : Nat} {U : Nat → Int32} (h : seg ≤ en) : tile false seg en (insW way seg en U) := by
  unfold insW
  split
  · exact tile_addE h
  · exact chW_tile (fun p _ => runF_le _ _) (fun p _ => (bF_le _ _ _ _).1) (fun p => bF_at p) _ _ _ (Nat.le_refl _) h
theorem winS_bd {near same : Nat} {L : List Ins} {U : Nat → Int32} {seg en : Nat} (h8 : near ≤ 8) (h4 : same ≤ 4) (hen : en ≤ 8000) (h : tile false seg en L) : (winS near same L U).1.length ≤ en - seg ∧ (winS near same L U).2.1.length ≤ en - seg ∧ (winS near same L U).2.2.2.2.2.length ≤ en - seg ∧ qc (winS near same L U).2.2.2.2.2 ≤ en - seg + 1 ∧ (2 ≤ en - seg → qc (winS near same L U).2.2.2.2.2 ≤ en - seg) ∧ qOk (winS near same L U).2.2.2.2.2 := by
  obtain ⟨i1, i2, Q2, i3, i4, -, i6, i7, i8⟩ := ins_bd (T := U) h8 h4 hen L false seg [] [] 0 (fun _ => 0) (fun _ => 0) [] h
  have i3 : (winS near same L U).2.2.2.2.2 = Q2 := i3
  rw [i3]
  exact ⟨Nat.le_trans i1 (by simp), Nat.le_trans i2 (by simp), i4, i6, i7, i8⟩
theorem clen_congr {f g : Nat → Int32} {en : Nat} (h : ∀ j, j < en → f j = g j) : ∀ n a p, a + n ≤ en → p + n ≤ en → clen (eqF f) n a p = clen (eqF g) n a p
  | 0, _, _ => fun _ _ => rfl
  | n + 1, a, p => fun h1 h2 => by
    unfold clen
    rw [show eqF f a p = eqF g a p by unfold eqF; rw [h a (by omega), h p (by omega)], clen_congr h n (a + 1) (p + 1) (by omega) (by omega)]
theorem bF_congr {f g : Nat → Int32} {en p : Nat} (h : ∀ j, j < en → f j = g j) (hp : p ≤ en) : ∀ k, k ≤ p → bF (eqF f) (en - p) p k = bF (eqF g) (en - p) p k
  | 0 => fun _ => rfl
  | k + 1 => fun hk => by
    unfold bF
    rw [clen_congr h (en - p) k p (by omega) (by omega), bF_congr h hp k (by omega)]
theorem runF_congr {f g : Nat → Int32} {en p : Nat} (h : ∀ j, j < en → f j = g j) (hp : p < en) : ∀ n k, k + n ≤ en → runF f p n k = runF g p n k
  | 0, _ => fun _ => rfl
  | n + 1, k => fun hk => by
    unfold runF
    rw [h k (by omega), h p hp, runF_congr h hp n (k + 1) (by omega)]
theorem chW_congr {rn rn' : Nat → Nat} {mt mt' : Nat → Nat × Nat} {way en : Nat} (h1 : ∀ p, p < en → rn p = rn' p) (h2 : ∀ p, p ≤ en → mt p = mt' p) : ∀ k ad p, chW rn mt way en k ad p = chW rn' mt' way en k ad p
  | 0, _, _ => rfl
  | k + 1, ad, p => by
    unfold chW
    by_cases hp : p < en
    · rw [if_pos hp, if_pos hp, h1 p hp, h2 p (by omega), h2 (p + 1) (by omega), chW_congr h1 h2 k, chW_congr h1 h2 k, chW_congr h1 h2 k]
    · rw [if_neg hp, if_neg hp]
theorem chW_same {f g : Nat → Int32} {way en : Nat} (h : ∀ j, j < en → f j = g j) (k ad p : Nat) : chW (fun p => runF f p (en - p) p) (fun p => bF (eqF f) (en - p) p p) way en k ad p = chW (fun p => runF g p (en - p) p) (fun p => bF (eqF g) (en - p) p p) way en k ad p :=
  chW_congr (fun p hp => runF_congr h hp _ _ (by omega)) (fun p hp => bF_congr h hp p (Nat.le_refl _)) k ad p
theorem winL_no {tt : Nat → Nat} {near same way by_ ws sn rn : Nat} {sf rf : Nat → Int32} {n fr : Nat} {s : OS} (h : ¬ (fr < rn ∧ s.2.2.2.2 = false)) : winL tt near same way by_ ws sn rn sf rf n fr s = s := by
  cases n with
  | zero => rfl
  | succ n => rw [winL, if_neg h]
