/-! what is written depends on the octets of the rows alone; it is octets; the first table lacks no code -/
theorem insW_congr {way seg en : Nat} {f g : Nat → Int32} (h : ∀ j, j < en → f j = g j) : insW way seg en f = insW way seg en g := by
  unfold insW
  by_cases q : way = 0
  · rw [if_pos q, if_pos q]
  · rw [if_neg q, if_neg q]; exact chW_same h _ _ _
theorem fold_congr {near same en lo : Nat} {f g : Nat → Int32} (h : ∀ j, lo ≤ j → j < en → f j = g j) : ∀ (L : List Ins) (pa : Bool) (p : Nat) (s : WS), lo ≤ p → tile pa p en L → List.foldl (insF near same f) s L = List.foldl (insF near same g) s L
  | [], _, _, _, _, _ => rfl
  | (k, z, q, a) :: r, pa, p, (D, A, nx, cN, cS, Q), hp, ht => by
    obtain ⟨h1, h2, h3, -, -, h6⟩ := ht
    have he : insF near same f (D, A, nx, cN, cS, Q) (k, z, q, a) = insF near same g (D, A, nx, cN, cS, Q) (k, z, q, a) := by
      simp only [insF]
      rw [h q (by omega) (by omega), rgL_congr (f := f) (g := g) (a := q) (b := q) z (fun i hi => h _ (by omega) (by omega))]
    rw [List.foldl_cons, List.foldl_cons, he]
    exact fold_congr h r _ _ _ (by omega) h6
theorem winS_congr {near same lo en : Nat} {f g : Nat → Int32} {L : List Ins} (h : ∀ j, lo ≤ j → j < en → f j = g j) (ht : tile false lo en L) : winS near same L f = winS near same L g := fold_congr h L false lo _ (Nat.le_refl _) ht
theorem wU_congr {by_ ws sn rn fr : Nat} {sf rf sf' rf' : Nat → Int32} (h1 : ∀ j, j < sn → sf j = sf' j) (h2 : ∀ j, j < rn → rf j = rf' j) (hf : fr < rn) : ∀ j, j < wseg by_ sn fr + (min (fr + ws) rn - fr) → wU by_ sf rf fr (wseg by_ sn fr) j = wU by_ sf' rf' fr (wseg by_ sn fr) j := by
  intro j hj
  unfold wU
  by_cases q : j < wseg by_ sn fr
  · rw [if_pos q, if_pos q]
    unfold wseg at q
    by_cases b1 : by_ = 1
    · rw [if_pos b1, if_pos b1]; rw [if_pos b1] at q; exact h1 j q
    · rw [if_neg b1, if_neg b1]; rw [if_neg b1] at q
      by_cases b2 : by_ = 2
      · rw [if_pos b2] at q; exact h2 j (by omega)
      · rw [if_neg b2] at q; exact absurd q (Nat.not_lt_zero _)
  · rw [if_neg q, if_neg q]; exact h2 _ (by omega)
theorem winL_congr {tt : Nat → Nat} {near same way by_ ws sn rn : Nat} {sf rf sf' rf' : Nat → Int32} (h1 : ∀ j, j < sn → sf j = sf' j) (h2 : ∀ j, j < rn → rf j = rf' j) : ∀ n fr s, winL tt near same way by_ ws sn rn sf rf n fr s = winL tt near same way by_ ws sn rn sf' rf' n fr s
  | 0, _, _ => rfl
  | n + 1, fr, s => by
    rw [winL, winL]
    by_cases h : fr < rn ∧ s.2.2.2.2 = false
    · have hU := wU_congr (by_ := by_) (ws := ws) h1 h2 h.1
      rw [if_pos h, if_pos h, winL_congr h1 h2 n, insW_congr hU, winS_congr (fun j _ hj => hU j hj) (insW_tile (Nat.le_add_right _ _))]
    · rw [if_neg h, if_neg h]
theorem wtQ_congr {ff uf ff' uf' : Nat → Int32} (h1 : ∀ j, j < 1536 → ff j = ff' j) (h2 : ∀ j, j < 1536 → uf j = uf' j) : wtQ ff uf = wtQ ff' uf' := by unfold wtQ; rw [winL_congr h1 h2]
theorem wrR_congr {ow : Bool} {tt : Nat → Nat} {near same way by_ ws n0 n1 : Nat} {ff uf f0 f1 ff' uf' f0' f1' : Nat → Int32} (h1 : ∀ j, j < 1536 → ff j = ff' j) (h2 : ∀ j, j < 1536 → uf j = uf' j) (h3 : ∀ j, j < n0 → f0 j = f0' j) (h4 : ∀ j, j < n1 → f1 j = f1' j) : wrR ow tt near same way by_ ws ff uf n0 n1 f0 f1 = wrR ow tt near same way by_ ws ff' uf' n0 n1 f0' f1' := by
  unfold wrR
  rw [wtQ_congr h1 h2, winL_congr h3 h4, winL_congr h3 h4]
theorem cdW_true {tt : Nat → Nat} : ∀ (n : Nat) (Q : List QI), Q.length ≤ n → (∀ x, x ∈ Q → (sg1 tt x).1 = true) → (cdW tt Q).1 = true
  | _, [], _, _ => by rw [cdW]
  | 0, x :: r, h, _ => absurd h (by simp)
  | n + 1, [x], _, hq => by rw [cdW]; exact hq x (List.mem_singleton.mpr rfl)
  | n + 1, x :: y :: r, h, hq => by
    have hl : r.length + 2 ≤ n + 1 := h
    by_cases q : pr1 tt x y < 0
    · rw [cdW, if_neg (fun z => z q)]
      show ((sg1 tt x).1 && (cdW tt (y :: r)).1) = true
      rw [hq x List.mem_cons_self, cdW_true n (y :: r) (show r.length + 1 ≤ n by omega) (fun z hz => hq z (List.mem_cons_of_mem _ hz))]; rfl
    · rw [cdW, if_pos q]
      show (true && (cdW tt r).1) = true
      rw [cdW_true n r (by omega) (fun z hz => hq z (List.mem_cons_of_mem _ (List.mem_cons_of_mem _ hz)))]; rfl
def qF (x : QI) : Prop := (x.1 = 1 ∧ x.2.2.2 = 0) ∨ (x.1 = 2 ∧ x.2.2.2 = 0) ∨ (x.1 = 3 ∧ x.2.2.2 < 9)
theorem sgF3 : ∀ m, m < 9 → ¬ fstC (sngP firstT 3 0 m) 256 0 < 0 := by decide +kernel
theorem sgF1 : ¬ fstC (sngP firstT 1 0 0) 256 0 < 0 := by decide +kernel
theorem sgF2 : ¬ fstC (sngP firstT 2 0 0) 256 0 < 0 := by decide +kernel
theorem sg1_F {x : QI} (h : qF x) : (sg1 firstT x).1 = true := by
  have h9 : ¬ fstC (sngP firstT x.1 0 x.2.2.2) 256 0 < 0 := by
    rcases h with ⟨h1, h2⟩ | ⟨h1, h2⟩ | ⟨h1, h2⟩
    · rw [h1, h2]; exact sgF1
    · rw [h1, h2]; exact sgF2
    · rw [h1]; exact sgF3 _ h2
  unfold sg1
  by_cases q : fstC (sngP firstT x.1 x.2.1 x.2.2.2) 256 0 < 0
  · rw [if_neg (fun z => z q), if_pos h9]
  · rw [if_pos q]
theorem fold_qF {f : Nat → Int32} : ∀ (L : List Ins) (s : WS), (∀ x, x ∈ s.2.2.2.2.2 → qF x) → ∀ x, x ∈ (List.foldl (insF 4 3 f) s L).2.2.2.2.2 → qF x
  | [], _, h => h
  | (k, z, q, a) :: r, (D, A, nx, cN, cS, Q), h => by
    rw [List.foldl_cons]
    refine fold_qF r _ ?_
    intro x hx
    simp only [insF] at hx
    by_cases k3 : k = 3
    · rw [if_pos k3] at hx
      rcases List.mem_append.mp hx with w | w
      · exact h x w
      · rw [List.mem_singleton.mp w]
        exact Or.inr (Or.inr ⟨rfl, by rcases chMode_lt (near := 4) (same := 3) (a := a) (here := q) (cN := cN) (cS := cS) (by decide) with y | y <;> exact (by omega : chMode 4 3 a q cN cS < 9)⟩)
    · rw [if_neg k3] at hx
      by_cases k2 : k = 2
      · rw [if_pos k2] at hx
        rcases List.mem_append.mp hx with w | w
        · exact h x w
        · rw [List.mem_singleton.mp w]; exact Or.inr (Or.inl ⟨rfl, rfl⟩)
      · rw [if_neg k2] at hx
        rcases List.mem_append.mp hx with w | w
        · exact h x w
        · rw [List.mem_singleton.mp w]; exact Or.inl ⟨rfl, rfl⟩
theorem cdW_first {L : List Ins} {f : Nat → Int32} : (cdW firstT (winS 4 3 L f).2.2.2.2.2).1 = true := cdW_true _ _ (Nat.le_refl _) (fun _ hx => sg1_F (fold_qF L _ (fun _ hy => absurd hy List.not_mem_nil) _ hx))
/-! octets -/
theorem nI_bn {n : Nat} (h : n < 2 ^ 31) : (nI n).toBitVec.toNat = n := by
  have h1 := nI_toInt h
  rw [Int32.toInt] at h1
  rw [BitVec.toInt_eq_toNat_cond] at h1
  split at h1 <;> omega
def ocI (v : Int32) : Prop := v = nI v.toNatClampNeg ∧ v.toNatClampNeg < 256
def ocA (L : List Int32) : Prop := ∀ v, v ∈ L → ocI v
theorem octL_of {L : List Int32} (h : ocA L) : octL L := fun j hj => h _ (by rw [List.getD_eq_getElem?_getD, List.getElem?_eq_getElem hj]; exact List.getElem_mem hj)
theorem octL_to {L : List Int32} (h : octL L) : ocA L := fun v hv => by
  obtain ⟨j, hj, he⟩ := List.getElem_of_mem hv
  have h9 := h j hj
  unfold bL at h9
  rw [List.getD_eq_getElem?_getD, List.getElem?_eq_getElem hj, Option.getD_some, he] at h9
  exact h9
theorem ocI_n {n : Nat} (h : n < 256) : ocI (nI n) := by unfold ocI; rw [nI_clamp (by omega)]; exact ⟨rfl, h⟩
theorem ocA_app {L M : List Int32} (h : ocA L) (h2 : ocA M) : ocA (L ++ M) := fun v hv => (List.mem_append.mp hv).elim (h v) (h2 v)
theorem ocA_nil : ocA [] := fun _ hv => absurd hv List.not_mem_nil
theorem ocA_one {v : Int32} (h : ocI v) : ocA [v] := fun w hw => by rw [List.mem_singleton.mp hw]; exact h
theorem ocA_cons {v : Int32} {L : List Int32} (h : ocI v) (h2 : ocA L) : ocA (v :: L) := fun w hw => (List.mem_cons.mp hw).elim (fun q => by rw [q]; exact h) (h2 w)
theorem ocA_rg {f : Nat → Int32} {a : Nat} : ∀ n, (∀ i, i < n → ocI (f (a + i))) → ocA (rgL f a n)
  | 0, _ => ocA_nil
  | n + 1, h => ocA_app (ocA_rg n (fun i hi => h i (by omega))) (ocA_one (h n (by omega)))
theorem oc_fst {P : Nat → Bool} : ∀ (n lo : Nat), lo + n ≤ 256 → ¬ fstC P n lo < 0 → ocI (fstC P n lo)
  | 0, _, _, h => absurd (show (-1 : Int32) < 0 by decide) h
  | n + 1, lo, hl, h => by
    unfold fstC at h ⊢
    by_cases q : P lo = true
    · rw [if_pos q]; exact ocI_n (by omega)
    · rw [if_neg q] at h ⊢; exact oc_fst n (lo + 1) (by omega) h
theorem oc_numT (a : Nat) : ∀ n, ocA (numT a n)
  | 0 => ocA_nil
  | n + 1 => ocA_cons (ocI_n (by unfold numOct; split <;> omega)) (oc_numT a n)
theorem ocA_num (a : Nat) : ocA (numL a) := oc_numT a _
theorem oc_and (x : Int32) : ocI (x &&& 255) := by
  have h9 : (x &&& 255) = nI (x.toBitVec.toNat % 256) := by
    apply Int32.toBitVec_inj.mp
    apply BitVec.eq_of_toNat_eq
    rw [Int32.toBitVec_and, BitVec.toNat_and, show (255 : Int32).toBitVec.toNat = 2 ^ 8 - 1 from rfl, Nat.and_two_pow_sub_one_eq_mod]
    have h1 : x.toBitVec.toNat % 256 < 256 := Nat.mod_lt _ (by decide)
    show _ = (nI (x.toBitVec.toNat % 256)).toBitVec.toNat
    rw [show (nI (x.toBitVec.toNat % 256)).toBitVec.toNat = x.toBitVec.toNat % 256 from nI_bn (by omega)]
  rw [h9]; exact ocI_n (Nat.mod_lt _ (by decide))
theorem oc_top8 (z : Int32) : ocI (top8 z) := by
  have h9 : top8 z = nI (z.toUInt32.toNat / 2 ^ 24) := by
    unfold top8
    apply Int32.toBitVec_inj.mp
    apply BitVec.eq_of_toNat_eq
    have h1 : z.toUInt32.toNat / 2 ^ 24 < 256 := by have := z.toUInt32.toNat_lt; omega
    rw [nI_bn (by omega)]
    rw [UInt32.toBitVec_toInt32, UInt32.toBitVec_shiftRight, BitVec.ushiftRight_eq', show ((Int32.toUInt32 24 &&& Int32.toUInt32 31).toBitVec % 32).toNat = 24 by decide, BitVec.toNat_ushiftRight]
    show z.toUInt32.toNat >>> 24 = _
    rw [Nat.shiftRight_eq_div_pow]
  rw [h9]; exact ocI_n (by have := z.toUInt32.toNat_lt; omega)
theorem oc_rem {r : Nat} (h : r < 256) : (97 : Int32) + (nI r - nI r / 4 * 4) = nI (97 + r % 4) := by revert r; decide +kernel
theorem oc_rul {L : List Int32} {kd z : Int32} (h : ocA L) : ocI (rulP L kd (top8 z)) := by
  obtain ⟨h1, h2⟩ := oc_top8 z
  unfold rulP
  split
  · rw [h1, oc_rem h2]; exact ocI_n (by omega)
  · split
    · rename_i q; exact h _ (by rw [List.getD_eq_getElem?_getD, List.getElem?_eq_getElem (show L.length - 17 < L.length by omega)]; exact List.getElem_mem _)
    · split
      · rename_i q; exact h _ (by rw [List.getD_eq_getElem?_getD, List.getElem?_eq_getElem (show L.length - 1 < L.length by omega)]; exact List.getElem_mem _)
      · exact ⟨h1, h2⟩
theorem oc_fil {kd : Int32} : ∀ (m : Nat) (z : Int32) (L : List Int32), ocA L → ocA (filL kd m z L)
  | 0, _, _, h => h
  | m + 1, z, L, h => by rw [filL]; exact oc_fil m _ _ (ocA_app h (ocA_one (oc_rul h)))
theorem oc_fd {v : Int64} : ∀ m, ocA (fdL v m)
  | 0 => ocA_nil
  | m + 1 => by rw [fdL]; exact ocA_cons (oc_and _) (oc_fd m)
theorem ocA_ad {near a here md : Nat} {cN : Nat → Nat} : ocA (adL near a here md cN) := by
  unfold adL
  (repeat' split)
  · exact ocA_num _
  · exact ocA_num _
  · exact ocA_one (ocI_n (Nat.mod_lt _ (by decide)))
  · exact ocA_num _
theorem fold_oc {near same en lo : Nat} {f : Nat → Int32} (h : ∀ j, lo ≤ j → j < en → ocI (f j)) : ∀ (L : List Ins) (pa : Bool) (p : Nat) (s : WS), lo ≤ p → tile pa p en L → ocA s.1 → ocA s.2.1 → ocA (List.foldl (insF near same f) s L).1 ∧ ocA (List.foldl (insF near same f) s L).2.1
  | [], _, _, _, _, _, h1, h2 => ⟨h1, h2⟩
  | (k, z, q, a) :: r, pa, p, (D, A, nx, cN, cS, Q), hp, ht, o1, o2 => by
    obtain ⟨h1, h2, h3, -, -, h6⟩ := ht
    rw [List.foldl_cons]
    refine fold_oc h r _ _ _ (by omega) h6 ?_ ?_
    · simp only [insF]
      by_cases k3 : k = 3
      · rw [if_pos k3]; exact o1
      · rw [if_neg k3]
        by_cases k2 : k = 2
        · rw [if_pos k2]; exact ocA_app o1 (ocA_one (h q (by omega) (by omega)))
        · rw [if_neg k2]; exact ocA_app o1 (ocA_rg z (fun i hi => h _ (by omega) (by omega)))
    · simp only [insF]
      by_cases k3 : k = 3
      · rw [if_pos k3]; exact ocA_app o2 ocA_ad
      · rw [if_neg k3]
        by_cases k2 : k = 2
        · rw [if_pos k2]; exact o2
        · rw [if_neg k2]; exact o2
theorem oc_sg {tt : Nat → Nat} {x : QI} : ocA (sg1 tt x).2.1 := by
  unfold sg1
  by_cases q : fstC (sngP tt x.1 x.2.1 x.2.2.2) 256 0 < 0
  · rw [if_neg (fun z => z q)]
    by_cases q2 : fstC (sngP tt x.1 0 x.2.2.2) 256 0 < 0
    · rw [if_neg (fun z => z q2)]; exact ocA_nil
    · rw [if_pos q2]; exact ocA_cons (oc_fst _ _ (by decide) q2) (ocA_num _)
  · rw [if_pos q]; exact ocA_one (oc_fst _ _ (by decide) q)
theorem oc_cdW {tt : Nat → Nat} : ∀ (n : Nat) (Q : List QI), Q.length ≤ n → ocA (cdW tt Q).2.1
  | _, [], _ => by rw [cdW]; exact ocA_nil
  | 0, x :: r, h => absurd h (by simp)
  | n + 1, [x], _ => by rw [cdW]; exact oc_sg
  | n + 1, x :: y :: r, h => by
    have hl : r.length + 2 ≤ n + 1 := h
    by_cases q : pr1 tt x y < 0
    · rw [cdW, if_neg (fun z => z q)]
      exact ocA_app oc_sg (oc_cdW n (y :: r) (show r.length + 1 ≤ n by omega))
    · rw [cdW, if_pos q]
      exact ocA_app (ocA_one (oc_fst _ _ (by decide) q)) (oc_cdW n r (by omega))
theorem oc_clL {kd sz mk : Nat} {D Cc A : List Int32} (hk : kd < 256) (h1 : ocA D) (h2 : ocA Cc) (h3 : ocA A) : ocA (clL kd sz mk D Cc A) := by
  have hS : ocA (clS kd sz) := by
    unfold clS
    refine ocA_app (ocA_one (ocI_n hk)) ?_
    split
    · exact ocA_nil
    · exact ocA_app (ocA_num _) (ocA_num _)
  exact ocA_app hS (ocA_app (ocA_num _) (ocA_app (ocA_num _) (ocA_app (ocA_one (ocI_n (n := 0) (by decide))) (ocA_app (ocA_num _) (ocA_app (ocA_num _) (ocA_app (ocA_num _) (ocA_app h1 (ocA_app h2 h3))))))))
theorem oc_winO {tt : Nat → Nat} {near same by_ seg mk en : Nat} {L : List Ins} {U : Nat → Int32} {s : OS} (hb : by_ < 256) (hU : ∀ j, seg ≤ j → j < en → ocI (U j)) (ht : tile false seg en L) (hs : ocA s.1) : ocA (winO tt by_ seg mk (winS near same L U) s).1 := by
  obtain ⟨OL, g, cnt, wi, lk⟩ := s
  obtain ⟨o1, o2⟩ := fold_oc (near := near) (same := same) hU L false seg ([], [], 0, fun _ => 0, fun _ => 0, []) (Nat.le_refl _) ht ocA_nil ocA_nil
  exact ocA_app hs (oc_clL (by split <;> omega) o1 (oc_cdW _ _ (Nat.le_refl _)) o2)
theorem oc_winL {tt : Nat → Nat} {near same way by_ ws sn rn : Nat} {sf rf : Nat → Int32} (hb : by_ < 256) (h1 : ∀ j, j < sn → ocI (sf j)) (h2 : ∀ j, j < rn → ocI (rf j)) : ∀ n fr s, ocA s.1 → ocA (winL tt near same way by_ ws sn rn sf rf n fr s).1
  | 0, _, _, h => h
  | n + 1, fr, s, hs => by
    rw [winL]
    by_cases h : fr < rn ∧ s.2.2.2.2 = false
    · rw [if_pos h]
      refine oc_winL hb h1 h2 n _ _ (oc_winO (en := wseg by_ sn fr + (min (fr + ws) rn - fr)) hb ?_ (insW_tile (Nat.le_add_right _ _)) hs)
      intro j hj1 hj2
      unfold wU
      rw [if_neg (Nat.not_lt.mpr hj1)]
      exact h2 _ (by omega)
    · rw [if_neg h]; exact hs
theorem oc_head {v : Int32} (h : ocI v) : ocA [214, 195, 196, 0, v] := ocA_cons (ocI_n (n := 214) (by decide)) (ocA_cons (ocI_n (n := 195) (by decide)) (ocA_cons (ocI_n (n := 196) (by decide)) (ocA_cons (ocI_n (n := 0) (by decide)) (ocA_one h))))
theorem oc_wrR {ow : Bool} {tt : Nat → Nat} {near same way by_ ws n0 n1 : Nat} {ff uf f0 f1 : Nat → Int32} (hb : by_ < 256) (h8 : near ≤ 8) (h4 : same ≤ 4) (h1 : ∀ j, j < 1536 → ocI (ff j)) (h2 : ∀ j, j < 1536 → ocI (uf j)) (h3 : ∀ j, j < n0 → ocI (f0 j)) (h5 : ∀ j, j < n1 → ocI (f1 j)) : ocA (wrR ow tt near same way by_ ws ff uf n0 n1 f0 f1).1 := by
  unfold wrR
  split
  · refine oc_winL hb h3 h5 _ _ _ (ocA_app (oc_head (ocI_n (n := 2) (by decide))) ?_)
    unfold wtH
    exact ocA_app (ocA_num _) (ocA_app (ocA_one (ocI_n (by omega))) (ocA_app (ocA_one (ocI_n (by omega))) (oc_winL (by decide) h1 h2 _ _ _ (ocA_app (oc_head (ocI_n (n := 0) (by decide))) ocA_nil))))
  · exact oc_winL hb h3 h5 _ _ _ (ocA_app (oc_head (ocI_n (n := 0) (by decide))) ocA_nil)
theorem oc_trO {tt : Nat → Nat} {near same sn rn : Nat} {gf rf : Nat → Int32} {s : OS} (hg : ogI sn rn gf) (h : ∀ j, j < rn → ocI (rf j)) (hs : ocA s.1) : ocA (trO tt near same sn rn gf rf s).1 := by
  unfold trO
  split
  · exact hs
  · exact oc_winO (en := sn + rn) (by decide) (fun j h1 h2 => h _ (by omega)) (chT_tile hg _ _ _ (Nat.le_refl _) (Nat.zero_le _)) hs
theorem oc_md {B : Nat → Nat} {n : Nat} (h : ∀ j, j < n → B j < 256) : ocA (mdL B n) := fun v hv => by
  unfold mdL at hv
  obtain ⟨j, hj, he⟩ := List.mem_map.mp hv
  rw [← he]; exact ocI_n (h j (List.mem_range.mp hj))
theorem oc_take {L : List Int32} {n : Nat} (h : ocA L) : ocA (L.take n) := fun v hv => h v (List.mem_of_mem_take hv)
theorem oc_alt {L : List Int32} {i v : Int32} (h : ocA L) : ocA (altL L i v).2 := by
  unfold altL
  split
  · split
    · exact h
    · rename_i q
      intro w hw
      rcases List.mem_or_eq_of_mem_set hw with y | y
      · exact h w y
      · subst y
        have q1 : ¬ w < 0 := fun z => q (Or.inl z)
        have q2 : w ≤ 255 := Decidable.byContradiction (fun z => q (Or.inr z))
        obtain ⟨m, hm, he⟩ := nI_of8 (b := 255) q1 q2 (by decide)
        rw [he]; exact ocI_n (by omega)
  · exact h
