/-! TEXTS THAT ARE READ: what a clause is; the class's looks -/
theorem zGd_rg : ∀ (l : List Int) (k : Nat), (∀ x : Int, x ∈ l → 0 ≤ x ∧ x ≤ 127) → 0 ≤ l.getD k 0 ∧ l.getD k 0 ≤ 127 := by
  intro l
  induction l with
  | nil => intro k _; exact ⟨by show (0 : Int) ≤ 0; decide, by show (0 : Int) ≤ 127; decide⟩
  | cons a l z_ih =>
    intro k q
    cases k with
    | zero => exact q a List.mem_cons_self
    | succ k => exact z_ih k (fun x y => q x (List.mem_cons_of_mem _ y))
theorem zWb_rg (w k : Nat) : 0 ≤ zWb w k ∧ zWb w k ≤ 127 := by
  refine zGd_rg _ k ?_
  unfold zWl
  cases Nat.beq w 0 <;> cases Nat.beq w 1 <;> cases Nat.beq w 2 <;> cases Nat.beq w 3 <;> cases Nat.beq w 4 <;> decide
theorem zSg_rg {F : Int → Int} {L i : Int} (q : ∀ k : Int, 0 ≤ k → k < L → 32 ≤ F k ∧ F k ≤ 126) : -1 ≤ zSg F L i ∧ zSg F L i ≤ 126 ∧ (0 ≤ zSg F L i → 0 ≤ i ∧ i < L) := by
  unfold zSg
  by_cases y : 0 ≤ i ∧ i < L
  · rw [if_pos y]
    have := q i y.1 y.2
    omega
  · rw [if_neg y]
    omega
/-- where the letters end -/
def zWf (F : Int → Int) (L : Int) : Nat → Int → Int
  | 0, i => i
  | k + 1, i => if 97 ≤ zSg F L i ∧ zSg F L i ≤ 122 then zWf F L k (i + 1) else i
def zWe (F : Int → Int) (L i : Int) : Int := zWf F L (L - i).toNat i
theorem zSg_n {F : Int → Int} {L i : Int} (q : L ≤ i) : zSg F L i = -1 := if_neg (by omega)
theorem zWe_1 {F : Int → Int} {L i : Int} (q : 97 ≤ zSg F L i ∧ zSg F L i ≤ 122) : zWe F L i = zWe F L (i + 1) := by
  have y : i < L := by
    by_cases y1 : i < L
    · exact y1
    · rw [zSg_n (by omega)] at q; omega
  unfold zWe
  rw [show (L - i).toNat = (L - (i + 1)).toNat + 1 by omega]
  exact if_pos q
theorem zWe_2 {F : Int → Int} {L i : Int} (q : ¬ (97 ≤ zSg F L i ∧ zSg F L i ≤ 122)) : zWe F L i = i := by
  unfold zWe
  cases (L - i).toNat with
  | zero => rfl
  | succ k => exact if_neg q
theorem zWf_rg (F : Int → Int) (L : Int) : ∀ (k : Nat) (i : Int), i ≤ zWf F L k i ∧ zWf F L k i ≤ i + k := by
  intro k
  induction k with
  | zero => intro i; exact ⟨Int.le_refl _, by show i ≤ i + ((0 : Nat) : Int); omega⟩
  | succ k z_ih =>
    intro i
    have y := z_ih (i + 1)
    show i ≤ (if 97 ≤ zSg F L i ∧ zSg F L i ≤ 122 then zWf F L k (i + 1) else i) ∧ (if 97 ≤ zSg F L i ∧ zSg F L i ≤ 122 then zWf F L k (i + 1) else i) ≤ i + ((k + 1 : Nat) : Int)
    split <;> omega
theorem zWe_rg {F : Int → Int} {L i : Int} (q : i ≤ L) : i ≤ zWe F L i ∧ zWe F L i ≤ L := by
  have y := zWf_rg F L (L - i).toNat i
  unfold zWe
  omega
/-- which word stands there; -1: none -/
noncomputable def zWw (F : Int → Int) (i j : Int) : Int := @ite _ (zMt F 0 i j) (Classical.propDecidable _) 0 (@ite _ (zMt F 1 i j) (Classical.propDecidable _) 1 (@ite _ (zMt F 2 i j) (Classical.propDecidable _) 2 (@ite _ (zMt F 3 i j) (Classical.propDecidable _) 3 (@ite _ (zMt F 4 i j) (Classical.propDecidable _) 4 (@ite _ (zMt F 5 i j) (Classical.propDecidable _) 5 (-1))))))
theorem zWw_rg (F : Int → Int) (i j : Int) : -1 ≤ zWw F i j ∧ zWw F i j ≤ 5 := by
  unfold zWw
  (repeat' split) <;> omega
/-- figures, so many at most, behind the number v -/
def zFg (F : Int → Int) (L : Int) : Nat → Int → Int → Int × Int
  | 0, i, v => (i, v)
  | k + 1, i, v => if 48 ≤ zSg F L i ∧ zSg F L i ≤ 57 then zFg F L k (i + 1) (10 * v + (zSg F L i - 48)) else (i, v)
theorem zFg_rg {F : Int → Int} {L : Int} : ∀ (k : Nat) (i v : Int), 0 ≤ v → i ≤ (zFg F L k i v).1 ∧ (zFg F L k i v).1 ≤ max i L ∧ 0 ≤ (zFg F L k i v).2 := by
  intro k
  induction k with
  | zero => intro i v q; exact ⟨Int.le_refl _, by show i ≤ max i L; omega, q⟩
  | succ k z_ih =>
    intro i v q
    have e1 : zFg F L (k + 1) i v = if 48 ≤ zSg F L i ∧ zSg F L i ≤ 57 then zFg F L k (i + 1) (10 * v + (zSg F L i - 48)) else (i, v) := rfl
    rw [e1]
    by_cases y : 48 ≤ zSg F L i ∧ zSg F L i ≤ 57
    · rw [if_pos y]
      have y1 := z_ih (i + 1) (10 * v + (zSg F L i - 48)) (by omega)
      have y2 : i < L := by
        by_cases y3 : i < L
        · exact y3
        · rw [zSg_n (by omega)] at y; omega
      omega
    · rw [if_neg y]
      dsimp only
      omega
theorem zFg_b1 {F : Int → Int} {L : Int} (i v : Int) (q : 0 ≤ v) : (zFg F L 1 i v).2 ≤ 10 * v + 9 := by
  show (if 48 ≤ zSg F L i ∧ zSg F L i ≤ 57 then (i + 1, 10 * v + (zSg F L i - 48)) else (i, v)).2 ≤ _
  split <;> dsimp only <;> omega
theorem zFg_b2 {F : Int → Int} {L : Int} (i v : Int) (q : 0 ≤ v) : (zFg F L 2 i v).2 ≤ 100 * v + 99 := by
  show (if 48 ≤ zSg F L i ∧ zSg F L i ≤ 57 then zFg F L 1 (i + 1) (10 * v + (zSg F L i - 48)) else (i, v)).2 ≤ _
  split
  · have y := zFg_b1 (F := F) (L := L) (i + 1) (10 * v + (zSg F L i - 48)) (by omega)
    omega
  · dsimp only; omega
theorem zFg_b3 {F : Int → Int} {L : Int} (i v : Int) (q : 0 ≤ v) : (zFg F L 3 i v).2 ≤ 1000 * v + 999 := by
  show (if 48 ≤ zSg F L i ∧ zSg F L i ≤ 57 then zFg F L 2 (i + 1) (10 * v + (zSg F L i - 48)) else (i, v)).2 ≤ _
  split
  · have y := zFg_b2 (F := F) (L := L) (i + 1) (10 * v + (zSg F L i - 48)) (by omega)
    omega
  · dsimp only; omega
/-- a period or *: whether there is one, it (-1: *), the place behind or of the fault -/
def zPd (F : Int → Int) (L N i : Int) : Int × Int × Int := if zSg F L i = 42 then (1, -1, i + 1) else if i < (zFg F L 2 i 0).1 ∧ (zFg F L 2 i 0).2 < N then (1, (zFg F L 2 i 0).2, (zFg F L 2 i 0).1) else (0, 0, i)
def zNu (F : Int → Int) (L w i : Int) : Int × Int × Int := if i < (zFg F L 3 i 0).1 ∧ (zFg F L 3 i 0).2 ≤ vmax w then (1, (zFg F L 3 i 0).2, (zFg F L 3 i 0).1) else (0, 0, i)
theorem zPd_rg {F : Int → Int} {L N i : Int} (q : 0 ≤ i ∧ i ≤ L) : ((zPd F L N i).1 = 0 ∨ (zPd F L N i).1 = 1) ∧ i ≤ (zPd F L N i).2.2 ∧ (zPd F L N i).2.2 ≤ L ∧ ((zPd F L N i).1 = 1 → -1 ≤ (zPd F L N i).2.1 ∧ ((zPd F L N i).2.1 < N ∨ (zPd F L N i).2.1 = -1)) := by
  have y := zFg_rg (F := F) (L := L) 2 i 0 (Int.le_refl _)
  unfold zPd
  by_cases y1 : zSg F L i = 42
  · rw [if_pos y1]
    have y2 : i < L := by
      by_cases y3 : i < L
      · exact y3
      · rw [zSg_n (by omega)] at y1; omega
    dsimp only; omega
  · rw [if_neg y1]
    split
    · dsimp only; omega
    · dsimp only; omega
theorem zNu_rg {F : Int → Int} {L w i : Int} (q : 0 ≤ i ∧ i ≤ L) : ((zNu F L w i).1 = 0 ∨ (zNu F L w i).1 = 1) ∧ i ≤ (zNu F L w i).2.2 ∧ (zNu F L w i).2.2 ≤ L ∧ ((zNu F L w i).1 = 1 → i < (zNu F L w i).2.2 ∧ 0 ≤ (zNu F L w i).2.1 ∧ (zNu F L w i).2.1 ≤ vmax w) := by
  have y := zFg_rg (F := F) (L := L) 3 i 0 (Int.le_refl _)
  unfold zNu
  split
  · dsimp only; omega
  · dsimp only; omega
/-- a clause: whether there is one, word, period, number, the place behind or of the fault -/
noncomputable def zCs (F : Int → Int) (L N i : Int) : Int × Int × Int × Int × Int := if zWw F i (zWe F L i) < 0 then (0, 0, 0, 0, i) else if zSg F L (zWe F L i) = 32 then (if (zPd F L N (zWe F L i + 1)).1 = 1 then (if zSg F L (zPd F L N (zWe F L i + 1)).2.2 = 32 then (if (zNu F L (zWw F i (zWe F L i)) ((zPd F L N (zWe F L i + 1)).2.2 + 1)).1 = 1 then (1, zWw F i (zWe F L i), (zPd F L N (zWe F L i + 1)).2.1, (zNu F L (zWw F i (zWe F L i)) ((zPd F L N (zWe F L i + 1)).2.2 + 1)).2.1, (zNu F L (zWw F i (zWe F L i)) ((zPd F L N (zWe F L i + 1)).2.2 + 1)).2.2) else (0, 0, 0, 0, (zNu F L (zWw F i (zWe F L i)) ((zPd F L N (zWe F L i + 1)).2.2 + 1)).2.2)) else (0, 0, 0, 0, (zPd F L N (zWe F L i + 1)).2.2)) else (0, 0, 0, 0, (zPd F L N (zWe F L i + 1)).2.2)) else (0, 0, 0, 0, zWe F L i)
set_option maxRecDepth 20000 in
set_option maxHeartbeats 4000000 in
theorem jl_stands_0 (zd : Nat) (q_d : 4 ≤ zd) {zh : am_H} {F : Int → Int} {zl : Int} {zi zj : Int} (q_l : zh.1 27 1 = iN zl) (q_r : 0 ≤ zl ∧ zl ≤ 120) (q_f : ∀ k : Int, 0 ≤ k → k < zl → zh.1 28 k.toNat = iN (F k)) (q_c : ∀ k : Int, 0 ≤ k → k < zl → 32 ≤ F k ∧ F k ≤ 126) (q_i : 0 ≤ zi ∧ zj ≤ zl) (q_e : zj - zi = 6) {zQ : Option Value → am_H → Prop} (zk : ∀ zv : Int, zv = bI (zMt F 0 zi zj) (Classical.propDecidable _) → zQ (some (.int (iN zv))) zh) : ∀ (z_n : Nat) (zn : Nat) (q_n : zn ≤ 6) (q_w : ∀ k : Nat, k < zn → F (zi + (k : Int)) = zWb 0 k), (6 : Int) - zn < (z_n : Int) → am_wp zd am_m_Text_stands 15 [(0, .ref 27), (1, .ref 1000), (2, .int (iN (zi))), (3, .int (iN (zj))), (4, .int (iN ((zn : Int))))] [] (78, 76) zh (78, 76) zQ := by
  obtain ⟨zd, rfl⟩ : ∃ y_e, zd = y_e + 4 := ⟨zd - 4, by omega⟩
  intro z_n
  induction z_n with
  | zero => intro zn q_n q_w q_m; omega
  | succ z_n z_ih =>
    intro zn q_n q_w q_m
    refine wp_run (k := 2) (pc1 := 18) (l1 := [(0, .ref 27), (1, .ref 1000), (2, .int (iN (zi))), (3, .int (iN (zj))), (4, .int (iN ((zn : Int))))]) (st1 := [.ref 1000, .int (iN ((zn : Int)))]) (kr1 := (78, 76)) (h1 := zh) rfl ?_
    refine wp_call (md1 := am_m_String_length) (As := [.ref 1000]) (rest := [.int (iN ((zn : Int)))]) (kr1 := (78, 76)) rfl (js_len_0 _ (by omega)) ?_
    rintro _ _ ⟨rfl, rfl⟩
    refine wp_ge (a := (zn : Int)) (b := 6) rfl (by omega) (by omega) (fun b_21 => ?_) (fun b_21 => ?_)
    · refine wp_run (k := 1) (pc1 := 50) (l1 := [(0, .ref 27), (1, .ref 1000), (2, .int (iN (zi))), (3, .int (iN (zj))), (4, .int (iN ((zn : Int))))]) (st1 := [.int (iN (1))]) (kr1 := (78, 76)) (h1 := zh) rfl ?_
      refine wp_ret (rv := some (.int (iN (1)))) rfl ?_
      exact zk _ (if_pos ⟨by show zj - zi = 6; omega, fun k y => q_w k (by have y1 : k < 6 := y; omega)⟩).symm
    · refine wp_run (k := 4) (pc1 := 29) (l1 := [(0, .ref 27), (1, .ref 1000), (2, .int (iN (zi))), (3, .int (iN (zj))), (4, .int (iN ((zn : Int))))]) (st1 := [.int (iN ((zi) + ((zn : Int)))), .ref 27]) (kr1 := (78, 76)) (h1 := zh) (Eq.trans (b := (some (29, [(0, .ref 27), (1, .ref 1000), (2, .int (iN (zi))), (3, .int (iN (zj))), (4, .int (iN ((zn : Int))))], [.int ((iN (zi)) + (iN ((zn : Int)))), .ref 27], (78, 76), zh) : Option am_C)) rfl (by simp only [Int32.ofInt_add, Int32.ofInt_sub, Int32.ofInt_mul, Int32.ofInt_neg])) ?_
      have y_b := zWb_rg 0 zn
      have y_s : zSg F zl (zi + (zn : Int)) = F (zi + (zn : Int)) := if_pos (by omega)
      have y_c := q_c (zi + (zn : Int)) (by omega) (by omega)
      refine wp_call (md1 := am_m_Text_signAt) (As := [.ref 27, .int (iN ((zi) + ((zn : Int))))]) (rest := []) (kr1 := (78, 76)) rfl (jt_signAt _ (by omega) q_l q_r (zi := (zi) + ((zn : Int))) (by omega) q_f) ?_
      rintro _ _ ⟨rfl, rfl⟩
      refine wp_run (k := 2) (pc1 := 35) (l1 := [(0, .ref 27), (1, .ref 1000), (2, .int (iN (zi))), (3, .int (iN (zj))), (4, .int (iN ((zn : Int))))]) (st1 := [.int (iN ((zn : Int))), .ref 1000, .int (iN (zSg F zl ((zi) + ((zn : Int)))))]) (kr1 := (78, 76)) (h1 := zh) rfl ?_
      refine wp_call (md1 := am_m_String_charAt) (As := [.ref 1000, .int (iN ((zn : Int)))]) (rest := [.int (iN (zSg F zl ((zi) + ((zn : Int)))))]) (kr1 := (78, 76)) rfl (js_at_0 _ (by omega) (zi := zn) (by omega)) ?_
      rintro _ _ ⟨rfl, rfl⟩
      refine wp_eq (a := zSg F zl ((zi) + ((zn : Int)))) (b := zWb 0 zn) rfl (by omega) (by omega) (fun b_38 => ?_) (fun b_38 => ?_)
      · refine wp_run (k := 2) (pc1 := 15) (l1 := [(0, .ref 27), (1, .ref 1000), (2, .int (iN (zi))), (3, .int (iN (zj))), (4, .int (iN (((zn : Int)) + 1)))]) (st1 := []) (kr1 := (78, 76)) (h1 := zh) (Eq.trans (b := (some (15, [(0, .ref 27), (1, .ref 1000), (2, .int (iN (zi))), (3, .int (iN (zj))), (4, .int ((iN ((zn : Int))) + iN (1)))], [], (78, 76), zh) : Option am_C)) rfl (by simp only [Int32.ofInt_add, Int32.ofInt_sub, Int32.ofInt_mul, Int32.ofInt_neg])) ?_
        refine z_ih (zn + 1) (by omega) (fun k y => ?_) (by omega)
        by_cases y1 : k = zn
        · rw [y1]; omega
        · exact q_w k (by omega)
      · refine wp_run (k := 1) (pc1 := 42) (l1 := [(0, .ref 27), (1, .ref 1000), (2, .int (iN (zi))), (3, .int (iN (zj))), (4, .int (iN ((zn : Int))))]) (st1 := [.int (iN (0))]) (kr1 := (78, 76)) (h1 := zh) rfl ?_
        refine wp_ret (rv := some (.int (iN (0)))) rfl ?_
        exact zk _ (if_neg (fun y => by have y1 := y.2 zn (by show zn < 6; omega); omega)).symm
set_option maxRecDepth 20000 in
set_option maxHeartbeats 4000000 in
theorem jt_stands_0 (zd : Nat) (q_d : 4 ≤ zd) {zh : am_H} {F : Int → Int} {zl : Int} {zi zj : Int} (q_l : zh.1 27 1 = iN zl) (q_r : 0 ≤ zl ∧ zl ≤ 120) (q_f : ∀ k : Int, 0 ≤ k → k < zl → zh.1 28 k.toNat = iN (F k)) (q_c : ∀ k : Int, 0 ≤ k → k < zl → 32 ≤ F k ∧ F k ≤ 126) (q_i : 0 ≤ zi ∧ zi ≤ zj ∧ zj ≤ zl) : am_wp zd am_m_Text_stands 0 [(0, .ref 27), (1, .ref 1000), (2, .int (iN (zi))), (3, .int (iN (zj)))] [] (78, 76) zh (78, 76) (fun rv h' => rv = some (.int (iN (bI (zMt F 0 zi zj) (Classical.propDecidable _)))) ∧ zh = h') := by
  obtain ⟨zd, rfl⟩ : ∃ y_e, zd = y_e + 4 := ⟨zd - 4, by omega⟩
  refine wp_run (k := 1) (pc1 := 1) (l1 := [(0, .ref 27), (1, .ref 1000), (2, .int (iN (zi))), (3, .int (iN (zj)))]) (st1 := [.ref 1000]) (kr1 := (78, 76)) (h1 := zh) rfl ?_
  refine wp_call (md1 := am_m_String_length) (As := [.ref 1000]) (rest := []) (kr1 := (78, 76)) rfl (js_len_0 _ (by omega)) ?_
  rintro _ _ ⟨rfl, rfl⟩
  refine wp_run (k := 3) (pc1 := 7) (l1 := [(0, .ref 27), (1, .ref 1000), (2, .int (iN (zi))), (3, .int (iN (zj)))]) (st1 := [.int (iN ((zj) - (zi))), .int (iN (6))]) (kr1 := (78, 76)) (h1 := zh) (Eq.trans (b := (some (7, [(0, .ref 27), (1, .ref 1000), (2, .int (iN (zi))), (3, .int (iN (zj)))], [.int ((iN (zj)) - (iN (zi))), .int (iN (6))], (78, 76), zh) : Option am_C)) rfl (by simp only [Int32.ofInt_add, Int32.ofInt_sub, Int32.ofInt_mul, Int32.ofInt_neg])) ?_
  refine wp_eq (a := 6) (b := (zj) - (zi)) rfl (by omega) (by omega) (fun b_7 => ?_) (fun b_7 => ?_)
  · refine wp_run (k := 2) (pc1 := 15) (l1 := [(0, .ref 27), (1, .ref 1000), (2, .int (iN (zi))), (3, .int (iN (zj))), (4, .int (iN (0)))]) (st1 := []) (kr1 := (78, 76)) (h1 := zh) rfl ?_
    exact jl_stands_0 _ (by omega) q_l q_r q_f q_c (by omega) (by omega) (fun zv q_v => ⟨by rw [q_v], rfl⟩) 20 0 (by omega) (fun k y => by omega) (by omega)
  · refine wp_run (k := 1) (pc1 := 11) (l1 := [(0, .ref 27), (1, .ref 1000), (2, .int (iN (zi))), (3, .int (iN (zj)))]) (st1 := [.int (iN (0))]) (kr1 := (78, 76)) (h1 := zh) rfl ?_
    refine wp_ret (rv := some (.int (iN (0)))) rfl ?_
    exact ⟨by rw [show bI (zMt F 0 zi zj) (Classical.propDecidable _) = 0 from if_neg (fun y => by have y1 : zj - zi = 6 := y.1; omega)], rfl⟩
theorem jt_wordOf_0 (zd : Nat) {zh : am_H} : am_wp zd am_m_Text_wordOf 0 [(0, .ref 27), (1, .int (iN (0)))] [] (78, 76) zh (78, 76) (fun rv h' => rv = some (.ref 1000) ∧ zh = h') := ⟨10, some (.ref 1000), zh, rfl, rfl, rfl⟩
set_option maxRecDepth 20000 in
set_option maxHeartbeats 4000000 in
theorem jl_stands_1 (zd : Nat) (q_d : 4 ≤ zd) {zh : am_H} {F : Int → Int} {zl : Int} {zi zj : Int} (q_l : zh.1 27 1 = iN zl) (q_r : 0 ≤ zl ∧ zl ≤ 120) (q_f : ∀ k : Int, 0 ≤ k → k < zl → zh.1 28 k.toNat = iN (F k)) (q_c : ∀ k : Int, 0 ≤ k → k < zl → 32 ≤ F k ∧ F k ≤ 126) (q_i : 0 ≤ zi ∧ zj ≤ zl) (q_e : zj - zi = 5) {zQ : Option Value → am_H → Prop} (zk : ∀ zv : Int, zv = bI (zMt F 1 zi zj) (Classical.propDecidable _) → zQ (some (.int (iN zv))) zh) : ∀ (z_n : Nat) (zn : Nat) (q_n : zn ≤ 5) (q_w : ∀ k : Nat, k < zn → F (zi + (k : Int)) = zWb 1 k), (5 : Int) - zn < (z_n : Int) → am_wp zd am_m_Text_stands 15 [(0, .ref 27), (1, .ref 1001), (2, .int (iN (zi))), (3, .int (iN (zj))), (4, .int (iN ((zn : Int))))] [] (78, 76) zh (78, 76) zQ := by
  obtain ⟨zd, rfl⟩ : ∃ y_e, zd = y_e + 4 := ⟨zd - 4, by omega⟩
  intro z_n
  induction z_n with
  | zero => intro zn q_n q_w q_m; omega
  | succ z_n z_ih =>
    intro zn q_n q_w q_m
    refine wp_run (k := 2) (pc1 := 18) (l1 := [(0, .ref 27), (1, .ref 1001), (2, .int (iN (zi))), (3, .int (iN (zj))), (4, .int (iN ((zn : Int))))]) (st1 := [.ref 1001, .int (iN ((zn : Int)))]) (kr1 := (78, 76)) (h1 := zh) rfl ?_
    refine wp_call (md1 := am_m_String_length) (As := [.ref 1001]) (rest := [.int (iN ((zn : Int)))]) (kr1 := (78, 76)) rfl (js_len_1 _ (by omega)) ?_
    rintro _ _ ⟨rfl, rfl⟩
    refine wp_ge (a := (zn : Int)) (b := 5) rfl (by omega) (by omega) (fun b_21 => ?_) (fun b_21 => ?_)
    · refine wp_run (k := 1) (pc1 := 50) (l1 := [(0, .ref 27), (1, .ref 1001), (2, .int (iN (zi))), (3, .int (iN (zj))), (4, .int (iN ((zn : Int))))]) (st1 := [.int (iN (1))]) (kr1 := (78, 76)) (h1 := zh) rfl ?_
      refine wp_ret (rv := some (.int (iN (1)))) rfl ?_
      exact zk _ (if_pos ⟨by show zj - zi = 5; omega, fun k y => q_w k (by have y1 : k < 5 := y; omega)⟩).symm
    · refine wp_run (k := 4) (pc1 := 29) (l1 := [(0, .ref 27), (1, .ref 1001), (2, .int (iN (zi))), (3, .int (iN (zj))), (4, .int (iN ((zn : Int))))]) (st1 := [.int (iN ((zi) + ((zn : Int)))), .ref 27]) (kr1 := (78, 76)) (h1 := zh) (Eq.trans (b := (some (29, [(0, .ref 27), (1, .ref 1001), (2, .int (iN (zi))), (3, .int (iN (zj))), (4, .int (iN ((zn : Int))))], [.int ((iN (zi)) + (iN ((zn : Int)))), .ref 27], (78, 76), zh) : Option am_C)) rfl (by simp only [Int32.ofInt_add, Int32.ofInt_sub, Int32.ofInt_mul, Int32.ofInt_neg])) ?_
      have y_b := zWb_rg 1 zn
      have y_s : zSg F zl (zi + (zn : Int)) = F (zi + (zn : Int)) := if_pos (by omega)
      have y_c := q_c (zi + (zn : Int)) (by omega) (by omega)
      refine wp_call (md1 := am_m_Text_signAt) (As := [.ref 27, .int (iN ((zi) + ((zn : Int))))]) (rest := []) (kr1 := (78, 76)) rfl (jt_signAt _ (by omega) q_l q_r (zi := (zi) + ((zn : Int))) (by omega) q_f) ?_
      rintro _ _ ⟨rfl, rfl⟩
      refine wp_run (k := 2) (pc1 := 35) (l1 := [(0, .ref 27), (1, .ref 1001), (2, .int (iN (zi))), (3, .int (iN (zj))), (4, .int (iN ((zn : Int))))]) (st1 := [.int (iN ((zn : Int))), .ref 1001, .int (iN (zSg F zl ((zi) + ((zn : Int)))))]) (kr1 := (78, 76)) (h1 := zh) rfl ?_
      refine wp_call (md1 := am_m_String_charAt) (As := [.ref 1001, .int (iN ((zn : Int)))]) (rest := [.int (iN (zSg F zl ((zi) + ((zn : Int)))))]) (kr1 := (78, 76)) rfl (js_at_1 _ (by omega) (zi := zn) (by omega)) ?_
      rintro _ _ ⟨rfl, rfl⟩
      refine wp_eq (a := zSg F zl ((zi) + ((zn : Int)))) (b := zWb 1 zn) rfl (by omega) (by omega) (fun b_38 => ?_) (fun b_38 => ?_)
      · refine wp_run (k := 2) (pc1 := 15) (l1 := [(0, .ref 27), (1, .ref 1001), (2, .int (iN (zi))), (3, .int (iN (zj))), (4, .int (iN (((zn : Int)) + 1)))]) (st1 := []) (kr1 := (78, 76)) (h1 := zh) (Eq.trans (b := (some (15, [(0, .ref 27), (1, .ref 1001), (2, .int (iN (zi))), (3, .int (iN (zj))), (4, .int ((iN ((zn : Int))) + iN (1)))], [], (78, 76), zh) : Option am_C)) rfl (by simp only [Int32.ofInt_add, Int32.ofInt_sub, Int32.ofInt_mul, Int32.ofInt_neg])) ?_
        refine z_ih (zn + 1) (by omega) (fun k y => ?_) (by omega)
        by_cases y1 : k = zn
        · rw [y1]; omega
        · exact q_w k (by omega)
      · refine wp_run (k := 1) (pc1 := 42) (l1 := [(0, .ref 27), (1, .ref 1001), (2, .int (iN (zi))), (3, .int (iN (zj))), (4, .int (iN ((zn : Int))))]) (st1 := [.int (iN (0))]) (kr1 := (78, 76)) (h1 := zh) rfl ?_
        refine wp_ret (rv := some (.int (iN (0)))) rfl ?_
        exact zk _ (if_neg (fun y => by have y1 := y.2 zn (by show zn < 5; omega); omega)).symm
set_option maxRecDepth 20000 in
set_option maxHeartbeats 4000000 in
theorem jt_stands_1 (zd : Nat) (q_d : 4 ≤ zd) {zh : am_H} {F : Int → Int} {zl : Int} {zi zj : Int} (q_l : zh.1 27 1 = iN zl) (q_r : 0 ≤ zl ∧ zl ≤ 120) (q_f : ∀ k : Int, 0 ≤ k → k < zl → zh.1 28 k.toNat = iN (F k)) (q_c : ∀ k : Int, 0 ≤ k → k < zl → 32 ≤ F k ∧ F k ≤ 126) (q_i : 0 ≤ zi ∧ zi ≤ zj ∧ zj ≤ zl) : am_wp zd am_m_Text_stands 0 [(0, .ref 27), (1, .ref 1001), (2, .int (iN (zi))), (3, .int (iN (zj)))] [] (78, 76) zh (78, 76) (fun rv h' => rv = some (.int (iN (bI (zMt F 1 zi zj) (Classical.propDecidable _)))) ∧ zh = h') := by
  obtain ⟨zd, rfl⟩ : ∃ y_e, zd = y_e + 4 := ⟨zd - 4, by omega⟩
  refine wp_run (k := 1) (pc1 := 1) (l1 := [(0, .ref 27), (1, .ref 1001), (2, .int (iN (zi))), (3, .int (iN (zj)))]) (st1 := [.ref 1001]) (kr1 := (78, 76)) (h1 := zh) rfl ?_
  refine wp_call (md1 := am_m_String_length) (As := [.ref 1001]) (rest := []) (kr1 := (78, 76)) rfl (js_len_1 _ (by omega)) ?_
  rintro _ _ ⟨rfl, rfl⟩
  refine wp_run (k := 3) (pc1 := 7) (l1 := [(0, .ref 27), (1, .ref 1001), (2, .int (iN (zi))), (3, .int (iN (zj)))]) (st1 := [.int (iN ((zj) - (zi))), .int (iN (5))]) (kr1 := (78, 76)) (h1 := zh) (Eq.trans (b := (some (7, [(0, .ref 27), (1, .ref 1001), (2, .int (iN (zi))), (3, .int (iN (zj)))], [.int ((iN (zj)) - (iN (zi))), .int (iN (5))], (78, 76), zh) : Option am_C)) rfl (by simp only [Int32.ofInt_add, Int32.ofInt_sub, Int32.ofInt_mul, Int32.ofInt_neg])) ?_
  refine wp_eq (a := 5) (b := (zj) - (zi)) rfl (by omega) (by omega) (fun b_7 => ?_) (fun b_7 => ?_)
  · refine wp_run (k := 2) (pc1 := 15) (l1 := [(0, .ref 27), (1, .ref 1001), (2, .int (iN (zi))), (3, .int (iN (zj))), (4, .int (iN (0)))]) (st1 := []) (kr1 := (78, 76)) (h1 := zh) rfl ?_
    exact jl_stands_1 _ (by omega) q_l q_r q_f q_c (by omega) (by omega) (fun zv q_v => ⟨by rw [q_v], rfl⟩) 20 0 (by omega) (fun k y => by omega) (by omega)
  · refine wp_run (k := 1) (pc1 := 11) (l1 := [(0, .ref 27), (1, .ref 1001), (2, .int (iN (zi))), (3, .int (iN (zj)))]) (st1 := [.int (iN (0))]) (kr1 := (78, 76)) (h1 := zh) rfl ?_
    refine wp_ret (rv := some (.int (iN (0)))) rfl ?_
    exact ⟨by rw [show bI (zMt F 1 zi zj) (Classical.propDecidable _) = 0 from if_neg (fun y => by have y1 : zj - zi = 5 := y.1; omega)], rfl⟩
theorem jt_wordOf_1 (zd : Nat) {zh : am_H} : am_wp zd am_m_Text_wordOf 0 [(0, .ref 27), (1, .int (iN (1)))] [] (78, 76) zh (78, 76) (fun rv h' => rv = some (.ref 1001) ∧ zh = h') := ⟨10, some (.ref 1001), zh, rfl, rfl, rfl⟩
set_option maxRecDepth 20000 in
set_option maxHeartbeats 4000000 in
theorem jl_stands_2 (zd : Nat) (q_d : 4 ≤ zd) {zh : am_H} {F : Int → Int} {zl : Int} {zi zj : Int} (q_l : zh.1 27 1 = iN zl) (q_r : 0 ≤ zl ∧ zl ≤ 120) (q_f : ∀ k : Int, 0 ≤ k → k < zl → zh.1 28 k.toNat = iN (F k)) (q_c : ∀ k : Int, 0 ≤ k → k < zl → 32 ≤ F k ∧ F k ≤ 126) (q_i : 0 ≤ zi ∧ zj ≤ zl) (q_e : zj - zi = 6) {zQ : Option Value → am_H → Prop} (zk : ∀ zv : Int, zv = bI (zMt F 2 zi zj) (Classical.propDecidable _) → zQ (some (.int (iN zv))) zh) : ∀ (z_n : Nat) (zn : Nat) (q_n : zn ≤ 6) (q_w : ∀ k : Nat, k < zn → F (zi + (k : Int)) = zWb 2 k), (6 : Int) - zn < (z_n : Int) → am_wp zd am_m_Text_stands 15 [(0, .ref 27), (1, .ref 1002), (2, .int (iN (zi))), (3, .int (iN (zj))), (4, .int (iN ((zn : Int))))] [] (78, 76) zh (78, 76) zQ := by
  obtain ⟨zd, rfl⟩ : ∃ y_e, zd = y_e + 4 := ⟨zd - 4, by omega⟩
  intro z_n
  induction z_n with
  | zero => intro zn q_n q_w q_m; omega
  | succ z_n z_ih =>
    intro zn q_n q_w q_m
    refine wp_run (k := 2) (pc1 := 18) (l1 := [(0, .ref 27), (1, .ref 1002), (2, .int (iN (zi))), (3, .int (iN (zj))), (4, .int (iN ((zn : Int))))]) (st1 := [.ref 1002, .int (iN ((zn : Int)))]) (kr1 := (78, 76)) (h1 := zh) rfl ?_
    refine wp_call (md1 := am_m_String_length) (As := [.ref 1002]) (rest := [.int (iN ((zn : Int)))]) (kr1 := (78, 76)) rfl (js_len_2 _ (by omega)) ?_
    rintro _ _ ⟨rfl, rfl⟩
    refine wp_ge (a := (zn : Int)) (b := 6) rfl (by omega) (by omega) (fun b_21 => ?_) (fun b_21 => ?_)
    · refine wp_run (k := 1) (pc1 := 50) (l1 := [(0, .ref 27), (1, .ref 1002), (2, .int (iN (zi))), (3, .int (iN (zj))), (4, .int (iN ((zn : Int))))]) (st1 := [.int (iN (1))]) (kr1 := (78, 76)) (h1 := zh) rfl ?_
      refine wp_ret (rv := some (.int (iN (1)))) rfl ?_
      exact zk _ (if_pos ⟨by show zj - zi = 6; omega, fun k y => q_w k (by have y1 : k < 6 := y; omega)⟩).symm
    · refine wp_run (k := 4) (pc1 := 29) (l1 := [(0, .ref 27), (1, .ref 1002), (2, .int (iN (zi))), (3, .int (iN (zj))), (4, .int (iN ((zn : Int))))]) (st1 := [.int (iN ((zi) + ((zn : Int)))), .ref 27]) (kr1 := (78, 76)) (h1 := zh) (Eq.trans (b := (some (29, [(0, .ref 27), (1, .ref 1002), (2, .int (iN (zi))), (3, .int (iN (zj))), (4, .int (iN ((zn : Int))))], [.int ((iN (zi)) + (iN ((zn : Int)))), .ref 27], (78, 76), zh) : Option am_C)) rfl (by simp only [Int32.ofInt_add, Int32.ofInt_sub, Int32.ofInt_mul, Int32.ofInt_neg])) ?_
      have y_b := zWb_rg 2 zn
      have y_s : zSg F zl (zi + (zn : Int)) = F (zi + (zn : Int)) := if_pos (by omega)
      have y_c := q_c (zi + (zn : Int)) (by omega) (by omega)
      refine wp_call (md1 := am_m_Text_signAt) (As := [.ref 27, .int (iN ((zi) + ((zn : Int))))]) (rest := []) (kr1 := (78, 76)) rfl (jt_signAt _ (by omega) q_l q_r (zi := (zi) + ((zn : Int))) (by omega) q_f) ?_
      rintro _ _ ⟨rfl, rfl⟩
      refine wp_run (k := 2) (pc1 := 35) (l1 := [(0, .ref 27), (1, .ref 1002), (2, .int (iN (zi))), (3, .int (iN (zj))), (4, .int (iN ((zn : Int))))]) (st1 := [.int (iN ((zn : Int))), .ref 1002, .int (iN (zSg F zl ((zi) + ((zn : Int)))))]) (kr1 := (78, 76)) (h1 := zh) rfl ?_
      refine wp_call (md1 := am_m_String_charAt) (As := [.ref 1002, .int (iN ((zn : Int)))]) (rest := [.int (iN (zSg F zl ((zi) + ((zn : Int)))))]) (kr1 := (78, 76)) rfl (js_at_2 _ (by omega) (zi := zn) (by omega)) ?_
      rintro _ _ ⟨rfl, rfl⟩
      refine wp_eq (a := zSg F zl ((zi) + ((zn : Int)))) (b := zWb 2 zn) rfl (by omega) (by omega) (fun b_38 => ?_) (fun b_38 => ?_)
      · refine wp_run (k := 2) (pc1 := 15) (l1 := [(0, .ref 27), (1, .ref 1002), (2, .int (iN (zi))), (3, .int (iN (zj))), (4, .int (iN (((zn : Int)) + 1)))]) (st1 := []) (kr1 := (78, 76)) (h1 := zh) (Eq.trans (b := (some (15, [(0, .ref 27), (1, .ref 1002), (2, .int (iN (zi))), (3, .int (iN (zj))), (4, .int ((iN ((zn : Int))) + iN (1)))], [], (78, 76), zh) : Option am_C)) rfl (by simp only [Int32.ofInt_add, Int32.ofInt_sub, Int32.ofInt_mul, Int32.ofInt_neg])) ?_
        refine z_ih (zn + 1) (by omega) (fun k y => ?_) (by omega)
        by_cases y1 : k = zn
        · rw [y1]; omega
        · exact q_w k (by omega)
      · refine wp_run (k := 1) (pc1 := 42) (l1 := [(0, .ref 27), (1, .ref 1002), (2, .int (iN (zi))), (3, .int (iN (zj))), (4, .int (iN ((zn : Int))))]) (st1 := [.int (iN (0))]) (kr1 := (78, 76)) (h1 := zh) rfl ?_
        refine wp_ret (rv := some (.int (iN (0)))) rfl ?_
        exact zk _ (if_neg (fun y => by have y1 := y.2 zn (by show zn < 6; omega); omega)).symm
set_option maxRecDepth 20000 in
set_option maxHeartbeats 4000000 in
theorem jt_stands_2 (zd : Nat) (q_d : 4 ≤ zd) {zh : am_H} {F : Int → Int} {zl : Int} {zi zj : Int} (q_l : zh.1 27 1 = iN zl) (q_r : 0 ≤ zl ∧ zl ≤ 120) (q_f : ∀ k : Int, 0 ≤ k → k < zl → zh.1 28 k.toNat = iN (F k)) (q_c : ∀ k : Int, 0 ≤ k → k < zl → 32 ≤ F k ∧ F k ≤ 126) (q_i : 0 ≤ zi ∧ zi ≤ zj ∧ zj ≤ zl) : am_wp zd am_m_Text_stands 0 [(0, .ref 27), (1, .ref 1002), (2, .int (iN (zi))), (3, .int (iN (zj)))] [] (78, 76) zh (78, 76) (fun rv h' => rv = some (.int (iN (bI (zMt F 2 zi zj) (Classical.propDecidable _)))) ∧ zh = h') := by
  obtain ⟨zd, rfl⟩ : ∃ y_e, zd = y_e + 4 := ⟨zd - 4, by omega⟩
  refine wp_run (k := 1) (pc1 := 1) (l1 := [(0, .ref 27), (1, .ref 1002), (2, .int (iN (zi))), (3, .int (iN (zj)))]) (st1 := [.ref 1002]) (kr1 := (78, 76)) (h1 := zh) rfl ?_
  refine wp_call (md1 := am_m_String_length) (As := [.ref 1002]) (rest := []) (kr1 := (78, 76)) rfl (js_len_2 _ (by omega)) ?_
  rintro _ _ ⟨rfl, rfl⟩
  refine wp_run (k := 3) (pc1 := 7) (l1 := [(0, .ref 27), (1, .ref 1002), (2, .int (iN (zi))), (3, .int (iN (zj)))]) (st1 := [.int (iN ((zj) - (zi))), .int (iN (6))]) (kr1 := (78, 76)) (h1 := zh) (Eq.trans (b := (some (7, [(0, .ref 27), (1, .ref 1002), (2, .int (iN (zi))), (3, .int (iN (zj)))], [.int ((iN (zj)) - (iN (zi))), .int (iN (6))], (78, 76), zh) : Option am_C)) rfl (by simp only [Int32.ofInt_add, Int32.ofInt_sub, Int32.ofInt_mul, Int32.ofInt_neg])) ?_
  refine wp_eq (a := 6) (b := (zj) - (zi)) rfl (by omega) (by omega) (fun b_7 => ?_) (fun b_7 => ?_)
  · refine wp_run (k := 2) (pc1 := 15) (l1 := [(0, .ref 27), (1, .ref 1002), (2, .int (iN (zi))), (3, .int (iN (zj))), (4, .int (iN (0)))]) (st1 := []) (kr1 := (78, 76)) (h1 := zh) rfl ?_
    exact jl_stands_2 _ (by omega) q_l q_r q_f q_c (by omega) (by omega) (fun zv q_v => ⟨by rw [q_v], rfl⟩) 20 0 (by omega) (fun k y => by omega) (by omega)
  · refine wp_run (k := 1) (pc1 := 11) (l1 := [(0, .ref 27), (1, .ref 1002), (2, .int (iN (zi))), (3, .int (iN (zj)))]) (st1 := [.int (iN (0))]) (kr1 := (78, 76)) (h1 := zh) rfl ?_
    refine wp_ret (rv := some (.int (iN (0)))) rfl ?_
    exact ⟨by rw [show bI (zMt F 2 zi zj) (Classical.propDecidable _) = 0 from if_neg (fun y => by have y1 : zj - zi = 6 := y.1; omega)], rfl⟩
theorem jt_wordOf_2 (zd : Nat) {zh : am_H} : am_wp zd am_m_Text_wordOf 0 [(0, .ref 27), (1, .int (iN (2)))] [] (78, 76) zh (78, 76) (fun rv h' => rv = some (.ref 1002) ∧ zh = h') := ⟨10, some (.ref 1002), zh, rfl, rfl, rfl⟩
set_option maxRecDepth 20000 in
set_option maxHeartbeats 4000000 in
theorem jl_stands_3 (zd : Nat) (q_d : 4 ≤ zd) {zh : am_H} {F : Int → Int} {zl : Int} {zi zj : Int} (q_l : zh.1 27 1 = iN zl) (q_r : 0 ≤ zl ∧ zl ≤ 120) (q_f : ∀ k : Int, 0 ≤ k → k < zl → zh.1 28 k.toNat = iN (F k)) (q_c : ∀ k : Int, 0 ≤ k → k < zl → 32 ≤ F k ∧ F k ≤ 126) (q_i : 0 ≤ zi ∧ zj ≤ zl) (q_e : zj - zi = 7) {zQ : Option Value → am_H → Prop} (zk : ∀ zv : Int, zv = bI (zMt F 3 zi zj) (Classical.propDecidable _) → zQ (some (.int (iN zv))) zh) : ∀ (z_n : Nat) (zn : Nat) (q_n : zn ≤ 7) (q_w : ∀ k : Nat, k < zn → F (zi + (k : Int)) = zWb 3 k), (7 : Int) - zn < (z_n : Int) → am_wp zd am_m_Text_stands 15 [(0, .ref 27), (1, .ref 1003), (2, .int (iN (zi))), (3, .int (iN (zj))), (4, .int (iN ((zn : Int))))] [] (78, 76) zh (78, 76) zQ := by
  obtain ⟨zd, rfl⟩ : ∃ y_e, zd = y_e + 4 := ⟨zd - 4, by omega⟩
  intro z_n
  induction z_n with
  | zero => intro zn q_n q_w q_m; omega
  | succ z_n z_ih =>
    intro zn q_n q_w q_m
    refine wp_run (k := 2) (pc1 := 18) (l1 := [(0, .ref 27), (1, .ref 1003), (2, .int (iN (zi))), (3, .int (iN (zj))), (4, .int (iN ((zn : Int))))]) (st1 := [.ref 1003, .int (iN ((zn : Int)))]) (kr1 := (78, 76)) (h1 := zh) rfl ?_
    refine wp_call (md1 := am_m_String_length) (As := [.ref 1003]) (rest := [.int (iN ((zn : Int)))]) (kr1 := (78, 76)) rfl (js_len_3 _ (by omega)) ?_
    rintro _ _ ⟨rfl, rfl⟩
    refine wp_ge (a := (zn : Int)) (b := 7) rfl (by omega) (by omega) (fun b_21 => ?_) (fun b_21 => ?_)
    · refine wp_run (k := 1) (pc1 := 50) (l1 := [(0, .ref 27), (1, .ref 1003), (2, .int (iN (zi))), (3, .int (iN (zj))), (4, .int (iN ((zn : Int))))]) (st1 := [.int (iN (1))]) (kr1 := (78, 76)) (h1 := zh) rfl ?_
      refine wp_ret (rv := some (.int (iN (1)))) rfl ?_
      exact zk _ (if_pos ⟨by show zj - zi = 7; omega, fun k y => q_w k (by have y1 : k < 7 := y; omega)⟩).symm
    · refine wp_run (k := 4) (pc1 := 29) (l1 := [(0, .ref 27), (1, .ref 1003), (2, .int (iN (zi))), (3, .int (iN (zj))), (4, .int (iN ((zn : Int))))]) (st1 := [.int (iN ((zi) + ((zn : Int)))), .ref 27]) (kr1 := (78, 76)) (h1 := zh) (Eq.trans (b := (some (29, [(0, .ref 27), (1, .ref 1003), (2, .int (iN (zi))), (3, .int (iN (zj))), (4, .int (iN ((zn : Int))))], [.int ((iN (zi)) + (iN ((zn : Int)))), .ref 27], (78, 76), zh) : Option am_C)) rfl (by simp only [Int32.ofInt_add, Int32.ofInt_sub, Int32.ofInt_mul, Int32.ofInt_neg])) ?_
      have y_b := zWb_rg 3 zn
      have y_s : zSg F zl (zi + (zn : Int)) = F (zi + (zn : Int)) := if_pos (by omega)
      have y_c := q_c (zi + (zn : Int)) (by omega) (by omega)
      refine wp_call (md1 := am_m_Text_signAt) (As := [.ref 27, .int (iN ((zi) + ((zn : Int))))]) (rest := []) (kr1 := (78, 76)) rfl (jt_signAt _ (by omega) q_l q_r (zi := (zi) + ((zn : Int))) (by omega) q_f) ?_
      rintro _ _ ⟨rfl, rfl⟩
      refine wp_run (k := 2) (pc1 := 35) (l1 := [(0, .ref 27), (1, .ref 1003), (2, .int (iN (zi))), (3, .int (iN (zj))), (4, .int (iN ((zn : Int))))]) (st1 := [.int (iN ((zn : Int))), .ref 1003, .int (iN (zSg F zl ((zi) + ((zn : Int)))))]) (kr1 := (78, 76)) (h1 := zh) rfl ?_
      refine wp_call (md1 := am_m_String_charAt) (As := [.ref 1003, .int (iN ((zn : Int)))]) (rest := [.int (iN (zSg F zl ((zi) + ((zn : Int)))))]) (kr1 := (78, 76)) rfl (js_at_3 _ (by omega) (zi := zn) (by omega)) ?_
      rintro _ _ ⟨rfl, rfl⟩
      refine wp_eq (a := zSg F zl ((zi) + ((zn : Int)))) (b := zWb 3 zn) rfl (by omega) (by omega) (fun b_38 => ?_) (fun b_38 => ?_)
      · refine wp_run (k := 2) (pc1 := 15) (l1 := [(0, .ref 27), (1, .ref 1003), (2, .int (iN (zi))), (3, .int (iN (zj))), (4, .int (iN (((zn : Int)) + 1)))]) (st1 := []) (kr1 := (78, 76)) (h1 := zh) (Eq.trans (b := (some (15, [(0, .ref 27), (1, .ref 1003), (2, .int (iN (zi))), (3, .int (iN (zj))), (4, .int ((iN ((zn : Int))) + iN (1)))], [], (78, 76), zh) : Option am_C)) rfl (by simp only [Int32.ofInt_add, Int32.ofInt_sub, Int32.ofInt_mul, Int32.ofInt_neg])) ?_
        refine z_ih (zn + 1) (by omega) (fun k y => ?_) (by omega)
        by_cases y1 : k = zn
        · rw [y1]; omega
        · exact q_w k (by omega)
      · refine wp_run (k := 1) (pc1 := 42) (l1 := [(0, .ref 27), (1, .ref 1003), (2, .int (iN (zi))), (3, .int (iN (zj))), (4, .int (iN ((zn : Int))))]) (st1 := [.int (iN (0))]) (kr1 := (78, 76)) (h1 := zh) rfl ?_
        refine wp_ret (rv := some (.int (iN (0)))) rfl ?_
        exact zk _ (if_neg (fun y => by have y1 := y.2 zn (by show zn < 7; omega); omega)).symm
set_option maxRecDepth 20000 in
set_option maxHeartbeats 4000000 in
theorem jt_stands_3 (zd : Nat) (q_d : 4 ≤ zd) {zh : am_H} {F : Int → Int} {zl : Int} {zi zj : Int} (q_l : zh.1 27 1 = iN zl) (q_r : 0 ≤ zl ∧ zl ≤ 120) (q_f : ∀ k : Int, 0 ≤ k → k < zl → zh.1 28 k.toNat = iN (F k)) (q_c : ∀ k : Int, 0 ≤ k → k < zl → 32 ≤ F k ∧ F k ≤ 126) (q_i : 0 ≤ zi ∧ zi ≤ zj ∧ zj ≤ zl) : am_wp zd am_m_Text_stands 0 [(0, .ref 27), (1, .ref 1003), (2, .int (iN (zi))), (3, .int (iN (zj)))] [] (78, 76) zh (78, 76) (fun rv h' => rv = some (.int (iN (bI (zMt F 3 zi zj) (Classical.propDecidable _)))) ∧ zh = h') := by
  obtain ⟨zd, rfl⟩ : ∃ y_e, zd = y_e + 4 := ⟨zd - 4, by omega⟩
  refine wp_run (k := 1) (pc1 := 1) (l1 := [(0, .ref 27), (1, .ref 1003), (2, .int (iN (zi))), (3, .int (iN (zj)))]) (st1 := [.ref 1003]) (kr1 := (78, 76)) (h1 := zh) rfl ?_
  refine wp_call (md1 := am_m_String_length) (As := [.ref 1003]) (rest := []) (kr1 := (78, 76)) rfl (js_len_3 _ (by omega)) ?_
  rintro _ _ ⟨rfl, rfl⟩
  refine wp_run (k := 3) (pc1 := 7) (l1 := [(0, .ref 27), (1, .ref 1003), (2, .int (iN (zi))), (3, .int (iN (zj)))]) (st1 := [.int (iN ((zj) - (zi))), .int (iN (7))]) (kr1 := (78, 76)) (h1 := zh) (Eq.trans (b := (some (7, [(0, .ref 27), (1, .ref 1003), (2, .int (iN (zi))), (3, .int (iN (zj)))], [.int ((iN (zj)) - (iN (zi))), .int (iN (7))], (78, 76), zh) : Option am_C)) rfl (by simp only [Int32.ofInt_add, Int32.ofInt_sub, Int32.ofInt_mul, Int32.ofInt_neg])) ?_
  refine wp_eq (a := 7) (b := (zj) - (zi)) rfl (by omega) (by omega) (fun b_7 => ?_) (fun b_7 => ?_)
  · refine wp_run (k := 2) (pc1 := 15) (l1 := [(0, .ref 27), (1, .ref 1003), (2, .int (iN (zi))), (3, .int (iN (zj))), (4, .int (iN (0)))]) (st1 := []) (kr1 := (78, 76)) (h1 := zh) rfl ?_
    exact jl_stands_3 _ (by omega) q_l q_r q_f q_c (by omega) (by omega) (fun zv q_v => ⟨by rw [q_v], rfl⟩) 20 0 (by omega) (fun k y => by omega) (by omega)
  · refine wp_run (k := 1) (pc1 := 11) (l1 := [(0, .ref 27), (1, .ref 1003), (2, .int (iN (zi))), (3, .int (iN (zj)))]) (st1 := [.int (iN (0))]) (kr1 := (78, 76)) (h1 := zh) rfl ?_
    refine wp_ret (rv := some (.int (iN (0)))) rfl ?_
    exact ⟨by rw [show bI (zMt F 3 zi zj) (Classical.propDecidable _) = 0 from if_neg (fun y => by have y1 : zj - zi = 7 := y.1; omega)], rfl⟩
theorem jt_wordOf_3 (zd : Nat) {zh : am_H} : am_wp zd am_m_Text_wordOf 0 [(0, .ref 27), (1, .int (iN (3)))] [] (78, 76) zh (78, 76) (fun rv h' => rv = some (.ref 1003) ∧ zh = h') := ⟨10, some (.ref 1003), zh, rfl, rfl, rfl⟩
set_option maxRecDepth 20000 in
set_option maxHeartbeats 4000000 in
theorem jl_stands_4 (zd : Nat) (q_d : 4 ≤ zd) {zh : am_H} {F : Int → Int} {zl : Int} {zi zj : Int} (q_l : zh.1 27 1 = iN zl) (q_r : 0 ≤ zl ∧ zl ≤ 120) (q_f : ∀ k : Int, 0 ≤ k → k < zl → zh.1 28 k.toNat = iN (F k)) (q_c : ∀ k : Int, 0 ≤ k → k < zl → 32 ≤ F k ∧ F k ≤ 126) (q_i : 0 ≤ zi ∧ zj ≤ zl) (q_e : zj - zi = 4) {zQ : Option Value → am_H → Prop} (zk : ∀ zv : Int, zv = bI (zMt F 4 zi zj) (Classical.propDecidable _) → zQ (some (.int (iN zv))) zh) : ∀ (z_n : Nat) (zn : Nat) (q_n : zn ≤ 4) (q_w : ∀ k : Nat, k < zn → F (zi + (k : Int)) = zWb 4 k), (4 : Int) - zn < (z_n : Int) → am_wp zd am_m_Text_stands 15 [(0, .ref 27), (1, .ref 1004), (2, .int (iN (zi))), (3, .int (iN (zj))), (4, .int (iN ((zn : Int))))] [] (78, 76) zh (78, 76) zQ := by
  obtain ⟨zd, rfl⟩ : ∃ y_e, zd = y_e + 4 := ⟨zd - 4, by omega⟩
  intro z_n
  induction z_n with
  | zero => intro zn q_n q_w q_m; omega
  | succ z_n z_ih =>
    intro zn q_n q_w q_m
    refine wp_run (k := 2) (pc1 := 18) (l1 := [(0, .ref 27), (1, .ref 1004), (2, .int (iN (zi))), (3, .int (iN (zj))), (4, .int (iN ((zn : Int))))]) (st1 := [.ref 1004, .int (iN ((zn : Int)))]) (kr1 := (78, 76)) (h1 := zh) rfl ?_
    refine wp_call (md1 := am_m_String_length) (As := [.ref 1004]) (rest := [.int (iN ((zn : Int)))]) (kr1 := (78, 76)) rfl (js_len_4 _ (by omega)) ?_
    rintro _ _ ⟨rfl, rfl⟩
    refine wp_ge (a := (zn : Int)) (b := 4) rfl (by omega) (by omega) (fun b_21 => ?_) (fun b_21 => ?_)
    · refine wp_run (k := 1) (pc1 := 50) (l1 := [(0, .ref 27), (1, .ref 1004), (2, .int (iN (zi))), (3, .int (iN (zj))), (4, .int (iN ((zn : Int))))]) (st1 := [.int (iN (1))]) (kr1 := (78, 76)) (h1 := zh) rfl ?_
      refine wp_ret (rv := some (.int (iN (1)))) rfl ?_
      exact zk _ (if_pos ⟨by show zj - zi = 4; omega, fun k y => q_w k (by have y1 : k < 4 := y; omega)⟩).symm
    · refine wp_run (k := 4) (pc1 := 29) (l1 := [(0, .ref 27), (1, .ref 1004), (2, .int (iN (zi))), (3, .int (iN (zj))), (4, .int (iN ((zn : Int))))]) (st1 := [.int (iN ((zi) + ((zn : Int)))), .ref 27]) (kr1 := (78, 76)) (h1 := zh) (Eq.trans (b := (some (29, [(0, .ref 27), (1, .ref 1004), (2, .int (iN (zi))), (3, .int (iN (zj))), (4, .int (iN ((zn : Int))))], [.int ((iN (zi)) + (iN ((zn : Int)))), .ref 27], (78, 76), zh) : Option am_C)) rfl (by simp only [Int32.ofInt_add, Int32.ofInt_sub, Int32.ofInt_mul, Int32.ofInt_neg])) ?_
      have y_b := zWb_rg 4 zn
      have y_s : zSg F zl (zi + (zn : Int)) = F (zi + (zn : Int)) := if_pos (by omega)
      have y_c := q_c (zi + (zn : Int)) (by omega) (by omega)
      refine wp_call (md1 := am_m_Text_signAt) (As := [.ref 27, .int (iN ((zi) + ((zn : Int))))]) (rest := []) (kr1 := (78, 76)) rfl (jt_signAt _ (by omega) q_l q_r (zi := (zi) + ((zn : Int))) (by omega) q_f) ?_
      rintro _ _ ⟨rfl, rfl⟩
      refine wp_run (k := 2) (pc1 := 35) (l1 := [(0, .ref 27), (1, .ref 1004), (2, .int (iN (zi))), (3, .int (iN (zj))), (4, .int (iN ((zn : Int))))]) (st1 := [.int (iN ((zn : Int))), .ref 1004, .int (iN (zSg F zl ((zi) + ((zn : Int)))))]) (kr1 := (78, 76)) (h1 := zh) rfl ?_
      refine wp_call (md1 := am_m_String_charAt) (As := [.ref 1004, .int (iN ((zn : Int)))]) (rest := [.int (iN (zSg F zl ((zi) + ((zn : Int)))))]) (kr1 := (78, 76)) rfl (js_at_4 _ (by omega) (zi := zn) (by omega)) ?_
      rintro _ _ ⟨rfl, rfl⟩
      refine wp_eq (a := zSg F zl ((zi) + ((zn : Int)))) (b := zWb 4 zn) rfl (by omega) (by omega) (fun b_38 => ?_) (fun b_38 => ?_)
      · refine wp_run (k := 2) (pc1 := 15) (l1 := [(0, .ref 27), (1, .ref 1004), (2, .int (iN (zi))), (3, .int (iN (zj))), (4, .int (iN (((zn : Int)) + 1)))]) (st1 := []) (kr1 := (78, 76)) (h1 := zh) (Eq.trans (b := (some (15, [(0, .ref 27), (1, .ref 1004), (2, .int (iN (zi))), (3, .int (iN (zj))), (4, .int ((iN ((zn : Int))) + iN (1)))], [], (78, 76), zh) : Option am_C)) rfl (by simp only [Int32.ofInt_add, Int32.ofInt_sub, Int32.ofInt_mul, Int32.ofInt_neg])) ?_
        refine z_ih (zn + 1) (by omega) (fun k y => ?_) (by omega)
        by_cases y1 : k = zn
        · rw [y1]; omega
        · exact q_w k (by omega)
      · refine wp_run (k := 1) (pc1 := 42) (l1 := [(0, .ref 27), (1, .ref 1004), (2, .int (iN (zi))), (3, .int (iN (zj))), (4, .int (iN ((zn : Int))))]) (st1 := [.int (iN (0))]) (kr1 := (78, 76)) (h1 := zh) rfl ?_
        refine wp_ret (rv := some (.int (iN (0)))) rfl ?_
        exact zk _ (if_neg (fun y => by have y1 := y.2 zn (by show zn < 4; omega); omega)).symm
set_option maxRecDepth 20000 in
set_option maxHeartbeats 4000000 in
theorem jt_stands_4 (zd : Nat) (q_d : 4 ≤ zd) {zh : am_H} {F : Int → Int} {zl : Int} {zi zj : Int} (q_l : zh.1 27 1 = iN zl) (q_r : 0 ≤ zl ∧ zl ≤ 120) (q_f : ∀ k : Int, 0 ≤ k → k < zl → zh.1 28 k.toNat = iN (F k)) (q_c : ∀ k : Int, 0 ≤ k → k < zl → 32 ≤ F k ∧ F k ≤ 126) (q_i : 0 ≤ zi ∧ zi ≤ zj ∧ zj ≤ zl) : am_wp zd am_m_Text_stands 0 [(0, .ref 27), (1, .ref 1004), (2, .int (iN (zi))), (3, .int (iN (zj)))] [] (78, 76) zh (78, 76) (fun rv h' => rv = some (.int (iN (bI (zMt F 4 zi zj) (Classical.propDecidable _)))) ∧ zh = h') := by
  obtain ⟨zd, rfl⟩ : ∃ y_e, zd = y_e + 4 := ⟨zd - 4, by omega⟩
  refine wp_run (k := 1) (pc1 := 1) (l1 := [(0, .ref 27), (1, .ref 1004), (2, .int (iN (zi))), (3, .int (iN (zj)))]) (st1 := [.ref 1004]) (kr1 := (78, 76)) (h1 := zh) rfl ?_
  refine wp_call (md1 := am_m_String_length) (As := [.ref 1004]) (rest := []) (kr1 := (78, 76)) rfl (js_len_4 _ (by omega)) ?_
  rintro _ _ ⟨rfl, rfl⟩
  refine wp_run (k := 3) (pc1 := 7) (l1 := [(0, .ref 27), (1, .ref 1004), (2, .int (iN (zi))), (3, .int (iN (zj)))]) (st1 := [.int (iN ((zj) - (zi))), .int (iN (4))]) (kr1 := (78, 76)) (h1 := zh) (Eq.trans (b := (some (7, [(0, .ref 27), (1, .ref 1004), (2, .int (iN (zi))), (3, .int (iN (zj)))], [.int ((iN (zj)) - (iN (zi))), .int (iN (4))], (78, 76), zh) : Option am_C)) rfl (by simp only [Int32.ofInt_add, Int32.ofInt_sub, Int32.ofInt_mul, Int32.ofInt_neg])) ?_
  refine wp_eq (a := 4) (b := (zj) - (zi)) rfl (by omega) (by omega) (fun b_7 => ?_) (fun b_7 => ?_)
  · refine wp_run (k := 2) (pc1 := 15) (l1 := [(0, .ref 27), (1, .ref 1004), (2, .int (iN (zi))), (3, .int (iN (zj))), (4, .int (iN (0)))]) (st1 := []) (kr1 := (78, 76)) (h1 := zh) rfl ?_
    exact jl_stands_4 _ (by omega) q_l q_r q_f q_c (by omega) (by omega) (fun zv q_v => ⟨by rw [q_v], rfl⟩) 20 0 (by omega) (fun k y => by omega) (by omega)
  · refine wp_run (k := 1) (pc1 := 11) (l1 := [(0, .ref 27), (1, .ref 1004), (2, .int (iN (zi))), (3, .int (iN (zj)))]) (st1 := [.int (iN (0))]) (kr1 := (78, 76)) (h1 := zh) rfl ?_
    refine wp_ret (rv := some (.int (iN (0)))) rfl ?_
    exact ⟨by rw [show bI (zMt F 4 zi zj) (Classical.propDecidable _) = 0 from if_neg (fun y => by have y1 : zj - zi = 4 := y.1; omega)], rfl⟩
theorem jt_wordOf_4 (zd : Nat) {zh : am_H} : am_wp zd am_m_Text_wordOf 0 [(0, .ref 27), (1, .int (iN (4)))] [] (78, 76) zh (78, 76) (fun rv h' => rv = some (.ref 1004) ∧ zh = h') := ⟨10, some (.ref 1004), zh, rfl, rfl, rfl⟩
set_option maxRecDepth 20000 in
set_option maxHeartbeats 4000000 in
theorem jl_stands_5 (zd : Nat) (q_d : 4 ≤ zd) {zh : am_H} {F : Int → Int} {zl : Int} {zi zj : Int} (q_l : zh.1 27 1 = iN zl) (q_r : 0 ≤ zl ∧ zl ≤ 120) (q_f : ∀ k : Int, 0 ≤ k → k < zl → zh.1 28 k.toNat = iN (F k)) (q_c : ∀ k : Int, 0 ≤ k → k < zl → 32 ≤ F k ∧ F k ≤ 126) (q_i : 0 ≤ zi ∧ zj ≤ zl) (q_e : zj - zi = 4) {zQ : Option Value → am_H → Prop} (zk : ∀ zv : Int, zv = bI (zMt F 5 zi zj) (Classical.propDecidable _) → zQ (some (.int (iN zv))) zh) : ∀ (z_n : Nat) (zn : Nat) (q_n : zn ≤ 4) (q_w : ∀ k : Nat, k < zn → F (zi + (k : Int)) = zWb 5 k), (4 : Int) - zn < (z_n : Int) → am_wp zd am_m_Text_stands 15 [(0, .ref 27), (1, .ref 1005), (2, .int (iN (zi))), (3, .int (iN (zj))), (4, .int (iN ((zn : Int))))] [] (78, 76) zh (78, 76) zQ := by
  obtain ⟨zd, rfl⟩ : ∃ y_e, zd = y_e + 4 := ⟨zd - 4, by omega⟩
  intro z_n
  induction z_n with
  | zero => intro zn q_n q_w q_m; omega
  | succ z_n z_ih =>
    intro zn q_n q_w q_m
    refine wp_run (k := 2) (pc1 := 18) (l1 := [(0, .ref 27), (1, .ref 1005), (2, .int (iN (zi))), (3, .int (iN (zj))), (4, .int (iN ((zn : Int))))]) (st1 := [.ref 1005, .int (iN ((zn : Int)))]) (kr1 := (78, 76)) (h1 := zh) rfl ?_
    refine wp_call (md1 := am_m_String_length) (As := [.ref 1005]) (rest := [.int (iN ((zn : Int)))]) (kr1 := (78, 76)) rfl (js_len_5 _ (by omega)) ?_
    rintro _ _ ⟨rfl, rfl⟩
    refine wp_ge (a := (zn : Int)) (b := 4) rfl (by omega) (by omega) (fun b_21 => ?_) (fun b_21 => ?_)
    · refine wp_run (k := 1) (pc1 := 50) (l1 := [(0, .ref 27), (1, .ref 1005), (2, .int (iN (zi))), (3, .int (iN (zj))), (4, .int (iN ((zn : Int))))]) (st1 := [.int (iN (1))]) (kr1 := (78, 76)) (h1 := zh) rfl ?_
      refine wp_ret (rv := some (.int (iN (1)))) rfl ?_
      exact zk _ (if_pos ⟨by show zj - zi = 4; omega, fun k y => q_w k (by have y1 : k < 4 := y; omega)⟩).symm
    · refine wp_run (k := 4) (pc1 := 29) (l1 := [(0, .ref 27), (1, .ref 1005), (2, .int (iN (zi))), (3, .int (iN (zj))), (4, .int (iN ((zn : Int))))]) (st1 := [.int (iN ((zi) + ((zn : Int)))), .ref 27]) (kr1 := (78, 76)) (h1 := zh) (Eq.trans (b := (some (29, [(0, .ref 27), (1, .ref 1005), (2, .int (iN (zi))), (3, .int (iN (zj))), (4, .int (iN ((zn : Int))))], [.int ((iN (zi)) + (iN ((zn : Int)))), .ref 27], (78, 76), zh) : Option am_C)) rfl (by simp only [Int32.ofInt_add, Int32.ofInt_sub, Int32.ofInt_mul, Int32.ofInt_neg])) ?_
      have y_b := zWb_rg 5 zn
      have y_s : zSg F zl (zi + (zn : Int)) = F (zi + (zn : Int)) := if_pos (by omega)
      have y_c := q_c (zi + (zn : Int)) (by omega) (by omega)
      refine wp_call (md1 := am_m_Text_signAt) (As := [.ref 27, .int (iN ((zi) + ((zn : Int))))]) (rest := []) (kr1 := (78, 76)) rfl (jt_signAt _ (by omega) q_l q_r (zi := (zi) + ((zn : Int))) (by omega) q_f) ?_
      rintro _ _ ⟨rfl, rfl⟩
      refine wp_run (k := 2) (pc1 := 35) (l1 := [(0, .ref 27), (1, .ref 1005), (2, .int (iN (zi))), (3, .int (iN (zj))), (4, .int (iN ((zn : Int))))]) (st1 := [.int (iN ((zn : Int))), .ref 1005, .int (iN (zSg F zl ((zi) + ((zn : Int)))))]) (kr1 := (78, 76)) (h1 := zh) rfl ?_
      refine wp_call (md1 := am_m_String_charAt) (As := [.ref 1005, .int (iN ((zn : Int)))]) (rest := [.int (iN (zSg F zl ((zi) + ((zn : Int)))))]) (kr1 := (78, 76)) rfl (js_at_5 _ (by omega) (zi := zn) (by omega)) ?_
      rintro _ _ ⟨rfl, rfl⟩
      refine wp_eq (a := zSg F zl ((zi) + ((zn : Int)))) (b := zWb 5 zn) rfl (by omega) (by omega) (fun b_38 => ?_) (fun b_38 => ?_)
      · refine wp_run (k := 2) (pc1 := 15) (l1 := [(0, .ref 27), (1, .ref 1005), (2, .int (iN (zi))), (3, .int (iN (zj))), (4, .int (iN (((zn : Int)) + 1)))]) (st1 := []) (kr1 := (78, 76)) (h1 := zh) (Eq.trans (b := (some (15, [(0, .ref 27), (1, .ref 1005), (2, .int (iN (zi))), (3, .int (iN (zj))), (4, .int ((iN ((zn : Int))) + iN (1)))], [], (78, 76), zh) : Option am_C)) rfl (by simp only [Int32.ofInt_add, Int32.ofInt_sub, Int32.ofInt_mul, Int32.ofInt_neg])) ?_
        refine z_ih (zn + 1) (by omega) (fun k y => ?_) (by omega)
        by_cases y1 : k = zn
        · rw [y1]; omega
        · exact q_w k (by omega)
      · refine wp_run (k := 1) (pc1 := 42) (l1 := [(0, .ref 27), (1, .ref 1005), (2, .int (iN (zi))), (3, .int (iN (zj))), (4, .int (iN ((zn : Int))))]) (st1 := [.int (iN (0))]) (kr1 := (78, 76)) (h1 := zh) rfl ?_
        refine wp_ret (rv := some (.int (iN (0)))) rfl ?_
        exact zk _ (if_neg (fun y => by have y1 := y.2 zn (by show zn < 4; omega); omega)).symm
set_option maxRecDepth 20000 in
set_option maxHeartbeats 4000000 in
theorem jt_stands_5 (zd : Nat) (q_d : 4 ≤ zd) {zh : am_H} {F : Int → Int} {zl : Int} {zi zj : Int} (q_l : zh.1 27 1 = iN zl) (q_r : 0 ≤ zl ∧ zl ≤ 120) (q_f : ∀ k : Int, 0 ≤ k → k < zl → zh.1 28 k.toNat = iN (F k)) (q_c : ∀ k : Int, 0 ≤ k → k < zl → 32 ≤ F k ∧ F k ≤ 126) (q_i : 0 ≤ zi ∧ zi ≤ zj ∧ zj ≤ zl) : am_wp zd am_m_Text_stands 0 [(0, .ref 27), (1, .ref 1005), (2, .int (iN (zi))), (3, .int (iN (zj)))] [] (78, 76) zh (78, 76) (fun rv h' => rv = some (.int (iN (bI (zMt F 5 zi zj) (Classical.propDecidable _)))) ∧ zh = h') := by
  obtain ⟨zd, rfl⟩ : ∃ y_e, zd = y_e + 4 := ⟨zd - 4, by omega⟩
  refine wp_run (k := 1) (pc1 := 1) (l1 := [(0, .ref 27), (1, .ref 1005), (2, .int (iN (zi))), (3, .int (iN (zj)))]) (st1 := [.ref 1005]) (kr1 := (78, 76)) (h1 := zh) rfl ?_
  refine wp_call (md1 := am_m_String_length) (As := [.ref 1005]) (rest := []) (kr1 := (78, 76)) rfl (js_len_5 _ (by omega)) ?_
  rintro _ _ ⟨rfl, rfl⟩
  refine wp_run (k := 3) (pc1 := 7) (l1 := [(0, .ref 27), (1, .ref 1005), (2, .int (iN (zi))), (3, .int (iN (zj)))]) (st1 := [.int (iN ((zj) - (zi))), .int (iN (4))]) (kr1 := (78, 76)) (h1 := zh) (Eq.trans (b := (some (7, [(0, .ref 27), (1, .ref 1005), (2, .int (iN (zi))), (3, .int (iN (zj)))], [.int ((iN (zj)) - (iN (zi))), .int (iN (4))], (78, 76), zh) : Option am_C)) rfl (by simp only [Int32.ofInt_add, Int32.ofInt_sub, Int32.ofInt_mul, Int32.ofInt_neg])) ?_
  refine wp_eq (a := 4) (b := (zj) - (zi)) rfl (by omega) (by omega) (fun b_7 => ?_) (fun b_7 => ?_)
  · refine wp_run (k := 2) (pc1 := 15) (l1 := [(0, .ref 27), (1, .ref 1005), (2, .int (iN (zi))), (3, .int (iN (zj))), (4, .int (iN (0)))]) (st1 := []) (kr1 := (78, 76)) (h1 := zh) rfl ?_
    exact jl_stands_5 _ (by omega) q_l q_r q_f q_c (by omega) (by omega) (fun zv q_v => ⟨by rw [q_v], rfl⟩) 20 0 (by omega) (fun k y => by omega) (by omega)
  · refine wp_run (k := 1) (pc1 := 11) (l1 := [(0, .ref 27), (1, .ref 1005), (2, .int (iN (zi))), (3, .int (iN (zj)))]) (st1 := [.int (iN (0))]) (kr1 := (78, 76)) (h1 := zh) rfl ?_
    refine wp_ret (rv := some (.int (iN (0)))) rfl ?_
    exact ⟨by rw [show bI (zMt F 5 zi zj) (Classical.propDecidable _) = 0 from if_neg (fun y => by have y1 : zj - zi = 4 := y.1; omega)], rfl⟩
theorem jt_wordOf_5 (zd : Nat) {zh : am_H} : am_wp zd am_m_Text_wordOf 0 [(0, .ref 27), (1, .int (iN (5)))] [] (78, 76) zh (78, 76) (fun rv h' => rv = some (.ref 1005) ∧ zh = h') := ⟨10, some (.ref 1005), zh, rfl, rfl, rfl⟩
set_option maxRecDepth 20000 in
set_option maxHeartbeats 4000000 in
theorem jt_blank (zd : Nat) (q_d : 2 ≤ zd) {zh : am_H} {F : Int → Int} {zl : Int} {zi : Int} (q_l : zh.1 27 1 = iN zl) (q_r : 0 ≤ zl ∧ zl ≤ 120) (q_f : ∀ k : Int, 0 ≤ k → k < zl → zh.1 28 k.toNat = iN (F k)) (q_c : ∀ k : Int, 0 ≤ k → k < zl → 32 ≤ F k ∧ F k ≤ 126) (q_p : zh.1 27 2 = iN zi) (q_i : 0 ≤ zi ∧ zi ≤ zl) : am_wp zd am_m_Text_lookAtBlank 0 [(0, .ref 27)] [] (78, 76) zh (78, 76) (fun rv h' => rv = some (.int (iN (bI (zSg F zl zi = 32) inferInstance))) ∧ am_fr [27] zh h' ∧ (∀ zs : Nat, zs ≠ 2 → h'.1 27 zs = zh.1 27 zs) ∧ (zSg F zl zi = 32 → h'.1 27 2 = iN (zi + 1)) ∧ (¬ zSg F zl zi = 32 → h'.1 27 2 = iN zi)) := by
  obtain ⟨zd, rfl⟩ : ∃ y_e, zd = y_e + 2 := ⟨zd - 2, by omega⟩
  have y_s := zSg_rg (i := zi) q_c
  refine wp_run (k := 3) (pc1 := 5) (l1 := [(0, .ref 27)]) (st1 := [.int (iN (zi)), .ref 27]) (kr1 := (78, 76)) (h1 := zh) (Eq.trans (b := (some (5, [(0, .ref 27)], [.int (zh.1 27 2), .ref 27], (78, 76), zh) : Option am_C)) rfl (by simp only [q_p, Int32.ofInt_add, Int32.ofInt_sub, Int32.ofInt_mul, Int32.ofInt_neg])) ?_
  refine wp_call (md1 := am_m_Text_signAt) (As := [.ref 27, .int (iN (zi))]) (rest := []) (kr1 := (78, 76)) rfl (jt_signAt _ (by omega) q_l q_r (zi := zi) (by omega) q_f) ?_
  rintro _ _ ⟨rfl, rfl⟩
  refine wp_run (k := 1) (pc1 := 10) (l1 := [(0, .ref 27)]) (st1 := [.int (iN (32)), .int (iN (zSg F zl (zi)))]) (kr1 := (78, 76)) (h1 := zh) rfl ?_
  refine wp_eq (a := zSg F zl (zi)) (b := 32) rfl (by omega) (by omega) (fun b_10 => ?_) (fun b_10 => ?_)
  · refine wp_run (k := 5) (pc1 := 22) (l1 := [(0, .ref 27)]) (st1 := [.int (iN ((zi) + (1))), .ref 27]) (kr1 := (78, 76)) (h1 := zh) (Eq.trans (b := (some (22, [(0, .ref 27)], [.int ((zh.1 27 2) + (iN (1))), .ref 27], (78, 76), zh) : Option am_C)) rfl (by simp only [q_p, Int32.ofInt_add, Int32.ofInt_sub, Int32.ofInt_mul, Int32.ofInt_neg])) ?_
    refine wp_run (k := 2) (pc1 := 26) (l1 := [(0, .ref 27)]) (st1 := [.int (iN (1))]) (kr1 := (78, 76)) (h1 := am_wr zh 27 2 (iN ((zi) + (1)))) rfl ?_
    refine wp_ret (rv := some (.int (iN (1)))) rfl ?_
    exact ⟨by rw [show bI (zSg F zl zi = 32) inferInstance = 1 from if_pos (by omega)], am_fr_w (am_fr_0 _ _) (by decide) _ _, fun zs y => am_wr_no y, fun _ => am_wr_at, fun y => absurd (by omega) y⟩
  · refine wp_run (k := 1) (pc1 := 14) (l1 := [(0, .ref 27)]) (st1 := [.int (iN (0))]) (kr1 := (78, 76)) (h1 := zh) rfl ?_
    refine wp_ret (rv := some (.int (iN (0)))) rfl ?_
    exact ⟨by rw [show bI (zSg F zl zi = 32) inferInstance = 0 from if_neg (by omega)], am_fr_0 _ _, fun zs y => rfl, fun y => absurd y (by omega), fun _ => q_p⟩
set_option maxRecDepth 20000 in
set_option maxHeartbeats 4000000 in
theorem jl_figures (zd : Nat) (q_d : 2 ≤ zd) {zh : am_H} {F : Int → Int} {zl : Int} {zi zm : Int} {zU : Int × Int} (q_l : zh.1 27 1 = iN zl) (q_r : 0 ≤ zl ∧ zl ≤ 120) (q_f : ∀ k : Int, 0 ≤ k → k < zl → zh.1 28 k.toNat = iN (F k)) (q_c : ∀ k : Int, 0 ≤ k → k < zl → 32 ≤ F k ∧ F k ≤ 126) (q_0 : 0 ≤ zi) (q_mm : 0 ≤ zm ∧ zm ≤ 3) {zQ : Option Value → am_H → Prop} (zk : ∀ zg : am_H, am_fr [27] zh zg → (∀ zs : Nat, zs ≠ 2 → zg.1 27 zs = zh.1 27 zs) → zg.1 27 2 = iN zU.1 → ∀ zv : Int, zv = (if zi < zU.1 then zU.2 else -1) → zQ (some (.int (iN zv))) zg) : ∀ (z_n : Nat) (zg : am_H) (zk0 : Nat) (zp : Int) (zv : Int) (q_fr : am_fr [27] zh zg) (q_s1 : ∀ zs : Nat, zs ≠ 2 → zg.1 27 zs = zh.1 27 zs) (q_p : zg.1 27 2 = iN zp) (q_i : zi ≤ zp ∧ zp ≤ zl) (q_k : (zk0 : Int) = zm - (zp - zi)) (q_z : zFg F zl zk0 zp zv = zU), (zk0 : Int) < (z_n : Int) → am_wp zd am_m_Text_figures 7 [(0, .ref 27), (1, .int (iN (zm))), (2, .int (iN (zi))), (3, .int (iN (zv)))] [] (78, 76) zg (78, 76) zQ := by
  obtain ⟨zd, rfl⟩ : ∃ y_e, zd = y_e + 2 := ⟨zd - 2, by omega⟩
  intro z_n
  induction z_n with
  | zero => intro zg zk0 zp zv q_fr q_s1 q_p q_i q_k q_z q_m; omega
  | succ z_n z_ih =>
    intro zg zk0 zp zv q_fr q_s1 q_p q_i q_k q_z q_m
    refine wp_run (k := 5) (pc1 := 14) (l1 := [(0, .ref 27), (1, .int (iN (zm))), (2, .int (iN (zi))), (3, .int (iN (zv)))]) (st1 := [.int (iN (zm)), .int (iN ((zp) - (zi)))]) (kr1 := (78, 76)) (h1 := zg) (Eq.trans (b := (some (14, [(0, .ref 27), (1, .int (iN (zm))), (2, .int (iN (zi))), (3, .int (iN (zv)))], [.int (iN (zm)), .int ((zg.1 27 2) - (iN (zi)))], (78, 76), zg) : Option am_C)) rfl (by simp only [q_p, Int32.ofInt_add, Int32.ofInt_sub, Int32.ofInt_mul, Int32.ofInt_neg])) ?_
    refine wp_ge (a := (zp) - (zi)) (b := zm) rfl (by omega) (by omega) (fun b_14 => ?_) (fun b_14 => ?_)
    · refine wp_run (k := 3) (pc1 := 78) (l1 := [(0, .ref 27), (1, .int (iN (zm))), (2, .int (iN (zi))), (3, .int (iN (zv)))]) (st1 := [.int (iN (zi)), .int (iN (zp))]) (kr1 := (78, 76)) (h1 := zg) (Eq.trans (b := (some (78, [(0, .ref 27), (1, .int (iN (zm))), (2, .int (iN (zi))), (3, .int (iN (zv)))], [.int (iN (zi)), .int (zg.1 27 2)], (78, 76), zg) : Option am_C)) rfl (by simp only [q_p, Int32.ofInt_add, Int32.ofInt_sub, Int32.ofInt_mul, Int32.ofInt_neg])) ?_
      refine wp_le (a := zp) (b := zi) rfl (by omega) (by omega) (fun b_78 => ?_) (fun b_78 => ?_)
      · refine wp_run (k := 1) (pc1 := 86) (l1 := [(0, .ref 27), (1, .int (iN (zm))), (2, .int (iN (zi))), (3, .int (iN (zv)))]) (st1 := [.int (iN (-1))]) (kr1 := (78, 76)) (h1 := zg) rfl ?_
        refine wp_ret (rv := some (.int (iN (-1)))) rfl ?_
        have y_e : zFg F zl zk0 zp zv = (zp, zv) := by
          cases zk0 with
          | zero => rfl
          | succ zk0 => exact if_neg (by omega)
        rw [y_e] at q_z
        refine zk zg q_fr q_s1 (by rw [← q_z]; exact q_p) _ ?_
        rw [← q_z]
        exact (if_neg (show ¬ zi < zp by omega)).symm
      · refine wp_run (k := 2) (pc1 := 86) (l1 := [(0, .ref 27), (1, .int (iN (zm))), (2, .int (iN (zi))), (3, .int (iN (zv)))]) (st1 := [.int (iN (zv))]) (kr1 := (78, 76)) (h1 := zg) rfl ?_
        refine wp_ret (rv := some (.int (iN (zv)))) rfl ?_
        have y_e : zFg F zl zk0 zp zv = (zp, zv) := by
          cases zk0 with
          | zero => rfl
          | succ zk0 => exact if_neg (by omega)
        rw [y_e] at q_z
        refine zk zg q_fr q_s1 (by rw [← q_z]; exact q_p) _ ?_
        rw [← q_z]
        exact (if_pos (show zi < zp by omega)).symm
    · have y_s := zSg_rg (i := zp) q_c
      refine wp_run (k := 3) (pc1 := 22) (l1 := [(0, .ref 27), (1, .int (iN (zm))), (2, .int (iN (zi))), (3, .int (iN (zv)))]) (st1 := [.int (iN (zp)), .ref 27]) (kr1 := (78, 76)) (h1 := zg) (Eq.trans (b := (some (22, [(0, .ref 27), (1, .int (iN (zm))), (2, .int (iN (zi))), (3, .int (iN (zv)))], [.int (zg.1 27 2), .ref 27], (78, 76), zg) : Option am_C)) rfl (by simp only [q_p, Int32.ofInt_add, Int32.ofInt_sub, Int32.ofInt_mul, Int32.ofInt_neg])) ?_
      refine wp_call (md1 := am_m_Text_signAt) (As := [.ref 27, .int (iN (zp))]) (rest := []) (kr1 := (78, 76)) rfl (jt_signAt _ (by omega) ((q_s1 1 (by decide)).trans q_l) q_r (zi := zp) (by omega) (fun k y1 y2 => (congrFun (q_fr.2 28 (by decide)) _).trans (q_f k y1 y2))) ?_
      rintro _ _ ⟨rfl, rfl⟩
      refine wp_run (k := 1) (pc1 := 27) (l1 := [(0, .ref 27), (1, .int (iN (zm))), (2, .int (iN (zi))), (3, .int (iN (zv)))]) (st1 := [.int (iN (48)), .int (iN (zSg F zl (zp)))]) (kr1 := (78, 76)) (h1 := zg) rfl ?_
      refine wp_lt (a := zSg F zl (zp)) (b := 48) rfl (by omega) (by omega) (fun b_27 => ?_) (fun b_27 => ?_)
      · refine wp_run (k := 3) (pc1 := 78) (l1 := [(0, .ref 27), (1, .int (iN (zm))), (2, .int (iN (zi))), (3, .int (iN (zv)))]) (st1 := [.int (iN (zi)), .int (iN (zp))]) (kr1 := (78, 76)) (h1 := zg) (Eq.trans (b := (some (78, [(0, .ref 27), (1, .int (iN (zm))), (2, .int (iN (zi))), (3, .int (iN (zv)))], [.int (iN (zi)), .int (zg.1 27 2)], (78, 76), zg) : Option am_C)) rfl (by simp only [q_p, Int32.ofInt_add, Int32.ofInt_sub, Int32.ofInt_mul, Int32.ofInt_neg])) ?_
        refine wp_le (a := zp) (b := zi) rfl (by omega) (by omega) (fun b_78 => ?_) (fun b_78 => ?_)
        · refine wp_run (k := 1) (pc1 := 86) (l1 := [(0, .ref 27), (1, .int (iN (zm))), (2, .int (iN (zi))), (3, .int (iN (zv)))]) (st1 := [.int (iN (-1))]) (kr1 := (78, 76)) (h1 := zg) rfl ?_
          refine wp_ret (rv := some (.int (iN (-1)))) rfl ?_
          have y_e : zFg F zl zk0 zp zv = (zp, zv) := by
            cases zk0 with
            | zero => rfl
            | succ zk0 => exact if_neg (by omega)
          rw [y_e] at q_z
          refine zk zg q_fr q_s1 (by rw [← q_z]; exact q_p) _ ?_
          rw [← q_z]
          exact (if_neg (show ¬ zi < zp by omega)).symm
        · refine wp_run (k := 2) (pc1 := 86) (l1 := [(0, .ref 27), (1, .int (iN (zm))), (2, .int (iN (zi))), (3, .int (iN (zv)))]) (st1 := [.int (iN (zv))]) (kr1 := (78, 76)) (h1 := zg) rfl ?_
          refine wp_ret (rv := some (.int (iN (zv)))) rfl ?_
          have y_e : zFg F zl zk0 zp zv = (zp, zv) := by
            cases zk0 with
            | zero => rfl
            | succ zk0 => exact if_neg (by omega)
          rw [y_e] at q_z
          refine zk zg q_fr q_s1 (by rw [← q_z]; exact q_p) _ ?_
          rw [← q_z]
          exact (if_pos (show zi < zp by omega)).symm
      · refine wp_run (k := 3) (pc1 := 35) (l1 := [(0, .ref 27), (1, .int (iN (zm))), (2, .int (iN (zi))), (3, .int (iN (zv)))]) (st1 := [.int (iN (zp)), .ref 27]) (kr1 := (78, 76)) (h1 := zg) (Eq.trans (b := (some (35, [(0, .ref 27), (1, .int (iN (zm))), (2, .int (iN (zi))), (3, .int (iN (zv)))], [.int (zg.1 27 2), .ref 27], (78, 76), zg) : Option am_C)) rfl (by simp only [q_p, Int32.ofInt_add, Int32.ofInt_sub, Int32.ofInt_mul, Int32.ofInt_neg])) ?_
        refine wp_call (md1 := am_m_Text_signAt) (As := [.ref 27, .int (iN (zp))]) (rest := []) (kr1 := (78, 76)) rfl (jt_signAt _ (by omega) ((q_s1 1 (by decide)).trans q_l) q_r (zi := zp) (by omega) (fun k y1 y2 => (congrFun (q_fr.2 28 (by decide)) _).trans (q_f k y1 y2))) ?_
        rintro _ _ ⟨rfl, rfl⟩
        refine wp_run (k := 1) (pc1 := 40) (l1 := [(0, .ref 27), (1, .int (iN (zm))), (2, .int (iN (zi))), (3, .int (iN (zv)))]) (st1 := [.int (iN (57)), .int (iN (zSg F zl (zp)))]) (kr1 := (78, 76)) (h1 := zg) rfl ?_
        refine wp_gt (a := zSg F zl (zp)) (b := 57) rfl (by omega) (by omega) (fun b_40 => ?_) (fun b_40 => ?_)
        · refine wp_run (k := 3) (pc1 := 78) (l1 := [(0, .ref 27), (1, .int (iN (zm))), (2, .int (iN (zi))), (3, .int (iN (zv)))]) (st1 := [.int (iN (zi)), .int (iN (zp))]) (kr1 := (78, 76)) (h1 := zg) (Eq.trans (b := (some (78, [(0, .ref 27), (1, .int (iN (zm))), (2, .int (iN (zi))), (3, .int (iN (zv)))], [.int (iN (zi)), .int (zg.1 27 2)], (78, 76), zg) : Option am_C)) rfl (by simp only [q_p, Int32.ofInt_add, Int32.ofInt_sub, Int32.ofInt_mul, Int32.ofInt_neg])) ?_
          refine wp_le (a := zp) (b := zi) rfl (by omega) (by omega) (fun b_78 => ?_) (fun b_78 => ?_)
          · refine wp_run (k := 1) (pc1 := 86) (l1 := [(0, .ref 27), (1, .int (iN (zm))), (2, .int (iN (zi))), (3, .int (iN (zv)))]) (st1 := [.int (iN (-1))]) (kr1 := (78, 76)) (h1 := zg) rfl ?_
            refine wp_ret (rv := some (.int (iN (-1)))) rfl ?_
            have y_e : zFg F zl zk0 zp zv = (zp, zv) := by
              cases zk0 with
              | zero => rfl
              | succ zk0 => exact if_neg (by omega)
            rw [y_e] at q_z
            refine zk zg q_fr q_s1 (by rw [← q_z]; exact q_p) _ ?_
            rw [← q_z]
            exact (if_neg (show ¬ zi < zp by omega)).symm
          · refine wp_run (k := 2) (pc1 := 86) (l1 := [(0, .ref 27), (1, .int (iN (zm))), (2, .int (iN (zi))), (3, .int (iN (zv)))]) (st1 := [.int (iN (zv))]) (kr1 := (78, 76)) (h1 := zg) rfl ?_
            refine wp_ret (rv := some (.int (iN (zv)))) rfl ?_
            have y_e : zFg F zl zk0 zp zv = (zp, zv) := by
              cases zk0 with
              | zero => rfl
              | succ zk0 => exact if_neg (by omega)
            rw [y_e] at q_z
            refine zk zg q_fr q_s1 (by rw [← q_z]; exact q_p) _ ?_
            rw [← q_z]
            exact (if_pos (show zi < zp by omega)).symm
        · refine wp_run (k := 6) (pc1 := 52) (l1 := [(0, .ref 27), (1, .int (iN (zm))), (2, .int (iN (zi))), (3, .int (iN (zv)))]) (st1 := [.int (iN (zp)), .ref 27, .int (iN ((10) * (zv)))]) (kr1 := (78, 76)) (h1 := zg) (Eq.trans (b := (some (52, [(0, .ref 27), (1, .int (iN (zm))), (2, .int (iN (zi))), (3, .int (iN (zv)))], [.int (zg.1 27 2), .ref 27, .int ((iN (10)) * (iN (zv)))], (78, 76), zg) : Option am_C)) rfl (by simp only [q_p, Int32.ofInt_add, Int32.ofInt_sub, Int32.ofInt_mul, Int32.ofInt_neg])) ?_
          refine wp_call (md1 := am_m_Text_signAt) (As := [.ref 27, .int (iN (zp))]) (rest := [.int (iN ((10) * (zv)))]) (kr1 := (78, 76)) rfl (jt_signAt _ (by omega) ((q_s1 1 (by decide)).trans q_l) q_r (zi := zp) (by omega) (fun k y1 y2 => (congrFun (q_fr.2 28 (by decide)) _).trans (q_f k y1 y2))) ?_
          rintro _ _ ⟨rfl, rfl⟩
          refine wp_run (k := 9) (pc1 := 67) (l1 := [(0, .ref 27), (1, .int (iN (zm))), (2, .int (iN (zi))), (3, .int (iN (((10) * (zv)) + ((zSg F zl (zp)) - (48)))))]) (st1 := [.int (iN ((zp) + (1))), .ref 27]) (kr1 := (78, 76)) (h1 := zg) (Eq.trans (b := (some (67, [(0, .ref 27), (1, .int (iN (zm))), (2, .int (iN (zi))), (3, .int ((iN ((10) * (zv))) + ((iN (zSg F zl (zp))) - (iN (48)))))], [.int ((zg.1 27 2) + (iN (1))), .ref 27], (78, 76), zg) : Option am_C)) rfl (by simp only [q_p, Int32.ofInt_add, Int32.ofInt_sub, Int32.ofInt_mul, Int32.ofInt_neg])) ?_
          refine wp_run (k := 2) (pc1 := 7) (l1 := [(0, .ref 27), (1, .int (iN (zm))), (2, .int (iN (zi))), (3, .int (iN (((10) * (zv)) + ((zSg F zl (zp)) - (48)))))]) (st1 := []) (kr1 := (78, 76)) (h1 := am_wr zg 27 2 (iN ((zp) + (1)))) rfl ?_
          obtain ⟨zk1, y_k⟩ : ∃ y, zk0 = y + 1 := ⟨zk0 - 1, by omega⟩
          subst y_k
          refine z_ih (am_wr zg 27 2 (iN ((zp) + (1)))) zk1 (zp + 1) (((10) * (zv)) + ((zSg F zl (zp)) - (48))) (am_fr_w q_fr (by decide) _ _) (fun zs y => (am_wr_no y).trans (q_s1 zs y)) am_wr_at (by omega) (by omega) ?_ (by omega)
          rw [← q_z]
          exact (if_pos (show 48 ≤ zSg F zl zp ∧ zSg F zl zp ≤ 57 by omega)).symm
set_option maxRecDepth 20000 in
set_option maxHeartbeats 4000000 in
theorem jt_figures2 (zd : Nat) (q_d : 2 ≤ zd) {zh : am_H} {F : Int → Int} {zl : Int} {zi : Int} (q_l : zh.1 27 1 = iN zl) (q_r : 0 ≤ zl ∧ zl ≤ 120) (q_f : ∀ k : Int, 0 ≤ k → k < zl → zh.1 28 k.toNat = iN (F k)) (q_c : ∀ k : Int, 0 ≤ k → k < zl → 32 ≤ F k ∧ F k ≤ 126) (q_p : zh.1 27 2 = iN zi) (q_i : 0 ≤ zi ∧ zi ≤ zl) : am_wp zd am_m_Text_figures 0 [(0, .ref 27), (1, .int (iN (2)))] [] (78, 76) zh (78, 76) (fun rv h' => rv = some (.int (iN (if zi < (zFg F zl 2 zi 0).1 then (zFg F zl 2 zi 0).2 else -1))) ∧ am_fr [27] zh h' ∧ (∀ zs : Nat, zs ≠ 2 → h'.1 27 zs = zh.1 27 zs) ∧ h'.1 27 2 = iN (zFg F zl 2 zi 0).1) := by
  obtain ⟨zd, rfl⟩ : ∃ y_e, zd = y_e + 2 := ⟨zd - 2, by omega⟩
  refine wp_run (k := 5) (pc1 := 7) (l1 := [(0, .ref 27), (1, .int (iN (2))), (2, .int (iN (zi))), (3, .int (iN (0)))]) (st1 := []) (kr1 := (78, 76)) (h1 := zh) (Eq.trans (b := (some (7, [(0, .ref 27), (1, .int (iN (2))), (2, .int (zh.1 27 2)), (3, .int (iN (0)))], [], (78, 76), zh) : Option am_C)) rfl (by simp only [q_p, Int32.ofInt_add, Int32.ofInt_sub, Int32.ofInt_mul, Int32.ofInt_neg])) ?_
  exact jl_figures (zm := 2) _ (by omega) q_l q_r q_f q_c q_i.1 (by omega) (fun zg y1 y2 y3 zv q_v => ⟨by rw [q_v], y1, y2, y3⟩) 20 zh 2 zi 0 (am_fr_0 _ _) (fun _ _ => rfl) q_p (by omega) (by omega) rfl (by omega)
set_option maxRecDepth 20000 in
set_option maxHeartbeats 4000000 in
theorem jt_figures3 (zd : Nat) (q_d : 2 ≤ zd) {zh : am_H} {F : Int → Int} {zl : Int} {zi : Int} (q_l : zh.1 27 1 = iN zl) (q_r : 0 ≤ zl ∧ zl ≤ 120) (q_f : ∀ k : Int, 0 ≤ k → k < zl → zh.1 28 k.toNat = iN (F k)) (q_c : ∀ k : Int, 0 ≤ k → k < zl → 32 ≤ F k ∧ F k ≤ 126) (q_p : zh.1 27 2 = iN zi) (q_i : 0 ≤ zi ∧ zi ≤ zl) : am_wp zd am_m_Text_figures 0 [(0, .ref 27), (1, .int (iN (3)))] [] (78, 76) zh (78, 76) (fun rv h' => rv = some (.int (iN (if zi < (zFg F zl 3 zi 0).1 then (zFg F zl 3 zi 0).2 else -1))) ∧ am_fr [27] zh h' ∧ (∀ zs : Nat, zs ≠ 2 → h'.1 27 zs = zh.1 27 zs) ∧ h'.1 27 2 = iN (zFg F zl 3 zi 0).1) := by
  obtain ⟨zd, rfl⟩ : ∃ y_e, zd = y_e + 2 := ⟨zd - 2, by omega⟩
  refine wp_run (k := 5) (pc1 := 7) (l1 := [(0, .ref 27), (1, .int (iN (3))), (2, .int (iN (zi))), (3, .int (iN (0)))]) (st1 := []) (kr1 := (78, 76)) (h1 := zh) (Eq.trans (b := (some (7, [(0, .ref 27), (1, .int (iN (3))), (2, .int (zh.1 27 2)), (3, .int (iN (0)))], [], (78, 76), zh) : Option am_C)) rfl (by simp only [q_p, Int32.ofInt_add, Int32.ofInt_sub, Int32.ofInt_mul, Int32.ofInt_neg])) ?_
  exact jl_figures (zm := 3) _ (by omega) q_l q_r q_f q_c q_i.1 (by omega) (fun zg y1 y2 y3 zv q_v => ⟨by rw [q_v], y1, y2, y3⟩) 20 zh 3 zi 0 (am_fr_0 _ _) (fun _ _ => rfl) q_p (by omega) (by omega) rfl (by omega)
