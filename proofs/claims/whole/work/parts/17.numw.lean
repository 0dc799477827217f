/-! ROWS; THE CLASS's Numbers: writes -/
def am_row (zh : am_H) (zc : Nat) (zf : Nat → Int32) : am_H := (fun c' k => if c' = zc then zf k else zh.1 c' k, zh.2)
def zUp {α : Type} (zf : Nat → α) (zj : Nat) (zv : α) : Nat → α := fun k => if k = zj then zv else zf k
theorem zUp_s {α : Type} (zf : Nat → α) (zj : Nat) (zv : α) : zUp zf zj zv zj = zv := if_pos rfl
theorem zUp_n {α : Type} (zf : Nat → α) (zj : Nat) (zv : α) {zk : Nat} (q : zk ≠ zj) : zUp zf zj zv zk = zf zk := if_neg q
theorem am_wr_row (zh : am_H) (zc zj : Nat) (zv : Int32) : am_wr zh zc zj zv = am_row zh zc (zUp (zh.1 zc) zj zv) := by
  refine Prod.ext ?_ rfl
  funext x y
  show (if x = zc ∧ y = zj then zv else zh.1 x y) = (if x = zc then (if y = zj then zv else zh.1 zc y) else zh.1 x y)
  by_cases q : x = zc
  · subst q
    rw [if_pos rfl]
    by_cases q2 : y = zj
    · rw [if_pos ⟨rfl, q2⟩, if_pos q2]
    · rw [if_neg (fun z => q2 z.2), if_neg q2]
  · rw [if_neg (fun z => q z.1), if_neg q]
theorem am_row_s (zh : am_H) (zc : Nat) (zf : Nat → Int32) : (am_row zh zc zf).1 zc = zf := by
  funext y
  exact if_pos rfl
theorem am_row_n (zh : am_H) (zc : Nat) (zf : Nat → Int32) {zd : Nat} (q : zd ≠ zc) : (am_row zh zc zf).1 zd = zh.1 zd := by
  funext y
  exact if_neg q
theorem am_row_2 (zh : am_H) (zc : Nat) (zf : Nat → Int32) : (am_row zh zc zf).2 = zh.2 := rfl
theorem am_row_row (zh : am_H) (zc : Nat) (zf zg : Nat → Int32) : am_row (am_row zh zc zf) zc zg = am_row zh zc zg := by
  refine Prod.ext ?_ rfl
  funext x y
  show (if x = zc then zg y else (if x = zc then zf y else zh.1 x y)) = (if x = zc then zg y else zh.1 x y)
  by_cases q : x = zc
  · rw [if_pos q, if_pos q]
  · rw [if_neg q, if_neg q, if_neg q]
theorem am_row_id (zh : am_H) (zc : Nat) : am_row zh zc (zh.1 zc) = zh := by
  refine Prod.ext ?_ rfl
  funext x y
  show (if x = zc then zh.1 zc y else zh.1 x y) = zh.1 x y
  by_cases q : x = zc
  · rw [if_pos q, q]
  · rw [if_neg q]
theorem am_row_sw (zh : am_H) {zc zd : Nat} (q : zc ≠ zd) (zf zg : Nat → Int32) : am_row (am_row zh zc zf) zd zg = am_row (am_row zh zd zg) zc zf := by
  refine Prod.ext ?_ rfl
  funext x y
  show (if x = zd then zg y else (if x = zc then zf y else zh.1 x y)) = (if x = zc then zf y else (if x = zd then zg y else zh.1 x y))
  by_cases q1 : x = zd
  · rw [if_pos q1, if_neg (fun z => q (z.symm.trans q1)), if_pos q1]
  · rw [if_neg q1, if_neg q1]
theorem am_wr_row2 (zh : am_H) (zc zj : Nat) (zf : Nat → Int32) (zv : Int32) : am_wr (am_row zh zc zf) zc zj zv = am_row zh zc (zUp zf zj zv) := by
  rw [am_wr_row, am_row_s, am_row_row]
/-- G with one number, another period's kept -/
def zG1 (G : Int → Int → Int) (zw zp zv : Int) : Int → Int → Int := fun w p => if w = zw ∧ p = zp then zv else G w p
theorem zNm_up {fo fc : Nat → Int32} {N : Int} {G : Int → Int → Int} {S T zw zp zv : Int} (q_N : N ≤ 16) (q : zNm fo fc N G S T) (q_w : 0 ≤ zw ∧ zw < 6) (q_p : 0 ≤ zp ∧ zp < N) : zNm fo (zUp fc (16 * zw + zp).toNat (iN zv)) N (zG1 G zw zp zv) S T := by
  refine ⟨q.1, fun w p q1 q2 q3 q4 => ?_, ?_, ?_⟩
  · unfold zG1
    by_cases q5 : w = zw ∧ p = zp
    · rw [if_pos q5, q5.1, q5.2]
      exact zUp_s _ _ _
    · rw [if_neg q5]
      exact (zUp_n _ _ _ (by omega)).trans (q.2.1 w p q1 q2 q3 q4)
  · exact (zUp_n _ _ _ (by omega)).trans q.2.2.1
  · exact (zUp_n _ _ _ (by omega)).trans q.2.2.2
theorem zNm_o {fo fc : Nat → Int32} {N : Int} {G : Int → Int → Int} {S T : Int} (q : zNm fo fc N G S T) (zv : Int32) : zNm (zUp fo 2 zv) fc N G S T := ⟨(zUp_n _ _ _ (by decide)).trans q.1, q.2⟩
theorem zGk_up {N : Int} {G : Int → Int → Int} {S T zw zp zv : Int} (q : zGk N G S T) (q_v : 0 ≤ zv ∧ zv ≤ vmax zw) : zGk N (zG1 G zw zp zv) S T := by
  refine ⟨q.1, fun w p q1 q2 q3 q4 => ?_, q.2.2⟩
  unfold zG1
  by_cases q5 : w = zw ∧ p = zp
  · rw [if_pos q5, q5.1]; exact q_v
  · rw [if_neg q5]; exact q.2.1 w p q1 q2 q3 q4
/-- zn places from za on, out of another row from zb on -/
def zCq {α : Type} (zf zg : Nat → α) (za zb zn : Nat) : Nat → α := fun k => if za ≤ k ∧ k < za + zn then zg (zb + (k - za)) else zf k
theorem zCq_0 {α : Type} (zf zg : Nat → α) (za zb : Nat) : zCq zf zg za zb 0 = zf := by
  funext k
  exact if_neg (by omega)
theorem zCq_s {α : Type} (zf zg : Nat → α) (za zb zn : Nat) : zUp (zCq zf zg za zb zn) (za + zn) (zg (zb + zn)) = zCq zf zg za zb (zn + 1) := by
  funext k
  unfold zUp zCq
  by_cases q1 : k = za + zn
  · rw [if_pos q1, if_pos (by omega), q1, Nat.add_sub_cancel_left]
  · rw [if_neg q1]
    by_cases q2 : za ≤ k ∧ k < za + zn
    · rw [if_pos q2, if_pos (by omega)]
    · rw [if_neg q2, if_neg (by omega)]
theorem zCq_w (zh : am_H) (zc : Nat) (zf zg : Nat → Int32) (za zb zi : Int) (q_a : 0 ≤ za) (q_b : 0 ≤ zb) (q_i : 0 ≤ zi) {zj : Int} (q_j : zj = za + zi) {zv : Int32} (q_v : zv = zg (zb + zi).toNat) : am_wr (am_row zh zc (zCq zf zg za.toNat zb.toNat zi.toNat)) zc zj.toNat zv = am_row zh zc (zCq zf zg za.toNat zb.toNat (zi + 1).toNat) := by
  rw [am_wr_row2, q_v, q_j, show (za + zi).toNat = za.toNat + zi.toNat by omega, show (zb + zi).toNat = zb.toNat + zi.toNat by omega, show (zi + 1).toNat = zi.toNat + 1 by omega, zCq_s]
theorem zCq_i {α : Type} (zf zg : Nat → α) {za zb zn zk : Nat} (q : za ≤ zk ∧ zk < za + zn) : zCq zf zg za zb zn zk = zg (zb + (zk - za)) := if_pos q
theorem zCq_o {α : Type} (zf zg : Nat → α) {za zb zn zk : Nat} (q : ¬ (za ≤ zk ∧ zk < za + zn)) : zCq zf zg za zb zn zk = zf zk := if_neg q
/-- a copy of the first 98 places is a copy of the numbers -/
theorem zNm_cp {fo fc fo' fc' : Nat → Int32} {N : Int} {G : Int → Int → Int} {S T : Int} (q_N : N ≤ 16) (q : zNm fo fc N G S T) (q_o : fo' 1 = fo 1) (q_c : ∀ k : Nat, k < 98 → fc' k = fc k) : zNm fo' fc' N G S T := by
  refine ⟨q_o.trans q.1, fun w p q1 q2 q3 q4 => (q_c _ (by omega)).trans (q.2.1 w p q1 q2 q3 q4), (q_c _ (by omega)).trans q.2.2.1, (q_c _ (by omega)).trans q.2.2.2⟩
set_option maxRecDepth 20000 in
set_option maxHeartbeats 4000000 in
theorem jt_become_1 (zd : Nat) (q_d : 2 ≤ zd) {zh : am_H} {N : Int} {G : Int → Int → Int} {S T : Int} {zp zw zv zs : Int} (q_nm : zNm (zh.1 1) (zh.1 2) N G S T) (q_g : zGk N G S T) (q_p : 0 ≤ zp ∧ zp < N) (q_w : 0 ≤ zw ∧ zw < 6) (q_s : zh.1 1 2 = iN zs) : am_wp zd am_m_Numbers_become 0 [(0, .ref 1), (1, .int (iN (zp))), (2, .int (iN (zw))), (3, .int (iN (zv)))] [] (78, 76) zh (78, 76) (fun rv h' => rv = none ∧ ∃ fo fc, am_row (am_row zh 2 fc) 1 fo = h' ∧ zNm fo fc N (zG1 G zw zp zv) S T ∧ fo 2 = iN (zs + 1)) := by
  obtain ⟨zd, rfl⟩ : ∃ y_e, zd = y_e + 2 := ⟨zd - 2, by omega⟩
  have q_N := q_g.1
  refine wp_run (k := 2) (pc1 := 2) (l1 := [(0, .ref 1), (1, .int (iN (zp))), (2, .int (iN (zw))), (3, .int (iN (zv)))]) (st1 := [.int (iN (zp)), .ref 1]) (kr1 := (78, 76)) (h1 := zh) rfl ?_
  refine wp_call (md1 := am_m_Numbers_has) (As := [.ref 1, .int (iN (zp))]) (rest := []) (kr1 := (78, 76)) rfl (jt_has_1 _ (by omega) q_nm q_g (zp := zp) (by omega)) ?_
  rintro _ _ ⟨rfl, rfl⟩
  refine wp_eqb rfl (fun b_5 => ?_) (fun b_5 => ?_)
  · exact absurd (show 0 ≤ zp ∧ zp < N by omega) b_5
  · refine wp_run (k := 2) (pc1 := 11) (l1 := [(0, .ref 1), (1, .int (iN (zp))), (2, .int (iN (zw))), (3, .int (iN (zv)))]) (st1 := [.int (iN (6)), .int (iN (zw))]) (kr1 := (78, 76)) (h1 := zh) rfl ?_
    refine wp_call (md1 := am_m_Lp_inside) (As := [.int (iN (zw)), .int (iN (6))]) (rest := []) (kr1 := (78, 76)) rfl (jt_inside _ (by omega) (zi := zw) (ze := 6) (by omega) (by omega)) ?_
    rintro _ _ ⟨rfl, rfl⟩
    refine wp_eqb rfl (fun b_14 => ?_) (fun b_14 => ?_)
    · exact absurd (show 0 ≤ zw ∧ zw < 6 by omega) b_14
    · refine wp_run (k := 8) (pc1 := 28) (l1 := [(0, .ref 1), (1, .int (iN (zp))), (2, .int (iN (zw))), (3, .int (iN (zv)))]) (st1 := [.int (iN (zv)), .int (iN (((zw) * (16)) + (zp))), .ref 2]) (kr1 := (78, 76)) (h1 := zh) (Eq.trans (b := (some (28, [(0, .ref 1), (1, .int (iN (zp))), (2, .int (iN (zw))), (3, .int (iN (zv)))], [.int (iN (zv)), .int (((iN (zw)) * (iN (16))) + (iN (zp))), .ref 2], (78, 76), zh) : Option am_C)) rfl (by simp only [Int32.ofInt_add, Int32.ofInt_sub, Int32.ofInt_mul, Int32.ofInt_neg])) ?_
      refine wp_call (md1 := am_m_Lp_lay) (As := [.ref 2, .int (iN (((zw) * (16)) + (zp))), .int (iN (zv))]) (rest := []) (kr1 := (78, 76)) rfl (jt_lay _ (by omega) (zn := 98) (zi := ((zw) * (16)) + (zp)) (zv := iN (zv)) (by decide) (by decide) rfl rfl rfl (by decide) (by omega) (by omega)) ?_
      rintro _ _ ⟨rfl, rfl⟩
      refine wp_run (k := 5) (pc1 := 38) (l1 := [(0, .ref 1), (1, .int (iN (zp))), (2, .int (iN (zw))), (3, .int (iN (zv)))]) (st1 := [.int (iN ((zs) + (1))), .ref 1]) (kr1 := (78, 76)) (h1 := am_wr zh 2 (((zw) * (16)) + (zp) : Int).toNat (iN (zv))) (Eq.trans (b := (some (38, [(0, .ref 1), (1, .int (iN (zp))), (2, .int (iN (zw))), (3, .int (iN (zv)))], [.int (((am_wr zh 2 (((zw) * (16)) + (zp) : Int).toNat (iN (zv))).1 1 2) + (iN (1))), .ref 1], (78, 76), am_wr zh 2 (((zw) * (16)) + (zp) : Int).toNat (iN (zv))) : Option am_C)) rfl (by simp only [(show (am_wr zh 2 (((zw) * (16)) + (zp) : Int).toNat (iN (zv))).1 1 2 = iN zs from (congrFun (am_wr_ne (by decide)) 2).trans q_s)]; try simp only [Int32.ofInt_add, Int32.ofInt_sub, Int32.ofInt_mul, Int32.ofInt_neg])) ?_
      refine wp_run (k := 1) (pc1 := 41) (l1 := [(0, .ref 1), (1, .int (iN (zp))), (2, .int (iN (zw))), (3, .int (iN (zv)))]) (st1 := []) (kr1 := (78, 76)) (h1 := am_wr (am_wr zh 2 (((zw) * (16)) + (zp) : Int).toNat (iN (zv))) 1 2 (iN ((zs) + (1)))) rfl ?_
      refine wp_ret (rv := none) rfl ?_
      refine ⟨rfl, zUp (zh.1 1) 2 (iN (zs + 1)), zUp (zh.1 2) (zw * 16 + zp).toNat (iN zv), ?_, ?_, zUp_s _ _ _⟩
      · rw [am_wr_row, am_wr_row, am_row_n _ _ _ (by decide)]; try rfl
      · exact (by rw [show zw * 16 + zp = 16 * zw + zp by omega]; exact zNm_o (zNm_up q_N.2 q_nm q_w q_p) _)
set_option maxRecDepth 20000 in
set_option maxHeartbeats 4000000 in
theorem jt_storeBecomes_1 (zd : Nat) (q_d : 1 ≤ zd) {zh : am_H} {N : Int} {G : Int → Int → Int} {S T : Int} {zv zs : Int} (q_nm : zNm (zh.1 1) (zh.1 2) N G S T) (q_g : zGk N G S T) (q_s : zh.1 1 2 = iN zs) : am_wp zd am_m_Numbers_storeBecomes 0 [(0, .ref 1), (1, .int (iN (zv)))] [] (78, 76) zh (78, 76) (fun rv h' => rv = none ∧ ∃ fo fc, am_row (am_row zh 2 fc) 1 fo = h' ∧ zNm fo fc N G zv T ∧ fo 2 = iN (zs + 1)) := by
  obtain ⟨zd, rfl⟩ : ∃ y_e, zd = y_e + 1 := ⟨zd - 1, by omega⟩
  have q_N := q_g.1
  refine wp_run (k := 4) (pc1 := 7) (l1 := [(0, .ref 1), (1, .int (iN (zv)))]) (st1 := [.int (iN (zv)), .int (iN (96)), .ref 2]) (kr1 := (78, 76)) (h1 := zh) rfl ?_
  refine wp_call (md1 := am_m_Lp_lay) (As := [.ref 2, .int (iN (96)), .int (iN (zv))]) (rest := []) (kr1 := (78, 76)) rfl (jt_lay _ (by omega) (zn := 98) (zi := 96) (zv := iN (zv)) (by decide) (by decide) rfl rfl rfl (by decide) (by omega) (by omega)) ?_
  rintro _ _ ⟨rfl, rfl⟩
  refine wp_run (k := 5) (pc1 := 17) (l1 := [(0, .ref 1), (1, .int (iN (zv)))]) (st1 := [.int (iN ((zs) + (1))), .ref 1]) (kr1 := (78, 76)) (h1 := am_wr zh 2 (96 : Int).toNat (iN (zv))) (Eq.trans (b := (some (17, [(0, .ref 1), (1, .int (iN (zv)))], [.int (((am_wr zh 2 (96 : Int).toNat (iN (zv))).1 1 2) + (iN (1))), .ref 1], (78, 76), am_wr zh 2 (96 : Int).toNat (iN (zv))) : Option am_C)) rfl (by simp only [(show (am_wr zh 2 (96 : Int).toNat (iN (zv))).1 1 2 = iN zs from (congrFun (am_wr_ne (by decide)) 2).trans q_s)]; try simp only [Int32.ofInt_add, Int32.ofInt_sub, Int32.ofInt_mul, Int32.ofInt_neg])) ?_
  refine wp_run (k := 1) (pc1 := 20) (l1 := [(0, .ref 1), (1, .int (iN (zv)))]) (st1 := []) (kr1 := (78, 76)) (h1 := am_wr (am_wr zh 2 (96 : Int).toNat (iN (zv))) 1 2 (iN ((zs) + (1)))) rfl ?_
  refine wp_ret (rv := none) rfl ?_
  refine ⟨rfl, zUp (zh.1 1) 2 (iN (zs + 1)), zUp (zh.1 2) 96 (iN zv), ?_, ?_, zUp_s _ _ _⟩
  · rw [am_wr_row, am_wr_row, am_row_n _ _ _ (by decide)]; try rfl
  · exact ⟨(zUp_n _ _ _ (by decide)).trans q_nm.1, fun w p q1 q2 q3 q4 => (zUp_n _ _ _ (by omega)).trans (q_nm.2.1 w p q1 q2 q3 q4), zUp_s _ _ _, (zUp_n _ _ _ (by decide)).trans q_nm.2.2.2⟩
set_option maxRecDepth 20000 in
set_option maxHeartbeats 4000000 in
theorem jt_lateMayBeBecomes_1 (zd : Nat) (q_d : 1 ≤ zd) {zh : am_H} {N : Int} {G : Int → Int → Int} {S T : Int} {zv zs : Int} (q_nm : zNm (zh.1 1) (zh.1 2) N G S T) (q_g : zGk N G S T) (q_s : zh.1 1 2 = iN zs) : am_wp zd am_m_Numbers_lateMayBeBecomes 0 [(0, .ref 1), (1, .int (iN (zv)))] [] (78, 76) zh (78, 76) (fun rv h' => rv = none ∧ ∃ fo fc, am_row (am_row zh 2 fc) 1 fo = h' ∧ zNm fo fc N G S zv ∧ fo 2 = iN (zs + 1)) := by
  obtain ⟨zd, rfl⟩ : ∃ y_e, zd = y_e + 1 := ⟨zd - 1, by omega⟩
  have q_N := q_g.1
  refine wp_run (k := 4) (pc1 := 7) (l1 := [(0, .ref 1), (1, .int (iN (zv)))]) (st1 := [.int (iN (zv)), .int (iN (97)), .ref 2]) (kr1 := (78, 76)) (h1 := zh) rfl ?_
  refine wp_call (md1 := am_m_Lp_lay) (As := [.ref 2, .int (iN (97)), .int (iN (zv))]) (rest := []) (kr1 := (78, 76)) rfl (jt_lay _ (by omega) (zn := 98) (zi := 97) (zv := iN (zv)) (by decide) (by decide) rfl rfl rfl (by decide) (by omega) (by omega)) ?_
  rintro _ _ ⟨rfl, rfl⟩
  refine wp_run (k := 5) (pc1 := 17) (l1 := [(0, .ref 1), (1, .int (iN (zv)))]) (st1 := [.int (iN ((zs) + (1))), .ref 1]) (kr1 := (78, 76)) (h1 := am_wr zh 2 (97 : Int).toNat (iN (zv))) (Eq.trans (b := (some (17, [(0, .ref 1), (1, .int (iN (zv)))], [.int (((am_wr zh 2 (97 : Int).toNat (iN (zv))).1 1 2) + (iN (1))), .ref 1], (78, 76), am_wr zh 2 (97 : Int).toNat (iN (zv))) : Option am_C)) rfl (by simp only [(show (am_wr zh 2 (97 : Int).toNat (iN (zv))).1 1 2 = iN zs from (congrFun (am_wr_ne (by decide)) 2).trans q_s)]; try simp only [Int32.ofInt_add, Int32.ofInt_sub, Int32.ofInt_mul, Int32.ofInt_neg])) ?_
  refine wp_run (k := 1) (pc1 := 20) (l1 := [(0, .ref 1), (1, .int (iN (zv)))]) (st1 := []) (kr1 := (78, 76)) (h1 := am_wr (am_wr zh 2 (97 : Int).toNat (iN (zv))) 1 2 (iN ((zs) + (1)))) rfl ?_
  refine wp_ret (rv := none) rfl ?_
  refine ⟨rfl, zUp (zh.1 1) 2 (iN (zs + 1)), zUp (zh.1 2) 97 (iN zv), ?_, ?_, zUp_s _ _ _⟩
  · rw [am_wr_row, am_wr_row, am_row_n _ _ _ (by decide)]; try rfl
  · exact ⟨(zUp_n _ _ _ (by decide)).trans q_nm.1, fun w p q1 q2 q3 q4 => (zUp_n _ _ _ (by omega)).trans (q_nm.2.1 w p q1 q2 q3 q4), (zUp_n _ _ _ (by decide)).trans q_nm.2.2.1, zUp_s _ _ _⟩
set_option maxRecDepth 20000 in
set_option maxHeartbeats 4000000 in
theorem jt_become_34 (zd : Nat) (q_d : 2 ≤ zd) {zh : am_H} {N : Int} {G : Int → Int → Int} {S T : Int} {zp zw zv zs : Int} (q_nm : zNm (zh.1 34) (zh.1 35) N G S T) (q_g : zGk N G S T) (q_p : 0 ≤ zp ∧ zp < N) (q_w : 0 ≤ zw ∧ zw < 6) (q_s : zh.1 34 2 = iN zs) : am_wp zd am_m_Numbers_become 0 [(0, .ref 34), (1, .int (iN (zp))), (2, .int (iN (zw))), (3, .int (iN (zv)))] [] (78, 76) zh (78, 76) (fun rv h' => rv = none ∧ ∃ fo fc, am_row (am_row zh 35 fc) 34 fo = h' ∧ zNm fo fc N (zG1 G zw zp zv) S T ∧ fo 2 = iN (zs + 1)) := by
  obtain ⟨zd, rfl⟩ : ∃ y_e, zd = y_e + 2 := ⟨zd - 2, by omega⟩
  have q_N := q_g.1
  refine wp_run (k := 2) (pc1 := 2) (l1 := [(0, .ref 34), (1, .int (iN (zp))), (2, .int (iN (zw))), (3, .int (iN (zv)))]) (st1 := [.int (iN (zp)), .ref 34]) (kr1 := (78, 76)) (h1 := zh) rfl ?_
  refine wp_call (md1 := am_m_Numbers_has) (As := [.ref 34, .int (iN (zp))]) (rest := []) (kr1 := (78, 76)) rfl (jt_has_34 _ (by omega) q_nm q_g (zp := zp) (by omega)) ?_
  rintro _ _ ⟨rfl, rfl⟩
  refine wp_eqb rfl (fun b_5 => ?_) (fun b_5 => ?_)
  · exact absurd (show 0 ≤ zp ∧ zp < N by omega) b_5
  · refine wp_run (k := 2) (pc1 := 11) (l1 := [(0, .ref 34), (1, .int (iN (zp))), (2, .int (iN (zw))), (3, .int (iN (zv)))]) (st1 := [.int (iN (6)), .int (iN (zw))]) (kr1 := (78, 76)) (h1 := zh) rfl ?_
    refine wp_call (md1 := am_m_Lp_inside) (As := [.int (iN (zw)), .int (iN (6))]) (rest := []) (kr1 := (78, 76)) rfl (jt_inside _ (by omega) (zi := zw) (ze := 6) (by omega) (by omega)) ?_
    rintro _ _ ⟨rfl, rfl⟩
    refine wp_eqb rfl (fun b_14 => ?_) (fun b_14 => ?_)
    · exact absurd (show 0 ≤ zw ∧ zw < 6 by omega) b_14
    · refine wp_run (k := 8) (pc1 := 28) (l1 := [(0, .ref 34), (1, .int (iN (zp))), (2, .int (iN (zw))), (3, .int (iN (zv)))]) (st1 := [.int (iN (zv)), .int (iN (((zw) * (16)) + (zp))), .ref 35]) (kr1 := (78, 76)) (h1 := zh) (Eq.trans (b := (some (28, [(0, .ref 34), (1, .int (iN (zp))), (2, .int (iN (zw))), (3, .int (iN (zv)))], [.int (iN (zv)), .int (((iN (zw)) * (iN (16))) + (iN (zp))), .ref 35], (78, 76), zh) : Option am_C)) rfl (by simp only [Int32.ofInt_add, Int32.ofInt_sub, Int32.ofInt_mul, Int32.ofInt_neg])) ?_
      refine wp_call (md1 := am_m_Lp_lay) (As := [.ref 35, .int (iN (((zw) * (16)) + (zp))), .int (iN (zv))]) (rest := []) (kr1 := (78, 76)) rfl (jt_lay _ (by omega) (zn := 98) (zi := ((zw) * (16)) + (zp)) (zv := iN (zv)) (by decide) (by decide) rfl rfl rfl (by decide) (by omega) (by omega)) ?_
      rintro _ _ ⟨rfl, rfl⟩
      refine wp_run (k := 5) (pc1 := 38) (l1 := [(0, .ref 34), (1, .int (iN (zp))), (2, .int (iN (zw))), (3, .int (iN (zv)))]) (st1 := [.int (iN ((zs) + (1))), .ref 34]) (kr1 := (78, 76)) (h1 := am_wr zh 35 (((zw) * (16)) + (zp) : Int).toNat (iN (zv))) (Eq.trans (b := (some (38, [(0, .ref 34), (1, .int (iN (zp))), (2, .int (iN (zw))), (3, .int (iN (zv)))], [.int (((am_wr zh 35 (((zw) * (16)) + (zp) : Int).toNat (iN (zv))).1 34 2) + (iN (1))), .ref 34], (78, 76), am_wr zh 35 (((zw) * (16)) + (zp) : Int).toNat (iN (zv))) : Option am_C)) rfl (by simp only [(show (am_wr zh 35 (((zw) * (16)) + (zp) : Int).toNat (iN (zv))).1 34 2 = iN zs from (congrFun (am_wr_ne (by decide)) 2).trans q_s)]; try simp only [Int32.ofInt_add, Int32.ofInt_sub, Int32.ofInt_mul, Int32.ofInt_neg])) ?_
      refine wp_run (k := 1) (pc1 := 41) (l1 := [(0, .ref 34), (1, .int (iN (zp))), (2, .int (iN (zw))), (3, .int (iN (zv)))]) (st1 := []) (kr1 := (78, 76)) (h1 := am_wr (am_wr zh 35 (((zw) * (16)) + (zp) : Int).toNat (iN (zv))) 34 2 (iN ((zs) + (1)))) rfl ?_
      refine wp_ret (rv := none) rfl ?_
      refine ⟨rfl, zUp (zh.1 34) 2 (iN (zs + 1)), zUp (zh.1 35) (zw * 16 + zp).toNat (iN zv), ?_, ?_, zUp_s _ _ _⟩
      · rw [am_wr_row, am_wr_row, am_row_n _ _ _ (by decide)]; try rfl
      · exact (by rw [show zw * 16 + zp = 16 * zw + zp by omega]; exact zNm_o (zNm_up q_N.2 q_nm q_w q_p) _)
set_option maxRecDepth 20000 in
set_option maxHeartbeats 4000000 in
theorem jt_storeBecomes_34 (zd : Nat) (q_d : 1 ≤ zd) {zh : am_H} {N : Int} {G : Int → Int → Int} {S T : Int} {zv zs : Int} (q_nm : zNm (zh.1 34) (zh.1 35) N G S T) (q_g : zGk N G S T) (q_s : zh.1 34 2 = iN zs) : am_wp zd am_m_Numbers_storeBecomes 0 [(0, .ref 34), (1, .int (iN (zv)))] [] (78, 76) zh (78, 76) (fun rv h' => rv = none ∧ ∃ fo fc, am_row (am_row zh 35 fc) 34 fo = h' ∧ zNm fo fc N G zv T ∧ fo 2 = iN (zs + 1)) := by
  obtain ⟨zd, rfl⟩ : ∃ y_e, zd = y_e + 1 := ⟨zd - 1, by omega⟩
  have q_N := q_g.1
  refine wp_run (k := 4) (pc1 := 7) (l1 := [(0, .ref 34), (1, .int (iN (zv)))]) (st1 := [.int (iN (zv)), .int (iN (96)), .ref 35]) (kr1 := (78, 76)) (h1 := zh) rfl ?_
  refine wp_call (md1 := am_m_Lp_lay) (As := [.ref 35, .int (iN (96)), .int (iN (zv))]) (rest := []) (kr1 := (78, 76)) rfl (jt_lay _ (by omega) (zn := 98) (zi := 96) (zv := iN (zv)) (by decide) (by decide) rfl rfl rfl (by decide) (by omega) (by omega)) ?_
  rintro _ _ ⟨rfl, rfl⟩
  refine wp_run (k := 5) (pc1 := 17) (l1 := [(0, .ref 34), (1, .int (iN (zv)))]) (st1 := [.int (iN ((zs) + (1))), .ref 34]) (kr1 := (78, 76)) (h1 := am_wr zh 35 (96 : Int).toNat (iN (zv))) (Eq.trans (b := (some (17, [(0, .ref 34), (1, .int (iN (zv)))], [.int (((am_wr zh 35 (96 : Int).toNat (iN (zv))).1 34 2) + (iN (1))), .ref 34], (78, 76), am_wr zh 35 (96 : Int).toNat (iN (zv))) : Option am_C)) rfl (by simp only [(show (am_wr zh 35 (96 : Int).toNat (iN (zv))).1 34 2 = iN zs from (congrFun (am_wr_ne (by decide)) 2).trans q_s)]; try simp only [Int32.ofInt_add, Int32.ofInt_sub, Int32.ofInt_mul, Int32.ofInt_neg])) ?_
  refine wp_run (k := 1) (pc1 := 20) (l1 := [(0, .ref 34), (1, .int (iN (zv)))]) (st1 := []) (kr1 := (78, 76)) (h1 := am_wr (am_wr zh 35 (96 : Int).toNat (iN (zv))) 34 2 (iN ((zs) + (1)))) rfl ?_
  refine wp_ret (rv := none) rfl ?_
  refine ⟨rfl, zUp (zh.1 34) 2 (iN (zs + 1)), zUp (zh.1 35) 96 (iN zv), ?_, ?_, zUp_s _ _ _⟩
  · rw [am_wr_row, am_wr_row, am_row_n _ _ _ (by decide)]; try rfl
  · exact ⟨(zUp_n _ _ _ (by decide)).trans q_nm.1, fun w p q1 q2 q3 q4 => (zUp_n _ _ _ (by omega)).trans (q_nm.2.1 w p q1 q2 q3 q4), zUp_s _ _ _, (zUp_n _ _ _ (by decide)).trans q_nm.2.2.2⟩
set_option maxRecDepth 20000 in
set_option maxHeartbeats 4000000 in
theorem jt_lateMayBeBecomes_34 (zd : Nat) (q_d : 1 ≤ zd) {zh : am_H} {N : Int} {G : Int → Int → Int} {S T : Int} {zv zs : Int} (q_nm : zNm (zh.1 34) (zh.1 35) N G S T) (q_g : zGk N G S T) (q_s : zh.1 34 2 = iN zs) : am_wp zd am_m_Numbers_lateMayBeBecomes 0 [(0, .ref 34), (1, .int (iN (zv)))] [] (78, 76) zh (78, 76) (fun rv h' => rv = none ∧ ∃ fo fc, am_row (am_row zh 35 fc) 34 fo = h' ∧ zNm fo fc N G S zv ∧ fo 2 = iN (zs + 1)) := by
  obtain ⟨zd, rfl⟩ : ∃ y_e, zd = y_e + 1 := ⟨zd - 1, by omega⟩
  have q_N := q_g.1
  refine wp_run (k := 4) (pc1 := 7) (l1 := [(0, .ref 34), (1, .int (iN (zv)))]) (st1 := [.int (iN (zv)), .int (iN (97)), .ref 35]) (kr1 := (78, 76)) (h1 := zh) rfl ?_
  refine wp_call (md1 := am_m_Lp_lay) (As := [.ref 35, .int (iN (97)), .int (iN (zv))]) (rest := []) (kr1 := (78, 76)) rfl (jt_lay _ (by omega) (zn := 98) (zi := 97) (zv := iN (zv)) (by decide) (by decide) rfl rfl rfl (by decide) (by omega) (by omega)) ?_
  rintro _ _ ⟨rfl, rfl⟩
  refine wp_run (k := 5) (pc1 := 17) (l1 := [(0, .ref 34), (1, .int (iN (zv)))]) (st1 := [.int (iN ((zs) + (1))), .ref 34]) (kr1 := (78, 76)) (h1 := am_wr zh 35 (97 : Int).toNat (iN (zv))) (Eq.trans (b := (some (17, [(0, .ref 34), (1, .int (iN (zv)))], [.int (((am_wr zh 35 (97 : Int).toNat (iN (zv))).1 34 2) + (iN (1))), .ref 34], (78, 76), am_wr zh 35 (97 : Int).toNat (iN (zv))) : Option am_C)) rfl (by simp only [(show (am_wr zh 35 (97 : Int).toNat (iN (zv))).1 34 2 = iN zs from (congrFun (am_wr_ne (by decide)) 2).trans q_s)]; try simp only [Int32.ofInt_add, Int32.ofInt_sub, Int32.ofInt_mul, Int32.ofInt_neg])) ?_
  refine wp_run (k := 1) (pc1 := 20) (l1 := [(0, .ref 34), (1, .int (iN (zv)))]) (st1 := []) (kr1 := (78, 76)) (h1 := am_wr (am_wr zh 35 (97 : Int).toNat (iN (zv))) 34 2 (iN ((zs) + (1)))) rfl ?_
  refine wp_ret (rv := none) rfl ?_
  refine ⟨rfl, zUp (zh.1 34) 2 (iN (zs + 1)), zUp (zh.1 35) 97 (iN zv), ?_, ?_, zUp_s _ _ _⟩
  · rw [am_wr_row, am_wr_row, am_row_n _ _ _ (by decide)]; try rfl
  · exact ⟨(zUp_n _ _ _ (by decide)).trans q_nm.1, fun w p q1 q2 q3 q4 => (zUp_n _ _ _ (by omega)).trans (q_nm.2.1 w p q1 q2 q3 q4), (zUp_n _ _ _ (by decide)).trans q_nm.2.2.1, zUp_s _ _ _⟩
set_option maxRecDepth 20000 in
set_option maxHeartbeats 4000000 in
theorem jl_copyTo (zd : Nat) (q_d : 1 ≤ zd) {zh : am_H} {zp : Int} (q_p : 0 ≤ zp ∧ zp ≤ 1176) {zQ : Option Value → am_H → Prop} (zk : am_wp zd am_m_Numbers_copyTo 29 [(0, .ref 1), (1, .ref 26), (2, .int (iN (zp))), (3, .int (iN (98)))] [] (78, 76) (am_row zh 26 (zCq (zh.1 26) (zh.1 2) (zp : Int).toNat (0 : Int).toNat (98 : Int).toNat)) (78, 76) zQ) : ∀ (z_n : Nat) (zi : Int) (q_i : 0 ≤ zi ∧ zi ≤ 98), 98 - zi < (z_n : Int) → am_wp zd am_m_Numbers_copyTo 2 [(0, .ref 1), (1, .ref 26), (2, .int (iN (zp))), (3, .int (iN (zi)))] [] (78, 76) (am_row zh 26 (zCq (zh.1 26) (zh.1 2) (zp : Int).toNat (0 : Int).toNat (zi : Int).toNat)) (78, 76) zQ := by
  obtain ⟨zd, rfl⟩ : ∃ y_e, zd = y_e + 1 := ⟨zd - 1, by omega⟩
  intro z_n
  induction z_n with
  | zero => intro zi q_i q_m; omega
  | succ z_n z_ih =>
    intro zi q_i q_m
    refine wp_run (k := 2) (pc1 := 5) (l1 := [(0, .ref 1), (1, .ref 26), (2, .int (iN (zp))), (3, .int (iN (zi)))]) (st1 := [.int (iN (98)), .int (iN (zi))]) (kr1 := (78, 76)) (h1 := am_row zh 26 (zCq (zh.1 26) (zh.1 2) (zp : Int).toNat (0 : Int).toNat (zi : Int).toNat)) rfl ?_
    refine wp_ge (a := zi) (b := 98) rfl (by omega) (by omega) (fun b_5 => ?_) (fun b_5 => ?_)
    · rw [show zi = 98 by omega]
      exact zk
    · refine wp_run (k := 7) (pc1 := 17) (l1 := [(0, .ref 1), (1, .ref 26), (2, .int (iN (zp))), (3, .int (iN (zi)))]) (st1 := [.int (iN (zi)), .ref 2, .int (iN ((zp) + (zi))), .ref 26]) (kr1 := (78, 76)) (h1 := am_row zh 26 (zCq (zh.1 26) (zh.1 2) (zp : Int).toNat (0 : Int).toNat (zi : Int).toNat)) (Eq.trans (b := (some (17, [(0, .ref 1), (1, .ref 26), (2, .int (iN (zp))), (3, .int (iN (zi)))], [.int (iN (zi)), .ref 2, .int ((iN (zp)) + (iN (zi))), .ref 26], (78, 76), am_row zh 26 (zCq (zh.1 26) (zh.1 2) (zp : Int).toNat (0 : Int).toNat (zi : Int).toNat)) : Option am_C)) rfl (by simp only [Int32.ofInt_add, Int32.ofInt_sub, Int32.ofInt_mul, Int32.ofInt_neg])) ?_
      refine wp_call (md1 := am_m_Lp_at) (As := [.ref 2, .int (iN (zi))]) (rest := [.int (iN ((zp) + (zi))), .ref 26]) (kr1 := (78, 76)) rfl (jt_at _ (by omega) (zf := (am_row zh 26 (zCq (zh.1 26) (zh.1 2) (zp : Int).toNat (0 : Int).toNat (zi : Int).toNat)).1 2) (zn := 98) (zi := zi) (zv := zh.1 2 (0 + zi).toNat) rfl rfl (by decide) (by omega) (by omega) ((congrFun (am_row_n _ _ _ (by decide)) _).trans (congrArg (zh.1 2) (show (zi : Int).toNat = (0 + zi).toNat by omega)))) ?_
      rintro _ _ ⟨rfl, rfl⟩
      refine wp_call (md1 := am_m_Lp_lay) (As := [.ref 26, .int (iN ((zp) + (zi))), .int (zh.1 2 (0 + zi).toNat)]) (rest := []) (kr1 := (78, 76)) rfl (jt_lay _ (by omega) (zn := 1274) (zi := (zp) + (zi)) (zv := zh.1 2 (0 + zi).toNat) (by decide) (by decide) rfl rfl rfl (by decide) (by omega) (by omega)) ?_
      rintro _ _ ⟨rfl, rfl⟩
      refine wp_run (k := 2) (pc1 := 2) (l1 := [(0, .ref 1), (1, .ref 26), (2, .int (iN (zp))), (3, .int (iN ((zi) + 1)))]) (st1 := []) (kr1 := (78, 76)) (h1 := am_wr (am_row zh 26 (zCq (zh.1 26) (zh.1 2) (zp : Int).toNat (0 : Int).toNat (zi : Int).toNat)) 26 ((zp) + (zi) : Int).toNat (zh.1 2 (0 + zi).toNat)) (Eq.trans (b := (some (2, [(0, .ref 1), (1, .ref 26), (2, .int (iN (zp))), (3, .int ((iN (zi)) + iN (1)))], [], (78, 76), am_wr (am_row zh 26 (zCq (zh.1 26) (zh.1 2) (zp : Int).toNat (0 : Int).toNat (zi : Int).toNat)) 26 ((zp) + (zi) : Int).toNat (zh.1 2 (0 + zi).toNat)) : Option am_C)) rfl (by simp only [Int32.ofInt_add, Int32.ofInt_sub, Int32.ofInt_mul, Int32.ofInt_neg])) ?_
      rw [zCq_w zh 26 (zh.1 26) (zh.1 2) (zp) (0) zi (by omega) (by omega) (by omega) (by omega) rfl]
      exact z_ih (zi + 1) (by omega) (by omega)
set_option maxRecDepth 20000 in
set_option maxHeartbeats 4000000 in
theorem jt_copyTo (zd : Nat) (q_d : 1 ≤ zd) {zh : am_H} {zp : Int} (q_p : 0 ≤ zp ∧ zp ≤ 1176) : am_wp zd am_m_Numbers_copyTo 0 [(0, .ref 1), (1, .ref 26), (2, .int (iN (zp)))] [] (78, 76) zh (78, 76) (fun rv h' => rv = none ∧ am_row zh 26 (zCq (zh.1 26) (zh.1 2) zp.toNat 0 98) = h') := by
  obtain ⟨zd, rfl⟩ : ∃ y_e, zd = y_e + 1 := ⟨zd - 1, by omega⟩
  refine wp_run (k := 2) (pc1 := 2) (l1 := [(0, .ref 1), (1, .ref 26), (2, .int (iN (zp))), (3, .int (iN (0)))]) (st1 := []) (kr1 := (78, 76)) (h1 := zh) rfl ?_
  refine Eq.mpr (congrArg (fun y_h => am_wp _ _ _ _ _ _ y_h _ _) (show zh = am_row zh 26 (zCq (zh.1 26) (zh.1 2) (zp : Int).toNat (0 : Int).toNat (0 : Int).toNat) from by rw [show (0 : Int).toNat = 0 from rfl, zCq_0, am_row_id])) ?_
  refine jl_copyTo _ (by omega) q_p ?_ 99 0 (by omega) (by omega)
  refine wp_ret (rv := none) rfl ?_
  exact ⟨rfl, rfl⟩
set_option maxRecDepth 20000 in
set_option maxHeartbeats 4000000 in
theorem jl_copyFrom (zd : Nat) (q_d : 1 ≤ zd) {zh : am_H} {zp : Int} (q_p : 0 ≤ zp ∧ zp ≤ 1176) {zQ : Option Value → am_H → Prop} (zk : am_wp zd am_m_Numbers_copyFrom 29 [(0, .ref 1), (1, .ref 26), (2, .int (iN (zp))), (3, .int (iN (98)))] [] (78, 76) (am_row zh 2 (zCq (zh.1 2) (zh.1 26) (0 : Int).toNat (zp : Int).toNat (98 : Int).toNat)) (78, 76) zQ) : ∀ (z_n : Nat) (zi : Int) (q_i : 0 ≤ zi ∧ zi ≤ 98), 98 - zi < (z_n : Int) → am_wp zd am_m_Numbers_copyFrom 2 [(0, .ref 1), (1, .ref 26), (2, .int (iN (zp))), (3, .int (iN (zi)))] [] (78, 76) (am_row zh 2 (zCq (zh.1 2) (zh.1 26) (0 : Int).toNat (zp : Int).toNat (zi : Int).toNat)) (78, 76) zQ := by
  obtain ⟨zd, rfl⟩ : ∃ y_e, zd = y_e + 1 := ⟨zd - 1, by omega⟩
  intro z_n
  induction z_n with
  | zero => intro zi q_i q_m; omega
  | succ z_n z_ih =>
    intro zi q_i q_m
    refine wp_run (k := 2) (pc1 := 5) (l1 := [(0, .ref 1), (1, .ref 26), (2, .int (iN (zp))), (3, .int (iN (zi)))]) (st1 := [.int (iN (98)), .int (iN (zi))]) (kr1 := (78, 76)) (h1 := am_row zh 2 (zCq (zh.1 2) (zh.1 26) (0 : Int).toNat (zp : Int).toNat (zi : Int).toNat)) rfl ?_
    refine wp_ge (a := zi) (b := 98) rfl (by omega) (by omega) (fun b_5 => ?_) (fun b_5 => ?_)
    · rw [show zi = 98 by omega]
      exact zk
    · refine wp_run (k := 7) (pc1 := 17) (l1 := [(0, .ref 1), (1, .ref 26), (2, .int (iN (zp))), (3, .int (iN (zi)))]) (st1 := [.int (iN ((zp) + (zi))), .ref 26, .int (iN (zi)), .ref 2]) (kr1 := (78, 76)) (h1 := am_row zh 2 (zCq (zh.1 2) (zh.1 26) (0 : Int).toNat (zp : Int).toNat (zi : Int).toNat)) (Eq.trans (b := (some (17, [(0, .ref 1), (1, .ref 26), (2, .int (iN (zp))), (3, .int (iN (zi)))], [.int ((iN (zp)) + (iN (zi))), .ref 26, .int (iN (zi)), .ref 2], (78, 76), am_row zh 2 (zCq (zh.1 2) (zh.1 26) (0 : Int).toNat (zp : Int).toNat (zi : Int).toNat)) : Option am_C)) rfl (by simp only [Int32.ofInt_add, Int32.ofInt_sub, Int32.ofInt_mul, Int32.ofInt_neg])) ?_
      refine wp_call (md1 := am_m_Lp_at) (As := [.ref 26, .int (iN ((zp) + (zi)))]) (rest := [.int (iN (zi)), .ref 2]) (kr1 := (78, 76)) rfl (jt_at _ (by omega) (zf := (am_row zh 2 (zCq (zh.1 2) (zh.1 26) (0 : Int).toNat (zp : Int).toNat (zi : Int).toNat)).1 26) (zn := 1274) (zi := (zp) + (zi)) (zv := zh.1 26 (zp + zi).toNat) rfl rfl (by decide) (by omega) (by omega) ((congrFun (am_row_n _ _ _ (by decide)) _).trans (congrArg (zh.1 26) (show ((zp) + (zi) : Int).toNat = (zp + zi).toNat by omega)))) ?_
      rintro _ _ ⟨rfl, rfl⟩
      refine wp_call (md1 := am_m_Lp_lay) (As := [.ref 2, .int (iN (zi)), .int (zh.1 26 (zp + zi).toNat)]) (rest := []) (kr1 := (78, 76)) rfl (jt_lay _ (by omega) (zn := 98) (zi := zi) (zv := zh.1 26 (zp + zi).toNat) (by decide) (by decide) rfl rfl rfl (by decide) (by omega) (by omega)) ?_
      rintro _ _ ⟨rfl, rfl⟩
      refine wp_run (k := 2) (pc1 := 2) (l1 := [(0, .ref 1), (1, .ref 26), (2, .int (iN (zp))), (3, .int (iN ((zi) + 1)))]) (st1 := []) (kr1 := (78, 76)) (h1 := am_wr (am_row zh 2 (zCq (zh.1 2) (zh.1 26) (0 : Int).toNat (zp : Int).toNat (zi : Int).toNat)) 2 (zi : Int).toNat (zh.1 26 (zp + zi).toNat)) (Eq.trans (b := (some (2, [(0, .ref 1), (1, .ref 26), (2, .int (iN (zp))), (3, .int ((iN (zi)) + iN (1)))], [], (78, 76), am_wr (am_row zh 2 (zCq (zh.1 2) (zh.1 26) (0 : Int).toNat (zp : Int).toNat (zi : Int).toNat)) 2 (zi : Int).toNat (zh.1 26 (zp + zi).toNat)) : Option am_C)) rfl (by simp only [Int32.ofInt_add, Int32.ofInt_sub, Int32.ofInt_mul, Int32.ofInt_neg])) ?_
      rw [zCq_w zh 2 (zh.1 2) (zh.1 26) (0) (zp) zi (by omega) (by omega) (by omega) (by omega) rfl]
      exact z_ih (zi + 1) (by omega) (by omega)
set_option maxRecDepth 20000 in
set_option maxHeartbeats 4000000 in
theorem jt_copyFrom (zd : Nat) (q_d : 1 ≤ zd) {zh : am_H} {zp zs : Int} (q_p : 0 ≤ zp ∧ zp ≤ 1176) (q_s : zh.1 1 2 = iN zs) : am_wp zd am_m_Numbers_copyFrom 0 [(0, .ref 1), (1, .ref 26), (2, .int (iN (zp)))] [] (78, 76) zh (78, 76) (fun rv h' => rv = none ∧ am_row (am_row zh 2 (zCq (zh.1 2) (zh.1 26) 0 zp.toNat 98)) 1 (zUp (zh.1 1) 2 (iN (zs + 1))) = h') := by
  obtain ⟨zd, rfl⟩ : ∃ y_e, zd = y_e + 1 := ⟨zd - 1, by omega⟩
  refine wp_run (k := 2) (pc1 := 2) (l1 := [(0, .ref 1), (1, .ref 26), (2, .int (iN (zp))), (3, .int (iN (0)))]) (st1 := []) (kr1 := (78, 76)) (h1 := zh) rfl ?_
  refine Eq.mpr (congrArg (fun y_h => am_wp _ _ _ _ _ _ y_h _ _) (show zh = am_row zh 2 (zCq (zh.1 2) (zh.1 26) (0 : Int).toNat (zp : Int).toNat (0 : Int).toNat) from by rw [show (0 : Int).toNat = 0 from rfl, zCq_0, am_row_id])) ?_
  refine jl_copyFrom _ (by omega) q_p ?_ 99 0 (by omega) (by omega)
  refine wp_run (k := 5) (pc1 := 36) (l1 := [(0, .ref 1), (1, .ref 26), (2, .int (iN (zp))), (3, .int (iN (98)))]) (st1 := [.int (iN ((zs) + (1))), .ref 1]) (kr1 := (78, 76)) (h1 := am_row zh 2 (zCq (zh.1 2) (zh.1 26) (0 : Int).toNat (zp : Int).toNat (98 : Int).toNat)) (Eq.trans (b := (some (36, [(0, .ref 1), (1, .ref 26), (2, .int (iN (zp))), (3, .int (iN (98)))], [.int (((am_row zh 2 (zCq (zh.1 2) (zh.1 26) (0 : Int).toNat (zp : Int).toNat (98 : Int).toNat)).1 1 2) + (iN (1))), .ref 1], (78, 76), am_row zh 2 (zCq (zh.1 2) (zh.1 26) (0 : Int).toNat (zp : Int).toNat (98 : Int).toNat)) : Option am_C)) rfl (by simp only [(show (am_row zh 2 (zCq (zh.1 2) (zh.1 26) (0 : Int).toNat (zp : Int).toNat (98 : Int).toNat)).1 1 2 = iN zs from (congrFun (am_row_n _ _ _ (by decide)) 2).trans q_s), Int32.ofInt_add, Int32.ofInt_sub, Int32.ofInt_mul, Int32.ofInt_neg])) ?_
  refine wp_run (k := 1) (pc1 := 39) (l1 := [(0, .ref 1), (1, .ref 26), (2, .int (iN (zp))), (3, .int (iN (98)))]) (st1 := []) (kr1 := (78, 76)) (h1 := am_wr (am_row zh 2 (zCq (zh.1 2) (zh.1 26) (0 : Int).toNat (zp : Int).toNat (98 : Int).toNat)) 1 2 (iN ((zs) + (1)))) rfl ?_
  refine wp_ret (rv := none) rfl ?_
  exact ⟨rfl, by rw [am_wr_row, am_row_n _ _ _ (by decide)]; rfl⟩
set_option maxRecDepth 20000 in
set_option maxHeartbeats 4000000 in
theorem jl_like_1_34 (zd : Nat) (q_d : 1 ≤ zd) {zh : am_H}  {zQ : Option Value → am_H → Prop} (zk : am_wp zd am_m_Numbers_becomeLike 30 [(0, .ref 1), (1, .ref 34), (2, .int (iN (98)))] [] (78, 76) (am_row zh 2 (zCq (zh.1 2) (zh.1 35) (0 : Int).toNat (0 : Int).toNat (98 : Int).toNat)) (78, 76) zQ) : ∀ (z_n : Nat) (zi : Int) (q_i : 0 ≤ zi ∧ zi ≤ 98), 98 - zi < (z_n : Int) → am_wp zd am_m_Numbers_becomeLike 2 [(0, .ref 1), (1, .ref 34), (2, .int (iN (zi)))] [] (78, 76) (am_row zh 2 (zCq (zh.1 2) (zh.1 35) (0 : Int).toNat (0 : Int).toNat (zi : Int).toNat)) (78, 76) zQ := by
  obtain ⟨zd, rfl⟩ : ∃ y_e, zd = y_e + 1 := ⟨zd - 1, by omega⟩
  intro z_n
  induction z_n with
  | zero => intro zi q_i q_m; omega
  | succ z_n z_ih =>
    intro zi q_i q_m
    refine wp_run (k := 2) (pc1 := 5) (l1 := [(0, .ref 1), (1, .ref 34), (2, .int (iN (zi)))]) (st1 := [.int (iN (98)), .int (iN (zi))]) (kr1 := (78, 76)) (h1 := am_row zh 2 (zCq (zh.1 2) (zh.1 35) (0 : Int).toNat (0 : Int).toNat (zi : Int).toNat)) rfl ?_
    refine wp_ge (a := zi) (b := 98) rfl (by omega) (by omega) (fun b_5 => ?_) (fun b_5 => ?_)
    · rw [show zi = 98 by omega]
      exact zk
    · refine wp_run (k := 6) (pc1 := 18) (l1 := [(0, .ref 1), (1, .ref 34), (2, .int (iN (zi)))]) (st1 := [.int (iN (zi)), .ref 35, .int (iN (zi)), .ref 2]) (kr1 := (78, 76)) (h1 := am_row zh 2 (zCq (zh.1 2) (zh.1 35) (0 : Int).toNat (0 : Int).toNat (zi : Int).toNat)) rfl ?_
      refine wp_call (md1 := am_m_Lp_at) (As := [.ref 35, .int (iN (zi))]) (rest := [.int (iN (zi)), .ref 2]) (kr1 := (78, 76)) rfl (jt_at _ (by omega) (zf := (am_row zh 2 (zCq (zh.1 2) (zh.1 35) (0 : Int).toNat (0 : Int).toNat (zi : Int).toNat)).1 35) (zn := 98) (zi := zi) (zv := zh.1 35 (0 + zi).toNat) rfl rfl (by decide) (by omega) (by omega) ((congrFun (am_row_n _ _ _ (by decide)) _).trans (congrArg (zh.1 35) (show (zi : Int).toNat = (0 + zi).toNat by omega)))) ?_
      rintro _ _ ⟨rfl, rfl⟩
      refine wp_call (md1 := am_m_Lp_lay) (As := [.ref 2, .int (iN (zi)), .int (zh.1 35 (0 + zi).toNat)]) (rest := []) (kr1 := (78, 76)) rfl (jt_lay _ (by omega) (zn := 98) (zi := zi) (zv := zh.1 35 (0 + zi).toNat) (by decide) (by decide) rfl rfl rfl (by decide) (by omega) (by omega)) ?_
      rintro _ _ ⟨rfl, rfl⟩
      refine wp_run (k := 2) (pc1 := 2) (l1 := [(0, .ref 1), (1, .ref 34), (2, .int (iN ((zi) + 1)))]) (st1 := []) (kr1 := (78, 76)) (h1 := am_wr (am_row zh 2 (zCq (zh.1 2) (zh.1 35) (0 : Int).toNat (0 : Int).toNat (zi : Int).toNat)) 2 (zi : Int).toNat (zh.1 35 (0 + zi).toNat)) (Eq.trans (b := (some (2, [(0, .ref 1), (1, .ref 34), (2, .int ((iN (zi)) + iN (1)))], [], (78, 76), am_wr (am_row zh 2 (zCq (zh.1 2) (zh.1 35) (0 : Int).toNat (0 : Int).toNat (zi : Int).toNat)) 2 (zi : Int).toNat (zh.1 35 (0 + zi).toNat)) : Option am_C)) rfl (by simp only [Int32.ofInt_add, Int32.ofInt_sub, Int32.ofInt_mul, Int32.ofInt_neg])) ?_
      rw [zCq_w zh 2 (zh.1 2) (zh.1 35) (0) (0) zi (by omega) (by omega) (by omega) (by omega) rfl]
      exact z_ih (zi + 1) (by omega) (by omega)
set_option maxRecDepth 20000 in
set_option maxHeartbeats 4000000 in
theorem jt_like_1_34 (zd : Nat) (q_d : 1 ≤ zd) {zh : am_H} {zn zs : Int} (q_n : zh.1 34 1 = iN zn) (q_s : zh.1 1 2 = iN zs) : am_wp zd am_m_Numbers_becomeLike 0 [(0, .ref 1), (1, .ref 34)] [] (78, 76) zh (78, 76) (fun rv h' => rv = none ∧ am_row (am_row zh 2 (zCq (zh.1 2) (zh.1 35) 0 0 98)) 1 (zUp (zUp (zh.1 1) 1 (iN zn)) 2 (iN (zs + 1))) = h') := by
  obtain ⟨zd, rfl⟩ : ∃ y_e, zd = y_e + 1 := ⟨zd - 1, by omega⟩
  refine wp_run (k := 2) (pc1 := 2) (l1 := [(0, .ref 1), (1, .ref 34), (2, .int (iN (0)))]) (st1 := []) (kr1 := (78, 76)) (h1 := zh) rfl ?_
  refine Eq.mpr (congrArg (fun y_h => am_wp _ _ _ _ _ _ y_h _ _) (show zh = am_row zh 2 (zCq (zh.1 2) (zh.1 35) (0 : Int).toNat (0 : Int).toNat (0 : Int).toNat) from by rw [show (0 : Int).toNat = 0 from rfl, zCq_0, am_row_id])) ?_
  refine jl_like_1_34 _ (by omega)  ?_ 99 0 (by omega) (by omega)
  refine wp_run (k := 3) (pc1 := 35) (l1 := [(0, .ref 1), (1, .ref 34), (2, .int (iN (98)))]) (st1 := [.int (iN (zn)), .ref 1]) (kr1 := (78, 76)) (h1 := am_row zh 2 (zCq (zh.1 2) (zh.1 35) (0 : Int).toNat (0 : Int).toNat (98 : Int).toNat)) (Eq.trans (b := (some (35, [(0, .ref 1), (1, .ref 34), (2, .int (iN (98)))], [.int ((am_row zh 2 (zCq (zh.1 2) (zh.1 35) (0 : Int).toNat (0 : Int).toNat (98 : Int).toNat)).1 34 1), .ref 1], (78, 76), am_row zh 2 (zCq (zh.1 2) (zh.1 35) (0 : Int).toNat (0 : Int).toNat (98 : Int).toNat)) : Option am_C)) rfl (by simp only [(show (am_row zh 2 (zCq (zh.1 2) (zh.1 35) (0 : Int).toNat (0 : Int).toNat (98 : Int).toNat)).1 34 1 = iN zn from (congrFun (am_row_n _ _ _ (by decide)) 1).trans q_n), Int32.ofInt_add, Int32.ofInt_sub, Int32.ofInt_mul, Int32.ofInt_neg])) ?_
  refine wp_run (k := 6) (pc1 := 45) (l1 := [(0, .ref 1), (1, .ref 34), (2, .int (iN (98)))]) (st1 := [.int (iN ((zs) + (1))), .ref 1]) (kr1 := (78, 76)) (h1 := am_wr (am_row zh 2 (zCq (zh.1 2) (zh.1 35) (0 : Int).toNat (0 : Int).toNat (98 : Int).toNat)) 1 1 (iN (zn))) (Eq.trans (b := (some (45, [(0, .ref 1), (1, .ref 34), (2, .int (iN (98)))], [.int (((am_wr (am_row zh 2 (zCq (zh.1 2) (zh.1 35) (0 : Int).toNat (0 : Int).toNat (98 : Int).toNat)) 1 1 (iN (zn))).1 1 2) + (iN (1))), .ref 1], (78, 76), am_wr (am_row zh 2 (zCq (zh.1 2) (zh.1 35) (0 : Int).toNat (0 : Int).toNat (98 : Int).toNat)) 1 1 (iN (zn))) : Option am_C)) rfl (by simp only [(show (am_wr (am_row zh 2 (zCq (zh.1 2) (zh.1 35) (0 : Int).toNat (0 : Int).toNat (98 : Int).toNat)) 1 1 (iN (zn))).1 1 2 = iN zs from by rw [am_wr_row, am_row_s, zUp_n _ _ _ (by decide), am_row_n _ _ _ (by decide)]; exact q_s)]; try simp only [Int32.ofInt_add, Int32.ofInt_sub, Int32.ofInt_mul, Int32.ofInt_neg])) ?_
  refine wp_run (k := 1) (pc1 := 48) (l1 := [(0, .ref 1), (1, .ref 34), (2, .int (iN (98)))]) (st1 := []) (kr1 := (78, 76)) (h1 := am_wr (am_wr (am_row zh 2 (zCq (zh.1 2) (zh.1 35) (0 : Int).toNat (0 : Int).toNat (98 : Int).toNat)) 1 1 (iN (zn))) 1 2 (iN ((zs) + (1)))) rfl ?_
  refine wp_ret (rv := none) rfl ?_
  exact ⟨rfl, by rw [am_wr_row _ 1 1, am_row_n _ _ _ (by decide), am_wr_row2]; rfl⟩
set_option maxRecDepth 20000 in
set_option maxHeartbeats 4000000 in
theorem jl_like_34_1 (zd : Nat) (q_d : 1 ≤ zd) {zh : am_H}  {zQ : Option Value → am_H → Prop} (zk : am_wp zd am_m_Numbers_becomeLike 30 [(0, .ref 34), (1, .ref 1), (2, .int (iN (98)))] [] (78, 76) (am_row zh 35 (zCq (zh.1 35) (zh.1 2) (0 : Int).toNat (0 : Int).toNat (98 : Int).toNat)) (78, 76) zQ) : ∀ (z_n : Nat) (zi : Int) (q_i : 0 ≤ zi ∧ zi ≤ 98), 98 - zi < (z_n : Int) → am_wp zd am_m_Numbers_becomeLike 2 [(0, .ref 34), (1, .ref 1), (2, .int (iN (zi)))] [] (78, 76) (am_row zh 35 (zCq (zh.1 35) (zh.1 2) (0 : Int).toNat (0 : Int).toNat (zi : Int).toNat)) (78, 76) zQ := by
  obtain ⟨zd, rfl⟩ : ∃ y_e, zd = y_e + 1 := ⟨zd - 1, by omega⟩
  intro z_n
  induction z_n with
  | zero => intro zi q_i q_m; omega
  | succ z_n z_ih =>
    intro zi q_i q_m
    refine wp_run (k := 2) (pc1 := 5) (l1 := [(0, .ref 34), (1, .ref 1), (2, .int (iN (zi)))]) (st1 := [.int (iN (98)), .int (iN (zi))]) (kr1 := (78, 76)) (h1 := am_row zh 35 (zCq (zh.1 35) (zh.1 2) (0 : Int).toNat (0 : Int).toNat (zi : Int).toNat)) rfl ?_
    refine wp_ge (a := zi) (b := 98) rfl (by omega) (by omega) (fun b_5 => ?_) (fun b_5 => ?_)
    · rw [show zi = 98 by omega]
      exact zk
    · refine wp_run (k := 6) (pc1 := 18) (l1 := [(0, .ref 34), (1, .ref 1), (2, .int (iN (zi)))]) (st1 := [.int (iN (zi)), .ref 2, .int (iN (zi)), .ref 35]) (kr1 := (78, 76)) (h1 := am_row zh 35 (zCq (zh.1 35) (zh.1 2) (0 : Int).toNat (0 : Int).toNat (zi : Int).toNat)) rfl ?_
      refine wp_call (md1 := am_m_Lp_at) (As := [.ref 2, .int (iN (zi))]) (rest := [.int (iN (zi)), .ref 35]) (kr1 := (78, 76)) rfl (jt_at _ (by omega) (zf := (am_row zh 35 (zCq (zh.1 35) (zh.1 2) (0 : Int).toNat (0 : Int).toNat (zi : Int).toNat)).1 2) (zn := 98) (zi := zi) (zv := zh.1 2 (0 + zi).toNat) rfl rfl (by decide) (by omega) (by omega) ((congrFun (am_row_n _ _ _ (by decide)) _).trans (congrArg (zh.1 2) (show (zi : Int).toNat = (0 + zi).toNat by omega)))) ?_
      rintro _ _ ⟨rfl, rfl⟩
      refine wp_call (md1 := am_m_Lp_lay) (As := [.ref 35, .int (iN (zi)), .int (zh.1 2 (0 + zi).toNat)]) (rest := []) (kr1 := (78, 76)) rfl (jt_lay _ (by omega) (zn := 98) (zi := zi) (zv := zh.1 2 (0 + zi).toNat) (by decide) (by decide) rfl rfl rfl (by decide) (by omega) (by omega)) ?_
      rintro _ _ ⟨rfl, rfl⟩
      refine wp_run (k := 2) (pc1 := 2) (l1 := [(0, .ref 34), (1, .ref 1), (2, .int (iN ((zi) + 1)))]) (st1 := []) (kr1 := (78, 76)) (h1 := am_wr (am_row zh 35 (zCq (zh.1 35) (zh.1 2) (0 : Int).toNat (0 : Int).toNat (zi : Int).toNat)) 35 (zi : Int).toNat (zh.1 2 (0 + zi).toNat)) (Eq.trans (b := (some (2, [(0, .ref 34), (1, .ref 1), (2, .int ((iN (zi)) + iN (1)))], [], (78, 76), am_wr (am_row zh 35 (zCq (zh.1 35) (zh.1 2) (0 : Int).toNat (0 : Int).toNat (zi : Int).toNat)) 35 (zi : Int).toNat (zh.1 2 (0 + zi).toNat)) : Option am_C)) rfl (by simp only [Int32.ofInt_add, Int32.ofInt_sub, Int32.ofInt_mul, Int32.ofInt_neg])) ?_
      rw [zCq_w zh 35 (zh.1 35) (zh.1 2) (0) (0) zi (by omega) (by omega) (by omega) (by omega) rfl]
      exact z_ih (zi + 1) (by omega) (by omega)
set_option maxRecDepth 20000 in
set_option maxHeartbeats 4000000 in
theorem jt_like_34_1 (zd : Nat) (q_d : 1 ≤ zd) {zh : am_H} {zn zs : Int} (q_n : zh.1 1 1 = iN zn) (q_s : zh.1 34 2 = iN zs) : am_wp zd am_m_Numbers_becomeLike 0 [(0, .ref 34), (1, .ref 1)] [] (78, 76) zh (78, 76) (fun rv h' => rv = none ∧ am_row (am_row zh 35 (zCq (zh.1 35) (zh.1 2) 0 0 98)) 34 (zUp (zUp (zh.1 34) 1 (iN zn)) 2 (iN (zs + 1))) = h') := by
  obtain ⟨zd, rfl⟩ : ∃ y_e, zd = y_e + 1 := ⟨zd - 1, by omega⟩
  refine wp_run (k := 2) (pc1 := 2) (l1 := [(0, .ref 34), (1, .ref 1), (2, .int (iN (0)))]) (st1 := []) (kr1 := (78, 76)) (h1 := zh) rfl ?_
  refine Eq.mpr (congrArg (fun y_h => am_wp _ _ _ _ _ _ y_h _ _) (show zh = am_row zh 35 (zCq (zh.1 35) (zh.1 2) (0 : Int).toNat (0 : Int).toNat (0 : Int).toNat) from by rw [show (0 : Int).toNat = 0 from rfl, zCq_0, am_row_id])) ?_
  refine jl_like_34_1 _ (by omega)  ?_ 99 0 (by omega) (by omega)
  refine wp_run (k := 3) (pc1 := 35) (l1 := [(0, .ref 34), (1, .ref 1), (2, .int (iN (98)))]) (st1 := [.int (iN (zn)), .ref 34]) (kr1 := (78, 76)) (h1 := am_row zh 35 (zCq (zh.1 35) (zh.1 2) (0 : Int).toNat (0 : Int).toNat (98 : Int).toNat)) (Eq.trans (b := (some (35, [(0, .ref 34), (1, .ref 1), (2, .int (iN (98)))], [.int ((am_row zh 35 (zCq (zh.1 35) (zh.1 2) (0 : Int).toNat (0 : Int).toNat (98 : Int).toNat)).1 1 1), .ref 34], (78, 76), am_row zh 35 (zCq (zh.1 35) (zh.1 2) (0 : Int).toNat (0 : Int).toNat (98 : Int).toNat)) : Option am_C)) rfl (by simp only [(show (am_row zh 35 (zCq (zh.1 35) (zh.1 2) (0 : Int).toNat (0 : Int).toNat (98 : Int).toNat)).1 1 1 = iN zn from (congrFun (am_row_n _ _ _ (by decide)) 1).trans q_n), Int32.ofInt_add, Int32.ofInt_sub, Int32.ofInt_mul, Int32.ofInt_neg])) ?_
  refine wp_run (k := 6) (pc1 := 45) (l1 := [(0, .ref 34), (1, .ref 1), (2, .int (iN (98)))]) (st1 := [.int (iN ((zs) + (1))), .ref 34]) (kr1 := (78, 76)) (h1 := am_wr (am_row zh 35 (zCq (zh.1 35) (zh.1 2) (0 : Int).toNat (0 : Int).toNat (98 : Int).toNat)) 34 1 (iN (zn))) (Eq.trans (b := (some (45, [(0, .ref 34), (1, .ref 1), (2, .int (iN (98)))], [.int (((am_wr (am_row zh 35 (zCq (zh.1 35) (zh.1 2) (0 : Int).toNat (0 : Int).toNat (98 : Int).toNat)) 34 1 (iN (zn))).1 34 2) + (iN (1))), .ref 34], (78, 76), am_wr (am_row zh 35 (zCq (zh.1 35) (zh.1 2) (0 : Int).toNat (0 : Int).toNat (98 : Int).toNat)) 34 1 (iN (zn))) : Option am_C)) rfl (by simp only [(show (am_wr (am_row zh 35 (zCq (zh.1 35) (zh.1 2) (0 : Int).toNat (0 : Int).toNat (98 : Int).toNat)) 34 1 (iN (zn))).1 34 2 = iN zs from by rw [am_wr_row, am_row_s, zUp_n _ _ _ (by decide), am_row_n _ _ _ (by decide)]; exact q_s)]; try simp only [Int32.ofInt_add, Int32.ofInt_sub, Int32.ofInt_mul, Int32.ofInt_neg])) ?_
  refine wp_run (k := 1) (pc1 := 48) (l1 := [(0, .ref 34), (1, .ref 1), (2, .int (iN (98)))]) (st1 := []) (kr1 := (78, 76)) (h1 := am_wr (am_wr (am_row zh 35 (zCq (zh.1 35) (zh.1 2) (0 : Int).toNat (0 : Int).toNat (98 : Int).toNat)) 34 1 (iN (zn))) 34 2 (iN ((zs) + (1)))) rfl ?_
  refine wp_ret (rv := none) rfl ?_
  exact ⟨rfl, by rw [am_wr_row _ 34 1, am_row_n _ _ _ (by decide), am_wr_row2]; rfl⟩
set_option maxRecDepth 20000 in
set_option maxHeartbeats 4000000 in
theorem jl_like_51_1 (zd : Nat) (q_d : 1 ≤ zd) {zh : am_H}  {zQ : Option Value → am_H → Prop} (zk : am_wp zd am_m_Numbers_becomeLike 30 [(0, .ref 51), (1, .ref 1), (2, .int (iN (98)))] [] (78, 76) (am_row zh 52 (zCq (zh.1 52) (zh.1 2) (0 : Int).toNat (0 : Int).toNat (98 : Int).toNat)) (78, 76) zQ) : ∀ (z_n : Nat) (zi : Int) (q_i : 0 ≤ zi ∧ zi ≤ 98), 98 - zi < (z_n : Int) → am_wp zd am_m_Numbers_becomeLike 2 [(0, .ref 51), (1, .ref 1), (2, .int (iN (zi)))] [] (78, 76) (am_row zh 52 (zCq (zh.1 52) (zh.1 2) (0 : Int).toNat (0 : Int).toNat (zi : Int).toNat)) (78, 76) zQ := by
  obtain ⟨zd, rfl⟩ : ∃ y_e, zd = y_e + 1 := ⟨zd - 1, by omega⟩
  intro z_n
  induction z_n with
  | zero => intro zi q_i q_m; omega
  | succ z_n z_ih =>
    intro zi q_i q_m
    refine wp_run (k := 2) (pc1 := 5) (l1 := [(0, .ref 51), (1, .ref 1), (2, .int (iN (zi)))]) (st1 := [.int (iN (98)), .int (iN (zi))]) (kr1 := (78, 76)) (h1 := am_row zh 52 (zCq (zh.1 52) (zh.1 2) (0 : Int).toNat (0 : Int).toNat (zi : Int).toNat)) rfl ?_
    refine wp_ge (a := zi) (b := 98) rfl (by omega) (by omega) (fun b_5 => ?_) (fun b_5 => ?_)
    · rw [show zi = 98 by omega]
      exact zk
    · refine wp_run (k := 6) (pc1 := 18) (l1 := [(0, .ref 51), (1, .ref 1), (2, .int (iN (zi)))]) (st1 := [.int (iN (zi)), .ref 2, .int (iN (zi)), .ref 52]) (kr1 := (78, 76)) (h1 := am_row zh 52 (zCq (zh.1 52) (zh.1 2) (0 : Int).toNat (0 : Int).toNat (zi : Int).toNat)) rfl ?_
      refine wp_call (md1 := am_m_Lp_at) (As := [.ref 2, .int (iN (zi))]) (rest := [.int (iN (zi)), .ref 52]) (kr1 := (78, 76)) rfl (jt_at _ (by omega) (zf := (am_row zh 52 (zCq (zh.1 52) (zh.1 2) (0 : Int).toNat (0 : Int).toNat (zi : Int).toNat)).1 2) (zn := 98) (zi := zi) (zv := zh.1 2 (0 + zi).toNat) rfl rfl (by decide) (by omega) (by omega) ((congrFun (am_row_n _ _ _ (by decide)) _).trans (congrArg (zh.1 2) (show (zi : Int).toNat = (0 + zi).toNat by omega)))) ?_
      rintro _ _ ⟨rfl, rfl⟩
      refine wp_call (md1 := am_m_Lp_lay) (As := [.ref 52, .int (iN (zi)), .int (zh.1 2 (0 + zi).toNat)]) (rest := []) (kr1 := (78, 76)) rfl (jt_lay _ (by omega) (zn := 98) (zi := zi) (zv := zh.1 2 (0 + zi).toNat) (by decide) (by decide) rfl rfl rfl (by decide) (by omega) (by omega)) ?_
      rintro _ _ ⟨rfl, rfl⟩
      refine wp_run (k := 2) (pc1 := 2) (l1 := [(0, .ref 51), (1, .ref 1), (2, .int (iN ((zi) + 1)))]) (st1 := []) (kr1 := (78, 76)) (h1 := am_wr (am_row zh 52 (zCq (zh.1 52) (zh.1 2) (0 : Int).toNat (0 : Int).toNat (zi : Int).toNat)) 52 (zi : Int).toNat (zh.1 2 (0 + zi).toNat)) (Eq.trans (b := (some (2, [(0, .ref 51), (1, .ref 1), (2, .int ((iN (zi)) + iN (1)))], [], (78, 76), am_wr (am_row zh 52 (zCq (zh.1 52) (zh.1 2) (0 : Int).toNat (0 : Int).toNat (zi : Int).toNat)) 52 (zi : Int).toNat (zh.1 2 (0 + zi).toNat)) : Option am_C)) rfl (by simp only [Int32.ofInt_add, Int32.ofInt_sub, Int32.ofInt_mul, Int32.ofInt_neg])) ?_
      rw [zCq_w zh 52 (zh.1 52) (zh.1 2) (0) (0) zi (by omega) (by omega) (by omega) (by omega) rfl]
      exact z_ih (zi + 1) (by omega) (by omega)
set_option maxRecDepth 20000 in
set_option maxHeartbeats 4000000 in
theorem jt_like_51_1 (zd : Nat) (q_d : 1 ≤ zd) {zh : am_H} {zn zs : Int} (q_n : zh.1 1 1 = iN zn) (q_s : zh.1 51 2 = iN zs) : am_wp zd am_m_Numbers_becomeLike 0 [(0, .ref 51), (1, .ref 1)] [] (78, 76) zh (78, 76) (fun rv h' => rv = none ∧ am_row (am_row zh 52 (zCq (zh.1 52) (zh.1 2) 0 0 98)) 51 (zUp (zUp (zh.1 51) 1 (iN zn)) 2 (iN (zs + 1))) = h') := by
  obtain ⟨zd, rfl⟩ : ∃ y_e, zd = y_e + 1 := ⟨zd - 1, by omega⟩
  refine wp_run (k := 2) (pc1 := 2) (l1 := [(0, .ref 51), (1, .ref 1), (2, .int (iN (0)))]) (st1 := []) (kr1 := (78, 76)) (h1 := zh) rfl ?_
  refine Eq.mpr (congrArg (fun y_h => am_wp _ _ _ _ _ _ y_h _ _) (show zh = am_row zh 52 (zCq (zh.1 52) (zh.1 2) (0 : Int).toNat (0 : Int).toNat (0 : Int).toNat) from by rw [show (0 : Int).toNat = 0 from rfl, zCq_0, am_row_id])) ?_
  refine jl_like_51_1 _ (by omega)  ?_ 99 0 (by omega) (by omega)
  refine wp_run (k := 3) (pc1 := 35) (l1 := [(0, .ref 51), (1, .ref 1), (2, .int (iN (98)))]) (st1 := [.int (iN (zn)), .ref 51]) (kr1 := (78, 76)) (h1 := am_row zh 52 (zCq (zh.1 52) (zh.1 2) (0 : Int).toNat (0 : Int).toNat (98 : Int).toNat)) (Eq.trans (b := (some (35, [(0, .ref 51), (1, .ref 1), (2, .int (iN (98)))], [.int ((am_row zh 52 (zCq (zh.1 52) (zh.1 2) (0 : Int).toNat (0 : Int).toNat (98 : Int).toNat)).1 1 1), .ref 51], (78, 76), am_row zh 52 (zCq (zh.1 52) (zh.1 2) (0 : Int).toNat (0 : Int).toNat (98 : Int).toNat)) : Option am_C)) rfl (by simp only [(show (am_row zh 52 (zCq (zh.1 52) (zh.1 2) (0 : Int).toNat (0 : Int).toNat (98 : Int).toNat)).1 1 1 = iN zn from (congrFun (am_row_n _ _ _ (by decide)) 1).trans q_n), Int32.ofInt_add, Int32.ofInt_sub, Int32.ofInt_mul, Int32.ofInt_neg])) ?_
  refine wp_run (k := 6) (pc1 := 45) (l1 := [(0, .ref 51), (1, .ref 1), (2, .int (iN (98)))]) (st1 := [.int (iN ((zs) + (1))), .ref 51]) (kr1 := (78, 76)) (h1 := am_wr (am_row zh 52 (zCq (zh.1 52) (zh.1 2) (0 : Int).toNat (0 : Int).toNat (98 : Int).toNat)) 51 1 (iN (zn))) (Eq.trans (b := (some (45, [(0, .ref 51), (1, .ref 1), (2, .int (iN (98)))], [.int (((am_wr (am_row zh 52 (zCq (zh.1 52) (zh.1 2) (0 : Int).toNat (0 : Int).toNat (98 : Int).toNat)) 51 1 (iN (zn))).1 51 2) + (iN (1))), .ref 51], (78, 76), am_wr (am_row zh 52 (zCq (zh.1 52) (zh.1 2) (0 : Int).toNat (0 : Int).toNat (98 : Int).toNat)) 51 1 (iN (zn))) : Option am_C)) rfl (by simp only [(show (am_wr (am_row zh 52 (zCq (zh.1 52) (zh.1 2) (0 : Int).toNat (0 : Int).toNat (98 : Int).toNat)) 51 1 (iN (zn))).1 51 2 = iN zs from by rw [am_wr_row, am_row_s, zUp_n _ _ _ (by decide), am_row_n _ _ _ (by decide)]; exact q_s)]; try simp only [Int32.ofInt_add, Int32.ofInt_sub, Int32.ofInt_mul, Int32.ofInt_neg])) ?_
  refine wp_run (k := 1) (pc1 := 48) (l1 := [(0, .ref 51), (1, .ref 1), (2, .int (iN (98)))]) (st1 := []) (kr1 := (78, 76)) (h1 := am_wr (am_wr (am_row zh 52 (zCq (zh.1 52) (zh.1 2) (0 : Int).toNat (0 : Int).toNat (98 : Int).toNat)) 51 1 (iN (zn))) 51 2 (iN ((zs) + (1)))) rfl ?_
  refine wp_ret (rv := none) rfl ?_
  exact ⟨rfl, by rw [am_wr_row _ 51 1, am_row_n _ _ _ (by decide), am_wr_row2]; rfl⟩
set_option maxRecDepth 20000 in
set_option maxHeartbeats 4000000 in
theorem jl_like_1_51 (zd : Nat) (q_d : 1 ≤ zd) {zh : am_H}  {zQ : Option Value → am_H → Prop} (zk : am_wp zd am_m_Numbers_becomeLike 30 [(0, .ref 1), (1, .ref 51), (2, .int (iN (98)))] [] (78, 76) (am_row zh 2 (zCq (zh.1 2) (zh.1 52) (0 : Int).toNat (0 : Int).toNat (98 : Int).toNat)) (78, 76) zQ) : ∀ (z_n : Nat) (zi : Int) (q_i : 0 ≤ zi ∧ zi ≤ 98), 98 - zi < (z_n : Int) → am_wp zd am_m_Numbers_becomeLike 2 [(0, .ref 1), (1, .ref 51), (2, .int (iN (zi)))] [] (78, 76) (am_row zh 2 (zCq (zh.1 2) (zh.1 52) (0 : Int).toNat (0 : Int).toNat (zi : Int).toNat)) (78, 76) zQ := by
  obtain ⟨zd, rfl⟩ : ∃ y_e, zd = y_e + 1 := ⟨zd - 1, by omega⟩
  intro z_n
  induction z_n with
  | zero => intro zi q_i q_m; omega
  | succ z_n z_ih =>
    intro zi q_i q_m
    refine wp_run (k := 2) (pc1 := 5) (l1 := [(0, .ref 1), (1, .ref 51), (2, .int (iN (zi)))]) (st1 := [.int (iN (98)), .int (iN (zi))]) (kr1 := (78, 76)) (h1 := am_row zh 2 (zCq (zh.1 2) (zh.1 52) (0 : Int).toNat (0 : Int).toNat (zi : Int).toNat)) rfl ?_
    refine wp_ge (a := zi) (b := 98) rfl (by omega) (by omega) (fun b_5 => ?_) (fun b_5 => ?_)
    · rw [show zi = 98 by omega]
      exact zk
    · refine wp_run (k := 6) (pc1 := 18) (l1 := [(0, .ref 1), (1, .ref 51), (2, .int (iN (zi)))]) (st1 := [.int (iN (zi)), .ref 52, .int (iN (zi)), .ref 2]) (kr1 := (78, 76)) (h1 := am_row zh 2 (zCq (zh.1 2) (zh.1 52) (0 : Int).toNat (0 : Int).toNat (zi : Int).toNat)) rfl ?_
      refine wp_call (md1 := am_m_Lp_at) (As := [.ref 52, .int (iN (zi))]) (rest := [.int (iN (zi)), .ref 2]) (kr1 := (78, 76)) rfl (jt_at _ (by omega) (zf := (am_row zh 2 (zCq (zh.1 2) (zh.1 52) (0 : Int).toNat (0 : Int).toNat (zi : Int).toNat)).1 52) (zn := 98) (zi := zi) (zv := zh.1 52 (0 + zi).toNat) rfl rfl (by decide) (by omega) (by omega) ((congrFun (am_row_n _ _ _ (by decide)) _).trans (congrArg (zh.1 52) (show (zi : Int).toNat = (0 + zi).toNat by omega)))) ?_
      rintro _ _ ⟨rfl, rfl⟩
      refine wp_call (md1 := am_m_Lp_lay) (As := [.ref 2, .int (iN (zi)), .int (zh.1 52 (0 + zi).toNat)]) (rest := []) (kr1 := (78, 76)) rfl (jt_lay _ (by omega) (zn := 98) (zi := zi) (zv := zh.1 52 (0 + zi).toNat) (by decide) (by decide) rfl rfl rfl (by decide) (by omega) (by omega)) ?_
      rintro _ _ ⟨rfl, rfl⟩
      refine wp_run (k := 2) (pc1 := 2) (l1 := [(0, .ref 1), (1, .ref 51), (2, .int (iN ((zi) + 1)))]) (st1 := []) (kr1 := (78, 76)) (h1 := am_wr (am_row zh 2 (zCq (zh.1 2) (zh.1 52) (0 : Int).toNat (0 : Int).toNat (zi : Int).toNat)) 2 (zi : Int).toNat (zh.1 52 (0 + zi).toNat)) (Eq.trans (b := (some (2, [(0, .ref 1), (1, .ref 51), (2, .int ((iN (zi)) + iN (1)))], [], (78, 76), am_wr (am_row zh 2 (zCq (zh.1 2) (zh.1 52) (0 : Int).toNat (0 : Int).toNat (zi : Int).toNat)) 2 (zi : Int).toNat (zh.1 52 (0 + zi).toNat)) : Option am_C)) rfl (by simp only [Int32.ofInt_add, Int32.ofInt_sub, Int32.ofInt_mul, Int32.ofInt_neg])) ?_
      rw [zCq_w zh 2 (zh.1 2) (zh.1 52) (0) (0) zi (by omega) (by omega) (by omega) (by omega) rfl]
      exact z_ih (zi + 1) (by omega) (by omega)
set_option maxRecDepth 20000 in
set_option maxHeartbeats 4000000 in
theorem jt_like_1_51 (zd : Nat) (q_d : 1 ≤ zd) {zh : am_H} {zn zs : Int} (q_n : zh.1 51 1 = iN zn) (q_s : zh.1 1 2 = iN zs) : am_wp zd am_m_Numbers_becomeLike 0 [(0, .ref 1), (1, .ref 51)] [] (78, 76) zh (78, 76) (fun rv h' => rv = none ∧ am_row (am_row zh 2 (zCq (zh.1 2) (zh.1 52) 0 0 98)) 1 (zUp (zUp (zh.1 1) 1 (iN zn)) 2 (iN (zs + 1))) = h') := by
  obtain ⟨zd, rfl⟩ : ∃ y_e, zd = y_e + 1 := ⟨zd - 1, by omega⟩
  refine wp_run (k := 2) (pc1 := 2) (l1 := [(0, .ref 1), (1, .ref 51), (2, .int (iN (0)))]) (st1 := []) (kr1 := (78, 76)) (h1 := zh) rfl ?_
  refine Eq.mpr (congrArg (fun y_h => am_wp _ _ _ _ _ _ y_h _ _) (show zh = am_row zh 2 (zCq (zh.1 2) (zh.1 52) (0 : Int).toNat (0 : Int).toNat (0 : Int).toNat) from by rw [show (0 : Int).toNat = 0 from rfl, zCq_0, am_row_id])) ?_
  refine jl_like_1_51 _ (by omega)  ?_ 99 0 (by omega) (by omega)
  refine wp_run (k := 3) (pc1 := 35) (l1 := [(0, .ref 1), (1, .ref 51), (2, .int (iN (98)))]) (st1 := [.int (iN (zn)), .ref 1]) (kr1 := (78, 76)) (h1 := am_row zh 2 (zCq (zh.1 2) (zh.1 52) (0 : Int).toNat (0 : Int).toNat (98 : Int).toNat)) (Eq.trans (b := (some (35, [(0, .ref 1), (1, .ref 51), (2, .int (iN (98)))], [.int ((am_row zh 2 (zCq (zh.1 2) (zh.1 52) (0 : Int).toNat (0 : Int).toNat (98 : Int).toNat)).1 51 1), .ref 1], (78, 76), am_row zh 2 (zCq (zh.1 2) (zh.1 52) (0 : Int).toNat (0 : Int).toNat (98 : Int).toNat)) : Option am_C)) rfl (by simp only [(show (am_row zh 2 (zCq (zh.1 2) (zh.1 52) (0 : Int).toNat (0 : Int).toNat (98 : Int).toNat)).1 51 1 = iN zn from (congrFun (am_row_n _ _ _ (by decide)) 1).trans q_n), Int32.ofInt_add, Int32.ofInt_sub, Int32.ofInt_mul, Int32.ofInt_neg])) ?_
  refine wp_run (k := 6) (pc1 := 45) (l1 := [(0, .ref 1), (1, .ref 51), (2, .int (iN (98)))]) (st1 := [.int (iN ((zs) + (1))), .ref 1]) (kr1 := (78, 76)) (h1 := am_wr (am_row zh 2 (zCq (zh.1 2) (zh.1 52) (0 : Int).toNat (0 : Int).toNat (98 : Int).toNat)) 1 1 (iN (zn))) (Eq.trans (b := (some (45, [(0, .ref 1), (1, .ref 51), (2, .int (iN (98)))], [.int (((am_wr (am_row zh 2 (zCq (zh.1 2) (zh.1 52) (0 : Int).toNat (0 : Int).toNat (98 : Int).toNat)) 1 1 (iN (zn))).1 1 2) + (iN (1))), .ref 1], (78, 76), am_wr (am_row zh 2 (zCq (zh.1 2) (zh.1 52) (0 : Int).toNat (0 : Int).toNat (98 : Int).toNat)) 1 1 (iN (zn))) : Option am_C)) rfl (by simp only [(show (am_wr (am_row zh 2 (zCq (zh.1 2) (zh.1 52) (0 : Int).toNat (0 : Int).toNat (98 : Int).toNat)) 1 1 (iN (zn))).1 1 2 = iN zs from by rw [am_wr_row, am_row_s, zUp_n _ _ _ (by decide), am_row_n _ _ _ (by decide)]; exact q_s)]; try simp only [Int32.ofInt_add, Int32.ofInt_sub, Int32.ofInt_mul, Int32.ofInt_neg])) ?_
  refine wp_run (k := 1) (pc1 := 48) (l1 := [(0, .ref 1), (1, .ref 51), (2, .int (iN (98)))]) (st1 := []) (kr1 := (78, 76)) (h1 := am_wr (am_wr (am_row zh 2 (zCq (zh.1 2) (zh.1 52) (0 : Int).toNat (0 : Int).toNat (98 : Int).toNat)) 1 1 (iN (zn))) 1 2 (iN ((zs) + (1)))) rfl ?_
  refine wp_ret (rv := none) rfl ?_
  exact ⟨rfl, by rw [am_wr_row _ 1 1, am_row_n _ _ _ (by decide), am_wr_row2]; rfl⟩
