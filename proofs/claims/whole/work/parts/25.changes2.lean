/-! THE CLASS's Changes -/
set_option maxRecDepth 20000 in
set_option maxHeartbeats 4000000 in
theorem jt_cbegin (zd : Nat) (q_d : 0 ≤ zd) {zh : am_H}  : am_wp zd am_m_Changes_begin 0 [(0, .ref 25)] [] (78, 76) zh (78, 76) (fun rv h' => rv = none ∧ am_row zh 25 (zUp (zUp (zh.1 25) 1 (iN 0)) 2 (iN 0)) = h') := by
  obtain ⟨zd, rfl⟩ : ∃ y_e, zd = y_e + 0 := ⟨zd - 0, by omega⟩
  refine wp_run (k := 6) (pc1 := 10) (l1 := [(0, .ref 25)]) (st1 := []) (kr1 := (78, 76)) (h1 := am_wr (am_wr zh 25 1 (iN (0))) 25 2 (iN (0))) rfl ?_
  refine wp_ret (rv := none) rfl ?_
  exact ⟨rfl, by rw [am_wr_row _ 25 1, am_wr_row2]⟩
set_option maxRecDepth 20000 in
set_option maxHeartbeats 4000000 in
theorem jt_cbehind (zd : Nat) (q_d : 0 ≤ zd) {zh : am_H} {zu : Int} (q_u : zh.1 25 1 = iN zu) : am_wp zd am_m_Changes_behind 0 [(0, .ref 25)] [] (78, 76) zh (78, 76) (fun rv h' => rv = some (.int (iN zu)) ∧ zh = h') := by
  obtain ⟨zd, rfl⟩ : ∃ y_e, zd = y_e + 0 := ⟨zd - 0, by omega⟩
  refine wp_run (k := 2) (pc1 := 4) (l1 := [(0, .ref 25)]) (st1 := [.int (iN (zu))]) (kr1 := (78, 76)) (h1 := zh) (Eq.trans (b := (some (4, [(0, .ref 25)], [.int (zh.1 25 1)], (78, 76), zh) : Option am_C)) rfl (by simp only [q_u, Int32.ofInt_add, Int32.ofInt_sub, Int32.ofInt_mul, Int32.ofInt_neg])) ?_
  refine wp_ret (rv := some (.int (iN (zu)))) rfl ?_
  exact ⟨rfl, rfl⟩
set_option maxRecDepth 20000 in
set_option maxHeartbeats 4000000 in
theorem jt_cahead (zd : Nat) (q_d : 0 ≤ zd) {zh : am_H} {zu zv : Int} (q_u : zh.1 25 1 = iN zu) (q_v : zh.1 25 2 = iN zv) : am_wp zd am_m_Changes_ahead 0 [(0, .ref 25)] [] (78, 76) zh (78, 76) (fun rv h' => rv = some (.int (iN (zv - zu))) ∧ zh = h') := by
  obtain ⟨zd, rfl⟩ : ∃ y_e, zd = y_e + 0 := ⟨zd - 0, by omega⟩
  refine wp_run (k := 5) (pc1 := 9) (l1 := [(0, .ref 25)]) (st1 := [.int (iN ((zv) - (zu)))]) (kr1 := (78, 76)) (h1 := zh) (Eq.trans (b := (some (9, [(0, .ref 25)], [.int ((zh.1 25 2) - (zh.1 25 1))], (78, 76), zh) : Option am_C)) rfl (by simp only [q_v, q_u, Int32.ofInt_add, Int32.ofInt_sub, Int32.ofInt_mul, Int32.ofInt_neg])) ?_
  refine wp_ret (rv := some (.int (iN ((zv) - (zu))))) rfl ?_
  exact ⟨rfl, rfl⟩
set_option maxRecDepth 20000 in
set_option maxHeartbeats 4000000 in
theorem jl_cforget (zd : Nat) (q_d : 0 ≤ zd) {zh : am_H}   {zQ : Option Value → am_H → Prop} (zk : am_wp zd am_m_Changes_forgetFirst 35 [(0, .ref 25), (1, .int (iN (1176)))] [] (78, 76) (am_row zh 26 (zCq (zh.1 26) (zh.1 26) (0 : Int).toNat (98 : Int).toNat (1176 : Int).toNat)) (78, 76) zQ) : ∀ (z_n : Nat) (zi : Int) (q_i : 0 ≤ zi ∧ zi ≤ 1176), 1176 - zi < (z_n : Int) → am_wp zd am_m_Changes_forgetFirst 2 [(0, .ref 25), (1, .int (iN (zi)))] [] (78, 76) (am_row zh 26 (zCq (zh.1 26) (zh.1 26) (0 : Int).toNat (98 : Int).toNat (zi : Int).toNat)) (78, 76) zQ := by
  obtain ⟨zd, rfl⟩ : ∃ y_e, zd = y_e + 0 := ⟨zd - 0, by omega⟩
  intro z_n
  induction z_n with
  | zero => intro zi q_i q_m; omega
  | succ z_n z_ih =>
    intro zi q_i q_m
    refine wp_run (k := 5) (pc1 := 10) (l1 := [(0, .ref 25), (1, .int (iN (zi)))]) (st1 := [.ref 26, .int (iN ((zi) + (98)))]) (kr1 := (78, 76)) (h1 := am_row zh 26 (zCq (zh.1 26) (zh.1 26) (0 : Int).toNat (98 : Int).toNat (zi : Int).toNat)) (Eq.trans (b := (some (10, [(0, .ref 25), (1, .int (iN (zi)))], [.ref 26, .int ((iN (zi)) + (iN (98)))], (78, 76), am_row zh 26 (zCq (zh.1 26) (zh.1 26) (0 : Int).toNat (98 : Int).toNat (zi : Int).toNat)) : Option am_C)) rfl (by simp only [Int32.ofInt_add, Int32.ofInt_sub, Int32.ofInt_mul, Int32.ofInt_neg])) ?_
    refine wp_alen (v := 1274) rfl rfl ?_
    refine wp_ge (a := (zi) + (98)) (b := 1274) rfl (by omega) (by omega) (fun b_11 => ?_) (fun b_11 => ?_)
    · rw [show zi = 1176 by omega]
      exact zk
    · refine wp_run (k := 8) (pc1 := 27) (l1 := [(0, .ref 25), (1, .int (iN (zi)))]) (st1 := [.int (iN ((zi) + (98))), .ref 26, .int (iN (zi)), .ref 26]) (kr1 := (78, 76)) (h1 := am_row zh 26 (zCq (zh.1 26) (zh.1 26) (0 : Int).toNat (98 : Int).toNat (zi : Int).toNat)) (Eq.trans (b := (some (27, [(0, .ref 25), (1, .int (iN (zi)))], [.int ((iN (zi)) + (iN (98))), .ref 26, .int (iN (zi)), .ref 26], (78, 76), am_row zh 26 (zCq (zh.1 26) (zh.1 26) (0 : Int).toNat (98 : Int).toNat (zi : Int).toNat)) : Option am_C)) rfl (by simp only [Int32.ofInt_add, Int32.ofInt_sub, Int32.ofInt_mul, Int32.ofInt_neg])) ?_
      refine wp_iald (f := (am_row zh 26 (zCq (zh.1 26) (zh.1 26) (0 : Int).toNat (98 : Int).toNat (zi : Int).toNat)).1 26) (z := (zi) + (98)) (j := ((zi) + (98)).toNat) (n := 1274) (v := zh.1 26 (98 + zi).toNat) rfl rfl (by omega) (by omega) (by decide) (((congrFun (am_row_s _ _ _) _).trans (zCq_o _ _ (by omega))).trans (congrArg (zh.1 26) (by omega))) ?_
      refine wp_iast (z := zi) (j := (zi).toNat) (n := 1274) rfl (by decide) (by decide) rfl rfl (by omega) (by omega) (by decide) ?_
      refine wp_run (k := 2) (pc1 := 2) (l1 := [(0, .ref 25), (1, .int (iN ((zi) + 1)))]) (st1 := []) (kr1 := (78, 76)) (h1 := am_wr (am_row zh 26 (zCq (zh.1 26) (zh.1 26) (0 : Int).toNat (98 : Int).toNat (zi : Int).toNat)) 26 ((zi).toNat) (zh.1 26 (98 + zi).toNat)) (Eq.trans (b := (some (2, [(0, .ref 25), (1, .int ((iN (zi)) + iN (1)))], [], (78, 76), am_wr (am_row zh 26 (zCq (zh.1 26) (zh.1 26) (0 : Int).toNat (98 : Int).toNat (zi : Int).toNat)) 26 ((zi).toNat) (zh.1 26 (98 + zi).toNat)) : Option am_C)) rfl (by simp only [Int32.ofInt_add, Int32.ofInt_sub, Int32.ofInt_mul, Int32.ofInt_neg])) ?_
      rw [zCq_w zh 26 (zh.1 26) (zh.1 26) (0) (98) zi (by omega) (by omega) (by omega) (by omega) rfl]
      exact z_ih (zi + 1) (by omega) (by omega)
set_option maxRecDepth 20000 in
set_option maxHeartbeats 4000000 in
theorem jt_cforget (zd : Nat) (q_d : 0 ≤ zd) {zh : am_H} {zu : Int} (q_u : zh.1 25 1 = iN zu) : am_wp zd am_m_Changes_forgetFirst 0 [(0, .ref 25)] [] (78, 76) zh (78, 76) (fun rv h' => rv = none ∧ am_row (am_row zh 26 (zCq (zh.1 26) (zh.1 26) 0 98 1176)) 25 (zUp (zh.1 25) 1 (iN (zu - 1))) = h') := by
  obtain ⟨zd, rfl⟩ : ∃ y_e, zd = y_e + 0 := ⟨zd - 0, by omega⟩
  refine wp_run (k := 2) (pc1 := 2) (l1 := [(0, .ref 25), (1, .int (iN (0)))]) (st1 := []) (kr1 := (78, 76)) (h1 := zh) rfl ?_
  refine Eq.mpr (congrArg (fun y_h => am_wp _ _ _ _ _ _ y_h _ _) (show zh = am_row zh 26 (zCq (zh.1 26) (zh.1 26) (0 : Int).toNat (98 : Int).toNat (0 : Int).toNat) from by rw [show (0 : Int).toNat = 0 from rfl, zCq_0, am_row_id])) ?_
  refine jl_cforget (zh := zh) _ (by omega)  ?_ 1177 0 (by omega) (by omega)
  refine wp_run (k := 5) (pc1 := 42) (l1 := [(0, .ref 25), (1, .int (iN (1176)))]) (st1 := [.int (iN ((zu) - (1))), .ref 25]) (kr1 := (78, 76)) (h1 := am_row zh 26 (zCq (zh.1 26) (zh.1 26) (0 : Int).toNat (98 : Int).toNat (1176 : Int).toNat)) (Eq.trans (b := (some (42, [(0, .ref 25), (1, .int (iN (1176)))], [.int (((am_row zh 26 (zCq (zh.1 26) (zh.1 26) (0 : Int).toNat (98 : Int).toNat (1176 : Int).toNat)).1 25 1) - (iN (1))), .ref 25], (78, 76), am_row zh 26 (zCq (zh.1 26) (zh.1 26) (0 : Int).toNat (98 : Int).toNat (1176 : Int).toNat)) : Option am_C)) rfl (by simp only [(show (am_row zh 26 (zCq (zh.1 26) (zh.1 26) (0 : Int).toNat (98 : Int).toNat (1176 : Int).toNat)).1 25 1 = iN zu from (congrFun (am_row_n _ _ _ (by decide)) 1).trans q_u), Int32.ofInt_add, Int32.ofInt_sub, Int32.ofInt_mul, Int32.ofInt_neg])) ?_
  refine wp_run (k := 1) (pc1 := 45) (l1 := [(0, .ref 25), (1, .int (iN (1176)))]) (st1 := []) (kr1 := (78, 76)) (h1 := am_wr (am_row zh 26 (zCq (zh.1 26) (zh.1 26) (0 : Int).toNat (98 : Int).toNat (1176 : Int).toNat)) 25 1 (iN ((zu) - (1)))) rfl ?_
  refine wp_ret (rv := none) rfl ?_
  exact ⟨rfl, by rw [am_wr_row, am_row_n _ _ _ (by decide)]; rfl⟩
set_option maxRecDepth 20000 in
set_option maxHeartbeats 4000000 in
theorem jl_note13 (zd : Nat) (q_d : 2 ≤ zd) {zh : am_H} {zx : Int} (q_x : zh.1 25 1 = iN zx) (q_r : 0 ≤ zx ∧ zx ≤ 11) : am_wp zd am_m_Changes_note 13 [(0, .ref 25), (1, .ref 1)] [] (78, 76) zh (78, 76) (fun rv h' => rv = none ∧ ∃ fo, am_row (am_row zh 26 (zCq (zh.1 26) (zh.1 2) (98 * zx).toNat 0 98)) 25 fo = h' ∧ fo 1 = iN (zx + 1) ∧ fo 2 = iN (zx + 1)) := by
  obtain ⟨zd, rfl⟩ : ∃ y_e, zd = y_e + 2 := ⟨zd - 2, by omega⟩
  refine wp_run (k := 7) (pc1 := 25) (l1 := [(0, .ref 25), (1, .ref 1)]) (st1 := [.int (iN ((zx) * (98))), .ref 26, .ref 1]) (kr1 := (78, 76)) (h1 := zh) (Eq.trans (b := (some (25, [(0, .ref 25), (1, .ref 1)], [.int ((zh.1 25 1) * (iN (98))), .ref 26, .ref 1], (78, 76), zh) : Option am_C)) rfl (by simp only [q_x, Int32.ofInt_add, Int32.ofInt_sub, Int32.ofInt_mul, Int32.ofInt_neg])) ?_
  refine wp_call (md1 := am_m_Numbers_copyTo) (As := [.ref 1, .ref 26, .int (iN ((zx) * (98)))]) (rest := []) (kr1 := (78, 76)) rfl (jt_copyTo _ (by omega) (zp := (zx) * (98)) (by omega)) ?_
  rintro _ _ ⟨rfl, rfl⟩
  refine wp_run (k := 5) (pc1 := 35) (l1 := [(0, .ref 25), (1, .ref 1)]) (st1 := [.int (iN ((zx) + (1))), .ref 25]) (kr1 := (78, 76)) (h1 := am_row zh 26 (zCq (zh.1 26) (zh.1 2) ((zx) * (98) : Int).toNat 0 98)) (Eq.trans (b := (some (35, [(0, .ref 25), (1, .ref 1)], [.int (((am_row zh 26 (zCq (zh.1 26) (zh.1 2) ((zx) * (98) : Int).toNat 0 98)).1 25 1) + (iN (1))), .ref 25], (78, 76), am_row zh 26 (zCq (zh.1 26) (zh.1 2) ((zx) * (98) : Int).toNat 0 98)) : Option am_C)) rfl (by simp only [(show (am_row zh 26 (zCq (zh.1 26) (zh.1 2) ((zx) * (98) : Int).toNat 0 98)).1 25 1 = iN zx from (congrFun (am_row_n _ _ _ (by decide)) 1).trans q_x), Int32.ofInt_add, Int32.ofInt_sub, Int32.ofInt_mul, Int32.ofInt_neg])) ?_
  refine wp_run (k := 4) (pc1 := 43) (l1 := [(0, .ref 25), (1, .ref 1)]) (st1 := [.int (iN ((zx) + (1))), .ref 25]) (kr1 := (78, 76)) (h1 := am_wr (am_row zh 26 (zCq (zh.1 26) (zh.1 2) ((zx) * (98) : Int).toNat 0 98)) 25 1 (iN ((zx) + (1)))) (Eq.trans (b := (some (43, [(0, .ref 25), (1, .ref 1)], [.int ((am_wr (am_row zh 26 (zCq (zh.1 26) (zh.1 2) ((zx) * (98) : Int).toNat 0 98)) 25 1 (iN ((zx) + (1)))).1 25 1), .ref 25], (78, 76), am_wr (am_row zh 26 (zCq (zh.1 26) (zh.1 2) ((zx) * (98) : Int).toNat 0 98)) 25 1 (iN ((zx) + (1)))) : Option am_C)) rfl (by simp only [(show (am_wr (am_row zh 26 (zCq (zh.1 26) (zh.1 2) ((zx) * (98) : Int).toNat 0 98)) 25 1 (iN ((zx) + (1)))).1 25 1 = iN ((zx) + (1)) from by rw [am_wr_eq, if_pos rfl])]; try simp only [Int32.ofInt_add, Int32.ofInt_sub, Int32.ofInt_mul, Int32.ofInt_neg])) ?_
  refine wp_run (k := 1) (pc1 := 46) (l1 := [(0, .ref 25), (1, .ref 1)]) (st1 := []) (kr1 := (78, 76)) (h1 := am_wr (am_wr (am_row zh 26 (zCq (zh.1 26) (zh.1 2) ((zx) * (98) : Int).toNat 0 98)) 25 1 (iN ((zx) + (1)))) 25 2 (iN ((zx) + (1)))) rfl ?_
  refine wp_ret (rv := none) rfl ?_
  refine ⟨rfl, zUp (zUp (zh.1 25) 1 (iN (zx + 1))) 2 (iN (zx + 1)), ?_, (zUp_n _ _ _ (by decide)).trans (zUp_s _ _ _), zUp_s _ _ _⟩
  rw [am_wr_row _ 25 1, am_wr_row2, am_row_n _ 26 _ (show 25 ≠ 26 by decide)]
  rw [Int.mul_comm zx 98]; try rfl
/-- what the class's note leaves behind -/
def zNot (zh : am_H) (zu : Int) (h' : am_H) : Prop := ∃ fo, am_row (am_row zh 26 (zCq (if zu = 12 then zCq (zh.1 26) (zh.1 26) 0 98 1176 else zh.1 26) (zh.1 2) (98 * (if zu = 12 then 11 else zu) : Int).toNat 0 98)) 25 fo = h' ∧ fo 1 = iN (if zu = 12 then 12 else zu + 1) ∧ fo 2 = iN (if zu = 12 then 12 else zu + 1)
set_option maxRecDepth 20000 in
set_option maxHeartbeats 4000000 in
theorem jt_note (zd : Nat) (q_d : 2 ≤ zd) {zh : am_H} {zu : Int} (q_u : zh.1 25 1 = iN zu) (q_r : 0 ≤ zu ∧ zu ≤ 12) : am_wp zd am_m_Changes_note 0 [(0, .ref 25), (1, .ref 1)] [] (78, 76) zh (78, 76) (fun rv h' => rv = none ∧ zNot zh zu h') := by
  obtain ⟨zd, rfl⟩ : ∃ y_e, zd = y_e + 2 := ⟨zd - 2, by omega⟩
  refine wp_run (k := 3) (pc1 := 6) (l1 := [(0, .ref 25), (1, .ref 1)]) (st1 := [.int (iN (12)), .int (iN (zu))]) (kr1 := (78, 76)) (h1 := zh) (Eq.trans (b := (some (6, [(0, .ref 25), (1, .ref 1)], [.int (iN (12)), .int (zh.1 25 1)], (78, 76), zh) : Option am_C)) rfl (by simp only [q_u, Int32.ofInt_add, Int32.ofInt_sub, Int32.ofInt_mul, Int32.ofInt_neg])) ?_
  refine wp_ne (a := zu) (b := 12) rfl (by omega) (by omega) (fun b_6 => ?_) (fun b_6 => ?_)
  · refine wp_con (jl_note13 _ (by omega) q_u (by omega)) (fun rv y_h q => ?_)
    obtain ⟨q1, fo, q2, q3, q4⟩ := q
    refine ⟨q1, fo, ?_, ?_, ?_⟩
    · rw [if_neg b_6, if_neg b_6]; exact q2
    · rw [if_neg b_6]; exact q3
    · rw [if_neg b_6]; exact q4
  · refine wp_run (k := 1) (pc1 := 10) (l1 := [(0, .ref 25), (1, .ref 1)]) (st1 := [.ref 25]) (kr1 := (78, 76)) (h1 := zh) rfl ?_
    refine wp_call (md1 := am_m_Changes_forgetFirst) (As := [.ref 25]) (rest := []) (kr1 := (78, 76)) rfl (jt_cforget _ (by omega) q_u) ?_
    rintro _ _ ⟨rfl, rfl⟩
    have b_7 : zu = 12 := by omega
    refine wp_con (jl_note13 (zx := 11) _ (by omega) (show (am_row (am_row zh 26 (zCq (zh.1 26) (zh.1 26) 0 98 1176)) 25 (zUp (zh.1 25) 1 (iN (zu - 1)))).1 25 1 = iN 11 from by rw [am_row_s, zUp_s, b_7]; rfl) (by omega)) (fun rv y_h q => ?_)
    obtain ⟨q1, fo, q2, q3, q4⟩ := q
    refine ⟨q1, fo, ?_, ?_, ?_⟩
    · rw [if_pos b_7, if_pos b_7, ← q2, am_row_n _ 25 _ (show 26 ≠ 25 by decide), am_row_n _ 25 _ (show 2 ≠ 25 by decide), am_row_s, am_row_n _ 26 _ (show 2 ≠ 26 by decide), am_row_tw _ (by decide), am_row_tw _ (by decide)]
    · rw [if_pos b_7]; exact q3
    · rw [if_pos b_7]; exact q4
set_option maxRecDepth 20000 in
set_option maxHeartbeats 4000000 in
theorem jt_goBack (zd : Nat) (q_d : 2 ≤ zd) {zh : am_H} {zu zs : Int} (q_u : zh.1 25 1 = iN zu) (q_r : 0 ≤ zu ∧ zu ≤ 12) (q_s : zh.1 1 2 = iN zs) : am_wp zd am_m_Changes_goBack 0 [(0, .ref 25), (1, .ref 1)] [] (78, 76) zh (78, 76) (fun rv h' => rv = some (.int (iN (bI (¬ zu = 0) inferInstance))) ∧ ((zu = 0 ∧ zh = h') ∨ (¬ zu = 0 ∧ am_row (am_row (am_row (am_row zh 26 (zCq (zh.1 26) (zh.1 2) (98 * zu).toNat 0 98)) 25 (zUp (zh.1 25) 1 (iN (zu - 1)))) 2 (zCq (zh.1 2) (zCq (zh.1 26) (zh.1 2) (98 * zu).toNat 0 98) 0 (98 * (zu - 1)).toNat 98)) 1 (zUp (zh.1 1) 2 (iN (zs + 1))) = h'))) := by
  obtain ⟨zd, rfl⟩ : ∃ y_e, zd = y_e + 2 := ⟨zd - 2, by omega⟩
  refine wp_run (k := 2) (pc1 := 4) (l1 := [(0, .ref 25), (1, .ref 1)]) (st1 := [.int (iN (zu))]) (kr1 := (78, 76)) (h1 := zh) (Eq.trans (b := (some (4, [(0, .ref 25), (1, .ref 1)], [.int (zh.1 25 1)], (78, 76), zh) : Option am_C)) rfl (by simp only [q_u, Int32.ofInt_add, Int32.ofInt_sub, Int32.ofInt_mul, Int32.ofInt_neg])) ?_
  refine wp_ne0 (a := zu) rfl (by omega) (fun b_4 => ?_) (fun b_4 => ?_)
  · refine wp_run (k := 7) (pc1 := 21) (l1 := [(0, .ref 25), (1, .ref 1)]) (st1 := [.int (iN ((zu) * (98))), .ref 26, .ref 1]) (kr1 := (78, 76)) (h1 := zh) (Eq.trans (b := (some (21, [(0, .ref 25), (1, .ref 1)], [.int ((zh.1 25 1) * (iN (98))), .ref 26, .ref 1], (78, 76), zh) : Option am_C)) rfl (by simp only [q_u, Int32.ofInt_add, Int32.ofInt_sub, Int32.ofInt_mul, Int32.ofInt_neg])) ?_
    refine wp_call (md1 := am_m_Numbers_copyTo) (As := [.ref 1, .ref 26, .int (iN ((zu) * (98)))]) (rest := []) (kr1 := (78, 76)) rfl (jt_copyTo _ (by omega) (zp := (zu) * (98)) (by omega)) ?_
    rintro _ _ ⟨rfl, rfl⟩
    refine wp_run (k := 5) (pc1 := 31) (l1 := [(0, .ref 25), (1, .ref 1)]) (st1 := [.int (iN ((zu) - (1))), .ref 25]) (kr1 := (78, 76)) (h1 := am_row zh 26 (zCq (zh.1 26) (zh.1 2) ((zu) * (98) : Int).toNat 0 98)) (Eq.trans (b := (some (31, [(0, .ref 25), (1, .ref 1)], [.int (((am_row zh 26 (zCq (zh.1 26) (zh.1 2) ((zu) * (98) : Int).toNat 0 98)).1 25 1) - (iN (1))), .ref 25], (78, 76), am_row zh 26 (zCq (zh.1 26) (zh.1 2) ((zu) * (98) : Int).toNat 0 98)) : Option am_C)) rfl (by simp only [(show (am_row zh 26 (zCq (zh.1 26) (zh.1 2) ((zu) * (98) : Int).toNat 0 98)).1 25 1 = iN zu from (congrFun (am_row_n _ _ _ (by decide)) 1).trans q_u), Int32.ofInt_add, Int32.ofInt_sub, Int32.ofInt_mul, Int32.ofInt_neg])) ?_
    refine wp_run (k := 8) (pc1 := 46) (l1 := [(0, .ref 25), (1, .ref 1)]) (st1 := [.int (iN (((zu) - (1)) * (98))), .ref 26, .ref 1]) (kr1 := (78, 76)) (h1 := am_wr (am_row zh 26 (zCq (zh.1 26) (zh.1 2) ((zu) * (98) : Int).toNat 0 98)) 25 1 (iN ((zu) - (1)))) (Eq.trans (b := (some (46, [(0, .ref 25), (1, .ref 1)], [.int (((am_wr (am_row zh 26 (zCq (zh.1 26) (zh.1 2) ((zu) * (98) : Int).toNat 0 98)) 25 1 (iN ((zu) - (1)))).1 25 1) * (iN (98))), .ref 26, .ref 1], (78, 76), am_wr (am_row zh 26 (zCq (zh.1 26) (zh.1 2) ((zu) * (98) : Int).toNat 0 98)) 25 1 (iN ((zu) - (1)))) : Option am_C)) rfl (by simp only [(show (am_wr (am_row zh 26 (zCq (zh.1 26) (zh.1 2) ((zu) * (98) : Int).toNat 0 98)) 25 1 (iN ((zu) - (1)))).1 25 1 = iN ((zu) - (1)) from by rw [am_wr_eq, if_pos rfl])]; try simp only [Int32.ofInt_add, Int32.ofInt_sub, Int32.ofInt_mul, Int32.ofInt_neg])) ?_
    refine wp_call (md1 := am_m_Numbers_copyFrom) (As := [.ref 1, .ref 26, .int (iN (((zu) - (1)) * (98)))]) (rest := []) (kr1 := (78, 76)) rfl (jt_copyFrom _ (by omega) (zp := ((zu) - (1)) * (98)) (zs := zs) (by omega) ((show (am_wr (am_row zh 26 (zCq (zh.1 26) (zh.1 2) ((zu) * (98) : Int).toNat 0 98)) 25 1 (iN ((zu) - (1)))).1 1 2 = iN zs from by first | exact q_s | exact (congrFun (am_wr_ne (by decide)) 2).trans q_s | exact (congrFun (am_wr_ne (by decide)) 2).trans ((congrFun (am_row_n _ _ _ (by decide)) 2).trans q_s)))) ?_
    rintro _ _ ⟨rfl, rfl⟩
    refine wp_run (k := 1) (pc1 := 50) (l1 := [(0, .ref 25), (1, .ref 1)]) (st1 := [.int (iN (1))]) (kr1 := (78, 76)) (h1 := am_row (am_row (am_wr (am_row zh 26 (zCq (zh.1 26) (zh.1 2) ((zu) * (98) : Int).toNat 0 98)) 25 1 (iN ((zu) - (1)))) 2 (zCq ((am_wr (am_row zh 26 (zCq (zh.1 26) (zh.1 2) ((zu) * (98) : Int).toNat 0 98)) 25 1 (iN ((zu) - (1)))).1 2) ((am_wr (am_row zh 26 (zCq (zh.1 26) (zh.1 2) ((zu) * (98) : Int).toNat 0 98)) 25 1 (iN ((zu) - (1)))).1 26) 0 (((zu) - (1)) * (98) : Int).toNat 98)) 1 (zUp ((am_wr (am_row zh 26 (zCq (zh.1 26) (zh.1 2) ((zu) * (98) : Int).toNat 0 98)) 25 1 (iN ((zu) - (1)))).1 1) 2 (iN (zs + 1)))) rfl ?_
    refine wp_ret (rv := some (.int (iN (1)))) rfl ?_
    refine ⟨by rw [show bI (¬ zu = 0) inferInstance = 1 from if_pos (by omega)], Or.inr ⟨by omega, ?_⟩⟩
    rw [am_wr_row, am_row_n _ 25 _ (show 2 ≠ 25 by decide), am_row_n _ 25 _ (show 26 ≠ 25 by decide), am_row_n _ 25 _ (show 1 ≠ 25 by decide), am_row_s, am_row_n _ 26 _ (show 2 ≠ 26 by decide), am_row_n _ 26 _ (show 1 ≠ 26 by decide), am_row_n _ 26 _ (show 25 ≠ 26 by decide), Int.mul_comm zu 98, Int.mul_comm (zu - 1) 98]; try rfl
  · refine wp_run (k := 1) (pc1 := 8) (l1 := [(0, .ref 25), (1, .ref 1)]) (st1 := [.int (iN (0))]) (kr1 := (78, 76)) (h1 := zh) rfl ?_
    refine wp_ret (rv := some (.int (iN (0)))) rfl ?_
    exact ⟨by rw [show bI (¬ zu = 0) inferInstance = 0 from if_neg (by omega)], Or.inl ⟨b_4, rfl⟩⟩
set_option maxRecDepth 20000 in
set_option maxHeartbeats 4000000 in
theorem jt_goOn (zd : Nat) (q_d : 2 ≤ zd) {zh : am_H} {zu zv zs : Int} (q_u : zh.1 25 1 = iN zu) (q_v : zh.1 25 2 = iN zv) (q_r : 0 ≤ zu ∧ zu ≤ zv ∧ zv ≤ 12) (q_s : zh.1 1 2 = iN zs) : am_wp zd am_m_Changes_goOn 0 [(0, .ref 25), (1, .ref 1)] [] (78, 76) zh (78, 76) (fun rv h' => rv = some (.int (iN (bI (¬ zu = zv) inferInstance))) ∧ ((zu = zv ∧ zh = h') ∨ (¬ zu = zv ∧ am_row (am_row (am_row zh 25 (zUp (zh.1 25) 1 (iN (zu + 1)))) 2 (zCq (zh.1 2) (zh.1 26) 0 (98 * (zu + 1)).toNat 98)) 1 (zUp (zh.1 1) 2 (iN (zs + 1))) = h'))) := by
  obtain ⟨zd, rfl⟩ : ∃ y_e, zd = y_e + 2 := ⟨zd - 2, by omega⟩
  refine wp_run (k := 4) (pc1 := 8) (l1 := [(0, .ref 25), (1, .ref 1)]) (st1 := [.int (iN (zv)), .int (iN (zu))]) (kr1 := (78, 76)) (h1 := zh) (Eq.trans (b := (some (8, [(0, .ref 25), (1, .ref 1)], [.int (zh.1 25 2), .int (zh.1 25 1)], (78, 76), zh) : Option am_C)) rfl (by simp only [q_u, q_v, Int32.ofInt_add, Int32.ofInt_sub, Int32.ofInt_mul, Int32.ofInt_neg])) ?_
  refine wp_ne (a := zu) (b := zv) rfl (by omega) (by omega) (fun b_8 => ?_) (fun b_8 => ?_)
  · refine wp_run (k := 5) (pc1 := 20) (l1 := [(0, .ref 25), (1, .ref 1)]) (st1 := [.int (iN ((zu) + (1))), .ref 25]) (kr1 := (78, 76)) (h1 := zh) (Eq.trans (b := (some (20, [(0, .ref 25), (1, .ref 1)], [.int ((zh.1 25 1) + (iN (1))), .ref 25], (78, 76), zh) : Option am_C)) rfl (by simp only [q_u, Int32.ofInt_add, Int32.ofInt_sub, Int32.ofInt_mul, Int32.ofInt_neg])) ?_
    refine wp_run (k := 8) (pc1 := 35) (l1 := [(0, .ref 25), (1, .ref 1)]) (st1 := [.int (iN (((zu) + (1)) * (98))), .ref 26, .ref 1]) (kr1 := (78, 76)) (h1 := am_wr zh 25 1 (iN ((zu) + (1)))) (Eq.trans (b := (some (35, [(0, .ref 25), (1, .ref 1)], [.int (((am_wr zh 25 1 (iN ((zu) + (1)))).1 25 1) * (iN (98))), .ref 26, .ref 1], (78, 76), am_wr zh 25 1 (iN ((zu) + (1)))) : Option am_C)) rfl (by simp only [(show (am_wr zh 25 1 (iN ((zu) + (1)))).1 25 1 = iN ((zu) + (1)) from by rw [am_wr_eq, if_pos rfl])]; try simp only [Int32.ofInt_add, Int32.ofInt_sub, Int32.ofInt_mul, Int32.ofInt_neg])) ?_
    refine wp_call (md1 := am_m_Numbers_copyFrom) (As := [.ref 1, .ref 26, .int (iN (((zu) + (1)) * (98)))]) (rest := []) (kr1 := (78, 76)) rfl (jt_copyFrom _ (by omega) (zp := ((zu) + (1)) * (98)) (zs := zs) (by omega) ((show (am_wr zh 25 1 (iN ((zu) + (1)))).1 1 2 = iN zs from by first | exact q_s | exact (congrFun (am_wr_ne (by decide)) 2).trans q_s | exact (congrFun (am_wr_ne (by decide)) 2).trans ((congrFun (am_row_n _ _ _ (by decide)) 2).trans q_s)))) ?_
    rintro _ _ ⟨rfl, rfl⟩
    refine wp_run (k := 1) (pc1 := 39) (l1 := [(0, .ref 25), (1, .ref 1)]) (st1 := [.int (iN (1))]) (kr1 := (78, 76)) (h1 := am_row (am_row (am_wr zh 25 1 (iN ((zu) + (1)))) 2 (zCq ((am_wr zh 25 1 (iN ((zu) + (1)))).1 2) ((am_wr zh 25 1 (iN ((zu) + (1)))).1 26) 0 (((zu) + (1)) * (98) : Int).toNat 98)) 1 (zUp ((am_wr zh 25 1 (iN ((zu) + (1)))).1 1) 2 (iN (zs + 1)))) rfl ?_
    refine wp_ret (rv := some (.int (iN (1)))) rfl ?_
    refine ⟨by rw [show bI (¬ zu = zv) inferInstance = 1 from if_pos (by omega)], Or.inr ⟨by omega, ?_⟩⟩
    rw [am_wr_row, am_row_n _ 25 _ (show 2 ≠ 25 by decide), am_row_n _ 25 _ (show 26 ≠ 25 by decide), am_row_n _ 25 _ (show 1 ≠ 25 by decide), Int.mul_comm (zu + 1) 98]; try rfl
  · refine wp_run (k := 1) (pc1 := 12) (l1 := [(0, .ref 25), (1, .ref 1)]) (st1 := [.int (iN (0))]) (kr1 := (78, 76)) (h1 := zh) rfl ?_
    refine wp_ret (rv := some (.int (iN (0)))) rfl ?_
    exact ⟨by rw [show bI (¬ zu = zv) inferInstance = 0 from if_neg (by omega)], Or.inl ⟨b_8, rfl⟩⟩
