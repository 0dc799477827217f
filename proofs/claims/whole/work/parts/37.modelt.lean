/-! THE REFERENCE: shelves, tape: leaves -/
set_option maxRecDepth 20000 in
set_option maxHeartbeats 4000000 in
theorem jm_isShelf (zd : Nat) (q_d : 1 ≤ zd) {zk : Nat × Nat} {zh : am_H} {zs : Int} (q_s : -2147483648 ≤ zs ∧ zs < 2147483648) : am_wp zd am_m_Model_isShelf 0 [(0, .int (iN (zs)))] [] zk zh zk (fun rv h' => rv = some (.int (iN (bI (0 ≤ zs ∧ zs ≤ 3) inferInstance))) ∧ zh = h') := by
  obtain ⟨zd, rfl⟩ : ∃ y_e, zd = y_e + 1 := ⟨zd - 1, by omega⟩
  refine wp_run (k := 4) (pc1 := 6) (l1 := [(0, .int (iN (zs)))]) (st1 := [.long ((3 : Int64)), .long (Int64.ofNat 0), .long ((iN (zs)).toInt64)]) (kr1 := zk) (h1 := zh) rfl ?_
  refine wp_call (md1 := am_m_Model_isIn) (As := [.long ((iN (zs)).toInt64), .long (Int64.ofNat 0), .long ((3 : Int64))]) (rest := []) (kr1 := zk) rfl (jt_isIn _ (by omega) (i2l_i (z := zs) (by omega)) (show (Int64.ofNat 0 : Int64).toInt = 0 by decide) (show ((3 : Int64) : Int64).toInt = 3 by decide)) ?_
  rintro _ _ ⟨rfl, rfl⟩
  refine wp_retb rfl rfl ?_
  exact ⟨rfl, rfl⟩
set_option maxRecDepth 20000 in
set_option maxHeartbeats 4000000 in
theorem jm_here (zd : Nat) (q_d : 0 ≤ zd) {zh : am_H} {F : Int → Int} {zi zl : Int} (q_at : zh.1 55 8 = iN zi) (q_ln : zh.1 55 9 = iN zl) (q_r : 0 ≤ zi ∧ zi ≤ zl ∧ zl ≤ 120) (q_f : ∀ k : Int, 0 ≤ k → k < zl → zh.1 59 k.toNat = iN (F k)) : am_wp zd am_m_Model_here 0 [(0, .ref 55)] [] (78, 76) zh (78, 76) (fun rv h' => rv = some (.int (iN (if zi < zl then F zi else -1))) ∧ zh = h') := by
  obtain ⟨zd, rfl⟩ : ∃ y_e, zd = y_e + 0 := ⟨zd - 0, by omega⟩
  refine wp_run (k := 4) (pc1 := 8) (l1 := [(0, .ref 55)]) (st1 := [.int (iN (zl)), .int (iN (zi))]) (kr1 := (78, 76)) (h1 := zh) (Eq.trans (b := (some (8, [(0, .ref 55)], [.int (zh.1 55 9), .int (zh.1 55 8)], (78, 76), zh) : Option am_C)) rfl (by simp only [q_at, q_ln, Int32.ofInt_add, Int32.ofInt_sub, Int32.ofInt_mul, Int32.ofInt_neg])) ?_
  refine wp_ge (a := zi) (b := zl) rfl (by omega) (by omega) (fun b_8 => ?_) (fun b_8 => ?_)
  · refine wp_run (k := 1) (pc1 := 24) (l1 := [(0, .ref 55)]) (st1 := [.int (iN (-1))]) (kr1 := (78, 76)) (h1 := zh) rfl ?_
    refine wp_ret (rv := some (.int (iN (-1)))) rfl ?_
    exact ⟨by rw [show (if zi < zl then F zi else -1) = -1 from if_neg (by omega)], rfl⟩
  · refine wp_run (k := 4) (pc1 := 19) (l1 := [(0, .ref 55)]) (st1 := [.int (iN (zi)), .ref 59]) (kr1 := (78, 76)) (h1 := zh) (Eq.trans (b := (some (19, [(0, .ref 55)], [.int (zh.1 55 8), .ref 59], (78, 76), zh) : Option am_C)) rfl (by simp only [q_at, Int32.ofInt_add, Int32.ofInt_sub, Int32.ofInt_mul, Int32.ofInt_neg])) ?_
    refine wp_iald (f := zh.1 59) (z := zi) (j := zi.toNat) (n := 120) (v := iN (F zi)) rfl rfl (by omega) (by omega) (by decide) (q_f zi (by omega) (by omega)) ?_
    refine wp_run (k := 1) (pc1 := 24) (l1 := [(0, .ref 55)]) (st1 := [.int (iN (F zi))]) (kr1 := (78, 76)) (h1 := zh) rfl ?_
    refine wp_ret (rv := some (.int (iN (F zi)))) rfl ?_
    exact ⟨by rw [show (if zi < zl then F zi else -1) = F zi from if_pos (by omega)], rfl⟩
set_option maxRecDepth 20000 in
set_option maxHeartbeats 4000000 in
theorem jm_isDigit (zd : Nat) (q_d : 1 ≤ zd) {zh : am_H} {F : Int → Int} {zi zl : Int} (q_at : zh.1 55 8 = iN zi) (q_ln : zh.1 55 9 = iN zl) (q_r : 0 ≤ zi ∧ zi ≤ zl ∧ zl ≤ 120) (q_f : ∀ k : Int, 0 ≤ k → k < zl → zh.1 59 k.toNat = iN (F k)) (q_c : ∀ k : Int, 0 ≤ k → k < zl → 32 ≤ F k ∧ F k ≤ 126) : am_wp zd am_m_Model_isDigit 0 [(0, .ref 55)] [] (78, 76) zh (78, 76) (fun rv h' => rv = some (.int (iN (bI (48 ≤ (if zi < zl then F zi else -1) ∧ (if zi < zl then F zi else -1) ≤ 57) inferInstance))) ∧ zh = h') := by
  obtain ⟨zd, rfl⟩ : ∃ y_e, zd = y_e + 1 := ⟨zd - 1, by omega⟩
  have y_h : -1 ≤ (if zi < zl then F zi else -1) ∧ (if zi < zl then F zi else -1) ≤ 126 := by
    by_cases y : zi < zl
    · rw [if_pos y]; have y1 := q_c zi (by omega) y; omega
    · rw [if_neg y]; omega
  refine wp_run (k := 1) (pc1 := 1) (l1 := [(0, .ref 55)]) (st1 := [.ref 55]) (kr1 := (78, 76)) (h1 := zh) rfl ?_
  refine wp_call (md1 := am_m_Model_here) (As := [.ref 55]) (rest := []) (kr1 := (78, 76)) rfl (jm_here _ (by omega) q_at q_ln q_r q_f) ?_
  rintro _ _ ⟨rfl, rfl⟩
  refine wp_run (k := 3) (pc1 := 11) (l1 := [(0, .ref 55)]) (st1 := [.long ((57 : Int64)), .long ((48 : Int64)), .long ((iN (if zi < zl then F zi else -1)).toInt64)]) (kr1 := (78, 76)) (h1 := zh) rfl ?_
  refine wp_call (md1 := am_m_Model_isIn) (As := [.long ((iN (if zi < zl then F zi else -1)).toInt64), .long ((48 : Int64)), .long ((57 : Int64))]) (rest := []) (kr1 := (78, 76)) rfl (jt_isIn _ (by omega) (i2l_i (z := if zi < zl then F zi else -1) (by omega)) (show ((48 : Int64) : Int64).toInt = 48 by decide) (show ((57 : Int64) : Int64).toInt = 57 by decide)) ?_
  rintro _ _ ⟨rfl, rfl⟩
  refine wp_retb rfl rfl ?_
  exact ⟨rfl, rfl⟩
