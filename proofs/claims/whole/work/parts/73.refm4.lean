/-! THE REFERENCE's methods: let, changes undone, the image, rows -/
set_option maxRecDepth 20000 in
set_option maxHeartbeats 4000000 in
theorem jR_let (zd : Nat) (q_d : 4 ≤ zd) {zh : am_H} {N : Int} {G : Int → Int → Int} {S T : Int} {zu zw zv : Int} (q_nm : zMm (zh.1 55) (zh.1 56) N G S T) (q_g : zGk N G S T) (q_u : zh.1 55 4 = iN zu) (q_ur : 0 ≤ zu ∧ zu ≤ 12) (q_zwr : -2147483648 ≤ zw ∧ zw < 2147483648) (q_zvr : -2147483648 ≤ zv ∧ zv < 2147483648) : am_wp zd am_m_Model_let 0 [(0, .ref 55), (1, .int (iN (zw))), (2, .int (iN (zv)))] [] (78, 76) zh (78, 76) (fun rv h' => ((0 ≤ zw ∧ zw ≤ 1 ∧ 0 ≤ zv ∧ zv ≤ (if zw = 0 then 999 else 1)) → rv = some (.int (iN (if zw = 0 then S else T))) ∧ zRC zh zu h' N G (if zw = 0 then zv else S) (if zw = 0 then T else zv)) ∧ (¬ (0 ≤ zw ∧ zw ≤ 1 ∧ 0 ≤ zv ∧ zv ≤ (if zw = 0 then 999 else 1)) → rv = some (.int (iN (-1))) ∧ zh = h')) := by
  obtain ⟨zd, rfl⟩ : ∃ y_e, zd = y_e + 4 := ⟨zd - 4, by omega⟩
  have q_N := q_g.1
  refine wp_run (k := 4) (pc1 := 4) (l1 := [(0, .ref 55), (1, .int (iN (zw))), (2, .int (iN (zv)))]) (st1 := [.long (Int64.ofNat 1), .long (Int64.ofNat 0), .long ((iN (zw)).toInt64)]) (kr1 := (78, 76)) (h1 := zh) rfl ?_
  refine wp_call (md1 := am_m_Model_isIn) (As := [.long ((iN (zw)).toInt64), .long (Int64.ofNat 0), .long (Int64.ofNat 1)]) (rest := []) (kr1 := (78, 76)) rfl (jt_isIn _ (by omega) (i2l_i (z := zw) (by omega)) (show (Int64.ofNat 0 : Int64).toInt = 0 by decide) (show (Int64.ofNat 1 : Int64).toInt = 1 by decide)) ?_
  rintro _ _ ⟨rfl, rfl⟩
  refine wp_eqb rfl (fun b_7 => ?_) (fun b_7 => ?_)
  · refine wp_run (k := 1) (pc1 := 31) (l1 := [(0, .ref 55), (1, .int (iN (zw))), (2, .int (iN (zv)))]) (st1 := [.int (iN (-1))]) (kr1 := (78, 76)) (h1 := zh) rfl ?_
    refine wp_ret (rv := some (.int (iN (-1)))) rfl ?_
    refine ⟨fun y => ?_, fun _ => ⟨rfl, rfl⟩⟩
    obtain ⟨y1, y2, y3, y4⟩ := y
    by_cases y5 : zw = 0
    · rw [if_pos y5] at y4; omega
    · rw [if_neg y5] at y4; omega
  · refine wp_run (k := 4) (pc1 := 14) (l1 := [(0, .ref 55), (1, .int (iN (zw))), (2, .int (iN (zv)))]) (st1 := [.int (iN (zw)), .long (Int64.ofNat 0), .long ((iN (zv)).toInt64)]) (kr1 := (78, 76)) (h1 := zh) rfl ?_
    refine wp_ne0 (a := zw) rfl (by omega) (fun b_14 => ?_) (fun b_14 => ?_)
    · refine wp_run (k := 1) (pc1 := 24) (l1 := [(0, .ref 55), (1, .int (iN (zw))), (2, .int (iN (zv)))]) (st1 := [.long (Int64.ofNat 1), .long (Int64.ofNat 0), .long ((iN (zv)).toInt64)]) (kr1 := (78, 76)) (h1 := zh) rfl ?_
      refine wp_call (md1 := am_m_Model_isIn) (As := [.long ((iN (zv)).toInt64), .long (Int64.ofNat 0), .long (Int64.ofNat 1)]) (rest := []) (kr1 := (78, 76)) rfl (jt_isIn _ (by omega) (i2l_i (z := zv) (by omega)) (show (Int64.ofNat 0 : Int64).toInt = 0 by decide) (show (Int64.ofNat 1 : Int64).toInt = 1 by decide)) ?_
      rintro _ _ ⟨rfl, rfl⟩
      refine wp_neb rfl (fun b_27 => ?_) (fun b_27 => ?_)
      · have y_o : zh.1 56 (96 + zw).toNat = iN (if zw = 0 then S else T) := by
          rcases (show zw = 0 ∨ zw = 1 by omega) with y | y
          · rw [if_pos y, show (96 + zw).toNat = 96 by omega]; exact q_nm.2.2.1
          · rw [if_neg (by omega), show (96 + zw).toNat = 97 by omega]; exact q_nm.2.2.2
        refine wp_run (k := 5) (pc1 := 40) (l1 := [(0, .ref 55), (1, .int (iN (zw))), (2, .int (iN (zv)))]) (st1 := [.int (iN ((96) + (zw))), .ref 56]) (kr1 := (78, 76)) (h1 := zh) (Eq.trans (b := (some (40, [(0, .ref 55), (1, .int (iN (zw))), (2, .int (iN (zv)))], [.int ((iN (96)) + (iN (zw))), .ref 56], (78, 76), zh) : Option am_C)) rfl (by simp only [Int32.ofInt_add, Int32.ofInt_sub, Int32.ofInt_mul, Int32.ofInt_neg])) ?_
        refine wp_iald (f := zh.1 56) (z := (96) + (zw)) (j := (96 + zw).toNat) (n := 98) (v := iN (if zw = 0 then S else T)) rfl rfl (by omega) (by omega) (by decide) (y_o) ?_
        refine wp_run (k := 7) (pc1 := 51) (l1 := [(0, .ref 55), (1, .int (iN (zw))), (2, .int (iN (zv))), (3, .int (iN ((if zw = 0 then S else T))))]) (st1 := [.int (iN (zv)), .int (iN ((96) + (zw))), .ref 56]) (kr1 := (78, 76)) (h1 := zh) (Eq.trans (b := (some (51, [(0, .ref 55), (1, .int (iN (zw))), (2, .int (iN (zv))), (3, .int (iN (if zw = 0 then S else T)))], [.int (iN (zv)), .int ((iN (96)) + (iN (zw))), .ref 56], (78, 76), zh) : Option am_C)) rfl (by simp only [Int32.ofInt_add, Int32.ofInt_sub, Int32.ofInt_mul, Int32.ofInt_neg])) ?_
        refine wp_iast (z := (96) + (zw)) (j := (96 + zw).toNat) (n := 98) rfl (by decide) (by decide) rfl rfl (by omega) (by omega) (by decide) ?_
        refine wp_run (k := 1) (pc1 := 53) (l1 := [(0, .ref 55), (1, .int (iN (zw))), (2, .int (iN (zv))), (3, .int (iN ((if zw = 0 then S else T))))]) (st1 := [.ref 55]) (kr1 := (78, 76)) (h1 := am_wr zh 56 ((96 + zw).toNat) (iN (zv))) rfl ?_
        refine wp_call (md1 := am_m_Model_changed) (As := [.ref 55]) (rest := []) (kr1 := (78, 76)) rfl (jm_changed (zu := zu) _ (by omega) ((congrFun (am_wr_ne (by decide)) 4).trans q_u) q_ur) ?_
        rintro _ zg2 ⟨rfl, q_ch⟩
        refine wp_run (k := 1) (pc1 := 57) (l1 := [(0, .ref 55), (1, .int (iN (zw))), (2, .int (iN (zv))), (3, .int (iN ((if zw = 0 then S else T))))]) (st1 := [.int (iN ((if zw = 0 then S else T)))]) (kr1 := (78, 76)) (h1 := zg2) rfl ?_
        refine wp_ret (rv := some (.int (iN ((if zw = 0 then S else T))))) rfl ?_
        refine ⟨fun _ => ⟨rfl, _, am_fr_w (am_fr_0 _ _) (by decide) _ _, ?_, q_ch⟩, fun y => absurd ⟨by omega, by omega, by omega, by rw [if_neg (by omega)]; omega⟩ y⟩
        rw [if_neg (show ¬ zw = 0 by omega), if_neg (show ¬ zw = 0 by omega)]
        rw [am_wr_row, am_row_s, am_row_n _ _ _ (by decide), show (96 + zw).toNat = 97 by omega]
        exact ⟨q_nm.1, fun w p y1 y2 y3 y4 => (zUp_n _ _ _ (by omega)).trans (q_nm.2.1 w p y1 y2 y3 y4), (zUp_n _ _ _ (by decide)).trans q_nm.2.2.1, zUp_s _ _ _⟩
      · refine wp_run (k := 1) (pc1 := 31) (l1 := [(0, .ref 55), (1, .int (iN (zw))), (2, .int (iN (zv)))]) (st1 := [.int (iN (-1))]) (kr1 := (78, 76)) (h1 := zh) rfl ?_
        refine wp_ret (rv := some (.int (iN (-1)))) rfl ?_
        refine ⟨fun y => ?_, fun _ => ⟨rfl, rfl⟩⟩
        obtain ⟨y1, y2, y3, y4⟩ := y
        by_cases y5 : zw = 0
        · rw [if_pos y5] at y4; omega
        · rw [if_neg y5] at y4; omega
    · refine wp_run (k := 2) (pc1 := 24) (l1 := [(0, .ref 55), (1, .int (iN (zw))), (2, .int (iN (zv)))]) (st1 := [.long ((999 : Int64)), .long (Int64.ofNat 0), .long ((iN (zv)).toInt64)]) (kr1 := (78, 76)) (h1 := zh) rfl ?_
      refine wp_call (md1 := am_m_Model_isIn) (As := [.long ((iN (zv)).toInt64), .long (Int64.ofNat 0), .long ((999 : Int64))]) (rest := []) (kr1 := (78, 76)) rfl (jt_isIn _ (by omega) (i2l_i (z := zv) (by omega)) (show (Int64.ofNat 0 : Int64).toInt = 0 by decide) (show ((999 : Int64) : Int64).toInt = 999 by decide)) ?_
      rintro _ _ ⟨rfl, rfl⟩
      refine wp_neb rfl (fun b_27 => ?_) (fun b_27 => ?_)
      · have y_o : zh.1 56 (96 + zw).toNat = iN (if zw = 0 then S else T) := by
          rcases (show zw = 0 ∨ zw = 1 by omega) with y | y
          · rw [if_pos y, show (96 + zw).toNat = 96 by omega]; exact q_nm.2.2.1
          · rw [if_neg (by omega), show (96 + zw).toNat = 97 by omega]; exact q_nm.2.2.2
        refine wp_run (k := 5) (pc1 := 40) (l1 := [(0, .ref 55), (1, .int (iN (zw))), (2, .int (iN (zv)))]) (st1 := [.int (iN ((96) + (zw))), .ref 56]) (kr1 := (78, 76)) (h1 := zh) (Eq.trans (b := (some (40, [(0, .ref 55), (1, .int (iN (zw))), (2, .int (iN (zv)))], [.int ((iN (96)) + (iN (zw))), .ref 56], (78, 76), zh) : Option am_C)) rfl (by simp only [Int32.ofInt_add, Int32.ofInt_sub, Int32.ofInt_mul, Int32.ofInt_neg])) ?_
        refine wp_iald (f := zh.1 56) (z := (96) + (zw)) (j := (96 + zw).toNat) (n := 98) (v := iN (if zw = 0 then S else T)) rfl rfl (by omega) (by omega) (by decide) (y_o) ?_
        refine wp_run (k := 7) (pc1 := 51) (l1 := [(0, .ref 55), (1, .int (iN (zw))), (2, .int (iN (zv))), (3, .int (iN ((if zw = 0 then S else T))))]) (st1 := [.int (iN (zv)), .int (iN ((96) + (zw))), .ref 56]) (kr1 := (78, 76)) (h1 := zh) (Eq.trans (b := (some (51, [(0, .ref 55), (1, .int (iN (zw))), (2, .int (iN (zv))), (3, .int (iN (if zw = 0 then S else T)))], [.int (iN (zv)), .int ((iN (96)) + (iN (zw))), .ref 56], (78, 76), zh) : Option am_C)) rfl (by simp only [Int32.ofInt_add, Int32.ofInt_sub, Int32.ofInt_mul, Int32.ofInt_neg])) ?_
        refine wp_iast (z := (96) + (zw)) (j := (96 + zw).toNat) (n := 98) rfl (by decide) (by decide) rfl rfl (by omega) (by omega) (by decide) ?_
        refine wp_run (k := 1) (pc1 := 53) (l1 := [(0, .ref 55), (1, .int (iN (zw))), (2, .int (iN (zv))), (3, .int (iN ((if zw = 0 then S else T))))]) (st1 := [.ref 55]) (kr1 := (78, 76)) (h1 := am_wr zh 56 ((96 + zw).toNat) (iN (zv))) rfl ?_
        refine wp_call (md1 := am_m_Model_changed) (As := [.ref 55]) (rest := []) (kr1 := (78, 76)) rfl (jm_changed (zu := zu) _ (by omega) ((congrFun (am_wr_ne (by decide)) 4).trans q_u) q_ur) ?_
        rintro _ zg2 ⟨rfl, q_ch⟩
        refine wp_run (k := 1) (pc1 := 57) (l1 := [(0, .ref 55), (1, .int (iN (zw))), (2, .int (iN (zv))), (3, .int (iN ((if zw = 0 then S else T))))]) (st1 := [.int (iN ((if zw = 0 then S else T)))]) (kr1 := (78, 76)) (h1 := zg2) rfl ?_
        refine wp_ret (rv := some (.int (iN ((if zw = 0 then S else T))))) rfl ?_
        refine ⟨fun _ => ⟨rfl, _, am_fr_w (am_fr_0 _ _) (by decide) _ _, ?_, q_ch⟩, fun y => absurd ⟨by omega, by omega, by omega, by rw [if_pos (by omega)]; omega⟩ y⟩
        rw [if_pos (show zw = 0 by omega), if_pos (show zw = 0 by omega)]
        rw [am_wr_row, am_row_s, am_row_n _ _ _ (by decide), show (96 + zw).toNat = 96 by omega]
        exact ⟨q_nm.1, fun w p y1 y2 y3 y4 => (zUp_n _ _ _ (by omega)).trans (q_nm.2.1 w p y1 y2 y3 y4), zUp_s _ _ _, (zUp_n _ _ _ (by decide)).trans q_nm.2.2.2⟩
      · refine wp_run (k := 1) (pc1 := 31) (l1 := [(0, .ref 55), (1, .int (iN (zw))), (2, .int (iN (zv)))]) (st1 := [.int (iN (-1))]) (kr1 := (78, 76)) (h1 := zh) rfl ?_
        refine wp_ret (rv := some (.int (iN (-1)))) rfl ?_
        refine ⟨fun y => ?_, fun _ => ⟨rfl, rfl⟩⟩
        obtain ⟨y1, y2, y3, y4⟩ := y
        by_cases y5 : zw = 0
        · rw [if_pos y5] at y4; omega
        · rw [if_neg y5] at y4; omega
set_option maxRecDepth 20000 in
set_option maxHeartbeats 4000000 in
theorem jR_undo (zd : Nat) (q_d : 3 ≤ zd) {zh : am_H} {zu : Int} (q_u : zh.1 55 4 = iN zu) (q_ur : 0 ≤ zu ∧ zu ≤ 12) : am_wp zd am_m_Model_undo 0 [(0, .ref 55)] [] (78, 76) zh (78, 76) (fun rv h' => (¬ zu = 0 → rv = some (.int (iN (zu - 1))) ∧ am_fr [55, 56] zh h' ∧ (∀ zs : Nat, zs ≠ 4 → h'.1 55 zs = zh.1 55 zs) ∧ h'.1 55 4 = iN (zu - 1) ∧ h'.1 56 = zCq (zh.1 56) (zh.1 58) 0 (98 * (zu - 1)).toNat 98) ∧ (¬ ¬ zu = 0 → rv = some (.int (iN (-5))) ∧ zh = h')) := by
  obtain ⟨zd, rfl⟩ : ∃ y_e, zd = y_e + 3 := ⟨zd - 3, by omega⟩
  refine wp_run (k := 2) (pc1 := 4) (l1 := [(0, .ref 55)]) (st1 := [.int (iN (zu))]) (kr1 := (78, 76)) (h1 := zh) (Eq.trans (b := (some (4, [(0, .ref 55)], [.int (zh.1 55 4)], (78, 76), zh) : Option am_C)) rfl (by simp only [q_u, Int32.ofInt_add, Int32.ofInt_sub, Int32.ofInt_mul, Int32.ofInt_neg])) ?_
  refine wp_ne0 (a := zu) rfl (by omega) (fun b_4 => ?_) (fun b_4 => ?_)
  · refine wp_run (k := 5) (pc1 := 17) (l1 := [(0, .ref 55)]) (st1 := [.int (iN ((zu) - (1))), .ref 55]) (kr1 := (78, 76)) (h1 := zh) (Eq.trans (b := (some (17, [(0, .ref 55)], [.int ((zh.1 55 4) - (iN (1))), .ref 55], (78, 76), zh) : Option am_C)) rfl (by simp only [q_u, Int32.ofInt_add, Int32.ofInt_sub, Int32.ofInt_mul, Int32.ofInt_neg])) ?_
    refine wp_run (k := 4) (pc1 := 25) (l1 := [(0, .ref 55)]) (st1 := [.int (iN (zu - 1)), .ref 55]) (kr1 := (78, 76)) (h1 := am_wr zh 55 4 (iN ((zu) - (1)))) (Eq.trans (b := (some (25, [(0, .ref 55)], [.int ((am_wr zh 55 4 (iN ((zu) - (1)))).1 55 4), .ref 55], (78, 76), am_wr zh 55 4 (iN ((zu) - (1)))) : Option am_C)) rfl (by simp only [(show (am_wr zh 55 4 (iN ((zu) - (1)))).1 55 4 = iN (zu - 1) from am_wr_at)]; try simp only [Int32.ofInt_add, Int32.ofInt_sub, Int32.ofInt_mul, Int32.ofInt_neg])) ?_
    refine wp_call (md1 := am_m_Model_comesBack) (As := [.ref 55, .int (iN (zu - 1))]) (rest := []) (kr1 := (78, 76)) rfl (jm_comesBack (za := zu - 1) _ (by omega) (by omega)) ?_
    rintro _ zg1 ⟨rfl, q_e1⟩
    refine wp_run (k := 2) (pc1 := 32) (l1 := [(0, .ref 55)]) (st1 := [.int (iN (zu - 1))]) (kr1 := (78, 76)) (h1 := zg1) (Eq.trans (b := (some (32, [(0, .ref 55)], [.int (zg1.1 55 4)], (78, 76), zg1) : Option am_C)) rfl (by simp only [(show zg1.1 55 4 = iN (zu - 1) from by rw [← q_e1, am_row_n _ _ _ (by decide), am_wr_at])]; try simp only [Int32.ofInt_add, Int32.ofInt_sub, Int32.ofInt_mul, Int32.ofInt_neg])) ?_
    refine wp_ret (rv := some (.int (iN (zu - 1)))) rfl ?_
    refine ⟨fun _ => ⟨rfl, ?_, ?_, ?_, ?_⟩, fun y => absurd b_4 y⟩
    · rw [← q_e1]; exact am_fr_r (am_fr_w (am_fr_0 _ _) (by decide) _ _) (by decide) _
    · intro zs y; rw [← q_e1, am_row_n _ _ _ (by decide), am_wr_no y]
    · rw [← q_e1, am_row_n _ _ _ (by decide), am_wr_at]
    · rw [← q_e1, am_row_s, am_wr_ne (show 56 ≠ 55 by decide), am_wr_ne (show 58 ≠ 55 by decide)]
  · refine wp_run (k := 1) (pc1 := 9) (l1 := [(0, .ref 55)]) (st1 := [.int (iN (-5))]) (kr1 := (78, 76)) (h1 := zh) rfl ?_
    refine wp_ret (rv := some (.int (iN (-5)))) rfl ?_
    exact ⟨fun y => absurd b_4 y, fun _ => ⟨rfl, rfl⟩⟩
set_option maxRecDepth 20000 in
set_option maxHeartbeats 4000000 in
theorem jR_redo (zd : Nat) (q_d : 3 ≤ zd) {zh : am_H} {zu zv : Int} (q_u : zh.1 55 4 = iN zu) (q_v : zh.1 55 5 = iN zv) (q_uv : 0 ≤ zu ∧ zu ≤ zv ∧ zv ≤ 12) : am_wp zd am_m_Model_redo 0 [(0, .ref 55)] [] (78, 76) zh (78, 76) (fun rv h' => (¬ zu = zv → rv = some (.int (iN (zv - (zu + 1)))) ∧ am_fr [55, 56] zh h' ∧ (∀ zs : Nat, zs ≠ 4 → h'.1 55 zs = zh.1 55 zs) ∧ h'.1 55 4 = iN (zu + 1) ∧ h'.1 56 = zCq (zh.1 56) (zh.1 58) 0 (98 * (zu + 1)).toNat 98) ∧ (¬ ¬ zu = zv → rv = some (.int (iN (-5))) ∧ zh = h')) := by
  obtain ⟨zd, rfl⟩ : ∃ y_e, zd = y_e + 3 := ⟨zd - 3, by omega⟩
  refine wp_run (k := 4) (pc1 := 8) (l1 := [(0, .ref 55)]) (st1 := [.int (iN (zv)), .int (iN (zu))]) (kr1 := (78, 76)) (h1 := zh) (Eq.trans (b := (some (8, [(0, .ref 55)], [.int (zh.1 55 5), .int (zh.1 55 4)], (78, 76), zh) : Option am_C)) rfl (by simp only [q_u, q_v, Int32.ofInt_add, Int32.ofInt_sub, Int32.ofInt_mul, Int32.ofInt_neg])) ?_
  refine wp_ne (a := zu) (b := zv) rfl (by omega) (by omega) (fun b_8 => ?_) (fun b_8 => ?_)
  · refine wp_run (k := 5) (pc1 := 21) (l1 := [(0, .ref 55)]) (st1 := [.int (iN ((zu) + (1))), .ref 55]) (kr1 := (78, 76)) (h1 := zh) (Eq.trans (b := (some (21, [(0, .ref 55)], [.int ((zh.1 55 4) + (iN (1))), .ref 55], (78, 76), zh) : Option am_C)) rfl (by simp only [q_u, Int32.ofInt_add, Int32.ofInt_sub, Int32.ofInt_mul, Int32.ofInt_neg])) ?_
    refine wp_run (k := 4) (pc1 := 29) (l1 := [(0, .ref 55)]) (st1 := [.int (iN (zu + 1)), .ref 55]) (kr1 := (78, 76)) (h1 := am_wr zh 55 4 (iN ((zu) + (1)))) (Eq.trans (b := (some (29, [(0, .ref 55)], [.int ((am_wr zh 55 4 (iN ((zu) + (1)))).1 55 4), .ref 55], (78, 76), am_wr zh 55 4 (iN ((zu) + (1)))) : Option am_C)) rfl (by simp only [(show (am_wr zh 55 4 (iN ((zu) + (1)))).1 55 4 = iN (zu + 1) from am_wr_at)]; try simp only [Int32.ofInt_add, Int32.ofInt_sub, Int32.ofInt_mul, Int32.ofInt_neg])) ?_
    refine wp_call (md1 := am_m_Model_comesBack) (As := [.ref 55, .int (iN (zu + 1))]) (rest := []) (kr1 := (78, 76)) rfl (jm_comesBack (za := zu + 1) _ (by omega) (by omega)) ?_
    rintro _ zg1 ⟨rfl, q_e1⟩
    refine wp_run (k := 5) (pc1 := 41) (l1 := [(0, .ref 55)]) (st1 := [.int (iN ((zv) - (zu + 1)))]) (kr1 := (78, 76)) (h1 := zg1) (Eq.trans (b := (some (41, [(0, .ref 55)], [.int ((zg1.1 55 5) - (zg1.1 55 4))], (78, 76), zg1) : Option am_C)) rfl (by simp only [(show (zg1).1 55 5 = iN zv from by rw [← q_e1, am_row_n _ _ _ (by decide), am_wr_no (by decide)]; exact q_v), (show zg1.1 55 4 = iN (zu + 1) from by rw [← q_e1, am_row_n _ _ _ (by decide), am_wr_at])]; try simp only [Int32.ofInt_add, Int32.ofInt_sub, Int32.ofInt_mul, Int32.ofInt_neg])) ?_
    refine wp_ret (rv := some (.int (iN ((zv) - (zu + 1))))) rfl ?_
    refine ⟨fun _ => ⟨rfl, ?_, ?_, ?_, ?_⟩, fun y => absurd b_8 y⟩
    · rw [← q_e1]; exact am_fr_r (am_fr_w (am_fr_0 _ _) (by decide) _ _) (by decide) _
    · intro zs y; rw [← q_e1, am_row_n _ _ _ (by decide), am_wr_no y]
    · rw [← q_e1, am_row_n _ _ _ (by decide), am_wr_at]
    · rw [← q_e1, am_row_s, am_wr_ne (show 56 ≠ 55 by decide), am_wr_ne (show 58 ≠ 55 by decide)]
  · refine wp_run (k := 1) (pc1 := 13) (l1 := [(0, .ref 55)]) (st1 := [.int (iN (-5))]) (kr1 := (78, 76)) (h1 := zh) rfl ?_
    refine wp_ret (rv := some (.int (iN (-5)))) rfl ?_
    exact ⟨fun y => absurd b_8 y, fun _ => ⟨rfl, rfl⟩⟩
set_option maxRecDepth 20000 in
set_option maxHeartbeats 4000000 in
theorem jl_mim1 (zd : Nat) (q_d : 0 ≤ zd) {zh : am_H}   {zQ : Option Value → am_H → Prop} (zk : am_wp zd am_m_Model_image 26 [(0, .ref 55), (1, .int (iN (98)))] [] (78, 76) (am_row zh 76 (zCq (zh.1 76) (zh.1 56) (0 : Int).toNat (0 : Int).toNat (98 : Int).toNat)) (78, 76) zQ) : ∀ (z_n : Nat) (zi : Int) (q_i : 0 ≤ zi ∧ zi ≤ 98), 98 - zi < (z_n : Int) → am_wp zd am_m_Model_image 2 [(0, .ref 55), (1, .int (iN (zi)))] [] (78, 76) (am_row zh 76 (zCq (zh.1 76) (zh.1 56) (0 : Int).toNat (0 : Int).toNat (zi : Int).toNat)) (78, 76) zQ := by
  obtain ⟨zd, rfl⟩ : ∃ y_e, zd = y_e + 0 := ⟨zd - 0, by omega⟩
  intro z_n
  induction z_n with
  | zero => intro zi q_i q_m; omega
  | succ z_n z_ih =>
    intro zi q_i q_m
    refine wp_run (k := 2) (pc1 := 5) (l1 := [(0, .ref 55), (1, .int (iN (zi)))]) (st1 := [.int (iN (98)), .int (iN (zi))]) (kr1 := (78, 76)) (h1 := am_row zh 76 (zCq (zh.1 76) (zh.1 56) (0 : Int).toNat (0 : Int).toNat (zi : Int).toNat)) rfl ?_
    refine wp_ge (a := zi) (b := 98) rfl (by omega) (by omega) (fun b_5 => ?_) (fun b_5 => ?_)
    · rw [show zi = 98 by omega]
      exact zk
    · refine wp_run (k := 6) (pc1 := 18) (l1 := [(0, .ref 55), (1, .int (iN (zi)))]) (st1 := [.int (iN (zi)), .ref 56, .int (iN (zi)), .ref 76]) (kr1 := (78, 76)) (h1 := am_row zh 76 (zCq (zh.1 76) (zh.1 56) (0 : Int).toNat (0 : Int).toNat (zi : Int).toNat)) rfl ?_
      refine wp_iald (f := (am_row zh 76 (zCq (zh.1 76) (zh.1 56) (0 : Int).toNat (0 : Int).toNat (zi : Int).toNat)).1 56) (z := zi) (j := (zi).toNat) (n := 98) (v := zh.1 56 (0 + zi).toNat) rfl rfl (by omega) (by omega) (by decide) ((congrFun (am_row_n _ _ _ (by decide)) _).trans (congrArg (zh.1 56) (by omega))) ?_
      refine wp_iast (z := zi) (j := (zi).toNat) (n := 98) rfl (by decide) (by decide) rfl rfl (by omega) (by omega) (by decide) ?_
      refine wp_run (k := 2) (pc1 := 2) (l1 := [(0, .ref 55), (1, .int (iN ((zi) + 1)))]) (st1 := []) (kr1 := (78, 76)) (h1 := am_wr (am_row zh 76 (zCq (zh.1 76) (zh.1 56) (0 : Int).toNat (0 : Int).toNat (zi : Int).toNat)) 76 ((zi).toNat) (zh.1 56 (0 + zi).toNat)) (Eq.trans (b := (some (2, [(0, .ref 55), (1, .int ((iN (zi)) + iN (1)))], [], (78, 76), am_wr (am_row zh 76 (zCq (zh.1 76) (zh.1 56) (0 : Int).toNat (0 : Int).toNat (zi : Int).toNat)) 76 ((zi).toNat) (zh.1 56 (0 + zi).toNat)) : Option am_C)) rfl (by simp only [Int32.ofInt_add, Int32.ofInt_sub, Int32.ofInt_mul, Int32.ofInt_neg])) ?_
      rw [zCq_w zh 76 (zh.1 76) (zh.1 56) (0) (0) zi (by omega) (by omega) (by omega) (by omega) rfl]
      exact z_ih (zi + 1) (by omega) (by omega)
set_option maxRecDepth 20000 in
set_option maxHeartbeats 4000000 in
theorem jl_mim2 (zd : Nat) (q_d : 0 ≤ zd) {zh : am_H}   {zQ : Option Value → am_H → Prop} (zk : am_wp zd am_m_Model_image 52 [(0, .ref 55), (1, .int (iN (16)))] [] (78, 76) (am_row zh 77 (zCq (zh.1 77) (zh.1 57) (0 : Int).toNat (0 : Int).toNat (16 : Int).toNat)) (78, 76) zQ) : ∀ (z_n : Nat) (zi : Int) (q_i : 0 ≤ zi ∧ zi ≤ 16), 16 - zi < (z_n : Int) → am_wp zd am_m_Model_image 28 [(0, .ref 55), (1, .int (iN (zi)))] [] (78, 76) (am_row zh 77 (zCq (zh.1 77) (zh.1 57) (0 : Int).toNat (0 : Int).toNat (zi : Int).toNat)) (78, 76) zQ := by
  obtain ⟨zd, rfl⟩ : ∃ y_e, zd = y_e + 0 := ⟨zd - 0, by omega⟩
  intro z_n
  induction z_n with
  | zero => intro zi q_i q_m; omega
  | succ z_n z_ih =>
    intro zi q_i q_m
    refine wp_run (k := 2) (pc1 := 31) (l1 := [(0, .ref 55), (1, .int (iN (zi)))]) (st1 := [.int (iN (16)), .int (iN (zi))]) (kr1 := (78, 76)) (h1 := am_row zh 77 (zCq (zh.1 77) (zh.1 57) (0 : Int).toNat (0 : Int).toNat (zi : Int).toNat)) rfl ?_
    refine wp_ge (a := zi) (b := 16) rfl (by omega) (by omega) (fun b_31 => ?_) (fun b_31 => ?_)
    · rw [show zi = 16 by omega]
      exact zk
    · refine wp_run (k := 6) (pc1 := 44) (l1 := [(0, .ref 55), (1, .int (iN (zi)))]) (st1 := [.int (iN (zi)), .ref 57, .int (iN (zi)), .ref 77]) (kr1 := (78, 76)) (h1 := am_row zh 77 (zCq (zh.1 77) (zh.1 57) (0 : Int).toNat (0 : Int).toNat (zi : Int).toNat)) rfl ?_
      refine wp_iald (f := (am_row zh 77 (zCq (zh.1 77) (zh.1 57) (0 : Int).toNat (0 : Int).toNat (zi : Int).toNat)).1 57) (z := zi) (j := (zi).toNat) (n := 16) (v := zh.1 57 (0 + zi).toNat) rfl rfl (by omega) (by omega) (by decide) ((congrFun (am_row_n _ _ _ (by decide)) _).trans (congrArg (zh.1 57) (by omega))) ?_
      refine wp_iast (z := zi) (j := (zi).toNat) (n := 16) rfl (by decide) (by decide) rfl rfl (by omega) (by omega) (by decide) ?_
      refine wp_run (k := 2) (pc1 := 28) (l1 := [(0, .ref 55), (1, .int (iN ((zi) + 1)))]) (st1 := []) (kr1 := (78, 76)) (h1 := am_wr (am_row zh 77 (zCq (zh.1 77) (zh.1 57) (0 : Int).toNat (0 : Int).toNat (zi : Int).toNat)) 77 ((zi).toNat) (zh.1 57 (0 + zi).toNat)) (Eq.trans (b := (some (28, [(0, .ref 55), (1, .int ((iN (zi)) + iN (1)))], [], (78, 76), am_wr (am_row zh 77 (zCq (zh.1 77) (zh.1 57) (0 : Int).toNat (0 : Int).toNat (zi : Int).toNat)) 77 ((zi).toNat) (zh.1 57 (0 + zi).toNat)) : Option am_C)) rfl (by simp only [Int32.ofInt_add, Int32.ofInt_sub, Int32.ofInt_mul, Int32.ofInt_neg])) ?_
      rw [zCq_w zh 77 (zh.1 77) (zh.1 57) (0) (0) zi (by omega) (by omega) (by omega) (by omega) rfl]
      exact z_ih (zi + 1) (by omega) (by omega)
set_option maxRecDepth 20000 in
set_option maxHeartbeats 4000000 in
theorem jR_image (zd : Nat) (q_d : 0 ≤ zd) {zh : am_H} {N : Int} {G : Int → Int → Int} {S T : Int} (q_nm : zMm (zh.1 55) (zh.1 56) N G S T) (q_g : zGk N G S T) : am_wp zd am_m_Model_image 0 [(0, .ref 55)] [] (78, 76) zh (78, 76) (fun rv h' => rv = some (.int (iN N)) ∧ am_fr [55, 76, 77] zh h' ∧ (∀ zs : Nat, zs ≠ 36 → h'.1 55 zs = zh.1 55 zs) ∧ h'.1 55 36 = iN N ∧ h'.1 76 = zCq (zh.1 76) (zh.1 56) 0 0 98 ∧ h'.1 77 = zCq (zh.1 77) (zh.1 57) 0 0 16) := by
  obtain ⟨zd, rfl⟩ : ∃ y_e, zd = y_e + 0 := ⟨zd - 0, by omega⟩
  have q_N := q_g.1
  refine wp_run (k := 2) (pc1 := 2) (l1 := [(0, .ref 55), (1, .int (iN (0)))]) (st1 := []) (kr1 := (78, 76)) (h1 := zh) rfl ?_
  refine Eq.mpr (congrArg (fun y_h => am_wp _ _ _ _ _ _ y_h _ _) (show zh = am_row zh 76 (zCq (zh.1 76) (zh.1 56) (0 : Int).toNat (0 : Int).toNat (0 : Int).toNat) from by rw [show (0 : Int).toNat = 0 from rfl, zCq_0, am_row_id])) ?_
  refine jl_mim1 (zh := zh) _ (by omega)  ?_ 99 0 (by omega) (by omega)
  refine wp_run (k := 2) (pc1 := 28) (l1 := [(0, .ref 55), (1, .int (iN (0)))]) (st1 := []) (kr1 := (78, 76)) (h1 := am_row zh 76 (zCq (zh.1 76) (zh.1 56) (0 : Int).toNat (0 : Int).toNat (98 : Int).toNat)) rfl ?_
  refine Eq.mpr (congrArg (fun y_h => am_wp _ _ _ _ _ _ y_h _ _) (show am_row zh 76 (zCq (zh.1 76) (zh.1 56) (0 : Int).toNat (0 : Int).toNat (98 : Int).toNat) = am_row (am_row zh 76 (zCq (zh.1 76) (zh.1 56) (0 : Int).toNat (0 : Int).toNat (98 : Int).toNat)) 77 (zCq ((am_row zh 76 (zCq (zh.1 76) (zh.1 56) (0 : Int).toNat (0 : Int).toNat (98 : Int).toNat)).1 77) ((am_row zh 76 (zCq (zh.1 76) (zh.1 56) (0 : Int).toNat (0 : Int).toNat (98 : Int).toNat)).1 57) (0 : Int).toNat (0 : Int).toNat (0 : Int).toNat) from by rw [show (0 : Int).toNat = 0 from rfl, zCq_0, am_row_id])) ?_
  refine jl_mim2 (zh := am_row zh 76 (zCq (zh.1 76) (zh.1 56) (0 : Int).toNat (0 : Int).toNat (98 : Int).toNat)) _ (by omega)  ?_ 17 0 (by omega) (by omega)
  refine wp_run (k := 3) (pc1 := 57) (l1 := [(0, .ref 55), (1, .int (iN (16)))]) (st1 := [.int (iN (N)), .ref 55]) (kr1 := (78, 76)) (h1 := am_row (am_row zh 76 (zCq (zh.1 76) (zh.1 56) (0 : Int).toNat (0 : Int).toNat (98 : Int).toNat)) 77 (zCq ((am_row zh 76 (zCq (zh.1 76) (zh.1 56) (0 : Int).toNat (0 : Int).toNat (98 : Int).toNat)).1 77) ((am_row zh 76 (zCq (zh.1 76) (zh.1 56) (0 : Int).toNat (0 : Int).toNat (98 : Int).toNat)).1 57) (0 : Int).toNat (0 : Int).toNat (16 : Int).toNat)) (Eq.trans (b := (some (57, [(0, .ref 55), (1, .int (iN (16)))], [.int ((am_row (am_row zh 76 (zCq (zh.1 76) (zh.1 56) (0 : Int).toNat (0 : Int).toNat (98 : Int).toNat)) 77 (zCq ((am_row zh 76 (zCq (zh.1 76) (zh.1 56) (0 : Int).toNat (0 : Int).toNat (98 : Int).toNat)).1 77) ((am_row zh 76 (zCq (zh.1 76) (zh.1 56) (0 : Int).toNat (0 : Int).toNat (98 : Int).toNat)).1 57) (0 : Int).toNat (0 : Int).toNat (16 : Int).toNat)).1 55 0), .ref 55], (78, 76), am_row (am_row zh 76 (zCq (zh.1 76) (zh.1 56) (0 : Int).toNat (0 : Int).toNat (98 : Int).toNat)) 77 (zCq ((am_row zh 76 (zCq (zh.1 76) (zh.1 56) (0 : Int).toNat (0 : Int).toNat (98 : Int).toNat)).1 77) ((am_row zh 76 (zCq (zh.1 76) (zh.1 56) (0 : Int).toNat (0 : Int).toNat (98 : Int).toNat)).1 57) (0 : Int).toNat (0 : Int).toNat (16 : Int).toNat)) : Option am_C)) rfl (by simp only [(show (am_row (am_row zh 76 (zCq (zh.1 76) (zh.1 56) (0 : Int).toNat (0 : Int).toNat (98 : Int).toNat)) 77 (zCq ((am_row zh 76 (zCq (zh.1 76) (zh.1 56) (0 : Int).toNat (0 : Int).toNat (98 : Int).toNat)).1 77) ((am_row zh 76 (zCq (zh.1 76) (zh.1 56) (0 : Int).toNat (0 : Int).toNat (98 : Int).toNat)).1 57) (0 : Int).toNat (0 : Int).toNat (16 : Int).toNat)).1 55 0 = iN N from by rw [am_row_n _ _ _ (by decide), am_row_n _ _ _ (by decide)]; exact q_nm.1), Int32.ofInt_add, Int32.ofInt_sub, Int32.ofInt_mul, Int32.ofInt_neg])) ?_
  refine wp_run (k := 3) (pc1 := 64) (l1 := [(0, .ref 55), (1, .int (iN (16)))]) (st1 := [.int (iN (N))]) (kr1 := (78, 76)) (h1 := am_wr (am_row (am_row zh 76 (zCq (zh.1 76) (zh.1 56) (0 : Int).toNat (0 : Int).toNat (98 : Int).toNat)) 77 (zCq ((am_row zh 76 (zCq (zh.1 76) (zh.1 56) (0 : Int).toNat (0 : Int).toNat (98 : Int).toNat)).1 77) ((am_row zh 76 (zCq (zh.1 76) (zh.1 56) (0 : Int).toNat (0 : Int).toNat (98 : Int).toNat)).1 57) (0 : Int).toNat (0 : Int).toNat (16 : Int).toNat)) 55 36 (iN (N))) (Eq.trans (b := (some (64, [(0, .ref 55), (1, .int (iN (16)))], [.int ((am_wr (am_row (am_row zh 76 (zCq (zh.1 76) (zh.1 56) (0 : Int).toNat (0 : Int).toNat (98 : Int).toNat)) 77 (zCq ((am_row zh 76 (zCq (zh.1 76) (zh.1 56) (0 : Int).toNat (0 : Int).toNat (98 : Int).toNat)).1 77) ((am_row zh 76 (zCq (zh.1 76) (zh.1 56) (0 : Int).toNat (0 : Int).toNat (98 : Int).toNat)).1 57) (0 : Int).toNat (0 : Int).toNat (16 : Int).toNat)) 55 36 (iN (N))).1 55 0)], (78, 76), am_wr (am_row (am_row zh 76 (zCq (zh.1 76) (zh.1 56) (0 : Int).toNat (0 : Int).toNat (98 : Int).toNat)) 77 (zCq ((am_row zh 76 (zCq (zh.1 76) (zh.1 56) (0 : Int).toNat (0 : Int).toNat (98 : Int).toNat)).1 77) ((am_row zh 76 (zCq (zh.1 76) (zh.1 56) (0 : Int).toNat (0 : Int).toNat (98 : Int).toNat)).1 57) (0 : Int).toNat (0 : Int).toNat (16 : Int).toNat)) 55 36 (iN (N))) : Option am_C)) rfl (by simp only [(show (am_wr (am_row (am_row zh 76 (zCq (zh.1 76) (zh.1 56) (0 : Int).toNat (0 : Int).toNat (98 : Int).toNat)) 77 (zCq ((am_row zh 76 (zCq (zh.1 76) (zh.1 56) (0 : Int).toNat (0 : Int).toNat (98 : Int).toNat)).1 77) ((am_row zh 76 (zCq (zh.1 76) (zh.1 56) (0 : Int).toNat (0 : Int).toNat (98 : Int).toNat)).1 57) (0 : Int).toNat (0 : Int).toNat (16 : Int).toNat)) 55 36 (iN (N))).1 55 0 = iN N from by rw [am_wr_no (by decide), am_row_n _ _ _ (by decide), am_row_n _ _ _ (by decide)]; exact q_nm.1)]; try simp only [Int32.ofInt_add, Int32.ofInt_sub, Int32.ofInt_mul, Int32.ofInt_neg])) ?_
  refine wp_ret (rv := some (.int (iN (N)))) rfl ?_
  refine ⟨rfl, am_fr_w (am_fr_r (am_fr_r (am_fr_0 _ _) (by decide) _) (by decide) _) (by decide) _ _, ?_, am_wr_at, ?_, ?_⟩
  · intro zs y; rw [am_wr_no y, am_row_n _ _ _ (by decide), am_row_n _ _ _ (by decide)]
  · rw [am_wr_ne (by decide), am_row_n _ _ _ (by decide), am_row_s]; rfl
  · rw [am_wr_ne (by decide), am_row_s, am_row_n _ _ _ (by decide), am_row_n _ _ _ (by decide)]; rfl
set_option maxRecDepth 20000 in
set_option maxHeartbeats 4000000 in
theorem jl_mba1 (zd : Nat) (q_d : 0 ≤ zd) {zh : am_H}   {zQ : Option Value → am_H → Prop} (zk : am_wp zd am_m_Model_back 36 [(0, .ref 55), (1, .int (iN (98)))] [] (78, 76) (am_row zh 56 (zCq (zh.1 56) (zh.1 76) (0 : Int).toNat (0 : Int).toNat (98 : Int).toNat)) (78, 76) zQ) : ∀ (z_n : Nat) (zi : Int) (q_i : 0 ≤ zi ∧ zi ≤ 98), 98 - zi < (z_n : Int) → am_wp zd am_m_Model_back 12 [(0, .ref 55), (1, .int (iN (zi)))] [] (78, 76) (am_row zh 56 (zCq (zh.1 56) (zh.1 76) (0 : Int).toNat (0 : Int).toNat (zi : Int).toNat)) (78, 76) zQ := by
  obtain ⟨zd, rfl⟩ : ∃ y_e, zd = y_e + 0 := ⟨zd - 0, by omega⟩
  intro z_n
  induction z_n with
  | zero => intro zi q_i q_m; omega
  | succ z_n z_ih =>
    intro zi q_i q_m
    refine wp_run (k := 2) (pc1 := 15) (l1 := [(0, .ref 55), (1, .int (iN (zi)))]) (st1 := [.int (iN (98)), .int (iN (zi))]) (kr1 := (78, 76)) (h1 := am_row zh 56 (zCq (zh.1 56) (zh.1 76) (0 : Int).toNat (0 : Int).toNat (zi : Int).toNat)) rfl ?_
    refine wp_ge (a := zi) (b := 98) rfl (by omega) (by omega) (fun b_15 => ?_) (fun b_15 => ?_)
    · rw [show zi = 98 by omega]
      exact zk
    · refine wp_run (k := 6) (pc1 := 28) (l1 := [(0, .ref 55), (1, .int (iN (zi)))]) (st1 := [.int (iN (zi)), .ref 76, .int (iN (zi)), .ref 56]) (kr1 := (78, 76)) (h1 := am_row zh 56 (zCq (zh.1 56) (zh.1 76) (0 : Int).toNat (0 : Int).toNat (zi : Int).toNat)) rfl ?_
      refine wp_iald (f := (am_row zh 56 (zCq (zh.1 56) (zh.1 76) (0 : Int).toNat (0 : Int).toNat (zi : Int).toNat)).1 76) (z := zi) (j := (zi).toNat) (n := 98) (v := zh.1 76 (0 + zi).toNat) rfl rfl (by omega) (by omega) (by decide) ((congrFun (am_row_n _ _ _ (by decide)) _).trans (congrArg (zh.1 76) (by omega))) ?_
      refine wp_iast (z := zi) (j := (zi).toNat) (n := 98) rfl (by decide) (by decide) rfl rfl (by omega) (by omega) (by decide) ?_
      refine wp_run (k := 2) (pc1 := 12) (l1 := [(0, .ref 55), (1, .int (iN ((zi) + 1)))]) (st1 := []) (kr1 := (78, 76)) (h1 := am_wr (am_row zh 56 (zCq (zh.1 56) (zh.1 76) (0 : Int).toNat (0 : Int).toNat (zi : Int).toNat)) 56 ((zi).toNat) (zh.1 76 (0 + zi).toNat)) (Eq.trans (b := (some (12, [(0, .ref 55), (1, .int ((iN (zi)) + iN (1)))], [], (78, 76), am_wr (am_row zh 56 (zCq (zh.1 56) (zh.1 76) (0 : Int).toNat (0 : Int).toNat (zi : Int).toNat)) 56 ((zi).toNat) (zh.1 76 (0 + zi).toNat)) : Option am_C)) rfl (by simp only [Int32.ofInt_add, Int32.ofInt_sub, Int32.ofInt_mul, Int32.ofInt_neg])) ?_
      rw [zCq_w zh 56 (zh.1 56) (zh.1 76) (0) (0) zi (by omega) (by omega) (by omega) (by omega) rfl]
      exact z_ih (zi + 1) (by omega) (by omega)
set_option maxRecDepth 20000 in
set_option maxHeartbeats 4000000 in
theorem jl_mba2 (zd : Nat) (q_d : 0 ≤ zd) {zh : am_H}   {zQ : Option Value → am_H → Prop} (zk : am_wp zd am_m_Model_back 62 [(0, .ref 55), (1, .int (iN (16)))] [] (78, 76) (am_row zh 57 (zCq (zh.1 57) (zh.1 77) (0 : Int).toNat (0 : Int).toNat (16 : Int).toNat)) (78, 76) zQ) : ∀ (z_n : Nat) (zi : Int) (q_i : 0 ≤ zi ∧ zi ≤ 16), 16 - zi < (z_n : Int) → am_wp zd am_m_Model_back 38 [(0, .ref 55), (1, .int (iN (zi)))] [] (78, 76) (am_row zh 57 (zCq (zh.1 57) (zh.1 77) (0 : Int).toNat (0 : Int).toNat (zi : Int).toNat)) (78, 76) zQ := by
  obtain ⟨zd, rfl⟩ : ∃ y_e, zd = y_e + 0 := ⟨zd - 0, by omega⟩
  intro z_n
  induction z_n with
  | zero => intro zi q_i q_m; omega
  | succ z_n z_ih =>
    intro zi q_i q_m
    refine wp_run (k := 2) (pc1 := 41) (l1 := [(0, .ref 55), (1, .int (iN (zi)))]) (st1 := [.int (iN (16)), .int (iN (zi))]) (kr1 := (78, 76)) (h1 := am_row zh 57 (zCq (zh.1 57) (zh.1 77) (0 : Int).toNat (0 : Int).toNat (zi : Int).toNat)) rfl ?_
    refine wp_ge (a := zi) (b := 16) rfl (by omega) (by omega) (fun b_41 => ?_) (fun b_41 => ?_)
    · rw [show zi = 16 by omega]
      exact zk
    · refine wp_run (k := 6) (pc1 := 54) (l1 := [(0, .ref 55), (1, .int (iN (zi)))]) (st1 := [.int (iN (zi)), .ref 77, .int (iN (zi)), .ref 57]) (kr1 := (78, 76)) (h1 := am_row zh 57 (zCq (zh.1 57) (zh.1 77) (0 : Int).toNat (0 : Int).toNat (zi : Int).toNat)) rfl ?_
      refine wp_iald (f := (am_row zh 57 (zCq (zh.1 57) (zh.1 77) (0 : Int).toNat (0 : Int).toNat (zi : Int).toNat)).1 77) (z := zi) (j := (zi).toNat) (n := 16) (v := zh.1 77 (0 + zi).toNat) rfl rfl (by omega) (by omega) (by decide) ((congrFun (am_row_n _ _ _ (by decide)) _).trans (congrArg (zh.1 77) (by omega))) ?_
      refine wp_iast (z := zi) (j := (zi).toNat) (n := 16) rfl (by decide) (by decide) rfl rfl (by omega) (by omega) (by decide) ?_
      refine wp_run (k := 2) (pc1 := 38) (l1 := [(0, .ref 55), (1, .int (iN ((zi) + 1)))]) (st1 := []) (kr1 := (78, 76)) (h1 := am_wr (am_row zh 57 (zCq (zh.1 57) (zh.1 77) (0 : Int).toNat (0 : Int).toNat (zi : Int).toNat)) 57 ((zi).toNat) (zh.1 77 (0 + zi).toNat)) (Eq.trans (b := (some (38, [(0, .ref 55), (1, .int ((iN (zi)) + iN (1)))], [], (78, 76), am_wr (am_row zh 57 (zCq (zh.1 57) (zh.1 77) (0 : Int).toNat (0 : Int).toNat (zi : Int).toNat)) 57 ((zi).toNat) (zh.1 77 (0 + zi).toNat)) : Option am_C)) rfl (by simp only [Int32.ofInt_add, Int32.ofInt_sub, Int32.ofInt_mul, Int32.ofInt_neg])) ?_
      rw [zCq_w zh 57 (zh.1 57) (zh.1 77) (0) (0) zi (by omega) (by omega) (by omega) (by omega) rfl]
      exact z_ih (zi + 1) (by omega) (by omega)
set_option maxRecDepth 20000 in
set_option maxHeartbeats 4000000 in
theorem jR_back (zd : Nat) (q_d : 2 ≤ zd) {zh : am_H} {zm : Int} (q_m : zh.1 55 36 = iN zm) (q_mr : 0 ≤ zm ∧ zm ≤ 16) : am_wp zd am_m_Model_back 0 [(0, .ref 55)] [] (78, 76) zh (78, 76) (fun rv h' => (¬ zm = 0 → rv = some (.int (iN zm)) ∧ am_fr [55, 56, 57, 58] zh h' ∧ (∀ zs : Nat, zs ≠ 0 → zs ≠ 4 → zs ≠ 5 → h'.1 55 zs = zh.1 55 zs) ∧ h'.1 55 0 = iN zm ∧ h'.1 55 4 = iN 0 ∧ h'.1 55 5 = iN 0 ∧ h'.1 56 = zCq (zh.1 56) (zh.1 76) 0 0 98 ∧ h'.1 57 = zCq (zh.1 57) (zh.1 77) 0 0 16 ∧ h'.1 58 = zCq (zh.1 58) (h'.1 56) 0 0 98) ∧ (¬ ¬ zm = 0 → rv = some (.int (iN (-5))) ∧ zh = h')) := by
  obtain ⟨zd, rfl⟩ : ∃ y_e, zd = y_e + 2 := ⟨zd - 2, by omega⟩
  refine wp_run (k := 2) (pc1 := 4) (l1 := [(0, .ref 55)]) (st1 := [.int (iN (zm))]) (kr1 := (78, 76)) (h1 := zh) (Eq.trans (b := (some (4, [(0, .ref 55)], [.int (zh.1 55 36)], (78, 76), zh) : Option am_C)) rfl (by simp only [q_m, Int32.ofInt_add, Int32.ofInt_sub, Int32.ofInt_mul, Int32.ofInt_neg])) ?_
  refine wp_ne0 (a := zm) rfl (by omega) (fun b_4 => ?_) (fun b_4 => ?_)
  · refine wp_run (k := 2) (pc1 := 12) (l1 := [(0, .ref 55), (1, .int (iN (0)))]) (st1 := []) (kr1 := (78, 76)) (h1 := zh) rfl ?_
    refine Eq.mpr (congrArg (fun y_h => am_wp _ _ _ _ _ _ y_h _ _) (show zh = am_row zh 56 (zCq (zh.1 56) (zh.1 76) (0 : Int).toNat (0 : Int).toNat (0 : Int).toNat) from by rw [show (0 : Int).toNat = 0 from rfl, zCq_0, am_row_id])) ?_
    refine jl_mba1 (zh := zh) _ (by omega)  ?_ 99 0 (by omega) (by omega)
    refine wp_run (k := 2) (pc1 := 38) (l1 := [(0, .ref 55), (1, .int (iN (0)))]) (st1 := []) (kr1 := (78, 76)) (h1 := am_row zh 56 (zCq (zh.1 56) (zh.1 76) (0 : Int).toNat (0 : Int).toNat (98 : Int).toNat)) rfl ?_
    refine Eq.mpr (congrArg (fun y_h => am_wp _ _ _ _ _ _ y_h _ _) (show am_row zh 56 (zCq (zh.1 56) (zh.1 76) (0 : Int).toNat (0 : Int).toNat (98 : Int).toNat) = am_row (am_row zh 56 (zCq (zh.1 56) (zh.1 76) (0 : Int).toNat (0 : Int).toNat (98 : Int).toNat)) 57 (zCq ((am_row zh 56 (zCq (zh.1 56) (zh.1 76) (0 : Int).toNat (0 : Int).toNat (98 : Int).toNat)).1 57) ((am_row zh 56 (zCq (zh.1 56) (zh.1 76) (0 : Int).toNat (0 : Int).toNat (98 : Int).toNat)).1 77) (0 : Int).toNat (0 : Int).toNat (0 : Int).toNat) from by rw [show (0 : Int).toNat = 0 from rfl, zCq_0, am_row_id])) ?_
    refine jl_mba2 (zh := am_row zh 56 (zCq (zh.1 56) (zh.1 76) (0 : Int).toNat (0 : Int).toNat (98 : Int).toNat)) _ (by omega)  ?_ 17 0 (by omega) (by omega)
    refine wp_run (k := 3) (pc1 := 67) (l1 := [(0, .ref 55), (1, .int (iN (16)))]) (st1 := [.int (iN (zm)), .ref 55]) (kr1 := (78, 76)) (h1 := am_row (am_row zh 56 (zCq (zh.1 56) (zh.1 76) (0 : Int).toNat (0 : Int).toNat (98 : Int).toNat)) 57 (zCq ((am_row zh 56 (zCq (zh.1 56) (zh.1 76) (0 : Int).toNat (0 : Int).toNat (98 : Int).toNat)).1 57) ((am_row zh 56 (zCq (zh.1 56) (zh.1 76) (0 : Int).toNat (0 : Int).toNat (98 : Int).toNat)).1 77) (0 : Int).toNat (0 : Int).toNat (16 : Int).toNat)) (Eq.trans (b := (some (67, [(0, .ref 55), (1, .int (iN (16)))], [.int ((am_row (am_row zh 56 (zCq (zh.1 56) (zh.1 76) (0 : Int).toNat (0 : Int).toNat (98 : Int).toNat)) 57 (zCq ((am_row zh 56 (zCq (zh.1 56) (zh.1 76) (0 : Int).toNat (0 : Int).toNat (98 : Int).toNat)).1 57) ((am_row zh 56 (zCq (zh.1 56) (zh.1 76) (0 : Int).toNat (0 : Int).toNat (98 : Int).toNat)).1 77) (0 : Int).toNat (0 : Int).toNat (16 : Int).toNat)).1 55 36), .ref 55], (78, 76), am_row (am_row zh 56 (zCq (zh.1 56) (zh.1 76) (0 : Int).toNat (0 : Int).toNat (98 : Int).toNat)) 57 (zCq ((am_row zh 56 (zCq (zh.1 56) (zh.1 76) (0 : Int).toNat (0 : Int).toNat (98 : Int).toNat)).1 57) ((am_row zh 56 (zCq (zh.1 56) (zh.1 76) (0 : Int).toNat (0 : Int).toNat (98 : Int).toNat)).1 77) (0 : Int).toNat (0 : Int).toNat (16 : Int).toNat)) : Option am_C)) rfl (by simp only [(show (am_row (am_row zh 56 (zCq (zh.1 56) (zh.1 76) (0 : Int).toNat (0 : Int).toNat (98 : Int).toNat)) 57 (zCq ((am_row zh 56 (zCq (zh.1 56) (zh.1 76) (0 : Int).toNat (0 : Int).toNat (98 : Int).toNat)).1 57) ((am_row zh 56 (zCq (zh.1 56) (zh.1 76) (0 : Int).toNat (0 : Int).toNat (98 : Int).toNat)).1 77) (0 : Int).toNat (0 : Int).toNat (16 : Int).toNat)).1 55 36 = iN zm from by rw [am_row_n _ _ _ (by decide), am_row_n _ _ _ (by decide)]; exact q_m), Int32.ofInt_add, Int32.ofInt_sub, Int32.ofInt_mul, Int32.ofInt_neg])) ?_
    refine wp_run (k := 2) (pc1 := 71) (l1 := [(0, .ref 55), (1, .int (iN (16)))]) (st1 := [.ref 55]) (kr1 := (78, 76)) (h1 := am_wr (am_row (am_row zh 56 (zCq (zh.1 56) (zh.1 76) (0 : Int).toNat (0 : Int).toNat (98 : Int).toNat)) 57 (zCq ((am_row zh 56 (zCq (zh.1 56) (zh.1 76) (0 : Int).toNat (0 : Int).toNat (98 : Int).toNat)).1 57) ((am_row zh 56 (zCq (zh.1 56) (zh.1 76) (0 : Int).toNat (0 : Int).toNat (98 : Int).toNat)).1 77) (0 : Int).toNat (0 : Int).toNat (16 : Int).toNat)) 55 0 (iN (zm))) rfl ?_
    refine wp_call (md1 := am_m_Model_noChanges) (As := [.ref 55]) (rest := []) (kr1 := (78, 76)) rfl (jm_noChanges _ (by omega)) ?_
    rintro _ zg1 ⟨rfl, q_e1⟩
    refine wp_run (k := 2) (pc1 := 78) (l1 := [(0, .ref 55), (1, .int (iN (16)))]) (st1 := [.int (iN (zm))]) (kr1 := (78, 76)) (h1 := zg1) (Eq.trans (b := (some (78, [(0, .ref 55), (1, .int (iN (16)))], [.int (zg1.1 55 0)], (78, 76), zg1) : Option am_C)) rfl (by simp only [(show zg1.1 55 0 = iN zm from by rw [← q_e1, am_row_n _ _ _ (by decide), am_row_s, zUp_n _ _ _ (by decide), zUp_n _ _ _ (by decide), am_wr_at])]; try simp only [Int32.ofInt_add, Int32.ofInt_sub, Int32.ofInt_mul, Int32.ofInt_neg])) ?_
    refine wp_ret (rv := some (.int (iN (zm)))) rfl ?_
    refine ⟨fun _ => ⟨rfl, ?_, ?_, ?_, ?_, ?_, ?_, ?_, ?_⟩, fun y => absurd b_4 y⟩
    · rw [← q_e1]; exact am_fr_r (am_fr_r (am_fr_w (am_fr_r (am_fr_r (am_fr_0 _ _) (by decide) _) (by decide) _) (by decide) _ _) (by decide) _) (by decide) _
    · intro zs y1 y2 y3; rw [← q_e1, am_row_n _ _ _ (by decide), am_row_s, zUp_n _ _ _ y3, zUp_n _ _ _ y2, am_wr_no y1, am_row_n _ _ _ (by decide), am_row_n _ _ _ (by decide)]
    · rw [← q_e1, am_row_n _ _ _ (by decide), am_row_s, zUp_n _ _ _ (by decide), zUp_n _ _ _ (by decide), am_wr_at]
    · rw [← q_e1, am_row_n _ _ _ (by decide), am_row_s, zUp_n _ _ _ (by decide), zUp_s]
    · rw [← q_e1, am_row_n _ _ _ (by decide), am_row_s, zUp_s]
    · rw [← q_e1, am_row_n _ _ _ (by decide), am_row_n _ _ _ (by decide), am_wr_ne (by decide), am_row_n _ _ _ (by decide), am_row_s]; rfl
    · rw [← q_e1, am_row_n _ _ _ (by decide), am_row_n _ _ _ (by decide), am_wr_ne (by decide), am_row_s, am_row_n _ _ _ (by decide), am_row_n _ _ _ (by decide)]; rfl
    · rw [← q_e1, am_row_s, am_row_n _ 58 _ (show 56 ≠ 58 by decide), am_row_n _ 55 _ (show 56 ≠ 55 by decide), am_wr_ne (show 58 ≠ 55 by decide), am_row_n _ _ _ (show 58 ≠ 57 by decide), am_row_n _ _ _ (show 58 ≠ 56 by decide)]
  · refine wp_run (k := 1) (pc1 := 9) (l1 := [(0, .ref 55)]) (st1 := [.int (iN (-5))]) (kr1 := (78, 76)) (h1 := zh) rfl ?_
    refine wp_ret (rv := some (.int (iN (-5)))) rfl ?_
    exact ⟨fun y => absurd b_4 y, fun _ => ⟨rfl, rfl⟩⟩
set_option maxRecDepth 20000 in
set_option maxHeartbeats 4000000 in
theorem jl_mrow (zd : Nat) (q_d : 0 ≤ zd) {zh : am_H} {zs zn : Int} (q_s : 0 ≤ zs ∧ zs < 4) {zQ : Option Value → am_H → Prop} (zk2 : ∀ zg : am_H, zF2 75 zh zg → (∀ j : Nat, zg.2 75 j = if (20 * zs).toNat ≤ j ∧ j < (20 * zs + 20).toNat then 0 else zh.2 75 j) → zQ (some (.int (iN 1))) zg) : ∀ (z_n : Nat) (zg : am_H) (zi : Int) (q_f : zF2 75 zh zg) (q_i : 0 ≤ zi ∧ zi ≤ 20) (q_w : ∀ j : Nat, zg.2 75 j = if (20 * zs).toNat ≤ j ∧ j < (20 * zs + zi).toNat then 0 else zh.2 75 j), 21 - zi < (z_n : Int) → am_wp zd am_m_Model_row 31 [(0, .ref 55), (1, .int (iN (zs))), (2, .int (iN (zn))), (3, .int (iN (zi)))] [] (78, 76) zg (78, 76) zQ := by
  obtain ⟨zd, rfl⟩ : ∃ y_e, zd = y_e + 0 := ⟨zd - 0, by omega⟩
  intro z_n
  induction z_n with
  | zero => intro zg zi q_f q_i q_w q_m; omega
  | succ z_n z_ih =>
    intro zg zi q_f q_i q_w q_m
    refine wp_run (k := 2) (pc1 := 34) (l1 := [(0, .ref 55), (1, .int (iN (zs))), (2, .int (iN (zn))), (3, .int (iN (zi)))]) (st1 := [.int (iN (20)), .int (iN (zi))]) (kr1 := (78, 76)) (h1 := zg) rfl ?_
    refine wp_ge (a := zi) (b := 20) rfl (by omega) (by omega) (fun b_34 => ?_) (fun b_34 => ?_)
    · refine wp_run (k := 1) (pc1 := 56) (l1 := [(0, .ref 55), (1, .int (iN (zs))), (2, .int (iN (zn))), (3, .int (iN (zi)))]) (st1 := [.int (iN (1))]) (kr1 := (78, 76)) (h1 := zg) rfl ?_
      refine wp_ret (rv := some (.int (iN (1)))) rfl ?_
      exact zk2 zg q_f (by rw [show zi = 20 by omega] at q_w; exact q_w)
    · refine wp_run (k := 8) (pc1 := 48) (l1 := [(0, .ref 55), (1, .int (iN (zs))), (2, .int (iN (zn))), (3, .int (iN (zi)))]) (st1 := [.long (Int64.ofNat 0), .int (iN (((20) * (zs)) + (zi))), .ref 75]) (kr1 := (78, 76)) (h1 := zg) (Eq.trans (b := (some (48, [(0, .ref 55), (1, .int (iN (zs))), (2, .int (iN (zn))), (3, .int (iN (zi)))], [.long (Int64.ofNat 0), .int (((iN (20)) * (iN (zs))) + (iN (zi))), .ref 75], (78, 76), zg) : Option am_C)) rfl (by simp only [Int32.ofInt_add, Int32.ofInt_sub, Int32.ofInt_mul, Int32.ofInt_neg])) ?_
      refine wp_last (z := ((20) * (zs)) + (zi)) (j := (20 * zs + zi).toNat) (n := 80) rfl (by decide) (by decide) rfl rfl (by omega) (by omega) (by decide) ?_
      refine wp_run (k := 2) (pc1 := 31) (l1 := [(0, .ref 55), (1, .int (iN (zs))), (2, .int (iN (zn))), (3, .int (iN ((zi) + 1)))]) (st1 := []) (kr1 := (78, 76)) (h1 := am_wl zg 75 ((20 * zs + zi).toNat) (Int64.ofNat 0)) (Eq.trans (b := (some (31, [(0, .ref 55), (1, .int (iN (zs))), (2, .int (iN (zn))), (3, .int ((iN (zi)) + iN (1)))], [], (78, 76), am_wl zg 75 ((20 * zs + zi).toNat) (Int64.ofNat 0)) : Option am_C)) rfl (by simp only [Int32.ofInt_add, Int32.ofInt_sub, Int32.ofInt_mul, Int32.ofInt_neg])) ?_
      refine z_ih (am_wl zg 75 ((20 * zs + zi).toNat) (Int64.ofNat 0)) (zi + 1) (zF2_w q_f _ _) (by omega) (fun j => ?_) (by omega)
      by_cases y1 : j = (20 * zs + zi).toNat
      · subst y1; rw [am_wl_at]; exact (if_pos (by omega)).symm
      · rw [am_wl_no _ _ _ y1, q_w j]
        by_cases y2 : (20 * zs).toNat ≤ j ∧ j < (20 * zs + zi).toNat
        · rw [if_pos y2, if_pos (by omega)]
        · rw [if_neg y2, if_neg (by omega)]
set_option maxRecDepth 20000 in
set_option maxHeartbeats 4000000 in
theorem jR_row (zd : Nat) (q_d : 2 ≤ zd) {zh : am_H} {zs zn : Int} (q_zsr : -2147483648 ≤ zs ∧ zs < 2147483648) (q_znr : -2147483648 ≤ zn ∧ zn < 2147483648) : am_wp zd am_m_Model_row 0 [(0, .ref 55), (1, .int (iN (zs))), (2, .int (iN (zn)))] [] (78, 76) zh (78, 76) (fun rv h' => ((0 ≤ zs ∧ zs < 4 ∧ 0 ≤ zn ∧ zn ≤ 20) → rv = some (.int (iN 1)) ∧ zF2 75 (am_wr zh 74 zs.toNat (iN zn)) h' ∧ ∀ j : Nat, h'.2 75 j = if (20 * zs).toNat ≤ j ∧ j < (20 * zs + 20).toNat then 0 else zh.2 75 j) ∧ (¬ (0 ≤ zs ∧ zs < 4 ∧ 0 ≤ zn ∧ zn ≤ 20) → rv = some (.int (iN (if ¬ (0 ≤ zs ∧ zs < 4) ∨ 20 < zn then -1 else -14))) ∧ zh = h')) := by
  obtain ⟨zd, rfl⟩ : ∃ y_e, zd = y_e + 2 := ⟨zd - 2, by omega⟩
  refine wp_run (k := 1) (pc1 := 1) (l1 := [(0, .ref 55), (1, .int (iN (zs))), (2, .int (iN (zn)))]) (st1 := [.int (iN (zs))]) (kr1 := (78, 76)) (h1 := zh) rfl ?_
  refine wp_call (md1 := am_m_Model_isShelf) (As := [.int (iN (zs))]) (rest := []) (kr1 := (78, 76)) rfl (jm_isShelf _ (by omega) (zs := zs) (by omega)) ?_
  rintro _ _ ⟨rfl, rfl⟩
  refine wp_eqb rfl (fun b_4 => ?_) (fun b_4 => ?_)
  · refine wp_run (k := 1) (pc1 := 14) (l1 := [(0, .ref 55), (1, .int (iN (zs))), (2, .int (iN (zn)))]) (st1 := [.int (iN (-1))]) (kr1 := (78, 76)) (h1 := zh) rfl ?_
    refine wp_ret (rv := some (.int (iN (-1)))) rfl ?_
    exact ⟨fun y => by omega, fun _ => ⟨by rw [if_pos (by omega)], rfl⟩⟩
  · refine wp_run (k := 2) (pc1 := 10) (l1 := [(0, .ref 55), (1, .int (iN (zs))), (2, .int (iN (zn)))]) (st1 := [.int (iN (20)), .int (iN (zn))]) (kr1 := (78, 76)) (h1 := zh) rfl ?_
    refine wp_le (a := zn) (b := 20) rfl (by omega) (by omega) (fun b_10 => ?_) (fun b_10 => ?_)
    · refine wp_run (k := 1) (pc1 := 16) (l1 := [(0, .ref 55), (1, .int (iN (zs))), (2, .int (iN (zn)))]) (st1 := [.int (iN (zn))]) (kr1 := (78, 76)) (h1 := zh) rfl ?_
      refine wp_ge0 (a := zn) rfl (by omega) (fun b_16 => ?_) (fun b_16 => ?_)
      · refine wp_run (k := 4) (pc1 := 28) (l1 := [(0, .ref 55), (1, .int (iN (zs))), (2, .int (iN (zn)))]) (st1 := [.int (iN (zn)), .int (iN (zs)), .ref 74]) (kr1 := (78, 76)) (h1 := zh) rfl ?_
        refine wp_iast (z := zs) (j := zs.toNat) (n := 4) rfl (by decide) (by decide) rfl rfl (by omega) (by omega) (by decide) ?_
        refine wp_run (k := 2) (pc1 := 31) (l1 := [(0, .ref 55), (1, .int (iN (zs))), (2, .int (iN (zn))), (3, .int (iN (0)))]) (st1 := []) (kr1 := (78, 76)) (h1 := am_wr zh 74 (zs.toNat) (iN (zn))) rfl ?_
        exact jl_mrow (zh := am_wr zh 74 (zs.toNat) (iN (zn))) _ (by omega) (by omega) (fun zg y1 y2 => ⟨fun _ => ⟨rfl, y1, y2⟩, fun y => by omega⟩) 30 _ 0 ⟨rfl, fun _ _ => rfl⟩ (by omega) (fun j => (if_neg (by omega)).symm) (by omega)
      · refine wp_run (k := 1) (pc1 := 21) (l1 := [(0, .ref 55), (1, .int (iN (zs))), (2, .int (iN (zn)))]) (st1 := [.int (iN (-14))]) (kr1 := (78, 76)) (h1 := zh) rfl ?_
        refine wp_ret (rv := some (.int (iN (-14)))) rfl ?_
        exact ⟨fun y => by omega, fun _ => ⟨by rw [if_neg (by omega)], rfl⟩⟩
    · refine wp_run (k := 1) (pc1 := 14) (l1 := [(0, .ref 55), (1, .int (iN (zs))), (2, .int (iN (zn)))]) (st1 := [.int (iN (-1))]) (kr1 := (78, 76)) (h1 := zh) rfl ?_
      refine wp_ret (rv := some (.int (iN (-1)))) rfl ?_
      exact ⟨fun y => by omega, fun _ => ⟨by rw [if_pos (by omega)], rfl⟩⟩
set_option maxRecDepth 20000 in
set_option maxHeartbeats 4000000 in
theorem jR_put (zd : Nat) (q_d : 2 ≤ zd) {zh : am_H} {Z : Int → Int} {zs zi : Int} {zx : Int64} (q_z : ∀ k : Int, 0 ≤ k → k < 4 → zh.1 74 k.toNat = iN (Z k) ∧ -1 ≤ Z k ∧ Z k ≤ 20) (q_zsr : -2147483648 ≤ zs ∧ zs < 2147483648) (q_zir : -2147483648 ≤ zi ∧ zi < 2147483648) : am_wp zd am_m_Model_put 0 [(0, .ref 55), (1, .int (iN (zs))), (2, .int (iN (zi))), (3, .long (zx))] [] (78, 76) zh (78, 76) (fun rv h' => ((0 ≤ zs ∧ zs < 4 ∧ 0 ≤ zi ∧ zi < Z zs) → rv = some (.int (iN 1)) ∧ am_wl zh 75 (20 * zs + zi).toNat zx = h') ∧ (¬ (0 ≤ zs ∧ zs < 4 ∧ 0 ≤ zi ∧ zi < Z zs) → rv = some (.int (iN (if ¬ (0 ≤ zs ∧ zs < 4) then -1 else if Z zs < 0 then -11 else -13))) ∧ zh = h')) := by
  obtain ⟨zd, rfl⟩ : ∃ y_e, zd = y_e + 2 := ⟨zd - 2, by omega⟩
  have y_z : 0 ≤ zs → zs < 4 → -1 ≤ Z zs ∧ Z zs ≤ 20 := fun y1 y2 => (q_z zs y1 y2).2
  refine wp_run (k := 1) (pc1 := 1) (l1 := [(0, .ref 55), (1, .int (iN (zs))), (2, .int (iN (zi))), (3, .long (zx))]) (st1 := [.int (iN (zs))]) (kr1 := (78, 76)) (h1 := zh) rfl ?_
  refine wp_call (md1 := am_m_Model_isShelf) (As := [.int (iN (zs))]) (rest := []) (kr1 := (78, 76)) rfl (jm_isShelf _ (by omega) (zs := zs) (by omega)) ?_
  rintro _ _ ⟨rfl, rfl⟩
  refine wp_neb rfl (fun b_4 => ?_) (fun b_4 => ?_)
  · refine wp_run (k := 3) (pc1 := 14) (l1 := [(0, .ref 55), (1, .int (iN (zs))), (2, .int (iN (zi))), (3, .long (zx))]) (st1 := [.int (iN (zs)), .ref 74]) (kr1 := (78, 76)) (h1 := zh) rfl ?_
    refine wp_iald (f := zh.1 74) (z := zs) (j := zs.toNat) (n := 4) (v := iN (Z zs)) rfl rfl (by omega) (by omega) (by decide) ((q_z zs (by omega) (by omega)).1) ?_
    refine wp_ge0 (a := Z zs) rfl (by omega) (fun b_15 => ?_) (fun b_15 => ?_)
    · refine wp_run (k := 6) (pc1 := 29) (l1 := [(0, .ref 55), (1, .int (iN (zs))), (2, .int (iN (zi))), (3, .long (zx))]) (st1 := [.int (iN (zs)), .ref 74, .long (Int64.ofNat 0), .long ((iN (zi)).toInt64)]) (kr1 := (78, 76)) (h1 := zh) rfl ?_
      refine wp_iald (f := zh.1 74) (z := zs) (j := zs.toNat) (n := 4) (v := iN (Z zs)) rfl rfl (by omega) (by omega) (by decide) ((q_z zs (by omega) (by omega)).1) ?_
      refine wp_run (k := 3) (pc1 := 33) (l1 := [(0, .ref 55), (1, .int (iN (zs))), (2, .int (iN (zi))), (3, .long (zx))]) (st1 := [.long ((iN ((Z zs) - (1))).toInt64), .long (Int64.ofNat 0), .long ((iN (zi)).toInt64)]) (kr1 := (78, 76)) (h1 := zh) (Eq.trans (b := (some (33, [(0, .ref 55), (1, .int (iN (zs))), (2, .int (iN (zi))), (3, .long (zx))], [.long (((iN (Z zs)) - (iN (1))).toInt64), .long (Int64.ofNat 0), .long ((iN (zi)).toInt64)], (78, 76), zh) : Option am_C)) rfl (by simp only [Int32.ofInt_add, Int32.ofInt_sub, Int32.ofInt_mul, Int32.ofInt_neg])) ?_
      refine wp_call (md1 := am_m_Model_isIn) (As := [.long ((iN (zi)).toInt64), .long (Int64.ofNat 0), .long ((iN ((Z zs) - (1))).toInt64)]) (rest := []) (kr1 := (78, 76)) rfl (jt_isIn _ (by omega) (i2l_i (z := zi) (by omega)) (show (Int64.ofNat 0 : Int64).toInt = 0 by decide) (i2l_i (z := (Z zs) - (1)) (by omega))) ?_
      rintro _ _ ⟨rfl, rfl⟩
      refine wp_neb rfl (fun b_36 => ?_) (fun b_36 => ?_)
      · refine wp_run (k := 8) (pc1 := 53) (l1 := [(0, .ref 55), (1, .int (iN (zs))), (2, .int (iN (zi))), (3, .long (zx))]) (st1 := [.long (zx), .int (iN (((20) * (zs)) + (zi))), .ref 75]) (kr1 := (78, 76)) (h1 := zh) (Eq.trans (b := (some (53, [(0, .ref 55), (1, .int (iN (zs))), (2, .int (iN (zi))), (3, .long (zx))], [.long (zx), .int (((iN (20)) * (iN (zs))) + (iN (zi))), .ref 75], (78, 76), zh) : Option am_C)) rfl (by simp only [Int32.ofInt_add, Int32.ofInt_sub, Int32.ofInt_mul, Int32.ofInt_neg])) ?_
        refine wp_last (z := ((20) * (zs)) + (zi)) (j := (20 * zs + zi).toNat) (n := 80) rfl (by decide) (by decide) rfl rfl (by omega) (by omega) (by decide) ?_
        refine wp_run (k := 1) (pc1 := 55) (l1 := [(0, .ref 55), (1, .int (iN (zs))), (2, .int (iN (zi))), (3, .long (zx))]) (st1 := [.int (iN (1))]) (kr1 := (78, 76)) (h1 := am_wl zh 75 ((20 * zs + zi).toNat) (zx)) rfl ?_
        refine wp_ret (rv := some (.int (iN (1)))) rfl ?_
        exact ⟨fun _ => ⟨rfl, rfl⟩, fun y => by omega⟩
      · refine wp_run (k := 1) (pc1 := 41) (l1 := [(0, .ref 55), (1, .int (iN (zs))), (2, .int (iN (zi))), (3, .long (zx))]) (st1 := [.int (iN (-13))]) (kr1 := (78, 76)) (h1 := zh) rfl ?_
        refine wp_ret (rv := some (.int (iN (-13)))) rfl ?_
        refine ⟨fun y => by omega, fun _ => ⟨?_, rfl⟩⟩
        rw [show (if ¬ (0 ≤ zs ∧ zs < 4) then -1 else if Z zs < 0 then -11 else -13) = -13 from ?_]
        (repeat' split) <;> first | rfl | omega | contradiction | (exfalso; omega) | (exfalso; rename_i y_x; exact absurd y_x.2.1 (by assumption)) | (exfalso; rename_i y_x; exact y_x ⟨by omega, by assumption, by omega⟩)
    · refine wp_run (k := 1) (pc1 := 20) (l1 := [(0, .ref 55), (1, .int (iN (zs))), (2, .int (iN (zi))), (3, .long (zx))]) (st1 := [.int (iN (-11))]) (kr1 := (78, 76)) (h1 := zh) rfl ?_
      refine wp_ret (rv := some (.int (iN (-11)))) rfl ?_
      refine ⟨fun y => by omega, fun _ => ⟨?_, rfl⟩⟩
      rw [show (if ¬ (0 ≤ zs ∧ zs < 4) then -1 else if Z zs < 0 then -11 else -13) = -11 from ?_]
      (repeat' split) <;> first | rfl | omega | contradiction | (exfalso; omega) | (exfalso; rename_i y_x; exact absurd y_x.2.1 (by assumption)) | (exfalso; rename_i y_x; exact y_x ⟨by omega, by assumption, by omega⟩)
  · refine wp_run (k := 1) (pc1 := 8) (l1 := [(0, .ref 55), (1, .int (iN (zs))), (2, .int (iN (zi))), (3, .long (zx))]) (st1 := [.int (iN (-1))]) (kr1 := (78, 76)) (h1 := zh) rfl ?_
    refine wp_ret (rv := some (.int (iN (-1)))) rfl ?_
    refine ⟨fun y => by omega, fun _ => ⟨?_, rfl⟩⟩
    rw [show (if ¬ (0 ≤ zs ∧ zs < 4) then -1 else if Z zs < 0 then -11 else -13) = -1 from ?_]
    (repeat' split) <;> first | rfl | omega | contradiction | (exfalso; omega) | (exfalso; rename_i y_x; exact absurd y_x.2.1 (by assumption)) | (exfalso; rename_i y_x; exact y_x ⟨by omega, by assumption, by omega⟩)
set_option maxRecDepth 20000 in
set_option maxHeartbeats 4000000 in
theorem jR_get (zd : Nat) (q_d : 2 ≤ zd) {zh : am_H} {Z : Int → Int} {zs zi : Int} (q_z : ∀ k : Int, 0 ≤ k → k < 4 → zh.1 74 k.toNat = iN (Z k) ∧ -1 ≤ Z k ∧ Z k ≤ 20) (q_zsr : -2147483648 ≤ zs ∧ zs < 2147483648) (q_zir : -2147483648 ≤ zi ∧ zi < 2147483648) : am_wp zd am_m_Model_get 0 [(0, .ref 55), (1, .int (iN (zs))), (2, .int (iN (zi)))] [] (78, 76) zh (78, 76) (fun rv h' => rv = some (.long (if (0 ≤ zs ∧ zs < 4 ∧ 0 ≤ zi ∧ zi < Z zs) then zh.2 75 (20 * zs + zi).toNat else (-9223372036854775808 : Int64))) ∧ zh = h') := by
  obtain ⟨zd, rfl⟩ : ∃ y_e, zd = y_e + 2 := ⟨zd - 2, by omega⟩
  have y_z : 0 ≤ zs → zs < 4 → -1 ≤ Z zs ∧ Z zs ≤ 20 := fun y1 y2 => (q_z zs y1 y2).2
  refine wp_run (k := 1) (pc1 := 1) (l1 := [(0, .ref 55), (1, .int (iN (zs))), (2, .int (iN (zi)))]) (st1 := [.int (iN (zs))]) (kr1 := (78, 76)) (h1 := zh) rfl ?_
  refine wp_call (md1 := am_m_Model_isShelf) (As := [.int (iN (zs))]) (rest := []) (kr1 := (78, 76)) rfl (jm_isShelf _ (by omega) (zs := zs) (by omega)) ?_
  rintro _ _ ⟨rfl, rfl⟩
  refine wp_eqb rfl (fun b_4 => ?_) (fun b_4 => ?_)
  · refine wp_run (k := 1) (pc1 := 42) (l1 := [(0, .ref 55), (1, .int (iN (zs))), (2, .int (iN (zi)))]) (st1 := [.long ((-9223372036854775808 : Int64))]) (kr1 := (78, 76)) (h1 := zh) rfl ?_
    refine wp_ret (rv := some (.long ((-9223372036854775808 : Int64)))) rfl ?_
    exact ⟨by rw [if_neg (by omega)], rfl⟩
  · refine wp_run (k := 6) (pc1 := 15) (l1 := [(0, .ref 55), (1, .int (iN (zs))), (2, .int (iN (zi)))]) (st1 := [.int (iN (zs)), .ref 74, .long (Int64.ofNat 0), .long ((iN (zi)).toInt64)]) (kr1 := (78, 76)) (h1 := zh) rfl ?_
    refine wp_iald (f := zh.1 74) (z := zs) (j := zs.toNat) (n := 4) (v := iN (Z zs)) rfl rfl (by omega) (by omega) (by decide) ((q_z zs (by omega) (by omega)).1) ?_
    refine wp_run (k := 3) (pc1 := 19) (l1 := [(0, .ref 55), (1, .int (iN (zs))), (2, .int (iN (zi)))]) (st1 := [.long ((iN ((Z zs) - (1))).toInt64), .long (Int64.ofNat 0), .long ((iN (zi)).toInt64)]) (kr1 := (78, 76)) (h1 := zh) (Eq.trans (b := (some (19, [(0, .ref 55), (1, .int (iN (zs))), (2, .int (iN (zi)))], [.long (((iN (Z zs)) - (iN (1))).toInt64), .long (Int64.ofNat 0), .long ((iN (zi)).toInt64)], (78, 76), zh) : Option am_C)) rfl (by simp only [Int32.ofInt_add, Int32.ofInt_sub, Int32.ofInt_mul, Int32.ofInt_neg])) ?_
    refine wp_call (md1 := am_m_Model_isIn) (As := [.long ((iN (zi)).toInt64), .long (Int64.ofNat 0), .long ((iN ((Z zs) - (1))).toInt64)]) (rest := []) (kr1 := (78, 76)) rfl (jt_isIn _ (by omega) (i2l_i (z := zi) (by omega)) (show (Int64.ofNat 0 : Int64).toInt = 0 by decide) (i2l_i (z := (Z zs) - (1)) (by omega))) ?_
    rintro _ _ ⟨rfl, rfl⟩
    refine wp_eqb rfl (fun b_22 => ?_) (fun b_22 => ?_)
    · refine wp_run (k := 1) (pc1 := 42) (l1 := [(0, .ref 55), (1, .int (iN (zs))), (2, .int (iN (zi)))]) (st1 := [.long ((-9223372036854775808 : Int64))]) (kr1 := (78, 76)) (h1 := zh) rfl ?_
      refine wp_ret (rv := some (.long ((-9223372036854775808 : Int64)))) rfl ?_
      exact ⟨by rw [if_neg (by omega)], rfl⟩
    · refine wp_run (k := 7) (pc1 := 35) (l1 := [(0, .ref 55), (1, .int (iN (zs))), (2, .int (iN (zi)))]) (st1 := [.int (iN (((20) * (zs)) + (zi))), .ref 75]) (kr1 := (78, 76)) (h1 := zh) (Eq.trans (b := (some (35, [(0, .ref 55), (1, .int (iN (zs))), (2, .int (iN (zi)))], [.int (((iN (20)) * (iN (zs))) + (iN (zi))), .ref 75], (78, 76), zh) : Option am_C)) rfl (by simp only [Int32.ofInt_add, Int32.ofInt_sub, Int32.ofInt_mul, Int32.ofInt_neg])) ?_
      refine wp_lald (z := ((20) * (zs)) + (zi)) (j := (20 * zs + zi).toNat) (n := 80) (v := (zh.2 75 (20 * zs + zi).toNat)) rfl (by decide) (by decide) rfl rfl (by omega) (by omega) (by decide) rfl ?_
      refine wp_run (k := 1) (pc1 := 42) (l1 := [(0, .ref 55), (1, .int (iN (zs))), (2, .int (iN (zi)))]) (st1 := [.long ((zh.2 75 (20 * zs + zi).toNat))]) (kr1 := (78, 76)) (h1 := zh) rfl ?_
      refine wp_ret (rv := some (.long ((zh.2 75 (20 * zs + zi).toNat)))) rfl ?_
      exact ⟨by rw [if_pos (by omega)], rfl⟩
set_option maxRecDepth 20000 in
set_option maxHeartbeats 4000000 in
theorem jm_wrongRow (zd : Nat) (q_d : 0 ≤ zd) {zh : am_H} {Z : Int → Int} {zs zi : Int} (q_z : ∀ k : Int, 0 ≤ k → k < 4 → zh.1 74 k.toNat = iN (Z k) ∧ -1 ≤ Z k ∧ Z k ≤ 20) (q_s : 0 ≤ zs ∧ zs < 4) (q_zir : -2147483648 ≤ zi ∧ zi < 2147483648) : am_wp zd am_m_Model_wrongRow 0 [(0, .ref 55), (1, .int (iN (zs))), (2, .int (iN (zi)))] [] (78, 76) zh (78, 76) (fun rv h' => rv = some (.int (iN (if Z zs < 0 then -11 else if zi < 0 then -13 else 0))) ∧ zh = h') := by
  obtain ⟨zd, rfl⟩ : ∃ y_e, zd = y_e + 0 := ⟨zd - 0, by omega⟩
  have y_z : 0 ≤ zs → zs < 4 → -1 ≤ Z zs ∧ Z zs ≤ 20 := fun y1 y2 => (q_z zs y1 y2).2
  refine wp_run (k := 3) (pc1 := 5) (l1 := [(0, .ref 55), (1, .int (iN (zs))), (2, .int (iN (zi)))]) (st1 := [.int (iN (zs)), .ref 74]) (kr1 := (78, 76)) (h1 := zh) rfl ?_
  refine wp_iald (f := zh.1 74) (z := zs) (j := zs.toNat) (n := 4) (v := iN (Z zs)) rfl rfl (by omega) (by omega) (by decide) ((q_z zs (by omega) (by omega)).1) ?_
  refine wp_ge0 (a := Z zs) rfl (by omega) (fun b_6 => ?_) (fun b_6 => ?_)
  · refine wp_run (k := 1) (pc1 := 15) (l1 := [(0, .ref 55), (1, .int (iN (zs))), (2, .int (iN (zi)))]) (st1 := [.int (iN (zi))]) (kr1 := (78, 76)) (h1 := zh) rfl ?_
    refine wp_ge0 (a := zi) rfl (by omega) (fun b_15 => ?_) (fun b_15 => ?_)
    · refine wp_run (k := 1) (pc1 := 24) (l1 := [(0, .ref 55), (1, .int (iN (zs))), (2, .int (iN (zi)))]) (st1 := [.int (iN (0))]) (kr1 := (78, 76)) (h1 := zh) rfl ?_
      refine wp_ret (rv := some (.int (iN (0)))) rfl ?_
      refine ⟨?_, rfl⟩
      rw [show (if Z zs < 0 then -11 else if zi < 0 then -13 else 0) = 0 from ?_]
      (repeat' split) <;> first | rfl | omega | contradiction | (exfalso; omega) | (exfalso; rename_i y_x; exact absurd y_x.2.1 (by assumption)) | (exfalso; rename_i y_x; exact y_x ⟨by omega, by assumption, by omega⟩)
    · refine wp_run (k := 2) (pc1 := 24) (l1 := [(0, .ref 55), (1, .int (iN (zs))), (2, .int (iN (zi)))]) (st1 := [.int (iN (-13))]) (kr1 := (78, 76)) (h1 := zh) rfl ?_
      refine wp_ret (rv := some (.int (iN (-13)))) rfl ?_
      refine ⟨?_, rfl⟩
      rw [show (if Z zs < 0 then -11 else if zi < 0 then -13 else 0) = -13 from ?_]
      (repeat' split) <;> first | rfl | omega | contradiction | (exfalso; omega) | (exfalso; rename_i y_x; exact absurd y_x.2.1 (by assumption)) | (exfalso; rename_i y_x; exact y_x ⟨by omega, by assumption, by omega⟩)
  · refine wp_run (k := 2) (pc1 := 24) (l1 := [(0, .ref 55), (1, .int (iN (zs))), (2, .int (iN (zi)))]) (st1 := [.int (iN (-11))]) (kr1 := (78, 76)) (h1 := zh) rfl ?_
    refine wp_ret (rv := some (.int (iN (-11)))) rfl ?_
    refine ⟨?_, rfl⟩
    rw [show (if Z zs < 0 then -11 else if zi < 0 then -13 else 0) = -11 from ?_]
    (repeat' split) <;> first | rfl | omega | contradiction | (exfalso; omega) | (exfalso; rename_i y_x; exact absurd y_x.2.1 (by assumption)) | (exfalso; rename_i y_x; exact y_x ⟨by omega, by assumption, by omega⟩)
