/-! THE CONSTRUCTORS: the reference -/
set_option maxRecDepth 20000 in
set_option maxHeartbeats 4000000 in
theorem jl_minit (zd : Nat) (q_d : 2 ≤ zd) {zh : am_H}  {zQ : Option Value → am_H → Prop} (zk2 : ∀ zg : am_H, am_fr [56, 57] zh zg → (∀ w p : Int, 0 ≤ w → w < 6 → 0 ≤ p → p < 16 → zg.1 56 (16 * w + p).toNat = iN (zF1 w)) → (∀ p : Int, 0 ≤ p → p < 16 → zg.1 57 p.toNat = iN 0) → zg.1 56 97 = iN 0 → am_wp zd am_m_Model_init 224 [(0, .ref 55), (1, .int (iN (16)))] [] (78, 76) zg (78, 76) zQ) : ∀ (z_n : Nat) (zg : am_H) (zi : Int) (q_fr : am_fr [56, 57] zh zg) (q_A : ∀ w p : Int, 0 ≤ w → w < 6 → 0 ≤ p → p < zi → zg.1 56 (16 * w + p).toNat = iN (zF1 w)) (q_B : ∀ p : Int, 0 ≤ p → p < zi → zg.1 57 p.toNat = iN 0) (q_T : zg.1 56 97 = iN 0) (q_i : 0 ≤ zi ∧ zi ≤ 16), 17 - zi < (z_n : Int) → am_wp zd am_m_Model_init 207 [(0, .ref 55), (1, .int (iN (zi)))] [] (78, 76) zg (78, 76) zQ := by
  obtain ⟨zd, rfl⟩ : ∃ y_e, zd = y_e + 2 := ⟨zd - 2, by omega⟩
  intro z_n
  induction z_n with
  | zero => intro zg zi q_fr q_A q_B q_T q_i q_m; omega
  | succ z_n z_ih =>
    intro zg zi q_fr q_A q_B q_T q_i q_m
    refine wp_run (k := 2) (pc1 := 210) (l1 := [(0, .ref 55), (1, .int (iN (zi)))]) (st1 := [.int (iN (16)), .int (iN (zi))]) (kr1 := (78, 76)) (h1 := zg) rfl ?_
    refine wp_ge (a := zi) (b := 16) rfl (by omega) (by omega) (fun b_210 => ?_) (fun b_210 => ?_)
    · have y_9 : zi = 16 := by omega
      rw [y_9] at q_A q_B ⊢
      exact zk2 zg q_fr q_A q_B q_T
    · refine wp_run (k := 2) (pc1 := 215) (l1 := [(0, .ref 55), (1, .int (iN (zi)))]) (st1 := [.int (iN (zi)), .ref 55]) (kr1 := (78, 76)) (h1 := zg) rfl ?_
      refine wp_call (md1 := am_m_Model_fresh) (As := [.ref 55, .int (iN (zi))]) (rest := []) (kr1 := (78, 76)) rfl (jm_fresh (zp := zi) _ (by omega) (by omega)) ?_
      rintro _ _ ⟨rfl, rfl⟩
      refine wp_run (k := 2) (pc1 := 207) (l1 := [(0, .ref 55), (1, .int (iN ((zi) + 1)))]) (st1 := []) (kr1 := (78, 76)) (h1 := am_row (am_row zg 56 (zFw (zg.1 56) zi.toNat 6)) 57 (zUp (zg.1 57) zi.toNat (iN 0))) (Eq.trans (b := (some (207, [(0, .ref 55), (1, .int ((iN (zi)) + iN (1)))], [], (78, 76), am_row (am_row zg 56 (zFw (zg.1 56) zi.toNat 6)) 57 (zUp (zg.1 57) zi.toNat (iN 0))) : Option am_C)) rfl (by simp only [Int32.ofInt_add, Int32.ofInt_sub, Int32.ofInt_mul, Int32.ofInt_neg])) ?_
      refine z_ih (am_row (am_row zg 56 (zFw (zg.1 56) zi.toNat 6)) 57 (zUp (zg.1 57) zi.toNat (iN 0))) (zi + 1) (am_fr_r (am_fr_r q_fr (by decide) _) (by decide) _) (fun w p y1 y2 y3 y4 => ?_) (fun p y1 y2 => ?_) ?_ (by omega) (by omega)
      · rw [am_row_n _ _ _ (by decide), am_row_s]
        by_cases y5 : p = zi
        · rw [y5, show (16 * w + zi).toNat = 16 * w.toNat + zi.toNat by omega, zFw_i _ _ _ 6 (by omega), show (w.toNat : Int) = w by omega]
        · rw [zFw_o _ _ _ 6 (fun v y => by omega)]; exact q_A w p y1 y2 y3 (by omega)
      · rw [am_row_s]
        by_cases y5 : p = zi
        · rw [y5, zUp_s]
        · rw [zUp_n _ _ _ (by omega)]; exact q_B p y1 (by omega)
      · rw [am_row_n _ _ _ (by decide), am_row_s, zFw_o _ _ _ 6 (fun v y => by omega)]; exact q_T
set_option maxRecDepth 20000 in
set_option maxHeartbeats 4000000 in
theorem ji_Model_init (zd : Nat) (q_d : 3 ≤ zd) {zh : am_H} (q_z : zZ 55 zh) : am_wp zd am_m_Model_init 0 [(0, .ref 55)] [] (56, 54) zh (78, 76) (fun rv h' => rv = none ∧ am_fr [55, 56, 57, 58, 74] zh h' ∧ zMm (h'.1 55) (h'.1 56) 8 (fun w _ => zF1 w) 999 0 ∧ (∀ p : Int, 0 ≤ p → p < 8 → h'.1 57 p.toNat = iN 0) ∧ h'.1 55 4 = iN 0 ∧ h'.1 55 5 = iN 0 ∧ zRw (h'.1 58) 0 8 (fun w _ => zF1 w) 999 0 ∧ h'.1 55 7 = iN 0 ∧ h'.1 55 36 = iN 0 ∧ ∀ k : Int, 0 ≤ k → k < 4 → h'.1 74 k.toNat = iN (-1)) := by
  obtain ⟨zd, rfl⟩ : ∃ y_e, zd = y_e + 3 := ⟨zd - 3, by omega⟩
  refine wp_run (k := 1) (pc1 := 1) (l1 := [(0, .ref 55)]) (st1 := [.ref 55]) (kr1 := (56, 54)) (h1 := zh) rfl ?_
  refine wp_now (rest := []) rfl ?_
  refine wp_run (k := 6) (pc1 := 15) (l1 := [(0, .ref 55)]) (st1 := [.ref 56, .ref 55]) (kr1 := (57, 54)) (h1 := am_z (am_wr zh 55 0 (iN (8))) 56) rfl ?_
  rw [am_z_0 (zZ_wr (zZ_le (zj := 56) q_z (by decide)) (by decide)) (by decide)]
  refine wp_run (k := 4) (pc1 := 23) (l1 := [(0, .ref 55)]) (st1 := [.ref 57, .ref 55]) (kr1 := (58, 55)) (h1 := am_z (am_wr zh 55 0 (iN (8))) 57) rfl ?_
  rw [am_z_0 (zZ_wr (zZ_le (zj := 57) q_z (by decide)) (by decide)) (by decide)]
  refine wp_run (k := 4) (pc1 := 32) (l1 := [(0, .ref 55)]) (st1 := [.ref 58, .ref 55]) (kr1 := (59, 56)) (h1 := am_z (am_wr zh 55 0 (iN (8))) 58) rfl ?_
  rw [am_z_0 (zZ_wr (zZ_le (zj := 58) q_z (by decide)) (by decide)) (by decide)]
  refine wp_run (k := 4) (pc1 := 40) (l1 := [(0, .ref 55)]) (st1 := [.ref 59, .ref 55]) (kr1 := (60, 57)) (h1 := am_z (am_wr zh 55 0 (iN (8))) 59) rfl ?_
  rw [am_z_0 (zZ_wr (zZ_le (zj := 59) q_z (by decide)) (by decide)) (by decide)]
  refine wp_run (k := 4) (pc1 := 48) (l1 := [(0, .ref 55)]) (st1 := [.ref 60, .ref 55]) (kr1 := (61, 58)) (h1 := am_z (am_wr zh 55 0 (iN (8))) 60) rfl ?_
  rw [am_z_0 (zZ_wr (zZ_le (zj := 60) q_z (by decide)) (by decide)) (by decide)]
  refine wp_run (k := 4) (pc1 := 56) (l1 := [(0, .ref 55)]) (st1 := [.ref 61, .ref 55]) (kr1 := (62, 59)) (h1 := am_z (am_wr zh 55 0 (iN (8))) 61) rfl ?_
  rw [am_z_0 (zZ_wr (zZ_le (zj := 61) q_z (by decide)) (by decide)) (by decide)]
  refine wp_run (k := 4) (pc1 := 64) (l1 := [(0, .ref 55)]) (st1 := [.ref 62, .ref 55]) (kr1 := (63, 60)) (h1 := am_z (am_wr zh 55 0 (iN (8))) 62) rfl ?_
  rw [am_z_0 (zZ_wr (zZ_le (zj := 62) q_z (by decide)) (by decide)) (by decide)]
  refine wp_run (k := 4) (pc1 := 72) (l1 := [(0, .ref 55)]) (st1 := [.ref 63, .ref 55]) (kr1 := (64, 61)) (h1 := am_z (am_wr zh 55 0 (iN (8))) 63) rfl ?_
  rw [am_z_0 (zZ_wr (zZ_le (zj := 63) q_z (by decide)) (by decide)) (by decide)]
  refine wp_run (k := 4) (pc1 := 80) (l1 := [(0, .ref 55)]) (st1 := [.ref 64, .ref 55]) (kr1 := (65, 62)) (h1 := am_z (am_wr zh 55 0 (iN (8))) 64) rfl ?_
  rw [am_z_0 (zZ_wr (zZ_le (zj := 64) q_z (by decide)) (by decide)) (by decide)]
  refine wp_run (k := 4) (pc1 := 88) (l1 := [(0, .ref 55)]) (st1 := [.ref 65, .ref 55]) (kr1 := (66, 63)) (h1 := am_z (am_wr zh 55 0 (iN (8))) 65) rfl ?_
  rw [am_z_0 (zZ_wr (zZ_le (zj := 65) q_z (by decide)) (by decide)) (by decide)]
  refine wp_run (k := 4) (pc1 := 96) (l1 := [(0, .ref 55)]) (st1 := [.ref 66, .ref 55]) (kr1 := (67, 64)) (h1 := am_z (am_wr zh 55 0 (iN (8))) 66) rfl ?_
  rw [am_z_0 (zZ_wr (zZ_le (zj := 66) q_z (by decide)) (by decide)) (by decide)]
  refine wp_run (k := 4) (pc1 := 104) (l1 := [(0, .ref 55)]) (st1 := [.ref 67, .ref 55]) (kr1 := (68, 65)) (h1 := am_z (am_wr zh 55 0 (iN (8))) 67) rfl ?_
  rw [am_z_0 (zZ_wr (zZ_le (zj := 67) q_z (by decide)) (by decide)) (by decide)]
  refine wp_run (k := 4) (pc1 := 112) (l1 := [(0, .ref 55)]) (st1 := [.ref 68, .ref 55]) (kr1 := (69, 66)) (h1 := am_z (am_wr zh 55 0 (iN (8))) 68) rfl ?_
  rw [am_z_0 (zZ_wr (zZ_le (zj := 68) q_z (by decide)) (by decide)) (by decide)]
  refine wp_run (k := 4) (pc1 := 121) (l1 := [(0, .ref 55)]) (st1 := [.ref 69, .ref 55]) (kr1 := (70, 67)) (h1 := am_z (am_wr zh 55 0 (iN (8))) 69) rfl ?_
  rw [am_z_0 (zZ_wr (zZ_le (zj := 69) q_z (by decide)) (by decide)) (by decide)]
  refine wp_run (k := 4) (pc1 := 130) (l1 := [(0, .ref 55)]) (st1 := [.ref 70, .ref 55]) (kr1 := (71, 68)) (h1 := am_z (am_wr zh 55 0 (iN (8))) 70) rfl ?_
  rw [am_z_0 (zZ_wr (zZ_le (zj := 70) q_z (by decide)) (by decide)) (by decide)]
  refine wp_run (k := 4) (pc1 := 138) (l1 := [(0, .ref 55)]) (st1 := [.ref 71, .ref 55]) (kr1 := (72, 69)) (h1 := am_z (am_wr zh 55 0 (iN (8))) 71) rfl ?_
  rw [am_z_0 (zZ_wr (zZ_le (zj := 71) q_z (by decide)) (by decide)) (by decide)]
  refine wp_run (k := 4) (pc1 := 146) (l1 := [(0, .ref 55)]) (st1 := [.ref 72, .ref 55]) (kr1 := (73, 70)) (h1 := am_z (am_wr zh 55 0 (iN (8))) 72) rfl ?_
  rw [am_z_0 (zZ_wr (zZ_le (zj := 72) q_z (by decide)) (by decide)) (by decide)]
  refine wp_run (k := 4) (pc1 := 155) (l1 := [(0, .ref 55)]) (st1 := [.ref 73, .ref 55]) (kr1 := (74, 71)) (h1 := am_z (am_wr zh 55 0 (iN (8))) 73) rfl ?_
  rw [am_z_0 (zZ_wr (zZ_le (zj := 73) q_z (by decide)) (by decide)) (by decide)]
  refine wp_run (k := 4) (pc1 := 162) (l1 := [(0, .ref 55)]) (st1 := [.ref 74, .ref 55]) (kr1 := (75, 72)) (h1 := am_z (am_wr zh 55 0 (iN (8))) 74) rfl ?_
  rw [am_z_0 (zZ_wr (zZ_le (zj := 74) q_z (by decide)) (by decide)) (by decide)]
  refine wp_run (k := 3) (pc1 := 165) (l1 := [(0, .ref 55)]) (st1 := [.int (iN (-1)), .int (iN (0)), .ref 74, .ref 74, .ref 55]) (kr1 := (75, 72)) (h1 := am_wr zh 55 0 (iN (8))) rfl ?_
  refine wp_iast (z := 0) (j := 0) (n := 4) rfl (by decide) (by decide) rfl rfl (by omega) (by omega) (by decide) ?_
  refine wp_run (k := 3) (pc1 := 169) (l1 := [(0, .ref 55)]) (st1 := [.int (iN (-1)), .int (iN (1)), .ref 74, .ref 74, .ref 55]) (kr1 := (75, 72)) (h1 := am_wr (am_wr zh 55 0 (iN (8))) 74 (0) (iN (-1))) rfl ?_
  refine wp_iast (z := 1) (j := 1) (n := 4) rfl (by decide) (by decide) rfl rfl (by omega) (by omega) (by decide) ?_
  refine wp_run (k := 3) (pc1 := 173) (l1 := [(0, .ref 55)]) (st1 := [.int (iN (-1)), .int (iN (2)), .ref 74, .ref 74, .ref 55]) (kr1 := (75, 72)) (h1 := am_wr (am_wr (am_wr zh 55 0 (iN (8))) 74 (0) (iN (-1))) 74 (1) (iN (-1))) rfl ?_
  refine wp_iast (z := 2) (j := 2) (n := 4) rfl (by decide) (by decide) rfl rfl (by omega) (by omega) (by decide) ?_
  refine wp_run (k := 3) (pc1 := 177) (l1 := [(0, .ref 55)]) (st1 := [.int (iN (-1)), .int (iN (3)), .ref 74, .ref 74, .ref 55]) (kr1 := (75, 72)) (h1 := am_wr (am_wr (am_wr (am_wr zh 55 0 (iN (8))) 74 (0) (iN (-1))) 74 (1) (iN (-1))) 74 (2) (iN (-1))) rfl ?_
  refine wp_iast (z := 3) (j := 3) (n := 4) rfl (by decide) (by decide) rfl rfl (by omega) (by omega) (by decide) ?_
  refine wp_run (k := 4) (pc1 := 186) (l1 := [(0, .ref 55)]) (st1 := [.ref 75, .ref 55]) (kr1 := (76, 73)) (h1 := am_z (am_wr (am_wr (am_wr (am_wr (am_wr zh 55 0 (iN (8))) 74 (0) (iN (-1))) 74 (1) (iN (-1))) 74 (2) (iN (-1))) 74 (3) (iN (-1))) 75) rfl ?_
  rw [am_z_0 (zZ_wr (zZ_wr (zZ_wr (zZ_wr (zZ_wr (zZ_le (zj := 75) q_z (by decide)) (by decide)) (by decide)) (by decide)) (by decide)) (by decide)) (by decide)]
  refine wp_run (k := 4) (pc1 := 194) (l1 := [(0, .ref 55)]) (st1 := [.ref 76, .ref 55]) (kr1 := (77, 74)) (h1 := am_z (am_wr (am_wr (am_wr (am_wr (am_wr zh 55 0 (iN (8))) 74 (0) (iN (-1))) 74 (1) (iN (-1))) 74 (2) (iN (-1))) 74 (3) (iN (-1))) 76) rfl ?_
  rw [am_z_0 (zZ_wr (zZ_wr (zZ_wr (zZ_wr (zZ_wr (zZ_le (zj := 76) q_z (by decide)) (by decide)) (by decide)) (by decide)) (by decide)) (by decide)) (by decide)]
  refine wp_run (k := 4) (pc1 := 202) (l1 := [(0, .ref 55)]) (st1 := [.ref 77, .ref 55]) (kr1 := (78, 75)) (h1 := am_z (am_wr (am_wr (am_wr (am_wr (am_wr zh 55 0 (iN (8))) 74 (0) (iN (-1))) 74 (1) (iN (-1))) 74 (2) (iN (-1))) 74 (3) (iN (-1))) 77) rfl ?_
  rw [am_z_0 (zZ_wr (zZ_wr (zZ_wr (zZ_wr (zZ_wr (zZ_le (zj := 77) q_z (by decide)) (by decide)) (by decide)) (by decide)) (by decide)) (by decide)) (by decide)]
  refine wp_run (k := 3) (pc1 := 207) (l1 := [(0, .ref 55), (1, .int (iN (0)))]) (st1 := []) (kr1 := (78, 76)) (h1 := am_wr (am_wr (am_wr (am_wr (am_wr zh 55 0 (iN (8))) 74 (0) (iN (-1))) 74 (1) (iN (-1))) 74 (2) (iN (-1))) 74 (3) (iN (-1))) rfl ?_
  refine jl_minit (zh := am_wr (am_wr (am_wr (am_wr (am_wr zh 55 0 (iN (8))) 74 (0) (iN (-1))) 74 (1) (iN (-1))) 74 (2) (iN (-1))) 74 (3) (iN (-1))) _ (by omega) ?_ 18 (am_wr (am_wr (am_wr (am_wr (am_wr zh 55 0 (iN (8))) 74 (0) (iN (-1))) 74 (1) (iN (-1))) 74 (2) (iN (-1))) 74 (3) (iN (-1))) 0 (am_fr_0 _ _) (fun w p y1 y2 y3 y4 => by omega) (fun p y1 y2 => by omega) ?_ (by omega) (by omega)
  rotate_left
  · rw [am_wr_ne (by decide), am_wr_ne (by decide), am_wr_ne (by decide), am_wr_ne (by decide), am_wr_ne (by decide), (q_z 56 (by decide) (by decide)).1]; exact iN_0.symm
  intro zg q_fr q_A q_B q_T
  have q_f0 : am_fr [55, 74] zh (am_wr (am_wr (am_wr (am_wr (am_wr zh 55 0 (iN (8))) 74 (0) (iN (-1))) 74 (1) (iN (-1))) 74 (2) (iN (-1))) 74 (3) (iN (-1))) := am_fr_w (am_fr_w (am_fr_w (am_fr_w (am_fr_w (am_fr_0 _ _) (by decide) _ _) (by decide) _ _) (by decide) _ _) (by decide) _ _) (by decide) _ _
  have q_55 : ∀ j : Nat, zg.1 55 j = if j = 0 then iN 8 else iN 0 := by
    intro j
    rw [q_fr.2 55 (by decide), am_wr_ne (by decide), am_wr_ne (by decide), am_wr_ne (by decide), am_wr_ne (by decide), am_wr_eq, (q_z 55 (by decide) (by decide)).1, iN_0]
  have q_74 : ∀ k : Int, 0 ≤ k → k < 4 → zg.1 74 k.toNat = iN (-1) := by
    intro k y1 y2
    rw [q_fr.2 74 (by decide)]
    rcases (show k = 0 ∨ k = 1 ∨ k = 2 ∨ k = 3 by omega) with rfl | rfl | rfl | rfl
    · exact (am_wr_no (by decide)).trans ((am_wr_no (by decide)).trans ((am_wr_no (by decide)).trans am_wr_at))
    · exact (am_wr_no (by decide)).trans ((am_wr_no (by decide)).trans am_wr_at)
    · exact (am_wr_no (by decide)).trans am_wr_at
    · exact am_wr_at
  refine wp_run (k := 4) (pc1 := 233) (l1 := [(0, .ref 55), (1, .int (iN (16)))]) (st1 := [.int (iN (999)), .int (iN (96)), .ref 56]) (kr1 := (78, 76)) (h1 := zg) rfl ?_
  refine wp_iast (z := 96) (j := 96) (n := 98) rfl (by decide) (by decide) rfl rfl (by omega) (by omega) (by decide) ?_
  refine wp_run (k := 1) (pc1 := 235) (l1 := [(0, .ref 55), (1, .int (iN (16)))]) (st1 := [.ref 55]) (kr1 := (78, 76)) (h1 := am_wr zg 56 (96) (iN (999))) rfl ?_
  refine wp_call (md1 := am_m_Model_noChanges) (As := [.ref 55]) (rest := []) (kr1 := (78, 76)) rfl (jm_noChanges _ (by omega)) ?_
  rintro _ zg1 ⟨rfl, q_e1⟩
  refine wp_ret (rv := none) rfl ?_
  have q_nm : zMm ((am_wr zg 56 96 (iN (999))).1 55) ((am_wr zg 56 96 (iN (999))).1 56) 8 (fun w _ => zF1 w) 999 0 := ⟨by rw [am_wr_ne (by decide), q_55]; rfl, fun w p y1 y2 y3 y4 => by rw [am_wr_no (by omega)]; exact q_A w p y1 y2 y3 (by omega), am_wr_at, by rw [am_wr_no (by decide)]; exact q_T⟩
  refine ⟨rfl, ?_, ?_, ?_, ?_, ?_, ?_, ?_, ?_, ?_⟩
  · rw [← q_e1]; exact am_fr_r (am_fr_r (am_fr_w (am_fr_t (am_fr_m q_f0 (by decide)) (am_fr_m q_fr (by decide))) (by decide) _ _) (by decide) _) (by decide) _
  · refine zMm_g q_nm ?_ ?_
    · rw [← q_e1, am_row_n _ _ _ (by decide), am_row_s, zUp_n _ _ _ (by decide), zUp_n _ _ _ (by decide)]
    · rw [← q_e1, am_row_n _ _ _ (by decide), am_row_n _ _ _ (by decide)]
  · intro p y1 y2; rw [← q_e1, am_row_n _ _ _ (by decide), am_row_n _ _ _ (by decide), am_wr_ne (by decide)]; exact q_B p y1 (by omega)
  · rw [← q_e1, am_row_n _ _ _ (by decide), am_row_s, zUp_n _ _ _ (by decide), zUp_s]
  · rw [← q_e1, am_row_n _ _ _ (by decide), am_row_s, zUp_s]
  · rw [← q_e1, am_row_s]
    refine zRw_cp (zo := 0) (by omega) (by omega) (by omega) (zRw_m q_nm) (fun j z1 z2 => ?_)
    rw [zCq_i _ _ (by omega)]
    exact congrArg ((am_wr zg 56 96 (iN (999))).1 56) (by omega)
  · rw [← q_e1, am_row_n _ _ _ (by decide), am_row_s, zUp_n _ _ _ (by decide), zUp_n _ _ _ (by decide), am_wr_ne (by decide), q_55]; rfl
  · rw [← q_e1, am_row_n _ _ _ (by decide), am_row_s, zUp_n _ _ _ (by decide), zUp_n _ _ _ (by decide), am_wr_ne (by decide), q_55]; rfl
  · intro k y1 y2; rw [← q_e1, am_row_n _ _ _ (by decide), am_row_n _ _ _ (by decide), am_wr_ne (by decide)]; exact q_74 k y1 y2
