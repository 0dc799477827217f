/-! TEXTS THAT ARE READ: the reference tells them -/
theorem zMm_up {fo fc : Nat → Int32} {N : Int} {G : Int → Int → Int} {S T zw zp zv : Int} (q_N : N ≤ 16) (q : zMm fo fc N G S T) (q_w : 0 ≤ zw ∧ zw < 6) (q_p : 0 ≤ zp ∧ zp < N) : zMm fo (zUp fc (16 * zw + zp).toNat (iN zv)) N (zG1 G zw zp zv) S T := by
  refine ⟨q.1, fun w p q1 q2 q3 q4 => ?_, ?_, ?_⟩
  · unfold zG1
    by_cases q5 : w = zw ∧ p = zp
    · rw [if_pos q5, q5.1, q5.2]
      exact zUp_s _ _ _
    · rw [if_neg q5]
      exact (zUp_n _ _ _ (by omega)).trans (q.2.1 w p q1 q2 q3 q4)
  · exact (zUp_n _ _ _ (by omega)).trans q.2.2.1
  · exact (zUp_n _ _ _ (by omega)).trans q.2.2.2
theorem zMm_wr {zh : am_H} {N : Int} {G : Int → Int → Int} {S T zw zp zv : Int} (q_N : N ≤ 16) (q : zMm (zh.1 55) (zh.1 56) N G S T) (q_w : 0 ≤ zw ∧ zw < 6) (q_p : 0 ≤ zp ∧ zp < N) {zj : Int} (q_j : zj = 16 * zw + zp) : zMm ((am_wr zh 56 zj.toNat (iN zv)).1 55) ((am_wr zh 56 zj.toNat (iN zv)).1 56) N (zG1 G zw zp zv) S T := by
  rw [am_wr_row, am_row_s, am_row_n _ _ _ (by decide), q_j]
  exact zMm_up q_N q q_w q_p
theorem zS3_i (zh : am_H) (x f : Int) : am_wr (am_wr zh 55 8 (iN x)) 55 10 (iN f) = zS3 zh x f (zh.1 55 11).toInt := by
  unfold zS3
  rw [iN_self, am_wr_sw2 _ (show 8 ≠ 10 by decide), am_wr_sw2 _ (show 8 ≠ 11 by decide), am_wr_sw2 _ (show 10 ≠ 11 by decide), am_wr_id, am_wr_sw2 _ (show 10 ≠ 8 by decide)]
set_option maxRecDepth 20000 in
set_option maxHeartbeats 4000000 in
theorem jl_ctell (zd : Nat) (q_d : 6 ≤ zd) {zh : am_H} {N : Int} {G : Int → Int → Int} {S T zw zp zv zm zj : Int} (q_t : zh.1 55 12 = iN 1) (q_N : 1 ≤ N ∧ N ≤ 16) (q_w : 0 ≤ zw ∧ zw < 6) (q_p : -1 ≤ zp ∧ (zp < N ∨ zp = -1)) {zQ : Option Value → am_H → Prop} (zk : ∀ (zb : am_H) (zK : Int → Int → Int), am_fr [56] zh zb → zMm (zb.1 55) (zb.1 56) N zK S T → (∀ w p : Int, zK w p = if w = zw ∧ (0 ≤ p ∧ p < N) ∧ (zp = -1 ∨ p = zp) then zv else G w p) → zQ (some (.int (iN 1))) (zS3 zb zj (-1) zv)) : ∀ (z_n : Nat) (zb : am_H) (zk0 : Int) (zK : Int → Int → Int) (q_fr : am_fr [56] zh zb) (q_nm1 : zMm (zb.1 55) (zb.1 56) N zK S T) (q_k : 0 ≤ zk0 ∧ zk0 ≤ N) (q_G : ∀ w p : Int, zK w p = if w = zw ∧ (0 ≤ p ∧ p < zk0) ∧ (zp = -1 ∨ p = zp) then zv else G w p), N - zk0 < (z_n : Int) → am_wp zd am_m_Model_isClause 76 [(0, .ref 55), (1, .int (iN (zw))), (2, .int (iN (zp))), (3, .int (iN (zm))), (4, .int (iN (zk0)))] [] (78, 76) (zS3 zb zj (-1) zv) (78, 76) zQ := by
  obtain ⟨zd, rfl⟩ : ∃ y_e, zd = y_e + 6 := ⟨zd - 6, by omega⟩
  intro z_n
  induction z_n with
  | zero => intro zb zk0 zK q_fr q_nm1 q_k q_G q_m; omega
  | succ z_n z_ih =>
    intro zb zk0 zK q_fr q_nm1 q_k q_G q_m
    refine wp_run (k := 3) (pc1 := 82) (l1 := [(0, .ref 55), (1, .int (iN (zw))), (2, .int (iN (zp))), (3, .int (iN (zm))), (4, .int (iN (zk0)))]) (st1 := [.int (iN (N)), .int (iN (zk0))]) (kr1 := (78, 76)) (h1 := zS3 zb zj (-1) zv) (Eq.trans (b := (some (82, [(0, .ref 55), (1, .int (iN (zw))), (2, .int (iN (zp))), (3, .int (iN (zm))), (4, .int (iN (zk0)))], [.int ((zS3 zb zj (-1) zv).1 55 0), .int (iN (zk0))], (78, 76), zS3 zb zj (-1) zv) : Option am_C)) rfl (by simp only [(show (zS3 zb zj (-1) zv).1 55 0 = iN (N) from (zS3_s _ _ _ _ (by decide) (by decide) (by decide)).trans (q_nm1.1)), Int32.ofInt_add, Int32.ofInt_sub, Int32.ofInt_mul, Int32.ofInt_neg])) ?_
    refine wp_ge (a := zk0) (b := N) rfl (by omega) (by omega) (fun b_82 => ?_) (fun b_82 => ?_)
    · refine wp_run (k := 1) (pc1 := 126) (l1 := [(0, .ref 55), (1, .int (iN (zw))), (2, .int (iN (zp))), (3, .int (iN (zm))), (4, .int (iN (zk0)))]) (st1 := [.int (iN (1))]) (kr1 := (78, 76)) (h1 := zS3 zb zj (-1) zv) rfl ?_
      refine wp_ret (rv := some (.int (iN (1)))) rfl ?_
      exact zk zb zK q_fr q_nm1 (fun w p => by rw [q_G w p, show zk0 = N by omega])
    · refine wp_run (k := 2) (pc1 := 89) (l1 := [(0, .ref 55), (1, .int (iN (zw))), (2, .int (iN (zp))), (3, .int (iN (zm))), (4, .int (iN (zk0)))]) (st1 := [.int (iN (1))]) (kr1 := (78, 76)) (h1 := zS3 zb zj (-1) zv) (Eq.trans (b := (some (89, [(0, .ref 55), (1, .int (iN (zw))), (2, .int (iN (zp))), (3, .int (iN (zm))), (4, .int (iN (zk0)))], [.int ((zS3 zb zj (-1) zv).1 55 12)], (78, 76), zS3 zb zj (-1) zv) : Option am_C)) rfl (by simp only [(show (zS3 zb zj (-1) zv).1 55 12 = iN (1) from (zS3_s _ _ _ _ (by decide) (by decide) (by decide)).trans ((congrFun (q_fr.2 55 (by decide)) 12).trans q_t)), Int32.ofInt_add, Int32.ofInt_sub, Int32.ofInt_mul, Int32.ofInt_neg])) ?_
      refine wp_eq0 (a := 1) rfl (by omega) (fun b_89 => ?_) (fun b_89 => ?_)
      · exact absurd b_89 (by decide)
      · refine wp_run (k := 2) (pc1 := 94) (l1 := [(0, .ref 55), (1, .int (iN (zw))), (2, .int (iN (zp))), (3, .int (iN (zm))), (4, .int (iN (zk0)))]) (st1 := [.int (iN (-1)), .int (iN (zp))]) (kr1 := (78, 76)) (h1 := zS3 zb zj (-1) zv) rfl ?_
        refine wp_eq (a := zp) (b := -1) rfl (by omega) (by omega) (fun b_94 => ?_) (fun b_94 => ?_)
        · refine wp_run (k := 9) (pc1 := 118) (l1 := [(0, .ref 55), (1, .int (iN (zw))), (2, .int (iN (zp))), (3, .int (iN (zm))), (4, .int (iN (zk0)))]) (st1 := [.int (iN (zv)), .int (iN (((16) * (zw)) + (zk0))), .ref 56]) (kr1 := (78, 76)) (h1 := zS3 zb zj (-1) zv) (Eq.trans (b := (some (118, [(0, .ref 55), (1, .int (iN (zw))), (2, .int (iN (zp))), (3, .int (iN (zm))), (4, .int (iN (zk0)))], [.int ((zS3 zb zj (-1) zv).1 55 11), .int (((iN (16)) * (iN (zw))) + (iN (zk0))), .ref 56], (78, 76), zS3 zb zj (-1) zv) : Option am_C)) rfl (by simp only [(show (zS3 zb zj (-1) zv).1 55 11 = iN (zv) from (zS3_a _ _ _ _).2.2), Int32.ofInt_add, Int32.ofInt_sub, Int32.ofInt_mul, Int32.ofInt_neg])) ?_
          refine wp_iast (z := ((16) * (zw)) + (zk0)) (j := ((16) * (zw) + (zk0) : Int).toNat) (n := 98) rfl (by decide) (by decide) rfl rfl (by omega) (by omega) (by decide) ?_
          refine wp_run (k := 2) (pc1 := 76) (l1 := [(0, .ref 55), (1, .int (iN (zw))), (2, .int (iN (zp))), (3, .int (iN (zm))), (4, .int (iN ((zk0) + 1)))]) (st1 := []) (kr1 := (78, 76)) (h1 := am_wr (zS3 zb zj (-1) zv) 56 (((16) * (zw) + (zk0) : Int).toNat) (iN (zv))) (Eq.trans (b := (some (76, [(0, .ref 55), (1, .int (iN (zw))), (2, .int (iN (zp))), (3, .int (iN (zm))), (4, .int ((iN (zk0)) + iN (1)))], [], (78, 76), am_wr (zS3 zb zj (-1) zv) 56 (((16) * (zw) + (zk0) : Int).toNat) (iN (zv))) : Option am_C)) rfl (by simp only [Int32.ofInt_add, Int32.ofInt_sub, Int32.ofInt_mul, Int32.ofInt_neg])) ?_
          rw [zS3_w _ _ _ _ (by decide)]
          refine z_ih (am_wr zb 56 ((16) * (zw) + (zk0) : Int).toNat (iN zv)) (zk0 + 1) (zG1 zK zw zk0 zv) (am_fr_w q_fr (by decide) _ _) (zMm_wr q_N.2 q_nm1 q_w (by omega) rfl) (by omega) ?_ (by omega)
          intro w p
          unfold zG1
          by_cases y1 : w = zw ∧ p = zk0
          · rw [if_pos y1, if_pos (by omega)]
          · rw [if_neg y1, q_G w p]
            by_cases y2 : w = zw ∧ (0 ≤ p ∧ p < zk0) ∧ (zp = -1 ∨ p = zp)
            · rw [if_pos y2, if_pos (by omega)]
            · rw [if_neg y2, if_neg (by omega)]
        · refine wp_run (k := 2) (pc1 := 100) (l1 := [(0, .ref 55), (1, .int (iN (zw))), (2, .int (iN (zp))), (3, .int (iN (zm))), (4, .int (iN (zk0)))]) (st1 := [.int (iN (zk0)), .int (iN (zp))]) (kr1 := (78, 76)) (h1 := zS3 zb zj (-1) zv) rfl ?_
          refine wp_ne (a := zp) (b := zk0) rfl (by omega) (by omega) (fun b_100 => ?_) (fun b_100 => ?_)
          · refine wp_run (k := 2) (pc1 := 76) (l1 := [(0, .ref 55), (1, .int (iN (zw))), (2, .int (iN (zp))), (3, .int (iN (zm))), (4, .int (iN ((zk0) + 1)))]) (st1 := []) (kr1 := (78, 76)) (h1 := zS3 zb zj (-1) zv) (Eq.trans (b := (some (76, [(0, .ref 55), (1, .int (iN (zw))), (2, .int (iN (zp))), (3, .int (iN (zm))), (4, .int ((iN (zk0)) + iN (1)))], [], (78, 76), zS3 zb zj (-1) zv) : Option am_C)) rfl (by simp only [Int32.ofInt_add, Int32.ofInt_sub, Int32.ofInt_mul, Int32.ofInt_neg])) ?_
            refine z_ih zb (zk0 + 1) zK q_fr q_nm1 (by omega) ?_ (by omega)
            intro w p
            rw [q_G w p]
            by_cases y2 : w = zw ∧ (0 ≤ p ∧ p < zk0) ∧ (zp = -1 ∨ p = zp)
            · rw [if_pos y2, if_pos (by omega)]
            · rw [if_neg y2, if_neg (by omega)]
          · refine wp_run (k := 9) (pc1 := 118) (l1 := [(0, .ref 55), (1, .int (iN (zw))), (2, .int (iN (zp))), (3, .int (iN (zm))), (4, .int (iN (zk0)))]) (st1 := [.int (iN (zv)), .int (iN (((16) * (zw)) + (zk0))), .ref 56]) (kr1 := (78, 76)) (h1 := zS3 zb zj (-1) zv) (Eq.trans (b := (some (118, [(0, .ref 55), (1, .int (iN (zw))), (2, .int (iN (zp))), (3, .int (iN (zm))), (4, .int (iN (zk0)))], [.int ((zS3 zb zj (-1) zv).1 55 11), .int (((iN (16)) * (iN (zw))) + (iN (zk0))), .ref 56], (78, 76), zS3 zb zj (-1) zv) : Option am_C)) rfl (by simp only [(show (zS3 zb zj (-1) zv).1 55 11 = iN (zv) from (zS3_a _ _ _ _).2.2), Int32.ofInt_add, Int32.ofInt_sub, Int32.ofInt_mul, Int32.ofInt_neg])) ?_
            refine wp_iast (z := ((16) * (zw)) + (zk0)) (j := ((16) * (zw) + (zk0) : Int).toNat) (n := 98) rfl (by decide) (by decide) rfl rfl (by omega) (by omega) (by decide) ?_
            refine wp_run (k := 2) (pc1 := 76) (l1 := [(0, .ref 55), (1, .int (iN (zw))), (2, .int (iN (zp))), (3, .int (iN (zm))), (4, .int (iN ((zk0) + 1)))]) (st1 := []) (kr1 := (78, 76)) (h1 := am_wr (zS3 zb zj (-1) zv) 56 (((16) * (zw) + (zk0) : Int).toNat) (iN (zv))) (Eq.trans (b := (some (76, [(0, .ref 55), (1, .int (iN (zw))), (2, .int (iN (zp))), (3, .int (iN (zm))), (4, .int ((iN (zk0)) + iN (1)))], [], (78, 76), am_wr (zS3 zb zj (-1) zv) 56 (((16) * (zw) + (zk0) : Int).toNat) (iN (zv))) : Option am_C)) rfl (by simp only [Int32.ofInt_add, Int32.ofInt_sub, Int32.ofInt_mul, Int32.ofInt_neg])) ?_
            rw [zS3_w _ _ _ _ (by decide)]
            refine z_ih (am_wr zb 56 ((16) * (zw) + (zk0) : Int).toNat (iN zv)) (zk0 + 1) (zG1 zK zw zk0 zv) (am_fr_w q_fr (by decide) _ _) (zMm_wr q_N.2 q_nm1 q_w (by omega) rfl) (by omega) ?_ (by omega)
            intro w p
            unfold zG1
            by_cases y1 : w = zw ∧ p = zk0
            · rw [if_pos y1, if_pos (by omega)]
            · rw [if_neg y1, q_G w p]
              by_cases y2 : w = zw ∧ (0 ≤ p ∧ p < zk0) ∧ (zp = -1 ∨ p = zp)
              · rw [if_pos y2, if_pos (by omega)]
              · rw [if_neg y2, if_neg (by omega)]
set_option maxRecDepth 20000 in
set_option maxHeartbeats 4000000 in
theorem jm_clause0 (zd : Nat) (q_d : 6 ≤ zd) {zh : am_H} {F : Int → Int} {zl : Int} {N : Int} {G : Int → Int → Int} {S T zi zg : Int} (q_ln : zh.1 55 9 = iN zl) (q_r : 0 ≤ zl ∧ zl ≤ 120) (q_f : ∀ k : Int, 0 ≤ k → k < zl → zh.1 59 k.toNat = iN (F k)) (q_c : ∀ k : Int, 0 ≤ k → k < zl → 32 ≤ F k ∧ F k ≤ 126) (q_i : 0 ≤ zi ∧ zi ≤ zl) (q_nm : zMm (zh.1 55) (zh.1 56) N G S T) (q_g : zGk N G S T) (q_t : zh.1 55 12 = iN 0) : am_wp zd am_m_Model_isClause 0 [(0, .ref 55)] [] (78, 76) (zS3 zh zi (-1) zg) (78, 76) (fun rv h' => rv = some (.int (iN (bI ((zCs F zl N zi).1 = 1) inferInstance))) ∧ ((zCs F zl N zi).1 = 1 → ∃ g : Int, zS3 zh (zCs F zl N zi).2.2.2.2 (-1) g = h') ∧ (¬ (zCs F zl N zi).1 = 1 → ∃ x g : Int, zS3 zh x (zCs F zl N zi).2.2.2.2 g = h')) := by
  obtain ⟨zd, rfl⟩ : ∃ y_e, zd = y_e + 6 := ⟨zd - 6, by omega⟩
  have q_N := q_g.1
  refine wp_run (k := 1) (pc1 := 1) (l1 := [(0, .ref 55)]) (st1 := [.ref 55]) (kr1 := (78, 76)) (h1 := zS3 zh zi (-1) zg) rfl ?_
  refine wp_call (md1 := am_m_Model_which) (As := [.ref 55]) (rest := []) (kr1 := (78, 76)) rfl (jm_which _ (by omega) q_ln q_r q_f q_c q_i) ?_
  rintro _ zg1 ⟨rfl, q_x1, q_y1⟩
  have y_e := zWe_rg (F := F) (L := zl) (i := zi) q_i.2
  have y_w := zWw_rg F zi (zWe F zl zi)
  refine wp_run (k := 2) (pc1 := 6) (l1 := [(0, .ref 55), (1, .int (iN (zWw F zi (zWe F zl zi))))]) (st1 := [.int (iN (zWw F zi (zWe F zl zi)))]) (kr1 := (78, 76)) (h1 := zg1) rfl ?_
  refine wp_lt0 (a := zWw F zi (zWe F zl zi)) rfl (by omega) (fun b_6 => ?_) (fun b_6 => ?_)
  · refine wp_run (k := 1) (pc1 := 19) (l1 := [(0, .ref 55), (1, .int (iN (zWw F zi (zWe F zl zi))))]) (st1 := [.int (iN (0))]) (kr1 := (78, 76)) (h1 := zg1) rfl ?_
    refine wp_ret (rv := some (.int (iN (0)))) rfl ?_
    have y_C : zCs F zl N zi = (0, 0, 0, 0, zi) := by unfold zCs; rw [if_pos (by omega)]
    rw [y_C]
    exact ⟨rfl, fun y => absurd (show (0 : Int) = 1 from y) (by decide), fun _ => ⟨_, _, q_y1 (by omega)⟩⟩
  · rw [← q_x1 (by omega)]
    refine wp_run (k := 2) (pc1 := 12) (l1 := [(0, .ref 55), (1, .int (iN (zWw F zi (zWe F zl zi))))]) (st1 := [.int (iN (32)), .ref 55]) (kr1 := (78, 76)) (h1 := zS3 zh (zWe F zl zi) (-1) zg) rfl ?_
    refine wp_call (md1 := am_m_Model_isSign) (As := [.ref 55, .int (iN (32))]) (rest := []) (kr1 := (78, 76)) rfl (jm_isSign _ (by omega) (F := F) (zl := zl) (zi := zWe F zl zi) (zc := 32) q_ln q_r q_f q_c (by omega) (by omega)) ?_
    rintro _ zg2 ⟨rfl, q_x2, q_y2⟩
    have y_s2 := zSg_rg (i := zWe F zl zi) q_c
    refine wp_neb rfl (fun b_15 => ?_) (fun b_15 => ?_)
    · rw [← q_x2 (by omega)]
      refine wp_run (k := 1) (pc1 := 21) (l1 := [(0, .ref 55), (1, .int (iN (zWw F zi (zWe F zl zi))))]) (st1 := [.ref 55]) (kr1 := (78, 76)) (h1 := zS3 zh (zWe F zl zi + 1) (-1) zg) rfl ?_
      refine wp_call (md1 := am_m_Model_periodHere) (As := [.ref 55]) (rest := []) (kr1 := (78, 76)) rfl (jm_period (zi := zWe F zl zi + 1) _ (by omega) q_ln q_r q_f q_c (by omega) q_nm q_g) ?_
      rintro _ zg3 ⟨zr, rfl, q_x3, q_y3⟩
      have y_P := zPd_rg (F := F) (L := zl) (N := N) (i := zWe F zl zi + 1) (by omega)
      have y_zr : ((zPd F zl N (zWe F zl zi + 1)).1 = 1 ∧ zr = (zPd F zl N (zWe F zl zi + 1)).2.1) ∨ (¬ (zPd F zl N (zWe F zl zi + 1)).1 = 1 ∧ zr = -2) := by
        by_cases y : (zPd F zl N (zWe F zl zi + 1)).1 = 1
        · exact Or.inl ⟨y, (q_x3 y).1⟩
        · exact Or.inr ⟨y, (q_y3 y).1⟩
      refine wp_run (k := 3) (pc1 := 27) (l1 := [(0, .ref 55), (1, .int (iN (zWw F zi (zWe F zl zi)))), (2, .int (iN (zr)))]) (st1 := [.int (iN (-1)), .int (iN (zr))]) (kr1 := (78, 76)) (h1 := zg3) rfl ?_
      refine wp_lt (a := zr) (b := -1) rfl (by omega) (by omega) (fun b_27 => ?_) (fun b_27 => ?_)
      · refine wp_run (k := 1) (pc1 := 40) (l1 := [(0, .ref 55), (1, .int (iN (zWw F zi (zWe F zl zi)))), (2, .int (iN (zr)))]) (st1 := [.int (iN (0))]) (kr1 := (78, 76)) (h1 := zg3) rfl ?_
        refine wp_ret (rv := some (.int (iN (0)))) rfl ?_
        have y_C : zCs F zl N zi = (0, 0, 0, 0, (zPd F zl N (zWe F zl zi + 1)).2.2) := by unfold zCs; rw [if_neg (by omega), if_pos (by omega), if_neg (by omega)]
        rw [y_C]
        obtain ⟨_, x3, g3, y_h3⟩ := q_y3 (by omega)
        exact ⟨rfl, fun y => absurd (show (0 : Int) = 1 from y) (by decide), fun _ => ⟨x3, g3, y_h3⟩⟩
      · obtain ⟨y_z3, zg3v, y_h3⟩ := q_x3 (by omega)
        rw [← y_h3, y_z3]
        refine wp_run (k := 2) (pc1 := 33) (l1 := [(0, .ref 55), (1, .int (iN (zWw F zi (zWe F zl zi)))), (2, .int (iN ((zPd F zl N (zWe F zl zi + 1)).2.1)))]) (st1 := [.int (iN (32)), .ref 55]) (kr1 := (78, 76)) (h1 := zS3 zh ((zPd F zl N (zWe F zl zi + 1)).2.2) (-1) (zg3v)) rfl ?_
        refine wp_call (md1 := am_m_Model_isSign) (As := [.ref 55, .int (iN (32))]) (rest := []) (kr1 := (78, 76)) rfl (jm_isSign _ (by omega) (F := F) (zl := zl) (zi := (zPd F zl N (zWe F zl zi + 1)).2.2) (zc := 32) q_ln q_r q_f q_c (by omega) (by omega)) ?_
        rintro _ zg4 ⟨rfl, q_x4, q_y4⟩
        have y_s4 := zSg_rg (i := (zPd F zl N (zWe F zl zi + 1)).2.2) q_c
        refine wp_neb rfl (fun b_36 => ?_) (fun b_36 => ?_)
        · rw [← q_x4 (by omega)]
          refine wp_run (k := 5) (pc1 := 48) (l1 := [(0, .ref 55), (1, .int (iN (zWw F zi (zWe F zl zi)))), (2, .int (iN ((zPd F zl N (zWe F zl zi + 1)).2.1))), (3, .int (iN ((zPd F zl N (zWe F zl zi + 1)).2.2 + 1)))]) (st1 := [.int (iN (3)), .ref 55]) (kr1 := (78, 76)) (h1 := zS3 zh ((zPd F zl N (zWe F zl zi + 1)).2.2 + 1) (-1) (zg3v)) (Eq.trans (b := (some (48, [(0, .ref 55), (1, .int (iN (zWw F zi (zWe F zl zi)))), (2, .int (iN ((zPd F zl N (zWe F zl zi + 1)).2.1))), (3, .int ((zS3 zh ((zPd F zl N (zWe F zl zi + 1)).2.2 + 1) (-1) (zg3v)).1 55 8))], [.int (iN (3)), .ref 55], (78, 76), zS3 zh ((zPd F zl N (zWe F zl zi + 1)).2.2 + 1) (-1) (zg3v)) : Option am_C)) rfl (by simp only [(show (zS3 zh ((zPd F zl N (zWe F zl zi + 1)).2.2 + 1) (-1) (zg3v)).1 55 8 = iN ((zPd F zl N (zWe F zl zi + 1)).2.2 + 1) from (zS3_a _ _ _ _).1), Int32.ofInt_add, Int32.ofInt_sub, Int32.ofInt_mul, Int32.ofInt_neg])) ?_
          refine wp_call (md1 := am_m_Model_isFigure) (As := [.ref 55, .int (iN (3))]) (rest := []) (kr1 := (78, 76)) rfl (jm_isFig3 (zi := (zPd F zl N (zWe F zl zi + 1)).2.2 + 1) _ (by omega) q_ln q_r q_f q_c (by omega)) ?_
          rintro _ zg5 ⟨rfl, q_x5, q_y5⟩
          have y_g := zFg_rg (F := F) (L := zl) 3 ((zPd F zl N (zWe F zl zi + 1)).2.2 + 1) 0 (Int.le_refl _)
          have y_b := zFg_b3 (F := F) (L := zl) ((zPd F zl N (zWe F zl zi + 1)).2.2 + 1) 0 (Int.le_refl _)
          have y_N := zNu_rg (F := F) (L := zl) (w := zWw F zi (zWe F zl zi)) (i := (zPd F zl N (zWe F zl zi + 1)).2.2 + 1) (by omega)
          refine wp_neb rfl (fun b_51 => ?_) (fun b_51 => ?_)
          · rw [← q_x5 (by omega)]
            refine wp_run (k := 3) (pc1 := 61) (l1 := [(0, .ref 55), (1, .int (iN (zWw F zi (zWe F zl zi)))), (2, .int (iN ((zPd F zl N (zWe F zl zi + 1)).2.1))), (3, .int (iN ((zPd F zl N (zWe F zl zi + 1)).2.2 + 1)))]) (st1 := [.int (iN ((zFg F zl 3 ((zPd F zl N (zWe F zl zi + 1)).2.2 + 1) 0).2)), .int (iN (zWw F zi (zWe F zl zi)))]) (kr1 := (78, 76)) (h1 := zS3 zh ((zFg F zl 3 ((zPd F zl N (zWe F zl zi + 1)).2.2 + 1) 0).1) (-1) ((zFg F zl 3 ((zPd F zl N (zWe F zl zi + 1)).2.2 + 1) 0).2)) (Eq.trans (b := (some (61, [(0, .ref 55), (1, .int (iN (zWw F zi (zWe F zl zi)))), (2, .int (iN ((zPd F zl N (zWe F zl zi + 1)).2.1))), (3, .int (iN ((zPd F zl N (zWe F zl zi + 1)).2.2 + 1)))], [.int ((zS3 zh ((zFg F zl 3 ((zPd F zl N (zWe F zl zi + 1)).2.2 + 1) 0).1) (-1) ((zFg F zl 3 ((zPd F zl N (zWe F zl zi + 1)).2.2 + 1) 0).2)).1 55 11), .int (iN (zWw F zi (zWe F zl zi)))], (78, 76), zS3 zh ((zFg F zl 3 ((zPd F zl N (zWe F zl zi + 1)).2.2 + 1) 0).1) (-1) ((zFg F zl 3 ((zPd F zl N (zWe F zl zi + 1)).2.2 + 1) 0).2)) : Option am_C)) rfl (by simp only [(show (zS3 zh ((zFg F zl 3 ((zPd F zl N (zWe F zl zi + 1)).2.2 + 1) 0).1) (-1) ((zFg F zl 3 ((zPd F zl N (zWe F zl zi + 1)).2.2 + 1) 0).2)).1 55 11 = iN ((zFg F zl 3 ((zPd F zl N (zWe F zl zi + 1)).2.2 + 1) 0).2) from (zS3_a _ _ _ _).2.2), Int32.ofInt_add, Int32.ofInt_sub, Int32.ofInt_mul, Int32.ofInt_neg])) ?_
            refine wp_call (md1 := am_m_Model_mayBe) (As := [.int (iN (zWw F zi (zWe F zl zi))), .int (iN ((zFg F zl 3 ((zPd F zl N (zWe F zl zi + 1)).2.2 + 1) 0).2))]) (rest := []) (kr1 := (78, 76)) rfl (jm_mayBe _ (by omega) (zw := zWw F zi (zWe F zl zi)) (zv := (zFg F zl 3 ((zPd F zl N (zWe F zl zi + 1)).2.2 + 1) 0).2) (by omega) (by omega)) ?_
            rintro _ _ ⟨rfl, rfl⟩
            refine wp_neb rfl (fun b_64 => ?_) (fun b_64 => ?_)
            · refine wp_run (k := 5) (pc1 := 82) (l1 := [(0, .ref 55), (1, .int (iN (zWw F zi (zWe F zl zi)))), (2, .int (iN ((zPd F zl N (zWe F zl zi + 1)).2.1))), (3, .int (iN ((zPd F zl N (zWe F zl zi + 1)).2.2 + 1))), (4, .int (iN (0)))]) (st1 := [.int (iN (N)), .int (iN (0))]) (kr1 := (78, 76)) (h1 := zS3 zh ((zFg F zl 3 ((zPd F zl N (zWe F zl zi + 1)).2.2 + 1) 0).1) (-1) ((zFg F zl 3 ((zPd F zl N (zWe F zl zi + 1)).2.2 + 1) 0).2)) (Eq.trans (b := (some (82, [(0, .ref 55), (1, .int (iN (zWw F zi (zWe F zl zi)))), (2, .int (iN ((zPd F zl N (zWe F zl zi + 1)).2.1))), (3, .int (iN ((zPd F zl N (zWe F zl zi + 1)).2.2 + 1))), (4, .int (iN (0)))], [.int ((zS3 zh ((zFg F zl 3 ((zPd F zl N (zWe F zl zi + 1)).2.2 + 1) 0).1) (-1) ((zFg F zl 3 ((zPd F zl N (zWe F zl zi + 1)).2.2 + 1) 0).2)).1 55 0), .int (iN (0))], (78, 76), zS3 zh ((zFg F zl 3 ((zPd F zl N (zWe F zl zi + 1)).2.2 + 1) 0).1) (-1) ((zFg F zl 3 ((zPd F zl N (zWe F zl zi + 1)).2.2 + 1) 0).2)) : Option am_C)) rfl (by simp only [(show (zS3 zh ((zFg F zl 3 ((zPd F zl N (zWe F zl zi + 1)).2.2 + 1) 0).1) (-1) ((zFg F zl 3 ((zPd F zl N (zWe F zl zi + 1)).2.2 + 1) 0).2)).1 55 0 = iN (N) from (zS3_s _ _ _ _ (by decide) (by decide) (by decide)).trans (q_nm.1)), Int32.ofInt_add, Int32.ofInt_sub, Int32.ofInt_mul, Int32.ofInt_neg])) ?_
              refine wp_ge (a := 0) (b := N) rfl (by omega) (by omega) (fun b_82 => ?_) (fun b_82 => ?_)
              · exact absurd b_82 (by omega)
              · refine wp_run (k := 2) (pc1 := 89) (l1 := [(0, .ref 55), (1, .int (iN (zWw F zi (zWe F zl zi)))), (2, .int (iN ((zPd F zl N (zWe F zl zi + 1)).2.1))), (3, .int (iN ((zPd F zl N (zWe F zl zi + 1)).2.2 + 1))), (4, .int (iN (0)))]) (st1 := [.int (iN (0))]) (kr1 := (78, 76)) (h1 := zS3 zh ((zFg F zl 3 ((zPd F zl N (zWe F zl zi + 1)).2.2 + 1) 0).1) (-1) ((zFg F zl 3 ((zPd F zl N (zWe F zl zi + 1)).2.2 + 1) 0).2)) (Eq.trans (b := (some (89, [(0, .ref 55), (1, .int (iN (zWw F zi (zWe F zl zi)))), (2, .int (iN ((zPd F zl N (zWe F zl zi + 1)).2.1))), (3, .int (iN ((zPd F zl N (zWe F zl zi + 1)).2.2 + 1))), (4, .int (iN (0)))], [.int ((zS3 zh ((zFg F zl 3 ((zPd F zl N (zWe F zl zi + 1)).2.2 + 1) 0).1) (-1) ((zFg F zl 3 ((zPd F zl N (zWe F zl zi + 1)).2.2 + 1) 0).2)).1 55 12)], (78, 76), zS3 zh ((zFg F zl 3 ((zPd F zl N (zWe F zl zi + 1)).2.2 + 1) 0).1) (-1) ((zFg F zl 3 ((zPd F zl N (zWe F zl zi + 1)).2.2 + 1) 0).2)) : Option am_C)) rfl (by simp only [(show (zS3 zh ((zFg F zl 3 ((zPd F zl N (zWe F zl zi + 1)).2.2 + 1) 0).1) (-1) ((zFg F zl 3 ((zPd F zl N (zWe F zl zi + 1)).2.2 + 1) 0).2)).1 55 12 = iN (0) from (zS3_s _ _ _ _ (by decide) (by decide) (by decide)).trans (q_t)), Int32.ofInt_add, Int32.ofInt_sub, Int32.ofInt_mul, Int32.ofInt_neg])) ?_
                refine wp_eq0 (a := 0) rfl (by omega) (fun b_89 => ?_) (fun b_89 => ?_)
                · refine wp_run (k := 1) (pc1 := 126) (l1 := [(0, .ref 55), (1, .int (iN (zWw F zi (zWe F zl zi)))), (2, .int (iN ((zPd F zl N (zWe F zl zi + 1)).2.1))), (3, .int (iN ((zPd F zl N (zWe F zl zi + 1)).2.2 + 1))), (4, .int (iN (0)))]) (st1 := [.int (iN (1))]) (kr1 := (78, 76)) (h1 := zS3 zh ((zFg F zl 3 ((zPd F zl N (zWe F zl zi + 1)).2.2 + 1) 0).1) (-1) ((zFg F zl 3 ((zPd F zl N (zWe F zl zi + 1)).2.2 + 1) 0).2)) rfl ?_
                  refine wp_ret (rv := some (.int (iN (1)))) rfl ?_
                  have y_Q : zNu F zl (zWw F zi (zWe F zl zi)) ((zPd F zl N (zWe F zl zi + 1)).2.2 + 1) = (1, (zFg F zl 3 ((zPd F zl N (zWe F zl zi + 1)).2.2 + 1) 0).2, (zFg F zl 3 ((zPd F zl N (zWe F zl zi + 1)).2.2 + 1) 0).1) := if_pos (by omega)
                  have y_C : zCs F zl N zi = (1, zWw F zi (zWe F zl zi), (zPd F zl N (zWe F zl zi + 1)).2.1, (zFg F zl 3 ((zPd F zl N (zWe F zl zi + 1)).2.2 + 1) 0).2, (zFg F zl 3 ((zPd F zl N (zWe F zl zi + 1)).2.2 + 1) 0).1) := by unfold zCs; rw [if_neg (by omega), if_pos (by omega), if_pos (by omega), if_pos (by omega), y_Q, if_pos rfl]
                  rw [y_C]
                  exact ⟨rfl, fun _ => ⟨_, rfl⟩, fun y => absurd rfl y⟩
                · exact absurd b_89 (by decide)
            · refine wp_run (k := 2) (pc1 := 69) (l1 := [(0, .ref 55), (1, .int (iN (zWw F zi (zWe F zl zi)))), (2, .int (iN ((zPd F zl N (zWe F zl zi + 1)).2.1))), (3, .int (iN ((zPd F zl N (zWe F zl zi + 1)).2.2 + 1)))]) (st1 := [.int (iN ((zPd F zl N (zWe F zl zi + 1)).2.2 + 1)), .ref 55]) (kr1 := (78, 76)) (h1 := zS3 zh ((zFg F zl 3 ((zPd F zl N (zWe F zl zi + 1)).2.2 + 1) 0).1) (-1) ((zFg F zl 3 ((zPd F zl N (zWe F zl zi + 1)).2.2 + 1) 0).2)) rfl ?_
              refine wp_call (md1 := am_m_Model_fails) (As := [.ref 55, .int (iN ((zPd F zl N (zWe F zl zi + 1)).2.2 + 1))]) (rest := []) (kr1 := (78, 76)) rfl (jm_fails _ (by omega) (zh := zh) (zx := (zFg F zl 3 ((zPd F zl N (zWe F zl zi + 1)).2.2 + 1) 0).1) (zp := (zPd F zl N (zWe F zl zi + 1)).2.2 + 1) (zg := (zFg F zl 3 ((zPd F zl N (zWe F zl zi + 1)).2.2 + 1) 0).2)) ?_
              rintro _ _ ⟨rfl, rfl⟩
              refine wp_ret (rv := some (.int (iN (0)))) rfl ?_
              have y_Q : zNu F zl (zWw F zi (zWe F zl zi)) ((zPd F zl N (zWe F zl zi + 1)).2.2 + 1) = (0, 0, (zPd F zl N (zWe F zl zi + 1)).2.2 + 1) := if_neg (by omega)
              have y_C : zCs F zl N zi = (0, 0, 0, 0, (zPd F zl N (zWe F zl zi + 1)).2.2 + 1) := by unfold zCs; rw [if_neg (by omega), if_pos (by omega), if_pos (by omega), if_pos (by omega), y_Q, if_neg (show ¬ (0 : Int) = 1 by decide)]
              rw [y_C]
              exact ⟨rfl, fun y => absurd (show (0 : Int) = 1 from y) (by decide), fun _ => ⟨_, _, rfl⟩⟩
          · refine wp_run (k := 1) (pc1 := 55) (l1 := [(0, .ref 55), (1, .int (iN (zWw F zi (zWe F zl zi)))), (2, .int (iN ((zPd F zl N (zWe F zl zi + 1)).2.1))), (3, .int (iN ((zPd F zl N (zWe F zl zi + 1)).2.2 + 1)))]) (st1 := [.int (iN (0))]) (kr1 := (78, 76)) (h1 := zg5) rfl ?_
            refine wp_ret (rv := some (.int (iN (0)))) rfl ?_
            have y_Q : zNu F zl (zWw F zi (zWe F zl zi)) ((zPd F zl N (zWe F zl zi + 1)).2.2 + 1) = (0, 0, (zPd F zl N (zWe F zl zi + 1)).2.2 + 1) := if_neg (by omega)
            have y_C : zCs F zl N zi = (0, 0, 0, 0, (zPd F zl N (zWe F zl zi + 1)).2.2 + 1) := by unfold zCs; rw [if_neg (by omega), if_pos (by omega), if_pos (by omega), if_pos (by omega), y_Q, if_neg (show ¬ (0 : Int) = 1 by decide)]
            rw [y_C]
            exact ⟨rfl, fun y => absurd (show (0 : Int) = 1 from y) (by decide), fun _ => ⟨_, _, q_y5 (by omega)⟩⟩
        · refine wp_run (k := 1) (pc1 := 40) (l1 := [(0, .ref 55), (1, .int (iN (zWw F zi (zWe F zl zi)))), (2, .int (iN ((zPd F zl N (zWe F zl zi + 1)).2.1)))]) (st1 := [.int (iN (0))]) (kr1 := (78, 76)) (h1 := zg4) rfl ?_
          refine wp_ret (rv := some (.int (iN (0)))) rfl ?_
          have y_C : zCs F zl N zi = (0, 0, 0, 0, (zPd F zl N (zWe F zl zi + 1)).2.2) := by unfold zCs; rw [if_neg (by omega), if_pos (by omega), if_pos (by omega), if_neg (by omega)]
          rw [y_C]
          exact ⟨rfl, fun y => absurd (show (0 : Int) = 1 from y) (by decide), fun _ => ⟨_, _, q_y4 (by omega)⟩⟩
    · refine wp_run (k := 1) (pc1 := 19) (l1 := [(0, .ref 55), (1, .int (iN (zWw F zi (zWe F zl zi))))]) (st1 := [.int (iN (0))]) (kr1 := (78, 76)) (h1 := zg2) rfl ?_
      refine wp_ret (rv := some (.int (iN (0)))) rfl ?_
      have y_C : zCs F zl N zi = (0, 0, 0, 0, zWe F zl zi) := by unfold zCs; rw [if_neg (by omega), if_neg (by omega)]
      rw [y_C]
      exact ⟨rfl, fun y => absurd (show (0 : Int) = 1 from y) (by decide), fun _ => ⟨_, _, q_y2 (by omega)⟩⟩
set_option maxRecDepth 20000 in
set_option maxHeartbeats 4000000 in
theorem jm_clause1 (zd : Nat) (q_d : 6 ≤ zd) {zh : am_H} {F : Int → Int} {zl : Int} {N : Int} {G : Int → Int → Int} {S T zi zg : Int} (q_ln : zh.1 55 9 = iN zl) (q_r : 0 ≤ zl ∧ zl ≤ 120) (q_f : ∀ k : Int, 0 ≤ k → k < zl → zh.1 59 k.toNat = iN (F k)) (q_c : ∀ k : Int, 0 ≤ k → k < zl → 32 ≤ F k ∧ F k ≤ 126) (q_i : 0 ≤ zi ∧ zi ≤ zl) (q_nm : zMm (zh.1 55) (zh.1 56) N G S T) (q_g : zGk N G S T) (q_t : zh.1 55 12 = iN 1) : am_wp zd am_m_Model_isClause 0 [(0, .ref 55)] [] (78, 76) (zS3 zh zi (-1) zg) (78, 76) (fun rv h' => rv = some (.int (iN (bI ((zCs F zl N zi).1 = 1) inferInstance))) ∧ ((zCs F zl N zi).1 = 1 → ∃ (zb : am_H) (g : Int), am_fr [56] zh zb ∧ zMm (zb.1 55) (zb.1 56) N (zTg G N (zCs F zl N zi).2.1 (zCs F zl N zi).2.2.1 (zCs F zl N zi).2.2.2.1) S T ∧ zS3 zb (zCs F zl N zi).2.2.2.2 (-1) g = h') ∧ (¬ (zCs F zl N zi).1 = 1 → ∃ x g : Int, zS3 zh x (zCs F zl N zi).2.2.2.2 g = h')) := by
  obtain ⟨zd, rfl⟩ : ∃ y_e, zd = y_e + 6 := ⟨zd - 6, by omega⟩
  have q_N := q_g.1
  refine wp_run (k := 1) (pc1 := 1) (l1 := [(0, .ref 55)]) (st1 := [.ref 55]) (kr1 := (78, 76)) (h1 := zS3 zh zi (-1) zg) rfl ?_
  refine wp_call (md1 := am_m_Model_which) (As := [.ref 55]) (rest := []) (kr1 := (78, 76)) rfl (jm_which _ (by omega) q_ln q_r q_f q_c q_i) ?_
  rintro _ zg1 ⟨rfl, q_x1, q_y1⟩
  have y_e := zWe_rg (F := F) (L := zl) (i := zi) q_i.2
  have y_w := zWw_rg F zi (zWe F zl zi)
  refine wp_run (k := 2) (pc1 := 6) (l1 := [(0, .ref 55), (1, .int (iN (zWw F zi (zWe F zl zi))))]) (st1 := [.int (iN (zWw F zi (zWe F zl zi)))]) (kr1 := (78, 76)) (h1 := zg1) rfl ?_
  refine wp_lt0 (a := zWw F zi (zWe F zl zi)) rfl (by omega) (fun b_6 => ?_) (fun b_6 => ?_)
  · refine wp_run (k := 1) (pc1 := 19) (l1 := [(0, .ref 55), (1, .int (iN (zWw F zi (zWe F zl zi))))]) (st1 := [.int (iN (0))]) (kr1 := (78, 76)) (h1 := zg1) rfl ?_
    refine wp_ret (rv := some (.int (iN (0)))) rfl ?_
    have y_C : zCs F zl N zi = (0, 0, 0, 0, zi) := by unfold zCs; rw [if_pos (by omega)]
    rw [y_C]
    exact ⟨rfl, fun y => absurd (show (0 : Int) = 1 from y) (by decide), fun _ => ⟨_, _, q_y1 (by omega)⟩⟩
  · rw [← q_x1 (by omega)]
    refine wp_run (k := 2) (pc1 := 12) (l1 := [(0, .ref 55), (1, .int (iN (zWw F zi (zWe F zl zi))))]) (st1 := [.int (iN (32)), .ref 55]) (kr1 := (78, 76)) (h1 := zS3 zh (zWe F zl zi) (-1) zg) rfl ?_
    refine wp_call (md1 := am_m_Model_isSign) (As := [.ref 55, .int (iN (32))]) (rest := []) (kr1 := (78, 76)) rfl (jm_isSign _ (by omega) (F := F) (zl := zl) (zi := zWe F zl zi) (zc := 32) q_ln q_r q_f q_c (by omega) (by omega)) ?_
    rintro _ zg2 ⟨rfl, q_x2, q_y2⟩
    have y_s2 := zSg_rg (i := zWe F zl zi) q_c
    refine wp_neb rfl (fun b_15 => ?_) (fun b_15 => ?_)
    · rw [← q_x2 (by omega)]
      refine wp_run (k := 1) (pc1 := 21) (l1 := [(0, .ref 55), (1, .int (iN (zWw F zi (zWe F zl zi))))]) (st1 := [.ref 55]) (kr1 := (78, 76)) (h1 := zS3 zh (zWe F zl zi + 1) (-1) zg) rfl ?_
      refine wp_call (md1 := am_m_Model_periodHere) (As := [.ref 55]) (rest := []) (kr1 := (78, 76)) rfl (jm_period (zi := zWe F zl zi + 1) _ (by omega) q_ln q_r q_f q_c (by omega) q_nm q_g) ?_
      rintro _ zg3 ⟨zr, rfl, q_x3, q_y3⟩
      have y_P := zPd_rg (F := F) (L := zl) (N := N) (i := zWe F zl zi + 1) (by omega)
      have y_zr : ((zPd F zl N (zWe F zl zi + 1)).1 = 1 ∧ zr = (zPd F zl N (zWe F zl zi + 1)).2.1) ∨ (¬ (zPd F zl N (zWe F zl zi + 1)).1 = 1 ∧ zr = -2) := by
        by_cases y : (zPd F zl N (zWe F zl zi + 1)).1 = 1
        · exact Or.inl ⟨y, (q_x3 y).1⟩
        · exact Or.inr ⟨y, (q_y3 y).1⟩
      refine wp_run (k := 3) (pc1 := 27) (l1 := [(0, .ref 55), (1, .int (iN (zWw F zi (zWe F zl zi)))), (2, .int (iN (zr)))]) (st1 := [.int (iN (-1)), .int (iN (zr))]) (kr1 := (78, 76)) (h1 := zg3) rfl ?_
      refine wp_lt (a := zr) (b := -1) rfl (by omega) (by omega) (fun b_27 => ?_) (fun b_27 => ?_)
      · refine wp_run (k := 1) (pc1 := 40) (l1 := [(0, .ref 55), (1, .int (iN (zWw F zi (zWe F zl zi)))), (2, .int (iN (zr)))]) (st1 := [.int (iN (0))]) (kr1 := (78, 76)) (h1 := zg3) rfl ?_
        refine wp_ret (rv := some (.int (iN (0)))) rfl ?_
        have y_C : zCs F zl N zi = (0, 0, 0, 0, (zPd F zl N (zWe F zl zi + 1)).2.2) := by unfold zCs; rw [if_neg (by omega), if_pos (by omega), if_neg (by omega)]
        rw [y_C]
        obtain ⟨_, x3, g3, y_h3⟩ := q_y3 (by omega)
        exact ⟨rfl, fun y => absurd (show (0 : Int) = 1 from y) (by decide), fun _ => ⟨x3, g3, y_h3⟩⟩
      · obtain ⟨y_z3, zg3v, y_h3⟩ := q_x3 (by omega)
        rw [← y_h3, y_z3]
        refine wp_run (k := 2) (pc1 := 33) (l1 := [(0, .ref 55), (1, .int (iN (zWw F zi (zWe F zl zi)))), (2, .int (iN ((zPd F zl N (zWe F zl zi + 1)).2.1)))]) (st1 := [.int (iN (32)), .ref 55]) (kr1 := (78, 76)) (h1 := zS3 zh ((zPd F zl N (zWe F zl zi + 1)).2.2) (-1) (zg3v)) rfl ?_
        refine wp_call (md1 := am_m_Model_isSign) (As := [.ref 55, .int (iN (32))]) (rest := []) (kr1 := (78, 76)) rfl (jm_isSign _ (by omega) (F := F) (zl := zl) (zi := (zPd F zl N (zWe F zl zi + 1)).2.2) (zc := 32) q_ln q_r q_f q_c (by omega) (by omega)) ?_
        rintro _ zg4 ⟨rfl, q_x4, q_y4⟩
        have y_s4 := zSg_rg (i := (zPd F zl N (zWe F zl zi + 1)).2.2) q_c
        refine wp_neb rfl (fun b_36 => ?_) (fun b_36 => ?_)
        · rw [← q_x4 (by omega)]
          refine wp_run (k := 5) (pc1 := 48) (l1 := [(0, .ref 55), (1, .int (iN (zWw F zi (zWe F zl zi)))), (2, .int (iN ((zPd F zl N (zWe F zl zi + 1)).2.1))), (3, .int (iN ((zPd F zl N (zWe F zl zi + 1)).2.2 + 1)))]) (st1 := [.int (iN (3)), .ref 55]) (kr1 := (78, 76)) (h1 := zS3 zh ((zPd F zl N (zWe F zl zi + 1)).2.2 + 1) (-1) (zg3v)) (Eq.trans (b := (some (48, [(0, .ref 55), (1, .int (iN (zWw F zi (zWe F zl zi)))), (2, .int (iN ((zPd F zl N (zWe F zl zi + 1)).2.1))), (3, .int ((zS3 zh ((zPd F zl N (zWe F zl zi + 1)).2.2 + 1) (-1) (zg3v)).1 55 8))], [.int (iN (3)), .ref 55], (78, 76), zS3 zh ((zPd F zl N (zWe F zl zi + 1)).2.2 + 1) (-1) (zg3v)) : Option am_C)) rfl (by simp only [(show (zS3 zh ((zPd F zl N (zWe F zl zi + 1)).2.2 + 1) (-1) (zg3v)).1 55 8 = iN ((zPd F zl N (zWe F zl zi + 1)).2.2 + 1) from (zS3_a _ _ _ _).1), Int32.ofInt_add, Int32.ofInt_sub, Int32.ofInt_mul, Int32.ofInt_neg])) ?_
          refine wp_call (md1 := am_m_Model_isFigure) (As := [.ref 55, .int (iN (3))]) (rest := []) (kr1 := (78, 76)) rfl (jm_isFig3 (zi := (zPd F zl N (zWe F zl zi + 1)).2.2 + 1) _ (by omega) q_ln q_r q_f q_c (by omega)) ?_
          rintro _ zg5 ⟨rfl, q_x5, q_y5⟩
          have y_g := zFg_rg (F := F) (L := zl) 3 ((zPd F zl N (zWe F zl zi + 1)).2.2 + 1) 0 (Int.le_refl _)
          have y_b := zFg_b3 (F := F) (L := zl) ((zPd F zl N (zWe F zl zi + 1)).2.2 + 1) 0 (Int.le_refl _)
          have y_N := zNu_rg (F := F) (L := zl) (w := zWw F zi (zWe F zl zi)) (i := (zPd F zl N (zWe F zl zi + 1)).2.2 + 1) (by omega)
          refine wp_neb rfl (fun b_51 => ?_) (fun b_51 => ?_)
          · rw [← q_x5 (by omega)]
            refine wp_run (k := 3) (pc1 := 61) (l1 := [(0, .ref 55), (1, .int (iN (zWw F zi (zWe F zl zi)))), (2, .int (iN ((zPd F zl N (zWe F zl zi + 1)).2.1))), (3, .int (iN ((zPd F zl N (zWe F zl zi + 1)).2.2 + 1)))]) (st1 := [.int (iN ((zFg F zl 3 ((zPd F zl N (zWe F zl zi + 1)).2.2 + 1) 0).2)), .int (iN (zWw F zi (zWe F zl zi)))]) (kr1 := (78, 76)) (h1 := zS3 zh ((zFg F zl 3 ((zPd F zl N (zWe F zl zi + 1)).2.2 + 1) 0).1) (-1) ((zFg F zl 3 ((zPd F zl N (zWe F zl zi + 1)).2.2 + 1) 0).2)) (Eq.trans (b := (some (61, [(0, .ref 55), (1, .int (iN (zWw F zi (zWe F zl zi)))), (2, .int (iN ((zPd F zl N (zWe F zl zi + 1)).2.1))), (3, .int (iN ((zPd F zl N (zWe F zl zi + 1)).2.2 + 1)))], [.int ((zS3 zh ((zFg F zl 3 ((zPd F zl N (zWe F zl zi + 1)).2.2 + 1) 0).1) (-1) ((zFg F zl 3 ((zPd F zl N (zWe F zl zi + 1)).2.2 + 1) 0).2)).1 55 11), .int (iN (zWw F zi (zWe F zl zi)))], (78, 76), zS3 zh ((zFg F zl 3 ((zPd F zl N (zWe F zl zi + 1)).2.2 + 1) 0).1) (-1) ((zFg F zl 3 ((zPd F zl N (zWe F zl zi + 1)).2.2 + 1) 0).2)) : Option am_C)) rfl (by simp only [(show (zS3 zh ((zFg F zl 3 ((zPd F zl N (zWe F zl zi + 1)).2.2 + 1) 0).1) (-1) ((zFg F zl 3 ((zPd F zl N (zWe F zl zi + 1)).2.2 + 1) 0).2)).1 55 11 = iN ((zFg F zl 3 ((zPd F zl N (zWe F zl zi + 1)).2.2 + 1) 0).2) from (zS3_a _ _ _ _).2.2), Int32.ofInt_add, Int32.ofInt_sub, Int32.ofInt_mul, Int32.ofInt_neg])) ?_
            refine wp_call (md1 := am_m_Model_mayBe) (As := [.int (iN (zWw F zi (zWe F zl zi))), .int (iN ((zFg F zl 3 ((zPd F zl N (zWe F zl zi + 1)).2.2 + 1) 0).2))]) (rest := []) (kr1 := (78, 76)) rfl (jm_mayBe _ (by omega) (zw := zWw F zi (zWe F zl zi)) (zv := (zFg F zl 3 ((zPd F zl N (zWe F zl zi + 1)).2.2 + 1) 0).2) (by omega) (by omega)) ?_
            rintro _ _ ⟨rfl, rfl⟩
            refine wp_neb rfl (fun b_64 => ?_) (fun b_64 => ?_)
            · refine wp_run (k := 2) (pc1 := 76) (l1 := [(0, .ref 55), (1, .int (iN (zWw F zi (zWe F zl zi)))), (2, .int (iN ((zPd F zl N (zWe F zl zi + 1)).2.1))), (3, .int (iN ((zPd F zl N (zWe F zl zi + 1)).2.2 + 1))), (4, .int (iN (0)))]) (st1 := []) (kr1 := (78, 76)) (h1 := zS3 zh ((zFg F zl 3 ((zPd F zl N (zWe F zl zi + 1)).2.2 + 1) 0).1) (-1) ((zFg F zl 3 ((zPd F zl N (zWe F zl zi + 1)).2.2 + 1) 0).2)) rfl ?_
              have y_Q : zNu F zl (zWw F zi (zWe F zl zi)) ((zPd F zl N (zWe F zl zi + 1)).2.2 + 1) = (1, (zFg F zl 3 ((zPd F zl N (zWe F zl zi + 1)).2.2 + 1) 0).2, (zFg F zl 3 ((zPd F zl N (zWe F zl zi + 1)).2.2 + 1) 0).1) := if_pos (by omega)
              have y_C : zCs F zl N zi = (1, zWw F zi (zWe F zl zi), (zPd F zl N (zWe F zl zi + 1)).2.1, (zFg F zl 3 ((zPd F zl N (zWe F zl zi + 1)).2.2 + 1) 0).2, (zFg F zl 3 ((zPd F zl N (zWe F zl zi + 1)).2.2 + 1) 0).1) := by unfold zCs; rw [if_neg (by omega), if_pos (by omega), if_pos (by omega), if_pos (by omega), y_Q, if_pos rfl]
              rw [y_C]
              refine jl_ctell (zh := zh) (G := G) (zv := (zFg F zl 3 ((zPd F zl N (zWe F zl zi + 1)).2.2 + 1) 0).2) _ (by omega) q_t q_g.1 (by omega) (by omega) ?_ 20 zh 0 G (am_fr_0 _ _) q_nm (by omega) (fun w p => (if_neg (by omega)).symm) (by omega)
              intro zb zK y1 y2 y3
              refine ⟨rfl, fun _ => ⟨zb, _, y1, zMm_eq y2 (fun w p z1 z2 z3 z4 => ?_), rfl⟩, fun y => absurd rfl y⟩
              rw [y3 w p]
              show _ = zTg G N (zWw F zi (zWe F zl zi)) (zPd F zl N (zWe F zl zi + 1)).2.1 (zFg F zl 3 ((zPd F zl N (zWe F zl zi + 1)).2.2 + 1) 0).2 w p
              unfold zTg
              by_cases y5 : w = zWw F zi (zWe F zl zi) ∧ (0 ≤ p ∧ p < N) ∧ ((zPd F zl N (zWe F zl zi + 1)).2.1 = -1 ∨ p = (zPd F zl N (zWe F zl zi + 1)).2.1)
              · rw [if_pos y5, if_pos (by omega)]
              · rw [if_neg y5, if_neg (by omega)]
            · refine wp_run (k := 2) (pc1 := 69) (l1 := [(0, .ref 55), (1, .int (iN (zWw F zi (zWe F zl zi)))), (2, .int (iN ((zPd F zl N (zWe F zl zi + 1)).2.1))), (3, .int (iN ((zPd F zl N (zWe F zl zi + 1)).2.2 + 1)))]) (st1 := [.int (iN ((zPd F zl N (zWe F zl zi + 1)).2.2 + 1)), .ref 55]) (kr1 := (78, 76)) (h1 := zS3 zh ((zFg F zl 3 ((zPd F zl N (zWe F zl zi + 1)).2.2 + 1) 0).1) (-1) ((zFg F zl 3 ((zPd F zl N (zWe F zl zi + 1)).2.2 + 1) 0).2)) rfl ?_
              refine wp_call (md1 := am_m_Model_fails) (As := [.ref 55, .int (iN ((zPd F zl N (zWe F zl zi + 1)).2.2 + 1))]) (rest := []) (kr1 := (78, 76)) rfl (jm_fails _ (by omega) (zh := zh) (zx := (zFg F zl 3 ((zPd F zl N (zWe F zl zi + 1)).2.2 + 1) 0).1) (zp := (zPd F zl N (zWe F zl zi + 1)).2.2 + 1) (zg := (zFg F zl 3 ((zPd F zl N (zWe F zl zi + 1)).2.2 + 1) 0).2)) ?_
              rintro _ _ ⟨rfl, rfl⟩
              refine wp_ret (rv := some (.int (iN (0)))) rfl ?_
              have y_Q : zNu F zl (zWw F zi (zWe F zl zi)) ((zPd F zl N (zWe F zl zi + 1)).2.2 + 1) = (0, 0, (zPd F zl N (zWe F zl zi + 1)).2.2 + 1) := if_neg (by omega)
              have y_C : zCs F zl N zi = (0, 0, 0, 0, (zPd F zl N (zWe F zl zi + 1)).2.2 + 1) := by unfold zCs; rw [if_neg (by omega), if_pos (by omega), if_pos (by omega), if_pos (by omega), y_Q, if_neg (show ¬ (0 : Int) = 1 by decide)]
              rw [y_C]
              exact ⟨rfl, fun y => absurd (show (0 : Int) = 1 from y) (by decide), fun _ => ⟨_, _, rfl⟩⟩
          · refine wp_run (k := 1) (pc1 := 55) (l1 := [(0, .ref 55), (1, .int (iN (zWw F zi (zWe F zl zi)))), (2, .int (iN ((zPd F zl N (zWe F zl zi + 1)).2.1))), (3, .int (iN ((zPd F zl N (zWe F zl zi + 1)).2.2 + 1)))]) (st1 := [.int (iN (0))]) (kr1 := (78, 76)) (h1 := zg5) rfl ?_
            refine wp_ret (rv := some (.int (iN (0)))) rfl ?_
            have y_Q : zNu F zl (zWw F zi (zWe F zl zi)) ((zPd F zl N (zWe F zl zi + 1)).2.2 + 1) = (0, 0, (zPd F zl N (zWe F zl zi + 1)).2.2 + 1) := if_neg (by omega)
            have y_C : zCs F zl N zi = (0, 0, 0, 0, (zPd F zl N (zWe F zl zi + 1)).2.2 + 1) := by unfold zCs; rw [if_neg (by omega), if_pos (by omega), if_pos (by omega), if_pos (by omega), y_Q, if_neg (show ¬ (0 : Int) = 1 by decide)]
            rw [y_C]
            exact ⟨rfl, fun y => absurd (show (0 : Int) = 1 from y) (by decide), fun _ => ⟨_, _, q_y5 (by omega)⟩⟩
        · refine wp_run (k := 1) (pc1 := 40) (l1 := [(0, .ref 55), (1, .int (iN (zWw F zi (zWe F zl zi)))), (2, .int (iN ((zPd F zl N (zWe F zl zi + 1)).2.1)))]) (st1 := [.int (iN (0))]) (kr1 := (78, 76)) (h1 := zg4) rfl ?_
          refine wp_ret (rv := some (.int (iN (0)))) rfl ?_
          have y_C : zCs F zl N zi = (0, 0, 0, 0, (zPd F zl N (zWe F zl zi + 1)).2.2) := by unfold zCs; rw [if_neg (by omega), if_pos (by omega), if_pos (by omega), if_neg (by omega)]
          rw [y_C]
          exact ⟨rfl, fun y => absurd (show (0 : Int) = 1 from y) (by decide), fun _ => ⟨_, _, q_y4 (by omega)⟩⟩
    · refine wp_run (k := 1) (pc1 := 19) (l1 := [(0, .ref 55), (1, .int (iN (zWw F zi (zWe F zl zi))))]) (st1 := [.int (iN (0))]) (kr1 := (78, 76)) (h1 := zg2) rfl ?_
      refine wp_ret (rv := some (.int (iN (0)))) rfl ?_
      have y_C : zCs F zl N zi = (0, 0, 0, 0, zWe F zl zi) := by unfold zCs; rw [if_neg (by omega), if_neg (by omega)]
      rw [y_C]
      exact ⟨rfl, fun y => absurd (show (0 : Int) = 1 from y) (by decide), fun _ => ⟨_, _, q_y2 (by omega)⟩⟩
